set_option maxHeartbeats 4000000 in
set_option maxRecDepth 100000 in
/-- reset(row) -/
theorem c_m_reset (l : Launch) (D : va_G) (cA : Nat → ClassId) (sa : Nat → Nat) (h0 : Nat) (f0 : Nat → Int32) (sz : Nat) : Met l yX10_reset wsX10_reset ({ frames := 0, cells := 0, slots := 0, locals := 0 }) (va_Pc [.ref h0] (Wd D cA sa [(h0, .inl (cA 0, 326, .inl f0))] sz)) (va_Qv (fun _ : Unit => True) (fun (_ : Unit) t => ∃ fn2 : Nat → Int32, Zs fn2 ∧ Wq D (va_A [(h0, .inl (cA 0, 326, .inl f0))] sz) [(h0, .inl (cA 0, 326, .inl fn2))] t) (va_A [(h0, .inl (cA 0, 326, .inl f0))] sz)) 0 0 (va_A [(h0, .inl (cA 0, 326, .inl f0))] sz) := by
  refine Met.ofW (cc := cX10_reset) (maxL := 2) (ret := none) (by decide) rfl ?_
  intro p e s m args below meth c s₁ B hml hv
  obtain ⟨rfl, hsz, hP, hK, hD0, hC, hZ⟩ := hv
  have hx := B.exec
  have hb := B.bytes
  have hr := B.returns
  have hts := atoms_spec (ws := wsX10_reset) B.pre
  have hown : s.vm.findClass RX10 = some m.cls := findClass_of_methodNamed B.named
  have hlocks := B.notSynchronized
  subst hsz
  have hD := hD0.self (sz := s.heap.size)
  generalize hAe : va_A [(h0, .inl (cA 0, 326, .inl f0))] s.heap.size = A at hD hZ ⊢
  have hA : ∀ q : Nat, s.heap.size ≤ q → A q := fun q h => by rw [← hAe]; exact Or.inr h
  have hS : va_S A s.heap s.heap [] := va_S.rf
  have hP : va_P D vwCl [(h0, .inl (cA 0, 326, .inl f0))] s.heap := hP
  have hl := lv_entry ([.ref h0]) (n := 2) (Nat.le_of_ble_eq_true rfl)
  rw [lg_entry_eq]
  generalize (lg_sl ([.ref h0]) ++ List.replicate (2 - (lg_sl ([.ref h0])).length) Slot.unset).toArray = ls at hl ⊢
  have hl : lv_has ls 2 [(0, .ref h0)] := hl
  refine lv_iconst (v := 0) hx hb dX10_reset_0 (by decide) ?_
  refine lv_istore_n (lv' := [(1, .int 0), (0, .ref h0)]) hx hb dX10_reset_1 rfl hl (by decide) rfl (fun ls hl => ?_)
  have loop : ∀ (n i : Nat) (f : Nat → Int32) (H : Heap) (locs : List Loc) (ls : Array Slot), i + n = 326 → Nul i f → va_P D vwCl [(h0, .inl (cA 0, 326, .inl f))] H → va_D A [(h0, .inl (cA 0, 326, .inl f))] → va_S A s.heap H locs → lv_has ls 2 [(1, .int (nI i)), (0, .ref h0)] → W p l e (headSpec wsX10_reset ({ frames := 0, cells := 0, slots := 0, locals := 0 } : Room)).room s m ([.ref h0] : List Value).toArray below meth c H locs 0 0 (MQ below (va_Qv (fun _ : Unit => True) (fun (_ : Unit) t => ∃ fn2 : Nat → Int32, Zs fn2 ∧ Wq D A [(h0, .inl (cA 0, 326, .inl fn2))] t) A) ([.ref h0] : List Value).toArray s 0 0 A) (F0 m 2 ls []) := by
    intro n
    induction n with
    | zero =>
      intro i f H locs ls hi hn hP hD hS hl
      obtain rfl : 326 = i := by omega
      refine lv_iload_n hx hb dX10_reset_2 rfl (lv_at hl 0 rfl) ?_
      refine lv_sipush (v := 326) hx hb dX10_reset_3 (by decide) ?_
      refine lv_icmp_ge (tgt := 19) hx hb dX10_reset_6 (by decide) (fun c1 => ?_) (fun c9 => absurd c9 (fun h3 => h3 (by decide)))
      refine lv_aload_n hx hb dX10_reset_19 rfl (lv_at hl 1 rfl) ?_
      refine lv_iconst (v := 1) hx hb dX10_reset_20 (by decide) ?_
      refine lv_sipush (v := 365) hx hb dX10_reset_21 (by decide) ?_
      refine va_iast hx hb hK hP hD hS 0 0 rfl rfl (vp_in_iff.mpr (by decide)) dX10_reset_24 (fun H locs hP hD hS => ?_)
      have hP : va_P D vwCl [(h0, .inl (cA 0, 326, .inl (upd f 1 365)))] H := hP
      have hD : va_D A [(h0, .inl (cA 0, 326, .inl (upd f 1 365)))] := hD
      have hn3 : Zs (upd f 1 365) := Nul.zs hn
      generalize (upd f 1 365) = fn2 at hP hD hn3
      have hP : va_P D vwCl [(h0, .inl (cA 0, 326, .inl fn2))] H := hP
      have hD : va_D A [(h0, .inl (cA 0, 326, .inl fn2))] := hD
      have hP9 := hP.sub (ws' := [(h0, .inl (cA 0, 326, .inl fn2))]) [0] rfl
      have hD9 := hD.sub (ws' := [(h0, .inl (cA 0, 326, .inl fn2))]) [0] (by decide) rfl
      refine W.widen (k := 0) (n := 0) (Nat.le_of_ble_eq_true rfl) (Nat.le_of_ble_eq_true rfl) ?_
      exact W.vret hx hb hr (fun t ht hW => ⟨⟨(), rfl, trivial, fn2, hn3, by rw [ht]; exact hP9, hD9⟩, hS.F ht⟩) hS.2.2 dX10_reset_25
    | succ n ih =>
      intro i f H locs ls hi hn hP hD hS hl
      refine lv_iload_n hx hb dX10_reset_2 rfl (lv_at hl 0 rfl) ?_
      refine lv_sipush (v := 326) hx hb dX10_reset_3 (by decide) ?_
      refine lv_icmp_ge (tgt := 19) hx hb dX10_reset_6 (by decide) (fun c9 => absurd c9 (nI_ge (b := 326) (show i < 326 by omega) (by decide))) (fun c4 => ?_)
      refine lv_aload_n hx hb dX10_reset_9 rfl (lv_at hl 1 rfl) ?_
      refine lv_iload_n hx hb dX10_reset_10 rfl (lv_at hl 0 rfl) ?_
      refine lv_iconst (v := 0) hx hb dX10_reset_11 (by decide) ?_
      refine va_iast hx hb hK hP hD hS 0 0 rfl rfl (vp_in_nI (show i < 326 by omega) (by decide)) dX10_reset_12 (fun H locs hP hD hS => ?_)
      have hP : va_P D vwCl [(h0, .inl (cA 0, 326, .inl (upd f (((nI i)).toNatClampNeg) 0)))] H := hP
      have hD : va_D A [(h0, .inl (cA 0, 326, .inl (upd f (((nI i)).toNatClampNeg) 0)))] := hD
      have hn6 : Nul (i + 1) (upd f (((nI i)).toNatClampNeg) 0) := Nul.step (by omega) hn
      generalize (upd f (((nI i)).toNatClampNeg) 0) = fn5 at hP hD hn6
      have hP : va_P D vwCl [(h0, .inl (cA 0, 326, .inl fn5))] H := hP
      have hD : va_D A [(h0, .inl (cA 0, 326, .inl fn5))] := hD
      refine lv_iinc (v := (nI (i + 1))) (lv' := [(1, .int (nI (i + 1))), (0, .ref h0)]) hx hb dX10_reset_13 hl (k := 0) rfl (nI_1 _) (by decide) rfl (fun ls hl => ?_)
      refine lv_goto (tgt := 2) hx hb dX10_reset_16 (by decide) ?_
      exact ih (i + 1) fn5 H _ ls (by omega) hn6 (hP.sub [0] rfl) (hD.sub [0] (by decide) rfl) hS (lv_sub hl [0, 1] rfl)
  exact loop 326 0 f0 _ _ ls (by omega) (fun j hj => absurd hj (Nat.not_lt_zero j)) (hP.sub [0] rfl) (hD.sub [0] (by decide) rfl) hS (lv_sub hl [0, 1] rfl)

set_option maxHeartbeats 4000000 in
set_option maxRecDepth 100000 in
/-- copy(from, to) -/
theorem c_m_copy (l : Launch) (D : va_G) (cA : Nat → ClassId) (sa : Nat → Nat) (h0 h1 : Nat) (f0 g0 : Nat → Int32) (sz : Nat) : Met l yX10_copy wsX10_copy ({ frames := 0, cells := 0, slots := 0, locals := 0 }) (va_Pc [.ref h0, .ref h1] (Wd D cA sa [(h0, .inl (cA 0, 326, .inl f0)), (h1, .inl (cA 0, 326, .inl g0))] sz)) (va_Qv (fun _ : Unit => True) (fun (_ : Unit) t => ∃ g : Nat → Int32, Wq D (va_A [(h0, .inl (cA 0, 326, .inl f0)), (h1, .inl (cA 0, 326, .inl g0))] sz) [(h0, .inl (cA 0, 326, .inl f0)), (h1, .inl (cA 0, 326, .inl g))] t) (va_A [(h0, .inl (cA 0, 326, .inl f0)), (h1, .inl (cA 0, 326, .inl g0))] sz)) 0 0 (va_A [(h0, .inl (cA 0, 326, .inl f0)), (h1, .inl (cA 0, 326, .inl g0))] sz) := by
  refine Met.ofW (cc := cX10_copy) (maxL := 3) (ret := none) (by decide) rfl ?_
  intro p e s m args below meth c s₁ B hml hv
  obtain ⟨rfl, hsz, hP, hK, hD0, hC, hZ⟩ := hv
  have hx := B.exec
  have hb := B.bytes
  have hr := B.returns
  have hts := atoms_spec (ws := wsX10_copy) B.pre
  have hown : s.vm.findClass RX10 = some m.cls := findClass_of_methodNamed B.named
  have hlocks := B.notSynchronized
  subst hsz
  have hD := hD0.self (sz := s.heap.size)
  generalize hAe : va_A [(h0, .inl (cA 0, 326, .inl f0)), (h1, .inl (cA 0, 326, .inl g0))] s.heap.size = A at hD hZ ⊢
  have hA : ∀ q : Nat, s.heap.size ≤ q → A q := fun q h => by rw [← hAe]; exact Or.inr h
  have hS : va_S A s.heap s.heap [] := va_S.rf
  have hP : va_P D vwCl [(h0, .inl (cA 0, 326, .inl f0)), (h1, .inl (cA 0, 326, .inl g0))] s.heap := hP
  have hl := lv_entry ([.ref h0, .ref h1]) (n := 3) (Nat.le_of_ble_eq_true rfl)
  rw [lg_entry_eq]
  generalize (lg_sl ([.ref h0, .ref h1]) ++ List.replicate (3 - (lg_sl ([.ref h0, .ref h1])).length) Slot.unset).toArray = ls at hl ⊢
  have hl : lv_has ls 3 [(0, .ref h0), (1, .ref h1)] := hl
  refine lv_iconst (v := 0) hx hb dX10_copy_0 (by decide) ?_
  refine lv_istore_n (lv' := [(2, .int 0), (0, .ref h0), (1, .ref h1)]) hx hb dX10_copy_1 rfl hl (by decide) rfl (fun ls hl => ?_)
  have loop : ∀ (n i : Nat) (g : Nat → Int32) (H : Heap) (locs : List Loc) (ls : Array Slot), i + n = 326 → va_P D vwCl [(h0, .inl (cA 0, 326, .inl f0)), (h1, .inl (cA 0, 326, .inl g))] H → va_D A [(h0, .inl (cA 0, 326, .inl f0)), (h1, .inl (cA 0, 326, .inl g))] → va_S A s.heap H locs → lv_has ls 3 [(2, .int (nI i)), (0, .ref h0), (1, .ref h1)] → W p l e (headSpec wsX10_copy ({ frames := 0, cells := 0, slots := 0, locals := 0 } : Room)).room s m ([.ref h0, .ref h1] : List Value).toArray below meth c H locs 0 0 (MQ below (va_Qv (fun _ : Unit => True) (fun (_ : Unit) t => ∃ g : Nat → Int32, Wq D A [(h0, .inl (cA 0, 326, .inl f0)), (h1, .inl (cA 0, 326, .inl g))] t) A) ([.ref h0, .ref h1] : List Value).toArray s 0 0 A) (F0 m 2 ls []) := by
    intro n
    induction n with
    | zero =>
      intro i g H locs ls hi hP hD hS hl
      obtain rfl : 326 = i := by omega
      refine lv_iload_n hx hb dX10_copy_2 rfl (lv_at hl 0 rfl) ?_
      refine lv_sipush (v := 326) hx hb dX10_copy_3 (by decide) ?_
      refine lv_icmp_ge (tgt := 21) hx hb dX10_copy_6 (by decide) (fun c1 => ?_) (fun c9 => absurd c9 (fun h3 => h3 (by decide)))
      have hP9 := hP.sub (ws' := [(h0, .inl (cA 0, 326, .inl f0)), (h1, .inl (cA 0, 326, .inl g))]) [0, 1] rfl
      have hD9 := hD.sub (ws' := [(h0, .inl (cA 0, 326, .inl f0)), (h1, .inl (cA 0, 326, .inl g))]) [0, 1] (by decide) rfl
      refine W.widen (k := 0) (n := 0) (Nat.le_of_ble_eq_true rfl) (Nat.le_of_ble_eq_true rfl) ?_
      exact W.vret hx hb hr (fun t ht hW => ⟨⟨(), rfl, trivial, g, by rw [ht]; exact hP9, hD9⟩, hS.F ht⟩) hS.2.2 dX10_copy_21
    | succ n ih =>
      intro i g H locs ls hi hP hD hS hl
      refine lv_iload_n hx hb dX10_copy_2 rfl (lv_at hl 0 rfl) ?_
      refine lv_sipush (v := 326) hx hb dX10_copy_3 (by decide) ?_
      refine lv_icmp_ge (tgt := 21) hx hb dX10_copy_6 (by decide) (fun c9 => absurd c9 (nI_ge (b := 326) (show i < 326 by omega) (by decide))) (fun c2 => ?_)
      refine lv_aload_n hx hb dX10_copy_9 rfl (lv_at hl 2 rfl) ?_
      refine lv_iload_n hx hb dX10_copy_10 rfl (lv_at hl 0 rfl) ?_
      refine lv_aload_n hx hb dX10_copy_11 rfl (lv_at hl 1 rfl) ?_
      refine lv_iload_n hx hb dX10_copy_12 rfl (lv_at hl 0 rfl) ?_
      refine va_iald hx hb hK hP 0 0 rfl rfl (vp_in_nI (show i < 326 by omega) (by decide)) dX10_copy_13 ?_
      refine lv_topi (fun yn3 eyn3 => ?_)
      refine va_iast hx hb hK hP hD hS 1 0 rfl rfl (vp_in_nI (show i < 326 by omega) (by decide)) dX10_copy_14 (fun H locs hP hD hS => ?_)
      have hP : va_P D vwCl [(h0, .inl (cA 0, 326, .inl f0)), (h1, .inl (cA 0, 326, .inl (upd g (((nI i)).toNatClampNeg) yn3)))] H := hP
      have hD : va_D A [(h0, .inl (cA 0, 326, .inl f0)), (h1, .inl (cA 0, 326, .inl (upd g (((nI i)).toNatClampNeg) yn3)))] := hD
      generalize (upd g (((nI i)).toNatClampNeg) yn3) = fn4 at hP hD
      have hP : va_P D vwCl [(h0, .inl (cA 0, 326, .inl f0)), (h1, .inl (cA 0, 326, .inl fn4))] H := hP
      have hD : va_D A [(h0, .inl (cA 0, 326, .inl f0)), (h1, .inl (cA 0, 326, .inl fn4))] := hD
      refine lv_iinc (v := (nI (i + 1))) (lv' := [(2, .int (nI (i + 1))), (0, .ref h0), (1, .ref h1)]) hx hb dX10_copy_15 hl (k := 0) rfl (nI_1 _) (by decide) rfl (fun ls hl => ?_)
      refine lv_goto (tgt := 2) hx hb dX10_copy_18 (by decide) ?_
      exact ih (i + 1) fn4 H _ ls (by omega) (hP.sub [0, 1] rfl) (hD.sub [0, 1] (by decide) rfl) hS (lv_sub hl [0, 1, 2] rfl)
  exact loop 326 0 g0 _ _ ls (by omega) (hP.sub [0, 1] rfl) (hD.sub [0, 1] (by decide) rfl) hS (lv_sub hl [0, 1, 2] rfl)

set_option maxHeartbeats 4000000 in
set_option maxRecDepth 100000 in
/-- enter: nothing for 0 -/
theorem c_m_enter0 (l : Launch) (D : va_G) (cA : Nat → ClassId) (sa : Nat → Nat) (h0 : Nat) (k j : Int32) (f0 : Nat → Int32) (sz : Nat) : Met l yX10_enter wsX10_enter ({ frames := 0, cells := 0, slots := 0, locals := 0 }) (va_Pc [.ref h0, .int k, .int 0, .int j] (Wd D cA sa [(h0, .inl (cA 0, 326, .inl f0))] sz)) (va_Qv (fun _ : Unit => True) (fun (_ : Unit) t => Wq D (va_A [(h0, .inl (cA 0, 326, .inl f0))] sz) [(h0, .inl (cA 0, 326, .inl f0))] t) (va_A [(h0, .inl (cA 0, 326, .inl f0))] sz)) 0 0 (va_A [(h0, .inl (cA 0, 326, .inl f0))] sz) := by
  refine Met.ofW (cc := cX10_enter) (maxL := 5) (ret := none) (by decide) rfl ?_
  intro p e s m args below meth c s₁ B hml hv
  obtain ⟨rfl, hsz, hP, hK, hD0, hC, hZ⟩ := hv
  have hx := B.exec
  have hb := B.bytes
  have hr := B.returns
  have hts := atoms_spec (ws := wsX10_enter) B.pre
  have hown : s.vm.findClass RX10 = some m.cls := findClass_of_methodNamed B.named
  have hlocks := B.notSynchronized
  subst hsz
  have hD := hD0.self (sz := s.heap.size)
  generalize hAe : va_A [(h0, .inl (cA 0, 326, .inl f0))] s.heap.size = A at hD hZ ⊢
  have hA : ∀ q : Nat, s.heap.size ≤ q → A q := fun q h => by rw [← hAe]; exact Or.inr h
  have hS : va_S A s.heap s.heap [] := va_S.rf
  have hP : va_P D vwCl [(h0, .inl (cA 0, 326, .inl f0))] s.heap := hP
  have hl := lv_entry ([.ref h0, .int k, .int 0, .int j]) (n := 5) (Nat.le_of_ble_eq_true rfl)
  rw [lg_entry_eq]
  generalize (lg_sl ([.ref h0, .int k, .int 0, .int j]) ++ List.replicate (5 - (lg_sl ([.ref h0, .int k, .int 0, .int j])).length) Slot.unset).toArray = ls at hl ⊢
  have hl : lv_has ls 5 [(0, .ref h0), (1, .int k), (2, .int 0), (3, .int j)] := hl
  refine lv_iload_n hx hb dX10_enter_0 rfl (lv_at hl 2 rfl) ?_
  refine lv_if_ne (tgt := 5) hx hb dX10_enter_1 (by decide) (fun c9 => absurd c9 (by decide)) (fun c1 => ?_)
  have hP9 := hP.sub (ws' := [(h0, .inl (cA 0, 326, .inl f0))]) [0] rfl
  have hD9 := hD.sub (ws' := [(h0, .inl (cA 0, 326, .inl f0))]) [0] (by decide) rfl
  refine W.widen (k := 0) (n := 0) (Nat.le_of_ble_eq_true rfl) (Nat.le_of_ble_eq_true rfl) ?_
  exact W.vret hx hb hr (fun t ht hW => ⟨⟨(), rfl, trivial, by rw [ht]; exact hP9, hD9⟩, hS.F ht⟩) hS.2.2 dX10_enter_4

set_option maxHeartbeats 4000000 in
set_option maxRecDepth 100000 in
/-- enter: the first entry -/
theorem c_m_enter1 (l : Launch) (D : va_G) (cA : Nat → ClassId) (sa : Nat → Nat) (h0 : Nat) (k a j x : Int32) (f0 : Nat → Int32) (sz : Nat) (ha : ¬ a = 0) (hq : Zq x f0) : Met l yX10_enter wsX10_enter ({ frames := 0, cells := 0, slots := 0, locals := 0 }) (va_Pc [.ref h0, .int k, .int a, .int j] (Wd D cA sa [(h0, .inl (cA 0, 326, .inl f0))] sz)) (va_Qv (fun _ : Unit => True) (fun (_ : Unit) t => ∃ fn21 : Nat → Int32, Six x fn21 ∧ Wq D (va_A [(h0, .inl (cA 0, 326, .inl f0))] sz) [(h0, .inl (cA 0, 326, .inl fn21))] t) (va_A [(h0, .inl (cA 0, 326, .inl f0))] sz)) 0 0 (va_A [(h0, .inl (cA 0, 326, .inl f0))] sz) := by
  refine Met.ofW (cc := cX10_enter) (maxL := 5) (ret := none) (by decide) rfl ?_
  intro p e s m args below meth c s₁ B hml hv
  obtain ⟨rfl, hsz, hP, hK, hD0, hC, hZ⟩ := hv
  have hx := B.exec
  have hb := B.bytes
  have hr := B.returns
  have hts := atoms_spec (ws := wsX10_enter) B.pre
  have hown : s.vm.findClass RX10 = some m.cls := findClass_of_methodNamed B.named
  have hlocks := B.notSynchronized
  subst hsz
  have hD := hD0.self (sz := s.heap.size)
  generalize hAe : va_A [(h0, .inl (cA 0, 326, .inl f0))] s.heap.size = A at hD hZ ⊢
  have hA : ∀ q : Nat, s.heap.size ≤ q → A q := fun q h => by rw [← hAe]; exact Or.inr h
  have hS : va_S A s.heap s.heap [] := va_S.rf
  have hP : va_P D vwCl [(h0, .inl (cA 0, 326, .inl f0))] s.heap := hP
  have hl := lv_entry ([.ref h0, .int k, .int a, .int j]) (n := 5) (Nat.le_of_ble_eq_true rfl)
  rw [lg_entry_eq]
  generalize (lg_sl ([.ref h0, .int k, .int a, .int j]) ++ List.replicate (5 - (lg_sl ([.ref h0, .int k, .int a, .int j])).length) Slot.unset).toArray = ls at hl ⊢
  have hl : lv_has ls 5 [(0, .ref h0), (1, .int k), (2, .int a), (3, .int j)] := hl
  refine lv_iload_n hx hb dX10_enter_0 rfl (lv_at hl 2 rfl) ?_
  refine lv_if_ne (tgt := 5) hx hb dX10_enter_1 (by decide) (fun c1 => ?_) (fun c9 => absurd c9 (fun h3 => ha h3))
  refine lv_aload_n hx hb dX10_enter_5 rfl (lv_at hl 0 rfl) ?_
  refine lv_bipush (v := 15) hx hb dX10_enter_6 (by decide) ?_
  refine va_iald hx hb hK hP 0 0 rfl rfl (vp_in_iff.mpr (by decide)) dX10_enter_8 ?_
  refine lv_topi (fun yn2 eyn2 => ?_)
  obtain rfl : yn2 = 0 := eyn2.trans hq.1
  refine lv_bipush (v := 60) hx hb dX10_enter_9 (by decide) ?_
  refine lv_icmp_ne (tgt := 50) hx hb dX10_enter_11 (by decide) (fun c3 => ?_) (fun c9 => absurd c9 (by decide))
  refine lv_bipush (v := 86) hx hb dX10_enter_50 (by decide) ?_
  refine lv_iconst (v := 4) hx hb dX10_enter_52 (by decide) ?_
  refine lv_aload_n hx hb dX10_enter_53 rfl (lv_at hl 0 rfl) ?_
  refine lv_bipush (v := 15) hx hb dX10_enter_54 (by decide) ?_
  refine va_iald hx hb hK hP 0 0 rfl rfl (vp_in_iff.mpr (by decide)) dX10_enter_56 ?_
  refine lv_topi (fun yn4 eyn4 => ?_)
  obtain rfl : yn4 = 0 := eyn4.trans hq.1
  refine lv_imul hx hb dX10_enter_57 ?_
  refine lv_topi (fun yn5 eyn5 => ?_)
  obtain rfl : yn5 = 0 := eyn5.trans (by first | rfl | decide +kernel)
  refine lv_iadd hx hb dX10_enter_58 ?_
  refine lv_topi (fun yn6 eyn6 => ?_)
  obtain rfl : yn6 = 86 := eyn6.trans (by first | rfl | decide +kernel)
  refine lv_istore (lv' := [(4, .int 86), (0, .ref h0), (1, .int k), (2, .int a), (3, .int j)]) hx hb dX10_enter_59 hl (by decide) rfl (fun ls hl => ?_)
  refine lv_aload_n hx hb dX10_enter_61 rfl (lv_at hl 1 rfl) ?_
  refine lv_iload hx hb dX10_enter_62 (lv_at hl 0 rfl) ?_
  refine lv_iload_n hx hb dX10_enter_64 rfl (lv_at hl 2 rfl) ?_
  refine va_iast hx hb hK hP hD hS 0 0 rfl rfl (vp_in_iff.mpr (by decide)) dX10_enter_65 (fun H locs hP hD hS => ?_)
  have hP : va_P D vwCl [(h0, .inl (cA 0, 326, .inl (upd f0 86 k)))] H := hP
  have hD : va_D A [(h0, .inl (cA 0, 326, .inl (upd f0 86 k)))] := hD
  have hn8 : Zq x (upd f0 86 k) := Zq.put hq 86 k (by decide) (by decide)
  generalize (upd f0 86 k) = fn7 at hP hD hn8
  have hP : va_P D vwCl [(h0, .inl (cA 0, 326, .inl fn7))] H := hP
  have hD : va_D A [(h0, .inl (cA 0, 326, .inl fn7))] := hD
  refine lv_aload_n hx hb dX10_enter_66 rfl (lv_at hl 1 rfl) ?_
  refine lv_iload hx hb dX10_enter_67 (lv_at hl 0 rfl) ?_
  refine lv_iconst (v := 1) hx hb dX10_enter_69 (by decide) ?_
  refine lv_iadd hx hb dX10_enter_70 ?_
  refine lv_topi (fun yn9 eyn9 => ?_)
  obtain rfl : yn9 = 87 := eyn9.trans (by first | rfl | decide +kernel)
  refine lv_aload_n hx hb dX10_enter_71 rfl (lv_at hl 1 rfl) ?_
  refine lv_iconst (v := 4) hx hb dX10_enter_72 (by decide) ?_
  refine va_iald hx hb hK hP 0 0 rfl rfl (vp_in_iff.mpr (by decide)) dX10_enter_73 ?_
  refine lv_topi (fun yn10 eyn10 => ?_)
  refine va_iast hx hb hK hP hD hS 0 0 rfl rfl (vp_in_iff.mpr (by decide)) dX10_enter_74 (fun H locs hP hD hS => ?_)
  have hP : va_P D vwCl [(h0, .inl (cA 0, 326, .inl (upd fn7 87 yn10)))] H := hP
  have hD : va_D A [(h0, .inl (cA 0, 326, .inl (upd fn7 87 yn10)))] := hD
  have hn12 : Zq x (upd fn7 87 yn10) := Zq.put hn8 87 yn10 (by decide) (by decide)
  generalize (upd fn7 87 yn10) = fn11 at hP hD hn12
  have hP : va_P D vwCl [(h0, .inl (cA 0, 326, .inl fn11))] H := hP
  have hD : va_D A [(h0, .inl (cA 0, 326, .inl fn11))] := hD
  refine lv_aload_n hx hb dX10_enter_75 rfl (lv_at hl 1 rfl) ?_
  refine lv_iload hx hb dX10_enter_76 (lv_at hl 0 rfl) ?_
  refine lv_iconst (v := 2) hx hb dX10_enter_78 (by decide) ?_
  refine lv_iadd hx hb dX10_enter_79 ?_
  refine lv_topi (fun yn13 eyn13 => ?_)
  obtain rfl : yn13 = 88 := eyn13.trans (by first | rfl | decide +kernel)
  refine lv_iload_n hx hb dX10_enter_80 rfl (lv_at hl 3 rfl) ?_
  refine va_iast hx hb hK hP hD hS 0 0 rfl rfl (vp_in_iff.mpr (by decide)) dX10_enter_81 (fun H locs hP hD hS => ?_)
  have hP : va_P D vwCl [(h0, .inl (cA 0, 326, .inl (upd fn11 88 a)))] H := hP
  have hD : va_D A [(h0, .inl (cA 0, 326, .inl (upd fn11 88 a)))] := hD
  have hn15 : Zq x (upd fn11 88 a) := Zq.put hn12 88 a (by decide) (by decide)
  generalize (upd fn11 88 a) = fn14 at hP hD hn15
  have hP : va_P D vwCl [(h0, .inl (cA 0, 326, .inl fn14))] H := hP
  have hD : va_D A [(h0, .inl (cA 0, 326, .inl fn14))] := hD
  refine lv_aload_n hx hb dX10_enter_82 rfl (lv_at hl 1 rfl) ?_
  refine lv_iload hx hb dX10_enter_83 (lv_at hl 0 rfl) ?_
  refine lv_iconst (v := 3) hx hb dX10_enter_85 (by decide) ?_
  refine lv_iadd hx hb dX10_enter_86 ?_
  refine lv_topi (fun yn16 eyn16 => ?_)
  obtain rfl : yn16 = 89 := eyn16.trans (by first | rfl | decide +kernel)
  refine lv_iload_n hx hb dX10_enter_87 rfl (lv_at hl 4 rfl) ?_
  refine va_iast hx hb hK hP hD hS 0 0 rfl rfl (vp_in_iff.mpr (by decide)) dX10_enter_88 (fun H locs hP hD hS => ?_)
  have hP : va_P D vwCl [(h0, .inl (cA 0, 326, .inl (upd fn14 89 j)))] H := hP
  have hD : va_D A [(h0, .inl (cA 0, 326, .inl (upd fn14 89 j)))] := hD
  have hn18 : Zq x (upd fn14 89 j) := Zq.put hn15 89 j (by decide) (by decide)
  generalize (upd fn14 89 j) = fn17 at hP hD hn18
  have hP : va_P D vwCl [(h0, .inl (cA 0, 326, .inl fn17))] H := hP
  have hD : va_D A [(h0, .inl (cA 0, 326, .inl fn17))] := hD
  refine lv_aload_n hx hb dX10_enter_89 rfl (lv_at hl 1 rfl) ?_
  refine lv_bipush (v := 15) hx hb dX10_enter_90 (by decide) ?_
  refine lv_dup2_11 hx hb dX10_enter_92 rfl rfl ?_
  refine va_iald hx hb hK hP 0 0 rfl rfl (vp_in_iff.mpr (by decide)) dX10_enter_93 ?_
  refine lv_topi (fun yn19 eyn19 => ?_)
  obtain rfl : yn19 = 0 := eyn19.trans hn18.1
  refine lv_iconst (v := 1) hx hb dX10_enter_94 (by decide) ?_
  refine lv_iadd hx hb dX10_enter_95 ?_
  refine lv_topi (fun yn20 eyn20 => ?_)
  obtain rfl : yn20 = 1 := eyn20.trans (by first | rfl | decide +kernel)
  refine va_iast hx hb hK hP hD hS 0 0 rfl rfl (vp_in_iff.mpr (by decide)) dX10_enter_96 (fun H locs hP hD hS => ?_)
  have hP : va_P D vwCl [(h0, .inl (cA 0, 326, .inl (upd fn17 15 1)))] H := hP
  have hD : va_D A [(h0, .inl (cA 0, 326, .inl (upd fn17 15 1)))] := hD
  have hn22 : Six x (upd fn17 15 1) := Zq.last hn18 1
  generalize (upd fn17 15 1) = fn21 at hP hD hn22
  have hP : va_P D vwCl [(h0, .inl (cA 0, 326, .inl fn21))] H := hP
  have hD : va_D A [(h0, .inl (cA 0, 326, .inl fn21))] := hD
  have hP9 := hP.sub (ws' := [(h0, .inl (cA 0, 326, .inl fn21))]) [0] rfl
  have hD9 := hD.sub (ws' := [(h0, .inl (cA 0, 326, .inl fn21))]) [0] (by decide) rfl
  refine W.widen (k := 0) (n := 0) (Nat.le_of_ble_eq_true rfl) (Nat.le_of_ble_eq_true rfl) ?_
  exact W.vret hx hb hr (fun t ht hW => ⟨⟨(), rfl, trivial, fn21, hn22, by rw [ht]; exact hP9, hD9⟩, hS.F ht⟩) hS.2.2 dX10_enter_97

set_option maxHeartbeats 4000000 in
set_option maxRecDepth 100000 in
/-- remember: the first edit -/
theorem c_m_remember (l : Launch) (D : va_G) (cA : Nat → ClassId) (sa : Nat → Nat) (w0 v0 v1 v2 v3 v4 v9 v13 v27 v28 v29 v30 v31 v32 v33 v34 v35 v36 v37 : Nat) (th : Int32) (fs fh : Nat → Int32) (fq : Nat → Int64) (sz : Nat) : Met l yX10_remember wsX10_remember ({ frames := 0, cells := 0, slots := 0, locals := 0 }) (va_Pc [.ref w0] (Wd D cA sa [(w0, .inr (11, [.ref v0, .ref v1, .ref v2, .ref v3, .ref v4, .long 0, .long 0, .int 0, .int th, .ref v9, .int 0, .int 0, .int (-1), .ref v13, .int 0, .int 0, .int 0, .int 0, .int 0, .int 0, .int 0, .int 0, .int 0, .int 0, .int 0, .long 0, .int 0, .ref v27, .ref v28, .ref v29, .ref v30, .ref v31, .ref v32, .ref v33, .ref v34, .ref v35, .ref v36, .ref v37, .int 0])), (v0, .inl (cA 0, 326, .inl fs)), (v3, .inl (cA 0, 3260, .inl fh)), (v4, .inl (cA 1, 10, .inr (.inl fq)))] sz)) (va_Qv (fun _ : Unit => True) (fun (_ : Unit) t => Wq D (va_A [(w0, .inr (11, [.ref v0, .ref v1, .ref v2, .ref v3, .ref v4, .long 0, .long 0, .int 0, .int th, .ref v9, .int 0, .int 0, .int (-1), .ref v13, .int 0, .int 0, .int 0, .int 0, .int 0, .int 0, .int 0, .int 0, .int 0, .int 0, .int 0, .long 0, .int 0, .ref v27, .ref v28, .ref v29, .ref v30, .ref v31, .ref v32, .ref v33, .ref v34, .ref v35, .ref v36, .ref v37, .int 0])), (v0, .inl (cA 0, 326, .inl fs)), (v3, .inl (cA 0, 3260, .inl fh)), (v4, .inl (cA 1, 10, .inr (.inl fq)))] sz) [(w0, .inr (11, [.ref v0, .ref v1, .ref v2, .ref v3, .ref v4, .long 0, .long 0, .int 1, .int th, .ref v9, .int 0, .int 0, .int (-1), .ref v13, .int 0, .int 0, .int 0, .int 0, .int 0, .int 0, .int 0, .int 0, .int 0, .int 0, .int 0, .long 0, .int 0, .ref v27, .ref v28, .ref v29, .ref v30, .ref v31, .ref v32, .ref v33, .ref v34, .ref v35, .ref v36, .ref v37, .int 0])), (v0, .inl (cA 0, 326, .inl fs))] t) (va_A [(w0, .inr (11, [.ref v0, .ref v1, .ref v2, .ref v3, .ref v4, .long 0, .long 0, .int 0, .int th, .ref v9, .int 0, .int 0, .int (-1), .ref v13, .int 0, .int 0, .int 0, .int 0, .int 0, .int 0, .int 0, .int 0, .int 0, .int 0, .int 0, .long 0, .int 0, .ref v27, .ref v28, .ref v29, .ref v30, .ref v31, .ref v32, .ref v33, .ref v34, .ref v35, .ref v36, .ref v37, .int 0])), (v0, .inl (cA 0, 326, .inl fs)), (v3, .inl (cA 0, 3260, .inl fh)), (v4, .inl (cA 1, 10, .inr (.inl fq)))] sz)) 0 0 (va_A [(w0, .inr (11, [.ref v0, .ref v1, .ref v2, .ref v3, .ref v4, .long 0, .long 0, .int 0, .int th, .ref v9, .int 0, .int 0, .int (-1), .ref v13, .int 0, .int 0, .int 0, .int 0, .int 0, .int 0, .int 0, .int 0, .int 0, .int 0, .int 0, .long 0, .int 0, .ref v27, .ref v28, .ref v29, .ref v30, .ref v31, .ref v32, .ref v33, .ref v34, .ref v35, .ref v36, .ref v37, .int 0])), (v0, .inl (cA 0, 326, .inl fs)), (v3, .inl (cA 0, 3260, .inl fh)), (v4, .inl (cA 1, 10, .inr (.inl fq)))] sz) := by
  refine Met.ofW (cc := cX10_remember) (maxL := 2) (ret := none) (by decide) rfl ?_
  intro p e s m args below meth c s₁ B hml hv
  obtain ⟨rfl, hsz, hP, hK, hD0, hC, hZ⟩ := hv
  have hx := B.exec
  have hb := B.bytes
  have hr := B.returns
  have hts := atoms_spec (ws := wsX10_remember) B.pre
  have hown : s.vm.findClass RX10 = some m.cls := findClass_of_methodNamed B.named
  have hlocks := B.notSynchronized
  subst hsz
  have hD := hD0.self (sz := s.heap.size)
  generalize hAe : va_A [(w0, .inr (11, [.ref v0, .ref v1, .ref v2, .ref v3, .ref v4, .long 0, .long 0, .int 0, .int th, .ref v9, .int 0, .int 0, .int (-1), .ref v13, .int 0, .int 0, .int 0, .int 0, .int 0, .int 0, .int 0, .int 0, .int 0, .int 0, .int 0, .long 0, .int 0, .ref v27, .ref v28, .ref v29, .ref v30, .ref v31, .ref v32, .ref v33, .ref v34, .ref v35, .ref v36, .ref v37, .int 0])), (v0, .inl (cA 0, 326, .inl fs)), (v3, .inl (cA 0, 3260, .inl fh)), (v4, .inl (cA 1, 10, .inr (.inl fq)))] s.heap.size = A at hD hZ ⊢
  have hA : ∀ q : Nat, s.heap.size ≤ q → A q := fun q h => by rw [← hAe]; exact Or.inr h
  have hS : va_S A s.heap s.heap [] := va_S.rf
  have hP : va_P D vwCl [(w0, .inr (11, [.ref v0, .ref v1, .ref v2, .ref v3, .ref v4, .long 0, .long 0, .int 0, .int th, .ref v9, .int 0, .int 0, .int (-1), .ref v13, .int 0, .int 0, .int 0, .int 0, .int 0, .int 0, .int 0, .int 0, .int 0, .int 0, .int 0, .long 0, .int 0, .ref v27, .ref v28, .ref v29, .ref v30, .ref v31, .ref v32, .ref v33, .ref v34, .ref v35, .ref v36, .ref v37, .int 0])), (v0, .inl (cA 0, 326, .inl fs)), (v3, .inl (cA 0, 3260, .inl fh)), (v4, .inl (cA 1, 10, .inr (.inl fq)))] s.heap := hP
  have hl := lv_entry ([.ref w0]) (n := 2) (Nat.le_of_ble_eq_true rfl)
  rw [lg_entry_eq]
  generalize (lg_sl ([.ref w0]) ++ List.replicate (2 - (lg_sl ([.ref w0])).length) Slot.unset).toArray = ls at hl ⊢
  have hl : lv_has ls 2 [(0, .ref w0)] := hl
  have inX10 : ∀ w ∈ u_ws RX10 TX10 39, w ∈ wsX10_remember := by decide +kernel
  refine lv_aload_n hx hb dX10_remember_0 rfl (lv_at hl 0 rfl) ?_
  refine va_get (D := D) (ci := 11) (v := .int 0) (C := RX10) (T := TX10) (N := 39) hx hb hts inX10 hown hK hP 0 rfl rfl 7 (by decide) (hts (.fieldLink RX10 83 "EscrowDeskModel" "edits" "I") (by decide +kernel)) (fun _ h9 => h9) rfl dX10_remember_1 ?_
  refine lv_bipush (v := 10) hx hb dX10_remember_4 (by decide) ?_
  refine lv_icmp_ne (tgt := 80) hx hb dX10_remember_6 (by decide) (fun c1 => ?_) (fun c9 => absurd c9 (by decide))
  refine lv_iconst (v := 0) hx hb dX10_remember_80 (by decide) ?_
  refine lv_istore_n (lv' := [(1, .int 0), (0, .ref w0)]) hx hb dX10_remember_81 rfl hl (by decide) rfl (fun ls hl => ?_)
  have loop : ∀ (n i : Nat) (g : Nat → Int32) (H : Heap) (locs : List Loc) (ls : Array Slot), i + n = 326 → va_P D vwCl [(w0, .inr (11, [.ref v0, .ref v1, .ref v2, .ref v3, .ref v4, .long 0, .long 0, .int 0, .int th, .ref v9, .int 0, .int 0, .int (-1), .ref v13, .int 0, .int 0, .int 0, .int 0, .int 0, .int 0, .int 0, .int 0, .int 0, .int 0, .int 0, .long 0, .int 0, .ref v27, .ref v28, .ref v29, .ref v30, .ref v31, .ref v32, .ref v33, .ref v34, .ref v35, .ref v36, .ref v37, .int 0])), (v0, .inl (cA 0, 326, .inl fs)), (v3, .inl (cA 0, 3260, .inl g)), (v4, .inl (cA 1, 10, .inr (.inl fq)))] H → va_D A [(w0, .inr (11, [.ref v0, .ref v1, .ref v2, .ref v3, .ref v4, .long 0, .long 0, .int 0, .int th, .ref v9, .int 0, .int 0, .int (-1), .ref v13, .int 0, .int 0, .int 0, .int 0, .int 0, .int 0, .int 0, .int 0, .int 0, .int 0, .int 0, .long 0, .int 0, .ref v27, .ref v28, .ref v29, .ref v30, .ref v31, .ref v32, .ref v33, .ref v34, .ref v35, .ref v36, .ref v37, .int 0])), (v0, .inl (cA 0, 326, .inl fs)), (v3, .inl (cA 0, 3260, .inl g)), (v4, .inl (cA 1, 10, .inr (.inl fq)))] → va_S A s.heap H locs → lv_has ls 2 [(1, .int (nI i)), (0, .ref w0)] → W p l e (headSpec wsX10_remember ({ frames := 0, cells := 0, slots := 0, locals := 0 } : Room)).room s m ([.ref w0] : List Value).toArray below meth c H locs 0 0 (MQ below (va_Qv (fun _ : Unit => True) (fun (_ : Unit) t => Wq D A [(w0, .inr (11, [.ref v0, .ref v1, .ref v2, .ref v3, .ref v4, .long 0, .long 0, .int 1, .int th, .ref v9, .int 0, .int 0, .int (-1), .ref v13, .int 0, .int 0, .int 0, .int 0, .int 0, .int 0, .int 0, .int 0, .int 0, .int 0, .int 0, .long 0, .int 0, .ref v27, .ref v28, .ref v29, .ref v30, .ref v31, .ref v32, .ref v33, .ref v34, .ref v35, .ref v36, .ref v37, .int 0])), (v0, .inl (cA 0, 326, .inl fs))] t) A) ([.ref w0] : List Value).toArray s 0 0 A) (F0 m 82 ls []) := by
    intro n
    induction n with
    | zero =>
      intro i g H locs ls hi hP hD hS hl
      obtain rfl : 326 = i := by omega
      refine lv_iload_n hx hb dX10_remember_82 rfl (lv_at hl 0 rfl) ?_
      refine lv_sipush (v := 326) hx hb dX10_remember_83 (by decide) ?_
      refine lv_icmp_ge (tgt := 116) hx hb dX10_remember_86 (by decide) (fun c2 => ?_) (fun c9 => absurd c9 (fun h3 => h3 (by decide)))
      refine lv_aload_n hx hb dX10_remember_116 rfl (lv_at hl 1 rfl) ?_
      refine va_get (D := D) (ci := 11) (v := .ref v4) (C := RX10) (T := TX10) (N := 39) hx hb hts inX10 hown hK hP 0 rfl rfl 4 (by decide) (hts (.fieldLink RX10 22 "EscrowDeskModel" "historyParts" "[J") (by decide +kernel)) (fun _ h9 => h9) rfl dX10_remember_117 ?_
      refine lv_aload_n hx hb dX10_remember_120 rfl (lv_at hl 1 rfl) ?_
      refine va_get (D := D) (ci := 11) (v := .int 0) (C := RX10) (T := TX10) (N := 39) hx hb hts inX10 hown hK hP 0 rfl rfl 7 (by decide) (hts (.fieldLink RX10 83 "EscrowDeskModel" "edits" "I") (by decide +kernel)) (fun _ h9 => h9) rfl dX10_remember_121 ?_
      refine lv_aload_n hx hb dX10_remember_124 rfl (lv_at hl 1 rfl) ?_
      refine va_get (D := D) (ci := 11) (v := .long 0) (C := RX10) (T := TX10) (N := 39) hx hb hts inX10 hown hK hP 0 rfl rfl 5 (by decide) (hts (.fieldLink RX10 86 "EscrowDeskModel" "parts" "J") (by decide +kernel)) (fun _ h9 => h9) rfl dX10_remember_125 ?_
      refine va_last hx hb hK hP hD hS 3 1 rfl rfl (vp_in_iff.mpr (by decide)) dX10_remember_128 (fun H locs hP hD hS => ?_)
      have hP : va_P D vwCl [(w0, .inr (11, [.ref v0, .ref v1, .ref v2, .ref v3, .ref v4, .long 0, .long 0, .int 0, .int th, .ref v9, .int 0, .int 0, .int (-1), .ref v13, .int 0, .int 0, .int 0, .int 0, .int 0, .int 0, .int 0, .int 0, .int 0, .int 0, .int 0, .long 0, .int 0, .ref v27, .ref v28, .ref v29, .ref v30, .ref v31, .ref v32, .ref v33, .ref v34, .ref v35, .ref v36, .ref v37, .int 0])), (v0, .inl (cA 0, 326, .inl fs)), (v3, .inl (cA 0, 3260, .inl g)), (v4, .inl (cA 1, 10, .inr (.inl (vp_updL fq 0 0))))] H := hP
      have hD : va_D A [(w0, .inr (11, [.ref v0, .ref v1, .ref v2, .ref v3, .ref v4, .long 0, .long 0, .int 0, .int th, .ref v9, .int 0, .int 0, .int (-1), .ref v13, .int 0, .int 0, .int 0, .int 0, .int 0, .int 0, .int 0, .int 0, .int 0, .int 0, .int 0, .long 0, .int 0, .ref v27, .ref v28, .ref v29, .ref v30, .ref v31, .ref v32, .ref v33, .ref v34, .ref v35, .ref v36, .ref v37, .int 0])), (v0, .inl (cA 0, 326, .inl fs)), (v3, .inl (cA 0, 3260, .inl g)), (v4, .inl (cA 1, 10, .inr (.inl (vp_updL fq 0 0))))] := hD
      generalize (vp_updL fq 0 0) = fn3 at hP hD
      have hP : va_P D vwCl [(w0, .inr (11, [.ref v0, .ref v1, .ref v2, .ref v3, .ref v4, .long 0, .long 0, .int 0, .int th, .ref v9, .int 0, .int 0, .int (-1), .ref v13, .int 0, .int 0, .int 0, .int 0, .int 0, .int 0, .int 0, .int 0, .int 0, .int 0, .int 0, .long 0, .int 0, .ref v27, .ref v28, .ref v29, .ref v30, .ref v31, .ref v32, .ref v33, .ref v34, .ref v35, .ref v36, .ref v37, .int 0])), (v0, .inl (cA 0, 326, .inl fs)), (v3, .inl (cA 0, 3260, .inl g)), (v4, .inl (cA 1, 10, .inr (.inl fn3)))] H := hP
      have hD : va_D A [(w0, .inr (11, [.ref v0, .ref v1, .ref v2, .ref v3, .ref v4, .long 0, .long 0, .int 0, .int th, .ref v9, .int 0, .int 0, .int (-1), .ref v13, .int 0, .int 0, .int 0, .int 0, .int 0, .int 0, .int 0, .int 0, .int 0, .int 0, .int 0, .long 0, .int 0, .ref v27, .ref v28, .ref v29, .ref v30, .ref v31, .ref v32, .ref v33, .ref v34, .ref v35, .ref v36, .ref v37, .int 0])), (v0, .inl (cA 0, 326, .inl fs)), (v3, .inl (cA 0, 3260, .inl g)), (v4, .inl (cA 1, 10, .inr (.inl fn3)))] := hD
      refine lv_aload_n hx hb dX10_remember_129 rfl (lv_at hl 1 rfl) ?_
      refine lv_dup hx hb dX10_remember_130 rfl ?_
      refine va_get (D := D) (ci := 11) (v := .int 0) (C := RX10) (T := TX10) (N := 39) hx hb hts inX10 hown hK hP 0 rfl rfl 7 (by decide) (hts (.fieldLink RX10 83 "EscrowDeskModel" "edits" "I") (by decide +kernel)) (fun _ h9 => h9) rfl dX10_remember_131 ?_
      refine lv_iconst (v := 1) hx hb dX10_remember_134 (by decide) ?_
      refine lv_iadd hx hb dX10_remember_135 ?_
      refine lv_topi (fun yn4 eyn4 => ?_)
      obtain rfl : yn4 = 1 := eyn4.trans (by first | rfl | decide +kernel)
      refine va_put (D := D) (ci := 11) (v := .int 1) (ty := .int) (C := RX10) (T := TX10) (N := 39) hx hb hts inX10 tyX10 tyX10_ok nmX10 hown hK hP hD hS 0 rfl rfl 7 (by decide) (hts (.fieldLink RX10 83 "EscrowDeskModel" "edits" "I") (by decide +kernel)) (fun _ h9 => h9) rfl (by decide +kernel) rfl rfl (Nat.le_of_ble_eq_true rfl) dX10_remember_136 (fun H locs hP hD hS => ?_)
      have hP : va_P D vwCl [(w0, .inr (11, [.ref v0, .ref v1, .ref v2, .ref v3, .ref v4, .long 0, .long 0, .int 1, .int th, .ref v9, .int 0, .int 0, .int (-1), .ref v13, .int 0, .int 0, .int 0, .int 0, .int 0, .int 0, .int 0, .int 0, .int 0, .int 0, .int 0, .long 0, .int 0, .ref v27, .ref v28, .ref v29, .ref v30, .ref v31, .ref v32, .ref v33, .ref v34, .ref v35, .ref v36, .ref v37, .int 0])), (v0, .inl (cA 0, 326, .inl fs)), (v3, .inl (cA 0, 3260, .inl g)), (v4, .inl (cA 1, 10, .inr (.inl fn3)))] H := hP
      have hD : va_D A [(w0, .inr (11, [.ref v0, .ref v1, .ref v2, .ref v3, .ref v4, .long 0, .long 0, .int 1, .int th, .ref v9, .int 0, .int 0, .int (-1), .ref v13, .int 0, .int 0, .int 0, .int 0, .int 0, .int 0, .int 0, .int 0, .int 0, .int 0, .int 0, .long 0, .int 0, .ref v27, .ref v28, .ref v29, .ref v30, .ref v31, .ref v32, .ref v33, .ref v34, .ref v35, .ref v36, .ref v37, .int 0])), (v0, .inl (cA 0, 326, .inl fs)), (v3, .inl (cA 0, 3260, .inl g)), (v4, .inl (cA 1, 10, .inr (.inl fn3)))] := hD
      have hP9 := hP.sub (ws' := [(w0, .inr (11, [.ref v0, .ref v1, .ref v2, .ref v3, .ref v4, .long 0, .long 0, .int 1, .int th, .ref v9, .int 0, .int 0, .int (-1), .ref v13, .int 0, .int 0, .int 0, .int 0, .int 0, .int 0, .int 0, .int 0, .int 0, .int 0, .int 0, .long 0, .int 0, .ref v27, .ref v28, .ref v29, .ref v30, .ref v31, .ref v32, .ref v33, .ref v34, .ref v35, .ref v36, .ref v37, .int 0])), (v0, .inl (cA 0, 326, .inl fs))]) [0, 1] rfl
      have hD9 := hD.sub (ws' := [(w0, .inr (11, [.ref v0, .ref v1, .ref v2, .ref v3, .ref v4, .long 0, .long 0, .int 1, .int th, .ref v9, .int 0, .int 0, .int (-1), .ref v13, .int 0, .int 0, .int 0, .int 0, .int 0, .int 0, .int 0, .int 0, .int 0, .int 0, .int 0, .long 0, .int 0, .ref v27, .ref v28, .ref v29, .ref v30, .ref v31, .ref v32, .ref v33, .ref v34, .ref v35, .ref v36, .ref v37, .int 0])), (v0, .inl (cA 0, 326, .inl fs))]) [0, 1] (by decide) rfl
      refine W.widen (k := 0) (n := 0) (Nat.le_of_ble_eq_true rfl) (Nat.le_of_ble_eq_true rfl) ?_
      exact W.vret hx hb hr (fun t ht hW => ⟨⟨(), rfl, trivial, by rw [ht]; exact hP9, hD9⟩, hS.F ht⟩) hS.2.2 dX10_remember_139
    | succ n ih =>
      intro i g H locs ls hi hP hD hS hl
      refine lv_iload_n hx hb dX10_remember_82 rfl (lv_at hl 0 rfl) ?_
      refine lv_sipush (v := 326) hx hb dX10_remember_83 (by decide) ?_
      refine lv_icmp_ge (tgt := 116) hx hb dX10_remember_86 (by decide) (fun c9 => absurd c9 (nI_ge (b := 326) (show i < 326 by omega) (by decide))) (fun c5 => ?_)
      refine lv_aload_n hx hb dX10_remember_89 rfl (lv_at hl 1 rfl) ?_
      refine va_get (D := D) (ci := 11) (v := .ref v3) (C := RX10) (T := TX10) (N := 39) hx hb hts inX10 hown hK hP 0 rfl rfl 3 (by decide) (hts (.fieldLink RX10 19 "EscrowDeskModel" "history" "[I") (by decide +kernel)) (fun _ h9 => h9) rfl dX10_remember_90 ?_
      refine lv_sipush (v := 326) hx hb dX10_remember_93 (by decide) ?_
      refine lv_aload_n hx hb dX10_remember_96 rfl (lv_at hl 1 rfl) ?_
      refine va_get (D := D) (ci := 11) (v := .int 0) (C := RX10) (T := TX10) (N := 39) hx hb hts inX10 hown hK hP 0 rfl rfl 7 (by decide) (hts (.fieldLink RX10 83 "EscrowDeskModel" "edits" "I") (by decide +kernel)) (fun _ h9 => h9) rfl dX10_remember_97 ?_
      refine lv_imul hx hb dX10_remember_100 ?_
      refine lv_topi (fun yn6 eyn6 => ?_)
      obtain rfl : yn6 = 0 := eyn6.trans (by first | rfl | decide +kernel)
      refine lv_iload_n hx hb dX10_remember_101 rfl (lv_at hl 0 rfl) ?_
      refine lv_iadd hx hb dX10_remember_102 ?_
      refine lv_aload_n hx hb dX10_remember_103 rfl (lv_at hl 1 rfl) ?_
      refine va_get (D := D) (ci := 11) (v := .ref v0) (C := RX10) (T := TX10) (N := 39) hx hb hts inX10 hown hK hP 0 rfl rfl 0 (by decide) (hts (.fieldLink RX10 7 "EscrowDeskModel" "s" "[I") (by decide +kernel)) (fun _ h9 => h9) rfl dX10_remember_104 ?_
      refine lv_iload_n hx hb dX10_remember_107 rfl (lv_at hl 0 rfl) ?_
      refine va_iald hx hb hK hP 1 0 rfl rfl (vp_in_nI (show i < 326 by omega) (by decide)) dX10_remember_108 ?_
      refine lv_topi (fun yn8 eyn8 => ?_)
      refine va_iast hx hb hK hP hD hS 2 0 rfl rfl (in_0 (show i < 3260 by omega) (by decide)) dX10_remember_109 (fun H locs hP hD hS => ?_)
      have hP : va_P D vwCl [(w0, .inr (11, [.ref v0, .ref v1, .ref v2, .ref v3, .ref v4, .long 0, .long 0, .int 0, .int th, .ref v9, .int 0, .int 0, .int (-1), .ref v13, .int 0, .int 0, .int 0, .int 0, .int 0, .int 0, .int 0, .int 0, .int 0, .int 0, .int 0, .long 0, .int 0, .ref v27, .ref v28, .ref v29, .ref v30, .ref v31, .ref v32, .ref v33, .ref v34, .ref v35, .ref v36, .ref v37, .int 0])), (v0, .inl (cA 0, 326, .inl fs)), (v3, .inl (cA 0, 3260, .inl (upd g (((0 + (nI i))).toNatClampNeg) yn8))), (v4, .inl (cA 1, 10, .inr (.inl fq)))] H := hP
      have hD : va_D A [(w0, .inr (11, [.ref v0, .ref v1, .ref v2, .ref v3, .ref v4, .long 0, .long 0, .int 0, .int th, .ref v9, .int 0, .int 0, .int (-1), .ref v13, .int 0, .int 0, .int 0, .int 0, .int 0, .int 0, .int 0, .int 0, .int 0, .int 0, .int 0, .long 0, .int 0, .ref v27, .ref v28, .ref v29, .ref v30, .ref v31, .ref v32, .ref v33, .ref v34, .ref v35, .ref v36, .ref v37, .int 0])), (v0, .inl (cA 0, 326, .inl fs)), (v3, .inl (cA 0, 3260, .inl (upd g (((0 + (nI i))).toNatClampNeg) yn8))), (v4, .inl (cA 1, 10, .inr (.inl fq)))] := hD
      generalize (upd g (((0 + (nI i))).toNatClampNeg) yn8) = fn9 at hP hD
      have hP : va_P D vwCl [(w0, .inr (11, [.ref v0, .ref v1, .ref v2, .ref v3, .ref v4, .long 0, .long 0, .int 0, .int th, .ref v9, .int 0, .int 0, .int (-1), .ref v13, .int 0, .int 0, .int 0, .int 0, .int 0, .int 0, .int 0, .int 0, .int 0, .int 0, .int 0, .long 0, .int 0, .ref v27, .ref v28, .ref v29, .ref v30, .ref v31, .ref v32, .ref v33, .ref v34, .ref v35, .ref v36, .ref v37, .int 0])), (v0, .inl (cA 0, 326, .inl fs)), (v3, .inl (cA 0, 3260, .inl fn9)), (v4, .inl (cA 1, 10, .inr (.inl fq)))] H := hP
      have hD : va_D A [(w0, .inr (11, [.ref v0, .ref v1, .ref v2, .ref v3, .ref v4, .long 0, .long 0, .int 0, .int th, .ref v9, .int 0, .int 0, .int (-1), .ref v13, .int 0, .int 0, .int 0, .int 0, .int 0, .int 0, .int 0, .int 0, .int 0, .int 0, .int 0, .long 0, .int 0, .ref v27, .ref v28, .ref v29, .ref v30, .ref v31, .ref v32, .ref v33, .ref v34, .ref v35, .ref v36, .ref v37, .int 0])), (v0, .inl (cA 0, 326, .inl fs)), (v3, .inl (cA 0, 3260, .inl fn9)), (v4, .inl (cA 1, 10, .inr (.inl fq)))] := hD
      refine lv_iinc (v := (nI (i + 1))) (lv' := [(1, .int (nI (i + 1))), (0, .ref w0)]) hx hb dX10_remember_110 hl (k := 0) rfl (nI_1 _) (by decide) rfl (fun ls hl => ?_)
      refine lv_goto (tgt := 82) hx hb dX10_remember_113 (by decide) ?_
      exact ih (i + 1) fn9 H _ ls (by omega) (hP.sub [0, 1, 2, 3] rfl) (hD.sub [0, 1, 2, 3] (by decide) rfl) hS (lv_sub hl [0, 1] rfl)
  exact loop 326 0 fh _ _ ls (by omega) (hP.sub [0, 1, 2, 3] rfl) (hD.sub [0, 1, 2, 3] (by decide) rfl) hS (lv_sub hl [0, 1] rfl)

set_option maxHeartbeats 4000000 in
set_option maxRecDepth 100000 in
/-- append at 0 -/
theorem c_m_append_0 (l : Launch) (D : va_G) (cA : Nat → ClassId) (sa : Nat → Nat) (w0 v0 v1 v2 v3 v4 v9 v13 v27 v28 v29 v30 v31 v32 v33 v34 v35 v36 v37 : Nat) (th w : Int32) (fb : Nat → Int32) (sz : Nat) : Met l yX10_append wsX10_append ({ frames := 0, cells := 0, slots := 0, locals := 0 }) (va_Pc [.ref w0, .int w] (Wd D cA sa [(w0, .inr (11, [.ref v0, .ref v1, .ref v2, .ref v3, .ref v4, .long 0, .long 0, .int 0, .int th, .ref v9, .int 0, .int 0, .int (-1), .ref v13, .int 0, .int 0, .int 0, .int 0, .int 0, .int 0, .int 0, .int 0, .int 0, .int 0, .int 0, .long 0, .int 0, .ref v27, .ref v28, .ref v29, .ref v30, .ref v31, .ref v32, .ref v33, .ref v34, .ref v35, .ref v36, .ref v37, .int 0])), (v9, .inl (cA 0, 700, .inl fb))] sz)) (va_Qv (fun _ : Unit => True) (fun (_ : Unit) t => ∃ fn19 : Nat → Int32, Wq D (va_A [(w0, .inr (11, [.ref v0, .ref v1, .ref v2, .ref v3, .ref v4, .long 0, .long 0, .int 0, .int th, .ref v9, .int 0, .int 0, .int (-1), .ref v13, .int 0, .int 0, .int 0, .int 0, .int 0, .int 0, .int 0, .int 0, .int 0, .int 0, .int 0, .long 0, .int 0, .ref v27, .ref v28, .ref v29, .ref v30, .ref v31, .ref v32, .ref v33, .ref v34, .ref v35, .ref v36, .ref v37, .int 0])), (v9, .inl (cA 0, 700, .inl fb))] sz) [(w0, .inr (11, [.ref v0, .ref v1, .ref v2, .ref v3, .ref v4, .long 0, .long 0, .int 0, .int th, .ref v9, .int 4, .int 0, .int (-1), .ref v13, .int 0, .int 0, .int 0, .int 0, .int 0, .int 0, .int 0, .int 0, .int 0, .int 0, .int 0, .long 0, .int 0, .ref v27, .ref v28, .ref v29, .ref v30, .ref v31, .ref v32, .ref v33, .ref v34, .ref v35, .ref v36, .ref v37, .int 0])), (v9, .inl (cA 0, 700, .inl fn19))] t) (va_A [(w0, .inr (11, [.ref v0, .ref v1, .ref v2, .ref v3, .ref v4, .long 0, .long 0, .int 0, .int th, .ref v9, .int 0, .int 0, .int (-1), .ref v13, .int 0, .int 0, .int 0, .int 0, .int 0, .int 0, .int 0, .int 0, .int 0, .int 0, .int 0, .long 0, .int 0, .ref v27, .ref v28, .ref v29, .ref v30, .ref v31, .ref v32, .ref v33, .ref v34, .ref v35, .ref v36, .ref v37, .int 0])), (v9, .inl (cA 0, 700, .inl fb))] sz)) 0 0 (va_A [(w0, .inr (11, [.ref v0, .ref v1, .ref v2, .ref v3, .ref v4, .long 0, .long 0, .int 0, .int th, .ref v9, .int 0, .int 0, .int (-1), .ref v13, .int 0, .int 0, .int 0, .int 0, .int 0, .int 0, .int 0, .int 0, .int 0, .int 0, .int 0, .long 0, .int 0, .ref v27, .ref v28, .ref v29, .ref v30, .ref v31, .ref v32, .ref v33, .ref v34, .ref v35, .ref v36, .ref v37, .int 0])), (v9, .inl (cA 0, 700, .inl fb))] sz) := by
  refine Met.ofW (cc := cX10_append) (maxL := 3) (ret := none) (by decide) rfl ?_
  intro p e s m args below meth c s₁ B hml hv
  obtain ⟨rfl, hsz, hP, hK, hD0, hC, hZ⟩ := hv
  have hx := B.exec
  have hb := B.bytes
  have hr := B.returns
  have hts := atoms_spec (ws := wsX10_append) B.pre
  have hown : s.vm.findClass RX10 = some m.cls := findClass_of_methodNamed B.named
  have hlocks := B.notSynchronized
  subst hsz
  have hD := hD0.self (sz := s.heap.size)
  generalize hAe : va_A [(w0, .inr (11, [.ref v0, .ref v1, .ref v2, .ref v3, .ref v4, .long 0, .long 0, .int 0, .int th, .ref v9, .int 0, .int 0, .int (-1), .ref v13, .int 0, .int 0, .int 0, .int 0, .int 0, .int 0, .int 0, .int 0, .int 0, .int 0, .int 0, .long 0, .int 0, .ref v27, .ref v28, .ref v29, .ref v30, .ref v31, .ref v32, .ref v33, .ref v34, .ref v35, .ref v36, .ref v37, .int 0])), (v9, .inl (cA 0, 700, .inl fb))] s.heap.size = A at hD hZ ⊢
  have hA : ∀ q : Nat, s.heap.size ≤ q → A q := fun q h => by rw [← hAe]; exact Or.inr h
  have hS : va_S A s.heap s.heap [] := va_S.rf
  have hP : va_P D vwCl [(w0, .inr (11, [.ref v0, .ref v1, .ref v2, .ref v3, .ref v4, .long 0, .long 0, .int 0, .int th, .ref v9, .int 0, .int 0, .int (-1), .ref v13, .int 0, .int 0, .int 0, .int 0, .int 0, .int 0, .int 0, .int 0, .int 0, .int 0, .int 0, .long 0, .int 0, .ref v27, .ref v28, .ref v29, .ref v30, .ref v31, .ref v32, .ref v33, .ref v34, .ref v35, .ref v36, .ref v37, .int 0])), (v9, .inl (cA 0, 700, .inl fb))] s.heap := hP
  have hl := lv_entry ([.ref w0, .int w]) (n := 3) (Nat.le_of_ble_eq_true rfl)
  rw [lg_entry_eq]
  generalize (lg_sl ([.ref w0, .int w]) ++ List.replicate (3 - (lg_sl ([.ref w0, .int w])).length) Slot.unset).toArray = ls at hl ⊢
  have hl : lv_has ls 3 [(0, .ref w0), (1, .int w)] := hl
  have inX10 : ∀ w ∈ u_ws RX10 TX10 39, w ∈ wsX10_append := by decide +kernel
  refine lv_bipush (v := 24) hx hb dX10_append_0 (by decide) ?_
  refine lv_istore_n (lv' := [(2, .int 24), (0, .ref w0), (1, .int w)]) hx hb dX10_append_2 rfl hl (by decide) rfl (fun ls hl => ?_)
  refine lv_iload_n hx hb dX10_append_3 rfl (lv_at hl 0 rfl) ?_
  refine lv_if_lt (tgt := 39) hx hb dX10_append_4 (by decide) (fun c9 => absurd c9 (by decide)) (fun c1 => ?_)
  refine lv_aload_n hx hb dX10_append_7 rfl (lv_at hl 1 rfl) ?_
  refine va_get (D := D) (ci := 11) (v := .ref v9) (C := RX10) (T := TX10) (N := 39) hx hb hts inX10 hown hK hP 0 rfl rfl 9 (by decide) (hts (.fieldLink RX10 26 "EscrowDeskModel" "buffer" "[I") (by decide +kernel)) (fun _ h9 => h9) rfl dX10_append_8 ?_
  refine lv_aload_n hx hb dX10_append_11 rfl (lv_at hl 1 rfl) ?_
  refine va_get (D := D) (ci := 11) (v := .int 0) (C := RX10) (T := TX10) (N := 39) hx hb hts inX10 hown hK hP 0 rfl rfl 10 (by decide) (hts (.fieldLink RX10 90 "EscrowDeskModel" "buffered" "I") (by decide +kernel)) (fun _ h9 => h9) rfl dX10_append_12 ?_
  refine lv_iload_n hx hb dX10_append_15 rfl (lv_at hl 2 rfl) ?_
  refine lv_iload_n hx hb dX10_append_16 rfl (lv_at hl 0 rfl) ?_
  refine lv_iushr hx hb dX10_append_17 rfl ?_
  refine lv_topi (fun yn2 _ => ?_)
  refine lv_sipush (v := 255) hx hb dX10_append_18 (by decide) ?_
  refine lv_iand hx hb dX10_append_21 ?_
  refine va_iast hx hb hK hP hD hS 1 0 rfl rfl (vp_in_iff.mpr (by decide)) dX10_append_22 (fun H locs hP hD hS => ?_)
  have hP : va_P D vwCl [(w0, .inr (11, [.ref v0, .ref v1, .ref v2, .ref v3, .ref v4, .long 0, .long 0, .int 0, .int th, .ref v9, .int 0, .int 0, .int (-1), .ref v13, .int 0, .int 0, .int 0, .int 0, .int 0, .int 0, .int 0, .int 0, .int 0, .int 0, .int 0, .long 0, .int 0, .ref v27, .ref v28, .ref v29, .ref v30, .ref v31, .ref v32, .ref v33, .ref v34, .ref v35, .ref v36, .ref v37, .int 0])), (v9, .inl (cA 0, 700, .inl (upd fb 0 (yn2 &&& 255))))] H := hP
  have hD : va_D A [(w0, .inr (11, [.ref v0, .ref v1, .ref v2, .ref v3, .ref v4, .long 0, .long 0, .int 0, .int th, .ref v9, .int 0, .int 0, .int (-1), .ref v13, .int 0, .int 0, .int 0, .int 0, .int 0, .int 0, .int 0, .int 0, .int 0, .int 0, .int 0, .long 0, .int 0, .ref v27, .ref v28, .ref v29, .ref v30, .ref v31, .ref v32, .ref v33, .ref v34, .ref v35, .ref v36, .ref v37, .int 0])), (v9, .inl (cA 0, 700, .inl (upd fb 0 (yn2 &&& 255))))] := hD
  generalize (upd fb 0 (yn2 &&& 255)) = fn4 at hP hD
  have hP : va_P D vwCl [(w0, .inr (11, [.ref v0, .ref v1, .ref v2, .ref v3, .ref v4, .long 0, .long 0, .int 0, .int th, .ref v9, .int 0, .int 0, .int (-1), .ref v13, .int 0, .int 0, .int 0, .int 0, .int 0, .int 0, .int 0, .int 0, .int 0, .int 0, .int 0, .long 0, .int 0, .ref v27, .ref v28, .ref v29, .ref v30, .ref v31, .ref v32, .ref v33, .ref v34, .ref v35, .ref v36, .ref v37, .int 0])), (v9, .inl (cA 0, 700, .inl fn4))] H := hP
  have hD : va_D A [(w0, .inr (11, [.ref v0, .ref v1, .ref v2, .ref v3, .ref v4, .long 0, .long 0, .int 0, .int th, .ref v9, .int 0, .int 0, .int (-1), .ref v13, .int 0, .int 0, .int 0, .int 0, .int 0, .int 0, .int 0, .int 0, .int 0, .int 0, .int 0, .long 0, .int 0, .ref v27, .ref v28, .ref v29, .ref v30, .ref v31, .ref v32, .ref v33, .ref v34, .ref v35, .ref v36, .ref v37, .int 0])), (v9, .inl (cA 0, 700, .inl fn4))] := hD
  refine lv_aload_n hx hb dX10_append_23 rfl (lv_at hl 1 rfl) ?_
  refine lv_dup hx hb dX10_append_24 rfl ?_
  refine va_get (D := D) (ci := 11) (v := .int 0) (C := RX10) (T := TX10) (N := 39) hx hb hts inX10 hown hK hP 0 rfl rfl 10 (by decide) (hts (.fieldLink RX10 90 "EscrowDeskModel" "buffered" "I") (by decide +kernel)) (fun _ h9 => h9) rfl dX10_append_25 ?_
  refine lv_iconst (v := 1) hx hb dX10_append_28 (by decide) ?_
  refine lv_iadd hx hb dX10_append_29 ?_
  refine lv_topi (fun yn5 eyn5 => ?_)
  obtain rfl : yn5 = 1 := eyn5.trans (by first | rfl | decide +kernel)
  refine va_put (D := D) (ci := 11) (v := .int 1) (ty := .int) (C := RX10) (T := TX10) (N := 39) hx hb hts inX10 tyX10 tyX10_ok nmX10 hown hK hP hD hS 0 rfl rfl 10 (by decide) (hts (.fieldLink RX10 90 "EscrowDeskModel" "buffered" "I") (by decide +kernel)) (fun _ h9 => h9) rfl (by decide +kernel) rfl rfl (Nat.le_of_ble_eq_true rfl) dX10_append_30 (fun H locs hP hD hS => ?_)
  have hP : va_P D vwCl [(w0, .inr (11, [.ref v0, .ref v1, .ref v2, .ref v3, .ref v4, .long 0, .long 0, .int 0, .int th, .ref v9, .int 1, .int 0, .int (-1), .ref v13, .int 0, .int 0, .int 0, .int 0, .int 0, .int 0, .int 0, .int 0, .int 0, .int 0, .int 0, .long 0, .int 0, .ref v27, .ref v28, .ref v29, .ref v30, .ref v31, .ref v32, .ref v33, .ref v34, .ref v35, .ref v36, .ref v37, .int 0])), (v9, .inl (cA 0, 700, .inl fn4))] H := hP
  have hD : va_D A [(w0, .inr (11, [.ref v0, .ref v1, .ref v2, .ref v3, .ref v4, .long 0, .long 0, .int 0, .int th, .ref v9, .int 1, .int 0, .int (-1), .ref v13, .int 0, .int 0, .int 0, .int 0, .int 0, .int 0, .int 0, .int 0, .int 0, .int 0, .int 0, .long 0, .int 0, .ref v27, .ref v28, .ref v29, .ref v30, .ref v31, .ref v32, .ref v33, .ref v34, .ref v35, .ref v36, .ref v37, .int 0])), (v9, .inl (cA 0, 700, .inl fn4))] := hD
  refine lv_iinc (v := 16) (lv' := [(2, .int 16), (0, .ref w0), (1, .int w)]) hx hb dX10_append_33 hl (k := 0) rfl (by first | rfl | decide +kernel) (by decide) rfl (fun ls hl => ?_)
  refine lv_goto (tgt := 3) hx hb dX10_append_36 (by decide) ?_
  refine lv_iload_n hx hb dX10_append_3 rfl (lv_at hl 0 rfl) ?_
  refine lv_if_lt (tgt := 39) hx hb dX10_append_4 (by decide) (fun c9 => absurd c9 (by decide)) (fun c6 => ?_)
  refine lv_aload_n hx hb dX10_append_7 rfl (lv_at hl 1 rfl) ?_
  refine va_get (D := D) (ci := 11) (v := .ref v9) (C := RX10) (T := TX10) (N := 39) hx hb hts inX10 hown hK hP 0 rfl rfl 9 (by decide) (hts (.fieldLink RX10 26 "EscrowDeskModel" "buffer" "[I") (by decide +kernel)) (fun _ h9 => h9) rfl dX10_append_8 ?_
  refine lv_aload_n hx hb dX10_append_11 rfl (lv_at hl 1 rfl) ?_
  refine va_get (D := D) (ci := 11) (v := .int 1) (C := RX10) (T := TX10) (N := 39) hx hb hts inX10 hown hK hP 0 rfl rfl 10 (by decide) (hts (.fieldLink RX10 90 "EscrowDeskModel" "buffered" "I") (by decide +kernel)) (fun _ h9 => h9) rfl dX10_append_12 ?_
  refine lv_iload_n hx hb dX10_append_15 rfl (lv_at hl 2 rfl) ?_
  refine lv_iload_n hx hb dX10_append_16 rfl (lv_at hl 0 rfl) ?_
  refine lv_iushr hx hb dX10_append_17 rfl ?_
  refine lv_topi (fun yn7 _ => ?_)
  refine lv_sipush (v := 255) hx hb dX10_append_18 (by decide) ?_
  refine lv_iand hx hb dX10_append_21 ?_
  refine va_iast hx hb hK hP hD hS 1 0 rfl rfl (vp_in_iff.mpr (by decide)) dX10_append_22 (fun H locs hP hD hS => ?_)
  have hP : va_P D vwCl [(w0, .inr (11, [.ref v0, .ref v1, .ref v2, .ref v3, .ref v4, .long 0, .long 0, .int 0, .int th, .ref v9, .int 1, .int 0, .int (-1), .ref v13, .int 0, .int 0, .int 0, .int 0, .int 0, .int 0, .int 0, .int 0, .int 0, .int 0, .int 0, .long 0, .int 0, .ref v27, .ref v28, .ref v29, .ref v30, .ref v31, .ref v32, .ref v33, .ref v34, .ref v35, .ref v36, .ref v37, .int 0])), (v9, .inl (cA 0, 700, .inl (upd fn4 1 (yn7 &&& 255))))] H := hP
  have hD : va_D A [(w0, .inr (11, [.ref v0, .ref v1, .ref v2, .ref v3, .ref v4, .long 0, .long 0, .int 0, .int th, .ref v9, .int 1, .int 0, .int (-1), .ref v13, .int 0, .int 0, .int 0, .int 0, .int 0, .int 0, .int 0, .int 0, .int 0, .int 0, .int 0, .long 0, .int 0, .ref v27, .ref v28, .ref v29, .ref v30, .ref v31, .ref v32, .ref v33, .ref v34, .ref v35, .ref v36, .ref v37, .int 0])), (v9, .inl (cA 0, 700, .inl (upd fn4 1 (yn7 &&& 255))))] := hD
  generalize (upd fn4 1 (yn7 &&& 255)) = fn9 at hP hD
  have hP : va_P D vwCl [(w0, .inr (11, [.ref v0, .ref v1, .ref v2, .ref v3, .ref v4, .long 0, .long 0, .int 0, .int th, .ref v9, .int 1, .int 0, .int (-1), .ref v13, .int 0, .int 0, .int 0, .int 0, .int 0, .int 0, .int 0, .int 0, .int 0, .int 0, .int 0, .long 0, .int 0, .ref v27, .ref v28, .ref v29, .ref v30, .ref v31, .ref v32, .ref v33, .ref v34, .ref v35, .ref v36, .ref v37, .int 0])), (v9, .inl (cA 0, 700, .inl fn9))] H := hP
  have hD : va_D A [(w0, .inr (11, [.ref v0, .ref v1, .ref v2, .ref v3, .ref v4, .long 0, .long 0, .int 0, .int th, .ref v9, .int 1, .int 0, .int (-1), .ref v13, .int 0, .int 0, .int 0, .int 0, .int 0, .int 0, .int 0, .int 0, .int 0, .int 0, .int 0, .long 0, .int 0, .ref v27, .ref v28, .ref v29, .ref v30, .ref v31, .ref v32, .ref v33, .ref v34, .ref v35, .ref v36, .ref v37, .int 0])), (v9, .inl (cA 0, 700, .inl fn9))] := hD
  refine lv_aload_n hx hb dX10_append_23 rfl (lv_at hl 1 rfl) ?_
  refine lv_dup hx hb dX10_append_24 rfl ?_
  refine va_get (D := D) (ci := 11) (v := .int 1) (C := RX10) (T := TX10) (N := 39) hx hb hts inX10 hown hK hP 0 rfl rfl 10 (by decide) (hts (.fieldLink RX10 90 "EscrowDeskModel" "buffered" "I") (by decide +kernel)) (fun _ h9 => h9) rfl dX10_append_25 ?_
  refine lv_iconst (v := 1) hx hb dX10_append_28 (by decide) ?_
  refine lv_iadd hx hb dX10_append_29 ?_
  refine lv_topi (fun yn10 eyn10 => ?_)
  obtain rfl : yn10 = 2 := eyn10.trans (by first | rfl | decide +kernel)
  refine va_put (D := D) (ci := 11) (v := .int 2) (ty := .int) (C := RX10) (T := TX10) (N := 39) hx hb hts inX10 tyX10 tyX10_ok nmX10 hown hK hP hD hS 0 rfl rfl 10 (by decide) (hts (.fieldLink RX10 90 "EscrowDeskModel" "buffered" "I") (by decide +kernel)) (fun _ h9 => h9) rfl (by decide +kernel) rfl rfl (Nat.le_of_ble_eq_true rfl) dX10_append_30 (fun H locs hP hD hS => ?_)
  have hP : va_P D vwCl [(w0, .inr (11, [.ref v0, .ref v1, .ref v2, .ref v3, .ref v4, .long 0, .long 0, .int 0, .int th, .ref v9, .int 2, .int 0, .int (-1), .ref v13, .int 0, .int 0, .int 0, .int 0, .int 0, .int 0, .int 0, .int 0, .int 0, .int 0, .int 0, .long 0, .int 0, .ref v27, .ref v28, .ref v29, .ref v30, .ref v31, .ref v32, .ref v33, .ref v34, .ref v35, .ref v36, .ref v37, .int 0])), (v9, .inl (cA 0, 700, .inl fn9))] H := hP
  have hD : va_D A [(w0, .inr (11, [.ref v0, .ref v1, .ref v2, .ref v3, .ref v4, .long 0, .long 0, .int 0, .int th, .ref v9, .int 2, .int 0, .int (-1), .ref v13, .int 0, .int 0, .int 0, .int 0, .int 0, .int 0, .int 0, .int 0, .int 0, .int 0, .int 0, .long 0, .int 0, .ref v27, .ref v28, .ref v29, .ref v30, .ref v31, .ref v32, .ref v33, .ref v34, .ref v35, .ref v36, .ref v37, .int 0])), (v9, .inl (cA 0, 700, .inl fn9))] := hD
  refine lv_iinc (v := 8) (lv' := [(2, .int 8), (0, .ref w0), (1, .int w)]) hx hb dX10_append_33 hl (k := 0) rfl (by first | rfl | decide +kernel) (by decide) rfl (fun ls hl => ?_)
  refine lv_goto (tgt := 3) hx hb dX10_append_36 (by decide) ?_
  refine lv_iload_n hx hb dX10_append_3 rfl (lv_at hl 0 rfl) ?_
  refine lv_if_lt (tgt := 39) hx hb dX10_append_4 (by decide) (fun c9 => absurd c9 (by decide)) (fun c11 => ?_)
  refine lv_aload_n hx hb dX10_append_7 rfl (lv_at hl 1 rfl) ?_
  refine va_get (D := D) (ci := 11) (v := .ref v9) (C := RX10) (T := TX10) (N := 39) hx hb hts inX10 hown hK hP 0 rfl rfl 9 (by decide) (hts (.fieldLink RX10 26 "EscrowDeskModel" "buffer" "[I") (by decide +kernel)) (fun _ h9 => h9) rfl dX10_append_8 ?_
  refine lv_aload_n hx hb dX10_append_11 rfl (lv_at hl 1 rfl) ?_
  refine va_get (D := D) (ci := 11) (v := .int 2) (C := RX10) (T := TX10) (N := 39) hx hb hts inX10 hown hK hP 0 rfl rfl 10 (by decide) (hts (.fieldLink RX10 90 "EscrowDeskModel" "buffered" "I") (by decide +kernel)) (fun _ h9 => h9) rfl dX10_append_12 ?_
  refine lv_iload_n hx hb dX10_append_15 rfl (lv_at hl 2 rfl) ?_
  refine lv_iload_n hx hb dX10_append_16 rfl (lv_at hl 0 rfl) ?_
  refine lv_iushr hx hb dX10_append_17 rfl ?_
  refine lv_topi (fun yn12 _ => ?_)
  refine lv_sipush (v := 255) hx hb dX10_append_18 (by decide) ?_
  refine lv_iand hx hb dX10_append_21 ?_
  refine va_iast hx hb hK hP hD hS 1 0 rfl rfl (vp_in_iff.mpr (by decide)) dX10_append_22 (fun H locs hP hD hS => ?_)
  have hP : va_P D vwCl [(w0, .inr (11, [.ref v0, .ref v1, .ref v2, .ref v3, .ref v4, .long 0, .long 0, .int 0, .int th, .ref v9, .int 2, .int 0, .int (-1), .ref v13, .int 0, .int 0, .int 0, .int 0, .int 0, .int 0, .int 0, .int 0, .int 0, .int 0, .int 0, .long 0, .int 0, .ref v27, .ref v28, .ref v29, .ref v30, .ref v31, .ref v32, .ref v33, .ref v34, .ref v35, .ref v36, .ref v37, .int 0])), (v9, .inl (cA 0, 700, .inl (upd fn9 2 (yn12 &&& 255))))] H := hP
  have hD : va_D A [(w0, .inr (11, [.ref v0, .ref v1, .ref v2, .ref v3, .ref v4, .long 0, .long 0, .int 0, .int th, .ref v9, .int 2, .int 0, .int (-1), .ref v13, .int 0, .int 0, .int 0, .int 0, .int 0, .int 0, .int 0, .int 0, .int 0, .int 0, .int 0, .long 0, .int 0, .ref v27, .ref v28, .ref v29, .ref v30, .ref v31, .ref v32, .ref v33, .ref v34, .ref v35, .ref v36, .ref v37, .int 0])), (v9, .inl (cA 0, 700, .inl (upd fn9 2 (yn12 &&& 255))))] := hD
  generalize (upd fn9 2 (yn12 &&& 255)) = fn14 at hP hD
  have hP : va_P D vwCl [(w0, .inr (11, [.ref v0, .ref v1, .ref v2, .ref v3, .ref v4, .long 0, .long 0, .int 0, .int th, .ref v9, .int 2, .int 0, .int (-1), .ref v13, .int 0, .int 0, .int 0, .int 0, .int 0, .int 0, .int 0, .int 0, .int 0, .int 0, .int 0, .long 0, .int 0, .ref v27, .ref v28, .ref v29, .ref v30, .ref v31, .ref v32, .ref v33, .ref v34, .ref v35, .ref v36, .ref v37, .int 0])), (v9, .inl (cA 0, 700, .inl fn14))] H := hP
  have hD : va_D A [(w0, .inr (11, [.ref v0, .ref v1, .ref v2, .ref v3, .ref v4, .long 0, .long 0, .int 0, .int th, .ref v9, .int 2, .int 0, .int (-1), .ref v13, .int 0, .int 0, .int 0, .int 0, .int 0, .int 0, .int 0, .int 0, .int 0, .int 0, .int 0, .long 0, .int 0, .ref v27, .ref v28, .ref v29, .ref v30, .ref v31, .ref v32, .ref v33, .ref v34, .ref v35, .ref v36, .ref v37, .int 0])), (v9, .inl (cA 0, 700, .inl fn14))] := hD
  refine lv_aload_n hx hb dX10_append_23 rfl (lv_at hl 1 rfl) ?_
  refine lv_dup hx hb dX10_append_24 rfl ?_
  refine va_get (D := D) (ci := 11) (v := .int 2) (C := RX10) (T := TX10) (N := 39) hx hb hts inX10 hown hK hP 0 rfl rfl 10 (by decide) (hts (.fieldLink RX10 90 "EscrowDeskModel" "buffered" "I") (by decide +kernel)) (fun _ h9 => h9) rfl dX10_append_25 ?_
  refine lv_iconst (v := 1) hx hb dX10_append_28 (by decide) ?_
  refine lv_iadd hx hb dX10_append_29 ?_
  refine lv_topi (fun yn15 eyn15 => ?_)
  obtain rfl : yn15 = 3 := eyn15.trans (by first | rfl | decide +kernel)
  refine va_put (D := D) (ci := 11) (v := .int 3) (ty := .int) (C := RX10) (T := TX10) (N := 39) hx hb hts inX10 tyX10 tyX10_ok nmX10 hown hK hP hD hS 0 rfl rfl 10 (by decide) (hts (.fieldLink RX10 90 "EscrowDeskModel" "buffered" "I") (by decide +kernel)) (fun _ h9 => h9) rfl (by decide +kernel) rfl rfl (Nat.le_of_ble_eq_true rfl) dX10_append_30 (fun H locs hP hD hS => ?_)
  have hP : va_P D vwCl [(w0, .inr (11, [.ref v0, .ref v1, .ref v2, .ref v3, .ref v4, .long 0, .long 0, .int 0, .int th, .ref v9, .int 3, .int 0, .int (-1), .ref v13, .int 0, .int 0, .int 0, .int 0, .int 0, .int 0, .int 0, .int 0, .int 0, .int 0, .int 0, .long 0, .int 0, .ref v27, .ref v28, .ref v29, .ref v30, .ref v31, .ref v32, .ref v33, .ref v34, .ref v35, .ref v36, .ref v37, .int 0])), (v9, .inl (cA 0, 700, .inl fn14))] H := hP
  have hD : va_D A [(w0, .inr (11, [.ref v0, .ref v1, .ref v2, .ref v3, .ref v4, .long 0, .long 0, .int 0, .int th, .ref v9, .int 3, .int 0, .int (-1), .ref v13, .int 0, .int 0, .int 0, .int 0, .int 0, .int 0, .int 0, .int 0, .int 0, .int 0, .int 0, .long 0, .int 0, .ref v27, .ref v28, .ref v29, .ref v30, .ref v31, .ref v32, .ref v33, .ref v34, .ref v35, .ref v36, .ref v37, .int 0])), (v9, .inl (cA 0, 700, .inl fn14))] := hD
  refine lv_iinc (v := 0) (lv' := [(2, .int 0), (0, .ref w0), (1, .int w)]) hx hb dX10_append_33 hl (k := 0) rfl (by first | rfl | decide +kernel) (by decide) rfl (fun ls hl => ?_)
  refine lv_goto (tgt := 3) hx hb dX10_append_36 (by decide) ?_
  refine lv_iload_n hx hb dX10_append_3 rfl (lv_at hl 0 rfl) ?_
  refine lv_if_lt (tgt := 39) hx hb dX10_append_4 (by decide) (fun c9 => absurd c9 (by decide)) (fun c16 => ?_)
  refine lv_aload_n hx hb dX10_append_7 rfl (lv_at hl 1 rfl) ?_
  refine va_get (D := D) (ci := 11) (v := .ref v9) (C := RX10) (T := TX10) (N := 39) hx hb hts inX10 hown hK hP 0 rfl rfl 9 (by decide) (hts (.fieldLink RX10 26 "EscrowDeskModel" "buffer" "[I") (by decide +kernel)) (fun _ h9 => h9) rfl dX10_append_8 ?_
  refine lv_aload_n hx hb dX10_append_11 rfl (lv_at hl 1 rfl) ?_
  refine va_get (D := D) (ci := 11) (v := .int 3) (C := RX10) (T := TX10) (N := 39) hx hb hts inX10 hown hK hP 0 rfl rfl 10 (by decide) (hts (.fieldLink RX10 90 "EscrowDeskModel" "buffered" "I") (by decide +kernel)) (fun _ h9 => h9) rfl dX10_append_12 ?_
  refine lv_iload_n hx hb dX10_append_15 rfl (lv_at hl 2 rfl) ?_
  refine lv_iload_n hx hb dX10_append_16 rfl (lv_at hl 0 rfl) ?_
  refine lv_iushr hx hb dX10_append_17 rfl ?_
  refine lv_topi (fun yn17 _ => ?_)
  refine lv_sipush (v := 255) hx hb dX10_append_18 (by decide) ?_
  refine lv_iand hx hb dX10_append_21 ?_
  refine va_iast hx hb hK hP hD hS 1 0 rfl rfl (vp_in_iff.mpr (by decide)) dX10_append_22 (fun H locs hP hD hS => ?_)
  have hP : va_P D vwCl [(w0, .inr (11, [.ref v0, .ref v1, .ref v2, .ref v3, .ref v4, .long 0, .long 0, .int 0, .int th, .ref v9, .int 3, .int 0, .int (-1), .ref v13, .int 0, .int 0, .int 0, .int 0, .int 0, .int 0, .int 0, .int 0, .int 0, .int 0, .int 0, .long 0, .int 0, .ref v27, .ref v28, .ref v29, .ref v30, .ref v31, .ref v32, .ref v33, .ref v34, .ref v35, .ref v36, .ref v37, .int 0])), (v9, .inl (cA 0, 700, .inl (upd fn14 3 (yn17 &&& 255))))] H := hP
  have hD : va_D A [(w0, .inr (11, [.ref v0, .ref v1, .ref v2, .ref v3, .ref v4, .long 0, .long 0, .int 0, .int th, .ref v9, .int 3, .int 0, .int (-1), .ref v13, .int 0, .int 0, .int 0, .int 0, .int 0, .int 0, .int 0, .int 0, .int 0, .int 0, .int 0, .long 0, .int 0, .ref v27, .ref v28, .ref v29, .ref v30, .ref v31, .ref v32, .ref v33, .ref v34, .ref v35, .ref v36, .ref v37, .int 0])), (v9, .inl (cA 0, 700, .inl (upd fn14 3 (yn17 &&& 255))))] := hD
  generalize (upd fn14 3 (yn17 &&& 255)) = fn19 at hP hD
  have hP : va_P D vwCl [(w0, .inr (11, [.ref v0, .ref v1, .ref v2, .ref v3, .ref v4, .long 0, .long 0, .int 0, .int th, .ref v9, .int 3, .int 0, .int (-1), .ref v13, .int 0, .int 0, .int 0, .int 0, .int 0, .int 0, .int 0, .int 0, .int 0, .int 0, .int 0, .long 0, .int 0, .ref v27, .ref v28, .ref v29, .ref v30, .ref v31, .ref v32, .ref v33, .ref v34, .ref v35, .ref v36, .ref v37, .int 0])), (v9, .inl (cA 0, 700, .inl fn19))] H := hP
  have hD : va_D A [(w0, .inr (11, [.ref v0, .ref v1, .ref v2, .ref v3, .ref v4, .long 0, .long 0, .int 0, .int th, .ref v9, .int 3, .int 0, .int (-1), .ref v13, .int 0, .int 0, .int 0, .int 0, .int 0, .int 0, .int 0, .int 0, .int 0, .int 0, .int 0, .long 0, .int 0, .ref v27, .ref v28, .ref v29, .ref v30, .ref v31, .ref v32, .ref v33, .ref v34, .ref v35, .ref v36, .ref v37, .int 0])), (v9, .inl (cA 0, 700, .inl fn19))] := hD
  refine lv_aload_n hx hb dX10_append_23 rfl (lv_at hl 1 rfl) ?_
  refine lv_dup hx hb dX10_append_24 rfl ?_
  refine va_get (D := D) (ci := 11) (v := .int 3) (C := RX10) (T := TX10) (N := 39) hx hb hts inX10 hown hK hP 0 rfl rfl 10 (by decide) (hts (.fieldLink RX10 90 "EscrowDeskModel" "buffered" "I") (by decide +kernel)) (fun _ h9 => h9) rfl dX10_append_25 ?_
  refine lv_iconst (v := 1) hx hb dX10_append_28 (by decide) ?_
  refine lv_iadd hx hb dX10_append_29 ?_
  refine lv_topi (fun yn20 eyn20 => ?_)
  obtain rfl : yn20 = 4 := eyn20.trans (by first | rfl | decide +kernel)
  refine va_put (D := D) (ci := 11) (v := .int 4) (ty := .int) (C := RX10) (T := TX10) (N := 39) hx hb hts inX10 tyX10 tyX10_ok nmX10 hown hK hP hD hS 0 rfl rfl 10 (by decide) (hts (.fieldLink RX10 90 "EscrowDeskModel" "buffered" "I") (by decide +kernel)) (fun _ h9 => h9) rfl (by decide +kernel) rfl rfl (Nat.le_of_ble_eq_true rfl) dX10_append_30 (fun H locs hP hD hS => ?_)
  have hP : va_P D vwCl [(w0, .inr (11, [.ref v0, .ref v1, .ref v2, .ref v3, .ref v4, .long 0, .long 0, .int 0, .int th, .ref v9, .int 4, .int 0, .int (-1), .ref v13, .int 0, .int 0, .int 0, .int 0, .int 0, .int 0, .int 0, .int 0, .int 0, .int 0, .int 0, .long 0, .int 0, .ref v27, .ref v28, .ref v29, .ref v30, .ref v31, .ref v32, .ref v33, .ref v34, .ref v35, .ref v36, .ref v37, .int 0])), (v9, .inl (cA 0, 700, .inl fn19))] H := hP
  have hD : va_D A [(w0, .inr (11, [.ref v0, .ref v1, .ref v2, .ref v3, .ref v4, .long 0, .long 0, .int 0, .int th, .ref v9, .int 4, .int 0, .int (-1), .ref v13, .int 0, .int 0, .int 0, .int 0, .int 0, .int 0, .int 0, .int 0, .int 0, .int 0, .int 0, .long 0, .int 0, .ref v27, .ref v28, .ref v29, .ref v30, .ref v31, .ref v32, .ref v33, .ref v34, .ref v35, .ref v36, .ref v37, .int 0])), (v9, .inl (cA 0, 700, .inl fn19))] := hD
  refine lv_iinc (v := (-8)) (lv' := [(2, .int (-8)), (0, .ref w0), (1, .int w)]) hx hb dX10_append_33 hl (k := 0) rfl (by first | rfl | decide +kernel) (by decide) rfl (fun ls hl => ?_)
  refine lv_goto (tgt := 3) hx hb dX10_append_36 (by decide) ?_
  refine lv_iload_n hx hb dX10_append_3 rfl (lv_at hl 0 rfl) ?_
  refine lv_if_lt (tgt := 39) hx hb dX10_append_4 (by decide) (fun c21 => ?_) (fun c9 => absurd c9 (by decide))
  have hP9 := hP.sub (ws' := [(w0, .inr (11, [.ref v0, .ref v1, .ref v2, .ref v3, .ref v4, .long 0, .long 0, .int 0, .int th, .ref v9, .int 4, .int 0, .int (-1), .ref v13, .int 0, .int 0, .int 0, .int 0, .int 0, .int 0, .int 0, .int 0, .int 0, .int 0, .int 0, .long 0, .int 0, .ref v27, .ref v28, .ref v29, .ref v30, .ref v31, .ref v32, .ref v33, .ref v34, .ref v35, .ref v36, .ref v37, .int 0])), (v9, .inl (cA 0, 700, .inl fn19))]) [0, 1] rfl
  have hD9 := hD.sub (ws' := [(w0, .inr (11, [.ref v0, .ref v1, .ref v2, .ref v3, .ref v4, .long 0, .long 0, .int 0, .int th, .ref v9, .int 4, .int 0, .int (-1), .ref v13, .int 0, .int 0, .int 0, .int 0, .int 0, .int 0, .int 0, .int 0, .int 0, .int 0, .int 0, .long 0, .int 0, .ref v27, .ref v28, .ref v29, .ref v30, .ref v31, .ref v32, .ref v33, .ref v34, .ref v35, .ref v36, .ref v37, .int 0])), (v9, .inl (cA 0, 700, .inl fn19))]) [0, 1] (by decide) rfl
  refine W.widen (k := 0) (n := 0) (Nat.le_of_ble_eq_true rfl) (Nat.le_of_ble_eq_true rfl) ?_
  exact W.vret hx hb hr (fun t ht hW => ⟨⟨(), rfl, trivial, fn19, by rw [ht]; exact hP9, hD9⟩, hS.F ht⟩) hS.2.2 dX10_append_39

set_option maxHeartbeats 4000000 in
set_option maxRecDepth 100000 in
/-- append at 4 -/
theorem c_m_append_4 (l : Launch) (D : va_G) (cA : Nat → ClassId) (sa : Nat → Nat) (w0 v0 v1 v2 v3 v4 v9 v13 v27 v28 v29 v30 v31 v32 v33 v34 v35 v36 v37 : Nat) (th w : Int32) (fb : Nat → Int32) (sz : Nat) : Met l yX10_append wsX10_append ({ frames := 0, cells := 0, slots := 0, locals := 0 }) (va_Pc [.ref w0, .int w] (Wd D cA sa [(w0, .inr (11, [.ref v0, .ref v1, .ref v2, .ref v3, .ref v4, .long 0, .long 0, .int 0, .int th, .ref v9, .int 4, .int 0, .int (-1), .ref v13, .int 0, .int 0, .int 0, .int 0, .int 0, .int 0, .int 0, .int 0, .int 0, .int 0, .int 0, .long 0, .int 0, .ref v27, .ref v28, .ref v29, .ref v30, .ref v31, .ref v32, .ref v33, .ref v34, .ref v35, .ref v36, .ref v37, .int 0])), (v9, .inl (cA 0, 700, .inl fb))] sz)) (va_Qv (fun _ : Unit => True) (fun (_ : Unit) t => ∃ fn19 : Nat → Int32, Wq D (va_A [(w0, .inr (11, [.ref v0, .ref v1, .ref v2, .ref v3, .ref v4, .long 0, .long 0, .int 0, .int th, .ref v9, .int 4, .int 0, .int (-1), .ref v13, .int 0, .int 0, .int 0, .int 0, .int 0, .int 0, .int 0, .int 0, .int 0, .int 0, .int 0, .long 0, .int 0, .ref v27, .ref v28, .ref v29, .ref v30, .ref v31, .ref v32, .ref v33, .ref v34, .ref v35, .ref v36, .ref v37, .int 0])), (v9, .inl (cA 0, 700, .inl fb))] sz) [(w0, .inr (11, [.ref v0, .ref v1, .ref v2, .ref v3, .ref v4, .long 0, .long 0, .int 0, .int th, .ref v9, .int 8, .int 0, .int (-1), .ref v13, .int 0, .int 0, .int 0, .int 0, .int 0, .int 0, .int 0, .int 0, .int 0, .int 0, .int 0, .long 0, .int 0, .ref v27, .ref v28, .ref v29, .ref v30, .ref v31, .ref v32, .ref v33, .ref v34, .ref v35, .ref v36, .ref v37, .int 0])), (v9, .inl (cA 0, 700, .inl fn19))] t) (va_A [(w0, .inr (11, [.ref v0, .ref v1, .ref v2, .ref v3, .ref v4, .long 0, .long 0, .int 0, .int th, .ref v9, .int 4, .int 0, .int (-1), .ref v13, .int 0, .int 0, .int 0, .int 0, .int 0, .int 0, .int 0, .int 0, .int 0, .int 0, .int 0, .long 0, .int 0, .ref v27, .ref v28, .ref v29, .ref v30, .ref v31, .ref v32, .ref v33, .ref v34, .ref v35, .ref v36, .ref v37, .int 0])), (v9, .inl (cA 0, 700, .inl fb))] sz)) 0 0 (va_A [(w0, .inr (11, [.ref v0, .ref v1, .ref v2, .ref v3, .ref v4, .long 0, .long 0, .int 0, .int th, .ref v9, .int 4, .int 0, .int (-1), .ref v13, .int 0, .int 0, .int 0, .int 0, .int 0, .int 0, .int 0, .int 0, .int 0, .int 0, .int 0, .long 0, .int 0, .ref v27, .ref v28, .ref v29, .ref v30, .ref v31, .ref v32, .ref v33, .ref v34, .ref v35, .ref v36, .ref v37, .int 0])), (v9, .inl (cA 0, 700, .inl fb))] sz) := by
  refine Met.ofW (cc := cX10_append) (maxL := 3) (ret := none) (by decide) rfl ?_
  intro p e s m args below meth c s₁ B hml hv
  obtain ⟨rfl, hsz, hP, hK, hD0, hC, hZ⟩ := hv
  have hx := B.exec
  have hb := B.bytes
  have hr := B.returns
  have hts := atoms_spec (ws := wsX10_append) B.pre
  have hown : s.vm.findClass RX10 = some m.cls := findClass_of_methodNamed B.named
  have hlocks := B.notSynchronized
  subst hsz
  have hD := hD0.self (sz := s.heap.size)
  generalize hAe : va_A [(w0, .inr (11, [.ref v0, .ref v1, .ref v2, .ref v3, .ref v4, .long 0, .long 0, .int 0, .int th, .ref v9, .int 4, .int 0, .int (-1), .ref v13, .int 0, .int 0, .int 0, .int 0, .int 0, .int 0, .int 0, .int 0, .int 0, .int 0, .int 0, .long 0, .int 0, .ref v27, .ref v28, .ref v29, .ref v30, .ref v31, .ref v32, .ref v33, .ref v34, .ref v35, .ref v36, .ref v37, .int 0])), (v9, .inl (cA 0, 700, .inl fb))] s.heap.size = A at hD hZ ⊢
  have hA : ∀ q : Nat, s.heap.size ≤ q → A q := fun q h => by rw [← hAe]; exact Or.inr h
  have hS : va_S A s.heap s.heap [] := va_S.rf
  have hP : va_P D vwCl [(w0, .inr (11, [.ref v0, .ref v1, .ref v2, .ref v3, .ref v4, .long 0, .long 0, .int 0, .int th, .ref v9, .int 4, .int 0, .int (-1), .ref v13, .int 0, .int 0, .int 0, .int 0, .int 0, .int 0, .int 0, .int 0, .int 0, .int 0, .int 0, .long 0, .int 0, .ref v27, .ref v28, .ref v29, .ref v30, .ref v31, .ref v32, .ref v33, .ref v34, .ref v35, .ref v36, .ref v37, .int 0])), (v9, .inl (cA 0, 700, .inl fb))] s.heap := hP
  have hl := lv_entry ([.ref w0, .int w]) (n := 3) (Nat.le_of_ble_eq_true rfl)
  rw [lg_entry_eq]
  generalize (lg_sl ([.ref w0, .int w]) ++ List.replicate (3 - (lg_sl ([.ref w0, .int w])).length) Slot.unset).toArray = ls at hl ⊢
  have hl : lv_has ls 3 [(0, .ref w0), (1, .int w)] := hl
  have inX10 : ∀ w ∈ u_ws RX10 TX10 39, w ∈ wsX10_append := by decide +kernel
  refine lv_bipush (v := 24) hx hb dX10_append_0 (by decide) ?_
  refine lv_istore_n (lv' := [(2, .int 24), (0, .ref w0), (1, .int w)]) hx hb dX10_append_2 rfl hl (by decide) rfl (fun ls hl => ?_)
  refine lv_iload_n hx hb dX10_append_3 rfl (lv_at hl 0 rfl) ?_
  refine lv_if_lt (tgt := 39) hx hb dX10_append_4 (by decide) (fun c9 => absurd c9 (by decide)) (fun c1 => ?_)
  refine lv_aload_n hx hb dX10_append_7 rfl (lv_at hl 1 rfl) ?_
  refine va_get (D := D) (ci := 11) (v := .ref v9) (C := RX10) (T := TX10) (N := 39) hx hb hts inX10 hown hK hP 0 rfl rfl 9 (by decide) (hts (.fieldLink RX10 26 "EscrowDeskModel" "buffer" "[I") (by decide +kernel)) (fun _ h9 => h9) rfl dX10_append_8 ?_
  refine lv_aload_n hx hb dX10_append_11 rfl (lv_at hl 1 rfl) ?_
  refine va_get (D := D) (ci := 11) (v := .int 4) (C := RX10) (T := TX10) (N := 39) hx hb hts inX10 hown hK hP 0 rfl rfl 10 (by decide) (hts (.fieldLink RX10 90 "EscrowDeskModel" "buffered" "I") (by decide +kernel)) (fun _ h9 => h9) rfl dX10_append_12 ?_
  refine lv_iload_n hx hb dX10_append_15 rfl (lv_at hl 2 rfl) ?_
  refine lv_iload_n hx hb dX10_append_16 rfl (lv_at hl 0 rfl) ?_
  refine lv_iushr hx hb dX10_append_17 rfl ?_
  refine lv_topi (fun yn2 _ => ?_)
  refine lv_sipush (v := 255) hx hb dX10_append_18 (by decide) ?_
  refine lv_iand hx hb dX10_append_21 ?_
  refine va_iast hx hb hK hP hD hS 1 0 rfl rfl (vp_in_iff.mpr (by decide)) dX10_append_22 (fun H locs hP hD hS => ?_)
  have hP : va_P D vwCl [(w0, .inr (11, [.ref v0, .ref v1, .ref v2, .ref v3, .ref v4, .long 0, .long 0, .int 0, .int th, .ref v9, .int 4, .int 0, .int (-1), .ref v13, .int 0, .int 0, .int 0, .int 0, .int 0, .int 0, .int 0, .int 0, .int 0, .int 0, .int 0, .long 0, .int 0, .ref v27, .ref v28, .ref v29, .ref v30, .ref v31, .ref v32, .ref v33, .ref v34, .ref v35, .ref v36, .ref v37, .int 0])), (v9, .inl (cA 0, 700, .inl (upd fb 4 (yn2 &&& 255))))] H := hP
  have hD : va_D A [(w0, .inr (11, [.ref v0, .ref v1, .ref v2, .ref v3, .ref v4, .long 0, .long 0, .int 0, .int th, .ref v9, .int 4, .int 0, .int (-1), .ref v13, .int 0, .int 0, .int 0, .int 0, .int 0, .int 0, .int 0, .int 0, .int 0, .int 0, .int 0, .long 0, .int 0, .ref v27, .ref v28, .ref v29, .ref v30, .ref v31, .ref v32, .ref v33, .ref v34, .ref v35, .ref v36, .ref v37, .int 0])), (v9, .inl (cA 0, 700, .inl (upd fb 4 (yn2 &&& 255))))] := hD
  generalize (upd fb 4 (yn2 &&& 255)) = fn4 at hP hD
  have hP : va_P D vwCl [(w0, .inr (11, [.ref v0, .ref v1, .ref v2, .ref v3, .ref v4, .long 0, .long 0, .int 0, .int th, .ref v9, .int 4, .int 0, .int (-1), .ref v13, .int 0, .int 0, .int 0, .int 0, .int 0, .int 0, .int 0, .int 0, .int 0, .int 0, .int 0, .long 0, .int 0, .ref v27, .ref v28, .ref v29, .ref v30, .ref v31, .ref v32, .ref v33, .ref v34, .ref v35, .ref v36, .ref v37, .int 0])), (v9, .inl (cA 0, 700, .inl fn4))] H := hP
  have hD : va_D A [(w0, .inr (11, [.ref v0, .ref v1, .ref v2, .ref v3, .ref v4, .long 0, .long 0, .int 0, .int th, .ref v9, .int 4, .int 0, .int (-1), .ref v13, .int 0, .int 0, .int 0, .int 0, .int 0, .int 0, .int 0, .int 0, .int 0, .int 0, .int 0, .long 0, .int 0, .ref v27, .ref v28, .ref v29, .ref v30, .ref v31, .ref v32, .ref v33, .ref v34, .ref v35, .ref v36, .ref v37, .int 0])), (v9, .inl (cA 0, 700, .inl fn4))] := hD
  refine lv_aload_n hx hb dX10_append_23 rfl (lv_at hl 1 rfl) ?_
  refine lv_dup hx hb dX10_append_24 rfl ?_
  refine va_get (D := D) (ci := 11) (v := .int 4) (C := RX10) (T := TX10) (N := 39) hx hb hts inX10 hown hK hP 0 rfl rfl 10 (by decide) (hts (.fieldLink RX10 90 "EscrowDeskModel" "buffered" "I") (by decide +kernel)) (fun _ h9 => h9) rfl dX10_append_25 ?_
  refine lv_iconst (v := 1) hx hb dX10_append_28 (by decide) ?_
  refine lv_iadd hx hb dX10_append_29 ?_
  refine lv_topi (fun yn5 eyn5 => ?_)
  obtain rfl : yn5 = 5 := eyn5.trans (by first | rfl | decide +kernel)
  refine va_put (D := D) (ci := 11) (v := .int 5) (ty := .int) (C := RX10) (T := TX10) (N := 39) hx hb hts inX10 tyX10 tyX10_ok nmX10 hown hK hP hD hS 0 rfl rfl 10 (by decide) (hts (.fieldLink RX10 90 "EscrowDeskModel" "buffered" "I") (by decide +kernel)) (fun _ h9 => h9) rfl (by decide +kernel) rfl rfl (Nat.le_of_ble_eq_true rfl) dX10_append_30 (fun H locs hP hD hS => ?_)
  have hP : va_P D vwCl [(w0, .inr (11, [.ref v0, .ref v1, .ref v2, .ref v3, .ref v4, .long 0, .long 0, .int 0, .int th, .ref v9, .int 5, .int 0, .int (-1), .ref v13, .int 0, .int 0, .int 0, .int 0, .int 0, .int 0, .int 0, .int 0, .int 0, .int 0, .int 0, .long 0, .int 0, .ref v27, .ref v28, .ref v29, .ref v30, .ref v31, .ref v32, .ref v33, .ref v34, .ref v35, .ref v36, .ref v37, .int 0])), (v9, .inl (cA 0, 700, .inl fn4))] H := hP
  have hD : va_D A [(w0, .inr (11, [.ref v0, .ref v1, .ref v2, .ref v3, .ref v4, .long 0, .long 0, .int 0, .int th, .ref v9, .int 5, .int 0, .int (-1), .ref v13, .int 0, .int 0, .int 0, .int 0, .int 0, .int 0, .int 0, .int 0, .int 0, .int 0, .int 0, .long 0, .int 0, .ref v27, .ref v28, .ref v29, .ref v30, .ref v31, .ref v32, .ref v33, .ref v34, .ref v35, .ref v36, .ref v37, .int 0])), (v9, .inl (cA 0, 700, .inl fn4))] := hD
  refine lv_iinc (v := 16) (lv' := [(2, .int 16), (0, .ref w0), (1, .int w)]) hx hb dX10_append_33 hl (k := 0) rfl (by first | rfl | decide +kernel) (by decide) rfl (fun ls hl => ?_)
  refine lv_goto (tgt := 3) hx hb dX10_append_36 (by decide) ?_
  refine lv_iload_n hx hb dX10_append_3 rfl (lv_at hl 0 rfl) ?_
  refine lv_if_lt (tgt := 39) hx hb dX10_append_4 (by decide) (fun c9 => absurd c9 (by decide)) (fun c6 => ?_)
  refine lv_aload_n hx hb dX10_append_7 rfl (lv_at hl 1 rfl) ?_
  refine va_get (D := D) (ci := 11) (v := .ref v9) (C := RX10) (T := TX10) (N := 39) hx hb hts inX10 hown hK hP 0 rfl rfl 9 (by decide) (hts (.fieldLink RX10 26 "EscrowDeskModel" "buffer" "[I") (by decide +kernel)) (fun _ h9 => h9) rfl dX10_append_8 ?_
  refine lv_aload_n hx hb dX10_append_11 rfl (lv_at hl 1 rfl) ?_
  refine va_get (D := D) (ci := 11) (v := .int 5) (C := RX10) (T := TX10) (N := 39) hx hb hts inX10 hown hK hP 0 rfl rfl 10 (by decide) (hts (.fieldLink RX10 90 "EscrowDeskModel" "buffered" "I") (by decide +kernel)) (fun _ h9 => h9) rfl dX10_append_12 ?_
  refine lv_iload_n hx hb dX10_append_15 rfl (lv_at hl 2 rfl) ?_
  refine lv_iload_n hx hb dX10_append_16 rfl (lv_at hl 0 rfl) ?_
  refine lv_iushr hx hb dX10_append_17 rfl ?_
  refine lv_topi (fun yn7 _ => ?_)
  refine lv_sipush (v := 255) hx hb dX10_append_18 (by decide) ?_
  refine lv_iand hx hb dX10_append_21 ?_
  refine va_iast hx hb hK hP hD hS 1 0 rfl rfl (vp_in_iff.mpr (by decide)) dX10_append_22 (fun H locs hP hD hS => ?_)
  have hP : va_P D vwCl [(w0, .inr (11, [.ref v0, .ref v1, .ref v2, .ref v3, .ref v4, .long 0, .long 0, .int 0, .int th, .ref v9, .int 5, .int 0, .int (-1), .ref v13, .int 0, .int 0, .int 0, .int 0, .int 0, .int 0, .int 0, .int 0, .int 0, .int 0, .int 0, .long 0, .int 0, .ref v27, .ref v28, .ref v29, .ref v30, .ref v31, .ref v32, .ref v33, .ref v34, .ref v35, .ref v36, .ref v37, .int 0])), (v9, .inl (cA 0, 700, .inl (upd fn4 5 (yn7 &&& 255))))] H := hP
  have hD : va_D A [(w0, .inr (11, [.ref v0, .ref v1, .ref v2, .ref v3, .ref v4, .long 0, .long 0, .int 0, .int th, .ref v9, .int 5, .int 0, .int (-1), .ref v13, .int 0, .int 0, .int 0, .int 0, .int 0, .int 0, .int 0, .int 0, .int 0, .int 0, .int 0, .long 0, .int 0, .ref v27, .ref v28, .ref v29, .ref v30, .ref v31, .ref v32, .ref v33, .ref v34, .ref v35, .ref v36, .ref v37, .int 0])), (v9, .inl (cA 0, 700, .inl (upd fn4 5 (yn7 &&& 255))))] := hD
  generalize (upd fn4 5 (yn7 &&& 255)) = fn9 at hP hD
  have hP : va_P D vwCl [(w0, .inr (11, [.ref v0, .ref v1, .ref v2, .ref v3, .ref v4, .long 0, .long 0, .int 0, .int th, .ref v9, .int 5, .int 0, .int (-1), .ref v13, .int 0, .int 0, .int 0, .int 0, .int 0, .int 0, .int 0, .int 0, .int 0, .int 0, .int 0, .long 0, .int 0, .ref v27, .ref v28, .ref v29, .ref v30, .ref v31, .ref v32, .ref v33, .ref v34, .ref v35, .ref v36, .ref v37, .int 0])), (v9, .inl (cA 0, 700, .inl fn9))] H := hP
  have hD : va_D A [(w0, .inr (11, [.ref v0, .ref v1, .ref v2, .ref v3, .ref v4, .long 0, .long 0, .int 0, .int th, .ref v9, .int 5, .int 0, .int (-1), .ref v13, .int 0, .int 0, .int 0, .int 0, .int 0, .int 0, .int 0, .int 0, .int 0, .int 0, .int 0, .long 0, .int 0, .ref v27, .ref v28, .ref v29, .ref v30, .ref v31, .ref v32, .ref v33, .ref v34, .ref v35, .ref v36, .ref v37, .int 0])), (v9, .inl (cA 0, 700, .inl fn9))] := hD
  refine lv_aload_n hx hb dX10_append_23 rfl (lv_at hl 1 rfl) ?_
  refine lv_dup hx hb dX10_append_24 rfl ?_
  refine va_get (D := D) (ci := 11) (v := .int 5) (C := RX10) (T := TX10) (N := 39) hx hb hts inX10 hown hK hP 0 rfl rfl 10 (by decide) (hts (.fieldLink RX10 90 "EscrowDeskModel" "buffered" "I") (by decide +kernel)) (fun _ h9 => h9) rfl dX10_append_25 ?_
  refine lv_iconst (v := 1) hx hb dX10_append_28 (by decide) ?_
  refine lv_iadd hx hb dX10_append_29 ?_
  refine lv_topi (fun yn10 eyn10 => ?_)
  obtain rfl : yn10 = 6 := eyn10.trans (by first | rfl | decide +kernel)
  refine va_put (D := D) (ci := 11) (v := .int 6) (ty := .int) (C := RX10) (T := TX10) (N := 39) hx hb hts inX10 tyX10 tyX10_ok nmX10 hown hK hP hD hS 0 rfl rfl 10 (by decide) (hts (.fieldLink RX10 90 "EscrowDeskModel" "buffered" "I") (by decide +kernel)) (fun _ h9 => h9) rfl (by decide +kernel) rfl rfl (Nat.le_of_ble_eq_true rfl) dX10_append_30 (fun H locs hP hD hS => ?_)
  have hP : va_P D vwCl [(w0, .inr (11, [.ref v0, .ref v1, .ref v2, .ref v3, .ref v4, .long 0, .long 0, .int 0, .int th, .ref v9, .int 6, .int 0, .int (-1), .ref v13, .int 0, .int 0, .int 0, .int 0, .int 0, .int 0, .int 0, .int 0, .int 0, .int 0, .int 0, .long 0, .int 0, .ref v27, .ref v28, .ref v29, .ref v30, .ref v31, .ref v32, .ref v33, .ref v34, .ref v35, .ref v36, .ref v37, .int 0])), (v9, .inl (cA 0, 700, .inl fn9))] H := hP
  have hD : va_D A [(w0, .inr (11, [.ref v0, .ref v1, .ref v2, .ref v3, .ref v4, .long 0, .long 0, .int 0, .int th, .ref v9, .int 6, .int 0, .int (-1), .ref v13, .int 0, .int 0, .int 0, .int 0, .int 0, .int 0, .int 0, .int 0, .int 0, .int 0, .int 0, .long 0, .int 0, .ref v27, .ref v28, .ref v29, .ref v30, .ref v31, .ref v32, .ref v33, .ref v34, .ref v35, .ref v36, .ref v37, .int 0])), (v9, .inl (cA 0, 700, .inl fn9))] := hD
  refine lv_iinc (v := 8) (lv' := [(2, .int 8), (0, .ref w0), (1, .int w)]) hx hb dX10_append_33 hl (k := 0) rfl (by first | rfl | decide +kernel) (by decide) rfl (fun ls hl => ?_)
  refine lv_goto (tgt := 3) hx hb dX10_append_36 (by decide) ?_
  refine lv_iload_n hx hb dX10_append_3 rfl (lv_at hl 0 rfl) ?_
  refine lv_if_lt (tgt := 39) hx hb dX10_append_4 (by decide) (fun c9 => absurd c9 (by decide)) (fun c11 => ?_)
  refine lv_aload_n hx hb dX10_append_7 rfl (lv_at hl 1 rfl) ?_
  refine va_get (D := D) (ci := 11) (v := .ref v9) (C := RX10) (T := TX10) (N := 39) hx hb hts inX10 hown hK hP 0 rfl rfl 9 (by decide) (hts (.fieldLink RX10 26 "EscrowDeskModel" "buffer" "[I") (by decide +kernel)) (fun _ h9 => h9) rfl dX10_append_8 ?_
  refine lv_aload_n hx hb dX10_append_11 rfl (lv_at hl 1 rfl) ?_
  refine va_get (D := D) (ci := 11) (v := .int 6) (C := RX10) (T := TX10) (N := 39) hx hb hts inX10 hown hK hP 0 rfl rfl 10 (by decide) (hts (.fieldLink RX10 90 "EscrowDeskModel" "buffered" "I") (by decide +kernel)) (fun _ h9 => h9) rfl dX10_append_12 ?_
  refine lv_iload_n hx hb dX10_append_15 rfl (lv_at hl 2 rfl) ?_
  refine lv_iload_n hx hb dX10_append_16 rfl (lv_at hl 0 rfl) ?_
  refine lv_iushr hx hb dX10_append_17 rfl ?_
  refine lv_topi (fun yn12 _ => ?_)
  refine lv_sipush (v := 255) hx hb dX10_append_18 (by decide) ?_
  refine lv_iand hx hb dX10_append_21 ?_
  refine va_iast hx hb hK hP hD hS 1 0 rfl rfl (vp_in_iff.mpr (by decide)) dX10_append_22 (fun H locs hP hD hS => ?_)
  have hP : va_P D vwCl [(w0, .inr (11, [.ref v0, .ref v1, .ref v2, .ref v3, .ref v4, .long 0, .long 0, .int 0, .int th, .ref v9, .int 6, .int 0, .int (-1), .ref v13, .int 0, .int 0, .int 0, .int 0, .int 0, .int 0, .int 0, .int 0, .int 0, .int 0, .int 0, .long 0, .int 0, .ref v27, .ref v28, .ref v29, .ref v30, .ref v31, .ref v32, .ref v33, .ref v34, .ref v35, .ref v36, .ref v37, .int 0])), (v9, .inl (cA 0, 700, .inl (upd fn9 6 (yn12 &&& 255))))] H := hP
  have hD : va_D A [(w0, .inr (11, [.ref v0, .ref v1, .ref v2, .ref v3, .ref v4, .long 0, .long 0, .int 0, .int th, .ref v9, .int 6, .int 0, .int (-1), .ref v13, .int 0, .int 0, .int 0, .int 0, .int 0, .int 0, .int 0, .int 0, .int 0, .int 0, .int 0, .long 0, .int 0, .ref v27, .ref v28, .ref v29, .ref v30, .ref v31, .ref v32, .ref v33, .ref v34, .ref v35, .ref v36, .ref v37, .int 0])), (v9, .inl (cA 0, 700, .inl (upd fn9 6 (yn12 &&& 255))))] := hD
  generalize (upd fn9 6 (yn12 &&& 255)) = fn14 at hP hD
  have hP : va_P D vwCl [(w0, .inr (11, [.ref v0, .ref v1, .ref v2, .ref v3, .ref v4, .long 0, .long 0, .int 0, .int th, .ref v9, .int 6, .int 0, .int (-1), .ref v13, .int 0, .int 0, .int 0, .int 0, .int 0, .int 0, .int 0, .int 0, .int 0, .int 0, .int 0, .long 0, .int 0, .ref v27, .ref v28, .ref v29, .ref v30, .ref v31, .ref v32, .ref v33, .ref v34, .ref v35, .ref v36, .ref v37, .int 0])), (v9, .inl (cA 0, 700, .inl fn14))] H := hP
  have hD : va_D A [(w0, .inr (11, [.ref v0, .ref v1, .ref v2, .ref v3, .ref v4, .long 0, .long 0, .int 0, .int th, .ref v9, .int 6, .int 0, .int (-1), .ref v13, .int 0, .int 0, .int 0, .int 0, .int 0, .int 0, .int 0, .int 0, .int 0, .int 0, .int 0, .long 0, .int 0, .ref v27, .ref v28, .ref v29, .ref v30, .ref v31, .ref v32, .ref v33, .ref v34, .ref v35, .ref v36, .ref v37, .int 0])), (v9, .inl (cA 0, 700, .inl fn14))] := hD
  refine lv_aload_n hx hb dX10_append_23 rfl (lv_at hl 1 rfl) ?_
  refine lv_dup hx hb dX10_append_24 rfl ?_
  refine va_get (D := D) (ci := 11) (v := .int 6) (C := RX10) (T := TX10) (N := 39) hx hb hts inX10 hown hK hP 0 rfl rfl 10 (by decide) (hts (.fieldLink RX10 90 "EscrowDeskModel" "buffered" "I") (by decide +kernel)) (fun _ h9 => h9) rfl dX10_append_25 ?_
  refine lv_iconst (v := 1) hx hb dX10_append_28 (by decide) ?_
  refine lv_iadd hx hb dX10_append_29 ?_
  refine lv_topi (fun yn15 eyn15 => ?_)
  obtain rfl : yn15 = 7 := eyn15.trans (by first | rfl | decide +kernel)
  refine va_put (D := D) (ci := 11) (v := .int 7) (ty := .int) (C := RX10) (T := TX10) (N := 39) hx hb hts inX10 tyX10 tyX10_ok nmX10 hown hK hP hD hS 0 rfl rfl 10 (by decide) (hts (.fieldLink RX10 90 "EscrowDeskModel" "buffered" "I") (by decide +kernel)) (fun _ h9 => h9) rfl (by decide +kernel) rfl rfl (Nat.le_of_ble_eq_true rfl) dX10_append_30 (fun H locs hP hD hS => ?_)
  have hP : va_P D vwCl [(w0, .inr (11, [.ref v0, .ref v1, .ref v2, .ref v3, .ref v4, .long 0, .long 0, .int 0, .int th, .ref v9, .int 7, .int 0, .int (-1), .ref v13, .int 0, .int 0, .int 0, .int 0, .int 0, .int 0, .int 0, .int 0, .int 0, .int 0, .int 0, .long 0, .int 0, .ref v27, .ref v28, .ref v29, .ref v30, .ref v31, .ref v32, .ref v33, .ref v34, .ref v35, .ref v36, .ref v37, .int 0])), (v9, .inl (cA 0, 700, .inl fn14))] H := hP
  have hD : va_D A [(w0, .inr (11, [.ref v0, .ref v1, .ref v2, .ref v3, .ref v4, .long 0, .long 0, .int 0, .int th, .ref v9, .int 7, .int 0, .int (-1), .ref v13, .int 0, .int 0, .int 0, .int 0, .int 0, .int 0, .int 0, .int 0, .int 0, .int 0, .int 0, .long 0, .int 0, .ref v27, .ref v28, .ref v29, .ref v30, .ref v31, .ref v32, .ref v33, .ref v34, .ref v35, .ref v36, .ref v37, .int 0])), (v9, .inl (cA 0, 700, .inl fn14))] := hD
  refine lv_iinc (v := 0) (lv' := [(2, .int 0), (0, .ref w0), (1, .int w)]) hx hb dX10_append_33 hl (k := 0) rfl (by first | rfl | decide +kernel) (by decide) rfl (fun ls hl => ?_)
  refine lv_goto (tgt := 3) hx hb dX10_append_36 (by decide) ?_
  refine lv_iload_n hx hb dX10_append_3 rfl (lv_at hl 0 rfl) ?_
  refine lv_if_lt (tgt := 39) hx hb dX10_append_4 (by decide) (fun c9 => absurd c9 (by decide)) (fun c16 => ?_)
  refine lv_aload_n hx hb dX10_append_7 rfl (lv_at hl 1 rfl) ?_
  refine va_get (D := D) (ci := 11) (v := .ref v9) (C := RX10) (T := TX10) (N := 39) hx hb hts inX10 hown hK hP 0 rfl rfl 9 (by decide) (hts (.fieldLink RX10 26 "EscrowDeskModel" "buffer" "[I") (by decide +kernel)) (fun _ h9 => h9) rfl dX10_append_8 ?_
  refine lv_aload_n hx hb dX10_append_11 rfl (lv_at hl 1 rfl) ?_
  refine va_get (D := D) (ci := 11) (v := .int 7) (C := RX10) (T := TX10) (N := 39) hx hb hts inX10 hown hK hP 0 rfl rfl 10 (by decide) (hts (.fieldLink RX10 90 "EscrowDeskModel" "buffered" "I") (by decide +kernel)) (fun _ h9 => h9) rfl dX10_append_12 ?_
  refine lv_iload_n hx hb dX10_append_15 rfl (lv_at hl 2 rfl) ?_
  refine lv_iload_n hx hb dX10_append_16 rfl (lv_at hl 0 rfl) ?_
  refine lv_iushr hx hb dX10_append_17 rfl ?_
  refine lv_topi (fun yn17 _ => ?_)
  refine lv_sipush (v := 255) hx hb dX10_append_18 (by decide) ?_
  refine lv_iand hx hb dX10_append_21 ?_
  refine va_iast hx hb hK hP hD hS 1 0 rfl rfl (vp_in_iff.mpr (by decide)) dX10_append_22 (fun H locs hP hD hS => ?_)
  have hP : va_P D vwCl [(w0, .inr (11, [.ref v0, .ref v1, .ref v2, .ref v3, .ref v4, .long 0, .long 0, .int 0, .int th, .ref v9, .int 7, .int 0, .int (-1), .ref v13, .int 0, .int 0, .int 0, .int 0, .int 0, .int 0, .int 0, .int 0, .int 0, .int 0, .int 0, .long 0, .int 0, .ref v27, .ref v28, .ref v29, .ref v30, .ref v31, .ref v32, .ref v33, .ref v34, .ref v35, .ref v36, .ref v37, .int 0])), (v9, .inl (cA 0, 700, .inl (upd fn14 7 (yn17 &&& 255))))] H := hP
  have hD : va_D A [(w0, .inr (11, [.ref v0, .ref v1, .ref v2, .ref v3, .ref v4, .long 0, .long 0, .int 0, .int th, .ref v9, .int 7, .int 0, .int (-1), .ref v13, .int 0, .int 0, .int 0, .int 0, .int 0, .int 0, .int 0, .int 0, .int 0, .int 0, .int 0, .long 0, .int 0, .ref v27, .ref v28, .ref v29, .ref v30, .ref v31, .ref v32, .ref v33, .ref v34, .ref v35, .ref v36, .ref v37, .int 0])), (v9, .inl (cA 0, 700, .inl (upd fn14 7 (yn17 &&& 255))))] := hD
  generalize (upd fn14 7 (yn17 &&& 255)) = fn19 at hP hD
  have hP : va_P D vwCl [(w0, .inr (11, [.ref v0, .ref v1, .ref v2, .ref v3, .ref v4, .long 0, .long 0, .int 0, .int th, .ref v9, .int 7, .int 0, .int (-1), .ref v13, .int 0, .int 0, .int 0, .int 0, .int 0, .int 0, .int 0, .int 0, .int 0, .int 0, .int 0, .long 0, .int 0, .ref v27, .ref v28, .ref v29, .ref v30, .ref v31, .ref v32, .ref v33, .ref v34, .ref v35, .ref v36, .ref v37, .int 0])), (v9, .inl (cA 0, 700, .inl fn19))] H := hP
  have hD : va_D A [(w0, .inr (11, [.ref v0, .ref v1, .ref v2, .ref v3, .ref v4, .long 0, .long 0, .int 0, .int th, .ref v9, .int 7, .int 0, .int (-1), .ref v13, .int 0, .int 0, .int 0, .int 0, .int 0, .int 0, .int 0, .int 0, .int 0, .int 0, .int 0, .long 0, .int 0, .ref v27, .ref v28, .ref v29, .ref v30, .ref v31, .ref v32, .ref v33, .ref v34, .ref v35, .ref v36, .ref v37, .int 0])), (v9, .inl (cA 0, 700, .inl fn19))] := hD
  refine lv_aload_n hx hb dX10_append_23 rfl (lv_at hl 1 rfl) ?_
  refine lv_dup hx hb dX10_append_24 rfl ?_
  refine va_get (D := D) (ci := 11) (v := .int 7) (C := RX10) (T := TX10) (N := 39) hx hb hts inX10 hown hK hP 0 rfl rfl 10 (by decide) (hts (.fieldLink RX10 90 "EscrowDeskModel" "buffered" "I") (by decide +kernel)) (fun _ h9 => h9) rfl dX10_append_25 ?_
  refine lv_iconst (v := 1) hx hb dX10_append_28 (by decide) ?_
  refine lv_iadd hx hb dX10_append_29 ?_
  refine lv_topi (fun yn20 eyn20 => ?_)
  obtain rfl : yn20 = 8 := eyn20.trans (by first | rfl | decide +kernel)
  refine va_put (D := D) (ci := 11) (v := .int 8) (ty := .int) (C := RX10) (T := TX10) (N := 39) hx hb hts inX10 tyX10 tyX10_ok nmX10 hown hK hP hD hS 0 rfl rfl 10 (by decide) (hts (.fieldLink RX10 90 "EscrowDeskModel" "buffered" "I") (by decide +kernel)) (fun _ h9 => h9) rfl (by decide +kernel) rfl rfl (Nat.le_of_ble_eq_true rfl) dX10_append_30 (fun H locs hP hD hS => ?_)
  have hP : va_P D vwCl [(w0, .inr (11, [.ref v0, .ref v1, .ref v2, .ref v3, .ref v4, .long 0, .long 0, .int 0, .int th, .ref v9, .int 8, .int 0, .int (-1), .ref v13, .int 0, .int 0, .int 0, .int 0, .int 0, .int 0, .int 0, .int 0, .int 0, .int 0, .int 0, .long 0, .int 0, .ref v27, .ref v28, .ref v29, .ref v30, .ref v31, .ref v32, .ref v33, .ref v34, .ref v35, .ref v36, .ref v37, .int 0])), (v9, .inl (cA 0, 700, .inl fn19))] H := hP
  have hD : va_D A [(w0, .inr (11, [.ref v0, .ref v1, .ref v2, .ref v3, .ref v4, .long 0, .long 0, .int 0, .int th, .ref v9, .int 8, .int 0, .int (-1), .ref v13, .int 0, .int 0, .int 0, .int 0, .int 0, .int 0, .int 0, .int 0, .int 0, .int 0, .int 0, .long 0, .int 0, .ref v27, .ref v28, .ref v29, .ref v30, .ref v31, .ref v32, .ref v33, .ref v34, .ref v35, .ref v36, .ref v37, .int 0])), (v9, .inl (cA 0, 700, .inl fn19))] := hD
  refine lv_iinc (v := (-8)) (lv' := [(2, .int (-8)), (0, .ref w0), (1, .int w)]) hx hb dX10_append_33 hl (k := 0) rfl (by first | rfl | decide +kernel) (by decide) rfl (fun ls hl => ?_)
  refine lv_goto (tgt := 3) hx hb dX10_append_36 (by decide) ?_
  refine lv_iload_n hx hb dX10_append_3 rfl (lv_at hl 0 rfl) ?_
  refine lv_if_lt (tgt := 39) hx hb dX10_append_4 (by decide) (fun c21 => ?_) (fun c9 => absurd c9 (by decide))
  have hP9 := hP.sub (ws' := [(w0, .inr (11, [.ref v0, .ref v1, .ref v2, .ref v3, .ref v4, .long 0, .long 0, .int 0, .int th, .ref v9, .int 8, .int 0, .int (-1), .ref v13, .int 0, .int 0, .int 0, .int 0, .int 0, .int 0, .int 0, .int 0, .int 0, .int 0, .int 0, .long 0, .int 0, .ref v27, .ref v28, .ref v29, .ref v30, .ref v31, .ref v32, .ref v33, .ref v34, .ref v35, .ref v36, .ref v37, .int 0])), (v9, .inl (cA 0, 700, .inl fn19))]) [0, 1] rfl
  have hD9 := hD.sub (ws' := [(w0, .inr (11, [.ref v0, .ref v1, .ref v2, .ref v3, .ref v4, .long 0, .long 0, .int 0, .int th, .ref v9, .int 8, .int 0, .int (-1), .ref v13, .int 0, .int 0, .int 0, .int 0, .int 0, .int 0, .int 0, .int 0, .int 0, .int 0, .int 0, .long 0, .int 0, .ref v27, .ref v28, .ref v29, .ref v30, .ref v31, .ref v32, .ref v33, .ref v34, .ref v35, .ref v36, .ref v37, .int 0])), (v9, .inl (cA 0, 700, .inl fn19))]) [0, 1] (by decide) rfl
  refine W.widen (k := 0) (n := 0) (Nat.le_of_ble_eq_true rfl) (Nat.le_of_ble_eq_true rfl) ?_
  exact W.vret hx hb hr (fun t ht hW => ⟨⟨(), rfl, trivial, fn19, by rw [ht]; exact hP9, hD9⟩, hS.F ht⟩) hS.2.2 dX10_append_39

set_option maxHeartbeats 4000000 in
set_option maxRecDepth 100000 in
/-- append at 8 -/
theorem c_m_append_8 (l : Launch) (D : va_G) (cA : Nat → ClassId) (sa : Nat → Nat) (w0 v0 v1 v2 v3 v4 v9 v13 v27 v28 v29 v30 v31 v32 v33 v34 v35 v36 v37 : Nat) (th w : Int32) (fb : Nat → Int32) (sz : Nat) : Met l yX10_append wsX10_append ({ frames := 0, cells := 0, slots := 0, locals := 0 }) (va_Pc [.ref w0, .int w] (Wd D cA sa [(w0, .inr (11, [.ref v0, .ref v1, .ref v2, .ref v3, .ref v4, .long 0, .long 0, .int 0, .int th, .ref v9, .int 8, .int 0, .int (-1), .ref v13, .int 0, .int 0, .int 0, .int 0, .int 0, .int 0, .int 0, .int 0, .int 0, .int 0, .int 0, .long 0, .int 0, .ref v27, .ref v28, .ref v29, .ref v30, .ref v31, .ref v32, .ref v33, .ref v34, .ref v35, .ref v36, .ref v37, .int 0])), (v9, .inl (cA 0, 700, .inl fb))] sz)) (va_Qv (fun _ : Unit => True) (fun (_ : Unit) t => ∃ fn19 : Nat → Int32, Wq D (va_A [(w0, .inr (11, [.ref v0, .ref v1, .ref v2, .ref v3, .ref v4, .long 0, .long 0, .int 0, .int th, .ref v9, .int 8, .int 0, .int (-1), .ref v13, .int 0, .int 0, .int 0, .int 0, .int 0, .int 0, .int 0, .int 0, .int 0, .int 0, .int 0, .long 0, .int 0, .ref v27, .ref v28, .ref v29, .ref v30, .ref v31, .ref v32, .ref v33, .ref v34, .ref v35, .ref v36, .ref v37, .int 0])), (v9, .inl (cA 0, 700, .inl fb))] sz) [(w0, .inr (11, [.ref v0, .ref v1, .ref v2, .ref v3, .ref v4, .long 0, .long 0, .int 0, .int th, .ref v9, .int 12, .int 0, .int (-1), .ref v13, .int 0, .int 0, .int 0, .int 0, .int 0, .int 0, .int 0, .int 0, .int 0, .int 0, .int 0, .long 0, .int 0, .ref v27, .ref v28, .ref v29, .ref v30, .ref v31, .ref v32, .ref v33, .ref v34, .ref v35, .ref v36, .ref v37, .int 0])), (v9, .inl (cA 0, 700, .inl fn19))] t) (va_A [(w0, .inr (11, [.ref v0, .ref v1, .ref v2, .ref v3, .ref v4, .long 0, .long 0, .int 0, .int th, .ref v9, .int 8, .int 0, .int (-1), .ref v13, .int 0, .int 0, .int 0, .int 0, .int 0, .int 0, .int 0, .int 0, .int 0, .int 0, .int 0, .long 0, .int 0, .ref v27, .ref v28, .ref v29, .ref v30, .ref v31, .ref v32, .ref v33, .ref v34, .ref v35, .ref v36, .ref v37, .int 0])), (v9, .inl (cA 0, 700, .inl fb))] sz)) 0 0 (va_A [(w0, .inr (11, [.ref v0, .ref v1, .ref v2, .ref v3, .ref v4, .long 0, .long 0, .int 0, .int th, .ref v9, .int 8, .int 0, .int (-1), .ref v13, .int 0, .int 0, .int 0, .int 0, .int 0, .int 0, .int 0, .int 0, .int 0, .int 0, .int 0, .long 0, .int 0, .ref v27, .ref v28, .ref v29, .ref v30, .ref v31, .ref v32, .ref v33, .ref v34, .ref v35, .ref v36, .ref v37, .int 0])), (v9, .inl (cA 0, 700, .inl fb))] sz) := by
  refine Met.ofW (cc := cX10_append) (maxL := 3) (ret := none) (by decide) rfl ?_
  intro p e s m args below meth c s₁ B hml hv
  obtain ⟨rfl, hsz, hP, hK, hD0, hC, hZ⟩ := hv
  have hx := B.exec
  have hb := B.bytes
  have hr := B.returns
  have hts := atoms_spec (ws := wsX10_append) B.pre
  have hown : s.vm.findClass RX10 = some m.cls := findClass_of_methodNamed B.named
  have hlocks := B.notSynchronized
  subst hsz
  have hD := hD0.self (sz := s.heap.size)
  generalize hAe : va_A [(w0, .inr (11, [.ref v0, .ref v1, .ref v2, .ref v3, .ref v4, .long 0, .long 0, .int 0, .int th, .ref v9, .int 8, .int 0, .int (-1), .ref v13, .int 0, .int 0, .int 0, .int 0, .int 0, .int 0, .int 0, .int 0, .int 0, .int 0, .int 0, .long 0, .int 0, .ref v27, .ref v28, .ref v29, .ref v30, .ref v31, .ref v32, .ref v33, .ref v34, .ref v35, .ref v36, .ref v37, .int 0])), (v9, .inl (cA 0, 700, .inl fb))] s.heap.size = A at hD hZ ⊢
  have hA : ∀ q : Nat, s.heap.size ≤ q → A q := fun q h => by rw [← hAe]; exact Or.inr h
  have hS : va_S A s.heap s.heap [] := va_S.rf
  have hP : va_P D vwCl [(w0, .inr (11, [.ref v0, .ref v1, .ref v2, .ref v3, .ref v4, .long 0, .long 0, .int 0, .int th, .ref v9, .int 8, .int 0, .int (-1), .ref v13, .int 0, .int 0, .int 0, .int 0, .int 0, .int 0, .int 0, .int 0, .int 0, .int 0, .int 0, .long 0, .int 0, .ref v27, .ref v28, .ref v29, .ref v30, .ref v31, .ref v32, .ref v33, .ref v34, .ref v35, .ref v36, .ref v37, .int 0])), (v9, .inl (cA 0, 700, .inl fb))] s.heap := hP
  have hl := lv_entry ([.ref w0, .int w]) (n := 3) (Nat.le_of_ble_eq_true rfl)
  rw [lg_entry_eq]
  generalize (lg_sl ([.ref w0, .int w]) ++ List.replicate (3 - (lg_sl ([.ref w0, .int w])).length) Slot.unset).toArray = ls at hl ⊢
  have hl : lv_has ls 3 [(0, .ref w0), (1, .int w)] := hl
  have inX10 : ∀ w ∈ u_ws RX10 TX10 39, w ∈ wsX10_append := by decide +kernel
  refine lv_bipush (v := 24) hx hb dX10_append_0 (by decide) ?_
  refine lv_istore_n (lv' := [(2, .int 24), (0, .ref w0), (1, .int w)]) hx hb dX10_append_2 rfl hl (by decide) rfl (fun ls hl => ?_)
  refine lv_iload_n hx hb dX10_append_3 rfl (lv_at hl 0 rfl) ?_
  refine lv_if_lt (tgt := 39) hx hb dX10_append_4 (by decide) (fun c9 => absurd c9 (by decide)) (fun c1 => ?_)
  refine lv_aload_n hx hb dX10_append_7 rfl (lv_at hl 1 rfl) ?_
  refine va_get (D := D) (ci := 11) (v := .ref v9) (C := RX10) (T := TX10) (N := 39) hx hb hts inX10 hown hK hP 0 rfl rfl 9 (by decide) (hts (.fieldLink RX10 26 "EscrowDeskModel" "buffer" "[I") (by decide +kernel)) (fun _ h9 => h9) rfl dX10_append_8 ?_
  refine lv_aload_n hx hb dX10_append_11 rfl (lv_at hl 1 rfl) ?_
  refine va_get (D := D) (ci := 11) (v := .int 8) (C := RX10) (T := TX10) (N := 39) hx hb hts inX10 hown hK hP 0 rfl rfl 10 (by decide) (hts (.fieldLink RX10 90 "EscrowDeskModel" "buffered" "I") (by decide +kernel)) (fun _ h9 => h9) rfl dX10_append_12 ?_
  refine lv_iload_n hx hb dX10_append_15 rfl (lv_at hl 2 rfl) ?_
  refine lv_iload_n hx hb dX10_append_16 rfl (lv_at hl 0 rfl) ?_
  refine lv_iushr hx hb dX10_append_17 rfl ?_
  refine lv_topi (fun yn2 _ => ?_)
  refine lv_sipush (v := 255) hx hb dX10_append_18 (by decide) ?_
  refine lv_iand hx hb dX10_append_21 ?_
  refine va_iast hx hb hK hP hD hS 1 0 rfl rfl (vp_in_iff.mpr (by decide)) dX10_append_22 (fun H locs hP hD hS => ?_)
  have hP : va_P D vwCl [(w0, .inr (11, [.ref v0, .ref v1, .ref v2, .ref v3, .ref v4, .long 0, .long 0, .int 0, .int th, .ref v9, .int 8, .int 0, .int (-1), .ref v13, .int 0, .int 0, .int 0, .int 0, .int 0, .int 0, .int 0, .int 0, .int 0, .int 0, .int 0, .long 0, .int 0, .ref v27, .ref v28, .ref v29, .ref v30, .ref v31, .ref v32, .ref v33, .ref v34, .ref v35, .ref v36, .ref v37, .int 0])), (v9, .inl (cA 0, 700, .inl (upd fb 8 (yn2 &&& 255))))] H := hP
  have hD : va_D A [(w0, .inr (11, [.ref v0, .ref v1, .ref v2, .ref v3, .ref v4, .long 0, .long 0, .int 0, .int th, .ref v9, .int 8, .int 0, .int (-1), .ref v13, .int 0, .int 0, .int 0, .int 0, .int 0, .int 0, .int 0, .int 0, .int 0, .int 0, .int 0, .long 0, .int 0, .ref v27, .ref v28, .ref v29, .ref v30, .ref v31, .ref v32, .ref v33, .ref v34, .ref v35, .ref v36, .ref v37, .int 0])), (v9, .inl (cA 0, 700, .inl (upd fb 8 (yn2 &&& 255))))] := hD
  generalize (upd fb 8 (yn2 &&& 255)) = fn4 at hP hD
  have hP : va_P D vwCl [(w0, .inr (11, [.ref v0, .ref v1, .ref v2, .ref v3, .ref v4, .long 0, .long 0, .int 0, .int th, .ref v9, .int 8, .int 0, .int (-1), .ref v13, .int 0, .int 0, .int 0, .int 0, .int 0, .int 0, .int 0, .int 0, .int 0, .int 0, .int 0, .long 0, .int 0, .ref v27, .ref v28, .ref v29, .ref v30, .ref v31, .ref v32, .ref v33, .ref v34, .ref v35, .ref v36, .ref v37, .int 0])), (v9, .inl (cA 0, 700, .inl fn4))] H := hP
  have hD : va_D A [(w0, .inr (11, [.ref v0, .ref v1, .ref v2, .ref v3, .ref v4, .long 0, .long 0, .int 0, .int th, .ref v9, .int 8, .int 0, .int (-1), .ref v13, .int 0, .int 0, .int 0, .int 0, .int 0, .int 0, .int 0, .int 0, .int 0, .int 0, .int 0, .long 0, .int 0, .ref v27, .ref v28, .ref v29, .ref v30, .ref v31, .ref v32, .ref v33, .ref v34, .ref v35, .ref v36, .ref v37, .int 0])), (v9, .inl (cA 0, 700, .inl fn4))] := hD
  refine lv_aload_n hx hb dX10_append_23 rfl (lv_at hl 1 rfl) ?_
  refine lv_dup hx hb dX10_append_24 rfl ?_
  refine va_get (D := D) (ci := 11) (v := .int 8) (C := RX10) (T := TX10) (N := 39) hx hb hts inX10 hown hK hP 0 rfl rfl 10 (by decide) (hts (.fieldLink RX10 90 "EscrowDeskModel" "buffered" "I") (by decide +kernel)) (fun _ h9 => h9) rfl dX10_append_25 ?_
  refine lv_iconst (v := 1) hx hb dX10_append_28 (by decide) ?_
  refine lv_iadd hx hb dX10_append_29 ?_
  refine lv_topi (fun yn5 eyn5 => ?_)
  obtain rfl : yn5 = 9 := eyn5.trans (by first | rfl | decide +kernel)
  refine va_put (D := D) (ci := 11) (v := .int 9) (ty := .int) (C := RX10) (T := TX10) (N := 39) hx hb hts inX10 tyX10 tyX10_ok nmX10 hown hK hP hD hS 0 rfl rfl 10 (by decide) (hts (.fieldLink RX10 90 "EscrowDeskModel" "buffered" "I") (by decide +kernel)) (fun _ h9 => h9) rfl (by decide +kernel) rfl rfl (Nat.le_of_ble_eq_true rfl) dX10_append_30 (fun H locs hP hD hS => ?_)
  have hP : va_P D vwCl [(w0, .inr (11, [.ref v0, .ref v1, .ref v2, .ref v3, .ref v4, .long 0, .long 0, .int 0, .int th, .ref v9, .int 9, .int 0, .int (-1), .ref v13, .int 0, .int 0, .int 0, .int 0, .int 0, .int 0, .int 0, .int 0, .int 0, .int 0, .int 0, .long 0, .int 0, .ref v27, .ref v28, .ref v29, .ref v30, .ref v31, .ref v32, .ref v33, .ref v34, .ref v35, .ref v36, .ref v37, .int 0])), (v9, .inl (cA 0, 700, .inl fn4))] H := hP
  have hD : va_D A [(w0, .inr (11, [.ref v0, .ref v1, .ref v2, .ref v3, .ref v4, .long 0, .long 0, .int 0, .int th, .ref v9, .int 9, .int 0, .int (-1), .ref v13, .int 0, .int 0, .int 0, .int 0, .int 0, .int 0, .int 0, .int 0, .int 0, .int 0, .int 0, .long 0, .int 0, .ref v27, .ref v28, .ref v29, .ref v30, .ref v31, .ref v32, .ref v33, .ref v34, .ref v35, .ref v36, .ref v37, .int 0])), (v9, .inl (cA 0, 700, .inl fn4))] := hD
  refine lv_iinc (v := 16) (lv' := [(2, .int 16), (0, .ref w0), (1, .int w)]) hx hb dX10_append_33 hl (k := 0) rfl (by first | rfl | decide +kernel) (by decide) rfl (fun ls hl => ?_)
  refine lv_goto (tgt := 3) hx hb dX10_append_36 (by decide) ?_
  refine lv_iload_n hx hb dX10_append_3 rfl (lv_at hl 0 rfl) ?_
  refine lv_if_lt (tgt := 39) hx hb dX10_append_4 (by decide) (fun c9 => absurd c9 (by decide)) (fun c6 => ?_)
  refine lv_aload_n hx hb dX10_append_7 rfl (lv_at hl 1 rfl) ?_
  refine va_get (D := D) (ci := 11) (v := .ref v9) (C := RX10) (T := TX10) (N := 39) hx hb hts inX10 hown hK hP 0 rfl rfl 9 (by decide) (hts (.fieldLink RX10 26 "EscrowDeskModel" "buffer" "[I") (by decide +kernel)) (fun _ h9 => h9) rfl dX10_append_8 ?_
  refine lv_aload_n hx hb dX10_append_11 rfl (lv_at hl 1 rfl) ?_
  refine va_get (D := D) (ci := 11) (v := .int 9) (C := RX10) (T := TX10) (N := 39) hx hb hts inX10 hown hK hP 0 rfl rfl 10 (by decide) (hts (.fieldLink RX10 90 "EscrowDeskModel" "buffered" "I") (by decide +kernel)) (fun _ h9 => h9) rfl dX10_append_12 ?_
  refine lv_iload_n hx hb dX10_append_15 rfl (lv_at hl 2 rfl) ?_
  refine lv_iload_n hx hb dX10_append_16 rfl (lv_at hl 0 rfl) ?_
  refine lv_iushr hx hb dX10_append_17 rfl ?_
  refine lv_topi (fun yn7 _ => ?_)
  refine lv_sipush (v := 255) hx hb dX10_append_18 (by decide) ?_
  refine lv_iand hx hb dX10_append_21 ?_
  refine va_iast hx hb hK hP hD hS 1 0 rfl rfl (vp_in_iff.mpr (by decide)) dX10_append_22 (fun H locs hP hD hS => ?_)
  have hP : va_P D vwCl [(w0, .inr (11, [.ref v0, .ref v1, .ref v2, .ref v3, .ref v4, .long 0, .long 0, .int 0, .int th, .ref v9, .int 9, .int 0, .int (-1), .ref v13, .int 0, .int 0, .int 0, .int 0, .int 0, .int 0, .int 0, .int 0, .int 0, .int 0, .int 0, .long 0, .int 0, .ref v27, .ref v28, .ref v29, .ref v30, .ref v31, .ref v32, .ref v33, .ref v34, .ref v35, .ref v36, .ref v37, .int 0])), (v9, .inl (cA 0, 700, .inl (upd fn4 9 (yn7 &&& 255))))] H := hP
  have hD : va_D A [(w0, .inr (11, [.ref v0, .ref v1, .ref v2, .ref v3, .ref v4, .long 0, .long 0, .int 0, .int th, .ref v9, .int 9, .int 0, .int (-1), .ref v13, .int 0, .int 0, .int 0, .int 0, .int 0, .int 0, .int 0, .int 0, .int 0, .int 0, .int 0, .long 0, .int 0, .ref v27, .ref v28, .ref v29, .ref v30, .ref v31, .ref v32, .ref v33, .ref v34, .ref v35, .ref v36, .ref v37, .int 0])), (v9, .inl (cA 0, 700, .inl (upd fn4 9 (yn7 &&& 255))))] := hD
  generalize (upd fn4 9 (yn7 &&& 255)) = fn9 at hP hD
  have hP : va_P D vwCl [(w0, .inr (11, [.ref v0, .ref v1, .ref v2, .ref v3, .ref v4, .long 0, .long 0, .int 0, .int th, .ref v9, .int 9, .int 0, .int (-1), .ref v13, .int 0, .int 0, .int 0, .int 0, .int 0, .int 0, .int 0, .int 0, .int 0, .int 0, .int 0, .long 0, .int 0, .ref v27, .ref v28, .ref v29, .ref v30, .ref v31, .ref v32, .ref v33, .ref v34, .ref v35, .ref v36, .ref v37, .int 0])), (v9, .inl (cA 0, 700, .inl fn9))] H := hP
  have hD : va_D A [(w0, .inr (11, [.ref v0, .ref v1, .ref v2, .ref v3, .ref v4, .long 0, .long 0, .int 0, .int th, .ref v9, .int 9, .int 0, .int (-1), .ref v13, .int 0, .int 0, .int 0, .int 0, .int 0, .int 0, .int 0, .int 0, .int 0, .int 0, .int 0, .long 0, .int 0, .ref v27, .ref v28, .ref v29, .ref v30, .ref v31, .ref v32, .ref v33, .ref v34, .ref v35, .ref v36, .ref v37, .int 0])), (v9, .inl (cA 0, 700, .inl fn9))] := hD
  refine lv_aload_n hx hb dX10_append_23 rfl (lv_at hl 1 rfl) ?_
  refine lv_dup hx hb dX10_append_24 rfl ?_
  refine va_get (D := D) (ci := 11) (v := .int 9) (C := RX10) (T := TX10) (N := 39) hx hb hts inX10 hown hK hP 0 rfl rfl 10 (by decide) (hts (.fieldLink RX10 90 "EscrowDeskModel" "buffered" "I") (by decide +kernel)) (fun _ h9 => h9) rfl dX10_append_25 ?_
  refine lv_iconst (v := 1) hx hb dX10_append_28 (by decide) ?_
  refine lv_iadd hx hb dX10_append_29 ?_
  refine lv_topi (fun yn10 eyn10 => ?_)
  obtain rfl : yn10 = 10 := eyn10.trans (by first | rfl | decide +kernel)
  refine va_put (D := D) (ci := 11) (v := .int 10) (ty := .int) (C := RX10) (T := TX10) (N := 39) hx hb hts inX10 tyX10 tyX10_ok nmX10 hown hK hP hD hS 0 rfl rfl 10 (by decide) (hts (.fieldLink RX10 90 "EscrowDeskModel" "buffered" "I") (by decide +kernel)) (fun _ h9 => h9) rfl (by decide +kernel) rfl rfl (Nat.le_of_ble_eq_true rfl) dX10_append_30 (fun H locs hP hD hS => ?_)
  have hP : va_P D vwCl [(w0, .inr (11, [.ref v0, .ref v1, .ref v2, .ref v3, .ref v4, .long 0, .long 0, .int 0, .int th, .ref v9, .int 10, .int 0, .int (-1), .ref v13, .int 0, .int 0, .int 0, .int 0, .int 0, .int 0, .int 0, .int 0, .int 0, .int 0, .int 0, .long 0, .int 0, .ref v27, .ref v28, .ref v29, .ref v30, .ref v31, .ref v32, .ref v33, .ref v34, .ref v35, .ref v36, .ref v37, .int 0])), (v9, .inl (cA 0, 700, .inl fn9))] H := hP
  have hD : va_D A [(w0, .inr (11, [.ref v0, .ref v1, .ref v2, .ref v3, .ref v4, .long 0, .long 0, .int 0, .int th, .ref v9, .int 10, .int 0, .int (-1), .ref v13, .int 0, .int 0, .int 0, .int 0, .int 0, .int 0, .int 0, .int 0, .int 0, .int 0, .int 0, .long 0, .int 0, .ref v27, .ref v28, .ref v29, .ref v30, .ref v31, .ref v32, .ref v33, .ref v34, .ref v35, .ref v36, .ref v37, .int 0])), (v9, .inl (cA 0, 700, .inl fn9))] := hD
  refine lv_iinc (v := 8) (lv' := [(2, .int 8), (0, .ref w0), (1, .int w)]) hx hb dX10_append_33 hl (k := 0) rfl (by first | rfl | decide +kernel) (by decide) rfl (fun ls hl => ?_)
  refine lv_goto (tgt := 3) hx hb dX10_append_36 (by decide) ?_
  refine lv_iload_n hx hb dX10_append_3 rfl (lv_at hl 0 rfl) ?_
  refine lv_if_lt (tgt := 39) hx hb dX10_append_4 (by decide) (fun c9 => absurd c9 (by decide)) (fun c11 => ?_)
  refine lv_aload_n hx hb dX10_append_7 rfl (lv_at hl 1 rfl) ?_
  refine va_get (D := D) (ci := 11) (v := .ref v9) (C := RX10) (T := TX10) (N := 39) hx hb hts inX10 hown hK hP 0 rfl rfl 9 (by decide) (hts (.fieldLink RX10 26 "EscrowDeskModel" "buffer" "[I") (by decide +kernel)) (fun _ h9 => h9) rfl dX10_append_8 ?_
  refine lv_aload_n hx hb dX10_append_11 rfl (lv_at hl 1 rfl) ?_
  refine va_get (D := D) (ci := 11) (v := .int 10) (C := RX10) (T := TX10) (N := 39) hx hb hts inX10 hown hK hP 0 rfl rfl 10 (by decide) (hts (.fieldLink RX10 90 "EscrowDeskModel" "buffered" "I") (by decide +kernel)) (fun _ h9 => h9) rfl dX10_append_12 ?_
  refine lv_iload_n hx hb dX10_append_15 rfl (lv_at hl 2 rfl) ?_
  refine lv_iload_n hx hb dX10_append_16 rfl (lv_at hl 0 rfl) ?_
  refine lv_iushr hx hb dX10_append_17 rfl ?_
  refine lv_topi (fun yn12 _ => ?_)
  refine lv_sipush (v := 255) hx hb dX10_append_18 (by decide) ?_
  refine lv_iand hx hb dX10_append_21 ?_
  refine va_iast hx hb hK hP hD hS 1 0 rfl rfl (vp_in_iff.mpr (by decide)) dX10_append_22 (fun H locs hP hD hS => ?_)
  have hP : va_P D vwCl [(w0, .inr (11, [.ref v0, .ref v1, .ref v2, .ref v3, .ref v4, .long 0, .long 0, .int 0, .int th, .ref v9, .int 10, .int 0, .int (-1), .ref v13, .int 0, .int 0, .int 0, .int 0, .int 0, .int 0, .int 0, .int 0, .int 0, .int 0, .int 0, .long 0, .int 0, .ref v27, .ref v28, .ref v29, .ref v30, .ref v31, .ref v32, .ref v33, .ref v34, .ref v35, .ref v36, .ref v37, .int 0])), (v9, .inl (cA 0, 700, .inl (upd fn9 10 (yn12 &&& 255))))] H := hP
  have hD : va_D A [(w0, .inr (11, [.ref v0, .ref v1, .ref v2, .ref v3, .ref v4, .long 0, .long 0, .int 0, .int th, .ref v9, .int 10, .int 0, .int (-1), .ref v13, .int 0, .int 0, .int 0, .int 0, .int 0, .int 0, .int 0, .int 0, .int 0, .int 0, .int 0, .long 0, .int 0, .ref v27, .ref v28, .ref v29, .ref v30, .ref v31, .ref v32, .ref v33, .ref v34, .ref v35, .ref v36, .ref v37, .int 0])), (v9, .inl (cA 0, 700, .inl (upd fn9 10 (yn12 &&& 255))))] := hD
  generalize (upd fn9 10 (yn12 &&& 255)) = fn14 at hP hD
  have hP : va_P D vwCl [(w0, .inr (11, [.ref v0, .ref v1, .ref v2, .ref v3, .ref v4, .long 0, .long 0, .int 0, .int th, .ref v9, .int 10, .int 0, .int (-1), .ref v13, .int 0, .int 0, .int 0, .int 0, .int 0, .int 0, .int 0, .int 0, .int 0, .int 0, .int 0, .long 0, .int 0, .ref v27, .ref v28, .ref v29, .ref v30, .ref v31, .ref v32, .ref v33, .ref v34, .ref v35, .ref v36, .ref v37, .int 0])), (v9, .inl (cA 0, 700, .inl fn14))] H := hP
  have hD : va_D A [(w0, .inr (11, [.ref v0, .ref v1, .ref v2, .ref v3, .ref v4, .long 0, .long 0, .int 0, .int th, .ref v9, .int 10, .int 0, .int (-1), .ref v13, .int 0, .int 0, .int 0, .int 0, .int 0, .int 0, .int 0, .int 0, .int 0, .int 0, .int 0, .long 0, .int 0, .ref v27, .ref v28, .ref v29, .ref v30, .ref v31, .ref v32, .ref v33, .ref v34, .ref v35, .ref v36, .ref v37, .int 0])), (v9, .inl (cA 0, 700, .inl fn14))] := hD
  refine lv_aload_n hx hb dX10_append_23 rfl (lv_at hl 1 rfl) ?_
  refine lv_dup hx hb dX10_append_24 rfl ?_
  refine va_get (D := D) (ci := 11) (v := .int 10) (C := RX10) (T := TX10) (N := 39) hx hb hts inX10 hown hK hP 0 rfl rfl 10 (by decide) (hts (.fieldLink RX10 90 "EscrowDeskModel" "buffered" "I") (by decide +kernel)) (fun _ h9 => h9) rfl dX10_append_25 ?_
  refine lv_iconst (v := 1) hx hb dX10_append_28 (by decide) ?_
  refine lv_iadd hx hb dX10_append_29 ?_
  refine lv_topi (fun yn15 eyn15 => ?_)
  obtain rfl : yn15 = 11 := eyn15.trans (by first | rfl | decide +kernel)
  refine va_put (D := D) (ci := 11) (v := .int 11) (ty := .int) (C := RX10) (T := TX10) (N := 39) hx hb hts inX10 tyX10 tyX10_ok nmX10 hown hK hP hD hS 0 rfl rfl 10 (by decide) (hts (.fieldLink RX10 90 "EscrowDeskModel" "buffered" "I") (by decide +kernel)) (fun _ h9 => h9) rfl (by decide +kernel) rfl rfl (Nat.le_of_ble_eq_true rfl) dX10_append_30 (fun H locs hP hD hS => ?_)
  have hP : va_P D vwCl [(w0, .inr (11, [.ref v0, .ref v1, .ref v2, .ref v3, .ref v4, .long 0, .long 0, .int 0, .int th, .ref v9, .int 11, .int 0, .int (-1), .ref v13, .int 0, .int 0, .int 0, .int 0, .int 0, .int 0, .int 0, .int 0, .int 0, .int 0, .int 0, .long 0, .int 0, .ref v27, .ref v28, .ref v29, .ref v30, .ref v31, .ref v32, .ref v33, .ref v34, .ref v35, .ref v36, .ref v37, .int 0])), (v9, .inl (cA 0, 700, .inl fn14))] H := hP
  have hD : va_D A [(w0, .inr (11, [.ref v0, .ref v1, .ref v2, .ref v3, .ref v4, .long 0, .long 0, .int 0, .int th, .ref v9, .int 11, .int 0, .int (-1), .ref v13, .int 0, .int 0, .int 0, .int 0, .int 0, .int 0, .int 0, .int 0, .int 0, .int 0, .int 0, .long 0, .int 0, .ref v27, .ref v28, .ref v29, .ref v30, .ref v31, .ref v32, .ref v33, .ref v34, .ref v35, .ref v36, .ref v37, .int 0])), (v9, .inl (cA 0, 700, .inl fn14))] := hD
  refine lv_iinc (v := 0) (lv' := [(2, .int 0), (0, .ref w0), (1, .int w)]) hx hb dX10_append_33 hl (k := 0) rfl (by first | rfl | decide +kernel) (by decide) rfl (fun ls hl => ?_)
  refine lv_goto (tgt := 3) hx hb dX10_append_36 (by decide) ?_
  refine lv_iload_n hx hb dX10_append_3 rfl (lv_at hl 0 rfl) ?_
  refine lv_if_lt (tgt := 39) hx hb dX10_append_4 (by decide) (fun c9 => absurd c9 (by decide)) (fun c16 => ?_)
  refine lv_aload_n hx hb dX10_append_7 rfl (lv_at hl 1 rfl) ?_
  refine va_get (D := D) (ci := 11) (v := .ref v9) (C := RX10) (T := TX10) (N := 39) hx hb hts inX10 hown hK hP 0 rfl rfl 9 (by decide) (hts (.fieldLink RX10 26 "EscrowDeskModel" "buffer" "[I") (by decide +kernel)) (fun _ h9 => h9) rfl dX10_append_8 ?_
  refine lv_aload_n hx hb dX10_append_11 rfl (lv_at hl 1 rfl) ?_
  refine va_get (D := D) (ci := 11) (v := .int 11) (C := RX10) (T := TX10) (N := 39) hx hb hts inX10 hown hK hP 0 rfl rfl 10 (by decide) (hts (.fieldLink RX10 90 "EscrowDeskModel" "buffered" "I") (by decide +kernel)) (fun _ h9 => h9) rfl dX10_append_12 ?_
  refine lv_iload_n hx hb dX10_append_15 rfl (lv_at hl 2 rfl) ?_
  refine lv_iload_n hx hb dX10_append_16 rfl (lv_at hl 0 rfl) ?_
  refine lv_iushr hx hb dX10_append_17 rfl ?_
  refine lv_topi (fun yn17 _ => ?_)
  refine lv_sipush (v := 255) hx hb dX10_append_18 (by decide) ?_
  refine lv_iand hx hb dX10_append_21 ?_
  refine va_iast hx hb hK hP hD hS 1 0 rfl rfl (vp_in_iff.mpr (by decide)) dX10_append_22 (fun H locs hP hD hS => ?_)
  have hP : va_P D vwCl [(w0, .inr (11, [.ref v0, .ref v1, .ref v2, .ref v3, .ref v4, .long 0, .long 0, .int 0, .int th, .ref v9, .int 11, .int 0, .int (-1), .ref v13, .int 0, .int 0, .int 0, .int 0, .int 0, .int 0, .int 0, .int 0, .int 0, .int 0, .int 0, .long 0, .int 0, .ref v27, .ref v28, .ref v29, .ref v30, .ref v31, .ref v32, .ref v33, .ref v34, .ref v35, .ref v36, .ref v37, .int 0])), (v9, .inl (cA 0, 700, .inl (upd fn14 11 (yn17 &&& 255))))] H := hP
  have hD : va_D A [(w0, .inr (11, [.ref v0, .ref v1, .ref v2, .ref v3, .ref v4, .long 0, .long 0, .int 0, .int th, .ref v9, .int 11, .int 0, .int (-1), .ref v13, .int 0, .int 0, .int 0, .int 0, .int 0, .int 0, .int 0, .int 0, .int 0, .int 0, .int 0, .long 0, .int 0, .ref v27, .ref v28, .ref v29, .ref v30, .ref v31, .ref v32, .ref v33, .ref v34, .ref v35, .ref v36, .ref v37, .int 0])), (v9, .inl (cA 0, 700, .inl (upd fn14 11 (yn17 &&& 255))))] := hD
  generalize (upd fn14 11 (yn17 &&& 255)) = fn19 at hP hD
  have hP : va_P D vwCl [(w0, .inr (11, [.ref v0, .ref v1, .ref v2, .ref v3, .ref v4, .long 0, .long 0, .int 0, .int th, .ref v9, .int 11, .int 0, .int (-1), .ref v13, .int 0, .int 0, .int 0, .int 0, .int 0, .int 0, .int 0, .int 0, .int 0, .int 0, .int 0, .long 0, .int 0, .ref v27, .ref v28, .ref v29, .ref v30, .ref v31, .ref v32, .ref v33, .ref v34, .ref v35, .ref v36, .ref v37, .int 0])), (v9, .inl (cA 0, 700, .inl fn19))] H := hP
  have hD : va_D A [(w0, .inr (11, [.ref v0, .ref v1, .ref v2, .ref v3, .ref v4, .long 0, .long 0, .int 0, .int th, .ref v9, .int 11, .int 0, .int (-1), .ref v13, .int 0, .int 0, .int 0, .int 0, .int 0, .int 0, .int 0, .int 0, .int 0, .int 0, .int 0, .long 0, .int 0, .ref v27, .ref v28, .ref v29, .ref v30, .ref v31, .ref v32, .ref v33, .ref v34, .ref v35, .ref v36, .ref v37, .int 0])), (v9, .inl (cA 0, 700, .inl fn19))] := hD
  refine lv_aload_n hx hb dX10_append_23 rfl (lv_at hl 1 rfl) ?_
  refine lv_dup hx hb dX10_append_24 rfl ?_
  refine va_get (D := D) (ci := 11) (v := .int 11) (C := RX10) (T := TX10) (N := 39) hx hb hts inX10 hown hK hP 0 rfl rfl 10 (by decide) (hts (.fieldLink RX10 90 "EscrowDeskModel" "buffered" "I") (by decide +kernel)) (fun _ h9 => h9) rfl dX10_append_25 ?_
  refine lv_iconst (v := 1) hx hb dX10_append_28 (by decide) ?_
  refine lv_iadd hx hb dX10_append_29 ?_
  refine lv_topi (fun yn20 eyn20 => ?_)
  obtain rfl : yn20 = 12 := eyn20.trans (by first | rfl | decide +kernel)
  refine va_put (D := D) (ci := 11) (v := .int 12) (ty := .int) (C := RX10) (T := TX10) (N := 39) hx hb hts inX10 tyX10 tyX10_ok nmX10 hown hK hP hD hS 0 rfl rfl 10 (by decide) (hts (.fieldLink RX10 90 "EscrowDeskModel" "buffered" "I") (by decide +kernel)) (fun _ h9 => h9) rfl (by decide +kernel) rfl rfl (Nat.le_of_ble_eq_true rfl) dX10_append_30 (fun H locs hP hD hS => ?_)
  have hP : va_P D vwCl [(w0, .inr (11, [.ref v0, .ref v1, .ref v2, .ref v3, .ref v4, .long 0, .long 0, .int 0, .int th, .ref v9, .int 12, .int 0, .int (-1), .ref v13, .int 0, .int 0, .int 0, .int 0, .int 0, .int 0, .int 0, .int 0, .int 0, .int 0, .int 0, .long 0, .int 0, .ref v27, .ref v28, .ref v29, .ref v30, .ref v31, .ref v32, .ref v33, .ref v34, .ref v35, .ref v36, .ref v37, .int 0])), (v9, .inl (cA 0, 700, .inl fn19))] H := hP
  have hD : va_D A [(w0, .inr (11, [.ref v0, .ref v1, .ref v2, .ref v3, .ref v4, .long 0, .long 0, .int 0, .int th, .ref v9, .int 12, .int 0, .int (-1), .ref v13, .int 0, .int 0, .int 0, .int 0, .int 0, .int 0, .int 0, .int 0, .int 0, .int 0, .int 0, .long 0, .int 0, .ref v27, .ref v28, .ref v29, .ref v30, .ref v31, .ref v32, .ref v33, .ref v34, .ref v35, .ref v36, .ref v37, .int 0])), (v9, .inl (cA 0, 700, .inl fn19))] := hD
  refine lv_iinc (v := (-8)) (lv' := [(2, .int (-8)), (0, .ref w0), (1, .int w)]) hx hb dX10_append_33 hl (k := 0) rfl (by first | rfl | decide +kernel) (by decide) rfl (fun ls hl => ?_)
  refine lv_goto (tgt := 3) hx hb dX10_append_36 (by decide) ?_
  refine lv_iload_n hx hb dX10_append_3 rfl (lv_at hl 0 rfl) ?_
  refine lv_if_lt (tgt := 39) hx hb dX10_append_4 (by decide) (fun c21 => ?_) (fun c9 => absurd c9 (by decide))
  have hP9 := hP.sub (ws' := [(w0, .inr (11, [.ref v0, .ref v1, .ref v2, .ref v3, .ref v4, .long 0, .long 0, .int 0, .int th, .ref v9, .int 12, .int 0, .int (-1), .ref v13, .int 0, .int 0, .int 0, .int 0, .int 0, .int 0, .int 0, .int 0, .int 0, .int 0, .int 0, .long 0, .int 0, .ref v27, .ref v28, .ref v29, .ref v30, .ref v31, .ref v32, .ref v33, .ref v34, .ref v35, .ref v36, .ref v37, .int 0])), (v9, .inl (cA 0, 700, .inl fn19))]) [0, 1] rfl
  have hD9 := hD.sub (ws' := [(w0, .inr (11, [.ref v0, .ref v1, .ref v2, .ref v3, .ref v4, .long 0, .long 0, .int 0, .int th, .ref v9, .int 12, .int 0, .int (-1), .ref v13, .int 0, .int 0, .int 0, .int 0, .int 0, .int 0, .int 0, .int 0, .int 0, .int 0, .int 0, .long 0, .int 0, .ref v27, .ref v28, .ref v29, .ref v30, .ref v31, .ref v32, .ref v33, .ref v34, .ref v35, .ref v36, .ref v37, .int 0])), (v9, .inl (cA 0, 700, .inl fn19))]) [0, 1] (by decide) rfl
  refine W.widen (k := 0) (n := 0) (Nat.le_of_ble_eq_true rfl) (Nat.le_of_ble_eq_true rfl) ?_
  exact W.vret hx hb hr (fun t ht hW => ⟨⟨(), rfl, trivial, fn19, by rw [ht]; exact hP9, hD9⟩, hS.F ht⟩) hS.2.2 dX10_append_39

set_option maxHeartbeats 4000000 in
set_option maxRecDepth 100000 in
/-- append at 12 -/
theorem c_m_append_12 (l : Launch) (D : va_G) (cA : Nat → ClassId) (sa : Nat → Nat) (w0 v0 v1 v2 v3 v4 v9 v13 v27 v28 v29 v30 v31 v32 v33 v34 v35 v36 v37 : Nat) (th w : Int32) (fb : Nat → Int32) (sz : Nat) : Met l yX10_append wsX10_append ({ frames := 0, cells := 0, slots := 0, locals := 0 }) (va_Pc [.ref w0, .int w] (Wd D cA sa [(w0, .inr (11, [.ref v0, .ref v1, .ref v2, .ref v3, .ref v4, .long 0, .long 0, .int 0, .int th, .ref v9, .int 12, .int 0, .int (-1), .ref v13, .int 0, .int 0, .int 0, .int 0, .int 0, .int 0, .int 0, .int 0, .int 0, .int 0, .int 0, .long 0, .int 0, .ref v27, .ref v28, .ref v29, .ref v30, .ref v31, .ref v32, .ref v33, .ref v34, .ref v35, .ref v36, .ref v37, .int 0])), (v9, .inl (cA 0, 700, .inl fb))] sz)) (va_Qv (fun _ : Unit => True) (fun (_ : Unit) t => ∃ fn19 : Nat → Int32, Wq D (va_A [(w0, .inr (11, [.ref v0, .ref v1, .ref v2, .ref v3, .ref v4, .long 0, .long 0, .int 0, .int th, .ref v9, .int 12, .int 0, .int (-1), .ref v13, .int 0, .int 0, .int 0, .int 0, .int 0, .int 0, .int 0, .int 0, .int 0, .int 0, .int 0, .long 0, .int 0, .ref v27, .ref v28, .ref v29, .ref v30, .ref v31, .ref v32, .ref v33, .ref v34, .ref v35, .ref v36, .ref v37, .int 0])), (v9, .inl (cA 0, 700, .inl fb))] sz) [(w0, .inr (11, [.ref v0, .ref v1, .ref v2, .ref v3, .ref v4, .long 0, .long 0, .int 0, .int th, .ref v9, .int 16, .int 0, .int (-1), .ref v13, .int 0, .int 0, .int 0, .int 0, .int 0, .int 0, .int 0, .int 0, .int 0, .int 0, .int 0, .long 0, .int 0, .ref v27, .ref v28, .ref v29, .ref v30, .ref v31, .ref v32, .ref v33, .ref v34, .ref v35, .ref v36, .ref v37, .int 0])), (v9, .inl (cA 0, 700, .inl fn19))] t) (va_A [(w0, .inr (11, [.ref v0, .ref v1, .ref v2, .ref v3, .ref v4, .long 0, .long 0, .int 0, .int th, .ref v9, .int 12, .int 0, .int (-1), .ref v13, .int 0, .int 0, .int 0, .int 0, .int 0, .int 0, .int 0, .int 0, .int 0, .int 0, .int 0, .long 0, .int 0, .ref v27, .ref v28, .ref v29, .ref v30, .ref v31, .ref v32, .ref v33, .ref v34, .ref v35, .ref v36, .ref v37, .int 0])), (v9, .inl (cA 0, 700, .inl fb))] sz)) 0 0 (va_A [(w0, .inr (11, [.ref v0, .ref v1, .ref v2, .ref v3, .ref v4, .long 0, .long 0, .int 0, .int th, .ref v9, .int 12, .int 0, .int (-1), .ref v13, .int 0, .int 0, .int 0, .int 0, .int 0, .int 0, .int 0, .int 0, .int 0, .int 0, .int 0, .long 0, .int 0, .ref v27, .ref v28, .ref v29, .ref v30, .ref v31, .ref v32, .ref v33, .ref v34, .ref v35, .ref v36, .ref v37, .int 0])), (v9, .inl (cA 0, 700, .inl fb))] sz) := by
  refine Met.ofW (cc := cX10_append) (maxL := 3) (ret := none) (by decide) rfl ?_
  intro p e s m args below meth c s₁ B hml hv
  obtain ⟨rfl, hsz, hP, hK, hD0, hC, hZ⟩ := hv
  have hx := B.exec
  have hb := B.bytes
  have hr := B.returns
  have hts := atoms_spec (ws := wsX10_append) B.pre
  have hown : s.vm.findClass RX10 = some m.cls := findClass_of_methodNamed B.named
  have hlocks := B.notSynchronized
  subst hsz
  have hD := hD0.self (sz := s.heap.size)
  generalize hAe : va_A [(w0, .inr (11, [.ref v0, .ref v1, .ref v2, .ref v3, .ref v4, .long 0, .long 0, .int 0, .int th, .ref v9, .int 12, .int 0, .int (-1), .ref v13, .int 0, .int 0, .int 0, .int 0, .int 0, .int 0, .int 0, .int 0, .int 0, .int 0, .int 0, .long 0, .int 0, .ref v27, .ref v28, .ref v29, .ref v30, .ref v31, .ref v32, .ref v33, .ref v34, .ref v35, .ref v36, .ref v37, .int 0])), (v9, .inl (cA 0, 700, .inl fb))] s.heap.size = A at hD hZ ⊢
  have hA : ∀ q : Nat, s.heap.size ≤ q → A q := fun q h => by rw [← hAe]; exact Or.inr h
  have hS : va_S A s.heap s.heap [] := va_S.rf
  have hP : va_P D vwCl [(w0, .inr (11, [.ref v0, .ref v1, .ref v2, .ref v3, .ref v4, .long 0, .long 0, .int 0, .int th, .ref v9, .int 12, .int 0, .int (-1), .ref v13, .int 0, .int 0, .int 0, .int 0, .int 0, .int 0, .int 0, .int 0, .int 0, .int 0, .int 0, .long 0, .int 0, .ref v27, .ref v28, .ref v29, .ref v30, .ref v31, .ref v32, .ref v33, .ref v34, .ref v35, .ref v36, .ref v37, .int 0])), (v9, .inl (cA 0, 700, .inl fb))] s.heap := hP
  have hl := lv_entry ([.ref w0, .int w]) (n := 3) (Nat.le_of_ble_eq_true rfl)
  rw [lg_entry_eq]
  generalize (lg_sl ([.ref w0, .int w]) ++ List.replicate (3 - (lg_sl ([.ref w0, .int w])).length) Slot.unset).toArray = ls at hl ⊢
  have hl : lv_has ls 3 [(0, .ref w0), (1, .int w)] := hl
  have inX10 : ∀ w ∈ u_ws RX10 TX10 39, w ∈ wsX10_append := by decide +kernel
  refine lv_bipush (v := 24) hx hb dX10_append_0 (by decide) ?_
  refine lv_istore_n (lv' := [(2, .int 24), (0, .ref w0), (1, .int w)]) hx hb dX10_append_2 rfl hl (by decide) rfl (fun ls hl => ?_)
  refine lv_iload_n hx hb dX10_append_3 rfl (lv_at hl 0 rfl) ?_
  refine lv_if_lt (tgt := 39) hx hb dX10_append_4 (by decide) (fun c9 => absurd c9 (by decide)) (fun c1 => ?_)
  refine lv_aload_n hx hb dX10_append_7 rfl (lv_at hl 1 rfl) ?_
  refine va_get (D := D) (ci := 11) (v := .ref v9) (C := RX10) (T := TX10) (N := 39) hx hb hts inX10 hown hK hP 0 rfl rfl 9 (by decide) (hts (.fieldLink RX10 26 "EscrowDeskModel" "buffer" "[I") (by decide +kernel)) (fun _ h9 => h9) rfl dX10_append_8 ?_
  refine lv_aload_n hx hb dX10_append_11 rfl (lv_at hl 1 rfl) ?_
  refine va_get (D := D) (ci := 11) (v := .int 12) (C := RX10) (T := TX10) (N := 39) hx hb hts inX10 hown hK hP 0 rfl rfl 10 (by decide) (hts (.fieldLink RX10 90 "EscrowDeskModel" "buffered" "I") (by decide +kernel)) (fun _ h9 => h9) rfl dX10_append_12 ?_
  refine lv_iload_n hx hb dX10_append_15 rfl (lv_at hl 2 rfl) ?_
  refine lv_iload_n hx hb dX10_append_16 rfl (lv_at hl 0 rfl) ?_
  refine lv_iushr hx hb dX10_append_17 rfl ?_
  refine lv_topi (fun yn2 _ => ?_)
  refine lv_sipush (v := 255) hx hb dX10_append_18 (by decide) ?_
  refine lv_iand hx hb dX10_append_21 ?_
  refine va_iast hx hb hK hP hD hS 1 0 rfl rfl (vp_in_iff.mpr (by decide)) dX10_append_22 (fun H locs hP hD hS => ?_)
  have hP : va_P D vwCl [(w0, .inr (11, [.ref v0, .ref v1, .ref v2, .ref v3, .ref v4, .long 0, .long 0, .int 0, .int th, .ref v9, .int 12, .int 0, .int (-1), .ref v13, .int 0, .int 0, .int 0, .int 0, .int 0, .int 0, .int 0, .int 0, .int 0, .int 0, .int 0, .long 0, .int 0, .ref v27, .ref v28, .ref v29, .ref v30, .ref v31, .ref v32, .ref v33, .ref v34, .ref v35, .ref v36, .ref v37, .int 0])), (v9, .inl (cA 0, 700, .inl (upd fb 12 (yn2 &&& 255))))] H := hP
  have hD : va_D A [(w0, .inr (11, [.ref v0, .ref v1, .ref v2, .ref v3, .ref v4, .long 0, .long 0, .int 0, .int th, .ref v9, .int 12, .int 0, .int (-1), .ref v13, .int 0, .int 0, .int 0, .int 0, .int 0, .int 0, .int 0, .int 0, .int 0, .int 0, .int 0, .long 0, .int 0, .ref v27, .ref v28, .ref v29, .ref v30, .ref v31, .ref v32, .ref v33, .ref v34, .ref v35, .ref v36, .ref v37, .int 0])), (v9, .inl (cA 0, 700, .inl (upd fb 12 (yn2 &&& 255))))] := hD
  generalize (upd fb 12 (yn2 &&& 255)) = fn4 at hP hD
  have hP : va_P D vwCl [(w0, .inr (11, [.ref v0, .ref v1, .ref v2, .ref v3, .ref v4, .long 0, .long 0, .int 0, .int th, .ref v9, .int 12, .int 0, .int (-1), .ref v13, .int 0, .int 0, .int 0, .int 0, .int 0, .int 0, .int 0, .int 0, .int 0, .int 0, .int 0, .long 0, .int 0, .ref v27, .ref v28, .ref v29, .ref v30, .ref v31, .ref v32, .ref v33, .ref v34, .ref v35, .ref v36, .ref v37, .int 0])), (v9, .inl (cA 0, 700, .inl fn4))] H := hP
  have hD : va_D A [(w0, .inr (11, [.ref v0, .ref v1, .ref v2, .ref v3, .ref v4, .long 0, .long 0, .int 0, .int th, .ref v9, .int 12, .int 0, .int (-1), .ref v13, .int 0, .int 0, .int 0, .int 0, .int 0, .int 0, .int 0, .int 0, .int 0, .int 0, .int 0, .long 0, .int 0, .ref v27, .ref v28, .ref v29, .ref v30, .ref v31, .ref v32, .ref v33, .ref v34, .ref v35, .ref v36, .ref v37, .int 0])), (v9, .inl (cA 0, 700, .inl fn4))] := hD
  refine lv_aload_n hx hb dX10_append_23 rfl (lv_at hl 1 rfl) ?_
  refine lv_dup hx hb dX10_append_24 rfl ?_
  refine va_get (D := D) (ci := 11) (v := .int 12) (C := RX10) (T := TX10) (N := 39) hx hb hts inX10 hown hK hP 0 rfl rfl 10 (by decide) (hts (.fieldLink RX10 90 "EscrowDeskModel" "buffered" "I") (by decide +kernel)) (fun _ h9 => h9) rfl dX10_append_25 ?_
  refine lv_iconst (v := 1) hx hb dX10_append_28 (by decide) ?_
  refine lv_iadd hx hb dX10_append_29 ?_
  refine lv_topi (fun yn5 eyn5 => ?_)
  obtain rfl : yn5 = 13 := eyn5.trans (by first | rfl | decide +kernel)
  refine va_put (D := D) (ci := 11) (v := .int 13) (ty := .int) (C := RX10) (T := TX10) (N := 39) hx hb hts inX10 tyX10 tyX10_ok nmX10 hown hK hP hD hS 0 rfl rfl 10 (by decide) (hts (.fieldLink RX10 90 "EscrowDeskModel" "buffered" "I") (by decide +kernel)) (fun _ h9 => h9) rfl (by decide +kernel) rfl rfl (Nat.le_of_ble_eq_true rfl) dX10_append_30 (fun H locs hP hD hS => ?_)
  have hP : va_P D vwCl [(w0, .inr (11, [.ref v0, .ref v1, .ref v2, .ref v3, .ref v4, .long 0, .long 0, .int 0, .int th, .ref v9, .int 13, .int 0, .int (-1), .ref v13, .int 0, .int 0, .int 0, .int 0, .int 0, .int 0, .int 0, .int 0, .int 0, .int 0, .int 0, .long 0, .int 0, .ref v27, .ref v28, .ref v29, .ref v30, .ref v31, .ref v32, .ref v33, .ref v34, .ref v35, .ref v36, .ref v37, .int 0])), (v9, .inl (cA 0, 700, .inl fn4))] H := hP
  have hD : va_D A [(w0, .inr (11, [.ref v0, .ref v1, .ref v2, .ref v3, .ref v4, .long 0, .long 0, .int 0, .int th, .ref v9, .int 13, .int 0, .int (-1), .ref v13, .int 0, .int 0, .int 0, .int 0, .int 0, .int 0, .int 0, .int 0, .int 0, .int 0, .int 0, .long 0, .int 0, .ref v27, .ref v28, .ref v29, .ref v30, .ref v31, .ref v32, .ref v33, .ref v34, .ref v35, .ref v36, .ref v37, .int 0])), (v9, .inl (cA 0, 700, .inl fn4))] := hD
  refine lv_iinc (v := 16) (lv' := [(2, .int 16), (0, .ref w0), (1, .int w)]) hx hb dX10_append_33 hl (k := 0) rfl (by first | rfl | decide +kernel) (by decide) rfl (fun ls hl => ?_)
  refine lv_goto (tgt := 3) hx hb dX10_append_36 (by decide) ?_
  refine lv_iload_n hx hb dX10_append_3 rfl (lv_at hl 0 rfl) ?_
  refine lv_if_lt (tgt := 39) hx hb dX10_append_4 (by decide) (fun c9 => absurd c9 (by decide)) (fun c6 => ?_)
  refine lv_aload_n hx hb dX10_append_7 rfl (lv_at hl 1 rfl) ?_
  refine va_get (D := D) (ci := 11) (v := .ref v9) (C := RX10) (T := TX10) (N := 39) hx hb hts inX10 hown hK hP 0 rfl rfl 9 (by decide) (hts (.fieldLink RX10 26 "EscrowDeskModel" "buffer" "[I") (by decide +kernel)) (fun _ h9 => h9) rfl dX10_append_8 ?_
  refine lv_aload_n hx hb dX10_append_11 rfl (lv_at hl 1 rfl) ?_
  refine va_get (D := D) (ci := 11) (v := .int 13) (C := RX10) (T := TX10) (N := 39) hx hb hts inX10 hown hK hP 0 rfl rfl 10 (by decide) (hts (.fieldLink RX10 90 "EscrowDeskModel" "buffered" "I") (by decide +kernel)) (fun _ h9 => h9) rfl dX10_append_12 ?_
  refine lv_iload_n hx hb dX10_append_15 rfl (lv_at hl 2 rfl) ?_
  refine lv_iload_n hx hb dX10_append_16 rfl (lv_at hl 0 rfl) ?_
  refine lv_iushr hx hb dX10_append_17 rfl ?_
  refine lv_topi (fun yn7 _ => ?_)
  refine lv_sipush (v := 255) hx hb dX10_append_18 (by decide) ?_
  refine lv_iand hx hb dX10_append_21 ?_
  refine va_iast hx hb hK hP hD hS 1 0 rfl rfl (vp_in_iff.mpr (by decide)) dX10_append_22 (fun H locs hP hD hS => ?_)
  have hP : va_P D vwCl [(w0, .inr (11, [.ref v0, .ref v1, .ref v2, .ref v3, .ref v4, .long 0, .long 0, .int 0, .int th, .ref v9, .int 13, .int 0, .int (-1), .ref v13, .int 0, .int 0, .int 0, .int 0, .int 0, .int 0, .int 0, .int 0, .int 0, .int 0, .int 0, .long 0, .int 0, .ref v27, .ref v28, .ref v29, .ref v30, .ref v31, .ref v32, .ref v33, .ref v34, .ref v35, .ref v36, .ref v37, .int 0])), (v9, .inl (cA 0, 700, .inl (upd fn4 13 (yn7 &&& 255))))] H := hP
  have hD : va_D A [(w0, .inr (11, [.ref v0, .ref v1, .ref v2, .ref v3, .ref v4, .long 0, .long 0, .int 0, .int th, .ref v9, .int 13, .int 0, .int (-1), .ref v13, .int 0, .int 0, .int 0, .int 0, .int 0, .int 0, .int 0, .int 0, .int 0, .int 0, .int 0, .long 0, .int 0, .ref v27, .ref v28, .ref v29, .ref v30, .ref v31, .ref v32, .ref v33, .ref v34, .ref v35, .ref v36, .ref v37, .int 0])), (v9, .inl (cA 0, 700, .inl (upd fn4 13 (yn7 &&& 255))))] := hD
  generalize (upd fn4 13 (yn7 &&& 255)) = fn9 at hP hD
  have hP : va_P D vwCl [(w0, .inr (11, [.ref v0, .ref v1, .ref v2, .ref v3, .ref v4, .long 0, .long 0, .int 0, .int th, .ref v9, .int 13, .int 0, .int (-1), .ref v13, .int 0, .int 0, .int 0, .int 0, .int 0, .int 0, .int 0, .int 0, .int 0, .int 0, .int 0, .long 0, .int 0, .ref v27, .ref v28, .ref v29, .ref v30, .ref v31, .ref v32, .ref v33, .ref v34, .ref v35, .ref v36, .ref v37, .int 0])), (v9, .inl (cA 0, 700, .inl fn9))] H := hP
  have hD : va_D A [(w0, .inr (11, [.ref v0, .ref v1, .ref v2, .ref v3, .ref v4, .long 0, .long 0, .int 0, .int th, .ref v9, .int 13, .int 0, .int (-1), .ref v13, .int 0, .int 0, .int 0, .int 0, .int 0, .int 0, .int 0, .int 0, .int 0, .int 0, .int 0, .long 0, .int 0, .ref v27, .ref v28, .ref v29, .ref v30, .ref v31, .ref v32, .ref v33, .ref v34, .ref v35, .ref v36, .ref v37, .int 0])), (v9, .inl (cA 0, 700, .inl fn9))] := hD
  refine lv_aload_n hx hb dX10_append_23 rfl (lv_at hl 1 rfl) ?_
  refine lv_dup hx hb dX10_append_24 rfl ?_
  refine va_get (D := D) (ci := 11) (v := .int 13) (C := RX10) (T := TX10) (N := 39) hx hb hts inX10 hown hK hP 0 rfl rfl 10 (by decide) (hts (.fieldLink RX10 90 "EscrowDeskModel" "buffered" "I") (by decide +kernel)) (fun _ h9 => h9) rfl dX10_append_25 ?_
  refine lv_iconst (v := 1) hx hb dX10_append_28 (by decide) ?_
  refine lv_iadd hx hb dX10_append_29 ?_
  refine lv_topi (fun yn10 eyn10 => ?_)
  obtain rfl : yn10 = 14 := eyn10.trans (by first | rfl | decide +kernel)
  refine va_put (D := D) (ci := 11) (v := .int 14) (ty := .int) (C := RX10) (T := TX10) (N := 39) hx hb hts inX10 tyX10 tyX10_ok nmX10 hown hK hP hD hS 0 rfl rfl 10 (by decide) (hts (.fieldLink RX10 90 "EscrowDeskModel" "buffered" "I") (by decide +kernel)) (fun _ h9 => h9) rfl (by decide +kernel) rfl rfl (Nat.le_of_ble_eq_true rfl) dX10_append_30 (fun H locs hP hD hS => ?_)
  have hP : va_P D vwCl [(w0, .inr (11, [.ref v0, .ref v1, .ref v2, .ref v3, .ref v4, .long 0, .long 0, .int 0, .int th, .ref v9, .int 14, .int 0, .int (-1), .ref v13, .int 0, .int 0, .int 0, .int 0, .int 0, .int 0, .int 0, .int 0, .int 0, .int 0, .int 0, .long 0, .int 0, .ref v27, .ref v28, .ref v29, .ref v30, .ref v31, .ref v32, .ref v33, .ref v34, .ref v35, .ref v36, .ref v37, .int 0])), (v9, .inl (cA 0, 700, .inl fn9))] H := hP
  have hD : va_D A [(w0, .inr (11, [.ref v0, .ref v1, .ref v2, .ref v3, .ref v4, .long 0, .long 0, .int 0, .int th, .ref v9, .int 14, .int 0, .int (-1), .ref v13, .int 0, .int 0, .int 0, .int 0, .int 0, .int 0, .int 0, .int 0, .int 0, .int 0, .int 0, .long 0, .int 0, .ref v27, .ref v28, .ref v29, .ref v30, .ref v31, .ref v32, .ref v33, .ref v34, .ref v35, .ref v36, .ref v37, .int 0])), (v9, .inl (cA 0, 700, .inl fn9))] := hD
  refine lv_iinc (v := 8) (lv' := [(2, .int 8), (0, .ref w0), (1, .int w)]) hx hb dX10_append_33 hl (k := 0) rfl (by first | rfl | decide +kernel) (by decide) rfl (fun ls hl => ?_)
  refine lv_goto (tgt := 3) hx hb dX10_append_36 (by decide) ?_
  refine lv_iload_n hx hb dX10_append_3 rfl (lv_at hl 0 rfl) ?_
  refine lv_if_lt (tgt := 39) hx hb dX10_append_4 (by decide) (fun c9 => absurd c9 (by decide)) (fun c11 => ?_)
  refine lv_aload_n hx hb dX10_append_7 rfl (lv_at hl 1 rfl) ?_
  refine va_get (D := D) (ci := 11) (v := .ref v9) (C := RX10) (T := TX10) (N := 39) hx hb hts inX10 hown hK hP 0 rfl rfl 9 (by decide) (hts (.fieldLink RX10 26 "EscrowDeskModel" "buffer" "[I") (by decide +kernel)) (fun _ h9 => h9) rfl dX10_append_8 ?_
  refine lv_aload_n hx hb dX10_append_11 rfl (lv_at hl 1 rfl) ?_
  refine va_get (D := D) (ci := 11) (v := .int 14) (C := RX10) (T := TX10) (N := 39) hx hb hts inX10 hown hK hP 0 rfl rfl 10 (by decide) (hts (.fieldLink RX10 90 "EscrowDeskModel" "buffered" "I") (by decide +kernel)) (fun _ h9 => h9) rfl dX10_append_12 ?_
  refine lv_iload_n hx hb dX10_append_15 rfl (lv_at hl 2 rfl) ?_
  refine lv_iload_n hx hb dX10_append_16 rfl (lv_at hl 0 rfl) ?_
  refine lv_iushr hx hb dX10_append_17 rfl ?_
  refine lv_topi (fun yn12 _ => ?_)
  refine lv_sipush (v := 255) hx hb dX10_append_18 (by decide) ?_
  refine lv_iand hx hb dX10_append_21 ?_
  refine va_iast hx hb hK hP hD hS 1 0 rfl rfl (vp_in_iff.mpr (by decide)) dX10_append_22 (fun H locs hP hD hS => ?_)
  have hP : va_P D vwCl [(w0, .inr (11, [.ref v0, .ref v1, .ref v2, .ref v3, .ref v4, .long 0, .long 0, .int 0, .int th, .ref v9, .int 14, .int 0, .int (-1), .ref v13, .int 0, .int 0, .int 0, .int 0, .int 0, .int 0, .int 0, .int 0, .int 0, .int 0, .int 0, .long 0, .int 0, .ref v27, .ref v28, .ref v29, .ref v30, .ref v31, .ref v32, .ref v33, .ref v34, .ref v35, .ref v36, .ref v37, .int 0])), (v9, .inl (cA 0, 700, .inl (upd fn9 14 (yn12 &&& 255))))] H := hP
  have hD : va_D A [(w0, .inr (11, [.ref v0, .ref v1, .ref v2, .ref v3, .ref v4, .long 0, .long 0, .int 0, .int th, .ref v9, .int 14, .int 0, .int (-1), .ref v13, .int 0, .int 0, .int 0, .int 0, .int 0, .int 0, .int 0, .int 0, .int 0, .int 0, .int 0, .long 0, .int 0, .ref v27, .ref v28, .ref v29, .ref v30, .ref v31, .ref v32, .ref v33, .ref v34, .ref v35, .ref v36, .ref v37, .int 0])), (v9, .inl (cA 0, 700, .inl (upd fn9 14 (yn12 &&& 255))))] := hD
  generalize (upd fn9 14 (yn12 &&& 255)) = fn14 at hP hD
  have hP : va_P D vwCl [(w0, .inr (11, [.ref v0, .ref v1, .ref v2, .ref v3, .ref v4, .long 0, .long 0, .int 0, .int th, .ref v9, .int 14, .int 0, .int (-1), .ref v13, .int 0, .int 0, .int 0, .int 0, .int 0, .int 0, .int 0, .int 0, .int 0, .int 0, .int 0, .long 0, .int 0, .ref v27, .ref v28, .ref v29, .ref v30, .ref v31, .ref v32, .ref v33, .ref v34, .ref v35, .ref v36, .ref v37, .int 0])), (v9, .inl (cA 0, 700, .inl fn14))] H := hP
  have hD : va_D A [(w0, .inr (11, [.ref v0, .ref v1, .ref v2, .ref v3, .ref v4, .long 0, .long 0, .int 0, .int th, .ref v9, .int 14, .int 0, .int (-1), .ref v13, .int 0, .int 0, .int 0, .int 0, .int 0, .int 0, .int 0, .int 0, .int 0, .int 0, .int 0, .long 0, .int 0, .ref v27, .ref v28, .ref v29, .ref v30, .ref v31, .ref v32, .ref v33, .ref v34, .ref v35, .ref v36, .ref v37, .int 0])), (v9, .inl (cA 0, 700, .inl fn14))] := hD
  refine lv_aload_n hx hb dX10_append_23 rfl (lv_at hl 1 rfl) ?_
  refine lv_dup hx hb dX10_append_24 rfl ?_
  refine va_get (D := D) (ci := 11) (v := .int 14) (C := RX10) (T := TX10) (N := 39) hx hb hts inX10 hown hK hP 0 rfl rfl 10 (by decide) (hts (.fieldLink RX10 90 "EscrowDeskModel" "buffered" "I") (by decide +kernel)) (fun _ h9 => h9) rfl dX10_append_25 ?_
  refine lv_iconst (v := 1) hx hb dX10_append_28 (by decide) ?_
  refine lv_iadd hx hb dX10_append_29 ?_
  refine lv_topi (fun yn15 eyn15 => ?_)
  obtain rfl : yn15 = 15 := eyn15.trans (by first | rfl | decide +kernel)
  refine va_put (D := D) (ci := 11) (v := .int 15) (ty := .int) (C := RX10) (T := TX10) (N := 39) hx hb hts inX10 tyX10 tyX10_ok nmX10 hown hK hP hD hS 0 rfl rfl 10 (by decide) (hts (.fieldLink RX10 90 "EscrowDeskModel" "buffered" "I") (by decide +kernel)) (fun _ h9 => h9) rfl (by decide +kernel) rfl rfl (Nat.le_of_ble_eq_true rfl) dX10_append_30 (fun H locs hP hD hS => ?_)
  have hP : va_P D vwCl [(w0, .inr (11, [.ref v0, .ref v1, .ref v2, .ref v3, .ref v4, .long 0, .long 0, .int 0, .int th, .ref v9, .int 15, .int 0, .int (-1), .ref v13, .int 0, .int 0, .int 0, .int 0, .int 0, .int 0, .int 0, .int 0, .int 0, .int 0, .int 0, .long 0, .int 0, .ref v27, .ref v28, .ref v29, .ref v30, .ref v31, .ref v32, .ref v33, .ref v34, .ref v35, .ref v36, .ref v37, .int 0])), (v9, .inl (cA 0, 700, .inl fn14))] H := hP
  have hD : va_D A [(w0, .inr (11, [.ref v0, .ref v1, .ref v2, .ref v3, .ref v4, .long 0, .long 0, .int 0, .int th, .ref v9, .int 15, .int 0, .int (-1), .ref v13, .int 0, .int 0, .int 0, .int 0, .int 0, .int 0, .int 0, .int 0, .int 0, .int 0, .int 0, .long 0, .int 0, .ref v27, .ref v28, .ref v29, .ref v30, .ref v31, .ref v32, .ref v33, .ref v34, .ref v35, .ref v36, .ref v37, .int 0])), (v9, .inl (cA 0, 700, .inl fn14))] := hD
  refine lv_iinc (v := 0) (lv' := [(2, .int 0), (0, .ref w0), (1, .int w)]) hx hb dX10_append_33 hl (k := 0) rfl (by first | rfl | decide +kernel) (by decide) rfl (fun ls hl => ?_)
  refine lv_goto (tgt := 3) hx hb dX10_append_36 (by decide) ?_
  refine lv_iload_n hx hb dX10_append_3 rfl (lv_at hl 0 rfl) ?_
  refine lv_if_lt (tgt := 39) hx hb dX10_append_4 (by decide) (fun c9 => absurd c9 (by decide)) (fun c16 => ?_)
  refine lv_aload_n hx hb dX10_append_7 rfl (lv_at hl 1 rfl) ?_
  refine va_get (D := D) (ci := 11) (v := .ref v9) (C := RX10) (T := TX10) (N := 39) hx hb hts inX10 hown hK hP 0 rfl rfl 9 (by decide) (hts (.fieldLink RX10 26 "EscrowDeskModel" "buffer" "[I") (by decide +kernel)) (fun _ h9 => h9) rfl dX10_append_8 ?_
  refine lv_aload_n hx hb dX10_append_11 rfl (lv_at hl 1 rfl) ?_
  refine va_get (D := D) (ci := 11) (v := .int 15) (C := RX10) (T := TX10) (N := 39) hx hb hts inX10 hown hK hP 0 rfl rfl 10 (by decide) (hts (.fieldLink RX10 90 "EscrowDeskModel" "buffered" "I") (by decide +kernel)) (fun _ h9 => h9) rfl dX10_append_12 ?_
  refine lv_iload_n hx hb dX10_append_15 rfl (lv_at hl 2 rfl) ?_
  refine lv_iload_n hx hb dX10_append_16 rfl (lv_at hl 0 rfl) ?_
  refine lv_iushr hx hb dX10_append_17 rfl ?_
  refine lv_topi (fun yn17 _ => ?_)
  refine lv_sipush (v := 255) hx hb dX10_append_18 (by decide) ?_
  refine lv_iand hx hb dX10_append_21 ?_
  refine va_iast hx hb hK hP hD hS 1 0 rfl rfl (vp_in_iff.mpr (by decide)) dX10_append_22 (fun H locs hP hD hS => ?_)
  have hP : va_P D vwCl [(w0, .inr (11, [.ref v0, .ref v1, .ref v2, .ref v3, .ref v4, .long 0, .long 0, .int 0, .int th, .ref v9, .int 15, .int 0, .int (-1), .ref v13, .int 0, .int 0, .int 0, .int 0, .int 0, .int 0, .int 0, .int 0, .int 0, .int 0, .int 0, .long 0, .int 0, .ref v27, .ref v28, .ref v29, .ref v30, .ref v31, .ref v32, .ref v33, .ref v34, .ref v35, .ref v36, .ref v37, .int 0])), (v9, .inl (cA 0, 700, .inl (upd fn14 15 (yn17 &&& 255))))] H := hP
  have hD : va_D A [(w0, .inr (11, [.ref v0, .ref v1, .ref v2, .ref v3, .ref v4, .long 0, .long 0, .int 0, .int th, .ref v9, .int 15, .int 0, .int (-1), .ref v13, .int 0, .int 0, .int 0, .int 0, .int 0, .int 0, .int 0, .int 0, .int 0, .int 0, .int 0, .long 0, .int 0, .ref v27, .ref v28, .ref v29, .ref v30, .ref v31, .ref v32, .ref v33, .ref v34, .ref v35, .ref v36, .ref v37, .int 0])), (v9, .inl (cA 0, 700, .inl (upd fn14 15 (yn17 &&& 255))))] := hD
  generalize (upd fn14 15 (yn17 &&& 255)) = fn19 at hP hD
  have hP : va_P D vwCl [(w0, .inr (11, [.ref v0, .ref v1, .ref v2, .ref v3, .ref v4, .long 0, .long 0, .int 0, .int th, .ref v9, .int 15, .int 0, .int (-1), .ref v13, .int 0, .int 0, .int 0, .int 0, .int 0, .int 0, .int 0, .int 0, .int 0, .int 0, .int 0, .long 0, .int 0, .ref v27, .ref v28, .ref v29, .ref v30, .ref v31, .ref v32, .ref v33, .ref v34, .ref v35, .ref v36, .ref v37, .int 0])), (v9, .inl (cA 0, 700, .inl fn19))] H := hP
  have hD : va_D A [(w0, .inr (11, [.ref v0, .ref v1, .ref v2, .ref v3, .ref v4, .long 0, .long 0, .int 0, .int th, .ref v9, .int 15, .int 0, .int (-1), .ref v13, .int 0, .int 0, .int 0, .int 0, .int 0, .int 0, .int 0, .int 0, .int 0, .int 0, .int 0, .long 0, .int 0, .ref v27, .ref v28, .ref v29, .ref v30, .ref v31, .ref v32, .ref v33, .ref v34, .ref v35, .ref v36, .ref v37, .int 0])), (v9, .inl (cA 0, 700, .inl fn19))] := hD
  refine lv_aload_n hx hb dX10_append_23 rfl (lv_at hl 1 rfl) ?_
  refine lv_dup hx hb dX10_append_24 rfl ?_
  refine va_get (D := D) (ci := 11) (v := .int 15) (C := RX10) (T := TX10) (N := 39) hx hb hts inX10 hown hK hP 0 rfl rfl 10 (by decide) (hts (.fieldLink RX10 90 "EscrowDeskModel" "buffered" "I") (by decide +kernel)) (fun _ h9 => h9) rfl dX10_append_25 ?_
  refine lv_iconst (v := 1) hx hb dX10_append_28 (by decide) ?_
  refine lv_iadd hx hb dX10_append_29 ?_
  refine lv_topi (fun yn20 eyn20 => ?_)
  obtain rfl : yn20 = 16 := eyn20.trans (by first | rfl | decide +kernel)
  refine va_put (D := D) (ci := 11) (v := .int 16) (ty := .int) (C := RX10) (T := TX10) (N := 39) hx hb hts inX10 tyX10 tyX10_ok nmX10 hown hK hP hD hS 0 rfl rfl 10 (by decide) (hts (.fieldLink RX10 90 "EscrowDeskModel" "buffered" "I") (by decide +kernel)) (fun _ h9 => h9) rfl (by decide +kernel) rfl rfl (Nat.le_of_ble_eq_true rfl) dX10_append_30 (fun H locs hP hD hS => ?_)
  have hP : va_P D vwCl [(w0, .inr (11, [.ref v0, .ref v1, .ref v2, .ref v3, .ref v4, .long 0, .long 0, .int 0, .int th, .ref v9, .int 16, .int 0, .int (-1), .ref v13, .int 0, .int 0, .int 0, .int 0, .int 0, .int 0, .int 0, .int 0, .int 0, .int 0, .int 0, .long 0, .int 0, .ref v27, .ref v28, .ref v29, .ref v30, .ref v31, .ref v32, .ref v33, .ref v34, .ref v35, .ref v36, .ref v37, .int 0])), (v9, .inl (cA 0, 700, .inl fn19))] H := hP
  have hD : va_D A [(w0, .inr (11, [.ref v0, .ref v1, .ref v2, .ref v3, .ref v4, .long 0, .long 0, .int 0, .int th, .ref v9, .int 16, .int 0, .int (-1), .ref v13, .int 0, .int 0, .int 0, .int 0, .int 0, .int 0, .int 0, .int 0, .int 0, .int 0, .int 0, .long 0, .int 0, .ref v27, .ref v28, .ref v29, .ref v30, .ref v31, .ref v32, .ref v33, .ref v34, .ref v35, .ref v36, .ref v37, .int 0])), (v9, .inl (cA 0, 700, .inl fn19))] := hD
  refine lv_iinc (v := (-8)) (lv' := [(2, .int (-8)), (0, .ref w0), (1, .int w)]) hx hb dX10_append_33 hl (k := 0) rfl (by first | rfl | decide +kernel) (by decide) rfl (fun ls hl => ?_)
  refine lv_goto (tgt := 3) hx hb dX10_append_36 (by decide) ?_
  refine lv_iload_n hx hb dX10_append_3 rfl (lv_at hl 0 rfl) ?_
  refine lv_if_lt (tgt := 39) hx hb dX10_append_4 (by decide) (fun c21 => ?_) (fun c9 => absurd c9 (by decide))
  have hP9 := hP.sub (ws' := [(w0, .inr (11, [.ref v0, .ref v1, .ref v2, .ref v3, .ref v4, .long 0, .long 0, .int 0, .int th, .ref v9, .int 16, .int 0, .int (-1), .ref v13, .int 0, .int 0, .int 0, .int 0, .int 0, .int 0, .int 0, .int 0, .int 0, .int 0, .int 0, .long 0, .int 0, .ref v27, .ref v28, .ref v29, .ref v30, .ref v31, .ref v32, .ref v33, .ref v34, .ref v35, .ref v36, .ref v37, .int 0])), (v9, .inl (cA 0, 700, .inl fn19))]) [0, 1] rfl
  have hD9 := hD.sub (ws' := [(w0, .inr (11, [.ref v0, .ref v1, .ref v2, .ref v3, .ref v4, .long 0, .long 0, .int 0, .int th, .ref v9, .int 16, .int 0, .int (-1), .ref v13, .int 0, .int 0, .int 0, .int 0, .int 0, .int 0, .int 0, .int 0, .int 0, .int 0, .int 0, .long 0, .int 0, .ref v27, .ref v28, .ref v29, .ref v30, .ref v31, .ref v32, .ref v33, .ref v34, .ref v35, .ref v36, .ref v37, .int 0])), (v9, .inl (cA 0, 700, .inl fn19))]) [0, 1] (by decide) rfl
  refine W.widen (k := 0) (n := 0) (Nat.le_of_ble_eq_true rfl) (Nat.le_of_ble_eq_true rfl) ?_
  exact W.vret hx hb hr (fun t ht hW => ⟨⟨(), rfl, trivial, fn19, by rw [ht]; exact hP9, hD9⟩, hS.F ht⟩) hS.2.2 dX10_append_39

set_option maxHeartbeats 4000000 in
set_option maxRecDepth 100000 in
/-- append at 16 -/
theorem c_m_append_16 (l : Launch) (D : va_G) (cA : Nat → ClassId) (sa : Nat → Nat) (w0 v0 v1 v2 v3 v4 v9 v13 v27 v28 v29 v30 v31 v32 v33 v34 v35 v36 v37 : Nat) (th w : Int32) (fb : Nat → Int32) (sz : Nat) : Met l yX10_append wsX10_append ({ frames := 0, cells := 0, slots := 0, locals := 0 }) (va_Pc [.ref w0, .int w] (Wd D cA sa [(w0, .inr (11, [.ref v0, .ref v1, .ref v2, .ref v3, .ref v4, .long 0, .long 0, .int 0, .int th, .ref v9, .int 16, .int 0, .int (-1), .ref v13, .int 0, .int 0, .int 0, .int 0, .int 0, .int 0, .int 0, .int 0, .int 0, .int 0, .int 0, .long 0, .int 0, .ref v27, .ref v28, .ref v29, .ref v30, .ref v31, .ref v32, .ref v33, .ref v34, .ref v35, .ref v36, .ref v37, .int 0])), (v9, .inl (cA 0, 700, .inl fb))] sz)) (va_Qv (fun _ : Unit => True) (fun (_ : Unit) t => ∃ fn19 : Nat → Int32, Wq D (va_A [(w0, .inr (11, [.ref v0, .ref v1, .ref v2, .ref v3, .ref v4, .long 0, .long 0, .int 0, .int th, .ref v9, .int 16, .int 0, .int (-1), .ref v13, .int 0, .int 0, .int 0, .int 0, .int 0, .int 0, .int 0, .int 0, .int 0, .int 0, .int 0, .long 0, .int 0, .ref v27, .ref v28, .ref v29, .ref v30, .ref v31, .ref v32, .ref v33, .ref v34, .ref v35, .ref v36, .ref v37, .int 0])), (v9, .inl (cA 0, 700, .inl fb))] sz) [(w0, .inr (11, [.ref v0, .ref v1, .ref v2, .ref v3, .ref v4, .long 0, .long 0, .int 0, .int th, .ref v9, .int 20, .int 0, .int (-1), .ref v13, .int 0, .int 0, .int 0, .int 0, .int 0, .int 0, .int 0, .int 0, .int 0, .int 0, .int 0, .long 0, .int 0, .ref v27, .ref v28, .ref v29, .ref v30, .ref v31, .ref v32, .ref v33, .ref v34, .ref v35, .ref v36, .ref v37, .int 0])), (v9, .inl (cA 0, 700, .inl fn19))] t) (va_A [(w0, .inr (11, [.ref v0, .ref v1, .ref v2, .ref v3, .ref v4, .long 0, .long 0, .int 0, .int th, .ref v9, .int 16, .int 0, .int (-1), .ref v13, .int 0, .int 0, .int 0, .int 0, .int 0, .int 0, .int 0, .int 0, .int 0, .int 0, .int 0, .long 0, .int 0, .ref v27, .ref v28, .ref v29, .ref v30, .ref v31, .ref v32, .ref v33, .ref v34, .ref v35, .ref v36, .ref v37, .int 0])), (v9, .inl (cA 0, 700, .inl fb))] sz)) 0 0 (va_A [(w0, .inr (11, [.ref v0, .ref v1, .ref v2, .ref v3, .ref v4, .long 0, .long 0, .int 0, .int th, .ref v9, .int 16, .int 0, .int (-1), .ref v13, .int 0, .int 0, .int 0, .int 0, .int 0, .int 0, .int 0, .int 0, .int 0, .int 0, .int 0, .long 0, .int 0, .ref v27, .ref v28, .ref v29, .ref v30, .ref v31, .ref v32, .ref v33, .ref v34, .ref v35, .ref v36, .ref v37, .int 0])), (v9, .inl (cA 0, 700, .inl fb))] sz) := by
  refine Met.ofW (cc := cX10_append) (maxL := 3) (ret := none) (by decide) rfl ?_
  intro p e s m args below meth c s₁ B hml hv
  obtain ⟨rfl, hsz, hP, hK, hD0, hC, hZ⟩ := hv
  have hx := B.exec
  have hb := B.bytes
  have hr := B.returns
  have hts := atoms_spec (ws := wsX10_append) B.pre
  have hown : s.vm.findClass RX10 = some m.cls := findClass_of_methodNamed B.named
  have hlocks := B.notSynchronized
  subst hsz
  have hD := hD0.self (sz := s.heap.size)
  generalize hAe : va_A [(w0, .inr (11, [.ref v0, .ref v1, .ref v2, .ref v3, .ref v4, .long 0, .long 0, .int 0, .int th, .ref v9, .int 16, .int 0, .int (-1), .ref v13, .int 0, .int 0, .int 0, .int 0, .int 0, .int 0, .int 0, .int 0, .int 0, .int 0, .int 0, .long 0, .int 0, .ref v27, .ref v28, .ref v29, .ref v30, .ref v31, .ref v32, .ref v33, .ref v34, .ref v35, .ref v36, .ref v37, .int 0])), (v9, .inl (cA 0, 700, .inl fb))] s.heap.size = A at hD hZ ⊢
  have hA : ∀ q : Nat, s.heap.size ≤ q → A q := fun q h => by rw [← hAe]; exact Or.inr h
  have hS : va_S A s.heap s.heap [] := va_S.rf
  have hP : va_P D vwCl [(w0, .inr (11, [.ref v0, .ref v1, .ref v2, .ref v3, .ref v4, .long 0, .long 0, .int 0, .int th, .ref v9, .int 16, .int 0, .int (-1), .ref v13, .int 0, .int 0, .int 0, .int 0, .int 0, .int 0, .int 0, .int 0, .int 0, .int 0, .int 0, .long 0, .int 0, .ref v27, .ref v28, .ref v29, .ref v30, .ref v31, .ref v32, .ref v33, .ref v34, .ref v35, .ref v36, .ref v37, .int 0])), (v9, .inl (cA 0, 700, .inl fb))] s.heap := hP
  have hl := lv_entry ([.ref w0, .int w]) (n := 3) (Nat.le_of_ble_eq_true rfl)
  rw [lg_entry_eq]
  generalize (lg_sl ([.ref w0, .int w]) ++ List.replicate (3 - (lg_sl ([.ref w0, .int w])).length) Slot.unset).toArray = ls at hl ⊢
  have hl : lv_has ls 3 [(0, .ref w0), (1, .int w)] := hl
  have inX10 : ∀ w ∈ u_ws RX10 TX10 39, w ∈ wsX10_append := by decide +kernel
  refine lv_bipush (v := 24) hx hb dX10_append_0 (by decide) ?_
  refine lv_istore_n (lv' := [(2, .int 24), (0, .ref w0), (1, .int w)]) hx hb dX10_append_2 rfl hl (by decide) rfl (fun ls hl => ?_)
  refine lv_iload_n hx hb dX10_append_3 rfl (lv_at hl 0 rfl) ?_
  refine lv_if_lt (tgt := 39) hx hb dX10_append_4 (by decide) (fun c9 => absurd c9 (by decide)) (fun c1 => ?_)
  refine lv_aload_n hx hb dX10_append_7 rfl (lv_at hl 1 rfl) ?_
  refine va_get (D := D) (ci := 11) (v := .ref v9) (C := RX10) (T := TX10) (N := 39) hx hb hts inX10 hown hK hP 0 rfl rfl 9 (by decide) (hts (.fieldLink RX10 26 "EscrowDeskModel" "buffer" "[I") (by decide +kernel)) (fun _ h9 => h9) rfl dX10_append_8 ?_
  refine lv_aload_n hx hb dX10_append_11 rfl (lv_at hl 1 rfl) ?_
  refine va_get (D := D) (ci := 11) (v := .int 16) (C := RX10) (T := TX10) (N := 39) hx hb hts inX10 hown hK hP 0 rfl rfl 10 (by decide) (hts (.fieldLink RX10 90 "EscrowDeskModel" "buffered" "I") (by decide +kernel)) (fun _ h9 => h9) rfl dX10_append_12 ?_
  refine lv_iload_n hx hb dX10_append_15 rfl (lv_at hl 2 rfl) ?_
  refine lv_iload_n hx hb dX10_append_16 rfl (lv_at hl 0 rfl) ?_
  refine lv_iushr hx hb dX10_append_17 rfl ?_
  refine lv_topi (fun yn2 _ => ?_)
  refine lv_sipush (v := 255) hx hb dX10_append_18 (by decide) ?_
  refine lv_iand hx hb dX10_append_21 ?_
  refine va_iast hx hb hK hP hD hS 1 0 rfl rfl (vp_in_iff.mpr (by decide)) dX10_append_22 (fun H locs hP hD hS => ?_)
  have hP : va_P D vwCl [(w0, .inr (11, [.ref v0, .ref v1, .ref v2, .ref v3, .ref v4, .long 0, .long 0, .int 0, .int th, .ref v9, .int 16, .int 0, .int (-1), .ref v13, .int 0, .int 0, .int 0, .int 0, .int 0, .int 0, .int 0, .int 0, .int 0, .int 0, .int 0, .long 0, .int 0, .ref v27, .ref v28, .ref v29, .ref v30, .ref v31, .ref v32, .ref v33, .ref v34, .ref v35, .ref v36, .ref v37, .int 0])), (v9, .inl (cA 0, 700, .inl (upd fb 16 (yn2 &&& 255))))] H := hP
  have hD : va_D A [(w0, .inr (11, [.ref v0, .ref v1, .ref v2, .ref v3, .ref v4, .long 0, .long 0, .int 0, .int th, .ref v9, .int 16, .int 0, .int (-1), .ref v13, .int 0, .int 0, .int 0, .int 0, .int 0, .int 0, .int 0, .int 0, .int 0, .int 0, .int 0, .long 0, .int 0, .ref v27, .ref v28, .ref v29, .ref v30, .ref v31, .ref v32, .ref v33, .ref v34, .ref v35, .ref v36, .ref v37, .int 0])), (v9, .inl (cA 0, 700, .inl (upd fb 16 (yn2 &&& 255))))] := hD
  generalize (upd fb 16 (yn2 &&& 255)) = fn4 at hP hD
  have hP : va_P D vwCl [(w0, .inr (11, [.ref v0, .ref v1, .ref v2, .ref v3, .ref v4, .long 0, .long 0, .int 0, .int th, .ref v9, .int 16, .int 0, .int (-1), .ref v13, .int 0, .int 0, .int 0, .int 0, .int 0, .int 0, .int 0, .int 0, .int 0, .int 0, .int 0, .long 0, .int 0, .ref v27, .ref v28, .ref v29, .ref v30, .ref v31, .ref v32, .ref v33, .ref v34, .ref v35, .ref v36, .ref v37, .int 0])), (v9, .inl (cA 0, 700, .inl fn4))] H := hP
  have hD : va_D A [(w0, .inr (11, [.ref v0, .ref v1, .ref v2, .ref v3, .ref v4, .long 0, .long 0, .int 0, .int th, .ref v9, .int 16, .int 0, .int (-1), .ref v13, .int 0, .int 0, .int 0, .int 0, .int 0, .int 0, .int 0, .int 0, .int 0, .int 0, .int 0, .long 0, .int 0, .ref v27, .ref v28, .ref v29, .ref v30, .ref v31, .ref v32, .ref v33, .ref v34, .ref v35, .ref v36, .ref v37, .int 0])), (v9, .inl (cA 0, 700, .inl fn4))] := hD
  refine lv_aload_n hx hb dX10_append_23 rfl (lv_at hl 1 rfl) ?_
  refine lv_dup hx hb dX10_append_24 rfl ?_
  refine va_get (D := D) (ci := 11) (v := .int 16) (C := RX10) (T := TX10) (N := 39) hx hb hts inX10 hown hK hP 0 rfl rfl 10 (by decide) (hts (.fieldLink RX10 90 "EscrowDeskModel" "buffered" "I") (by decide +kernel)) (fun _ h9 => h9) rfl dX10_append_25 ?_
  refine lv_iconst (v := 1) hx hb dX10_append_28 (by decide) ?_
  refine lv_iadd hx hb dX10_append_29 ?_
  refine lv_topi (fun yn5 eyn5 => ?_)
  obtain rfl : yn5 = 17 := eyn5.trans (by first | rfl | decide +kernel)
  refine va_put (D := D) (ci := 11) (v := .int 17) (ty := .int) (C := RX10) (T := TX10) (N := 39) hx hb hts inX10 tyX10 tyX10_ok nmX10 hown hK hP hD hS 0 rfl rfl 10 (by decide) (hts (.fieldLink RX10 90 "EscrowDeskModel" "buffered" "I") (by decide +kernel)) (fun _ h9 => h9) rfl (by decide +kernel) rfl rfl (Nat.le_of_ble_eq_true rfl) dX10_append_30 (fun H locs hP hD hS => ?_)
  have hP : va_P D vwCl [(w0, .inr (11, [.ref v0, .ref v1, .ref v2, .ref v3, .ref v4, .long 0, .long 0, .int 0, .int th, .ref v9, .int 17, .int 0, .int (-1), .ref v13, .int 0, .int 0, .int 0, .int 0, .int 0, .int 0, .int 0, .int 0, .int 0, .int 0, .int 0, .long 0, .int 0, .ref v27, .ref v28, .ref v29, .ref v30, .ref v31, .ref v32, .ref v33, .ref v34, .ref v35, .ref v36, .ref v37, .int 0])), (v9, .inl (cA 0, 700, .inl fn4))] H := hP
  have hD : va_D A [(w0, .inr (11, [.ref v0, .ref v1, .ref v2, .ref v3, .ref v4, .long 0, .long 0, .int 0, .int th, .ref v9, .int 17, .int 0, .int (-1), .ref v13, .int 0, .int 0, .int 0, .int 0, .int 0, .int 0, .int 0, .int 0, .int 0, .int 0, .int 0, .long 0, .int 0, .ref v27, .ref v28, .ref v29, .ref v30, .ref v31, .ref v32, .ref v33, .ref v34, .ref v35, .ref v36, .ref v37, .int 0])), (v9, .inl (cA 0, 700, .inl fn4))] := hD
  refine lv_iinc (v := 16) (lv' := [(2, .int 16), (0, .ref w0), (1, .int w)]) hx hb dX10_append_33 hl (k := 0) rfl (by first | rfl | decide +kernel) (by decide) rfl (fun ls hl => ?_)
  refine lv_goto (tgt := 3) hx hb dX10_append_36 (by decide) ?_
  refine lv_iload_n hx hb dX10_append_3 rfl (lv_at hl 0 rfl) ?_
  refine lv_if_lt (tgt := 39) hx hb dX10_append_4 (by decide) (fun c9 => absurd c9 (by decide)) (fun c6 => ?_)
  refine lv_aload_n hx hb dX10_append_7 rfl (lv_at hl 1 rfl) ?_
  refine va_get (D := D) (ci := 11) (v := .ref v9) (C := RX10) (T := TX10) (N := 39) hx hb hts inX10 hown hK hP 0 rfl rfl 9 (by decide) (hts (.fieldLink RX10 26 "EscrowDeskModel" "buffer" "[I") (by decide +kernel)) (fun _ h9 => h9) rfl dX10_append_8 ?_
  refine lv_aload_n hx hb dX10_append_11 rfl (lv_at hl 1 rfl) ?_
  refine va_get (D := D) (ci := 11) (v := .int 17) (C := RX10) (T := TX10) (N := 39) hx hb hts inX10 hown hK hP 0 rfl rfl 10 (by decide) (hts (.fieldLink RX10 90 "EscrowDeskModel" "buffered" "I") (by decide +kernel)) (fun _ h9 => h9) rfl dX10_append_12 ?_
  refine lv_iload_n hx hb dX10_append_15 rfl (lv_at hl 2 rfl) ?_
  refine lv_iload_n hx hb dX10_append_16 rfl (lv_at hl 0 rfl) ?_
  refine lv_iushr hx hb dX10_append_17 rfl ?_
  refine lv_topi (fun yn7 _ => ?_)
  refine lv_sipush (v := 255) hx hb dX10_append_18 (by decide) ?_
  refine lv_iand hx hb dX10_append_21 ?_
  refine va_iast hx hb hK hP hD hS 1 0 rfl rfl (vp_in_iff.mpr (by decide)) dX10_append_22 (fun H locs hP hD hS => ?_)
  have hP : va_P D vwCl [(w0, .inr (11, [.ref v0, .ref v1, .ref v2, .ref v3, .ref v4, .long 0, .long 0, .int 0, .int th, .ref v9, .int 17, .int 0, .int (-1), .ref v13, .int 0, .int 0, .int 0, .int 0, .int 0, .int 0, .int 0, .int 0, .int 0, .int 0, .int 0, .long 0, .int 0, .ref v27, .ref v28, .ref v29, .ref v30, .ref v31, .ref v32, .ref v33, .ref v34, .ref v35, .ref v36, .ref v37, .int 0])), (v9, .inl (cA 0, 700, .inl (upd fn4 17 (yn7 &&& 255))))] H := hP
  have hD : va_D A [(w0, .inr (11, [.ref v0, .ref v1, .ref v2, .ref v3, .ref v4, .long 0, .long 0, .int 0, .int th, .ref v9, .int 17, .int 0, .int (-1), .ref v13, .int 0, .int 0, .int 0, .int 0, .int 0, .int 0, .int 0, .int 0, .int 0, .int 0, .int 0, .long 0, .int 0, .ref v27, .ref v28, .ref v29, .ref v30, .ref v31, .ref v32, .ref v33, .ref v34, .ref v35, .ref v36, .ref v37, .int 0])), (v9, .inl (cA 0, 700, .inl (upd fn4 17 (yn7 &&& 255))))] := hD
  generalize (upd fn4 17 (yn7 &&& 255)) = fn9 at hP hD
  have hP : va_P D vwCl [(w0, .inr (11, [.ref v0, .ref v1, .ref v2, .ref v3, .ref v4, .long 0, .long 0, .int 0, .int th, .ref v9, .int 17, .int 0, .int (-1), .ref v13, .int 0, .int 0, .int 0, .int 0, .int 0, .int 0, .int 0, .int 0, .int 0, .int 0, .int 0, .long 0, .int 0, .ref v27, .ref v28, .ref v29, .ref v30, .ref v31, .ref v32, .ref v33, .ref v34, .ref v35, .ref v36, .ref v37, .int 0])), (v9, .inl (cA 0, 700, .inl fn9))] H := hP
  have hD : va_D A [(w0, .inr (11, [.ref v0, .ref v1, .ref v2, .ref v3, .ref v4, .long 0, .long 0, .int 0, .int th, .ref v9, .int 17, .int 0, .int (-1), .ref v13, .int 0, .int 0, .int 0, .int 0, .int 0, .int 0, .int 0, .int 0, .int 0, .int 0, .int 0, .long 0, .int 0, .ref v27, .ref v28, .ref v29, .ref v30, .ref v31, .ref v32, .ref v33, .ref v34, .ref v35, .ref v36, .ref v37, .int 0])), (v9, .inl (cA 0, 700, .inl fn9))] := hD
  refine lv_aload_n hx hb dX10_append_23 rfl (lv_at hl 1 rfl) ?_
  refine lv_dup hx hb dX10_append_24 rfl ?_
  refine va_get (D := D) (ci := 11) (v := .int 17) (C := RX10) (T := TX10) (N := 39) hx hb hts inX10 hown hK hP 0 rfl rfl 10 (by decide) (hts (.fieldLink RX10 90 "EscrowDeskModel" "buffered" "I") (by decide +kernel)) (fun _ h9 => h9) rfl dX10_append_25 ?_
  refine lv_iconst (v := 1) hx hb dX10_append_28 (by decide) ?_
  refine lv_iadd hx hb dX10_append_29 ?_
  refine lv_topi (fun yn10 eyn10 => ?_)
  obtain rfl : yn10 = 18 := eyn10.trans (by first | rfl | decide +kernel)
  refine va_put (D := D) (ci := 11) (v := .int 18) (ty := .int) (C := RX10) (T := TX10) (N := 39) hx hb hts inX10 tyX10 tyX10_ok nmX10 hown hK hP hD hS 0 rfl rfl 10 (by decide) (hts (.fieldLink RX10 90 "EscrowDeskModel" "buffered" "I") (by decide +kernel)) (fun _ h9 => h9) rfl (by decide +kernel) rfl rfl (Nat.le_of_ble_eq_true rfl) dX10_append_30 (fun H locs hP hD hS => ?_)
  have hP : va_P D vwCl [(w0, .inr (11, [.ref v0, .ref v1, .ref v2, .ref v3, .ref v4, .long 0, .long 0, .int 0, .int th, .ref v9, .int 18, .int 0, .int (-1), .ref v13, .int 0, .int 0, .int 0, .int 0, .int 0, .int 0, .int 0, .int 0, .int 0, .int 0, .int 0, .long 0, .int 0, .ref v27, .ref v28, .ref v29, .ref v30, .ref v31, .ref v32, .ref v33, .ref v34, .ref v35, .ref v36, .ref v37, .int 0])), (v9, .inl (cA 0, 700, .inl fn9))] H := hP
  have hD : va_D A [(w0, .inr (11, [.ref v0, .ref v1, .ref v2, .ref v3, .ref v4, .long 0, .long 0, .int 0, .int th, .ref v9, .int 18, .int 0, .int (-1), .ref v13, .int 0, .int 0, .int 0, .int 0, .int 0, .int 0, .int 0, .int 0, .int 0, .int 0, .int 0, .long 0, .int 0, .ref v27, .ref v28, .ref v29, .ref v30, .ref v31, .ref v32, .ref v33, .ref v34, .ref v35, .ref v36, .ref v37, .int 0])), (v9, .inl (cA 0, 700, .inl fn9))] := hD
  refine lv_iinc (v := 8) (lv' := [(2, .int 8), (0, .ref w0), (1, .int w)]) hx hb dX10_append_33 hl (k := 0) rfl (by first | rfl | decide +kernel) (by decide) rfl (fun ls hl => ?_)
  refine lv_goto (tgt := 3) hx hb dX10_append_36 (by decide) ?_
  refine lv_iload_n hx hb dX10_append_3 rfl (lv_at hl 0 rfl) ?_
  refine lv_if_lt (tgt := 39) hx hb dX10_append_4 (by decide) (fun c9 => absurd c9 (by decide)) (fun c11 => ?_)
  refine lv_aload_n hx hb dX10_append_7 rfl (lv_at hl 1 rfl) ?_
  refine va_get (D := D) (ci := 11) (v := .ref v9) (C := RX10) (T := TX10) (N := 39) hx hb hts inX10 hown hK hP 0 rfl rfl 9 (by decide) (hts (.fieldLink RX10 26 "EscrowDeskModel" "buffer" "[I") (by decide +kernel)) (fun _ h9 => h9) rfl dX10_append_8 ?_
  refine lv_aload_n hx hb dX10_append_11 rfl (lv_at hl 1 rfl) ?_
  refine va_get (D := D) (ci := 11) (v := .int 18) (C := RX10) (T := TX10) (N := 39) hx hb hts inX10 hown hK hP 0 rfl rfl 10 (by decide) (hts (.fieldLink RX10 90 "EscrowDeskModel" "buffered" "I") (by decide +kernel)) (fun _ h9 => h9) rfl dX10_append_12 ?_
  refine lv_iload_n hx hb dX10_append_15 rfl (lv_at hl 2 rfl) ?_
  refine lv_iload_n hx hb dX10_append_16 rfl (lv_at hl 0 rfl) ?_
  refine lv_iushr hx hb dX10_append_17 rfl ?_
  refine lv_topi (fun yn12 _ => ?_)
  refine lv_sipush (v := 255) hx hb dX10_append_18 (by decide) ?_
  refine lv_iand hx hb dX10_append_21 ?_
  refine va_iast hx hb hK hP hD hS 1 0 rfl rfl (vp_in_iff.mpr (by decide)) dX10_append_22 (fun H locs hP hD hS => ?_)
  have hP : va_P D vwCl [(w0, .inr (11, [.ref v0, .ref v1, .ref v2, .ref v3, .ref v4, .long 0, .long 0, .int 0, .int th, .ref v9, .int 18, .int 0, .int (-1), .ref v13, .int 0, .int 0, .int 0, .int 0, .int 0, .int 0, .int 0, .int 0, .int 0, .int 0, .int 0, .long 0, .int 0, .ref v27, .ref v28, .ref v29, .ref v30, .ref v31, .ref v32, .ref v33, .ref v34, .ref v35, .ref v36, .ref v37, .int 0])), (v9, .inl (cA 0, 700, .inl (upd fn9 18 (yn12 &&& 255))))] H := hP
  have hD : va_D A [(w0, .inr (11, [.ref v0, .ref v1, .ref v2, .ref v3, .ref v4, .long 0, .long 0, .int 0, .int th, .ref v9, .int 18, .int 0, .int (-1), .ref v13, .int 0, .int 0, .int 0, .int 0, .int 0, .int 0, .int 0, .int 0, .int 0, .int 0, .int 0, .long 0, .int 0, .ref v27, .ref v28, .ref v29, .ref v30, .ref v31, .ref v32, .ref v33, .ref v34, .ref v35, .ref v36, .ref v37, .int 0])), (v9, .inl (cA 0, 700, .inl (upd fn9 18 (yn12 &&& 255))))] := hD
  generalize (upd fn9 18 (yn12 &&& 255)) = fn14 at hP hD
  have hP : va_P D vwCl [(w0, .inr (11, [.ref v0, .ref v1, .ref v2, .ref v3, .ref v4, .long 0, .long 0, .int 0, .int th, .ref v9, .int 18, .int 0, .int (-1), .ref v13, .int 0, .int 0, .int 0, .int 0, .int 0, .int 0, .int 0, .int 0, .int 0, .int 0, .int 0, .long 0, .int 0, .ref v27, .ref v28, .ref v29, .ref v30, .ref v31, .ref v32, .ref v33, .ref v34, .ref v35, .ref v36, .ref v37, .int 0])), (v9, .inl (cA 0, 700, .inl fn14))] H := hP
  have hD : va_D A [(w0, .inr (11, [.ref v0, .ref v1, .ref v2, .ref v3, .ref v4, .long 0, .long 0, .int 0, .int th, .ref v9, .int 18, .int 0, .int (-1), .ref v13, .int 0, .int 0, .int 0, .int 0, .int 0, .int 0, .int 0, .int 0, .int 0, .int 0, .int 0, .long 0, .int 0, .ref v27, .ref v28, .ref v29, .ref v30, .ref v31, .ref v32, .ref v33, .ref v34, .ref v35, .ref v36, .ref v37, .int 0])), (v9, .inl (cA 0, 700, .inl fn14))] := hD
  refine lv_aload_n hx hb dX10_append_23 rfl (lv_at hl 1 rfl) ?_
  refine lv_dup hx hb dX10_append_24 rfl ?_
  refine va_get (D := D) (ci := 11) (v := .int 18) (C := RX10) (T := TX10) (N := 39) hx hb hts inX10 hown hK hP 0 rfl rfl 10 (by decide) (hts (.fieldLink RX10 90 "EscrowDeskModel" "buffered" "I") (by decide +kernel)) (fun _ h9 => h9) rfl dX10_append_25 ?_
  refine lv_iconst (v := 1) hx hb dX10_append_28 (by decide) ?_
  refine lv_iadd hx hb dX10_append_29 ?_
  refine lv_topi (fun yn15 eyn15 => ?_)
  obtain rfl : yn15 = 19 := eyn15.trans (by first | rfl | decide +kernel)
  refine va_put (D := D) (ci := 11) (v := .int 19) (ty := .int) (C := RX10) (T := TX10) (N := 39) hx hb hts inX10 tyX10 tyX10_ok nmX10 hown hK hP hD hS 0 rfl rfl 10 (by decide) (hts (.fieldLink RX10 90 "EscrowDeskModel" "buffered" "I") (by decide +kernel)) (fun _ h9 => h9) rfl (by decide +kernel) rfl rfl (Nat.le_of_ble_eq_true rfl) dX10_append_30 (fun H locs hP hD hS => ?_)
  have hP : va_P D vwCl [(w0, .inr (11, [.ref v0, .ref v1, .ref v2, .ref v3, .ref v4, .long 0, .long 0, .int 0, .int th, .ref v9, .int 19, .int 0, .int (-1), .ref v13, .int 0, .int 0, .int 0, .int 0, .int 0, .int 0, .int 0, .int 0, .int 0, .int 0, .int 0, .long 0, .int 0, .ref v27, .ref v28, .ref v29, .ref v30, .ref v31, .ref v32, .ref v33, .ref v34, .ref v35, .ref v36, .ref v37, .int 0])), (v9, .inl (cA 0, 700, .inl fn14))] H := hP
  have hD : va_D A [(w0, .inr (11, [.ref v0, .ref v1, .ref v2, .ref v3, .ref v4, .long 0, .long 0, .int 0, .int th, .ref v9, .int 19, .int 0, .int (-1), .ref v13, .int 0, .int 0, .int 0, .int 0, .int 0, .int 0, .int 0, .int 0, .int 0, .int 0, .int 0, .long 0, .int 0, .ref v27, .ref v28, .ref v29, .ref v30, .ref v31, .ref v32, .ref v33, .ref v34, .ref v35, .ref v36, .ref v37, .int 0])), (v9, .inl (cA 0, 700, .inl fn14))] := hD
  refine lv_iinc (v := 0) (lv' := [(2, .int 0), (0, .ref w0), (1, .int w)]) hx hb dX10_append_33 hl (k := 0) rfl (by first | rfl | decide +kernel) (by decide) rfl (fun ls hl => ?_)
  refine lv_goto (tgt := 3) hx hb dX10_append_36 (by decide) ?_
  refine lv_iload_n hx hb dX10_append_3 rfl (lv_at hl 0 rfl) ?_
  refine lv_if_lt (tgt := 39) hx hb dX10_append_4 (by decide) (fun c9 => absurd c9 (by decide)) (fun c16 => ?_)
  refine lv_aload_n hx hb dX10_append_7 rfl (lv_at hl 1 rfl) ?_
  refine va_get (D := D) (ci := 11) (v := .ref v9) (C := RX10) (T := TX10) (N := 39) hx hb hts inX10 hown hK hP 0 rfl rfl 9 (by decide) (hts (.fieldLink RX10 26 "EscrowDeskModel" "buffer" "[I") (by decide +kernel)) (fun _ h9 => h9) rfl dX10_append_8 ?_
  refine lv_aload_n hx hb dX10_append_11 rfl (lv_at hl 1 rfl) ?_
  refine va_get (D := D) (ci := 11) (v := .int 19) (C := RX10) (T := TX10) (N := 39) hx hb hts inX10 hown hK hP 0 rfl rfl 10 (by decide) (hts (.fieldLink RX10 90 "EscrowDeskModel" "buffered" "I") (by decide +kernel)) (fun _ h9 => h9) rfl dX10_append_12 ?_
  refine lv_iload_n hx hb dX10_append_15 rfl (lv_at hl 2 rfl) ?_
  refine lv_iload_n hx hb dX10_append_16 rfl (lv_at hl 0 rfl) ?_
  refine lv_iushr hx hb dX10_append_17 rfl ?_
  refine lv_topi (fun yn17 _ => ?_)
  refine lv_sipush (v := 255) hx hb dX10_append_18 (by decide) ?_
  refine lv_iand hx hb dX10_append_21 ?_
  refine va_iast hx hb hK hP hD hS 1 0 rfl rfl (vp_in_iff.mpr (by decide)) dX10_append_22 (fun H locs hP hD hS => ?_)
  have hP : va_P D vwCl [(w0, .inr (11, [.ref v0, .ref v1, .ref v2, .ref v3, .ref v4, .long 0, .long 0, .int 0, .int th, .ref v9, .int 19, .int 0, .int (-1), .ref v13, .int 0, .int 0, .int 0, .int 0, .int 0, .int 0, .int 0, .int 0, .int 0, .int 0, .int 0, .long 0, .int 0, .ref v27, .ref v28, .ref v29, .ref v30, .ref v31, .ref v32, .ref v33, .ref v34, .ref v35, .ref v36, .ref v37, .int 0])), (v9, .inl (cA 0, 700, .inl (upd fn14 19 (yn17 &&& 255))))] H := hP
  have hD : va_D A [(w0, .inr (11, [.ref v0, .ref v1, .ref v2, .ref v3, .ref v4, .long 0, .long 0, .int 0, .int th, .ref v9, .int 19, .int 0, .int (-1), .ref v13, .int 0, .int 0, .int 0, .int 0, .int 0, .int 0, .int 0, .int 0, .int 0, .int 0, .int 0, .long 0, .int 0, .ref v27, .ref v28, .ref v29, .ref v30, .ref v31, .ref v32, .ref v33, .ref v34, .ref v35, .ref v36, .ref v37, .int 0])), (v9, .inl (cA 0, 700, .inl (upd fn14 19 (yn17 &&& 255))))] := hD
  generalize (upd fn14 19 (yn17 &&& 255)) = fn19 at hP hD
  have hP : va_P D vwCl [(w0, .inr (11, [.ref v0, .ref v1, .ref v2, .ref v3, .ref v4, .long 0, .long 0, .int 0, .int th, .ref v9, .int 19, .int 0, .int (-1), .ref v13, .int 0, .int 0, .int 0, .int 0, .int 0, .int 0, .int 0, .int 0, .int 0, .int 0, .int 0, .long 0, .int 0, .ref v27, .ref v28, .ref v29, .ref v30, .ref v31, .ref v32, .ref v33, .ref v34, .ref v35, .ref v36, .ref v37, .int 0])), (v9, .inl (cA 0, 700, .inl fn19))] H := hP
  have hD : va_D A [(w0, .inr (11, [.ref v0, .ref v1, .ref v2, .ref v3, .ref v4, .long 0, .long 0, .int 0, .int th, .ref v9, .int 19, .int 0, .int (-1), .ref v13, .int 0, .int 0, .int 0, .int 0, .int 0, .int 0, .int 0, .int 0, .int 0, .int 0, .int 0, .long 0, .int 0, .ref v27, .ref v28, .ref v29, .ref v30, .ref v31, .ref v32, .ref v33, .ref v34, .ref v35, .ref v36, .ref v37, .int 0])), (v9, .inl (cA 0, 700, .inl fn19))] := hD
  refine lv_aload_n hx hb dX10_append_23 rfl (lv_at hl 1 rfl) ?_
  refine lv_dup hx hb dX10_append_24 rfl ?_
  refine va_get (D := D) (ci := 11) (v := .int 19) (C := RX10) (T := TX10) (N := 39) hx hb hts inX10 hown hK hP 0 rfl rfl 10 (by decide) (hts (.fieldLink RX10 90 "EscrowDeskModel" "buffered" "I") (by decide +kernel)) (fun _ h9 => h9) rfl dX10_append_25 ?_
  refine lv_iconst (v := 1) hx hb dX10_append_28 (by decide) ?_
  refine lv_iadd hx hb dX10_append_29 ?_
  refine lv_topi (fun yn20 eyn20 => ?_)
  obtain rfl : yn20 = 20 := eyn20.trans (by first | rfl | decide +kernel)
  refine va_put (D := D) (ci := 11) (v := .int 20) (ty := .int) (C := RX10) (T := TX10) (N := 39) hx hb hts inX10 tyX10 tyX10_ok nmX10 hown hK hP hD hS 0 rfl rfl 10 (by decide) (hts (.fieldLink RX10 90 "EscrowDeskModel" "buffered" "I") (by decide +kernel)) (fun _ h9 => h9) rfl (by decide +kernel) rfl rfl (Nat.le_of_ble_eq_true rfl) dX10_append_30 (fun H locs hP hD hS => ?_)
  have hP : va_P D vwCl [(w0, .inr (11, [.ref v0, .ref v1, .ref v2, .ref v3, .ref v4, .long 0, .long 0, .int 0, .int th, .ref v9, .int 20, .int 0, .int (-1), .ref v13, .int 0, .int 0, .int 0, .int 0, .int 0, .int 0, .int 0, .int 0, .int 0, .int 0, .int 0, .long 0, .int 0, .ref v27, .ref v28, .ref v29, .ref v30, .ref v31, .ref v32, .ref v33, .ref v34, .ref v35, .ref v36, .ref v37, .int 0])), (v9, .inl (cA 0, 700, .inl fn19))] H := hP
  have hD : va_D A [(w0, .inr (11, [.ref v0, .ref v1, .ref v2, .ref v3, .ref v4, .long 0, .long 0, .int 0, .int th, .ref v9, .int 20, .int 0, .int (-1), .ref v13, .int 0, .int 0, .int 0, .int 0, .int 0, .int 0, .int 0, .int 0, .int 0, .int 0, .int 0, .long 0, .int 0, .ref v27, .ref v28, .ref v29, .ref v30, .ref v31, .ref v32, .ref v33, .ref v34, .ref v35, .ref v36, .ref v37, .int 0])), (v9, .inl (cA 0, 700, .inl fn19))] := hD
  refine lv_iinc (v := (-8)) (lv' := [(2, .int (-8)), (0, .ref w0), (1, .int w)]) hx hb dX10_append_33 hl (k := 0) rfl (by first | rfl | decide +kernel) (by decide) rfl (fun ls hl => ?_)
  refine lv_goto (tgt := 3) hx hb dX10_append_36 (by decide) ?_
  refine lv_iload_n hx hb dX10_append_3 rfl (lv_at hl 0 rfl) ?_
  refine lv_if_lt (tgt := 39) hx hb dX10_append_4 (by decide) (fun c21 => ?_) (fun c9 => absurd c9 (by decide))
  have hP9 := hP.sub (ws' := [(w0, .inr (11, [.ref v0, .ref v1, .ref v2, .ref v3, .ref v4, .long 0, .long 0, .int 0, .int th, .ref v9, .int 20, .int 0, .int (-1), .ref v13, .int 0, .int 0, .int 0, .int 0, .int 0, .int 0, .int 0, .int 0, .int 0, .int 0, .int 0, .long 0, .int 0, .ref v27, .ref v28, .ref v29, .ref v30, .ref v31, .ref v32, .ref v33, .ref v34, .ref v35, .ref v36, .ref v37, .int 0])), (v9, .inl (cA 0, 700, .inl fn19))]) [0, 1] rfl
  have hD9 := hD.sub (ws' := [(w0, .inr (11, [.ref v0, .ref v1, .ref v2, .ref v3, .ref v4, .long 0, .long 0, .int 0, .int th, .ref v9, .int 20, .int 0, .int (-1), .ref v13, .int 0, .int 0, .int 0, .int 0, .int 0, .int 0, .int 0, .int 0, .int 0, .int 0, .int 0, .long 0, .int 0, .ref v27, .ref v28, .ref v29, .ref v30, .ref v31, .ref v32, .ref v33, .ref v34, .ref v35, .ref v36, .ref v37, .int 0])), (v9, .inl (cA 0, 700, .inl fn19))]) [0, 1] (by decide) rfl
  refine W.widen (k := 0) (n := 0) (Nat.le_of_ble_eq_true rfl) (Nat.le_of_ble_eq_true rfl) ?_
  exact W.vret hx hb hr (fun t ht hW => ⟨⟨(), rfl, trivial, fn19, by rw [ht]; exact hP9, hD9⟩, hS.F ht⟩) hS.2.2 dX10_append_39

set_option maxHeartbeats 4000000 in
set_option maxRecDepth 100000 in
/-- feed -/
theorem c_m_feed (l : Launch) (D : va_G) (cA : Nat → ClassId) (sa : Nat → Nat) (w0 v0 v1 v2 v3 v4 v9 v13 v27 v28 v29 v30 v31 v32 v33 v34 v35 v36 v37 : Nat) (th w1 w2 w3 w4 w5 : Int32) (fb : Nat → Int32) (sz : Nat) : Met l yX10_feed wsX10_feed ({ frames := 1, cells := 0, slots := 0, locals := 22 }) (va_Pc [.ref w0, .int w1, .int w2, .int w3, .int w4, .int w5] (Wd D cA sa [(w0, .inr (11, [.ref v0, .ref v1, .ref v2, .ref v3, .ref v4, .long 0, .long 0, .int 0, .int th, .ref v9, .int 0, .int 0, .int (-1), .ref v13, .int 0, .int 0, .int 0, .int 0, .int 0, .int 0, .int 0, .int 0, .int 0, .int 0, .int 0, .long 0, .int 0, .ref v27, .ref v28, .ref v29, .ref v30, .ref v31, .ref v32, .ref v33, .ref v34, .ref v35, .ref v36, .ref v37, .int 0])), (v9, .inl (cA 0, 700, .inl fb))] sz)) (va_Qi (fun (r : Int32) (_ : Unit) => r = 20) (fun (_ : Unit) t => Wq D (va_A [(w0, .inr (11, [.ref v0, .ref v1, .ref v2, .ref v3, .ref v4, .long 0, .long 0, .int 0, .int th, .ref v9, .int 0, .int 0, .int (-1), .ref v13, .int 0, .int 0, .int 0, .int 0, .int 0, .int 0, .int 0, .int 0, .int 0, .int 0, .int 0, .long 0, .int 0, .ref v27, .ref v28, .ref v29, .ref v30, .ref v31, .ref v32, .ref v33, .ref v34, .ref v35, .ref v36, .ref v37, .int 0])), (v9, .inl (cA 0, 700, .inl fb))] sz) [(w0, .inr (11, [.ref v0, .ref v1, .ref v2, .ref v3, .ref v4, .long 0, .long 0, .int 0, .int 0, .ref v9, .int 20, .int 0, .int (-1), .ref v13, .int 0, .int 0, .int 0, .int 0, .int 0, .int 0, .int 0, .int 0, .int 0, .int 0, .int 0, .long 0, .int 0, .ref v27, .ref v28, .ref v29, .ref v30, .ref v31, .ref v32, .ref v33, .ref v34, .ref v35, .ref v36, .ref v37, .int 0]))] t) (va_A [(w0, .inr (11, [.ref v0, .ref v1, .ref v2, .ref v3, .ref v4, .long 0, .long 0, .int 0, .int th, .ref v9, .int 0, .int 0, .int (-1), .ref v13, .int 0, .int 0, .int 0, .int 0, .int 0, .int 0, .int 0, .int 0, .int 0, .int 0, .int 0, .long 0, .int 0, .ref v27, .ref v28, .ref v29, .ref v30, .ref v31, .ref v32, .ref v33, .ref v34, .ref v35, .ref v36, .ref v37, .int 0])), (v9, .inl (cA 0, 700, .inl fb))] sz)) 0 0 (va_A [(w0, .inr (11, [.ref v0, .ref v1, .ref v2, .ref v3, .ref v4, .long 0, .long 0, .int 0, .int th, .ref v9, .int 0, .int 0, .int (-1), .ref v13, .int 0, .int 0, .int 0, .int 0, .int 0, .int 0, .int 0, .int 0, .int 0, .int 0, .int 0, .long 0, .int 0, .ref v27, .ref v28, .ref v29, .ref v30, .ref v31, .ref v32, .ref v33, .ref v34, .ref v35, .ref v36, .ref v37, .int 0])), (v9, .inl (cA 0, 700, .inl fb))] sz) := by
  refine Met.ofW (cc := cX10_feed) (maxL := 6) (ret := (some .int)) (by decide) rfl ?_
  intro p e s m args below meth c s₁ B hml hv
  obtain ⟨rfl, hsz, hP, hK, hD0, hC, hZ⟩ := hv
  have hx := B.exec
  have hb := B.bytes
  have hr := B.returns
  have hts := atoms_spec (ws := wsX10_feed) B.pre
  have hown : s.vm.findClass RX10 = some m.cls := findClass_of_methodNamed B.named
  have hlocks := B.notSynchronized
  subst hsz
  have hD := hD0.self (sz := s.heap.size)
  generalize hAe : va_A [(w0, .inr (11, [.ref v0, .ref v1, .ref v2, .ref v3, .ref v4, .long 0, .long 0, .int 0, .int th, .ref v9, .int 0, .int 0, .int (-1), .ref v13, .int 0, .int 0, .int 0, .int 0, .int 0, .int 0, .int 0, .int 0, .int 0, .int 0, .int 0, .long 0, .int 0, .ref v27, .ref v28, .ref v29, .ref v30, .ref v31, .ref v32, .ref v33, .ref v34, .ref v35, .ref v36, .ref v37, .int 0])), (v9, .inl (cA 0, 700, .inl fb))] s.heap.size = A at hD hZ ⊢
  have hA : ∀ q : Nat, s.heap.size ≤ q → A q := fun q h => by rw [← hAe]; exact Or.inr h
  have hS : va_S A s.heap s.heap [] := va_S.rf
  have hP : va_P D vwCl [(w0, .inr (11, [.ref v0, .ref v1, .ref v2, .ref v3, .ref v4, .long 0, .long 0, .int 0, .int th, .ref v9, .int 0, .int 0, .int (-1), .ref v13, .int 0, .int 0, .int 0, .int 0, .int 0, .int 0, .int 0, .int 0, .int 0, .int 0, .int 0, .long 0, .int 0, .ref v27, .ref v28, .ref v29, .ref v30, .ref v31, .ref v32, .ref v33, .ref v34, .ref v35, .ref v36, .ref v37, .int 0])), (v9, .inl (cA 0, 700, .inl fb))] s.heap := hP
  have hl := lv_entry ([.ref w0, .int w1, .int w2, .int w3, .int w4, .int w5]) (n := 6) (Nat.le_of_ble_eq_true rfl)
  rw [lg_entry_eq]
  generalize (lg_sl ([.ref w0, .int w1, .int w2, .int w3, .int w4, .int w5]) ++ List.replicate (6 - (lg_sl ([.ref w0, .int w1, .int w2, .int w3, .int w4, .int w5])).length) Slot.unset).toArray = ls at hl ⊢
  have hl : lv_has ls 6 [(0, .ref w0), (1, .int w1), (2, .int w2), (3, .int w3), (4, .int w4), (5, .int w5)] := hl
  have inX10 : ∀ w ∈ u_ws RX10 TX10 39, w ∈ wsX10_feed := by decide +kernel
  refine lv_aload_n hx hb dX10_feed_0 rfl (lv_at hl 0 rfl) ?_
  refine lv_iconst (v := 0) hx hb dX10_feed_1 (by decide) ?_
  refine va_put (D := D) (ci := 11) (v := .int 0) (ty := .int) (C := RX10) (T := TX10) (N := 39) hx hb hts inX10 tyX10 tyX10_ok nmX10 hown hK hP hD hS 0 rfl rfl 8 (by decide) (hts (.fieldLink RX10 80 "EscrowDeskModel" "thrown" "I") (by decide +kernel)) (fun _ h9 => h9) rfl (by decide +kernel) rfl rfl (Nat.le_of_ble_eq_true rfl) dX10_feed_2 (fun H locs hP hD hS => ?_)
  have hP : va_P D vwCl [(w0, .inr (11, [.ref v0, .ref v1, .ref v2, .ref v3, .ref v4, .long 0, .long 0, .int 0, .int 0, .ref v9, .int 0, .int 0, .int (-1), .ref v13, .int 0, .int 0, .int 0, .int 0, .int 0, .int 0, .int 0, .int 0, .int 0, .int 0, .int 0, .long 0, .int 0, .ref v27, .ref v28, .ref v29, .ref v30, .ref v31, .ref v32, .ref v33, .ref v34, .ref v35, .ref v36, .ref v37, .int 0])), (v9, .inl (cA 0, 700, .inl fb))] H := hP
  have hD : va_D A [(w0, .inr (11, [.ref v0, .ref v1, .ref v2, .ref v3, .ref v4, .long 0, .long 0, .int 0, .int 0, .ref v9, .int 0, .int 0, .int (-1), .ref v13, .int 0, .int 0, .int 0, .int 0, .int 0, .int 0, .int 0, .int 0, .int 0, .int 0, .int 0, .long 0, .int 0, .ref v27, .ref v28, .ref v29, .ref v30, .ref v31, .ref v32, .ref v33, .ref v34, .ref v35, .ref v36, .ref v37, .int 0])), (v9, .inl (cA 0, 700, .inl fb))] := hD
  refine lv_aload_n hx hb dX10_feed_5 rfl (lv_at hl 0 rfl) ?_
  refine va_get (D := D) (ci := 11) (v := .int 0) (C := RX10) (T := TX10) (N := 39) hx hb hts inX10 hown hK hP 0 rfl rfl 10 (by decide) (hts (.fieldLink RX10 90 "EscrowDeskModel" "buffered" "I") (by decide +kernel)) (fun _ h9 => h9) rfl dX10_feed_6 ?_
  refine lv_bipush (v := 20) hx hb dX10_feed_9 (by decide) ?_
  refine lv_iadd hx hb dX10_feed_11 ?_
  refine lv_topi (fun yn1 eyn1 => ?_)
  obtain rfl : yn1 = 20 := eyn1.trans (by first | rfl | decide +kernel)
  refine lv_sipush (v := 700) hx hb dX10_feed_12 (by decide) ?_
  refine lv_icmp_le (tgt := 21) hx hb dX10_feed_15 (by decide) (fun c2 => ?_) (fun c9 => absurd c9 (by decide))
  refine lv_aload_n hx hb dX10_feed_21 rfl (lv_at hl 0 rfl) ?_
  refine lv_iload_n hx hb dX10_feed_22 rfl (lv_at hl 1 rfl) ?_
  have hPc := hP.sub (ws' := [(w0, .inr (11, [.ref v0, .ref v1, .ref v2, .ref v3, .ref v4, .long 0, .long 0, .int 0, .int 0, .ref v9, .int 0, .int 0, .int (-1), .ref v13, .int 0, .int 0, .int 0, .int 0, .int 0, .int 0, .int 0, .int 0, .int 0, .int 0, .int 0, .long 0, .int 0, .ref v27, .ref v28, .ref v29, .ref v30, .ref v31, .ref v32, .ref v33, .ref v34, .ref v35, .ref v36, .ref v37, .int 0])), (v9, .inl (cA 0, 700, .inl fb))]) [0, 1] rfl
  have hDc := hD.sub (ws' := [(w0, .inr (11, [.ref v0, .ref v1, .ref v2, .ref v3, .ref v4, .long 0, .long 0, .int 0, .int 0, .ref v9, .int 0, .int 0, .int (-1), .ref v13, .int 0, .int 0, .int 0, .int 0, .int 0, .int 0, .int 0, .int 0, .int 0, .int 0, .int 0, .long 0, .int 0, .ref v27, .ref v28, .ref v29, .ref v30, .ref v31, .ref v32, .ref v33, .ref v34, .ref v35, .ref v36, .ref v37, .int 0])), (v9, .inl (cA 0, 700, .inl fb))]) [0, 1] (by decide) rfl
  have hFc := va_free (wc := [(w0, .inr (11, [.ref v0, .ref v1, .ref v2, .ref v3, .ref v4, .long 0, .long 0, .int 0, .int 0, .ref v9, .int 0, .int 0, .int (-1), .ref v13, .int 0, .int 0, .int 0, .int 0, .int 0, .int 0, .int 0, .int 0, .int 0, .int 0, .int 0, .long 0, .int 0, .ref v27, .ref v28, .ref v29, .ref v30, .ref v31, .ref v32, .ref v33, .ref v34, .ref v35, .ref v36, .ref v37, .int 0])), (v9, .inl (cA 0, 700, .inl fb))]) hD hS hA [0, 1] rfl
  refine va_callv (va_runV (As := [.int w1]) (rest := []) ⟨hx, hb, hml, hown, hts⟩ (c_m_append_0 l D cA sa w0 v0 v1 v2 v3 v4 v9 v13 v27 v28 v29 v30 v31 v32 v33 v34 v35 v36 v37 0 w1 fb H.size) (cwV 1 hts gX10_feed_X10_append rfl rfl rfl (by decide +kernel) ⟨(Nat.le_of_ble_eq_true rfl), (Nat.le_of_ble_eq_true rfl)⟩) ⟨Wd.blind, va_recv hK hPc (ci := 11) (q0 := 0) rfl rfl, fun U hU hW => ⟨rfl, Wd.call hPc hDc hK hC hZ hS hFc U hU hW⟩⟩ rfl rfl hl.1 rfl (lv_room (Nat.le_of_ble_eq_true rfl)) dX10_feed_23 ⟨(Nat.le_of_ble_eq_true rfl), (Nat.le_of_ble_eq_true rfl)⟩) hS (fun q _ h => hFc q h) hFc (fun u t H1 locs ht hvm hw hB hz1 hk1 hS => ?_)
  obtain ⟨fn3, hP1, hD1⟩ := hB
  rw [ht] at hP1
  obtain ⟨hP, hD⟩ := va_join (wr := []) (w1 := [(w0, .inr (11, [.ref v0, .ref v1, .ref v2, .ref v3, .ref v4, .long 0, .long 0, .int 0, .int 0, .ref v9, .int 4, .int 0, .int (-1), .ref v13, .int 0, .int 0, .int 0, .int 0, .int 0, .int 0, .int 0, .int 0, .int 0, .int 0, .int 0, .long 0, .int 0, .ref v27, .ref v28, .ref v29, .ref v30, .ref v31, .ref v32, .ref v33, .ref v34, .ref v35, .ref v36, .ref v37, .int 0])), (v9, .inl (cA 0, 700, .inl fn3))]) hP hD [0, 1] [] rfl rfl (by decide) (by decide) hk1 hFc hP1 hD1
  generalize H1 = H at hP hS ⊢
  have hP : va_P D vwCl [(w0, .inr (11, [.ref v0, .ref v1, .ref v2, .ref v3, .ref v4, .long 0, .long 0, .int 0, .int 0, .ref v9, .int 4, .int 0, .int (-1), .ref v13, .int 0, .int 0, .int 0, .int 0, .int 0, .int 0, .int 0, .int 0, .int 0, .int 0, .int 0, .long 0, .int 0, .ref v27, .ref v28, .ref v29, .ref v30, .ref v31, .ref v32, .ref v33, .ref v34, .ref v35, .ref v36, .ref v37, .int 0])), (v9, .inl (cA 0, 700, .inl fn3))] H := hP
  have hD : va_D A [(w0, .inr (11, [.ref v0, .ref v1, .ref v2, .ref v3, .ref v4, .long 0, .long 0, .int 0, .int 0, .ref v9, .int 4, .int 0, .int (-1), .ref v13, .int 0, .int 0, .int 0, .int 0, .int 0, .int 0, .int 0, .int 0, .int 0, .int 0, .int 0, .long 0, .int 0, .ref v27, .ref v28, .ref v29, .ref v30, .ref v31, .ref v32, .ref v33, .ref v34, .ref v35, .ref v36, .ref v37, .int 0])), (v9, .inl (cA 0, 700, .inl fn3))] := hD
  refine lv_aload_n hx hb dX10_feed_26 rfl (lv_at hl 0 rfl) ?_
  refine lv_iload_n hx hb dX10_feed_27 rfl (lv_at hl 2 rfl) ?_
  have hPc := hP.sub (ws' := [(w0, .inr (11, [.ref v0, .ref v1, .ref v2, .ref v3, .ref v4, .long 0, .long 0, .int 0, .int 0, .ref v9, .int 4, .int 0, .int (-1), .ref v13, .int 0, .int 0, .int 0, .int 0, .int 0, .int 0, .int 0, .int 0, .int 0, .int 0, .int 0, .long 0, .int 0, .ref v27, .ref v28, .ref v29, .ref v30, .ref v31, .ref v32, .ref v33, .ref v34, .ref v35, .ref v36, .ref v37, .int 0])), (v9, .inl (cA 0, 700, .inl fn3))]) [0, 1] rfl
  have hDc := hD.sub (ws' := [(w0, .inr (11, [.ref v0, .ref v1, .ref v2, .ref v3, .ref v4, .long 0, .long 0, .int 0, .int 0, .ref v9, .int 4, .int 0, .int (-1), .ref v13, .int 0, .int 0, .int 0, .int 0, .int 0, .int 0, .int 0, .int 0, .int 0, .int 0, .int 0, .long 0, .int 0, .ref v27, .ref v28, .ref v29, .ref v30, .ref v31, .ref v32, .ref v33, .ref v34, .ref v35, .ref v36, .ref v37, .int 0])), (v9, .inl (cA 0, 700, .inl fn3))]) [0, 1] (by decide) rfl
  have hFc := va_free (wc := [(w0, .inr (11, [.ref v0, .ref v1, .ref v2, .ref v3, .ref v4, .long 0, .long 0, .int 0, .int 0, .ref v9, .int 4, .int 0, .int (-1), .ref v13, .int 0, .int 0, .int 0, .int 0, .int 0, .int 0, .int 0, .int 0, .int 0, .int 0, .int 0, .long 0, .int 0, .ref v27, .ref v28, .ref v29, .ref v30, .ref v31, .ref v32, .ref v33, .ref v34, .ref v35, .ref v36, .ref v37, .int 0])), (v9, .inl (cA 0, 700, .inl fn3))]) hD hS hA [0, 1] rfl
  refine va_callv (va_runV (As := [.int w2]) (rest := []) ⟨hx, hb, hml, hown, hts⟩ (c_m_append_4 l D cA sa w0 v0 v1 v2 v3 v4 v9 v13 v27 v28 v29 v30 v31 v32 v33 v34 v35 v36 v37 0 w2 fn3 H.size) (cwV 1 hts gX10_feed_X10_append rfl rfl rfl (by decide +kernel) ⟨(Nat.le_of_ble_eq_true rfl), (Nat.le_of_ble_eq_true rfl)⟩) ⟨Wd.blind, va_recv hK hPc (ci := 11) (q0 := 0) rfl rfl, fun U hU hW => ⟨rfl, Wd.call hPc hDc hK hC hZ hS hFc U hU hW⟩⟩ rfl rfl hl.1 rfl (lv_room (Nat.le_of_ble_eq_true rfl)) dX10_feed_28 ⟨(Nat.le_of_ble_eq_true rfl), (Nat.le_of_ble_eq_true rfl)⟩) hS (fun q _ h => hFc q h) hFc (fun u t H1 locs ht hvm hw hB hz1 hk1 hS => ?_)
  obtain ⟨fn4, hP1, hD1⟩ := hB
  rw [ht] at hP1
  obtain ⟨hP, hD⟩ := va_join (wr := []) (w1 := [(w0, .inr (11, [.ref v0, .ref v1, .ref v2, .ref v3, .ref v4, .long 0, .long 0, .int 0, .int 0, .ref v9, .int 8, .int 0, .int (-1), .ref v13, .int 0, .int 0, .int 0, .int 0, .int 0, .int 0, .int 0, .int 0, .int 0, .int 0, .int 0, .long 0, .int 0, .ref v27, .ref v28, .ref v29, .ref v30, .ref v31, .ref v32, .ref v33, .ref v34, .ref v35, .ref v36, .ref v37, .int 0])), (v9, .inl (cA 0, 700, .inl fn4))]) hP hD [0, 1] [] rfl rfl (by decide) (by decide) hk1 hFc hP1 hD1
  generalize H1 = H at hP hS ⊢
  have hP : va_P D vwCl [(w0, .inr (11, [.ref v0, .ref v1, .ref v2, .ref v3, .ref v4, .long 0, .long 0, .int 0, .int 0, .ref v9, .int 8, .int 0, .int (-1), .ref v13, .int 0, .int 0, .int 0, .int 0, .int 0, .int 0, .int 0, .int 0, .int 0, .int 0, .int 0, .long 0, .int 0, .ref v27, .ref v28, .ref v29, .ref v30, .ref v31, .ref v32, .ref v33, .ref v34, .ref v35, .ref v36, .ref v37, .int 0])), (v9, .inl (cA 0, 700, .inl fn4))] H := hP
  have hD : va_D A [(w0, .inr (11, [.ref v0, .ref v1, .ref v2, .ref v3, .ref v4, .long 0, .long 0, .int 0, .int 0, .ref v9, .int 8, .int 0, .int (-1), .ref v13, .int 0, .int 0, .int 0, .int 0, .int 0, .int 0, .int 0, .int 0, .int 0, .int 0, .int 0, .long 0, .int 0, .ref v27, .ref v28, .ref v29, .ref v30, .ref v31, .ref v32, .ref v33, .ref v34, .ref v35, .ref v36, .ref v37, .int 0])), (v9, .inl (cA 0, 700, .inl fn4))] := hD
  refine lv_aload_n hx hb dX10_feed_31 rfl (lv_at hl 0 rfl) ?_
  refine lv_iload_n hx hb dX10_feed_32 rfl (lv_at hl 3 rfl) ?_
  have hPc := hP.sub (ws' := [(w0, .inr (11, [.ref v0, .ref v1, .ref v2, .ref v3, .ref v4, .long 0, .long 0, .int 0, .int 0, .ref v9, .int 8, .int 0, .int (-1), .ref v13, .int 0, .int 0, .int 0, .int 0, .int 0, .int 0, .int 0, .int 0, .int 0, .int 0, .int 0, .long 0, .int 0, .ref v27, .ref v28, .ref v29, .ref v30, .ref v31, .ref v32, .ref v33, .ref v34, .ref v35, .ref v36, .ref v37, .int 0])), (v9, .inl (cA 0, 700, .inl fn4))]) [0, 1] rfl
  have hDc := hD.sub (ws' := [(w0, .inr (11, [.ref v0, .ref v1, .ref v2, .ref v3, .ref v4, .long 0, .long 0, .int 0, .int 0, .ref v9, .int 8, .int 0, .int (-1), .ref v13, .int 0, .int 0, .int 0, .int 0, .int 0, .int 0, .int 0, .int 0, .int 0, .int 0, .int 0, .long 0, .int 0, .ref v27, .ref v28, .ref v29, .ref v30, .ref v31, .ref v32, .ref v33, .ref v34, .ref v35, .ref v36, .ref v37, .int 0])), (v9, .inl (cA 0, 700, .inl fn4))]) [0, 1] (by decide) rfl
  have hFc := va_free (wc := [(w0, .inr (11, [.ref v0, .ref v1, .ref v2, .ref v3, .ref v4, .long 0, .long 0, .int 0, .int 0, .ref v9, .int 8, .int 0, .int (-1), .ref v13, .int 0, .int 0, .int 0, .int 0, .int 0, .int 0, .int 0, .int 0, .int 0, .int 0, .int 0, .long 0, .int 0, .ref v27, .ref v28, .ref v29, .ref v30, .ref v31, .ref v32, .ref v33, .ref v34, .ref v35, .ref v36, .ref v37, .int 0])), (v9, .inl (cA 0, 700, .inl fn4))]) hD hS hA [0, 1] rfl
  refine va_callv (va_runV (As := [.int w3]) (rest := []) ⟨hx, hb, hml, hown, hts⟩ (c_m_append_8 l D cA sa w0 v0 v1 v2 v3 v4 v9 v13 v27 v28 v29 v30 v31 v32 v33 v34 v35 v36 v37 0 w3 fn4 H.size) (cwV 1 hts gX10_feed_X10_append rfl rfl rfl (by decide +kernel) ⟨(Nat.le_of_ble_eq_true rfl), (Nat.le_of_ble_eq_true rfl)⟩) ⟨Wd.blind, va_recv hK hPc (ci := 11) (q0 := 0) rfl rfl, fun U hU hW => ⟨rfl, Wd.call hPc hDc hK hC hZ hS hFc U hU hW⟩⟩ rfl rfl hl.1 rfl (lv_room (Nat.le_of_ble_eq_true rfl)) dX10_feed_33 ⟨(Nat.le_of_ble_eq_true rfl), (Nat.le_of_ble_eq_true rfl)⟩) hS (fun q _ h => hFc q h) hFc (fun u t H1 locs ht hvm hw hB hz1 hk1 hS => ?_)
  obtain ⟨fn5, hP1, hD1⟩ := hB
  rw [ht] at hP1
  obtain ⟨hP, hD⟩ := va_join (wr := []) (w1 := [(w0, .inr (11, [.ref v0, .ref v1, .ref v2, .ref v3, .ref v4, .long 0, .long 0, .int 0, .int 0, .ref v9, .int 12, .int 0, .int (-1), .ref v13, .int 0, .int 0, .int 0, .int 0, .int 0, .int 0, .int 0, .int 0, .int 0, .int 0, .int 0, .long 0, .int 0, .ref v27, .ref v28, .ref v29, .ref v30, .ref v31, .ref v32, .ref v33, .ref v34, .ref v35, .ref v36, .ref v37, .int 0])), (v9, .inl (cA 0, 700, .inl fn5))]) hP hD [0, 1] [] rfl rfl (by decide) (by decide) hk1 hFc hP1 hD1
  generalize H1 = H at hP hS ⊢
  have hP : va_P D vwCl [(w0, .inr (11, [.ref v0, .ref v1, .ref v2, .ref v3, .ref v4, .long 0, .long 0, .int 0, .int 0, .ref v9, .int 12, .int 0, .int (-1), .ref v13, .int 0, .int 0, .int 0, .int 0, .int 0, .int 0, .int 0, .int 0, .int 0, .int 0, .int 0, .long 0, .int 0, .ref v27, .ref v28, .ref v29, .ref v30, .ref v31, .ref v32, .ref v33, .ref v34, .ref v35, .ref v36, .ref v37, .int 0])), (v9, .inl (cA 0, 700, .inl fn5))] H := hP
  have hD : va_D A [(w0, .inr (11, [.ref v0, .ref v1, .ref v2, .ref v3, .ref v4, .long 0, .long 0, .int 0, .int 0, .ref v9, .int 12, .int 0, .int (-1), .ref v13, .int 0, .int 0, .int 0, .int 0, .int 0, .int 0, .int 0, .int 0, .int 0, .int 0, .int 0, .long 0, .int 0, .ref v27, .ref v28, .ref v29, .ref v30, .ref v31, .ref v32, .ref v33, .ref v34, .ref v35, .ref v36, .ref v37, .int 0])), (v9, .inl (cA 0, 700, .inl fn5))] := hD
  refine lv_aload_n hx hb dX10_feed_36 rfl (lv_at hl 0 rfl) ?_
  refine lv_iload hx hb dX10_feed_37 (lv_at hl 4 rfl) ?_
  have hPc := hP.sub (ws' := [(w0, .inr (11, [.ref v0, .ref v1, .ref v2, .ref v3, .ref v4, .long 0, .long 0, .int 0, .int 0, .ref v9, .int 12, .int 0, .int (-1), .ref v13, .int 0, .int 0, .int 0, .int 0, .int 0, .int 0, .int 0, .int 0, .int 0, .int 0, .int 0, .long 0, .int 0, .ref v27, .ref v28, .ref v29, .ref v30, .ref v31, .ref v32, .ref v33, .ref v34, .ref v35, .ref v36, .ref v37, .int 0])), (v9, .inl (cA 0, 700, .inl fn5))]) [0, 1] rfl
  have hDc := hD.sub (ws' := [(w0, .inr (11, [.ref v0, .ref v1, .ref v2, .ref v3, .ref v4, .long 0, .long 0, .int 0, .int 0, .ref v9, .int 12, .int 0, .int (-1), .ref v13, .int 0, .int 0, .int 0, .int 0, .int 0, .int 0, .int 0, .int 0, .int 0, .int 0, .int 0, .long 0, .int 0, .ref v27, .ref v28, .ref v29, .ref v30, .ref v31, .ref v32, .ref v33, .ref v34, .ref v35, .ref v36, .ref v37, .int 0])), (v9, .inl (cA 0, 700, .inl fn5))]) [0, 1] (by decide) rfl
  have hFc := va_free (wc := [(w0, .inr (11, [.ref v0, .ref v1, .ref v2, .ref v3, .ref v4, .long 0, .long 0, .int 0, .int 0, .ref v9, .int 12, .int 0, .int (-1), .ref v13, .int 0, .int 0, .int 0, .int 0, .int 0, .int 0, .int 0, .int 0, .int 0, .int 0, .int 0, .long 0, .int 0, .ref v27, .ref v28, .ref v29, .ref v30, .ref v31, .ref v32, .ref v33, .ref v34, .ref v35, .ref v36, .ref v37, .int 0])), (v9, .inl (cA 0, 700, .inl fn5))]) hD hS hA [0, 1] rfl
  refine va_callv (va_runV (As := [.int w4]) (rest := []) ⟨hx, hb, hml, hown, hts⟩ (c_m_append_12 l D cA sa w0 v0 v1 v2 v3 v4 v9 v13 v27 v28 v29 v30 v31 v32 v33 v34 v35 v36 v37 0 w4 fn5 H.size) (cwV 1 hts gX10_feed_X10_append rfl rfl rfl (by decide +kernel) ⟨(Nat.le_of_ble_eq_true rfl), (Nat.le_of_ble_eq_true rfl)⟩) ⟨Wd.blind, va_recv hK hPc (ci := 11) (q0 := 0) rfl rfl, fun U hU hW => ⟨rfl, Wd.call hPc hDc hK hC hZ hS hFc U hU hW⟩⟩ rfl rfl hl.1 rfl (lv_room (Nat.le_of_ble_eq_true rfl)) dX10_feed_39 ⟨(Nat.le_of_ble_eq_true rfl), (Nat.le_of_ble_eq_true rfl)⟩) hS (fun q _ h => hFc q h) hFc (fun u t H1 locs ht hvm hw hB hz1 hk1 hS => ?_)
  obtain ⟨fn6, hP1, hD1⟩ := hB
  rw [ht] at hP1
  obtain ⟨hP, hD⟩ := va_join (wr := []) (w1 := [(w0, .inr (11, [.ref v0, .ref v1, .ref v2, .ref v3, .ref v4, .long 0, .long 0, .int 0, .int 0, .ref v9, .int 16, .int 0, .int (-1), .ref v13, .int 0, .int 0, .int 0, .int 0, .int 0, .int 0, .int 0, .int 0, .int 0, .int 0, .int 0, .long 0, .int 0, .ref v27, .ref v28, .ref v29, .ref v30, .ref v31, .ref v32, .ref v33, .ref v34, .ref v35, .ref v36, .ref v37, .int 0])), (v9, .inl (cA 0, 700, .inl fn6))]) hP hD [0, 1] [] rfl rfl (by decide) (by decide) hk1 hFc hP1 hD1
  generalize H1 = H at hP hS ⊢
  have hP : va_P D vwCl [(w0, .inr (11, [.ref v0, .ref v1, .ref v2, .ref v3, .ref v4, .long 0, .long 0, .int 0, .int 0, .ref v9, .int 16, .int 0, .int (-1), .ref v13, .int 0, .int 0, .int 0, .int 0, .int 0, .int 0, .int 0, .int 0, .int 0, .int 0, .int 0, .long 0, .int 0, .ref v27, .ref v28, .ref v29, .ref v30, .ref v31, .ref v32, .ref v33, .ref v34, .ref v35, .ref v36, .ref v37, .int 0])), (v9, .inl (cA 0, 700, .inl fn6))] H := hP
  have hD : va_D A [(w0, .inr (11, [.ref v0, .ref v1, .ref v2, .ref v3, .ref v4, .long 0, .long 0, .int 0, .int 0, .ref v9, .int 16, .int 0, .int (-1), .ref v13, .int 0, .int 0, .int 0, .int 0, .int 0, .int 0, .int 0, .int 0, .int 0, .int 0, .int 0, .long 0, .int 0, .ref v27, .ref v28, .ref v29, .ref v30, .ref v31, .ref v32, .ref v33, .ref v34, .ref v35, .ref v36, .ref v37, .int 0])), (v9, .inl (cA 0, 700, .inl fn6))] := hD
  refine lv_aload_n hx hb dX10_feed_42 rfl (lv_at hl 0 rfl) ?_
  refine lv_iload hx hb dX10_feed_43 (lv_at hl 5 rfl) ?_
  have hPc := hP.sub (ws' := [(w0, .inr (11, [.ref v0, .ref v1, .ref v2, .ref v3, .ref v4, .long 0, .long 0, .int 0, .int 0, .ref v9, .int 16, .int 0, .int (-1), .ref v13, .int 0, .int 0, .int 0, .int 0, .int 0, .int 0, .int 0, .int 0, .int 0, .int 0, .int 0, .long 0, .int 0, .ref v27, .ref v28, .ref v29, .ref v30, .ref v31, .ref v32, .ref v33, .ref v34, .ref v35, .ref v36, .ref v37, .int 0])), (v9, .inl (cA 0, 700, .inl fn6))]) [0, 1] rfl
  have hDc := hD.sub (ws' := [(w0, .inr (11, [.ref v0, .ref v1, .ref v2, .ref v3, .ref v4, .long 0, .long 0, .int 0, .int 0, .ref v9, .int 16, .int 0, .int (-1), .ref v13, .int 0, .int 0, .int 0, .int 0, .int 0, .int 0, .int 0, .int 0, .int 0, .int 0, .int 0, .long 0, .int 0, .ref v27, .ref v28, .ref v29, .ref v30, .ref v31, .ref v32, .ref v33, .ref v34, .ref v35, .ref v36, .ref v37, .int 0])), (v9, .inl (cA 0, 700, .inl fn6))]) [0, 1] (by decide) rfl
  have hFc := va_free (wc := [(w0, .inr (11, [.ref v0, .ref v1, .ref v2, .ref v3, .ref v4, .long 0, .long 0, .int 0, .int 0, .ref v9, .int 16, .int 0, .int (-1), .ref v13, .int 0, .int 0, .int 0, .int 0, .int 0, .int 0, .int 0, .int 0, .int 0, .int 0, .int 0, .long 0, .int 0, .ref v27, .ref v28, .ref v29, .ref v30, .ref v31, .ref v32, .ref v33, .ref v34, .ref v35, .ref v36, .ref v37, .int 0])), (v9, .inl (cA 0, 700, .inl fn6))]) hD hS hA [0, 1] rfl
  refine va_callv (va_runV (As := [.int w5]) (rest := []) ⟨hx, hb, hml, hown, hts⟩ (c_m_append_16 l D cA sa w0 v0 v1 v2 v3 v4 v9 v13 v27 v28 v29 v30 v31 v32 v33 v34 v35 v36 v37 0 w5 fn6 H.size) (cwV 1 hts gX10_feed_X10_append rfl rfl rfl (by decide +kernel) ⟨(Nat.le_of_ble_eq_true rfl), (Nat.le_of_ble_eq_true rfl)⟩) ⟨Wd.blind, va_recv hK hPc (ci := 11) (q0 := 0) rfl rfl, fun U hU hW => ⟨rfl, Wd.call hPc hDc hK hC hZ hS hFc U hU hW⟩⟩ rfl rfl hl.1 rfl (lv_room (Nat.le_of_ble_eq_true rfl)) dX10_feed_45 ⟨(Nat.le_of_ble_eq_true rfl), (Nat.le_of_ble_eq_true rfl)⟩) hS (fun q _ h => hFc q h) hFc (fun u t H1 locs ht hvm hw hB hz1 hk1 hS => ?_)
  obtain ⟨fn7, hP1, hD1⟩ := hB
  rw [ht] at hP1
  obtain ⟨hP, hD⟩ := va_join (wr := []) (w1 := [(w0, .inr (11, [.ref v0, .ref v1, .ref v2, .ref v3, .ref v4, .long 0, .long 0, .int 0, .int 0, .ref v9, .int 20, .int 0, .int (-1), .ref v13, .int 0, .int 0, .int 0, .int 0, .int 0, .int 0, .int 0, .int 0, .int 0, .int 0, .int 0, .long 0, .int 0, .ref v27, .ref v28, .ref v29, .ref v30, .ref v31, .ref v32, .ref v33, .ref v34, .ref v35, .ref v36, .ref v37, .int 0])), (v9, .inl (cA 0, 700, .inl fn7))]) hP hD [0, 1] [] rfl rfl (by decide) (by decide) hk1 hFc hP1 hD1
  generalize H1 = H at hP hS ⊢
  have hP : va_P D vwCl [(w0, .inr (11, [.ref v0, .ref v1, .ref v2, .ref v3, .ref v4, .long 0, .long 0, .int 0, .int 0, .ref v9, .int 20, .int 0, .int (-1), .ref v13, .int 0, .int 0, .int 0, .int 0, .int 0, .int 0, .int 0, .int 0, .int 0, .int 0, .int 0, .long 0, .int 0, .ref v27, .ref v28, .ref v29, .ref v30, .ref v31, .ref v32, .ref v33, .ref v34, .ref v35, .ref v36, .ref v37, .int 0])), (v9, .inl (cA 0, 700, .inl fn7))] H := hP
  have hD : va_D A [(w0, .inr (11, [.ref v0, .ref v1, .ref v2, .ref v3, .ref v4, .long 0, .long 0, .int 0, .int 0, .ref v9, .int 20, .int 0, .int (-1), .ref v13, .int 0, .int 0, .int 0, .int 0, .int 0, .int 0, .int 0, .int 0, .int 0, .int 0, .int 0, .long 0, .int 0, .ref v27, .ref v28, .ref v29, .ref v30, .ref v31, .ref v32, .ref v33, .ref v34, .ref v35, .ref v36, .ref v37, .int 0])), (v9, .inl (cA 0, 700, .inl fn7))] := hD
  refine lv_aload_n hx hb dX10_feed_48 rfl (lv_at hl 0 rfl) ?_
  refine va_get (D := D) (ci := 11) (v := .int 20) (C := RX10) (T := TX10) (N := 39) hx hb hts inX10 hown hK hP 0 rfl rfl 10 (by decide) (hts (.fieldLink RX10 90 "EscrowDeskModel" "buffered" "I") (by decide +kernel)) (fun _ h9 => h9) rfl dX10_feed_49 ?_
  have hP9 := hP.sub (ws' := [(w0, .inr (11, [.ref v0, .ref v1, .ref v2, .ref v3, .ref v4, .long 0, .long 0, .int 0, .int 0, .ref v9, .int 20, .int 0, .int (-1), .ref v13, .int 0, .int 0, .int 0, .int 0, .int 0, .int 0, .int 0, .int 0, .int 0, .int 0, .int 0, .long 0, .int 0, .ref v27, .ref v28, .ref v29, .ref v30, .ref v31, .ref v32, .ref v33, .ref v34, .ref v35, .ref v36, .ref v37, .int 0]))]) [0] rfl
  have hD9 := hD.sub (ws' := [(w0, .inr (11, [.ref v0, .ref v1, .ref v2, .ref v3, .ref v4, .long 0, .long 0, .int 0, .int 0, .ref v9, .int 20, .int 0, .int (-1), .ref v13, .int 0, .int 0, .int 0, .int 0, .int 0, .int 0, .int 0, .int 0, .int 0, .int 0, .int 0, .long 0, .int 0, .ref v27, .ref v28, .ref v29, .ref v30, .ref v31, .ref v32, .ref v33, .ref v34, .ref v35, .ref v36, .ref v37, .int 0]))]) [0] (by decide) rfl
  refine W.widen (k := 0) (n := 0) (Nat.le_of_ble_eq_true rfl) (Nat.le_of_ble_eq_true rfl) ?_
  exact W.iret (v := 20) hx hb hr (fun t ht hW => ⟨⟨20, (), rfl, rfl, by rw [ht]; exact hP9, hD9⟩, hS.F ht⟩) hS.2.2 dX10_feed_52

set_option maxHeartbeats 4000000 in
set_option maxRecDepth 100000 in
/-- credit: nothing -/
theorem c_m_credit (l : Launch) (D : va_G) (cA : Nat → ClassId) (sa : Nat → Nat) (w0 v0 v1 v2 v3 v4 v9 v13 v27 v28 v29 v30 v31 v32 v33 v34 v35 v36 v37 : Nat) (th : Int32) (fs : Nat → Int32) (sz : Nat) (hz : Zd fs) : Met l yX10_credit wsX10_credit ({ frames := 1, cells := 0, slots := 0, locals := 24 }) (va_Pc [.ref w0] (Wd D cA sa [(w0, .inr (11, [.ref v0, .ref v1, .ref v2, .ref v3, .ref v4, .long 0, .long 0, .int 0, .int th, .ref v9, .int 0, .int 0, .int (-1), .ref v13, .int 0, .int 0, .int 0, .int 0, .int 0, .int 0, .int 0, .int 0, .int 0, .int 0, .int 0, .long 0, .int 0, .ref v27, .ref v28, .ref v29, .ref v30, .ref v31, .ref v32, .ref v33, .ref v34, .ref v35, .ref v36, .ref v37, .int 0])), (v0, .inl (cA 0, 326, .inl fs))] sz)) (va_Qv (fun _ : Unit => True) (fun (_ : Unit) t => ∃ fn11 : Nat → Int32, Zd fn11 ∧ Wq D (va_A [(w0, .inr (11, [.ref v0, .ref v1, .ref v2, .ref v3, .ref v4, .long 0, .long 0, .int 0, .int th, .ref v9, .int 0, .int 0, .int (-1), .ref v13, .int 0, .int 0, .int 0, .int 0, .int 0, .int 0, .int 0, .int 0, .int 0, .int 0, .int 0, .long 0, .int 0, .ref v27, .ref v28, .ref v29, .ref v30, .ref v31, .ref v32, .ref v33, .ref v34, .ref v35, .ref v36, .ref v37, .int 0])), (v0, .inl (cA 0, 326, .inl fs))] sz) [(w0, .inr (11, [.ref v0, .ref v1, .ref v2, .ref v3, .ref v4, .long 0, .long 0, .int 0, .int th, .ref v9, .int 0, .int 0, .int (-1), .ref v13, .int 0, .int 0, .int 0, .int 0, .int 0, .int 0, .int 0, .int 0, .int 0, .int 0, .int 0, .long 0, .int 0, .ref v27, .ref v28, .ref v29, .ref v30, .ref v31, .ref v32, .ref v33, .ref v34, .ref v35, .ref v36, .ref v37, .int 0])), (v0, .inl (cA 0, 326, .inl fn11))] t) (va_A [(w0, .inr (11, [.ref v0, .ref v1, .ref v2, .ref v3, .ref v4, .long 0, .long 0, .int 0, .int th, .ref v9, .int 0, .int 0, .int (-1), .ref v13, .int 0, .int 0, .int 0, .int 0, .int 0, .int 0, .int 0, .int 0, .int 0, .int 0, .int 0, .long 0, .int 0, .ref v27, .ref v28, .ref v29, .ref v30, .ref v31, .ref v32, .ref v33, .ref v34, .ref v35, .ref v36, .ref v37, .int 0])), (v0, .inl (cA 0, 326, .inl fs))] sz)) 0 0 (va_A [(w0, .inr (11, [.ref v0, .ref v1, .ref v2, .ref v3, .ref v4, .long 0, .long 0, .int 0, .int th, .ref v9, .int 0, .int 0, .int (-1), .ref v13, .int 0, .int 0, .int 0, .int 0, .int 0, .int 0, .int 0, .int 0, .int 0, .int 0, .int 0, .long 0, .int 0, .ref v27, .ref v28, .ref v29, .ref v30, .ref v31, .ref v32, .ref v33, .ref v34, .ref v35, .ref v36, .ref v37, .int 0])), (v0, .inl (cA 0, 326, .inl fs))] sz) := by
  refine Met.ofW (cc := cX10_credit) (maxL := 4) (ret := none) (by decide) rfl ?_
  intro p e s m args below meth c s₁ B hml hv
  obtain ⟨rfl, hsz, hP, hK, hD0, hC, hZ⟩ := hv
  have hx := B.exec
  have hb := B.bytes
  have hr := B.returns
  have hts := atoms_spec (ws := wsX10_credit) B.pre
  have hown : s.vm.findClass RX10 = some m.cls := findClass_of_methodNamed B.named
  have hlocks := B.notSynchronized
  subst hsz
  have hD := hD0.self (sz := s.heap.size)
  generalize hAe : va_A [(w0, .inr (11, [.ref v0, .ref v1, .ref v2, .ref v3, .ref v4, .long 0, .long 0, .int 0, .int th, .ref v9, .int 0, .int 0, .int (-1), .ref v13, .int 0, .int 0, .int 0, .int 0, .int 0, .int 0, .int 0, .int 0, .int 0, .int 0, .int 0, .long 0, .int 0, .ref v27, .ref v28, .ref v29, .ref v30, .ref v31, .ref v32, .ref v33, .ref v34, .ref v35, .ref v36, .ref v37, .int 0])), (v0, .inl (cA 0, 326, .inl fs))] s.heap.size = A at hD hZ ⊢
  have hA : ∀ q : Nat, s.heap.size ≤ q → A q := fun q h => by rw [← hAe]; exact Or.inr h
  have hS : va_S A s.heap s.heap [] := va_S.rf
  have hP : va_P D vwCl [(w0, .inr (11, [.ref v0, .ref v1, .ref v2, .ref v3, .ref v4, .long 0, .long 0, .int 0, .int th, .ref v9, .int 0, .int 0, .int (-1), .ref v13, .int 0, .int 0, .int 0, .int 0, .int 0, .int 0, .int 0, .int 0, .int 0, .int 0, .int 0, .long 0, .int 0, .ref v27, .ref v28, .ref v29, .ref v30, .ref v31, .ref v32, .ref v33, .ref v34, .ref v35, .ref v36, .ref v37, .int 0])), (v0, .inl (cA 0, 326, .inl fs))] s.heap := hP
  have hl := lv_entry ([.ref w0]) (n := 4) (Nat.le_of_ble_eq_true rfl)
  rw [lg_entry_eq]
  generalize (lg_sl ([.ref w0]) ++ List.replicate (4 - (lg_sl ([.ref w0])).length) Slot.unset).toArray = ls at hl ⊢
  have hl : lv_has ls 4 [(0, .ref w0)] := hl
  have inX10 : ∀ w ∈ u_ws RX10 TX10 39, w ∈ wsX10_credit := by decide +kernel
  refine lv_ldc2 (v := 10000) hx hb hown (hts (.constantLong RX10 268 10000) (by decide +kernel)) dX10_credit_0 ?_
  refine lv_aload_n hx hb dX10_credit_3 rfl (lv_at hl 0 rfl) ?_
  refine va_get (D := D) (ci := 11) (v := .ref v0) (C := RX10) (T := TX10) (N := 39) hx hb hts inX10 hown hK hP 0 rfl rfl 0 (by decide) (hts (.fieldLink RX10 7 "EscrowDeskModel" "s" "[I") (by decide +kernel)) (fun _ h9 => h9) rfl dX10_credit_4 ?_
  refine lv_iconst (v := 1) hx hb dX10_credit_7 (by decide) ?_
  refine va_iald hx hb hK hP 1 0 rfl rfl (vp_in_iff.mpr (by decide)) dX10_credit_8 ?_
  refine lv_topi (fun yn1 eyn1 => ?_)
  obtain rfl : yn1 = 365 := eyn1.trans hz.1
  refine lv_i2l (v := 365) hx hb dX10_credit_9 (by decide) ?_
  refine lv_lmul hx hb dX10_credit_10 ?_
  refine lv_topl (fun yn2 eyn2 => ?_)
  obtain rfl : yn2 = 3650000 := eyn2.trans (by first | rfl | decide +kernel)
  refine lv_lstore_n (lv' := [(1, .long 3650000), (0, .ref w0)]) hx hb dX10_credit_11 rfl hl (by decide) rfl (fun ls hl => ?_)
  refine lv_aload_n hx hb dX10_credit_12 rfl (lv_at hl 1 rfl) ?_
  refine va_get (D := D) (ci := 11) (v := .long 0) (C := RX10) (T := TX10) (N := 39) hx hb hts inX10 hown hK hP 0 rfl rfl 5 (by decide) (hts (.fieldLink RX10 86 "EscrowDeskModel" "parts" "J") (by decide +kernel)) (fun _ h9 => h9) rfl dX10_credit_13 ?_
  refine lv_lload_n hx hb dX10_credit_16 rfl (lv_at hl 0 rfl) ?_
  refine lv_ldiv hx hb dX10_credit_17 (by decide) ?_
  refine lv_topl (fun yn3 eyn3 => ?_)
  obtain rfl : yn3 = 0 := eyn3.trans (by first | rfl | decide +kernel)
  refine lv_l2i (v := 0) hx hb dX10_credit_18 (by decide) ?_
  refine lv_istore_n (lv' := [(3, .int 0), (1, .long 3650000), (0, .ref w0)]) hx hb dX10_credit_19 rfl hl (by decide) rfl (fun ls hl => ?_)
  refine lv_aload_n hx hb dX10_credit_20 rfl (lv_at hl 2 rfl) ?_
  refine lv_aload_n hx hb dX10_credit_21 rfl (lv_at hl 2 rfl) ?_
  refine va_get (D := D) (ci := 11) (v := .long 0) (C := RX10) (T := TX10) (N := 39) hx hb hts inX10 hown hK hP 0 rfl rfl 5 (by decide) (hts (.fieldLink RX10 86 "EscrowDeskModel" "parts" "J") (by decide +kernel)) (fun _ h9 => h9) rfl dX10_credit_22 ?_
  refine lv_lload_n hx hb dX10_credit_25 rfl (lv_at hl 1 rfl) ?_
  refine lv_lrem hx hb dX10_credit_26 (by decide) ?_
  refine lv_topl (fun yn4 eyn4 => ?_)
  obtain rfl : yn4 = 0 := eyn4.trans (by first | rfl | decide +kernel)
  refine va_put (D := D) (ci := 11) (v := .long 0) (ty := .long) (C := RX10) (T := TX10) (N := 39) hx hb hts inX10 tyX10 tyX10_ok nmX10 hown hK hP hD hS 0 rfl rfl 5 (by decide) (hts (.fieldLink RX10 86 "EscrowDeskModel" "parts" "J") (by decide +kernel)) (fun _ h9 => h9) rfl (by decide +kernel) rfl rfl (Nat.le_of_ble_eq_true rfl) dX10_credit_27 (fun H locs hP hD hS => ?_)
  have hP : va_P D vwCl [(w0, .inr (11, [.ref v0, .ref v1, .ref v2, .ref v3, .ref v4, .long 0, .long 0, .int 0, .int th, .ref v9, .int 0, .int 0, .int (-1), .ref v13, .int 0, .int 0, .int 0, .int 0, .int 0, .int 0, .int 0, .int 0, .int 0, .int 0, .int 0, .long 0, .int 0, .ref v27, .ref v28, .ref v29, .ref v30, .ref v31, .ref v32, .ref v33, .ref v34, .ref v35, .ref v36, .ref v37, .int 0])), (v0, .inl (cA 0, 326, .inl fs))] H := hP
  have hD : va_D A [(w0, .inr (11, [.ref v0, .ref v1, .ref v2, .ref v3, .ref v4, .long 0, .long 0, .int 0, .int th, .ref v9, .int 0, .int 0, .int (-1), .ref v13, .int 0, .int 0, .int 0, .int 0, .int 0, .int 0, .int 0, .int 0, .int 0, .int 0, .int 0, .long 0, .int 0, .ref v27, .ref v28, .ref v29, .ref v30, .ref v31, .ref v32, .ref v33, .ref v34, .ref v35, .ref v36, .ref v37, .int 0])), (v0, .inl (cA 0, 326, .inl fs))] := hD
  refine lv_aload_n hx hb dX10_credit_30 rfl (lv_at hl 2 rfl) ?_
  refine va_get (D := D) (ci := 11) (v := .ref v0) (C := RX10) (T := TX10) (N := 39) hx hb hts inX10 hown hK hP 0 rfl rfl 0 (by decide) (hts (.fieldLink RX10 7 "EscrowDeskModel" "s" "[I") (by decide +kernel)) (fun _ h9 => h9) rfl dX10_credit_31 ?_
  refine lv_bipush (v := 7) hx hb dX10_credit_34 (by decide) ?_
  refine lv_dup2_11 hx hb dX10_credit_36 rfl rfl ?_
  refine va_iald hx hb hK hP 1 0 rfl rfl (vp_in_iff.mpr (by decide)) dX10_credit_37 ?_
  refine lv_topi (fun yn5 eyn5 => ?_)
  obtain rfl : yn5 = 0 := eyn5.trans (hz.2 7 (by decide) (by decide) (by decide))
  refine lv_iload_n hx hb dX10_credit_38 rfl (lv_at hl 0 rfl) ?_
  refine lv_iadd hx hb dX10_credit_39 ?_
  refine lv_topi (fun yn6 eyn6 => ?_)
  obtain rfl : yn6 = 0 := eyn6.trans (by first | rfl | decide +kernel)
  refine va_iast hx hb hK hP hD hS 1 0 rfl rfl (vp_in_iff.mpr (by decide)) dX10_credit_40 (fun H locs hP hD hS => ?_)
  have hP : va_P D vwCl [(w0, .inr (11, [.ref v0, .ref v1, .ref v2, .ref v3, .ref v4, .long 0, .long 0, .int 0, .int th, .ref v9, .int 0, .int 0, .int (-1), .ref v13, .int 0, .int 0, .int 0, .int 0, .int 0, .int 0, .int 0, .int 0, .int 0, .int 0, .int 0, .long 0, .int 0, .ref v27, .ref v28, .ref v29, .ref v30, .ref v31, .ref v32, .ref v33, .ref v34, .ref v35, .ref v36, .ref v37, .int 0])), (v0, .inl (cA 0, 326, .inl (upd fs 7 0)))] H := hP
  have hD : va_D A [(w0, .inr (11, [.ref v0, .ref v1, .ref v2, .ref v3, .ref v4, .long 0, .long 0, .int 0, .int th, .ref v9, .int 0, .int 0, .int (-1), .ref v13, .int 0, .int 0, .int 0, .int 0, .int 0, .int 0, .int 0, .int 0, .int 0, .int 0, .int 0, .long 0, .int 0, .ref v27, .ref v28, .ref v29, .ref v30, .ref v31, .ref v32, .ref v33, .ref v34, .ref v35, .ref v36, .ref v37, .int 0])), (v0, .inl (cA 0, 326, .inl (upd fs 7 0)))] := hD
  have hn8 : Zd (upd fs 7 0) := Zd.zero hz 7 (by decide)
  generalize (upd fs 7 0) = fn7 at hP hD hn8
  have hP : va_P D vwCl [(w0, .inr (11, [.ref v0, .ref v1, .ref v2, .ref v3, .ref v4, .long 0, .long 0, .int 0, .int th, .ref v9, .int 0, .int 0, .int (-1), .ref v13, .int 0, .int 0, .int 0, .int 0, .int 0, .int 0, .int 0, .int 0, .int 0, .int 0, .int 0, .long 0, .int 0, .ref v27, .ref v28, .ref v29, .ref v30, .ref v31, .ref v32, .ref v33, .ref v34, .ref v35, .ref v36, .ref v37, .int 0])), (v0, .inl (cA 0, 326, .inl fn7))] H := hP
  have hD : va_D A [(w0, .inr (11, [.ref v0, .ref v1, .ref v2, .ref v3, .ref v4, .long 0, .long 0, .int 0, .int th, .ref v9, .int 0, .int 0, .int (-1), .ref v13, .int 0, .int 0, .int 0, .int 0, .int 0, .int 0, .int 0, .int 0, .int 0, .int 0, .int 0, .long 0, .int 0, .ref v27, .ref v28, .ref v29, .ref v30, .ref v31, .ref v32, .ref v33, .ref v34, .ref v35, .ref v36, .ref v37, .int 0])), (v0, .inl (cA 0, 326, .inl fn7))] := hD
  refine lv_aload_n hx hb dX10_credit_41 rfl (lv_at hl 2 rfl) ?_
  refine va_get (D := D) (ci := 11) (v := .ref v0) (C := RX10) (T := TX10) (N := 39) hx hb hts inX10 hown hK hP 0 rfl rfl 0 (by decide) (hts (.fieldLink RX10 7 "EscrowDeskModel" "s" "[I") (by decide +kernel)) (fun _ h9 => h9) rfl dX10_credit_42 ?_
  refine lv_bipush (v := 8) hx hb dX10_credit_45 (by decide) ?_
  refine lv_dup2_11 hx hb dX10_credit_47 rfl rfl ?_
  refine va_iald hx hb hK hP 1 0 rfl rfl (vp_in_iff.mpr (by decide)) dX10_credit_48 ?_
  refine lv_topi (fun yn9 eyn9 => ?_)
  obtain rfl : yn9 = 0 := eyn9.trans (hn8.2 8 (by decide) (by decide) (by decide))
  refine lv_iload_n hx hb dX10_credit_49 rfl (lv_at hl 0 rfl) ?_
  refine lv_iadd hx hb dX10_credit_50 ?_
  refine lv_topi (fun yn10 eyn10 => ?_)
  obtain rfl : yn10 = 0 := eyn10.trans (by first | rfl | decide +kernel)
  refine va_iast hx hb hK hP hD hS 1 0 rfl rfl (vp_in_iff.mpr (by decide)) dX10_credit_51 (fun H locs hP hD hS => ?_)
  have hP : va_P D vwCl [(w0, .inr (11, [.ref v0, .ref v1, .ref v2, .ref v3, .ref v4, .long 0, .long 0, .int 0, .int th, .ref v9, .int 0, .int 0, .int (-1), .ref v13, .int 0, .int 0, .int 0, .int 0, .int 0, .int 0, .int 0, .int 0, .int 0, .int 0, .int 0, .long 0, .int 0, .ref v27, .ref v28, .ref v29, .ref v30, .ref v31, .ref v32, .ref v33, .ref v34, .ref v35, .ref v36, .ref v37, .int 0])), (v0, .inl (cA 0, 326, .inl (upd fn7 8 0)))] H := hP
  have hD : va_D A [(w0, .inr (11, [.ref v0, .ref v1, .ref v2, .ref v3, .ref v4, .long 0, .long 0, .int 0, .int th, .ref v9, .int 0, .int 0, .int (-1), .ref v13, .int 0, .int 0, .int 0, .int 0, .int 0, .int 0, .int 0, .int 0, .int 0, .int 0, .int 0, .long 0, .int 0, .ref v27, .ref v28, .ref v29, .ref v30, .ref v31, .ref v32, .ref v33, .ref v34, .ref v35, .ref v36, .ref v37, .int 0])), (v0, .inl (cA 0, 326, .inl (upd fn7 8 0)))] := hD
  have hn12 : Zd (upd fn7 8 0) := Zd.zero hn8 8 (by decide)
  generalize (upd fn7 8 0) = fn11 at hP hD hn12
  have hP : va_P D vwCl [(w0, .inr (11, [.ref v0, .ref v1, .ref v2, .ref v3, .ref v4, .long 0, .long 0, .int 0, .int th, .ref v9, .int 0, .int 0, .int (-1), .ref v13, .int 0, .int 0, .int 0, .int 0, .int 0, .int 0, .int 0, .int 0, .int 0, .int 0, .int 0, .long 0, .int 0, .ref v27, .ref v28, .ref v29, .ref v30, .ref v31, .ref v32, .ref v33, .ref v34, .ref v35, .ref v36, .ref v37, .int 0])), (v0, .inl (cA 0, 326, .inl fn11))] H := hP
  have hD : va_D A [(w0, .inr (11, [.ref v0, .ref v1, .ref v2, .ref v3, .ref v4, .long 0, .long 0, .int 0, .int th, .ref v9, .int 0, .int 0, .int (-1), .ref v13, .int 0, .int 0, .int 0, .int 0, .int 0, .int 0, .int 0, .int 0, .int 0, .int 0, .int 0, .long 0, .int 0, .ref v27, .ref v28, .ref v29, .ref v30, .ref v31, .ref v32, .ref v33, .ref v34, .ref v35, .ref v36, .ref v37, .int 0])), (v0, .inl (cA 0, 326, .inl fn11))] := hD
  refine lv_aload_n hx hb dX10_credit_52 rfl (lv_at hl 2 rfl) ?_
  refine va_get (D := D) (ci := 11) (v := .ref v0) (C := RX10) (T := TX10) (N := 39) hx hb hts inX10 hown hK hP 0 rfl rfl 0 (by decide) (hts (.fieldLink RX10 7 "EscrowDeskModel" "s" "[I") (by decide +kernel)) (fun _ h9 => h9) rfl dX10_credit_53 ?_
  refine lv_iconst (v := 3) hx hb dX10_credit_56 (by decide) ?_
  refine lv_iload_n hx hb dX10_credit_57 rfl (lv_at hl 0 rfl) ?_
  refine lv_iconst (v := (-1)) hx hb dX10_credit_58 (by decide) ?_
  have hPc := hP.sub (ws' := [(v0, .inl (cA 0, 326, .inl fn11))]) [1] rfl
  have hDc := hD.sub (ws' := [(v0, .inl (cA 0, 326, .inl fn11))]) [1] (by decide) rfl
  have hFc := va_free (wc := [(v0, .inl (cA 0, 326, .inl fn11))]) hD hS hA [1] rfl
  refine va_callv (va_runS (As := [.ref v0, .int 3, .int 0, .int (-1)]) (rest := []) ⟨hx, hb, hml, hown, hts⟩ (c_m_enter0 l D cA sa v0 3 (-1) fn11 H.size) (va_cwS 4 hts gX10_credit_X10_enter rfl rfl rfl (by decide +kernel) ⟨(Nat.le_of_ble_eq_true rfl), (Nat.le_of_ble_eq_true rfl)⟩) ⟨Wd.blind, fun U hU hW => ⟨rfl, Wd.call hPc hDc hK hC hZ hS hFc U hU hW⟩⟩ rfl rfl hl.1 rfl (lv_room (Nat.le_of_ble_eq_true rfl)) dX10_credit_59 ⟨(Nat.le_of_ble_eq_true rfl), (Nat.le_of_ble_eq_true rfl)⟩) hS (fun q _ h => hFc q h) hFc (fun u t H1 locs ht hvm hw hB hz1 hk1 hS => ?_)
  obtain ⟨hP1, hD1⟩ := hB
  rw [ht] at hP1
  obtain ⟨hP, hD⟩ := va_join (wr := [(w0, .inr (11, [.ref v0, .ref v1, .ref v2, .ref v3, .ref v4, .long 0, .long 0, .int 0, .int th, .ref v9, .int 0, .int 0, .int (-1), .ref v13, .int 0, .int 0, .int 0, .int 0, .int 0, .int 0, .int 0, .int 0, .int 0, .int 0, .int 0, .long 0, .int 0, .ref v27, .ref v28, .ref v29, .ref v30, .ref v31, .ref v32, .ref v33, .ref v34, .ref v35, .ref v36, .ref v37, .int 0]))]) (w1 := [(v0, .inl (cA 0, 326, .inl fn11))]) hP hD [1] [0] rfl rfl (by decide) (by decide) hk1 hFc hP1 hD1
  generalize H1 = H at hP hS ⊢
  have hP : va_P D vwCl [(w0, .inr (11, [.ref v0, .ref v1, .ref v2, .ref v3, .ref v4, .long 0, .long 0, .int 0, .int th, .ref v9, .int 0, .int 0, .int (-1), .ref v13, .int 0, .int 0, .int 0, .int 0, .int 0, .int 0, .int 0, .int 0, .int 0, .int 0, .int 0, .long 0, .int 0, .ref v27, .ref v28, .ref v29, .ref v30, .ref v31, .ref v32, .ref v33, .ref v34, .ref v35, .ref v36, .ref v37, .int 0])), (v0, .inl (cA 0, 326, .inl fn11))] H := hP
  have hD : va_D A [(w0, .inr (11, [.ref v0, .ref v1, .ref v2, .ref v3, .ref v4, .long 0, .long 0, .int 0, .int th, .ref v9, .int 0, .int 0, .int (-1), .ref v13, .int 0, .int 0, .int 0, .int 0, .int 0, .int 0, .int 0, .int 0, .int 0, .int 0, .int 0, .long 0, .int 0, .ref v27, .ref v28, .ref v29, .ref v30, .ref v31, .ref v32, .ref v33, .ref v34, .ref v35, .ref v36, .ref v37, .int 0])), (v0, .inl (cA 0, 326, .inl fn11))] := hD
  have hP9 := hP.sub (ws' := [(w0, .inr (11, [.ref v0, .ref v1, .ref v2, .ref v3, .ref v4, .long 0, .long 0, .int 0, .int th, .ref v9, .int 0, .int 0, .int (-1), .ref v13, .int 0, .int 0, .int 0, .int 0, .int 0, .int 0, .int 0, .int 0, .int 0, .int 0, .int 0, .long 0, .int 0, .ref v27, .ref v28, .ref v29, .ref v30, .ref v31, .ref v32, .ref v33, .ref v34, .ref v35, .ref v36, .ref v37, .int 0])), (v0, .inl (cA 0, 326, .inl fn11))]) [0, 1] rfl
  have hD9 := hD.sub (ws' := [(w0, .inr (11, [.ref v0, .ref v1, .ref v2, .ref v3, .ref v4, .long 0, .long 0, .int 0, .int th, .ref v9, .int 0, .int 0, .int (-1), .ref v13, .int 0, .int 0, .int 0, .int 0, .int 0, .int 0, .int 0, .int 0, .int 0, .int 0, .int 0, .long 0, .int 0, .ref v27, .ref v28, .ref v29, .ref v30, .ref v31, .ref v32, .ref v33, .ref v34, .ref v35, .ref v36, .ref v37, .int 0])), (v0, .inl (cA 0, 326, .inl fn11))]) [0, 1] (by decide) rfl
  refine W.widen (k := 0) (n := 0) (Nat.le_of_ble_eq_true rfl) (Nat.le_of_ble_eq_true rfl) ?_
  exact W.vret hx hb hr (fun t ht hW => ⟨⟨(), rfl, trivial, fn11, hn12, by rw [ht]; exact hP9, hD9⟩, hS.F ht⟩) hS.2.2 dX10_credit_62

set_option maxHeartbeats 4000000 in
set_option maxRecDepth 100000 in
/-- passDay: the day alone -/
theorem c_m_passDay (l : Launch) (D : va_G) (cA : Nat → ClassId) (sa : Nat → Nat) (w0 v0 v1 v2 v3 v4 v9 v13 v27 v28 v29 v30 v31 v32 v33 v34 v35 v36 v37 : Nat) (th : Int32) (fs : Nat → Int32) (sz : Nat) (hz : Zd fs) : Met l yX10_passDay wsX10_passDay ({ frames := 2, cells := 0, slots := 0, locals := 47 }) (va_Pc [.ref w0] (Wd D cA sa [(w0, .inr (11, [.ref v0, .ref v1, .ref v2, .ref v3, .ref v4, .long 0, .long 0, .int 0, .int th, .ref v9, .int 0, .int 0, .int (-1), .ref v13, .int 0, .int 0, .int 0, .int 0, .int 0, .int 0, .int 0, .int 0, .int 0, .int 0, .int 0, .long 0, .int 0, .ref v27, .ref v28, .ref v29, .ref v30, .ref v31, .ref v32, .ref v33, .ref v34, .ref v35, .ref v36, .ref v37, .int 0])), (v0, .inl (cA 0, 326, .inl fs))] sz)) (va_Qv (fun _ : Unit => True) (fun (_ : Unit) t => ∃ fn14 : Nat → Int32, Zd fn14 ∧ Wq D (va_A [(w0, .inr (11, [.ref v0, .ref v1, .ref v2, .ref v3, .ref v4, .long 0, .long 0, .int 0, .int th, .ref v9, .int 0, .int 0, .int (-1), .ref v13, .int 0, .int 0, .int 0, .int 0, .int 0, .int 0, .int 0, .int 0, .int 0, .int 0, .int 0, .long 0, .int 0, .ref v27, .ref v28, .ref v29, .ref v30, .ref v31, .ref v32, .ref v33, .ref v34, .ref v35, .ref v36, .ref v37, .int 0])), (v0, .inl (cA 0, 326, .inl fs))] sz) [(w0, .inr (11, [.ref v0, .ref v1, .ref v2, .ref v3, .ref v4, .long 0, .long 0, .int 0, .int th, .ref v9, .int 0, .int 0, .int (-1), .ref v13, .int 0, .int 0, .int 0, .int 0, .int 0, .int 0, .int 0, .int 0, .int 0, .int 0, .int 0, .long 0, .int 0, .ref v27, .ref v28, .ref v29, .ref v30, .ref v31, .ref v32, .ref v33, .ref v34, .ref v35, .ref v36, .ref v37, .int 0])), (v0, .inl (cA 0, 326, .inl fn14))] t) (va_A [(w0, .inr (11, [.ref v0, .ref v1, .ref v2, .ref v3, .ref v4, .long 0, .long 0, .int 0, .int th, .ref v9, .int 0, .int 0, .int (-1), .ref v13, .int 0, .int 0, .int 0, .int 0, .int 0, .int 0, .int 0, .int 0, .int 0, .int 0, .int 0, .long 0, .int 0, .ref v27, .ref v28, .ref v29, .ref v30, .ref v31, .ref v32, .ref v33, .ref v34, .ref v35, .ref v36, .ref v37, .int 0])), (v0, .inl (cA 0, 326, .inl fs))] sz)) 0 0 (va_A [(w0, .inr (11, [.ref v0, .ref v1, .ref v2, .ref v3, .ref v4, .long 0, .long 0, .int 0, .int th, .ref v9, .int 0, .int 0, .int (-1), .ref v13, .int 0, .int 0, .int 0, .int 0, .int 0, .int 0, .int 0, .int 0, .int 0, .int 0, .int 0, .long 0, .int 0, .ref v27, .ref v28, .ref v29, .ref v30, .ref v31, .ref v32, .ref v33, .ref v34, .ref v35, .ref v36, .ref v37, .int 0])), (v0, .inl (cA 0, 326, .inl fs))] sz) := by
  refine Met.ofW (cc := cX10_passDay) (maxL := 1) (ret := none) (by decide) rfl ?_
  intro p e s m args below meth c s₁ B hml hv
  obtain ⟨rfl, hsz, hP, hK, hD0, hC, hZ⟩ := hv
  have hx := B.exec
  have hb := B.bytes
  have hr := B.returns
  have hts := atoms_spec (ws := wsX10_passDay) B.pre
  have hown : s.vm.findClass RX10 = some m.cls := findClass_of_methodNamed B.named
  have hlocks := B.notSynchronized
  subst hsz
  have hD := hD0.self (sz := s.heap.size)
  generalize hAe : va_A [(w0, .inr (11, [.ref v0, .ref v1, .ref v2, .ref v3, .ref v4, .long 0, .long 0, .int 0, .int th, .ref v9, .int 0, .int 0, .int (-1), .ref v13, .int 0, .int 0, .int 0, .int 0, .int 0, .int 0, .int 0, .int 0, .int 0, .int 0, .int 0, .long 0, .int 0, .ref v27, .ref v28, .ref v29, .ref v30, .ref v31, .ref v32, .ref v33, .ref v34, .ref v35, .ref v36, .ref v37, .int 0])), (v0, .inl (cA 0, 326, .inl fs))] s.heap.size = A at hD hZ ⊢
  have hA : ∀ q : Nat, s.heap.size ≤ q → A q := fun q h => by rw [← hAe]; exact Or.inr h
  have hS : va_S A s.heap s.heap [] := va_S.rf
  have hP : va_P D vwCl [(w0, .inr (11, [.ref v0, .ref v1, .ref v2, .ref v3, .ref v4, .long 0, .long 0, .int 0, .int th, .ref v9, .int 0, .int 0, .int (-1), .ref v13, .int 0, .int 0, .int 0, .int 0, .int 0, .int 0, .int 0, .int 0, .int 0, .int 0, .int 0, .long 0, .int 0, .ref v27, .ref v28, .ref v29, .ref v30, .ref v31, .ref v32, .ref v33, .ref v34, .ref v35, .ref v36, .ref v37, .int 0])), (v0, .inl (cA 0, 326, .inl fs))] s.heap := hP
  have hl := lv_entry ([.ref w0]) (n := 1) (Nat.le_of_ble_eq_true rfl)
  rw [lg_entry_eq]
  generalize (lg_sl ([.ref w0]) ++ List.replicate (1 - (lg_sl ([.ref w0])).length) Slot.unset).toArray = ls at hl ⊢
  have hl : lv_has ls 1 [(0, .ref w0)] := hl
  have inX10 : ∀ w ∈ u_ws RX10 TX10 39, w ∈ wsX10_passDay := by decide +kernel
  refine lv_aload_n hx hb dX10_passDay_0 rfl (lv_at hl 0 rfl) ?_
  refine lv_dup hx hb dX10_passDay_1 rfl ?_
  refine va_get (D := D) (ci := 11) (v := .long 0) (C := RX10) (T := TX10) (N := 39) hx hb hts inX10 hown hK hP 0 rfl rfl 5 (by decide) (hts (.fieldLink RX10 86 "EscrowDeskModel" "parts" "J") (by decide +kernel)) (fun _ h9 => h9) rfl dX10_passDay_2 ?_
  refine lv_aload_n hx hb dX10_passDay_5 rfl (lv_at hl 0 rfl) ?_
  refine va_get (D := D) (ci := 11) (v := .ref v0) (C := RX10) (T := TX10) (N := 39) hx hb hts inX10 hown hK hP 0 rfl rfl 0 (by decide) (hts (.fieldLink RX10 7 "EscrowDeskModel" "s" "[I") (by decide +kernel)) (fun _ h9 => h9) rfl dX10_passDay_6 ?_
  refine lv_bipush (v := 6) hx hb dX10_passDay_9 (by decide) ?_
  refine va_iald hx hb hK hP 1 0 rfl rfl (vp_in_iff.mpr (by decide)) dX10_passDay_11 ?_
  refine lv_topi (fun yn1 eyn1 => ?_)
  obtain rfl : yn1 = 0 := eyn1.trans (hz.2 6 (by decide) (by decide) (by decide))
  refine lv_aload_n hx hb dX10_passDay_12 rfl (lv_at hl 0 rfl) ?_
  refine va_get (D := D) (ci := 11) (v := .ref v0) (C := RX10) (T := TX10) (N := 39) hx hb hts inX10 hown hK hP 0 rfl rfl 0 (by decide) (hts (.fieldLink RX10 7 "EscrowDeskModel" "s" "[I") (by decide +kernel)) (fun _ h9 => h9) rfl dX10_passDay_13 ?_
  refine lv_bipush (v := 7) hx hb dX10_passDay_16 (by decide) ?_
  refine va_iald hx hb hK hP 1 0 rfl rfl (vp_in_iff.mpr (by decide)) dX10_passDay_18 ?_
  refine lv_topi (fun yn2 eyn2 => ?_)
  obtain rfl : yn2 = 0 := eyn2.trans (hz.2 7 (by decide) (by decide) (by decide))
  refine lv_iadd hx hb dX10_passDay_19 ?_
  refine lv_topi (fun yn3 eyn3 => ?_)
  obtain rfl : yn3 = 0 := eyn3.trans (by first | rfl | decide +kernel)
  refine lv_i2l (v := 0) hx hb dX10_passDay_20 (by decide) ?_
  refine lv_aload_n hx hb dX10_passDay_21 rfl (lv_at hl 0 rfl) ?_
  refine va_get (D := D) (ci := 11) (v := .ref v0) (C := RX10) (T := TX10) (N := 39) hx hb hts inX10 hown hK hP 0 rfl rfl 0 (by decide) (hts (.fieldLink RX10 7 "EscrowDeskModel" "s" "[I") (by decide +kernel)) (fun _ h9 => h9) rfl dX10_passDay_22 ?_
  refine lv_iconst (v := 0) hx hb dX10_passDay_25 (by decide) ?_
  refine va_iald hx hb hK hP 1 0 rfl rfl (vp_in_iff.mpr (by decide)) dX10_passDay_26 ?_
  refine lv_topi (fun yn4 eyn4 => ?_)
  obtain rfl : yn4 = 0 := eyn4.trans (hz.2 0 (by decide) (by decide) (by decide))
  refine lv_i2l (v := 0) hx hb dX10_passDay_27 (by decide) ?_
  refine lv_lmul hx hb dX10_passDay_28 ?_
  refine lv_topl (fun yn5 eyn5 => ?_)
  obtain rfl : yn5 = 0 := eyn5.trans (by first | rfl | decide +kernel)
  refine lv_ladd hx hb dX10_passDay_29 ?_
  refine lv_topl (fun yn6 eyn6 => ?_)
  obtain rfl : yn6 = 0 := eyn6.trans (by first | rfl | decide +kernel)
  refine va_put (D := D) (ci := 11) (v := .long 0) (ty := .long) (C := RX10) (T := TX10) (N := 39) hx hb hts inX10 tyX10 tyX10_ok nmX10 hown hK hP hD hS 0 rfl rfl 5 (by decide) (hts (.fieldLink RX10 86 "EscrowDeskModel" "parts" "J") (by decide +kernel)) (fun _ h9 => h9) rfl (by decide +kernel) rfl rfl (Nat.le_of_ble_eq_true rfl) dX10_passDay_30 (fun H locs hP hD hS => ?_)
  have hP : va_P D vwCl [(w0, .inr (11, [.ref v0, .ref v1, .ref v2, .ref v3, .ref v4, .long 0, .long 0, .int 0, .int th, .ref v9, .int 0, .int 0, .int (-1), .ref v13, .int 0, .int 0, .int 0, .int 0, .int 0, .int 0, .int 0, .int 0, .int 0, .int 0, .int 0, .long 0, .int 0, .ref v27, .ref v28, .ref v29, .ref v30, .ref v31, .ref v32, .ref v33, .ref v34, .ref v35, .ref v36, .ref v37, .int 0])), (v0, .inl (cA 0, 326, .inl fs))] H := hP
  have hD : va_D A [(w0, .inr (11, [.ref v0, .ref v1, .ref v2, .ref v3, .ref v4, .long 0, .long 0, .int 0, .int th, .ref v9, .int 0, .int 0, .int (-1), .ref v13, .int 0, .int 0, .int 0, .int 0, .int 0, .int 0, .int 0, .int 0, .int 0, .int 0, .int 0, .long 0, .int 0, .ref v27, .ref v28, .ref v29, .ref v30, .ref v31, .ref v32, .ref v33, .ref v34, .ref v35, .ref v36, .ref v37, .int 0])), (v0, .inl (cA 0, 326, .inl fs))] := hD
  refine lv_aload_n hx hb dX10_passDay_33 rfl (lv_at hl 0 rfl) ?_
  refine va_get (D := D) (ci := 11) (v := .ref v0) (C := RX10) (T := TX10) (N := 39) hx hb hts inX10 hown hK hP 0 rfl rfl 0 (by decide) (hts (.fieldLink RX10 7 "EscrowDeskModel" "s" "[I") (by decide +kernel)) (fun _ h9 => h9) rfl dX10_passDay_34 ?_
  refine lv_iconst (v := 4) hx hb dX10_passDay_37 (by decide) ?_
  refine lv_dup2_11 hx hb dX10_passDay_38 rfl rfl ?_
  refine va_iald hx hb hK hP 1 0 rfl rfl (vp_in_iff.mpr (by decide)) dX10_passDay_39 ?_
  refine lv_topi (fun yn7 eyn7 => ?_)
  refine lv_iconst (v := 1) hx hb dX10_passDay_40 (by decide) ?_
  refine lv_iadd hx hb dX10_passDay_41 ?_
  refine va_iast hx hb hK hP hD hS 1 0 rfl rfl (vp_in_iff.mpr (by decide)) dX10_passDay_42 (fun H locs hP hD hS => ?_)
  have hP : va_P D vwCl [(w0, .inr (11, [.ref v0, .ref v1, .ref v2, .ref v3, .ref v4, .long 0, .long 0, .int 0, .int th, .ref v9, .int 0, .int 0, .int (-1), .ref v13, .int 0, .int 0, .int 0, .int 0, .int 0, .int 0, .int 0, .int 0, .int 0, .int 0, .int 0, .long 0, .int 0, .ref v27, .ref v28, .ref v29, .ref v30, .ref v31, .ref v32, .ref v33, .ref v34, .ref v35, .ref v36, .ref v37, .int 0])), (v0, .inl (cA 0, 326, .inl (upd fs 4 (yn7 + 1))))] H := hP
  have hD : va_D A [(w0, .inr (11, [.ref v0, .ref v1, .ref v2, .ref v3, .ref v4, .long 0, .long 0, .int 0, .int th, .ref v9, .int 0, .int 0, .int (-1), .ref v13, .int 0, .int 0, .int 0, .int 0, .int 0, .int 0, .int 0, .int 0, .int 0, .int 0, .int 0, .long 0, .int 0, .ref v27, .ref v28, .ref v29, .ref v30, .ref v31, .ref v32, .ref v33, .ref v34, .ref v35, .ref v36, .ref v37, .int 0])), (v0, .inl (cA 0, 326, .inl (upd fs 4 (yn7 + 1))))] := hD
  have hn10 : Zd (upd fs 4 (yn7 + 1)) := Zd.day hz (yn7 + 1)
  generalize (upd fs 4 (yn7 + 1)) = fn9 at hP hD hn10
  have hP : va_P D vwCl [(w0, .inr (11, [.ref v0, .ref v1, .ref v2, .ref v3, .ref v4, .long 0, .long 0, .int 0, .int th, .ref v9, .int 0, .int 0, .int (-1), .ref v13, .int 0, .int 0, .int 0, .int 0, .int 0, .int 0, .int 0, .int 0, .int 0, .int 0, .int 0, .long 0, .int 0, .ref v27, .ref v28, .ref v29, .ref v30, .ref v31, .ref v32, .ref v33, .ref v34, .ref v35, .ref v36, .ref v37, .int 0])), (v0, .inl (cA 0, 326, .inl fn9))] H := hP
  have hD : va_D A [(w0, .inr (11, [.ref v0, .ref v1, .ref v2, .ref v3, .ref v4, .long 0, .long 0, .int 0, .int th, .ref v9, .int 0, .int 0, .int (-1), .ref v13, .int 0, .int 0, .int 0, .int 0, .int 0, .int 0, .int 0, .int 0, .int 0, .int 0, .int 0, .long 0, .int 0, .ref v27, .ref v28, .ref v29, .ref v30, .ref v31, .ref v32, .ref v33, .ref v34, .ref v35, .ref v36, .ref v37, .int 0])), (v0, .inl (cA 0, 326, .inl fn9))] := hD
  refine lv_aload_n hx hb dX10_passDay_43 rfl (lv_at hl 0 rfl) ?_
  refine va_get (D := D) (ci := 11) (v := .ref v0) (C := RX10) (T := TX10) (N := 39) hx hb hts inX10 hown hK hP 0 rfl rfl 0 (by decide) (hts (.fieldLink RX10 7 "EscrowDeskModel" "s" "[I") (by decide +kernel)) (fun _ h9 => h9) rfl dX10_passDay_44 ?_
  refine lv_iconst (v := 4) hx hb dX10_passDay_47 (by decide) ?_
  refine va_iald hx hb hK hP 1 0 rfl rfl (vp_in_iff.mpr (by decide)) dX10_passDay_48 ?_
  refine lv_topi (fun yn11 eyn11 => ?_)
  refine lv_bipush (v := 30) hx hb dX10_passDay_49 (by decide) ?_
  refine lv_irem hx hb dX10_passDay_51 (by decide) ?_
  refine lv_if_ne (tgt := 59) hx hb dX10_passDay_52 (by decide) (fun c13 => ?_) (fun c13 => ?_)
  · skip
    refine lv_aload_n hx hb dX10_passDay_59 rfl (lv_at hl 0 rfl) ?_
    have hPc := hP.sub (ws' := [(w0, .inr (11, [.ref v0, .ref v1, .ref v2, .ref v3, .ref v4, .long 0, .long 0, .int 0, .int th, .ref v9, .int 0, .int 0, .int (-1), .ref v13, .int 0, .int 0, .int 0, .int 0, .int 0, .int 0, .int 0, .int 0, .int 0, .int 0, .int 0, .long 0, .int 0, .ref v27, .ref v28, .ref v29, .ref v30, .ref v31, .ref v32, .ref v33, .ref v34, .ref v35, .ref v36, .ref v37, .int 0])), (v0, .inl (cA 0, 326, .inl fn9))]) [0, 1] rfl
    have hDc := hD.sub (ws' := [(w0, .inr (11, [.ref v0, .ref v1, .ref v2, .ref v3, .ref v4, .long 0, .long 0, .int 0, .int th, .ref v9, .int 0, .int 0, .int (-1), .ref v13, .int 0, .int 0, .int 0, .int 0, .int 0, .int 0, .int 0, .int 0, .int 0, .int 0, .int 0, .long 0, .int 0, .ref v27, .ref v28, .ref v29, .ref v30, .ref v31, .ref v32, .ref v33, .ref v34, .ref v35, .ref v36, .ref v37, .int 0])), (v0, .inl (cA 0, 326, .inl fn9))]) [0, 1] (by decide) rfl
    have hFc := va_free (wc := [(w0, .inr (11, [.ref v0, .ref v1, .ref v2, .ref v3, .ref v4, .long 0, .long 0, .int 0, .int th, .ref v9, .int 0, .int 0, .int (-1), .ref v13, .int 0, .int 0, .int 0, .int 0, .int 0, .int 0, .int 0, .int 0, .int 0, .int 0, .int 0, .long 0, .int 0, .ref v27, .ref v28, .ref v29, .ref v30, .ref v31, .ref v32, .ref v33, .ref v34, .ref v35, .ref v36, .ref v37, .int 0])), (v0, .inl (cA 0, 326, .inl fn9))]) hD hS hA [0, 1] rfl
    refine va_callv (va_runV (As := []) (rest := []) ⟨hx, hb, hml, hown, hts⟩ (c_m_becomeDue l D cA sa w0 v0 v1 v2 v3 v4 v9 v13 v27 v28 v29 v30 v31 v32 v33 v34 v35 v36 v37 th fn9 H.size hn10) (cwV 0 hts gX10_passDay_X10_becomeDue rfl rfl rfl (by decide +kernel) ⟨(Nat.le_of_ble_eq_true rfl), (Nat.le_of_ble_eq_true rfl)⟩) ⟨Wd.blind, va_recv hK hPc (ci := 11) (q0 := 0) rfl rfl, fun U hU hW => ⟨rfl, Wd.call hPc hDc hK hC hZ hS hFc U hU hW⟩⟩ rfl rfl hl.1 rfl (lv_room (Nat.le_of_ble_eq_true rfl)) dX10_passDay_60 ⟨(Nat.le_of_ble_eq_true rfl), (Nat.le_of_ble_eq_true rfl)⟩) hS (fun q _ h => hFc q h) hFc (fun u t H1 locs ht hvm hw hB hz1 hk1 hS => ?_)
    obtain ⟨hP1, hD1⟩ := hB
    rw [ht] at hP1
    obtain ⟨hP, hD⟩ := va_join (wr := []) (w1 := [(w0, .inr (11, [.ref v0, .ref v1, .ref v2, .ref v3, .ref v4, .long 0, .long 0, .int 0, .int th, .ref v9, .int 0, .int 0, .int (-1), .ref v13, .int 0, .int 0, .int 0, .int 0, .int 0, .int 0, .int 0, .int 0, .int 0, .int 0, .int 0, .long 0, .int 0, .ref v27, .ref v28, .ref v29, .ref v30, .ref v31, .ref v32, .ref v33, .ref v34, .ref v35, .ref v36, .ref v37, .int 0])), (v0, .inl (cA 0, 326, .inl fn9))]) hP hD [0, 1] [] rfl rfl (by decide) (by decide) hk1 hFc hP1 hD1
    generalize H1 = H at hP hS ⊢
    have hP : va_P D vwCl [(w0, .inr (11, [.ref v0, .ref v1, .ref v2, .ref v3, .ref v4, .long 0, .long 0, .int 0, .int th, .ref v9, .int 0, .int 0, .int (-1), .ref v13, .int 0, .int 0, .int 0, .int 0, .int 0, .int 0, .int 0, .int 0, .int 0, .int 0, .int 0, .long 0, .int 0, .ref v27, .ref v28, .ref v29, .ref v30, .ref v31, .ref v32, .ref v33, .ref v34, .ref v35, .ref v36, .ref v37, .int 0])), (v0, .inl (cA 0, 326, .inl fn9))] H := hP
    have hD : va_D A [(w0, .inr (11, [.ref v0, .ref v1, .ref v2, .ref v3, .ref v4, .long 0, .long 0, .int 0, .int th, .ref v9, .int 0, .int 0, .int (-1), .ref v13, .int 0, .int 0, .int 0, .int 0, .int 0, .int 0, .int 0, .int 0, .int 0, .int 0, .int 0, .long 0, .int 0, .ref v27, .ref v28, .ref v29, .ref v30, .ref v31, .ref v32, .ref v33, .ref v34, .ref v35, .ref v36, .ref v37, .int 0])), (v0, .inl (cA 0, 326, .inl fn9))] := hD
    refine lv_aload_n hx hb dX10_passDay_63 rfl (lv_at hl 0 rfl) ?_
    have hPc := hP.sub (ws' := [(w0, .inr (11, [.ref v0, .ref v1, .ref v2, .ref v3, .ref v4, .long 0, .long 0, .int 0, .int th, .ref v9, .int 0, .int 0, .int (-1), .ref v13, .int 0, .int 0, .int 0, .int 0, .int 0, .int 0, .int 0, .int 0, .int 0, .int 0, .int 0, .long 0, .int 0, .ref v27, .ref v28, .ref v29, .ref v30, .ref v31, .ref v32, .ref v33, .ref v34, .ref v35, .ref v36, .ref v37, .int 0])), (v0, .inl (cA 0, 326, .inl fn9))]) [0, 1] rfl
    have hDc := hD.sub (ws' := [(w0, .inr (11, [.ref v0, .ref v1, .ref v2, .ref v3, .ref v4, .long 0, .long 0, .int 0, .int th, .ref v9, .int 0, .int 0, .int (-1), .ref v13, .int 0, .int 0, .int 0, .int 0, .int 0, .int 0, .int 0, .int 0, .int 0, .int 0, .int 0, .long 0, .int 0, .ref v27, .ref v28, .ref v29, .ref v30, .ref v31, .ref v32, .ref v33, .ref v34, .ref v35, .ref v36, .ref v37, .int 0])), (v0, .inl (cA 0, 326, .inl fn9))]) [0, 1] (by decide) rfl
    have hFc := va_free (wc := [(w0, .inr (11, [.ref v0, .ref v1, .ref v2, .ref v3, .ref v4, .long 0, .long 0, .int 0, .int th, .ref v9, .int 0, .int 0, .int (-1), .ref v13, .int 0, .int 0, .int 0, .int 0, .int 0, .int 0, .int 0, .int 0, .int 0, .int 0, .int 0, .long 0, .int 0, .ref v27, .ref v28, .ref v29, .ref v30, .ref v31, .ref v32, .ref v33, .ref v34, .ref v35, .ref v36, .ref v37, .int 0])), (v0, .inl (cA 0, 326, .inl fn9))]) hD hS hA [0, 1] rfl
    refine va_callv (va_runV (As := []) (rest := []) ⟨hx, hb, hml, hown, hts⟩ (c_m_payDue l D cA sa w0 v0 v1 v2 v3 v4 v9 v13 v27 v28 v29 v30 v31 v32 v33 v34 v35 v36 v37 th fn9 H.size hn10) (cwV 0 hts gX10_passDay_X10_payDue rfl rfl rfl (by decide +kernel) ⟨(Nat.le_of_ble_eq_true rfl), (Nat.le_of_ble_eq_true rfl)⟩) ⟨Wd.blind, va_recv hK hPc (ci := 11) (q0 := 0) rfl rfl, fun U hU hW => ⟨rfl, Wd.call hPc hDc hK hC hZ hS hFc U hU hW⟩⟩ rfl rfl hl.1 rfl (lv_room (Nat.le_of_ble_eq_true rfl)) dX10_passDay_64 ⟨(Nat.le_of_ble_eq_true rfl), (Nat.le_of_ble_eq_true rfl)⟩) hS (fun q _ h => hFc q h) hFc (fun u t H1 locs ht hvm hw hB hz1 hk1 hS => ?_)
    obtain ⟨hP1, hD1⟩ := hB
    rw [ht] at hP1
    obtain ⟨hP, hD⟩ := va_join (wr := []) (w1 := [(w0, .inr (11, [.ref v0, .ref v1, .ref v2, .ref v3, .ref v4, .long 0, .long 0, .int 0, .int th, .ref v9, .int 0, .int 0, .int (-1), .ref v13, .int 0, .int 0, .int 0, .int 0, .int 0, .int 0, .int 0, .int 0, .int 0, .int 0, .int 0, .long 0, .int 0, .ref v27, .ref v28, .ref v29, .ref v30, .ref v31, .ref v32, .ref v33, .ref v34, .ref v35, .ref v36, .ref v37, .int 0])), (v0, .inl (cA 0, 326, .inl fn9))]) hP hD [0, 1] [] rfl rfl (by decide) (by decide) hk1 hFc hP1 hD1
    generalize H1 = H at hP hS ⊢
    have hP : va_P D vwCl [(w0, .inr (11, [.ref v0, .ref v1, .ref v2, .ref v3, .ref v4, .long 0, .long 0, .int 0, .int th, .ref v9, .int 0, .int 0, .int (-1), .ref v13, .int 0, .int 0, .int 0, .int 0, .int 0, .int 0, .int 0, .int 0, .int 0, .int 0, .int 0, .long 0, .int 0, .ref v27, .ref v28, .ref v29, .ref v30, .ref v31, .ref v32, .ref v33, .ref v34, .ref v35, .ref v36, .ref v37, .int 0])), (v0, .inl (cA 0, 326, .inl fn9))] H := hP
    have hD : va_D A [(w0, .inr (11, [.ref v0, .ref v1, .ref v2, .ref v3, .ref v4, .long 0, .long 0, .int 0, .int th, .ref v9, .int 0, .int 0, .int (-1), .ref v13, .int 0, .int 0, .int 0, .int 0, .int 0, .int 0, .int 0, .int 0, .int 0, .int 0, .int 0, .long 0, .int 0, .ref v27, .ref v28, .ref v29, .ref v30, .ref v31, .ref v32, .ref v33, .ref v34, .ref v35, .ref v36, .ref v37, .int 0])), (v0, .inl (cA 0, 326, .inl fn9))] := hD
    have hP9 := hP.sub (ws' := [(w0, .inr (11, [.ref v0, .ref v1, .ref v2, .ref v3, .ref v4, .long 0, .long 0, .int 0, .int th, .ref v9, .int 0, .int 0, .int (-1), .ref v13, .int 0, .int 0, .int 0, .int 0, .int 0, .int 0, .int 0, .int 0, .int 0, .int 0, .int 0, .long 0, .int 0, .ref v27, .ref v28, .ref v29, .ref v30, .ref v31, .ref v32, .ref v33, .ref v34, .ref v35, .ref v36, .ref v37, .int 0])), (v0, .inl (cA 0, 326, .inl fn9))]) [0, 1] rfl
    have hD9 := hD.sub (ws' := [(w0, .inr (11, [.ref v0, .ref v1, .ref v2, .ref v3, .ref v4, .long 0, .long 0, .int 0, .int th, .ref v9, .int 0, .int 0, .int (-1), .ref v13, .int 0, .int 0, .int 0, .int 0, .int 0, .int 0, .int 0, .int 0, .int 0, .int 0, .int 0, .long 0, .int 0, .ref v27, .ref v28, .ref v29, .ref v30, .ref v31, .ref v32, .ref v33, .ref v34, .ref v35, .ref v36, .ref v37, .int 0])), (v0, .inl (cA 0, 326, .inl fn9))]) [0, 1] (by decide) rfl
    refine W.widen (k := 0) (n := 0) (Nat.le_of_ble_eq_true rfl) (Nat.le_of_ble_eq_true rfl) ?_
    exact W.vret hx hb hr (fun t ht hW => ⟨⟨(), rfl, trivial, fn9, hn10, by rw [ht]; exact hP9, hD9⟩, hS.F ht⟩) hS.2.2 dX10_passDay_67
  · skip
    refine lv_aload_n hx hb dX10_passDay_55 rfl (lv_at hl 0 rfl) ?_
    have hPc := hP.sub (ws' := [(w0, .inr (11, [.ref v0, .ref v1, .ref v2, .ref v3, .ref v4, .long 0, .long 0, .int 0, .int th, .ref v9, .int 0, .int 0, .int (-1), .ref v13, .int 0, .int 0, .int 0, .int 0, .int 0, .int 0, .int 0, .int 0, .int 0, .int 0, .int 0, .long 0, .int 0, .ref v27, .ref v28, .ref v29, .ref v30, .ref v31, .ref v32, .ref v33, .ref v34, .ref v35, .ref v36, .ref v37, .int 0])), (v0, .inl (cA 0, 326, .inl fn9))]) [0, 1] rfl
    have hDc := hD.sub (ws' := [(w0, .inr (11, [.ref v0, .ref v1, .ref v2, .ref v3, .ref v4, .long 0, .long 0, .int 0, .int th, .ref v9, .int 0, .int 0, .int (-1), .ref v13, .int 0, .int 0, .int 0, .int 0, .int 0, .int 0, .int 0, .int 0, .int 0, .int 0, .int 0, .long 0, .int 0, .ref v27, .ref v28, .ref v29, .ref v30, .ref v31, .ref v32, .ref v33, .ref v34, .ref v35, .ref v36, .ref v37, .int 0])), (v0, .inl (cA 0, 326, .inl fn9))]) [0, 1] (by decide) rfl
    have hFc := va_free (wc := [(w0, .inr (11, [.ref v0, .ref v1, .ref v2, .ref v3, .ref v4, .long 0, .long 0, .int 0, .int th, .ref v9, .int 0, .int 0, .int (-1), .ref v13, .int 0, .int 0, .int 0, .int 0, .int 0, .int 0, .int 0, .int 0, .int 0, .int 0, .int 0, .long 0, .int 0, .ref v27, .ref v28, .ref v29, .ref v30, .ref v31, .ref v32, .ref v33, .ref v34, .ref v35, .ref v36, .ref v37, .int 0])), (v0, .inl (cA 0, 326, .inl fn9))]) hD hS hA [0, 1] rfl
    refine va_callv (va_runV (As := []) (rest := []) ⟨hx, hb, hml, hown, hts⟩ (c_m_credit l D cA sa w0 v0 v1 v2 v3 v4 v9 v13 v27 v28 v29 v30 v31 v32 v33 v34 v35 v36 v37 th fn9 H.size hn10) (cwV 0 hts gX10_passDay_X10_credit rfl rfl rfl (by decide +kernel) ⟨(Nat.le_of_ble_eq_true rfl), (Nat.le_of_ble_eq_true rfl)⟩) ⟨Wd.blind, va_recv hK hPc (ci := 11) (q0 := 0) rfl rfl, fun U hU hW => ⟨rfl, Wd.call hPc hDc hK hC hZ hS hFc U hU hW⟩⟩ rfl rfl hl.1 rfl (lv_room (Nat.le_of_ble_eq_true rfl)) dX10_passDay_56 ⟨(Nat.le_of_ble_eq_true rfl), (Nat.le_of_ble_eq_true rfl)⟩) hS (fun q _ h => hFc q h) hFc (fun u t H1 locs ht hvm hw hB hz1 hk1 hS => ?_)
    obtain ⟨fn14, hn15, hP1, hD1⟩ := hB
    rw [ht] at hP1
    obtain ⟨hP, hD⟩ := va_join (wr := []) (w1 := [(w0, .inr (11, [.ref v0, .ref v1, .ref v2, .ref v3, .ref v4, .long 0, .long 0, .int 0, .int th, .ref v9, .int 0, .int 0, .int (-1), .ref v13, .int 0, .int 0, .int 0, .int 0, .int 0, .int 0, .int 0, .int 0, .int 0, .int 0, .int 0, .long 0, .int 0, .ref v27, .ref v28, .ref v29, .ref v30, .ref v31, .ref v32, .ref v33, .ref v34, .ref v35, .ref v36, .ref v37, .int 0])), (v0, .inl (cA 0, 326, .inl fn14))]) hP hD [0, 1] [] rfl rfl (by decide) (by decide) hk1 hFc hP1 hD1
    generalize H1 = H at hP hS ⊢
    have hP : va_P D vwCl [(w0, .inr (11, [.ref v0, .ref v1, .ref v2, .ref v3, .ref v4, .long 0, .long 0, .int 0, .int th, .ref v9, .int 0, .int 0, .int (-1), .ref v13, .int 0, .int 0, .int 0, .int 0, .int 0, .int 0, .int 0, .int 0, .int 0, .int 0, .int 0, .long 0, .int 0, .ref v27, .ref v28, .ref v29, .ref v30, .ref v31, .ref v32, .ref v33, .ref v34, .ref v35, .ref v36, .ref v37, .int 0])), (v0, .inl (cA 0, 326, .inl fn14))] H := hP
    have hD : va_D A [(w0, .inr (11, [.ref v0, .ref v1, .ref v2, .ref v3, .ref v4, .long 0, .long 0, .int 0, .int th, .ref v9, .int 0, .int 0, .int (-1), .ref v13, .int 0, .int 0, .int 0, .int 0, .int 0, .int 0, .int 0, .int 0, .int 0, .int 0, .int 0, .long 0, .int 0, .ref v27, .ref v28, .ref v29, .ref v30, .ref v31, .ref v32, .ref v33, .ref v34, .ref v35, .ref v36, .ref v37, .int 0])), (v0, .inl (cA 0, 326, .inl fn14))] := hD
    refine lv_aload_n hx hb dX10_passDay_59 rfl (lv_at hl 0 rfl) ?_
    have hPc := hP.sub (ws' := [(w0, .inr (11, [.ref v0, .ref v1, .ref v2, .ref v3, .ref v4, .long 0, .long 0, .int 0, .int th, .ref v9, .int 0, .int 0, .int (-1), .ref v13, .int 0, .int 0, .int 0, .int 0, .int 0, .int 0, .int 0, .int 0, .int 0, .int 0, .int 0, .long 0, .int 0, .ref v27, .ref v28, .ref v29, .ref v30, .ref v31, .ref v32, .ref v33, .ref v34, .ref v35, .ref v36, .ref v37, .int 0])), (v0, .inl (cA 0, 326, .inl fn14))]) [0, 1] rfl
    have hDc := hD.sub (ws' := [(w0, .inr (11, [.ref v0, .ref v1, .ref v2, .ref v3, .ref v4, .long 0, .long 0, .int 0, .int th, .ref v9, .int 0, .int 0, .int (-1), .ref v13, .int 0, .int 0, .int 0, .int 0, .int 0, .int 0, .int 0, .int 0, .int 0, .int 0, .int 0, .long 0, .int 0, .ref v27, .ref v28, .ref v29, .ref v30, .ref v31, .ref v32, .ref v33, .ref v34, .ref v35, .ref v36, .ref v37, .int 0])), (v0, .inl (cA 0, 326, .inl fn14))]) [0, 1] (by decide) rfl
    have hFc := va_free (wc := [(w0, .inr (11, [.ref v0, .ref v1, .ref v2, .ref v3, .ref v4, .long 0, .long 0, .int 0, .int th, .ref v9, .int 0, .int 0, .int (-1), .ref v13, .int 0, .int 0, .int 0, .int 0, .int 0, .int 0, .int 0, .int 0, .int 0, .int 0, .int 0, .long 0, .int 0, .ref v27, .ref v28, .ref v29, .ref v30, .ref v31, .ref v32, .ref v33, .ref v34, .ref v35, .ref v36, .ref v37, .int 0])), (v0, .inl (cA 0, 326, .inl fn14))]) hD hS hA [0, 1] rfl
    refine va_callv (va_runV (As := []) (rest := []) ⟨hx, hb, hml, hown, hts⟩ (c_m_becomeDue l D cA sa w0 v0 v1 v2 v3 v4 v9 v13 v27 v28 v29 v30 v31 v32 v33 v34 v35 v36 v37 th fn14 H.size hn15) (cwV 0 hts gX10_passDay_X10_becomeDue rfl rfl rfl (by decide +kernel) ⟨(Nat.le_of_ble_eq_true rfl), (Nat.le_of_ble_eq_true rfl)⟩) ⟨Wd.blind, va_recv hK hPc (ci := 11) (q0 := 0) rfl rfl, fun U hU hW => ⟨rfl, Wd.call hPc hDc hK hC hZ hS hFc U hU hW⟩⟩ rfl rfl hl.1 rfl (lv_room (Nat.le_of_ble_eq_true rfl)) dX10_passDay_60 ⟨(Nat.le_of_ble_eq_true rfl), (Nat.le_of_ble_eq_true rfl)⟩) hS (fun q _ h => hFc q h) hFc (fun u t H1 locs ht hvm hw hB hz1 hk1 hS => ?_)
    obtain ⟨hP1, hD1⟩ := hB
    rw [ht] at hP1
    obtain ⟨hP, hD⟩ := va_join (wr := []) (w1 := [(w0, .inr (11, [.ref v0, .ref v1, .ref v2, .ref v3, .ref v4, .long 0, .long 0, .int 0, .int th, .ref v9, .int 0, .int 0, .int (-1), .ref v13, .int 0, .int 0, .int 0, .int 0, .int 0, .int 0, .int 0, .int 0, .int 0, .int 0, .int 0, .long 0, .int 0, .ref v27, .ref v28, .ref v29, .ref v30, .ref v31, .ref v32, .ref v33, .ref v34, .ref v35, .ref v36, .ref v37, .int 0])), (v0, .inl (cA 0, 326, .inl fn14))]) hP hD [0, 1] [] rfl rfl (by decide) (by decide) hk1 hFc hP1 hD1
    generalize H1 = H at hP hS ⊢
    have hP : va_P D vwCl [(w0, .inr (11, [.ref v0, .ref v1, .ref v2, .ref v3, .ref v4, .long 0, .long 0, .int 0, .int th, .ref v9, .int 0, .int 0, .int (-1), .ref v13, .int 0, .int 0, .int 0, .int 0, .int 0, .int 0, .int 0, .int 0, .int 0, .int 0, .int 0, .long 0, .int 0, .ref v27, .ref v28, .ref v29, .ref v30, .ref v31, .ref v32, .ref v33, .ref v34, .ref v35, .ref v36, .ref v37, .int 0])), (v0, .inl (cA 0, 326, .inl fn14))] H := hP
    have hD : va_D A [(w0, .inr (11, [.ref v0, .ref v1, .ref v2, .ref v3, .ref v4, .long 0, .long 0, .int 0, .int th, .ref v9, .int 0, .int 0, .int (-1), .ref v13, .int 0, .int 0, .int 0, .int 0, .int 0, .int 0, .int 0, .int 0, .int 0, .int 0, .int 0, .long 0, .int 0, .ref v27, .ref v28, .ref v29, .ref v30, .ref v31, .ref v32, .ref v33, .ref v34, .ref v35, .ref v36, .ref v37, .int 0])), (v0, .inl (cA 0, 326, .inl fn14))] := hD
    refine lv_aload_n hx hb dX10_passDay_63 rfl (lv_at hl 0 rfl) ?_
    have hPc := hP.sub (ws' := [(w0, .inr (11, [.ref v0, .ref v1, .ref v2, .ref v3, .ref v4, .long 0, .long 0, .int 0, .int th, .ref v9, .int 0, .int 0, .int (-1), .ref v13, .int 0, .int 0, .int 0, .int 0, .int 0, .int 0, .int 0, .int 0, .int 0, .int 0, .int 0, .long 0, .int 0, .ref v27, .ref v28, .ref v29, .ref v30, .ref v31, .ref v32, .ref v33, .ref v34, .ref v35, .ref v36, .ref v37, .int 0])), (v0, .inl (cA 0, 326, .inl fn14))]) [0, 1] rfl
    have hDc := hD.sub (ws' := [(w0, .inr (11, [.ref v0, .ref v1, .ref v2, .ref v3, .ref v4, .long 0, .long 0, .int 0, .int th, .ref v9, .int 0, .int 0, .int (-1), .ref v13, .int 0, .int 0, .int 0, .int 0, .int 0, .int 0, .int 0, .int 0, .int 0, .int 0, .int 0, .long 0, .int 0, .ref v27, .ref v28, .ref v29, .ref v30, .ref v31, .ref v32, .ref v33, .ref v34, .ref v35, .ref v36, .ref v37, .int 0])), (v0, .inl (cA 0, 326, .inl fn14))]) [0, 1] (by decide) rfl
    have hFc := va_free (wc := [(w0, .inr (11, [.ref v0, .ref v1, .ref v2, .ref v3, .ref v4, .long 0, .long 0, .int 0, .int th, .ref v9, .int 0, .int 0, .int (-1), .ref v13, .int 0, .int 0, .int 0, .int 0, .int 0, .int 0, .int 0, .int 0, .int 0, .int 0, .int 0, .long 0, .int 0, .ref v27, .ref v28, .ref v29, .ref v30, .ref v31, .ref v32, .ref v33, .ref v34, .ref v35, .ref v36, .ref v37, .int 0])), (v0, .inl (cA 0, 326, .inl fn14))]) hD hS hA [0, 1] rfl
    refine va_callv (va_runV (As := []) (rest := []) ⟨hx, hb, hml, hown, hts⟩ (c_m_payDue l D cA sa w0 v0 v1 v2 v3 v4 v9 v13 v27 v28 v29 v30 v31 v32 v33 v34 v35 v36 v37 th fn14 H.size hn15) (cwV 0 hts gX10_passDay_X10_payDue rfl rfl rfl (by decide +kernel) ⟨(Nat.le_of_ble_eq_true rfl), (Nat.le_of_ble_eq_true rfl)⟩) ⟨Wd.blind, va_recv hK hPc (ci := 11) (q0 := 0) rfl rfl, fun U hU hW => ⟨rfl, Wd.call hPc hDc hK hC hZ hS hFc U hU hW⟩⟩ rfl rfl hl.1 rfl (lv_room (Nat.le_of_ble_eq_true rfl)) dX10_passDay_64 ⟨(Nat.le_of_ble_eq_true rfl), (Nat.le_of_ble_eq_true rfl)⟩) hS (fun q _ h => hFc q h) hFc (fun u t H1 locs ht hvm hw hB hz1 hk1 hS => ?_)
    obtain ⟨hP1, hD1⟩ := hB
    rw [ht] at hP1
    obtain ⟨hP, hD⟩ := va_join (wr := []) (w1 := [(w0, .inr (11, [.ref v0, .ref v1, .ref v2, .ref v3, .ref v4, .long 0, .long 0, .int 0, .int th, .ref v9, .int 0, .int 0, .int (-1), .ref v13, .int 0, .int 0, .int 0, .int 0, .int 0, .int 0, .int 0, .int 0, .int 0, .int 0, .int 0, .long 0, .int 0, .ref v27, .ref v28, .ref v29, .ref v30, .ref v31, .ref v32, .ref v33, .ref v34, .ref v35, .ref v36, .ref v37, .int 0])), (v0, .inl (cA 0, 326, .inl fn14))]) hP hD [0, 1] [] rfl rfl (by decide) (by decide) hk1 hFc hP1 hD1
    generalize H1 = H at hP hS ⊢
    have hP : va_P D vwCl [(w0, .inr (11, [.ref v0, .ref v1, .ref v2, .ref v3, .ref v4, .long 0, .long 0, .int 0, .int th, .ref v9, .int 0, .int 0, .int (-1), .ref v13, .int 0, .int 0, .int 0, .int 0, .int 0, .int 0, .int 0, .int 0, .int 0, .int 0, .int 0, .long 0, .int 0, .ref v27, .ref v28, .ref v29, .ref v30, .ref v31, .ref v32, .ref v33, .ref v34, .ref v35, .ref v36, .ref v37, .int 0])), (v0, .inl (cA 0, 326, .inl fn14))] H := hP
    have hD : va_D A [(w0, .inr (11, [.ref v0, .ref v1, .ref v2, .ref v3, .ref v4, .long 0, .long 0, .int 0, .int th, .ref v9, .int 0, .int 0, .int (-1), .ref v13, .int 0, .int 0, .int 0, .int 0, .int 0, .int 0, .int 0, .int 0, .int 0, .int 0, .int 0, .long 0, .int 0, .ref v27, .ref v28, .ref v29, .ref v30, .ref v31, .ref v32, .ref v33, .ref v34, .ref v35, .ref v36, .ref v37, .int 0])), (v0, .inl (cA 0, 326, .inl fn14))] := hD
    have hP9 := hP.sub (ws' := [(w0, .inr (11, [.ref v0, .ref v1, .ref v2, .ref v3, .ref v4, .long 0, .long 0, .int 0, .int th, .ref v9, .int 0, .int 0, .int (-1), .ref v13, .int 0, .int 0, .int 0, .int 0, .int 0, .int 0, .int 0, .int 0, .int 0, .int 0, .int 0, .long 0, .int 0, .ref v27, .ref v28, .ref v29, .ref v30, .ref v31, .ref v32, .ref v33, .ref v34, .ref v35, .ref v36, .ref v37, .int 0])), (v0, .inl (cA 0, 326, .inl fn14))]) [0, 1] rfl
    have hD9 := hD.sub (ws' := [(w0, .inr (11, [.ref v0, .ref v1, .ref v2, .ref v3, .ref v4, .long 0, .long 0, .int 0, .int th, .ref v9, .int 0, .int 0, .int (-1), .ref v13, .int 0, .int 0, .int 0, .int 0, .int 0, .int 0, .int 0, .int 0, .int 0, .int 0, .int 0, .long 0, .int 0, .ref v27, .ref v28, .ref v29, .ref v30, .ref v31, .ref v32, .ref v33, .ref v34, .ref v35, .ref v36, .ref v37, .int 0])), (v0, .inl (cA 0, 326, .inl fn14))]) [0, 1] (by decide) rfl
    refine W.widen (k := 0) (n := 0) (Nat.le_of_ble_eq_true rfl) (Nat.le_of_ble_eq_true rfl) ?_
    exact W.vret hx hb hr (fun t ht hW => ⟨⟨(), rfl, trivial, fn14, hn15, by rw [ht]; exact hP9, hD9⟩, hS.F ht⟩) hS.2.2 dX10_passDay_67

set_option maxHeartbeats 4000000 in
set_option maxRecDepth 100000 in
/-- passDays: the day alone -/
theorem c_m_passDays (l : Launch) (D : va_G) (cA : Nat → ClassId) (sa : Nat → Nat) (w0 v0 v1 v2 v3 v4 v9 v13 v27 v28 v29 v30 v31 v32 v33 v34 v35 v36 v37 N : Nat) (th : Int32) (fs0 : Nat → Int32) (sz : Nat) (hz0 : Zd fs0) (hN : N ≤ 120) : Met l yX10_passDays wsX10_passDays ({ frames := 3, cells := 0, slots := 0, locals := 67 }) (va_Pc [.ref w0, .int (nI N)] (Wd D cA sa [(w0, .inr (11, [.ref v0, .ref v1, .ref v2, .ref v3, .ref v4, .long 0, .long 0, .int 0, .int th, .ref v9, .int 0, .int 0, .int (-1), .ref v13, .int 0, .int 0, .int 0, .int 0, .int 0, .int 0, .int 0, .int 0, .int 0, .int 0, .int 0, .long 0, .int 0, .ref v27, .ref v28, .ref v29, .ref v30, .ref v31, .ref v32, .ref v33, .ref v34, .ref v35, .ref v36, .ref v37, .int 0])), (v0, .inl (cA 0, 326, .inl fs0))] sz)) (va_Qv (fun _ : Unit => True) (fun (_ : Unit) t => ∃ fs : Nat → Int32, Zd fs ∧ Wq D (va_A [(w0, .inr (11, [.ref v0, .ref v1, .ref v2, .ref v3, .ref v4, .long 0, .long 0, .int 0, .int th, .ref v9, .int 0, .int 0, .int (-1), .ref v13, .int 0, .int 0, .int 0, .int 0, .int 0, .int 0, .int 0, .int 0, .int 0, .int 0, .int 0, .long 0, .int 0, .ref v27, .ref v28, .ref v29, .ref v30, .ref v31, .ref v32, .ref v33, .ref v34, .ref v35, .ref v36, .ref v37, .int 0])), (v0, .inl (cA 0, 326, .inl fs0))] sz) [(w0, .inr (11, [.ref v0, .ref v1, .ref v2, .ref v3, .ref v4, .long 0, .long 0, .int 0, .int th, .ref v9, .int 0, .int 0, .int (-1), .ref v13, .int 0, .int 0, .int 0, .int 0, .int 0, .int 0, .int 0, .int 0, .int 0, .int 0, .int 0, .long 0, .int 0, .ref v27, .ref v28, .ref v29, .ref v30, .ref v31, .ref v32, .ref v33, .ref v34, .ref v35, .ref v36, .ref v37, .int 0])), (v0, .inl (cA 0, 326, .inl fs))] t) (va_A [(w0, .inr (11, [.ref v0, .ref v1, .ref v2, .ref v3, .ref v4, .long 0, .long 0, .int 0, .int th, .ref v9, .int 0, .int 0, .int (-1), .ref v13, .int 0, .int 0, .int 0, .int 0, .int 0, .int 0, .int 0, .int 0, .int 0, .int 0, .int 0, .long 0, .int 0, .ref v27, .ref v28, .ref v29, .ref v30, .ref v31, .ref v32, .ref v33, .ref v34, .ref v35, .ref v36, .ref v37, .int 0])), (v0, .inl (cA 0, 326, .inl fs0))] sz)) 0 0 (va_A [(w0, .inr (11, [.ref v0, .ref v1, .ref v2, .ref v3, .ref v4, .long 0, .long 0, .int 0, .int th, .ref v9, .int 0, .int 0, .int (-1), .ref v13, .int 0, .int 0, .int 0, .int 0, .int 0, .int 0, .int 0, .int 0, .int 0, .int 0, .int 0, .long 0, .int 0, .ref v27, .ref v28, .ref v29, .ref v30, .ref v31, .ref v32, .ref v33, .ref v34, .ref v35, .ref v36, .ref v37, .int 0])), (v0, .inl (cA 0, 326, .inl fs0))] sz) := by
  refine Met.ofW (cc := cX10_passDays) (maxL := 3) (ret := none) (by decide) rfl ?_
  intro p e s m args below meth c s₁ B hml hv
  obtain ⟨rfl, hsz, hP, hK, hD0, hC, hZ⟩ := hv
  have hx := B.exec
  have hb := B.bytes
  have hr := B.returns
  have hts := atoms_spec (ws := wsX10_passDays) B.pre
  have hown : s.vm.findClass RX10 = some m.cls := findClass_of_methodNamed B.named
  have hlocks := B.notSynchronized
  subst hsz
  have hD := hD0.self (sz := s.heap.size)
  generalize hAe : va_A [(w0, .inr (11, [.ref v0, .ref v1, .ref v2, .ref v3, .ref v4, .long 0, .long 0, .int 0, .int th, .ref v9, .int 0, .int 0, .int (-1), .ref v13, .int 0, .int 0, .int 0, .int 0, .int 0, .int 0, .int 0, .int 0, .int 0, .int 0, .int 0, .long 0, .int 0, .ref v27, .ref v28, .ref v29, .ref v30, .ref v31, .ref v32, .ref v33, .ref v34, .ref v35, .ref v36, .ref v37, .int 0])), (v0, .inl (cA 0, 326, .inl fs0))] s.heap.size = A at hD hZ ⊢
  have hA : ∀ q : Nat, s.heap.size ≤ q → A q := fun q h => by rw [← hAe]; exact Or.inr h
  have hS : va_S A s.heap s.heap [] := va_S.rf
  have hP : va_P D vwCl [(w0, .inr (11, [.ref v0, .ref v1, .ref v2, .ref v3, .ref v4, .long 0, .long 0, .int 0, .int th, .ref v9, .int 0, .int 0, .int (-1), .ref v13, .int 0, .int 0, .int 0, .int 0, .int 0, .int 0, .int 0, .int 0, .int 0, .int 0, .int 0, .long 0, .int 0, .ref v27, .ref v28, .ref v29, .ref v30, .ref v31, .ref v32, .ref v33, .ref v34, .ref v35, .ref v36, .ref v37, .int 0])), (v0, .inl (cA 0, 326, .inl fs0))] s.heap := hP
  have hl := lv_entry ([.ref w0, .int (nI N)]) (n := 3) (Nat.le_of_ble_eq_true rfl)
  rw [lg_entry_eq]
  generalize (lg_sl ([.ref w0, .int (nI N)]) ++ List.replicate (3 - (lg_sl ([.ref w0, .int (nI N)])).length) Slot.unset).toArray = ls at hl ⊢
  have hl : lv_has ls 3 [(0, .ref w0), (1, .int (nI N))] := hl
  refine lv_iconst (v := 0) hx hb dX10_passDays_0 (by decide) ?_
  refine lv_istore_n (lv' := [(2, .int 0), (0, .ref w0), (1, .int (nI N))]) hx hb dX10_passDays_1 rfl hl (by decide) rfl (fun ls hl => ?_)
  have loop : ∀ (n i : Nat) (fs : Nat → Int32) (H : Heap) (locs : List Loc) (ls : Array Slot), i + n = N → Zd fs → va_P D vwCl [(w0, .inr (11, [.ref v0, .ref v1, .ref v2, .ref v3, .ref v4, .long 0, .long 0, .int 0, .int th, .ref v9, .int 0, .int 0, .int (-1), .ref v13, .int 0, .int 0, .int 0, .int 0, .int 0, .int 0, .int 0, .int 0, .int 0, .int 0, .int 0, .long 0, .int 0, .ref v27, .ref v28, .ref v29, .ref v30, .ref v31, .ref v32, .ref v33, .ref v34, .ref v35, .ref v36, .ref v37, .int 0])), (v0, .inl (cA 0, 326, .inl fs))] H → va_D A [(w0, .inr (11, [.ref v0, .ref v1, .ref v2, .ref v3, .ref v4, .long 0, .long 0, .int 0, .int th, .ref v9, .int 0, .int 0, .int (-1), .ref v13, .int 0, .int 0, .int 0, .int 0, .int 0, .int 0, .int 0, .int 0, .int 0, .int 0, .int 0, .long 0, .int 0, .ref v27, .ref v28, .ref v29, .ref v30, .ref v31, .ref v32, .ref v33, .ref v34, .ref v35, .ref v36, .ref v37, .int 0])), (v0, .inl (cA 0, 326, .inl fs))] → va_S A s.heap H locs → lv_has ls 3 [(2, .int (nI i)), (0, .ref w0), (1, .int (nI N))] → W p l e (headSpec wsX10_passDays ({ frames := 3, cells := 0, slots := 0, locals := 67 } : Room)).room s m ([.ref w0, .int (nI N)] : List Value).toArray below meth c H locs 0 0 (MQ below (va_Qv (fun _ : Unit => True) (fun (_ : Unit) t => ∃ fs : Nat → Int32, Zd fs ∧ Wq D A [(w0, .inr (11, [.ref v0, .ref v1, .ref v2, .ref v3, .ref v4, .long 0, .long 0, .int 0, .int th, .ref v9, .int 0, .int 0, .int (-1), .ref v13, .int 0, .int 0, .int 0, .int 0, .int 0, .int 0, .int 0, .int 0, .int 0, .int 0, .int 0, .long 0, .int 0, .ref v27, .ref v28, .ref v29, .ref v30, .ref v31, .ref v32, .ref v33, .ref v34, .ref v35, .ref v36, .ref v37, .int 0])), (v0, .inl (cA 0, 326, .inl fs))] t) A) ([.ref w0, .int (nI N)] : List Value).toArray s 0 0 A) (F0 m 2 ls []) := by
    intro n
    induction n with
    | zero =>
      intro i fs H locs ls hi hz hP hD hS hl
      obtain rfl : N = i := by omega
      refine lv_iload_n hx hb dX10_passDays_2 rfl (lv_at hl 0 rfl) ?_
      refine lv_iload_n hx hb dX10_passDays_3 rfl (lv_at hl 2 rfl) ?_
      refine lv_icmp_ge (tgt := 17) hx hb dX10_passDays_4 (by decide) (fun c1 => ?_) (fun c9 => absurd c9 (fun h3 => h3 (nI_le (Nat.le_refl N) (by omega))))
      have hP9 := hP.sub (ws' := [(w0, .inr (11, [.ref v0, .ref v1, .ref v2, .ref v3, .ref v4, .long 0, .long 0, .int 0, .int th, .ref v9, .int 0, .int 0, .int (-1), .ref v13, .int 0, .int 0, .int 0, .int 0, .int 0, .int 0, .int 0, .int 0, .int 0, .int 0, .int 0, .long 0, .int 0, .ref v27, .ref v28, .ref v29, .ref v30, .ref v31, .ref v32, .ref v33, .ref v34, .ref v35, .ref v36, .ref v37, .int 0])), (v0, .inl (cA 0, 326, .inl fs))]) [0, 1] rfl
      have hD9 := hD.sub (ws' := [(w0, .inr (11, [.ref v0, .ref v1, .ref v2, .ref v3, .ref v4, .long 0, .long 0, .int 0, .int th, .ref v9, .int 0, .int 0, .int (-1), .ref v13, .int 0, .int 0, .int 0, .int 0, .int 0, .int 0, .int 0, .int 0, .int 0, .int 0, .int 0, .long 0, .int 0, .ref v27, .ref v28, .ref v29, .ref v30, .ref v31, .ref v32, .ref v33, .ref v34, .ref v35, .ref v36, .ref v37, .int 0])), (v0, .inl (cA 0, 326, .inl fs))]) [0, 1] (by decide) rfl
      refine W.widen (k := 0) (n := 0) (Nat.le_of_ble_eq_true rfl) (Nat.le_of_ble_eq_true rfl) ?_
      exact W.vret hx hb hr (fun t ht hW => ⟨⟨(), rfl, trivial, fs, hz, by rw [ht]; exact hP9, hD9⟩, hS.F ht⟩) hS.2.2 dX10_passDays_17
    | succ n ih =>
      intro i fs H locs ls hi hz hP hD hS hl
      refine lv_iload_n hx hb dX10_passDays_2 rfl (lv_at hl 0 rfl) ?_
      refine lv_iload_n hx hb dX10_passDays_3 rfl (lv_at hl 2 rfl) ?_
      refine lv_icmp_ge (tgt := 17) hx hb dX10_passDays_4 (by decide) (fun c9 => absurd c9 (nI_ge (show i < N by omega) (by omega))) (fun c2 => ?_)
      refine lv_aload_n hx hb dX10_passDays_7 rfl (lv_at hl 1 rfl) ?_
      have hPc := hP.sub (ws' := [(w0, .inr (11, [.ref v0, .ref v1, .ref v2, .ref v3, .ref v4, .long 0, .long 0, .int 0, .int th, .ref v9, .int 0, .int 0, .int (-1), .ref v13, .int 0, .int 0, .int 0, .int 0, .int 0, .int 0, .int 0, .int 0, .int 0, .int 0, .int 0, .long 0, .int 0, .ref v27, .ref v28, .ref v29, .ref v30, .ref v31, .ref v32, .ref v33, .ref v34, .ref v35, .ref v36, .ref v37, .int 0])), (v0, .inl (cA 0, 326, .inl fs))]) [0, 1] rfl
      have hDc := hD.sub (ws' := [(w0, .inr (11, [.ref v0, .ref v1, .ref v2, .ref v3, .ref v4, .long 0, .long 0, .int 0, .int th, .ref v9, .int 0, .int 0, .int (-1), .ref v13, .int 0, .int 0, .int 0, .int 0, .int 0, .int 0, .int 0, .int 0, .int 0, .int 0, .int 0, .long 0, .int 0, .ref v27, .ref v28, .ref v29, .ref v30, .ref v31, .ref v32, .ref v33, .ref v34, .ref v35, .ref v36, .ref v37, .int 0])), (v0, .inl (cA 0, 326, .inl fs))]) [0, 1] (by decide) rfl
      have hFc := va_free (wc := [(w0, .inr (11, [.ref v0, .ref v1, .ref v2, .ref v3, .ref v4, .long 0, .long 0, .int 0, .int th, .ref v9, .int 0, .int 0, .int (-1), .ref v13, .int 0, .int 0, .int 0, .int 0, .int 0, .int 0, .int 0, .int 0, .int 0, .int 0, .int 0, .long 0, .int 0, .ref v27, .ref v28, .ref v29, .ref v30, .ref v31, .ref v32, .ref v33, .ref v34, .ref v35, .ref v36, .ref v37, .int 0])), (v0, .inl (cA 0, 326, .inl fs))]) hD hS hA [0, 1] rfl
      refine va_callv (va_runV (As := []) (rest := []) ⟨hx, hb, hml, hown, hts⟩ (c_m_passDay l D cA sa w0 v0 v1 v2 v3 v4 v9 v13 v27 v28 v29 v30 v31 v32 v33 v34 v35 v36 v37 th fs H.size hz) (cwV 0 hts gX10_passDays_X10_passDay rfl rfl rfl (by decide +kernel) ⟨(Nat.le_of_ble_eq_true rfl), (Nat.le_of_ble_eq_true rfl)⟩) ⟨Wd.blind, va_recv hK hPc (ci := 11) (q0 := 0) rfl rfl, fun U hU hW => ⟨rfl, Wd.call hPc hDc hK hC hZ hS hFc U hU hW⟩⟩ rfl rfl hl.1 rfl (lv_room (Nat.le_of_ble_eq_true rfl)) dX10_passDays_8 ⟨(Nat.le_of_ble_eq_true rfl), (Nat.le_of_ble_eq_true rfl)⟩) hS (fun q _ h => hFc q h) hFc (fun u t H1 locs ht hvm hw hB hz1 hk1 hS => ?_)
      obtain ⟨fn3, hn4, hP1, hD1⟩ := hB
      rw [ht] at hP1
      obtain ⟨hP, hD⟩ := va_join (wr := []) (w1 := [(w0, .inr (11, [.ref v0, .ref v1, .ref v2, .ref v3, .ref v4, .long 0, .long 0, .int 0, .int th, .ref v9, .int 0, .int 0, .int (-1), .ref v13, .int 0, .int 0, .int 0, .int 0, .int 0, .int 0, .int 0, .int 0, .int 0, .int 0, .int 0, .long 0, .int 0, .ref v27, .ref v28, .ref v29, .ref v30, .ref v31, .ref v32, .ref v33, .ref v34, .ref v35, .ref v36, .ref v37, .int 0])), (v0, .inl (cA 0, 326, .inl fn3))]) hP hD [0, 1] [] rfl rfl (by decide) (by decide) hk1 hFc hP1 hD1
      generalize H1 = H at hP hS ⊢
      have hP : va_P D vwCl [(w0, .inr (11, [.ref v0, .ref v1, .ref v2, .ref v3, .ref v4, .long 0, .long 0, .int 0, .int th, .ref v9, .int 0, .int 0, .int (-1), .ref v13, .int 0, .int 0, .int 0, .int 0, .int 0, .int 0, .int 0, .int 0, .int 0, .int 0, .int 0, .long 0, .int 0, .ref v27, .ref v28, .ref v29, .ref v30, .ref v31, .ref v32, .ref v33, .ref v34, .ref v35, .ref v36, .ref v37, .int 0])), (v0, .inl (cA 0, 326, .inl fn3))] H := hP
      have hD : va_D A [(w0, .inr (11, [.ref v0, .ref v1, .ref v2, .ref v3, .ref v4, .long 0, .long 0, .int 0, .int th, .ref v9, .int 0, .int 0, .int (-1), .ref v13, .int 0, .int 0, .int 0, .int 0, .int 0, .int 0, .int 0, .int 0, .int 0, .int 0, .int 0, .long 0, .int 0, .ref v27, .ref v28, .ref v29, .ref v30, .ref v31, .ref v32, .ref v33, .ref v34, .ref v35, .ref v36, .ref v37, .int 0])), (v0, .inl (cA 0, 326, .inl fn3))] := hD
      refine lv_iinc (v := (nI (i + 1))) (lv' := [(2, .int (nI (i + 1))), (0, .ref w0), (1, .int (nI N))]) hx hb dX10_passDays_11 hl (k := 0) rfl (nI_1 _) (by decide) rfl (fun ls hl => ?_)
      refine lv_goto (tgt := 2) hx hb dX10_passDays_14 (by decide) ?_
      exact ih (i + 1) fn3 H _ ls (by omega) hn4 (hP.sub [0, 1] rfl) (hD.sub [0, 1] (by decide) rfl) hS (lv_sub hl [0, 1, 2] rfl)
  exact loop N 0 fs0 _ _ ls (by omega) hz0 (hP.sub [0, 1] rfl) (hD.sub [0, 1] (by decide) rfl) hS (lv_sub hl [0, 1, 2] rfl)

set_option maxHeartbeats 4000000 in
set_option maxRecDepth 100000 in
/-- beginTrial -/
theorem c_m_beginTrial (l : Launch) (D : va_G) (cA : Nat → ClassId) (sa : Nat → Nat) (w0 v0 v1 v2 v3 v4 v9 v13 v27 v28 v29 v30 v31 v32 v33 v34 v35 v36 v37 : Nat) (th : Int32) (fs fa : Nat → Int32) (sz : Nat) : Met l yX10_beginTrial wsX10_beginTrial ({ frames := 1, cells := 0, slots := 0, locals := 22 }) (va_Pc [.ref w0] (Wd D cA sa [(w0, .inr (11, [.ref v0, .ref v1, .ref v2, .ref v3, .ref v4, .long 0, .long 0, .int 0, .int th, .ref v9, .int 0, .int 0, .int (-1), .ref v13, .int 0, .int 0, .int 0, .int 0, .int 0, .int 0, .int 0, .int 0, .int 0, .int 0, .int 0, .long 0, .int 0, .ref v27, .ref v28, .ref v29, .ref v30, .ref v31, .ref v32, .ref v33, .ref v34, .ref v35, .ref v36, .ref v37, .int 0])), (v0, .inl (cA 0, 326, .inl fs)), (v2, .inl (cA 0, 326, .inl fa))] sz)) (va_Qv (fun _ : Unit => True) (fun (_ : Unit) t => ∃ fn1 : Nat → Int32, Wq D (va_A [(w0, .inr (11, [.ref v0, .ref v1, .ref v2, .ref v3, .ref v4, .long 0, .long 0, .int 0, .int th, .ref v9, .int 0, .int 0, .int (-1), .ref v13, .int 0, .int 0, .int 0, .int 0, .int 0, .int 0, .int 0, .int 0, .int 0, .int 0, .int 0, .long 0, .int 0, .ref v27, .ref v28, .ref v29, .ref v30, .ref v31, .ref v32, .ref v33, .ref v34, .ref v35, .ref v36, .ref v37, .int 0])), (v0, .inl (cA 0, 326, .inl fs)), (v2, .inl (cA 0, 326, .inl fa))] sz) [(w0, .inr (11, [.ref v0, .ref v1, .ref v2, .ref v3, .ref v4, .long 0, .long 0, .int 0, .int th, .ref v9, .int 0, .int 0, .int (-1), .ref v13, .int 0, .int 0, .int 0, .int 0, .int 0, .int 0, .int 0, .int 0, .int 0, .int 0, .int 0, .long 0, .int 0, .ref v27, .ref v28, .ref v29, .ref v30, .ref v31, .ref v32, .ref v33, .ref v34, .ref v35, .ref v36, .ref v37, .int 0])), (v0, .inl (cA 0, 326, .inl fs)), (v2, .inl (cA 0, 326, .inl fn1))] t) (va_A [(w0, .inr (11, [.ref v0, .ref v1, .ref v2, .ref v3, .ref v4, .long 0, .long 0, .int 0, .int th, .ref v9, .int 0, .int 0, .int (-1), .ref v13, .int 0, .int 0, .int 0, .int 0, .int 0, .int 0, .int 0, .int 0, .int 0, .int 0, .int 0, .long 0, .int 0, .ref v27, .ref v28, .ref v29, .ref v30, .ref v31, .ref v32, .ref v33, .ref v34, .ref v35, .ref v36, .ref v37, .int 0])), (v0, .inl (cA 0, 326, .inl fs)), (v2, .inl (cA 0, 326, .inl fa))] sz)) 0 0 (va_A [(w0, .inr (11, [.ref v0, .ref v1, .ref v2, .ref v3, .ref v4, .long 0, .long 0, .int 0, .int th, .ref v9, .int 0, .int 0, .int (-1), .ref v13, .int 0, .int 0, .int 0, .int 0, .int 0, .int 0, .int 0, .int 0, .int 0, .int 0, .int 0, .long 0, .int 0, .ref v27, .ref v28, .ref v29, .ref v30, .ref v31, .ref v32, .ref v33, .ref v34, .ref v35, .ref v36, .ref v37, .int 0])), (v0, .inl (cA 0, 326, .inl fs)), (v2, .inl (cA 0, 326, .inl fa))] sz) := by
  refine Met.ofW (cc := cX10_beginTrial) (maxL := 1) (ret := none) (by decide) rfl ?_
  intro p e s m args below meth c s₁ B hml hv
  obtain ⟨rfl, hsz, hP, hK, hD0, hC, hZ⟩ := hv
  have hx := B.exec
  have hb := B.bytes
  have hr := B.returns
  have hts := atoms_spec (ws := wsX10_beginTrial) B.pre
  have hown : s.vm.findClass RX10 = some m.cls := findClass_of_methodNamed B.named
  have hlocks := B.notSynchronized
  subst hsz
  have hD := hD0.self (sz := s.heap.size)
  generalize hAe : va_A [(w0, .inr (11, [.ref v0, .ref v1, .ref v2, .ref v3, .ref v4, .long 0, .long 0, .int 0, .int th, .ref v9, .int 0, .int 0, .int (-1), .ref v13, .int 0, .int 0, .int 0, .int 0, .int 0, .int 0, .int 0, .int 0, .int 0, .int 0, .int 0, .long 0, .int 0, .ref v27, .ref v28, .ref v29, .ref v30, .ref v31, .ref v32, .ref v33, .ref v34, .ref v35, .ref v36, .ref v37, .int 0])), (v0, .inl (cA 0, 326, .inl fs)), (v2, .inl (cA 0, 326, .inl fa))] s.heap.size = A at hD hZ ⊢
  have hA : ∀ q : Nat, s.heap.size ≤ q → A q := fun q h => by rw [← hAe]; exact Or.inr h
  have hS : va_S A s.heap s.heap [] := va_S.rf
  have hP : va_P D vwCl [(w0, .inr (11, [.ref v0, .ref v1, .ref v2, .ref v3, .ref v4, .long 0, .long 0, .int 0, .int th, .ref v9, .int 0, .int 0, .int (-1), .ref v13, .int 0, .int 0, .int 0, .int 0, .int 0, .int 0, .int 0, .int 0, .int 0, .int 0, .int 0, .long 0, .int 0, .ref v27, .ref v28, .ref v29, .ref v30, .ref v31, .ref v32, .ref v33, .ref v34, .ref v35, .ref v36, .ref v37, .int 0])), (v0, .inl (cA 0, 326, .inl fs)), (v2, .inl (cA 0, 326, .inl fa))] s.heap := hP
  have hl := lv_entry ([.ref w0]) (n := 1) (Nat.le_of_ble_eq_true rfl)
  rw [lg_entry_eq]
  generalize (lg_sl ([.ref w0]) ++ List.replicate (1 - (lg_sl ([.ref w0])).length) Slot.unset).toArray = ls at hl ⊢
  have hl : lv_has ls 1 [(0, .ref w0)] := hl
  have inX10 : ∀ w ∈ u_ws RX10 TX10 39, w ∈ wsX10_beginTrial := by decide +kernel
  refine lv_aload_n hx hb dX10_beginTrial_0 rfl (lv_at hl 0 rfl) ?_
  refine va_get (D := D) (ci := 11) (v := .ref v0) (C := RX10) (T := TX10) (N := 39) hx hb hts inX10 hown hK hP 0 rfl rfl 0 (by decide) (hts (.fieldLink RX10 7 "EscrowDeskModel" "s" "[I") (by decide +kernel)) (fun _ h9 => h9) rfl dX10_beginTrial_1 ?_
  refine lv_aload_n hx hb dX10_beginTrial_4 rfl (lv_at hl 0 rfl) ?_
  refine va_get (D := D) (ci := 11) (v := .ref v2) (C := RX10) (T := TX10) (N := 39) hx hb hts inX10 hown hK hP 0 rfl rfl 2 (by decide) (hts (.fieldLink RX10 16 "EscrowDeskModel" "aside" "[I") (by decide +kernel)) (fun _ h9 => h9) rfl dX10_beginTrial_5 ?_
  have hPc := hP.sub (ws' := [(v0, .inl (cA 0, 326, .inl fs)), (v2, .inl (cA 0, 326, .inl fa))]) [1, 2] rfl
  have hDc := hD.sub (ws' := [(v0, .inl (cA 0, 326, .inl fs)), (v2, .inl (cA 0, 326, .inl fa))]) [1, 2] (by decide) rfl
  have hFc := va_free (wc := [(v0, .inl (cA 0, 326, .inl fs)), (v2, .inl (cA 0, 326, .inl fa))]) hD hS hA [1, 2] rfl
  refine va_callv (va_runS (As := [.ref v0, .ref v2]) (rest := []) ⟨hx, hb, hml, hown, hts⟩ (c_m_copy l D cA sa v0 v2 fs fa s.heap.size) (va_cwS 2 hts gX10_beginTrial_X10_copy rfl rfl rfl (by decide +kernel) ⟨(Nat.le_of_ble_eq_true rfl), (Nat.le_of_ble_eq_true rfl)⟩) ⟨Wd.blind, fun U hU hW => ⟨rfl, Wd.call hPc hDc hK hC hZ hS hFc U hU hW⟩⟩ rfl rfl hl.1 rfl (lv_room (Nat.le_of_ble_eq_true rfl)) dX10_beginTrial_8 ⟨(Nat.le_of_ble_eq_true rfl), (Nat.le_of_ble_eq_true rfl)⟩) hS (fun q _ h => hFc q h) hFc (fun u t H1 locs ht hvm hw hB hz1 hk1 hS => ?_)
  obtain ⟨fn1, hP1, hD1⟩ := hB
  rw [ht] at hP1
  obtain ⟨hP, hD⟩ := va_join (wr := [(w0, .inr (11, [.ref v0, .ref v1, .ref v2, .ref v3, .ref v4, .long 0, .long 0, .int 0, .int th, .ref v9, .int 0, .int 0, .int (-1), .ref v13, .int 0, .int 0, .int 0, .int 0, .int 0, .int 0, .int 0, .int 0, .int 0, .int 0, .int 0, .long 0, .int 0, .ref v27, .ref v28, .ref v29, .ref v30, .ref v31, .ref v32, .ref v33, .ref v34, .ref v35, .ref v36, .ref v37, .int 0]))]) (w1 := [(v0, .inl (cA 0, 326, .inl fs)), (v2, .inl (cA 0, 326, .inl fn1))]) hP hD [1, 2] [0] rfl rfl (by decide) (by decide) hk1 hFc hP1 hD1
  generalize H1 = H at hP hS ⊢
  have hP : va_P D vwCl [(w0, .inr (11, [.ref v0, .ref v1, .ref v2, .ref v3, .ref v4, .long 0, .long 0, .int 0, .int th, .ref v9, .int 0, .int 0, .int (-1), .ref v13, .int 0, .int 0, .int 0, .int 0, .int 0, .int 0, .int 0, .int 0, .int 0, .int 0, .int 0, .long 0, .int 0, .ref v27, .ref v28, .ref v29, .ref v30, .ref v31, .ref v32, .ref v33, .ref v34, .ref v35, .ref v36, .ref v37, .int 0])), (v0, .inl (cA 0, 326, .inl fs)), (v2, .inl (cA 0, 326, .inl fn1))] H := hP
  have hD : va_D A [(w0, .inr (11, [.ref v0, .ref v1, .ref v2, .ref v3, .ref v4, .long 0, .long 0, .int 0, .int th, .ref v9, .int 0, .int 0, .int (-1), .ref v13, .int 0, .int 0, .int 0, .int 0, .int 0, .int 0, .int 0, .int 0, .int 0, .int 0, .int 0, .long 0, .int 0, .ref v27, .ref v28, .ref v29, .ref v30, .ref v31, .ref v32, .ref v33, .ref v34, .ref v35, .ref v36, .ref v37, .int 0])), (v0, .inl (cA 0, 326, .inl fs)), (v2, .inl (cA 0, 326, .inl fn1))] := hD
  refine lv_aload_n hx hb dX10_beginTrial_11 rfl (lv_at hl 0 rfl) ?_
  refine lv_aload_n hx hb dX10_beginTrial_12 rfl (lv_at hl 0 rfl) ?_
  refine va_get (D := D) (ci := 11) (v := .long 0) (C := RX10) (T := TX10) (N := 39) hx hb hts inX10 hown hK hP 0 rfl rfl 5 (by decide) (hts (.fieldLink RX10 86 "EscrowDeskModel" "parts" "J") (by decide +kernel)) (fun _ h9 => h9) rfl dX10_beginTrial_13 ?_
  refine va_put (D := D) (ci := 11) (v := .long 0) (ty := .long) (C := RX10) (T := TX10) (N := 39) hx hb hts inX10 tyX10 tyX10_ok nmX10 hown hK hP hD hS 0 rfl rfl 6 (by decide) (hts (.fieldLink RX10 327 "EscrowDeskModel" "asideParts" "J") (by decide +kernel)) (fun _ h9 => h9) rfl (by decide +kernel) rfl rfl (Nat.le_of_ble_eq_true rfl) dX10_beginTrial_16 (fun H locs hP hD hS => ?_)
  have hP : va_P D vwCl [(w0, .inr (11, [.ref v0, .ref v1, .ref v2, .ref v3, .ref v4, .long 0, .long 0, .int 0, .int th, .ref v9, .int 0, .int 0, .int (-1), .ref v13, .int 0, .int 0, .int 0, .int 0, .int 0, .int 0, .int 0, .int 0, .int 0, .int 0, .int 0, .long 0, .int 0, .ref v27, .ref v28, .ref v29, .ref v30, .ref v31, .ref v32, .ref v33, .ref v34, .ref v35, .ref v36, .ref v37, .int 0])), (v0, .inl (cA 0, 326, .inl fs)), (v2, .inl (cA 0, 326, .inl fn1))] H := hP
  have hD : va_D A [(w0, .inr (11, [.ref v0, .ref v1, .ref v2, .ref v3, .ref v4, .long 0, .long 0, .int 0, .int th, .ref v9, .int 0, .int 0, .int (-1), .ref v13, .int 0, .int 0, .int 0, .int 0, .int 0, .int 0, .int 0, .int 0, .int 0, .int 0, .int 0, .long 0, .int 0, .ref v27, .ref v28, .ref v29, .ref v30, .ref v31, .ref v32, .ref v33, .ref v34, .ref v35, .ref v36, .ref v37, .int 0])), (v0, .inl (cA 0, 326, .inl fs)), (v2, .inl (cA 0, 326, .inl fn1))] := hD
  have hP9 := hP.sub (ws' := [(w0, .inr (11, [.ref v0, .ref v1, .ref v2, .ref v3, .ref v4, .long 0, .long 0, .int 0, .int th, .ref v9, .int 0, .int 0, .int (-1), .ref v13, .int 0, .int 0, .int 0, .int 0, .int 0, .int 0, .int 0, .int 0, .int 0, .int 0, .int 0, .long 0, .int 0, .ref v27, .ref v28, .ref v29, .ref v30, .ref v31, .ref v32, .ref v33, .ref v34, .ref v35, .ref v36, .ref v37, .int 0])), (v0, .inl (cA 0, 326, .inl fs)), (v2, .inl (cA 0, 326, .inl fn1))]) [0, 1, 2] rfl
  have hD9 := hD.sub (ws' := [(w0, .inr (11, [.ref v0, .ref v1, .ref v2, .ref v3, .ref v4, .long 0, .long 0, .int 0, .int th, .ref v9, .int 0, .int 0, .int (-1), .ref v13, .int 0, .int 0, .int 0, .int 0, .int 0, .int 0, .int 0, .int 0, .int 0, .int 0, .int 0, .long 0, .int 0, .ref v27, .ref v28, .ref v29, .ref v30, .ref v31, .ref v32, .ref v33, .ref v34, .ref v35, .ref v36, .ref v37, .int 0])), (v0, .inl (cA 0, 326, .inl fs)), (v2, .inl (cA 0, 326, .inl fn1))]) [0, 1, 2] (by decide) rfl
  refine W.widen (k := 0) (n := 0) (Nat.le_of_ble_eq_true rfl) (Nat.le_of_ble_eq_true rfl) ?_
  exact W.vret hx hb hr (fun t ht hW => ⟨⟨(), rfl, trivial, fn1, by rw [ht]; exact hP9, hD9⟩, hS.F ht⟩) hS.2.2 dX10_beginTrial_19

set_option maxHeartbeats 4000000 in
set_option maxRecDepth 100000 in
/-- endTrial -/
theorem c_m_endTrial (l : Launch) (D : va_G) (cA : Nat → ClassId) (sa : Nat → Nat) (w0 v0 v1 v2 v3 v4 v9 v13 v27 v28 v29 v30 v31 v32 v33 v34 v35 v36 v37 : Nat) (th : Int32) (fs fa : Nat → Int32) (sz : Nat) : Met l yX10_endTrial wsX10_endTrial ({ frames := 1, cells := 0, slots := 0, locals := 22 }) (va_Pc [.ref w0] (Wd D cA sa [(w0, .inr (11, [.ref v0, .ref v1, .ref v2, .ref v3, .ref v4, .long 0, .long 0, .int 0, .int th, .ref v9, .int 0, .int 0, .int (-1), .ref v13, .int 0, .int 0, .int 0, .int 0, .int 0, .int 0, .int 0, .int 0, .int 0, .int 0, .int 0, .long 0, .int 0, .ref v27, .ref v28, .ref v29, .ref v30, .ref v31, .ref v32, .ref v33, .ref v34, .ref v35, .ref v36, .ref v37, .int 0])), (v0, .inl (cA 0, 326, .inl fs)), (v2, .inl (cA 0, 326, .inl fa))] sz)) (va_Qv (fun _ : Unit => True) (fun (_ : Unit) t => ∃ fn1 : Nat → Int32, Wq D (va_A [(w0, .inr (11, [.ref v0, .ref v1, .ref v2, .ref v3, .ref v4, .long 0, .long 0, .int 0, .int th, .ref v9, .int 0, .int 0, .int (-1), .ref v13, .int 0, .int 0, .int 0, .int 0, .int 0, .int 0, .int 0, .int 0, .int 0, .int 0, .int 0, .long 0, .int 0, .ref v27, .ref v28, .ref v29, .ref v30, .ref v31, .ref v32, .ref v33, .ref v34, .ref v35, .ref v36, .ref v37, .int 0])), (v0, .inl (cA 0, 326, .inl fs)), (v2, .inl (cA 0, 326, .inl fa))] sz) [(w0, .inr (11, [.ref v0, .ref v1, .ref v2, .ref v3, .ref v4, .long 0, .long 0, .int 0, .int th, .ref v9, .int 0, .int 0, .int (-1), .ref v13, .int 0, .int 0, .int 0, .int 0, .int 0, .int 0, .int 0, .int 0, .int 0, .int 0, .int 0, .long 0, .int 0, .ref v27, .ref v28, .ref v29, .ref v30, .ref v31, .ref v32, .ref v33, .ref v34, .ref v35, .ref v36, .ref v37, .int 0])), (v0, .inl (cA 0, 326, .inl fn1)), (v2, .inl (cA 0, 326, .inl fa))] t) (va_A [(w0, .inr (11, [.ref v0, .ref v1, .ref v2, .ref v3, .ref v4, .long 0, .long 0, .int 0, .int th, .ref v9, .int 0, .int 0, .int (-1), .ref v13, .int 0, .int 0, .int 0, .int 0, .int 0, .int 0, .int 0, .int 0, .int 0, .int 0, .int 0, .long 0, .int 0, .ref v27, .ref v28, .ref v29, .ref v30, .ref v31, .ref v32, .ref v33, .ref v34, .ref v35, .ref v36, .ref v37, .int 0])), (v0, .inl (cA 0, 326, .inl fs)), (v2, .inl (cA 0, 326, .inl fa))] sz)) 0 0 (va_A [(w0, .inr (11, [.ref v0, .ref v1, .ref v2, .ref v3, .ref v4, .long 0, .long 0, .int 0, .int th, .ref v9, .int 0, .int 0, .int (-1), .ref v13, .int 0, .int 0, .int 0, .int 0, .int 0, .int 0, .int 0, .int 0, .int 0, .int 0, .int 0, .long 0, .int 0, .ref v27, .ref v28, .ref v29, .ref v30, .ref v31, .ref v32, .ref v33, .ref v34, .ref v35, .ref v36, .ref v37, .int 0])), (v0, .inl (cA 0, 326, .inl fs)), (v2, .inl (cA 0, 326, .inl fa))] sz) := by
  refine Met.ofW (cc := cX10_endTrial) (maxL := 1) (ret := none) (by decide) rfl ?_
  intro p e s m args below meth c s₁ B hml hv
  obtain ⟨rfl, hsz, hP, hK, hD0, hC, hZ⟩ := hv
  have hx := B.exec
  have hb := B.bytes
  have hr := B.returns
  have hts := atoms_spec (ws := wsX10_endTrial) B.pre
  have hown : s.vm.findClass RX10 = some m.cls := findClass_of_methodNamed B.named
  have hlocks := B.notSynchronized
  subst hsz
  have hD := hD0.self (sz := s.heap.size)
  generalize hAe : va_A [(w0, .inr (11, [.ref v0, .ref v1, .ref v2, .ref v3, .ref v4, .long 0, .long 0, .int 0, .int th, .ref v9, .int 0, .int 0, .int (-1), .ref v13, .int 0, .int 0, .int 0, .int 0, .int 0, .int 0, .int 0, .int 0, .int 0, .int 0, .int 0, .long 0, .int 0, .ref v27, .ref v28, .ref v29, .ref v30, .ref v31, .ref v32, .ref v33, .ref v34, .ref v35, .ref v36, .ref v37, .int 0])), (v0, .inl (cA 0, 326, .inl fs)), (v2, .inl (cA 0, 326, .inl fa))] s.heap.size = A at hD hZ ⊢
  have hA : ∀ q : Nat, s.heap.size ≤ q → A q := fun q h => by rw [← hAe]; exact Or.inr h
  have hS : va_S A s.heap s.heap [] := va_S.rf
  have hP : va_P D vwCl [(w0, .inr (11, [.ref v0, .ref v1, .ref v2, .ref v3, .ref v4, .long 0, .long 0, .int 0, .int th, .ref v9, .int 0, .int 0, .int (-1), .ref v13, .int 0, .int 0, .int 0, .int 0, .int 0, .int 0, .int 0, .int 0, .int 0, .int 0, .int 0, .long 0, .int 0, .ref v27, .ref v28, .ref v29, .ref v30, .ref v31, .ref v32, .ref v33, .ref v34, .ref v35, .ref v36, .ref v37, .int 0])), (v0, .inl (cA 0, 326, .inl fs)), (v2, .inl (cA 0, 326, .inl fa))] s.heap := hP
  have hl := lv_entry ([.ref w0]) (n := 1) (Nat.le_of_ble_eq_true rfl)
  rw [lg_entry_eq]
  generalize (lg_sl ([.ref w0]) ++ List.replicate (1 - (lg_sl ([.ref w0])).length) Slot.unset).toArray = ls at hl ⊢
  have hl : lv_has ls 1 [(0, .ref w0)] := hl
  have inX10 : ∀ w ∈ u_ws RX10 TX10 39, w ∈ wsX10_endTrial := by decide +kernel
  refine lv_aload_n hx hb dX10_endTrial_0 rfl (lv_at hl 0 rfl) ?_
  refine va_get (D := D) (ci := 11) (v := .ref v2) (C := RX10) (T := TX10) (N := 39) hx hb hts inX10 hown hK hP 0 rfl rfl 2 (by decide) (hts (.fieldLink RX10 16 "EscrowDeskModel" "aside" "[I") (by decide +kernel)) (fun _ h9 => h9) rfl dX10_endTrial_1 ?_
  refine lv_aload_n hx hb dX10_endTrial_4 rfl (lv_at hl 0 rfl) ?_
  refine va_get (D := D) (ci := 11) (v := .ref v0) (C := RX10) (T := TX10) (N := 39) hx hb hts inX10 hown hK hP 0 rfl rfl 0 (by decide) (hts (.fieldLink RX10 7 "EscrowDeskModel" "s" "[I") (by decide +kernel)) (fun _ h9 => h9) rfl dX10_endTrial_5 ?_
  have hPc := hP.sub (ws' := [(v2, .inl (cA 0, 326, .inl fa)), (v0, .inl (cA 0, 326, .inl fs))]) [2, 1] rfl
  have hDc := hD.sub (ws' := [(v2, .inl (cA 0, 326, .inl fa)), (v0, .inl (cA 0, 326, .inl fs))]) [2, 1] (by decide) rfl
  have hFc := va_free (wc := [(v2, .inl (cA 0, 326, .inl fa)), (v0, .inl (cA 0, 326, .inl fs))]) hD hS hA [2, 1] rfl
  refine va_callv (va_runS (As := [.ref v2, .ref v0]) (rest := []) ⟨hx, hb, hml, hown, hts⟩ (c_m_copy l D cA sa v2 v0 fa fs s.heap.size) (va_cwS 2 hts gX10_endTrial_X10_copy rfl rfl rfl (by decide +kernel) ⟨(Nat.le_of_ble_eq_true rfl), (Nat.le_of_ble_eq_true rfl)⟩) ⟨Wd.blind, fun U hU hW => ⟨rfl, Wd.call hPc hDc hK hC hZ hS hFc U hU hW⟩⟩ rfl rfl hl.1 rfl (lv_room (Nat.le_of_ble_eq_true rfl)) dX10_endTrial_8 ⟨(Nat.le_of_ble_eq_true rfl), (Nat.le_of_ble_eq_true rfl)⟩) hS (fun q _ h => hFc q h) hFc (fun u t H1 locs ht hvm hw hB hz1 hk1 hS => ?_)
  obtain ⟨fn1, hP1, hD1⟩ := hB
  rw [ht] at hP1
  obtain ⟨hP, hD⟩ := va_join (wr := [(w0, .inr (11, [.ref v0, .ref v1, .ref v2, .ref v3, .ref v4, .long 0, .long 0, .int 0, .int th, .ref v9, .int 0, .int 0, .int (-1), .ref v13, .int 0, .int 0, .int 0, .int 0, .int 0, .int 0, .int 0, .int 0, .int 0, .int 0, .int 0, .long 0, .int 0, .ref v27, .ref v28, .ref v29, .ref v30, .ref v31, .ref v32, .ref v33, .ref v34, .ref v35, .ref v36, .ref v37, .int 0]))]) (w1 := [(v2, .inl (cA 0, 326, .inl fa)), (v0, .inl (cA 0, 326, .inl fn1))]) hP hD [2, 1] [0] rfl rfl (by decide) (by decide) hk1 hFc hP1 hD1
  generalize H1 = H at hP hS ⊢
  have hP : va_P D vwCl [(w0, .inr (11, [.ref v0, .ref v1, .ref v2, .ref v3, .ref v4, .long 0, .long 0, .int 0, .int th, .ref v9, .int 0, .int 0, .int (-1), .ref v13, .int 0, .int 0, .int 0, .int 0, .int 0, .int 0, .int 0, .int 0, .int 0, .int 0, .int 0, .long 0, .int 0, .ref v27, .ref v28, .ref v29, .ref v30, .ref v31, .ref v32, .ref v33, .ref v34, .ref v35, .ref v36, .ref v37, .int 0])), (v2, .inl (cA 0, 326, .inl fa)), (v0, .inl (cA 0, 326, .inl fn1))] H := hP
  have hD : va_D A [(w0, .inr (11, [.ref v0, .ref v1, .ref v2, .ref v3, .ref v4, .long 0, .long 0, .int 0, .int th, .ref v9, .int 0, .int 0, .int (-1), .ref v13, .int 0, .int 0, .int 0, .int 0, .int 0, .int 0, .int 0, .int 0, .int 0, .int 0, .int 0, .long 0, .int 0, .ref v27, .ref v28, .ref v29, .ref v30, .ref v31, .ref v32, .ref v33, .ref v34, .ref v35, .ref v36, .ref v37, .int 0])), (v2, .inl (cA 0, 326, .inl fa)), (v0, .inl (cA 0, 326, .inl fn1))] := hD
  refine lv_aload_n hx hb dX10_endTrial_11 rfl (lv_at hl 0 rfl) ?_
  refine lv_aload_n hx hb dX10_endTrial_12 rfl (lv_at hl 0 rfl) ?_
  refine va_get (D := D) (ci := 11) (v := .long 0) (C := RX10) (T := TX10) (N := 39) hx hb hts inX10 hown hK hP 0 rfl rfl 6 (by decide) (hts (.fieldLink RX10 327 "EscrowDeskModel" "asideParts" "J") (by decide +kernel)) (fun _ h9 => h9) rfl dX10_endTrial_13 ?_
  refine va_put (D := D) (ci := 11) (v := .long 0) (ty := .long) (C := RX10) (T := TX10) (N := 39) hx hb hts inX10 tyX10 tyX10_ok nmX10 hown hK hP hD hS 0 rfl rfl 5 (by decide) (hts (.fieldLink RX10 86 "EscrowDeskModel" "parts" "J") (by decide +kernel)) (fun _ h9 => h9) rfl (by decide +kernel) rfl rfl (Nat.le_of_ble_eq_true rfl) dX10_endTrial_16 (fun H locs hP hD hS => ?_)
  have hP : va_P D vwCl [(w0, .inr (11, [.ref v0, .ref v1, .ref v2, .ref v3, .ref v4, .long 0, .long 0, .int 0, .int th, .ref v9, .int 0, .int 0, .int (-1), .ref v13, .int 0, .int 0, .int 0, .int 0, .int 0, .int 0, .int 0, .int 0, .int 0, .int 0, .int 0, .long 0, .int 0, .ref v27, .ref v28, .ref v29, .ref v30, .ref v31, .ref v32, .ref v33, .ref v34, .ref v35, .ref v36, .ref v37, .int 0])), (v2, .inl (cA 0, 326, .inl fa)), (v0, .inl (cA 0, 326, .inl fn1))] H := hP
  have hD : va_D A [(w0, .inr (11, [.ref v0, .ref v1, .ref v2, .ref v3, .ref v4, .long 0, .long 0, .int 0, .int th, .ref v9, .int 0, .int 0, .int (-1), .ref v13, .int 0, .int 0, .int 0, .int 0, .int 0, .int 0, .int 0, .int 0, .int 0, .int 0, .int 0, .long 0, .int 0, .ref v27, .ref v28, .ref v29, .ref v30, .ref v31, .ref v32, .ref v33, .ref v34, .ref v35, .ref v36, .ref v37, .int 0])), (v2, .inl (cA 0, 326, .inl fa)), (v0, .inl (cA 0, 326, .inl fn1))] := hD
  have hP9 := hP.sub (ws' := [(w0, .inr (11, [.ref v0, .ref v1, .ref v2, .ref v3, .ref v4, .long 0, .long 0, .int 0, .int th, .ref v9, .int 0, .int 0, .int (-1), .ref v13, .int 0, .int 0, .int 0, .int 0, .int 0, .int 0, .int 0, .int 0, .int 0, .int 0, .int 0, .long 0, .int 0, .ref v27, .ref v28, .ref v29, .ref v30, .ref v31, .ref v32, .ref v33, .ref v34, .ref v35, .ref v36, .ref v37, .int 0])), (v0, .inl (cA 0, 326, .inl fn1)), (v2, .inl (cA 0, 326, .inl fa))]) [0, 2, 1] rfl
  have hD9 := hD.sub (ws' := [(w0, .inr (11, [.ref v0, .ref v1, .ref v2, .ref v3, .ref v4, .long 0, .long 0, .int 0, .int th, .ref v9, .int 0, .int 0, .int (-1), .ref v13, .int 0, .int 0, .int 0, .int 0, .int 0, .int 0, .int 0, .int 0, .int 0, .int 0, .int 0, .long 0, .int 0, .ref v27, .ref v28, .ref v29, .ref v30, .ref v31, .ref v32, .ref v33, .ref v34, .ref v35, .ref v36, .ref v37, .int 0])), (v0, .inl (cA 0, 326, .inl fn1)), (v2, .inl (cA 0, 326, .inl fa))]) [0, 2, 1] (by decide) rfl
  refine W.widen (k := 0) (n := 0) (Nat.le_of_ble_eq_true rfl) (Nat.le_of_ble_eq_true rfl) ?_
  exact W.vret hx hb hr (fun t ht hW => ⟨⟨(), rfl, trivial, fn1, by rw [ht]; exact hP9, hD9⟩, hS.F ht⟩) hS.2.2 dX10_endTrial_19

set_option maxHeartbeats 4000000 in
set_option maxRecDepth 100000 in
/-- paymentsAfter within -/
theorem c_m_paymentsAfter_ret (l : Launch) (D : va_G) (cA : Nat → ClassId) (sa : Nat → Nat) (w0 v0 v1 v2 v3 v4 v9 v13 v27 v28 v29 v30 v31 v32 v33 v34 v35 v36 v37 : Nat) (th : Int32) (fs fa : Nat → Int32) (N : Nat) (sz : Nat) (hz : Zs fs) (hN1 : 1 ≤ N) (hN : N ≤ 120) : Met l yX10_paymentsAfter wsX10_paymentsAfter ({ frames := 4, cells := 0, slots := 0, locals := 89 }) (va_Pc [.ref w0, .int (nI N)] (Wd D cA sa [(w0, .inr (11, [.ref v0, .ref v1, .ref v2, .ref v3, .ref v4, .long 0, .long 0, .int 0, .int th, .ref v9, .int 0, .int 0, .int (-1), .ref v13, .int 0, .int 0, .int 0, .int 0, .int 0, .int 0, .int 0, .int 0, .int 0, .int 0, .int 0, .long 0, .int 0, .ref v27, .ref v28, .ref v29, .ref v30, .ref v31, .ref v32, .ref v33, .ref v34, .ref v35, .ref v36, .ref v37, .int 0])), (v0, .inl (cA 0, 326, .inl fs)), (v2, .inl (cA 0, 326, .inl fa))] sz)) (va_Qi (fun (r : Int32) (_ : Unit) => r = 0) (fun (_ : Unit) t => Wq D (va_A [(w0, .inr (11, [.ref v0, .ref v1, .ref v2, .ref v3, .ref v4, .long 0, .long 0, .int 0, .int th, .ref v9, .int 0, .int 0, .int (-1), .ref v13, .int 0, .int 0, .int 0, .int 0, .int 0, .int 0, .int 0, .int 0, .int 0, .int 0, .int 0, .long 0, .int 0, .ref v27, .ref v28, .ref v29, .ref v30, .ref v31, .ref v32, .ref v33, .ref v34, .ref v35, .ref v36, .ref v37, .int 0])), (v0, .inl (cA 0, 326, .inl fs)), (v2, .inl (cA 0, 326, .inl fa))] sz) [(w0, .inr (11, [.ref v0, .ref v1, .ref v2, .ref v3, .ref v4, .long 0, .long 0, .int 0, .int 0, .ref v9, .int 0, .int 0, .int (-1), .ref v13, .int 0, .int 0, .int 0, .int 0, .int 0, .int 0, .int 0, .int 0, .int 0, .int 0, .int 0, .long 0, .int 0, .ref v27, .ref v28, .ref v29, .ref v30, .ref v31, .ref v32, .ref v33, .ref v34, .ref v35, .ref v36, .ref v37, .int 0]))] t) (va_A [(w0, .inr (11, [.ref v0, .ref v1, .ref v2, .ref v3, .ref v4, .long 0, .long 0, .int 0, .int th, .ref v9, .int 0, .int 0, .int (-1), .ref v13, .int 0, .int 0, .int 0, .int 0, .int 0, .int 0, .int 0, .int 0, .int 0, .int 0, .int 0, .long 0, .int 0, .ref v27, .ref v28, .ref v29, .ref v30, .ref v31, .ref v32, .ref v33, .ref v34, .ref v35, .ref v36, .ref v37, .int 0])), (v0, .inl (cA 0, 326, .inl fs)), (v2, .inl (cA 0, 326, .inl fa))] sz)) 0 0 (va_A [(w0, .inr (11, [.ref v0, .ref v1, .ref v2, .ref v3, .ref v4, .long 0, .long 0, .int 0, .int th, .ref v9, .int 0, .int 0, .int (-1), .ref v13, .int 0, .int 0, .int 0, .int 0, .int 0, .int 0, .int 0, .int 0, .int 0, .int 0, .int 0, .long 0, .int 0, .ref v27, .ref v28, .ref v29, .ref v30, .ref v31, .ref v32, .ref v33, .ref v34, .ref v35, .ref v36, .ref v37, .int 0])), (v0, .inl (cA 0, 326, .inl fs)), (v2, .inl (cA 0, 326, .inl fa))] sz) := by
  refine Met.ofW (cc := cX10_paymentsAfter) (maxL := 3) (ret := (some .int)) (by decide) rfl ?_
  intro p e s m args below meth c s₁ B hml hv
  obtain ⟨rfl, hsz, hP, hK, hD0, hC, hZ⟩ := hv
  have hx := B.exec
  have hb := B.bytes
  have hr := B.returns
  have hts := atoms_spec (ws := wsX10_paymentsAfter) B.pre
  have hown : s.vm.findClass RX10 = some m.cls := findClass_of_methodNamed B.named
  have hlocks := B.notSynchronized
  subst hsz
  have hD := hD0.self (sz := s.heap.size)
  generalize hAe : va_A [(w0, .inr (11, [.ref v0, .ref v1, .ref v2, .ref v3, .ref v4, .long 0, .long 0, .int 0, .int th, .ref v9, .int 0, .int 0, .int (-1), .ref v13, .int 0, .int 0, .int 0, .int 0, .int 0, .int 0, .int 0, .int 0, .int 0, .int 0, .int 0, .long 0, .int 0, .ref v27, .ref v28, .ref v29, .ref v30, .ref v31, .ref v32, .ref v33, .ref v34, .ref v35, .ref v36, .ref v37, .int 0])), (v0, .inl (cA 0, 326, .inl fs)), (v2, .inl (cA 0, 326, .inl fa))] s.heap.size = A at hD hZ ⊢
  have hA : ∀ q : Nat, s.heap.size ≤ q → A q := fun q h => by rw [← hAe]; exact Or.inr h
  have hS : va_S A s.heap s.heap [] := va_S.rf
  have hP : va_P D vwCl [(w0, .inr (11, [.ref v0, .ref v1, .ref v2, .ref v3, .ref v4, .long 0, .long 0, .int 0, .int th, .ref v9, .int 0, .int 0, .int (-1), .ref v13, .int 0, .int 0, .int 0, .int 0, .int 0, .int 0, .int 0, .int 0, .int 0, .int 0, .int 0, .long 0, .int 0, .ref v27, .ref v28, .ref v29, .ref v30, .ref v31, .ref v32, .ref v33, .ref v34, .ref v35, .ref v36, .ref v37, .int 0])), (v0, .inl (cA 0, 326, .inl fs)), (v2, .inl (cA 0, 326, .inl fa))] s.heap := hP
  have hl := lv_entry ([.ref w0, .int (nI N)]) (n := 3) (Nat.le_of_ble_eq_true rfl)
  rw [lg_entry_eq]
  generalize (lg_sl ([.ref w0, .int (nI N)]) ++ List.replicate (3 - (lg_sl ([.ref w0, .int (nI N)])).length) Slot.unset).toArray = ls at hl ⊢
  have hl : lv_has ls 3 [(0, .ref w0), (1, .int (nI N))] := hl
  have inX10 : ∀ w ∈ u_ws RX10 TX10 39, w ∈ wsX10_paymentsAfter := by decide +kernel
  refine lv_aload_n hx hb dX10_paymentsAfter_0 rfl (lv_at hl 0 rfl) ?_
  refine lv_iload_n hx hb dX10_paymentsAfter_1 rfl (lv_at hl 1 rfl) ?_
  have hPc := hP.sub (ws' := []) [] rfl
  have hDc := hD.sub (ws' := []) [] (by decide) rfl
  have hFc := va_free (wc := []) hD hS hA [] rfl
  refine va_calli (va_runS (As := [.int (nI N)]) (rest := [.ref w0]) ⟨hx, hb, hml, hown, hts⟩ (c_m_isTrial_t l D cA sa (nI N) s.heap.size (nI_nlt (b := 1) hN1 (by omega)) (nI_nlt (a := 120) hN (by decide))) (va_cwS 1 hts gX10_paymentsAfter_X10_isTrial rfl rfl rfl (by decide +kernel) ⟨(Nat.le_of_ble_eq_true rfl), (Nat.le_of_ble_eq_true rfl)⟩) ⟨Wd.blind, fun U hU hW => ⟨rfl, Wd.call hPc hDc hK hC hZ hS hFc U hU hW⟩⟩ rfl rfl hl.1 rfl (lv_room (Nat.le_of_ble_eq_true rfl)) dX10_paymentsAfter_2 ⟨(Nat.le_of_ble_eq_true rfl), (Nat.le_of_ble_eq_true rfl)⟩) hS (fun q _ h => hFc q h) hFc (fun rn1 u t H1 locs ht hvm hw hB hz1 hk1 hS => ?_)
  obtain ⟨hP1, hD1⟩ := hB
  rw [ht] at hP1
  obtain ⟨hP, hD⟩ := va_join (wr := [(w0, .inr (11, [.ref v0, .ref v1, .ref v2, .ref v3, .ref v4, .long 0, .long 0, .int 0, .int th, .ref v9, .int 0, .int 0, .int (-1), .ref v13, .int 0, .int 0, .int 0, .int 0, .int 0, .int 0, .int 0, .int 0, .int 0, .int 0, .int 0, .long 0, .int 0, .ref v27, .ref v28, .ref v29, .ref v30, .ref v31, .ref v32, .ref v33, .ref v34, .ref v35, .ref v36, .ref v37, .int 0])), (v0, .inl (cA 0, 326, .inl fs)), (v2, .inl (cA 0, 326, .inl fa))]) (w1 := []) hP hD [] [0, 1, 2] rfl rfl (by decide) (by decide) hk1 hFc hP1 hD1
  generalize H1 = H at hP hS ⊢
  have hP : va_P D vwCl [(w0, .inr (11, [.ref v0, .ref v1, .ref v2, .ref v3, .ref v4, .long 0, .long 0, .int 0, .int th, .ref v9, .int 0, .int 0, .int (-1), .ref v13, .int 0, .int 0, .int 0, .int 0, .int 0, .int 0, .int 0, .int 0, .int 0, .int 0, .int 0, .long 0, .int 0, .ref v27, .ref v28, .ref v29, .ref v30, .ref v31, .ref v32, .ref v33, .ref v34, .ref v35, .ref v36, .ref v37, .int 0])), (v0, .inl (cA 0, 326, .inl fs)), (v2, .inl (cA 0, 326, .inl fa))] H := hP
  have hD : va_D A [(w0, .inr (11, [.ref v0, .ref v1, .ref v2, .ref v3, .ref v4, .long 0, .long 0, .int 0, .int th, .ref v9, .int 0, .int 0, .int (-1), .ref v13, .int 0, .int 0, .int 0, .int 0, .int 0, .int 0, .int 0, .int 0, .int 0, .int 0, .int 0, .long 0, .int 0, .ref v27, .ref v28, .ref v29, .ref v30, .ref v31, .ref v32, .ref v33, .ref v34, .ref v35, .ref v36, .ref v37, .int 0])), (v0, .inl (cA 0, 326, .inl fs)), (v2, .inl (cA 0, 326, .inl fa))] := hD
  obtain rfl : rn1 = 1 := hw
  have hPc := hP.sub (ws' := [(w0, .inr (11, [.ref v0, .ref v1, .ref v2, .ref v3, .ref v4, .long 0, .long 0, .int 0, .int th, .ref v9, .int 0, .int 0, .int (-1), .ref v13, .int 0, .int 0, .int 0, .int 0, .int 0, .int 0, .int 0, .int 0, .int 0, .int 0, .int 0, .long 0, .int 0, .ref v27, .ref v28, .ref v29, .ref v30, .ref v31, .ref v32, .ref v33, .ref v34, .ref v35, .ref v36, .ref v37, .int 0]))]) [0] rfl
  have hDc := hD.sub (ws' := [(w0, .inr (11, [.ref v0, .ref v1, .ref v2, .ref v3, .ref v4, .long 0, .long 0, .int 0, .int th, .ref v9, .int 0, .int 0, .int (-1), .ref v13, .int 0, .int 0, .int 0, .int 0, .int 0, .int 0, .int 0, .int 0, .int 0, .int 0, .int 0, .long 0, .int 0, .ref v27, .ref v28, .ref v29, .ref v30, .ref v31, .ref v32, .ref v33, .ref v34, .ref v35, .ref v36, .ref v37, .int 0]))]) [0] (by decide) rfl
  have hFc := va_free (wc := [(w0, .inr (11, [.ref v0, .ref v1, .ref v2, .ref v3, .ref v4, .long 0, .long 0, .int 0, .int th, .ref v9, .int 0, .int 0, .int (-1), .ref v13, .int 0, .int 0, .int 0, .int 0, .int 0, .int 0, .int 0, .int 0, .int 0, .int 0, .int 0, .long 0, .int 0, .ref v27, .ref v28, .ref v29, .ref v30, .ref v31, .ref v32, .ref v33, .ref v34, .ref v35, .ref v36, .ref v37, .int 0]))]) hD hS hA [0] rfl
  refine va_calli (va_runV (As := [.int 1]) (rest := []) ⟨hx, hb, hml, hown, hts⟩ (c_m_good_1 l D cA sa w0 v0 v1 v2 v3 v4 v9 v13 v27 v28 v29 v30 v31 v32 v33 v34 v35 v36 v37 th H.size) (cwV 1 hts gX10_paymentsAfter_X10_good rfl rfl rfl (by decide +kernel) ⟨(Nat.le_of_ble_eq_true rfl), (Nat.le_of_ble_eq_true rfl)⟩) ⟨Wd.blind, va_recv hK hPc (ci := 11) (q0 := 0) rfl rfl, fun U hU hW => ⟨rfl, Wd.call hPc hDc hK hC hZ hS hFc U hU hW⟩⟩ rfl rfl hl.1 rfl (lv_room (Nat.le_of_ble_eq_true rfl)) dX10_paymentsAfter_5 ⟨(Nat.le_of_ble_eq_true rfl), (Nat.le_of_ble_eq_true rfl)⟩) hS (fun q _ h => hFc q h) hFc (fun rn2 u t H1 locs ht hvm hw hB hz1 hk1 hS => ?_)
  obtain ⟨hP1, hD1⟩ := hB
  rw [ht] at hP1
  obtain ⟨hP, hD⟩ := va_join (wr := [(v0, .inl (cA 0, 326, .inl fs)), (v2, .inl (cA 0, 326, .inl fa))]) (w1 := [(w0, .inr (11, [.ref v0, .ref v1, .ref v2, .ref v3, .ref v4, .long 0, .long 0, .int 0, .int 0, .ref v9, .int 0, .int 0, .int (-1), .ref v13, .int 0, .int 0, .int 0, .int 0, .int 0, .int 0, .int 0, .int 0, .int 0, .int 0, .int 0, .long 0, .int 0, .ref v27, .ref v28, .ref v29, .ref v30, .ref v31, .ref v32, .ref v33, .ref v34, .ref v35, .ref v36, .ref v37, .int 0]))]) hP hD [0] [1, 2] rfl rfl (by decide) (by decide) hk1 hFc hP1 hD1
  generalize H1 = H at hP hS ⊢
  have hP : va_P D vwCl [(v0, .inl (cA 0, 326, .inl fs)), (v2, .inl (cA 0, 326, .inl fa)), (w0, .inr (11, [.ref v0, .ref v1, .ref v2, .ref v3, .ref v4, .long 0, .long 0, .int 0, .int 0, .ref v9, .int 0, .int 0, .int (-1), .ref v13, .int 0, .int 0, .int 0, .int 0, .int 0, .int 0, .int 0, .int 0, .int 0, .int 0, .int 0, .long 0, .int 0, .ref v27, .ref v28, .ref v29, .ref v30, .ref v31, .ref v32, .ref v33, .ref v34, .ref v35, .ref v36, .ref v37, .int 0]))] H := hP
  have hD : va_D A [(v0, .inl (cA 0, 326, .inl fs)), (v2, .inl (cA 0, 326, .inl fa)), (w0, .inr (11, [.ref v0, .ref v1, .ref v2, .ref v3, .ref v4, .long 0, .long 0, .int 0, .int 0, .ref v9, .int 0, .int 0, .int (-1), .ref v13, .int 0, .int 0, .int 0, .int 0, .int 0, .int 0, .int 0, .int 0, .int 0, .int 0, .int 0, .long 0, .int 0, .ref v27, .ref v28, .ref v29, .ref v30, .ref v31, .ref v32, .ref v33, .ref v34, .ref v35, .ref v36, .ref v37, .int 0]))] := hD
  obtain rfl : rn2 = 1 := hw
  refine lv_if_ne (tgt := 13) hx hb dX10_paymentsAfter_8 (by decide) (fun c3 => ?_) (fun c9 => absurd c9 (by decide))
  refine lv_aload_n hx hb dX10_paymentsAfter_13 rfl (lv_at hl 0 rfl) ?_
  have hPc := hP.sub (ws' := [(w0, .inr (11, [.ref v0, .ref v1, .ref v2, .ref v3, .ref v4, .long 0, .long 0, .int 0, .int 0, .ref v9, .int 0, .int 0, .int (-1), .ref v13, .int 0, .int 0, .int 0, .int 0, .int 0, .int 0, .int 0, .int 0, .int 0, .int 0, .int 0, .long 0, .int 0, .ref v27, .ref v28, .ref v29, .ref v30, .ref v31, .ref v32, .ref v33, .ref v34, .ref v35, .ref v36, .ref v37, .int 0])), (v0, .inl (cA 0, 326, .inl fs)), (v2, .inl (cA 0, 326, .inl fa))]) [2, 0, 1] rfl
  have hDc := hD.sub (ws' := [(w0, .inr (11, [.ref v0, .ref v1, .ref v2, .ref v3, .ref v4, .long 0, .long 0, .int 0, .int 0, .ref v9, .int 0, .int 0, .int (-1), .ref v13, .int 0, .int 0, .int 0, .int 0, .int 0, .int 0, .int 0, .int 0, .int 0, .int 0, .int 0, .long 0, .int 0, .ref v27, .ref v28, .ref v29, .ref v30, .ref v31, .ref v32, .ref v33, .ref v34, .ref v35, .ref v36, .ref v37, .int 0])), (v0, .inl (cA 0, 326, .inl fs)), (v2, .inl (cA 0, 326, .inl fa))]) [2, 0, 1] (by decide) rfl
  have hFc := va_free (wc := [(w0, .inr (11, [.ref v0, .ref v1, .ref v2, .ref v3, .ref v4, .long 0, .long 0, .int 0, .int 0, .ref v9, .int 0, .int 0, .int (-1), .ref v13, .int 0, .int 0, .int 0, .int 0, .int 0, .int 0, .int 0, .int 0, .int 0, .int 0, .int 0, .long 0, .int 0, .ref v27, .ref v28, .ref v29, .ref v30, .ref v31, .ref v32, .ref v33, .ref v34, .ref v35, .ref v36, .ref v37, .int 0])), (v0, .inl (cA 0, 326, .inl fs)), (v2, .inl (cA 0, 326, .inl fa))]) hD hS hA [2, 0, 1] rfl
  refine va_callv (va_runV (As := []) (rest := []) ⟨hx, hb, hml, hown, hts⟩ (c_m_beginTrial l D cA sa w0 v0 v1 v2 v3 v4 v9 v13 v27 v28 v29 v30 v31 v32 v33 v34 v35 v36 v37 0 fs fa H.size) (cwV 0 hts gX10_paymentsAfter_X10_beginTrial rfl rfl rfl (by decide +kernel) ⟨(Nat.le_of_ble_eq_true rfl), (Nat.le_of_ble_eq_true rfl)⟩) ⟨Wd.blind, va_recv hK hPc (ci := 11) (q0 := 0) rfl rfl, fun U hU hW => ⟨rfl, Wd.call hPc hDc hK hC hZ hS hFc U hU hW⟩⟩ rfl rfl hl.1 rfl (lv_room (Nat.le_of_ble_eq_true rfl)) dX10_paymentsAfter_14 ⟨(Nat.le_of_ble_eq_true rfl), (Nat.le_of_ble_eq_true rfl)⟩) hS (fun q _ h => hFc q h) hFc (fun u t H1 locs ht hvm hw hB hz1 hk1 hS => ?_)
  obtain ⟨fn4, hP1, hD1⟩ := hB
  rw [ht] at hP1
  obtain ⟨hP, hD⟩ := va_join (wr := []) (w1 := [(w0, .inr (11, [.ref v0, .ref v1, .ref v2, .ref v3, .ref v4, .long 0, .long 0, .int 0, .int 0, .ref v9, .int 0, .int 0, .int (-1), .ref v13, .int 0, .int 0, .int 0, .int 0, .int 0, .int 0, .int 0, .int 0, .int 0, .int 0, .int 0, .long 0, .int 0, .ref v27, .ref v28, .ref v29, .ref v30, .ref v31, .ref v32, .ref v33, .ref v34, .ref v35, .ref v36, .ref v37, .int 0])), (v0, .inl (cA 0, 326, .inl fs)), (v2, .inl (cA 0, 326, .inl fn4))]) hP hD [2, 0, 1] [] rfl rfl (by decide) (by decide) hk1 hFc hP1 hD1
  generalize H1 = H at hP hS ⊢
  have hP : va_P D vwCl [(w0, .inr (11, [.ref v0, .ref v1, .ref v2, .ref v3, .ref v4, .long 0, .long 0, .int 0, .int 0, .ref v9, .int 0, .int 0, .int (-1), .ref v13, .int 0, .int 0, .int 0, .int 0, .int 0, .int 0, .int 0, .int 0, .int 0, .int 0, .int 0, .long 0, .int 0, .ref v27, .ref v28, .ref v29, .ref v30, .ref v31, .ref v32, .ref v33, .ref v34, .ref v35, .ref v36, .ref v37, .int 0])), (v0, .inl (cA 0, 326, .inl fs)), (v2, .inl (cA 0, 326, .inl fn4))] H := hP
  have hD : va_D A [(w0, .inr (11, [.ref v0, .ref v1, .ref v2, .ref v3, .ref v4, .long 0, .long 0, .int 0, .int 0, .ref v9, .int 0, .int 0, .int (-1), .ref v13, .int 0, .int 0, .int 0, .int 0, .int 0, .int 0, .int 0, .int 0, .int 0, .int 0, .int 0, .long 0, .int 0, .ref v27, .ref v28, .ref v29, .ref v30, .ref v31, .ref v32, .ref v33, .ref v34, .ref v35, .ref v36, .ref v37, .int 0])), (v0, .inl (cA 0, 326, .inl fs)), (v2, .inl (cA 0, 326, .inl fn4))] := hD
  refine lv_aload_n hx hb dX10_paymentsAfter_17 rfl (lv_at hl 0 rfl) ?_
  refine lv_iload_n hx hb dX10_paymentsAfter_18 rfl (lv_at hl 1 rfl) ?_
  have hPc := hP.sub (ws' := [(w0, .inr (11, [.ref v0, .ref v1, .ref v2, .ref v3, .ref v4, .long 0, .long 0, .int 0, .int 0, .ref v9, .int 0, .int 0, .int (-1), .ref v13, .int 0, .int 0, .int 0, .int 0, .int 0, .int 0, .int 0, .int 0, .int 0, .int 0, .int 0, .long 0, .int 0, .ref v27, .ref v28, .ref v29, .ref v30, .ref v31, .ref v32, .ref v33, .ref v34, .ref v35, .ref v36, .ref v37, .int 0])), (v0, .inl (cA 0, 326, .inl fs))]) [0, 1] rfl
  have hDc := hD.sub (ws' := [(w0, .inr (11, [.ref v0, .ref v1, .ref v2, .ref v3, .ref v4, .long 0, .long 0, .int 0, .int 0, .ref v9, .int 0, .int 0, .int (-1), .ref v13, .int 0, .int 0, .int 0, .int 0, .int 0, .int 0, .int 0, .int 0, .int 0, .int 0, .int 0, .long 0, .int 0, .ref v27, .ref v28, .ref v29, .ref v30, .ref v31, .ref v32, .ref v33, .ref v34, .ref v35, .ref v36, .ref v37, .int 0])), (v0, .inl (cA 0, 326, .inl fs))]) [0, 1] (by decide) rfl
  have hFc := va_free (wc := [(w0, .inr (11, [.ref v0, .ref v1, .ref v2, .ref v3, .ref v4, .long 0, .long 0, .int 0, .int 0, .ref v9, .int 0, .int 0, .int (-1), .ref v13, .int 0, .int 0, .int 0, .int 0, .int 0, .int 0, .int 0, .int 0, .int 0, .int 0, .int 0, .long 0, .int 0, .ref v27, .ref v28, .ref v29, .ref v30, .ref v31, .ref v32, .ref v33, .ref v34, .ref v35, .ref v36, .ref v37, .int 0])), (v0, .inl (cA 0, 326, .inl fs))]) hD hS hA [0, 1] rfl
  refine va_callv (va_runV (As := [.int (nI N)]) (rest := []) ⟨hx, hb, hml, hown, hts⟩ (c_m_passDays l D cA sa w0 v0 v1 v2 v3 v4 v9 v13 v27 v28 v29 v30 v31 v32 v33 v34 v35 v36 v37 N 0 fs H.size hz.d hN) (cwV 1 hts gX10_paymentsAfter_X10_passDays rfl rfl rfl (by decide +kernel) ⟨(Nat.le_of_ble_eq_true rfl), (Nat.le_of_ble_eq_true rfl)⟩) ⟨Wd.blind, va_recv hK hPc (ci := 11) (q0 := 0) rfl rfl, fun U hU hW => ⟨rfl, Wd.call hPc hDc hK hC hZ hS hFc U hU hW⟩⟩ rfl rfl hl.1 rfl (lv_room (Nat.le_of_ble_eq_true rfl)) dX10_paymentsAfter_19 ⟨(Nat.le_of_ble_eq_true rfl), (Nat.le_of_ble_eq_true rfl)⟩) hS (fun q _ h => hFc q h) hFc (fun u t H1 locs ht hvm hw hB hz1 hk1 hS => ?_)
  obtain ⟨fn5, hn6, hP1, hD1⟩ := hB
  rw [ht] at hP1
  obtain ⟨hP, hD⟩ := va_join (wr := [(v2, .inl (cA 0, 326, .inl fn4))]) (w1 := [(w0, .inr (11, [.ref v0, .ref v1, .ref v2, .ref v3, .ref v4, .long 0, .long 0, .int 0, .int 0, .ref v9, .int 0, .int 0, .int (-1), .ref v13, .int 0, .int 0, .int 0, .int 0, .int 0, .int 0, .int 0, .int 0, .int 0, .int 0, .int 0, .long 0, .int 0, .ref v27, .ref v28, .ref v29, .ref v30, .ref v31, .ref v32, .ref v33, .ref v34, .ref v35, .ref v36, .ref v37, .int 0])), (v0, .inl (cA 0, 326, .inl fn5))]) hP hD [0, 1] [2] rfl rfl (by decide) (by decide) hk1 hFc hP1 hD1
  generalize H1 = H at hP hS ⊢
  have hP : va_P D vwCl [(v2, .inl (cA 0, 326, .inl fn4)), (w0, .inr (11, [.ref v0, .ref v1, .ref v2, .ref v3, .ref v4, .long 0, .long 0, .int 0, .int 0, .ref v9, .int 0, .int 0, .int (-1), .ref v13, .int 0, .int 0, .int 0, .int 0, .int 0, .int 0, .int 0, .int 0, .int 0, .int 0, .int 0, .long 0, .int 0, .ref v27, .ref v28, .ref v29, .ref v30, .ref v31, .ref v32, .ref v33, .ref v34, .ref v35, .ref v36, .ref v37, .int 0])), (v0, .inl (cA 0, 326, .inl fn5))] H := hP
  have hD : va_D A [(v2, .inl (cA 0, 326, .inl fn4)), (w0, .inr (11, [.ref v0, .ref v1, .ref v2, .ref v3, .ref v4, .long 0, .long 0, .int 0, .int 0, .ref v9, .int 0, .int 0, .int (-1), .ref v13, .int 0, .int 0, .int 0, .int 0, .int 0, .int 0, .int 0, .int 0, .int 0, .int 0, .int 0, .long 0, .int 0, .ref v27, .ref v28, .ref v29, .ref v30, .ref v31, .ref v32, .ref v33, .ref v34, .ref v35, .ref v36, .ref v37, .int 0])), (v0, .inl (cA 0, 326, .inl fn5))] := hD
  refine lv_aload_n hx hb dX10_paymentsAfter_22 rfl (lv_at hl 0 rfl) ?_
  refine va_get (D := D) (ci := 11) (v := .ref v0) (C := RX10) (T := TX10) (N := 39) hx hb hts inX10 hown hK hP 1 rfl rfl 0 (by decide) (hts (.fieldLink RX10 7 "EscrowDeskModel" "s" "[I") (by decide +kernel)) (fun _ h9 => h9) rfl dX10_paymentsAfter_23 ?_
  refine lv_bipush (v := 10) hx hb dX10_paymentsAfter_26 (by decide) ?_
  refine va_iald hx hb hK hP 2 0 rfl rfl (vp_in_iff.mpr (by decide)) dX10_paymentsAfter_28 ?_
  refine lv_topi (fun yn7 eyn7 => ?_)
  obtain rfl : yn7 = 0 := eyn7.trans (hn6.2 10 (by decide) (by decide) (by decide))
  refine lv_istore_n (lv' := [(2, .int 0), (0, .ref w0), (1, .int (nI N))]) hx hb dX10_paymentsAfter_29 rfl hl (by decide) rfl (fun ls hl => ?_)
  refine lv_aload_n hx hb dX10_paymentsAfter_30 rfl (lv_at hl 1 rfl) ?_
  have hPc := hP.sub (ws' := [(w0, .inr (11, [.ref v0, .ref v1, .ref v2, .ref v3, .ref v4, .long 0, .long 0, .int 0, .int 0, .ref v9, .int 0, .int 0, .int (-1), .ref v13, .int 0, .int 0, .int 0, .int 0, .int 0, .int 0, .int 0, .int 0, .int 0, .int 0, .int 0, .long 0, .int 0, .ref v27, .ref v28, .ref v29, .ref v30, .ref v31, .ref v32, .ref v33, .ref v34, .ref v35, .ref v36, .ref v37, .int 0])), (v0, .inl (cA 0, 326, .inl fn5)), (v2, .inl (cA 0, 326, .inl fn4))]) [1, 2, 0] rfl
  have hDc := hD.sub (ws' := [(w0, .inr (11, [.ref v0, .ref v1, .ref v2, .ref v3, .ref v4, .long 0, .long 0, .int 0, .int 0, .ref v9, .int 0, .int 0, .int (-1), .ref v13, .int 0, .int 0, .int 0, .int 0, .int 0, .int 0, .int 0, .int 0, .int 0, .int 0, .int 0, .long 0, .int 0, .ref v27, .ref v28, .ref v29, .ref v30, .ref v31, .ref v32, .ref v33, .ref v34, .ref v35, .ref v36, .ref v37, .int 0])), (v0, .inl (cA 0, 326, .inl fn5)), (v2, .inl (cA 0, 326, .inl fn4))]) [1, 2, 0] (by decide) rfl
  have hFc := va_free (wc := [(w0, .inr (11, [.ref v0, .ref v1, .ref v2, .ref v3, .ref v4, .long 0, .long 0, .int 0, .int 0, .ref v9, .int 0, .int 0, .int (-1), .ref v13, .int 0, .int 0, .int 0, .int 0, .int 0, .int 0, .int 0, .int 0, .int 0, .int 0, .int 0, .long 0, .int 0, .ref v27, .ref v28, .ref v29, .ref v30, .ref v31, .ref v32, .ref v33, .ref v34, .ref v35, .ref v36, .ref v37, .int 0])), (v0, .inl (cA 0, 326, .inl fn5)), (v2, .inl (cA 0, 326, .inl fn4))]) hD hS hA [1, 2, 0] rfl
  refine va_callv (va_runV (As := []) (rest := []) ⟨hx, hb, hml, hown, hts⟩ (c_m_endTrial l D cA sa w0 v0 v1 v2 v3 v4 v9 v13 v27 v28 v29 v30 v31 v32 v33 v34 v35 v36 v37 0 fn5 fn4 H.size) (cwV 0 hts gX10_paymentsAfter_X10_endTrial rfl rfl rfl (by decide +kernel) ⟨(Nat.le_of_ble_eq_true rfl), (Nat.le_of_ble_eq_true rfl)⟩) ⟨Wd.blind, va_recv hK hPc (ci := 11) (q0 := 0) rfl rfl, fun U hU hW => ⟨rfl, Wd.call hPc hDc hK hC hZ hS hFc U hU hW⟩⟩ rfl rfl hl.1 rfl (lv_room (Nat.le_of_ble_eq_true rfl)) dX10_paymentsAfter_31 ⟨(Nat.le_of_ble_eq_true rfl), (Nat.le_of_ble_eq_true rfl)⟩) hS (fun q _ h => hFc q h) hFc (fun u t H1 locs ht hvm hw hB hz1 hk1 hS => ?_)
  obtain ⟨fn8, hP1, hD1⟩ := hB
  rw [ht] at hP1
  obtain ⟨hP, hD⟩ := va_join (wr := []) (w1 := [(w0, .inr (11, [.ref v0, .ref v1, .ref v2, .ref v3, .ref v4, .long 0, .long 0, .int 0, .int 0, .ref v9, .int 0, .int 0, .int (-1), .ref v13, .int 0, .int 0, .int 0, .int 0, .int 0, .int 0, .int 0, .int 0, .int 0, .int 0, .int 0, .long 0, .int 0, .ref v27, .ref v28, .ref v29, .ref v30, .ref v31, .ref v32, .ref v33, .ref v34, .ref v35, .ref v36, .ref v37, .int 0])), (v0, .inl (cA 0, 326, .inl fn8)), (v2, .inl (cA 0, 326, .inl fn4))]) hP hD [1, 2, 0] [] rfl rfl (by decide) (by decide) hk1 hFc hP1 hD1
  generalize H1 = H at hP hS ⊢
  have hP : va_P D vwCl [(w0, .inr (11, [.ref v0, .ref v1, .ref v2, .ref v3, .ref v4, .long 0, .long 0, .int 0, .int 0, .ref v9, .int 0, .int 0, .int (-1), .ref v13, .int 0, .int 0, .int 0, .int 0, .int 0, .int 0, .int 0, .int 0, .int 0, .int 0, .int 0, .long 0, .int 0, .ref v27, .ref v28, .ref v29, .ref v30, .ref v31, .ref v32, .ref v33, .ref v34, .ref v35, .ref v36, .ref v37, .int 0])), (v0, .inl (cA 0, 326, .inl fn8)), (v2, .inl (cA 0, 326, .inl fn4))] H := hP
  have hD : va_D A [(w0, .inr (11, [.ref v0, .ref v1, .ref v2, .ref v3, .ref v4, .long 0, .long 0, .int 0, .int 0, .ref v9, .int 0, .int 0, .int (-1), .ref v13, .int 0, .int 0, .int 0, .int 0, .int 0, .int 0, .int 0, .int 0, .int 0, .int 0, .int 0, .long 0, .int 0, .ref v27, .ref v28, .ref v29, .ref v30, .ref v31, .ref v32, .ref v33, .ref v34, .ref v35, .ref v36, .ref v37, .int 0])), (v0, .inl (cA 0, 326, .inl fn8)), (v2, .inl (cA 0, 326, .inl fn4))] := hD
  refine lv_iload_n hx hb dX10_paymentsAfter_34 rfl (lv_at hl 0 rfl) ?_
  have hP9 := hP.sub (ws' := [(w0, .inr (11, [.ref v0, .ref v1, .ref v2, .ref v3, .ref v4, .long 0, .long 0, .int 0, .int 0, .ref v9, .int 0, .int 0, .int (-1), .ref v13, .int 0, .int 0, .int 0, .int 0, .int 0, .int 0, .int 0, .int 0, .int 0, .int 0, .int 0, .long 0, .int 0, .ref v27, .ref v28, .ref v29, .ref v30, .ref v31, .ref v32, .ref v33, .ref v34, .ref v35, .ref v36, .ref v37, .int 0]))]) [0] rfl
  have hD9 := hD.sub (ws' := [(w0, .inr (11, [.ref v0, .ref v1, .ref v2, .ref v3, .ref v4, .long 0, .long 0, .int 0, .int 0, .ref v9, .int 0, .int 0, .int (-1), .ref v13, .int 0, .int 0, .int 0, .int 0, .int 0, .int 0, .int 0, .int 0, .int 0, .int 0, .int 0, .long 0, .int 0, .ref v27, .ref v28, .ref v29, .ref v30, .ref v31, .ref v32, .ref v33, .ref v34, .ref v35, .ref v36, .ref v37, .int 0]))]) [0] (by decide) rfl
  refine W.widen (k := 0) (n := 0) (Nat.le_of_ble_eq_true rfl) (Nat.le_of_ble_eq_true rfl) ?_
  exact W.iret (v := 0) hx hb hr (fun t ht hW => ⟨⟨0, (), rfl, rfl, by rw [ht]; exact hP9, hD9⟩, hS.F ht⟩) hS.2.2 dX10_paymentsAfter_35

set_option maxHeartbeats 4000000 in
set_option maxRecDepth 100000 in
/-- creditedAfter within -/
theorem c_m_creditedAfter_ret (l : Launch) (D : va_G) (cA : Nat → ClassId) (sa : Nat → Nat) (w0 v0 v1 v2 v3 v4 v9 v13 v27 v28 v29 v30 v31 v32 v33 v34 v35 v36 v37 : Nat) (th : Int32) (fs fa : Nat → Int32) (N : Nat) (sz : Nat) (hz : Zs fs) (hN1 : 1 ≤ N) (hN : N ≤ 120) : Met l yX10_creditedAfter wsX10_creditedAfter ({ frames := 4, cells := 0, slots := 0, locals := 89 }) (va_Pc [.ref w0, .int (nI N)] (Wd D cA sa [(w0, .inr (11, [.ref v0, .ref v1, .ref v2, .ref v3, .ref v4, .long 0, .long 0, .int 0, .int th, .ref v9, .int 0, .int 0, .int (-1), .ref v13, .int 0, .int 0, .int 0, .int 0, .int 0, .int 0, .int 0, .int 0, .int 0, .int 0, .int 0, .long 0, .int 0, .ref v27, .ref v28, .ref v29, .ref v30, .ref v31, .ref v32, .ref v33, .ref v34, .ref v35, .ref v36, .ref v37, .int 0])), (v0, .inl (cA 0, 326, .inl fs)), (v2, .inl (cA 0, 326, .inl fa))] sz)) (va_Qi (fun (r : Int32) (_ : Unit) => r = 0) (fun (_ : Unit) t => Wq D (va_A [(w0, .inr (11, [.ref v0, .ref v1, .ref v2, .ref v3, .ref v4, .long 0, .long 0, .int 0, .int th, .ref v9, .int 0, .int 0, .int (-1), .ref v13, .int 0, .int 0, .int 0, .int 0, .int 0, .int 0, .int 0, .int 0, .int 0, .int 0, .int 0, .long 0, .int 0, .ref v27, .ref v28, .ref v29, .ref v30, .ref v31, .ref v32, .ref v33, .ref v34, .ref v35, .ref v36, .ref v37, .int 0])), (v0, .inl (cA 0, 326, .inl fs)), (v2, .inl (cA 0, 326, .inl fa))] sz) [(w0, .inr (11, [.ref v0, .ref v1, .ref v2, .ref v3, .ref v4, .long 0, .long 0, .int 0, .int 0, .ref v9, .int 0, .int 0, .int (-1), .ref v13, .int 0, .int 0, .int 0, .int 0, .int 0, .int 0, .int 0, .int 0, .int 0, .int 0, .int 0, .long 0, .int 0, .ref v27, .ref v28, .ref v29, .ref v30, .ref v31, .ref v32, .ref v33, .ref v34, .ref v35, .ref v36, .ref v37, .int 0]))] t) (va_A [(w0, .inr (11, [.ref v0, .ref v1, .ref v2, .ref v3, .ref v4, .long 0, .long 0, .int 0, .int th, .ref v9, .int 0, .int 0, .int (-1), .ref v13, .int 0, .int 0, .int 0, .int 0, .int 0, .int 0, .int 0, .int 0, .int 0, .int 0, .int 0, .long 0, .int 0, .ref v27, .ref v28, .ref v29, .ref v30, .ref v31, .ref v32, .ref v33, .ref v34, .ref v35, .ref v36, .ref v37, .int 0])), (v0, .inl (cA 0, 326, .inl fs)), (v2, .inl (cA 0, 326, .inl fa))] sz)) 0 0 (va_A [(w0, .inr (11, [.ref v0, .ref v1, .ref v2, .ref v3, .ref v4, .long 0, .long 0, .int 0, .int th, .ref v9, .int 0, .int 0, .int (-1), .ref v13, .int 0, .int 0, .int 0, .int 0, .int 0, .int 0, .int 0, .int 0, .int 0, .int 0, .int 0, .long 0, .int 0, .ref v27, .ref v28, .ref v29, .ref v30, .ref v31, .ref v32, .ref v33, .ref v34, .ref v35, .ref v36, .ref v37, .int 0])), (v0, .inl (cA 0, 326, .inl fs)), (v2, .inl (cA 0, 326, .inl fa))] sz) := by
  refine Met.ofW (cc := cX10_creditedAfter) (maxL := 3) (ret := (some .int)) (by decide) rfl ?_
  intro p e s m args below meth c s₁ B hml hv
  obtain ⟨rfl, hsz, hP, hK, hD0, hC, hZ⟩ := hv
  have hx := B.exec
  have hb := B.bytes
  have hr := B.returns
  have hts := atoms_spec (ws := wsX10_creditedAfter) B.pre
  have hown : s.vm.findClass RX10 = some m.cls := findClass_of_methodNamed B.named
  have hlocks := B.notSynchronized
  subst hsz
  have hD := hD0.self (sz := s.heap.size)
  generalize hAe : va_A [(w0, .inr (11, [.ref v0, .ref v1, .ref v2, .ref v3, .ref v4, .long 0, .long 0, .int 0, .int th, .ref v9, .int 0, .int 0, .int (-1), .ref v13, .int 0, .int 0, .int 0, .int 0, .int 0, .int 0, .int 0, .int 0, .int 0, .int 0, .int 0, .long 0, .int 0, .ref v27, .ref v28, .ref v29, .ref v30, .ref v31, .ref v32, .ref v33, .ref v34, .ref v35, .ref v36, .ref v37, .int 0])), (v0, .inl (cA 0, 326, .inl fs)), (v2, .inl (cA 0, 326, .inl fa))] s.heap.size = A at hD hZ ⊢
  have hA : ∀ q : Nat, s.heap.size ≤ q → A q := fun q h => by rw [← hAe]; exact Or.inr h
  have hS : va_S A s.heap s.heap [] := va_S.rf
  have hP : va_P D vwCl [(w0, .inr (11, [.ref v0, .ref v1, .ref v2, .ref v3, .ref v4, .long 0, .long 0, .int 0, .int th, .ref v9, .int 0, .int 0, .int (-1), .ref v13, .int 0, .int 0, .int 0, .int 0, .int 0, .int 0, .int 0, .int 0, .int 0, .int 0, .int 0, .long 0, .int 0, .ref v27, .ref v28, .ref v29, .ref v30, .ref v31, .ref v32, .ref v33, .ref v34, .ref v35, .ref v36, .ref v37, .int 0])), (v0, .inl (cA 0, 326, .inl fs)), (v2, .inl (cA 0, 326, .inl fa))] s.heap := hP
  have hl := lv_entry ([.ref w0, .int (nI N)]) (n := 3) (Nat.le_of_ble_eq_true rfl)
  rw [lg_entry_eq]
  generalize (lg_sl ([.ref w0, .int (nI N)]) ++ List.replicate (3 - (lg_sl ([.ref w0, .int (nI N)])).length) Slot.unset).toArray = ls at hl ⊢
  have hl : lv_has ls 3 [(0, .ref w0), (1, .int (nI N))] := hl
  have inX10 : ∀ w ∈ u_ws RX10 TX10 39, w ∈ wsX10_creditedAfter := by decide +kernel
  refine lv_aload_n hx hb dX10_creditedAfter_0 rfl (lv_at hl 0 rfl) ?_
  refine lv_iload_n hx hb dX10_creditedAfter_1 rfl (lv_at hl 1 rfl) ?_
  have hPc := hP.sub (ws' := []) [] rfl
  have hDc := hD.sub (ws' := []) [] (by decide) rfl
  have hFc := va_free (wc := []) hD hS hA [] rfl
  refine va_calli (va_runS (As := [.int (nI N)]) (rest := [.ref w0]) ⟨hx, hb, hml, hown, hts⟩ (c_m_isTrial_t l D cA sa (nI N) s.heap.size (nI_nlt (b := 1) hN1 (by omega)) (nI_nlt (a := 120) hN (by decide))) (va_cwS 1 hts gX10_creditedAfter_X10_isTrial rfl rfl rfl (by decide +kernel) ⟨(Nat.le_of_ble_eq_true rfl), (Nat.le_of_ble_eq_true rfl)⟩) ⟨Wd.blind, fun U hU hW => ⟨rfl, Wd.call hPc hDc hK hC hZ hS hFc U hU hW⟩⟩ rfl rfl hl.1 rfl (lv_room (Nat.le_of_ble_eq_true rfl)) dX10_creditedAfter_2 ⟨(Nat.le_of_ble_eq_true rfl), (Nat.le_of_ble_eq_true rfl)⟩) hS (fun q _ h => hFc q h) hFc (fun rn1 u t H1 locs ht hvm hw hB hz1 hk1 hS => ?_)
  obtain ⟨hP1, hD1⟩ := hB
  rw [ht] at hP1
  obtain ⟨hP, hD⟩ := va_join (wr := [(w0, .inr (11, [.ref v0, .ref v1, .ref v2, .ref v3, .ref v4, .long 0, .long 0, .int 0, .int th, .ref v9, .int 0, .int 0, .int (-1), .ref v13, .int 0, .int 0, .int 0, .int 0, .int 0, .int 0, .int 0, .int 0, .int 0, .int 0, .int 0, .long 0, .int 0, .ref v27, .ref v28, .ref v29, .ref v30, .ref v31, .ref v32, .ref v33, .ref v34, .ref v35, .ref v36, .ref v37, .int 0])), (v0, .inl (cA 0, 326, .inl fs)), (v2, .inl (cA 0, 326, .inl fa))]) (w1 := []) hP hD [] [0, 1, 2] rfl rfl (by decide) (by decide) hk1 hFc hP1 hD1
  generalize H1 = H at hP hS ⊢
  have hP : va_P D vwCl [(w0, .inr (11, [.ref v0, .ref v1, .ref v2, .ref v3, .ref v4, .long 0, .long 0, .int 0, .int th, .ref v9, .int 0, .int 0, .int (-1), .ref v13, .int 0, .int 0, .int 0, .int 0, .int 0, .int 0, .int 0, .int 0, .int 0, .int 0, .int 0, .long 0, .int 0, .ref v27, .ref v28, .ref v29, .ref v30, .ref v31, .ref v32, .ref v33, .ref v34, .ref v35, .ref v36, .ref v37, .int 0])), (v0, .inl (cA 0, 326, .inl fs)), (v2, .inl (cA 0, 326, .inl fa))] H := hP
  have hD : va_D A [(w0, .inr (11, [.ref v0, .ref v1, .ref v2, .ref v3, .ref v4, .long 0, .long 0, .int 0, .int th, .ref v9, .int 0, .int 0, .int (-1), .ref v13, .int 0, .int 0, .int 0, .int 0, .int 0, .int 0, .int 0, .int 0, .int 0, .int 0, .int 0, .long 0, .int 0, .ref v27, .ref v28, .ref v29, .ref v30, .ref v31, .ref v32, .ref v33, .ref v34, .ref v35, .ref v36, .ref v37, .int 0])), (v0, .inl (cA 0, 326, .inl fs)), (v2, .inl (cA 0, 326, .inl fa))] := hD
  obtain rfl : rn1 = 1 := hw
  have hPc := hP.sub (ws' := [(w0, .inr (11, [.ref v0, .ref v1, .ref v2, .ref v3, .ref v4, .long 0, .long 0, .int 0, .int th, .ref v9, .int 0, .int 0, .int (-1), .ref v13, .int 0, .int 0, .int 0, .int 0, .int 0, .int 0, .int 0, .int 0, .int 0, .int 0, .int 0, .long 0, .int 0, .ref v27, .ref v28, .ref v29, .ref v30, .ref v31, .ref v32, .ref v33, .ref v34, .ref v35, .ref v36, .ref v37, .int 0]))]) [0] rfl
  have hDc := hD.sub (ws' := [(w0, .inr (11, [.ref v0, .ref v1, .ref v2, .ref v3, .ref v4, .long 0, .long 0, .int 0, .int th, .ref v9, .int 0, .int 0, .int (-1), .ref v13, .int 0, .int 0, .int 0, .int 0, .int 0, .int 0, .int 0, .int 0, .int 0, .int 0, .int 0, .long 0, .int 0, .ref v27, .ref v28, .ref v29, .ref v30, .ref v31, .ref v32, .ref v33, .ref v34, .ref v35, .ref v36, .ref v37, .int 0]))]) [0] (by decide) rfl
  have hFc := va_free (wc := [(w0, .inr (11, [.ref v0, .ref v1, .ref v2, .ref v3, .ref v4, .long 0, .long 0, .int 0, .int th, .ref v9, .int 0, .int 0, .int (-1), .ref v13, .int 0, .int 0, .int 0, .int 0, .int 0, .int 0, .int 0, .int 0, .int 0, .int 0, .int 0, .long 0, .int 0, .ref v27, .ref v28, .ref v29, .ref v30, .ref v31, .ref v32, .ref v33, .ref v34, .ref v35, .ref v36, .ref v37, .int 0]))]) hD hS hA [0] rfl
  refine va_calli (va_runV (As := [.int 1]) (rest := []) ⟨hx, hb, hml, hown, hts⟩ (c_m_good_1 l D cA sa w0 v0 v1 v2 v3 v4 v9 v13 v27 v28 v29 v30 v31 v32 v33 v34 v35 v36 v37 th H.size) (cwV 1 hts gX10_creditedAfter_X10_good rfl rfl rfl (by decide +kernel) ⟨(Nat.le_of_ble_eq_true rfl), (Nat.le_of_ble_eq_true rfl)⟩) ⟨Wd.blind, va_recv hK hPc (ci := 11) (q0 := 0) rfl rfl, fun U hU hW => ⟨rfl, Wd.call hPc hDc hK hC hZ hS hFc U hU hW⟩⟩ rfl rfl hl.1 rfl (lv_room (Nat.le_of_ble_eq_true rfl)) dX10_creditedAfter_5 ⟨(Nat.le_of_ble_eq_true rfl), (Nat.le_of_ble_eq_true rfl)⟩) hS (fun q _ h => hFc q h) hFc (fun rn2 u t H1 locs ht hvm hw hB hz1 hk1 hS => ?_)
  obtain ⟨hP1, hD1⟩ := hB
  rw [ht] at hP1
  obtain ⟨hP, hD⟩ := va_join (wr := [(v0, .inl (cA 0, 326, .inl fs)), (v2, .inl (cA 0, 326, .inl fa))]) (w1 := [(w0, .inr (11, [.ref v0, .ref v1, .ref v2, .ref v3, .ref v4, .long 0, .long 0, .int 0, .int 0, .ref v9, .int 0, .int 0, .int (-1), .ref v13, .int 0, .int 0, .int 0, .int 0, .int 0, .int 0, .int 0, .int 0, .int 0, .int 0, .int 0, .long 0, .int 0, .ref v27, .ref v28, .ref v29, .ref v30, .ref v31, .ref v32, .ref v33, .ref v34, .ref v35, .ref v36, .ref v37, .int 0]))]) hP hD [0] [1, 2] rfl rfl (by decide) (by decide) hk1 hFc hP1 hD1
  generalize H1 = H at hP hS ⊢
  have hP : va_P D vwCl [(v0, .inl (cA 0, 326, .inl fs)), (v2, .inl (cA 0, 326, .inl fa)), (w0, .inr (11, [.ref v0, .ref v1, .ref v2, .ref v3, .ref v4, .long 0, .long 0, .int 0, .int 0, .ref v9, .int 0, .int 0, .int (-1), .ref v13, .int 0, .int 0, .int 0, .int 0, .int 0, .int 0, .int 0, .int 0, .int 0, .int 0, .int 0, .long 0, .int 0, .ref v27, .ref v28, .ref v29, .ref v30, .ref v31, .ref v32, .ref v33, .ref v34, .ref v35, .ref v36, .ref v37, .int 0]))] H := hP
  have hD : va_D A [(v0, .inl (cA 0, 326, .inl fs)), (v2, .inl (cA 0, 326, .inl fa)), (w0, .inr (11, [.ref v0, .ref v1, .ref v2, .ref v3, .ref v4, .long 0, .long 0, .int 0, .int 0, .ref v9, .int 0, .int 0, .int (-1), .ref v13, .int 0, .int 0, .int 0, .int 0, .int 0, .int 0, .int 0, .int 0, .int 0, .int 0, .int 0, .long 0, .int 0, .ref v27, .ref v28, .ref v29, .ref v30, .ref v31, .ref v32, .ref v33, .ref v34, .ref v35, .ref v36, .ref v37, .int 0]))] := hD
  obtain rfl : rn2 = 1 := hw
  refine lv_if_ne (tgt := 13) hx hb dX10_creditedAfter_8 (by decide) (fun c3 => ?_) (fun c9 => absurd c9 (by decide))
  refine lv_aload_n hx hb dX10_creditedAfter_13 rfl (lv_at hl 0 rfl) ?_
  have hPc := hP.sub (ws' := [(w0, .inr (11, [.ref v0, .ref v1, .ref v2, .ref v3, .ref v4, .long 0, .long 0, .int 0, .int 0, .ref v9, .int 0, .int 0, .int (-1), .ref v13, .int 0, .int 0, .int 0, .int 0, .int 0, .int 0, .int 0, .int 0, .int 0, .int 0, .int 0, .long 0, .int 0, .ref v27, .ref v28, .ref v29, .ref v30, .ref v31, .ref v32, .ref v33, .ref v34, .ref v35, .ref v36, .ref v37, .int 0])), (v0, .inl (cA 0, 326, .inl fs)), (v2, .inl (cA 0, 326, .inl fa))]) [2, 0, 1] rfl
  have hDc := hD.sub (ws' := [(w0, .inr (11, [.ref v0, .ref v1, .ref v2, .ref v3, .ref v4, .long 0, .long 0, .int 0, .int 0, .ref v9, .int 0, .int 0, .int (-1), .ref v13, .int 0, .int 0, .int 0, .int 0, .int 0, .int 0, .int 0, .int 0, .int 0, .int 0, .int 0, .long 0, .int 0, .ref v27, .ref v28, .ref v29, .ref v30, .ref v31, .ref v32, .ref v33, .ref v34, .ref v35, .ref v36, .ref v37, .int 0])), (v0, .inl (cA 0, 326, .inl fs)), (v2, .inl (cA 0, 326, .inl fa))]) [2, 0, 1] (by decide) rfl
  have hFc := va_free (wc := [(w0, .inr (11, [.ref v0, .ref v1, .ref v2, .ref v3, .ref v4, .long 0, .long 0, .int 0, .int 0, .ref v9, .int 0, .int 0, .int (-1), .ref v13, .int 0, .int 0, .int 0, .int 0, .int 0, .int 0, .int 0, .int 0, .int 0, .int 0, .int 0, .long 0, .int 0, .ref v27, .ref v28, .ref v29, .ref v30, .ref v31, .ref v32, .ref v33, .ref v34, .ref v35, .ref v36, .ref v37, .int 0])), (v0, .inl (cA 0, 326, .inl fs)), (v2, .inl (cA 0, 326, .inl fa))]) hD hS hA [2, 0, 1] rfl
  refine va_callv (va_runV (As := []) (rest := []) ⟨hx, hb, hml, hown, hts⟩ (c_m_beginTrial l D cA sa w0 v0 v1 v2 v3 v4 v9 v13 v27 v28 v29 v30 v31 v32 v33 v34 v35 v36 v37 0 fs fa H.size) (cwV 0 hts gX10_creditedAfter_X10_beginTrial rfl rfl rfl (by decide +kernel) ⟨(Nat.le_of_ble_eq_true rfl), (Nat.le_of_ble_eq_true rfl)⟩) ⟨Wd.blind, va_recv hK hPc (ci := 11) (q0 := 0) rfl rfl, fun U hU hW => ⟨rfl, Wd.call hPc hDc hK hC hZ hS hFc U hU hW⟩⟩ rfl rfl hl.1 rfl (lv_room (Nat.le_of_ble_eq_true rfl)) dX10_creditedAfter_14 ⟨(Nat.le_of_ble_eq_true rfl), (Nat.le_of_ble_eq_true rfl)⟩) hS (fun q _ h => hFc q h) hFc (fun u t H1 locs ht hvm hw hB hz1 hk1 hS => ?_)
  obtain ⟨fn4, hP1, hD1⟩ := hB
  rw [ht] at hP1
  obtain ⟨hP, hD⟩ := va_join (wr := []) (w1 := [(w0, .inr (11, [.ref v0, .ref v1, .ref v2, .ref v3, .ref v4, .long 0, .long 0, .int 0, .int 0, .ref v9, .int 0, .int 0, .int (-1), .ref v13, .int 0, .int 0, .int 0, .int 0, .int 0, .int 0, .int 0, .int 0, .int 0, .int 0, .int 0, .long 0, .int 0, .ref v27, .ref v28, .ref v29, .ref v30, .ref v31, .ref v32, .ref v33, .ref v34, .ref v35, .ref v36, .ref v37, .int 0])), (v0, .inl (cA 0, 326, .inl fs)), (v2, .inl (cA 0, 326, .inl fn4))]) hP hD [2, 0, 1] [] rfl rfl (by decide) (by decide) hk1 hFc hP1 hD1
  generalize H1 = H at hP hS ⊢
  have hP : va_P D vwCl [(w0, .inr (11, [.ref v0, .ref v1, .ref v2, .ref v3, .ref v4, .long 0, .long 0, .int 0, .int 0, .ref v9, .int 0, .int 0, .int (-1), .ref v13, .int 0, .int 0, .int 0, .int 0, .int 0, .int 0, .int 0, .int 0, .int 0, .int 0, .int 0, .long 0, .int 0, .ref v27, .ref v28, .ref v29, .ref v30, .ref v31, .ref v32, .ref v33, .ref v34, .ref v35, .ref v36, .ref v37, .int 0])), (v0, .inl (cA 0, 326, .inl fs)), (v2, .inl (cA 0, 326, .inl fn4))] H := hP
  have hD : va_D A [(w0, .inr (11, [.ref v0, .ref v1, .ref v2, .ref v3, .ref v4, .long 0, .long 0, .int 0, .int 0, .ref v9, .int 0, .int 0, .int (-1), .ref v13, .int 0, .int 0, .int 0, .int 0, .int 0, .int 0, .int 0, .int 0, .int 0, .int 0, .int 0, .long 0, .int 0, .ref v27, .ref v28, .ref v29, .ref v30, .ref v31, .ref v32, .ref v33, .ref v34, .ref v35, .ref v36, .ref v37, .int 0])), (v0, .inl (cA 0, 326, .inl fs)), (v2, .inl (cA 0, 326, .inl fn4))] := hD
  refine lv_aload_n hx hb dX10_creditedAfter_17 rfl (lv_at hl 0 rfl) ?_
  refine lv_iload_n hx hb dX10_creditedAfter_18 rfl (lv_at hl 1 rfl) ?_
  have hPc := hP.sub (ws' := [(w0, .inr (11, [.ref v0, .ref v1, .ref v2, .ref v3, .ref v4, .long 0, .long 0, .int 0, .int 0, .ref v9, .int 0, .int 0, .int (-1), .ref v13, .int 0, .int 0, .int 0, .int 0, .int 0, .int 0, .int 0, .int 0, .int 0, .int 0, .int 0, .long 0, .int 0, .ref v27, .ref v28, .ref v29, .ref v30, .ref v31, .ref v32, .ref v33, .ref v34, .ref v35, .ref v36, .ref v37, .int 0])), (v0, .inl (cA 0, 326, .inl fs))]) [0, 1] rfl
  have hDc := hD.sub (ws' := [(w0, .inr (11, [.ref v0, .ref v1, .ref v2, .ref v3, .ref v4, .long 0, .long 0, .int 0, .int 0, .ref v9, .int 0, .int 0, .int (-1), .ref v13, .int 0, .int 0, .int 0, .int 0, .int 0, .int 0, .int 0, .int 0, .int 0, .int 0, .int 0, .long 0, .int 0, .ref v27, .ref v28, .ref v29, .ref v30, .ref v31, .ref v32, .ref v33, .ref v34, .ref v35, .ref v36, .ref v37, .int 0])), (v0, .inl (cA 0, 326, .inl fs))]) [0, 1] (by decide) rfl
  have hFc := va_free (wc := [(w0, .inr (11, [.ref v0, .ref v1, .ref v2, .ref v3, .ref v4, .long 0, .long 0, .int 0, .int 0, .ref v9, .int 0, .int 0, .int (-1), .ref v13, .int 0, .int 0, .int 0, .int 0, .int 0, .int 0, .int 0, .int 0, .int 0, .int 0, .int 0, .long 0, .int 0, .ref v27, .ref v28, .ref v29, .ref v30, .ref v31, .ref v32, .ref v33, .ref v34, .ref v35, .ref v36, .ref v37, .int 0])), (v0, .inl (cA 0, 326, .inl fs))]) hD hS hA [0, 1] rfl
  refine va_callv (va_runV (As := [.int (nI N)]) (rest := []) ⟨hx, hb, hml, hown, hts⟩ (c_m_passDays l D cA sa w0 v0 v1 v2 v3 v4 v9 v13 v27 v28 v29 v30 v31 v32 v33 v34 v35 v36 v37 N 0 fs H.size hz.d hN) (cwV 1 hts gX10_creditedAfter_X10_passDays rfl rfl rfl (by decide +kernel) ⟨(Nat.le_of_ble_eq_true rfl), (Nat.le_of_ble_eq_true rfl)⟩) ⟨Wd.blind, va_recv hK hPc (ci := 11) (q0 := 0) rfl rfl, fun U hU hW => ⟨rfl, Wd.call hPc hDc hK hC hZ hS hFc U hU hW⟩⟩ rfl rfl hl.1 rfl (lv_room (Nat.le_of_ble_eq_true rfl)) dX10_creditedAfter_19 ⟨(Nat.le_of_ble_eq_true rfl), (Nat.le_of_ble_eq_true rfl)⟩) hS (fun q _ h => hFc q h) hFc (fun u t H1 locs ht hvm hw hB hz1 hk1 hS => ?_)
  obtain ⟨fn5, hn6, hP1, hD1⟩ := hB
  rw [ht] at hP1
  obtain ⟨hP, hD⟩ := va_join (wr := [(v2, .inl (cA 0, 326, .inl fn4))]) (w1 := [(w0, .inr (11, [.ref v0, .ref v1, .ref v2, .ref v3, .ref v4, .long 0, .long 0, .int 0, .int 0, .ref v9, .int 0, .int 0, .int (-1), .ref v13, .int 0, .int 0, .int 0, .int 0, .int 0, .int 0, .int 0, .int 0, .int 0, .int 0, .int 0, .long 0, .int 0, .ref v27, .ref v28, .ref v29, .ref v30, .ref v31, .ref v32, .ref v33, .ref v34, .ref v35, .ref v36, .ref v37, .int 0])), (v0, .inl (cA 0, 326, .inl fn5))]) hP hD [0, 1] [2] rfl rfl (by decide) (by decide) hk1 hFc hP1 hD1
  generalize H1 = H at hP hS ⊢
  have hP : va_P D vwCl [(v2, .inl (cA 0, 326, .inl fn4)), (w0, .inr (11, [.ref v0, .ref v1, .ref v2, .ref v3, .ref v4, .long 0, .long 0, .int 0, .int 0, .ref v9, .int 0, .int 0, .int (-1), .ref v13, .int 0, .int 0, .int 0, .int 0, .int 0, .int 0, .int 0, .int 0, .int 0, .int 0, .int 0, .long 0, .int 0, .ref v27, .ref v28, .ref v29, .ref v30, .ref v31, .ref v32, .ref v33, .ref v34, .ref v35, .ref v36, .ref v37, .int 0])), (v0, .inl (cA 0, 326, .inl fn5))] H := hP
  have hD : va_D A [(v2, .inl (cA 0, 326, .inl fn4)), (w0, .inr (11, [.ref v0, .ref v1, .ref v2, .ref v3, .ref v4, .long 0, .long 0, .int 0, .int 0, .ref v9, .int 0, .int 0, .int (-1), .ref v13, .int 0, .int 0, .int 0, .int 0, .int 0, .int 0, .int 0, .int 0, .int 0, .int 0, .int 0, .long 0, .int 0, .ref v27, .ref v28, .ref v29, .ref v30, .ref v31, .ref v32, .ref v33, .ref v34, .ref v35, .ref v36, .ref v37, .int 0])), (v0, .inl (cA 0, 326, .inl fn5))] := hD
  refine lv_aload_n hx hb dX10_creditedAfter_22 rfl (lv_at hl 0 rfl) ?_
  refine va_get (D := D) (ci := 11) (v := .ref v0) (C := RX10) (T := TX10) (N := 39) hx hb hts inX10 hown hK hP 1 rfl rfl 0 (by decide) (hts (.fieldLink RX10 7 "EscrowDeskModel" "s" "[I") (by decide +kernel)) (fun _ h9 => h9) rfl dX10_creditedAfter_23 ?_
  refine lv_bipush (v := 8) hx hb dX10_creditedAfter_26 (by decide) ?_
  refine va_iald hx hb hK hP 2 0 rfl rfl (vp_in_iff.mpr (by decide)) dX10_creditedAfter_28 ?_
  refine lv_topi (fun yn7 eyn7 => ?_)
  obtain rfl : yn7 = 0 := eyn7.trans (hn6.2 8 (by decide) (by decide) (by decide))
  refine lv_istore_n (lv' := [(2, .int 0), (0, .ref w0), (1, .int (nI N))]) hx hb dX10_creditedAfter_29 rfl hl (by decide) rfl (fun ls hl => ?_)
  refine lv_aload_n hx hb dX10_creditedAfter_30 rfl (lv_at hl 1 rfl) ?_
  have hPc := hP.sub (ws' := [(w0, .inr (11, [.ref v0, .ref v1, .ref v2, .ref v3, .ref v4, .long 0, .long 0, .int 0, .int 0, .ref v9, .int 0, .int 0, .int (-1), .ref v13, .int 0, .int 0, .int 0, .int 0, .int 0, .int 0, .int 0, .int 0, .int 0, .int 0, .int 0, .long 0, .int 0, .ref v27, .ref v28, .ref v29, .ref v30, .ref v31, .ref v32, .ref v33, .ref v34, .ref v35, .ref v36, .ref v37, .int 0])), (v0, .inl (cA 0, 326, .inl fn5)), (v2, .inl (cA 0, 326, .inl fn4))]) [1, 2, 0] rfl
  have hDc := hD.sub (ws' := [(w0, .inr (11, [.ref v0, .ref v1, .ref v2, .ref v3, .ref v4, .long 0, .long 0, .int 0, .int 0, .ref v9, .int 0, .int 0, .int (-1), .ref v13, .int 0, .int 0, .int 0, .int 0, .int 0, .int 0, .int 0, .int 0, .int 0, .int 0, .int 0, .long 0, .int 0, .ref v27, .ref v28, .ref v29, .ref v30, .ref v31, .ref v32, .ref v33, .ref v34, .ref v35, .ref v36, .ref v37, .int 0])), (v0, .inl (cA 0, 326, .inl fn5)), (v2, .inl (cA 0, 326, .inl fn4))]) [1, 2, 0] (by decide) rfl
  have hFc := va_free (wc := [(w0, .inr (11, [.ref v0, .ref v1, .ref v2, .ref v3, .ref v4, .long 0, .long 0, .int 0, .int 0, .ref v9, .int 0, .int 0, .int (-1), .ref v13, .int 0, .int 0, .int 0, .int 0, .int 0, .int 0, .int 0, .int 0, .int 0, .int 0, .int 0, .long 0, .int 0, .ref v27, .ref v28, .ref v29, .ref v30, .ref v31, .ref v32, .ref v33, .ref v34, .ref v35, .ref v36, .ref v37, .int 0])), (v0, .inl (cA 0, 326, .inl fn5)), (v2, .inl (cA 0, 326, .inl fn4))]) hD hS hA [1, 2, 0] rfl
  refine va_callv (va_runV (As := []) (rest := []) ⟨hx, hb, hml, hown, hts⟩ (c_m_endTrial l D cA sa w0 v0 v1 v2 v3 v4 v9 v13 v27 v28 v29 v30 v31 v32 v33 v34 v35 v36 v37 0 fn5 fn4 H.size) (cwV 0 hts gX10_creditedAfter_X10_endTrial rfl rfl rfl (by decide +kernel) ⟨(Nat.le_of_ble_eq_true rfl), (Nat.le_of_ble_eq_true rfl)⟩) ⟨Wd.blind, va_recv hK hPc (ci := 11) (q0 := 0) rfl rfl, fun U hU hW => ⟨rfl, Wd.call hPc hDc hK hC hZ hS hFc U hU hW⟩⟩ rfl rfl hl.1 rfl (lv_room (Nat.le_of_ble_eq_true rfl)) dX10_creditedAfter_31 ⟨(Nat.le_of_ble_eq_true rfl), (Nat.le_of_ble_eq_true rfl)⟩) hS (fun q _ h => hFc q h) hFc (fun u t H1 locs ht hvm hw hB hz1 hk1 hS => ?_)
  obtain ⟨fn8, hP1, hD1⟩ := hB
  rw [ht] at hP1
  obtain ⟨hP, hD⟩ := va_join (wr := []) (w1 := [(w0, .inr (11, [.ref v0, .ref v1, .ref v2, .ref v3, .ref v4, .long 0, .long 0, .int 0, .int 0, .ref v9, .int 0, .int 0, .int (-1), .ref v13, .int 0, .int 0, .int 0, .int 0, .int 0, .int 0, .int 0, .int 0, .int 0, .int 0, .int 0, .long 0, .int 0, .ref v27, .ref v28, .ref v29, .ref v30, .ref v31, .ref v32, .ref v33, .ref v34, .ref v35, .ref v36, .ref v37, .int 0])), (v0, .inl (cA 0, 326, .inl fn8)), (v2, .inl (cA 0, 326, .inl fn4))]) hP hD [1, 2, 0] [] rfl rfl (by decide) (by decide) hk1 hFc hP1 hD1
  generalize H1 = H at hP hS ⊢
  have hP : va_P D vwCl [(w0, .inr (11, [.ref v0, .ref v1, .ref v2, .ref v3, .ref v4, .long 0, .long 0, .int 0, .int 0, .ref v9, .int 0, .int 0, .int (-1), .ref v13, .int 0, .int 0, .int 0, .int 0, .int 0, .int 0, .int 0, .int 0, .int 0, .int 0, .int 0, .long 0, .int 0, .ref v27, .ref v28, .ref v29, .ref v30, .ref v31, .ref v32, .ref v33, .ref v34, .ref v35, .ref v36, .ref v37, .int 0])), (v0, .inl (cA 0, 326, .inl fn8)), (v2, .inl (cA 0, 326, .inl fn4))] H := hP
  have hD : va_D A [(w0, .inr (11, [.ref v0, .ref v1, .ref v2, .ref v3, .ref v4, .long 0, .long 0, .int 0, .int 0, .ref v9, .int 0, .int 0, .int (-1), .ref v13, .int 0, .int 0, .int 0, .int 0, .int 0, .int 0, .int 0, .int 0, .int 0, .int 0, .int 0, .long 0, .int 0, .ref v27, .ref v28, .ref v29, .ref v30, .ref v31, .ref v32, .ref v33, .ref v34, .ref v35, .ref v36, .ref v37, .int 0])), (v0, .inl (cA 0, 326, .inl fn8)), (v2, .inl (cA 0, 326, .inl fn4))] := hD
  refine lv_iload_n hx hb dX10_creditedAfter_34 rfl (lv_at hl 0 rfl) ?_
  have hP9 := hP.sub (ws' := [(w0, .inr (11, [.ref v0, .ref v1, .ref v2, .ref v3, .ref v4, .long 0, .long 0, .int 0, .int 0, .ref v9, .int 0, .int 0, .int (-1), .ref v13, .int 0, .int 0, .int 0, .int 0, .int 0, .int 0, .int 0, .int 0, .int 0, .int 0, .int 0, .long 0, .int 0, .ref v27, .ref v28, .ref v29, .ref v30, .ref v31, .ref v32, .ref v33, .ref v34, .ref v35, .ref v36, .ref v37, .int 0]))]) [0] rfl
  have hD9 := hD.sub (ws' := [(w0, .inr (11, [.ref v0, .ref v1, .ref v2, .ref v3, .ref v4, .long 0, .long 0, .int 0, .int 0, .ref v9, .int 0, .int 0, .int (-1), .ref v13, .int 0, .int 0, .int 0, .int 0, .int 0, .int 0, .int 0, .int 0, .int 0, .int 0, .int 0, .long 0, .int 0, .ref v27, .ref v28, .ref v29, .ref v30, .ref v31, .ref v32, .ref v33, .ref v34, .ref v35, .ref v36, .ref v37, .int 0]))]) [0] (by decide) rfl
  refine W.widen (k := 0) (n := 0) (Nat.le_of_ble_eq_true rfl) (Nat.le_of_ble_eq_true rfl) ?_
  exact W.iret (v := 0) hx hb hr (fun t ht hW => ⟨⟨0, (), rfl, rfl, by rw [ht]; exact hP9, hD9⟩, hS.F ht⟩) hS.2.2 dX10_creditedAfter_35

set_option maxHeartbeats 4000000 in
set_option maxRecDepth 100000 in
/-- shortDay within -/
theorem c_m_shortDay_ret (l : Launch) (D : va_G) (cA : Nat → ClassId) (sa : Nat → Nat) (w0 v0 v1 v2 v3 v4 v9 v13 v27 v28 v29 v30 v31 v32 v33 v34 v35 v36 v37 : Nat) (th : Int32) (fs9 fa : Nat → Int32) (N : Nat) (sz : Nat) (hz : Zs fs9) (hN1 : 1 ≤ N) (hN : N ≤ 120) : Met l yX10_shortDay wsX10_shortDay ({ frames := 3, cells := 0, slots := 0, locals := 67 }) (va_Pc [.ref w0, .int (nI N)] (Wd D cA sa [(w0, .inr (11, [.ref v0, .ref v1, .ref v2, .ref v3, .ref v4, .long 0, .long 0, .int 0, .int th, .ref v9, .int 0, .int 0, .int (-1), .ref v13, .int 0, .int 0, .int 0, .int 0, .int 0, .int 0, .int 0, .int 0, .int 0, .int 0, .int 0, .long 0, .int 0, .ref v27, .ref v28, .ref v29, .ref v30, .ref v31, .ref v32, .ref v33, .ref v34, .ref v35, .ref v36, .ref v37, .int 0])), (v0, .inl (cA 0, 326, .inl fs9)), (v2, .inl (cA 0, 326, .inl fa))] sz)) (va_Qi (fun (r : Int32) (_ : Unit) => r = (-1)) (fun (_ : Unit) t => Wq D (va_A [(w0, .inr (11, [.ref v0, .ref v1, .ref v2, .ref v3, .ref v4, .long 0, .long 0, .int 0, .int th, .ref v9, .int 0, .int 0, .int (-1), .ref v13, .int 0, .int 0, .int 0, .int 0, .int 0, .int 0, .int 0, .int 0, .int 0, .int 0, .int 0, .long 0, .int 0, .ref v27, .ref v28, .ref v29, .ref v30, .ref v31, .ref v32, .ref v33, .ref v34, .ref v35, .ref v36, .ref v37, .int 0])), (v0, .inl (cA 0, 326, .inl fs9)), (v2, .inl (cA 0, 326, .inl fa))] sz) [(w0, .inr (11, [.ref v0, .ref v1, .ref v2, .ref v3, .ref v4, .long 0, .long 0, .int 0, .int 0, .ref v9, .int 0, .int 0, .int (-1), .ref v13, .int 0, .int 0, .int 0, .int 0, .int 0, .int 0, .int 0, .int 0, .int 0, .int 0, .int 0, .long 0, .int 0, .ref v27, .ref v28, .ref v29, .ref v30, .ref v31, .ref v32, .ref v33, .ref v34, .ref v35, .ref v36, .ref v37, .int 0]))] t) (va_A [(w0, .inr (11, [.ref v0, .ref v1, .ref v2, .ref v3, .ref v4, .long 0, .long 0, .int 0, .int th, .ref v9, .int 0, .int 0, .int (-1), .ref v13, .int 0, .int 0, .int 0, .int 0, .int 0, .int 0, .int 0, .int 0, .int 0, .int 0, .int 0, .long 0, .int 0, .ref v27, .ref v28, .ref v29, .ref v30, .ref v31, .ref v32, .ref v33, .ref v34, .ref v35, .ref v36, .ref v37, .int 0])), (v0, .inl (cA 0, 326, .inl fs9)), (v2, .inl (cA 0, 326, .inl fa))] sz)) 0 0 (va_A [(w0, .inr (11, [.ref v0, .ref v1, .ref v2, .ref v3, .ref v4, .long 0, .long 0, .int 0, .int th, .ref v9, .int 0, .int 0, .int (-1), .ref v13, .int 0, .int 0, .int 0, .int 0, .int 0, .int 0, .int 0, .int 0, .int 0, .int 0, .int 0, .long 0, .int 0, .ref v27, .ref v28, .ref v29, .ref v30, .ref v31, .ref v32, .ref v33, .ref v34, .ref v35, .ref v36, .ref v37, .int 0])), (v0, .inl (cA 0, 326, .inl fs9)), (v2, .inl (cA 0, 326, .inl fa))] sz) := by
  refine Met.ofW (cc := cX10_shortDay) (maxL := 4) (ret := (some .int)) (by decide) rfl ?_
  intro p e s m args below meth c s₁ B hml hv
  obtain ⟨rfl, hsz, hP, hK, hD0, hC, hZ⟩ := hv
  have hx := B.exec
  have hb := B.bytes
  have hr := B.returns
  have hts := atoms_spec (ws := wsX10_shortDay) B.pre
  have hown : s.vm.findClass RX10 = some m.cls := findClass_of_methodNamed B.named
  have hlocks := B.notSynchronized
  subst hsz
  have hD := hD0.self (sz := s.heap.size)
  generalize hAe : va_A [(w0, .inr (11, [.ref v0, .ref v1, .ref v2, .ref v3, .ref v4, .long 0, .long 0, .int 0, .int th, .ref v9, .int 0, .int 0, .int (-1), .ref v13, .int 0, .int 0, .int 0, .int 0, .int 0, .int 0, .int 0, .int 0, .int 0, .int 0, .int 0, .long 0, .int 0, .ref v27, .ref v28, .ref v29, .ref v30, .ref v31, .ref v32, .ref v33, .ref v34, .ref v35, .ref v36, .ref v37, .int 0])), (v0, .inl (cA 0, 326, .inl fs9)), (v2, .inl (cA 0, 326, .inl fa))] s.heap.size = A at hD hZ ⊢
  have hA : ∀ q : Nat, s.heap.size ≤ q → A q := fun q h => by rw [← hAe]; exact Or.inr h
  have hS : va_S A s.heap s.heap [] := va_S.rf
  have hP : va_P D vwCl [(w0, .inr (11, [.ref v0, .ref v1, .ref v2, .ref v3, .ref v4, .long 0, .long 0, .int 0, .int th, .ref v9, .int 0, .int 0, .int (-1), .ref v13, .int 0, .int 0, .int 0, .int 0, .int 0, .int 0, .int 0, .int 0, .int 0, .int 0, .int 0, .long 0, .int 0, .ref v27, .ref v28, .ref v29, .ref v30, .ref v31, .ref v32, .ref v33, .ref v34, .ref v35, .ref v36, .ref v37, .int 0])), (v0, .inl (cA 0, 326, .inl fs9)), (v2, .inl (cA 0, 326, .inl fa))] s.heap := hP
  have hl := lv_entry ([.ref w0, .int (nI N)]) (n := 4) (Nat.le_of_ble_eq_true rfl)
  rw [lg_entry_eq]
  generalize (lg_sl ([.ref w0, .int (nI N)]) ++ List.replicate (4 - (lg_sl ([.ref w0, .int (nI N)])).length) Slot.unset).toArray = ls at hl ⊢
  have hl : lv_has ls 4 [(0, .ref w0), (1, .int (nI N))] := hl
  refine lv_aload_n hx hb dX10_shortDay_0 rfl (lv_at hl 0 rfl) ?_
  refine lv_iload_n hx hb dX10_shortDay_1 rfl (lv_at hl 1 rfl) ?_
  have hPc := hP.sub (ws' := []) [] rfl
  have hDc := hD.sub (ws' := []) [] (by decide) rfl
  have hFc := va_free (wc := []) hD hS hA [] rfl
  refine va_calli (va_runS (As := [.int (nI N)]) (rest := [.ref w0]) ⟨hx, hb, hml, hown, hts⟩ (c_m_isTrial_t l D cA sa (nI N) s.heap.size (nI_nlt (b := 1) hN1 (by omega)) (nI_nlt (a := 120) hN (by decide))) (va_cwS 1 hts gX10_shortDay_X10_isTrial rfl rfl rfl (by decide +kernel) ⟨(Nat.le_of_ble_eq_true rfl), (Nat.le_of_ble_eq_true rfl)⟩) ⟨Wd.blind, fun U hU hW => ⟨rfl, Wd.call hPc hDc hK hC hZ hS hFc U hU hW⟩⟩ rfl rfl hl.1 rfl (lv_room (Nat.le_of_ble_eq_true rfl)) dX10_shortDay_2 ⟨(Nat.le_of_ble_eq_true rfl), (Nat.le_of_ble_eq_true rfl)⟩) hS (fun q _ h => hFc q h) hFc (fun rn1 u t H1 locs ht hvm hw hB hz1 hk1 hS => ?_)
  obtain ⟨hP1, hD1⟩ := hB
  rw [ht] at hP1
  obtain ⟨hP, hD⟩ := va_join (wr := [(w0, .inr (11, [.ref v0, .ref v1, .ref v2, .ref v3, .ref v4, .long 0, .long 0, .int 0, .int th, .ref v9, .int 0, .int 0, .int (-1), .ref v13, .int 0, .int 0, .int 0, .int 0, .int 0, .int 0, .int 0, .int 0, .int 0, .int 0, .int 0, .long 0, .int 0, .ref v27, .ref v28, .ref v29, .ref v30, .ref v31, .ref v32, .ref v33, .ref v34, .ref v35, .ref v36, .ref v37, .int 0])), (v0, .inl (cA 0, 326, .inl fs9)), (v2, .inl (cA 0, 326, .inl fa))]) (w1 := []) hP hD [] [0, 1, 2] rfl rfl (by decide) (by decide) hk1 hFc hP1 hD1
  generalize H1 = H at hP hS ⊢
  have hP : va_P D vwCl [(w0, .inr (11, [.ref v0, .ref v1, .ref v2, .ref v3, .ref v4, .long 0, .long 0, .int 0, .int th, .ref v9, .int 0, .int 0, .int (-1), .ref v13, .int 0, .int 0, .int 0, .int 0, .int 0, .int 0, .int 0, .int 0, .int 0, .int 0, .int 0, .long 0, .int 0, .ref v27, .ref v28, .ref v29, .ref v30, .ref v31, .ref v32, .ref v33, .ref v34, .ref v35, .ref v36, .ref v37, .int 0])), (v0, .inl (cA 0, 326, .inl fs9)), (v2, .inl (cA 0, 326, .inl fa))] H := hP
  have hD : va_D A [(w0, .inr (11, [.ref v0, .ref v1, .ref v2, .ref v3, .ref v4, .long 0, .long 0, .int 0, .int th, .ref v9, .int 0, .int 0, .int (-1), .ref v13, .int 0, .int 0, .int 0, .int 0, .int 0, .int 0, .int 0, .int 0, .int 0, .int 0, .int 0, .long 0, .int 0, .ref v27, .ref v28, .ref v29, .ref v30, .ref v31, .ref v32, .ref v33, .ref v34, .ref v35, .ref v36, .ref v37, .int 0])), (v0, .inl (cA 0, 326, .inl fs9)), (v2, .inl (cA 0, 326, .inl fa))] := hD
  obtain rfl : rn1 = 1 := hw
  have hPc := hP.sub (ws' := [(w0, .inr (11, [.ref v0, .ref v1, .ref v2, .ref v3, .ref v4, .long 0, .long 0, .int 0, .int th, .ref v9, .int 0, .int 0, .int (-1), .ref v13, .int 0, .int 0, .int 0, .int 0, .int 0, .int 0, .int 0, .int 0, .int 0, .int 0, .int 0, .long 0, .int 0, .ref v27, .ref v28, .ref v29, .ref v30, .ref v31, .ref v32, .ref v33, .ref v34, .ref v35, .ref v36, .ref v37, .int 0]))]) [0] rfl
  have hDc := hD.sub (ws' := [(w0, .inr (11, [.ref v0, .ref v1, .ref v2, .ref v3, .ref v4, .long 0, .long 0, .int 0, .int th, .ref v9, .int 0, .int 0, .int (-1), .ref v13, .int 0, .int 0, .int 0, .int 0, .int 0, .int 0, .int 0, .int 0, .int 0, .int 0, .int 0, .long 0, .int 0, .ref v27, .ref v28, .ref v29, .ref v30, .ref v31, .ref v32, .ref v33, .ref v34, .ref v35, .ref v36, .ref v37, .int 0]))]) [0] (by decide) rfl
  have hFc := va_free (wc := [(w0, .inr (11, [.ref v0, .ref v1, .ref v2, .ref v3, .ref v4, .long 0, .long 0, .int 0, .int th, .ref v9, .int 0, .int 0, .int (-1), .ref v13, .int 0, .int 0, .int 0, .int 0, .int 0, .int 0, .int 0, .int 0, .int 0, .int 0, .int 0, .long 0, .int 0, .ref v27, .ref v28, .ref v29, .ref v30, .ref v31, .ref v32, .ref v33, .ref v34, .ref v35, .ref v36, .ref v37, .int 0]))]) hD hS hA [0] rfl
  refine va_calli (va_runV (As := [.int 1]) (rest := []) ⟨hx, hb, hml, hown, hts⟩ (c_m_good_1 l D cA sa w0 v0 v1 v2 v3 v4 v9 v13 v27 v28 v29 v30 v31 v32 v33 v34 v35 v36 v37 th H.size) (cwV 1 hts gX10_shortDay_X10_good rfl rfl rfl (by decide +kernel) ⟨(Nat.le_of_ble_eq_true rfl), (Nat.le_of_ble_eq_true rfl)⟩) ⟨Wd.blind, va_recv hK hPc (ci := 11) (q0 := 0) rfl rfl, fun U hU hW => ⟨rfl, Wd.call hPc hDc hK hC hZ hS hFc U hU hW⟩⟩ rfl rfl hl.1 rfl (lv_room (Nat.le_of_ble_eq_true rfl)) dX10_shortDay_5 ⟨(Nat.le_of_ble_eq_true rfl), (Nat.le_of_ble_eq_true rfl)⟩) hS (fun q _ h => hFc q h) hFc (fun rn2 u t H1 locs ht hvm hw hB hz1 hk1 hS => ?_)
  obtain ⟨hP1, hD1⟩ := hB
  rw [ht] at hP1
  obtain ⟨hP, hD⟩ := va_join (wr := [(v0, .inl (cA 0, 326, .inl fs9)), (v2, .inl (cA 0, 326, .inl fa))]) (w1 := [(w0, .inr (11, [.ref v0, .ref v1, .ref v2, .ref v3, .ref v4, .long 0, .long 0, .int 0, .int 0, .ref v9, .int 0, .int 0, .int (-1), .ref v13, .int 0, .int 0, .int 0, .int 0, .int 0, .int 0, .int 0, .int 0, .int 0, .int 0, .int 0, .long 0, .int 0, .ref v27, .ref v28, .ref v29, .ref v30, .ref v31, .ref v32, .ref v33, .ref v34, .ref v35, .ref v36, .ref v37, .int 0]))]) hP hD [0] [1, 2] rfl rfl (by decide) (by decide) hk1 hFc hP1 hD1
  generalize H1 = H at hP hS ⊢
  have hP : va_P D vwCl [(v0, .inl (cA 0, 326, .inl fs9)), (v2, .inl (cA 0, 326, .inl fa)), (w0, .inr (11, [.ref v0, .ref v1, .ref v2, .ref v3, .ref v4, .long 0, .long 0, .int 0, .int 0, .ref v9, .int 0, .int 0, .int (-1), .ref v13, .int 0, .int 0, .int 0, .int 0, .int 0, .int 0, .int 0, .int 0, .int 0, .int 0, .int 0, .long 0, .int 0, .ref v27, .ref v28, .ref v29, .ref v30, .ref v31, .ref v32, .ref v33, .ref v34, .ref v35, .ref v36, .ref v37, .int 0]))] H := hP
  have hD : va_D A [(v0, .inl (cA 0, 326, .inl fs9)), (v2, .inl (cA 0, 326, .inl fa)), (w0, .inr (11, [.ref v0, .ref v1, .ref v2, .ref v3, .ref v4, .long 0, .long 0, .int 0, .int 0, .ref v9, .int 0, .int 0, .int (-1), .ref v13, .int 0, .int 0, .int 0, .int 0, .int 0, .int 0, .int 0, .int 0, .int 0, .int 0, .int 0, .long 0, .int 0, .ref v27, .ref v28, .ref v29, .ref v30, .ref v31, .ref v32, .ref v33, .ref v34, .ref v35, .ref v36, .ref v37, .int 0]))] := hD
  obtain rfl : rn2 = 1 := hw
  refine lv_if_ne (tgt := 13) hx hb dX10_shortDay_8 (by decide) (fun c3 => ?_) (fun c9 => absurd c9 (by decide))
  refine lv_aload_n hx hb dX10_shortDay_13 rfl (lv_at hl 0 rfl) ?_
  have hPc := hP.sub (ws' := [(w0, .inr (11, [.ref v0, .ref v1, .ref v2, .ref v3, .ref v4, .long 0, .long 0, .int 0, .int 0, .ref v9, .int 0, .int 0, .int (-1), .ref v13, .int 0, .int 0, .int 0, .int 0, .int 0, .int 0, .int 0, .int 0, .int 0, .int 0, .int 0, .long 0, .int 0, .ref v27, .ref v28, .ref v29, .ref v30, .ref v31, .ref v32, .ref v33, .ref v34, .ref v35, .ref v36, .ref v37, .int 0])), (v0, .inl (cA 0, 326, .inl fs9)), (v2, .inl (cA 0, 326, .inl fa))]) [2, 0, 1] rfl
  have hDc := hD.sub (ws' := [(w0, .inr (11, [.ref v0, .ref v1, .ref v2, .ref v3, .ref v4, .long 0, .long 0, .int 0, .int 0, .ref v9, .int 0, .int 0, .int (-1), .ref v13, .int 0, .int 0, .int 0, .int 0, .int 0, .int 0, .int 0, .int 0, .int 0, .int 0, .int 0, .long 0, .int 0, .ref v27, .ref v28, .ref v29, .ref v30, .ref v31, .ref v32, .ref v33, .ref v34, .ref v35, .ref v36, .ref v37, .int 0])), (v0, .inl (cA 0, 326, .inl fs9)), (v2, .inl (cA 0, 326, .inl fa))]) [2, 0, 1] (by decide) rfl
  have hFc := va_free (wc := [(w0, .inr (11, [.ref v0, .ref v1, .ref v2, .ref v3, .ref v4, .long 0, .long 0, .int 0, .int 0, .ref v9, .int 0, .int 0, .int (-1), .ref v13, .int 0, .int 0, .int 0, .int 0, .int 0, .int 0, .int 0, .int 0, .int 0, .int 0, .int 0, .long 0, .int 0, .ref v27, .ref v28, .ref v29, .ref v30, .ref v31, .ref v32, .ref v33, .ref v34, .ref v35, .ref v36, .ref v37, .int 0])), (v0, .inl (cA 0, 326, .inl fs9)), (v2, .inl (cA 0, 326, .inl fa))]) hD hS hA [2, 0, 1] rfl
  refine va_callv (va_runV (As := []) (rest := []) ⟨hx, hb, hml, hown, hts⟩ (c_m_beginTrial l D cA sa w0 v0 v1 v2 v3 v4 v9 v13 v27 v28 v29 v30 v31 v32 v33 v34 v35 v36 v37 0 fs9 fa H.size) (cwV 0 hts gX10_shortDay_X10_beginTrial rfl rfl rfl (by decide +kernel) ⟨(Nat.le_of_ble_eq_true rfl), (Nat.le_of_ble_eq_true rfl)⟩) ⟨Wd.blind, va_recv hK hPc (ci := 11) (q0 := 0) rfl rfl, fun U hU hW => ⟨rfl, Wd.call hPc hDc hK hC hZ hS hFc U hU hW⟩⟩ rfl rfl hl.1 rfl (lv_room (Nat.le_of_ble_eq_true rfl)) dX10_shortDay_14 ⟨(Nat.le_of_ble_eq_true rfl), (Nat.le_of_ble_eq_true rfl)⟩) hS (fun q _ h => hFc q h) hFc (fun u t H1 locs ht hvm hw hB hz1 hk1 hS => ?_)
  obtain ⟨fn4, hP1, hD1⟩ := hB
  rw [ht] at hP1
  obtain ⟨hP, hD⟩ := va_join (wr := []) (w1 := [(w0, .inr (11, [.ref v0, .ref v1, .ref v2, .ref v3, .ref v4, .long 0, .long 0, .int 0, .int 0, .ref v9, .int 0, .int 0, .int (-1), .ref v13, .int 0, .int 0, .int 0, .int 0, .int 0, .int 0, .int 0, .int 0, .int 0, .int 0, .int 0, .long 0, .int 0, .ref v27, .ref v28, .ref v29, .ref v30, .ref v31, .ref v32, .ref v33, .ref v34, .ref v35, .ref v36, .ref v37, .int 0])), (v0, .inl (cA 0, 326, .inl fs9)), (v2, .inl (cA 0, 326, .inl fn4))]) hP hD [2, 0, 1] [] rfl rfl (by decide) (by decide) hk1 hFc hP1 hD1
  generalize H1 = H at hP hS ⊢
  have hP : va_P D vwCl [(w0, .inr (11, [.ref v0, .ref v1, .ref v2, .ref v3, .ref v4, .long 0, .long 0, .int 0, .int 0, .ref v9, .int 0, .int 0, .int (-1), .ref v13, .int 0, .int 0, .int 0, .int 0, .int 0, .int 0, .int 0, .int 0, .int 0, .int 0, .int 0, .long 0, .int 0, .ref v27, .ref v28, .ref v29, .ref v30, .ref v31, .ref v32, .ref v33, .ref v34, .ref v35, .ref v36, .ref v37, .int 0])), (v0, .inl (cA 0, 326, .inl fs9)), (v2, .inl (cA 0, 326, .inl fn4))] H := hP
  have hD : va_D A [(w0, .inr (11, [.ref v0, .ref v1, .ref v2, .ref v3, .ref v4, .long 0, .long 0, .int 0, .int 0, .ref v9, .int 0, .int 0, .int (-1), .ref v13, .int 0, .int 0, .int 0, .int 0, .int 0, .int 0, .int 0, .int 0, .int 0, .int 0, .int 0, .long 0, .int 0, .ref v27, .ref v28, .ref v29, .ref v30, .ref v31, .ref v32, .ref v33, .ref v34, .ref v35, .ref v36, .ref v37, .int 0])), (v0, .inl (cA 0, 326, .inl fs9)), (v2, .inl (cA 0, 326, .inl fn4))] := hD
  refine lv_iconst (v := (-1)) hx hb dX10_shortDay_17 (by decide) ?_
  refine lv_istore_n (lv' := [(2, .int (-1)), (0, .ref w0), (1, .int (nI N))]) hx hb dX10_shortDay_18 rfl hl (by decide) rfl (fun ls hl => ?_)
  refine lv_iconst (v := 0) hx hb dX10_shortDay_19 (by decide) ?_
  refine lv_istore_n (lv' := [(3, .int 0), (2, .int (-1)), (0, .ref w0), (1, .int (nI N))]) hx hb dX10_shortDay_20 rfl hl (by decide) rfl (fun ls hl => ?_)
  have loop : ∀ (n i : Nat) (fs : Nat → Int32) (H : Heap) (locs : List Loc) (ls : Array Slot), i + n = N → Zd fs → va_P D vwCl [(w0, .inr (11, [.ref v0, .ref v1, .ref v2, .ref v3, .ref v4, .long 0, .long 0, .int 0, .int 0, .ref v9, .int 0, .int 0, .int (-1), .ref v13, .int 0, .int 0, .int 0, .int 0, .int 0, .int 0, .int 0, .int 0, .int 0, .int 0, .int 0, .long 0, .int 0, .ref v27, .ref v28, .ref v29, .ref v30, .ref v31, .ref v32, .ref v33, .ref v34, .ref v35, .ref v36, .ref v37, .int 0])), (v0, .inl (cA 0, 326, .inl fs)), (v2, .inl (cA 0, 326, .inl fn4))] H → va_D A [(w0, .inr (11, [.ref v0, .ref v1, .ref v2, .ref v3, .ref v4, .long 0, .long 0, .int 0, .int 0, .ref v9, .int 0, .int 0, .int (-1), .ref v13, .int 0, .int 0, .int 0, .int 0, .int 0, .int 0, .int 0, .int 0, .int 0, .int 0, .int 0, .long 0, .int 0, .ref v27, .ref v28, .ref v29, .ref v30, .ref v31, .ref v32, .ref v33, .ref v34, .ref v35, .ref v36, .ref v37, .int 0])), (v0, .inl (cA 0, 326, .inl fs)), (v2, .inl (cA 0, 326, .inl fn4))] → va_S A s.heap H locs → lv_has ls 4 [(3, .int (nI i)), (2, .int (-1)), (0, .ref w0), (1, .int (nI N))] → W p l e (headSpec wsX10_shortDay ({ frames := 3, cells := 0, slots := 0, locals := 67 } : Room)).room s m ([.ref w0, .int (nI N)] : List Value).toArray below meth c H locs 0 0 (MQ below (va_Qi (fun (r : Int32) (_ : Unit) => r = (-1)) (fun (_ : Unit) t => Wq D A [(w0, .inr (11, [.ref v0, .ref v1, .ref v2, .ref v3, .ref v4, .long 0, .long 0, .int 0, .int 0, .ref v9, .int 0, .int 0, .int (-1), .ref v13, .int 0, .int 0, .int 0, .int 0, .int 0, .int 0, .int 0, .int 0, .int 0, .int 0, .int 0, .long 0, .int 0, .ref v27, .ref v28, .ref v29, .ref v30, .ref v31, .ref v32, .ref v33, .ref v34, .ref v35, .ref v36, .ref v37, .int 0]))] t) A) ([.ref w0, .int (nI N)] : List Value).toArray s 0 0 A) (F0 m 21 ls []) := by
    intro n
    induction n with
    | zero =>
      intro i fs H locs ls hi hzd hP hD hS hl
      obtain rfl : N = i := by omega
      refine lv_iload_n hx hb dX10_shortDay_21 rfl (lv_at hl 0 rfl) ?_
      refine lv_iload_n hx hb dX10_shortDay_22 rfl (lv_at hl 3 rfl) ?_
      refine lv_icmp_ge (tgt := 59) hx hb dX10_shortDay_23 (by decide) (fun c5 => ?_) (fun c9 => absurd c9 (fun h3 => h3 (nI_le (Nat.le_refl N) (by omega))))
      refine lv_aload_n hx hb dX10_shortDay_59 rfl (lv_at hl 2 rfl) ?_
      have hPc := hP.sub (ws' := [(w0, .inr (11, [.ref v0, .ref v1, .ref v2, .ref v3, .ref v4, .long 0, .long 0, .int 0, .int 0, .ref v9, .int 0, .int 0, .int (-1), .ref v13, .int 0, .int 0, .int 0, .int 0, .int 0, .int 0, .int 0, .int 0, .int 0, .int 0, .int 0, .long 0, .int 0, .ref v27, .ref v28, .ref v29, .ref v30, .ref v31, .ref v32, .ref v33, .ref v34, .ref v35, .ref v36, .ref v37, .int 0])), (v0, .inl (cA 0, 326, .inl fs)), (v2, .inl (cA 0, 326, .inl fn4))]) [0, 1, 2] rfl
      have hDc := hD.sub (ws' := [(w0, .inr (11, [.ref v0, .ref v1, .ref v2, .ref v3, .ref v4, .long 0, .long 0, .int 0, .int 0, .ref v9, .int 0, .int 0, .int (-1), .ref v13, .int 0, .int 0, .int 0, .int 0, .int 0, .int 0, .int 0, .int 0, .int 0, .int 0, .int 0, .long 0, .int 0, .ref v27, .ref v28, .ref v29, .ref v30, .ref v31, .ref v32, .ref v33, .ref v34, .ref v35, .ref v36, .ref v37, .int 0])), (v0, .inl (cA 0, 326, .inl fs)), (v2, .inl (cA 0, 326, .inl fn4))]) [0, 1, 2] (by decide) rfl
      have hFc := va_free (wc := [(w0, .inr (11, [.ref v0, .ref v1, .ref v2, .ref v3, .ref v4, .long 0, .long 0, .int 0, .int 0, .ref v9, .int 0, .int 0, .int (-1), .ref v13, .int 0, .int 0, .int 0, .int 0, .int 0, .int 0, .int 0, .int 0, .int 0, .int 0, .int 0, .long 0, .int 0, .ref v27, .ref v28, .ref v29, .ref v30, .ref v31, .ref v32, .ref v33, .ref v34, .ref v35, .ref v36, .ref v37, .int 0])), (v0, .inl (cA 0, 326, .inl fs)), (v2, .inl (cA 0, 326, .inl fn4))]) hD hS hA [0, 1, 2] rfl
      refine va_callv (va_runV (As := []) (rest := []) ⟨hx, hb, hml, hown, hts⟩ (c_m_endTrial l D cA sa w0 v0 v1 v2 v3 v4 v9 v13 v27 v28 v29 v30 v31 v32 v33 v34 v35 v36 v37 0 fs fn4 H.size) (cwV 0 hts gX10_shortDay_X10_endTrial rfl rfl rfl (by decide +kernel) ⟨(Nat.le_of_ble_eq_true rfl), (Nat.le_of_ble_eq_true rfl)⟩) ⟨Wd.blind, va_recv hK hPc (ci := 11) (q0 := 0) rfl rfl, fun U hU hW => ⟨rfl, Wd.call hPc hDc hK hC hZ hS hFc U hU hW⟩⟩ rfl rfl hl.1 rfl (lv_room (Nat.le_of_ble_eq_true rfl)) dX10_shortDay_60 ⟨(Nat.le_of_ble_eq_true rfl), (Nat.le_of_ble_eq_true rfl)⟩) hS (fun q _ h => hFc q h) hFc (fun u t H1 locs ht hvm hw hB hz1 hk1 hS => ?_)
      obtain ⟨fn6, hP1, hD1⟩ := hB
      rw [ht] at hP1
      obtain ⟨hP, hD⟩ := va_join (wr := []) (w1 := [(w0, .inr (11, [.ref v0, .ref v1, .ref v2, .ref v3, .ref v4, .long 0, .long 0, .int 0, .int 0, .ref v9, .int 0, .int 0, .int (-1), .ref v13, .int 0, .int 0, .int 0, .int 0, .int 0, .int 0, .int 0, .int 0, .int 0, .int 0, .int 0, .long 0, .int 0, .ref v27, .ref v28, .ref v29, .ref v30, .ref v31, .ref v32, .ref v33, .ref v34, .ref v35, .ref v36, .ref v37, .int 0])), (v0, .inl (cA 0, 326, .inl fn6)), (v2, .inl (cA 0, 326, .inl fn4))]) hP hD [0, 1, 2] [] rfl rfl (by decide) (by decide) hk1 hFc hP1 hD1
      generalize H1 = H at hP hS ⊢
      have hP : va_P D vwCl [(w0, .inr (11, [.ref v0, .ref v1, .ref v2, .ref v3, .ref v4, .long 0, .long 0, .int 0, .int 0, .ref v9, .int 0, .int 0, .int (-1), .ref v13, .int 0, .int 0, .int 0, .int 0, .int 0, .int 0, .int 0, .int 0, .int 0, .int 0, .int 0, .long 0, .int 0, .ref v27, .ref v28, .ref v29, .ref v30, .ref v31, .ref v32, .ref v33, .ref v34, .ref v35, .ref v36, .ref v37, .int 0])), (v0, .inl (cA 0, 326, .inl fn6)), (v2, .inl (cA 0, 326, .inl fn4))] H := hP
      have hD : va_D A [(w0, .inr (11, [.ref v0, .ref v1, .ref v2, .ref v3, .ref v4, .long 0, .long 0, .int 0, .int 0, .ref v9, .int 0, .int 0, .int (-1), .ref v13, .int 0, .int 0, .int 0, .int 0, .int 0, .int 0, .int 0, .int 0, .int 0, .int 0, .int 0, .long 0, .int 0, .ref v27, .ref v28, .ref v29, .ref v30, .ref v31, .ref v32, .ref v33, .ref v34, .ref v35, .ref v36, .ref v37, .int 0])), (v0, .inl (cA 0, 326, .inl fn6)), (v2, .inl (cA 0, 326, .inl fn4))] := hD
      refine lv_iload_n hx hb dX10_shortDay_63 rfl (lv_at hl 1 rfl) ?_
      have hP9 := hP.sub (ws' := [(w0, .inr (11, [.ref v0, .ref v1, .ref v2, .ref v3, .ref v4, .long 0, .long 0, .int 0, .int 0, .ref v9, .int 0, .int 0, .int (-1), .ref v13, .int 0, .int 0, .int 0, .int 0, .int 0, .int 0, .int 0, .int 0, .int 0, .int 0, .int 0, .long 0, .int 0, .ref v27, .ref v28, .ref v29, .ref v30, .ref v31, .ref v32, .ref v33, .ref v34, .ref v35, .ref v36, .ref v37, .int 0]))]) [0] rfl
      have hD9 := hD.sub (ws' := [(w0, .inr (11, [.ref v0, .ref v1, .ref v2, .ref v3, .ref v4, .long 0, .long 0, .int 0, .int 0, .ref v9, .int 0, .int 0, .int (-1), .ref v13, .int 0, .int 0, .int 0, .int 0, .int 0, .int 0, .int 0, .int 0, .int 0, .int 0, .int 0, .long 0, .int 0, .ref v27, .ref v28, .ref v29, .ref v30, .ref v31, .ref v32, .ref v33, .ref v34, .ref v35, .ref v36, .ref v37, .int 0]))]) [0] (by decide) rfl
      refine W.widen (k := 0) (n := 0) (Nat.le_of_ble_eq_true rfl) (Nat.le_of_ble_eq_true rfl) ?_
      exact W.iret (v := (-1)) hx hb hr (fun t ht hW => ⟨⟨(-1), (), rfl, rfl, by rw [ht]; exact hP9, hD9⟩, hS.F ht⟩) hS.2.2 dX10_shortDay_64
    | succ n ih =>
      intro i fs H locs ls hi hzd hP hD hS hl
      refine lv_iload_n hx hb dX10_shortDay_21 rfl (lv_at hl 0 rfl) ?_
      refine lv_iload_n hx hb dX10_shortDay_22 rfl (lv_at hl 3 rfl) ?_
      refine lv_icmp_ge (tgt := 59) hx hb dX10_shortDay_23 (by decide) (fun c9 => absurd c9 (nI_ge (show i < N by omega) (by omega))) (fun c7 => ?_)
      refine lv_iload_n hx hb dX10_shortDay_26 rfl (lv_at hl 1 rfl) ?_
      refine lv_iconst (v := (-1)) hx hb dX10_shortDay_27 (by decide) ?_
      refine lv_icmp_ne (tgt := 59) hx hb dX10_shortDay_28 (by decide) (fun c9 => absurd c9 (by decide)) (fun c8 => ?_)
      refine lv_aload_n hx hb dX10_shortDay_31 rfl (lv_at hl 2 rfl) ?_
      have hPc := hP.sub (ws' := [(w0, .inr (11, [.ref v0, .ref v1, .ref v2, .ref v3, .ref v4, .long 0, .long 0, .int 0, .int 0, .ref v9, .int 0, .int 0, .int (-1), .ref v13, .int 0, .int 0, .int 0, .int 0, .int 0, .int 0, .int 0, .int 0, .int 0, .int 0, .int 0, .long 0, .int 0, .ref v27, .ref v28, .ref v29, .ref v30, .ref v31, .ref v32, .ref v33, .ref v34, .ref v35, .ref v36, .ref v37, .int 0])), (v0, .inl (cA 0, 326, .inl fs))]) [0, 1] rfl
      have hDc := hD.sub (ws' := [(w0, .inr (11, [.ref v0, .ref v1, .ref v2, .ref v3, .ref v4, .long 0, .long 0, .int 0, .int 0, .ref v9, .int 0, .int 0, .int (-1), .ref v13, .int 0, .int 0, .int 0, .int 0, .int 0, .int 0, .int 0, .int 0, .int 0, .int 0, .int 0, .long 0, .int 0, .ref v27, .ref v28, .ref v29, .ref v30, .ref v31, .ref v32, .ref v33, .ref v34, .ref v35, .ref v36, .ref v37, .int 0])), (v0, .inl (cA 0, 326, .inl fs))]) [0, 1] (by decide) rfl
      have hFc := va_free (wc := [(w0, .inr (11, [.ref v0, .ref v1, .ref v2, .ref v3, .ref v4, .long 0, .long 0, .int 0, .int 0, .ref v9, .int 0, .int 0, .int (-1), .ref v13, .int 0, .int 0, .int 0, .int 0, .int 0, .int 0, .int 0, .int 0, .int 0, .int 0, .int 0, .long 0, .int 0, .ref v27, .ref v28, .ref v29, .ref v30, .ref v31, .ref v32, .ref v33, .ref v34, .ref v35, .ref v36, .ref v37, .int 0])), (v0, .inl (cA 0, 326, .inl fs))]) hD hS hA [0, 1] rfl
      refine va_callv (va_runV (As := []) (rest := []) ⟨hx, hb, hml, hown, hts⟩ (c_m_passDay l D cA sa w0 v0 v1 v2 v3 v4 v9 v13 v27 v28 v29 v30 v31 v32 v33 v34 v35 v36 v37 0 fs H.size hzd) (cwV 0 hts gX10_shortDay_X10_passDay rfl rfl rfl (by decide +kernel) ⟨(Nat.le_of_ble_eq_true rfl), (Nat.le_of_ble_eq_true rfl)⟩) ⟨Wd.blind, va_recv hK hPc (ci := 11) (q0 := 0) rfl rfl, fun U hU hW => ⟨rfl, Wd.call hPc hDc hK hC hZ hS hFc U hU hW⟩⟩ rfl rfl hl.1 rfl (lv_room (Nat.le_of_ble_eq_true rfl)) dX10_shortDay_32 ⟨(Nat.le_of_ble_eq_true rfl), (Nat.le_of_ble_eq_true rfl)⟩) hS (fun q _ h => hFc q h) hFc (fun u t H1 locs ht hvm hw hB hz1 hk1 hS => ?_)
      obtain ⟨fn9, hn10, hP1, hD1⟩ := hB
      rw [ht] at hP1
      obtain ⟨hP, hD⟩ := va_join (wr := [(v2, .inl (cA 0, 326, .inl fn4))]) (w1 := [(w0, .inr (11, [.ref v0, .ref v1, .ref v2, .ref v3, .ref v4, .long 0, .long 0, .int 0, .int 0, .ref v9, .int 0, .int 0, .int (-1), .ref v13, .int 0, .int 0, .int 0, .int 0, .int 0, .int 0, .int 0, .int 0, .int 0, .int 0, .int 0, .long 0, .int 0, .ref v27, .ref v28, .ref v29, .ref v30, .ref v31, .ref v32, .ref v33, .ref v34, .ref v35, .ref v36, .ref v37, .int 0])), (v0, .inl (cA 0, 326, .inl fn9))]) hP hD [0, 1] [2] rfl rfl (by decide) (by decide) hk1 hFc hP1 hD1
      generalize H1 = H at hP hS ⊢
      have hP : va_P D vwCl [(v2, .inl (cA 0, 326, .inl fn4)), (w0, .inr (11, [.ref v0, .ref v1, .ref v2, .ref v3, .ref v4, .long 0, .long 0, .int 0, .int 0, .ref v9, .int 0, .int 0, .int (-1), .ref v13, .int 0, .int 0, .int 0, .int 0, .int 0, .int 0, .int 0, .int 0, .int 0, .int 0, .int 0, .long 0, .int 0, .ref v27, .ref v28, .ref v29, .ref v30, .ref v31, .ref v32, .ref v33, .ref v34, .ref v35, .ref v36, .ref v37, .int 0])), (v0, .inl (cA 0, 326, .inl fn9))] H := hP
      have hD : va_D A [(v2, .inl (cA 0, 326, .inl fn4)), (w0, .inr (11, [.ref v0, .ref v1, .ref v2, .ref v3, .ref v4, .long 0, .long 0, .int 0, .int 0, .ref v9, .int 0, .int 0, .int (-1), .ref v13, .int 0, .int 0, .int 0, .int 0, .int 0, .int 0, .int 0, .int 0, .int 0, .int 0, .int 0, .long 0, .int 0, .ref v27, .ref v28, .ref v29, .ref v30, .ref v31, .ref v32, .ref v33, .ref v34, .ref v35, .ref v36, .ref v37, .int 0])), (v0, .inl (cA 0, 326, .inl fn9))] := hD
      refine lv_aload_n hx hb dX10_shortDay_35 rfl (lv_at hl 2 rfl) ?_
      have hPc := hP.sub (ws' := [(w0, .inr (11, [.ref v0, .ref v1, .ref v2, .ref v3, .ref v4, .long 0, .long 0, .int 0, .int 0, .ref v9, .int 0, .int 0, .int (-1), .ref v13, .int 0, .int 0, .int 0, .int 0, .int 0, .int 0, .int 0, .int 0, .int 0, .int 0, .int 0, .long 0, .int 0, .ref v27, .ref v28, .ref v29, .ref v30, .ref v31, .ref v32, .ref v33, .ref v34, .ref v35, .ref v36, .ref v37, .int 0])), (v0, .inl (cA 0, 326, .inl fn9))]) [1, 2] rfl
      have hDc := hD.sub (ws' := [(w0, .inr (11, [.ref v0, .ref v1, .ref v2, .ref v3, .ref v4, .long 0, .long 0, .int 0, .int 0, .ref v9, .int 0, .int 0, .int (-1), .ref v13, .int 0, .int 0, .int 0, .int 0, .int 0, .int 0, .int 0, .int 0, .int 0, .int 0, .int 0, .long 0, .int 0, .ref v27, .ref v28, .ref v29, .ref v30, .ref v31, .ref v32, .ref v33, .ref v34, .ref v35, .ref v36, .ref v37, .int 0])), (v0, .inl (cA 0, 326, .inl fn9))]) [1, 2] (by decide) rfl
      have hFc := va_free (wc := [(w0, .inr (11, [.ref v0, .ref v1, .ref v2, .ref v3, .ref v4, .long 0, .long 0, .int 0, .int 0, .ref v9, .int 0, .int 0, .int (-1), .ref v13, .int 0, .int 0, .int 0, .int 0, .int 0, .int 0, .int 0, .int 0, .int 0, .int 0, .int 0, .long 0, .int 0, .ref v27, .ref v28, .ref v29, .ref v30, .ref v31, .ref v32, .ref v33, .ref v34, .ref v35, .ref v36, .ref v37, .int 0])), (v0, .inl (cA 0, 326, .inl fn9))]) hD hS hA [1, 2] rfl
      refine va_calli (va_runV (As := []) (rest := []) ⟨hx, hb, hml, hown, hts⟩ (c_m_isShort l D cA sa w0 v0 v1 v2 v3 v4 v9 v13 v27 v28 v29 v30 v31 v32 v33 v34 v35 v36 v37 0 fn9 H.size hn10) (cwV 0 hts gX10_shortDay_X10_isShort rfl rfl rfl (by decide +kernel) ⟨(Nat.le_of_ble_eq_true rfl), (Nat.le_of_ble_eq_true rfl)⟩) ⟨Wd.blind, va_recv hK hPc (ci := 11) (q0 := 0) rfl rfl, fun U hU hW => ⟨rfl, Wd.call hPc hDc hK hC hZ hS hFc U hU hW⟩⟩ rfl rfl hl.1 rfl (lv_room (Nat.le_of_ble_eq_true rfl)) dX10_shortDay_36 ⟨(Nat.le_of_ble_eq_true rfl), (Nat.le_of_ble_eq_true rfl)⟩) hS (fun q _ h => hFc q h) hFc (fun rn11 u t H1 locs ht hvm hw hB hz1 hk1 hS => ?_)
      obtain ⟨hP1, hD1⟩ := hB
      rw [ht] at hP1
      obtain ⟨hP, hD⟩ := va_join (wr := [(v2, .inl (cA 0, 326, .inl fn4))]) (w1 := [(w0, .inr (11, [.ref v0, .ref v1, .ref v2, .ref v3, .ref v4, .long 0, .long 0, .int 0, .int 0, .ref v9, .int 0, .int 0, .int (-1), .ref v13, .int 0, .int 0, .int 0, .int 0, .int 0, .int 0, .int 0, .int 0, .int 0, .int 0, .int 0, .long 0, .int 0, .ref v27, .ref v28, .ref v29, .ref v30, .ref v31, .ref v32, .ref v33, .ref v34, .ref v35, .ref v36, .ref v37, .int 0])), (v0, .inl (cA 0, 326, .inl fn9))]) hP hD [1, 2] [0] rfl rfl (by decide) (by decide) hk1 hFc hP1 hD1
      generalize H1 = H at hP hS ⊢
      have hP : va_P D vwCl [(v2, .inl (cA 0, 326, .inl fn4)), (w0, .inr (11, [.ref v0, .ref v1, .ref v2, .ref v3, .ref v4, .long 0, .long 0, .int 0, .int 0, .ref v9, .int 0, .int 0, .int (-1), .ref v13, .int 0, .int 0, .int 0, .int 0, .int 0, .int 0, .int 0, .int 0, .int 0, .int 0, .int 0, .long 0, .int 0, .ref v27, .ref v28, .ref v29, .ref v30, .ref v31, .ref v32, .ref v33, .ref v34, .ref v35, .ref v36, .ref v37, .int 0])), (v0, .inl (cA 0, 326, .inl fn9))] H := hP
      have hD : va_D A [(v2, .inl (cA 0, 326, .inl fn4)), (w0, .inr (11, [.ref v0, .ref v1, .ref v2, .ref v3, .ref v4, .long 0, .long 0, .int 0, .int 0, .ref v9, .int 0, .int 0, .int (-1), .ref v13, .int 0, .int 0, .int 0, .int 0, .int 0, .int 0, .int 0, .int 0, .int 0, .int 0, .int 0, .long 0, .int 0, .ref v27, .ref v28, .ref v29, .ref v30, .ref v31, .ref v32, .ref v33, .ref v34, .ref v35, .ref v36, .ref v37, .int 0])), (v0, .inl (cA 0, 326, .inl fn9))] := hD
      obtain rfl : rn11 = 0 := hw
      refine lv_if_eq (tgt := 51) hx hb dX10_shortDay_39 (by decide) (fun c12 => ?_) (fun c9 => absurd c9 (by decide))
      refine lv_iconst (v := (-1)) hx hb dX10_shortDay_51 (by decide) ?_
      refine lv_istore_n (lv' := [(2, .int (-1)), (3, .int (nI i)), (0, .ref w0), (1, .int (nI N))]) hx hb dX10_shortDay_52 rfl hl (by decide) rfl (fun ls hl => ?_)
      refine lv_iinc (v := (nI (i + 1))) (lv' := [(3, .int (nI (i + 1))), (2, .int (-1)), (0, .ref w0), (1, .int (nI N))]) hx hb dX10_shortDay_53 hl (k := 1) rfl (nI_1 _) (by decide) rfl (fun ls hl => ?_)
      refine lv_goto (tgt := 21) hx hb dX10_shortDay_56 (by decide) ?_
      exact ih (i + 1) fn9 H _ ls (by omega) hn10 (hP.sub [1, 2, 0] rfl) (hD.sub [1, 2, 0] (by decide) rfl) hS (lv_sub hl [0, 1, 2, 3] rfl)
  exact loop N 0 fs9 _ _ ls (by omega) hz.d (hP.sub [0, 1, 2] rfl) (hD.sub [0, 1, 2] (by decide) rfl) hS (lv_sub hl [0, 1, 2, 3] rfl)

set_option maxHeartbeats 4000000 in
set_option maxRecDepth 100000 in
/-- paymentsAfter outside -/
theorem c_m_paymentsAfter_thr (l : Launch) (D : va_G) (cA : Nat → ClassId) (sa : Nat → Nat) (w0 v0 v1 v2 v3 v4 v9 v13 v27 v28 v29 v30 v31 v32 v33 v34 v35 v36 v37 : Nat) (th : Int32) (fs : Nat → Int32) (i : Int32) (sz : Nat) (hz : Zs fs) (h : i < 1 ∨ 120 < i) : Met l yX10_paymentsAfter wsX10_paymentsAfter ({ frames := 2, cells := 0, slots := 0, locals := 45 }) (va_Pc [.ref w0, .int i] (Wd D cA sa [(w0, .inr (11, [.ref v0, .ref v1, .ref v2, .ref v3, .ref v4, .long 0, .long 0, .int 0, .int th, .ref v9, .int 0, .int 0, .int (-1), .ref v13, .int 0, .int 0, .int 0, .int 0, .int 0, .int 0, .int 0, .int 0, .int 0, .int 0, .int 0, .long 0, .int 0, .ref v27, .ref v28, .ref v29, .ref v30, .ref v31, .ref v32, .ref v33, .ref v34, .ref v35, .ref v36, .ref v37, .int 0])), (v0, .inl (cA 0, 326, .inl fs))] sz)) (va_Qi (fun (r : Int32) (_ : Unit) => r = 0) (fun (_ : Unit) t => Wq D (va_A [(w0, .inr (11, [.ref v0, .ref v1, .ref v2, .ref v3, .ref v4, .long 0, .long 0, .int 0, .int th, .ref v9, .int 0, .int 0, .int (-1), .ref v13, .int 0, .int 0, .int 0, .int 0, .int 0, .int 0, .int 0, .int 0, .int 0, .int 0, .int 0, .long 0, .int 0, .ref v27, .ref v28, .ref v29, .ref v30, .ref v31, .ref v32, .ref v33, .ref v34, .ref v35, .ref v36, .ref v37, .int 0])), (v0, .inl (cA 0, 326, .inl fs))] sz) [(w0, .inr (11, [.ref v0, .ref v1, .ref v2, .ref v3, .ref v4, .long 0, .long 0, .int 0, .int 1, .ref v9, .int 0, .int 0, .int (-1), .ref v13, .int 0, .int 0, .int 0, .int 0, .int 0, .int 0, .int 0, .int 0, .int 0, .int 0, .int 0, .long 0, .int 0, .ref v27, .ref v28, .ref v29, .ref v30, .ref v31, .ref v32, .ref v33, .ref v34, .ref v35, .ref v36, .ref v37, .int 0]))] t) (va_A [(w0, .inr (11, [.ref v0, .ref v1, .ref v2, .ref v3, .ref v4, .long 0, .long 0, .int 0, .int th, .ref v9, .int 0, .int 0, .int (-1), .ref v13, .int 0, .int 0, .int 0, .int 0, .int 0, .int 0, .int 0, .int 0, .int 0, .int 0, .int 0, .long 0, .int 0, .ref v27, .ref v28, .ref v29, .ref v30, .ref v31, .ref v32, .ref v33, .ref v34, .ref v35, .ref v36, .ref v37, .int 0])), (v0, .inl (cA 0, 326, .inl fs))] sz)) 0 0 (va_A [(w0, .inr (11, [.ref v0, .ref v1, .ref v2, .ref v3, .ref v4, .long 0, .long 0, .int 0, .int th, .ref v9, .int 0, .int 0, .int (-1), .ref v13, .int 0, .int 0, .int 0, .int 0, .int 0, .int 0, .int 0, .int 0, .int 0, .int 0, .int 0, .long 0, .int 0, .ref v27, .ref v28, .ref v29, .ref v30, .ref v31, .ref v32, .ref v33, .ref v34, .ref v35, .ref v36, .ref v37, .int 0])), (v0, .inl (cA 0, 326, .inl fs))] sz) := by
  refine Met.ofW (cc := cX10_paymentsAfter) (maxL := 3) (ret := (some .int)) (by decide) rfl ?_
  intro p e s m args below meth c s₁ B hml hv
  obtain ⟨rfl, hsz, hP, hK, hD0, hC, hZ⟩ := hv
  have hx := B.exec
  have hb := B.bytes
  have hr := B.returns
  have hts := atoms_spec (ws := wsX10_paymentsAfter) B.pre
  have hown : s.vm.findClass RX10 = some m.cls := findClass_of_methodNamed B.named
  have hlocks := B.notSynchronized
  subst hsz
  have hD := hD0.self (sz := s.heap.size)
  generalize hAe : va_A [(w0, .inr (11, [.ref v0, .ref v1, .ref v2, .ref v3, .ref v4, .long 0, .long 0, .int 0, .int th, .ref v9, .int 0, .int 0, .int (-1), .ref v13, .int 0, .int 0, .int 0, .int 0, .int 0, .int 0, .int 0, .int 0, .int 0, .int 0, .int 0, .long 0, .int 0, .ref v27, .ref v28, .ref v29, .ref v30, .ref v31, .ref v32, .ref v33, .ref v34, .ref v35, .ref v36, .ref v37, .int 0])), (v0, .inl (cA 0, 326, .inl fs))] s.heap.size = A at hD hZ ⊢
  have hA : ∀ q : Nat, s.heap.size ≤ q → A q := fun q h => by rw [← hAe]; exact Or.inr h
  have hS : va_S A s.heap s.heap [] := va_S.rf
  have hP : va_P D vwCl [(w0, .inr (11, [.ref v0, .ref v1, .ref v2, .ref v3, .ref v4, .long 0, .long 0, .int 0, .int th, .ref v9, .int 0, .int 0, .int (-1), .ref v13, .int 0, .int 0, .int 0, .int 0, .int 0, .int 0, .int 0, .int 0, .int 0, .int 0, .int 0, .long 0, .int 0, .ref v27, .ref v28, .ref v29, .ref v30, .ref v31, .ref v32, .ref v33, .ref v34, .ref v35, .ref v36, .ref v37, .int 0])), (v0, .inl (cA 0, 326, .inl fs))] s.heap := hP
  have hl := lv_entry ([.ref w0, .int i]) (n := 3) (Nat.le_of_ble_eq_true rfl)
  rw [lg_entry_eq]
  generalize (lg_sl ([.ref w0, .int i]) ++ List.replicate (3 - (lg_sl ([.ref w0, .int i])).length) Slot.unset).toArray = ls at hl ⊢
  have hl : lv_has ls 3 [(0, .ref w0), (1, .int i)] := hl
  refine lv_aload_n hx hb dX10_paymentsAfter_0 rfl (lv_at hl 0 rfl) ?_
  refine lv_iload_n hx hb dX10_paymentsAfter_1 rfl (lv_at hl 1 rfl) ?_
  have hPc := hP.sub (ws' := []) [] rfl
  have hDc := hD.sub (ws' := []) [] (by decide) rfl
  have hFc := va_free (wc := []) hD hS hA [] rfl
  refine va_calli (va_runS (As := [.int i]) (rest := [.ref w0]) ⟨hx, hb, hml, hown, hts⟩ (c_m_isTrial_f l D cA sa i s.heap.size h) (va_cwS 1 hts gX10_paymentsAfter_X10_isTrial rfl rfl rfl (by decide +kernel) ⟨(Nat.le_of_ble_eq_true rfl), (Nat.le_of_ble_eq_true rfl)⟩) ⟨Wd.blind, fun U hU hW => ⟨rfl, Wd.call hPc hDc hK hC hZ hS hFc U hU hW⟩⟩ rfl rfl hl.1 rfl (lv_room (Nat.le_of_ble_eq_true rfl)) dX10_paymentsAfter_2 ⟨(Nat.le_of_ble_eq_true rfl), (Nat.le_of_ble_eq_true rfl)⟩) hS (fun q _ h => hFc q h) hFc (fun rn1 u t H1 locs ht hvm hw hB hz1 hk1 hS => ?_)
  obtain ⟨hP1, hD1⟩ := hB
  rw [ht] at hP1
  obtain ⟨hP, hD⟩ := va_join (wr := [(w0, .inr (11, [.ref v0, .ref v1, .ref v2, .ref v3, .ref v4, .long 0, .long 0, .int 0, .int th, .ref v9, .int 0, .int 0, .int (-1), .ref v13, .int 0, .int 0, .int 0, .int 0, .int 0, .int 0, .int 0, .int 0, .int 0, .int 0, .int 0, .long 0, .int 0, .ref v27, .ref v28, .ref v29, .ref v30, .ref v31, .ref v32, .ref v33, .ref v34, .ref v35, .ref v36, .ref v37, .int 0])), (v0, .inl (cA 0, 326, .inl fs))]) (w1 := []) hP hD [] [0, 1] rfl rfl (by decide) (by decide) hk1 hFc hP1 hD1
  generalize H1 = H at hP hS ⊢
  have hP : va_P D vwCl [(w0, .inr (11, [.ref v0, .ref v1, .ref v2, .ref v3, .ref v4, .long 0, .long 0, .int 0, .int th, .ref v9, .int 0, .int 0, .int (-1), .ref v13, .int 0, .int 0, .int 0, .int 0, .int 0, .int 0, .int 0, .int 0, .int 0, .int 0, .int 0, .long 0, .int 0, .ref v27, .ref v28, .ref v29, .ref v30, .ref v31, .ref v32, .ref v33, .ref v34, .ref v35, .ref v36, .ref v37, .int 0])), (v0, .inl (cA 0, 326, .inl fs))] H := hP
  have hD : va_D A [(w0, .inr (11, [.ref v0, .ref v1, .ref v2, .ref v3, .ref v4, .long 0, .long 0, .int 0, .int th, .ref v9, .int 0, .int 0, .int (-1), .ref v13, .int 0, .int 0, .int 0, .int 0, .int 0, .int 0, .int 0, .int 0, .int 0, .int 0, .int 0, .long 0, .int 0, .ref v27, .ref v28, .ref v29, .ref v30, .ref v31, .ref v32, .ref v33, .ref v34, .ref v35, .ref v36, .ref v37, .int 0])), (v0, .inl (cA 0, 326, .inl fs))] := hD
  obtain rfl : rn1 = 0 := hw
  have hPc := hP.sub (ws' := [(w0, .inr (11, [.ref v0, .ref v1, .ref v2, .ref v3, .ref v4, .long 0, .long 0, .int 0, .int th, .ref v9, .int 0, .int 0, .int (-1), .ref v13, .int 0, .int 0, .int 0, .int 0, .int 0, .int 0, .int 0, .int 0, .int 0, .int 0, .int 0, .long 0, .int 0, .ref v27, .ref v28, .ref v29, .ref v30, .ref v31, .ref v32, .ref v33, .ref v34, .ref v35, .ref v36, .ref v37, .int 0]))]) [0] rfl
  have hDc := hD.sub (ws' := [(w0, .inr (11, [.ref v0, .ref v1, .ref v2, .ref v3, .ref v4, .long 0, .long 0, .int 0, .int th, .ref v9, .int 0, .int 0, .int (-1), .ref v13, .int 0, .int 0, .int 0, .int 0, .int 0, .int 0, .int 0, .int 0, .int 0, .int 0, .int 0, .long 0, .int 0, .ref v27, .ref v28, .ref v29, .ref v30, .ref v31, .ref v32, .ref v33, .ref v34, .ref v35, .ref v36, .ref v37, .int 0]))]) [0] (by decide) rfl
  have hFc := va_free (wc := [(w0, .inr (11, [.ref v0, .ref v1, .ref v2, .ref v3, .ref v4, .long 0, .long 0, .int 0, .int th, .ref v9, .int 0, .int 0, .int (-1), .ref v13, .int 0, .int 0, .int 0, .int 0, .int 0, .int 0, .int 0, .int 0, .int 0, .int 0, .int 0, .long 0, .int 0, .ref v27, .ref v28, .ref v29, .ref v30, .ref v31, .ref v32, .ref v33, .ref v34, .ref v35, .ref v36, .ref v37, .int 0]))]) hD hS hA [0] rfl
  refine va_calli (va_runV (As := [.int 0]) (rest := []) ⟨hx, hb, hml, hown, hts⟩ (c_m_good_0 l D cA sa w0 v0 v1 v2 v3 v4 v9 v13 v27 v28 v29 v30 v31 v32 v33 v34 v35 v36 v37 th H.size) (cwV 1 hts gX10_paymentsAfter_X10_good rfl rfl rfl (by decide +kernel) ⟨(Nat.le_of_ble_eq_true rfl), (Nat.le_of_ble_eq_true rfl)⟩) ⟨Wd.blind, va_recv hK hPc (ci := 11) (q0 := 0) rfl rfl, fun U hU hW => ⟨rfl, Wd.call hPc hDc hK hC hZ hS hFc U hU hW⟩⟩ rfl rfl hl.1 rfl (lv_room (Nat.le_of_ble_eq_true rfl)) dX10_paymentsAfter_5 ⟨(Nat.le_of_ble_eq_true rfl), (Nat.le_of_ble_eq_true rfl)⟩) hS (fun q _ h => hFc q h) hFc (fun rn2 u t H1 locs ht hvm hw hB hz1 hk1 hS => ?_)
  obtain ⟨hP1, hD1⟩ := hB
  rw [ht] at hP1
  obtain ⟨hP, hD⟩ := va_join (wr := [(v0, .inl (cA 0, 326, .inl fs))]) (w1 := [(w0, .inr (11, [.ref v0, .ref v1, .ref v2, .ref v3, .ref v4, .long 0, .long 0, .int 0, .int 1, .ref v9, .int 0, .int 0, .int (-1), .ref v13, .int 0, .int 0, .int 0, .int 0, .int 0, .int 0, .int 0, .int 0, .int 0, .int 0, .int 0, .long 0, .int 0, .ref v27, .ref v28, .ref v29, .ref v30, .ref v31, .ref v32, .ref v33, .ref v34, .ref v35, .ref v36, .ref v37, .int 0]))]) hP hD [0] [1] rfl rfl (by decide) (by decide) hk1 hFc hP1 hD1
  generalize H1 = H at hP hS ⊢
  have hP : va_P D vwCl [(v0, .inl (cA 0, 326, .inl fs)), (w0, .inr (11, [.ref v0, .ref v1, .ref v2, .ref v3, .ref v4, .long 0, .long 0, .int 0, .int 1, .ref v9, .int 0, .int 0, .int (-1), .ref v13, .int 0, .int 0, .int 0, .int 0, .int 0, .int 0, .int 0, .int 0, .int 0, .int 0, .int 0, .long 0, .int 0, .ref v27, .ref v28, .ref v29, .ref v30, .ref v31, .ref v32, .ref v33, .ref v34, .ref v35, .ref v36, .ref v37, .int 0]))] H := hP
  have hD : va_D A [(v0, .inl (cA 0, 326, .inl fs)), (w0, .inr (11, [.ref v0, .ref v1, .ref v2, .ref v3, .ref v4, .long 0, .long 0, .int 0, .int 1, .ref v9, .int 0, .int 0, .int (-1), .ref v13, .int 0, .int 0, .int 0, .int 0, .int 0, .int 0, .int 0, .int 0, .int 0, .int 0, .int 0, .long 0, .int 0, .ref v27, .ref v28, .ref v29, .ref v30, .ref v31, .ref v32, .ref v33, .ref v34, .ref v35, .ref v36, .ref v37, .int 0]))] := hD
  obtain rfl : rn2 = 0 := hw
  refine lv_if_ne (tgt := 13) hx hb dX10_paymentsAfter_8 (by decide) (fun c9 => absurd c9 (by decide)) (fun c3 => ?_)
  refine lv_iconst (v := 0) hx hb dX10_paymentsAfter_11 (by decide) ?_
  have hP9 := hP.sub (ws' := [(w0, .inr (11, [.ref v0, .ref v1, .ref v2, .ref v3, .ref v4, .long 0, .long 0, .int 0, .int 1, .ref v9, .int 0, .int 0, .int (-1), .ref v13, .int 0, .int 0, .int 0, .int 0, .int 0, .int 0, .int 0, .int 0, .int 0, .int 0, .int 0, .long 0, .int 0, .ref v27, .ref v28, .ref v29, .ref v30, .ref v31, .ref v32, .ref v33, .ref v34, .ref v35, .ref v36, .ref v37, .int 0]))]) [1] rfl
  have hD9 := hD.sub (ws' := [(w0, .inr (11, [.ref v0, .ref v1, .ref v2, .ref v3, .ref v4, .long 0, .long 0, .int 0, .int 1, .ref v9, .int 0, .int 0, .int (-1), .ref v13, .int 0, .int 0, .int 0, .int 0, .int 0, .int 0, .int 0, .int 0, .int 0, .int 0, .int 0, .long 0, .int 0, .ref v27, .ref v28, .ref v29, .ref v30, .ref v31, .ref v32, .ref v33, .ref v34, .ref v35, .ref v36, .ref v37, .int 0]))]) [1] (by decide) rfl
  refine W.widen (k := 0) (n := 0) (Nat.le_of_ble_eq_true rfl) (Nat.le_of_ble_eq_true rfl) ?_
  exact W.iret (v := 0) hx hb hr (fun t ht hW => ⟨⟨0, (), rfl, rfl, by rw [ht]; exact hP9, hD9⟩, hS.F ht⟩) hS.2.2 dX10_paymentsAfter_12

set_option maxHeartbeats 4000000 in
set_option maxRecDepth 100000 in
/-- creditedAfter outside -/
theorem c_m_creditedAfter_thr (l : Launch) (D : va_G) (cA : Nat → ClassId) (sa : Nat → Nat) (w0 v0 v1 v2 v3 v4 v9 v13 v27 v28 v29 v30 v31 v32 v33 v34 v35 v36 v37 : Nat) (th : Int32) (fs : Nat → Int32) (i : Int32) (sz : Nat) (hz : Zs fs) (h : i < 1 ∨ 120 < i) : Met l yX10_creditedAfter wsX10_creditedAfter ({ frames := 2, cells := 0, slots := 0, locals := 45 }) (va_Pc [.ref w0, .int i] (Wd D cA sa [(w0, .inr (11, [.ref v0, .ref v1, .ref v2, .ref v3, .ref v4, .long 0, .long 0, .int 0, .int th, .ref v9, .int 0, .int 0, .int (-1), .ref v13, .int 0, .int 0, .int 0, .int 0, .int 0, .int 0, .int 0, .int 0, .int 0, .int 0, .int 0, .long 0, .int 0, .ref v27, .ref v28, .ref v29, .ref v30, .ref v31, .ref v32, .ref v33, .ref v34, .ref v35, .ref v36, .ref v37, .int 0])), (v0, .inl (cA 0, 326, .inl fs))] sz)) (va_Qi (fun (r : Int32) (_ : Unit) => r = 0) (fun (_ : Unit) t => Wq D (va_A [(w0, .inr (11, [.ref v0, .ref v1, .ref v2, .ref v3, .ref v4, .long 0, .long 0, .int 0, .int th, .ref v9, .int 0, .int 0, .int (-1), .ref v13, .int 0, .int 0, .int 0, .int 0, .int 0, .int 0, .int 0, .int 0, .int 0, .int 0, .int 0, .long 0, .int 0, .ref v27, .ref v28, .ref v29, .ref v30, .ref v31, .ref v32, .ref v33, .ref v34, .ref v35, .ref v36, .ref v37, .int 0])), (v0, .inl (cA 0, 326, .inl fs))] sz) [(w0, .inr (11, [.ref v0, .ref v1, .ref v2, .ref v3, .ref v4, .long 0, .long 0, .int 0, .int 1, .ref v9, .int 0, .int 0, .int (-1), .ref v13, .int 0, .int 0, .int 0, .int 0, .int 0, .int 0, .int 0, .int 0, .int 0, .int 0, .int 0, .long 0, .int 0, .ref v27, .ref v28, .ref v29, .ref v30, .ref v31, .ref v32, .ref v33, .ref v34, .ref v35, .ref v36, .ref v37, .int 0]))] t) (va_A [(w0, .inr (11, [.ref v0, .ref v1, .ref v2, .ref v3, .ref v4, .long 0, .long 0, .int 0, .int th, .ref v9, .int 0, .int 0, .int (-1), .ref v13, .int 0, .int 0, .int 0, .int 0, .int 0, .int 0, .int 0, .int 0, .int 0, .int 0, .int 0, .long 0, .int 0, .ref v27, .ref v28, .ref v29, .ref v30, .ref v31, .ref v32, .ref v33, .ref v34, .ref v35, .ref v36, .ref v37, .int 0])), (v0, .inl (cA 0, 326, .inl fs))] sz)) 0 0 (va_A [(w0, .inr (11, [.ref v0, .ref v1, .ref v2, .ref v3, .ref v4, .long 0, .long 0, .int 0, .int th, .ref v9, .int 0, .int 0, .int (-1), .ref v13, .int 0, .int 0, .int 0, .int 0, .int 0, .int 0, .int 0, .int 0, .int 0, .int 0, .int 0, .long 0, .int 0, .ref v27, .ref v28, .ref v29, .ref v30, .ref v31, .ref v32, .ref v33, .ref v34, .ref v35, .ref v36, .ref v37, .int 0])), (v0, .inl (cA 0, 326, .inl fs))] sz) := by
  refine Met.ofW (cc := cX10_creditedAfter) (maxL := 3) (ret := (some .int)) (by decide) rfl ?_
  intro p e s m args below meth c s₁ B hml hv
  obtain ⟨rfl, hsz, hP, hK, hD0, hC, hZ⟩ := hv
  have hx := B.exec
  have hb := B.bytes
  have hr := B.returns
  have hts := atoms_spec (ws := wsX10_creditedAfter) B.pre
  have hown : s.vm.findClass RX10 = some m.cls := findClass_of_methodNamed B.named
  have hlocks := B.notSynchronized
  subst hsz
  have hD := hD0.self (sz := s.heap.size)
  generalize hAe : va_A [(w0, .inr (11, [.ref v0, .ref v1, .ref v2, .ref v3, .ref v4, .long 0, .long 0, .int 0, .int th, .ref v9, .int 0, .int 0, .int (-1), .ref v13, .int 0, .int 0, .int 0, .int 0, .int 0, .int 0, .int 0, .int 0, .int 0, .int 0, .int 0, .long 0, .int 0, .ref v27, .ref v28, .ref v29, .ref v30, .ref v31, .ref v32, .ref v33, .ref v34, .ref v35, .ref v36, .ref v37, .int 0])), (v0, .inl (cA 0, 326, .inl fs))] s.heap.size = A at hD hZ ⊢
  have hA : ∀ q : Nat, s.heap.size ≤ q → A q := fun q h => by rw [← hAe]; exact Or.inr h
  have hS : va_S A s.heap s.heap [] := va_S.rf
  have hP : va_P D vwCl [(w0, .inr (11, [.ref v0, .ref v1, .ref v2, .ref v3, .ref v4, .long 0, .long 0, .int 0, .int th, .ref v9, .int 0, .int 0, .int (-1), .ref v13, .int 0, .int 0, .int 0, .int 0, .int 0, .int 0, .int 0, .int 0, .int 0, .int 0, .int 0, .long 0, .int 0, .ref v27, .ref v28, .ref v29, .ref v30, .ref v31, .ref v32, .ref v33, .ref v34, .ref v35, .ref v36, .ref v37, .int 0])), (v0, .inl (cA 0, 326, .inl fs))] s.heap := hP
  have hl := lv_entry ([.ref w0, .int i]) (n := 3) (Nat.le_of_ble_eq_true rfl)
  rw [lg_entry_eq]
  generalize (lg_sl ([.ref w0, .int i]) ++ List.replicate (3 - (lg_sl ([.ref w0, .int i])).length) Slot.unset).toArray = ls at hl ⊢
  have hl : lv_has ls 3 [(0, .ref w0), (1, .int i)] := hl
  refine lv_aload_n hx hb dX10_creditedAfter_0 rfl (lv_at hl 0 rfl) ?_
  refine lv_iload_n hx hb dX10_creditedAfter_1 rfl (lv_at hl 1 rfl) ?_
  have hPc := hP.sub (ws' := []) [] rfl
  have hDc := hD.sub (ws' := []) [] (by decide) rfl
  have hFc := va_free (wc := []) hD hS hA [] rfl
  refine va_calli (va_runS (As := [.int i]) (rest := [.ref w0]) ⟨hx, hb, hml, hown, hts⟩ (c_m_isTrial_f l D cA sa i s.heap.size h) (va_cwS 1 hts gX10_creditedAfter_X10_isTrial rfl rfl rfl (by decide +kernel) ⟨(Nat.le_of_ble_eq_true rfl), (Nat.le_of_ble_eq_true rfl)⟩) ⟨Wd.blind, fun U hU hW => ⟨rfl, Wd.call hPc hDc hK hC hZ hS hFc U hU hW⟩⟩ rfl rfl hl.1 rfl (lv_room (Nat.le_of_ble_eq_true rfl)) dX10_creditedAfter_2 ⟨(Nat.le_of_ble_eq_true rfl), (Nat.le_of_ble_eq_true rfl)⟩) hS (fun q _ h => hFc q h) hFc (fun rn1 u t H1 locs ht hvm hw hB hz1 hk1 hS => ?_)
  obtain ⟨hP1, hD1⟩ := hB
  rw [ht] at hP1
  obtain ⟨hP, hD⟩ := va_join (wr := [(w0, .inr (11, [.ref v0, .ref v1, .ref v2, .ref v3, .ref v4, .long 0, .long 0, .int 0, .int th, .ref v9, .int 0, .int 0, .int (-1), .ref v13, .int 0, .int 0, .int 0, .int 0, .int 0, .int 0, .int 0, .int 0, .int 0, .int 0, .int 0, .long 0, .int 0, .ref v27, .ref v28, .ref v29, .ref v30, .ref v31, .ref v32, .ref v33, .ref v34, .ref v35, .ref v36, .ref v37, .int 0])), (v0, .inl (cA 0, 326, .inl fs))]) (w1 := []) hP hD [] [0, 1] rfl rfl (by decide) (by decide) hk1 hFc hP1 hD1
  generalize H1 = H at hP hS ⊢
  have hP : va_P D vwCl [(w0, .inr (11, [.ref v0, .ref v1, .ref v2, .ref v3, .ref v4, .long 0, .long 0, .int 0, .int th, .ref v9, .int 0, .int 0, .int (-1), .ref v13, .int 0, .int 0, .int 0, .int 0, .int 0, .int 0, .int 0, .int 0, .int 0, .int 0, .int 0, .long 0, .int 0, .ref v27, .ref v28, .ref v29, .ref v30, .ref v31, .ref v32, .ref v33, .ref v34, .ref v35, .ref v36, .ref v37, .int 0])), (v0, .inl (cA 0, 326, .inl fs))] H := hP
  have hD : va_D A [(w0, .inr (11, [.ref v0, .ref v1, .ref v2, .ref v3, .ref v4, .long 0, .long 0, .int 0, .int th, .ref v9, .int 0, .int 0, .int (-1), .ref v13, .int 0, .int 0, .int 0, .int 0, .int 0, .int 0, .int 0, .int 0, .int 0, .int 0, .int 0, .long 0, .int 0, .ref v27, .ref v28, .ref v29, .ref v30, .ref v31, .ref v32, .ref v33, .ref v34, .ref v35, .ref v36, .ref v37, .int 0])), (v0, .inl (cA 0, 326, .inl fs))] := hD
  obtain rfl : rn1 = 0 := hw
  have hPc := hP.sub (ws' := [(w0, .inr (11, [.ref v0, .ref v1, .ref v2, .ref v3, .ref v4, .long 0, .long 0, .int 0, .int th, .ref v9, .int 0, .int 0, .int (-1), .ref v13, .int 0, .int 0, .int 0, .int 0, .int 0, .int 0, .int 0, .int 0, .int 0, .int 0, .int 0, .long 0, .int 0, .ref v27, .ref v28, .ref v29, .ref v30, .ref v31, .ref v32, .ref v33, .ref v34, .ref v35, .ref v36, .ref v37, .int 0]))]) [0] rfl
  have hDc := hD.sub (ws' := [(w0, .inr (11, [.ref v0, .ref v1, .ref v2, .ref v3, .ref v4, .long 0, .long 0, .int 0, .int th, .ref v9, .int 0, .int 0, .int (-1), .ref v13, .int 0, .int 0, .int 0, .int 0, .int 0, .int 0, .int 0, .int 0, .int 0, .int 0, .int 0, .long 0, .int 0, .ref v27, .ref v28, .ref v29, .ref v30, .ref v31, .ref v32, .ref v33, .ref v34, .ref v35, .ref v36, .ref v37, .int 0]))]) [0] (by decide) rfl
  have hFc := va_free (wc := [(w0, .inr (11, [.ref v0, .ref v1, .ref v2, .ref v3, .ref v4, .long 0, .long 0, .int 0, .int th, .ref v9, .int 0, .int 0, .int (-1), .ref v13, .int 0, .int 0, .int 0, .int 0, .int 0, .int 0, .int 0, .int 0, .int 0, .int 0, .int 0, .long 0, .int 0, .ref v27, .ref v28, .ref v29, .ref v30, .ref v31, .ref v32, .ref v33, .ref v34, .ref v35, .ref v36, .ref v37, .int 0]))]) hD hS hA [0] rfl
  refine va_calli (va_runV (As := [.int 0]) (rest := []) ⟨hx, hb, hml, hown, hts⟩ (c_m_good_0 l D cA sa w0 v0 v1 v2 v3 v4 v9 v13 v27 v28 v29 v30 v31 v32 v33 v34 v35 v36 v37 th H.size) (cwV 1 hts gX10_creditedAfter_X10_good rfl rfl rfl (by decide +kernel) ⟨(Nat.le_of_ble_eq_true rfl), (Nat.le_of_ble_eq_true rfl)⟩) ⟨Wd.blind, va_recv hK hPc (ci := 11) (q0 := 0) rfl rfl, fun U hU hW => ⟨rfl, Wd.call hPc hDc hK hC hZ hS hFc U hU hW⟩⟩ rfl rfl hl.1 rfl (lv_room (Nat.le_of_ble_eq_true rfl)) dX10_creditedAfter_5 ⟨(Nat.le_of_ble_eq_true rfl), (Nat.le_of_ble_eq_true rfl)⟩) hS (fun q _ h => hFc q h) hFc (fun rn2 u t H1 locs ht hvm hw hB hz1 hk1 hS => ?_)
  obtain ⟨hP1, hD1⟩ := hB
  rw [ht] at hP1
  obtain ⟨hP, hD⟩ := va_join (wr := [(v0, .inl (cA 0, 326, .inl fs))]) (w1 := [(w0, .inr (11, [.ref v0, .ref v1, .ref v2, .ref v3, .ref v4, .long 0, .long 0, .int 0, .int 1, .ref v9, .int 0, .int 0, .int (-1), .ref v13, .int 0, .int 0, .int 0, .int 0, .int 0, .int 0, .int 0, .int 0, .int 0, .int 0, .int 0, .long 0, .int 0, .ref v27, .ref v28, .ref v29, .ref v30, .ref v31, .ref v32, .ref v33, .ref v34, .ref v35, .ref v36, .ref v37, .int 0]))]) hP hD [0] [1] rfl rfl (by decide) (by decide) hk1 hFc hP1 hD1
  generalize H1 = H at hP hS ⊢
  have hP : va_P D vwCl [(v0, .inl (cA 0, 326, .inl fs)), (w0, .inr (11, [.ref v0, .ref v1, .ref v2, .ref v3, .ref v4, .long 0, .long 0, .int 0, .int 1, .ref v9, .int 0, .int 0, .int (-1), .ref v13, .int 0, .int 0, .int 0, .int 0, .int 0, .int 0, .int 0, .int 0, .int 0, .int 0, .int 0, .long 0, .int 0, .ref v27, .ref v28, .ref v29, .ref v30, .ref v31, .ref v32, .ref v33, .ref v34, .ref v35, .ref v36, .ref v37, .int 0]))] H := hP
  have hD : va_D A [(v0, .inl (cA 0, 326, .inl fs)), (w0, .inr (11, [.ref v0, .ref v1, .ref v2, .ref v3, .ref v4, .long 0, .long 0, .int 0, .int 1, .ref v9, .int 0, .int 0, .int (-1), .ref v13, .int 0, .int 0, .int 0, .int 0, .int 0, .int 0, .int 0, .int 0, .int 0, .int 0, .int 0, .long 0, .int 0, .ref v27, .ref v28, .ref v29, .ref v30, .ref v31, .ref v32, .ref v33, .ref v34, .ref v35, .ref v36, .ref v37, .int 0]))] := hD
  obtain rfl : rn2 = 0 := hw
  refine lv_if_ne (tgt := 13) hx hb dX10_creditedAfter_8 (by decide) (fun c9 => absurd c9 (by decide)) (fun c3 => ?_)
  refine lv_iconst (v := 0) hx hb dX10_creditedAfter_11 (by decide) ?_
  have hP9 := hP.sub (ws' := [(w0, .inr (11, [.ref v0, .ref v1, .ref v2, .ref v3, .ref v4, .long 0, .long 0, .int 0, .int 1, .ref v9, .int 0, .int 0, .int (-1), .ref v13, .int 0, .int 0, .int 0, .int 0, .int 0, .int 0, .int 0, .int 0, .int 0, .int 0, .int 0, .long 0, .int 0, .ref v27, .ref v28, .ref v29, .ref v30, .ref v31, .ref v32, .ref v33, .ref v34, .ref v35, .ref v36, .ref v37, .int 0]))]) [1] rfl
  have hD9 := hD.sub (ws' := [(w0, .inr (11, [.ref v0, .ref v1, .ref v2, .ref v3, .ref v4, .long 0, .long 0, .int 0, .int 1, .ref v9, .int 0, .int 0, .int (-1), .ref v13, .int 0, .int 0, .int 0, .int 0, .int 0, .int 0, .int 0, .int 0, .int 0, .int 0, .int 0, .long 0, .int 0, .ref v27, .ref v28, .ref v29, .ref v30, .ref v31, .ref v32, .ref v33, .ref v34, .ref v35, .ref v36, .ref v37, .int 0]))]) [1] (by decide) rfl
  refine W.widen (k := 0) (n := 0) (Nat.le_of_ble_eq_true rfl) (Nat.le_of_ble_eq_true rfl) ?_
  exact W.iret (v := 0) hx hb hr (fun t ht hW => ⟨⟨0, (), rfl, rfl, by rw [ht]; exact hP9, hD9⟩, hS.F ht⟩) hS.2.2 dX10_creditedAfter_12

set_option maxHeartbeats 4000000 in
set_option maxRecDepth 100000 in
/-- shortDay outside -/
theorem c_m_shortDay_thr (l : Launch) (D : va_G) (cA : Nat → ClassId) (sa : Nat → Nat) (w0 v0 v1 v2 v3 v4 v9 v13 v27 v28 v29 v30 v31 v32 v33 v34 v35 v36 v37 : Nat) (th : Int32) (fs : Nat → Int32) (i : Int32) (sz : Nat) (hz : Zs fs) (h : i < 1 ∨ 120 < i) : Met l yX10_shortDay wsX10_shortDay ({ frames := 2, cells := 0, slots := 0, locals := 45 }) (va_Pc [.ref w0, .int i] (Wd D cA sa [(w0, .inr (11, [.ref v0, .ref v1, .ref v2, .ref v3, .ref v4, .long 0, .long 0, .int 0, .int th, .ref v9, .int 0, .int 0, .int (-1), .ref v13, .int 0, .int 0, .int 0, .int 0, .int 0, .int 0, .int 0, .int 0, .int 0, .int 0, .int 0, .long 0, .int 0, .ref v27, .ref v28, .ref v29, .ref v30, .ref v31, .ref v32, .ref v33, .ref v34, .ref v35, .ref v36, .ref v37, .int 0])), (v0, .inl (cA 0, 326, .inl fs))] sz)) (va_Qi (fun (r : Int32) (_ : Unit) => r = 0) (fun (_ : Unit) t => Wq D (va_A [(w0, .inr (11, [.ref v0, .ref v1, .ref v2, .ref v3, .ref v4, .long 0, .long 0, .int 0, .int th, .ref v9, .int 0, .int 0, .int (-1), .ref v13, .int 0, .int 0, .int 0, .int 0, .int 0, .int 0, .int 0, .int 0, .int 0, .int 0, .int 0, .long 0, .int 0, .ref v27, .ref v28, .ref v29, .ref v30, .ref v31, .ref v32, .ref v33, .ref v34, .ref v35, .ref v36, .ref v37, .int 0])), (v0, .inl (cA 0, 326, .inl fs))] sz) [(w0, .inr (11, [.ref v0, .ref v1, .ref v2, .ref v3, .ref v4, .long 0, .long 0, .int 0, .int 1, .ref v9, .int 0, .int 0, .int (-1), .ref v13, .int 0, .int 0, .int 0, .int 0, .int 0, .int 0, .int 0, .int 0, .int 0, .int 0, .int 0, .long 0, .int 0, .ref v27, .ref v28, .ref v29, .ref v30, .ref v31, .ref v32, .ref v33, .ref v34, .ref v35, .ref v36, .ref v37, .int 0]))] t) (va_A [(w0, .inr (11, [.ref v0, .ref v1, .ref v2, .ref v3, .ref v4, .long 0, .long 0, .int 0, .int th, .ref v9, .int 0, .int 0, .int (-1), .ref v13, .int 0, .int 0, .int 0, .int 0, .int 0, .int 0, .int 0, .int 0, .int 0, .int 0, .int 0, .long 0, .int 0, .ref v27, .ref v28, .ref v29, .ref v30, .ref v31, .ref v32, .ref v33, .ref v34, .ref v35, .ref v36, .ref v37, .int 0])), (v0, .inl (cA 0, 326, .inl fs))] sz)) 0 0 (va_A [(w0, .inr (11, [.ref v0, .ref v1, .ref v2, .ref v3, .ref v4, .long 0, .long 0, .int 0, .int th, .ref v9, .int 0, .int 0, .int (-1), .ref v13, .int 0, .int 0, .int 0, .int 0, .int 0, .int 0, .int 0, .int 0, .int 0, .int 0, .int 0, .long 0, .int 0, .ref v27, .ref v28, .ref v29, .ref v30, .ref v31, .ref v32, .ref v33, .ref v34, .ref v35, .ref v36, .ref v37, .int 0])), (v0, .inl (cA 0, 326, .inl fs))] sz) := by
  refine Met.ofW (cc := cX10_shortDay) (maxL := 4) (ret := (some .int)) (by decide) rfl ?_
  intro p e s m args below meth c s₁ B hml hv
  obtain ⟨rfl, hsz, hP, hK, hD0, hC, hZ⟩ := hv
  have hx := B.exec
  have hb := B.bytes
  have hr := B.returns
  have hts := atoms_spec (ws := wsX10_shortDay) B.pre
  have hown : s.vm.findClass RX10 = some m.cls := findClass_of_methodNamed B.named
  have hlocks := B.notSynchronized
  subst hsz
  have hD := hD0.self (sz := s.heap.size)
  generalize hAe : va_A [(w0, .inr (11, [.ref v0, .ref v1, .ref v2, .ref v3, .ref v4, .long 0, .long 0, .int 0, .int th, .ref v9, .int 0, .int 0, .int (-1), .ref v13, .int 0, .int 0, .int 0, .int 0, .int 0, .int 0, .int 0, .int 0, .int 0, .int 0, .int 0, .long 0, .int 0, .ref v27, .ref v28, .ref v29, .ref v30, .ref v31, .ref v32, .ref v33, .ref v34, .ref v35, .ref v36, .ref v37, .int 0])), (v0, .inl (cA 0, 326, .inl fs))] s.heap.size = A at hD hZ ⊢
  have hA : ∀ q : Nat, s.heap.size ≤ q → A q := fun q h => by rw [← hAe]; exact Or.inr h
  have hS : va_S A s.heap s.heap [] := va_S.rf
  have hP : va_P D vwCl [(w0, .inr (11, [.ref v0, .ref v1, .ref v2, .ref v3, .ref v4, .long 0, .long 0, .int 0, .int th, .ref v9, .int 0, .int 0, .int (-1), .ref v13, .int 0, .int 0, .int 0, .int 0, .int 0, .int 0, .int 0, .int 0, .int 0, .int 0, .int 0, .long 0, .int 0, .ref v27, .ref v28, .ref v29, .ref v30, .ref v31, .ref v32, .ref v33, .ref v34, .ref v35, .ref v36, .ref v37, .int 0])), (v0, .inl (cA 0, 326, .inl fs))] s.heap := hP
  have hl := lv_entry ([.ref w0, .int i]) (n := 4) (Nat.le_of_ble_eq_true rfl)
  rw [lg_entry_eq]
  generalize (lg_sl ([.ref w0, .int i]) ++ List.replicate (4 - (lg_sl ([.ref w0, .int i])).length) Slot.unset).toArray = ls at hl ⊢
  have hl : lv_has ls 4 [(0, .ref w0), (1, .int i)] := hl
  refine lv_aload_n hx hb dX10_shortDay_0 rfl (lv_at hl 0 rfl) ?_
  refine lv_iload_n hx hb dX10_shortDay_1 rfl (lv_at hl 1 rfl) ?_
  have hPc := hP.sub (ws' := []) [] rfl
  have hDc := hD.sub (ws' := []) [] (by decide) rfl
  have hFc := va_free (wc := []) hD hS hA [] rfl
  refine va_calli (va_runS (As := [.int i]) (rest := [.ref w0]) ⟨hx, hb, hml, hown, hts⟩ (c_m_isTrial_f l D cA sa i s.heap.size h) (va_cwS 1 hts gX10_shortDay_X10_isTrial rfl rfl rfl (by decide +kernel) ⟨(Nat.le_of_ble_eq_true rfl), (Nat.le_of_ble_eq_true rfl)⟩) ⟨Wd.blind, fun U hU hW => ⟨rfl, Wd.call hPc hDc hK hC hZ hS hFc U hU hW⟩⟩ rfl rfl hl.1 rfl (lv_room (Nat.le_of_ble_eq_true rfl)) dX10_shortDay_2 ⟨(Nat.le_of_ble_eq_true rfl), (Nat.le_of_ble_eq_true rfl)⟩) hS (fun q _ h => hFc q h) hFc (fun rn1 u t H1 locs ht hvm hw hB hz1 hk1 hS => ?_)
  obtain ⟨hP1, hD1⟩ := hB
  rw [ht] at hP1
  obtain ⟨hP, hD⟩ := va_join (wr := [(w0, .inr (11, [.ref v0, .ref v1, .ref v2, .ref v3, .ref v4, .long 0, .long 0, .int 0, .int th, .ref v9, .int 0, .int 0, .int (-1), .ref v13, .int 0, .int 0, .int 0, .int 0, .int 0, .int 0, .int 0, .int 0, .int 0, .int 0, .int 0, .long 0, .int 0, .ref v27, .ref v28, .ref v29, .ref v30, .ref v31, .ref v32, .ref v33, .ref v34, .ref v35, .ref v36, .ref v37, .int 0])), (v0, .inl (cA 0, 326, .inl fs))]) (w1 := []) hP hD [] [0, 1] rfl rfl (by decide) (by decide) hk1 hFc hP1 hD1
  generalize H1 = H at hP hS ⊢
  have hP : va_P D vwCl [(w0, .inr (11, [.ref v0, .ref v1, .ref v2, .ref v3, .ref v4, .long 0, .long 0, .int 0, .int th, .ref v9, .int 0, .int 0, .int (-1), .ref v13, .int 0, .int 0, .int 0, .int 0, .int 0, .int 0, .int 0, .int 0, .int 0, .int 0, .int 0, .long 0, .int 0, .ref v27, .ref v28, .ref v29, .ref v30, .ref v31, .ref v32, .ref v33, .ref v34, .ref v35, .ref v36, .ref v37, .int 0])), (v0, .inl (cA 0, 326, .inl fs))] H := hP
  have hD : va_D A [(w0, .inr (11, [.ref v0, .ref v1, .ref v2, .ref v3, .ref v4, .long 0, .long 0, .int 0, .int th, .ref v9, .int 0, .int 0, .int (-1), .ref v13, .int 0, .int 0, .int 0, .int 0, .int 0, .int 0, .int 0, .int 0, .int 0, .int 0, .int 0, .long 0, .int 0, .ref v27, .ref v28, .ref v29, .ref v30, .ref v31, .ref v32, .ref v33, .ref v34, .ref v35, .ref v36, .ref v37, .int 0])), (v0, .inl (cA 0, 326, .inl fs))] := hD
  obtain rfl : rn1 = 0 := hw
  have hPc := hP.sub (ws' := [(w0, .inr (11, [.ref v0, .ref v1, .ref v2, .ref v3, .ref v4, .long 0, .long 0, .int 0, .int th, .ref v9, .int 0, .int 0, .int (-1), .ref v13, .int 0, .int 0, .int 0, .int 0, .int 0, .int 0, .int 0, .int 0, .int 0, .int 0, .int 0, .long 0, .int 0, .ref v27, .ref v28, .ref v29, .ref v30, .ref v31, .ref v32, .ref v33, .ref v34, .ref v35, .ref v36, .ref v37, .int 0]))]) [0] rfl
  have hDc := hD.sub (ws' := [(w0, .inr (11, [.ref v0, .ref v1, .ref v2, .ref v3, .ref v4, .long 0, .long 0, .int 0, .int th, .ref v9, .int 0, .int 0, .int (-1), .ref v13, .int 0, .int 0, .int 0, .int 0, .int 0, .int 0, .int 0, .int 0, .int 0, .int 0, .int 0, .long 0, .int 0, .ref v27, .ref v28, .ref v29, .ref v30, .ref v31, .ref v32, .ref v33, .ref v34, .ref v35, .ref v36, .ref v37, .int 0]))]) [0] (by decide) rfl
  have hFc := va_free (wc := [(w0, .inr (11, [.ref v0, .ref v1, .ref v2, .ref v3, .ref v4, .long 0, .long 0, .int 0, .int th, .ref v9, .int 0, .int 0, .int (-1), .ref v13, .int 0, .int 0, .int 0, .int 0, .int 0, .int 0, .int 0, .int 0, .int 0, .int 0, .int 0, .long 0, .int 0, .ref v27, .ref v28, .ref v29, .ref v30, .ref v31, .ref v32, .ref v33, .ref v34, .ref v35, .ref v36, .ref v37, .int 0]))]) hD hS hA [0] rfl
  refine va_calli (va_runV (As := [.int 0]) (rest := []) ⟨hx, hb, hml, hown, hts⟩ (c_m_good_0 l D cA sa w0 v0 v1 v2 v3 v4 v9 v13 v27 v28 v29 v30 v31 v32 v33 v34 v35 v36 v37 th H.size) (cwV 1 hts gX10_shortDay_X10_good rfl rfl rfl (by decide +kernel) ⟨(Nat.le_of_ble_eq_true rfl), (Nat.le_of_ble_eq_true rfl)⟩) ⟨Wd.blind, va_recv hK hPc (ci := 11) (q0 := 0) rfl rfl, fun U hU hW => ⟨rfl, Wd.call hPc hDc hK hC hZ hS hFc U hU hW⟩⟩ rfl rfl hl.1 rfl (lv_room (Nat.le_of_ble_eq_true rfl)) dX10_shortDay_5 ⟨(Nat.le_of_ble_eq_true rfl), (Nat.le_of_ble_eq_true rfl)⟩) hS (fun q _ h => hFc q h) hFc (fun rn2 u t H1 locs ht hvm hw hB hz1 hk1 hS => ?_)
  obtain ⟨hP1, hD1⟩ := hB
  rw [ht] at hP1
  obtain ⟨hP, hD⟩ := va_join (wr := [(v0, .inl (cA 0, 326, .inl fs))]) (w1 := [(w0, .inr (11, [.ref v0, .ref v1, .ref v2, .ref v3, .ref v4, .long 0, .long 0, .int 0, .int 1, .ref v9, .int 0, .int 0, .int (-1), .ref v13, .int 0, .int 0, .int 0, .int 0, .int 0, .int 0, .int 0, .int 0, .int 0, .int 0, .int 0, .long 0, .int 0, .ref v27, .ref v28, .ref v29, .ref v30, .ref v31, .ref v32, .ref v33, .ref v34, .ref v35, .ref v36, .ref v37, .int 0]))]) hP hD [0] [1] rfl rfl (by decide) (by decide) hk1 hFc hP1 hD1
  generalize H1 = H at hP hS ⊢
  have hP : va_P D vwCl [(v0, .inl (cA 0, 326, .inl fs)), (w0, .inr (11, [.ref v0, .ref v1, .ref v2, .ref v3, .ref v4, .long 0, .long 0, .int 0, .int 1, .ref v9, .int 0, .int 0, .int (-1), .ref v13, .int 0, .int 0, .int 0, .int 0, .int 0, .int 0, .int 0, .int 0, .int 0, .int 0, .int 0, .long 0, .int 0, .ref v27, .ref v28, .ref v29, .ref v30, .ref v31, .ref v32, .ref v33, .ref v34, .ref v35, .ref v36, .ref v37, .int 0]))] H := hP
  have hD : va_D A [(v0, .inl (cA 0, 326, .inl fs)), (w0, .inr (11, [.ref v0, .ref v1, .ref v2, .ref v3, .ref v4, .long 0, .long 0, .int 0, .int 1, .ref v9, .int 0, .int 0, .int (-1), .ref v13, .int 0, .int 0, .int 0, .int 0, .int 0, .int 0, .int 0, .int 0, .int 0, .int 0, .int 0, .long 0, .int 0, .ref v27, .ref v28, .ref v29, .ref v30, .ref v31, .ref v32, .ref v33, .ref v34, .ref v35, .ref v36, .ref v37, .int 0]))] := hD
  obtain rfl : rn2 = 0 := hw
  refine lv_if_ne (tgt := 13) hx hb dX10_shortDay_8 (by decide) (fun c9 => absurd c9 (by decide)) (fun c3 => ?_)
  refine lv_iconst (v := 0) hx hb dX10_shortDay_11 (by decide) ?_
  have hP9 := hP.sub (ws' := [(w0, .inr (11, [.ref v0, .ref v1, .ref v2, .ref v3, .ref v4, .long 0, .long 0, .int 0, .int 1, .ref v9, .int 0, .int 0, .int (-1), .ref v13, .int 0, .int 0, .int 0, .int 0, .int 0, .int 0, .int 0, .int 0, .int 0, .int 0, .int 0, .long 0, .int 0, .ref v27, .ref v28, .ref v29, .ref v30, .ref v31, .ref v32, .ref v33, .ref v34, .ref v35, .ref v36, .ref v37, .int 0]))]) [1] rfl
  have hD9 := hD.sub (ws' := [(w0, .inr (11, [.ref v0, .ref v1, .ref v2, .ref v3, .ref v4, .long 0, .long 0, .int 0, .int 1, .ref v9, .int 0, .int 0, .int (-1), .ref v13, .int 0, .int 0, .int 0, .int 0, .int 0, .int 0, .int 0, .int 0, .int 0, .int 0, .int 0, .long 0, .int 0, .ref v27, .ref v28, .ref v29, .ref v30, .ref v31, .ref v32, .ref v33, .ref v34, .ref v35, .ref v36, .ref v37, .int 0]))]) [1] (by decide) rfl
  refine W.widen (k := 0) (n := 0) (Nat.le_of_ble_eq_true rfl) (Nat.le_of_ble_eq_true rfl) ?_
  exact W.iret (v := 0) hx hb hr (fun t ht hW => ⟨⟨0, (), rfl, rfl, by rw [ht]; exact hP9, hD9⟩, hS.F ht⟩) hS.2.2 dX10_shortDay_12

set_option maxHeartbeats 4000000 in
set_option maxRecDepth 100000 in
/-- deposit within -/
theorem c_m_deposit_ret (l : Launch) (D : va_G) (cA : Nat → ClassId) (sa : Nat → Nat) (w0 v0 v1 v2 v3 v4 v9 v13 v27 v28 v29 v30 v31 v32 v33 v34 v35 v36 v37 : Nat) (th : Int32) (fs fh : Nat → Int32) (fq : Nat → Int64) (a : Int32) (sz : Nat) (hz : Zs fs) (h1 : ¬ a < 1) (h2 : ¬ 99999 < a) : Met l yX10_deposit wsX10_deposit ({ frames := 1, cells := 0, slots := 0, locals := 25 }) (va_Pc [.ref w0, .int a] (Wd D cA sa [(w0, .inr (11, [.ref v0, .ref v1, .ref v2, .ref v3, .ref v4, .long 0, .long 0, .int 0, .int th, .ref v9, .int 0, .int 0, .int (-1), .ref v13, .int 0, .int 0, .int 0, .int 0, .int 0, .int 0, .int 0, .int 0, .int 0, .int 0, .int 0, .long 0, .int 0, .ref v27, .ref v28, .ref v29, .ref v30, .ref v31, .ref v32, .ref v33, .ref v34, .ref v35, .ref v36, .ref v37, .int 0])), (v0, .inl (cA 0, 326, .inl fs)), (v3, .inl (cA 0, 3260, .inl fh)), (v4, .inl (cA 1, 10, .inr (.inl fq)))] sz)) (va_Qi (fun (r : Int32) (_ : Unit) => r = (0 + a)) (fun (_ : Unit) t => Wq D (va_A [(w0, .inr (11, [.ref v0, .ref v1, .ref v2, .ref v3, .ref v4, .long 0, .long 0, .int 0, .int th, .ref v9, .int 0, .int 0, .int (-1), .ref v13, .int 0, .int 0, .int 0, .int 0, .int 0, .int 0, .int 0, .int 0, .int 0, .int 0, .int 0, .long 0, .int 0, .ref v27, .ref v28, .ref v29, .ref v30, .ref v31, .ref v32, .ref v33, .ref v34, .ref v35, .ref v36, .ref v37, .int 0])), (v0, .inl (cA 0, 326, .inl fs)), (v3, .inl (cA 0, 3260, .inl fh)), (v4, .inl (cA 1, 10, .inr (.inl fq)))] sz) [(w0, .inr (11, [.ref v0, .ref v1, .ref v2, .ref v3, .ref v4, .long 0, .long 0, .int 1, .int 0, .ref v9, .int 0, .int 0, .int (-1), .ref v13, .int 0, .int 0, .int 0, .int 0, .int 0, .int 0, .int 0, .int 0, .int 0, .int 0, .int 0, .long 0, .int 0, .ref v27, .ref v28, .ref v29, .ref v30, .ref v31, .ref v32, .ref v33, .ref v34, .ref v35, .ref v36, .ref v37, .int 0]))] t) (va_A [(w0, .inr (11, [.ref v0, .ref v1, .ref v2, .ref v3, .ref v4, .long 0, .long 0, .int 0, .int th, .ref v9, .int 0, .int 0, .int (-1), .ref v13, .int 0, .int 0, .int 0, .int 0, .int 0, .int 0, .int 0, .int 0, .int 0, .int 0, .int 0, .long 0, .int 0, .ref v27, .ref v28, .ref v29, .ref v30, .ref v31, .ref v32, .ref v33, .ref v34, .ref v35, .ref v36, .ref v37, .int 0])), (v0, .inl (cA 0, 326, .inl fs)), (v3, .inl (cA 0, 3260, .inl fh)), (v4, .inl (cA 1, 10, .inr (.inl fq)))] sz)) 0 0 (va_A [(w0, .inr (11, [.ref v0, .ref v1, .ref v2, .ref v3, .ref v4, .long 0, .long 0, .int 0, .int th, .ref v9, .int 0, .int 0, .int (-1), .ref v13, .int 0, .int 0, .int 0, .int 0, .int 0, .int 0, .int 0, .int 0, .int 0, .int 0, .int 0, .long 0, .int 0, .ref v27, .ref v28, .ref v29, .ref v30, .ref v31, .ref v32, .ref v33, .ref v34, .ref v35, .ref v36, .ref v37, .int 0])), (v0, .inl (cA 0, 326, .inl fs)), (v3, .inl (cA 0, 3260, .inl fh)), (v4, .inl (cA 1, 10, .inr (.inl fq)))] sz) := by
  refine Met.ofW (cc := cX10_deposit) (maxL := 2) (ret := (some .int)) (by decide) rfl ?_
  intro p e s m args below meth c s₁ B hml hv
  obtain ⟨rfl, hsz, hP, hK, hD0, hC, hZ⟩ := hv
  have hx := B.exec
  have hb := B.bytes
  have hr := B.returns
  have hts := atoms_spec (ws := wsX10_deposit) B.pre
  have hown : s.vm.findClass RX10 = some m.cls := findClass_of_methodNamed B.named
  have hlocks := B.notSynchronized
  subst hsz
  have hD := hD0.self (sz := s.heap.size)
  generalize hAe : va_A [(w0, .inr (11, [.ref v0, .ref v1, .ref v2, .ref v3, .ref v4, .long 0, .long 0, .int 0, .int th, .ref v9, .int 0, .int 0, .int (-1), .ref v13, .int 0, .int 0, .int 0, .int 0, .int 0, .int 0, .int 0, .int 0, .int 0, .int 0, .int 0, .long 0, .int 0, .ref v27, .ref v28, .ref v29, .ref v30, .ref v31, .ref v32, .ref v33, .ref v34, .ref v35, .ref v36, .ref v37, .int 0])), (v0, .inl (cA 0, 326, .inl fs)), (v3, .inl (cA 0, 3260, .inl fh)), (v4, .inl (cA 1, 10, .inr (.inl fq)))] s.heap.size = A at hD hZ ⊢
  have hA : ∀ q : Nat, s.heap.size ≤ q → A q := fun q h => by rw [← hAe]; exact Or.inr h
  have hS : va_S A s.heap s.heap [] := va_S.rf
  have hP : va_P D vwCl [(w0, .inr (11, [.ref v0, .ref v1, .ref v2, .ref v3, .ref v4, .long 0, .long 0, .int 0, .int th, .ref v9, .int 0, .int 0, .int (-1), .ref v13, .int 0, .int 0, .int 0, .int 0, .int 0, .int 0, .int 0, .int 0, .int 0, .int 0, .int 0, .long 0, .int 0, .ref v27, .ref v28, .ref v29, .ref v30, .ref v31, .ref v32, .ref v33, .ref v34, .ref v35, .ref v36, .ref v37, .int 0])), (v0, .inl (cA 0, 326, .inl fs)), (v3, .inl (cA 0, 3260, .inl fh)), (v4, .inl (cA 1, 10, .inr (.inl fq)))] s.heap := hP
  have hl := lv_entry ([.ref w0, .int a]) (n := 2) (Nat.le_of_ble_eq_true rfl)
  rw [lg_entry_eq]
  generalize (lg_sl ([.ref w0, .int a]) ++ List.replicate (2 - (lg_sl ([.ref w0, .int a])).length) Slot.unset).toArray = ls at hl ⊢
  have hl : lv_has ls 2 [(0, .ref w0), (1, .int a)] := hl
  have inX10 : ∀ w ∈ u_ws RX10 TX10 39, w ∈ wsX10_deposit := by decide +kernel
  refine lv_aload_n hx hb dX10_deposit_0 rfl (lv_at hl 0 rfl) ?_
  refine lv_iload_n hx hb dX10_deposit_1 rfl (lv_at hl 1 rfl) ?_
  refine lv_i2l (v := (a.toInt64)) hx hb dX10_deposit_2 rfl ?_
  refine lv_lconst (v := 1) hx hb dX10_deposit_3 (by decide) ?_
  refine lv_ldc2 (v := 99999) hx hb hown (hts (.constantLong RX10 388 99999) (by decide +kernel)) dX10_deposit_4 ?_
  have hPc := hP.sub (ws' := []) [] rfl
  have hDc := hD.sub (ws' := []) [] (by decide) rfl
  have hFc := va_free (wc := []) hD hS hA [] rfl
  refine va_calli (va_runS (As := [.long (a.toInt64), .long 1, .long 99999]) (rest := [.ref w0]) ⟨hx, hb, hml, hown, hts⟩ (c_btw_t l D cA sa (a.toInt64) 1 99999 s.heap.size (in_l (by decide) (by decide) h1 h2)) (va_cwS 3 hts gX10_deposit_X10_between rfl rfl rfl (by decide +kernel) ⟨(Nat.le_of_ble_eq_true rfl), (Nat.le_of_ble_eq_true rfl)⟩) ⟨Wd.blind, fun U hU hW => ⟨rfl, Wd.call hPc hDc hK hC hZ hS hFc U hU hW⟩⟩ rfl rfl hl.1 rfl (lv_room (Nat.le_of_ble_eq_true rfl)) dX10_deposit_7 ⟨(Nat.le_of_ble_eq_true rfl), (Nat.le_of_ble_eq_true rfl)⟩) hS (fun q _ h => hFc q h) hFc (fun rn1 u t H1 locs ht hvm hw hB hz1 hk1 hS => ?_)
  obtain ⟨hP1, hD1⟩ := hB
  rw [ht] at hP1
  obtain ⟨hP, hD⟩ := va_join (wr := [(w0, .inr (11, [.ref v0, .ref v1, .ref v2, .ref v3, .ref v4, .long 0, .long 0, .int 0, .int th, .ref v9, .int 0, .int 0, .int (-1), .ref v13, .int 0, .int 0, .int 0, .int 0, .int 0, .int 0, .int 0, .int 0, .int 0, .int 0, .int 0, .long 0, .int 0, .ref v27, .ref v28, .ref v29, .ref v30, .ref v31, .ref v32, .ref v33, .ref v34, .ref v35, .ref v36, .ref v37, .int 0])), (v0, .inl (cA 0, 326, .inl fs)), (v3, .inl (cA 0, 3260, .inl fh)), (v4, .inl (cA 1, 10, .inr (.inl fq)))]) (w1 := []) hP hD [] [0, 1, 2, 3] rfl rfl (by decide) (by decide) hk1 hFc hP1 hD1
  generalize H1 = H at hP hS ⊢
  have hP : va_P D vwCl [(w0, .inr (11, [.ref v0, .ref v1, .ref v2, .ref v3, .ref v4, .long 0, .long 0, .int 0, .int th, .ref v9, .int 0, .int 0, .int (-1), .ref v13, .int 0, .int 0, .int 0, .int 0, .int 0, .int 0, .int 0, .int 0, .int 0, .int 0, .int 0, .long 0, .int 0, .ref v27, .ref v28, .ref v29, .ref v30, .ref v31, .ref v32, .ref v33, .ref v34, .ref v35, .ref v36, .ref v37, .int 0])), (v0, .inl (cA 0, 326, .inl fs)), (v3, .inl (cA 0, 3260, .inl fh)), (v4, .inl (cA 1, 10, .inr (.inl fq)))] H := hP
  have hD : va_D A [(w0, .inr (11, [.ref v0, .ref v1, .ref v2, .ref v3, .ref v4, .long 0, .long 0, .int 0, .int th, .ref v9, .int 0, .int 0, .int (-1), .ref v13, .int 0, .int 0, .int 0, .int 0, .int 0, .int 0, .int 0, .int 0, .int 0, .int 0, .int 0, .long 0, .int 0, .ref v27, .ref v28, .ref v29, .ref v30, .ref v31, .ref v32, .ref v33, .ref v34, .ref v35, .ref v36, .ref v37, .int 0])), (v0, .inl (cA 0, 326, .inl fs)), (v3, .inl (cA 0, 3260, .inl fh)), (v4, .inl (cA 1, 10, .inr (.inl fq)))] := hD
  obtain rfl : rn1 = 1 := hw
  refine lv_aload_n hx hb dX10_deposit_10 rfl (lv_at hl 0 rfl) ?_
  refine va_get (D := D) (ci := 11) (v := .ref v0) (C := RX10) (T := TX10) (N := 39) hx hb hts inX10 hown hK hP 0 rfl rfl 0 (by decide) (hts (.fieldLink RX10 7 "EscrowDeskModel" "s" "[I") (by decide +kernel)) (fun _ h9 => h9) rfl dX10_deposit_11 ?_
  refine lv_iconst (v := 5) hx hb dX10_deposit_14 (by decide) ?_
  refine va_iald hx hb hK hP 1 0 rfl rfl (vp_in_iff.mpr (by decide)) dX10_deposit_15 ?_
  refine lv_topi (fun yn2 eyn2 => ?_)
  obtain rfl : yn2 = 0 := eyn2.trans (hz.2 5 (by decide) (by decide))
  refine lv_i2l (v := 0) hx hb dX10_deposit_16 (by decide) ?_
  refine lv_iload_n hx hb dX10_deposit_17 rfl (lv_at hl 1 rfl) ?_
  refine lv_i2l (v := (a.toInt64)) hx hb dX10_deposit_18 rfl ?_
  refine lv_ladd hx hb dX10_deposit_19 ?_
  refine lv_ldc2 (v := 9999999) hx hb hown (hts (.constantLong RX10 393 9999999) (by decide +kernel)) dX10_deposit_20 ?_
  refine W.lcmp hx hb dX10_deposit_23 ?_
  refine lv_if_gt (tgt := 31) hx hb dX10_deposit_24 (by decide) (fun c9 => absurd c9 (dep_lel h2)) (fun c5 => ?_)
  refine lv_iconst (v := 1) hx hb dX10_deposit_27 (by decide) ?_
  refine lv_goto (tgt := 32) hx hb dX10_deposit_28 (by decide) ?_
  have hPc := hP.sub (ws' := [(w0, .inr (11, [.ref v0, .ref v1, .ref v2, .ref v3, .ref v4, .long 0, .long 0, .int 0, .int th, .ref v9, .int 0, .int 0, .int (-1), .ref v13, .int 0, .int 0, .int 0, .int 0, .int 0, .int 0, .int 0, .int 0, .int 0, .int 0, .int 0, .long 0, .int 0, .ref v27, .ref v28, .ref v29, .ref v30, .ref v31, .ref v32, .ref v33, .ref v34, .ref v35, .ref v36, .ref v37, .int 0]))]) [0] rfl
  have hDc := hD.sub (ws' := [(w0, .inr (11, [.ref v0, .ref v1, .ref v2, .ref v3, .ref v4, .long 0, .long 0, .int 0, .int th, .ref v9, .int 0, .int 0, .int (-1), .ref v13, .int 0, .int 0, .int 0, .int 0, .int 0, .int 0, .int 0, .int 0, .int 0, .int 0, .int 0, .long 0, .int 0, .ref v27, .ref v28, .ref v29, .ref v30, .ref v31, .ref v32, .ref v33, .ref v34, .ref v35, .ref v36, .ref v37, .int 0]))]) [0] (by decide) rfl
  have hFc := va_free (wc := [(w0, .inr (11, [.ref v0, .ref v1, .ref v2, .ref v3, .ref v4, .long 0, .long 0, .int 0, .int th, .ref v9, .int 0, .int 0, .int (-1), .ref v13, .int 0, .int 0, .int 0, .int 0, .int 0, .int 0, .int 0, .int 0, .int 0, .int 0, .int 0, .long 0, .int 0, .ref v27, .ref v28, .ref v29, .ref v30, .ref v31, .ref v32, .ref v33, .ref v34, .ref v35, .ref v36, .ref v37, .int 0]))]) hD hS hA [0] rfl
  refine va_calli (va_runV (As := [.int 1, .int 1]) (rest := []) ⟨hx, hb, hml, hown, hts⟩ (c_m_good2_11 l D cA sa w0 v0 v1 v2 v3 v4 v9 v13 v27 v28 v29 v30 v31 v32 v33 v34 v35 v36 v37 th H.size) (cwV 2 hts gX10_deposit_X10_good_ rfl rfl rfl (by decide +kernel) ⟨(Nat.le_of_ble_eq_true rfl), (Nat.le_of_ble_eq_true rfl)⟩) ⟨Wd.blind, va_recv hK hPc (ci := 11) (q0 := 0) rfl rfl, fun U hU hW => ⟨rfl, Wd.call hPc hDc hK hC hZ hS hFc U hU hW⟩⟩ rfl rfl hl.1 rfl (lv_room (Nat.le_of_ble_eq_true rfl)) dX10_deposit_32 ⟨(Nat.le_of_ble_eq_true rfl), (Nat.le_of_ble_eq_true rfl)⟩) hS (fun q _ h => hFc q h) hFc (fun rn6 u t H1 locs ht hvm hw hB hz1 hk1 hS => ?_)
  obtain ⟨hP1, hD1⟩ := hB
  rw [ht] at hP1
  obtain ⟨hP, hD⟩ := va_join (wr := [(v0, .inl (cA 0, 326, .inl fs)), (v3, .inl (cA 0, 3260, .inl fh)), (v4, .inl (cA 1, 10, .inr (.inl fq)))]) (w1 := [(w0, .inr (11, [.ref v0, .ref v1, .ref v2, .ref v3, .ref v4, .long 0, .long 0, .int 0, .int 0, .ref v9, .int 0, .int 0, .int (-1), .ref v13, .int 0, .int 0, .int 0, .int 0, .int 0, .int 0, .int 0, .int 0, .int 0, .int 0, .int 0, .long 0, .int 0, .ref v27, .ref v28, .ref v29, .ref v30, .ref v31, .ref v32, .ref v33, .ref v34, .ref v35, .ref v36, .ref v37, .int 0]))]) hP hD [0] [1, 2, 3] rfl rfl (by decide) (by decide) hk1 hFc hP1 hD1
  generalize H1 = H at hP hS ⊢
  have hP : va_P D vwCl [(v0, .inl (cA 0, 326, .inl fs)), (v3, .inl (cA 0, 3260, .inl fh)), (v4, .inl (cA 1, 10, .inr (.inl fq))), (w0, .inr (11, [.ref v0, .ref v1, .ref v2, .ref v3, .ref v4, .long 0, .long 0, .int 0, .int 0, .ref v9, .int 0, .int 0, .int (-1), .ref v13, .int 0, .int 0, .int 0, .int 0, .int 0, .int 0, .int 0, .int 0, .int 0, .int 0, .int 0, .long 0, .int 0, .ref v27, .ref v28, .ref v29, .ref v30, .ref v31, .ref v32, .ref v33, .ref v34, .ref v35, .ref v36, .ref v37, .int 0]))] H := hP
  have hD : va_D A [(v0, .inl (cA 0, 326, .inl fs)), (v3, .inl (cA 0, 3260, .inl fh)), (v4, .inl (cA 1, 10, .inr (.inl fq))), (w0, .inr (11, [.ref v0, .ref v1, .ref v2, .ref v3, .ref v4, .long 0, .long 0, .int 0, .int 0, .ref v9, .int 0, .int 0, .int (-1), .ref v13, .int 0, .int 0, .int 0, .int 0, .int 0, .int 0, .int 0, .int 0, .int 0, .int 0, .int 0, .long 0, .int 0, .ref v27, .ref v28, .ref v29, .ref v30, .ref v31, .ref v32, .ref v33, .ref v34, .ref v35, .ref v36, .ref v37, .int 0]))] := hD
  obtain rfl : rn6 = 1 := hw
  refine lv_if_ne (tgt := 40) hx hb dX10_deposit_35 (by decide) (fun c7 => ?_) (fun c9 => absurd c9 (by decide))
  refine lv_aload_n hx hb dX10_deposit_40 rfl (lv_at hl 0 rfl) ?_
  have hPc := hP.sub (ws' := [(w0, .inr (11, [.ref v0, .ref v1, .ref v2, .ref v3, .ref v4, .long 0, .long 0, .int 0, .int 0, .ref v9, .int 0, .int 0, .int (-1), .ref v13, .int 0, .int 0, .int 0, .int 0, .int 0, .int 0, .int 0, .int 0, .int 0, .int 0, .int 0, .long 0, .int 0, .ref v27, .ref v28, .ref v29, .ref v30, .ref v31, .ref v32, .ref v33, .ref v34, .ref v35, .ref v36, .ref v37, .int 0])), (v0, .inl (cA 0, 326, .inl fs)), (v3, .inl (cA 0, 3260, .inl fh)), (v4, .inl (cA 1, 10, .inr (.inl fq)))]) [3, 0, 1, 2] rfl
  have hDc := hD.sub (ws' := [(w0, .inr (11, [.ref v0, .ref v1, .ref v2, .ref v3, .ref v4, .long 0, .long 0, .int 0, .int 0, .ref v9, .int 0, .int 0, .int (-1), .ref v13, .int 0, .int 0, .int 0, .int 0, .int 0, .int 0, .int 0, .int 0, .int 0, .int 0, .int 0, .long 0, .int 0, .ref v27, .ref v28, .ref v29, .ref v30, .ref v31, .ref v32, .ref v33, .ref v34, .ref v35, .ref v36, .ref v37, .int 0])), (v0, .inl (cA 0, 326, .inl fs)), (v3, .inl (cA 0, 3260, .inl fh)), (v4, .inl (cA 1, 10, .inr (.inl fq)))]) [3, 0, 1, 2] (by decide) rfl
  have hFc := va_free (wc := [(w0, .inr (11, [.ref v0, .ref v1, .ref v2, .ref v3, .ref v4, .long 0, .long 0, .int 0, .int 0, .ref v9, .int 0, .int 0, .int (-1), .ref v13, .int 0, .int 0, .int 0, .int 0, .int 0, .int 0, .int 0, .int 0, .int 0, .int 0, .int 0, .long 0, .int 0, .ref v27, .ref v28, .ref v29, .ref v30, .ref v31, .ref v32, .ref v33, .ref v34, .ref v35, .ref v36, .ref v37, .int 0])), (v0, .inl (cA 0, 326, .inl fs)), (v3, .inl (cA 0, 3260, .inl fh)), (v4, .inl (cA 1, 10, .inr (.inl fq)))]) hD hS hA [3, 0, 1, 2] rfl
  refine va_callv (va_runV (As := []) (rest := []) ⟨hx, hb, hml, hown, hts⟩ (c_m_remember l D cA sa w0 v0 v1 v2 v3 v4 v9 v13 v27 v28 v29 v30 v31 v32 v33 v34 v35 v36 v37 0 fs fh fq H.size) (cwV 0 hts gX10_deposit_X10_remember rfl rfl rfl (by decide +kernel) ⟨(Nat.le_of_ble_eq_true rfl), (Nat.le_of_ble_eq_true rfl)⟩) ⟨Wd.blind, va_recv hK hPc (ci := 11) (q0 := 0) rfl rfl, fun U hU hW => ⟨rfl, Wd.call hPc hDc hK hC hZ hS hFc U hU hW⟩⟩ rfl rfl hl.1 rfl (lv_room (Nat.le_of_ble_eq_true rfl)) dX10_deposit_41 ⟨(Nat.le_of_ble_eq_true rfl), (Nat.le_of_ble_eq_true rfl)⟩) hS (fun q _ h => hFc q h) hFc (fun u t H1 locs ht hvm hw hB hz1 hk1 hS => ?_)
  obtain ⟨hP1, hD1⟩ := hB
  rw [ht] at hP1
  obtain ⟨hP, hD⟩ := va_join (wr := []) (w1 := [(w0, .inr (11, [.ref v0, .ref v1, .ref v2, .ref v3, .ref v4, .long 0, .long 0, .int 1, .int 0, .ref v9, .int 0, .int 0, .int (-1), .ref v13, .int 0, .int 0, .int 0, .int 0, .int 0, .int 0, .int 0, .int 0, .int 0, .int 0, .int 0, .long 0, .int 0, .ref v27, .ref v28, .ref v29, .ref v30, .ref v31, .ref v32, .ref v33, .ref v34, .ref v35, .ref v36, .ref v37, .int 0])), (v0, .inl (cA 0, 326, .inl fs))]) hP hD [3, 0, 1, 2] [] rfl rfl (by decide) (by decide) hk1 hFc hP1 hD1
  generalize H1 = H at hP hS ⊢
  have hP : va_P D vwCl [(w0, .inr (11, [.ref v0, .ref v1, .ref v2, .ref v3, .ref v4, .long 0, .long 0, .int 1, .int 0, .ref v9, .int 0, .int 0, .int (-1), .ref v13, .int 0, .int 0, .int 0, .int 0, .int 0, .int 0, .int 0, .int 0, .int 0, .int 0, .int 0, .long 0, .int 0, .ref v27, .ref v28, .ref v29, .ref v30, .ref v31, .ref v32, .ref v33, .ref v34, .ref v35, .ref v36, .ref v37, .int 0])), (v0, .inl (cA 0, 326, .inl fs))] H := hP
  have hD : va_D A [(w0, .inr (11, [.ref v0, .ref v1, .ref v2, .ref v3, .ref v4, .long 0, .long 0, .int 1, .int 0, .ref v9, .int 0, .int 0, .int (-1), .ref v13, .int 0, .int 0, .int 0, .int 0, .int 0, .int 0, .int 0, .int 0, .int 0, .int 0, .int 0, .long 0, .int 0, .ref v27, .ref v28, .ref v29, .ref v30, .ref v31, .ref v32, .ref v33, .ref v34, .ref v35, .ref v36, .ref v37, .int 0])), (v0, .inl (cA 0, 326, .inl fs))] := hD
  refine lv_aload_n hx hb dX10_deposit_44 rfl (lv_at hl 0 rfl) ?_
  refine va_get (D := D) (ci := 11) (v := .ref v0) (C := RX10) (T := TX10) (N := 39) hx hb hts inX10 hown hK hP 0 rfl rfl 0 (by decide) (hts (.fieldLink RX10 7 "EscrowDeskModel" "s" "[I") (by decide +kernel)) (fun _ h9 => h9) rfl dX10_deposit_45 ?_
  refine lv_iconst (v := 5) hx hb dX10_deposit_48 (by decide) ?_
  refine lv_dup2_11 hx hb dX10_deposit_49 rfl rfl ?_
  refine va_iald hx hb hK hP 1 0 rfl rfl (vp_in_iff.mpr (by decide)) dX10_deposit_50 ?_
  refine lv_topi (fun yn8 eyn8 => ?_)
  obtain rfl : yn8 = 0 := eyn8.trans (hz.2 5 (by decide) (by decide))
  refine lv_iload_n hx hb dX10_deposit_51 rfl (lv_at hl 1 rfl) ?_
  refine lv_iadd hx hb dX10_deposit_52 ?_
  refine va_iast hx hb hK hP hD hS 1 0 rfl rfl (vp_in_iff.mpr (by decide)) dX10_deposit_53 (fun H locs hP hD hS => ?_)
  have hP : va_P D vwCl [(w0, .inr (11, [.ref v0, .ref v1, .ref v2, .ref v3, .ref v4, .long 0, .long 0, .int 1, .int 0, .ref v9, .int 0, .int 0, .int (-1), .ref v13, .int 0, .int 0, .int 0, .int 0, .int 0, .int 0, .int 0, .int 0, .int 0, .int 0, .int 0, .long 0, .int 0, .ref v27, .ref v28, .ref v29, .ref v30, .ref v31, .ref v32, .ref v33, .ref v34, .ref v35, .ref v36, .ref v37, .int 0])), (v0, .inl (cA 0, 326, .inl (upd fs 5 (0 + a))))] H := hP
  have hD : va_D A [(w0, .inr (11, [.ref v0, .ref v1, .ref v2, .ref v3, .ref v4, .long 0, .long 0, .int 1, .int 0, .ref v9, .int 0, .int 0, .int (-1), .ref v13, .int 0, .int 0, .int 0, .int 0, .int 0, .int 0, .int 0, .int 0, .int 0, .int 0, .int 0, .long 0, .int 0, .ref v27, .ref v28, .ref v29, .ref v30, .ref v31, .ref v32, .ref v33, .ref v34, .ref v35, .ref v36, .ref v37, .int 0])), (v0, .inl (cA 0, 326, .inl (upd fs 5 (0 + a))))] := hD
  have hn11 : Z5 (upd fs 5 (0 + a)) := Zs.five hz (0 + a)
  generalize (upd fs 5 (0 + a)) = fn10 at hP hD hn11
  have hP : va_P D vwCl [(w0, .inr (11, [.ref v0, .ref v1, .ref v2, .ref v3, .ref v4, .long 0, .long 0, .int 1, .int 0, .ref v9, .int 0, .int 0, .int (-1), .ref v13, .int 0, .int 0, .int 0, .int 0, .int 0, .int 0, .int 0, .int 0, .int 0, .int 0, .int 0, .long 0, .int 0, .ref v27, .ref v28, .ref v29, .ref v30, .ref v31, .ref v32, .ref v33, .ref v34, .ref v35, .ref v36, .ref v37, .int 0])), (v0, .inl (cA 0, 326, .inl fn10))] H := hP
  have hD : va_D A [(w0, .inr (11, [.ref v0, .ref v1, .ref v2, .ref v3, .ref v4, .long 0, .long 0, .int 1, .int 0, .ref v9, .int 0, .int 0, .int (-1), .ref v13, .int 0, .int 0, .int 0, .int 0, .int 0, .int 0, .int 0, .int 0, .int 0, .int 0, .int 0, .long 0, .int 0, .ref v27, .ref v28, .ref v29, .ref v30, .ref v31, .ref v32, .ref v33, .ref v34, .ref v35, .ref v36, .ref v37, .int 0])), (v0, .inl (cA 0, 326, .inl fn10))] := hD
  refine lv_aload_n hx hb dX10_deposit_54 rfl (lv_at hl 0 rfl) ?_
  refine va_get (D := D) (ci := 11) (v := .ref v0) (C := RX10) (T := TX10) (N := 39) hx hb hts inX10 hown hK hP 0 rfl rfl 0 (by decide) (hts (.fieldLink RX10 7 "EscrowDeskModel" "s" "[I") (by decide +kernel)) (fun _ h9 => h9) rfl dX10_deposit_55 ?_
  refine lv_bipush (v := 6) hx hb dX10_deposit_58 (by decide) ?_
  refine lv_dup2_11 hx hb dX10_deposit_60 rfl rfl ?_
  refine va_iald hx hb hK hP 1 0 rfl rfl (vp_in_iff.mpr (by decide)) dX10_deposit_61 ?_
  refine lv_topi (fun yn12 eyn12 => ?_)
  obtain rfl : yn12 = 0 := eyn12.trans (hn11 6 (by decide) (by decide) (by decide))
  refine lv_iload_n hx hb dX10_deposit_62 rfl (lv_at hl 1 rfl) ?_
  refine lv_iadd hx hb dX10_deposit_63 ?_
  refine va_iast hx hb hK hP hD hS 1 0 rfl rfl (vp_in_iff.mpr (by decide)) dX10_deposit_64 (fun H locs hP hD hS => ?_)
  have hP : va_P D vwCl [(w0, .inr (11, [.ref v0, .ref v1, .ref v2, .ref v3, .ref v4, .long 0, .long 0, .int 1, .int 0, .ref v9, .int 0, .int 0, .int (-1), .ref v13, .int 0, .int 0, .int 0, .int 0, .int 0, .int 0, .int 0, .int 0, .int 0, .int 0, .int 0, .long 0, .int 0, .ref v27, .ref v28, .ref v29, .ref v30, .ref v31, .ref v32, .ref v33, .ref v34, .ref v35, .ref v36, .ref v37, .int 0])), (v0, .inl (cA 0, 326, .inl (upd fn10 6 (0 + a))))] H := hP
  have hD : va_D A [(w0, .inr (11, [.ref v0, .ref v1, .ref v2, .ref v3, .ref v4, .long 0, .long 0, .int 1, .int 0, .ref v9, .int 0, .int 0, .int (-1), .ref v13, .int 0, .int 0, .int 0, .int 0, .int 0, .int 0, .int 0, .int 0, .int 0, .int 0, .int 0, .long 0, .int 0, .ref v27, .ref v28, .ref v29, .ref v30, .ref v31, .ref v32, .ref v33, .ref v34, .ref v35, .ref v36, .ref v37, .int 0])), (v0, .inl (cA 0, 326, .inl (upd fn10 6 (0 + a))))] := hD
  have hn15 : Zq (0 + a) (upd fn10 6 (0 + a)) := Z5.six hn11 (0 + a)
  generalize (upd fn10 6 (0 + a)) = fn14 at hP hD hn15
  have hP : va_P D vwCl [(w0, .inr (11, [.ref v0, .ref v1, .ref v2, .ref v3, .ref v4, .long 0, .long 0, .int 1, .int 0, .ref v9, .int 0, .int 0, .int (-1), .ref v13, .int 0, .int 0, .int 0, .int 0, .int 0, .int 0, .int 0, .int 0, .int 0, .int 0, .int 0, .long 0, .int 0, .ref v27, .ref v28, .ref v29, .ref v30, .ref v31, .ref v32, .ref v33, .ref v34, .ref v35, .ref v36, .ref v37, .int 0])), (v0, .inl (cA 0, 326, .inl fn14))] H := hP
  have hD : va_D A [(w0, .inr (11, [.ref v0, .ref v1, .ref v2, .ref v3, .ref v4, .long 0, .long 0, .int 1, .int 0, .ref v9, .int 0, .int 0, .int (-1), .ref v13, .int 0, .int 0, .int 0, .int 0, .int 0, .int 0, .int 0, .int 0, .int 0, .int 0, .int 0, .long 0, .int 0, .ref v27, .ref v28, .ref v29, .ref v30, .ref v31, .ref v32, .ref v33, .ref v34, .ref v35, .ref v36, .ref v37, .int 0])), (v0, .inl (cA 0, 326, .inl fn14))] := hD
  refine lv_aload_n hx hb dX10_deposit_65 rfl (lv_at hl 0 rfl) ?_
  refine va_get (D := D) (ci := 11) (v := .ref v0) (C := RX10) (T := TX10) (N := 39) hx hb hts inX10 hown hK hP 0 rfl rfl 0 (by decide) (hts (.fieldLink RX10 7 "EscrowDeskModel" "s" "[I") (by decide +kernel)) (fun _ h9 => h9) rfl dX10_deposit_66 ?_
  refine lv_iconst (v := 0) hx hb dX10_deposit_69 (by decide) ?_
  refine lv_iload_n hx hb dX10_deposit_70 rfl (lv_at hl 1 rfl) ?_
  refine lv_iconst (v := (-1)) hx hb dX10_deposit_71 (by decide) ?_
  have hPc := hP.sub (ws' := [(v0, .inl (cA 0, 326, .inl fn14))]) [1] rfl
  have hDc := hD.sub (ws' := [(v0, .inl (cA 0, 326, .inl fn14))]) [1] (by decide) rfl
  have hFc := va_free (wc := [(v0, .inl (cA 0, 326, .inl fn14))]) hD hS hA [1] rfl
  refine va_callv (va_runS (As := [.ref v0, .int 0, .int a, .int (-1)]) (rest := []) ⟨hx, hb, hml, hown, hts⟩ (c_m_enter1 l D cA sa v0 0 a (-1) (0 + a) fn14 H.size (dep_ne h1) hn15) (va_cwS 4 hts gX10_deposit_X10_enter rfl rfl rfl (by decide +kernel) ⟨(Nat.le_of_ble_eq_true rfl), (Nat.le_of_ble_eq_true rfl)⟩) ⟨Wd.blind, fun U hU hW => ⟨rfl, Wd.call hPc hDc hK hC hZ hS hFc U hU hW⟩⟩ rfl rfl hl.1 rfl (lv_room (Nat.le_of_ble_eq_true rfl)) dX10_deposit_72 ⟨(Nat.le_of_ble_eq_true rfl), (Nat.le_of_ble_eq_true rfl)⟩) hS (fun q _ h => hFc q h) hFc (fun u t H1 locs ht hvm hw hB hz1 hk1 hS => ?_)
  obtain ⟨fn16, hn17, hP1, hD1⟩ := hB
  rw [ht] at hP1
  obtain ⟨hP, hD⟩ := va_join (wr := [(w0, .inr (11, [.ref v0, .ref v1, .ref v2, .ref v3, .ref v4, .long 0, .long 0, .int 1, .int 0, .ref v9, .int 0, .int 0, .int (-1), .ref v13, .int 0, .int 0, .int 0, .int 0, .int 0, .int 0, .int 0, .int 0, .int 0, .int 0, .int 0, .long 0, .int 0, .ref v27, .ref v28, .ref v29, .ref v30, .ref v31, .ref v32, .ref v33, .ref v34, .ref v35, .ref v36, .ref v37, .int 0]))]) (w1 := [(v0, .inl (cA 0, 326, .inl fn16))]) hP hD [1] [0] rfl rfl (by decide) (by decide) hk1 hFc hP1 hD1
  generalize H1 = H at hP hS ⊢
  have hP : va_P D vwCl [(w0, .inr (11, [.ref v0, .ref v1, .ref v2, .ref v3, .ref v4, .long 0, .long 0, .int 1, .int 0, .ref v9, .int 0, .int 0, .int (-1), .ref v13, .int 0, .int 0, .int 0, .int 0, .int 0, .int 0, .int 0, .int 0, .int 0, .int 0, .int 0, .long 0, .int 0, .ref v27, .ref v28, .ref v29, .ref v30, .ref v31, .ref v32, .ref v33, .ref v34, .ref v35, .ref v36, .ref v37, .int 0])), (v0, .inl (cA 0, 326, .inl fn16))] H := hP
  have hD : va_D A [(w0, .inr (11, [.ref v0, .ref v1, .ref v2, .ref v3, .ref v4, .long 0, .long 0, .int 1, .int 0, .ref v9, .int 0, .int 0, .int (-1), .ref v13, .int 0, .int 0, .int 0, .int 0, .int 0, .int 0, .int 0, .int 0, .int 0, .int 0, .int 0, .long 0, .int 0, .ref v27, .ref v28, .ref v29, .ref v30, .ref v31, .ref v32, .ref v33, .ref v34, .ref v35, .ref v36, .ref v37, .int 0])), (v0, .inl (cA 0, 326, .inl fn16))] := hD
  refine lv_aload_n hx hb dX10_deposit_75 rfl (lv_at hl 0 rfl) ?_
  refine va_get (D := D) (ci := 11) (v := .ref v0) (C := RX10) (T := TX10) (N := 39) hx hb hts inX10 hown hK hP 0 rfl rfl 0 (by decide) (hts (.fieldLink RX10 7 "EscrowDeskModel" "s" "[I") (by decide +kernel)) (fun _ h9 => h9) rfl dX10_deposit_76 ?_
  refine lv_bipush (v := 6) hx hb dX10_deposit_79 (by decide) ?_
  refine va_iald hx hb hK hP 1 0 rfl rfl (vp_in_iff.mpr (by decide)) dX10_deposit_81 ?_
  refine lv_topi (fun yn18 eyn18 => ?_)
  obtain rfl : yn18 = (0 + a) := eyn18.trans hn17
  have hP9 := hP.sub (ws' := [(w0, .inr (11, [.ref v0, .ref v1, .ref v2, .ref v3, .ref v4, .long 0, .long 0, .int 1, .int 0, .ref v9, .int 0, .int 0, .int (-1), .ref v13, .int 0, .int 0, .int 0, .int 0, .int 0, .int 0, .int 0, .int 0, .int 0, .int 0, .int 0, .long 0, .int 0, .ref v27, .ref v28, .ref v29, .ref v30, .ref v31, .ref v32, .ref v33, .ref v34, .ref v35, .ref v36, .ref v37, .int 0]))]) [0] rfl
  have hD9 := hD.sub (ws' := [(w0, .inr (11, [.ref v0, .ref v1, .ref v2, .ref v3, .ref v4, .long 0, .long 0, .int 1, .int 0, .ref v9, .int 0, .int 0, .int (-1), .ref v13, .int 0, .int 0, .int 0, .int 0, .int 0, .int 0, .int 0, .int 0, .int 0, .int 0, .int 0, .long 0, .int 0, .ref v27, .ref v28, .ref v29, .ref v30, .ref v31, .ref v32, .ref v33, .ref v34, .ref v35, .ref v36, .ref v37, .int 0]))]) [0] (by decide) rfl
  refine W.widen (k := 0) (n := 0) (Nat.le_of_ble_eq_true rfl) (Nat.le_of_ble_eq_true rfl) ?_
  exact W.iret (v := (0 + a)) hx hb hr (fun t ht hW => ⟨⟨(0 + a), (), rfl, rfl, by rw [ht]; exact hP9, hD9⟩, hS.F ht⟩) hS.2.2 dX10_deposit_82

set_option maxHeartbeats 4000000 in
set_option maxRecDepth 100000 in
/-- deposit outside -/
theorem c_m_deposit_thr (l : Launch) (D : va_G) (cA : Nat → ClassId) (sa : Nat → Nat) (w0 v0 v1 v2 v3 v4 v9 v13 v27 v28 v29 v30 v31 v32 v33 v34 v35 v36 v37 : Nat) (th : Int32) (fs : Nat → Int32) (a : Int32) (sz : Nat) (hz : Zs fs) (h : a < 1 ∨ 99999 < a) : Met l yX10_deposit wsX10_deposit ({ frames := 1, cells := 0, slots := 0, locals := 25 }) (va_Pc [.ref w0, .int a] (Wd D cA sa [(w0, .inr (11, [.ref v0, .ref v1, .ref v2, .ref v3, .ref v4, .long 0, .long 0, .int 0, .int th, .ref v9, .int 0, .int 0, .int (-1), .ref v13, .int 0, .int 0, .int 0, .int 0, .int 0, .int 0, .int 0, .int 0, .int 0, .int 0, .int 0, .long 0, .int 0, .ref v27, .ref v28, .ref v29, .ref v30, .ref v31, .ref v32, .ref v33, .ref v34, .ref v35, .ref v36, .ref v37, .int 0])), (v0, .inl (cA 0, 326, .inl fs))] sz)) (va_Qi (fun (r : Int32) (_ : Unit) => r = 0) (fun (_ : Unit) t => Wq D (va_A [(w0, .inr (11, [.ref v0, .ref v1, .ref v2, .ref v3, .ref v4, .long 0, .long 0, .int 0, .int th, .ref v9, .int 0, .int 0, .int (-1), .ref v13, .int 0, .int 0, .int 0, .int 0, .int 0, .int 0, .int 0, .int 0, .int 0, .int 0, .int 0, .long 0, .int 0, .ref v27, .ref v28, .ref v29, .ref v30, .ref v31, .ref v32, .ref v33, .ref v34, .ref v35, .ref v36, .ref v37, .int 0])), (v0, .inl (cA 0, 326, .inl fs))] sz) [(w0, .inr (11, [.ref v0, .ref v1, .ref v2, .ref v3, .ref v4, .long 0, .long 0, .int 0, .int 1, .ref v9, .int 0, .int 0, .int (-1), .ref v13, .int 0, .int 0, .int 0, .int 0, .int 0, .int 0, .int 0, .int 0, .int 0, .int 0, .int 0, .long 0, .int 0, .ref v27, .ref v28, .ref v29, .ref v30, .ref v31, .ref v32, .ref v33, .ref v34, .ref v35, .ref v36, .ref v37, .int 0]))] t) (va_A [(w0, .inr (11, [.ref v0, .ref v1, .ref v2, .ref v3, .ref v4, .long 0, .long 0, .int 0, .int th, .ref v9, .int 0, .int 0, .int (-1), .ref v13, .int 0, .int 0, .int 0, .int 0, .int 0, .int 0, .int 0, .int 0, .int 0, .int 0, .int 0, .long 0, .int 0, .ref v27, .ref v28, .ref v29, .ref v30, .ref v31, .ref v32, .ref v33, .ref v34, .ref v35, .ref v36, .ref v37, .int 0])), (v0, .inl (cA 0, 326, .inl fs))] sz)) 0 0 (va_A [(w0, .inr (11, [.ref v0, .ref v1, .ref v2, .ref v3, .ref v4, .long 0, .long 0, .int 0, .int th, .ref v9, .int 0, .int 0, .int (-1), .ref v13, .int 0, .int 0, .int 0, .int 0, .int 0, .int 0, .int 0, .int 0, .int 0, .int 0, .int 0, .long 0, .int 0, .ref v27, .ref v28, .ref v29, .ref v30, .ref v31, .ref v32, .ref v33, .ref v34, .ref v35, .ref v36, .ref v37, .int 0])), (v0, .inl (cA 0, 326, .inl fs))] sz) := by
  refine Met.ofW (cc := cX10_deposit) (maxL := 2) (ret := (some .int)) (by decide) rfl ?_
  intro p e s m args below meth c s₁ B hml hv
  obtain ⟨rfl, hsz, hP, hK, hD0, hC, hZ⟩ := hv
  have hx := B.exec
  have hb := B.bytes
  have hr := B.returns
  have hts := atoms_spec (ws := wsX10_deposit) B.pre
  have hown : s.vm.findClass RX10 = some m.cls := findClass_of_methodNamed B.named
  have hlocks := B.notSynchronized
  subst hsz
  have hD := hD0.self (sz := s.heap.size)
  generalize hAe : va_A [(w0, .inr (11, [.ref v0, .ref v1, .ref v2, .ref v3, .ref v4, .long 0, .long 0, .int 0, .int th, .ref v9, .int 0, .int 0, .int (-1), .ref v13, .int 0, .int 0, .int 0, .int 0, .int 0, .int 0, .int 0, .int 0, .int 0, .int 0, .int 0, .long 0, .int 0, .ref v27, .ref v28, .ref v29, .ref v30, .ref v31, .ref v32, .ref v33, .ref v34, .ref v35, .ref v36, .ref v37, .int 0])), (v0, .inl (cA 0, 326, .inl fs))] s.heap.size = A at hD hZ ⊢
  have hA : ∀ q : Nat, s.heap.size ≤ q → A q := fun q h => by rw [← hAe]; exact Or.inr h
  have hS : va_S A s.heap s.heap [] := va_S.rf
  have hP : va_P D vwCl [(w0, .inr (11, [.ref v0, .ref v1, .ref v2, .ref v3, .ref v4, .long 0, .long 0, .int 0, .int th, .ref v9, .int 0, .int 0, .int (-1), .ref v13, .int 0, .int 0, .int 0, .int 0, .int 0, .int 0, .int 0, .int 0, .int 0, .int 0, .int 0, .long 0, .int 0, .ref v27, .ref v28, .ref v29, .ref v30, .ref v31, .ref v32, .ref v33, .ref v34, .ref v35, .ref v36, .ref v37, .int 0])), (v0, .inl (cA 0, 326, .inl fs))] s.heap := hP
  have hl := lv_entry ([.ref w0, .int a]) (n := 2) (Nat.le_of_ble_eq_true rfl)
  rw [lg_entry_eq]
  generalize (lg_sl ([.ref w0, .int a]) ++ List.replicate (2 - (lg_sl ([.ref w0, .int a])).length) Slot.unset).toArray = ls at hl ⊢
  have hl : lv_has ls 2 [(0, .ref w0), (1, .int a)] := hl
  have inX10 : ∀ w ∈ u_ws RX10 TX10 39, w ∈ wsX10_deposit := by decide +kernel
  refine lv_aload_n hx hb dX10_deposit_0 rfl (lv_at hl 0 rfl) ?_
  refine lv_iload_n hx hb dX10_deposit_1 rfl (lv_at hl 1 rfl) ?_
  refine lv_i2l (v := (a.toInt64)) hx hb dX10_deposit_2 rfl ?_
  refine lv_lconst (v := 1) hx hb dX10_deposit_3 (by decide) ?_
  refine lv_ldc2 (v := 99999) hx hb hown (hts (.constantLong RX10 388 99999) (by decide +kernel)) dX10_deposit_4 ?_
  have hPc := hP.sub (ws' := []) [] rfl
  have hDc := hD.sub (ws' := []) [] (by decide) rfl
  have hFc := va_free (wc := []) hD hS hA [] rfl
  refine va_calli (va_runS (As := [.long (a.toInt64), .long 1, .long 99999]) (rest := [.ref w0]) ⟨hx, hb, hml, hown, hts⟩ (c_btw_f l D cA sa (a.toInt64) 1 99999 s.heap.size (out_l (by decide) (by decide) h)) (va_cwS 3 hts gX10_deposit_X10_between rfl rfl rfl (by decide +kernel) ⟨(Nat.le_of_ble_eq_true rfl), (Nat.le_of_ble_eq_true rfl)⟩) ⟨Wd.blind, fun U hU hW => ⟨rfl, Wd.call hPc hDc hK hC hZ hS hFc U hU hW⟩⟩ rfl rfl hl.1 rfl (lv_room (Nat.le_of_ble_eq_true rfl)) dX10_deposit_7 ⟨(Nat.le_of_ble_eq_true rfl), (Nat.le_of_ble_eq_true rfl)⟩) hS (fun q _ h => hFc q h) hFc (fun rn1 u t H1 locs ht hvm hw hB hz1 hk1 hS => ?_)
  obtain ⟨hP1, hD1⟩ := hB
  rw [ht] at hP1
  obtain ⟨hP, hD⟩ := va_join (wr := [(w0, .inr (11, [.ref v0, .ref v1, .ref v2, .ref v3, .ref v4, .long 0, .long 0, .int 0, .int th, .ref v9, .int 0, .int 0, .int (-1), .ref v13, .int 0, .int 0, .int 0, .int 0, .int 0, .int 0, .int 0, .int 0, .int 0, .int 0, .int 0, .long 0, .int 0, .ref v27, .ref v28, .ref v29, .ref v30, .ref v31, .ref v32, .ref v33, .ref v34, .ref v35, .ref v36, .ref v37, .int 0])), (v0, .inl (cA 0, 326, .inl fs))]) (w1 := []) hP hD [] [0, 1] rfl rfl (by decide) (by decide) hk1 hFc hP1 hD1
  generalize H1 = H at hP hS ⊢
  have hP : va_P D vwCl [(w0, .inr (11, [.ref v0, .ref v1, .ref v2, .ref v3, .ref v4, .long 0, .long 0, .int 0, .int th, .ref v9, .int 0, .int 0, .int (-1), .ref v13, .int 0, .int 0, .int 0, .int 0, .int 0, .int 0, .int 0, .int 0, .int 0, .int 0, .int 0, .long 0, .int 0, .ref v27, .ref v28, .ref v29, .ref v30, .ref v31, .ref v32, .ref v33, .ref v34, .ref v35, .ref v36, .ref v37, .int 0])), (v0, .inl (cA 0, 326, .inl fs))] H := hP
  have hD : va_D A [(w0, .inr (11, [.ref v0, .ref v1, .ref v2, .ref v3, .ref v4, .long 0, .long 0, .int 0, .int th, .ref v9, .int 0, .int 0, .int (-1), .ref v13, .int 0, .int 0, .int 0, .int 0, .int 0, .int 0, .int 0, .int 0, .int 0, .int 0, .int 0, .long 0, .int 0, .ref v27, .ref v28, .ref v29, .ref v30, .ref v31, .ref v32, .ref v33, .ref v34, .ref v35, .ref v36, .ref v37, .int 0])), (v0, .inl (cA 0, 326, .inl fs))] := hD
  obtain rfl : rn1 = 0 := hw
  refine lv_aload_n hx hb dX10_deposit_10 rfl (lv_at hl 0 rfl) ?_
  refine va_get (D := D) (ci := 11) (v := .ref v0) (C := RX10) (T := TX10) (N := 39) hx hb hts inX10 hown hK hP 0 rfl rfl 0 (by decide) (hts (.fieldLink RX10 7 "EscrowDeskModel" "s" "[I") (by decide +kernel)) (fun _ h9 => h9) rfl dX10_deposit_11 ?_
  refine lv_iconst (v := 5) hx hb dX10_deposit_14 (by decide) ?_
  refine va_iald hx hb hK hP 1 0 rfl rfl (vp_in_iff.mpr (by decide)) dX10_deposit_15 ?_
  refine lv_topi (fun yn2 eyn2 => ?_)
  obtain rfl : yn2 = 0 := eyn2.trans (hz.2 5 (by decide) (by decide))
  refine lv_i2l (v := 0) hx hb dX10_deposit_16 (by decide) ?_
  refine lv_iload_n hx hb dX10_deposit_17 rfl (lv_at hl 1 rfl) ?_
  refine lv_i2l (v := (a.toInt64)) hx hb dX10_deposit_18 rfl ?_
  refine lv_ladd hx hb dX10_deposit_19 ?_
  refine lv_ldc2 (v := 9999999) hx hb hown (hts (.constantLong RX10 393 9999999) (by decide +kernel)) dX10_deposit_20 ?_
  refine W.lcmp hx hb dX10_deposit_23 ?_
  refine lv_if_gt (tgt := 31) hx hb dX10_deposit_24 (by decide) (fun c5 => ?_) (fun c5 => ?_)
  · skip
    refine lv_iconst (v := 0) hx hb dX10_deposit_31 (by decide) ?_
    have hPc := hP.sub (ws' := [(w0, .inr (11, [.ref v0, .ref v1, .ref v2, .ref v3, .ref v4, .long 0, .long 0, .int 0, .int th, .ref v9, .int 0, .int 0, .int (-1), .ref v13, .int 0, .int 0, .int 0, .int 0, .int 0, .int 0, .int 0, .int 0, .int 0, .int 0, .int 0, .long 0, .int 0, .ref v27, .ref v28, .ref v29, .ref v30, .ref v31, .ref v32, .ref v33, .ref v34, .ref v35, .ref v36, .ref v37, .int 0]))]) [0] rfl
    have hDc := hD.sub (ws' := [(w0, .inr (11, [.ref v0, .ref v1, .ref v2, .ref v3, .ref v4, .long 0, .long 0, .int 0, .int th, .ref v9, .int 0, .int 0, .int (-1), .ref v13, .int 0, .int 0, .int 0, .int 0, .int 0, .int 0, .int 0, .int 0, .int 0, .int 0, .int 0, .long 0, .int 0, .ref v27, .ref v28, .ref v29, .ref v30, .ref v31, .ref v32, .ref v33, .ref v34, .ref v35, .ref v36, .ref v37, .int 0]))]) [0] (by decide) rfl
    have hFc := va_free (wc := [(w0, .inr (11, [.ref v0, .ref v1, .ref v2, .ref v3, .ref v4, .long 0, .long 0, .int 0, .int th, .ref v9, .int 0, .int 0, .int (-1), .ref v13, .int 0, .int 0, .int 0, .int 0, .int 0, .int 0, .int 0, .int 0, .int 0, .int 0, .int 0, .long 0, .int 0, .ref v27, .ref v28, .ref v29, .ref v30, .ref v31, .ref v32, .ref v33, .ref v34, .ref v35, .ref v36, .ref v37, .int 0]))]) hD hS hA [0] rfl
    refine va_calli (va_runV (As := [.int 0, .int 0]) (rest := []) ⟨hx, hb, hml, hown, hts⟩ (c_m_good2_0 l D cA sa w0 v0 v1 v2 v3 v4 v9 v13 v27 v28 v29 v30 v31 v32 v33 v34 v35 v36 v37 th 0 H.size) (cwV 2 hts gX10_deposit_X10_good_ rfl rfl rfl (by decide +kernel) ⟨(Nat.le_of_ble_eq_true rfl), (Nat.le_of_ble_eq_true rfl)⟩) ⟨Wd.blind, va_recv hK hPc (ci := 11) (q0 := 0) rfl rfl, fun U hU hW => ⟨rfl, Wd.call hPc hDc hK hC hZ hS hFc U hU hW⟩⟩ rfl rfl hl.1 rfl (lv_room (Nat.le_of_ble_eq_true rfl)) dX10_deposit_32 ⟨(Nat.le_of_ble_eq_true rfl), (Nat.le_of_ble_eq_true rfl)⟩) hS (fun q _ h => hFc q h) hFc (fun rn6 u t H1 locs ht hvm hw hB hz1 hk1 hS => ?_)
    obtain ⟨hP1, hD1⟩ := hB
    rw [ht] at hP1
    obtain ⟨hP, hD⟩ := va_join (wr := [(v0, .inl (cA 0, 326, .inl fs))]) (w1 := [(w0, .inr (11, [.ref v0, .ref v1, .ref v2, .ref v3, .ref v4, .long 0, .long 0, .int 0, .int 1, .ref v9, .int 0, .int 0, .int (-1), .ref v13, .int 0, .int 0, .int 0, .int 0, .int 0, .int 0, .int 0, .int 0, .int 0, .int 0, .int 0, .long 0, .int 0, .ref v27, .ref v28, .ref v29, .ref v30, .ref v31, .ref v32, .ref v33, .ref v34, .ref v35, .ref v36, .ref v37, .int 0]))]) hP hD [0] [1] rfl rfl (by decide) (by decide) hk1 hFc hP1 hD1
    generalize H1 = H at hP hS ⊢
    have hP : va_P D vwCl [(v0, .inl (cA 0, 326, .inl fs)), (w0, .inr (11, [.ref v0, .ref v1, .ref v2, .ref v3, .ref v4, .long 0, .long 0, .int 0, .int 1, .ref v9, .int 0, .int 0, .int (-1), .ref v13, .int 0, .int 0, .int 0, .int 0, .int 0, .int 0, .int 0, .int 0, .int 0, .int 0, .int 0, .long 0, .int 0, .ref v27, .ref v28, .ref v29, .ref v30, .ref v31, .ref v32, .ref v33, .ref v34, .ref v35, .ref v36, .ref v37, .int 0]))] H := hP
    have hD : va_D A [(v0, .inl (cA 0, 326, .inl fs)), (w0, .inr (11, [.ref v0, .ref v1, .ref v2, .ref v3, .ref v4, .long 0, .long 0, .int 0, .int 1, .ref v9, .int 0, .int 0, .int (-1), .ref v13, .int 0, .int 0, .int 0, .int 0, .int 0, .int 0, .int 0, .int 0, .int 0, .int 0, .int 0, .long 0, .int 0, .ref v27, .ref v28, .ref v29, .ref v30, .ref v31, .ref v32, .ref v33, .ref v34, .ref v35, .ref v36, .ref v37, .int 0]))] := hD
    obtain rfl : rn6 = 0 := hw
    refine lv_if_ne (tgt := 40) hx hb dX10_deposit_35 (by decide) (fun c9 => absurd c9 (by decide)) (fun c7 => ?_)
    refine lv_iconst (v := 0) hx hb dX10_deposit_38 (by decide) ?_
    have hP9 := hP.sub (ws' := [(w0, .inr (11, [.ref v0, .ref v1, .ref v2, .ref v3, .ref v4, .long 0, .long 0, .int 0, .int 1, .ref v9, .int 0, .int 0, .int (-1), .ref v13, .int 0, .int 0, .int 0, .int 0, .int 0, .int 0, .int 0, .int 0, .int 0, .int 0, .int 0, .long 0, .int 0, .ref v27, .ref v28, .ref v29, .ref v30, .ref v31, .ref v32, .ref v33, .ref v34, .ref v35, .ref v36, .ref v37, .int 0]))]) [1] rfl
    have hD9 := hD.sub (ws' := [(w0, .inr (11, [.ref v0, .ref v1, .ref v2, .ref v3, .ref v4, .long 0, .long 0, .int 0, .int 1, .ref v9, .int 0, .int 0, .int (-1), .ref v13, .int 0, .int 0, .int 0, .int 0, .int 0, .int 0, .int 0, .int 0, .int 0, .int 0, .int 0, .long 0, .int 0, .ref v27, .ref v28, .ref v29, .ref v30, .ref v31, .ref v32, .ref v33, .ref v34, .ref v35, .ref v36, .ref v37, .int 0]))]) [1] (by decide) rfl
    refine W.widen (k := 0) (n := 0) (Nat.le_of_ble_eq_true rfl) (Nat.le_of_ble_eq_true rfl) ?_
    exact W.iret (v := 0) hx hb hr (fun t ht hW => ⟨⟨0, (), rfl, rfl, by rw [ht]; exact hP9, hD9⟩, hS.F ht⟩) hS.2.2 dX10_deposit_39
  · skip
    refine lv_iconst (v := 1) hx hb dX10_deposit_27 (by decide) ?_
    refine lv_goto (tgt := 32) hx hb dX10_deposit_28 (by decide) ?_
    have hPc := hP.sub (ws' := [(w0, .inr (11, [.ref v0, .ref v1, .ref v2, .ref v3, .ref v4, .long 0, .long 0, .int 0, .int th, .ref v9, .int 0, .int 0, .int (-1), .ref v13, .int 0, .int 0, .int 0, .int 0, .int 0, .int 0, .int 0, .int 0, .int 0, .int 0, .int 0, .long 0, .int 0, .ref v27, .ref v28, .ref v29, .ref v30, .ref v31, .ref v32, .ref v33, .ref v34, .ref v35, .ref v36, .ref v37, .int 0]))]) [0] rfl
    have hDc := hD.sub (ws' := [(w0, .inr (11, [.ref v0, .ref v1, .ref v2, .ref v3, .ref v4, .long 0, .long 0, .int 0, .int th, .ref v9, .int 0, .int 0, .int (-1), .ref v13, .int 0, .int 0, .int 0, .int 0, .int 0, .int 0, .int 0, .int 0, .int 0, .int 0, .int 0, .long 0, .int 0, .ref v27, .ref v28, .ref v29, .ref v30, .ref v31, .ref v32, .ref v33, .ref v34, .ref v35, .ref v36, .ref v37, .int 0]))]) [0] (by decide) rfl
    have hFc := va_free (wc := [(w0, .inr (11, [.ref v0, .ref v1, .ref v2, .ref v3, .ref v4, .long 0, .long 0, .int 0, .int th, .ref v9, .int 0, .int 0, .int (-1), .ref v13, .int 0, .int 0, .int 0, .int 0, .int 0, .int 0, .int 0, .int 0, .int 0, .int 0, .int 0, .long 0, .int 0, .ref v27, .ref v28, .ref v29, .ref v30, .ref v31, .ref v32, .ref v33, .ref v34, .ref v35, .ref v36, .ref v37, .int 0]))]) hD hS hA [0] rfl
    refine va_calli (va_runV (As := [.int 0, .int 1]) (rest := []) ⟨hx, hb, hml, hown, hts⟩ (c_m_good2_0 l D cA sa w0 v0 v1 v2 v3 v4 v9 v13 v27 v28 v29 v30 v31 v32 v33 v34 v35 v36 v37 th 1 H.size) (cwV 2 hts gX10_deposit_X10_good_ rfl rfl rfl (by decide +kernel) ⟨(Nat.le_of_ble_eq_true rfl), (Nat.le_of_ble_eq_true rfl)⟩) ⟨Wd.blind, va_recv hK hPc (ci := 11) (q0 := 0) rfl rfl, fun U hU hW => ⟨rfl, Wd.call hPc hDc hK hC hZ hS hFc U hU hW⟩⟩ rfl rfl hl.1 rfl (lv_room (Nat.le_of_ble_eq_true rfl)) dX10_deposit_32 ⟨(Nat.le_of_ble_eq_true rfl), (Nat.le_of_ble_eq_true rfl)⟩) hS (fun q _ h => hFc q h) hFc (fun rn8 u t H1 locs ht hvm hw hB hz1 hk1 hS => ?_)
    obtain ⟨hP1, hD1⟩ := hB
    rw [ht] at hP1
    obtain ⟨hP, hD⟩ := va_join (wr := [(v0, .inl (cA 0, 326, .inl fs))]) (w1 := [(w0, .inr (11, [.ref v0, .ref v1, .ref v2, .ref v3, .ref v4, .long 0, .long 0, .int 0, .int 1, .ref v9, .int 0, .int 0, .int (-1), .ref v13, .int 0, .int 0, .int 0, .int 0, .int 0, .int 0, .int 0, .int 0, .int 0, .int 0, .int 0, .long 0, .int 0, .ref v27, .ref v28, .ref v29, .ref v30, .ref v31, .ref v32, .ref v33, .ref v34, .ref v35, .ref v36, .ref v37, .int 0]))]) hP hD [0] [1] rfl rfl (by decide) (by decide) hk1 hFc hP1 hD1
    generalize H1 = H at hP hS ⊢
    have hP : va_P D vwCl [(v0, .inl (cA 0, 326, .inl fs)), (w0, .inr (11, [.ref v0, .ref v1, .ref v2, .ref v3, .ref v4, .long 0, .long 0, .int 0, .int 1, .ref v9, .int 0, .int 0, .int (-1), .ref v13, .int 0, .int 0, .int 0, .int 0, .int 0, .int 0, .int 0, .int 0, .int 0, .int 0, .int 0, .long 0, .int 0, .ref v27, .ref v28, .ref v29, .ref v30, .ref v31, .ref v32, .ref v33, .ref v34, .ref v35, .ref v36, .ref v37, .int 0]))] H := hP
    have hD : va_D A [(v0, .inl (cA 0, 326, .inl fs)), (w0, .inr (11, [.ref v0, .ref v1, .ref v2, .ref v3, .ref v4, .long 0, .long 0, .int 0, .int 1, .ref v9, .int 0, .int 0, .int (-1), .ref v13, .int 0, .int 0, .int 0, .int 0, .int 0, .int 0, .int 0, .int 0, .int 0, .int 0, .int 0, .long 0, .int 0, .ref v27, .ref v28, .ref v29, .ref v30, .ref v31, .ref v32, .ref v33, .ref v34, .ref v35, .ref v36, .ref v37, .int 0]))] := hD
    obtain rfl : rn8 = 0 := hw
    refine lv_if_ne (tgt := 40) hx hb dX10_deposit_35 (by decide) (fun c9 => absurd c9 (by decide)) (fun c9 => ?_)
    refine lv_iconst (v := 0) hx hb dX10_deposit_38 (by decide) ?_
    have hP9 := hP.sub (ws' := [(w0, .inr (11, [.ref v0, .ref v1, .ref v2, .ref v3, .ref v4, .long 0, .long 0, .int 0, .int 1, .ref v9, .int 0, .int 0, .int (-1), .ref v13, .int 0, .int 0, .int 0, .int 0, .int 0, .int 0, .int 0, .int 0, .int 0, .int 0, .int 0, .long 0, .int 0, .ref v27, .ref v28, .ref v29, .ref v30, .ref v31, .ref v32, .ref v33, .ref v34, .ref v35, .ref v36, .ref v37, .int 0]))]) [1] rfl
    have hD9 := hD.sub (ws' := [(w0, .inr (11, [.ref v0, .ref v1, .ref v2, .ref v3, .ref v4, .long 0, .long 0, .int 0, .int 1, .ref v9, .int 0, .int 0, .int (-1), .ref v13, .int 0, .int 0, .int 0, .int 0, .int 0, .int 0, .int 0, .int 0, .int 0, .int 0, .int 0, .long 0, .int 0, .ref v27, .ref v28, .ref v29, .ref v30, .ref v31, .ref v32, .ref v33, .ref v34, .ref v35, .ref v36, .ref v37, .int 0]))]) [1] (by decide) rfl
    refine W.widen (k := 0) (n := 0) (Nat.le_of_ble_eq_true rfl) (Nat.le_of_ble_eq_true rfl) ?_
    exact W.iret (v := 0) hx hb hr (fun t ht hW => ⟨⟨0, (), rfl, rfl, by rw [ht]; exact hP9, hD9⟩, hS.F ht⟩) hS.2.2 dX10_deposit_39

set_option maxHeartbeats 4000000 in
set_option maxRecDepth 100000 in
/-- setRate within -/
theorem c_m_setRate_360 (l : Launch) (D : va_G) (cA : Nat → ClassId) (sa : Nat → Nat) (w0 v0 v1 v2 v3 v4 v9 v13 v27 v28 v29 v30 v31 v32 v33 v34 v35 v36 v37 : Nat) (th : Int32) (fs fh : Nat → Int32) (fq : Nat → Int64) (a : Int32) (sz : Nat) (hz : Zs fs) (h1 : ¬ a < 0) (h2 : ¬ 3000 < a) : Met l yX10_setRate wsX10_setRate ({ frames := 1, cells := 0, slots := 0, locals := 25 }) (va_Pc [.ref w0, .int a, .int 360] (Wd D cA sa [(w0, .inr (11, [.ref v0, .ref v1, .ref v2, .ref v3, .ref v4, .long 0, .long 0, .int 0, .int th, .ref v9, .int 0, .int 0, .int (-1), .ref v13, .int 0, .int 0, .int 0, .int 0, .int 0, .int 0, .int 0, .int 0, .int 0, .int 0, .int 0, .long 0, .int 0, .ref v27, .ref v28, .ref v29, .ref v30, .ref v31, .ref v32, .ref v33, .ref v34, .ref v35, .ref v36, .ref v37, .int 0])), (v0, .inl (cA 0, 326, .inl fs)), (v3, .inl (cA 0, 3260, .inl fh)), (v4, .inl (cA 1, 10, .inr (.inl fq)))] sz)) (va_Qi (fun (r : Int32) (_ : Unit) => r = 0) (fun (_ : Unit) t => Wq D (va_A [(w0, .inr (11, [.ref v0, .ref v1, .ref v2, .ref v3, .ref v4, .long 0, .long 0, .int 0, .int th, .ref v9, .int 0, .int 0, .int (-1), .ref v13, .int 0, .int 0, .int 0, .int 0, .int 0, .int 0, .int 0, .int 0, .int 0, .int 0, .int 0, .long 0, .int 0, .ref v27, .ref v28, .ref v29, .ref v30, .ref v31, .ref v32, .ref v33, .ref v34, .ref v35, .ref v36, .ref v37, .int 0])), (v0, .inl (cA 0, 326, .inl fs)), (v3, .inl (cA 0, 3260, .inl fh)), (v4, .inl (cA 1, 10, .inr (.inl fq)))] sz) [(w0, .inr (11, [.ref v0, .ref v1, .ref v2, .ref v3, .ref v4, .long 0, .long 0, .int 1, .int 0, .ref v9, .int 0, .int 0, .int (-1), .ref v13, .int 0, .int 0, .int 0, .int 0, .int 0, .int 0, .int 0, .int 0, .int 0, .int 0, .int 0, .long 0, .int 0, .ref v27, .ref v28, .ref v29, .ref v30, .ref v31, .ref v32, .ref v33, .ref v34, .ref v35, .ref v36, .ref v37, .int 0]))] t) (va_A [(w0, .inr (11, [.ref v0, .ref v1, .ref v2, .ref v3, .ref v4, .long 0, .long 0, .int 0, .int th, .ref v9, .int 0, .int 0, .int (-1), .ref v13, .int 0, .int 0, .int 0, .int 0, .int 0, .int 0, .int 0, .int 0, .int 0, .int 0, .int 0, .long 0, .int 0, .ref v27, .ref v28, .ref v29, .ref v30, .ref v31, .ref v32, .ref v33, .ref v34, .ref v35, .ref v36, .ref v37, .int 0])), (v0, .inl (cA 0, 326, .inl fs)), (v3, .inl (cA 0, 3260, .inl fh)), (v4, .inl (cA 1, 10, .inr (.inl fq)))] sz)) 0 0 (va_A [(w0, .inr (11, [.ref v0, .ref v1, .ref v2, .ref v3, .ref v4, .long 0, .long 0, .int 0, .int th, .ref v9, .int 0, .int 0, .int (-1), .ref v13, .int 0, .int 0, .int 0, .int 0, .int 0, .int 0, .int 0, .int 0, .int 0, .int 0, .int 0, .long 0, .int 0, .ref v27, .ref v28, .ref v29, .ref v30, .ref v31, .ref v32, .ref v33, .ref v34, .ref v35, .ref v36, .ref v37, .int 0])), (v0, .inl (cA 0, 326, .inl fs)), (v3, .inl (cA 0, 3260, .inl fh)), (v4, .inl (cA 1, 10, .inr (.inl fq)))] sz) := by
  refine Met.ofW (cc := cX10_setRate) (maxL := 4) (ret := (some .int)) (by decide) rfl ?_
  intro p e s m args below meth c s₁ B hml hv
  obtain ⟨rfl, hsz, hP, hK, hD0, hC, hZ⟩ := hv
  have hx := B.exec
  have hb := B.bytes
  have hr := B.returns
  have hts := atoms_spec (ws := wsX10_setRate) B.pre
  have hown : s.vm.findClass RX10 = some m.cls := findClass_of_methodNamed B.named
  have hlocks := B.notSynchronized
  subst hsz
  have hD := hD0.self (sz := s.heap.size)
  generalize hAe : va_A [(w0, .inr (11, [.ref v0, .ref v1, .ref v2, .ref v3, .ref v4, .long 0, .long 0, .int 0, .int th, .ref v9, .int 0, .int 0, .int (-1), .ref v13, .int 0, .int 0, .int 0, .int 0, .int 0, .int 0, .int 0, .int 0, .int 0, .int 0, .int 0, .long 0, .int 0, .ref v27, .ref v28, .ref v29, .ref v30, .ref v31, .ref v32, .ref v33, .ref v34, .ref v35, .ref v36, .ref v37, .int 0])), (v0, .inl (cA 0, 326, .inl fs)), (v3, .inl (cA 0, 3260, .inl fh)), (v4, .inl (cA 1, 10, .inr (.inl fq)))] s.heap.size = A at hD hZ ⊢
  have hA : ∀ q : Nat, s.heap.size ≤ q → A q := fun q h => by rw [← hAe]; exact Or.inr h
  have hS : va_S A s.heap s.heap [] := va_S.rf
  have hP : va_P D vwCl [(w0, .inr (11, [.ref v0, .ref v1, .ref v2, .ref v3, .ref v4, .long 0, .long 0, .int 0, .int th, .ref v9, .int 0, .int 0, .int (-1), .ref v13, .int 0, .int 0, .int 0, .int 0, .int 0, .int 0, .int 0, .int 0, .int 0, .int 0, .int 0, .long 0, .int 0, .ref v27, .ref v28, .ref v29, .ref v30, .ref v31, .ref v32, .ref v33, .ref v34, .ref v35, .ref v36, .ref v37, .int 0])), (v0, .inl (cA 0, 326, .inl fs)), (v3, .inl (cA 0, 3260, .inl fh)), (v4, .inl (cA 1, 10, .inr (.inl fq)))] s.heap := hP
  have hl := lv_entry ([.ref w0, .int a, .int 360]) (n := 4) (Nat.le_of_ble_eq_true rfl)
  rw [lg_entry_eq]
  generalize (lg_sl ([.ref w0, .int a, .int 360]) ++ List.replicate (4 - (lg_sl ([.ref w0, .int a, .int 360])).length) Slot.unset).toArray = ls at hl ⊢
  have hl : lv_has ls 4 [(0, .ref w0), (1, .int a), (2, .int 360)] := hl
  have inX10 : ∀ w ∈ u_ws RX10 TX10 39, w ∈ wsX10_setRate := by decide +kernel
  refine lv_aload_n hx hb dX10_setRate_0 rfl (lv_at hl 0 rfl) ?_
  refine lv_iload_n hx hb dX10_setRate_1 rfl (lv_at hl 1 rfl) ?_
  refine lv_i2l (v := (a.toInt64)) hx hb dX10_setRate_2 rfl ?_
  refine lv_lconst (v := 0) hx hb dX10_setRate_3 (by decide) ?_
  refine lv_ldc2 (v := 3000) hx hb hown (hts (.constantLong RX10 408 3000) (by decide +kernel)) dX10_setRate_4 ?_
  have hPc := hP.sub (ws' := []) [] rfl
  have hDc := hD.sub (ws' := []) [] (by decide) rfl
  have hFc := va_free (wc := []) hD hS hA [] rfl
  refine va_calli (va_runS (As := [.long (a.toInt64), .long 0, .long 3000]) (rest := [.ref w0]) ⟨hx, hb, hml, hown, hts⟩ (c_btw_t l D cA sa (a.toInt64) 0 3000 s.heap.size (in_l (by decide) (by decide) h1 h2)) (va_cwS 3 hts gX10_setRate_X10_between rfl rfl rfl (by decide +kernel) ⟨(Nat.le_of_ble_eq_true rfl), (Nat.le_of_ble_eq_true rfl)⟩) ⟨Wd.blind, fun U hU hW => ⟨rfl, Wd.call hPc hDc hK hC hZ hS hFc U hU hW⟩⟩ rfl rfl hl.1 rfl (lv_room (Nat.le_of_ble_eq_true rfl)) dX10_setRate_7 ⟨(Nat.le_of_ble_eq_true rfl), (Nat.le_of_ble_eq_true rfl)⟩) hS (fun q _ h => hFc q h) hFc (fun rn1 u t H1 locs ht hvm hw hB hz1 hk1 hS => ?_)
  obtain ⟨hP1, hD1⟩ := hB
  rw [ht] at hP1
  obtain ⟨hP, hD⟩ := va_join (wr := [(w0, .inr (11, [.ref v0, .ref v1, .ref v2, .ref v3, .ref v4, .long 0, .long 0, .int 0, .int th, .ref v9, .int 0, .int 0, .int (-1), .ref v13, .int 0, .int 0, .int 0, .int 0, .int 0, .int 0, .int 0, .int 0, .int 0, .int 0, .int 0, .long 0, .int 0, .ref v27, .ref v28, .ref v29, .ref v30, .ref v31, .ref v32, .ref v33, .ref v34, .ref v35, .ref v36, .ref v37, .int 0])), (v0, .inl (cA 0, 326, .inl fs)), (v3, .inl (cA 0, 3260, .inl fh)), (v4, .inl (cA 1, 10, .inr (.inl fq)))]) (w1 := []) hP hD [] [0, 1, 2, 3] rfl rfl (by decide) (by decide) hk1 hFc hP1 hD1
  generalize H1 = H at hP hS ⊢
  have hP : va_P D vwCl [(w0, .inr (11, [.ref v0, .ref v1, .ref v2, .ref v3, .ref v4, .long 0, .long 0, .int 0, .int th, .ref v9, .int 0, .int 0, .int (-1), .ref v13, .int 0, .int 0, .int 0, .int 0, .int 0, .int 0, .int 0, .int 0, .int 0, .int 0, .int 0, .long 0, .int 0, .ref v27, .ref v28, .ref v29, .ref v30, .ref v31, .ref v32, .ref v33, .ref v34, .ref v35, .ref v36, .ref v37, .int 0])), (v0, .inl (cA 0, 326, .inl fs)), (v3, .inl (cA 0, 3260, .inl fh)), (v4, .inl (cA 1, 10, .inr (.inl fq)))] H := hP
  have hD : va_D A [(w0, .inr (11, [.ref v0, .ref v1, .ref v2, .ref v3, .ref v4, .long 0, .long 0, .int 0, .int th, .ref v9, .int 0, .int 0, .int (-1), .ref v13, .int 0, .int 0, .int 0, .int 0, .int 0, .int 0, .int 0, .int 0, .int 0, .int 0, .int 0, .long 0, .int 0, .ref v27, .ref v28, .ref v29, .ref v30, .ref v31, .ref v32, .ref v33, .ref v34, .ref v35, .ref v36, .ref v37, .int 0])), (v0, .inl (cA 0, 326, .inl fs)), (v3, .inl (cA 0, 3260, .inl fh)), (v4, .inl (cA 1, 10, .inr (.inl fq)))] := hD
  obtain rfl : rn1 = 1 := hw
  refine lv_if_eq (tgt := 31) hx hb dX10_setRate_10 (by decide) (fun c9 => absurd c9 (by decide)) (fun c2 => ?_)
  refine lv_iload_n hx hb dX10_setRate_13 rfl (lv_at hl 2 rfl) ?_
  refine lv_sipush (v := 360) hx hb dX10_setRate_14 (by decide) ?_
  refine lv_icmp_eq (tgt := 27) hx hb dX10_setRate_17 (by decide) (fun c3 => ?_) (fun c9 => absurd c9 (by decide))
  refine lv_iconst (v := 1) hx hb dX10_setRate_27 (by decide) ?_
  refine lv_goto (tgt := 32) hx hb dX10_setRate_28 (by decide) ?_
  have hPc := hP.sub (ws' := [(w0, .inr (11, [.ref v0, .ref v1, .ref v2, .ref v3, .ref v4, .long 0, .long 0, .int 0, .int th, .ref v9, .int 0, .int 0, .int (-1), .ref v13, .int 0, .int 0, .int 0, .int 0, .int 0, .int 0, .int 0, .int 0, .int 0, .int 0, .int 0, .long 0, .int 0, .ref v27, .ref v28, .ref v29, .ref v30, .ref v31, .ref v32, .ref v33, .ref v34, .ref v35, .ref v36, .ref v37, .int 0]))]) [0] rfl
  have hDc := hD.sub (ws' := [(w0, .inr (11, [.ref v0, .ref v1, .ref v2, .ref v3, .ref v4, .long 0, .long 0, .int 0, .int th, .ref v9, .int 0, .int 0, .int (-1), .ref v13, .int 0, .int 0, .int 0, .int 0, .int 0, .int 0, .int 0, .int 0, .int 0, .int 0, .int 0, .long 0, .int 0, .ref v27, .ref v28, .ref v29, .ref v30, .ref v31, .ref v32, .ref v33, .ref v34, .ref v35, .ref v36, .ref v37, .int 0]))]) [0] (by decide) rfl
  have hFc := va_free (wc := [(w0, .inr (11, [.ref v0, .ref v1, .ref v2, .ref v3, .ref v4, .long 0, .long 0, .int 0, .int th, .ref v9, .int 0, .int 0, .int (-1), .ref v13, .int 0, .int 0, .int 0, .int 0, .int 0, .int 0, .int 0, .int 0, .int 0, .int 0, .int 0, .long 0, .int 0, .ref v27, .ref v28, .ref v29, .ref v30, .ref v31, .ref v32, .ref v33, .ref v34, .ref v35, .ref v36, .ref v37, .int 0]))]) hD hS hA [0] rfl
  refine va_calli (va_runV (As := [.int 1]) (rest := []) ⟨hx, hb, hml, hown, hts⟩ (c_m_good_1 l D cA sa w0 v0 v1 v2 v3 v4 v9 v13 v27 v28 v29 v30 v31 v32 v33 v34 v35 v36 v37 th H.size) (cwV 1 hts gX10_setRate_X10_good rfl rfl rfl (by decide +kernel) ⟨(Nat.le_of_ble_eq_true rfl), (Nat.le_of_ble_eq_true rfl)⟩) ⟨Wd.blind, va_recv hK hPc (ci := 11) (q0 := 0) rfl rfl, fun U hU hW => ⟨rfl, Wd.call hPc hDc hK hC hZ hS hFc U hU hW⟩⟩ rfl rfl hl.1 rfl (lv_room (Nat.le_of_ble_eq_true rfl)) dX10_setRate_32 ⟨(Nat.le_of_ble_eq_true rfl), (Nat.le_of_ble_eq_true rfl)⟩) hS (fun q _ h => hFc q h) hFc (fun rn4 u t H1 locs ht hvm hw hB hz1 hk1 hS => ?_)
  obtain ⟨hP1, hD1⟩ := hB
  rw [ht] at hP1
  obtain ⟨hP, hD⟩ := va_join (wr := [(v0, .inl (cA 0, 326, .inl fs)), (v3, .inl (cA 0, 3260, .inl fh)), (v4, .inl (cA 1, 10, .inr (.inl fq)))]) (w1 := [(w0, .inr (11, [.ref v0, .ref v1, .ref v2, .ref v3, .ref v4, .long 0, .long 0, .int 0, .int 0, .ref v9, .int 0, .int 0, .int (-1), .ref v13, .int 0, .int 0, .int 0, .int 0, .int 0, .int 0, .int 0, .int 0, .int 0, .int 0, .int 0, .long 0, .int 0, .ref v27, .ref v28, .ref v29, .ref v30, .ref v31, .ref v32, .ref v33, .ref v34, .ref v35, .ref v36, .ref v37, .int 0]))]) hP hD [0] [1, 2, 3] rfl rfl (by decide) (by decide) hk1 hFc hP1 hD1
  generalize H1 = H at hP hS ⊢
  have hP : va_P D vwCl [(v0, .inl (cA 0, 326, .inl fs)), (v3, .inl (cA 0, 3260, .inl fh)), (v4, .inl (cA 1, 10, .inr (.inl fq))), (w0, .inr (11, [.ref v0, .ref v1, .ref v2, .ref v3, .ref v4, .long 0, .long 0, .int 0, .int 0, .ref v9, .int 0, .int 0, .int (-1), .ref v13, .int 0, .int 0, .int 0, .int 0, .int 0, .int 0, .int 0, .int 0, .int 0, .int 0, .int 0, .long 0, .int 0, .ref v27, .ref v28, .ref v29, .ref v30, .ref v31, .ref v32, .ref v33, .ref v34, .ref v35, .ref v36, .ref v37, .int 0]))] H := hP
  have hD : va_D A [(v0, .inl (cA 0, 326, .inl fs)), (v3, .inl (cA 0, 3260, .inl fh)), (v4, .inl (cA 1, 10, .inr (.inl fq))), (w0, .inr (11, [.ref v0, .ref v1, .ref v2, .ref v3, .ref v4, .long 0, .long 0, .int 0, .int 0, .ref v9, .int 0, .int 0, .int (-1), .ref v13, .int 0, .int 0, .int 0, .int 0, .int 0, .int 0, .int 0, .int 0, .int 0, .int 0, .int 0, .long 0, .int 0, .ref v27, .ref v28, .ref v29, .ref v30, .ref v31, .ref v32, .ref v33, .ref v34, .ref v35, .ref v36, .ref v37, .int 0]))] := hD
  obtain rfl : rn4 = 1 := hw
  refine lv_if_ne (tgt := 40) hx hb dX10_setRate_35 (by decide) (fun c5 => ?_) (fun c9 => absurd c9 (by decide))
  refine lv_aload_n hx hb dX10_setRate_40 rfl (lv_at hl 0 rfl) ?_
  have hPc := hP.sub (ws' := [(w0, .inr (11, [.ref v0, .ref v1, .ref v2, .ref v3, .ref v4, .long 0, .long 0, .int 0, .int 0, .ref v9, .int 0, .int 0, .int (-1), .ref v13, .int 0, .int 0, .int 0, .int 0, .int 0, .int 0, .int 0, .int 0, .int 0, .int 0, .int 0, .long 0, .int 0, .ref v27, .ref v28, .ref v29, .ref v30, .ref v31, .ref v32, .ref v33, .ref v34, .ref v35, .ref v36, .ref v37, .int 0])), (v0, .inl (cA 0, 326, .inl fs)), (v3, .inl (cA 0, 3260, .inl fh)), (v4, .inl (cA 1, 10, .inr (.inl fq)))]) [3, 0, 1, 2] rfl
  have hDc := hD.sub (ws' := [(w0, .inr (11, [.ref v0, .ref v1, .ref v2, .ref v3, .ref v4, .long 0, .long 0, .int 0, .int 0, .ref v9, .int 0, .int 0, .int (-1), .ref v13, .int 0, .int 0, .int 0, .int 0, .int 0, .int 0, .int 0, .int 0, .int 0, .int 0, .int 0, .long 0, .int 0, .ref v27, .ref v28, .ref v29, .ref v30, .ref v31, .ref v32, .ref v33, .ref v34, .ref v35, .ref v36, .ref v37, .int 0])), (v0, .inl (cA 0, 326, .inl fs)), (v3, .inl (cA 0, 3260, .inl fh)), (v4, .inl (cA 1, 10, .inr (.inl fq)))]) [3, 0, 1, 2] (by decide) rfl
  have hFc := va_free (wc := [(w0, .inr (11, [.ref v0, .ref v1, .ref v2, .ref v3, .ref v4, .long 0, .long 0, .int 0, .int 0, .ref v9, .int 0, .int 0, .int (-1), .ref v13, .int 0, .int 0, .int 0, .int 0, .int 0, .int 0, .int 0, .int 0, .int 0, .int 0, .int 0, .long 0, .int 0, .ref v27, .ref v28, .ref v29, .ref v30, .ref v31, .ref v32, .ref v33, .ref v34, .ref v35, .ref v36, .ref v37, .int 0])), (v0, .inl (cA 0, 326, .inl fs)), (v3, .inl (cA 0, 3260, .inl fh)), (v4, .inl (cA 1, 10, .inr (.inl fq)))]) hD hS hA [3, 0, 1, 2] rfl
  refine va_callv (va_runV (As := []) (rest := []) ⟨hx, hb, hml, hown, hts⟩ (c_m_remember l D cA sa w0 v0 v1 v2 v3 v4 v9 v13 v27 v28 v29 v30 v31 v32 v33 v34 v35 v36 v37 0 fs fh fq H.size) (cwV 0 hts gX10_setRate_X10_remember rfl rfl rfl (by decide +kernel) ⟨(Nat.le_of_ble_eq_true rfl), (Nat.le_of_ble_eq_true rfl)⟩) ⟨Wd.blind, va_recv hK hPc (ci := 11) (q0 := 0) rfl rfl, fun U hU hW => ⟨rfl, Wd.call hPc hDc hK hC hZ hS hFc U hU hW⟩⟩ rfl rfl hl.1 rfl (lv_room (Nat.le_of_ble_eq_true rfl)) dX10_setRate_41 ⟨(Nat.le_of_ble_eq_true rfl), (Nat.le_of_ble_eq_true rfl)⟩) hS (fun q _ h => hFc q h) hFc (fun u t H1 locs ht hvm hw hB hz1 hk1 hS => ?_)
  obtain ⟨hP1, hD1⟩ := hB
  rw [ht] at hP1
  obtain ⟨hP, hD⟩ := va_join (wr := []) (w1 := [(w0, .inr (11, [.ref v0, .ref v1, .ref v2, .ref v3, .ref v4, .long 0, .long 0, .int 1, .int 0, .ref v9, .int 0, .int 0, .int (-1), .ref v13, .int 0, .int 0, .int 0, .int 0, .int 0, .int 0, .int 0, .int 0, .int 0, .int 0, .int 0, .long 0, .int 0, .ref v27, .ref v28, .ref v29, .ref v30, .ref v31, .ref v32, .ref v33, .ref v34, .ref v35, .ref v36, .ref v37, .int 0])), (v0, .inl (cA 0, 326, .inl fs))]) hP hD [3, 0, 1, 2] [] rfl rfl (by decide) (by decide) hk1 hFc hP1 hD1
  generalize H1 = H at hP hS ⊢
  have hP : va_P D vwCl [(w0, .inr (11, [.ref v0, .ref v1, .ref v2, .ref v3, .ref v4, .long 0, .long 0, .int 1, .int 0, .ref v9, .int 0, .int 0, .int (-1), .ref v13, .int 0, .int 0, .int 0, .int 0, .int 0, .int 0, .int 0, .int 0, .int 0, .int 0, .int 0, .long 0, .int 0, .ref v27, .ref v28, .ref v29, .ref v30, .ref v31, .ref v32, .ref v33, .ref v34, .ref v35, .ref v36, .ref v37, .int 0])), (v0, .inl (cA 0, 326, .inl fs))] H := hP
  have hD : va_D A [(w0, .inr (11, [.ref v0, .ref v1, .ref v2, .ref v3, .ref v4, .long 0, .long 0, .int 1, .int 0, .ref v9, .int 0, .int 0, .int (-1), .ref v13, .int 0, .int 0, .int 0, .int 0, .int 0, .int 0, .int 0, .int 0, .int 0, .int 0, .int 0, .long 0, .int 0, .ref v27, .ref v28, .ref v29, .ref v30, .ref v31, .ref v32, .ref v33, .ref v34, .ref v35, .ref v36, .ref v37, .int 0])), (v0, .inl (cA 0, 326, .inl fs))] := hD
  refine lv_aload_n hx hb dX10_setRate_44 rfl (lv_at hl 0 rfl) ?_
  refine va_get (D := D) (ci := 11) (v := .ref v0) (C := RX10) (T := TX10) (N := 39) hx hb hts inX10 hown hK hP 0 rfl rfl 0 (by decide) (hts (.fieldLink RX10 7 "EscrowDeskModel" "s" "[I") (by decide +kernel)) (fun _ h9 => h9) rfl dX10_setRate_45 ?_
  refine lv_iconst (v := 0) hx hb dX10_setRate_48 (by decide) ?_
  refine va_iald hx hb hK hP 1 0 rfl rfl (vp_in_iff.mpr (by decide)) dX10_setRate_49 ?_
  refine lv_topi (fun yn6 eyn6 => ?_)
  obtain rfl : yn6 = 0 := eyn6.trans (hz.2 0 (by decide) (by decide))
  refine lv_istore_n (lv' := [(3, .int 0), (0, .ref w0), (1, .int a), (2, .int 360)]) hx hb dX10_setRate_50 rfl hl (by decide) rfl (fun ls hl => ?_)
  refine lv_aload_n hx hb dX10_setRate_51 rfl (lv_at hl 1 rfl) ?_
  refine va_get (D := D) (ci := 11) (v := .ref v0) (C := RX10) (T := TX10) (N := 39) hx hb hts inX10 hown hK hP 0 rfl rfl 0 (by decide) (hts (.fieldLink RX10 7 "EscrowDeskModel" "s" "[I") (by decide +kernel)) (fun _ h9 => h9) rfl dX10_setRate_52 ?_
  refine lv_iconst (v := 0) hx hb dX10_setRate_55 (by decide) ?_
  refine lv_iload_n hx hb dX10_setRate_56 rfl (lv_at hl 2 rfl) ?_
  refine va_iast hx hb hK hP hD hS 1 0 rfl rfl (vp_in_iff.mpr (by decide)) dX10_setRate_57 (fun H locs hP hD hS => ?_)
  have hP : va_P D vwCl [(w0, .inr (11, [.ref v0, .ref v1, .ref v2, .ref v3, .ref v4, .long 0, .long 0, .int 1, .int 0, .ref v9, .int 0, .int 0, .int (-1), .ref v13, .int 0, .int 0, .int 0, .int 0, .int 0, .int 0, .int 0, .int 0, .int 0, .int 0, .int 0, .long 0, .int 0, .ref v27, .ref v28, .ref v29, .ref v30, .ref v31, .ref v32, .ref v33, .ref v34, .ref v35, .ref v36, .ref v37, .int 0])), (v0, .inl (cA 0, 326, .inl (upd fs 0 a)))] H := hP
  have hD : va_D A [(w0, .inr (11, [.ref v0, .ref v1, .ref v2, .ref v3, .ref v4, .long 0, .long 0, .int 1, .int 0, .ref v9, .int 0, .int 0, .int (-1), .ref v13, .int 0, .int 0, .int 0, .int 0, .int 0, .int 0, .int 0, .int 0, .int 0, .int 0, .int 0, .long 0, .int 0, .ref v27, .ref v28, .ref v29, .ref v30, .ref v31, .ref v32, .ref v33, .ref v34, .ref v35, .ref v36, .ref v37, .int 0])), (v0, .inl (cA 0, 326, .inl (upd fs 0 a)))] := hD
  generalize (upd fs 0 a) = fn7 at hP hD
  have hP : va_P D vwCl [(w0, .inr (11, [.ref v0, .ref v1, .ref v2, .ref v3, .ref v4, .long 0, .long 0, .int 1, .int 0, .ref v9, .int 0, .int 0, .int (-1), .ref v13, .int 0, .int 0, .int 0, .int 0, .int 0, .int 0, .int 0, .int 0, .int 0, .int 0, .int 0, .long 0, .int 0, .ref v27, .ref v28, .ref v29, .ref v30, .ref v31, .ref v32, .ref v33, .ref v34, .ref v35, .ref v36, .ref v37, .int 0])), (v0, .inl (cA 0, 326, .inl fn7))] H := hP
  have hD : va_D A [(w0, .inr (11, [.ref v0, .ref v1, .ref v2, .ref v3, .ref v4, .long 0, .long 0, .int 1, .int 0, .ref v9, .int 0, .int 0, .int (-1), .ref v13, .int 0, .int 0, .int 0, .int 0, .int 0, .int 0, .int 0, .int 0, .int 0, .int 0, .int 0, .long 0, .int 0, .ref v27, .ref v28, .ref v29, .ref v30, .ref v31, .ref v32, .ref v33, .ref v34, .ref v35, .ref v36, .ref v37, .int 0])), (v0, .inl (cA 0, 326, .inl fn7))] := hD
  refine lv_aload_n hx hb dX10_setRate_58 rfl (lv_at hl 1 rfl) ?_
  refine va_get (D := D) (ci := 11) (v := .ref v0) (C := RX10) (T := TX10) (N := 39) hx hb hts inX10 hown hK hP 0 rfl rfl 0 (by decide) (hts (.fieldLink RX10 7 "EscrowDeskModel" "s" "[I") (by decide +kernel)) (fun _ h9 => h9) rfl dX10_setRate_59 ?_
  refine lv_iconst (v := 1) hx hb dX10_setRate_62 (by decide) ?_
  refine lv_iload_n hx hb dX10_setRate_63 rfl (lv_at hl 3 rfl) ?_
  refine va_iast hx hb hK hP hD hS 1 0 rfl rfl (vp_in_iff.mpr (by decide)) dX10_setRate_64 (fun H locs hP hD hS => ?_)
  have hP : va_P D vwCl [(w0, .inr (11, [.ref v0, .ref v1, .ref v2, .ref v3, .ref v4, .long 0, .long 0, .int 1, .int 0, .ref v9, .int 0, .int 0, .int (-1), .ref v13, .int 0, .int 0, .int 0, .int 0, .int 0, .int 0, .int 0, .int 0, .int 0, .int 0, .int 0, .long 0, .int 0, .ref v27, .ref v28, .ref v29, .ref v30, .ref v31, .ref v32, .ref v33, .ref v34, .ref v35, .ref v36, .ref v37, .int 0])), (v0, .inl (cA 0, 326, .inl (upd fn7 1 360)))] H := hP
  have hD : va_D A [(w0, .inr (11, [.ref v0, .ref v1, .ref v2, .ref v3, .ref v4, .long 0, .long 0, .int 1, .int 0, .ref v9, .int 0, .int 0, .int (-1), .ref v13, .int 0, .int 0, .int 0, .int 0, .int 0, .int 0, .int 0, .int 0, .int 0, .int 0, .int 0, .long 0, .int 0, .ref v27, .ref v28, .ref v29, .ref v30, .ref v31, .ref v32, .ref v33, .ref v34, .ref v35, .ref v36, .ref v37, .int 0])), (v0, .inl (cA 0, 326, .inl (upd fn7 1 360)))] := hD
  generalize (upd fn7 1 360) = fn8 at hP hD
  have hP : va_P D vwCl [(w0, .inr (11, [.ref v0, .ref v1, .ref v2, .ref v3, .ref v4, .long 0, .long 0, .int 1, .int 0, .ref v9, .int 0, .int 0, .int (-1), .ref v13, .int 0, .int 0, .int 0, .int 0, .int 0, .int 0, .int 0, .int 0, .int 0, .int 0, .int 0, .long 0, .int 0, .ref v27, .ref v28, .ref v29, .ref v30, .ref v31, .ref v32, .ref v33, .ref v34, .ref v35, .ref v36, .ref v37, .int 0])), (v0, .inl (cA 0, 326, .inl fn8))] H := hP
  have hD : va_D A [(w0, .inr (11, [.ref v0, .ref v1, .ref v2, .ref v3, .ref v4, .long 0, .long 0, .int 1, .int 0, .ref v9, .int 0, .int 0, .int (-1), .ref v13, .int 0, .int 0, .int 0, .int 0, .int 0, .int 0, .int 0, .int 0, .int 0, .int 0, .int 0, .long 0, .int 0, .ref v27, .ref v28, .ref v29, .ref v30, .ref v31, .ref v32, .ref v33, .ref v34, .ref v35, .ref v36, .ref v37, .int 0])), (v0, .inl (cA 0, 326, .inl fn8))] := hD
  refine lv_iload_n hx hb dX10_setRate_65 rfl (lv_at hl 0 rfl) ?_
  have hP9 := hP.sub (ws' := [(w0, .inr (11, [.ref v0, .ref v1, .ref v2, .ref v3, .ref v4, .long 0, .long 0, .int 1, .int 0, .ref v9, .int 0, .int 0, .int (-1), .ref v13, .int 0, .int 0, .int 0, .int 0, .int 0, .int 0, .int 0, .int 0, .int 0, .int 0, .int 0, .long 0, .int 0, .ref v27, .ref v28, .ref v29, .ref v30, .ref v31, .ref v32, .ref v33, .ref v34, .ref v35, .ref v36, .ref v37, .int 0]))]) [0] rfl
  have hD9 := hD.sub (ws' := [(w0, .inr (11, [.ref v0, .ref v1, .ref v2, .ref v3, .ref v4, .long 0, .long 0, .int 1, .int 0, .ref v9, .int 0, .int 0, .int (-1), .ref v13, .int 0, .int 0, .int 0, .int 0, .int 0, .int 0, .int 0, .int 0, .int 0, .int 0, .int 0, .long 0, .int 0, .ref v27, .ref v28, .ref v29, .ref v30, .ref v31, .ref v32, .ref v33, .ref v34, .ref v35, .ref v36, .ref v37, .int 0]))]) [0] (by decide) rfl
  refine W.widen (k := 0) (n := 0) (Nat.le_of_ble_eq_true rfl) (Nat.le_of_ble_eq_true rfl) ?_
  exact W.iret (v := 0) hx hb hr (fun t ht hW => ⟨⟨0, (), rfl, rfl, by rw [ht]; exact hP9, hD9⟩, hS.F ht⟩) hS.2.2 dX10_setRate_66

set_option maxHeartbeats 4000000 in
set_option maxRecDepth 100000 in
/-- setRate within -/
theorem c_m_setRate_365 (l : Launch) (D : va_G) (cA : Nat → ClassId) (sa : Nat → Nat) (w0 v0 v1 v2 v3 v4 v9 v13 v27 v28 v29 v30 v31 v32 v33 v34 v35 v36 v37 : Nat) (th : Int32) (fs fh : Nat → Int32) (fq : Nat → Int64) (a : Int32) (sz : Nat) (hz : Zs fs) (h1 : ¬ a < 0) (h2 : ¬ 3000 < a) : Met l yX10_setRate wsX10_setRate ({ frames := 1, cells := 0, slots := 0, locals := 25 }) (va_Pc [.ref w0, .int a, .int 365] (Wd D cA sa [(w0, .inr (11, [.ref v0, .ref v1, .ref v2, .ref v3, .ref v4, .long 0, .long 0, .int 0, .int th, .ref v9, .int 0, .int 0, .int (-1), .ref v13, .int 0, .int 0, .int 0, .int 0, .int 0, .int 0, .int 0, .int 0, .int 0, .int 0, .int 0, .long 0, .int 0, .ref v27, .ref v28, .ref v29, .ref v30, .ref v31, .ref v32, .ref v33, .ref v34, .ref v35, .ref v36, .ref v37, .int 0])), (v0, .inl (cA 0, 326, .inl fs)), (v3, .inl (cA 0, 3260, .inl fh)), (v4, .inl (cA 1, 10, .inr (.inl fq)))] sz)) (va_Qi (fun (r : Int32) (_ : Unit) => r = 0) (fun (_ : Unit) t => Wq D (va_A [(w0, .inr (11, [.ref v0, .ref v1, .ref v2, .ref v3, .ref v4, .long 0, .long 0, .int 0, .int th, .ref v9, .int 0, .int 0, .int (-1), .ref v13, .int 0, .int 0, .int 0, .int 0, .int 0, .int 0, .int 0, .int 0, .int 0, .int 0, .int 0, .long 0, .int 0, .ref v27, .ref v28, .ref v29, .ref v30, .ref v31, .ref v32, .ref v33, .ref v34, .ref v35, .ref v36, .ref v37, .int 0])), (v0, .inl (cA 0, 326, .inl fs)), (v3, .inl (cA 0, 3260, .inl fh)), (v4, .inl (cA 1, 10, .inr (.inl fq)))] sz) [(w0, .inr (11, [.ref v0, .ref v1, .ref v2, .ref v3, .ref v4, .long 0, .long 0, .int 1, .int 0, .ref v9, .int 0, .int 0, .int (-1), .ref v13, .int 0, .int 0, .int 0, .int 0, .int 0, .int 0, .int 0, .int 0, .int 0, .int 0, .int 0, .long 0, .int 0, .ref v27, .ref v28, .ref v29, .ref v30, .ref v31, .ref v32, .ref v33, .ref v34, .ref v35, .ref v36, .ref v37, .int 0]))] t) (va_A [(w0, .inr (11, [.ref v0, .ref v1, .ref v2, .ref v3, .ref v4, .long 0, .long 0, .int 0, .int th, .ref v9, .int 0, .int 0, .int (-1), .ref v13, .int 0, .int 0, .int 0, .int 0, .int 0, .int 0, .int 0, .int 0, .int 0, .int 0, .int 0, .long 0, .int 0, .ref v27, .ref v28, .ref v29, .ref v30, .ref v31, .ref v32, .ref v33, .ref v34, .ref v35, .ref v36, .ref v37, .int 0])), (v0, .inl (cA 0, 326, .inl fs)), (v3, .inl (cA 0, 3260, .inl fh)), (v4, .inl (cA 1, 10, .inr (.inl fq)))] sz)) 0 0 (va_A [(w0, .inr (11, [.ref v0, .ref v1, .ref v2, .ref v3, .ref v4, .long 0, .long 0, .int 0, .int th, .ref v9, .int 0, .int 0, .int (-1), .ref v13, .int 0, .int 0, .int 0, .int 0, .int 0, .int 0, .int 0, .int 0, .int 0, .int 0, .int 0, .long 0, .int 0, .ref v27, .ref v28, .ref v29, .ref v30, .ref v31, .ref v32, .ref v33, .ref v34, .ref v35, .ref v36, .ref v37, .int 0])), (v0, .inl (cA 0, 326, .inl fs)), (v3, .inl (cA 0, 3260, .inl fh)), (v4, .inl (cA 1, 10, .inr (.inl fq)))] sz) := by
  refine Met.ofW (cc := cX10_setRate) (maxL := 4) (ret := (some .int)) (by decide) rfl ?_
  intro p e s m args below meth c s₁ B hml hv
  obtain ⟨rfl, hsz, hP, hK, hD0, hC, hZ⟩ := hv
  have hx := B.exec
  have hb := B.bytes
  have hr := B.returns
  have hts := atoms_spec (ws := wsX10_setRate) B.pre
  have hown : s.vm.findClass RX10 = some m.cls := findClass_of_methodNamed B.named
  have hlocks := B.notSynchronized
  subst hsz
  have hD := hD0.self (sz := s.heap.size)
  generalize hAe : va_A [(w0, .inr (11, [.ref v0, .ref v1, .ref v2, .ref v3, .ref v4, .long 0, .long 0, .int 0, .int th, .ref v9, .int 0, .int 0, .int (-1), .ref v13, .int 0, .int 0, .int 0, .int 0, .int 0, .int 0, .int 0, .int 0, .int 0, .int 0, .int 0, .long 0, .int 0, .ref v27, .ref v28, .ref v29, .ref v30, .ref v31, .ref v32, .ref v33, .ref v34, .ref v35, .ref v36, .ref v37, .int 0])), (v0, .inl (cA 0, 326, .inl fs)), (v3, .inl (cA 0, 3260, .inl fh)), (v4, .inl (cA 1, 10, .inr (.inl fq)))] s.heap.size = A at hD hZ ⊢
  have hA : ∀ q : Nat, s.heap.size ≤ q → A q := fun q h => by rw [← hAe]; exact Or.inr h
  have hS : va_S A s.heap s.heap [] := va_S.rf
  have hP : va_P D vwCl [(w0, .inr (11, [.ref v0, .ref v1, .ref v2, .ref v3, .ref v4, .long 0, .long 0, .int 0, .int th, .ref v9, .int 0, .int 0, .int (-1), .ref v13, .int 0, .int 0, .int 0, .int 0, .int 0, .int 0, .int 0, .int 0, .int 0, .int 0, .int 0, .long 0, .int 0, .ref v27, .ref v28, .ref v29, .ref v30, .ref v31, .ref v32, .ref v33, .ref v34, .ref v35, .ref v36, .ref v37, .int 0])), (v0, .inl (cA 0, 326, .inl fs)), (v3, .inl (cA 0, 3260, .inl fh)), (v4, .inl (cA 1, 10, .inr (.inl fq)))] s.heap := hP
  have hl := lv_entry ([.ref w0, .int a, .int 365]) (n := 4) (Nat.le_of_ble_eq_true rfl)
  rw [lg_entry_eq]
  generalize (lg_sl ([.ref w0, .int a, .int 365]) ++ List.replicate (4 - (lg_sl ([.ref w0, .int a, .int 365])).length) Slot.unset).toArray = ls at hl ⊢
  have hl : lv_has ls 4 [(0, .ref w0), (1, .int a), (2, .int 365)] := hl
  have inX10 : ∀ w ∈ u_ws RX10 TX10 39, w ∈ wsX10_setRate := by decide +kernel
  refine lv_aload_n hx hb dX10_setRate_0 rfl (lv_at hl 0 rfl) ?_
  refine lv_iload_n hx hb dX10_setRate_1 rfl (lv_at hl 1 rfl) ?_
  refine lv_i2l (v := (a.toInt64)) hx hb dX10_setRate_2 rfl ?_
  refine lv_lconst (v := 0) hx hb dX10_setRate_3 (by decide) ?_
  refine lv_ldc2 (v := 3000) hx hb hown (hts (.constantLong RX10 408 3000) (by decide +kernel)) dX10_setRate_4 ?_
  have hPc := hP.sub (ws' := []) [] rfl
  have hDc := hD.sub (ws' := []) [] (by decide) rfl
  have hFc := va_free (wc := []) hD hS hA [] rfl
  refine va_calli (va_runS (As := [.long (a.toInt64), .long 0, .long 3000]) (rest := [.ref w0]) ⟨hx, hb, hml, hown, hts⟩ (c_btw_t l D cA sa (a.toInt64) 0 3000 s.heap.size (in_l (by decide) (by decide) h1 h2)) (va_cwS 3 hts gX10_setRate_X10_between rfl rfl rfl (by decide +kernel) ⟨(Nat.le_of_ble_eq_true rfl), (Nat.le_of_ble_eq_true rfl)⟩) ⟨Wd.blind, fun U hU hW => ⟨rfl, Wd.call hPc hDc hK hC hZ hS hFc U hU hW⟩⟩ rfl rfl hl.1 rfl (lv_room (Nat.le_of_ble_eq_true rfl)) dX10_setRate_7 ⟨(Nat.le_of_ble_eq_true rfl), (Nat.le_of_ble_eq_true rfl)⟩) hS (fun q _ h => hFc q h) hFc (fun rn1 u t H1 locs ht hvm hw hB hz1 hk1 hS => ?_)
  obtain ⟨hP1, hD1⟩ := hB
  rw [ht] at hP1
  obtain ⟨hP, hD⟩ := va_join (wr := [(w0, .inr (11, [.ref v0, .ref v1, .ref v2, .ref v3, .ref v4, .long 0, .long 0, .int 0, .int th, .ref v9, .int 0, .int 0, .int (-1), .ref v13, .int 0, .int 0, .int 0, .int 0, .int 0, .int 0, .int 0, .int 0, .int 0, .int 0, .int 0, .long 0, .int 0, .ref v27, .ref v28, .ref v29, .ref v30, .ref v31, .ref v32, .ref v33, .ref v34, .ref v35, .ref v36, .ref v37, .int 0])), (v0, .inl (cA 0, 326, .inl fs)), (v3, .inl (cA 0, 3260, .inl fh)), (v4, .inl (cA 1, 10, .inr (.inl fq)))]) (w1 := []) hP hD [] [0, 1, 2, 3] rfl rfl (by decide) (by decide) hk1 hFc hP1 hD1
  generalize H1 = H at hP hS ⊢
  have hP : va_P D vwCl [(w0, .inr (11, [.ref v0, .ref v1, .ref v2, .ref v3, .ref v4, .long 0, .long 0, .int 0, .int th, .ref v9, .int 0, .int 0, .int (-1), .ref v13, .int 0, .int 0, .int 0, .int 0, .int 0, .int 0, .int 0, .int 0, .int 0, .int 0, .int 0, .long 0, .int 0, .ref v27, .ref v28, .ref v29, .ref v30, .ref v31, .ref v32, .ref v33, .ref v34, .ref v35, .ref v36, .ref v37, .int 0])), (v0, .inl (cA 0, 326, .inl fs)), (v3, .inl (cA 0, 3260, .inl fh)), (v4, .inl (cA 1, 10, .inr (.inl fq)))] H := hP
  have hD : va_D A [(w0, .inr (11, [.ref v0, .ref v1, .ref v2, .ref v3, .ref v4, .long 0, .long 0, .int 0, .int th, .ref v9, .int 0, .int 0, .int (-1), .ref v13, .int 0, .int 0, .int 0, .int 0, .int 0, .int 0, .int 0, .int 0, .int 0, .int 0, .int 0, .long 0, .int 0, .ref v27, .ref v28, .ref v29, .ref v30, .ref v31, .ref v32, .ref v33, .ref v34, .ref v35, .ref v36, .ref v37, .int 0])), (v0, .inl (cA 0, 326, .inl fs)), (v3, .inl (cA 0, 3260, .inl fh)), (v4, .inl (cA 1, 10, .inr (.inl fq)))] := hD
  obtain rfl : rn1 = 1 := hw
  refine lv_if_eq (tgt := 31) hx hb dX10_setRate_10 (by decide) (fun c9 => absurd c9 (by decide)) (fun c2 => ?_)
  refine lv_iload_n hx hb dX10_setRate_13 rfl (lv_at hl 2 rfl) ?_
  refine lv_sipush (v := 360) hx hb dX10_setRate_14 (by decide) ?_
  refine lv_icmp_eq (tgt := 27) hx hb dX10_setRate_17 (by decide) (fun c9 => absurd c9 (by decide)) (fun c3 => ?_)
  refine lv_iload_n hx hb dX10_setRate_20 rfl (lv_at hl 2 rfl) ?_
  refine lv_sipush (v := 365) hx hb dX10_setRate_21 (by decide) ?_
  refine lv_icmp_ne (tgt := 31) hx hb dX10_setRate_24 (by decide) (fun c9 => absurd c9 (by decide)) (fun c4 => ?_)
  refine lv_iconst (v := 1) hx hb dX10_setRate_27 (by decide) ?_
  refine lv_goto (tgt := 32) hx hb dX10_setRate_28 (by decide) ?_
  have hPc := hP.sub (ws' := [(w0, .inr (11, [.ref v0, .ref v1, .ref v2, .ref v3, .ref v4, .long 0, .long 0, .int 0, .int th, .ref v9, .int 0, .int 0, .int (-1), .ref v13, .int 0, .int 0, .int 0, .int 0, .int 0, .int 0, .int 0, .int 0, .int 0, .int 0, .int 0, .long 0, .int 0, .ref v27, .ref v28, .ref v29, .ref v30, .ref v31, .ref v32, .ref v33, .ref v34, .ref v35, .ref v36, .ref v37, .int 0]))]) [0] rfl
  have hDc := hD.sub (ws' := [(w0, .inr (11, [.ref v0, .ref v1, .ref v2, .ref v3, .ref v4, .long 0, .long 0, .int 0, .int th, .ref v9, .int 0, .int 0, .int (-1), .ref v13, .int 0, .int 0, .int 0, .int 0, .int 0, .int 0, .int 0, .int 0, .int 0, .int 0, .int 0, .long 0, .int 0, .ref v27, .ref v28, .ref v29, .ref v30, .ref v31, .ref v32, .ref v33, .ref v34, .ref v35, .ref v36, .ref v37, .int 0]))]) [0] (by decide) rfl
  have hFc := va_free (wc := [(w0, .inr (11, [.ref v0, .ref v1, .ref v2, .ref v3, .ref v4, .long 0, .long 0, .int 0, .int th, .ref v9, .int 0, .int 0, .int (-1), .ref v13, .int 0, .int 0, .int 0, .int 0, .int 0, .int 0, .int 0, .int 0, .int 0, .int 0, .int 0, .long 0, .int 0, .ref v27, .ref v28, .ref v29, .ref v30, .ref v31, .ref v32, .ref v33, .ref v34, .ref v35, .ref v36, .ref v37, .int 0]))]) hD hS hA [0] rfl
  refine va_calli (va_runV (As := [.int 1]) (rest := []) ⟨hx, hb, hml, hown, hts⟩ (c_m_good_1 l D cA sa w0 v0 v1 v2 v3 v4 v9 v13 v27 v28 v29 v30 v31 v32 v33 v34 v35 v36 v37 th H.size) (cwV 1 hts gX10_setRate_X10_good rfl rfl rfl (by decide +kernel) ⟨(Nat.le_of_ble_eq_true rfl), (Nat.le_of_ble_eq_true rfl)⟩) ⟨Wd.blind, va_recv hK hPc (ci := 11) (q0 := 0) rfl rfl, fun U hU hW => ⟨rfl, Wd.call hPc hDc hK hC hZ hS hFc U hU hW⟩⟩ rfl rfl hl.1 rfl (lv_room (Nat.le_of_ble_eq_true rfl)) dX10_setRate_32 ⟨(Nat.le_of_ble_eq_true rfl), (Nat.le_of_ble_eq_true rfl)⟩) hS (fun q _ h => hFc q h) hFc (fun rn5 u t H1 locs ht hvm hw hB hz1 hk1 hS => ?_)
  obtain ⟨hP1, hD1⟩ := hB
  rw [ht] at hP1
  obtain ⟨hP, hD⟩ := va_join (wr := [(v0, .inl (cA 0, 326, .inl fs)), (v3, .inl (cA 0, 3260, .inl fh)), (v4, .inl (cA 1, 10, .inr (.inl fq)))]) (w1 := [(w0, .inr (11, [.ref v0, .ref v1, .ref v2, .ref v3, .ref v4, .long 0, .long 0, .int 0, .int 0, .ref v9, .int 0, .int 0, .int (-1), .ref v13, .int 0, .int 0, .int 0, .int 0, .int 0, .int 0, .int 0, .int 0, .int 0, .int 0, .int 0, .long 0, .int 0, .ref v27, .ref v28, .ref v29, .ref v30, .ref v31, .ref v32, .ref v33, .ref v34, .ref v35, .ref v36, .ref v37, .int 0]))]) hP hD [0] [1, 2, 3] rfl rfl (by decide) (by decide) hk1 hFc hP1 hD1
  generalize H1 = H at hP hS ⊢
  have hP : va_P D vwCl [(v0, .inl (cA 0, 326, .inl fs)), (v3, .inl (cA 0, 3260, .inl fh)), (v4, .inl (cA 1, 10, .inr (.inl fq))), (w0, .inr (11, [.ref v0, .ref v1, .ref v2, .ref v3, .ref v4, .long 0, .long 0, .int 0, .int 0, .ref v9, .int 0, .int 0, .int (-1), .ref v13, .int 0, .int 0, .int 0, .int 0, .int 0, .int 0, .int 0, .int 0, .int 0, .int 0, .int 0, .long 0, .int 0, .ref v27, .ref v28, .ref v29, .ref v30, .ref v31, .ref v32, .ref v33, .ref v34, .ref v35, .ref v36, .ref v37, .int 0]))] H := hP
  have hD : va_D A [(v0, .inl (cA 0, 326, .inl fs)), (v3, .inl (cA 0, 3260, .inl fh)), (v4, .inl (cA 1, 10, .inr (.inl fq))), (w0, .inr (11, [.ref v0, .ref v1, .ref v2, .ref v3, .ref v4, .long 0, .long 0, .int 0, .int 0, .ref v9, .int 0, .int 0, .int (-1), .ref v13, .int 0, .int 0, .int 0, .int 0, .int 0, .int 0, .int 0, .int 0, .int 0, .int 0, .int 0, .long 0, .int 0, .ref v27, .ref v28, .ref v29, .ref v30, .ref v31, .ref v32, .ref v33, .ref v34, .ref v35, .ref v36, .ref v37, .int 0]))] := hD
  obtain rfl : rn5 = 1 := hw
  refine lv_if_ne (tgt := 40) hx hb dX10_setRate_35 (by decide) (fun c6 => ?_) (fun c9 => absurd c9 (by decide))
  refine lv_aload_n hx hb dX10_setRate_40 rfl (lv_at hl 0 rfl) ?_
  have hPc := hP.sub (ws' := [(w0, .inr (11, [.ref v0, .ref v1, .ref v2, .ref v3, .ref v4, .long 0, .long 0, .int 0, .int 0, .ref v9, .int 0, .int 0, .int (-1), .ref v13, .int 0, .int 0, .int 0, .int 0, .int 0, .int 0, .int 0, .int 0, .int 0, .int 0, .int 0, .long 0, .int 0, .ref v27, .ref v28, .ref v29, .ref v30, .ref v31, .ref v32, .ref v33, .ref v34, .ref v35, .ref v36, .ref v37, .int 0])), (v0, .inl (cA 0, 326, .inl fs)), (v3, .inl (cA 0, 3260, .inl fh)), (v4, .inl (cA 1, 10, .inr (.inl fq)))]) [3, 0, 1, 2] rfl
  have hDc := hD.sub (ws' := [(w0, .inr (11, [.ref v0, .ref v1, .ref v2, .ref v3, .ref v4, .long 0, .long 0, .int 0, .int 0, .ref v9, .int 0, .int 0, .int (-1), .ref v13, .int 0, .int 0, .int 0, .int 0, .int 0, .int 0, .int 0, .int 0, .int 0, .int 0, .int 0, .long 0, .int 0, .ref v27, .ref v28, .ref v29, .ref v30, .ref v31, .ref v32, .ref v33, .ref v34, .ref v35, .ref v36, .ref v37, .int 0])), (v0, .inl (cA 0, 326, .inl fs)), (v3, .inl (cA 0, 3260, .inl fh)), (v4, .inl (cA 1, 10, .inr (.inl fq)))]) [3, 0, 1, 2] (by decide) rfl
  have hFc := va_free (wc := [(w0, .inr (11, [.ref v0, .ref v1, .ref v2, .ref v3, .ref v4, .long 0, .long 0, .int 0, .int 0, .ref v9, .int 0, .int 0, .int (-1), .ref v13, .int 0, .int 0, .int 0, .int 0, .int 0, .int 0, .int 0, .int 0, .int 0, .int 0, .int 0, .long 0, .int 0, .ref v27, .ref v28, .ref v29, .ref v30, .ref v31, .ref v32, .ref v33, .ref v34, .ref v35, .ref v36, .ref v37, .int 0])), (v0, .inl (cA 0, 326, .inl fs)), (v3, .inl (cA 0, 3260, .inl fh)), (v4, .inl (cA 1, 10, .inr (.inl fq)))]) hD hS hA [3, 0, 1, 2] rfl
  refine va_callv (va_runV (As := []) (rest := []) ⟨hx, hb, hml, hown, hts⟩ (c_m_remember l D cA sa w0 v0 v1 v2 v3 v4 v9 v13 v27 v28 v29 v30 v31 v32 v33 v34 v35 v36 v37 0 fs fh fq H.size) (cwV 0 hts gX10_setRate_X10_remember rfl rfl rfl (by decide +kernel) ⟨(Nat.le_of_ble_eq_true rfl), (Nat.le_of_ble_eq_true rfl)⟩) ⟨Wd.blind, va_recv hK hPc (ci := 11) (q0 := 0) rfl rfl, fun U hU hW => ⟨rfl, Wd.call hPc hDc hK hC hZ hS hFc U hU hW⟩⟩ rfl rfl hl.1 rfl (lv_room (Nat.le_of_ble_eq_true rfl)) dX10_setRate_41 ⟨(Nat.le_of_ble_eq_true rfl), (Nat.le_of_ble_eq_true rfl)⟩) hS (fun q _ h => hFc q h) hFc (fun u t H1 locs ht hvm hw hB hz1 hk1 hS => ?_)
  obtain ⟨hP1, hD1⟩ := hB
  rw [ht] at hP1
  obtain ⟨hP, hD⟩ := va_join (wr := []) (w1 := [(w0, .inr (11, [.ref v0, .ref v1, .ref v2, .ref v3, .ref v4, .long 0, .long 0, .int 1, .int 0, .ref v9, .int 0, .int 0, .int (-1), .ref v13, .int 0, .int 0, .int 0, .int 0, .int 0, .int 0, .int 0, .int 0, .int 0, .int 0, .int 0, .long 0, .int 0, .ref v27, .ref v28, .ref v29, .ref v30, .ref v31, .ref v32, .ref v33, .ref v34, .ref v35, .ref v36, .ref v37, .int 0])), (v0, .inl (cA 0, 326, .inl fs))]) hP hD [3, 0, 1, 2] [] rfl rfl (by decide) (by decide) hk1 hFc hP1 hD1
  generalize H1 = H at hP hS ⊢
  have hP : va_P D vwCl [(w0, .inr (11, [.ref v0, .ref v1, .ref v2, .ref v3, .ref v4, .long 0, .long 0, .int 1, .int 0, .ref v9, .int 0, .int 0, .int (-1), .ref v13, .int 0, .int 0, .int 0, .int 0, .int 0, .int 0, .int 0, .int 0, .int 0, .int 0, .int 0, .long 0, .int 0, .ref v27, .ref v28, .ref v29, .ref v30, .ref v31, .ref v32, .ref v33, .ref v34, .ref v35, .ref v36, .ref v37, .int 0])), (v0, .inl (cA 0, 326, .inl fs))] H := hP
  have hD : va_D A [(w0, .inr (11, [.ref v0, .ref v1, .ref v2, .ref v3, .ref v4, .long 0, .long 0, .int 1, .int 0, .ref v9, .int 0, .int 0, .int (-1), .ref v13, .int 0, .int 0, .int 0, .int 0, .int 0, .int 0, .int 0, .int 0, .int 0, .int 0, .int 0, .long 0, .int 0, .ref v27, .ref v28, .ref v29, .ref v30, .ref v31, .ref v32, .ref v33, .ref v34, .ref v35, .ref v36, .ref v37, .int 0])), (v0, .inl (cA 0, 326, .inl fs))] := hD
  refine lv_aload_n hx hb dX10_setRate_44 rfl (lv_at hl 0 rfl) ?_
  refine va_get (D := D) (ci := 11) (v := .ref v0) (C := RX10) (T := TX10) (N := 39) hx hb hts inX10 hown hK hP 0 rfl rfl 0 (by decide) (hts (.fieldLink RX10 7 "EscrowDeskModel" "s" "[I") (by decide +kernel)) (fun _ h9 => h9) rfl dX10_setRate_45 ?_
  refine lv_iconst (v := 0) hx hb dX10_setRate_48 (by decide) ?_
  refine va_iald hx hb hK hP 1 0 rfl rfl (vp_in_iff.mpr (by decide)) dX10_setRate_49 ?_
  refine lv_topi (fun yn7 eyn7 => ?_)
  obtain rfl : yn7 = 0 := eyn7.trans (hz.2 0 (by decide) (by decide))
  refine lv_istore_n (lv' := [(3, .int 0), (0, .ref w0), (1, .int a), (2, .int 365)]) hx hb dX10_setRate_50 rfl hl (by decide) rfl (fun ls hl => ?_)
  refine lv_aload_n hx hb dX10_setRate_51 rfl (lv_at hl 1 rfl) ?_
  refine va_get (D := D) (ci := 11) (v := .ref v0) (C := RX10) (T := TX10) (N := 39) hx hb hts inX10 hown hK hP 0 rfl rfl 0 (by decide) (hts (.fieldLink RX10 7 "EscrowDeskModel" "s" "[I") (by decide +kernel)) (fun _ h9 => h9) rfl dX10_setRate_52 ?_
  refine lv_iconst (v := 0) hx hb dX10_setRate_55 (by decide) ?_
  refine lv_iload_n hx hb dX10_setRate_56 rfl (lv_at hl 2 rfl) ?_
  refine va_iast hx hb hK hP hD hS 1 0 rfl rfl (vp_in_iff.mpr (by decide)) dX10_setRate_57 (fun H locs hP hD hS => ?_)
  have hP : va_P D vwCl [(w0, .inr (11, [.ref v0, .ref v1, .ref v2, .ref v3, .ref v4, .long 0, .long 0, .int 1, .int 0, .ref v9, .int 0, .int 0, .int (-1), .ref v13, .int 0, .int 0, .int 0, .int 0, .int 0, .int 0, .int 0, .int 0, .int 0, .int 0, .int 0, .long 0, .int 0, .ref v27, .ref v28, .ref v29, .ref v30, .ref v31, .ref v32, .ref v33, .ref v34, .ref v35, .ref v36, .ref v37, .int 0])), (v0, .inl (cA 0, 326, .inl (upd fs 0 a)))] H := hP
  have hD : va_D A [(w0, .inr (11, [.ref v0, .ref v1, .ref v2, .ref v3, .ref v4, .long 0, .long 0, .int 1, .int 0, .ref v9, .int 0, .int 0, .int (-1), .ref v13, .int 0, .int 0, .int 0, .int 0, .int 0, .int 0, .int 0, .int 0, .int 0, .int 0, .int 0, .long 0, .int 0, .ref v27, .ref v28, .ref v29, .ref v30, .ref v31, .ref v32, .ref v33, .ref v34, .ref v35, .ref v36, .ref v37, .int 0])), (v0, .inl (cA 0, 326, .inl (upd fs 0 a)))] := hD
  generalize (upd fs 0 a) = fn8 at hP hD
  have hP : va_P D vwCl [(w0, .inr (11, [.ref v0, .ref v1, .ref v2, .ref v3, .ref v4, .long 0, .long 0, .int 1, .int 0, .ref v9, .int 0, .int 0, .int (-1), .ref v13, .int 0, .int 0, .int 0, .int 0, .int 0, .int 0, .int 0, .int 0, .int 0, .int 0, .int 0, .long 0, .int 0, .ref v27, .ref v28, .ref v29, .ref v30, .ref v31, .ref v32, .ref v33, .ref v34, .ref v35, .ref v36, .ref v37, .int 0])), (v0, .inl (cA 0, 326, .inl fn8))] H := hP
  have hD : va_D A [(w0, .inr (11, [.ref v0, .ref v1, .ref v2, .ref v3, .ref v4, .long 0, .long 0, .int 1, .int 0, .ref v9, .int 0, .int 0, .int (-1), .ref v13, .int 0, .int 0, .int 0, .int 0, .int 0, .int 0, .int 0, .int 0, .int 0, .int 0, .int 0, .long 0, .int 0, .ref v27, .ref v28, .ref v29, .ref v30, .ref v31, .ref v32, .ref v33, .ref v34, .ref v35, .ref v36, .ref v37, .int 0])), (v0, .inl (cA 0, 326, .inl fn8))] := hD
  refine lv_aload_n hx hb dX10_setRate_58 rfl (lv_at hl 1 rfl) ?_
  refine va_get (D := D) (ci := 11) (v := .ref v0) (C := RX10) (T := TX10) (N := 39) hx hb hts inX10 hown hK hP 0 rfl rfl 0 (by decide) (hts (.fieldLink RX10 7 "EscrowDeskModel" "s" "[I") (by decide +kernel)) (fun _ h9 => h9) rfl dX10_setRate_59 ?_
  refine lv_iconst (v := 1) hx hb dX10_setRate_62 (by decide) ?_
  refine lv_iload_n hx hb dX10_setRate_63 rfl (lv_at hl 3 rfl) ?_
  refine va_iast hx hb hK hP hD hS 1 0 rfl rfl (vp_in_iff.mpr (by decide)) dX10_setRate_64 (fun H locs hP hD hS => ?_)
  have hP : va_P D vwCl [(w0, .inr (11, [.ref v0, .ref v1, .ref v2, .ref v3, .ref v4, .long 0, .long 0, .int 1, .int 0, .ref v9, .int 0, .int 0, .int (-1), .ref v13, .int 0, .int 0, .int 0, .int 0, .int 0, .int 0, .int 0, .int 0, .int 0, .int 0, .int 0, .long 0, .int 0, .ref v27, .ref v28, .ref v29, .ref v30, .ref v31, .ref v32, .ref v33, .ref v34, .ref v35, .ref v36, .ref v37, .int 0])), (v0, .inl (cA 0, 326, .inl (upd fn8 1 365)))] H := hP
  have hD : va_D A [(w0, .inr (11, [.ref v0, .ref v1, .ref v2, .ref v3, .ref v4, .long 0, .long 0, .int 1, .int 0, .ref v9, .int 0, .int 0, .int (-1), .ref v13, .int 0, .int 0, .int 0, .int 0, .int 0, .int 0, .int 0, .int 0, .int 0, .int 0, .int 0, .long 0, .int 0, .ref v27, .ref v28, .ref v29, .ref v30, .ref v31, .ref v32, .ref v33, .ref v34, .ref v35, .ref v36, .ref v37, .int 0])), (v0, .inl (cA 0, 326, .inl (upd fn8 1 365)))] := hD
  generalize (upd fn8 1 365) = fn9 at hP hD
  have hP : va_P D vwCl [(w0, .inr (11, [.ref v0, .ref v1, .ref v2, .ref v3, .ref v4, .long 0, .long 0, .int 1, .int 0, .ref v9, .int 0, .int 0, .int (-1), .ref v13, .int 0, .int 0, .int 0, .int 0, .int 0, .int 0, .int 0, .int 0, .int 0, .int 0, .int 0, .long 0, .int 0, .ref v27, .ref v28, .ref v29, .ref v30, .ref v31, .ref v32, .ref v33, .ref v34, .ref v35, .ref v36, .ref v37, .int 0])), (v0, .inl (cA 0, 326, .inl fn9))] H := hP
  have hD : va_D A [(w0, .inr (11, [.ref v0, .ref v1, .ref v2, .ref v3, .ref v4, .long 0, .long 0, .int 1, .int 0, .ref v9, .int 0, .int 0, .int (-1), .ref v13, .int 0, .int 0, .int 0, .int 0, .int 0, .int 0, .int 0, .int 0, .int 0, .int 0, .int 0, .long 0, .int 0, .ref v27, .ref v28, .ref v29, .ref v30, .ref v31, .ref v32, .ref v33, .ref v34, .ref v35, .ref v36, .ref v37, .int 0])), (v0, .inl (cA 0, 326, .inl fn9))] := hD
  refine lv_iload_n hx hb dX10_setRate_65 rfl (lv_at hl 0 rfl) ?_
  have hP9 := hP.sub (ws' := [(w0, .inr (11, [.ref v0, .ref v1, .ref v2, .ref v3, .ref v4, .long 0, .long 0, .int 1, .int 0, .ref v9, .int 0, .int 0, .int (-1), .ref v13, .int 0, .int 0, .int 0, .int 0, .int 0, .int 0, .int 0, .int 0, .int 0, .int 0, .int 0, .long 0, .int 0, .ref v27, .ref v28, .ref v29, .ref v30, .ref v31, .ref v32, .ref v33, .ref v34, .ref v35, .ref v36, .ref v37, .int 0]))]) [0] rfl
  have hD9 := hD.sub (ws' := [(w0, .inr (11, [.ref v0, .ref v1, .ref v2, .ref v3, .ref v4, .long 0, .long 0, .int 1, .int 0, .ref v9, .int 0, .int 0, .int (-1), .ref v13, .int 0, .int 0, .int 0, .int 0, .int 0, .int 0, .int 0, .int 0, .int 0, .int 0, .int 0, .long 0, .int 0, .ref v27, .ref v28, .ref v29, .ref v30, .ref v31, .ref v32, .ref v33, .ref v34, .ref v35, .ref v36, .ref v37, .int 0]))]) [0] (by decide) rfl
  refine W.widen (k := 0) (n := 0) (Nat.le_of_ble_eq_true rfl) (Nat.le_of_ble_eq_true rfl) ?_
  exact W.iret (v := 0) hx hb hr (fun t ht hW => ⟨⟨0, (), rfl, rfl, by rw [ht]; exact hP9, hD9⟩, hS.F ht⟩) hS.2.2 dX10_setRate_66

set_option maxHeartbeats 4000000 in
set_option maxRecDepth 100000 in
/-- setRate: rate outside -/
theorem c_m_setRate_thr1 (l : Launch) (D : va_G) (cA : Nat → ClassId) (sa : Nat → Nat) (w0 v0 v1 v2 v3 v4 v9 v13 v27 v28 v29 v30 v31 v32 v33 v34 v35 v36 v37 : Nat) (th : Int32) (fs : Nat → Int32) (a b : Int32) (sz : Nat) (hz : Zs fs) (h : a < 0 ∨ 3000 < a) : Met l yX10_setRate wsX10_setRate ({ frames := 1, cells := 0, slots := 0, locals := 25 }) (va_Pc [.ref w0, .int a, .int b] (Wd D cA sa [(w0, .inr (11, [.ref v0, .ref v1, .ref v2, .ref v3, .ref v4, .long 0, .long 0, .int 0, .int th, .ref v9, .int 0, .int 0, .int (-1), .ref v13, .int 0, .int 0, .int 0, .int 0, .int 0, .int 0, .int 0, .int 0, .int 0, .int 0, .int 0, .long 0, .int 0, .ref v27, .ref v28, .ref v29, .ref v30, .ref v31, .ref v32, .ref v33, .ref v34, .ref v35, .ref v36, .ref v37, .int 0])), (v0, .inl (cA 0, 326, .inl fs))] sz)) (va_Qi (fun (r : Int32) (_ : Unit) => r = 0) (fun (_ : Unit) t => Wq D (va_A [(w0, .inr (11, [.ref v0, .ref v1, .ref v2, .ref v3, .ref v4, .long 0, .long 0, .int 0, .int th, .ref v9, .int 0, .int 0, .int (-1), .ref v13, .int 0, .int 0, .int 0, .int 0, .int 0, .int 0, .int 0, .int 0, .int 0, .int 0, .int 0, .long 0, .int 0, .ref v27, .ref v28, .ref v29, .ref v30, .ref v31, .ref v32, .ref v33, .ref v34, .ref v35, .ref v36, .ref v37, .int 0])), (v0, .inl (cA 0, 326, .inl fs))] sz) [(w0, .inr (11, [.ref v0, .ref v1, .ref v2, .ref v3, .ref v4, .long 0, .long 0, .int 0, .int 1, .ref v9, .int 0, .int 0, .int (-1), .ref v13, .int 0, .int 0, .int 0, .int 0, .int 0, .int 0, .int 0, .int 0, .int 0, .int 0, .int 0, .long 0, .int 0, .ref v27, .ref v28, .ref v29, .ref v30, .ref v31, .ref v32, .ref v33, .ref v34, .ref v35, .ref v36, .ref v37, .int 0]))] t) (va_A [(w0, .inr (11, [.ref v0, .ref v1, .ref v2, .ref v3, .ref v4, .long 0, .long 0, .int 0, .int th, .ref v9, .int 0, .int 0, .int (-1), .ref v13, .int 0, .int 0, .int 0, .int 0, .int 0, .int 0, .int 0, .int 0, .int 0, .int 0, .int 0, .long 0, .int 0, .ref v27, .ref v28, .ref v29, .ref v30, .ref v31, .ref v32, .ref v33, .ref v34, .ref v35, .ref v36, .ref v37, .int 0])), (v0, .inl (cA 0, 326, .inl fs))] sz)) 0 0 (va_A [(w0, .inr (11, [.ref v0, .ref v1, .ref v2, .ref v3, .ref v4, .long 0, .long 0, .int 0, .int th, .ref v9, .int 0, .int 0, .int (-1), .ref v13, .int 0, .int 0, .int 0, .int 0, .int 0, .int 0, .int 0, .int 0, .int 0, .int 0, .int 0, .long 0, .int 0, .ref v27, .ref v28, .ref v29, .ref v30, .ref v31, .ref v32, .ref v33, .ref v34, .ref v35, .ref v36, .ref v37, .int 0])), (v0, .inl (cA 0, 326, .inl fs))] sz) := by
  refine Met.ofW (cc := cX10_setRate) (maxL := 4) (ret := (some .int)) (by decide) rfl ?_
  intro p e s m args below meth c s₁ B hml hv
  obtain ⟨rfl, hsz, hP, hK, hD0, hC, hZ⟩ := hv
  have hx := B.exec
  have hb := B.bytes
  have hr := B.returns
  have hts := atoms_spec (ws := wsX10_setRate) B.pre
  have hown : s.vm.findClass RX10 = some m.cls := findClass_of_methodNamed B.named
  have hlocks := B.notSynchronized
  subst hsz
  have hD := hD0.self (sz := s.heap.size)
  generalize hAe : va_A [(w0, .inr (11, [.ref v0, .ref v1, .ref v2, .ref v3, .ref v4, .long 0, .long 0, .int 0, .int th, .ref v9, .int 0, .int 0, .int (-1), .ref v13, .int 0, .int 0, .int 0, .int 0, .int 0, .int 0, .int 0, .int 0, .int 0, .int 0, .int 0, .long 0, .int 0, .ref v27, .ref v28, .ref v29, .ref v30, .ref v31, .ref v32, .ref v33, .ref v34, .ref v35, .ref v36, .ref v37, .int 0])), (v0, .inl (cA 0, 326, .inl fs))] s.heap.size = A at hD hZ ⊢
  have hA : ∀ q : Nat, s.heap.size ≤ q → A q := fun q h => by rw [← hAe]; exact Or.inr h
  have hS : va_S A s.heap s.heap [] := va_S.rf
  have hP : va_P D vwCl [(w0, .inr (11, [.ref v0, .ref v1, .ref v2, .ref v3, .ref v4, .long 0, .long 0, .int 0, .int th, .ref v9, .int 0, .int 0, .int (-1), .ref v13, .int 0, .int 0, .int 0, .int 0, .int 0, .int 0, .int 0, .int 0, .int 0, .int 0, .int 0, .long 0, .int 0, .ref v27, .ref v28, .ref v29, .ref v30, .ref v31, .ref v32, .ref v33, .ref v34, .ref v35, .ref v36, .ref v37, .int 0])), (v0, .inl (cA 0, 326, .inl fs))] s.heap := hP
  have hl := lv_entry ([.ref w0, .int a, .int b]) (n := 4) (Nat.le_of_ble_eq_true rfl)
  rw [lg_entry_eq]
  generalize (lg_sl ([.ref w0, .int a, .int b]) ++ List.replicate (4 - (lg_sl ([.ref w0, .int a, .int b])).length) Slot.unset).toArray = ls at hl ⊢
  have hl : lv_has ls 4 [(0, .ref w0), (1, .int a), (2, .int b)] := hl
  refine lv_aload_n hx hb dX10_setRate_0 rfl (lv_at hl 0 rfl) ?_
  refine lv_iload_n hx hb dX10_setRate_1 rfl (lv_at hl 1 rfl) ?_
  refine lv_i2l (v := (a.toInt64)) hx hb dX10_setRate_2 rfl ?_
  refine lv_lconst (v := 0) hx hb dX10_setRate_3 (by decide) ?_
  refine lv_ldc2 (v := 3000) hx hb hown (hts (.constantLong RX10 408 3000) (by decide +kernel)) dX10_setRate_4 ?_
  have hPc := hP.sub (ws' := []) [] rfl
  have hDc := hD.sub (ws' := []) [] (by decide) rfl
  have hFc := va_free (wc := []) hD hS hA [] rfl
  refine va_calli (va_runS (As := [.long (a.toInt64), .long 0, .long 3000]) (rest := [.ref w0]) ⟨hx, hb, hml, hown, hts⟩ (c_btw_f l D cA sa (a.toInt64) 0 3000 s.heap.size (out_l (by decide) (by decide) h)) (va_cwS 3 hts gX10_setRate_X10_between rfl rfl rfl (by decide +kernel) ⟨(Nat.le_of_ble_eq_true rfl), (Nat.le_of_ble_eq_true rfl)⟩) ⟨Wd.blind, fun U hU hW => ⟨rfl, Wd.call hPc hDc hK hC hZ hS hFc U hU hW⟩⟩ rfl rfl hl.1 rfl (lv_room (Nat.le_of_ble_eq_true rfl)) dX10_setRate_7 ⟨(Nat.le_of_ble_eq_true rfl), (Nat.le_of_ble_eq_true rfl)⟩) hS (fun q _ h => hFc q h) hFc (fun rn1 u t H1 locs ht hvm hw hB hz1 hk1 hS => ?_)
  obtain ⟨hP1, hD1⟩ := hB
  rw [ht] at hP1
  obtain ⟨hP, hD⟩ := va_join (wr := [(w0, .inr (11, [.ref v0, .ref v1, .ref v2, .ref v3, .ref v4, .long 0, .long 0, .int 0, .int th, .ref v9, .int 0, .int 0, .int (-1), .ref v13, .int 0, .int 0, .int 0, .int 0, .int 0, .int 0, .int 0, .int 0, .int 0, .int 0, .int 0, .long 0, .int 0, .ref v27, .ref v28, .ref v29, .ref v30, .ref v31, .ref v32, .ref v33, .ref v34, .ref v35, .ref v36, .ref v37, .int 0])), (v0, .inl (cA 0, 326, .inl fs))]) (w1 := []) hP hD [] [0, 1] rfl rfl (by decide) (by decide) hk1 hFc hP1 hD1
  generalize H1 = H at hP hS ⊢
  have hP : va_P D vwCl [(w0, .inr (11, [.ref v0, .ref v1, .ref v2, .ref v3, .ref v4, .long 0, .long 0, .int 0, .int th, .ref v9, .int 0, .int 0, .int (-1), .ref v13, .int 0, .int 0, .int 0, .int 0, .int 0, .int 0, .int 0, .int 0, .int 0, .int 0, .int 0, .long 0, .int 0, .ref v27, .ref v28, .ref v29, .ref v30, .ref v31, .ref v32, .ref v33, .ref v34, .ref v35, .ref v36, .ref v37, .int 0])), (v0, .inl (cA 0, 326, .inl fs))] H := hP
  have hD : va_D A [(w0, .inr (11, [.ref v0, .ref v1, .ref v2, .ref v3, .ref v4, .long 0, .long 0, .int 0, .int th, .ref v9, .int 0, .int 0, .int (-1), .ref v13, .int 0, .int 0, .int 0, .int 0, .int 0, .int 0, .int 0, .int 0, .int 0, .int 0, .int 0, .long 0, .int 0, .ref v27, .ref v28, .ref v29, .ref v30, .ref v31, .ref v32, .ref v33, .ref v34, .ref v35, .ref v36, .ref v37, .int 0])), (v0, .inl (cA 0, 326, .inl fs))] := hD
  obtain rfl : rn1 = 0 := hw
  refine lv_if_eq (tgt := 31) hx hb dX10_setRate_10 (by decide) (fun c2 => ?_) (fun c9 => absurd c9 (by decide))
  refine lv_iconst (v := 0) hx hb dX10_setRate_31 (by decide) ?_
  have hPc := hP.sub (ws' := [(w0, .inr (11, [.ref v0, .ref v1, .ref v2, .ref v3, .ref v4, .long 0, .long 0, .int 0, .int th, .ref v9, .int 0, .int 0, .int (-1), .ref v13, .int 0, .int 0, .int 0, .int 0, .int 0, .int 0, .int 0, .int 0, .int 0, .int 0, .int 0, .long 0, .int 0, .ref v27, .ref v28, .ref v29, .ref v30, .ref v31, .ref v32, .ref v33, .ref v34, .ref v35, .ref v36, .ref v37, .int 0]))]) [0] rfl
  have hDc := hD.sub (ws' := [(w0, .inr (11, [.ref v0, .ref v1, .ref v2, .ref v3, .ref v4, .long 0, .long 0, .int 0, .int th, .ref v9, .int 0, .int 0, .int (-1), .ref v13, .int 0, .int 0, .int 0, .int 0, .int 0, .int 0, .int 0, .int 0, .int 0, .int 0, .int 0, .long 0, .int 0, .ref v27, .ref v28, .ref v29, .ref v30, .ref v31, .ref v32, .ref v33, .ref v34, .ref v35, .ref v36, .ref v37, .int 0]))]) [0] (by decide) rfl
  have hFc := va_free (wc := [(w0, .inr (11, [.ref v0, .ref v1, .ref v2, .ref v3, .ref v4, .long 0, .long 0, .int 0, .int th, .ref v9, .int 0, .int 0, .int (-1), .ref v13, .int 0, .int 0, .int 0, .int 0, .int 0, .int 0, .int 0, .int 0, .int 0, .int 0, .int 0, .long 0, .int 0, .ref v27, .ref v28, .ref v29, .ref v30, .ref v31, .ref v32, .ref v33, .ref v34, .ref v35, .ref v36, .ref v37, .int 0]))]) hD hS hA [0] rfl
  refine va_calli (va_runV (As := [.int 0]) (rest := []) ⟨hx, hb, hml, hown, hts⟩ (c_m_good_0 l D cA sa w0 v0 v1 v2 v3 v4 v9 v13 v27 v28 v29 v30 v31 v32 v33 v34 v35 v36 v37 th H.size) (cwV 1 hts gX10_setRate_X10_good rfl rfl rfl (by decide +kernel) ⟨(Nat.le_of_ble_eq_true rfl), (Nat.le_of_ble_eq_true rfl)⟩) ⟨Wd.blind, va_recv hK hPc (ci := 11) (q0 := 0) rfl rfl, fun U hU hW => ⟨rfl, Wd.call hPc hDc hK hC hZ hS hFc U hU hW⟩⟩ rfl rfl hl.1 rfl (lv_room (Nat.le_of_ble_eq_true rfl)) dX10_setRate_32 ⟨(Nat.le_of_ble_eq_true rfl), (Nat.le_of_ble_eq_true rfl)⟩) hS (fun q _ h => hFc q h) hFc (fun rn3 u t H1 locs ht hvm hw hB hz1 hk1 hS => ?_)
  obtain ⟨hP1, hD1⟩ := hB
  rw [ht] at hP1
  obtain ⟨hP, hD⟩ := va_join (wr := [(v0, .inl (cA 0, 326, .inl fs))]) (w1 := [(w0, .inr (11, [.ref v0, .ref v1, .ref v2, .ref v3, .ref v4, .long 0, .long 0, .int 0, .int 1, .ref v9, .int 0, .int 0, .int (-1), .ref v13, .int 0, .int 0, .int 0, .int 0, .int 0, .int 0, .int 0, .int 0, .int 0, .int 0, .int 0, .long 0, .int 0, .ref v27, .ref v28, .ref v29, .ref v30, .ref v31, .ref v32, .ref v33, .ref v34, .ref v35, .ref v36, .ref v37, .int 0]))]) hP hD [0] [1] rfl rfl (by decide) (by decide) hk1 hFc hP1 hD1
  generalize H1 = H at hP hS ⊢
  have hP : va_P D vwCl [(v0, .inl (cA 0, 326, .inl fs)), (w0, .inr (11, [.ref v0, .ref v1, .ref v2, .ref v3, .ref v4, .long 0, .long 0, .int 0, .int 1, .ref v9, .int 0, .int 0, .int (-1), .ref v13, .int 0, .int 0, .int 0, .int 0, .int 0, .int 0, .int 0, .int 0, .int 0, .int 0, .int 0, .long 0, .int 0, .ref v27, .ref v28, .ref v29, .ref v30, .ref v31, .ref v32, .ref v33, .ref v34, .ref v35, .ref v36, .ref v37, .int 0]))] H := hP
  have hD : va_D A [(v0, .inl (cA 0, 326, .inl fs)), (w0, .inr (11, [.ref v0, .ref v1, .ref v2, .ref v3, .ref v4, .long 0, .long 0, .int 0, .int 1, .ref v9, .int 0, .int 0, .int (-1), .ref v13, .int 0, .int 0, .int 0, .int 0, .int 0, .int 0, .int 0, .int 0, .int 0, .int 0, .int 0, .long 0, .int 0, .ref v27, .ref v28, .ref v29, .ref v30, .ref v31, .ref v32, .ref v33, .ref v34, .ref v35, .ref v36, .ref v37, .int 0]))] := hD
  obtain rfl : rn3 = 0 := hw
  refine lv_if_ne (tgt := 40) hx hb dX10_setRate_35 (by decide) (fun c9 => absurd c9 (by decide)) (fun c4 => ?_)
  refine lv_iconst (v := 0) hx hb dX10_setRate_38 (by decide) ?_
  have hP9 := hP.sub (ws' := [(w0, .inr (11, [.ref v0, .ref v1, .ref v2, .ref v3, .ref v4, .long 0, .long 0, .int 0, .int 1, .ref v9, .int 0, .int 0, .int (-1), .ref v13, .int 0, .int 0, .int 0, .int 0, .int 0, .int 0, .int 0, .int 0, .int 0, .int 0, .int 0, .long 0, .int 0, .ref v27, .ref v28, .ref v29, .ref v30, .ref v31, .ref v32, .ref v33, .ref v34, .ref v35, .ref v36, .ref v37, .int 0]))]) [1] rfl
  have hD9 := hD.sub (ws' := [(w0, .inr (11, [.ref v0, .ref v1, .ref v2, .ref v3, .ref v4, .long 0, .long 0, .int 0, .int 1, .ref v9, .int 0, .int 0, .int (-1), .ref v13, .int 0, .int 0, .int 0, .int 0, .int 0, .int 0, .int 0, .int 0, .int 0, .int 0, .int 0, .long 0, .int 0, .ref v27, .ref v28, .ref v29, .ref v30, .ref v31, .ref v32, .ref v33, .ref v34, .ref v35, .ref v36, .ref v37, .int 0]))]) [1] (by decide) rfl
  refine W.widen (k := 0) (n := 0) (Nat.le_of_ble_eq_true rfl) (Nat.le_of_ble_eq_true rfl) ?_
  exact W.iret (v := 0) hx hb hr (fun t ht hW => ⟨⟨0, (), rfl, rfl, by rw [ht]; exact hP9, hD9⟩, hS.F ht⟩) hS.2.2 dX10_setRate_39

set_option maxHeartbeats 4000000 in
set_option maxRecDepth 100000 in
/-- setRate: basis outside -/
theorem c_m_setRate_thr2 (l : Launch) (D : va_G) (cA : Nat → ClassId) (sa : Nat → Nat) (w0 v0 v1 v2 v3 v4 v9 v13 v27 v28 v29 v30 v31 v32 v33 v34 v35 v36 v37 : Nat) (th : Int32) (fs : Nat → Int32) (a b : Int32) (sz : Nat) (hz : Zs fs) (h1 : ¬ a < 0) (h2 : ¬ 3000 < a) (h3 : ¬ b = 360) (h4 : ¬ b = 365) : Met l yX10_setRate wsX10_setRate ({ frames := 1, cells := 0, slots := 0, locals := 25 }) (va_Pc [.ref w0, .int a, .int b] (Wd D cA sa [(w0, .inr (11, [.ref v0, .ref v1, .ref v2, .ref v3, .ref v4, .long 0, .long 0, .int 0, .int th, .ref v9, .int 0, .int 0, .int (-1), .ref v13, .int 0, .int 0, .int 0, .int 0, .int 0, .int 0, .int 0, .int 0, .int 0, .int 0, .int 0, .long 0, .int 0, .ref v27, .ref v28, .ref v29, .ref v30, .ref v31, .ref v32, .ref v33, .ref v34, .ref v35, .ref v36, .ref v37, .int 0])), (v0, .inl (cA 0, 326, .inl fs))] sz)) (va_Qi (fun (r : Int32) (_ : Unit) => r = 0) (fun (_ : Unit) t => Wq D (va_A [(w0, .inr (11, [.ref v0, .ref v1, .ref v2, .ref v3, .ref v4, .long 0, .long 0, .int 0, .int th, .ref v9, .int 0, .int 0, .int (-1), .ref v13, .int 0, .int 0, .int 0, .int 0, .int 0, .int 0, .int 0, .int 0, .int 0, .int 0, .int 0, .long 0, .int 0, .ref v27, .ref v28, .ref v29, .ref v30, .ref v31, .ref v32, .ref v33, .ref v34, .ref v35, .ref v36, .ref v37, .int 0])), (v0, .inl (cA 0, 326, .inl fs))] sz) [(w0, .inr (11, [.ref v0, .ref v1, .ref v2, .ref v3, .ref v4, .long 0, .long 0, .int 0, .int 1, .ref v9, .int 0, .int 0, .int (-1), .ref v13, .int 0, .int 0, .int 0, .int 0, .int 0, .int 0, .int 0, .int 0, .int 0, .int 0, .int 0, .long 0, .int 0, .ref v27, .ref v28, .ref v29, .ref v30, .ref v31, .ref v32, .ref v33, .ref v34, .ref v35, .ref v36, .ref v37, .int 0]))] t) (va_A [(w0, .inr (11, [.ref v0, .ref v1, .ref v2, .ref v3, .ref v4, .long 0, .long 0, .int 0, .int th, .ref v9, .int 0, .int 0, .int (-1), .ref v13, .int 0, .int 0, .int 0, .int 0, .int 0, .int 0, .int 0, .int 0, .int 0, .int 0, .int 0, .long 0, .int 0, .ref v27, .ref v28, .ref v29, .ref v30, .ref v31, .ref v32, .ref v33, .ref v34, .ref v35, .ref v36, .ref v37, .int 0])), (v0, .inl (cA 0, 326, .inl fs))] sz)) 0 0 (va_A [(w0, .inr (11, [.ref v0, .ref v1, .ref v2, .ref v3, .ref v4, .long 0, .long 0, .int 0, .int th, .ref v9, .int 0, .int 0, .int (-1), .ref v13, .int 0, .int 0, .int 0, .int 0, .int 0, .int 0, .int 0, .int 0, .int 0, .int 0, .int 0, .long 0, .int 0, .ref v27, .ref v28, .ref v29, .ref v30, .ref v31, .ref v32, .ref v33, .ref v34, .ref v35, .ref v36, .ref v37, .int 0])), (v0, .inl (cA 0, 326, .inl fs))] sz) := by
  refine Met.ofW (cc := cX10_setRate) (maxL := 4) (ret := (some .int)) (by decide) rfl ?_
  intro p e s m args below meth c s₁ B hml hv
  obtain ⟨rfl, hsz, hP, hK, hD0, hC, hZ⟩ := hv
  have hx := B.exec
  have hb := B.bytes
  have hr := B.returns
  have hts := atoms_spec (ws := wsX10_setRate) B.pre
  have hown : s.vm.findClass RX10 = some m.cls := findClass_of_methodNamed B.named
  have hlocks := B.notSynchronized
  subst hsz
  have hD := hD0.self (sz := s.heap.size)
  generalize hAe : va_A [(w0, .inr (11, [.ref v0, .ref v1, .ref v2, .ref v3, .ref v4, .long 0, .long 0, .int 0, .int th, .ref v9, .int 0, .int 0, .int (-1), .ref v13, .int 0, .int 0, .int 0, .int 0, .int 0, .int 0, .int 0, .int 0, .int 0, .int 0, .int 0, .long 0, .int 0, .ref v27, .ref v28, .ref v29, .ref v30, .ref v31, .ref v32, .ref v33, .ref v34, .ref v35, .ref v36, .ref v37, .int 0])), (v0, .inl (cA 0, 326, .inl fs))] s.heap.size = A at hD hZ ⊢
  have hA : ∀ q : Nat, s.heap.size ≤ q → A q := fun q h => by rw [← hAe]; exact Or.inr h
  have hS : va_S A s.heap s.heap [] := va_S.rf
  have hP : va_P D vwCl [(w0, .inr (11, [.ref v0, .ref v1, .ref v2, .ref v3, .ref v4, .long 0, .long 0, .int 0, .int th, .ref v9, .int 0, .int 0, .int (-1), .ref v13, .int 0, .int 0, .int 0, .int 0, .int 0, .int 0, .int 0, .int 0, .int 0, .int 0, .int 0, .long 0, .int 0, .ref v27, .ref v28, .ref v29, .ref v30, .ref v31, .ref v32, .ref v33, .ref v34, .ref v35, .ref v36, .ref v37, .int 0])), (v0, .inl (cA 0, 326, .inl fs))] s.heap := hP
  have hl := lv_entry ([.ref w0, .int a, .int b]) (n := 4) (Nat.le_of_ble_eq_true rfl)
  rw [lg_entry_eq]
  generalize (lg_sl ([.ref w0, .int a, .int b]) ++ List.replicate (4 - (lg_sl ([.ref w0, .int a, .int b])).length) Slot.unset).toArray = ls at hl ⊢
  have hl : lv_has ls 4 [(0, .ref w0), (1, .int a), (2, .int b)] := hl
  refine lv_aload_n hx hb dX10_setRate_0 rfl (lv_at hl 0 rfl) ?_
  refine lv_iload_n hx hb dX10_setRate_1 rfl (lv_at hl 1 rfl) ?_
  refine lv_i2l (v := (a.toInt64)) hx hb dX10_setRate_2 rfl ?_
  refine lv_lconst (v := 0) hx hb dX10_setRate_3 (by decide) ?_
  refine lv_ldc2 (v := 3000) hx hb hown (hts (.constantLong RX10 408 3000) (by decide +kernel)) dX10_setRate_4 ?_
  have hPc := hP.sub (ws' := []) [] rfl
  have hDc := hD.sub (ws' := []) [] (by decide) rfl
  have hFc := va_free (wc := []) hD hS hA [] rfl
  refine va_calli (va_runS (As := [.long (a.toInt64), .long 0, .long 3000]) (rest := [.ref w0]) ⟨hx, hb, hml, hown, hts⟩ (c_btw_t l D cA sa (a.toInt64) 0 3000 s.heap.size (in_l (by decide) (by decide) h1 h2)) (va_cwS 3 hts gX10_setRate_X10_between rfl rfl rfl (by decide +kernel) ⟨(Nat.le_of_ble_eq_true rfl), (Nat.le_of_ble_eq_true rfl)⟩) ⟨Wd.blind, fun U hU hW => ⟨rfl, Wd.call hPc hDc hK hC hZ hS hFc U hU hW⟩⟩ rfl rfl hl.1 rfl (lv_room (Nat.le_of_ble_eq_true rfl)) dX10_setRate_7 ⟨(Nat.le_of_ble_eq_true rfl), (Nat.le_of_ble_eq_true rfl)⟩) hS (fun q _ h => hFc q h) hFc (fun rn1 u t H1 locs ht hvm hw hB hz1 hk1 hS => ?_)
  obtain ⟨hP1, hD1⟩ := hB
  rw [ht] at hP1
  obtain ⟨hP, hD⟩ := va_join (wr := [(w0, .inr (11, [.ref v0, .ref v1, .ref v2, .ref v3, .ref v4, .long 0, .long 0, .int 0, .int th, .ref v9, .int 0, .int 0, .int (-1), .ref v13, .int 0, .int 0, .int 0, .int 0, .int 0, .int 0, .int 0, .int 0, .int 0, .int 0, .int 0, .long 0, .int 0, .ref v27, .ref v28, .ref v29, .ref v30, .ref v31, .ref v32, .ref v33, .ref v34, .ref v35, .ref v36, .ref v37, .int 0])), (v0, .inl (cA 0, 326, .inl fs))]) (w1 := []) hP hD [] [0, 1] rfl rfl (by decide) (by decide) hk1 hFc hP1 hD1
  generalize H1 = H at hP hS ⊢
  have hP : va_P D vwCl [(w0, .inr (11, [.ref v0, .ref v1, .ref v2, .ref v3, .ref v4, .long 0, .long 0, .int 0, .int th, .ref v9, .int 0, .int 0, .int (-1), .ref v13, .int 0, .int 0, .int 0, .int 0, .int 0, .int 0, .int 0, .int 0, .int 0, .int 0, .int 0, .long 0, .int 0, .ref v27, .ref v28, .ref v29, .ref v30, .ref v31, .ref v32, .ref v33, .ref v34, .ref v35, .ref v36, .ref v37, .int 0])), (v0, .inl (cA 0, 326, .inl fs))] H := hP
  have hD : va_D A [(w0, .inr (11, [.ref v0, .ref v1, .ref v2, .ref v3, .ref v4, .long 0, .long 0, .int 0, .int th, .ref v9, .int 0, .int 0, .int (-1), .ref v13, .int 0, .int 0, .int 0, .int 0, .int 0, .int 0, .int 0, .int 0, .int 0, .int 0, .int 0, .long 0, .int 0, .ref v27, .ref v28, .ref v29, .ref v30, .ref v31, .ref v32, .ref v33, .ref v34, .ref v35, .ref v36, .ref v37, .int 0])), (v0, .inl (cA 0, 326, .inl fs))] := hD
  obtain rfl : rn1 = 1 := hw
  refine lv_if_eq (tgt := 31) hx hb dX10_setRate_10 (by decide) (fun c9 => absurd c9 (by decide)) (fun c2 => ?_)
  refine lv_iload_n hx hb dX10_setRate_13 rfl (lv_at hl 2 rfl) ?_
  refine lv_sipush (v := 360) hx hb dX10_setRate_14 (by decide) ?_
  refine lv_icmp_eq (tgt := 27) hx hb dX10_setRate_17 (by decide) (fun c9 => absurd c9 h3) (fun c3 => ?_)
  refine lv_iload_n hx hb dX10_setRate_20 rfl (lv_at hl 2 rfl) ?_
  refine lv_sipush (v := 365) hx hb dX10_setRate_21 (by decide) ?_
  refine lv_icmp_ne (tgt := 31) hx hb dX10_setRate_24 (by decide) (fun c4 => ?_) (fun c9 => absurd c9 (fun h5 => h4 h5))
  refine lv_iconst (v := 0) hx hb dX10_setRate_31 (by decide) ?_
  have hPc := hP.sub (ws' := [(w0, .inr (11, [.ref v0, .ref v1, .ref v2, .ref v3, .ref v4, .long 0, .long 0, .int 0, .int th, .ref v9, .int 0, .int 0, .int (-1), .ref v13, .int 0, .int 0, .int 0, .int 0, .int 0, .int 0, .int 0, .int 0, .int 0, .int 0, .int 0, .long 0, .int 0, .ref v27, .ref v28, .ref v29, .ref v30, .ref v31, .ref v32, .ref v33, .ref v34, .ref v35, .ref v36, .ref v37, .int 0]))]) [0] rfl
  have hDc := hD.sub (ws' := [(w0, .inr (11, [.ref v0, .ref v1, .ref v2, .ref v3, .ref v4, .long 0, .long 0, .int 0, .int th, .ref v9, .int 0, .int 0, .int (-1), .ref v13, .int 0, .int 0, .int 0, .int 0, .int 0, .int 0, .int 0, .int 0, .int 0, .int 0, .int 0, .long 0, .int 0, .ref v27, .ref v28, .ref v29, .ref v30, .ref v31, .ref v32, .ref v33, .ref v34, .ref v35, .ref v36, .ref v37, .int 0]))]) [0] (by decide) rfl
  have hFc := va_free (wc := [(w0, .inr (11, [.ref v0, .ref v1, .ref v2, .ref v3, .ref v4, .long 0, .long 0, .int 0, .int th, .ref v9, .int 0, .int 0, .int (-1), .ref v13, .int 0, .int 0, .int 0, .int 0, .int 0, .int 0, .int 0, .int 0, .int 0, .int 0, .int 0, .long 0, .int 0, .ref v27, .ref v28, .ref v29, .ref v30, .ref v31, .ref v32, .ref v33, .ref v34, .ref v35, .ref v36, .ref v37, .int 0]))]) hD hS hA [0] rfl
  refine va_calli (va_runV (As := [.int 0]) (rest := []) ⟨hx, hb, hml, hown, hts⟩ (c_m_good_0 l D cA sa w0 v0 v1 v2 v3 v4 v9 v13 v27 v28 v29 v30 v31 v32 v33 v34 v35 v36 v37 th H.size) (cwV 1 hts gX10_setRate_X10_good rfl rfl rfl (by decide +kernel) ⟨(Nat.le_of_ble_eq_true rfl), (Nat.le_of_ble_eq_true rfl)⟩) ⟨Wd.blind, va_recv hK hPc (ci := 11) (q0 := 0) rfl rfl, fun U hU hW => ⟨rfl, Wd.call hPc hDc hK hC hZ hS hFc U hU hW⟩⟩ rfl rfl hl.1 rfl (lv_room (Nat.le_of_ble_eq_true rfl)) dX10_setRate_32 ⟨(Nat.le_of_ble_eq_true rfl), (Nat.le_of_ble_eq_true rfl)⟩) hS (fun q _ h => hFc q h) hFc (fun rn5 u t H1 locs ht hvm hw hB hz1 hk1 hS => ?_)
  obtain ⟨hP1, hD1⟩ := hB
  rw [ht] at hP1
  obtain ⟨hP, hD⟩ := va_join (wr := [(v0, .inl (cA 0, 326, .inl fs))]) (w1 := [(w0, .inr (11, [.ref v0, .ref v1, .ref v2, .ref v3, .ref v4, .long 0, .long 0, .int 0, .int 1, .ref v9, .int 0, .int 0, .int (-1), .ref v13, .int 0, .int 0, .int 0, .int 0, .int 0, .int 0, .int 0, .int 0, .int 0, .int 0, .int 0, .long 0, .int 0, .ref v27, .ref v28, .ref v29, .ref v30, .ref v31, .ref v32, .ref v33, .ref v34, .ref v35, .ref v36, .ref v37, .int 0]))]) hP hD [0] [1] rfl rfl (by decide) (by decide) hk1 hFc hP1 hD1
  generalize H1 = H at hP hS ⊢
  have hP : va_P D vwCl [(v0, .inl (cA 0, 326, .inl fs)), (w0, .inr (11, [.ref v0, .ref v1, .ref v2, .ref v3, .ref v4, .long 0, .long 0, .int 0, .int 1, .ref v9, .int 0, .int 0, .int (-1), .ref v13, .int 0, .int 0, .int 0, .int 0, .int 0, .int 0, .int 0, .int 0, .int 0, .int 0, .int 0, .long 0, .int 0, .ref v27, .ref v28, .ref v29, .ref v30, .ref v31, .ref v32, .ref v33, .ref v34, .ref v35, .ref v36, .ref v37, .int 0]))] H := hP
  have hD : va_D A [(v0, .inl (cA 0, 326, .inl fs)), (w0, .inr (11, [.ref v0, .ref v1, .ref v2, .ref v3, .ref v4, .long 0, .long 0, .int 0, .int 1, .ref v9, .int 0, .int 0, .int (-1), .ref v13, .int 0, .int 0, .int 0, .int 0, .int 0, .int 0, .int 0, .int 0, .int 0, .int 0, .int 0, .long 0, .int 0, .ref v27, .ref v28, .ref v29, .ref v30, .ref v31, .ref v32, .ref v33, .ref v34, .ref v35, .ref v36, .ref v37, .int 0]))] := hD
  obtain rfl : rn5 = 0 := hw
  refine lv_if_ne (tgt := 40) hx hb dX10_setRate_35 (by decide) (fun c9 => absurd c9 (by decide)) (fun c6 => ?_)
  refine lv_iconst (v := 0) hx hb dX10_setRate_38 (by decide) ?_
  have hP9 := hP.sub (ws' := [(w0, .inr (11, [.ref v0, .ref v1, .ref v2, .ref v3, .ref v4, .long 0, .long 0, .int 0, .int 1, .ref v9, .int 0, .int 0, .int (-1), .ref v13, .int 0, .int 0, .int 0, .int 0, .int 0, .int 0, .int 0, .int 0, .int 0, .int 0, .int 0, .long 0, .int 0, .ref v27, .ref v28, .ref v29, .ref v30, .ref v31, .ref v32, .ref v33, .ref v34, .ref v35, .ref v36, .ref v37, .int 0]))]) [1] rfl
  have hD9 := hD.sub (ws' := [(w0, .inr (11, [.ref v0, .ref v1, .ref v2, .ref v3, .ref v4, .long 0, .long 0, .int 0, .int 1, .ref v9, .int 0, .int 0, .int (-1), .ref v13, .int 0, .int 0, .int 0, .int 0, .int 0, .int 0, .int 0, .int 0, .int 0, .int 0, .int 0, .long 0, .int 0, .ref v27, .ref v28, .ref v29, .ref v30, .ref v31, .ref v32, .ref v33, .ref v34, .ref v35, .ref v36, .ref v37, .int 0]))]) [1] (by decide) rfl
  refine W.widen (k := 0) (n := 0) (Nat.le_of_ble_eq_true rfl) (Nat.le_of_ble_eq_true rfl) ?_
  exact W.iret (v := 0) hx hb hr (fun t ht hW => ⟨⟨0, (), rfl, rfl, by rw [ht]; exact hP9, hD9⟩, hS.F ht⟩) hS.2.2 dX10_setRate_39

set_option maxHeartbeats 4000000 in
set_option maxRecDepth 100000 in
/-- setGrace within -/
theorem c_m_setGrace_ret (l : Launch) (D : va_G) (cA : Nat → ClassId) (sa : Nat → Nat) (w0 v0 v1 v2 v3 v4 v9 v13 v27 v28 v29 v30 v31 v32 v33 v34 v35 v36 v37 : Nat) (th : Int32) (fs fh : Nat → Int32) (fq : Nat → Int64) (a : Int32) (sz : Nat) (hz : Zs fs) (h1 : ¬ a < 0) (h2 : ¬ 60 < a) : Met l yX10_setGrace wsX10_setGrace ({ frames := 1, cells := 0, slots := 0, locals := 25 }) (va_Pc [.ref w0, .int a] (Wd D cA sa [(w0, .inr (11, [.ref v0, .ref v1, .ref v2, .ref v3, .ref v4, .long 0, .long 0, .int 0, .int th, .ref v9, .int 0, .int 0, .int (-1), .ref v13, .int 0, .int 0, .int 0, .int 0, .int 0, .int 0, .int 0, .int 0, .int 0, .int 0, .int 0, .long 0, .int 0, .ref v27, .ref v28, .ref v29, .ref v30, .ref v31, .ref v32, .ref v33, .ref v34, .ref v35, .ref v36, .ref v37, .int 0])), (v0, .inl (cA 0, 326, .inl fs)), (v3, .inl (cA 0, 3260, .inl fh)), (v4, .inl (cA 1, 10, .inr (.inl fq)))] sz)) (va_Qi (fun (r : Int32) (_ : Unit) => r = 0) (fun (_ : Unit) t => Wq D (va_A [(w0, .inr (11, [.ref v0, .ref v1, .ref v2, .ref v3, .ref v4, .long 0, .long 0, .int 0, .int th, .ref v9, .int 0, .int 0, .int (-1), .ref v13, .int 0, .int 0, .int 0, .int 0, .int 0, .int 0, .int 0, .int 0, .int 0, .int 0, .int 0, .long 0, .int 0, .ref v27, .ref v28, .ref v29, .ref v30, .ref v31, .ref v32, .ref v33, .ref v34, .ref v35, .ref v36, .ref v37, .int 0])), (v0, .inl (cA 0, 326, .inl fs)), (v3, .inl (cA 0, 3260, .inl fh)), (v4, .inl (cA 1, 10, .inr (.inl fq)))] sz) [(w0, .inr (11, [.ref v0, .ref v1, .ref v2, .ref v3, .ref v4, .long 0, .long 0, .int 1, .int 0, .ref v9, .int 0, .int 0, .int (-1), .ref v13, .int 0, .int 0, .int 0, .int 0, .int 0, .int 0, .int 0, .int 0, .int 0, .int 0, .int 0, .long 0, .int 0, .ref v27, .ref v28, .ref v29, .ref v30, .ref v31, .ref v32, .ref v33, .ref v34, .ref v35, .ref v36, .ref v37, .int 0]))] t) (va_A [(w0, .inr (11, [.ref v0, .ref v1, .ref v2, .ref v3, .ref v4, .long 0, .long 0, .int 0, .int th, .ref v9, .int 0, .int 0, .int (-1), .ref v13, .int 0, .int 0, .int 0, .int 0, .int 0, .int 0, .int 0, .int 0, .int 0, .int 0, .int 0, .long 0, .int 0, .ref v27, .ref v28, .ref v29, .ref v30, .ref v31, .ref v32, .ref v33, .ref v34, .ref v35, .ref v36, .ref v37, .int 0])), (v0, .inl (cA 0, 326, .inl fs)), (v3, .inl (cA 0, 3260, .inl fh)), (v4, .inl (cA 1, 10, .inr (.inl fq)))] sz)) 0 0 (va_A [(w0, .inr (11, [.ref v0, .ref v1, .ref v2, .ref v3, .ref v4, .long 0, .long 0, .int 0, .int th, .ref v9, .int 0, .int 0, .int (-1), .ref v13, .int 0, .int 0, .int 0, .int 0, .int 0, .int 0, .int 0, .int 0, .int 0, .int 0, .int 0, .long 0, .int 0, .ref v27, .ref v28, .ref v29, .ref v30, .ref v31, .ref v32, .ref v33, .ref v34, .ref v35, .ref v36, .ref v37, .int 0])), (v0, .inl (cA 0, 326, .inl fs)), (v3, .inl (cA 0, 3260, .inl fh)), (v4, .inl (cA 1, 10, .inr (.inl fq)))] sz) := by
  refine Met.ofW (cc := cX10_setGrace) (maxL := 3) (ret := (some .int)) (by decide) rfl ?_
  intro p e s m args below meth c s₁ B hml hv
  obtain ⟨rfl, hsz, hP, hK, hD0, hC, hZ⟩ := hv
  have hx := B.exec
  have hb := B.bytes
  have hr := B.returns
  have hts := atoms_spec (ws := wsX10_setGrace) B.pre
  have hown : s.vm.findClass RX10 = some m.cls := findClass_of_methodNamed B.named
  have hlocks := B.notSynchronized
  subst hsz
  have hD := hD0.self (sz := s.heap.size)
  generalize hAe : va_A [(w0, .inr (11, [.ref v0, .ref v1, .ref v2, .ref v3, .ref v4, .long 0, .long 0, .int 0, .int th, .ref v9, .int 0, .int 0, .int (-1), .ref v13, .int 0, .int 0, .int 0, .int 0, .int 0, .int 0, .int 0, .int 0, .int 0, .int 0, .int 0, .long 0, .int 0, .ref v27, .ref v28, .ref v29, .ref v30, .ref v31, .ref v32, .ref v33, .ref v34, .ref v35, .ref v36, .ref v37, .int 0])), (v0, .inl (cA 0, 326, .inl fs)), (v3, .inl (cA 0, 3260, .inl fh)), (v4, .inl (cA 1, 10, .inr (.inl fq)))] s.heap.size = A at hD hZ ⊢
  have hA : ∀ q : Nat, s.heap.size ≤ q → A q := fun q h => by rw [← hAe]; exact Or.inr h
  have hS : va_S A s.heap s.heap [] := va_S.rf
  have hP : va_P D vwCl [(w0, .inr (11, [.ref v0, .ref v1, .ref v2, .ref v3, .ref v4, .long 0, .long 0, .int 0, .int th, .ref v9, .int 0, .int 0, .int (-1), .ref v13, .int 0, .int 0, .int 0, .int 0, .int 0, .int 0, .int 0, .int 0, .int 0, .int 0, .int 0, .long 0, .int 0, .ref v27, .ref v28, .ref v29, .ref v30, .ref v31, .ref v32, .ref v33, .ref v34, .ref v35, .ref v36, .ref v37, .int 0])), (v0, .inl (cA 0, 326, .inl fs)), (v3, .inl (cA 0, 3260, .inl fh)), (v4, .inl (cA 1, 10, .inr (.inl fq)))] s.heap := hP
  have hl := lv_entry ([.ref w0, .int a]) (n := 3) (Nat.le_of_ble_eq_true rfl)
  rw [lg_entry_eq]
  generalize (lg_sl ([.ref w0, .int a]) ++ List.replicate (3 - (lg_sl ([.ref w0, .int a])).length) Slot.unset).toArray = ls at hl ⊢
  have hl : lv_has ls 3 [(0, .ref w0), (1, .int a)] := hl
  have inX10 : ∀ w ∈ u_ws RX10 TX10 39, w ∈ wsX10_setGrace := by decide +kernel
  refine lv_aload_n hx hb dX10_setGrace_0 rfl (lv_at hl 0 rfl) ?_
  refine lv_iload_n hx hb dX10_setGrace_1 rfl (lv_at hl 1 rfl) ?_
  refine lv_i2l (v := (a.toInt64)) hx hb dX10_setGrace_2 rfl ?_
  refine lv_lconst (v := 0) hx hb dX10_setGrace_3 (by decide) ?_
  refine lv_ldc2 (v := 60) hx hb hown (hts (.constantLong RX10 410 60) (by decide +kernel)) dX10_setGrace_4 ?_
  have hPc := hP.sub (ws' := []) [] rfl
  have hDc := hD.sub (ws' := []) [] (by decide) rfl
  have hFc := va_free (wc := []) hD hS hA [] rfl
  refine va_calli (va_runS (As := [.long (a.toInt64), .long 0, .long 60]) (rest := [.ref w0]) ⟨hx, hb, hml, hown, hts⟩ (c_btw_t l D cA sa (a.toInt64) 0 60 s.heap.size (in_l (by decide) (by decide) h1 h2)) (va_cwS 3 hts gX10_setGrace_X10_between rfl rfl rfl (by decide +kernel) ⟨(Nat.le_of_ble_eq_true rfl), (Nat.le_of_ble_eq_true rfl)⟩) ⟨Wd.blind, fun U hU hW => ⟨rfl, Wd.call hPc hDc hK hC hZ hS hFc U hU hW⟩⟩ rfl rfl hl.1 rfl (lv_room (Nat.le_of_ble_eq_true rfl)) dX10_setGrace_7 ⟨(Nat.le_of_ble_eq_true rfl), (Nat.le_of_ble_eq_true rfl)⟩) hS (fun q _ h => hFc q h) hFc (fun rn1 u t H1 locs ht hvm hw hB hz1 hk1 hS => ?_)
  obtain ⟨hP1, hD1⟩ := hB
  rw [ht] at hP1
  obtain ⟨hP, hD⟩ := va_join (wr := [(w0, .inr (11, [.ref v0, .ref v1, .ref v2, .ref v3, .ref v4, .long 0, .long 0, .int 0, .int th, .ref v9, .int 0, .int 0, .int (-1), .ref v13, .int 0, .int 0, .int 0, .int 0, .int 0, .int 0, .int 0, .int 0, .int 0, .int 0, .int 0, .long 0, .int 0, .ref v27, .ref v28, .ref v29, .ref v30, .ref v31, .ref v32, .ref v33, .ref v34, .ref v35, .ref v36, .ref v37, .int 0])), (v0, .inl (cA 0, 326, .inl fs)), (v3, .inl (cA 0, 3260, .inl fh)), (v4, .inl (cA 1, 10, .inr (.inl fq)))]) (w1 := []) hP hD [] [0, 1, 2, 3] rfl rfl (by decide) (by decide) hk1 hFc hP1 hD1
  generalize H1 = H at hP hS ⊢
  have hP : va_P D vwCl [(w0, .inr (11, [.ref v0, .ref v1, .ref v2, .ref v3, .ref v4, .long 0, .long 0, .int 0, .int th, .ref v9, .int 0, .int 0, .int (-1), .ref v13, .int 0, .int 0, .int 0, .int 0, .int 0, .int 0, .int 0, .int 0, .int 0, .int 0, .int 0, .long 0, .int 0, .ref v27, .ref v28, .ref v29, .ref v30, .ref v31, .ref v32, .ref v33, .ref v34, .ref v35, .ref v36, .ref v37, .int 0])), (v0, .inl (cA 0, 326, .inl fs)), (v3, .inl (cA 0, 3260, .inl fh)), (v4, .inl (cA 1, 10, .inr (.inl fq)))] H := hP
  have hD : va_D A [(w0, .inr (11, [.ref v0, .ref v1, .ref v2, .ref v3, .ref v4, .long 0, .long 0, .int 0, .int th, .ref v9, .int 0, .int 0, .int (-1), .ref v13, .int 0, .int 0, .int 0, .int 0, .int 0, .int 0, .int 0, .int 0, .int 0, .int 0, .int 0, .long 0, .int 0, .ref v27, .ref v28, .ref v29, .ref v30, .ref v31, .ref v32, .ref v33, .ref v34, .ref v35, .ref v36, .ref v37, .int 0])), (v0, .inl (cA 0, 326, .inl fs)), (v3, .inl (cA 0, 3260, .inl fh)), (v4, .inl (cA 1, 10, .inr (.inl fq)))] := hD
  obtain rfl : rn1 = 1 := hw
  have hPc := hP.sub (ws' := [(w0, .inr (11, [.ref v0, .ref v1, .ref v2, .ref v3, .ref v4, .long 0, .long 0, .int 0, .int th, .ref v9, .int 0, .int 0, .int (-1), .ref v13, .int 0, .int 0, .int 0, .int 0, .int 0, .int 0, .int 0, .int 0, .int 0, .int 0, .int 0, .long 0, .int 0, .ref v27, .ref v28, .ref v29, .ref v30, .ref v31, .ref v32, .ref v33, .ref v34, .ref v35, .ref v36, .ref v37, .int 0]))]) [0] rfl
  have hDc := hD.sub (ws' := [(w0, .inr (11, [.ref v0, .ref v1, .ref v2, .ref v3, .ref v4, .long 0, .long 0, .int 0, .int th, .ref v9, .int 0, .int 0, .int (-1), .ref v13, .int 0, .int 0, .int 0, .int 0, .int 0, .int 0, .int 0, .int 0, .int 0, .int 0, .int 0, .long 0, .int 0, .ref v27, .ref v28, .ref v29, .ref v30, .ref v31, .ref v32, .ref v33, .ref v34, .ref v35, .ref v36, .ref v37, .int 0]))]) [0] (by decide) rfl
  have hFc := va_free (wc := [(w0, .inr (11, [.ref v0, .ref v1, .ref v2, .ref v3, .ref v4, .long 0, .long 0, .int 0, .int th, .ref v9, .int 0, .int 0, .int (-1), .ref v13, .int 0, .int 0, .int 0, .int 0, .int 0, .int 0, .int 0, .int 0, .int 0, .int 0, .int 0, .long 0, .int 0, .ref v27, .ref v28, .ref v29, .ref v30, .ref v31, .ref v32, .ref v33, .ref v34, .ref v35, .ref v36, .ref v37, .int 0]))]) hD hS hA [0] rfl
  refine va_calli (va_runV (As := [.int 1]) (rest := []) ⟨hx, hb, hml, hown, hts⟩ (c_m_good_1 l D cA sa w0 v0 v1 v2 v3 v4 v9 v13 v27 v28 v29 v30 v31 v32 v33 v34 v35 v36 v37 th H.size) (cwV 1 hts gX10_setGrace_X10_good rfl rfl rfl (by decide +kernel) ⟨(Nat.le_of_ble_eq_true rfl), (Nat.le_of_ble_eq_true rfl)⟩) ⟨Wd.blind, va_recv hK hPc (ci := 11) (q0 := 0) rfl rfl, fun U hU hW => ⟨rfl, Wd.call hPc hDc hK hC hZ hS hFc U hU hW⟩⟩ rfl rfl hl.1 rfl (lv_room (Nat.le_of_ble_eq_true rfl)) dX10_setGrace_10 ⟨(Nat.le_of_ble_eq_true rfl), (Nat.le_of_ble_eq_true rfl)⟩) hS (fun q _ h => hFc q h) hFc (fun rn2 u t H1 locs ht hvm hw hB hz1 hk1 hS => ?_)
  obtain ⟨hP1, hD1⟩ := hB
  rw [ht] at hP1
  obtain ⟨hP, hD⟩ := va_join (wr := [(v0, .inl (cA 0, 326, .inl fs)), (v3, .inl (cA 0, 3260, .inl fh)), (v4, .inl (cA 1, 10, .inr (.inl fq)))]) (w1 := [(w0, .inr (11, [.ref v0, .ref v1, .ref v2, .ref v3, .ref v4, .long 0, .long 0, .int 0, .int 0, .ref v9, .int 0, .int 0, .int (-1), .ref v13, .int 0, .int 0, .int 0, .int 0, .int 0, .int 0, .int 0, .int 0, .int 0, .int 0, .int 0, .long 0, .int 0, .ref v27, .ref v28, .ref v29, .ref v30, .ref v31, .ref v32, .ref v33, .ref v34, .ref v35, .ref v36, .ref v37, .int 0]))]) hP hD [0] [1, 2, 3] rfl rfl (by decide) (by decide) hk1 hFc hP1 hD1
  generalize H1 = H at hP hS ⊢
  have hP : va_P D vwCl [(v0, .inl (cA 0, 326, .inl fs)), (v3, .inl (cA 0, 3260, .inl fh)), (v4, .inl (cA 1, 10, .inr (.inl fq))), (w0, .inr (11, [.ref v0, .ref v1, .ref v2, .ref v3, .ref v4, .long 0, .long 0, .int 0, .int 0, .ref v9, .int 0, .int 0, .int (-1), .ref v13, .int 0, .int 0, .int 0, .int 0, .int 0, .int 0, .int 0, .int 0, .int 0, .int 0, .int 0, .long 0, .int 0, .ref v27, .ref v28, .ref v29, .ref v30, .ref v31, .ref v32, .ref v33, .ref v34, .ref v35, .ref v36, .ref v37, .int 0]))] H := hP
  have hD : va_D A [(v0, .inl (cA 0, 326, .inl fs)), (v3, .inl (cA 0, 3260, .inl fh)), (v4, .inl (cA 1, 10, .inr (.inl fq))), (w0, .inr (11, [.ref v0, .ref v1, .ref v2, .ref v3, .ref v4, .long 0, .long 0, .int 0, .int 0, .ref v9, .int 0, .int 0, .int (-1), .ref v13, .int 0, .int 0, .int 0, .int 0, .int 0, .int 0, .int 0, .int 0, .int 0, .int 0, .int 0, .long 0, .int 0, .ref v27, .ref v28, .ref v29, .ref v30, .ref v31, .ref v32, .ref v33, .ref v34, .ref v35, .ref v36, .ref v37, .int 0]))] := hD
  obtain rfl : rn2 = 1 := hw
  refine lv_if_ne (tgt := 18) hx hb dX10_setGrace_13 (by decide) (fun c3 => ?_) (fun c9 => absurd c9 (by decide))
  refine lv_aload_n hx hb dX10_setGrace_18 rfl (lv_at hl 0 rfl) ?_
  have hPc := hP.sub (ws' := [(w0, .inr (11, [.ref v0, .ref v1, .ref v2, .ref v3, .ref v4, .long 0, .long 0, .int 0, .int 0, .ref v9, .int 0, .int 0, .int (-1), .ref v13, .int 0, .int 0, .int 0, .int 0, .int 0, .int 0, .int 0, .int 0, .int 0, .int 0, .int 0, .long 0, .int 0, .ref v27, .ref v28, .ref v29, .ref v30, .ref v31, .ref v32, .ref v33, .ref v34, .ref v35, .ref v36, .ref v37, .int 0])), (v0, .inl (cA 0, 326, .inl fs)), (v3, .inl (cA 0, 3260, .inl fh)), (v4, .inl (cA 1, 10, .inr (.inl fq)))]) [3, 0, 1, 2] rfl
  have hDc := hD.sub (ws' := [(w0, .inr (11, [.ref v0, .ref v1, .ref v2, .ref v3, .ref v4, .long 0, .long 0, .int 0, .int 0, .ref v9, .int 0, .int 0, .int (-1), .ref v13, .int 0, .int 0, .int 0, .int 0, .int 0, .int 0, .int 0, .int 0, .int 0, .int 0, .int 0, .long 0, .int 0, .ref v27, .ref v28, .ref v29, .ref v30, .ref v31, .ref v32, .ref v33, .ref v34, .ref v35, .ref v36, .ref v37, .int 0])), (v0, .inl (cA 0, 326, .inl fs)), (v3, .inl (cA 0, 3260, .inl fh)), (v4, .inl (cA 1, 10, .inr (.inl fq)))]) [3, 0, 1, 2] (by decide) rfl
  have hFc := va_free (wc := [(w0, .inr (11, [.ref v0, .ref v1, .ref v2, .ref v3, .ref v4, .long 0, .long 0, .int 0, .int 0, .ref v9, .int 0, .int 0, .int (-1), .ref v13, .int 0, .int 0, .int 0, .int 0, .int 0, .int 0, .int 0, .int 0, .int 0, .int 0, .int 0, .long 0, .int 0, .ref v27, .ref v28, .ref v29, .ref v30, .ref v31, .ref v32, .ref v33, .ref v34, .ref v35, .ref v36, .ref v37, .int 0])), (v0, .inl (cA 0, 326, .inl fs)), (v3, .inl (cA 0, 3260, .inl fh)), (v4, .inl (cA 1, 10, .inr (.inl fq)))]) hD hS hA [3, 0, 1, 2] rfl
  refine va_callv (va_runV (As := []) (rest := []) ⟨hx, hb, hml, hown, hts⟩ (c_m_remember l D cA sa w0 v0 v1 v2 v3 v4 v9 v13 v27 v28 v29 v30 v31 v32 v33 v34 v35 v36 v37 0 fs fh fq H.size) (cwV 0 hts gX10_setGrace_X10_remember rfl rfl rfl (by decide +kernel) ⟨(Nat.le_of_ble_eq_true rfl), (Nat.le_of_ble_eq_true rfl)⟩) ⟨Wd.blind, va_recv hK hPc (ci := 11) (q0 := 0) rfl rfl, fun U hU hW => ⟨rfl, Wd.call hPc hDc hK hC hZ hS hFc U hU hW⟩⟩ rfl rfl hl.1 rfl (lv_room (Nat.le_of_ble_eq_true rfl)) dX10_setGrace_19 ⟨(Nat.le_of_ble_eq_true rfl), (Nat.le_of_ble_eq_true rfl)⟩) hS (fun q _ h => hFc q h) hFc (fun u t H1 locs ht hvm hw hB hz1 hk1 hS => ?_)
  obtain ⟨hP1, hD1⟩ := hB
  rw [ht] at hP1
  obtain ⟨hP, hD⟩ := va_join (wr := []) (w1 := [(w0, .inr (11, [.ref v0, .ref v1, .ref v2, .ref v3, .ref v4, .long 0, .long 0, .int 1, .int 0, .ref v9, .int 0, .int 0, .int (-1), .ref v13, .int 0, .int 0, .int 0, .int 0, .int 0, .int 0, .int 0, .int 0, .int 0, .int 0, .int 0, .long 0, .int 0, .ref v27, .ref v28, .ref v29, .ref v30, .ref v31, .ref v32, .ref v33, .ref v34, .ref v35, .ref v36, .ref v37, .int 0])), (v0, .inl (cA 0, 326, .inl fs))]) hP hD [3, 0, 1, 2] [] rfl rfl (by decide) (by decide) hk1 hFc hP1 hD1
  generalize H1 = H at hP hS ⊢
  have hP : va_P D vwCl [(w0, .inr (11, [.ref v0, .ref v1, .ref v2, .ref v3, .ref v4, .long 0, .long 0, .int 1, .int 0, .ref v9, .int 0, .int 0, .int (-1), .ref v13, .int 0, .int 0, .int 0, .int 0, .int 0, .int 0, .int 0, .int 0, .int 0, .int 0, .int 0, .long 0, .int 0, .ref v27, .ref v28, .ref v29, .ref v30, .ref v31, .ref v32, .ref v33, .ref v34, .ref v35, .ref v36, .ref v37, .int 0])), (v0, .inl (cA 0, 326, .inl fs))] H := hP
  have hD : va_D A [(w0, .inr (11, [.ref v0, .ref v1, .ref v2, .ref v3, .ref v4, .long 0, .long 0, .int 1, .int 0, .ref v9, .int 0, .int 0, .int (-1), .ref v13, .int 0, .int 0, .int 0, .int 0, .int 0, .int 0, .int 0, .int 0, .int 0, .int 0, .int 0, .long 0, .int 0, .ref v27, .ref v28, .ref v29, .ref v30, .ref v31, .ref v32, .ref v33, .ref v34, .ref v35, .ref v36, .ref v37, .int 0])), (v0, .inl (cA 0, 326, .inl fs))] := hD
  refine lv_aload_n hx hb dX10_setGrace_22 rfl (lv_at hl 0 rfl) ?_
  refine va_get (D := D) (ci := 11) (v := .ref v0) (C := RX10) (T := TX10) (N := 39) hx hb hts inX10 hown hK hP 0 rfl rfl 0 (by decide) (hts (.fieldLink RX10 7 "EscrowDeskModel" "s" "[I") (by decide +kernel)) (fun _ h9 => h9) rfl dX10_setGrace_23 ?_
  refine lv_iconst (v := 3) hx hb dX10_setGrace_26 (by decide) ?_
  refine va_iald hx hb hK hP 1 0 rfl rfl (vp_in_iff.mpr (by decide)) dX10_setGrace_27 ?_
  refine lv_topi (fun yn4 eyn4 => ?_)
  obtain rfl : yn4 = 0 := eyn4.trans (hz.2 3 (by decide) (by decide))
  refine lv_istore_n (lv' := [(2, .int 0), (0, .ref w0), (1, .int a)]) hx hb dX10_setGrace_28 rfl hl (by decide) rfl (fun ls hl => ?_)
  refine lv_aload_n hx hb dX10_setGrace_29 rfl (lv_at hl 1 rfl) ?_
  refine va_get (D := D) (ci := 11) (v := .ref v0) (C := RX10) (T := TX10) (N := 39) hx hb hts inX10 hown hK hP 0 rfl rfl 0 (by decide) (hts (.fieldLink RX10 7 "EscrowDeskModel" "s" "[I") (by decide +kernel)) (fun _ h9 => h9) rfl dX10_setGrace_30 ?_
  refine lv_iconst (v := 3) hx hb dX10_setGrace_33 (by decide) ?_
  refine lv_iload_n hx hb dX10_setGrace_34 rfl (lv_at hl 2 rfl) ?_
  refine va_iast hx hb hK hP hD hS 1 0 rfl rfl (vp_in_iff.mpr (by decide)) dX10_setGrace_35 (fun H locs hP hD hS => ?_)
  have hP : va_P D vwCl [(w0, .inr (11, [.ref v0, .ref v1, .ref v2, .ref v3, .ref v4, .long 0, .long 0, .int 1, .int 0, .ref v9, .int 0, .int 0, .int (-1), .ref v13, .int 0, .int 0, .int 0, .int 0, .int 0, .int 0, .int 0, .int 0, .int 0, .int 0, .int 0, .long 0, .int 0, .ref v27, .ref v28, .ref v29, .ref v30, .ref v31, .ref v32, .ref v33, .ref v34, .ref v35, .ref v36, .ref v37, .int 0])), (v0, .inl (cA 0, 326, .inl (upd fs 3 a)))] H := hP
  have hD : va_D A [(w0, .inr (11, [.ref v0, .ref v1, .ref v2, .ref v3, .ref v4, .long 0, .long 0, .int 1, .int 0, .ref v9, .int 0, .int 0, .int (-1), .ref v13, .int 0, .int 0, .int 0, .int 0, .int 0, .int 0, .int 0, .int 0, .int 0, .int 0, .int 0, .long 0, .int 0, .ref v27, .ref v28, .ref v29, .ref v30, .ref v31, .ref v32, .ref v33, .ref v34, .ref v35, .ref v36, .ref v37, .int 0])), (v0, .inl (cA 0, 326, .inl (upd fs 3 a)))] := hD
  generalize (upd fs 3 a) = fn5 at hP hD
  have hP : va_P D vwCl [(w0, .inr (11, [.ref v0, .ref v1, .ref v2, .ref v3, .ref v4, .long 0, .long 0, .int 1, .int 0, .ref v9, .int 0, .int 0, .int (-1), .ref v13, .int 0, .int 0, .int 0, .int 0, .int 0, .int 0, .int 0, .int 0, .int 0, .int 0, .int 0, .long 0, .int 0, .ref v27, .ref v28, .ref v29, .ref v30, .ref v31, .ref v32, .ref v33, .ref v34, .ref v35, .ref v36, .ref v37, .int 0])), (v0, .inl (cA 0, 326, .inl fn5))] H := hP
  have hD : va_D A [(w0, .inr (11, [.ref v0, .ref v1, .ref v2, .ref v3, .ref v4, .long 0, .long 0, .int 1, .int 0, .ref v9, .int 0, .int 0, .int (-1), .ref v13, .int 0, .int 0, .int 0, .int 0, .int 0, .int 0, .int 0, .int 0, .int 0, .int 0, .int 0, .long 0, .int 0, .ref v27, .ref v28, .ref v29, .ref v30, .ref v31, .ref v32, .ref v33, .ref v34, .ref v35, .ref v36, .ref v37, .int 0])), (v0, .inl (cA 0, 326, .inl fn5))] := hD
  refine lv_iload_n hx hb dX10_setGrace_36 rfl (lv_at hl 0 rfl) ?_
  have hP9 := hP.sub (ws' := [(w0, .inr (11, [.ref v0, .ref v1, .ref v2, .ref v3, .ref v4, .long 0, .long 0, .int 1, .int 0, .ref v9, .int 0, .int 0, .int (-1), .ref v13, .int 0, .int 0, .int 0, .int 0, .int 0, .int 0, .int 0, .int 0, .int 0, .int 0, .int 0, .long 0, .int 0, .ref v27, .ref v28, .ref v29, .ref v30, .ref v31, .ref v32, .ref v33, .ref v34, .ref v35, .ref v36, .ref v37, .int 0]))]) [0] rfl
  have hD9 := hD.sub (ws' := [(w0, .inr (11, [.ref v0, .ref v1, .ref v2, .ref v3, .ref v4, .long 0, .long 0, .int 1, .int 0, .ref v9, .int 0, .int 0, .int (-1), .ref v13, .int 0, .int 0, .int 0, .int 0, .int 0, .int 0, .int 0, .int 0, .int 0, .int 0, .int 0, .long 0, .int 0, .ref v27, .ref v28, .ref v29, .ref v30, .ref v31, .ref v32, .ref v33, .ref v34, .ref v35, .ref v36, .ref v37, .int 0]))]) [0] (by decide) rfl
  refine W.widen (k := 0) (n := 0) (Nat.le_of_ble_eq_true rfl) (Nat.le_of_ble_eq_true rfl) ?_
  exact W.iret (v := 0) hx hb hr (fun t ht hW => ⟨⟨0, (), rfl, rfl, by rw [ht]; exact hP9, hD9⟩, hS.F ht⟩) hS.2.2 dX10_setGrace_37

set_option maxHeartbeats 4000000 in
set_option maxRecDepth 100000 in
/-- setGrace outside -/
theorem c_m_setGrace_thr (l : Launch) (D : va_G) (cA : Nat → ClassId) (sa : Nat → Nat) (w0 v0 v1 v2 v3 v4 v9 v13 v27 v28 v29 v30 v31 v32 v33 v34 v35 v36 v37 : Nat) (th : Int32) (fs : Nat → Int32) (a : Int32) (sz : Nat) (hz : Zs fs) (h : a < 0 ∨ 60 < a) : Met l yX10_setGrace wsX10_setGrace ({ frames := 1, cells := 0, slots := 0, locals := 25 }) (va_Pc [.ref w0, .int a] (Wd D cA sa [(w0, .inr (11, [.ref v0, .ref v1, .ref v2, .ref v3, .ref v4, .long 0, .long 0, .int 0, .int th, .ref v9, .int 0, .int 0, .int (-1), .ref v13, .int 0, .int 0, .int 0, .int 0, .int 0, .int 0, .int 0, .int 0, .int 0, .int 0, .int 0, .long 0, .int 0, .ref v27, .ref v28, .ref v29, .ref v30, .ref v31, .ref v32, .ref v33, .ref v34, .ref v35, .ref v36, .ref v37, .int 0])), (v0, .inl (cA 0, 326, .inl fs))] sz)) (va_Qi (fun (r : Int32) (_ : Unit) => r = 0) (fun (_ : Unit) t => Wq D (va_A [(w0, .inr (11, [.ref v0, .ref v1, .ref v2, .ref v3, .ref v4, .long 0, .long 0, .int 0, .int th, .ref v9, .int 0, .int 0, .int (-1), .ref v13, .int 0, .int 0, .int 0, .int 0, .int 0, .int 0, .int 0, .int 0, .int 0, .int 0, .int 0, .long 0, .int 0, .ref v27, .ref v28, .ref v29, .ref v30, .ref v31, .ref v32, .ref v33, .ref v34, .ref v35, .ref v36, .ref v37, .int 0])), (v0, .inl (cA 0, 326, .inl fs))] sz) [(w0, .inr (11, [.ref v0, .ref v1, .ref v2, .ref v3, .ref v4, .long 0, .long 0, .int 0, .int 1, .ref v9, .int 0, .int 0, .int (-1), .ref v13, .int 0, .int 0, .int 0, .int 0, .int 0, .int 0, .int 0, .int 0, .int 0, .int 0, .int 0, .long 0, .int 0, .ref v27, .ref v28, .ref v29, .ref v30, .ref v31, .ref v32, .ref v33, .ref v34, .ref v35, .ref v36, .ref v37, .int 0]))] t) (va_A [(w0, .inr (11, [.ref v0, .ref v1, .ref v2, .ref v3, .ref v4, .long 0, .long 0, .int 0, .int th, .ref v9, .int 0, .int 0, .int (-1), .ref v13, .int 0, .int 0, .int 0, .int 0, .int 0, .int 0, .int 0, .int 0, .int 0, .int 0, .int 0, .long 0, .int 0, .ref v27, .ref v28, .ref v29, .ref v30, .ref v31, .ref v32, .ref v33, .ref v34, .ref v35, .ref v36, .ref v37, .int 0])), (v0, .inl (cA 0, 326, .inl fs))] sz)) 0 0 (va_A [(w0, .inr (11, [.ref v0, .ref v1, .ref v2, .ref v3, .ref v4, .long 0, .long 0, .int 0, .int th, .ref v9, .int 0, .int 0, .int (-1), .ref v13, .int 0, .int 0, .int 0, .int 0, .int 0, .int 0, .int 0, .int 0, .int 0, .int 0, .int 0, .long 0, .int 0, .ref v27, .ref v28, .ref v29, .ref v30, .ref v31, .ref v32, .ref v33, .ref v34, .ref v35, .ref v36, .ref v37, .int 0])), (v0, .inl (cA 0, 326, .inl fs))] sz) := by
  refine Met.ofW (cc := cX10_setGrace) (maxL := 3) (ret := (some .int)) (by decide) rfl ?_
  intro p e s m args below meth c s₁ B hml hv
  obtain ⟨rfl, hsz, hP, hK, hD0, hC, hZ⟩ := hv
  have hx := B.exec
  have hb := B.bytes
  have hr := B.returns
  have hts := atoms_spec (ws := wsX10_setGrace) B.pre
  have hown : s.vm.findClass RX10 = some m.cls := findClass_of_methodNamed B.named
  have hlocks := B.notSynchronized
  subst hsz
  have hD := hD0.self (sz := s.heap.size)
  generalize hAe : va_A [(w0, .inr (11, [.ref v0, .ref v1, .ref v2, .ref v3, .ref v4, .long 0, .long 0, .int 0, .int th, .ref v9, .int 0, .int 0, .int (-1), .ref v13, .int 0, .int 0, .int 0, .int 0, .int 0, .int 0, .int 0, .int 0, .int 0, .int 0, .int 0, .long 0, .int 0, .ref v27, .ref v28, .ref v29, .ref v30, .ref v31, .ref v32, .ref v33, .ref v34, .ref v35, .ref v36, .ref v37, .int 0])), (v0, .inl (cA 0, 326, .inl fs))] s.heap.size = A at hD hZ ⊢
  have hA : ∀ q : Nat, s.heap.size ≤ q → A q := fun q h => by rw [← hAe]; exact Or.inr h
  have hS : va_S A s.heap s.heap [] := va_S.rf
  have hP : va_P D vwCl [(w0, .inr (11, [.ref v0, .ref v1, .ref v2, .ref v3, .ref v4, .long 0, .long 0, .int 0, .int th, .ref v9, .int 0, .int 0, .int (-1), .ref v13, .int 0, .int 0, .int 0, .int 0, .int 0, .int 0, .int 0, .int 0, .int 0, .int 0, .int 0, .long 0, .int 0, .ref v27, .ref v28, .ref v29, .ref v30, .ref v31, .ref v32, .ref v33, .ref v34, .ref v35, .ref v36, .ref v37, .int 0])), (v0, .inl (cA 0, 326, .inl fs))] s.heap := hP
  have hl := lv_entry ([.ref w0, .int a]) (n := 3) (Nat.le_of_ble_eq_true rfl)
  rw [lg_entry_eq]
  generalize (lg_sl ([.ref w0, .int a]) ++ List.replicate (3 - (lg_sl ([.ref w0, .int a])).length) Slot.unset).toArray = ls at hl ⊢
  have hl : lv_has ls 3 [(0, .ref w0), (1, .int a)] := hl
  refine lv_aload_n hx hb dX10_setGrace_0 rfl (lv_at hl 0 rfl) ?_
  refine lv_iload_n hx hb dX10_setGrace_1 rfl (lv_at hl 1 rfl) ?_
  refine lv_i2l (v := (a.toInt64)) hx hb dX10_setGrace_2 rfl ?_
  refine lv_lconst (v := 0) hx hb dX10_setGrace_3 (by decide) ?_
  refine lv_ldc2 (v := 60) hx hb hown (hts (.constantLong RX10 410 60) (by decide +kernel)) dX10_setGrace_4 ?_
  have hPc := hP.sub (ws' := []) [] rfl
  have hDc := hD.sub (ws' := []) [] (by decide) rfl
  have hFc := va_free (wc := []) hD hS hA [] rfl
  refine va_calli (va_runS (As := [.long (a.toInt64), .long 0, .long 60]) (rest := [.ref w0]) ⟨hx, hb, hml, hown, hts⟩ (c_btw_f l D cA sa (a.toInt64) 0 60 s.heap.size (out_l (by decide) (by decide) h)) (va_cwS 3 hts gX10_setGrace_X10_between rfl rfl rfl (by decide +kernel) ⟨(Nat.le_of_ble_eq_true rfl), (Nat.le_of_ble_eq_true rfl)⟩) ⟨Wd.blind, fun U hU hW => ⟨rfl, Wd.call hPc hDc hK hC hZ hS hFc U hU hW⟩⟩ rfl rfl hl.1 rfl (lv_room (Nat.le_of_ble_eq_true rfl)) dX10_setGrace_7 ⟨(Nat.le_of_ble_eq_true rfl), (Nat.le_of_ble_eq_true rfl)⟩) hS (fun q _ h => hFc q h) hFc (fun rn1 u t H1 locs ht hvm hw hB hz1 hk1 hS => ?_)
  obtain ⟨hP1, hD1⟩ := hB
  rw [ht] at hP1
  obtain ⟨hP, hD⟩ := va_join (wr := [(w0, .inr (11, [.ref v0, .ref v1, .ref v2, .ref v3, .ref v4, .long 0, .long 0, .int 0, .int th, .ref v9, .int 0, .int 0, .int (-1), .ref v13, .int 0, .int 0, .int 0, .int 0, .int 0, .int 0, .int 0, .int 0, .int 0, .int 0, .int 0, .long 0, .int 0, .ref v27, .ref v28, .ref v29, .ref v30, .ref v31, .ref v32, .ref v33, .ref v34, .ref v35, .ref v36, .ref v37, .int 0])), (v0, .inl (cA 0, 326, .inl fs))]) (w1 := []) hP hD [] [0, 1] rfl rfl (by decide) (by decide) hk1 hFc hP1 hD1
  generalize H1 = H at hP hS ⊢
  have hP : va_P D vwCl [(w0, .inr (11, [.ref v0, .ref v1, .ref v2, .ref v3, .ref v4, .long 0, .long 0, .int 0, .int th, .ref v9, .int 0, .int 0, .int (-1), .ref v13, .int 0, .int 0, .int 0, .int 0, .int 0, .int 0, .int 0, .int 0, .int 0, .int 0, .int 0, .long 0, .int 0, .ref v27, .ref v28, .ref v29, .ref v30, .ref v31, .ref v32, .ref v33, .ref v34, .ref v35, .ref v36, .ref v37, .int 0])), (v0, .inl (cA 0, 326, .inl fs))] H := hP
  have hD : va_D A [(w0, .inr (11, [.ref v0, .ref v1, .ref v2, .ref v3, .ref v4, .long 0, .long 0, .int 0, .int th, .ref v9, .int 0, .int 0, .int (-1), .ref v13, .int 0, .int 0, .int 0, .int 0, .int 0, .int 0, .int 0, .int 0, .int 0, .int 0, .int 0, .long 0, .int 0, .ref v27, .ref v28, .ref v29, .ref v30, .ref v31, .ref v32, .ref v33, .ref v34, .ref v35, .ref v36, .ref v37, .int 0])), (v0, .inl (cA 0, 326, .inl fs))] := hD
  obtain rfl : rn1 = 0 := hw
  have hPc := hP.sub (ws' := [(w0, .inr (11, [.ref v0, .ref v1, .ref v2, .ref v3, .ref v4, .long 0, .long 0, .int 0, .int th, .ref v9, .int 0, .int 0, .int (-1), .ref v13, .int 0, .int 0, .int 0, .int 0, .int 0, .int 0, .int 0, .int 0, .int 0, .int 0, .int 0, .long 0, .int 0, .ref v27, .ref v28, .ref v29, .ref v30, .ref v31, .ref v32, .ref v33, .ref v34, .ref v35, .ref v36, .ref v37, .int 0]))]) [0] rfl
  have hDc := hD.sub (ws' := [(w0, .inr (11, [.ref v0, .ref v1, .ref v2, .ref v3, .ref v4, .long 0, .long 0, .int 0, .int th, .ref v9, .int 0, .int 0, .int (-1), .ref v13, .int 0, .int 0, .int 0, .int 0, .int 0, .int 0, .int 0, .int 0, .int 0, .int 0, .int 0, .long 0, .int 0, .ref v27, .ref v28, .ref v29, .ref v30, .ref v31, .ref v32, .ref v33, .ref v34, .ref v35, .ref v36, .ref v37, .int 0]))]) [0] (by decide) rfl
  have hFc := va_free (wc := [(w0, .inr (11, [.ref v0, .ref v1, .ref v2, .ref v3, .ref v4, .long 0, .long 0, .int 0, .int th, .ref v9, .int 0, .int 0, .int (-1), .ref v13, .int 0, .int 0, .int 0, .int 0, .int 0, .int 0, .int 0, .int 0, .int 0, .int 0, .int 0, .long 0, .int 0, .ref v27, .ref v28, .ref v29, .ref v30, .ref v31, .ref v32, .ref v33, .ref v34, .ref v35, .ref v36, .ref v37, .int 0]))]) hD hS hA [0] rfl
  refine va_calli (va_runV (As := [.int 0]) (rest := []) ⟨hx, hb, hml, hown, hts⟩ (c_m_good_0 l D cA sa w0 v0 v1 v2 v3 v4 v9 v13 v27 v28 v29 v30 v31 v32 v33 v34 v35 v36 v37 th H.size) (cwV 1 hts gX10_setGrace_X10_good rfl rfl rfl (by decide +kernel) ⟨(Nat.le_of_ble_eq_true rfl), (Nat.le_of_ble_eq_true rfl)⟩) ⟨Wd.blind, va_recv hK hPc (ci := 11) (q0 := 0) rfl rfl, fun U hU hW => ⟨rfl, Wd.call hPc hDc hK hC hZ hS hFc U hU hW⟩⟩ rfl rfl hl.1 rfl (lv_room (Nat.le_of_ble_eq_true rfl)) dX10_setGrace_10 ⟨(Nat.le_of_ble_eq_true rfl), (Nat.le_of_ble_eq_true rfl)⟩) hS (fun q _ h => hFc q h) hFc (fun rn2 u t H1 locs ht hvm hw hB hz1 hk1 hS => ?_)
  obtain ⟨hP1, hD1⟩ := hB
  rw [ht] at hP1
  obtain ⟨hP, hD⟩ := va_join (wr := [(v0, .inl (cA 0, 326, .inl fs))]) (w1 := [(w0, .inr (11, [.ref v0, .ref v1, .ref v2, .ref v3, .ref v4, .long 0, .long 0, .int 0, .int 1, .ref v9, .int 0, .int 0, .int (-1), .ref v13, .int 0, .int 0, .int 0, .int 0, .int 0, .int 0, .int 0, .int 0, .int 0, .int 0, .int 0, .long 0, .int 0, .ref v27, .ref v28, .ref v29, .ref v30, .ref v31, .ref v32, .ref v33, .ref v34, .ref v35, .ref v36, .ref v37, .int 0]))]) hP hD [0] [1] rfl rfl (by decide) (by decide) hk1 hFc hP1 hD1
  generalize H1 = H at hP hS ⊢
  have hP : va_P D vwCl [(v0, .inl (cA 0, 326, .inl fs)), (w0, .inr (11, [.ref v0, .ref v1, .ref v2, .ref v3, .ref v4, .long 0, .long 0, .int 0, .int 1, .ref v9, .int 0, .int 0, .int (-1), .ref v13, .int 0, .int 0, .int 0, .int 0, .int 0, .int 0, .int 0, .int 0, .int 0, .int 0, .int 0, .long 0, .int 0, .ref v27, .ref v28, .ref v29, .ref v30, .ref v31, .ref v32, .ref v33, .ref v34, .ref v35, .ref v36, .ref v37, .int 0]))] H := hP
  have hD : va_D A [(v0, .inl (cA 0, 326, .inl fs)), (w0, .inr (11, [.ref v0, .ref v1, .ref v2, .ref v3, .ref v4, .long 0, .long 0, .int 0, .int 1, .ref v9, .int 0, .int 0, .int (-1), .ref v13, .int 0, .int 0, .int 0, .int 0, .int 0, .int 0, .int 0, .int 0, .int 0, .int 0, .int 0, .long 0, .int 0, .ref v27, .ref v28, .ref v29, .ref v30, .ref v31, .ref v32, .ref v33, .ref v34, .ref v35, .ref v36, .ref v37, .int 0]))] := hD
  obtain rfl : rn2 = 0 := hw
  refine lv_if_ne (tgt := 18) hx hb dX10_setGrace_13 (by decide) (fun c9 => absurd c9 (by decide)) (fun c3 => ?_)
  refine lv_iconst (v := 0) hx hb dX10_setGrace_16 (by decide) ?_
  have hP9 := hP.sub (ws' := [(w0, .inr (11, [.ref v0, .ref v1, .ref v2, .ref v3, .ref v4, .long 0, .long 0, .int 0, .int 1, .ref v9, .int 0, .int 0, .int (-1), .ref v13, .int 0, .int 0, .int 0, .int 0, .int 0, .int 0, .int 0, .int 0, .int 0, .int 0, .int 0, .long 0, .int 0, .ref v27, .ref v28, .ref v29, .ref v30, .ref v31, .ref v32, .ref v33, .ref v34, .ref v35, .ref v36, .ref v37, .int 0]))]) [1] rfl
  have hD9 := hD.sub (ws' := [(w0, .inr (11, [.ref v0, .ref v1, .ref v2, .ref v3, .ref v4, .long 0, .long 0, .int 0, .int 1, .ref v9, .int 0, .int 0, .int (-1), .ref v13, .int 0, .int 0, .int 0, .int 0, .int 0, .int 0, .int 0, .int 0, .int 0, .int 0, .int 0, .long 0, .int 0, .ref v27, .ref v28, .ref v29, .ref v30, .ref v31, .ref v32, .ref v33, .ref v34, .ref v35, .ref v36, .ref v37, .int 0]))]) [1] (by decide) rfl
  refine W.widen (k := 0) (n := 0) (Nat.le_of_ble_eq_true rfl) (Nat.le_of_ble_eq_true rfl) ?_
  exact W.iret (v := 0) hx hb hr (fun t ht hW => ⟨⟨0, (), rfl, rfl, by rw [ht]; exact hP9, hD9⟩, hS.F ht⟩) hS.2.2 dX10_setGrace_17

set_option maxHeartbeats 4000000 in
set_option maxRecDepth 100000 in
/-- refund(0) -/
theorem c_m_refund0 (l : Launch) (D : va_G) (cA : Nat → ClassId) (sa : Nat → Nat) (w0 v0 v1 v2 v3 v4 v9 v13 v27 v28 v29 v30 v31 v32 v33 v34 v35 v36 v37 : Nat) (th : Int32) (fs : Nat → Int32) (sz : Nat) (hz : Zs fs) : Met l yX10_refund wsX10_refund ({ frames := 1, cells := 0, slots := 0, locals := 24 }) (va_Pc [.ref w0, .int 0, .int (-1)] (Wd D cA sa [(w0, .inr (11, [.ref v0, .ref v1, .ref v2, .ref v3, .ref v4, .long 0, .long 0, .int 1, .int th, .ref v9, .int 0, .int 0, .int (-1), .ref v13, .int 0, .int 0, .int 0, .int 0, .int 0, .int 0, .int 0, .int 0, .int 0, .int 0, .int 0, .long 0, .int 0, .ref v27, .ref v28, .ref v29, .ref v30, .ref v31, .ref v32, .ref v33, .ref v34, .ref v35, .ref v36, .ref v37, .int 0])), (v0, .inl (cA 0, 326, .inl fs))] sz)) (va_Qv (fun _ : Unit => True) (fun (_ : Unit) t => ∃ fn7 : Nat → Int32, Wq D (va_A [(w0, .inr (11, [.ref v0, .ref v1, .ref v2, .ref v3, .ref v4, .long 0, .long 0, .int 1, .int th, .ref v9, .int 0, .int 0, .int (-1), .ref v13, .int 0, .int 0, .int 0, .int 0, .int 0, .int 0, .int 0, .int 0, .int 0, .int 0, .int 0, .long 0, .int 0, .ref v27, .ref v28, .ref v29, .ref v30, .ref v31, .ref v32, .ref v33, .ref v34, .ref v35, .ref v36, .ref v37, .int 0])), (v0, .inl (cA 0, 326, .inl fs))] sz) [(w0, .inr (11, [.ref v0, .ref v1, .ref v2, .ref v3, .ref v4, .long 0, .long 0, .int 1, .int th, .ref v9, .int 0, .int 0, .int (-1), .ref v13, .int 0, .int 0, .int 0, .int 0, .int 0, .int 0, .int 0, .int 0, .int 0, .int 0, .int 0, .long 0, .int 0, .ref v27, .ref v28, .ref v29, .ref v30, .ref v31, .ref v32, .ref v33, .ref v34, .ref v35, .ref v36, .ref v37, .int 0])), (v0, .inl (cA 0, 326, .inl fn7))] t) (va_A [(w0, .inr (11, [.ref v0, .ref v1, .ref v2, .ref v3, .ref v4, .long 0, .long 0, .int 1, .int th, .ref v9, .int 0, .int 0, .int (-1), .ref v13, .int 0, .int 0, .int 0, .int 0, .int 0, .int 0, .int 0, .int 0, .int 0, .int 0, .int 0, .long 0, .int 0, .ref v27, .ref v28, .ref v29, .ref v30, .ref v31, .ref v32, .ref v33, .ref v34, .ref v35, .ref v36, .ref v37, .int 0])), (v0, .inl (cA 0, 326, .inl fs))] sz)) 0 0 (va_A [(w0, .inr (11, [.ref v0, .ref v1, .ref v2, .ref v3, .ref v4, .long 0, .long 0, .int 1, .int th, .ref v9, .int 0, .int 0, .int (-1), .ref v13, .int 0, .int 0, .int 0, .int 0, .int 0, .int 0, .int 0, .int 0, .int 0, .int 0, .int 0, .long 0, .int 0, .ref v27, .ref v28, .ref v29, .ref v30, .ref v31, .ref v32, .ref v33, .ref v34, .ref v35, .ref v36, .ref v37, .int 0])), (v0, .inl (cA 0, 326, .inl fs))] sz) := by
  refine Met.ofW (cc := cX10_refund) (maxL := 3) (ret := none) (by decide) rfl ?_
  intro p e s m args below meth c s₁ B hml hv
  obtain ⟨rfl, hsz, hP, hK, hD0, hC, hZ⟩ := hv
  have hx := B.exec
  have hb := B.bytes
  have hr := B.returns
  have hts := atoms_spec (ws := wsX10_refund) B.pre
  have hown : s.vm.findClass RX10 = some m.cls := findClass_of_methodNamed B.named
  have hlocks := B.notSynchronized
  subst hsz
  have hD := hD0.self (sz := s.heap.size)
  generalize hAe : va_A [(w0, .inr (11, [.ref v0, .ref v1, .ref v2, .ref v3, .ref v4, .long 0, .long 0, .int 1, .int th, .ref v9, .int 0, .int 0, .int (-1), .ref v13, .int 0, .int 0, .int 0, .int 0, .int 0, .int 0, .int 0, .int 0, .int 0, .int 0, .int 0, .long 0, .int 0, .ref v27, .ref v28, .ref v29, .ref v30, .ref v31, .ref v32, .ref v33, .ref v34, .ref v35, .ref v36, .ref v37, .int 0])), (v0, .inl (cA 0, 326, .inl fs))] s.heap.size = A at hD hZ ⊢
  have hA : ∀ q : Nat, s.heap.size ≤ q → A q := fun q h => by rw [← hAe]; exact Or.inr h
  have hS : va_S A s.heap s.heap [] := va_S.rf
  have hP : va_P D vwCl [(w0, .inr (11, [.ref v0, .ref v1, .ref v2, .ref v3, .ref v4, .long 0, .long 0, .int 1, .int th, .ref v9, .int 0, .int 0, .int (-1), .ref v13, .int 0, .int 0, .int 0, .int 0, .int 0, .int 0, .int 0, .int 0, .int 0, .int 0, .int 0, .long 0, .int 0, .ref v27, .ref v28, .ref v29, .ref v30, .ref v31, .ref v32, .ref v33, .ref v34, .ref v35, .ref v36, .ref v37, .int 0])), (v0, .inl (cA 0, 326, .inl fs))] s.heap := hP
  have hl := lv_entry ([.ref w0, .int 0, .int (-1)]) (n := 3) (Nat.le_of_ble_eq_true rfl)
  rw [lg_entry_eq]
  generalize (lg_sl ([.ref w0, .int 0, .int (-1)]) ++ List.replicate (3 - (lg_sl ([.ref w0, .int 0, .int (-1)])).length) Slot.unset).toArray = ls at hl ⊢
  have hl : lv_has ls 3 [(0, .ref w0), (1, .int 0), (2, .int (-1))] := hl
  have inX10 : ∀ w ∈ u_ws RX10 TX10 39, w ∈ wsX10_refund := by decide +kernel
  refine lv_aload_n hx hb dX10_refund_0 rfl (lv_at hl 0 rfl) ?_
  refine va_get (D := D) (ci := 11) (v := .ref v0) (C := RX10) (T := TX10) (N := 39) hx hb hts inX10 hown hK hP 0 rfl rfl 0 (by decide) (hts (.fieldLink RX10 7 "EscrowDeskModel" "s" "[I") (by decide +kernel)) (fun _ h9 => h9) rfl dX10_refund_1 ?_
  refine lv_bipush (v := 6) hx hb dX10_refund_4 (by decide) ?_
  refine lv_dup2_11 hx hb dX10_refund_6 rfl rfl ?_
  refine va_iald hx hb hK hP 1 0 rfl rfl (vp_in_iff.mpr (by decide)) dX10_refund_7 ?_
  refine lv_topi (fun yn1 eyn1 => ?_)
  obtain rfl : yn1 = 0 := eyn1.trans (hz.2 6 (by decide) (by decide))
  refine lv_iload_n hx hb dX10_refund_8 rfl (lv_at hl 1 rfl) ?_
  refine lv_isub hx hb dX10_refund_9 ?_
  refine lv_topi (fun yn2 eyn2 => ?_)
  obtain rfl : yn2 = 0 := eyn2.trans (by first | rfl | decide +kernel)
  refine va_iast hx hb hK hP hD hS 1 0 rfl rfl (vp_in_iff.mpr (by decide)) dX10_refund_10 (fun H locs hP hD hS => ?_)
  have hP : va_P D vwCl [(w0, .inr (11, [.ref v0, .ref v1, .ref v2, .ref v3, .ref v4, .long 0, .long 0, .int 1, .int th, .ref v9, .int 0, .int 0, .int (-1), .ref v13, .int 0, .int 0, .int 0, .int 0, .int 0, .int 0, .int 0, .int 0, .int 0, .int 0, .int 0, .long 0, .int 0, .ref v27, .ref v28, .ref v29, .ref v30, .ref v31, .ref v32, .ref v33, .ref v34, .ref v35, .ref v36, .ref v37, .int 0])), (v0, .inl (cA 0, 326, .inl (upd fs 6 0)))] H := hP
  have hD : va_D A [(w0, .inr (11, [.ref v0, .ref v1, .ref v2, .ref v3, .ref v4, .long 0, .long 0, .int 1, .int th, .ref v9, .int 0, .int 0, .int (-1), .ref v13, .int 0, .int 0, .int 0, .int 0, .int 0, .int 0, .int 0, .int 0, .int 0, .int 0, .int 0, .long 0, .int 0, .ref v27, .ref v28, .ref v29, .ref v30, .ref v31, .ref v32, .ref v33, .ref v34, .ref v35, .ref v36, .ref v37, .int 0])), (v0, .inl (cA 0, 326, .inl (upd fs 6 0)))] := hD
  have hn4 : Zd (upd fs 6 0) := Zd.zero hz.d 6 (by decide)
  generalize (upd fs 6 0) = fn3 at hP hD hn4
  have hP : va_P D vwCl [(w0, .inr (11, [.ref v0, .ref v1, .ref v2, .ref v3, .ref v4, .long 0, .long 0, .int 1, .int th, .ref v9, .int 0, .int 0, .int (-1), .ref v13, .int 0, .int 0, .int 0, .int 0, .int 0, .int 0, .int 0, .int 0, .int 0, .int 0, .int 0, .long 0, .int 0, .ref v27, .ref v28, .ref v29, .ref v30, .ref v31, .ref v32, .ref v33, .ref v34, .ref v35, .ref v36, .ref v37, .int 0])), (v0, .inl (cA 0, 326, .inl fn3))] H := hP
  have hD : va_D A [(w0, .inr (11, [.ref v0, .ref v1, .ref v2, .ref v3, .ref v4, .long 0, .long 0, .int 1, .int th, .ref v9, .int 0, .int 0, .int (-1), .ref v13, .int 0, .int 0, .int 0, .int 0, .int 0, .int 0, .int 0, .int 0, .int 0, .int 0, .int 0, .long 0, .int 0, .ref v27, .ref v28, .ref v29, .ref v30, .ref v31, .ref v32, .ref v33, .ref v34, .ref v35, .ref v36, .ref v37, .int 0])), (v0, .inl (cA 0, 326, .inl fn3))] := hD
  refine lv_aload_n hx hb dX10_refund_11 rfl (lv_at hl 0 rfl) ?_
  refine va_get (D := D) (ci := 11) (v := .ref v0) (C := RX10) (T := TX10) (N := 39) hx hb hts inX10 hown hK hP 0 rfl rfl 0 (by decide) (hts (.fieldLink RX10 7 "EscrowDeskModel" "s" "[I") (by decide +kernel)) (fun _ h9 => h9) rfl dX10_refund_12 ?_
  refine lv_bipush (v := 11) hx hb dX10_refund_15 (by decide) ?_
  refine lv_dup2_11 hx hb dX10_refund_17 rfl rfl ?_
  refine va_iald hx hb hK hP 1 0 rfl rfl (vp_in_iff.mpr (by decide)) dX10_refund_18 ?_
  refine lv_topi (fun yn5 eyn5 => ?_)
  obtain rfl : yn5 = 0 := eyn5.trans (hn4.2 11 (by decide) (by decide) (by decide))
  refine lv_iload_n hx hb dX10_refund_19 rfl (lv_at hl 1 rfl) ?_
  refine lv_iadd hx hb dX10_refund_20 ?_
  refine lv_topi (fun yn6 eyn6 => ?_)
  obtain rfl : yn6 = 0 := eyn6.trans (by first | rfl | decide +kernel)
  refine va_iast hx hb hK hP hD hS 1 0 rfl rfl (vp_in_iff.mpr (by decide)) dX10_refund_21 (fun H locs hP hD hS => ?_)
  have hP : va_P D vwCl [(w0, .inr (11, [.ref v0, .ref v1, .ref v2, .ref v3, .ref v4, .long 0, .long 0, .int 1, .int th, .ref v9, .int 0, .int 0, .int (-1), .ref v13, .int 0, .int 0, .int 0, .int 0, .int 0, .int 0, .int 0, .int 0, .int 0, .int 0, .int 0, .long 0, .int 0, .ref v27, .ref v28, .ref v29, .ref v30, .ref v31, .ref v32, .ref v33, .ref v34, .ref v35, .ref v36, .ref v37, .int 0])), (v0, .inl (cA 0, 326, .inl (upd fn3 11 0)))] H := hP
  have hD : va_D A [(w0, .inr (11, [.ref v0, .ref v1, .ref v2, .ref v3, .ref v4, .long 0, .long 0, .int 1, .int th, .ref v9, .int 0, .int 0, .int (-1), .ref v13, .int 0, .int 0, .int 0, .int 0, .int 0, .int 0, .int 0, .int 0, .int 0, .int 0, .int 0, .long 0, .int 0, .ref v27, .ref v28, .ref v29, .ref v30, .ref v31, .ref v32, .ref v33, .ref v34, .ref v35, .ref v36, .ref v37, .int 0])), (v0, .inl (cA 0, 326, .inl (upd fn3 11 0)))] := hD
  generalize (upd fn3 11 0) = fn7 at hP hD
  have hP : va_P D vwCl [(w0, .inr (11, [.ref v0, .ref v1, .ref v2, .ref v3, .ref v4, .long 0, .long 0, .int 1, .int th, .ref v9, .int 0, .int 0, .int (-1), .ref v13, .int 0, .int 0, .int 0, .int 0, .int 0, .int 0, .int 0, .int 0, .int 0, .int 0, .int 0, .long 0, .int 0, .ref v27, .ref v28, .ref v29, .ref v30, .ref v31, .ref v32, .ref v33, .ref v34, .ref v35, .ref v36, .ref v37, .int 0])), (v0, .inl (cA 0, 326, .inl fn7))] H := hP
  have hD : va_D A [(w0, .inr (11, [.ref v0, .ref v1, .ref v2, .ref v3, .ref v4, .long 0, .long 0, .int 1, .int th, .ref v9, .int 0, .int 0, .int (-1), .ref v13, .int 0, .int 0, .int 0, .int 0, .int 0, .int 0, .int 0, .int 0, .int 0, .int 0, .int 0, .long 0, .int 0, .ref v27, .ref v28, .ref v29, .ref v30, .ref v31, .ref v32, .ref v33, .ref v34, .ref v35, .ref v36, .ref v37, .int 0])), (v0, .inl (cA 0, 326, .inl fn7))] := hD
  refine lv_aload_n hx hb dX10_refund_22 rfl (lv_at hl 0 rfl) ?_
  refine va_get (D := D) (ci := 11) (v := .ref v0) (C := RX10) (T := TX10) (N := 39) hx hb hts inX10 hown hK hP 0 rfl rfl 0 (by decide) (hts (.fieldLink RX10 7 "EscrowDeskModel" "s" "[I") (by decide +kernel)) (fun _ h9 => h9) rfl dX10_refund_23 ?_
  refine lv_iconst (v := 2) hx hb dX10_refund_26 (by decide) ?_
  refine lv_iload_n hx hb dX10_refund_27 rfl (lv_at hl 1 rfl) ?_
  refine lv_iload_n hx hb dX10_refund_28 rfl (lv_at hl 2 rfl) ?_
  have hPc := hP.sub (ws' := [(v0, .inl (cA 0, 326, .inl fn7))]) [1] rfl
  have hDc := hD.sub (ws' := [(v0, .inl (cA 0, 326, .inl fn7))]) [1] (by decide) rfl
  have hFc := va_free (wc := [(v0, .inl (cA 0, 326, .inl fn7))]) hD hS hA [1] rfl
  refine va_callv (va_runS (As := [.ref v0, .int 2, .int 0, .int (-1)]) (rest := []) ⟨hx, hb, hml, hown, hts⟩ (c_m_enter0 l D cA sa v0 2 (-1) fn7 H.size) (va_cwS 4 hts gX10_refund_X10_enter rfl rfl rfl (by decide +kernel) ⟨(Nat.le_of_ble_eq_true rfl), (Nat.le_of_ble_eq_true rfl)⟩) ⟨Wd.blind, fun U hU hW => ⟨rfl, Wd.call hPc hDc hK hC hZ hS hFc U hU hW⟩⟩ rfl rfl hl.1 rfl (lv_room (Nat.le_of_ble_eq_true rfl)) dX10_refund_29 ⟨(Nat.le_of_ble_eq_true rfl), (Nat.le_of_ble_eq_true rfl)⟩) hS (fun q _ h => hFc q h) hFc (fun u t H1 locs ht hvm hw hB hz1 hk1 hS => ?_)
  obtain ⟨hP1, hD1⟩ := hB
  rw [ht] at hP1
  obtain ⟨hP, hD⟩ := va_join (wr := [(w0, .inr (11, [.ref v0, .ref v1, .ref v2, .ref v3, .ref v4, .long 0, .long 0, .int 1, .int th, .ref v9, .int 0, .int 0, .int (-1), .ref v13, .int 0, .int 0, .int 0, .int 0, .int 0, .int 0, .int 0, .int 0, .int 0, .int 0, .int 0, .long 0, .int 0, .ref v27, .ref v28, .ref v29, .ref v30, .ref v31, .ref v32, .ref v33, .ref v34, .ref v35, .ref v36, .ref v37, .int 0]))]) (w1 := [(v0, .inl (cA 0, 326, .inl fn7))]) hP hD [1] [0] rfl rfl (by decide) (by decide) hk1 hFc hP1 hD1
  generalize H1 = H at hP hS ⊢
  have hP : va_P D vwCl [(w0, .inr (11, [.ref v0, .ref v1, .ref v2, .ref v3, .ref v4, .long 0, .long 0, .int 1, .int th, .ref v9, .int 0, .int 0, .int (-1), .ref v13, .int 0, .int 0, .int 0, .int 0, .int 0, .int 0, .int 0, .int 0, .int 0, .int 0, .int 0, .long 0, .int 0, .ref v27, .ref v28, .ref v29, .ref v30, .ref v31, .ref v32, .ref v33, .ref v34, .ref v35, .ref v36, .ref v37, .int 0])), (v0, .inl (cA 0, 326, .inl fn7))] H := hP
  have hD : va_D A [(w0, .inr (11, [.ref v0, .ref v1, .ref v2, .ref v3, .ref v4, .long 0, .long 0, .int 1, .int th, .ref v9, .int 0, .int 0, .int (-1), .ref v13, .int 0, .int 0, .int 0, .int 0, .int 0, .int 0, .int 0, .int 0, .int 0, .int 0, .int 0, .long 0, .int 0, .ref v27, .ref v28, .ref v29, .ref v30, .ref v31, .ref v32, .ref v33, .ref v34, .ref v35, .ref v36, .ref v37, .int 0])), (v0, .inl (cA 0, 326, .inl fn7))] := hD
  have hP9 := hP.sub (ws' := [(w0, .inr (11, [.ref v0, .ref v1, .ref v2, .ref v3, .ref v4, .long 0, .long 0, .int 1, .int th, .ref v9, .int 0, .int 0, .int (-1), .ref v13, .int 0, .int 0, .int 0, .int 0, .int 0, .int 0, .int 0, .int 0, .int 0, .int 0, .int 0, .long 0, .int 0, .ref v27, .ref v28, .ref v29, .ref v30, .ref v31, .ref v32, .ref v33, .ref v34, .ref v35, .ref v36, .ref v37, .int 0])), (v0, .inl (cA 0, 326, .inl fn7))]) [0, 1] rfl
  have hD9 := hD.sub (ws' := [(w0, .inr (11, [.ref v0, .ref v1, .ref v2, .ref v3, .ref v4, .long 0, .long 0, .int 1, .int th, .ref v9, .int 0, .int 0, .int (-1), .ref v13, .int 0, .int 0, .int 0, .int 0, .int 0, .int 0, .int 0, .int 0, .int 0, .int 0, .int 0, .long 0, .int 0, .ref v27, .ref v28, .ref v29, .ref v30, .ref v31, .ref v32, .ref v33, .ref v34, .ref v35, .ref v36, .ref v37, .int 0])), (v0, .inl (cA 0, 326, .inl fn7))]) [0, 1] (by decide) rfl
  refine W.widen (k := 0) (n := 0) (Nat.le_of_ble_eq_true rfl) (Nat.le_of_ble_eq_true rfl) ?_
  exact W.vret hx hb hr (fun t ht hW => ⟨⟨(), rfl, trivial, fn7, by rw [ht]; exact hP9, hD9⟩, hS.F ht⟩) hS.2.2 dX10_refund_32

set_option maxHeartbeats 4000000 in
set_option maxRecDepth 100000 in
/-- close -/
theorem c_m_close (l : Launch) (D : va_G) (cA : Nat → ClassId) (sa : Nat → Nat) (w0 v0 v1 v2 v3 v4 v9 v13 v27 v28 v29 v30 v31 v32 v33 v34 v35 v36 v37 : Nat) (th : Int32) (fs fh : Nat → Int32) (fq : Nat → Int64) (sz : Nat) (hz : Zs fs) : Met l yX10_close wsX10_close ({ frames := 2, cells := 0, slots := 0, locals := 46 }) (va_Pc [.ref w0] (Wd D cA sa [(w0, .inr (11, [.ref v0, .ref v1, .ref v2, .ref v3, .ref v4, .long 0, .long 0, .int 0, .int th, .ref v9, .int 0, .int 0, .int (-1), .ref v13, .int 0, .int 0, .int 0, .int 0, .int 0, .int 0, .int 0, .int 0, .int 0, .int 0, .int 0, .long 0, .int 0, .ref v27, .ref v28, .ref v29, .ref v30, .ref v31, .ref v32, .ref v33, .ref v34, .ref v35, .ref v36, .ref v37, .int 0])), (v0, .inl (cA 0, 326, .inl fs)), (v3, .inl (cA 0, 3260, .inl fh)), (v4, .inl (cA 1, 10, .inr (.inl fq)))] sz)) (va_Qi (fun (r : Int32) (_ : Unit) => r = 0) (fun (_ : Unit) t => Wq D (va_A [(w0, .inr (11, [.ref v0, .ref v1, .ref v2, .ref v3, .ref v4, .long 0, .long 0, .int 0, .int th, .ref v9, .int 0, .int 0, .int (-1), .ref v13, .int 0, .int 0, .int 0, .int 0, .int 0, .int 0, .int 0, .int 0, .int 0, .int 0, .int 0, .long 0, .int 0, .ref v27, .ref v28, .ref v29, .ref v30, .ref v31, .ref v32, .ref v33, .ref v34, .ref v35, .ref v36, .ref v37, .int 0])), (v0, .inl (cA 0, 326, .inl fs)), (v3, .inl (cA 0, 3260, .inl fh)), (v4, .inl (cA 1, 10, .inr (.inl fq)))] sz) [(w0, .inr (11, [.ref v0, .ref v1, .ref v2, .ref v3, .ref v4, .long 0, .long 0, .int 1, .int 0, .ref v9, .int 0, .int 0, .int (-1), .ref v13, .int 0, .int 0, .int 0, .int 0, .int 0, .int 0, .int 0, .int 0, .int 0, .int 0, .int 0, .long 0, .int 0, .ref v27, .ref v28, .ref v29, .ref v30, .ref v31, .ref v32, .ref v33, .ref v34, .ref v35, .ref v36, .ref v37, .int 0]))] t) (va_A [(w0, .inr (11, [.ref v0, .ref v1, .ref v2, .ref v3, .ref v4, .long 0, .long 0, .int 0, .int th, .ref v9, .int 0, .int 0, .int (-1), .ref v13, .int 0, .int 0, .int 0, .int 0, .int 0, .int 0, .int 0, .int 0, .int 0, .int 0, .int 0, .long 0, .int 0, .ref v27, .ref v28, .ref v29, .ref v30, .ref v31, .ref v32, .ref v33, .ref v34, .ref v35, .ref v36, .ref v37, .int 0])), (v0, .inl (cA 0, 326, .inl fs)), (v3, .inl (cA 0, 3260, .inl fh)), (v4, .inl (cA 1, 10, .inr (.inl fq)))] sz)) 0 0 (va_A [(w0, .inr (11, [.ref v0, .ref v1, .ref v2, .ref v3, .ref v4, .long 0, .long 0, .int 0, .int th, .ref v9, .int 0, .int 0, .int (-1), .ref v13, .int 0, .int 0, .int 0, .int 0, .int 0, .int 0, .int 0, .int 0, .int 0, .int 0, .int 0, .long 0, .int 0, .ref v27, .ref v28, .ref v29, .ref v30, .ref v31, .ref v32, .ref v33, .ref v34, .ref v35, .ref v36, .ref v37, .int 0])), (v0, .inl (cA 0, 326, .inl fs)), (v3, .inl (cA 0, 3260, .inl fh)), (v4, .inl (cA 1, 10, .inr (.inl fq)))] sz) := by
  refine Met.ofW (cc := cX10_close) (maxL := 2) (ret := (some .int)) (by decide) rfl ?_
  intro p e s m args below meth c s₁ B hml hv
  obtain ⟨rfl, hsz, hP, hK, hD0, hC, hZ⟩ := hv
  have hx := B.exec
  have hb := B.bytes
  have hr := B.returns
  have hts := atoms_spec (ws := wsX10_close) B.pre
  have hown : s.vm.findClass RX10 = some m.cls := findClass_of_methodNamed B.named
  have hlocks := B.notSynchronized
  subst hsz
  have hD := hD0.self (sz := s.heap.size)
  generalize hAe : va_A [(w0, .inr (11, [.ref v0, .ref v1, .ref v2, .ref v3, .ref v4, .long 0, .long 0, .int 0, .int th, .ref v9, .int 0, .int 0, .int (-1), .ref v13, .int 0, .int 0, .int 0, .int 0, .int 0, .int 0, .int 0, .int 0, .int 0, .int 0, .int 0, .long 0, .int 0, .ref v27, .ref v28, .ref v29, .ref v30, .ref v31, .ref v32, .ref v33, .ref v34, .ref v35, .ref v36, .ref v37, .int 0])), (v0, .inl (cA 0, 326, .inl fs)), (v3, .inl (cA 0, 3260, .inl fh)), (v4, .inl (cA 1, 10, .inr (.inl fq)))] s.heap.size = A at hD hZ ⊢
  have hA : ∀ q : Nat, s.heap.size ≤ q → A q := fun q h => by rw [← hAe]; exact Or.inr h
  have hS : va_S A s.heap s.heap [] := va_S.rf
  have hP : va_P D vwCl [(w0, .inr (11, [.ref v0, .ref v1, .ref v2, .ref v3, .ref v4, .long 0, .long 0, .int 0, .int th, .ref v9, .int 0, .int 0, .int (-1), .ref v13, .int 0, .int 0, .int 0, .int 0, .int 0, .int 0, .int 0, .int 0, .int 0, .int 0, .int 0, .long 0, .int 0, .ref v27, .ref v28, .ref v29, .ref v30, .ref v31, .ref v32, .ref v33, .ref v34, .ref v35, .ref v36, .ref v37, .int 0])), (v0, .inl (cA 0, 326, .inl fs)), (v3, .inl (cA 0, 3260, .inl fh)), (v4, .inl (cA 1, 10, .inr (.inl fq)))] s.heap := hP
  have hl := lv_entry ([.ref w0]) (n := 2) (Nat.le_of_ble_eq_true rfl)
  rw [lg_entry_eq]
  generalize (lg_sl ([.ref w0]) ++ List.replicate (2 - (lg_sl ([.ref w0])).length) Slot.unset).toArray = ls at hl ⊢
  have hl : lv_has ls 2 [(0, .ref w0)] := hl
  have inX10 : ∀ w ∈ u_ws RX10 TX10 39, w ∈ wsX10_close := by decide +kernel
  refine lv_aload_n hx hb dX10_close_0 rfl (lv_at hl 0 rfl) ?_
  refine lv_aload_n hx hb dX10_close_1 rfl (lv_at hl 0 rfl) ?_
  have hPc := hP.sub (ws' := [(w0, .inr (11, [.ref v0, .ref v1, .ref v2, .ref v3, .ref v4, .long 0, .long 0, .int 0, .int th, .ref v9, .int 0, .int 0, .int (-1), .ref v13, .int 0, .int 0, .int 0, .int 0, .int 0, .int 0, .int 0, .int 0, .int 0, .int 0, .int 0, .long 0, .int 0, .ref v27, .ref v28, .ref v29, .ref v30, .ref v31, .ref v32, .ref v33, .ref v34, .ref v35, .ref v36, .ref v37, .int 0])), (v0, .inl (cA 0, 326, .inl fs))]) [0, 1] rfl
  have hDc := hD.sub (ws' := [(w0, .inr (11, [.ref v0, .ref v1, .ref v2, .ref v3, .ref v4, .long 0, .long 0, .int 0, .int th, .ref v9, .int 0, .int 0, .int (-1), .ref v13, .int 0, .int 0, .int 0, .int 0, .int 0, .int 0, .int 0, .int 0, .int 0, .int 0, .int 0, .long 0, .int 0, .ref v27, .ref v28, .ref v29, .ref v30, .ref v31, .ref v32, .ref v33, .ref v34, .ref v35, .ref v36, .ref v37, .int 0])), (v0, .inl (cA 0, 326, .inl fs))]) [0, 1] (by decide) rfl
  have hFc := va_free (wc := [(w0, .inr (11, [.ref v0, .ref v1, .ref v2, .ref v3, .ref v4, .long 0, .long 0, .int 0, .int th, .ref v9, .int 0, .int 0, .int (-1), .ref v13, .int 0, .int 0, .int 0, .int 0, .int 0, .int 0, .int 0, .int 0, .int 0, .int 0, .int 0, .long 0, .int 0, .ref v27, .ref v28, .ref v29, .ref v30, .ref v31, .ref v32, .ref v33, .ref v34, .ref v35, .ref v36, .ref v37, .int 0])), (v0, .inl (cA 0, 326, .inl fs))]) hD hS hA [0, 1] rfl
  refine va_calli (va_runV (As := []) (rest := [.ref w0]) ⟨hx, hb, hml, hown, hts⟩ (c_m_areAllClosed l D cA sa w0 v0 v1 v2 v3 v4 v9 v13 v27 v28 v29 v30 v31 v32 v33 v34 v35 v36 v37 th fs s.heap.size hz.d) (cwV 0 hts gX10_close_X10_areAllClosed rfl rfl rfl (by decide +kernel) ⟨(Nat.le_of_ble_eq_true rfl), (Nat.le_of_ble_eq_true rfl)⟩) ⟨Wd.blind, va_recv hK hPc (ci := 11) (q0 := 0) rfl rfl, fun U hU hW => ⟨rfl, Wd.call hPc hDc hK hC hZ hS hFc U hU hW⟩⟩ rfl rfl hl.1 rfl (lv_room (Nat.le_of_ble_eq_true rfl)) dX10_close_2 ⟨(Nat.le_of_ble_eq_true rfl), (Nat.le_of_ble_eq_true rfl)⟩) hS (fun q _ h => hFc q h) hFc (fun rn1 u t H1 locs ht hvm hw hB hz1 hk1 hS => ?_)
  obtain ⟨hP1, hD1⟩ := hB
  rw [ht] at hP1
  obtain ⟨hP, hD⟩ := va_join (wr := [(v3, .inl (cA 0, 3260, .inl fh)), (v4, .inl (cA 1, 10, .inr (.inl fq)))]) (w1 := [(w0, .inr (11, [.ref v0, .ref v1, .ref v2, .ref v3, .ref v4, .long 0, .long 0, .int 0, .int th, .ref v9, .int 0, .int 0, .int (-1), .ref v13, .int 0, .int 0, .int 0, .int 0, .int 0, .int 0, .int 0, .int 0, .int 0, .int 0, .int 0, .long 0, .int 0, .ref v27, .ref v28, .ref v29, .ref v30, .ref v31, .ref v32, .ref v33, .ref v34, .ref v35, .ref v36, .ref v37, .int 0])), (v0, .inl (cA 0, 326, .inl fs))]) hP hD [0, 1] [2, 3] rfl rfl (by decide) (by decide) hk1 hFc hP1 hD1
  generalize H1 = H at hP hS ⊢
  have hP : va_P D vwCl [(v3, .inl (cA 0, 3260, .inl fh)), (v4, .inl (cA 1, 10, .inr (.inl fq))), (w0, .inr (11, [.ref v0, .ref v1, .ref v2, .ref v3, .ref v4, .long 0, .long 0, .int 0, .int th, .ref v9, .int 0, .int 0, .int (-1), .ref v13, .int 0, .int 0, .int 0, .int 0, .int 0, .int 0, .int 0, .int 0, .int 0, .int 0, .int 0, .long 0, .int 0, .ref v27, .ref v28, .ref v29, .ref v30, .ref v31, .ref v32, .ref v33, .ref v34, .ref v35, .ref v36, .ref v37, .int 0])), (v0, .inl (cA 0, 326, .inl fs))] H := hP
  have hD : va_D A [(v3, .inl (cA 0, 3260, .inl fh)), (v4, .inl (cA 1, 10, .inr (.inl fq))), (w0, .inr (11, [.ref v0, .ref v1, .ref v2, .ref v3, .ref v4, .long 0, .long 0, .int 0, .int th, .ref v9, .int 0, .int 0, .int (-1), .ref v13, .int 0, .int 0, .int 0, .int 0, .int 0, .int 0, .int 0, .int 0, .int 0, .int 0, .int 0, .long 0, .int 0, .ref v27, .ref v28, .ref v29, .ref v30, .ref v31, .ref v32, .ref v33, .ref v34, .ref v35, .ref v36, .ref v37, .int 0])), (v0, .inl (cA 0, 326, .inl fs))] := hD
  obtain rfl : rn1 = 1 := hw
  have hPc := hP.sub (ws' := [(w0, .inr (11, [.ref v0, .ref v1, .ref v2, .ref v3, .ref v4, .long 0, .long 0, .int 0, .int th, .ref v9, .int 0, .int 0, .int (-1), .ref v13, .int 0, .int 0, .int 0, .int 0, .int 0, .int 0, .int 0, .int 0, .int 0, .int 0, .int 0, .long 0, .int 0, .ref v27, .ref v28, .ref v29, .ref v30, .ref v31, .ref v32, .ref v33, .ref v34, .ref v35, .ref v36, .ref v37, .int 0]))]) [2] rfl
  have hDc := hD.sub (ws' := [(w0, .inr (11, [.ref v0, .ref v1, .ref v2, .ref v3, .ref v4, .long 0, .long 0, .int 0, .int th, .ref v9, .int 0, .int 0, .int (-1), .ref v13, .int 0, .int 0, .int 0, .int 0, .int 0, .int 0, .int 0, .int 0, .int 0, .int 0, .int 0, .long 0, .int 0, .ref v27, .ref v28, .ref v29, .ref v30, .ref v31, .ref v32, .ref v33, .ref v34, .ref v35, .ref v36, .ref v37, .int 0]))]) [2] (by decide) rfl
  have hFc := va_free (wc := [(w0, .inr (11, [.ref v0, .ref v1, .ref v2, .ref v3, .ref v4, .long 0, .long 0, .int 0, .int th, .ref v9, .int 0, .int 0, .int (-1), .ref v13, .int 0, .int 0, .int 0, .int 0, .int 0, .int 0, .int 0, .int 0, .int 0, .int 0, .int 0, .long 0, .int 0, .ref v27, .ref v28, .ref v29, .ref v30, .ref v31, .ref v32, .ref v33, .ref v34, .ref v35, .ref v36, .ref v37, .int 0]))]) hD hS hA [2] rfl
  refine va_calli (va_runV (As := [.int 1]) (rest := []) ⟨hx, hb, hml, hown, hts⟩ (c_m_good_1 l D cA sa w0 v0 v1 v2 v3 v4 v9 v13 v27 v28 v29 v30 v31 v32 v33 v34 v35 v36 v37 th H.size) (cwV 1 hts gX10_close_X10_good rfl rfl rfl (by decide +kernel) ⟨(Nat.le_of_ble_eq_true rfl), (Nat.le_of_ble_eq_true rfl)⟩) ⟨Wd.blind, va_recv hK hPc (ci := 11) (q0 := 0) rfl rfl, fun U hU hW => ⟨rfl, Wd.call hPc hDc hK hC hZ hS hFc U hU hW⟩⟩ rfl rfl hl.1 rfl (lv_room (Nat.le_of_ble_eq_true rfl)) dX10_close_5 ⟨(Nat.le_of_ble_eq_true rfl), (Nat.le_of_ble_eq_true rfl)⟩) hS (fun q _ h => hFc q h) hFc (fun rn2 u t H1 locs ht hvm hw hB hz1 hk1 hS => ?_)
  obtain ⟨hP1, hD1⟩ := hB
  rw [ht] at hP1
  obtain ⟨hP, hD⟩ := va_join (wr := [(v3, .inl (cA 0, 3260, .inl fh)), (v4, .inl (cA 1, 10, .inr (.inl fq))), (v0, .inl (cA 0, 326, .inl fs))]) (w1 := [(w0, .inr (11, [.ref v0, .ref v1, .ref v2, .ref v3, .ref v4, .long 0, .long 0, .int 0, .int 0, .ref v9, .int 0, .int 0, .int (-1), .ref v13, .int 0, .int 0, .int 0, .int 0, .int 0, .int 0, .int 0, .int 0, .int 0, .int 0, .int 0, .long 0, .int 0, .ref v27, .ref v28, .ref v29, .ref v30, .ref v31, .ref v32, .ref v33, .ref v34, .ref v35, .ref v36, .ref v37, .int 0]))]) hP hD [2] [0, 1, 3] rfl rfl (by decide) (by decide) hk1 hFc hP1 hD1
  generalize H1 = H at hP hS ⊢
  have hP : va_P D vwCl [(v3, .inl (cA 0, 3260, .inl fh)), (v4, .inl (cA 1, 10, .inr (.inl fq))), (v0, .inl (cA 0, 326, .inl fs)), (w0, .inr (11, [.ref v0, .ref v1, .ref v2, .ref v3, .ref v4, .long 0, .long 0, .int 0, .int 0, .ref v9, .int 0, .int 0, .int (-1), .ref v13, .int 0, .int 0, .int 0, .int 0, .int 0, .int 0, .int 0, .int 0, .int 0, .int 0, .int 0, .long 0, .int 0, .ref v27, .ref v28, .ref v29, .ref v30, .ref v31, .ref v32, .ref v33, .ref v34, .ref v35, .ref v36, .ref v37, .int 0]))] H := hP
  have hD : va_D A [(v3, .inl (cA 0, 3260, .inl fh)), (v4, .inl (cA 1, 10, .inr (.inl fq))), (v0, .inl (cA 0, 326, .inl fs)), (w0, .inr (11, [.ref v0, .ref v1, .ref v2, .ref v3, .ref v4, .long 0, .long 0, .int 0, .int 0, .ref v9, .int 0, .int 0, .int (-1), .ref v13, .int 0, .int 0, .int 0, .int 0, .int 0, .int 0, .int 0, .int 0, .int 0, .int 0, .int 0, .long 0, .int 0, .ref v27, .ref v28, .ref v29, .ref v30, .ref v31, .ref v32, .ref v33, .ref v34, .ref v35, .ref v36, .ref v37, .int 0]))] := hD
  obtain rfl : rn2 = 1 := hw
  refine lv_if_ne (tgt := 13) hx hb dX10_close_8 (by decide) (fun c3 => ?_) (fun c9 => absurd c9 (by decide))
  refine lv_aload_n hx hb dX10_close_13 rfl (lv_at hl 0 rfl) ?_
  have hPc := hP.sub (ws' := [(w0, .inr (11, [.ref v0, .ref v1, .ref v2, .ref v3, .ref v4, .long 0, .long 0, .int 0, .int 0, .ref v9, .int 0, .int 0, .int (-1), .ref v13, .int 0, .int 0, .int 0, .int 0, .int 0, .int 0, .int 0, .int 0, .int 0, .int 0, .int 0, .long 0, .int 0, .ref v27, .ref v28, .ref v29, .ref v30, .ref v31, .ref v32, .ref v33, .ref v34, .ref v35, .ref v36, .ref v37, .int 0])), (v0, .inl (cA 0, 326, .inl fs)), (v3, .inl (cA 0, 3260, .inl fh)), (v4, .inl (cA 1, 10, .inr (.inl fq)))]) [3, 2, 0, 1] rfl
  have hDc := hD.sub (ws' := [(w0, .inr (11, [.ref v0, .ref v1, .ref v2, .ref v3, .ref v4, .long 0, .long 0, .int 0, .int 0, .ref v9, .int 0, .int 0, .int (-1), .ref v13, .int 0, .int 0, .int 0, .int 0, .int 0, .int 0, .int 0, .int 0, .int 0, .int 0, .int 0, .long 0, .int 0, .ref v27, .ref v28, .ref v29, .ref v30, .ref v31, .ref v32, .ref v33, .ref v34, .ref v35, .ref v36, .ref v37, .int 0])), (v0, .inl (cA 0, 326, .inl fs)), (v3, .inl (cA 0, 3260, .inl fh)), (v4, .inl (cA 1, 10, .inr (.inl fq)))]) [3, 2, 0, 1] (by decide) rfl
  have hFc := va_free (wc := [(w0, .inr (11, [.ref v0, .ref v1, .ref v2, .ref v3, .ref v4, .long 0, .long 0, .int 0, .int 0, .ref v9, .int 0, .int 0, .int (-1), .ref v13, .int 0, .int 0, .int 0, .int 0, .int 0, .int 0, .int 0, .int 0, .int 0, .int 0, .int 0, .long 0, .int 0, .ref v27, .ref v28, .ref v29, .ref v30, .ref v31, .ref v32, .ref v33, .ref v34, .ref v35, .ref v36, .ref v37, .int 0])), (v0, .inl (cA 0, 326, .inl fs)), (v3, .inl (cA 0, 3260, .inl fh)), (v4, .inl (cA 1, 10, .inr (.inl fq)))]) hD hS hA [3, 2, 0, 1] rfl
  refine va_callv (va_runV (As := []) (rest := []) ⟨hx, hb, hml, hown, hts⟩ (c_m_remember l D cA sa w0 v0 v1 v2 v3 v4 v9 v13 v27 v28 v29 v30 v31 v32 v33 v34 v35 v36 v37 0 fs fh fq H.size) (cwV 0 hts gX10_close_X10_remember rfl rfl rfl (by decide +kernel) ⟨(Nat.le_of_ble_eq_true rfl), (Nat.le_of_ble_eq_true rfl)⟩) ⟨Wd.blind, va_recv hK hPc (ci := 11) (q0 := 0) rfl rfl, fun U hU hW => ⟨rfl, Wd.call hPc hDc hK hC hZ hS hFc U hU hW⟩⟩ rfl rfl hl.1 rfl (lv_room (Nat.le_of_ble_eq_true rfl)) dX10_close_14 ⟨(Nat.le_of_ble_eq_true rfl), (Nat.le_of_ble_eq_true rfl)⟩) hS (fun q _ h => hFc q h) hFc (fun u t H1 locs ht hvm hw hB hz1 hk1 hS => ?_)
  obtain ⟨hP1, hD1⟩ := hB
  rw [ht] at hP1
  obtain ⟨hP, hD⟩ := va_join (wr := []) (w1 := [(w0, .inr (11, [.ref v0, .ref v1, .ref v2, .ref v3, .ref v4, .long 0, .long 0, .int 1, .int 0, .ref v9, .int 0, .int 0, .int (-1), .ref v13, .int 0, .int 0, .int 0, .int 0, .int 0, .int 0, .int 0, .int 0, .int 0, .int 0, .int 0, .long 0, .int 0, .ref v27, .ref v28, .ref v29, .ref v30, .ref v31, .ref v32, .ref v33, .ref v34, .ref v35, .ref v36, .ref v37, .int 0])), (v0, .inl (cA 0, 326, .inl fs))]) hP hD [3, 2, 0, 1] [] rfl rfl (by decide) (by decide) hk1 hFc hP1 hD1
  generalize H1 = H at hP hS ⊢
  have hP : va_P D vwCl [(w0, .inr (11, [.ref v0, .ref v1, .ref v2, .ref v3, .ref v4, .long 0, .long 0, .int 1, .int 0, .ref v9, .int 0, .int 0, .int (-1), .ref v13, .int 0, .int 0, .int 0, .int 0, .int 0, .int 0, .int 0, .int 0, .int 0, .int 0, .int 0, .long 0, .int 0, .ref v27, .ref v28, .ref v29, .ref v30, .ref v31, .ref v32, .ref v33, .ref v34, .ref v35, .ref v36, .ref v37, .int 0])), (v0, .inl (cA 0, 326, .inl fs))] H := hP
  have hD : va_D A [(w0, .inr (11, [.ref v0, .ref v1, .ref v2, .ref v3, .ref v4, .long 0, .long 0, .int 1, .int 0, .ref v9, .int 0, .int 0, .int (-1), .ref v13, .int 0, .int 0, .int 0, .int 0, .int 0, .int 0, .int 0, .int 0, .int 0, .int 0, .int 0, .long 0, .int 0, .ref v27, .ref v28, .ref v29, .ref v30, .ref v31, .ref v32, .ref v33, .ref v34, .ref v35, .ref v36, .ref v37, .int 0])), (v0, .inl (cA 0, 326, .inl fs))] := hD
  refine lv_aload_n hx hb dX10_close_17 rfl (lv_at hl 0 rfl) ?_
  refine va_get (D := D) (ci := 11) (v := .ref v0) (C := RX10) (T := TX10) (N := 39) hx hb hts inX10 hown hK hP 0 rfl rfl 0 (by decide) (hts (.fieldLink RX10 7 "EscrowDeskModel" "s" "[I") (by decide +kernel)) (fun _ h9 => h9) rfl dX10_close_18 ?_
  refine lv_bipush (v := 6) hx hb dX10_close_21 (by decide) ?_
  refine va_iald hx hb hK hP 1 0 rfl rfl (vp_in_iff.mpr (by decide)) dX10_close_23 ?_
  refine lv_topi (fun yn4 eyn4 => ?_)
  obtain rfl : yn4 = 0 := eyn4.trans (hz.2 6 (by decide) (by decide))
  refine lv_istore_n (lv' := [(1, .int 0), (0, .ref w0)]) hx hb dX10_close_24 rfl hl (by decide) rfl (fun ls hl => ?_)
  refine lv_aload_n hx hb dX10_close_25 rfl (lv_at hl 1 rfl) ?_
  refine lv_iload_n hx hb dX10_close_26 rfl (lv_at hl 0 rfl) ?_
  refine lv_iconst (v := (-1)) hx hb dX10_close_27 (by decide) ?_
  have hPc := hP.sub (ws' := [(w0, .inr (11, [.ref v0, .ref v1, .ref v2, .ref v3, .ref v4, .long 0, .long 0, .int 1, .int 0, .ref v9, .int 0, .int 0, .int (-1), .ref v13, .int 0, .int 0, .int 0, .int 0, .int 0, .int 0, .int 0, .int 0, .int 0, .int 0, .int 0, .long 0, .int 0, .ref v27, .ref v28, .ref v29, .ref v30, .ref v31, .ref v32, .ref v33, .ref v34, .ref v35, .ref v36, .ref v37, .int 0])), (v0, .inl (cA 0, 326, .inl fs))]) [0, 1] rfl
  have hDc := hD.sub (ws' := [(w0, .inr (11, [.ref v0, .ref v1, .ref v2, .ref v3, .ref v4, .long 0, .long 0, .int 1, .int 0, .ref v9, .int 0, .int 0, .int (-1), .ref v13, .int 0, .int 0, .int 0, .int 0, .int 0, .int 0, .int 0, .int 0, .int 0, .int 0, .int 0, .long 0, .int 0, .ref v27, .ref v28, .ref v29, .ref v30, .ref v31, .ref v32, .ref v33, .ref v34, .ref v35, .ref v36, .ref v37, .int 0])), (v0, .inl (cA 0, 326, .inl fs))]) [0, 1] (by decide) rfl
  have hFc := va_free (wc := [(w0, .inr (11, [.ref v0, .ref v1, .ref v2, .ref v3, .ref v4, .long 0, .long 0, .int 1, .int 0, .ref v9, .int 0, .int 0, .int (-1), .ref v13, .int 0, .int 0, .int 0, .int 0, .int 0, .int 0, .int 0, .int 0, .int 0, .int 0, .int 0, .long 0, .int 0, .ref v27, .ref v28, .ref v29, .ref v30, .ref v31, .ref v32, .ref v33, .ref v34, .ref v35, .ref v36, .ref v37, .int 0])), (v0, .inl (cA 0, 326, .inl fs))]) hD hS hA [0, 1] rfl
  refine va_callv (va_runV (As := [.int 0, .int (-1)]) (rest := []) ⟨hx, hb, hml, hown, hts⟩ (c_m_refund0 l D cA sa w0 v0 v1 v2 v3 v4 v9 v13 v27 v28 v29 v30 v31 v32 v33 v34 v35 v36 v37 0 fs H.size hz) (cwV 2 hts gX10_close_X10_refund rfl rfl rfl (by decide +kernel) ⟨(Nat.le_of_ble_eq_true rfl), (Nat.le_of_ble_eq_true rfl)⟩) ⟨Wd.blind, va_recv hK hPc (ci := 11) (q0 := 0) rfl rfl, fun U hU hW => ⟨rfl, Wd.call hPc hDc hK hC hZ hS hFc U hU hW⟩⟩ rfl rfl hl.1 rfl (lv_room (Nat.le_of_ble_eq_true rfl)) dX10_close_28 ⟨(Nat.le_of_ble_eq_true rfl), (Nat.le_of_ble_eq_true rfl)⟩) hS (fun q _ h => hFc q h) hFc (fun u t H1 locs ht hvm hw hB hz1 hk1 hS => ?_)
  obtain ⟨fn5, hP1, hD1⟩ := hB
  rw [ht] at hP1
  obtain ⟨hP, hD⟩ := va_join (wr := []) (w1 := [(w0, .inr (11, [.ref v0, .ref v1, .ref v2, .ref v3, .ref v4, .long 0, .long 0, .int 1, .int 0, .ref v9, .int 0, .int 0, .int (-1), .ref v13, .int 0, .int 0, .int 0, .int 0, .int 0, .int 0, .int 0, .int 0, .int 0, .int 0, .int 0, .long 0, .int 0, .ref v27, .ref v28, .ref v29, .ref v30, .ref v31, .ref v32, .ref v33, .ref v34, .ref v35, .ref v36, .ref v37, .int 0])), (v0, .inl (cA 0, 326, .inl fn5))]) hP hD [0, 1] [] rfl rfl (by decide) (by decide) hk1 hFc hP1 hD1
  generalize H1 = H at hP hS ⊢
  have hP : va_P D vwCl [(w0, .inr (11, [.ref v0, .ref v1, .ref v2, .ref v3, .ref v4, .long 0, .long 0, .int 1, .int 0, .ref v9, .int 0, .int 0, .int (-1), .ref v13, .int 0, .int 0, .int 0, .int 0, .int 0, .int 0, .int 0, .int 0, .int 0, .int 0, .int 0, .long 0, .int 0, .ref v27, .ref v28, .ref v29, .ref v30, .ref v31, .ref v32, .ref v33, .ref v34, .ref v35, .ref v36, .ref v37, .int 0])), (v0, .inl (cA 0, 326, .inl fn5))] H := hP
  have hD : va_D A [(w0, .inr (11, [.ref v0, .ref v1, .ref v2, .ref v3, .ref v4, .long 0, .long 0, .int 1, .int 0, .ref v9, .int 0, .int 0, .int (-1), .ref v13, .int 0, .int 0, .int 0, .int 0, .int 0, .int 0, .int 0, .int 0, .int 0, .int 0, .int 0, .long 0, .int 0, .ref v27, .ref v28, .ref v29, .ref v30, .ref v31, .ref v32, .ref v33, .ref v34, .ref v35, .ref v36, .ref v37, .int 0])), (v0, .inl (cA 0, 326, .inl fn5))] := hD
  refine lv_iload_n hx hb dX10_close_31 rfl (lv_at hl 0 rfl) ?_
  have hP9 := hP.sub (ws' := [(w0, .inr (11, [.ref v0, .ref v1, .ref v2, .ref v3, .ref v4, .long 0, .long 0, .int 1, .int 0, .ref v9, .int 0, .int 0, .int (-1), .ref v13, .int 0, .int 0, .int 0, .int 0, .int 0, .int 0, .int 0, .int 0, .int 0, .int 0, .int 0, .long 0, .int 0, .ref v27, .ref v28, .ref v29, .ref v30, .ref v31, .ref v32, .ref v33, .ref v34, .ref v35, .ref v36, .ref v37, .int 0]))]) [0] rfl
  have hD9 := hD.sub (ws' := [(w0, .inr (11, [.ref v0, .ref v1, .ref v2, .ref v3, .ref v4, .long 0, .long 0, .int 1, .int 0, .ref v9, .int 0, .int 0, .int (-1), .ref v13, .int 0, .int 0, .int 0, .int 0, .int 0, .int 0, .int 0, .int 0, .int 0, .int 0, .int 0, .long 0, .int 0, .ref v27, .ref v28, .ref v29, .ref v30, .ref v31, .ref v32, .ref v33, .ref v34, .ref v35, .ref v36, .ref v37, .int 0]))]) [0] (by decide) rfl
  refine W.widen (k := 0) (n := 0) (Nat.le_of_ble_eq_true rfl) (Nat.le_of_ble_eq_true rfl) ?_
  exact W.iret (v := 0) hx hb hr (fun t ht hW => ⟨⟨0, (), rfl, rfl, by rw [ht]; exact hP9, hD9⟩, hS.F ht⟩) hS.2.2 dX10_close_32

set_option maxHeartbeats 4000000 in
set_option maxRecDepth 100000 in
/-- doneSet -/
theorem c_m_doneSet1 (l : Launch) (D : va_G) (cA : Nat → ClassId) (sa : Nat → Nat) (w0 v0 v1 v2 v3 v4 v9 v13 v27 v28 v29 v30 v31 v32 v33 v34 v35 v36 v37 : Nat) (th : Int32) (fs : Nat → Int32) (sz : Nat) (hz : Zd fs) : Met l yX10_doneSet wsX10_doneSet ({ frames := 0, cells := 0, slots := 0, locals := 0 }) (va_Pc [.ref w0] (Wd D cA sa [(w0, .inr (11, [.ref v0, .ref v1, .ref v2, .ref v3, .ref v4, .long 0, .long 0, .int 1, .int th, .ref v9, .int 0, .int 0, .int (-1), .ref v13, .int 0, .int 0, .int 0, .int 0, .int 0, .int 0, .int 0, .int 0, .int 0, .int 0, .int 0, .long 0, .int 0, .ref v27, .ref v28, .ref v29, .ref v30, .ref v31, .ref v32, .ref v33, .ref v34, .ref v35, .ref v36, .ref v37, .int 0])), (v0, .inl (cA 0, 326, .inl fs))] sz)) (va_Qi (fun (r : Int32) (_ : Unit) => r = 0) (fun (_ : Unit) t => Wq D (va_A [(w0, .inr (11, [.ref v0, .ref v1, .ref v2, .ref v3, .ref v4, .long 0, .long 0, .int 1, .int th, .ref v9, .int 0, .int 0, .int (-1), .ref v13, .int 0, .int 0, .int 0, .int 0, .int 0, .int 0, .int 0, .int 0, .int 0, .int 0, .int 0, .long 0, .int 0, .ref v27, .ref v28, .ref v29, .ref v30, .ref v31, .ref v32, .ref v33, .ref v34, .ref v35, .ref v36, .ref v37, .int 0])), (v0, .inl (cA 0, 326, .inl fs))] sz) [(w0, .inr (11, [.ref v0, .ref v1, .ref v2, .ref v3, .ref v4, .long 0, .long 0, .int 1, .int th, .ref v9, .int 0, .int 0, .int (-1), .ref v13, .int 0, .int 0, .int 0, .int 0, .int 0, .int 0, .int 0, .int 0, .int 0, .int 0, .int 0, .long 0, .int 0, .ref v27, .ref v28, .ref v29, .ref v30, .ref v31, .ref v32, .ref v33, .ref v34, .ref v35, .ref v36, .ref v37, .int 0])), (v0, .inl (cA 0, 326, .inl fs))] t) (va_A [(w0, .inr (11, [.ref v0, .ref v1, .ref v2, .ref v3, .ref v4, .long 0, .long 0, .int 1, .int th, .ref v9, .int 0, .int 0, .int (-1), .ref v13, .int 0, .int 0, .int 0, .int 0, .int 0, .int 0, .int 0, .int 0, .int 0, .int 0, .int 0, .long 0, .int 0, .ref v27, .ref v28, .ref v29, .ref v30, .ref v31, .ref v32, .ref v33, .ref v34, .ref v35, .ref v36, .ref v37, .int 0])), (v0, .inl (cA 0, 326, .inl fs))] sz)) 0 0 (va_A [(w0, .inr (11, [.ref v0, .ref v1, .ref v2, .ref v3, .ref v4, .long 0, .long 0, .int 1, .int th, .ref v9, .int 0, .int 0, .int (-1), .ref v13, .int 0, .int 0, .int 0, .int 0, .int 0, .int 0, .int 0, .int 0, .int 0, .int 0, .int 0, .long 0, .int 0, .ref v27, .ref v28, .ref v29, .ref v30, .ref v31, .ref v32, .ref v33, .ref v34, .ref v35, .ref v36, .ref v37, .int 0])), (v0, .inl (cA 0, 326, .inl fs))] sz) := by
  refine Met.ofW (cc := cX10_doneSet) (maxL := 3) (ret := (some .int)) (by decide) rfl ?_
  intro p e s m args below meth c s₁ B hml hv
  obtain ⟨rfl, hsz, hP, hK, hD0, hC, hZ⟩ := hv
  have hx := B.exec
  have hb := B.bytes
  have hr := B.returns
  have hts := atoms_spec (ws := wsX10_doneSet) B.pre
  have hown : s.vm.findClass RX10 = some m.cls := findClass_of_methodNamed B.named
  have hlocks := B.notSynchronized
  subst hsz
  have hD := hD0.self (sz := s.heap.size)
  generalize hAe : va_A [(w0, .inr (11, [.ref v0, .ref v1, .ref v2, .ref v3, .ref v4, .long 0, .long 0, .int 1, .int th, .ref v9, .int 0, .int 0, .int (-1), .ref v13, .int 0, .int 0, .int 0, .int 0, .int 0, .int 0, .int 0, .int 0, .int 0, .int 0, .int 0, .long 0, .int 0, .ref v27, .ref v28, .ref v29, .ref v30, .ref v31, .ref v32, .ref v33, .ref v34, .ref v35, .ref v36, .ref v37, .int 0])), (v0, .inl (cA 0, 326, .inl fs))] s.heap.size = A at hD hZ ⊢
  have hA : ∀ q : Nat, s.heap.size ≤ q → A q := fun q h => by rw [← hAe]; exact Or.inr h
  have hS : va_S A s.heap s.heap [] := va_S.rf
  have hP : va_P D vwCl [(w0, .inr (11, [.ref v0, .ref v1, .ref v2, .ref v3, .ref v4, .long 0, .long 0, .int 1, .int th, .ref v9, .int 0, .int 0, .int (-1), .ref v13, .int 0, .int 0, .int 0, .int 0, .int 0, .int 0, .int 0, .int 0, .int 0, .int 0, .int 0, .long 0, .int 0, .ref v27, .ref v28, .ref v29, .ref v30, .ref v31, .ref v32, .ref v33, .ref v34, .ref v35, .ref v36, .ref v37, .int 0])), (v0, .inl (cA 0, 326, .inl fs))] s.heap := hP
  have hl := lv_entry ([.ref w0]) (n := 3) (Nat.le_of_ble_eq_true rfl)
  rw [lg_entry_eq]
  generalize (lg_sl ([.ref w0]) ++ List.replicate (3 - (lg_sl ([.ref w0])).length) Slot.unset).toArray = ls at hl ⊢
  have hl : lv_has ls 3 [(0, .ref w0)] := hl
  have inX10 : ∀ w ∈ u_ws RX10 TX10 39, w ∈ wsX10_doneSet := by decide +kernel
  refine lv_iconst (v := 0) hx hb dX10_doneSet_0 (by decide) ?_
  refine lv_istore_n (lv' := [(1, .int 0), (0, .ref w0)]) hx hb dX10_doneSet_1 rfl hl (by decide) rfl (fun ls hl => ?_)
  refine lv_iconst (v := 0) hx hb dX10_doneSet_2 (by decide) ?_
  refine lv_istore_n (lv' := [(2, .int 0), (1, .int 0), (0, .ref w0)]) hx hb dX10_doneSet_3 rfl hl (by decide) rfl (fun ls hl => ?_)
  refine lv_iload_n hx hb dX10_doneSet_4 rfl (lv_at hl 0 rfl) ?_
  refine lv_aload_n hx hb dX10_doneSet_5 rfl (lv_at hl 2 rfl) ?_
  refine va_get (D := D) (ci := 11) (v := .ref v0) (C := RX10) (T := TX10) (N := 39) hx hb hts inX10 hown hK hP 0 rfl rfl 0 (by decide) (hts (.fieldLink RX10 7 "EscrowDeskModel" "s" "[I") (by decide +kernel)) (fun _ h9 => h9) rfl dX10_doneSet_6 ?_
  refine lv_bipush (v := 13) hx hb dX10_doneSet_9 (by decide) ?_
  refine va_iald hx hb hK hP 1 0 rfl rfl (vp_in_iff.mpr (by decide)) dX10_doneSet_11 ?_
  refine lv_topi (fun yn1 eyn1 => ?_)
  obtain rfl : yn1 = 0 := eyn1.trans (hz.2 13 (by decide) (by decide) (by decide))
  refine lv_icmp_ge (tgt := 51) hx hb dX10_doneSet_12 (by decide) (fun c2 => ?_) (fun c9 => absurd c9 (by decide))
  refine lv_iload_n hx hb dX10_doneSet_51 rfl (lv_at hl 1 rfl) ?_
  have hP9 := hP.sub (ws' := [(w0, .inr (11, [.ref v0, .ref v1, .ref v2, .ref v3, .ref v4, .long 0, .long 0, .int 1, .int th, .ref v9, .int 0, .int 0, .int (-1), .ref v13, .int 0, .int 0, .int 0, .int 0, .int 0, .int 0, .int 0, .int 0, .int 0, .int 0, .int 0, .long 0, .int 0, .ref v27, .ref v28, .ref v29, .ref v30, .ref v31, .ref v32, .ref v33, .ref v34, .ref v35, .ref v36, .ref v37, .int 0])), (v0, .inl (cA 0, 326, .inl fs))]) [0, 1] rfl
  have hD9 := hD.sub (ws' := [(w0, .inr (11, [.ref v0, .ref v1, .ref v2, .ref v3, .ref v4, .long 0, .long 0, .int 1, .int th, .ref v9, .int 0, .int 0, .int (-1), .ref v13, .int 0, .int 0, .int 0, .int 0, .int 0, .int 0, .int 0, .int 0, .int 0, .int 0, .int 0, .long 0, .int 0, .ref v27, .ref v28, .ref v29, .ref v30, .ref v31, .ref v32, .ref v33, .ref v34, .ref v35, .ref v36, .ref v37, .int 0])), (v0, .inl (cA 0, 326, .inl fs))]) [0, 1] (by decide) rfl
  refine W.widen (k := 0) (n := 0) (Nat.le_of_ble_eq_true rfl) (Nat.le_of_ble_eq_true rfl) ?_
  exact W.iret (v := 0) hx hb hr (fun t ht hW => ⟨⟨0, (), rfl, rfl, by rw [ht]; exact hP9, hD9⟩, hS.F ht⟩) hS.2.2 dX10_doneSet_52

set_option maxHeartbeats 4000000 in
set_option maxRecDepth 100000 in
/-- dueWith: none -/
theorem c_m_dueWith1 (l : Launch) (D : va_G) (cA : Nat → ClassId) (sa : Nat → Nat) (w0 v0 v1 v2 v3 v4 v9 v13 v27 v28 v29 v30 v31 v32 v33 v34 v35 v36 v37 : Nat) (th : Int32) (fs : Nat → Int32) (i : Int32) (sz : Nat) (hz : Zd fs) : Met l yX10_dueWith wsX10_dueWith ({ frames := 0, cells := 0, slots := 0, locals := 0 }) (va_Pc [.ref w0, .int i] (Wd D cA sa [(w0, .inr (11, [.ref v0, .ref v1, .ref v2, .ref v3, .ref v4, .long 0, .long 0, .int 1, .int th, .ref v9, .int 0, .int 0, .int (-1), .ref v13, .int 0, .int 0, .int 0, .int 0, .int 0, .int 0, .int 0, .int 0, .int 0, .int 0, .int 0, .long 0, .int 0, .ref v27, .ref v28, .ref v29, .ref v30, .ref v31, .ref v32, .ref v33, .ref v34, .ref v35, .ref v36, .ref v37, .int 0])), (v0, .inl (cA 0, 326, .inl fs))] sz)) (va_Qi (fun (r : Int32) (_ : Unit) => r = (-1)) (fun (_ : Unit) t => Wq D (va_A [(w0, .inr (11, [.ref v0, .ref v1, .ref v2, .ref v3, .ref v4, .long 0, .long 0, .int 1, .int th, .ref v9, .int 0, .int 0, .int (-1), .ref v13, .int 0, .int 0, .int 0, .int 0, .int 0, .int 0, .int 0, .int 0, .int 0, .int 0, .int 0, .long 0, .int 0, .ref v27, .ref v28, .ref v29, .ref v30, .ref v31, .ref v32, .ref v33, .ref v34, .ref v35, .ref v36, .ref v37, .int 0])), (v0, .inl (cA 0, 326, .inl fs))] sz) [(w0, .inr (11, [.ref v0, .ref v1, .ref v2, .ref v3, .ref v4, .long 0, .long 0, .int 1, .int th, .ref v9, .int 0, .int 0, .int (-1), .ref v13, .int 0, .int 0, .int 0, .int 0, .int 0, .int 0, .int 0, .int 0, .int 0, .int 0, .int 0, .long 0, .int 0, .ref v27, .ref v28, .ref v29, .ref v30, .ref v31, .ref v32, .ref v33, .ref v34, .ref v35, .ref v36, .ref v37, .int 0])), (v0, .inl (cA 0, 326, .inl fs))] t) (va_A [(w0, .inr (11, [.ref v0, .ref v1, .ref v2, .ref v3, .ref v4, .long 0, .long 0, .int 1, .int th, .ref v9, .int 0, .int 0, .int (-1), .ref v13, .int 0, .int 0, .int 0, .int 0, .int 0, .int 0, .int 0, .int 0, .int 0, .int 0, .int 0, .long 0, .int 0, .ref v27, .ref v28, .ref v29, .ref v30, .ref v31, .ref v32, .ref v33, .ref v34, .ref v35, .ref v36, .ref v37, .int 0])), (v0, .inl (cA 0, 326, .inl fs))] sz)) 0 0 (va_A [(w0, .inr (11, [.ref v0, .ref v1, .ref v2, .ref v3, .ref v4, .long 0, .long 0, .int 1, .int th, .ref v9, .int 0, .int 0, .int (-1), .ref v13, .int 0, .int 0, .int 0, .int 0, .int 0, .int 0, .int 0, .int 0, .int 0, .int 0, .int 0, .long 0, .int 0, .ref v27, .ref v28, .ref v29, .ref v30, .ref v31, .ref v32, .ref v33, .ref v34, .ref v35, .ref v36, .ref v37, .int 0])), (v0, .inl (cA 0, 326, .inl fs))] sz) := by
  refine Met.ofW (cc := cX10_dueWith) (maxL := 3) (ret := (some .int)) (by decide) rfl ?_
  intro p e s m args below meth c s₁ B hml hv
  obtain ⟨rfl, hsz, hP, hK, hD0, hC, hZ⟩ := hv
  have hx := B.exec
  have hb := B.bytes
  have hr := B.returns
  have hts := atoms_spec (ws := wsX10_dueWith) B.pre
  have hown : s.vm.findClass RX10 = some m.cls := findClass_of_methodNamed B.named
  have hlocks := B.notSynchronized
  subst hsz
  have hD := hD0.self (sz := s.heap.size)
  generalize hAe : va_A [(w0, .inr (11, [.ref v0, .ref v1, .ref v2, .ref v3, .ref v4, .long 0, .long 0, .int 1, .int th, .ref v9, .int 0, .int 0, .int (-1), .ref v13, .int 0, .int 0, .int 0, .int 0, .int 0, .int 0, .int 0, .int 0, .int 0, .int 0, .int 0, .long 0, .int 0, .ref v27, .ref v28, .ref v29, .ref v30, .ref v31, .ref v32, .ref v33, .ref v34, .ref v35, .ref v36, .ref v37, .int 0])), (v0, .inl (cA 0, 326, .inl fs))] s.heap.size = A at hD hZ ⊢
  have hA : ∀ q : Nat, s.heap.size ≤ q → A q := fun q h => by rw [← hAe]; exact Or.inr h
  have hS : va_S A s.heap s.heap [] := va_S.rf
  have hP : va_P D vwCl [(w0, .inr (11, [.ref v0, .ref v1, .ref v2, .ref v3, .ref v4, .long 0, .long 0, .int 1, .int th, .ref v9, .int 0, .int 0, .int (-1), .ref v13, .int 0, .int 0, .int 0, .int 0, .int 0, .int 0, .int 0, .int 0, .int 0, .int 0, .int 0, .long 0, .int 0, .ref v27, .ref v28, .ref v29, .ref v30, .ref v31, .ref v32, .ref v33, .ref v34, .ref v35, .ref v36, .ref v37, .int 0])), (v0, .inl (cA 0, 326, .inl fs))] s.heap := hP
  have hl := lv_entry ([.ref w0, .int i]) (n := 3) (Nat.le_of_ble_eq_true rfl)
  rw [lg_entry_eq]
  generalize (lg_sl ([.ref w0, .int i]) ++ List.replicate (3 - (lg_sl ([.ref w0, .int i])).length) Slot.unset).toArray = ls at hl ⊢
  have hl : lv_has ls 3 [(0, .ref w0), (1, .int i)] := hl
  have inX10 : ∀ w ∈ u_ws RX10 TX10 39, w ∈ wsX10_dueWith := by decide +kernel
  refine lv_iconst (v := 0) hx hb dX10_dueWith_0 (by decide) ?_
  refine lv_istore_n (lv' := [(2, .int 0), (0, .ref w0), (1, .int i)]) hx hb dX10_dueWith_1 rfl hl (by decide) rfl (fun ls hl => ?_)
  refine lv_iload_n hx hb dX10_dueWith_2 rfl (lv_at hl 0 rfl) ?_
  refine lv_aload_n hx hb dX10_dueWith_3 rfl (lv_at hl 1 rfl) ?_
  refine va_get (D := D) (ci := 11) (v := .ref v0) (C := RX10) (T := TX10) (N := 39) hx hb hts inX10 hown hK hP 0 rfl rfl 0 (by decide) (hts (.fieldLink RX10 7 "EscrowDeskModel" "s" "[I") (by decide +kernel)) (fun _ h9 => h9) rfl dX10_dueWith_4 ?_
  refine lv_bipush (v := 13) hx hb dX10_dueWith_7 (by decide) ?_
  refine va_iald hx hb hK hP 1 0 rfl rfl (vp_in_iff.mpr (by decide)) dX10_dueWith_9 ?_
  refine lv_topi (fun yn1 eyn1 => ?_)
  obtain rfl : yn1 = 0 := eyn1.trans (hz.2 13 (by decide) (by decide) (by decide))
  refine lv_icmp_ge (tgt := 40) hx hb dX10_dueWith_10 (by decide) (fun c2 => ?_) (fun c9 => absurd c9 (by decide))
  refine lv_iconst (v := (-1)) hx hb dX10_dueWith_40 (by decide) ?_
  have hP9 := hP.sub (ws' := [(w0, .inr (11, [.ref v0, .ref v1, .ref v2, .ref v3, .ref v4, .long 0, .long 0, .int 1, .int th, .ref v9, .int 0, .int 0, .int (-1), .ref v13, .int 0, .int 0, .int 0, .int 0, .int 0, .int 0, .int 0, .int 0, .int 0, .int 0, .int 0, .long 0, .int 0, .ref v27, .ref v28, .ref v29, .ref v30, .ref v31, .ref v32, .ref v33, .ref v34, .ref v35, .ref v36, .ref v37, .int 0])), (v0, .inl (cA 0, 326, .inl fs))]) [0, 1] rfl
  have hD9 := hD.sub (ws' := [(w0, .inr (11, [.ref v0, .ref v1, .ref v2, .ref v3, .ref v4, .long 0, .long 0, .int 1, .int th, .ref v9, .int 0, .int 0, .int (-1), .ref v13, .int 0, .int 0, .int 0, .int 0, .int 0, .int 0, .int 0, .int 0, .int 0, .int 0, .int 0, .long 0, .int 0, .ref v27, .ref v28, .ref v29, .ref v30, .ref v31, .ref v32, .ref v33, .ref v34, .ref v35, .ref v36, .ref v37, .int 0])), (v0, .inl (cA 0, 326, .inl fs))]) [0, 1] (by decide) rfl
  refine W.widen (k := 0) (n := 0) (Nat.le_of_ble_eq_true rfl) (Nat.le_of_ble_eq_true rfl) ?_
  exact W.iret (v := (-1)) hx hb hr (fun t ht hW => ⟨⟨(-1), (), rfl, rfl, by rw [ht]; exact hP9, hD9⟩, hS.F ht⟩) hS.2.2 dX10_dueWith_41

set_option maxHeartbeats 4000000 in
set_option maxRecDepth 100000 in
/-- becomeDue: none -/
theorem c_m_becomeDue1 (l : Launch) (D : va_G) (cA : Nat → ClassId) (sa : Nat → Nat) (w0 v0 v1 v2 v3 v4 v9 v13 v27 v28 v29 v30 v31 v32 v33 v34 v35 v36 v37 : Nat) (th : Int32) (fs : Nat → Int32) (sz : Nat) (hz : Zd fs) : Met l yX10_becomeDue wsX10_becomeDue ({ frames := 1, cells := 0, slots := 0, locals := 22 }) (va_Pc [.ref w0] (Wd D cA sa [(w0, .inr (11, [.ref v0, .ref v1, .ref v2, .ref v3, .ref v4, .long 0, .long 0, .int 1, .int th, .ref v9, .int 0, .int 0, .int (-1), .ref v13, .int 0, .int 0, .int 0, .int 0, .int 0, .int 0, .int 0, .int 0, .int 0, .int 0, .int 0, .long 0, .int 0, .ref v27, .ref v28, .ref v29, .ref v30, .ref v31, .ref v32, .ref v33, .ref v34, .ref v35, .ref v36, .ref v37, .int 0])), (v0, .inl (cA 0, 326, .inl fs))] sz)) (va_Qv (fun _ : Unit => True) (fun (_ : Unit) t => Wq D (va_A [(w0, .inr (11, [.ref v0, .ref v1, .ref v2, .ref v3, .ref v4, .long 0, .long 0, .int 1, .int th, .ref v9, .int 0, .int 0, .int (-1), .ref v13, .int 0, .int 0, .int 0, .int 0, .int 0, .int 0, .int 0, .int 0, .int 0, .int 0, .int 0, .long 0, .int 0, .ref v27, .ref v28, .ref v29, .ref v30, .ref v31, .ref v32, .ref v33, .ref v34, .ref v35, .ref v36, .ref v37, .int 0])), (v0, .inl (cA 0, 326, .inl fs))] sz) [(w0, .inr (11, [.ref v0, .ref v1, .ref v2, .ref v3, .ref v4, .long 0, .long 0, .int 1, .int th, .ref v9, .int 0, .int 0, .int (-1), .ref v13, .int 0, .int 0, .int 0, .int 0, .int 0, .int 0, .int 0, .int 0, .int 0, .int 0, .int 0, .long 0, .int 0, .ref v27, .ref v28, .ref v29, .ref v30, .ref v31, .ref v32, .ref v33, .ref v34, .ref v35, .ref v36, .ref v37, .int 0])), (v0, .inl (cA 0, 326, .inl fs))] t) (va_A [(w0, .inr (11, [.ref v0, .ref v1, .ref v2, .ref v3, .ref v4, .long 0, .long 0, .int 1, .int th, .ref v9, .int 0, .int 0, .int (-1), .ref v13, .int 0, .int 0, .int 0, .int 0, .int 0, .int 0, .int 0, .int 0, .int 0, .int 0, .int 0, .long 0, .int 0, .ref v27, .ref v28, .ref v29, .ref v30, .ref v31, .ref v32, .ref v33, .ref v34, .ref v35, .ref v36, .ref v37, .int 0])), (v0, .inl (cA 0, 326, .inl fs))] sz)) 0 0 (va_A [(w0, .inr (11, [.ref v0, .ref v1, .ref v2, .ref v3, .ref v4, .long 0, .long 0, .int 1, .int th, .ref v9, .int 0, .int 0, .int (-1), .ref v13, .int 0, .int 0, .int 0, .int 0, .int 0, .int 0, .int 0, .int 0, .int 0, .int 0, .int 0, .long 0, .int 0, .ref v27, .ref v28, .ref v29, .ref v30, .ref v31, .ref v32, .ref v33, .ref v34, .ref v35, .ref v36, .ref v37, .int 0])), (v0, .inl (cA 0, 326, .inl fs))] sz) := by
  refine Met.ofW (cc := cX10_becomeDue) (maxL := 3) (ret := none) (by decide) rfl ?_
  intro p e s m args below meth c s₁ B hml hv
  obtain ⟨rfl, hsz, hP, hK, hD0, hC, hZ⟩ := hv
  have hx := B.exec
  have hb := B.bytes
  have hr := B.returns
  have hts := atoms_spec (ws := wsX10_becomeDue) B.pre
  have hown : s.vm.findClass RX10 = some m.cls := findClass_of_methodNamed B.named
  have hlocks := B.notSynchronized
  subst hsz
  have hD := hD0.self (sz := s.heap.size)
  generalize hAe : va_A [(w0, .inr (11, [.ref v0, .ref v1, .ref v2, .ref v3, .ref v4, .long 0, .long 0, .int 1, .int th, .ref v9, .int 0, .int 0, .int (-1), .ref v13, .int 0, .int 0, .int 0, .int 0, .int 0, .int 0, .int 0, .int 0, .int 0, .int 0, .int 0, .long 0, .int 0, .ref v27, .ref v28, .ref v29, .ref v30, .ref v31, .ref v32, .ref v33, .ref v34, .ref v35, .ref v36, .ref v37, .int 0])), (v0, .inl (cA 0, 326, .inl fs))] s.heap.size = A at hD hZ ⊢
  have hA : ∀ q : Nat, s.heap.size ≤ q → A q := fun q h => by rw [← hAe]; exact Or.inr h
  have hS : va_S A s.heap s.heap [] := va_S.rf
  have hP : va_P D vwCl [(w0, .inr (11, [.ref v0, .ref v1, .ref v2, .ref v3, .ref v4, .long 0, .long 0, .int 1, .int th, .ref v9, .int 0, .int 0, .int (-1), .ref v13, .int 0, .int 0, .int 0, .int 0, .int 0, .int 0, .int 0, .int 0, .int 0, .int 0, .int 0, .long 0, .int 0, .ref v27, .ref v28, .ref v29, .ref v30, .ref v31, .ref v32, .ref v33, .ref v34, .ref v35, .ref v36, .ref v37, .int 0])), (v0, .inl (cA 0, 326, .inl fs))] s.heap := hP
  have hl := lv_entry ([.ref w0]) (n := 3) (Nat.le_of_ble_eq_true rfl)
  rw [lg_entry_eq]
  generalize (lg_sl ([.ref w0]) ++ List.replicate (3 - (lg_sl ([.ref w0])).length) Slot.unset).toArray = ls at hl ⊢
  have hl : lv_has ls 3 [(0, .ref w0)] := hl
  have inX10 : ∀ w ∈ u_ws RX10 TX10 39, w ∈ wsX10_becomeDue := by decide +kernel
  refine lv_aload_n hx hb dX10_becomeDue_0 rfl (lv_at hl 0 rfl) ?_
  have hPc := hP.sub (ws' := [(w0, .inr (11, [.ref v0, .ref v1, .ref v2, .ref v3, .ref v4, .long 0, .long 0, .int 1, .int th, .ref v9, .int 0, .int 0, .int (-1), .ref v13, .int 0, .int 0, .int 0, .int 0, .int 0, .int 0, .int 0, .int 0, .int 0, .int 0, .int 0, .long 0, .int 0, .ref v27, .ref v28, .ref v29, .ref v30, .ref v31, .ref v32, .ref v33, .ref v34, .ref v35, .ref v36, .ref v37, .int 0])), (v0, .inl (cA 0, 326, .inl fs))]) [0, 1] rfl
  have hDc := hD.sub (ws' := [(w0, .inr (11, [.ref v0, .ref v1, .ref v2, .ref v3, .ref v4, .long 0, .long 0, .int 1, .int th, .ref v9, .int 0, .int 0, .int (-1), .ref v13, .int 0, .int 0, .int 0, .int 0, .int 0, .int 0, .int 0, .int 0, .int 0, .int 0, .int 0, .long 0, .int 0, .ref v27, .ref v28, .ref v29, .ref v30, .ref v31, .ref v32, .ref v33, .ref v34, .ref v35, .ref v36, .ref v37, .int 0])), (v0, .inl (cA 0, 326, .inl fs))]) [0, 1] (by decide) rfl
  have hFc := va_free (wc := [(w0, .inr (11, [.ref v0, .ref v1, .ref v2, .ref v3, .ref v4, .long 0, .long 0, .int 1, .int th, .ref v9, .int 0, .int 0, .int (-1), .ref v13, .int 0, .int 0, .int 0, .int 0, .int 0, .int 0, .int 0, .int 0, .int 0, .int 0, .int 0, .long 0, .int 0, .ref v27, .ref v28, .ref v29, .ref v30, .ref v31, .ref v32, .ref v33, .ref v34, .ref v35, .ref v36, .ref v37, .int 0])), (v0, .inl (cA 0, 326, .inl fs))]) hD hS hA [0, 1] rfl
  refine va_calli (va_runV (As := []) (rest := []) ⟨hx, hb, hml, hown, hts⟩ (c_m_doneSet1 l D cA sa w0 v0 v1 v2 v3 v4 v9 v13 v27 v28 v29 v30 v31 v32 v33 v34 v35 v36 v37 th fs s.heap.size hz) (cwV 0 hts gX10_becomeDue_X10_doneSet rfl rfl rfl (by decide +kernel) ⟨(Nat.le_of_ble_eq_true rfl), (Nat.le_of_ble_eq_true rfl)⟩) ⟨Wd.blind, va_recv hK hPc (ci := 11) (q0 := 0) rfl rfl, fun U hU hW => ⟨rfl, Wd.call hPc hDc hK hC hZ hS hFc U hU hW⟩⟩ rfl rfl hl.1 rfl (lv_room (Nat.le_of_ble_eq_true rfl)) dX10_becomeDue_1 ⟨(Nat.le_of_ble_eq_true rfl), (Nat.le_of_ble_eq_true rfl)⟩) hS (fun q _ h => hFc q h) hFc (fun rn1 u t H1 locs ht hvm hw hB hz1 hk1 hS => ?_)
  obtain ⟨hP1, hD1⟩ := hB
  rw [ht] at hP1
  obtain ⟨hP, hD⟩ := va_join (wr := []) (w1 := [(w0, .inr (11, [.ref v0, .ref v1, .ref v2, .ref v3, .ref v4, .long 0, .long 0, .int 1, .int th, .ref v9, .int 0, .int 0, .int (-1), .ref v13, .int 0, .int 0, .int 0, .int 0, .int 0, .int 0, .int 0, .int 0, .int 0, .int 0, .int 0, .long 0, .int 0, .ref v27, .ref v28, .ref v29, .ref v30, .ref v31, .ref v32, .ref v33, .ref v34, .ref v35, .ref v36, .ref v37, .int 0])), (v0, .inl (cA 0, 326, .inl fs))]) hP hD [0, 1] [] rfl rfl (by decide) (by decide) hk1 hFc hP1 hD1
  generalize H1 = H at hP hS ⊢
  have hP : va_P D vwCl [(w0, .inr (11, [.ref v0, .ref v1, .ref v2, .ref v3, .ref v4, .long 0, .long 0, .int 1, .int th, .ref v9, .int 0, .int 0, .int (-1), .ref v13, .int 0, .int 0, .int 0, .int 0, .int 0, .int 0, .int 0, .int 0, .int 0, .int 0, .int 0, .long 0, .int 0, .ref v27, .ref v28, .ref v29, .ref v30, .ref v31, .ref v32, .ref v33, .ref v34, .ref v35, .ref v36, .ref v37, .int 0])), (v0, .inl (cA 0, 326, .inl fs))] H := hP
  have hD : va_D A [(w0, .inr (11, [.ref v0, .ref v1, .ref v2, .ref v3, .ref v4, .long 0, .long 0, .int 1, .int th, .ref v9, .int 0, .int 0, .int (-1), .ref v13, .int 0, .int 0, .int 0, .int 0, .int 0, .int 0, .int 0, .int 0, .int 0, .int 0, .int 0, .long 0, .int 0, .ref v27, .ref v28, .ref v29, .ref v30, .ref v31, .ref v32, .ref v33, .ref v34, .ref v35, .ref v36, .ref v37, .int 0])), (v0, .inl (cA 0, 326, .inl fs))] := hD
  obtain rfl : rn1 = 0 := hw
  refine lv_istore_n (lv' := [(1, .int 0), (0, .ref w0)]) hx hb dX10_becomeDue_4 rfl hl (by decide) rfl (fun ls hl => ?_)
  refine lv_iconst (v := 0) hx hb dX10_becomeDue_5 (by decide) ?_
  refine lv_istore_n (lv' := [(2, .int 0), (1, .int 0), (0, .ref w0)]) hx hb dX10_becomeDue_6 rfl hl (by decide) rfl (fun ls hl => ?_)
  refine lv_iload_n hx hb dX10_becomeDue_7 rfl (lv_at hl 0 rfl) ?_
  refine lv_aload_n hx hb dX10_becomeDue_8 rfl (lv_at hl 2 rfl) ?_
  refine va_get (D := D) (ci := 11) (v := .ref v0) (C := RX10) (T := TX10) (N := 39) hx hb hts inX10 hown hK hP 0 rfl rfl 0 (by decide) (hts (.fieldLink RX10 7 "EscrowDeskModel" "s" "[I") (by decide +kernel)) (fun _ h9 => h9) rfl dX10_becomeDue_9 ?_
  refine lv_bipush (v := 13) hx hb dX10_becomeDue_12 (by decide) ?_
  refine va_iald hx hb hK hP 1 0 rfl rfl (vp_in_iff.mpr (by decide)) dX10_becomeDue_14 ?_
  refine lv_topi (fun yn2 eyn2 => ?_)
  obtain rfl : yn2 = 0 := eyn2.trans (hz.2 13 (by decide) (by decide) (by decide))
  refine lv_icmp_ge (tgt := 74) hx hb dX10_becomeDue_15 (by decide) (fun c3 => ?_) (fun c9 => absurd c9 (by decide))
  have hP9 := hP.sub (ws' := [(w0, .inr (11, [.ref v0, .ref v1, .ref v2, .ref v3, .ref v4, .long 0, .long 0, .int 1, .int th, .ref v9, .int 0, .int 0, .int (-1), .ref v13, .int 0, .int 0, .int 0, .int 0, .int 0, .int 0, .int 0, .int 0, .int 0, .int 0, .int 0, .long 0, .int 0, .ref v27, .ref v28, .ref v29, .ref v30, .ref v31, .ref v32, .ref v33, .ref v34, .ref v35, .ref v36, .ref v37, .int 0])), (v0, .inl (cA 0, 326, .inl fs))]) [0, 1] rfl
  have hD9 := hD.sub (ws' := [(w0, .inr (11, [.ref v0, .ref v1, .ref v2, .ref v3, .ref v4, .long 0, .long 0, .int 1, .int th, .ref v9, .int 0, .int 0, .int (-1), .ref v13, .int 0, .int 0, .int 0, .int 0, .int 0, .int 0, .int 0, .int 0, .int 0, .int 0, .int 0, .long 0, .int 0, .ref v27, .ref v28, .ref v29, .ref v30, .ref v31, .ref v32, .ref v33, .ref v34, .ref v35, .ref v36, .ref v37, .int 0])), (v0, .inl (cA 0, 326, .inl fs))]) [0, 1] (by decide) rfl
  refine W.widen (k := 0) (n := 0) (Nat.le_of_ble_eq_true rfl) (Nat.le_of_ble_eq_true rfl) ?_
  exact W.vret hx hb hr (fun t ht hW => ⟨⟨(), rfl, trivial, by rw [ht]; exact hP9, hD9⟩, hS.F ht⟩) hS.2.2 dX10_becomeDue_74

set_option maxHeartbeats 4000000 in
set_option maxRecDepth 100000 in
/-- payDue: none -/
theorem c_m_payDue1 (l : Launch) (D : va_G) (cA : Nat → ClassId) (sa : Nat → Nat) (w0 v0 v1 v2 v3 v4 v9 v13 v27 v28 v29 v30 v31 v32 v33 v34 v35 v36 v37 : Nat) (th : Int32) (fs : Nat → Int32) (sz : Nat) (hz : Zd fs) : Met l yX10_payDue wsX10_payDue ({ frames := 1, cells := 0, slots := 0, locals := 22 }) (va_Pc [.ref w0] (Wd D cA sa [(w0, .inr (11, [.ref v0, .ref v1, .ref v2, .ref v3, .ref v4, .long 0, .long 0, .int 1, .int th, .ref v9, .int 0, .int 0, .int (-1), .ref v13, .int 0, .int 0, .int 0, .int 0, .int 0, .int 0, .int 0, .int 0, .int 0, .int 0, .int 0, .long 0, .int 0, .ref v27, .ref v28, .ref v29, .ref v30, .ref v31, .ref v32, .ref v33, .ref v34, .ref v35, .ref v36, .ref v37, .int 0])), (v0, .inl (cA 0, 326, .inl fs))] sz)) (va_Qv (fun _ : Unit => True) (fun (_ : Unit) t => Wq D (va_A [(w0, .inr (11, [.ref v0, .ref v1, .ref v2, .ref v3, .ref v4, .long 0, .long 0, .int 1, .int th, .ref v9, .int 0, .int 0, .int (-1), .ref v13, .int 0, .int 0, .int 0, .int 0, .int 0, .int 0, .int 0, .int 0, .int 0, .int 0, .int 0, .long 0, .int 0, .ref v27, .ref v28, .ref v29, .ref v30, .ref v31, .ref v32, .ref v33, .ref v34, .ref v35, .ref v36, .ref v37, .int 0])), (v0, .inl (cA 0, 326, .inl fs))] sz) [(w0, .inr (11, [.ref v0, .ref v1, .ref v2, .ref v3, .ref v4, .long 0, .long 0, .int 1, .int th, .ref v9, .int 0, .int 0, .int (-1), .ref v13, .int 0, .int 0, .int 0, .int 0, .int 0, .int 0, .int 0, .int 0, .int 0, .int 0, .int 0, .long 0, .int 0, .ref v27, .ref v28, .ref v29, .ref v30, .ref v31, .ref v32, .ref v33, .ref v34, .ref v35, .ref v36, .ref v37, .int 0])), (v0, .inl (cA 0, 326, .inl fs))] t) (va_A [(w0, .inr (11, [.ref v0, .ref v1, .ref v2, .ref v3, .ref v4, .long 0, .long 0, .int 1, .int th, .ref v9, .int 0, .int 0, .int (-1), .ref v13, .int 0, .int 0, .int 0, .int 0, .int 0, .int 0, .int 0, .int 0, .int 0, .int 0, .int 0, .long 0, .int 0, .ref v27, .ref v28, .ref v29, .ref v30, .ref v31, .ref v32, .ref v33, .ref v34, .ref v35, .ref v36, .ref v37, .int 0])), (v0, .inl (cA 0, 326, .inl fs))] sz)) 0 0 (va_A [(w0, .inr (11, [.ref v0, .ref v1, .ref v2, .ref v3, .ref v4, .long 0, .long 0, .int 1, .int th, .ref v9, .int 0, .int 0, .int (-1), .ref v13, .int 0, .int 0, .int 0, .int 0, .int 0, .int 0, .int 0, .int 0, .int 0, .int 0, .int 0, .long 0, .int 0, .ref v27, .ref v28, .ref v29, .ref v30, .ref v31, .ref v32, .ref v33, .ref v34, .ref v35, .ref v36, .ref v37, .int 0])), (v0, .inl (cA 0, 326, .inl fs))] sz) := by
  refine Met.ofW (cc := cX10_payDue) (maxL := 5) (ret := none) (by decide) rfl ?_
  intro p e s m args below meth c s₁ B hml hv
  obtain ⟨rfl, hsz, hP, hK, hD0, hC, hZ⟩ := hv
  have hx := B.exec
  have hb := B.bytes
  have hr := B.returns
  have hts := atoms_spec (ws := wsX10_payDue) B.pre
  have hown : s.vm.findClass RX10 = some m.cls := findClass_of_methodNamed B.named
  have hlocks := B.notSynchronized
  subst hsz
  have hD := hD0.self (sz := s.heap.size)
  generalize hAe : va_A [(w0, .inr (11, [.ref v0, .ref v1, .ref v2, .ref v3, .ref v4, .long 0, .long 0, .int 1, .int th, .ref v9, .int 0, .int 0, .int (-1), .ref v13, .int 0, .int 0, .int 0, .int 0, .int 0, .int 0, .int 0, .int 0, .int 0, .int 0, .int 0, .long 0, .int 0, .ref v27, .ref v28, .ref v29, .ref v30, .ref v31, .ref v32, .ref v33, .ref v34, .ref v35, .ref v36, .ref v37, .int 0])), (v0, .inl (cA 0, 326, .inl fs))] s.heap.size = A at hD hZ ⊢
  have hA : ∀ q : Nat, s.heap.size ≤ q → A q := fun q h => by rw [← hAe]; exact Or.inr h
  have hS : va_S A s.heap s.heap [] := va_S.rf
  have hP : va_P D vwCl [(w0, .inr (11, [.ref v0, .ref v1, .ref v2, .ref v3, .ref v4, .long 0, .long 0, .int 1, .int th, .ref v9, .int 0, .int 0, .int (-1), .ref v13, .int 0, .int 0, .int 0, .int 0, .int 0, .int 0, .int 0, .int 0, .int 0, .int 0, .int 0, .long 0, .int 0, .ref v27, .ref v28, .ref v29, .ref v30, .ref v31, .ref v32, .ref v33, .ref v34, .ref v35, .ref v36, .ref v37, .int 0])), (v0, .inl (cA 0, 326, .inl fs))] s.heap := hP
  have hl := lv_entry ([.ref w0]) (n := 5) (Nat.le_of_ble_eq_true rfl)
  rw [lg_entry_eq]
  generalize (lg_sl ([.ref w0]) ++ List.replicate (5 - (lg_sl ([.ref w0])).length) Slot.unset).toArray = ls at hl ⊢
  have hl : lv_has ls 5 [(0, .ref w0)] := hl
  refine lv_iconst (v := 0) hx hb dX10_payDue_0 (by decide) ?_
  refine lv_istore_n (lv' := [(1, .int 0), (0, .ref w0)]) hx hb dX10_payDue_1 rfl hl (by decide) rfl (fun ls hl => ?_)
  refine lv_aload_n hx hb dX10_payDue_2 rfl (lv_at hl 1 rfl) ?_
  refine lv_iconst (v := 0) hx hb dX10_payDue_3 (by decide) ?_
  have hPc := hP.sub (ws' := [(w0, .inr (11, [.ref v0, .ref v1, .ref v2, .ref v3, .ref v4, .long 0, .long 0, .int 1, .int th, .ref v9, .int 0, .int 0, .int (-1), .ref v13, .int 0, .int 0, .int 0, .int 0, .int 0, .int 0, .int 0, .int 0, .int 0, .int 0, .int 0, .long 0, .int 0, .ref v27, .ref v28, .ref v29, .ref v30, .ref v31, .ref v32, .ref v33, .ref v34, .ref v35, .ref v36, .ref v37, .int 0])), (v0, .inl (cA 0, 326, .inl fs))]) [0, 1] rfl
  have hDc := hD.sub (ws' := [(w0, .inr (11, [.ref v0, .ref v1, .ref v2, .ref v3, .ref v4, .long 0, .long 0, .int 1, .int th, .ref v9, .int 0, .int 0, .int (-1), .ref v13, .int 0, .int 0, .int 0, .int 0, .int 0, .int 0, .int 0, .int 0, .int 0, .int 0, .int 0, .long 0, .int 0, .ref v27, .ref v28, .ref v29, .ref v30, .ref v31, .ref v32, .ref v33, .ref v34, .ref v35, .ref v36, .ref v37, .int 0])), (v0, .inl (cA 0, 326, .inl fs))]) [0, 1] (by decide) rfl
  have hFc := va_free (wc := [(w0, .inr (11, [.ref v0, .ref v1, .ref v2, .ref v3, .ref v4, .long 0, .long 0, .int 1, .int th, .ref v9, .int 0, .int 0, .int (-1), .ref v13, .int 0, .int 0, .int 0, .int 0, .int 0, .int 0, .int 0, .int 0, .int 0, .int 0, .int 0, .long 0, .int 0, .ref v27, .ref v28, .ref v29, .ref v30, .ref v31, .ref v32, .ref v33, .ref v34, .ref v35, .ref v36, .ref v37, .int 0])), (v0, .inl (cA 0, 326, .inl fs))]) hD hS hA [0, 1] rfl
  refine va_calli (va_runV (As := [.int 0]) (rest := []) ⟨hx, hb, hml, hown, hts⟩ (c_m_dueWith1 l D cA sa w0 v0 v1 v2 v3 v4 v9 v13 v27 v28 v29 v30 v31 v32 v33 v34 v35 v36 v37 th fs 0 s.heap.size hz) (cwV 1 hts gX10_payDue_X10_dueWith rfl rfl rfl (by decide +kernel) ⟨(Nat.le_of_ble_eq_true rfl), (Nat.le_of_ble_eq_true rfl)⟩) ⟨Wd.blind, va_recv hK hPc (ci := 11) (q0 := 0) rfl rfl, fun U hU hW => ⟨rfl, Wd.call hPc hDc hK hC hZ hS hFc U hU hW⟩⟩ rfl rfl hl.1 rfl (lv_room (Nat.le_of_ble_eq_true rfl)) dX10_payDue_4 ⟨(Nat.le_of_ble_eq_true rfl), (Nat.le_of_ble_eq_true rfl)⟩) hS (fun q _ h => hFc q h) hFc (fun rn1 u t H1 locs ht hvm hw hB hz1 hk1 hS => ?_)
  obtain ⟨hP1, hD1⟩ := hB
  rw [ht] at hP1
  obtain ⟨hP, hD⟩ := va_join (wr := []) (w1 := [(w0, .inr (11, [.ref v0, .ref v1, .ref v2, .ref v3, .ref v4, .long 0, .long 0, .int 1, .int th, .ref v9, .int 0, .int 0, .int (-1), .ref v13, .int 0, .int 0, .int 0, .int 0, .int 0, .int 0, .int 0, .int 0, .int 0, .int 0, .int 0, .long 0, .int 0, .ref v27, .ref v28, .ref v29, .ref v30, .ref v31, .ref v32, .ref v33, .ref v34, .ref v35, .ref v36, .ref v37, .int 0])), (v0, .inl (cA 0, 326, .inl fs))]) hP hD [0, 1] [] rfl rfl (by decide) (by decide) hk1 hFc hP1 hD1
  generalize H1 = H at hP hS ⊢
  have hP : va_P D vwCl [(w0, .inr (11, [.ref v0, .ref v1, .ref v2, .ref v3, .ref v4, .long 0, .long 0, .int 1, .int th, .ref v9, .int 0, .int 0, .int (-1), .ref v13, .int 0, .int 0, .int 0, .int 0, .int 0, .int 0, .int 0, .int 0, .int 0, .int 0, .int 0, .long 0, .int 0, .ref v27, .ref v28, .ref v29, .ref v30, .ref v31, .ref v32, .ref v33, .ref v34, .ref v35, .ref v36, .ref v37, .int 0])), (v0, .inl (cA 0, 326, .inl fs))] H := hP
  have hD : va_D A [(w0, .inr (11, [.ref v0, .ref v1, .ref v2, .ref v3, .ref v4, .long 0, .long 0, .int 1, .int th, .ref v9, .int 0, .int 0, .int (-1), .ref v13, .int 0, .int 0, .int 0, .int 0, .int 0, .int 0, .int 0, .int 0, .int 0, .int 0, .int 0, .long 0, .int 0, .ref v27, .ref v28, .ref v29, .ref v30, .ref v31, .ref v32, .ref v33, .ref v34, .ref v35, .ref v36, .ref v37, .int 0])), (v0, .inl (cA 0, 326, .inl fs))] := hD
  obtain rfl : rn1 = (-1) := hw
  refine lv_istore_n (lv' := [(2, .int (-1)), (1, .int 0), (0, .ref w0)]) hx hb dX10_payDue_7 rfl hl (by decide) rfl (fun ls hl => ?_)
  refine lv_iload_n hx hb dX10_payDue_8 rfl (lv_at hl 0 rfl) ?_
  refine lv_iconst (v := (-1)) hx hb dX10_payDue_9 (by decide) ?_
  refine lv_icmp_eq (tgt := 32) hx hb dX10_payDue_10 (by decide) (fun c2 => ?_) (fun c9 => absurd c9 (by decide))
  refine lv_iconst (v := 0) hx hb dX10_payDue_32 (by decide) ?_
  refine lv_istore_n (lv' := [(2, .int 0), (1, .int 0), (0, .ref w0)]) hx hb dX10_payDue_33 rfl hl (by decide) rfl (fun ls hl => ?_)
  refine lv_iload_n hx hb dX10_payDue_34 rfl (lv_at hl 0 rfl) ?_
  refine lv_iload_n hx hb dX10_payDue_35 rfl (lv_at hl 1 rfl) ?_
  refine lv_icmp_ge (tgt := 92) hx hb dX10_payDue_36 (by decide) (fun c3 => ?_) (fun c9 => absurd c9 (by decide))
  have hP9 := hP.sub (ws' := [(w0, .inr (11, [.ref v0, .ref v1, .ref v2, .ref v3, .ref v4, .long 0, .long 0, .int 1, .int th, .ref v9, .int 0, .int 0, .int (-1), .ref v13, .int 0, .int 0, .int 0, .int 0, .int 0, .int 0, .int 0, .int 0, .int 0, .int 0, .int 0, .long 0, .int 0, .ref v27, .ref v28, .ref v29, .ref v30, .ref v31, .ref v32, .ref v33, .ref v34, .ref v35, .ref v36, .ref v37, .int 0])), (v0, .inl (cA 0, 326, .inl fs))]) [0, 1] rfl
  have hD9 := hD.sub (ws' := [(w0, .inr (11, [.ref v0, .ref v1, .ref v2, .ref v3, .ref v4, .long 0, .long 0, .int 1, .int th, .ref v9, .int 0, .int 0, .int (-1), .ref v13, .int 0, .int 0, .int 0, .int 0, .int 0, .int 0, .int 0, .int 0, .int 0, .int 0, .int 0, .long 0, .int 0, .ref v27, .ref v28, .ref v29, .ref v30, .ref v31, .ref v32, .ref v33, .ref v34, .ref v35, .ref v36, .ref v37, .int 0])), (v0, .inl (cA 0, 326, .inl fs))]) [0, 1] (by decide) rfl
  refine W.widen (k := 0) (n := 0) (Nat.le_of_ble_eq_true rfl) (Nat.le_of_ble_eq_true rfl) ?_
  exact W.vret hx hb hr (fun t ht hW => ⟨⟨(), rfl, trivial, by rw [ht]; exact hP9, hD9⟩, hS.F ht⟩) hS.2.2 dX10_payDue_92

set_option maxHeartbeats 4000000 in
set_option maxRecDepth 100000 in
/-- credit: nothing -/
theorem c_m_credit1 (l : Launch) (D : va_G) (cA : Nat → ClassId) (sa : Nat → Nat) (w0 v0 v1 v2 v3 v4 v9 v13 v27 v28 v29 v30 v31 v32 v33 v34 v35 v36 v37 : Nat) (th : Int32) (fs : Nat → Int32) (sz : Nat) (hz : Zd fs) : Met l yX10_credit wsX10_credit ({ frames := 1, cells := 0, slots := 0, locals := 24 }) (va_Pc [.ref w0] (Wd D cA sa [(w0, .inr (11, [.ref v0, .ref v1, .ref v2, .ref v3, .ref v4, .long 0, .long 0, .int 1, .int th, .ref v9, .int 0, .int 0, .int (-1), .ref v13, .int 0, .int 0, .int 0, .int 0, .int 0, .int 0, .int 0, .int 0, .int 0, .int 0, .int 0, .long 0, .int 0, .ref v27, .ref v28, .ref v29, .ref v30, .ref v31, .ref v32, .ref v33, .ref v34, .ref v35, .ref v36, .ref v37, .int 0])), (v0, .inl (cA 0, 326, .inl fs))] sz)) (va_Qv (fun _ : Unit => True) (fun (_ : Unit) t => ∃ fn11 : Nat → Int32, Zd fn11 ∧ Wq D (va_A [(w0, .inr (11, [.ref v0, .ref v1, .ref v2, .ref v3, .ref v4, .long 0, .long 0, .int 1, .int th, .ref v9, .int 0, .int 0, .int (-1), .ref v13, .int 0, .int 0, .int 0, .int 0, .int 0, .int 0, .int 0, .int 0, .int 0, .int 0, .int 0, .long 0, .int 0, .ref v27, .ref v28, .ref v29, .ref v30, .ref v31, .ref v32, .ref v33, .ref v34, .ref v35, .ref v36, .ref v37, .int 0])), (v0, .inl (cA 0, 326, .inl fs))] sz) [(w0, .inr (11, [.ref v0, .ref v1, .ref v2, .ref v3, .ref v4, .long 0, .long 0, .int 1, .int th, .ref v9, .int 0, .int 0, .int (-1), .ref v13, .int 0, .int 0, .int 0, .int 0, .int 0, .int 0, .int 0, .int 0, .int 0, .int 0, .int 0, .long 0, .int 0, .ref v27, .ref v28, .ref v29, .ref v30, .ref v31, .ref v32, .ref v33, .ref v34, .ref v35, .ref v36, .ref v37, .int 0])), (v0, .inl (cA 0, 326, .inl fn11))] t) (va_A [(w0, .inr (11, [.ref v0, .ref v1, .ref v2, .ref v3, .ref v4, .long 0, .long 0, .int 1, .int th, .ref v9, .int 0, .int 0, .int (-1), .ref v13, .int 0, .int 0, .int 0, .int 0, .int 0, .int 0, .int 0, .int 0, .int 0, .int 0, .int 0, .long 0, .int 0, .ref v27, .ref v28, .ref v29, .ref v30, .ref v31, .ref v32, .ref v33, .ref v34, .ref v35, .ref v36, .ref v37, .int 0])), (v0, .inl (cA 0, 326, .inl fs))] sz)) 0 0 (va_A [(w0, .inr (11, [.ref v0, .ref v1, .ref v2, .ref v3, .ref v4, .long 0, .long 0, .int 1, .int th, .ref v9, .int 0, .int 0, .int (-1), .ref v13, .int 0, .int 0, .int 0, .int 0, .int 0, .int 0, .int 0, .int 0, .int 0, .int 0, .int 0, .long 0, .int 0, .ref v27, .ref v28, .ref v29, .ref v30, .ref v31, .ref v32, .ref v33, .ref v34, .ref v35, .ref v36, .ref v37, .int 0])), (v0, .inl (cA 0, 326, .inl fs))] sz) := by
  refine Met.ofW (cc := cX10_credit) (maxL := 4) (ret := none) (by decide) rfl ?_
  intro p e s m args below meth c s₁ B hml hv
  obtain ⟨rfl, hsz, hP, hK, hD0, hC, hZ⟩ := hv
  have hx := B.exec
  have hb := B.bytes
  have hr := B.returns
  have hts := atoms_spec (ws := wsX10_credit) B.pre
  have hown : s.vm.findClass RX10 = some m.cls := findClass_of_methodNamed B.named
  have hlocks := B.notSynchronized
  subst hsz
  have hD := hD0.self (sz := s.heap.size)
  generalize hAe : va_A [(w0, .inr (11, [.ref v0, .ref v1, .ref v2, .ref v3, .ref v4, .long 0, .long 0, .int 1, .int th, .ref v9, .int 0, .int 0, .int (-1), .ref v13, .int 0, .int 0, .int 0, .int 0, .int 0, .int 0, .int 0, .int 0, .int 0, .int 0, .int 0, .long 0, .int 0, .ref v27, .ref v28, .ref v29, .ref v30, .ref v31, .ref v32, .ref v33, .ref v34, .ref v35, .ref v36, .ref v37, .int 0])), (v0, .inl (cA 0, 326, .inl fs))] s.heap.size = A at hD hZ ⊢
  have hA : ∀ q : Nat, s.heap.size ≤ q → A q := fun q h => by rw [← hAe]; exact Or.inr h
  have hS : va_S A s.heap s.heap [] := va_S.rf
  have hP : va_P D vwCl [(w0, .inr (11, [.ref v0, .ref v1, .ref v2, .ref v3, .ref v4, .long 0, .long 0, .int 1, .int th, .ref v9, .int 0, .int 0, .int (-1), .ref v13, .int 0, .int 0, .int 0, .int 0, .int 0, .int 0, .int 0, .int 0, .int 0, .int 0, .int 0, .long 0, .int 0, .ref v27, .ref v28, .ref v29, .ref v30, .ref v31, .ref v32, .ref v33, .ref v34, .ref v35, .ref v36, .ref v37, .int 0])), (v0, .inl (cA 0, 326, .inl fs))] s.heap := hP
  have hl := lv_entry ([.ref w0]) (n := 4) (Nat.le_of_ble_eq_true rfl)
  rw [lg_entry_eq]
  generalize (lg_sl ([.ref w0]) ++ List.replicate (4 - (lg_sl ([.ref w0])).length) Slot.unset).toArray = ls at hl ⊢
  have hl : lv_has ls 4 [(0, .ref w0)] := hl
  have inX10 : ∀ w ∈ u_ws RX10 TX10 39, w ∈ wsX10_credit := by decide +kernel
  refine lv_ldc2 (v := 10000) hx hb hown (hts (.constantLong RX10 268 10000) (by decide +kernel)) dX10_credit_0 ?_
  refine lv_aload_n hx hb dX10_credit_3 rfl (lv_at hl 0 rfl) ?_
  refine va_get (D := D) (ci := 11) (v := .ref v0) (C := RX10) (T := TX10) (N := 39) hx hb hts inX10 hown hK hP 0 rfl rfl 0 (by decide) (hts (.fieldLink RX10 7 "EscrowDeskModel" "s" "[I") (by decide +kernel)) (fun _ h9 => h9) rfl dX10_credit_4 ?_
  refine lv_iconst (v := 1) hx hb dX10_credit_7 (by decide) ?_
  refine va_iald hx hb hK hP 1 0 rfl rfl (vp_in_iff.mpr (by decide)) dX10_credit_8 ?_
  refine lv_topi (fun yn1 eyn1 => ?_)
  obtain rfl : yn1 = 365 := eyn1.trans hz.1
  refine lv_i2l (v := 365) hx hb dX10_credit_9 (by decide) ?_
  refine lv_lmul hx hb dX10_credit_10 ?_
  refine lv_topl (fun yn2 eyn2 => ?_)
  obtain rfl : yn2 = 3650000 := eyn2.trans (by first | rfl | decide +kernel)
  refine lv_lstore_n (lv' := [(1, .long 3650000), (0, .ref w0)]) hx hb dX10_credit_11 rfl hl (by decide) rfl (fun ls hl => ?_)
  refine lv_aload_n hx hb dX10_credit_12 rfl (lv_at hl 1 rfl) ?_
  refine va_get (D := D) (ci := 11) (v := .long 0) (C := RX10) (T := TX10) (N := 39) hx hb hts inX10 hown hK hP 0 rfl rfl 5 (by decide) (hts (.fieldLink RX10 86 "EscrowDeskModel" "parts" "J") (by decide +kernel)) (fun _ h9 => h9) rfl dX10_credit_13 ?_
  refine lv_lload_n hx hb dX10_credit_16 rfl (lv_at hl 0 rfl) ?_
  refine lv_ldiv hx hb dX10_credit_17 (by decide) ?_
  refine lv_topl (fun yn3 eyn3 => ?_)
  obtain rfl : yn3 = 0 := eyn3.trans (by first | rfl | decide +kernel)
  refine lv_l2i (v := 0) hx hb dX10_credit_18 (by decide) ?_
  refine lv_istore_n (lv' := [(3, .int 0), (1, .long 3650000), (0, .ref w0)]) hx hb dX10_credit_19 rfl hl (by decide) rfl (fun ls hl => ?_)
  refine lv_aload_n hx hb dX10_credit_20 rfl (lv_at hl 2 rfl) ?_
  refine lv_aload_n hx hb dX10_credit_21 rfl (lv_at hl 2 rfl) ?_
  refine va_get (D := D) (ci := 11) (v := .long 0) (C := RX10) (T := TX10) (N := 39) hx hb hts inX10 hown hK hP 0 rfl rfl 5 (by decide) (hts (.fieldLink RX10 86 "EscrowDeskModel" "parts" "J") (by decide +kernel)) (fun _ h9 => h9) rfl dX10_credit_22 ?_
  refine lv_lload_n hx hb dX10_credit_25 rfl (lv_at hl 1 rfl) ?_
  refine lv_lrem hx hb dX10_credit_26 (by decide) ?_
  refine lv_topl (fun yn4 eyn4 => ?_)
  obtain rfl : yn4 = 0 := eyn4.trans (by first | rfl | decide +kernel)
  refine va_put (D := D) (ci := 11) (v := .long 0) (ty := .long) (C := RX10) (T := TX10) (N := 39) hx hb hts inX10 tyX10 tyX10_ok nmX10 hown hK hP hD hS 0 rfl rfl 5 (by decide) (hts (.fieldLink RX10 86 "EscrowDeskModel" "parts" "J") (by decide +kernel)) (fun _ h9 => h9) rfl (by decide +kernel) rfl rfl (Nat.le_of_ble_eq_true rfl) dX10_credit_27 (fun H locs hP hD hS => ?_)
  have hP : va_P D vwCl [(w0, .inr (11, [.ref v0, .ref v1, .ref v2, .ref v3, .ref v4, .long 0, .long 0, .int 1, .int th, .ref v9, .int 0, .int 0, .int (-1), .ref v13, .int 0, .int 0, .int 0, .int 0, .int 0, .int 0, .int 0, .int 0, .int 0, .int 0, .int 0, .long 0, .int 0, .ref v27, .ref v28, .ref v29, .ref v30, .ref v31, .ref v32, .ref v33, .ref v34, .ref v35, .ref v36, .ref v37, .int 0])), (v0, .inl (cA 0, 326, .inl fs))] H := hP
  have hD : va_D A [(w0, .inr (11, [.ref v0, .ref v1, .ref v2, .ref v3, .ref v4, .long 0, .long 0, .int 1, .int th, .ref v9, .int 0, .int 0, .int (-1), .ref v13, .int 0, .int 0, .int 0, .int 0, .int 0, .int 0, .int 0, .int 0, .int 0, .int 0, .int 0, .long 0, .int 0, .ref v27, .ref v28, .ref v29, .ref v30, .ref v31, .ref v32, .ref v33, .ref v34, .ref v35, .ref v36, .ref v37, .int 0])), (v0, .inl (cA 0, 326, .inl fs))] := hD
  refine lv_aload_n hx hb dX10_credit_30 rfl (lv_at hl 2 rfl) ?_
  refine va_get (D := D) (ci := 11) (v := .ref v0) (C := RX10) (T := TX10) (N := 39) hx hb hts inX10 hown hK hP 0 rfl rfl 0 (by decide) (hts (.fieldLink RX10 7 "EscrowDeskModel" "s" "[I") (by decide +kernel)) (fun _ h9 => h9) rfl dX10_credit_31 ?_
  refine lv_bipush (v := 7) hx hb dX10_credit_34 (by decide) ?_
  refine lv_dup2_11 hx hb dX10_credit_36 rfl rfl ?_
  refine va_iald hx hb hK hP 1 0 rfl rfl (vp_in_iff.mpr (by decide)) dX10_credit_37 ?_
  refine lv_topi (fun yn5 eyn5 => ?_)
  obtain rfl : yn5 = 0 := eyn5.trans (hz.2 7 (by decide) (by decide) (by decide))
  refine lv_iload_n hx hb dX10_credit_38 rfl (lv_at hl 0 rfl) ?_
  refine lv_iadd hx hb dX10_credit_39 ?_
  refine lv_topi (fun yn6 eyn6 => ?_)
  obtain rfl : yn6 = 0 := eyn6.trans (by first | rfl | decide +kernel)
  refine va_iast hx hb hK hP hD hS 1 0 rfl rfl (vp_in_iff.mpr (by decide)) dX10_credit_40 (fun H locs hP hD hS => ?_)
  have hP : va_P D vwCl [(w0, .inr (11, [.ref v0, .ref v1, .ref v2, .ref v3, .ref v4, .long 0, .long 0, .int 1, .int th, .ref v9, .int 0, .int 0, .int (-1), .ref v13, .int 0, .int 0, .int 0, .int 0, .int 0, .int 0, .int 0, .int 0, .int 0, .int 0, .int 0, .long 0, .int 0, .ref v27, .ref v28, .ref v29, .ref v30, .ref v31, .ref v32, .ref v33, .ref v34, .ref v35, .ref v36, .ref v37, .int 0])), (v0, .inl (cA 0, 326, .inl (upd fs 7 0)))] H := hP
  have hD : va_D A [(w0, .inr (11, [.ref v0, .ref v1, .ref v2, .ref v3, .ref v4, .long 0, .long 0, .int 1, .int th, .ref v9, .int 0, .int 0, .int (-1), .ref v13, .int 0, .int 0, .int 0, .int 0, .int 0, .int 0, .int 0, .int 0, .int 0, .int 0, .int 0, .long 0, .int 0, .ref v27, .ref v28, .ref v29, .ref v30, .ref v31, .ref v32, .ref v33, .ref v34, .ref v35, .ref v36, .ref v37, .int 0])), (v0, .inl (cA 0, 326, .inl (upd fs 7 0)))] := hD
  have hn8 : Zd (upd fs 7 0) := Zd.zero hz 7 (by decide)
  generalize (upd fs 7 0) = fn7 at hP hD hn8
  have hP : va_P D vwCl [(w0, .inr (11, [.ref v0, .ref v1, .ref v2, .ref v3, .ref v4, .long 0, .long 0, .int 1, .int th, .ref v9, .int 0, .int 0, .int (-1), .ref v13, .int 0, .int 0, .int 0, .int 0, .int 0, .int 0, .int 0, .int 0, .int 0, .int 0, .int 0, .long 0, .int 0, .ref v27, .ref v28, .ref v29, .ref v30, .ref v31, .ref v32, .ref v33, .ref v34, .ref v35, .ref v36, .ref v37, .int 0])), (v0, .inl (cA 0, 326, .inl fn7))] H := hP
  have hD : va_D A [(w0, .inr (11, [.ref v0, .ref v1, .ref v2, .ref v3, .ref v4, .long 0, .long 0, .int 1, .int th, .ref v9, .int 0, .int 0, .int (-1), .ref v13, .int 0, .int 0, .int 0, .int 0, .int 0, .int 0, .int 0, .int 0, .int 0, .int 0, .int 0, .long 0, .int 0, .ref v27, .ref v28, .ref v29, .ref v30, .ref v31, .ref v32, .ref v33, .ref v34, .ref v35, .ref v36, .ref v37, .int 0])), (v0, .inl (cA 0, 326, .inl fn7))] := hD
  refine lv_aload_n hx hb dX10_credit_41 rfl (lv_at hl 2 rfl) ?_
  refine va_get (D := D) (ci := 11) (v := .ref v0) (C := RX10) (T := TX10) (N := 39) hx hb hts inX10 hown hK hP 0 rfl rfl 0 (by decide) (hts (.fieldLink RX10 7 "EscrowDeskModel" "s" "[I") (by decide +kernel)) (fun _ h9 => h9) rfl dX10_credit_42 ?_
  refine lv_bipush (v := 8) hx hb dX10_credit_45 (by decide) ?_
  refine lv_dup2_11 hx hb dX10_credit_47 rfl rfl ?_
  refine va_iald hx hb hK hP 1 0 rfl rfl (vp_in_iff.mpr (by decide)) dX10_credit_48 ?_
  refine lv_topi (fun yn9 eyn9 => ?_)
  obtain rfl : yn9 = 0 := eyn9.trans (hn8.2 8 (by decide) (by decide) (by decide))
  refine lv_iload_n hx hb dX10_credit_49 rfl (lv_at hl 0 rfl) ?_
  refine lv_iadd hx hb dX10_credit_50 ?_
  refine lv_topi (fun yn10 eyn10 => ?_)
  obtain rfl : yn10 = 0 := eyn10.trans (by first | rfl | decide +kernel)
  refine va_iast hx hb hK hP hD hS 1 0 rfl rfl (vp_in_iff.mpr (by decide)) dX10_credit_51 (fun H locs hP hD hS => ?_)
  have hP : va_P D vwCl [(w0, .inr (11, [.ref v0, .ref v1, .ref v2, .ref v3, .ref v4, .long 0, .long 0, .int 1, .int th, .ref v9, .int 0, .int 0, .int (-1), .ref v13, .int 0, .int 0, .int 0, .int 0, .int 0, .int 0, .int 0, .int 0, .int 0, .int 0, .int 0, .long 0, .int 0, .ref v27, .ref v28, .ref v29, .ref v30, .ref v31, .ref v32, .ref v33, .ref v34, .ref v35, .ref v36, .ref v37, .int 0])), (v0, .inl (cA 0, 326, .inl (upd fn7 8 0)))] H := hP
  have hD : va_D A [(w0, .inr (11, [.ref v0, .ref v1, .ref v2, .ref v3, .ref v4, .long 0, .long 0, .int 1, .int th, .ref v9, .int 0, .int 0, .int (-1), .ref v13, .int 0, .int 0, .int 0, .int 0, .int 0, .int 0, .int 0, .int 0, .int 0, .int 0, .int 0, .long 0, .int 0, .ref v27, .ref v28, .ref v29, .ref v30, .ref v31, .ref v32, .ref v33, .ref v34, .ref v35, .ref v36, .ref v37, .int 0])), (v0, .inl (cA 0, 326, .inl (upd fn7 8 0)))] := hD
  have hn12 : Zd (upd fn7 8 0) := Zd.zero hn8 8 (by decide)
  generalize (upd fn7 8 0) = fn11 at hP hD hn12
  have hP : va_P D vwCl [(w0, .inr (11, [.ref v0, .ref v1, .ref v2, .ref v3, .ref v4, .long 0, .long 0, .int 1, .int th, .ref v9, .int 0, .int 0, .int (-1), .ref v13, .int 0, .int 0, .int 0, .int 0, .int 0, .int 0, .int 0, .int 0, .int 0, .int 0, .int 0, .long 0, .int 0, .ref v27, .ref v28, .ref v29, .ref v30, .ref v31, .ref v32, .ref v33, .ref v34, .ref v35, .ref v36, .ref v37, .int 0])), (v0, .inl (cA 0, 326, .inl fn11))] H := hP
  have hD : va_D A [(w0, .inr (11, [.ref v0, .ref v1, .ref v2, .ref v3, .ref v4, .long 0, .long 0, .int 1, .int th, .ref v9, .int 0, .int 0, .int (-1), .ref v13, .int 0, .int 0, .int 0, .int 0, .int 0, .int 0, .int 0, .int 0, .int 0, .int 0, .int 0, .long 0, .int 0, .ref v27, .ref v28, .ref v29, .ref v30, .ref v31, .ref v32, .ref v33, .ref v34, .ref v35, .ref v36, .ref v37, .int 0])), (v0, .inl (cA 0, 326, .inl fn11))] := hD
  refine lv_aload_n hx hb dX10_credit_52 rfl (lv_at hl 2 rfl) ?_
  refine va_get (D := D) (ci := 11) (v := .ref v0) (C := RX10) (T := TX10) (N := 39) hx hb hts inX10 hown hK hP 0 rfl rfl 0 (by decide) (hts (.fieldLink RX10 7 "EscrowDeskModel" "s" "[I") (by decide +kernel)) (fun _ h9 => h9) rfl dX10_credit_53 ?_
  refine lv_iconst (v := 3) hx hb dX10_credit_56 (by decide) ?_
  refine lv_iload_n hx hb dX10_credit_57 rfl (lv_at hl 0 rfl) ?_
  refine lv_iconst (v := (-1)) hx hb dX10_credit_58 (by decide) ?_
  have hPc := hP.sub (ws' := [(v0, .inl (cA 0, 326, .inl fn11))]) [1] rfl
  have hDc := hD.sub (ws' := [(v0, .inl (cA 0, 326, .inl fn11))]) [1] (by decide) rfl
  have hFc := va_free (wc := [(v0, .inl (cA 0, 326, .inl fn11))]) hD hS hA [1] rfl
  refine va_callv (va_runS (As := [.ref v0, .int 3, .int 0, .int (-1)]) (rest := []) ⟨hx, hb, hml, hown, hts⟩ (c_m_enter0 l D cA sa v0 3 (-1) fn11 H.size) (va_cwS 4 hts gX10_credit_X10_enter rfl rfl rfl (by decide +kernel) ⟨(Nat.le_of_ble_eq_true rfl), (Nat.le_of_ble_eq_true rfl)⟩) ⟨Wd.blind, fun U hU hW => ⟨rfl, Wd.call hPc hDc hK hC hZ hS hFc U hU hW⟩⟩ rfl rfl hl.1 rfl (lv_room (Nat.le_of_ble_eq_true rfl)) dX10_credit_59 ⟨(Nat.le_of_ble_eq_true rfl), (Nat.le_of_ble_eq_true rfl)⟩) hS (fun q _ h => hFc q h) hFc (fun u t H1 locs ht hvm hw hB hz1 hk1 hS => ?_)
  obtain ⟨hP1, hD1⟩ := hB
  rw [ht] at hP1
  obtain ⟨hP, hD⟩ := va_join (wr := [(w0, .inr (11, [.ref v0, .ref v1, .ref v2, .ref v3, .ref v4, .long 0, .long 0, .int 1, .int th, .ref v9, .int 0, .int 0, .int (-1), .ref v13, .int 0, .int 0, .int 0, .int 0, .int 0, .int 0, .int 0, .int 0, .int 0, .int 0, .int 0, .long 0, .int 0, .ref v27, .ref v28, .ref v29, .ref v30, .ref v31, .ref v32, .ref v33, .ref v34, .ref v35, .ref v36, .ref v37, .int 0]))]) (w1 := [(v0, .inl (cA 0, 326, .inl fn11))]) hP hD [1] [0] rfl rfl (by decide) (by decide) hk1 hFc hP1 hD1
  generalize H1 = H at hP hS ⊢
  have hP : va_P D vwCl [(w0, .inr (11, [.ref v0, .ref v1, .ref v2, .ref v3, .ref v4, .long 0, .long 0, .int 1, .int th, .ref v9, .int 0, .int 0, .int (-1), .ref v13, .int 0, .int 0, .int 0, .int 0, .int 0, .int 0, .int 0, .int 0, .int 0, .int 0, .int 0, .long 0, .int 0, .ref v27, .ref v28, .ref v29, .ref v30, .ref v31, .ref v32, .ref v33, .ref v34, .ref v35, .ref v36, .ref v37, .int 0])), (v0, .inl (cA 0, 326, .inl fn11))] H := hP
  have hD : va_D A [(w0, .inr (11, [.ref v0, .ref v1, .ref v2, .ref v3, .ref v4, .long 0, .long 0, .int 1, .int th, .ref v9, .int 0, .int 0, .int (-1), .ref v13, .int 0, .int 0, .int 0, .int 0, .int 0, .int 0, .int 0, .int 0, .int 0, .int 0, .int 0, .long 0, .int 0, .ref v27, .ref v28, .ref v29, .ref v30, .ref v31, .ref v32, .ref v33, .ref v34, .ref v35, .ref v36, .ref v37, .int 0])), (v0, .inl (cA 0, 326, .inl fn11))] := hD
  have hP9 := hP.sub (ws' := [(w0, .inr (11, [.ref v0, .ref v1, .ref v2, .ref v3, .ref v4, .long 0, .long 0, .int 1, .int th, .ref v9, .int 0, .int 0, .int (-1), .ref v13, .int 0, .int 0, .int 0, .int 0, .int 0, .int 0, .int 0, .int 0, .int 0, .int 0, .int 0, .long 0, .int 0, .ref v27, .ref v28, .ref v29, .ref v30, .ref v31, .ref v32, .ref v33, .ref v34, .ref v35, .ref v36, .ref v37, .int 0])), (v0, .inl (cA 0, 326, .inl fn11))]) [0, 1] rfl
  have hD9 := hD.sub (ws' := [(w0, .inr (11, [.ref v0, .ref v1, .ref v2, .ref v3, .ref v4, .long 0, .long 0, .int 1, .int th, .ref v9, .int 0, .int 0, .int (-1), .ref v13, .int 0, .int 0, .int 0, .int 0, .int 0, .int 0, .int 0, .int 0, .int 0, .int 0, .int 0, .long 0, .int 0, .ref v27, .ref v28, .ref v29, .ref v30, .ref v31, .ref v32, .ref v33, .ref v34, .ref v35, .ref v36, .ref v37, .int 0])), (v0, .inl (cA 0, 326, .inl fn11))]) [0, 1] (by decide) rfl
  refine W.widen (k := 0) (n := 0) (Nat.le_of_ble_eq_true rfl) (Nat.le_of_ble_eq_true rfl) ?_
  exact W.vret hx hb hr (fun t ht hW => ⟨⟨(), rfl, trivial, fn11, hn12, by rw [ht]; exact hP9, hD9⟩, hS.F ht⟩) hS.2.2 dX10_credit_62

set_option maxHeartbeats 4000000 in
set_option maxRecDepth 100000 in
/-- passDay: the day alone -/
theorem c_m_passDay1 (l : Launch) (D : va_G) (cA : Nat → ClassId) (sa : Nat → Nat) (w0 v0 v1 v2 v3 v4 v9 v13 v27 v28 v29 v30 v31 v32 v33 v34 v35 v36 v37 : Nat) (th : Int32) (fs : Nat → Int32) (sz : Nat) (hz : Zd fs) : Met l yX10_passDay wsX10_passDay ({ frames := 2, cells := 0, slots := 0, locals := 47 }) (va_Pc [.ref w0] (Wd D cA sa [(w0, .inr (11, [.ref v0, .ref v1, .ref v2, .ref v3, .ref v4, .long 0, .long 0, .int 1, .int th, .ref v9, .int 0, .int 0, .int (-1), .ref v13, .int 0, .int 0, .int 0, .int 0, .int 0, .int 0, .int 0, .int 0, .int 0, .int 0, .int 0, .long 0, .int 0, .ref v27, .ref v28, .ref v29, .ref v30, .ref v31, .ref v32, .ref v33, .ref v34, .ref v35, .ref v36, .ref v37, .int 0])), (v0, .inl (cA 0, 326, .inl fs))] sz)) (va_Qv (fun _ : Unit => True) (fun (_ : Unit) t => ∃ fn14 : Nat → Int32, Zd fn14 ∧ Wq D (va_A [(w0, .inr (11, [.ref v0, .ref v1, .ref v2, .ref v3, .ref v4, .long 0, .long 0, .int 1, .int th, .ref v9, .int 0, .int 0, .int (-1), .ref v13, .int 0, .int 0, .int 0, .int 0, .int 0, .int 0, .int 0, .int 0, .int 0, .int 0, .int 0, .long 0, .int 0, .ref v27, .ref v28, .ref v29, .ref v30, .ref v31, .ref v32, .ref v33, .ref v34, .ref v35, .ref v36, .ref v37, .int 0])), (v0, .inl (cA 0, 326, .inl fs))] sz) [(w0, .inr (11, [.ref v0, .ref v1, .ref v2, .ref v3, .ref v4, .long 0, .long 0, .int 1, .int th, .ref v9, .int 0, .int 0, .int (-1), .ref v13, .int 0, .int 0, .int 0, .int 0, .int 0, .int 0, .int 0, .int 0, .int 0, .int 0, .int 0, .long 0, .int 0, .ref v27, .ref v28, .ref v29, .ref v30, .ref v31, .ref v32, .ref v33, .ref v34, .ref v35, .ref v36, .ref v37, .int 0])), (v0, .inl (cA 0, 326, .inl fn14))] t) (va_A [(w0, .inr (11, [.ref v0, .ref v1, .ref v2, .ref v3, .ref v4, .long 0, .long 0, .int 1, .int th, .ref v9, .int 0, .int 0, .int (-1), .ref v13, .int 0, .int 0, .int 0, .int 0, .int 0, .int 0, .int 0, .int 0, .int 0, .int 0, .int 0, .long 0, .int 0, .ref v27, .ref v28, .ref v29, .ref v30, .ref v31, .ref v32, .ref v33, .ref v34, .ref v35, .ref v36, .ref v37, .int 0])), (v0, .inl (cA 0, 326, .inl fs))] sz)) 0 0 (va_A [(w0, .inr (11, [.ref v0, .ref v1, .ref v2, .ref v3, .ref v4, .long 0, .long 0, .int 1, .int th, .ref v9, .int 0, .int 0, .int (-1), .ref v13, .int 0, .int 0, .int 0, .int 0, .int 0, .int 0, .int 0, .int 0, .int 0, .int 0, .int 0, .long 0, .int 0, .ref v27, .ref v28, .ref v29, .ref v30, .ref v31, .ref v32, .ref v33, .ref v34, .ref v35, .ref v36, .ref v37, .int 0])), (v0, .inl (cA 0, 326, .inl fs))] sz) := by
  refine Met.ofW (cc := cX10_passDay) (maxL := 1) (ret := none) (by decide) rfl ?_
  intro p e s m args below meth c s₁ B hml hv
  obtain ⟨rfl, hsz, hP, hK, hD0, hC, hZ⟩ := hv
  have hx := B.exec
  have hb := B.bytes
  have hr := B.returns
  have hts := atoms_spec (ws := wsX10_passDay) B.pre
  have hown : s.vm.findClass RX10 = some m.cls := findClass_of_methodNamed B.named
  have hlocks := B.notSynchronized
  subst hsz
  have hD := hD0.self (sz := s.heap.size)
  generalize hAe : va_A [(w0, .inr (11, [.ref v0, .ref v1, .ref v2, .ref v3, .ref v4, .long 0, .long 0, .int 1, .int th, .ref v9, .int 0, .int 0, .int (-1), .ref v13, .int 0, .int 0, .int 0, .int 0, .int 0, .int 0, .int 0, .int 0, .int 0, .int 0, .int 0, .long 0, .int 0, .ref v27, .ref v28, .ref v29, .ref v30, .ref v31, .ref v32, .ref v33, .ref v34, .ref v35, .ref v36, .ref v37, .int 0])), (v0, .inl (cA 0, 326, .inl fs))] s.heap.size = A at hD hZ ⊢
  have hA : ∀ q : Nat, s.heap.size ≤ q → A q := fun q h => by rw [← hAe]; exact Or.inr h
  have hS : va_S A s.heap s.heap [] := va_S.rf
  have hP : va_P D vwCl [(w0, .inr (11, [.ref v0, .ref v1, .ref v2, .ref v3, .ref v4, .long 0, .long 0, .int 1, .int th, .ref v9, .int 0, .int 0, .int (-1), .ref v13, .int 0, .int 0, .int 0, .int 0, .int 0, .int 0, .int 0, .int 0, .int 0, .int 0, .int 0, .long 0, .int 0, .ref v27, .ref v28, .ref v29, .ref v30, .ref v31, .ref v32, .ref v33, .ref v34, .ref v35, .ref v36, .ref v37, .int 0])), (v0, .inl (cA 0, 326, .inl fs))] s.heap := hP
  have hl := lv_entry ([.ref w0]) (n := 1) (Nat.le_of_ble_eq_true rfl)
  rw [lg_entry_eq]
  generalize (lg_sl ([.ref w0]) ++ List.replicate (1 - (lg_sl ([.ref w0])).length) Slot.unset).toArray = ls at hl ⊢
  have hl : lv_has ls 1 [(0, .ref w0)] := hl
  have inX10 : ∀ w ∈ u_ws RX10 TX10 39, w ∈ wsX10_passDay := by decide +kernel
  refine lv_aload_n hx hb dX10_passDay_0 rfl (lv_at hl 0 rfl) ?_
  refine lv_dup hx hb dX10_passDay_1 rfl ?_
  refine va_get (D := D) (ci := 11) (v := .long 0) (C := RX10) (T := TX10) (N := 39) hx hb hts inX10 hown hK hP 0 rfl rfl 5 (by decide) (hts (.fieldLink RX10 86 "EscrowDeskModel" "parts" "J") (by decide +kernel)) (fun _ h9 => h9) rfl dX10_passDay_2 ?_
  refine lv_aload_n hx hb dX10_passDay_5 rfl (lv_at hl 0 rfl) ?_
  refine va_get (D := D) (ci := 11) (v := .ref v0) (C := RX10) (T := TX10) (N := 39) hx hb hts inX10 hown hK hP 0 rfl rfl 0 (by decide) (hts (.fieldLink RX10 7 "EscrowDeskModel" "s" "[I") (by decide +kernel)) (fun _ h9 => h9) rfl dX10_passDay_6 ?_
  refine lv_bipush (v := 6) hx hb dX10_passDay_9 (by decide) ?_
  refine va_iald hx hb hK hP 1 0 rfl rfl (vp_in_iff.mpr (by decide)) dX10_passDay_11 ?_
  refine lv_topi (fun yn1 eyn1 => ?_)
  obtain rfl : yn1 = 0 := eyn1.trans (hz.2 6 (by decide) (by decide) (by decide))
  refine lv_aload_n hx hb dX10_passDay_12 rfl (lv_at hl 0 rfl) ?_
  refine va_get (D := D) (ci := 11) (v := .ref v0) (C := RX10) (T := TX10) (N := 39) hx hb hts inX10 hown hK hP 0 rfl rfl 0 (by decide) (hts (.fieldLink RX10 7 "EscrowDeskModel" "s" "[I") (by decide +kernel)) (fun _ h9 => h9) rfl dX10_passDay_13 ?_
  refine lv_bipush (v := 7) hx hb dX10_passDay_16 (by decide) ?_
  refine va_iald hx hb hK hP 1 0 rfl rfl (vp_in_iff.mpr (by decide)) dX10_passDay_18 ?_
  refine lv_topi (fun yn2 eyn2 => ?_)
  obtain rfl : yn2 = 0 := eyn2.trans (hz.2 7 (by decide) (by decide) (by decide))
  refine lv_iadd hx hb dX10_passDay_19 ?_
  refine lv_topi (fun yn3 eyn3 => ?_)
  obtain rfl : yn3 = 0 := eyn3.trans (by first | rfl | decide +kernel)
  refine lv_i2l (v := 0) hx hb dX10_passDay_20 (by decide) ?_
  refine lv_aload_n hx hb dX10_passDay_21 rfl (lv_at hl 0 rfl) ?_
  refine va_get (D := D) (ci := 11) (v := .ref v0) (C := RX10) (T := TX10) (N := 39) hx hb hts inX10 hown hK hP 0 rfl rfl 0 (by decide) (hts (.fieldLink RX10 7 "EscrowDeskModel" "s" "[I") (by decide +kernel)) (fun _ h9 => h9) rfl dX10_passDay_22 ?_
  refine lv_iconst (v := 0) hx hb dX10_passDay_25 (by decide) ?_
  refine va_iald hx hb hK hP 1 0 rfl rfl (vp_in_iff.mpr (by decide)) dX10_passDay_26 ?_
  refine lv_topi (fun yn4 eyn4 => ?_)
  obtain rfl : yn4 = 0 := eyn4.trans (hz.2 0 (by decide) (by decide) (by decide))
  refine lv_i2l (v := 0) hx hb dX10_passDay_27 (by decide) ?_
  refine lv_lmul hx hb dX10_passDay_28 ?_
  refine lv_topl (fun yn5 eyn5 => ?_)
  obtain rfl : yn5 = 0 := eyn5.trans (by first | rfl | decide +kernel)
  refine lv_ladd hx hb dX10_passDay_29 ?_
  refine lv_topl (fun yn6 eyn6 => ?_)
  obtain rfl : yn6 = 0 := eyn6.trans (by first | rfl | decide +kernel)
  refine va_put (D := D) (ci := 11) (v := .long 0) (ty := .long) (C := RX10) (T := TX10) (N := 39) hx hb hts inX10 tyX10 tyX10_ok nmX10 hown hK hP hD hS 0 rfl rfl 5 (by decide) (hts (.fieldLink RX10 86 "EscrowDeskModel" "parts" "J") (by decide +kernel)) (fun _ h9 => h9) rfl (by decide +kernel) rfl rfl (Nat.le_of_ble_eq_true rfl) dX10_passDay_30 (fun H locs hP hD hS => ?_)
  have hP : va_P D vwCl [(w0, .inr (11, [.ref v0, .ref v1, .ref v2, .ref v3, .ref v4, .long 0, .long 0, .int 1, .int th, .ref v9, .int 0, .int 0, .int (-1), .ref v13, .int 0, .int 0, .int 0, .int 0, .int 0, .int 0, .int 0, .int 0, .int 0, .int 0, .int 0, .long 0, .int 0, .ref v27, .ref v28, .ref v29, .ref v30, .ref v31, .ref v32, .ref v33, .ref v34, .ref v35, .ref v36, .ref v37, .int 0])), (v0, .inl (cA 0, 326, .inl fs))] H := hP
  have hD : va_D A [(w0, .inr (11, [.ref v0, .ref v1, .ref v2, .ref v3, .ref v4, .long 0, .long 0, .int 1, .int th, .ref v9, .int 0, .int 0, .int (-1), .ref v13, .int 0, .int 0, .int 0, .int 0, .int 0, .int 0, .int 0, .int 0, .int 0, .int 0, .int 0, .long 0, .int 0, .ref v27, .ref v28, .ref v29, .ref v30, .ref v31, .ref v32, .ref v33, .ref v34, .ref v35, .ref v36, .ref v37, .int 0])), (v0, .inl (cA 0, 326, .inl fs))] := hD
  refine lv_aload_n hx hb dX10_passDay_33 rfl (lv_at hl 0 rfl) ?_
  refine va_get (D := D) (ci := 11) (v := .ref v0) (C := RX10) (T := TX10) (N := 39) hx hb hts inX10 hown hK hP 0 rfl rfl 0 (by decide) (hts (.fieldLink RX10 7 "EscrowDeskModel" "s" "[I") (by decide +kernel)) (fun _ h9 => h9) rfl dX10_passDay_34 ?_
  refine lv_iconst (v := 4) hx hb dX10_passDay_37 (by decide) ?_
  refine lv_dup2_11 hx hb dX10_passDay_38 rfl rfl ?_
  refine va_iald hx hb hK hP 1 0 rfl rfl (vp_in_iff.mpr (by decide)) dX10_passDay_39 ?_
  refine lv_topi (fun yn7 eyn7 => ?_)
  refine lv_iconst (v := 1) hx hb dX10_passDay_40 (by decide) ?_
  refine lv_iadd hx hb dX10_passDay_41 ?_
  refine va_iast hx hb hK hP hD hS 1 0 rfl rfl (vp_in_iff.mpr (by decide)) dX10_passDay_42 (fun H locs hP hD hS => ?_)
  have hP : va_P D vwCl [(w0, .inr (11, [.ref v0, .ref v1, .ref v2, .ref v3, .ref v4, .long 0, .long 0, .int 1, .int th, .ref v9, .int 0, .int 0, .int (-1), .ref v13, .int 0, .int 0, .int 0, .int 0, .int 0, .int 0, .int 0, .int 0, .int 0, .int 0, .int 0, .long 0, .int 0, .ref v27, .ref v28, .ref v29, .ref v30, .ref v31, .ref v32, .ref v33, .ref v34, .ref v35, .ref v36, .ref v37, .int 0])), (v0, .inl (cA 0, 326, .inl (upd fs 4 (yn7 + 1))))] H := hP
  have hD : va_D A [(w0, .inr (11, [.ref v0, .ref v1, .ref v2, .ref v3, .ref v4, .long 0, .long 0, .int 1, .int th, .ref v9, .int 0, .int 0, .int (-1), .ref v13, .int 0, .int 0, .int 0, .int 0, .int 0, .int 0, .int 0, .int 0, .int 0, .int 0, .int 0, .long 0, .int 0, .ref v27, .ref v28, .ref v29, .ref v30, .ref v31, .ref v32, .ref v33, .ref v34, .ref v35, .ref v36, .ref v37, .int 0])), (v0, .inl (cA 0, 326, .inl (upd fs 4 (yn7 + 1))))] := hD
  have hn10 : Zd (upd fs 4 (yn7 + 1)) := Zd.day hz (yn7 + 1)
  generalize (upd fs 4 (yn7 + 1)) = fn9 at hP hD hn10
  have hP : va_P D vwCl [(w0, .inr (11, [.ref v0, .ref v1, .ref v2, .ref v3, .ref v4, .long 0, .long 0, .int 1, .int th, .ref v9, .int 0, .int 0, .int (-1), .ref v13, .int 0, .int 0, .int 0, .int 0, .int 0, .int 0, .int 0, .int 0, .int 0, .int 0, .int 0, .long 0, .int 0, .ref v27, .ref v28, .ref v29, .ref v30, .ref v31, .ref v32, .ref v33, .ref v34, .ref v35, .ref v36, .ref v37, .int 0])), (v0, .inl (cA 0, 326, .inl fn9))] H := hP
  have hD : va_D A [(w0, .inr (11, [.ref v0, .ref v1, .ref v2, .ref v3, .ref v4, .long 0, .long 0, .int 1, .int th, .ref v9, .int 0, .int 0, .int (-1), .ref v13, .int 0, .int 0, .int 0, .int 0, .int 0, .int 0, .int 0, .int 0, .int 0, .int 0, .int 0, .long 0, .int 0, .ref v27, .ref v28, .ref v29, .ref v30, .ref v31, .ref v32, .ref v33, .ref v34, .ref v35, .ref v36, .ref v37, .int 0])), (v0, .inl (cA 0, 326, .inl fn9))] := hD
  refine lv_aload_n hx hb dX10_passDay_43 rfl (lv_at hl 0 rfl) ?_
  refine va_get (D := D) (ci := 11) (v := .ref v0) (C := RX10) (T := TX10) (N := 39) hx hb hts inX10 hown hK hP 0 rfl rfl 0 (by decide) (hts (.fieldLink RX10 7 "EscrowDeskModel" "s" "[I") (by decide +kernel)) (fun _ h9 => h9) rfl dX10_passDay_44 ?_
  refine lv_iconst (v := 4) hx hb dX10_passDay_47 (by decide) ?_
  refine va_iald hx hb hK hP 1 0 rfl rfl (vp_in_iff.mpr (by decide)) dX10_passDay_48 ?_
  refine lv_topi (fun yn11 eyn11 => ?_)
  refine lv_bipush (v := 30) hx hb dX10_passDay_49 (by decide) ?_
  refine lv_irem hx hb dX10_passDay_51 (by decide) ?_
  refine lv_if_ne (tgt := 59) hx hb dX10_passDay_52 (by decide) (fun c13 => ?_) (fun c13 => ?_)
  · skip
    refine lv_aload_n hx hb dX10_passDay_59 rfl (lv_at hl 0 rfl) ?_
    have hPc := hP.sub (ws' := [(w0, .inr (11, [.ref v0, .ref v1, .ref v2, .ref v3, .ref v4, .long 0, .long 0, .int 1, .int th, .ref v9, .int 0, .int 0, .int (-1), .ref v13, .int 0, .int 0, .int 0, .int 0, .int 0, .int 0, .int 0, .int 0, .int 0, .int 0, .int 0, .long 0, .int 0, .ref v27, .ref v28, .ref v29, .ref v30, .ref v31, .ref v32, .ref v33, .ref v34, .ref v35, .ref v36, .ref v37, .int 0])), (v0, .inl (cA 0, 326, .inl fn9))]) [0, 1] rfl
    have hDc := hD.sub (ws' := [(w0, .inr (11, [.ref v0, .ref v1, .ref v2, .ref v3, .ref v4, .long 0, .long 0, .int 1, .int th, .ref v9, .int 0, .int 0, .int (-1), .ref v13, .int 0, .int 0, .int 0, .int 0, .int 0, .int 0, .int 0, .int 0, .int 0, .int 0, .int 0, .long 0, .int 0, .ref v27, .ref v28, .ref v29, .ref v30, .ref v31, .ref v32, .ref v33, .ref v34, .ref v35, .ref v36, .ref v37, .int 0])), (v0, .inl (cA 0, 326, .inl fn9))]) [0, 1] (by decide) rfl
    have hFc := va_free (wc := [(w0, .inr (11, [.ref v0, .ref v1, .ref v2, .ref v3, .ref v4, .long 0, .long 0, .int 1, .int th, .ref v9, .int 0, .int 0, .int (-1), .ref v13, .int 0, .int 0, .int 0, .int 0, .int 0, .int 0, .int 0, .int 0, .int 0, .int 0, .int 0, .long 0, .int 0, .ref v27, .ref v28, .ref v29, .ref v30, .ref v31, .ref v32, .ref v33, .ref v34, .ref v35, .ref v36, .ref v37, .int 0])), (v0, .inl (cA 0, 326, .inl fn9))]) hD hS hA [0, 1] rfl
    refine va_callv (va_runV (As := []) (rest := []) ⟨hx, hb, hml, hown, hts⟩ (c_m_becomeDue1 l D cA sa w0 v0 v1 v2 v3 v4 v9 v13 v27 v28 v29 v30 v31 v32 v33 v34 v35 v36 v37 th fn9 H.size hn10) (cwV 0 hts gX10_passDay_X10_becomeDue rfl rfl rfl (by decide +kernel) ⟨(Nat.le_of_ble_eq_true rfl), (Nat.le_of_ble_eq_true rfl)⟩) ⟨Wd.blind, va_recv hK hPc (ci := 11) (q0 := 0) rfl rfl, fun U hU hW => ⟨rfl, Wd.call hPc hDc hK hC hZ hS hFc U hU hW⟩⟩ rfl rfl hl.1 rfl (lv_room (Nat.le_of_ble_eq_true rfl)) dX10_passDay_60 ⟨(Nat.le_of_ble_eq_true rfl), (Nat.le_of_ble_eq_true rfl)⟩) hS (fun q _ h => hFc q h) hFc (fun u t H1 locs ht hvm hw hB hz1 hk1 hS => ?_)
    obtain ⟨hP1, hD1⟩ := hB
    rw [ht] at hP1
    obtain ⟨hP, hD⟩ := va_join (wr := []) (w1 := [(w0, .inr (11, [.ref v0, .ref v1, .ref v2, .ref v3, .ref v4, .long 0, .long 0, .int 1, .int th, .ref v9, .int 0, .int 0, .int (-1), .ref v13, .int 0, .int 0, .int 0, .int 0, .int 0, .int 0, .int 0, .int 0, .int 0, .int 0, .int 0, .long 0, .int 0, .ref v27, .ref v28, .ref v29, .ref v30, .ref v31, .ref v32, .ref v33, .ref v34, .ref v35, .ref v36, .ref v37, .int 0])), (v0, .inl (cA 0, 326, .inl fn9))]) hP hD [0, 1] [] rfl rfl (by decide) (by decide) hk1 hFc hP1 hD1
    generalize H1 = H at hP hS ⊢
    have hP : va_P D vwCl [(w0, .inr (11, [.ref v0, .ref v1, .ref v2, .ref v3, .ref v4, .long 0, .long 0, .int 1, .int th, .ref v9, .int 0, .int 0, .int (-1), .ref v13, .int 0, .int 0, .int 0, .int 0, .int 0, .int 0, .int 0, .int 0, .int 0, .int 0, .int 0, .long 0, .int 0, .ref v27, .ref v28, .ref v29, .ref v30, .ref v31, .ref v32, .ref v33, .ref v34, .ref v35, .ref v36, .ref v37, .int 0])), (v0, .inl (cA 0, 326, .inl fn9))] H := hP
    have hD : va_D A [(w0, .inr (11, [.ref v0, .ref v1, .ref v2, .ref v3, .ref v4, .long 0, .long 0, .int 1, .int th, .ref v9, .int 0, .int 0, .int (-1), .ref v13, .int 0, .int 0, .int 0, .int 0, .int 0, .int 0, .int 0, .int 0, .int 0, .int 0, .int 0, .long 0, .int 0, .ref v27, .ref v28, .ref v29, .ref v30, .ref v31, .ref v32, .ref v33, .ref v34, .ref v35, .ref v36, .ref v37, .int 0])), (v0, .inl (cA 0, 326, .inl fn9))] := hD
    refine lv_aload_n hx hb dX10_passDay_63 rfl (lv_at hl 0 rfl) ?_
    have hPc := hP.sub (ws' := [(w0, .inr (11, [.ref v0, .ref v1, .ref v2, .ref v3, .ref v4, .long 0, .long 0, .int 1, .int th, .ref v9, .int 0, .int 0, .int (-1), .ref v13, .int 0, .int 0, .int 0, .int 0, .int 0, .int 0, .int 0, .int 0, .int 0, .int 0, .int 0, .long 0, .int 0, .ref v27, .ref v28, .ref v29, .ref v30, .ref v31, .ref v32, .ref v33, .ref v34, .ref v35, .ref v36, .ref v37, .int 0])), (v0, .inl (cA 0, 326, .inl fn9))]) [0, 1] rfl
    have hDc := hD.sub (ws' := [(w0, .inr (11, [.ref v0, .ref v1, .ref v2, .ref v3, .ref v4, .long 0, .long 0, .int 1, .int th, .ref v9, .int 0, .int 0, .int (-1), .ref v13, .int 0, .int 0, .int 0, .int 0, .int 0, .int 0, .int 0, .int 0, .int 0, .int 0, .int 0, .long 0, .int 0, .ref v27, .ref v28, .ref v29, .ref v30, .ref v31, .ref v32, .ref v33, .ref v34, .ref v35, .ref v36, .ref v37, .int 0])), (v0, .inl (cA 0, 326, .inl fn9))]) [0, 1] (by decide) rfl
    have hFc := va_free (wc := [(w0, .inr (11, [.ref v0, .ref v1, .ref v2, .ref v3, .ref v4, .long 0, .long 0, .int 1, .int th, .ref v9, .int 0, .int 0, .int (-1), .ref v13, .int 0, .int 0, .int 0, .int 0, .int 0, .int 0, .int 0, .int 0, .int 0, .int 0, .int 0, .long 0, .int 0, .ref v27, .ref v28, .ref v29, .ref v30, .ref v31, .ref v32, .ref v33, .ref v34, .ref v35, .ref v36, .ref v37, .int 0])), (v0, .inl (cA 0, 326, .inl fn9))]) hD hS hA [0, 1] rfl
    refine va_callv (va_runV (As := []) (rest := []) ⟨hx, hb, hml, hown, hts⟩ (c_m_payDue1 l D cA sa w0 v0 v1 v2 v3 v4 v9 v13 v27 v28 v29 v30 v31 v32 v33 v34 v35 v36 v37 th fn9 H.size hn10) (cwV 0 hts gX10_passDay_X10_payDue rfl rfl rfl (by decide +kernel) ⟨(Nat.le_of_ble_eq_true rfl), (Nat.le_of_ble_eq_true rfl)⟩) ⟨Wd.blind, va_recv hK hPc (ci := 11) (q0 := 0) rfl rfl, fun U hU hW => ⟨rfl, Wd.call hPc hDc hK hC hZ hS hFc U hU hW⟩⟩ rfl rfl hl.1 rfl (lv_room (Nat.le_of_ble_eq_true rfl)) dX10_passDay_64 ⟨(Nat.le_of_ble_eq_true rfl), (Nat.le_of_ble_eq_true rfl)⟩) hS (fun q _ h => hFc q h) hFc (fun u t H1 locs ht hvm hw hB hz1 hk1 hS => ?_)
    obtain ⟨hP1, hD1⟩ := hB
    rw [ht] at hP1
    obtain ⟨hP, hD⟩ := va_join (wr := []) (w1 := [(w0, .inr (11, [.ref v0, .ref v1, .ref v2, .ref v3, .ref v4, .long 0, .long 0, .int 1, .int th, .ref v9, .int 0, .int 0, .int (-1), .ref v13, .int 0, .int 0, .int 0, .int 0, .int 0, .int 0, .int 0, .int 0, .int 0, .int 0, .int 0, .long 0, .int 0, .ref v27, .ref v28, .ref v29, .ref v30, .ref v31, .ref v32, .ref v33, .ref v34, .ref v35, .ref v36, .ref v37, .int 0])), (v0, .inl (cA 0, 326, .inl fn9))]) hP hD [0, 1] [] rfl rfl (by decide) (by decide) hk1 hFc hP1 hD1
    generalize H1 = H at hP hS ⊢
    have hP : va_P D vwCl [(w0, .inr (11, [.ref v0, .ref v1, .ref v2, .ref v3, .ref v4, .long 0, .long 0, .int 1, .int th, .ref v9, .int 0, .int 0, .int (-1), .ref v13, .int 0, .int 0, .int 0, .int 0, .int 0, .int 0, .int 0, .int 0, .int 0, .int 0, .int 0, .long 0, .int 0, .ref v27, .ref v28, .ref v29, .ref v30, .ref v31, .ref v32, .ref v33, .ref v34, .ref v35, .ref v36, .ref v37, .int 0])), (v0, .inl (cA 0, 326, .inl fn9))] H := hP
    have hD : va_D A [(w0, .inr (11, [.ref v0, .ref v1, .ref v2, .ref v3, .ref v4, .long 0, .long 0, .int 1, .int th, .ref v9, .int 0, .int 0, .int (-1), .ref v13, .int 0, .int 0, .int 0, .int 0, .int 0, .int 0, .int 0, .int 0, .int 0, .int 0, .int 0, .long 0, .int 0, .ref v27, .ref v28, .ref v29, .ref v30, .ref v31, .ref v32, .ref v33, .ref v34, .ref v35, .ref v36, .ref v37, .int 0])), (v0, .inl (cA 0, 326, .inl fn9))] := hD
    have hP9 := hP.sub (ws' := [(w0, .inr (11, [.ref v0, .ref v1, .ref v2, .ref v3, .ref v4, .long 0, .long 0, .int 1, .int th, .ref v9, .int 0, .int 0, .int (-1), .ref v13, .int 0, .int 0, .int 0, .int 0, .int 0, .int 0, .int 0, .int 0, .int 0, .int 0, .int 0, .long 0, .int 0, .ref v27, .ref v28, .ref v29, .ref v30, .ref v31, .ref v32, .ref v33, .ref v34, .ref v35, .ref v36, .ref v37, .int 0])), (v0, .inl (cA 0, 326, .inl fn9))]) [0, 1] rfl
    have hD9 := hD.sub (ws' := [(w0, .inr (11, [.ref v0, .ref v1, .ref v2, .ref v3, .ref v4, .long 0, .long 0, .int 1, .int th, .ref v9, .int 0, .int 0, .int (-1), .ref v13, .int 0, .int 0, .int 0, .int 0, .int 0, .int 0, .int 0, .int 0, .int 0, .int 0, .int 0, .long 0, .int 0, .ref v27, .ref v28, .ref v29, .ref v30, .ref v31, .ref v32, .ref v33, .ref v34, .ref v35, .ref v36, .ref v37, .int 0])), (v0, .inl (cA 0, 326, .inl fn9))]) [0, 1] (by decide) rfl
    refine W.widen (k := 0) (n := 0) (Nat.le_of_ble_eq_true rfl) (Nat.le_of_ble_eq_true rfl) ?_
    exact W.vret hx hb hr (fun t ht hW => ⟨⟨(), rfl, trivial, fn9, hn10, by rw [ht]; exact hP9, hD9⟩, hS.F ht⟩) hS.2.2 dX10_passDay_67
  · skip
    refine lv_aload_n hx hb dX10_passDay_55 rfl (lv_at hl 0 rfl) ?_
    have hPc := hP.sub (ws' := [(w0, .inr (11, [.ref v0, .ref v1, .ref v2, .ref v3, .ref v4, .long 0, .long 0, .int 1, .int th, .ref v9, .int 0, .int 0, .int (-1), .ref v13, .int 0, .int 0, .int 0, .int 0, .int 0, .int 0, .int 0, .int 0, .int 0, .int 0, .int 0, .long 0, .int 0, .ref v27, .ref v28, .ref v29, .ref v30, .ref v31, .ref v32, .ref v33, .ref v34, .ref v35, .ref v36, .ref v37, .int 0])), (v0, .inl (cA 0, 326, .inl fn9))]) [0, 1] rfl
    have hDc := hD.sub (ws' := [(w0, .inr (11, [.ref v0, .ref v1, .ref v2, .ref v3, .ref v4, .long 0, .long 0, .int 1, .int th, .ref v9, .int 0, .int 0, .int (-1), .ref v13, .int 0, .int 0, .int 0, .int 0, .int 0, .int 0, .int 0, .int 0, .int 0, .int 0, .int 0, .long 0, .int 0, .ref v27, .ref v28, .ref v29, .ref v30, .ref v31, .ref v32, .ref v33, .ref v34, .ref v35, .ref v36, .ref v37, .int 0])), (v0, .inl (cA 0, 326, .inl fn9))]) [0, 1] (by decide) rfl
    have hFc := va_free (wc := [(w0, .inr (11, [.ref v0, .ref v1, .ref v2, .ref v3, .ref v4, .long 0, .long 0, .int 1, .int th, .ref v9, .int 0, .int 0, .int (-1), .ref v13, .int 0, .int 0, .int 0, .int 0, .int 0, .int 0, .int 0, .int 0, .int 0, .int 0, .int 0, .long 0, .int 0, .ref v27, .ref v28, .ref v29, .ref v30, .ref v31, .ref v32, .ref v33, .ref v34, .ref v35, .ref v36, .ref v37, .int 0])), (v0, .inl (cA 0, 326, .inl fn9))]) hD hS hA [0, 1] rfl
    refine va_callv (va_runV (As := []) (rest := []) ⟨hx, hb, hml, hown, hts⟩ (c_m_credit1 l D cA sa w0 v0 v1 v2 v3 v4 v9 v13 v27 v28 v29 v30 v31 v32 v33 v34 v35 v36 v37 th fn9 H.size hn10) (cwV 0 hts gX10_passDay_X10_credit rfl rfl rfl (by decide +kernel) ⟨(Nat.le_of_ble_eq_true rfl), (Nat.le_of_ble_eq_true rfl)⟩) ⟨Wd.blind, va_recv hK hPc (ci := 11) (q0 := 0) rfl rfl, fun U hU hW => ⟨rfl, Wd.call hPc hDc hK hC hZ hS hFc U hU hW⟩⟩ rfl rfl hl.1 rfl (lv_room (Nat.le_of_ble_eq_true rfl)) dX10_passDay_56 ⟨(Nat.le_of_ble_eq_true rfl), (Nat.le_of_ble_eq_true rfl)⟩) hS (fun q _ h => hFc q h) hFc (fun u t H1 locs ht hvm hw hB hz1 hk1 hS => ?_)
    obtain ⟨fn14, hn15, hP1, hD1⟩ := hB
    rw [ht] at hP1
    obtain ⟨hP, hD⟩ := va_join (wr := []) (w1 := [(w0, .inr (11, [.ref v0, .ref v1, .ref v2, .ref v3, .ref v4, .long 0, .long 0, .int 1, .int th, .ref v9, .int 0, .int 0, .int (-1), .ref v13, .int 0, .int 0, .int 0, .int 0, .int 0, .int 0, .int 0, .int 0, .int 0, .int 0, .int 0, .long 0, .int 0, .ref v27, .ref v28, .ref v29, .ref v30, .ref v31, .ref v32, .ref v33, .ref v34, .ref v35, .ref v36, .ref v37, .int 0])), (v0, .inl (cA 0, 326, .inl fn14))]) hP hD [0, 1] [] rfl rfl (by decide) (by decide) hk1 hFc hP1 hD1
    generalize H1 = H at hP hS ⊢
    have hP : va_P D vwCl [(w0, .inr (11, [.ref v0, .ref v1, .ref v2, .ref v3, .ref v4, .long 0, .long 0, .int 1, .int th, .ref v9, .int 0, .int 0, .int (-1), .ref v13, .int 0, .int 0, .int 0, .int 0, .int 0, .int 0, .int 0, .int 0, .int 0, .int 0, .int 0, .long 0, .int 0, .ref v27, .ref v28, .ref v29, .ref v30, .ref v31, .ref v32, .ref v33, .ref v34, .ref v35, .ref v36, .ref v37, .int 0])), (v0, .inl (cA 0, 326, .inl fn14))] H := hP
    have hD : va_D A [(w0, .inr (11, [.ref v0, .ref v1, .ref v2, .ref v3, .ref v4, .long 0, .long 0, .int 1, .int th, .ref v9, .int 0, .int 0, .int (-1), .ref v13, .int 0, .int 0, .int 0, .int 0, .int 0, .int 0, .int 0, .int 0, .int 0, .int 0, .int 0, .long 0, .int 0, .ref v27, .ref v28, .ref v29, .ref v30, .ref v31, .ref v32, .ref v33, .ref v34, .ref v35, .ref v36, .ref v37, .int 0])), (v0, .inl (cA 0, 326, .inl fn14))] := hD
    refine lv_aload_n hx hb dX10_passDay_59 rfl (lv_at hl 0 rfl) ?_
    have hPc := hP.sub (ws' := [(w0, .inr (11, [.ref v0, .ref v1, .ref v2, .ref v3, .ref v4, .long 0, .long 0, .int 1, .int th, .ref v9, .int 0, .int 0, .int (-1), .ref v13, .int 0, .int 0, .int 0, .int 0, .int 0, .int 0, .int 0, .int 0, .int 0, .int 0, .int 0, .long 0, .int 0, .ref v27, .ref v28, .ref v29, .ref v30, .ref v31, .ref v32, .ref v33, .ref v34, .ref v35, .ref v36, .ref v37, .int 0])), (v0, .inl (cA 0, 326, .inl fn14))]) [0, 1] rfl
    have hDc := hD.sub (ws' := [(w0, .inr (11, [.ref v0, .ref v1, .ref v2, .ref v3, .ref v4, .long 0, .long 0, .int 1, .int th, .ref v9, .int 0, .int 0, .int (-1), .ref v13, .int 0, .int 0, .int 0, .int 0, .int 0, .int 0, .int 0, .int 0, .int 0, .int 0, .int 0, .long 0, .int 0, .ref v27, .ref v28, .ref v29, .ref v30, .ref v31, .ref v32, .ref v33, .ref v34, .ref v35, .ref v36, .ref v37, .int 0])), (v0, .inl (cA 0, 326, .inl fn14))]) [0, 1] (by decide) rfl
    have hFc := va_free (wc := [(w0, .inr (11, [.ref v0, .ref v1, .ref v2, .ref v3, .ref v4, .long 0, .long 0, .int 1, .int th, .ref v9, .int 0, .int 0, .int (-1), .ref v13, .int 0, .int 0, .int 0, .int 0, .int 0, .int 0, .int 0, .int 0, .int 0, .int 0, .int 0, .long 0, .int 0, .ref v27, .ref v28, .ref v29, .ref v30, .ref v31, .ref v32, .ref v33, .ref v34, .ref v35, .ref v36, .ref v37, .int 0])), (v0, .inl (cA 0, 326, .inl fn14))]) hD hS hA [0, 1] rfl
    refine va_callv (va_runV (As := []) (rest := []) ⟨hx, hb, hml, hown, hts⟩ (c_m_becomeDue1 l D cA sa w0 v0 v1 v2 v3 v4 v9 v13 v27 v28 v29 v30 v31 v32 v33 v34 v35 v36 v37 th fn14 H.size hn15) (cwV 0 hts gX10_passDay_X10_becomeDue rfl rfl rfl (by decide +kernel) ⟨(Nat.le_of_ble_eq_true rfl), (Nat.le_of_ble_eq_true rfl)⟩) ⟨Wd.blind, va_recv hK hPc (ci := 11) (q0 := 0) rfl rfl, fun U hU hW => ⟨rfl, Wd.call hPc hDc hK hC hZ hS hFc U hU hW⟩⟩ rfl rfl hl.1 rfl (lv_room (Nat.le_of_ble_eq_true rfl)) dX10_passDay_60 ⟨(Nat.le_of_ble_eq_true rfl), (Nat.le_of_ble_eq_true rfl)⟩) hS (fun q _ h => hFc q h) hFc (fun u t H1 locs ht hvm hw hB hz1 hk1 hS => ?_)
    obtain ⟨hP1, hD1⟩ := hB
    rw [ht] at hP1
    obtain ⟨hP, hD⟩ := va_join (wr := []) (w1 := [(w0, .inr (11, [.ref v0, .ref v1, .ref v2, .ref v3, .ref v4, .long 0, .long 0, .int 1, .int th, .ref v9, .int 0, .int 0, .int (-1), .ref v13, .int 0, .int 0, .int 0, .int 0, .int 0, .int 0, .int 0, .int 0, .int 0, .int 0, .int 0, .long 0, .int 0, .ref v27, .ref v28, .ref v29, .ref v30, .ref v31, .ref v32, .ref v33, .ref v34, .ref v35, .ref v36, .ref v37, .int 0])), (v0, .inl (cA 0, 326, .inl fn14))]) hP hD [0, 1] [] rfl rfl (by decide) (by decide) hk1 hFc hP1 hD1
    generalize H1 = H at hP hS ⊢
    have hP : va_P D vwCl [(w0, .inr (11, [.ref v0, .ref v1, .ref v2, .ref v3, .ref v4, .long 0, .long 0, .int 1, .int th, .ref v9, .int 0, .int 0, .int (-1), .ref v13, .int 0, .int 0, .int 0, .int 0, .int 0, .int 0, .int 0, .int 0, .int 0, .int 0, .int 0, .long 0, .int 0, .ref v27, .ref v28, .ref v29, .ref v30, .ref v31, .ref v32, .ref v33, .ref v34, .ref v35, .ref v36, .ref v37, .int 0])), (v0, .inl (cA 0, 326, .inl fn14))] H := hP
    have hD : va_D A [(w0, .inr (11, [.ref v0, .ref v1, .ref v2, .ref v3, .ref v4, .long 0, .long 0, .int 1, .int th, .ref v9, .int 0, .int 0, .int (-1), .ref v13, .int 0, .int 0, .int 0, .int 0, .int 0, .int 0, .int 0, .int 0, .int 0, .int 0, .int 0, .long 0, .int 0, .ref v27, .ref v28, .ref v29, .ref v30, .ref v31, .ref v32, .ref v33, .ref v34, .ref v35, .ref v36, .ref v37, .int 0])), (v0, .inl (cA 0, 326, .inl fn14))] := hD
    refine lv_aload_n hx hb dX10_passDay_63 rfl (lv_at hl 0 rfl) ?_
    have hPc := hP.sub (ws' := [(w0, .inr (11, [.ref v0, .ref v1, .ref v2, .ref v3, .ref v4, .long 0, .long 0, .int 1, .int th, .ref v9, .int 0, .int 0, .int (-1), .ref v13, .int 0, .int 0, .int 0, .int 0, .int 0, .int 0, .int 0, .int 0, .int 0, .int 0, .int 0, .long 0, .int 0, .ref v27, .ref v28, .ref v29, .ref v30, .ref v31, .ref v32, .ref v33, .ref v34, .ref v35, .ref v36, .ref v37, .int 0])), (v0, .inl (cA 0, 326, .inl fn14))]) [0, 1] rfl
    have hDc := hD.sub (ws' := [(w0, .inr (11, [.ref v0, .ref v1, .ref v2, .ref v3, .ref v4, .long 0, .long 0, .int 1, .int th, .ref v9, .int 0, .int 0, .int (-1), .ref v13, .int 0, .int 0, .int 0, .int 0, .int 0, .int 0, .int 0, .int 0, .int 0, .int 0, .int 0, .long 0, .int 0, .ref v27, .ref v28, .ref v29, .ref v30, .ref v31, .ref v32, .ref v33, .ref v34, .ref v35, .ref v36, .ref v37, .int 0])), (v0, .inl (cA 0, 326, .inl fn14))]) [0, 1] (by decide) rfl
    have hFc := va_free (wc := [(w0, .inr (11, [.ref v0, .ref v1, .ref v2, .ref v3, .ref v4, .long 0, .long 0, .int 1, .int th, .ref v9, .int 0, .int 0, .int (-1), .ref v13, .int 0, .int 0, .int 0, .int 0, .int 0, .int 0, .int 0, .int 0, .int 0, .int 0, .int 0, .long 0, .int 0, .ref v27, .ref v28, .ref v29, .ref v30, .ref v31, .ref v32, .ref v33, .ref v34, .ref v35, .ref v36, .ref v37, .int 0])), (v0, .inl (cA 0, 326, .inl fn14))]) hD hS hA [0, 1] rfl
    refine va_callv (va_runV (As := []) (rest := []) ⟨hx, hb, hml, hown, hts⟩ (c_m_payDue1 l D cA sa w0 v0 v1 v2 v3 v4 v9 v13 v27 v28 v29 v30 v31 v32 v33 v34 v35 v36 v37 th fn14 H.size hn15) (cwV 0 hts gX10_passDay_X10_payDue rfl rfl rfl (by decide +kernel) ⟨(Nat.le_of_ble_eq_true rfl), (Nat.le_of_ble_eq_true rfl)⟩) ⟨Wd.blind, va_recv hK hPc (ci := 11) (q0 := 0) rfl rfl, fun U hU hW => ⟨rfl, Wd.call hPc hDc hK hC hZ hS hFc U hU hW⟩⟩ rfl rfl hl.1 rfl (lv_room (Nat.le_of_ble_eq_true rfl)) dX10_passDay_64 ⟨(Nat.le_of_ble_eq_true rfl), (Nat.le_of_ble_eq_true rfl)⟩) hS (fun q _ h => hFc q h) hFc (fun u t H1 locs ht hvm hw hB hz1 hk1 hS => ?_)
    obtain ⟨hP1, hD1⟩ := hB
    rw [ht] at hP1
    obtain ⟨hP, hD⟩ := va_join (wr := []) (w1 := [(w0, .inr (11, [.ref v0, .ref v1, .ref v2, .ref v3, .ref v4, .long 0, .long 0, .int 1, .int th, .ref v9, .int 0, .int 0, .int (-1), .ref v13, .int 0, .int 0, .int 0, .int 0, .int 0, .int 0, .int 0, .int 0, .int 0, .int 0, .int 0, .long 0, .int 0, .ref v27, .ref v28, .ref v29, .ref v30, .ref v31, .ref v32, .ref v33, .ref v34, .ref v35, .ref v36, .ref v37, .int 0])), (v0, .inl (cA 0, 326, .inl fn14))]) hP hD [0, 1] [] rfl rfl (by decide) (by decide) hk1 hFc hP1 hD1
    generalize H1 = H at hP hS ⊢
    have hP : va_P D vwCl [(w0, .inr (11, [.ref v0, .ref v1, .ref v2, .ref v3, .ref v4, .long 0, .long 0, .int 1, .int th, .ref v9, .int 0, .int 0, .int (-1), .ref v13, .int 0, .int 0, .int 0, .int 0, .int 0, .int 0, .int 0, .int 0, .int 0, .int 0, .int 0, .long 0, .int 0, .ref v27, .ref v28, .ref v29, .ref v30, .ref v31, .ref v32, .ref v33, .ref v34, .ref v35, .ref v36, .ref v37, .int 0])), (v0, .inl (cA 0, 326, .inl fn14))] H := hP
    have hD : va_D A [(w0, .inr (11, [.ref v0, .ref v1, .ref v2, .ref v3, .ref v4, .long 0, .long 0, .int 1, .int th, .ref v9, .int 0, .int 0, .int (-1), .ref v13, .int 0, .int 0, .int 0, .int 0, .int 0, .int 0, .int 0, .int 0, .int 0, .int 0, .int 0, .long 0, .int 0, .ref v27, .ref v28, .ref v29, .ref v30, .ref v31, .ref v32, .ref v33, .ref v34, .ref v35, .ref v36, .ref v37, .int 0])), (v0, .inl (cA 0, 326, .inl fn14))] := hD
    have hP9 := hP.sub (ws' := [(w0, .inr (11, [.ref v0, .ref v1, .ref v2, .ref v3, .ref v4, .long 0, .long 0, .int 1, .int th, .ref v9, .int 0, .int 0, .int (-1), .ref v13, .int 0, .int 0, .int 0, .int 0, .int 0, .int 0, .int 0, .int 0, .int 0, .int 0, .int 0, .long 0, .int 0, .ref v27, .ref v28, .ref v29, .ref v30, .ref v31, .ref v32, .ref v33, .ref v34, .ref v35, .ref v36, .ref v37, .int 0])), (v0, .inl (cA 0, 326, .inl fn14))]) [0, 1] rfl
    have hD9 := hD.sub (ws' := [(w0, .inr (11, [.ref v0, .ref v1, .ref v2, .ref v3, .ref v4, .long 0, .long 0, .int 1, .int th, .ref v9, .int 0, .int 0, .int (-1), .ref v13, .int 0, .int 0, .int 0, .int 0, .int 0, .int 0, .int 0, .int 0, .int 0, .int 0, .int 0, .long 0, .int 0, .ref v27, .ref v28, .ref v29, .ref v30, .ref v31, .ref v32, .ref v33, .ref v34, .ref v35, .ref v36, .ref v37, .int 0])), (v0, .inl (cA 0, 326, .inl fn14))]) [0, 1] (by decide) rfl
    refine W.widen (k := 0) (n := 0) (Nat.le_of_ble_eq_true rfl) (Nat.le_of_ble_eq_true rfl) ?_
    exact W.vret hx hb hr (fun t ht hW => ⟨⟨(), rfl, trivial, fn14, hn15, by rw [ht]; exact hP9, hD9⟩, hS.F ht⟩) hS.2.2 dX10_passDay_67

set_option maxHeartbeats 4000000 in
set_option maxRecDepth 100000 in
/-- passDays: the day alone -/
theorem c_m_passDays1 (l : Launch) (D : va_G) (cA : Nat → ClassId) (sa : Nat → Nat) (w0 v0 v1 v2 v3 v4 v9 v13 v27 v28 v29 v30 v31 v32 v33 v34 v35 v36 v37 N : Nat) (th : Int32) (fs0 : Nat → Int32) (sz : Nat) (hz0 : Zd fs0) (hN : N ≤ 120) : Met l yX10_passDays wsX10_passDays ({ frames := 3, cells := 0, slots := 0, locals := 67 }) (va_Pc [.ref w0, .int (nI N)] (Wd D cA sa [(w0, .inr (11, [.ref v0, .ref v1, .ref v2, .ref v3, .ref v4, .long 0, .long 0, .int 1, .int th, .ref v9, .int 0, .int 0, .int (-1), .ref v13, .int 0, .int 0, .int 0, .int 0, .int 0, .int 0, .int 0, .int 0, .int 0, .int 0, .int 0, .long 0, .int 0, .ref v27, .ref v28, .ref v29, .ref v30, .ref v31, .ref v32, .ref v33, .ref v34, .ref v35, .ref v36, .ref v37, .int 0])), (v0, .inl (cA 0, 326, .inl fs0))] sz)) (va_Qv (fun _ : Unit => True) (fun (_ : Unit) t => ∃ fs : Nat → Int32, Zd fs ∧ Wq D (va_A [(w0, .inr (11, [.ref v0, .ref v1, .ref v2, .ref v3, .ref v4, .long 0, .long 0, .int 1, .int th, .ref v9, .int 0, .int 0, .int (-1), .ref v13, .int 0, .int 0, .int 0, .int 0, .int 0, .int 0, .int 0, .int 0, .int 0, .int 0, .int 0, .long 0, .int 0, .ref v27, .ref v28, .ref v29, .ref v30, .ref v31, .ref v32, .ref v33, .ref v34, .ref v35, .ref v36, .ref v37, .int 0])), (v0, .inl (cA 0, 326, .inl fs0))] sz) [(w0, .inr (11, [.ref v0, .ref v1, .ref v2, .ref v3, .ref v4, .long 0, .long 0, .int 1, .int th, .ref v9, .int 0, .int 0, .int (-1), .ref v13, .int 0, .int 0, .int 0, .int 0, .int 0, .int 0, .int 0, .int 0, .int 0, .int 0, .int 0, .long 0, .int 0, .ref v27, .ref v28, .ref v29, .ref v30, .ref v31, .ref v32, .ref v33, .ref v34, .ref v35, .ref v36, .ref v37, .int 0])), (v0, .inl (cA 0, 326, .inl fs))] t) (va_A [(w0, .inr (11, [.ref v0, .ref v1, .ref v2, .ref v3, .ref v4, .long 0, .long 0, .int 1, .int th, .ref v9, .int 0, .int 0, .int (-1), .ref v13, .int 0, .int 0, .int 0, .int 0, .int 0, .int 0, .int 0, .int 0, .int 0, .int 0, .int 0, .long 0, .int 0, .ref v27, .ref v28, .ref v29, .ref v30, .ref v31, .ref v32, .ref v33, .ref v34, .ref v35, .ref v36, .ref v37, .int 0])), (v0, .inl (cA 0, 326, .inl fs0))] sz)) 0 0 (va_A [(w0, .inr (11, [.ref v0, .ref v1, .ref v2, .ref v3, .ref v4, .long 0, .long 0, .int 1, .int th, .ref v9, .int 0, .int 0, .int (-1), .ref v13, .int 0, .int 0, .int 0, .int 0, .int 0, .int 0, .int 0, .int 0, .int 0, .int 0, .int 0, .long 0, .int 0, .ref v27, .ref v28, .ref v29, .ref v30, .ref v31, .ref v32, .ref v33, .ref v34, .ref v35, .ref v36, .ref v37, .int 0])), (v0, .inl (cA 0, 326, .inl fs0))] sz) := by
  refine Met.ofW (cc := cX10_passDays) (maxL := 3) (ret := none) (by decide) rfl ?_
  intro p e s m args below meth c s₁ B hml hv
  obtain ⟨rfl, hsz, hP, hK, hD0, hC, hZ⟩ := hv
  have hx := B.exec
  have hb := B.bytes
  have hr := B.returns
  have hts := atoms_spec (ws := wsX10_passDays) B.pre
  have hown : s.vm.findClass RX10 = some m.cls := findClass_of_methodNamed B.named
  have hlocks := B.notSynchronized
  subst hsz
  have hD := hD0.self (sz := s.heap.size)
  generalize hAe : va_A [(w0, .inr (11, [.ref v0, .ref v1, .ref v2, .ref v3, .ref v4, .long 0, .long 0, .int 1, .int th, .ref v9, .int 0, .int 0, .int (-1), .ref v13, .int 0, .int 0, .int 0, .int 0, .int 0, .int 0, .int 0, .int 0, .int 0, .int 0, .int 0, .long 0, .int 0, .ref v27, .ref v28, .ref v29, .ref v30, .ref v31, .ref v32, .ref v33, .ref v34, .ref v35, .ref v36, .ref v37, .int 0])), (v0, .inl (cA 0, 326, .inl fs0))] s.heap.size = A at hD hZ ⊢
  have hA : ∀ q : Nat, s.heap.size ≤ q → A q := fun q h => by rw [← hAe]; exact Or.inr h
  have hS : va_S A s.heap s.heap [] := va_S.rf
  have hP : va_P D vwCl [(w0, .inr (11, [.ref v0, .ref v1, .ref v2, .ref v3, .ref v4, .long 0, .long 0, .int 1, .int th, .ref v9, .int 0, .int 0, .int (-1), .ref v13, .int 0, .int 0, .int 0, .int 0, .int 0, .int 0, .int 0, .int 0, .int 0, .int 0, .int 0, .long 0, .int 0, .ref v27, .ref v28, .ref v29, .ref v30, .ref v31, .ref v32, .ref v33, .ref v34, .ref v35, .ref v36, .ref v37, .int 0])), (v0, .inl (cA 0, 326, .inl fs0))] s.heap := hP
  have hl := lv_entry ([.ref w0, .int (nI N)]) (n := 3) (Nat.le_of_ble_eq_true rfl)
  rw [lg_entry_eq]
  generalize (lg_sl ([.ref w0, .int (nI N)]) ++ List.replicate (3 - (lg_sl ([.ref w0, .int (nI N)])).length) Slot.unset).toArray = ls at hl ⊢
  have hl : lv_has ls 3 [(0, .ref w0), (1, .int (nI N))] := hl
  refine lv_iconst (v := 0) hx hb dX10_passDays_0 (by decide) ?_
  refine lv_istore_n (lv' := [(2, .int 0), (0, .ref w0), (1, .int (nI N))]) hx hb dX10_passDays_1 rfl hl (by decide) rfl (fun ls hl => ?_)
  have loop : ∀ (n i : Nat) (fs : Nat → Int32) (H : Heap) (locs : List Loc) (ls : Array Slot), i + n = N → Zd fs → va_P D vwCl [(w0, .inr (11, [.ref v0, .ref v1, .ref v2, .ref v3, .ref v4, .long 0, .long 0, .int 1, .int th, .ref v9, .int 0, .int 0, .int (-1), .ref v13, .int 0, .int 0, .int 0, .int 0, .int 0, .int 0, .int 0, .int 0, .int 0, .int 0, .int 0, .long 0, .int 0, .ref v27, .ref v28, .ref v29, .ref v30, .ref v31, .ref v32, .ref v33, .ref v34, .ref v35, .ref v36, .ref v37, .int 0])), (v0, .inl (cA 0, 326, .inl fs))] H → va_D A [(w0, .inr (11, [.ref v0, .ref v1, .ref v2, .ref v3, .ref v4, .long 0, .long 0, .int 1, .int th, .ref v9, .int 0, .int 0, .int (-1), .ref v13, .int 0, .int 0, .int 0, .int 0, .int 0, .int 0, .int 0, .int 0, .int 0, .int 0, .int 0, .long 0, .int 0, .ref v27, .ref v28, .ref v29, .ref v30, .ref v31, .ref v32, .ref v33, .ref v34, .ref v35, .ref v36, .ref v37, .int 0])), (v0, .inl (cA 0, 326, .inl fs))] → va_S A s.heap H locs → lv_has ls 3 [(2, .int (nI i)), (0, .ref w0), (1, .int (nI N))] → W p l e (headSpec wsX10_passDays ({ frames := 3, cells := 0, slots := 0, locals := 67 } : Room)).room s m ([.ref w0, .int (nI N)] : List Value).toArray below meth c H locs 0 0 (MQ below (va_Qv (fun _ : Unit => True) (fun (_ : Unit) t => ∃ fs : Nat → Int32, Zd fs ∧ Wq D A [(w0, .inr (11, [.ref v0, .ref v1, .ref v2, .ref v3, .ref v4, .long 0, .long 0, .int 1, .int th, .ref v9, .int 0, .int 0, .int (-1), .ref v13, .int 0, .int 0, .int 0, .int 0, .int 0, .int 0, .int 0, .int 0, .int 0, .int 0, .int 0, .long 0, .int 0, .ref v27, .ref v28, .ref v29, .ref v30, .ref v31, .ref v32, .ref v33, .ref v34, .ref v35, .ref v36, .ref v37, .int 0])), (v0, .inl (cA 0, 326, .inl fs))] t) A) ([.ref w0, .int (nI N)] : List Value).toArray s 0 0 A) (F0 m 2 ls []) := by
    intro n
    induction n with
    | zero =>
      intro i fs H locs ls hi hz hP hD hS hl
      obtain rfl : N = i := by omega
      refine lv_iload_n hx hb dX10_passDays_2 rfl (lv_at hl 0 rfl) ?_
      refine lv_iload_n hx hb dX10_passDays_3 rfl (lv_at hl 2 rfl) ?_
      refine lv_icmp_ge (tgt := 17) hx hb dX10_passDays_4 (by decide) (fun c1 => ?_) (fun c9 => absurd c9 (fun h3 => h3 (nI_le (Nat.le_refl N) (by omega))))
      have hP9 := hP.sub (ws' := [(w0, .inr (11, [.ref v0, .ref v1, .ref v2, .ref v3, .ref v4, .long 0, .long 0, .int 1, .int th, .ref v9, .int 0, .int 0, .int (-1), .ref v13, .int 0, .int 0, .int 0, .int 0, .int 0, .int 0, .int 0, .int 0, .int 0, .int 0, .int 0, .long 0, .int 0, .ref v27, .ref v28, .ref v29, .ref v30, .ref v31, .ref v32, .ref v33, .ref v34, .ref v35, .ref v36, .ref v37, .int 0])), (v0, .inl (cA 0, 326, .inl fs))]) [0, 1] rfl
      have hD9 := hD.sub (ws' := [(w0, .inr (11, [.ref v0, .ref v1, .ref v2, .ref v3, .ref v4, .long 0, .long 0, .int 1, .int th, .ref v9, .int 0, .int 0, .int (-1), .ref v13, .int 0, .int 0, .int 0, .int 0, .int 0, .int 0, .int 0, .int 0, .int 0, .int 0, .int 0, .long 0, .int 0, .ref v27, .ref v28, .ref v29, .ref v30, .ref v31, .ref v32, .ref v33, .ref v34, .ref v35, .ref v36, .ref v37, .int 0])), (v0, .inl (cA 0, 326, .inl fs))]) [0, 1] (by decide) rfl
      refine W.widen (k := 0) (n := 0) (Nat.le_of_ble_eq_true rfl) (Nat.le_of_ble_eq_true rfl) ?_
      exact W.vret hx hb hr (fun t ht hW => ⟨⟨(), rfl, trivial, fs, hz, by rw [ht]; exact hP9, hD9⟩, hS.F ht⟩) hS.2.2 dX10_passDays_17
    | succ n ih =>
      intro i fs H locs ls hi hz hP hD hS hl
      refine lv_iload_n hx hb dX10_passDays_2 rfl (lv_at hl 0 rfl) ?_
      refine lv_iload_n hx hb dX10_passDays_3 rfl (lv_at hl 2 rfl) ?_
      refine lv_icmp_ge (tgt := 17) hx hb dX10_passDays_4 (by decide) (fun c9 => absurd c9 (nI_ge (show i < N by omega) (by omega))) (fun c2 => ?_)
      refine lv_aload_n hx hb dX10_passDays_7 rfl (lv_at hl 1 rfl) ?_
      have hPc := hP.sub (ws' := [(w0, .inr (11, [.ref v0, .ref v1, .ref v2, .ref v3, .ref v4, .long 0, .long 0, .int 1, .int th, .ref v9, .int 0, .int 0, .int (-1), .ref v13, .int 0, .int 0, .int 0, .int 0, .int 0, .int 0, .int 0, .int 0, .int 0, .int 0, .int 0, .long 0, .int 0, .ref v27, .ref v28, .ref v29, .ref v30, .ref v31, .ref v32, .ref v33, .ref v34, .ref v35, .ref v36, .ref v37, .int 0])), (v0, .inl (cA 0, 326, .inl fs))]) [0, 1] rfl
      have hDc := hD.sub (ws' := [(w0, .inr (11, [.ref v0, .ref v1, .ref v2, .ref v3, .ref v4, .long 0, .long 0, .int 1, .int th, .ref v9, .int 0, .int 0, .int (-1), .ref v13, .int 0, .int 0, .int 0, .int 0, .int 0, .int 0, .int 0, .int 0, .int 0, .int 0, .int 0, .long 0, .int 0, .ref v27, .ref v28, .ref v29, .ref v30, .ref v31, .ref v32, .ref v33, .ref v34, .ref v35, .ref v36, .ref v37, .int 0])), (v0, .inl (cA 0, 326, .inl fs))]) [0, 1] (by decide) rfl
      have hFc := va_free (wc := [(w0, .inr (11, [.ref v0, .ref v1, .ref v2, .ref v3, .ref v4, .long 0, .long 0, .int 1, .int th, .ref v9, .int 0, .int 0, .int (-1), .ref v13, .int 0, .int 0, .int 0, .int 0, .int 0, .int 0, .int 0, .int 0, .int 0, .int 0, .int 0, .long 0, .int 0, .ref v27, .ref v28, .ref v29, .ref v30, .ref v31, .ref v32, .ref v33, .ref v34, .ref v35, .ref v36, .ref v37, .int 0])), (v0, .inl (cA 0, 326, .inl fs))]) hD hS hA [0, 1] rfl
      refine va_callv (va_runV (As := []) (rest := []) ⟨hx, hb, hml, hown, hts⟩ (c_m_passDay1 l D cA sa w0 v0 v1 v2 v3 v4 v9 v13 v27 v28 v29 v30 v31 v32 v33 v34 v35 v36 v37 th fs H.size hz) (cwV 0 hts gX10_passDays_X10_passDay rfl rfl rfl (by decide +kernel) ⟨(Nat.le_of_ble_eq_true rfl), (Nat.le_of_ble_eq_true rfl)⟩) ⟨Wd.blind, va_recv hK hPc (ci := 11) (q0 := 0) rfl rfl, fun U hU hW => ⟨rfl, Wd.call hPc hDc hK hC hZ hS hFc U hU hW⟩⟩ rfl rfl hl.1 rfl (lv_room (Nat.le_of_ble_eq_true rfl)) dX10_passDays_8 ⟨(Nat.le_of_ble_eq_true rfl), (Nat.le_of_ble_eq_true rfl)⟩) hS (fun q _ h => hFc q h) hFc (fun u t H1 locs ht hvm hw hB hz1 hk1 hS => ?_)
      obtain ⟨fn3, hn4, hP1, hD1⟩ := hB
      rw [ht] at hP1
      obtain ⟨hP, hD⟩ := va_join (wr := []) (w1 := [(w0, .inr (11, [.ref v0, .ref v1, .ref v2, .ref v3, .ref v4, .long 0, .long 0, .int 1, .int th, .ref v9, .int 0, .int 0, .int (-1), .ref v13, .int 0, .int 0, .int 0, .int 0, .int 0, .int 0, .int 0, .int 0, .int 0, .int 0, .int 0, .long 0, .int 0, .ref v27, .ref v28, .ref v29, .ref v30, .ref v31, .ref v32, .ref v33, .ref v34, .ref v35, .ref v36, .ref v37, .int 0])), (v0, .inl (cA 0, 326, .inl fn3))]) hP hD [0, 1] [] rfl rfl (by decide) (by decide) hk1 hFc hP1 hD1
      generalize H1 = H at hP hS ⊢
      have hP : va_P D vwCl [(w0, .inr (11, [.ref v0, .ref v1, .ref v2, .ref v3, .ref v4, .long 0, .long 0, .int 1, .int th, .ref v9, .int 0, .int 0, .int (-1), .ref v13, .int 0, .int 0, .int 0, .int 0, .int 0, .int 0, .int 0, .int 0, .int 0, .int 0, .int 0, .long 0, .int 0, .ref v27, .ref v28, .ref v29, .ref v30, .ref v31, .ref v32, .ref v33, .ref v34, .ref v35, .ref v36, .ref v37, .int 0])), (v0, .inl (cA 0, 326, .inl fn3))] H := hP
      have hD : va_D A [(w0, .inr (11, [.ref v0, .ref v1, .ref v2, .ref v3, .ref v4, .long 0, .long 0, .int 1, .int th, .ref v9, .int 0, .int 0, .int (-1), .ref v13, .int 0, .int 0, .int 0, .int 0, .int 0, .int 0, .int 0, .int 0, .int 0, .int 0, .int 0, .long 0, .int 0, .ref v27, .ref v28, .ref v29, .ref v30, .ref v31, .ref v32, .ref v33, .ref v34, .ref v35, .ref v36, .ref v37, .int 0])), (v0, .inl (cA 0, 326, .inl fn3))] := hD
      refine lv_iinc (v := (nI (i + 1))) (lv' := [(2, .int (nI (i + 1))), (0, .ref w0), (1, .int (nI N))]) hx hb dX10_passDays_11 hl (k := 0) rfl (nI_1 _) (by decide) rfl (fun ls hl => ?_)
      refine lv_goto (tgt := 2) hx hb dX10_passDays_14 (by decide) ?_
      exact ih (i + 1) fn3 H _ ls (by omega) hn4 (hP.sub [0, 1] rfl) (hD.sub [0, 1] (by decide) rfl) hS (lv_sub hl [0, 1, 2] rfl)
  exact loop N 0 fs0 _ _ ls (by omega) hz0 (hP.sub [0, 1] rfl) (hD.sub [0, 1] (by decide) rfl) hS (lv_sub hl [0, 1, 2] rfl)

set_option maxHeartbeats 4000000 in
set_option maxRecDepth 100000 in
/-- pass within -/
theorem c_m_pass_ret (l : Launch) (D : va_G) (cA : Nat → ClassId) (sa : Nat → Nat) (w0 v0 v1 v2 v3 v4 v9 v13 v27 v28 v29 v30 v31 v32 v33 v34 v35 v36 v37 : Nat) (th : Int32) (fs fh : Nat → Int32) (fq : Nat → Int64) (N : Nat) (sz : Nat) (hz : Zs fs) (hN1 : 1 ≤ N) (hN : N ≤ 120) : Met l yX10_pass wsX10_pass ({ frames := 4, cells := 0, slots := 0, locals := 89 }) (va_Pc [.ref w0, .int (nI N)] (Wd D cA sa [(w0, .inr (11, [.ref v0, .ref v1, .ref v2, .ref v3, .ref v4, .long 0, .long 0, .int 0, .int th, .ref v9, .int 0, .int 0, .int (-1), .ref v13, .int 0, .int 0, .int 0, .int 0, .int 0, .int 0, .int 0, .int 0, .int 0, .int 0, .int 0, .long 0, .int 0, .ref v27, .ref v28, .ref v29, .ref v30, .ref v31, .ref v32, .ref v33, .ref v34, .ref v35, .ref v36, .ref v37, .int 0])), (v0, .inl (cA 0, 326, .inl fs)), (v3, .inl (cA 0, 3260, .inl fh)), (v4, .inl (cA 1, 10, .inr (.inl fq)))] sz)) (va_Qi (fun (r : Int32) (_ : Unit) => r = 0) (fun (_ : Unit) t => Wq D (va_A [(w0, .inr (11, [.ref v0, .ref v1, .ref v2, .ref v3, .ref v4, .long 0, .long 0, .int 0, .int th, .ref v9, .int 0, .int 0, .int (-1), .ref v13, .int 0, .int 0, .int 0, .int 0, .int 0, .int 0, .int 0, .int 0, .int 0, .int 0, .int 0, .long 0, .int 0, .ref v27, .ref v28, .ref v29, .ref v30, .ref v31, .ref v32, .ref v33, .ref v34, .ref v35, .ref v36, .ref v37, .int 0])), (v0, .inl (cA 0, 326, .inl fs)), (v3, .inl (cA 0, 3260, .inl fh)), (v4, .inl (cA 1, 10, .inr (.inl fq)))] sz) [(w0, .inr (11, [.ref v0, .ref v1, .ref v2, .ref v3, .ref v4, .long 0, .long 0, .int 1, .int 0, .ref v9, .int 0, .int 0, .int (-1), .ref v13, .int 0, .int 0, .int 0, .int 0, .int 0, .int 0, .int 0, .int 0, .int 0, .int 0, .int 0, .long 0, .int 0, .ref v27, .ref v28, .ref v29, .ref v30, .ref v31, .ref v32, .ref v33, .ref v34, .ref v35, .ref v36, .ref v37, .int 0]))] t) (va_A [(w0, .inr (11, [.ref v0, .ref v1, .ref v2, .ref v3, .ref v4, .long 0, .long 0, .int 0, .int th, .ref v9, .int 0, .int 0, .int (-1), .ref v13, .int 0, .int 0, .int 0, .int 0, .int 0, .int 0, .int 0, .int 0, .int 0, .int 0, .int 0, .long 0, .int 0, .ref v27, .ref v28, .ref v29, .ref v30, .ref v31, .ref v32, .ref v33, .ref v34, .ref v35, .ref v36, .ref v37, .int 0])), (v0, .inl (cA 0, 326, .inl fs)), (v3, .inl (cA 0, 3260, .inl fh)), (v4, .inl (cA 1, 10, .inr (.inl fq)))] sz)) 0 0 (va_A [(w0, .inr (11, [.ref v0, .ref v1, .ref v2, .ref v3, .ref v4, .long 0, .long 0, .int 0, .int th, .ref v9, .int 0, .int 0, .int (-1), .ref v13, .int 0, .int 0, .int 0, .int 0, .int 0, .int 0, .int 0, .int 0, .int 0, .int 0, .int 0, .long 0, .int 0, .ref v27, .ref v28, .ref v29, .ref v30, .ref v31, .ref v32, .ref v33, .ref v34, .ref v35, .ref v36, .ref v37, .int 0])), (v0, .inl (cA 0, 326, .inl fs)), (v3, .inl (cA 0, 3260, .inl fh)), (v4, .inl (cA 1, 10, .inr (.inl fq)))] sz) := by
  refine Met.ofW (cc := cX10_pass) (maxL := 3) (ret := (some .int)) (by decide) rfl ?_
  intro p e s m args below meth c s₁ B hml hv
  obtain ⟨rfl, hsz, hP, hK, hD0, hC, hZ⟩ := hv
  have hx := B.exec
  have hb := B.bytes
  have hr := B.returns
  have hts := atoms_spec (ws := wsX10_pass) B.pre
  have hown : s.vm.findClass RX10 = some m.cls := findClass_of_methodNamed B.named
  have hlocks := B.notSynchronized
  subst hsz
  have hD := hD0.self (sz := s.heap.size)
  generalize hAe : va_A [(w0, .inr (11, [.ref v0, .ref v1, .ref v2, .ref v3, .ref v4, .long 0, .long 0, .int 0, .int th, .ref v9, .int 0, .int 0, .int (-1), .ref v13, .int 0, .int 0, .int 0, .int 0, .int 0, .int 0, .int 0, .int 0, .int 0, .int 0, .int 0, .long 0, .int 0, .ref v27, .ref v28, .ref v29, .ref v30, .ref v31, .ref v32, .ref v33, .ref v34, .ref v35, .ref v36, .ref v37, .int 0])), (v0, .inl (cA 0, 326, .inl fs)), (v3, .inl (cA 0, 3260, .inl fh)), (v4, .inl (cA 1, 10, .inr (.inl fq)))] s.heap.size = A at hD hZ ⊢
  have hA : ∀ q : Nat, s.heap.size ≤ q → A q := fun q h => by rw [← hAe]; exact Or.inr h
  have hS : va_S A s.heap s.heap [] := va_S.rf
  have hP : va_P D vwCl [(w0, .inr (11, [.ref v0, .ref v1, .ref v2, .ref v3, .ref v4, .long 0, .long 0, .int 0, .int th, .ref v9, .int 0, .int 0, .int (-1), .ref v13, .int 0, .int 0, .int 0, .int 0, .int 0, .int 0, .int 0, .int 0, .int 0, .int 0, .int 0, .long 0, .int 0, .ref v27, .ref v28, .ref v29, .ref v30, .ref v31, .ref v32, .ref v33, .ref v34, .ref v35, .ref v36, .ref v37, .int 0])), (v0, .inl (cA 0, 326, .inl fs)), (v3, .inl (cA 0, 3260, .inl fh)), (v4, .inl (cA 1, 10, .inr (.inl fq)))] s.heap := hP
  have hl := lv_entry ([.ref w0, .int (nI N)]) (n := 3) (Nat.le_of_ble_eq_true rfl)
  rw [lg_entry_eq]
  generalize (lg_sl ([.ref w0, .int (nI N)]) ++ List.replicate (3 - (lg_sl ([.ref w0, .int (nI N)])).length) Slot.unset).toArray = ls at hl ⊢
  have hl : lv_has ls 3 [(0, .ref w0), (1, .int (nI N))] := hl
  have inX10 : ∀ w ∈ u_ws RX10 TX10 39, w ∈ wsX10_pass := by decide +kernel
  refine lv_aload_n hx hb dX10_pass_0 rfl (lv_at hl 0 rfl) ?_
  refine lv_iload_n hx hb dX10_pass_1 rfl (lv_at hl 1 rfl) ?_
  have hPc := hP.sub (ws' := []) [] rfl
  have hDc := hD.sub (ws' := []) [] (by decide) rfl
  have hFc := va_free (wc := []) hD hS hA [] rfl
  refine va_calli (va_runS (As := [.int (nI N)]) (rest := [.ref w0]) ⟨hx, hb, hml, hown, hts⟩ (c_m_isTrial_t l D cA sa (nI N) s.heap.size (nI_nlt (b := 1) hN1 (by omega)) (nI_nlt (a := 120) hN (by decide))) (va_cwS 1 hts gX10_pass_X10_isTrial rfl rfl rfl (by decide +kernel) ⟨(Nat.le_of_ble_eq_true rfl), (Nat.le_of_ble_eq_true rfl)⟩) ⟨Wd.blind, fun U hU hW => ⟨rfl, Wd.call hPc hDc hK hC hZ hS hFc U hU hW⟩⟩ rfl rfl hl.1 rfl (lv_room (Nat.le_of_ble_eq_true rfl)) dX10_pass_2 ⟨(Nat.le_of_ble_eq_true rfl), (Nat.le_of_ble_eq_true rfl)⟩) hS (fun q _ h => hFc q h) hFc (fun rn1 u t H1 locs ht hvm hw hB hz1 hk1 hS => ?_)
  obtain ⟨hP1, hD1⟩ := hB
  rw [ht] at hP1
  obtain ⟨hP, hD⟩ := va_join (wr := [(w0, .inr (11, [.ref v0, .ref v1, .ref v2, .ref v3, .ref v4, .long 0, .long 0, .int 0, .int th, .ref v9, .int 0, .int 0, .int (-1), .ref v13, .int 0, .int 0, .int 0, .int 0, .int 0, .int 0, .int 0, .int 0, .int 0, .int 0, .int 0, .long 0, .int 0, .ref v27, .ref v28, .ref v29, .ref v30, .ref v31, .ref v32, .ref v33, .ref v34, .ref v35, .ref v36, .ref v37, .int 0])), (v0, .inl (cA 0, 326, .inl fs)), (v3, .inl (cA 0, 3260, .inl fh)), (v4, .inl (cA 1, 10, .inr (.inl fq)))]) (w1 := []) hP hD [] [0, 1, 2, 3] rfl rfl (by decide) (by decide) hk1 hFc hP1 hD1
  generalize H1 = H at hP hS ⊢
  have hP : va_P D vwCl [(w0, .inr (11, [.ref v0, .ref v1, .ref v2, .ref v3, .ref v4, .long 0, .long 0, .int 0, .int th, .ref v9, .int 0, .int 0, .int (-1), .ref v13, .int 0, .int 0, .int 0, .int 0, .int 0, .int 0, .int 0, .int 0, .int 0, .int 0, .int 0, .long 0, .int 0, .ref v27, .ref v28, .ref v29, .ref v30, .ref v31, .ref v32, .ref v33, .ref v34, .ref v35, .ref v36, .ref v37, .int 0])), (v0, .inl (cA 0, 326, .inl fs)), (v3, .inl (cA 0, 3260, .inl fh)), (v4, .inl (cA 1, 10, .inr (.inl fq)))] H := hP
  have hD : va_D A [(w0, .inr (11, [.ref v0, .ref v1, .ref v2, .ref v3, .ref v4, .long 0, .long 0, .int 0, .int th, .ref v9, .int 0, .int 0, .int (-1), .ref v13, .int 0, .int 0, .int 0, .int 0, .int 0, .int 0, .int 0, .int 0, .int 0, .int 0, .int 0, .long 0, .int 0, .ref v27, .ref v28, .ref v29, .ref v30, .ref v31, .ref v32, .ref v33, .ref v34, .ref v35, .ref v36, .ref v37, .int 0])), (v0, .inl (cA 0, 326, .inl fs)), (v3, .inl (cA 0, 3260, .inl fh)), (v4, .inl (cA 1, 10, .inr (.inl fq)))] := hD
  obtain rfl : rn1 = 1 := hw
  refine lv_aload_n hx hb dX10_pass_5 rfl (lv_at hl 0 rfl) ?_
  refine va_get (D := D) (ci := 11) (v := .ref v0) (C := RX10) (T := TX10) (N := 39) hx hb hts inX10 hown hK hP 0 rfl rfl 0 (by decide) (hts (.fieldLink RX10 7 "EscrowDeskModel" "s" "[I") (by decide +kernel)) (fun _ h9 => h9) rfl dX10_pass_6 ?_
  refine lv_iconst (v := 4) hx hb dX10_pass_9 (by decide) ?_
  refine va_iald hx hb hK hP 1 0 rfl rfl (vp_in_iff.mpr (by decide)) dX10_pass_10 ?_
  refine lv_topi (fun yn2 eyn2 => ?_)
  obtain rfl : yn2 = 0 := eyn2.trans (hz.2 4 (by decide) (by decide))
  refine lv_iload_n hx hb dX10_pass_11 rfl (lv_at hl 1 rfl) ?_
  refine lv_iadd hx hb dX10_pass_12 ?_
  refine lv_sipush (v := 9999) hx hb dX10_pass_13 (by decide) ?_
  refine lv_icmp_gt (tgt := 23) hx hb dX10_pass_16 (by decide) (fun c9 => absurd c9 (pass_le hN)) (fun c4 => ?_)
  refine lv_iconst (v := 1) hx hb dX10_pass_19 (by decide) ?_
  refine lv_goto (tgt := 24) hx hb dX10_pass_20 (by decide) ?_
  have hPc := hP.sub (ws' := [(w0, .inr (11, [.ref v0, .ref v1, .ref v2, .ref v3, .ref v4, .long 0, .long 0, .int 0, .int th, .ref v9, .int 0, .int 0, .int (-1), .ref v13, .int 0, .int 0, .int 0, .int 0, .int 0, .int 0, .int 0, .int 0, .int 0, .int 0, .int 0, .long 0, .int 0, .ref v27, .ref v28, .ref v29, .ref v30, .ref v31, .ref v32, .ref v33, .ref v34, .ref v35, .ref v36, .ref v37, .int 0]))]) [0] rfl
  have hDc := hD.sub (ws' := [(w0, .inr (11, [.ref v0, .ref v1, .ref v2, .ref v3, .ref v4, .long 0, .long 0, .int 0, .int th, .ref v9, .int 0, .int 0, .int (-1), .ref v13, .int 0, .int 0, .int 0, .int 0, .int 0, .int 0, .int 0, .int 0, .int 0, .int 0, .int 0, .long 0, .int 0, .ref v27, .ref v28, .ref v29, .ref v30, .ref v31, .ref v32, .ref v33, .ref v34, .ref v35, .ref v36, .ref v37, .int 0]))]) [0] (by decide) rfl
  have hFc := va_free (wc := [(w0, .inr (11, [.ref v0, .ref v1, .ref v2, .ref v3, .ref v4, .long 0, .long 0, .int 0, .int th, .ref v9, .int 0, .int 0, .int (-1), .ref v13, .int 0, .int 0, .int 0, .int 0, .int 0, .int 0, .int 0, .int 0, .int 0, .int 0, .int 0, .long 0, .int 0, .ref v27, .ref v28, .ref v29, .ref v30, .ref v31, .ref v32, .ref v33, .ref v34, .ref v35, .ref v36, .ref v37, .int 0]))]) hD hS hA [0] rfl
  refine va_calli (va_runV (As := [.int 1, .int 1]) (rest := []) ⟨hx, hb, hml, hown, hts⟩ (c_m_good2_11 l D cA sa w0 v0 v1 v2 v3 v4 v9 v13 v27 v28 v29 v30 v31 v32 v33 v34 v35 v36 v37 th H.size) (cwV 2 hts gX10_pass_X10_good_ rfl rfl rfl (by decide +kernel) ⟨(Nat.le_of_ble_eq_true rfl), (Nat.le_of_ble_eq_true rfl)⟩) ⟨Wd.blind, va_recv hK hPc (ci := 11) (q0 := 0) rfl rfl, fun U hU hW => ⟨rfl, Wd.call hPc hDc hK hC hZ hS hFc U hU hW⟩⟩ rfl rfl hl.1 rfl (lv_room (Nat.le_of_ble_eq_true rfl)) dX10_pass_24 ⟨(Nat.le_of_ble_eq_true rfl), (Nat.le_of_ble_eq_true rfl)⟩) hS (fun q _ h => hFc q h) hFc (fun rn5 u t H1 locs ht hvm hw hB hz1 hk1 hS => ?_)
  obtain ⟨hP1, hD1⟩ := hB
  rw [ht] at hP1
  obtain ⟨hP, hD⟩ := va_join (wr := [(v0, .inl (cA 0, 326, .inl fs)), (v3, .inl (cA 0, 3260, .inl fh)), (v4, .inl (cA 1, 10, .inr (.inl fq)))]) (w1 := [(w0, .inr (11, [.ref v0, .ref v1, .ref v2, .ref v3, .ref v4, .long 0, .long 0, .int 0, .int 0, .ref v9, .int 0, .int 0, .int (-1), .ref v13, .int 0, .int 0, .int 0, .int 0, .int 0, .int 0, .int 0, .int 0, .int 0, .int 0, .int 0, .long 0, .int 0, .ref v27, .ref v28, .ref v29, .ref v30, .ref v31, .ref v32, .ref v33, .ref v34, .ref v35, .ref v36, .ref v37, .int 0]))]) hP hD [0] [1, 2, 3] rfl rfl (by decide) (by decide) hk1 hFc hP1 hD1
  generalize H1 = H at hP hS ⊢
  have hP : va_P D vwCl [(v0, .inl (cA 0, 326, .inl fs)), (v3, .inl (cA 0, 3260, .inl fh)), (v4, .inl (cA 1, 10, .inr (.inl fq))), (w0, .inr (11, [.ref v0, .ref v1, .ref v2, .ref v3, .ref v4, .long 0, .long 0, .int 0, .int 0, .ref v9, .int 0, .int 0, .int (-1), .ref v13, .int 0, .int 0, .int 0, .int 0, .int 0, .int 0, .int 0, .int 0, .int 0, .int 0, .int 0, .long 0, .int 0, .ref v27, .ref v28, .ref v29, .ref v30, .ref v31, .ref v32, .ref v33, .ref v34, .ref v35, .ref v36, .ref v37, .int 0]))] H := hP
  have hD : va_D A [(v0, .inl (cA 0, 326, .inl fs)), (v3, .inl (cA 0, 3260, .inl fh)), (v4, .inl (cA 1, 10, .inr (.inl fq))), (w0, .inr (11, [.ref v0, .ref v1, .ref v2, .ref v3, .ref v4, .long 0, .long 0, .int 0, .int 0, .ref v9, .int 0, .int 0, .int (-1), .ref v13, .int 0, .int 0, .int 0, .int 0, .int 0, .int 0, .int 0, .int 0, .int 0, .int 0, .int 0, .long 0, .int 0, .ref v27, .ref v28, .ref v29, .ref v30, .ref v31, .ref v32, .ref v33, .ref v34, .ref v35, .ref v36, .ref v37, .int 0]))] := hD
  obtain rfl : rn5 = 1 := hw
  refine lv_if_ne (tgt := 32) hx hb dX10_pass_27 (by decide) (fun c6 => ?_) (fun c9 => absurd c9 (by decide))
  refine lv_aload_n hx hb dX10_pass_32 rfl (lv_at hl 0 rfl) ?_
  have hPc := hP.sub (ws' := [(w0, .inr (11, [.ref v0, .ref v1, .ref v2, .ref v3, .ref v4, .long 0, .long 0, .int 0, .int 0, .ref v9, .int 0, .int 0, .int (-1), .ref v13, .int 0, .int 0, .int 0, .int 0, .int 0, .int 0, .int 0, .int 0, .int 0, .int 0, .int 0, .long 0, .int 0, .ref v27, .ref v28, .ref v29, .ref v30, .ref v31, .ref v32, .ref v33, .ref v34, .ref v35, .ref v36, .ref v37, .int 0])), (v0, .inl (cA 0, 326, .inl fs)), (v3, .inl (cA 0, 3260, .inl fh)), (v4, .inl (cA 1, 10, .inr (.inl fq)))]) [3, 0, 1, 2] rfl
  have hDc := hD.sub (ws' := [(w0, .inr (11, [.ref v0, .ref v1, .ref v2, .ref v3, .ref v4, .long 0, .long 0, .int 0, .int 0, .ref v9, .int 0, .int 0, .int (-1), .ref v13, .int 0, .int 0, .int 0, .int 0, .int 0, .int 0, .int 0, .int 0, .int 0, .int 0, .int 0, .long 0, .int 0, .ref v27, .ref v28, .ref v29, .ref v30, .ref v31, .ref v32, .ref v33, .ref v34, .ref v35, .ref v36, .ref v37, .int 0])), (v0, .inl (cA 0, 326, .inl fs)), (v3, .inl (cA 0, 3260, .inl fh)), (v4, .inl (cA 1, 10, .inr (.inl fq)))]) [3, 0, 1, 2] (by decide) rfl
  have hFc := va_free (wc := [(w0, .inr (11, [.ref v0, .ref v1, .ref v2, .ref v3, .ref v4, .long 0, .long 0, .int 0, .int 0, .ref v9, .int 0, .int 0, .int (-1), .ref v13, .int 0, .int 0, .int 0, .int 0, .int 0, .int 0, .int 0, .int 0, .int 0, .int 0, .int 0, .long 0, .int 0, .ref v27, .ref v28, .ref v29, .ref v30, .ref v31, .ref v32, .ref v33, .ref v34, .ref v35, .ref v36, .ref v37, .int 0])), (v0, .inl (cA 0, 326, .inl fs)), (v3, .inl (cA 0, 3260, .inl fh)), (v4, .inl (cA 1, 10, .inr (.inl fq)))]) hD hS hA [3, 0, 1, 2] rfl
  refine va_callv (va_runV (As := []) (rest := []) ⟨hx, hb, hml, hown, hts⟩ (c_m_remember l D cA sa w0 v0 v1 v2 v3 v4 v9 v13 v27 v28 v29 v30 v31 v32 v33 v34 v35 v36 v37 0 fs fh fq H.size) (cwV 0 hts gX10_pass_X10_remember rfl rfl rfl (by decide +kernel) ⟨(Nat.le_of_ble_eq_true rfl), (Nat.le_of_ble_eq_true rfl)⟩) ⟨Wd.blind, va_recv hK hPc (ci := 11) (q0 := 0) rfl rfl, fun U hU hW => ⟨rfl, Wd.call hPc hDc hK hC hZ hS hFc U hU hW⟩⟩ rfl rfl hl.1 rfl (lv_room (Nat.le_of_ble_eq_true rfl)) dX10_pass_33 ⟨(Nat.le_of_ble_eq_true rfl), (Nat.le_of_ble_eq_true rfl)⟩) hS (fun q _ h => hFc q h) hFc (fun u t H1 locs ht hvm hw hB hz1 hk1 hS => ?_)
  obtain ⟨hP1, hD1⟩ := hB
  rw [ht] at hP1
  obtain ⟨hP, hD⟩ := va_join (wr := []) (w1 := [(w0, .inr (11, [.ref v0, .ref v1, .ref v2, .ref v3, .ref v4, .long 0, .long 0, .int 1, .int 0, .ref v9, .int 0, .int 0, .int (-1), .ref v13, .int 0, .int 0, .int 0, .int 0, .int 0, .int 0, .int 0, .int 0, .int 0, .int 0, .int 0, .long 0, .int 0, .ref v27, .ref v28, .ref v29, .ref v30, .ref v31, .ref v32, .ref v33, .ref v34, .ref v35, .ref v36, .ref v37, .int 0])), (v0, .inl (cA 0, 326, .inl fs))]) hP hD [3, 0, 1, 2] [] rfl rfl (by decide) (by decide) hk1 hFc hP1 hD1
  generalize H1 = H at hP hS ⊢
  have hP : va_P D vwCl [(w0, .inr (11, [.ref v0, .ref v1, .ref v2, .ref v3, .ref v4, .long 0, .long 0, .int 1, .int 0, .ref v9, .int 0, .int 0, .int (-1), .ref v13, .int 0, .int 0, .int 0, .int 0, .int 0, .int 0, .int 0, .int 0, .int 0, .int 0, .int 0, .long 0, .int 0, .ref v27, .ref v28, .ref v29, .ref v30, .ref v31, .ref v32, .ref v33, .ref v34, .ref v35, .ref v36, .ref v37, .int 0])), (v0, .inl (cA 0, 326, .inl fs))] H := hP
  have hD : va_D A [(w0, .inr (11, [.ref v0, .ref v1, .ref v2, .ref v3, .ref v4, .long 0, .long 0, .int 1, .int 0, .ref v9, .int 0, .int 0, .int (-1), .ref v13, .int 0, .int 0, .int 0, .int 0, .int 0, .int 0, .int 0, .int 0, .int 0, .int 0, .int 0, .long 0, .int 0, .ref v27, .ref v28, .ref v29, .ref v30, .ref v31, .ref v32, .ref v33, .ref v34, .ref v35, .ref v36, .ref v37, .int 0])), (v0, .inl (cA 0, 326, .inl fs))] := hD
  refine lv_aload_n hx hb dX10_pass_36 rfl (lv_at hl 0 rfl) ?_
  refine va_get (D := D) (ci := 11) (v := .ref v0) (C := RX10) (T := TX10) (N := 39) hx hb hts inX10 hown hK hP 0 rfl rfl 0 (by decide) (hts (.fieldLink RX10 7 "EscrowDeskModel" "s" "[I") (by decide +kernel)) (fun _ h9 => h9) rfl dX10_pass_37 ?_
  refine lv_bipush (v := 10) hx hb dX10_pass_40 (by decide) ?_
  refine va_iald hx hb hK hP 1 0 rfl rfl (vp_in_iff.mpr (by decide)) dX10_pass_42 ?_
  refine lv_topi (fun yn7 eyn7 => ?_)
  obtain rfl : yn7 = 0 := eyn7.trans (hz.2 10 (by decide) (by decide))
  refine lv_istore_n (lv' := [(2, .int 0), (0, .ref w0), (1, .int (nI N))]) hx hb dX10_pass_43 rfl hl (by decide) rfl (fun ls hl => ?_)
  refine lv_aload_n hx hb dX10_pass_44 rfl (lv_at hl 1 rfl) ?_
  refine lv_iload_n hx hb dX10_pass_45 rfl (lv_at hl 2 rfl) ?_
  have hPc := hP.sub (ws' := [(w0, .inr (11, [.ref v0, .ref v1, .ref v2, .ref v3, .ref v4, .long 0, .long 0, .int 1, .int 0, .ref v9, .int 0, .int 0, .int (-1), .ref v13, .int 0, .int 0, .int 0, .int 0, .int 0, .int 0, .int 0, .int 0, .int 0, .int 0, .int 0, .long 0, .int 0, .ref v27, .ref v28, .ref v29, .ref v30, .ref v31, .ref v32, .ref v33, .ref v34, .ref v35, .ref v36, .ref v37, .int 0])), (v0, .inl (cA 0, 326, .inl fs))]) [0, 1] rfl
  have hDc := hD.sub (ws' := [(w0, .inr (11, [.ref v0, .ref v1, .ref v2, .ref v3, .ref v4, .long 0, .long 0, .int 1, .int 0, .ref v9, .int 0, .int 0, .int (-1), .ref v13, .int 0, .int 0, .int 0, .int 0, .int 0, .int 0, .int 0, .int 0, .int 0, .int 0, .int 0, .long 0, .int 0, .ref v27, .ref v28, .ref v29, .ref v30, .ref v31, .ref v32, .ref v33, .ref v34, .ref v35, .ref v36, .ref v37, .int 0])), (v0, .inl (cA 0, 326, .inl fs))]) [0, 1] (by decide) rfl
  have hFc := va_free (wc := [(w0, .inr (11, [.ref v0, .ref v1, .ref v2, .ref v3, .ref v4, .long 0, .long 0, .int 1, .int 0, .ref v9, .int 0, .int 0, .int (-1), .ref v13, .int 0, .int 0, .int 0, .int 0, .int 0, .int 0, .int 0, .int 0, .int 0, .int 0, .int 0, .long 0, .int 0, .ref v27, .ref v28, .ref v29, .ref v30, .ref v31, .ref v32, .ref v33, .ref v34, .ref v35, .ref v36, .ref v37, .int 0])), (v0, .inl (cA 0, 326, .inl fs))]) hD hS hA [0, 1] rfl
  refine va_callv (va_runV (As := [.int (nI N)]) (rest := []) ⟨hx, hb, hml, hown, hts⟩ (c_m_passDays1 l D cA sa w0 v0 v1 v2 v3 v4 v9 v13 v27 v28 v29 v30 v31 v32 v33 v34 v35 v36 v37 N 0 fs H.size hz.d hN) (cwV 1 hts gX10_pass_X10_passDays rfl rfl rfl (by decide +kernel) ⟨(Nat.le_of_ble_eq_true rfl), (Nat.le_of_ble_eq_true rfl)⟩) ⟨Wd.blind, va_recv hK hPc (ci := 11) (q0 := 0) rfl rfl, fun U hU hW => ⟨rfl, Wd.call hPc hDc hK hC hZ hS hFc U hU hW⟩⟩ rfl rfl hl.1 rfl (lv_room (Nat.le_of_ble_eq_true rfl)) dX10_pass_46 ⟨(Nat.le_of_ble_eq_true rfl), (Nat.le_of_ble_eq_true rfl)⟩) hS (fun q _ h => hFc q h) hFc (fun u t H1 locs ht hvm hw hB hz1 hk1 hS => ?_)
  obtain ⟨fn8, hn9, hP1, hD1⟩ := hB
  rw [ht] at hP1
  obtain ⟨hP, hD⟩ := va_join (wr := []) (w1 := [(w0, .inr (11, [.ref v0, .ref v1, .ref v2, .ref v3, .ref v4, .long 0, .long 0, .int 1, .int 0, .ref v9, .int 0, .int 0, .int (-1), .ref v13, .int 0, .int 0, .int 0, .int 0, .int 0, .int 0, .int 0, .int 0, .int 0, .int 0, .int 0, .long 0, .int 0, .ref v27, .ref v28, .ref v29, .ref v30, .ref v31, .ref v32, .ref v33, .ref v34, .ref v35, .ref v36, .ref v37, .int 0])), (v0, .inl (cA 0, 326, .inl fn8))]) hP hD [0, 1] [] rfl rfl (by decide) (by decide) hk1 hFc hP1 hD1
  generalize H1 = H at hP hS ⊢
  have hP : va_P D vwCl [(w0, .inr (11, [.ref v0, .ref v1, .ref v2, .ref v3, .ref v4, .long 0, .long 0, .int 1, .int 0, .ref v9, .int 0, .int 0, .int (-1), .ref v13, .int 0, .int 0, .int 0, .int 0, .int 0, .int 0, .int 0, .int 0, .int 0, .int 0, .int 0, .long 0, .int 0, .ref v27, .ref v28, .ref v29, .ref v30, .ref v31, .ref v32, .ref v33, .ref v34, .ref v35, .ref v36, .ref v37, .int 0])), (v0, .inl (cA 0, 326, .inl fn8))] H := hP
  have hD : va_D A [(w0, .inr (11, [.ref v0, .ref v1, .ref v2, .ref v3, .ref v4, .long 0, .long 0, .int 1, .int 0, .ref v9, .int 0, .int 0, .int (-1), .ref v13, .int 0, .int 0, .int 0, .int 0, .int 0, .int 0, .int 0, .int 0, .int 0, .int 0, .int 0, .long 0, .int 0, .ref v27, .ref v28, .ref v29, .ref v30, .ref v31, .ref v32, .ref v33, .ref v34, .ref v35, .ref v36, .ref v37, .int 0])), (v0, .inl (cA 0, 326, .inl fn8))] := hD
  refine lv_aload_n hx hb dX10_pass_49 rfl (lv_at hl 1 rfl) ?_
  refine va_get (D := D) (ci := 11) (v := .ref v0) (C := RX10) (T := TX10) (N := 39) hx hb hts inX10 hown hK hP 0 rfl rfl 0 (by decide) (hts (.fieldLink RX10 7 "EscrowDeskModel" "s" "[I") (by decide +kernel)) (fun _ h9 => h9) rfl dX10_pass_50 ?_
  refine lv_bipush (v := 10) hx hb dX10_pass_53 (by decide) ?_
  refine va_iald hx hb hK hP 1 0 rfl rfl (vp_in_iff.mpr (by decide)) dX10_pass_55 ?_
  refine lv_topi (fun yn10 eyn10 => ?_)
  obtain rfl : yn10 = 0 := eyn10.trans (hn9.2 10 (by decide) (by decide) (by decide))
  refine lv_iload_n hx hb dX10_pass_56 rfl (lv_at hl 0 rfl) ?_
  refine lv_isub hx hb dX10_pass_57 ?_
  refine lv_topi (fun yn11 eyn11 => ?_)
  obtain rfl : yn11 = 0 := eyn11.trans (by first | rfl | decide +kernel)
  have hP9 := hP.sub (ws' := [(w0, .inr (11, [.ref v0, .ref v1, .ref v2, .ref v3, .ref v4, .long 0, .long 0, .int 1, .int 0, .ref v9, .int 0, .int 0, .int (-1), .ref v13, .int 0, .int 0, .int 0, .int 0, .int 0, .int 0, .int 0, .int 0, .int 0, .int 0, .int 0, .long 0, .int 0, .ref v27, .ref v28, .ref v29, .ref v30, .ref v31, .ref v32, .ref v33, .ref v34, .ref v35, .ref v36, .ref v37, .int 0]))]) [0] rfl
  have hD9 := hD.sub (ws' := [(w0, .inr (11, [.ref v0, .ref v1, .ref v2, .ref v3, .ref v4, .long 0, .long 0, .int 1, .int 0, .ref v9, .int 0, .int 0, .int (-1), .ref v13, .int 0, .int 0, .int 0, .int 0, .int 0, .int 0, .int 0, .int 0, .int 0, .int 0, .int 0, .long 0, .int 0, .ref v27, .ref v28, .ref v29, .ref v30, .ref v31, .ref v32, .ref v33, .ref v34, .ref v35, .ref v36, .ref v37, .int 0]))]) [0] (by decide) rfl
  refine W.widen (k := 0) (n := 0) (Nat.le_of_ble_eq_true rfl) (Nat.le_of_ble_eq_true rfl) ?_
  exact W.iret (v := 0) hx hb hr (fun t ht hW => ⟨⟨0, (), rfl, rfl, by rw [ht]; exact hP9, hD9⟩, hS.F ht⟩) hS.2.2 dX10_pass_58

set_option maxHeartbeats 4000000 in
set_option maxRecDepth 100000 in
/-- pass outside -/
theorem c_m_pass_thr (l : Launch) (D : va_G) (cA : Nat → ClassId) (sa : Nat → Nat) (w0 v0 v1 v2 v3 v4 v9 v13 v27 v28 v29 v30 v31 v32 v33 v34 v35 v36 v37 : Nat) (th : Int32) (fs : Nat → Int32) (i : Int32) (sz : Nat) (hz : Zs fs) (h : i < 1 ∨ 120 < i) : Met l yX10_pass wsX10_pass ({ frames := 2, cells := 0, slots := 0, locals := 45 }) (va_Pc [.ref w0, .int i] (Wd D cA sa [(w0, .inr (11, [.ref v0, .ref v1, .ref v2, .ref v3, .ref v4, .long 0, .long 0, .int 0, .int th, .ref v9, .int 0, .int 0, .int (-1), .ref v13, .int 0, .int 0, .int 0, .int 0, .int 0, .int 0, .int 0, .int 0, .int 0, .int 0, .int 0, .long 0, .int 0, .ref v27, .ref v28, .ref v29, .ref v30, .ref v31, .ref v32, .ref v33, .ref v34, .ref v35, .ref v36, .ref v37, .int 0])), (v0, .inl (cA 0, 326, .inl fs))] sz)) (va_Qi (fun (r : Int32) (_ : Unit) => r = 0) (fun (_ : Unit) t => Wq D (va_A [(w0, .inr (11, [.ref v0, .ref v1, .ref v2, .ref v3, .ref v4, .long 0, .long 0, .int 0, .int th, .ref v9, .int 0, .int 0, .int (-1), .ref v13, .int 0, .int 0, .int 0, .int 0, .int 0, .int 0, .int 0, .int 0, .int 0, .int 0, .int 0, .long 0, .int 0, .ref v27, .ref v28, .ref v29, .ref v30, .ref v31, .ref v32, .ref v33, .ref v34, .ref v35, .ref v36, .ref v37, .int 0])), (v0, .inl (cA 0, 326, .inl fs))] sz) [(w0, .inr (11, [.ref v0, .ref v1, .ref v2, .ref v3, .ref v4, .long 0, .long 0, .int 0, .int 1, .ref v9, .int 0, .int 0, .int (-1), .ref v13, .int 0, .int 0, .int 0, .int 0, .int 0, .int 0, .int 0, .int 0, .int 0, .int 0, .int 0, .long 0, .int 0, .ref v27, .ref v28, .ref v29, .ref v30, .ref v31, .ref v32, .ref v33, .ref v34, .ref v35, .ref v36, .ref v37, .int 0]))] t) (va_A [(w0, .inr (11, [.ref v0, .ref v1, .ref v2, .ref v3, .ref v4, .long 0, .long 0, .int 0, .int th, .ref v9, .int 0, .int 0, .int (-1), .ref v13, .int 0, .int 0, .int 0, .int 0, .int 0, .int 0, .int 0, .int 0, .int 0, .int 0, .int 0, .long 0, .int 0, .ref v27, .ref v28, .ref v29, .ref v30, .ref v31, .ref v32, .ref v33, .ref v34, .ref v35, .ref v36, .ref v37, .int 0])), (v0, .inl (cA 0, 326, .inl fs))] sz)) 0 0 (va_A [(w0, .inr (11, [.ref v0, .ref v1, .ref v2, .ref v3, .ref v4, .long 0, .long 0, .int 0, .int th, .ref v9, .int 0, .int 0, .int (-1), .ref v13, .int 0, .int 0, .int 0, .int 0, .int 0, .int 0, .int 0, .int 0, .int 0, .int 0, .int 0, .long 0, .int 0, .ref v27, .ref v28, .ref v29, .ref v30, .ref v31, .ref v32, .ref v33, .ref v34, .ref v35, .ref v36, .ref v37, .int 0])), (v0, .inl (cA 0, 326, .inl fs))] sz) := by
  refine Met.ofW (cc := cX10_pass) (maxL := 3) (ret := (some .int)) (by decide) rfl ?_
  intro p e s m args below meth c s₁ B hml hv
  obtain ⟨rfl, hsz, hP, hK, hD0, hC, hZ⟩ := hv
  have hx := B.exec
  have hb := B.bytes
  have hr := B.returns
  have hts := atoms_spec (ws := wsX10_pass) B.pre
  have hown : s.vm.findClass RX10 = some m.cls := findClass_of_methodNamed B.named
  have hlocks := B.notSynchronized
  subst hsz
  have hD := hD0.self (sz := s.heap.size)
  generalize hAe : va_A [(w0, .inr (11, [.ref v0, .ref v1, .ref v2, .ref v3, .ref v4, .long 0, .long 0, .int 0, .int th, .ref v9, .int 0, .int 0, .int (-1), .ref v13, .int 0, .int 0, .int 0, .int 0, .int 0, .int 0, .int 0, .int 0, .int 0, .int 0, .int 0, .long 0, .int 0, .ref v27, .ref v28, .ref v29, .ref v30, .ref v31, .ref v32, .ref v33, .ref v34, .ref v35, .ref v36, .ref v37, .int 0])), (v0, .inl (cA 0, 326, .inl fs))] s.heap.size = A at hD hZ ⊢
  have hA : ∀ q : Nat, s.heap.size ≤ q → A q := fun q h => by rw [← hAe]; exact Or.inr h
  have hS : va_S A s.heap s.heap [] := va_S.rf
  have hP : va_P D vwCl [(w0, .inr (11, [.ref v0, .ref v1, .ref v2, .ref v3, .ref v4, .long 0, .long 0, .int 0, .int th, .ref v9, .int 0, .int 0, .int (-1), .ref v13, .int 0, .int 0, .int 0, .int 0, .int 0, .int 0, .int 0, .int 0, .int 0, .int 0, .int 0, .long 0, .int 0, .ref v27, .ref v28, .ref v29, .ref v30, .ref v31, .ref v32, .ref v33, .ref v34, .ref v35, .ref v36, .ref v37, .int 0])), (v0, .inl (cA 0, 326, .inl fs))] s.heap := hP
  have hl := lv_entry ([.ref w0, .int i]) (n := 3) (Nat.le_of_ble_eq_true rfl)
  rw [lg_entry_eq]
  generalize (lg_sl ([.ref w0, .int i]) ++ List.replicate (3 - (lg_sl ([.ref w0, .int i])).length) Slot.unset).toArray = ls at hl ⊢
  have hl : lv_has ls 3 [(0, .ref w0), (1, .int i)] := hl
  have inX10 : ∀ w ∈ u_ws RX10 TX10 39, w ∈ wsX10_pass := by decide +kernel
  refine lv_aload_n hx hb dX10_pass_0 rfl (lv_at hl 0 rfl) ?_
  refine lv_iload_n hx hb dX10_pass_1 rfl (lv_at hl 1 rfl) ?_
  have hPc := hP.sub (ws' := []) [] rfl
  have hDc := hD.sub (ws' := []) [] (by decide) rfl
  have hFc := va_free (wc := []) hD hS hA [] rfl
  refine va_calli (va_runS (As := [.int i]) (rest := [.ref w0]) ⟨hx, hb, hml, hown, hts⟩ (c_m_isTrial_f l D cA sa i s.heap.size h) (va_cwS 1 hts gX10_pass_X10_isTrial rfl rfl rfl (by decide +kernel) ⟨(Nat.le_of_ble_eq_true rfl), (Nat.le_of_ble_eq_true rfl)⟩) ⟨Wd.blind, fun U hU hW => ⟨rfl, Wd.call hPc hDc hK hC hZ hS hFc U hU hW⟩⟩ rfl rfl hl.1 rfl (lv_room (Nat.le_of_ble_eq_true rfl)) dX10_pass_2 ⟨(Nat.le_of_ble_eq_true rfl), (Nat.le_of_ble_eq_true rfl)⟩) hS (fun q _ h => hFc q h) hFc (fun rn1 u t H1 locs ht hvm hw hB hz1 hk1 hS => ?_)
  obtain ⟨hP1, hD1⟩ := hB
  rw [ht] at hP1
  obtain ⟨hP, hD⟩ := va_join (wr := [(w0, .inr (11, [.ref v0, .ref v1, .ref v2, .ref v3, .ref v4, .long 0, .long 0, .int 0, .int th, .ref v9, .int 0, .int 0, .int (-1), .ref v13, .int 0, .int 0, .int 0, .int 0, .int 0, .int 0, .int 0, .int 0, .int 0, .int 0, .int 0, .long 0, .int 0, .ref v27, .ref v28, .ref v29, .ref v30, .ref v31, .ref v32, .ref v33, .ref v34, .ref v35, .ref v36, .ref v37, .int 0])), (v0, .inl (cA 0, 326, .inl fs))]) (w1 := []) hP hD [] [0, 1] rfl rfl (by decide) (by decide) hk1 hFc hP1 hD1
  generalize H1 = H at hP hS ⊢
  have hP : va_P D vwCl [(w0, .inr (11, [.ref v0, .ref v1, .ref v2, .ref v3, .ref v4, .long 0, .long 0, .int 0, .int th, .ref v9, .int 0, .int 0, .int (-1), .ref v13, .int 0, .int 0, .int 0, .int 0, .int 0, .int 0, .int 0, .int 0, .int 0, .int 0, .int 0, .long 0, .int 0, .ref v27, .ref v28, .ref v29, .ref v30, .ref v31, .ref v32, .ref v33, .ref v34, .ref v35, .ref v36, .ref v37, .int 0])), (v0, .inl (cA 0, 326, .inl fs))] H := hP
  have hD : va_D A [(w0, .inr (11, [.ref v0, .ref v1, .ref v2, .ref v3, .ref v4, .long 0, .long 0, .int 0, .int th, .ref v9, .int 0, .int 0, .int (-1), .ref v13, .int 0, .int 0, .int 0, .int 0, .int 0, .int 0, .int 0, .int 0, .int 0, .int 0, .int 0, .long 0, .int 0, .ref v27, .ref v28, .ref v29, .ref v30, .ref v31, .ref v32, .ref v33, .ref v34, .ref v35, .ref v36, .ref v37, .int 0])), (v0, .inl (cA 0, 326, .inl fs))] := hD
  obtain rfl : rn1 = 0 := hw
  refine lv_aload_n hx hb dX10_pass_5 rfl (lv_at hl 0 rfl) ?_
  refine va_get (D := D) (ci := 11) (v := .ref v0) (C := RX10) (T := TX10) (N := 39) hx hb hts inX10 hown hK hP 0 rfl rfl 0 (by decide) (hts (.fieldLink RX10 7 "EscrowDeskModel" "s" "[I") (by decide +kernel)) (fun _ h9 => h9) rfl dX10_pass_6 ?_
  refine lv_iconst (v := 4) hx hb dX10_pass_9 (by decide) ?_
  refine va_iald hx hb hK hP 1 0 rfl rfl (vp_in_iff.mpr (by decide)) dX10_pass_10 ?_
  refine lv_topi (fun yn2 eyn2 => ?_)
  obtain rfl : yn2 = 0 := eyn2.trans (hz.2 4 (by decide) (by decide))
  refine lv_iload_n hx hb dX10_pass_11 rfl (lv_at hl 1 rfl) ?_
  refine lv_iadd hx hb dX10_pass_12 ?_
  refine lv_sipush (v := 9999) hx hb dX10_pass_13 (by decide) ?_
  refine lv_icmp_gt (tgt := 23) hx hb dX10_pass_16 (by decide) (fun c4 => ?_) (fun c4 => ?_)
  · skip
    refine lv_iconst (v := 0) hx hb dX10_pass_23 (by decide) ?_
    have hPc := hP.sub (ws' := [(w0, .inr (11, [.ref v0, .ref v1, .ref v2, .ref v3, .ref v4, .long 0, .long 0, .int 0, .int th, .ref v9, .int 0, .int 0, .int (-1), .ref v13, .int 0, .int 0, .int 0, .int 0, .int 0, .int 0, .int 0, .int 0, .int 0, .int 0, .int 0, .long 0, .int 0, .ref v27, .ref v28, .ref v29, .ref v30, .ref v31, .ref v32, .ref v33, .ref v34, .ref v35, .ref v36, .ref v37, .int 0]))]) [0] rfl
    have hDc := hD.sub (ws' := [(w0, .inr (11, [.ref v0, .ref v1, .ref v2, .ref v3, .ref v4, .long 0, .long 0, .int 0, .int th, .ref v9, .int 0, .int 0, .int (-1), .ref v13, .int 0, .int 0, .int 0, .int 0, .int 0, .int 0, .int 0, .int 0, .int 0, .int 0, .int 0, .long 0, .int 0, .ref v27, .ref v28, .ref v29, .ref v30, .ref v31, .ref v32, .ref v33, .ref v34, .ref v35, .ref v36, .ref v37, .int 0]))]) [0] (by decide) rfl
    have hFc := va_free (wc := [(w0, .inr (11, [.ref v0, .ref v1, .ref v2, .ref v3, .ref v4, .long 0, .long 0, .int 0, .int th, .ref v9, .int 0, .int 0, .int (-1), .ref v13, .int 0, .int 0, .int 0, .int 0, .int 0, .int 0, .int 0, .int 0, .int 0, .int 0, .int 0, .long 0, .int 0, .ref v27, .ref v28, .ref v29, .ref v30, .ref v31, .ref v32, .ref v33, .ref v34, .ref v35, .ref v36, .ref v37, .int 0]))]) hD hS hA [0] rfl
    refine va_calli (va_runV (As := [.int 0, .int 0]) (rest := []) ⟨hx, hb, hml, hown, hts⟩ (c_m_good2_0 l D cA sa w0 v0 v1 v2 v3 v4 v9 v13 v27 v28 v29 v30 v31 v32 v33 v34 v35 v36 v37 th 0 H.size) (cwV 2 hts gX10_pass_X10_good_ rfl rfl rfl (by decide +kernel) ⟨(Nat.le_of_ble_eq_true rfl), (Nat.le_of_ble_eq_true rfl)⟩) ⟨Wd.blind, va_recv hK hPc (ci := 11) (q0 := 0) rfl rfl, fun U hU hW => ⟨rfl, Wd.call hPc hDc hK hC hZ hS hFc U hU hW⟩⟩ rfl rfl hl.1 rfl (lv_room (Nat.le_of_ble_eq_true rfl)) dX10_pass_24 ⟨(Nat.le_of_ble_eq_true rfl), (Nat.le_of_ble_eq_true rfl)⟩) hS (fun q _ h => hFc q h) hFc (fun rn5 u t H1 locs ht hvm hw hB hz1 hk1 hS => ?_)
    obtain ⟨hP1, hD1⟩ := hB
    rw [ht] at hP1
    obtain ⟨hP, hD⟩ := va_join (wr := [(v0, .inl (cA 0, 326, .inl fs))]) (w1 := [(w0, .inr (11, [.ref v0, .ref v1, .ref v2, .ref v3, .ref v4, .long 0, .long 0, .int 0, .int 1, .ref v9, .int 0, .int 0, .int (-1), .ref v13, .int 0, .int 0, .int 0, .int 0, .int 0, .int 0, .int 0, .int 0, .int 0, .int 0, .int 0, .long 0, .int 0, .ref v27, .ref v28, .ref v29, .ref v30, .ref v31, .ref v32, .ref v33, .ref v34, .ref v35, .ref v36, .ref v37, .int 0]))]) hP hD [0] [1] rfl rfl (by decide) (by decide) hk1 hFc hP1 hD1
    generalize H1 = H at hP hS ⊢
    have hP : va_P D vwCl [(v0, .inl (cA 0, 326, .inl fs)), (w0, .inr (11, [.ref v0, .ref v1, .ref v2, .ref v3, .ref v4, .long 0, .long 0, .int 0, .int 1, .ref v9, .int 0, .int 0, .int (-1), .ref v13, .int 0, .int 0, .int 0, .int 0, .int 0, .int 0, .int 0, .int 0, .int 0, .int 0, .int 0, .long 0, .int 0, .ref v27, .ref v28, .ref v29, .ref v30, .ref v31, .ref v32, .ref v33, .ref v34, .ref v35, .ref v36, .ref v37, .int 0]))] H := hP
    have hD : va_D A [(v0, .inl (cA 0, 326, .inl fs)), (w0, .inr (11, [.ref v0, .ref v1, .ref v2, .ref v3, .ref v4, .long 0, .long 0, .int 0, .int 1, .ref v9, .int 0, .int 0, .int (-1), .ref v13, .int 0, .int 0, .int 0, .int 0, .int 0, .int 0, .int 0, .int 0, .int 0, .int 0, .int 0, .long 0, .int 0, .ref v27, .ref v28, .ref v29, .ref v30, .ref v31, .ref v32, .ref v33, .ref v34, .ref v35, .ref v36, .ref v37, .int 0]))] := hD
    obtain rfl : rn5 = 0 := hw
    refine lv_if_ne (tgt := 32) hx hb dX10_pass_27 (by decide) (fun c9 => absurd c9 (by decide)) (fun c6 => ?_)
    refine lv_iconst (v := 0) hx hb dX10_pass_30 (by decide) ?_
    have hP9 := hP.sub (ws' := [(w0, .inr (11, [.ref v0, .ref v1, .ref v2, .ref v3, .ref v4, .long 0, .long 0, .int 0, .int 1, .ref v9, .int 0, .int 0, .int (-1), .ref v13, .int 0, .int 0, .int 0, .int 0, .int 0, .int 0, .int 0, .int 0, .int 0, .int 0, .int 0, .long 0, .int 0, .ref v27, .ref v28, .ref v29, .ref v30, .ref v31, .ref v32, .ref v33, .ref v34, .ref v35, .ref v36, .ref v37, .int 0]))]) [1] rfl
    have hD9 := hD.sub (ws' := [(w0, .inr (11, [.ref v0, .ref v1, .ref v2, .ref v3, .ref v4, .long 0, .long 0, .int 0, .int 1, .ref v9, .int 0, .int 0, .int (-1), .ref v13, .int 0, .int 0, .int 0, .int 0, .int 0, .int 0, .int 0, .int 0, .int 0, .int 0, .int 0, .long 0, .int 0, .ref v27, .ref v28, .ref v29, .ref v30, .ref v31, .ref v32, .ref v33, .ref v34, .ref v35, .ref v36, .ref v37, .int 0]))]) [1] (by decide) rfl
    refine W.widen (k := 0) (n := 0) (Nat.le_of_ble_eq_true rfl) (Nat.le_of_ble_eq_true rfl) ?_
    exact W.iret (v := 0) hx hb hr (fun t ht hW => ⟨⟨0, (), rfl, rfl, by rw [ht]; exact hP9, hD9⟩, hS.F ht⟩) hS.2.2 dX10_pass_31
  · skip
    refine lv_iconst (v := 1) hx hb dX10_pass_19 (by decide) ?_
    refine lv_goto (tgt := 24) hx hb dX10_pass_20 (by decide) ?_
    have hPc := hP.sub (ws' := [(w0, .inr (11, [.ref v0, .ref v1, .ref v2, .ref v3, .ref v4, .long 0, .long 0, .int 0, .int th, .ref v9, .int 0, .int 0, .int (-1), .ref v13, .int 0, .int 0, .int 0, .int 0, .int 0, .int 0, .int 0, .int 0, .int 0, .int 0, .int 0, .long 0, .int 0, .ref v27, .ref v28, .ref v29, .ref v30, .ref v31, .ref v32, .ref v33, .ref v34, .ref v35, .ref v36, .ref v37, .int 0]))]) [0] rfl
    have hDc := hD.sub (ws' := [(w0, .inr (11, [.ref v0, .ref v1, .ref v2, .ref v3, .ref v4, .long 0, .long 0, .int 0, .int th, .ref v9, .int 0, .int 0, .int (-1), .ref v13, .int 0, .int 0, .int 0, .int 0, .int 0, .int 0, .int 0, .int 0, .int 0, .int 0, .int 0, .long 0, .int 0, .ref v27, .ref v28, .ref v29, .ref v30, .ref v31, .ref v32, .ref v33, .ref v34, .ref v35, .ref v36, .ref v37, .int 0]))]) [0] (by decide) rfl
    have hFc := va_free (wc := [(w0, .inr (11, [.ref v0, .ref v1, .ref v2, .ref v3, .ref v4, .long 0, .long 0, .int 0, .int th, .ref v9, .int 0, .int 0, .int (-1), .ref v13, .int 0, .int 0, .int 0, .int 0, .int 0, .int 0, .int 0, .int 0, .int 0, .int 0, .int 0, .long 0, .int 0, .ref v27, .ref v28, .ref v29, .ref v30, .ref v31, .ref v32, .ref v33, .ref v34, .ref v35, .ref v36, .ref v37, .int 0]))]) hD hS hA [0] rfl
    refine va_calli (va_runV (As := [.int 0, .int 1]) (rest := []) ⟨hx, hb, hml, hown, hts⟩ (c_m_good2_0 l D cA sa w0 v0 v1 v2 v3 v4 v9 v13 v27 v28 v29 v30 v31 v32 v33 v34 v35 v36 v37 th 1 H.size) (cwV 2 hts gX10_pass_X10_good_ rfl rfl rfl (by decide +kernel) ⟨(Nat.le_of_ble_eq_true rfl), (Nat.le_of_ble_eq_true rfl)⟩) ⟨Wd.blind, va_recv hK hPc (ci := 11) (q0 := 0) rfl rfl, fun U hU hW => ⟨rfl, Wd.call hPc hDc hK hC hZ hS hFc U hU hW⟩⟩ rfl rfl hl.1 rfl (lv_room (Nat.le_of_ble_eq_true rfl)) dX10_pass_24 ⟨(Nat.le_of_ble_eq_true rfl), (Nat.le_of_ble_eq_true rfl)⟩) hS (fun q _ h => hFc q h) hFc (fun rn7 u t H1 locs ht hvm hw hB hz1 hk1 hS => ?_)
    obtain ⟨hP1, hD1⟩ := hB
    rw [ht] at hP1
    obtain ⟨hP, hD⟩ := va_join (wr := [(v0, .inl (cA 0, 326, .inl fs))]) (w1 := [(w0, .inr (11, [.ref v0, .ref v1, .ref v2, .ref v3, .ref v4, .long 0, .long 0, .int 0, .int 1, .ref v9, .int 0, .int 0, .int (-1), .ref v13, .int 0, .int 0, .int 0, .int 0, .int 0, .int 0, .int 0, .int 0, .int 0, .int 0, .int 0, .long 0, .int 0, .ref v27, .ref v28, .ref v29, .ref v30, .ref v31, .ref v32, .ref v33, .ref v34, .ref v35, .ref v36, .ref v37, .int 0]))]) hP hD [0] [1] rfl rfl (by decide) (by decide) hk1 hFc hP1 hD1
    generalize H1 = H at hP hS ⊢
    have hP : va_P D vwCl [(v0, .inl (cA 0, 326, .inl fs)), (w0, .inr (11, [.ref v0, .ref v1, .ref v2, .ref v3, .ref v4, .long 0, .long 0, .int 0, .int 1, .ref v9, .int 0, .int 0, .int (-1), .ref v13, .int 0, .int 0, .int 0, .int 0, .int 0, .int 0, .int 0, .int 0, .int 0, .int 0, .int 0, .long 0, .int 0, .ref v27, .ref v28, .ref v29, .ref v30, .ref v31, .ref v32, .ref v33, .ref v34, .ref v35, .ref v36, .ref v37, .int 0]))] H := hP
    have hD : va_D A [(v0, .inl (cA 0, 326, .inl fs)), (w0, .inr (11, [.ref v0, .ref v1, .ref v2, .ref v3, .ref v4, .long 0, .long 0, .int 0, .int 1, .ref v9, .int 0, .int 0, .int (-1), .ref v13, .int 0, .int 0, .int 0, .int 0, .int 0, .int 0, .int 0, .int 0, .int 0, .int 0, .int 0, .long 0, .int 0, .ref v27, .ref v28, .ref v29, .ref v30, .ref v31, .ref v32, .ref v33, .ref v34, .ref v35, .ref v36, .ref v37, .int 0]))] := hD
    obtain rfl : rn7 = 0 := hw
    refine lv_if_ne (tgt := 32) hx hb dX10_pass_27 (by decide) (fun c9 => absurd c9 (by decide)) (fun c8 => ?_)
    refine lv_iconst (v := 0) hx hb dX10_pass_30 (by decide) ?_
    have hP9 := hP.sub (ws' := [(w0, .inr (11, [.ref v0, .ref v1, .ref v2, .ref v3, .ref v4, .long 0, .long 0, .int 0, .int 1, .ref v9, .int 0, .int 0, .int (-1), .ref v13, .int 0, .int 0, .int 0, .int 0, .int 0, .int 0, .int 0, .int 0, .int 0, .int 0, .int 0, .long 0, .int 0, .ref v27, .ref v28, .ref v29, .ref v30, .ref v31, .ref v32, .ref v33, .ref v34, .ref v35, .ref v36, .ref v37, .int 0]))]) [1] rfl
    have hD9 := hD.sub (ws' := [(w0, .inr (11, [.ref v0, .ref v1, .ref v2, .ref v3, .ref v4, .long 0, .long 0, .int 0, .int 1, .ref v9, .int 0, .int 0, .int (-1), .ref v13, .int 0, .int 0, .int 0, .int 0, .int 0, .int 0, .int 0, .int 0, .int 0, .int 0, .int 0, .long 0, .int 0, .ref v27, .ref v28, .ref v29, .ref v30, .ref v31, .ref v32, .ref v33, .ref v34, .ref v35, .ref v36, .ref v37, .int 0]))]) [1] (by decide) rfl
    refine W.widen (k := 0) (n := 0) (Nat.le_of_ble_eq_true rfl) (Nat.le_of_ble_eq_true rfl) ?_
    exact W.iret (v := 0) hx hb hr (fun t ht hW => ⟨⟨0, (), rfl, rfl, by rw [ht]; exact hP9, hD9⟩, hS.F ht⟩) hS.2.2 dX10_pass_31
