set_option maxHeartbeats 4000000 in
set_option maxRecDepth 100000 in
/-- between: yes -/
theorem c_btw_t (l : Launch) (D : va_G) (cA : Nat → ClassId) (sa : Nat → Nat) (a lo hi : Int64) (sz : Nat) (h : ¬ a < lo ∧ ¬ hi < a) : Met l yX10_between wsX10_between ({ frames := 0, cells := 0, slots := 0, locals := 0 }) (va_Pc [.long a, .long lo, .long hi] (Wd D cA sa [] sz)) (va_Qi (fun (r : Int32) (_ : Unit) => r = 1) (fun (_ : Unit) t => Wq D (va_A [] sz) [] t) (va_A [] sz)) 0 0 (va_A [] sz) := by
  refine Met.ofW (cc := cX10_between) (maxL := 6) (ret := (some .boolean)) (by decide) rfl ?_
  intro p e s m args below meth c s₁ B hml hv
  obtain ⟨rfl, hsz, hP, hK, hD0, hC, hZ⟩ := hv
  have hx := B.exec
  have hb := B.bytes
  have hr := B.returns
  have hts := atoms_spec (ws := wsX10_between) B.pre
  have hown : s.vm.findClass RX10 = some m.cls := findClass_of_methodNamed B.named
  have hlocks := B.notSynchronized
  subst hsz
  have hD := hD0.self (sz := s.heap.size)
  generalize hAe : va_A [] s.heap.size = A at hD hZ ⊢
  have hA : ∀ q : Nat, s.heap.size ≤ q → A q := fun q h => by rw [← hAe]; exact Or.inr h
  have hS : va_S A s.heap s.heap [] := va_S.rf
  have hP : va_P D vwCl [] s.heap := hP
  have hl := lv_entry ([.long a, .long lo, .long hi]) (n := 6) (Nat.le_of_ble_eq_true rfl)
  rw [lg_entry_eq]
  generalize (lg_sl ([.long a, .long lo, .long hi]) ++ List.replicate (6 - (lg_sl ([.long a, .long lo, .long hi])).length) Slot.unset).toArray = ls at hl ⊢
  have hl : lv_has ls 6 [(0, .long a), (2, .long lo), (4, .long hi)] := hl
  refine lv_lload_n hx hb dX10_between_0 rfl (lv_at hl 0 rfl) ?_
  refine lv_lload_n hx hb dX10_between_1 rfl (lv_at hl 1 rfl) ?_
  refine W.lcmp hx hb dX10_between_2 ?_
  refine lv_if_lt (tgt := 17) hx hb dX10_between_3 (by decide) (fun c9 => absurd c9 (fun h3 => h.1 (lg_lt.mp h3))) (fun c2 => ?_)
  refine lv_lload_n hx hb dX10_between_6 rfl (lv_at hl 0 rfl) ?_
  refine lv_lload hx hb dX10_between_7 (lv_at hl 2 rfl) ?_
  refine W.lcmp hx hb dX10_between_9 ?_
  refine lv_if_gt (tgt := 17) hx hb dX10_between_10 (by decide) (fun c9 => absurd c9 (fun h3 => h.2 (lg_gt.mp h3))) (fun c4 => ?_)
  refine lv_iconst (v := 1) hx hb dX10_between_13 (by decide) ?_
  refine lv_goto (tgt := 18) hx hb dX10_between_14 (by decide) ?_
  have hP9 := hP.sub (ws' := []) [] rfl
  have hD9 := hD.sub (ws' := []) [] (by decide) rfl
  refine W.widen (k := 0) (n := 0) (Nat.le_of_ble_eq_true rfl) (Nat.le_of_ble_eq_true rfl) ?_
  exact W.zret (v := 1) hx hb hr (by first | rfl | decide) (fun t ht hW => ⟨⟨1, (), rfl, rfl, by rw [ht]; exact hP9, hD9⟩, hS.F ht⟩) hS.2.2 dX10_between_18

set_option maxHeartbeats 4000000 in
set_option maxRecDepth 100000 in
/-- between: no -/
theorem c_btw_f (l : Launch) (D : va_G) (cA : Nat → ClassId) (sa : Nat → Nat) (a lo hi : Int64) (sz : Nat) (h : a < lo ∨ hi < a) : Met l yX10_between wsX10_between ({ frames := 0, cells := 0, slots := 0, locals := 0 }) (va_Pc [.long a, .long lo, .long hi] (Wd D cA sa [] sz)) (va_Qi (fun (r : Int32) (_ : Unit) => r = 0) (fun (_ : Unit) t => Wq D (va_A [] sz) [] t) (va_A [] sz)) 0 0 (va_A [] sz) := by
  refine Met.ofW (cc := cX10_between) (maxL := 6) (ret := (some .boolean)) (by decide) rfl ?_
  intro p e s m args below meth c s₁ B hml hv
  obtain ⟨rfl, hsz, hP, hK, hD0, hC, hZ⟩ := hv
  have hx := B.exec
  have hb := B.bytes
  have hr := B.returns
  have hts := atoms_spec (ws := wsX10_between) B.pre
  have hown : s.vm.findClass RX10 = some m.cls := findClass_of_methodNamed B.named
  have hlocks := B.notSynchronized
  subst hsz
  have hD := hD0.self (sz := s.heap.size)
  generalize hAe : va_A [] s.heap.size = A at hD hZ ⊢
  have hA : ∀ q : Nat, s.heap.size ≤ q → A q := fun q h => by rw [← hAe]; exact Or.inr h
  have hS : va_S A s.heap s.heap [] := va_S.rf
  have hP : va_P D vwCl [] s.heap := hP
  have hl := lv_entry ([.long a, .long lo, .long hi]) (n := 6) (Nat.le_of_ble_eq_true rfl)
  rw [lg_entry_eq]
  generalize (lg_sl ([.long a, .long lo, .long hi]) ++ List.replicate (6 - (lg_sl ([.long a, .long lo, .long hi])).length) Slot.unset).toArray = ls at hl ⊢
  have hl : lv_has ls 6 [(0, .long a), (2, .long lo), (4, .long hi)] := hl
  refine lv_lload_n hx hb dX10_between_0 rfl (lv_at hl 0 rfl) ?_
  refine lv_lload_n hx hb dX10_between_1 rfl (lv_at hl 1 rfl) ?_
  refine W.lcmp hx hb dX10_between_2 ?_
  refine lv_if_lt (tgt := 17) hx hb dX10_between_3 (by decide) (fun c2 => ?_) (fun c2 => ?_)
  · skip
    refine lv_iconst (v := 0) hx hb dX10_between_17 (by decide) ?_
    have hP9 := hP.sub (ws' := []) [] rfl
    have hD9 := hD.sub (ws' := []) [] (by decide) rfl
    refine W.widen (k := 0) (n := 0) (Nat.le_of_ble_eq_true rfl) (Nat.le_of_ble_eq_true rfl) ?_
    exact W.zret (v := 0) hx hb hr (by first | rfl | decide) (fun t ht hW => ⟨⟨0, (), rfl, rfl, by rw [ht]; exact hP9, hD9⟩, hS.F ht⟩) hS.2.2 dX10_between_18
  · skip
    refine lv_lload_n hx hb dX10_between_6 rfl (lv_at hl 0 rfl) ?_
    refine lv_lload hx hb dX10_between_7 (lv_at hl 2 rfl) ?_
    refine W.lcmp hx hb dX10_between_9 ?_
    refine lv_if_gt (tgt := 17) hx hb dX10_between_10 (by decide) (fun c4 => ?_) (fun c9 => absurd c9 (fun h3 => h3 (h.elim (fun h4 => absurd (lg_lt.mpr h4) c2) (fun h4 => lg_gt.mpr h4))))
    refine lv_iconst (v := 0) hx hb dX10_between_17 (by decide) ?_
    have hP9 := hP.sub (ws' := []) [] rfl
    have hD9 := hD.sub (ws' := []) [] (by decide) rfl
    refine W.widen (k := 0) (n := 0) (Nat.le_of_ble_eq_true rfl) (Nat.le_of_ble_eq_true rfl) ?_
    exact W.zret (v := 0) hx hb hr (by first | rfl | decide) (fun t ht hW => ⟨⟨0, (), rfl, rfl, by rw [ht]; exact hP9, hD9⟩, hS.F ht⟩) hS.2.2 dX10_between_18

set_option maxHeartbeats 4000000 in
set_option maxRecDepth 100000 in
/-- between: yes or no -/
theorem c_btw_a (l : Launch) (D : va_G) (cA : Nat → ClassId) (sa : Nat → Nat) (a lo hi : Int64) (sz : Nat) : Met l yX10_between wsX10_between ({ frames := 0, cells := 0, slots := 0, locals := 0 }) (va_Pc [.long a, .long lo, .long hi] (Wd D cA sa [] sz)) (va_Qi (fun (r : Int32) (_ : Unit) => r = 0 ∨ r = 1) (fun (_ : Unit) t => Wq D (va_A [] sz) [] t) (va_A [] sz)) 0 0 (va_A [] sz) := by
  refine Met.ofW (cc := cX10_between) (maxL := 6) (ret := (some .boolean)) (by decide) rfl ?_
  intro p e s m args below meth c s₁ B hml hv
  obtain ⟨rfl, hsz, hP, hK, hD0, hC, hZ⟩ := hv
  have hx := B.exec
  have hb := B.bytes
  have hr := B.returns
  have hts := atoms_spec (ws := wsX10_between) B.pre
  have hown : s.vm.findClass RX10 = some m.cls := findClass_of_methodNamed B.named
  have hlocks := B.notSynchronized
  subst hsz
  have hD := hD0.self (sz := s.heap.size)
  generalize hAe : va_A [] s.heap.size = A at hD hZ ⊢
  have hA : ∀ q : Nat, s.heap.size ≤ q → A q := fun q h => by rw [← hAe]; exact Or.inr h
  have hS : va_S A s.heap s.heap [] := va_S.rf
  have hP : va_P D vwCl [] s.heap := hP
  have hl := lv_entry ([.long a, .long lo, .long hi]) (n := 6) (Nat.le_of_ble_eq_true rfl)
  rw [lg_entry_eq]
  generalize (lg_sl ([.long a, .long lo, .long hi]) ++ List.replicate (6 - (lg_sl ([.long a, .long lo, .long hi])).length) Slot.unset).toArray = ls at hl ⊢
  have hl : lv_has ls 6 [(0, .long a), (2, .long lo), (4, .long hi)] := hl
  refine lv_lload_n hx hb dX10_between_0 rfl (lv_at hl 0 rfl) ?_
  refine lv_lload_n hx hb dX10_between_1 rfl (lv_at hl 1 rfl) ?_
  refine W.lcmp hx hb dX10_between_2 ?_
  refine lv_if_lt (tgt := 17) hx hb dX10_between_3 (by decide) (fun c2 => ?_) (fun c2 => ?_)
  · skip
    refine lv_iconst (v := 0) hx hb dX10_between_17 (by decide) ?_
    have hP9 := hP.sub (ws' := []) [] rfl
    have hD9 := hD.sub (ws' := []) [] (by decide) rfl
    refine W.widen (k := 0) (n := 0) (Nat.le_of_ble_eq_true rfl) (Nat.le_of_ble_eq_true rfl) ?_
    exact W.zret (v := 0) hx hb hr (by first | rfl | decide) (fun t ht hW => ⟨⟨0, (), rfl, (by first | exact Or.inl rfl | exact Or.inr rfl), by rw [ht]; exact hP9, hD9⟩, hS.F ht⟩) hS.2.2 dX10_between_18
  · skip
    refine lv_lload_n hx hb dX10_between_6 rfl (lv_at hl 0 rfl) ?_
    refine lv_lload hx hb dX10_between_7 (lv_at hl 2 rfl) ?_
    refine W.lcmp hx hb dX10_between_9 ?_
    refine lv_if_gt (tgt := 17) hx hb dX10_between_10 (by decide) (fun c4 => ?_) (fun c4 => ?_)
    · skip
      refine lv_iconst (v := 0) hx hb dX10_between_17 (by decide) ?_
      have hP9 := hP.sub (ws' := []) [] rfl
      have hD9 := hD.sub (ws' := []) [] (by decide) rfl
      refine W.widen (k := 0) (n := 0) (Nat.le_of_ble_eq_true rfl) (Nat.le_of_ble_eq_true rfl) ?_
      exact W.zret (v := 0) hx hb hr (by first | rfl | decide) (fun t ht hW => ⟨⟨0, (), rfl, (by first | exact Or.inl rfl | exact Or.inr rfl), by rw [ht]; exact hP9, hD9⟩, hS.F ht⟩) hS.2.2 dX10_between_18
    · skip
      refine lv_iconst (v := 1) hx hb dX10_between_13 (by decide) ?_
      refine lv_goto (tgt := 18) hx hb dX10_between_14 (by decide) ?_
      have hP9 := hP.sub (ws' := []) [] rfl
      have hD9 := hD.sub (ws' := []) [] (by decide) rfl
      refine W.widen (k := 0) (n := 0) (Nat.le_of_ble_eq_true rfl) (Nat.le_of_ble_eq_true rfl) ?_
      exact W.zret (v := 1) hx hb hr (by first | rfl | decide) (fun t ht hW => ⟨⟨1, (), rfl, (by first | exact Or.inl rfl | exact Or.inr rfl), by rw [ht]; exact hP9, hD9⟩, hS.F ht⟩) hS.2.2 dX10_between_18

set_option maxHeartbeats 4000000 in
set_option maxRecDepth 100000 in
/-- isMilestone -/
theorem c_m_isMilestone (l : Launch) (D : va_G) (cA : Nat → ClassId) (sa : Nat → Nat) (w0 v0 v1 v2 v3 v4 v9 v13 v27 v28 v29 v30 v31 v32 v33 v34 v35 v36 v37 : Nat) (th : Int32) (fs : Nat → Int32) (i : Int32) (sz : Nat) (hz : Zs fs) : Met l yX10_isMilestone wsX10_isMilestone ({ frames := 1, cells := 0, slots := 0, locals := 25 }) (va_Pc [.ref w0, .int i] (Wd D cA sa [(w0, .inr (11, [.ref v0, .ref v1, .ref v2, .ref v3, .ref v4, .long 0, .long 0, .int 0, .int th, .ref v9, .int 0, .int 0, .int (-1), .ref v13, .int 0, .int 0, .int 0, .int 0, .int 0, .int 0, .int 0, .int 0, .int 0, .int 0, .int 0, .long 0, .int 0, .ref v27, .ref v28, .ref v29, .ref v30, .ref v31, .ref v32, .ref v33, .ref v34, .ref v35, .ref v36, .ref v37, .int 0])), (v0, .inl (cA 0, 326, .inl fs))] sz)) (va_Qi (fun (r : Int32) (_ : Unit) => r = 0) (fun (_ : Unit) t => Wq D (va_A [(w0, .inr (11, [.ref v0, .ref v1, .ref v2, .ref v3, .ref v4, .long 0, .long 0, .int 0, .int th, .ref v9, .int 0, .int 0, .int (-1), .ref v13, .int 0, .int 0, .int 0, .int 0, .int 0, .int 0, .int 0, .int 0, .int 0, .int 0, .int 0, .long 0, .int 0, .ref v27, .ref v28, .ref v29, .ref v30, .ref v31, .ref v32, .ref v33, .ref v34, .ref v35, .ref v36, .ref v37, .int 0])), (v0, .inl (cA 0, 326, .inl fs))] sz) [(w0, .inr (11, [.ref v0, .ref v1, .ref v2, .ref v3, .ref v4, .long 0, .long 0, .int 0, .int th, .ref v9, .int 0, .int 0, .int (-1), .ref v13, .int 0, .int 0, .int 0, .int 0, .int 0, .int 0, .int 0, .int 0, .int 0, .int 0, .int 0, .long 0, .int 0, .ref v27, .ref v28, .ref v29, .ref v30, .ref v31, .ref v32, .ref v33, .ref v34, .ref v35, .ref v36, .ref v37, .int 0])), (v0, .inl (cA 0, 326, .inl fs))] t) (va_A [(w0, .inr (11, [.ref v0, .ref v1, .ref v2, .ref v3, .ref v4, .long 0, .long 0, .int 0, .int th, .ref v9, .int 0, .int 0, .int (-1), .ref v13, .int 0, .int 0, .int 0, .int 0, .int 0, .int 0, .int 0, .int 0, .int 0, .int 0, .int 0, .long 0, .int 0, .ref v27, .ref v28, .ref v29, .ref v30, .ref v31, .ref v32, .ref v33, .ref v34, .ref v35, .ref v36, .ref v37, .int 0])), (v0, .inl (cA 0, 326, .inl fs))] sz)) 0 0 (va_A [(w0, .inr (11, [.ref v0, .ref v1, .ref v2, .ref v3, .ref v4, .long 0, .long 0, .int 0, .int th, .ref v9, .int 0, .int 0, .int (-1), .ref v13, .int 0, .int 0, .int 0, .int 0, .int 0, .int 0, .int 0, .int 0, .int 0, .int 0, .int 0, .long 0, .int 0, .ref v27, .ref v28, .ref v29, .ref v30, .ref v31, .ref v32, .ref v33, .ref v34, .ref v35, .ref v36, .ref v37, .int 0])), (v0, .inl (cA 0, 326, .inl fs))] sz) := by
  refine Met.ofW (cc := cX10_isMilestone) (maxL := 2) (ret := (some .boolean)) (by decide) rfl ?_
  intro p e s m args below meth c s₁ B hml hv
  obtain ⟨rfl, hsz, hP, hK, hD0, hC, hZ⟩ := hv
  have hx := B.exec
  have hb := B.bytes
  have hr := B.returns
  have hts := atoms_spec (ws := wsX10_isMilestone) B.pre
  have hown : s.vm.findClass RX10 = some m.cls := findClass_of_methodNamed B.named
  have hlocks := B.notSynchronized
  subst hsz
  have hD := hD0.self (sz := s.heap.size)
  generalize hAe : va_A [(w0, .inr (11, [.ref v0, .ref v1, .ref v2, .ref v3, .ref v4, .long 0, .long 0, .int 0, .int th, .ref v9, .int 0, .int 0, .int (-1), .ref v13, .int 0, .int 0, .int 0, .int 0, .int 0, .int 0, .int 0, .int 0, .int 0, .int 0, .int 0, .long 0, .int 0, .ref v27, .ref v28, .ref v29, .ref v30, .ref v31, .ref v32, .ref v33, .ref v34, .ref v35, .ref v36, .ref v37, .int 0])), (v0, .inl (cA 0, 326, .inl fs))] s.heap.size = A at hD hZ ⊢
  have hA : ∀ q : Nat, s.heap.size ≤ q → A q := fun q h => by rw [← hAe]; exact Or.inr h
  have hS : va_S A s.heap s.heap [] := va_S.rf
  have hP : va_P D vwCl [(w0, .inr (11, [.ref v0, .ref v1, .ref v2, .ref v3, .ref v4, .long 0, .long 0, .int 0, .int th, .ref v9, .int 0, .int 0, .int (-1), .ref v13, .int 0, .int 0, .int 0, .int 0, .int 0, .int 0, .int 0, .int 0, .int 0, .int 0, .int 0, .long 0, .int 0, .ref v27, .ref v28, .ref v29, .ref v30, .ref v31, .ref v32, .ref v33, .ref v34, .ref v35, .ref v36, .ref v37, .int 0])), (v0, .inl (cA 0, 326, .inl fs))] s.heap := hP
  have hl := lv_entry ([.ref w0, .int i]) (n := 2) (Nat.le_of_ble_eq_true rfl)
  rw [lg_entry_eq]
  generalize (lg_sl ([.ref w0, .int i]) ++ List.replicate (2 - (lg_sl ([.ref w0, .int i])).length) Slot.unset).toArray = ls at hl ⊢
  have hl : lv_has ls 2 [(0, .ref w0), (1, .int i)] := hl
  have inX10 : ∀ w ∈ u_ws RX10 TX10 39, w ∈ wsX10_isMilestone := by decide +kernel
  refine lv_iload_n hx hb dX10_isMilestone_0 rfl (lv_at hl 1 rfl) ?_
  refine lv_i2l (v := (i.toInt64)) hx hb dX10_isMilestone_1 rfl ?_
  refine lv_lconst (v := 0) hx hb dX10_isMilestone_2 (by decide) ?_
  refine lv_aload_n hx hb dX10_isMilestone_3 rfl (lv_at hl 0 rfl) ?_
  refine va_get (D := D) (ci := 11) (v := .ref v0) (C := RX10) (T := TX10) (N := 39) hx hb hts inX10 hown hK hP 0 rfl rfl 0 (by decide) (hts (.fieldLink RX10 7 "EscrowDeskModel" "s" "[I") (by decide +kernel)) (fun _ h9 => h9) rfl dX10_isMilestone_4 ?_
  refine lv_bipush (v := 13) hx hb dX10_isMilestone_7 (by decide) ?_
  refine va_iald hx hb hK hP 1 0 rfl rfl (vp_in_iff.mpr (by decide)) dX10_isMilestone_9 ?_
  refine lv_topi (fun yn1 eyn1 => ?_)
  obtain rfl : yn1 = 0 := eyn1.trans (hz.2 13 (by decide) (by decide))
  refine lv_iconst (v := 1) hx hb dX10_isMilestone_10 (by decide) ?_
  refine lv_isub hx hb dX10_isMilestone_11 ?_
  refine lv_topi (fun yn2 eyn2 => ?_)
  obtain rfl : yn2 = (-1) := eyn2.trans (by first | rfl | decide +kernel)
  refine lv_i2l (v := (-1)) hx hb dX10_isMilestone_12 (by decide) ?_
  have hPc := hP.sub (ws' := []) [] rfl
  have hDc := hD.sub (ws' := []) [] (by decide) rfl
  have hFc := va_free (wc := []) hD hS hA [] rfl
  refine va_calli (va_runS (As := [.long (i.toInt64), .long 0, .long (-1)]) (rest := []) ⟨hx, hb, hml, hown, hts⟩ (c_btw_f l D cA sa (i.toInt64) 0 (-1) s.heap.size (any_out _)) (va_cwS 3 hts gX10_isMilestone_X10_between rfl rfl rfl (by decide +kernel) ⟨(Nat.le_of_ble_eq_true rfl), (Nat.le_of_ble_eq_true rfl)⟩) ⟨Wd.blind, fun U hU hW => ⟨rfl, Wd.call hPc hDc hK hC hZ hS hFc U hU hW⟩⟩ rfl rfl hl.1 rfl (lv_room (Nat.le_of_ble_eq_true rfl)) dX10_isMilestone_13 ⟨(Nat.le_of_ble_eq_true rfl), (Nat.le_of_ble_eq_true rfl)⟩) hS (fun q _ h => hFc q h) hFc (fun rn3 u t H1 locs ht hvm hw hB hz1 hk1 hS => ?_)
  obtain ⟨hP1, hD1⟩ := hB
  rw [ht] at hP1
  obtain ⟨hP, hD⟩ := va_join (wr := [(w0, .inr (11, [.ref v0, .ref v1, .ref v2, .ref v3, .ref v4, .long 0, .long 0, .int 0, .int th, .ref v9, .int 0, .int 0, .int (-1), .ref v13, .int 0, .int 0, .int 0, .int 0, .int 0, .int 0, .int 0, .int 0, .int 0, .int 0, .int 0, .long 0, .int 0, .ref v27, .ref v28, .ref v29, .ref v30, .ref v31, .ref v32, .ref v33, .ref v34, .ref v35, .ref v36, .ref v37, .int 0])), (v0, .inl (cA 0, 326, .inl fs))]) (w1 := []) hP hD [] [0, 1] rfl rfl (by decide) (by decide) hk1 hFc hP1 hD1
  generalize H1 = H at hP hS ⊢
  have hP : va_P D vwCl [(w0, .inr (11, [.ref v0, .ref v1, .ref v2, .ref v3, .ref v4, .long 0, .long 0, .int 0, .int th, .ref v9, .int 0, .int 0, .int (-1), .ref v13, .int 0, .int 0, .int 0, .int 0, .int 0, .int 0, .int 0, .int 0, .int 0, .int 0, .int 0, .long 0, .int 0, .ref v27, .ref v28, .ref v29, .ref v30, .ref v31, .ref v32, .ref v33, .ref v34, .ref v35, .ref v36, .ref v37, .int 0])), (v0, .inl (cA 0, 326, .inl fs))] H := hP
  have hD : va_D A [(w0, .inr (11, [.ref v0, .ref v1, .ref v2, .ref v3, .ref v4, .long 0, .long 0, .int 0, .int th, .ref v9, .int 0, .int 0, .int (-1), .ref v13, .int 0, .int 0, .int 0, .int 0, .int 0, .int 0, .int 0, .int 0, .int 0, .int 0, .int 0, .long 0, .int 0, .ref v27, .ref v28, .ref v29, .ref v30, .ref v31, .ref v32, .ref v33, .ref v34, .ref v35, .ref v36, .ref v37, .int 0])), (v0, .inl (cA 0, 326, .inl fs))] := hD
  obtain rfl : rn3 = 0 := hw
  have hP9 := hP.sub (ws' := [(w0, .inr (11, [.ref v0, .ref v1, .ref v2, .ref v3, .ref v4, .long 0, .long 0, .int 0, .int th, .ref v9, .int 0, .int 0, .int (-1), .ref v13, .int 0, .int 0, .int 0, .int 0, .int 0, .int 0, .int 0, .int 0, .int 0, .int 0, .int 0, .long 0, .int 0, .ref v27, .ref v28, .ref v29, .ref v30, .ref v31, .ref v32, .ref v33, .ref v34, .ref v35, .ref v36, .ref v37, .int 0])), (v0, .inl (cA 0, 326, .inl fs))]) [0, 1] rfl
  have hD9 := hD.sub (ws' := [(w0, .inr (11, [.ref v0, .ref v1, .ref v2, .ref v3, .ref v4, .long 0, .long 0, .int 0, .int th, .ref v9, .int 0, .int 0, .int (-1), .ref v13, .int 0, .int 0, .int 0, .int 0, .int 0, .int 0, .int 0, .int 0, .int 0, .int 0, .int 0, .long 0, .int 0, .ref v27, .ref v28, .ref v29, .ref v30, .ref v31, .ref v32, .ref v33, .ref v34, .ref v35, .ref v36, .ref v37, .int 0])), (v0, .inl (cA 0, 326, .inl fs))]) [0, 1] (by decide) rfl
  refine W.widen (k := 0) (n := 0) (Nat.le_of_ble_eq_true rfl) (Nat.le_of_ble_eq_true rfl) ?_
  exact W.zret (v := 0) hx hb hr (by first | rfl | decide) (fun t ht hW => ⟨⟨0, (), rfl, rfl, by rw [ht]; exact hP9, hD9⟩, hS.F ht⟩) hS.2.2 dX10_isMilestone_16

set_option maxHeartbeats 4000000 in
set_option maxRecDepth 100000 in
/-- isProof -/
theorem c_m_isProof (l : Launch) (D : va_G) (cA : Nat → ClassId) (sa : Nat → Nat) (w0 v0 v1 v2 v3 v4 v9 v13 v27 v28 v29 v30 v31 v32 v33 v34 v35 v36 v37 : Nat) (th : Int32) (fs : Nat → Int32) (i : Int32) (sz : Nat) (hz : Zs fs) : Met l yX10_isProof wsX10_isProof ({ frames := 1, cells := 0, slots := 0, locals := 25 }) (va_Pc [.ref w0, .int i] (Wd D cA sa [(w0, .inr (11, [.ref v0, .ref v1, .ref v2, .ref v3, .ref v4, .long 0, .long 0, .int 0, .int th, .ref v9, .int 0, .int 0, .int (-1), .ref v13, .int 0, .int 0, .int 0, .int 0, .int 0, .int 0, .int 0, .int 0, .int 0, .int 0, .int 0, .long 0, .int 0, .ref v27, .ref v28, .ref v29, .ref v30, .ref v31, .ref v32, .ref v33, .ref v34, .ref v35, .ref v36, .ref v37, .int 0])), (v0, .inl (cA 0, 326, .inl fs))] sz)) (va_Qi (fun (r : Int32) (_ : Unit) => r = 0) (fun (_ : Unit) t => Wq D (va_A [(w0, .inr (11, [.ref v0, .ref v1, .ref v2, .ref v3, .ref v4, .long 0, .long 0, .int 0, .int th, .ref v9, .int 0, .int 0, .int (-1), .ref v13, .int 0, .int 0, .int 0, .int 0, .int 0, .int 0, .int 0, .int 0, .int 0, .int 0, .int 0, .long 0, .int 0, .ref v27, .ref v28, .ref v29, .ref v30, .ref v31, .ref v32, .ref v33, .ref v34, .ref v35, .ref v36, .ref v37, .int 0])), (v0, .inl (cA 0, 326, .inl fs))] sz) [(w0, .inr (11, [.ref v0, .ref v1, .ref v2, .ref v3, .ref v4, .long 0, .long 0, .int 0, .int th, .ref v9, .int 0, .int 0, .int (-1), .ref v13, .int 0, .int 0, .int 0, .int 0, .int 0, .int 0, .int 0, .int 0, .int 0, .int 0, .int 0, .long 0, .int 0, .ref v27, .ref v28, .ref v29, .ref v30, .ref v31, .ref v32, .ref v33, .ref v34, .ref v35, .ref v36, .ref v37, .int 0])), (v0, .inl (cA 0, 326, .inl fs))] t) (va_A [(w0, .inr (11, [.ref v0, .ref v1, .ref v2, .ref v3, .ref v4, .long 0, .long 0, .int 0, .int th, .ref v9, .int 0, .int 0, .int (-1), .ref v13, .int 0, .int 0, .int 0, .int 0, .int 0, .int 0, .int 0, .int 0, .int 0, .int 0, .int 0, .long 0, .int 0, .ref v27, .ref v28, .ref v29, .ref v30, .ref v31, .ref v32, .ref v33, .ref v34, .ref v35, .ref v36, .ref v37, .int 0])), (v0, .inl (cA 0, 326, .inl fs))] sz)) 0 0 (va_A [(w0, .inr (11, [.ref v0, .ref v1, .ref v2, .ref v3, .ref v4, .long 0, .long 0, .int 0, .int th, .ref v9, .int 0, .int 0, .int (-1), .ref v13, .int 0, .int 0, .int 0, .int 0, .int 0, .int 0, .int 0, .int 0, .int 0, .int 0, .int 0, .long 0, .int 0, .ref v27, .ref v28, .ref v29, .ref v30, .ref v31, .ref v32, .ref v33, .ref v34, .ref v35, .ref v36, .ref v37, .int 0])), (v0, .inl (cA 0, 326, .inl fs))] sz) := by
  refine Met.ofW (cc := cX10_isProof) (maxL := 2) (ret := (some .boolean)) (by decide) rfl ?_
  intro p e s m args below meth c s₁ B hml hv
  obtain ⟨rfl, hsz, hP, hK, hD0, hC, hZ⟩ := hv
  have hx := B.exec
  have hb := B.bytes
  have hr := B.returns
  have hts := atoms_spec (ws := wsX10_isProof) B.pre
  have hown : s.vm.findClass RX10 = some m.cls := findClass_of_methodNamed B.named
  have hlocks := B.notSynchronized
  subst hsz
  have hD := hD0.self (sz := s.heap.size)
  generalize hAe : va_A [(w0, .inr (11, [.ref v0, .ref v1, .ref v2, .ref v3, .ref v4, .long 0, .long 0, .int 0, .int th, .ref v9, .int 0, .int 0, .int (-1), .ref v13, .int 0, .int 0, .int 0, .int 0, .int 0, .int 0, .int 0, .int 0, .int 0, .int 0, .int 0, .long 0, .int 0, .ref v27, .ref v28, .ref v29, .ref v30, .ref v31, .ref v32, .ref v33, .ref v34, .ref v35, .ref v36, .ref v37, .int 0])), (v0, .inl (cA 0, 326, .inl fs))] s.heap.size = A at hD hZ ⊢
  have hA : ∀ q : Nat, s.heap.size ≤ q → A q := fun q h => by rw [← hAe]; exact Or.inr h
  have hS : va_S A s.heap s.heap [] := va_S.rf
  have hP : va_P D vwCl [(w0, .inr (11, [.ref v0, .ref v1, .ref v2, .ref v3, .ref v4, .long 0, .long 0, .int 0, .int th, .ref v9, .int 0, .int 0, .int (-1), .ref v13, .int 0, .int 0, .int 0, .int 0, .int 0, .int 0, .int 0, .int 0, .int 0, .int 0, .int 0, .long 0, .int 0, .ref v27, .ref v28, .ref v29, .ref v30, .ref v31, .ref v32, .ref v33, .ref v34, .ref v35, .ref v36, .ref v37, .int 0])), (v0, .inl (cA 0, 326, .inl fs))] s.heap := hP
  have hl := lv_entry ([.ref w0, .int i]) (n := 2) (Nat.le_of_ble_eq_true rfl)
  rw [lg_entry_eq]
  generalize (lg_sl ([.ref w0, .int i]) ++ List.replicate (2 - (lg_sl ([.ref w0, .int i])).length) Slot.unset).toArray = ls at hl ⊢
  have hl : lv_has ls 2 [(0, .ref w0), (1, .int i)] := hl
  have inX10 : ∀ w ∈ u_ws RX10 TX10 39, w ∈ wsX10_isProof := by decide +kernel
  refine lv_iload_n hx hb dX10_isProof_0 rfl (lv_at hl 1 rfl) ?_
  refine lv_i2l (v := (i.toInt64)) hx hb dX10_isProof_1 rfl ?_
  refine lv_lconst (v := 0) hx hb dX10_isProof_2 (by decide) ?_
  refine lv_aload_n hx hb dX10_isProof_3 rfl (lv_at hl 0 rfl) ?_
  refine va_get (D := D) (ci := 11) (v := .ref v0) (C := RX10) (T := TX10) (N := 39) hx hb hts inX10 hown hK hP 0 rfl rfl 0 (by decide) (hts (.fieldLink RX10 7 "EscrowDeskModel" "s" "[I") (by decide +kernel)) (fun _ h9 => h9) rfl dX10_isProof_4 ?_
  refine lv_bipush (v := 14) hx hb dX10_isProof_7 (by decide) ?_
  refine va_iald hx hb hK hP 1 0 rfl rfl (vp_in_iff.mpr (by decide)) dX10_isProof_9 ?_
  refine lv_topi (fun yn1 eyn1 => ?_)
  obtain rfl : yn1 = 0 := eyn1.trans (hz.2 14 (by decide) (by decide))
  refine lv_iconst (v := 1) hx hb dX10_isProof_10 (by decide) ?_
  refine lv_isub hx hb dX10_isProof_11 ?_
  refine lv_topi (fun yn2 eyn2 => ?_)
  obtain rfl : yn2 = (-1) := eyn2.trans (by first | rfl | decide +kernel)
  refine lv_i2l (v := (-1)) hx hb dX10_isProof_12 (by decide) ?_
  have hPc := hP.sub (ws' := []) [] rfl
  have hDc := hD.sub (ws' := []) [] (by decide) rfl
  have hFc := va_free (wc := []) hD hS hA [] rfl
  refine va_calli (va_runS (As := [.long (i.toInt64), .long 0, .long (-1)]) (rest := []) ⟨hx, hb, hml, hown, hts⟩ (c_btw_f l D cA sa (i.toInt64) 0 (-1) s.heap.size (any_out _)) (va_cwS 3 hts gX10_isProof_X10_between rfl rfl rfl (by decide +kernel) ⟨(Nat.le_of_ble_eq_true rfl), (Nat.le_of_ble_eq_true rfl)⟩) ⟨Wd.blind, fun U hU hW => ⟨rfl, Wd.call hPc hDc hK hC hZ hS hFc U hU hW⟩⟩ rfl rfl hl.1 rfl (lv_room (Nat.le_of_ble_eq_true rfl)) dX10_isProof_13 ⟨(Nat.le_of_ble_eq_true rfl), (Nat.le_of_ble_eq_true rfl)⟩) hS (fun q _ h => hFc q h) hFc (fun rn3 u t H1 locs ht hvm hw hB hz1 hk1 hS => ?_)
  obtain ⟨hP1, hD1⟩ := hB
  rw [ht] at hP1
  obtain ⟨hP, hD⟩ := va_join (wr := [(w0, .inr (11, [.ref v0, .ref v1, .ref v2, .ref v3, .ref v4, .long 0, .long 0, .int 0, .int th, .ref v9, .int 0, .int 0, .int (-1), .ref v13, .int 0, .int 0, .int 0, .int 0, .int 0, .int 0, .int 0, .int 0, .int 0, .int 0, .int 0, .long 0, .int 0, .ref v27, .ref v28, .ref v29, .ref v30, .ref v31, .ref v32, .ref v33, .ref v34, .ref v35, .ref v36, .ref v37, .int 0])), (v0, .inl (cA 0, 326, .inl fs))]) (w1 := []) hP hD [] [0, 1] rfl rfl (by decide) (by decide) hk1 hFc hP1 hD1
  generalize H1 = H at hP hS ⊢
  have hP : va_P D vwCl [(w0, .inr (11, [.ref v0, .ref v1, .ref v2, .ref v3, .ref v4, .long 0, .long 0, .int 0, .int th, .ref v9, .int 0, .int 0, .int (-1), .ref v13, .int 0, .int 0, .int 0, .int 0, .int 0, .int 0, .int 0, .int 0, .int 0, .int 0, .int 0, .long 0, .int 0, .ref v27, .ref v28, .ref v29, .ref v30, .ref v31, .ref v32, .ref v33, .ref v34, .ref v35, .ref v36, .ref v37, .int 0])), (v0, .inl (cA 0, 326, .inl fs))] H := hP
  have hD : va_D A [(w0, .inr (11, [.ref v0, .ref v1, .ref v2, .ref v3, .ref v4, .long 0, .long 0, .int 0, .int th, .ref v9, .int 0, .int 0, .int (-1), .ref v13, .int 0, .int 0, .int 0, .int 0, .int 0, .int 0, .int 0, .int 0, .int 0, .int 0, .int 0, .long 0, .int 0, .ref v27, .ref v28, .ref v29, .ref v30, .ref v31, .ref v32, .ref v33, .ref v34, .ref v35, .ref v36, .ref v37, .int 0])), (v0, .inl (cA 0, 326, .inl fs))] := hD
  obtain rfl : rn3 = 0 := hw
  have hP9 := hP.sub (ws' := [(w0, .inr (11, [.ref v0, .ref v1, .ref v2, .ref v3, .ref v4, .long 0, .long 0, .int 0, .int th, .ref v9, .int 0, .int 0, .int (-1), .ref v13, .int 0, .int 0, .int 0, .int 0, .int 0, .int 0, .int 0, .int 0, .int 0, .int 0, .int 0, .long 0, .int 0, .ref v27, .ref v28, .ref v29, .ref v30, .ref v31, .ref v32, .ref v33, .ref v34, .ref v35, .ref v36, .ref v37, .int 0])), (v0, .inl (cA 0, 326, .inl fs))]) [0, 1] rfl
  have hD9 := hD.sub (ws' := [(w0, .inr (11, [.ref v0, .ref v1, .ref v2, .ref v3, .ref v4, .long 0, .long 0, .int 0, .int th, .ref v9, .int 0, .int 0, .int (-1), .ref v13, .int 0, .int 0, .int 0, .int 0, .int 0, .int 0, .int 0, .int 0, .int 0, .int 0, .int 0, .long 0, .int 0, .ref v27, .ref v28, .ref v29, .ref v30, .ref v31, .ref v32, .ref v33, .ref v34, .ref v35, .ref v36, .ref v37, .int 0])), (v0, .inl (cA 0, 326, .inl fs))]) [0, 1] (by decide) rfl
  refine W.widen (k := 0) (n := 0) (Nat.le_of_ble_eq_true rfl) (Nat.le_of_ble_eq_true rfl) ?_
  exact W.zret (v := 0) hx hb hr (by first | rfl | decide) (fun t ht hW => ⟨⟨0, (), rfl, rfl, by rw [ht]; exact hP9, hD9⟩, hS.F ht⟩) hS.2.2 dX10_isProof_16

set_option maxHeartbeats 4000000 in
set_option maxRecDepth 100000 in
/-- thrown() -/
theorem c_m_thrown (l : Launch) (D : va_G) (cA : Nat → ClassId) (sa : Nat → Nat) (w0 v0 v1 v2 v3 v4 v9 v13 v27 v28 v29 v30 v31 v32 v33 v34 v35 v36 v37 : Nat) (th : Int32) (sz : Nat) : Met l yX10_thrown wsX10_thrown ({ frames := 0, cells := 0, slots := 0, locals := 0 }) (va_Pc [.ref w0] (Wd D cA sa [(w0, .inr (11, [.ref v0, .ref v1, .ref v2, .ref v3, .ref v4, .long 0, .long 0, .int 0, .int th, .ref v9, .int 0, .int 0, .int (-1), .ref v13, .int 0, .int 0, .int 0, .int 0, .int 0, .int 0, .int 0, .int 0, .int 0, .int 0, .int 0, .long 0, .int 0, .ref v27, .ref v28, .ref v29, .ref v30, .ref v31, .ref v32, .ref v33, .ref v34, .ref v35, .ref v36, .ref v37, .int 0]))] sz)) (va_Qi (fun (r : Int32) (_ : Unit) => r = th) (fun (_ : Unit) t => Wq D (va_A [(w0, .inr (11, [.ref v0, .ref v1, .ref v2, .ref v3, .ref v4, .long 0, .long 0, .int 0, .int th, .ref v9, .int 0, .int 0, .int (-1), .ref v13, .int 0, .int 0, .int 0, .int 0, .int 0, .int 0, .int 0, .int 0, .int 0, .int 0, .int 0, .long 0, .int 0, .ref v27, .ref v28, .ref v29, .ref v30, .ref v31, .ref v32, .ref v33, .ref v34, .ref v35, .ref v36, .ref v37, .int 0]))] sz) [(w0, .inr (11, [.ref v0, .ref v1, .ref v2, .ref v3, .ref v4, .long 0, .long 0, .int 0, .int th, .ref v9, .int 0, .int 0, .int (-1), .ref v13, .int 0, .int 0, .int 0, .int 0, .int 0, .int 0, .int 0, .int 0, .int 0, .int 0, .int 0, .long 0, .int 0, .ref v27, .ref v28, .ref v29, .ref v30, .ref v31, .ref v32, .ref v33, .ref v34, .ref v35, .ref v36, .ref v37, .int 0]))] t) (va_A [(w0, .inr (11, [.ref v0, .ref v1, .ref v2, .ref v3, .ref v4, .long 0, .long 0, .int 0, .int th, .ref v9, .int 0, .int 0, .int (-1), .ref v13, .int 0, .int 0, .int 0, .int 0, .int 0, .int 0, .int 0, .int 0, .int 0, .int 0, .int 0, .long 0, .int 0, .ref v27, .ref v28, .ref v29, .ref v30, .ref v31, .ref v32, .ref v33, .ref v34, .ref v35, .ref v36, .ref v37, .int 0]))] sz)) 0 0 (va_A [(w0, .inr (11, [.ref v0, .ref v1, .ref v2, .ref v3, .ref v4, .long 0, .long 0, .int 0, .int th, .ref v9, .int 0, .int 0, .int (-1), .ref v13, .int 0, .int 0, .int 0, .int 0, .int 0, .int 0, .int 0, .int 0, .int 0, .int 0, .int 0, .long 0, .int 0, .ref v27, .ref v28, .ref v29, .ref v30, .ref v31, .ref v32, .ref v33, .ref v34, .ref v35, .ref v36, .ref v37, .int 0]))] sz) := by
  refine Met.ofW (cc := cX10_thrown) (maxL := 1) (ret := (some .int)) (by decide) rfl ?_
  intro p e s m args below meth c s₁ B hml hv
  obtain ⟨rfl, hsz, hP, hK, hD0, hC, hZ⟩ := hv
  have hx := B.exec
  have hb := B.bytes
  have hr := B.returns
  have hts := atoms_spec (ws := wsX10_thrown) B.pre
  have hown : s.vm.findClass RX10 = some m.cls := findClass_of_methodNamed B.named
  have hlocks := B.notSynchronized
  subst hsz
  have hD := hD0.self (sz := s.heap.size)
  generalize hAe : va_A [(w0, .inr (11, [.ref v0, .ref v1, .ref v2, .ref v3, .ref v4, .long 0, .long 0, .int 0, .int th, .ref v9, .int 0, .int 0, .int (-1), .ref v13, .int 0, .int 0, .int 0, .int 0, .int 0, .int 0, .int 0, .int 0, .int 0, .int 0, .int 0, .long 0, .int 0, .ref v27, .ref v28, .ref v29, .ref v30, .ref v31, .ref v32, .ref v33, .ref v34, .ref v35, .ref v36, .ref v37, .int 0]))] s.heap.size = A at hD hZ ⊢
  have hA : ∀ q : Nat, s.heap.size ≤ q → A q := fun q h => by rw [← hAe]; exact Or.inr h
  have hS : va_S A s.heap s.heap [] := va_S.rf
  have hP : va_P D vwCl [(w0, .inr (11, [.ref v0, .ref v1, .ref v2, .ref v3, .ref v4, .long 0, .long 0, .int 0, .int th, .ref v9, .int 0, .int 0, .int (-1), .ref v13, .int 0, .int 0, .int 0, .int 0, .int 0, .int 0, .int 0, .int 0, .int 0, .int 0, .int 0, .long 0, .int 0, .ref v27, .ref v28, .ref v29, .ref v30, .ref v31, .ref v32, .ref v33, .ref v34, .ref v35, .ref v36, .ref v37, .int 0]))] s.heap := hP
  have hl := lv_entry ([.ref w0]) (n := 1) (Nat.le_of_ble_eq_true rfl)
  rw [lg_entry_eq]
  generalize (lg_sl ([.ref w0]) ++ List.replicate (1 - (lg_sl ([.ref w0])).length) Slot.unset).toArray = ls at hl ⊢
  have hl : lv_has ls 1 [(0, .ref w0)] := hl
  have inX10 : ∀ w ∈ u_ws RX10 TX10 39, w ∈ wsX10_thrown := by decide +kernel
  refine lv_aload_n hx hb dX10_thrown_0 rfl (lv_at hl 0 rfl) ?_
  refine va_get (D := D) (ci := 11) (v := .int th) (C := RX10) (T := TX10) (N := 39) hx hb hts inX10 hown hK hP 0 rfl rfl 8 (by decide) (hts (.fieldLink RX10 80 "EscrowDeskModel" "thrown" "I") (by decide +kernel)) (fun _ h9 => h9) rfl dX10_thrown_1 ?_
  have hP9 := hP.sub (ws' := [(w0, .inr (11, [.ref v0, .ref v1, .ref v2, .ref v3, .ref v4, .long 0, .long 0, .int 0, .int th, .ref v9, .int 0, .int 0, .int (-1), .ref v13, .int 0, .int 0, .int 0, .int 0, .int 0, .int 0, .int 0, .int 0, .int 0, .int 0, .int 0, .long 0, .int 0, .ref v27, .ref v28, .ref v29, .ref v30, .ref v31, .ref v32, .ref v33, .ref v34, .ref v35, .ref v36, .ref v37, .int 0]))]) [0] rfl
  have hD9 := hD.sub (ws' := [(w0, .inr (11, [.ref v0, .ref v1, .ref v2, .ref v3, .ref v4, .long 0, .long 0, .int 0, .int th, .ref v9, .int 0, .int 0, .int (-1), .ref v13, .int 0, .int 0, .int 0, .int 0, .int 0, .int 0, .int 0, .int 0, .int 0, .int 0, .int 0, .long 0, .int 0, .ref v27, .ref v28, .ref v29, .ref v30, .ref v31, .ref v32, .ref v33, .ref v34, .ref v35, .ref v36, .ref v37, .int 0]))]) [0] (by decide) rfl
  refine W.widen (k := 0) (n := 0) (Nat.le_of_ble_eq_true rfl) (Nat.le_of_ble_eq_true rfl) ?_
  exact W.iret (v := th) hx hb hr (fun t ht hW => ⟨⟨th, (), rfl, rfl, by rw [ht]; exact hP9, hD9⟩, hS.F ht⟩) hS.2.2 dX10_thrown_4

set_option maxHeartbeats 4000000 in
set_option maxRecDepth 100000 in
/-- good(0) -/
theorem c_m_good_0 (l : Launch) (D : va_G) (cA : Nat → ClassId) (sa : Nat → Nat) (w0 v0 v1 v2 v3 v4 v9 v13 v27 v28 v29 v30 v31 v32 v33 v34 v35 v36 v37 : Nat) (th : Int32) (sz : Nat) : Met l yX10_good wsX10_good ({ frames := 0, cells := 0, slots := 0, locals := 0 }) (va_Pc [.ref w0, .int 0] (Wd D cA sa [(w0, .inr (11, [.ref v0, .ref v1, .ref v2, .ref v3, .ref v4, .long 0, .long 0, .int 0, .int th, .ref v9, .int 0, .int 0, .int (-1), .ref v13, .int 0, .int 0, .int 0, .int 0, .int 0, .int 0, .int 0, .int 0, .int 0, .int 0, .int 0, .long 0, .int 0, .ref v27, .ref v28, .ref v29, .ref v30, .ref v31, .ref v32, .ref v33, .ref v34, .ref v35, .ref v36, .ref v37, .int 0]))] sz)) (va_Qi (fun (r : Int32) (_ : Unit) => r = 0) (fun (_ : Unit) t => Wq D (va_A [(w0, .inr (11, [.ref v0, .ref v1, .ref v2, .ref v3, .ref v4, .long 0, .long 0, .int 0, .int th, .ref v9, .int 0, .int 0, .int (-1), .ref v13, .int 0, .int 0, .int 0, .int 0, .int 0, .int 0, .int 0, .int 0, .int 0, .int 0, .int 0, .long 0, .int 0, .ref v27, .ref v28, .ref v29, .ref v30, .ref v31, .ref v32, .ref v33, .ref v34, .ref v35, .ref v36, .ref v37, .int 0]))] sz) [(w0, .inr (11, [.ref v0, .ref v1, .ref v2, .ref v3, .ref v4, .long 0, .long 0, .int 0, .int 1, .ref v9, .int 0, .int 0, .int (-1), .ref v13, .int 0, .int 0, .int 0, .int 0, .int 0, .int 0, .int 0, .int 0, .int 0, .int 0, .int 0, .long 0, .int 0, .ref v27, .ref v28, .ref v29, .ref v30, .ref v31, .ref v32, .ref v33, .ref v34, .ref v35, .ref v36, .ref v37, .int 0]))] t) (va_A [(w0, .inr (11, [.ref v0, .ref v1, .ref v2, .ref v3, .ref v4, .long 0, .long 0, .int 0, .int th, .ref v9, .int 0, .int 0, .int (-1), .ref v13, .int 0, .int 0, .int 0, .int 0, .int 0, .int 0, .int 0, .int 0, .int 0, .int 0, .int 0, .long 0, .int 0, .ref v27, .ref v28, .ref v29, .ref v30, .ref v31, .ref v32, .ref v33, .ref v34, .ref v35, .ref v36, .ref v37, .int 0]))] sz)) 0 0 (va_A [(w0, .inr (11, [.ref v0, .ref v1, .ref v2, .ref v3, .ref v4, .long 0, .long 0, .int 0, .int th, .ref v9, .int 0, .int 0, .int (-1), .ref v13, .int 0, .int 0, .int 0, .int 0, .int 0, .int 0, .int 0, .int 0, .int 0, .int 0, .int 0, .long 0, .int 0, .ref v27, .ref v28, .ref v29, .ref v30, .ref v31, .ref v32, .ref v33, .ref v34, .ref v35, .ref v36, .ref v37, .int 0]))] sz) := by
  refine Met.ofW (cc := cX10_good) (maxL := 2) (ret := (some .boolean)) (by decide) rfl ?_
  intro p e s m args below meth c s₁ B hml hv
  obtain ⟨rfl, hsz, hP, hK, hD0, hC, hZ⟩ := hv
  have hx := B.exec
  have hb := B.bytes
  have hr := B.returns
  have hts := atoms_spec (ws := wsX10_good) B.pre
  have hown : s.vm.findClass RX10 = some m.cls := findClass_of_methodNamed B.named
  have hlocks := B.notSynchronized
  subst hsz
  have hD := hD0.self (sz := s.heap.size)
  generalize hAe : va_A [(w0, .inr (11, [.ref v0, .ref v1, .ref v2, .ref v3, .ref v4, .long 0, .long 0, .int 0, .int th, .ref v9, .int 0, .int 0, .int (-1), .ref v13, .int 0, .int 0, .int 0, .int 0, .int 0, .int 0, .int 0, .int 0, .int 0, .int 0, .int 0, .long 0, .int 0, .ref v27, .ref v28, .ref v29, .ref v30, .ref v31, .ref v32, .ref v33, .ref v34, .ref v35, .ref v36, .ref v37, .int 0]))] s.heap.size = A at hD hZ ⊢
  have hA : ∀ q : Nat, s.heap.size ≤ q → A q := fun q h => by rw [← hAe]; exact Or.inr h
  have hS : va_S A s.heap s.heap [] := va_S.rf
  have hP : va_P D vwCl [(w0, .inr (11, [.ref v0, .ref v1, .ref v2, .ref v3, .ref v4, .long 0, .long 0, .int 0, .int th, .ref v9, .int 0, .int 0, .int (-1), .ref v13, .int 0, .int 0, .int 0, .int 0, .int 0, .int 0, .int 0, .int 0, .int 0, .int 0, .int 0, .long 0, .int 0, .ref v27, .ref v28, .ref v29, .ref v30, .ref v31, .ref v32, .ref v33, .ref v34, .ref v35, .ref v36, .ref v37, .int 0]))] s.heap := hP
  have hl := lv_entry ([.ref w0, .int 0]) (n := 2) (Nat.le_of_ble_eq_true rfl)
  rw [lg_entry_eq]
  generalize (lg_sl ([.ref w0, .int 0]) ++ List.replicate (2 - (lg_sl ([.ref w0, .int 0])).length) Slot.unset).toArray = ls at hl ⊢
  have hl : lv_has ls 2 [(0, .ref w0), (1, .int 0)] := hl
  have inX10 : ∀ w ∈ u_ws RX10 TX10 39, w ∈ wsX10_good := by decide +kernel
  refine lv_aload_n hx hb dX10_good_0 rfl (lv_at hl 0 rfl) ?_
  refine lv_iload_n hx hb dX10_good_1 rfl (lv_at hl 1 rfl) ?_
  refine lv_if_eq (tgt := 9) hx hb dX10_good_2 (by decide) (fun c1 => ?_) (fun c9 => absurd c9 (by decide))
  refine lv_iconst (v := 1) hx hb dX10_good_9 (by decide) ?_
  refine va_put (D := D) (ci := 11) (v := .int 1) (ty := .int) (C := RX10) (T := TX10) (N := 39) hx hb hts inX10 tyX10 tyX10_ok nmX10 hown hK hP hD hS 0 rfl rfl 8 (by decide) (hts (.fieldLink RX10 80 "EscrowDeskModel" "thrown" "I") (by decide +kernel)) (fun _ h9 => h9) rfl (by decide +kernel) rfl rfl (Nat.le_of_ble_eq_true rfl) dX10_good_10 (fun H locs hP hD hS => ?_)
  have hP : va_P D vwCl [(w0, .inr (11, [.ref v0, .ref v1, .ref v2, .ref v3, .ref v4, .long 0, .long 0, .int 0, .int 1, .ref v9, .int 0, .int 0, .int (-1), .ref v13, .int 0, .int 0, .int 0, .int 0, .int 0, .int 0, .int 0, .int 0, .int 0, .int 0, .int 0, .long 0, .int 0, .ref v27, .ref v28, .ref v29, .ref v30, .ref v31, .ref v32, .ref v33, .ref v34, .ref v35, .ref v36, .ref v37, .int 0]))] H := hP
  have hD : va_D A [(w0, .inr (11, [.ref v0, .ref v1, .ref v2, .ref v3, .ref v4, .long 0, .long 0, .int 0, .int 1, .ref v9, .int 0, .int 0, .int (-1), .ref v13, .int 0, .int 0, .int 0, .int 0, .int 0, .int 0, .int 0, .int 0, .int 0, .int 0, .int 0, .long 0, .int 0, .ref v27, .ref v28, .ref v29, .ref v30, .ref v31, .ref v32, .ref v33, .ref v34, .ref v35, .ref v36, .ref v37, .int 0]))] := hD
  refine lv_iload_n hx hb dX10_good_13 rfl (lv_at hl 1 rfl) ?_
  have hP9 := hP.sub (ws' := [(w0, .inr (11, [.ref v0, .ref v1, .ref v2, .ref v3, .ref v4, .long 0, .long 0, .int 0, .int 1, .ref v9, .int 0, .int 0, .int (-1), .ref v13, .int 0, .int 0, .int 0, .int 0, .int 0, .int 0, .int 0, .int 0, .int 0, .int 0, .int 0, .long 0, .int 0, .ref v27, .ref v28, .ref v29, .ref v30, .ref v31, .ref v32, .ref v33, .ref v34, .ref v35, .ref v36, .ref v37, .int 0]))]) [0] rfl
  have hD9 := hD.sub (ws' := [(w0, .inr (11, [.ref v0, .ref v1, .ref v2, .ref v3, .ref v4, .long 0, .long 0, .int 0, .int 1, .ref v9, .int 0, .int 0, .int (-1), .ref v13, .int 0, .int 0, .int 0, .int 0, .int 0, .int 0, .int 0, .int 0, .int 0, .int 0, .int 0, .long 0, .int 0, .ref v27, .ref v28, .ref v29, .ref v30, .ref v31, .ref v32, .ref v33, .ref v34, .ref v35, .ref v36, .ref v37, .int 0]))]) [0] (by decide) rfl
  refine W.widen (k := 0) (n := 0) (Nat.le_of_ble_eq_true rfl) (Nat.le_of_ble_eq_true rfl) ?_
  exact W.zret (v := 0) hx hb hr (by first | rfl | decide) (fun t ht hW => ⟨⟨0, (), rfl, rfl, by rw [ht]; exact hP9, hD9⟩, hS.F ht⟩) hS.2.2 dX10_good_14

set_option maxHeartbeats 4000000 in
set_option maxRecDepth 100000 in
/-- good(1) -/
theorem c_m_good_1 (l : Launch) (D : va_G) (cA : Nat → ClassId) (sa : Nat → Nat) (w0 v0 v1 v2 v3 v4 v9 v13 v27 v28 v29 v30 v31 v32 v33 v34 v35 v36 v37 : Nat) (th : Int32) (sz : Nat) : Met l yX10_good wsX10_good ({ frames := 0, cells := 0, slots := 0, locals := 0 }) (va_Pc [.ref w0, .int 1] (Wd D cA sa [(w0, .inr (11, [.ref v0, .ref v1, .ref v2, .ref v3, .ref v4, .long 0, .long 0, .int 0, .int th, .ref v9, .int 0, .int 0, .int (-1), .ref v13, .int 0, .int 0, .int 0, .int 0, .int 0, .int 0, .int 0, .int 0, .int 0, .int 0, .int 0, .long 0, .int 0, .ref v27, .ref v28, .ref v29, .ref v30, .ref v31, .ref v32, .ref v33, .ref v34, .ref v35, .ref v36, .ref v37, .int 0]))] sz)) (va_Qi (fun (r : Int32) (_ : Unit) => r = 1) (fun (_ : Unit) t => Wq D (va_A [(w0, .inr (11, [.ref v0, .ref v1, .ref v2, .ref v3, .ref v4, .long 0, .long 0, .int 0, .int th, .ref v9, .int 0, .int 0, .int (-1), .ref v13, .int 0, .int 0, .int 0, .int 0, .int 0, .int 0, .int 0, .int 0, .int 0, .int 0, .int 0, .long 0, .int 0, .ref v27, .ref v28, .ref v29, .ref v30, .ref v31, .ref v32, .ref v33, .ref v34, .ref v35, .ref v36, .ref v37, .int 0]))] sz) [(w0, .inr (11, [.ref v0, .ref v1, .ref v2, .ref v3, .ref v4, .long 0, .long 0, .int 0, .int 0, .ref v9, .int 0, .int 0, .int (-1), .ref v13, .int 0, .int 0, .int 0, .int 0, .int 0, .int 0, .int 0, .int 0, .int 0, .int 0, .int 0, .long 0, .int 0, .ref v27, .ref v28, .ref v29, .ref v30, .ref v31, .ref v32, .ref v33, .ref v34, .ref v35, .ref v36, .ref v37, .int 0]))] t) (va_A [(w0, .inr (11, [.ref v0, .ref v1, .ref v2, .ref v3, .ref v4, .long 0, .long 0, .int 0, .int th, .ref v9, .int 0, .int 0, .int (-1), .ref v13, .int 0, .int 0, .int 0, .int 0, .int 0, .int 0, .int 0, .int 0, .int 0, .int 0, .int 0, .long 0, .int 0, .ref v27, .ref v28, .ref v29, .ref v30, .ref v31, .ref v32, .ref v33, .ref v34, .ref v35, .ref v36, .ref v37, .int 0]))] sz)) 0 0 (va_A [(w0, .inr (11, [.ref v0, .ref v1, .ref v2, .ref v3, .ref v4, .long 0, .long 0, .int 0, .int th, .ref v9, .int 0, .int 0, .int (-1), .ref v13, .int 0, .int 0, .int 0, .int 0, .int 0, .int 0, .int 0, .int 0, .int 0, .int 0, .int 0, .long 0, .int 0, .ref v27, .ref v28, .ref v29, .ref v30, .ref v31, .ref v32, .ref v33, .ref v34, .ref v35, .ref v36, .ref v37, .int 0]))] sz) := by
  refine Met.ofW (cc := cX10_good) (maxL := 2) (ret := (some .boolean)) (by decide) rfl ?_
  intro p e s m args below meth c s₁ B hml hv
  obtain ⟨rfl, hsz, hP, hK, hD0, hC, hZ⟩ := hv
  have hx := B.exec
  have hb := B.bytes
  have hr := B.returns
  have hts := atoms_spec (ws := wsX10_good) B.pre
  have hown : s.vm.findClass RX10 = some m.cls := findClass_of_methodNamed B.named
  have hlocks := B.notSynchronized
  subst hsz
  have hD := hD0.self (sz := s.heap.size)
  generalize hAe : va_A [(w0, .inr (11, [.ref v0, .ref v1, .ref v2, .ref v3, .ref v4, .long 0, .long 0, .int 0, .int th, .ref v9, .int 0, .int 0, .int (-1), .ref v13, .int 0, .int 0, .int 0, .int 0, .int 0, .int 0, .int 0, .int 0, .int 0, .int 0, .int 0, .long 0, .int 0, .ref v27, .ref v28, .ref v29, .ref v30, .ref v31, .ref v32, .ref v33, .ref v34, .ref v35, .ref v36, .ref v37, .int 0]))] s.heap.size = A at hD hZ ⊢
  have hA : ∀ q : Nat, s.heap.size ≤ q → A q := fun q h => by rw [← hAe]; exact Or.inr h
  have hS : va_S A s.heap s.heap [] := va_S.rf
  have hP : va_P D vwCl [(w0, .inr (11, [.ref v0, .ref v1, .ref v2, .ref v3, .ref v4, .long 0, .long 0, .int 0, .int th, .ref v9, .int 0, .int 0, .int (-1), .ref v13, .int 0, .int 0, .int 0, .int 0, .int 0, .int 0, .int 0, .int 0, .int 0, .int 0, .int 0, .long 0, .int 0, .ref v27, .ref v28, .ref v29, .ref v30, .ref v31, .ref v32, .ref v33, .ref v34, .ref v35, .ref v36, .ref v37, .int 0]))] s.heap := hP
  have hl := lv_entry ([.ref w0, .int 1]) (n := 2) (Nat.le_of_ble_eq_true rfl)
  rw [lg_entry_eq]
  generalize (lg_sl ([.ref w0, .int 1]) ++ List.replicate (2 - (lg_sl ([.ref w0, .int 1])).length) Slot.unset).toArray = ls at hl ⊢
  have hl : lv_has ls 2 [(0, .ref w0), (1, .int 1)] := hl
  have inX10 : ∀ w ∈ u_ws RX10 TX10 39, w ∈ wsX10_good := by decide +kernel
  refine lv_aload_n hx hb dX10_good_0 rfl (lv_at hl 0 rfl) ?_
  refine lv_iload_n hx hb dX10_good_1 rfl (lv_at hl 1 rfl) ?_
  refine lv_if_eq (tgt := 9) hx hb dX10_good_2 (by decide) (fun c9 => absurd c9 (by decide)) (fun c1 => ?_)
  refine lv_iconst (v := 0) hx hb dX10_good_5 (by decide) ?_
  refine lv_goto (tgt := 10) hx hb dX10_good_6 (by decide) ?_
  refine va_put (D := D) (ci := 11) (v := .int 0) (ty := .int) (C := RX10) (T := TX10) (N := 39) hx hb hts inX10 tyX10 tyX10_ok nmX10 hown hK hP hD hS 0 rfl rfl 8 (by decide) (hts (.fieldLink RX10 80 "EscrowDeskModel" "thrown" "I") (by decide +kernel)) (fun _ h9 => h9) rfl (by decide +kernel) rfl rfl (Nat.le_of_ble_eq_true rfl) dX10_good_10 (fun H locs hP hD hS => ?_)
  have hP : va_P D vwCl [(w0, .inr (11, [.ref v0, .ref v1, .ref v2, .ref v3, .ref v4, .long 0, .long 0, .int 0, .int 0, .ref v9, .int 0, .int 0, .int (-1), .ref v13, .int 0, .int 0, .int 0, .int 0, .int 0, .int 0, .int 0, .int 0, .int 0, .int 0, .int 0, .long 0, .int 0, .ref v27, .ref v28, .ref v29, .ref v30, .ref v31, .ref v32, .ref v33, .ref v34, .ref v35, .ref v36, .ref v37, .int 0]))] H := hP
  have hD : va_D A [(w0, .inr (11, [.ref v0, .ref v1, .ref v2, .ref v3, .ref v4, .long 0, .long 0, .int 0, .int 0, .ref v9, .int 0, .int 0, .int (-1), .ref v13, .int 0, .int 0, .int 0, .int 0, .int 0, .int 0, .int 0, .int 0, .int 0, .int 0, .int 0, .long 0, .int 0, .ref v27, .ref v28, .ref v29, .ref v30, .ref v31, .ref v32, .ref v33, .ref v34, .ref v35, .ref v36, .ref v37, .int 0]))] := hD
  refine lv_iload_n hx hb dX10_good_13 rfl (lv_at hl 1 rfl) ?_
  have hP9 := hP.sub (ws' := [(w0, .inr (11, [.ref v0, .ref v1, .ref v2, .ref v3, .ref v4, .long 0, .long 0, .int 0, .int 0, .ref v9, .int 0, .int 0, .int (-1), .ref v13, .int 0, .int 0, .int 0, .int 0, .int 0, .int 0, .int 0, .int 0, .int 0, .int 0, .int 0, .long 0, .int 0, .ref v27, .ref v28, .ref v29, .ref v30, .ref v31, .ref v32, .ref v33, .ref v34, .ref v35, .ref v36, .ref v37, .int 0]))]) [0] rfl
  have hD9 := hD.sub (ws' := [(w0, .inr (11, [.ref v0, .ref v1, .ref v2, .ref v3, .ref v4, .long 0, .long 0, .int 0, .int 0, .ref v9, .int 0, .int 0, .int (-1), .ref v13, .int 0, .int 0, .int 0, .int 0, .int 0, .int 0, .int 0, .int 0, .int 0, .int 0, .int 0, .long 0, .int 0, .ref v27, .ref v28, .ref v29, .ref v30, .ref v31, .ref v32, .ref v33, .ref v34, .ref v35, .ref v36, .ref v37, .int 0]))]) [0] (by decide) rfl
  refine W.widen (k := 0) (n := 0) (Nat.le_of_ble_eq_true rfl) (Nat.le_of_ble_eq_true rfl) ?_
  exact W.zret (v := 1) hx hb hr (by first | rfl | decide) (fun t ht hW => ⟨⟨1, (), rfl, rfl, by rw [ht]; exact hP9, hD9⟩, hS.F ht⟩) hS.2.2 dX10_good_14

set_option maxHeartbeats 4000000 in
set_option maxRecDepth 100000 in
/-- good(0, b) -/
theorem c_m_good2_0 (l : Launch) (D : va_G) (cA : Nat → ClassId) (sa : Nat → Nat) (w0 v0 v1 v2 v3 v4 v9 v13 v27 v28 v29 v30 v31 v32 v33 v34 v35 v36 v37 : Nat) (th b : Int32) (sz : Nat) : Met l yX10_good_ wsX10_good_ ({ frames := 0, cells := 0, slots := 0, locals := 0 }) (va_Pc [.ref w0, .int 0, .int b] (Wd D cA sa [(w0, .inr (11, [.ref v0, .ref v1, .ref v2, .ref v3, .ref v4, .long 0, .long 0, .int 0, .int th, .ref v9, .int 0, .int 0, .int (-1), .ref v13, .int 0, .int 0, .int 0, .int 0, .int 0, .int 0, .int 0, .int 0, .int 0, .int 0, .int 0, .long 0, .int 0, .ref v27, .ref v28, .ref v29, .ref v30, .ref v31, .ref v32, .ref v33, .ref v34, .ref v35, .ref v36, .ref v37, .int 0]))] sz)) (va_Qi (fun (r : Int32) (_ : Unit) => r = 0) (fun (_ : Unit) t => Wq D (va_A [(w0, .inr (11, [.ref v0, .ref v1, .ref v2, .ref v3, .ref v4, .long 0, .long 0, .int 0, .int th, .ref v9, .int 0, .int 0, .int (-1), .ref v13, .int 0, .int 0, .int 0, .int 0, .int 0, .int 0, .int 0, .int 0, .int 0, .int 0, .int 0, .long 0, .int 0, .ref v27, .ref v28, .ref v29, .ref v30, .ref v31, .ref v32, .ref v33, .ref v34, .ref v35, .ref v36, .ref v37, .int 0]))] sz) [(w0, .inr (11, [.ref v0, .ref v1, .ref v2, .ref v3, .ref v4, .long 0, .long 0, .int 0, .int 1, .ref v9, .int 0, .int 0, .int (-1), .ref v13, .int 0, .int 0, .int 0, .int 0, .int 0, .int 0, .int 0, .int 0, .int 0, .int 0, .int 0, .long 0, .int 0, .ref v27, .ref v28, .ref v29, .ref v30, .ref v31, .ref v32, .ref v33, .ref v34, .ref v35, .ref v36, .ref v37, .int 0]))] t) (va_A [(w0, .inr (11, [.ref v0, .ref v1, .ref v2, .ref v3, .ref v4, .long 0, .long 0, .int 0, .int th, .ref v9, .int 0, .int 0, .int (-1), .ref v13, .int 0, .int 0, .int 0, .int 0, .int 0, .int 0, .int 0, .int 0, .int 0, .int 0, .int 0, .long 0, .int 0, .ref v27, .ref v28, .ref v29, .ref v30, .ref v31, .ref v32, .ref v33, .ref v34, .ref v35, .ref v36, .ref v37, .int 0]))] sz)) 0 0 (va_A [(w0, .inr (11, [.ref v0, .ref v1, .ref v2, .ref v3, .ref v4, .long 0, .long 0, .int 0, .int th, .ref v9, .int 0, .int 0, .int (-1), .ref v13, .int 0, .int 0, .int 0, .int 0, .int 0, .int 0, .int 0, .int 0, .int 0, .int 0, .int 0, .long 0, .int 0, .ref v27, .ref v28, .ref v29, .ref v30, .ref v31, .ref v32, .ref v33, .ref v34, .ref v35, .ref v36, .ref v37, .int 0]))] sz) := by
  refine Met.ofW (cc := cX10_good_) (maxL := 3) (ret := (some .boolean)) (by decide) rfl ?_
  intro p e s m args below meth c s₁ B hml hv
  obtain ⟨rfl, hsz, hP, hK, hD0, hC, hZ⟩ := hv
  have hx := B.exec
  have hb := B.bytes
  have hr := B.returns
  have hts := atoms_spec (ws := wsX10_good_) B.pre
  have hown : s.vm.findClass RX10 = some m.cls := findClass_of_methodNamed B.named
  have hlocks := B.notSynchronized
  subst hsz
  have hD := hD0.self (sz := s.heap.size)
  generalize hAe : va_A [(w0, .inr (11, [.ref v0, .ref v1, .ref v2, .ref v3, .ref v4, .long 0, .long 0, .int 0, .int th, .ref v9, .int 0, .int 0, .int (-1), .ref v13, .int 0, .int 0, .int 0, .int 0, .int 0, .int 0, .int 0, .int 0, .int 0, .int 0, .int 0, .long 0, .int 0, .ref v27, .ref v28, .ref v29, .ref v30, .ref v31, .ref v32, .ref v33, .ref v34, .ref v35, .ref v36, .ref v37, .int 0]))] s.heap.size = A at hD hZ ⊢
  have hA : ∀ q : Nat, s.heap.size ≤ q → A q := fun q h => by rw [← hAe]; exact Or.inr h
  have hS : va_S A s.heap s.heap [] := va_S.rf
  have hP : va_P D vwCl [(w0, .inr (11, [.ref v0, .ref v1, .ref v2, .ref v3, .ref v4, .long 0, .long 0, .int 0, .int th, .ref v9, .int 0, .int 0, .int (-1), .ref v13, .int 0, .int 0, .int 0, .int 0, .int 0, .int 0, .int 0, .int 0, .int 0, .int 0, .int 0, .long 0, .int 0, .ref v27, .ref v28, .ref v29, .ref v30, .ref v31, .ref v32, .ref v33, .ref v34, .ref v35, .ref v36, .ref v37, .int 0]))] s.heap := hP
  have hl := lv_entry ([.ref w0, .int 0, .int b]) (n := 3) (Nat.le_of_ble_eq_true rfl)
  rw [lg_entry_eq]
  generalize (lg_sl ([.ref w0, .int 0, .int b]) ++ List.replicate (3 - (lg_sl ([.ref w0, .int 0, .int b])).length) Slot.unset).toArray = ls at hl ⊢
  have hl : lv_has ls 3 [(0, .ref w0), (1, .int 0), (2, .int b)] := hl
  have inX10 : ∀ w ∈ u_ws RX10 TX10 39, w ∈ wsX10_good_ := by decide +kernel
  refine lv_aload_n hx hb dX10_good__0 rfl (lv_at hl 0 rfl) ?_
  refine lv_iload_n hx hb dX10_good__1 rfl (lv_at hl 1 rfl) ?_
  refine lv_if_ne (tgt := 9) hx hb dX10_good__2 (by decide) (fun c9 => absurd c9 (by decide)) (fun c1 => ?_)
  refine lv_iconst (v := 1) hx hb dX10_good__5 (by decide) ?_
  refine lv_goto (tgt := 18) hx hb dX10_good__6 (by decide) ?_
  refine va_put (D := D) (ci := 11) (v := .int 1) (ty := .int) (C := RX10) (T := TX10) (N := 39) hx hb hts inX10 tyX10 tyX10_ok nmX10 hown hK hP hD hS 0 rfl rfl 8 (by decide) (hts (.fieldLink RX10 80 "EscrowDeskModel" "thrown" "I") (by decide +kernel)) (fun _ h9 => h9) rfl (by decide +kernel) rfl rfl (Nat.le_of_ble_eq_true rfl) dX10_good__18 (fun H locs hP hD hS => ?_)
  have hP : va_P D vwCl [(w0, .inr (11, [.ref v0, .ref v1, .ref v2, .ref v3, .ref v4, .long 0, .long 0, .int 0, .int 1, .ref v9, .int 0, .int 0, .int (-1), .ref v13, .int 0, .int 0, .int 0, .int 0, .int 0, .int 0, .int 0, .int 0, .int 0, .int 0, .int 0, .long 0, .int 0, .ref v27, .ref v28, .ref v29, .ref v30, .ref v31, .ref v32, .ref v33, .ref v34, .ref v35, .ref v36, .ref v37, .int 0]))] H := hP
  have hD : va_D A [(w0, .inr (11, [.ref v0, .ref v1, .ref v2, .ref v3, .ref v4, .long 0, .long 0, .int 0, .int 1, .ref v9, .int 0, .int 0, .int (-1), .ref v13, .int 0, .int 0, .int 0, .int 0, .int 0, .int 0, .int 0, .int 0, .int 0, .int 0, .int 0, .long 0, .int 0, .ref v27, .ref v28, .ref v29, .ref v30, .ref v31, .ref v32, .ref v33, .ref v34, .ref v35, .ref v36, .ref v37, .int 0]))] := hD
  refine lv_aload_n hx hb dX10_good__21 rfl (lv_at hl 0 rfl) ?_
  refine va_get (D := D) (ci := 11) (v := .int 1) (C := RX10) (T := TX10) (N := 39) hx hb hts inX10 hown hK hP 0 rfl rfl 8 (by decide) (hts (.fieldLink RX10 80 "EscrowDeskModel" "thrown" "I") (by decide +kernel)) (fun _ h9 => h9) rfl dX10_good__22 ?_
  refine lv_if_ne (tgt := 32) hx hb dX10_good__25 (by decide) (fun c2 => ?_) (fun c9 => absurd c9 (by decide))
  refine lv_iconst (v := 0) hx hb dX10_good__32 (by decide) ?_
  have hP9 := hP.sub (ws' := [(w0, .inr (11, [.ref v0, .ref v1, .ref v2, .ref v3, .ref v4, .long 0, .long 0, .int 0, .int 1, .ref v9, .int 0, .int 0, .int (-1), .ref v13, .int 0, .int 0, .int 0, .int 0, .int 0, .int 0, .int 0, .int 0, .int 0, .int 0, .int 0, .long 0, .int 0, .ref v27, .ref v28, .ref v29, .ref v30, .ref v31, .ref v32, .ref v33, .ref v34, .ref v35, .ref v36, .ref v37, .int 0]))]) [0] rfl
  have hD9 := hD.sub (ws' := [(w0, .inr (11, [.ref v0, .ref v1, .ref v2, .ref v3, .ref v4, .long 0, .long 0, .int 0, .int 1, .ref v9, .int 0, .int 0, .int (-1), .ref v13, .int 0, .int 0, .int 0, .int 0, .int 0, .int 0, .int 0, .int 0, .int 0, .int 0, .int 0, .long 0, .int 0, .ref v27, .ref v28, .ref v29, .ref v30, .ref v31, .ref v32, .ref v33, .ref v34, .ref v35, .ref v36, .ref v37, .int 0]))]) [0] (by decide) rfl
  refine W.widen (k := 0) (n := 0) (Nat.le_of_ble_eq_true rfl) (Nat.le_of_ble_eq_true rfl) ?_
  exact W.zret (v := 0) hx hb hr (by first | rfl | decide) (fun t ht hW => ⟨⟨0, (), rfl, rfl, by rw [ht]; exact hP9, hD9⟩, hS.F ht⟩) hS.2.2 dX10_good__33

set_option maxHeartbeats 4000000 in
set_option maxRecDepth 100000 in
/-- good(1, 0) -/
theorem c_m_good2_10 (l : Launch) (D : va_G) (cA : Nat → ClassId) (sa : Nat → Nat) (w0 v0 v1 v2 v3 v4 v9 v13 v27 v28 v29 v30 v31 v32 v33 v34 v35 v36 v37 : Nat) (th : Int32) (sz : Nat) : Met l yX10_good_ wsX10_good_ ({ frames := 0, cells := 0, slots := 0, locals := 0 }) (va_Pc [.ref w0, .int 1, .int 0] (Wd D cA sa [(w0, .inr (11, [.ref v0, .ref v1, .ref v2, .ref v3, .ref v4, .long 0, .long 0, .int 0, .int th, .ref v9, .int 0, .int 0, .int (-1), .ref v13, .int 0, .int 0, .int 0, .int 0, .int 0, .int 0, .int 0, .int 0, .int 0, .int 0, .int 0, .long 0, .int 0, .ref v27, .ref v28, .ref v29, .ref v30, .ref v31, .ref v32, .ref v33, .ref v34, .ref v35, .ref v36, .ref v37, .int 0]))] sz)) (va_Qi (fun (r : Int32) (_ : Unit) => r = 0) (fun (_ : Unit) t => Wq D (va_A [(w0, .inr (11, [.ref v0, .ref v1, .ref v2, .ref v3, .ref v4, .long 0, .long 0, .int 0, .int th, .ref v9, .int 0, .int 0, .int (-1), .ref v13, .int 0, .int 0, .int 0, .int 0, .int 0, .int 0, .int 0, .int 0, .int 0, .int 0, .int 0, .long 0, .int 0, .ref v27, .ref v28, .ref v29, .ref v30, .ref v31, .ref v32, .ref v33, .ref v34, .ref v35, .ref v36, .ref v37, .int 0]))] sz) [(w0, .inr (11, [.ref v0, .ref v1, .ref v2, .ref v3, .ref v4, .long 0, .long 0, .int 0, .int 2, .ref v9, .int 0, .int 0, .int (-1), .ref v13, .int 0, .int 0, .int 0, .int 0, .int 0, .int 0, .int 0, .int 0, .int 0, .int 0, .int 0, .long 0, .int 0, .ref v27, .ref v28, .ref v29, .ref v30, .ref v31, .ref v32, .ref v33, .ref v34, .ref v35, .ref v36, .ref v37, .int 0]))] t) (va_A [(w0, .inr (11, [.ref v0, .ref v1, .ref v2, .ref v3, .ref v4, .long 0, .long 0, .int 0, .int th, .ref v9, .int 0, .int 0, .int (-1), .ref v13, .int 0, .int 0, .int 0, .int 0, .int 0, .int 0, .int 0, .int 0, .int 0, .int 0, .int 0, .long 0, .int 0, .ref v27, .ref v28, .ref v29, .ref v30, .ref v31, .ref v32, .ref v33, .ref v34, .ref v35, .ref v36, .ref v37, .int 0]))] sz)) 0 0 (va_A [(w0, .inr (11, [.ref v0, .ref v1, .ref v2, .ref v3, .ref v4, .long 0, .long 0, .int 0, .int th, .ref v9, .int 0, .int 0, .int (-1), .ref v13, .int 0, .int 0, .int 0, .int 0, .int 0, .int 0, .int 0, .int 0, .int 0, .int 0, .int 0, .long 0, .int 0, .ref v27, .ref v28, .ref v29, .ref v30, .ref v31, .ref v32, .ref v33, .ref v34, .ref v35, .ref v36, .ref v37, .int 0]))] sz) := by
  refine Met.ofW (cc := cX10_good_) (maxL := 3) (ret := (some .boolean)) (by decide) rfl ?_
  intro p e s m args below meth c s₁ B hml hv
  obtain ⟨rfl, hsz, hP, hK, hD0, hC, hZ⟩ := hv
  have hx := B.exec
  have hb := B.bytes
  have hr := B.returns
  have hts := atoms_spec (ws := wsX10_good_) B.pre
  have hown : s.vm.findClass RX10 = some m.cls := findClass_of_methodNamed B.named
  have hlocks := B.notSynchronized
  subst hsz
  have hD := hD0.self (sz := s.heap.size)
  generalize hAe : va_A [(w0, .inr (11, [.ref v0, .ref v1, .ref v2, .ref v3, .ref v4, .long 0, .long 0, .int 0, .int th, .ref v9, .int 0, .int 0, .int (-1), .ref v13, .int 0, .int 0, .int 0, .int 0, .int 0, .int 0, .int 0, .int 0, .int 0, .int 0, .int 0, .long 0, .int 0, .ref v27, .ref v28, .ref v29, .ref v30, .ref v31, .ref v32, .ref v33, .ref v34, .ref v35, .ref v36, .ref v37, .int 0]))] s.heap.size = A at hD hZ ⊢
  have hA : ∀ q : Nat, s.heap.size ≤ q → A q := fun q h => by rw [← hAe]; exact Or.inr h
  have hS : va_S A s.heap s.heap [] := va_S.rf
  have hP : va_P D vwCl [(w0, .inr (11, [.ref v0, .ref v1, .ref v2, .ref v3, .ref v4, .long 0, .long 0, .int 0, .int th, .ref v9, .int 0, .int 0, .int (-1), .ref v13, .int 0, .int 0, .int 0, .int 0, .int 0, .int 0, .int 0, .int 0, .int 0, .int 0, .int 0, .long 0, .int 0, .ref v27, .ref v28, .ref v29, .ref v30, .ref v31, .ref v32, .ref v33, .ref v34, .ref v35, .ref v36, .ref v37, .int 0]))] s.heap := hP
  have hl := lv_entry ([.ref w0, .int 1, .int 0]) (n := 3) (Nat.le_of_ble_eq_true rfl)
  rw [lg_entry_eq]
  generalize (lg_sl ([.ref w0, .int 1, .int 0]) ++ List.replicate (3 - (lg_sl ([.ref w0, .int 1, .int 0])).length) Slot.unset).toArray = ls at hl ⊢
  have hl : lv_has ls 3 [(0, .ref w0), (1, .int 1), (2, .int 0)] := hl
  have inX10 : ∀ w ∈ u_ws RX10 TX10 39, w ∈ wsX10_good_ := by decide +kernel
  refine lv_aload_n hx hb dX10_good__0 rfl (lv_at hl 0 rfl) ?_
  refine lv_iload_n hx hb dX10_good__1 rfl (lv_at hl 1 rfl) ?_
  refine lv_if_ne (tgt := 9) hx hb dX10_good__2 (by decide) (fun c1 => ?_) (fun c9 => absurd c9 (by decide))
  refine lv_iload_n hx hb dX10_good__9 rfl (lv_at hl 2 rfl) ?_
  refine lv_if_ne (tgt := 17) hx hb dX10_good__10 (by decide) (fun c9 => absurd c9 (by decide)) (fun c2 => ?_)
  refine lv_iconst (v := 2) hx hb dX10_good__13 (by decide) ?_
  refine lv_goto (tgt := 18) hx hb dX10_good__14 (by decide) ?_
  refine va_put (D := D) (ci := 11) (v := .int 2) (ty := .int) (C := RX10) (T := TX10) (N := 39) hx hb hts inX10 tyX10 tyX10_ok nmX10 hown hK hP hD hS 0 rfl rfl 8 (by decide) (hts (.fieldLink RX10 80 "EscrowDeskModel" "thrown" "I") (by decide +kernel)) (fun _ h9 => h9) rfl (by decide +kernel) rfl rfl (Nat.le_of_ble_eq_true rfl) dX10_good__18 (fun H locs hP hD hS => ?_)
  have hP : va_P D vwCl [(w0, .inr (11, [.ref v0, .ref v1, .ref v2, .ref v3, .ref v4, .long 0, .long 0, .int 0, .int 2, .ref v9, .int 0, .int 0, .int (-1), .ref v13, .int 0, .int 0, .int 0, .int 0, .int 0, .int 0, .int 0, .int 0, .int 0, .int 0, .int 0, .long 0, .int 0, .ref v27, .ref v28, .ref v29, .ref v30, .ref v31, .ref v32, .ref v33, .ref v34, .ref v35, .ref v36, .ref v37, .int 0]))] H := hP
  have hD : va_D A [(w0, .inr (11, [.ref v0, .ref v1, .ref v2, .ref v3, .ref v4, .long 0, .long 0, .int 0, .int 2, .ref v9, .int 0, .int 0, .int (-1), .ref v13, .int 0, .int 0, .int 0, .int 0, .int 0, .int 0, .int 0, .int 0, .int 0, .int 0, .int 0, .long 0, .int 0, .ref v27, .ref v28, .ref v29, .ref v30, .ref v31, .ref v32, .ref v33, .ref v34, .ref v35, .ref v36, .ref v37, .int 0]))] := hD
  refine lv_aload_n hx hb dX10_good__21 rfl (lv_at hl 0 rfl) ?_
  refine va_get (D := D) (ci := 11) (v := .int 2) (C := RX10) (T := TX10) (N := 39) hx hb hts inX10 hown hK hP 0 rfl rfl 8 (by decide) (hts (.fieldLink RX10 80 "EscrowDeskModel" "thrown" "I") (by decide +kernel)) (fun _ h9 => h9) rfl dX10_good__22 ?_
  refine lv_if_ne (tgt := 32) hx hb dX10_good__25 (by decide) (fun c3 => ?_) (fun c9 => absurd c9 (by decide))
  refine lv_iconst (v := 0) hx hb dX10_good__32 (by decide) ?_
  have hP9 := hP.sub (ws' := [(w0, .inr (11, [.ref v0, .ref v1, .ref v2, .ref v3, .ref v4, .long 0, .long 0, .int 0, .int 2, .ref v9, .int 0, .int 0, .int (-1), .ref v13, .int 0, .int 0, .int 0, .int 0, .int 0, .int 0, .int 0, .int 0, .int 0, .int 0, .int 0, .long 0, .int 0, .ref v27, .ref v28, .ref v29, .ref v30, .ref v31, .ref v32, .ref v33, .ref v34, .ref v35, .ref v36, .ref v37, .int 0]))]) [0] rfl
  have hD9 := hD.sub (ws' := [(w0, .inr (11, [.ref v0, .ref v1, .ref v2, .ref v3, .ref v4, .long 0, .long 0, .int 0, .int 2, .ref v9, .int 0, .int 0, .int (-1), .ref v13, .int 0, .int 0, .int 0, .int 0, .int 0, .int 0, .int 0, .int 0, .int 0, .int 0, .int 0, .long 0, .int 0, .ref v27, .ref v28, .ref v29, .ref v30, .ref v31, .ref v32, .ref v33, .ref v34, .ref v35, .ref v36, .ref v37, .int 0]))]) [0] (by decide) rfl
  refine W.widen (k := 0) (n := 0) (Nat.le_of_ble_eq_true rfl) (Nat.le_of_ble_eq_true rfl) ?_
  exact W.zret (v := 0) hx hb hr (by first | rfl | decide) (fun t ht hW => ⟨⟨0, (), rfl, rfl, by rw [ht]; exact hP9, hD9⟩, hS.F ht⟩) hS.2.2 dX10_good__33

set_option maxHeartbeats 4000000 in
set_option maxRecDepth 100000 in
/-- good(1, 1) -/
theorem c_m_good2_11 (l : Launch) (D : va_G) (cA : Nat → ClassId) (sa : Nat → Nat) (w0 v0 v1 v2 v3 v4 v9 v13 v27 v28 v29 v30 v31 v32 v33 v34 v35 v36 v37 : Nat) (th : Int32) (sz : Nat) : Met l yX10_good_ wsX10_good_ ({ frames := 0, cells := 0, slots := 0, locals := 0 }) (va_Pc [.ref w0, .int 1, .int 1] (Wd D cA sa [(w0, .inr (11, [.ref v0, .ref v1, .ref v2, .ref v3, .ref v4, .long 0, .long 0, .int 0, .int th, .ref v9, .int 0, .int 0, .int (-1), .ref v13, .int 0, .int 0, .int 0, .int 0, .int 0, .int 0, .int 0, .int 0, .int 0, .int 0, .int 0, .long 0, .int 0, .ref v27, .ref v28, .ref v29, .ref v30, .ref v31, .ref v32, .ref v33, .ref v34, .ref v35, .ref v36, .ref v37, .int 0]))] sz)) (va_Qi (fun (r : Int32) (_ : Unit) => r = 1) (fun (_ : Unit) t => Wq D (va_A [(w0, .inr (11, [.ref v0, .ref v1, .ref v2, .ref v3, .ref v4, .long 0, .long 0, .int 0, .int th, .ref v9, .int 0, .int 0, .int (-1), .ref v13, .int 0, .int 0, .int 0, .int 0, .int 0, .int 0, .int 0, .int 0, .int 0, .int 0, .int 0, .long 0, .int 0, .ref v27, .ref v28, .ref v29, .ref v30, .ref v31, .ref v32, .ref v33, .ref v34, .ref v35, .ref v36, .ref v37, .int 0]))] sz) [(w0, .inr (11, [.ref v0, .ref v1, .ref v2, .ref v3, .ref v4, .long 0, .long 0, .int 0, .int 0, .ref v9, .int 0, .int 0, .int (-1), .ref v13, .int 0, .int 0, .int 0, .int 0, .int 0, .int 0, .int 0, .int 0, .int 0, .int 0, .int 0, .long 0, .int 0, .ref v27, .ref v28, .ref v29, .ref v30, .ref v31, .ref v32, .ref v33, .ref v34, .ref v35, .ref v36, .ref v37, .int 0]))] t) (va_A [(w0, .inr (11, [.ref v0, .ref v1, .ref v2, .ref v3, .ref v4, .long 0, .long 0, .int 0, .int th, .ref v9, .int 0, .int 0, .int (-1), .ref v13, .int 0, .int 0, .int 0, .int 0, .int 0, .int 0, .int 0, .int 0, .int 0, .int 0, .int 0, .long 0, .int 0, .ref v27, .ref v28, .ref v29, .ref v30, .ref v31, .ref v32, .ref v33, .ref v34, .ref v35, .ref v36, .ref v37, .int 0]))] sz)) 0 0 (va_A [(w0, .inr (11, [.ref v0, .ref v1, .ref v2, .ref v3, .ref v4, .long 0, .long 0, .int 0, .int th, .ref v9, .int 0, .int 0, .int (-1), .ref v13, .int 0, .int 0, .int 0, .int 0, .int 0, .int 0, .int 0, .int 0, .int 0, .int 0, .int 0, .long 0, .int 0, .ref v27, .ref v28, .ref v29, .ref v30, .ref v31, .ref v32, .ref v33, .ref v34, .ref v35, .ref v36, .ref v37, .int 0]))] sz) := by
  refine Met.ofW (cc := cX10_good_) (maxL := 3) (ret := (some .boolean)) (by decide) rfl ?_
  intro p e s m args below meth c s₁ B hml hv
  obtain ⟨rfl, hsz, hP, hK, hD0, hC, hZ⟩ := hv
  have hx := B.exec
  have hb := B.bytes
  have hr := B.returns
  have hts := atoms_spec (ws := wsX10_good_) B.pre
  have hown : s.vm.findClass RX10 = some m.cls := findClass_of_methodNamed B.named
  have hlocks := B.notSynchronized
  subst hsz
  have hD := hD0.self (sz := s.heap.size)
  generalize hAe : va_A [(w0, .inr (11, [.ref v0, .ref v1, .ref v2, .ref v3, .ref v4, .long 0, .long 0, .int 0, .int th, .ref v9, .int 0, .int 0, .int (-1), .ref v13, .int 0, .int 0, .int 0, .int 0, .int 0, .int 0, .int 0, .int 0, .int 0, .int 0, .int 0, .long 0, .int 0, .ref v27, .ref v28, .ref v29, .ref v30, .ref v31, .ref v32, .ref v33, .ref v34, .ref v35, .ref v36, .ref v37, .int 0]))] s.heap.size = A at hD hZ ⊢
  have hA : ∀ q : Nat, s.heap.size ≤ q → A q := fun q h => by rw [← hAe]; exact Or.inr h
  have hS : va_S A s.heap s.heap [] := va_S.rf
  have hP : va_P D vwCl [(w0, .inr (11, [.ref v0, .ref v1, .ref v2, .ref v3, .ref v4, .long 0, .long 0, .int 0, .int th, .ref v9, .int 0, .int 0, .int (-1), .ref v13, .int 0, .int 0, .int 0, .int 0, .int 0, .int 0, .int 0, .int 0, .int 0, .int 0, .int 0, .long 0, .int 0, .ref v27, .ref v28, .ref v29, .ref v30, .ref v31, .ref v32, .ref v33, .ref v34, .ref v35, .ref v36, .ref v37, .int 0]))] s.heap := hP
  have hl := lv_entry ([.ref w0, .int 1, .int 1]) (n := 3) (Nat.le_of_ble_eq_true rfl)
  rw [lg_entry_eq]
  generalize (lg_sl ([.ref w0, .int 1, .int 1]) ++ List.replicate (3 - (lg_sl ([.ref w0, .int 1, .int 1])).length) Slot.unset).toArray = ls at hl ⊢
  have hl : lv_has ls 3 [(0, .ref w0), (1, .int 1), (2, .int 1)] := hl
  have inX10 : ∀ w ∈ u_ws RX10 TX10 39, w ∈ wsX10_good_ := by decide +kernel
  refine lv_aload_n hx hb dX10_good__0 rfl (lv_at hl 0 rfl) ?_
  refine lv_iload_n hx hb dX10_good__1 rfl (lv_at hl 1 rfl) ?_
  refine lv_if_ne (tgt := 9) hx hb dX10_good__2 (by decide) (fun c1 => ?_) (fun c9 => absurd c9 (by decide))
  refine lv_iload_n hx hb dX10_good__9 rfl (lv_at hl 2 rfl) ?_
  refine lv_if_ne (tgt := 17) hx hb dX10_good__10 (by decide) (fun c2 => ?_) (fun c9 => absurd c9 (by decide))
  refine lv_iconst (v := 0) hx hb dX10_good__17 (by decide) ?_
  refine va_put (D := D) (ci := 11) (v := .int 0) (ty := .int) (C := RX10) (T := TX10) (N := 39) hx hb hts inX10 tyX10 tyX10_ok nmX10 hown hK hP hD hS 0 rfl rfl 8 (by decide) (hts (.fieldLink RX10 80 "EscrowDeskModel" "thrown" "I") (by decide +kernel)) (fun _ h9 => h9) rfl (by decide +kernel) rfl rfl (Nat.le_of_ble_eq_true rfl) dX10_good__18 (fun H locs hP hD hS => ?_)
  have hP : va_P D vwCl [(w0, .inr (11, [.ref v0, .ref v1, .ref v2, .ref v3, .ref v4, .long 0, .long 0, .int 0, .int 0, .ref v9, .int 0, .int 0, .int (-1), .ref v13, .int 0, .int 0, .int 0, .int 0, .int 0, .int 0, .int 0, .int 0, .int 0, .int 0, .int 0, .long 0, .int 0, .ref v27, .ref v28, .ref v29, .ref v30, .ref v31, .ref v32, .ref v33, .ref v34, .ref v35, .ref v36, .ref v37, .int 0]))] H := hP
  have hD : va_D A [(w0, .inr (11, [.ref v0, .ref v1, .ref v2, .ref v3, .ref v4, .long 0, .long 0, .int 0, .int 0, .ref v9, .int 0, .int 0, .int (-1), .ref v13, .int 0, .int 0, .int 0, .int 0, .int 0, .int 0, .int 0, .int 0, .int 0, .int 0, .int 0, .long 0, .int 0, .ref v27, .ref v28, .ref v29, .ref v30, .ref v31, .ref v32, .ref v33, .ref v34, .ref v35, .ref v36, .ref v37, .int 0]))] := hD
  refine lv_aload_n hx hb dX10_good__21 rfl (lv_at hl 0 rfl) ?_
  refine va_get (D := D) (ci := 11) (v := .int 0) (C := RX10) (T := TX10) (N := 39) hx hb hts inX10 hown hK hP 0 rfl rfl 8 (by decide) (hts (.fieldLink RX10 80 "EscrowDeskModel" "thrown" "I") (by decide +kernel)) (fun _ h9 => h9) rfl dX10_good__22 ?_
  refine lv_if_ne (tgt := 32) hx hb dX10_good__25 (by decide) (fun c9 => absurd c9 (by decide)) (fun c3 => ?_)
  refine lv_iconst (v := 1) hx hb dX10_good__28 (by decide) ?_
  refine lv_goto (tgt := 33) hx hb dX10_good__29 (by decide) ?_
  have hP9 := hP.sub (ws' := [(w0, .inr (11, [.ref v0, .ref v1, .ref v2, .ref v3, .ref v4, .long 0, .long 0, .int 0, .int 0, .ref v9, .int 0, .int 0, .int (-1), .ref v13, .int 0, .int 0, .int 0, .int 0, .int 0, .int 0, .int 0, .int 0, .int 0, .int 0, .int 0, .long 0, .int 0, .ref v27, .ref v28, .ref v29, .ref v30, .ref v31, .ref v32, .ref v33, .ref v34, .ref v35, .ref v36, .ref v37, .int 0]))]) [0] rfl
  have hD9 := hD.sub (ws' := [(w0, .inr (11, [.ref v0, .ref v1, .ref v2, .ref v3, .ref v4, .long 0, .long 0, .int 0, .int 0, .ref v9, .int 0, .int 0, .int (-1), .ref v13, .int 0, .int 0, .int 0, .int 0, .int 0, .int 0, .int 0, .int 0, .int 0, .int 0, .int 0, .long 0, .int 0, .ref v27, .ref v28, .ref v29, .ref v30, .ref v31, .ref v32, .ref v33, .ref v34, .ref v35, .ref v36, .ref v37, .int 0]))]) [0] (by decide) rfl
  refine W.widen (k := 0) (n := 0) (Nat.le_of_ble_eq_true rfl) (Nat.le_of_ble_eq_true rfl) ?_
  exact W.zret (v := 1) hx hb hr (by first | rfl | decide) (fun t ht hW => ⟨⟨1, (), rfl, rfl, by rw [ht]; exact hP9, hD9⟩, hS.F ht⟩) hS.2.2 dX10_good__33

set_option maxHeartbeats 4000000 in
set_option maxRecDepth 100000 in
/-- state: thrown 1 -/
theorem c_m_state (l : Launch) (D : va_G) (cA : Nat → ClassId) (sa : Nat → Nat) (w0 v0 v1 v2 v3 v4 v9 v13 v27 v28 v29 v30 v31 v32 v33 v34 v35 v36 v37 : Nat) (th : Int32) (fs : Nat → Int32) (i : Int32) (sz : Nat) (hz : Zs fs) : Met l yX10_state wsX10_state ({ frames := 2, cells := 0, slots := 0, locals := 46 }) (va_Pc [.ref w0, .int i] (Wd D cA sa [(w0, .inr (11, [.ref v0, .ref v1, .ref v2, .ref v3, .ref v4, .long 0, .long 0, .int 0, .int th, .ref v9, .int 0, .int 0, .int (-1), .ref v13, .int 0, .int 0, .int 0, .int 0, .int 0, .int 0, .int 0, .int 0, .int 0, .int 0, .int 0, .long 0, .int 0, .ref v27, .ref v28, .ref v29, .ref v30, .ref v31, .ref v32, .ref v33, .ref v34, .ref v35, .ref v36, .ref v37, .int 0])), (v0, .inl (cA 0, 326, .inl fs))] sz)) (va_Qi (fun (r : Int32) (_ : Unit) => r = 0) (fun (_ : Unit) t => Wq D (va_A [(w0, .inr (11, [.ref v0, .ref v1, .ref v2, .ref v3, .ref v4, .long 0, .long 0, .int 0, .int th, .ref v9, .int 0, .int 0, .int (-1), .ref v13, .int 0, .int 0, .int 0, .int 0, .int 0, .int 0, .int 0, .int 0, .int 0, .int 0, .int 0, .long 0, .int 0, .ref v27, .ref v28, .ref v29, .ref v30, .ref v31, .ref v32, .ref v33, .ref v34, .ref v35, .ref v36, .ref v37, .int 0])), (v0, .inl (cA 0, 326, .inl fs))] sz) [(w0, .inr (11, [.ref v0, .ref v1, .ref v2, .ref v3, .ref v4, .long 0, .long 0, .int 0, .int 1, .ref v9, .int 0, .int 0, .int (-1), .ref v13, .int 0, .int 0, .int 0, .int 0, .int 0, .int 0, .int 0, .int 0, .int 0, .int 0, .int 0, .long 0, .int 0, .ref v27, .ref v28, .ref v29, .ref v30, .ref v31, .ref v32, .ref v33, .ref v34, .ref v35, .ref v36, .ref v37, .int 0]))] t) (va_A [(w0, .inr (11, [.ref v0, .ref v1, .ref v2, .ref v3, .ref v4, .long 0, .long 0, .int 0, .int th, .ref v9, .int 0, .int 0, .int (-1), .ref v13, .int 0, .int 0, .int 0, .int 0, .int 0, .int 0, .int 0, .int 0, .int 0, .int 0, .int 0, .long 0, .int 0, .ref v27, .ref v28, .ref v29, .ref v30, .ref v31, .ref v32, .ref v33, .ref v34, .ref v35, .ref v36, .ref v37, .int 0])), (v0, .inl (cA 0, 326, .inl fs))] sz)) 0 0 (va_A [(w0, .inr (11, [.ref v0, .ref v1, .ref v2, .ref v3, .ref v4, .long 0, .long 0, .int 0, .int th, .ref v9, .int 0, .int 0, .int (-1), .ref v13, .int 0, .int 0, .int 0, .int 0, .int 0, .int 0, .int 0, .int 0, .int 0, .int 0, .int 0, .long 0, .int 0, .ref v27, .ref v28, .ref v29, .ref v30, .ref v31, .ref v32, .ref v33, .ref v34, .ref v35, .ref v36, .ref v37, .int 0])), (v0, .inl (cA 0, 326, .inl fs))] sz) := by
  refine Met.ofW (cc := cX10_state) (maxL := 2) (ret := (some .int)) (by decide) rfl ?_
  intro p e s m args below meth c s₁ B hml hv
  obtain ⟨rfl, hsz, hP, hK, hD0, hC, hZ⟩ := hv
  have hx := B.exec
  have hb := B.bytes
  have hr := B.returns
  have hts := atoms_spec (ws := wsX10_state) B.pre
  have hown : s.vm.findClass RX10 = some m.cls := findClass_of_methodNamed B.named
  have hlocks := B.notSynchronized
  subst hsz
  have hD := hD0.self (sz := s.heap.size)
  generalize hAe : va_A [(w0, .inr (11, [.ref v0, .ref v1, .ref v2, .ref v3, .ref v4, .long 0, .long 0, .int 0, .int th, .ref v9, .int 0, .int 0, .int (-1), .ref v13, .int 0, .int 0, .int 0, .int 0, .int 0, .int 0, .int 0, .int 0, .int 0, .int 0, .int 0, .long 0, .int 0, .ref v27, .ref v28, .ref v29, .ref v30, .ref v31, .ref v32, .ref v33, .ref v34, .ref v35, .ref v36, .ref v37, .int 0])), (v0, .inl (cA 0, 326, .inl fs))] s.heap.size = A at hD hZ ⊢
  have hA : ∀ q : Nat, s.heap.size ≤ q → A q := fun q h => by rw [← hAe]; exact Or.inr h
  have hS : va_S A s.heap s.heap [] := va_S.rf
  have hP : va_P D vwCl [(w0, .inr (11, [.ref v0, .ref v1, .ref v2, .ref v3, .ref v4, .long 0, .long 0, .int 0, .int th, .ref v9, .int 0, .int 0, .int (-1), .ref v13, .int 0, .int 0, .int 0, .int 0, .int 0, .int 0, .int 0, .int 0, .int 0, .int 0, .int 0, .long 0, .int 0, .ref v27, .ref v28, .ref v29, .ref v30, .ref v31, .ref v32, .ref v33, .ref v34, .ref v35, .ref v36, .ref v37, .int 0])), (v0, .inl (cA 0, 326, .inl fs))] s.heap := hP
  have hl := lv_entry ([.ref w0, .int i]) (n := 2) (Nat.le_of_ble_eq_true rfl)
  rw [lg_entry_eq]
  generalize (lg_sl ([.ref w0, .int i]) ++ List.replicate (2 - (lg_sl ([.ref w0, .int i])).length) Slot.unset).toArray = ls at hl ⊢
  have hl : lv_has ls 2 [(0, .ref w0), (1, .int i)] := hl
  refine lv_aload_n hx hb dX10_state_0 rfl (lv_at hl 0 rfl) ?_
  refine lv_aload_n hx hb dX10_state_1 rfl (lv_at hl 0 rfl) ?_
  refine lv_iload_n hx hb dX10_state_2 rfl (lv_at hl 1 rfl) ?_
  have hPc := hP.sub (ws' := [(w0, .inr (11, [.ref v0, .ref v1, .ref v2, .ref v3, .ref v4, .long 0, .long 0, .int 0, .int th, .ref v9, .int 0, .int 0, .int (-1), .ref v13, .int 0, .int 0, .int 0, .int 0, .int 0, .int 0, .int 0, .int 0, .int 0, .int 0, .int 0, .long 0, .int 0, .ref v27, .ref v28, .ref v29, .ref v30, .ref v31, .ref v32, .ref v33, .ref v34, .ref v35, .ref v36, .ref v37, .int 0])), (v0, .inl (cA 0, 326, .inl fs))]) [0, 1] rfl
  have hDc := hD.sub (ws' := [(w0, .inr (11, [.ref v0, .ref v1, .ref v2, .ref v3, .ref v4, .long 0, .long 0, .int 0, .int th, .ref v9, .int 0, .int 0, .int (-1), .ref v13, .int 0, .int 0, .int 0, .int 0, .int 0, .int 0, .int 0, .int 0, .int 0, .int 0, .int 0, .long 0, .int 0, .ref v27, .ref v28, .ref v29, .ref v30, .ref v31, .ref v32, .ref v33, .ref v34, .ref v35, .ref v36, .ref v37, .int 0])), (v0, .inl (cA 0, 326, .inl fs))]) [0, 1] (by decide) rfl
  have hFc := va_free (wc := [(w0, .inr (11, [.ref v0, .ref v1, .ref v2, .ref v3, .ref v4, .long 0, .long 0, .int 0, .int th, .ref v9, .int 0, .int 0, .int (-1), .ref v13, .int 0, .int 0, .int 0, .int 0, .int 0, .int 0, .int 0, .int 0, .int 0, .int 0, .int 0, .long 0, .int 0, .ref v27, .ref v28, .ref v29, .ref v30, .ref v31, .ref v32, .ref v33, .ref v34, .ref v35, .ref v36, .ref v37, .int 0])), (v0, .inl (cA 0, 326, .inl fs))]) hD hS hA [0, 1] rfl
  refine va_calli (va_runV (As := [.int i]) (rest := [.ref w0]) ⟨hx, hb, hml, hown, hts⟩ (c_m_isMilestone l D cA sa w0 v0 v1 v2 v3 v4 v9 v13 v27 v28 v29 v30 v31 v32 v33 v34 v35 v36 v37 th fs i s.heap.size hz) (cwV 1 hts gX10_state_X10_isMilestone rfl rfl rfl (by decide +kernel) ⟨(Nat.le_of_ble_eq_true rfl), (Nat.le_of_ble_eq_true rfl)⟩) ⟨Wd.blind, va_recv hK hPc (ci := 11) (q0 := 0) rfl rfl, fun U hU hW => ⟨rfl, Wd.call hPc hDc hK hC hZ hS hFc U hU hW⟩⟩ rfl rfl hl.1 rfl (lv_room (Nat.le_of_ble_eq_true rfl)) dX10_state_3 ⟨(Nat.le_of_ble_eq_true rfl), (Nat.le_of_ble_eq_true rfl)⟩) hS (fun q _ h => hFc q h) hFc (fun rn1 u t H1 locs ht hvm hw hB hz1 hk1 hS => ?_)
  obtain ⟨hP1, hD1⟩ := hB
  rw [ht] at hP1
  obtain ⟨hP, hD⟩ := va_join (wr := []) (w1 := [(w0, .inr (11, [.ref v0, .ref v1, .ref v2, .ref v3, .ref v4, .long 0, .long 0, .int 0, .int th, .ref v9, .int 0, .int 0, .int (-1), .ref v13, .int 0, .int 0, .int 0, .int 0, .int 0, .int 0, .int 0, .int 0, .int 0, .int 0, .int 0, .long 0, .int 0, .ref v27, .ref v28, .ref v29, .ref v30, .ref v31, .ref v32, .ref v33, .ref v34, .ref v35, .ref v36, .ref v37, .int 0])), (v0, .inl (cA 0, 326, .inl fs))]) hP hD [0, 1] [] rfl rfl (by decide) (by decide) hk1 hFc hP1 hD1
  generalize H1 = H at hP hS ⊢
  have hP : va_P D vwCl [(w0, .inr (11, [.ref v0, .ref v1, .ref v2, .ref v3, .ref v4, .long 0, .long 0, .int 0, .int th, .ref v9, .int 0, .int 0, .int (-1), .ref v13, .int 0, .int 0, .int 0, .int 0, .int 0, .int 0, .int 0, .int 0, .int 0, .int 0, .int 0, .long 0, .int 0, .ref v27, .ref v28, .ref v29, .ref v30, .ref v31, .ref v32, .ref v33, .ref v34, .ref v35, .ref v36, .ref v37, .int 0])), (v0, .inl (cA 0, 326, .inl fs))] H := hP
  have hD : va_D A [(w0, .inr (11, [.ref v0, .ref v1, .ref v2, .ref v3, .ref v4, .long 0, .long 0, .int 0, .int th, .ref v9, .int 0, .int 0, .int (-1), .ref v13, .int 0, .int 0, .int 0, .int 0, .int 0, .int 0, .int 0, .int 0, .int 0, .int 0, .int 0, .long 0, .int 0, .ref v27, .ref v28, .ref v29, .ref v30, .ref v31, .ref v32, .ref v33, .ref v34, .ref v35, .ref v36, .ref v37, .int 0])), (v0, .inl (cA 0, 326, .inl fs))] := hD
  obtain rfl : rn1 = 0 := hw
  have hPc := hP.sub (ws' := [(w0, .inr (11, [.ref v0, .ref v1, .ref v2, .ref v3, .ref v4, .long 0, .long 0, .int 0, .int th, .ref v9, .int 0, .int 0, .int (-1), .ref v13, .int 0, .int 0, .int 0, .int 0, .int 0, .int 0, .int 0, .int 0, .int 0, .int 0, .int 0, .long 0, .int 0, .ref v27, .ref v28, .ref v29, .ref v30, .ref v31, .ref v32, .ref v33, .ref v34, .ref v35, .ref v36, .ref v37, .int 0]))]) [0] rfl
  have hDc := hD.sub (ws' := [(w0, .inr (11, [.ref v0, .ref v1, .ref v2, .ref v3, .ref v4, .long 0, .long 0, .int 0, .int th, .ref v9, .int 0, .int 0, .int (-1), .ref v13, .int 0, .int 0, .int 0, .int 0, .int 0, .int 0, .int 0, .int 0, .int 0, .int 0, .int 0, .long 0, .int 0, .ref v27, .ref v28, .ref v29, .ref v30, .ref v31, .ref v32, .ref v33, .ref v34, .ref v35, .ref v36, .ref v37, .int 0]))]) [0] (by decide) rfl
  have hFc := va_free (wc := [(w0, .inr (11, [.ref v0, .ref v1, .ref v2, .ref v3, .ref v4, .long 0, .long 0, .int 0, .int th, .ref v9, .int 0, .int 0, .int (-1), .ref v13, .int 0, .int 0, .int 0, .int 0, .int 0, .int 0, .int 0, .int 0, .int 0, .int 0, .int 0, .long 0, .int 0, .ref v27, .ref v28, .ref v29, .ref v30, .ref v31, .ref v32, .ref v33, .ref v34, .ref v35, .ref v36, .ref v37, .int 0]))]) hD hS hA [0] rfl
  refine va_calli (va_runV (As := [.int 0]) (rest := []) ⟨hx, hb, hml, hown, hts⟩ (c_m_good_0 l D cA sa w0 v0 v1 v2 v3 v4 v9 v13 v27 v28 v29 v30 v31 v32 v33 v34 v35 v36 v37 th H.size) (cwV 1 hts gX10_state_X10_good rfl rfl rfl (by decide +kernel) ⟨(Nat.le_of_ble_eq_true rfl), (Nat.le_of_ble_eq_true rfl)⟩) ⟨Wd.blind, va_recv hK hPc (ci := 11) (q0 := 0) rfl rfl, fun U hU hW => ⟨rfl, Wd.call hPc hDc hK hC hZ hS hFc U hU hW⟩⟩ rfl rfl hl.1 rfl (lv_room (Nat.le_of_ble_eq_true rfl)) dX10_state_6 ⟨(Nat.le_of_ble_eq_true rfl), (Nat.le_of_ble_eq_true rfl)⟩) hS (fun q _ h => hFc q h) hFc (fun rn2 u t H1 locs ht hvm hw hB hz1 hk1 hS => ?_)
  obtain ⟨hP1, hD1⟩ := hB
  rw [ht] at hP1
  obtain ⟨hP, hD⟩ := va_join (wr := [(v0, .inl (cA 0, 326, .inl fs))]) (w1 := [(w0, .inr (11, [.ref v0, .ref v1, .ref v2, .ref v3, .ref v4, .long 0, .long 0, .int 0, .int 1, .ref v9, .int 0, .int 0, .int (-1), .ref v13, .int 0, .int 0, .int 0, .int 0, .int 0, .int 0, .int 0, .int 0, .int 0, .int 0, .int 0, .long 0, .int 0, .ref v27, .ref v28, .ref v29, .ref v30, .ref v31, .ref v32, .ref v33, .ref v34, .ref v35, .ref v36, .ref v37, .int 0]))]) hP hD [0] [1] rfl rfl (by decide) (by decide) hk1 hFc hP1 hD1
  generalize H1 = H at hP hS ⊢
  have hP : va_P D vwCl [(v0, .inl (cA 0, 326, .inl fs)), (w0, .inr (11, [.ref v0, .ref v1, .ref v2, .ref v3, .ref v4, .long 0, .long 0, .int 0, .int 1, .ref v9, .int 0, .int 0, .int (-1), .ref v13, .int 0, .int 0, .int 0, .int 0, .int 0, .int 0, .int 0, .int 0, .int 0, .int 0, .int 0, .long 0, .int 0, .ref v27, .ref v28, .ref v29, .ref v30, .ref v31, .ref v32, .ref v33, .ref v34, .ref v35, .ref v36, .ref v37, .int 0]))] H := hP
  have hD : va_D A [(v0, .inl (cA 0, 326, .inl fs)), (w0, .inr (11, [.ref v0, .ref v1, .ref v2, .ref v3, .ref v4, .long 0, .long 0, .int 0, .int 1, .ref v9, .int 0, .int 0, .int (-1), .ref v13, .int 0, .int 0, .int 0, .int 0, .int 0, .int 0, .int 0, .int 0, .int 0, .int 0, .int 0, .long 0, .int 0, .ref v27, .ref v28, .ref v29, .ref v30, .ref v31, .ref v32, .ref v33, .ref v34, .ref v35, .ref v36, .ref v37, .int 0]))] := hD
  obtain rfl : rn2 = 0 := hw
  refine lv_if_eq (tgt := 21) hx hb dX10_state_9 (by decide) (fun c3 => ?_) (fun c9 => absurd c9 (by decide))
  refine lv_iconst (v := 0) hx hb dX10_state_21 (by decide) ?_
  have hP9 := hP.sub (ws' := [(w0, .inr (11, [.ref v0, .ref v1, .ref v2, .ref v3, .ref v4, .long 0, .long 0, .int 0, .int 1, .ref v9, .int 0, .int 0, .int (-1), .ref v13, .int 0, .int 0, .int 0, .int 0, .int 0, .int 0, .int 0, .int 0, .int 0, .int 0, .int 0, .long 0, .int 0, .ref v27, .ref v28, .ref v29, .ref v30, .ref v31, .ref v32, .ref v33, .ref v34, .ref v35, .ref v36, .ref v37, .int 0]))]) [1] rfl
  have hD9 := hD.sub (ws' := [(w0, .inr (11, [.ref v0, .ref v1, .ref v2, .ref v3, .ref v4, .long 0, .long 0, .int 0, .int 1, .ref v9, .int 0, .int 0, .int (-1), .ref v13, .int 0, .int 0, .int 0, .int 0, .int 0, .int 0, .int 0, .int 0, .int 0, .int 0, .int 0, .long 0, .int 0, .ref v27, .ref v28, .ref v29, .ref v30, .ref v31, .ref v32, .ref v33, .ref v34, .ref v35, .ref v36, .ref v37, .int 0]))]) [1] (by decide) rfl
  refine W.widen (k := 0) (n := 0) (Nat.le_of_ble_eq_true rfl) (Nat.le_of_ble_eq_true rfl) ?_
  exact W.iret (v := 0) hx hb hr (fun t ht hW => ⟨⟨0, (), rfl, rfl, by rw [ht]; exact hP9, hD9⟩, hS.F ht⟩) hS.2.2 dX10_state_22

set_option maxHeartbeats 4000000 in
set_option maxRecDepth 100000 in
/-- paid: thrown 1 -/
theorem c_m_paid (l : Launch) (D : va_G) (cA : Nat → ClassId) (sa : Nat → Nat) (w0 v0 v1 v2 v3 v4 v9 v13 v27 v28 v29 v30 v31 v32 v33 v34 v35 v36 v37 : Nat) (th : Int32) (fs : Nat → Int32) (i : Int32) (sz : Nat) (hz : Zs fs) : Met l yX10_paid wsX10_paid ({ frames := 2, cells := 0, slots := 0, locals := 46 }) (va_Pc [.ref w0, .int i] (Wd D cA sa [(w0, .inr (11, [.ref v0, .ref v1, .ref v2, .ref v3, .ref v4, .long 0, .long 0, .int 0, .int th, .ref v9, .int 0, .int 0, .int (-1), .ref v13, .int 0, .int 0, .int 0, .int 0, .int 0, .int 0, .int 0, .int 0, .int 0, .int 0, .int 0, .long 0, .int 0, .ref v27, .ref v28, .ref v29, .ref v30, .ref v31, .ref v32, .ref v33, .ref v34, .ref v35, .ref v36, .ref v37, .int 0])), (v0, .inl (cA 0, 326, .inl fs))] sz)) (va_Qi (fun (r : Int32) (_ : Unit) => r = 0) (fun (_ : Unit) t => Wq D (va_A [(w0, .inr (11, [.ref v0, .ref v1, .ref v2, .ref v3, .ref v4, .long 0, .long 0, .int 0, .int th, .ref v9, .int 0, .int 0, .int (-1), .ref v13, .int 0, .int 0, .int 0, .int 0, .int 0, .int 0, .int 0, .int 0, .int 0, .int 0, .int 0, .long 0, .int 0, .ref v27, .ref v28, .ref v29, .ref v30, .ref v31, .ref v32, .ref v33, .ref v34, .ref v35, .ref v36, .ref v37, .int 0])), (v0, .inl (cA 0, 326, .inl fs))] sz) [(w0, .inr (11, [.ref v0, .ref v1, .ref v2, .ref v3, .ref v4, .long 0, .long 0, .int 0, .int 1, .ref v9, .int 0, .int 0, .int (-1), .ref v13, .int 0, .int 0, .int 0, .int 0, .int 0, .int 0, .int 0, .int 0, .int 0, .int 0, .int 0, .long 0, .int 0, .ref v27, .ref v28, .ref v29, .ref v30, .ref v31, .ref v32, .ref v33, .ref v34, .ref v35, .ref v36, .ref v37, .int 0]))] t) (va_A [(w0, .inr (11, [.ref v0, .ref v1, .ref v2, .ref v3, .ref v4, .long 0, .long 0, .int 0, .int th, .ref v9, .int 0, .int 0, .int (-1), .ref v13, .int 0, .int 0, .int 0, .int 0, .int 0, .int 0, .int 0, .int 0, .int 0, .int 0, .int 0, .long 0, .int 0, .ref v27, .ref v28, .ref v29, .ref v30, .ref v31, .ref v32, .ref v33, .ref v34, .ref v35, .ref v36, .ref v37, .int 0])), (v0, .inl (cA 0, 326, .inl fs))] sz)) 0 0 (va_A [(w0, .inr (11, [.ref v0, .ref v1, .ref v2, .ref v3, .ref v4, .long 0, .long 0, .int 0, .int th, .ref v9, .int 0, .int 0, .int (-1), .ref v13, .int 0, .int 0, .int 0, .int 0, .int 0, .int 0, .int 0, .int 0, .int 0, .int 0, .int 0, .long 0, .int 0, .ref v27, .ref v28, .ref v29, .ref v30, .ref v31, .ref v32, .ref v33, .ref v34, .ref v35, .ref v36, .ref v37, .int 0])), (v0, .inl (cA 0, 326, .inl fs))] sz) := by
  refine Met.ofW (cc := cX10_paid) (maxL := 2) (ret := (some .int)) (by decide) rfl ?_
  intro p e s m args below meth c s₁ B hml hv
  obtain ⟨rfl, hsz, hP, hK, hD0, hC, hZ⟩ := hv
  have hx := B.exec
  have hb := B.bytes
  have hr := B.returns
  have hts := atoms_spec (ws := wsX10_paid) B.pre
  have hown : s.vm.findClass RX10 = some m.cls := findClass_of_methodNamed B.named
  have hlocks := B.notSynchronized
  subst hsz
  have hD := hD0.self (sz := s.heap.size)
  generalize hAe : va_A [(w0, .inr (11, [.ref v0, .ref v1, .ref v2, .ref v3, .ref v4, .long 0, .long 0, .int 0, .int th, .ref v9, .int 0, .int 0, .int (-1), .ref v13, .int 0, .int 0, .int 0, .int 0, .int 0, .int 0, .int 0, .int 0, .int 0, .int 0, .int 0, .long 0, .int 0, .ref v27, .ref v28, .ref v29, .ref v30, .ref v31, .ref v32, .ref v33, .ref v34, .ref v35, .ref v36, .ref v37, .int 0])), (v0, .inl (cA 0, 326, .inl fs))] s.heap.size = A at hD hZ ⊢
  have hA : ∀ q : Nat, s.heap.size ≤ q → A q := fun q h => by rw [← hAe]; exact Or.inr h
  have hS : va_S A s.heap s.heap [] := va_S.rf
  have hP : va_P D vwCl [(w0, .inr (11, [.ref v0, .ref v1, .ref v2, .ref v3, .ref v4, .long 0, .long 0, .int 0, .int th, .ref v9, .int 0, .int 0, .int (-1), .ref v13, .int 0, .int 0, .int 0, .int 0, .int 0, .int 0, .int 0, .int 0, .int 0, .int 0, .int 0, .long 0, .int 0, .ref v27, .ref v28, .ref v29, .ref v30, .ref v31, .ref v32, .ref v33, .ref v34, .ref v35, .ref v36, .ref v37, .int 0])), (v0, .inl (cA 0, 326, .inl fs))] s.heap := hP
  have hl := lv_entry ([.ref w0, .int i]) (n := 2) (Nat.le_of_ble_eq_true rfl)
  rw [lg_entry_eq]
  generalize (lg_sl ([.ref w0, .int i]) ++ List.replicate (2 - (lg_sl ([.ref w0, .int i])).length) Slot.unset).toArray = ls at hl ⊢
  have hl : lv_has ls 2 [(0, .ref w0), (1, .int i)] := hl
  refine lv_aload_n hx hb dX10_paid_0 rfl (lv_at hl 0 rfl) ?_
  refine lv_aload_n hx hb dX10_paid_1 rfl (lv_at hl 0 rfl) ?_
  refine lv_iload_n hx hb dX10_paid_2 rfl (lv_at hl 1 rfl) ?_
  have hPc := hP.sub (ws' := [(w0, .inr (11, [.ref v0, .ref v1, .ref v2, .ref v3, .ref v4, .long 0, .long 0, .int 0, .int th, .ref v9, .int 0, .int 0, .int (-1), .ref v13, .int 0, .int 0, .int 0, .int 0, .int 0, .int 0, .int 0, .int 0, .int 0, .int 0, .int 0, .long 0, .int 0, .ref v27, .ref v28, .ref v29, .ref v30, .ref v31, .ref v32, .ref v33, .ref v34, .ref v35, .ref v36, .ref v37, .int 0])), (v0, .inl (cA 0, 326, .inl fs))]) [0, 1] rfl
  have hDc := hD.sub (ws' := [(w0, .inr (11, [.ref v0, .ref v1, .ref v2, .ref v3, .ref v4, .long 0, .long 0, .int 0, .int th, .ref v9, .int 0, .int 0, .int (-1), .ref v13, .int 0, .int 0, .int 0, .int 0, .int 0, .int 0, .int 0, .int 0, .int 0, .int 0, .int 0, .long 0, .int 0, .ref v27, .ref v28, .ref v29, .ref v30, .ref v31, .ref v32, .ref v33, .ref v34, .ref v35, .ref v36, .ref v37, .int 0])), (v0, .inl (cA 0, 326, .inl fs))]) [0, 1] (by decide) rfl
  have hFc := va_free (wc := [(w0, .inr (11, [.ref v0, .ref v1, .ref v2, .ref v3, .ref v4, .long 0, .long 0, .int 0, .int th, .ref v9, .int 0, .int 0, .int (-1), .ref v13, .int 0, .int 0, .int 0, .int 0, .int 0, .int 0, .int 0, .int 0, .int 0, .int 0, .int 0, .long 0, .int 0, .ref v27, .ref v28, .ref v29, .ref v30, .ref v31, .ref v32, .ref v33, .ref v34, .ref v35, .ref v36, .ref v37, .int 0])), (v0, .inl (cA 0, 326, .inl fs))]) hD hS hA [0, 1] rfl
  refine va_calli (va_runV (As := [.int i]) (rest := [.ref w0]) ⟨hx, hb, hml, hown, hts⟩ (c_m_isMilestone l D cA sa w0 v0 v1 v2 v3 v4 v9 v13 v27 v28 v29 v30 v31 v32 v33 v34 v35 v36 v37 th fs i s.heap.size hz) (cwV 1 hts gX10_paid_X10_isMilestone rfl rfl rfl (by decide +kernel) ⟨(Nat.le_of_ble_eq_true rfl), (Nat.le_of_ble_eq_true rfl)⟩) ⟨Wd.blind, va_recv hK hPc (ci := 11) (q0 := 0) rfl rfl, fun U hU hW => ⟨rfl, Wd.call hPc hDc hK hC hZ hS hFc U hU hW⟩⟩ rfl rfl hl.1 rfl (lv_room (Nat.le_of_ble_eq_true rfl)) dX10_paid_3 ⟨(Nat.le_of_ble_eq_true rfl), (Nat.le_of_ble_eq_true rfl)⟩) hS (fun q _ h => hFc q h) hFc (fun rn1 u t H1 locs ht hvm hw hB hz1 hk1 hS => ?_)
  obtain ⟨hP1, hD1⟩ := hB
  rw [ht] at hP1
  obtain ⟨hP, hD⟩ := va_join (wr := []) (w1 := [(w0, .inr (11, [.ref v0, .ref v1, .ref v2, .ref v3, .ref v4, .long 0, .long 0, .int 0, .int th, .ref v9, .int 0, .int 0, .int (-1), .ref v13, .int 0, .int 0, .int 0, .int 0, .int 0, .int 0, .int 0, .int 0, .int 0, .int 0, .int 0, .long 0, .int 0, .ref v27, .ref v28, .ref v29, .ref v30, .ref v31, .ref v32, .ref v33, .ref v34, .ref v35, .ref v36, .ref v37, .int 0])), (v0, .inl (cA 0, 326, .inl fs))]) hP hD [0, 1] [] rfl rfl (by decide) (by decide) hk1 hFc hP1 hD1
  generalize H1 = H at hP hS ⊢
  have hP : va_P D vwCl [(w0, .inr (11, [.ref v0, .ref v1, .ref v2, .ref v3, .ref v4, .long 0, .long 0, .int 0, .int th, .ref v9, .int 0, .int 0, .int (-1), .ref v13, .int 0, .int 0, .int 0, .int 0, .int 0, .int 0, .int 0, .int 0, .int 0, .int 0, .int 0, .long 0, .int 0, .ref v27, .ref v28, .ref v29, .ref v30, .ref v31, .ref v32, .ref v33, .ref v34, .ref v35, .ref v36, .ref v37, .int 0])), (v0, .inl (cA 0, 326, .inl fs))] H := hP
  have hD : va_D A [(w0, .inr (11, [.ref v0, .ref v1, .ref v2, .ref v3, .ref v4, .long 0, .long 0, .int 0, .int th, .ref v9, .int 0, .int 0, .int (-1), .ref v13, .int 0, .int 0, .int 0, .int 0, .int 0, .int 0, .int 0, .int 0, .int 0, .int 0, .int 0, .long 0, .int 0, .ref v27, .ref v28, .ref v29, .ref v30, .ref v31, .ref v32, .ref v33, .ref v34, .ref v35, .ref v36, .ref v37, .int 0])), (v0, .inl (cA 0, 326, .inl fs))] := hD
  obtain rfl : rn1 = 0 := hw
  have hPc := hP.sub (ws' := [(w0, .inr (11, [.ref v0, .ref v1, .ref v2, .ref v3, .ref v4, .long 0, .long 0, .int 0, .int th, .ref v9, .int 0, .int 0, .int (-1), .ref v13, .int 0, .int 0, .int 0, .int 0, .int 0, .int 0, .int 0, .int 0, .int 0, .int 0, .int 0, .long 0, .int 0, .ref v27, .ref v28, .ref v29, .ref v30, .ref v31, .ref v32, .ref v33, .ref v34, .ref v35, .ref v36, .ref v37, .int 0]))]) [0] rfl
  have hDc := hD.sub (ws' := [(w0, .inr (11, [.ref v0, .ref v1, .ref v2, .ref v3, .ref v4, .long 0, .long 0, .int 0, .int th, .ref v9, .int 0, .int 0, .int (-1), .ref v13, .int 0, .int 0, .int 0, .int 0, .int 0, .int 0, .int 0, .int 0, .int 0, .int 0, .int 0, .long 0, .int 0, .ref v27, .ref v28, .ref v29, .ref v30, .ref v31, .ref v32, .ref v33, .ref v34, .ref v35, .ref v36, .ref v37, .int 0]))]) [0] (by decide) rfl
  have hFc := va_free (wc := [(w0, .inr (11, [.ref v0, .ref v1, .ref v2, .ref v3, .ref v4, .long 0, .long 0, .int 0, .int th, .ref v9, .int 0, .int 0, .int (-1), .ref v13, .int 0, .int 0, .int 0, .int 0, .int 0, .int 0, .int 0, .int 0, .int 0, .int 0, .int 0, .long 0, .int 0, .ref v27, .ref v28, .ref v29, .ref v30, .ref v31, .ref v32, .ref v33, .ref v34, .ref v35, .ref v36, .ref v37, .int 0]))]) hD hS hA [0] rfl
  refine va_calli (va_runV (As := [.int 0]) (rest := []) ⟨hx, hb, hml, hown, hts⟩ (c_m_good_0 l D cA sa w0 v0 v1 v2 v3 v4 v9 v13 v27 v28 v29 v30 v31 v32 v33 v34 v35 v36 v37 th H.size) (cwV 1 hts gX10_paid_X10_good rfl rfl rfl (by decide +kernel) ⟨(Nat.le_of_ble_eq_true rfl), (Nat.le_of_ble_eq_true rfl)⟩) ⟨Wd.blind, va_recv hK hPc (ci := 11) (q0 := 0) rfl rfl, fun U hU hW => ⟨rfl, Wd.call hPc hDc hK hC hZ hS hFc U hU hW⟩⟩ rfl rfl hl.1 rfl (lv_room (Nat.le_of_ble_eq_true rfl)) dX10_paid_6 ⟨(Nat.le_of_ble_eq_true rfl), (Nat.le_of_ble_eq_true rfl)⟩) hS (fun q _ h => hFc q h) hFc (fun rn2 u t H1 locs ht hvm hw hB hz1 hk1 hS => ?_)
  obtain ⟨hP1, hD1⟩ := hB
  rw [ht] at hP1
  obtain ⟨hP, hD⟩ := va_join (wr := [(v0, .inl (cA 0, 326, .inl fs))]) (w1 := [(w0, .inr (11, [.ref v0, .ref v1, .ref v2, .ref v3, .ref v4, .long 0, .long 0, .int 0, .int 1, .ref v9, .int 0, .int 0, .int (-1), .ref v13, .int 0, .int 0, .int 0, .int 0, .int 0, .int 0, .int 0, .int 0, .int 0, .int 0, .int 0, .long 0, .int 0, .ref v27, .ref v28, .ref v29, .ref v30, .ref v31, .ref v32, .ref v33, .ref v34, .ref v35, .ref v36, .ref v37, .int 0]))]) hP hD [0] [1] rfl rfl (by decide) (by decide) hk1 hFc hP1 hD1
  generalize H1 = H at hP hS ⊢
  have hP : va_P D vwCl [(v0, .inl (cA 0, 326, .inl fs)), (w0, .inr (11, [.ref v0, .ref v1, .ref v2, .ref v3, .ref v4, .long 0, .long 0, .int 0, .int 1, .ref v9, .int 0, .int 0, .int (-1), .ref v13, .int 0, .int 0, .int 0, .int 0, .int 0, .int 0, .int 0, .int 0, .int 0, .int 0, .int 0, .long 0, .int 0, .ref v27, .ref v28, .ref v29, .ref v30, .ref v31, .ref v32, .ref v33, .ref v34, .ref v35, .ref v36, .ref v37, .int 0]))] H := hP
  have hD : va_D A [(v0, .inl (cA 0, 326, .inl fs)), (w0, .inr (11, [.ref v0, .ref v1, .ref v2, .ref v3, .ref v4, .long 0, .long 0, .int 0, .int 1, .ref v9, .int 0, .int 0, .int (-1), .ref v13, .int 0, .int 0, .int 0, .int 0, .int 0, .int 0, .int 0, .int 0, .int 0, .int 0, .int 0, .long 0, .int 0, .ref v27, .ref v28, .ref v29, .ref v30, .ref v31, .ref v32, .ref v33, .ref v34, .ref v35, .ref v36, .ref v37, .int 0]))] := hD
  obtain rfl : rn2 = 0 := hw
  refine lv_if_eq (tgt := 21) hx hb dX10_paid_9 (by decide) (fun c3 => ?_) (fun c9 => absurd c9 (by decide))
  refine lv_iconst (v := 0) hx hb dX10_paid_21 (by decide) ?_
  have hP9 := hP.sub (ws' := [(w0, .inr (11, [.ref v0, .ref v1, .ref v2, .ref v3, .ref v4, .long 0, .long 0, .int 0, .int 1, .ref v9, .int 0, .int 0, .int (-1), .ref v13, .int 0, .int 0, .int 0, .int 0, .int 0, .int 0, .int 0, .int 0, .int 0, .int 0, .int 0, .long 0, .int 0, .ref v27, .ref v28, .ref v29, .ref v30, .ref v31, .ref v32, .ref v33, .ref v34, .ref v35, .ref v36, .ref v37, .int 0]))]) [1] rfl
  have hD9 := hD.sub (ws' := [(w0, .inr (11, [.ref v0, .ref v1, .ref v2, .ref v3, .ref v4, .long 0, .long 0, .int 0, .int 1, .ref v9, .int 0, .int 0, .int (-1), .ref v13, .int 0, .int 0, .int 0, .int 0, .int 0, .int 0, .int 0, .int 0, .int 0, .int 0, .int 0, .long 0, .int 0, .ref v27, .ref v28, .ref v29, .ref v30, .ref v31, .ref v32, .ref v33, .ref v34, .ref v35, .ref v36, .ref v37, .int 0]))]) [1] (by decide) rfl
  refine W.widen (k := 0) (n := 0) (Nat.le_of_ble_eq_true rfl) (Nat.le_of_ble_eq_true rfl) ?_
  exact W.iret (v := 0) hx hb hr (fun t ht hW => ⟨⟨0, (), rfl, rfl, by rw [ht]; exact hP9, hD9⟩, hS.F ht⟩) hS.2.2 dX10_paid_22

set_option maxHeartbeats 4000000 in
set_option maxRecDepth 100000 in
/-- remaining: thrown 1 -/
theorem c_m_remaining (l : Launch) (D : va_G) (cA : Nat → ClassId) (sa : Nat → Nat) (w0 v0 v1 v2 v3 v4 v9 v13 v27 v28 v29 v30 v31 v32 v33 v34 v35 v36 v37 : Nat) (th : Int32) (fs : Nat → Int32) (i : Int32) (sz : Nat) (hz : Zs fs) : Met l yX10_remaining wsX10_remaining ({ frames := 2, cells := 0, slots := 0, locals := 46 }) (va_Pc [.ref w0, .int i] (Wd D cA sa [(w0, .inr (11, [.ref v0, .ref v1, .ref v2, .ref v3, .ref v4, .long 0, .long 0, .int 0, .int th, .ref v9, .int 0, .int 0, .int (-1), .ref v13, .int 0, .int 0, .int 0, .int 0, .int 0, .int 0, .int 0, .int 0, .int 0, .int 0, .int 0, .long 0, .int 0, .ref v27, .ref v28, .ref v29, .ref v30, .ref v31, .ref v32, .ref v33, .ref v34, .ref v35, .ref v36, .ref v37, .int 0])), (v0, .inl (cA 0, 326, .inl fs))] sz)) (va_Qi (fun (r : Int32) (_ : Unit) => r = 0) (fun (_ : Unit) t => Wq D (va_A [(w0, .inr (11, [.ref v0, .ref v1, .ref v2, .ref v3, .ref v4, .long 0, .long 0, .int 0, .int th, .ref v9, .int 0, .int 0, .int (-1), .ref v13, .int 0, .int 0, .int 0, .int 0, .int 0, .int 0, .int 0, .int 0, .int 0, .int 0, .int 0, .long 0, .int 0, .ref v27, .ref v28, .ref v29, .ref v30, .ref v31, .ref v32, .ref v33, .ref v34, .ref v35, .ref v36, .ref v37, .int 0])), (v0, .inl (cA 0, 326, .inl fs))] sz) [(w0, .inr (11, [.ref v0, .ref v1, .ref v2, .ref v3, .ref v4, .long 0, .long 0, .int 0, .int 1, .ref v9, .int 0, .int 0, .int (-1), .ref v13, .int 0, .int 0, .int 0, .int 0, .int 0, .int 0, .int 0, .int 0, .int 0, .int 0, .int 0, .long 0, .int 0, .ref v27, .ref v28, .ref v29, .ref v30, .ref v31, .ref v32, .ref v33, .ref v34, .ref v35, .ref v36, .ref v37, .int 0]))] t) (va_A [(w0, .inr (11, [.ref v0, .ref v1, .ref v2, .ref v3, .ref v4, .long 0, .long 0, .int 0, .int th, .ref v9, .int 0, .int 0, .int (-1), .ref v13, .int 0, .int 0, .int 0, .int 0, .int 0, .int 0, .int 0, .int 0, .int 0, .int 0, .int 0, .long 0, .int 0, .ref v27, .ref v28, .ref v29, .ref v30, .ref v31, .ref v32, .ref v33, .ref v34, .ref v35, .ref v36, .ref v37, .int 0])), (v0, .inl (cA 0, 326, .inl fs))] sz)) 0 0 (va_A [(w0, .inr (11, [.ref v0, .ref v1, .ref v2, .ref v3, .ref v4, .long 0, .long 0, .int 0, .int th, .ref v9, .int 0, .int 0, .int (-1), .ref v13, .int 0, .int 0, .int 0, .int 0, .int 0, .int 0, .int 0, .int 0, .int 0, .int 0, .int 0, .long 0, .int 0, .ref v27, .ref v28, .ref v29, .ref v30, .ref v31, .ref v32, .ref v33, .ref v34, .ref v35, .ref v36, .ref v37, .int 0])), (v0, .inl (cA 0, 326, .inl fs))] sz) := by
  refine Met.ofW (cc := cX10_remaining) (maxL := 2) (ret := (some .int)) (by decide) rfl ?_
  intro p e s m args below meth c s₁ B hml hv
  obtain ⟨rfl, hsz, hP, hK, hD0, hC, hZ⟩ := hv
  have hx := B.exec
  have hb := B.bytes
  have hr := B.returns
  have hts := atoms_spec (ws := wsX10_remaining) B.pre
  have hown : s.vm.findClass RX10 = some m.cls := findClass_of_methodNamed B.named
  have hlocks := B.notSynchronized
  subst hsz
  have hD := hD0.self (sz := s.heap.size)
  generalize hAe : va_A [(w0, .inr (11, [.ref v0, .ref v1, .ref v2, .ref v3, .ref v4, .long 0, .long 0, .int 0, .int th, .ref v9, .int 0, .int 0, .int (-1), .ref v13, .int 0, .int 0, .int 0, .int 0, .int 0, .int 0, .int 0, .int 0, .int 0, .int 0, .int 0, .long 0, .int 0, .ref v27, .ref v28, .ref v29, .ref v30, .ref v31, .ref v32, .ref v33, .ref v34, .ref v35, .ref v36, .ref v37, .int 0])), (v0, .inl (cA 0, 326, .inl fs))] s.heap.size = A at hD hZ ⊢
  have hA : ∀ q : Nat, s.heap.size ≤ q → A q := fun q h => by rw [← hAe]; exact Or.inr h
  have hS : va_S A s.heap s.heap [] := va_S.rf
  have hP : va_P D vwCl [(w0, .inr (11, [.ref v0, .ref v1, .ref v2, .ref v3, .ref v4, .long 0, .long 0, .int 0, .int th, .ref v9, .int 0, .int 0, .int (-1), .ref v13, .int 0, .int 0, .int 0, .int 0, .int 0, .int 0, .int 0, .int 0, .int 0, .int 0, .int 0, .long 0, .int 0, .ref v27, .ref v28, .ref v29, .ref v30, .ref v31, .ref v32, .ref v33, .ref v34, .ref v35, .ref v36, .ref v37, .int 0])), (v0, .inl (cA 0, 326, .inl fs))] s.heap := hP
  have hl := lv_entry ([.ref w0, .int i]) (n := 2) (Nat.le_of_ble_eq_true rfl)
  rw [lg_entry_eq]
  generalize (lg_sl ([.ref w0, .int i]) ++ List.replicate (2 - (lg_sl ([.ref w0, .int i])).length) Slot.unset).toArray = ls at hl ⊢
  have hl : lv_has ls 2 [(0, .ref w0), (1, .int i)] := hl
  refine lv_aload_n hx hb dX10_remaining_0 rfl (lv_at hl 0 rfl) ?_
  refine lv_aload_n hx hb dX10_remaining_1 rfl (lv_at hl 0 rfl) ?_
  refine lv_iload_n hx hb dX10_remaining_2 rfl (lv_at hl 1 rfl) ?_
  have hPc := hP.sub (ws' := [(w0, .inr (11, [.ref v0, .ref v1, .ref v2, .ref v3, .ref v4, .long 0, .long 0, .int 0, .int th, .ref v9, .int 0, .int 0, .int (-1), .ref v13, .int 0, .int 0, .int 0, .int 0, .int 0, .int 0, .int 0, .int 0, .int 0, .int 0, .int 0, .long 0, .int 0, .ref v27, .ref v28, .ref v29, .ref v30, .ref v31, .ref v32, .ref v33, .ref v34, .ref v35, .ref v36, .ref v37, .int 0])), (v0, .inl (cA 0, 326, .inl fs))]) [0, 1] rfl
  have hDc := hD.sub (ws' := [(w0, .inr (11, [.ref v0, .ref v1, .ref v2, .ref v3, .ref v4, .long 0, .long 0, .int 0, .int th, .ref v9, .int 0, .int 0, .int (-1), .ref v13, .int 0, .int 0, .int 0, .int 0, .int 0, .int 0, .int 0, .int 0, .int 0, .int 0, .int 0, .long 0, .int 0, .ref v27, .ref v28, .ref v29, .ref v30, .ref v31, .ref v32, .ref v33, .ref v34, .ref v35, .ref v36, .ref v37, .int 0])), (v0, .inl (cA 0, 326, .inl fs))]) [0, 1] (by decide) rfl
  have hFc := va_free (wc := [(w0, .inr (11, [.ref v0, .ref v1, .ref v2, .ref v3, .ref v4, .long 0, .long 0, .int 0, .int th, .ref v9, .int 0, .int 0, .int (-1), .ref v13, .int 0, .int 0, .int 0, .int 0, .int 0, .int 0, .int 0, .int 0, .int 0, .int 0, .int 0, .long 0, .int 0, .ref v27, .ref v28, .ref v29, .ref v30, .ref v31, .ref v32, .ref v33, .ref v34, .ref v35, .ref v36, .ref v37, .int 0])), (v0, .inl (cA 0, 326, .inl fs))]) hD hS hA [0, 1] rfl
  refine va_calli (va_runV (As := [.int i]) (rest := [.ref w0]) ⟨hx, hb, hml, hown, hts⟩ (c_m_isMilestone l D cA sa w0 v0 v1 v2 v3 v4 v9 v13 v27 v28 v29 v30 v31 v32 v33 v34 v35 v36 v37 th fs i s.heap.size hz) (cwV 1 hts gX10_remaining_X10_isMilestone rfl rfl rfl (by decide +kernel) ⟨(Nat.le_of_ble_eq_true rfl), (Nat.le_of_ble_eq_true rfl)⟩) ⟨Wd.blind, va_recv hK hPc (ci := 11) (q0 := 0) rfl rfl, fun U hU hW => ⟨rfl, Wd.call hPc hDc hK hC hZ hS hFc U hU hW⟩⟩ rfl rfl hl.1 rfl (lv_room (Nat.le_of_ble_eq_true rfl)) dX10_remaining_3 ⟨(Nat.le_of_ble_eq_true rfl), (Nat.le_of_ble_eq_true rfl)⟩) hS (fun q _ h => hFc q h) hFc (fun rn1 u t H1 locs ht hvm hw hB hz1 hk1 hS => ?_)
  obtain ⟨hP1, hD1⟩ := hB
  rw [ht] at hP1
  obtain ⟨hP, hD⟩ := va_join (wr := []) (w1 := [(w0, .inr (11, [.ref v0, .ref v1, .ref v2, .ref v3, .ref v4, .long 0, .long 0, .int 0, .int th, .ref v9, .int 0, .int 0, .int (-1), .ref v13, .int 0, .int 0, .int 0, .int 0, .int 0, .int 0, .int 0, .int 0, .int 0, .int 0, .int 0, .long 0, .int 0, .ref v27, .ref v28, .ref v29, .ref v30, .ref v31, .ref v32, .ref v33, .ref v34, .ref v35, .ref v36, .ref v37, .int 0])), (v0, .inl (cA 0, 326, .inl fs))]) hP hD [0, 1] [] rfl rfl (by decide) (by decide) hk1 hFc hP1 hD1
  generalize H1 = H at hP hS ⊢
  have hP : va_P D vwCl [(w0, .inr (11, [.ref v0, .ref v1, .ref v2, .ref v3, .ref v4, .long 0, .long 0, .int 0, .int th, .ref v9, .int 0, .int 0, .int (-1), .ref v13, .int 0, .int 0, .int 0, .int 0, .int 0, .int 0, .int 0, .int 0, .int 0, .int 0, .int 0, .long 0, .int 0, .ref v27, .ref v28, .ref v29, .ref v30, .ref v31, .ref v32, .ref v33, .ref v34, .ref v35, .ref v36, .ref v37, .int 0])), (v0, .inl (cA 0, 326, .inl fs))] H := hP
  have hD : va_D A [(w0, .inr (11, [.ref v0, .ref v1, .ref v2, .ref v3, .ref v4, .long 0, .long 0, .int 0, .int th, .ref v9, .int 0, .int 0, .int (-1), .ref v13, .int 0, .int 0, .int 0, .int 0, .int 0, .int 0, .int 0, .int 0, .int 0, .int 0, .int 0, .long 0, .int 0, .ref v27, .ref v28, .ref v29, .ref v30, .ref v31, .ref v32, .ref v33, .ref v34, .ref v35, .ref v36, .ref v37, .int 0])), (v0, .inl (cA 0, 326, .inl fs))] := hD
  obtain rfl : rn1 = 0 := hw
  have hPc := hP.sub (ws' := [(w0, .inr (11, [.ref v0, .ref v1, .ref v2, .ref v3, .ref v4, .long 0, .long 0, .int 0, .int th, .ref v9, .int 0, .int 0, .int (-1), .ref v13, .int 0, .int 0, .int 0, .int 0, .int 0, .int 0, .int 0, .int 0, .int 0, .int 0, .int 0, .long 0, .int 0, .ref v27, .ref v28, .ref v29, .ref v30, .ref v31, .ref v32, .ref v33, .ref v34, .ref v35, .ref v36, .ref v37, .int 0]))]) [0] rfl
  have hDc := hD.sub (ws' := [(w0, .inr (11, [.ref v0, .ref v1, .ref v2, .ref v3, .ref v4, .long 0, .long 0, .int 0, .int th, .ref v9, .int 0, .int 0, .int (-1), .ref v13, .int 0, .int 0, .int 0, .int 0, .int 0, .int 0, .int 0, .int 0, .int 0, .int 0, .int 0, .long 0, .int 0, .ref v27, .ref v28, .ref v29, .ref v30, .ref v31, .ref v32, .ref v33, .ref v34, .ref v35, .ref v36, .ref v37, .int 0]))]) [0] (by decide) rfl
  have hFc := va_free (wc := [(w0, .inr (11, [.ref v0, .ref v1, .ref v2, .ref v3, .ref v4, .long 0, .long 0, .int 0, .int th, .ref v9, .int 0, .int 0, .int (-1), .ref v13, .int 0, .int 0, .int 0, .int 0, .int 0, .int 0, .int 0, .int 0, .int 0, .int 0, .int 0, .long 0, .int 0, .ref v27, .ref v28, .ref v29, .ref v30, .ref v31, .ref v32, .ref v33, .ref v34, .ref v35, .ref v36, .ref v37, .int 0]))]) hD hS hA [0] rfl
  refine va_calli (va_runV (As := [.int 0]) (rest := []) ⟨hx, hb, hml, hown, hts⟩ (c_m_good_0 l D cA sa w0 v0 v1 v2 v3 v4 v9 v13 v27 v28 v29 v30 v31 v32 v33 v34 v35 v36 v37 th H.size) (cwV 1 hts gX10_remaining_X10_good rfl rfl rfl (by decide +kernel) ⟨(Nat.le_of_ble_eq_true rfl), (Nat.le_of_ble_eq_true rfl)⟩) ⟨Wd.blind, va_recv hK hPc (ci := 11) (q0 := 0) rfl rfl, fun U hU hW => ⟨rfl, Wd.call hPc hDc hK hC hZ hS hFc U hU hW⟩⟩ rfl rfl hl.1 rfl (lv_room (Nat.le_of_ble_eq_true rfl)) dX10_remaining_6 ⟨(Nat.le_of_ble_eq_true rfl), (Nat.le_of_ble_eq_true rfl)⟩) hS (fun q _ h => hFc q h) hFc (fun rn2 u t H1 locs ht hvm hw hB hz1 hk1 hS => ?_)
  obtain ⟨hP1, hD1⟩ := hB
  rw [ht] at hP1
  obtain ⟨hP, hD⟩ := va_join (wr := [(v0, .inl (cA 0, 326, .inl fs))]) (w1 := [(w0, .inr (11, [.ref v0, .ref v1, .ref v2, .ref v3, .ref v4, .long 0, .long 0, .int 0, .int 1, .ref v9, .int 0, .int 0, .int (-1), .ref v13, .int 0, .int 0, .int 0, .int 0, .int 0, .int 0, .int 0, .int 0, .int 0, .int 0, .int 0, .long 0, .int 0, .ref v27, .ref v28, .ref v29, .ref v30, .ref v31, .ref v32, .ref v33, .ref v34, .ref v35, .ref v36, .ref v37, .int 0]))]) hP hD [0] [1] rfl rfl (by decide) (by decide) hk1 hFc hP1 hD1
  generalize H1 = H at hP hS ⊢
  have hP : va_P D vwCl [(v0, .inl (cA 0, 326, .inl fs)), (w0, .inr (11, [.ref v0, .ref v1, .ref v2, .ref v3, .ref v4, .long 0, .long 0, .int 0, .int 1, .ref v9, .int 0, .int 0, .int (-1), .ref v13, .int 0, .int 0, .int 0, .int 0, .int 0, .int 0, .int 0, .int 0, .int 0, .int 0, .int 0, .long 0, .int 0, .ref v27, .ref v28, .ref v29, .ref v30, .ref v31, .ref v32, .ref v33, .ref v34, .ref v35, .ref v36, .ref v37, .int 0]))] H := hP
  have hD : va_D A [(v0, .inl (cA 0, 326, .inl fs)), (w0, .inr (11, [.ref v0, .ref v1, .ref v2, .ref v3, .ref v4, .long 0, .long 0, .int 0, .int 1, .ref v9, .int 0, .int 0, .int (-1), .ref v13, .int 0, .int 0, .int 0, .int 0, .int 0, .int 0, .int 0, .int 0, .int 0, .int 0, .int 0, .long 0, .int 0, .ref v27, .ref v28, .ref v29, .ref v30, .ref v31, .ref v32, .ref v33, .ref v34, .ref v35, .ref v36, .ref v37, .int 0]))] := hD
  obtain rfl : rn2 = 0 := hw
  refine lv_if_eq (tgt := 20) hx hb dX10_remaining_9 (by decide) (fun c3 => ?_) (fun c9 => absurd c9 (by decide))
  refine lv_iconst (v := 0) hx hb dX10_remaining_20 (by decide) ?_
  have hP9 := hP.sub (ws' := [(w0, .inr (11, [.ref v0, .ref v1, .ref v2, .ref v3, .ref v4, .long 0, .long 0, .int 0, .int 1, .ref v9, .int 0, .int 0, .int (-1), .ref v13, .int 0, .int 0, .int 0, .int 0, .int 0, .int 0, .int 0, .int 0, .int 0, .int 0, .int 0, .long 0, .int 0, .ref v27, .ref v28, .ref v29, .ref v30, .ref v31, .ref v32, .ref v33, .ref v34, .ref v35, .ref v36, .ref v37, .int 0]))]) [1] rfl
  have hD9 := hD.sub (ws' := [(w0, .inr (11, [.ref v0, .ref v1, .ref v2, .ref v3, .ref v4, .long 0, .long 0, .int 0, .int 1, .ref v9, .int 0, .int 0, .int (-1), .ref v13, .int 0, .int 0, .int 0, .int 0, .int 0, .int 0, .int 0, .int 0, .int 0, .int 0, .int 0, .long 0, .int 0, .ref v27, .ref v28, .ref v29, .ref v30, .ref v31, .ref v32, .ref v33, .ref v34, .ref v35, .ref v36, .ref v37, .int 0]))]) [1] (by decide) rfl
  refine W.widen (k := 0) (n := 0) (Nat.le_of_ble_eq_true rfl) (Nat.le_of_ble_eq_true rfl) ?_
  exact W.iret (v := 0) hx hb hr (fun t ht hW => ⟨⟨0, (), rfl, rfl, by rw [ht]; exact hP9, hD9⟩, hS.F ht⟩) hS.2.2 dX10_remaining_21

set_option maxHeartbeats 4000000 in
set_option maxRecDepth 100000 in
/-- frozen: thrown 1 -/
theorem c_m_frozen (l : Launch) (D : va_G) (cA : Nat → ClassId) (sa : Nat → Nat) (w0 v0 v1 v2 v3 v4 v9 v13 v27 v28 v29 v30 v31 v32 v33 v34 v35 v36 v37 : Nat) (th : Int32) (fs : Nat → Int32) (i : Int32) (sz : Nat) (hz : Zs fs) : Met l yX10_frozen wsX10_frozen ({ frames := 2, cells := 0, slots := 0, locals := 46 }) (va_Pc [.ref w0, .int i] (Wd D cA sa [(w0, .inr (11, [.ref v0, .ref v1, .ref v2, .ref v3, .ref v4, .long 0, .long 0, .int 0, .int th, .ref v9, .int 0, .int 0, .int (-1), .ref v13, .int 0, .int 0, .int 0, .int 0, .int 0, .int 0, .int 0, .int 0, .int 0, .int 0, .int 0, .long 0, .int 0, .ref v27, .ref v28, .ref v29, .ref v30, .ref v31, .ref v32, .ref v33, .ref v34, .ref v35, .ref v36, .ref v37, .int 0])), (v0, .inl (cA 0, 326, .inl fs))] sz)) (va_Qi (fun (r : Int32) (_ : Unit) => r = 0) (fun (_ : Unit) t => Wq D (va_A [(w0, .inr (11, [.ref v0, .ref v1, .ref v2, .ref v3, .ref v4, .long 0, .long 0, .int 0, .int th, .ref v9, .int 0, .int 0, .int (-1), .ref v13, .int 0, .int 0, .int 0, .int 0, .int 0, .int 0, .int 0, .int 0, .int 0, .int 0, .int 0, .long 0, .int 0, .ref v27, .ref v28, .ref v29, .ref v30, .ref v31, .ref v32, .ref v33, .ref v34, .ref v35, .ref v36, .ref v37, .int 0])), (v0, .inl (cA 0, 326, .inl fs))] sz) [(w0, .inr (11, [.ref v0, .ref v1, .ref v2, .ref v3, .ref v4, .long 0, .long 0, .int 0, .int 1, .ref v9, .int 0, .int 0, .int (-1), .ref v13, .int 0, .int 0, .int 0, .int 0, .int 0, .int 0, .int 0, .int 0, .int 0, .int 0, .int 0, .long 0, .int 0, .ref v27, .ref v28, .ref v29, .ref v30, .ref v31, .ref v32, .ref v33, .ref v34, .ref v35, .ref v36, .ref v37, .int 0]))] t) (va_A [(w0, .inr (11, [.ref v0, .ref v1, .ref v2, .ref v3, .ref v4, .long 0, .long 0, .int 0, .int th, .ref v9, .int 0, .int 0, .int (-1), .ref v13, .int 0, .int 0, .int 0, .int 0, .int 0, .int 0, .int 0, .int 0, .int 0, .int 0, .int 0, .long 0, .int 0, .ref v27, .ref v28, .ref v29, .ref v30, .ref v31, .ref v32, .ref v33, .ref v34, .ref v35, .ref v36, .ref v37, .int 0])), (v0, .inl (cA 0, 326, .inl fs))] sz)) 0 0 (va_A [(w0, .inr (11, [.ref v0, .ref v1, .ref v2, .ref v3, .ref v4, .long 0, .long 0, .int 0, .int th, .ref v9, .int 0, .int 0, .int (-1), .ref v13, .int 0, .int 0, .int 0, .int 0, .int 0, .int 0, .int 0, .int 0, .int 0, .int 0, .int 0, .long 0, .int 0, .ref v27, .ref v28, .ref v29, .ref v30, .ref v31, .ref v32, .ref v33, .ref v34, .ref v35, .ref v36, .ref v37, .int 0])), (v0, .inl (cA 0, 326, .inl fs))] sz) := by
  refine Met.ofW (cc := cX10_frozen) (maxL := 2) (ret := (some .int)) (by decide) rfl ?_
  intro p e s m args below meth c s₁ B hml hv
  obtain ⟨rfl, hsz, hP, hK, hD0, hC, hZ⟩ := hv
  have hx := B.exec
  have hb := B.bytes
  have hr := B.returns
  have hts := atoms_spec (ws := wsX10_frozen) B.pre
  have hown : s.vm.findClass RX10 = some m.cls := findClass_of_methodNamed B.named
  have hlocks := B.notSynchronized
  subst hsz
  have hD := hD0.self (sz := s.heap.size)
  generalize hAe : va_A [(w0, .inr (11, [.ref v0, .ref v1, .ref v2, .ref v3, .ref v4, .long 0, .long 0, .int 0, .int th, .ref v9, .int 0, .int 0, .int (-1), .ref v13, .int 0, .int 0, .int 0, .int 0, .int 0, .int 0, .int 0, .int 0, .int 0, .int 0, .int 0, .long 0, .int 0, .ref v27, .ref v28, .ref v29, .ref v30, .ref v31, .ref v32, .ref v33, .ref v34, .ref v35, .ref v36, .ref v37, .int 0])), (v0, .inl (cA 0, 326, .inl fs))] s.heap.size = A at hD hZ ⊢
  have hA : ∀ q : Nat, s.heap.size ≤ q → A q := fun q h => by rw [← hAe]; exact Or.inr h
  have hS : va_S A s.heap s.heap [] := va_S.rf
  have hP : va_P D vwCl [(w0, .inr (11, [.ref v0, .ref v1, .ref v2, .ref v3, .ref v4, .long 0, .long 0, .int 0, .int th, .ref v9, .int 0, .int 0, .int (-1), .ref v13, .int 0, .int 0, .int 0, .int 0, .int 0, .int 0, .int 0, .int 0, .int 0, .int 0, .int 0, .long 0, .int 0, .ref v27, .ref v28, .ref v29, .ref v30, .ref v31, .ref v32, .ref v33, .ref v34, .ref v35, .ref v36, .ref v37, .int 0])), (v0, .inl (cA 0, 326, .inl fs))] s.heap := hP
  have hl := lv_entry ([.ref w0, .int i]) (n := 2) (Nat.le_of_ble_eq_true rfl)
  rw [lg_entry_eq]
  generalize (lg_sl ([.ref w0, .int i]) ++ List.replicate (2 - (lg_sl ([.ref w0, .int i])).length) Slot.unset).toArray = ls at hl ⊢
  have hl : lv_has ls 2 [(0, .ref w0), (1, .int i)] := hl
  refine lv_aload_n hx hb dX10_frozen_0 rfl (lv_at hl 0 rfl) ?_
  refine lv_aload_n hx hb dX10_frozen_1 rfl (lv_at hl 0 rfl) ?_
  refine lv_iload_n hx hb dX10_frozen_2 rfl (lv_at hl 1 rfl) ?_
  have hPc := hP.sub (ws' := [(w0, .inr (11, [.ref v0, .ref v1, .ref v2, .ref v3, .ref v4, .long 0, .long 0, .int 0, .int th, .ref v9, .int 0, .int 0, .int (-1), .ref v13, .int 0, .int 0, .int 0, .int 0, .int 0, .int 0, .int 0, .int 0, .int 0, .int 0, .int 0, .long 0, .int 0, .ref v27, .ref v28, .ref v29, .ref v30, .ref v31, .ref v32, .ref v33, .ref v34, .ref v35, .ref v36, .ref v37, .int 0])), (v0, .inl (cA 0, 326, .inl fs))]) [0, 1] rfl
  have hDc := hD.sub (ws' := [(w0, .inr (11, [.ref v0, .ref v1, .ref v2, .ref v3, .ref v4, .long 0, .long 0, .int 0, .int th, .ref v9, .int 0, .int 0, .int (-1), .ref v13, .int 0, .int 0, .int 0, .int 0, .int 0, .int 0, .int 0, .int 0, .int 0, .int 0, .int 0, .long 0, .int 0, .ref v27, .ref v28, .ref v29, .ref v30, .ref v31, .ref v32, .ref v33, .ref v34, .ref v35, .ref v36, .ref v37, .int 0])), (v0, .inl (cA 0, 326, .inl fs))]) [0, 1] (by decide) rfl
  have hFc := va_free (wc := [(w0, .inr (11, [.ref v0, .ref v1, .ref v2, .ref v3, .ref v4, .long 0, .long 0, .int 0, .int th, .ref v9, .int 0, .int 0, .int (-1), .ref v13, .int 0, .int 0, .int 0, .int 0, .int 0, .int 0, .int 0, .int 0, .int 0, .int 0, .int 0, .long 0, .int 0, .ref v27, .ref v28, .ref v29, .ref v30, .ref v31, .ref v32, .ref v33, .ref v34, .ref v35, .ref v36, .ref v37, .int 0])), (v0, .inl (cA 0, 326, .inl fs))]) hD hS hA [0, 1] rfl
  refine va_calli (va_runV (As := [.int i]) (rest := [.ref w0]) ⟨hx, hb, hml, hown, hts⟩ (c_m_isMilestone l D cA sa w0 v0 v1 v2 v3 v4 v9 v13 v27 v28 v29 v30 v31 v32 v33 v34 v35 v36 v37 th fs i s.heap.size hz) (cwV 1 hts gX10_frozen_X10_isMilestone rfl rfl rfl (by decide +kernel) ⟨(Nat.le_of_ble_eq_true rfl), (Nat.le_of_ble_eq_true rfl)⟩) ⟨Wd.blind, va_recv hK hPc (ci := 11) (q0 := 0) rfl rfl, fun U hU hW => ⟨rfl, Wd.call hPc hDc hK hC hZ hS hFc U hU hW⟩⟩ rfl rfl hl.1 rfl (lv_room (Nat.le_of_ble_eq_true rfl)) dX10_frozen_3 ⟨(Nat.le_of_ble_eq_true rfl), (Nat.le_of_ble_eq_true rfl)⟩) hS (fun q _ h => hFc q h) hFc (fun rn1 u t H1 locs ht hvm hw hB hz1 hk1 hS => ?_)
  obtain ⟨hP1, hD1⟩ := hB
  rw [ht] at hP1
  obtain ⟨hP, hD⟩ := va_join (wr := []) (w1 := [(w0, .inr (11, [.ref v0, .ref v1, .ref v2, .ref v3, .ref v4, .long 0, .long 0, .int 0, .int th, .ref v9, .int 0, .int 0, .int (-1), .ref v13, .int 0, .int 0, .int 0, .int 0, .int 0, .int 0, .int 0, .int 0, .int 0, .int 0, .int 0, .long 0, .int 0, .ref v27, .ref v28, .ref v29, .ref v30, .ref v31, .ref v32, .ref v33, .ref v34, .ref v35, .ref v36, .ref v37, .int 0])), (v0, .inl (cA 0, 326, .inl fs))]) hP hD [0, 1] [] rfl rfl (by decide) (by decide) hk1 hFc hP1 hD1
  generalize H1 = H at hP hS ⊢
  have hP : va_P D vwCl [(w0, .inr (11, [.ref v0, .ref v1, .ref v2, .ref v3, .ref v4, .long 0, .long 0, .int 0, .int th, .ref v9, .int 0, .int 0, .int (-1), .ref v13, .int 0, .int 0, .int 0, .int 0, .int 0, .int 0, .int 0, .int 0, .int 0, .int 0, .int 0, .long 0, .int 0, .ref v27, .ref v28, .ref v29, .ref v30, .ref v31, .ref v32, .ref v33, .ref v34, .ref v35, .ref v36, .ref v37, .int 0])), (v0, .inl (cA 0, 326, .inl fs))] H := hP
  have hD : va_D A [(w0, .inr (11, [.ref v0, .ref v1, .ref v2, .ref v3, .ref v4, .long 0, .long 0, .int 0, .int th, .ref v9, .int 0, .int 0, .int (-1), .ref v13, .int 0, .int 0, .int 0, .int 0, .int 0, .int 0, .int 0, .int 0, .int 0, .int 0, .int 0, .long 0, .int 0, .ref v27, .ref v28, .ref v29, .ref v30, .ref v31, .ref v32, .ref v33, .ref v34, .ref v35, .ref v36, .ref v37, .int 0])), (v0, .inl (cA 0, 326, .inl fs))] := hD
  obtain rfl : rn1 = 0 := hw
  have hPc := hP.sub (ws' := [(w0, .inr (11, [.ref v0, .ref v1, .ref v2, .ref v3, .ref v4, .long 0, .long 0, .int 0, .int th, .ref v9, .int 0, .int 0, .int (-1), .ref v13, .int 0, .int 0, .int 0, .int 0, .int 0, .int 0, .int 0, .int 0, .int 0, .int 0, .int 0, .long 0, .int 0, .ref v27, .ref v28, .ref v29, .ref v30, .ref v31, .ref v32, .ref v33, .ref v34, .ref v35, .ref v36, .ref v37, .int 0]))]) [0] rfl
  have hDc := hD.sub (ws' := [(w0, .inr (11, [.ref v0, .ref v1, .ref v2, .ref v3, .ref v4, .long 0, .long 0, .int 0, .int th, .ref v9, .int 0, .int 0, .int (-1), .ref v13, .int 0, .int 0, .int 0, .int 0, .int 0, .int 0, .int 0, .int 0, .int 0, .int 0, .int 0, .long 0, .int 0, .ref v27, .ref v28, .ref v29, .ref v30, .ref v31, .ref v32, .ref v33, .ref v34, .ref v35, .ref v36, .ref v37, .int 0]))]) [0] (by decide) rfl
  have hFc := va_free (wc := [(w0, .inr (11, [.ref v0, .ref v1, .ref v2, .ref v3, .ref v4, .long 0, .long 0, .int 0, .int th, .ref v9, .int 0, .int 0, .int (-1), .ref v13, .int 0, .int 0, .int 0, .int 0, .int 0, .int 0, .int 0, .int 0, .int 0, .int 0, .int 0, .long 0, .int 0, .ref v27, .ref v28, .ref v29, .ref v30, .ref v31, .ref v32, .ref v33, .ref v34, .ref v35, .ref v36, .ref v37, .int 0]))]) hD hS hA [0] rfl
  refine va_calli (va_runV (As := [.int 0]) (rest := []) ⟨hx, hb, hml, hown, hts⟩ (c_m_good_0 l D cA sa w0 v0 v1 v2 v3 v4 v9 v13 v27 v28 v29 v30 v31 v32 v33 v34 v35 v36 v37 th H.size) (cwV 1 hts gX10_frozen_X10_good rfl rfl rfl (by decide +kernel) ⟨(Nat.le_of_ble_eq_true rfl), (Nat.le_of_ble_eq_true rfl)⟩) ⟨Wd.blind, va_recv hK hPc (ci := 11) (q0 := 0) rfl rfl, fun U hU hW => ⟨rfl, Wd.call hPc hDc hK hC hZ hS hFc U hU hW⟩⟩ rfl rfl hl.1 rfl (lv_room (Nat.le_of_ble_eq_true rfl)) dX10_frozen_6 ⟨(Nat.le_of_ble_eq_true rfl), (Nat.le_of_ble_eq_true rfl)⟩) hS (fun q _ h => hFc q h) hFc (fun rn2 u t H1 locs ht hvm hw hB hz1 hk1 hS => ?_)
  obtain ⟨hP1, hD1⟩ := hB
  rw [ht] at hP1
  obtain ⟨hP, hD⟩ := va_join (wr := [(v0, .inl (cA 0, 326, .inl fs))]) (w1 := [(w0, .inr (11, [.ref v0, .ref v1, .ref v2, .ref v3, .ref v4, .long 0, .long 0, .int 0, .int 1, .ref v9, .int 0, .int 0, .int (-1), .ref v13, .int 0, .int 0, .int 0, .int 0, .int 0, .int 0, .int 0, .int 0, .int 0, .int 0, .int 0, .long 0, .int 0, .ref v27, .ref v28, .ref v29, .ref v30, .ref v31, .ref v32, .ref v33, .ref v34, .ref v35, .ref v36, .ref v37, .int 0]))]) hP hD [0] [1] rfl rfl (by decide) (by decide) hk1 hFc hP1 hD1
  generalize H1 = H at hP hS ⊢
  have hP : va_P D vwCl [(v0, .inl (cA 0, 326, .inl fs)), (w0, .inr (11, [.ref v0, .ref v1, .ref v2, .ref v3, .ref v4, .long 0, .long 0, .int 0, .int 1, .ref v9, .int 0, .int 0, .int (-1), .ref v13, .int 0, .int 0, .int 0, .int 0, .int 0, .int 0, .int 0, .int 0, .int 0, .int 0, .int 0, .long 0, .int 0, .ref v27, .ref v28, .ref v29, .ref v30, .ref v31, .ref v32, .ref v33, .ref v34, .ref v35, .ref v36, .ref v37, .int 0]))] H := hP
  have hD : va_D A [(v0, .inl (cA 0, 326, .inl fs)), (w0, .inr (11, [.ref v0, .ref v1, .ref v2, .ref v3, .ref v4, .long 0, .long 0, .int 0, .int 1, .ref v9, .int 0, .int 0, .int (-1), .ref v13, .int 0, .int 0, .int 0, .int 0, .int 0, .int 0, .int 0, .int 0, .int 0, .int 0, .int 0, .long 0, .int 0, .ref v27, .ref v28, .ref v29, .ref v30, .ref v31, .ref v32, .ref v33, .ref v34, .ref v35, .ref v36, .ref v37, .int 0]))] := hD
  obtain rfl : rn2 = 0 := hw
  refine lv_if_eq (tgt := 21) hx hb dX10_frozen_9 (by decide) (fun c3 => ?_) (fun c9 => absurd c9 (by decide))
  refine lv_iconst (v := 0) hx hb dX10_frozen_21 (by decide) ?_
  have hP9 := hP.sub (ws' := [(w0, .inr (11, [.ref v0, .ref v1, .ref v2, .ref v3, .ref v4, .long 0, .long 0, .int 0, .int 1, .ref v9, .int 0, .int 0, .int (-1), .ref v13, .int 0, .int 0, .int 0, .int 0, .int 0, .int 0, .int 0, .int 0, .int 0, .int 0, .int 0, .long 0, .int 0, .ref v27, .ref v28, .ref v29, .ref v30, .ref v31, .ref v32, .ref v33, .ref v34, .ref v35, .ref v36, .ref v37, .int 0]))]) [1] rfl
  have hD9 := hD.sub (ws' := [(w0, .inr (11, [.ref v0, .ref v1, .ref v2, .ref v3, .ref v4, .long 0, .long 0, .int 0, .int 1, .ref v9, .int 0, .int 0, .int (-1), .ref v13, .int 0, .int 0, .int 0, .int 0, .int 0, .int 0, .int 0, .int 0, .int 0, .int 0, .int 0, .long 0, .int 0, .ref v27, .ref v28, .ref v29, .ref v30, .ref v31, .ref v32, .ref v33, .ref v34, .ref v35, .ref v36, .ref v37, .int 0]))]) [1] (by decide) rfl
  refine W.widen (k := 0) (n := 0) (Nat.le_of_ble_eq_true rfl) (Nat.le_of_ble_eq_true rfl) ?_
  exact W.iret (v := 0) hx hb hr (fun t ht hW => ⟨⟨0, (), rfl, rfl, by rw [ht]; exact hP9, hD9⟩, hS.F ht⟩) hS.2.2 dX10_frozen_22

set_option maxHeartbeats 4000000 in
set_option maxRecDepth 100000 in
/-- dueDay: thrown 1 -/
theorem c_m_dueDay (l : Launch) (D : va_G) (cA : Nat → ClassId) (sa : Nat → Nat) (w0 v0 v1 v2 v3 v4 v9 v13 v27 v28 v29 v30 v31 v32 v33 v34 v35 v36 v37 : Nat) (th : Int32) (fs : Nat → Int32) (i : Int32) (sz : Nat) (hz : Zs fs) : Met l yX10_dueDay wsX10_dueDay ({ frames := 2, cells := 0, slots := 0, locals := 46 }) (va_Pc [.ref w0, .int i] (Wd D cA sa [(w0, .inr (11, [.ref v0, .ref v1, .ref v2, .ref v3, .ref v4, .long 0, .long 0, .int 0, .int th, .ref v9, .int 0, .int 0, .int (-1), .ref v13, .int 0, .int 0, .int 0, .int 0, .int 0, .int 0, .int 0, .int 0, .int 0, .int 0, .int 0, .long 0, .int 0, .ref v27, .ref v28, .ref v29, .ref v30, .ref v31, .ref v32, .ref v33, .ref v34, .ref v35, .ref v36, .ref v37, .int 0])), (v0, .inl (cA 0, 326, .inl fs))] sz)) (va_Qi (fun (r : Int32) (_ : Unit) => r = 0) (fun (_ : Unit) t => Wq D (va_A [(w0, .inr (11, [.ref v0, .ref v1, .ref v2, .ref v3, .ref v4, .long 0, .long 0, .int 0, .int th, .ref v9, .int 0, .int 0, .int (-1), .ref v13, .int 0, .int 0, .int 0, .int 0, .int 0, .int 0, .int 0, .int 0, .int 0, .int 0, .int 0, .long 0, .int 0, .ref v27, .ref v28, .ref v29, .ref v30, .ref v31, .ref v32, .ref v33, .ref v34, .ref v35, .ref v36, .ref v37, .int 0])), (v0, .inl (cA 0, 326, .inl fs))] sz) [(w0, .inr (11, [.ref v0, .ref v1, .ref v2, .ref v3, .ref v4, .long 0, .long 0, .int 0, .int 1, .ref v9, .int 0, .int 0, .int (-1), .ref v13, .int 0, .int 0, .int 0, .int 0, .int 0, .int 0, .int 0, .int 0, .int 0, .int 0, .int 0, .long 0, .int 0, .ref v27, .ref v28, .ref v29, .ref v30, .ref v31, .ref v32, .ref v33, .ref v34, .ref v35, .ref v36, .ref v37, .int 0]))] t) (va_A [(w0, .inr (11, [.ref v0, .ref v1, .ref v2, .ref v3, .ref v4, .long 0, .long 0, .int 0, .int th, .ref v9, .int 0, .int 0, .int (-1), .ref v13, .int 0, .int 0, .int 0, .int 0, .int 0, .int 0, .int 0, .int 0, .int 0, .int 0, .int 0, .long 0, .int 0, .ref v27, .ref v28, .ref v29, .ref v30, .ref v31, .ref v32, .ref v33, .ref v34, .ref v35, .ref v36, .ref v37, .int 0])), (v0, .inl (cA 0, 326, .inl fs))] sz)) 0 0 (va_A [(w0, .inr (11, [.ref v0, .ref v1, .ref v2, .ref v3, .ref v4, .long 0, .long 0, .int 0, .int th, .ref v9, .int 0, .int 0, .int (-1), .ref v13, .int 0, .int 0, .int 0, .int 0, .int 0, .int 0, .int 0, .int 0, .int 0, .int 0, .int 0, .long 0, .int 0, .ref v27, .ref v28, .ref v29, .ref v30, .ref v31, .ref v32, .ref v33, .ref v34, .ref v35, .ref v36, .ref v37, .int 0])), (v0, .inl (cA 0, 326, .inl fs))] sz) := by
  refine Met.ofW (cc := cX10_dueDay) (maxL := 2) (ret := (some .int)) (by decide) rfl ?_
  intro p e s m args below meth c s₁ B hml hv
  obtain ⟨rfl, hsz, hP, hK, hD0, hC, hZ⟩ := hv
  have hx := B.exec
  have hb := B.bytes
  have hr := B.returns
  have hts := atoms_spec (ws := wsX10_dueDay) B.pre
  have hown : s.vm.findClass RX10 = some m.cls := findClass_of_methodNamed B.named
  have hlocks := B.notSynchronized
  subst hsz
  have hD := hD0.self (sz := s.heap.size)
  generalize hAe : va_A [(w0, .inr (11, [.ref v0, .ref v1, .ref v2, .ref v3, .ref v4, .long 0, .long 0, .int 0, .int th, .ref v9, .int 0, .int 0, .int (-1), .ref v13, .int 0, .int 0, .int 0, .int 0, .int 0, .int 0, .int 0, .int 0, .int 0, .int 0, .int 0, .long 0, .int 0, .ref v27, .ref v28, .ref v29, .ref v30, .ref v31, .ref v32, .ref v33, .ref v34, .ref v35, .ref v36, .ref v37, .int 0])), (v0, .inl (cA 0, 326, .inl fs))] s.heap.size = A at hD hZ ⊢
  have hA : ∀ q : Nat, s.heap.size ≤ q → A q := fun q h => by rw [← hAe]; exact Or.inr h
  have hS : va_S A s.heap s.heap [] := va_S.rf
  have hP : va_P D vwCl [(w0, .inr (11, [.ref v0, .ref v1, .ref v2, .ref v3, .ref v4, .long 0, .long 0, .int 0, .int th, .ref v9, .int 0, .int 0, .int (-1), .ref v13, .int 0, .int 0, .int 0, .int 0, .int 0, .int 0, .int 0, .int 0, .int 0, .int 0, .int 0, .long 0, .int 0, .ref v27, .ref v28, .ref v29, .ref v30, .ref v31, .ref v32, .ref v33, .ref v34, .ref v35, .ref v36, .ref v37, .int 0])), (v0, .inl (cA 0, 326, .inl fs))] s.heap := hP
  have hl := lv_entry ([.ref w0, .int i]) (n := 2) (Nat.le_of_ble_eq_true rfl)
  rw [lg_entry_eq]
  generalize (lg_sl ([.ref w0, .int i]) ++ List.replicate (2 - (lg_sl ([.ref w0, .int i])).length) Slot.unset).toArray = ls at hl ⊢
  have hl : lv_has ls 2 [(0, .ref w0), (1, .int i)] := hl
  refine lv_aload_n hx hb dX10_dueDay_0 rfl (lv_at hl 0 rfl) ?_
  refine lv_aload_n hx hb dX10_dueDay_1 rfl (lv_at hl 0 rfl) ?_
  refine lv_iload_n hx hb dX10_dueDay_2 rfl (lv_at hl 1 rfl) ?_
  have hPc := hP.sub (ws' := [(w0, .inr (11, [.ref v0, .ref v1, .ref v2, .ref v3, .ref v4, .long 0, .long 0, .int 0, .int th, .ref v9, .int 0, .int 0, .int (-1), .ref v13, .int 0, .int 0, .int 0, .int 0, .int 0, .int 0, .int 0, .int 0, .int 0, .int 0, .int 0, .long 0, .int 0, .ref v27, .ref v28, .ref v29, .ref v30, .ref v31, .ref v32, .ref v33, .ref v34, .ref v35, .ref v36, .ref v37, .int 0])), (v0, .inl (cA 0, 326, .inl fs))]) [0, 1] rfl
  have hDc := hD.sub (ws' := [(w0, .inr (11, [.ref v0, .ref v1, .ref v2, .ref v3, .ref v4, .long 0, .long 0, .int 0, .int th, .ref v9, .int 0, .int 0, .int (-1), .ref v13, .int 0, .int 0, .int 0, .int 0, .int 0, .int 0, .int 0, .int 0, .int 0, .int 0, .int 0, .long 0, .int 0, .ref v27, .ref v28, .ref v29, .ref v30, .ref v31, .ref v32, .ref v33, .ref v34, .ref v35, .ref v36, .ref v37, .int 0])), (v0, .inl (cA 0, 326, .inl fs))]) [0, 1] (by decide) rfl
  have hFc := va_free (wc := [(w0, .inr (11, [.ref v0, .ref v1, .ref v2, .ref v3, .ref v4, .long 0, .long 0, .int 0, .int th, .ref v9, .int 0, .int 0, .int (-1), .ref v13, .int 0, .int 0, .int 0, .int 0, .int 0, .int 0, .int 0, .int 0, .int 0, .int 0, .int 0, .long 0, .int 0, .ref v27, .ref v28, .ref v29, .ref v30, .ref v31, .ref v32, .ref v33, .ref v34, .ref v35, .ref v36, .ref v37, .int 0])), (v0, .inl (cA 0, 326, .inl fs))]) hD hS hA [0, 1] rfl
  refine va_calli (va_runV (As := [.int i]) (rest := [.ref w0]) ⟨hx, hb, hml, hown, hts⟩ (c_m_isMilestone l D cA sa w0 v0 v1 v2 v3 v4 v9 v13 v27 v28 v29 v30 v31 v32 v33 v34 v35 v36 v37 th fs i s.heap.size hz) (cwV 1 hts gX10_dueDay_X10_isMilestone rfl rfl rfl (by decide +kernel) ⟨(Nat.le_of_ble_eq_true rfl), (Nat.le_of_ble_eq_true rfl)⟩) ⟨Wd.blind, va_recv hK hPc (ci := 11) (q0 := 0) rfl rfl, fun U hU hW => ⟨rfl, Wd.call hPc hDc hK hC hZ hS hFc U hU hW⟩⟩ rfl rfl hl.1 rfl (lv_room (Nat.le_of_ble_eq_true rfl)) dX10_dueDay_3 ⟨(Nat.le_of_ble_eq_true rfl), (Nat.le_of_ble_eq_true rfl)⟩) hS (fun q _ h => hFc q h) hFc (fun rn1 u t H1 locs ht hvm hw hB hz1 hk1 hS => ?_)
  obtain ⟨hP1, hD1⟩ := hB
  rw [ht] at hP1
  obtain ⟨hP, hD⟩ := va_join (wr := []) (w1 := [(w0, .inr (11, [.ref v0, .ref v1, .ref v2, .ref v3, .ref v4, .long 0, .long 0, .int 0, .int th, .ref v9, .int 0, .int 0, .int (-1), .ref v13, .int 0, .int 0, .int 0, .int 0, .int 0, .int 0, .int 0, .int 0, .int 0, .int 0, .int 0, .long 0, .int 0, .ref v27, .ref v28, .ref v29, .ref v30, .ref v31, .ref v32, .ref v33, .ref v34, .ref v35, .ref v36, .ref v37, .int 0])), (v0, .inl (cA 0, 326, .inl fs))]) hP hD [0, 1] [] rfl rfl (by decide) (by decide) hk1 hFc hP1 hD1
  generalize H1 = H at hP hS ⊢
  have hP : va_P D vwCl [(w0, .inr (11, [.ref v0, .ref v1, .ref v2, .ref v3, .ref v4, .long 0, .long 0, .int 0, .int th, .ref v9, .int 0, .int 0, .int (-1), .ref v13, .int 0, .int 0, .int 0, .int 0, .int 0, .int 0, .int 0, .int 0, .int 0, .int 0, .int 0, .long 0, .int 0, .ref v27, .ref v28, .ref v29, .ref v30, .ref v31, .ref v32, .ref v33, .ref v34, .ref v35, .ref v36, .ref v37, .int 0])), (v0, .inl (cA 0, 326, .inl fs))] H := hP
  have hD : va_D A [(w0, .inr (11, [.ref v0, .ref v1, .ref v2, .ref v3, .ref v4, .long 0, .long 0, .int 0, .int th, .ref v9, .int 0, .int 0, .int (-1), .ref v13, .int 0, .int 0, .int 0, .int 0, .int 0, .int 0, .int 0, .int 0, .int 0, .int 0, .int 0, .long 0, .int 0, .ref v27, .ref v28, .ref v29, .ref v30, .ref v31, .ref v32, .ref v33, .ref v34, .ref v35, .ref v36, .ref v37, .int 0])), (v0, .inl (cA 0, 326, .inl fs))] := hD
  obtain rfl : rn1 = 0 := hw
  have hPc := hP.sub (ws' := [(w0, .inr (11, [.ref v0, .ref v1, .ref v2, .ref v3, .ref v4, .long 0, .long 0, .int 0, .int th, .ref v9, .int 0, .int 0, .int (-1), .ref v13, .int 0, .int 0, .int 0, .int 0, .int 0, .int 0, .int 0, .int 0, .int 0, .int 0, .int 0, .long 0, .int 0, .ref v27, .ref v28, .ref v29, .ref v30, .ref v31, .ref v32, .ref v33, .ref v34, .ref v35, .ref v36, .ref v37, .int 0]))]) [0] rfl
  have hDc := hD.sub (ws' := [(w0, .inr (11, [.ref v0, .ref v1, .ref v2, .ref v3, .ref v4, .long 0, .long 0, .int 0, .int th, .ref v9, .int 0, .int 0, .int (-1), .ref v13, .int 0, .int 0, .int 0, .int 0, .int 0, .int 0, .int 0, .int 0, .int 0, .int 0, .int 0, .long 0, .int 0, .ref v27, .ref v28, .ref v29, .ref v30, .ref v31, .ref v32, .ref v33, .ref v34, .ref v35, .ref v36, .ref v37, .int 0]))]) [0] (by decide) rfl
  have hFc := va_free (wc := [(w0, .inr (11, [.ref v0, .ref v1, .ref v2, .ref v3, .ref v4, .long 0, .long 0, .int 0, .int th, .ref v9, .int 0, .int 0, .int (-1), .ref v13, .int 0, .int 0, .int 0, .int 0, .int 0, .int 0, .int 0, .int 0, .int 0, .int 0, .int 0, .long 0, .int 0, .ref v27, .ref v28, .ref v29, .ref v30, .ref v31, .ref v32, .ref v33, .ref v34, .ref v35, .ref v36, .ref v37, .int 0]))]) hD hS hA [0] rfl
  refine va_calli (va_runV (As := [.int 0]) (rest := []) ⟨hx, hb, hml, hown, hts⟩ (c_m_good_0 l D cA sa w0 v0 v1 v2 v3 v4 v9 v13 v27 v28 v29 v30 v31 v32 v33 v34 v35 v36 v37 th H.size) (cwV 1 hts gX10_dueDay_X10_good rfl rfl rfl (by decide +kernel) ⟨(Nat.le_of_ble_eq_true rfl), (Nat.le_of_ble_eq_true rfl)⟩) ⟨Wd.blind, va_recv hK hPc (ci := 11) (q0 := 0) rfl rfl, fun U hU hW => ⟨rfl, Wd.call hPc hDc hK hC hZ hS hFc U hU hW⟩⟩ rfl rfl hl.1 rfl (lv_room (Nat.le_of_ble_eq_true rfl)) dX10_dueDay_6 ⟨(Nat.le_of_ble_eq_true rfl), (Nat.le_of_ble_eq_true rfl)⟩) hS (fun q _ h => hFc q h) hFc (fun rn2 u t H1 locs ht hvm hw hB hz1 hk1 hS => ?_)
  obtain ⟨hP1, hD1⟩ := hB
  rw [ht] at hP1
  obtain ⟨hP, hD⟩ := va_join (wr := [(v0, .inl (cA 0, 326, .inl fs))]) (w1 := [(w0, .inr (11, [.ref v0, .ref v1, .ref v2, .ref v3, .ref v4, .long 0, .long 0, .int 0, .int 1, .ref v9, .int 0, .int 0, .int (-1), .ref v13, .int 0, .int 0, .int 0, .int 0, .int 0, .int 0, .int 0, .int 0, .int 0, .int 0, .int 0, .long 0, .int 0, .ref v27, .ref v28, .ref v29, .ref v30, .ref v31, .ref v32, .ref v33, .ref v34, .ref v35, .ref v36, .ref v37, .int 0]))]) hP hD [0] [1] rfl rfl (by decide) (by decide) hk1 hFc hP1 hD1
  generalize H1 = H at hP hS ⊢
  have hP : va_P D vwCl [(v0, .inl (cA 0, 326, .inl fs)), (w0, .inr (11, [.ref v0, .ref v1, .ref v2, .ref v3, .ref v4, .long 0, .long 0, .int 0, .int 1, .ref v9, .int 0, .int 0, .int (-1), .ref v13, .int 0, .int 0, .int 0, .int 0, .int 0, .int 0, .int 0, .int 0, .int 0, .int 0, .int 0, .long 0, .int 0, .ref v27, .ref v28, .ref v29, .ref v30, .ref v31, .ref v32, .ref v33, .ref v34, .ref v35, .ref v36, .ref v37, .int 0]))] H := hP
  have hD : va_D A [(v0, .inl (cA 0, 326, .inl fs)), (w0, .inr (11, [.ref v0, .ref v1, .ref v2, .ref v3, .ref v4, .long 0, .long 0, .int 0, .int 1, .ref v9, .int 0, .int 0, .int (-1), .ref v13, .int 0, .int 0, .int 0, .int 0, .int 0, .int 0, .int 0, .int 0, .int 0, .int 0, .int 0, .long 0, .int 0, .ref v27, .ref v28, .ref v29, .ref v30, .ref v31, .ref v32, .ref v33, .ref v34, .ref v35, .ref v36, .ref v37, .int 0]))] := hD
  obtain rfl : rn2 = 0 := hw
  refine lv_if_eq (tgt := 21) hx hb dX10_dueDay_9 (by decide) (fun c3 => ?_) (fun c9 => absurd c9 (by decide))
  refine lv_iconst (v := 0) hx hb dX10_dueDay_21 (by decide) ?_
  have hP9 := hP.sub (ws' := [(w0, .inr (11, [.ref v0, .ref v1, .ref v2, .ref v3, .ref v4, .long 0, .long 0, .int 0, .int 1, .ref v9, .int 0, .int 0, .int (-1), .ref v13, .int 0, .int 0, .int 0, .int 0, .int 0, .int 0, .int 0, .int 0, .int 0, .int 0, .int 0, .long 0, .int 0, .ref v27, .ref v28, .ref v29, .ref v30, .ref v31, .ref v32, .ref v33, .ref v34, .ref v35, .ref v36, .ref v37, .int 0]))]) [1] rfl
  have hD9 := hD.sub (ws' := [(w0, .inr (11, [.ref v0, .ref v1, .ref v2, .ref v3, .ref v4, .long 0, .long 0, .int 0, .int 1, .ref v9, .int 0, .int 0, .int (-1), .ref v13, .int 0, .int 0, .int 0, .int 0, .int 0, .int 0, .int 0, .int 0, .int 0, .int 0, .int 0, .long 0, .int 0, .ref v27, .ref v28, .ref v29, .ref v30, .ref v31, .ref v32, .ref v33, .ref v34, .ref v35, .ref v36, .ref v37, .int 0]))]) [1] (by decide) rfl
  refine W.widen (k := 0) (n := 0) (Nat.le_of_ble_eq_true rfl) (Nat.le_of_ble_eq_true rfl) ?_
  exact W.iret (v := 0) hx hb hr (fun t ht hW => ⟨⟨0, (), rfl, rfl, by rw [ht]; exact hP9, hD9⟩, hS.F ht⟩) hS.2.2 dX10_dueDay_22

set_option maxHeartbeats 4000000 in
set_option maxRecDepth 100000 in
/-- holds: thrown 1 -/
theorem c_m_holds (l : Launch) (D : va_G) (cA : Nat → ClassId) (sa : Nat → Nat) (w0 v0 v1 v2 v3 v4 v9 v13 v27 v28 v29 v30 v31 v32 v33 v34 v35 v36 v37 : Nat) (th : Int32) (fs : Nat → Int32) (i : Int32) (sz : Nat) (hz : Zs fs) : Met l yX10_holds wsX10_holds ({ frames := 2, cells := 0, slots := 0, locals := 46 }) (va_Pc [.ref w0, .int i] (Wd D cA sa [(w0, .inr (11, [.ref v0, .ref v1, .ref v2, .ref v3, .ref v4, .long 0, .long 0, .int 0, .int th, .ref v9, .int 0, .int 0, .int (-1), .ref v13, .int 0, .int 0, .int 0, .int 0, .int 0, .int 0, .int 0, .int 0, .int 0, .int 0, .int 0, .long 0, .int 0, .ref v27, .ref v28, .ref v29, .ref v30, .ref v31, .ref v32, .ref v33, .ref v34, .ref v35, .ref v36, .ref v37, .int 0])), (v0, .inl (cA 0, 326, .inl fs))] sz)) (va_Qi (fun (r : Int32) (_ : Unit) => r = 0) (fun (_ : Unit) t => Wq D (va_A [(w0, .inr (11, [.ref v0, .ref v1, .ref v2, .ref v3, .ref v4, .long 0, .long 0, .int 0, .int th, .ref v9, .int 0, .int 0, .int (-1), .ref v13, .int 0, .int 0, .int 0, .int 0, .int 0, .int 0, .int 0, .int 0, .int 0, .int 0, .int 0, .long 0, .int 0, .ref v27, .ref v28, .ref v29, .ref v30, .ref v31, .ref v32, .ref v33, .ref v34, .ref v35, .ref v36, .ref v37, .int 0])), (v0, .inl (cA 0, 326, .inl fs))] sz) [(w0, .inr (11, [.ref v0, .ref v1, .ref v2, .ref v3, .ref v4, .long 0, .long 0, .int 0, .int 1, .ref v9, .int 0, .int 0, .int (-1), .ref v13, .int 0, .int 0, .int 0, .int 0, .int 0, .int 0, .int 0, .int 0, .int 0, .int 0, .int 0, .long 0, .int 0, .ref v27, .ref v28, .ref v29, .ref v30, .ref v31, .ref v32, .ref v33, .ref v34, .ref v35, .ref v36, .ref v37, .int 0]))] t) (va_A [(w0, .inr (11, [.ref v0, .ref v1, .ref v2, .ref v3, .ref v4, .long 0, .long 0, .int 0, .int th, .ref v9, .int 0, .int 0, .int (-1), .ref v13, .int 0, .int 0, .int 0, .int 0, .int 0, .int 0, .int 0, .int 0, .int 0, .int 0, .int 0, .long 0, .int 0, .ref v27, .ref v28, .ref v29, .ref v30, .ref v31, .ref v32, .ref v33, .ref v34, .ref v35, .ref v36, .ref v37, .int 0])), (v0, .inl (cA 0, 326, .inl fs))] sz)) 0 0 (va_A [(w0, .inr (11, [.ref v0, .ref v1, .ref v2, .ref v3, .ref v4, .long 0, .long 0, .int 0, .int th, .ref v9, .int 0, .int 0, .int (-1), .ref v13, .int 0, .int 0, .int 0, .int 0, .int 0, .int 0, .int 0, .int 0, .int 0, .int 0, .int 0, .long 0, .int 0, .ref v27, .ref v28, .ref v29, .ref v30, .ref v31, .ref v32, .ref v33, .ref v34, .ref v35, .ref v36, .ref v37, .int 0])), (v0, .inl (cA 0, 326, .inl fs))] sz) := by
  refine Met.ofW (cc := cX10_holds) (maxL := 2) (ret := (some .boolean)) (by decide) rfl ?_
  intro p e s m args below meth c s₁ B hml hv
  obtain ⟨rfl, hsz, hP, hK, hD0, hC, hZ⟩ := hv
  have hx := B.exec
  have hb := B.bytes
  have hr := B.returns
  have hts := atoms_spec (ws := wsX10_holds) B.pre
  have hown : s.vm.findClass RX10 = some m.cls := findClass_of_methodNamed B.named
  have hlocks := B.notSynchronized
  subst hsz
  have hD := hD0.self (sz := s.heap.size)
  generalize hAe : va_A [(w0, .inr (11, [.ref v0, .ref v1, .ref v2, .ref v3, .ref v4, .long 0, .long 0, .int 0, .int th, .ref v9, .int 0, .int 0, .int (-1), .ref v13, .int 0, .int 0, .int 0, .int 0, .int 0, .int 0, .int 0, .int 0, .int 0, .int 0, .int 0, .long 0, .int 0, .ref v27, .ref v28, .ref v29, .ref v30, .ref v31, .ref v32, .ref v33, .ref v34, .ref v35, .ref v36, .ref v37, .int 0])), (v0, .inl (cA 0, 326, .inl fs))] s.heap.size = A at hD hZ ⊢
  have hA : ∀ q : Nat, s.heap.size ≤ q → A q := fun q h => by rw [← hAe]; exact Or.inr h
  have hS : va_S A s.heap s.heap [] := va_S.rf
  have hP : va_P D vwCl [(w0, .inr (11, [.ref v0, .ref v1, .ref v2, .ref v3, .ref v4, .long 0, .long 0, .int 0, .int th, .ref v9, .int 0, .int 0, .int (-1), .ref v13, .int 0, .int 0, .int 0, .int 0, .int 0, .int 0, .int 0, .int 0, .int 0, .int 0, .int 0, .long 0, .int 0, .ref v27, .ref v28, .ref v29, .ref v30, .ref v31, .ref v32, .ref v33, .ref v34, .ref v35, .ref v36, .ref v37, .int 0])), (v0, .inl (cA 0, 326, .inl fs))] s.heap := hP
  have hl := lv_entry ([.ref w0, .int i]) (n := 2) (Nat.le_of_ble_eq_true rfl)
  rw [lg_entry_eq]
  generalize (lg_sl ([.ref w0, .int i]) ++ List.replicate (2 - (lg_sl ([.ref w0, .int i])).length) Slot.unset).toArray = ls at hl ⊢
  have hl : lv_has ls 2 [(0, .ref w0), (1, .int i)] := hl
  refine lv_aload_n hx hb dX10_holds_0 rfl (lv_at hl 0 rfl) ?_
  refine lv_aload_n hx hb dX10_holds_1 rfl (lv_at hl 0 rfl) ?_
  refine lv_iload_n hx hb dX10_holds_2 rfl (lv_at hl 1 rfl) ?_
  have hPc := hP.sub (ws' := [(w0, .inr (11, [.ref v0, .ref v1, .ref v2, .ref v3, .ref v4, .long 0, .long 0, .int 0, .int th, .ref v9, .int 0, .int 0, .int (-1), .ref v13, .int 0, .int 0, .int 0, .int 0, .int 0, .int 0, .int 0, .int 0, .int 0, .int 0, .int 0, .long 0, .int 0, .ref v27, .ref v28, .ref v29, .ref v30, .ref v31, .ref v32, .ref v33, .ref v34, .ref v35, .ref v36, .ref v37, .int 0])), (v0, .inl (cA 0, 326, .inl fs))]) [0, 1] rfl
  have hDc := hD.sub (ws' := [(w0, .inr (11, [.ref v0, .ref v1, .ref v2, .ref v3, .ref v4, .long 0, .long 0, .int 0, .int th, .ref v9, .int 0, .int 0, .int (-1), .ref v13, .int 0, .int 0, .int 0, .int 0, .int 0, .int 0, .int 0, .int 0, .int 0, .int 0, .int 0, .long 0, .int 0, .ref v27, .ref v28, .ref v29, .ref v30, .ref v31, .ref v32, .ref v33, .ref v34, .ref v35, .ref v36, .ref v37, .int 0])), (v0, .inl (cA 0, 326, .inl fs))]) [0, 1] (by decide) rfl
  have hFc := va_free (wc := [(w0, .inr (11, [.ref v0, .ref v1, .ref v2, .ref v3, .ref v4, .long 0, .long 0, .int 0, .int th, .ref v9, .int 0, .int 0, .int (-1), .ref v13, .int 0, .int 0, .int 0, .int 0, .int 0, .int 0, .int 0, .int 0, .int 0, .int 0, .int 0, .long 0, .int 0, .ref v27, .ref v28, .ref v29, .ref v30, .ref v31, .ref v32, .ref v33, .ref v34, .ref v35, .ref v36, .ref v37, .int 0])), (v0, .inl (cA 0, 326, .inl fs))]) hD hS hA [0, 1] rfl
  refine va_calli (va_runV (As := [.int i]) (rest := [.ref w0]) ⟨hx, hb, hml, hown, hts⟩ (c_m_isMilestone l D cA sa w0 v0 v1 v2 v3 v4 v9 v13 v27 v28 v29 v30 v31 v32 v33 v34 v35 v36 v37 th fs i s.heap.size hz) (cwV 1 hts gX10_holds_X10_isMilestone rfl rfl rfl (by decide +kernel) ⟨(Nat.le_of_ble_eq_true rfl), (Nat.le_of_ble_eq_true rfl)⟩) ⟨Wd.blind, va_recv hK hPc (ci := 11) (q0 := 0) rfl rfl, fun U hU hW => ⟨rfl, Wd.call hPc hDc hK hC hZ hS hFc U hU hW⟩⟩ rfl rfl hl.1 rfl (lv_room (Nat.le_of_ble_eq_true rfl)) dX10_holds_3 ⟨(Nat.le_of_ble_eq_true rfl), (Nat.le_of_ble_eq_true rfl)⟩) hS (fun q _ h => hFc q h) hFc (fun rn1 u t H1 locs ht hvm hw hB hz1 hk1 hS => ?_)
  obtain ⟨hP1, hD1⟩ := hB
  rw [ht] at hP1
  obtain ⟨hP, hD⟩ := va_join (wr := []) (w1 := [(w0, .inr (11, [.ref v0, .ref v1, .ref v2, .ref v3, .ref v4, .long 0, .long 0, .int 0, .int th, .ref v9, .int 0, .int 0, .int (-1), .ref v13, .int 0, .int 0, .int 0, .int 0, .int 0, .int 0, .int 0, .int 0, .int 0, .int 0, .int 0, .long 0, .int 0, .ref v27, .ref v28, .ref v29, .ref v30, .ref v31, .ref v32, .ref v33, .ref v34, .ref v35, .ref v36, .ref v37, .int 0])), (v0, .inl (cA 0, 326, .inl fs))]) hP hD [0, 1] [] rfl rfl (by decide) (by decide) hk1 hFc hP1 hD1
  generalize H1 = H at hP hS ⊢
  have hP : va_P D vwCl [(w0, .inr (11, [.ref v0, .ref v1, .ref v2, .ref v3, .ref v4, .long 0, .long 0, .int 0, .int th, .ref v9, .int 0, .int 0, .int (-1), .ref v13, .int 0, .int 0, .int 0, .int 0, .int 0, .int 0, .int 0, .int 0, .int 0, .int 0, .int 0, .long 0, .int 0, .ref v27, .ref v28, .ref v29, .ref v30, .ref v31, .ref v32, .ref v33, .ref v34, .ref v35, .ref v36, .ref v37, .int 0])), (v0, .inl (cA 0, 326, .inl fs))] H := hP
  have hD : va_D A [(w0, .inr (11, [.ref v0, .ref v1, .ref v2, .ref v3, .ref v4, .long 0, .long 0, .int 0, .int th, .ref v9, .int 0, .int 0, .int (-1), .ref v13, .int 0, .int 0, .int 0, .int 0, .int 0, .int 0, .int 0, .int 0, .int 0, .int 0, .int 0, .long 0, .int 0, .ref v27, .ref v28, .ref v29, .ref v30, .ref v31, .ref v32, .ref v33, .ref v34, .ref v35, .ref v36, .ref v37, .int 0])), (v0, .inl (cA 0, 326, .inl fs))] := hD
  obtain rfl : rn1 = 0 := hw
  have hPc := hP.sub (ws' := [(w0, .inr (11, [.ref v0, .ref v1, .ref v2, .ref v3, .ref v4, .long 0, .long 0, .int 0, .int th, .ref v9, .int 0, .int 0, .int (-1), .ref v13, .int 0, .int 0, .int 0, .int 0, .int 0, .int 0, .int 0, .int 0, .int 0, .int 0, .int 0, .long 0, .int 0, .ref v27, .ref v28, .ref v29, .ref v30, .ref v31, .ref v32, .ref v33, .ref v34, .ref v35, .ref v36, .ref v37, .int 0]))]) [0] rfl
  have hDc := hD.sub (ws' := [(w0, .inr (11, [.ref v0, .ref v1, .ref v2, .ref v3, .ref v4, .long 0, .long 0, .int 0, .int th, .ref v9, .int 0, .int 0, .int (-1), .ref v13, .int 0, .int 0, .int 0, .int 0, .int 0, .int 0, .int 0, .int 0, .int 0, .int 0, .int 0, .long 0, .int 0, .ref v27, .ref v28, .ref v29, .ref v30, .ref v31, .ref v32, .ref v33, .ref v34, .ref v35, .ref v36, .ref v37, .int 0]))]) [0] (by decide) rfl
  have hFc := va_free (wc := [(w0, .inr (11, [.ref v0, .ref v1, .ref v2, .ref v3, .ref v4, .long 0, .long 0, .int 0, .int th, .ref v9, .int 0, .int 0, .int (-1), .ref v13, .int 0, .int 0, .int 0, .int 0, .int 0, .int 0, .int 0, .int 0, .int 0, .int 0, .int 0, .long 0, .int 0, .ref v27, .ref v28, .ref v29, .ref v30, .ref v31, .ref v32, .ref v33, .ref v34, .ref v35, .ref v36, .ref v37, .int 0]))]) hD hS hA [0] rfl
  refine va_calli (va_runV (As := [.int 0]) (rest := []) ⟨hx, hb, hml, hown, hts⟩ (c_m_good_0 l D cA sa w0 v0 v1 v2 v3 v4 v9 v13 v27 v28 v29 v30 v31 v32 v33 v34 v35 v36 v37 th H.size) (cwV 1 hts gX10_holds_X10_good rfl rfl rfl (by decide +kernel) ⟨(Nat.le_of_ble_eq_true rfl), (Nat.le_of_ble_eq_true rfl)⟩) ⟨Wd.blind, va_recv hK hPc (ci := 11) (q0 := 0) rfl rfl, fun U hU hW => ⟨rfl, Wd.call hPc hDc hK hC hZ hS hFc U hU hW⟩⟩ rfl rfl hl.1 rfl (lv_room (Nat.le_of_ble_eq_true rfl)) dX10_holds_6 ⟨(Nat.le_of_ble_eq_true rfl), (Nat.le_of_ble_eq_true rfl)⟩) hS (fun q _ h => hFc q h) hFc (fun rn2 u t H1 locs ht hvm hw hB hz1 hk1 hS => ?_)
  obtain ⟨hP1, hD1⟩ := hB
  rw [ht] at hP1
  obtain ⟨hP, hD⟩ := va_join (wr := [(v0, .inl (cA 0, 326, .inl fs))]) (w1 := [(w0, .inr (11, [.ref v0, .ref v1, .ref v2, .ref v3, .ref v4, .long 0, .long 0, .int 0, .int 1, .ref v9, .int 0, .int 0, .int (-1), .ref v13, .int 0, .int 0, .int 0, .int 0, .int 0, .int 0, .int 0, .int 0, .int 0, .int 0, .int 0, .long 0, .int 0, .ref v27, .ref v28, .ref v29, .ref v30, .ref v31, .ref v32, .ref v33, .ref v34, .ref v35, .ref v36, .ref v37, .int 0]))]) hP hD [0] [1] rfl rfl (by decide) (by decide) hk1 hFc hP1 hD1
  generalize H1 = H at hP hS ⊢
  have hP : va_P D vwCl [(v0, .inl (cA 0, 326, .inl fs)), (w0, .inr (11, [.ref v0, .ref v1, .ref v2, .ref v3, .ref v4, .long 0, .long 0, .int 0, .int 1, .ref v9, .int 0, .int 0, .int (-1), .ref v13, .int 0, .int 0, .int 0, .int 0, .int 0, .int 0, .int 0, .int 0, .int 0, .int 0, .int 0, .long 0, .int 0, .ref v27, .ref v28, .ref v29, .ref v30, .ref v31, .ref v32, .ref v33, .ref v34, .ref v35, .ref v36, .ref v37, .int 0]))] H := hP
  have hD : va_D A [(v0, .inl (cA 0, 326, .inl fs)), (w0, .inr (11, [.ref v0, .ref v1, .ref v2, .ref v3, .ref v4, .long 0, .long 0, .int 0, .int 1, .ref v9, .int 0, .int 0, .int (-1), .ref v13, .int 0, .int 0, .int 0, .int 0, .int 0, .int 0, .int 0, .int 0, .int 0, .int 0, .int 0, .long 0, .int 0, .ref v27, .ref v28, .ref v29, .ref v30, .ref v31, .ref v32, .ref v33, .ref v34, .ref v35, .ref v36, .ref v37, .int 0]))] := hD
  obtain rfl : rn2 = 0 := hw
  refine lv_if_eq (tgt := 24) hx hb dX10_holds_9 (by decide) (fun c3 => ?_) (fun c9 => absurd c9 (by decide))
  refine lv_iconst (v := 0) hx hb dX10_holds_24 (by decide) ?_
  have hP9 := hP.sub (ws' := [(w0, .inr (11, [.ref v0, .ref v1, .ref v2, .ref v3, .ref v4, .long 0, .long 0, .int 0, .int 1, .ref v9, .int 0, .int 0, .int (-1), .ref v13, .int 0, .int 0, .int 0, .int 0, .int 0, .int 0, .int 0, .int 0, .int 0, .int 0, .int 0, .long 0, .int 0, .ref v27, .ref v28, .ref v29, .ref v30, .ref v31, .ref v32, .ref v33, .ref v34, .ref v35, .ref v36, .ref v37, .int 0]))]) [1] rfl
  have hD9 := hD.sub (ws' := [(w0, .inr (11, [.ref v0, .ref v1, .ref v2, .ref v3, .ref v4, .long 0, .long 0, .int 0, .int 1, .ref v9, .int 0, .int 0, .int (-1), .ref v13, .int 0, .int 0, .int 0, .int 0, .int 0, .int 0, .int 0, .int 0, .int 0, .int 0, .int 0, .long 0, .int 0, .ref v27, .ref v28, .ref v29, .ref v30, .ref v31, .ref v32, .ref v33, .ref v34, .ref v35, .ref v36, .ref v37, .int 0]))]) [1] (by decide) rfl
  refine W.widen (k := 0) (n := 0) (Nat.le_of_ble_eq_true rfl) (Nat.le_of_ble_eq_true rfl) ?_
  exact W.zret (v := 0) hx hb hr (by first | rfl | decide) (fun t ht hW => ⟨⟨0, (), rfl, rfl, by rw [ht]; exact hP9, hD9⟩, hS.F ht⟩) hS.2.2 dX10_holds_25

set_option maxHeartbeats 4000000 in
set_option maxRecDepth 100000 in
/-- dayByClock: thrown 1 -/
theorem c_m_dayByClock (l : Launch) (D : va_G) (cA : Nat → ClassId) (sa : Nat → Nat) (w0 v0 v1 v2 v3 v4 v9 v13 v27 v28 v29 v30 v31 v32 v33 v34 v35 v36 v37 : Nat) (th : Int32) (fs : Nat → Int32) (i : Int32) (sz : Nat) (hz : Zs fs) : Met l yX10_dayByClock wsX10_dayByClock ({ frames := 2, cells := 0, slots := 0, locals := 46 }) (va_Pc [.ref w0, .int i] (Wd D cA sa [(w0, .inr (11, [.ref v0, .ref v1, .ref v2, .ref v3, .ref v4, .long 0, .long 0, .int 0, .int th, .ref v9, .int 0, .int 0, .int (-1), .ref v13, .int 0, .int 0, .int 0, .int 0, .int 0, .int 0, .int 0, .int 0, .int 0, .int 0, .int 0, .long 0, .int 0, .ref v27, .ref v28, .ref v29, .ref v30, .ref v31, .ref v32, .ref v33, .ref v34, .ref v35, .ref v36, .ref v37, .int 0])), (v0, .inl (cA 0, 326, .inl fs))] sz)) (va_Qi (fun (r : Int32) (_ : Unit) => r = 0) (fun (_ : Unit) t => Wq D (va_A [(w0, .inr (11, [.ref v0, .ref v1, .ref v2, .ref v3, .ref v4, .long 0, .long 0, .int 0, .int th, .ref v9, .int 0, .int 0, .int (-1), .ref v13, .int 0, .int 0, .int 0, .int 0, .int 0, .int 0, .int 0, .int 0, .int 0, .int 0, .int 0, .long 0, .int 0, .ref v27, .ref v28, .ref v29, .ref v30, .ref v31, .ref v32, .ref v33, .ref v34, .ref v35, .ref v36, .ref v37, .int 0])), (v0, .inl (cA 0, 326, .inl fs))] sz) [(w0, .inr (11, [.ref v0, .ref v1, .ref v2, .ref v3, .ref v4, .long 0, .long 0, .int 0, .int 1, .ref v9, .int 0, .int 0, .int (-1), .ref v13, .int 0, .int 0, .int 0, .int 0, .int 0, .int 0, .int 0, .int 0, .int 0, .int 0, .int 0, .long 0, .int 0, .ref v27, .ref v28, .ref v29, .ref v30, .ref v31, .ref v32, .ref v33, .ref v34, .ref v35, .ref v36, .ref v37, .int 0]))] t) (va_A [(w0, .inr (11, [.ref v0, .ref v1, .ref v2, .ref v3, .ref v4, .long 0, .long 0, .int 0, .int th, .ref v9, .int 0, .int 0, .int (-1), .ref v13, .int 0, .int 0, .int 0, .int 0, .int 0, .int 0, .int 0, .int 0, .int 0, .int 0, .int 0, .long 0, .int 0, .ref v27, .ref v28, .ref v29, .ref v30, .ref v31, .ref v32, .ref v33, .ref v34, .ref v35, .ref v36, .ref v37, .int 0])), (v0, .inl (cA 0, 326, .inl fs))] sz)) 0 0 (va_A [(w0, .inr (11, [.ref v0, .ref v1, .ref v2, .ref v3, .ref v4, .long 0, .long 0, .int 0, .int th, .ref v9, .int 0, .int 0, .int (-1), .ref v13, .int 0, .int 0, .int 0, .int 0, .int 0, .int 0, .int 0, .int 0, .int 0, .int 0, .int 0, .long 0, .int 0, .ref v27, .ref v28, .ref v29, .ref v30, .ref v31, .ref v32, .ref v33, .ref v34, .ref v35, .ref v36, .ref v37, .int 0])), (v0, .inl (cA 0, 326, .inl fs))] sz) := by
  refine Met.ofW (cc := cX10_dayByClock) (maxL := 4) (ret := (some .int)) (by decide) rfl ?_
  intro p e s m args below meth c s₁ B hml hv
  obtain ⟨rfl, hsz, hP, hK, hD0, hC, hZ⟩ := hv
  have hx := B.exec
  have hb := B.bytes
  have hr := B.returns
  have hts := atoms_spec (ws := wsX10_dayByClock) B.pre
  have hown : s.vm.findClass RX10 = some m.cls := findClass_of_methodNamed B.named
  have hlocks := B.notSynchronized
  subst hsz
  have hD := hD0.self (sz := s.heap.size)
  generalize hAe : va_A [(w0, .inr (11, [.ref v0, .ref v1, .ref v2, .ref v3, .ref v4, .long 0, .long 0, .int 0, .int th, .ref v9, .int 0, .int 0, .int (-1), .ref v13, .int 0, .int 0, .int 0, .int 0, .int 0, .int 0, .int 0, .int 0, .int 0, .int 0, .int 0, .long 0, .int 0, .ref v27, .ref v28, .ref v29, .ref v30, .ref v31, .ref v32, .ref v33, .ref v34, .ref v35, .ref v36, .ref v37, .int 0])), (v0, .inl (cA 0, 326, .inl fs))] s.heap.size = A at hD hZ ⊢
  have hA : ∀ q : Nat, s.heap.size ≤ q → A q := fun q h => by rw [← hAe]; exact Or.inr h
  have hS : va_S A s.heap s.heap [] := va_S.rf
  have hP : va_P D vwCl [(w0, .inr (11, [.ref v0, .ref v1, .ref v2, .ref v3, .ref v4, .long 0, .long 0, .int 0, .int th, .ref v9, .int 0, .int 0, .int (-1), .ref v13, .int 0, .int 0, .int 0, .int 0, .int 0, .int 0, .int 0, .int 0, .int 0, .int 0, .int 0, .long 0, .int 0, .ref v27, .ref v28, .ref v29, .ref v30, .ref v31, .ref v32, .ref v33, .ref v34, .ref v35, .ref v36, .ref v37, .int 0])), (v0, .inl (cA 0, 326, .inl fs))] s.heap := hP
  have hl := lv_entry ([.ref w0, .int i]) (n := 4) (Nat.le_of_ble_eq_true rfl)
  rw [lg_entry_eq]
  generalize (lg_sl ([.ref w0, .int i]) ++ List.replicate (4 - (lg_sl ([.ref w0, .int i])).length) Slot.unset).toArray = ls at hl ⊢
  have hl : lv_has ls 4 [(0, .ref w0), (1, .int i)] := hl
  refine lv_aload_n hx hb dX10_dayByClock_0 rfl (lv_at hl 0 rfl) ?_
  refine lv_aload_n hx hb dX10_dayByClock_1 rfl (lv_at hl 0 rfl) ?_
  refine lv_iload_n hx hb dX10_dayByClock_2 rfl (lv_at hl 1 rfl) ?_
  have hPc := hP.sub (ws' := [(w0, .inr (11, [.ref v0, .ref v1, .ref v2, .ref v3, .ref v4, .long 0, .long 0, .int 0, .int th, .ref v9, .int 0, .int 0, .int (-1), .ref v13, .int 0, .int 0, .int 0, .int 0, .int 0, .int 0, .int 0, .int 0, .int 0, .int 0, .int 0, .long 0, .int 0, .ref v27, .ref v28, .ref v29, .ref v30, .ref v31, .ref v32, .ref v33, .ref v34, .ref v35, .ref v36, .ref v37, .int 0])), (v0, .inl (cA 0, 326, .inl fs))]) [0, 1] rfl
  have hDc := hD.sub (ws' := [(w0, .inr (11, [.ref v0, .ref v1, .ref v2, .ref v3, .ref v4, .long 0, .long 0, .int 0, .int th, .ref v9, .int 0, .int 0, .int (-1), .ref v13, .int 0, .int 0, .int 0, .int 0, .int 0, .int 0, .int 0, .int 0, .int 0, .int 0, .int 0, .long 0, .int 0, .ref v27, .ref v28, .ref v29, .ref v30, .ref v31, .ref v32, .ref v33, .ref v34, .ref v35, .ref v36, .ref v37, .int 0])), (v0, .inl (cA 0, 326, .inl fs))]) [0, 1] (by decide) rfl
  have hFc := va_free (wc := [(w0, .inr (11, [.ref v0, .ref v1, .ref v2, .ref v3, .ref v4, .long 0, .long 0, .int 0, .int th, .ref v9, .int 0, .int 0, .int (-1), .ref v13, .int 0, .int 0, .int 0, .int 0, .int 0, .int 0, .int 0, .int 0, .int 0, .int 0, .int 0, .long 0, .int 0, .ref v27, .ref v28, .ref v29, .ref v30, .ref v31, .ref v32, .ref v33, .ref v34, .ref v35, .ref v36, .ref v37, .int 0])), (v0, .inl (cA 0, 326, .inl fs))]) hD hS hA [0, 1] rfl
  refine va_calli (va_runV (As := [.int i]) (rest := [.ref w0]) ⟨hx, hb, hml, hown, hts⟩ (c_m_isMilestone l D cA sa w0 v0 v1 v2 v3 v4 v9 v13 v27 v28 v29 v30 v31 v32 v33 v34 v35 v36 v37 th fs i s.heap.size hz) (cwV 1 hts gX10_dayByClock_X10_isMilestone rfl rfl rfl (by decide +kernel) ⟨(Nat.le_of_ble_eq_true rfl), (Nat.le_of_ble_eq_true rfl)⟩) ⟨Wd.blind, va_recv hK hPc (ci := 11) (q0 := 0) rfl rfl, fun U hU hW => ⟨rfl, Wd.call hPc hDc hK hC hZ hS hFc U hU hW⟩⟩ rfl rfl hl.1 rfl (lv_room (Nat.le_of_ble_eq_true rfl)) dX10_dayByClock_3 ⟨(Nat.le_of_ble_eq_true rfl), (Nat.le_of_ble_eq_true rfl)⟩) hS (fun q _ h => hFc q h) hFc (fun rn1 u t H1 locs ht hvm hw hB hz1 hk1 hS => ?_)
  obtain ⟨hP1, hD1⟩ := hB
  rw [ht] at hP1
  obtain ⟨hP, hD⟩ := va_join (wr := []) (w1 := [(w0, .inr (11, [.ref v0, .ref v1, .ref v2, .ref v3, .ref v4, .long 0, .long 0, .int 0, .int th, .ref v9, .int 0, .int 0, .int (-1), .ref v13, .int 0, .int 0, .int 0, .int 0, .int 0, .int 0, .int 0, .int 0, .int 0, .int 0, .int 0, .long 0, .int 0, .ref v27, .ref v28, .ref v29, .ref v30, .ref v31, .ref v32, .ref v33, .ref v34, .ref v35, .ref v36, .ref v37, .int 0])), (v0, .inl (cA 0, 326, .inl fs))]) hP hD [0, 1] [] rfl rfl (by decide) (by decide) hk1 hFc hP1 hD1
  generalize H1 = H at hP hS ⊢
  have hP : va_P D vwCl [(w0, .inr (11, [.ref v0, .ref v1, .ref v2, .ref v3, .ref v4, .long 0, .long 0, .int 0, .int th, .ref v9, .int 0, .int 0, .int (-1), .ref v13, .int 0, .int 0, .int 0, .int 0, .int 0, .int 0, .int 0, .int 0, .int 0, .int 0, .int 0, .long 0, .int 0, .ref v27, .ref v28, .ref v29, .ref v30, .ref v31, .ref v32, .ref v33, .ref v34, .ref v35, .ref v36, .ref v37, .int 0])), (v0, .inl (cA 0, 326, .inl fs))] H := hP
  have hD : va_D A [(w0, .inr (11, [.ref v0, .ref v1, .ref v2, .ref v3, .ref v4, .long 0, .long 0, .int 0, .int th, .ref v9, .int 0, .int 0, .int (-1), .ref v13, .int 0, .int 0, .int 0, .int 0, .int 0, .int 0, .int 0, .int 0, .int 0, .int 0, .int 0, .long 0, .int 0, .ref v27, .ref v28, .ref v29, .ref v30, .ref v31, .ref v32, .ref v33, .ref v34, .ref v35, .ref v36, .ref v37, .int 0])), (v0, .inl (cA 0, 326, .inl fs))] := hD
  obtain rfl : rn1 = 0 := hw
  have hPc := hP.sub (ws' := [(w0, .inr (11, [.ref v0, .ref v1, .ref v2, .ref v3, .ref v4, .long 0, .long 0, .int 0, .int th, .ref v9, .int 0, .int 0, .int (-1), .ref v13, .int 0, .int 0, .int 0, .int 0, .int 0, .int 0, .int 0, .int 0, .int 0, .int 0, .int 0, .long 0, .int 0, .ref v27, .ref v28, .ref v29, .ref v30, .ref v31, .ref v32, .ref v33, .ref v34, .ref v35, .ref v36, .ref v37, .int 0]))]) [0] rfl
  have hDc := hD.sub (ws' := [(w0, .inr (11, [.ref v0, .ref v1, .ref v2, .ref v3, .ref v4, .long 0, .long 0, .int 0, .int th, .ref v9, .int 0, .int 0, .int (-1), .ref v13, .int 0, .int 0, .int 0, .int 0, .int 0, .int 0, .int 0, .int 0, .int 0, .int 0, .int 0, .long 0, .int 0, .ref v27, .ref v28, .ref v29, .ref v30, .ref v31, .ref v32, .ref v33, .ref v34, .ref v35, .ref v36, .ref v37, .int 0]))]) [0] (by decide) rfl
  have hFc := va_free (wc := [(w0, .inr (11, [.ref v0, .ref v1, .ref v2, .ref v3, .ref v4, .long 0, .long 0, .int 0, .int th, .ref v9, .int 0, .int 0, .int (-1), .ref v13, .int 0, .int 0, .int 0, .int 0, .int 0, .int 0, .int 0, .int 0, .int 0, .int 0, .int 0, .long 0, .int 0, .ref v27, .ref v28, .ref v29, .ref v30, .ref v31, .ref v32, .ref v33, .ref v34, .ref v35, .ref v36, .ref v37, .int 0]))]) hD hS hA [0] rfl
  refine va_calli (va_runV (As := [.int 0]) (rest := []) ⟨hx, hb, hml, hown, hts⟩ (c_m_good_0 l D cA sa w0 v0 v1 v2 v3 v4 v9 v13 v27 v28 v29 v30 v31 v32 v33 v34 v35 v36 v37 th H.size) (cwV 1 hts gX10_dayByClock_X10_good rfl rfl rfl (by decide +kernel) ⟨(Nat.le_of_ble_eq_true rfl), (Nat.le_of_ble_eq_true rfl)⟩) ⟨Wd.blind, va_recv hK hPc (ci := 11) (q0 := 0) rfl rfl, fun U hU hW => ⟨rfl, Wd.call hPc hDc hK hC hZ hS hFc U hU hW⟩⟩ rfl rfl hl.1 rfl (lv_room (Nat.le_of_ble_eq_true rfl)) dX10_dayByClock_6 ⟨(Nat.le_of_ble_eq_true rfl), (Nat.le_of_ble_eq_true rfl)⟩) hS (fun q _ h => hFc q h) hFc (fun rn2 u t H1 locs ht hvm hw hB hz1 hk1 hS => ?_)
  obtain ⟨hP1, hD1⟩ := hB
  rw [ht] at hP1
  obtain ⟨hP, hD⟩ := va_join (wr := [(v0, .inl (cA 0, 326, .inl fs))]) (w1 := [(w0, .inr (11, [.ref v0, .ref v1, .ref v2, .ref v3, .ref v4, .long 0, .long 0, .int 0, .int 1, .ref v9, .int 0, .int 0, .int (-1), .ref v13, .int 0, .int 0, .int 0, .int 0, .int 0, .int 0, .int 0, .int 0, .int 0, .int 0, .int 0, .long 0, .int 0, .ref v27, .ref v28, .ref v29, .ref v30, .ref v31, .ref v32, .ref v33, .ref v34, .ref v35, .ref v36, .ref v37, .int 0]))]) hP hD [0] [1] rfl rfl (by decide) (by decide) hk1 hFc hP1 hD1
  generalize H1 = H at hP hS ⊢
  have hP : va_P D vwCl [(v0, .inl (cA 0, 326, .inl fs)), (w0, .inr (11, [.ref v0, .ref v1, .ref v2, .ref v3, .ref v4, .long 0, .long 0, .int 0, .int 1, .ref v9, .int 0, .int 0, .int (-1), .ref v13, .int 0, .int 0, .int 0, .int 0, .int 0, .int 0, .int 0, .int 0, .int 0, .int 0, .int 0, .long 0, .int 0, .ref v27, .ref v28, .ref v29, .ref v30, .ref v31, .ref v32, .ref v33, .ref v34, .ref v35, .ref v36, .ref v37, .int 0]))] H := hP
  have hD : va_D A [(v0, .inl (cA 0, 326, .inl fs)), (w0, .inr (11, [.ref v0, .ref v1, .ref v2, .ref v3, .ref v4, .long 0, .long 0, .int 0, .int 1, .ref v9, .int 0, .int 0, .int (-1), .ref v13, .int 0, .int 0, .int 0, .int 0, .int 0, .int 0, .int 0, .int 0, .int 0, .int 0, .int 0, .long 0, .int 0, .ref v27, .ref v28, .ref v29, .ref v30, .ref v31, .ref v32, .ref v33, .ref v34, .ref v35, .ref v36, .ref v37, .int 0]))] := hD
  obtain rfl : rn2 = 0 := hw
  refine lv_if_ne (tgt := 14) hx hb dX10_dayByClock_9 (by decide) (fun c9 => absurd c9 (by decide)) (fun c3 => ?_)
  refine lv_iconst (v := 0) hx hb dX10_dayByClock_12 (by decide) ?_
  have hP9 := hP.sub (ws' := [(w0, .inr (11, [.ref v0, .ref v1, .ref v2, .ref v3, .ref v4, .long 0, .long 0, .int 0, .int 1, .ref v9, .int 0, .int 0, .int (-1), .ref v13, .int 0, .int 0, .int 0, .int 0, .int 0, .int 0, .int 0, .int 0, .int 0, .int 0, .int 0, .long 0, .int 0, .ref v27, .ref v28, .ref v29, .ref v30, .ref v31, .ref v32, .ref v33, .ref v34, .ref v35, .ref v36, .ref v37, .int 0]))]) [1] rfl
  have hD9 := hD.sub (ws' := [(w0, .inr (11, [.ref v0, .ref v1, .ref v2, .ref v3, .ref v4, .long 0, .long 0, .int 0, .int 1, .ref v9, .int 0, .int 0, .int (-1), .ref v13, .int 0, .int 0, .int 0, .int 0, .int 0, .int 0, .int 0, .int 0, .int 0, .int 0, .int 0, .long 0, .int 0, .ref v27, .ref v28, .ref v29, .ref v30, .ref v31, .ref v32, .ref v33, .ref v34, .ref v35, .ref v36, .ref v37, .int 0]))]) [1] (by decide) rfl
  refine W.widen (k := 0) (n := 0) (Nat.le_of_ble_eq_true rfl) (Nat.le_of_ble_eq_true rfl) ?_
  exact W.iret (v := 0) hx hb hr (fun t ht hW => ⟨⟨0, (), rfl, rfl, by rw [ht]; exact hP9, hD9⟩, hS.F ht⟩) hS.2.2 dX10_dayByClock_13

set_option maxHeartbeats 4000000 in
set_option maxRecDepth 100000 in
/-- missingProofs: thrown 1 -/
theorem c_m_missingProofs (l : Launch) (D : va_G) (cA : Nat → ClassId) (sa : Nat → Nat) (w0 v0 v1 v2 v3 v4 v9 v13 v27 v28 v29 v30 v31 v32 v33 v34 v35 v36 v37 : Nat) (th : Int32) (fs : Nat → Int32) (i : Int32) (sz : Nat) (hz : Zs fs) : Met l yX10_missingProofs wsX10_missingProofs ({ frames := 2, cells := 0, slots := 0, locals := 46 }) (va_Pc [.ref w0, .int i] (Wd D cA sa [(w0, .inr (11, [.ref v0, .ref v1, .ref v2, .ref v3, .ref v4, .long 0, .long 0, .int 0, .int th, .ref v9, .int 0, .int 0, .int (-1), .ref v13, .int 0, .int 0, .int 0, .int 0, .int 0, .int 0, .int 0, .int 0, .int 0, .int 0, .int 0, .long 0, .int 0, .ref v27, .ref v28, .ref v29, .ref v30, .ref v31, .ref v32, .ref v33, .ref v34, .ref v35, .ref v36, .ref v37, .int 0])), (v0, .inl (cA 0, 326, .inl fs))] sz)) (va_Qi (fun (r : Int32) (_ : Unit) => r = 0) (fun (_ : Unit) t => Wq D (va_A [(w0, .inr (11, [.ref v0, .ref v1, .ref v2, .ref v3, .ref v4, .long 0, .long 0, .int 0, .int th, .ref v9, .int 0, .int 0, .int (-1), .ref v13, .int 0, .int 0, .int 0, .int 0, .int 0, .int 0, .int 0, .int 0, .int 0, .int 0, .int 0, .long 0, .int 0, .ref v27, .ref v28, .ref v29, .ref v30, .ref v31, .ref v32, .ref v33, .ref v34, .ref v35, .ref v36, .ref v37, .int 0])), (v0, .inl (cA 0, 326, .inl fs))] sz) [(w0, .inr (11, [.ref v0, .ref v1, .ref v2, .ref v3, .ref v4, .long 0, .long 0, .int 0, .int 1, .ref v9, .int 0, .int 0, .int (-1), .ref v13, .int 0, .int 0, .int 0, .int 0, .int 0, .int 0, .int 0, .int 0, .int 0, .int 0, .int 0, .long 0, .int 0, .ref v27, .ref v28, .ref v29, .ref v30, .ref v31, .ref v32, .ref v33, .ref v34, .ref v35, .ref v36, .ref v37, .int 0]))] t) (va_A [(w0, .inr (11, [.ref v0, .ref v1, .ref v2, .ref v3, .ref v4, .long 0, .long 0, .int 0, .int th, .ref v9, .int 0, .int 0, .int (-1), .ref v13, .int 0, .int 0, .int 0, .int 0, .int 0, .int 0, .int 0, .int 0, .int 0, .int 0, .int 0, .long 0, .int 0, .ref v27, .ref v28, .ref v29, .ref v30, .ref v31, .ref v32, .ref v33, .ref v34, .ref v35, .ref v36, .ref v37, .int 0])), (v0, .inl (cA 0, 326, .inl fs))] sz)) 0 0 (va_A [(w0, .inr (11, [.ref v0, .ref v1, .ref v2, .ref v3, .ref v4, .long 0, .long 0, .int 0, .int th, .ref v9, .int 0, .int 0, .int (-1), .ref v13, .int 0, .int 0, .int 0, .int 0, .int 0, .int 0, .int 0, .int 0, .int 0, .int 0, .int 0, .long 0, .int 0, .ref v27, .ref v28, .ref v29, .ref v30, .ref v31, .ref v32, .ref v33, .ref v34, .ref v35, .ref v36, .ref v37, .int 0])), (v0, .inl (cA 0, 326, .inl fs))] sz) := by
  refine Met.ofW (cc := cX10_missingProofs) (maxL := 7) (ret := (some .int)) (by decide) rfl ?_
  intro p e s m args below meth c s₁ B hml hv
  obtain ⟨rfl, hsz, hP, hK, hD0, hC, hZ⟩ := hv
  have hx := B.exec
  have hb := B.bytes
  have hr := B.returns
  have hts := atoms_spec (ws := wsX10_missingProofs) B.pre
  have hown : s.vm.findClass RX10 = some m.cls := findClass_of_methodNamed B.named
  have hlocks := B.notSynchronized
  subst hsz
  have hD := hD0.self (sz := s.heap.size)
  generalize hAe : va_A [(w0, .inr (11, [.ref v0, .ref v1, .ref v2, .ref v3, .ref v4, .long 0, .long 0, .int 0, .int th, .ref v9, .int 0, .int 0, .int (-1), .ref v13, .int 0, .int 0, .int 0, .int 0, .int 0, .int 0, .int 0, .int 0, .int 0, .int 0, .int 0, .long 0, .int 0, .ref v27, .ref v28, .ref v29, .ref v30, .ref v31, .ref v32, .ref v33, .ref v34, .ref v35, .ref v36, .ref v37, .int 0])), (v0, .inl (cA 0, 326, .inl fs))] s.heap.size = A at hD hZ ⊢
  have hA : ∀ q : Nat, s.heap.size ≤ q → A q := fun q h => by rw [← hAe]; exact Or.inr h
  have hS : va_S A s.heap s.heap [] := va_S.rf
  have hP : va_P D vwCl [(w0, .inr (11, [.ref v0, .ref v1, .ref v2, .ref v3, .ref v4, .long 0, .long 0, .int 0, .int th, .ref v9, .int 0, .int 0, .int (-1), .ref v13, .int 0, .int 0, .int 0, .int 0, .int 0, .int 0, .int 0, .int 0, .int 0, .int 0, .int 0, .long 0, .int 0, .ref v27, .ref v28, .ref v29, .ref v30, .ref v31, .ref v32, .ref v33, .ref v34, .ref v35, .ref v36, .ref v37, .int 0])), (v0, .inl (cA 0, 326, .inl fs))] s.heap := hP
  have hl := lv_entry ([.ref w0, .int i]) (n := 7) (Nat.le_of_ble_eq_true rfl)
  rw [lg_entry_eq]
  generalize (lg_sl ([.ref w0, .int i]) ++ List.replicate (7 - (lg_sl ([.ref w0, .int i])).length) Slot.unset).toArray = ls at hl ⊢
  have hl : lv_has ls 7 [(0, .ref w0), (1, .int i)] := hl
  refine lv_aload_n hx hb dX10_missingProofs_0 rfl (lv_at hl 0 rfl) ?_
  refine lv_aload_n hx hb dX10_missingProofs_1 rfl (lv_at hl 0 rfl) ?_
  refine lv_iload_n hx hb dX10_missingProofs_2 rfl (lv_at hl 1 rfl) ?_
  have hPc := hP.sub (ws' := [(w0, .inr (11, [.ref v0, .ref v1, .ref v2, .ref v3, .ref v4, .long 0, .long 0, .int 0, .int th, .ref v9, .int 0, .int 0, .int (-1), .ref v13, .int 0, .int 0, .int 0, .int 0, .int 0, .int 0, .int 0, .int 0, .int 0, .int 0, .int 0, .long 0, .int 0, .ref v27, .ref v28, .ref v29, .ref v30, .ref v31, .ref v32, .ref v33, .ref v34, .ref v35, .ref v36, .ref v37, .int 0])), (v0, .inl (cA 0, 326, .inl fs))]) [0, 1] rfl
  have hDc := hD.sub (ws' := [(w0, .inr (11, [.ref v0, .ref v1, .ref v2, .ref v3, .ref v4, .long 0, .long 0, .int 0, .int th, .ref v9, .int 0, .int 0, .int (-1), .ref v13, .int 0, .int 0, .int 0, .int 0, .int 0, .int 0, .int 0, .int 0, .int 0, .int 0, .int 0, .long 0, .int 0, .ref v27, .ref v28, .ref v29, .ref v30, .ref v31, .ref v32, .ref v33, .ref v34, .ref v35, .ref v36, .ref v37, .int 0])), (v0, .inl (cA 0, 326, .inl fs))]) [0, 1] (by decide) rfl
  have hFc := va_free (wc := [(w0, .inr (11, [.ref v0, .ref v1, .ref v2, .ref v3, .ref v4, .long 0, .long 0, .int 0, .int th, .ref v9, .int 0, .int 0, .int (-1), .ref v13, .int 0, .int 0, .int 0, .int 0, .int 0, .int 0, .int 0, .int 0, .int 0, .int 0, .int 0, .long 0, .int 0, .ref v27, .ref v28, .ref v29, .ref v30, .ref v31, .ref v32, .ref v33, .ref v34, .ref v35, .ref v36, .ref v37, .int 0])), (v0, .inl (cA 0, 326, .inl fs))]) hD hS hA [0, 1] rfl
  refine va_calli (va_runV (As := [.int i]) (rest := [.ref w0]) ⟨hx, hb, hml, hown, hts⟩ (c_m_isMilestone l D cA sa w0 v0 v1 v2 v3 v4 v9 v13 v27 v28 v29 v30 v31 v32 v33 v34 v35 v36 v37 th fs i s.heap.size hz) (cwV 1 hts gX10_missingProofs_X10_isMilestone rfl rfl rfl (by decide +kernel) ⟨(Nat.le_of_ble_eq_true rfl), (Nat.le_of_ble_eq_true rfl)⟩) ⟨Wd.blind, va_recv hK hPc (ci := 11) (q0 := 0) rfl rfl, fun U hU hW => ⟨rfl, Wd.call hPc hDc hK hC hZ hS hFc U hU hW⟩⟩ rfl rfl hl.1 rfl (lv_room (Nat.le_of_ble_eq_true rfl)) dX10_missingProofs_3 ⟨(Nat.le_of_ble_eq_true rfl), (Nat.le_of_ble_eq_true rfl)⟩) hS (fun q _ h => hFc q h) hFc (fun rn1 u t H1 locs ht hvm hw hB hz1 hk1 hS => ?_)
  obtain ⟨hP1, hD1⟩ := hB
  rw [ht] at hP1
  obtain ⟨hP, hD⟩ := va_join (wr := []) (w1 := [(w0, .inr (11, [.ref v0, .ref v1, .ref v2, .ref v3, .ref v4, .long 0, .long 0, .int 0, .int th, .ref v9, .int 0, .int 0, .int (-1), .ref v13, .int 0, .int 0, .int 0, .int 0, .int 0, .int 0, .int 0, .int 0, .int 0, .int 0, .int 0, .long 0, .int 0, .ref v27, .ref v28, .ref v29, .ref v30, .ref v31, .ref v32, .ref v33, .ref v34, .ref v35, .ref v36, .ref v37, .int 0])), (v0, .inl (cA 0, 326, .inl fs))]) hP hD [0, 1] [] rfl rfl (by decide) (by decide) hk1 hFc hP1 hD1
  generalize H1 = H at hP hS ⊢
  have hP : va_P D vwCl [(w0, .inr (11, [.ref v0, .ref v1, .ref v2, .ref v3, .ref v4, .long 0, .long 0, .int 0, .int th, .ref v9, .int 0, .int 0, .int (-1), .ref v13, .int 0, .int 0, .int 0, .int 0, .int 0, .int 0, .int 0, .int 0, .int 0, .int 0, .int 0, .long 0, .int 0, .ref v27, .ref v28, .ref v29, .ref v30, .ref v31, .ref v32, .ref v33, .ref v34, .ref v35, .ref v36, .ref v37, .int 0])), (v0, .inl (cA 0, 326, .inl fs))] H := hP
  have hD : va_D A [(w0, .inr (11, [.ref v0, .ref v1, .ref v2, .ref v3, .ref v4, .long 0, .long 0, .int 0, .int th, .ref v9, .int 0, .int 0, .int (-1), .ref v13, .int 0, .int 0, .int 0, .int 0, .int 0, .int 0, .int 0, .int 0, .int 0, .int 0, .int 0, .long 0, .int 0, .ref v27, .ref v28, .ref v29, .ref v30, .ref v31, .ref v32, .ref v33, .ref v34, .ref v35, .ref v36, .ref v37, .int 0])), (v0, .inl (cA 0, 326, .inl fs))] := hD
  obtain rfl : rn1 = 0 := hw
  have hPc := hP.sub (ws' := [(w0, .inr (11, [.ref v0, .ref v1, .ref v2, .ref v3, .ref v4, .long 0, .long 0, .int 0, .int th, .ref v9, .int 0, .int 0, .int (-1), .ref v13, .int 0, .int 0, .int 0, .int 0, .int 0, .int 0, .int 0, .int 0, .int 0, .int 0, .int 0, .long 0, .int 0, .ref v27, .ref v28, .ref v29, .ref v30, .ref v31, .ref v32, .ref v33, .ref v34, .ref v35, .ref v36, .ref v37, .int 0]))]) [0] rfl
  have hDc := hD.sub (ws' := [(w0, .inr (11, [.ref v0, .ref v1, .ref v2, .ref v3, .ref v4, .long 0, .long 0, .int 0, .int th, .ref v9, .int 0, .int 0, .int (-1), .ref v13, .int 0, .int 0, .int 0, .int 0, .int 0, .int 0, .int 0, .int 0, .int 0, .int 0, .int 0, .long 0, .int 0, .ref v27, .ref v28, .ref v29, .ref v30, .ref v31, .ref v32, .ref v33, .ref v34, .ref v35, .ref v36, .ref v37, .int 0]))]) [0] (by decide) rfl
  have hFc := va_free (wc := [(w0, .inr (11, [.ref v0, .ref v1, .ref v2, .ref v3, .ref v4, .long 0, .long 0, .int 0, .int th, .ref v9, .int 0, .int 0, .int (-1), .ref v13, .int 0, .int 0, .int 0, .int 0, .int 0, .int 0, .int 0, .int 0, .int 0, .int 0, .int 0, .long 0, .int 0, .ref v27, .ref v28, .ref v29, .ref v30, .ref v31, .ref v32, .ref v33, .ref v34, .ref v35, .ref v36, .ref v37, .int 0]))]) hD hS hA [0] rfl
  refine va_calli (va_runV (As := [.int 0]) (rest := []) ⟨hx, hb, hml, hown, hts⟩ (c_m_good_0 l D cA sa w0 v0 v1 v2 v3 v4 v9 v13 v27 v28 v29 v30 v31 v32 v33 v34 v35 v36 v37 th H.size) (cwV 1 hts gX10_missingProofs_X10_good rfl rfl rfl (by decide +kernel) ⟨(Nat.le_of_ble_eq_true rfl), (Nat.le_of_ble_eq_true rfl)⟩) ⟨Wd.blind, va_recv hK hPc (ci := 11) (q0 := 0) rfl rfl, fun U hU hW => ⟨rfl, Wd.call hPc hDc hK hC hZ hS hFc U hU hW⟩⟩ rfl rfl hl.1 rfl (lv_room (Nat.le_of_ble_eq_true rfl)) dX10_missingProofs_6 ⟨(Nat.le_of_ble_eq_true rfl), (Nat.le_of_ble_eq_true rfl)⟩) hS (fun q _ h => hFc q h) hFc (fun rn2 u t H1 locs ht hvm hw hB hz1 hk1 hS => ?_)
  obtain ⟨hP1, hD1⟩ := hB
  rw [ht] at hP1
  obtain ⟨hP, hD⟩ := va_join (wr := [(v0, .inl (cA 0, 326, .inl fs))]) (w1 := [(w0, .inr (11, [.ref v0, .ref v1, .ref v2, .ref v3, .ref v4, .long 0, .long 0, .int 0, .int 1, .ref v9, .int 0, .int 0, .int (-1), .ref v13, .int 0, .int 0, .int 0, .int 0, .int 0, .int 0, .int 0, .int 0, .int 0, .int 0, .int 0, .long 0, .int 0, .ref v27, .ref v28, .ref v29, .ref v30, .ref v31, .ref v32, .ref v33, .ref v34, .ref v35, .ref v36, .ref v37, .int 0]))]) hP hD [0] [1] rfl rfl (by decide) (by decide) hk1 hFc hP1 hD1
  generalize H1 = H at hP hS ⊢
  have hP : va_P D vwCl [(v0, .inl (cA 0, 326, .inl fs)), (w0, .inr (11, [.ref v0, .ref v1, .ref v2, .ref v3, .ref v4, .long 0, .long 0, .int 0, .int 1, .ref v9, .int 0, .int 0, .int (-1), .ref v13, .int 0, .int 0, .int 0, .int 0, .int 0, .int 0, .int 0, .int 0, .int 0, .int 0, .int 0, .long 0, .int 0, .ref v27, .ref v28, .ref v29, .ref v30, .ref v31, .ref v32, .ref v33, .ref v34, .ref v35, .ref v36, .ref v37, .int 0]))] H := hP
  have hD : va_D A [(v0, .inl (cA 0, 326, .inl fs)), (w0, .inr (11, [.ref v0, .ref v1, .ref v2, .ref v3, .ref v4, .long 0, .long 0, .int 0, .int 1, .ref v9, .int 0, .int 0, .int (-1), .ref v13, .int 0, .int 0, .int 0, .int 0, .int 0, .int 0, .int 0, .int 0, .int 0, .int 0, .int 0, .long 0, .int 0, .ref v27, .ref v28, .ref v29, .ref v30, .ref v31, .ref v32, .ref v33, .ref v34, .ref v35, .ref v36, .ref v37, .int 0]))] := hD
  obtain rfl : rn2 = 0 := hw
  refine lv_if_ne (tgt := 14) hx hb dX10_missingProofs_9 (by decide) (fun c9 => absurd c9 (by decide)) (fun c3 => ?_)
  refine lv_iconst (v := 0) hx hb dX10_missingProofs_12 (by decide) ?_
  have hP9 := hP.sub (ws' := [(w0, .inr (11, [.ref v0, .ref v1, .ref v2, .ref v3, .ref v4, .long 0, .long 0, .int 0, .int 1, .ref v9, .int 0, .int 0, .int (-1), .ref v13, .int 0, .int 0, .int 0, .int 0, .int 0, .int 0, .int 0, .int 0, .int 0, .int 0, .int 0, .long 0, .int 0, .ref v27, .ref v28, .ref v29, .ref v30, .ref v31, .ref v32, .ref v33, .ref v34, .ref v35, .ref v36, .ref v37, .int 0]))]) [1] rfl
  have hD9 := hD.sub (ws' := [(w0, .inr (11, [.ref v0, .ref v1, .ref v2, .ref v3, .ref v4, .long 0, .long 0, .int 0, .int 1, .ref v9, .int 0, .int 0, .int (-1), .ref v13, .int 0, .int 0, .int 0, .int 0, .int 0, .int 0, .int 0, .int 0, .int 0, .int 0, .int 0, .long 0, .int 0, .ref v27, .ref v28, .ref v29, .ref v30, .ref v31, .ref v32, .ref v33, .ref v34, .ref v35, .ref v36, .ref v37, .int 0]))]) [1] (by decide) rfl
  refine W.widen (k := 0) (n := 0) (Nat.le_of_ble_eq_true rfl) (Nat.le_of_ble_eq_true rfl) ?_
  exact W.iret (v := 0) hx hb hr (fun t ht hW => ⟨⟨0, (), rfl, rfl, by rw [ht]; exact hP9, hD9⟩, hS.F ht⟩) hS.2.2 dX10_missingProofs_13

set_option maxHeartbeats 4000000 in
set_option maxRecDepth 100000 in
/-- graceLeft: thrown 1 -/
theorem c_m_graceLeft (l : Launch) (D : va_G) (cA : Nat → ClassId) (sa : Nat → Nat) (w0 v0 v1 v2 v3 v4 v9 v13 v27 v28 v29 v30 v31 v32 v33 v34 v35 v36 v37 : Nat) (th : Int32) (fs : Nat → Int32) (i : Int32) (sz : Nat) (hz : Zs fs) : Met l yX10_graceLeft wsX10_graceLeft ({ frames := 2, cells := 0, slots := 0, locals := 46 }) (va_Pc [.ref w0, .int i] (Wd D cA sa [(w0, .inr (11, [.ref v0, .ref v1, .ref v2, .ref v3, .ref v4, .long 0, .long 0, .int 0, .int th, .ref v9, .int 0, .int 0, .int (-1), .ref v13, .int 0, .int 0, .int 0, .int 0, .int 0, .int 0, .int 0, .int 0, .int 0, .int 0, .int 0, .long 0, .int 0, .ref v27, .ref v28, .ref v29, .ref v30, .ref v31, .ref v32, .ref v33, .ref v34, .ref v35, .ref v36, .ref v37, .int 0])), (v0, .inl (cA 0, 326, .inl fs))] sz)) (va_Qi (fun (r : Int32) (_ : Unit) => r = 0) (fun (_ : Unit) t => Wq D (va_A [(w0, .inr (11, [.ref v0, .ref v1, .ref v2, .ref v3, .ref v4, .long 0, .long 0, .int 0, .int th, .ref v9, .int 0, .int 0, .int (-1), .ref v13, .int 0, .int 0, .int 0, .int 0, .int 0, .int 0, .int 0, .int 0, .int 0, .int 0, .int 0, .long 0, .int 0, .ref v27, .ref v28, .ref v29, .ref v30, .ref v31, .ref v32, .ref v33, .ref v34, .ref v35, .ref v36, .ref v37, .int 0])), (v0, .inl (cA 0, 326, .inl fs))] sz) [(w0, .inr (11, [.ref v0, .ref v1, .ref v2, .ref v3, .ref v4, .long 0, .long 0, .int 0, .int 1, .ref v9, .int 0, .int 0, .int (-1), .ref v13, .int 0, .int 0, .int 0, .int 0, .int 0, .int 0, .int 0, .int 0, .int 0, .int 0, .int 0, .long 0, .int 0, .ref v27, .ref v28, .ref v29, .ref v30, .ref v31, .ref v32, .ref v33, .ref v34, .ref v35, .ref v36, .ref v37, .int 0]))] t) (va_A [(w0, .inr (11, [.ref v0, .ref v1, .ref v2, .ref v3, .ref v4, .long 0, .long 0, .int 0, .int th, .ref v9, .int 0, .int 0, .int (-1), .ref v13, .int 0, .int 0, .int 0, .int 0, .int 0, .int 0, .int 0, .int 0, .int 0, .int 0, .int 0, .long 0, .int 0, .ref v27, .ref v28, .ref v29, .ref v30, .ref v31, .ref v32, .ref v33, .ref v34, .ref v35, .ref v36, .ref v37, .int 0])), (v0, .inl (cA 0, 326, .inl fs))] sz)) 0 0 (va_A [(w0, .inr (11, [.ref v0, .ref v1, .ref v2, .ref v3, .ref v4, .long 0, .long 0, .int 0, .int th, .ref v9, .int 0, .int 0, .int (-1), .ref v13, .int 0, .int 0, .int 0, .int 0, .int 0, .int 0, .int 0, .int 0, .int 0, .int 0, .int 0, .long 0, .int 0, .ref v27, .ref v28, .ref v29, .ref v30, .ref v31, .ref v32, .ref v33, .ref v34, .ref v35, .ref v36, .ref v37, .int 0])), (v0, .inl (cA 0, 326, .inl fs))] sz) := by
  refine Met.ofW (cc := cX10_graceLeft) (maxL := 2) (ret := (some .int)) (by decide) rfl ?_
  intro p e s m args below meth c s₁ B hml hv
  obtain ⟨rfl, hsz, hP, hK, hD0, hC, hZ⟩ := hv
  have hx := B.exec
  have hb := B.bytes
  have hr := B.returns
  have hts := atoms_spec (ws := wsX10_graceLeft) B.pre
  have hown : s.vm.findClass RX10 = some m.cls := findClass_of_methodNamed B.named
  have hlocks := B.notSynchronized
  subst hsz
  have hD := hD0.self (sz := s.heap.size)
  generalize hAe : va_A [(w0, .inr (11, [.ref v0, .ref v1, .ref v2, .ref v3, .ref v4, .long 0, .long 0, .int 0, .int th, .ref v9, .int 0, .int 0, .int (-1), .ref v13, .int 0, .int 0, .int 0, .int 0, .int 0, .int 0, .int 0, .int 0, .int 0, .int 0, .int 0, .long 0, .int 0, .ref v27, .ref v28, .ref v29, .ref v30, .ref v31, .ref v32, .ref v33, .ref v34, .ref v35, .ref v36, .ref v37, .int 0])), (v0, .inl (cA 0, 326, .inl fs))] s.heap.size = A at hD hZ ⊢
  have hA : ∀ q : Nat, s.heap.size ≤ q → A q := fun q h => by rw [← hAe]; exact Or.inr h
  have hS : va_S A s.heap s.heap [] := va_S.rf
  have hP : va_P D vwCl [(w0, .inr (11, [.ref v0, .ref v1, .ref v2, .ref v3, .ref v4, .long 0, .long 0, .int 0, .int th, .ref v9, .int 0, .int 0, .int (-1), .ref v13, .int 0, .int 0, .int 0, .int 0, .int 0, .int 0, .int 0, .int 0, .int 0, .int 0, .int 0, .long 0, .int 0, .ref v27, .ref v28, .ref v29, .ref v30, .ref v31, .ref v32, .ref v33, .ref v34, .ref v35, .ref v36, .ref v37, .int 0])), (v0, .inl (cA 0, 326, .inl fs))] s.heap := hP
  have hl := lv_entry ([.ref w0, .int i]) (n := 2) (Nat.le_of_ble_eq_true rfl)
  rw [lg_entry_eq]
  generalize (lg_sl ([.ref w0, .int i]) ++ List.replicate (2 - (lg_sl ([.ref w0, .int i])).length) Slot.unset).toArray = ls at hl ⊢
  have hl : lv_has ls 2 [(0, .ref w0), (1, .int i)] := hl
  refine lv_aload_n hx hb dX10_graceLeft_0 rfl (lv_at hl 0 rfl) ?_
  refine lv_aload_n hx hb dX10_graceLeft_1 rfl (lv_at hl 0 rfl) ?_
  refine lv_iload_n hx hb dX10_graceLeft_2 rfl (lv_at hl 1 rfl) ?_
  have hPc := hP.sub (ws' := [(w0, .inr (11, [.ref v0, .ref v1, .ref v2, .ref v3, .ref v4, .long 0, .long 0, .int 0, .int th, .ref v9, .int 0, .int 0, .int (-1), .ref v13, .int 0, .int 0, .int 0, .int 0, .int 0, .int 0, .int 0, .int 0, .int 0, .int 0, .int 0, .long 0, .int 0, .ref v27, .ref v28, .ref v29, .ref v30, .ref v31, .ref v32, .ref v33, .ref v34, .ref v35, .ref v36, .ref v37, .int 0])), (v0, .inl (cA 0, 326, .inl fs))]) [0, 1] rfl
  have hDc := hD.sub (ws' := [(w0, .inr (11, [.ref v0, .ref v1, .ref v2, .ref v3, .ref v4, .long 0, .long 0, .int 0, .int th, .ref v9, .int 0, .int 0, .int (-1), .ref v13, .int 0, .int 0, .int 0, .int 0, .int 0, .int 0, .int 0, .int 0, .int 0, .int 0, .int 0, .long 0, .int 0, .ref v27, .ref v28, .ref v29, .ref v30, .ref v31, .ref v32, .ref v33, .ref v34, .ref v35, .ref v36, .ref v37, .int 0])), (v0, .inl (cA 0, 326, .inl fs))]) [0, 1] (by decide) rfl
  have hFc := va_free (wc := [(w0, .inr (11, [.ref v0, .ref v1, .ref v2, .ref v3, .ref v4, .long 0, .long 0, .int 0, .int th, .ref v9, .int 0, .int 0, .int (-1), .ref v13, .int 0, .int 0, .int 0, .int 0, .int 0, .int 0, .int 0, .int 0, .int 0, .int 0, .int 0, .long 0, .int 0, .ref v27, .ref v28, .ref v29, .ref v30, .ref v31, .ref v32, .ref v33, .ref v34, .ref v35, .ref v36, .ref v37, .int 0])), (v0, .inl (cA 0, 326, .inl fs))]) hD hS hA [0, 1] rfl
  refine va_calli (va_runV (As := [.int i]) (rest := [.ref w0]) ⟨hx, hb, hml, hown, hts⟩ (c_m_isMilestone l D cA sa w0 v0 v1 v2 v3 v4 v9 v13 v27 v28 v29 v30 v31 v32 v33 v34 v35 v36 v37 th fs i s.heap.size hz) (cwV 1 hts gX10_graceLeft_X10_isMilestone rfl rfl rfl (by decide +kernel) ⟨(Nat.le_of_ble_eq_true rfl), (Nat.le_of_ble_eq_true rfl)⟩) ⟨Wd.blind, va_recv hK hPc (ci := 11) (q0 := 0) rfl rfl, fun U hU hW => ⟨rfl, Wd.call hPc hDc hK hC hZ hS hFc U hU hW⟩⟩ rfl rfl hl.1 rfl (lv_room (Nat.le_of_ble_eq_true rfl)) dX10_graceLeft_3 ⟨(Nat.le_of_ble_eq_true rfl), (Nat.le_of_ble_eq_true rfl)⟩) hS (fun q _ h => hFc q h) hFc (fun rn1 u t H1 locs ht hvm hw hB hz1 hk1 hS => ?_)
  obtain ⟨hP1, hD1⟩ := hB
  rw [ht] at hP1
  obtain ⟨hP, hD⟩ := va_join (wr := []) (w1 := [(w0, .inr (11, [.ref v0, .ref v1, .ref v2, .ref v3, .ref v4, .long 0, .long 0, .int 0, .int th, .ref v9, .int 0, .int 0, .int (-1), .ref v13, .int 0, .int 0, .int 0, .int 0, .int 0, .int 0, .int 0, .int 0, .int 0, .int 0, .int 0, .long 0, .int 0, .ref v27, .ref v28, .ref v29, .ref v30, .ref v31, .ref v32, .ref v33, .ref v34, .ref v35, .ref v36, .ref v37, .int 0])), (v0, .inl (cA 0, 326, .inl fs))]) hP hD [0, 1] [] rfl rfl (by decide) (by decide) hk1 hFc hP1 hD1
  generalize H1 = H at hP hS ⊢
  have hP : va_P D vwCl [(w0, .inr (11, [.ref v0, .ref v1, .ref v2, .ref v3, .ref v4, .long 0, .long 0, .int 0, .int th, .ref v9, .int 0, .int 0, .int (-1), .ref v13, .int 0, .int 0, .int 0, .int 0, .int 0, .int 0, .int 0, .int 0, .int 0, .int 0, .int 0, .long 0, .int 0, .ref v27, .ref v28, .ref v29, .ref v30, .ref v31, .ref v32, .ref v33, .ref v34, .ref v35, .ref v36, .ref v37, .int 0])), (v0, .inl (cA 0, 326, .inl fs))] H := hP
  have hD : va_D A [(w0, .inr (11, [.ref v0, .ref v1, .ref v2, .ref v3, .ref v4, .long 0, .long 0, .int 0, .int th, .ref v9, .int 0, .int 0, .int (-1), .ref v13, .int 0, .int 0, .int 0, .int 0, .int 0, .int 0, .int 0, .int 0, .int 0, .int 0, .int 0, .long 0, .int 0, .ref v27, .ref v28, .ref v29, .ref v30, .ref v31, .ref v32, .ref v33, .ref v34, .ref v35, .ref v36, .ref v37, .int 0])), (v0, .inl (cA 0, 326, .inl fs))] := hD
  obtain rfl : rn1 = 0 := hw
  have hPc := hP.sub (ws' := [(w0, .inr (11, [.ref v0, .ref v1, .ref v2, .ref v3, .ref v4, .long 0, .long 0, .int 0, .int th, .ref v9, .int 0, .int 0, .int (-1), .ref v13, .int 0, .int 0, .int 0, .int 0, .int 0, .int 0, .int 0, .int 0, .int 0, .int 0, .int 0, .long 0, .int 0, .ref v27, .ref v28, .ref v29, .ref v30, .ref v31, .ref v32, .ref v33, .ref v34, .ref v35, .ref v36, .ref v37, .int 0]))]) [0] rfl
  have hDc := hD.sub (ws' := [(w0, .inr (11, [.ref v0, .ref v1, .ref v2, .ref v3, .ref v4, .long 0, .long 0, .int 0, .int th, .ref v9, .int 0, .int 0, .int (-1), .ref v13, .int 0, .int 0, .int 0, .int 0, .int 0, .int 0, .int 0, .int 0, .int 0, .int 0, .int 0, .long 0, .int 0, .ref v27, .ref v28, .ref v29, .ref v30, .ref v31, .ref v32, .ref v33, .ref v34, .ref v35, .ref v36, .ref v37, .int 0]))]) [0] (by decide) rfl
  have hFc := va_free (wc := [(w0, .inr (11, [.ref v0, .ref v1, .ref v2, .ref v3, .ref v4, .long 0, .long 0, .int 0, .int th, .ref v9, .int 0, .int 0, .int (-1), .ref v13, .int 0, .int 0, .int 0, .int 0, .int 0, .int 0, .int 0, .int 0, .int 0, .int 0, .int 0, .long 0, .int 0, .ref v27, .ref v28, .ref v29, .ref v30, .ref v31, .ref v32, .ref v33, .ref v34, .ref v35, .ref v36, .ref v37, .int 0]))]) hD hS hA [0] rfl
  refine va_calli (va_runV (As := [.int 0]) (rest := []) ⟨hx, hb, hml, hown, hts⟩ (c_m_good_0 l D cA sa w0 v0 v1 v2 v3 v4 v9 v13 v27 v28 v29 v30 v31 v32 v33 v34 v35 v36 v37 th H.size) (cwV 1 hts gX10_graceLeft_X10_good rfl rfl rfl (by decide +kernel) ⟨(Nat.le_of_ble_eq_true rfl), (Nat.le_of_ble_eq_true rfl)⟩) ⟨Wd.blind, va_recv hK hPc (ci := 11) (q0 := 0) rfl rfl, fun U hU hW => ⟨rfl, Wd.call hPc hDc hK hC hZ hS hFc U hU hW⟩⟩ rfl rfl hl.1 rfl (lv_room (Nat.le_of_ble_eq_true rfl)) dX10_graceLeft_6 ⟨(Nat.le_of_ble_eq_true rfl), (Nat.le_of_ble_eq_true rfl)⟩) hS (fun q _ h => hFc q h) hFc (fun rn2 u t H1 locs ht hvm hw hB hz1 hk1 hS => ?_)
  obtain ⟨hP1, hD1⟩ := hB
  rw [ht] at hP1
  obtain ⟨hP, hD⟩ := va_join (wr := [(v0, .inl (cA 0, 326, .inl fs))]) (w1 := [(w0, .inr (11, [.ref v0, .ref v1, .ref v2, .ref v3, .ref v4, .long 0, .long 0, .int 0, .int 1, .ref v9, .int 0, .int 0, .int (-1), .ref v13, .int 0, .int 0, .int 0, .int 0, .int 0, .int 0, .int 0, .int 0, .int 0, .int 0, .int 0, .long 0, .int 0, .ref v27, .ref v28, .ref v29, .ref v30, .ref v31, .ref v32, .ref v33, .ref v34, .ref v35, .ref v36, .ref v37, .int 0]))]) hP hD [0] [1] rfl rfl (by decide) (by decide) hk1 hFc hP1 hD1
  generalize H1 = H at hP hS ⊢
  have hP : va_P D vwCl [(v0, .inl (cA 0, 326, .inl fs)), (w0, .inr (11, [.ref v0, .ref v1, .ref v2, .ref v3, .ref v4, .long 0, .long 0, .int 0, .int 1, .ref v9, .int 0, .int 0, .int (-1), .ref v13, .int 0, .int 0, .int 0, .int 0, .int 0, .int 0, .int 0, .int 0, .int 0, .int 0, .int 0, .long 0, .int 0, .ref v27, .ref v28, .ref v29, .ref v30, .ref v31, .ref v32, .ref v33, .ref v34, .ref v35, .ref v36, .ref v37, .int 0]))] H := hP
  have hD : va_D A [(v0, .inl (cA 0, 326, .inl fs)), (w0, .inr (11, [.ref v0, .ref v1, .ref v2, .ref v3, .ref v4, .long 0, .long 0, .int 0, .int 1, .ref v9, .int 0, .int 0, .int (-1), .ref v13, .int 0, .int 0, .int 0, .int 0, .int 0, .int 0, .int 0, .int 0, .int 0, .int 0, .int 0, .long 0, .int 0, .ref v27, .ref v28, .ref v29, .ref v30, .ref v31, .ref v32, .ref v33, .ref v34, .ref v35, .ref v36, .ref v37, .int 0]))] := hD
  obtain rfl : rn2 = 0 := hw
  refine lv_if_ne (tgt := 14) hx hb dX10_graceLeft_9 (by decide) (fun c9 => absurd c9 (by decide)) (fun c3 => ?_)
  refine lv_iconst (v := 0) hx hb dX10_graceLeft_12 (by decide) ?_
  have hP9 := hP.sub (ws' := [(w0, .inr (11, [.ref v0, .ref v1, .ref v2, .ref v3, .ref v4, .long 0, .long 0, .int 0, .int 1, .ref v9, .int 0, .int 0, .int (-1), .ref v13, .int 0, .int 0, .int 0, .int 0, .int 0, .int 0, .int 0, .int 0, .int 0, .int 0, .int 0, .long 0, .int 0, .ref v27, .ref v28, .ref v29, .ref v30, .ref v31, .ref v32, .ref v33, .ref v34, .ref v35, .ref v36, .ref v37, .int 0]))]) [1] rfl
  have hD9 := hD.sub (ws' := [(w0, .inr (11, [.ref v0, .ref v1, .ref v2, .ref v3, .ref v4, .long 0, .long 0, .int 0, .int 1, .ref v9, .int 0, .int 0, .int (-1), .ref v13, .int 0, .int 0, .int 0, .int 0, .int 0, .int 0, .int 0, .int 0, .int 0, .int 0, .int 0, .long 0, .int 0, .ref v27, .ref v28, .ref v29, .ref v30, .ref v31, .ref v32, .ref v33, .ref v34, .ref v35, .ref v36, .ref v37, .int 0]))]) [1] (by decide) rfl
  refine W.widen (k := 0) (n := 0) (Nat.le_of_ble_eq_true rfl) (Nat.le_of_ble_eq_true rfl) ?_
  exact W.iret (v := 0) hx hb hr (fun t ht hW => ⟨⟨0, (), rfl, rfl, by rw [ht]; exact hP9, hD9⟩, hS.F ht⟩) hS.2.2 dX10_graceLeft_13

set_option maxHeartbeats 4000000 in
set_option maxRecDepth 100000 in
/-- daysUntilClosed: thrown 1 -/
theorem c_m_daysUntilClosed (l : Launch) (D : va_G) (cA : Nat → ClassId) (sa : Nat → Nat) (w0 v0 v1 v2 v3 v4 v9 v13 v27 v28 v29 v30 v31 v32 v33 v34 v35 v36 v37 : Nat) (th : Int32) (fs : Nat → Int32) (i : Int32) (sz : Nat) (hz : Zs fs) : Met l yX10_daysUntilClosed wsX10_daysUntilClosed ({ frames := 2, cells := 0, slots := 0, locals := 46 }) (va_Pc [.ref w0, .int i] (Wd D cA sa [(w0, .inr (11, [.ref v0, .ref v1, .ref v2, .ref v3, .ref v4, .long 0, .long 0, .int 0, .int th, .ref v9, .int 0, .int 0, .int (-1), .ref v13, .int 0, .int 0, .int 0, .int 0, .int 0, .int 0, .int 0, .int 0, .int 0, .int 0, .int 0, .long 0, .int 0, .ref v27, .ref v28, .ref v29, .ref v30, .ref v31, .ref v32, .ref v33, .ref v34, .ref v35, .ref v36, .ref v37, .int 0])), (v0, .inl (cA 0, 326, .inl fs))] sz)) (va_Qi (fun (r : Int32) (_ : Unit) => r = 0) (fun (_ : Unit) t => Wq D (va_A [(w0, .inr (11, [.ref v0, .ref v1, .ref v2, .ref v3, .ref v4, .long 0, .long 0, .int 0, .int th, .ref v9, .int 0, .int 0, .int (-1), .ref v13, .int 0, .int 0, .int 0, .int 0, .int 0, .int 0, .int 0, .int 0, .int 0, .int 0, .int 0, .long 0, .int 0, .ref v27, .ref v28, .ref v29, .ref v30, .ref v31, .ref v32, .ref v33, .ref v34, .ref v35, .ref v36, .ref v37, .int 0])), (v0, .inl (cA 0, 326, .inl fs))] sz) [(w0, .inr (11, [.ref v0, .ref v1, .ref v2, .ref v3, .ref v4, .long 0, .long 0, .int 0, .int 1, .ref v9, .int 0, .int 0, .int (-1), .ref v13, .int 0, .int 0, .int 0, .int 0, .int 0, .int 0, .int 0, .int 0, .int 0, .int 0, .int 0, .long 0, .int 0, .ref v27, .ref v28, .ref v29, .ref v30, .ref v31, .ref v32, .ref v33, .ref v34, .ref v35, .ref v36, .ref v37, .int 0]))] t) (va_A [(w0, .inr (11, [.ref v0, .ref v1, .ref v2, .ref v3, .ref v4, .long 0, .long 0, .int 0, .int th, .ref v9, .int 0, .int 0, .int (-1), .ref v13, .int 0, .int 0, .int 0, .int 0, .int 0, .int 0, .int 0, .int 0, .int 0, .int 0, .int 0, .long 0, .int 0, .ref v27, .ref v28, .ref v29, .ref v30, .ref v31, .ref v32, .ref v33, .ref v34, .ref v35, .ref v36, .ref v37, .int 0])), (v0, .inl (cA 0, 326, .inl fs))] sz)) 0 0 (va_A [(w0, .inr (11, [.ref v0, .ref v1, .ref v2, .ref v3, .ref v4, .long 0, .long 0, .int 0, .int th, .ref v9, .int 0, .int 0, .int (-1), .ref v13, .int 0, .int 0, .int 0, .int 0, .int 0, .int 0, .int 0, .int 0, .int 0, .int 0, .int 0, .long 0, .int 0, .ref v27, .ref v28, .ref v29, .ref v30, .ref v31, .ref v32, .ref v33, .ref v34, .ref v35, .ref v36, .ref v37, .int 0])), (v0, .inl (cA 0, 326, .inl fs))] sz) := by
  refine Met.ofW (cc := cX10_daysUntilClosed) (maxL := 4) (ret := (some .int)) (by decide) rfl ?_
  intro p e s m args below meth c s₁ B hml hv
  obtain ⟨rfl, hsz, hP, hK, hD0, hC, hZ⟩ := hv
  have hx := B.exec
  have hb := B.bytes
  have hr := B.returns
  have hts := atoms_spec (ws := wsX10_daysUntilClosed) B.pre
  have hown : s.vm.findClass RX10 = some m.cls := findClass_of_methodNamed B.named
  have hlocks := B.notSynchronized
  subst hsz
  have hD := hD0.self (sz := s.heap.size)
  generalize hAe : va_A [(w0, .inr (11, [.ref v0, .ref v1, .ref v2, .ref v3, .ref v4, .long 0, .long 0, .int 0, .int th, .ref v9, .int 0, .int 0, .int (-1), .ref v13, .int 0, .int 0, .int 0, .int 0, .int 0, .int 0, .int 0, .int 0, .int 0, .int 0, .int 0, .long 0, .int 0, .ref v27, .ref v28, .ref v29, .ref v30, .ref v31, .ref v32, .ref v33, .ref v34, .ref v35, .ref v36, .ref v37, .int 0])), (v0, .inl (cA 0, 326, .inl fs))] s.heap.size = A at hD hZ ⊢
  have hA : ∀ q : Nat, s.heap.size ≤ q → A q := fun q h => by rw [← hAe]; exact Or.inr h
  have hS : va_S A s.heap s.heap [] := va_S.rf
  have hP : va_P D vwCl [(w0, .inr (11, [.ref v0, .ref v1, .ref v2, .ref v3, .ref v4, .long 0, .long 0, .int 0, .int th, .ref v9, .int 0, .int 0, .int (-1), .ref v13, .int 0, .int 0, .int 0, .int 0, .int 0, .int 0, .int 0, .int 0, .int 0, .int 0, .int 0, .long 0, .int 0, .ref v27, .ref v28, .ref v29, .ref v30, .ref v31, .ref v32, .ref v33, .ref v34, .ref v35, .ref v36, .ref v37, .int 0])), (v0, .inl (cA 0, 326, .inl fs))] s.heap := hP
  have hl := lv_entry ([.ref w0, .int i]) (n := 4) (Nat.le_of_ble_eq_true rfl)
  rw [lg_entry_eq]
  generalize (lg_sl ([.ref w0, .int i]) ++ List.replicate (4 - (lg_sl ([.ref w0, .int i])).length) Slot.unset).toArray = ls at hl ⊢
  have hl : lv_has ls 4 [(0, .ref w0), (1, .int i)] := hl
  refine lv_aload_n hx hb dX10_daysUntilClosed_0 rfl (lv_at hl 0 rfl) ?_
  refine lv_aload_n hx hb dX10_daysUntilClosed_1 rfl (lv_at hl 0 rfl) ?_
  refine lv_iload_n hx hb dX10_daysUntilClosed_2 rfl (lv_at hl 1 rfl) ?_
  have hPc := hP.sub (ws' := [(w0, .inr (11, [.ref v0, .ref v1, .ref v2, .ref v3, .ref v4, .long 0, .long 0, .int 0, .int th, .ref v9, .int 0, .int 0, .int (-1), .ref v13, .int 0, .int 0, .int 0, .int 0, .int 0, .int 0, .int 0, .int 0, .int 0, .int 0, .int 0, .long 0, .int 0, .ref v27, .ref v28, .ref v29, .ref v30, .ref v31, .ref v32, .ref v33, .ref v34, .ref v35, .ref v36, .ref v37, .int 0])), (v0, .inl (cA 0, 326, .inl fs))]) [0, 1] rfl
  have hDc := hD.sub (ws' := [(w0, .inr (11, [.ref v0, .ref v1, .ref v2, .ref v3, .ref v4, .long 0, .long 0, .int 0, .int th, .ref v9, .int 0, .int 0, .int (-1), .ref v13, .int 0, .int 0, .int 0, .int 0, .int 0, .int 0, .int 0, .int 0, .int 0, .int 0, .int 0, .long 0, .int 0, .ref v27, .ref v28, .ref v29, .ref v30, .ref v31, .ref v32, .ref v33, .ref v34, .ref v35, .ref v36, .ref v37, .int 0])), (v0, .inl (cA 0, 326, .inl fs))]) [0, 1] (by decide) rfl
  have hFc := va_free (wc := [(w0, .inr (11, [.ref v0, .ref v1, .ref v2, .ref v3, .ref v4, .long 0, .long 0, .int 0, .int th, .ref v9, .int 0, .int 0, .int (-1), .ref v13, .int 0, .int 0, .int 0, .int 0, .int 0, .int 0, .int 0, .int 0, .int 0, .int 0, .int 0, .long 0, .int 0, .ref v27, .ref v28, .ref v29, .ref v30, .ref v31, .ref v32, .ref v33, .ref v34, .ref v35, .ref v36, .ref v37, .int 0])), (v0, .inl (cA 0, 326, .inl fs))]) hD hS hA [0, 1] rfl
  refine va_calli (va_runV (As := [.int i]) (rest := [.ref w0]) ⟨hx, hb, hml, hown, hts⟩ (c_m_isMilestone l D cA sa w0 v0 v1 v2 v3 v4 v9 v13 v27 v28 v29 v30 v31 v32 v33 v34 v35 v36 v37 th fs i s.heap.size hz) (cwV 1 hts gX10_daysUntilClosed_X10_isMilestone rfl rfl rfl (by decide +kernel) ⟨(Nat.le_of_ble_eq_true rfl), (Nat.le_of_ble_eq_true rfl)⟩) ⟨Wd.blind, va_recv hK hPc (ci := 11) (q0 := 0) rfl rfl, fun U hU hW => ⟨rfl, Wd.call hPc hDc hK hC hZ hS hFc U hU hW⟩⟩ rfl rfl hl.1 rfl (lv_room (Nat.le_of_ble_eq_true rfl)) dX10_daysUntilClosed_3 ⟨(Nat.le_of_ble_eq_true rfl), (Nat.le_of_ble_eq_true rfl)⟩) hS (fun q _ h => hFc q h) hFc (fun rn1 u t H1 locs ht hvm hw hB hz1 hk1 hS => ?_)
  obtain ⟨hP1, hD1⟩ := hB
  rw [ht] at hP1
  obtain ⟨hP, hD⟩ := va_join (wr := []) (w1 := [(w0, .inr (11, [.ref v0, .ref v1, .ref v2, .ref v3, .ref v4, .long 0, .long 0, .int 0, .int th, .ref v9, .int 0, .int 0, .int (-1), .ref v13, .int 0, .int 0, .int 0, .int 0, .int 0, .int 0, .int 0, .int 0, .int 0, .int 0, .int 0, .long 0, .int 0, .ref v27, .ref v28, .ref v29, .ref v30, .ref v31, .ref v32, .ref v33, .ref v34, .ref v35, .ref v36, .ref v37, .int 0])), (v0, .inl (cA 0, 326, .inl fs))]) hP hD [0, 1] [] rfl rfl (by decide) (by decide) hk1 hFc hP1 hD1
  generalize H1 = H at hP hS ⊢
  have hP : va_P D vwCl [(w0, .inr (11, [.ref v0, .ref v1, .ref v2, .ref v3, .ref v4, .long 0, .long 0, .int 0, .int th, .ref v9, .int 0, .int 0, .int (-1), .ref v13, .int 0, .int 0, .int 0, .int 0, .int 0, .int 0, .int 0, .int 0, .int 0, .int 0, .int 0, .long 0, .int 0, .ref v27, .ref v28, .ref v29, .ref v30, .ref v31, .ref v32, .ref v33, .ref v34, .ref v35, .ref v36, .ref v37, .int 0])), (v0, .inl (cA 0, 326, .inl fs))] H := hP
  have hD : va_D A [(w0, .inr (11, [.ref v0, .ref v1, .ref v2, .ref v3, .ref v4, .long 0, .long 0, .int 0, .int th, .ref v9, .int 0, .int 0, .int (-1), .ref v13, .int 0, .int 0, .int 0, .int 0, .int 0, .int 0, .int 0, .int 0, .int 0, .int 0, .int 0, .long 0, .int 0, .ref v27, .ref v28, .ref v29, .ref v30, .ref v31, .ref v32, .ref v33, .ref v34, .ref v35, .ref v36, .ref v37, .int 0])), (v0, .inl (cA 0, 326, .inl fs))] := hD
  obtain rfl : rn1 = 0 := hw
  have hPc := hP.sub (ws' := [(w0, .inr (11, [.ref v0, .ref v1, .ref v2, .ref v3, .ref v4, .long 0, .long 0, .int 0, .int th, .ref v9, .int 0, .int 0, .int (-1), .ref v13, .int 0, .int 0, .int 0, .int 0, .int 0, .int 0, .int 0, .int 0, .int 0, .int 0, .int 0, .long 0, .int 0, .ref v27, .ref v28, .ref v29, .ref v30, .ref v31, .ref v32, .ref v33, .ref v34, .ref v35, .ref v36, .ref v37, .int 0]))]) [0] rfl
  have hDc := hD.sub (ws' := [(w0, .inr (11, [.ref v0, .ref v1, .ref v2, .ref v3, .ref v4, .long 0, .long 0, .int 0, .int th, .ref v9, .int 0, .int 0, .int (-1), .ref v13, .int 0, .int 0, .int 0, .int 0, .int 0, .int 0, .int 0, .int 0, .int 0, .int 0, .int 0, .long 0, .int 0, .ref v27, .ref v28, .ref v29, .ref v30, .ref v31, .ref v32, .ref v33, .ref v34, .ref v35, .ref v36, .ref v37, .int 0]))]) [0] (by decide) rfl
  have hFc := va_free (wc := [(w0, .inr (11, [.ref v0, .ref v1, .ref v2, .ref v3, .ref v4, .long 0, .long 0, .int 0, .int th, .ref v9, .int 0, .int 0, .int (-1), .ref v13, .int 0, .int 0, .int 0, .int 0, .int 0, .int 0, .int 0, .int 0, .int 0, .int 0, .int 0, .long 0, .int 0, .ref v27, .ref v28, .ref v29, .ref v30, .ref v31, .ref v32, .ref v33, .ref v34, .ref v35, .ref v36, .ref v37, .int 0]))]) hD hS hA [0] rfl
  refine va_calli (va_runV (As := [.int 0]) (rest := []) ⟨hx, hb, hml, hown, hts⟩ (c_m_good_0 l D cA sa w0 v0 v1 v2 v3 v4 v9 v13 v27 v28 v29 v30 v31 v32 v33 v34 v35 v36 v37 th H.size) (cwV 1 hts gX10_daysUntilClosed_X10_good rfl rfl rfl (by decide +kernel) ⟨(Nat.le_of_ble_eq_true rfl), (Nat.le_of_ble_eq_true rfl)⟩) ⟨Wd.blind, va_recv hK hPc (ci := 11) (q0 := 0) rfl rfl, fun U hU hW => ⟨rfl, Wd.call hPc hDc hK hC hZ hS hFc U hU hW⟩⟩ rfl rfl hl.1 rfl (lv_room (Nat.le_of_ble_eq_true rfl)) dX10_daysUntilClosed_6 ⟨(Nat.le_of_ble_eq_true rfl), (Nat.le_of_ble_eq_true rfl)⟩) hS (fun q _ h => hFc q h) hFc (fun rn2 u t H1 locs ht hvm hw hB hz1 hk1 hS => ?_)
  obtain ⟨hP1, hD1⟩ := hB
  rw [ht] at hP1
  obtain ⟨hP, hD⟩ := va_join (wr := [(v0, .inl (cA 0, 326, .inl fs))]) (w1 := [(w0, .inr (11, [.ref v0, .ref v1, .ref v2, .ref v3, .ref v4, .long 0, .long 0, .int 0, .int 1, .ref v9, .int 0, .int 0, .int (-1), .ref v13, .int 0, .int 0, .int 0, .int 0, .int 0, .int 0, .int 0, .int 0, .int 0, .int 0, .int 0, .long 0, .int 0, .ref v27, .ref v28, .ref v29, .ref v30, .ref v31, .ref v32, .ref v33, .ref v34, .ref v35, .ref v36, .ref v37, .int 0]))]) hP hD [0] [1] rfl rfl (by decide) (by decide) hk1 hFc hP1 hD1
  generalize H1 = H at hP hS ⊢
  have hP : va_P D vwCl [(v0, .inl (cA 0, 326, .inl fs)), (w0, .inr (11, [.ref v0, .ref v1, .ref v2, .ref v3, .ref v4, .long 0, .long 0, .int 0, .int 1, .ref v9, .int 0, .int 0, .int (-1), .ref v13, .int 0, .int 0, .int 0, .int 0, .int 0, .int 0, .int 0, .int 0, .int 0, .int 0, .int 0, .long 0, .int 0, .ref v27, .ref v28, .ref v29, .ref v30, .ref v31, .ref v32, .ref v33, .ref v34, .ref v35, .ref v36, .ref v37, .int 0]))] H := hP
  have hD : va_D A [(v0, .inl (cA 0, 326, .inl fs)), (w0, .inr (11, [.ref v0, .ref v1, .ref v2, .ref v3, .ref v4, .long 0, .long 0, .int 0, .int 1, .ref v9, .int 0, .int 0, .int (-1), .ref v13, .int 0, .int 0, .int 0, .int 0, .int 0, .int 0, .int 0, .int 0, .int 0, .int 0, .int 0, .long 0, .int 0, .ref v27, .ref v28, .ref v29, .ref v30, .ref v31, .ref v32, .ref v33, .ref v34, .ref v35, .ref v36, .ref v37, .int 0]))] := hD
  obtain rfl : rn2 = 0 := hw
  refine lv_if_ne (tgt := 14) hx hb dX10_daysUntilClosed_9 (by decide) (fun c9 => absurd c9 (by decide)) (fun c3 => ?_)
  refine lv_iconst (v := 0) hx hb dX10_daysUntilClosed_12 (by decide) ?_
  have hP9 := hP.sub (ws' := [(w0, .inr (11, [.ref v0, .ref v1, .ref v2, .ref v3, .ref v4, .long 0, .long 0, .int 0, .int 1, .ref v9, .int 0, .int 0, .int (-1), .ref v13, .int 0, .int 0, .int 0, .int 0, .int 0, .int 0, .int 0, .int 0, .int 0, .int 0, .int 0, .long 0, .int 0, .ref v27, .ref v28, .ref v29, .ref v30, .ref v31, .ref v32, .ref v33, .ref v34, .ref v35, .ref v36, .ref v37, .int 0]))]) [1] rfl
  have hD9 := hD.sub (ws' := [(w0, .inr (11, [.ref v0, .ref v1, .ref v2, .ref v3, .ref v4, .long 0, .long 0, .int 0, .int 1, .ref v9, .int 0, .int 0, .int (-1), .ref v13, .int 0, .int 0, .int 0, .int 0, .int 0, .int 0, .int 0, .int 0, .int 0, .int 0, .int 0, .long 0, .int 0, .ref v27, .ref v28, .ref v29, .ref v30, .ref v31, .ref v32, .ref v33, .ref v34, .ref v35, .ref v36, .ref v37, .int 0]))]) [1] (by decide) rfl
  refine W.widen (k := 0) (n := 0) (Nat.le_of_ble_eq_true rfl) (Nat.le_of_ble_eq_true rfl) ?_
  exact W.iret (v := 0) hx hb hr (fun t ht hW => ⟨⟨0, (), rfl, rfl, by rw [ht]; exact hP9, hD9⟩, hS.F ht⟩) hS.2.2 dX10_daysUntilClosed_13

set_option maxHeartbeats 4000000 in
set_option maxRecDepth 100000 in
/-- write: thrown 1 -/
theorem c_m_write (l : Launch) (D : va_G) (cA : Nat → ClassId) (sa : Nat → Nat) (w0 v0 v1 v2 v3 v4 v9 v13 v27 v28 v29 v30 v31 v32 v33 v34 v35 v36 v37 : Nat) (th : Int32) (fs : Nat → Int32) (i : Int32) (sz : Nat) (hz : Zs fs) : Met l yX10_write wsX10_write ({ frames := 2, cells := 0, slots := 0, locals := 46 }) (va_Pc [.ref w0, .int i] (Wd D cA sa [(w0, .inr (11, [.ref v0, .ref v1, .ref v2, .ref v3, .ref v4, .long 0, .long 0, .int 0, .int th, .ref v9, .int 0, .int 0, .int (-1), .ref v13, .int 0, .int 0, .int 0, .int 0, .int 0, .int 0, .int 0, .int 0, .int 0, .int 0, .int 0, .long 0, .int 0, .ref v27, .ref v28, .ref v29, .ref v30, .ref v31, .ref v32, .ref v33, .ref v34, .ref v35, .ref v36, .ref v37, .int 0])), (v0, .inl (cA 0, 326, .inl fs))] sz)) (va_Qi (fun (r : Int32) (_ : Unit) => r = 0) (fun (_ : Unit) t => Wq D (va_A [(w0, .inr (11, [.ref v0, .ref v1, .ref v2, .ref v3, .ref v4, .long 0, .long 0, .int 0, .int th, .ref v9, .int 0, .int 0, .int (-1), .ref v13, .int 0, .int 0, .int 0, .int 0, .int 0, .int 0, .int 0, .int 0, .int 0, .int 0, .int 0, .long 0, .int 0, .ref v27, .ref v28, .ref v29, .ref v30, .ref v31, .ref v32, .ref v33, .ref v34, .ref v35, .ref v36, .ref v37, .int 0])), (v0, .inl (cA 0, 326, .inl fs))] sz) [(w0, .inr (11, [.ref v0, .ref v1, .ref v2, .ref v3, .ref v4, .long 0, .long 0, .int 0, .int 1, .ref v9, .int 0, .int 0, .int (-1), .ref v13, .int 0, .int 0, .int 0, .int 0, .int 0, .int 0, .int 0, .int 0, .int 0, .int 0, .int 0, .long 0, .int 0, .ref v27, .ref v28, .ref v29, .ref v30, .ref v31, .ref v32, .ref v33, .ref v34, .ref v35, .ref v36, .ref v37, .int 0]))] t) (va_A [(w0, .inr (11, [.ref v0, .ref v1, .ref v2, .ref v3, .ref v4, .long 0, .long 0, .int 0, .int th, .ref v9, .int 0, .int 0, .int (-1), .ref v13, .int 0, .int 0, .int 0, .int 0, .int 0, .int 0, .int 0, .int 0, .int 0, .int 0, .int 0, .long 0, .int 0, .ref v27, .ref v28, .ref v29, .ref v30, .ref v31, .ref v32, .ref v33, .ref v34, .ref v35, .ref v36, .ref v37, .int 0])), (v0, .inl (cA 0, 326, .inl fs))] sz)) 0 0 (va_A [(w0, .inr (11, [.ref v0, .ref v1, .ref v2, .ref v3, .ref v4, .long 0, .long 0, .int 0, .int th, .ref v9, .int 0, .int 0, .int (-1), .ref v13, .int 0, .int 0, .int 0, .int 0, .int 0, .int 0, .int 0, .int 0, .int 0, .int 0, .int 0, .long 0, .int 0, .ref v27, .ref v28, .ref v29, .ref v30, .ref v31, .ref v32, .ref v33, .ref v34, .ref v35, .ref v36, .ref v37, .int 0])), (v0, .inl (cA 0, 326, .inl fs))] sz) := by
  refine Met.ofW (cc := cX10_write) (maxL := 3) (ret := (some .int)) (by decide) rfl ?_
  intro p e s m args below meth c s₁ B hml hv
  obtain ⟨rfl, hsz, hP, hK, hD0, hC, hZ⟩ := hv
  have hx := B.exec
  have hb := B.bytes
  have hr := B.returns
  have hts := atoms_spec (ws := wsX10_write) B.pre
  have hown : s.vm.findClass RX10 = some m.cls := findClass_of_methodNamed B.named
  have hlocks := B.notSynchronized
  subst hsz
  have hD := hD0.self (sz := s.heap.size)
  generalize hAe : va_A [(w0, .inr (11, [.ref v0, .ref v1, .ref v2, .ref v3, .ref v4, .long 0, .long 0, .int 0, .int th, .ref v9, .int 0, .int 0, .int (-1), .ref v13, .int 0, .int 0, .int 0, .int 0, .int 0, .int 0, .int 0, .int 0, .int 0, .int 0, .int 0, .long 0, .int 0, .ref v27, .ref v28, .ref v29, .ref v30, .ref v31, .ref v32, .ref v33, .ref v34, .ref v35, .ref v36, .ref v37, .int 0])), (v0, .inl (cA 0, 326, .inl fs))] s.heap.size = A at hD hZ ⊢
  have hA : ∀ q : Nat, s.heap.size ≤ q → A q := fun q h => by rw [← hAe]; exact Or.inr h
  have hS : va_S A s.heap s.heap [] := va_S.rf
  have hP : va_P D vwCl [(w0, .inr (11, [.ref v0, .ref v1, .ref v2, .ref v3, .ref v4, .long 0, .long 0, .int 0, .int th, .ref v9, .int 0, .int 0, .int (-1), .ref v13, .int 0, .int 0, .int 0, .int 0, .int 0, .int 0, .int 0, .int 0, .int 0, .int 0, .int 0, .long 0, .int 0, .ref v27, .ref v28, .ref v29, .ref v30, .ref v31, .ref v32, .ref v33, .ref v34, .ref v35, .ref v36, .ref v37, .int 0])), (v0, .inl (cA 0, 326, .inl fs))] s.heap := hP
  have hl := lv_entry ([.ref w0, .int i]) (n := 3) (Nat.le_of_ble_eq_true rfl)
  rw [lg_entry_eq]
  generalize (lg_sl ([.ref w0, .int i]) ++ List.replicate (3 - (lg_sl ([.ref w0, .int i])).length) Slot.unset).toArray = ls at hl ⊢
  have hl : lv_has ls 3 [(0, .ref w0), (1, .int i)] := hl
  refine lv_aload_n hx hb dX10_write_0 rfl (lv_at hl 0 rfl) ?_
  refine lv_aload_n hx hb dX10_write_1 rfl (lv_at hl 0 rfl) ?_
  refine lv_iload_n hx hb dX10_write_2 rfl (lv_at hl 1 rfl) ?_
  have hPc := hP.sub (ws' := [(w0, .inr (11, [.ref v0, .ref v1, .ref v2, .ref v3, .ref v4, .long 0, .long 0, .int 0, .int th, .ref v9, .int 0, .int 0, .int (-1), .ref v13, .int 0, .int 0, .int 0, .int 0, .int 0, .int 0, .int 0, .int 0, .int 0, .int 0, .int 0, .long 0, .int 0, .ref v27, .ref v28, .ref v29, .ref v30, .ref v31, .ref v32, .ref v33, .ref v34, .ref v35, .ref v36, .ref v37, .int 0])), (v0, .inl (cA 0, 326, .inl fs))]) [0, 1] rfl
  have hDc := hD.sub (ws' := [(w0, .inr (11, [.ref v0, .ref v1, .ref v2, .ref v3, .ref v4, .long 0, .long 0, .int 0, .int th, .ref v9, .int 0, .int 0, .int (-1), .ref v13, .int 0, .int 0, .int 0, .int 0, .int 0, .int 0, .int 0, .int 0, .int 0, .int 0, .int 0, .long 0, .int 0, .ref v27, .ref v28, .ref v29, .ref v30, .ref v31, .ref v32, .ref v33, .ref v34, .ref v35, .ref v36, .ref v37, .int 0])), (v0, .inl (cA 0, 326, .inl fs))]) [0, 1] (by decide) rfl
  have hFc := va_free (wc := [(w0, .inr (11, [.ref v0, .ref v1, .ref v2, .ref v3, .ref v4, .long 0, .long 0, .int 0, .int th, .ref v9, .int 0, .int 0, .int (-1), .ref v13, .int 0, .int 0, .int 0, .int 0, .int 0, .int 0, .int 0, .int 0, .int 0, .int 0, .int 0, .long 0, .int 0, .ref v27, .ref v28, .ref v29, .ref v30, .ref v31, .ref v32, .ref v33, .ref v34, .ref v35, .ref v36, .ref v37, .int 0])), (v0, .inl (cA 0, 326, .inl fs))]) hD hS hA [0, 1] rfl
  refine va_calli (va_runV (As := [.int i]) (rest := [.ref w0]) ⟨hx, hb, hml, hown, hts⟩ (c_m_isMilestone l D cA sa w0 v0 v1 v2 v3 v4 v9 v13 v27 v28 v29 v30 v31 v32 v33 v34 v35 v36 v37 th fs i s.heap.size hz) (cwV 1 hts gX10_write_X10_isMilestone rfl rfl rfl (by decide +kernel) ⟨(Nat.le_of_ble_eq_true rfl), (Nat.le_of_ble_eq_true rfl)⟩) ⟨Wd.blind, va_recv hK hPc (ci := 11) (q0 := 0) rfl rfl, fun U hU hW => ⟨rfl, Wd.call hPc hDc hK hC hZ hS hFc U hU hW⟩⟩ rfl rfl hl.1 rfl (lv_room (Nat.le_of_ble_eq_true rfl)) dX10_write_3 ⟨(Nat.le_of_ble_eq_true rfl), (Nat.le_of_ble_eq_true rfl)⟩) hS (fun q _ h => hFc q h) hFc (fun rn1 u t H1 locs ht hvm hw hB hz1 hk1 hS => ?_)
  obtain ⟨hP1, hD1⟩ := hB
  rw [ht] at hP1
  obtain ⟨hP, hD⟩ := va_join (wr := []) (w1 := [(w0, .inr (11, [.ref v0, .ref v1, .ref v2, .ref v3, .ref v4, .long 0, .long 0, .int 0, .int th, .ref v9, .int 0, .int 0, .int (-1), .ref v13, .int 0, .int 0, .int 0, .int 0, .int 0, .int 0, .int 0, .int 0, .int 0, .int 0, .int 0, .long 0, .int 0, .ref v27, .ref v28, .ref v29, .ref v30, .ref v31, .ref v32, .ref v33, .ref v34, .ref v35, .ref v36, .ref v37, .int 0])), (v0, .inl (cA 0, 326, .inl fs))]) hP hD [0, 1] [] rfl rfl (by decide) (by decide) hk1 hFc hP1 hD1
  generalize H1 = H at hP hS ⊢
  have hP : va_P D vwCl [(w0, .inr (11, [.ref v0, .ref v1, .ref v2, .ref v3, .ref v4, .long 0, .long 0, .int 0, .int th, .ref v9, .int 0, .int 0, .int (-1), .ref v13, .int 0, .int 0, .int 0, .int 0, .int 0, .int 0, .int 0, .int 0, .int 0, .int 0, .int 0, .long 0, .int 0, .ref v27, .ref v28, .ref v29, .ref v30, .ref v31, .ref v32, .ref v33, .ref v34, .ref v35, .ref v36, .ref v37, .int 0])), (v0, .inl (cA 0, 326, .inl fs))] H := hP
  have hD : va_D A [(w0, .inr (11, [.ref v0, .ref v1, .ref v2, .ref v3, .ref v4, .long 0, .long 0, .int 0, .int th, .ref v9, .int 0, .int 0, .int (-1), .ref v13, .int 0, .int 0, .int 0, .int 0, .int 0, .int 0, .int 0, .int 0, .int 0, .int 0, .int 0, .long 0, .int 0, .ref v27, .ref v28, .ref v29, .ref v30, .ref v31, .ref v32, .ref v33, .ref v34, .ref v35, .ref v36, .ref v37, .int 0])), (v0, .inl (cA 0, 326, .inl fs))] := hD
  obtain rfl : rn1 = 0 := hw
  have hPc := hP.sub (ws' := [(w0, .inr (11, [.ref v0, .ref v1, .ref v2, .ref v3, .ref v4, .long 0, .long 0, .int 0, .int th, .ref v9, .int 0, .int 0, .int (-1), .ref v13, .int 0, .int 0, .int 0, .int 0, .int 0, .int 0, .int 0, .int 0, .int 0, .int 0, .int 0, .long 0, .int 0, .ref v27, .ref v28, .ref v29, .ref v30, .ref v31, .ref v32, .ref v33, .ref v34, .ref v35, .ref v36, .ref v37, .int 0]))]) [0] rfl
  have hDc := hD.sub (ws' := [(w0, .inr (11, [.ref v0, .ref v1, .ref v2, .ref v3, .ref v4, .long 0, .long 0, .int 0, .int th, .ref v9, .int 0, .int 0, .int (-1), .ref v13, .int 0, .int 0, .int 0, .int 0, .int 0, .int 0, .int 0, .int 0, .int 0, .int 0, .int 0, .long 0, .int 0, .ref v27, .ref v28, .ref v29, .ref v30, .ref v31, .ref v32, .ref v33, .ref v34, .ref v35, .ref v36, .ref v37, .int 0]))]) [0] (by decide) rfl
  have hFc := va_free (wc := [(w0, .inr (11, [.ref v0, .ref v1, .ref v2, .ref v3, .ref v4, .long 0, .long 0, .int 0, .int th, .ref v9, .int 0, .int 0, .int (-1), .ref v13, .int 0, .int 0, .int 0, .int 0, .int 0, .int 0, .int 0, .int 0, .int 0, .int 0, .int 0, .long 0, .int 0, .ref v27, .ref v28, .ref v29, .ref v30, .ref v31, .ref v32, .ref v33, .ref v34, .ref v35, .ref v36, .ref v37, .int 0]))]) hD hS hA [0] rfl
  refine va_calli (va_runV (As := [.int 0]) (rest := []) ⟨hx, hb, hml, hown, hts⟩ (c_m_good_0 l D cA sa w0 v0 v1 v2 v3 v4 v9 v13 v27 v28 v29 v30 v31 v32 v33 v34 v35 v36 v37 th H.size) (cwV 1 hts gX10_write_X10_good rfl rfl rfl (by decide +kernel) ⟨(Nat.le_of_ble_eq_true rfl), (Nat.le_of_ble_eq_true rfl)⟩) ⟨Wd.blind, va_recv hK hPc (ci := 11) (q0 := 0) rfl rfl, fun U hU hW => ⟨rfl, Wd.call hPc hDc hK hC hZ hS hFc U hU hW⟩⟩ rfl rfl hl.1 rfl (lv_room (Nat.le_of_ble_eq_true rfl)) dX10_write_6 ⟨(Nat.le_of_ble_eq_true rfl), (Nat.le_of_ble_eq_true rfl)⟩) hS (fun q _ h => hFc q h) hFc (fun rn2 u t H1 locs ht hvm hw hB hz1 hk1 hS => ?_)
  obtain ⟨hP1, hD1⟩ := hB
  rw [ht] at hP1
  obtain ⟨hP, hD⟩ := va_join (wr := [(v0, .inl (cA 0, 326, .inl fs))]) (w1 := [(w0, .inr (11, [.ref v0, .ref v1, .ref v2, .ref v3, .ref v4, .long 0, .long 0, .int 0, .int 1, .ref v9, .int 0, .int 0, .int (-1), .ref v13, .int 0, .int 0, .int 0, .int 0, .int 0, .int 0, .int 0, .int 0, .int 0, .int 0, .int 0, .long 0, .int 0, .ref v27, .ref v28, .ref v29, .ref v30, .ref v31, .ref v32, .ref v33, .ref v34, .ref v35, .ref v36, .ref v37, .int 0]))]) hP hD [0] [1] rfl rfl (by decide) (by decide) hk1 hFc hP1 hD1
  generalize H1 = H at hP hS ⊢
  have hP : va_P D vwCl [(v0, .inl (cA 0, 326, .inl fs)), (w0, .inr (11, [.ref v0, .ref v1, .ref v2, .ref v3, .ref v4, .long 0, .long 0, .int 0, .int 1, .ref v9, .int 0, .int 0, .int (-1), .ref v13, .int 0, .int 0, .int 0, .int 0, .int 0, .int 0, .int 0, .int 0, .int 0, .int 0, .int 0, .long 0, .int 0, .ref v27, .ref v28, .ref v29, .ref v30, .ref v31, .ref v32, .ref v33, .ref v34, .ref v35, .ref v36, .ref v37, .int 0]))] H := hP
  have hD : va_D A [(v0, .inl (cA 0, 326, .inl fs)), (w0, .inr (11, [.ref v0, .ref v1, .ref v2, .ref v3, .ref v4, .long 0, .long 0, .int 0, .int 1, .ref v9, .int 0, .int 0, .int (-1), .ref v13, .int 0, .int 0, .int 0, .int 0, .int 0, .int 0, .int 0, .int 0, .int 0, .int 0, .int 0, .long 0, .int 0, .ref v27, .ref v28, .ref v29, .ref v30, .ref v31, .ref v32, .ref v33, .ref v34, .ref v35, .ref v36, .ref v37, .int 0]))] := hD
  obtain rfl : rn2 = 0 := hw
  refine lv_if_ne (tgt := 14) hx hb dX10_write_9 (by decide) (fun c9 => absurd c9 (by decide)) (fun c3 => ?_)
  refine lv_iconst (v := 0) hx hb dX10_write_12 (by decide) ?_
  have hP9 := hP.sub (ws' := [(w0, .inr (11, [.ref v0, .ref v1, .ref v2, .ref v3, .ref v4, .long 0, .long 0, .int 0, .int 1, .ref v9, .int 0, .int 0, .int (-1), .ref v13, .int 0, .int 0, .int 0, .int 0, .int 0, .int 0, .int 0, .int 0, .int 0, .int 0, .int 0, .long 0, .int 0, .ref v27, .ref v28, .ref v29, .ref v30, .ref v31, .ref v32, .ref v33, .ref v34, .ref v35, .ref v36, .ref v37, .int 0]))]) [1] rfl
  have hD9 := hD.sub (ws' := [(w0, .inr (11, [.ref v0, .ref v1, .ref v2, .ref v3, .ref v4, .long 0, .long 0, .int 0, .int 1, .ref v9, .int 0, .int 0, .int (-1), .ref v13, .int 0, .int 0, .int 0, .int 0, .int 0, .int 0, .int 0, .int 0, .int 0, .int 0, .int 0, .long 0, .int 0, .ref v27, .ref v28, .ref v29, .ref v30, .ref v31, .ref v32, .ref v33, .ref v34, .ref v35, .ref v36, .ref v37, .int 0]))]) [1] (by decide) rfl
  refine W.widen (k := 0) (n := 0) (Nat.le_of_ble_eq_true rfl) (Nat.le_of_ble_eq_true rfl) ?_
  exact W.iret (v := 0) hx hb hr (fun t ht hW => ⟨⟨0, (), rfl, rfl, by rw [ht]; exact hP9, hD9⟩, hS.F ht⟩) hS.2.2 dX10_write_13

set_option maxHeartbeats 4000000 in
set_option maxRecDepth 100000 in
/-- isSubmitted: thrown 1 -/
theorem c_m_isSubmitted (l : Launch) (D : va_G) (cA : Nat → ClassId) (sa : Nat → Nat) (w0 v0 v1 v2 v3 v4 v9 v13 v27 v28 v29 v30 v31 v32 v33 v34 v35 v36 v37 : Nat) (th : Int32) (fs : Nat → Int32) (i : Int32) (sz : Nat) (hz : Zs fs) : Met l yX10_isSubmitted wsX10_isSubmitted ({ frames := 2, cells := 0, slots := 0, locals := 46 }) (va_Pc [.ref w0, .int i] (Wd D cA sa [(w0, .inr (11, [.ref v0, .ref v1, .ref v2, .ref v3, .ref v4, .long 0, .long 0, .int 0, .int th, .ref v9, .int 0, .int 0, .int (-1), .ref v13, .int 0, .int 0, .int 0, .int 0, .int 0, .int 0, .int 0, .int 0, .int 0, .int 0, .int 0, .long 0, .int 0, .ref v27, .ref v28, .ref v29, .ref v30, .ref v31, .ref v32, .ref v33, .ref v34, .ref v35, .ref v36, .ref v37, .int 0])), (v0, .inl (cA 0, 326, .inl fs))] sz)) (va_Qi (fun (r : Int32) (_ : Unit) => r = 0) (fun (_ : Unit) t => Wq D (va_A [(w0, .inr (11, [.ref v0, .ref v1, .ref v2, .ref v3, .ref v4, .long 0, .long 0, .int 0, .int th, .ref v9, .int 0, .int 0, .int (-1), .ref v13, .int 0, .int 0, .int 0, .int 0, .int 0, .int 0, .int 0, .int 0, .int 0, .int 0, .int 0, .long 0, .int 0, .ref v27, .ref v28, .ref v29, .ref v30, .ref v31, .ref v32, .ref v33, .ref v34, .ref v35, .ref v36, .ref v37, .int 0])), (v0, .inl (cA 0, 326, .inl fs))] sz) [(w0, .inr (11, [.ref v0, .ref v1, .ref v2, .ref v3, .ref v4, .long 0, .long 0, .int 0, .int 1, .ref v9, .int 0, .int 0, .int (-1), .ref v13, .int 0, .int 0, .int 0, .int 0, .int 0, .int 0, .int 0, .int 0, .int 0, .int 0, .int 0, .long 0, .int 0, .ref v27, .ref v28, .ref v29, .ref v30, .ref v31, .ref v32, .ref v33, .ref v34, .ref v35, .ref v36, .ref v37, .int 0]))] t) (va_A [(w0, .inr (11, [.ref v0, .ref v1, .ref v2, .ref v3, .ref v4, .long 0, .long 0, .int 0, .int th, .ref v9, .int 0, .int 0, .int (-1), .ref v13, .int 0, .int 0, .int 0, .int 0, .int 0, .int 0, .int 0, .int 0, .int 0, .int 0, .int 0, .long 0, .int 0, .ref v27, .ref v28, .ref v29, .ref v30, .ref v31, .ref v32, .ref v33, .ref v34, .ref v35, .ref v36, .ref v37, .int 0])), (v0, .inl (cA 0, 326, .inl fs))] sz)) 0 0 (va_A [(w0, .inr (11, [.ref v0, .ref v1, .ref v2, .ref v3, .ref v4, .long 0, .long 0, .int 0, .int th, .ref v9, .int 0, .int 0, .int (-1), .ref v13, .int 0, .int 0, .int 0, .int 0, .int 0, .int 0, .int 0, .int 0, .int 0, .int 0, .int 0, .long 0, .int 0, .ref v27, .ref v28, .ref v29, .ref v30, .ref v31, .ref v32, .ref v33, .ref v34, .ref v35, .ref v36, .ref v37, .int 0])), (v0, .inl (cA 0, 326, .inl fs))] sz) := by
  refine Met.ofW (cc := cX10_isSubmitted) (maxL := 2) (ret := (some .boolean)) (by decide) rfl ?_
  intro p e s m args below meth c s₁ B hml hv
  obtain ⟨rfl, hsz, hP, hK, hD0, hC, hZ⟩ := hv
  have hx := B.exec
  have hb := B.bytes
  have hr := B.returns
  have hts := atoms_spec (ws := wsX10_isSubmitted) B.pre
  have hown : s.vm.findClass RX10 = some m.cls := findClass_of_methodNamed B.named
  have hlocks := B.notSynchronized
  subst hsz
  have hD := hD0.self (sz := s.heap.size)
  generalize hAe : va_A [(w0, .inr (11, [.ref v0, .ref v1, .ref v2, .ref v3, .ref v4, .long 0, .long 0, .int 0, .int th, .ref v9, .int 0, .int 0, .int (-1), .ref v13, .int 0, .int 0, .int 0, .int 0, .int 0, .int 0, .int 0, .int 0, .int 0, .int 0, .int 0, .long 0, .int 0, .ref v27, .ref v28, .ref v29, .ref v30, .ref v31, .ref v32, .ref v33, .ref v34, .ref v35, .ref v36, .ref v37, .int 0])), (v0, .inl (cA 0, 326, .inl fs))] s.heap.size = A at hD hZ ⊢
  have hA : ∀ q : Nat, s.heap.size ≤ q → A q := fun q h => by rw [← hAe]; exact Or.inr h
  have hS : va_S A s.heap s.heap [] := va_S.rf
  have hP : va_P D vwCl [(w0, .inr (11, [.ref v0, .ref v1, .ref v2, .ref v3, .ref v4, .long 0, .long 0, .int 0, .int th, .ref v9, .int 0, .int 0, .int (-1), .ref v13, .int 0, .int 0, .int 0, .int 0, .int 0, .int 0, .int 0, .int 0, .int 0, .int 0, .int 0, .long 0, .int 0, .ref v27, .ref v28, .ref v29, .ref v30, .ref v31, .ref v32, .ref v33, .ref v34, .ref v35, .ref v36, .ref v37, .int 0])), (v0, .inl (cA 0, 326, .inl fs))] s.heap := hP
  have hl := lv_entry ([.ref w0, .int i]) (n := 2) (Nat.le_of_ble_eq_true rfl)
  rw [lg_entry_eq]
  generalize (lg_sl ([.ref w0, .int i]) ++ List.replicate (2 - (lg_sl ([.ref w0, .int i])).length) Slot.unset).toArray = ls at hl ⊢
  have hl : lv_has ls 2 [(0, .ref w0), (1, .int i)] := hl
  refine lv_aload_n hx hb dX10_isSubmitted_0 rfl (lv_at hl 0 rfl) ?_
  refine lv_aload_n hx hb dX10_isSubmitted_1 rfl (lv_at hl 0 rfl) ?_
  refine lv_iload_n hx hb dX10_isSubmitted_2 rfl (lv_at hl 1 rfl) ?_
  have hPc := hP.sub (ws' := [(w0, .inr (11, [.ref v0, .ref v1, .ref v2, .ref v3, .ref v4, .long 0, .long 0, .int 0, .int th, .ref v9, .int 0, .int 0, .int (-1), .ref v13, .int 0, .int 0, .int 0, .int 0, .int 0, .int 0, .int 0, .int 0, .int 0, .int 0, .int 0, .long 0, .int 0, .ref v27, .ref v28, .ref v29, .ref v30, .ref v31, .ref v32, .ref v33, .ref v34, .ref v35, .ref v36, .ref v37, .int 0])), (v0, .inl (cA 0, 326, .inl fs))]) [0, 1] rfl
  have hDc := hD.sub (ws' := [(w0, .inr (11, [.ref v0, .ref v1, .ref v2, .ref v3, .ref v4, .long 0, .long 0, .int 0, .int th, .ref v9, .int 0, .int 0, .int (-1), .ref v13, .int 0, .int 0, .int 0, .int 0, .int 0, .int 0, .int 0, .int 0, .int 0, .int 0, .int 0, .long 0, .int 0, .ref v27, .ref v28, .ref v29, .ref v30, .ref v31, .ref v32, .ref v33, .ref v34, .ref v35, .ref v36, .ref v37, .int 0])), (v0, .inl (cA 0, 326, .inl fs))]) [0, 1] (by decide) rfl
  have hFc := va_free (wc := [(w0, .inr (11, [.ref v0, .ref v1, .ref v2, .ref v3, .ref v4, .long 0, .long 0, .int 0, .int th, .ref v9, .int 0, .int 0, .int (-1), .ref v13, .int 0, .int 0, .int 0, .int 0, .int 0, .int 0, .int 0, .int 0, .int 0, .int 0, .int 0, .long 0, .int 0, .ref v27, .ref v28, .ref v29, .ref v30, .ref v31, .ref v32, .ref v33, .ref v34, .ref v35, .ref v36, .ref v37, .int 0])), (v0, .inl (cA 0, 326, .inl fs))]) hD hS hA [0, 1] rfl
  refine va_calli (va_runV (As := [.int i]) (rest := [.ref w0]) ⟨hx, hb, hml, hown, hts⟩ (c_m_isProof l D cA sa w0 v0 v1 v2 v3 v4 v9 v13 v27 v28 v29 v30 v31 v32 v33 v34 v35 v36 v37 th fs i s.heap.size hz) (cwV 1 hts gX10_isSubmitted_X10_isProof rfl rfl rfl (by decide +kernel) ⟨(Nat.le_of_ble_eq_true rfl), (Nat.le_of_ble_eq_true rfl)⟩) ⟨Wd.blind, va_recv hK hPc (ci := 11) (q0 := 0) rfl rfl, fun U hU hW => ⟨rfl, Wd.call hPc hDc hK hC hZ hS hFc U hU hW⟩⟩ rfl rfl hl.1 rfl (lv_room (Nat.le_of_ble_eq_true rfl)) dX10_isSubmitted_3 ⟨(Nat.le_of_ble_eq_true rfl), (Nat.le_of_ble_eq_true rfl)⟩) hS (fun q _ h => hFc q h) hFc (fun rn1 u t H1 locs ht hvm hw hB hz1 hk1 hS => ?_)
  obtain ⟨hP1, hD1⟩ := hB
  rw [ht] at hP1
  obtain ⟨hP, hD⟩ := va_join (wr := []) (w1 := [(w0, .inr (11, [.ref v0, .ref v1, .ref v2, .ref v3, .ref v4, .long 0, .long 0, .int 0, .int th, .ref v9, .int 0, .int 0, .int (-1), .ref v13, .int 0, .int 0, .int 0, .int 0, .int 0, .int 0, .int 0, .int 0, .int 0, .int 0, .int 0, .long 0, .int 0, .ref v27, .ref v28, .ref v29, .ref v30, .ref v31, .ref v32, .ref v33, .ref v34, .ref v35, .ref v36, .ref v37, .int 0])), (v0, .inl (cA 0, 326, .inl fs))]) hP hD [0, 1] [] rfl rfl (by decide) (by decide) hk1 hFc hP1 hD1
  generalize H1 = H at hP hS ⊢
  have hP : va_P D vwCl [(w0, .inr (11, [.ref v0, .ref v1, .ref v2, .ref v3, .ref v4, .long 0, .long 0, .int 0, .int th, .ref v9, .int 0, .int 0, .int (-1), .ref v13, .int 0, .int 0, .int 0, .int 0, .int 0, .int 0, .int 0, .int 0, .int 0, .int 0, .int 0, .long 0, .int 0, .ref v27, .ref v28, .ref v29, .ref v30, .ref v31, .ref v32, .ref v33, .ref v34, .ref v35, .ref v36, .ref v37, .int 0])), (v0, .inl (cA 0, 326, .inl fs))] H := hP
  have hD : va_D A [(w0, .inr (11, [.ref v0, .ref v1, .ref v2, .ref v3, .ref v4, .long 0, .long 0, .int 0, .int th, .ref v9, .int 0, .int 0, .int (-1), .ref v13, .int 0, .int 0, .int 0, .int 0, .int 0, .int 0, .int 0, .int 0, .int 0, .int 0, .int 0, .long 0, .int 0, .ref v27, .ref v28, .ref v29, .ref v30, .ref v31, .ref v32, .ref v33, .ref v34, .ref v35, .ref v36, .ref v37, .int 0])), (v0, .inl (cA 0, 326, .inl fs))] := hD
  obtain rfl : rn1 = 0 := hw
  have hPc := hP.sub (ws' := [(w0, .inr (11, [.ref v0, .ref v1, .ref v2, .ref v3, .ref v4, .long 0, .long 0, .int 0, .int th, .ref v9, .int 0, .int 0, .int (-1), .ref v13, .int 0, .int 0, .int 0, .int 0, .int 0, .int 0, .int 0, .int 0, .int 0, .int 0, .int 0, .long 0, .int 0, .ref v27, .ref v28, .ref v29, .ref v30, .ref v31, .ref v32, .ref v33, .ref v34, .ref v35, .ref v36, .ref v37, .int 0]))]) [0] rfl
  have hDc := hD.sub (ws' := [(w0, .inr (11, [.ref v0, .ref v1, .ref v2, .ref v3, .ref v4, .long 0, .long 0, .int 0, .int th, .ref v9, .int 0, .int 0, .int (-1), .ref v13, .int 0, .int 0, .int 0, .int 0, .int 0, .int 0, .int 0, .int 0, .int 0, .int 0, .int 0, .long 0, .int 0, .ref v27, .ref v28, .ref v29, .ref v30, .ref v31, .ref v32, .ref v33, .ref v34, .ref v35, .ref v36, .ref v37, .int 0]))]) [0] (by decide) rfl
  have hFc := va_free (wc := [(w0, .inr (11, [.ref v0, .ref v1, .ref v2, .ref v3, .ref v4, .long 0, .long 0, .int 0, .int th, .ref v9, .int 0, .int 0, .int (-1), .ref v13, .int 0, .int 0, .int 0, .int 0, .int 0, .int 0, .int 0, .int 0, .int 0, .int 0, .int 0, .long 0, .int 0, .ref v27, .ref v28, .ref v29, .ref v30, .ref v31, .ref v32, .ref v33, .ref v34, .ref v35, .ref v36, .ref v37, .int 0]))]) hD hS hA [0] rfl
  refine va_calli (va_runV (As := [.int 0]) (rest := []) ⟨hx, hb, hml, hown, hts⟩ (c_m_good_0 l D cA sa w0 v0 v1 v2 v3 v4 v9 v13 v27 v28 v29 v30 v31 v32 v33 v34 v35 v36 v37 th H.size) (cwV 1 hts gX10_isSubmitted_X10_good rfl rfl rfl (by decide +kernel) ⟨(Nat.le_of_ble_eq_true rfl), (Nat.le_of_ble_eq_true rfl)⟩) ⟨Wd.blind, va_recv hK hPc (ci := 11) (q0 := 0) rfl rfl, fun U hU hW => ⟨rfl, Wd.call hPc hDc hK hC hZ hS hFc U hU hW⟩⟩ rfl rfl hl.1 rfl (lv_room (Nat.le_of_ble_eq_true rfl)) dX10_isSubmitted_6 ⟨(Nat.le_of_ble_eq_true rfl), (Nat.le_of_ble_eq_true rfl)⟩) hS (fun q _ h => hFc q h) hFc (fun rn2 u t H1 locs ht hvm hw hB hz1 hk1 hS => ?_)
  obtain ⟨hP1, hD1⟩ := hB
  rw [ht] at hP1
  obtain ⟨hP, hD⟩ := va_join (wr := [(v0, .inl (cA 0, 326, .inl fs))]) (w1 := [(w0, .inr (11, [.ref v0, .ref v1, .ref v2, .ref v3, .ref v4, .long 0, .long 0, .int 0, .int 1, .ref v9, .int 0, .int 0, .int (-1), .ref v13, .int 0, .int 0, .int 0, .int 0, .int 0, .int 0, .int 0, .int 0, .int 0, .int 0, .int 0, .long 0, .int 0, .ref v27, .ref v28, .ref v29, .ref v30, .ref v31, .ref v32, .ref v33, .ref v34, .ref v35, .ref v36, .ref v37, .int 0]))]) hP hD [0] [1] rfl rfl (by decide) (by decide) hk1 hFc hP1 hD1
  generalize H1 = H at hP hS ⊢
  have hP : va_P D vwCl [(v0, .inl (cA 0, 326, .inl fs)), (w0, .inr (11, [.ref v0, .ref v1, .ref v2, .ref v3, .ref v4, .long 0, .long 0, .int 0, .int 1, .ref v9, .int 0, .int 0, .int (-1), .ref v13, .int 0, .int 0, .int 0, .int 0, .int 0, .int 0, .int 0, .int 0, .int 0, .int 0, .int 0, .long 0, .int 0, .ref v27, .ref v28, .ref v29, .ref v30, .ref v31, .ref v32, .ref v33, .ref v34, .ref v35, .ref v36, .ref v37, .int 0]))] H := hP
  have hD : va_D A [(v0, .inl (cA 0, 326, .inl fs)), (w0, .inr (11, [.ref v0, .ref v1, .ref v2, .ref v3, .ref v4, .long 0, .long 0, .int 0, .int 1, .ref v9, .int 0, .int 0, .int (-1), .ref v13, .int 0, .int 0, .int 0, .int 0, .int 0, .int 0, .int 0, .int 0, .int 0, .int 0, .int 0, .long 0, .int 0, .ref v27, .ref v28, .ref v29, .ref v30, .ref v31, .ref v32, .ref v33, .ref v34, .ref v35, .ref v36, .ref v37, .int 0]))] := hD
  obtain rfl : rn2 = 0 := hw
  refine lv_if_eq (tgt := 31) hx hb dX10_isSubmitted_9 (by decide) (fun c3 => ?_) (fun c9 => absurd c9 (by decide))
  refine lv_iconst (v := 0) hx hb dX10_isSubmitted_31 (by decide) ?_
  have hP9 := hP.sub (ws' := [(w0, .inr (11, [.ref v0, .ref v1, .ref v2, .ref v3, .ref v4, .long 0, .long 0, .int 0, .int 1, .ref v9, .int 0, .int 0, .int (-1), .ref v13, .int 0, .int 0, .int 0, .int 0, .int 0, .int 0, .int 0, .int 0, .int 0, .int 0, .int 0, .long 0, .int 0, .ref v27, .ref v28, .ref v29, .ref v30, .ref v31, .ref v32, .ref v33, .ref v34, .ref v35, .ref v36, .ref v37, .int 0]))]) [1] rfl
  have hD9 := hD.sub (ws' := [(w0, .inr (11, [.ref v0, .ref v1, .ref v2, .ref v3, .ref v4, .long 0, .long 0, .int 0, .int 1, .ref v9, .int 0, .int 0, .int (-1), .ref v13, .int 0, .int 0, .int 0, .int 0, .int 0, .int 0, .int 0, .int 0, .int 0, .int 0, .int 0, .long 0, .int 0, .ref v27, .ref v28, .ref v29, .ref v30, .ref v31, .ref v32, .ref v33, .ref v34, .ref v35, .ref v36, .ref v37, .int 0]))]) [1] (by decide) rfl
  refine W.widen (k := 0) (n := 0) (Nat.le_of_ble_eq_true rfl) (Nat.le_of_ble_eq_true rfl) ?_
  exact W.zret (v := 0) hx hb hr (by first | rfl | decide) (fun t ht hW => ⟨⟨0, (), rfl, rfl, by rw [ht]; exact hP9, hD9⟩, hS.F ht⟩) hS.2.2 dX10_isSubmitted_32

set_option maxHeartbeats 4000000 in
set_option maxRecDepth 100000 in
/-- submit: thrown 1 -/
theorem c_m_submit (l : Launch) (D : va_G) (cA : Nat → ClassId) (sa : Nat → Nat) (w0 v0 v1 v2 v3 v4 v9 v13 v27 v28 v29 v30 v31 v32 v33 v34 v35 v36 v37 : Nat) (th : Int32) (fs : Nat → Int32) (i : Int32) (sz : Nat) (hz : Zs fs) : Met l yX10_submit wsX10_submit ({ frames := 2, cells := 0, slots := 0, locals := 46 }) (va_Pc [.ref w0, .int i] (Wd D cA sa [(w0, .inr (11, [.ref v0, .ref v1, .ref v2, .ref v3, .ref v4, .long 0, .long 0, .int 0, .int th, .ref v9, .int 0, .int 0, .int (-1), .ref v13, .int 0, .int 0, .int 0, .int 0, .int 0, .int 0, .int 0, .int 0, .int 0, .int 0, .int 0, .long 0, .int 0, .ref v27, .ref v28, .ref v29, .ref v30, .ref v31, .ref v32, .ref v33, .ref v34, .ref v35, .ref v36, .ref v37, .int 0])), (v0, .inl (cA 0, 326, .inl fs))] sz)) (va_Qi (fun (r : Int32) (_ : Unit) => r = 0) (fun (_ : Unit) t => Wq D (va_A [(w0, .inr (11, [.ref v0, .ref v1, .ref v2, .ref v3, .ref v4, .long 0, .long 0, .int 0, .int th, .ref v9, .int 0, .int 0, .int (-1), .ref v13, .int 0, .int 0, .int 0, .int 0, .int 0, .int 0, .int 0, .int 0, .int 0, .int 0, .int 0, .long 0, .int 0, .ref v27, .ref v28, .ref v29, .ref v30, .ref v31, .ref v32, .ref v33, .ref v34, .ref v35, .ref v36, .ref v37, .int 0])), (v0, .inl (cA 0, 326, .inl fs))] sz) [(w0, .inr (11, [.ref v0, .ref v1, .ref v2, .ref v3, .ref v4, .long 0, .long 0, .int 0, .int 1, .ref v9, .int 0, .int 0, .int (-1), .ref v13, .int 0, .int 0, .int 0, .int 0, .int 0, .int 0, .int 0, .int 0, .int 0, .int 0, .int 0, .long 0, .int 0, .ref v27, .ref v28, .ref v29, .ref v30, .ref v31, .ref v32, .ref v33, .ref v34, .ref v35, .ref v36, .ref v37, .int 0]))] t) (va_A [(w0, .inr (11, [.ref v0, .ref v1, .ref v2, .ref v3, .ref v4, .long 0, .long 0, .int 0, .int th, .ref v9, .int 0, .int 0, .int (-1), .ref v13, .int 0, .int 0, .int 0, .int 0, .int 0, .int 0, .int 0, .int 0, .int 0, .int 0, .int 0, .long 0, .int 0, .ref v27, .ref v28, .ref v29, .ref v30, .ref v31, .ref v32, .ref v33, .ref v34, .ref v35, .ref v36, .ref v37, .int 0])), (v0, .inl (cA 0, 326, .inl fs))] sz)) 0 0 (va_A [(w0, .inr (11, [.ref v0, .ref v1, .ref v2, .ref v3, .ref v4, .long 0, .long 0, .int 0, .int th, .ref v9, .int 0, .int 0, .int (-1), .ref v13, .int 0, .int 0, .int 0, .int 0, .int 0, .int 0, .int 0, .int 0, .int 0, .int 0, .int 0, .long 0, .int 0, .ref v27, .ref v28, .ref v29, .ref v30, .ref v31, .ref v32, .ref v33, .ref v34, .ref v35, .ref v36, .ref v37, .int 0])), (v0, .inl (cA 0, 326, .inl fs))] sz) := by
  refine Met.ofW (cc := cX10_submit) (maxL := 3) (ret := (some .boolean)) (by decide) rfl ?_
  intro p e s m args below meth c s₁ B hml hv
  obtain ⟨rfl, hsz, hP, hK, hD0, hC, hZ⟩ := hv
  have hx := B.exec
  have hb := B.bytes
  have hr := B.returns
  have hts := atoms_spec (ws := wsX10_submit) B.pre
  have hown : s.vm.findClass RX10 = some m.cls := findClass_of_methodNamed B.named
  have hlocks := B.notSynchronized
  subst hsz
  have hD := hD0.self (sz := s.heap.size)
  generalize hAe : va_A [(w0, .inr (11, [.ref v0, .ref v1, .ref v2, .ref v3, .ref v4, .long 0, .long 0, .int 0, .int th, .ref v9, .int 0, .int 0, .int (-1), .ref v13, .int 0, .int 0, .int 0, .int 0, .int 0, .int 0, .int 0, .int 0, .int 0, .int 0, .int 0, .long 0, .int 0, .ref v27, .ref v28, .ref v29, .ref v30, .ref v31, .ref v32, .ref v33, .ref v34, .ref v35, .ref v36, .ref v37, .int 0])), (v0, .inl (cA 0, 326, .inl fs))] s.heap.size = A at hD hZ ⊢
  have hA : ∀ q : Nat, s.heap.size ≤ q → A q := fun q h => by rw [← hAe]; exact Or.inr h
  have hS : va_S A s.heap s.heap [] := va_S.rf
  have hP : va_P D vwCl [(w0, .inr (11, [.ref v0, .ref v1, .ref v2, .ref v3, .ref v4, .long 0, .long 0, .int 0, .int th, .ref v9, .int 0, .int 0, .int (-1), .ref v13, .int 0, .int 0, .int 0, .int 0, .int 0, .int 0, .int 0, .int 0, .int 0, .int 0, .int 0, .long 0, .int 0, .ref v27, .ref v28, .ref v29, .ref v30, .ref v31, .ref v32, .ref v33, .ref v34, .ref v35, .ref v36, .ref v37, .int 0])), (v0, .inl (cA 0, 326, .inl fs))] s.heap := hP
  have hl := lv_entry ([.ref w0, .int i]) (n := 3) (Nat.le_of_ble_eq_true rfl)
  rw [lg_entry_eq]
  generalize (lg_sl ([.ref w0, .int i]) ++ List.replicate (3 - (lg_sl ([.ref w0, .int i])).length) Slot.unset).toArray = ls at hl ⊢
  have hl : lv_has ls 3 [(0, .ref w0), (1, .int i)] := hl
  refine lv_aload_n hx hb dX10_submit_0 rfl (lv_at hl 0 rfl) ?_
  refine lv_aload_n hx hb dX10_submit_1 rfl (lv_at hl 0 rfl) ?_
  refine lv_iload_n hx hb dX10_submit_2 rfl (lv_at hl 1 rfl) ?_
  have hPc := hP.sub (ws' := [(w0, .inr (11, [.ref v0, .ref v1, .ref v2, .ref v3, .ref v4, .long 0, .long 0, .int 0, .int th, .ref v9, .int 0, .int 0, .int (-1), .ref v13, .int 0, .int 0, .int 0, .int 0, .int 0, .int 0, .int 0, .int 0, .int 0, .int 0, .int 0, .long 0, .int 0, .ref v27, .ref v28, .ref v29, .ref v30, .ref v31, .ref v32, .ref v33, .ref v34, .ref v35, .ref v36, .ref v37, .int 0])), (v0, .inl (cA 0, 326, .inl fs))]) [0, 1] rfl
  have hDc := hD.sub (ws' := [(w0, .inr (11, [.ref v0, .ref v1, .ref v2, .ref v3, .ref v4, .long 0, .long 0, .int 0, .int th, .ref v9, .int 0, .int 0, .int (-1), .ref v13, .int 0, .int 0, .int 0, .int 0, .int 0, .int 0, .int 0, .int 0, .int 0, .int 0, .int 0, .long 0, .int 0, .ref v27, .ref v28, .ref v29, .ref v30, .ref v31, .ref v32, .ref v33, .ref v34, .ref v35, .ref v36, .ref v37, .int 0])), (v0, .inl (cA 0, 326, .inl fs))]) [0, 1] (by decide) rfl
  have hFc := va_free (wc := [(w0, .inr (11, [.ref v0, .ref v1, .ref v2, .ref v3, .ref v4, .long 0, .long 0, .int 0, .int th, .ref v9, .int 0, .int 0, .int (-1), .ref v13, .int 0, .int 0, .int 0, .int 0, .int 0, .int 0, .int 0, .int 0, .int 0, .int 0, .int 0, .long 0, .int 0, .ref v27, .ref v28, .ref v29, .ref v30, .ref v31, .ref v32, .ref v33, .ref v34, .ref v35, .ref v36, .ref v37, .int 0])), (v0, .inl (cA 0, 326, .inl fs))]) hD hS hA [0, 1] rfl
  refine va_calli (va_runV (As := [.int i]) (rest := [.ref w0]) ⟨hx, hb, hml, hown, hts⟩ (c_m_isProof l D cA sa w0 v0 v1 v2 v3 v4 v9 v13 v27 v28 v29 v30 v31 v32 v33 v34 v35 v36 v37 th fs i s.heap.size hz) (cwV 1 hts gX10_submit_X10_isProof rfl rfl rfl (by decide +kernel) ⟨(Nat.le_of_ble_eq_true rfl), (Nat.le_of_ble_eq_true rfl)⟩) ⟨Wd.blind, va_recv hK hPc (ci := 11) (q0 := 0) rfl rfl, fun U hU hW => ⟨rfl, Wd.call hPc hDc hK hC hZ hS hFc U hU hW⟩⟩ rfl rfl hl.1 rfl (lv_room (Nat.le_of_ble_eq_true rfl)) dX10_submit_3 ⟨(Nat.le_of_ble_eq_true rfl), (Nat.le_of_ble_eq_true rfl)⟩) hS (fun q _ h => hFc q h) hFc (fun rn1 u t H1 locs ht hvm hw hB hz1 hk1 hS => ?_)
  obtain ⟨hP1, hD1⟩ := hB
  rw [ht] at hP1
  obtain ⟨hP, hD⟩ := va_join (wr := []) (w1 := [(w0, .inr (11, [.ref v0, .ref v1, .ref v2, .ref v3, .ref v4, .long 0, .long 0, .int 0, .int th, .ref v9, .int 0, .int 0, .int (-1), .ref v13, .int 0, .int 0, .int 0, .int 0, .int 0, .int 0, .int 0, .int 0, .int 0, .int 0, .int 0, .long 0, .int 0, .ref v27, .ref v28, .ref v29, .ref v30, .ref v31, .ref v32, .ref v33, .ref v34, .ref v35, .ref v36, .ref v37, .int 0])), (v0, .inl (cA 0, 326, .inl fs))]) hP hD [0, 1] [] rfl rfl (by decide) (by decide) hk1 hFc hP1 hD1
  generalize H1 = H at hP hS ⊢
  have hP : va_P D vwCl [(w0, .inr (11, [.ref v0, .ref v1, .ref v2, .ref v3, .ref v4, .long 0, .long 0, .int 0, .int th, .ref v9, .int 0, .int 0, .int (-1), .ref v13, .int 0, .int 0, .int 0, .int 0, .int 0, .int 0, .int 0, .int 0, .int 0, .int 0, .int 0, .long 0, .int 0, .ref v27, .ref v28, .ref v29, .ref v30, .ref v31, .ref v32, .ref v33, .ref v34, .ref v35, .ref v36, .ref v37, .int 0])), (v0, .inl (cA 0, 326, .inl fs))] H := hP
  have hD : va_D A [(w0, .inr (11, [.ref v0, .ref v1, .ref v2, .ref v3, .ref v4, .long 0, .long 0, .int 0, .int th, .ref v9, .int 0, .int 0, .int (-1), .ref v13, .int 0, .int 0, .int 0, .int 0, .int 0, .int 0, .int 0, .int 0, .int 0, .int 0, .int 0, .long 0, .int 0, .ref v27, .ref v28, .ref v29, .ref v30, .ref v31, .ref v32, .ref v33, .ref v34, .ref v35, .ref v36, .ref v37, .int 0])), (v0, .inl (cA 0, 326, .inl fs))] := hD
  obtain rfl : rn1 = 0 := hw
  have hPc := hP.sub (ws' := [(w0, .inr (11, [.ref v0, .ref v1, .ref v2, .ref v3, .ref v4, .long 0, .long 0, .int 0, .int th, .ref v9, .int 0, .int 0, .int (-1), .ref v13, .int 0, .int 0, .int 0, .int 0, .int 0, .int 0, .int 0, .int 0, .int 0, .int 0, .int 0, .long 0, .int 0, .ref v27, .ref v28, .ref v29, .ref v30, .ref v31, .ref v32, .ref v33, .ref v34, .ref v35, .ref v36, .ref v37, .int 0]))]) [0] rfl
  have hDc := hD.sub (ws' := [(w0, .inr (11, [.ref v0, .ref v1, .ref v2, .ref v3, .ref v4, .long 0, .long 0, .int 0, .int th, .ref v9, .int 0, .int 0, .int (-1), .ref v13, .int 0, .int 0, .int 0, .int 0, .int 0, .int 0, .int 0, .int 0, .int 0, .int 0, .int 0, .long 0, .int 0, .ref v27, .ref v28, .ref v29, .ref v30, .ref v31, .ref v32, .ref v33, .ref v34, .ref v35, .ref v36, .ref v37, .int 0]))]) [0] (by decide) rfl
  have hFc := va_free (wc := [(w0, .inr (11, [.ref v0, .ref v1, .ref v2, .ref v3, .ref v4, .long 0, .long 0, .int 0, .int th, .ref v9, .int 0, .int 0, .int (-1), .ref v13, .int 0, .int 0, .int 0, .int 0, .int 0, .int 0, .int 0, .int 0, .int 0, .int 0, .int 0, .long 0, .int 0, .ref v27, .ref v28, .ref v29, .ref v30, .ref v31, .ref v32, .ref v33, .ref v34, .ref v35, .ref v36, .ref v37, .int 0]))]) hD hS hA [0] rfl
  refine va_calli (va_runV (As := [.int 0]) (rest := []) ⟨hx, hb, hml, hown, hts⟩ (c_m_good_0 l D cA sa w0 v0 v1 v2 v3 v4 v9 v13 v27 v28 v29 v30 v31 v32 v33 v34 v35 v36 v37 th H.size) (cwV 1 hts gX10_submit_X10_good rfl rfl rfl (by decide +kernel) ⟨(Nat.le_of_ble_eq_true rfl), (Nat.le_of_ble_eq_true rfl)⟩) ⟨Wd.blind, va_recv hK hPc (ci := 11) (q0 := 0) rfl rfl, fun U hU hW => ⟨rfl, Wd.call hPc hDc hK hC hZ hS hFc U hU hW⟩⟩ rfl rfl hl.1 rfl (lv_room (Nat.le_of_ble_eq_true rfl)) dX10_submit_6 ⟨(Nat.le_of_ble_eq_true rfl), (Nat.le_of_ble_eq_true rfl)⟩) hS (fun q _ h => hFc q h) hFc (fun rn2 u t H1 locs ht hvm hw hB hz1 hk1 hS => ?_)
  obtain ⟨hP1, hD1⟩ := hB
  rw [ht] at hP1
  obtain ⟨hP, hD⟩ := va_join (wr := [(v0, .inl (cA 0, 326, .inl fs))]) (w1 := [(w0, .inr (11, [.ref v0, .ref v1, .ref v2, .ref v3, .ref v4, .long 0, .long 0, .int 0, .int 1, .ref v9, .int 0, .int 0, .int (-1), .ref v13, .int 0, .int 0, .int 0, .int 0, .int 0, .int 0, .int 0, .int 0, .int 0, .int 0, .int 0, .long 0, .int 0, .ref v27, .ref v28, .ref v29, .ref v30, .ref v31, .ref v32, .ref v33, .ref v34, .ref v35, .ref v36, .ref v37, .int 0]))]) hP hD [0] [1] rfl rfl (by decide) (by decide) hk1 hFc hP1 hD1
  generalize H1 = H at hP hS ⊢
  have hP : va_P D vwCl [(v0, .inl (cA 0, 326, .inl fs)), (w0, .inr (11, [.ref v0, .ref v1, .ref v2, .ref v3, .ref v4, .long 0, .long 0, .int 0, .int 1, .ref v9, .int 0, .int 0, .int (-1), .ref v13, .int 0, .int 0, .int 0, .int 0, .int 0, .int 0, .int 0, .int 0, .int 0, .int 0, .int 0, .long 0, .int 0, .ref v27, .ref v28, .ref v29, .ref v30, .ref v31, .ref v32, .ref v33, .ref v34, .ref v35, .ref v36, .ref v37, .int 0]))] H := hP
  have hD : va_D A [(v0, .inl (cA 0, 326, .inl fs)), (w0, .inr (11, [.ref v0, .ref v1, .ref v2, .ref v3, .ref v4, .long 0, .long 0, .int 0, .int 1, .ref v9, .int 0, .int 0, .int (-1), .ref v13, .int 0, .int 0, .int 0, .int 0, .int 0, .int 0, .int 0, .int 0, .int 0, .int 0, .int 0, .long 0, .int 0, .ref v27, .ref v28, .ref v29, .ref v30, .ref v31, .ref v32, .ref v33, .ref v34, .ref v35, .ref v36, .ref v37, .int 0]))] := hD
  obtain rfl : rn2 = 0 := hw
  refine lv_if_ne (tgt := 14) hx hb dX10_submit_9 (by decide) (fun c9 => absurd c9 (by decide)) (fun c3 => ?_)
  refine lv_iconst (v := 0) hx hb dX10_submit_12 (by decide) ?_
  have hP9 := hP.sub (ws' := [(w0, .inr (11, [.ref v0, .ref v1, .ref v2, .ref v3, .ref v4, .long 0, .long 0, .int 0, .int 1, .ref v9, .int 0, .int 0, .int (-1), .ref v13, .int 0, .int 0, .int 0, .int 0, .int 0, .int 0, .int 0, .int 0, .int 0, .int 0, .int 0, .long 0, .int 0, .ref v27, .ref v28, .ref v29, .ref v30, .ref v31, .ref v32, .ref v33, .ref v34, .ref v35, .ref v36, .ref v37, .int 0]))]) [1] rfl
  have hD9 := hD.sub (ws' := [(w0, .inr (11, [.ref v0, .ref v1, .ref v2, .ref v3, .ref v4, .long 0, .long 0, .int 0, .int 1, .ref v9, .int 0, .int 0, .int (-1), .ref v13, .int 0, .int 0, .int 0, .int 0, .int 0, .int 0, .int 0, .int 0, .int 0, .int 0, .int 0, .long 0, .int 0, .ref v27, .ref v28, .ref v29, .ref v30, .ref v31, .ref v32, .ref v33, .ref v34, .ref v35, .ref v36, .ref v37, .int 0]))]) [1] (by decide) rfl
  refine W.widen (k := 0) (n := 0) (Nat.le_of_ble_eq_true rfl) (Nat.le_of_ble_eq_true rfl) ?_
  exact W.zret (v := 0) hx hb hr (by first | rfl | decide) (fun t ht hW => ⟨⟨0, (), rfl, rfl, by rw [ht]; exact hP9, hD9⟩, hS.F ht⟩) hS.2.2 dX10_submit_13

set_option maxHeartbeats 4000000 in
set_option maxRecDepth 100000 in
/-- isTrial: yes or no -/
theorem c_m_isTrial_a (l : Launch) (D : va_G) (cA : Nat → ClassId) (sa : Nat → Nat) (i : Int32) (sz : Nat) : Met l yX10_isTrial wsX10_isTrial ({ frames := 1, cells := 0, slots := 0, locals := 25 }) (va_Pc [.int i] (Wd D cA sa [] sz)) (va_Qi (fun (r : Int32) (_ : Unit) => r = 0 ∨ r = 1) (fun (_ : Unit) t => Wq D (va_A [] sz) [] t) (va_A [] sz)) 0 0 (va_A [] sz) := by
  refine Met.ofW (cc := cX10_isTrial) (maxL := 1) (ret := (some .boolean)) (by decide) rfl ?_
  intro p e s m args below meth c s₁ B hml hv
  obtain ⟨rfl, hsz, hP, hK, hD0, hC, hZ⟩ := hv
  have hx := B.exec
  have hb := B.bytes
  have hr := B.returns
  have hts := atoms_spec (ws := wsX10_isTrial) B.pre
  have hown : s.vm.findClass RX10 = some m.cls := findClass_of_methodNamed B.named
  have hlocks := B.notSynchronized
  subst hsz
  have hD := hD0.self (sz := s.heap.size)
  generalize hAe : va_A [] s.heap.size = A at hD hZ ⊢
  have hA : ∀ q : Nat, s.heap.size ≤ q → A q := fun q h => by rw [← hAe]; exact Or.inr h
  have hS : va_S A s.heap s.heap [] := va_S.rf
  have hP : va_P D vwCl [] s.heap := hP
  have hl := lv_entry ([.int i]) (n := 1) (Nat.le_of_ble_eq_true rfl)
  rw [lg_entry_eq]
  generalize (lg_sl ([.int i]) ++ List.replicate (1 - (lg_sl ([.int i])).length) Slot.unset).toArray = ls at hl ⊢
  have hl : lv_has ls 1 [(0, .int i)] := hl
  refine lv_iload_n hx hb dX10_isTrial_0 rfl (lv_at hl 0 rfl) ?_
  refine lv_i2l (v := (i.toInt64)) hx hb dX10_isTrial_1 rfl ?_
  refine lv_lconst (v := 1) hx hb dX10_isTrial_2 (by decide) ?_
  refine lv_ldc2 (v := 120) hx hb hown (hts (.constantLong RX10 361 120) (by decide +kernel)) dX10_isTrial_3 ?_
  have hPc := hP.sub (ws' := []) [] rfl
  have hDc := hD.sub (ws' := []) [] (by decide) rfl
  have hFc := va_free (wc := []) hD hS hA [] rfl
  refine va_calli (va_runS (As := [.long (i.toInt64), .long 1, .long 120]) (rest := []) ⟨hx, hb, hml, hown, hts⟩ (c_btw_a l D cA sa (i.toInt64) 1 120 s.heap.size) (va_cwS 3 hts gX10_isTrial_X10_between rfl rfl rfl (by decide +kernel) ⟨(Nat.le_of_ble_eq_true rfl), (Nat.le_of_ble_eq_true rfl)⟩) ⟨Wd.blind, fun U hU hW => ⟨rfl, Wd.call hPc hDc hK hC hZ hS hFc U hU hW⟩⟩ rfl rfl hl.1 rfl (lv_room (Nat.le_of_ble_eq_true rfl)) dX10_isTrial_6 ⟨(Nat.le_of_ble_eq_true rfl), (Nat.le_of_ble_eq_true rfl)⟩) hS (fun q _ h => hFc q h) hFc (fun rn1 u t H1 locs ht hvm hw hB hz1 hk1 hS => ?_)
  obtain ⟨hP1, hD1⟩ := hB
  rw [ht] at hP1
  obtain ⟨hP, hD⟩ := va_join (wr := []) (w1 := []) hP hD [] [] rfl rfl (by decide) (by decide) hk1 hFc hP1 hD1
  generalize H1 = H at hP hS ⊢
  have hP : va_P D vwCl [] H := hP
  have hD : va_D A [] := hD
  have hP9 := hP.sub (ws' := []) [] rfl
  have hD9 := hD.sub (ws' := []) [] (by decide) rfl
  refine W.widen (k := 0) (n := 0) (Nat.le_of_ble_eq_true rfl) (Nat.le_of_ble_eq_true rfl) ?_
  exact W.zret (v := rn1) hx hb hr (by rcases hw with h9 | h9 <;> rw [h9] <;> rfl) (fun t ht hW => ⟨⟨rn1, (), rfl, hw, by rw [ht]; exact hP9, hD9⟩, hS.F ht⟩) hS.2.2 dX10_isTrial_9

set_option maxHeartbeats 4000000 in
set_option maxRecDepth 100000 in
/-- isTrial: yes -/
theorem c_m_isTrial_t (l : Launch) (D : va_G) (cA : Nat → ClassId) (sa : Nat → Nat) (i : Int32) (sz : Nat) (h1 : ¬ i < 1) (h2 : ¬ 120 < i) : Met l yX10_isTrial wsX10_isTrial ({ frames := 1, cells := 0, slots := 0, locals := 25 }) (va_Pc [.int i] (Wd D cA sa [] sz)) (va_Qi (fun (r : Int32) (_ : Unit) => r = 1) (fun (_ : Unit) t => Wq D (va_A [] sz) [] t) (va_A [] sz)) 0 0 (va_A [] sz) := by
  refine Met.ofW (cc := cX10_isTrial) (maxL := 1) (ret := (some .boolean)) (by decide) rfl ?_
  intro p e s m args below meth c s₁ B hml hv
  obtain ⟨rfl, hsz, hP, hK, hD0, hC, hZ⟩ := hv
  have hx := B.exec
  have hb := B.bytes
  have hr := B.returns
  have hts := atoms_spec (ws := wsX10_isTrial) B.pre
  have hown : s.vm.findClass RX10 = some m.cls := findClass_of_methodNamed B.named
  have hlocks := B.notSynchronized
  subst hsz
  have hD := hD0.self (sz := s.heap.size)
  generalize hAe : va_A [] s.heap.size = A at hD hZ ⊢
  have hA : ∀ q : Nat, s.heap.size ≤ q → A q := fun q h => by rw [← hAe]; exact Or.inr h
  have hS : va_S A s.heap s.heap [] := va_S.rf
  have hP : va_P D vwCl [] s.heap := hP
  have hl := lv_entry ([.int i]) (n := 1) (Nat.le_of_ble_eq_true rfl)
  rw [lg_entry_eq]
  generalize (lg_sl ([.int i]) ++ List.replicate (1 - (lg_sl ([.int i])).length) Slot.unset).toArray = ls at hl ⊢
  have hl : lv_has ls 1 [(0, .int i)] := hl
  refine lv_iload_n hx hb dX10_isTrial_0 rfl (lv_at hl 0 rfl) ?_
  refine lv_i2l (v := (i.toInt64)) hx hb dX10_isTrial_1 rfl ?_
  refine lv_lconst (v := 1) hx hb dX10_isTrial_2 (by decide) ?_
  refine lv_ldc2 (v := 120) hx hb hown (hts (.constantLong RX10 361 120) (by decide +kernel)) dX10_isTrial_3 ?_
  have hPc := hP.sub (ws' := []) [] rfl
  have hDc := hD.sub (ws' := []) [] (by decide) rfl
  have hFc := va_free (wc := []) hD hS hA [] rfl
  refine va_calli (va_runS (As := [.long (i.toInt64), .long 1, .long 120]) (rest := []) ⟨hx, hb, hml, hown, hts⟩ (c_btw_t l D cA sa (i.toInt64) 1 120 s.heap.size (in_l (by decide) (by decide) h1 h2)) (va_cwS 3 hts gX10_isTrial_X10_between rfl rfl rfl (by decide +kernel) ⟨(Nat.le_of_ble_eq_true rfl), (Nat.le_of_ble_eq_true rfl)⟩) ⟨Wd.blind, fun U hU hW => ⟨rfl, Wd.call hPc hDc hK hC hZ hS hFc U hU hW⟩⟩ rfl rfl hl.1 rfl (lv_room (Nat.le_of_ble_eq_true rfl)) dX10_isTrial_6 ⟨(Nat.le_of_ble_eq_true rfl), (Nat.le_of_ble_eq_true rfl)⟩) hS (fun q _ h => hFc q h) hFc (fun rn1 u t H1 locs ht hvm hw hB hz1 hk1 hS => ?_)
  obtain ⟨hP1, hD1⟩ := hB
  rw [ht] at hP1
  obtain ⟨hP, hD⟩ := va_join (wr := []) (w1 := []) hP hD [] [] rfl rfl (by decide) (by decide) hk1 hFc hP1 hD1
  generalize H1 = H at hP hS ⊢
  have hP : va_P D vwCl [] H := hP
  have hD : va_D A [] := hD
  obtain rfl : rn1 = 1 := hw
  have hP9 := hP.sub (ws' := []) [] rfl
  have hD9 := hD.sub (ws' := []) [] (by decide) rfl
  refine W.widen (k := 0) (n := 0) (Nat.le_of_ble_eq_true rfl) (Nat.le_of_ble_eq_true rfl) ?_
  exact W.zret (v := 1) hx hb hr (by first | rfl | decide) (fun t ht hW => ⟨⟨1, (), rfl, rfl, by rw [ht]; exact hP9, hD9⟩, hS.F ht⟩) hS.2.2 dX10_isTrial_9

set_option maxHeartbeats 4000000 in
set_option maxRecDepth 100000 in
/-- isTrial: no -/
theorem c_m_isTrial_f (l : Launch) (D : va_G) (cA : Nat → ClassId) (sa : Nat → Nat) (i : Int32) (sz : Nat) (h : i < 1 ∨ 120 < i) : Met l yX10_isTrial wsX10_isTrial ({ frames := 1, cells := 0, slots := 0, locals := 25 }) (va_Pc [.int i] (Wd D cA sa [] sz)) (va_Qi (fun (r : Int32) (_ : Unit) => r = 0) (fun (_ : Unit) t => Wq D (va_A [] sz) [] t) (va_A [] sz)) 0 0 (va_A [] sz) := by
  refine Met.ofW (cc := cX10_isTrial) (maxL := 1) (ret := (some .boolean)) (by decide) rfl ?_
  intro p e s m args below meth c s₁ B hml hv
  obtain ⟨rfl, hsz, hP, hK, hD0, hC, hZ⟩ := hv
  have hx := B.exec
  have hb := B.bytes
  have hr := B.returns
  have hts := atoms_spec (ws := wsX10_isTrial) B.pre
  have hown : s.vm.findClass RX10 = some m.cls := findClass_of_methodNamed B.named
  have hlocks := B.notSynchronized
  subst hsz
  have hD := hD0.self (sz := s.heap.size)
  generalize hAe : va_A [] s.heap.size = A at hD hZ ⊢
  have hA : ∀ q : Nat, s.heap.size ≤ q → A q := fun q h => by rw [← hAe]; exact Or.inr h
  have hS : va_S A s.heap s.heap [] := va_S.rf
  have hP : va_P D vwCl [] s.heap := hP
  have hl := lv_entry ([.int i]) (n := 1) (Nat.le_of_ble_eq_true rfl)
  rw [lg_entry_eq]
  generalize (lg_sl ([.int i]) ++ List.replicate (1 - (lg_sl ([.int i])).length) Slot.unset).toArray = ls at hl ⊢
  have hl : lv_has ls 1 [(0, .int i)] := hl
  refine lv_iload_n hx hb dX10_isTrial_0 rfl (lv_at hl 0 rfl) ?_
  refine lv_i2l (v := (i.toInt64)) hx hb dX10_isTrial_1 rfl ?_
  refine lv_lconst (v := 1) hx hb dX10_isTrial_2 (by decide) ?_
  refine lv_ldc2 (v := 120) hx hb hown (hts (.constantLong RX10 361 120) (by decide +kernel)) dX10_isTrial_3 ?_
  have hPc := hP.sub (ws' := []) [] rfl
  have hDc := hD.sub (ws' := []) [] (by decide) rfl
  have hFc := va_free (wc := []) hD hS hA [] rfl
  refine va_calli (va_runS (As := [.long (i.toInt64), .long 1, .long 120]) (rest := []) ⟨hx, hb, hml, hown, hts⟩ (c_btw_f l D cA sa (i.toInt64) 1 120 s.heap.size (out_l (by decide) (by decide) h)) (va_cwS 3 hts gX10_isTrial_X10_between rfl rfl rfl (by decide +kernel) ⟨(Nat.le_of_ble_eq_true rfl), (Nat.le_of_ble_eq_true rfl)⟩) ⟨Wd.blind, fun U hU hW => ⟨rfl, Wd.call hPc hDc hK hC hZ hS hFc U hU hW⟩⟩ rfl rfl hl.1 rfl (lv_room (Nat.le_of_ble_eq_true rfl)) dX10_isTrial_6 ⟨(Nat.le_of_ble_eq_true rfl), (Nat.le_of_ble_eq_true rfl)⟩) hS (fun q _ h => hFc q h) hFc (fun rn1 u t H1 locs ht hvm hw hB hz1 hk1 hS => ?_)
  obtain ⟨hP1, hD1⟩ := hB
  rw [ht] at hP1
  obtain ⟨hP, hD⟩ := va_join (wr := []) (w1 := []) hP hD [] [] rfl rfl (by decide) (by decide) hk1 hFc hP1 hD1
  generalize H1 = H at hP hS ⊢
  have hP : va_P D vwCl [] H := hP
  have hD : va_D A [] := hD
  obtain rfl : rn1 = 0 := hw
  have hP9 := hP.sub (ws' := []) [] rfl
  have hD9 := hD.sub (ws' := []) [] (by decide) rfl
  refine W.widen (k := 0) (n := 0) (Nat.le_of_ble_eq_true rfl) (Nat.le_of_ble_eq_true rfl) ?_
  exact W.zret (v := 0) hx hb hr (by first | rfl | decide) (fun t ht hW => ⟨⟨0, (), rfl, rfl, by rw [ht]; exact hP9, hD9⟩, hS.F ht⟩) hS.2.2 dX10_isTrial_9

set_option maxHeartbeats 4000000 in
set_option maxRecDepth 100000 in
/-- isShare: yes or no -/
theorem c_m_isShare_a (l : Launch) (D : va_G) (cA : Nat → ClassId) (sa : Nat → Nat) (i : Int32) (sz : Nat) : Met l yX10_isShare wsX10_isShare ({ frames := 1, cells := 0, slots := 0, locals := 25 }) (va_Pc [.int i] (Wd D cA sa [] sz)) (va_Qi (fun (r : Int32) (_ : Unit) => r = 0 ∨ r = 1) (fun (_ : Unit) t => Wq D (va_A [] sz) [] t) (va_A [] sz)) 0 0 (va_A [] sz) := by
  refine Met.ofW (cc := cX10_isShare) (maxL := 1) (ret := (some .boolean)) (by decide) rfl ?_
  intro p e s m args below meth c s₁ B hml hv
  obtain ⟨rfl, hsz, hP, hK, hD0, hC, hZ⟩ := hv
  have hx := B.exec
  have hb := B.bytes
  have hr := B.returns
  have hts := atoms_spec (ws := wsX10_isShare) B.pre
  have hown : s.vm.findClass RX10 = some m.cls := findClass_of_methodNamed B.named
  have hlocks := B.notSynchronized
  subst hsz
  have hD := hD0.self (sz := s.heap.size)
  generalize hAe : va_A [] s.heap.size = A at hD hZ ⊢
  have hA : ∀ q : Nat, s.heap.size ≤ q → A q := fun q h => by rw [← hAe]; exact Or.inr h
  have hS : va_S A s.heap s.heap [] := va_S.rf
  have hP : va_P D vwCl [] s.heap := hP
  have hl := lv_entry ([.int i]) (n := 1) (Nat.le_of_ble_eq_true rfl)
  rw [lg_entry_eq]
  generalize (lg_sl ([.int i]) ++ List.replicate (1 - (lg_sl ([.int i])).length) Slot.unset).toArray = ls at hl ⊢
  have hl : lv_has ls 1 [(0, .int i)] := hl
  refine lv_iload_n hx hb dX10_isShare_0 rfl (lv_at hl 0 rfl) ?_
  refine lv_i2l (v := (i.toInt64)) hx hb dX10_isShare_1 rfl ?_
  refine lv_lconst (v := 0) hx hb dX10_isShare_2 (by decide) ?_
  refine lv_ldc2 (v := 1000) hx hb hown (hts (.constantLong RX10 343 1000) (by decide +kernel)) dX10_isShare_3 ?_
  have hPc := hP.sub (ws' := []) [] rfl
  have hDc := hD.sub (ws' := []) [] (by decide) rfl
  have hFc := va_free (wc := []) hD hS hA [] rfl
  refine va_calli (va_runS (As := [.long (i.toInt64), .long 0, .long 1000]) (rest := []) ⟨hx, hb, hml, hown, hts⟩ (c_btw_a l D cA sa (i.toInt64) 0 1000 s.heap.size) (va_cwS 3 hts gX10_isShare_X10_between rfl rfl rfl (by decide +kernel) ⟨(Nat.le_of_ble_eq_true rfl), (Nat.le_of_ble_eq_true rfl)⟩) ⟨Wd.blind, fun U hU hW => ⟨rfl, Wd.call hPc hDc hK hC hZ hS hFc U hU hW⟩⟩ rfl rfl hl.1 rfl (lv_room (Nat.le_of_ble_eq_true rfl)) dX10_isShare_6 ⟨(Nat.le_of_ble_eq_true rfl), (Nat.le_of_ble_eq_true rfl)⟩) hS (fun q _ h => hFc q h) hFc (fun rn1 u t H1 locs ht hvm hw hB hz1 hk1 hS => ?_)
  obtain ⟨hP1, hD1⟩ := hB
  rw [ht] at hP1
  obtain ⟨hP, hD⟩ := va_join (wr := []) (w1 := []) hP hD [] [] rfl rfl (by decide) (by decide) hk1 hFc hP1 hD1
  generalize H1 = H at hP hS ⊢
  have hP : va_P D vwCl [] H := hP
  have hD : va_D A [] := hD
  have hP9 := hP.sub (ws' := []) [] rfl
  have hD9 := hD.sub (ws' := []) [] (by decide) rfl
  refine W.widen (k := 0) (n := 0) (Nat.le_of_ble_eq_true rfl) (Nat.le_of_ble_eq_true rfl) ?_
  exact W.zret (v := rn1) hx hb hr (by rcases hw with h9 | h9 <;> rw [h9] <;> rfl) (fun t ht hW => ⟨⟨rn1, (), rfl, hw, by rw [ht]; exact hP9, hD9⟩, hS.F ht⟩) hS.2.2 dX10_isShare_9

set_option maxHeartbeats 4000000 in
set_option maxRecDepth 100000 in
/-- isShare: yes -/
theorem c_m_isShare_t (l : Launch) (D : va_G) (cA : Nat → ClassId) (sa : Nat → Nat) (i : Int32) (sz : Nat) (h1 : ¬ i < 0) (h2 : ¬ 1000 < i) : Met l yX10_isShare wsX10_isShare ({ frames := 1, cells := 0, slots := 0, locals := 25 }) (va_Pc [.int i] (Wd D cA sa [] sz)) (va_Qi (fun (r : Int32) (_ : Unit) => r = 1) (fun (_ : Unit) t => Wq D (va_A [] sz) [] t) (va_A [] sz)) 0 0 (va_A [] sz) := by
  refine Met.ofW (cc := cX10_isShare) (maxL := 1) (ret := (some .boolean)) (by decide) rfl ?_
  intro p e s m args below meth c s₁ B hml hv
  obtain ⟨rfl, hsz, hP, hK, hD0, hC, hZ⟩ := hv
  have hx := B.exec
  have hb := B.bytes
  have hr := B.returns
  have hts := atoms_spec (ws := wsX10_isShare) B.pre
  have hown : s.vm.findClass RX10 = some m.cls := findClass_of_methodNamed B.named
  have hlocks := B.notSynchronized
  subst hsz
  have hD := hD0.self (sz := s.heap.size)
  generalize hAe : va_A [] s.heap.size = A at hD hZ ⊢
  have hA : ∀ q : Nat, s.heap.size ≤ q → A q := fun q h => by rw [← hAe]; exact Or.inr h
  have hS : va_S A s.heap s.heap [] := va_S.rf
  have hP : va_P D vwCl [] s.heap := hP
  have hl := lv_entry ([.int i]) (n := 1) (Nat.le_of_ble_eq_true rfl)
  rw [lg_entry_eq]
  generalize (lg_sl ([.int i]) ++ List.replicate (1 - (lg_sl ([.int i])).length) Slot.unset).toArray = ls at hl ⊢
  have hl : lv_has ls 1 [(0, .int i)] := hl
  refine lv_iload_n hx hb dX10_isShare_0 rfl (lv_at hl 0 rfl) ?_
  refine lv_i2l (v := (i.toInt64)) hx hb dX10_isShare_1 rfl ?_
  refine lv_lconst (v := 0) hx hb dX10_isShare_2 (by decide) ?_
  refine lv_ldc2 (v := 1000) hx hb hown (hts (.constantLong RX10 343 1000) (by decide +kernel)) dX10_isShare_3 ?_
  have hPc := hP.sub (ws' := []) [] rfl
  have hDc := hD.sub (ws' := []) [] (by decide) rfl
  have hFc := va_free (wc := []) hD hS hA [] rfl
  refine va_calli (va_runS (As := [.long (i.toInt64), .long 0, .long 1000]) (rest := []) ⟨hx, hb, hml, hown, hts⟩ (c_btw_t l D cA sa (i.toInt64) 0 1000 s.heap.size (in_l (by decide) (by decide) h1 h2)) (va_cwS 3 hts gX10_isShare_X10_between rfl rfl rfl (by decide +kernel) ⟨(Nat.le_of_ble_eq_true rfl), (Nat.le_of_ble_eq_true rfl)⟩) ⟨Wd.blind, fun U hU hW => ⟨rfl, Wd.call hPc hDc hK hC hZ hS hFc U hU hW⟩⟩ rfl rfl hl.1 rfl (lv_room (Nat.le_of_ble_eq_true rfl)) dX10_isShare_6 ⟨(Nat.le_of_ble_eq_true rfl), (Nat.le_of_ble_eq_true rfl)⟩) hS (fun q _ h => hFc q h) hFc (fun rn1 u t H1 locs ht hvm hw hB hz1 hk1 hS => ?_)
  obtain ⟨hP1, hD1⟩ := hB
  rw [ht] at hP1
  obtain ⟨hP, hD⟩ := va_join (wr := []) (w1 := []) hP hD [] [] rfl rfl (by decide) (by decide) hk1 hFc hP1 hD1
  generalize H1 = H at hP hS ⊢
  have hP : va_P D vwCl [] H := hP
  have hD : va_D A [] := hD
  obtain rfl : rn1 = 1 := hw
  have hP9 := hP.sub (ws' := []) [] rfl
  have hD9 := hD.sub (ws' := []) [] (by decide) rfl
  refine W.widen (k := 0) (n := 0) (Nat.le_of_ble_eq_true rfl) (Nat.le_of_ble_eq_true rfl) ?_
  exact W.zret (v := 1) hx hb hr (by first | rfl | decide) (fun t ht hW => ⟨⟨1, (), rfl, rfl, by rw [ht]; exact hP9, hD9⟩, hS.F ht⟩) hS.2.2 dX10_isShare_9

set_option maxHeartbeats 4000000 in
set_option maxRecDepth 100000 in
/-- isShare: no -/
theorem c_m_isShare_f (l : Launch) (D : va_G) (cA : Nat → ClassId) (sa : Nat → Nat) (i : Int32) (sz : Nat) (h : i < 0 ∨ 1000 < i) : Met l yX10_isShare wsX10_isShare ({ frames := 1, cells := 0, slots := 0, locals := 25 }) (va_Pc [.int i] (Wd D cA sa [] sz)) (va_Qi (fun (r : Int32) (_ : Unit) => r = 0) (fun (_ : Unit) t => Wq D (va_A [] sz) [] t) (va_A [] sz)) 0 0 (va_A [] sz) := by
  refine Met.ofW (cc := cX10_isShare) (maxL := 1) (ret := (some .boolean)) (by decide) rfl ?_
  intro p e s m args below meth c s₁ B hml hv
  obtain ⟨rfl, hsz, hP, hK, hD0, hC, hZ⟩ := hv
  have hx := B.exec
  have hb := B.bytes
  have hr := B.returns
  have hts := atoms_spec (ws := wsX10_isShare) B.pre
  have hown : s.vm.findClass RX10 = some m.cls := findClass_of_methodNamed B.named
  have hlocks := B.notSynchronized
  subst hsz
  have hD := hD0.self (sz := s.heap.size)
  generalize hAe : va_A [] s.heap.size = A at hD hZ ⊢
  have hA : ∀ q : Nat, s.heap.size ≤ q → A q := fun q h => by rw [← hAe]; exact Or.inr h
  have hS : va_S A s.heap s.heap [] := va_S.rf
  have hP : va_P D vwCl [] s.heap := hP
  have hl := lv_entry ([.int i]) (n := 1) (Nat.le_of_ble_eq_true rfl)
  rw [lg_entry_eq]
  generalize (lg_sl ([.int i]) ++ List.replicate (1 - (lg_sl ([.int i])).length) Slot.unset).toArray = ls at hl ⊢
  have hl : lv_has ls 1 [(0, .int i)] := hl
  refine lv_iload_n hx hb dX10_isShare_0 rfl (lv_at hl 0 rfl) ?_
  refine lv_i2l (v := (i.toInt64)) hx hb dX10_isShare_1 rfl ?_
  refine lv_lconst (v := 0) hx hb dX10_isShare_2 (by decide) ?_
  refine lv_ldc2 (v := 1000) hx hb hown (hts (.constantLong RX10 343 1000) (by decide +kernel)) dX10_isShare_3 ?_
  have hPc := hP.sub (ws' := []) [] rfl
  have hDc := hD.sub (ws' := []) [] (by decide) rfl
  have hFc := va_free (wc := []) hD hS hA [] rfl
  refine va_calli (va_runS (As := [.long (i.toInt64), .long 0, .long 1000]) (rest := []) ⟨hx, hb, hml, hown, hts⟩ (c_btw_f l D cA sa (i.toInt64) 0 1000 s.heap.size (out_l (by decide) (by decide) h)) (va_cwS 3 hts gX10_isShare_X10_between rfl rfl rfl (by decide +kernel) ⟨(Nat.le_of_ble_eq_true rfl), (Nat.le_of_ble_eq_true rfl)⟩) ⟨Wd.blind, fun U hU hW => ⟨rfl, Wd.call hPc hDc hK hC hZ hS hFc U hU hW⟩⟩ rfl rfl hl.1 rfl (lv_room (Nat.le_of_ble_eq_true rfl)) dX10_isShare_6 ⟨(Nat.le_of_ble_eq_true rfl), (Nat.le_of_ble_eq_true rfl)⟩) hS (fun q _ h => hFc q h) hFc (fun rn1 u t H1 locs ht hvm hw hB hz1 hk1 hS => ?_)
  obtain ⟨hP1, hD1⟩ := hB
  rw [ht] at hP1
  obtain ⟨hP, hD⟩ := va_join (wr := []) (w1 := []) hP hD [] [] rfl rfl (by decide) (by decide) hk1 hFc hP1 hD1
  generalize H1 = H at hP hS ⊢
  have hP : va_P D vwCl [] H := hP
  have hD : va_D A [] := hD
  obtain rfl : rn1 = 0 := hw
  have hP9 := hP.sub (ws' := []) [] rfl
  have hD9 := hD.sub (ws' := []) [] (by decide) rfl
  refine W.widen (k := 0) (n := 0) (Nat.le_of_ble_eq_true rfl) (Nat.le_of_ble_eq_true rfl) ?_
  exact W.zret (v := 0) hx hb hr (by first | rfl | decide) (fun t ht hW => ⟨⟨0, (), rfl, rfl, by rw [ht]; exact hP9, hD9⟩, hS.F ht⟩) hS.2.2 dX10_isShare_9

set_option maxHeartbeats 4000000 in
set_option maxRecDepth 100000 in
/-- approve: thrown 1 -/
theorem c_m_approve (l : Launch) (D : va_G) (cA : Nat → ClassId) (sa : Nat → Nat) (w0 v0 v1 v2 v3 v4 v9 v13 v27 v28 v29 v30 v31 v32 v33 v34 v35 v36 v37 : Nat) (th : Int32) (fs : Nat → Int32) (i : Int32) (sz : Nat) (hz : Zs fs) : Met l yX10_approve wsX10_approve ({ frames := 2, cells := 0, slots := 0, locals := 46 }) (va_Pc [.ref w0, .int i] (Wd D cA sa [(w0, .inr (11, [.ref v0, .ref v1, .ref v2, .ref v3, .ref v4, .long 0, .long 0, .int 0, .int th, .ref v9, .int 0, .int 0, .int (-1), .ref v13, .int 0, .int 0, .int 0, .int 0, .int 0, .int 0, .int 0, .int 0, .int 0, .int 0, .int 0, .long 0, .int 0, .ref v27, .ref v28, .ref v29, .ref v30, .ref v31, .ref v32, .ref v33, .ref v34, .ref v35, .ref v36, .ref v37, .int 0])), (v0, .inl (cA 0, 326, .inl fs))] sz)) (va_Qi (fun (r : Int32) (_ : Unit) => r = 0) (fun (_ : Unit) t => Wq D (va_A [(w0, .inr (11, [.ref v0, .ref v1, .ref v2, .ref v3, .ref v4, .long 0, .long 0, .int 0, .int th, .ref v9, .int 0, .int 0, .int (-1), .ref v13, .int 0, .int 0, .int 0, .int 0, .int 0, .int 0, .int 0, .int 0, .int 0, .int 0, .int 0, .long 0, .int 0, .ref v27, .ref v28, .ref v29, .ref v30, .ref v31, .ref v32, .ref v33, .ref v34, .ref v35, .ref v36, .ref v37, .int 0])), (v0, .inl (cA 0, 326, .inl fs))] sz) [(w0, .inr (11, [.ref v0, .ref v1, .ref v2, .ref v3, .ref v4, .long 0, .long 0, .int 0, .int 1, .ref v9, .int 0, .int 0, .int (-1), .ref v13, .int 0, .int 0, .int 0, .int 0, .int 0, .int 0, .int 0, .int 0, .int 0, .int 0, .int 0, .long 0, .int 0, .ref v27, .ref v28, .ref v29, .ref v30, .ref v31, .ref v32, .ref v33, .ref v34, .ref v35, .ref v36, .ref v37, .int 0]))] t) (va_A [(w0, .inr (11, [.ref v0, .ref v1, .ref v2, .ref v3, .ref v4, .long 0, .long 0, .int 0, .int th, .ref v9, .int 0, .int 0, .int (-1), .ref v13, .int 0, .int 0, .int 0, .int 0, .int 0, .int 0, .int 0, .int 0, .int 0, .int 0, .int 0, .long 0, .int 0, .ref v27, .ref v28, .ref v29, .ref v30, .ref v31, .ref v32, .ref v33, .ref v34, .ref v35, .ref v36, .ref v37, .int 0])), (v0, .inl (cA 0, 326, .inl fs))] sz)) 0 0 (va_A [(w0, .inr (11, [.ref v0, .ref v1, .ref v2, .ref v3, .ref v4, .long 0, .long 0, .int 0, .int th, .ref v9, .int 0, .int 0, .int (-1), .ref v13, .int 0, .int 0, .int 0, .int 0, .int 0, .int 0, .int 0, .int 0, .int 0, .int 0, .int 0, .long 0, .int 0, .ref v27, .ref v28, .ref v29, .ref v30, .ref v31, .ref v32, .ref v33, .ref v34, .ref v35, .ref v36, .ref v37, .int 0])), (v0, .inl (cA 0, 326, .inl fs))] sz) := by
  refine Met.ofW (cc := cX10_approve) (maxL := 2) (ret := (some .boolean)) (by decide) rfl ?_
  intro p e s m args below meth c s₁ B hml hv
  obtain ⟨rfl, hsz, hP, hK, hD0, hC, hZ⟩ := hv
  have hx := B.exec
  have hb := B.bytes
  have hr := B.returns
  have hts := atoms_spec (ws := wsX10_approve) B.pre
  have hown : s.vm.findClass RX10 = some m.cls := findClass_of_methodNamed B.named
  have hlocks := B.notSynchronized
  subst hsz
  have hD := hD0.self (sz := s.heap.size)
  generalize hAe : va_A [(w0, .inr (11, [.ref v0, .ref v1, .ref v2, .ref v3, .ref v4, .long 0, .long 0, .int 0, .int th, .ref v9, .int 0, .int 0, .int (-1), .ref v13, .int 0, .int 0, .int 0, .int 0, .int 0, .int 0, .int 0, .int 0, .int 0, .int 0, .int 0, .long 0, .int 0, .ref v27, .ref v28, .ref v29, .ref v30, .ref v31, .ref v32, .ref v33, .ref v34, .ref v35, .ref v36, .ref v37, .int 0])), (v0, .inl (cA 0, 326, .inl fs))] s.heap.size = A at hD hZ ⊢
  have hA : ∀ q : Nat, s.heap.size ≤ q → A q := fun q h => by rw [← hAe]; exact Or.inr h
  have hS : va_S A s.heap s.heap [] := va_S.rf
  have hP : va_P D vwCl [(w0, .inr (11, [.ref v0, .ref v1, .ref v2, .ref v3, .ref v4, .long 0, .long 0, .int 0, .int th, .ref v9, .int 0, .int 0, .int (-1), .ref v13, .int 0, .int 0, .int 0, .int 0, .int 0, .int 0, .int 0, .int 0, .int 0, .int 0, .int 0, .long 0, .int 0, .ref v27, .ref v28, .ref v29, .ref v30, .ref v31, .ref v32, .ref v33, .ref v34, .ref v35, .ref v36, .ref v37, .int 0])), (v0, .inl (cA 0, 326, .inl fs))] s.heap := hP
  have hl := lv_entry ([.ref w0, .int i]) (n := 2) (Nat.le_of_ble_eq_true rfl)
  rw [lg_entry_eq]
  generalize (lg_sl ([.ref w0, .int i]) ++ List.replicate (2 - (lg_sl ([.ref w0, .int i])).length) Slot.unset).toArray = ls at hl ⊢
  have hl : lv_has ls 2 [(0, .ref w0), (1, .int i)] := hl
  refine lv_aload_n hx hb dX10_approve_0 rfl (lv_at hl 0 rfl) ?_
  refine lv_aload_n hx hb dX10_approve_1 rfl (lv_at hl 0 rfl) ?_
  refine lv_iload_n hx hb dX10_approve_2 rfl (lv_at hl 1 rfl) ?_
  have hPc := hP.sub (ws' := [(w0, .inr (11, [.ref v0, .ref v1, .ref v2, .ref v3, .ref v4, .long 0, .long 0, .int 0, .int th, .ref v9, .int 0, .int 0, .int (-1), .ref v13, .int 0, .int 0, .int 0, .int 0, .int 0, .int 0, .int 0, .int 0, .int 0, .int 0, .int 0, .long 0, .int 0, .ref v27, .ref v28, .ref v29, .ref v30, .ref v31, .ref v32, .ref v33, .ref v34, .ref v35, .ref v36, .ref v37, .int 0])), (v0, .inl (cA 0, 326, .inl fs))]) [0, 1] rfl
  have hDc := hD.sub (ws' := [(w0, .inr (11, [.ref v0, .ref v1, .ref v2, .ref v3, .ref v4, .long 0, .long 0, .int 0, .int th, .ref v9, .int 0, .int 0, .int (-1), .ref v13, .int 0, .int 0, .int 0, .int 0, .int 0, .int 0, .int 0, .int 0, .int 0, .int 0, .int 0, .long 0, .int 0, .ref v27, .ref v28, .ref v29, .ref v30, .ref v31, .ref v32, .ref v33, .ref v34, .ref v35, .ref v36, .ref v37, .int 0])), (v0, .inl (cA 0, 326, .inl fs))]) [0, 1] (by decide) rfl
  have hFc := va_free (wc := [(w0, .inr (11, [.ref v0, .ref v1, .ref v2, .ref v3, .ref v4, .long 0, .long 0, .int 0, .int th, .ref v9, .int 0, .int 0, .int (-1), .ref v13, .int 0, .int 0, .int 0, .int 0, .int 0, .int 0, .int 0, .int 0, .int 0, .int 0, .int 0, .long 0, .int 0, .ref v27, .ref v28, .ref v29, .ref v30, .ref v31, .ref v32, .ref v33, .ref v34, .ref v35, .ref v36, .ref v37, .int 0])), (v0, .inl (cA 0, 326, .inl fs))]) hD hS hA [0, 1] rfl
  refine va_calli (va_runV (As := [.int i]) (rest := [.ref w0]) ⟨hx, hb, hml, hown, hts⟩ (c_m_isMilestone l D cA sa w0 v0 v1 v2 v3 v4 v9 v13 v27 v28 v29 v30 v31 v32 v33 v34 v35 v36 v37 th fs i s.heap.size hz) (cwV 1 hts gX10_approve_X10_isMilestone rfl rfl rfl (by decide +kernel) ⟨(Nat.le_of_ble_eq_true rfl), (Nat.le_of_ble_eq_true rfl)⟩) ⟨Wd.blind, va_recv hK hPc (ci := 11) (q0 := 0) rfl rfl, fun U hU hW => ⟨rfl, Wd.call hPc hDc hK hC hZ hS hFc U hU hW⟩⟩ rfl rfl hl.1 rfl (lv_room (Nat.le_of_ble_eq_true rfl)) dX10_approve_3 ⟨(Nat.le_of_ble_eq_true rfl), (Nat.le_of_ble_eq_true rfl)⟩) hS (fun q _ h => hFc q h) hFc (fun rn1 u t H1 locs ht hvm hw hB hz1 hk1 hS => ?_)
  obtain ⟨hP1, hD1⟩ := hB
  rw [ht] at hP1
  obtain ⟨hP, hD⟩ := va_join (wr := []) (w1 := [(w0, .inr (11, [.ref v0, .ref v1, .ref v2, .ref v3, .ref v4, .long 0, .long 0, .int 0, .int th, .ref v9, .int 0, .int 0, .int (-1), .ref v13, .int 0, .int 0, .int 0, .int 0, .int 0, .int 0, .int 0, .int 0, .int 0, .int 0, .int 0, .long 0, .int 0, .ref v27, .ref v28, .ref v29, .ref v30, .ref v31, .ref v32, .ref v33, .ref v34, .ref v35, .ref v36, .ref v37, .int 0])), (v0, .inl (cA 0, 326, .inl fs))]) hP hD [0, 1] [] rfl rfl (by decide) (by decide) hk1 hFc hP1 hD1
  generalize H1 = H at hP hS ⊢
  have hP : va_P D vwCl [(w0, .inr (11, [.ref v0, .ref v1, .ref v2, .ref v3, .ref v4, .long 0, .long 0, .int 0, .int th, .ref v9, .int 0, .int 0, .int (-1), .ref v13, .int 0, .int 0, .int 0, .int 0, .int 0, .int 0, .int 0, .int 0, .int 0, .int 0, .int 0, .long 0, .int 0, .ref v27, .ref v28, .ref v29, .ref v30, .ref v31, .ref v32, .ref v33, .ref v34, .ref v35, .ref v36, .ref v37, .int 0])), (v0, .inl (cA 0, 326, .inl fs))] H := hP
  have hD : va_D A [(w0, .inr (11, [.ref v0, .ref v1, .ref v2, .ref v3, .ref v4, .long 0, .long 0, .int 0, .int th, .ref v9, .int 0, .int 0, .int (-1), .ref v13, .int 0, .int 0, .int 0, .int 0, .int 0, .int 0, .int 0, .int 0, .int 0, .int 0, .int 0, .long 0, .int 0, .ref v27, .ref v28, .ref v29, .ref v30, .ref v31, .ref v32, .ref v33, .ref v34, .ref v35, .ref v36, .ref v37, .int 0])), (v0, .inl (cA 0, 326, .inl fs))] := hD
  obtain rfl : rn1 = 0 := hw
  refine lv_aload_n hx hb dX10_approve_6 rfl (lv_at hl 0 rfl) ?_
  refine lv_iload_n hx hb dX10_approve_7 rfl (lv_at hl 1 rfl) ?_
  have hPc := hP.sub (ws' := [(w0, .inr (11, [.ref v0, .ref v1, .ref v2, .ref v3, .ref v4, .long 0, .long 0, .int 0, .int th, .ref v9, .int 0, .int 0, .int (-1), .ref v13, .int 0, .int 0, .int 0, .int 0, .int 0, .int 0, .int 0, .int 0, .int 0, .int 0, .int 0, .long 0, .int 0, .ref v27, .ref v28, .ref v29, .ref v30, .ref v31, .ref v32, .ref v33, .ref v34, .ref v35, .ref v36, .ref v37, .int 0])), (v0, .inl (cA 0, 326, .inl fs))]) [0, 1] rfl
  have hDc := hD.sub (ws' := [(w0, .inr (11, [.ref v0, .ref v1, .ref v2, .ref v3, .ref v4, .long 0, .long 0, .int 0, .int th, .ref v9, .int 0, .int 0, .int (-1), .ref v13, .int 0, .int 0, .int 0, .int 0, .int 0, .int 0, .int 0, .int 0, .int 0, .int 0, .int 0, .long 0, .int 0, .ref v27, .ref v28, .ref v29, .ref v30, .ref v31, .ref v32, .ref v33, .ref v34, .ref v35, .ref v36, .ref v37, .int 0])), (v0, .inl (cA 0, 326, .inl fs))]) [0, 1] (by decide) rfl
  have hFc := va_free (wc := [(w0, .inr (11, [.ref v0, .ref v1, .ref v2, .ref v3, .ref v4, .long 0, .long 0, .int 0, .int th, .ref v9, .int 0, .int 0, .int (-1), .ref v13, .int 0, .int 0, .int 0, .int 0, .int 0, .int 0, .int 0, .int 0, .int 0, .int 0, .int 0, .long 0, .int 0, .ref v27, .ref v28, .ref v29, .ref v30, .ref v31, .ref v32, .ref v33, .ref v34, .ref v35, .ref v36, .ref v37, .int 0])), (v0, .inl (cA 0, 326, .inl fs))]) hD hS hA [0, 1] rfl
  refine va_calli (va_runV (As := [.int i]) (rest := [.int 0, .ref w0]) ⟨hx, hb, hml, hown, hts⟩ (c_m_isMilestone l D cA sa w0 v0 v1 v2 v3 v4 v9 v13 v27 v28 v29 v30 v31 v32 v33 v34 v35 v36 v37 th fs i H.size hz) (cwV 1 hts gX10_approve_X10_isMilestone rfl rfl rfl (by decide +kernel) ⟨(Nat.le_of_ble_eq_true rfl), (Nat.le_of_ble_eq_true rfl)⟩) ⟨Wd.blind, va_recv hK hPc (ci := 11) (q0 := 0) rfl rfl, fun U hU hW => ⟨rfl, Wd.call hPc hDc hK hC hZ hS hFc U hU hW⟩⟩ rfl rfl hl.1 rfl (lv_room (Nat.le_of_ble_eq_true rfl)) dX10_approve_8 ⟨(Nat.le_of_ble_eq_true rfl), (Nat.le_of_ble_eq_true rfl)⟩) hS (fun q _ h => hFc q h) hFc (fun rn2 u t H1 locs ht hvm hw hB hz1 hk1 hS => ?_)
  obtain ⟨hP1, hD1⟩ := hB
  rw [ht] at hP1
  obtain ⟨hP, hD⟩ := va_join (wr := []) (w1 := [(w0, .inr (11, [.ref v0, .ref v1, .ref v2, .ref v3, .ref v4, .long 0, .long 0, .int 0, .int th, .ref v9, .int 0, .int 0, .int (-1), .ref v13, .int 0, .int 0, .int 0, .int 0, .int 0, .int 0, .int 0, .int 0, .int 0, .int 0, .int 0, .long 0, .int 0, .ref v27, .ref v28, .ref v29, .ref v30, .ref v31, .ref v32, .ref v33, .ref v34, .ref v35, .ref v36, .ref v37, .int 0])), (v0, .inl (cA 0, 326, .inl fs))]) hP hD [0, 1] [] rfl rfl (by decide) (by decide) hk1 hFc hP1 hD1
  generalize H1 = H at hP hS ⊢
  have hP : va_P D vwCl [(w0, .inr (11, [.ref v0, .ref v1, .ref v2, .ref v3, .ref v4, .long 0, .long 0, .int 0, .int th, .ref v9, .int 0, .int 0, .int (-1), .ref v13, .int 0, .int 0, .int 0, .int 0, .int 0, .int 0, .int 0, .int 0, .int 0, .int 0, .int 0, .long 0, .int 0, .ref v27, .ref v28, .ref v29, .ref v30, .ref v31, .ref v32, .ref v33, .ref v34, .ref v35, .ref v36, .ref v37, .int 0])), (v0, .inl (cA 0, 326, .inl fs))] H := hP
  have hD : va_D A [(w0, .inr (11, [.ref v0, .ref v1, .ref v2, .ref v3, .ref v4, .long 0, .long 0, .int 0, .int th, .ref v9, .int 0, .int 0, .int (-1), .ref v13, .int 0, .int 0, .int 0, .int 0, .int 0, .int 0, .int 0, .int 0, .int 0, .int 0, .int 0, .long 0, .int 0, .ref v27, .ref v28, .ref v29, .ref v30, .ref v31, .ref v32, .ref v33, .ref v34, .ref v35, .ref v36, .ref v37, .int 0])), (v0, .inl (cA 0, 326, .inl fs))] := hD
  obtain rfl : rn2 = 0 := hw
  refine lv_if_eq (tgt := 26) hx hb dX10_approve_11 (by decide) (fun c3 => ?_) (fun c9 => absurd c9 (by decide))
  refine lv_iconst (v := 0) hx hb dX10_approve_26 (by decide) ?_
  have hPc := hP.sub (ws' := [(w0, .inr (11, [.ref v0, .ref v1, .ref v2, .ref v3, .ref v4, .long 0, .long 0, .int 0, .int th, .ref v9, .int 0, .int 0, .int (-1), .ref v13, .int 0, .int 0, .int 0, .int 0, .int 0, .int 0, .int 0, .int 0, .int 0, .int 0, .int 0, .long 0, .int 0, .ref v27, .ref v28, .ref v29, .ref v30, .ref v31, .ref v32, .ref v33, .ref v34, .ref v35, .ref v36, .ref v37, .int 0]))]) [0] rfl
  have hDc := hD.sub (ws' := [(w0, .inr (11, [.ref v0, .ref v1, .ref v2, .ref v3, .ref v4, .long 0, .long 0, .int 0, .int th, .ref v9, .int 0, .int 0, .int (-1), .ref v13, .int 0, .int 0, .int 0, .int 0, .int 0, .int 0, .int 0, .int 0, .int 0, .int 0, .int 0, .long 0, .int 0, .ref v27, .ref v28, .ref v29, .ref v30, .ref v31, .ref v32, .ref v33, .ref v34, .ref v35, .ref v36, .ref v37, .int 0]))]) [0] (by decide) rfl
  have hFc := va_free (wc := [(w0, .inr (11, [.ref v0, .ref v1, .ref v2, .ref v3, .ref v4, .long 0, .long 0, .int 0, .int th, .ref v9, .int 0, .int 0, .int (-1), .ref v13, .int 0, .int 0, .int 0, .int 0, .int 0, .int 0, .int 0, .int 0, .int 0, .int 0, .int 0, .long 0, .int 0, .ref v27, .ref v28, .ref v29, .ref v30, .ref v31, .ref v32, .ref v33, .ref v34, .ref v35, .ref v36, .ref v37, .int 0]))]) hD hS hA [0] rfl
  refine va_calli (va_runV (As := [.int 0, .int 0]) (rest := []) ⟨hx, hb, hml, hown, hts⟩ (c_m_good2_0 l D cA sa w0 v0 v1 v2 v3 v4 v9 v13 v27 v28 v29 v30 v31 v32 v33 v34 v35 v36 v37 th 0 H.size) (cwV 2 hts gX10_approve_X10_good_ rfl rfl rfl (by decide +kernel) ⟨(Nat.le_of_ble_eq_true rfl), (Nat.le_of_ble_eq_true rfl)⟩) ⟨Wd.blind, va_recv hK hPc (ci := 11) (q0 := 0) rfl rfl, fun U hU hW => ⟨rfl, Wd.call hPc hDc hK hC hZ hS hFc U hU hW⟩⟩ rfl rfl hl.1 rfl (lv_room (Nat.le_of_ble_eq_true rfl)) dX10_approve_27 ⟨(Nat.le_of_ble_eq_true rfl), (Nat.le_of_ble_eq_true rfl)⟩) hS (fun q _ h => hFc q h) hFc (fun rn4 u t H1 locs ht hvm hw hB hz1 hk1 hS => ?_)
  obtain ⟨hP1, hD1⟩ := hB
  rw [ht] at hP1
  obtain ⟨hP, hD⟩ := va_join (wr := [(v0, .inl (cA 0, 326, .inl fs))]) (w1 := [(w0, .inr (11, [.ref v0, .ref v1, .ref v2, .ref v3, .ref v4, .long 0, .long 0, .int 0, .int 1, .ref v9, .int 0, .int 0, .int (-1), .ref v13, .int 0, .int 0, .int 0, .int 0, .int 0, .int 0, .int 0, .int 0, .int 0, .int 0, .int 0, .long 0, .int 0, .ref v27, .ref v28, .ref v29, .ref v30, .ref v31, .ref v32, .ref v33, .ref v34, .ref v35, .ref v36, .ref v37, .int 0]))]) hP hD [0] [1] rfl rfl (by decide) (by decide) hk1 hFc hP1 hD1
  generalize H1 = H at hP hS ⊢
  have hP : va_P D vwCl [(v0, .inl (cA 0, 326, .inl fs)), (w0, .inr (11, [.ref v0, .ref v1, .ref v2, .ref v3, .ref v4, .long 0, .long 0, .int 0, .int 1, .ref v9, .int 0, .int 0, .int (-1), .ref v13, .int 0, .int 0, .int 0, .int 0, .int 0, .int 0, .int 0, .int 0, .int 0, .int 0, .int 0, .long 0, .int 0, .ref v27, .ref v28, .ref v29, .ref v30, .ref v31, .ref v32, .ref v33, .ref v34, .ref v35, .ref v36, .ref v37, .int 0]))] H := hP
  have hD : va_D A [(v0, .inl (cA 0, 326, .inl fs)), (w0, .inr (11, [.ref v0, .ref v1, .ref v2, .ref v3, .ref v4, .long 0, .long 0, .int 0, .int 1, .ref v9, .int 0, .int 0, .int (-1), .ref v13, .int 0, .int 0, .int 0, .int 0, .int 0, .int 0, .int 0, .int 0, .int 0, .int 0, .int 0, .long 0, .int 0, .ref v27, .ref v28, .ref v29, .ref v30, .ref v31, .ref v32, .ref v33, .ref v34, .ref v35, .ref v36, .ref v37, .int 0]))] := hD
  obtain rfl : rn4 = 0 := hw
  refine lv_if_ne (tgt := 35) hx hb dX10_approve_30 (by decide) (fun c9 => absurd c9 (by decide)) (fun c5 => ?_)
  refine lv_iconst (v := 0) hx hb dX10_approve_33 (by decide) ?_
  have hP9 := hP.sub (ws' := [(w0, .inr (11, [.ref v0, .ref v1, .ref v2, .ref v3, .ref v4, .long 0, .long 0, .int 0, .int 1, .ref v9, .int 0, .int 0, .int (-1), .ref v13, .int 0, .int 0, .int 0, .int 0, .int 0, .int 0, .int 0, .int 0, .int 0, .int 0, .int 0, .long 0, .int 0, .ref v27, .ref v28, .ref v29, .ref v30, .ref v31, .ref v32, .ref v33, .ref v34, .ref v35, .ref v36, .ref v37, .int 0]))]) [1] rfl
  have hD9 := hD.sub (ws' := [(w0, .inr (11, [.ref v0, .ref v1, .ref v2, .ref v3, .ref v4, .long 0, .long 0, .int 0, .int 1, .ref v9, .int 0, .int 0, .int (-1), .ref v13, .int 0, .int 0, .int 0, .int 0, .int 0, .int 0, .int 0, .int 0, .int 0, .int 0, .int 0, .long 0, .int 0, .ref v27, .ref v28, .ref v29, .ref v30, .ref v31, .ref v32, .ref v33, .ref v34, .ref v35, .ref v36, .ref v37, .int 0]))]) [1] (by decide) rfl
  refine W.widen (k := 0) (n := 0) (Nat.le_of_ble_eq_true rfl) (Nat.le_of_ble_eq_true rfl) ?_
  exact W.zret (v := 0) hx hb hr (by first | rfl | decide) (fun t ht hW => ⟨⟨0, (), rfl, rfl, by rw [ht]; exact hP9, hD9⟩, hS.F ht⟩) hS.2.2 dX10_approve_34

set_option maxHeartbeats 4000000 in
set_option maxRecDepth 100000 in
/-- dispute: thrown 1 -/
theorem c_m_dispute (l : Launch) (D : va_G) (cA : Nat → ClassId) (sa : Nat → Nat) (w0 v0 v1 v2 v3 v4 v9 v13 v27 v28 v29 v30 v31 v32 v33 v34 v35 v36 v37 : Nat) (th : Int32) (fs : Nat → Int32) (i : Int32) (sz : Nat) (hz : Zs fs) : Met l yX10_dispute wsX10_dispute ({ frames := 2, cells := 0, slots := 0, locals := 46 }) (va_Pc [.ref w0, .int i] (Wd D cA sa [(w0, .inr (11, [.ref v0, .ref v1, .ref v2, .ref v3, .ref v4, .long 0, .long 0, .int 0, .int th, .ref v9, .int 0, .int 0, .int (-1), .ref v13, .int 0, .int 0, .int 0, .int 0, .int 0, .int 0, .int 0, .int 0, .int 0, .int 0, .int 0, .long 0, .int 0, .ref v27, .ref v28, .ref v29, .ref v30, .ref v31, .ref v32, .ref v33, .ref v34, .ref v35, .ref v36, .ref v37, .int 0])), (v0, .inl (cA 0, 326, .inl fs))] sz)) (va_Qi (fun (r : Int32) (_ : Unit) => r = 0) (fun (_ : Unit) t => Wq D (va_A [(w0, .inr (11, [.ref v0, .ref v1, .ref v2, .ref v3, .ref v4, .long 0, .long 0, .int 0, .int th, .ref v9, .int 0, .int 0, .int (-1), .ref v13, .int 0, .int 0, .int 0, .int 0, .int 0, .int 0, .int 0, .int 0, .int 0, .int 0, .int 0, .long 0, .int 0, .ref v27, .ref v28, .ref v29, .ref v30, .ref v31, .ref v32, .ref v33, .ref v34, .ref v35, .ref v36, .ref v37, .int 0])), (v0, .inl (cA 0, 326, .inl fs))] sz) [(w0, .inr (11, [.ref v0, .ref v1, .ref v2, .ref v3, .ref v4, .long 0, .long 0, .int 0, .int 1, .ref v9, .int 0, .int 0, .int (-1), .ref v13, .int 0, .int 0, .int 0, .int 0, .int 0, .int 0, .int 0, .int 0, .int 0, .int 0, .int 0, .long 0, .int 0, .ref v27, .ref v28, .ref v29, .ref v30, .ref v31, .ref v32, .ref v33, .ref v34, .ref v35, .ref v36, .ref v37, .int 0]))] t) (va_A [(w0, .inr (11, [.ref v0, .ref v1, .ref v2, .ref v3, .ref v4, .long 0, .long 0, .int 0, .int th, .ref v9, .int 0, .int 0, .int (-1), .ref v13, .int 0, .int 0, .int 0, .int 0, .int 0, .int 0, .int 0, .int 0, .int 0, .int 0, .int 0, .long 0, .int 0, .ref v27, .ref v28, .ref v29, .ref v30, .ref v31, .ref v32, .ref v33, .ref v34, .ref v35, .ref v36, .ref v37, .int 0])), (v0, .inl (cA 0, 326, .inl fs))] sz)) 0 0 (va_A [(w0, .inr (11, [.ref v0, .ref v1, .ref v2, .ref v3, .ref v4, .long 0, .long 0, .int 0, .int th, .ref v9, .int 0, .int 0, .int (-1), .ref v13, .int 0, .int 0, .int 0, .int 0, .int 0, .int 0, .int 0, .int 0, .int 0, .int 0, .int 0, .long 0, .int 0, .ref v27, .ref v28, .ref v29, .ref v30, .ref v31, .ref v32, .ref v33, .ref v34, .ref v35, .ref v36, .ref v37, .int 0])), (v0, .inl (cA 0, 326, .inl fs))] sz) := by
  refine Met.ofW (cc := cX10_dispute) (maxL := 4) (ret := (some .int)) (by decide) rfl ?_
  intro p e s m args below meth c s₁ B hml hv
  obtain ⟨rfl, hsz, hP, hK, hD0, hC, hZ⟩ := hv
  have hx := B.exec
  have hb := B.bytes
  have hr := B.returns
  have hts := atoms_spec (ws := wsX10_dispute) B.pre
  have hown : s.vm.findClass RX10 = some m.cls := findClass_of_methodNamed B.named
  have hlocks := B.notSynchronized
  subst hsz
  have hD := hD0.self (sz := s.heap.size)
  generalize hAe : va_A [(w0, .inr (11, [.ref v0, .ref v1, .ref v2, .ref v3, .ref v4, .long 0, .long 0, .int 0, .int th, .ref v9, .int 0, .int 0, .int (-1), .ref v13, .int 0, .int 0, .int 0, .int 0, .int 0, .int 0, .int 0, .int 0, .int 0, .int 0, .int 0, .long 0, .int 0, .ref v27, .ref v28, .ref v29, .ref v30, .ref v31, .ref v32, .ref v33, .ref v34, .ref v35, .ref v36, .ref v37, .int 0])), (v0, .inl (cA 0, 326, .inl fs))] s.heap.size = A at hD hZ ⊢
  have hA : ∀ q : Nat, s.heap.size ≤ q → A q := fun q h => by rw [← hAe]; exact Or.inr h
  have hS : va_S A s.heap s.heap [] := va_S.rf
  have hP : va_P D vwCl [(w0, .inr (11, [.ref v0, .ref v1, .ref v2, .ref v3, .ref v4, .long 0, .long 0, .int 0, .int th, .ref v9, .int 0, .int 0, .int (-1), .ref v13, .int 0, .int 0, .int 0, .int 0, .int 0, .int 0, .int 0, .int 0, .int 0, .int 0, .int 0, .long 0, .int 0, .ref v27, .ref v28, .ref v29, .ref v30, .ref v31, .ref v32, .ref v33, .ref v34, .ref v35, .ref v36, .ref v37, .int 0])), (v0, .inl (cA 0, 326, .inl fs))] s.heap := hP
  have hl := lv_entry ([.ref w0, .int i]) (n := 4) (Nat.le_of_ble_eq_true rfl)
  rw [lg_entry_eq]
  generalize (lg_sl ([.ref w0, .int i]) ++ List.replicate (4 - (lg_sl ([.ref w0, .int i])).length) Slot.unset).toArray = ls at hl ⊢
  have hl : lv_has ls 4 [(0, .ref w0), (1, .int i)] := hl
  refine lv_aload_n hx hb dX10_dispute_0 rfl (lv_at hl 0 rfl) ?_
  refine lv_iload_n hx hb dX10_dispute_1 rfl (lv_at hl 1 rfl) ?_
  have hPc := hP.sub (ws' := [(w0, .inr (11, [.ref v0, .ref v1, .ref v2, .ref v3, .ref v4, .long 0, .long 0, .int 0, .int th, .ref v9, .int 0, .int 0, .int (-1), .ref v13, .int 0, .int 0, .int 0, .int 0, .int 0, .int 0, .int 0, .int 0, .int 0, .int 0, .int 0, .long 0, .int 0, .ref v27, .ref v28, .ref v29, .ref v30, .ref v31, .ref v32, .ref v33, .ref v34, .ref v35, .ref v36, .ref v37, .int 0])), (v0, .inl (cA 0, 326, .inl fs))]) [0, 1] rfl
  have hDc := hD.sub (ws' := [(w0, .inr (11, [.ref v0, .ref v1, .ref v2, .ref v3, .ref v4, .long 0, .long 0, .int 0, .int th, .ref v9, .int 0, .int 0, .int (-1), .ref v13, .int 0, .int 0, .int 0, .int 0, .int 0, .int 0, .int 0, .int 0, .int 0, .int 0, .int 0, .long 0, .int 0, .ref v27, .ref v28, .ref v29, .ref v30, .ref v31, .ref v32, .ref v33, .ref v34, .ref v35, .ref v36, .ref v37, .int 0])), (v0, .inl (cA 0, 326, .inl fs))]) [0, 1] (by decide) rfl
  have hFc := va_free (wc := [(w0, .inr (11, [.ref v0, .ref v1, .ref v2, .ref v3, .ref v4, .long 0, .long 0, .int 0, .int th, .ref v9, .int 0, .int 0, .int (-1), .ref v13, .int 0, .int 0, .int 0, .int 0, .int 0, .int 0, .int 0, .int 0, .int 0, .int 0, .int 0, .long 0, .int 0, .ref v27, .ref v28, .ref v29, .ref v30, .ref v31, .ref v32, .ref v33, .ref v34, .ref v35, .ref v36, .ref v37, .int 0])), (v0, .inl (cA 0, 326, .inl fs))]) hD hS hA [0, 1] rfl
  refine va_calli (va_runV (As := [.int i]) (rest := []) ⟨hx, hb, hml, hown, hts⟩ (c_m_isMilestone l D cA sa w0 v0 v1 v2 v3 v4 v9 v13 v27 v28 v29 v30 v31 v32 v33 v34 v35 v36 v37 th fs i s.heap.size hz) (cwV 1 hts gX10_dispute_X10_isMilestone rfl rfl rfl (by decide +kernel) ⟨(Nat.le_of_ble_eq_true rfl), (Nat.le_of_ble_eq_true rfl)⟩) ⟨Wd.blind, va_recv hK hPc (ci := 11) (q0 := 0) rfl rfl, fun U hU hW => ⟨rfl, Wd.call hPc hDc hK hC hZ hS hFc U hU hW⟩⟩ rfl rfl hl.1 rfl (lv_room (Nat.le_of_ble_eq_true rfl)) dX10_dispute_2 ⟨(Nat.le_of_ble_eq_true rfl), (Nat.le_of_ble_eq_true rfl)⟩) hS (fun q _ h => hFc q h) hFc (fun rn1 u t H1 locs ht hvm hw hB hz1 hk1 hS => ?_)
  obtain ⟨hP1, hD1⟩ := hB
  rw [ht] at hP1
  obtain ⟨hP, hD⟩ := va_join (wr := []) (w1 := [(w0, .inr (11, [.ref v0, .ref v1, .ref v2, .ref v3, .ref v4, .long 0, .long 0, .int 0, .int th, .ref v9, .int 0, .int 0, .int (-1), .ref v13, .int 0, .int 0, .int 0, .int 0, .int 0, .int 0, .int 0, .int 0, .int 0, .int 0, .int 0, .long 0, .int 0, .ref v27, .ref v28, .ref v29, .ref v30, .ref v31, .ref v32, .ref v33, .ref v34, .ref v35, .ref v36, .ref v37, .int 0])), (v0, .inl (cA 0, 326, .inl fs))]) hP hD [0, 1] [] rfl rfl (by decide) (by decide) hk1 hFc hP1 hD1
  generalize H1 = H at hP hS ⊢
  have hP : va_P D vwCl [(w0, .inr (11, [.ref v0, .ref v1, .ref v2, .ref v3, .ref v4, .long 0, .long 0, .int 0, .int th, .ref v9, .int 0, .int 0, .int (-1), .ref v13, .int 0, .int 0, .int 0, .int 0, .int 0, .int 0, .int 0, .int 0, .int 0, .int 0, .int 0, .long 0, .int 0, .ref v27, .ref v28, .ref v29, .ref v30, .ref v31, .ref v32, .ref v33, .ref v34, .ref v35, .ref v36, .ref v37, .int 0])), (v0, .inl (cA 0, 326, .inl fs))] H := hP
  have hD : va_D A [(w0, .inr (11, [.ref v0, .ref v1, .ref v2, .ref v3, .ref v4, .long 0, .long 0, .int 0, .int th, .ref v9, .int 0, .int 0, .int (-1), .ref v13, .int 0, .int 0, .int 0, .int 0, .int 0, .int 0, .int 0, .int 0, .int 0, .int 0, .int 0, .long 0, .int 0, .ref v27, .ref v28, .ref v29, .ref v30, .ref v31, .ref v32, .ref v33, .ref v34, .ref v35, .ref v36, .ref v37, .int 0])), (v0, .inl (cA 0, 326, .inl fs))] := hD
  obtain rfl : rn1 = 0 := hw
  refine lv_istore_n (lv' := [(2, .int 0), (0, .ref w0), (1, .int i)]) hx hb dX10_dispute_5 rfl hl (by decide) rfl (fun ls hl => ?_)
  refine lv_aload_n hx hb dX10_dispute_6 rfl (lv_at hl 1 rfl) ?_
  refine lv_iload_n hx hb dX10_dispute_7 rfl (lv_at hl 0 rfl) ?_
  refine lv_iload_n hx hb dX10_dispute_8 rfl (lv_at hl 0 rfl) ?_
  refine lv_if_eq (tgt := 24) hx hb dX10_dispute_9 (by decide) (fun c2 => ?_) (fun c9 => absurd c9 (by decide))
  refine lv_iconst (v := 0) hx hb dX10_dispute_24 (by decide) ?_
  have hPc := hP.sub (ws' := [(w0, .inr (11, [.ref v0, .ref v1, .ref v2, .ref v3, .ref v4, .long 0, .long 0, .int 0, .int th, .ref v9, .int 0, .int 0, .int (-1), .ref v13, .int 0, .int 0, .int 0, .int 0, .int 0, .int 0, .int 0, .int 0, .int 0, .int 0, .int 0, .long 0, .int 0, .ref v27, .ref v28, .ref v29, .ref v30, .ref v31, .ref v32, .ref v33, .ref v34, .ref v35, .ref v36, .ref v37, .int 0]))]) [0] rfl
  have hDc := hD.sub (ws' := [(w0, .inr (11, [.ref v0, .ref v1, .ref v2, .ref v3, .ref v4, .long 0, .long 0, .int 0, .int th, .ref v9, .int 0, .int 0, .int (-1), .ref v13, .int 0, .int 0, .int 0, .int 0, .int 0, .int 0, .int 0, .int 0, .int 0, .int 0, .int 0, .long 0, .int 0, .ref v27, .ref v28, .ref v29, .ref v30, .ref v31, .ref v32, .ref v33, .ref v34, .ref v35, .ref v36, .ref v37, .int 0]))]) [0] (by decide) rfl
  have hFc := va_free (wc := [(w0, .inr (11, [.ref v0, .ref v1, .ref v2, .ref v3, .ref v4, .long 0, .long 0, .int 0, .int th, .ref v9, .int 0, .int 0, .int (-1), .ref v13, .int 0, .int 0, .int 0, .int 0, .int 0, .int 0, .int 0, .int 0, .int 0, .int 0, .int 0, .long 0, .int 0, .ref v27, .ref v28, .ref v29, .ref v30, .ref v31, .ref v32, .ref v33, .ref v34, .ref v35, .ref v36, .ref v37, .int 0]))]) hD hS hA [0] rfl
  refine va_calli (va_runV (As := [.int 0, .int 0]) (rest := []) ⟨hx, hb, hml, hown, hts⟩ (c_m_good2_0 l D cA sa w0 v0 v1 v2 v3 v4 v9 v13 v27 v28 v29 v30 v31 v32 v33 v34 v35 v36 v37 th 0 H.size) (cwV 2 hts gX10_dispute_X10_good_ rfl rfl rfl (by decide +kernel) ⟨(Nat.le_of_ble_eq_true rfl), (Nat.le_of_ble_eq_true rfl)⟩) ⟨Wd.blind, va_recv hK hPc (ci := 11) (q0 := 0) rfl rfl, fun U hU hW => ⟨rfl, Wd.call hPc hDc hK hC hZ hS hFc U hU hW⟩⟩ rfl rfl hl.1 rfl (lv_room (Nat.le_of_ble_eq_true rfl)) dX10_dispute_25 ⟨(Nat.le_of_ble_eq_true rfl), (Nat.le_of_ble_eq_true rfl)⟩) hS (fun q _ h => hFc q h) hFc (fun rn3 u t H1 locs ht hvm hw hB hz1 hk1 hS => ?_)
  obtain ⟨hP1, hD1⟩ := hB
  rw [ht] at hP1
  obtain ⟨hP, hD⟩ := va_join (wr := [(v0, .inl (cA 0, 326, .inl fs))]) (w1 := [(w0, .inr (11, [.ref v0, .ref v1, .ref v2, .ref v3, .ref v4, .long 0, .long 0, .int 0, .int 1, .ref v9, .int 0, .int 0, .int (-1), .ref v13, .int 0, .int 0, .int 0, .int 0, .int 0, .int 0, .int 0, .int 0, .int 0, .int 0, .int 0, .long 0, .int 0, .ref v27, .ref v28, .ref v29, .ref v30, .ref v31, .ref v32, .ref v33, .ref v34, .ref v35, .ref v36, .ref v37, .int 0]))]) hP hD [0] [1] rfl rfl (by decide) (by decide) hk1 hFc hP1 hD1
  generalize H1 = H at hP hS ⊢
  have hP : va_P D vwCl [(v0, .inl (cA 0, 326, .inl fs)), (w0, .inr (11, [.ref v0, .ref v1, .ref v2, .ref v3, .ref v4, .long 0, .long 0, .int 0, .int 1, .ref v9, .int 0, .int 0, .int (-1), .ref v13, .int 0, .int 0, .int 0, .int 0, .int 0, .int 0, .int 0, .int 0, .int 0, .int 0, .int 0, .long 0, .int 0, .ref v27, .ref v28, .ref v29, .ref v30, .ref v31, .ref v32, .ref v33, .ref v34, .ref v35, .ref v36, .ref v37, .int 0]))] H := hP
  have hD : va_D A [(v0, .inl (cA 0, 326, .inl fs)), (w0, .inr (11, [.ref v0, .ref v1, .ref v2, .ref v3, .ref v4, .long 0, .long 0, .int 0, .int 1, .ref v9, .int 0, .int 0, .int (-1), .ref v13, .int 0, .int 0, .int 0, .int 0, .int 0, .int 0, .int 0, .int 0, .int 0, .int 0, .int 0, .long 0, .int 0, .ref v27, .ref v28, .ref v29, .ref v30, .ref v31, .ref v32, .ref v33, .ref v34, .ref v35, .ref v36, .ref v37, .int 0]))] := hD
  obtain rfl : rn3 = 0 := hw
  refine lv_if_ne (tgt := 33) hx hb dX10_dispute_28 (by decide) (fun c9 => absurd c9 (by decide)) (fun c4 => ?_)
  refine lv_iconst (v := 0) hx hb dX10_dispute_31 (by decide) ?_
  have hP9 := hP.sub (ws' := [(w0, .inr (11, [.ref v0, .ref v1, .ref v2, .ref v3, .ref v4, .long 0, .long 0, .int 0, .int 1, .ref v9, .int 0, .int 0, .int (-1), .ref v13, .int 0, .int 0, .int 0, .int 0, .int 0, .int 0, .int 0, .int 0, .int 0, .int 0, .int 0, .long 0, .int 0, .ref v27, .ref v28, .ref v29, .ref v30, .ref v31, .ref v32, .ref v33, .ref v34, .ref v35, .ref v36, .ref v37, .int 0]))]) [1] rfl
  have hD9 := hD.sub (ws' := [(w0, .inr (11, [.ref v0, .ref v1, .ref v2, .ref v3, .ref v4, .long 0, .long 0, .int 0, .int 1, .ref v9, .int 0, .int 0, .int (-1), .ref v13, .int 0, .int 0, .int 0, .int 0, .int 0, .int 0, .int 0, .int 0, .int 0, .int 0, .int 0, .long 0, .int 0, .ref v27, .ref v28, .ref v29, .ref v30, .ref v31, .ref v32, .ref v33, .ref v34, .ref v35, .ref v36, .ref v37, .int 0]))]) [1] (by decide) rfl
  refine W.widen (k := 0) (n := 0) (Nat.le_of_ble_eq_true rfl) (Nat.le_of_ble_eq_true rfl) ?_
  exact W.iret (v := 0) hx hb hr (fun t ht hW => ⟨⟨0, (), rfl, rfl, by rw [ht]; exact hP9, hD9⟩, hS.F ht⟩) hS.2.2 dX10_dispute_32

set_option maxHeartbeats 4000000 in
set_option maxRecDepth 100000 in
/-- withdraw: thrown 1 -/
theorem c_m_withdraw (l : Launch) (D : va_G) (cA : Nat → ClassId) (sa : Nat → Nat) (w0 v0 v1 v2 v3 v4 v9 v13 v27 v28 v29 v30 v31 v32 v33 v34 v35 v36 v37 : Nat) (th : Int32) (fs : Nat → Int32) (i : Int32) (sz : Nat) (hz : Zs fs) : Met l yX10_withdraw wsX10_withdraw ({ frames := 2, cells := 0, slots := 0, locals := 46 }) (va_Pc [.ref w0, .int i] (Wd D cA sa [(w0, .inr (11, [.ref v0, .ref v1, .ref v2, .ref v3, .ref v4, .long 0, .long 0, .int 0, .int th, .ref v9, .int 0, .int 0, .int (-1), .ref v13, .int 0, .int 0, .int 0, .int 0, .int 0, .int 0, .int 0, .int 0, .int 0, .int 0, .int 0, .long 0, .int 0, .ref v27, .ref v28, .ref v29, .ref v30, .ref v31, .ref v32, .ref v33, .ref v34, .ref v35, .ref v36, .ref v37, .int 0])), (v0, .inl (cA 0, 326, .inl fs))] sz)) (va_Qi (fun (r : Int32) (_ : Unit) => r = 0) (fun (_ : Unit) t => Wq D (va_A [(w0, .inr (11, [.ref v0, .ref v1, .ref v2, .ref v3, .ref v4, .long 0, .long 0, .int 0, .int th, .ref v9, .int 0, .int 0, .int (-1), .ref v13, .int 0, .int 0, .int 0, .int 0, .int 0, .int 0, .int 0, .int 0, .int 0, .int 0, .int 0, .long 0, .int 0, .ref v27, .ref v28, .ref v29, .ref v30, .ref v31, .ref v32, .ref v33, .ref v34, .ref v35, .ref v36, .ref v37, .int 0])), (v0, .inl (cA 0, 326, .inl fs))] sz) [(w0, .inr (11, [.ref v0, .ref v1, .ref v2, .ref v3, .ref v4, .long 0, .long 0, .int 0, .int 1, .ref v9, .int 0, .int 0, .int (-1), .ref v13, .int 0, .int 0, .int 0, .int 0, .int 0, .int 0, .int 0, .int 0, .int 0, .int 0, .int 0, .long 0, .int 0, .ref v27, .ref v28, .ref v29, .ref v30, .ref v31, .ref v32, .ref v33, .ref v34, .ref v35, .ref v36, .ref v37, .int 0]))] t) (va_A [(w0, .inr (11, [.ref v0, .ref v1, .ref v2, .ref v3, .ref v4, .long 0, .long 0, .int 0, .int th, .ref v9, .int 0, .int 0, .int (-1), .ref v13, .int 0, .int 0, .int 0, .int 0, .int 0, .int 0, .int 0, .int 0, .int 0, .int 0, .int 0, .long 0, .int 0, .ref v27, .ref v28, .ref v29, .ref v30, .ref v31, .ref v32, .ref v33, .ref v34, .ref v35, .ref v36, .ref v37, .int 0])), (v0, .inl (cA 0, 326, .inl fs))] sz)) 0 0 (va_A [(w0, .inr (11, [.ref v0, .ref v1, .ref v2, .ref v3, .ref v4, .long 0, .long 0, .int 0, .int th, .ref v9, .int 0, .int 0, .int (-1), .ref v13, .int 0, .int 0, .int 0, .int 0, .int 0, .int 0, .int 0, .int 0, .int 0, .int 0, .int 0, .long 0, .int 0, .ref v27, .ref v28, .ref v29, .ref v30, .ref v31, .ref v32, .ref v33, .ref v34, .ref v35, .ref v36, .ref v37, .int 0])), (v0, .inl (cA 0, 326, .inl fs))] sz) := by
  refine Met.ofW (cc := cX10_withdraw) (maxL := 3) (ret := (some .int)) (by decide) rfl ?_
  intro p e s m args below meth c s₁ B hml hv
  obtain ⟨rfl, hsz, hP, hK, hD0, hC, hZ⟩ := hv
  have hx := B.exec
  have hb := B.bytes
  have hr := B.returns
  have hts := atoms_spec (ws := wsX10_withdraw) B.pre
  have hown : s.vm.findClass RX10 = some m.cls := findClass_of_methodNamed B.named
  have hlocks := B.notSynchronized
  subst hsz
  have hD := hD0.self (sz := s.heap.size)
  generalize hAe : va_A [(w0, .inr (11, [.ref v0, .ref v1, .ref v2, .ref v3, .ref v4, .long 0, .long 0, .int 0, .int th, .ref v9, .int 0, .int 0, .int (-1), .ref v13, .int 0, .int 0, .int 0, .int 0, .int 0, .int 0, .int 0, .int 0, .int 0, .int 0, .int 0, .long 0, .int 0, .ref v27, .ref v28, .ref v29, .ref v30, .ref v31, .ref v32, .ref v33, .ref v34, .ref v35, .ref v36, .ref v37, .int 0])), (v0, .inl (cA 0, 326, .inl fs))] s.heap.size = A at hD hZ ⊢
  have hA : ∀ q : Nat, s.heap.size ≤ q → A q := fun q h => by rw [← hAe]; exact Or.inr h
  have hS : va_S A s.heap s.heap [] := va_S.rf
  have hP : va_P D vwCl [(w0, .inr (11, [.ref v0, .ref v1, .ref v2, .ref v3, .ref v4, .long 0, .long 0, .int 0, .int th, .ref v9, .int 0, .int 0, .int (-1), .ref v13, .int 0, .int 0, .int 0, .int 0, .int 0, .int 0, .int 0, .int 0, .int 0, .int 0, .int 0, .long 0, .int 0, .ref v27, .ref v28, .ref v29, .ref v30, .ref v31, .ref v32, .ref v33, .ref v34, .ref v35, .ref v36, .ref v37, .int 0])), (v0, .inl (cA 0, 326, .inl fs))] s.heap := hP
  have hl := lv_entry ([.ref w0, .int i]) (n := 3) (Nat.le_of_ble_eq_true rfl)
  rw [lg_entry_eq]
  generalize (lg_sl ([.ref w0, .int i]) ++ List.replicate (3 - (lg_sl ([.ref w0, .int i])).length) Slot.unset).toArray = ls at hl ⊢
  have hl : lv_has ls 3 [(0, .ref w0), (1, .int i)] := hl
  refine lv_aload_n hx hb dX10_withdraw_0 rfl (lv_at hl 0 rfl) ?_
  refine lv_iload_n hx hb dX10_withdraw_1 rfl (lv_at hl 1 rfl) ?_
  have hPc := hP.sub (ws' := [(w0, .inr (11, [.ref v0, .ref v1, .ref v2, .ref v3, .ref v4, .long 0, .long 0, .int 0, .int th, .ref v9, .int 0, .int 0, .int (-1), .ref v13, .int 0, .int 0, .int 0, .int 0, .int 0, .int 0, .int 0, .int 0, .int 0, .int 0, .int 0, .long 0, .int 0, .ref v27, .ref v28, .ref v29, .ref v30, .ref v31, .ref v32, .ref v33, .ref v34, .ref v35, .ref v36, .ref v37, .int 0])), (v0, .inl (cA 0, 326, .inl fs))]) [0, 1] rfl
  have hDc := hD.sub (ws' := [(w0, .inr (11, [.ref v0, .ref v1, .ref v2, .ref v3, .ref v4, .long 0, .long 0, .int 0, .int th, .ref v9, .int 0, .int 0, .int (-1), .ref v13, .int 0, .int 0, .int 0, .int 0, .int 0, .int 0, .int 0, .int 0, .int 0, .int 0, .int 0, .long 0, .int 0, .ref v27, .ref v28, .ref v29, .ref v30, .ref v31, .ref v32, .ref v33, .ref v34, .ref v35, .ref v36, .ref v37, .int 0])), (v0, .inl (cA 0, 326, .inl fs))]) [0, 1] (by decide) rfl
  have hFc := va_free (wc := [(w0, .inr (11, [.ref v0, .ref v1, .ref v2, .ref v3, .ref v4, .long 0, .long 0, .int 0, .int th, .ref v9, .int 0, .int 0, .int (-1), .ref v13, .int 0, .int 0, .int 0, .int 0, .int 0, .int 0, .int 0, .int 0, .int 0, .int 0, .int 0, .long 0, .int 0, .ref v27, .ref v28, .ref v29, .ref v30, .ref v31, .ref v32, .ref v33, .ref v34, .ref v35, .ref v36, .ref v37, .int 0])), (v0, .inl (cA 0, 326, .inl fs))]) hD hS hA [0, 1] rfl
  refine va_calli (va_runV (As := [.int i]) (rest := []) ⟨hx, hb, hml, hown, hts⟩ (c_m_isMilestone l D cA sa w0 v0 v1 v2 v3 v4 v9 v13 v27 v28 v29 v30 v31 v32 v33 v34 v35 v36 v37 th fs i s.heap.size hz) (cwV 1 hts gX10_withdraw_X10_isMilestone rfl rfl rfl (by decide +kernel) ⟨(Nat.le_of_ble_eq_true rfl), (Nat.le_of_ble_eq_true rfl)⟩) ⟨Wd.blind, va_recv hK hPc (ci := 11) (q0 := 0) rfl rfl, fun U hU hW => ⟨rfl, Wd.call hPc hDc hK hC hZ hS hFc U hU hW⟩⟩ rfl rfl hl.1 rfl (lv_room (Nat.le_of_ble_eq_true rfl)) dX10_withdraw_2 ⟨(Nat.le_of_ble_eq_true rfl), (Nat.le_of_ble_eq_true rfl)⟩) hS (fun q _ h => hFc q h) hFc (fun rn1 u t H1 locs ht hvm hw hB hz1 hk1 hS => ?_)
  obtain ⟨hP1, hD1⟩ := hB
  rw [ht] at hP1
  obtain ⟨hP, hD⟩ := va_join (wr := []) (w1 := [(w0, .inr (11, [.ref v0, .ref v1, .ref v2, .ref v3, .ref v4, .long 0, .long 0, .int 0, .int th, .ref v9, .int 0, .int 0, .int (-1), .ref v13, .int 0, .int 0, .int 0, .int 0, .int 0, .int 0, .int 0, .int 0, .int 0, .int 0, .int 0, .long 0, .int 0, .ref v27, .ref v28, .ref v29, .ref v30, .ref v31, .ref v32, .ref v33, .ref v34, .ref v35, .ref v36, .ref v37, .int 0])), (v0, .inl (cA 0, 326, .inl fs))]) hP hD [0, 1] [] rfl rfl (by decide) (by decide) hk1 hFc hP1 hD1
  generalize H1 = H at hP hS ⊢
  have hP : va_P D vwCl [(w0, .inr (11, [.ref v0, .ref v1, .ref v2, .ref v3, .ref v4, .long 0, .long 0, .int 0, .int th, .ref v9, .int 0, .int 0, .int (-1), .ref v13, .int 0, .int 0, .int 0, .int 0, .int 0, .int 0, .int 0, .int 0, .int 0, .int 0, .int 0, .long 0, .int 0, .ref v27, .ref v28, .ref v29, .ref v30, .ref v31, .ref v32, .ref v33, .ref v34, .ref v35, .ref v36, .ref v37, .int 0])), (v0, .inl (cA 0, 326, .inl fs))] H := hP
  have hD : va_D A [(w0, .inr (11, [.ref v0, .ref v1, .ref v2, .ref v3, .ref v4, .long 0, .long 0, .int 0, .int th, .ref v9, .int 0, .int 0, .int (-1), .ref v13, .int 0, .int 0, .int 0, .int 0, .int 0, .int 0, .int 0, .int 0, .int 0, .int 0, .int 0, .long 0, .int 0, .ref v27, .ref v28, .ref v29, .ref v30, .ref v31, .ref v32, .ref v33, .ref v34, .ref v35, .ref v36, .ref v37, .int 0])), (v0, .inl (cA 0, 326, .inl fs))] := hD
  obtain rfl : rn1 = 0 := hw
  refine lv_istore_n (lv' := [(2, .int 0), (0, .ref w0), (1, .int i)]) hx hb dX10_withdraw_5 rfl hl (by decide) rfl (fun ls hl => ?_)
  refine lv_aload_n hx hb dX10_withdraw_6 rfl (lv_at hl 1 rfl) ?_
  refine lv_iload_n hx hb dX10_withdraw_7 rfl (lv_at hl 0 rfl) ?_
  refine lv_iload_n hx hb dX10_withdraw_8 rfl (lv_at hl 0 rfl) ?_
  refine lv_if_eq (tgt := 26) hx hb dX10_withdraw_9 (by decide) (fun c2 => ?_) (fun c9 => absurd c9 (by decide))
  refine lv_iconst (v := 0) hx hb dX10_withdraw_26 (by decide) ?_
  have hPc := hP.sub (ws' := [(w0, .inr (11, [.ref v0, .ref v1, .ref v2, .ref v3, .ref v4, .long 0, .long 0, .int 0, .int th, .ref v9, .int 0, .int 0, .int (-1), .ref v13, .int 0, .int 0, .int 0, .int 0, .int 0, .int 0, .int 0, .int 0, .int 0, .int 0, .int 0, .long 0, .int 0, .ref v27, .ref v28, .ref v29, .ref v30, .ref v31, .ref v32, .ref v33, .ref v34, .ref v35, .ref v36, .ref v37, .int 0]))]) [0] rfl
  have hDc := hD.sub (ws' := [(w0, .inr (11, [.ref v0, .ref v1, .ref v2, .ref v3, .ref v4, .long 0, .long 0, .int 0, .int th, .ref v9, .int 0, .int 0, .int (-1), .ref v13, .int 0, .int 0, .int 0, .int 0, .int 0, .int 0, .int 0, .int 0, .int 0, .int 0, .int 0, .long 0, .int 0, .ref v27, .ref v28, .ref v29, .ref v30, .ref v31, .ref v32, .ref v33, .ref v34, .ref v35, .ref v36, .ref v37, .int 0]))]) [0] (by decide) rfl
  have hFc := va_free (wc := [(w0, .inr (11, [.ref v0, .ref v1, .ref v2, .ref v3, .ref v4, .long 0, .long 0, .int 0, .int th, .ref v9, .int 0, .int 0, .int (-1), .ref v13, .int 0, .int 0, .int 0, .int 0, .int 0, .int 0, .int 0, .int 0, .int 0, .int 0, .int 0, .long 0, .int 0, .ref v27, .ref v28, .ref v29, .ref v30, .ref v31, .ref v32, .ref v33, .ref v34, .ref v35, .ref v36, .ref v37, .int 0]))]) hD hS hA [0] rfl
  refine va_calli (va_runV (As := [.int 0, .int 0]) (rest := []) ⟨hx, hb, hml, hown, hts⟩ (c_m_good2_0 l D cA sa w0 v0 v1 v2 v3 v4 v9 v13 v27 v28 v29 v30 v31 v32 v33 v34 v35 v36 v37 th 0 H.size) (cwV 2 hts gX10_withdraw_X10_good_ rfl rfl rfl (by decide +kernel) ⟨(Nat.le_of_ble_eq_true rfl), (Nat.le_of_ble_eq_true rfl)⟩) ⟨Wd.blind, va_recv hK hPc (ci := 11) (q0 := 0) rfl rfl, fun U hU hW => ⟨rfl, Wd.call hPc hDc hK hC hZ hS hFc U hU hW⟩⟩ rfl rfl hl.1 rfl (lv_room (Nat.le_of_ble_eq_true rfl)) dX10_withdraw_27 ⟨(Nat.le_of_ble_eq_true rfl), (Nat.le_of_ble_eq_true rfl)⟩) hS (fun q _ h => hFc q h) hFc (fun rn3 u t H1 locs ht hvm hw hB hz1 hk1 hS => ?_)
  obtain ⟨hP1, hD1⟩ := hB
  rw [ht] at hP1
  obtain ⟨hP, hD⟩ := va_join (wr := [(v0, .inl (cA 0, 326, .inl fs))]) (w1 := [(w0, .inr (11, [.ref v0, .ref v1, .ref v2, .ref v3, .ref v4, .long 0, .long 0, .int 0, .int 1, .ref v9, .int 0, .int 0, .int (-1), .ref v13, .int 0, .int 0, .int 0, .int 0, .int 0, .int 0, .int 0, .int 0, .int 0, .int 0, .int 0, .long 0, .int 0, .ref v27, .ref v28, .ref v29, .ref v30, .ref v31, .ref v32, .ref v33, .ref v34, .ref v35, .ref v36, .ref v37, .int 0]))]) hP hD [0] [1] rfl rfl (by decide) (by decide) hk1 hFc hP1 hD1
  generalize H1 = H at hP hS ⊢
  have hP : va_P D vwCl [(v0, .inl (cA 0, 326, .inl fs)), (w0, .inr (11, [.ref v0, .ref v1, .ref v2, .ref v3, .ref v4, .long 0, .long 0, .int 0, .int 1, .ref v9, .int 0, .int 0, .int (-1), .ref v13, .int 0, .int 0, .int 0, .int 0, .int 0, .int 0, .int 0, .int 0, .int 0, .int 0, .int 0, .long 0, .int 0, .ref v27, .ref v28, .ref v29, .ref v30, .ref v31, .ref v32, .ref v33, .ref v34, .ref v35, .ref v36, .ref v37, .int 0]))] H := hP
  have hD : va_D A [(v0, .inl (cA 0, 326, .inl fs)), (w0, .inr (11, [.ref v0, .ref v1, .ref v2, .ref v3, .ref v4, .long 0, .long 0, .int 0, .int 1, .ref v9, .int 0, .int 0, .int (-1), .ref v13, .int 0, .int 0, .int 0, .int 0, .int 0, .int 0, .int 0, .int 0, .int 0, .int 0, .int 0, .long 0, .int 0, .ref v27, .ref v28, .ref v29, .ref v30, .ref v31, .ref v32, .ref v33, .ref v34, .ref v35, .ref v36, .ref v37, .int 0]))] := hD
  obtain rfl : rn3 = 0 := hw
  refine lv_if_ne (tgt := 35) hx hb dX10_withdraw_30 (by decide) (fun c9 => absurd c9 (by decide)) (fun c4 => ?_)
  refine lv_iconst (v := 0) hx hb dX10_withdraw_33 (by decide) ?_
  have hP9 := hP.sub (ws' := [(w0, .inr (11, [.ref v0, .ref v1, .ref v2, .ref v3, .ref v4, .long 0, .long 0, .int 0, .int 1, .ref v9, .int 0, .int 0, .int (-1), .ref v13, .int 0, .int 0, .int 0, .int 0, .int 0, .int 0, .int 0, .int 0, .int 0, .int 0, .int 0, .long 0, .int 0, .ref v27, .ref v28, .ref v29, .ref v30, .ref v31, .ref v32, .ref v33, .ref v34, .ref v35, .ref v36, .ref v37, .int 0]))]) [1] rfl
  have hD9 := hD.sub (ws' := [(w0, .inr (11, [.ref v0, .ref v1, .ref v2, .ref v3, .ref v4, .long 0, .long 0, .int 0, .int 1, .ref v9, .int 0, .int 0, .int (-1), .ref v13, .int 0, .int 0, .int 0, .int 0, .int 0, .int 0, .int 0, .int 0, .int 0, .int 0, .int 0, .long 0, .int 0, .ref v27, .ref v28, .ref v29, .ref v30, .ref v31, .ref v32, .ref v33, .ref v34, .ref v35, .ref v36, .ref v37, .int 0]))]) [1] (by decide) rfl
  refine W.widen (k := 0) (n := 0) (Nat.le_of_ble_eq_true rfl) (Nat.le_of_ble_eq_true rfl) ?_
  exact W.iret (v := 0) hx hb hr (fun t ht hW => ⟨⟨0, (), rfl, rfl, by rw [ht]; exact hP9, hD9⟩, hS.F ht⟩) hS.2.2 dX10_withdraw_34

set_option maxHeartbeats 4000000 in
set_option maxRecDepth 100000 in
/-- cancel: thrown 1 -/
theorem c_m_cancel (l : Launch) (D : va_G) (cA : Nat → ClassId) (sa : Nat → Nat) (w0 v0 v1 v2 v3 v4 v9 v13 v27 v28 v29 v30 v31 v32 v33 v34 v35 v36 v37 : Nat) (th : Int32) (fs : Nat → Int32) (i : Int32) (sz : Nat) (hz : Zs fs) : Met l yX10_cancel wsX10_cancel ({ frames := 2, cells := 0, slots := 0, locals := 46 }) (va_Pc [.ref w0, .int i] (Wd D cA sa [(w0, .inr (11, [.ref v0, .ref v1, .ref v2, .ref v3, .ref v4, .long 0, .long 0, .int 0, .int th, .ref v9, .int 0, .int 0, .int (-1), .ref v13, .int 0, .int 0, .int 0, .int 0, .int 0, .int 0, .int 0, .int 0, .int 0, .int 0, .int 0, .long 0, .int 0, .ref v27, .ref v28, .ref v29, .ref v30, .ref v31, .ref v32, .ref v33, .ref v34, .ref v35, .ref v36, .ref v37, .int 0])), (v0, .inl (cA 0, 326, .inl fs))] sz)) (va_Qi (fun (r : Int32) (_ : Unit) => r = 0) (fun (_ : Unit) t => Wq D (va_A [(w0, .inr (11, [.ref v0, .ref v1, .ref v2, .ref v3, .ref v4, .long 0, .long 0, .int 0, .int th, .ref v9, .int 0, .int 0, .int (-1), .ref v13, .int 0, .int 0, .int 0, .int 0, .int 0, .int 0, .int 0, .int 0, .int 0, .int 0, .int 0, .long 0, .int 0, .ref v27, .ref v28, .ref v29, .ref v30, .ref v31, .ref v32, .ref v33, .ref v34, .ref v35, .ref v36, .ref v37, .int 0])), (v0, .inl (cA 0, 326, .inl fs))] sz) [(w0, .inr (11, [.ref v0, .ref v1, .ref v2, .ref v3, .ref v4, .long 0, .long 0, .int 0, .int 1, .ref v9, .int 0, .int 0, .int (-1), .ref v13, .int 0, .int 0, .int 0, .int 0, .int 0, .int 0, .int 0, .int 0, .int 0, .int 0, .int 0, .long 0, .int 0, .ref v27, .ref v28, .ref v29, .ref v30, .ref v31, .ref v32, .ref v33, .ref v34, .ref v35, .ref v36, .ref v37, .int 0]))] t) (va_A [(w0, .inr (11, [.ref v0, .ref v1, .ref v2, .ref v3, .ref v4, .long 0, .long 0, .int 0, .int th, .ref v9, .int 0, .int 0, .int (-1), .ref v13, .int 0, .int 0, .int 0, .int 0, .int 0, .int 0, .int 0, .int 0, .int 0, .int 0, .int 0, .long 0, .int 0, .ref v27, .ref v28, .ref v29, .ref v30, .ref v31, .ref v32, .ref v33, .ref v34, .ref v35, .ref v36, .ref v37, .int 0])), (v0, .inl (cA 0, 326, .inl fs))] sz)) 0 0 (va_A [(w0, .inr (11, [.ref v0, .ref v1, .ref v2, .ref v3, .ref v4, .long 0, .long 0, .int 0, .int th, .ref v9, .int 0, .int 0, .int (-1), .ref v13, .int 0, .int 0, .int 0, .int 0, .int 0, .int 0, .int 0, .int 0, .int 0, .int 0, .int 0, .long 0, .int 0, .ref v27, .ref v28, .ref v29, .ref v30, .ref v31, .ref v32, .ref v33, .ref v34, .ref v35, .ref v36, .ref v37, .int 0])), (v0, .inl (cA 0, 326, .inl fs))] sz) := by
  refine Met.ofW (cc := cX10_cancel) (maxL := 4) (ret := (some .int)) (by decide) rfl ?_
  intro p e s m args below meth c s₁ B hml hv
  obtain ⟨rfl, hsz, hP, hK, hD0, hC, hZ⟩ := hv
  have hx := B.exec
  have hb := B.bytes
  have hr := B.returns
  have hts := atoms_spec (ws := wsX10_cancel) B.pre
  have hown : s.vm.findClass RX10 = some m.cls := findClass_of_methodNamed B.named
  have hlocks := B.notSynchronized
  subst hsz
  have hD := hD0.self (sz := s.heap.size)
  generalize hAe : va_A [(w0, .inr (11, [.ref v0, .ref v1, .ref v2, .ref v3, .ref v4, .long 0, .long 0, .int 0, .int th, .ref v9, .int 0, .int 0, .int (-1), .ref v13, .int 0, .int 0, .int 0, .int 0, .int 0, .int 0, .int 0, .int 0, .int 0, .int 0, .int 0, .long 0, .int 0, .ref v27, .ref v28, .ref v29, .ref v30, .ref v31, .ref v32, .ref v33, .ref v34, .ref v35, .ref v36, .ref v37, .int 0])), (v0, .inl (cA 0, 326, .inl fs))] s.heap.size = A at hD hZ ⊢
  have hA : ∀ q : Nat, s.heap.size ≤ q → A q := fun q h => by rw [← hAe]; exact Or.inr h
  have hS : va_S A s.heap s.heap [] := va_S.rf
  have hP : va_P D vwCl [(w0, .inr (11, [.ref v0, .ref v1, .ref v2, .ref v3, .ref v4, .long 0, .long 0, .int 0, .int th, .ref v9, .int 0, .int 0, .int (-1), .ref v13, .int 0, .int 0, .int 0, .int 0, .int 0, .int 0, .int 0, .int 0, .int 0, .int 0, .int 0, .long 0, .int 0, .ref v27, .ref v28, .ref v29, .ref v30, .ref v31, .ref v32, .ref v33, .ref v34, .ref v35, .ref v36, .ref v37, .int 0])), (v0, .inl (cA 0, 326, .inl fs))] s.heap := hP
  have hl := lv_entry ([.ref w0, .int i]) (n := 4) (Nat.le_of_ble_eq_true rfl)
  rw [lg_entry_eq]
  generalize (lg_sl ([.ref w0, .int i]) ++ List.replicate (4 - (lg_sl ([.ref w0, .int i])).length) Slot.unset).toArray = ls at hl ⊢
  have hl : lv_has ls 4 [(0, .ref w0), (1, .int i)] := hl
  refine lv_aload_n hx hb dX10_cancel_0 rfl (lv_at hl 0 rfl) ?_
  refine lv_iload_n hx hb dX10_cancel_1 rfl (lv_at hl 1 rfl) ?_
  have hPc := hP.sub (ws' := [(w0, .inr (11, [.ref v0, .ref v1, .ref v2, .ref v3, .ref v4, .long 0, .long 0, .int 0, .int th, .ref v9, .int 0, .int 0, .int (-1), .ref v13, .int 0, .int 0, .int 0, .int 0, .int 0, .int 0, .int 0, .int 0, .int 0, .int 0, .int 0, .long 0, .int 0, .ref v27, .ref v28, .ref v29, .ref v30, .ref v31, .ref v32, .ref v33, .ref v34, .ref v35, .ref v36, .ref v37, .int 0])), (v0, .inl (cA 0, 326, .inl fs))]) [0, 1] rfl
  have hDc := hD.sub (ws' := [(w0, .inr (11, [.ref v0, .ref v1, .ref v2, .ref v3, .ref v4, .long 0, .long 0, .int 0, .int th, .ref v9, .int 0, .int 0, .int (-1), .ref v13, .int 0, .int 0, .int 0, .int 0, .int 0, .int 0, .int 0, .int 0, .int 0, .int 0, .int 0, .long 0, .int 0, .ref v27, .ref v28, .ref v29, .ref v30, .ref v31, .ref v32, .ref v33, .ref v34, .ref v35, .ref v36, .ref v37, .int 0])), (v0, .inl (cA 0, 326, .inl fs))]) [0, 1] (by decide) rfl
  have hFc := va_free (wc := [(w0, .inr (11, [.ref v0, .ref v1, .ref v2, .ref v3, .ref v4, .long 0, .long 0, .int 0, .int th, .ref v9, .int 0, .int 0, .int (-1), .ref v13, .int 0, .int 0, .int 0, .int 0, .int 0, .int 0, .int 0, .int 0, .int 0, .int 0, .int 0, .long 0, .int 0, .ref v27, .ref v28, .ref v29, .ref v30, .ref v31, .ref v32, .ref v33, .ref v34, .ref v35, .ref v36, .ref v37, .int 0])), (v0, .inl (cA 0, 326, .inl fs))]) hD hS hA [0, 1] rfl
  refine va_calli (va_runV (As := [.int i]) (rest := []) ⟨hx, hb, hml, hown, hts⟩ (c_m_isMilestone l D cA sa w0 v0 v1 v2 v3 v4 v9 v13 v27 v28 v29 v30 v31 v32 v33 v34 v35 v36 v37 th fs i s.heap.size hz) (cwV 1 hts gX10_cancel_X10_isMilestone rfl rfl rfl (by decide +kernel) ⟨(Nat.le_of_ble_eq_true rfl), (Nat.le_of_ble_eq_true rfl)⟩) ⟨Wd.blind, va_recv hK hPc (ci := 11) (q0 := 0) rfl rfl, fun U hU hW => ⟨rfl, Wd.call hPc hDc hK hC hZ hS hFc U hU hW⟩⟩ rfl rfl hl.1 rfl (lv_room (Nat.le_of_ble_eq_true rfl)) dX10_cancel_2 ⟨(Nat.le_of_ble_eq_true rfl), (Nat.le_of_ble_eq_true rfl)⟩) hS (fun q _ h => hFc q h) hFc (fun rn1 u t H1 locs ht hvm hw hB hz1 hk1 hS => ?_)
  obtain ⟨hP1, hD1⟩ := hB
  rw [ht] at hP1
  obtain ⟨hP, hD⟩ := va_join (wr := []) (w1 := [(w0, .inr (11, [.ref v0, .ref v1, .ref v2, .ref v3, .ref v4, .long 0, .long 0, .int 0, .int th, .ref v9, .int 0, .int 0, .int (-1), .ref v13, .int 0, .int 0, .int 0, .int 0, .int 0, .int 0, .int 0, .int 0, .int 0, .int 0, .int 0, .long 0, .int 0, .ref v27, .ref v28, .ref v29, .ref v30, .ref v31, .ref v32, .ref v33, .ref v34, .ref v35, .ref v36, .ref v37, .int 0])), (v0, .inl (cA 0, 326, .inl fs))]) hP hD [0, 1] [] rfl rfl (by decide) (by decide) hk1 hFc hP1 hD1
  generalize H1 = H at hP hS ⊢
  have hP : va_P D vwCl [(w0, .inr (11, [.ref v0, .ref v1, .ref v2, .ref v3, .ref v4, .long 0, .long 0, .int 0, .int th, .ref v9, .int 0, .int 0, .int (-1), .ref v13, .int 0, .int 0, .int 0, .int 0, .int 0, .int 0, .int 0, .int 0, .int 0, .int 0, .int 0, .long 0, .int 0, .ref v27, .ref v28, .ref v29, .ref v30, .ref v31, .ref v32, .ref v33, .ref v34, .ref v35, .ref v36, .ref v37, .int 0])), (v0, .inl (cA 0, 326, .inl fs))] H := hP
  have hD : va_D A [(w0, .inr (11, [.ref v0, .ref v1, .ref v2, .ref v3, .ref v4, .long 0, .long 0, .int 0, .int th, .ref v9, .int 0, .int 0, .int (-1), .ref v13, .int 0, .int 0, .int 0, .int 0, .int 0, .int 0, .int 0, .int 0, .int 0, .int 0, .int 0, .long 0, .int 0, .ref v27, .ref v28, .ref v29, .ref v30, .ref v31, .ref v32, .ref v33, .ref v34, .ref v35, .ref v36, .ref v37, .int 0])), (v0, .inl (cA 0, 326, .inl fs))] := hD
  obtain rfl : rn1 = 0 := hw
  refine lv_istore_n (lv' := [(2, .int 0), (0, .ref w0), (1, .int i)]) hx hb dX10_cancel_5 rfl hl (by decide) rfl (fun ls hl => ?_)
  refine lv_aload_n hx hb dX10_cancel_6 rfl (lv_at hl 1 rfl) ?_
  refine lv_iload_n hx hb dX10_cancel_7 rfl (lv_at hl 0 rfl) ?_
  refine lv_iload_n hx hb dX10_cancel_8 rfl (lv_at hl 0 rfl) ?_
  refine lv_if_eq (tgt := 24) hx hb dX10_cancel_9 (by decide) (fun c2 => ?_) (fun c9 => absurd c9 (by decide))
  refine lv_iconst (v := 0) hx hb dX10_cancel_24 (by decide) ?_
  have hPc := hP.sub (ws' := [(w0, .inr (11, [.ref v0, .ref v1, .ref v2, .ref v3, .ref v4, .long 0, .long 0, .int 0, .int th, .ref v9, .int 0, .int 0, .int (-1), .ref v13, .int 0, .int 0, .int 0, .int 0, .int 0, .int 0, .int 0, .int 0, .int 0, .int 0, .int 0, .long 0, .int 0, .ref v27, .ref v28, .ref v29, .ref v30, .ref v31, .ref v32, .ref v33, .ref v34, .ref v35, .ref v36, .ref v37, .int 0]))]) [0] rfl
  have hDc := hD.sub (ws' := [(w0, .inr (11, [.ref v0, .ref v1, .ref v2, .ref v3, .ref v4, .long 0, .long 0, .int 0, .int th, .ref v9, .int 0, .int 0, .int (-1), .ref v13, .int 0, .int 0, .int 0, .int 0, .int 0, .int 0, .int 0, .int 0, .int 0, .int 0, .int 0, .long 0, .int 0, .ref v27, .ref v28, .ref v29, .ref v30, .ref v31, .ref v32, .ref v33, .ref v34, .ref v35, .ref v36, .ref v37, .int 0]))]) [0] (by decide) rfl
  have hFc := va_free (wc := [(w0, .inr (11, [.ref v0, .ref v1, .ref v2, .ref v3, .ref v4, .long 0, .long 0, .int 0, .int th, .ref v9, .int 0, .int 0, .int (-1), .ref v13, .int 0, .int 0, .int 0, .int 0, .int 0, .int 0, .int 0, .int 0, .int 0, .int 0, .int 0, .long 0, .int 0, .ref v27, .ref v28, .ref v29, .ref v30, .ref v31, .ref v32, .ref v33, .ref v34, .ref v35, .ref v36, .ref v37, .int 0]))]) hD hS hA [0] rfl
  refine va_calli (va_runV (As := [.int 0, .int 0]) (rest := []) ⟨hx, hb, hml, hown, hts⟩ (c_m_good2_0 l D cA sa w0 v0 v1 v2 v3 v4 v9 v13 v27 v28 v29 v30 v31 v32 v33 v34 v35 v36 v37 th 0 H.size) (cwV 2 hts gX10_cancel_X10_good_ rfl rfl rfl (by decide +kernel) ⟨(Nat.le_of_ble_eq_true rfl), (Nat.le_of_ble_eq_true rfl)⟩) ⟨Wd.blind, va_recv hK hPc (ci := 11) (q0 := 0) rfl rfl, fun U hU hW => ⟨rfl, Wd.call hPc hDc hK hC hZ hS hFc U hU hW⟩⟩ rfl rfl hl.1 rfl (lv_room (Nat.le_of_ble_eq_true rfl)) dX10_cancel_25 ⟨(Nat.le_of_ble_eq_true rfl), (Nat.le_of_ble_eq_true rfl)⟩) hS (fun q _ h => hFc q h) hFc (fun rn3 u t H1 locs ht hvm hw hB hz1 hk1 hS => ?_)
  obtain ⟨hP1, hD1⟩ := hB
  rw [ht] at hP1
  obtain ⟨hP, hD⟩ := va_join (wr := [(v0, .inl (cA 0, 326, .inl fs))]) (w1 := [(w0, .inr (11, [.ref v0, .ref v1, .ref v2, .ref v3, .ref v4, .long 0, .long 0, .int 0, .int 1, .ref v9, .int 0, .int 0, .int (-1), .ref v13, .int 0, .int 0, .int 0, .int 0, .int 0, .int 0, .int 0, .int 0, .int 0, .int 0, .int 0, .long 0, .int 0, .ref v27, .ref v28, .ref v29, .ref v30, .ref v31, .ref v32, .ref v33, .ref v34, .ref v35, .ref v36, .ref v37, .int 0]))]) hP hD [0] [1] rfl rfl (by decide) (by decide) hk1 hFc hP1 hD1
  generalize H1 = H at hP hS ⊢
  have hP : va_P D vwCl [(v0, .inl (cA 0, 326, .inl fs)), (w0, .inr (11, [.ref v0, .ref v1, .ref v2, .ref v3, .ref v4, .long 0, .long 0, .int 0, .int 1, .ref v9, .int 0, .int 0, .int (-1), .ref v13, .int 0, .int 0, .int 0, .int 0, .int 0, .int 0, .int 0, .int 0, .int 0, .int 0, .int 0, .long 0, .int 0, .ref v27, .ref v28, .ref v29, .ref v30, .ref v31, .ref v32, .ref v33, .ref v34, .ref v35, .ref v36, .ref v37, .int 0]))] H := hP
  have hD : va_D A [(v0, .inl (cA 0, 326, .inl fs)), (w0, .inr (11, [.ref v0, .ref v1, .ref v2, .ref v3, .ref v4, .long 0, .long 0, .int 0, .int 1, .ref v9, .int 0, .int 0, .int (-1), .ref v13, .int 0, .int 0, .int 0, .int 0, .int 0, .int 0, .int 0, .int 0, .int 0, .int 0, .int 0, .long 0, .int 0, .ref v27, .ref v28, .ref v29, .ref v30, .ref v31, .ref v32, .ref v33, .ref v34, .ref v35, .ref v36, .ref v37, .int 0]))] := hD
  obtain rfl : rn3 = 0 := hw
  refine lv_if_ne (tgt := 33) hx hb dX10_cancel_28 (by decide) (fun c9 => absurd c9 (by decide)) (fun c4 => ?_)
  refine lv_iconst (v := 0) hx hb dX10_cancel_31 (by decide) ?_
  have hP9 := hP.sub (ws' := [(w0, .inr (11, [.ref v0, .ref v1, .ref v2, .ref v3, .ref v4, .long 0, .long 0, .int 0, .int 1, .ref v9, .int 0, .int 0, .int (-1), .ref v13, .int 0, .int 0, .int 0, .int 0, .int 0, .int 0, .int 0, .int 0, .int 0, .int 0, .int 0, .long 0, .int 0, .ref v27, .ref v28, .ref v29, .ref v30, .ref v31, .ref v32, .ref v33, .ref v34, .ref v35, .ref v36, .ref v37, .int 0]))]) [1] rfl
  have hD9 := hD.sub (ws' := [(w0, .inr (11, [.ref v0, .ref v1, .ref v2, .ref v3, .ref v4, .long 0, .long 0, .int 0, .int 1, .ref v9, .int 0, .int 0, .int (-1), .ref v13, .int 0, .int 0, .int 0, .int 0, .int 0, .int 0, .int 0, .int 0, .int 0, .int 0, .int 0, .long 0, .int 0, .ref v27, .ref v28, .ref v29, .ref v30, .ref v31, .ref v32, .ref v33, .ref v34, .ref v35, .ref v36, .ref v37, .int 0]))]) [1] (by decide) rfl
  refine W.widen (k := 0) (n := 0) (Nat.le_of_ble_eq_true rfl) (Nat.le_of_ble_eq_true rfl) ?_
  exact W.iret (v := 0) hx hb hr (fun t ht hW => ⟨⟨0, (), rfl, rfl, by rw [ht]; exact hP9, hD9⟩, hS.F ht⟩) hS.2.2 dX10_cancel_32

set_option maxHeartbeats 4000000 in
set_option maxRecDepth 100000 in
/-- canSplit: thrown 1 -/
theorem c_m_canSplit (l : Launch) (D : va_G) (cA : Nat → ClassId) (sa : Nat → Nat) (w0 v0 v1 v2 v3 v4 v9 v13 v27 v28 v29 v30 v31 v32 v33 v34 v35 v36 v37 : Nat) (th : Int32) (fs : Nat → Int32) (i b : Int32) (sz : Nat) (hz : Zs fs) : Met l yX10_canSplit wsX10_canSplit ({ frames := 2, cells := 0, slots := 0, locals := 46 }) (va_Pc [.ref w0, .int i, .int b] (Wd D cA sa [(w0, .inr (11, [.ref v0, .ref v1, .ref v2, .ref v3, .ref v4, .long 0, .long 0, .int 0, .int th, .ref v9, .int 0, .int 0, .int (-1), .ref v13, .int 0, .int 0, .int 0, .int 0, .int 0, .int 0, .int 0, .int 0, .int 0, .int 0, .int 0, .long 0, .int 0, .ref v27, .ref v28, .ref v29, .ref v30, .ref v31, .ref v32, .ref v33, .ref v34, .ref v35, .ref v36, .ref v37, .int 0])), (v0, .inl (cA 0, 326, .inl fs))] sz)) (va_Qi (fun (r : Int32) (_ : Unit) => r = 0) (fun (_ : Unit) t => Wq D (va_A [(w0, .inr (11, [.ref v0, .ref v1, .ref v2, .ref v3, .ref v4, .long 0, .long 0, .int 0, .int th, .ref v9, .int 0, .int 0, .int (-1), .ref v13, .int 0, .int 0, .int 0, .int 0, .int 0, .int 0, .int 0, .int 0, .int 0, .int 0, .int 0, .long 0, .int 0, .ref v27, .ref v28, .ref v29, .ref v30, .ref v31, .ref v32, .ref v33, .ref v34, .ref v35, .ref v36, .ref v37, .int 0])), (v0, .inl (cA 0, 326, .inl fs))] sz) [(w0, .inr (11, [.ref v0, .ref v1, .ref v2, .ref v3, .ref v4, .long 0, .long 0, .int 0, .int 1, .ref v9, .int 0, .int 0, .int (-1), .ref v13, .int 0, .int 0, .int 0, .int 0, .int 0, .int 0, .int 0, .int 0, .int 0, .int 0, .int 0, .long 0, .int 0, .ref v27, .ref v28, .ref v29, .ref v30, .ref v31, .ref v32, .ref v33, .ref v34, .ref v35, .ref v36, .ref v37, .int 0]))] t) (va_A [(w0, .inr (11, [.ref v0, .ref v1, .ref v2, .ref v3, .ref v4, .long 0, .long 0, .int 0, .int th, .ref v9, .int 0, .int 0, .int (-1), .ref v13, .int 0, .int 0, .int 0, .int 0, .int 0, .int 0, .int 0, .int 0, .int 0, .int 0, .int 0, .long 0, .int 0, .ref v27, .ref v28, .ref v29, .ref v30, .ref v31, .ref v32, .ref v33, .ref v34, .ref v35, .ref v36, .ref v37, .int 0])), (v0, .inl (cA 0, 326, .inl fs))] sz)) 0 0 (va_A [(w0, .inr (11, [.ref v0, .ref v1, .ref v2, .ref v3, .ref v4, .long 0, .long 0, .int 0, .int th, .ref v9, .int 0, .int 0, .int (-1), .ref v13, .int 0, .int 0, .int 0, .int 0, .int 0, .int 0, .int 0, .int 0, .int 0, .int 0, .int 0, .long 0, .int 0, .ref v27, .ref v28, .ref v29, .ref v30, .ref v31, .ref v32, .ref v33, .ref v34, .ref v35, .ref v36, .ref v37, .int 0])), (v0, .inl (cA 0, 326, .inl fs))] sz) := by
  refine Met.ofW (cc := cX10_canSplit) (maxL := 3) (ret := (some .boolean)) (by decide) rfl ?_
  intro p e s m args below meth c s₁ B hml hv
  obtain ⟨rfl, hsz, hP, hK, hD0, hC, hZ⟩ := hv
  have hx := B.exec
  have hb := B.bytes
  have hr := B.returns
  have hts := atoms_spec (ws := wsX10_canSplit) B.pre
  have hown : s.vm.findClass RX10 = some m.cls := findClass_of_methodNamed B.named
  have hlocks := B.notSynchronized
  subst hsz
  have hD := hD0.self (sz := s.heap.size)
  generalize hAe : va_A [(w0, .inr (11, [.ref v0, .ref v1, .ref v2, .ref v3, .ref v4, .long 0, .long 0, .int 0, .int th, .ref v9, .int 0, .int 0, .int (-1), .ref v13, .int 0, .int 0, .int 0, .int 0, .int 0, .int 0, .int 0, .int 0, .int 0, .int 0, .int 0, .long 0, .int 0, .ref v27, .ref v28, .ref v29, .ref v30, .ref v31, .ref v32, .ref v33, .ref v34, .ref v35, .ref v36, .ref v37, .int 0])), (v0, .inl (cA 0, 326, .inl fs))] s.heap.size = A at hD hZ ⊢
  have hA : ∀ q : Nat, s.heap.size ≤ q → A q := fun q h => by rw [← hAe]; exact Or.inr h
  have hS : va_S A s.heap s.heap [] := va_S.rf
  have hP : va_P D vwCl [(w0, .inr (11, [.ref v0, .ref v1, .ref v2, .ref v3, .ref v4, .long 0, .long 0, .int 0, .int th, .ref v9, .int 0, .int 0, .int (-1), .ref v13, .int 0, .int 0, .int 0, .int 0, .int 0, .int 0, .int 0, .int 0, .int 0, .int 0, .int 0, .long 0, .int 0, .ref v27, .ref v28, .ref v29, .ref v30, .ref v31, .ref v32, .ref v33, .ref v34, .ref v35, .ref v36, .ref v37, .int 0])), (v0, .inl (cA 0, 326, .inl fs))] s.heap := hP
  have hl := lv_entry ([.ref w0, .int i, .int b]) (n := 3) (Nat.le_of_ble_eq_true rfl)
  rw [lg_entry_eq]
  generalize (lg_sl ([.ref w0, .int i, .int b]) ++ List.replicate (3 - (lg_sl ([.ref w0, .int i, .int b])).length) Slot.unset).toArray = ls at hl ⊢
  have hl : lv_has ls 3 [(0, .ref w0), (1, .int i), (2, .int b)] := hl
  have inX10 : ∀ w ∈ u_ws RX10 TX10 39, w ∈ wsX10_canSplit := by decide +kernel
  refine lv_aload_n hx hb dX10_canSplit_0 rfl (lv_at hl 0 rfl) ?_
  refine lv_aload_n hx hb dX10_canSplit_1 rfl (lv_at hl 0 rfl) ?_
  refine lv_iload_n hx hb dX10_canSplit_2 rfl (lv_at hl 1 rfl) ?_
  have hPc := hP.sub (ws' := [(w0, .inr (11, [.ref v0, .ref v1, .ref v2, .ref v3, .ref v4, .long 0, .long 0, .int 0, .int th, .ref v9, .int 0, .int 0, .int (-1), .ref v13, .int 0, .int 0, .int 0, .int 0, .int 0, .int 0, .int 0, .int 0, .int 0, .int 0, .int 0, .long 0, .int 0, .ref v27, .ref v28, .ref v29, .ref v30, .ref v31, .ref v32, .ref v33, .ref v34, .ref v35, .ref v36, .ref v37, .int 0])), (v0, .inl (cA 0, 326, .inl fs))]) [0, 1] rfl
  have hDc := hD.sub (ws' := [(w0, .inr (11, [.ref v0, .ref v1, .ref v2, .ref v3, .ref v4, .long 0, .long 0, .int 0, .int th, .ref v9, .int 0, .int 0, .int (-1), .ref v13, .int 0, .int 0, .int 0, .int 0, .int 0, .int 0, .int 0, .int 0, .int 0, .int 0, .int 0, .long 0, .int 0, .ref v27, .ref v28, .ref v29, .ref v30, .ref v31, .ref v32, .ref v33, .ref v34, .ref v35, .ref v36, .ref v37, .int 0])), (v0, .inl (cA 0, 326, .inl fs))]) [0, 1] (by decide) rfl
  have hFc := va_free (wc := [(w0, .inr (11, [.ref v0, .ref v1, .ref v2, .ref v3, .ref v4, .long 0, .long 0, .int 0, .int th, .ref v9, .int 0, .int 0, .int (-1), .ref v13, .int 0, .int 0, .int 0, .int 0, .int 0, .int 0, .int 0, .int 0, .int 0, .int 0, .int 0, .long 0, .int 0, .ref v27, .ref v28, .ref v29, .ref v30, .ref v31, .ref v32, .ref v33, .ref v34, .ref v35, .ref v36, .ref v37, .int 0])), (v0, .inl (cA 0, 326, .inl fs))]) hD hS hA [0, 1] rfl
  refine va_calli (va_runV (As := [.int i]) (rest := [.ref w0]) ⟨hx, hb, hml, hown, hts⟩ (c_m_isMilestone l D cA sa w0 v0 v1 v2 v3 v4 v9 v13 v27 v28 v29 v30 v31 v32 v33 v34 v35 v36 v37 th fs i s.heap.size hz) (cwV 1 hts gX10_canSplit_X10_isMilestone rfl rfl rfl (by decide +kernel) ⟨(Nat.le_of_ble_eq_true rfl), (Nat.le_of_ble_eq_true rfl)⟩) ⟨Wd.blind, va_recv hK hPc (ci := 11) (q0 := 0) rfl rfl, fun U hU hW => ⟨rfl, Wd.call hPc hDc hK hC hZ hS hFc U hU hW⟩⟩ rfl rfl hl.1 rfl (lv_room (Nat.le_of_ble_eq_true rfl)) dX10_canSplit_3 ⟨(Nat.le_of_ble_eq_true rfl), (Nat.le_of_ble_eq_true rfl)⟩) hS (fun q _ h => hFc q h) hFc (fun rn1 u t H1 locs ht hvm hw hB hz1 hk1 hS => ?_)
  obtain ⟨hP1, hD1⟩ := hB
  rw [ht] at hP1
  obtain ⟨hP, hD⟩ := va_join (wr := []) (w1 := [(w0, .inr (11, [.ref v0, .ref v1, .ref v2, .ref v3, .ref v4, .long 0, .long 0, .int 0, .int th, .ref v9, .int 0, .int 0, .int (-1), .ref v13, .int 0, .int 0, .int 0, .int 0, .int 0, .int 0, .int 0, .int 0, .int 0, .int 0, .int 0, .long 0, .int 0, .ref v27, .ref v28, .ref v29, .ref v30, .ref v31, .ref v32, .ref v33, .ref v34, .ref v35, .ref v36, .ref v37, .int 0])), (v0, .inl (cA 0, 326, .inl fs))]) hP hD [0, 1] [] rfl rfl (by decide) (by decide) hk1 hFc hP1 hD1
  generalize H1 = H at hP hS ⊢
  have hP : va_P D vwCl [(w0, .inr (11, [.ref v0, .ref v1, .ref v2, .ref v3, .ref v4, .long 0, .long 0, .int 0, .int th, .ref v9, .int 0, .int 0, .int (-1), .ref v13, .int 0, .int 0, .int 0, .int 0, .int 0, .int 0, .int 0, .int 0, .int 0, .int 0, .int 0, .long 0, .int 0, .ref v27, .ref v28, .ref v29, .ref v30, .ref v31, .ref v32, .ref v33, .ref v34, .ref v35, .ref v36, .ref v37, .int 0])), (v0, .inl (cA 0, 326, .inl fs))] H := hP
  have hD : va_D A [(w0, .inr (11, [.ref v0, .ref v1, .ref v2, .ref v3, .ref v4, .long 0, .long 0, .int 0, .int th, .ref v9, .int 0, .int 0, .int (-1), .ref v13, .int 0, .int 0, .int 0, .int 0, .int 0, .int 0, .int 0, .int 0, .int 0, .int 0, .int 0, .long 0, .int 0, .ref v27, .ref v28, .ref v29, .ref v30, .ref v31, .ref v32, .ref v33, .ref v34, .ref v35, .ref v36, .ref v37, .int 0])), (v0, .inl (cA 0, 326, .inl fs))] := hD
  obtain rfl : rn1 = 0 := hw
  refine lv_iload_n hx hb dX10_canSplit_6 rfl (lv_at hl 2 rfl) ?_
  have hPc := hP.sub (ws' := [(w0, .inr (11, [.ref v0, .ref v1, .ref v2, .ref v3, .ref v4, .long 0, .long 0, .int 0, .int th, .ref v9, .int 0, .int 0, .int (-1), .ref v13, .int 0, .int 0, .int 0, .int 0, .int 0, .int 0, .int 0, .int 0, .int 0, .int 0, .int 0, .long 0, .int 0, .ref v27, .ref v28, .ref v29, .ref v30, .ref v31, .ref v32, .ref v33, .ref v34, .ref v35, .ref v36, .ref v37, .int 0]))]) [0] rfl
  have hDc := hD.sub (ws' := [(w0, .inr (11, [.ref v0, .ref v1, .ref v2, .ref v3, .ref v4, .long 0, .long 0, .int 0, .int th, .ref v9, .int 0, .int 0, .int (-1), .ref v13, .int 0, .int 0, .int 0, .int 0, .int 0, .int 0, .int 0, .int 0, .int 0, .int 0, .int 0, .long 0, .int 0, .ref v27, .ref v28, .ref v29, .ref v30, .ref v31, .ref v32, .ref v33, .ref v34, .ref v35, .ref v36, .ref v37, .int 0]))]) [0] (by decide) rfl
  have hFc := va_free (wc := [(w0, .inr (11, [.ref v0, .ref v1, .ref v2, .ref v3, .ref v4, .long 0, .long 0, .int 0, .int th, .ref v9, .int 0, .int 0, .int (-1), .ref v13, .int 0, .int 0, .int 0, .int 0, .int 0, .int 0, .int 0, .int 0, .int 0, .int 0, .int 0, .long 0, .int 0, .ref v27, .ref v28, .ref v29, .ref v30, .ref v31, .ref v32, .ref v33, .ref v34, .ref v35, .ref v36, .ref v37, .int 0]))]) hD hS hA [0] rfl
  refine va_calli (va_runV (As := [.int 0, .int b]) (rest := []) ⟨hx, hb, hml, hown, hts⟩ (c_m_good2_0 l D cA sa w0 v0 v1 v2 v3 v4 v9 v13 v27 v28 v29 v30 v31 v32 v33 v34 v35 v36 v37 th b H.size) (cwV 2 hts gX10_canSplit_X10_good_ rfl rfl rfl (by decide +kernel) ⟨(Nat.le_of_ble_eq_true rfl), (Nat.le_of_ble_eq_true rfl)⟩) ⟨Wd.blind, va_recv hK hPc (ci := 11) (q0 := 0) rfl rfl, fun U hU hW => ⟨rfl, Wd.call hPc hDc hK hC hZ hS hFc U hU hW⟩⟩ rfl rfl hl.1 rfl (lv_room (Nat.le_of_ble_eq_true rfl)) dX10_canSplit_7 ⟨(Nat.le_of_ble_eq_true rfl), (Nat.le_of_ble_eq_true rfl)⟩) hS (fun q _ h => hFc q h) hFc (fun rn2 u t H1 locs ht hvm hw hB hz1 hk1 hS => ?_)
  obtain ⟨hP1, hD1⟩ := hB
  rw [ht] at hP1
  obtain ⟨hP, hD⟩ := va_join (wr := [(v0, .inl (cA 0, 326, .inl fs))]) (w1 := [(w0, .inr (11, [.ref v0, .ref v1, .ref v2, .ref v3, .ref v4, .long 0, .long 0, .int 0, .int 1, .ref v9, .int 0, .int 0, .int (-1), .ref v13, .int 0, .int 0, .int 0, .int 0, .int 0, .int 0, .int 0, .int 0, .int 0, .int 0, .int 0, .long 0, .int 0, .ref v27, .ref v28, .ref v29, .ref v30, .ref v31, .ref v32, .ref v33, .ref v34, .ref v35, .ref v36, .ref v37, .int 0]))]) hP hD [0] [1] rfl rfl (by decide) (by decide) hk1 hFc hP1 hD1
  generalize H1 = H at hP hS ⊢
  have hP : va_P D vwCl [(v0, .inl (cA 0, 326, .inl fs)), (w0, .inr (11, [.ref v0, .ref v1, .ref v2, .ref v3, .ref v4, .long 0, .long 0, .int 0, .int 1, .ref v9, .int 0, .int 0, .int (-1), .ref v13, .int 0, .int 0, .int 0, .int 0, .int 0, .int 0, .int 0, .int 0, .int 0, .int 0, .int 0, .long 0, .int 0, .ref v27, .ref v28, .ref v29, .ref v30, .ref v31, .ref v32, .ref v33, .ref v34, .ref v35, .ref v36, .ref v37, .int 0]))] H := hP
  have hD : va_D A [(v0, .inl (cA 0, 326, .inl fs)), (w0, .inr (11, [.ref v0, .ref v1, .ref v2, .ref v3, .ref v4, .long 0, .long 0, .int 0, .int 1, .ref v9, .int 0, .int 0, .int (-1), .ref v13, .int 0, .int 0, .int 0, .int 0, .int 0, .int 0, .int 0, .int 0, .int 0, .int 0, .int 0, .long 0, .int 0, .ref v27, .ref v28, .ref v29, .ref v30, .ref v31, .ref v32, .ref v33, .ref v34, .ref v35, .ref v36, .ref v37, .int 0]))] := hD
  obtain rfl : rn2 = 0 := hw
  refine lv_if_eq (tgt := 32) hx hb dX10_canSplit_10 (by decide) (fun c3 => ?_) (fun c9 => absurd c9 (by decide))
  refine lv_aload_n hx hb dX10_canSplit_32 rfl (lv_at hl 0 rfl) ?_
  refine va_get (D := D) (ci := 11) (v := .int 1) (C := RX10) (T := TX10) (N := 39) hx hb hts inX10 hown hK hP 1 rfl rfl 8 (by decide) (hts (.fieldLink RX10 80 "EscrowDeskModel" "thrown" "I") (by decide +kernel)) (fun _ h9 => h9) rfl dX10_canSplit_33 ?_
  refine lv_if_ne (tgt := 43) hx hb dX10_canSplit_36 (by decide) (fun c4 => ?_) (fun c9 => absurd c9 (by decide))
  refine lv_iconst (v := 0) hx hb dX10_canSplit_43 (by decide) ?_
  have hP9 := hP.sub (ws' := [(w0, .inr (11, [.ref v0, .ref v1, .ref v2, .ref v3, .ref v4, .long 0, .long 0, .int 0, .int 1, .ref v9, .int 0, .int 0, .int (-1), .ref v13, .int 0, .int 0, .int 0, .int 0, .int 0, .int 0, .int 0, .int 0, .int 0, .int 0, .int 0, .long 0, .int 0, .ref v27, .ref v28, .ref v29, .ref v30, .ref v31, .ref v32, .ref v33, .ref v34, .ref v35, .ref v36, .ref v37, .int 0]))]) [1] rfl
  have hD9 := hD.sub (ws' := [(w0, .inr (11, [.ref v0, .ref v1, .ref v2, .ref v3, .ref v4, .long 0, .long 0, .int 0, .int 1, .ref v9, .int 0, .int 0, .int (-1), .ref v13, .int 0, .int 0, .int 0, .int 0, .int 0, .int 0, .int 0, .int 0, .int 0, .int 0, .int 0, .long 0, .int 0, .ref v27, .ref v28, .ref v29, .ref v30, .ref v31, .ref v32, .ref v33, .ref v34, .ref v35, .ref v36, .ref v37, .int 0]))]) [1] (by decide) rfl
  refine W.widen (k := 0) (n := 0) (Nat.le_of_ble_eq_true rfl) (Nat.le_of_ble_eq_true rfl) ?_
  exact W.zret (v := 0) hx hb hr (by first | rfl | decide) (fun t ht hW => ⟨⟨0, (), rfl, rfl, by rw [ht]; exact hP9, hD9⟩, hS.F ht⟩) hS.2.2 dX10_canSplit_44

set_option maxHeartbeats 4000000 in
set_option maxRecDepth 100000 in
/-- wouldHold: thrown 1 -/
theorem c_m_wouldHold (l : Launch) (D : va_G) (cA : Nat → ClassId) (sa : Nat → Nat) (w0 v0 v1 v2 v3 v4 v9 v13 v27 v28 v29 v30 v31 v32 v33 v34 v35 v36 v37 : Nat) (th : Int32) (fs : Nat → Int32) (i j : Int32) (sz : Nat) (hz : Zs fs) : Met l yX10_wouldHold wsX10_wouldHold ({ frames := 2, cells := 0, slots := 0, locals := 46 }) (va_Pc [.ref w0, .int i, .int j] (Wd D cA sa [(w0, .inr (11, [.ref v0, .ref v1, .ref v2, .ref v3, .ref v4, .long 0, .long 0, .int 0, .int th, .ref v9, .int 0, .int 0, .int (-1), .ref v13, .int 0, .int 0, .int 0, .int 0, .int 0, .int 0, .int 0, .int 0, .int 0, .int 0, .int 0, .long 0, .int 0, .ref v27, .ref v28, .ref v29, .ref v30, .ref v31, .ref v32, .ref v33, .ref v34, .ref v35, .ref v36, .ref v37, .int 0])), (v0, .inl (cA 0, 326, .inl fs))] sz)) (va_Qi (fun (r : Int32) (_ : Unit) => r = 0) (fun (_ : Unit) t => Wq D (va_A [(w0, .inr (11, [.ref v0, .ref v1, .ref v2, .ref v3, .ref v4, .long 0, .long 0, .int 0, .int th, .ref v9, .int 0, .int 0, .int (-1), .ref v13, .int 0, .int 0, .int 0, .int 0, .int 0, .int 0, .int 0, .int 0, .int 0, .int 0, .int 0, .long 0, .int 0, .ref v27, .ref v28, .ref v29, .ref v30, .ref v31, .ref v32, .ref v33, .ref v34, .ref v35, .ref v36, .ref v37, .int 0])), (v0, .inl (cA 0, 326, .inl fs))] sz) [(w0, .inr (11, [.ref v0, .ref v1, .ref v2, .ref v3, .ref v4, .long 0, .long 0, .int 0, .int 1, .ref v9, .int 0, .int 0, .int (-1), .ref v13, .int 0, .int 0, .int 0, .int 0, .int 0, .int 0, .int 0, .int 0, .int 0, .int 0, .int 0, .long 0, .int 0, .ref v27, .ref v28, .ref v29, .ref v30, .ref v31, .ref v32, .ref v33, .ref v34, .ref v35, .ref v36, .ref v37, .int 0]))] t) (va_A [(w0, .inr (11, [.ref v0, .ref v1, .ref v2, .ref v3, .ref v4, .long 0, .long 0, .int 0, .int th, .ref v9, .int 0, .int 0, .int (-1), .ref v13, .int 0, .int 0, .int 0, .int 0, .int 0, .int 0, .int 0, .int 0, .int 0, .int 0, .int 0, .long 0, .int 0, .ref v27, .ref v28, .ref v29, .ref v30, .ref v31, .ref v32, .ref v33, .ref v34, .ref v35, .ref v36, .ref v37, .int 0])), (v0, .inl (cA 0, 326, .inl fs))] sz)) 0 0 (va_A [(w0, .inr (11, [.ref v0, .ref v1, .ref v2, .ref v3, .ref v4, .long 0, .long 0, .int 0, .int th, .ref v9, .int 0, .int 0, .int (-1), .ref v13, .int 0, .int 0, .int 0, .int 0, .int 0, .int 0, .int 0, .int 0, .int 0, .int 0, .int 0, .long 0, .int 0, .ref v27, .ref v28, .ref v29, .ref v30, .ref v31, .ref v32, .ref v33, .ref v34, .ref v35, .ref v36, .ref v37, .int 0])), (v0, .inl (cA 0, 326, .inl fs))] sz) := by
  refine Met.ofW (cc := cX10_wouldHold) (maxL := 4) (ret := (some .boolean)) (by decide) rfl ?_
  intro p e s m args below meth c s₁ B hml hv
  obtain ⟨rfl, hsz, hP, hK, hD0, hC, hZ⟩ := hv
  have hx := B.exec
  have hb := B.bytes
  have hr := B.returns
  have hts := atoms_spec (ws := wsX10_wouldHold) B.pre
  have hown : s.vm.findClass RX10 = some m.cls := findClass_of_methodNamed B.named
  have hlocks := B.notSynchronized
  subst hsz
  have hD := hD0.self (sz := s.heap.size)
  generalize hAe : va_A [(w0, .inr (11, [.ref v0, .ref v1, .ref v2, .ref v3, .ref v4, .long 0, .long 0, .int 0, .int th, .ref v9, .int 0, .int 0, .int (-1), .ref v13, .int 0, .int 0, .int 0, .int 0, .int 0, .int 0, .int 0, .int 0, .int 0, .int 0, .int 0, .long 0, .int 0, .ref v27, .ref v28, .ref v29, .ref v30, .ref v31, .ref v32, .ref v33, .ref v34, .ref v35, .ref v36, .ref v37, .int 0])), (v0, .inl (cA 0, 326, .inl fs))] s.heap.size = A at hD hZ ⊢
  have hA : ∀ q : Nat, s.heap.size ≤ q → A q := fun q h => by rw [← hAe]; exact Or.inr h
  have hS : va_S A s.heap s.heap [] := va_S.rf
  have hP : va_P D vwCl [(w0, .inr (11, [.ref v0, .ref v1, .ref v2, .ref v3, .ref v4, .long 0, .long 0, .int 0, .int th, .ref v9, .int 0, .int 0, .int (-1), .ref v13, .int 0, .int 0, .int 0, .int 0, .int 0, .int 0, .int 0, .int 0, .int 0, .int 0, .int 0, .long 0, .int 0, .ref v27, .ref v28, .ref v29, .ref v30, .ref v31, .ref v32, .ref v33, .ref v34, .ref v35, .ref v36, .ref v37, .int 0])), (v0, .inl (cA 0, 326, .inl fs))] s.heap := hP
  have hl := lv_entry ([.ref w0, .int i, .int j]) (n := 4) (Nat.le_of_ble_eq_true rfl)
  rw [lg_entry_eq]
  generalize (lg_sl ([.ref w0, .int i, .int j]) ++ List.replicate (4 - (lg_sl ([.ref w0, .int i, .int j])).length) Slot.unset).toArray = ls at hl ⊢
  have hl : lv_has ls 4 [(0, .ref w0), (1, .int i), (2, .int j)] := hl
  have inX10 : ∀ w ∈ u_ws RX10 TX10 39, w ∈ wsX10_wouldHold := by decide +kernel
  refine lv_iload_n hx hb dX10_wouldHold_0 rfl (lv_at hl 2 rfl) ?_
  refine lv_i2l (v := (j.toInt64)) hx hb dX10_wouldHold_1 rfl ?_
  refine lv_lconst (v := 0) hx hb dX10_wouldHold_2 (by decide) ?_
  refine lv_iconst (v := 1) hx hb dX10_wouldHold_3 (by decide) ?_
  refine lv_aload_n hx hb dX10_wouldHold_4 rfl (lv_at hl 0 rfl) ?_
  refine va_get (D := D) (ci := 11) (v := .ref v0) (C := RX10) (T := TX10) (N := 39) hx hb hts inX10 hown hK hP 0 rfl rfl 0 (by decide) (hts (.fieldLink RX10 7 "EscrowDeskModel" "s" "[I") (by decide +kernel)) (fun _ h9 => h9) rfl dX10_wouldHold_5 ?_
  refine lv_bipush (v := 13) hx hb dX10_wouldHold_8 (by decide) ?_
  refine va_iald hx hb hK hP 1 0 rfl rfl (vp_in_iff.mpr (by decide)) dX10_wouldHold_10 ?_
  refine lv_topi (fun yn1 eyn1 => ?_)
  obtain rfl : yn1 = 0 := eyn1.trans (hz.2 13 (by decide) (by decide))
  refine lv_ishl hx hb dX10_wouldHold_11 ?_
  refine lv_topi (fun yn2 eyn2 => ?_)
  obtain rfl : yn2 = 1 := eyn2.trans (by first | rfl | decide +kernel)
  refine lv_iconst (v := 1) hx hb dX10_wouldHold_12 (by decide) ?_
  refine lv_isub hx hb dX10_wouldHold_13 ?_
  refine lv_topi (fun yn3 eyn3 => ?_)
  obtain rfl : yn3 = 0 := eyn3.trans (by first | rfl | decide +kernel)
  refine lv_i2l (v := 0) hx hb dX10_wouldHold_14 (by decide) ?_
  have hPc := hP.sub (ws' := []) [] rfl
  have hDc := hD.sub (ws' := []) [] (by decide) rfl
  have hFc := va_free (wc := []) hD hS hA [] rfl
  refine va_calli (va_runS (As := [.long (j.toInt64), .long 0, .long 0]) (rest := []) ⟨hx, hb, hml, hown, hts⟩ (c_btw_a l D cA sa (j.toInt64) 0 0 s.heap.size) (va_cwS 3 hts gX10_wouldHold_X10_between rfl rfl rfl (by decide +kernel) ⟨(Nat.le_of_ble_eq_true rfl), (Nat.le_of_ble_eq_true rfl)⟩) ⟨Wd.blind, fun U hU hW => ⟨rfl, Wd.call hPc hDc hK hC hZ hS hFc U hU hW⟩⟩ rfl rfl hl.1 rfl (lv_room (Nat.le_of_ble_eq_true rfl)) dX10_wouldHold_15 ⟨(Nat.le_of_ble_eq_true rfl), (Nat.le_of_ble_eq_true rfl)⟩) hS (fun q _ h => hFc q h) hFc (fun rn4 u t H1 locs ht hvm hw hB hz1 hk1 hS => ?_)
  obtain ⟨hP1, hD1⟩ := hB
  rw [ht] at hP1
  obtain ⟨hP, hD⟩ := va_join (wr := [(w0, .inr (11, [.ref v0, .ref v1, .ref v2, .ref v3, .ref v4, .long 0, .long 0, .int 0, .int th, .ref v9, .int 0, .int 0, .int (-1), .ref v13, .int 0, .int 0, .int 0, .int 0, .int 0, .int 0, .int 0, .int 0, .int 0, .int 0, .int 0, .long 0, .int 0, .ref v27, .ref v28, .ref v29, .ref v30, .ref v31, .ref v32, .ref v33, .ref v34, .ref v35, .ref v36, .ref v37, .int 0])), (v0, .inl (cA 0, 326, .inl fs))]) (w1 := []) hP hD [] [0, 1] rfl rfl (by decide) (by decide) hk1 hFc hP1 hD1
  generalize H1 = H at hP hS ⊢
  have hP : va_P D vwCl [(w0, .inr (11, [.ref v0, .ref v1, .ref v2, .ref v3, .ref v4, .long 0, .long 0, .int 0, .int th, .ref v9, .int 0, .int 0, .int (-1), .ref v13, .int 0, .int 0, .int 0, .int 0, .int 0, .int 0, .int 0, .int 0, .int 0, .int 0, .int 0, .long 0, .int 0, .ref v27, .ref v28, .ref v29, .ref v30, .ref v31, .ref v32, .ref v33, .ref v34, .ref v35, .ref v36, .ref v37, .int 0])), (v0, .inl (cA 0, 326, .inl fs))] H := hP
  have hD : va_D A [(w0, .inr (11, [.ref v0, .ref v1, .ref v2, .ref v3, .ref v4, .long 0, .long 0, .int 0, .int th, .ref v9, .int 0, .int 0, .int (-1), .ref v13, .int 0, .int 0, .int 0, .int 0, .int 0, .int 0, .int 0, .int 0, .int 0, .int 0, .int 0, .long 0, .int 0, .ref v27, .ref v28, .ref v29, .ref v30, .ref v31, .ref v32, .ref v33, .ref v34, .ref v35, .ref v36, .ref v37, .int 0])), (v0, .inl (cA 0, 326, .inl fs))] := hD
  refine lv_istore_n (lv' := [(3, .int rn4), (0, .ref w0), (1, .int i), (2, .int j)]) hx hb dX10_wouldHold_18 rfl hl (by decide) rfl (fun ls hl => ?_)
  refine lv_aload_n hx hb dX10_wouldHold_19 rfl (lv_at hl 1 rfl) ?_
  refine lv_aload_n hx hb dX10_wouldHold_20 rfl (lv_at hl 1 rfl) ?_
  refine lv_iload_n hx hb dX10_wouldHold_21 rfl (lv_at hl 2 rfl) ?_
  have hPc := hP.sub (ws' := [(w0, .inr (11, [.ref v0, .ref v1, .ref v2, .ref v3, .ref v4, .long 0, .long 0, .int 0, .int th, .ref v9, .int 0, .int 0, .int (-1), .ref v13, .int 0, .int 0, .int 0, .int 0, .int 0, .int 0, .int 0, .int 0, .int 0, .int 0, .int 0, .long 0, .int 0, .ref v27, .ref v28, .ref v29, .ref v30, .ref v31, .ref v32, .ref v33, .ref v34, .ref v35, .ref v36, .ref v37, .int 0])), (v0, .inl (cA 0, 326, .inl fs))]) [0, 1] rfl
  have hDc := hD.sub (ws' := [(w0, .inr (11, [.ref v0, .ref v1, .ref v2, .ref v3, .ref v4, .long 0, .long 0, .int 0, .int th, .ref v9, .int 0, .int 0, .int (-1), .ref v13, .int 0, .int 0, .int 0, .int 0, .int 0, .int 0, .int 0, .int 0, .int 0, .int 0, .int 0, .long 0, .int 0, .ref v27, .ref v28, .ref v29, .ref v30, .ref v31, .ref v32, .ref v33, .ref v34, .ref v35, .ref v36, .ref v37, .int 0])), (v0, .inl (cA 0, 326, .inl fs))]) [0, 1] (by decide) rfl
  have hFc := va_free (wc := [(w0, .inr (11, [.ref v0, .ref v1, .ref v2, .ref v3, .ref v4, .long 0, .long 0, .int 0, .int th, .ref v9, .int 0, .int 0, .int (-1), .ref v13, .int 0, .int 0, .int 0, .int 0, .int 0, .int 0, .int 0, .int 0, .int 0, .int 0, .int 0, .long 0, .int 0, .ref v27, .ref v28, .ref v29, .ref v30, .ref v31, .ref v32, .ref v33, .ref v34, .ref v35, .ref v36, .ref v37, .int 0])), (v0, .inl (cA 0, 326, .inl fs))]) hD hS hA [0, 1] rfl
  refine va_calli (va_runV (As := [.int i]) (rest := [.ref w0]) ⟨hx, hb, hml, hown, hts⟩ (c_m_isMilestone l D cA sa w0 v0 v1 v2 v3 v4 v9 v13 v27 v28 v29 v30 v31 v32 v33 v34 v35 v36 v37 th fs i H.size hz) (cwV 1 hts gX10_wouldHold_X10_isMilestone rfl rfl rfl (by decide +kernel) ⟨(Nat.le_of_ble_eq_true rfl), (Nat.le_of_ble_eq_true rfl)⟩) ⟨Wd.blind, va_recv hK hPc (ci := 11) (q0 := 0) rfl rfl, fun U hU hW => ⟨rfl, Wd.call hPc hDc hK hC hZ hS hFc U hU hW⟩⟩ rfl rfl hl.1 rfl (lv_room (Nat.le_of_ble_eq_true rfl)) dX10_wouldHold_22 ⟨(Nat.le_of_ble_eq_true rfl), (Nat.le_of_ble_eq_true rfl)⟩) hS (fun q _ h => hFc q h) hFc (fun rn5 u t H1 locs ht hvm hw hB hz1 hk1 hS => ?_)
  obtain ⟨hP1, hD1⟩ := hB
  rw [ht] at hP1
  obtain ⟨hP, hD⟩ := va_join (wr := []) (w1 := [(w0, .inr (11, [.ref v0, .ref v1, .ref v2, .ref v3, .ref v4, .long 0, .long 0, .int 0, .int th, .ref v9, .int 0, .int 0, .int (-1), .ref v13, .int 0, .int 0, .int 0, .int 0, .int 0, .int 0, .int 0, .int 0, .int 0, .int 0, .int 0, .long 0, .int 0, .ref v27, .ref v28, .ref v29, .ref v30, .ref v31, .ref v32, .ref v33, .ref v34, .ref v35, .ref v36, .ref v37, .int 0])), (v0, .inl (cA 0, 326, .inl fs))]) hP hD [0, 1] [] rfl rfl (by decide) (by decide) hk1 hFc hP1 hD1
  generalize H1 = H at hP hS ⊢
  have hP : va_P D vwCl [(w0, .inr (11, [.ref v0, .ref v1, .ref v2, .ref v3, .ref v4, .long 0, .long 0, .int 0, .int th, .ref v9, .int 0, .int 0, .int (-1), .ref v13, .int 0, .int 0, .int 0, .int 0, .int 0, .int 0, .int 0, .int 0, .int 0, .int 0, .int 0, .long 0, .int 0, .ref v27, .ref v28, .ref v29, .ref v30, .ref v31, .ref v32, .ref v33, .ref v34, .ref v35, .ref v36, .ref v37, .int 0])), (v0, .inl (cA 0, 326, .inl fs))] H := hP
  have hD : va_D A [(w0, .inr (11, [.ref v0, .ref v1, .ref v2, .ref v3, .ref v4, .long 0, .long 0, .int 0, .int th, .ref v9, .int 0, .int 0, .int (-1), .ref v13, .int 0, .int 0, .int 0, .int 0, .int 0, .int 0, .int 0, .int 0, .int 0, .int 0, .int 0, .long 0, .int 0, .ref v27, .ref v28, .ref v29, .ref v30, .ref v31, .ref v32, .ref v33, .ref v34, .ref v35, .ref v36, .ref v37, .int 0])), (v0, .inl (cA 0, 326, .inl fs))] := hD
  obtain rfl : rn5 = 0 := hw
  refine lv_iload_n hx hb dX10_wouldHold_25 rfl (lv_at hl 0 rfl) ?_
  have hPc := hP.sub (ws' := [(w0, .inr (11, [.ref v0, .ref v1, .ref v2, .ref v3, .ref v4, .long 0, .long 0, .int 0, .int th, .ref v9, .int 0, .int 0, .int (-1), .ref v13, .int 0, .int 0, .int 0, .int 0, .int 0, .int 0, .int 0, .int 0, .int 0, .int 0, .int 0, .long 0, .int 0, .ref v27, .ref v28, .ref v29, .ref v30, .ref v31, .ref v32, .ref v33, .ref v34, .ref v35, .ref v36, .ref v37, .int 0]))]) [0] rfl
  have hDc := hD.sub (ws' := [(w0, .inr (11, [.ref v0, .ref v1, .ref v2, .ref v3, .ref v4, .long 0, .long 0, .int 0, .int th, .ref v9, .int 0, .int 0, .int (-1), .ref v13, .int 0, .int 0, .int 0, .int 0, .int 0, .int 0, .int 0, .int 0, .int 0, .int 0, .int 0, .long 0, .int 0, .ref v27, .ref v28, .ref v29, .ref v30, .ref v31, .ref v32, .ref v33, .ref v34, .ref v35, .ref v36, .ref v37, .int 0]))]) [0] (by decide) rfl
  have hFc := va_free (wc := [(w0, .inr (11, [.ref v0, .ref v1, .ref v2, .ref v3, .ref v4, .long 0, .long 0, .int 0, .int th, .ref v9, .int 0, .int 0, .int (-1), .ref v13, .int 0, .int 0, .int 0, .int 0, .int 0, .int 0, .int 0, .int 0, .int 0, .int 0, .int 0, .long 0, .int 0, .ref v27, .ref v28, .ref v29, .ref v30, .ref v31, .ref v32, .ref v33, .ref v34, .ref v35, .ref v36, .ref v37, .int 0]))]) hD hS hA [0] rfl
  refine va_calli (va_runV (As := [.int 0, .int rn4]) (rest := []) ⟨hx, hb, hml, hown, hts⟩ (c_m_good2_0 l D cA sa w0 v0 v1 v2 v3 v4 v9 v13 v27 v28 v29 v30 v31 v32 v33 v34 v35 v36 v37 th rn4 H.size) (cwV 2 hts gX10_wouldHold_X10_good_ rfl rfl rfl (by decide +kernel) ⟨(Nat.le_of_ble_eq_true rfl), (Nat.le_of_ble_eq_true rfl)⟩) ⟨Wd.blind, va_recv hK hPc (ci := 11) (q0 := 0) rfl rfl, fun U hU hW => ⟨rfl, Wd.call hPc hDc hK hC hZ hS hFc U hU hW⟩⟩ rfl rfl hl.1 rfl (lv_room (Nat.le_of_ble_eq_true rfl)) dX10_wouldHold_26 ⟨(Nat.le_of_ble_eq_true rfl), (Nat.le_of_ble_eq_true rfl)⟩) hS (fun q _ h => hFc q h) hFc (fun rn6 u t H1 locs ht hvm hw hB hz1 hk1 hS => ?_)
  obtain ⟨hP1, hD1⟩ := hB
  rw [ht] at hP1
  obtain ⟨hP, hD⟩ := va_join (wr := [(v0, .inl (cA 0, 326, .inl fs))]) (w1 := [(w0, .inr (11, [.ref v0, .ref v1, .ref v2, .ref v3, .ref v4, .long 0, .long 0, .int 0, .int 1, .ref v9, .int 0, .int 0, .int (-1), .ref v13, .int 0, .int 0, .int 0, .int 0, .int 0, .int 0, .int 0, .int 0, .int 0, .int 0, .int 0, .long 0, .int 0, .ref v27, .ref v28, .ref v29, .ref v30, .ref v31, .ref v32, .ref v33, .ref v34, .ref v35, .ref v36, .ref v37, .int 0]))]) hP hD [0] [1] rfl rfl (by decide) (by decide) hk1 hFc hP1 hD1
  generalize H1 = H at hP hS ⊢
  have hP : va_P D vwCl [(v0, .inl (cA 0, 326, .inl fs)), (w0, .inr (11, [.ref v0, .ref v1, .ref v2, .ref v3, .ref v4, .long 0, .long 0, .int 0, .int 1, .ref v9, .int 0, .int 0, .int (-1), .ref v13, .int 0, .int 0, .int 0, .int 0, .int 0, .int 0, .int 0, .int 0, .int 0, .int 0, .int 0, .long 0, .int 0, .ref v27, .ref v28, .ref v29, .ref v30, .ref v31, .ref v32, .ref v33, .ref v34, .ref v35, .ref v36, .ref v37, .int 0]))] H := hP
  have hD : va_D A [(v0, .inl (cA 0, 326, .inl fs)), (w0, .inr (11, [.ref v0, .ref v1, .ref v2, .ref v3, .ref v4, .long 0, .long 0, .int 0, .int 1, .ref v9, .int 0, .int 0, .int (-1), .ref v13, .int 0, .int 0, .int 0, .int 0, .int 0, .int 0, .int 0, .int 0, .int 0, .int 0, .int 0, .long 0, .int 0, .ref v27, .ref v28, .ref v29, .ref v30, .ref v31, .ref v32, .ref v33, .ref v34, .ref v35, .ref v36, .ref v37, .int 0]))] := hD
  obtain rfl : rn6 = 0 := hw
  refine lv_if_eq (tgt := 63) hx hb dX10_wouldHold_29 (by decide) (fun c7 => ?_) (fun c9 => absurd c9 (by decide))
  refine lv_iconst (v := 0) hx hb dX10_wouldHold_63 (by decide) ?_
  have hP9 := hP.sub (ws' := [(w0, .inr (11, [.ref v0, .ref v1, .ref v2, .ref v3, .ref v4, .long 0, .long 0, .int 0, .int 1, .ref v9, .int 0, .int 0, .int (-1), .ref v13, .int 0, .int 0, .int 0, .int 0, .int 0, .int 0, .int 0, .int 0, .int 0, .int 0, .int 0, .long 0, .int 0, .ref v27, .ref v28, .ref v29, .ref v30, .ref v31, .ref v32, .ref v33, .ref v34, .ref v35, .ref v36, .ref v37, .int 0]))]) [1] rfl
  have hD9 := hD.sub (ws' := [(w0, .inr (11, [.ref v0, .ref v1, .ref v2, .ref v3, .ref v4, .long 0, .long 0, .int 0, .int 1, .ref v9, .int 0, .int 0, .int (-1), .ref v13, .int 0, .int 0, .int 0, .int 0, .int 0, .int 0, .int 0, .int 0, .int 0, .int 0, .int 0, .long 0, .int 0, .ref v27, .ref v28, .ref v29, .ref v30, .ref v31, .ref v32, .ref v33, .ref v34, .ref v35, .ref v36, .ref v37, .int 0]))]) [1] (by decide) rfl
  refine W.widen (k := 0) (n := 0) (Nat.le_of_ble_eq_true rfl) (Nat.le_of_ble_eq_true rfl) ?_
  exact W.zret (v := 0) hx hb hr (by first | rfl | decide) (fun t ht hW => ⟨⟨0, (), rfl, rfl, by rw [ht]; exact hP9, hD9⟩, hS.F ht⟩) hS.2.2 dX10_wouldHold_64

set_option maxHeartbeats 4000000 in
set_option maxRecDepth 100000 in
/-- paidAfter: thrown 1 -/
theorem c_m_paidAfter (l : Launch) (D : va_G) (cA : Nat → ClassId) (sa : Nat → Nat) (w0 v0 v1 v2 v3 v4 v9 v13 v27 v28 v29 v30 v31 v32 v33 v34 v35 v36 v37 : Nat) (th : Int32) (fs : Nat → Int32) (i j : Int32) (sz : Nat) (hz : Zs fs) : Met l yX10_paidAfter wsX10_paidAfter ({ frames := 2, cells := 0, slots := 0, locals := 46 }) (va_Pc [.ref w0, .int i, .int j] (Wd D cA sa [(w0, .inr (11, [.ref v0, .ref v1, .ref v2, .ref v3, .ref v4, .long 0, .long 0, .int 0, .int th, .ref v9, .int 0, .int 0, .int (-1), .ref v13, .int 0, .int 0, .int 0, .int 0, .int 0, .int 0, .int 0, .int 0, .int 0, .int 0, .int 0, .long 0, .int 0, .ref v27, .ref v28, .ref v29, .ref v30, .ref v31, .ref v32, .ref v33, .ref v34, .ref v35, .ref v36, .ref v37, .int 0])), (v0, .inl (cA 0, 326, .inl fs))] sz)) (va_Qi (fun (r : Int32) (_ : Unit) => r = 0) (fun (_ : Unit) t => Wq D (va_A [(w0, .inr (11, [.ref v0, .ref v1, .ref v2, .ref v3, .ref v4, .long 0, .long 0, .int 0, .int th, .ref v9, .int 0, .int 0, .int (-1), .ref v13, .int 0, .int 0, .int 0, .int 0, .int 0, .int 0, .int 0, .int 0, .int 0, .int 0, .int 0, .long 0, .int 0, .ref v27, .ref v28, .ref v29, .ref v30, .ref v31, .ref v32, .ref v33, .ref v34, .ref v35, .ref v36, .ref v37, .int 0])), (v0, .inl (cA 0, 326, .inl fs))] sz) [(w0, .inr (11, [.ref v0, .ref v1, .ref v2, .ref v3, .ref v4, .long 0, .long 0, .int 0, .int 1, .ref v9, .int 0, .int 0, .int (-1), .ref v13, .int 0, .int 0, .int 0, .int 0, .int 0, .int 0, .int 0, .int 0, .int 0, .int 0, .int 0, .long 0, .int 0, .ref v27, .ref v28, .ref v29, .ref v30, .ref v31, .ref v32, .ref v33, .ref v34, .ref v35, .ref v36, .ref v37, .int 0]))] t) (va_A [(w0, .inr (11, [.ref v0, .ref v1, .ref v2, .ref v3, .ref v4, .long 0, .long 0, .int 0, .int th, .ref v9, .int 0, .int 0, .int (-1), .ref v13, .int 0, .int 0, .int 0, .int 0, .int 0, .int 0, .int 0, .int 0, .int 0, .int 0, .int 0, .long 0, .int 0, .ref v27, .ref v28, .ref v29, .ref v30, .ref v31, .ref v32, .ref v33, .ref v34, .ref v35, .ref v36, .ref v37, .int 0])), (v0, .inl (cA 0, 326, .inl fs))] sz)) 0 0 (va_A [(w0, .inr (11, [.ref v0, .ref v1, .ref v2, .ref v3, .ref v4, .long 0, .long 0, .int 0, .int th, .ref v9, .int 0, .int 0, .int (-1), .ref v13, .int 0, .int 0, .int 0, .int 0, .int 0, .int 0, .int 0, .int 0, .int 0, .int 0, .int 0, .long 0, .int 0, .ref v27, .ref v28, .ref v29, .ref v30, .ref v31, .ref v32, .ref v33, .ref v34, .ref v35, .ref v36, .ref v37, .int 0])), (v0, .inl (cA 0, 326, .inl fs))] sz) := by
  refine Met.ofW (cc := cX10_paidAfter) (maxL := 4) (ret := (some .int)) (by decide) rfl ?_
  intro p e s m args below meth c s₁ B hml hv
  obtain ⟨rfl, hsz, hP, hK, hD0, hC, hZ⟩ := hv
  have hx := B.exec
  have hb := B.bytes
  have hr := B.returns
  have hts := atoms_spec (ws := wsX10_paidAfter) B.pre
  have hown : s.vm.findClass RX10 = some m.cls := findClass_of_methodNamed B.named
  have hlocks := B.notSynchronized
  subst hsz
  have hD := hD0.self (sz := s.heap.size)
  generalize hAe : va_A [(w0, .inr (11, [.ref v0, .ref v1, .ref v2, .ref v3, .ref v4, .long 0, .long 0, .int 0, .int th, .ref v9, .int 0, .int 0, .int (-1), .ref v13, .int 0, .int 0, .int 0, .int 0, .int 0, .int 0, .int 0, .int 0, .int 0, .int 0, .int 0, .long 0, .int 0, .ref v27, .ref v28, .ref v29, .ref v30, .ref v31, .ref v32, .ref v33, .ref v34, .ref v35, .ref v36, .ref v37, .int 0])), (v0, .inl (cA 0, 326, .inl fs))] s.heap.size = A at hD hZ ⊢
  have hA : ∀ q : Nat, s.heap.size ≤ q → A q := fun q h => by rw [← hAe]; exact Or.inr h
  have hS : va_S A s.heap s.heap [] := va_S.rf
  have hP : va_P D vwCl [(w0, .inr (11, [.ref v0, .ref v1, .ref v2, .ref v3, .ref v4, .long 0, .long 0, .int 0, .int th, .ref v9, .int 0, .int 0, .int (-1), .ref v13, .int 0, .int 0, .int 0, .int 0, .int 0, .int 0, .int 0, .int 0, .int 0, .int 0, .int 0, .long 0, .int 0, .ref v27, .ref v28, .ref v29, .ref v30, .ref v31, .ref v32, .ref v33, .ref v34, .ref v35, .ref v36, .ref v37, .int 0])), (v0, .inl (cA 0, 326, .inl fs))] s.heap := hP
  have hl := lv_entry ([.ref w0, .int i, .int j]) (n := 4) (Nat.le_of_ble_eq_true rfl)
  rw [lg_entry_eq]
  generalize (lg_sl ([.ref w0, .int i, .int j]) ++ List.replicate (4 - (lg_sl ([.ref w0, .int i, .int j])).length) Slot.unset).toArray = ls at hl ⊢
  have hl : lv_has ls 4 [(0, .ref w0), (1, .int i), (2, .int j)] := hl
  refine lv_aload_n hx hb dX10_paidAfter_0 rfl (lv_at hl 0 rfl) ?_
  refine lv_aload_n hx hb dX10_paidAfter_1 rfl (lv_at hl 0 rfl) ?_
  refine lv_iload_n hx hb dX10_paidAfter_2 rfl (lv_at hl 1 rfl) ?_
  have hPc := hP.sub (ws' := [(w0, .inr (11, [.ref v0, .ref v1, .ref v2, .ref v3, .ref v4, .long 0, .long 0, .int 0, .int th, .ref v9, .int 0, .int 0, .int (-1), .ref v13, .int 0, .int 0, .int 0, .int 0, .int 0, .int 0, .int 0, .int 0, .int 0, .int 0, .int 0, .long 0, .int 0, .ref v27, .ref v28, .ref v29, .ref v30, .ref v31, .ref v32, .ref v33, .ref v34, .ref v35, .ref v36, .ref v37, .int 0])), (v0, .inl (cA 0, 326, .inl fs))]) [0, 1] rfl
  have hDc := hD.sub (ws' := [(w0, .inr (11, [.ref v0, .ref v1, .ref v2, .ref v3, .ref v4, .long 0, .long 0, .int 0, .int th, .ref v9, .int 0, .int 0, .int (-1), .ref v13, .int 0, .int 0, .int 0, .int 0, .int 0, .int 0, .int 0, .int 0, .int 0, .int 0, .int 0, .long 0, .int 0, .ref v27, .ref v28, .ref v29, .ref v30, .ref v31, .ref v32, .ref v33, .ref v34, .ref v35, .ref v36, .ref v37, .int 0])), (v0, .inl (cA 0, 326, .inl fs))]) [0, 1] (by decide) rfl
  have hFc := va_free (wc := [(w0, .inr (11, [.ref v0, .ref v1, .ref v2, .ref v3, .ref v4, .long 0, .long 0, .int 0, .int th, .ref v9, .int 0, .int 0, .int (-1), .ref v13, .int 0, .int 0, .int 0, .int 0, .int 0, .int 0, .int 0, .int 0, .int 0, .int 0, .int 0, .long 0, .int 0, .ref v27, .ref v28, .ref v29, .ref v30, .ref v31, .ref v32, .ref v33, .ref v34, .ref v35, .ref v36, .ref v37, .int 0])), (v0, .inl (cA 0, 326, .inl fs))]) hD hS hA [0, 1] rfl
  refine va_calli (va_runV (As := [.int i]) (rest := [.ref w0]) ⟨hx, hb, hml, hown, hts⟩ (c_m_isMilestone l D cA sa w0 v0 v1 v2 v3 v4 v9 v13 v27 v28 v29 v30 v31 v32 v33 v34 v35 v36 v37 th fs i s.heap.size hz) (cwV 1 hts gX10_paidAfter_X10_isMilestone rfl rfl rfl (by decide +kernel) ⟨(Nat.le_of_ble_eq_true rfl), (Nat.le_of_ble_eq_true rfl)⟩) ⟨Wd.blind, va_recv hK hPc (ci := 11) (q0 := 0) rfl rfl, fun U hU hW => ⟨rfl, Wd.call hPc hDc hK hC hZ hS hFc U hU hW⟩⟩ rfl rfl hl.1 rfl (lv_room (Nat.le_of_ble_eq_true rfl)) dX10_paidAfter_3 ⟨(Nat.le_of_ble_eq_true rfl), (Nat.le_of_ble_eq_true rfl)⟩) hS (fun q _ h => hFc q h) hFc (fun rn1 u t H1 locs ht hvm hw hB hz1 hk1 hS => ?_)
  obtain ⟨hP1, hD1⟩ := hB
  rw [ht] at hP1
  obtain ⟨hP, hD⟩ := va_join (wr := []) (w1 := [(w0, .inr (11, [.ref v0, .ref v1, .ref v2, .ref v3, .ref v4, .long 0, .long 0, .int 0, .int th, .ref v9, .int 0, .int 0, .int (-1), .ref v13, .int 0, .int 0, .int 0, .int 0, .int 0, .int 0, .int 0, .int 0, .int 0, .int 0, .int 0, .long 0, .int 0, .ref v27, .ref v28, .ref v29, .ref v30, .ref v31, .ref v32, .ref v33, .ref v34, .ref v35, .ref v36, .ref v37, .int 0])), (v0, .inl (cA 0, 326, .inl fs))]) hP hD [0, 1] [] rfl rfl (by decide) (by decide) hk1 hFc hP1 hD1
  generalize H1 = H at hP hS ⊢
  have hP : va_P D vwCl [(w0, .inr (11, [.ref v0, .ref v1, .ref v2, .ref v3, .ref v4, .long 0, .long 0, .int 0, .int th, .ref v9, .int 0, .int 0, .int (-1), .ref v13, .int 0, .int 0, .int 0, .int 0, .int 0, .int 0, .int 0, .int 0, .int 0, .int 0, .int 0, .long 0, .int 0, .ref v27, .ref v28, .ref v29, .ref v30, .ref v31, .ref v32, .ref v33, .ref v34, .ref v35, .ref v36, .ref v37, .int 0])), (v0, .inl (cA 0, 326, .inl fs))] H := hP
  have hD : va_D A [(w0, .inr (11, [.ref v0, .ref v1, .ref v2, .ref v3, .ref v4, .long 0, .long 0, .int 0, .int th, .ref v9, .int 0, .int 0, .int (-1), .ref v13, .int 0, .int 0, .int 0, .int 0, .int 0, .int 0, .int 0, .int 0, .int 0, .int 0, .int 0, .long 0, .int 0, .ref v27, .ref v28, .ref v29, .ref v30, .ref v31, .ref v32, .ref v33, .ref v34, .ref v35, .ref v36, .ref v37, .int 0])), (v0, .inl (cA 0, 326, .inl fs))] := hD
  obtain rfl : rn1 = 0 := hw
  refine lv_iload_n hx hb dX10_paidAfter_6 rfl (lv_at hl 2 rfl) ?_
  have hPc := hP.sub (ws' := []) [] rfl
  have hDc := hD.sub (ws' := []) [] (by decide) rfl
  have hFc := va_free (wc := []) hD hS hA [] rfl
  refine va_calli (va_runS (As := [.int j]) (rest := [.int 0, .ref w0]) ⟨hx, hb, hml, hown, hts⟩ (c_m_isTrial_a l D cA sa j H.size) (va_cwS 1 hts gX10_paidAfter_X10_isTrial rfl rfl rfl (by decide +kernel) ⟨(Nat.le_of_ble_eq_true rfl), (Nat.le_of_ble_eq_true rfl)⟩) ⟨Wd.blind, fun U hU hW => ⟨rfl, Wd.call hPc hDc hK hC hZ hS hFc U hU hW⟩⟩ rfl rfl hl.1 rfl (lv_room (Nat.le_of_ble_eq_true rfl)) dX10_paidAfter_7 ⟨(Nat.le_of_ble_eq_true rfl), (Nat.le_of_ble_eq_true rfl)⟩) hS (fun q _ h => hFc q h) hFc (fun rn2 u t H1 locs ht hvm hw hB hz1 hk1 hS => ?_)
  obtain ⟨hP1, hD1⟩ := hB
  rw [ht] at hP1
  obtain ⟨hP, hD⟩ := va_join (wr := [(w0, .inr (11, [.ref v0, .ref v1, .ref v2, .ref v3, .ref v4, .long 0, .long 0, .int 0, .int th, .ref v9, .int 0, .int 0, .int (-1), .ref v13, .int 0, .int 0, .int 0, .int 0, .int 0, .int 0, .int 0, .int 0, .int 0, .int 0, .int 0, .long 0, .int 0, .ref v27, .ref v28, .ref v29, .ref v30, .ref v31, .ref v32, .ref v33, .ref v34, .ref v35, .ref v36, .ref v37, .int 0])), (v0, .inl (cA 0, 326, .inl fs))]) (w1 := []) hP hD [] [0, 1] rfl rfl (by decide) (by decide) hk1 hFc hP1 hD1
  generalize H1 = H at hP hS ⊢
  have hP : va_P D vwCl [(w0, .inr (11, [.ref v0, .ref v1, .ref v2, .ref v3, .ref v4, .long 0, .long 0, .int 0, .int th, .ref v9, .int 0, .int 0, .int (-1), .ref v13, .int 0, .int 0, .int 0, .int 0, .int 0, .int 0, .int 0, .int 0, .int 0, .int 0, .int 0, .long 0, .int 0, .ref v27, .ref v28, .ref v29, .ref v30, .ref v31, .ref v32, .ref v33, .ref v34, .ref v35, .ref v36, .ref v37, .int 0])), (v0, .inl (cA 0, 326, .inl fs))] H := hP
  have hD : va_D A [(w0, .inr (11, [.ref v0, .ref v1, .ref v2, .ref v3, .ref v4, .long 0, .long 0, .int 0, .int th, .ref v9, .int 0, .int 0, .int (-1), .ref v13, .int 0, .int 0, .int 0, .int 0, .int 0, .int 0, .int 0, .int 0, .int 0, .int 0, .int 0, .long 0, .int 0, .ref v27, .ref v28, .ref v29, .ref v30, .ref v31, .ref v32, .ref v33, .ref v34, .ref v35, .ref v36, .ref v37, .int 0])), (v0, .inl (cA 0, 326, .inl fs))] := hD
  have hPc := hP.sub (ws' := [(w0, .inr (11, [.ref v0, .ref v1, .ref v2, .ref v3, .ref v4, .long 0, .long 0, .int 0, .int th, .ref v9, .int 0, .int 0, .int (-1), .ref v13, .int 0, .int 0, .int 0, .int 0, .int 0, .int 0, .int 0, .int 0, .int 0, .int 0, .int 0, .long 0, .int 0, .ref v27, .ref v28, .ref v29, .ref v30, .ref v31, .ref v32, .ref v33, .ref v34, .ref v35, .ref v36, .ref v37, .int 0]))]) [0] rfl
  have hDc := hD.sub (ws' := [(w0, .inr (11, [.ref v0, .ref v1, .ref v2, .ref v3, .ref v4, .long 0, .long 0, .int 0, .int th, .ref v9, .int 0, .int 0, .int (-1), .ref v13, .int 0, .int 0, .int 0, .int 0, .int 0, .int 0, .int 0, .int 0, .int 0, .int 0, .int 0, .long 0, .int 0, .ref v27, .ref v28, .ref v29, .ref v30, .ref v31, .ref v32, .ref v33, .ref v34, .ref v35, .ref v36, .ref v37, .int 0]))]) [0] (by decide) rfl
  have hFc := va_free (wc := [(w0, .inr (11, [.ref v0, .ref v1, .ref v2, .ref v3, .ref v4, .long 0, .long 0, .int 0, .int th, .ref v9, .int 0, .int 0, .int (-1), .ref v13, .int 0, .int 0, .int 0, .int 0, .int 0, .int 0, .int 0, .int 0, .int 0, .int 0, .int 0, .long 0, .int 0, .ref v27, .ref v28, .ref v29, .ref v30, .ref v31, .ref v32, .ref v33, .ref v34, .ref v35, .ref v36, .ref v37, .int 0]))]) hD hS hA [0] rfl
  refine va_calli (va_runV (As := [.int 0, .int rn2]) (rest := []) ⟨hx, hb, hml, hown, hts⟩ (c_m_good2_0 l D cA sa w0 v0 v1 v2 v3 v4 v9 v13 v27 v28 v29 v30 v31 v32 v33 v34 v35 v36 v37 th rn2 H.size) (cwV 2 hts gX10_paidAfter_X10_good_ rfl rfl rfl (by decide +kernel) ⟨(Nat.le_of_ble_eq_true rfl), (Nat.le_of_ble_eq_true rfl)⟩) ⟨Wd.blind, va_recv hK hPc (ci := 11) (q0 := 0) rfl rfl, fun U hU hW => ⟨rfl, Wd.call hPc hDc hK hC hZ hS hFc U hU hW⟩⟩ rfl rfl hl.1 rfl (lv_room (Nat.le_of_ble_eq_true rfl)) dX10_paidAfter_10 ⟨(Nat.le_of_ble_eq_true rfl), (Nat.le_of_ble_eq_true rfl)⟩) hS (fun q _ h => hFc q h) hFc (fun rn3 u t H1 locs ht hvm hw hB hz1 hk1 hS => ?_)
  obtain ⟨hP1, hD1⟩ := hB
  rw [ht] at hP1
  obtain ⟨hP, hD⟩ := va_join (wr := [(v0, .inl (cA 0, 326, .inl fs))]) (w1 := [(w0, .inr (11, [.ref v0, .ref v1, .ref v2, .ref v3, .ref v4, .long 0, .long 0, .int 0, .int 1, .ref v9, .int 0, .int 0, .int (-1), .ref v13, .int 0, .int 0, .int 0, .int 0, .int 0, .int 0, .int 0, .int 0, .int 0, .int 0, .int 0, .long 0, .int 0, .ref v27, .ref v28, .ref v29, .ref v30, .ref v31, .ref v32, .ref v33, .ref v34, .ref v35, .ref v36, .ref v37, .int 0]))]) hP hD [0] [1] rfl rfl (by decide) (by decide) hk1 hFc hP1 hD1
  generalize H1 = H at hP hS ⊢
  have hP : va_P D vwCl [(v0, .inl (cA 0, 326, .inl fs)), (w0, .inr (11, [.ref v0, .ref v1, .ref v2, .ref v3, .ref v4, .long 0, .long 0, .int 0, .int 1, .ref v9, .int 0, .int 0, .int (-1), .ref v13, .int 0, .int 0, .int 0, .int 0, .int 0, .int 0, .int 0, .int 0, .int 0, .int 0, .int 0, .long 0, .int 0, .ref v27, .ref v28, .ref v29, .ref v30, .ref v31, .ref v32, .ref v33, .ref v34, .ref v35, .ref v36, .ref v37, .int 0]))] H := hP
  have hD : va_D A [(v0, .inl (cA 0, 326, .inl fs)), (w0, .inr (11, [.ref v0, .ref v1, .ref v2, .ref v3, .ref v4, .long 0, .long 0, .int 0, .int 1, .ref v9, .int 0, .int 0, .int (-1), .ref v13, .int 0, .int 0, .int 0, .int 0, .int 0, .int 0, .int 0, .int 0, .int 0, .int 0, .int 0, .long 0, .int 0, .ref v27, .ref v28, .ref v29, .ref v30, .ref v31, .ref v32, .ref v33, .ref v34, .ref v35, .ref v36, .ref v37, .int 0]))] := hD
  obtain rfl : rn3 = 0 := hw
  refine lv_if_ne (tgt := 18) hx hb dX10_paidAfter_13 (by decide) (fun c9 => absurd c9 (by decide)) (fun c4 => ?_)
  refine lv_iconst (v := 0) hx hb dX10_paidAfter_16 (by decide) ?_
  have hP9 := hP.sub (ws' := [(w0, .inr (11, [.ref v0, .ref v1, .ref v2, .ref v3, .ref v4, .long 0, .long 0, .int 0, .int 1, .ref v9, .int 0, .int 0, .int (-1), .ref v13, .int 0, .int 0, .int 0, .int 0, .int 0, .int 0, .int 0, .int 0, .int 0, .int 0, .int 0, .long 0, .int 0, .ref v27, .ref v28, .ref v29, .ref v30, .ref v31, .ref v32, .ref v33, .ref v34, .ref v35, .ref v36, .ref v37, .int 0]))]) [1] rfl
  have hD9 := hD.sub (ws' := [(w0, .inr (11, [.ref v0, .ref v1, .ref v2, .ref v3, .ref v4, .long 0, .long 0, .int 0, .int 1, .ref v9, .int 0, .int 0, .int (-1), .ref v13, .int 0, .int 0, .int 0, .int 0, .int 0, .int 0, .int 0, .int 0, .int 0, .int 0, .int 0, .long 0, .int 0, .ref v27, .ref v28, .ref v29, .ref v30, .ref v31, .ref v32, .ref v33, .ref v34, .ref v35, .ref v36, .ref v37, .int 0]))]) [1] (by decide) rfl
  refine W.widen (k := 0) (n := 0) (Nat.le_of_ble_eq_true rfl) (Nat.le_of_ble_eq_true rfl) ?_
  exact W.iret (v := 0) hx hb hr (fun t ht hW => ⟨⟨0, (), rfl, rfl, by rw [ht]; exact hP9, hD9⟩, hS.F ht⟩) hS.2.2 dX10_paidAfter_17

set_option maxHeartbeats 4000000 in
set_option maxRecDepth 100000 in
/-- splitPayment: thrown 1 -/
theorem c_m_splitPayment (l : Launch) (D : va_G) (cA : Nat → ClassId) (sa : Nat → Nat) (w0 v0 v1 v2 v3 v4 v9 v13 v27 v28 v29 v30 v31 v32 v33 v34 v35 v36 v37 : Nat) (th : Int32) (fs : Nat → Int32) (i j : Int32) (sz : Nat) (hz : Zs fs) : Met l yX10_splitPayment wsX10_splitPayment ({ frames := 3, cells := 0, slots := 0, locals := 68 }) (va_Pc [.ref w0, .int i, .int j] (Wd D cA sa [(w0, .inr (11, [.ref v0, .ref v1, .ref v2, .ref v3, .ref v4, .long 0, .long 0, .int 0, .int th, .ref v9, .int 0, .int 0, .int (-1), .ref v13, .int 0, .int 0, .int 0, .int 0, .int 0, .int 0, .int 0, .int 0, .int 0, .int 0, .int 0, .long 0, .int 0, .ref v27, .ref v28, .ref v29, .ref v30, .ref v31, .ref v32, .ref v33, .ref v34, .ref v35, .ref v36, .ref v37, .int 0])), (v0, .inl (cA 0, 326, .inl fs))] sz)) (va_Qi (fun (r : Int32) (_ : Unit) => r = 0) (fun (_ : Unit) t => Wq D (va_A [(w0, .inr (11, [.ref v0, .ref v1, .ref v2, .ref v3, .ref v4, .long 0, .long 0, .int 0, .int th, .ref v9, .int 0, .int 0, .int (-1), .ref v13, .int 0, .int 0, .int 0, .int 0, .int 0, .int 0, .int 0, .int 0, .int 0, .int 0, .int 0, .long 0, .int 0, .ref v27, .ref v28, .ref v29, .ref v30, .ref v31, .ref v32, .ref v33, .ref v34, .ref v35, .ref v36, .ref v37, .int 0])), (v0, .inl (cA 0, 326, .inl fs))] sz) [(w0, .inr (11, [.ref v0, .ref v1, .ref v2, .ref v3, .ref v4, .long 0, .long 0, .int 0, .int 1, .ref v9, .int 0, .int 0, .int (-1), .ref v13, .int 0, .int 0, .int 0, .int 0, .int 0, .int 0, .int 0, .int 0, .int 0, .int 0, .int 0, .long 0, .int 0, .ref v27, .ref v28, .ref v29, .ref v30, .ref v31, .ref v32, .ref v33, .ref v34, .ref v35, .ref v36, .ref v37, .int 0]))] t) (va_A [(w0, .inr (11, [.ref v0, .ref v1, .ref v2, .ref v3, .ref v4, .long 0, .long 0, .int 0, .int th, .ref v9, .int 0, .int 0, .int (-1), .ref v13, .int 0, .int 0, .int 0, .int 0, .int 0, .int 0, .int 0, .int 0, .int 0, .int 0, .int 0, .long 0, .int 0, .ref v27, .ref v28, .ref v29, .ref v30, .ref v31, .ref v32, .ref v33, .ref v34, .ref v35, .ref v36, .ref v37, .int 0])), (v0, .inl (cA 0, 326, .inl fs))] sz)) 0 0 (va_A [(w0, .inr (11, [.ref v0, .ref v1, .ref v2, .ref v3, .ref v4, .long 0, .long 0, .int 0, .int th, .ref v9, .int 0, .int 0, .int (-1), .ref v13, .int 0, .int 0, .int 0, .int 0, .int 0, .int 0, .int 0, .int 0, .int 0, .int 0, .int 0, .long 0, .int 0, .ref v27, .ref v28, .ref v29, .ref v30, .ref v31, .ref v32, .ref v33, .ref v34, .ref v35, .ref v36, .ref v37, .int 0])), (v0, .inl (cA 0, 326, .inl fs))] sz) := by
  refine Met.ofW (cc := cX10_splitPayment) (maxL := 3) (ret := (some .int)) (by decide) rfl ?_
  intro p e s m args below meth c s₁ B hml hv
  obtain ⟨rfl, hsz, hP, hK, hD0, hC, hZ⟩ := hv
  have hx := B.exec
  have hb := B.bytes
  have hr := B.returns
  have hts := atoms_spec (ws := wsX10_splitPayment) B.pre
  have hown : s.vm.findClass RX10 = some m.cls := findClass_of_methodNamed B.named
  have hlocks := B.notSynchronized
  subst hsz
  have hD := hD0.self (sz := s.heap.size)
  generalize hAe : va_A [(w0, .inr (11, [.ref v0, .ref v1, .ref v2, .ref v3, .ref v4, .long 0, .long 0, .int 0, .int th, .ref v9, .int 0, .int 0, .int (-1), .ref v13, .int 0, .int 0, .int 0, .int 0, .int 0, .int 0, .int 0, .int 0, .int 0, .int 0, .int 0, .long 0, .int 0, .ref v27, .ref v28, .ref v29, .ref v30, .ref v31, .ref v32, .ref v33, .ref v34, .ref v35, .ref v36, .ref v37, .int 0])), (v0, .inl (cA 0, 326, .inl fs))] s.heap.size = A at hD hZ ⊢
  have hA : ∀ q : Nat, s.heap.size ≤ q → A q := fun q h => by rw [← hAe]; exact Or.inr h
  have hS : va_S A s.heap s.heap [] := va_S.rf
  have hP : va_P D vwCl [(w0, .inr (11, [.ref v0, .ref v1, .ref v2, .ref v3, .ref v4, .long 0, .long 0, .int 0, .int th, .ref v9, .int 0, .int 0, .int (-1), .ref v13, .int 0, .int 0, .int 0, .int 0, .int 0, .int 0, .int 0, .int 0, .int 0, .int 0, .int 0, .long 0, .int 0, .ref v27, .ref v28, .ref v29, .ref v30, .ref v31, .ref v32, .ref v33, .ref v34, .ref v35, .ref v36, .ref v37, .int 0])), (v0, .inl (cA 0, 326, .inl fs))] s.heap := hP
  have hl := lv_entry ([.ref w0, .int i, .int j]) (n := 3) (Nat.le_of_ble_eq_true rfl)
  rw [lg_entry_eq]
  generalize (lg_sl ([.ref w0, .int i, .int j]) ++ List.replicate (3 - (lg_sl ([.ref w0, .int i, .int j])).length) Slot.unset).toArray = ls at hl ⊢
  have hl : lv_has ls 3 [(0, .ref w0), (1, .int i), (2, .int j)] := hl
  refine lv_aload_n hx hb dX10_splitPayment_0 rfl (lv_at hl 0 rfl) ?_
  refine lv_iload_n hx hb dX10_splitPayment_1 rfl (lv_at hl 1 rfl) ?_
  refine lv_iload_n hx hb dX10_splitPayment_2 rfl (lv_at hl 2 rfl) ?_
  have hPc := hP.sub (ws' := []) [] rfl
  have hDc := hD.sub (ws' := []) [] (by decide) rfl
  have hFc := va_free (wc := []) hD hS hA [] rfl
  refine va_calli (va_runS (As := [.int j]) (rest := [.int i, .ref w0]) ⟨hx, hb, hml, hown, hts⟩ (c_m_isShare_a l D cA sa j s.heap.size) (va_cwS 1 hts gX10_splitPayment_X10_isShare rfl rfl rfl (by decide +kernel) ⟨(Nat.le_of_ble_eq_true rfl), (Nat.le_of_ble_eq_true rfl)⟩) ⟨Wd.blind, fun U hU hW => ⟨rfl, Wd.call hPc hDc hK hC hZ hS hFc U hU hW⟩⟩ rfl rfl hl.1 rfl (lv_room (Nat.le_of_ble_eq_true rfl)) dX10_splitPayment_3 ⟨(Nat.le_of_ble_eq_true rfl), (Nat.le_of_ble_eq_true rfl)⟩) hS (fun q _ h => hFc q h) hFc (fun rn1 u t H1 locs ht hvm hw hB hz1 hk1 hS => ?_)
  obtain ⟨hP1, hD1⟩ := hB
  rw [ht] at hP1
  obtain ⟨hP, hD⟩ := va_join (wr := [(w0, .inr (11, [.ref v0, .ref v1, .ref v2, .ref v3, .ref v4, .long 0, .long 0, .int 0, .int th, .ref v9, .int 0, .int 0, .int (-1), .ref v13, .int 0, .int 0, .int 0, .int 0, .int 0, .int 0, .int 0, .int 0, .int 0, .int 0, .int 0, .long 0, .int 0, .ref v27, .ref v28, .ref v29, .ref v30, .ref v31, .ref v32, .ref v33, .ref v34, .ref v35, .ref v36, .ref v37, .int 0])), (v0, .inl (cA 0, 326, .inl fs))]) (w1 := []) hP hD [] [0, 1] rfl rfl (by decide) (by decide) hk1 hFc hP1 hD1
  generalize H1 = H at hP hS ⊢
  have hP : va_P D vwCl [(w0, .inr (11, [.ref v0, .ref v1, .ref v2, .ref v3, .ref v4, .long 0, .long 0, .int 0, .int th, .ref v9, .int 0, .int 0, .int (-1), .ref v13, .int 0, .int 0, .int 0, .int 0, .int 0, .int 0, .int 0, .int 0, .int 0, .int 0, .int 0, .long 0, .int 0, .ref v27, .ref v28, .ref v29, .ref v30, .ref v31, .ref v32, .ref v33, .ref v34, .ref v35, .ref v36, .ref v37, .int 0])), (v0, .inl (cA 0, 326, .inl fs))] H := hP
  have hD : va_D A [(w0, .inr (11, [.ref v0, .ref v1, .ref v2, .ref v3, .ref v4, .long 0, .long 0, .int 0, .int th, .ref v9, .int 0, .int 0, .int (-1), .ref v13, .int 0, .int 0, .int 0, .int 0, .int 0, .int 0, .int 0, .int 0, .int 0, .int 0, .int 0, .long 0, .int 0, .ref v27, .ref v28, .ref v29, .ref v30, .ref v31, .ref v32, .ref v33, .ref v34, .ref v35, .ref v36, .ref v37, .int 0])), (v0, .inl (cA 0, 326, .inl fs))] := hD
  have hPc := hP.sub (ws' := [(w0, .inr (11, [.ref v0, .ref v1, .ref v2, .ref v3, .ref v4, .long 0, .long 0, .int 0, .int th, .ref v9, .int 0, .int 0, .int (-1), .ref v13, .int 0, .int 0, .int 0, .int 0, .int 0, .int 0, .int 0, .int 0, .int 0, .int 0, .int 0, .long 0, .int 0, .ref v27, .ref v28, .ref v29, .ref v30, .ref v31, .ref v32, .ref v33, .ref v34, .ref v35, .ref v36, .ref v37, .int 0])), (v0, .inl (cA 0, 326, .inl fs))]) [0, 1] rfl
  have hDc := hD.sub (ws' := [(w0, .inr (11, [.ref v0, .ref v1, .ref v2, .ref v3, .ref v4, .long 0, .long 0, .int 0, .int th, .ref v9, .int 0, .int 0, .int (-1), .ref v13, .int 0, .int 0, .int 0, .int 0, .int 0, .int 0, .int 0, .int 0, .int 0, .int 0, .int 0, .long 0, .int 0, .ref v27, .ref v28, .ref v29, .ref v30, .ref v31, .ref v32, .ref v33, .ref v34, .ref v35, .ref v36, .ref v37, .int 0])), (v0, .inl (cA 0, 326, .inl fs))]) [0, 1] (by decide) rfl
  have hFc := va_free (wc := [(w0, .inr (11, [.ref v0, .ref v1, .ref v2, .ref v3, .ref v4, .long 0, .long 0, .int 0, .int th, .ref v9, .int 0, .int 0, .int (-1), .ref v13, .int 0, .int 0, .int 0, .int 0, .int 0, .int 0, .int 0, .int 0, .int 0, .int 0, .int 0, .long 0, .int 0, .ref v27, .ref v28, .ref v29, .ref v30, .ref v31, .ref v32, .ref v33, .ref v34, .ref v35, .ref v36, .ref v37, .int 0])), (v0, .inl (cA 0, 326, .inl fs))]) hD hS hA [0, 1] rfl
  refine va_calli (va_runV (As := [.int i, .int rn1]) (rest := []) ⟨hx, hb, hml, hown, hts⟩ (c_m_canSplit l D cA sa w0 v0 v1 v2 v3 v4 v9 v13 v27 v28 v29 v30 v31 v32 v33 v34 v35 v36 v37 th fs i rn1 H.size hz) (cwV 2 hts gX10_splitPayment_X10_canSplit rfl rfl rfl (by decide +kernel) ⟨(Nat.le_of_ble_eq_true rfl), (Nat.le_of_ble_eq_true rfl)⟩) ⟨Wd.blind, va_recv hK hPc (ci := 11) (q0 := 0) rfl rfl, fun U hU hW => ⟨rfl, Wd.call hPc hDc hK hC hZ hS hFc U hU hW⟩⟩ rfl rfl hl.1 rfl (lv_room (Nat.le_of_ble_eq_true rfl)) dX10_splitPayment_6 ⟨(Nat.le_of_ble_eq_true rfl), (Nat.le_of_ble_eq_true rfl)⟩) hS (fun q _ h => hFc q h) hFc (fun rn2 u t H1 locs ht hvm hw hB hz1 hk1 hS => ?_)
  obtain ⟨hP1, hD1⟩ := hB
  rw [ht] at hP1
  obtain ⟨hP, hD⟩ := va_join (wr := []) (w1 := [(w0, .inr (11, [.ref v0, .ref v1, .ref v2, .ref v3, .ref v4, .long 0, .long 0, .int 0, .int 1, .ref v9, .int 0, .int 0, .int (-1), .ref v13, .int 0, .int 0, .int 0, .int 0, .int 0, .int 0, .int 0, .int 0, .int 0, .int 0, .int 0, .long 0, .int 0, .ref v27, .ref v28, .ref v29, .ref v30, .ref v31, .ref v32, .ref v33, .ref v34, .ref v35, .ref v36, .ref v37, .int 0]))]) hP hD [0, 1] [] rfl rfl (by decide) (by decide) hk1 hFc hP1 hD1
  generalize H1 = H at hP hS ⊢
  have hP : va_P D vwCl [(w0, .inr (11, [.ref v0, .ref v1, .ref v2, .ref v3, .ref v4, .long 0, .long 0, .int 0, .int 1, .ref v9, .int 0, .int 0, .int (-1), .ref v13, .int 0, .int 0, .int 0, .int 0, .int 0, .int 0, .int 0, .int 0, .int 0, .int 0, .int 0, .long 0, .int 0, .ref v27, .ref v28, .ref v29, .ref v30, .ref v31, .ref v32, .ref v33, .ref v34, .ref v35, .ref v36, .ref v37, .int 0]))] H := hP
  have hD : va_D A [(w0, .inr (11, [.ref v0, .ref v1, .ref v2, .ref v3, .ref v4, .long 0, .long 0, .int 0, .int 1, .ref v9, .int 0, .int 0, .int (-1), .ref v13, .int 0, .int 0, .int 0, .int 0, .int 0, .int 0, .int 0, .int 0, .int 0, .int 0, .int 0, .long 0, .int 0, .ref v27, .ref v28, .ref v29, .ref v30, .ref v31, .ref v32, .ref v33, .ref v34, .ref v35, .ref v36, .ref v37, .int 0]))] := hD
  obtain rfl : rn2 = 0 := hw
  refine lv_if_eq (tgt := 21) hx hb dX10_splitPayment_9 (by decide) (fun c3 => ?_) (fun c9 => absurd c9 (by decide))
  refine lv_iconst (v := 0) hx hb dX10_splitPayment_21 (by decide) ?_
  have hP9 := hP.sub (ws' := [(w0, .inr (11, [.ref v0, .ref v1, .ref v2, .ref v3, .ref v4, .long 0, .long 0, .int 0, .int 1, .ref v9, .int 0, .int 0, .int (-1), .ref v13, .int 0, .int 0, .int 0, .int 0, .int 0, .int 0, .int 0, .int 0, .int 0, .int 0, .int 0, .long 0, .int 0, .ref v27, .ref v28, .ref v29, .ref v30, .ref v31, .ref v32, .ref v33, .ref v34, .ref v35, .ref v36, .ref v37, .int 0]))]) [0] rfl
  have hD9 := hD.sub (ws' := [(w0, .inr (11, [.ref v0, .ref v1, .ref v2, .ref v3, .ref v4, .long 0, .long 0, .int 0, .int 1, .ref v9, .int 0, .int 0, .int (-1), .ref v13, .int 0, .int 0, .int 0, .int 0, .int 0, .int 0, .int 0, .int 0, .int 0, .int 0, .int 0, .long 0, .int 0, .ref v27, .ref v28, .ref v29, .ref v30, .ref v31, .ref v32, .ref v33, .ref v34, .ref v35, .ref v36, .ref v37, .int 0]))]) [0] (by decide) rfl
  refine W.widen (k := 0) (n := 0) (Nat.le_of_ble_eq_true rfl) (Nat.le_of_ble_eq_true rfl) ?_
  exact W.iret (v := 0) hx hb hr (fun t ht hW => ⟨⟨0, (), rfl, rfl, by rw [ht]; exact hP9, hD9⟩, hS.F ht⟩) hS.2.2 dX10_splitPayment_22

set_option maxHeartbeats 4000000 in
set_option maxRecDepth 100000 in
/-- shareFor: thrown 1 -/
theorem c_m_shareFor (l : Launch) (D : va_G) (cA : Nat → ClassId) (sa : Nat → Nat) (w0 v0 v1 v2 v3 v4 v9 v13 v27 v28 v29 v30 v31 v32 v33 v34 v35 v36 v37 : Nat) (th : Int32) (fs : Nat → Int32) (i j : Int32) (sz : Nat) (hz : Zs fs) : Met l yX10_shareFor wsX10_shareFor ({ frames := 3, cells := 0, slots := 0, locals := 68 }) (va_Pc [.ref w0, .int i, .int j] (Wd D cA sa [(w0, .inr (11, [.ref v0, .ref v1, .ref v2, .ref v3, .ref v4, .long 0, .long 0, .int 0, .int th, .ref v9, .int 0, .int 0, .int (-1), .ref v13, .int 0, .int 0, .int 0, .int 0, .int 0, .int 0, .int 0, .int 0, .int 0, .int 0, .int 0, .long 0, .int 0, .ref v27, .ref v28, .ref v29, .ref v30, .ref v31, .ref v32, .ref v33, .ref v34, .ref v35, .ref v36, .ref v37, .int 0])), (v0, .inl (cA 0, 326, .inl fs))] sz)) (va_Qi (fun (r : Int32) (_ : Unit) => r = 0) (fun (_ : Unit) t => Wq D (va_A [(w0, .inr (11, [.ref v0, .ref v1, .ref v2, .ref v3, .ref v4, .long 0, .long 0, .int 0, .int th, .ref v9, .int 0, .int 0, .int (-1), .ref v13, .int 0, .int 0, .int 0, .int 0, .int 0, .int 0, .int 0, .int 0, .int 0, .int 0, .int 0, .long 0, .int 0, .ref v27, .ref v28, .ref v29, .ref v30, .ref v31, .ref v32, .ref v33, .ref v34, .ref v35, .ref v36, .ref v37, .int 0])), (v0, .inl (cA 0, 326, .inl fs))] sz) [(w0, .inr (11, [.ref v0, .ref v1, .ref v2, .ref v3, .ref v4, .long 0, .long 0, .int 0, .int 1, .ref v9, .int 0, .int 0, .int (-1), .ref v13, .int 0, .int 0, .int 0, .int 0, .int 0, .int 0, .int 0, .int 0, .int 0, .int 0, .int 0, .long 0, .int 0, .ref v27, .ref v28, .ref v29, .ref v30, .ref v31, .ref v32, .ref v33, .ref v34, .ref v35, .ref v36, .ref v37, .int 0]))] t) (va_A [(w0, .inr (11, [.ref v0, .ref v1, .ref v2, .ref v3, .ref v4, .long 0, .long 0, .int 0, .int th, .ref v9, .int 0, .int 0, .int (-1), .ref v13, .int 0, .int 0, .int 0, .int 0, .int 0, .int 0, .int 0, .int 0, .int 0, .int 0, .int 0, .long 0, .int 0, .ref v27, .ref v28, .ref v29, .ref v30, .ref v31, .ref v32, .ref v33, .ref v34, .ref v35, .ref v36, .ref v37, .int 0])), (v0, .inl (cA 0, 326, .inl fs))] sz)) 0 0 (va_A [(w0, .inr (11, [.ref v0, .ref v1, .ref v2, .ref v3, .ref v4, .long 0, .long 0, .int 0, .int th, .ref v9, .int 0, .int 0, .int (-1), .ref v13, .int 0, .int 0, .int 0, .int 0, .int 0, .int 0, .int 0, .int 0, .int 0, .int 0, .int 0, .long 0, .int 0, .ref v27, .ref v28, .ref v29, .ref v30, .ref v31, .ref v32, .ref v33, .ref v34, .ref v35, .ref v36, .ref v37, .int 0])), (v0, .inl (cA 0, 326, .inl fs))] sz) := by
  refine Met.ofW (cc := cX10_shareFor) (maxL := 5) (ret := (some .int)) (by decide) rfl ?_
  intro p e s m args below meth c s₁ B hml hv
  obtain ⟨rfl, hsz, hP, hK, hD0, hC, hZ⟩ := hv
  have hx := B.exec
  have hb := B.bytes
  have hr := B.returns
  have hts := atoms_spec (ws := wsX10_shareFor) B.pre
  have hown : s.vm.findClass RX10 = some m.cls := findClass_of_methodNamed B.named
  have hlocks := B.notSynchronized
  subst hsz
  have hD := hD0.self (sz := s.heap.size)
  generalize hAe : va_A [(w0, .inr (11, [.ref v0, .ref v1, .ref v2, .ref v3, .ref v4, .long 0, .long 0, .int 0, .int th, .ref v9, .int 0, .int 0, .int (-1), .ref v13, .int 0, .int 0, .int 0, .int 0, .int 0, .int 0, .int 0, .int 0, .int 0, .int 0, .int 0, .long 0, .int 0, .ref v27, .ref v28, .ref v29, .ref v30, .ref v31, .ref v32, .ref v33, .ref v34, .ref v35, .ref v36, .ref v37, .int 0])), (v0, .inl (cA 0, 326, .inl fs))] s.heap.size = A at hD hZ ⊢
  have hA : ∀ q : Nat, s.heap.size ≤ q → A q := fun q h => by rw [← hAe]; exact Or.inr h
  have hS : va_S A s.heap s.heap [] := va_S.rf
  have hP : va_P D vwCl [(w0, .inr (11, [.ref v0, .ref v1, .ref v2, .ref v3, .ref v4, .long 0, .long 0, .int 0, .int th, .ref v9, .int 0, .int 0, .int (-1), .ref v13, .int 0, .int 0, .int 0, .int 0, .int 0, .int 0, .int 0, .int 0, .int 0, .int 0, .int 0, .long 0, .int 0, .ref v27, .ref v28, .ref v29, .ref v30, .ref v31, .ref v32, .ref v33, .ref v34, .ref v35, .ref v36, .ref v37, .int 0])), (v0, .inl (cA 0, 326, .inl fs))] s.heap := hP
  have hl := lv_entry ([.ref w0, .int i, .int j]) (n := 5) (Nat.le_of_ble_eq_true rfl)
  rw [lg_entry_eq]
  generalize (lg_sl ([.ref w0, .int i, .int j]) ++ List.replicate (5 - (lg_sl ([.ref w0, .int i, .int j])).length) Slot.unset).toArray = ls at hl ⊢
  have hl : lv_has ls 5 [(0, .ref w0), (1, .int i), (2, .int j)] := hl
  refine lv_aload_n hx hb dX10_shareFor_0 rfl (lv_at hl 0 rfl) ?_
  refine lv_iload_n hx hb dX10_shareFor_1 rfl (lv_at hl 1 rfl) ?_
  refine lv_iload_n hx hb dX10_shareFor_2 rfl (lv_at hl 2 rfl) ?_
  refine lv_i2l (v := (j.toInt64)) hx hb dX10_shareFor_3 rfl ?_
  refine lv_lconst (v := 0) hx hb dX10_shareFor_4 (by decide) ?_
  refine lv_ldc2 (v := 99999) hx hb hown (hts (.constantLong RX10 388 99999) (by decide +kernel)) dX10_shareFor_5 ?_
  have hPc := hP.sub (ws' := []) [] rfl
  have hDc := hD.sub (ws' := []) [] (by decide) rfl
  have hFc := va_free (wc := []) hD hS hA [] rfl
  refine va_calli (va_runS (As := [.long (j.toInt64), .long 0, .long 99999]) (rest := [.int i, .ref w0]) ⟨hx, hb, hml, hown, hts⟩ (c_btw_a l D cA sa (j.toInt64) 0 99999 s.heap.size) (va_cwS 3 hts gX10_shareFor_X10_between rfl rfl rfl (by decide +kernel) ⟨(Nat.le_of_ble_eq_true rfl), (Nat.le_of_ble_eq_true rfl)⟩) ⟨Wd.blind, fun U hU hW => ⟨rfl, Wd.call hPc hDc hK hC hZ hS hFc U hU hW⟩⟩ rfl rfl hl.1 rfl (lv_room (Nat.le_of_ble_eq_true rfl)) dX10_shareFor_8 ⟨(Nat.le_of_ble_eq_true rfl), (Nat.le_of_ble_eq_true rfl)⟩) hS (fun q _ h => hFc q h) hFc (fun rn1 u t H1 locs ht hvm hw hB hz1 hk1 hS => ?_)
  obtain ⟨hP1, hD1⟩ := hB
  rw [ht] at hP1
  obtain ⟨hP, hD⟩ := va_join (wr := [(w0, .inr (11, [.ref v0, .ref v1, .ref v2, .ref v3, .ref v4, .long 0, .long 0, .int 0, .int th, .ref v9, .int 0, .int 0, .int (-1), .ref v13, .int 0, .int 0, .int 0, .int 0, .int 0, .int 0, .int 0, .int 0, .int 0, .int 0, .int 0, .long 0, .int 0, .ref v27, .ref v28, .ref v29, .ref v30, .ref v31, .ref v32, .ref v33, .ref v34, .ref v35, .ref v36, .ref v37, .int 0])), (v0, .inl (cA 0, 326, .inl fs))]) (w1 := []) hP hD [] [0, 1] rfl rfl (by decide) (by decide) hk1 hFc hP1 hD1
  generalize H1 = H at hP hS ⊢
  have hP : va_P D vwCl [(w0, .inr (11, [.ref v0, .ref v1, .ref v2, .ref v3, .ref v4, .long 0, .long 0, .int 0, .int th, .ref v9, .int 0, .int 0, .int (-1), .ref v13, .int 0, .int 0, .int 0, .int 0, .int 0, .int 0, .int 0, .int 0, .int 0, .int 0, .int 0, .long 0, .int 0, .ref v27, .ref v28, .ref v29, .ref v30, .ref v31, .ref v32, .ref v33, .ref v34, .ref v35, .ref v36, .ref v37, .int 0])), (v0, .inl (cA 0, 326, .inl fs))] H := hP
  have hD : va_D A [(w0, .inr (11, [.ref v0, .ref v1, .ref v2, .ref v3, .ref v4, .long 0, .long 0, .int 0, .int th, .ref v9, .int 0, .int 0, .int (-1), .ref v13, .int 0, .int 0, .int 0, .int 0, .int 0, .int 0, .int 0, .int 0, .int 0, .int 0, .int 0, .long 0, .int 0, .ref v27, .ref v28, .ref v29, .ref v30, .ref v31, .ref v32, .ref v33, .ref v34, .ref v35, .ref v36, .ref v37, .int 0])), (v0, .inl (cA 0, 326, .inl fs))] := hD
  have hPc := hP.sub (ws' := [(w0, .inr (11, [.ref v0, .ref v1, .ref v2, .ref v3, .ref v4, .long 0, .long 0, .int 0, .int th, .ref v9, .int 0, .int 0, .int (-1), .ref v13, .int 0, .int 0, .int 0, .int 0, .int 0, .int 0, .int 0, .int 0, .int 0, .int 0, .int 0, .long 0, .int 0, .ref v27, .ref v28, .ref v29, .ref v30, .ref v31, .ref v32, .ref v33, .ref v34, .ref v35, .ref v36, .ref v37, .int 0])), (v0, .inl (cA 0, 326, .inl fs))]) [0, 1] rfl
  have hDc := hD.sub (ws' := [(w0, .inr (11, [.ref v0, .ref v1, .ref v2, .ref v3, .ref v4, .long 0, .long 0, .int 0, .int th, .ref v9, .int 0, .int 0, .int (-1), .ref v13, .int 0, .int 0, .int 0, .int 0, .int 0, .int 0, .int 0, .int 0, .int 0, .int 0, .int 0, .long 0, .int 0, .ref v27, .ref v28, .ref v29, .ref v30, .ref v31, .ref v32, .ref v33, .ref v34, .ref v35, .ref v36, .ref v37, .int 0])), (v0, .inl (cA 0, 326, .inl fs))]) [0, 1] (by decide) rfl
  have hFc := va_free (wc := [(w0, .inr (11, [.ref v0, .ref v1, .ref v2, .ref v3, .ref v4, .long 0, .long 0, .int 0, .int th, .ref v9, .int 0, .int 0, .int (-1), .ref v13, .int 0, .int 0, .int 0, .int 0, .int 0, .int 0, .int 0, .int 0, .int 0, .int 0, .int 0, .long 0, .int 0, .ref v27, .ref v28, .ref v29, .ref v30, .ref v31, .ref v32, .ref v33, .ref v34, .ref v35, .ref v36, .ref v37, .int 0])), (v0, .inl (cA 0, 326, .inl fs))]) hD hS hA [0, 1] rfl
  refine va_calli (va_runV (As := [.int i, .int rn1]) (rest := []) ⟨hx, hb, hml, hown, hts⟩ (c_m_canSplit l D cA sa w0 v0 v1 v2 v3 v4 v9 v13 v27 v28 v29 v30 v31 v32 v33 v34 v35 v36 v37 th fs i rn1 H.size hz) (cwV 2 hts gX10_shareFor_X10_canSplit rfl rfl rfl (by decide +kernel) ⟨(Nat.le_of_ble_eq_true rfl), (Nat.le_of_ble_eq_true rfl)⟩) ⟨Wd.blind, va_recv hK hPc (ci := 11) (q0 := 0) rfl rfl, fun U hU hW => ⟨rfl, Wd.call hPc hDc hK hC hZ hS hFc U hU hW⟩⟩ rfl rfl hl.1 rfl (lv_room (Nat.le_of_ble_eq_true rfl)) dX10_shareFor_11 ⟨(Nat.le_of_ble_eq_true rfl), (Nat.le_of_ble_eq_true rfl)⟩) hS (fun q _ h => hFc q h) hFc (fun rn2 u t H1 locs ht hvm hw hB hz1 hk1 hS => ?_)
  obtain ⟨hP1, hD1⟩ := hB
  rw [ht] at hP1
  obtain ⟨hP, hD⟩ := va_join (wr := []) (w1 := [(w0, .inr (11, [.ref v0, .ref v1, .ref v2, .ref v3, .ref v4, .long 0, .long 0, .int 0, .int 1, .ref v9, .int 0, .int 0, .int (-1), .ref v13, .int 0, .int 0, .int 0, .int 0, .int 0, .int 0, .int 0, .int 0, .int 0, .int 0, .int 0, .long 0, .int 0, .ref v27, .ref v28, .ref v29, .ref v30, .ref v31, .ref v32, .ref v33, .ref v34, .ref v35, .ref v36, .ref v37, .int 0]))]) hP hD [0, 1] [] rfl rfl (by decide) (by decide) hk1 hFc hP1 hD1
  generalize H1 = H at hP hS ⊢
  have hP : va_P D vwCl [(w0, .inr (11, [.ref v0, .ref v1, .ref v2, .ref v3, .ref v4, .long 0, .long 0, .int 0, .int 1, .ref v9, .int 0, .int 0, .int (-1), .ref v13, .int 0, .int 0, .int 0, .int 0, .int 0, .int 0, .int 0, .int 0, .int 0, .int 0, .int 0, .long 0, .int 0, .ref v27, .ref v28, .ref v29, .ref v30, .ref v31, .ref v32, .ref v33, .ref v34, .ref v35, .ref v36, .ref v37, .int 0]))] H := hP
  have hD : va_D A [(w0, .inr (11, [.ref v0, .ref v1, .ref v2, .ref v3, .ref v4, .long 0, .long 0, .int 0, .int 1, .ref v9, .int 0, .int 0, .int (-1), .ref v13, .int 0, .int 0, .int 0, .int 0, .int 0, .int 0, .int 0, .int 0, .int 0, .int 0, .int 0, .long 0, .int 0, .ref v27, .ref v28, .ref v29, .ref v30, .ref v31, .ref v32, .ref v33, .ref v34, .ref v35, .ref v36, .ref v37, .int 0]))] := hD
  obtain rfl : rn2 = 0 := hw
  refine lv_if_ne (tgt := 19) hx hb dX10_shareFor_14 (by decide) (fun c9 => absurd c9 (by decide)) (fun c3 => ?_)
  refine lv_iconst (v := 0) hx hb dX10_shareFor_17 (by decide) ?_
  have hP9 := hP.sub (ws' := [(w0, .inr (11, [.ref v0, .ref v1, .ref v2, .ref v3, .ref v4, .long 0, .long 0, .int 0, .int 1, .ref v9, .int 0, .int 0, .int (-1), .ref v13, .int 0, .int 0, .int 0, .int 0, .int 0, .int 0, .int 0, .int 0, .int 0, .int 0, .int 0, .long 0, .int 0, .ref v27, .ref v28, .ref v29, .ref v30, .ref v31, .ref v32, .ref v33, .ref v34, .ref v35, .ref v36, .ref v37, .int 0]))]) [0] rfl
  have hD9 := hD.sub (ws' := [(w0, .inr (11, [.ref v0, .ref v1, .ref v2, .ref v3, .ref v4, .long 0, .long 0, .int 0, .int 1, .ref v9, .int 0, .int 0, .int (-1), .ref v13, .int 0, .int 0, .int 0, .int 0, .int 0, .int 0, .int 0, .int 0, .int 0, .int 0, .int 0, .long 0, .int 0, .ref v27, .ref v28, .ref v29, .ref v30, .ref v31, .ref v32, .ref v33, .ref v34, .ref v35, .ref v36, .ref v37, .int 0]))]) [0] (by decide) rfl
  refine W.widen (k := 0) (n := 0) (Nat.le_of_ble_eq_true rfl) (Nat.le_of_ble_eq_true rfl) ?_
  exact W.iret (v := 0) hx hb hr (fun t ht hW => ⟨⟨0, (), rfl, rfl, by rw [ht]; exact hP9, hD9⟩, hS.F ht⟩) hS.2.2 dX10_shareFor_18

set_option maxHeartbeats 4000000 in
set_option maxRecDepth 100000 in
/-- pay: thrown 1 -/
theorem c_m_pay (l : Launch) (D : va_G) (cA : Nat → ClassId) (sa : Nat → Nat) (w0 v0 v1 v2 v3 v4 v9 v13 v27 v28 v29 v30 v31 v32 v33 v34 v35 v36 v37 : Nat) (th : Int32) (fs : Nat → Int32) (i j : Int32) (sz : Nat) (hz : Zs fs) : Met l yX10_pay wsX10_pay ({ frames := 2, cells := 0, slots := 0, locals := 46 }) (va_Pc [.ref w0, .int i, .int j] (Wd D cA sa [(w0, .inr (11, [.ref v0, .ref v1, .ref v2, .ref v3, .ref v4, .long 0, .long 0, .int 0, .int th, .ref v9, .int 0, .int 0, .int (-1), .ref v13, .int 0, .int 0, .int 0, .int 0, .int 0, .int 0, .int 0, .int 0, .int 0, .int 0, .int 0, .long 0, .int 0, .ref v27, .ref v28, .ref v29, .ref v30, .ref v31, .ref v32, .ref v33, .ref v34, .ref v35, .ref v36, .ref v37, .int 0])), (v0, .inl (cA 0, 326, .inl fs))] sz)) (va_Qi (fun (r : Int32) (_ : Unit) => r = 0) (fun (_ : Unit) t => Wq D (va_A [(w0, .inr (11, [.ref v0, .ref v1, .ref v2, .ref v3, .ref v4, .long 0, .long 0, .int 0, .int th, .ref v9, .int 0, .int 0, .int (-1), .ref v13, .int 0, .int 0, .int 0, .int 0, .int 0, .int 0, .int 0, .int 0, .int 0, .int 0, .int 0, .long 0, .int 0, .ref v27, .ref v28, .ref v29, .ref v30, .ref v31, .ref v32, .ref v33, .ref v34, .ref v35, .ref v36, .ref v37, .int 0])), (v0, .inl (cA 0, 326, .inl fs))] sz) [(w0, .inr (11, [.ref v0, .ref v1, .ref v2, .ref v3, .ref v4, .long 0, .long 0, .int 0, .int 1, .ref v9, .int 0, .int 0, .int (-1), .ref v13, .int 0, .int 0, .int 0, .int 0, .int 0, .int 0, .int 0, .int 0, .int 0, .int 0, .int 0, .long 0, .int 0, .ref v27, .ref v28, .ref v29, .ref v30, .ref v31, .ref v32, .ref v33, .ref v34, .ref v35, .ref v36, .ref v37, .int 0]))] t) (va_A [(w0, .inr (11, [.ref v0, .ref v1, .ref v2, .ref v3, .ref v4, .long 0, .long 0, .int 0, .int th, .ref v9, .int 0, .int 0, .int (-1), .ref v13, .int 0, .int 0, .int 0, .int 0, .int 0, .int 0, .int 0, .int 0, .int 0, .int 0, .int 0, .long 0, .int 0, .ref v27, .ref v28, .ref v29, .ref v30, .ref v31, .ref v32, .ref v33, .ref v34, .ref v35, .ref v36, .ref v37, .int 0])), (v0, .inl (cA 0, 326, .inl fs))] sz)) 0 0 (va_A [(w0, .inr (11, [.ref v0, .ref v1, .ref v2, .ref v3, .ref v4, .long 0, .long 0, .int 0, .int th, .ref v9, .int 0, .int 0, .int (-1), .ref v13, .int 0, .int 0, .int 0, .int 0, .int 0, .int 0, .int 0, .int 0, .int 0, .int 0, .int 0, .long 0, .int 0, .ref v27, .ref v28, .ref v29, .ref v30, .ref v31, .ref v32, .ref v33, .ref v34, .ref v35, .ref v36, .ref v37, .int 0])), (v0, .inl (cA 0, 326, .inl fs))] sz) := by
  refine Met.ofW (cc := cX10_pay) (maxL := 5) (ret := (some .int)) (by decide) rfl ?_
  intro p e s m args below meth c s₁ B hml hv
  obtain ⟨rfl, hsz, hP, hK, hD0, hC, hZ⟩ := hv
  have hx := B.exec
  have hb := B.bytes
  have hr := B.returns
  have hts := atoms_spec (ws := wsX10_pay) B.pre
  have hown : s.vm.findClass RX10 = some m.cls := findClass_of_methodNamed B.named
  have hlocks := B.notSynchronized
  subst hsz
  have hD := hD0.self (sz := s.heap.size)
  generalize hAe : va_A [(w0, .inr (11, [.ref v0, .ref v1, .ref v2, .ref v3, .ref v4, .long 0, .long 0, .int 0, .int th, .ref v9, .int 0, .int 0, .int (-1), .ref v13, .int 0, .int 0, .int 0, .int 0, .int 0, .int 0, .int 0, .int 0, .int 0, .int 0, .int 0, .long 0, .int 0, .ref v27, .ref v28, .ref v29, .ref v30, .ref v31, .ref v32, .ref v33, .ref v34, .ref v35, .ref v36, .ref v37, .int 0])), (v0, .inl (cA 0, 326, .inl fs))] s.heap.size = A at hD hZ ⊢
  have hA : ∀ q : Nat, s.heap.size ≤ q → A q := fun q h => by rw [← hAe]; exact Or.inr h
  have hS : va_S A s.heap s.heap [] := va_S.rf
  have hP : va_P D vwCl [(w0, .inr (11, [.ref v0, .ref v1, .ref v2, .ref v3, .ref v4, .long 0, .long 0, .int 0, .int th, .ref v9, .int 0, .int 0, .int (-1), .ref v13, .int 0, .int 0, .int 0, .int 0, .int 0, .int 0, .int 0, .int 0, .int 0, .int 0, .int 0, .long 0, .int 0, .ref v27, .ref v28, .ref v29, .ref v30, .ref v31, .ref v32, .ref v33, .ref v34, .ref v35, .ref v36, .ref v37, .int 0])), (v0, .inl (cA 0, 326, .inl fs))] s.heap := hP
  have hl := lv_entry ([.ref w0, .int i, .int j]) (n := 5) (Nat.le_of_ble_eq_true rfl)
  rw [lg_entry_eq]
  generalize (lg_sl ([.ref w0, .int i, .int j]) ++ List.replicate (5 - (lg_sl ([.ref w0, .int i, .int j])).length) Slot.unset).toArray = ls at hl ⊢
  have hl : lv_has ls 5 [(0, .ref w0), (1, .int i), (2, .int j)] := hl
  refine lv_aload_n hx hb dX10_pay_0 rfl (lv_at hl 0 rfl) ?_
  refine lv_iload_n hx hb dX10_pay_1 rfl (lv_at hl 1 rfl) ?_
  have hPc := hP.sub (ws' := [(w0, .inr (11, [.ref v0, .ref v1, .ref v2, .ref v3, .ref v4, .long 0, .long 0, .int 0, .int th, .ref v9, .int 0, .int 0, .int (-1), .ref v13, .int 0, .int 0, .int 0, .int 0, .int 0, .int 0, .int 0, .int 0, .int 0, .int 0, .int 0, .long 0, .int 0, .ref v27, .ref v28, .ref v29, .ref v30, .ref v31, .ref v32, .ref v33, .ref v34, .ref v35, .ref v36, .ref v37, .int 0])), (v0, .inl (cA 0, 326, .inl fs))]) [0, 1] rfl
  have hDc := hD.sub (ws' := [(w0, .inr (11, [.ref v0, .ref v1, .ref v2, .ref v3, .ref v4, .long 0, .long 0, .int 0, .int th, .ref v9, .int 0, .int 0, .int (-1), .ref v13, .int 0, .int 0, .int 0, .int 0, .int 0, .int 0, .int 0, .int 0, .int 0, .int 0, .int 0, .long 0, .int 0, .ref v27, .ref v28, .ref v29, .ref v30, .ref v31, .ref v32, .ref v33, .ref v34, .ref v35, .ref v36, .ref v37, .int 0])), (v0, .inl (cA 0, 326, .inl fs))]) [0, 1] (by decide) rfl
  have hFc := va_free (wc := [(w0, .inr (11, [.ref v0, .ref v1, .ref v2, .ref v3, .ref v4, .long 0, .long 0, .int 0, .int th, .ref v9, .int 0, .int 0, .int (-1), .ref v13, .int 0, .int 0, .int 0, .int 0, .int 0, .int 0, .int 0, .int 0, .int 0, .int 0, .int 0, .long 0, .int 0, .ref v27, .ref v28, .ref v29, .ref v30, .ref v31, .ref v32, .ref v33, .ref v34, .ref v35, .ref v36, .ref v37, .int 0])), (v0, .inl (cA 0, 326, .inl fs))]) hD hS hA [0, 1] rfl
  refine va_calli (va_runV (As := [.int i]) (rest := []) ⟨hx, hb, hml, hown, hts⟩ (c_m_isMilestone l D cA sa w0 v0 v1 v2 v3 v4 v9 v13 v27 v28 v29 v30 v31 v32 v33 v34 v35 v36 v37 th fs i s.heap.size hz) (cwV 1 hts gX10_pay_X10_isMilestone rfl rfl rfl (by decide +kernel) ⟨(Nat.le_of_ble_eq_true rfl), (Nat.le_of_ble_eq_true rfl)⟩) ⟨Wd.blind, va_recv hK hPc (ci := 11) (q0 := 0) rfl rfl, fun U hU hW => ⟨rfl, Wd.call hPc hDc hK hC hZ hS hFc U hU hW⟩⟩ rfl rfl hl.1 rfl (lv_room (Nat.le_of_ble_eq_true rfl)) dX10_pay_2 ⟨(Nat.le_of_ble_eq_true rfl), (Nat.le_of_ble_eq_true rfl)⟩) hS (fun q _ h => hFc q h) hFc (fun rn1 u t H1 locs ht hvm hw hB hz1 hk1 hS => ?_)
  obtain ⟨hP1, hD1⟩ := hB
  rw [ht] at hP1
  obtain ⟨hP, hD⟩ := va_join (wr := []) (w1 := [(w0, .inr (11, [.ref v0, .ref v1, .ref v2, .ref v3, .ref v4, .long 0, .long 0, .int 0, .int th, .ref v9, .int 0, .int 0, .int (-1), .ref v13, .int 0, .int 0, .int 0, .int 0, .int 0, .int 0, .int 0, .int 0, .int 0, .int 0, .int 0, .long 0, .int 0, .ref v27, .ref v28, .ref v29, .ref v30, .ref v31, .ref v32, .ref v33, .ref v34, .ref v35, .ref v36, .ref v37, .int 0])), (v0, .inl (cA 0, 326, .inl fs))]) hP hD [0, 1] [] rfl rfl (by decide) (by decide) hk1 hFc hP1 hD1
  generalize H1 = H at hP hS ⊢
  have hP : va_P D vwCl [(w0, .inr (11, [.ref v0, .ref v1, .ref v2, .ref v3, .ref v4, .long 0, .long 0, .int 0, .int th, .ref v9, .int 0, .int 0, .int (-1), .ref v13, .int 0, .int 0, .int 0, .int 0, .int 0, .int 0, .int 0, .int 0, .int 0, .int 0, .int 0, .long 0, .int 0, .ref v27, .ref v28, .ref v29, .ref v30, .ref v31, .ref v32, .ref v33, .ref v34, .ref v35, .ref v36, .ref v37, .int 0])), (v0, .inl (cA 0, 326, .inl fs))] H := hP
  have hD : va_D A [(w0, .inr (11, [.ref v0, .ref v1, .ref v2, .ref v3, .ref v4, .long 0, .long 0, .int 0, .int th, .ref v9, .int 0, .int 0, .int (-1), .ref v13, .int 0, .int 0, .int 0, .int 0, .int 0, .int 0, .int 0, .int 0, .int 0, .int 0, .int 0, .long 0, .int 0, .ref v27, .ref v28, .ref v29, .ref v30, .ref v31, .ref v32, .ref v33, .ref v34, .ref v35, .ref v36, .ref v37, .int 0])), (v0, .inl (cA 0, 326, .inl fs))] := hD
  obtain rfl : rn1 = 0 := hw
  refine lv_istore_n (lv' := [(3, .int 0), (0, .ref w0), (1, .int i), (2, .int j)]) hx hb dX10_pay_5 rfl hl (by decide) rfl (fun ls hl => ?_)
  refine lv_aload_n hx hb dX10_pay_6 rfl (lv_at hl 1 rfl) ?_
  refine lv_iload_n hx hb dX10_pay_7 rfl (lv_at hl 0 rfl) ?_
  refine lv_iload_n hx hb dX10_pay_8 rfl (lv_at hl 0 rfl) ?_
  refine lv_if_eq (tgt := 31) hx hb dX10_pay_9 (by decide) (fun c2 => ?_) (fun c9 => absurd c9 (by decide))
  refine lv_iconst (v := 0) hx hb dX10_pay_31 (by decide) ?_
  have hPc := hP.sub (ws' := [(w0, .inr (11, [.ref v0, .ref v1, .ref v2, .ref v3, .ref v4, .long 0, .long 0, .int 0, .int th, .ref v9, .int 0, .int 0, .int (-1), .ref v13, .int 0, .int 0, .int 0, .int 0, .int 0, .int 0, .int 0, .int 0, .int 0, .int 0, .int 0, .long 0, .int 0, .ref v27, .ref v28, .ref v29, .ref v30, .ref v31, .ref v32, .ref v33, .ref v34, .ref v35, .ref v36, .ref v37, .int 0]))]) [0] rfl
  have hDc := hD.sub (ws' := [(w0, .inr (11, [.ref v0, .ref v1, .ref v2, .ref v3, .ref v4, .long 0, .long 0, .int 0, .int th, .ref v9, .int 0, .int 0, .int (-1), .ref v13, .int 0, .int 0, .int 0, .int 0, .int 0, .int 0, .int 0, .int 0, .int 0, .int 0, .int 0, .long 0, .int 0, .ref v27, .ref v28, .ref v29, .ref v30, .ref v31, .ref v32, .ref v33, .ref v34, .ref v35, .ref v36, .ref v37, .int 0]))]) [0] (by decide) rfl
  have hFc := va_free (wc := [(w0, .inr (11, [.ref v0, .ref v1, .ref v2, .ref v3, .ref v4, .long 0, .long 0, .int 0, .int th, .ref v9, .int 0, .int 0, .int (-1), .ref v13, .int 0, .int 0, .int 0, .int 0, .int 0, .int 0, .int 0, .int 0, .int 0, .int 0, .int 0, .long 0, .int 0, .ref v27, .ref v28, .ref v29, .ref v30, .ref v31, .ref v32, .ref v33, .ref v34, .ref v35, .ref v36, .ref v37, .int 0]))]) hD hS hA [0] rfl
  refine va_calli (va_runV (As := [.int 0, .int 0]) (rest := []) ⟨hx, hb, hml, hown, hts⟩ (c_m_good2_0 l D cA sa w0 v0 v1 v2 v3 v4 v9 v13 v27 v28 v29 v30 v31 v32 v33 v34 v35 v36 v37 th 0 H.size) (cwV 2 hts gX10_pay_X10_good_ rfl rfl rfl (by decide +kernel) ⟨(Nat.le_of_ble_eq_true rfl), (Nat.le_of_ble_eq_true rfl)⟩) ⟨Wd.blind, va_recv hK hPc (ci := 11) (q0 := 0) rfl rfl, fun U hU hW => ⟨rfl, Wd.call hPc hDc hK hC hZ hS hFc U hU hW⟩⟩ rfl rfl hl.1 rfl (lv_room (Nat.le_of_ble_eq_true rfl)) dX10_pay_32 ⟨(Nat.le_of_ble_eq_true rfl), (Nat.le_of_ble_eq_true rfl)⟩) hS (fun q _ h => hFc q h) hFc (fun rn3 u t H1 locs ht hvm hw hB hz1 hk1 hS => ?_)
  obtain ⟨hP1, hD1⟩ := hB
  rw [ht] at hP1
  obtain ⟨hP, hD⟩ := va_join (wr := [(v0, .inl (cA 0, 326, .inl fs))]) (w1 := [(w0, .inr (11, [.ref v0, .ref v1, .ref v2, .ref v3, .ref v4, .long 0, .long 0, .int 0, .int 1, .ref v9, .int 0, .int 0, .int (-1), .ref v13, .int 0, .int 0, .int 0, .int 0, .int 0, .int 0, .int 0, .int 0, .int 0, .int 0, .int 0, .long 0, .int 0, .ref v27, .ref v28, .ref v29, .ref v30, .ref v31, .ref v32, .ref v33, .ref v34, .ref v35, .ref v36, .ref v37, .int 0]))]) hP hD [0] [1] rfl rfl (by decide) (by decide) hk1 hFc hP1 hD1
  generalize H1 = H at hP hS ⊢
  have hP : va_P D vwCl [(v0, .inl (cA 0, 326, .inl fs)), (w0, .inr (11, [.ref v0, .ref v1, .ref v2, .ref v3, .ref v4, .long 0, .long 0, .int 0, .int 1, .ref v9, .int 0, .int 0, .int (-1), .ref v13, .int 0, .int 0, .int 0, .int 0, .int 0, .int 0, .int 0, .int 0, .int 0, .int 0, .int 0, .long 0, .int 0, .ref v27, .ref v28, .ref v29, .ref v30, .ref v31, .ref v32, .ref v33, .ref v34, .ref v35, .ref v36, .ref v37, .int 0]))] H := hP
  have hD : va_D A [(v0, .inl (cA 0, 326, .inl fs)), (w0, .inr (11, [.ref v0, .ref v1, .ref v2, .ref v3, .ref v4, .long 0, .long 0, .int 0, .int 1, .ref v9, .int 0, .int 0, .int (-1), .ref v13, .int 0, .int 0, .int 0, .int 0, .int 0, .int 0, .int 0, .int 0, .int 0, .int 0, .int 0, .long 0, .int 0, .ref v27, .ref v28, .ref v29, .ref v30, .ref v31, .ref v32, .ref v33, .ref v34, .ref v35, .ref v36, .ref v37, .int 0]))] := hD
  obtain rfl : rn3 = 0 := hw
  refine lv_if_ne (tgt := 40) hx hb dX10_pay_35 (by decide) (fun c9 => absurd c9 (by decide)) (fun c4 => ?_)
  refine lv_iconst (v := 0) hx hb dX10_pay_38 (by decide) ?_
  have hP9 := hP.sub (ws' := [(w0, .inr (11, [.ref v0, .ref v1, .ref v2, .ref v3, .ref v4, .long 0, .long 0, .int 0, .int 1, .ref v9, .int 0, .int 0, .int (-1), .ref v13, .int 0, .int 0, .int 0, .int 0, .int 0, .int 0, .int 0, .int 0, .int 0, .int 0, .int 0, .long 0, .int 0, .ref v27, .ref v28, .ref v29, .ref v30, .ref v31, .ref v32, .ref v33, .ref v34, .ref v35, .ref v36, .ref v37, .int 0]))]) [1] rfl
  have hD9 := hD.sub (ws' := [(w0, .inr (11, [.ref v0, .ref v1, .ref v2, .ref v3, .ref v4, .long 0, .long 0, .int 0, .int 1, .ref v9, .int 0, .int 0, .int (-1), .ref v13, .int 0, .int 0, .int 0, .int 0, .int 0, .int 0, .int 0, .int 0, .int 0, .int 0, .int 0, .long 0, .int 0, .ref v27, .ref v28, .ref v29, .ref v30, .ref v31, .ref v32, .ref v33, .ref v34, .ref v35, .ref v36, .ref v37, .int 0]))]) [1] (by decide) rfl
  refine W.widen (k := 0) (n := 0) (Nat.le_of_ble_eq_true rfl) (Nat.le_of_ble_eq_true rfl) ?_
  exact W.iret (v := 0) hx hb hr (fun t ht hW => ⟨⟨0, (), rfl, rfl, by rw [ht]; exact hP9, hD9⟩, hS.F ht⟩) hS.2.2 dX10_pay_39

set_option maxHeartbeats 4000000 in
set_option maxRecDepth 100000 in
/-- resolve: thrown 1 -/
theorem c_m_resolve (l : Launch) (D : va_G) (cA : Nat → ClassId) (sa : Nat → Nat) (w0 v0 v1 v2 v3 v4 v9 v13 v27 v28 v29 v30 v31 v32 v33 v34 v35 v36 v37 : Nat) (th : Int32) (fs : Nat → Int32) (i j : Int32) (sz : Nat) (hz : Zs fs) : Met l yX10_resolve wsX10_resolve ({ frames := 3, cells := 0, slots := 0, locals := 68 }) (va_Pc [.ref w0, .int i, .int j] (Wd D cA sa [(w0, .inr (11, [.ref v0, .ref v1, .ref v2, .ref v3, .ref v4, .long 0, .long 0, .int 0, .int th, .ref v9, .int 0, .int 0, .int (-1), .ref v13, .int 0, .int 0, .int 0, .int 0, .int 0, .int 0, .int 0, .int 0, .int 0, .int 0, .int 0, .long 0, .int 0, .ref v27, .ref v28, .ref v29, .ref v30, .ref v31, .ref v32, .ref v33, .ref v34, .ref v35, .ref v36, .ref v37, .int 0])), (v0, .inl (cA 0, 326, .inl fs))] sz)) (va_Qi (fun (r : Int32) (_ : Unit) => r = 0) (fun (_ : Unit) t => Wq D (va_A [(w0, .inr (11, [.ref v0, .ref v1, .ref v2, .ref v3, .ref v4, .long 0, .long 0, .int 0, .int th, .ref v9, .int 0, .int 0, .int (-1), .ref v13, .int 0, .int 0, .int 0, .int 0, .int 0, .int 0, .int 0, .int 0, .int 0, .int 0, .int 0, .long 0, .int 0, .ref v27, .ref v28, .ref v29, .ref v30, .ref v31, .ref v32, .ref v33, .ref v34, .ref v35, .ref v36, .ref v37, .int 0])), (v0, .inl (cA 0, 326, .inl fs))] sz) [(w0, .inr (11, [.ref v0, .ref v1, .ref v2, .ref v3, .ref v4, .long 0, .long 0, .int 0, .int 1, .ref v9, .int 0, .int 0, .int (-1), .ref v13, .int 0, .int 0, .int 0, .int 0, .int 0, .int 0, .int 0, .int 0, .int 0, .int 0, .int 0, .long 0, .int 0, .ref v27, .ref v28, .ref v29, .ref v30, .ref v31, .ref v32, .ref v33, .ref v34, .ref v35, .ref v36, .ref v37, .int 0]))] t) (va_A [(w0, .inr (11, [.ref v0, .ref v1, .ref v2, .ref v3, .ref v4, .long 0, .long 0, .int 0, .int th, .ref v9, .int 0, .int 0, .int (-1), .ref v13, .int 0, .int 0, .int 0, .int 0, .int 0, .int 0, .int 0, .int 0, .int 0, .int 0, .int 0, .long 0, .int 0, .ref v27, .ref v28, .ref v29, .ref v30, .ref v31, .ref v32, .ref v33, .ref v34, .ref v35, .ref v36, .ref v37, .int 0])), (v0, .inl (cA 0, 326, .inl fs))] sz)) 0 0 (va_A [(w0, .inr (11, [.ref v0, .ref v1, .ref v2, .ref v3, .ref v4, .long 0, .long 0, .int 0, .int th, .ref v9, .int 0, .int 0, .int (-1), .ref v13, .int 0, .int 0, .int 0, .int 0, .int 0, .int 0, .int 0, .int 0, .int 0, .int 0, .int 0, .long 0, .int 0, .ref v27, .ref v28, .ref v29, .ref v30, .ref v31, .ref v32, .ref v33, .ref v34, .ref v35, .ref v36, .ref v37, .int 0])), (v0, .inl (cA 0, 326, .inl fs))] sz) := by
  refine Met.ofW (cc := cX10_resolve) (maxL := 5) (ret := (some .int)) (by decide) rfl ?_
  intro p e s m args below meth c s₁ B hml hv
  obtain ⟨rfl, hsz, hP, hK, hD0, hC, hZ⟩ := hv
  have hx := B.exec
  have hb := B.bytes
  have hr := B.returns
  have hts := atoms_spec (ws := wsX10_resolve) B.pre
  have hown : s.vm.findClass RX10 = some m.cls := findClass_of_methodNamed B.named
  have hlocks := B.notSynchronized
  subst hsz
  have hD := hD0.self (sz := s.heap.size)
  generalize hAe : va_A [(w0, .inr (11, [.ref v0, .ref v1, .ref v2, .ref v3, .ref v4, .long 0, .long 0, .int 0, .int th, .ref v9, .int 0, .int 0, .int (-1), .ref v13, .int 0, .int 0, .int 0, .int 0, .int 0, .int 0, .int 0, .int 0, .int 0, .int 0, .int 0, .long 0, .int 0, .ref v27, .ref v28, .ref v29, .ref v30, .ref v31, .ref v32, .ref v33, .ref v34, .ref v35, .ref v36, .ref v37, .int 0])), (v0, .inl (cA 0, 326, .inl fs))] s.heap.size = A at hD hZ ⊢
  have hA : ∀ q : Nat, s.heap.size ≤ q → A q := fun q h => by rw [← hAe]; exact Or.inr h
  have hS : va_S A s.heap s.heap [] := va_S.rf
  have hP : va_P D vwCl [(w0, .inr (11, [.ref v0, .ref v1, .ref v2, .ref v3, .ref v4, .long 0, .long 0, .int 0, .int th, .ref v9, .int 0, .int 0, .int (-1), .ref v13, .int 0, .int 0, .int 0, .int 0, .int 0, .int 0, .int 0, .int 0, .int 0, .int 0, .int 0, .long 0, .int 0, .ref v27, .ref v28, .ref v29, .ref v30, .ref v31, .ref v32, .ref v33, .ref v34, .ref v35, .ref v36, .ref v37, .int 0])), (v0, .inl (cA 0, 326, .inl fs))] s.heap := hP
  have hl := lv_entry ([.ref w0, .int i, .int j]) (n := 5) (Nat.le_of_ble_eq_true rfl)
  rw [lg_entry_eq]
  generalize (lg_sl ([.ref w0, .int i, .int j]) ++ List.replicate (5 - (lg_sl ([.ref w0, .int i, .int j])).length) Slot.unset).toArray = ls at hl ⊢
  have hl : lv_has ls 5 [(0, .ref w0), (1, .int i), (2, .int j)] := hl
  refine lv_aload_n hx hb dX10_resolve_0 rfl (lv_at hl 0 rfl) ?_
  refine lv_iload_n hx hb dX10_resolve_1 rfl (lv_at hl 1 rfl) ?_
  refine lv_iload_n hx hb dX10_resolve_2 rfl (lv_at hl 2 rfl) ?_
  have hPc := hP.sub (ws' := []) [] rfl
  have hDc := hD.sub (ws' := []) [] (by decide) rfl
  have hFc := va_free (wc := []) hD hS hA [] rfl
  refine va_calli (va_runS (As := [.int j]) (rest := [.int i, .ref w0]) ⟨hx, hb, hml, hown, hts⟩ (c_m_isShare_a l D cA sa j s.heap.size) (va_cwS 1 hts gX10_resolve_X10_isShare rfl rfl rfl (by decide +kernel) ⟨(Nat.le_of_ble_eq_true rfl), (Nat.le_of_ble_eq_true rfl)⟩) ⟨Wd.blind, fun U hU hW => ⟨rfl, Wd.call hPc hDc hK hC hZ hS hFc U hU hW⟩⟩ rfl rfl hl.1 rfl (lv_room (Nat.le_of_ble_eq_true rfl)) dX10_resolve_3 ⟨(Nat.le_of_ble_eq_true rfl), (Nat.le_of_ble_eq_true rfl)⟩) hS (fun q _ h => hFc q h) hFc (fun rn1 u t H1 locs ht hvm hw hB hz1 hk1 hS => ?_)
  obtain ⟨hP1, hD1⟩ := hB
  rw [ht] at hP1
  obtain ⟨hP, hD⟩ := va_join (wr := [(w0, .inr (11, [.ref v0, .ref v1, .ref v2, .ref v3, .ref v4, .long 0, .long 0, .int 0, .int th, .ref v9, .int 0, .int 0, .int (-1), .ref v13, .int 0, .int 0, .int 0, .int 0, .int 0, .int 0, .int 0, .int 0, .int 0, .int 0, .int 0, .long 0, .int 0, .ref v27, .ref v28, .ref v29, .ref v30, .ref v31, .ref v32, .ref v33, .ref v34, .ref v35, .ref v36, .ref v37, .int 0])), (v0, .inl (cA 0, 326, .inl fs))]) (w1 := []) hP hD [] [0, 1] rfl rfl (by decide) (by decide) hk1 hFc hP1 hD1
  generalize H1 = H at hP hS ⊢
  have hP : va_P D vwCl [(w0, .inr (11, [.ref v0, .ref v1, .ref v2, .ref v3, .ref v4, .long 0, .long 0, .int 0, .int th, .ref v9, .int 0, .int 0, .int (-1), .ref v13, .int 0, .int 0, .int 0, .int 0, .int 0, .int 0, .int 0, .int 0, .int 0, .int 0, .int 0, .long 0, .int 0, .ref v27, .ref v28, .ref v29, .ref v30, .ref v31, .ref v32, .ref v33, .ref v34, .ref v35, .ref v36, .ref v37, .int 0])), (v0, .inl (cA 0, 326, .inl fs))] H := hP
  have hD : va_D A [(w0, .inr (11, [.ref v0, .ref v1, .ref v2, .ref v3, .ref v4, .long 0, .long 0, .int 0, .int th, .ref v9, .int 0, .int 0, .int (-1), .ref v13, .int 0, .int 0, .int 0, .int 0, .int 0, .int 0, .int 0, .int 0, .int 0, .int 0, .int 0, .long 0, .int 0, .ref v27, .ref v28, .ref v29, .ref v30, .ref v31, .ref v32, .ref v33, .ref v34, .ref v35, .ref v36, .ref v37, .int 0])), (v0, .inl (cA 0, 326, .inl fs))] := hD
  have hPc := hP.sub (ws' := [(w0, .inr (11, [.ref v0, .ref v1, .ref v2, .ref v3, .ref v4, .long 0, .long 0, .int 0, .int th, .ref v9, .int 0, .int 0, .int (-1), .ref v13, .int 0, .int 0, .int 0, .int 0, .int 0, .int 0, .int 0, .int 0, .int 0, .int 0, .int 0, .long 0, .int 0, .ref v27, .ref v28, .ref v29, .ref v30, .ref v31, .ref v32, .ref v33, .ref v34, .ref v35, .ref v36, .ref v37, .int 0])), (v0, .inl (cA 0, 326, .inl fs))]) [0, 1] rfl
  have hDc := hD.sub (ws' := [(w0, .inr (11, [.ref v0, .ref v1, .ref v2, .ref v3, .ref v4, .long 0, .long 0, .int 0, .int th, .ref v9, .int 0, .int 0, .int (-1), .ref v13, .int 0, .int 0, .int 0, .int 0, .int 0, .int 0, .int 0, .int 0, .int 0, .int 0, .int 0, .long 0, .int 0, .ref v27, .ref v28, .ref v29, .ref v30, .ref v31, .ref v32, .ref v33, .ref v34, .ref v35, .ref v36, .ref v37, .int 0])), (v0, .inl (cA 0, 326, .inl fs))]) [0, 1] (by decide) rfl
  have hFc := va_free (wc := [(w0, .inr (11, [.ref v0, .ref v1, .ref v2, .ref v3, .ref v4, .long 0, .long 0, .int 0, .int th, .ref v9, .int 0, .int 0, .int (-1), .ref v13, .int 0, .int 0, .int 0, .int 0, .int 0, .int 0, .int 0, .int 0, .int 0, .int 0, .int 0, .long 0, .int 0, .ref v27, .ref v28, .ref v29, .ref v30, .ref v31, .ref v32, .ref v33, .ref v34, .ref v35, .ref v36, .ref v37, .int 0])), (v0, .inl (cA 0, 326, .inl fs))]) hD hS hA [0, 1] rfl
  refine va_calli (va_runV (As := [.int i, .int rn1]) (rest := []) ⟨hx, hb, hml, hown, hts⟩ (c_m_canSplit l D cA sa w0 v0 v1 v2 v3 v4 v9 v13 v27 v28 v29 v30 v31 v32 v33 v34 v35 v36 v37 th fs i rn1 H.size hz) (cwV 2 hts gX10_resolve_X10_canSplit rfl rfl rfl (by decide +kernel) ⟨(Nat.le_of_ble_eq_true rfl), (Nat.le_of_ble_eq_true rfl)⟩) ⟨Wd.blind, va_recv hK hPc (ci := 11) (q0 := 0) rfl rfl, fun U hU hW => ⟨rfl, Wd.call hPc hDc hK hC hZ hS hFc U hU hW⟩⟩ rfl rfl hl.1 rfl (lv_room (Nat.le_of_ble_eq_true rfl)) dX10_resolve_6 ⟨(Nat.le_of_ble_eq_true rfl), (Nat.le_of_ble_eq_true rfl)⟩) hS (fun q _ h => hFc q h) hFc (fun rn2 u t H1 locs ht hvm hw hB hz1 hk1 hS => ?_)
  obtain ⟨hP1, hD1⟩ := hB
  rw [ht] at hP1
  obtain ⟨hP, hD⟩ := va_join (wr := []) (w1 := [(w0, .inr (11, [.ref v0, .ref v1, .ref v2, .ref v3, .ref v4, .long 0, .long 0, .int 0, .int 1, .ref v9, .int 0, .int 0, .int (-1), .ref v13, .int 0, .int 0, .int 0, .int 0, .int 0, .int 0, .int 0, .int 0, .int 0, .int 0, .int 0, .long 0, .int 0, .ref v27, .ref v28, .ref v29, .ref v30, .ref v31, .ref v32, .ref v33, .ref v34, .ref v35, .ref v36, .ref v37, .int 0]))]) hP hD [0, 1] [] rfl rfl (by decide) (by decide) hk1 hFc hP1 hD1
  generalize H1 = H at hP hS ⊢
  have hP : va_P D vwCl [(w0, .inr (11, [.ref v0, .ref v1, .ref v2, .ref v3, .ref v4, .long 0, .long 0, .int 0, .int 1, .ref v9, .int 0, .int 0, .int (-1), .ref v13, .int 0, .int 0, .int 0, .int 0, .int 0, .int 0, .int 0, .int 0, .int 0, .int 0, .int 0, .long 0, .int 0, .ref v27, .ref v28, .ref v29, .ref v30, .ref v31, .ref v32, .ref v33, .ref v34, .ref v35, .ref v36, .ref v37, .int 0]))] H := hP
  have hD : va_D A [(w0, .inr (11, [.ref v0, .ref v1, .ref v2, .ref v3, .ref v4, .long 0, .long 0, .int 0, .int 1, .ref v9, .int 0, .int 0, .int (-1), .ref v13, .int 0, .int 0, .int 0, .int 0, .int 0, .int 0, .int 0, .int 0, .int 0, .int 0, .int 0, .long 0, .int 0, .ref v27, .ref v28, .ref v29, .ref v30, .ref v31, .ref v32, .ref v33, .ref v34, .ref v35, .ref v36, .ref v37, .int 0]))] := hD
  obtain rfl : rn2 = 0 := hw
  refine lv_if_ne (tgt := 14) hx hb dX10_resolve_9 (by decide) (fun c9 => absurd c9 (by decide)) (fun c3 => ?_)
  refine lv_iconst (v := 0) hx hb dX10_resolve_12 (by decide) ?_
  have hP9 := hP.sub (ws' := [(w0, .inr (11, [.ref v0, .ref v1, .ref v2, .ref v3, .ref v4, .long 0, .long 0, .int 0, .int 1, .ref v9, .int 0, .int 0, .int (-1), .ref v13, .int 0, .int 0, .int 0, .int 0, .int 0, .int 0, .int 0, .int 0, .int 0, .int 0, .int 0, .long 0, .int 0, .ref v27, .ref v28, .ref v29, .ref v30, .ref v31, .ref v32, .ref v33, .ref v34, .ref v35, .ref v36, .ref v37, .int 0]))]) [0] rfl
  have hD9 := hD.sub (ws' := [(w0, .inr (11, [.ref v0, .ref v1, .ref v2, .ref v3, .ref v4, .long 0, .long 0, .int 0, .int 1, .ref v9, .int 0, .int 0, .int (-1), .ref v13, .int 0, .int 0, .int 0, .int 0, .int 0, .int 0, .int 0, .int 0, .int 0, .int 0, .int 0, .long 0, .int 0, .ref v27, .ref v28, .ref v29, .ref v30, .ref v31, .ref v32, .ref v33, .ref v34, .ref v35, .ref v36, .ref v37, .int 0]))]) [0] (by decide) rfl
  refine W.widen (k := 0) (n := 0) (Nat.le_of_ble_eq_true rfl) (Nat.le_of_ble_eq_true rfl) ?_
  exact W.iret (v := 0) hx hb hr (fun t ht hW => ⟨⟨0, (), rfl, rfl, by rw [ht]; exact hP9, hD9⟩, hS.F ht⟩) hS.2.2 dX10_resolve_13

set_option maxHeartbeats 4000000 in
set_option maxRecDepth 100000 in
/-- proofCharacter: thrown 1 -/
theorem c_m_proofCharacter (l : Launch) (D : va_G) (cA : Nat → ClassId) (sa : Nat → Nat) (w0 v0 v1 v2 v3 v4 v9 v13 v27 v28 v29 v30 v31 v32 v33 v34 v35 v36 v37 : Nat) (th : Int32) (fs : Nat → Int32) (i j : Int32) (sz : Nat) (hz : Zs fs) : Met l yX10_proofCharacter wsX10_proofCharacter ({ frames := 2, cells := 0, slots := 0, locals := 46 }) (va_Pc [.ref w0, .int i, .int j] (Wd D cA sa [(w0, .inr (11, [.ref v0, .ref v1, .ref v2, .ref v3, .ref v4, .long 0, .long 0, .int 0, .int th, .ref v9, .int 0, .int 0, .int (-1), .ref v13, .int 0, .int 0, .int 0, .int 0, .int 0, .int 0, .int 0, .int 0, .int 0, .int 0, .int 0, .long 0, .int 0, .ref v27, .ref v28, .ref v29, .ref v30, .ref v31, .ref v32, .ref v33, .ref v34, .ref v35, .ref v36, .ref v37, .int 0])), (v0, .inl (cA 0, 326, .inl fs))] sz)) (va_Qi (fun (r : Int32) (_ : Unit) => r = 0) (fun (_ : Unit) t => Wq D (va_A [(w0, .inr (11, [.ref v0, .ref v1, .ref v2, .ref v3, .ref v4, .long 0, .long 0, .int 0, .int th, .ref v9, .int 0, .int 0, .int (-1), .ref v13, .int 0, .int 0, .int 0, .int 0, .int 0, .int 0, .int 0, .int 0, .int 0, .int 0, .int 0, .long 0, .int 0, .ref v27, .ref v28, .ref v29, .ref v30, .ref v31, .ref v32, .ref v33, .ref v34, .ref v35, .ref v36, .ref v37, .int 0])), (v0, .inl (cA 0, 326, .inl fs))] sz) [(w0, .inr (11, [.ref v0, .ref v1, .ref v2, .ref v3, .ref v4, .long 0, .long 0, .int 0, .int 1, .ref v9, .int 0, .int 0, .int (-1), .ref v13, .int 0, .int 0, .int 0, .int 0, .int 0, .int 0, .int 0, .int 0, .int 0, .int 0, .int 0, .long 0, .int 0, .ref v27, .ref v28, .ref v29, .ref v30, .ref v31, .ref v32, .ref v33, .ref v34, .ref v35, .ref v36, .ref v37, .int 0]))] t) (va_A [(w0, .inr (11, [.ref v0, .ref v1, .ref v2, .ref v3, .ref v4, .long 0, .long 0, .int 0, .int th, .ref v9, .int 0, .int 0, .int (-1), .ref v13, .int 0, .int 0, .int 0, .int 0, .int 0, .int 0, .int 0, .int 0, .int 0, .int 0, .int 0, .long 0, .int 0, .ref v27, .ref v28, .ref v29, .ref v30, .ref v31, .ref v32, .ref v33, .ref v34, .ref v35, .ref v36, .ref v37, .int 0])), (v0, .inl (cA 0, 326, .inl fs))] sz)) 0 0 (va_A [(w0, .inr (11, [.ref v0, .ref v1, .ref v2, .ref v3, .ref v4, .long 0, .long 0, .int 0, .int th, .ref v9, .int 0, .int 0, .int (-1), .ref v13, .int 0, .int 0, .int 0, .int 0, .int 0, .int 0, .int 0, .int 0, .int 0, .int 0, .int 0, .long 0, .int 0, .ref v27, .ref v28, .ref v29, .ref v30, .ref v31, .ref v32, .ref v33, .ref v34, .ref v35, .ref v36, .ref v37, .int 0])), (v0, .inl (cA 0, 326, .inl fs))] sz) := by
  refine Met.ofW (cc := cX10_proofCharacter) (maxL := 3) (ret := (some .char)) (by decide) rfl ?_
  intro p e s m args below meth c s₁ B hml hv
  obtain ⟨rfl, hsz, hP, hK, hD0, hC, hZ⟩ := hv
  have hx := B.exec
  have hb := B.bytes
  have hr := B.returns
  have hts := atoms_spec (ws := wsX10_proofCharacter) B.pre
  have hown : s.vm.findClass RX10 = some m.cls := findClass_of_methodNamed B.named
  have hlocks := B.notSynchronized
  subst hsz
  have hD := hD0.self (sz := s.heap.size)
  generalize hAe : va_A [(w0, .inr (11, [.ref v0, .ref v1, .ref v2, .ref v3, .ref v4, .long 0, .long 0, .int 0, .int th, .ref v9, .int 0, .int 0, .int (-1), .ref v13, .int 0, .int 0, .int 0, .int 0, .int 0, .int 0, .int 0, .int 0, .int 0, .int 0, .int 0, .long 0, .int 0, .ref v27, .ref v28, .ref v29, .ref v30, .ref v31, .ref v32, .ref v33, .ref v34, .ref v35, .ref v36, .ref v37, .int 0])), (v0, .inl (cA 0, 326, .inl fs))] s.heap.size = A at hD hZ ⊢
  have hA : ∀ q : Nat, s.heap.size ≤ q → A q := fun q h => by rw [← hAe]; exact Or.inr h
  have hS : va_S A s.heap s.heap [] := va_S.rf
  have hP : va_P D vwCl [(w0, .inr (11, [.ref v0, .ref v1, .ref v2, .ref v3, .ref v4, .long 0, .long 0, .int 0, .int th, .ref v9, .int 0, .int 0, .int (-1), .ref v13, .int 0, .int 0, .int 0, .int 0, .int 0, .int 0, .int 0, .int 0, .int 0, .int 0, .int 0, .long 0, .int 0, .ref v27, .ref v28, .ref v29, .ref v30, .ref v31, .ref v32, .ref v33, .ref v34, .ref v35, .ref v36, .ref v37, .int 0])), (v0, .inl (cA 0, 326, .inl fs))] s.heap := hP
  have hl := lv_entry ([.ref w0, .int i, .int j]) (n := 3) (Nat.le_of_ble_eq_true rfl)
  rw [lg_entry_eq]
  generalize (lg_sl ([.ref w0, .int i, .int j]) ++ List.replicate (3 - (lg_sl ([.ref w0, .int i, .int j])).length) Slot.unset).toArray = ls at hl ⊢
  have hl : lv_has ls 3 [(0, .ref w0), (1, .int i), (2, .int j)] := hl
  have inX10 : ∀ w ∈ u_ws RX10 TX10 39, w ∈ wsX10_proofCharacter := by decide +kernel
  refine lv_aload_n hx hb dX10_proofCharacter_0 rfl (lv_at hl 0 rfl) ?_
  refine lv_aload_n hx hb dX10_proofCharacter_1 rfl (lv_at hl 0 rfl) ?_
  refine lv_iload_n hx hb dX10_proofCharacter_2 rfl (lv_at hl 1 rfl) ?_
  have hPc := hP.sub (ws' := [(w0, .inr (11, [.ref v0, .ref v1, .ref v2, .ref v3, .ref v4, .long 0, .long 0, .int 0, .int th, .ref v9, .int 0, .int 0, .int (-1), .ref v13, .int 0, .int 0, .int 0, .int 0, .int 0, .int 0, .int 0, .int 0, .int 0, .int 0, .int 0, .long 0, .int 0, .ref v27, .ref v28, .ref v29, .ref v30, .ref v31, .ref v32, .ref v33, .ref v34, .ref v35, .ref v36, .ref v37, .int 0])), (v0, .inl (cA 0, 326, .inl fs))]) [0, 1] rfl
  have hDc := hD.sub (ws' := [(w0, .inr (11, [.ref v0, .ref v1, .ref v2, .ref v3, .ref v4, .long 0, .long 0, .int 0, .int th, .ref v9, .int 0, .int 0, .int (-1), .ref v13, .int 0, .int 0, .int 0, .int 0, .int 0, .int 0, .int 0, .int 0, .int 0, .int 0, .int 0, .long 0, .int 0, .ref v27, .ref v28, .ref v29, .ref v30, .ref v31, .ref v32, .ref v33, .ref v34, .ref v35, .ref v36, .ref v37, .int 0])), (v0, .inl (cA 0, 326, .inl fs))]) [0, 1] (by decide) rfl
  have hFc := va_free (wc := [(w0, .inr (11, [.ref v0, .ref v1, .ref v2, .ref v3, .ref v4, .long 0, .long 0, .int 0, .int th, .ref v9, .int 0, .int 0, .int (-1), .ref v13, .int 0, .int 0, .int 0, .int 0, .int 0, .int 0, .int 0, .int 0, .int 0, .int 0, .int 0, .long 0, .int 0, .ref v27, .ref v28, .ref v29, .ref v30, .ref v31, .ref v32, .ref v33, .ref v34, .ref v35, .ref v36, .ref v37, .int 0])), (v0, .inl (cA 0, 326, .inl fs))]) hD hS hA [0, 1] rfl
  refine va_calli (va_runV (As := [.int i]) (rest := [.ref w0]) ⟨hx, hb, hml, hown, hts⟩ (c_m_isProof l D cA sa w0 v0 v1 v2 v3 v4 v9 v13 v27 v28 v29 v30 v31 v32 v33 v34 v35 v36 v37 th fs i s.heap.size hz) (cwV 1 hts gX10_proofCharacter_X10_isProof rfl rfl rfl (by decide +kernel) ⟨(Nat.le_of_ble_eq_true rfl), (Nat.le_of_ble_eq_true rfl)⟩) ⟨Wd.blind, va_recv hK hPc (ci := 11) (q0 := 0) rfl rfl, fun U hU hW => ⟨rfl, Wd.call hPc hDc hK hC hZ hS hFc U hU hW⟩⟩ rfl rfl hl.1 rfl (lv_room (Nat.le_of_ble_eq_true rfl)) dX10_proofCharacter_3 ⟨(Nat.le_of_ble_eq_true rfl), (Nat.le_of_ble_eq_true rfl)⟩) hS (fun q _ h => hFc q h) hFc (fun rn1 u t H1 locs ht hvm hw hB hz1 hk1 hS => ?_)
  obtain ⟨hP1, hD1⟩ := hB
  rw [ht] at hP1
  obtain ⟨hP, hD⟩ := va_join (wr := []) (w1 := [(w0, .inr (11, [.ref v0, .ref v1, .ref v2, .ref v3, .ref v4, .long 0, .long 0, .int 0, .int th, .ref v9, .int 0, .int 0, .int (-1), .ref v13, .int 0, .int 0, .int 0, .int 0, .int 0, .int 0, .int 0, .int 0, .int 0, .int 0, .int 0, .long 0, .int 0, .ref v27, .ref v28, .ref v29, .ref v30, .ref v31, .ref v32, .ref v33, .ref v34, .ref v35, .ref v36, .ref v37, .int 0])), (v0, .inl (cA 0, 326, .inl fs))]) hP hD [0, 1] [] rfl rfl (by decide) (by decide) hk1 hFc hP1 hD1
  generalize H1 = H at hP hS ⊢
  have hP : va_P D vwCl [(w0, .inr (11, [.ref v0, .ref v1, .ref v2, .ref v3, .ref v4, .long 0, .long 0, .int 0, .int th, .ref v9, .int 0, .int 0, .int (-1), .ref v13, .int 0, .int 0, .int 0, .int 0, .int 0, .int 0, .int 0, .int 0, .int 0, .int 0, .int 0, .long 0, .int 0, .ref v27, .ref v28, .ref v29, .ref v30, .ref v31, .ref v32, .ref v33, .ref v34, .ref v35, .ref v36, .ref v37, .int 0])), (v0, .inl (cA 0, 326, .inl fs))] H := hP
  have hD : va_D A [(w0, .inr (11, [.ref v0, .ref v1, .ref v2, .ref v3, .ref v4, .long 0, .long 0, .int 0, .int th, .ref v9, .int 0, .int 0, .int (-1), .ref v13, .int 0, .int 0, .int 0, .int 0, .int 0, .int 0, .int 0, .int 0, .int 0, .int 0, .int 0, .long 0, .int 0, .ref v27, .ref v28, .ref v29, .ref v30, .ref v31, .ref v32, .ref v33, .ref v34, .ref v35, .ref v36, .ref v37, .int 0])), (v0, .inl (cA 0, 326, .inl fs))] := hD
  obtain rfl : rn1 = 0 := hw
  refine lv_if_eq (tgt := 34) hx hb dX10_proofCharacter_6 (by decide) (fun c2 => ?_) (fun c9 => absurd c9 (by decide))
  refine lv_iconst (v := 1) hx hb dX10_proofCharacter_34 (by decide) ?_
  refine va_put (D := D) (ci := 11) (v := .int 1) (ty := .int) (C := RX10) (T := TX10) (N := 39) hx hb hts inX10 tyX10 tyX10_ok nmX10 hown hK hP hD hS 0 rfl rfl 8 (by decide) (hts (.fieldLink RX10 80 "EscrowDeskModel" "thrown" "I") (by decide +kernel)) (fun _ h9 => h9) rfl (by decide +kernel) rfl rfl (Nat.le_of_ble_eq_true rfl) dX10_proofCharacter_35 (fun H locs hP hD hS => ?_)
  have hP : va_P D vwCl [(w0, .inr (11, [.ref v0, .ref v1, .ref v2, .ref v3, .ref v4, .long 0, .long 0, .int 0, .int 1, .ref v9, .int 0, .int 0, .int (-1), .ref v13, .int 0, .int 0, .int 0, .int 0, .int 0, .int 0, .int 0, .int 0, .int 0, .int 0, .int 0, .long 0, .int 0, .ref v27, .ref v28, .ref v29, .ref v30, .ref v31, .ref v32, .ref v33, .ref v34, .ref v35, .ref v36, .ref v37, .int 0])), (v0, .inl (cA 0, 326, .inl fs))] H := hP
  have hD : va_D A [(w0, .inr (11, [.ref v0, .ref v1, .ref v2, .ref v3, .ref v4, .long 0, .long 0, .int 0, .int 1, .ref v9, .int 0, .int 0, .int (-1), .ref v13, .int 0, .int 0, .int 0, .int 0, .int 0, .int 0, .int 0, .int 0, .int 0, .int 0, .int 0, .long 0, .int 0, .ref v27, .ref v28, .ref v29, .ref v30, .ref v31, .ref v32, .ref v33, .ref v34, .ref v35, .ref v36, .ref v37, .int 0])), (v0, .inl (cA 0, 326, .inl fs))] := hD
  refine lv_aload_n hx hb dX10_proofCharacter_38 rfl (lv_at hl 0 rfl) ?_
  refine va_get (D := D) (ci := 11) (v := .int 1) (C := RX10) (T := TX10) (N := 39) hx hb hts inX10 hown hK hP 0 rfl rfl 8 (by decide) (hts (.fieldLink RX10 80 "EscrowDeskModel" "thrown" "I") (by decide +kernel)) (fun _ h9 => h9) rfl dX10_proofCharacter_39 ?_
  refine lv_if_ne (tgt := 59) hx hb dX10_proofCharacter_42 (by decide) (fun c3 => ?_) (fun c9 => absurd c9 (by decide))
  refine lv_iconst (v := 0) hx hb dX10_proofCharacter_59 (by decide) ?_
  have hP9 := hP.sub (ws' := [(w0, .inr (11, [.ref v0, .ref v1, .ref v2, .ref v3, .ref v4, .long 0, .long 0, .int 0, .int 1, .ref v9, .int 0, .int 0, .int (-1), .ref v13, .int 0, .int 0, .int 0, .int 0, .int 0, .int 0, .int 0, .int 0, .int 0, .int 0, .int 0, .long 0, .int 0, .ref v27, .ref v28, .ref v29, .ref v30, .ref v31, .ref v32, .ref v33, .ref v34, .ref v35, .ref v36, .ref v37, .int 0]))]) [0] rfl
  have hD9 := hD.sub (ws' := [(w0, .inr (11, [.ref v0, .ref v1, .ref v2, .ref v3, .ref v4, .long 0, .long 0, .int 0, .int 1, .ref v9, .int 0, .int 0, .int (-1), .ref v13, .int 0, .int 0, .int 0, .int 0, .int 0, .int 0, .int 0, .int 0, .int 0, .int 0, .int 0, .long 0, .int 0, .ref v27, .ref v28, .ref v29, .ref v30, .ref v31, .ref v32, .ref v33, .ref v34, .ref v35, .ref v36, .ref v37, .int 0]))]) [0] (by decide) rfl
  refine W.widen (k := 0) (n := 0) (Nat.le_of_ble_eq_true rfl) (Nat.le_of_ble_eq_true rfl) ?_
  exact W.zret (v := 0) hx hb hr (by first | rfl | decide) (fun t ht hW => ⟨⟨0, (), rfl, rfl, by rw [ht]; exact hP9, hD9⟩, hS.F ht⟩) hS.2.2 dX10_proofCharacter_60

set_option maxHeartbeats 4000000 in
set_option maxRecDepth 100000 in
/-- entry: thrown 1 -/
theorem c_m_entry (l : Launch) (D : va_G) (cA : Nat → ClassId) (sa : Nat → Nat) (w0 v0 v1 v2 v3 v4 v9 v13 v27 v28 v29 v30 v31 v32 v33 v34 v35 v36 v37 : Nat) (th : Int32) (fs : Nat → Int32) (i j : Int32) (sz : Nat) (hz : Zs fs) : Met l yX10_entry wsX10_entry ({ frames := 1, cells := 0, slots := 0, locals := 25 }) (va_Pc [.ref w0, .int i, .int j] (Wd D cA sa [(w0, .inr (11, [.ref v0, .ref v1, .ref v2, .ref v3, .ref v4, .long 0, .long 0, .int 0, .int th, .ref v9, .int 0, .int 0, .int (-1), .ref v13, .int 0, .int 0, .int 0, .int 0, .int 0, .int 0, .int 0, .int 0, .int 0, .int 0, .int 0, .long 0, .int 0, .ref v27, .ref v28, .ref v29, .ref v30, .ref v31, .ref v32, .ref v33, .ref v34, .ref v35, .ref v36, .ref v37, .int 0])), (v0, .inl (cA 0, 326, .inl fs))] sz)) (va_Qi (fun (r : Int32) (_ : Unit) => r = 0) (fun (_ : Unit) t => Wq D (va_A [(w0, .inr (11, [.ref v0, .ref v1, .ref v2, .ref v3, .ref v4, .long 0, .long 0, .int 0, .int th, .ref v9, .int 0, .int 0, .int (-1), .ref v13, .int 0, .int 0, .int 0, .int 0, .int 0, .int 0, .int 0, .int 0, .int 0, .int 0, .int 0, .long 0, .int 0, .ref v27, .ref v28, .ref v29, .ref v30, .ref v31, .ref v32, .ref v33, .ref v34, .ref v35, .ref v36, .ref v37, .int 0])), (v0, .inl (cA 0, 326, .inl fs))] sz) [(w0, .inr (11, [.ref v0, .ref v1, .ref v2, .ref v3, .ref v4, .long 0, .long 0, .int 0, .int 1, .ref v9, .int 0, .int 0, .int (-1), .ref v13, .int 0, .int 0, .int 0, .int 0, .int 0, .int 0, .int 0, .int 0, .int 0, .int 0, .int 0, .long 0, .int 0, .ref v27, .ref v28, .ref v29, .ref v30, .ref v31, .ref v32, .ref v33, .ref v34, .ref v35, .ref v36, .ref v37, .int 0]))] t) (va_A [(w0, .inr (11, [.ref v0, .ref v1, .ref v2, .ref v3, .ref v4, .long 0, .long 0, .int 0, .int th, .ref v9, .int 0, .int 0, .int (-1), .ref v13, .int 0, .int 0, .int 0, .int 0, .int 0, .int 0, .int 0, .int 0, .int 0, .int 0, .int 0, .long 0, .int 0, .ref v27, .ref v28, .ref v29, .ref v30, .ref v31, .ref v32, .ref v33, .ref v34, .ref v35, .ref v36, .ref v37, .int 0])), (v0, .inl (cA 0, 326, .inl fs))] sz)) 0 0 (va_A [(w0, .inr (11, [.ref v0, .ref v1, .ref v2, .ref v3, .ref v4, .long 0, .long 0, .int 0, .int th, .ref v9, .int 0, .int 0, .int (-1), .ref v13, .int 0, .int 0, .int 0, .int 0, .int 0, .int 0, .int 0, .int 0, .int 0, .int 0, .int 0, .long 0, .int 0, .ref v27, .ref v28, .ref v29, .ref v30, .ref v31, .ref v32, .ref v33, .ref v34, .ref v35, .ref v36, .ref v37, .int 0])), (v0, .inl (cA 0, 326, .inl fs))] sz) := by
  refine Met.ofW (cc := cX10_entry) (maxL := 3) (ret := (some .int)) (by decide) rfl ?_
  intro p e s m args below meth c s₁ B hml hv
  obtain ⟨rfl, hsz, hP, hK, hD0, hC, hZ⟩ := hv
  have hx := B.exec
  have hb := B.bytes
  have hr := B.returns
  have hts := atoms_spec (ws := wsX10_entry) B.pre
  have hown : s.vm.findClass RX10 = some m.cls := findClass_of_methodNamed B.named
  have hlocks := B.notSynchronized
  subst hsz
  have hD := hD0.self (sz := s.heap.size)
  generalize hAe : va_A [(w0, .inr (11, [.ref v0, .ref v1, .ref v2, .ref v3, .ref v4, .long 0, .long 0, .int 0, .int th, .ref v9, .int 0, .int 0, .int (-1), .ref v13, .int 0, .int 0, .int 0, .int 0, .int 0, .int 0, .int 0, .int 0, .int 0, .int 0, .int 0, .long 0, .int 0, .ref v27, .ref v28, .ref v29, .ref v30, .ref v31, .ref v32, .ref v33, .ref v34, .ref v35, .ref v36, .ref v37, .int 0])), (v0, .inl (cA 0, 326, .inl fs))] s.heap.size = A at hD hZ ⊢
  have hA : ∀ q : Nat, s.heap.size ≤ q → A q := fun q h => by rw [← hAe]; exact Or.inr h
  have hS : va_S A s.heap s.heap [] := va_S.rf
  have hP : va_P D vwCl [(w0, .inr (11, [.ref v0, .ref v1, .ref v2, .ref v3, .ref v4, .long 0, .long 0, .int 0, .int th, .ref v9, .int 0, .int 0, .int (-1), .ref v13, .int 0, .int 0, .int 0, .int 0, .int 0, .int 0, .int 0, .int 0, .int 0, .int 0, .int 0, .long 0, .int 0, .ref v27, .ref v28, .ref v29, .ref v30, .ref v31, .ref v32, .ref v33, .ref v34, .ref v35, .ref v36, .ref v37, .int 0])), (v0, .inl (cA 0, 326, .inl fs))] s.heap := hP
  have hl := lv_entry ([.ref w0, .int i, .int j]) (n := 3) (Nat.le_of_ble_eq_true rfl)
  rw [lg_entry_eq]
  generalize (lg_sl ([.ref w0, .int i, .int j]) ++ List.replicate (3 - (lg_sl ([.ref w0, .int i, .int j])).length) Slot.unset).toArray = ls at hl ⊢
  have hl : lv_has ls 3 [(0, .ref w0), (1, .int i), (2, .int j)] := hl
  have inX10 : ∀ w ∈ u_ws RX10 TX10 39, w ∈ wsX10_entry := by decide +kernel
  refine lv_aload_n hx hb dX10_entry_0 rfl (lv_at hl 0 rfl) ?_
  refine lv_iload_n hx hb dX10_entry_1 rfl (lv_at hl 1 rfl) ?_
  refine lv_i2l (v := (i.toInt64)) hx hb dX10_entry_2 rfl ?_
  refine lv_lconst (v := 0) hx hb dX10_entry_3 (by decide) ?_
  refine lv_aload_n hx hb dX10_entry_4 rfl (lv_at hl 0 rfl) ?_
  refine va_get (D := D) (ci := 11) (v := .ref v0) (C := RX10) (T := TX10) (N := 39) hx hb hts inX10 hown hK hP 0 rfl rfl 0 (by decide) (hts (.fieldLink RX10 7 "EscrowDeskModel" "s" "[I") (by decide +kernel)) (fun _ h9 => h9) rfl dX10_entry_5 ?_
  refine lv_bipush (v := 15) hx hb dX10_entry_8 (by decide) ?_
  refine va_iald hx hb hK hP 1 0 rfl rfl (vp_in_iff.mpr (by decide)) dX10_entry_10 ?_
  refine lv_topi (fun yn1 eyn1 => ?_)
  obtain rfl : yn1 = 0 := eyn1.trans (hz.2 15 (by decide) (by decide))
  refine lv_iconst (v := 1) hx hb dX10_entry_11 (by decide) ?_
  refine lv_isub hx hb dX10_entry_12 ?_
  refine lv_topi (fun yn2 eyn2 => ?_)
  obtain rfl : yn2 = (-1) := eyn2.trans (by first | rfl | decide +kernel)
  refine lv_i2l (v := (-1)) hx hb dX10_entry_13 (by decide) ?_
  have hPc := hP.sub (ws' := []) [] rfl
  have hDc := hD.sub (ws' := []) [] (by decide) rfl
  have hFc := va_free (wc := []) hD hS hA [] rfl
  refine va_calli (va_runS (As := [.long (i.toInt64), .long 0, .long (-1)]) (rest := [.ref w0]) ⟨hx, hb, hml, hown, hts⟩ (c_btw_f l D cA sa (i.toInt64) 0 (-1) s.heap.size (any_out _)) (va_cwS 3 hts gX10_entry_X10_between rfl rfl rfl (by decide +kernel) ⟨(Nat.le_of_ble_eq_true rfl), (Nat.le_of_ble_eq_true rfl)⟩) ⟨Wd.blind, fun U hU hW => ⟨rfl, Wd.call hPc hDc hK hC hZ hS hFc U hU hW⟩⟩ rfl rfl hl.1 rfl (lv_room (Nat.le_of_ble_eq_true rfl)) dX10_entry_14 ⟨(Nat.le_of_ble_eq_true rfl), (Nat.le_of_ble_eq_true rfl)⟩) hS (fun q _ h => hFc q h) hFc (fun rn3 u t H1 locs ht hvm hw hB hz1 hk1 hS => ?_)
  obtain ⟨hP1, hD1⟩ := hB
  rw [ht] at hP1
  obtain ⟨hP, hD⟩ := va_join (wr := [(w0, .inr (11, [.ref v0, .ref v1, .ref v2, .ref v3, .ref v4, .long 0, .long 0, .int 0, .int th, .ref v9, .int 0, .int 0, .int (-1), .ref v13, .int 0, .int 0, .int 0, .int 0, .int 0, .int 0, .int 0, .int 0, .int 0, .int 0, .int 0, .long 0, .int 0, .ref v27, .ref v28, .ref v29, .ref v30, .ref v31, .ref v32, .ref v33, .ref v34, .ref v35, .ref v36, .ref v37, .int 0])), (v0, .inl (cA 0, 326, .inl fs))]) (w1 := []) hP hD [] [0, 1] rfl rfl (by decide) (by decide) hk1 hFc hP1 hD1
  generalize H1 = H at hP hS ⊢
  have hP : va_P D vwCl [(w0, .inr (11, [.ref v0, .ref v1, .ref v2, .ref v3, .ref v4, .long 0, .long 0, .int 0, .int th, .ref v9, .int 0, .int 0, .int (-1), .ref v13, .int 0, .int 0, .int 0, .int 0, .int 0, .int 0, .int 0, .int 0, .int 0, .int 0, .int 0, .long 0, .int 0, .ref v27, .ref v28, .ref v29, .ref v30, .ref v31, .ref v32, .ref v33, .ref v34, .ref v35, .ref v36, .ref v37, .int 0])), (v0, .inl (cA 0, 326, .inl fs))] H := hP
  have hD : va_D A [(w0, .inr (11, [.ref v0, .ref v1, .ref v2, .ref v3, .ref v4, .long 0, .long 0, .int 0, .int th, .ref v9, .int 0, .int 0, .int (-1), .ref v13, .int 0, .int 0, .int 0, .int 0, .int 0, .int 0, .int 0, .int 0, .int 0, .int 0, .int 0, .long 0, .int 0, .ref v27, .ref v28, .ref v29, .ref v30, .ref v31, .ref v32, .ref v33, .ref v34, .ref v35, .ref v36, .ref v37, .int 0])), (v0, .inl (cA 0, 326, .inl fs))] := hD
  obtain rfl : rn3 = 0 := hw
  refine lv_iload_n hx hb dX10_entry_17 rfl (lv_at hl 2 rfl) ?_
  refine lv_i2l (v := (j.toInt64)) hx hb dX10_entry_18 rfl ?_
  refine lv_lconst (v := 0) hx hb dX10_entry_19 (by decide) ?_
  refine lv_ldc2 (v := 3) hx hb hown (hts (.constantLong RX10 446 3) (by decide +kernel)) dX10_entry_20 ?_
  have hPc := hP.sub (ws' := []) [] rfl
  have hDc := hD.sub (ws' := []) [] (by decide) rfl
  have hFc := va_free (wc := []) hD hS hA [] rfl
  refine va_calli (va_runS (As := [.long (j.toInt64), .long 0, .long 3]) (rest := [.int 0, .ref w0]) ⟨hx, hb, hml, hown, hts⟩ (c_btw_a l D cA sa (j.toInt64) 0 3 H.size) (va_cwS 3 hts gX10_entry_X10_between rfl rfl rfl (by decide +kernel) ⟨(Nat.le_of_ble_eq_true rfl), (Nat.le_of_ble_eq_true rfl)⟩) ⟨Wd.blind, fun U hU hW => ⟨rfl, Wd.call hPc hDc hK hC hZ hS hFc U hU hW⟩⟩ rfl rfl hl.1 rfl (lv_room (Nat.le_of_ble_eq_true rfl)) dX10_entry_23 ⟨(Nat.le_of_ble_eq_true rfl), (Nat.le_of_ble_eq_true rfl)⟩) hS (fun q _ h => hFc q h) hFc (fun rn4 u t H1 locs ht hvm hw hB hz1 hk1 hS => ?_)
  obtain ⟨hP1, hD1⟩ := hB
  rw [ht] at hP1
  obtain ⟨hP, hD⟩ := va_join (wr := [(w0, .inr (11, [.ref v0, .ref v1, .ref v2, .ref v3, .ref v4, .long 0, .long 0, .int 0, .int th, .ref v9, .int 0, .int 0, .int (-1), .ref v13, .int 0, .int 0, .int 0, .int 0, .int 0, .int 0, .int 0, .int 0, .int 0, .int 0, .int 0, .long 0, .int 0, .ref v27, .ref v28, .ref v29, .ref v30, .ref v31, .ref v32, .ref v33, .ref v34, .ref v35, .ref v36, .ref v37, .int 0])), (v0, .inl (cA 0, 326, .inl fs))]) (w1 := []) hP hD [] [0, 1] rfl rfl (by decide) (by decide) hk1 hFc hP1 hD1
  generalize H1 = H at hP hS ⊢
  have hP : va_P D vwCl [(w0, .inr (11, [.ref v0, .ref v1, .ref v2, .ref v3, .ref v4, .long 0, .long 0, .int 0, .int th, .ref v9, .int 0, .int 0, .int (-1), .ref v13, .int 0, .int 0, .int 0, .int 0, .int 0, .int 0, .int 0, .int 0, .int 0, .int 0, .int 0, .long 0, .int 0, .ref v27, .ref v28, .ref v29, .ref v30, .ref v31, .ref v32, .ref v33, .ref v34, .ref v35, .ref v36, .ref v37, .int 0])), (v0, .inl (cA 0, 326, .inl fs))] H := hP
  have hD : va_D A [(w0, .inr (11, [.ref v0, .ref v1, .ref v2, .ref v3, .ref v4, .long 0, .long 0, .int 0, .int th, .ref v9, .int 0, .int 0, .int (-1), .ref v13, .int 0, .int 0, .int 0, .int 0, .int 0, .int 0, .int 0, .int 0, .int 0, .int 0, .int 0, .long 0, .int 0, .ref v27, .ref v28, .ref v29, .ref v30, .ref v31, .ref v32, .ref v33, .ref v34, .ref v35, .ref v36, .ref v37, .int 0])), (v0, .inl (cA 0, 326, .inl fs))] := hD
  have hPc := hP.sub (ws' := [(w0, .inr (11, [.ref v0, .ref v1, .ref v2, .ref v3, .ref v4, .long 0, .long 0, .int 0, .int th, .ref v9, .int 0, .int 0, .int (-1), .ref v13, .int 0, .int 0, .int 0, .int 0, .int 0, .int 0, .int 0, .int 0, .int 0, .int 0, .int 0, .long 0, .int 0, .ref v27, .ref v28, .ref v29, .ref v30, .ref v31, .ref v32, .ref v33, .ref v34, .ref v35, .ref v36, .ref v37, .int 0]))]) [0] rfl
  have hDc := hD.sub (ws' := [(w0, .inr (11, [.ref v0, .ref v1, .ref v2, .ref v3, .ref v4, .long 0, .long 0, .int 0, .int th, .ref v9, .int 0, .int 0, .int (-1), .ref v13, .int 0, .int 0, .int 0, .int 0, .int 0, .int 0, .int 0, .int 0, .int 0, .int 0, .int 0, .long 0, .int 0, .ref v27, .ref v28, .ref v29, .ref v30, .ref v31, .ref v32, .ref v33, .ref v34, .ref v35, .ref v36, .ref v37, .int 0]))]) [0] (by decide) rfl
  have hFc := va_free (wc := [(w0, .inr (11, [.ref v0, .ref v1, .ref v2, .ref v3, .ref v4, .long 0, .long 0, .int 0, .int th, .ref v9, .int 0, .int 0, .int (-1), .ref v13, .int 0, .int 0, .int 0, .int 0, .int 0, .int 0, .int 0, .int 0, .int 0, .int 0, .int 0, .long 0, .int 0, .ref v27, .ref v28, .ref v29, .ref v30, .ref v31, .ref v32, .ref v33, .ref v34, .ref v35, .ref v36, .ref v37, .int 0]))]) hD hS hA [0] rfl
  refine va_calli (va_runV (As := [.int 0, .int rn4]) (rest := []) ⟨hx, hb, hml, hown, hts⟩ (c_m_good2_0 l D cA sa w0 v0 v1 v2 v3 v4 v9 v13 v27 v28 v29 v30 v31 v32 v33 v34 v35 v36 v37 th rn4 H.size) (cwV 2 hts gX10_entry_X10_good_ rfl rfl rfl (by decide +kernel) ⟨(Nat.le_of_ble_eq_true rfl), (Nat.le_of_ble_eq_true rfl)⟩) ⟨Wd.blind, va_recv hK hPc (ci := 11) (q0 := 0) rfl rfl, fun U hU hW => ⟨rfl, Wd.call hPc hDc hK hC hZ hS hFc U hU hW⟩⟩ rfl rfl hl.1 rfl (lv_room (Nat.le_of_ble_eq_true rfl)) dX10_entry_26 ⟨(Nat.le_of_ble_eq_true rfl), (Nat.le_of_ble_eq_true rfl)⟩) hS (fun q _ h => hFc q h) hFc (fun rn5 u t H1 locs ht hvm hw hB hz1 hk1 hS => ?_)
  obtain ⟨hP1, hD1⟩ := hB
  rw [ht] at hP1
  obtain ⟨hP, hD⟩ := va_join (wr := [(v0, .inl (cA 0, 326, .inl fs))]) (w1 := [(w0, .inr (11, [.ref v0, .ref v1, .ref v2, .ref v3, .ref v4, .long 0, .long 0, .int 0, .int 1, .ref v9, .int 0, .int 0, .int (-1), .ref v13, .int 0, .int 0, .int 0, .int 0, .int 0, .int 0, .int 0, .int 0, .int 0, .int 0, .int 0, .long 0, .int 0, .ref v27, .ref v28, .ref v29, .ref v30, .ref v31, .ref v32, .ref v33, .ref v34, .ref v35, .ref v36, .ref v37, .int 0]))]) hP hD [0] [1] rfl rfl (by decide) (by decide) hk1 hFc hP1 hD1
  generalize H1 = H at hP hS ⊢
  have hP : va_P D vwCl [(v0, .inl (cA 0, 326, .inl fs)), (w0, .inr (11, [.ref v0, .ref v1, .ref v2, .ref v3, .ref v4, .long 0, .long 0, .int 0, .int 1, .ref v9, .int 0, .int 0, .int (-1), .ref v13, .int 0, .int 0, .int 0, .int 0, .int 0, .int 0, .int 0, .int 0, .int 0, .int 0, .int 0, .long 0, .int 0, .ref v27, .ref v28, .ref v29, .ref v30, .ref v31, .ref v32, .ref v33, .ref v34, .ref v35, .ref v36, .ref v37, .int 0]))] H := hP
  have hD : va_D A [(v0, .inl (cA 0, 326, .inl fs)), (w0, .inr (11, [.ref v0, .ref v1, .ref v2, .ref v3, .ref v4, .long 0, .long 0, .int 0, .int 1, .ref v9, .int 0, .int 0, .int (-1), .ref v13, .int 0, .int 0, .int 0, .int 0, .int 0, .int 0, .int 0, .int 0, .int 0, .int 0, .int 0, .long 0, .int 0, .ref v27, .ref v28, .ref v29, .ref v30, .ref v31, .ref v32, .ref v33, .ref v34, .ref v35, .ref v36, .ref v37, .int 0]))] := hD
  obtain rfl : rn5 = 0 := hw
  refine lv_if_eq (tgt := 41) hx hb dX10_entry_29 (by decide) (fun c6 => ?_) (fun c9 => absurd c9 (by decide))
  refine lv_iconst (v := 0) hx hb dX10_entry_41 (by decide) ?_
  have hP9 := hP.sub (ws' := [(w0, .inr (11, [.ref v0, .ref v1, .ref v2, .ref v3, .ref v4, .long 0, .long 0, .int 0, .int 1, .ref v9, .int 0, .int 0, .int (-1), .ref v13, .int 0, .int 0, .int 0, .int 0, .int 0, .int 0, .int 0, .int 0, .int 0, .int 0, .int 0, .long 0, .int 0, .ref v27, .ref v28, .ref v29, .ref v30, .ref v31, .ref v32, .ref v33, .ref v34, .ref v35, .ref v36, .ref v37, .int 0]))]) [1] rfl
  have hD9 := hD.sub (ws' := [(w0, .inr (11, [.ref v0, .ref v1, .ref v2, .ref v3, .ref v4, .long 0, .long 0, .int 0, .int 1, .ref v9, .int 0, .int 0, .int (-1), .ref v13, .int 0, .int 0, .int 0, .int 0, .int 0, .int 0, .int 0, .int 0, .int 0, .int 0, .int 0, .long 0, .int 0, .ref v27, .ref v28, .ref v29, .ref v30, .ref v31, .ref v32, .ref v33, .ref v34, .ref v35, .ref v36, .ref v37, .int 0]))]) [1] (by decide) rfl
  refine W.widen (k := 0) (n := 0) (Nat.le_of_ble_eq_true rfl) (Nat.le_of_ble_eq_true rfl) ?_
  exact W.iret (v := 0) hx hb hr (fun t ht hW => ⟨⟨0, (), rfl, rfl, by rw [ht]; exact hP9, hD9⟩, hS.F ht⟩) hS.2.2 dX10_entry_42

set_option maxHeartbeats 4000000 in
set_option maxRecDepth 100000 in
/-- written: thrown 1 -/
theorem c_m_written (l : Launch) (D : va_G) (cA : Nat → ClassId) (sa : Nat → Nat) (w0 v0 v1 v2 v3 v4 v9 v13 v27 v28 v29 v30 v31 v32 v33 v34 v35 v36 v37 : Nat) (th : Int32) (fs : Nat → Int32) (i : Int32) (sz : Nat) (hz : Zs fs) : Met l yX10_written wsX10_written ({ frames := 1, cells := 0, slots := 0, locals := 25 }) (va_Pc [.ref w0, .int i] (Wd D cA sa [(w0, .inr (11, [.ref v0, .ref v1, .ref v2, .ref v3, .ref v4, .long 0, .long 0, .int 0, .int th, .ref v9, .int 0, .int 0, .int (-1), .ref v13, .int 0, .int 0, .int 0, .int 0, .int 0, .int 0, .int 0, .int 0, .int 0, .int 0, .int 0, .long 0, .int 0, .ref v27, .ref v28, .ref v29, .ref v30, .ref v31, .ref v32, .ref v33, .ref v34, .ref v35, .ref v36, .ref v37, .int 0]))] sz)) (va_Qi (fun (r : Int32) (_ : Unit) => r = 0) (fun (_ : Unit) t => Wq D (va_A [(w0, .inr (11, [.ref v0, .ref v1, .ref v2, .ref v3, .ref v4, .long 0, .long 0, .int 0, .int th, .ref v9, .int 0, .int 0, .int (-1), .ref v13, .int 0, .int 0, .int 0, .int 0, .int 0, .int 0, .int 0, .int 0, .int 0, .int 0, .int 0, .long 0, .int 0, .ref v27, .ref v28, .ref v29, .ref v30, .ref v31, .ref v32, .ref v33, .ref v34, .ref v35, .ref v36, .ref v37, .int 0]))] sz) [(w0, .inr (11, [.ref v0, .ref v1, .ref v2, .ref v3, .ref v4, .long 0, .long 0, .int 0, .int 1, .ref v9, .int 0, .int 0, .int (-1), .ref v13, .int 0, .int 0, .int 0, .int 0, .int 0, .int 0, .int 0, .int 0, .int 0, .int 0, .int 0, .long 0, .int 0, .ref v27, .ref v28, .ref v29, .ref v30, .ref v31, .ref v32, .ref v33, .ref v34, .ref v35, .ref v36, .ref v37, .int 0]))] t) (va_A [(w0, .inr (11, [.ref v0, .ref v1, .ref v2, .ref v3, .ref v4, .long 0, .long 0, .int 0, .int th, .ref v9, .int 0, .int 0, .int (-1), .ref v13, .int 0, .int 0, .int 0, .int 0, .int 0, .int 0, .int 0, .int 0, .int 0, .int 0, .int 0, .long 0, .int 0, .ref v27, .ref v28, .ref v29, .ref v30, .ref v31, .ref v32, .ref v33, .ref v34, .ref v35, .ref v36, .ref v37, .int 0]))] sz)) 0 0 (va_A [(w0, .inr (11, [.ref v0, .ref v1, .ref v2, .ref v3, .ref v4, .long 0, .long 0, .int 0, .int th, .ref v9, .int 0, .int 0, .int (-1), .ref v13, .int 0, .int 0, .int 0, .int 0, .int 0, .int 0, .int 0, .int 0, .int 0, .int 0, .int 0, .long 0, .int 0, .ref v27, .ref v28, .ref v29, .ref v30, .ref v31, .ref v32, .ref v33, .ref v34, .ref v35, .ref v36, .ref v37, .int 0]))] sz) := by
  refine Met.ofW (cc := cX10_written) (maxL := 2) (ret := (some .char)) (by decide) rfl ?_
  intro p e s m args below meth c s₁ B hml hv
  obtain ⟨rfl, hsz, hP, hK, hD0, hC, hZ⟩ := hv
  have hx := B.exec
  have hb := B.bytes
  have hr := B.returns
  have hts := atoms_spec (ws := wsX10_written) B.pre
  have hown : s.vm.findClass RX10 = some m.cls := findClass_of_methodNamed B.named
  have hlocks := B.notSynchronized
  subst hsz
  have hD := hD0.self (sz := s.heap.size)
  generalize hAe : va_A [(w0, .inr (11, [.ref v0, .ref v1, .ref v2, .ref v3, .ref v4, .long 0, .long 0, .int 0, .int th, .ref v9, .int 0, .int 0, .int (-1), .ref v13, .int 0, .int 0, .int 0, .int 0, .int 0, .int 0, .int 0, .int 0, .int 0, .int 0, .int 0, .long 0, .int 0, .ref v27, .ref v28, .ref v29, .ref v30, .ref v31, .ref v32, .ref v33, .ref v34, .ref v35, .ref v36, .ref v37, .int 0]))] s.heap.size = A at hD hZ ⊢
  have hA : ∀ q : Nat, s.heap.size ≤ q → A q := fun q h => by rw [← hAe]; exact Or.inr h
  have hS : va_S A s.heap s.heap [] := va_S.rf
  have hP : va_P D vwCl [(w0, .inr (11, [.ref v0, .ref v1, .ref v2, .ref v3, .ref v4, .long 0, .long 0, .int 0, .int th, .ref v9, .int 0, .int 0, .int (-1), .ref v13, .int 0, .int 0, .int 0, .int 0, .int 0, .int 0, .int 0, .int 0, .int 0, .int 0, .int 0, .long 0, .int 0, .ref v27, .ref v28, .ref v29, .ref v30, .ref v31, .ref v32, .ref v33, .ref v34, .ref v35, .ref v36, .ref v37, .int 0]))] s.heap := hP
  have hl := lv_entry ([.ref w0, .int i]) (n := 2) (Nat.le_of_ble_eq_true rfl)
  rw [lg_entry_eq]
  generalize (lg_sl ([.ref w0, .int i]) ++ List.replicate (2 - (lg_sl ([.ref w0, .int i])).length) Slot.unset).toArray = ls at hl ⊢
  have hl : lv_has ls 2 [(0, .ref w0), (1, .int i)] := hl
  have inX10 : ∀ w ∈ u_ws RX10 TX10 39, w ∈ wsX10_written := by decide +kernel
  refine lv_aload_n hx hb dX10_written_0 rfl (lv_at hl 0 rfl) ?_
  refine lv_iload_n hx hb dX10_written_1 rfl (lv_at hl 1 rfl) ?_
  refine lv_i2l (v := (i.toInt64)) hx hb dX10_written_2 rfl ?_
  refine lv_lconst (v := 0) hx hb dX10_written_3 (by decide) ?_
  refine lv_aload_n hx hb dX10_written_4 rfl (lv_at hl 0 rfl) ?_
  refine va_get (D := D) (ci := 11) (v := .int 0) (C := RX10) (T := TX10) (N := 39) hx hb hts inX10 hown hK hP 0 rfl rfl 38 (by decide) (hts (.fieldLink RX10 412 "EscrowDeskModel" "outputLength" "I") (by decide +kernel)) (fun _ h9 => h9) rfl dX10_written_5 ?_
  refine lv_iconst (v := 1) hx hb dX10_written_8 (by decide) ?_
  refine lv_isub hx hb dX10_written_9 ?_
  refine lv_topi (fun yn1 eyn1 => ?_)
  obtain rfl : yn1 = (-1) := eyn1.trans (by first | rfl | decide +kernel)
  refine lv_i2l (v := (-1)) hx hb dX10_written_10 (by decide) ?_
  have hPc := hP.sub (ws' := []) [] rfl
  have hDc := hD.sub (ws' := []) [] (by decide) rfl
  have hFc := va_free (wc := []) hD hS hA [] rfl
  refine va_calli (va_runS (As := [.long (i.toInt64), .long 0, .long (-1)]) (rest := [.ref w0]) ⟨hx, hb, hml, hown, hts⟩ (c_btw_f l D cA sa (i.toInt64) 0 (-1) s.heap.size (any_out _)) (va_cwS 3 hts gX10_written_X10_between rfl rfl rfl (by decide +kernel) ⟨(Nat.le_of_ble_eq_true rfl), (Nat.le_of_ble_eq_true rfl)⟩) ⟨Wd.blind, fun U hU hW => ⟨rfl, Wd.call hPc hDc hK hC hZ hS hFc U hU hW⟩⟩ rfl rfl hl.1 rfl (lv_room (Nat.le_of_ble_eq_true rfl)) dX10_written_11 ⟨(Nat.le_of_ble_eq_true rfl), (Nat.le_of_ble_eq_true rfl)⟩) hS (fun q _ h => hFc q h) hFc (fun rn2 u t H1 locs ht hvm hw hB hz1 hk1 hS => ?_)
  obtain ⟨hP1, hD1⟩ := hB
  rw [ht] at hP1
  obtain ⟨hP, hD⟩ := va_join (wr := [(w0, .inr (11, [.ref v0, .ref v1, .ref v2, .ref v3, .ref v4, .long 0, .long 0, .int 0, .int th, .ref v9, .int 0, .int 0, .int (-1), .ref v13, .int 0, .int 0, .int 0, .int 0, .int 0, .int 0, .int 0, .int 0, .int 0, .int 0, .int 0, .long 0, .int 0, .ref v27, .ref v28, .ref v29, .ref v30, .ref v31, .ref v32, .ref v33, .ref v34, .ref v35, .ref v36, .ref v37, .int 0]))]) (w1 := []) hP hD [] [0] rfl rfl (by decide) (by decide) hk1 hFc hP1 hD1
  generalize H1 = H at hP hS ⊢
  have hP : va_P D vwCl [(w0, .inr (11, [.ref v0, .ref v1, .ref v2, .ref v3, .ref v4, .long 0, .long 0, .int 0, .int th, .ref v9, .int 0, .int 0, .int (-1), .ref v13, .int 0, .int 0, .int 0, .int 0, .int 0, .int 0, .int 0, .int 0, .int 0, .int 0, .int 0, .long 0, .int 0, .ref v27, .ref v28, .ref v29, .ref v30, .ref v31, .ref v32, .ref v33, .ref v34, .ref v35, .ref v36, .ref v37, .int 0]))] H := hP
  have hD : va_D A [(w0, .inr (11, [.ref v0, .ref v1, .ref v2, .ref v3, .ref v4, .long 0, .long 0, .int 0, .int th, .ref v9, .int 0, .int 0, .int (-1), .ref v13, .int 0, .int 0, .int 0, .int 0, .int 0, .int 0, .int 0, .int 0, .int 0, .int 0, .int 0, .long 0, .int 0, .ref v27, .ref v28, .ref v29, .ref v30, .ref v31, .ref v32, .ref v33, .ref v34, .ref v35, .ref v36, .ref v37, .int 0]))] := hD
  obtain rfl : rn2 = 0 := hw
  have hPc := hP.sub (ws' := [(w0, .inr (11, [.ref v0, .ref v1, .ref v2, .ref v3, .ref v4, .long 0, .long 0, .int 0, .int th, .ref v9, .int 0, .int 0, .int (-1), .ref v13, .int 0, .int 0, .int 0, .int 0, .int 0, .int 0, .int 0, .int 0, .int 0, .int 0, .int 0, .long 0, .int 0, .ref v27, .ref v28, .ref v29, .ref v30, .ref v31, .ref v32, .ref v33, .ref v34, .ref v35, .ref v36, .ref v37, .int 0]))]) [0] rfl
  have hDc := hD.sub (ws' := [(w0, .inr (11, [.ref v0, .ref v1, .ref v2, .ref v3, .ref v4, .long 0, .long 0, .int 0, .int th, .ref v9, .int 0, .int 0, .int (-1), .ref v13, .int 0, .int 0, .int 0, .int 0, .int 0, .int 0, .int 0, .int 0, .int 0, .int 0, .int 0, .long 0, .int 0, .ref v27, .ref v28, .ref v29, .ref v30, .ref v31, .ref v32, .ref v33, .ref v34, .ref v35, .ref v36, .ref v37, .int 0]))]) [0] (by decide) rfl
  have hFc := va_free (wc := [(w0, .inr (11, [.ref v0, .ref v1, .ref v2, .ref v3, .ref v4, .long 0, .long 0, .int 0, .int th, .ref v9, .int 0, .int 0, .int (-1), .ref v13, .int 0, .int 0, .int 0, .int 0, .int 0, .int 0, .int 0, .int 0, .int 0, .int 0, .int 0, .long 0, .int 0, .ref v27, .ref v28, .ref v29, .ref v30, .ref v31, .ref v32, .ref v33, .ref v34, .ref v35, .ref v36, .ref v37, .int 0]))]) hD hS hA [0] rfl
  refine va_calli (va_runV (As := [.int 0]) (rest := []) ⟨hx, hb, hml, hown, hts⟩ (c_m_good_0 l D cA sa w0 v0 v1 v2 v3 v4 v9 v13 v27 v28 v29 v30 v31 v32 v33 v34 v35 v36 v37 th H.size) (cwV 1 hts gX10_written_X10_good rfl rfl rfl (by decide +kernel) ⟨(Nat.le_of_ble_eq_true rfl), (Nat.le_of_ble_eq_true rfl)⟩) ⟨Wd.blind, va_recv hK hPc (ci := 11) (q0 := 0) rfl rfl, fun U hU hW => ⟨rfl, Wd.call hPc hDc hK hC hZ hS hFc U hU hW⟩⟩ rfl rfl hl.1 rfl (lv_room (Nat.le_of_ble_eq_true rfl)) dX10_written_14 ⟨(Nat.le_of_ble_eq_true rfl), (Nat.le_of_ble_eq_true rfl)⟩) hS (fun q _ h => hFc q h) hFc (fun rn3 u t H1 locs ht hvm hw hB hz1 hk1 hS => ?_)
  obtain ⟨hP1, hD1⟩ := hB
  rw [ht] at hP1
  obtain ⟨hP, hD⟩ := va_join (wr := []) (w1 := [(w0, .inr (11, [.ref v0, .ref v1, .ref v2, .ref v3, .ref v4, .long 0, .long 0, .int 0, .int 1, .ref v9, .int 0, .int 0, .int (-1), .ref v13, .int 0, .int 0, .int 0, .int 0, .int 0, .int 0, .int 0, .int 0, .int 0, .int 0, .int 0, .long 0, .int 0, .ref v27, .ref v28, .ref v29, .ref v30, .ref v31, .ref v32, .ref v33, .ref v34, .ref v35, .ref v36, .ref v37, .int 0]))]) hP hD [0] [] rfl rfl (by decide) (by decide) hk1 hFc hP1 hD1
  generalize H1 = H at hP hS ⊢
  have hP : va_P D vwCl [(w0, .inr (11, [.ref v0, .ref v1, .ref v2, .ref v3, .ref v4, .long 0, .long 0, .int 0, .int 1, .ref v9, .int 0, .int 0, .int (-1), .ref v13, .int 0, .int 0, .int 0, .int 0, .int 0, .int 0, .int 0, .int 0, .int 0, .int 0, .int 0, .long 0, .int 0, .ref v27, .ref v28, .ref v29, .ref v30, .ref v31, .ref v32, .ref v33, .ref v34, .ref v35, .ref v36, .ref v37, .int 0]))] H := hP
  have hD : va_D A [(w0, .inr (11, [.ref v0, .ref v1, .ref v2, .ref v3, .ref v4, .long 0, .long 0, .int 0, .int 1, .ref v9, .int 0, .int 0, .int (-1), .ref v13, .int 0, .int 0, .int 0, .int 0, .int 0, .int 0, .int 0, .int 0, .int 0, .int 0, .int 0, .long 0, .int 0, .ref v27, .ref v28, .ref v29, .ref v30, .ref v31, .ref v32, .ref v33, .ref v34, .ref v35, .ref v36, .ref v37, .int 0]))] := hD
  obtain rfl : rn3 = 0 := hw
  refine lv_if_eq (tgt := 30) hx hb dX10_written_17 (by decide) (fun c4 => ?_) (fun c9 => absurd c9 (by decide))
  refine lv_iconst (v := 0) hx hb dX10_written_30 (by decide) ?_
  have hP9 := hP.sub (ws' := [(w0, .inr (11, [.ref v0, .ref v1, .ref v2, .ref v3, .ref v4, .long 0, .long 0, .int 0, .int 1, .ref v9, .int 0, .int 0, .int (-1), .ref v13, .int 0, .int 0, .int 0, .int 0, .int 0, .int 0, .int 0, .int 0, .int 0, .int 0, .int 0, .long 0, .int 0, .ref v27, .ref v28, .ref v29, .ref v30, .ref v31, .ref v32, .ref v33, .ref v34, .ref v35, .ref v36, .ref v37, .int 0]))]) [0] rfl
  have hD9 := hD.sub (ws' := [(w0, .inr (11, [.ref v0, .ref v1, .ref v2, .ref v3, .ref v4, .long 0, .long 0, .int 0, .int 1, .ref v9, .int 0, .int 0, .int (-1), .ref v13, .int 0, .int 0, .int 0, .int 0, .int 0, .int 0, .int 0, .int 0, .int 0, .int 0, .int 0, .long 0, .int 0, .ref v27, .ref v28, .ref v29, .ref v30, .ref v31, .ref v32, .ref v33, .ref v34, .ref v35, .ref v36, .ref v37, .int 0]))]) [0] (by decide) rfl
  refine W.widen (k := 0) (n := 0) (Nat.le_of_ble_eq_true rfl) (Nat.le_of_ble_eq_true rfl) ?_
  exact W.zret (v := 0) hx hb hr (by first | rfl | decide) (fun t ht hW => ⟨⟨0, (), rfl, rfl, by rw [ht]; exact hP9, hD9⟩, hS.F ht⟩) hS.2.2 dX10_written_31

set_option maxHeartbeats 4000000 in
set_option maxRecDepth 100000 in
/-- payInterest: thrown 1 -/
theorem c_m_payInterest (l : Launch) (D : va_G) (cA : Nat → ClassId) (sa : Nat → Nat) (w0 v0 v1 v2 v3 v4 v9 v13 v27 v28 v29 v30 v31 v32 v33 v34 v35 v36 v37 : Nat) (th : Int32) (fs : Nat → Int32) (i : Int32) (sz : Nat) (hz : Zs fs) : Met l yX10_payInterest wsX10_payInterest ({ frames := 1, cells := 0, slots := 0, locals := 25 }) (va_Pc [.ref w0, .int i] (Wd D cA sa [(w0, .inr (11, [.ref v0, .ref v1, .ref v2, .ref v3, .ref v4, .long 0, .long 0, .int 0, .int th, .ref v9, .int 0, .int 0, .int (-1), .ref v13, .int 0, .int 0, .int 0, .int 0, .int 0, .int 0, .int 0, .int 0, .int 0, .int 0, .int 0, .long 0, .int 0, .ref v27, .ref v28, .ref v29, .ref v30, .ref v31, .ref v32, .ref v33, .ref v34, .ref v35, .ref v36, .ref v37, .int 0])), (v0, .inl (cA 0, 326, .inl fs))] sz)) (va_Qi (fun (r : Int32) (_ : Unit) => r = 0) (fun (_ : Unit) t => Wq D (va_A [(w0, .inr (11, [.ref v0, .ref v1, .ref v2, .ref v3, .ref v4, .long 0, .long 0, .int 0, .int th, .ref v9, .int 0, .int 0, .int (-1), .ref v13, .int 0, .int 0, .int 0, .int 0, .int 0, .int 0, .int 0, .int 0, .int 0, .int 0, .int 0, .long 0, .int 0, .ref v27, .ref v28, .ref v29, .ref v30, .ref v31, .ref v32, .ref v33, .ref v34, .ref v35, .ref v36, .ref v37, .int 0])), (v0, .inl (cA 0, 326, .inl fs))] sz) [(w0, .inr (11, [.ref v0, .ref v1, .ref v2, .ref v3, .ref v4, .long 0, .long 0, .int 0, .int 1, .ref v9, .int 0, .int 0, .int (-1), .ref v13, .int 0, .int 0, .int 0, .int 0, .int 0, .int 0, .int 0, .int 0, .int 0, .int 0, .int 0, .long 0, .int 0, .ref v27, .ref v28, .ref v29, .ref v30, .ref v31, .ref v32, .ref v33, .ref v34, .ref v35, .ref v36, .ref v37, .int 0]))] t) (va_A [(w0, .inr (11, [.ref v0, .ref v1, .ref v2, .ref v3, .ref v4, .long 0, .long 0, .int 0, .int th, .ref v9, .int 0, .int 0, .int (-1), .ref v13, .int 0, .int 0, .int 0, .int 0, .int 0, .int 0, .int 0, .int 0, .int 0, .int 0, .int 0, .long 0, .int 0, .ref v27, .ref v28, .ref v29, .ref v30, .ref v31, .ref v32, .ref v33, .ref v34, .ref v35, .ref v36, .ref v37, .int 0])), (v0, .inl (cA 0, 326, .inl fs))] sz)) 0 0 (va_A [(w0, .inr (11, [.ref v0, .ref v1, .ref v2, .ref v3, .ref v4, .long 0, .long 0, .int 0, .int th, .ref v9, .int 0, .int 0, .int (-1), .ref v13, .int 0, .int 0, .int 0, .int 0, .int 0, .int 0, .int 0, .int 0, .int 0, .int 0, .int 0, .long 0, .int 0, .ref v27, .ref v28, .ref v29, .ref v30, .ref v31, .ref v32, .ref v33, .ref v34, .ref v35, .ref v36, .ref v37, .int 0])), (v0, .inl (cA 0, 326, .inl fs))] sz) := by
  refine Met.ofW (cc := cX10_payInterest) (maxL := 2) (ret := (some .int)) (by decide) rfl ?_
  intro p e s m args below meth c s₁ B hml hv
  obtain ⟨rfl, hsz, hP, hK, hD0, hC, hZ⟩ := hv
  have hx := B.exec
  have hb := B.bytes
  have hr := B.returns
  have hts := atoms_spec (ws := wsX10_payInterest) B.pre
  have hown : s.vm.findClass RX10 = some m.cls := findClass_of_methodNamed B.named
  have hlocks := B.notSynchronized
  subst hsz
  have hD := hD0.self (sz := s.heap.size)
  generalize hAe : va_A [(w0, .inr (11, [.ref v0, .ref v1, .ref v2, .ref v3, .ref v4, .long 0, .long 0, .int 0, .int th, .ref v9, .int 0, .int 0, .int (-1), .ref v13, .int 0, .int 0, .int 0, .int 0, .int 0, .int 0, .int 0, .int 0, .int 0, .int 0, .int 0, .long 0, .int 0, .ref v27, .ref v28, .ref v29, .ref v30, .ref v31, .ref v32, .ref v33, .ref v34, .ref v35, .ref v36, .ref v37, .int 0])), (v0, .inl (cA 0, 326, .inl fs))] s.heap.size = A at hD hZ ⊢
  have hA : ∀ q : Nat, s.heap.size ≤ q → A q := fun q h => by rw [← hAe]; exact Or.inr h
  have hS : va_S A s.heap s.heap [] := va_S.rf
  have hP : va_P D vwCl [(w0, .inr (11, [.ref v0, .ref v1, .ref v2, .ref v3, .ref v4, .long 0, .long 0, .int 0, .int th, .ref v9, .int 0, .int 0, .int (-1), .ref v13, .int 0, .int 0, .int 0, .int 0, .int 0, .int 0, .int 0, .int 0, .int 0, .int 0, .int 0, .long 0, .int 0, .ref v27, .ref v28, .ref v29, .ref v30, .ref v31, .ref v32, .ref v33, .ref v34, .ref v35, .ref v36, .ref v37, .int 0])), (v0, .inl (cA 0, 326, .inl fs))] s.heap := hP
  have hl := lv_entry ([.ref w0, .int i]) (n := 2) (Nat.le_of_ble_eq_true rfl)
  rw [lg_entry_eq]
  generalize (lg_sl ([.ref w0, .int i]) ++ List.replicate (2 - (lg_sl ([.ref w0, .int i])).length) Slot.unset).toArray = ls at hl ⊢
  have hl : lv_has ls 2 [(0, .ref w0), (1, .int i)] := hl
  have inX10 : ∀ w ∈ u_ws RX10 TX10 39, w ∈ wsX10_payInterest := by decide +kernel
  refine lv_aload_n hx hb dX10_payInterest_0 rfl (lv_at hl 0 rfl) ?_
  refine lv_iload_n hx hb dX10_payInterest_1 rfl (lv_at hl 1 rfl) ?_
  refine lv_i2l (v := (i.toInt64)) hx hb dX10_payInterest_2 rfl ?_
  refine lv_lconst (v := 1) hx hb dX10_payInterest_3 (by decide) ?_
  refine lv_aload_n hx hb dX10_payInterest_4 rfl (lv_at hl 0 rfl) ?_
  refine va_get (D := D) (ci := 11) (v := .ref v0) (C := RX10) (T := TX10) (N := 39) hx hb hts inX10 hown hK hP 0 rfl rfl 0 (by decide) (hts (.fieldLink RX10 7 "EscrowDeskModel" "s" "[I") (by decide +kernel)) (fun _ h9 => h9) rfl dX10_payInterest_5 ?_
  refine lv_bipush (v := 7) hx hb dX10_payInterest_8 (by decide) ?_
  refine va_iald hx hb hK hP 1 0 rfl rfl (vp_in_iff.mpr (by decide)) dX10_payInterest_10 ?_
  refine lv_topi (fun yn1 eyn1 => ?_)
  obtain rfl : yn1 = 0 := eyn1.trans (hz.2 7 (by decide) (by decide))
  refine lv_i2l (v := 0) hx hb dX10_payInterest_11 (by decide) ?_
  have hPc := hP.sub (ws' := []) [] rfl
  have hDc := hD.sub (ws' := []) [] (by decide) rfl
  have hFc := va_free (wc := []) hD hS hA [] rfl
  refine va_calli (va_runS (As := [.long (i.toInt64), .long 1, .long 0]) (rest := [.ref w0]) ⟨hx, hb, hml, hown, hts⟩ (c_btw_f l D cA sa (i.toInt64) 1 0 s.heap.size (any_out1 _)) (va_cwS 3 hts gX10_payInterest_X10_between rfl rfl rfl (by decide +kernel) ⟨(Nat.le_of_ble_eq_true rfl), (Nat.le_of_ble_eq_true rfl)⟩) ⟨Wd.blind, fun U hU hW => ⟨rfl, Wd.call hPc hDc hK hC hZ hS hFc U hU hW⟩⟩ rfl rfl hl.1 rfl (lv_room (Nat.le_of_ble_eq_true rfl)) dX10_payInterest_12 ⟨(Nat.le_of_ble_eq_true rfl), (Nat.le_of_ble_eq_true rfl)⟩) hS (fun q _ h => hFc q h) hFc (fun rn2 u t H1 locs ht hvm hw hB hz1 hk1 hS => ?_)
  obtain ⟨hP1, hD1⟩ := hB
  rw [ht] at hP1
  obtain ⟨hP, hD⟩ := va_join (wr := [(w0, .inr (11, [.ref v0, .ref v1, .ref v2, .ref v3, .ref v4, .long 0, .long 0, .int 0, .int th, .ref v9, .int 0, .int 0, .int (-1), .ref v13, .int 0, .int 0, .int 0, .int 0, .int 0, .int 0, .int 0, .int 0, .int 0, .int 0, .int 0, .long 0, .int 0, .ref v27, .ref v28, .ref v29, .ref v30, .ref v31, .ref v32, .ref v33, .ref v34, .ref v35, .ref v36, .ref v37, .int 0])), (v0, .inl (cA 0, 326, .inl fs))]) (w1 := []) hP hD [] [0, 1] rfl rfl (by decide) (by decide) hk1 hFc hP1 hD1
  generalize H1 = H at hP hS ⊢
  have hP : va_P D vwCl [(w0, .inr (11, [.ref v0, .ref v1, .ref v2, .ref v3, .ref v4, .long 0, .long 0, .int 0, .int th, .ref v9, .int 0, .int 0, .int (-1), .ref v13, .int 0, .int 0, .int 0, .int 0, .int 0, .int 0, .int 0, .int 0, .int 0, .int 0, .int 0, .long 0, .int 0, .ref v27, .ref v28, .ref v29, .ref v30, .ref v31, .ref v32, .ref v33, .ref v34, .ref v35, .ref v36, .ref v37, .int 0])), (v0, .inl (cA 0, 326, .inl fs))] H := hP
  have hD : va_D A [(w0, .inr (11, [.ref v0, .ref v1, .ref v2, .ref v3, .ref v4, .long 0, .long 0, .int 0, .int th, .ref v9, .int 0, .int 0, .int (-1), .ref v13, .int 0, .int 0, .int 0, .int 0, .int 0, .int 0, .int 0, .int 0, .int 0, .int 0, .int 0, .long 0, .int 0, .ref v27, .ref v28, .ref v29, .ref v30, .ref v31, .ref v32, .ref v33, .ref v34, .ref v35, .ref v36, .ref v37, .int 0])), (v0, .inl (cA 0, 326, .inl fs))] := hD
  obtain rfl : rn2 = 0 := hw
  have hPc := hP.sub (ws' := [(w0, .inr (11, [.ref v0, .ref v1, .ref v2, .ref v3, .ref v4, .long 0, .long 0, .int 0, .int th, .ref v9, .int 0, .int 0, .int (-1), .ref v13, .int 0, .int 0, .int 0, .int 0, .int 0, .int 0, .int 0, .int 0, .int 0, .int 0, .int 0, .long 0, .int 0, .ref v27, .ref v28, .ref v29, .ref v30, .ref v31, .ref v32, .ref v33, .ref v34, .ref v35, .ref v36, .ref v37, .int 0]))]) [0] rfl
  have hDc := hD.sub (ws' := [(w0, .inr (11, [.ref v0, .ref v1, .ref v2, .ref v3, .ref v4, .long 0, .long 0, .int 0, .int th, .ref v9, .int 0, .int 0, .int (-1), .ref v13, .int 0, .int 0, .int 0, .int 0, .int 0, .int 0, .int 0, .int 0, .int 0, .int 0, .int 0, .long 0, .int 0, .ref v27, .ref v28, .ref v29, .ref v30, .ref v31, .ref v32, .ref v33, .ref v34, .ref v35, .ref v36, .ref v37, .int 0]))]) [0] (by decide) rfl
  have hFc := va_free (wc := [(w0, .inr (11, [.ref v0, .ref v1, .ref v2, .ref v3, .ref v4, .long 0, .long 0, .int 0, .int th, .ref v9, .int 0, .int 0, .int (-1), .ref v13, .int 0, .int 0, .int 0, .int 0, .int 0, .int 0, .int 0, .int 0, .int 0, .int 0, .int 0, .long 0, .int 0, .ref v27, .ref v28, .ref v29, .ref v30, .ref v31, .ref v32, .ref v33, .ref v34, .ref v35, .ref v36, .ref v37, .int 0]))]) hD hS hA [0] rfl
  refine va_calli (va_runV (As := [.int 0]) (rest := []) ⟨hx, hb, hml, hown, hts⟩ (c_m_good_0 l D cA sa w0 v0 v1 v2 v3 v4 v9 v13 v27 v28 v29 v30 v31 v32 v33 v34 v35 v36 v37 th H.size) (cwV 1 hts gX10_payInterest_X10_good rfl rfl rfl (by decide +kernel) ⟨(Nat.le_of_ble_eq_true rfl), (Nat.le_of_ble_eq_true rfl)⟩) ⟨Wd.blind, va_recv hK hPc (ci := 11) (q0 := 0) rfl rfl, fun U hU hW => ⟨rfl, Wd.call hPc hDc hK hC hZ hS hFc U hU hW⟩⟩ rfl rfl hl.1 rfl (lv_room (Nat.le_of_ble_eq_true rfl)) dX10_payInterest_15 ⟨(Nat.le_of_ble_eq_true rfl), (Nat.le_of_ble_eq_true rfl)⟩) hS (fun q _ h => hFc q h) hFc (fun rn3 u t H1 locs ht hvm hw hB hz1 hk1 hS => ?_)
  obtain ⟨hP1, hD1⟩ := hB
  rw [ht] at hP1
  obtain ⟨hP, hD⟩ := va_join (wr := [(v0, .inl (cA 0, 326, .inl fs))]) (w1 := [(w0, .inr (11, [.ref v0, .ref v1, .ref v2, .ref v3, .ref v4, .long 0, .long 0, .int 0, .int 1, .ref v9, .int 0, .int 0, .int (-1), .ref v13, .int 0, .int 0, .int 0, .int 0, .int 0, .int 0, .int 0, .int 0, .int 0, .int 0, .int 0, .long 0, .int 0, .ref v27, .ref v28, .ref v29, .ref v30, .ref v31, .ref v32, .ref v33, .ref v34, .ref v35, .ref v36, .ref v37, .int 0]))]) hP hD [0] [1] rfl rfl (by decide) (by decide) hk1 hFc hP1 hD1
  generalize H1 = H at hP hS ⊢
  have hP : va_P D vwCl [(v0, .inl (cA 0, 326, .inl fs)), (w0, .inr (11, [.ref v0, .ref v1, .ref v2, .ref v3, .ref v4, .long 0, .long 0, .int 0, .int 1, .ref v9, .int 0, .int 0, .int (-1), .ref v13, .int 0, .int 0, .int 0, .int 0, .int 0, .int 0, .int 0, .int 0, .int 0, .int 0, .int 0, .long 0, .int 0, .ref v27, .ref v28, .ref v29, .ref v30, .ref v31, .ref v32, .ref v33, .ref v34, .ref v35, .ref v36, .ref v37, .int 0]))] H := hP
  have hD : va_D A [(v0, .inl (cA 0, 326, .inl fs)), (w0, .inr (11, [.ref v0, .ref v1, .ref v2, .ref v3, .ref v4, .long 0, .long 0, .int 0, .int 1, .ref v9, .int 0, .int 0, .int (-1), .ref v13, .int 0, .int 0, .int 0, .int 0, .int 0, .int 0, .int 0, .int 0, .int 0, .int 0, .int 0, .long 0, .int 0, .ref v27, .ref v28, .ref v29, .ref v30, .ref v31, .ref v32, .ref v33, .ref v34, .ref v35, .ref v36, .ref v37, .int 0]))] := hD
  obtain rfl : rn3 = 0 := hw
  refine lv_if_ne (tgt := 23) hx hb dX10_payInterest_18 (by decide) (fun c9 => absurd c9 (by decide)) (fun c4 => ?_)
  refine lv_iconst (v := 0) hx hb dX10_payInterest_21 (by decide) ?_
  have hP9 := hP.sub (ws' := [(w0, .inr (11, [.ref v0, .ref v1, .ref v2, .ref v3, .ref v4, .long 0, .long 0, .int 0, .int 1, .ref v9, .int 0, .int 0, .int (-1), .ref v13, .int 0, .int 0, .int 0, .int 0, .int 0, .int 0, .int 0, .int 0, .int 0, .int 0, .int 0, .long 0, .int 0, .ref v27, .ref v28, .ref v29, .ref v30, .ref v31, .ref v32, .ref v33, .ref v34, .ref v35, .ref v36, .ref v37, .int 0]))]) [1] rfl
  have hD9 := hD.sub (ws' := [(w0, .inr (11, [.ref v0, .ref v1, .ref v2, .ref v3, .ref v4, .long 0, .long 0, .int 0, .int 1, .ref v9, .int 0, .int 0, .int (-1), .ref v13, .int 0, .int 0, .int 0, .int 0, .int 0, .int 0, .int 0, .int 0, .int 0, .int 0, .int 0, .long 0, .int 0, .ref v27, .ref v28, .ref v29, .ref v30, .ref v31, .ref v32, .ref v33, .ref v34, .ref v35, .ref v36, .ref v37, .int 0]))]) [1] (by decide) rfl
  refine W.widen (k := 0) (n := 0) (Nat.le_of_ble_eq_true rfl) (Nat.le_of_ble_eq_true rfl) ?_
  exact W.iret (v := 0) hx hb hr (fun t ht hW => ⟨⟨0, (), rfl, rfl, by rw [ht]; exact hP9, hD9⟩, hS.F ht⟩) hS.2.2 dX10_payInterest_22

set_option maxHeartbeats 4000000 in
set_option maxRecDepth 100000 in
/-- errorKind -/
theorem c_m_errorKind (l : Launch) (D : va_G) (cA : Nat → ClassId) (sa : Nat → Nat) (w0 v0 v1 v2 v3 v4 v9 v13 v27 v28 v29 v30 v31 v32 v33 v34 v35 v36 v37 : Nat) (th : Int32) (fs : Nat → Int32) (sz : Nat) (hz : Zs fs) : Met l yX10_errorKind wsX10_errorKind ({ frames := 0, cells := 0, slots := 0, locals := 0 }) (va_Pc [.ref w0] (Wd D cA sa [(w0, .inr (11, [.ref v0, .ref v1, .ref v2, .ref v3, .ref v4, .long 0, .long 0, .int 0, .int th, .ref v9, .int 0, .int 0, .int (-1), .ref v13, .int 0, .int 0, .int 0, .int 0, .int 0, .int 0, .int 0, .int 0, .int 0, .int 0, .int 0, .long 0, .int 0, .ref v27, .ref v28, .ref v29, .ref v30, .ref v31, .ref v32, .ref v33, .ref v34, .ref v35, .ref v36, .ref v37, .int 0])), (v0, .inl (cA 0, 326, .inl fs))] sz)) (va_Qi (fun (r : Int32) (_ : Unit) => r = 0) (fun (_ : Unit) t => Wq D (va_A [(w0, .inr (11, [.ref v0, .ref v1, .ref v2, .ref v3, .ref v4, .long 0, .long 0, .int 0, .int th, .ref v9, .int 0, .int 0, .int (-1), .ref v13, .int 0, .int 0, .int 0, .int 0, .int 0, .int 0, .int 0, .int 0, .int 0, .int 0, .int 0, .long 0, .int 0, .ref v27, .ref v28, .ref v29, .ref v30, .ref v31, .ref v32, .ref v33, .ref v34, .ref v35, .ref v36, .ref v37, .int 0])), (v0, .inl (cA 0, 326, .inl fs))] sz) [(w0, .inr (11, [.ref v0, .ref v1, .ref v2, .ref v3, .ref v4, .long 0, .long 0, .int 0, .int 0, .ref v9, .int 0, .int 0, .int (-1), .ref v13, .int 0, .int 0, .int 0, .int 0, .int 0, .int 0, .int 0, .int 0, .int 0, .int 0, .int 0, .long 0, .int 0, .ref v27, .ref v28, .ref v29, .ref v30, .ref v31, .ref v32, .ref v33, .ref v34, .ref v35, .ref v36, .ref v37, .int 0]))] t) (va_A [(w0, .inr (11, [.ref v0, .ref v1, .ref v2, .ref v3, .ref v4, .long 0, .long 0, .int 0, .int th, .ref v9, .int 0, .int 0, .int (-1), .ref v13, .int 0, .int 0, .int 0, .int 0, .int 0, .int 0, .int 0, .int 0, .int 0, .int 0, .int 0, .long 0, .int 0, .ref v27, .ref v28, .ref v29, .ref v30, .ref v31, .ref v32, .ref v33, .ref v34, .ref v35, .ref v36, .ref v37, .int 0])), (v0, .inl (cA 0, 326, .inl fs))] sz)) 0 0 (va_A [(w0, .inr (11, [.ref v0, .ref v1, .ref v2, .ref v3, .ref v4, .long 0, .long 0, .int 0, .int th, .ref v9, .int 0, .int 0, .int (-1), .ref v13, .int 0, .int 0, .int 0, .int 0, .int 0, .int 0, .int 0, .int 0, .int 0, .int 0, .int 0, .long 0, .int 0, .ref v27, .ref v28, .ref v29, .ref v30, .ref v31, .ref v32, .ref v33, .ref v34, .ref v35, .ref v36, .ref v37, .int 0])), (v0, .inl (cA 0, 326, .inl fs))] sz) := by
  refine Met.ofW (cc := cX10_errorKind) (maxL := 1) (ret := (some .int)) (by decide) rfl ?_
  intro p e s m args below meth c s₁ B hml hv
  obtain ⟨rfl, hsz, hP, hK, hD0, hC, hZ⟩ := hv
  have hx := B.exec
  have hb := B.bytes
  have hr := B.returns
  have hts := atoms_spec (ws := wsX10_errorKind) B.pre
  have hown : s.vm.findClass RX10 = some m.cls := findClass_of_methodNamed B.named
  have hlocks := B.notSynchronized
  subst hsz
  have hD := hD0.self (sz := s.heap.size)
  generalize hAe : va_A [(w0, .inr (11, [.ref v0, .ref v1, .ref v2, .ref v3, .ref v4, .long 0, .long 0, .int 0, .int th, .ref v9, .int 0, .int 0, .int (-1), .ref v13, .int 0, .int 0, .int 0, .int 0, .int 0, .int 0, .int 0, .int 0, .int 0, .int 0, .int 0, .long 0, .int 0, .ref v27, .ref v28, .ref v29, .ref v30, .ref v31, .ref v32, .ref v33, .ref v34, .ref v35, .ref v36, .ref v37, .int 0])), (v0, .inl (cA 0, 326, .inl fs))] s.heap.size = A at hD hZ ⊢
  have hA : ∀ q : Nat, s.heap.size ≤ q → A q := fun q h => by rw [← hAe]; exact Or.inr h
  have hS : va_S A s.heap s.heap [] := va_S.rf
  have hP : va_P D vwCl [(w0, .inr (11, [.ref v0, .ref v1, .ref v2, .ref v3, .ref v4, .long 0, .long 0, .int 0, .int th, .ref v9, .int 0, .int 0, .int (-1), .ref v13, .int 0, .int 0, .int 0, .int 0, .int 0, .int 0, .int 0, .int 0, .int 0, .int 0, .int 0, .long 0, .int 0, .ref v27, .ref v28, .ref v29, .ref v30, .ref v31, .ref v32, .ref v33, .ref v34, .ref v35, .ref v36, .ref v37, .int 0])), (v0, .inl (cA 0, 326, .inl fs))] s.heap := hP
  have hl := lv_entry ([.ref w0]) (n := 1) (Nat.le_of_ble_eq_true rfl)
  rw [lg_entry_eq]
  generalize (lg_sl ([.ref w0]) ++ List.replicate (1 - (lg_sl ([.ref w0])).length) Slot.unset).toArray = ls at hl ⊢
  have hl : lv_has ls 1 [(0, .ref w0)] := hl
  have inX10 : ∀ w ∈ u_ws RX10 TX10 39, w ∈ wsX10_errorKind := by decide +kernel
  refine lv_aload_n hx hb dX10_errorKind_0 rfl (lv_at hl 0 rfl) ?_
  refine lv_iconst (v := 0) hx hb dX10_errorKind_1 (by decide) ?_
  refine va_put (D := D) (ci := 11) (v := .int 0) (ty := .int) (C := RX10) (T := TX10) (N := 39) hx hb hts inX10 tyX10 tyX10_ok nmX10 hown hK hP hD hS 0 rfl rfl 8 (by decide) (hts (.fieldLink RX10 80 "EscrowDeskModel" "thrown" "I") (by decide +kernel)) (fun _ h9 => h9) rfl (by decide +kernel) rfl rfl (Nat.le_of_ble_eq_true rfl) dX10_errorKind_2 (fun H locs hP hD hS => ?_)
  have hP : va_P D vwCl [(w0, .inr (11, [.ref v0, .ref v1, .ref v2, .ref v3, .ref v4, .long 0, .long 0, .int 0, .int 0, .ref v9, .int 0, .int 0, .int (-1), .ref v13, .int 0, .int 0, .int 0, .int 0, .int 0, .int 0, .int 0, .int 0, .int 0, .int 0, .int 0, .long 0, .int 0, .ref v27, .ref v28, .ref v29, .ref v30, .ref v31, .ref v32, .ref v33, .ref v34, .ref v35, .ref v36, .ref v37, .int 0])), (v0, .inl (cA 0, 326, .inl fs))] H := hP
  have hD : va_D A [(w0, .inr (11, [.ref v0, .ref v1, .ref v2, .ref v3, .ref v4, .long 0, .long 0, .int 0, .int 0, .ref v9, .int 0, .int 0, .int (-1), .ref v13, .int 0, .int 0, .int 0, .int 0, .int 0, .int 0, .int 0, .int 0, .int 0, .int 0, .int 0, .long 0, .int 0, .ref v27, .ref v28, .ref v29, .ref v30, .ref v31, .ref v32, .ref v33, .ref v34, .ref v35, .ref v36, .ref v37, .int 0])), (v0, .inl (cA 0, 326, .inl fs))] := hD
  refine lv_aload_n hx hb dX10_errorKind_5 rfl (lv_at hl 0 rfl) ?_
  refine va_get (D := D) (ci := 11) (v := .int 0) (C := RX10) (T := TX10) (N := 39) hx hb hts inX10 hown hK hP 0 rfl rfl 11 (by decide) (hts (.fieldLink RX10 255 "EscrowDeskModel" "errorKind" "I") (by decide +kernel)) (fun _ h9 => h9) rfl dX10_errorKind_6 ?_
  have hP9 := hP.sub (ws' := [(w0, .inr (11, [.ref v0, .ref v1, .ref v2, .ref v3, .ref v4, .long 0, .long 0, .int 0, .int 0, .ref v9, .int 0, .int 0, .int (-1), .ref v13, .int 0, .int 0, .int 0, .int 0, .int 0, .int 0, .int 0, .int 0, .int 0, .int 0, .int 0, .long 0, .int 0, .ref v27, .ref v28, .ref v29, .ref v30, .ref v31, .ref v32, .ref v33, .ref v34, .ref v35, .ref v36, .ref v37, .int 0]))]) [0] rfl
  have hD9 := hD.sub (ws' := [(w0, .inr (11, [.ref v0, .ref v1, .ref v2, .ref v3, .ref v4, .long 0, .long 0, .int 0, .int 0, .ref v9, .int 0, .int 0, .int (-1), .ref v13, .int 0, .int 0, .int 0, .int 0, .int 0, .int 0, .int 0, .int 0, .int 0, .int 0, .int 0, .long 0, .int 0, .ref v27, .ref v28, .ref v29, .ref v30, .ref v31, .ref v32, .ref v33, .ref v34, .ref v35, .ref v36, .ref v37, .int 0]))]) [0] (by decide) rfl
  refine W.widen (k := 0) (n := 0) (Nat.le_of_ble_eq_true rfl) (Nat.le_of_ble_eq_true rfl) ?_
  exact W.iret (v := 0) hx hb hr (fun t ht hW => ⟨⟨0, (), rfl, rfl, by rw [ht]; exact hP9, hD9⟩, hS.F ht⟩) hS.2.2 dX10_errorKind_9

set_option maxHeartbeats 4000000 in
set_option maxRecDepth 100000 in
/-- errorPosition -/
theorem c_m_errorPosition (l : Launch) (D : va_G) (cA : Nat → ClassId) (sa : Nat → Nat) (w0 v0 v1 v2 v3 v4 v9 v13 v27 v28 v29 v30 v31 v32 v33 v34 v35 v36 v37 : Nat) (th : Int32) (fs : Nat → Int32) (sz : Nat) (hz : Zs fs) : Met l yX10_errorPosition wsX10_errorPosition ({ frames := 0, cells := 0, slots := 0, locals := 0 }) (va_Pc [.ref w0] (Wd D cA sa [(w0, .inr (11, [.ref v0, .ref v1, .ref v2, .ref v3, .ref v4, .long 0, .long 0, .int 0, .int th, .ref v9, .int 0, .int 0, .int (-1), .ref v13, .int 0, .int 0, .int 0, .int 0, .int 0, .int 0, .int 0, .int 0, .int 0, .int 0, .int 0, .long 0, .int 0, .ref v27, .ref v28, .ref v29, .ref v30, .ref v31, .ref v32, .ref v33, .ref v34, .ref v35, .ref v36, .ref v37, .int 0])), (v0, .inl (cA 0, 326, .inl fs))] sz)) (va_Qi (fun (r : Int32) (_ : Unit) => r = (-1)) (fun (_ : Unit) t => Wq D (va_A [(w0, .inr (11, [.ref v0, .ref v1, .ref v2, .ref v3, .ref v4, .long 0, .long 0, .int 0, .int th, .ref v9, .int 0, .int 0, .int (-1), .ref v13, .int 0, .int 0, .int 0, .int 0, .int 0, .int 0, .int 0, .int 0, .int 0, .int 0, .int 0, .long 0, .int 0, .ref v27, .ref v28, .ref v29, .ref v30, .ref v31, .ref v32, .ref v33, .ref v34, .ref v35, .ref v36, .ref v37, .int 0])), (v0, .inl (cA 0, 326, .inl fs))] sz) [(w0, .inr (11, [.ref v0, .ref v1, .ref v2, .ref v3, .ref v4, .long 0, .long 0, .int 0, .int 0, .ref v9, .int 0, .int 0, .int (-1), .ref v13, .int 0, .int 0, .int 0, .int 0, .int 0, .int 0, .int 0, .int 0, .int 0, .int 0, .int 0, .long 0, .int 0, .ref v27, .ref v28, .ref v29, .ref v30, .ref v31, .ref v32, .ref v33, .ref v34, .ref v35, .ref v36, .ref v37, .int 0]))] t) (va_A [(w0, .inr (11, [.ref v0, .ref v1, .ref v2, .ref v3, .ref v4, .long 0, .long 0, .int 0, .int th, .ref v9, .int 0, .int 0, .int (-1), .ref v13, .int 0, .int 0, .int 0, .int 0, .int 0, .int 0, .int 0, .int 0, .int 0, .int 0, .int 0, .long 0, .int 0, .ref v27, .ref v28, .ref v29, .ref v30, .ref v31, .ref v32, .ref v33, .ref v34, .ref v35, .ref v36, .ref v37, .int 0])), (v0, .inl (cA 0, 326, .inl fs))] sz)) 0 0 (va_A [(w0, .inr (11, [.ref v0, .ref v1, .ref v2, .ref v3, .ref v4, .long 0, .long 0, .int 0, .int th, .ref v9, .int 0, .int 0, .int (-1), .ref v13, .int 0, .int 0, .int 0, .int 0, .int 0, .int 0, .int 0, .int 0, .int 0, .int 0, .int 0, .long 0, .int 0, .ref v27, .ref v28, .ref v29, .ref v30, .ref v31, .ref v32, .ref v33, .ref v34, .ref v35, .ref v36, .ref v37, .int 0])), (v0, .inl (cA 0, 326, .inl fs))] sz) := by
  refine Met.ofW (cc := cX10_errorPosition) (maxL := 1) (ret := (some .int)) (by decide) rfl ?_
  intro p e s m args below meth c s₁ B hml hv
  obtain ⟨rfl, hsz, hP, hK, hD0, hC, hZ⟩ := hv
  have hx := B.exec
  have hb := B.bytes
  have hr := B.returns
  have hts := atoms_spec (ws := wsX10_errorPosition) B.pre
  have hown : s.vm.findClass RX10 = some m.cls := findClass_of_methodNamed B.named
  have hlocks := B.notSynchronized
  subst hsz
  have hD := hD0.self (sz := s.heap.size)
  generalize hAe : va_A [(w0, .inr (11, [.ref v0, .ref v1, .ref v2, .ref v3, .ref v4, .long 0, .long 0, .int 0, .int th, .ref v9, .int 0, .int 0, .int (-1), .ref v13, .int 0, .int 0, .int 0, .int 0, .int 0, .int 0, .int 0, .int 0, .int 0, .int 0, .int 0, .long 0, .int 0, .ref v27, .ref v28, .ref v29, .ref v30, .ref v31, .ref v32, .ref v33, .ref v34, .ref v35, .ref v36, .ref v37, .int 0])), (v0, .inl (cA 0, 326, .inl fs))] s.heap.size = A at hD hZ ⊢
  have hA : ∀ q : Nat, s.heap.size ≤ q → A q := fun q h => by rw [← hAe]; exact Or.inr h
  have hS : va_S A s.heap s.heap [] := va_S.rf
  have hP : va_P D vwCl [(w0, .inr (11, [.ref v0, .ref v1, .ref v2, .ref v3, .ref v4, .long 0, .long 0, .int 0, .int th, .ref v9, .int 0, .int 0, .int (-1), .ref v13, .int 0, .int 0, .int 0, .int 0, .int 0, .int 0, .int 0, .int 0, .int 0, .int 0, .int 0, .long 0, .int 0, .ref v27, .ref v28, .ref v29, .ref v30, .ref v31, .ref v32, .ref v33, .ref v34, .ref v35, .ref v36, .ref v37, .int 0])), (v0, .inl (cA 0, 326, .inl fs))] s.heap := hP
  have hl := lv_entry ([.ref w0]) (n := 1) (Nat.le_of_ble_eq_true rfl)
  rw [lg_entry_eq]
  generalize (lg_sl ([.ref w0]) ++ List.replicate (1 - (lg_sl ([.ref w0])).length) Slot.unset).toArray = ls at hl ⊢
  have hl : lv_has ls 1 [(0, .ref w0)] := hl
  have inX10 : ∀ w ∈ u_ws RX10 TX10 39, w ∈ wsX10_errorPosition := by decide +kernel
  refine lv_aload_n hx hb dX10_errorPosition_0 rfl (lv_at hl 0 rfl) ?_
  refine lv_iconst (v := 0) hx hb dX10_errorPosition_1 (by decide) ?_
  refine va_put (D := D) (ci := 11) (v := .int 0) (ty := .int) (C := RX10) (T := TX10) (N := 39) hx hb hts inX10 tyX10 tyX10_ok nmX10 hown hK hP hD hS 0 rfl rfl 8 (by decide) (hts (.fieldLink RX10 80 "EscrowDeskModel" "thrown" "I") (by decide +kernel)) (fun _ h9 => h9) rfl (by decide +kernel) rfl rfl (Nat.le_of_ble_eq_true rfl) dX10_errorPosition_2 (fun H locs hP hD hS => ?_)
  have hP : va_P D vwCl [(w0, .inr (11, [.ref v0, .ref v1, .ref v2, .ref v3, .ref v4, .long 0, .long 0, .int 0, .int 0, .ref v9, .int 0, .int 0, .int (-1), .ref v13, .int 0, .int 0, .int 0, .int 0, .int 0, .int 0, .int 0, .int 0, .int 0, .int 0, .int 0, .long 0, .int 0, .ref v27, .ref v28, .ref v29, .ref v30, .ref v31, .ref v32, .ref v33, .ref v34, .ref v35, .ref v36, .ref v37, .int 0])), (v0, .inl (cA 0, 326, .inl fs))] H := hP
  have hD : va_D A [(w0, .inr (11, [.ref v0, .ref v1, .ref v2, .ref v3, .ref v4, .long 0, .long 0, .int 0, .int 0, .ref v9, .int 0, .int 0, .int (-1), .ref v13, .int 0, .int 0, .int 0, .int 0, .int 0, .int 0, .int 0, .int 0, .int 0, .int 0, .int 0, .long 0, .int 0, .ref v27, .ref v28, .ref v29, .ref v30, .ref v31, .ref v32, .ref v33, .ref v34, .ref v35, .ref v36, .ref v37, .int 0])), (v0, .inl (cA 0, 326, .inl fs))] := hD
  refine lv_aload_n hx hb dX10_errorPosition_5 rfl (lv_at hl 0 rfl) ?_
  refine va_get (D := D) (ci := 11) (v := .int (-1)) (C := RX10) (T := TX10) (N := 39) hx hb hts inX10 hown hK hP 0 rfl rfl 12 (by decide) (hts (.fieldLink RX10 29 "EscrowDeskModel" "errorPosition" "I") (by decide +kernel)) (fun _ h9 => h9) rfl dX10_errorPosition_6 ?_
  have hP9 := hP.sub (ws' := [(w0, .inr (11, [.ref v0, .ref v1, .ref v2, .ref v3, .ref v4, .long 0, .long 0, .int 0, .int 0, .ref v9, .int 0, .int 0, .int (-1), .ref v13, .int 0, .int 0, .int 0, .int 0, .int 0, .int 0, .int 0, .int 0, .int 0, .int 0, .int 0, .long 0, .int 0, .ref v27, .ref v28, .ref v29, .ref v30, .ref v31, .ref v32, .ref v33, .ref v34, .ref v35, .ref v36, .ref v37, .int 0]))]) [0] rfl
  have hD9 := hD.sub (ws' := [(w0, .inr (11, [.ref v0, .ref v1, .ref v2, .ref v3, .ref v4, .long 0, .long 0, .int 0, .int 0, .ref v9, .int 0, .int 0, .int (-1), .ref v13, .int 0, .int 0, .int 0, .int 0, .int 0, .int 0, .int 0, .int 0, .int 0, .int 0, .int 0, .long 0, .int 0, .ref v27, .ref v28, .ref v29, .ref v30, .ref v31, .ref v32, .ref v33, .ref v34, .ref v35, .ref v36, .ref v37, .int 0]))]) [0] (by decide) rfl
  refine W.widen (k := 0) (n := 0) (Nat.le_of_ble_eq_true rfl) (Nat.le_of_ble_eq_true rfl) ?_
  exact W.iret (v := (-1)) hx hb hr (fun t ht hW => ⟨⟨(-1), (), rfl, rfl, by rw [ht]; exact hP9, hD9⟩, hS.F ht⟩) hS.2.2 dX10_errorPosition_9

set_option maxHeartbeats 4000000 in
set_option maxRecDepth 100000 in
/-- day -/
theorem c_m_day (l : Launch) (D : va_G) (cA : Nat → ClassId) (sa : Nat → Nat) (w0 v0 v1 v2 v3 v4 v9 v13 v27 v28 v29 v30 v31 v32 v33 v34 v35 v36 v37 : Nat) (th : Int32) (fs : Nat → Int32) (sz : Nat) (hz : Zs fs) : Met l yX10_day wsX10_day ({ frames := 0, cells := 0, slots := 0, locals := 0 }) (va_Pc [.ref w0] (Wd D cA sa [(w0, .inr (11, [.ref v0, .ref v1, .ref v2, .ref v3, .ref v4, .long 0, .long 0, .int 0, .int th, .ref v9, .int 0, .int 0, .int (-1), .ref v13, .int 0, .int 0, .int 0, .int 0, .int 0, .int 0, .int 0, .int 0, .int 0, .int 0, .int 0, .long 0, .int 0, .ref v27, .ref v28, .ref v29, .ref v30, .ref v31, .ref v32, .ref v33, .ref v34, .ref v35, .ref v36, .ref v37, .int 0])), (v0, .inl (cA 0, 326, .inl fs))] sz)) (va_Qi (fun (r : Int32) (_ : Unit) => r = 0) (fun (_ : Unit) t => Wq D (va_A [(w0, .inr (11, [.ref v0, .ref v1, .ref v2, .ref v3, .ref v4, .long 0, .long 0, .int 0, .int th, .ref v9, .int 0, .int 0, .int (-1), .ref v13, .int 0, .int 0, .int 0, .int 0, .int 0, .int 0, .int 0, .int 0, .int 0, .int 0, .int 0, .long 0, .int 0, .ref v27, .ref v28, .ref v29, .ref v30, .ref v31, .ref v32, .ref v33, .ref v34, .ref v35, .ref v36, .ref v37, .int 0])), (v0, .inl (cA 0, 326, .inl fs))] sz) [(w0, .inr (11, [.ref v0, .ref v1, .ref v2, .ref v3, .ref v4, .long 0, .long 0, .int 0, .int 0, .ref v9, .int 0, .int 0, .int (-1), .ref v13, .int 0, .int 0, .int 0, .int 0, .int 0, .int 0, .int 0, .int 0, .int 0, .int 0, .int 0, .long 0, .int 0, .ref v27, .ref v28, .ref v29, .ref v30, .ref v31, .ref v32, .ref v33, .ref v34, .ref v35, .ref v36, .ref v37, .int 0]))] t) (va_A [(w0, .inr (11, [.ref v0, .ref v1, .ref v2, .ref v3, .ref v4, .long 0, .long 0, .int 0, .int th, .ref v9, .int 0, .int 0, .int (-1), .ref v13, .int 0, .int 0, .int 0, .int 0, .int 0, .int 0, .int 0, .int 0, .int 0, .int 0, .int 0, .long 0, .int 0, .ref v27, .ref v28, .ref v29, .ref v30, .ref v31, .ref v32, .ref v33, .ref v34, .ref v35, .ref v36, .ref v37, .int 0])), (v0, .inl (cA 0, 326, .inl fs))] sz)) 0 0 (va_A [(w0, .inr (11, [.ref v0, .ref v1, .ref v2, .ref v3, .ref v4, .long 0, .long 0, .int 0, .int th, .ref v9, .int 0, .int 0, .int (-1), .ref v13, .int 0, .int 0, .int 0, .int 0, .int 0, .int 0, .int 0, .int 0, .int 0, .int 0, .int 0, .long 0, .int 0, .ref v27, .ref v28, .ref v29, .ref v30, .ref v31, .ref v32, .ref v33, .ref v34, .ref v35, .ref v36, .ref v37, .int 0])), (v0, .inl (cA 0, 326, .inl fs))] sz) := by
  refine Met.ofW (cc := cX10_day) (maxL := 1) (ret := (some .int)) (by decide) rfl ?_
  intro p e s m args below meth c s₁ B hml hv
  obtain ⟨rfl, hsz, hP, hK, hD0, hC, hZ⟩ := hv
  have hx := B.exec
  have hb := B.bytes
  have hr := B.returns
  have hts := atoms_spec (ws := wsX10_day) B.pre
  have hown : s.vm.findClass RX10 = some m.cls := findClass_of_methodNamed B.named
  have hlocks := B.notSynchronized
  subst hsz
  have hD := hD0.self (sz := s.heap.size)
  generalize hAe : va_A [(w0, .inr (11, [.ref v0, .ref v1, .ref v2, .ref v3, .ref v4, .long 0, .long 0, .int 0, .int th, .ref v9, .int 0, .int 0, .int (-1), .ref v13, .int 0, .int 0, .int 0, .int 0, .int 0, .int 0, .int 0, .int 0, .int 0, .int 0, .int 0, .long 0, .int 0, .ref v27, .ref v28, .ref v29, .ref v30, .ref v31, .ref v32, .ref v33, .ref v34, .ref v35, .ref v36, .ref v37, .int 0])), (v0, .inl (cA 0, 326, .inl fs))] s.heap.size = A at hD hZ ⊢
  have hA : ∀ q : Nat, s.heap.size ≤ q → A q := fun q h => by rw [← hAe]; exact Or.inr h
  have hS : va_S A s.heap s.heap [] := va_S.rf
  have hP : va_P D vwCl [(w0, .inr (11, [.ref v0, .ref v1, .ref v2, .ref v3, .ref v4, .long 0, .long 0, .int 0, .int th, .ref v9, .int 0, .int 0, .int (-1), .ref v13, .int 0, .int 0, .int 0, .int 0, .int 0, .int 0, .int 0, .int 0, .int 0, .int 0, .int 0, .long 0, .int 0, .ref v27, .ref v28, .ref v29, .ref v30, .ref v31, .ref v32, .ref v33, .ref v34, .ref v35, .ref v36, .ref v37, .int 0])), (v0, .inl (cA 0, 326, .inl fs))] s.heap := hP
  have hl := lv_entry ([.ref w0]) (n := 1) (Nat.le_of_ble_eq_true rfl)
  rw [lg_entry_eq]
  generalize (lg_sl ([.ref w0]) ++ List.replicate (1 - (lg_sl ([.ref w0])).length) Slot.unset).toArray = ls at hl ⊢
  have hl : lv_has ls 1 [(0, .ref w0)] := hl
  have inX10 : ∀ w ∈ u_ws RX10 TX10 39, w ∈ wsX10_day := by decide +kernel
  refine lv_aload_n hx hb dX10_day_0 rfl (lv_at hl 0 rfl) ?_
  refine lv_iconst (v := 0) hx hb dX10_day_1 (by decide) ?_
  refine va_put (D := D) (ci := 11) (v := .int 0) (ty := .int) (C := RX10) (T := TX10) (N := 39) hx hb hts inX10 tyX10 tyX10_ok nmX10 hown hK hP hD hS 0 rfl rfl 8 (by decide) (hts (.fieldLink RX10 80 "EscrowDeskModel" "thrown" "I") (by decide +kernel)) (fun _ h9 => h9) rfl (by decide +kernel) rfl rfl (Nat.le_of_ble_eq_true rfl) dX10_day_2 (fun H locs hP hD hS => ?_)
  have hP : va_P D vwCl [(w0, .inr (11, [.ref v0, .ref v1, .ref v2, .ref v3, .ref v4, .long 0, .long 0, .int 0, .int 0, .ref v9, .int 0, .int 0, .int (-1), .ref v13, .int 0, .int 0, .int 0, .int 0, .int 0, .int 0, .int 0, .int 0, .int 0, .int 0, .int 0, .long 0, .int 0, .ref v27, .ref v28, .ref v29, .ref v30, .ref v31, .ref v32, .ref v33, .ref v34, .ref v35, .ref v36, .ref v37, .int 0])), (v0, .inl (cA 0, 326, .inl fs))] H := hP
  have hD : va_D A [(w0, .inr (11, [.ref v0, .ref v1, .ref v2, .ref v3, .ref v4, .long 0, .long 0, .int 0, .int 0, .ref v9, .int 0, .int 0, .int (-1), .ref v13, .int 0, .int 0, .int 0, .int 0, .int 0, .int 0, .int 0, .int 0, .int 0, .int 0, .int 0, .long 0, .int 0, .ref v27, .ref v28, .ref v29, .ref v30, .ref v31, .ref v32, .ref v33, .ref v34, .ref v35, .ref v36, .ref v37, .int 0])), (v0, .inl (cA 0, 326, .inl fs))] := hD
  refine lv_aload_n hx hb dX10_day_5 rfl (lv_at hl 0 rfl) ?_
  refine va_get (D := D) (ci := 11) (v := .ref v0) (C := RX10) (T := TX10) (N := 39) hx hb hts inX10 hown hK hP 0 rfl rfl 0 (by decide) (hts (.fieldLink RX10 7 "EscrowDeskModel" "s" "[I") (by decide +kernel)) (fun _ h9 => h9) rfl dX10_day_6 ?_
  refine lv_iconst (v := 4) hx hb dX10_day_9 (by decide) ?_
  refine va_iald hx hb hK hP 1 0 rfl rfl (vp_in_iff.mpr (by decide)) dX10_day_10 ?_
  refine lv_topi (fun yn1 eyn1 => ?_)
  obtain rfl : yn1 = 0 := eyn1.trans (hz.2 4 (by decide) (by decide))
  have hP9 := hP.sub (ws' := [(w0, .inr (11, [.ref v0, .ref v1, .ref v2, .ref v3, .ref v4, .long 0, .long 0, .int 0, .int 0, .ref v9, .int 0, .int 0, .int (-1), .ref v13, .int 0, .int 0, .int 0, .int 0, .int 0, .int 0, .int 0, .int 0, .int 0, .int 0, .int 0, .long 0, .int 0, .ref v27, .ref v28, .ref v29, .ref v30, .ref v31, .ref v32, .ref v33, .ref v34, .ref v35, .ref v36, .ref v37, .int 0]))]) [0] rfl
  have hD9 := hD.sub (ws' := [(w0, .inr (11, [.ref v0, .ref v1, .ref v2, .ref v3, .ref v4, .long 0, .long 0, .int 0, .int 0, .ref v9, .int 0, .int 0, .int (-1), .ref v13, .int 0, .int 0, .int 0, .int 0, .int 0, .int 0, .int 0, .int 0, .int 0, .int 0, .int 0, .long 0, .int 0, .ref v27, .ref v28, .ref v29, .ref v30, .ref v31, .ref v32, .ref v33, .ref v34, .ref v35, .ref v36, .ref v37, .int 0]))]) [0] (by decide) rfl
  refine W.widen (k := 0) (n := 0) (Nat.le_of_ble_eq_true rfl) (Nat.le_of_ble_eq_true rfl) ?_
  exact W.iret (v := 0) hx hb hr (fun t ht hW => ⟨⟨0, (), rfl, rfl, by rw [ht]; exact hP9, hD9⟩, hS.F ht⟩) hS.2.2 dX10_day_11

set_option maxHeartbeats 4000000 in
set_option maxRecDepth 100000 in
/-- deposited -/
theorem c_m_deposited (l : Launch) (D : va_G) (cA : Nat → ClassId) (sa : Nat → Nat) (w0 v0 v1 v2 v3 v4 v9 v13 v27 v28 v29 v30 v31 v32 v33 v34 v35 v36 v37 : Nat) (th : Int32) (fs : Nat → Int32) (sz : Nat) (hz : Zs fs) : Met l yX10_deposited wsX10_deposited ({ frames := 0, cells := 0, slots := 0, locals := 0 }) (va_Pc [.ref w0] (Wd D cA sa [(w0, .inr (11, [.ref v0, .ref v1, .ref v2, .ref v3, .ref v4, .long 0, .long 0, .int 0, .int th, .ref v9, .int 0, .int 0, .int (-1), .ref v13, .int 0, .int 0, .int 0, .int 0, .int 0, .int 0, .int 0, .int 0, .int 0, .int 0, .int 0, .long 0, .int 0, .ref v27, .ref v28, .ref v29, .ref v30, .ref v31, .ref v32, .ref v33, .ref v34, .ref v35, .ref v36, .ref v37, .int 0])), (v0, .inl (cA 0, 326, .inl fs))] sz)) (va_Qi (fun (r : Int32) (_ : Unit) => r = 0) (fun (_ : Unit) t => Wq D (va_A [(w0, .inr (11, [.ref v0, .ref v1, .ref v2, .ref v3, .ref v4, .long 0, .long 0, .int 0, .int th, .ref v9, .int 0, .int 0, .int (-1), .ref v13, .int 0, .int 0, .int 0, .int 0, .int 0, .int 0, .int 0, .int 0, .int 0, .int 0, .int 0, .long 0, .int 0, .ref v27, .ref v28, .ref v29, .ref v30, .ref v31, .ref v32, .ref v33, .ref v34, .ref v35, .ref v36, .ref v37, .int 0])), (v0, .inl (cA 0, 326, .inl fs))] sz) [(w0, .inr (11, [.ref v0, .ref v1, .ref v2, .ref v3, .ref v4, .long 0, .long 0, .int 0, .int 0, .ref v9, .int 0, .int 0, .int (-1), .ref v13, .int 0, .int 0, .int 0, .int 0, .int 0, .int 0, .int 0, .int 0, .int 0, .int 0, .int 0, .long 0, .int 0, .ref v27, .ref v28, .ref v29, .ref v30, .ref v31, .ref v32, .ref v33, .ref v34, .ref v35, .ref v36, .ref v37, .int 0]))] t) (va_A [(w0, .inr (11, [.ref v0, .ref v1, .ref v2, .ref v3, .ref v4, .long 0, .long 0, .int 0, .int th, .ref v9, .int 0, .int 0, .int (-1), .ref v13, .int 0, .int 0, .int 0, .int 0, .int 0, .int 0, .int 0, .int 0, .int 0, .int 0, .int 0, .long 0, .int 0, .ref v27, .ref v28, .ref v29, .ref v30, .ref v31, .ref v32, .ref v33, .ref v34, .ref v35, .ref v36, .ref v37, .int 0])), (v0, .inl (cA 0, 326, .inl fs))] sz)) 0 0 (va_A [(w0, .inr (11, [.ref v0, .ref v1, .ref v2, .ref v3, .ref v4, .long 0, .long 0, .int 0, .int th, .ref v9, .int 0, .int 0, .int (-1), .ref v13, .int 0, .int 0, .int 0, .int 0, .int 0, .int 0, .int 0, .int 0, .int 0, .int 0, .int 0, .long 0, .int 0, .ref v27, .ref v28, .ref v29, .ref v30, .ref v31, .ref v32, .ref v33, .ref v34, .ref v35, .ref v36, .ref v37, .int 0])), (v0, .inl (cA 0, 326, .inl fs))] sz) := by
  refine Met.ofW (cc := cX10_deposited) (maxL := 1) (ret := (some .int)) (by decide) rfl ?_
  intro p e s m args below meth c s₁ B hml hv
  obtain ⟨rfl, hsz, hP, hK, hD0, hC, hZ⟩ := hv
  have hx := B.exec
  have hb := B.bytes
  have hr := B.returns
  have hts := atoms_spec (ws := wsX10_deposited) B.pre
  have hown : s.vm.findClass RX10 = some m.cls := findClass_of_methodNamed B.named
  have hlocks := B.notSynchronized
  subst hsz
  have hD := hD0.self (sz := s.heap.size)
  generalize hAe : va_A [(w0, .inr (11, [.ref v0, .ref v1, .ref v2, .ref v3, .ref v4, .long 0, .long 0, .int 0, .int th, .ref v9, .int 0, .int 0, .int (-1), .ref v13, .int 0, .int 0, .int 0, .int 0, .int 0, .int 0, .int 0, .int 0, .int 0, .int 0, .int 0, .long 0, .int 0, .ref v27, .ref v28, .ref v29, .ref v30, .ref v31, .ref v32, .ref v33, .ref v34, .ref v35, .ref v36, .ref v37, .int 0])), (v0, .inl (cA 0, 326, .inl fs))] s.heap.size = A at hD hZ ⊢
  have hA : ∀ q : Nat, s.heap.size ≤ q → A q := fun q h => by rw [← hAe]; exact Or.inr h
  have hS : va_S A s.heap s.heap [] := va_S.rf
  have hP : va_P D vwCl [(w0, .inr (11, [.ref v0, .ref v1, .ref v2, .ref v3, .ref v4, .long 0, .long 0, .int 0, .int th, .ref v9, .int 0, .int 0, .int (-1), .ref v13, .int 0, .int 0, .int 0, .int 0, .int 0, .int 0, .int 0, .int 0, .int 0, .int 0, .int 0, .long 0, .int 0, .ref v27, .ref v28, .ref v29, .ref v30, .ref v31, .ref v32, .ref v33, .ref v34, .ref v35, .ref v36, .ref v37, .int 0])), (v0, .inl (cA 0, 326, .inl fs))] s.heap := hP
  have hl := lv_entry ([.ref w0]) (n := 1) (Nat.le_of_ble_eq_true rfl)
  rw [lg_entry_eq]
  generalize (lg_sl ([.ref w0]) ++ List.replicate (1 - (lg_sl ([.ref w0])).length) Slot.unset).toArray = ls at hl ⊢
  have hl : lv_has ls 1 [(0, .ref w0)] := hl
  have inX10 : ∀ w ∈ u_ws RX10 TX10 39, w ∈ wsX10_deposited := by decide +kernel
  refine lv_aload_n hx hb dX10_deposited_0 rfl (lv_at hl 0 rfl) ?_
  refine lv_iconst (v := 0) hx hb dX10_deposited_1 (by decide) ?_
  refine va_put (D := D) (ci := 11) (v := .int 0) (ty := .int) (C := RX10) (T := TX10) (N := 39) hx hb hts inX10 tyX10 tyX10_ok nmX10 hown hK hP hD hS 0 rfl rfl 8 (by decide) (hts (.fieldLink RX10 80 "EscrowDeskModel" "thrown" "I") (by decide +kernel)) (fun _ h9 => h9) rfl (by decide +kernel) rfl rfl (Nat.le_of_ble_eq_true rfl) dX10_deposited_2 (fun H locs hP hD hS => ?_)
  have hP : va_P D vwCl [(w0, .inr (11, [.ref v0, .ref v1, .ref v2, .ref v3, .ref v4, .long 0, .long 0, .int 0, .int 0, .ref v9, .int 0, .int 0, .int (-1), .ref v13, .int 0, .int 0, .int 0, .int 0, .int 0, .int 0, .int 0, .int 0, .int 0, .int 0, .int 0, .long 0, .int 0, .ref v27, .ref v28, .ref v29, .ref v30, .ref v31, .ref v32, .ref v33, .ref v34, .ref v35, .ref v36, .ref v37, .int 0])), (v0, .inl (cA 0, 326, .inl fs))] H := hP
  have hD : va_D A [(w0, .inr (11, [.ref v0, .ref v1, .ref v2, .ref v3, .ref v4, .long 0, .long 0, .int 0, .int 0, .ref v9, .int 0, .int 0, .int (-1), .ref v13, .int 0, .int 0, .int 0, .int 0, .int 0, .int 0, .int 0, .int 0, .int 0, .int 0, .int 0, .long 0, .int 0, .ref v27, .ref v28, .ref v29, .ref v30, .ref v31, .ref v32, .ref v33, .ref v34, .ref v35, .ref v36, .ref v37, .int 0])), (v0, .inl (cA 0, 326, .inl fs))] := hD
  refine lv_aload_n hx hb dX10_deposited_5 rfl (lv_at hl 0 rfl) ?_
  refine va_get (D := D) (ci := 11) (v := .ref v0) (C := RX10) (T := TX10) (N := 39) hx hb hts inX10 hown hK hP 0 rfl rfl 0 (by decide) (hts (.fieldLink RX10 7 "EscrowDeskModel" "s" "[I") (by decide +kernel)) (fun _ h9 => h9) rfl dX10_deposited_6 ?_
  refine lv_iconst (v := 5) hx hb dX10_deposited_9 (by decide) ?_
  refine va_iald hx hb hK hP 1 0 rfl rfl (vp_in_iff.mpr (by decide)) dX10_deposited_10 ?_
  refine lv_topi (fun yn1 eyn1 => ?_)
  obtain rfl : yn1 = 0 := eyn1.trans (hz.2 5 (by decide) (by decide))
  have hP9 := hP.sub (ws' := [(w0, .inr (11, [.ref v0, .ref v1, .ref v2, .ref v3, .ref v4, .long 0, .long 0, .int 0, .int 0, .ref v9, .int 0, .int 0, .int (-1), .ref v13, .int 0, .int 0, .int 0, .int 0, .int 0, .int 0, .int 0, .int 0, .int 0, .int 0, .int 0, .long 0, .int 0, .ref v27, .ref v28, .ref v29, .ref v30, .ref v31, .ref v32, .ref v33, .ref v34, .ref v35, .ref v36, .ref v37, .int 0]))]) [0] rfl
  have hD9 := hD.sub (ws' := [(w0, .inr (11, [.ref v0, .ref v1, .ref v2, .ref v3, .ref v4, .long 0, .long 0, .int 0, .int 0, .ref v9, .int 0, .int 0, .int (-1), .ref v13, .int 0, .int 0, .int 0, .int 0, .int 0, .int 0, .int 0, .int 0, .int 0, .int 0, .int 0, .long 0, .int 0, .ref v27, .ref v28, .ref v29, .ref v30, .ref v31, .ref v32, .ref v33, .ref v34, .ref v35, .ref v36, .ref v37, .int 0]))]) [0] (by decide) rfl
  refine W.widen (k := 0) (n := 0) (Nat.le_of_ble_eq_true rfl) (Nat.le_of_ble_eq_true rfl) ?_
  exact W.iret (v := 0) hx hb hr (fun t ht hW => ⟨⟨0, (), rfl, rfl, by rw [ht]; exact hP9, hD9⟩, hS.F ht⟩) hS.2.2 dX10_deposited_11

set_option maxHeartbeats 4000000 in
set_option maxRecDepth 100000 in
/-- principal -/
theorem c_m_principal (l : Launch) (D : va_G) (cA : Nat → ClassId) (sa : Nat → Nat) (w0 v0 v1 v2 v3 v4 v9 v13 v27 v28 v29 v30 v31 v32 v33 v34 v35 v36 v37 : Nat) (th : Int32) (fs : Nat → Int32) (sz : Nat) (hz : Zs fs) : Met l yX10_principal wsX10_principal ({ frames := 0, cells := 0, slots := 0, locals := 0 }) (va_Pc [.ref w0] (Wd D cA sa [(w0, .inr (11, [.ref v0, .ref v1, .ref v2, .ref v3, .ref v4, .long 0, .long 0, .int 0, .int th, .ref v9, .int 0, .int 0, .int (-1), .ref v13, .int 0, .int 0, .int 0, .int 0, .int 0, .int 0, .int 0, .int 0, .int 0, .int 0, .int 0, .long 0, .int 0, .ref v27, .ref v28, .ref v29, .ref v30, .ref v31, .ref v32, .ref v33, .ref v34, .ref v35, .ref v36, .ref v37, .int 0])), (v0, .inl (cA 0, 326, .inl fs))] sz)) (va_Qi (fun (r : Int32) (_ : Unit) => r = 0) (fun (_ : Unit) t => Wq D (va_A [(w0, .inr (11, [.ref v0, .ref v1, .ref v2, .ref v3, .ref v4, .long 0, .long 0, .int 0, .int th, .ref v9, .int 0, .int 0, .int (-1), .ref v13, .int 0, .int 0, .int 0, .int 0, .int 0, .int 0, .int 0, .int 0, .int 0, .int 0, .int 0, .long 0, .int 0, .ref v27, .ref v28, .ref v29, .ref v30, .ref v31, .ref v32, .ref v33, .ref v34, .ref v35, .ref v36, .ref v37, .int 0])), (v0, .inl (cA 0, 326, .inl fs))] sz) [(w0, .inr (11, [.ref v0, .ref v1, .ref v2, .ref v3, .ref v4, .long 0, .long 0, .int 0, .int 0, .ref v9, .int 0, .int 0, .int (-1), .ref v13, .int 0, .int 0, .int 0, .int 0, .int 0, .int 0, .int 0, .int 0, .int 0, .int 0, .int 0, .long 0, .int 0, .ref v27, .ref v28, .ref v29, .ref v30, .ref v31, .ref v32, .ref v33, .ref v34, .ref v35, .ref v36, .ref v37, .int 0]))] t) (va_A [(w0, .inr (11, [.ref v0, .ref v1, .ref v2, .ref v3, .ref v4, .long 0, .long 0, .int 0, .int th, .ref v9, .int 0, .int 0, .int (-1), .ref v13, .int 0, .int 0, .int 0, .int 0, .int 0, .int 0, .int 0, .int 0, .int 0, .int 0, .int 0, .long 0, .int 0, .ref v27, .ref v28, .ref v29, .ref v30, .ref v31, .ref v32, .ref v33, .ref v34, .ref v35, .ref v36, .ref v37, .int 0])), (v0, .inl (cA 0, 326, .inl fs))] sz)) 0 0 (va_A [(w0, .inr (11, [.ref v0, .ref v1, .ref v2, .ref v3, .ref v4, .long 0, .long 0, .int 0, .int th, .ref v9, .int 0, .int 0, .int (-1), .ref v13, .int 0, .int 0, .int 0, .int 0, .int 0, .int 0, .int 0, .int 0, .int 0, .int 0, .int 0, .long 0, .int 0, .ref v27, .ref v28, .ref v29, .ref v30, .ref v31, .ref v32, .ref v33, .ref v34, .ref v35, .ref v36, .ref v37, .int 0])), (v0, .inl (cA 0, 326, .inl fs))] sz) := by
  refine Met.ofW (cc := cX10_principal) (maxL := 1) (ret := (some .int)) (by decide) rfl ?_
  intro p e s m args below meth c s₁ B hml hv
  obtain ⟨rfl, hsz, hP, hK, hD0, hC, hZ⟩ := hv
  have hx := B.exec
  have hb := B.bytes
  have hr := B.returns
  have hts := atoms_spec (ws := wsX10_principal) B.pre
  have hown : s.vm.findClass RX10 = some m.cls := findClass_of_methodNamed B.named
  have hlocks := B.notSynchronized
  subst hsz
  have hD := hD0.self (sz := s.heap.size)
  generalize hAe : va_A [(w0, .inr (11, [.ref v0, .ref v1, .ref v2, .ref v3, .ref v4, .long 0, .long 0, .int 0, .int th, .ref v9, .int 0, .int 0, .int (-1), .ref v13, .int 0, .int 0, .int 0, .int 0, .int 0, .int 0, .int 0, .int 0, .int 0, .int 0, .int 0, .long 0, .int 0, .ref v27, .ref v28, .ref v29, .ref v30, .ref v31, .ref v32, .ref v33, .ref v34, .ref v35, .ref v36, .ref v37, .int 0])), (v0, .inl (cA 0, 326, .inl fs))] s.heap.size = A at hD hZ ⊢
  have hA : ∀ q : Nat, s.heap.size ≤ q → A q := fun q h => by rw [← hAe]; exact Or.inr h
  have hS : va_S A s.heap s.heap [] := va_S.rf
  have hP : va_P D vwCl [(w0, .inr (11, [.ref v0, .ref v1, .ref v2, .ref v3, .ref v4, .long 0, .long 0, .int 0, .int th, .ref v9, .int 0, .int 0, .int (-1), .ref v13, .int 0, .int 0, .int 0, .int 0, .int 0, .int 0, .int 0, .int 0, .int 0, .int 0, .int 0, .long 0, .int 0, .ref v27, .ref v28, .ref v29, .ref v30, .ref v31, .ref v32, .ref v33, .ref v34, .ref v35, .ref v36, .ref v37, .int 0])), (v0, .inl (cA 0, 326, .inl fs))] s.heap := hP
  have hl := lv_entry ([.ref w0]) (n := 1) (Nat.le_of_ble_eq_true rfl)
  rw [lg_entry_eq]
  generalize (lg_sl ([.ref w0]) ++ List.replicate (1 - (lg_sl ([.ref w0])).length) Slot.unset).toArray = ls at hl ⊢
  have hl : lv_has ls 1 [(0, .ref w0)] := hl
  have inX10 : ∀ w ∈ u_ws RX10 TX10 39, w ∈ wsX10_principal := by decide +kernel
  refine lv_aload_n hx hb dX10_principal_0 rfl (lv_at hl 0 rfl) ?_
  refine lv_iconst (v := 0) hx hb dX10_principal_1 (by decide) ?_
  refine va_put (D := D) (ci := 11) (v := .int 0) (ty := .int) (C := RX10) (T := TX10) (N := 39) hx hb hts inX10 tyX10 tyX10_ok nmX10 hown hK hP hD hS 0 rfl rfl 8 (by decide) (hts (.fieldLink RX10 80 "EscrowDeskModel" "thrown" "I") (by decide +kernel)) (fun _ h9 => h9) rfl (by decide +kernel) rfl rfl (Nat.le_of_ble_eq_true rfl) dX10_principal_2 (fun H locs hP hD hS => ?_)
  have hP : va_P D vwCl [(w0, .inr (11, [.ref v0, .ref v1, .ref v2, .ref v3, .ref v4, .long 0, .long 0, .int 0, .int 0, .ref v9, .int 0, .int 0, .int (-1), .ref v13, .int 0, .int 0, .int 0, .int 0, .int 0, .int 0, .int 0, .int 0, .int 0, .int 0, .int 0, .long 0, .int 0, .ref v27, .ref v28, .ref v29, .ref v30, .ref v31, .ref v32, .ref v33, .ref v34, .ref v35, .ref v36, .ref v37, .int 0])), (v0, .inl (cA 0, 326, .inl fs))] H := hP
  have hD : va_D A [(w0, .inr (11, [.ref v0, .ref v1, .ref v2, .ref v3, .ref v4, .long 0, .long 0, .int 0, .int 0, .ref v9, .int 0, .int 0, .int (-1), .ref v13, .int 0, .int 0, .int 0, .int 0, .int 0, .int 0, .int 0, .int 0, .int 0, .int 0, .int 0, .long 0, .int 0, .ref v27, .ref v28, .ref v29, .ref v30, .ref v31, .ref v32, .ref v33, .ref v34, .ref v35, .ref v36, .ref v37, .int 0])), (v0, .inl (cA 0, 326, .inl fs))] := hD
  refine lv_aload_n hx hb dX10_principal_5 rfl (lv_at hl 0 rfl) ?_
  refine va_get (D := D) (ci := 11) (v := .ref v0) (C := RX10) (T := TX10) (N := 39) hx hb hts inX10 hown hK hP 0 rfl rfl 0 (by decide) (hts (.fieldLink RX10 7 "EscrowDeskModel" "s" "[I") (by decide +kernel)) (fun _ h9 => h9) rfl dX10_principal_6 ?_
  refine lv_bipush (v := 6) hx hb dX10_principal_9 (by decide) ?_
  refine va_iald hx hb hK hP 1 0 rfl rfl (vp_in_iff.mpr (by decide)) dX10_principal_11 ?_
  refine lv_topi (fun yn1 eyn1 => ?_)
  obtain rfl : yn1 = 0 := eyn1.trans (hz.2 6 (by decide) (by decide))
  have hP9 := hP.sub (ws' := [(w0, .inr (11, [.ref v0, .ref v1, .ref v2, .ref v3, .ref v4, .long 0, .long 0, .int 0, .int 0, .ref v9, .int 0, .int 0, .int (-1), .ref v13, .int 0, .int 0, .int 0, .int 0, .int 0, .int 0, .int 0, .int 0, .int 0, .int 0, .int 0, .long 0, .int 0, .ref v27, .ref v28, .ref v29, .ref v30, .ref v31, .ref v32, .ref v33, .ref v34, .ref v35, .ref v36, .ref v37, .int 0]))]) [0] rfl
  have hD9 := hD.sub (ws' := [(w0, .inr (11, [.ref v0, .ref v1, .ref v2, .ref v3, .ref v4, .long 0, .long 0, .int 0, .int 0, .ref v9, .int 0, .int 0, .int (-1), .ref v13, .int 0, .int 0, .int 0, .int 0, .int 0, .int 0, .int 0, .int 0, .int 0, .int 0, .int 0, .long 0, .int 0, .ref v27, .ref v28, .ref v29, .ref v30, .ref v31, .ref v32, .ref v33, .ref v34, .ref v35, .ref v36, .ref v37, .int 0]))]) [0] (by decide) rfl
  refine W.widen (k := 0) (n := 0) (Nat.le_of_ble_eq_true rfl) (Nat.le_of_ble_eq_true rfl) ?_
  exact W.iret (v := 0) hx hb hr (fun t ht hW => ⟨⟨0, (), rfl, rfl, by rw [ht]; exact hP9, hD9⟩, hS.F ht⟩) hS.2.2 dX10_principal_12

set_option maxHeartbeats 4000000 in
set_option maxRecDepth 100000 in
/-- interestPot -/
theorem c_m_interestPot (l : Launch) (D : va_G) (cA : Nat → ClassId) (sa : Nat → Nat) (w0 v0 v1 v2 v3 v4 v9 v13 v27 v28 v29 v30 v31 v32 v33 v34 v35 v36 v37 : Nat) (th : Int32) (fs : Nat → Int32) (sz : Nat) (hz : Zs fs) : Met l yX10_interestPot wsX10_interestPot ({ frames := 0, cells := 0, slots := 0, locals := 0 }) (va_Pc [.ref w0] (Wd D cA sa [(w0, .inr (11, [.ref v0, .ref v1, .ref v2, .ref v3, .ref v4, .long 0, .long 0, .int 0, .int th, .ref v9, .int 0, .int 0, .int (-1), .ref v13, .int 0, .int 0, .int 0, .int 0, .int 0, .int 0, .int 0, .int 0, .int 0, .int 0, .int 0, .long 0, .int 0, .ref v27, .ref v28, .ref v29, .ref v30, .ref v31, .ref v32, .ref v33, .ref v34, .ref v35, .ref v36, .ref v37, .int 0])), (v0, .inl (cA 0, 326, .inl fs))] sz)) (va_Qi (fun (r : Int32) (_ : Unit) => r = 0) (fun (_ : Unit) t => Wq D (va_A [(w0, .inr (11, [.ref v0, .ref v1, .ref v2, .ref v3, .ref v4, .long 0, .long 0, .int 0, .int th, .ref v9, .int 0, .int 0, .int (-1), .ref v13, .int 0, .int 0, .int 0, .int 0, .int 0, .int 0, .int 0, .int 0, .int 0, .int 0, .int 0, .long 0, .int 0, .ref v27, .ref v28, .ref v29, .ref v30, .ref v31, .ref v32, .ref v33, .ref v34, .ref v35, .ref v36, .ref v37, .int 0])), (v0, .inl (cA 0, 326, .inl fs))] sz) [(w0, .inr (11, [.ref v0, .ref v1, .ref v2, .ref v3, .ref v4, .long 0, .long 0, .int 0, .int 0, .ref v9, .int 0, .int 0, .int (-1), .ref v13, .int 0, .int 0, .int 0, .int 0, .int 0, .int 0, .int 0, .int 0, .int 0, .int 0, .int 0, .long 0, .int 0, .ref v27, .ref v28, .ref v29, .ref v30, .ref v31, .ref v32, .ref v33, .ref v34, .ref v35, .ref v36, .ref v37, .int 0]))] t) (va_A [(w0, .inr (11, [.ref v0, .ref v1, .ref v2, .ref v3, .ref v4, .long 0, .long 0, .int 0, .int th, .ref v9, .int 0, .int 0, .int (-1), .ref v13, .int 0, .int 0, .int 0, .int 0, .int 0, .int 0, .int 0, .int 0, .int 0, .int 0, .int 0, .long 0, .int 0, .ref v27, .ref v28, .ref v29, .ref v30, .ref v31, .ref v32, .ref v33, .ref v34, .ref v35, .ref v36, .ref v37, .int 0])), (v0, .inl (cA 0, 326, .inl fs))] sz)) 0 0 (va_A [(w0, .inr (11, [.ref v0, .ref v1, .ref v2, .ref v3, .ref v4, .long 0, .long 0, .int 0, .int th, .ref v9, .int 0, .int 0, .int (-1), .ref v13, .int 0, .int 0, .int 0, .int 0, .int 0, .int 0, .int 0, .int 0, .int 0, .int 0, .int 0, .long 0, .int 0, .ref v27, .ref v28, .ref v29, .ref v30, .ref v31, .ref v32, .ref v33, .ref v34, .ref v35, .ref v36, .ref v37, .int 0])), (v0, .inl (cA 0, 326, .inl fs))] sz) := by
  refine Met.ofW (cc := cX10_interestPot) (maxL := 1) (ret := (some .int)) (by decide) rfl ?_
  intro p e s m args below meth c s₁ B hml hv
  obtain ⟨rfl, hsz, hP, hK, hD0, hC, hZ⟩ := hv
  have hx := B.exec
  have hb := B.bytes
  have hr := B.returns
  have hts := atoms_spec (ws := wsX10_interestPot) B.pre
  have hown : s.vm.findClass RX10 = some m.cls := findClass_of_methodNamed B.named
  have hlocks := B.notSynchronized
  subst hsz
  have hD := hD0.self (sz := s.heap.size)
  generalize hAe : va_A [(w0, .inr (11, [.ref v0, .ref v1, .ref v2, .ref v3, .ref v4, .long 0, .long 0, .int 0, .int th, .ref v9, .int 0, .int 0, .int (-1), .ref v13, .int 0, .int 0, .int 0, .int 0, .int 0, .int 0, .int 0, .int 0, .int 0, .int 0, .int 0, .long 0, .int 0, .ref v27, .ref v28, .ref v29, .ref v30, .ref v31, .ref v32, .ref v33, .ref v34, .ref v35, .ref v36, .ref v37, .int 0])), (v0, .inl (cA 0, 326, .inl fs))] s.heap.size = A at hD hZ ⊢
  have hA : ∀ q : Nat, s.heap.size ≤ q → A q := fun q h => by rw [← hAe]; exact Or.inr h
  have hS : va_S A s.heap s.heap [] := va_S.rf
  have hP : va_P D vwCl [(w0, .inr (11, [.ref v0, .ref v1, .ref v2, .ref v3, .ref v4, .long 0, .long 0, .int 0, .int th, .ref v9, .int 0, .int 0, .int (-1), .ref v13, .int 0, .int 0, .int 0, .int 0, .int 0, .int 0, .int 0, .int 0, .int 0, .int 0, .int 0, .long 0, .int 0, .ref v27, .ref v28, .ref v29, .ref v30, .ref v31, .ref v32, .ref v33, .ref v34, .ref v35, .ref v36, .ref v37, .int 0])), (v0, .inl (cA 0, 326, .inl fs))] s.heap := hP
  have hl := lv_entry ([.ref w0]) (n := 1) (Nat.le_of_ble_eq_true rfl)
  rw [lg_entry_eq]
  generalize (lg_sl ([.ref w0]) ++ List.replicate (1 - (lg_sl ([.ref w0])).length) Slot.unset).toArray = ls at hl ⊢
  have hl : lv_has ls 1 [(0, .ref w0)] := hl
  have inX10 : ∀ w ∈ u_ws RX10 TX10 39, w ∈ wsX10_interestPot := by decide +kernel
  refine lv_aload_n hx hb dX10_interestPot_0 rfl (lv_at hl 0 rfl) ?_
  refine lv_iconst (v := 0) hx hb dX10_interestPot_1 (by decide) ?_
  refine va_put (D := D) (ci := 11) (v := .int 0) (ty := .int) (C := RX10) (T := TX10) (N := 39) hx hb hts inX10 tyX10 tyX10_ok nmX10 hown hK hP hD hS 0 rfl rfl 8 (by decide) (hts (.fieldLink RX10 80 "EscrowDeskModel" "thrown" "I") (by decide +kernel)) (fun _ h9 => h9) rfl (by decide +kernel) rfl rfl (Nat.le_of_ble_eq_true rfl) dX10_interestPot_2 (fun H locs hP hD hS => ?_)
  have hP : va_P D vwCl [(w0, .inr (11, [.ref v0, .ref v1, .ref v2, .ref v3, .ref v4, .long 0, .long 0, .int 0, .int 0, .ref v9, .int 0, .int 0, .int (-1), .ref v13, .int 0, .int 0, .int 0, .int 0, .int 0, .int 0, .int 0, .int 0, .int 0, .int 0, .int 0, .long 0, .int 0, .ref v27, .ref v28, .ref v29, .ref v30, .ref v31, .ref v32, .ref v33, .ref v34, .ref v35, .ref v36, .ref v37, .int 0])), (v0, .inl (cA 0, 326, .inl fs))] H := hP
  have hD : va_D A [(w0, .inr (11, [.ref v0, .ref v1, .ref v2, .ref v3, .ref v4, .long 0, .long 0, .int 0, .int 0, .ref v9, .int 0, .int 0, .int (-1), .ref v13, .int 0, .int 0, .int 0, .int 0, .int 0, .int 0, .int 0, .int 0, .int 0, .int 0, .int 0, .long 0, .int 0, .ref v27, .ref v28, .ref v29, .ref v30, .ref v31, .ref v32, .ref v33, .ref v34, .ref v35, .ref v36, .ref v37, .int 0])), (v0, .inl (cA 0, 326, .inl fs))] := hD
  refine lv_aload_n hx hb dX10_interestPot_5 rfl (lv_at hl 0 rfl) ?_
  refine va_get (D := D) (ci := 11) (v := .ref v0) (C := RX10) (T := TX10) (N := 39) hx hb hts inX10 hown hK hP 0 rfl rfl 0 (by decide) (hts (.fieldLink RX10 7 "EscrowDeskModel" "s" "[I") (by decide +kernel)) (fun _ h9 => h9) rfl dX10_interestPot_6 ?_
  refine lv_bipush (v := 7) hx hb dX10_interestPot_9 (by decide) ?_
  refine va_iald hx hb hK hP 1 0 rfl rfl (vp_in_iff.mpr (by decide)) dX10_interestPot_11 ?_
  refine lv_topi (fun yn1 eyn1 => ?_)
  obtain rfl : yn1 = 0 := eyn1.trans (hz.2 7 (by decide) (by decide))
  have hP9 := hP.sub (ws' := [(w0, .inr (11, [.ref v0, .ref v1, .ref v2, .ref v3, .ref v4, .long 0, .long 0, .int 0, .int 0, .ref v9, .int 0, .int 0, .int (-1), .ref v13, .int 0, .int 0, .int 0, .int 0, .int 0, .int 0, .int 0, .int 0, .int 0, .int 0, .int 0, .long 0, .int 0, .ref v27, .ref v28, .ref v29, .ref v30, .ref v31, .ref v32, .ref v33, .ref v34, .ref v35, .ref v36, .ref v37, .int 0]))]) [0] rfl
  have hD9 := hD.sub (ws' := [(w0, .inr (11, [.ref v0, .ref v1, .ref v2, .ref v3, .ref v4, .long 0, .long 0, .int 0, .int 0, .ref v9, .int 0, .int 0, .int (-1), .ref v13, .int 0, .int 0, .int 0, .int 0, .int 0, .int 0, .int 0, .int 0, .int 0, .int 0, .int 0, .long 0, .int 0, .ref v27, .ref v28, .ref v29, .ref v30, .ref v31, .ref v32, .ref v33, .ref v34, .ref v35, .ref v36, .ref v37, .int 0]))]) [0] (by decide) rfl
  refine W.widen (k := 0) (n := 0) (Nat.le_of_ble_eq_true rfl) (Nat.le_of_ble_eq_true rfl) ?_
  exact W.iret (v := 0) hx hb hr (fun t ht hW => ⟨⟨0, (), rfl, rfl, by rw [ht]; exact hP9, hD9⟩, hS.F ht⟩) hS.2.2 dX10_interestPot_12

set_option maxHeartbeats 4000000 in
set_option maxRecDepth 100000 in
/-- credited -/
theorem c_m_credited (l : Launch) (D : va_G) (cA : Nat → ClassId) (sa : Nat → Nat) (w0 v0 v1 v2 v3 v4 v9 v13 v27 v28 v29 v30 v31 v32 v33 v34 v35 v36 v37 : Nat) (th : Int32) (fs : Nat → Int32) (sz : Nat) (hz : Zs fs) : Met l yX10_credited wsX10_credited ({ frames := 0, cells := 0, slots := 0, locals := 0 }) (va_Pc [.ref w0] (Wd D cA sa [(w0, .inr (11, [.ref v0, .ref v1, .ref v2, .ref v3, .ref v4, .long 0, .long 0, .int 0, .int th, .ref v9, .int 0, .int 0, .int (-1), .ref v13, .int 0, .int 0, .int 0, .int 0, .int 0, .int 0, .int 0, .int 0, .int 0, .int 0, .int 0, .long 0, .int 0, .ref v27, .ref v28, .ref v29, .ref v30, .ref v31, .ref v32, .ref v33, .ref v34, .ref v35, .ref v36, .ref v37, .int 0])), (v0, .inl (cA 0, 326, .inl fs))] sz)) (va_Qi (fun (r : Int32) (_ : Unit) => r = 0) (fun (_ : Unit) t => Wq D (va_A [(w0, .inr (11, [.ref v0, .ref v1, .ref v2, .ref v3, .ref v4, .long 0, .long 0, .int 0, .int th, .ref v9, .int 0, .int 0, .int (-1), .ref v13, .int 0, .int 0, .int 0, .int 0, .int 0, .int 0, .int 0, .int 0, .int 0, .int 0, .int 0, .long 0, .int 0, .ref v27, .ref v28, .ref v29, .ref v30, .ref v31, .ref v32, .ref v33, .ref v34, .ref v35, .ref v36, .ref v37, .int 0])), (v0, .inl (cA 0, 326, .inl fs))] sz) [(w0, .inr (11, [.ref v0, .ref v1, .ref v2, .ref v3, .ref v4, .long 0, .long 0, .int 0, .int 0, .ref v9, .int 0, .int 0, .int (-1), .ref v13, .int 0, .int 0, .int 0, .int 0, .int 0, .int 0, .int 0, .int 0, .int 0, .int 0, .int 0, .long 0, .int 0, .ref v27, .ref v28, .ref v29, .ref v30, .ref v31, .ref v32, .ref v33, .ref v34, .ref v35, .ref v36, .ref v37, .int 0]))] t) (va_A [(w0, .inr (11, [.ref v0, .ref v1, .ref v2, .ref v3, .ref v4, .long 0, .long 0, .int 0, .int th, .ref v9, .int 0, .int 0, .int (-1), .ref v13, .int 0, .int 0, .int 0, .int 0, .int 0, .int 0, .int 0, .int 0, .int 0, .int 0, .int 0, .long 0, .int 0, .ref v27, .ref v28, .ref v29, .ref v30, .ref v31, .ref v32, .ref v33, .ref v34, .ref v35, .ref v36, .ref v37, .int 0])), (v0, .inl (cA 0, 326, .inl fs))] sz)) 0 0 (va_A [(w0, .inr (11, [.ref v0, .ref v1, .ref v2, .ref v3, .ref v4, .long 0, .long 0, .int 0, .int th, .ref v9, .int 0, .int 0, .int (-1), .ref v13, .int 0, .int 0, .int 0, .int 0, .int 0, .int 0, .int 0, .int 0, .int 0, .int 0, .int 0, .long 0, .int 0, .ref v27, .ref v28, .ref v29, .ref v30, .ref v31, .ref v32, .ref v33, .ref v34, .ref v35, .ref v36, .ref v37, .int 0])), (v0, .inl (cA 0, 326, .inl fs))] sz) := by
  refine Met.ofW (cc := cX10_credited) (maxL := 1) (ret := (some .int)) (by decide) rfl ?_
  intro p e s m args below meth c s₁ B hml hv
  obtain ⟨rfl, hsz, hP, hK, hD0, hC, hZ⟩ := hv
  have hx := B.exec
  have hb := B.bytes
  have hr := B.returns
  have hts := atoms_spec (ws := wsX10_credited) B.pre
  have hown : s.vm.findClass RX10 = some m.cls := findClass_of_methodNamed B.named
  have hlocks := B.notSynchronized
  subst hsz
  have hD := hD0.self (sz := s.heap.size)
  generalize hAe : va_A [(w0, .inr (11, [.ref v0, .ref v1, .ref v2, .ref v3, .ref v4, .long 0, .long 0, .int 0, .int th, .ref v9, .int 0, .int 0, .int (-1), .ref v13, .int 0, .int 0, .int 0, .int 0, .int 0, .int 0, .int 0, .int 0, .int 0, .int 0, .int 0, .long 0, .int 0, .ref v27, .ref v28, .ref v29, .ref v30, .ref v31, .ref v32, .ref v33, .ref v34, .ref v35, .ref v36, .ref v37, .int 0])), (v0, .inl (cA 0, 326, .inl fs))] s.heap.size = A at hD hZ ⊢
  have hA : ∀ q : Nat, s.heap.size ≤ q → A q := fun q h => by rw [← hAe]; exact Or.inr h
  have hS : va_S A s.heap s.heap [] := va_S.rf
  have hP : va_P D vwCl [(w0, .inr (11, [.ref v0, .ref v1, .ref v2, .ref v3, .ref v4, .long 0, .long 0, .int 0, .int th, .ref v9, .int 0, .int 0, .int (-1), .ref v13, .int 0, .int 0, .int 0, .int 0, .int 0, .int 0, .int 0, .int 0, .int 0, .int 0, .int 0, .long 0, .int 0, .ref v27, .ref v28, .ref v29, .ref v30, .ref v31, .ref v32, .ref v33, .ref v34, .ref v35, .ref v36, .ref v37, .int 0])), (v0, .inl (cA 0, 326, .inl fs))] s.heap := hP
  have hl := lv_entry ([.ref w0]) (n := 1) (Nat.le_of_ble_eq_true rfl)
  rw [lg_entry_eq]
  generalize (lg_sl ([.ref w0]) ++ List.replicate (1 - (lg_sl ([.ref w0])).length) Slot.unset).toArray = ls at hl ⊢
  have hl : lv_has ls 1 [(0, .ref w0)] := hl
  have inX10 : ∀ w ∈ u_ws RX10 TX10 39, w ∈ wsX10_credited := by decide +kernel
  refine lv_aload_n hx hb dX10_credited_0 rfl (lv_at hl 0 rfl) ?_
  refine lv_iconst (v := 0) hx hb dX10_credited_1 (by decide) ?_
  refine va_put (D := D) (ci := 11) (v := .int 0) (ty := .int) (C := RX10) (T := TX10) (N := 39) hx hb hts inX10 tyX10 tyX10_ok nmX10 hown hK hP hD hS 0 rfl rfl 8 (by decide) (hts (.fieldLink RX10 80 "EscrowDeskModel" "thrown" "I") (by decide +kernel)) (fun _ h9 => h9) rfl (by decide +kernel) rfl rfl (Nat.le_of_ble_eq_true rfl) dX10_credited_2 (fun H locs hP hD hS => ?_)
  have hP : va_P D vwCl [(w0, .inr (11, [.ref v0, .ref v1, .ref v2, .ref v3, .ref v4, .long 0, .long 0, .int 0, .int 0, .ref v9, .int 0, .int 0, .int (-1), .ref v13, .int 0, .int 0, .int 0, .int 0, .int 0, .int 0, .int 0, .int 0, .int 0, .int 0, .int 0, .long 0, .int 0, .ref v27, .ref v28, .ref v29, .ref v30, .ref v31, .ref v32, .ref v33, .ref v34, .ref v35, .ref v36, .ref v37, .int 0])), (v0, .inl (cA 0, 326, .inl fs))] H := hP
  have hD : va_D A [(w0, .inr (11, [.ref v0, .ref v1, .ref v2, .ref v3, .ref v4, .long 0, .long 0, .int 0, .int 0, .ref v9, .int 0, .int 0, .int (-1), .ref v13, .int 0, .int 0, .int 0, .int 0, .int 0, .int 0, .int 0, .int 0, .int 0, .int 0, .int 0, .long 0, .int 0, .ref v27, .ref v28, .ref v29, .ref v30, .ref v31, .ref v32, .ref v33, .ref v34, .ref v35, .ref v36, .ref v37, .int 0])), (v0, .inl (cA 0, 326, .inl fs))] := hD
  refine lv_aload_n hx hb dX10_credited_5 rfl (lv_at hl 0 rfl) ?_
  refine va_get (D := D) (ci := 11) (v := .ref v0) (C := RX10) (T := TX10) (N := 39) hx hb hts inX10 hown hK hP 0 rfl rfl 0 (by decide) (hts (.fieldLink RX10 7 "EscrowDeskModel" "s" "[I") (by decide +kernel)) (fun _ h9 => h9) rfl dX10_credited_6 ?_
  refine lv_bipush (v := 8) hx hb dX10_credited_9 (by decide) ?_
  refine va_iald hx hb hK hP 1 0 rfl rfl (vp_in_iff.mpr (by decide)) dX10_credited_11 ?_
  refine lv_topi (fun yn1 eyn1 => ?_)
  obtain rfl : yn1 = 0 := eyn1.trans (hz.2 8 (by decide) (by decide))
  have hP9 := hP.sub (ws' := [(w0, .inr (11, [.ref v0, .ref v1, .ref v2, .ref v3, .ref v4, .long 0, .long 0, .int 0, .int 0, .ref v9, .int 0, .int 0, .int (-1), .ref v13, .int 0, .int 0, .int 0, .int 0, .int 0, .int 0, .int 0, .int 0, .int 0, .int 0, .int 0, .long 0, .int 0, .ref v27, .ref v28, .ref v29, .ref v30, .ref v31, .ref v32, .ref v33, .ref v34, .ref v35, .ref v36, .ref v37, .int 0]))]) [0] rfl
  have hD9 := hD.sub (ws' := [(w0, .inr (11, [.ref v0, .ref v1, .ref v2, .ref v3, .ref v4, .long 0, .long 0, .int 0, .int 0, .ref v9, .int 0, .int 0, .int (-1), .ref v13, .int 0, .int 0, .int 0, .int 0, .int 0, .int 0, .int 0, .int 0, .int 0, .int 0, .int 0, .long 0, .int 0, .ref v27, .ref v28, .ref v29, .ref v30, .ref v31, .ref v32, .ref v33, .ref v34, .ref v35, .ref v36, .ref v37, .int 0]))]) [0] (by decide) rfl
  refine W.widen (k := 0) (n := 0) (Nat.le_of_ble_eq_true rfl) (Nat.le_of_ble_eq_true rfl) ?_
  exact W.iret (v := 0) hx hb hr (fun t ht hW => ⟨⟨0, (), rfl, rfl, by rw [ht]; exact hP9, hD9⟩, hS.F ht⟩) hS.2.2 dX10_credited_12

set_option maxHeartbeats 4000000 in
set_option maxRecDepth 100000 in
/-- accruedParts -/
theorem c_m_accruedParts (l : Launch) (D : va_G) (cA : Nat → ClassId) (sa : Nat → Nat) (w0 v0 v1 v2 v3 v4 v9 v13 v27 v28 v29 v30 v31 v32 v33 v34 v35 v36 v37 : Nat) (th : Int32) (fs : Nat → Int32) (sz : Nat) (hz : Zs fs) : Met l yX10_accruedParts wsX10_accruedParts ({ frames := 0, cells := 0, slots := 0, locals := 0 }) (va_Pc [.ref w0] (Wd D cA sa [(w0, .inr (11, [.ref v0, .ref v1, .ref v2, .ref v3, .ref v4, .long 0, .long 0, .int 0, .int th, .ref v9, .int 0, .int 0, .int (-1), .ref v13, .int 0, .int 0, .int 0, .int 0, .int 0, .int 0, .int 0, .int 0, .int 0, .int 0, .int 0, .long 0, .int 0, .ref v27, .ref v28, .ref v29, .ref v30, .ref v31, .ref v32, .ref v33, .ref v34, .ref v35, .ref v36, .ref v37, .int 0])), (v0, .inl (cA 0, 326, .inl fs))] sz)) (va_Ql (fun (r : Int64) (_ : Unit) => r = 0) (fun (_ : Unit) t => Wq D (va_A [(w0, .inr (11, [.ref v0, .ref v1, .ref v2, .ref v3, .ref v4, .long 0, .long 0, .int 0, .int th, .ref v9, .int 0, .int 0, .int (-1), .ref v13, .int 0, .int 0, .int 0, .int 0, .int 0, .int 0, .int 0, .int 0, .int 0, .int 0, .int 0, .long 0, .int 0, .ref v27, .ref v28, .ref v29, .ref v30, .ref v31, .ref v32, .ref v33, .ref v34, .ref v35, .ref v36, .ref v37, .int 0])), (v0, .inl (cA 0, 326, .inl fs))] sz) [(w0, .inr (11, [.ref v0, .ref v1, .ref v2, .ref v3, .ref v4, .long 0, .long 0, .int 0, .int 0, .ref v9, .int 0, .int 0, .int (-1), .ref v13, .int 0, .int 0, .int 0, .int 0, .int 0, .int 0, .int 0, .int 0, .int 0, .int 0, .int 0, .long 0, .int 0, .ref v27, .ref v28, .ref v29, .ref v30, .ref v31, .ref v32, .ref v33, .ref v34, .ref v35, .ref v36, .ref v37, .int 0]))] t) (va_A [(w0, .inr (11, [.ref v0, .ref v1, .ref v2, .ref v3, .ref v4, .long 0, .long 0, .int 0, .int th, .ref v9, .int 0, .int 0, .int (-1), .ref v13, .int 0, .int 0, .int 0, .int 0, .int 0, .int 0, .int 0, .int 0, .int 0, .int 0, .int 0, .long 0, .int 0, .ref v27, .ref v28, .ref v29, .ref v30, .ref v31, .ref v32, .ref v33, .ref v34, .ref v35, .ref v36, .ref v37, .int 0])), (v0, .inl (cA 0, 326, .inl fs))] sz)) 0 0 (va_A [(w0, .inr (11, [.ref v0, .ref v1, .ref v2, .ref v3, .ref v4, .long 0, .long 0, .int 0, .int th, .ref v9, .int 0, .int 0, .int (-1), .ref v13, .int 0, .int 0, .int 0, .int 0, .int 0, .int 0, .int 0, .int 0, .int 0, .int 0, .int 0, .long 0, .int 0, .ref v27, .ref v28, .ref v29, .ref v30, .ref v31, .ref v32, .ref v33, .ref v34, .ref v35, .ref v36, .ref v37, .int 0])), (v0, .inl (cA 0, 326, .inl fs))] sz) := by
  refine Met.ofW (cc := cX10_accruedParts) (maxL := 1) (ret := (some .long)) (by decide) rfl ?_
  intro p e s m args below meth c s₁ B hml hv
  obtain ⟨rfl, hsz, hP, hK, hD0, hC, hZ⟩ := hv
  have hx := B.exec
  have hb := B.bytes
  have hr := B.returns
  have hts := atoms_spec (ws := wsX10_accruedParts) B.pre
  have hown : s.vm.findClass RX10 = some m.cls := findClass_of_methodNamed B.named
  have hlocks := B.notSynchronized
  subst hsz
  have hD := hD0.self (sz := s.heap.size)
  generalize hAe : va_A [(w0, .inr (11, [.ref v0, .ref v1, .ref v2, .ref v3, .ref v4, .long 0, .long 0, .int 0, .int th, .ref v9, .int 0, .int 0, .int (-1), .ref v13, .int 0, .int 0, .int 0, .int 0, .int 0, .int 0, .int 0, .int 0, .int 0, .int 0, .int 0, .long 0, .int 0, .ref v27, .ref v28, .ref v29, .ref v30, .ref v31, .ref v32, .ref v33, .ref v34, .ref v35, .ref v36, .ref v37, .int 0])), (v0, .inl (cA 0, 326, .inl fs))] s.heap.size = A at hD hZ ⊢
  have hA : ∀ q : Nat, s.heap.size ≤ q → A q := fun q h => by rw [← hAe]; exact Or.inr h
  have hS : va_S A s.heap s.heap [] := va_S.rf
  have hP : va_P D vwCl [(w0, .inr (11, [.ref v0, .ref v1, .ref v2, .ref v3, .ref v4, .long 0, .long 0, .int 0, .int th, .ref v9, .int 0, .int 0, .int (-1), .ref v13, .int 0, .int 0, .int 0, .int 0, .int 0, .int 0, .int 0, .int 0, .int 0, .int 0, .int 0, .long 0, .int 0, .ref v27, .ref v28, .ref v29, .ref v30, .ref v31, .ref v32, .ref v33, .ref v34, .ref v35, .ref v36, .ref v37, .int 0])), (v0, .inl (cA 0, 326, .inl fs))] s.heap := hP
  have hl := lv_entry ([.ref w0]) (n := 1) (Nat.le_of_ble_eq_true rfl)
  rw [lg_entry_eq]
  generalize (lg_sl ([.ref w0]) ++ List.replicate (1 - (lg_sl ([.ref w0])).length) Slot.unset).toArray = ls at hl ⊢
  have hl : lv_has ls 1 [(0, .ref w0)] := hl
  have inX10 : ∀ w ∈ u_ws RX10 TX10 39, w ∈ wsX10_accruedParts := by decide +kernel
  refine lv_aload_n hx hb dX10_accruedParts_0 rfl (lv_at hl 0 rfl) ?_
  refine lv_iconst (v := 0) hx hb dX10_accruedParts_1 (by decide) ?_
  refine va_put (D := D) (ci := 11) (v := .int 0) (ty := .int) (C := RX10) (T := TX10) (N := 39) hx hb hts inX10 tyX10 tyX10_ok nmX10 hown hK hP hD hS 0 rfl rfl 8 (by decide) (hts (.fieldLink RX10 80 "EscrowDeskModel" "thrown" "I") (by decide +kernel)) (fun _ h9 => h9) rfl (by decide +kernel) rfl rfl (Nat.le_of_ble_eq_true rfl) dX10_accruedParts_2 (fun H locs hP hD hS => ?_)
  have hP : va_P D vwCl [(w0, .inr (11, [.ref v0, .ref v1, .ref v2, .ref v3, .ref v4, .long 0, .long 0, .int 0, .int 0, .ref v9, .int 0, .int 0, .int (-1), .ref v13, .int 0, .int 0, .int 0, .int 0, .int 0, .int 0, .int 0, .int 0, .int 0, .int 0, .int 0, .long 0, .int 0, .ref v27, .ref v28, .ref v29, .ref v30, .ref v31, .ref v32, .ref v33, .ref v34, .ref v35, .ref v36, .ref v37, .int 0])), (v0, .inl (cA 0, 326, .inl fs))] H := hP
  have hD : va_D A [(w0, .inr (11, [.ref v0, .ref v1, .ref v2, .ref v3, .ref v4, .long 0, .long 0, .int 0, .int 0, .ref v9, .int 0, .int 0, .int (-1), .ref v13, .int 0, .int 0, .int 0, .int 0, .int 0, .int 0, .int 0, .int 0, .int 0, .int 0, .int 0, .long 0, .int 0, .ref v27, .ref v28, .ref v29, .ref v30, .ref v31, .ref v32, .ref v33, .ref v34, .ref v35, .ref v36, .ref v37, .int 0])), (v0, .inl (cA 0, 326, .inl fs))] := hD
  refine lv_aload_n hx hb dX10_accruedParts_5 rfl (lv_at hl 0 rfl) ?_
  refine va_get (D := D) (ci := 11) (v := .long 0) (C := RX10) (T := TX10) (N := 39) hx hb hts inX10 hown hK hP 0 rfl rfl 5 (by decide) (hts (.fieldLink RX10 86 "EscrowDeskModel" "parts" "J") (by decide +kernel)) (fun _ h9 => h9) rfl dX10_accruedParts_6 ?_
  have hP9 := hP.sub (ws' := [(w0, .inr (11, [.ref v0, .ref v1, .ref v2, .ref v3, .ref v4, .long 0, .long 0, .int 0, .int 0, .ref v9, .int 0, .int 0, .int (-1), .ref v13, .int 0, .int 0, .int 0, .int 0, .int 0, .int 0, .int 0, .int 0, .int 0, .int 0, .int 0, .long 0, .int 0, .ref v27, .ref v28, .ref v29, .ref v30, .ref v31, .ref v32, .ref v33, .ref v34, .ref v35, .ref v36, .ref v37, .int 0]))]) [0] rfl
  have hD9 := hD.sub (ws' := [(w0, .inr (11, [.ref v0, .ref v1, .ref v2, .ref v3, .ref v4, .long 0, .long 0, .int 0, .int 0, .ref v9, .int 0, .int 0, .int (-1), .ref v13, .int 0, .int 0, .int 0, .int 0, .int 0, .int 0, .int 0, .int 0, .int 0, .int 0, .int 0, .long 0, .int 0, .ref v27, .ref v28, .ref v29, .ref v30, .ref v31, .ref v32, .ref v33, .ref v34, .ref v35, .ref v36, .ref v37, .int 0]))]) [0] (by decide) rfl
  refine W.widen (k := 0) (n := 0) (Nat.le_of_ble_eq_true rfl) (Nat.le_of_ble_eq_true rfl) ?_
  exact W.lret (v := 0) hx hb hr (fun t ht hW => ⟨⟨0, (), rfl, rfl, by rw [ht]; exact hP9, hD9⟩, hS.F ht⟩) hS.2.2 dX10_accruedParts_9

set_option maxHeartbeats 4000000 in
set_option maxRecDepth 100000 in
/-- received -/
theorem c_m_received (l : Launch) (D : va_G) (cA : Nat → ClassId) (sa : Nat → Nat) (w0 v0 v1 v2 v3 v4 v9 v13 v27 v28 v29 v30 v31 v32 v33 v34 v35 v36 v37 : Nat) (th : Int32) (fs : Nat → Int32) (sz : Nat) (hz : Zs fs) : Met l yX10_received wsX10_received ({ frames := 0, cells := 0, slots := 0, locals := 0 }) (va_Pc [.ref w0] (Wd D cA sa [(w0, .inr (11, [.ref v0, .ref v1, .ref v2, .ref v3, .ref v4, .long 0, .long 0, .int 0, .int th, .ref v9, .int 0, .int 0, .int (-1), .ref v13, .int 0, .int 0, .int 0, .int 0, .int 0, .int 0, .int 0, .int 0, .int 0, .int 0, .int 0, .long 0, .int 0, .ref v27, .ref v28, .ref v29, .ref v30, .ref v31, .ref v32, .ref v33, .ref v34, .ref v35, .ref v36, .ref v37, .int 0])), (v0, .inl (cA 0, 326, .inl fs))] sz)) (va_Qi (fun (r : Int32) (_ : Unit) => r = 0) (fun (_ : Unit) t => Wq D (va_A [(w0, .inr (11, [.ref v0, .ref v1, .ref v2, .ref v3, .ref v4, .long 0, .long 0, .int 0, .int th, .ref v9, .int 0, .int 0, .int (-1), .ref v13, .int 0, .int 0, .int 0, .int 0, .int 0, .int 0, .int 0, .int 0, .int 0, .int 0, .int 0, .long 0, .int 0, .ref v27, .ref v28, .ref v29, .ref v30, .ref v31, .ref v32, .ref v33, .ref v34, .ref v35, .ref v36, .ref v37, .int 0])), (v0, .inl (cA 0, 326, .inl fs))] sz) [(w0, .inr (11, [.ref v0, .ref v1, .ref v2, .ref v3, .ref v4, .long 0, .long 0, .int 0, .int 0, .ref v9, .int 0, .int 0, .int (-1), .ref v13, .int 0, .int 0, .int 0, .int 0, .int 0, .int 0, .int 0, .int 0, .int 0, .int 0, .int 0, .long 0, .int 0, .ref v27, .ref v28, .ref v29, .ref v30, .ref v31, .ref v32, .ref v33, .ref v34, .ref v35, .ref v36, .ref v37, .int 0]))] t) (va_A [(w0, .inr (11, [.ref v0, .ref v1, .ref v2, .ref v3, .ref v4, .long 0, .long 0, .int 0, .int th, .ref v9, .int 0, .int 0, .int (-1), .ref v13, .int 0, .int 0, .int 0, .int 0, .int 0, .int 0, .int 0, .int 0, .int 0, .int 0, .int 0, .long 0, .int 0, .ref v27, .ref v28, .ref v29, .ref v30, .ref v31, .ref v32, .ref v33, .ref v34, .ref v35, .ref v36, .ref v37, .int 0])), (v0, .inl (cA 0, 326, .inl fs))] sz)) 0 0 (va_A [(w0, .inr (11, [.ref v0, .ref v1, .ref v2, .ref v3, .ref v4, .long 0, .long 0, .int 0, .int th, .ref v9, .int 0, .int 0, .int (-1), .ref v13, .int 0, .int 0, .int 0, .int 0, .int 0, .int 0, .int 0, .int 0, .int 0, .int 0, .int 0, .long 0, .int 0, .ref v27, .ref v28, .ref v29, .ref v30, .ref v31, .ref v32, .ref v33, .ref v34, .ref v35, .ref v36, .ref v37, .int 0])), (v0, .inl (cA 0, 326, .inl fs))] sz) := by
  refine Met.ofW (cc := cX10_received) (maxL := 1) (ret := (some .int)) (by decide) rfl ?_
  intro p e s m args below meth c s₁ B hml hv
  obtain ⟨rfl, hsz, hP, hK, hD0, hC, hZ⟩ := hv
  have hx := B.exec
  have hb := B.bytes
  have hr := B.returns
  have hts := atoms_spec (ws := wsX10_received) B.pre
  have hown : s.vm.findClass RX10 = some m.cls := findClass_of_methodNamed B.named
  have hlocks := B.notSynchronized
  subst hsz
  have hD := hD0.self (sz := s.heap.size)
  generalize hAe : va_A [(w0, .inr (11, [.ref v0, .ref v1, .ref v2, .ref v3, .ref v4, .long 0, .long 0, .int 0, .int th, .ref v9, .int 0, .int 0, .int (-1), .ref v13, .int 0, .int 0, .int 0, .int 0, .int 0, .int 0, .int 0, .int 0, .int 0, .int 0, .int 0, .long 0, .int 0, .ref v27, .ref v28, .ref v29, .ref v30, .ref v31, .ref v32, .ref v33, .ref v34, .ref v35, .ref v36, .ref v37, .int 0])), (v0, .inl (cA 0, 326, .inl fs))] s.heap.size = A at hD hZ ⊢
  have hA : ∀ q : Nat, s.heap.size ≤ q → A q := fun q h => by rw [← hAe]; exact Or.inr h
  have hS : va_S A s.heap s.heap [] := va_S.rf
  have hP : va_P D vwCl [(w0, .inr (11, [.ref v0, .ref v1, .ref v2, .ref v3, .ref v4, .long 0, .long 0, .int 0, .int th, .ref v9, .int 0, .int 0, .int (-1), .ref v13, .int 0, .int 0, .int 0, .int 0, .int 0, .int 0, .int 0, .int 0, .int 0, .int 0, .int 0, .long 0, .int 0, .ref v27, .ref v28, .ref v29, .ref v30, .ref v31, .ref v32, .ref v33, .ref v34, .ref v35, .ref v36, .ref v37, .int 0])), (v0, .inl (cA 0, 326, .inl fs))] s.heap := hP
  have hl := lv_entry ([.ref w0]) (n := 1) (Nat.le_of_ble_eq_true rfl)
  rw [lg_entry_eq]
  generalize (lg_sl ([.ref w0]) ++ List.replicate (1 - (lg_sl ([.ref w0])).length) Slot.unset).toArray = ls at hl ⊢
  have hl : lv_has ls 1 [(0, .ref w0)] := hl
  have inX10 : ∀ w ∈ u_ws RX10 TX10 39, w ∈ wsX10_received := by decide +kernel
  refine lv_aload_n hx hb dX10_received_0 rfl (lv_at hl 0 rfl) ?_
  refine lv_iconst (v := 0) hx hb dX10_received_1 (by decide) ?_
  refine va_put (D := D) (ci := 11) (v := .int 0) (ty := .int) (C := RX10) (T := TX10) (N := 39) hx hb hts inX10 tyX10 tyX10_ok nmX10 hown hK hP hD hS 0 rfl rfl 8 (by decide) (hts (.fieldLink RX10 80 "EscrowDeskModel" "thrown" "I") (by decide +kernel)) (fun _ h9 => h9) rfl (by decide +kernel) rfl rfl (Nat.le_of_ble_eq_true rfl) dX10_received_2 (fun H locs hP hD hS => ?_)
  have hP : va_P D vwCl [(w0, .inr (11, [.ref v0, .ref v1, .ref v2, .ref v3, .ref v4, .long 0, .long 0, .int 0, .int 0, .ref v9, .int 0, .int 0, .int (-1), .ref v13, .int 0, .int 0, .int 0, .int 0, .int 0, .int 0, .int 0, .int 0, .int 0, .int 0, .int 0, .long 0, .int 0, .ref v27, .ref v28, .ref v29, .ref v30, .ref v31, .ref v32, .ref v33, .ref v34, .ref v35, .ref v36, .ref v37, .int 0])), (v0, .inl (cA 0, 326, .inl fs))] H := hP
  have hD : va_D A [(w0, .inr (11, [.ref v0, .ref v1, .ref v2, .ref v3, .ref v4, .long 0, .long 0, .int 0, .int 0, .ref v9, .int 0, .int 0, .int (-1), .ref v13, .int 0, .int 0, .int 0, .int 0, .int 0, .int 0, .int 0, .int 0, .int 0, .int 0, .int 0, .long 0, .int 0, .ref v27, .ref v28, .ref v29, .ref v30, .ref v31, .ref v32, .ref v33, .ref v34, .ref v35, .ref v36, .ref v37, .int 0])), (v0, .inl (cA 0, 326, .inl fs))] := hD
  refine lv_aload_n hx hb dX10_received_5 rfl (lv_at hl 0 rfl) ?_
  refine va_get (D := D) (ci := 11) (v := .ref v0) (C := RX10) (T := TX10) (N := 39) hx hb hts inX10 hown hK hP 0 rfl rfl 0 (by decide) (hts (.fieldLink RX10 7 "EscrowDeskModel" "s" "[I") (by decide +kernel)) (fun _ h9 => h9) rfl dX10_received_6 ?_
  refine lv_bipush (v := 10) hx hb dX10_received_9 (by decide) ?_
  refine va_iald hx hb hK hP 1 0 rfl rfl (vp_in_iff.mpr (by decide)) dX10_received_11 ?_
  refine lv_topi (fun yn1 eyn1 => ?_)
  obtain rfl : yn1 = 0 := eyn1.trans (hz.2 10 (by decide) (by decide))
  refine lv_aload_n hx hb dX10_received_12 rfl (lv_at hl 0 rfl) ?_
  refine va_get (D := D) (ci := 11) (v := .ref v0) (C := RX10) (T := TX10) (N := 39) hx hb hts inX10 hown hK hP 0 rfl rfl 0 (by decide) (hts (.fieldLink RX10 7 "EscrowDeskModel" "s" "[I") (by decide +kernel)) (fun _ h9 => h9) rfl dX10_received_13 ?_
  refine lv_bipush (v := 9) hx hb dX10_received_16 (by decide) ?_
  refine va_iald hx hb hK hP 1 0 rfl rfl (vp_in_iff.mpr (by decide)) dX10_received_18 ?_
  refine lv_topi (fun yn2 eyn2 => ?_)
  obtain rfl : yn2 = 0 := eyn2.trans (hz.2 9 (by decide) (by decide))
  refine lv_isub hx hb dX10_received_19 ?_
  refine lv_topi (fun yn3 eyn3 => ?_)
  obtain rfl : yn3 = 0 := eyn3.trans (by first | rfl | decide +kernel)
  have hP9 := hP.sub (ws' := [(w0, .inr (11, [.ref v0, .ref v1, .ref v2, .ref v3, .ref v4, .long 0, .long 0, .int 0, .int 0, .ref v9, .int 0, .int 0, .int (-1), .ref v13, .int 0, .int 0, .int 0, .int 0, .int 0, .int 0, .int 0, .int 0, .int 0, .int 0, .int 0, .long 0, .int 0, .ref v27, .ref v28, .ref v29, .ref v30, .ref v31, .ref v32, .ref v33, .ref v34, .ref v35, .ref v36, .ref v37, .int 0]))]) [0] rfl
  have hD9 := hD.sub (ws' := [(w0, .inr (11, [.ref v0, .ref v1, .ref v2, .ref v3, .ref v4, .long 0, .long 0, .int 0, .int 0, .ref v9, .int 0, .int 0, .int (-1), .ref v13, .int 0, .int 0, .int 0, .int 0, .int 0, .int 0, .int 0, .int 0, .int 0, .int 0, .int 0, .long 0, .int 0, .ref v27, .ref v28, .ref v29, .ref v30, .ref v31, .ref v32, .ref v33, .ref v34, .ref v35, .ref v36, .ref v37, .int 0]))]) [0] (by decide) rfl
  refine W.widen (k := 0) (n := 0) (Nat.le_of_ble_eq_true rfl) (Nat.le_of_ble_eq_true rfl) ?_
  exact W.iret (v := 0) hx hb hr (fun t ht hW => ⟨⟨0, (), rfl, rfl, by rw [ht]; exact hP9, hD9⟩, hS.F ht⟩) hS.2.2 dX10_received_20

set_option maxHeartbeats 4000000 in
set_option maxRecDepth 100000 in
/-- fees -/
theorem c_m_fees (l : Launch) (D : va_G) (cA : Nat → ClassId) (sa : Nat → Nat) (w0 v0 v1 v2 v3 v4 v9 v13 v27 v28 v29 v30 v31 v32 v33 v34 v35 v36 v37 : Nat) (th : Int32) (fs : Nat → Int32) (sz : Nat) (hz : Zs fs) : Met l yX10_fees wsX10_fees ({ frames := 0, cells := 0, slots := 0, locals := 0 }) (va_Pc [.ref w0] (Wd D cA sa [(w0, .inr (11, [.ref v0, .ref v1, .ref v2, .ref v3, .ref v4, .long 0, .long 0, .int 0, .int th, .ref v9, .int 0, .int 0, .int (-1), .ref v13, .int 0, .int 0, .int 0, .int 0, .int 0, .int 0, .int 0, .int 0, .int 0, .int 0, .int 0, .long 0, .int 0, .ref v27, .ref v28, .ref v29, .ref v30, .ref v31, .ref v32, .ref v33, .ref v34, .ref v35, .ref v36, .ref v37, .int 0])), (v0, .inl (cA 0, 326, .inl fs))] sz)) (va_Qi (fun (r : Int32) (_ : Unit) => r = 0) (fun (_ : Unit) t => Wq D (va_A [(w0, .inr (11, [.ref v0, .ref v1, .ref v2, .ref v3, .ref v4, .long 0, .long 0, .int 0, .int th, .ref v9, .int 0, .int 0, .int (-1), .ref v13, .int 0, .int 0, .int 0, .int 0, .int 0, .int 0, .int 0, .int 0, .int 0, .int 0, .int 0, .long 0, .int 0, .ref v27, .ref v28, .ref v29, .ref v30, .ref v31, .ref v32, .ref v33, .ref v34, .ref v35, .ref v36, .ref v37, .int 0])), (v0, .inl (cA 0, 326, .inl fs))] sz) [(w0, .inr (11, [.ref v0, .ref v1, .ref v2, .ref v3, .ref v4, .long 0, .long 0, .int 0, .int 0, .ref v9, .int 0, .int 0, .int (-1), .ref v13, .int 0, .int 0, .int 0, .int 0, .int 0, .int 0, .int 0, .int 0, .int 0, .int 0, .int 0, .long 0, .int 0, .ref v27, .ref v28, .ref v29, .ref v30, .ref v31, .ref v32, .ref v33, .ref v34, .ref v35, .ref v36, .ref v37, .int 0]))] t) (va_A [(w0, .inr (11, [.ref v0, .ref v1, .ref v2, .ref v3, .ref v4, .long 0, .long 0, .int 0, .int th, .ref v9, .int 0, .int 0, .int (-1), .ref v13, .int 0, .int 0, .int 0, .int 0, .int 0, .int 0, .int 0, .int 0, .int 0, .int 0, .int 0, .long 0, .int 0, .ref v27, .ref v28, .ref v29, .ref v30, .ref v31, .ref v32, .ref v33, .ref v34, .ref v35, .ref v36, .ref v37, .int 0])), (v0, .inl (cA 0, 326, .inl fs))] sz)) 0 0 (va_A [(w0, .inr (11, [.ref v0, .ref v1, .ref v2, .ref v3, .ref v4, .long 0, .long 0, .int 0, .int th, .ref v9, .int 0, .int 0, .int (-1), .ref v13, .int 0, .int 0, .int 0, .int 0, .int 0, .int 0, .int 0, .int 0, .int 0, .int 0, .int 0, .long 0, .int 0, .ref v27, .ref v28, .ref v29, .ref v30, .ref v31, .ref v32, .ref v33, .ref v34, .ref v35, .ref v36, .ref v37, .int 0])), (v0, .inl (cA 0, 326, .inl fs))] sz) := by
  refine Met.ofW (cc := cX10_fees) (maxL := 1) (ret := (some .int)) (by decide) rfl ?_
  intro p e s m args below meth c s₁ B hml hv
  obtain ⟨rfl, hsz, hP, hK, hD0, hC, hZ⟩ := hv
  have hx := B.exec
  have hb := B.bytes
  have hr := B.returns
  have hts := atoms_spec (ws := wsX10_fees) B.pre
  have hown : s.vm.findClass RX10 = some m.cls := findClass_of_methodNamed B.named
  have hlocks := B.notSynchronized
  subst hsz
  have hD := hD0.self (sz := s.heap.size)
  generalize hAe : va_A [(w0, .inr (11, [.ref v0, .ref v1, .ref v2, .ref v3, .ref v4, .long 0, .long 0, .int 0, .int th, .ref v9, .int 0, .int 0, .int (-1), .ref v13, .int 0, .int 0, .int 0, .int 0, .int 0, .int 0, .int 0, .int 0, .int 0, .int 0, .int 0, .long 0, .int 0, .ref v27, .ref v28, .ref v29, .ref v30, .ref v31, .ref v32, .ref v33, .ref v34, .ref v35, .ref v36, .ref v37, .int 0])), (v0, .inl (cA 0, 326, .inl fs))] s.heap.size = A at hD hZ ⊢
  have hA : ∀ q : Nat, s.heap.size ≤ q → A q := fun q h => by rw [← hAe]; exact Or.inr h
  have hS : va_S A s.heap s.heap [] := va_S.rf
  have hP : va_P D vwCl [(w0, .inr (11, [.ref v0, .ref v1, .ref v2, .ref v3, .ref v4, .long 0, .long 0, .int 0, .int th, .ref v9, .int 0, .int 0, .int (-1), .ref v13, .int 0, .int 0, .int 0, .int 0, .int 0, .int 0, .int 0, .int 0, .int 0, .int 0, .int 0, .long 0, .int 0, .ref v27, .ref v28, .ref v29, .ref v30, .ref v31, .ref v32, .ref v33, .ref v34, .ref v35, .ref v36, .ref v37, .int 0])), (v0, .inl (cA 0, 326, .inl fs))] s.heap := hP
  have hl := lv_entry ([.ref w0]) (n := 1) (Nat.le_of_ble_eq_true rfl)
  rw [lg_entry_eq]
  generalize (lg_sl ([.ref w0]) ++ List.replicate (1 - (lg_sl ([.ref w0])).length) Slot.unset).toArray = ls at hl ⊢
  have hl : lv_has ls 1 [(0, .ref w0)] := hl
  have inX10 : ∀ w ∈ u_ws RX10 TX10 39, w ∈ wsX10_fees := by decide +kernel
  refine lv_aload_n hx hb dX10_fees_0 rfl (lv_at hl 0 rfl) ?_
  refine lv_iconst (v := 0) hx hb dX10_fees_1 (by decide) ?_
  refine va_put (D := D) (ci := 11) (v := .int 0) (ty := .int) (C := RX10) (T := TX10) (N := 39) hx hb hts inX10 tyX10 tyX10_ok nmX10 hown hK hP hD hS 0 rfl rfl 8 (by decide) (hts (.fieldLink RX10 80 "EscrowDeskModel" "thrown" "I") (by decide +kernel)) (fun _ h9 => h9) rfl (by decide +kernel) rfl rfl (Nat.le_of_ble_eq_true rfl) dX10_fees_2 (fun H locs hP hD hS => ?_)
  have hP : va_P D vwCl [(w0, .inr (11, [.ref v0, .ref v1, .ref v2, .ref v3, .ref v4, .long 0, .long 0, .int 0, .int 0, .ref v9, .int 0, .int 0, .int (-1), .ref v13, .int 0, .int 0, .int 0, .int 0, .int 0, .int 0, .int 0, .int 0, .int 0, .int 0, .int 0, .long 0, .int 0, .ref v27, .ref v28, .ref v29, .ref v30, .ref v31, .ref v32, .ref v33, .ref v34, .ref v35, .ref v36, .ref v37, .int 0])), (v0, .inl (cA 0, 326, .inl fs))] H := hP
  have hD : va_D A [(w0, .inr (11, [.ref v0, .ref v1, .ref v2, .ref v3, .ref v4, .long 0, .long 0, .int 0, .int 0, .ref v9, .int 0, .int 0, .int (-1), .ref v13, .int 0, .int 0, .int 0, .int 0, .int 0, .int 0, .int 0, .int 0, .int 0, .int 0, .int 0, .long 0, .int 0, .ref v27, .ref v28, .ref v29, .ref v30, .ref v31, .ref v32, .ref v33, .ref v34, .ref v35, .ref v36, .ref v37, .int 0])), (v0, .inl (cA 0, 326, .inl fs))] := hD
  refine lv_aload_n hx hb dX10_fees_5 rfl (lv_at hl 0 rfl) ?_
  refine va_get (D := D) (ci := 11) (v := .ref v0) (C := RX10) (T := TX10) (N := 39) hx hb hts inX10 hown hK hP 0 rfl rfl 0 (by decide) (hts (.fieldLink RX10 7 "EscrowDeskModel" "s" "[I") (by decide +kernel)) (fun _ h9 => h9) rfl dX10_fees_6 ?_
  refine lv_bipush (v := 9) hx hb dX10_fees_9 (by decide) ?_
  refine va_iald hx hb hK hP 1 0 rfl rfl (vp_in_iff.mpr (by decide)) dX10_fees_11 ?_
  refine lv_topi (fun yn1 eyn1 => ?_)
  obtain rfl : yn1 = 0 := eyn1.trans (hz.2 9 (by decide) (by decide))
  have hP9 := hP.sub (ws' := [(w0, .inr (11, [.ref v0, .ref v1, .ref v2, .ref v3, .ref v4, .long 0, .long 0, .int 0, .int 0, .ref v9, .int 0, .int 0, .int (-1), .ref v13, .int 0, .int 0, .int 0, .int 0, .int 0, .int 0, .int 0, .int 0, .int 0, .int 0, .int 0, .long 0, .int 0, .ref v27, .ref v28, .ref v29, .ref v30, .ref v31, .ref v32, .ref v33, .ref v34, .ref v35, .ref v36, .ref v37, .int 0]))]) [0] rfl
  have hD9 := hD.sub (ws' := [(w0, .inr (11, [.ref v0, .ref v1, .ref v2, .ref v3, .ref v4, .long 0, .long 0, .int 0, .int 0, .ref v9, .int 0, .int 0, .int (-1), .ref v13, .int 0, .int 0, .int 0, .int 0, .int 0, .int 0, .int 0, .int 0, .int 0, .int 0, .int 0, .long 0, .int 0, .ref v27, .ref v28, .ref v29, .ref v30, .ref v31, .ref v32, .ref v33, .ref v34, .ref v35, .ref v36, .ref v37, .int 0]))]) [0] (by decide) rfl
  refine W.widen (k := 0) (n := 0) (Nat.le_of_ble_eq_true rfl) (Nat.le_of_ble_eq_true rfl) ?_
  exact W.iret (v := 0) hx hb hr (fun t ht hW => ⟨⟨0, (), rfl, rfl, by rw [ht]; exact hP9, hD9⟩, hS.F ht⟩) hS.2.2 dX10_fees_12

set_option maxHeartbeats 4000000 in
set_option maxRecDepth 100000 in
/-- refunded -/
theorem c_m_refunded (l : Launch) (D : va_G) (cA : Nat → ClassId) (sa : Nat → Nat) (w0 v0 v1 v2 v3 v4 v9 v13 v27 v28 v29 v30 v31 v32 v33 v34 v35 v36 v37 : Nat) (th : Int32) (fs : Nat → Int32) (sz : Nat) (hz : Zs fs) : Met l yX10_refunded wsX10_refunded ({ frames := 0, cells := 0, slots := 0, locals := 0 }) (va_Pc [.ref w0] (Wd D cA sa [(w0, .inr (11, [.ref v0, .ref v1, .ref v2, .ref v3, .ref v4, .long 0, .long 0, .int 0, .int th, .ref v9, .int 0, .int 0, .int (-1), .ref v13, .int 0, .int 0, .int 0, .int 0, .int 0, .int 0, .int 0, .int 0, .int 0, .int 0, .int 0, .long 0, .int 0, .ref v27, .ref v28, .ref v29, .ref v30, .ref v31, .ref v32, .ref v33, .ref v34, .ref v35, .ref v36, .ref v37, .int 0])), (v0, .inl (cA 0, 326, .inl fs))] sz)) (va_Qi (fun (r : Int32) (_ : Unit) => r = 0) (fun (_ : Unit) t => Wq D (va_A [(w0, .inr (11, [.ref v0, .ref v1, .ref v2, .ref v3, .ref v4, .long 0, .long 0, .int 0, .int th, .ref v9, .int 0, .int 0, .int (-1), .ref v13, .int 0, .int 0, .int 0, .int 0, .int 0, .int 0, .int 0, .int 0, .int 0, .int 0, .int 0, .long 0, .int 0, .ref v27, .ref v28, .ref v29, .ref v30, .ref v31, .ref v32, .ref v33, .ref v34, .ref v35, .ref v36, .ref v37, .int 0])), (v0, .inl (cA 0, 326, .inl fs))] sz) [(w0, .inr (11, [.ref v0, .ref v1, .ref v2, .ref v3, .ref v4, .long 0, .long 0, .int 0, .int 0, .ref v9, .int 0, .int 0, .int (-1), .ref v13, .int 0, .int 0, .int 0, .int 0, .int 0, .int 0, .int 0, .int 0, .int 0, .int 0, .int 0, .long 0, .int 0, .ref v27, .ref v28, .ref v29, .ref v30, .ref v31, .ref v32, .ref v33, .ref v34, .ref v35, .ref v36, .ref v37, .int 0]))] t) (va_A [(w0, .inr (11, [.ref v0, .ref v1, .ref v2, .ref v3, .ref v4, .long 0, .long 0, .int 0, .int th, .ref v9, .int 0, .int 0, .int (-1), .ref v13, .int 0, .int 0, .int 0, .int 0, .int 0, .int 0, .int 0, .int 0, .int 0, .int 0, .int 0, .long 0, .int 0, .ref v27, .ref v28, .ref v29, .ref v30, .ref v31, .ref v32, .ref v33, .ref v34, .ref v35, .ref v36, .ref v37, .int 0])), (v0, .inl (cA 0, 326, .inl fs))] sz)) 0 0 (va_A [(w0, .inr (11, [.ref v0, .ref v1, .ref v2, .ref v3, .ref v4, .long 0, .long 0, .int 0, .int th, .ref v9, .int 0, .int 0, .int (-1), .ref v13, .int 0, .int 0, .int 0, .int 0, .int 0, .int 0, .int 0, .int 0, .int 0, .int 0, .int 0, .long 0, .int 0, .ref v27, .ref v28, .ref v29, .ref v30, .ref v31, .ref v32, .ref v33, .ref v34, .ref v35, .ref v36, .ref v37, .int 0])), (v0, .inl (cA 0, 326, .inl fs))] sz) := by
  refine Met.ofW (cc := cX10_refunded) (maxL := 1) (ret := (some .int)) (by decide) rfl ?_
  intro p e s m args below meth c s₁ B hml hv
  obtain ⟨rfl, hsz, hP, hK, hD0, hC, hZ⟩ := hv
  have hx := B.exec
  have hb := B.bytes
  have hr := B.returns
  have hts := atoms_spec (ws := wsX10_refunded) B.pre
  have hown : s.vm.findClass RX10 = some m.cls := findClass_of_methodNamed B.named
  have hlocks := B.notSynchronized
  subst hsz
  have hD := hD0.self (sz := s.heap.size)
  generalize hAe : va_A [(w0, .inr (11, [.ref v0, .ref v1, .ref v2, .ref v3, .ref v4, .long 0, .long 0, .int 0, .int th, .ref v9, .int 0, .int 0, .int (-1), .ref v13, .int 0, .int 0, .int 0, .int 0, .int 0, .int 0, .int 0, .int 0, .int 0, .int 0, .int 0, .long 0, .int 0, .ref v27, .ref v28, .ref v29, .ref v30, .ref v31, .ref v32, .ref v33, .ref v34, .ref v35, .ref v36, .ref v37, .int 0])), (v0, .inl (cA 0, 326, .inl fs))] s.heap.size = A at hD hZ ⊢
  have hA : ∀ q : Nat, s.heap.size ≤ q → A q := fun q h => by rw [← hAe]; exact Or.inr h
  have hS : va_S A s.heap s.heap [] := va_S.rf
  have hP : va_P D vwCl [(w0, .inr (11, [.ref v0, .ref v1, .ref v2, .ref v3, .ref v4, .long 0, .long 0, .int 0, .int th, .ref v9, .int 0, .int 0, .int (-1), .ref v13, .int 0, .int 0, .int 0, .int 0, .int 0, .int 0, .int 0, .int 0, .int 0, .int 0, .int 0, .long 0, .int 0, .ref v27, .ref v28, .ref v29, .ref v30, .ref v31, .ref v32, .ref v33, .ref v34, .ref v35, .ref v36, .ref v37, .int 0])), (v0, .inl (cA 0, 326, .inl fs))] s.heap := hP
  have hl := lv_entry ([.ref w0]) (n := 1) (Nat.le_of_ble_eq_true rfl)
  rw [lg_entry_eq]
  generalize (lg_sl ([.ref w0]) ++ List.replicate (1 - (lg_sl ([.ref w0])).length) Slot.unset).toArray = ls at hl ⊢
  have hl : lv_has ls 1 [(0, .ref w0)] := hl
  have inX10 : ∀ w ∈ u_ws RX10 TX10 39, w ∈ wsX10_refunded := by decide +kernel
  refine lv_aload_n hx hb dX10_refunded_0 rfl (lv_at hl 0 rfl) ?_
  refine lv_iconst (v := 0) hx hb dX10_refunded_1 (by decide) ?_
  refine va_put (D := D) (ci := 11) (v := .int 0) (ty := .int) (C := RX10) (T := TX10) (N := 39) hx hb hts inX10 tyX10 tyX10_ok nmX10 hown hK hP hD hS 0 rfl rfl 8 (by decide) (hts (.fieldLink RX10 80 "EscrowDeskModel" "thrown" "I") (by decide +kernel)) (fun _ h9 => h9) rfl (by decide +kernel) rfl rfl (Nat.le_of_ble_eq_true rfl) dX10_refunded_2 (fun H locs hP hD hS => ?_)
  have hP : va_P D vwCl [(w0, .inr (11, [.ref v0, .ref v1, .ref v2, .ref v3, .ref v4, .long 0, .long 0, .int 0, .int 0, .ref v9, .int 0, .int 0, .int (-1), .ref v13, .int 0, .int 0, .int 0, .int 0, .int 0, .int 0, .int 0, .int 0, .int 0, .int 0, .int 0, .long 0, .int 0, .ref v27, .ref v28, .ref v29, .ref v30, .ref v31, .ref v32, .ref v33, .ref v34, .ref v35, .ref v36, .ref v37, .int 0])), (v0, .inl (cA 0, 326, .inl fs))] H := hP
  have hD : va_D A [(w0, .inr (11, [.ref v0, .ref v1, .ref v2, .ref v3, .ref v4, .long 0, .long 0, .int 0, .int 0, .ref v9, .int 0, .int 0, .int (-1), .ref v13, .int 0, .int 0, .int 0, .int 0, .int 0, .int 0, .int 0, .int 0, .int 0, .int 0, .int 0, .long 0, .int 0, .ref v27, .ref v28, .ref v29, .ref v30, .ref v31, .ref v32, .ref v33, .ref v34, .ref v35, .ref v36, .ref v37, .int 0])), (v0, .inl (cA 0, 326, .inl fs))] := hD
  refine lv_aload_n hx hb dX10_refunded_5 rfl (lv_at hl 0 rfl) ?_
  refine va_get (D := D) (ci := 11) (v := .ref v0) (C := RX10) (T := TX10) (N := 39) hx hb hts inX10 hown hK hP 0 rfl rfl 0 (by decide) (hts (.fieldLink RX10 7 "EscrowDeskModel" "s" "[I") (by decide +kernel)) (fun _ h9 => h9) rfl dX10_refunded_6 ?_
  refine lv_bipush (v := 11) hx hb dX10_refunded_9 (by decide) ?_
  refine va_iald hx hb hK hP 1 0 rfl rfl (vp_in_iff.mpr (by decide)) dX10_refunded_11 ?_
  refine lv_topi (fun yn1 eyn1 => ?_)
  obtain rfl : yn1 = 0 := eyn1.trans (hz.2 11 (by decide) (by decide))
  have hP9 := hP.sub (ws' := [(w0, .inr (11, [.ref v0, .ref v1, .ref v2, .ref v3, .ref v4, .long 0, .long 0, .int 0, .int 0, .ref v9, .int 0, .int 0, .int (-1), .ref v13, .int 0, .int 0, .int 0, .int 0, .int 0, .int 0, .int 0, .int 0, .int 0, .int 0, .int 0, .long 0, .int 0, .ref v27, .ref v28, .ref v29, .ref v30, .ref v31, .ref v32, .ref v33, .ref v34, .ref v35, .ref v36, .ref v37, .int 0]))]) [0] rfl
  have hD9 := hD.sub (ws' := [(w0, .inr (11, [.ref v0, .ref v1, .ref v2, .ref v3, .ref v4, .long 0, .long 0, .int 0, .int 0, .ref v9, .int 0, .int 0, .int (-1), .ref v13, .int 0, .int 0, .int 0, .int 0, .int 0, .int 0, .int 0, .int 0, .int 0, .int 0, .int 0, .long 0, .int 0, .ref v27, .ref v28, .ref v29, .ref v30, .ref v31, .ref v32, .ref v33, .ref v34, .ref v35, .ref v36, .ref v37, .int 0]))]) [0] (by decide) rfl
  refine W.widen (k := 0) (n := 0) (Nat.le_of_ble_eq_true rfl) (Nat.le_of_ble_eq_true rfl) ?_
  exact W.iret (v := 0) hx hb hr (fun t ht hW => ⟨⟨0, (), rfl, rfl, by rw [ht]; exact hP9, hD9⟩, hS.F ht⟩) hS.2.2 dX10_refunded_12

set_option maxHeartbeats 4000000 in
set_option maxRecDepth 100000 in
/-- milestones -/
theorem c_m_milestones (l : Launch) (D : va_G) (cA : Nat → ClassId) (sa : Nat → Nat) (w0 v0 v1 v2 v3 v4 v9 v13 v27 v28 v29 v30 v31 v32 v33 v34 v35 v36 v37 : Nat) (th : Int32) (fs : Nat → Int32) (sz : Nat) (hz : Zs fs) : Met l yX10_milestones wsX10_milestones ({ frames := 0, cells := 0, slots := 0, locals := 0 }) (va_Pc [.ref w0] (Wd D cA sa [(w0, .inr (11, [.ref v0, .ref v1, .ref v2, .ref v3, .ref v4, .long 0, .long 0, .int 0, .int th, .ref v9, .int 0, .int 0, .int (-1), .ref v13, .int 0, .int 0, .int 0, .int 0, .int 0, .int 0, .int 0, .int 0, .int 0, .int 0, .int 0, .long 0, .int 0, .ref v27, .ref v28, .ref v29, .ref v30, .ref v31, .ref v32, .ref v33, .ref v34, .ref v35, .ref v36, .ref v37, .int 0])), (v0, .inl (cA 0, 326, .inl fs))] sz)) (va_Qi (fun (r : Int32) (_ : Unit) => r = 0) (fun (_ : Unit) t => Wq D (va_A [(w0, .inr (11, [.ref v0, .ref v1, .ref v2, .ref v3, .ref v4, .long 0, .long 0, .int 0, .int th, .ref v9, .int 0, .int 0, .int (-1), .ref v13, .int 0, .int 0, .int 0, .int 0, .int 0, .int 0, .int 0, .int 0, .int 0, .int 0, .int 0, .long 0, .int 0, .ref v27, .ref v28, .ref v29, .ref v30, .ref v31, .ref v32, .ref v33, .ref v34, .ref v35, .ref v36, .ref v37, .int 0])), (v0, .inl (cA 0, 326, .inl fs))] sz) [(w0, .inr (11, [.ref v0, .ref v1, .ref v2, .ref v3, .ref v4, .long 0, .long 0, .int 0, .int 0, .ref v9, .int 0, .int 0, .int (-1), .ref v13, .int 0, .int 0, .int 0, .int 0, .int 0, .int 0, .int 0, .int 0, .int 0, .int 0, .int 0, .long 0, .int 0, .ref v27, .ref v28, .ref v29, .ref v30, .ref v31, .ref v32, .ref v33, .ref v34, .ref v35, .ref v36, .ref v37, .int 0]))] t) (va_A [(w0, .inr (11, [.ref v0, .ref v1, .ref v2, .ref v3, .ref v4, .long 0, .long 0, .int 0, .int th, .ref v9, .int 0, .int 0, .int (-1), .ref v13, .int 0, .int 0, .int 0, .int 0, .int 0, .int 0, .int 0, .int 0, .int 0, .int 0, .int 0, .long 0, .int 0, .ref v27, .ref v28, .ref v29, .ref v30, .ref v31, .ref v32, .ref v33, .ref v34, .ref v35, .ref v36, .ref v37, .int 0])), (v0, .inl (cA 0, 326, .inl fs))] sz)) 0 0 (va_A [(w0, .inr (11, [.ref v0, .ref v1, .ref v2, .ref v3, .ref v4, .long 0, .long 0, .int 0, .int th, .ref v9, .int 0, .int 0, .int (-1), .ref v13, .int 0, .int 0, .int 0, .int 0, .int 0, .int 0, .int 0, .int 0, .int 0, .int 0, .int 0, .long 0, .int 0, .ref v27, .ref v28, .ref v29, .ref v30, .ref v31, .ref v32, .ref v33, .ref v34, .ref v35, .ref v36, .ref v37, .int 0])), (v0, .inl (cA 0, 326, .inl fs))] sz) := by
  refine Met.ofW (cc := cX10_milestones) (maxL := 1) (ret := (some .int)) (by decide) rfl ?_
  intro p e s m args below meth c s₁ B hml hv
  obtain ⟨rfl, hsz, hP, hK, hD0, hC, hZ⟩ := hv
  have hx := B.exec
  have hb := B.bytes
  have hr := B.returns
  have hts := atoms_spec (ws := wsX10_milestones) B.pre
  have hown : s.vm.findClass RX10 = some m.cls := findClass_of_methodNamed B.named
  have hlocks := B.notSynchronized
  subst hsz
  have hD := hD0.self (sz := s.heap.size)
  generalize hAe : va_A [(w0, .inr (11, [.ref v0, .ref v1, .ref v2, .ref v3, .ref v4, .long 0, .long 0, .int 0, .int th, .ref v9, .int 0, .int 0, .int (-1), .ref v13, .int 0, .int 0, .int 0, .int 0, .int 0, .int 0, .int 0, .int 0, .int 0, .int 0, .int 0, .long 0, .int 0, .ref v27, .ref v28, .ref v29, .ref v30, .ref v31, .ref v32, .ref v33, .ref v34, .ref v35, .ref v36, .ref v37, .int 0])), (v0, .inl (cA 0, 326, .inl fs))] s.heap.size = A at hD hZ ⊢
  have hA : ∀ q : Nat, s.heap.size ≤ q → A q := fun q h => by rw [← hAe]; exact Or.inr h
  have hS : va_S A s.heap s.heap [] := va_S.rf
  have hP : va_P D vwCl [(w0, .inr (11, [.ref v0, .ref v1, .ref v2, .ref v3, .ref v4, .long 0, .long 0, .int 0, .int th, .ref v9, .int 0, .int 0, .int (-1), .ref v13, .int 0, .int 0, .int 0, .int 0, .int 0, .int 0, .int 0, .int 0, .int 0, .int 0, .int 0, .long 0, .int 0, .ref v27, .ref v28, .ref v29, .ref v30, .ref v31, .ref v32, .ref v33, .ref v34, .ref v35, .ref v36, .ref v37, .int 0])), (v0, .inl (cA 0, 326, .inl fs))] s.heap := hP
  have hl := lv_entry ([.ref w0]) (n := 1) (Nat.le_of_ble_eq_true rfl)
  rw [lg_entry_eq]
  generalize (lg_sl ([.ref w0]) ++ List.replicate (1 - (lg_sl ([.ref w0])).length) Slot.unset).toArray = ls at hl ⊢
  have hl : lv_has ls 1 [(0, .ref w0)] := hl
  have inX10 : ∀ w ∈ u_ws RX10 TX10 39, w ∈ wsX10_milestones := by decide +kernel
  refine lv_aload_n hx hb dX10_milestones_0 rfl (lv_at hl 0 rfl) ?_
  refine lv_iconst (v := 0) hx hb dX10_milestones_1 (by decide) ?_
  refine va_put (D := D) (ci := 11) (v := .int 0) (ty := .int) (C := RX10) (T := TX10) (N := 39) hx hb hts inX10 tyX10 tyX10_ok nmX10 hown hK hP hD hS 0 rfl rfl 8 (by decide) (hts (.fieldLink RX10 80 "EscrowDeskModel" "thrown" "I") (by decide +kernel)) (fun _ h9 => h9) rfl (by decide +kernel) rfl rfl (Nat.le_of_ble_eq_true rfl) dX10_milestones_2 (fun H locs hP hD hS => ?_)
  have hP : va_P D vwCl [(w0, .inr (11, [.ref v0, .ref v1, .ref v2, .ref v3, .ref v4, .long 0, .long 0, .int 0, .int 0, .ref v9, .int 0, .int 0, .int (-1), .ref v13, .int 0, .int 0, .int 0, .int 0, .int 0, .int 0, .int 0, .int 0, .int 0, .int 0, .int 0, .long 0, .int 0, .ref v27, .ref v28, .ref v29, .ref v30, .ref v31, .ref v32, .ref v33, .ref v34, .ref v35, .ref v36, .ref v37, .int 0])), (v0, .inl (cA 0, 326, .inl fs))] H := hP
  have hD : va_D A [(w0, .inr (11, [.ref v0, .ref v1, .ref v2, .ref v3, .ref v4, .long 0, .long 0, .int 0, .int 0, .ref v9, .int 0, .int 0, .int (-1), .ref v13, .int 0, .int 0, .int 0, .int 0, .int 0, .int 0, .int 0, .int 0, .int 0, .int 0, .int 0, .long 0, .int 0, .ref v27, .ref v28, .ref v29, .ref v30, .ref v31, .ref v32, .ref v33, .ref v34, .ref v35, .ref v36, .ref v37, .int 0])), (v0, .inl (cA 0, 326, .inl fs))] := hD
  refine lv_aload_n hx hb dX10_milestones_5 rfl (lv_at hl 0 rfl) ?_
  refine va_get (D := D) (ci := 11) (v := .ref v0) (C := RX10) (T := TX10) (N := 39) hx hb hts inX10 hown hK hP 0 rfl rfl 0 (by decide) (hts (.fieldLink RX10 7 "EscrowDeskModel" "s" "[I") (by decide +kernel)) (fun _ h9 => h9) rfl dX10_milestones_6 ?_
  refine lv_bipush (v := 13) hx hb dX10_milestones_9 (by decide) ?_
  refine va_iald hx hb hK hP 1 0 rfl rfl (vp_in_iff.mpr (by decide)) dX10_milestones_11 ?_
  refine lv_topi (fun yn1 eyn1 => ?_)
  obtain rfl : yn1 = 0 := eyn1.trans (hz.2 13 (by decide) (by decide))
  have hP9 := hP.sub (ws' := [(w0, .inr (11, [.ref v0, .ref v1, .ref v2, .ref v3, .ref v4, .long 0, .long 0, .int 0, .int 0, .ref v9, .int 0, .int 0, .int (-1), .ref v13, .int 0, .int 0, .int 0, .int 0, .int 0, .int 0, .int 0, .int 0, .int 0, .int 0, .int 0, .long 0, .int 0, .ref v27, .ref v28, .ref v29, .ref v30, .ref v31, .ref v32, .ref v33, .ref v34, .ref v35, .ref v36, .ref v37, .int 0]))]) [0] rfl
  have hD9 := hD.sub (ws' := [(w0, .inr (11, [.ref v0, .ref v1, .ref v2, .ref v3, .ref v4, .long 0, .long 0, .int 0, .int 0, .ref v9, .int 0, .int 0, .int (-1), .ref v13, .int 0, .int 0, .int 0, .int 0, .int 0, .int 0, .int 0, .int 0, .int 0, .int 0, .int 0, .long 0, .int 0, .ref v27, .ref v28, .ref v29, .ref v30, .ref v31, .ref v32, .ref v33, .ref v34, .ref v35, .ref v36, .ref v37, .int 0]))]) [0] (by decide) rfl
  refine W.widen (k := 0) (n := 0) (Nat.le_of_ble_eq_true rfl) (Nat.le_of_ble_eq_true rfl) ?_
  exact W.iret (v := 0) hx hb hr (fun t ht hW => ⟨⟨0, (), rfl, rfl, by rw [ht]; exact hP9, hD9⟩, hS.F ht⟩) hS.2.2 dX10_milestones_12

set_option maxHeartbeats 4000000 in
set_option maxRecDepth 100000 in
/-- proofs -/
theorem c_m_proofs (l : Launch) (D : va_G) (cA : Nat → ClassId) (sa : Nat → Nat) (w0 v0 v1 v2 v3 v4 v9 v13 v27 v28 v29 v30 v31 v32 v33 v34 v35 v36 v37 : Nat) (th : Int32) (fs : Nat → Int32) (sz : Nat) (hz : Zs fs) : Met l yX10_proofs wsX10_proofs ({ frames := 0, cells := 0, slots := 0, locals := 0 }) (va_Pc [.ref w0] (Wd D cA sa [(w0, .inr (11, [.ref v0, .ref v1, .ref v2, .ref v3, .ref v4, .long 0, .long 0, .int 0, .int th, .ref v9, .int 0, .int 0, .int (-1), .ref v13, .int 0, .int 0, .int 0, .int 0, .int 0, .int 0, .int 0, .int 0, .int 0, .int 0, .int 0, .long 0, .int 0, .ref v27, .ref v28, .ref v29, .ref v30, .ref v31, .ref v32, .ref v33, .ref v34, .ref v35, .ref v36, .ref v37, .int 0])), (v0, .inl (cA 0, 326, .inl fs))] sz)) (va_Qi (fun (r : Int32) (_ : Unit) => r = 0) (fun (_ : Unit) t => Wq D (va_A [(w0, .inr (11, [.ref v0, .ref v1, .ref v2, .ref v3, .ref v4, .long 0, .long 0, .int 0, .int th, .ref v9, .int 0, .int 0, .int (-1), .ref v13, .int 0, .int 0, .int 0, .int 0, .int 0, .int 0, .int 0, .int 0, .int 0, .int 0, .int 0, .long 0, .int 0, .ref v27, .ref v28, .ref v29, .ref v30, .ref v31, .ref v32, .ref v33, .ref v34, .ref v35, .ref v36, .ref v37, .int 0])), (v0, .inl (cA 0, 326, .inl fs))] sz) [(w0, .inr (11, [.ref v0, .ref v1, .ref v2, .ref v3, .ref v4, .long 0, .long 0, .int 0, .int 0, .ref v9, .int 0, .int 0, .int (-1), .ref v13, .int 0, .int 0, .int 0, .int 0, .int 0, .int 0, .int 0, .int 0, .int 0, .int 0, .int 0, .long 0, .int 0, .ref v27, .ref v28, .ref v29, .ref v30, .ref v31, .ref v32, .ref v33, .ref v34, .ref v35, .ref v36, .ref v37, .int 0]))] t) (va_A [(w0, .inr (11, [.ref v0, .ref v1, .ref v2, .ref v3, .ref v4, .long 0, .long 0, .int 0, .int th, .ref v9, .int 0, .int 0, .int (-1), .ref v13, .int 0, .int 0, .int 0, .int 0, .int 0, .int 0, .int 0, .int 0, .int 0, .int 0, .int 0, .long 0, .int 0, .ref v27, .ref v28, .ref v29, .ref v30, .ref v31, .ref v32, .ref v33, .ref v34, .ref v35, .ref v36, .ref v37, .int 0])), (v0, .inl (cA 0, 326, .inl fs))] sz)) 0 0 (va_A [(w0, .inr (11, [.ref v0, .ref v1, .ref v2, .ref v3, .ref v4, .long 0, .long 0, .int 0, .int th, .ref v9, .int 0, .int 0, .int (-1), .ref v13, .int 0, .int 0, .int 0, .int 0, .int 0, .int 0, .int 0, .int 0, .int 0, .int 0, .int 0, .long 0, .int 0, .ref v27, .ref v28, .ref v29, .ref v30, .ref v31, .ref v32, .ref v33, .ref v34, .ref v35, .ref v36, .ref v37, .int 0])), (v0, .inl (cA 0, 326, .inl fs))] sz) := by
  refine Met.ofW (cc := cX10_proofs) (maxL := 1) (ret := (some .int)) (by decide) rfl ?_
  intro p e s m args below meth c s₁ B hml hv
  obtain ⟨rfl, hsz, hP, hK, hD0, hC, hZ⟩ := hv
  have hx := B.exec
  have hb := B.bytes
  have hr := B.returns
  have hts := atoms_spec (ws := wsX10_proofs) B.pre
  have hown : s.vm.findClass RX10 = some m.cls := findClass_of_methodNamed B.named
  have hlocks := B.notSynchronized
  subst hsz
  have hD := hD0.self (sz := s.heap.size)
  generalize hAe : va_A [(w0, .inr (11, [.ref v0, .ref v1, .ref v2, .ref v3, .ref v4, .long 0, .long 0, .int 0, .int th, .ref v9, .int 0, .int 0, .int (-1), .ref v13, .int 0, .int 0, .int 0, .int 0, .int 0, .int 0, .int 0, .int 0, .int 0, .int 0, .int 0, .long 0, .int 0, .ref v27, .ref v28, .ref v29, .ref v30, .ref v31, .ref v32, .ref v33, .ref v34, .ref v35, .ref v36, .ref v37, .int 0])), (v0, .inl (cA 0, 326, .inl fs))] s.heap.size = A at hD hZ ⊢
  have hA : ∀ q : Nat, s.heap.size ≤ q → A q := fun q h => by rw [← hAe]; exact Or.inr h
  have hS : va_S A s.heap s.heap [] := va_S.rf
  have hP : va_P D vwCl [(w0, .inr (11, [.ref v0, .ref v1, .ref v2, .ref v3, .ref v4, .long 0, .long 0, .int 0, .int th, .ref v9, .int 0, .int 0, .int (-1), .ref v13, .int 0, .int 0, .int 0, .int 0, .int 0, .int 0, .int 0, .int 0, .int 0, .int 0, .int 0, .long 0, .int 0, .ref v27, .ref v28, .ref v29, .ref v30, .ref v31, .ref v32, .ref v33, .ref v34, .ref v35, .ref v36, .ref v37, .int 0])), (v0, .inl (cA 0, 326, .inl fs))] s.heap := hP
  have hl := lv_entry ([.ref w0]) (n := 1) (Nat.le_of_ble_eq_true rfl)
  rw [lg_entry_eq]
  generalize (lg_sl ([.ref w0]) ++ List.replicate (1 - (lg_sl ([.ref w0])).length) Slot.unset).toArray = ls at hl ⊢
  have hl : lv_has ls 1 [(0, .ref w0)] := hl
  have inX10 : ∀ w ∈ u_ws RX10 TX10 39, w ∈ wsX10_proofs := by decide +kernel
  refine lv_aload_n hx hb dX10_proofs_0 rfl (lv_at hl 0 rfl) ?_
  refine lv_iconst (v := 0) hx hb dX10_proofs_1 (by decide) ?_
  refine va_put (D := D) (ci := 11) (v := .int 0) (ty := .int) (C := RX10) (T := TX10) (N := 39) hx hb hts inX10 tyX10 tyX10_ok nmX10 hown hK hP hD hS 0 rfl rfl 8 (by decide) (hts (.fieldLink RX10 80 "EscrowDeskModel" "thrown" "I") (by decide +kernel)) (fun _ h9 => h9) rfl (by decide +kernel) rfl rfl (Nat.le_of_ble_eq_true rfl) dX10_proofs_2 (fun H locs hP hD hS => ?_)
  have hP : va_P D vwCl [(w0, .inr (11, [.ref v0, .ref v1, .ref v2, .ref v3, .ref v4, .long 0, .long 0, .int 0, .int 0, .ref v9, .int 0, .int 0, .int (-1), .ref v13, .int 0, .int 0, .int 0, .int 0, .int 0, .int 0, .int 0, .int 0, .int 0, .int 0, .int 0, .long 0, .int 0, .ref v27, .ref v28, .ref v29, .ref v30, .ref v31, .ref v32, .ref v33, .ref v34, .ref v35, .ref v36, .ref v37, .int 0])), (v0, .inl (cA 0, 326, .inl fs))] H := hP
  have hD : va_D A [(w0, .inr (11, [.ref v0, .ref v1, .ref v2, .ref v3, .ref v4, .long 0, .long 0, .int 0, .int 0, .ref v9, .int 0, .int 0, .int (-1), .ref v13, .int 0, .int 0, .int 0, .int 0, .int 0, .int 0, .int 0, .int 0, .int 0, .int 0, .int 0, .long 0, .int 0, .ref v27, .ref v28, .ref v29, .ref v30, .ref v31, .ref v32, .ref v33, .ref v34, .ref v35, .ref v36, .ref v37, .int 0])), (v0, .inl (cA 0, 326, .inl fs))] := hD
  refine lv_aload_n hx hb dX10_proofs_5 rfl (lv_at hl 0 rfl) ?_
  refine va_get (D := D) (ci := 11) (v := .ref v0) (C := RX10) (T := TX10) (N := 39) hx hb hts inX10 hown hK hP 0 rfl rfl 0 (by decide) (hts (.fieldLink RX10 7 "EscrowDeskModel" "s" "[I") (by decide +kernel)) (fun _ h9 => h9) rfl dX10_proofs_6 ?_
  refine lv_bipush (v := 14) hx hb dX10_proofs_9 (by decide) ?_
  refine va_iald hx hb hK hP 1 0 rfl rfl (vp_in_iff.mpr (by decide)) dX10_proofs_11 ?_
  refine lv_topi (fun yn1 eyn1 => ?_)
  obtain rfl : yn1 = 0 := eyn1.trans (hz.2 14 (by decide) (by decide))
  have hP9 := hP.sub (ws' := [(w0, .inr (11, [.ref v0, .ref v1, .ref v2, .ref v3, .ref v4, .long 0, .long 0, .int 0, .int 0, .ref v9, .int 0, .int 0, .int (-1), .ref v13, .int 0, .int 0, .int 0, .int 0, .int 0, .int 0, .int 0, .int 0, .int 0, .int 0, .int 0, .long 0, .int 0, .ref v27, .ref v28, .ref v29, .ref v30, .ref v31, .ref v32, .ref v33, .ref v34, .ref v35, .ref v36, .ref v37, .int 0]))]) [0] rfl
  have hD9 := hD.sub (ws' := [(w0, .inr (11, [.ref v0, .ref v1, .ref v2, .ref v3, .ref v4, .long 0, .long 0, .int 0, .int 0, .ref v9, .int 0, .int 0, .int (-1), .ref v13, .int 0, .int 0, .int 0, .int 0, .int 0, .int 0, .int 0, .int 0, .int 0, .int 0, .int 0, .long 0, .int 0, .ref v27, .ref v28, .ref v29, .ref v30, .ref v31, .ref v32, .ref v33, .ref v34, .ref v35, .ref v36, .ref v37, .int 0]))]) [0] (by decide) rfl
  refine W.widen (k := 0) (n := 0) (Nat.le_of_ble_eq_true rfl) (Nat.le_of_ble_eq_true rfl) ?_
  exact W.iret (v := 0) hx hb hr (fun t ht hW => ⟨⟨0, (), rfl, rfl, by rw [ht]; exact hP9, hD9⟩, hS.F ht⟩) hS.2.2 dX10_proofs_12

set_option maxHeartbeats 4000000 in
set_option maxRecDepth 100000 in
/-- entries -/
theorem c_m_entries (l : Launch) (D : va_G) (cA : Nat → ClassId) (sa : Nat → Nat) (w0 v0 v1 v2 v3 v4 v9 v13 v27 v28 v29 v30 v31 v32 v33 v34 v35 v36 v37 : Nat) (th : Int32) (fs : Nat → Int32) (sz : Nat) (hz : Zs fs) : Met l yX10_entries wsX10_entries ({ frames := 0, cells := 0, slots := 0, locals := 0 }) (va_Pc [.ref w0] (Wd D cA sa [(w0, .inr (11, [.ref v0, .ref v1, .ref v2, .ref v3, .ref v4, .long 0, .long 0, .int 0, .int th, .ref v9, .int 0, .int 0, .int (-1), .ref v13, .int 0, .int 0, .int 0, .int 0, .int 0, .int 0, .int 0, .int 0, .int 0, .int 0, .int 0, .long 0, .int 0, .ref v27, .ref v28, .ref v29, .ref v30, .ref v31, .ref v32, .ref v33, .ref v34, .ref v35, .ref v36, .ref v37, .int 0])), (v0, .inl (cA 0, 326, .inl fs))] sz)) (va_Qi (fun (r : Int32) (_ : Unit) => r = 0) (fun (_ : Unit) t => Wq D (va_A [(w0, .inr (11, [.ref v0, .ref v1, .ref v2, .ref v3, .ref v4, .long 0, .long 0, .int 0, .int th, .ref v9, .int 0, .int 0, .int (-1), .ref v13, .int 0, .int 0, .int 0, .int 0, .int 0, .int 0, .int 0, .int 0, .int 0, .int 0, .int 0, .long 0, .int 0, .ref v27, .ref v28, .ref v29, .ref v30, .ref v31, .ref v32, .ref v33, .ref v34, .ref v35, .ref v36, .ref v37, .int 0])), (v0, .inl (cA 0, 326, .inl fs))] sz) [(w0, .inr (11, [.ref v0, .ref v1, .ref v2, .ref v3, .ref v4, .long 0, .long 0, .int 0, .int 0, .ref v9, .int 0, .int 0, .int (-1), .ref v13, .int 0, .int 0, .int 0, .int 0, .int 0, .int 0, .int 0, .int 0, .int 0, .int 0, .int 0, .long 0, .int 0, .ref v27, .ref v28, .ref v29, .ref v30, .ref v31, .ref v32, .ref v33, .ref v34, .ref v35, .ref v36, .ref v37, .int 0]))] t) (va_A [(w0, .inr (11, [.ref v0, .ref v1, .ref v2, .ref v3, .ref v4, .long 0, .long 0, .int 0, .int th, .ref v9, .int 0, .int 0, .int (-1), .ref v13, .int 0, .int 0, .int 0, .int 0, .int 0, .int 0, .int 0, .int 0, .int 0, .int 0, .int 0, .long 0, .int 0, .ref v27, .ref v28, .ref v29, .ref v30, .ref v31, .ref v32, .ref v33, .ref v34, .ref v35, .ref v36, .ref v37, .int 0])), (v0, .inl (cA 0, 326, .inl fs))] sz)) 0 0 (va_A [(w0, .inr (11, [.ref v0, .ref v1, .ref v2, .ref v3, .ref v4, .long 0, .long 0, .int 0, .int th, .ref v9, .int 0, .int 0, .int (-1), .ref v13, .int 0, .int 0, .int 0, .int 0, .int 0, .int 0, .int 0, .int 0, .int 0, .int 0, .int 0, .long 0, .int 0, .ref v27, .ref v28, .ref v29, .ref v30, .ref v31, .ref v32, .ref v33, .ref v34, .ref v35, .ref v36, .ref v37, .int 0])), (v0, .inl (cA 0, 326, .inl fs))] sz) := by
  refine Met.ofW (cc := cX10_entries) (maxL := 1) (ret := (some .int)) (by decide) rfl ?_
  intro p e s m args below meth c s₁ B hml hv
  obtain ⟨rfl, hsz, hP, hK, hD0, hC, hZ⟩ := hv
  have hx := B.exec
  have hb := B.bytes
  have hr := B.returns
  have hts := atoms_spec (ws := wsX10_entries) B.pre
  have hown : s.vm.findClass RX10 = some m.cls := findClass_of_methodNamed B.named
  have hlocks := B.notSynchronized
  subst hsz
  have hD := hD0.self (sz := s.heap.size)
  generalize hAe : va_A [(w0, .inr (11, [.ref v0, .ref v1, .ref v2, .ref v3, .ref v4, .long 0, .long 0, .int 0, .int th, .ref v9, .int 0, .int 0, .int (-1), .ref v13, .int 0, .int 0, .int 0, .int 0, .int 0, .int 0, .int 0, .int 0, .int 0, .int 0, .int 0, .long 0, .int 0, .ref v27, .ref v28, .ref v29, .ref v30, .ref v31, .ref v32, .ref v33, .ref v34, .ref v35, .ref v36, .ref v37, .int 0])), (v0, .inl (cA 0, 326, .inl fs))] s.heap.size = A at hD hZ ⊢
  have hA : ∀ q : Nat, s.heap.size ≤ q → A q := fun q h => by rw [← hAe]; exact Or.inr h
  have hS : va_S A s.heap s.heap [] := va_S.rf
  have hP : va_P D vwCl [(w0, .inr (11, [.ref v0, .ref v1, .ref v2, .ref v3, .ref v4, .long 0, .long 0, .int 0, .int th, .ref v9, .int 0, .int 0, .int (-1), .ref v13, .int 0, .int 0, .int 0, .int 0, .int 0, .int 0, .int 0, .int 0, .int 0, .int 0, .int 0, .long 0, .int 0, .ref v27, .ref v28, .ref v29, .ref v30, .ref v31, .ref v32, .ref v33, .ref v34, .ref v35, .ref v36, .ref v37, .int 0])), (v0, .inl (cA 0, 326, .inl fs))] s.heap := hP
  have hl := lv_entry ([.ref w0]) (n := 1) (Nat.le_of_ble_eq_true rfl)
  rw [lg_entry_eq]
  generalize (lg_sl ([.ref w0]) ++ List.replicate (1 - (lg_sl ([.ref w0])).length) Slot.unset).toArray = ls at hl ⊢
  have hl : lv_has ls 1 [(0, .ref w0)] := hl
  have inX10 : ∀ w ∈ u_ws RX10 TX10 39, w ∈ wsX10_entries := by decide +kernel
  refine lv_aload_n hx hb dX10_entries_0 rfl (lv_at hl 0 rfl) ?_
  refine lv_iconst (v := 0) hx hb dX10_entries_1 (by decide) ?_
  refine va_put (D := D) (ci := 11) (v := .int 0) (ty := .int) (C := RX10) (T := TX10) (N := 39) hx hb hts inX10 tyX10 tyX10_ok nmX10 hown hK hP hD hS 0 rfl rfl 8 (by decide) (hts (.fieldLink RX10 80 "EscrowDeskModel" "thrown" "I") (by decide +kernel)) (fun _ h9 => h9) rfl (by decide +kernel) rfl rfl (Nat.le_of_ble_eq_true rfl) dX10_entries_2 (fun H locs hP hD hS => ?_)
  have hP : va_P D vwCl [(w0, .inr (11, [.ref v0, .ref v1, .ref v2, .ref v3, .ref v4, .long 0, .long 0, .int 0, .int 0, .ref v9, .int 0, .int 0, .int (-1), .ref v13, .int 0, .int 0, .int 0, .int 0, .int 0, .int 0, .int 0, .int 0, .int 0, .int 0, .int 0, .long 0, .int 0, .ref v27, .ref v28, .ref v29, .ref v30, .ref v31, .ref v32, .ref v33, .ref v34, .ref v35, .ref v36, .ref v37, .int 0])), (v0, .inl (cA 0, 326, .inl fs))] H := hP
  have hD : va_D A [(w0, .inr (11, [.ref v0, .ref v1, .ref v2, .ref v3, .ref v4, .long 0, .long 0, .int 0, .int 0, .ref v9, .int 0, .int 0, .int (-1), .ref v13, .int 0, .int 0, .int 0, .int 0, .int 0, .int 0, .int 0, .int 0, .int 0, .int 0, .int 0, .long 0, .int 0, .ref v27, .ref v28, .ref v29, .ref v30, .ref v31, .ref v32, .ref v33, .ref v34, .ref v35, .ref v36, .ref v37, .int 0])), (v0, .inl (cA 0, 326, .inl fs))] := hD
  refine lv_aload_n hx hb dX10_entries_5 rfl (lv_at hl 0 rfl) ?_
  refine va_get (D := D) (ci := 11) (v := .ref v0) (C := RX10) (T := TX10) (N := 39) hx hb hts inX10 hown hK hP 0 rfl rfl 0 (by decide) (hts (.fieldLink RX10 7 "EscrowDeskModel" "s" "[I") (by decide +kernel)) (fun _ h9 => h9) rfl dX10_entries_6 ?_
  refine lv_bipush (v := 15) hx hb dX10_entries_9 (by decide) ?_
  refine va_iald hx hb hK hP 1 0 rfl rfl (vp_in_iff.mpr (by decide)) dX10_entries_11 ?_
  refine lv_topi (fun yn1 eyn1 => ?_)
  obtain rfl : yn1 = 0 := eyn1.trans (hz.2 15 (by decide) (by decide))
  have hP9 := hP.sub (ws' := [(w0, .inr (11, [.ref v0, .ref v1, .ref v2, .ref v3, .ref v4, .long 0, .long 0, .int 0, .int 0, .ref v9, .int 0, .int 0, .int (-1), .ref v13, .int 0, .int 0, .int 0, .int 0, .int 0, .int 0, .int 0, .int 0, .int 0, .int 0, .int 0, .long 0, .int 0, .ref v27, .ref v28, .ref v29, .ref v30, .ref v31, .ref v32, .ref v33, .ref v34, .ref v35, .ref v36, .ref v37, .int 0]))]) [0] rfl
  have hD9 := hD.sub (ws' := [(w0, .inr (11, [.ref v0, .ref v1, .ref v2, .ref v3, .ref v4, .long 0, .long 0, .int 0, .int 0, .ref v9, .int 0, .int 0, .int (-1), .ref v13, .int 0, .int 0, .int 0, .int 0, .int 0, .int 0, .int 0, .int 0, .int 0, .int 0, .int 0, .long 0, .int 0, .ref v27, .ref v28, .ref v29, .ref v30, .ref v31, .ref v32, .ref v33, .ref v34, .ref v35, .ref v36, .ref v37, .int 0]))]) [0] (by decide) rfl
  refine W.widen (k := 0) (n := 0) (Nat.le_of_ble_eq_true rfl) (Nat.le_of_ble_eq_true rfl) ?_
  exact W.iret (v := 0) hx hb hr (fun t ht hW => ⟨⟨0, (), rfl, rfl, by rw [ht]; exact hP9, hD9⟩, hS.F ht⟩) hS.2.2 dX10_entries_12

set_option maxHeartbeats 4000000 in
set_option maxRecDepth 100000 in
/-- availableNow -/
theorem c_m_availableNow (l : Launch) (D : va_G) (cA : Nat → ClassId) (sa : Nat → Nat) (w0 v0 v1 v2 v3 v4 v9 v13 v27 v28 v29 v30 v31 v32 v33 v34 v35 v36 v37 : Nat) (th : Int32) (fs : Nat → Int32) (sz : Nat) (hz : Zd fs) : Met l yX10_availableNow wsX10_availableNow ({ frames := 0, cells := 0, slots := 0, locals := 0 }) (va_Pc [.ref w0] (Wd D cA sa [(w0, .inr (11, [.ref v0, .ref v1, .ref v2, .ref v3, .ref v4, .long 0, .long 0, .int 0, .int th, .ref v9, .int 0, .int 0, .int (-1), .ref v13, .int 0, .int 0, .int 0, .int 0, .int 0, .int 0, .int 0, .int 0, .int 0, .int 0, .int 0, .long 0, .int 0, .ref v27, .ref v28, .ref v29, .ref v30, .ref v31, .ref v32, .ref v33, .ref v34, .ref v35, .ref v36, .ref v37, .int 0])), (v0, .inl (cA 0, 326, .inl fs))] sz)) (va_Qi (fun (r : Int32) (_ : Unit) => r = 0) (fun (_ : Unit) t => Wq D (va_A [(w0, .inr (11, [.ref v0, .ref v1, .ref v2, .ref v3, .ref v4, .long 0, .long 0, .int 0, .int th, .ref v9, .int 0, .int 0, .int (-1), .ref v13, .int 0, .int 0, .int 0, .int 0, .int 0, .int 0, .int 0, .int 0, .int 0, .int 0, .int 0, .long 0, .int 0, .ref v27, .ref v28, .ref v29, .ref v30, .ref v31, .ref v32, .ref v33, .ref v34, .ref v35, .ref v36, .ref v37, .int 0])), (v0, .inl (cA 0, 326, .inl fs))] sz) [(w0, .inr (11, [.ref v0, .ref v1, .ref v2, .ref v3, .ref v4, .long 0, .long 0, .int 0, .int th, .ref v9, .int 0, .int 0, .int (-1), .ref v13, .int 0, .int 0, .int 0, .int 0, .int 0, .int 0, .int 0, .int 0, .int 0, .int 0, .int 0, .long 0, .int 0, .ref v27, .ref v28, .ref v29, .ref v30, .ref v31, .ref v32, .ref v33, .ref v34, .ref v35, .ref v36, .ref v37, .int 0])), (v0, .inl (cA 0, 326, .inl fs))] t) (va_A [(w0, .inr (11, [.ref v0, .ref v1, .ref v2, .ref v3, .ref v4, .long 0, .long 0, .int 0, .int th, .ref v9, .int 0, .int 0, .int (-1), .ref v13, .int 0, .int 0, .int 0, .int 0, .int 0, .int 0, .int 0, .int 0, .int 0, .int 0, .int 0, .long 0, .int 0, .ref v27, .ref v28, .ref v29, .ref v30, .ref v31, .ref v32, .ref v33, .ref v34, .ref v35, .ref v36, .ref v37, .int 0])), (v0, .inl (cA 0, 326, .inl fs))] sz)) 0 0 (va_A [(w0, .inr (11, [.ref v0, .ref v1, .ref v2, .ref v3, .ref v4, .long 0, .long 0, .int 0, .int th, .ref v9, .int 0, .int 0, .int (-1), .ref v13, .int 0, .int 0, .int 0, .int 0, .int 0, .int 0, .int 0, .int 0, .int 0, .int 0, .int 0, .long 0, .int 0, .ref v27, .ref v28, .ref v29, .ref v30, .ref v31, .ref v32, .ref v33, .ref v34, .ref v35, .ref v36, .ref v37, .int 0])), (v0, .inl (cA 0, 326, .inl fs))] sz) := by
  refine Met.ofW (cc := cX10_availableNow) (maxL := 3) (ret := (some .int)) (by decide) rfl ?_
  intro p e s m args below meth c s₁ B hml hv
  obtain ⟨rfl, hsz, hP, hK, hD0, hC, hZ⟩ := hv
  have hx := B.exec
  have hb := B.bytes
  have hr := B.returns
  have hts := atoms_spec (ws := wsX10_availableNow) B.pre
  have hown : s.vm.findClass RX10 = some m.cls := findClass_of_methodNamed B.named
  have hlocks := B.notSynchronized
  subst hsz
  have hD := hD0.self (sz := s.heap.size)
  generalize hAe : va_A [(w0, .inr (11, [.ref v0, .ref v1, .ref v2, .ref v3, .ref v4, .long 0, .long 0, .int 0, .int th, .ref v9, .int 0, .int 0, .int (-1), .ref v13, .int 0, .int 0, .int 0, .int 0, .int 0, .int 0, .int 0, .int 0, .int 0, .int 0, .int 0, .long 0, .int 0, .ref v27, .ref v28, .ref v29, .ref v30, .ref v31, .ref v32, .ref v33, .ref v34, .ref v35, .ref v36, .ref v37, .int 0])), (v0, .inl (cA 0, 326, .inl fs))] s.heap.size = A at hD hZ ⊢
  have hA : ∀ q : Nat, s.heap.size ≤ q → A q := fun q h => by rw [← hAe]; exact Or.inr h
  have hS : va_S A s.heap s.heap [] := va_S.rf
  have hP : va_P D vwCl [(w0, .inr (11, [.ref v0, .ref v1, .ref v2, .ref v3, .ref v4, .long 0, .long 0, .int 0, .int th, .ref v9, .int 0, .int 0, .int (-1), .ref v13, .int 0, .int 0, .int 0, .int 0, .int 0, .int 0, .int 0, .int 0, .int 0, .int 0, .int 0, .long 0, .int 0, .ref v27, .ref v28, .ref v29, .ref v30, .ref v31, .ref v32, .ref v33, .ref v34, .ref v35, .ref v36, .ref v37, .int 0])), (v0, .inl (cA 0, 326, .inl fs))] s.heap := hP
  have hl := lv_entry ([.ref w0]) (n := 3) (Nat.le_of_ble_eq_true rfl)
  rw [lg_entry_eq]
  generalize (lg_sl ([.ref w0]) ++ List.replicate (3 - (lg_sl ([.ref w0])).length) Slot.unset).toArray = ls at hl ⊢
  have hl : lv_has ls 3 [(0, .ref w0)] := hl
  have inX10 : ∀ w ∈ u_ws RX10 TX10 39, w ∈ wsX10_availableNow := by decide +kernel
  refine lv_aload_n hx hb dX10_availableNow_0 rfl (lv_at hl 0 rfl) ?_
  refine va_get (D := D) (ci := 11) (v := .ref v0) (C := RX10) (T := TX10) (N := 39) hx hb hts inX10 hown hK hP 0 rfl rfl 0 (by decide) (hts (.fieldLink RX10 7 "EscrowDeskModel" "s" "[I") (by decide +kernel)) (fun _ h9 => h9) rfl dX10_availableNow_1 ?_
  refine lv_bipush (v := 6) hx hb dX10_availableNow_4 (by decide) ?_
  refine va_iald hx hb hK hP 1 0 rfl rfl (vp_in_iff.mpr (by decide)) dX10_availableNow_6 ?_
  refine lv_topi (fun yn1 eyn1 => ?_)
  obtain rfl : yn1 = 0 := eyn1.trans (hz.2 6 (by decide) (by decide) (by decide))
  refine lv_istore_n (lv' := [(1, .int 0), (0, .ref w0)]) hx hb dX10_availableNow_7 rfl hl (by decide) rfl (fun ls hl => ?_)
  refine lv_iconst (v := 0) hx hb dX10_availableNow_8 (by decide) ?_
  refine lv_istore_n (lv' := [(2, .int 0), (1, .int 0), (0, .ref w0)]) hx hb dX10_availableNow_9 rfl hl (by decide) rfl (fun ls hl => ?_)
  refine lv_iload_n hx hb dX10_availableNow_10 rfl (lv_at hl 0 rfl) ?_
  refine lv_aload_n hx hb dX10_availableNow_11 rfl (lv_at hl 2 rfl) ?_
  refine va_get (D := D) (ci := 11) (v := .ref v0) (C := RX10) (T := TX10) (N := 39) hx hb hts inX10 hown hK hP 0 rfl rfl 0 (by decide) (hts (.fieldLink RX10 7 "EscrowDeskModel" "s" "[I") (by decide +kernel)) (fun _ h9 => h9) rfl dX10_availableNow_12 ?_
  refine lv_bipush (v := 13) hx hb dX10_availableNow_15 (by decide) ?_
  refine va_iald hx hb hK hP 1 0 rfl rfl (vp_in_iff.mpr (by decide)) dX10_availableNow_17 ?_
  refine lv_topi (fun yn2 eyn2 => ?_)
  obtain rfl : yn2 = 0 := eyn2.trans (hz.2 13 (by decide) (by decide) (by decide))
  refine lv_icmp_ge (tgt := 36) hx hb dX10_availableNow_18 (by decide) (fun c3 => ?_) (fun c9 => absurd c9 (by decide))
  refine lv_iload_n hx hb dX10_availableNow_36 rfl (lv_at hl 1 rfl) ?_
  have hP9 := hP.sub (ws' := [(w0, .inr (11, [.ref v0, .ref v1, .ref v2, .ref v3, .ref v4, .long 0, .long 0, .int 0, .int th, .ref v9, .int 0, .int 0, .int (-1), .ref v13, .int 0, .int 0, .int 0, .int 0, .int 0, .int 0, .int 0, .int 0, .int 0, .int 0, .int 0, .long 0, .int 0, .ref v27, .ref v28, .ref v29, .ref v30, .ref v31, .ref v32, .ref v33, .ref v34, .ref v35, .ref v36, .ref v37, .int 0])), (v0, .inl (cA 0, 326, .inl fs))]) [0, 1] rfl
  have hD9 := hD.sub (ws' := [(w0, .inr (11, [.ref v0, .ref v1, .ref v2, .ref v3, .ref v4, .long 0, .long 0, .int 0, .int th, .ref v9, .int 0, .int 0, .int (-1), .ref v13, .int 0, .int 0, .int 0, .int 0, .int 0, .int 0, .int 0, .int 0, .int 0, .int 0, .int 0, .long 0, .int 0, .ref v27, .ref v28, .ref v29, .ref v30, .ref v31, .ref v32, .ref v33, .ref v34, .ref v35, .ref v36, .ref v37, .int 0])), (v0, .inl (cA 0, 326, .inl fs))]) [0, 1] (by decide) rfl
  refine W.widen (k := 0) (n := 0) (Nat.le_of_ble_eq_true rfl) (Nat.le_of_ble_eq_true rfl) ?_
  exact W.iret (v := 0) hx hb hr (fun t ht hW => ⟨⟨0, (), rfl, rfl, by rw [ht]; exact hP9, hD9⟩, hS.F ht⟩) hS.2.2 dX10_availableNow_37

set_option maxHeartbeats 4000000 in
set_option maxRecDepth 100000 in
/-- doneSet -/
theorem c_m_doneSet (l : Launch) (D : va_G) (cA : Nat → ClassId) (sa : Nat → Nat) (w0 v0 v1 v2 v3 v4 v9 v13 v27 v28 v29 v30 v31 v32 v33 v34 v35 v36 v37 : Nat) (th : Int32) (fs : Nat → Int32) (sz : Nat) (hz : Zd fs) : Met l yX10_doneSet wsX10_doneSet ({ frames := 0, cells := 0, slots := 0, locals := 0 }) (va_Pc [.ref w0] (Wd D cA sa [(w0, .inr (11, [.ref v0, .ref v1, .ref v2, .ref v3, .ref v4, .long 0, .long 0, .int 0, .int th, .ref v9, .int 0, .int 0, .int (-1), .ref v13, .int 0, .int 0, .int 0, .int 0, .int 0, .int 0, .int 0, .int 0, .int 0, .int 0, .int 0, .long 0, .int 0, .ref v27, .ref v28, .ref v29, .ref v30, .ref v31, .ref v32, .ref v33, .ref v34, .ref v35, .ref v36, .ref v37, .int 0])), (v0, .inl (cA 0, 326, .inl fs))] sz)) (va_Qi (fun (r : Int32) (_ : Unit) => r = 0) (fun (_ : Unit) t => Wq D (va_A [(w0, .inr (11, [.ref v0, .ref v1, .ref v2, .ref v3, .ref v4, .long 0, .long 0, .int 0, .int th, .ref v9, .int 0, .int 0, .int (-1), .ref v13, .int 0, .int 0, .int 0, .int 0, .int 0, .int 0, .int 0, .int 0, .int 0, .int 0, .int 0, .long 0, .int 0, .ref v27, .ref v28, .ref v29, .ref v30, .ref v31, .ref v32, .ref v33, .ref v34, .ref v35, .ref v36, .ref v37, .int 0])), (v0, .inl (cA 0, 326, .inl fs))] sz) [(w0, .inr (11, [.ref v0, .ref v1, .ref v2, .ref v3, .ref v4, .long 0, .long 0, .int 0, .int th, .ref v9, .int 0, .int 0, .int (-1), .ref v13, .int 0, .int 0, .int 0, .int 0, .int 0, .int 0, .int 0, .int 0, .int 0, .int 0, .int 0, .long 0, .int 0, .ref v27, .ref v28, .ref v29, .ref v30, .ref v31, .ref v32, .ref v33, .ref v34, .ref v35, .ref v36, .ref v37, .int 0])), (v0, .inl (cA 0, 326, .inl fs))] t) (va_A [(w0, .inr (11, [.ref v0, .ref v1, .ref v2, .ref v3, .ref v4, .long 0, .long 0, .int 0, .int th, .ref v9, .int 0, .int 0, .int (-1), .ref v13, .int 0, .int 0, .int 0, .int 0, .int 0, .int 0, .int 0, .int 0, .int 0, .int 0, .int 0, .long 0, .int 0, .ref v27, .ref v28, .ref v29, .ref v30, .ref v31, .ref v32, .ref v33, .ref v34, .ref v35, .ref v36, .ref v37, .int 0])), (v0, .inl (cA 0, 326, .inl fs))] sz)) 0 0 (va_A [(w0, .inr (11, [.ref v0, .ref v1, .ref v2, .ref v3, .ref v4, .long 0, .long 0, .int 0, .int th, .ref v9, .int 0, .int 0, .int (-1), .ref v13, .int 0, .int 0, .int 0, .int 0, .int 0, .int 0, .int 0, .int 0, .int 0, .int 0, .int 0, .long 0, .int 0, .ref v27, .ref v28, .ref v29, .ref v30, .ref v31, .ref v32, .ref v33, .ref v34, .ref v35, .ref v36, .ref v37, .int 0])), (v0, .inl (cA 0, 326, .inl fs))] sz) := by
  refine Met.ofW (cc := cX10_doneSet) (maxL := 3) (ret := (some .int)) (by decide) rfl ?_
  intro p e s m args below meth c s₁ B hml hv
  obtain ⟨rfl, hsz, hP, hK, hD0, hC, hZ⟩ := hv
  have hx := B.exec
  have hb := B.bytes
  have hr := B.returns
  have hts := atoms_spec (ws := wsX10_doneSet) B.pre
  have hown : s.vm.findClass RX10 = some m.cls := findClass_of_methodNamed B.named
  have hlocks := B.notSynchronized
  subst hsz
  have hD := hD0.self (sz := s.heap.size)
  generalize hAe : va_A [(w0, .inr (11, [.ref v0, .ref v1, .ref v2, .ref v3, .ref v4, .long 0, .long 0, .int 0, .int th, .ref v9, .int 0, .int 0, .int (-1), .ref v13, .int 0, .int 0, .int 0, .int 0, .int 0, .int 0, .int 0, .int 0, .int 0, .int 0, .int 0, .long 0, .int 0, .ref v27, .ref v28, .ref v29, .ref v30, .ref v31, .ref v32, .ref v33, .ref v34, .ref v35, .ref v36, .ref v37, .int 0])), (v0, .inl (cA 0, 326, .inl fs))] s.heap.size = A at hD hZ ⊢
  have hA : ∀ q : Nat, s.heap.size ≤ q → A q := fun q h => by rw [← hAe]; exact Or.inr h
  have hS : va_S A s.heap s.heap [] := va_S.rf
  have hP : va_P D vwCl [(w0, .inr (11, [.ref v0, .ref v1, .ref v2, .ref v3, .ref v4, .long 0, .long 0, .int 0, .int th, .ref v9, .int 0, .int 0, .int (-1), .ref v13, .int 0, .int 0, .int 0, .int 0, .int 0, .int 0, .int 0, .int 0, .int 0, .int 0, .int 0, .long 0, .int 0, .ref v27, .ref v28, .ref v29, .ref v30, .ref v31, .ref v32, .ref v33, .ref v34, .ref v35, .ref v36, .ref v37, .int 0])), (v0, .inl (cA 0, 326, .inl fs))] s.heap := hP
  have hl := lv_entry ([.ref w0]) (n := 3) (Nat.le_of_ble_eq_true rfl)
  rw [lg_entry_eq]
  generalize (lg_sl ([.ref w0]) ++ List.replicate (3 - (lg_sl ([.ref w0])).length) Slot.unset).toArray = ls at hl ⊢
  have hl : lv_has ls 3 [(0, .ref w0)] := hl
  have inX10 : ∀ w ∈ u_ws RX10 TX10 39, w ∈ wsX10_doneSet := by decide +kernel
  refine lv_iconst (v := 0) hx hb dX10_doneSet_0 (by decide) ?_
  refine lv_istore_n (lv' := [(1, .int 0), (0, .ref w0)]) hx hb dX10_doneSet_1 rfl hl (by decide) rfl (fun ls hl => ?_)
  refine lv_iconst (v := 0) hx hb dX10_doneSet_2 (by decide) ?_
  refine lv_istore_n (lv' := [(2, .int 0), (1, .int 0), (0, .ref w0)]) hx hb dX10_doneSet_3 rfl hl (by decide) rfl (fun ls hl => ?_)
  refine lv_iload_n hx hb dX10_doneSet_4 rfl (lv_at hl 0 rfl) ?_
  refine lv_aload_n hx hb dX10_doneSet_5 rfl (lv_at hl 2 rfl) ?_
  refine va_get (D := D) (ci := 11) (v := .ref v0) (C := RX10) (T := TX10) (N := 39) hx hb hts inX10 hown hK hP 0 rfl rfl 0 (by decide) (hts (.fieldLink RX10 7 "EscrowDeskModel" "s" "[I") (by decide +kernel)) (fun _ h9 => h9) rfl dX10_doneSet_6 ?_
  refine lv_bipush (v := 13) hx hb dX10_doneSet_9 (by decide) ?_
  refine va_iald hx hb hK hP 1 0 rfl rfl (vp_in_iff.mpr (by decide)) dX10_doneSet_11 ?_
  refine lv_topi (fun yn1 eyn1 => ?_)
  obtain rfl : yn1 = 0 := eyn1.trans (hz.2 13 (by decide) (by decide) (by decide))
  refine lv_icmp_ge (tgt := 51) hx hb dX10_doneSet_12 (by decide) (fun c2 => ?_) (fun c9 => absurd c9 (by decide))
  refine lv_iload_n hx hb dX10_doneSet_51 rfl (lv_at hl 1 rfl) ?_
  have hP9 := hP.sub (ws' := [(w0, .inr (11, [.ref v0, .ref v1, .ref v2, .ref v3, .ref v4, .long 0, .long 0, .int 0, .int th, .ref v9, .int 0, .int 0, .int (-1), .ref v13, .int 0, .int 0, .int 0, .int 0, .int 0, .int 0, .int 0, .int 0, .int 0, .int 0, .int 0, .long 0, .int 0, .ref v27, .ref v28, .ref v29, .ref v30, .ref v31, .ref v32, .ref v33, .ref v34, .ref v35, .ref v36, .ref v37, .int 0])), (v0, .inl (cA 0, 326, .inl fs))]) [0, 1] rfl
  have hD9 := hD.sub (ws' := [(w0, .inr (11, [.ref v0, .ref v1, .ref v2, .ref v3, .ref v4, .long 0, .long 0, .int 0, .int th, .ref v9, .int 0, .int 0, .int (-1), .ref v13, .int 0, .int 0, .int 0, .int 0, .int 0, .int 0, .int 0, .int 0, .int 0, .int 0, .int 0, .long 0, .int 0, .ref v27, .ref v28, .ref v29, .ref v30, .ref v31, .ref v32, .ref v33, .ref v34, .ref v35, .ref v36, .ref v37, .int 0])), (v0, .inl (cA 0, 326, .inl fs))]) [0, 1] (by decide) rfl
  refine W.widen (k := 0) (n := 0) (Nat.le_of_ble_eq_true rfl) (Nat.le_of_ble_eq_true rfl) ?_
  exact W.iret (v := 0) hx hb hr (fun t ht hW => ⟨⟨0, (), rfl, rfl, by rw [ht]; exact hP9, hD9⟩, hS.F ht⟩) hS.2.2 dX10_doneSet_52

set_option maxHeartbeats 4000000 in
set_option maxRecDepth 100000 in
/-- dueWith: none -/
theorem c_m_dueWith (l : Launch) (D : va_G) (cA : Nat → ClassId) (sa : Nat → Nat) (w0 v0 v1 v2 v3 v4 v9 v13 v27 v28 v29 v30 v31 v32 v33 v34 v35 v36 v37 : Nat) (th : Int32) (fs : Nat → Int32) (i : Int32) (sz : Nat) (hz : Zd fs) : Met l yX10_dueWith wsX10_dueWith ({ frames := 0, cells := 0, slots := 0, locals := 0 }) (va_Pc [.ref w0, .int i] (Wd D cA sa [(w0, .inr (11, [.ref v0, .ref v1, .ref v2, .ref v3, .ref v4, .long 0, .long 0, .int 0, .int th, .ref v9, .int 0, .int 0, .int (-1), .ref v13, .int 0, .int 0, .int 0, .int 0, .int 0, .int 0, .int 0, .int 0, .int 0, .int 0, .int 0, .long 0, .int 0, .ref v27, .ref v28, .ref v29, .ref v30, .ref v31, .ref v32, .ref v33, .ref v34, .ref v35, .ref v36, .ref v37, .int 0])), (v0, .inl (cA 0, 326, .inl fs))] sz)) (va_Qi (fun (r : Int32) (_ : Unit) => r = (-1)) (fun (_ : Unit) t => Wq D (va_A [(w0, .inr (11, [.ref v0, .ref v1, .ref v2, .ref v3, .ref v4, .long 0, .long 0, .int 0, .int th, .ref v9, .int 0, .int 0, .int (-1), .ref v13, .int 0, .int 0, .int 0, .int 0, .int 0, .int 0, .int 0, .int 0, .int 0, .int 0, .int 0, .long 0, .int 0, .ref v27, .ref v28, .ref v29, .ref v30, .ref v31, .ref v32, .ref v33, .ref v34, .ref v35, .ref v36, .ref v37, .int 0])), (v0, .inl (cA 0, 326, .inl fs))] sz) [(w0, .inr (11, [.ref v0, .ref v1, .ref v2, .ref v3, .ref v4, .long 0, .long 0, .int 0, .int th, .ref v9, .int 0, .int 0, .int (-1), .ref v13, .int 0, .int 0, .int 0, .int 0, .int 0, .int 0, .int 0, .int 0, .int 0, .int 0, .int 0, .long 0, .int 0, .ref v27, .ref v28, .ref v29, .ref v30, .ref v31, .ref v32, .ref v33, .ref v34, .ref v35, .ref v36, .ref v37, .int 0])), (v0, .inl (cA 0, 326, .inl fs))] t) (va_A [(w0, .inr (11, [.ref v0, .ref v1, .ref v2, .ref v3, .ref v4, .long 0, .long 0, .int 0, .int th, .ref v9, .int 0, .int 0, .int (-1), .ref v13, .int 0, .int 0, .int 0, .int 0, .int 0, .int 0, .int 0, .int 0, .int 0, .int 0, .int 0, .long 0, .int 0, .ref v27, .ref v28, .ref v29, .ref v30, .ref v31, .ref v32, .ref v33, .ref v34, .ref v35, .ref v36, .ref v37, .int 0])), (v0, .inl (cA 0, 326, .inl fs))] sz)) 0 0 (va_A [(w0, .inr (11, [.ref v0, .ref v1, .ref v2, .ref v3, .ref v4, .long 0, .long 0, .int 0, .int th, .ref v9, .int 0, .int 0, .int (-1), .ref v13, .int 0, .int 0, .int 0, .int 0, .int 0, .int 0, .int 0, .int 0, .int 0, .int 0, .int 0, .long 0, .int 0, .ref v27, .ref v28, .ref v29, .ref v30, .ref v31, .ref v32, .ref v33, .ref v34, .ref v35, .ref v36, .ref v37, .int 0])), (v0, .inl (cA 0, 326, .inl fs))] sz) := by
  refine Met.ofW (cc := cX10_dueWith) (maxL := 3) (ret := (some .int)) (by decide) rfl ?_
  intro p e s m args below meth c s₁ B hml hv
  obtain ⟨rfl, hsz, hP, hK, hD0, hC, hZ⟩ := hv
  have hx := B.exec
  have hb := B.bytes
  have hr := B.returns
  have hts := atoms_spec (ws := wsX10_dueWith) B.pre
  have hown : s.vm.findClass RX10 = some m.cls := findClass_of_methodNamed B.named
  have hlocks := B.notSynchronized
  subst hsz
  have hD := hD0.self (sz := s.heap.size)
  generalize hAe : va_A [(w0, .inr (11, [.ref v0, .ref v1, .ref v2, .ref v3, .ref v4, .long 0, .long 0, .int 0, .int th, .ref v9, .int 0, .int 0, .int (-1), .ref v13, .int 0, .int 0, .int 0, .int 0, .int 0, .int 0, .int 0, .int 0, .int 0, .int 0, .int 0, .long 0, .int 0, .ref v27, .ref v28, .ref v29, .ref v30, .ref v31, .ref v32, .ref v33, .ref v34, .ref v35, .ref v36, .ref v37, .int 0])), (v0, .inl (cA 0, 326, .inl fs))] s.heap.size = A at hD hZ ⊢
  have hA : ∀ q : Nat, s.heap.size ≤ q → A q := fun q h => by rw [← hAe]; exact Or.inr h
  have hS : va_S A s.heap s.heap [] := va_S.rf
  have hP : va_P D vwCl [(w0, .inr (11, [.ref v0, .ref v1, .ref v2, .ref v3, .ref v4, .long 0, .long 0, .int 0, .int th, .ref v9, .int 0, .int 0, .int (-1), .ref v13, .int 0, .int 0, .int 0, .int 0, .int 0, .int 0, .int 0, .int 0, .int 0, .int 0, .int 0, .long 0, .int 0, .ref v27, .ref v28, .ref v29, .ref v30, .ref v31, .ref v32, .ref v33, .ref v34, .ref v35, .ref v36, .ref v37, .int 0])), (v0, .inl (cA 0, 326, .inl fs))] s.heap := hP
  have hl := lv_entry ([.ref w0, .int i]) (n := 3) (Nat.le_of_ble_eq_true rfl)
  rw [lg_entry_eq]
  generalize (lg_sl ([.ref w0, .int i]) ++ List.replicate (3 - (lg_sl ([.ref w0, .int i])).length) Slot.unset).toArray = ls at hl ⊢
  have hl : lv_has ls 3 [(0, .ref w0), (1, .int i)] := hl
  have inX10 : ∀ w ∈ u_ws RX10 TX10 39, w ∈ wsX10_dueWith := by decide +kernel
  refine lv_iconst (v := 0) hx hb dX10_dueWith_0 (by decide) ?_
  refine lv_istore_n (lv' := [(2, .int 0), (0, .ref w0), (1, .int i)]) hx hb dX10_dueWith_1 rfl hl (by decide) rfl (fun ls hl => ?_)
  refine lv_iload_n hx hb dX10_dueWith_2 rfl (lv_at hl 0 rfl) ?_
  refine lv_aload_n hx hb dX10_dueWith_3 rfl (lv_at hl 1 rfl) ?_
  refine va_get (D := D) (ci := 11) (v := .ref v0) (C := RX10) (T := TX10) (N := 39) hx hb hts inX10 hown hK hP 0 rfl rfl 0 (by decide) (hts (.fieldLink RX10 7 "EscrowDeskModel" "s" "[I") (by decide +kernel)) (fun _ h9 => h9) rfl dX10_dueWith_4 ?_
  refine lv_bipush (v := 13) hx hb dX10_dueWith_7 (by decide) ?_
  refine va_iald hx hb hK hP 1 0 rfl rfl (vp_in_iff.mpr (by decide)) dX10_dueWith_9 ?_
  refine lv_topi (fun yn1 eyn1 => ?_)
  obtain rfl : yn1 = 0 := eyn1.trans (hz.2 13 (by decide) (by decide) (by decide))
  refine lv_icmp_ge (tgt := 40) hx hb dX10_dueWith_10 (by decide) (fun c2 => ?_) (fun c9 => absurd c9 (by decide))
  refine lv_iconst (v := (-1)) hx hb dX10_dueWith_40 (by decide) ?_
  have hP9 := hP.sub (ws' := [(w0, .inr (11, [.ref v0, .ref v1, .ref v2, .ref v3, .ref v4, .long 0, .long 0, .int 0, .int th, .ref v9, .int 0, .int 0, .int (-1), .ref v13, .int 0, .int 0, .int 0, .int 0, .int 0, .int 0, .int 0, .int 0, .int 0, .int 0, .int 0, .long 0, .int 0, .ref v27, .ref v28, .ref v29, .ref v30, .ref v31, .ref v32, .ref v33, .ref v34, .ref v35, .ref v36, .ref v37, .int 0])), (v0, .inl (cA 0, 326, .inl fs))]) [0, 1] rfl
  have hD9 := hD.sub (ws' := [(w0, .inr (11, [.ref v0, .ref v1, .ref v2, .ref v3, .ref v4, .long 0, .long 0, .int 0, .int th, .ref v9, .int 0, .int 0, .int (-1), .ref v13, .int 0, .int 0, .int 0, .int 0, .int 0, .int 0, .int 0, .int 0, .int 0, .int 0, .int 0, .long 0, .int 0, .ref v27, .ref v28, .ref v29, .ref v30, .ref v31, .ref v32, .ref v33, .ref v34, .ref v35, .ref v36, .ref v37, .int 0])), (v0, .inl (cA 0, 326, .inl fs))]) [0, 1] (by decide) rfl
  refine W.widen (k := 0) (n := 0) (Nat.le_of_ble_eq_true rfl) (Nat.le_of_ble_eq_true rfl) ?_
  exact W.iret (v := (-1)) hx hb hr (fun t ht hW => ⟨⟨(-1), (), rfl, rfl, by rw [ht]; exact hP9, hD9⟩, hS.F ht⟩) hS.2.2 dX10_dueWith_41

set_option maxHeartbeats 4000000 in
set_option maxRecDepth 100000 in
/-- becomeDue: none -/
theorem c_m_becomeDue (l : Launch) (D : va_G) (cA : Nat → ClassId) (sa : Nat → Nat) (w0 v0 v1 v2 v3 v4 v9 v13 v27 v28 v29 v30 v31 v32 v33 v34 v35 v36 v37 : Nat) (th : Int32) (fs : Nat → Int32) (sz : Nat) (hz : Zd fs) : Met l yX10_becomeDue wsX10_becomeDue ({ frames := 1, cells := 0, slots := 0, locals := 22 }) (va_Pc [.ref w0] (Wd D cA sa [(w0, .inr (11, [.ref v0, .ref v1, .ref v2, .ref v3, .ref v4, .long 0, .long 0, .int 0, .int th, .ref v9, .int 0, .int 0, .int (-1), .ref v13, .int 0, .int 0, .int 0, .int 0, .int 0, .int 0, .int 0, .int 0, .int 0, .int 0, .int 0, .long 0, .int 0, .ref v27, .ref v28, .ref v29, .ref v30, .ref v31, .ref v32, .ref v33, .ref v34, .ref v35, .ref v36, .ref v37, .int 0])), (v0, .inl (cA 0, 326, .inl fs))] sz)) (va_Qv (fun _ : Unit => True) (fun (_ : Unit) t => Wq D (va_A [(w0, .inr (11, [.ref v0, .ref v1, .ref v2, .ref v3, .ref v4, .long 0, .long 0, .int 0, .int th, .ref v9, .int 0, .int 0, .int (-1), .ref v13, .int 0, .int 0, .int 0, .int 0, .int 0, .int 0, .int 0, .int 0, .int 0, .int 0, .int 0, .long 0, .int 0, .ref v27, .ref v28, .ref v29, .ref v30, .ref v31, .ref v32, .ref v33, .ref v34, .ref v35, .ref v36, .ref v37, .int 0])), (v0, .inl (cA 0, 326, .inl fs))] sz) [(w0, .inr (11, [.ref v0, .ref v1, .ref v2, .ref v3, .ref v4, .long 0, .long 0, .int 0, .int th, .ref v9, .int 0, .int 0, .int (-1), .ref v13, .int 0, .int 0, .int 0, .int 0, .int 0, .int 0, .int 0, .int 0, .int 0, .int 0, .int 0, .long 0, .int 0, .ref v27, .ref v28, .ref v29, .ref v30, .ref v31, .ref v32, .ref v33, .ref v34, .ref v35, .ref v36, .ref v37, .int 0])), (v0, .inl (cA 0, 326, .inl fs))] t) (va_A [(w0, .inr (11, [.ref v0, .ref v1, .ref v2, .ref v3, .ref v4, .long 0, .long 0, .int 0, .int th, .ref v9, .int 0, .int 0, .int (-1), .ref v13, .int 0, .int 0, .int 0, .int 0, .int 0, .int 0, .int 0, .int 0, .int 0, .int 0, .int 0, .long 0, .int 0, .ref v27, .ref v28, .ref v29, .ref v30, .ref v31, .ref v32, .ref v33, .ref v34, .ref v35, .ref v36, .ref v37, .int 0])), (v0, .inl (cA 0, 326, .inl fs))] sz)) 0 0 (va_A [(w0, .inr (11, [.ref v0, .ref v1, .ref v2, .ref v3, .ref v4, .long 0, .long 0, .int 0, .int th, .ref v9, .int 0, .int 0, .int (-1), .ref v13, .int 0, .int 0, .int 0, .int 0, .int 0, .int 0, .int 0, .int 0, .int 0, .int 0, .int 0, .long 0, .int 0, .ref v27, .ref v28, .ref v29, .ref v30, .ref v31, .ref v32, .ref v33, .ref v34, .ref v35, .ref v36, .ref v37, .int 0])), (v0, .inl (cA 0, 326, .inl fs))] sz) := by
  refine Met.ofW (cc := cX10_becomeDue) (maxL := 3) (ret := none) (by decide) rfl ?_
  intro p e s m args below meth c s₁ B hml hv
  obtain ⟨rfl, hsz, hP, hK, hD0, hC, hZ⟩ := hv
  have hx := B.exec
  have hb := B.bytes
  have hr := B.returns
  have hts := atoms_spec (ws := wsX10_becomeDue) B.pre
  have hown : s.vm.findClass RX10 = some m.cls := findClass_of_methodNamed B.named
  have hlocks := B.notSynchronized
  subst hsz
  have hD := hD0.self (sz := s.heap.size)
  generalize hAe : va_A [(w0, .inr (11, [.ref v0, .ref v1, .ref v2, .ref v3, .ref v4, .long 0, .long 0, .int 0, .int th, .ref v9, .int 0, .int 0, .int (-1), .ref v13, .int 0, .int 0, .int 0, .int 0, .int 0, .int 0, .int 0, .int 0, .int 0, .int 0, .int 0, .long 0, .int 0, .ref v27, .ref v28, .ref v29, .ref v30, .ref v31, .ref v32, .ref v33, .ref v34, .ref v35, .ref v36, .ref v37, .int 0])), (v0, .inl (cA 0, 326, .inl fs))] s.heap.size = A at hD hZ ⊢
  have hA : ∀ q : Nat, s.heap.size ≤ q → A q := fun q h => by rw [← hAe]; exact Or.inr h
  have hS : va_S A s.heap s.heap [] := va_S.rf
  have hP : va_P D vwCl [(w0, .inr (11, [.ref v0, .ref v1, .ref v2, .ref v3, .ref v4, .long 0, .long 0, .int 0, .int th, .ref v9, .int 0, .int 0, .int (-1), .ref v13, .int 0, .int 0, .int 0, .int 0, .int 0, .int 0, .int 0, .int 0, .int 0, .int 0, .int 0, .long 0, .int 0, .ref v27, .ref v28, .ref v29, .ref v30, .ref v31, .ref v32, .ref v33, .ref v34, .ref v35, .ref v36, .ref v37, .int 0])), (v0, .inl (cA 0, 326, .inl fs))] s.heap := hP
  have hl := lv_entry ([.ref w0]) (n := 3) (Nat.le_of_ble_eq_true rfl)
  rw [lg_entry_eq]
  generalize (lg_sl ([.ref w0]) ++ List.replicate (3 - (lg_sl ([.ref w0])).length) Slot.unset).toArray = ls at hl ⊢
  have hl : lv_has ls 3 [(0, .ref w0)] := hl
  have inX10 : ∀ w ∈ u_ws RX10 TX10 39, w ∈ wsX10_becomeDue := by decide +kernel
  refine lv_aload_n hx hb dX10_becomeDue_0 rfl (lv_at hl 0 rfl) ?_
  have hPc := hP.sub (ws' := [(w0, .inr (11, [.ref v0, .ref v1, .ref v2, .ref v3, .ref v4, .long 0, .long 0, .int 0, .int th, .ref v9, .int 0, .int 0, .int (-1), .ref v13, .int 0, .int 0, .int 0, .int 0, .int 0, .int 0, .int 0, .int 0, .int 0, .int 0, .int 0, .long 0, .int 0, .ref v27, .ref v28, .ref v29, .ref v30, .ref v31, .ref v32, .ref v33, .ref v34, .ref v35, .ref v36, .ref v37, .int 0])), (v0, .inl (cA 0, 326, .inl fs))]) [0, 1] rfl
  have hDc := hD.sub (ws' := [(w0, .inr (11, [.ref v0, .ref v1, .ref v2, .ref v3, .ref v4, .long 0, .long 0, .int 0, .int th, .ref v9, .int 0, .int 0, .int (-1), .ref v13, .int 0, .int 0, .int 0, .int 0, .int 0, .int 0, .int 0, .int 0, .int 0, .int 0, .int 0, .long 0, .int 0, .ref v27, .ref v28, .ref v29, .ref v30, .ref v31, .ref v32, .ref v33, .ref v34, .ref v35, .ref v36, .ref v37, .int 0])), (v0, .inl (cA 0, 326, .inl fs))]) [0, 1] (by decide) rfl
  have hFc := va_free (wc := [(w0, .inr (11, [.ref v0, .ref v1, .ref v2, .ref v3, .ref v4, .long 0, .long 0, .int 0, .int th, .ref v9, .int 0, .int 0, .int (-1), .ref v13, .int 0, .int 0, .int 0, .int 0, .int 0, .int 0, .int 0, .int 0, .int 0, .int 0, .int 0, .long 0, .int 0, .ref v27, .ref v28, .ref v29, .ref v30, .ref v31, .ref v32, .ref v33, .ref v34, .ref v35, .ref v36, .ref v37, .int 0])), (v0, .inl (cA 0, 326, .inl fs))]) hD hS hA [0, 1] rfl
  refine va_calli (va_runV (As := []) (rest := []) ⟨hx, hb, hml, hown, hts⟩ (c_m_doneSet l D cA sa w0 v0 v1 v2 v3 v4 v9 v13 v27 v28 v29 v30 v31 v32 v33 v34 v35 v36 v37 th fs s.heap.size hz) (cwV 0 hts gX10_becomeDue_X10_doneSet rfl rfl rfl (by decide +kernel) ⟨(Nat.le_of_ble_eq_true rfl), (Nat.le_of_ble_eq_true rfl)⟩) ⟨Wd.blind, va_recv hK hPc (ci := 11) (q0 := 0) rfl rfl, fun U hU hW => ⟨rfl, Wd.call hPc hDc hK hC hZ hS hFc U hU hW⟩⟩ rfl rfl hl.1 rfl (lv_room (Nat.le_of_ble_eq_true rfl)) dX10_becomeDue_1 ⟨(Nat.le_of_ble_eq_true rfl), (Nat.le_of_ble_eq_true rfl)⟩) hS (fun q _ h => hFc q h) hFc (fun rn1 u t H1 locs ht hvm hw hB hz1 hk1 hS => ?_)
  obtain ⟨hP1, hD1⟩ := hB
  rw [ht] at hP1
  obtain ⟨hP, hD⟩ := va_join (wr := []) (w1 := [(w0, .inr (11, [.ref v0, .ref v1, .ref v2, .ref v3, .ref v4, .long 0, .long 0, .int 0, .int th, .ref v9, .int 0, .int 0, .int (-1), .ref v13, .int 0, .int 0, .int 0, .int 0, .int 0, .int 0, .int 0, .int 0, .int 0, .int 0, .int 0, .long 0, .int 0, .ref v27, .ref v28, .ref v29, .ref v30, .ref v31, .ref v32, .ref v33, .ref v34, .ref v35, .ref v36, .ref v37, .int 0])), (v0, .inl (cA 0, 326, .inl fs))]) hP hD [0, 1] [] rfl rfl (by decide) (by decide) hk1 hFc hP1 hD1
  generalize H1 = H at hP hS ⊢
  have hP : va_P D vwCl [(w0, .inr (11, [.ref v0, .ref v1, .ref v2, .ref v3, .ref v4, .long 0, .long 0, .int 0, .int th, .ref v9, .int 0, .int 0, .int (-1), .ref v13, .int 0, .int 0, .int 0, .int 0, .int 0, .int 0, .int 0, .int 0, .int 0, .int 0, .int 0, .long 0, .int 0, .ref v27, .ref v28, .ref v29, .ref v30, .ref v31, .ref v32, .ref v33, .ref v34, .ref v35, .ref v36, .ref v37, .int 0])), (v0, .inl (cA 0, 326, .inl fs))] H := hP
  have hD : va_D A [(w0, .inr (11, [.ref v0, .ref v1, .ref v2, .ref v3, .ref v4, .long 0, .long 0, .int 0, .int th, .ref v9, .int 0, .int 0, .int (-1), .ref v13, .int 0, .int 0, .int 0, .int 0, .int 0, .int 0, .int 0, .int 0, .int 0, .int 0, .int 0, .long 0, .int 0, .ref v27, .ref v28, .ref v29, .ref v30, .ref v31, .ref v32, .ref v33, .ref v34, .ref v35, .ref v36, .ref v37, .int 0])), (v0, .inl (cA 0, 326, .inl fs))] := hD
  obtain rfl : rn1 = 0 := hw
  refine lv_istore_n (lv' := [(1, .int 0), (0, .ref w0)]) hx hb dX10_becomeDue_4 rfl hl (by decide) rfl (fun ls hl => ?_)
  refine lv_iconst (v := 0) hx hb dX10_becomeDue_5 (by decide) ?_
  refine lv_istore_n (lv' := [(2, .int 0), (1, .int 0), (0, .ref w0)]) hx hb dX10_becomeDue_6 rfl hl (by decide) rfl (fun ls hl => ?_)
  refine lv_iload_n hx hb dX10_becomeDue_7 rfl (lv_at hl 0 rfl) ?_
  refine lv_aload_n hx hb dX10_becomeDue_8 rfl (lv_at hl 2 rfl) ?_
  refine va_get (D := D) (ci := 11) (v := .ref v0) (C := RX10) (T := TX10) (N := 39) hx hb hts inX10 hown hK hP 0 rfl rfl 0 (by decide) (hts (.fieldLink RX10 7 "EscrowDeskModel" "s" "[I") (by decide +kernel)) (fun _ h9 => h9) rfl dX10_becomeDue_9 ?_
  refine lv_bipush (v := 13) hx hb dX10_becomeDue_12 (by decide) ?_
  refine va_iald hx hb hK hP 1 0 rfl rfl (vp_in_iff.mpr (by decide)) dX10_becomeDue_14 ?_
  refine lv_topi (fun yn2 eyn2 => ?_)
  obtain rfl : yn2 = 0 := eyn2.trans (hz.2 13 (by decide) (by decide) (by decide))
  refine lv_icmp_ge (tgt := 74) hx hb dX10_becomeDue_15 (by decide) (fun c3 => ?_) (fun c9 => absurd c9 (by decide))
  have hP9 := hP.sub (ws' := [(w0, .inr (11, [.ref v0, .ref v1, .ref v2, .ref v3, .ref v4, .long 0, .long 0, .int 0, .int th, .ref v9, .int 0, .int 0, .int (-1), .ref v13, .int 0, .int 0, .int 0, .int 0, .int 0, .int 0, .int 0, .int 0, .int 0, .int 0, .int 0, .long 0, .int 0, .ref v27, .ref v28, .ref v29, .ref v30, .ref v31, .ref v32, .ref v33, .ref v34, .ref v35, .ref v36, .ref v37, .int 0])), (v0, .inl (cA 0, 326, .inl fs))]) [0, 1] rfl
  have hD9 := hD.sub (ws' := [(w0, .inr (11, [.ref v0, .ref v1, .ref v2, .ref v3, .ref v4, .long 0, .long 0, .int 0, .int th, .ref v9, .int 0, .int 0, .int (-1), .ref v13, .int 0, .int 0, .int 0, .int 0, .int 0, .int 0, .int 0, .int 0, .int 0, .int 0, .int 0, .long 0, .int 0, .ref v27, .ref v28, .ref v29, .ref v30, .ref v31, .ref v32, .ref v33, .ref v34, .ref v35, .ref v36, .ref v37, .int 0])), (v0, .inl (cA 0, 326, .inl fs))]) [0, 1] (by decide) rfl
  refine W.widen (k := 0) (n := 0) (Nat.le_of_ble_eq_true rfl) (Nat.le_of_ble_eq_true rfl) ?_
  exact W.vret hx hb hr (fun t ht hW => ⟨⟨(), rfl, trivial, by rw [ht]; exact hP9, hD9⟩, hS.F ht⟩) hS.2.2 dX10_becomeDue_74

set_option maxHeartbeats 4000000 in
set_option maxRecDepth 100000 in
/-- payDue: none -/
theorem c_m_payDue (l : Launch) (D : va_G) (cA : Nat → ClassId) (sa : Nat → Nat) (w0 v0 v1 v2 v3 v4 v9 v13 v27 v28 v29 v30 v31 v32 v33 v34 v35 v36 v37 : Nat) (th : Int32) (fs : Nat → Int32) (sz : Nat) (hz : Zd fs) : Met l yX10_payDue wsX10_payDue ({ frames := 1, cells := 0, slots := 0, locals := 22 }) (va_Pc [.ref w0] (Wd D cA sa [(w0, .inr (11, [.ref v0, .ref v1, .ref v2, .ref v3, .ref v4, .long 0, .long 0, .int 0, .int th, .ref v9, .int 0, .int 0, .int (-1), .ref v13, .int 0, .int 0, .int 0, .int 0, .int 0, .int 0, .int 0, .int 0, .int 0, .int 0, .int 0, .long 0, .int 0, .ref v27, .ref v28, .ref v29, .ref v30, .ref v31, .ref v32, .ref v33, .ref v34, .ref v35, .ref v36, .ref v37, .int 0])), (v0, .inl (cA 0, 326, .inl fs))] sz)) (va_Qv (fun _ : Unit => True) (fun (_ : Unit) t => Wq D (va_A [(w0, .inr (11, [.ref v0, .ref v1, .ref v2, .ref v3, .ref v4, .long 0, .long 0, .int 0, .int th, .ref v9, .int 0, .int 0, .int (-1), .ref v13, .int 0, .int 0, .int 0, .int 0, .int 0, .int 0, .int 0, .int 0, .int 0, .int 0, .int 0, .long 0, .int 0, .ref v27, .ref v28, .ref v29, .ref v30, .ref v31, .ref v32, .ref v33, .ref v34, .ref v35, .ref v36, .ref v37, .int 0])), (v0, .inl (cA 0, 326, .inl fs))] sz) [(w0, .inr (11, [.ref v0, .ref v1, .ref v2, .ref v3, .ref v4, .long 0, .long 0, .int 0, .int th, .ref v9, .int 0, .int 0, .int (-1), .ref v13, .int 0, .int 0, .int 0, .int 0, .int 0, .int 0, .int 0, .int 0, .int 0, .int 0, .int 0, .long 0, .int 0, .ref v27, .ref v28, .ref v29, .ref v30, .ref v31, .ref v32, .ref v33, .ref v34, .ref v35, .ref v36, .ref v37, .int 0])), (v0, .inl (cA 0, 326, .inl fs))] t) (va_A [(w0, .inr (11, [.ref v0, .ref v1, .ref v2, .ref v3, .ref v4, .long 0, .long 0, .int 0, .int th, .ref v9, .int 0, .int 0, .int (-1), .ref v13, .int 0, .int 0, .int 0, .int 0, .int 0, .int 0, .int 0, .int 0, .int 0, .int 0, .int 0, .long 0, .int 0, .ref v27, .ref v28, .ref v29, .ref v30, .ref v31, .ref v32, .ref v33, .ref v34, .ref v35, .ref v36, .ref v37, .int 0])), (v0, .inl (cA 0, 326, .inl fs))] sz)) 0 0 (va_A [(w0, .inr (11, [.ref v0, .ref v1, .ref v2, .ref v3, .ref v4, .long 0, .long 0, .int 0, .int th, .ref v9, .int 0, .int 0, .int (-1), .ref v13, .int 0, .int 0, .int 0, .int 0, .int 0, .int 0, .int 0, .int 0, .int 0, .int 0, .int 0, .long 0, .int 0, .ref v27, .ref v28, .ref v29, .ref v30, .ref v31, .ref v32, .ref v33, .ref v34, .ref v35, .ref v36, .ref v37, .int 0])), (v0, .inl (cA 0, 326, .inl fs))] sz) := by
  refine Met.ofW (cc := cX10_payDue) (maxL := 5) (ret := none) (by decide) rfl ?_
  intro p e s m args below meth c s₁ B hml hv
  obtain ⟨rfl, hsz, hP, hK, hD0, hC, hZ⟩ := hv
  have hx := B.exec
  have hb := B.bytes
  have hr := B.returns
  have hts := atoms_spec (ws := wsX10_payDue) B.pre
  have hown : s.vm.findClass RX10 = some m.cls := findClass_of_methodNamed B.named
  have hlocks := B.notSynchronized
  subst hsz
  have hD := hD0.self (sz := s.heap.size)
  generalize hAe : va_A [(w0, .inr (11, [.ref v0, .ref v1, .ref v2, .ref v3, .ref v4, .long 0, .long 0, .int 0, .int th, .ref v9, .int 0, .int 0, .int (-1), .ref v13, .int 0, .int 0, .int 0, .int 0, .int 0, .int 0, .int 0, .int 0, .int 0, .int 0, .int 0, .long 0, .int 0, .ref v27, .ref v28, .ref v29, .ref v30, .ref v31, .ref v32, .ref v33, .ref v34, .ref v35, .ref v36, .ref v37, .int 0])), (v0, .inl (cA 0, 326, .inl fs))] s.heap.size = A at hD hZ ⊢
  have hA : ∀ q : Nat, s.heap.size ≤ q → A q := fun q h => by rw [← hAe]; exact Or.inr h
  have hS : va_S A s.heap s.heap [] := va_S.rf
  have hP : va_P D vwCl [(w0, .inr (11, [.ref v0, .ref v1, .ref v2, .ref v3, .ref v4, .long 0, .long 0, .int 0, .int th, .ref v9, .int 0, .int 0, .int (-1), .ref v13, .int 0, .int 0, .int 0, .int 0, .int 0, .int 0, .int 0, .int 0, .int 0, .int 0, .int 0, .long 0, .int 0, .ref v27, .ref v28, .ref v29, .ref v30, .ref v31, .ref v32, .ref v33, .ref v34, .ref v35, .ref v36, .ref v37, .int 0])), (v0, .inl (cA 0, 326, .inl fs))] s.heap := hP
  have hl := lv_entry ([.ref w0]) (n := 5) (Nat.le_of_ble_eq_true rfl)
  rw [lg_entry_eq]
  generalize (lg_sl ([.ref w0]) ++ List.replicate (5 - (lg_sl ([.ref w0])).length) Slot.unset).toArray = ls at hl ⊢
  have hl : lv_has ls 5 [(0, .ref w0)] := hl
  refine lv_iconst (v := 0) hx hb dX10_payDue_0 (by decide) ?_
  refine lv_istore_n (lv' := [(1, .int 0), (0, .ref w0)]) hx hb dX10_payDue_1 rfl hl (by decide) rfl (fun ls hl => ?_)
  refine lv_aload_n hx hb dX10_payDue_2 rfl (lv_at hl 1 rfl) ?_
  refine lv_iconst (v := 0) hx hb dX10_payDue_3 (by decide) ?_
  have hPc := hP.sub (ws' := [(w0, .inr (11, [.ref v0, .ref v1, .ref v2, .ref v3, .ref v4, .long 0, .long 0, .int 0, .int th, .ref v9, .int 0, .int 0, .int (-1), .ref v13, .int 0, .int 0, .int 0, .int 0, .int 0, .int 0, .int 0, .int 0, .int 0, .int 0, .int 0, .long 0, .int 0, .ref v27, .ref v28, .ref v29, .ref v30, .ref v31, .ref v32, .ref v33, .ref v34, .ref v35, .ref v36, .ref v37, .int 0])), (v0, .inl (cA 0, 326, .inl fs))]) [0, 1] rfl
  have hDc := hD.sub (ws' := [(w0, .inr (11, [.ref v0, .ref v1, .ref v2, .ref v3, .ref v4, .long 0, .long 0, .int 0, .int th, .ref v9, .int 0, .int 0, .int (-1), .ref v13, .int 0, .int 0, .int 0, .int 0, .int 0, .int 0, .int 0, .int 0, .int 0, .int 0, .int 0, .long 0, .int 0, .ref v27, .ref v28, .ref v29, .ref v30, .ref v31, .ref v32, .ref v33, .ref v34, .ref v35, .ref v36, .ref v37, .int 0])), (v0, .inl (cA 0, 326, .inl fs))]) [0, 1] (by decide) rfl
  have hFc := va_free (wc := [(w0, .inr (11, [.ref v0, .ref v1, .ref v2, .ref v3, .ref v4, .long 0, .long 0, .int 0, .int th, .ref v9, .int 0, .int 0, .int (-1), .ref v13, .int 0, .int 0, .int 0, .int 0, .int 0, .int 0, .int 0, .int 0, .int 0, .int 0, .int 0, .long 0, .int 0, .ref v27, .ref v28, .ref v29, .ref v30, .ref v31, .ref v32, .ref v33, .ref v34, .ref v35, .ref v36, .ref v37, .int 0])), (v0, .inl (cA 0, 326, .inl fs))]) hD hS hA [0, 1] rfl
  refine va_calli (va_runV (As := [.int 0]) (rest := []) ⟨hx, hb, hml, hown, hts⟩ (c_m_dueWith l D cA sa w0 v0 v1 v2 v3 v4 v9 v13 v27 v28 v29 v30 v31 v32 v33 v34 v35 v36 v37 th fs 0 s.heap.size hz) (cwV 1 hts gX10_payDue_X10_dueWith rfl rfl rfl (by decide +kernel) ⟨(Nat.le_of_ble_eq_true rfl), (Nat.le_of_ble_eq_true rfl)⟩) ⟨Wd.blind, va_recv hK hPc (ci := 11) (q0 := 0) rfl rfl, fun U hU hW => ⟨rfl, Wd.call hPc hDc hK hC hZ hS hFc U hU hW⟩⟩ rfl rfl hl.1 rfl (lv_room (Nat.le_of_ble_eq_true rfl)) dX10_payDue_4 ⟨(Nat.le_of_ble_eq_true rfl), (Nat.le_of_ble_eq_true rfl)⟩) hS (fun q _ h => hFc q h) hFc (fun rn1 u t H1 locs ht hvm hw hB hz1 hk1 hS => ?_)
  obtain ⟨hP1, hD1⟩ := hB
  rw [ht] at hP1
  obtain ⟨hP, hD⟩ := va_join (wr := []) (w1 := [(w0, .inr (11, [.ref v0, .ref v1, .ref v2, .ref v3, .ref v4, .long 0, .long 0, .int 0, .int th, .ref v9, .int 0, .int 0, .int (-1), .ref v13, .int 0, .int 0, .int 0, .int 0, .int 0, .int 0, .int 0, .int 0, .int 0, .int 0, .int 0, .long 0, .int 0, .ref v27, .ref v28, .ref v29, .ref v30, .ref v31, .ref v32, .ref v33, .ref v34, .ref v35, .ref v36, .ref v37, .int 0])), (v0, .inl (cA 0, 326, .inl fs))]) hP hD [0, 1] [] rfl rfl (by decide) (by decide) hk1 hFc hP1 hD1
  generalize H1 = H at hP hS ⊢
  have hP : va_P D vwCl [(w0, .inr (11, [.ref v0, .ref v1, .ref v2, .ref v3, .ref v4, .long 0, .long 0, .int 0, .int th, .ref v9, .int 0, .int 0, .int (-1), .ref v13, .int 0, .int 0, .int 0, .int 0, .int 0, .int 0, .int 0, .int 0, .int 0, .int 0, .int 0, .long 0, .int 0, .ref v27, .ref v28, .ref v29, .ref v30, .ref v31, .ref v32, .ref v33, .ref v34, .ref v35, .ref v36, .ref v37, .int 0])), (v0, .inl (cA 0, 326, .inl fs))] H := hP
  have hD : va_D A [(w0, .inr (11, [.ref v0, .ref v1, .ref v2, .ref v3, .ref v4, .long 0, .long 0, .int 0, .int th, .ref v9, .int 0, .int 0, .int (-1), .ref v13, .int 0, .int 0, .int 0, .int 0, .int 0, .int 0, .int 0, .int 0, .int 0, .int 0, .int 0, .long 0, .int 0, .ref v27, .ref v28, .ref v29, .ref v30, .ref v31, .ref v32, .ref v33, .ref v34, .ref v35, .ref v36, .ref v37, .int 0])), (v0, .inl (cA 0, 326, .inl fs))] := hD
  obtain rfl : rn1 = (-1) := hw
  refine lv_istore_n (lv' := [(2, .int (-1)), (1, .int 0), (0, .ref w0)]) hx hb dX10_payDue_7 rfl hl (by decide) rfl (fun ls hl => ?_)
  refine lv_iload_n hx hb dX10_payDue_8 rfl (lv_at hl 0 rfl) ?_
  refine lv_iconst (v := (-1)) hx hb dX10_payDue_9 (by decide) ?_
  refine lv_icmp_eq (tgt := 32) hx hb dX10_payDue_10 (by decide) (fun c2 => ?_) (fun c9 => absurd c9 (by decide))
  refine lv_iconst (v := 0) hx hb dX10_payDue_32 (by decide) ?_
  refine lv_istore_n (lv' := [(2, .int 0), (1, .int 0), (0, .ref w0)]) hx hb dX10_payDue_33 rfl hl (by decide) rfl (fun ls hl => ?_)
  refine lv_iload_n hx hb dX10_payDue_34 rfl (lv_at hl 0 rfl) ?_
  refine lv_iload_n hx hb dX10_payDue_35 rfl (lv_at hl 1 rfl) ?_
  refine lv_icmp_ge (tgt := 92) hx hb dX10_payDue_36 (by decide) (fun c3 => ?_) (fun c9 => absurd c9 (by decide))
  have hP9 := hP.sub (ws' := [(w0, .inr (11, [.ref v0, .ref v1, .ref v2, .ref v3, .ref v4, .long 0, .long 0, .int 0, .int th, .ref v9, .int 0, .int 0, .int (-1), .ref v13, .int 0, .int 0, .int 0, .int 0, .int 0, .int 0, .int 0, .int 0, .int 0, .int 0, .int 0, .long 0, .int 0, .ref v27, .ref v28, .ref v29, .ref v30, .ref v31, .ref v32, .ref v33, .ref v34, .ref v35, .ref v36, .ref v37, .int 0])), (v0, .inl (cA 0, 326, .inl fs))]) [0, 1] rfl
  have hD9 := hD.sub (ws' := [(w0, .inr (11, [.ref v0, .ref v1, .ref v2, .ref v3, .ref v4, .long 0, .long 0, .int 0, .int th, .ref v9, .int 0, .int 0, .int (-1), .ref v13, .int 0, .int 0, .int 0, .int 0, .int 0, .int 0, .int 0, .int 0, .int 0, .int 0, .int 0, .long 0, .int 0, .ref v27, .ref v28, .ref v29, .ref v30, .ref v31, .ref v32, .ref v33, .ref v34, .ref v35, .ref v36, .ref v37, .int 0])), (v0, .inl (cA 0, 326, .inl fs))]) [0, 1] (by decide) rfl
  refine W.widen (k := 0) (n := 0) (Nat.le_of_ble_eq_true rfl) (Nat.le_of_ble_eq_true rfl) ?_
  exact W.vret hx hb hr (fun t ht hW => ⟨⟨(), rfl, trivial, by rw [ht]; exact hP9, hD9⟩, hS.F ht⟩) hS.2.2 dX10_payDue_92

set_option maxHeartbeats 4000000 in
set_option maxRecDepth 100000 in
/-- isShort: no -/
theorem c_m_isShort (l : Launch) (D : va_G) (cA : Nat → ClassId) (sa : Nat → Nat) (w0 v0 v1 v2 v3 v4 v9 v13 v27 v28 v29 v30 v31 v32 v33 v34 v35 v36 v37 : Nat) (th : Int32) (fs : Nat → Int32) (sz : Nat) (hz : Zd fs) : Met l yX10_isShort wsX10_isShort ({ frames := 0, cells := 0, slots := 0, locals := 0 }) (va_Pc [.ref w0] (Wd D cA sa [(w0, .inr (11, [.ref v0, .ref v1, .ref v2, .ref v3, .ref v4, .long 0, .long 0, .int 0, .int th, .ref v9, .int 0, .int 0, .int (-1), .ref v13, .int 0, .int 0, .int 0, .int 0, .int 0, .int 0, .int 0, .int 0, .int 0, .int 0, .int 0, .long 0, .int 0, .ref v27, .ref v28, .ref v29, .ref v30, .ref v31, .ref v32, .ref v33, .ref v34, .ref v35, .ref v36, .ref v37, .int 0])), (v0, .inl (cA 0, 326, .inl fs))] sz)) (va_Qi (fun (r : Int32) (_ : Unit) => r = 0) (fun (_ : Unit) t => Wq D (va_A [(w0, .inr (11, [.ref v0, .ref v1, .ref v2, .ref v3, .ref v4, .long 0, .long 0, .int 0, .int th, .ref v9, .int 0, .int 0, .int (-1), .ref v13, .int 0, .int 0, .int 0, .int 0, .int 0, .int 0, .int 0, .int 0, .int 0, .int 0, .int 0, .long 0, .int 0, .ref v27, .ref v28, .ref v29, .ref v30, .ref v31, .ref v32, .ref v33, .ref v34, .ref v35, .ref v36, .ref v37, .int 0])), (v0, .inl (cA 0, 326, .inl fs))] sz) [(w0, .inr (11, [.ref v0, .ref v1, .ref v2, .ref v3, .ref v4, .long 0, .long 0, .int 0, .int th, .ref v9, .int 0, .int 0, .int (-1), .ref v13, .int 0, .int 0, .int 0, .int 0, .int 0, .int 0, .int 0, .int 0, .int 0, .int 0, .int 0, .long 0, .int 0, .ref v27, .ref v28, .ref v29, .ref v30, .ref v31, .ref v32, .ref v33, .ref v34, .ref v35, .ref v36, .ref v37, .int 0])), (v0, .inl (cA 0, 326, .inl fs))] t) (va_A [(w0, .inr (11, [.ref v0, .ref v1, .ref v2, .ref v3, .ref v4, .long 0, .long 0, .int 0, .int th, .ref v9, .int 0, .int 0, .int (-1), .ref v13, .int 0, .int 0, .int 0, .int 0, .int 0, .int 0, .int 0, .int 0, .int 0, .int 0, .int 0, .long 0, .int 0, .ref v27, .ref v28, .ref v29, .ref v30, .ref v31, .ref v32, .ref v33, .ref v34, .ref v35, .ref v36, .ref v37, .int 0])), (v0, .inl (cA 0, 326, .inl fs))] sz)) 0 0 (va_A [(w0, .inr (11, [.ref v0, .ref v1, .ref v2, .ref v3, .ref v4, .long 0, .long 0, .int 0, .int th, .ref v9, .int 0, .int 0, .int (-1), .ref v13, .int 0, .int 0, .int 0, .int 0, .int 0, .int 0, .int 0, .int 0, .int 0, .int 0, .int 0, .long 0, .int 0, .ref v27, .ref v28, .ref v29, .ref v30, .ref v31, .ref v32, .ref v33, .ref v34, .ref v35, .ref v36, .ref v37, .int 0])), (v0, .inl (cA 0, 326, .inl fs))] sz) := by
  refine Met.ofW (cc := cX10_isShort) (maxL := 3) (ret := (some .boolean)) (by decide) rfl ?_
  intro p e s m args below meth c s₁ B hml hv
  obtain ⟨rfl, hsz, hP, hK, hD0, hC, hZ⟩ := hv
  have hx := B.exec
  have hb := B.bytes
  have hr := B.returns
  have hts := atoms_spec (ws := wsX10_isShort) B.pre
  have hown : s.vm.findClass RX10 = some m.cls := findClass_of_methodNamed B.named
  have hlocks := B.notSynchronized
  subst hsz
  have hD := hD0.self (sz := s.heap.size)
  generalize hAe : va_A [(w0, .inr (11, [.ref v0, .ref v1, .ref v2, .ref v3, .ref v4, .long 0, .long 0, .int 0, .int th, .ref v9, .int 0, .int 0, .int (-1), .ref v13, .int 0, .int 0, .int 0, .int 0, .int 0, .int 0, .int 0, .int 0, .int 0, .int 0, .int 0, .long 0, .int 0, .ref v27, .ref v28, .ref v29, .ref v30, .ref v31, .ref v32, .ref v33, .ref v34, .ref v35, .ref v36, .ref v37, .int 0])), (v0, .inl (cA 0, 326, .inl fs))] s.heap.size = A at hD hZ ⊢
  have hA : ∀ q : Nat, s.heap.size ≤ q → A q := fun q h => by rw [← hAe]; exact Or.inr h
  have hS : va_S A s.heap s.heap [] := va_S.rf
  have hP : va_P D vwCl [(w0, .inr (11, [.ref v0, .ref v1, .ref v2, .ref v3, .ref v4, .long 0, .long 0, .int 0, .int th, .ref v9, .int 0, .int 0, .int (-1), .ref v13, .int 0, .int 0, .int 0, .int 0, .int 0, .int 0, .int 0, .int 0, .int 0, .int 0, .int 0, .long 0, .int 0, .ref v27, .ref v28, .ref v29, .ref v30, .ref v31, .ref v32, .ref v33, .ref v34, .ref v35, .ref v36, .ref v37, .int 0])), (v0, .inl (cA 0, 326, .inl fs))] s.heap := hP
  have hl := lv_entry ([.ref w0]) (n := 3) (Nat.le_of_ble_eq_true rfl)
  rw [lg_entry_eq]
  generalize (lg_sl ([.ref w0]) ++ List.replicate (3 - (lg_sl ([.ref w0])).length) Slot.unset).toArray = ls at hl ⊢
  have hl : lv_has ls 3 [(0, .ref w0)] := hl
  have inX10 : ∀ w ∈ u_ws RX10 TX10 39, w ∈ wsX10_isShort := by decide +kernel
  refine lv_iconst (v := 0) hx hb dX10_isShort_0 (by decide) ?_
  refine lv_istore_n (lv' := [(1, .int 0), (0, .ref w0)]) hx hb dX10_isShort_1 rfl hl (by decide) rfl (fun ls hl => ?_)
  refine lv_iconst (v := 0) hx hb dX10_isShort_2 (by decide) ?_
  refine lv_istore_n (lv' := [(2, .int 0), (1, .int 0), (0, .ref w0)]) hx hb dX10_isShort_3 rfl hl (by decide) rfl (fun ls hl => ?_)
  refine lv_iload_n hx hb dX10_isShort_4 rfl (lv_at hl 0 rfl) ?_
  refine lv_aload_n hx hb dX10_isShort_5 rfl (lv_at hl 2 rfl) ?_
  refine va_get (D := D) (ci := 11) (v := .ref v0) (C := RX10) (T := TX10) (N := 39) hx hb hts inX10 hown hK hP 0 rfl rfl 0 (by decide) (hts (.fieldLink RX10 7 "EscrowDeskModel" "s" "[I") (by decide +kernel)) (fun _ h9 => h9) rfl dX10_isShort_6 ?_
  refine lv_bipush (v := 13) hx hb dX10_isShort_9 (by decide) ?_
  refine va_iald hx hb hK hP 1 0 rfl rfl (vp_in_iff.mpr (by decide)) dX10_isShort_11 ?_
  refine lv_topi (fun yn1 eyn1 => ?_)
  obtain rfl : yn1 = 0 := eyn1.trans (hz.2 13 (by decide) (by decide) (by decide))
  refine lv_icmp_ge (tgt := 47) hx hb dX10_isShort_12 (by decide) (fun c2 => ?_) (fun c9 => absurd c9 (by decide))
  refine lv_iload_n hx hb dX10_isShort_47 rfl (lv_at hl 1 rfl) ?_
  have hP9 := hP.sub (ws' := [(w0, .inr (11, [.ref v0, .ref v1, .ref v2, .ref v3, .ref v4, .long 0, .long 0, .int 0, .int th, .ref v9, .int 0, .int 0, .int (-1), .ref v13, .int 0, .int 0, .int 0, .int 0, .int 0, .int 0, .int 0, .int 0, .int 0, .int 0, .int 0, .long 0, .int 0, .ref v27, .ref v28, .ref v29, .ref v30, .ref v31, .ref v32, .ref v33, .ref v34, .ref v35, .ref v36, .ref v37, .int 0])), (v0, .inl (cA 0, 326, .inl fs))]) [0, 1] rfl
  have hD9 := hD.sub (ws' := [(w0, .inr (11, [.ref v0, .ref v1, .ref v2, .ref v3, .ref v4, .long 0, .long 0, .int 0, .int th, .ref v9, .int 0, .int 0, .int (-1), .ref v13, .int 0, .int 0, .int 0, .int 0, .int 0, .int 0, .int 0, .int 0, .int 0, .int 0, .int 0, .long 0, .int 0, .ref v27, .ref v28, .ref v29, .ref v30, .ref v31, .ref v32, .ref v33, .ref v34, .ref v35, .ref v36, .ref v37, .int 0])), (v0, .inl (cA 0, 326, .inl fs))]) [0, 1] (by decide) rfl
  refine W.widen (k := 0) (n := 0) (Nat.le_of_ble_eq_true rfl) (Nat.le_of_ble_eq_true rfl) ?_
  exact W.zret (v := 0) hx hb hr (by first | rfl | decide) (fun t ht hW => ⟨⟨0, (), rfl, rfl, by rw [ht]; exact hP9, hD9⟩, hS.F ht⟩) hS.2.2 dX10_isShort_48

set_option maxHeartbeats 4000000 in
set_option maxRecDepth 100000 in
/-- areAllClosed -/
theorem c_m_areAllClosed (l : Launch) (D : va_G) (cA : Nat → ClassId) (sa : Nat → Nat) (w0 v0 v1 v2 v3 v4 v9 v13 v27 v28 v29 v30 v31 v32 v33 v34 v35 v36 v37 : Nat) (th : Int32) (fs : Nat → Int32) (sz : Nat) (hz : Zd fs) : Met l yX10_areAllClosed wsX10_areAllClosed ({ frames := 0, cells := 0, slots := 0, locals := 0 }) (va_Pc [.ref w0] (Wd D cA sa [(w0, .inr (11, [.ref v0, .ref v1, .ref v2, .ref v3, .ref v4, .long 0, .long 0, .int 0, .int th, .ref v9, .int 0, .int 0, .int (-1), .ref v13, .int 0, .int 0, .int 0, .int 0, .int 0, .int 0, .int 0, .int 0, .int 0, .int 0, .int 0, .long 0, .int 0, .ref v27, .ref v28, .ref v29, .ref v30, .ref v31, .ref v32, .ref v33, .ref v34, .ref v35, .ref v36, .ref v37, .int 0])), (v0, .inl (cA 0, 326, .inl fs))] sz)) (va_Qi (fun (r : Int32) (_ : Unit) => r = 1) (fun (_ : Unit) t => Wq D (va_A [(w0, .inr (11, [.ref v0, .ref v1, .ref v2, .ref v3, .ref v4, .long 0, .long 0, .int 0, .int th, .ref v9, .int 0, .int 0, .int (-1), .ref v13, .int 0, .int 0, .int 0, .int 0, .int 0, .int 0, .int 0, .int 0, .int 0, .int 0, .int 0, .long 0, .int 0, .ref v27, .ref v28, .ref v29, .ref v30, .ref v31, .ref v32, .ref v33, .ref v34, .ref v35, .ref v36, .ref v37, .int 0])), (v0, .inl (cA 0, 326, .inl fs))] sz) [(w0, .inr (11, [.ref v0, .ref v1, .ref v2, .ref v3, .ref v4, .long 0, .long 0, .int 0, .int th, .ref v9, .int 0, .int 0, .int (-1), .ref v13, .int 0, .int 0, .int 0, .int 0, .int 0, .int 0, .int 0, .int 0, .int 0, .int 0, .int 0, .long 0, .int 0, .ref v27, .ref v28, .ref v29, .ref v30, .ref v31, .ref v32, .ref v33, .ref v34, .ref v35, .ref v36, .ref v37, .int 0])), (v0, .inl (cA 0, 326, .inl fs))] t) (va_A [(w0, .inr (11, [.ref v0, .ref v1, .ref v2, .ref v3, .ref v4, .long 0, .long 0, .int 0, .int th, .ref v9, .int 0, .int 0, .int (-1), .ref v13, .int 0, .int 0, .int 0, .int 0, .int 0, .int 0, .int 0, .int 0, .int 0, .int 0, .int 0, .long 0, .int 0, .ref v27, .ref v28, .ref v29, .ref v30, .ref v31, .ref v32, .ref v33, .ref v34, .ref v35, .ref v36, .ref v37, .int 0])), (v0, .inl (cA 0, 326, .inl fs))] sz)) 0 0 (va_A [(w0, .inr (11, [.ref v0, .ref v1, .ref v2, .ref v3, .ref v4, .long 0, .long 0, .int 0, .int th, .ref v9, .int 0, .int 0, .int (-1), .ref v13, .int 0, .int 0, .int 0, .int 0, .int 0, .int 0, .int 0, .int 0, .int 0, .int 0, .int 0, .long 0, .int 0, .ref v27, .ref v28, .ref v29, .ref v30, .ref v31, .ref v32, .ref v33, .ref v34, .ref v35, .ref v36, .ref v37, .int 0])), (v0, .inl (cA 0, 326, .inl fs))] sz) := by
  refine Met.ofW (cc := cX10_areAllClosed) (maxL := 3) (ret := (some .boolean)) (by decide) rfl ?_
  intro p e s m args below meth c s₁ B hml hv
  obtain ⟨rfl, hsz, hP, hK, hD0, hC, hZ⟩ := hv
  have hx := B.exec
  have hb := B.bytes
  have hr := B.returns
  have hts := atoms_spec (ws := wsX10_areAllClosed) B.pre
  have hown : s.vm.findClass RX10 = some m.cls := findClass_of_methodNamed B.named
  have hlocks := B.notSynchronized
  subst hsz
  have hD := hD0.self (sz := s.heap.size)
  generalize hAe : va_A [(w0, .inr (11, [.ref v0, .ref v1, .ref v2, .ref v3, .ref v4, .long 0, .long 0, .int 0, .int th, .ref v9, .int 0, .int 0, .int (-1), .ref v13, .int 0, .int 0, .int 0, .int 0, .int 0, .int 0, .int 0, .int 0, .int 0, .int 0, .int 0, .long 0, .int 0, .ref v27, .ref v28, .ref v29, .ref v30, .ref v31, .ref v32, .ref v33, .ref v34, .ref v35, .ref v36, .ref v37, .int 0])), (v0, .inl (cA 0, 326, .inl fs))] s.heap.size = A at hD hZ ⊢
  have hA : ∀ q : Nat, s.heap.size ≤ q → A q := fun q h => by rw [← hAe]; exact Or.inr h
  have hS : va_S A s.heap s.heap [] := va_S.rf
  have hP : va_P D vwCl [(w0, .inr (11, [.ref v0, .ref v1, .ref v2, .ref v3, .ref v4, .long 0, .long 0, .int 0, .int th, .ref v9, .int 0, .int 0, .int (-1), .ref v13, .int 0, .int 0, .int 0, .int 0, .int 0, .int 0, .int 0, .int 0, .int 0, .int 0, .int 0, .long 0, .int 0, .ref v27, .ref v28, .ref v29, .ref v30, .ref v31, .ref v32, .ref v33, .ref v34, .ref v35, .ref v36, .ref v37, .int 0])), (v0, .inl (cA 0, 326, .inl fs))] s.heap := hP
  have hl := lv_entry ([.ref w0]) (n := 3) (Nat.le_of_ble_eq_true rfl)
  rw [lg_entry_eq]
  generalize (lg_sl ([.ref w0]) ++ List.replicate (3 - (lg_sl ([.ref w0])).length) Slot.unset).toArray = ls at hl ⊢
  have hl : lv_has ls 3 [(0, .ref w0)] := hl
  have inX10 : ∀ w ∈ u_ws RX10 TX10 39, w ∈ wsX10_areAllClosed := by decide +kernel
  refine lv_iconst (v := 1) hx hb dX10_areAllClosed_0 (by decide) ?_
  refine lv_istore_n (lv' := [(1, .int 1), (0, .ref w0)]) hx hb dX10_areAllClosed_1 rfl hl (by decide) rfl (fun ls hl => ?_)
  refine lv_iconst (v := 0) hx hb dX10_areAllClosed_2 (by decide) ?_
  refine lv_istore_n (lv' := [(2, .int 0), (1, .int 1), (0, .ref w0)]) hx hb dX10_areAllClosed_3 rfl hl (by decide) rfl (fun ls hl => ?_)
  refine lv_iload_n hx hb dX10_areAllClosed_4 rfl (lv_at hl 0 rfl) ?_
  refine lv_aload_n hx hb dX10_areAllClosed_5 rfl (lv_at hl 2 rfl) ?_
  refine va_get (D := D) (ci := 11) (v := .ref v0) (C := RX10) (T := TX10) (N := 39) hx hb hts inX10 hown hK hP 0 rfl rfl 0 (by decide) (hts (.fieldLink RX10 7 "EscrowDeskModel" "s" "[I") (by decide +kernel)) (fun _ h9 => h9) rfl dX10_areAllClosed_6 ?_
  refine lv_bipush (v := 13) hx hb dX10_areAllClosed_9 (by decide) ?_
  refine va_iald hx hb hK hP 1 0 rfl rfl (vp_in_iff.mpr (by decide)) dX10_areAllClosed_11 ?_
  refine lv_topi (fun yn1 eyn1 => ?_)
  obtain rfl : yn1 = 0 := eyn1.trans (hz.2 13 (by decide) (by decide) (by decide))
  refine lv_icmp_ge (tgt := 39) hx hb dX10_areAllClosed_12 (by decide) (fun c2 => ?_) (fun c9 => absurd c9 (by decide))
  refine lv_iload_n hx hb dX10_areAllClosed_39 rfl (lv_at hl 1 rfl) ?_
  have hP9 := hP.sub (ws' := [(w0, .inr (11, [.ref v0, .ref v1, .ref v2, .ref v3, .ref v4, .long 0, .long 0, .int 0, .int th, .ref v9, .int 0, .int 0, .int (-1), .ref v13, .int 0, .int 0, .int 0, .int 0, .int 0, .int 0, .int 0, .int 0, .int 0, .int 0, .int 0, .long 0, .int 0, .ref v27, .ref v28, .ref v29, .ref v30, .ref v31, .ref v32, .ref v33, .ref v34, .ref v35, .ref v36, .ref v37, .int 0])), (v0, .inl (cA 0, 326, .inl fs))]) [0, 1] rfl
  have hD9 := hD.sub (ws' := [(w0, .inr (11, [.ref v0, .ref v1, .ref v2, .ref v3, .ref v4, .long 0, .long 0, .int 0, .int th, .ref v9, .int 0, .int 0, .int (-1), .ref v13, .int 0, .int 0, .int 0, .int 0, .int 0, .int 0, .int 0, .int 0, .int 0, .int 0, .int 0, .long 0, .int 0, .ref v27, .ref v28, .ref v29, .ref v30, .ref v31, .ref v32, .ref v33, .ref v34, .ref v35, .ref v36, .ref v37, .int 0])), (v0, .inl (cA 0, 326, .inl fs))]) [0, 1] (by decide) rfl
  refine W.widen (k := 0) (n := 0) (Nat.le_of_ble_eq_true rfl) (Nat.le_of_ble_eq_true rfl) ?_
  exact W.zret (v := 1) hx hb hr (by first | rfl | decide) (fun t ht hW => ⟨⟨1, (), rfl, rfl, by rw [ht]; exact hP9, hD9⟩, hS.F ht⟩) hS.2.2 dX10_areAllClosed_40

set_option maxHeartbeats 4000000 in
set_option maxRecDepth 100000 in
/-- available -/
theorem c_m_available (l : Launch) (D : va_G) (cA : Nat → ClassId) (sa : Nat → Nat) (w0 v0 v1 v2 v3 v4 v9 v13 v27 v28 v29 v30 v31 v32 v33 v34 v35 v36 v37 : Nat) (th : Int32) (fs : Nat → Int32) (sz : Nat) (hz : Zs fs) : Met l yX10_available wsX10_available ({ frames := 1, cells := 0, slots := 0, locals := 22 }) (va_Pc [.ref w0] (Wd D cA sa [(w0, .inr (11, [.ref v0, .ref v1, .ref v2, .ref v3, .ref v4, .long 0, .long 0, .int 0, .int th, .ref v9, .int 0, .int 0, .int (-1), .ref v13, .int 0, .int 0, .int 0, .int 0, .int 0, .int 0, .int 0, .int 0, .int 0, .int 0, .int 0, .long 0, .int 0, .ref v27, .ref v28, .ref v29, .ref v30, .ref v31, .ref v32, .ref v33, .ref v34, .ref v35, .ref v36, .ref v37, .int 0])), (v0, .inl (cA 0, 326, .inl fs))] sz)) (va_Qi (fun (r : Int32) (_ : Unit) => r = 0) (fun (_ : Unit) t => Wq D (va_A [(w0, .inr (11, [.ref v0, .ref v1, .ref v2, .ref v3, .ref v4, .long 0, .long 0, .int 0, .int th, .ref v9, .int 0, .int 0, .int (-1), .ref v13, .int 0, .int 0, .int 0, .int 0, .int 0, .int 0, .int 0, .int 0, .int 0, .int 0, .int 0, .long 0, .int 0, .ref v27, .ref v28, .ref v29, .ref v30, .ref v31, .ref v32, .ref v33, .ref v34, .ref v35, .ref v36, .ref v37, .int 0])), (v0, .inl (cA 0, 326, .inl fs))] sz) [(w0, .inr (11, [.ref v0, .ref v1, .ref v2, .ref v3, .ref v4, .long 0, .long 0, .int 0, .int 0, .ref v9, .int 0, .int 0, .int (-1), .ref v13, .int 0, .int 0, .int 0, .int 0, .int 0, .int 0, .int 0, .int 0, .int 0, .int 0, .int 0, .long 0, .int 0, .ref v27, .ref v28, .ref v29, .ref v30, .ref v31, .ref v32, .ref v33, .ref v34, .ref v35, .ref v36, .ref v37, .int 0]))] t) (va_A [(w0, .inr (11, [.ref v0, .ref v1, .ref v2, .ref v3, .ref v4, .long 0, .long 0, .int 0, .int th, .ref v9, .int 0, .int 0, .int (-1), .ref v13, .int 0, .int 0, .int 0, .int 0, .int 0, .int 0, .int 0, .int 0, .int 0, .int 0, .int 0, .long 0, .int 0, .ref v27, .ref v28, .ref v29, .ref v30, .ref v31, .ref v32, .ref v33, .ref v34, .ref v35, .ref v36, .ref v37, .int 0])), (v0, .inl (cA 0, 326, .inl fs))] sz)) 0 0 (va_A [(w0, .inr (11, [.ref v0, .ref v1, .ref v2, .ref v3, .ref v4, .long 0, .long 0, .int 0, .int th, .ref v9, .int 0, .int 0, .int (-1), .ref v13, .int 0, .int 0, .int 0, .int 0, .int 0, .int 0, .int 0, .int 0, .int 0, .int 0, .int 0, .long 0, .int 0, .ref v27, .ref v28, .ref v29, .ref v30, .ref v31, .ref v32, .ref v33, .ref v34, .ref v35, .ref v36, .ref v37, .int 0])), (v0, .inl (cA 0, 326, .inl fs))] sz) := by
  refine Met.ofW (cc := cX10_available) (maxL := 1) (ret := (some .int)) (by decide) rfl ?_
  intro p e s m args below meth c s₁ B hml hv
  obtain ⟨rfl, hsz, hP, hK, hD0, hC, hZ⟩ := hv
  have hx := B.exec
  have hb := B.bytes
  have hr := B.returns
  have hts := atoms_spec (ws := wsX10_available) B.pre
  have hown : s.vm.findClass RX10 = some m.cls := findClass_of_methodNamed B.named
  have hlocks := B.notSynchronized
  subst hsz
  have hD := hD0.self (sz := s.heap.size)
  generalize hAe : va_A [(w0, .inr (11, [.ref v0, .ref v1, .ref v2, .ref v3, .ref v4, .long 0, .long 0, .int 0, .int th, .ref v9, .int 0, .int 0, .int (-1), .ref v13, .int 0, .int 0, .int 0, .int 0, .int 0, .int 0, .int 0, .int 0, .int 0, .int 0, .int 0, .long 0, .int 0, .ref v27, .ref v28, .ref v29, .ref v30, .ref v31, .ref v32, .ref v33, .ref v34, .ref v35, .ref v36, .ref v37, .int 0])), (v0, .inl (cA 0, 326, .inl fs))] s.heap.size = A at hD hZ ⊢
  have hA : ∀ q : Nat, s.heap.size ≤ q → A q := fun q h => by rw [← hAe]; exact Or.inr h
  have hS : va_S A s.heap s.heap [] := va_S.rf
  have hP : va_P D vwCl [(w0, .inr (11, [.ref v0, .ref v1, .ref v2, .ref v3, .ref v4, .long 0, .long 0, .int 0, .int th, .ref v9, .int 0, .int 0, .int (-1), .ref v13, .int 0, .int 0, .int 0, .int 0, .int 0, .int 0, .int 0, .int 0, .int 0, .int 0, .int 0, .long 0, .int 0, .ref v27, .ref v28, .ref v29, .ref v30, .ref v31, .ref v32, .ref v33, .ref v34, .ref v35, .ref v36, .ref v37, .int 0])), (v0, .inl (cA 0, 326, .inl fs))] s.heap := hP
  have hl := lv_entry ([.ref w0]) (n := 1) (Nat.le_of_ble_eq_true rfl)
  rw [lg_entry_eq]
  generalize (lg_sl ([.ref w0]) ++ List.replicate (1 - (lg_sl ([.ref w0])).length) Slot.unset).toArray = ls at hl ⊢
  have hl : lv_has ls 1 [(0, .ref w0)] := hl
  have inX10 : ∀ w ∈ u_ws RX10 TX10 39, w ∈ wsX10_available := by decide +kernel
  refine lv_aload_n hx hb dX10_available_0 rfl (lv_at hl 0 rfl) ?_
  refine lv_iconst (v := 0) hx hb dX10_available_1 (by decide) ?_
  refine va_put (D := D) (ci := 11) (v := .int 0) (ty := .int) (C := RX10) (T := TX10) (N := 39) hx hb hts inX10 tyX10 tyX10_ok nmX10 hown hK hP hD hS 0 rfl rfl 8 (by decide) (hts (.fieldLink RX10 80 "EscrowDeskModel" "thrown" "I") (by decide +kernel)) (fun _ h9 => h9) rfl (by decide +kernel) rfl rfl (Nat.le_of_ble_eq_true rfl) dX10_available_2 (fun H locs hP hD hS => ?_)
  have hP : va_P D vwCl [(w0, .inr (11, [.ref v0, .ref v1, .ref v2, .ref v3, .ref v4, .long 0, .long 0, .int 0, .int 0, .ref v9, .int 0, .int 0, .int (-1), .ref v13, .int 0, .int 0, .int 0, .int 0, .int 0, .int 0, .int 0, .int 0, .int 0, .int 0, .int 0, .long 0, .int 0, .ref v27, .ref v28, .ref v29, .ref v30, .ref v31, .ref v32, .ref v33, .ref v34, .ref v35, .ref v36, .ref v37, .int 0])), (v0, .inl (cA 0, 326, .inl fs))] H := hP
  have hD : va_D A [(w0, .inr (11, [.ref v0, .ref v1, .ref v2, .ref v3, .ref v4, .long 0, .long 0, .int 0, .int 0, .ref v9, .int 0, .int 0, .int (-1), .ref v13, .int 0, .int 0, .int 0, .int 0, .int 0, .int 0, .int 0, .int 0, .int 0, .int 0, .int 0, .long 0, .int 0, .ref v27, .ref v28, .ref v29, .ref v30, .ref v31, .ref v32, .ref v33, .ref v34, .ref v35, .ref v36, .ref v37, .int 0])), (v0, .inl (cA 0, 326, .inl fs))] := hD
  refine lv_aload_n hx hb dX10_available_5 rfl (lv_at hl 0 rfl) ?_
  have hPc := hP.sub (ws' := [(w0, .inr (11, [.ref v0, .ref v1, .ref v2, .ref v3, .ref v4, .long 0, .long 0, .int 0, .int 0, .ref v9, .int 0, .int 0, .int (-1), .ref v13, .int 0, .int 0, .int 0, .int 0, .int 0, .int 0, .int 0, .int 0, .int 0, .int 0, .int 0, .long 0, .int 0, .ref v27, .ref v28, .ref v29, .ref v30, .ref v31, .ref v32, .ref v33, .ref v34, .ref v35, .ref v36, .ref v37, .int 0])), (v0, .inl (cA 0, 326, .inl fs))]) [0, 1] rfl
  have hDc := hD.sub (ws' := [(w0, .inr (11, [.ref v0, .ref v1, .ref v2, .ref v3, .ref v4, .long 0, .long 0, .int 0, .int 0, .ref v9, .int 0, .int 0, .int (-1), .ref v13, .int 0, .int 0, .int 0, .int 0, .int 0, .int 0, .int 0, .int 0, .int 0, .int 0, .int 0, .long 0, .int 0, .ref v27, .ref v28, .ref v29, .ref v30, .ref v31, .ref v32, .ref v33, .ref v34, .ref v35, .ref v36, .ref v37, .int 0])), (v0, .inl (cA 0, 326, .inl fs))]) [0, 1] (by decide) rfl
  have hFc := va_free (wc := [(w0, .inr (11, [.ref v0, .ref v1, .ref v2, .ref v3, .ref v4, .long 0, .long 0, .int 0, .int 0, .ref v9, .int 0, .int 0, .int (-1), .ref v13, .int 0, .int 0, .int 0, .int 0, .int 0, .int 0, .int 0, .int 0, .int 0, .int 0, .int 0, .long 0, .int 0, .ref v27, .ref v28, .ref v29, .ref v30, .ref v31, .ref v32, .ref v33, .ref v34, .ref v35, .ref v36, .ref v37, .int 0])), (v0, .inl (cA 0, 326, .inl fs))]) hD hS hA [0, 1] rfl
  refine va_calli (va_runV (As := []) (rest := []) ⟨hx, hb, hml, hown, hts⟩ (c_m_availableNow l D cA sa w0 v0 v1 v2 v3 v4 v9 v13 v27 v28 v29 v30 v31 v32 v33 v34 v35 v36 v37 0 fs H.size hz.d) (cwV 0 hts gX10_available_X10_availableNow rfl rfl rfl (by decide +kernel) ⟨(Nat.le_of_ble_eq_true rfl), (Nat.le_of_ble_eq_true rfl)⟩) ⟨Wd.blind, va_recv hK hPc (ci := 11) (q0 := 0) rfl rfl, fun U hU hW => ⟨rfl, Wd.call hPc hDc hK hC hZ hS hFc U hU hW⟩⟩ rfl rfl hl.1 rfl (lv_room (Nat.le_of_ble_eq_true rfl)) dX10_available_6 ⟨(Nat.le_of_ble_eq_true rfl), (Nat.le_of_ble_eq_true rfl)⟩) hS (fun q _ h => hFc q h) hFc (fun rn1 u t H1 locs ht hvm hw hB hz1 hk1 hS => ?_)
  obtain ⟨hP1, hD1⟩ := hB
  rw [ht] at hP1
  obtain ⟨hP, hD⟩ := va_join (wr := []) (w1 := [(w0, .inr (11, [.ref v0, .ref v1, .ref v2, .ref v3, .ref v4, .long 0, .long 0, .int 0, .int 0, .ref v9, .int 0, .int 0, .int (-1), .ref v13, .int 0, .int 0, .int 0, .int 0, .int 0, .int 0, .int 0, .int 0, .int 0, .int 0, .int 0, .long 0, .int 0, .ref v27, .ref v28, .ref v29, .ref v30, .ref v31, .ref v32, .ref v33, .ref v34, .ref v35, .ref v36, .ref v37, .int 0])), (v0, .inl (cA 0, 326, .inl fs))]) hP hD [0, 1] [] rfl rfl (by decide) (by decide) hk1 hFc hP1 hD1
  generalize H1 = H at hP hS ⊢
  have hP : va_P D vwCl [(w0, .inr (11, [.ref v0, .ref v1, .ref v2, .ref v3, .ref v4, .long 0, .long 0, .int 0, .int 0, .ref v9, .int 0, .int 0, .int (-1), .ref v13, .int 0, .int 0, .int 0, .int 0, .int 0, .int 0, .int 0, .int 0, .int 0, .int 0, .int 0, .long 0, .int 0, .ref v27, .ref v28, .ref v29, .ref v30, .ref v31, .ref v32, .ref v33, .ref v34, .ref v35, .ref v36, .ref v37, .int 0])), (v0, .inl (cA 0, 326, .inl fs))] H := hP
  have hD : va_D A [(w0, .inr (11, [.ref v0, .ref v1, .ref v2, .ref v3, .ref v4, .long 0, .long 0, .int 0, .int 0, .ref v9, .int 0, .int 0, .int (-1), .ref v13, .int 0, .int 0, .int 0, .int 0, .int 0, .int 0, .int 0, .int 0, .int 0, .int 0, .int 0, .long 0, .int 0, .ref v27, .ref v28, .ref v29, .ref v30, .ref v31, .ref v32, .ref v33, .ref v34, .ref v35, .ref v36, .ref v37, .int 0])), (v0, .inl (cA 0, 326, .inl fs))] := hD
  obtain rfl : rn1 = 0 := hw
  have hP9 := hP.sub (ws' := [(w0, .inr (11, [.ref v0, .ref v1, .ref v2, .ref v3, .ref v4, .long 0, .long 0, .int 0, .int 0, .ref v9, .int 0, .int 0, .int (-1), .ref v13, .int 0, .int 0, .int 0, .int 0, .int 0, .int 0, .int 0, .int 0, .int 0, .int 0, .int 0, .long 0, .int 0, .ref v27, .ref v28, .ref v29, .ref v30, .ref v31, .ref v32, .ref v33, .ref v34, .ref v35, .ref v36, .ref v37, .int 0]))]) [0] rfl
  have hD9 := hD.sub (ws' := [(w0, .inr (11, [.ref v0, .ref v1, .ref v2, .ref v3, .ref v4, .long 0, .long 0, .int 0, .int 0, .ref v9, .int 0, .int 0, .int (-1), .ref v13, .int 0, .int 0, .int 0, .int 0, .int 0, .int 0, .int 0, .int 0, .int 0, .int 0, .int 0, .long 0, .int 0, .ref v27, .ref v28, .ref v29, .ref v30, .ref v31, .ref v32, .ref v33, .ref v34, .ref v35, .ref v36, .ref v37, .int 0]))]) [0] (by decide) rfl
  refine W.widen (k := 0) (n := 0) (Nat.le_of_ble_eq_true rfl) (Nat.le_of_ble_eq_true rfl) ?_
  exact W.iret (v := 0) hx hb hr (fun t ht hW => ⟨⟨0, (), rfl, rfl, by rw [ht]; exact hP9, hD9⟩, hS.F ht⟩) hS.2.2 dX10_available_9

set_option maxHeartbeats 4000000 in
set_option maxRecDepth 100000 in
/-- closedCount -/
theorem c_m_closedCount (l : Launch) (D : va_G) (cA : Nat → ClassId) (sa : Nat → Nat) (w0 v0 v1 v2 v3 v4 v9 v13 v27 v28 v29 v30 v31 v32 v33 v34 v35 v36 v37 : Nat) (th : Int32) (fs : Nat → Int32) (sz : Nat) (hz : Zs fs) : Met l yX10_closedCount wsX10_closedCount ({ frames := 0, cells := 0, slots := 0, locals := 0 }) (va_Pc [.ref w0] (Wd D cA sa [(w0, .inr (11, [.ref v0, .ref v1, .ref v2, .ref v3, .ref v4, .long 0, .long 0, .int 0, .int th, .ref v9, .int 0, .int 0, .int (-1), .ref v13, .int 0, .int 0, .int 0, .int 0, .int 0, .int 0, .int 0, .int 0, .int 0, .int 0, .int 0, .long 0, .int 0, .ref v27, .ref v28, .ref v29, .ref v30, .ref v31, .ref v32, .ref v33, .ref v34, .ref v35, .ref v36, .ref v37, .int 0])), (v0, .inl (cA 0, 326, .inl fs))] sz)) (va_Qi (fun (r : Int32) (_ : Unit) => r = 0) (fun (_ : Unit) t => Wq D (va_A [(w0, .inr (11, [.ref v0, .ref v1, .ref v2, .ref v3, .ref v4, .long 0, .long 0, .int 0, .int th, .ref v9, .int 0, .int 0, .int (-1), .ref v13, .int 0, .int 0, .int 0, .int 0, .int 0, .int 0, .int 0, .int 0, .int 0, .int 0, .int 0, .long 0, .int 0, .ref v27, .ref v28, .ref v29, .ref v30, .ref v31, .ref v32, .ref v33, .ref v34, .ref v35, .ref v36, .ref v37, .int 0])), (v0, .inl (cA 0, 326, .inl fs))] sz) [(w0, .inr (11, [.ref v0, .ref v1, .ref v2, .ref v3, .ref v4, .long 0, .long 0, .int 0, .int 0, .ref v9, .int 0, .int 0, .int (-1), .ref v13, .int 0, .int 0, .int 0, .int 0, .int 0, .int 0, .int 0, .int 0, .int 0, .int 0, .int 0, .long 0, .int 0, .ref v27, .ref v28, .ref v29, .ref v30, .ref v31, .ref v32, .ref v33, .ref v34, .ref v35, .ref v36, .ref v37, .int 0]))] t) (va_A [(w0, .inr (11, [.ref v0, .ref v1, .ref v2, .ref v3, .ref v4, .long 0, .long 0, .int 0, .int th, .ref v9, .int 0, .int 0, .int (-1), .ref v13, .int 0, .int 0, .int 0, .int 0, .int 0, .int 0, .int 0, .int 0, .int 0, .int 0, .int 0, .long 0, .int 0, .ref v27, .ref v28, .ref v29, .ref v30, .ref v31, .ref v32, .ref v33, .ref v34, .ref v35, .ref v36, .ref v37, .int 0])), (v0, .inl (cA 0, 326, .inl fs))] sz)) 0 0 (va_A [(w0, .inr (11, [.ref v0, .ref v1, .ref v2, .ref v3, .ref v4, .long 0, .long 0, .int 0, .int th, .ref v9, .int 0, .int 0, .int (-1), .ref v13, .int 0, .int 0, .int 0, .int 0, .int 0, .int 0, .int 0, .int 0, .int 0, .int 0, .int 0, .long 0, .int 0, .ref v27, .ref v28, .ref v29, .ref v30, .ref v31, .ref v32, .ref v33, .ref v34, .ref v35, .ref v36, .ref v37, .int 0])), (v0, .inl (cA 0, 326, .inl fs))] sz) := by
  refine Met.ofW (cc := cX10_closedCount) (maxL := 3) (ret := (some .int)) (by decide) rfl ?_
  intro p e s m args below meth c s₁ B hml hv
  obtain ⟨rfl, hsz, hP, hK, hD0, hC, hZ⟩ := hv
  have hx := B.exec
  have hb := B.bytes
  have hr := B.returns
  have hts := atoms_spec (ws := wsX10_closedCount) B.pre
  have hown : s.vm.findClass RX10 = some m.cls := findClass_of_methodNamed B.named
  have hlocks := B.notSynchronized
  subst hsz
  have hD := hD0.self (sz := s.heap.size)
  generalize hAe : va_A [(w0, .inr (11, [.ref v0, .ref v1, .ref v2, .ref v3, .ref v4, .long 0, .long 0, .int 0, .int th, .ref v9, .int 0, .int 0, .int (-1), .ref v13, .int 0, .int 0, .int 0, .int 0, .int 0, .int 0, .int 0, .int 0, .int 0, .int 0, .int 0, .long 0, .int 0, .ref v27, .ref v28, .ref v29, .ref v30, .ref v31, .ref v32, .ref v33, .ref v34, .ref v35, .ref v36, .ref v37, .int 0])), (v0, .inl (cA 0, 326, .inl fs))] s.heap.size = A at hD hZ ⊢
  have hA : ∀ q : Nat, s.heap.size ≤ q → A q := fun q h => by rw [← hAe]; exact Or.inr h
  have hS : va_S A s.heap s.heap [] := va_S.rf
  have hP : va_P D vwCl [(w0, .inr (11, [.ref v0, .ref v1, .ref v2, .ref v3, .ref v4, .long 0, .long 0, .int 0, .int th, .ref v9, .int 0, .int 0, .int (-1), .ref v13, .int 0, .int 0, .int 0, .int 0, .int 0, .int 0, .int 0, .int 0, .int 0, .int 0, .int 0, .long 0, .int 0, .ref v27, .ref v28, .ref v29, .ref v30, .ref v31, .ref v32, .ref v33, .ref v34, .ref v35, .ref v36, .ref v37, .int 0])), (v0, .inl (cA 0, 326, .inl fs))] s.heap := hP
  have hl := lv_entry ([.ref w0]) (n := 3) (Nat.le_of_ble_eq_true rfl)
  rw [lg_entry_eq]
  generalize (lg_sl ([.ref w0]) ++ List.replicate (3 - (lg_sl ([.ref w0])).length) Slot.unset).toArray = ls at hl ⊢
  have hl : lv_has ls 3 [(0, .ref w0)] := hl
  have inX10 : ∀ w ∈ u_ws RX10 TX10 39, w ∈ wsX10_closedCount := by decide +kernel
  refine lv_aload_n hx hb dX10_closedCount_0 rfl (lv_at hl 0 rfl) ?_
  refine lv_iconst (v := 0) hx hb dX10_closedCount_1 (by decide) ?_
  refine va_put (D := D) (ci := 11) (v := .int 0) (ty := .int) (C := RX10) (T := TX10) (N := 39) hx hb hts inX10 tyX10 tyX10_ok nmX10 hown hK hP hD hS 0 rfl rfl 8 (by decide) (hts (.fieldLink RX10 80 "EscrowDeskModel" "thrown" "I") (by decide +kernel)) (fun _ h9 => h9) rfl (by decide +kernel) rfl rfl (Nat.le_of_ble_eq_true rfl) dX10_closedCount_2 (fun H locs hP hD hS => ?_)
  have hP : va_P D vwCl [(w0, .inr (11, [.ref v0, .ref v1, .ref v2, .ref v3, .ref v4, .long 0, .long 0, .int 0, .int 0, .ref v9, .int 0, .int 0, .int (-1), .ref v13, .int 0, .int 0, .int 0, .int 0, .int 0, .int 0, .int 0, .int 0, .int 0, .int 0, .int 0, .long 0, .int 0, .ref v27, .ref v28, .ref v29, .ref v30, .ref v31, .ref v32, .ref v33, .ref v34, .ref v35, .ref v36, .ref v37, .int 0])), (v0, .inl (cA 0, 326, .inl fs))] H := hP
  have hD : va_D A [(w0, .inr (11, [.ref v0, .ref v1, .ref v2, .ref v3, .ref v4, .long 0, .long 0, .int 0, .int 0, .ref v9, .int 0, .int 0, .int (-1), .ref v13, .int 0, .int 0, .int 0, .int 0, .int 0, .int 0, .int 0, .int 0, .int 0, .int 0, .int 0, .long 0, .int 0, .ref v27, .ref v28, .ref v29, .ref v30, .ref v31, .ref v32, .ref v33, .ref v34, .ref v35, .ref v36, .ref v37, .int 0])), (v0, .inl (cA 0, 326, .inl fs))] := hD
  refine lv_iconst (v := 0) hx hb dX10_closedCount_5 (by decide) ?_
  refine lv_istore_n (lv' := [(1, .int 0), (0, .ref w0)]) hx hb dX10_closedCount_6 rfl hl (by decide) rfl (fun ls hl => ?_)
  refine lv_iconst (v := 0) hx hb dX10_closedCount_7 (by decide) ?_
  refine lv_istore_n (lv' := [(2, .int 0), (1, .int 0), (0, .ref w0)]) hx hb dX10_closedCount_8 rfl hl (by decide) rfl (fun ls hl => ?_)
  refine lv_iload_n hx hb dX10_closedCount_9 rfl (lv_at hl 0 rfl) ?_
  refine lv_aload_n hx hb dX10_closedCount_10 rfl (lv_at hl 2 rfl) ?_
  refine va_get (D := D) (ci := 11) (v := .ref v0) (C := RX10) (T := TX10) (N := 39) hx hb hts inX10 hown hK hP 0 rfl rfl 0 (by decide) (hts (.fieldLink RX10 7 "EscrowDeskModel" "s" "[I") (by decide +kernel)) (fun _ h9 => h9) rfl dX10_closedCount_11 ?_
  refine lv_bipush (v := 13) hx hb dX10_closedCount_14 (by decide) ?_
  refine va_iald hx hb hK hP 1 0 rfl rfl (vp_in_iff.mpr (by decide)) dX10_closedCount_16 ?_
  refine lv_topi (fun yn1 eyn1 => ?_)
  obtain rfl : yn1 = 0 := eyn1.trans (hz.2 13 (by decide) (by decide))
  refine lv_icmp_ge (tgt := 42) hx hb dX10_closedCount_17 (by decide) (fun c2 => ?_) (fun c9 => absurd c9 (by decide))
  refine lv_iload_n hx hb dX10_closedCount_42 rfl (lv_at hl 1 rfl) ?_
  have hP9 := hP.sub (ws' := [(w0, .inr (11, [.ref v0, .ref v1, .ref v2, .ref v3, .ref v4, .long 0, .long 0, .int 0, .int 0, .ref v9, .int 0, .int 0, .int (-1), .ref v13, .int 0, .int 0, .int 0, .int 0, .int 0, .int 0, .int 0, .int 0, .int 0, .int 0, .int 0, .long 0, .int 0, .ref v27, .ref v28, .ref v29, .ref v30, .ref v31, .ref v32, .ref v33, .ref v34, .ref v35, .ref v36, .ref v37, .int 0]))]) [0] rfl
  have hD9 := hD.sub (ws' := [(w0, .inr (11, [.ref v0, .ref v1, .ref v2, .ref v3, .ref v4, .long 0, .long 0, .int 0, .int 0, .ref v9, .int 0, .int 0, .int (-1), .ref v13, .int 0, .int 0, .int 0, .int 0, .int 0, .int 0, .int 0, .int 0, .int 0, .int 0, .int 0, .long 0, .int 0, .ref v27, .ref v28, .ref v29, .ref v30, .ref v31, .ref v32, .ref v33, .ref v34, .ref v35, .ref v36, .ref v37, .int 0]))]) [0] (by decide) rfl
  refine W.widen (k := 0) (n := 0) (Nat.le_of_ble_eq_true rfl) (Nat.le_of_ble_eq_true rfl) ?_
  exact W.iret (v := 0) hx hb hr (fun t ht hW => ⟨⟨0, (), rfl, rfl, by rw [ht]; exact hP9, hD9⟩, hS.F ht⟩) hS.2.2 dX10_closedCount_43

set_option maxHeartbeats 4000000 in
set_option maxRecDepth 100000 in
/-- progress -/
theorem c_m_progress (l : Launch) (D : va_G) (cA : Nat → ClassId) (sa : Nat → Nat) (w0 v0 v1 v2 v3 v4 v9 v13 v27 v28 v29 v30 v31 v32 v33 v34 v35 v36 v37 : Nat) (th : Int32) (fs : Nat → Int32) (sz : Nat) (hz : Zs fs) : Met l yX10_progress wsX10_progress ({ frames := 0, cells := 0, slots := 0, locals := 0 }) (va_Pc [.ref w0] (Wd D cA sa [(w0, .inr (11, [.ref v0, .ref v1, .ref v2, .ref v3, .ref v4, .long 0, .long 0, .int 0, .int th, .ref v9, .int 0, .int 0, .int (-1), .ref v13, .int 0, .int 0, .int 0, .int 0, .int 0, .int 0, .int 0, .int 0, .int 0, .int 0, .int 0, .long 0, .int 0, .ref v27, .ref v28, .ref v29, .ref v30, .ref v31, .ref v32, .ref v33, .ref v34, .ref v35, .ref v36, .ref v37, .int 0])), (v0, .inl (cA 0, 326, .inl fs))] sz)) (va_Qi (fun (r : Int32) (_ : Unit) => r = 0) (fun (_ : Unit) t => Wq D (va_A [(w0, .inr (11, [.ref v0, .ref v1, .ref v2, .ref v3, .ref v4, .long 0, .long 0, .int 0, .int th, .ref v9, .int 0, .int 0, .int (-1), .ref v13, .int 0, .int 0, .int 0, .int 0, .int 0, .int 0, .int 0, .int 0, .int 0, .int 0, .int 0, .long 0, .int 0, .ref v27, .ref v28, .ref v29, .ref v30, .ref v31, .ref v32, .ref v33, .ref v34, .ref v35, .ref v36, .ref v37, .int 0])), (v0, .inl (cA 0, 326, .inl fs))] sz) [(w0, .inr (11, [.ref v0, .ref v1, .ref v2, .ref v3, .ref v4, .long 0, .long 0, .int 0, .int 0, .ref v9, .int 0, .int 0, .int (-1), .ref v13, .int 0, .int 0, .int 0, .int 0, .int 0, .int 0, .int 0, .int 0, .int 0, .int 0, .int 0, .long 0, .int 0, .ref v27, .ref v28, .ref v29, .ref v30, .ref v31, .ref v32, .ref v33, .ref v34, .ref v35, .ref v36, .ref v37, .int 0]))] t) (va_A [(w0, .inr (11, [.ref v0, .ref v1, .ref v2, .ref v3, .ref v4, .long 0, .long 0, .int 0, .int th, .ref v9, .int 0, .int 0, .int (-1), .ref v13, .int 0, .int 0, .int 0, .int 0, .int 0, .int 0, .int 0, .int 0, .int 0, .int 0, .int 0, .long 0, .int 0, .ref v27, .ref v28, .ref v29, .ref v30, .ref v31, .ref v32, .ref v33, .ref v34, .ref v35, .ref v36, .ref v37, .int 0])), (v0, .inl (cA 0, 326, .inl fs))] sz)) 0 0 (va_A [(w0, .inr (11, [.ref v0, .ref v1, .ref v2, .ref v3, .ref v4, .long 0, .long 0, .int 0, .int th, .ref v9, .int 0, .int 0, .int (-1), .ref v13, .int 0, .int 0, .int 0, .int 0, .int 0, .int 0, .int 0, .int 0, .int 0, .int 0, .int 0, .long 0, .int 0, .ref v27, .ref v28, .ref v29, .ref v30, .ref v31, .ref v32, .ref v33, .ref v34, .ref v35, .ref v36, .ref v37, .int 0])), (v0, .inl (cA 0, 326, .inl fs))] sz) := by
  refine Met.ofW (cc := cX10_progress) (maxL := 6) (ret := (some .int)) (by decide) rfl ?_
  intro p e s m args below meth c s₁ B hml hv
  obtain ⟨rfl, hsz, hP, hK, hD0, hC, hZ⟩ := hv
  have hx := B.exec
  have hb := B.bytes
  have hr := B.returns
  have hts := atoms_spec (ws := wsX10_progress) B.pre
  have hown : s.vm.findClass RX10 = some m.cls := findClass_of_methodNamed B.named
  have hlocks := B.notSynchronized
  subst hsz
  have hD := hD0.self (sz := s.heap.size)
  generalize hAe : va_A [(w0, .inr (11, [.ref v0, .ref v1, .ref v2, .ref v3, .ref v4, .long 0, .long 0, .int 0, .int th, .ref v9, .int 0, .int 0, .int (-1), .ref v13, .int 0, .int 0, .int 0, .int 0, .int 0, .int 0, .int 0, .int 0, .int 0, .int 0, .int 0, .long 0, .int 0, .ref v27, .ref v28, .ref v29, .ref v30, .ref v31, .ref v32, .ref v33, .ref v34, .ref v35, .ref v36, .ref v37, .int 0])), (v0, .inl (cA 0, 326, .inl fs))] s.heap.size = A at hD hZ ⊢
  have hA : ∀ q : Nat, s.heap.size ≤ q → A q := fun q h => by rw [← hAe]; exact Or.inr h
  have hS : va_S A s.heap s.heap [] := va_S.rf
  have hP : va_P D vwCl [(w0, .inr (11, [.ref v0, .ref v1, .ref v2, .ref v3, .ref v4, .long 0, .long 0, .int 0, .int th, .ref v9, .int 0, .int 0, .int (-1), .ref v13, .int 0, .int 0, .int 0, .int 0, .int 0, .int 0, .int 0, .int 0, .int 0, .int 0, .int 0, .long 0, .int 0, .ref v27, .ref v28, .ref v29, .ref v30, .ref v31, .ref v32, .ref v33, .ref v34, .ref v35, .ref v36, .ref v37, .int 0])), (v0, .inl (cA 0, 326, .inl fs))] s.heap := hP
  have hl := lv_entry ([.ref w0]) (n := 6) (Nat.le_of_ble_eq_true rfl)
  rw [lg_entry_eq]
  generalize (lg_sl ([.ref w0]) ++ List.replicate (6 - (lg_sl ([.ref w0])).length) Slot.unset).toArray = ls at hl ⊢
  have hl : lv_has ls 6 [(0, .ref w0)] := hl
  have inX10 : ∀ w ∈ u_ws RX10 TX10 39, w ∈ wsX10_progress := by decide +kernel
  refine lv_aload_n hx hb dX10_progress_0 rfl (lv_at hl 0 rfl) ?_
  refine lv_iconst (v := 0) hx hb dX10_progress_1 (by decide) ?_
  refine va_put (D := D) (ci := 11) (v := .int 0) (ty := .int) (C := RX10) (T := TX10) (N := 39) hx hb hts inX10 tyX10 tyX10_ok nmX10 hown hK hP hD hS 0 rfl rfl 8 (by decide) (hts (.fieldLink RX10 80 "EscrowDeskModel" "thrown" "I") (by decide +kernel)) (fun _ h9 => h9) rfl (by decide +kernel) rfl rfl (Nat.le_of_ble_eq_true rfl) dX10_progress_2 (fun H locs hP hD hS => ?_)
  have hP : va_P D vwCl [(w0, .inr (11, [.ref v0, .ref v1, .ref v2, .ref v3, .ref v4, .long 0, .long 0, .int 0, .int 0, .ref v9, .int 0, .int 0, .int (-1), .ref v13, .int 0, .int 0, .int 0, .int 0, .int 0, .int 0, .int 0, .int 0, .int 0, .int 0, .int 0, .long 0, .int 0, .ref v27, .ref v28, .ref v29, .ref v30, .ref v31, .ref v32, .ref v33, .ref v34, .ref v35, .ref v36, .ref v37, .int 0])), (v0, .inl (cA 0, 326, .inl fs))] H := hP
  have hD : va_D A [(w0, .inr (11, [.ref v0, .ref v1, .ref v2, .ref v3, .ref v4, .long 0, .long 0, .int 0, .int 0, .ref v9, .int 0, .int 0, .int (-1), .ref v13, .int 0, .int 0, .int 0, .int 0, .int 0, .int 0, .int 0, .int 0, .int 0, .int 0, .int 0, .long 0, .int 0, .ref v27, .ref v28, .ref v29, .ref v30, .ref v31, .ref v32, .ref v33, .ref v34, .ref v35, .ref v36, .ref v37, .int 0])), (v0, .inl (cA 0, 326, .inl fs))] := hD
  refine lv_lconst (v := 0) hx hb dX10_progress_5 (by decide) ?_
  refine lv_lstore_n (lv' := [(1, .long 0), (0, .ref w0)]) hx hb dX10_progress_6 rfl hl (by decide) rfl (fun ls hl => ?_)
  refine lv_lconst (v := 0) hx hb dX10_progress_7 (by decide) ?_
  refine lv_lstore_n (lv' := [(3, .long 0), (1, .long 0), (0, .ref w0)]) hx hb dX10_progress_8 rfl hl (by decide) rfl (fun ls hl => ?_)
  refine lv_iconst (v := 0) hx hb dX10_progress_9 (by decide) ?_
  refine lv_istore (lv' := [(5, .int 0), (3, .long 0), (1, .long 0), (0, .ref w0)]) hx hb dX10_progress_10 hl (by decide) rfl (fun ls hl => ?_)
  refine lv_iload hx hb dX10_progress_12 (lv_at hl 0 rfl) ?_
  refine lv_aload_n hx hb dX10_progress_14 rfl (lv_at hl 3 rfl) ?_
  refine va_get (D := D) (ci := 11) (v := .ref v0) (C := RX10) (T := TX10) (N := 39) hx hb hts inX10 hown hK hP 0 rfl rfl 0 (by decide) (hts (.fieldLink RX10 7 "EscrowDeskModel" "s" "[I") (by decide +kernel)) (fun _ h9 => h9) rfl dX10_progress_15 ?_
  refine lv_bipush (v := 13) hx hb dX10_progress_18 (by decide) ?_
  refine va_iald hx hb hK hP 1 0 rfl rfl (vp_in_iff.mpr (by decide)) dX10_progress_20 ?_
  refine lv_topi (fun yn1 eyn1 => ?_)
  obtain rfl : yn1 = 0 := eyn1.trans (hz.2 13 (by decide) (by decide))
  refine lv_icmp_ge (tgt := 52) hx hb dX10_progress_21 (by decide) (fun c2 => ?_) (fun c9 => absurd c9 (by decide))
  refine lv_lload_n hx hb dX10_progress_52 rfl (lv_at hl 1 rfl) ?_
  refine lv_lconst (v := 0) hx hb dX10_progress_53 (by decide) ?_
  refine W.lcmp hx hb dX10_progress_54 ?_
  refine lv_topi (fun yn3 eyn3 => ?_)
  obtain rfl : yn3 = 0 := eyn3.trans (by first | rfl | decide +kernel)
  refine lv_if_ne (tgt := 62) hx hb dX10_progress_55 (by decide) (fun c9 => absurd c9 (by decide)) (fun c4 => ?_)
  refine lv_iconst (v := 0) hx hb dX10_progress_58 (by decide) ?_
  refine lv_goto (tgt := 70) hx hb dX10_progress_59 (by decide) ?_
  have hP9 := hP.sub (ws' := [(w0, .inr (11, [.ref v0, .ref v1, .ref v2, .ref v3, .ref v4, .long 0, .long 0, .int 0, .int 0, .ref v9, .int 0, .int 0, .int (-1), .ref v13, .int 0, .int 0, .int 0, .int 0, .int 0, .int 0, .int 0, .int 0, .int 0, .int 0, .int 0, .long 0, .int 0, .ref v27, .ref v28, .ref v29, .ref v30, .ref v31, .ref v32, .ref v33, .ref v34, .ref v35, .ref v36, .ref v37, .int 0]))]) [0] rfl
  have hD9 := hD.sub (ws' := [(w0, .inr (11, [.ref v0, .ref v1, .ref v2, .ref v3, .ref v4, .long 0, .long 0, .int 0, .int 0, .ref v9, .int 0, .int 0, .int (-1), .ref v13, .int 0, .int 0, .int 0, .int 0, .int 0, .int 0, .int 0, .int 0, .int 0, .int 0, .int 0, .long 0, .int 0, .ref v27, .ref v28, .ref v29, .ref v30, .ref v31, .ref v32, .ref v33, .ref v34, .ref v35, .ref v36, .ref v37, .int 0]))]) [0] (by decide) rfl
  refine W.widen (k := 0) (n := 0) (Nat.le_of_ble_eq_true rfl) (Nat.le_of_ble_eq_true rfl) ?_
  exact W.iret (v := 0) hx hb hr (fun t ht hW => ⟨⟨0, (), rfl, rfl, by rw [ht]; exact hP9, hD9⟩, hS.F ht⟩) hS.2.2 dX10_progress_70

set_option maxHeartbeats 4000000 in
set_option maxRecDepth 100000 in
/-- shortage -/
theorem c_m_shortage (l : Launch) (D : va_G) (cA : Nat → ClassId) (sa : Nat → Nat) (w0 v0 v1 v2 v3 v4 v9 v13 v27 v28 v29 v30 v31 v32 v33 v34 v35 v36 v37 : Nat) (th : Int32) (fs : Nat → Int32) (sz : Nat) (hz : Zs fs) : Met l yX10_shortage wsX10_shortage ({ frames := 1, cells := 0, slots := 0, locals := 21 }) (va_Pc [.ref w0] (Wd D cA sa [(w0, .inr (11, [.ref v0, .ref v1, .ref v2, .ref v3, .ref v4, .long 0, .long 0, .int 0, .int th, .ref v9, .int 0, .int 0, .int (-1), .ref v13, .int 0, .int 0, .int 0, .int 0, .int 0, .int 0, .int 0, .int 0, .int 0, .int 0, .int 0, .long 0, .int 0, .ref v27, .ref v28, .ref v29, .ref v30, .ref v31, .ref v32, .ref v33, .ref v34, .ref v35, .ref v36, .ref v37, .int 0])), (v0, .inl (cA 0, 326, .inl fs))] sz)) (va_Qi (fun (r : Int32) (_ : Unit) => r = 0) (fun (_ : Unit) t => Wq D (va_A [(w0, .inr (11, [.ref v0, .ref v1, .ref v2, .ref v3, .ref v4, .long 0, .long 0, .int 0, .int th, .ref v9, .int 0, .int 0, .int (-1), .ref v13, .int 0, .int 0, .int 0, .int 0, .int 0, .int 0, .int 0, .int 0, .int 0, .int 0, .int 0, .long 0, .int 0, .ref v27, .ref v28, .ref v29, .ref v30, .ref v31, .ref v32, .ref v33, .ref v34, .ref v35, .ref v36, .ref v37, .int 0])), (v0, .inl (cA 0, 326, .inl fs))] sz) [(w0, .inr (11, [.ref v0, .ref v1, .ref v2, .ref v3, .ref v4, .long 0, .long 0, .int 0, .int 0, .ref v9, .int 0, .int 0, .int (-1), .ref v13, .int 0, .int 0, .int 0, .int 0, .int 0, .int 0, .int 0, .int 0, .int 0, .int 0, .int 0, .long 0, .int 0, .ref v27, .ref v28, .ref v29, .ref v30, .ref v31, .ref v32, .ref v33, .ref v34, .ref v35, .ref v36, .ref v37, .int 0]))] t) (va_A [(w0, .inr (11, [.ref v0, .ref v1, .ref v2, .ref v3, .ref v4, .long 0, .long 0, .int 0, .int th, .ref v9, .int 0, .int 0, .int (-1), .ref v13, .int 0, .int 0, .int 0, .int 0, .int 0, .int 0, .int 0, .int 0, .int 0, .int 0, .int 0, .long 0, .int 0, .ref v27, .ref v28, .ref v29, .ref v30, .ref v31, .ref v32, .ref v33, .ref v34, .ref v35, .ref v36, .ref v37, .int 0])), (v0, .inl (cA 0, 326, .inl fs))] sz)) 0 0 (va_A [(w0, .inr (11, [.ref v0, .ref v1, .ref v2, .ref v3, .ref v4, .long 0, .long 0, .int 0, .int th, .ref v9, .int 0, .int 0, .int (-1), .ref v13, .int 0, .int 0, .int 0, .int 0, .int 0, .int 0, .int 0, .int 0, .int 0, .int 0, .int 0, .long 0, .int 0, .ref v27, .ref v28, .ref v29, .ref v30, .ref v31, .ref v32, .ref v33, .ref v34, .ref v35, .ref v36, .ref v37, .int 0])), (v0, .inl (cA 0, 326, .inl fs))] sz) := by
  refine Met.ofW (cc := cX10_shortage) (maxL := 3) (ret := (some .int)) (by decide) rfl ?_
  intro p e s m args below meth c s₁ B hml hv
  obtain ⟨rfl, hsz, hP, hK, hD0, hC, hZ⟩ := hv
  have hx := B.exec
  have hb := B.bytes
  have hr := B.returns
  have hts := atoms_spec (ws := wsX10_shortage) B.pre
  have hown : s.vm.findClass RX10 = some m.cls := findClass_of_methodNamed B.named
  have hlocks := B.notSynchronized
  subst hsz
  have hD := hD0.self (sz := s.heap.size)
  generalize hAe : va_A [(w0, .inr (11, [.ref v0, .ref v1, .ref v2, .ref v3, .ref v4, .long 0, .long 0, .int 0, .int th, .ref v9, .int 0, .int 0, .int (-1), .ref v13, .int 0, .int 0, .int 0, .int 0, .int 0, .int 0, .int 0, .int 0, .int 0, .int 0, .int 0, .long 0, .int 0, .ref v27, .ref v28, .ref v29, .ref v30, .ref v31, .ref v32, .ref v33, .ref v34, .ref v35, .ref v36, .ref v37, .int 0])), (v0, .inl (cA 0, 326, .inl fs))] s.heap.size = A at hD hZ ⊢
  have hA : ∀ q : Nat, s.heap.size ≤ q → A q := fun q h => by rw [← hAe]; exact Or.inr h
  have hS : va_S A s.heap s.heap [] := va_S.rf
  have hP : va_P D vwCl [(w0, .inr (11, [.ref v0, .ref v1, .ref v2, .ref v3, .ref v4, .long 0, .long 0, .int 0, .int th, .ref v9, .int 0, .int 0, .int (-1), .ref v13, .int 0, .int 0, .int 0, .int 0, .int 0, .int 0, .int 0, .int 0, .int 0, .int 0, .int 0, .long 0, .int 0, .ref v27, .ref v28, .ref v29, .ref v30, .ref v31, .ref v32, .ref v33, .ref v34, .ref v35, .ref v36, .ref v37, .int 0])), (v0, .inl (cA 0, 326, .inl fs))] s.heap := hP
  have hl := lv_entry ([.ref w0]) (n := 3) (Nat.le_of_ble_eq_true rfl)
  rw [lg_entry_eq]
  generalize (lg_sl ([.ref w0]) ++ List.replicate (3 - (lg_sl ([.ref w0])).length) Slot.unset).toArray = ls at hl ⊢
  have hl : lv_has ls 3 [(0, .ref w0)] := hl
  have inX10 : ∀ w ∈ u_ws RX10 TX10 39, w ∈ wsX10_shortage := by decide +kernel
  refine lv_aload_n hx hb dX10_shortage_0 rfl (lv_at hl 0 rfl) ?_
  refine lv_iconst (v := 0) hx hb dX10_shortage_1 (by decide) ?_
  refine va_put (D := D) (ci := 11) (v := .int 0) (ty := .int) (C := RX10) (T := TX10) (N := 39) hx hb hts inX10 tyX10 tyX10_ok nmX10 hown hK hP hD hS 0 rfl rfl 8 (by decide) (hts (.fieldLink RX10 80 "EscrowDeskModel" "thrown" "I") (by decide +kernel)) (fun _ h9 => h9) rfl (by decide +kernel) rfl rfl (Nat.le_of_ble_eq_true rfl) dX10_shortage_2 (fun H locs hP hD hS => ?_)
  have hP : va_P D vwCl [(w0, .inr (11, [.ref v0, .ref v1, .ref v2, .ref v3, .ref v4, .long 0, .long 0, .int 0, .int 0, .ref v9, .int 0, .int 0, .int (-1), .ref v13, .int 0, .int 0, .int 0, .int 0, .int 0, .int 0, .int 0, .int 0, .int 0, .int 0, .int 0, .long 0, .int 0, .ref v27, .ref v28, .ref v29, .ref v30, .ref v31, .ref v32, .ref v33, .ref v34, .ref v35, .ref v36, .ref v37, .int 0])), (v0, .inl (cA 0, 326, .inl fs))] H := hP
  have hD : va_D A [(w0, .inr (11, [.ref v0, .ref v1, .ref v2, .ref v3, .ref v4, .long 0, .long 0, .int 0, .int 0, .ref v9, .int 0, .int 0, .int (-1), .ref v13, .int 0, .int 0, .int 0, .int 0, .int 0, .int 0, .int 0, .int 0, .int 0, .int 0, .int 0, .long 0, .int 0, .ref v27, .ref v28, .ref v29, .ref v30, .ref v31, .ref v32, .ref v33, .ref v34, .ref v35, .ref v36, .ref v37, .int 0])), (v0, .inl (cA 0, 326, .inl fs))] := hD
  refine lv_aload_n hx hb dX10_shortage_5 rfl (lv_at hl 0 rfl) ?_
  refine va_get (D := D) (ci := 11) (v := .ref v0) (C := RX10) (T := TX10) (N := 39) hx hb hts inX10 hown hK hP 0 rfl rfl 0 (by decide) (hts (.fieldLink RX10 7 "EscrowDeskModel" "s" "[I") (by decide +kernel)) (fun _ h9 => h9) rfl dX10_shortage_6 ?_
  refine lv_bipush (v := 6) hx hb dX10_shortage_9 (by decide) ?_
  refine va_iald hx hb hK hP 1 0 rfl rfl (vp_in_iff.mpr (by decide)) dX10_shortage_11 ?_
  refine lv_topi (fun yn1 eyn1 => ?_)
  obtain rfl : yn1 = 0 := eyn1.trans (hz.2 6 (by decide) (by decide))
  refine lv_ineg hx hb dX10_shortage_12 ?_
  refine lv_topi (fun yn2 eyn2 => ?_)
  obtain rfl : yn2 = 0 := eyn2.trans (by first | rfl | decide +kernel)
  refine lv_istore_n (lv' := [(1, .int 0), (0, .ref w0)]) hx hb dX10_shortage_13 rfl hl (by decide) rfl (fun ls hl => ?_)
  refine lv_iconst (v := 0) hx hb dX10_shortage_14 (by decide) ?_
  refine lv_istore_n (lv' := [(2, .int 0), (1, .int 0), (0, .ref w0)]) hx hb dX10_shortage_15 rfl hl (by decide) rfl (fun ls hl => ?_)
  refine lv_iload_n hx hb dX10_shortage_16 rfl (lv_at hl 0 rfl) ?_
  refine lv_aload_n hx hb dX10_shortage_17 rfl (lv_at hl 2 rfl) ?_
  refine va_get (D := D) (ci := 11) (v := .ref v0) (C := RX10) (T := TX10) (N := 39) hx hb hts inX10 hown hK hP 0 rfl rfl 0 (by decide) (hts (.fieldLink RX10 7 "EscrowDeskModel" "s" "[I") (by decide +kernel)) (fun _ h9 => h9) rfl dX10_shortage_18 ?_
  refine lv_bipush (v := 13) hx hb dX10_shortage_21 (by decide) ?_
  refine va_iald hx hb hK hP 1 0 rfl rfl (vp_in_iff.mpr (by decide)) dX10_shortage_23 ?_
  refine lv_topi (fun yn3 eyn3 => ?_)
  obtain rfl : yn3 = 0 := eyn3.trans (hz.2 13 (by decide) (by decide))
  refine lv_icmp_ge (tgt := 41) hx hb dX10_shortage_24 (by decide) (fun c4 => ?_) (fun c9 => absurd c9 (by decide))
  refine lv_iconst (v := 0) hx hb dX10_shortage_41 (by decide) ?_
  refine lv_iload_n hx hb dX10_shortage_42 rfl (lv_at hl 1 rfl) ?_
  refine va_mmax hx hb (by rw [hml]; exact hl.1.symm) hown (hts (.methodLink RX10 345 Lib.Math.max.name) (by decide +kernel)) (hts (.static Lib.Math.max.name) (by decide +kernel)) (hts (.initialized "java/lang/Math") (by decide +kernel)) (hts (.code Lib.Math.max.name Lib.Math.max.code 2 (some .int)) (by decide +kernel)) (Nat.le_of_ble_eq_true rfl) (Nat.le_of_ble_eq_true rfl) (Nat.le_of_ble_eq_true rfl) (Nat.le_of_ble_eq_true rfl) dX10_shortage_43 ?_
  refine lv_topi (fun yn5 eyn5 => ?_)
  obtain rfl : yn5 = 0 := eyn5.trans (by first | rfl | decide +kernel)
  have hP9 := hP.sub (ws' := [(w0, .inr (11, [.ref v0, .ref v1, .ref v2, .ref v3, .ref v4, .long 0, .long 0, .int 0, .int 0, .ref v9, .int 0, .int 0, .int (-1), .ref v13, .int 0, .int 0, .int 0, .int 0, .int 0, .int 0, .int 0, .int 0, .int 0, .int 0, .int 0, .long 0, .int 0, .ref v27, .ref v28, .ref v29, .ref v30, .ref v31, .ref v32, .ref v33, .ref v34, .ref v35, .ref v36, .ref v37, .int 0]))]) [0] rfl
  have hD9 := hD.sub (ws' := [(w0, .inr (11, [.ref v0, .ref v1, .ref v2, .ref v3, .ref v4, .long 0, .long 0, .int 0, .int 0, .ref v9, .int 0, .int 0, .int (-1), .ref v13, .int 0, .int 0, .int 0, .int 0, .int 0, .int 0, .int 0, .int 0, .int 0, .int 0, .int 0, .long 0, .int 0, .ref v27, .ref v28, .ref v29, .ref v30, .ref v31, .ref v32, .ref v33, .ref v34, .ref v35, .ref v36, .ref v37, .int 0]))]) [0] (by decide) rfl
  refine W.widen (k := 0) (n := 0) (Nat.le_of_ble_eq_true rfl) (Nat.le_of_ble_eq_true rfl) ?_
  exact W.iret (v := 0) hx hb hr (fun t ht hW => ⟨⟨0, (), rfl, rfl, by rw [ht]; exact hP9, hD9⟩, hS.F ht⟩) hS.2.2 dX10_shortage_46

set_option maxHeartbeats 4000000 in
set_option maxRecDepth 100000 in
/-- busiestDay -/
theorem c_m_busiestDay (l : Launch) (D : va_G) (cA : Nat → ClassId) (sa : Nat → Nat) (w0 v0 v1 v2 v3 v4 v9 v13 v27 v28 v29 v30 v31 v32 v33 v34 v35 v36 v37 : Nat) (th : Int32) (fs : Nat → Int32) (sz : Nat) (hz : Zs fs) : Met l yX10_busiestDay wsX10_busiestDay ({ frames := 0, cells := 0, slots := 0, locals := 0 }) (va_Pc [.ref w0] (Wd D cA sa [(w0, .inr (11, [.ref v0, .ref v1, .ref v2, .ref v3, .ref v4, .long 0, .long 0, .int 0, .int th, .ref v9, .int 0, .int 0, .int (-1), .ref v13, .int 0, .int 0, .int 0, .int 0, .int 0, .int 0, .int 0, .int 0, .int 0, .int 0, .int 0, .long 0, .int 0, .ref v27, .ref v28, .ref v29, .ref v30, .ref v31, .ref v32, .ref v33, .ref v34, .ref v35, .ref v36, .ref v37, .int 0])), (v0, .inl (cA 0, 326, .inl fs))] sz)) (va_Qi (fun (r : Int32) (_ : Unit) => r = (-1)) (fun (_ : Unit) t => Wq D (va_A [(w0, .inr (11, [.ref v0, .ref v1, .ref v2, .ref v3, .ref v4, .long 0, .long 0, .int 0, .int th, .ref v9, .int 0, .int 0, .int (-1), .ref v13, .int 0, .int 0, .int 0, .int 0, .int 0, .int 0, .int 0, .int 0, .int 0, .int 0, .int 0, .long 0, .int 0, .ref v27, .ref v28, .ref v29, .ref v30, .ref v31, .ref v32, .ref v33, .ref v34, .ref v35, .ref v36, .ref v37, .int 0])), (v0, .inl (cA 0, 326, .inl fs))] sz) [(w0, .inr (11, [.ref v0, .ref v1, .ref v2, .ref v3, .ref v4, .long 0, .long 0, .int 0, .int 0, .ref v9, .int 0, .int 0, .int (-1), .ref v13, .int 0, .int 0, .int 0, .int 0, .int 0, .int 0, .int 0, .int 0, .int 0, .int 0, .int 0, .long 0, .int 0, .ref v27, .ref v28, .ref v29, .ref v30, .ref v31, .ref v32, .ref v33, .ref v34, .ref v35, .ref v36, .ref v37, .int 0]))] t) (va_A [(w0, .inr (11, [.ref v0, .ref v1, .ref v2, .ref v3, .ref v4, .long 0, .long 0, .int 0, .int th, .ref v9, .int 0, .int 0, .int (-1), .ref v13, .int 0, .int 0, .int 0, .int 0, .int 0, .int 0, .int 0, .int 0, .int 0, .int 0, .int 0, .long 0, .int 0, .ref v27, .ref v28, .ref v29, .ref v30, .ref v31, .ref v32, .ref v33, .ref v34, .ref v35, .ref v36, .ref v37, .int 0])), (v0, .inl (cA 0, 326, .inl fs))] sz)) 0 0 (va_A [(w0, .inr (11, [.ref v0, .ref v1, .ref v2, .ref v3, .ref v4, .long 0, .long 0, .int 0, .int th, .ref v9, .int 0, .int 0, .int (-1), .ref v13, .int 0, .int 0, .int 0, .int 0, .int 0, .int 0, .int 0, .int 0, .int 0, .int 0, .int 0, .long 0, .int 0, .ref v27, .ref v28, .ref v29, .ref v30, .ref v31, .ref v32, .ref v33, .ref v34, .ref v35, .ref v36, .ref v37, .int 0])), (v0, .inl (cA 0, 326, .inl fs))] sz) := by
  refine Met.ofW (cc := cX10_busiestDay) (maxL := 8) (ret := (some .int)) (by decide) rfl ?_
  intro p e s m args below meth c s₁ B hml hv
  obtain ⟨rfl, hsz, hP, hK, hD0, hC, hZ⟩ := hv
  have hx := B.exec
  have hb := B.bytes
  have hr := B.returns
  have hts := atoms_spec (ws := wsX10_busiestDay) B.pre
  have hown : s.vm.findClass RX10 = some m.cls := findClass_of_methodNamed B.named
  have hlocks := B.notSynchronized
  subst hsz
  have hD := hD0.self (sz := s.heap.size)
  generalize hAe : va_A [(w0, .inr (11, [.ref v0, .ref v1, .ref v2, .ref v3, .ref v4, .long 0, .long 0, .int 0, .int th, .ref v9, .int 0, .int 0, .int (-1), .ref v13, .int 0, .int 0, .int 0, .int 0, .int 0, .int 0, .int 0, .int 0, .int 0, .int 0, .int 0, .long 0, .int 0, .ref v27, .ref v28, .ref v29, .ref v30, .ref v31, .ref v32, .ref v33, .ref v34, .ref v35, .ref v36, .ref v37, .int 0])), (v0, .inl (cA 0, 326, .inl fs))] s.heap.size = A at hD hZ ⊢
  have hA : ∀ q : Nat, s.heap.size ≤ q → A q := fun q h => by rw [← hAe]; exact Or.inr h
  have hS : va_S A s.heap s.heap [] := va_S.rf
  have hP : va_P D vwCl [(w0, .inr (11, [.ref v0, .ref v1, .ref v2, .ref v3, .ref v4, .long 0, .long 0, .int 0, .int th, .ref v9, .int 0, .int 0, .int (-1), .ref v13, .int 0, .int 0, .int 0, .int 0, .int 0, .int 0, .int 0, .int 0, .int 0, .int 0, .int 0, .long 0, .int 0, .ref v27, .ref v28, .ref v29, .ref v30, .ref v31, .ref v32, .ref v33, .ref v34, .ref v35, .ref v36, .ref v37, .int 0])), (v0, .inl (cA 0, 326, .inl fs))] s.heap := hP
  have hl := lv_entry ([.ref w0]) (n := 8) (Nat.le_of_ble_eq_true rfl)
  rw [lg_entry_eq]
  generalize (lg_sl ([.ref w0]) ++ List.replicate (8 - (lg_sl ([.ref w0])).length) Slot.unset).toArray = ls at hl ⊢
  have hl : lv_has ls 8 [(0, .ref w0)] := hl
  have inX10 : ∀ w ∈ u_ws RX10 TX10 39, w ∈ wsX10_busiestDay := by decide +kernel
  refine lv_aload_n hx hb dX10_busiestDay_0 rfl (lv_at hl 0 rfl) ?_
  refine lv_iconst (v := 0) hx hb dX10_busiestDay_1 (by decide) ?_
  refine va_put (D := D) (ci := 11) (v := .int 0) (ty := .int) (C := RX10) (T := TX10) (N := 39) hx hb hts inX10 tyX10 tyX10_ok nmX10 hown hK hP hD hS 0 rfl rfl 8 (by decide) (hts (.fieldLink RX10 80 "EscrowDeskModel" "thrown" "I") (by decide +kernel)) (fun _ h9 => h9) rfl (by decide +kernel) rfl rfl (Nat.le_of_ble_eq_true rfl) dX10_busiestDay_2 (fun H locs hP hD hS => ?_)
  have hP : va_P D vwCl [(w0, .inr (11, [.ref v0, .ref v1, .ref v2, .ref v3, .ref v4, .long 0, .long 0, .int 0, .int 0, .ref v9, .int 0, .int 0, .int (-1), .ref v13, .int 0, .int 0, .int 0, .int 0, .int 0, .int 0, .int 0, .int 0, .int 0, .int 0, .int 0, .long 0, .int 0, .ref v27, .ref v28, .ref v29, .ref v30, .ref v31, .ref v32, .ref v33, .ref v34, .ref v35, .ref v36, .ref v37, .int 0])), (v0, .inl (cA 0, 326, .inl fs))] H := hP
  have hD : va_D A [(w0, .inr (11, [.ref v0, .ref v1, .ref v2, .ref v3, .ref v4, .long 0, .long 0, .int 0, .int 0, .ref v9, .int 0, .int 0, .int (-1), .ref v13, .int 0, .int 0, .int 0, .int 0, .int 0, .int 0, .int 0, .int 0, .int 0, .int 0, .int 0, .long 0, .int 0, .ref v27, .ref v28, .ref v29, .ref v30, .ref v31, .ref v32, .ref v33, .ref v34, .ref v35, .ref v36, .ref v37, .int 0])), (v0, .inl (cA 0, 326, .inl fs))] := hD
  refine lv_iconst (v := (-1)) hx hb dX10_busiestDay_5 (by decide) ?_
  refine lv_istore_n (lv' := [(1, .int (-1)), (0, .ref w0)]) hx hb dX10_busiestDay_6 rfl hl (by decide) rfl (fun ls hl => ?_)
  refine lv_lconst (v := 0) hx hb dX10_busiestDay_7 (by decide) ?_
  refine lv_lstore_n (lv' := [(2, .long 0), (1, .int (-1)), (0, .ref w0)]) hx hb dX10_busiestDay_8 rfl hl (by decide) rfl (fun ls hl => ?_)
  refine lv_iconst (v := 0) hx hb dX10_busiestDay_9 (by decide) ?_
  refine lv_istore (lv' := [(4, .int 0), (2, .long 0), (1, .int (-1)), (0, .ref w0)]) hx hb dX10_busiestDay_10 hl (by decide) rfl (fun ls hl => ?_)
  refine lv_iload hx hb dX10_busiestDay_12 (lv_at hl 0 rfl) ?_
  refine lv_aload_n hx hb dX10_busiestDay_14 rfl (lv_at hl 3 rfl) ?_
  refine va_get (D := D) (ci := 11) (v := .ref v0) (C := RX10) (T := TX10) (N := 39) hx hb hts inX10 hown hK hP 0 rfl rfl 0 (by decide) (hts (.fieldLink RX10 7 "EscrowDeskModel" "s" "[I") (by decide +kernel)) (fun _ h9 => h9) rfl dX10_busiestDay_15 ?_
  refine lv_bipush (v := 15) hx hb dX10_busiestDay_18 (by decide) ?_
  refine va_iald hx hb hK hP 1 0 rfl rfl (vp_in_iff.mpr (by decide)) dX10_busiestDay_20 ?_
  refine lv_topi (fun yn1 eyn1 => ?_)
  obtain rfl : yn1 = 0 := eyn1.trans (hz.2 15 (by decide) (by decide))
  refine lv_icmp_ge (tgt := 61) hx hb dX10_busiestDay_21 (by decide) (fun c2 => ?_) (fun c9 => absurd c9 (by decide))
  refine lv_iload_n hx hb dX10_busiestDay_61 rfl (lv_at hl 2 rfl) ?_
  have hP9 := hP.sub (ws' := [(w0, .inr (11, [.ref v0, .ref v1, .ref v2, .ref v3, .ref v4, .long 0, .long 0, .int 0, .int 0, .ref v9, .int 0, .int 0, .int (-1), .ref v13, .int 0, .int 0, .int 0, .int 0, .int 0, .int 0, .int 0, .int 0, .int 0, .int 0, .int 0, .long 0, .int 0, .ref v27, .ref v28, .ref v29, .ref v30, .ref v31, .ref v32, .ref v33, .ref v34, .ref v35, .ref v36, .ref v37, .int 0]))]) [0] rfl
  have hD9 := hD.sub (ws' := [(w0, .inr (11, [.ref v0, .ref v1, .ref v2, .ref v3, .ref v4, .long 0, .long 0, .int 0, .int 0, .ref v9, .int 0, .int 0, .int (-1), .ref v13, .int 0, .int 0, .int 0, .int 0, .int 0, .int 0, .int 0, .int 0, .int 0, .int 0, .int 0, .long 0, .int 0, .ref v27, .ref v28, .ref v29, .ref v30, .ref v31, .ref v32, .ref v33, .ref v34, .ref v35, .ref v36, .ref v37, .int 0]))]) [0] (by decide) rfl
  refine W.widen (k := 0) (n := 0) (Nat.le_of_ble_eq_true rfl) (Nat.le_of_ble_eq_true rfl) ?_
  exact W.iret (v := (-1)) hx hb hr (fun t ht hW => ⟨⟨(-1), (), rfl, rfl, by rw [ht]; exact hP9, hD9⟩, hS.F ht⟩) hS.2.2 dX10_busiestDay_62

set_option maxHeartbeats 4000000 in
set_option maxRecDepth 100000 in
/-- nextDue -/
theorem c_m_nextDue (l : Launch) (D : va_G) (cA : Nat → ClassId) (sa : Nat → Nat) (w0 v0 v1 v2 v3 v4 v9 v13 v27 v28 v29 v30 v31 v32 v33 v34 v35 v36 v37 : Nat) (th : Int32) (fs : Nat → Int32) (sz : Nat) (hz : Zs fs) : Met l yX10_nextDue wsX10_nextDue ({ frames := 1, cells := 0, slots := 0, locals := 22 }) (va_Pc [.ref w0] (Wd D cA sa [(w0, .inr (11, [.ref v0, .ref v1, .ref v2, .ref v3, .ref v4, .long 0, .long 0, .int 0, .int th, .ref v9, .int 0, .int 0, .int (-1), .ref v13, .int 0, .int 0, .int 0, .int 0, .int 0, .int 0, .int 0, .int 0, .int 0, .int 0, .int 0, .long 0, .int 0, .ref v27, .ref v28, .ref v29, .ref v30, .ref v31, .ref v32, .ref v33, .ref v34, .ref v35, .ref v36, .ref v37, .int 0])), (v0, .inl (cA 0, 326, .inl fs))] sz)) (va_Qi (fun (r : Int32) (_ : Unit) => r = (-1)) (fun (_ : Unit) t => Wq D (va_A [(w0, .inr (11, [.ref v0, .ref v1, .ref v2, .ref v3, .ref v4, .long 0, .long 0, .int 0, .int th, .ref v9, .int 0, .int 0, .int (-1), .ref v13, .int 0, .int 0, .int 0, .int 0, .int 0, .int 0, .int 0, .int 0, .int 0, .int 0, .int 0, .long 0, .int 0, .ref v27, .ref v28, .ref v29, .ref v30, .ref v31, .ref v32, .ref v33, .ref v34, .ref v35, .ref v36, .ref v37, .int 0])), (v0, .inl (cA 0, 326, .inl fs))] sz) [(w0, .inr (11, [.ref v0, .ref v1, .ref v2, .ref v3, .ref v4, .long 0, .long 0, .int 0, .int 0, .ref v9, .int 0, .int 0, .int (-1), .ref v13, .int 0, .int 0, .int 0, .int 0, .int 0, .int 0, .int 0, .int 0, .int 0, .int 0, .int 0, .long 0, .int 0, .ref v27, .ref v28, .ref v29, .ref v30, .ref v31, .ref v32, .ref v33, .ref v34, .ref v35, .ref v36, .ref v37, .int 0]))] t) (va_A [(w0, .inr (11, [.ref v0, .ref v1, .ref v2, .ref v3, .ref v4, .long 0, .long 0, .int 0, .int th, .ref v9, .int 0, .int 0, .int (-1), .ref v13, .int 0, .int 0, .int 0, .int 0, .int 0, .int 0, .int 0, .int 0, .int 0, .int 0, .int 0, .long 0, .int 0, .ref v27, .ref v28, .ref v29, .ref v30, .ref v31, .ref v32, .ref v33, .ref v34, .ref v35, .ref v36, .ref v37, .int 0])), (v0, .inl (cA 0, 326, .inl fs))] sz)) 0 0 (va_A [(w0, .inr (11, [.ref v0, .ref v1, .ref v2, .ref v3, .ref v4, .long 0, .long 0, .int 0, .int th, .ref v9, .int 0, .int 0, .int (-1), .ref v13, .int 0, .int 0, .int 0, .int 0, .int 0, .int 0, .int 0, .int 0, .int 0, .int 0, .int 0, .long 0, .int 0, .ref v27, .ref v28, .ref v29, .ref v30, .ref v31, .ref v32, .ref v33, .ref v34, .ref v35, .ref v36, .ref v37, .int 0])), (v0, .inl (cA 0, 326, .inl fs))] sz) := by
  refine Met.ofW (cc := cX10_nextDue) (maxL := 1) (ret := (some .int)) (by decide) rfl ?_
  intro p e s m args below meth c s₁ B hml hv
  obtain ⟨rfl, hsz, hP, hK, hD0, hC, hZ⟩ := hv
  have hx := B.exec
  have hb := B.bytes
  have hr := B.returns
  have hts := atoms_spec (ws := wsX10_nextDue) B.pre
  have hown : s.vm.findClass RX10 = some m.cls := findClass_of_methodNamed B.named
  have hlocks := B.notSynchronized
  subst hsz
  have hD := hD0.self (sz := s.heap.size)
  generalize hAe : va_A [(w0, .inr (11, [.ref v0, .ref v1, .ref v2, .ref v3, .ref v4, .long 0, .long 0, .int 0, .int th, .ref v9, .int 0, .int 0, .int (-1), .ref v13, .int 0, .int 0, .int 0, .int 0, .int 0, .int 0, .int 0, .int 0, .int 0, .int 0, .int 0, .long 0, .int 0, .ref v27, .ref v28, .ref v29, .ref v30, .ref v31, .ref v32, .ref v33, .ref v34, .ref v35, .ref v36, .ref v37, .int 0])), (v0, .inl (cA 0, 326, .inl fs))] s.heap.size = A at hD hZ ⊢
  have hA : ∀ q : Nat, s.heap.size ≤ q → A q := fun q h => by rw [← hAe]; exact Or.inr h
  have hS : va_S A s.heap s.heap [] := va_S.rf
  have hP : va_P D vwCl [(w0, .inr (11, [.ref v0, .ref v1, .ref v2, .ref v3, .ref v4, .long 0, .long 0, .int 0, .int th, .ref v9, .int 0, .int 0, .int (-1), .ref v13, .int 0, .int 0, .int 0, .int 0, .int 0, .int 0, .int 0, .int 0, .int 0, .int 0, .int 0, .long 0, .int 0, .ref v27, .ref v28, .ref v29, .ref v30, .ref v31, .ref v32, .ref v33, .ref v34, .ref v35, .ref v36, .ref v37, .int 0])), (v0, .inl (cA 0, 326, .inl fs))] s.heap := hP
  have hl := lv_entry ([.ref w0]) (n := 1) (Nat.le_of_ble_eq_true rfl)
  rw [lg_entry_eq]
  generalize (lg_sl ([.ref w0]) ++ List.replicate (1 - (lg_sl ([.ref w0])).length) Slot.unset).toArray = ls at hl ⊢
  have hl : lv_has ls 1 [(0, .ref w0)] := hl
  have inX10 : ∀ w ∈ u_ws RX10 TX10 39, w ∈ wsX10_nextDue := by decide +kernel
  refine lv_aload_n hx hb dX10_nextDue_0 rfl (lv_at hl 0 rfl) ?_
  refine lv_iconst (v := 0) hx hb dX10_nextDue_1 (by decide) ?_
  refine va_put (D := D) (ci := 11) (v := .int 0) (ty := .int) (C := RX10) (T := TX10) (N := 39) hx hb hts inX10 tyX10 tyX10_ok nmX10 hown hK hP hD hS 0 rfl rfl 8 (by decide) (hts (.fieldLink RX10 80 "EscrowDeskModel" "thrown" "I") (by decide +kernel)) (fun _ h9 => h9) rfl (by decide +kernel) rfl rfl (Nat.le_of_ble_eq_true rfl) dX10_nextDue_2 (fun H locs hP hD hS => ?_)
  have hP : va_P D vwCl [(w0, .inr (11, [.ref v0, .ref v1, .ref v2, .ref v3, .ref v4, .long 0, .long 0, .int 0, .int 0, .ref v9, .int 0, .int 0, .int (-1), .ref v13, .int 0, .int 0, .int 0, .int 0, .int 0, .int 0, .int 0, .int 0, .int 0, .int 0, .int 0, .long 0, .int 0, .ref v27, .ref v28, .ref v29, .ref v30, .ref v31, .ref v32, .ref v33, .ref v34, .ref v35, .ref v36, .ref v37, .int 0])), (v0, .inl (cA 0, 326, .inl fs))] H := hP
  have hD : va_D A [(w0, .inr (11, [.ref v0, .ref v1, .ref v2, .ref v3, .ref v4, .long 0, .long 0, .int 0, .int 0, .ref v9, .int 0, .int 0, .int (-1), .ref v13, .int 0, .int 0, .int 0, .int 0, .int 0, .int 0, .int 0, .int 0, .int 0, .int 0, .int 0, .long 0, .int 0, .ref v27, .ref v28, .ref v29, .ref v30, .ref v31, .ref v32, .ref v33, .ref v34, .ref v35, .ref v36, .ref v37, .int 0])), (v0, .inl (cA 0, 326, .inl fs))] := hD
  refine lv_aload_n hx hb dX10_nextDue_5 rfl (lv_at hl 0 rfl) ?_
  refine lv_iconst (v := 0) hx hb dX10_nextDue_6 (by decide) ?_
  have hPc := hP.sub (ws' := [(w0, .inr (11, [.ref v0, .ref v1, .ref v2, .ref v3, .ref v4, .long 0, .long 0, .int 0, .int 0, .ref v9, .int 0, .int 0, .int (-1), .ref v13, .int 0, .int 0, .int 0, .int 0, .int 0, .int 0, .int 0, .int 0, .int 0, .int 0, .int 0, .long 0, .int 0, .ref v27, .ref v28, .ref v29, .ref v30, .ref v31, .ref v32, .ref v33, .ref v34, .ref v35, .ref v36, .ref v37, .int 0])), (v0, .inl (cA 0, 326, .inl fs))]) [0, 1] rfl
  have hDc := hD.sub (ws' := [(w0, .inr (11, [.ref v0, .ref v1, .ref v2, .ref v3, .ref v4, .long 0, .long 0, .int 0, .int 0, .ref v9, .int 0, .int 0, .int (-1), .ref v13, .int 0, .int 0, .int 0, .int 0, .int 0, .int 0, .int 0, .int 0, .int 0, .int 0, .int 0, .long 0, .int 0, .ref v27, .ref v28, .ref v29, .ref v30, .ref v31, .ref v32, .ref v33, .ref v34, .ref v35, .ref v36, .ref v37, .int 0])), (v0, .inl (cA 0, 326, .inl fs))]) [0, 1] (by decide) rfl
  have hFc := va_free (wc := [(w0, .inr (11, [.ref v0, .ref v1, .ref v2, .ref v3, .ref v4, .long 0, .long 0, .int 0, .int 0, .ref v9, .int 0, .int 0, .int (-1), .ref v13, .int 0, .int 0, .int 0, .int 0, .int 0, .int 0, .int 0, .int 0, .int 0, .int 0, .int 0, .long 0, .int 0, .ref v27, .ref v28, .ref v29, .ref v30, .ref v31, .ref v32, .ref v33, .ref v34, .ref v35, .ref v36, .ref v37, .int 0])), (v0, .inl (cA 0, 326, .inl fs))]) hD hS hA [0, 1] rfl
  refine va_calli (va_runV (As := [.int 0]) (rest := []) ⟨hx, hb, hml, hown, hts⟩ (c_m_dueWith l D cA sa w0 v0 v1 v2 v3 v4 v9 v13 v27 v28 v29 v30 v31 v32 v33 v34 v35 v36 v37 0 fs 0 H.size hz.d) (cwV 1 hts gX10_nextDue_X10_dueWith rfl rfl rfl (by decide +kernel) ⟨(Nat.le_of_ble_eq_true rfl), (Nat.le_of_ble_eq_true rfl)⟩) ⟨Wd.blind, va_recv hK hPc (ci := 11) (q0 := 0) rfl rfl, fun U hU hW => ⟨rfl, Wd.call hPc hDc hK hC hZ hS hFc U hU hW⟩⟩ rfl rfl hl.1 rfl (lv_room (Nat.le_of_ble_eq_true rfl)) dX10_nextDue_7 ⟨(Nat.le_of_ble_eq_true rfl), (Nat.le_of_ble_eq_true rfl)⟩) hS (fun q _ h => hFc q h) hFc (fun rn1 u t H1 locs ht hvm hw hB hz1 hk1 hS => ?_)
  obtain ⟨hP1, hD1⟩ := hB
  rw [ht] at hP1
  obtain ⟨hP, hD⟩ := va_join (wr := []) (w1 := [(w0, .inr (11, [.ref v0, .ref v1, .ref v2, .ref v3, .ref v4, .long 0, .long 0, .int 0, .int 0, .ref v9, .int 0, .int 0, .int (-1), .ref v13, .int 0, .int 0, .int 0, .int 0, .int 0, .int 0, .int 0, .int 0, .int 0, .int 0, .int 0, .long 0, .int 0, .ref v27, .ref v28, .ref v29, .ref v30, .ref v31, .ref v32, .ref v33, .ref v34, .ref v35, .ref v36, .ref v37, .int 0])), (v0, .inl (cA 0, 326, .inl fs))]) hP hD [0, 1] [] rfl rfl (by decide) (by decide) hk1 hFc hP1 hD1
  generalize H1 = H at hP hS ⊢
  have hP : va_P D vwCl [(w0, .inr (11, [.ref v0, .ref v1, .ref v2, .ref v3, .ref v4, .long 0, .long 0, .int 0, .int 0, .ref v9, .int 0, .int 0, .int (-1), .ref v13, .int 0, .int 0, .int 0, .int 0, .int 0, .int 0, .int 0, .int 0, .int 0, .int 0, .int 0, .long 0, .int 0, .ref v27, .ref v28, .ref v29, .ref v30, .ref v31, .ref v32, .ref v33, .ref v34, .ref v35, .ref v36, .ref v37, .int 0])), (v0, .inl (cA 0, 326, .inl fs))] H := hP
  have hD : va_D A [(w0, .inr (11, [.ref v0, .ref v1, .ref v2, .ref v3, .ref v4, .long 0, .long 0, .int 0, .int 0, .ref v9, .int 0, .int 0, .int (-1), .ref v13, .int 0, .int 0, .int 0, .int 0, .int 0, .int 0, .int 0, .int 0, .int 0, .int 0, .int 0, .long 0, .int 0, .ref v27, .ref v28, .ref v29, .ref v30, .ref v31, .ref v32, .ref v33, .ref v34, .ref v35, .ref v36, .ref v37, .int 0])), (v0, .inl (cA 0, 326, .inl fs))] := hD
  obtain rfl : rn1 = (-1) := hw
  have hP9 := hP.sub (ws' := [(w0, .inr (11, [.ref v0, .ref v1, .ref v2, .ref v3, .ref v4, .long 0, .long 0, .int 0, .int 0, .ref v9, .int 0, .int 0, .int (-1), .ref v13, .int 0, .int 0, .int 0, .int 0, .int 0, .int 0, .int 0, .int 0, .int 0, .int 0, .int 0, .long 0, .int 0, .ref v27, .ref v28, .ref v29, .ref v30, .ref v31, .ref v32, .ref v33, .ref v34, .ref v35, .ref v36, .ref v37, .int 0]))]) [0] rfl
  have hD9 := hD.sub (ws' := [(w0, .inr (11, [.ref v0, .ref v1, .ref v2, .ref v3, .ref v4, .long 0, .long 0, .int 0, .int 0, .ref v9, .int 0, .int 0, .int (-1), .ref v13, .int 0, .int 0, .int 0, .int 0, .int 0, .int 0, .int 0, .int 0, .int 0, .int 0, .int 0, .long 0, .int 0, .ref v27, .ref v28, .ref v29, .ref v30, .ref v31, .ref v32, .ref v33, .ref v34, .ref v35, .ref v36, .ref v37, .int 0]))]) [0] (by decide) rfl
  refine W.widen (k := 0) (n := 0) (Nat.le_of_ble_eq_true rfl) (Nat.le_of_ble_eq_true rfl) ?_
  exact W.iret (v := (-1)) hx hb hr (fun t ht hW => ⟨⟨(-1), (), rfl, rfl, by rw [ht]; exact hP9, hD9⟩, hS.F ht⟩) hS.2.2 dX10_nextDue_10

set_option maxHeartbeats 4000000 in
set_option maxRecDepth 100000 in
/-- dueAt: thrown 1 -/
theorem c_m_dueAt (l : Launch) (D : va_G) (cA : Nat → ClassId) (sa : Nat → Nat) (w0 v0 v1 v2 v3 v4 v9 v13 v27 v28 v29 v30 v31 v32 v33 v34 v35 v36 v37 : Nat) (th : Int32) (fs : Nat → Int32) (i : Int32) (sz : Nat) (hz : Zs fs) : Met l yX10_dueAt wsX10_dueAt ({ frames := 1, cells := 0, slots := 0, locals := 22 }) (va_Pc [.ref w0, .int i] (Wd D cA sa [(w0, .inr (11, [.ref v0, .ref v1, .ref v2, .ref v3, .ref v4, .long 0, .long 0, .int 0, .int th, .ref v9, .int 0, .int 0, .int (-1), .ref v13, .int 0, .int 0, .int 0, .int 0, .int 0, .int 0, .int 0, .int 0, .int 0, .int 0, .int 0, .long 0, .int 0, .ref v27, .ref v28, .ref v29, .ref v30, .ref v31, .ref v32, .ref v33, .ref v34, .ref v35, .ref v36, .ref v37, .int 0])), (v0, .inl (cA 0, 326, .inl fs))] sz)) (va_Qi (fun (r : Int32) (_ : Unit) => r = 0) (fun (_ : Unit) t => Wq D (va_A [(w0, .inr (11, [.ref v0, .ref v1, .ref v2, .ref v3, .ref v4, .long 0, .long 0, .int 0, .int th, .ref v9, .int 0, .int 0, .int (-1), .ref v13, .int 0, .int 0, .int 0, .int 0, .int 0, .int 0, .int 0, .int 0, .int 0, .int 0, .int 0, .long 0, .int 0, .ref v27, .ref v28, .ref v29, .ref v30, .ref v31, .ref v32, .ref v33, .ref v34, .ref v35, .ref v36, .ref v37, .int 0])), (v0, .inl (cA 0, 326, .inl fs))] sz) [(w0, .inr (11, [.ref v0, .ref v1, .ref v2, .ref v3, .ref v4, .long 0, .long 0, .int 0, .int 1, .ref v9, .int 0, .int 0, .int (-1), .ref v13, .int 0, .int 0, .int 0, .int 0, .int 0, .int 0, .int 0, .int 0, .int 0, .int 0, .int 0, .long 0, .int 0, .ref v27, .ref v28, .ref v29, .ref v30, .ref v31, .ref v32, .ref v33, .ref v34, .ref v35, .ref v36, .ref v37, .int 0]))] t) (va_A [(w0, .inr (11, [.ref v0, .ref v1, .ref v2, .ref v3, .ref v4, .long 0, .long 0, .int 0, .int th, .ref v9, .int 0, .int 0, .int (-1), .ref v13, .int 0, .int 0, .int 0, .int 0, .int 0, .int 0, .int 0, .int 0, .int 0, .int 0, .int 0, .long 0, .int 0, .ref v27, .ref v28, .ref v29, .ref v30, .ref v31, .ref v32, .ref v33, .ref v34, .ref v35, .ref v36, .ref v37, .int 0])), (v0, .inl (cA 0, 326, .inl fs))] sz)) 0 0 (va_A [(w0, .inr (11, [.ref v0, .ref v1, .ref v2, .ref v3, .ref v4, .long 0, .long 0, .int 0, .int th, .ref v9, .int 0, .int 0, .int (-1), .ref v13, .int 0, .int 0, .int 0, .int 0, .int 0, .int 0, .int 0, .int 0, .int 0, .int 0, .int 0, .long 0, .int 0, .ref v27, .ref v28, .ref v29, .ref v30, .ref v31, .ref v32, .ref v33, .ref v34, .ref v35, .ref v36, .ref v37, .int 0])), (v0, .inl (cA 0, 326, .inl fs))] sz) := by
  refine Met.ofW (cc := cX10_dueAt) (maxL := 3) (ret := (some .int)) (by decide) rfl ?_
  intro p e s m args below meth c s₁ B hml hv
  obtain ⟨rfl, hsz, hP, hK, hD0, hC, hZ⟩ := hv
  have hx := B.exec
  have hb := B.bytes
  have hr := B.returns
  have hts := atoms_spec (ws := wsX10_dueAt) B.pre
  have hown : s.vm.findClass RX10 = some m.cls := findClass_of_methodNamed B.named
  have hlocks := B.notSynchronized
  subst hsz
  have hD := hD0.self (sz := s.heap.size)
  generalize hAe : va_A [(w0, .inr (11, [.ref v0, .ref v1, .ref v2, .ref v3, .ref v4, .long 0, .long 0, .int 0, .int th, .ref v9, .int 0, .int 0, .int (-1), .ref v13, .int 0, .int 0, .int 0, .int 0, .int 0, .int 0, .int 0, .int 0, .int 0, .int 0, .int 0, .long 0, .int 0, .ref v27, .ref v28, .ref v29, .ref v30, .ref v31, .ref v32, .ref v33, .ref v34, .ref v35, .ref v36, .ref v37, .int 0])), (v0, .inl (cA 0, 326, .inl fs))] s.heap.size = A at hD hZ ⊢
  have hA : ∀ q : Nat, s.heap.size ≤ q → A q := fun q h => by rw [← hAe]; exact Or.inr h
  have hS : va_S A s.heap s.heap [] := va_S.rf
  have hP : va_P D vwCl [(w0, .inr (11, [.ref v0, .ref v1, .ref v2, .ref v3, .ref v4, .long 0, .long 0, .int 0, .int th, .ref v9, .int 0, .int 0, .int (-1), .ref v13, .int 0, .int 0, .int 0, .int 0, .int 0, .int 0, .int 0, .int 0, .int 0, .int 0, .int 0, .long 0, .int 0, .ref v27, .ref v28, .ref v29, .ref v30, .ref v31, .ref v32, .ref v33, .ref v34, .ref v35, .ref v36, .ref v37, .int 0])), (v0, .inl (cA 0, 326, .inl fs))] s.heap := hP
  have hl := lv_entry ([.ref w0, .int i]) (n := 3) (Nat.le_of_ble_eq_true rfl)
  rw [lg_entry_eq]
  generalize (lg_sl ([.ref w0, .int i]) ++ List.replicate (3 - (lg_sl ([.ref w0, .int i])).length) Slot.unset).toArray = ls at hl ⊢
  have hl : lv_has ls 3 [(0, .ref w0), (1, .int i)] := hl
  refine lv_iload_n hx hb dX10_dueAt_0 rfl (lv_at hl 1 rfl) ?_
  refine lv_if_ge (tgt := 8) hx hb dX10_dueAt_1 (by decide) (fun c1 => ?_) (fun c1 => ?_)
  · skip
    refine lv_aload_n hx hb dX10_dueAt_8 rfl (lv_at hl 0 rfl) ?_
    refine lv_iload_n hx hb dX10_dueAt_9 rfl (lv_at hl 1 rfl) ?_
    have hPc := hP.sub (ws' := [(w0, .inr (11, [.ref v0, .ref v1, .ref v2, .ref v3, .ref v4, .long 0, .long 0, .int 0, .int th, .ref v9, .int 0, .int 0, .int (-1), .ref v13, .int 0, .int 0, .int 0, .int 0, .int 0, .int 0, .int 0, .int 0, .int 0, .int 0, .int 0, .long 0, .int 0, .ref v27, .ref v28, .ref v29, .ref v30, .ref v31, .ref v32, .ref v33, .ref v34, .ref v35, .ref v36, .ref v37, .int 0])), (v0, .inl (cA 0, 326, .inl fs))]) [0, 1] rfl
    have hDc := hD.sub (ws' := [(w0, .inr (11, [.ref v0, .ref v1, .ref v2, .ref v3, .ref v4, .long 0, .long 0, .int 0, .int th, .ref v9, .int 0, .int 0, .int (-1), .ref v13, .int 0, .int 0, .int 0, .int 0, .int 0, .int 0, .int 0, .int 0, .int 0, .int 0, .int 0, .long 0, .int 0, .ref v27, .ref v28, .ref v29, .ref v30, .ref v31, .ref v32, .ref v33, .ref v34, .ref v35, .ref v36, .ref v37, .int 0])), (v0, .inl (cA 0, 326, .inl fs))]) [0, 1] (by decide) rfl
    have hFc := va_free (wc := [(w0, .inr (11, [.ref v0, .ref v1, .ref v2, .ref v3, .ref v4, .long 0, .long 0, .int 0, .int th, .ref v9, .int 0, .int 0, .int (-1), .ref v13, .int 0, .int 0, .int 0, .int 0, .int 0, .int 0, .int 0, .int 0, .int 0, .int 0, .int 0, .long 0, .int 0, .ref v27, .ref v28, .ref v29, .ref v30, .ref v31, .ref v32, .ref v33, .ref v34, .ref v35, .ref v36, .ref v37, .int 0])), (v0, .inl (cA 0, 326, .inl fs))]) hD hS hA [0, 1] rfl
    refine va_calli (va_runV (As := [.int i]) (rest := []) ⟨hx, hb, hml, hown, hts⟩ (c_m_dueWith l D cA sa w0 v0 v1 v2 v3 v4 v9 v13 v27 v28 v29 v30 v31 v32 v33 v34 v35 v36 v37 th fs i s.heap.size hz.d) (cwV 1 hts gX10_dueAt_X10_dueWith rfl rfl rfl (by decide +kernel) ⟨(Nat.le_of_ble_eq_true rfl), (Nat.le_of_ble_eq_true rfl)⟩) ⟨Wd.blind, va_recv hK hPc (ci := 11) (q0 := 0) rfl rfl, fun U hU hW => ⟨rfl, Wd.call hPc hDc hK hC hZ hS hFc U hU hW⟩⟩ rfl rfl hl.1 rfl (lv_room (Nat.le_of_ble_eq_true rfl)) dX10_dueAt_10 ⟨(Nat.le_of_ble_eq_true rfl), (Nat.le_of_ble_eq_true rfl)⟩) hS (fun q _ h => hFc q h) hFc (fun rn2 u t H1 locs ht hvm hw hB hz1 hk1 hS => ?_)
    obtain ⟨hP1, hD1⟩ := hB
    rw [ht] at hP1
    obtain ⟨hP, hD⟩ := va_join (wr := []) (w1 := [(w0, .inr (11, [.ref v0, .ref v1, .ref v2, .ref v3, .ref v4, .long 0, .long 0, .int 0, .int th, .ref v9, .int 0, .int 0, .int (-1), .ref v13, .int 0, .int 0, .int 0, .int 0, .int 0, .int 0, .int 0, .int 0, .int 0, .int 0, .int 0, .long 0, .int 0, .ref v27, .ref v28, .ref v29, .ref v30, .ref v31, .ref v32, .ref v33, .ref v34, .ref v35, .ref v36, .ref v37, .int 0])), (v0, .inl (cA 0, 326, .inl fs))]) hP hD [0, 1] [] rfl rfl (by decide) (by decide) hk1 hFc hP1 hD1
    generalize H1 = H at hP hS ⊢
    have hP : va_P D vwCl [(w0, .inr (11, [.ref v0, .ref v1, .ref v2, .ref v3, .ref v4, .long 0, .long 0, .int 0, .int th, .ref v9, .int 0, .int 0, .int (-1), .ref v13, .int 0, .int 0, .int 0, .int 0, .int 0, .int 0, .int 0, .int 0, .int 0, .int 0, .int 0, .long 0, .int 0, .ref v27, .ref v28, .ref v29, .ref v30, .ref v31, .ref v32, .ref v33, .ref v34, .ref v35, .ref v36, .ref v37, .int 0])), (v0, .inl (cA 0, 326, .inl fs))] H := hP
    have hD : va_D A [(w0, .inr (11, [.ref v0, .ref v1, .ref v2, .ref v3, .ref v4, .long 0, .long 0, .int 0, .int th, .ref v9, .int 0, .int 0, .int (-1), .ref v13, .int 0, .int 0, .int 0, .int 0, .int 0, .int 0, .int 0, .int 0, .int 0, .int 0, .int 0, .long 0, .int 0, .ref v27, .ref v28, .ref v29, .ref v30, .ref v31, .ref v32, .ref v33, .ref v34, .ref v35, .ref v36, .ref v37, .int 0])), (v0, .inl (cA 0, 326, .inl fs))] := hD
    obtain rfl : rn2 = (-1) := hw
    refine lv_istore_n (lv' := [(2, .int (-1)), (0, .ref w0), (1, .int i)]) hx hb dX10_dueAt_13 rfl hl (by decide) rfl (fun ls hl => ?_)
    refine lv_aload_n hx hb dX10_dueAt_14 rfl (lv_at hl 1 rfl) ?_
    refine lv_iload_n hx hb dX10_dueAt_15 rfl (lv_at hl 0 rfl) ?_
    refine lv_iconst (v := (-1)) hx hb dX10_dueAt_16 (by decide) ?_
    refine lv_icmp_eq (tgt := 24) hx hb dX10_dueAt_17 (by decide) (fun c3 => ?_) (fun c9 => absurd c9 (by decide))
    refine lv_iconst (v := 0) hx hb dX10_dueAt_24 (by decide) ?_
    have hPc := hP.sub (ws' := [(w0, .inr (11, [.ref v0, .ref v1, .ref v2, .ref v3, .ref v4, .long 0, .long 0, .int 0, .int th, .ref v9, .int 0, .int 0, .int (-1), .ref v13, .int 0, .int 0, .int 0, .int 0, .int 0, .int 0, .int 0, .int 0, .int 0, .int 0, .int 0, .long 0, .int 0, .ref v27, .ref v28, .ref v29, .ref v30, .ref v31, .ref v32, .ref v33, .ref v34, .ref v35, .ref v36, .ref v37, .int 0]))]) [0] rfl
    have hDc := hD.sub (ws' := [(w0, .inr (11, [.ref v0, .ref v1, .ref v2, .ref v3, .ref v4, .long 0, .long 0, .int 0, .int th, .ref v9, .int 0, .int 0, .int (-1), .ref v13, .int 0, .int 0, .int 0, .int 0, .int 0, .int 0, .int 0, .int 0, .int 0, .int 0, .int 0, .long 0, .int 0, .ref v27, .ref v28, .ref v29, .ref v30, .ref v31, .ref v32, .ref v33, .ref v34, .ref v35, .ref v36, .ref v37, .int 0]))]) [0] (by decide) rfl
    have hFc := va_free (wc := [(w0, .inr (11, [.ref v0, .ref v1, .ref v2, .ref v3, .ref v4, .long 0, .long 0, .int 0, .int th, .ref v9, .int 0, .int 0, .int (-1), .ref v13, .int 0, .int 0, .int 0, .int 0, .int 0, .int 0, .int 0, .int 0, .int 0, .int 0, .int 0, .long 0, .int 0, .ref v27, .ref v28, .ref v29, .ref v30, .ref v31, .ref v32, .ref v33, .ref v34, .ref v35, .ref v36, .ref v37, .int 0]))]) hD hS hA [0] rfl
    refine va_calli (va_runV (As := [.int 0]) (rest := []) ⟨hx, hb, hml, hown, hts⟩ (c_m_good_0 l D cA sa w0 v0 v1 v2 v3 v4 v9 v13 v27 v28 v29 v30 v31 v32 v33 v34 v35 v36 v37 th H.size) (cwV 1 hts gX10_dueAt_X10_good rfl rfl rfl (by decide +kernel) ⟨(Nat.le_of_ble_eq_true rfl), (Nat.le_of_ble_eq_true rfl)⟩) ⟨Wd.blind, va_recv hK hPc (ci := 11) (q0 := 0) rfl rfl, fun U hU hW => ⟨rfl, Wd.call hPc hDc hK hC hZ hS hFc U hU hW⟩⟩ rfl rfl hl.1 rfl (lv_room (Nat.le_of_ble_eq_true rfl)) dX10_dueAt_25 ⟨(Nat.le_of_ble_eq_true rfl), (Nat.le_of_ble_eq_true rfl)⟩) hS (fun q _ h => hFc q h) hFc (fun rn4 u t H1 locs ht hvm hw hB hz1 hk1 hS => ?_)
    obtain ⟨hP1, hD1⟩ := hB
    rw [ht] at hP1
    obtain ⟨hP, hD⟩ := va_join (wr := [(v0, .inl (cA 0, 326, .inl fs))]) (w1 := [(w0, .inr (11, [.ref v0, .ref v1, .ref v2, .ref v3, .ref v4, .long 0, .long 0, .int 0, .int 1, .ref v9, .int 0, .int 0, .int (-1), .ref v13, .int 0, .int 0, .int 0, .int 0, .int 0, .int 0, .int 0, .int 0, .int 0, .int 0, .int 0, .long 0, .int 0, .ref v27, .ref v28, .ref v29, .ref v30, .ref v31, .ref v32, .ref v33, .ref v34, .ref v35, .ref v36, .ref v37, .int 0]))]) hP hD [0] [1] rfl rfl (by decide) (by decide) hk1 hFc hP1 hD1
    generalize H1 = H at hP hS ⊢
    have hP : va_P D vwCl [(v0, .inl (cA 0, 326, .inl fs)), (w0, .inr (11, [.ref v0, .ref v1, .ref v2, .ref v3, .ref v4, .long 0, .long 0, .int 0, .int 1, .ref v9, .int 0, .int 0, .int (-1), .ref v13, .int 0, .int 0, .int 0, .int 0, .int 0, .int 0, .int 0, .int 0, .int 0, .int 0, .int 0, .long 0, .int 0, .ref v27, .ref v28, .ref v29, .ref v30, .ref v31, .ref v32, .ref v33, .ref v34, .ref v35, .ref v36, .ref v37, .int 0]))] H := hP
    have hD : va_D A [(v0, .inl (cA 0, 326, .inl fs)), (w0, .inr (11, [.ref v0, .ref v1, .ref v2, .ref v3, .ref v4, .long 0, .long 0, .int 0, .int 1, .ref v9, .int 0, .int 0, .int (-1), .ref v13, .int 0, .int 0, .int 0, .int 0, .int 0, .int 0, .int 0, .int 0, .int 0, .int 0, .int 0, .long 0, .int 0, .ref v27, .ref v28, .ref v29, .ref v30, .ref v31, .ref v32, .ref v33, .ref v34, .ref v35, .ref v36, .ref v37, .int 0]))] := hD
    obtain rfl : rn4 = 0 := hw
    refine lv_if_eq (tgt := 35) hx hb dX10_dueAt_28 (by decide) (fun c5 => ?_) (fun c9 => absurd c9 (by decide))
    refine lv_iconst (v := 0) hx hb dX10_dueAt_35 (by decide) ?_
    have hP9 := hP.sub (ws' := [(w0, .inr (11, [.ref v0, .ref v1, .ref v2, .ref v3, .ref v4, .long 0, .long 0, .int 0, .int 1, .ref v9, .int 0, .int 0, .int (-1), .ref v13, .int 0, .int 0, .int 0, .int 0, .int 0, .int 0, .int 0, .int 0, .int 0, .int 0, .int 0, .long 0, .int 0, .ref v27, .ref v28, .ref v29, .ref v30, .ref v31, .ref v32, .ref v33, .ref v34, .ref v35, .ref v36, .ref v37, .int 0]))]) [1] rfl
    have hD9 := hD.sub (ws' := [(w0, .inr (11, [.ref v0, .ref v1, .ref v2, .ref v3, .ref v4, .long 0, .long 0, .int 0, .int 1, .ref v9, .int 0, .int 0, .int (-1), .ref v13, .int 0, .int 0, .int 0, .int 0, .int 0, .int 0, .int 0, .int 0, .int 0, .int 0, .int 0, .long 0, .int 0, .ref v27, .ref v28, .ref v29, .ref v30, .ref v31, .ref v32, .ref v33, .ref v34, .ref v35, .ref v36, .ref v37, .int 0]))]) [1] (by decide) rfl
    refine W.widen (k := 0) (n := 0) (Nat.le_of_ble_eq_true rfl) (Nat.le_of_ble_eq_true rfl) ?_
    exact W.iret (v := 0) hx hb hr (fun t ht hW => ⟨⟨0, (), rfl, rfl, by rw [ht]; exact hP9, hD9⟩, hS.F ht⟩) hS.2.2 dX10_dueAt_36
  · skip
    refine lv_iconst (v := (-1)) hx hb dX10_dueAt_4 (by decide) ?_
    refine lv_goto (tgt := 13) hx hb dX10_dueAt_5 (by decide) ?_
    refine lv_istore_n (lv' := [(2, .int (-1)), (0, .ref w0), (1, .int i)]) hx hb dX10_dueAt_13 rfl hl (by decide) rfl (fun ls hl => ?_)
    refine lv_aload_n hx hb dX10_dueAt_14 rfl (lv_at hl 1 rfl) ?_
    refine lv_iload_n hx hb dX10_dueAt_15 rfl (lv_at hl 0 rfl) ?_
    refine lv_iconst (v := (-1)) hx hb dX10_dueAt_16 (by decide) ?_
    refine lv_icmp_eq (tgt := 24) hx hb dX10_dueAt_17 (by decide) (fun c6 => ?_) (fun c9 => absurd c9 (by decide))
    refine lv_iconst (v := 0) hx hb dX10_dueAt_24 (by decide) ?_
    have hPc := hP.sub (ws' := [(w0, .inr (11, [.ref v0, .ref v1, .ref v2, .ref v3, .ref v4, .long 0, .long 0, .int 0, .int th, .ref v9, .int 0, .int 0, .int (-1), .ref v13, .int 0, .int 0, .int 0, .int 0, .int 0, .int 0, .int 0, .int 0, .int 0, .int 0, .int 0, .long 0, .int 0, .ref v27, .ref v28, .ref v29, .ref v30, .ref v31, .ref v32, .ref v33, .ref v34, .ref v35, .ref v36, .ref v37, .int 0]))]) [0] rfl
    have hDc := hD.sub (ws' := [(w0, .inr (11, [.ref v0, .ref v1, .ref v2, .ref v3, .ref v4, .long 0, .long 0, .int 0, .int th, .ref v9, .int 0, .int 0, .int (-1), .ref v13, .int 0, .int 0, .int 0, .int 0, .int 0, .int 0, .int 0, .int 0, .int 0, .int 0, .int 0, .long 0, .int 0, .ref v27, .ref v28, .ref v29, .ref v30, .ref v31, .ref v32, .ref v33, .ref v34, .ref v35, .ref v36, .ref v37, .int 0]))]) [0] (by decide) rfl
    have hFc := va_free (wc := [(w0, .inr (11, [.ref v0, .ref v1, .ref v2, .ref v3, .ref v4, .long 0, .long 0, .int 0, .int th, .ref v9, .int 0, .int 0, .int (-1), .ref v13, .int 0, .int 0, .int 0, .int 0, .int 0, .int 0, .int 0, .int 0, .int 0, .int 0, .int 0, .long 0, .int 0, .ref v27, .ref v28, .ref v29, .ref v30, .ref v31, .ref v32, .ref v33, .ref v34, .ref v35, .ref v36, .ref v37, .int 0]))]) hD hS hA [0] rfl
    refine va_calli (va_runV (As := [.int 0]) (rest := []) ⟨hx, hb, hml, hown, hts⟩ (c_m_good_0 l D cA sa w0 v0 v1 v2 v3 v4 v9 v13 v27 v28 v29 v30 v31 v32 v33 v34 v35 v36 v37 th s.heap.size) (cwV 1 hts gX10_dueAt_X10_good rfl rfl rfl (by decide +kernel) ⟨(Nat.le_of_ble_eq_true rfl), (Nat.le_of_ble_eq_true rfl)⟩) ⟨Wd.blind, va_recv hK hPc (ci := 11) (q0 := 0) rfl rfl, fun U hU hW => ⟨rfl, Wd.call hPc hDc hK hC hZ hS hFc U hU hW⟩⟩ rfl rfl hl.1 rfl (lv_room (Nat.le_of_ble_eq_true rfl)) dX10_dueAt_25 ⟨(Nat.le_of_ble_eq_true rfl), (Nat.le_of_ble_eq_true rfl)⟩) hS (fun q _ h => hFc q h) hFc (fun rn7 u t H1 locs ht hvm hw hB hz1 hk1 hS => ?_)
    obtain ⟨hP1, hD1⟩ := hB
    rw [ht] at hP1
    obtain ⟨hP, hD⟩ := va_join (wr := [(v0, .inl (cA 0, 326, .inl fs))]) (w1 := [(w0, .inr (11, [.ref v0, .ref v1, .ref v2, .ref v3, .ref v4, .long 0, .long 0, .int 0, .int 1, .ref v9, .int 0, .int 0, .int (-1), .ref v13, .int 0, .int 0, .int 0, .int 0, .int 0, .int 0, .int 0, .int 0, .int 0, .int 0, .int 0, .long 0, .int 0, .ref v27, .ref v28, .ref v29, .ref v30, .ref v31, .ref v32, .ref v33, .ref v34, .ref v35, .ref v36, .ref v37, .int 0]))]) hP hD [0] [1] rfl rfl (by decide) (by decide) hk1 hFc hP1 hD1
    generalize H1 = H at hP hS ⊢
    have hP : va_P D vwCl [(v0, .inl (cA 0, 326, .inl fs)), (w0, .inr (11, [.ref v0, .ref v1, .ref v2, .ref v3, .ref v4, .long 0, .long 0, .int 0, .int 1, .ref v9, .int 0, .int 0, .int (-1), .ref v13, .int 0, .int 0, .int 0, .int 0, .int 0, .int 0, .int 0, .int 0, .int 0, .int 0, .int 0, .long 0, .int 0, .ref v27, .ref v28, .ref v29, .ref v30, .ref v31, .ref v32, .ref v33, .ref v34, .ref v35, .ref v36, .ref v37, .int 0]))] H := hP
    have hD : va_D A [(v0, .inl (cA 0, 326, .inl fs)), (w0, .inr (11, [.ref v0, .ref v1, .ref v2, .ref v3, .ref v4, .long 0, .long 0, .int 0, .int 1, .ref v9, .int 0, .int 0, .int (-1), .ref v13, .int 0, .int 0, .int 0, .int 0, .int 0, .int 0, .int 0, .int 0, .int 0, .int 0, .int 0, .long 0, .int 0, .ref v27, .ref v28, .ref v29, .ref v30, .ref v31, .ref v32, .ref v33, .ref v34, .ref v35, .ref v36, .ref v37, .int 0]))] := hD
    obtain rfl : rn7 = 0 := hw
    refine lv_if_eq (tgt := 35) hx hb dX10_dueAt_28 (by decide) (fun c8 => ?_) (fun c9 => absurd c9 (by decide))
    refine lv_iconst (v := 0) hx hb dX10_dueAt_35 (by decide) ?_
    have hP9 := hP.sub (ws' := [(w0, .inr (11, [.ref v0, .ref v1, .ref v2, .ref v3, .ref v4, .long 0, .long 0, .int 0, .int 1, .ref v9, .int 0, .int 0, .int (-1), .ref v13, .int 0, .int 0, .int 0, .int 0, .int 0, .int 0, .int 0, .int 0, .int 0, .int 0, .int 0, .long 0, .int 0, .ref v27, .ref v28, .ref v29, .ref v30, .ref v31, .ref v32, .ref v33, .ref v34, .ref v35, .ref v36, .ref v37, .int 0]))]) [1] rfl
    have hD9 := hD.sub (ws' := [(w0, .inr (11, [.ref v0, .ref v1, .ref v2, .ref v3, .ref v4, .long 0, .long 0, .int 0, .int 1, .ref v9, .int 0, .int 0, .int (-1), .ref v13, .int 0, .int 0, .int 0, .int 0, .int 0, .int 0, .int 0, .int 0, .int 0, .int 0, .int 0, .long 0, .int 0, .ref v27, .ref v28, .ref v29, .ref v30, .ref v31, .ref v32, .ref v33, .ref v34, .ref v35, .ref v36, .ref v37, .int 0]))]) [1] (by decide) rfl
    refine W.widen (k := 0) (n := 0) (Nat.le_of_ble_eq_true rfl) (Nat.le_of_ble_eq_true rfl) ?_
    exact W.iret (v := 0) hx hb hr (fun t ht hW => ⟨⟨0, (), rfl, rfl, by rw [ht]; exact hP9, hD9⟩, hS.F ht⟩) hS.2.2 dX10_dueAt_36

set_option maxHeartbeats 4000000 in
set_option maxRecDepth 100000 in
/-- undo -/
theorem c_m_undo (l : Launch) (D : va_G) (cA : Nat → ClassId) (sa : Nat → Nat) (w0 v0 v1 v2 v3 v4 v9 v13 v27 v28 v29 v30 v31 v32 v33 v34 v35 v36 v37 : Nat) (th : Int32) (fs : Nat → Int32) (sz : Nat) (hz : Zs fs) : Met l yX10_undo wsX10_undo ({ frames := 0, cells := 0, slots := 0, locals := 0 }) (va_Pc [.ref w0] (Wd D cA sa [(w0, .inr (11, [.ref v0, .ref v1, .ref v2, .ref v3, .ref v4, .long 0, .long 0, .int 0, .int th, .ref v9, .int 0, .int 0, .int (-1), .ref v13, .int 0, .int 0, .int 0, .int 0, .int 0, .int 0, .int 0, .int 0, .int 0, .int 0, .int 0, .long 0, .int 0, .ref v27, .ref v28, .ref v29, .ref v30, .ref v31, .ref v32, .ref v33, .ref v34, .ref v35, .ref v36, .ref v37, .int 0]))] sz)) (va_Qi (fun (r : Int32) (_ : Unit) => r = (-1)) (fun (_ : Unit) t => Wq D (va_A [(w0, .inr (11, [.ref v0, .ref v1, .ref v2, .ref v3, .ref v4, .long 0, .long 0, .int 0, .int th, .ref v9, .int 0, .int 0, .int (-1), .ref v13, .int 0, .int 0, .int 0, .int 0, .int 0, .int 0, .int 0, .int 0, .int 0, .int 0, .int 0, .long 0, .int 0, .ref v27, .ref v28, .ref v29, .ref v30, .ref v31, .ref v32, .ref v33, .ref v34, .ref v35, .ref v36, .ref v37, .int 0]))] sz) [(w0, .inr (11, [.ref v0, .ref v1, .ref v2, .ref v3, .ref v4, .long 0, .long 0, .int 0, .int 0, .ref v9, .int 0, .int 0, .int (-1), .ref v13, .int 0, .int 0, .int 0, .int 0, .int 0, .int 0, .int 0, .int 0, .int 0, .int 0, .int 0, .long 0, .int 0, .ref v27, .ref v28, .ref v29, .ref v30, .ref v31, .ref v32, .ref v33, .ref v34, .ref v35, .ref v36, .ref v37, .int 0]))] t) (va_A [(w0, .inr (11, [.ref v0, .ref v1, .ref v2, .ref v3, .ref v4, .long 0, .long 0, .int 0, .int th, .ref v9, .int 0, .int 0, .int (-1), .ref v13, .int 0, .int 0, .int 0, .int 0, .int 0, .int 0, .int 0, .int 0, .int 0, .int 0, .int 0, .long 0, .int 0, .ref v27, .ref v28, .ref v29, .ref v30, .ref v31, .ref v32, .ref v33, .ref v34, .ref v35, .ref v36, .ref v37, .int 0]))] sz)) 0 0 (va_A [(w0, .inr (11, [.ref v0, .ref v1, .ref v2, .ref v3, .ref v4, .long 0, .long 0, .int 0, .int th, .ref v9, .int 0, .int 0, .int (-1), .ref v13, .int 0, .int 0, .int 0, .int 0, .int 0, .int 0, .int 0, .int 0, .int 0, .int 0, .int 0, .long 0, .int 0, .ref v27, .ref v28, .ref v29, .ref v30, .ref v31, .ref v32, .ref v33, .ref v34, .ref v35, .ref v36, .ref v37, .int 0]))] sz) := by
  refine Met.ofW (cc := cX10_undo) (maxL := 2) (ret := (some .int)) (by decide) rfl ?_
  intro p e s m args below meth c s₁ B hml hv
  obtain ⟨rfl, hsz, hP, hK, hD0, hC, hZ⟩ := hv
  have hx := B.exec
  have hb := B.bytes
  have hr := B.returns
  have hts := atoms_spec (ws := wsX10_undo) B.pre
  have hown : s.vm.findClass RX10 = some m.cls := findClass_of_methodNamed B.named
  have hlocks := B.notSynchronized
  subst hsz
  have hD := hD0.self (sz := s.heap.size)
  generalize hAe : va_A [(w0, .inr (11, [.ref v0, .ref v1, .ref v2, .ref v3, .ref v4, .long 0, .long 0, .int 0, .int th, .ref v9, .int 0, .int 0, .int (-1), .ref v13, .int 0, .int 0, .int 0, .int 0, .int 0, .int 0, .int 0, .int 0, .int 0, .int 0, .int 0, .long 0, .int 0, .ref v27, .ref v28, .ref v29, .ref v30, .ref v31, .ref v32, .ref v33, .ref v34, .ref v35, .ref v36, .ref v37, .int 0]))] s.heap.size = A at hD hZ ⊢
  have hA : ∀ q : Nat, s.heap.size ≤ q → A q := fun q h => by rw [← hAe]; exact Or.inr h
  have hS : va_S A s.heap s.heap [] := va_S.rf
  have hP : va_P D vwCl [(w0, .inr (11, [.ref v0, .ref v1, .ref v2, .ref v3, .ref v4, .long 0, .long 0, .int 0, .int th, .ref v9, .int 0, .int 0, .int (-1), .ref v13, .int 0, .int 0, .int 0, .int 0, .int 0, .int 0, .int 0, .int 0, .int 0, .int 0, .int 0, .long 0, .int 0, .ref v27, .ref v28, .ref v29, .ref v30, .ref v31, .ref v32, .ref v33, .ref v34, .ref v35, .ref v36, .ref v37, .int 0]))] s.heap := hP
  have hl := lv_entry ([.ref w0]) (n := 2) (Nat.le_of_ble_eq_true rfl)
  rw [lg_entry_eq]
  generalize (lg_sl ([.ref w0]) ++ List.replicate (2 - (lg_sl ([.ref w0])).length) Slot.unset).toArray = ls at hl ⊢
  have hl : lv_has ls 2 [(0, .ref w0)] := hl
  have inX10 : ∀ w ∈ u_ws RX10 TX10 39, w ∈ wsX10_undo := by decide +kernel
  refine lv_aload_n hx hb dX10_undo_0 rfl (lv_at hl 0 rfl) ?_
  refine lv_iconst (v := 0) hx hb dX10_undo_1 (by decide) ?_
  refine va_put (D := D) (ci := 11) (v := .int 0) (ty := .int) (C := RX10) (T := TX10) (N := 39) hx hb hts inX10 tyX10 tyX10_ok nmX10 hown hK hP hD hS 0 rfl rfl 8 (by decide) (hts (.fieldLink RX10 80 "EscrowDeskModel" "thrown" "I") (by decide +kernel)) (fun _ h9 => h9) rfl (by decide +kernel) rfl rfl (Nat.le_of_ble_eq_true rfl) dX10_undo_2 (fun H locs hP hD hS => ?_)
  have hP : va_P D vwCl [(w0, .inr (11, [.ref v0, .ref v1, .ref v2, .ref v3, .ref v4, .long 0, .long 0, .int 0, .int 0, .ref v9, .int 0, .int 0, .int (-1), .ref v13, .int 0, .int 0, .int 0, .int 0, .int 0, .int 0, .int 0, .int 0, .int 0, .int 0, .int 0, .long 0, .int 0, .ref v27, .ref v28, .ref v29, .ref v30, .ref v31, .ref v32, .ref v33, .ref v34, .ref v35, .ref v36, .ref v37, .int 0]))] H := hP
  have hD : va_D A [(w0, .inr (11, [.ref v0, .ref v1, .ref v2, .ref v3, .ref v4, .long 0, .long 0, .int 0, .int 0, .ref v9, .int 0, .int 0, .int (-1), .ref v13, .int 0, .int 0, .int 0, .int 0, .int 0, .int 0, .int 0, .int 0, .int 0, .int 0, .int 0, .long 0, .int 0, .ref v27, .ref v28, .ref v29, .ref v30, .ref v31, .ref v32, .ref v33, .ref v34, .ref v35, .ref v36, .ref v37, .int 0]))] := hD
  refine lv_aload_n hx hb dX10_undo_5 rfl (lv_at hl 0 rfl) ?_
  refine va_get (D := D) (ci := 11) (v := .int 0) (C := RX10) (T := TX10) (N := 39) hx hb hts inX10 hown hK hP 0 rfl rfl 7 (by decide) (hts (.fieldLink RX10 83 "EscrowDeskModel" "edits" "I") (by decide +kernel)) (fun _ h9 => h9) rfl dX10_undo_6 ?_
  refine lv_if_ne (tgt := 14) hx hb dX10_undo_9 (by decide) (fun c9 => absurd c9 (by decide)) (fun c1 => ?_)
  refine lv_iconst (v := (-1)) hx hb dX10_undo_12 (by decide) ?_
  have hP9 := hP.sub (ws' := [(w0, .inr (11, [.ref v0, .ref v1, .ref v2, .ref v3, .ref v4, .long 0, .long 0, .int 0, .int 0, .ref v9, .int 0, .int 0, .int (-1), .ref v13, .int 0, .int 0, .int 0, .int 0, .int 0, .int 0, .int 0, .int 0, .int 0, .int 0, .int 0, .long 0, .int 0, .ref v27, .ref v28, .ref v29, .ref v30, .ref v31, .ref v32, .ref v33, .ref v34, .ref v35, .ref v36, .ref v37, .int 0]))]) [0] rfl
  have hD9 := hD.sub (ws' := [(w0, .inr (11, [.ref v0, .ref v1, .ref v2, .ref v3, .ref v4, .long 0, .long 0, .int 0, .int 0, .ref v9, .int 0, .int 0, .int (-1), .ref v13, .int 0, .int 0, .int 0, .int 0, .int 0, .int 0, .int 0, .int 0, .int 0, .int 0, .int 0, .long 0, .int 0, .ref v27, .ref v28, .ref v29, .ref v30, .ref v31, .ref v32, .ref v33, .ref v34, .ref v35, .ref v36, .ref v37, .int 0]))]) [0] (by decide) rfl
  refine W.widen (k := 0) (n := 0) (Nat.le_of_ble_eq_true rfl) (Nat.le_of_ble_eq_true rfl) ?_
  exact W.iret (v := (-1)) hx hb hr (fun t ht hW => ⟨⟨(-1), (), rfl, rfl, by rw [ht]; exact hP9, hD9⟩, hS.F ht⟩) hS.2.2 dX10_undo_13

set_option maxHeartbeats 4000000 in
set_option maxRecDepth 100000 in
/-- sumOn: 0 -/
theorem c_m_sumOn (l : Launch) (D : va_G) (cA : Nat → ClassId) (sa : Nat → Nat) (w0 v0 v1 v2 v3 v4 v9 v13 v27 v28 v29 v30 v31 v32 v33 v34 v35 v36 v37 : Nat) (th : Int32) (fs : Nat → Int32) (i j : Int32) (sz : Nat) (hz : Zs fs) : Met l yX10_sumOn wsX10_sumOn ({ frames := 0, cells := 0, slots := 0, locals := 0 }) (va_Pc [.ref w0, .int i, .int j] (Wd D cA sa [(w0, .inr (11, [.ref v0, .ref v1, .ref v2, .ref v3, .ref v4, .long 0, .long 0, .int 0, .int th, .ref v9, .int 0, .int 0, .int (-1), .ref v13, .int 0, .int 0, .int 0, .int 0, .int 0, .int 0, .int 0, .int 0, .int 0, .int 0, .int 0, .long 0, .int 0, .ref v27, .ref v28, .ref v29, .ref v30, .ref v31, .ref v32, .ref v33, .ref v34, .ref v35, .ref v36, .ref v37, .int 0])), (v0, .inl (cA 0, 326, .inl fs))] sz)) (va_Ql (fun (r : Int64) (_ : Unit) => r = 0) (fun (_ : Unit) t => Wq D (va_A [(w0, .inr (11, [.ref v0, .ref v1, .ref v2, .ref v3, .ref v4, .long 0, .long 0, .int 0, .int th, .ref v9, .int 0, .int 0, .int (-1), .ref v13, .int 0, .int 0, .int 0, .int 0, .int 0, .int 0, .int 0, .int 0, .int 0, .int 0, .int 0, .long 0, .int 0, .ref v27, .ref v28, .ref v29, .ref v30, .ref v31, .ref v32, .ref v33, .ref v34, .ref v35, .ref v36, .ref v37, .int 0])), (v0, .inl (cA 0, 326, .inl fs))] sz) [(w0, .inr (11, [.ref v0, .ref v1, .ref v2, .ref v3, .ref v4, .long 0, .long 0, .int 0, .int th, .ref v9, .int 0, .int 0, .int (-1), .ref v13, .int 0, .int 0, .int 0, .int 0, .int 0, .int 0, .int 0, .int 0, .int 0, .int 0, .int 0, .long 0, .int 0, .ref v27, .ref v28, .ref v29, .ref v30, .ref v31, .ref v32, .ref v33, .ref v34, .ref v35, .ref v36, .ref v37, .int 0])), (v0, .inl (cA 0, 326, .inl fs))] t) (va_A [(w0, .inr (11, [.ref v0, .ref v1, .ref v2, .ref v3, .ref v4, .long 0, .long 0, .int 0, .int th, .ref v9, .int 0, .int 0, .int (-1), .ref v13, .int 0, .int 0, .int 0, .int 0, .int 0, .int 0, .int 0, .int 0, .int 0, .int 0, .int 0, .long 0, .int 0, .ref v27, .ref v28, .ref v29, .ref v30, .ref v31, .ref v32, .ref v33, .ref v34, .ref v35, .ref v36, .ref v37, .int 0])), (v0, .inl (cA 0, 326, .inl fs))] sz)) 0 0 (va_A [(w0, .inr (11, [.ref v0, .ref v1, .ref v2, .ref v3, .ref v4, .long 0, .long 0, .int 0, .int th, .ref v9, .int 0, .int 0, .int (-1), .ref v13, .int 0, .int 0, .int 0, .int 0, .int 0, .int 0, .int 0, .int 0, .int 0, .int 0, .int 0, .long 0, .int 0, .ref v27, .ref v28, .ref v29, .ref v30, .ref v31, .ref v32, .ref v33, .ref v34, .ref v35, .ref v36, .ref v37, .int 0])), (v0, .inl (cA 0, 326, .inl fs))] sz) := by
  refine Met.ofW (cc := cX10_sumOn) (maxL := 6) (ret := (some .long)) (by decide) rfl ?_
  intro p e s m args below meth c s₁ B hml hv
  obtain ⟨rfl, hsz, hP, hK, hD0, hC, hZ⟩ := hv
  have hx := B.exec
  have hb := B.bytes
  have hr := B.returns
  have hts := atoms_spec (ws := wsX10_sumOn) B.pre
  have hown : s.vm.findClass RX10 = some m.cls := findClass_of_methodNamed B.named
  have hlocks := B.notSynchronized
  subst hsz
  have hD := hD0.self (sz := s.heap.size)
  generalize hAe : va_A [(w0, .inr (11, [.ref v0, .ref v1, .ref v2, .ref v3, .ref v4, .long 0, .long 0, .int 0, .int th, .ref v9, .int 0, .int 0, .int (-1), .ref v13, .int 0, .int 0, .int 0, .int 0, .int 0, .int 0, .int 0, .int 0, .int 0, .int 0, .int 0, .long 0, .int 0, .ref v27, .ref v28, .ref v29, .ref v30, .ref v31, .ref v32, .ref v33, .ref v34, .ref v35, .ref v36, .ref v37, .int 0])), (v0, .inl (cA 0, 326, .inl fs))] s.heap.size = A at hD hZ ⊢
  have hA : ∀ q : Nat, s.heap.size ≤ q → A q := fun q h => by rw [← hAe]; exact Or.inr h
  have hS : va_S A s.heap s.heap [] := va_S.rf
  have hP : va_P D vwCl [(w0, .inr (11, [.ref v0, .ref v1, .ref v2, .ref v3, .ref v4, .long 0, .long 0, .int 0, .int th, .ref v9, .int 0, .int 0, .int (-1), .ref v13, .int 0, .int 0, .int 0, .int 0, .int 0, .int 0, .int 0, .int 0, .int 0, .int 0, .int 0, .long 0, .int 0, .ref v27, .ref v28, .ref v29, .ref v30, .ref v31, .ref v32, .ref v33, .ref v34, .ref v35, .ref v36, .ref v37, .int 0])), (v0, .inl (cA 0, 326, .inl fs))] s.heap := hP
  have hl := lv_entry ([.ref w0, .int i, .int j]) (n := 6) (Nat.le_of_ble_eq_true rfl)
  rw [lg_entry_eq]
  generalize (lg_sl ([.ref w0, .int i, .int j]) ++ List.replicate (6 - (lg_sl ([.ref w0, .int i, .int j])).length) Slot.unset).toArray = ls at hl ⊢
  have hl : lv_has ls 6 [(0, .ref w0), (1, .int i), (2, .int j)] := hl
  have inX10 : ∀ w ∈ u_ws RX10 TX10 39, w ∈ wsX10_sumOn := by decide +kernel
  refine lv_lconst (v := 0) hx hb dX10_sumOn_0 (by decide) ?_
  refine lv_lstore_n (lv' := [(3, .long 0), (0, .ref w0), (1, .int i), (2, .int j)]) hx hb dX10_sumOn_1 rfl hl (by decide) rfl (fun ls hl => ?_)
  refine lv_iconst (v := 0) hx hb dX10_sumOn_2 (by decide) ?_
  refine lv_istore (lv' := [(5, .int 0), (3, .long 0), (0, .ref w0), (1, .int i), (2, .int j)]) hx hb dX10_sumOn_3 hl (by decide) rfl (fun ls hl => ?_)
  refine lv_iload hx hb dX10_sumOn_5 (lv_at hl 0 rfl) ?_
  refine lv_aload_n hx hb dX10_sumOn_7 rfl (lv_at hl 2 rfl) ?_
  refine va_get (D := D) (ci := 11) (v := .ref v0) (C := RX10) (T := TX10) (N := 39) hx hb hts inX10 hown hK hP 0 rfl rfl 0 (by decide) (hts (.fieldLink RX10 7 "EscrowDeskModel" "s" "[I") (by decide +kernel)) (fun _ h9 => h9) rfl dX10_sumOn_8 ?_
  refine lv_bipush (v := 15) hx hb dX10_sumOn_11 (by decide) ?_
  refine va_iald hx hb hK hP 1 0 rfl rfl (vp_in_iff.mpr (by decide)) dX10_sumOn_13 ?_
  refine lv_topi (fun yn1 eyn1 => ?_)
  obtain rfl : yn1 = 0 := eyn1.trans (hz.2 15 (by decide) (by decide))
  refine lv_icmp_ge (tgt := 60) hx hb dX10_sumOn_14 (by decide) (fun c2 => ?_) (fun c9 => absurd c9 (by decide))
  refine lv_lload_n hx hb dX10_sumOn_60 rfl (lv_at hl 1 rfl) ?_
  have hP9 := hP.sub (ws' := [(w0, .inr (11, [.ref v0, .ref v1, .ref v2, .ref v3, .ref v4, .long 0, .long 0, .int 0, .int th, .ref v9, .int 0, .int 0, .int (-1), .ref v13, .int 0, .int 0, .int 0, .int 0, .int 0, .int 0, .int 0, .int 0, .int 0, .int 0, .int 0, .long 0, .int 0, .ref v27, .ref v28, .ref v29, .ref v30, .ref v31, .ref v32, .ref v33, .ref v34, .ref v35, .ref v36, .ref v37, .int 0])), (v0, .inl (cA 0, 326, .inl fs))]) [0, 1] rfl
  have hD9 := hD.sub (ws' := [(w0, .inr (11, [.ref v0, .ref v1, .ref v2, .ref v3, .ref v4, .long 0, .long 0, .int 0, .int th, .ref v9, .int 0, .int 0, .int (-1), .ref v13, .int 0, .int 0, .int 0, .int 0, .int 0, .int 0, .int 0, .int 0, .int 0, .int 0, .int 0, .long 0, .int 0, .ref v27, .ref v28, .ref v29, .ref v30, .ref v31, .ref v32, .ref v33, .ref v34, .ref v35, .ref v36, .ref v37, .int 0])), (v0, .inl (cA 0, 326, .inl fs))]) [0, 1] (by decide) rfl
  refine W.widen (k := 0) (n := 0) (Nat.le_of_ble_eq_true rfl) (Nat.le_of_ble_eq_true rfl) ?_
  exact W.lret (v := 0) hx hb hr (fun t ht hW => ⟨⟨0, (), rfl, rfl, by rw [ht]; exact hP9, hD9⟩, hS.F ht⟩) hS.2.2 dX10_sumOn_61

set_option maxHeartbeats 4000000 in
set_option maxRecDepth 100000 in
/-- totalOn within -/
theorem c_m_totalOn_ret (l : Launch) (D : va_G) (cA : Nat → ClassId) (sa : Nat → Nat) (w0 v0 v1 v2 v3 v4 v9 v13 v27 v28 v29 v30 v31 v32 v33 v34 v35 v36 v37 : Nat) (th : Int32) (fs : Nat → Int32) (i j : Int32) (sz : Nat) (hz : Zs fs) (h1 : ¬ j < 0) (h2 : ¬ 4 < j) : Met l yX10_totalOn wsX10_totalOn ({ frames := 1, cells := 0, slots := 0, locals := 25 }) (va_Pc [.ref w0, .int i, .int j] (Wd D cA sa [(w0, .inr (11, [.ref v0, .ref v1, .ref v2, .ref v3, .ref v4, .long 0, .long 0, .int 0, .int th, .ref v9, .int 0, .int 0, .int (-1), .ref v13, .int 0, .int 0, .int 0, .int 0, .int 0, .int 0, .int 0, .int 0, .int 0, .int 0, .int 0, .long 0, .int 0, .ref v27, .ref v28, .ref v29, .ref v30, .ref v31, .ref v32, .ref v33, .ref v34, .ref v35, .ref v36, .ref v37, .int 0])), (v0, .inl (cA 0, 326, .inl fs))] sz)) (va_Qi (fun (r : Int32) (_ : Unit) => r = 0) (fun (_ : Unit) t => Wq D (va_A [(w0, .inr (11, [.ref v0, .ref v1, .ref v2, .ref v3, .ref v4, .long 0, .long 0, .int 0, .int th, .ref v9, .int 0, .int 0, .int (-1), .ref v13, .int 0, .int 0, .int 0, .int 0, .int 0, .int 0, .int 0, .int 0, .int 0, .int 0, .int 0, .long 0, .int 0, .ref v27, .ref v28, .ref v29, .ref v30, .ref v31, .ref v32, .ref v33, .ref v34, .ref v35, .ref v36, .ref v37, .int 0])), (v0, .inl (cA 0, 326, .inl fs))] sz) [(w0, .inr (11, [.ref v0, .ref v1, .ref v2, .ref v3, .ref v4, .long 0, .long 0, .int 0, .int 0, .ref v9, .int 0, .int 0, .int (-1), .ref v13, .int 0, .int 0, .int 0, .int 0, .int 0, .int 0, .int 0, .int 0, .int 0, .int 0, .int 0, .long 0, .int 0, .ref v27, .ref v28, .ref v29, .ref v30, .ref v31, .ref v32, .ref v33, .ref v34, .ref v35, .ref v36, .ref v37, .int 0]))] t) (va_A [(w0, .inr (11, [.ref v0, .ref v1, .ref v2, .ref v3, .ref v4, .long 0, .long 0, .int 0, .int th, .ref v9, .int 0, .int 0, .int (-1), .ref v13, .int 0, .int 0, .int 0, .int 0, .int 0, .int 0, .int 0, .int 0, .int 0, .int 0, .int 0, .long 0, .int 0, .ref v27, .ref v28, .ref v29, .ref v30, .ref v31, .ref v32, .ref v33, .ref v34, .ref v35, .ref v36, .ref v37, .int 0])), (v0, .inl (cA 0, 326, .inl fs))] sz)) 0 0 (va_A [(w0, .inr (11, [.ref v0, .ref v1, .ref v2, .ref v3, .ref v4, .long 0, .long 0, .int 0, .int th, .ref v9, .int 0, .int 0, .int (-1), .ref v13, .int 0, .int 0, .int 0, .int 0, .int 0, .int 0, .int 0, .int 0, .int 0, .int 0, .int 0, .long 0, .int 0, .ref v27, .ref v28, .ref v29, .ref v30, .ref v31, .ref v32, .ref v33, .ref v34, .ref v35, .ref v36, .ref v37, .int 0])), (v0, .inl (cA 0, 326, .inl fs))] sz) := by
  refine Met.ofW (cc := cX10_totalOn) (maxL := 3) (ret := (some .int)) (by decide) rfl ?_
  intro p e s m args below meth c s₁ B hml hv
  obtain ⟨rfl, hsz, hP, hK, hD0, hC, hZ⟩ := hv
  have hx := B.exec
  have hb := B.bytes
  have hr := B.returns
  have hts := atoms_spec (ws := wsX10_totalOn) B.pre
  have hown : s.vm.findClass RX10 = some m.cls := findClass_of_methodNamed B.named
  have hlocks := B.notSynchronized
  subst hsz
  have hD := hD0.self (sz := s.heap.size)
  generalize hAe : va_A [(w0, .inr (11, [.ref v0, .ref v1, .ref v2, .ref v3, .ref v4, .long 0, .long 0, .int 0, .int th, .ref v9, .int 0, .int 0, .int (-1), .ref v13, .int 0, .int 0, .int 0, .int 0, .int 0, .int 0, .int 0, .int 0, .int 0, .int 0, .int 0, .long 0, .int 0, .ref v27, .ref v28, .ref v29, .ref v30, .ref v31, .ref v32, .ref v33, .ref v34, .ref v35, .ref v36, .ref v37, .int 0])), (v0, .inl (cA 0, 326, .inl fs))] s.heap.size = A at hD hZ ⊢
  have hA : ∀ q : Nat, s.heap.size ≤ q → A q := fun q h => by rw [← hAe]; exact Or.inr h
  have hS : va_S A s.heap s.heap [] := va_S.rf
  have hP : va_P D vwCl [(w0, .inr (11, [.ref v0, .ref v1, .ref v2, .ref v3, .ref v4, .long 0, .long 0, .int 0, .int th, .ref v9, .int 0, .int 0, .int (-1), .ref v13, .int 0, .int 0, .int 0, .int 0, .int 0, .int 0, .int 0, .int 0, .int 0, .int 0, .int 0, .long 0, .int 0, .ref v27, .ref v28, .ref v29, .ref v30, .ref v31, .ref v32, .ref v33, .ref v34, .ref v35, .ref v36, .ref v37, .int 0])), (v0, .inl (cA 0, 326, .inl fs))] s.heap := hP
  have hl := lv_entry ([.ref w0, .int i, .int j]) (n := 3) (Nat.le_of_ble_eq_true rfl)
  rw [lg_entry_eq]
  generalize (lg_sl ([.ref w0, .int i, .int j]) ++ List.replicate (3 - (lg_sl ([.ref w0, .int i, .int j])).length) Slot.unset).toArray = ls at hl ⊢
  have hl : lv_has ls 3 [(0, .ref w0), (1, .int i), (2, .int j)] := hl
  refine lv_aload_n hx hb dX10_totalOn_0 rfl (lv_at hl 0 rfl) ?_
  refine lv_iload_n hx hb dX10_totalOn_1 rfl (lv_at hl 2 rfl) ?_
  refine lv_i2l (v := (j.toInt64)) hx hb dX10_totalOn_2 rfl ?_
  refine lv_lconst (v := 0) hx hb dX10_totalOn_3 (by decide) ?_
  refine lv_ldc2 (v := 4) hx hb hown (hts (.constantLong RX10 451 4) (by decide +kernel)) dX10_totalOn_4 ?_
  have hPc := hP.sub (ws' := []) [] rfl
  have hDc := hD.sub (ws' := []) [] (by decide) rfl
  have hFc := va_free (wc := []) hD hS hA [] rfl
  refine va_calli (va_runS (As := [.long (j.toInt64), .long 0, .long 4]) (rest := [.ref w0]) ⟨hx, hb, hml, hown, hts⟩ (c_btw_t l D cA sa (j.toInt64) 0 4 s.heap.size (in_l (by decide) (by decide) h1 h2)) (va_cwS 3 hts gX10_totalOn_X10_between rfl rfl rfl (by decide +kernel) ⟨(Nat.le_of_ble_eq_true rfl), (Nat.le_of_ble_eq_true rfl)⟩) ⟨Wd.blind, fun U hU hW => ⟨rfl, Wd.call hPc hDc hK hC hZ hS hFc U hU hW⟩⟩ rfl rfl hl.1 rfl (lv_room (Nat.le_of_ble_eq_true rfl)) dX10_totalOn_7 ⟨(Nat.le_of_ble_eq_true rfl), (Nat.le_of_ble_eq_true rfl)⟩) hS (fun q _ h => hFc q h) hFc (fun rn1 u t H1 locs ht hvm hw hB hz1 hk1 hS => ?_)
  obtain ⟨hP1, hD1⟩ := hB
  rw [ht] at hP1
  obtain ⟨hP, hD⟩ := va_join (wr := [(w0, .inr (11, [.ref v0, .ref v1, .ref v2, .ref v3, .ref v4, .long 0, .long 0, .int 0, .int th, .ref v9, .int 0, .int 0, .int (-1), .ref v13, .int 0, .int 0, .int 0, .int 0, .int 0, .int 0, .int 0, .int 0, .int 0, .int 0, .int 0, .long 0, .int 0, .ref v27, .ref v28, .ref v29, .ref v30, .ref v31, .ref v32, .ref v33, .ref v34, .ref v35, .ref v36, .ref v37, .int 0])), (v0, .inl (cA 0, 326, .inl fs))]) (w1 := []) hP hD [] [0, 1] rfl rfl (by decide) (by decide) hk1 hFc hP1 hD1
  generalize H1 = H at hP hS ⊢
  have hP : va_P D vwCl [(w0, .inr (11, [.ref v0, .ref v1, .ref v2, .ref v3, .ref v4, .long 0, .long 0, .int 0, .int th, .ref v9, .int 0, .int 0, .int (-1), .ref v13, .int 0, .int 0, .int 0, .int 0, .int 0, .int 0, .int 0, .int 0, .int 0, .int 0, .int 0, .long 0, .int 0, .ref v27, .ref v28, .ref v29, .ref v30, .ref v31, .ref v32, .ref v33, .ref v34, .ref v35, .ref v36, .ref v37, .int 0])), (v0, .inl (cA 0, 326, .inl fs))] H := hP
  have hD : va_D A [(w0, .inr (11, [.ref v0, .ref v1, .ref v2, .ref v3, .ref v4, .long 0, .long 0, .int 0, .int th, .ref v9, .int 0, .int 0, .int (-1), .ref v13, .int 0, .int 0, .int 0, .int 0, .int 0, .int 0, .int 0, .int 0, .int 0, .int 0, .int 0, .long 0, .int 0, .ref v27, .ref v28, .ref v29, .ref v30, .ref v31, .ref v32, .ref v33, .ref v34, .ref v35, .ref v36, .ref v37, .int 0])), (v0, .inl (cA 0, 326, .inl fs))] := hD
  obtain rfl : rn1 = 1 := hw
  have hPc := hP.sub (ws' := [(w0, .inr (11, [.ref v0, .ref v1, .ref v2, .ref v3, .ref v4, .long 0, .long 0, .int 0, .int th, .ref v9, .int 0, .int 0, .int (-1), .ref v13, .int 0, .int 0, .int 0, .int 0, .int 0, .int 0, .int 0, .int 0, .int 0, .int 0, .int 0, .long 0, .int 0, .ref v27, .ref v28, .ref v29, .ref v30, .ref v31, .ref v32, .ref v33, .ref v34, .ref v35, .ref v36, .ref v37, .int 0]))]) [0] rfl
  have hDc := hD.sub (ws' := [(w0, .inr (11, [.ref v0, .ref v1, .ref v2, .ref v3, .ref v4, .long 0, .long 0, .int 0, .int th, .ref v9, .int 0, .int 0, .int (-1), .ref v13, .int 0, .int 0, .int 0, .int 0, .int 0, .int 0, .int 0, .int 0, .int 0, .int 0, .int 0, .long 0, .int 0, .ref v27, .ref v28, .ref v29, .ref v30, .ref v31, .ref v32, .ref v33, .ref v34, .ref v35, .ref v36, .ref v37, .int 0]))]) [0] (by decide) rfl
  have hFc := va_free (wc := [(w0, .inr (11, [.ref v0, .ref v1, .ref v2, .ref v3, .ref v4, .long 0, .long 0, .int 0, .int th, .ref v9, .int 0, .int 0, .int (-1), .ref v13, .int 0, .int 0, .int 0, .int 0, .int 0, .int 0, .int 0, .int 0, .int 0, .int 0, .int 0, .long 0, .int 0, .ref v27, .ref v28, .ref v29, .ref v30, .ref v31, .ref v32, .ref v33, .ref v34, .ref v35, .ref v36, .ref v37, .int 0]))]) hD hS hA [0] rfl
  refine va_calli (va_runV (As := [.int 1]) (rest := []) ⟨hx, hb, hml, hown, hts⟩ (c_m_good_1 l D cA sa w0 v0 v1 v2 v3 v4 v9 v13 v27 v28 v29 v30 v31 v32 v33 v34 v35 v36 v37 th H.size) (cwV 1 hts gX10_totalOn_X10_good rfl rfl rfl (by decide +kernel) ⟨(Nat.le_of_ble_eq_true rfl), (Nat.le_of_ble_eq_true rfl)⟩) ⟨Wd.blind, va_recv hK hPc (ci := 11) (q0 := 0) rfl rfl, fun U hU hW => ⟨rfl, Wd.call hPc hDc hK hC hZ hS hFc U hU hW⟩⟩ rfl rfl hl.1 rfl (lv_room (Nat.le_of_ble_eq_true rfl)) dX10_totalOn_10 ⟨(Nat.le_of_ble_eq_true rfl), (Nat.le_of_ble_eq_true rfl)⟩) hS (fun q _ h => hFc q h) hFc (fun rn2 u t H1 locs ht hvm hw hB hz1 hk1 hS => ?_)
  obtain ⟨hP1, hD1⟩ := hB
  rw [ht] at hP1
  obtain ⟨hP, hD⟩ := va_join (wr := [(v0, .inl (cA 0, 326, .inl fs))]) (w1 := [(w0, .inr (11, [.ref v0, .ref v1, .ref v2, .ref v3, .ref v4, .long 0, .long 0, .int 0, .int 0, .ref v9, .int 0, .int 0, .int (-1), .ref v13, .int 0, .int 0, .int 0, .int 0, .int 0, .int 0, .int 0, .int 0, .int 0, .int 0, .int 0, .long 0, .int 0, .ref v27, .ref v28, .ref v29, .ref v30, .ref v31, .ref v32, .ref v33, .ref v34, .ref v35, .ref v36, .ref v37, .int 0]))]) hP hD [0] [1] rfl rfl (by decide) (by decide) hk1 hFc hP1 hD1
  generalize H1 = H at hP hS ⊢
  have hP : va_P D vwCl [(v0, .inl (cA 0, 326, .inl fs)), (w0, .inr (11, [.ref v0, .ref v1, .ref v2, .ref v3, .ref v4, .long 0, .long 0, .int 0, .int 0, .ref v9, .int 0, .int 0, .int (-1), .ref v13, .int 0, .int 0, .int 0, .int 0, .int 0, .int 0, .int 0, .int 0, .int 0, .int 0, .int 0, .long 0, .int 0, .ref v27, .ref v28, .ref v29, .ref v30, .ref v31, .ref v32, .ref v33, .ref v34, .ref v35, .ref v36, .ref v37, .int 0]))] H := hP
  have hD : va_D A [(v0, .inl (cA 0, 326, .inl fs)), (w0, .inr (11, [.ref v0, .ref v1, .ref v2, .ref v3, .ref v4, .long 0, .long 0, .int 0, .int 0, .ref v9, .int 0, .int 0, .int (-1), .ref v13, .int 0, .int 0, .int 0, .int 0, .int 0, .int 0, .int 0, .int 0, .int 0, .int 0, .int 0, .long 0, .int 0, .ref v27, .ref v28, .ref v29, .ref v30, .ref v31, .ref v32, .ref v33, .ref v34, .ref v35, .ref v36, .ref v37, .int 0]))] := hD
  obtain rfl : rn2 = 1 := hw
  refine lv_if_eq (tgt := 26) hx hb dX10_totalOn_13 (by decide) (fun c9 => absurd c9 (by decide)) (fun c3 => ?_)
  refine lv_aload_n hx hb dX10_totalOn_16 rfl (lv_at hl 0 rfl) ?_
  refine lv_iload_n hx hb dX10_totalOn_17 rfl (lv_at hl 1 rfl) ?_
  refine lv_iload_n hx hb dX10_totalOn_18 rfl (lv_at hl 2 rfl) ?_
  have hPc := hP.sub (ws' := [(w0, .inr (11, [.ref v0, .ref v1, .ref v2, .ref v3, .ref v4, .long 0, .long 0, .int 0, .int 0, .ref v9, .int 0, .int 0, .int (-1), .ref v13, .int 0, .int 0, .int 0, .int 0, .int 0, .int 0, .int 0, .int 0, .int 0, .int 0, .int 0, .long 0, .int 0, .ref v27, .ref v28, .ref v29, .ref v30, .ref v31, .ref v32, .ref v33, .ref v34, .ref v35, .ref v36, .ref v37, .int 0])), (v0, .inl (cA 0, 326, .inl fs))]) [1, 0] rfl
  have hDc := hD.sub (ws' := [(w0, .inr (11, [.ref v0, .ref v1, .ref v2, .ref v3, .ref v4, .long 0, .long 0, .int 0, .int 0, .ref v9, .int 0, .int 0, .int (-1), .ref v13, .int 0, .int 0, .int 0, .int 0, .int 0, .int 0, .int 0, .int 0, .int 0, .int 0, .int 0, .long 0, .int 0, .ref v27, .ref v28, .ref v29, .ref v30, .ref v31, .ref v32, .ref v33, .ref v34, .ref v35, .ref v36, .ref v37, .int 0])), (v0, .inl (cA 0, 326, .inl fs))]) [1, 0] (by decide) rfl
  have hFc := va_free (wc := [(w0, .inr (11, [.ref v0, .ref v1, .ref v2, .ref v3, .ref v4, .long 0, .long 0, .int 0, .int 0, .ref v9, .int 0, .int 0, .int (-1), .ref v13, .int 0, .int 0, .int 0, .int 0, .int 0, .int 0, .int 0, .int 0, .int 0, .int 0, .int 0, .long 0, .int 0, .ref v27, .ref v28, .ref v29, .ref v30, .ref v31, .ref v32, .ref v33, .ref v34, .ref v35, .ref v36, .ref v37, .int 0])), (v0, .inl (cA 0, 326, .inl fs))]) hD hS hA [1, 0] rfl
  refine va_calll (va_runV (As := [.int i, .int j]) (rest := []) ⟨hx, hb, hml, hown, hts⟩ (c_m_sumOn l D cA sa w0 v0 v1 v2 v3 v4 v9 v13 v27 v28 v29 v30 v31 v32 v33 v34 v35 v36 v37 0 fs i j H.size hz) (cwV 2 hts gX10_totalOn_X10_sumOn rfl rfl rfl (by decide +kernel) ⟨(Nat.le_of_ble_eq_true rfl), (Nat.le_of_ble_eq_true rfl)⟩) ⟨Wd.blind, va_recv hK hPc (ci := 11) (q0 := 0) rfl rfl, fun U hU hW => ⟨rfl, Wd.call hPc hDc hK hC hZ hS hFc U hU hW⟩⟩ rfl rfl hl.1 rfl (lv_room (Nat.le_of_ble_eq_true rfl)) dX10_totalOn_19 ⟨(Nat.le_of_ble_eq_true rfl), (Nat.le_of_ble_eq_true rfl)⟩) hS (fun q _ h => hFc q h) hFc (fun rn4 u t H1 locs ht hvm hw hB hz1 hk1 hS => ?_)
  obtain ⟨hP1, hD1⟩ := hB
  rw [ht] at hP1
  obtain ⟨hP, hD⟩ := va_join (wr := []) (w1 := [(w0, .inr (11, [.ref v0, .ref v1, .ref v2, .ref v3, .ref v4, .long 0, .long 0, .int 0, .int 0, .ref v9, .int 0, .int 0, .int (-1), .ref v13, .int 0, .int 0, .int 0, .int 0, .int 0, .int 0, .int 0, .int 0, .int 0, .int 0, .int 0, .long 0, .int 0, .ref v27, .ref v28, .ref v29, .ref v30, .ref v31, .ref v32, .ref v33, .ref v34, .ref v35, .ref v36, .ref v37, .int 0])), (v0, .inl (cA 0, 326, .inl fs))]) hP hD [1, 0] [] rfl rfl (by decide) (by decide) hk1 hFc hP1 hD1
  generalize H1 = H at hP hS ⊢
  have hP : va_P D vwCl [(w0, .inr (11, [.ref v0, .ref v1, .ref v2, .ref v3, .ref v4, .long 0, .long 0, .int 0, .int 0, .ref v9, .int 0, .int 0, .int (-1), .ref v13, .int 0, .int 0, .int 0, .int 0, .int 0, .int 0, .int 0, .int 0, .int 0, .int 0, .int 0, .long 0, .int 0, .ref v27, .ref v28, .ref v29, .ref v30, .ref v31, .ref v32, .ref v33, .ref v34, .ref v35, .ref v36, .ref v37, .int 0])), (v0, .inl (cA 0, 326, .inl fs))] H := hP
  have hD : va_D A [(w0, .inr (11, [.ref v0, .ref v1, .ref v2, .ref v3, .ref v4, .long 0, .long 0, .int 0, .int 0, .ref v9, .int 0, .int 0, .int (-1), .ref v13, .int 0, .int 0, .int 0, .int 0, .int 0, .int 0, .int 0, .int 0, .int 0, .int 0, .int 0, .long 0, .int 0, .ref v27, .ref v28, .ref v29, .ref v30, .ref v31, .ref v32, .ref v33, .ref v34, .ref v35, .ref v36, .ref v37, .int 0])), (v0, .inl (cA 0, 326, .inl fs))] := hD
  obtain rfl : rn4 = 0 := hw
  refine lv_l2i (v := 0) hx hb dX10_totalOn_22 (by decide) ?_
  refine lv_goto (tgt := 27) hx hb dX10_totalOn_23 (by decide) ?_
  have hP9 := hP.sub (ws' := [(w0, .inr (11, [.ref v0, .ref v1, .ref v2, .ref v3, .ref v4, .long 0, .long 0, .int 0, .int 0, .ref v9, .int 0, .int 0, .int (-1), .ref v13, .int 0, .int 0, .int 0, .int 0, .int 0, .int 0, .int 0, .int 0, .int 0, .int 0, .int 0, .long 0, .int 0, .ref v27, .ref v28, .ref v29, .ref v30, .ref v31, .ref v32, .ref v33, .ref v34, .ref v35, .ref v36, .ref v37, .int 0]))]) [0] rfl
  have hD9 := hD.sub (ws' := [(w0, .inr (11, [.ref v0, .ref v1, .ref v2, .ref v3, .ref v4, .long 0, .long 0, .int 0, .int 0, .ref v9, .int 0, .int 0, .int (-1), .ref v13, .int 0, .int 0, .int 0, .int 0, .int 0, .int 0, .int 0, .int 0, .int 0, .int 0, .int 0, .long 0, .int 0, .ref v27, .ref v28, .ref v29, .ref v30, .ref v31, .ref v32, .ref v33, .ref v34, .ref v35, .ref v36, .ref v37, .int 0]))]) [0] (by decide) rfl
  refine W.widen (k := 0) (n := 0) (Nat.le_of_ble_eq_true rfl) (Nat.le_of_ble_eq_true rfl) ?_
  exact W.iret (v := 0) hx hb hr (fun t ht hW => ⟨⟨0, (), rfl, rfl, by rw [ht]; exact hP9, hD9⟩, hS.F ht⟩) hS.2.2 dX10_totalOn_27

set_option maxHeartbeats 4000000 in
set_option maxRecDepth 100000 in
/-- totalOn outside -/
theorem c_m_totalOn_thr (l : Launch) (D : va_G) (cA : Nat → ClassId) (sa : Nat → Nat) (w0 v0 v1 v2 v3 v4 v9 v13 v27 v28 v29 v30 v31 v32 v33 v34 v35 v36 v37 : Nat) (th : Int32) (fs : Nat → Int32) (i j : Int32) (sz : Nat) (hz : Zs fs) (h : j < 0 ∨ 4 < j) : Met l yX10_totalOn wsX10_totalOn ({ frames := 1, cells := 0, slots := 0, locals := 25 }) (va_Pc [.ref w0, .int i, .int j] (Wd D cA sa [(w0, .inr (11, [.ref v0, .ref v1, .ref v2, .ref v3, .ref v4, .long 0, .long 0, .int 0, .int th, .ref v9, .int 0, .int 0, .int (-1), .ref v13, .int 0, .int 0, .int 0, .int 0, .int 0, .int 0, .int 0, .int 0, .int 0, .int 0, .int 0, .long 0, .int 0, .ref v27, .ref v28, .ref v29, .ref v30, .ref v31, .ref v32, .ref v33, .ref v34, .ref v35, .ref v36, .ref v37, .int 0])), (v0, .inl (cA 0, 326, .inl fs))] sz)) (va_Qi (fun (r : Int32) (_ : Unit) => r = 0) (fun (_ : Unit) t => Wq D (va_A [(w0, .inr (11, [.ref v0, .ref v1, .ref v2, .ref v3, .ref v4, .long 0, .long 0, .int 0, .int th, .ref v9, .int 0, .int 0, .int (-1), .ref v13, .int 0, .int 0, .int 0, .int 0, .int 0, .int 0, .int 0, .int 0, .int 0, .int 0, .int 0, .long 0, .int 0, .ref v27, .ref v28, .ref v29, .ref v30, .ref v31, .ref v32, .ref v33, .ref v34, .ref v35, .ref v36, .ref v37, .int 0])), (v0, .inl (cA 0, 326, .inl fs))] sz) [(w0, .inr (11, [.ref v0, .ref v1, .ref v2, .ref v3, .ref v4, .long 0, .long 0, .int 0, .int 1, .ref v9, .int 0, .int 0, .int (-1), .ref v13, .int 0, .int 0, .int 0, .int 0, .int 0, .int 0, .int 0, .int 0, .int 0, .int 0, .int 0, .long 0, .int 0, .ref v27, .ref v28, .ref v29, .ref v30, .ref v31, .ref v32, .ref v33, .ref v34, .ref v35, .ref v36, .ref v37, .int 0]))] t) (va_A [(w0, .inr (11, [.ref v0, .ref v1, .ref v2, .ref v3, .ref v4, .long 0, .long 0, .int 0, .int th, .ref v9, .int 0, .int 0, .int (-1), .ref v13, .int 0, .int 0, .int 0, .int 0, .int 0, .int 0, .int 0, .int 0, .int 0, .int 0, .int 0, .long 0, .int 0, .ref v27, .ref v28, .ref v29, .ref v30, .ref v31, .ref v32, .ref v33, .ref v34, .ref v35, .ref v36, .ref v37, .int 0])), (v0, .inl (cA 0, 326, .inl fs))] sz)) 0 0 (va_A [(w0, .inr (11, [.ref v0, .ref v1, .ref v2, .ref v3, .ref v4, .long 0, .long 0, .int 0, .int th, .ref v9, .int 0, .int 0, .int (-1), .ref v13, .int 0, .int 0, .int 0, .int 0, .int 0, .int 0, .int 0, .int 0, .int 0, .int 0, .int 0, .long 0, .int 0, .ref v27, .ref v28, .ref v29, .ref v30, .ref v31, .ref v32, .ref v33, .ref v34, .ref v35, .ref v36, .ref v37, .int 0])), (v0, .inl (cA 0, 326, .inl fs))] sz) := by
  refine Met.ofW (cc := cX10_totalOn) (maxL := 3) (ret := (some .int)) (by decide) rfl ?_
  intro p e s m args below meth c s₁ B hml hv
  obtain ⟨rfl, hsz, hP, hK, hD0, hC, hZ⟩ := hv
  have hx := B.exec
  have hb := B.bytes
  have hr := B.returns
  have hts := atoms_spec (ws := wsX10_totalOn) B.pre
  have hown : s.vm.findClass RX10 = some m.cls := findClass_of_methodNamed B.named
  have hlocks := B.notSynchronized
  subst hsz
  have hD := hD0.self (sz := s.heap.size)
  generalize hAe : va_A [(w0, .inr (11, [.ref v0, .ref v1, .ref v2, .ref v3, .ref v4, .long 0, .long 0, .int 0, .int th, .ref v9, .int 0, .int 0, .int (-1), .ref v13, .int 0, .int 0, .int 0, .int 0, .int 0, .int 0, .int 0, .int 0, .int 0, .int 0, .int 0, .long 0, .int 0, .ref v27, .ref v28, .ref v29, .ref v30, .ref v31, .ref v32, .ref v33, .ref v34, .ref v35, .ref v36, .ref v37, .int 0])), (v0, .inl (cA 0, 326, .inl fs))] s.heap.size = A at hD hZ ⊢
  have hA : ∀ q : Nat, s.heap.size ≤ q → A q := fun q h => by rw [← hAe]; exact Or.inr h
  have hS : va_S A s.heap s.heap [] := va_S.rf
  have hP : va_P D vwCl [(w0, .inr (11, [.ref v0, .ref v1, .ref v2, .ref v3, .ref v4, .long 0, .long 0, .int 0, .int th, .ref v9, .int 0, .int 0, .int (-1), .ref v13, .int 0, .int 0, .int 0, .int 0, .int 0, .int 0, .int 0, .int 0, .int 0, .int 0, .int 0, .long 0, .int 0, .ref v27, .ref v28, .ref v29, .ref v30, .ref v31, .ref v32, .ref v33, .ref v34, .ref v35, .ref v36, .ref v37, .int 0])), (v0, .inl (cA 0, 326, .inl fs))] s.heap := hP
  have hl := lv_entry ([.ref w0, .int i, .int j]) (n := 3) (Nat.le_of_ble_eq_true rfl)
  rw [lg_entry_eq]
  generalize (lg_sl ([.ref w0, .int i, .int j]) ++ List.replicate (3 - (lg_sl ([.ref w0, .int i, .int j])).length) Slot.unset).toArray = ls at hl ⊢
  have hl : lv_has ls 3 [(0, .ref w0), (1, .int i), (2, .int j)] := hl
  refine lv_aload_n hx hb dX10_totalOn_0 rfl (lv_at hl 0 rfl) ?_
  refine lv_iload_n hx hb dX10_totalOn_1 rfl (lv_at hl 2 rfl) ?_
  refine lv_i2l (v := (j.toInt64)) hx hb dX10_totalOn_2 rfl ?_
  refine lv_lconst (v := 0) hx hb dX10_totalOn_3 (by decide) ?_
  refine lv_ldc2 (v := 4) hx hb hown (hts (.constantLong RX10 451 4) (by decide +kernel)) dX10_totalOn_4 ?_
  have hPc := hP.sub (ws' := []) [] rfl
  have hDc := hD.sub (ws' := []) [] (by decide) rfl
  have hFc := va_free (wc := []) hD hS hA [] rfl
  refine va_calli (va_runS (As := [.long (j.toInt64), .long 0, .long 4]) (rest := [.ref w0]) ⟨hx, hb, hml, hown, hts⟩ (c_btw_f l D cA sa (j.toInt64) 0 4 s.heap.size (out_l (by decide) (by decide) h)) (va_cwS 3 hts gX10_totalOn_X10_between rfl rfl rfl (by decide +kernel) ⟨(Nat.le_of_ble_eq_true rfl), (Nat.le_of_ble_eq_true rfl)⟩) ⟨Wd.blind, fun U hU hW => ⟨rfl, Wd.call hPc hDc hK hC hZ hS hFc U hU hW⟩⟩ rfl rfl hl.1 rfl (lv_room (Nat.le_of_ble_eq_true rfl)) dX10_totalOn_7 ⟨(Nat.le_of_ble_eq_true rfl), (Nat.le_of_ble_eq_true rfl)⟩) hS (fun q _ h => hFc q h) hFc (fun rn1 u t H1 locs ht hvm hw hB hz1 hk1 hS => ?_)
  obtain ⟨hP1, hD1⟩ := hB
  rw [ht] at hP1
  obtain ⟨hP, hD⟩ := va_join (wr := [(w0, .inr (11, [.ref v0, .ref v1, .ref v2, .ref v3, .ref v4, .long 0, .long 0, .int 0, .int th, .ref v9, .int 0, .int 0, .int (-1), .ref v13, .int 0, .int 0, .int 0, .int 0, .int 0, .int 0, .int 0, .int 0, .int 0, .int 0, .int 0, .long 0, .int 0, .ref v27, .ref v28, .ref v29, .ref v30, .ref v31, .ref v32, .ref v33, .ref v34, .ref v35, .ref v36, .ref v37, .int 0])), (v0, .inl (cA 0, 326, .inl fs))]) (w1 := []) hP hD [] [0, 1] rfl rfl (by decide) (by decide) hk1 hFc hP1 hD1
  generalize H1 = H at hP hS ⊢
  have hP : va_P D vwCl [(w0, .inr (11, [.ref v0, .ref v1, .ref v2, .ref v3, .ref v4, .long 0, .long 0, .int 0, .int th, .ref v9, .int 0, .int 0, .int (-1), .ref v13, .int 0, .int 0, .int 0, .int 0, .int 0, .int 0, .int 0, .int 0, .int 0, .int 0, .int 0, .long 0, .int 0, .ref v27, .ref v28, .ref v29, .ref v30, .ref v31, .ref v32, .ref v33, .ref v34, .ref v35, .ref v36, .ref v37, .int 0])), (v0, .inl (cA 0, 326, .inl fs))] H := hP
  have hD : va_D A [(w0, .inr (11, [.ref v0, .ref v1, .ref v2, .ref v3, .ref v4, .long 0, .long 0, .int 0, .int th, .ref v9, .int 0, .int 0, .int (-1), .ref v13, .int 0, .int 0, .int 0, .int 0, .int 0, .int 0, .int 0, .int 0, .int 0, .int 0, .int 0, .long 0, .int 0, .ref v27, .ref v28, .ref v29, .ref v30, .ref v31, .ref v32, .ref v33, .ref v34, .ref v35, .ref v36, .ref v37, .int 0])), (v0, .inl (cA 0, 326, .inl fs))] := hD
  obtain rfl : rn1 = 0 := hw
  have hPc := hP.sub (ws' := [(w0, .inr (11, [.ref v0, .ref v1, .ref v2, .ref v3, .ref v4, .long 0, .long 0, .int 0, .int th, .ref v9, .int 0, .int 0, .int (-1), .ref v13, .int 0, .int 0, .int 0, .int 0, .int 0, .int 0, .int 0, .int 0, .int 0, .int 0, .int 0, .long 0, .int 0, .ref v27, .ref v28, .ref v29, .ref v30, .ref v31, .ref v32, .ref v33, .ref v34, .ref v35, .ref v36, .ref v37, .int 0]))]) [0] rfl
  have hDc := hD.sub (ws' := [(w0, .inr (11, [.ref v0, .ref v1, .ref v2, .ref v3, .ref v4, .long 0, .long 0, .int 0, .int th, .ref v9, .int 0, .int 0, .int (-1), .ref v13, .int 0, .int 0, .int 0, .int 0, .int 0, .int 0, .int 0, .int 0, .int 0, .int 0, .int 0, .long 0, .int 0, .ref v27, .ref v28, .ref v29, .ref v30, .ref v31, .ref v32, .ref v33, .ref v34, .ref v35, .ref v36, .ref v37, .int 0]))]) [0] (by decide) rfl
  have hFc := va_free (wc := [(w0, .inr (11, [.ref v0, .ref v1, .ref v2, .ref v3, .ref v4, .long 0, .long 0, .int 0, .int th, .ref v9, .int 0, .int 0, .int (-1), .ref v13, .int 0, .int 0, .int 0, .int 0, .int 0, .int 0, .int 0, .int 0, .int 0, .int 0, .int 0, .long 0, .int 0, .ref v27, .ref v28, .ref v29, .ref v30, .ref v31, .ref v32, .ref v33, .ref v34, .ref v35, .ref v36, .ref v37, .int 0]))]) hD hS hA [0] rfl
  refine va_calli (va_runV (As := [.int 0]) (rest := []) ⟨hx, hb, hml, hown, hts⟩ (c_m_good_0 l D cA sa w0 v0 v1 v2 v3 v4 v9 v13 v27 v28 v29 v30 v31 v32 v33 v34 v35 v36 v37 th H.size) (cwV 1 hts gX10_totalOn_X10_good rfl rfl rfl (by decide +kernel) ⟨(Nat.le_of_ble_eq_true rfl), (Nat.le_of_ble_eq_true rfl)⟩) ⟨Wd.blind, va_recv hK hPc (ci := 11) (q0 := 0) rfl rfl, fun U hU hW => ⟨rfl, Wd.call hPc hDc hK hC hZ hS hFc U hU hW⟩⟩ rfl rfl hl.1 rfl (lv_room (Nat.le_of_ble_eq_true rfl)) dX10_totalOn_10 ⟨(Nat.le_of_ble_eq_true rfl), (Nat.le_of_ble_eq_true rfl)⟩) hS (fun q _ h => hFc q h) hFc (fun rn2 u t H1 locs ht hvm hw hB hz1 hk1 hS => ?_)
  obtain ⟨hP1, hD1⟩ := hB
  rw [ht] at hP1
  obtain ⟨hP, hD⟩ := va_join (wr := [(v0, .inl (cA 0, 326, .inl fs))]) (w1 := [(w0, .inr (11, [.ref v0, .ref v1, .ref v2, .ref v3, .ref v4, .long 0, .long 0, .int 0, .int 1, .ref v9, .int 0, .int 0, .int (-1), .ref v13, .int 0, .int 0, .int 0, .int 0, .int 0, .int 0, .int 0, .int 0, .int 0, .int 0, .int 0, .long 0, .int 0, .ref v27, .ref v28, .ref v29, .ref v30, .ref v31, .ref v32, .ref v33, .ref v34, .ref v35, .ref v36, .ref v37, .int 0]))]) hP hD [0] [1] rfl rfl (by decide) (by decide) hk1 hFc hP1 hD1
  generalize H1 = H at hP hS ⊢
  have hP : va_P D vwCl [(v0, .inl (cA 0, 326, .inl fs)), (w0, .inr (11, [.ref v0, .ref v1, .ref v2, .ref v3, .ref v4, .long 0, .long 0, .int 0, .int 1, .ref v9, .int 0, .int 0, .int (-1), .ref v13, .int 0, .int 0, .int 0, .int 0, .int 0, .int 0, .int 0, .int 0, .int 0, .int 0, .int 0, .long 0, .int 0, .ref v27, .ref v28, .ref v29, .ref v30, .ref v31, .ref v32, .ref v33, .ref v34, .ref v35, .ref v36, .ref v37, .int 0]))] H := hP
  have hD : va_D A [(v0, .inl (cA 0, 326, .inl fs)), (w0, .inr (11, [.ref v0, .ref v1, .ref v2, .ref v3, .ref v4, .long 0, .long 0, .int 0, .int 1, .ref v9, .int 0, .int 0, .int (-1), .ref v13, .int 0, .int 0, .int 0, .int 0, .int 0, .int 0, .int 0, .int 0, .int 0, .int 0, .int 0, .long 0, .int 0, .ref v27, .ref v28, .ref v29, .ref v30, .ref v31, .ref v32, .ref v33, .ref v34, .ref v35, .ref v36, .ref v37, .int 0]))] := hD
  obtain rfl : rn2 = 0 := hw
  refine lv_if_eq (tgt := 26) hx hb dX10_totalOn_13 (by decide) (fun c3 => ?_) (fun c9 => absurd c9 (by decide))
  refine lv_iconst (v := 0) hx hb dX10_totalOn_26 (by decide) ?_
  have hP9 := hP.sub (ws' := [(w0, .inr (11, [.ref v0, .ref v1, .ref v2, .ref v3, .ref v4, .long 0, .long 0, .int 0, .int 1, .ref v9, .int 0, .int 0, .int (-1), .ref v13, .int 0, .int 0, .int 0, .int 0, .int 0, .int 0, .int 0, .int 0, .int 0, .int 0, .int 0, .long 0, .int 0, .ref v27, .ref v28, .ref v29, .ref v30, .ref v31, .ref v32, .ref v33, .ref v34, .ref v35, .ref v36, .ref v37, .int 0]))]) [1] rfl
  have hD9 := hD.sub (ws' := [(w0, .inr (11, [.ref v0, .ref v1, .ref v2, .ref v3, .ref v4, .long 0, .long 0, .int 0, .int 1, .ref v9, .int 0, .int 0, .int (-1), .ref v13, .int 0, .int 0, .int 0, .int 0, .int 0, .int 0, .int 0, .int 0, .int 0, .int 0, .int 0, .long 0, .int 0, .ref v27, .ref v28, .ref v29, .ref v30, .ref v31, .ref v32, .ref v33, .ref v34, .ref v35, .ref v36, .ref v37, .int 0]))]) [1] (by decide) rfl
  refine W.widen (k := 0) (n := 0) (Nat.le_of_ble_eq_true rfl) (Nat.le_of_ble_eq_true rfl) ?_
  exact W.iret (v := 0) hx hb hr (fun t ht hW => ⟨⟨0, (), rfl, rfl, by rw [ht]; exact hP9, hD9⟩, hS.F ht⟩) hS.2.2 dX10_totalOn_27
