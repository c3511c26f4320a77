set_option maxHeartbeats 4000000 in
set_option maxRecDepth 100000 in
/-- Ledger.clear -/
theorem s_clear (l : Launch) (D : va_G) (cA : Nat → ClassId) (sa : Nat → Nat) (g0 : Nat) (g1 : Nat) (nx : Nat) (kp : Nat) (sz : Nat) : Met l yX2_clear wsX2_clear ({ frames := 0, cells := 0, slots := 0, locals := 0 }) (va_Pc [.ref g0] (Wd D cA sa [(g0, .inr (6, [.ref g1, .int (nI nx), .int (nI kp)]))] sz)) (va_Qv (fun _ : Unit => True) (fun (_ : Unit) t => Wq D (va_A [(g0, .inr (6, [.ref g1, .int (nI nx), .int (nI kp)]))] sz) [(g0, .inr (6, [.ref g1, .int 0, .int 0]))] t) (va_A [(g0, .inr (6, [.ref g1, .int (nI nx), .int (nI kp)]))] sz)) 0 0 (va_A [(g0, .inr (6, [.ref g1, .int (nI nx), .int (nI kp)]))] sz) := by
  refine Met.ofW (cc := cX2_clear) (maxL := 1) (ret := none) (by decide) rfl ?_
  intro p e s m args below meth c s₁ B hml hv
  obtain ⟨rfl, hsz, hP, hK, hD0, hC, hZ⟩ := hv
  have hx := B.exec
  have hb := B.bytes
  have hr := B.returns
  have hts := atoms_spec (ws := wsX2_clear) B.pre
  have hown : s.vm.findClass RX2 = some m.cls := findClass_of_methodNamed B.named
  have hlocks := B.notSynchronized
  subst hsz
  have hD := hD0.self (sz := s.heap.size)
  generalize hAe : va_A [(g0, .inr (6, [.ref g1, .int (nI nx), .int (nI kp)]))] s.heap.size = A at hD hZ ⊢
  have hA : ∀ q : Nat, s.heap.size ≤ q → A q := fun q h => by rw [← hAe]; exact Or.inr h
  have hS : va_S A s.heap s.heap [] := va_S.rf
  have hP : va_P D vwCl [(g0, .inr (6, [.ref g1, .int (nI nx), .int (nI kp)]))] s.heap := hP
  have hl := lv_entry ([.ref g0]) (n := 1) (Nat.le_of_ble_eq_true rfl)
  rw [lg_entry_eq]
  generalize (lg_sl ([.ref g0]) ++ List.replicate (1 - (lg_sl ([.ref g0])).length) Slot.unset).toArray = ls at hl ⊢
  have hl : lv_has ls 1 [(0, .ref g0)] := hl
  have inX2 : ∀ w ∈ u_ws RX2 TX2 3, w ∈ wsX2_clear := by decide +kernel
  refine lv_aload_n hx hb dX2_clear_0 rfl (lv_at hl 0 rfl) ?_
  refine lv_iconst (v := 0) hx hb dX2_clear_1 (by decide) ?_
  refine va_put (D := D) (ci := 6) (v := .int 0) (ty := .int) (C := RX2) (T := TX2) (N := 3) hx hb hts inX2 tyX2 tyX2_ok nmX2 hown hK hP hD hS 0 rfl rfl 1 (by decide) (hts (.fieldLink RX2 15 "EscrowDesk$Ledger" "next" "I") (by decide +kernel)) (fun _ h9 => h9) rfl (by decide +kernel) rfl rfl (Nat.le_of_ble_eq_true rfl) dX2_clear_2 (fun H locs hP hD hS => ?_)
  obtain ⟨hP, hD⟩ : PDq D A [(g0, .inr (6, [.ref g1, .int 0, .int (nI kp)]))] H := ⟨hP, hD⟩
  refine lv_aload_n hx hb dX2_clear_5 rfl (lv_at hl 0 rfl) ?_
  refine lv_iconst (v := 0) hx hb dX2_clear_6 (by decide) ?_
  refine va_put (D := D) (ci := 6) (v := .int 0) (ty := .int) (C := RX2) (T := TX2) (N := 3) hx hb hts inX2 tyX2 tyX2_ok nmX2 hown hK hP hD hS 0 rfl rfl 2 (by decide) (hts (.fieldLink RX2 19 "EscrowDesk$Ledger" "kept" "I") (by decide +kernel)) (fun _ h9 => h9) rfl (by decide +kernel) rfl rfl (Nat.le_of_ble_eq_true rfl) dX2_clear_7 (fun H locs hP hD hS => ?_)
  obtain ⟨hP, hD⟩ : PDq D A [(g0, .inr (6, [.ref g1, .int 0, .int 0]))] H := ⟨hP, hD⟩
  obtain ⟨hP9, hD9⟩ := PDq.sub (ws' := [(g0, .inr (6, [.ref g1, .int 0, .int 0]))]) hP hD [0] (by decide) rfl
  refine W.widen (k := 0) (n := 0) (Nat.le_of_ble_eq_true rfl) (Nat.le_of_ble_eq_true rfl) ?_
  exact (W.vret hx hb hr (fun t ht hW => ⟨⟨(), rfl, trivial, by rw [ht]; exact hP9, hD9⟩, hS.F ht⟩) hS.2.2 dX2_clear_10)

set_option maxHeartbeats 4000000 in
set_option maxRecDepth 100000 in
/-- Ledger.copyFrom -/
theorem s_lcopy (l : Launch) (D : va_G) (cA : Nat → ClassId) (sa : Nat → Nat) (g0 : Nat) (g1 : Nat) (nx : Nat) (kp : Nat) (j0 : Nat) (j1 : Nat) (ny : Nat) (ky : Nat) (fr : Nat → Int32) (fq : Nat → Int32) (sz : Nat) : Met l yX2_copyFrom wsX2_copyFrom ({ frames := 1, cells := 0, slots := 0, locals := 60 }) (va_Pc [.ref g0, .ref j0] (Wd D cA sa [(g0, .inr (6, [.ref g1, .int (nI nx), .int (nI kp)])), (g1, .inl (cA 0, 240, .inl fr)), (j0, .inr (6, [.ref j1, .int (nI ny), .int (nI ky)])), (j1, .inl (cA 0, 240, .inl fq))] sz)) (va_Qv (fun _ : Unit => True) (fun (_ : Unit) t => ∃ fz : Nat → Int32, Wq D (va_A [(g0, .inr (6, [.ref g1, .int (nI nx), .int (nI kp)])), (g1, .inl (cA 0, 240, .inl fr)), (j0, .inr (6, [.ref j1, .int (nI ny), .int (nI ky)])), (j1, .inl (cA 0, 240, .inl fq))] sz) [(g0, .inr (6, [.ref g1, .int (nI ny), .int (nI ky)])), (g1, .inl (cA 0, 240, .inl fz)), (j0, .inr (6, [.ref j1, .int (nI ny), .int (nI ky)])), (j1, .inl (cA 0, 240, .inl fq))] t) (va_A [(g0, .inr (6, [.ref g1, .int (nI nx), .int (nI kp)])), (g1, .inl (cA 0, 240, .inl fr)), (j0, .inr (6, [.ref j1, .int (nI ny), .int (nI ky)])), (j1, .inl (cA 0, 240, .inl fq))] sz)) 0 0 (va_A [(g0, .inr (6, [.ref g1, .int (nI nx), .int (nI kp)])), (g1, .inl (cA 0, 240, .inl fr)), (j0, .inr (6, [.ref j1, .int (nI ny), .int (nI ky)])), (j1, .inl (cA 0, 240, .inl fq))] sz) := by
  refine Met.ofW (cc := cX2_copyFrom) (maxL := 2) (ret := none) (by decide) rfl ?_
  intro p e s m args below meth c s₁ B hml hv
  obtain ⟨rfl, hsz, hP, hK, hD0, hC, hZ⟩ := hv
  have hx := B.exec
  have hb := B.bytes
  have hr := B.returns
  have hts := atoms_spec (ws := wsX2_copyFrom) B.pre
  have hown : s.vm.findClass RX2 = some m.cls := findClass_of_methodNamed B.named
  have hlocks := B.notSynchronized
  subst hsz
  have hD := hD0.self (sz := s.heap.size)
  generalize hAe : va_A [(g0, .inr (6, [.ref g1, .int (nI nx), .int (nI kp)])), (g1, .inl (cA 0, 240, .inl fr)), (j0, .inr (6, [.ref j1, .int (nI ny), .int (nI ky)])), (j1, .inl (cA 0, 240, .inl fq))] s.heap.size = A at hD hZ ⊢
  have hA : ∀ q : Nat, s.heap.size ≤ q → A q := fun q h => by rw [← hAe]; exact Or.inr h
  have hS : va_S A s.heap s.heap [] := va_S.rf
  have hP : va_P D vwCl [(g0, .inr (6, [.ref g1, .int (nI nx), .int (nI kp)])), (g1, .inl (cA 0, 240, .inl fr)), (j0, .inr (6, [.ref j1, .int (nI ny), .int (nI ky)])), (j1, .inl (cA 0, 240, .inl fq))] s.heap := hP
  have hl := lv_entry ([.ref g0, .ref j0]) (n := 2) (Nat.le_of_ble_eq_true rfl)
  rw [lg_entry_eq]
  generalize (lg_sl ([.ref g0, .ref j0]) ++ List.replicate (2 - (lg_sl ([.ref g0, .ref j0])).length) Slot.unset).toArray = ls at hl ⊢
  have hl : lv_has ls 2 [(0, .ref g0), (1, .ref j0)] := hl
  have inX2 : ∀ w ∈ u_ws RX2 TX2 3, w ∈ wsX2_copyFrom := by decide +kernel
  refine lv_aload_n hx hb dX2_copyFrom_0 rfl (lv_at hl 1 rfl) ?_
  refine va_get (D := D) (ci := 6) (v := .ref j1) (C := RX2) (T := TX2) (N := 3) hx hb hts inX2 hown hK hP 2 rfl rfl 0 (by decide) (hts (.fieldLink RX2 11 "EscrowDesk$Ledger" "ring" "[I") (by decide +kernel)) (fun _ h9 => h9) rfl dX2_copyFrom_1 ?_
  refine lv_iconst (v := 0) hx hb dX2_copyFrom_4 (by decide) ?_
  refine lv_aload_n hx hb dX2_copyFrom_5 rfl (lv_at hl 0 rfl) ?_
  refine va_get (D := D) (ci := 6) (v := .ref g1) (C := RX2) (T := TX2) (N := 3) hx hb hts inX2 hown hK hP 0 rfl rfl 0 (by decide) (hts (.fieldLink RX2 11 "EscrowDesk$Ledger" "ring" "[I") (by decide +kernel)) (fun _ h9 => h9) rfl dX2_copyFrom_6 ?_
  refine lv_iconst (v := 0) hx hb dX2_copyFrom_9 (by decide) ?_
  refine lv_aload_n hx hb dX2_copyFrom_10 rfl (lv_at hl 0 rfl) ?_
  refine va_get (D := D) (ci := 6) (v := .ref g1) (C := RX2) (T := TX2) (N := 3) hx hb hts inX2 hown hK hP 0 rfl rfl 0 (by decide) (hts (.fieldLink RX2 11 "EscrowDesk$Ledger" "ring" "[I") (by decide +kernel)) (fun _ h9 => h9) rfl dX2_copyFrom_11 ?_
  refine va_alen (v := 240) hx hb hK hP 1 0 rfl rfl rfl dX2_copyFrom_14 ?_
  refine va_copyi hx hb (by rw [hml]; exact hl.1.symm) hown (hts (.methodLink RX2 22 arraycopyName) (by decide +kernel)) (hts (.native arraycopyName) (by decide +kernel)) (hts (.static arraycopyName) (by decide +kernel)) (hts (.initialized "java/lang/System") (by decide +kernel)) hK hP hD hS 3 1 0 0 rfl rfl rfl rfl rfl (by decide) (by decide) (by decide) (by decide +kernel) (by decide +kernel) (fun _ _ => rfl) (Nat.le_of_ble_eq_true rfl) (Nat.le_of_ble_eq_true rfl) dX2_copyFrom_15 (fun H locs hP hD hS => ?_)
  obtain ⟨hP, hD⟩ : PDq D A [(g0, .inr (6, [.ref g1, .int (nI nx), .int (nI kp)])), (g1, .inl (cA 0, 240, .inl (va_cpy fq fr 0 0 240))), (j0, .inr (6, [.ref j1, .int (nI ny), .int (nI ky)])), (j1, .inl (cA 0, 240, .inl fq))] H := ⟨hP, hD⟩
  generalize (va_cpy fq fr 0 0 240) = fn1 at hP hD
  obtain ⟨hP, hD⟩ : PDq D A [(g0, .inr (6, [.ref g1, .int (nI nx), .int (nI kp)])), (g1, .inl (cA 0, 240, .inl fn1)), (j0, .inr (6, [.ref j1, .int (nI ny), .int (nI ky)])), (j1, .inl (cA 0, 240, .inl fq))] H := ⟨hP, hD⟩
  refine lv_aload_n hx hb dX2_copyFrom_18 rfl (lv_at hl 0 rfl) ?_
  refine lv_aload_n hx hb dX2_copyFrom_19 rfl (lv_at hl 1 rfl) ?_
  refine va_get (D := D) (ci := 6) (v := .int (nI ny)) (C := RX2) (T := TX2) (N := 3) hx hb hts inX2 hown hK hP 2 rfl rfl 1 (by decide) (hts (.fieldLink RX2 15 "EscrowDesk$Ledger" "next" "I") (by decide +kernel)) (fun _ h9 => h9) rfl dX2_copyFrom_20 ?_
  refine va_put (D := D) (ci := 6) (v := .int (nI ny)) (ty := .int) (C := RX2) (T := TX2) (N := 3) hx hb hts inX2 tyX2 tyX2_ok nmX2 hown hK hP hD hS 0 rfl rfl 1 (by decide) (hts (.fieldLink RX2 15 "EscrowDesk$Ledger" "next" "I") (by decide +kernel)) (fun _ h9 => h9) rfl (by decide +kernel) rfl rfl (Nat.le_of_ble_eq_true rfl) dX2_copyFrom_23 (fun H locs hP hD hS => ?_)
  obtain ⟨hP, hD⟩ : PDq D A [(g0, .inr (6, [.ref g1, .int (nI ny), .int (nI kp)])), (g1, .inl (cA 0, 240, .inl fn1)), (j0, .inr (6, [.ref j1, .int (nI ny), .int (nI ky)])), (j1, .inl (cA 0, 240, .inl fq))] H := ⟨hP, hD⟩
  refine lv_aload_n hx hb dX2_copyFrom_26 rfl (lv_at hl 0 rfl) ?_
  refine lv_aload_n hx hb dX2_copyFrom_27 rfl (lv_at hl 1 rfl) ?_
  refine va_get (D := D) (ci := 6) (v := .int (nI ky)) (C := RX2) (T := TX2) (N := 3) hx hb hts inX2 hown hK hP 2 rfl rfl 2 (by decide) (hts (.fieldLink RX2 19 "EscrowDesk$Ledger" "kept" "I") (by decide +kernel)) (fun _ h9 => h9) rfl dX2_copyFrom_28 ?_
  refine va_put (D := D) (ci := 6) (v := .int (nI ky)) (ty := .int) (C := RX2) (T := TX2) (N := 3) hx hb hts inX2 tyX2 tyX2_ok nmX2 hown hK hP hD hS 0 rfl rfl 2 (by decide) (hts (.fieldLink RX2 19 "EscrowDesk$Ledger" "kept" "I") (by decide +kernel)) (fun _ h9 => h9) rfl (by decide +kernel) rfl rfl (Nat.le_of_ble_eq_true rfl) dX2_copyFrom_31 (fun H locs hP hD hS => ?_)
  obtain ⟨hP, hD⟩ : PDq D A [(g0, .inr (6, [.ref g1, .int (nI ny), .int (nI ky)])), (g1, .inl (cA 0, 240, .inl fn1)), (j0, .inr (6, [.ref j1, .int (nI ny), .int (nI ky)])), (j1, .inl (cA 0, 240, .inl fq))] H := ⟨hP, hD⟩
  obtain ⟨hP9, hD9⟩ := PDq.sub (ws' := [(g0, .inr (6, [.ref g1, .int (nI ny), .int (nI ky)])), (g1, .inl (cA 0, 240, .inl fn1)), (j0, .inr (6, [.ref j1, .int (nI ny), .int (nI ky)])), (j1, .inl (cA 0, 240, .inl fq))]) hP hD [0, 1, 2, 3] (by decide) rfl
  refine W.widen (k := 0) (n := 0) (Nat.le_of_ble_eq_true rfl) (Nat.le_of_ble_eq_true rfl) ?_
  exact (W.vret hx hb hr (fun t ht hW => ⟨⟨(), rfl, trivial, fn1, by rw [ht]; exact hP9, hD9⟩, hS.F ht⟩) hS.2.2 dX2_copyFrom_34)

set_option maxHeartbeats 4000000 in
set_option maxRecDepth 100000 in
/-- Ledger.enter -/
theorem s_enter (l : Launch) (D : va_G) (cA : Nat → ClassId) (sa : Nat → Nat) (g0 : Nat) (g1 : Nat) (nx : Nat) (kp : Nat) (k : Int32) (d : Int32) (a : Int32) (j : Int32) (fr : Nat → Int32) (sz : Nat) (hnx : nx < 60) (hkp : kp ≤ 60) : Met l yX2_enter wsX2_enter ({ frames := 1, cells := 0, slots := 0, locals := 21 }) (va_Pc [.ref g0, .int k, .int d, .int a, .int j] (Wd D cA sa [(g0, .inr (6, [.ref g1, .int (nI nx), .int (nI kp)])), (g1, .inl (cA 0, 240, .inl fr))] sz)) (va_Qv (fun _ : Unit => True) (fun (_ : Unit) t => ∃ ny : Nat, ∃ ky : Nat, ∃ fz : Nat → Int32, ny < 60 ∧ ky ≤ 60 ∧ Wq D (va_A [(g0, .inr (6, [.ref g1, .int (nI nx), .int (nI kp)])), (g1, .inl (cA 0, 240, .inl fr))] sz) [(g0, .inr (6, [.ref g1, .int (nI ny), .int (nI ky)])), (g1, .inl (cA 0, 240, .inl fz))] t) (va_A [(g0, .inr (6, [.ref g1, .int (nI nx), .int (nI kp)])), (g1, .inl (cA 0, 240, .inl fr))] sz)) 0 0 (va_A [(g0, .inr (6, [.ref g1, .int (nI nx), .int (nI kp)])), (g1, .inl (cA 0, 240, .inl fr))] sz) := by
  refine Met.ofW (cc := cX2_enter) (maxL := 6) (ret := none) (by decide) rfl ?_
  intro p e s m args below meth c s₁ B hml hv
  obtain ⟨rfl, hsz, hP, hK, hD0, hC, hZ⟩ := hv
  have hx := B.exec
  have hb := B.bytes
  have hr := B.returns
  have hts := atoms_spec (ws := wsX2_enter) B.pre
  have hown : s.vm.findClass RX2 = some m.cls := findClass_of_methodNamed B.named
  have hlocks := B.notSynchronized
  subst hsz
  have hD := hD0.self (sz := s.heap.size)
  generalize hAe : va_A [(g0, .inr (6, [.ref g1, .int (nI nx), .int (nI kp)])), (g1, .inl (cA 0, 240, .inl fr))] s.heap.size = A at hD hZ ⊢
  have hA : ∀ q : Nat, s.heap.size ≤ q → A q := fun q h => by rw [← hAe]; exact Or.inr h
  have hS : va_S A s.heap s.heap [] := va_S.rf
  have hP : va_P D vwCl [(g0, .inr (6, [.ref g1, .int (nI nx), .int (nI kp)])), (g1, .inl (cA 0, 240, .inl fr))] s.heap := hP
  have hl := lv_entry ([.ref g0, .int k, .int d, .int a, .int j]) (n := 6) (Nat.le_of_ble_eq_true rfl)
  rw [lg_entry_eq]
  generalize (lg_sl ([.ref g0, .int k, .int d, .int a, .int j]) ++ List.replicate (6 - (lg_sl ([.ref g0, .int k, .int d, .int a, .int j])).length) Slot.unset).toArray = ls at hl ⊢
  have hl : lv_has ls 6 [(0, .ref g0), (1, .int k), (2, .int d), (3, .int a), (4, .int j)] := hl
  have inX2 : ∀ w ∈ u_ws RX2 TX2 3, w ∈ wsX2_enter := by decide +kernel
  refine lv_iload_n hx hb dX2_enter_0 rfl (lv_at hl 3 rfl) ?_
  refine lv_if_gt (tgt := 5) hx hb dX2_enter_1 (by decide) (fun c1 => ?_) (fun c1 => ?_)
  · skip
    refine lv_aload_n hx hb dX2_enter_5 rfl (lv_at hl 0 rfl) ?_
    refine va_get (D := D) (ci := 6) (v := .int (nI nx)) (C := RX2) (T := TX2) (N := 3) hx hb hts inX2 hown hK hP 0 rfl rfl 1 (by decide) (hts (.fieldLink RX2 15 "EscrowDesk$Ledger" "next" "I") (by decide +kernel)) (fun _ h9 => h9) rfl dX2_enter_6 ?_
    refine lv_iconst (v := 4) hx hb dX2_enter_9 (by decide) ?_
    refine lv_imul hx hb dX2_enter_10 ?_
    refine lv_topi (fun yn2 eyn2 => ?_)
    obtain rfl : yn2 = (nI (nx * 4)) := eyn2.trans (nI_mul nx 4)
    refine lv_istore (lv' := [(5, .int (nI (nx * 4))), (0, .ref g0), (1, .int k), (2, .int d), (3, .int a), (4, .int j)]) hx hb dX2_enter_11 hl (by decide) rfl (fun ls hl => ?_)
    refine lv_aload_n hx hb dX2_enter_13 rfl (lv_at hl 1 rfl) ?_
    refine va_get (D := D) (ci := 6) (v := .ref g1) (C := RX2) (T := TX2) (N := 3) hx hb hts inX2 hown hK hP 0 rfl rfl 0 (by decide) (hts (.fieldLink RX2 11 "EscrowDesk$Ledger" "ring" "[I") (by decide +kernel)) (fun _ h9 => h9) rfl dX2_enter_14 ?_
    refine lv_iload hx hb dX2_enter_17 (lv_at hl 0 rfl) ?_
    refine lv_iconst (v := 0) hx hb dX2_enter_19 (by decide) ?_
    refine lv_iadd hx hb dX2_enter_20 ?_
    refine lv_topi (fun yn3 eyn3 => ?_)
    obtain rfl : yn3 = (nI ((nx * 4) + 0)) := eyn3.trans (nI_add (nx * 4) 0)
    refine lv_iload_n hx hb dX2_enter_21 rfl (lv_at hl 2 rfl) ?_
    refine va_iast hx hb hK hP hD hS 1 0 rfl rfl (vp_in_nI (n := ((nx * 4) + 0)) (N := 240) (show ((nx * 4) + 0) < 240 by omega) (by decide)) dX2_enter_22 (fun H locs hP hD hS => ?_)
    obtain ⟨hP, hD⟩ : PDq D A [(g0, .inr (6, [.ref g1, .int (nI nx), .int (nI kp)])), (g1, .inl (cA 0, 240, .inl (upd fr (((nI ((nx * 4) + 0))).toNatClampNeg) k)))] H := ⟨hP, hD⟩
    generalize (upd fr (((nI ((nx * 4) + 0))).toNatClampNeg) k) = fn4 at hP hD
    obtain ⟨hP, hD⟩ : PDq D A [(g0, .inr (6, [.ref g1, .int (nI nx), .int (nI kp)])), (g1, .inl (cA 0, 240, .inl fn4))] H := ⟨hP, hD⟩
    refine lv_aload_n hx hb dX2_enter_23 rfl (lv_at hl 1 rfl) ?_
    refine va_get (D := D) (ci := 6) (v := .ref g1) (C := RX2) (T := TX2) (N := 3) hx hb hts inX2 hown hK hP 0 rfl rfl 0 (by decide) (hts (.fieldLink RX2 11 "EscrowDesk$Ledger" "ring" "[I") (by decide +kernel)) (fun _ h9 => h9) rfl dX2_enter_24 ?_
    refine lv_iload hx hb dX2_enter_27 (lv_at hl 0 rfl) ?_
    refine lv_iconst (v := 1) hx hb dX2_enter_29 (by decide) ?_
    refine lv_iadd hx hb dX2_enter_30 ?_
    refine lv_topi (fun yn5 eyn5 => ?_)
    obtain rfl : yn5 = (nI ((nx * 4) + 1)) := eyn5.trans (nI_add (nx * 4) 1)
    refine lv_iload_n hx hb dX2_enter_31 rfl (lv_at hl 3 rfl) ?_
    refine va_iast hx hb hK hP hD hS 1 0 rfl rfl (vp_in_nI (n := ((nx * 4) + 1)) (N := 240) (show ((nx * 4) + 1) < 240 by omega) (by decide)) dX2_enter_32 (fun H locs hP hD hS => ?_)
    obtain ⟨hP, hD⟩ : PDq D A [(g0, .inr (6, [.ref g1, .int (nI nx), .int (nI kp)])), (g1, .inl (cA 0, 240, .inl (upd fn4 (((nI ((nx * 4) + 1))).toNatClampNeg) d)))] H := ⟨hP, hD⟩
    generalize (upd fn4 (((nI ((nx * 4) + 1))).toNatClampNeg) d) = fn6 at hP hD
    obtain ⟨hP, hD⟩ : PDq D A [(g0, .inr (6, [.ref g1, .int (nI nx), .int (nI kp)])), (g1, .inl (cA 0, 240, .inl fn6))] H := ⟨hP, hD⟩
    refine lv_aload_n hx hb dX2_enter_33 rfl (lv_at hl 1 rfl) ?_
    refine va_get (D := D) (ci := 6) (v := .ref g1) (C := RX2) (T := TX2) (N := 3) hx hb hts inX2 hown hK hP 0 rfl rfl 0 (by decide) (hts (.fieldLink RX2 11 "EscrowDesk$Ledger" "ring" "[I") (by decide +kernel)) (fun _ h9 => h9) rfl dX2_enter_34 ?_
    refine lv_iload hx hb dX2_enter_37 (lv_at hl 0 rfl) ?_
    refine lv_iconst (v := 2) hx hb dX2_enter_39 (by decide) ?_
    refine lv_iadd hx hb dX2_enter_40 ?_
    refine lv_topi (fun yn7 eyn7 => ?_)
    obtain rfl : yn7 = (nI ((nx * 4) + 2)) := eyn7.trans (nI_add (nx * 4) 2)
    refine lv_iload_n hx hb dX2_enter_41 rfl (lv_at hl 4 rfl) ?_
    refine va_iast hx hb hK hP hD hS 1 0 rfl rfl (vp_in_nI (n := ((nx * 4) + 2)) (N := 240) (show ((nx * 4) + 2) < 240 by omega) (by decide)) dX2_enter_42 (fun H locs hP hD hS => ?_)
    obtain ⟨hP, hD⟩ : PDq D A [(g0, .inr (6, [.ref g1, .int (nI nx), .int (nI kp)])), (g1, .inl (cA 0, 240, .inl (upd fn6 (((nI ((nx * 4) + 2))).toNatClampNeg) a)))] H := ⟨hP, hD⟩
    generalize (upd fn6 (((nI ((nx * 4) + 2))).toNatClampNeg) a) = fn8 at hP hD
    obtain ⟨hP, hD⟩ : PDq D A [(g0, .inr (6, [.ref g1, .int (nI nx), .int (nI kp)])), (g1, .inl (cA 0, 240, .inl fn8))] H := ⟨hP, hD⟩
    refine lv_aload_n hx hb dX2_enter_43 rfl (lv_at hl 1 rfl) ?_
    refine va_get (D := D) (ci := 6) (v := .ref g1) (C := RX2) (T := TX2) (N := 3) hx hb hts inX2 hown hK hP 0 rfl rfl 0 (by decide) (hts (.fieldLink RX2 11 "EscrowDesk$Ledger" "ring" "[I") (by decide +kernel)) (fun _ h9 => h9) rfl dX2_enter_44 ?_
    refine lv_iload hx hb dX2_enter_47 (lv_at hl 0 rfl) ?_
    refine lv_iconst (v := 3) hx hb dX2_enter_49 (by decide) ?_
    refine lv_iadd hx hb dX2_enter_50 ?_
    refine lv_topi (fun yn9 eyn9 => ?_)
    obtain rfl : yn9 = (nI ((nx * 4) + 3)) := eyn9.trans (nI_add (nx * 4) 3)
    refine lv_iload hx hb dX2_enter_51 (lv_at hl 5 rfl) ?_
    refine va_iast hx hb hK hP hD hS 1 0 rfl rfl (vp_in_nI (n := ((nx * 4) + 3)) (N := 240) (show ((nx * 4) + 3) < 240 by omega) (by decide)) dX2_enter_53 (fun H locs hP hD hS => ?_)
    obtain ⟨hP, hD⟩ : PDq D A [(g0, .inr (6, [.ref g1, .int (nI nx), .int (nI kp)])), (g1, .inl (cA 0, 240, .inl (upd fn8 (((nI ((nx * 4) + 3))).toNatClampNeg) j)))] H := ⟨hP, hD⟩
    generalize (upd fn8 (((nI ((nx * 4) + 3))).toNatClampNeg) j) = fn10 at hP hD
    obtain ⟨hP, hD⟩ : PDq D A [(g0, .inr (6, [.ref g1, .int (nI nx), .int (nI kp)])), (g1, .inl (cA 0, 240, .inl fn10))] H := ⟨hP, hD⟩
    refine lv_aload_n hx hb dX2_enter_54 rfl (lv_at hl 1 rfl) ?_
    refine lv_aload_n hx hb dX2_enter_55 rfl (lv_at hl 1 rfl) ?_
    refine va_get (D := D) (ci := 6) (v := .int (nI nx)) (C := RX2) (T := TX2) (N := 3) hx hb hts inX2 hown hK hP 0 rfl rfl 1 (by decide) (hts (.fieldLink RX2 15 "EscrowDesk$Ledger" "next" "I") (by decide +kernel)) (fun _ h9 => h9) rfl dX2_enter_56 ?_
    refine lv_iconst (v := 1) hx hb dX2_enter_59 (by decide) ?_
    refine lv_iadd hx hb dX2_enter_60 ?_
    refine lv_topi (fun yn11 eyn11 => ?_)
    obtain rfl : yn11 = (nI (nx + 1)) := eyn11.trans (nI_add nx 1)
    refine lv_bipush (v := 60) hx hb dX2_enter_61 (by decide) ?_
    refine lv_irem hx hb dX2_enter_63 (by decide) ?_
    refine lv_topi (fun yn12 eyn12 => ?_)
    obtain rfl : yn12 = (nI ((nx + 1) % 60)) := eyn12.trans (nI_rem (a := (nx + 1)) (b := 60) (by omega) (by decide) (by decide))
    refine va_put (D := D) (ci := 6) (v := .int (nI ((nx + 1) % 60))) (ty := .int) (C := RX2) (T := TX2) (N := 3) hx hb hts inX2 tyX2 tyX2_ok nmX2 hown hK hP hD hS 0 rfl rfl 1 (by decide) (hts (.fieldLink RX2 15 "EscrowDesk$Ledger" "next" "I") (by decide +kernel)) (fun _ h9 => h9) rfl (by decide +kernel) rfl rfl (Nat.le_of_ble_eq_true rfl) dX2_enter_64 (fun H locs hP hD hS => ?_)
    obtain ⟨hP, hD⟩ : PDq D A [(g0, .inr (6, [.ref g1, .int (nI ((nx + 1) % 60)), .int (nI kp)])), (g1, .inl (cA 0, 240, .inl fn10))] H := ⟨hP, hD⟩
    refine lv_aload_n hx hb dX2_enter_67 rfl (lv_at hl 1 rfl) ?_
    refine lv_aload_n hx hb dX2_enter_68 rfl (lv_at hl 1 rfl) ?_
    refine va_get (D := D) (ci := 6) (v := .int (nI kp)) (C := RX2) (T := TX2) (N := 3) hx hb hts inX2 hown hK hP 0 rfl rfl 2 (by decide) (hts (.fieldLink RX2 19 "EscrowDesk$Ledger" "kept" "I") (by decide +kernel)) (fun _ h9 => h9) rfl dX2_enter_69 ?_
    refine lv_iconst (v := 1) hx hb dX2_enter_72 (by decide) ?_
    refine lv_iadd hx hb dX2_enter_73 ?_
    refine lv_topi (fun yn13 eyn13 => ?_)
    obtain rfl : yn13 = (nI (kp + 1)) := eyn13.trans (nI_add kp 1)
    refine lv_bipush (v := 60) hx hb dX2_enter_74 (by decide) ?_
    refine va_mmin hx hb (by rw [hml]; exact hl.1.symm) hown (hts (.methodLink RX2 28 Lib.Math.min.name) (by decide +kernel)) (hts (.static Lib.Math.min.name) (by decide +kernel)) (hts (.initialized "java/lang/Math") (by decide +kernel)) (hts (.code Lib.Math.min.name Lib.Math.min.code 2 (some .int)) (by decide +kernel)) (Nat.le_of_ble_eq_true rfl) (Nat.le_of_ble_eq_true rfl) (Nat.le_of_ble_eq_true rfl) (Nat.le_of_ble_eq_true rfl) dX2_enter_76 ?_
    refine lv_topi (fun yn14 eyn14 => ?_)
    obtain rfl : yn14 = (nI (min (kp + 1) 60)) := eyn14.trans (nI_min (a := (kp + 1)) (b := 60) (by omega) (by omega))
    refine va_put (D := D) (ci := 6) (v := .int (nI (min (kp + 1) 60))) (ty := .int) (C := RX2) (T := TX2) (N := 3) hx hb hts inX2 tyX2 tyX2_ok nmX2 hown hK hP hD hS 0 rfl rfl 2 (by decide) (hts (.fieldLink RX2 19 "EscrowDesk$Ledger" "kept" "I") (by decide +kernel)) (fun _ h9 => h9) rfl (by decide +kernel) rfl rfl (Nat.le_of_ble_eq_true rfl) dX2_enter_79 (fun H locs hP hD hS => ?_)
    obtain ⟨hP, hD⟩ : PDq D A [(g0, .inr (6, [.ref g1, .int (nI ((nx + 1) % 60)), .int (nI (min (kp + 1) 60))])), (g1, .inl (cA 0, 240, .inl fn10))] H := ⟨hP, hD⟩
    obtain ⟨hP9, hD9⟩ := PDq.sub (ws' := [(g0, .inr (6, [.ref g1, .int (nI ((nx + 1) % 60)), .int (nI (min (kp + 1) 60))])), (g1, .inl (cA 0, 240, .inl fn10))]) hP hD [0, 1] (by decide) rfl
    refine W.widen (k := 0) (n := 0) (Nat.le_of_ble_eq_true rfl) (Nat.le_of_ble_eq_true rfl) ?_
    exact (W.vret hx hb hr (fun t ht hW => ⟨⟨(), rfl, trivial, ((nx + 1) % 60), (min (kp + 1) 60), fn10, (by omega), (by omega), by rw [ht]; exact hP9, hD9⟩, hS.F ht⟩) hS.2.2 dX2_enter_82)
  · skip
    obtain ⟨hP9, hD9⟩ := PDq.sub (ws' := [(g0, .inr (6, [.ref g1, .int (nI nx), .int (nI kp)])), (g1, .inl (cA 0, 240, .inl fr))]) hP hD [0, 1] (by decide) rfl
    refine W.widen (k := 0) (n := 0) (Nat.le_of_ble_eq_true rfl) (Nat.le_of_ble_eq_true rfl) ?_
    exact (W.vret hx hb hr (fun t ht hW => ⟨⟨(), rfl, trivial, nx, kp, fr, hnx, hkp, by rw [ht]; exact hP9, hD9⟩, hS.F ht⟩) hS.2.2 dX2_enter_4)

set_option maxHeartbeats 4000000 in
set_option maxRecDepth 100000 in
/-- Ledger.partOfEntry -/
theorem s_part (l : Launch) (D : va_G) (cA : Nat → ClassId) (sa : Nat → Nat) (g0 : Nat) (g1 : Nat) (nx : Nat) (kp : Nat) (ei : Nat) (w : Nat) (fr : Nat → Int32) (sz : Nat) (hnx : nx < 60) (hkp : kp ≤ 60) (he : ei < kp) (hw4 : w < 4) : Met l yX2_partOfEntry wsX2_partOfEntry ({ frames := 0, cells := 0, slots := 0, locals := 0 }) (va_Pc [.ref g0, .int (nI ei), .int (nI w)] (Wd D cA sa [(g0, .inr (6, [.ref g1, .int (nI nx), .int (nI kp)])), (g1, .inl (cA 0, 240, .inl fr))] sz)) (va_Qi (fun (r : Int32) (_ : Unit) => True) (fun (_ : Unit) t => Wq D (va_A [(g0, .inr (6, [.ref g1, .int (nI nx), .int (nI kp)])), (g1, .inl (cA 0, 240, .inl fr))] sz) [(g0, .inr (6, [.ref g1, .int (nI nx), .int (nI kp)])), (g1, .inl (cA 0, 240, .inl fr))] t) (va_A [(g0, .inr (6, [.ref g1, .int (nI nx), .int (nI kp)])), (g1, .inl (cA 0, 240, .inl fr))] sz)) 0 0 (va_A [(g0, .inr (6, [.ref g1, .int (nI nx), .int (nI kp)])), (g1, .inl (cA 0, 240, .inl fr))] sz) := by
  refine Met.ofW (cc := cX2_partOfEntry) (maxL := 4) (ret := (some .int)) (by decide) rfl ?_
  intro p e s m args below meth c s₁ B hml hv
  obtain ⟨rfl, hsz, hP, hK, hD0, hC, hZ⟩ := hv
  have hx := B.exec
  have hb := B.bytes
  have hr := B.returns
  have hts := atoms_spec (ws := wsX2_partOfEntry) B.pre
  have hown : s.vm.findClass RX2 = some m.cls := findClass_of_methodNamed B.named
  have hlocks := B.notSynchronized
  subst hsz
  have hD := hD0.self (sz := s.heap.size)
  generalize hAe : va_A [(g0, .inr (6, [.ref g1, .int (nI nx), .int (nI kp)])), (g1, .inl (cA 0, 240, .inl fr))] s.heap.size = A at hD hZ ⊢
  have hA : ∀ q : Nat, s.heap.size ≤ q → A q := fun q h => by rw [← hAe]; exact Or.inr h
  have hS : va_S A s.heap s.heap [] := va_S.rf
  have hP : va_P D vwCl [(g0, .inr (6, [.ref g1, .int (nI nx), .int (nI kp)])), (g1, .inl (cA 0, 240, .inl fr))] s.heap := hP
  have hl := lv_entry ([.ref g0, .int (nI ei), .int (nI w)]) (n := 4) (Nat.le_of_ble_eq_true rfl)
  rw [lg_entry_eq]
  generalize (lg_sl ([.ref g0, .int (nI ei), .int (nI w)]) ++ List.replicate (4 - (lg_sl ([.ref g0, .int (nI ei), .int (nI w)])).length) Slot.unset).toArray = ls at hl ⊢
  have hl : lv_has ls 4 [(0, .ref g0), (1, .int (nI ei)), (2, .int (nI w))] := hl
  have inX2 : ∀ w ∈ u_ws RX2 TX2 3, w ∈ wsX2_partOfEntry := by decide +kernel
  refine lv_aload_n hx hb dX2_partOfEntry_0 rfl (lv_at hl 0 rfl) ?_
  refine va_get (D := D) (ci := 6) (v := .int (nI nx)) (C := RX2) (T := TX2) (N := 3) hx hb hts inX2 hown hK hP 0 rfl rfl 1 (by decide) (hts (.fieldLink RX2 15 "EscrowDesk$Ledger" "next" "I") (by decide +kernel)) (fun _ h9 => h9) rfl dX2_partOfEntry_1 ?_
  refine lv_bipush (v := 60) hx hb dX2_partOfEntry_4 (by decide) ?_
  refine lv_iadd hx hb dX2_partOfEntry_6 ?_
  refine lv_topi (fun yn1 eyn1 => ?_)
  obtain rfl : yn1 = (nI (nx + 60)) := eyn1.trans (nI_add nx 60)
  refine lv_aload_n hx hb dX2_partOfEntry_7 rfl (lv_at hl 0 rfl) ?_
  refine va_get (D := D) (ci := 6) (v := .int (nI kp)) (C := RX2) (T := TX2) (N := 3) hx hb hts inX2 hown hK hP 0 rfl rfl 2 (by decide) (hts (.fieldLink RX2 19 "EscrowDesk$Ledger" "kept" "I") (by decide +kernel)) (fun _ h9 => h9) rfl dX2_partOfEntry_8 ?_
  refine lv_isub hx hb dX2_partOfEntry_11 ?_
  refine lv_topi (fun yn2 eyn2 => ?_)
  obtain rfl : yn2 = (nI ((nx + 60) - kp)) := eyn2.trans (nI_sub (a := (nx + 60)) (b := kp) (by omega))
  refine lv_iload_n hx hb dX2_partOfEntry_12 rfl (lv_at hl 1 rfl) ?_
  refine lv_iadd hx hb dX2_partOfEntry_13 ?_
  refine lv_topi (fun yn3 eyn3 => ?_)
  obtain rfl : yn3 = (nI (((nx + 60) - kp) + ei)) := eyn3.trans (nI_add ((nx + 60) - kp) ei)
  refine lv_bipush (v := 60) hx hb dX2_partOfEntry_14 (by decide) ?_
  refine lv_irem hx hb dX2_partOfEntry_16 (by decide) ?_
  refine lv_topi (fun yn4 eyn4 => ?_)
  obtain rfl : yn4 = (nI ((((nx + 60) - kp) + ei) % 60)) := eyn4.trans (nI_rem (a := (((nx + 60) - kp) + ei)) (b := 60) (by omega) (by decide) (by decide))
  refine lv_istore_n (lv' := [(3, .int (nI ((((nx + 60) - kp) + ei) % 60))), (0, .ref g0), (1, .int (nI ei)), (2, .int (nI w))]) hx hb dX2_partOfEntry_17 rfl hl (by decide) rfl (fun ls hl => ?_)
  refine lv_aload_n hx hb dX2_partOfEntry_18 rfl (lv_at hl 1 rfl) ?_
  refine va_get (D := D) (ci := 6) (v := .ref g1) (C := RX2) (T := TX2) (N := 3) hx hb hts inX2 hown hK hP 0 rfl rfl 0 (by decide) (hts (.fieldLink RX2 11 "EscrowDesk$Ledger" "ring" "[I") (by decide +kernel)) (fun _ h9 => h9) rfl dX2_partOfEntry_19 ?_
  refine lv_iload_n hx hb dX2_partOfEntry_22 rfl (lv_at hl 0 rfl) ?_
  refine lv_iconst (v := 4) hx hb dX2_partOfEntry_23 (by decide) ?_
  refine lv_imul hx hb dX2_partOfEntry_24 ?_
  refine lv_topi (fun yn5 eyn5 => ?_)
  obtain rfl : yn5 = (nI (((((nx + 60) - kp) + ei) % 60) * 4)) := eyn5.trans (nI_mul ((((nx + 60) - kp) + ei) % 60) 4)
  refine lv_iload_n hx hb dX2_partOfEntry_25 rfl (lv_at hl 3 rfl) ?_
  refine lv_iadd hx hb dX2_partOfEntry_26 ?_
  refine lv_topi (fun yn6 eyn6 => ?_)
  obtain rfl : yn6 = (nI ((((((nx + 60) - kp) + ei) % 60) * 4) + w)) := eyn6.trans (nI_add (((((nx + 60) - kp) + ei) % 60) * 4) w)
  refine va_iald hx hb hK hP 1 0 rfl rfl (vp_in_nI (n := ((((((nx + 60) - kp) + ei) % 60) * 4) + w)) (N := 240) (show ((((((nx + 60) - kp) + ei) % 60) * 4) + w) < 240 by omega) (by decide)) dX2_partOfEntry_27 ?_
  refine lv_topi (fun yn7 eyn7 => ?_)
  obtain ⟨hP9, hD9⟩ := PDq.sub (ws' := [(g0, .inr (6, [.ref g1, .int (nI nx), .int (nI kp)])), (g1, .inl (cA 0, 240, .inl fr))]) hP hD [0, 1] (by decide) rfl
  refine W.widen (k := 0) (n := 0) (Nat.le_of_ble_eq_true rfl) (Nat.le_of_ble_eq_true rfl) ?_
  exact (W.iret (v := yn7) hx hb hr (fun t ht hW => ⟨⟨yn7, (), rfl, trivial, by rw [ht]; exact hP9, hD9⟩, hS.F ht⟩) hS.2.2 dX2_partOfEntry_28)

set_option maxHeartbeats 4000000 in
set_option maxRecDepth 100000 in
/-- Ledger.sumOn -/
theorem s_sumOn (l : Launch) (D : va_G) (cA : Nat → ClassId) (sa : Nat → Nat) (g0 : Nat) (g1 : Nat) (nx : Nat) (kp : Nat) (d : Int32) (k : Int32) (fr : Nat → Int32) (sz : Nat) (hnx : nx < 60) (hkp : kp ≤ 60) : Met l yX2_sumOn wsX2_sumOn ({ frames := 1, cells := 0, slots := 0, locals := 23 }) (va_Pc [.ref g0, .int d, .int k] (Wd D cA sa [(g0, .inr (6, [.ref g1, .int (nI nx), .int (nI kp)])), (g1, .inl (cA 0, 240, .inl fr))] sz)) (va_Qi (fun (r : Int32) (_ : Unit) => True) (fun (_ : Unit) t => Wq D (va_A [(g0, .inr (6, [.ref g1, .int (nI nx), .int (nI kp)])), (g1, .inl (cA 0, 240, .inl fr))] sz) [(g0, .inr (6, [.ref g1, .int (nI nx), .int (nI kp)])), (g1, .inl (cA 0, 240, .inl fr))] t) (va_A [(g0, .inr (6, [.ref g1, .int (nI nx), .int (nI kp)])), (g1, .inl (cA 0, 240, .inl fr))] sz)) 0 0 (va_A [(g0, .inr (6, [.ref g1, .int (nI nx), .int (nI kp)])), (g1, .inl (cA 0, 240, .inl fr))] sz) := by
  refine Met.ofW (cc := cX2_sumOn) (maxL := 5) (ret := (some .int)) (by decide) rfl ?_
  intro p e s m args below meth c s₁ B hml hv
  obtain ⟨rfl, hsz, hP, hK, hD0, hC, hZ⟩ := hv
  have hx := B.exec
  have hb := B.bytes
  have hr := B.returns
  have hts := atoms_spec (ws := wsX2_sumOn) B.pre
  have hown : s.vm.findClass RX2 = some m.cls := findClass_of_methodNamed B.named
  have hlocks := B.notSynchronized
  subst hsz
  have hD := hD0.self (sz := s.heap.size)
  generalize hAe : va_A [(g0, .inr (6, [.ref g1, .int (nI nx), .int (nI kp)])), (g1, .inl (cA 0, 240, .inl fr))] s.heap.size = A at hD hZ ⊢
  have hA : ∀ q : Nat, s.heap.size ≤ q → A q := fun q h => by rw [← hAe]; exact Or.inr h
  have hS : va_S A s.heap s.heap [] := va_S.rf
  have hP : va_P D vwCl [(g0, .inr (6, [.ref g1, .int (nI nx), .int (nI kp)])), (g1, .inl (cA 0, 240, .inl fr))] s.heap := hP
  have hl := lv_entry ([.ref g0, .int d, .int k]) (n := 5) (Nat.le_of_ble_eq_true rfl)
  rw [lg_entry_eq]
  generalize (lg_sl ([.ref g0, .int d, .int k]) ++ List.replicate (5 - (lg_sl ([.ref g0, .int d, .int k])).length) Slot.unset).toArray = ls at hl ⊢
  have hl : lv_has ls 5 [(0, .ref g0), (1, .int d), (2, .int k)] := hl
  have inX2 : ∀ w ∈ u_ws RX2 TX2 3, w ∈ wsX2_sumOn := by decide +kernel
  refine lv_iconst (v := 0) hx hb dX2_sumOn_0 (by decide) ?_
  refine lv_istore_n (lv' := [(3, .int 0), (0, .ref g0), (1, .int d), (2, .int k)]) hx hb dX2_sumOn_1 rfl hl (by decide) rfl (fun ls hl => ?_)
  refine lv_iconst (v := 0) hx hb dX2_sumOn_2 (by decide) ?_
  refine lv_istore (lv' := [(4, .int 0), (3, .int 0), (0, .ref g0), (1, .int d), (2, .int k)]) hx hb dX2_sumOn_3 hl (by decide) rfl (fun ls hl => ?_)
  have loop1 : ∀ (n1 i1 : Nat) (x3_1 : Int32) (H : Heap) (locs : List Loc) (ls : Array Slot), i1 + n1 = kp → va_P D vwCl [(g0, .inr (6, [.ref g1, .int (nI nx), .int (nI kp)])), (g1, .inl (cA 0, 240, .inl fr))] H → va_D A [(g0, .inr (6, [.ref g1, .int (nI nx), .int (nI kp)])), (g1, .inl (cA 0, 240, .inl fr))] → va_S A s.heap H locs → lv_has ls 5 [(4, .int (nI i1)), (3, .int x3_1), (0, .ref g0), (1, .int d), (2, .int k)] → W p l e (headSpec wsX2_sumOn ({ frames := 1, cells := 0, slots := 0, locals := 23 } : Room)).room s m ([.ref g0, .int d, .int k] : List Value).toArray below meth c H locs 0 0 (MQ below (va_Qi (fun (r : Int32) (_ : Unit) => True) (fun (_ : Unit) t => Wq D A [(g0, .inr (6, [.ref g1, .int (nI nx), .int (nI kp)])), (g1, .inl (cA 0, 240, .inl fr))] t) A) ([.ref g0, .int d, .int k] : List Value).toArray s 0 0 A) (F0 m 5 ls []) := by
    intro n1
    induction n1 with
    | zero =>
      intro i1 x3_1 H locs ls hi1 hP hD hS hl
      obtain rfl : kp = i1 := by omega
      refine lv_iload hx hb dX2_sumOn_5 (lv_at hl 0 rfl) ?_
      refine lv_aload_n hx hb dX2_sumOn_7 rfl (lv_at hl 2 rfl) ?_
      refine va_get (D := D) (ci := 6) (v := .int (nI kp)) (C := RX2) (T := TX2) (N := 3) hx hb hts inX2 hown hK hP 0 rfl rfl 2 (by decide) (hts (.fieldLink RX2 19 "EscrowDesk$Ledger" "kept" "I") (by decide +kernel)) (fun _ h9 => h9) rfl dX2_sumOn_8 ?_
      refine lv_icmp_ge (tgt := 52) hx hb dX2_sumOn_11 (by decide) (fun c1 => ?_) (fun c9 => absurd (nI_le (a := kp) (b := kp) (show kp ≤ kp by omega) (by omega)) c9)
      refine lv_iload_n hx hb dX2_sumOn_52 rfl (lv_at hl 1 rfl) ?_
      obtain ⟨hP9, hD9⟩ := PDq.sub (ws' := [(g0, .inr (6, [.ref g1, .int (nI nx), .int (nI kp)])), (g1, .inl (cA 0, 240, .inl fr))]) hP hD [0, 1] (by decide) rfl
      refine W.widen (k := 0) (n := 0) (Nat.le_of_ble_eq_true rfl) (Nat.le_of_ble_eq_true rfl) ?_
      exact (W.iret (v := x3_1) hx hb hr (fun t ht hW => ⟨⟨x3_1, (), rfl, trivial, by rw [ht]; exact hP9, hD9⟩, hS.F ht⟩) hS.2.2 dX2_sumOn_53)
    | succ n1 ih1 =>
      intro i1 x3_1 H locs ls hi1 hP hD hS hl
      refine lv_iload hx hb dX2_sumOn_5 (lv_at hl 0 rfl) ?_
      refine lv_aload_n hx hb dX2_sumOn_7 rfl (lv_at hl 2 rfl) ?_
      refine va_get (D := D) (ci := 6) (v := .int (nI kp)) (C := RX2) (T := TX2) (N := 3) hx hb hts inX2 hown hK hP 0 rfl rfl 2 (by decide) (hts (.fieldLink RX2 19 "EscrowDesk$Ledger" "kept" "I") (by decide +kernel)) (fun _ h9 => h9) rfl dX2_sumOn_8 ?_
      refine lv_icmp_ge (tgt := 52) hx hb dX2_sumOn_11 (by decide) (fun c9 => absurd c9 (nI_ge (a := i1) (b := kp) (show i1 < kp by omega) (by omega))) (fun c2 => ?_)
      refine lv_aload_n hx hb dX2_sumOn_14 rfl (lv_at hl 2 rfl) ?_
      refine lv_iload hx hb dX2_sumOn_15 (lv_at hl 0 rfl) ?_
      refine lv_iconst (v := 1) hx hb dX2_sumOn_17 (by decide) ?_
      obtain ⟨hPc, hDc, hFc⟩ := PDq.cut (wc := [(g0, .inr (6, [.ref g1, .int (nI nx), .int (nI kp)])), (g1, .inl (cA 0, 240, .inl fr))]) hP hD hS hA [0, 1] (by decide) rfl
      refine va_calli (va_runV (As := [.int (nI i1), .int 1]) (rest := []) ⟨hx, hb, hml, hown, hts⟩ (s_part l D cA sa g0 g1 nx kp i1 1 fr H.size hnx hkp (by omega) (by omega)) (cwV 2 hts gX2_sumOn_X2_partOfEntry rfl rfl rfl (by decide +kernel) ⟨(Nat.le_of_ble_eq_true rfl), (Nat.le_of_ble_eq_true rfl)⟩) ⟨Wd.blind, va_recv hK hPc (ci := 6) (q0 := 0) rfl rfl, fun U hU hW => ⟨rfl, Wd.call hPc hDc hK hC hZ hS hFc U hU hW⟩⟩ rfl rfl hl.1 rfl (lv_room (Nat.le_of_ble_eq_true rfl)) dX2_sumOn_18 ⟨(Nat.le_of_ble_eq_true rfl), (Nat.le_of_ble_eq_true rfl)⟩) hS (fun q _ h => hFc q h) hFc (fun rn3 u t H1 locs ht hvm hw hB hz1 hk1 hS => ?_)
      obtain ⟨hP1, hD1⟩ := hB
      rw [ht] at hP1
      obtain ⟨hP, hD⟩ := PDq.join (w := [(g0, .inr (6, [.ref g1, .int (nI nx), .int (nI kp)])), (g1, .inl (cA 0, 240, .inl fr))]) 0 hP hD [0, 1] [] rfl rfl (by decide) (by decide) hk1 hFc hP1 hD1 rfl
      generalize H1 = H at hP hS ⊢
      refine lv_iload_n hx hb dX2_sumOn_21 rfl (lv_at hl 3 rfl) ?_
      refine lv_icmp_ne (tgt := 46) hx hb dX2_sumOn_22 (by decide) (fun c4 => ?_) (fun c4 => ?_)
      · skip
        refine lv_iinc (v := (nI (i1 + 1))) (lv' := [(4, .int (nI (i1 + 1))), (3, .int x3_1), (0, .ref g0), (1, .int d), (2, .int k)]) hx hb dX2_sumOn_46 hl (k := 0) rfl (nI_1 _) (by decide) rfl (fun ls hl => ?_)
        refine lv_goto (tgt := 5) hx hb dX2_sumOn_49 (by decide) ?_
        obtain ⟨hP9, hD9⟩ := PDq.sub (ws' := [(g0, .inr (6, [.ref g1, .int (nI nx), .int (nI kp)])), (g1, .inl (cA 0, 240, .inl fr))]) hP hD [0, 1] (by decide) rfl
        exact ih1 (i1 + 1) x3_1 H _ ls (by omega) hP9 hD9 hS (lv_sub hl [0, 1, 2, 3, 4] rfl)
      · skip
        refine lv_aload_n hx hb dX2_sumOn_25 rfl (lv_at hl 2 rfl) ?_
        refine lv_iload hx hb dX2_sumOn_26 (lv_at hl 0 rfl) ?_
        refine lv_iconst (v := 0) hx hb dX2_sumOn_28 (by decide) ?_
        obtain ⟨hPc, hDc, hFc⟩ := PDq.cut (wc := [(g0, .inr (6, [.ref g1, .int (nI nx), .int (nI kp)])), (g1, .inl (cA 0, 240, .inl fr))]) hP hD hS hA [0, 1] (by decide) rfl
        refine va_calli (va_runV (As := [.int (nI i1), .int 0]) (rest := []) ⟨hx, hb, hml, hown, hts⟩ (s_part l D cA sa g0 g1 nx kp i1 0 fr H.size hnx hkp (by omega) (by omega)) (cwV 2 hts gX2_sumOn_X2_partOfEntry rfl rfl rfl (by decide +kernel) ⟨(Nat.le_of_ble_eq_true rfl), (Nat.le_of_ble_eq_true rfl)⟩) ⟨Wd.blind, va_recv hK hPc (ci := 6) (q0 := 0) rfl rfl, fun U hU hW => ⟨rfl, Wd.call hPc hDc hK hC hZ hS hFc U hU hW⟩⟩ rfl rfl hl.1 rfl (lv_room (Nat.le_of_ble_eq_true rfl)) dX2_sumOn_29 ⟨(Nat.le_of_ble_eq_true rfl), (Nat.le_of_ble_eq_true rfl)⟩) hS (fun q _ h => hFc q h) hFc (fun rn5 u t H1 locs ht hvm hw hB hz1 hk1 hS => ?_)
        obtain ⟨hP1, hD1⟩ := hB
        rw [ht] at hP1
        obtain ⟨hP, hD⟩ := PDq.join (w := [(g0, .inr (6, [.ref g1, .int (nI nx), .int (nI kp)])), (g1, .inl (cA 0, 240, .inl fr))]) 0 hP hD [0, 1] [] rfl rfl (by decide) (by decide) hk1 hFc hP1 hD1 rfl
        generalize H1 = H at hP hS ⊢
        refine lv_iload_n hx hb dX2_sumOn_32 rfl (lv_at hl 4 rfl) ?_
        refine lv_icmp_ne (tgt := 46) hx hb dX2_sumOn_33 (by decide) (fun c6 => ?_) (fun c6 => ?_)
        · skip
          refine lv_iinc (v := (nI (i1 + 1))) (lv' := [(4, .int (nI (i1 + 1))), (3, .int x3_1), (0, .ref g0), (1, .int d), (2, .int k)]) hx hb dX2_sumOn_46 hl (k := 0) rfl (nI_1 _) (by decide) rfl (fun ls hl => ?_)
          refine lv_goto (tgt := 5) hx hb dX2_sumOn_49 (by decide) ?_
          obtain ⟨hP9, hD9⟩ := PDq.sub (ws' := [(g0, .inr (6, [.ref g1, .int (nI nx), .int (nI kp)])), (g1, .inl (cA 0, 240, .inl fr))]) hP hD [0, 1] (by decide) rfl
          exact ih1 (i1 + 1) x3_1 H _ ls (by omega) hP9 hD9 hS (lv_sub hl [0, 1, 2, 3, 4] rfl)
        · skip
          refine lv_iload_n hx hb dX2_sumOn_36 rfl (lv_at hl 1 rfl) ?_
          refine lv_aload_n hx hb dX2_sumOn_37 rfl (lv_at hl 2 rfl) ?_
          refine lv_iload hx hb dX2_sumOn_38 (lv_at hl 0 rfl) ?_
          refine lv_iconst (v := 2) hx hb dX2_sumOn_40 (by decide) ?_
          obtain ⟨hPc, hDc, hFc⟩ := PDq.cut (wc := [(g0, .inr (6, [.ref g1, .int (nI nx), .int (nI kp)])), (g1, .inl (cA 0, 240, .inl fr))]) hP hD hS hA [0, 1] (by decide) rfl
          refine va_calli (va_runV (As := [.int (nI i1), .int 2]) (rest := [.int x3_1]) ⟨hx, hb, hml, hown, hts⟩ (s_part l D cA sa g0 g1 nx kp i1 2 fr H.size hnx hkp (by omega) (by omega)) (cwV 2 hts gX2_sumOn_X2_partOfEntry rfl rfl rfl (by decide +kernel) ⟨(Nat.le_of_ble_eq_true rfl), (Nat.le_of_ble_eq_true rfl)⟩) ⟨Wd.blind, va_recv hK hPc (ci := 6) (q0 := 0) rfl rfl, fun U hU hW => ⟨rfl, Wd.call hPc hDc hK hC hZ hS hFc U hU hW⟩⟩ rfl rfl hl.1 rfl (lv_room (Nat.le_of_ble_eq_true rfl)) dX2_sumOn_41 ⟨(Nat.le_of_ble_eq_true rfl), (Nat.le_of_ble_eq_true rfl)⟩) hS (fun q _ h => hFc q h) hFc (fun rn7 u t H1 locs ht hvm hw hB hz1 hk1 hS => ?_)
          obtain ⟨hP1, hD1⟩ := hB
          rw [ht] at hP1
          obtain ⟨hP, hD⟩ := PDq.join (w := [(g0, .inr (6, [.ref g1, .int (nI nx), .int (nI kp)])), (g1, .inl (cA 0, 240, .inl fr))]) 0 hP hD [0, 1] [] rfl rfl (by decide) (by decide) hk1 hFc hP1 hD1 rfl
          generalize H1 = H at hP hS ⊢
          refine lv_iadd hx hb dX2_sumOn_44 ?_
          refine lv_topi (fun yn8 eyn8 => ?_)
          refine lv_istore_n (lv' := [(3, .int yn8), (4, .int (nI i1)), (0, .ref g0), (1, .int d), (2, .int k)]) hx hb dX2_sumOn_45 rfl hl (by decide) rfl (fun ls hl => ?_)
          refine lv_iinc (v := (nI (i1 + 1))) (lv' := [(4, .int (nI (i1 + 1))), (3, .int yn8), (0, .ref g0), (1, .int d), (2, .int k)]) hx hb dX2_sumOn_46 hl (k := 1) rfl (nI_1 _) (by decide) rfl (fun ls hl => ?_)
          refine lv_goto (tgt := 5) hx hb dX2_sumOn_49 (by decide) ?_
          obtain ⟨hP9, hD9⟩ := PDq.sub (ws' := [(g0, .inr (6, [.ref g1, .int (nI nx), .int (nI kp)])), (g1, .inl (cA 0, 240, .inl fr))]) hP hD [0, 1] (by decide) rfl
          exact ih1 (i1 + 1) yn8 H _ ls (by omega) hP9 hD9 hS (lv_sub hl [0, 1, 2, 3, 4] rfl)
  obtain ⟨hP9, hD9⟩ := PDq.sub (ws' := [(g0, .inr (6, [.ref g1, .int (nI nx), .int (nI kp)])), (g1, .inl (cA 0, 240, .inl fr))]) hP hD [0, 1] (by decide) rfl
  exact loop1 (kp - 0) 0 0 _ _ ls (by omega) hP9 hD9 hS (lv_sub hl [0, 1, 2, 3, 4] rfl)

set_option maxHeartbeats 4000000 in
set_option maxRecDepth 100000 in
/-- Ledger.dayOfMostPayments -/
theorem s_dayOfMost (l : Launch) (D : va_G) (cA : Nat → ClassId) (sa : Nat → Nat) (g0 : Nat) (g1 : Nat) (nx : Nat) (kp : Nat) (fr : Nat → Int32) (sz : Nat) (hnx : nx < 60) (hkp : kp ≤ 60) : Met l yX2_dayOfMostPayments wsX2_dayOfMostPayments ({ frames := 1, cells := 0, slots := 0, locals := 23 }) (va_Pc [.ref g0] (Wd D cA sa [(g0, .inr (6, [.ref g1, .int (nI nx), .int (nI kp)])), (g1, .inl (cA 0, 240, .inl fr))] sz)) (va_Qi (fun (r : Int32) (_ : Unit) => True) (fun (_ : Unit) t => Wq D (va_A [(g0, .inr (6, [.ref g1, .int (nI nx), .int (nI kp)])), (g1, .inl (cA 0, 240, .inl fr))] sz) [(g0, .inr (6, [.ref g1, .int (nI nx), .int (nI kp)])), (g1, .inl (cA 0, 240, .inl fr))] t) (va_A [(g0, .inr (6, [.ref g1, .int (nI nx), .int (nI kp)])), (g1, .inl (cA 0, 240, .inl fr))] sz)) 0 0 (va_A [(g0, .inr (6, [.ref g1, .int (nI nx), .int (nI kp)])), (g1, .inl (cA 0, 240, .inl fr))] sz) := by
  refine Met.ofW (cc := cX2_dayOfMostPayments) (maxL := 7) (ret := (some .int)) (by decide) rfl ?_
  intro p e s m args below meth c s₁ B hml hv
  obtain ⟨rfl, hsz, hP, hK, hD0, hC, hZ⟩ := hv
  have hx := B.exec
  have hb := B.bytes
  have hr := B.returns
  have hts := atoms_spec (ws := wsX2_dayOfMostPayments) B.pre
  have hown : s.vm.findClass RX2 = some m.cls := findClass_of_methodNamed B.named
  have hlocks := B.notSynchronized
  subst hsz
  have hD := hD0.self (sz := s.heap.size)
  generalize hAe : va_A [(g0, .inr (6, [.ref g1, .int (nI nx), .int (nI kp)])), (g1, .inl (cA 0, 240, .inl fr))] s.heap.size = A at hD hZ ⊢
  have hA : ∀ q : Nat, s.heap.size ≤ q → A q := fun q h => by rw [← hAe]; exact Or.inr h
  have hS : va_S A s.heap s.heap [] := va_S.rf
  have hP : va_P D vwCl [(g0, .inr (6, [.ref g1, .int (nI nx), .int (nI kp)])), (g1, .inl (cA 0, 240, .inl fr))] s.heap := hP
  have hl := lv_entry ([.ref g0]) (n := 7) (Nat.le_of_ble_eq_true rfl)
  rw [lg_entry_eq]
  generalize (lg_sl ([.ref g0]) ++ List.replicate (7 - (lg_sl ([.ref g0])).length) Slot.unset).toArray = ls at hl ⊢
  have hl : lv_has ls 7 [(0, .ref g0)] := hl
  have inX2 : ∀ w ∈ u_ws RX2 TX2 3, w ∈ wsX2_dayOfMostPayments := by decide +kernel
  refine lv_iconst (v := (-1)) hx hb dX2_dayOfMostPayments_0 (by decide) ?_
  refine lv_istore_n (lv' := [(1, .int (-1)), (0, .ref g0)]) hx hb dX2_dayOfMostPayments_1 rfl hl (by decide) rfl (fun ls hl => ?_)
  refine lv_iconst (v := 0) hx hb dX2_dayOfMostPayments_2 (by decide) ?_
  refine lv_istore_n (lv' := [(2, .int 0), (1, .int (-1)), (0, .ref g0)]) hx hb dX2_dayOfMostPayments_3 rfl hl (by decide) rfl (fun ls hl => ?_)
  refine lv_iconst (v := (-1)) hx hb dX2_dayOfMostPayments_4 (by decide) ?_
  refine lv_istore_n (lv' := [(3, .int (-1)), (2, .int 0), (1, .int (-1)), (0, .ref g0)]) hx hb dX2_dayOfMostPayments_5 rfl hl (by decide) rfl (fun ls hl => ?_)
  refine lv_iconst (v := 0) hx hb dX2_dayOfMostPayments_6 (by decide) ?_
  refine lv_istore (lv' := [(4, .int 0), (3, .int (-1)), (2, .int 0), (1, .int (-1)), (0, .ref g0)]) hx hb dX2_dayOfMostPayments_7 hl (by decide) rfl (fun ls hl => ?_)
  refine lv_iconst (v := 0) hx hb dX2_dayOfMostPayments_9 (by decide) ?_
  refine lv_istore (lv' := [(5, .int 0), (4, .int 0), (3, .int (-1)), (2, .int 0), (1, .int (-1)), (0, .ref g0)]) hx hb dX2_dayOfMostPayments_10 hl (by decide) rfl (fun ls hl => ?_)
  have loop1 : ∀ (n1 i1 : Nat) (x4_1 : Int32) (x3_1 : Int32) (x2_1 : Int32) (x1_1 : Int32) (H : Heap) (locs : List Loc) (ls : Array Slot), i1 + n1 = kp → va_P D vwCl [(g0, .inr (6, [.ref g1, .int (nI nx), .int (nI kp)])), (g1, .inl (cA 0, 240, .inl fr))] H → va_D A [(g0, .inr (6, [.ref g1, .int (nI nx), .int (nI kp)])), (g1, .inl (cA 0, 240, .inl fr))] → va_S A s.heap H locs → lv_has ls 7 [(5, .int (nI i1)), (4, .int x4_1), (3, .int x3_1), (2, .int x2_1), (1, .int x1_1), (0, .ref g0)] → W p l e (headSpec wsX2_dayOfMostPayments ({ frames := 1, cells := 0, slots := 0, locals := 23 } : Room)).room s m ([.ref g0] : List Value).toArray below meth c H locs 0 0 (MQ below (va_Qi (fun (r : Int32) (_ : Unit) => True) (fun (_ : Unit) t => Wq D A [(g0, .inr (6, [.ref g1, .int (nI nx), .int (nI kp)])), (g1, .inl (cA 0, 240, .inl fr))] t) A) ([.ref g0] : List Value).toArray s 0 0 A) (F0 m 12 ls []) := by
    intro n1
    induction n1 with
    | zero =>
      intro i1 x4_1 x3_1 x2_1 x1_1 H locs ls hi1 hP hD hS hl
      obtain rfl : kp = i1 := by omega
      refine lv_iload hx hb dX2_dayOfMostPayments_12 (lv_at hl 0 rfl) ?_
      refine lv_aload_n hx hb dX2_dayOfMostPayments_14 rfl (lv_at hl 5 rfl) ?_
      refine va_get (D := D) (ci := 6) (v := .int (nI kp)) (C := RX2) (T := TX2) (N := 3) hx hb hts inX2 hown hK hP 0 rfl rfl 2 (by decide) (hts (.fieldLink RX2 19 "EscrowDesk$Ledger" "kept" "I") (by decide +kernel)) (fun _ h9 => h9) rfl dX2_dayOfMostPayments_15 ?_
      refine lv_icmp_ge (tgt := 84) hx hb dX2_dayOfMostPayments_18 (by decide) (fun c1 => ?_) (fun c9 => absurd (nI_le (a := kp) (b := kp) (show kp ≤ kp by omega) (by omega)) c9)
      refine lv_iload_n hx hb dX2_dayOfMostPayments_84 rfl (lv_at hl 4 rfl) ?_
      obtain ⟨hP9, hD9⟩ := PDq.sub (ws' := [(g0, .inr (6, [.ref g1, .int (nI nx), .int (nI kp)])), (g1, .inl (cA 0, 240, .inl fr))]) hP hD [0, 1] (by decide) rfl
      refine W.widen (k := 0) (n := 0) (Nat.le_of_ble_eq_true rfl) (Nat.le_of_ble_eq_true rfl) ?_
      exact (W.iret (v := x1_1) hx hb hr (fun t ht hW => ⟨⟨x1_1, (), rfl, trivial, by rw [ht]; exact hP9, hD9⟩, hS.F ht⟩) hS.2.2 dX2_dayOfMostPayments_85)
    | succ n1 ih1 =>
      intro i1 x4_1 x3_1 x2_1 x1_1 H locs ls hi1 hP hD hS hl
      refine lv_iload hx hb dX2_dayOfMostPayments_12 (lv_at hl 0 rfl) ?_
      refine lv_aload_n hx hb dX2_dayOfMostPayments_14 rfl (lv_at hl 5 rfl) ?_
      refine va_get (D := D) (ci := 6) (v := .int (nI kp)) (C := RX2) (T := TX2) (N := 3) hx hb hts inX2 hown hK hP 0 rfl rfl 2 (by decide) (hts (.fieldLink RX2 19 "EscrowDesk$Ledger" "kept" "I") (by decide +kernel)) (fun _ h9 => h9) rfl dX2_dayOfMostPayments_15 ?_
      refine lv_icmp_ge (tgt := 84) hx hb dX2_dayOfMostPayments_18 (by decide) (fun c9 => absurd c9 (nI_ge (a := i1) (b := kp) (show i1 < kp by omega) (by omega))) (fun c2 => ?_)
      refine lv_aload_n hx hb dX2_dayOfMostPayments_21 rfl (lv_at hl 5 rfl) ?_
      refine lv_iload hx hb dX2_dayOfMostPayments_22 (lv_at hl 0 rfl) ?_
      refine lv_iconst (v := 0) hx hb dX2_dayOfMostPayments_24 (by decide) ?_
      obtain ⟨hPc, hDc, hFc⟩ := PDq.cut (wc := [(g0, .inr (6, [.ref g1, .int (nI nx), .int (nI kp)])), (g1, .inl (cA 0, 240, .inl fr))]) hP hD hS hA [0, 1] (by decide) rfl
      refine va_calli (va_runV (As := [.int (nI i1), .int 0]) (rest := []) ⟨hx, hb, hml, hown, hts⟩ (s_part l D cA sa g0 g1 nx kp i1 0 fr H.size hnx hkp (by omega) (by omega)) (cwV 2 hts gX2_dayOfMostPayments_X2_partOfEntry rfl rfl rfl (by decide +kernel) ⟨(Nat.le_of_ble_eq_true rfl), (Nat.le_of_ble_eq_true rfl)⟩) ⟨Wd.blind, va_recv hK hPc (ci := 6) (q0 := 0) rfl rfl, fun U hU hW => ⟨rfl, Wd.call hPc hDc hK hC hZ hS hFc U hU hW⟩⟩ rfl rfl hl.1 rfl (lv_room (Nat.le_of_ble_eq_true rfl)) dX2_dayOfMostPayments_25 ⟨(Nat.le_of_ble_eq_true rfl), (Nat.le_of_ble_eq_true rfl)⟩) hS (fun q _ h => hFc q h) hFc (fun rn3 u t H1 locs ht hvm hw hB hz1 hk1 hS => ?_)
      obtain ⟨hP1, hD1⟩ := hB
      rw [ht] at hP1
      obtain ⟨hP, hD⟩ := PDq.join (w := [(g0, .inr (6, [.ref g1, .int (nI nx), .int (nI kp)])), (g1, .inl (cA 0, 240, .inl fr))]) 0 hP hD [0, 1] [] rfl rfl (by decide) (by decide) hk1 hFc hP1 hD1 rfl
      generalize H1 = H at hP hS ⊢
      refine lv_iconst (v := 1) hx hb dX2_dayOfMostPayments_28 (by decide) ?_
      refine lv_icmp_ne (tgt := 78) hx hb dX2_dayOfMostPayments_29 (by decide) (fun c4 => ?_) (fun c4 => ?_)
      · skip
        refine lv_iinc (v := (nI (i1 + 1))) (lv' := [(5, .int (nI (i1 + 1))), (4, .int x4_1), (3, .int x3_1), (2, .int x2_1), (1, .int x1_1), (0, .ref g0)]) hx hb dX2_dayOfMostPayments_78 hl (k := 0) rfl (nI_1 _) (by decide) rfl (fun ls hl => ?_)
        refine lv_goto (tgt := 12) hx hb dX2_dayOfMostPayments_81 (by decide) ?_
        obtain ⟨hP9, hD9⟩ := PDq.sub (ws' := [(g0, .inr (6, [.ref g1, .int (nI nx), .int (nI kp)])), (g1, .inl (cA 0, 240, .inl fr))]) hP hD [0, 1] (by decide) rfl
        exact ih1 (i1 + 1) x4_1 x3_1 x2_1 x1_1 H _ ls (by omega) hP9 hD9 hS (lv_sub hl [0, 1, 2, 3, 4, 5] rfl)
      · skip
        refine lv_aload_n hx hb dX2_dayOfMostPayments_32 rfl (lv_at hl 5 rfl) ?_
        refine lv_iload hx hb dX2_dayOfMostPayments_33 (lv_at hl 0 rfl) ?_
        refine lv_iconst (v := 1) hx hb dX2_dayOfMostPayments_35 (by decide) ?_
        obtain ⟨hPc, hDc, hFc⟩ := PDq.cut (wc := [(g0, .inr (6, [.ref g1, .int (nI nx), .int (nI kp)])), (g1, .inl (cA 0, 240, .inl fr))]) hP hD hS hA [0, 1] (by decide) rfl
        refine va_calli (va_runV (As := [.int (nI i1), .int 1]) (rest := []) ⟨hx, hb, hml, hown, hts⟩ (s_part l D cA sa g0 g1 nx kp i1 1 fr H.size hnx hkp (by omega) (by omega)) (cwV 2 hts gX2_dayOfMostPayments_X2_partOfEntry rfl rfl rfl (by decide +kernel) ⟨(Nat.le_of_ble_eq_true rfl), (Nat.le_of_ble_eq_true rfl)⟩) ⟨Wd.blind, va_recv hK hPc (ci := 6) (q0 := 0) rfl rfl, fun U hU hW => ⟨rfl, Wd.call hPc hDc hK hC hZ hS hFc U hU hW⟩⟩ rfl rfl hl.1 rfl (lv_room (Nat.le_of_ble_eq_true rfl)) dX2_dayOfMostPayments_36 ⟨(Nat.le_of_ble_eq_true rfl), (Nat.le_of_ble_eq_true rfl)⟩) hS (fun q _ h => hFc q h) hFc (fun rn5 u t H1 locs ht hvm hw hB hz1 hk1 hS => ?_)
        obtain ⟨hP1, hD1⟩ := hB
        rw [ht] at hP1
        obtain ⟨hP, hD⟩ := PDq.join (w := [(g0, .inr (6, [.ref g1, .int (nI nx), .int (nI kp)])), (g1, .inl (cA 0, 240, .inl fr))]) 0 hP hD [0, 1] [] rfl rfl (by decide) (by decide) hk1 hFc hP1 hD1 rfl
        generalize H1 = H at hP hS ⊢
        refine lv_istore (lv' := [(6, .int rn5), (5, .int (nI i1)), (4, .int x4_1), (3, .int x3_1), (2, .int x2_1), (1, .int x1_1), (0, .ref g0)]) hx hb dX2_dayOfMostPayments_39 hl (by decide) rfl (fun ls hl => ?_)
        refine lv_iload hx hb dX2_dayOfMostPayments_41 (lv_at hl 0 rfl) ?_
        refine lv_iload_n hx hb dX2_dayOfMostPayments_43 rfl (lv_at hl 3 rfl) ?_
        refine lv_icmp_ne (tgt := 52) hx hb dX2_dayOfMostPayments_44 (by decide) (fun c6 => ?_) (fun c6 => ?_)
        · skip
          refine lv_iconst (v := 0) hx hb dX2_dayOfMostPayments_52 (by decide) ?_
          refine lv_aload_n hx hb dX2_dayOfMostPayments_53 rfl (lv_at hl 6 rfl) ?_
          refine lv_iload hx hb dX2_dayOfMostPayments_54 (lv_at hl 1 rfl) ?_
          refine lv_iconst (v := 2) hx hb dX2_dayOfMostPayments_56 (by decide) ?_
          obtain ⟨hPc, hDc, hFc⟩ := PDq.cut (wc := [(g0, .inr (6, [.ref g1, .int (nI nx), .int (nI kp)])), (g1, .inl (cA 0, 240, .inl fr))]) hP hD hS hA [0, 1] (by decide) rfl
          refine va_calli (va_runV (As := [.int (nI i1), .int 2]) (rest := [.int 0]) ⟨hx, hb, hml, hown, hts⟩ (s_part l D cA sa g0 g1 nx kp i1 2 fr H.size hnx hkp (by omega) (by omega)) (cwV 2 hts gX2_dayOfMostPayments_X2_partOfEntry rfl rfl rfl (by decide +kernel) ⟨(Nat.le_of_ble_eq_true rfl), (Nat.le_of_ble_eq_true rfl)⟩) ⟨Wd.blind, va_recv hK hPc (ci := 6) (q0 := 0) rfl rfl, fun U hU hW => ⟨rfl, Wd.call hPc hDc hK hC hZ hS hFc U hU hW⟩⟩ rfl rfl hl.1 rfl (lv_room (Nat.le_of_ble_eq_true rfl)) dX2_dayOfMostPayments_57 ⟨(Nat.le_of_ble_eq_true rfl), (Nat.le_of_ble_eq_true rfl)⟩) hS (fun q _ h => hFc q h) hFc (fun rn7 u t H1 locs ht hvm hw hB hz1 hk1 hS => ?_)
          obtain ⟨hP1, hD1⟩ := hB
          rw [ht] at hP1
          obtain ⟨hP, hD⟩ := PDq.join (w := [(g0, .inr (6, [.ref g1, .int (nI nx), .int (nI kp)])), (g1, .inl (cA 0, 240, .inl fr))]) 0 hP hD [0, 1] [] rfl rfl (by decide) (by decide) hk1 hFc hP1 hD1 rfl
          generalize H1 = H at hP hS ⊢
          refine lv_iadd hx hb dX2_dayOfMostPayments_60 ?_
          refine lv_topi (fun yn8 eyn8 => ?_)
          refine lv_istore (lv' := [(4, .int yn8), (6, .int rn5), (5, .int (nI i1)), (3, .int x3_1), (2, .int x2_1), (1, .int x1_1), (0, .ref g0)]) hx hb dX2_dayOfMostPayments_61 hl (by decide) rfl (fun ls hl => ?_)
          refine lv_iload hx hb dX2_dayOfMostPayments_63 (lv_at hl 1 rfl) ?_
          refine lv_istore_n (lv' := [(3, .int rn5), (4, .int yn8), (6, .int rn5), (5, .int (nI i1)), (2, .int x2_1), (1, .int x1_1), (0, .ref g0)]) hx hb dX2_dayOfMostPayments_65 rfl hl (by decide) rfl (fun ls hl => ?_)
          refine lv_iload hx hb dX2_dayOfMostPayments_66 (lv_at hl 1 rfl) ?_
          refine lv_iload_n hx hb dX2_dayOfMostPayments_68 rfl (lv_at hl 4 rfl) ?_
          refine lv_icmp_le (tgt := 78) hx hb dX2_dayOfMostPayments_69 (by decide) (fun c9 => ?_) (fun c9 => ?_)
          · skip
            refine lv_iinc (v := (nI (i1 + 1))) (lv' := [(5, .int (nI (i1 + 1))), (3, .int rn5), (4, .int yn8), (6, .int rn5), (2, .int x2_1), (1, .int x1_1), (0, .ref g0)]) hx hb dX2_dayOfMostPayments_78 hl (k := 3) rfl (nI_1 _) (by decide) rfl (fun ls hl => ?_)
            refine lv_goto (tgt := 12) hx hb dX2_dayOfMostPayments_81 (by decide) ?_
            obtain ⟨hP9, hD9⟩ := PDq.sub (ws' := [(g0, .inr (6, [.ref g1, .int (nI nx), .int (nI kp)])), (g1, .inl (cA 0, 240, .inl fr))]) hP hD [0, 1] (by decide) rfl
            exact ih1 (i1 + 1) yn8 rn5 x2_1 x1_1 H _ ls (by omega) hP9 hD9 hS (lv_sub hl [0, 2, 1, 4, 5, 6] rfl)
          · skip
            refine lv_iload hx hb dX2_dayOfMostPayments_72 (lv_at hl 2 rfl) ?_
            refine lv_istore_n (lv' := [(1, .int rn5), (3, .int rn5), (4, .int yn8), (6, .int rn5), (5, .int (nI i1)), (2, .int x2_1), (0, .ref g0)]) hx hb dX2_dayOfMostPayments_74 rfl hl (by decide) rfl (fun ls hl => ?_)
            refine lv_iload hx hb dX2_dayOfMostPayments_75 (lv_at hl 2 rfl) ?_
            refine lv_istore_n (lv' := [(2, .int yn8), (1, .int rn5), (3, .int rn5), (4, .int yn8), (6, .int rn5), (5, .int (nI i1)), (0, .ref g0)]) hx hb dX2_dayOfMostPayments_77 rfl hl (by decide) rfl (fun ls hl => ?_)
            refine lv_iinc (v := (nI (i1 + 1))) (lv' := [(5, .int (nI (i1 + 1))), (2, .int yn8), (1, .int rn5), (3, .int rn5), (4, .int yn8), (6, .int rn5), (0, .ref g0)]) hx hb dX2_dayOfMostPayments_78 hl (k := 5) rfl (nI_1 _) (by decide) rfl (fun ls hl => ?_)
            refine lv_goto (tgt := 12) hx hb dX2_dayOfMostPayments_81 (by decide) ?_
            obtain ⟨hP9, hD9⟩ := PDq.sub (ws' := [(g0, .inr (6, [.ref g1, .int (nI nx), .int (nI kp)])), (g1, .inl (cA 0, 240, .inl fr))]) hP hD [0, 1] (by decide) rfl
            exact ih1 (i1 + 1) yn8 rn5 yn8 rn5 H _ ls (by omega) hP9 hD9 hS (lv_sub hl [0, 4, 3, 1, 2, 6] rfl)
        · skip
          refine lv_iload hx hb dX2_dayOfMostPayments_47 (lv_at hl 2 rfl) ?_
          refine lv_goto (tgt := 53) hx hb dX2_dayOfMostPayments_49 (by decide) ?_
          refine lv_aload_n hx hb dX2_dayOfMostPayments_53 rfl (lv_at hl 6 rfl) ?_
          refine lv_iload hx hb dX2_dayOfMostPayments_54 (lv_at hl 1 rfl) ?_
          refine lv_iconst (v := 2) hx hb dX2_dayOfMostPayments_56 (by decide) ?_
          obtain ⟨hPc, hDc, hFc⟩ := PDq.cut (wc := [(g0, .inr (6, [.ref g1, .int (nI nx), .int (nI kp)])), (g1, .inl (cA 0, 240, .inl fr))]) hP hD hS hA [0, 1] (by decide) rfl
          refine va_calli (va_runV (As := [.int (nI i1), .int 2]) (rest := [.int x4_1]) ⟨hx, hb, hml, hown, hts⟩ (s_part l D cA sa g0 g1 nx kp i1 2 fr H.size hnx hkp (by omega) (by omega)) (cwV 2 hts gX2_dayOfMostPayments_X2_partOfEntry rfl rfl rfl (by decide +kernel) ⟨(Nat.le_of_ble_eq_true rfl), (Nat.le_of_ble_eq_true rfl)⟩) ⟨Wd.blind, va_recv hK hPc (ci := 6) (q0 := 0) rfl rfl, fun U hU hW => ⟨rfl, Wd.call hPc hDc hK hC hZ hS hFc U hU hW⟩⟩ rfl rfl hl.1 rfl (lv_room (Nat.le_of_ble_eq_true rfl)) dX2_dayOfMostPayments_57 ⟨(Nat.le_of_ble_eq_true rfl), (Nat.le_of_ble_eq_true rfl)⟩) hS (fun q _ h => hFc q h) hFc (fun rn10 u t H1 locs ht hvm hw hB hz1 hk1 hS => ?_)
          obtain ⟨hP1, hD1⟩ := hB
          rw [ht] at hP1
          obtain ⟨hP, hD⟩ := PDq.join (w := [(g0, .inr (6, [.ref g1, .int (nI nx), .int (nI kp)])), (g1, .inl (cA 0, 240, .inl fr))]) 0 hP hD [0, 1] [] rfl rfl (by decide) (by decide) hk1 hFc hP1 hD1 rfl
          generalize H1 = H at hP hS ⊢
          refine lv_iadd hx hb dX2_dayOfMostPayments_60 ?_
          refine lv_topi (fun yn11 eyn11 => ?_)
          refine lv_istore (lv' := [(4, .int yn11), (6, .int rn5), (5, .int (nI i1)), (3, .int x3_1), (2, .int x2_1), (1, .int x1_1), (0, .ref g0)]) hx hb dX2_dayOfMostPayments_61 hl (by decide) rfl (fun ls hl => ?_)
          refine lv_iload hx hb dX2_dayOfMostPayments_63 (lv_at hl 1 rfl) ?_
          refine lv_istore_n (lv' := [(3, .int rn5), (4, .int yn11), (6, .int rn5), (5, .int (nI i1)), (2, .int x2_1), (1, .int x1_1), (0, .ref g0)]) hx hb dX2_dayOfMostPayments_65 rfl hl (by decide) rfl (fun ls hl => ?_)
          refine lv_iload hx hb dX2_dayOfMostPayments_66 (lv_at hl 1 rfl) ?_
          refine lv_iload_n hx hb dX2_dayOfMostPayments_68 rfl (lv_at hl 4 rfl) ?_
          refine lv_icmp_le (tgt := 78) hx hb dX2_dayOfMostPayments_69 (by decide) (fun c12 => ?_) (fun c12 => ?_)
          · skip
            refine lv_iinc (v := (nI (i1 + 1))) (lv' := [(5, .int (nI (i1 + 1))), (3, .int rn5), (4, .int yn11), (6, .int rn5), (2, .int x2_1), (1, .int x1_1), (0, .ref g0)]) hx hb dX2_dayOfMostPayments_78 hl (k := 3) rfl (nI_1 _) (by decide) rfl (fun ls hl => ?_)
            refine lv_goto (tgt := 12) hx hb dX2_dayOfMostPayments_81 (by decide) ?_
            obtain ⟨hP9, hD9⟩ := PDq.sub (ws' := [(g0, .inr (6, [.ref g1, .int (nI nx), .int (nI kp)])), (g1, .inl (cA 0, 240, .inl fr))]) hP hD [0, 1] (by decide) rfl
            exact ih1 (i1 + 1) yn11 rn5 x2_1 x1_1 H _ ls (by omega) hP9 hD9 hS (lv_sub hl [0, 2, 1, 4, 5, 6] rfl)
          · skip
            refine lv_iload hx hb dX2_dayOfMostPayments_72 (lv_at hl 2 rfl) ?_
            refine lv_istore_n (lv' := [(1, .int rn5), (3, .int rn5), (4, .int yn11), (6, .int rn5), (5, .int (nI i1)), (2, .int x2_1), (0, .ref g0)]) hx hb dX2_dayOfMostPayments_74 rfl hl (by decide) rfl (fun ls hl => ?_)
            refine lv_iload hx hb dX2_dayOfMostPayments_75 (lv_at hl 2 rfl) ?_
            refine lv_istore_n (lv' := [(2, .int yn11), (1, .int rn5), (3, .int rn5), (4, .int yn11), (6, .int rn5), (5, .int (nI i1)), (0, .ref g0)]) hx hb dX2_dayOfMostPayments_77 rfl hl (by decide) rfl (fun ls hl => ?_)
            refine lv_iinc (v := (nI (i1 + 1))) (lv' := [(5, .int (nI (i1 + 1))), (2, .int yn11), (1, .int rn5), (3, .int rn5), (4, .int yn11), (6, .int rn5), (0, .ref g0)]) hx hb dX2_dayOfMostPayments_78 hl (k := 5) rfl (nI_1 _) (by decide) rfl (fun ls hl => ?_)
            refine lv_goto (tgt := 12) hx hb dX2_dayOfMostPayments_81 (by decide) ?_
            obtain ⟨hP9, hD9⟩ := PDq.sub (ws' := [(g0, .inr (6, [.ref g1, .int (nI nx), .int (nI kp)])), (g1, .inl (cA 0, 240, .inl fr))]) hP hD [0, 1] (by decide) rfl
            exact ih1 (i1 + 1) yn11 rn5 yn11 rn5 H _ ls (by omega) hP9 hD9 hS (lv_sub hl [0, 4, 3, 1, 2, 6] rfl)
  obtain ⟨hP9, hD9⟩ := PDq.sub (ws' := [(g0, .inr (6, [.ref g1, .int (nI nx), .int (nI kp)])), (g1, .inl (cA 0, 240, .inl fr))]) hP hD [0, 1] (by decide) rfl
  exact loop1 (kp - 0) 0 0 (-1) 0 (-1) _ _ ls (by omega) hP9 hD9 hS (lv_sub hl [0, 1, 2, 3, 4, 5] rfl)

set_option maxHeartbeats 4000000 in
set_option maxRecDepth 100000 in
/-- Plan.feeOf -/
theorem s_feeOf (l : Launch) (D : va_G) (cA : Nat → ClassId) (sa : Nat → Nat) (p0 : Nat) (p1 : Nat) (p2 : Nat) (p3 : Nat) (p4 : Nat) (p5 : Nat) (p6 : Nat) (p7 : Nat) (p8 : Nat) (p9 : Nat) (cn : Nat) (pq : Nat) (nd : Nat) (sc : Nat) (pr : Int32) (pb : Int32) (pe : Int32) (pg : Int32) (a : Int32) (sz : Nat) : Met l yX3_feeOf wsX3_feeOf ({ frames := 0, cells := 0, slots := 0, locals := 0 }) (va_Pc [.ref p0, .int a] (Wd D cA sa [(oX3 p0 pr pb pe pg p1 (nI nd) p2 p3 p4 p5 (nI cn) p6 (nI pq) p7 p8 p9 (nI sc))] sz)) (va_Qi (fun (r : Int32) (_ : Unit) => True) (fun (_ : Unit) t => Wq D (va_A [(oX3 p0 pr pb pe pg p1 (nI nd) p2 p3 p4 p5 (nI cn) p6 (nI pq) p7 p8 p9 (nI sc))] sz) [(oX3 p0 pr pb pe pg p1 (nI nd) p2 p3 p4 p5 (nI cn) p6 (nI pq) p7 p8 p9 (nI sc))] t) (va_A [(oX3 p0 pr pb pe pg p1 (nI nd) p2 p3 p4 p5 (nI cn) p6 (nI pq) p7 p8 p9 (nI sc))] sz)) 0 0 (va_A [(oX3 p0 pr pb pe pg p1 (nI nd) p2 p3 p4 p5 (nI cn) p6 (nI pq) p7 p8 p9 (nI sc))] sz) := by
  refine Met.ofW (cc := cX3_feeOf) (maxL := 2) (ret := (some .int)) (by decide) rfl ?_
  intro p e s m args below meth c s₁ B hml hv
  obtain ⟨rfl, hsz, hP, hK, hD0, hC, hZ⟩ := hv
  have hx := B.exec
  have hb := B.bytes
  have hr := B.returns
  have hts := atoms_spec (ws := wsX3_feeOf) B.pre
  have hown : s.vm.findClass RX3 = some m.cls := findClass_of_methodNamed B.named
  have hlocks := B.notSynchronized
  subst hsz
  have hD := hD0.self (sz := s.heap.size)
  generalize hAe : va_A [(oX3 p0 pr pb pe pg p1 (nI nd) p2 p3 p4 p5 (nI cn) p6 (nI pq) p7 p8 p9 (nI sc))] s.heap.size = A at hD hZ ⊢
  have hA : ∀ q : Nat, s.heap.size ≤ q → A q := fun q h => by rw [← hAe]; exact Or.inr h
  have hS : va_S A s.heap s.heap [] := va_S.rf
  have hP : va_P D vwCl [(oX3 p0 pr pb pe pg p1 (nI nd) p2 p3 p4 p5 (nI cn) p6 (nI pq) p7 p8 p9 (nI sc))] s.heap := hP
  have hl := lv_entry ([.ref p0, .int a]) (n := 2) (Nat.le_of_ble_eq_true rfl)
  rw [lg_entry_eq]
  generalize (lg_sl ([.ref p0, .int a]) ++ List.replicate (2 - (lg_sl ([.ref p0, .int a])).length) Slot.unset).toArray = ls at hl ⊢
  have hl : lv_has ls 2 [(0, .ref p0), (1, .int a)] := hl
  have inX3 : ∀ w ∈ u_ws RX3 TX3 17, w ∈ wsX3_feeOf := by decide +kernel
  refine lv_iload_n hx hb dX3_feeOf_0 rfl (lv_at hl 1 rfl) ?_
  refine lv_aload_n hx hb dX3_feeOf_1 rfl (lv_at hl 0 rfl) ?_
  refine va_get (D := D) (ci := 7) (v := .int pe) (C := RX3) (T := TX3) (N := 17) hx hb hts inX3 hown hK hP 0 rfl rfl 2 (by decide) (hts (.fieldLink RX3 47 "EscrowDesk$Plan" "fee" "I") (by decide +kernel)) (fun _ h9 => h9) rfl dX3_feeOf_2 ?_
  refine lv_imul hx hb dX3_feeOf_5 ?_
  refine lv_topi (fun yn1 eyn1 => ?_)
  refine lv_sipush (v := 10000) hx hb dX3_feeOf_6 (by decide) ?_
  refine lv_idiv hx hb dX3_feeOf_9 (by decide) ?_
  refine lv_topi (fun yn2 eyn2 => ?_)
  obtain ⟨hP9, hD9⟩ := PDq.sub (ws' := [(oX3 p0 pr pb pe pg p1 (nI nd) p2 p3 p4 p5 (nI cn) p6 (nI pq) p7 p8 p9 (nI sc))]) hP hD [0] (by decide) rfl
  refine W.widen (k := 0) (n := 0) (Nat.le_of_ble_eq_true rfl) (Nat.le_of_ble_eq_true rfl) ?_
  exact (W.iret (v := yn2) hx hb hr (fun t ht hW => ⟨⟨yn2, (), rfl, trivial, by rw [ht]; exact hP9, hD9⟩, hS.F ht⟩) hS.2.2 dX3_feeOf_10)

set_option maxHeartbeats 4000000 in
set_option maxRecDepth 100000 in
/-- Plan.firstStep -/
theorem s_firstStep (l : Launch) (D : va_G) (cA : Nat → ClassId) (sa : Nat → Nat) (p0 : Nat) (p1 : Nat) (p2 : Nat) (p3 : Nat) (p4 : Nat) (p5 : Nat) (p6 : Nat) (p7 : Nat) (p8 : Nat) (p9 : Nat) (cn : Nat) (pq : Nat) (nd : Nat) (sc : Nat) (pr : Int32) (pb : Int32) (pe : Int32) (pg : Int32) (mi : Nat) (fen : Nat → Int32) (sz : Nat) (hcn : cn ≤ 10) (hpq : pq ≤ 8) (hnd : nd ≤ 6) (hsc : sc ≤ 350) (hen : Rng 10 351 fen) (hmi : mi < 10) : Met l yX3_firstStep wsX3_firstStep ({ frames := 0, cells := 0, slots := 0, locals := 0 }) (va_Pc [.ref p0, .int (nI mi)] (Wd D cA sa [(oX3 p0 pr pb pe pg p1 (nI nd) p2 p3 p4 p5 (nI cn) p6 (nI pq) p7 p8 p9 (nI sc)), (p9, .inl (cA 0, 10, .inl fen))] sz)) (va_Qi (fun (r : Int32) (_ : Unit) => ∃ n, n < 351 ∧ r = nI n) (fun (_ : Unit) t => Wq D (va_A [(oX3 p0 pr pb pe pg p1 (nI nd) p2 p3 p4 p5 (nI cn) p6 (nI pq) p7 p8 p9 (nI sc)), (p9, .inl (cA 0, 10, .inl fen))] sz) [(oX3 p0 pr pb pe pg p1 (nI nd) p2 p3 p4 p5 (nI cn) p6 (nI pq) p7 p8 p9 (nI sc)), (p9, .inl (cA 0, 10, .inl fen))] t) (va_A [(oX3 p0 pr pb pe pg p1 (nI nd) p2 p3 p4 p5 (nI cn) p6 (nI pq) p7 p8 p9 (nI sc)), (p9, .inl (cA 0, 10, .inl fen))] sz)) 0 0 (va_A [(oX3 p0 pr pb pe pg p1 (nI nd) p2 p3 p4 p5 (nI cn) p6 (nI pq) p7 p8 p9 (nI sc)), (p9, .inl (cA 0, 10, .inl fen))] sz) := by
  refine Met.ofW (cc := cX3_firstStep) (maxL := 2) (ret := (some .int)) (by decide) rfl ?_
  intro p e s m args below meth c s₁ B hml hv
  obtain ⟨rfl, hsz, hP, hK, hD0, hC, hZ⟩ := hv
  have hx := B.exec
  have hb := B.bytes
  have hr := B.returns
  have hts := atoms_spec (ws := wsX3_firstStep) B.pre
  have hown : s.vm.findClass RX3 = some m.cls := findClass_of_methodNamed B.named
  have hlocks := B.notSynchronized
  subst hsz
  have hD := hD0.self (sz := s.heap.size)
  generalize hAe : va_A [(oX3 p0 pr pb pe pg p1 (nI nd) p2 p3 p4 p5 (nI cn) p6 (nI pq) p7 p8 p9 (nI sc)), (p9, .inl (cA 0, 10, .inl fen))] s.heap.size = A at hD hZ ⊢
  have hA : ∀ q : Nat, s.heap.size ≤ q → A q := fun q h => by rw [← hAe]; exact Or.inr h
  have hS : va_S A s.heap s.heap [] := va_S.rf
  have hP : va_P D vwCl [(oX3 p0 pr pb pe pg p1 (nI nd) p2 p3 p4 p5 (nI cn) p6 (nI pq) p7 p8 p9 (nI sc)), (p9, .inl (cA 0, 10, .inl fen))] s.heap := hP
  have hl := lv_entry ([.ref p0, .int (nI mi)]) (n := 2) (Nat.le_of_ble_eq_true rfl)
  rw [lg_entry_eq]
  generalize (lg_sl ([.ref p0, .int (nI mi)]) ++ List.replicate (2 - (lg_sl ([.ref p0, .int (nI mi)])).length) Slot.unset).toArray = ls at hl ⊢
  have hl : lv_has ls 2 [(0, .ref p0), (1, .int (nI mi))] := hl
  have inX3 : ∀ w ∈ u_ws RX3 TX3 17, w ∈ wsX3_firstStep := by decide +kernel
  refine lv_iload_n hx hb dX3_firstStep_0 rfl (lv_at hl 1 rfl) ?_
  refine lv_if_le (tgt := 15) hx hb dX3_firstStep_1 (by decide) (fun c1 => ?_) (fun c1 => ?_)
  · skip
    have hn2 : mi ≤ 0 := (nI_leI (a := mi) (b := 0) (by omega) (by omega)).mp c1
    refine lv_iconst (v := 0) hx hb dX3_firstStep_15 (by decide) ?_
    obtain ⟨hP9, hD9⟩ := PDq.sub (ws' := [(oX3 p0 pr pb pe pg p1 (nI nd) p2 p3 p4 p5 (nI cn) p6 (nI pq) p7 p8 p9 (nI sc)), (p9, .inl (cA 0, 10, .inl fen))]) hP hD [0, 1] (by decide) rfl
    refine W.widen (k := 0) (n := 0) (Nat.le_of_ble_eq_true rfl) (Nat.le_of_ble_eq_true rfl) ?_
    exact (W.iret (v := 0) hx hb hr (fun t ht hW => ⟨⟨0, (), rfl, ⟨0, by omega, rfl⟩, by rw [ht]; exact hP9, hD9⟩, hS.F ht⟩) hS.2.2 dX3_firstStep_16)
  · skip
    have hn3 : 0 < mi := Nat.lt_of_not_le (fun h9 => c1 (nI_le (a := mi) (b := 0) h9 (by omega)))
    refine lv_aload_n hx hb dX3_firstStep_4 rfl (lv_at hl 0 rfl) ?_
    refine va_get (D := D) (ci := 7) (v := .ref p9) (C := RX3) (T := TX3) (N := 17) hx hb hts inX3 hown hK hP 0 rfl rfl 15 (by decide) (hts (.fieldLink RX3 41 "EscrowDesk$Plan" "stepEnds" "[I") (by decide +kernel)) (fun _ h9 => h9) rfl dX3_firstStep_5 ?_
    refine lv_iload_n hx hb dX3_firstStep_8 rfl (lv_at hl 1 rfl) ?_
    refine lv_iconst (v := 1) hx hb dX3_firstStep_9 (by decide) ?_
    refine lv_isub hx hb dX3_firstStep_10 ?_
    refine lv_topi (fun yn4 eyn4 => ?_)
    obtain rfl : yn4 = (nI (mi - 1)) := eyn4.trans (nI_sub (a := mi) (b := 1) (by omega))
    obtain ⟨kn5, hn6, hn7⟩ := Rng.get hen (show (mi - 1) < 10 by omega)
    refine va_iald hx hb hK hP 1 0 rfl rfl (vp_in_nI (n := (mi - 1)) (N := 10) (show (mi - 1) < 10 by omega) (by decide)) dX3_firstStep_11 ?_
    refine lv_topi (fun yn8 eyn8 => ?_)
    obtain rfl : yn8 = (nI kn5) := eyn8.trans (by first | exact hn7 | (rw [nI_clamp (by omega)]; exact hn7))
    refine lv_goto (tgt := 16) hx hb dX3_firstStep_12 (by decide) ?_
    obtain ⟨hP9, hD9⟩ := PDq.sub (ws' := [(oX3 p0 pr pb pe pg p1 (nI nd) p2 p3 p4 p5 (nI cn) p6 (nI pq) p7 p8 p9 (nI sc)), (p9, .inl (cA 0, 10, .inl fen))]) hP hD [0, 1] (by decide) rfl
    refine W.widen (k := 0) (n := 0) (Nat.le_of_ble_eq_true rfl) (Nat.le_of_ble_eq_true rfl) ?_
    exact (W.iret (v := (nI kn5)) hx hb hr (fun t ht hW => ⟨⟨(nI kn5), (), rfl, ⟨kn5, by omega, rfl⟩, by rw [ht]; exact hP9, hD9⟩, hS.F ht⟩) hS.2.2 dX3_firstStep_16)

set_option maxHeartbeats 4000000 in
set_option maxRecDepth 100000 in
/-- Plan.contains -/
theorem s_contains (l : Launch) (D : va_G) (cA : Nat → ClassId) (sa : Nat → Nat) (a : Int32) (b : Int32) (sz : Nat) : Met l yX3_contains wsX3_contains ({ frames := 0, cells := 0, slots := 0, locals := 0 }) (va_Pc [.int a, .int b] (Wd D cA sa [] sz)) (va_Qi (fun (r : Int32) (_ : Unit) => r = 0 ∨ r = 1) (fun (_ : Unit) t => Wq D (va_A [] sz) [] t) (va_A [] sz)) 0 0 (va_A [] sz) := by
  refine Met.ofW (cc := cX3_contains) (maxL := 2) (ret := (some .boolean)) (by decide) rfl ?_
  intro p e s m args below meth c s₁ B hml hv
  obtain ⟨rfl, hsz, hP, hK, hD0, hC, hZ⟩ := hv
  have hx := B.exec
  have hb := B.bytes
  have hr := B.returns
  have hts := atoms_spec (ws := wsX3_contains) B.pre
  have hown : s.vm.findClass RX3 = some m.cls := findClass_of_methodNamed B.named
  have hlocks := B.notSynchronized
  subst hsz
  have hD := hD0.self (sz := s.heap.size)
  generalize hAe : va_A [] s.heap.size = A at hD hZ ⊢
  have hA : ∀ q : Nat, s.heap.size ≤ q → A q := fun q h => by rw [← hAe]; exact Or.inr h
  have hS : va_S A s.heap s.heap [] := va_S.rf
  have hP : va_P D vwCl [] s.heap := hP
  have hl := lv_entry ([.int a, .int b]) (n := 2) (Nat.le_of_ble_eq_true rfl)
  rw [lg_entry_eq]
  generalize (lg_sl ([.int a, .int b]) ++ List.replicate (2 - (lg_sl ([.int a, .int b])).length) Slot.unset).toArray = ls at hl ⊢
  have hl : lv_has ls 2 [(0, .int a), (1, .int b)] := hl
  refine lv_iload_n hx hb dX3_contains_0 rfl (lv_at hl 0 rfl) ?_
  refine lv_iload_n hx hb dX3_contains_1 rfl (lv_at hl 1 rfl) ?_
  refine lv_iushr hx hb dX3_contains_2 rfl ?_
  refine lv_topi (fun yn1 eyn1 => ?_)
  refine lv_iconst (v := 1) hx hb dX3_contains_3 (by decide) ?_
  refine lv_iand hx hb dX3_contains_4 ?_
  refine lv_topi (fun yn2 eyn2 => ?_)
  refine lv_iconst (v := 1) hx hb dX3_contains_5 (by decide) ?_
  refine lv_icmp_ne (tgt := 13) hx hb dX3_contains_6 (by decide) (fun c3 => ?_) (fun c3 => ?_)
  · skip
    refine lv_iconst (v := 0) hx hb dX3_contains_13 (by decide) ?_
    obtain ⟨hP9, hD9⟩ := PDq.sub (ws' := []) hP hD [] (by decide) rfl
    refine W.widen (k := 0) (n := 0) (Nat.le_of_ble_eq_true rfl) (Nat.le_of_ble_eq_true rfl) ?_
    exact (W.zret (v := 0) hx hb hr (by first | rfl | decide) (fun t ht hW => ⟨⟨0, (), rfl, (by first | exact Or.inl rfl | exact Or.inr rfl), by rw [ht]; exact hP9, hD9⟩, hS.F ht⟩) hS.2.2 dX3_contains_14)
  · skip
    refine lv_iconst (v := 1) hx hb dX3_contains_9 (by decide) ?_
    refine lv_goto (tgt := 14) hx hb dX3_contains_10 (by decide) ?_
    obtain ⟨hP9, hD9⟩ := PDq.sub (ws' := []) hP hD [] (by decide) rfl
    refine W.widen (k := 0) (n := 0) (Nat.le_of_ble_eq_true rfl) (Nat.le_of_ble_eq_true rfl) ?_
    exact (W.zret (v := 1) hx hb hr (by first | rfl | decide) (fun t ht hW => ⟨⟨1, (), rfl, (by first | exact Or.inl rfl | exact Or.inr rfl), by rw [ht]; exact hP9, hD9⟩, hS.F ht⟩) hS.2.2 dX3_contains_14)

set_option maxHeartbeats 4000000 in
set_option maxRecDepth 100000 in
/-- Plan.withAnswer -/
theorem s_withAnswer (l : Launch) (D : va_G) (cA : Nat → ClassId) (sa : Nat → Nat) (a : Int32) (b : Int32) (sz : Nat) : Met l yX3_withAnswer wsX3_withAnswer ({ frames := 0, cells := 0, slots := 0, locals := 0 }) (va_Pc [.int a, .int b] (Wd D cA sa [] sz)) (va_Qi (fun (r : Int32) (_ : Unit) => True) (fun (_ : Unit) t => Wq D (va_A [] sz) [] t) (va_A [] sz)) 0 0 (va_A [] sz) := by
  refine Met.ofW (cc := cX3_withAnswer) (maxL := 2) (ret := (some .int)) (by decide) rfl ?_
  intro p e s m args below meth c s₁ B hml hv
  obtain ⟨rfl, hsz, hP, hK, hD0, hC, hZ⟩ := hv
  have hx := B.exec
  have hb := B.bytes
  have hr := B.returns
  have hts := atoms_spec (ws := wsX3_withAnswer) B.pre
  have hown : s.vm.findClass RX3 = some m.cls := findClass_of_methodNamed B.named
  have hlocks := B.notSynchronized
  subst hsz
  have hD := hD0.self (sz := s.heap.size)
  generalize hAe : va_A [] s.heap.size = A at hD hZ ⊢
  have hA : ∀ q : Nat, s.heap.size ≤ q → A q := fun q h => by rw [← hAe]; exact Or.inr h
  have hS : va_S A s.heap s.heap [] := va_S.rf
  have hP : va_P D vwCl [] s.heap := hP
  have hl := lv_entry ([.int a, .int b]) (n := 2) (Nat.le_of_ble_eq_true rfl)
  rw [lg_entry_eq]
  generalize (lg_sl ([.int a, .int b]) ++ List.replicate (2 - (lg_sl ([.int a, .int b])).length) Slot.unset).toArray = ls at hl ⊢
  have hl : lv_has ls 2 [(0, .int a), (1, .int b)] := hl
  refine lv_iload_n hx hb dX3_withAnswer_0 rfl (lv_at hl 0 rfl) ?_
  refine lv_iconst (v := 1) hx hb dX3_withAnswer_1 (by decide) ?_
  refine lv_ishl hx hb dX3_withAnswer_2 ?_
  refine lv_topi (fun yn1 eyn1 => ?_)
  refine lv_iload_n hx hb dX3_withAnswer_3 rfl (lv_at hl 1 rfl) ?_
  refine lv_if_eq (tgt := 11) hx hb dX3_withAnswer_4 (by decide) (fun c2 => ?_) (fun c2 => ?_)
  · skip
    rw [c2] at hl
    have hl : lv_has ls 2 [(0, .int a), (1, .int 0)] := hl
    refine lv_iconst (v := 0) hx hb dX3_withAnswer_11 (by decide) ?_
    refine lv_ior hx hb dX3_withAnswer_12 ?_
    refine lv_topi (fun yn3 eyn3 => ?_)
    obtain ⟨hP9, hD9⟩ := PDq.sub (ws' := []) hP hD [] (by decide) rfl
    refine W.widen (k := 0) (n := 0) (Nat.le_of_ble_eq_true rfl) (Nat.le_of_ble_eq_true rfl) ?_
    exact (W.iret (v := yn3) hx hb hr (fun t ht hW => ⟨⟨yn3, (), rfl, trivial, by rw [ht]; exact hP9, hD9⟩, hS.F ht⟩) hS.2.2 dX3_withAnswer_13)
  · skip
    refine lv_iconst (v := 1) hx hb dX3_withAnswer_7 (by decide) ?_
    refine lv_goto (tgt := 12) hx hb dX3_withAnswer_8 (by decide) ?_
    refine lv_ior hx hb dX3_withAnswer_12 ?_
    refine lv_topi (fun yn4 eyn4 => ?_)
    obtain ⟨hP9, hD9⟩ := PDq.sub (ws' := []) hP hD [] (by decide) rfl
    refine W.widen (k := 0) (n := 0) (Nat.le_of_ble_eq_true rfl) (Nat.le_of_ble_eq_true rfl) ?_
    exact (W.iret (v := yn4) hx hb hr (fun t ht hW => ⟨⟨yn4, (), rfl, trivial, by rw [ht]; exact hP9, hD9⟩, hS.F ht⟩) hS.2.2 dX3_withAnswer_13)

set_option maxHeartbeats 4000000 in
set_option maxRecDepth 100000 in
/-- Plan.nextNamedDay -/
theorem s_nextNamedDay (l : Launch) (D : va_G) (cA : Nat → ClassId) (sa : Nat → Nat) (p0 : Nat) (p1 : Nat) (p2 : Nat) (p3 : Nat) (p4 : Nat) (p5 : Nat) (p6 : Nat) (p7 : Nat) (p8 : Nat) (p9 : Nat) (cn : Nat) (pq : Nat) (nd : Nat) (sc : Nat) (pr : Int32) (pb : Int32) (pe : Int32) (pg : Int32) (mi : Nat) (d : Int32) (fen : Nat → Int32) (fst : Nat → Int32) (fop : Nat → Int32) (sz : Nat) (hcn : cn ≤ 10) (hpq : pq ≤ 8) (hnd : nd ≤ 6) (hsc : sc ≤ 350) (hen : Rng 10 351 fen) (hmi : mi < 10) : Met l yX3_nextNamedDay wsX3_nextNamedDay ({ frames := 1, cells := 0, slots := 0, locals := 21 }) (va_Pc [.ref p0, .int (nI mi), .int d] (Wd D cA sa [(oX3 p0 pr pb pe pg p1 (nI nd) p2 p3 p4 p5 (nI cn) p6 (nI pq) p7 p8 p9 (nI sc)), (p9, .inl (cA 0, 10, .inl fen)), (p7, .inl (cA 0, 350, .inl fst)), (p8, .inl (cA 0, 350, .inl fop))] sz)) (va_Qi (fun (r : Int32) (_ : Unit) => True) (fun (_ : Unit) t => Wq D (va_A [(oX3 p0 pr pb pe pg p1 (nI nd) p2 p3 p4 p5 (nI cn) p6 (nI pq) p7 p8 p9 (nI sc)), (p9, .inl (cA 0, 10, .inl fen)), (p7, .inl (cA 0, 350, .inl fst)), (p8, .inl (cA 0, 350, .inl fop))] sz) [(oX3 p0 pr pb pe pg p1 (nI nd) p2 p3 p4 p5 (nI cn) p6 (nI pq) p7 p8 p9 (nI sc)), (p9, .inl (cA 0, 10, .inl fen)), (p7, .inl (cA 0, 350, .inl fst)), (p8, .inl (cA 0, 350, .inl fop))] t) (va_A [(oX3 p0 pr pb pe pg p1 (nI nd) p2 p3 p4 p5 (nI cn) p6 (nI pq) p7 p8 p9 (nI sc)), (p9, .inl (cA 0, 10, .inl fen)), (p7, .inl (cA 0, 350, .inl fst)), (p8, .inl (cA 0, 350, .inl fop))] sz)) 0 0 (va_A [(oX3 p0 pr pb pe pg p1 (nI nd) p2 p3 p4 p5 (nI cn) p6 (nI pq) p7 p8 p9 (nI sc)), (p9, .inl (cA 0, 10, .inl fen)), (p7, .inl (cA 0, 350, .inl fst)), (p8, .inl (cA 0, 350, .inl fop))] sz) := by
  refine Met.ofW (cc := cX3_nextNamedDay) (maxL := 6) (ret := (some .int)) (by decide) rfl ?_
  intro p e s m args below meth c s₁ B hml hv
  obtain ⟨rfl, hsz, hP, hK, hD0, hC, hZ⟩ := hv
  have hx := B.exec
  have hb := B.bytes
  have hr := B.returns
  have hts := atoms_spec (ws := wsX3_nextNamedDay) B.pre
  have hown : s.vm.findClass RX3 = some m.cls := findClass_of_methodNamed B.named
  have hlocks := B.notSynchronized
  subst hsz
  have hD := hD0.self (sz := s.heap.size)
  generalize hAe : va_A [(oX3 p0 pr pb pe pg p1 (nI nd) p2 p3 p4 p5 (nI cn) p6 (nI pq) p7 p8 p9 (nI sc)), (p9, .inl (cA 0, 10, .inl fen)), (p7, .inl (cA 0, 350, .inl fst)), (p8, .inl (cA 0, 350, .inl fop))] s.heap.size = A at hD hZ ⊢
  have hA : ∀ q : Nat, s.heap.size ≤ q → A q := fun q h => by rw [← hAe]; exact Or.inr h
  have hS : va_S A s.heap s.heap [] := va_S.rf
  have hP : va_P D vwCl [(oX3 p0 pr pb pe pg p1 (nI nd) p2 p3 p4 p5 (nI cn) p6 (nI pq) p7 p8 p9 (nI sc)), (p9, .inl (cA 0, 10, .inl fen)), (p7, .inl (cA 0, 350, .inl fst)), (p8, .inl (cA 0, 350, .inl fop))] s.heap := hP
  have hl := lv_entry ([.ref p0, .int (nI mi), .int d]) (n := 6) (Nat.le_of_ble_eq_true rfl)
  rw [lg_entry_eq]
  generalize (lg_sl ([.ref p0, .int (nI mi), .int d]) ++ List.replicate (6 - (lg_sl ([.ref p0, .int (nI mi), .int d])).length) Slot.unset).toArray = ls at hl ⊢
  have hl : lv_has ls 6 [(0, .ref p0), (1, .int (nI mi)), (2, .int d)] := hl
  have inX3 : ∀ w ∈ u_ws RX3 TX3 17, w ∈ wsX3_nextNamedDay := by decide +kernel
  refine lv_iconst (v := (-1)) hx hb dX3_nextNamedDay_0 (by decide) ?_
  refine lv_istore_n (lv' := [(3, .int (-1)), (0, .ref p0), (1, .int (nI mi)), (2, .int d)]) hx hb dX3_nextNamedDay_1 rfl hl (by decide) rfl (fun ls hl => ?_)
  refine lv_aload_n hx hb dX3_nextNamedDay_2 rfl (lv_at hl 1 rfl) ?_
  refine lv_iload_n hx hb dX3_nextNamedDay_3 rfl (lv_at hl 2 rfl) ?_
  obtain ⟨hPc, hDc, hFc⟩ := PDq.cut (wc := [(oX3 p0 pr pb pe pg p1 (nI nd) p2 p3 p4 p5 (nI cn) p6 (nI pq) p7 p8 p9 (nI sc)), (p9, .inl (cA 0, 10, .inl fen))]) hP hD hS hA [0, 1] (by decide) rfl
  refine va_calli (va_runV (As := [.int (nI mi)]) (rest := []) ⟨hx, hb, hml, hown, hts⟩ (s_firstStep l D cA sa p0 p1 p2 p3 p4 p5 p6 p7 p8 p9 cn pq nd sc pr pb pe pg mi fen s.heap.size hcn hpq hnd hsc hen hmi) (cwV 1 hts gX3_nextNamedDay_X3_firstStep rfl rfl rfl (by decide +kernel) ⟨(Nat.le_of_ble_eq_true rfl), (Nat.le_of_ble_eq_true rfl)⟩) ⟨Wd.blind, va_recv hK hPc (ci := 7) (q0 := 0) rfl rfl, fun U hU hW => ⟨rfl, Wd.call hPc hDc hK hC hZ hS hFc U hU hW⟩⟩ rfl rfl hl.1 rfl (lv_room (Nat.le_of_ble_eq_true rfl)) dX3_nextNamedDay_4 ⟨(Nat.le_of_ble_eq_true rfl), (Nat.le_of_ble_eq_true rfl)⟩) hS (fun q _ h => hFc q h) hFc (fun rn1 u t H1 locs ht hvm hw hB hz1 hk1 hS => ?_)
  obtain ⟨hP1, hD1⟩ := hB
  rw [ht] at hP1
  obtain ⟨hP, hD⟩ := PDq.join (w := [(p7, .inl (cA 0, 350, .inl fst)), (p8, .inl (cA 0, 350, .inl fop)), (oX3 p0 pr pb pe pg p1 (nI nd) p2 p3 p4 p5 (nI cn) p6 (nI pq) p7 p8 p9 (nI sc)), (p9, .inl (cA 0, 10, .inl fen))]) 2 hP hD [0, 1] [2, 3] rfl rfl (by decide) (by decide) hk1 hFc hP1 hD1 rfl
  generalize H1 = H at hP hS ⊢
  obtain ⟨kn2, hn3, hr9⟩ := hw
  subst hr9
  refine lv_istore (lv' := [(4, .int (nI kn2)), (3, .int (-1)), (0, .ref p0), (1, .int (nI mi)), (2, .int d)]) hx hb dX3_nextNamedDay_7 hl (by decide) rfl (fun ls hl => ?_)
  have loop1 : ∀ (n1 i1 : Nat) (x3_1 : Int32) (H : Heap) (locs : List Loc) (ls : Array Slot), i1 + n1 = 351 → va_P D vwCl [(p7, .inl (cA 0, 350, .inl fst)), (p8, .inl (cA 0, 350, .inl fop)), (oX3 p0 pr pb pe pg p1 (nI nd) p2 p3 p4 p5 (nI cn) p6 (nI pq) p7 p8 p9 (nI sc)), (p9, .inl (cA 0, 10, .inl fen))] H → va_D A [(p7, .inl (cA 0, 350, .inl fst)), (p8, .inl (cA 0, 350, .inl fop)), (oX3 p0 pr pb pe pg p1 (nI nd) p2 p3 p4 p5 (nI cn) p6 (nI pq) p7 p8 p9 (nI sc)), (p9, .inl (cA 0, 10, .inl fen))] → va_S A s.heap H locs → lv_has ls 6 [(4, .int (nI i1)), (3, .int x3_1), (0, .ref p0), (1, .int (nI mi)), (2, .int d)] → W p l e (headSpec wsX3_nextNamedDay ({ frames := 1, cells := 0, slots := 0, locals := 21 } : Room)).room s m ([.ref p0, .int (nI mi), .int d] : List Value).toArray below meth c H locs 0 0 (MQ below (va_Qi (fun (r : Int32) (_ : Unit) => True) (fun (_ : Unit) t => Wq D A [(oX3 p0 pr pb pe pg p1 (nI nd) p2 p3 p4 p5 (nI cn) p6 (nI pq) p7 p8 p9 (nI sc)), (p9, .inl (cA 0, 10, .inl fen)), (p7, .inl (cA 0, 350, .inl fst)), (p8, .inl (cA 0, 350, .inl fop))] t) A) ([.ref p0, .int (nI mi), .int d] : List Value).toArray s 0 0 A) (F0 m 9 ls []) := by
    intro n1
    induction n1 with
    | zero =>
      intro i1 x3_1 H locs ls hi1 hP hD hS hl
      obtain rfl : 351 = i1 := by omega
      refine lv_iload hx hb dX3_nextNamedDay_9 (lv_at hl 0 rfl) ?_
      refine lv_aload_n hx hb dX3_nextNamedDay_11 rfl (lv_at hl 2 rfl) ?_
      refine va_get (D := D) (ci := 7) (v := .ref p9) (C := RX3) (T := TX3) (N := 17) hx hb hts inX3 hown hK hP 2 rfl rfl 15 (by decide) (hts (.fieldLink RX3 41 "EscrowDesk$Plan" "stepEnds" "[I") (by decide +kernel)) (fun _ h9 => h9) rfl dX3_nextNamedDay_12 ?_
      refine lv_iload_n hx hb dX3_nextNamedDay_15 rfl (lv_at hl 3 rfl) ?_
      obtain ⟨kn4, hn5, hn6⟩ := Rng.get hen (show mi < 10 by omega)
      refine va_iald hx hb hK hP 3 0 rfl rfl (vp_in_nI (n := mi) (N := 10) (show mi < 10 by omega) (by decide)) dX3_nextNamedDay_16 ?_
      refine lv_topi (fun yn7 eyn7 => ?_)
      obtain rfl : yn7 = (nI kn4) := eyn7.trans (by first | exact hn6 | (rw [nI_clamp (by omega)]; exact hn6))
      refine lv_icmp_ge (tgt := 67) hx hb dX3_nextNamedDay_17 (by decide) (fun c8 => ?_) (fun c9 => absurd (nI_le (a := kn4) (b := 351) (show kn4 ≤ 351 by omega) (by omega)) c9)
      refine lv_iload_n hx hb dX3_nextNamedDay_67 rfl (lv_at hl 1 rfl) ?_
      obtain ⟨hP9, hD9⟩ := PDq.sub (ws' := [(oX3 p0 pr pb pe pg p1 (nI nd) p2 p3 p4 p5 (nI cn) p6 (nI pq) p7 p8 p9 (nI sc)), (p9, .inl (cA 0, 10, .inl fen)), (p7, .inl (cA 0, 350, .inl fst)), (p8, .inl (cA 0, 350, .inl fop))]) hP hD [2, 3, 0, 1] (by decide) rfl
      refine W.widen (k := 0) (n := 0) (Nat.le_of_ble_eq_true rfl) (Nat.le_of_ble_eq_true rfl) ?_
      exact (W.iret (v := x3_1) hx hb hr (fun t ht hW => ⟨⟨x3_1, (), rfl, trivial, by rw [ht]; exact hP9, hD9⟩, hS.F ht⟩) hS.2.2 dX3_nextNamedDay_68)
    | succ n1 ih1 =>
      intro i1 x3_1 H locs ls hi1 hP hD hS hl
      refine lv_iload hx hb dX3_nextNamedDay_9 (lv_at hl 0 rfl) ?_
      refine lv_aload_n hx hb dX3_nextNamedDay_11 rfl (lv_at hl 2 rfl) ?_
      refine va_get (D := D) (ci := 7) (v := .ref p9) (C := RX3) (T := TX3) (N := 17) hx hb hts inX3 hown hK hP 2 rfl rfl 15 (by decide) (hts (.fieldLink RX3 41 "EscrowDesk$Plan" "stepEnds" "[I") (by decide +kernel)) (fun _ h9 => h9) rfl dX3_nextNamedDay_12 ?_
      refine lv_iload_n hx hb dX3_nextNamedDay_15 rfl (lv_at hl 3 rfl) ?_
      obtain ⟨kn9, hn10, hn11⟩ := Rng.get hen (show mi < 10 by omega)
      refine va_iald hx hb hK hP 3 0 rfl rfl (vp_in_nI (n := mi) (N := 10) (show mi < 10 by omega) (by decide)) dX3_nextNamedDay_16 ?_
      refine lv_topi (fun yn12 eyn12 => ?_)
      obtain rfl : yn12 = (nI kn9) := eyn12.trans (by first | exact hn11 | (rw [nI_clamp (by omega)]; exact hn11))
      refine lv_icmp_ge (tgt := 67) hx hb dX3_nextNamedDay_17 (by decide) (fun c13 => ?_) (fun c13 => ?_)
      · skip
        have hn14 : kn9 ≤ i1 := (nI_leI (a := kn9) (b := i1) (by omega) (by omega)).mp c13
        refine lv_iload_n hx hb dX3_nextNamedDay_67 rfl (lv_at hl 1 rfl) ?_
        obtain ⟨hP9, hD9⟩ := PDq.sub (ws' := [(oX3 p0 pr pb pe pg p1 (nI nd) p2 p3 p4 p5 (nI cn) p6 (nI pq) p7 p8 p9 (nI sc)), (p9, .inl (cA 0, 10, .inl fen)), (p7, .inl (cA 0, 350, .inl fst)), (p8, .inl (cA 0, 350, .inl fop))]) hP hD [2, 3, 0, 1] (by decide) rfl
        refine W.widen (k := 0) (n := 0) (Nat.le_of_ble_eq_true rfl) (Nat.le_of_ble_eq_true rfl) ?_
        exact (W.iret (v := x3_1) hx hb hr (fun t ht hW => ⟨⟨x3_1, (), rfl, trivial, by rw [ht]; exact hP9, hD9⟩, hS.F ht⟩) hS.2.2 dX3_nextNamedDay_68)
      · skip
        have hn15 : i1 < kn9 := Nat.lt_of_not_le (fun h9 => c13 (nI_le (a := kn9) (b := i1) h9 (by omega)))
        refine lv_aload_n hx hb dX3_nextNamedDay_20 rfl (lv_at hl 2 rfl) ?_
        refine va_get (D := D) (ci := 7) (v := .ref p8) (C := RX3) (T := TX3) (N := 17) hx hb hts inX3 hown hK hP 2 rfl rfl 14 (by decide) (hts (.fieldLink RX3 38 "EscrowDesk$Plan" "operands" "[I") (by decide +kernel)) (fun _ h9 => h9) rfl dX3_nextNamedDay_21 ?_
        refine lv_iload hx hb dX3_nextNamedDay_24 (lv_at hl 0 rfl) ?_
        refine va_iald hx hb hK hP 1 0 rfl rfl (vp_in_nI (n := i1) (N := 350) (show i1 < 350 by omega) (by decide)) dX3_nextNamedDay_26 ?_
        refine lv_topi (fun yn16 eyn16 => ?_)
        refine lv_istore (lv' := [(5, .int yn16), (4, .int (nI i1)), (3, .int x3_1), (0, .ref p0), (1, .int (nI mi)), (2, .int d)]) hx hb dX3_nextNamedDay_27 hl (by decide) rfl (fun ls hl => ?_)
        refine lv_aload_n hx hb dX3_nextNamedDay_29 rfl (lv_at hl 3 rfl) ?_
        refine va_get (D := D) (ci := 7) (v := .ref p7) (C := RX3) (T := TX3) (N := 17) hx hb hts inX3 hown hK hP 2 rfl rfl 13 (by decide) (hts (.fieldLink RX3 35 "EscrowDesk$Plan" "steps" "[I") (by decide +kernel)) (fun _ h9 => h9) rfl dX3_nextNamedDay_30 ?_
        refine lv_iload hx hb dX3_nextNamedDay_33 (lv_at hl 1 rfl) ?_
        refine va_iald hx hb hK hP 0 0 rfl rfl (vp_in_nI (n := i1) (N := 350) (show i1 < 350 by omega) (by decide)) dX3_nextNamedDay_35 ?_
        refine lv_topi (fun yn17 eyn17 => ?_)
        refine lv_bipush (v := 17) hx hb dX3_nextNamedDay_36 (by decide) ?_
        refine lv_icmp_ne (tgt := 61) hx hb dX3_nextNamedDay_38 (by decide) (fun c18 => ?_) (fun c18 => ?_)
        · skip
          refine lv_iinc (v := (nI (i1 + 1))) (lv' := [(4, .int (nI (i1 + 1))), (5, .int yn16), (3, .int x3_1), (0, .ref p0), (1, .int (nI mi)), (2, .int d)]) hx hb dX3_nextNamedDay_61 hl (k := 1) rfl (nI_1 _) (by decide) rfl (fun ls hl => ?_)
          refine lv_goto (tgt := 9) hx hb dX3_nextNamedDay_64 (by decide) ?_
          obtain ⟨hP9, hD9⟩ := PDq.sub (ws' := [(p7, .inl (cA 0, 350, .inl fst)), (p8, .inl (cA 0, 350, .inl fop)), (oX3 p0 pr pb pe pg p1 (nI nd) p2 p3 p4 p5 (nI cn) p6 (nI pq) p7 p8 p9 (nI sc)), (p9, .inl (cA 0, 10, .inl fen))]) hP hD [0, 1, 2, 3] (by decide) rfl
          exact ih1 (i1 + 1) x3_1 H _ ls (by omega) hP9 hD9 hS (lv_sub hl [0, 2, 3, 4, 5] rfl)
        · skip
          refine lv_iload hx hb dX3_nextNamedDay_41 (lv_at hl 0 rfl) ?_
          refine lv_iload_n hx hb dX3_nextNamedDay_43 rfl (lv_at hl 5 rfl) ?_
          refine lv_icmp_le (tgt := 61) hx hb dX3_nextNamedDay_44 (by decide) (fun c19 => ?_) (fun c19 => ?_)
          · skip
            refine lv_iinc (v := (nI (i1 + 1))) (lv' := [(4, .int (nI (i1 + 1))), (5, .int yn16), (3, .int x3_1), (0, .ref p0), (1, .int (nI mi)), (2, .int d)]) hx hb dX3_nextNamedDay_61 hl (k := 1) rfl (nI_1 _) (by decide) rfl (fun ls hl => ?_)
            refine lv_goto (tgt := 9) hx hb dX3_nextNamedDay_64 (by decide) ?_
            obtain ⟨hP9, hD9⟩ := PDq.sub (ws' := [(p7, .inl (cA 0, 350, .inl fst)), (p8, .inl (cA 0, 350, .inl fop)), (oX3 p0 pr pb pe pg p1 (nI nd) p2 p3 p4 p5 (nI cn) p6 (nI pq) p7 p8 p9 (nI sc)), (p9, .inl (cA 0, 10, .inl fen))]) hP hD [0, 1, 2, 3] (by decide) rfl
            exact ih1 (i1 + 1) x3_1 H _ ls (by omega) hP9 hD9 hS (lv_sub hl [0, 2, 3, 4, 5] rfl)
          · skip
            refine lv_iload_n hx hb dX3_nextNamedDay_47 rfl (lv_at hl 2 rfl) ?_
            refine lv_iconst (v := (-1)) hx hb dX3_nextNamedDay_48 (by decide) ?_
            refine lv_icmp_eq (tgt := 58) hx hb dX3_nextNamedDay_49 (by decide) (fun c20 => ?_) (fun c20 => ?_)
            · skip
              rw [c20] at hl
              have hl : lv_has ls 6 [(5, .int yn16), (4, .int (nI i1)), (3, .int (-1)), (0, .ref p0), (1, .int (nI mi)), (2, .int d)] := hl
              refine lv_iload hx hb dX3_nextNamedDay_58 (lv_at hl 0 rfl) ?_
              refine lv_istore_n (lv' := [(3, .int yn16), (5, .int yn16), (4, .int (nI i1)), (0, .ref p0), (1, .int (nI mi)), (2, .int d)]) hx hb dX3_nextNamedDay_60 rfl hl (by decide) rfl (fun ls hl => ?_)
              refine lv_iinc (v := (nI (i1 + 1))) (lv' := [(4, .int (nI (i1 + 1))), (3, .int yn16), (5, .int yn16), (0, .ref p0), (1, .int (nI mi)), (2, .int d)]) hx hb dX3_nextNamedDay_61 hl (k := 2) rfl (nI_1 _) (by decide) rfl (fun ls hl => ?_)
              refine lv_goto (tgt := 9) hx hb dX3_nextNamedDay_64 (by decide) ?_
              obtain ⟨hP9, hD9⟩ := PDq.sub (ws' := [(p7, .inl (cA 0, 350, .inl fst)), (p8, .inl (cA 0, 350, .inl fop)), (oX3 p0 pr pb pe pg p1 (nI nd) p2 p3 p4 p5 (nI cn) p6 (nI pq) p7 p8 p9 (nI sc)), (p9, .inl (cA 0, 10, .inl fen))]) hP hD [0, 1, 2, 3] (by decide) rfl
              exact ih1 (i1 + 1) yn16 H _ ls (by omega) hP9 hD9 hS (lv_sub hl [0, 1, 3, 4, 5] rfl)
            · skip
              refine lv_iload hx hb dX3_nextNamedDay_52 (lv_at hl 0 rfl) ?_
              refine lv_iload_n hx hb dX3_nextNamedDay_54 rfl (lv_at hl 2 rfl) ?_
              refine lv_icmp_ge (tgt := 61) hx hb dX3_nextNamedDay_55 (by decide) (fun c21 => ?_) (fun c21 => ?_)
              · skip
                refine lv_iinc (v := (nI (i1 + 1))) (lv' := [(4, .int (nI (i1 + 1))), (5, .int yn16), (3, .int x3_1), (0, .ref p0), (1, .int (nI mi)), (2, .int d)]) hx hb dX3_nextNamedDay_61 hl (k := 1) rfl (nI_1 _) (by decide) rfl (fun ls hl => ?_)
                refine lv_goto (tgt := 9) hx hb dX3_nextNamedDay_64 (by decide) ?_
                obtain ⟨hP9, hD9⟩ := PDq.sub (ws' := [(p7, .inl (cA 0, 350, .inl fst)), (p8, .inl (cA 0, 350, .inl fop)), (oX3 p0 pr pb pe pg p1 (nI nd) p2 p3 p4 p5 (nI cn) p6 (nI pq) p7 p8 p9 (nI sc)), (p9, .inl (cA 0, 10, .inl fen))]) hP hD [0, 1, 2, 3] (by decide) rfl
                exact ih1 (i1 + 1) x3_1 H _ ls (by omega) hP9 hD9 hS (lv_sub hl [0, 2, 3, 4, 5] rfl)
              · skip
                refine lv_iload hx hb dX3_nextNamedDay_58 (lv_at hl 0 rfl) ?_
                refine lv_istore_n (lv' := [(3, .int yn16), (5, .int yn16), (4, .int (nI i1)), (0, .ref p0), (1, .int (nI mi)), (2, .int d)]) hx hb dX3_nextNamedDay_60 rfl hl (by decide) rfl (fun ls hl => ?_)
                refine lv_iinc (v := (nI (i1 + 1))) (lv' := [(4, .int (nI (i1 + 1))), (3, .int yn16), (5, .int yn16), (0, .ref p0), (1, .int (nI mi)), (2, .int d)]) hx hb dX3_nextNamedDay_61 hl (k := 2) rfl (nI_1 _) (by decide) rfl (fun ls hl => ?_)
                refine lv_goto (tgt := 9) hx hb dX3_nextNamedDay_64 (by decide) ?_
                obtain ⟨hP9, hD9⟩ := PDq.sub (ws' := [(p7, .inl (cA 0, 350, .inl fst)), (p8, .inl (cA 0, 350, .inl fop)), (oX3 p0 pr pb pe pg p1 (nI nd) p2 p3 p4 p5 (nI cn) p6 (nI pq) p7 p8 p9 (nI sc)), (p9, .inl (cA 0, 10, .inl fen))]) hP hD [0, 1, 2, 3] (by decide) rfl
                exact ih1 (i1 + 1) yn16 H _ ls (by omega) hP9 hD9 hS (lv_sub hl [0, 1, 3, 4, 5] rfl)
  obtain ⟨hP9, hD9⟩ := PDq.sub (ws' := [(p7, .inl (cA 0, 350, .inl fst)), (p8, .inl (cA 0, 350, .inl fop)), (oX3 p0 pr pb pe pg p1 (nI nd) p2 p3 p4 p5 (nI cn) p6 (nI pq) p7 p8 p9 (nI sc)), (p9, .inl (cA 0, 10, .inl fen))]) hP hD [0, 1, 2, 3] (by decide) rfl
  exact loop1 (351 - kn2) kn2 (-1) _ _ ls (by omega) hP9 hD9 hS (lv_sub hl [0, 1, 2, 3, 4] rfl)

set_option maxHeartbeats 4000000 in
set_option maxRecDepth 100000 in
/-- Plan.conditionHolds -/
theorem s_conditionHolds (l : Launch) (D : va_G) (cA : Nat → ClassId) (sa : Nat → Nat) (p0 : Nat) (p1 : Nat) (p2 : Nat) (p3 : Nat) (p4 : Nat) (p5 : Nat) (p6 : Nat) (p7 : Nat) (p8 : Nat) (p9 : Nat) (cn : Nat) (pq : Nat) (nd : Nat) (sc : Nat) (pr : Int32) (pb : Int32) (pe : Int32) (pg : Int32) (mi : Nat) (d : Int32) (a1 : Int32) (a2 : Int32) (a3 : Int32) (a4 : Int32) (fen : Nat → Int32) (fst : Nat → Int32) (fop : Nat → Int32) (sz : Nat) (hcn : cn ≤ 10) (hpq : pq ≤ 8) (hnd : nd ≤ 6) (hsc : sc ≤ 350) (hen : Rng 10 351 fen) (hmi : mi < 10) : Met l yX3_conditionHolds wsX3_conditionHolds ({ frames := 1, cells := 0, slots := 0, locals := 21 }) (va_Pc [.ref p0, .int (nI mi), .int d, .int a1, .int a2, .int a3, .int a4] (Wd D cA sa [(oX3 p0 pr pb pe pg p1 (nI nd) p2 p3 p4 p5 (nI cn) p6 (nI pq) p7 p8 p9 (nI sc)), (p9, .inl (cA 0, 10, .inl fen)), (p7, .inl (cA 0, 350, .inl fst)), (p8, .inl (cA 0, 350, .inl fop))] sz)) (va_Qi (fun (r : Int32) (_ : Unit) => r = 0 ∨ r = 1) (fun (_ : Unit) t => Wq D (va_A [(oX3 p0 pr pb pe pg p1 (nI nd) p2 p3 p4 p5 (nI cn) p6 (nI pq) p7 p8 p9 (nI sc)), (p9, .inl (cA 0, 10, .inl fen)), (p7, .inl (cA 0, 350, .inl fst)), (p8, .inl (cA 0, 350, .inl fop))] sz) [(oX3 p0 pr pb pe pg p1 (nI nd) p2 p3 p4 p5 (nI cn) p6 (nI pq) p7 p8 p9 (nI sc)), (p9, .inl (cA 0, 10, .inl fen)), (p7, .inl (cA 0, 350, .inl fst)), (p8, .inl (cA 0, 350, .inl fop))] t) (va_A [(oX3 p0 pr pb pe pg p1 (nI nd) p2 p3 p4 p5 (nI cn) p6 (nI pq) p7 p8 p9 (nI sc)), (p9, .inl (cA 0, 10, .inl fen)), (p7, .inl (cA 0, 350, .inl fst)), (p8, .inl (cA 0, 350, .inl fop))] sz)) 0 0 (va_A [(oX3 p0 pr pb pe pg p1 (nI nd) p2 p3 p4 p5 (nI cn) p6 (nI pq) p7 p8 p9 (nI sc)), (p9, .inl (cA 0, 10, .inl fen)), (p7, .inl (cA 0, 350, .inl fst)), (p8, .inl (cA 0, 350, .inl fop))] sz) := by
  refine Met.ofW (cc := cX3_conditionHolds) (maxL := 11) (ret := (some .boolean)) (by decide) rfl ?_
  intro p e s m args below meth c s₁ B hml hv
  obtain ⟨rfl, hsz, hP, hK, hD0, hC, hZ⟩ := hv
  have hx := B.exec
  have hb := B.bytes
  have hr := B.returns
  have hts := atoms_spec (ws := wsX3_conditionHolds) B.pre
  have hown : s.vm.findClass RX3 = some m.cls := findClass_of_methodNamed B.named
  have hlocks := B.notSynchronized
  subst hsz
  have hD := hD0.self (sz := s.heap.size)
  generalize hAe : va_A [(oX3 p0 pr pb pe pg p1 (nI nd) p2 p3 p4 p5 (nI cn) p6 (nI pq) p7 p8 p9 (nI sc)), (p9, .inl (cA 0, 10, .inl fen)), (p7, .inl (cA 0, 350, .inl fst)), (p8, .inl (cA 0, 350, .inl fop))] s.heap.size = A at hD hZ ⊢
  have hA : ∀ q : Nat, s.heap.size ≤ q → A q := fun q h => by rw [← hAe]; exact Or.inr h
  have hS : va_S A s.heap s.heap [] := va_S.rf
  have hP : va_P D vwCl [(oX3 p0 pr pb pe pg p1 (nI nd) p2 p3 p4 p5 (nI cn) p6 (nI pq) p7 p8 p9 (nI sc)), (p9, .inl (cA 0, 10, .inl fen)), (p7, .inl (cA 0, 350, .inl fst)), (p8, .inl (cA 0, 350, .inl fop))] s.heap := hP
  have hl := lv_entry ([.ref p0, .int (nI mi), .int d, .int a1, .int a2, .int a3, .int a4]) (n := 11) (Nat.le_of_ble_eq_true rfl)
  rw [lg_entry_eq]
  generalize (lg_sl ([.ref p0, .int (nI mi), .int d, .int a1, .int a2, .int a3, .int a4]) ++ List.replicate (11 - (lg_sl ([.ref p0, .int (nI mi), .int d, .int a1, .int a2, .int a3, .int a4])).length) Slot.unset).toArray = ls at hl ⊢
  have hl : lv_has ls 11 [(0, .ref p0), (1, .int (nI mi)), (2, .int d), (3, .int a1), (4, .int a2), (5, .int a3), (6, .int a4)] := hl
  have inX3 : ∀ w ∈ u_ws RX3 TX3 17, w ∈ wsX3_conditionHolds := by decide +kernel
  refine lv_iconst (v := 0) hx hb dX3_conditionHolds_0 (by decide) ?_
  refine lv_istore (lv' := [(7, .int 0), (0, .ref p0), (1, .int (nI mi)), (2, .int d), (3, .int a1), (4, .int a2), (5, .int a3), (6, .int a4)]) hx hb dX3_conditionHolds_1 hl (by decide) rfl (fun ls hl => ?_)
  refine lv_aload_n hx hb dX3_conditionHolds_3 rfl (lv_at hl 1 rfl) ?_
  refine lv_iload_n hx hb dX3_conditionHolds_4 rfl (lv_at hl 2 rfl) ?_
  obtain ⟨hPc, hDc, hFc⟩ := PDq.cut (wc := [(oX3 p0 pr pb pe pg p1 (nI nd) p2 p3 p4 p5 (nI cn) p6 (nI pq) p7 p8 p9 (nI sc)), (p9, .inl (cA 0, 10, .inl fen))]) hP hD hS hA [0, 1] (by decide) rfl
  refine va_calli (va_runV (As := [.int (nI mi)]) (rest := []) ⟨hx, hb, hml, hown, hts⟩ (s_firstStep l D cA sa p0 p1 p2 p3 p4 p5 p6 p7 p8 p9 cn pq nd sc pr pb pe pg mi fen s.heap.size hcn hpq hnd hsc hen hmi) (cwV 1 hts gX3_conditionHolds_X3_firstStep rfl rfl rfl (by decide +kernel) ⟨(Nat.le_of_ble_eq_true rfl), (Nat.le_of_ble_eq_true rfl)⟩) ⟨Wd.blind, va_recv hK hPc (ci := 7) (q0 := 0) rfl rfl, fun U hU hW => ⟨rfl, Wd.call hPc hDc hK hC hZ hS hFc U hU hW⟩⟩ rfl rfl hl.1 rfl (lv_room (Nat.le_of_ble_eq_true rfl)) dX3_conditionHolds_5 ⟨(Nat.le_of_ble_eq_true rfl), (Nat.le_of_ble_eq_true rfl)⟩) hS (fun q _ h => hFc q h) hFc (fun rn1 u t H1 locs ht hvm hw hB hz1 hk1 hS => ?_)
  obtain ⟨hP1, hD1⟩ := hB
  rw [ht] at hP1
  obtain ⟨hP, hD⟩ := PDq.join (w := [(p7, .inl (cA 0, 350, .inl fst)), (p8, .inl (cA 0, 350, .inl fop)), (oX3 p0 pr pb pe pg p1 (nI nd) p2 p3 p4 p5 (nI cn) p6 (nI pq) p7 p8 p9 (nI sc)), (p9, .inl (cA 0, 10, .inl fen))]) 2 hP hD [0, 1] [2, 3] rfl rfl (by decide) (by decide) hk1 hFc hP1 hD1 rfl
  generalize H1 = H at hP hS ⊢
  obtain ⟨kn2, hn3, hr9⟩ := hw
  subst hr9
  refine lv_istore (lv' := [(8, .int (nI kn2)), (7, .int 0), (0, .ref p0), (1, .int (nI mi)), (2, .int d), (3, .int a1), (4, .int a2), (5, .int a3), (6, .int a4)]) hx hb dX3_conditionHolds_8 hl (by decide) rfl (fun ls hl => ?_)
  have loop1 : ∀ (n1 i1 : Nat) (x7_1 : Int32) (H : Heap) (locs : List Loc) (ls : Array Slot), i1 + n1 = 351 → va_P D vwCl [(p7, .inl (cA 0, 350, .inl fst)), (p8, .inl (cA 0, 350, .inl fop)), (oX3 p0 pr pb pe pg p1 (nI nd) p2 p3 p4 p5 (nI cn) p6 (nI pq) p7 p8 p9 (nI sc)), (p9, .inl (cA 0, 10, .inl fen))] H → va_D A [(p7, .inl (cA 0, 350, .inl fst)), (p8, .inl (cA 0, 350, .inl fop)), (oX3 p0 pr pb pe pg p1 (nI nd) p2 p3 p4 p5 (nI cn) p6 (nI pq) p7 p8 p9 (nI sc)), (p9, .inl (cA 0, 10, .inl fen))] → va_S A s.heap H locs → lv_has ls 11 [(8, .int (nI i1)), (7, .int x7_1), (0, .ref p0), (1, .int (nI mi)), (2, .int d), (3, .int a1), (4, .int a2), (5, .int a3), (6, .int a4)] → W p l e (headSpec wsX3_conditionHolds ({ frames := 1, cells := 0, slots := 0, locals := 21 } : Room)).room s m ([.ref p0, .int (nI mi), .int d, .int a1, .int a2, .int a3, .int a4] : List Value).toArray below meth c H locs 0 0 (MQ below (va_Qi (fun (r : Int32) (_ : Unit) => r = 0 ∨ r = 1) (fun (_ : Unit) t => Wq D A [(oX3 p0 pr pb pe pg p1 (nI nd) p2 p3 p4 p5 (nI cn) p6 (nI pq) p7 p8 p9 (nI sc)), (p9, .inl (cA 0, 10, .inl fen)), (p7, .inl (cA 0, 350, .inl fst)), (p8, .inl (cA 0, 350, .inl fop))] t) A) ([.ref p0, .int (nI mi), .int d, .int a1, .int a2, .int a3, .int a4] : List Value).toArray s 0 0 A) (F0 m 10 ls []) := by
    intro n1
    induction n1 with
    | zero =>
      intro i1 x7_1 H locs ls hi1 hP hD hS hl
      obtain rfl : 351 = i1 := by omega
      refine lv_iload hx hb dX3_conditionHolds_10 (lv_at hl 0 rfl) ?_
      refine lv_aload_n hx hb dX3_conditionHolds_12 rfl (lv_at hl 2 rfl) ?_
      refine va_get (D := D) (ci := 7) (v := .ref p9) (C := RX3) (T := TX3) (N := 17) hx hb hts inX3 hown hK hP 2 rfl rfl 15 (by decide) (hts (.fieldLink RX3 41 "EscrowDesk$Plan" "stepEnds" "[I") (by decide +kernel)) (fun _ h9 => h9) rfl dX3_conditionHolds_13 ?_
      refine lv_iload_n hx hb dX3_conditionHolds_16 rfl (lv_at hl 3 rfl) ?_
      obtain ⟨kn4, hn5, hn6⟩ := Rng.get hen (show mi < 10 by omega)
      refine va_iald hx hb hK hP 3 0 rfl rfl (vp_in_nI (n := mi) (N := 10) (show mi < 10 by omega) (by decide)) dX3_conditionHolds_17 ?_
      refine lv_topi (fun yn7 eyn7 => ?_)
      obtain rfl : yn7 = (nI kn4) := eyn7.trans (by first | exact hn6 | (rw [nI_clamp (by omega)]; exact hn6))
      refine lv_icmp_ge (tgt := 226) hx hb dX3_conditionHolds_18 (by decide) (fun c8 => ?_) (fun c9 => absurd (nI_le (a := kn4) (b := 351) (show kn4 ≤ 351 by omega) (by omega)) c9)
      refine lv_iload hx hb dX3_conditionHolds_226 (lv_at hl 1 rfl) ?_
      refine lv_iconst (v := 1) hx hb dX3_conditionHolds_228 (by decide) ?_
      refine lv_iand hx hb dX3_conditionHolds_229 ?_
      refine lv_topi (fun yn9 eyn9 => ?_)
      refine lv_iconst (v := 1) hx hb dX3_conditionHolds_230 (by decide) ?_
      refine lv_icmp_ne (tgt := 238) hx hb dX3_conditionHolds_231 (by decide) (fun c10 => ?_) (fun c10 => ?_)
      · skip
        refine lv_iconst (v := 0) hx hb dX3_conditionHolds_238 (by decide) ?_
        obtain ⟨hP9, hD9⟩ := PDq.sub (ws' := [(oX3 p0 pr pb pe pg p1 (nI nd) p2 p3 p4 p5 (nI cn) p6 (nI pq) p7 p8 p9 (nI sc)), (p9, .inl (cA 0, 10, .inl fen)), (p7, .inl (cA 0, 350, .inl fst)), (p8, .inl (cA 0, 350, .inl fop))]) hP hD [2, 3, 0, 1] (by decide) rfl
        refine W.widen (k := 0) (n := 0) (Nat.le_of_ble_eq_true rfl) (Nat.le_of_ble_eq_true rfl) ?_
        exact (W.zret (v := 0) hx hb hr (by first | rfl | decide) (fun t ht hW => ⟨⟨0, (), rfl, (by first | exact Or.inl rfl | exact Or.inr rfl), by rw [ht]; exact hP9, hD9⟩, hS.F ht⟩) hS.2.2 dX3_conditionHolds_239)
      · skip
        refine lv_iconst (v := 1) hx hb dX3_conditionHolds_234 (by decide) ?_
        refine lv_goto (tgt := 239) hx hb dX3_conditionHolds_235 (by decide) ?_
        obtain ⟨hP9, hD9⟩ := PDq.sub (ws' := [(oX3 p0 pr pb pe pg p1 (nI nd) p2 p3 p4 p5 (nI cn) p6 (nI pq) p7 p8 p9 (nI sc)), (p9, .inl (cA 0, 10, .inl fen)), (p7, .inl (cA 0, 350, .inl fst)), (p8, .inl (cA 0, 350, .inl fop))]) hP hD [2, 3, 0, 1] (by decide) rfl
        refine W.widen (k := 0) (n := 0) (Nat.le_of_ble_eq_true rfl) (Nat.le_of_ble_eq_true rfl) ?_
        exact (W.zret (v := 1) hx hb hr (by first | rfl | decide) (fun t ht hW => ⟨⟨1, (), rfl, (by first | exact Or.inl rfl | exact Or.inr rfl), by rw [ht]; exact hP9, hD9⟩, hS.F ht⟩) hS.2.2 dX3_conditionHolds_239)
    | succ n1 ih1 =>
      intro i1 x7_1 H locs ls hi1 hP hD hS hl
      refine lv_iload hx hb dX3_conditionHolds_10 (lv_at hl 0 rfl) ?_
      refine lv_aload_n hx hb dX3_conditionHolds_12 rfl (lv_at hl 2 rfl) ?_
      refine va_get (D := D) (ci := 7) (v := .ref p9) (C := RX3) (T := TX3) (N := 17) hx hb hts inX3 hown hK hP 2 rfl rfl 15 (by decide) (hts (.fieldLink RX3 41 "EscrowDesk$Plan" "stepEnds" "[I") (by decide +kernel)) (fun _ h9 => h9) rfl dX3_conditionHolds_13 ?_
      refine lv_iload_n hx hb dX3_conditionHolds_16 rfl (lv_at hl 3 rfl) ?_
      obtain ⟨kn11, hn12, hn13⟩ := Rng.get hen (show mi < 10 by omega)
      refine va_iald hx hb hK hP 3 0 rfl rfl (vp_in_nI (n := mi) (N := 10) (show mi < 10 by omega) (by decide)) dX3_conditionHolds_17 ?_
      refine lv_topi (fun yn14 eyn14 => ?_)
      obtain rfl : yn14 = (nI kn11) := eyn14.trans (by first | exact hn13 | (rw [nI_clamp (by omega)]; exact hn13))
      refine lv_icmp_ge (tgt := 226) hx hb dX3_conditionHolds_18 (by decide) (fun c15 => ?_) (fun c15 => ?_)
      · skip
        have hn16 : kn11 ≤ i1 := (nI_leI (a := kn11) (b := i1) (by omega) (by omega)).mp c15
        refine lv_iload hx hb dX3_conditionHolds_226 (lv_at hl 1 rfl) ?_
        refine lv_iconst (v := 1) hx hb dX3_conditionHolds_228 (by decide) ?_
        refine lv_iand hx hb dX3_conditionHolds_229 ?_
        refine lv_topi (fun yn17 eyn17 => ?_)
        refine lv_iconst (v := 1) hx hb dX3_conditionHolds_230 (by decide) ?_
        refine lv_icmp_ne (tgt := 238) hx hb dX3_conditionHolds_231 (by decide) (fun c18 => ?_) (fun c18 => ?_)
        · skip
          refine lv_iconst (v := 0) hx hb dX3_conditionHolds_238 (by decide) ?_
          obtain ⟨hP9, hD9⟩ := PDq.sub (ws' := [(oX3 p0 pr pb pe pg p1 (nI nd) p2 p3 p4 p5 (nI cn) p6 (nI pq) p7 p8 p9 (nI sc)), (p9, .inl (cA 0, 10, .inl fen)), (p7, .inl (cA 0, 350, .inl fst)), (p8, .inl (cA 0, 350, .inl fop))]) hP hD [2, 3, 0, 1] (by decide) rfl
          refine W.widen (k := 0) (n := 0) (Nat.le_of_ble_eq_true rfl) (Nat.le_of_ble_eq_true rfl) ?_
          exact (W.zret (v := 0) hx hb hr (by first | rfl | decide) (fun t ht hW => ⟨⟨0, (), rfl, (by first | exact Or.inl rfl | exact Or.inr rfl), by rw [ht]; exact hP9, hD9⟩, hS.F ht⟩) hS.2.2 dX3_conditionHolds_239)
        · skip
          refine lv_iconst (v := 1) hx hb dX3_conditionHolds_234 (by decide) ?_
          refine lv_goto (tgt := 239) hx hb dX3_conditionHolds_235 (by decide) ?_
          obtain ⟨hP9, hD9⟩ := PDq.sub (ws' := [(oX3 p0 pr pb pe pg p1 (nI nd) p2 p3 p4 p5 (nI cn) p6 (nI pq) p7 p8 p9 (nI sc)), (p9, .inl (cA 0, 10, .inl fen)), (p7, .inl (cA 0, 350, .inl fst)), (p8, .inl (cA 0, 350, .inl fop))]) hP hD [2, 3, 0, 1] (by decide) rfl
          refine W.widen (k := 0) (n := 0) (Nat.le_of_ble_eq_true rfl) (Nat.le_of_ble_eq_true rfl) ?_
          exact (W.zret (v := 1) hx hb hr (by first | rfl | decide) (fun t ht hW => ⟨⟨1, (), rfl, (by first | exact Or.inl rfl | exact Or.inr rfl), by rw [ht]; exact hP9, hD9⟩, hS.F ht⟩) hS.2.2 dX3_conditionHolds_239)
      · skip
        have hn19 : i1 < kn11 := Nat.lt_of_not_le (fun h9 => c15 (nI_le (a := kn11) (b := i1) h9 (by omega)))
        refine lv_iload hx hb dX3_conditionHolds_21 (lv_at hl 1 rfl) ?_
        refine lv_iconst (v := 1) hx hb dX3_conditionHolds_23 (by decide) ?_
        refine lv_iand hx hb dX3_conditionHolds_24 ?_
        refine lv_topi (fun yn20 eyn20 => ?_)
        refine lv_istore (lv' := [(9, .int yn20), (8, .int (nI i1)), (7, .int x7_1), (0, .ref p0), (1, .int (nI mi)), (2, .int d), (3, .int a1), (4, .int a2), (5, .int a3), (6, .int a4)]) hx hb dX3_conditionHolds_25 hl (by decide) rfl (fun ls hl => ?_)
        refine lv_aload_n hx hb dX3_conditionHolds_27 rfl (lv_at hl 3 rfl) ?_
        refine va_get (D := D) (ci := 7) (v := .ref p8) (C := RX3) (T := TX3) (N := 17) hx hb hts inX3 hown hK hP 2 rfl rfl 14 (by decide) (hts (.fieldLink RX3 38 "EscrowDesk$Plan" "operands" "[I") (by decide +kernel)) (fun _ h9 => h9) rfl dX3_conditionHolds_28 ?_
        refine lv_iload hx hb dX3_conditionHolds_31 (lv_at hl 1 rfl) ?_
        refine va_iald hx hb hK hP 1 0 rfl rfl (vp_in_nI (n := i1) (N := 350) (show i1 < 350 by omega) (by decide)) dX3_conditionHolds_33 ?_
        refine lv_topi (fun yn21 eyn21 => ?_)
        refine lv_istore (lv' := [(10, .int yn21), (9, .int yn20), (8, .int (nI i1)), (7, .int x7_1), (0, .ref p0), (1, .int (nI mi)), (2, .int d), (3, .int a1), (4, .int a2), (5, .int a3), (6, .int a4)]) hx hb dX3_conditionHolds_34 hl (by decide) rfl (fun ls hl => ?_)
        refine lv_aload_n hx hb dX3_conditionHolds_36 rfl (lv_at hl 4 rfl) ?_
        refine va_get (D := D) (ci := 7) (v := .ref p7) (C := RX3) (T := TX3) (N := 17) hx hb hts inX3 hown hK hP 2 rfl rfl 13 (by decide) (hts (.fieldLink RX3 35 "EscrowDesk$Plan" "steps" "[I") (by decide +kernel)) (fun _ h9 => h9) rfl dX3_conditionHolds_37 ?_
        refine lv_iload hx hb dX3_conditionHolds_40 (lv_at hl 2 rfl) ?_
        refine va_iald hx hb hK hP 0 0 rfl rfl (vp_in_nI (n := i1) (N := 350) (show i1 < 350 by omega) (by decide)) dX3_conditionHolds_42 ?_
        refine lv_topi (fun yn22 eyn22 => ?_)
        by_cases hn23 : yn22 = 14
        · skip
          refine W.eq (g2 := F0 m 43 ls [.int 14]) (by rw [hn23]) ?_
          refine lv_tableIn (off := 69) (tgt := 112) hx hb dX3_conditionHolds_43 (by decide) (by decide) (by decide) (by decide) ?_
          refine lv_iload hx hb dX3_conditionHolds_112 (lv_at hl 3 rfl) ?_
          refine lv_iconst (v := 1) hx hb dX3_conditionHolds_114 (by decide) ?_
          refine lv_iushr hx hb dX3_conditionHolds_115 rfl ?_
          refine lv_topi (fun yn24 eyn24 => ?_)
          refine lv_iload hx hb dX3_conditionHolds_116 (lv_at hl 1 rfl) ?_
          refine lv_ior hx hb dX3_conditionHolds_118 ?_
          refine lv_topi (fun yn25 eyn25 => ?_)
          refine lv_istore (lv' := [(7, .int yn25), (10, .int yn21), (9, .int yn20), (8, .int (nI i1)), (0, .ref p0), (1, .int (nI mi)), (2, .int d), (3, .int a1), (4, .int a2), (5, .int a3), (6, .int a4)]) hx hb dX3_conditionHolds_119 hl (by decide) rfl (fun ls hl => ?_)
          refine lv_goto (tgt := 220) hx hb dX3_conditionHolds_121 (by decide) ?_
          refine lv_iinc (v := (nI (i1 + 1))) (lv' := [(8, .int (nI (i1 + 1))), (7, .int yn25), (10, .int yn21), (9, .int yn20), (0, .ref p0), (1, .int (nI mi)), (2, .int d), (3, .int a1), (4, .int a2), (5, .int a3), (6, .int a4)]) hx hb dX3_conditionHolds_220 hl (k := 3) rfl (nI_1 _) (by decide) rfl (fun ls hl => ?_)
          refine lv_goto (tgt := 10) hx hb dX3_conditionHolds_223 (by decide) ?_
          obtain ⟨hP9, hD9⟩ := PDq.sub (ws' := [(p7, .inl (cA 0, 350, .inl fst)), (p8, .inl (cA 0, 350, .inl fop)), (oX3 p0 pr pb pe pg p1 (nI nd) p2 p3 p4 p5 (nI cn) p6 (nI pq) p7 p8 p9 (nI sc)), (p9, .inl (cA 0, 10, .inl fen))]) hP hD [0, 1, 2, 3] (by decide) rfl
          exact ih1 (i1 + 1) yn25 H _ ls (by omega) hP9 hD9 hS (lv_sub hl [0, 1, 4, 5, 6, 7, 8, 9, 10] rfl)
        · skip
          by_cases hn26 : yn22 = 15
          · skip
            refine W.eq (g2 := F0 m 43 ls [.int 15]) (by rw [hn26]) ?_
            refine lv_tableIn (off := 54) (tgt := 97) hx hb dX3_conditionHolds_43 (by decide) (by decide) (by decide) (by decide) ?_
            refine lv_iload hx hb dX3_conditionHolds_97 (lv_at hl 3 rfl) ?_
            refine lv_iconst (v := 1) hx hb dX3_conditionHolds_99 (by decide) ?_
            refine lv_iushr hx hb dX3_conditionHolds_100 rfl ?_
            refine lv_topi (fun yn27 eyn27 => ?_)
            refine lv_iload hx hb dX3_conditionHolds_101 (lv_at hl 1 rfl) ?_
            refine lv_bipush (v := (-2)) hx hb dX3_conditionHolds_103 (by decide) ?_
            refine lv_ior hx hb dX3_conditionHolds_105 ?_
            refine lv_topi (fun yn28 eyn28 => ?_)
            refine lv_iand hx hb dX3_conditionHolds_106 ?_
            refine lv_topi (fun yn29 eyn29 => ?_)
            refine lv_istore (lv' := [(7, .int yn29), (10, .int yn21), (9, .int yn20), (8, .int (nI i1)), (0, .ref p0), (1, .int (nI mi)), (2, .int d), (3, .int a1), (4, .int a2), (5, .int a3), (6, .int a4)]) hx hb dX3_conditionHolds_107 hl (by decide) rfl (fun ls hl => ?_)
            refine lv_goto (tgt := 220) hx hb dX3_conditionHolds_109 (by decide) ?_
            refine lv_iinc (v := (nI (i1 + 1))) (lv' := [(8, .int (nI (i1 + 1))), (7, .int yn29), (10, .int yn21), (9, .int yn20), (0, .ref p0), (1, .int (nI mi)), (2, .int d), (3, .int a1), (4, .int a2), (5, .int a3), (6, .int a4)]) hx hb dX3_conditionHolds_220 hl (k := 3) rfl (nI_1 _) (by decide) rfl (fun ls hl => ?_)
            refine lv_goto (tgt := 10) hx hb dX3_conditionHolds_223 (by decide) ?_
            obtain ⟨hP9, hD9⟩ := PDq.sub (ws' := [(p7, .inl (cA 0, 350, .inl fst)), (p8, .inl (cA 0, 350, .inl fop)), (oX3 p0 pr pb pe pg p1 (nI nd) p2 p3 p4 p5 (nI cn) p6 (nI pq) p7 p8 p9 (nI sc)), (p9, .inl (cA 0, 10, .inl fen))]) hP hD [0, 1, 2, 3] (by decide) rfl
            exact ih1 (i1 + 1) yn29 H _ ls (by omega) hP9 hD9 hS (lv_sub hl [0, 1, 4, 5, 6, 7, 8, 9, 10] rfl)
          · skip
            by_cases hn30 : yn22 = 16
            · skip
              refine W.eq (g2 := F0 m 43 ls [.int 16]) (by rw [hn30]) ?_
              refine lv_tableIn (off := 45) (tgt := 88) hx hb dX3_conditionHolds_43 (by decide) (by decide) (by decide) (by decide) ?_
              refine lv_iload hx hb dX3_conditionHolds_88 (lv_at hl 3 rfl) ?_
              refine lv_iconst (v := 1) hx hb dX3_conditionHolds_90 (by decide) ?_
              refine lv_ixor hx hb dX3_conditionHolds_91 ?_
              refine lv_topi (fun yn31 eyn31 => ?_)
              refine lv_istore (lv' := [(7, .int yn31), (10, .int yn21), (9, .int yn20), (8, .int (nI i1)), (0, .ref p0), (1, .int (nI mi)), (2, .int d), (3, .int a1), (4, .int a2), (5, .int a3), (6, .int a4)]) hx hb dX3_conditionHolds_92 hl (by decide) rfl (fun ls hl => ?_)
              refine lv_goto (tgt := 220) hx hb dX3_conditionHolds_94 (by decide) ?_
              refine lv_iinc (v := (nI (i1 + 1))) (lv' := [(8, .int (nI (i1 + 1))), (7, .int yn31), (10, .int yn21), (9, .int yn20), (0, .ref p0), (1, .int (nI mi)), (2, .int d), (3, .int a1), (4, .int a2), (5, .int a3), (6, .int a4)]) hx hb dX3_conditionHolds_220 hl (k := 3) rfl (nI_1 _) (by decide) rfl (fun ls hl => ?_)
              refine lv_goto (tgt := 10) hx hb dX3_conditionHolds_223 (by decide) ?_
              obtain ⟨hP9, hD9⟩ := PDq.sub (ws' := [(p7, .inl (cA 0, 350, .inl fst)), (p8, .inl (cA 0, 350, .inl fop)), (oX3 p0 pr pb pe pg p1 (nI nd) p2 p3 p4 p5 (nI cn) p6 (nI pq) p7 p8 p9 (nI sc)), (p9, .inl (cA 0, 10, .inl fen))]) hP hD [0, 1, 2, 3] (by decide) rfl
              exact ih1 (i1 + 1) yn31 H _ ls (by omega) hP9 hD9 hS (lv_sub hl [0, 1, 4, 5, 6, 7, 8, 9, 10] rfl)
            · skip
              by_cases hn32 : yn22 = 17
              · skip
                refine W.eq (g2 := F0 m 43 ls [.int 17]) (by rw [hn32]) ?_
                refine lv_tableIn (off := 81) (tgt := 124) hx hb dX3_conditionHolds_43 (by decide) (by decide) (by decide) (by decide) ?_
                refine lv_iload hx hb dX3_conditionHolds_124 (lv_at hl 3 rfl) ?_
                refine lv_iload_n hx hb dX3_conditionHolds_126 rfl (lv_at hl 6 rfl) ?_
                refine lv_iload hx hb dX3_conditionHolds_127 (lv_at hl 0 rfl) ?_
                refine lv_icmp_lt (tgt := 136) hx hb dX3_conditionHolds_129 (by decide) (fun c33 => ?_) (fun c33 => ?_)
                · skip
                  refine lv_iconst (v := 0) hx hb dX3_conditionHolds_136 (by decide) ?_
                  obtain ⟨hPc, hDc, hFc⟩ := PDq.cut (wc := []) hP hD hS hA [] (by decide) rfl
                  refine va_calli (va_runS (As := [.int x7_1, .int 0]) (rest := []) ⟨hx, hb, hml, hown, hts⟩ (s_withAnswer l D cA sa x7_1 0 H.size) (va_cwS 2 hts gX3_conditionHolds_X3_withAnswer rfl rfl rfl (by decide +kernel) ⟨(Nat.le_of_ble_eq_true rfl), (Nat.le_of_ble_eq_true rfl)⟩) ⟨Wd.blind, fun U hU hW => ⟨rfl, Wd.call hPc hDc hK hC hZ hS hFc U hU hW⟩⟩ rfl rfl hl.1 rfl (lv_room (Nat.le_of_ble_eq_true rfl)) dX3_conditionHolds_137 ⟨(Nat.le_of_ble_eq_true rfl), (Nat.le_of_ble_eq_true rfl)⟩) hS (fun q _ h => hFc q h) hFc (fun rn34 u t H1 locs ht hvm hw hB hz1 hk1 hS => ?_)
                  obtain ⟨hP1, hD1⟩ := hB
                  rw [ht] at hP1
                  obtain ⟨hP, hD⟩ := PDq.join (w := [(p7, .inl (cA 0, 350, .inl fst)), (p8, .inl (cA 0, 350, .inl fop)), (oX3 p0 pr pb pe pg p1 (nI nd) p2 p3 p4 p5 (nI cn) p6 (nI pq) p7 p8 p9 (nI sc)), (p9, .inl (cA 0, 10, .inl fen))]) 4 hP hD [] [0, 1, 2, 3] rfl rfl (by decide) (by decide) hk1 hFc hP1 hD1 rfl
                  generalize H1 = H at hP hS ⊢
                  refine lv_istore (lv' := [(7, .int rn34), (10, .int yn21), (9, .int yn20), (8, .int (nI i1)), (0, .ref p0), (1, .int (nI mi)), (2, .int d), (3, .int a1), (4, .int a2), (5, .int a3), (6, .int a4)]) hx hb dX3_conditionHolds_140 hl (by decide) rfl (fun ls hl => ?_)
                  refine lv_goto (tgt := 220) hx hb dX3_conditionHolds_142 (by decide) ?_
                  refine lv_iinc (v := (nI (i1 + 1))) (lv' := [(8, .int (nI (i1 + 1))), (7, .int rn34), (10, .int yn21), (9, .int yn20), (0, .ref p0), (1, .int (nI mi)), (2, .int d), (3, .int a1), (4, .int a2), (5, .int a3), (6, .int a4)]) hx hb dX3_conditionHolds_220 hl (k := 3) rfl (nI_1 _) (by decide) rfl (fun ls hl => ?_)
                  refine lv_goto (tgt := 10) hx hb dX3_conditionHolds_223 (by decide) ?_
                  obtain ⟨hP9, hD9⟩ := PDq.sub (ws' := [(p7, .inl (cA 0, 350, .inl fst)), (p8, .inl (cA 0, 350, .inl fop)), (oX3 p0 pr pb pe pg p1 (nI nd) p2 p3 p4 p5 (nI cn) p6 (nI pq) p7 p8 p9 (nI sc)), (p9, .inl (cA 0, 10, .inl fen))]) hP hD [0, 1, 2, 3] (by decide) rfl
                  exact ih1 (i1 + 1) rn34 H _ ls (by omega) hP9 hD9 hS (lv_sub hl [0, 1, 4, 5, 6, 7, 8, 9, 10] rfl)
                · skip
                  refine lv_iconst (v := 1) hx hb dX3_conditionHolds_132 (by decide) ?_
                  refine lv_goto (tgt := 137) hx hb dX3_conditionHolds_133 (by decide) ?_
                  obtain ⟨hPc, hDc, hFc⟩ := PDq.cut (wc := []) hP hD hS hA [] (by decide) rfl
                  refine va_calli (va_runS (As := [.int x7_1, .int 1]) (rest := []) ⟨hx, hb, hml, hown, hts⟩ (s_withAnswer l D cA sa x7_1 1 H.size) (va_cwS 2 hts gX3_conditionHolds_X3_withAnswer rfl rfl rfl (by decide +kernel) ⟨(Nat.le_of_ble_eq_true rfl), (Nat.le_of_ble_eq_true rfl)⟩) ⟨Wd.blind, fun U hU hW => ⟨rfl, Wd.call hPc hDc hK hC hZ hS hFc U hU hW⟩⟩ rfl rfl hl.1 rfl (lv_room (Nat.le_of_ble_eq_true rfl)) dX3_conditionHolds_137 ⟨(Nat.le_of_ble_eq_true rfl), (Nat.le_of_ble_eq_true rfl)⟩) hS (fun q _ h => hFc q h) hFc (fun rn35 u t H1 locs ht hvm hw hB hz1 hk1 hS => ?_)
                  obtain ⟨hP1, hD1⟩ := hB
                  rw [ht] at hP1
                  obtain ⟨hP, hD⟩ := PDq.join (w := [(p7, .inl (cA 0, 350, .inl fst)), (p8, .inl (cA 0, 350, .inl fop)), (oX3 p0 pr pb pe pg p1 (nI nd) p2 p3 p4 p5 (nI cn) p6 (nI pq) p7 p8 p9 (nI sc)), (p9, .inl (cA 0, 10, .inl fen))]) 4 hP hD [] [0, 1, 2, 3] rfl rfl (by decide) (by decide) hk1 hFc hP1 hD1 rfl
                  generalize H1 = H at hP hS ⊢
                  refine lv_istore (lv' := [(7, .int rn35), (10, .int yn21), (9, .int yn20), (8, .int (nI i1)), (0, .ref p0), (1, .int (nI mi)), (2, .int d), (3, .int a1), (4, .int a2), (5, .int a3), (6, .int a4)]) hx hb dX3_conditionHolds_140 hl (by decide) rfl (fun ls hl => ?_)
                  refine lv_goto (tgt := 220) hx hb dX3_conditionHolds_142 (by decide) ?_
                  refine lv_iinc (v := (nI (i1 + 1))) (lv' := [(8, .int (nI (i1 + 1))), (7, .int rn35), (10, .int yn21), (9, .int yn20), (0, .ref p0), (1, .int (nI mi)), (2, .int d), (3, .int a1), (4, .int a2), (5, .int a3), (6, .int a4)]) hx hb dX3_conditionHolds_220 hl (k := 3) rfl (nI_1 _) (by decide) rfl (fun ls hl => ?_)
                  refine lv_goto (tgt := 10) hx hb dX3_conditionHolds_223 (by decide) ?_
                  obtain ⟨hP9, hD9⟩ := PDq.sub (ws' := [(p7, .inl (cA 0, 350, .inl fst)), (p8, .inl (cA 0, 350, .inl fop)), (oX3 p0 pr pb pe pg p1 (nI nd) p2 p3 p4 p5 (nI cn) p6 (nI pq) p7 p8 p9 (nI sc)), (p9, .inl (cA 0, 10, .inl fen))]) hP hD [0, 1, 2, 3] (by decide) rfl
                  exact ih1 (i1 + 1) rn35 H _ ls (by omega) hP9 hD9 hS (lv_sub hl [0, 1, 4, 5, 6, 7, 8, 9, 10] rfl)
              · skip
                by_cases hn36 : yn22 = 18
                · skip
                  refine W.eq (g2 := F0 m 43 ls [.int 18]) (by rw [hn36]) ?_
                  refine lv_tableIn (off := 102) (tgt := 145) hx hb dX3_conditionHolds_43 (by decide) (by decide) (by decide) (by decide) ?_
                  refine lv_iload hx hb dX3_conditionHolds_145 (lv_at hl 3 rfl) ?_
                  refine lv_iload_n hx hb dX3_conditionHolds_147 rfl (lv_at hl 7 rfl) ?_
                  refine lv_iload hx hb dX3_conditionHolds_148 (lv_at hl 0 rfl) ?_
                  obtain ⟨hPc, hDc, hFc⟩ := PDq.cut (wc := []) hP hD hS hA [] (by decide) rfl
                  refine va_calli (va_runS (As := [.int a1, .int yn21]) (rest := [.int x7_1]) ⟨hx, hb, hml, hown, hts⟩ (s_contains l D cA sa a1 yn21 H.size) (va_cwS 2 hts gX3_conditionHolds_X3_contains rfl rfl rfl (by decide +kernel) ⟨(Nat.le_of_ble_eq_true rfl), (Nat.le_of_ble_eq_true rfl)⟩) ⟨Wd.blind, fun U hU hW => ⟨rfl, Wd.call hPc hDc hK hC hZ hS hFc U hU hW⟩⟩ rfl rfl hl.1 rfl (lv_room (Nat.le_of_ble_eq_true rfl)) dX3_conditionHolds_150 ⟨(Nat.le_of_ble_eq_true rfl), (Nat.le_of_ble_eq_true rfl)⟩) hS (fun q _ h => hFc q h) hFc (fun rn37 u t H1 locs ht hvm hw hB hz1 hk1 hS => ?_)
                  obtain ⟨hP1, hD1⟩ := hB
                  rw [ht] at hP1
                  obtain ⟨hP, hD⟩ := PDq.join (w := [(p7, .inl (cA 0, 350, .inl fst)), (p8, .inl (cA 0, 350, .inl fop)), (oX3 p0 pr pb pe pg p1 (nI nd) p2 p3 p4 p5 (nI cn) p6 (nI pq) p7 p8 p9 (nI sc)), (p9, .inl (cA 0, 10, .inl fen))]) 4 hP hD [] [0, 1, 2, 3] rfl rfl (by decide) (by decide) hk1 hFc hP1 hD1 rfl
                  generalize H1 = H at hP hS ⊢
                  have hn38 := hw
                  obtain ⟨hPc, hDc, hFc⟩ := PDq.cut (wc := []) hP hD hS hA [] (by decide) rfl
                  refine va_calli (va_runS (As := [.int x7_1, .int rn37]) (rest := []) ⟨hx, hb, hml, hown, hts⟩ (s_withAnswer l D cA sa x7_1 rn37 H.size) (va_cwS 2 hts gX3_conditionHolds_X3_withAnswer rfl rfl rfl (by decide +kernel) ⟨(Nat.le_of_ble_eq_true rfl), (Nat.le_of_ble_eq_true rfl)⟩) ⟨Wd.blind, fun U hU hW => ⟨rfl, Wd.call hPc hDc hK hC hZ hS hFc U hU hW⟩⟩ rfl rfl hl.1 rfl (lv_room (Nat.le_of_ble_eq_true rfl)) dX3_conditionHolds_153 ⟨(Nat.le_of_ble_eq_true rfl), (Nat.le_of_ble_eq_true rfl)⟩) hS (fun q _ h => hFc q h) hFc (fun rn39 u t H1 locs ht hvm hw hB hz1 hk1 hS => ?_)
                  obtain ⟨hP1, hD1⟩ := hB
                  rw [ht] at hP1
                  obtain ⟨hP, hD⟩ := PDq.join (w := [(p7, .inl (cA 0, 350, .inl fst)), (p8, .inl (cA 0, 350, .inl fop)), (oX3 p0 pr pb pe pg p1 (nI nd) p2 p3 p4 p5 (nI cn) p6 (nI pq) p7 p8 p9 (nI sc)), (p9, .inl (cA 0, 10, .inl fen))]) 4 hP hD [] [0, 1, 2, 3] rfl rfl (by decide) (by decide) hk1 hFc hP1 hD1 rfl
                  generalize H1 = H at hP hS ⊢
                  refine lv_istore (lv' := [(7, .int rn39), (10, .int yn21), (9, .int yn20), (8, .int (nI i1)), (0, .ref p0), (1, .int (nI mi)), (2, .int d), (3, .int a1), (4, .int a2), (5, .int a3), (6, .int a4)]) hx hb dX3_conditionHolds_156 hl (by decide) rfl (fun ls hl => ?_)
                  refine lv_goto (tgt := 220) hx hb dX3_conditionHolds_158 (by decide) ?_
                  refine lv_iinc (v := (nI (i1 + 1))) (lv' := [(8, .int (nI (i1 + 1))), (7, .int rn39), (10, .int yn21), (9, .int yn20), (0, .ref p0), (1, .int (nI mi)), (2, .int d), (3, .int a1), (4, .int a2), (5, .int a3), (6, .int a4)]) hx hb dX3_conditionHolds_220 hl (k := 3) rfl (nI_1 _) (by decide) rfl (fun ls hl => ?_)
                  refine lv_goto (tgt := 10) hx hb dX3_conditionHolds_223 (by decide) ?_
                  obtain ⟨hP9, hD9⟩ := PDq.sub (ws' := [(p7, .inl (cA 0, 350, .inl fst)), (p8, .inl (cA 0, 350, .inl fop)), (oX3 p0 pr pb pe pg p1 (nI nd) p2 p3 p4 p5 (nI cn) p6 (nI pq) p7 p8 p9 (nI sc)), (p9, .inl (cA 0, 10, .inl fen))]) hP hD [0, 1, 2, 3] (by decide) rfl
                  exact ih1 (i1 + 1) rn39 H _ ls (by omega) hP9 hD9 hS (lv_sub hl [0, 1, 4, 5, 6, 7, 8, 9, 10] rfl)
                · skip
                  by_cases hn40 : yn22 = 19
                  · skip
                    refine W.eq (g2 := F0 m 43 ls [.int 19]) (by rw [hn40]) ?_
                    refine lv_tableIn (off := 118) (tgt := 161) hx hb dX3_conditionHolds_43 (by decide) (by decide) (by decide) (by decide) ?_
                    refine lv_iload hx hb dX3_conditionHolds_161 (lv_at hl 3 rfl) ?_
                    refine lv_iload hx hb dX3_conditionHolds_163 (lv_at hl 8 rfl) ?_
                    refine lv_iload hx hb dX3_conditionHolds_165 (lv_at hl 0 rfl) ?_
                    obtain ⟨hPc, hDc, hFc⟩ := PDq.cut (wc := []) hP hD hS hA [] (by decide) rfl
                    refine va_calli (va_runS (As := [.int a2, .int yn21]) (rest := [.int x7_1]) ⟨hx, hb, hml, hown, hts⟩ (s_contains l D cA sa a2 yn21 H.size) (va_cwS 2 hts gX3_conditionHolds_X3_contains rfl rfl rfl (by decide +kernel) ⟨(Nat.le_of_ble_eq_true rfl), (Nat.le_of_ble_eq_true rfl)⟩) ⟨Wd.blind, fun U hU hW => ⟨rfl, Wd.call hPc hDc hK hC hZ hS hFc U hU hW⟩⟩ rfl rfl hl.1 rfl (lv_room (Nat.le_of_ble_eq_true rfl)) dX3_conditionHolds_167 ⟨(Nat.le_of_ble_eq_true rfl), (Nat.le_of_ble_eq_true rfl)⟩) hS (fun q _ h => hFc q h) hFc (fun rn41 u t H1 locs ht hvm hw hB hz1 hk1 hS => ?_)
                    obtain ⟨hP1, hD1⟩ := hB
                    rw [ht] at hP1
                    obtain ⟨hP, hD⟩ := PDq.join (w := [(p7, .inl (cA 0, 350, .inl fst)), (p8, .inl (cA 0, 350, .inl fop)), (oX3 p0 pr pb pe pg p1 (nI nd) p2 p3 p4 p5 (nI cn) p6 (nI pq) p7 p8 p9 (nI sc)), (p9, .inl (cA 0, 10, .inl fen))]) 4 hP hD [] [0, 1, 2, 3] rfl rfl (by decide) (by decide) hk1 hFc hP1 hD1 rfl
                    generalize H1 = H at hP hS ⊢
                    have hn42 := hw
                    obtain ⟨hPc, hDc, hFc⟩ := PDq.cut (wc := []) hP hD hS hA [] (by decide) rfl
                    refine va_calli (va_runS (As := [.int x7_1, .int rn41]) (rest := []) ⟨hx, hb, hml, hown, hts⟩ (s_withAnswer l D cA sa x7_1 rn41 H.size) (va_cwS 2 hts gX3_conditionHolds_X3_withAnswer rfl rfl rfl (by decide +kernel) ⟨(Nat.le_of_ble_eq_true rfl), (Nat.le_of_ble_eq_true rfl)⟩) ⟨Wd.blind, fun U hU hW => ⟨rfl, Wd.call hPc hDc hK hC hZ hS hFc U hU hW⟩⟩ rfl rfl hl.1 rfl (lv_room (Nat.le_of_ble_eq_true rfl)) dX3_conditionHolds_170 ⟨(Nat.le_of_ble_eq_true rfl), (Nat.le_of_ble_eq_true rfl)⟩) hS (fun q _ h => hFc q h) hFc (fun rn43 u t H1 locs ht hvm hw hB hz1 hk1 hS => ?_)
                    obtain ⟨hP1, hD1⟩ := hB
                    rw [ht] at hP1
                    obtain ⟨hP, hD⟩ := PDq.join (w := [(p7, .inl (cA 0, 350, .inl fst)), (p8, .inl (cA 0, 350, .inl fop)), (oX3 p0 pr pb pe pg p1 (nI nd) p2 p3 p4 p5 (nI cn) p6 (nI pq) p7 p8 p9 (nI sc)), (p9, .inl (cA 0, 10, .inl fen))]) 4 hP hD [] [0, 1, 2, 3] rfl rfl (by decide) (by decide) hk1 hFc hP1 hD1 rfl
                    generalize H1 = H at hP hS ⊢
                    refine lv_istore (lv' := [(7, .int rn43), (10, .int yn21), (9, .int yn20), (8, .int (nI i1)), (0, .ref p0), (1, .int (nI mi)), (2, .int d), (3, .int a1), (4, .int a2), (5, .int a3), (6, .int a4)]) hx hb dX3_conditionHolds_173 hl (by decide) rfl (fun ls hl => ?_)
                    refine lv_goto (tgt := 220) hx hb dX3_conditionHolds_175 (by decide) ?_
                    refine lv_iinc (v := (nI (i1 + 1))) (lv' := [(8, .int (nI (i1 + 1))), (7, .int rn43), (10, .int yn21), (9, .int yn20), (0, .ref p0), (1, .int (nI mi)), (2, .int d), (3, .int a1), (4, .int a2), (5, .int a3), (6, .int a4)]) hx hb dX3_conditionHolds_220 hl (k := 3) rfl (nI_1 _) (by decide) rfl (fun ls hl => ?_)
                    refine lv_goto (tgt := 10) hx hb dX3_conditionHolds_223 (by decide) ?_
                    obtain ⟨hP9, hD9⟩ := PDq.sub (ws' := [(p7, .inl (cA 0, 350, .inl fst)), (p8, .inl (cA 0, 350, .inl fop)), (oX3 p0 pr pb pe pg p1 (nI nd) p2 p3 p4 p5 (nI cn) p6 (nI pq) p7 p8 p9 (nI sc)), (p9, .inl (cA 0, 10, .inl fen))]) hP hD [0, 1, 2, 3] (by decide) rfl
                    exact ih1 (i1 + 1) rn43 H _ ls (by omega) hP9 hD9 hS (lv_sub hl [0, 1, 4, 5, 6, 7, 8, 9, 10] rfl)
                  · skip
                    by_cases hn44 : yn22 = 20
                    · skip
                      refine W.eq (g2 := F0 m 43 ls [.int 20]) (by rw [hn44]) ?_
                      refine lv_tableIn (off := 135) (tgt := 178) hx hb dX3_conditionHolds_43 (by decide) (by decide) (by decide) (by decide) ?_
                      refine lv_iload hx hb dX3_conditionHolds_178 (lv_at hl 3 rfl) ?_
                      refine lv_iload hx hb dX3_conditionHolds_180 (lv_at hl 9 rfl) ?_
                      refine lv_iload hx hb dX3_conditionHolds_182 (lv_at hl 0 rfl) ?_
                      refine lv_icmp_lt (tgt := 191) hx hb dX3_conditionHolds_184 (by decide) (fun c45 => ?_) (fun c45 => ?_)
                      · skip
                        refine lv_iconst (v := 0) hx hb dX3_conditionHolds_191 (by decide) ?_
                        obtain ⟨hPc, hDc, hFc⟩ := PDq.cut (wc := []) hP hD hS hA [] (by decide) rfl
                        refine va_calli (va_runS (As := [.int x7_1, .int 0]) (rest := []) ⟨hx, hb, hml, hown, hts⟩ (s_withAnswer l D cA sa x7_1 0 H.size) (va_cwS 2 hts gX3_conditionHolds_X3_withAnswer rfl rfl rfl (by decide +kernel) ⟨(Nat.le_of_ble_eq_true rfl), (Nat.le_of_ble_eq_true rfl)⟩) ⟨Wd.blind, fun U hU hW => ⟨rfl, Wd.call hPc hDc hK hC hZ hS hFc U hU hW⟩⟩ rfl rfl hl.1 rfl (lv_room (Nat.le_of_ble_eq_true rfl)) dX3_conditionHolds_192 ⟨(Nat.le_of_ble_eq_true rfl), (Nat.le_of_ble_eq_true rfl)⟩) hS (fun q _ h => hFc q h) hFc (fun rn46 u t H1 locs ht hvm hw hB hz1 hk1 hS => ?_)
                        obtain ⟨hP1, hD1⟩ := hB
                        rw [ht] at hP1
                        obtain ⟨hP, hD⟩ := PDq.join (w := [(p7, .inl (cA 0, 350, .inl fst)), (p8, .inl (cA 0, 350, .inl fop)), (oX3 p0 pr pb pe pg p1 (nI nd) p2 p3 p4 p5 (nI cn) p6 (nI pq) p7 p8 p9 (nI sc)), (p9, .inl (cA 0, 10, .inl fen))]) 4 hP hD [] [0, 1, 2, 3] rfl rfl (by decide) (by decide) hk1 hFc hP1 hD1 rfl
                        generalize H1 = H at hP hS ⊢
                        refine lv_istore (lv' := [(7, .int rn46), (10, .int yn21), (9, .int yn20), (8, .int (nI i1)), (0, .ref p0), (1, .int (nI mi)), (2, .int d), (3, .int a1), (4, .int a2), (5, .int a3), (6, .int a4)]) hx hb dX3_conditionHolds_195 hl (by decide) rfl (fun ls hl => ?_)
                        refine lv_goto (tgt := 220) hx hb dX3_conditionHolds_197 (by decide) ?_
                        refine lv_iinc (v := (nI (i1 + 1))) (lv' := [(8, .int (nI (i1 + 1))), (7, .int rn46), (10, .int yn21), (9, .int yn20), (0, .ref p0), (1, .int (nI mi)), (2, .int d), (3, .int a1), (4, .int a2), (5, .int a3), (6, .int a4)]) hx hb dX3_conditionHolds_220 hl (k := 3) rfl (nI_1 _) (by decide) rfl (fun ls hl => ?_)
                        refine lv_goto (tgt := 10) hx hb dX3_conditionHolds_223 (by decide) ?_
                        obtain ⟨hP9, hD9⟩ := PDq.sub (ws' := [(p7, .inl (cA 0, 350, .inl fst)), (p8, .inl (cA 0, 350, .inl fop)), (oX3 p0 pr pb pe pg p1 (nI nd) p2 p3 p4 p5 (nI cn) p6 (nI pq) p7 p8 p9 (nI sc)), (p9, .inl (cA 0, 10, .inl fen))]) hP hD [0, 1, 2, 3] (by decide) rfl
                        exact ih1 (i1 + 1) rn46 H _ ls (by omega) hP9 hD9 hS (lv_sub hl [0, 1, 4, 5, 6, 7, 8, 9, 10] rfl)
                      · skip
                        refine lv_iconst (v := 1) hx hb dX3_conditionHolds_187 (by decide) ?_
                        refine lv_goto (tgt := 192) hx hb dX3_conditionHolds_188 (by decide) ?_
                        obtain ⟨hPc, hDc, hFc⟩ := PDq.cut (wc := []) hP hD hS hA [] (by decide) rfl
                        refine va_calli (va_runS (As := [.int x7_1, .int 1]) (rest := []) ⟨hx, hb, hml, hown, hts⟩ (s_withAnswer l D cA sa x7_1 1 H.size) (va_cwS 2 hts gX3_conditionHolds_X3_withAnswer rfl rfl rfl (by decide +kernel) ⟨(Nat.le_of_ble_eq_true rfl), (Nat.le_of_ble_eq_true rfl)⟩) ⟨Wd.blind, fun U hU hW => ⟨rfl, Wd.call hPc hDc hK hC hZ hS hFc U hU hW⟩⟩ rfl rfl hl.1 rfl (lv_room (Nat.le_of_ble_eq_true rfl)) dX3_conditionHolds_192 ⟨(Nat.le_of_ble_eq_true rfl), (Nat.le_of_ble_eq_true rfl)⟩) hS (fun q _ h => hFc q h) hFc (fun rn47 u t H1 locs ht hvm hw hB hz1 hk1 hS => ?_)
                        obtain ⟨hP1, hD1⟩ := hB
                        rw [ht] at hP1
                        obtain ⟨hP, hD⟩ := PDq.join (w := [(p7, .inl (cA 0, 350, .inl fst)), (p8, .inl (cA 0, 350, .inl fop)), (oX3 p0 pr pb pe pg p1 (nI nd) p2 p3 p4 p5 (nI cn) p6 (nI pq) p7 p8 p9 (nI sc)), (p9, .inl (cA 0, 10, .inl fen))]) 4 hP hD [] [0, 1, 2, 3] rfl rfl (by decide) (by decide) hk1 hFc hP1 hD1 rfl
                        generalize H1 = H at hP hS ⊢
                        refine lv_istore (lv' := [(7, .int rn47), (10, .int yn21), (9, .int yn20), (8, .int (nI i1)), (0, .ref p0), (1, .int (nI mi)), (2, .int d), (3, .int a1), (4, .int a2), (5, .int a3), (6, .int a4)]) hx hb dX3_conditionHolds_195 hl (by decide) rfl (fun ls hl => ?_)
                        refine lv_goto (tgt := 220) hx hb dX3_conditionHolds_197 (by decide) ?_
                        refine lv_iinc (v := (nI (i1 + 1))) (lv' := [(8, .int (nI (i1 + 1))), (7, .int rn47), (10, .int yn21), (9, .int yn20), (0, .ref p0), (1, .int (nI mi)), (2, .int d), (3, .int a1), (4, .int a2), (5, .int a3), (6, .int a4)]) hx hb dX3_conditionHolds_220 hl (k := 3) rfl (nI_1 _) (by decide) rfl (fun ls hl => ?_)
                        refine lv_goto (tgt := 10) hx hb dX3_conditionHolds_223 (by decide) ?_
                        obtain ⟨hP9, hD9⟩ := PDq.sub (ws' := [(p7, .inl (cA 0, 350, .inl fst)), (p8, .inl (cA 0, 350, .inl fop)), (oX3 p0 pr pb pe pg p1 (nI nd) p2 p3 p4 p5 (nI cn) p6 (nI pq) p7 p8 p9 (nI sc)), (p9, .inl (cA 0, 10, .inl fen))]) hP hD [0, 1, 2, 3] (by decide) rfl
                        exact ih1 (i1 + 1) rn47 H _ ls (by omega) hP9 hD9 hS (lv_sub hl [0, 1, 4, 5, 6, 7, 8, 9, 10] rfl)
                    · skip
                      by_cases hn48 : yn22 = 21
                      · skip
                        refine W.eq (g2 := F0 m 43 ls [.int 21]) (by rw [hn48]) ?_
                        refine lv_tableIn (off := 157) (tgt := 200) hx hb dX3_conditionHolds_43 (by decide) (by decide) (by decide) (by decide) ?_
                        refine lv_iload hx hb dX3_conditionHolds_200 (lv_at hl 3 rfl) ?_
                        refine lv_iload hx hb dX3_conditionHolds_202 (lv_at hl 10 rfl) ?_
                        obtain ⟨hPc, hDc, hFc⟩ := PDq.cut (wc := []) hP hD hS hA [] (by decide) rfl
                        refine va_calli (va_runS (As := [.int x7_1, .int a4]) (rest := []) ⟨hx, hb, hml, hown, hts⟩ (s_withAnswer l D cA sa x7_1 a4 H.size) (va_cwS 2 hts gX3_conditionHolds_X3_withAnswer rfl rfl rfl (by decide +kernel) ⟨(Nat.le_of_ble_eq_true rfl), (Nat.le_of_ble_eq_true rfl)⟩) ⟨Wd.blind, fun U hU hW => ⟨rfl, Wd.call hPc hDc hK hC hZ hS hFc U hU hW⟩⟩ rfl rfl hl.1 rfl (lv_room (Nat.le_of_ble_eq_true rfl)) dX3_conditionHolds_204 ⟨(Nat.le_of_ble_eq_true rfl), (Nat.le_of_ble_eq_true rfl)⟩) hS (fun q _ h => hFc q h) hFc (fun rn49 u t H1 locs ht hvm hw hB hz1 hk1 hS => ?_)
                        obtain ⟨hP1, hD1⟩ := hB
                        rw [ht] at hP1
                        obtain ⟨hP, hD⟩ := PDq.join (w := [(p7, .inl (cA 0, 350, .inl fst)), (p8, .inl (cA 0, 350, .inl fop)), (oX3 p0 pr pb pe pg p1 (nI nd) p2 p3 p4 p5 (nI cn) p6 (nI pq) p7 p8 p9 (nI sc)), (p9, .inl (cA 0, 10, .inl fen))]) 4 hP hD [] [0, 1, 2, 3] rfl rfl (by decide) (by decide) hk1 hFc hP1 hD1 rfl
                        generalize H1 = H at hP hS ⊢
                        refine lv_istore (lv' := [(7, .int rn49), (10, .int yn21), (9, .int yn20), (8, .int (nI i1)), (0, .ref p0), (1, .int (nI mi)), (2, .int d), (3, .int a1), (4, .int a2), (5, .int a3), (6, .int a4)]) hx hb dX3_conditionHolds_207 hl (by decide) rfl (fun ls hl => ?_)
                        refine lv_goto (tgt := 220) hx hb dX3_conditionHolds_209 (by decide) ?_
                        refine lv_iinc (v := (nI (i1 + 1))) (lv' := [(8, .int (nI (i1 + 1))), (7, .int rn49), (10, .int yn21), (9, .int yn20), (0, .ref p0), (1, .int (nI mi)), (2, .int d), (3, .int a1), (4, .int a2), (5, .int a3), (6, .int a4)]) hx hb dX3_conditionHolds_220 hl (k := 3) rfl (nI_1 _) (by decide) rfl (fun ls hl => ?_)
                        refine lv_goto (tgt := 10) hx hb dX3_conditionHolds_223 (by decide) ?_
                        obtain ⟨hP9, hD9⟩ := PDq.sub (ws' := [(p7, .inl (cA 0, 350, .inl fst)), (p8, .inl (cA 0, 350, .inl fop)), (oX3 p0 pr pb pe pg p1 (nI nd) p2 p3 p4 p5 (nI cn) p6 (nI pq) p7 p8 p9 (nI sc)), (p9, .inl (cA 0, 10, .inl fen))]) hP hD [0, 1, 2, 3] (by decide) rfl
                        exact ih1 (i1 + 1) rn49 H _ ls (by omega) hP9 hD9 hS (lv_sub hl [0, 1, 4, 5, 6, 7, 8, 9, 10] rfl)
                      · skip
                        refine lv_tableOut (tgt := 212) hx hb dX3_conditionHolds_43 (by have q0 : ¬ (yn22).toInt = 14 := fun e9 => hn23 (Int32.toInt_inj.mp (e9.trans (by decide))); have q1 : ¬ (yn22).toInt = 15 := fun e9 => hn26 (Int32.toInt_inj.mp (e9.trans (by decide))); have q2 : ¬ (yn22).toInt = 16 := fun e9 => hn30 (Int32.toInt_inj.mp (e9.trans (by decide))); have q3 : ¬ (yn22).toInt = 17 := fun e9 => hn32 (Int32.toInt_inj.mp (e9.trans (by decide))); have q4 : ¬ (yn22).toInt = 18 := fun e9 => hn36 (Int32.toInt_inj.mp (e9.trans (by decide))); have q5 : ¬ (yn22).toInt = 19 := fun e9 => hn40 (Int32.toInt_inj.mp (e9.trans (by decide))); have q6 : ¬ (yn22).toInt = 20 := fun e9 => hn44 (Int32.toInt_inj.mp (e9.trans (by decide))); have q7 : ¬ (yn22).toInt = 21 := fun e9 => hn48 (Int32.toInt_inj.mp (e9.trans (by decide))); omega) (by decide) ?_
                        refine lv_iload hx hb dX3_conditionHolds_212 (lv_at hl 3 rfl) ?_
                        refine lv_iconst (v := 1) hx hb dX3_conditionHolds_214 (by decide) ?_
                        obtain ⟨hPc, hDc, hFc⟩ := PDq.cut (wc := []) hP hD hS hA [] (by decide) rfl
                        refine va_calli (va_runS (As := [.int x7_1, .int 1]) (rest := []) ⟨hx, hb, hml, hown, hts⟩ (s_withAnswer l D cA sa x7_1 1 H.size) (va_cwS 2 hts gX3_conditionHolds_X3_withAnswer rfl rfl rfl (by decide +kernel) ⟨(Nat.le_of_ble_eq_true rfl), (Nat.le_of_ble_eq_true rfl)⟩) ⟨Wd.blind, fun U hU hW => ⟨rfl, Wd.call hPc hDc hK hC hZ hS hFc U hU hW⟩⟩ rfl rfl hl.1 rfl (lv_room (Nat.le_of_ble_eq_true rfl)) dX3_conditionHolds_215 ⟨(Nat.le_of_ble_eq_true rfl), (Nat.le_of_ble_eq_true rfl)⟩) hS (fun q _ h => hFc q h) hFc (fun rn50 u t H1 locs ht hvm hw hB hz1 hk1 hS => ?_)
                        obtain ⟨hP1, hD1⟩ := hB
                        rw [ht] at hP1
                        obtain ⟨hP, hD⟩ := PDq.join (w := [(p7, .inl (cA 0, 350, .inl fst)), (p8, .inl (cA 0, 350, .inl fop)), (oX3 p0 pr pb pe pg p1 (nI nd) p2 p3 p4 p5 (nI cn) p6 (nI pq) p7 p8 p9 (nI sc)), (p9, .inl (cA 0, 10, .inl fen))]) 4 hP hD [] [0, 1, 2, 3] rfl rfl (by decide) (by decide) hk1 hFc hP1 hD1 rfl
                        generalize H1 = H at hP hS ⊢
                        refine lv_istore (lv' := [(7, .int rn50), (10, .int yn21), (9, .int yn20), (8, .int (nI i1)), (0, .ref p0), (1, .int (nI mi)), (2, .int d), (3, .int a1), (4, .int a2), (5, .int a3), (6, .int a4)]) hx hb dX3_conditionHolds_218 hl (by decide) rfl (fun ls hl => ?_)
                        refine lv_iinc (v := (nI (i1 + 1))) (lv' := [(8, .int (nI (i1 + 1))), (7, .int rn50), (10, .int yn21), (9, .int yn20), (0, .ref p0), (1, .int (nI mi)), (2, .int d), (3, .int a1), (4, .int a2), (5, .int a3), (6, .int a4)]) hx hb dX3_conditionHolds_220 hl (k := 3) rfl (nI_1 _) (by decide) rfl (fun ls hl => ?_)
                        refine lv_goto (tgt := 10) hx hb dX3_conditionHolds_223 (by decide) ?_
                        obtain ⟨hP9, hD9⟩ := PDq.sub (ws' := [(p7, .inl (cA 0, 350, .inl fst)), (p8, .inl (cA 0, 350, .inl fop)), (oX3 p0 pr pb pe pg p1 (nI nd) p2 p3 p4 p5 (nI cn) p6 (nI pq) p7 p8 p9 (nI sc)), (p9, .inl (cA 0, 10, .inl fen))]) hP hD [0, 1, 2, 3] (by decide) rfl
                        exact ih1 (i1 + 1) rn50 H _ ls (by omega) hP9 hD9 hS (lv_sub hl [0, 1, 4, 5, 6, 7, 8, 9, 10] rfl)
  obtain ⟨hP9, hD9⟩ := PDq.sub (ws' := [(p7, .inl (cA 0, 350, .inl fst)), (p8, .inl (cA 0, 350, .inl fop)), (oX3 p0 pr pb pe pg p1 (nI nd) p2 p3 p4 p5 (nI cn) p6 (nI pq) p7 p8 p9 (nI sc)), (p9, .inl (cA 0, 10, .inl fen))]) hP hD [0, 1, 2, 3] (by decide) rfl
  exact loop1 (351 - kn2) kn2 0 _ _ ls (by omega) hP9 hD9 hS (lv_sub hl [0, 1, 2, 3, 4, 5, 6, 7, 8] rfl)

set_option maxHeartbeats 4000000 in
set_option maxRecDepth 100000 in
/-- payments -/
theorem s_payments (l : Launch) (D : va_G) (cA : Nat → ClassId) (sa : Nat → Nat) (a0 : Nat) (a1 : Nat) (a3 : Nat) (a4 : Nat) (a5 : Nat) (a6 : Nat) (p0 : Nat) (i6 : Int32) (i7 : Int32) (i8 : Int32) (i12 : Int32) (i13 : Int32) (i14 : Int32) (i15 : Int32) (i16 : Int32) (i17 : Int32) (i18 : Int32) (i19 : Int32) (i9 : Int64) (i10 : Int64) (i11 : Int64) (sz : Nat) : Met l yX0_payments wsX0_payments ({ frames := 0, cells := 0, slots := 0, locals := 0 }) (va_Pc [.ref a0] (Wd D cA sa [(oX0 a0 p0 a1 a3 a4 a5 a6 i6 i7 i8 i9 i10 i11 i12 i13 i14 i15 i16 i17 i18 i19)] sz)) (va_Qi (fun (r : Int32) (_ : Unit) => True) (fun (_ : Unit) t => Wq D (va_A [(oX0 a0 p0 a1 a3 a4 a5 a6 i6 i7 i8 i9 i10 i11 i12 i13 i14 i15 i16 i17 i18 i19)] sz) [(oX0 a0 p0 a1 a3 a4 a5 a6 i6 i7 i8 i9 i10 i11 i12 i13 i14 i15 i16 i17 i18 i19)] t) (va_A [(oX0 a0 p0 a1 a3 a4 a5 a6 i6 i7 i8 i9 i10 i11 i12 i13 i14 i15 i16 i17 i18 i19)] sz)) 0 0 (va_A [(oX0 a0 p0 a1 a3 a4 a5 a6 i6 i7 i8 i9 i10 i11 i12 i13 i14 i15 i16 i17 i18 i19)] sz) := by
  refine Met.ofW (cc := cX0_payments) (maxL := 1) (ret := (some .int)) (by decide) rfl ?_
  intro p e s m args below meth c s₁ B hml hv
  obtain ⟨rfl, hsz, hP, hK, hD0, hC, hZ⟩ := hv
  have hx := B.exec
  have hb := B.bytes
  have hr := B.returns
  have hts := atoms_spec (ws := wsX0_payments) B.pre
  have hown : s.vm.findClass RX0 = some m.cls := findClass_of_methodNamed B.named
  have hlocks := B.notSynchronized
  subst hsz
  have hD := hD0.self (sz := s.heap.size)
  generalize hAe : va_A [(oX0 a0 p0 a1 a3 a4 a5 a6 i6 i7 i8 i9 i10 i11 i12 i13 i14 i15 i16 i17 i18 i19)] s.heap.size = A at hD hZ ⊢
  have hA : ∀ q : Nat, s.heap.size ≤ q → A q := fun q h => by rw [← hAe]; exact Or.inr h
  have hS : va_S A s.heap s.heap [] := va_S.rf
  have hP : va_P D vwCl [(oX0 a0 p0 a1 a3 a4 a5 a6 i6 i7 i8 i9 i10 i11 i12 i13 i14 i15 i16 i17 i18 i19)] s.heap := hP
  have hl := lv_entry ([.ref a0]) (n := 1) (Nat.le_of_ble_eq_true rfl)
  rw [lg_entry_eq]
  generalize (lg_sl ([.ref a0]) ++ List.replicate (1 - (lg_sl ([.ref a0])).length) Slot.unset).toArray = ls at hl ⊢
  have hl : lv_has ls 1 [(0, .ref a0)] := hl
  have inX0 : ∀ w ∈ u_ws RX0 TX0 20, w ∈ wsX0_payments := by decide +kernel
  refine lv_aload_n hx hb dX0_payments_0 rfl (lv_at hl 0 rfl) ?_
  refine va_get (D := D) (ci := 4) (v := .int i12) (C := RX0) (T := TX0) (N := 20) hx hb hts inX0 hown hK hP 0 rfl rfl 12 (by decide) (hts (.fieldLink RX0 60 "EscrowDesk$Account" "received" "I") (by decide +kernel)) (fun _ h9 => h9) rfl dX0_payments_1 ?_
  refine lv_aload_n hx hb dX0_payments_4 rfl (lv_at hl 0 rfl) ?_
  refine va_get (D := D) (ci := 4) (v := .int i13) (C := RX0) (T := TX0) (N := 20) hx hb hts inX0 hown hK hP 0 rfl rfl 13 (by decide) (hts (.fieldLink RX0 63 "EscrowDesk$Account" "fees" "I") (by decide +kernel)) (fun _ h9 => h9) rfl dX0_payments_5 ?_
  refine lv_iadd hx hb dX0_payments_8 ?_
  refine lv_topi (fun yn1 eyn1 => ?_)
  obtain ⟨hP9, hD9⟩ := PDq.sub (ws' := [(oX0 a0 p0 a1 a3 a4 a5 a6 i6 i7 i8 i9 i10 i11 i12 i13 i14 i15 i16 i17 i18 i19)]) hP hD [0] (by decide) rfl
  refine W.widen (k := 0) (n := 0) (Nat.le_of_ble_eq_true rfl) (Nat.le_of_ble_eq_true rfl) ?_
  exact (W.iret (v := yn1) hx hb hr (fun t ht hW => ⟨⟨yn1, (), rfl, trivial, by rw [ht]; exact hP9, hD9⟩, hS.F ht⟩) hS.2.2 dX0_payments_9)

set_option maxHeartbeats 4000000 in
set_option maxRecDepth 100000 in
/-- availableMoney -/
theorem s_availMoney (l : Launch) (D : va_G) (cA : Nat → ClassId) (sa : Nat → Nat) (a0 : Nat) (a1 : Nat) (a3 : Nat) (a4 : Nat) (a5 : Nat) (a6 : Nat) (p0 : Nat) (i6 : Int32) (i7 : Int32) (i8 : Int32) (i12 : Int32) (i13 : Int32) (i14 : Int32) (i15 : Int32) (i16 : Int32) (i17 : Int32) (i18 : Int32) (i19 : Int32) (i9 : Int64) (i10 : Int64) (i11 : Int64) (p1 : Nat) (p2 : Nat) (p3 : Nat) (p4 : Nat) (p5 : Nat) (p6 : Nat) (p7 : Nat) (p8 : Nat) (p9 : Nat) (cn : Nat) (pq : Nat) (nd : Nat) (sc : Nat) (pr : Int32) (pb : Int32) (pe : Int32) (pg : Int32) (ff : Nat → Int32) (sz : Nat) (hcn : cn ≤ 10) (hpq : pq ≤ 8) (hnd : nd ≤ 6) (hsc : sc ≤ 350) : Met l yX0_availableMoney wsX0_availableMoney ({ frames := 0, cells := 0, slots := 0, locals := 0 }) (va_Pc [.ref a0] (Wd D cA sa [(oX0 a0 p0 a1 a3 a4 a5 a6 i6 i7 i8 i9 i10 i11 i12 i13 i14 i15 i16 i17 i18 i19), (oX3 p0 pr pb pe pg p1 (nI nd) p2 p3 p4 p5 (nI cn) p6 (nI pq) p7 p8 p9 (nI sc)), (a5, .inl (cA 0, 10, .inl ff))] sz)) (va_Qi (fun (r : Int32) (_ : Unit) => True) (fun (_ : Unit) t => Wq D (va_A [(oX0 a0 p0 a1 a3 a4 a5 a6 i6 i7 i8 i9 i10 i11 i12 i13 i14 i15 i16 i17 i18 i19), (oX3 p0 pr pb pe pg p1 (nI nd) p2 p3 p4 p5 (nI cn) p6 (nI pq) p7 p8 p9 (nI sc)), (a5, .inl (cA 0, 10, .inl ff))] sz) [(oX0 a0 p0 a1 a3 a4 a5 a6 i6 i7 i8 i9 i10 i11 i12 i13 i14 i15 i16 i17 i18 i19), (oX3 p0 pr pb pe pg p1 (nI nd) p2 p3 p4 p5 (nI cn) p6 (nI pq) p7 p8 p9 (nI sc)), (a5, .inl (cA 0, 10, .inl ff))] t) (va_A [(oX0 a0 p0 a1 a3 a4 a5 a6 i6 i7 i8 i9 i10 i11 i12 i13 i14 i15 i16 i17 i18 i19), (oX3 p0 pr pb pe pg p1 (nI nd) p2 p3 p4 p5 (nI cn) p6 (nI pq) p7 p8 p9 (nI sc)), (a5, .inl (cA 0, 10, .inl ff))] sz)) 0 0 (va_A [(oX0 a0 p0 a1 a3 a4 a5 a6 i6 i7 i8 i9 i10 i11 i12 i13 i14 i15 i16 i17 i18 i19), (oX3 p0 pr pb pe pg p1 (nI nd) p2 p3 p4 p5 (nI cn) p6 (nI pq) p7 p8 p9 (nI sc)), (a5, .inl (cA 0, 10, .inl ff))] sz) := by
  refine Met.ofW (cc := cX0_availableMoney) (maxL := 3) (ret := (some .int)) (by decide) rfl ?_
  intro p e s m args below meth c s₁ B hml hv
  obtain ⟨rfl, hsz, hP, hK, hD0, hC, hZ⟩ := hv
  have hx := B.exec
  have hb := B.bytes
  have hr := B.returns
  have hts := atoms_spec (ws := wsX0_availableMoney) B.pre
  have hown : s.vm.findClass RX0 = some m.cls := findClass_of_methodNamed B.named
  have hlocks := B.notSynchronized
  subst hsz
  have hD := hD0.self (sz := s.heap.size)
  generalize hAe : va_A [(oX0 a0 p0 a1 a3 a4 a5 a6 i6 i7 i8 i9 i10 i11 i12 i13 i14 i15 i16 i17 i18 i19), (oX3 p0 pr pb pe pg p1 (nI nd) p2 p3 p4 p5 (nI cn) p6 (nI pq) p7 p8 p9 (nI sc)), (a5, .inl (cA 0, 10, .inl ff))] s.heap.size = A at hD hZ ⊢
  have hA : ∀ q : Nat, s.heap.size ≤ q → A q := fun q h => by rw [← hAe]; exact Or.inr h
  have hS : va_S A s.heap s.heap [] := va_S.rf
  have hP : va_P D vwCl [(oX0 a0 p0 a1 a3 a4 a5 a6 i6 i7 i8 i9 i10 i11 i12 i13 i14 i15 i16 i17 i18 i19), (oX3 p0 pr pb pe pg p1 (nI nd) p2 p3 p4 p5 (nI cn) p6 (nI pq) p7 p8 p9 (nI sc)), (a5, .inl (cA 0, 10, .inl ff))] s.heap := hP
  have hl := lv_entry ([.ref a0]) (n := 3) (Nat.le_of_ble_eq_true rfl)
  rw [lg_entry_eq]
  generalize (lg_sl ([.ref a0]) ++ List.replicate (3 - (lg_sl ([.ref a0])).length) Slot.unset).toArray = ls at hl ⊢
  have hl : lv_has ls 3 [(0, .ref a0)] := hl
  have inX0 : ∀ w ∈ u_ws RX0 TX0 20, w ∈ wsX0_availableMoney := by decide +kernel
  have inX3 : ∀ w ∈ u_ws RX3 TX3 17, w ∈ wsX0_availableMoney := by decide +kernel
  refine lv_aload_n hx hb dX0_availableMoney_0 rfl (lv_at hl 0 rfl) ?_
  refine va_get (D := D) (ci := 4) (v := .int i8) (C := RX0) (T := TX0) (N := 20) hx hb hts inX0 hown hK hP 0 rfl rfl 8 (by decide) (hts (.fieldLink RX0 47 "EscrowDesk$Account" "principal" "I") (by decide +kernel)) (fun _ h9 => h9) rfl dX0_availableMoney_1 ?_
  refine lv_istore_n (lv' := [(1, .int i8), (0, .ref a0)]) hx hb dX0_availableMoney_4 rfl hl (by decide) rfl (fun ls hl => ?_)
  refine lv_iconst (v := 0) hx hb dX0_availableMoney_5 (by decide) ?_
  refine lv_istore_n (lv' := [(2, .int 0), (1, .int i8), (0, .ref a0)]) hx hb dX0_availableMoney_6 rfl hl (by decide) rfl (fun ls hl => ?_)
  have loop1 : ∀ (n1 i1 : Nat) (x1_1 : Int32) (H : Heap) (locs : List Loc) (ls : Array Slot), i1 + n1 = cn → va_P D vwCl [(oX0 a0 p0 a1 a3 a4 a5 a6 i6 i7 i8 i9 i10 i11 i12 i13 i14 i15 i16 i17 i18 i19), (oX3 p0 pr pb pe pg p1 (nI nd) p2 p3 p4 p5 (nI cn) p6 (nI pq) p7 p8 p9 (nI sc)), (a5, .inl (cA 0, 10, .inl ff))] H → va_D A [(oX0 a0 p0 a1 a3 a4 a5 a6 i6 i7 i8 i9 i10 i11 i12 i13 i14 i15 i16 i17 i18 i19), (oX3 p0 pr pb pe pg p1 (nI nd) p2 p3 p4 p5 (nI cn) p6 (nI pq) p7 p8 p9 (nI sc)), (a5, .inl (cA 0, 10, .inl ff))] → va_S A s.heap H locs → lv_has ls 3 [(2, .int (nI i1)), (1, .int x1_1), (0, .ref a0)] → W p l e (headSpec wsX0_availableMoney ({ frames := 0, cells := 0, slots := 0, locals := 0 } : Room)).room s m ([.ref a0] : List Value).toArray below meth c H locs 0 0 (MQ below (va_Qi (fun (r : Int32) (_ : Unit) => True) (fun (_ : Unit) t => Wq D A [(oX0 a0 p0 a1 a3 a4 a5 a6 i6 i7 i8 i9 i10 i11 i12 i13 i14 i15 i16 i17 i18 i19), (oX3 p0 pr pb pe pg p1 (nI nd) p2 p3 p4 p5 (nI cn) p6 (nI pq) p7 p8 p9 (nI sc)), (a5, .inl (cA 0, 10, .inl ff))] t) A) ([.ref a0] : List Value).toArray s 0 0 A) (F0 m 7 ls []) := by
    intro n1
    induction n1 with
    | zero =>
      intro i1 x1_1 H locs ls hi1 hP hD hS hl
      obtain rfl : cn = i1 := by omega
      refine lv_iload_n hx hb dX0_availableMoney_7 rfl (lv_at hl 0 rfl) ?_
      refine lv_aload_n hx hb dX0_availableMoney_8 rfl (lv_at hl 2 rfl) ?_
      refine va_get (D := D) (ci := 4) (v := .ref p0) (C := RX0) (T := TX0) (N := 20) hx hb hts inX0 hown hK hP 0 rfl rfl 0 (by decide) (hts (.fieldLink RX0 31 "EscrowDesk$Account" "plan" "LEscrowDesk$Plan;") (by decide +kernel)) (fun _ h9 => h9) rfl dX0_availableMoney_9 ?_
      refine va_getN (D := D) (ci := 7) (v := .int (nI cn)) (C := RX3) (T := TX3) (N := 17) hx hb hts inX3 hown hK hP 1 rfl rfl 10 (by decide) (hC.f (A := _) (a := RX0) (i := 109) (b := "EscrowDesk$Plan") (n := "milestoneCount") (d := "I") (x := "EscrowDesk") (by decide +kernel)) (fun _ h9 => h9) rfl dX0_availableMoney_12 ?_
      refine lv_icmp_ge (tgt := 33) hx hb dX0_availableMoney_15 (by decide) (fun c1 => ?_) (fun c9 => absurd (nI_le (a := cn) (b := cn) (show cn ≤ cn by omega) (by omega)) c9)
      refine lv_iload_n hx hb dX0_availableMoney_33 rfl (lv_at hl 1 rfl) ?_
      obtain ⟨hP9, hD9⟩ := PDq.sub (ws' := [(oX0 a0 p0 a1 a3 a4 a5 a6 i6 i7 i8 i9 i10 i11 i12 i13 i14 i15 i16 i17 i18 i19), (oX3 p0 pr pb pe pg p1 (nI nd) p2 p3 p4 p5 (nI cn) p6 (nI pq) p7 p8 p9 (nI sc)), (a5, .inl (cA 0, 10, .inl ff))]) hP hD [0, 1, 2] (by decide) rfl
      refine W.widen (k := 0) (n := 0) (Nat.le_of_ble_eq_true rfl) (Nat.le_of_ble_eq_true rfl) ?_
      exact (W.iret (v := x1_1) hx hb hr (fun t ht hW => ⟨⟨x1_1, (), rfl, trivial, by rw [ht]; exact hP9, hD9⟩, hS.F ht⟩) hS.2.2 dX0_availableMoney_34)
    | succ n1 ih1 =>
      intro i1 x1_1 H locs ls hi1 hP hD hS hl
      refine lv_iload_n hx hb dX0_availableMoney_7 rfl (lv_at hl 0 rfl) ?_
      refine lv_aload_n hx hb dX0_availableMoney_8 rfl (lv_at hl 2 rfl) ?_
      refine va_get (D := D) (ci := 4) (v := .ref p0) (C := RX0) (T := TX0) (N := 20) hx hb hts inX0 hown hK hP 0 rfl rfl 0 (by decide) (hts (.fieldLink RX0 31 "EscrowDesk$Account" "plan" "LEscrowDesk$Plan;") (by decide +kernel)) (fun _ h9 => h9) rfl dX0_availableMoney_9 ?_
      refine va_getN (D := D) (ci := 7) (v := .int (nI cn)) (C := RX3) (T := TX3) (N := 17) hx hb hts inX3 hown hK hP 1 rfl rfl 10 (by decide) (hC.f (A := _) (a := RX0) (i := 109) (b := "EscrowDesk$Plan") (n := "milestoneCount") (d := "I") (x := "EscrowDesk") (by decide +kernel)) (fun _ h9 => h9) rfl dX0_availableMoney_12 ?_
      refine lv_icmp_ge (tgt := 33) hx hb dX0_availableMoney_15 (by decide) (fun c9 => absurd c9 (nI_ge (a := i1) (b := cn) (show i1 < cn by omega) (by omega))) (fun c2 => ?_)
      refine lv_iload_n hx hb dX0_availableMoney_18 rfl (lv_at hl 1 rfl) ?_
      refine lv_aload_n hx hb dX0_availableMoney_19 rfl (lv_at hl 2 rfl) ?_
      refine va_get (D := D) (ci := 4) (v := .ref a5) (C := RX0) (T := TX0) (N := 20) hx hb hts inX0 hown hK hP 0 rfl rfl 4 (by decide) (hts (.fieldLink RX0 25 "EscrowDesk$Account" "frozen" "[I") (by decide +kernel)) (fun _ h9 => h9) rfl dX0_availableMoney_20 ?_
      refine lv_iload_n hx hb dX0_availableMoney_23 rfl (lv_at hl 0 rfl) ?_
      refine va_iald hx hb hK hP 2 0 rfl rfl (vp_in_nI (n := i1) (N := 10) (show i1 < 10 by omega) (by decide)) dX0_availableMoney_24 ?_
      refine lv_topi (fun yn3 eyn3 => ?_)
      refine lv_isub hx hb dX0_availableMoney_25 ?_
      refine lv_topi (fun yn4 eyn4 => ?_)
      refine lv_istore_n (lv' := [(1, .int yn4), (2, .int (nI i1)), (0, .ref a0)]) hx hb dX0_availableMoney_26 rfl hl (by decide) rfl (fun ls hl => ?_)
      refine lv_iinc (v := (nI (i1 + 1))) (lv' := [(2, .int (nI (i1 + 1))), (1, .int yn4), (0, .ref a0)]) hx hb dX0_availableMoney_27 hl (k := 1) rfl (nI_1 _) (by decide) rfl (fun ls hl => ?_)
      refine lv_goto (tgt := 7) hx hb dX0_availableMoney_30 (by decide) ?_
      obtain ⟨hP9, hD9⟩ := PDq.sub (ws' := [(oX0 a0 p0 a1 a3 a4 a5 a6 i6 i7 i8 i9 i10 i11 i12 i13 i14 i15 i16 i17 i18 i19), (oX3 p0 pr pb pe pg p1 (nI nd) p2 p3 p4 p5 (nI cn) p6 (nI pq) p7 p8 p9 (nI sc)), (a5, .inl (cA 0, 10, .inl ff))]) hP hD [0, 1, 2] (by decide) rfl
      exact ih1 (i1 + 1) yn4 H _ ls (by omega) hP9 hD9 hS (lv_sub hl [0, 1, 2] rfl)
  obtain ⟨hP9, hD9⟩ := PDq.sub (ws' := [(oX0 a0 p0 a1 a3 a4 a5 a6 i6 i7 i8 i9 i10 i11 i12 i13 i14 i15 i16 i17 i18 i19), (oX3 p0 pr pb pe pg p1 (nI nd) p2 p3 p4 p5 (nI cn) p6 (nI pq) p7 p8 p9 (nI sc)), (a5, .inl (cA 0, 10, .inl ff))]) hP hD [0, 1, 2] (by decide) rfl
  exact loop1 (cn - 0) 0 i8 _ _ ls (by omega) hP9 hD9 hS (lv_sub hl [0, 1, 2] rfl)

set_option maxHeartbeats 4000000 in
set_option maxRecDepth 100000 in
/-- isClosed -/
theorem s_isClosed (l : Launch) (D : va_G) (cA : Nat → ClassId) (sa : Nat → Nat) (a0 : Nat) (a1 : Nat) (a3 : Nat) (a4 : Nat) (a5 : Nat) (a6 : Nat) (p0 : Nat) (i6 : Int32) (i7 : Int32) (i8 : Int32) (i12 : Int32) (i13 : Int32) (i14 : Int32) (i15 : Int32) (i16 : Int32) (i17 : Int32) (i18 : Int32) (i19 : Int32) (i9 : Int64) (i10 : Int64) (i11 : Int64) (mi : Nat) (fs : Nat → Int32) (sz : Nat) (hmi : mi < 10) : Met l yX0_isClosed wsX0_isClosed ({ frames := 0, cells := 0, slots := 0, locals := 0 }) (va_Pc [.ref a0, .int (nI mi)] (Wd D cA sa [(oX0 a0 p0 a1 a3 a4 a5 a6 i6 i7 i8 i9 i10 i11 i12 i13 i14 i15 i16 i17 i18 i19), (a3, .inl (cA 0, 10, .inl fs))] sz)) (va_Qi (fun (r : Int32) (_ : Unit) => r = 0 ∨ r = 1) (fun (_ : Unit) t => Wq D (va_A [(oX0 a0 p0 a1 a3 a4 a5 a6 i6 i7 i8 i9 i10 i11 i12 i13 i14 i15 i16 i17 i18 i19), (a3, .inl (cA 0, 10, .inl fs))] sz) [(oX0 a0 p0 a1 a3 a4 a5 a6 i6 i7 i8 i9 i10 i11 i12 i13 i14 i15 i16 i17 i18 i19), (a3, .inl (cA 0, 10, .inl fs))] t) (va_A [(oX0 a0 p0 a1 a3 a4 a5 a6 i6 i7 i8 i9 i10 i11 i12 i13 i14 i15 i16 i17 i18 i19), (a3, .inl (cA 0, 10, .inl fs))] sz)) 0 0 (va_A [(oX0 a0 p0 a1 a3 a4 a5 a6 i6 i7 i8 i9 i10 i11 i12 i13 i14 i15 i16 i17 i18 i19), (a3, .inl (cA 0, 10, .inl fs))] sz) := by
  refine Met.ofW (cc := cX0_isClosed) (maxL := 2) (ret := (some .boolean)) (by decide) rfl ?_
  intro p e s m args below meth c s₁ B hml hv
  obtain ⟨rfl, hsz, hP, hK, hD0, hC, hZ⟩ := hv
  have hx := B.exec
  have hb := B.bytes
  have hr := B.returns
  have hts := atoms_spec (ws := wsX0_isClosed) B.pre
  have hown : s.vm.findClass RX0 = some m.cls := findClass_of_methodNamed B.named
  have hlocks := B.notSynchronized
  subst hsz
  have hD := hD0.self (sz := s.heap.size)
  generalize hAe : va_A [(oX0 a0 p0 a1 a3 a4 a5 a6 i6 i7 i8 i9 i10 i11 i12 i13 i14 i15 i16 i17 i18 i19), (a3, .inl (cA 0, 10, .inl fs))] s.heap.size = A at hD hZ ⊢
  have hA : ∀ q : Nat, s.heap.size ≤ q → A q := fun q h => by rw [← hAe]; exact Or.inr h
  have hS : va_S A s.heap s.heap [] := va_S.rf
  have hP : va_P D vwCl [(oX0 a0 p0 a1 a3 a4 a5 a6 i6 i7 i8 i9 i10 i11 i12 i13 i14 i15 i16 i17 i18 i19), (a3, .inl (cA 0, 10, .inl fs))] s.heap := hP
  have hl := lv_entry ([.ref a0, .int (nI mi)]) (n := 2) (Nat.le_of_ble_eq_true rfl)
  rw [lg_entry_eq]
  generalize (lg_sl ([.ref a0, .int (nI mi)]) ++ List.replicate (2 - (lg_sl ([.ref a0, .int (nI mi)])).length) Slot.unset).toArray = ls at hl ⊢
  have hl : lv_has ls 2 [(0, .ref a0), (1, .int (nI mi))] := hl
  have inX0 : ∀ w ∈ u_ws RX0 TX0 20, w ∈ wsX0_isClosed := by decide +kernel
  refine lv_aload_n hx hb dX0_isClosed_0 rfl (lv_at hl 0 rfl) ?_
  refine va_get (D := D) (ci := 4) (v := .ref a3) (C := RX0) (T := TX0) (N := 20) hx hb hts inX0 hown hK hP 0 rfl rfl 2 (by decide) (hts (.fieldLink RX0 18 "EscrowDesk$Account" "state" "[I") (by decide +kernel)) (fun _ h9 => h9) rfl dX0_isClosed_1 ?_
  refine lv_iload_n hx hb dX0_isClosed_4 rfl (lv_at hl 1 rfl) ?_
  refine va_iald hx hb hK hP 1 0 rfl rfl (vp_in_nI (n := mi) (N := 10) (show mi < 10 by omega) (by decide)) dX0_isClosed_5 ?_
  refine lv_topi (fun yn1 eyn1 => ?_)
  refine lv_iconst (v := 3) hx hb dX0_isClosed_6 (by decide) ?_
  refine lv_icmp_lt (tgt := 14) hx hb dX0_isClosed_7 (by decide) (fun c2 => ?_) (fun c2 => ?_)
  · skip
    refine lv_iconst (v := 0) hx hb dX0_isClosed_14 (by decide) ?_
    obtain ⟨hP9, hD9⟩ := PDq.sub (ws' := [(oX0 a0 p0 a1 a3 a4 a5 a6 i6 i7 i8 i9 i10 i11 i12 i13 i14 i15 i16 i17 i18 i19), (a3, .inl (cA 0, 10, .inl fs))]) hP hD [0, 1] (by decide) rfl
    refine W.widen (k := 0) (n := 0) (Nat.le_of_ble_eq_true rfl) (Nat.le_of_ble_eq_true rfl) ?_
    exact (W.zret (v := 0) hx hb hr (by first | rfl | decide) (fun t ht hW => ⟨⟨0, (), rfl, (by first | exact Or.inl rfl | exact Or.inr rfl), by rw [ht]; exact hP9, hD9⟩, hS.F ht⟩) hS.2.2 dX0_isClosed_15)
  · skip
    refine lv_iconst (v := 1) hx hb dX0_isClosed_10 (by decide) ?_
    refine lv_goto (tgt := 15) hx hb dX0_isClosed_11 (by decide) ?_
    obtain ⟨hP9, hD9⟩ := PDq.sub (ws' := [(oX0 a0 p0 a1 a3 a4 a5 a6 i6 i7 i8 i9 i10 i11 i12 i13 i14 i15 i16 i17 i18 i19), (a3, .inl (cA 0, 10, .inl fs))]) hP hD [0, 1] (by decide) rfl
    refine W.widen (k := 0) (n := 0) (Nat.le_of_ble_eq_true rfl) (Nat.le_of_ble_eq_true rfl) ?_
    exact (W.zret (v := 1) hx hb hr (by first | rfl | decide) (fun t ht hW => ⟨⟨1, (), rfl, (by first | exact Or.inl rfl | exact Or.inr rfl), by rw [ht]; exact hP9, hD9⟩, hS.F ht⟩) hS.2.2 dX0_isClosed_15)

set_option maxHeartbeats 4000000 in
set_option maxRecDepth 100000 in
/-- remainingOf -/
theorem s_remainingOf (l : Launch) (D : va_G) (cA : Nat → ClassId) (sa : Nat → Nat) (a0 : Nat) (a1 : Nat) (a3 : Nat) (a4 : Nat) (a5 : Nat) (a6 : Nat) (p0 : Nat) (i6 : Int32) (i7 : Int32) (i8 : Int32) (i12 : Int32) (i13 : Int32) (i14 : Int32) (i15 : Int32) (i16 : Int32) (i17 : Int32) (i18 : Int32) (i19 : Int32) (i9 : Int64) (i10 : Int64) (i11 : Int64) (p1 : Nat) (p2 : Nat) (p3 : Nat) (p4 : Nat) (p5 : Nat) (p6 : Nat) (p7 : Nat) (p8 : Nat) (p9 : Nat) (cn : Nat) (pq : Nat) (nd : Nat) (sc : Nat) (pr : Int32) (pb : Int32) (pe : Int32) (pg : Int32) (mi : Nat) (fs : Nat → Int32) (fp : Nat → Int32) (fam : Nat → Int32) (sz : Nat) (hmi : mi < 10) : Met l yX0_remainingOf wsX0_remainingOf ({ frames := 1, cells := 0, slots := 0, locals := 21 }) (va_Pc [.ref a0, .int (nI mi)] (Wd D cA sa [(oX0 a0 p0 a1 a3 a4 a5 a6 i6 i7 i8 i9 i10 i11 i12 i13 i14 i15 i16 i17 i18 i19), (oX3 p0 pr pb pe pg p1 (nI nd) p2 p3 p4 p5 (nI cn) p6 (nI pq) p7 p8 p9 (nI sc)), (a3, .inl (cA 0, 10, .inl fs)), (a4, .inl (cA 0, 10, .inl fp)), (p3, .inl (cA 0, 10, .inl fam))] sz)) (va_Qi (fun (r : Int32) (_ : Unit) => True) (fun (_ : Unit) t => Wq D (va_A [(oX0 a0 p0 a1 a3 a4 a5 a6 i6 i7 i8 i9 i10 i11 i12 i13 i14 i15 i16 i17 i18 i19), (oX3 p0 pr pb pe pg p1 (nI nd) p2 p3 p4 p5 (nI cn) p6 (nI pq) p7 p8 p9 (nI sc)), (a3, .inl (cA 0, 10, .inl fs)), (a4, .inl (cA 0, 10, .inl fp)), (p3, .inl (cA 0, 10, .inl fam))] sz) [(oX0 a0 p0 a1 a3 a4 a5 a6 i6 i7 i8 i9 i10 i11 i12 i13 i14 i15 i16 i17 i18 i19), (oX3 p0 pr pb pe pg p1 (nI nd) p2 p3 p4 p5 (nI cn) p6 (nI pq) p7 p8 p9 (nI sc)), (a3, .inl (cA 0, 10, .inl fs)), (a4, .inl (cA 0, 10, .inl fp)), (p3, .inl (cA 0, 10, .inl fam))] t) (va_A [(oX0 a0 p0 a1 a3 a4 a5 a6 i6 i7 i8 i9 i10 i11 i12 i13 i14 i15 i16 i17 i18 i19), (oX3 p0 pr pb pe pg p1 (nI nd) p2 p3 p4 p5 (nI cn) p6 (nI pq) p7 p8 p9 (nI sc)), (a3, .inl (cA 0, 10, .inl fs)), (a4, .inl (cA 0, 10, .inl fp)), (p3, .inl (cA 0, 10, .inl fam))] sz)) 0 0 (va_A [(oX0 a0 p0 a1 a3 a4 a5 a6 i6 i7 i8 i9 i10 i11 i12 i13 i14 i15 i16 i17 i18 i19), (oX3 p0 pr pb pe pg p1 (nI nd) p2 p3 p4 p5 (nI cn) p6 (nI pq) p7 p8 p9 (nI sc)), (a3, .inl (cA 0, 10, .inl fs)), (a4, .inl (cA 0, 10, .inl fp)), (p3, .inl (cA 0, 10, .inl fam))] sz) := by
  refine Met.ofW (cc := cX0_remainingOf) (maxL := 2) (ret := (some .int)) (by decide) rfl ?_
  intro p e s m args below meth c s₁ B hml hv
  obtain ⟨rfl, hsz, hP, hK, hD0, hC, hZ⟩ := hv
  have hx := B.exec
  have hb := B.bytes
  have hr := B.returns
  have hts := atoms_spec (ws := wsX0_remainingOf) B.pre
  have hown : s.vm.findClass RX0 = some m.cls := findClass_of_methodNamed B.named
  have hlocks := B.notSynchronized
  subst hsz
  have hD := hD0.self (sz := s.heap.size)
  generalize hAe : va_A [(oX0 a0 p0 a1 a3 a4 a5 a6 i6 i7 i8 i9 i10 i11 i12 i13 i14 i15 i16 i17 i18 i19), (oX3 p0 pr pb pe pg p1 (nI nd) p2 p3 p4 p5 (nI cn) p6 (nI pq) p7 p8 p9 (nI sc)), (a3, .inl (cA 0, 10, .inl fs)), (a4, .inl (cA 0, 10, .inl fp)), (p3, .inl (cA 0, 10, .inl fam))] s.heap.size = A at hD hZ ⊢
  have hA : ∀ q : Nat, s.heap.size ≤ q → A q := fun q h => by rw [← hAe]; exact Or.inr h
  have hS : va_S A s.heap s.heap [] := va_S.rf
  have hP : va_P D vwCl [(oX0 a0 p0 a1 a3 a4 a5 a6 i6 i7 i8 i9 i10 i11 i12 i13 i14 i15 i16 i17 i18 i19), (oX3 p0 pr pb pe pg p1 (nI nd) p2 p3 p4 p5 (nI cn) p6 (nI pq) p7 p8 p9 (nI sc)), (a3, .inl (cA 0, 10, .inl fs)), (a4, .inl (cA 0, 10, .inl fp)), (p3, .inl (cA 0, 10, .inl fam))] s.heap := hP
  have hl := lv_entry ([.ref a0, .int (nI mi)]) (n := 2) (Nat.le_of_ble_eq_true rfl)
  rw [lg_entry_eq]
  generalize (lg_sl ([.ref a0, .int (nI mi)]) ++ List.replicate (2 - (lg_sl ([.ref a0, .int (nI mi)])).length) Slot.unset).toArray = ls at hl ⊢
  have hl : lv_has ls 2 [(0, .ref a0), (1, .int (nI mi))] := hl
  have inX0 : ∀ w ∈ u_ws RX0 TX0 20, w ∈ wsX0_remainingOf := by decide +kernel
  have inX3 : ∀ w ∈ u_ws RX3 TX3 17, w ∈ wsX0_remainingOf := by decide +kernel
  refine lv_aload_n hx hb dX0_remainingOf_0 rfl (lv_at hl 0 rfl) ?_
  refine lv_iload_n hx hb dX0_remainingOf_1 rfl (lv_at hl 1 rfl) ?_
  obtain ⟨hPc, hDc, hFc⟩ := PDq.cut (wc := [(oX0 a0 p0 a1 a3 a4 a5 a6 i6 i7 i8 i9 i10 i11 i12 i13 i14 i15 i16 i17 i18 i19), (a3, .inl (cA 0, 10, .inl fs))]) hP hD hS hA [0, 2] (by decide) rfl
  refine va_calli (va_runV (As := [.int (nI mi)]) (rest := []) ⟨hx, hb, hml, hown, hts⟩ (s_isClosed l D cA sa a0 a1 a3 a4 a5 a6 p0 i6 i7 i8 i12 i13 i14 i15 i16 i17 i18 i19 i9 i10 i11 mi fs s.heap.size hmi) (cwV 1 hts gX0_remainingOf_X0_isClosed rfl rfl rfl (by decide +kernel) ⟨(Nat.le_of_ble_eq_true rfl), (Nat.le_of_ble_eq_true rfl)⟩) ⟨Wd.blind, va_recv hK hPc (ci := 4) (q0 := 0) rfl rfl, fun U hU hW => ⟨rfl, Wd.call hPc hDc hK hC hZ hS hFc U hU hW⟩⟩ rfl rfl hl.1 rfl (lv_room (Nat.le_of_ble_eq_true rfl)) dX0_remainingOf_2 ⟨(Nat.le_of_ble_eq_true rfl), (Nat.le_of_ble_eq_true rfl)⟩) hS (fun q _ h => hFc q h) hFc (fun rn1 u t H1 locs ht hvm hw hB hz1 hk1 hS => ?_)
  obtain ⟨hP1, hD1⟩ := hB
  rw [ht] at hP1
  obtain ⟨hP, hD⟩ := PDq.join (w := [(oX3 p0 pr pb pe pg p1 (nI nd) p2 p3 p4 p5 (nI cn) p6 (nI pq) p7 p8 p9 (nI sc)), (a4, .inl (cA 0, 10, .inl fp)), (p3, .inl (cA 0, 10, .inl fam)), (oX0 a0 p0 a1 a3 a4 a5 a6 i6 i7 i8 i9 i10 i11 i12 i13 i14 i15 i16 i17 i18 i19), (a3, .inl (cA 0, 10, .inl fs))]) 3 hP hD [0, 2] [1, 3, 4] rfl rfl (by decide) (by decide) hk1 hFc hP1 hD1 rfl
  generalize H1 = H at hP hS ⊢
  have hn2 := hw
  refine lv_if_eq (tgt := 12) hx hb dX0_remainingOf_5 (by decide) (fun c3 => ?_) (fun c3 => ?_)
  · skip
    refine lv_aload_n hx hb dX0_remainingOf_12 rfl (lv_at hl 0 rfl) ?_
    refine va_get (D := D) (ci := 4) (v := .ref p0) (C := RX0) (T := TX0) (N := 20) hx hb hts inX0 hown hK hP 3 rfl rfl 0 (by decide) (hts (.fieldLink RX0 31 "EscrowDesk$Account" "plan" "LEscrowDesk$Plan;") (by decide +kernel)) (fun _ h9 => h9) rfl dX0_remainingOf_13 ?_
    refine va_getN (D := D) (ci := 7) (v := .ref p3) (C := RX3) (T := TX3) (N := 17) hx hb hts inX3 hown hK hP 0 rfl rfl 7 (by decide) (hC.f (A := _) (a := RX0) (i := 116) (b := "EscrowDesk$Plan") (n := "amounts") (d := "[I") (x := "EscrowDesk") (by decide +kernel)) (fun _ h9 => h9) rfl dX0_remainingOf_16 ?_
    refine lv_iload_n hx hb dX0_remainingOf_19 rfl (lv_at hl 1 rfl) ?_
    refine va_iald hx hb hK hP 2 0 rfl rfl (vp_in_nI (n := mi) (N := 10) (show mi < 10 by omega) (by decide)) dX0_remainingOf_20 ?_
    refine lv_topi (fun yn4 eyn4 => ?_)
    refine lv_aload_n hx hb dX0_remainingOf_21 rfl (lv_at hl 0 rfl) ?_
    refine va_get (D := D) (ci := 4) (v := .ref a4) (C := RX0) (T := TX0) (N := 20) hx hb hts inX0 hown hK hP 3 rfl rfl 3 (by decide) (hts (.fieldLink RX0 22 "EscrowDesk$Account" "paid" "[I") (by decide +kernel)) (fun _ h9 => h9) rfl dX0_remainingOf_22 ?_
    refine lv_iload_n hx hb dX0_remainingOf_25 rfl (lv_at hl 1 rfl) ?_
    refine va_iald hx hb hK hP 1 0 rfl rfl (vp_in_nI (n := mi) (N := 10) (show mi < 10 by omega) (by decide)) dX0_remainingOf_26 ?_
    refine lv_topi (fun yn5 eyn5 => ?_)
    refine lv_isub hx hb dX0_remainingOf_27 ?_
    refine lv_topi (fun yn6 eyn6 => ?_)
    obtain ⟨hP9, hD9⟩ := PDq.sub (ws' := [(oX0 a0 p0 a1 a3 a4 a5 a6 i6 i7 i8 i9 i10 i11 i12 i13 i14 i15 i16 i17 i18 i19), (oX3 p0 pr pb pe pg p1 (nI nd) p2 p3 p4 p5 (nI cn) p6 (nI pq) p7 p8 p9 (nI sc)), (a3, .inl (cA 0, 10, .inl fs)), (a4, .inl (cA 0, 10, .inl fp)), (p3, .inl (cA 0, 10, .inl fam))]) hP hD [3, 0, 4, 1, 2] (by decide) rfl
    refine W.widen (k := 0) (n := 0) (Nat.le_of_ble_eq_true rfl) (Nat.le_of_ble_eq_true rfl) ?_
    exact (W.iret (v := yn6) hx hb hr (fun t ht hW => ⟨⟨yn6, (), rfl, trivial, by rw [ht]; exact hP9, hD9⟩, hS.F ht⟩) hS.2.2 dX0_remainingOf_28)
  · skip
    refine lv_iconst (v := 0) hx hb dX0_remainingOf_8 (by decide) ?_
    refine lv_goto (tgt := 28) hx hb dX0_remainingOf_9 (by decide) ?_
    obtain ⟨hP9, hD9⟩ := PDq.sub (ws' := [(oX0 a0 p0 a1 a3 a4 a5 a6 i6 i7 i8 i9 i10 i11 i12 i13 i14 i15 i16 i17 i18 i19), (oX3 p0 pr pb pe pg p1 (nI nd) p2 p3 p4 p5 (nI cn) p6 (nI pq) p7 p8 p9 (nI sc)), (a3, .inl (cA 0, 10, .inl fs)), (a4, .inl (cA 0, 10, .inl fp)), (p3, .inl (cA 0, 10, .inl fam))]) hP hD [3, 0, 4, 1, 2] (by decide) rfl
    refine W.widen (k := 0) (n := 0) (Nat.le_of_ble_eq_true rfl) (Nat.le_of_ble_eq_true rfl) ?_
    exact (W.iret (v := 0) hx hb hr (fun t ht hW => ⟨⟨0, (), rfl, trivial, by rw [ht]; exact hP9, hD9⟩, hS.F ht⟩) hS.2.2 dX0_remainingOf_28)

set_option maxHeartbeats 4000000 in
set_option maxRecDepth 100000 in
/-- payDay -/
theorem s_payDay (l : Launch) (D : va_G) (cA : Nat → ClassId) (sa : Nat → Nat) (a0 : Nat) (a1 : Nat) (a3 : Nat) (a4 : Nat) (a5 : Nat) (a6 : Nat) (p0 : Nat) (i6 : Int32) (i7 : Int32) (i8 : Int32) (i12 : Int32) (i13 : Int32) (i14 : Int32) (i15 : Int32) (i16 : Int32) (i17 : Int32) (i18 : Int32) (i19 : Int32) (i9 : Int64) (i10 : Int64) (i11 : Int64) (mi : Nat) (fd : Nat → Int32) (sz : Nat) (hmi : mi < 10) : Met l yX0_payDay wsX0_payDay ({ frames := 0, cells := 0, slots := 0, locals := 0 }) (va_Pc [.ref a0, .int (nI mi)] (Wd D cA sa [(oX0 a0 p0 a1 a3 a4 a5 a6 i6 i7 i8 i9 i10 i11 i12 i13 i14 i15 i16 i17 i18 i19), (a6, .inl (cA 0, 10, .inl fd))] sz)) (va_Qi (fun (r : Int32) (_ : Unit) => True) (fun (_ : Unit) t => Wq D (va_A [(oX0 a0 p0 a1 a3 a4 a5 a6 i6 i7 i8 i9 i10 i11 i12 i13 i14 i15 i16 i17 i18 i19), (a6, .inl (cA 0, 10, .inl fd))] sz) [(oX0 a0 p0 a1 a3 a4 a5 a6 i6 i7 i8 i9 i10 i11 i12 i13 i14 i15 i16 i17 i18 i19), (a6, .inl (cA 0, 10, .inl fd))] t) (va_A [(oX0 a0 p0 a1 a3 a4 a5 a6 i6 i7 i8 i9 i10 i11 i12 i13 i14 i15 i16 i17 i18 i19), (a6, .inl (cA 0, 10, .inl fd))] sz)) 0 0 (va_A [(oX0 a0 p0 a1 a3 a4 a5 a6 i6 i7 i8 i9 i10 i11 i12 i13 i14 i15 i16 i17 i18 i19), (a6, .inl (cA 0, 10, .inl fd))] sz) := by
  refine Met.ofW (cc := cX0_payDay) (maxL := 2) (ret := (some .int)) (by decide) rfl ?_
  intro p e s m args below meth c s₁ B hml hv
  obtain ⟨rfl, hsz, hP, hK, hD0, hC, hZ⟩ := hv
  have hx := B.exec
  have hb := B.bytes
  have hr := B.returns
  have hts := atoms_spec (ws := wsX0_payDay) B.pre
  have hown : s.vm.findClass RX0 = some m.cls := findClass_of_methodNamed B.named
  have hlocks := B.notSynchronized
  subst hsz
  have hD := hD0.self (sz := s.heap.size)
  generalize hAe : va_A [(oX0 a0 p0 a1 a3 a4 a5 a6 i6 i7 i8 i9 i10 i11 i12 i13 i14 i15 i16 i17 i18 i19), (a6, .inl (cA 0, 10, .inl fd))] s.heap.size = A at hD hZ ⊢
  have hA : ∀ q : Nat, s.heap.size ≤ q → A q := fun q h => by rw [← hAe]; exact Or.inr h
  have hS : va_S A s.heap s.heap [] := va_S.rf
  have hP : va_P D vwCl [(oX0 a0 p0 a1 a3 a4 a5 a6 i6 i7 i8 i9 i10 i11 i12 i13 i14 i15 i16 i17 i18 i19), (a6, .inl (cA 0, 10, .inl fd))] s.heap := hP
  have hl := lv_entry ([.ref a0, .int (nI mi)]) (n := 2) (Nat.le_of_ble_eq_true rfl)
  rw [lg_entry_eq]
  generalize (lg_sl ([.ref a0, .int (nI mi)]) ++ List.replicate (2 - (lg_sl ([.ref a0, .int (nI mi)])).length) Slot.unset).toArray = ls at hl ⊢
  have hl : lv_has ls 2 [(0, .ref a0), (1, .int (nI mi))] := hl
  have inX0 : ∀ w ∈ u_ws RX0 TX0 20, w ∈ wsX0_payDay := by decide +kernel
  refine lv_aload_n hx hb dX0_payDay_0 rfl (lv_at hl 0 rfl) ?_
  refine va_get (D := D) (ci := 4) (v := .ref a6) (C := RX0) (T := TX0) (N := 20) hx hb hts inX0 hown hK hP 0 rfl rfl 5 (by decide) (hts (.fieldLink RX0 28 "EscrowDesk$Account" "dueDay" "[I") (by decide +kernel)) (fun _ h9 => h9) rfl dX0_payDay_1 ?_
  refine lv_iload_n hx hb dX0_payDay_4 rfl (lv_at hl 1 rfl) ?_
  refine va_iald hx hb hK hP 1 0 rfl rfl (vp_in_nI (n := mi) (N := 10) (show mi < 10 by omega) (by decide)) dX0_payDay_5 ?_
  refine lv_topi (fun yn1 eyn1 => ?_)
  refine lv_aload_n hx hb dX0_payDay_6 rfl (lv_at hl 0 rfl) ?_
  refine va_get (D := D) (ci := 4) (v := .int i17) (C := RX0) (T := TX0) (N := 20) hx hb hts inX0 hown hK hP 0 rfl rfl 17 (by decide) (hts (.fieldLink RX0 82 "EscrowDesk$Account" "grace" "I") (by decide +kernel)) (fun _ h9 => h9) rfl dX0_payDay_7 ?_
  refine lv_iadd hx hb dX0_payDay_10 ?_
  refine lv_topi (fun yn2 eyn2 => ?_)
  obtain ⟨hP9, hD9⟩ := PDq.sub (ws' := [(oX0 a0 p0 a1 a3 a4 a5 a6 i6 i7 i8 i9 i10 i11 i12 i13 i14 i15 i16 i17 i18 i19), (a6, .inl (cA 0, 10, .inl fd))]) hP hD [0, 1] (by decide) rfl
  refine W.widen (k := 0) (n := 0) (Nat.le_of_ble_eq_true rfl) (Nat.le_of_ble_eq_true rfl) ?_
  exact (W.iret (v := yn2) hx hb hr (fun t ht hW => ⟨⟨yn2, (), rfl, trivial, by rw [ht]; exact hP9, hD9⟩, hS.F ht⟩) hS.2.2 dX0_payDay_11)

set_option maxHeartbeats 4000000 in
set_option maxRecDepth 100000 in
/-- hasProof -/
theorem s_hasProof (l : Launch) (D : va_G) (cA : Nat → ClassId) (sa : Nat → Nat) (a0 : Nat) (a1 : Nat) (a3 : Nat) (a4 : Nat) (a5 : Nat) (a6 : Nat) (p0 : Nat) (i6 : Int32) (i7 : Int32) (i8 : Int32) (i12 : Int32) (i13 : Int32) (i14 : Int32) (i15 : Int32) (i16 : Int32) (i17 : Int32) (i18 : Int32) (i19 : Int32) (i9 : Int64) (i10 : Int64) (i11 : Int64) (a : Int32) (sz : Nat) : Met l yX0_hasProof wsX0_hasProof ({ frames := 1, cells := 0, slots := 0, locals := 21 }) (va_Pc [.ref a0, .int a] (Wd D cA sa [(oX0 a0 p0 a1 a3 a4 a5 a6 i6 i7 i8 i9 i10 i11 i12 i13 i14 i15 i16 i17 i18 i19)] sz)) (va_Qi (fun (r : Int32) (_ : Unit) => r = 0 ∨ r = 1) (fun (_ : Unit) t => Wq D (va_A [(oX0 a0 p0 a1 a3 a4 a5 a6 i6 i7 i8 i9 i10 i11 i12 i13 i14 i15 i16 i17 i18 i19)] sz) [(oX0 a0 p0 a1 a3 a4 a5 a6 i6 i7 i8 i9 i10 i11 i12 i13 i14 i15 i16 i17 i18 i19)] t) (va_A [(oX0 a0 p0 a1 a3 a4 a5 a6 i6 i7 i8 i9 i10 i11 i12 i13 i14 i15 i16 i17 i18 i19)] sz)) 0 0 (va_A [(oX0 a0 p0 a1 a3 a4 a5 a6 i6 i7 i8 i9 i10 i11 i12 i13 i14 i15 i16 i17 i18 i19)] sz) := by
  refine Met.ofW (cc := cX0_hasProof) (maxL := 2) (ret := (some .boolean)) (by decide) rfl ?_
  intro p e s m args below meth c s₁ B hml hv
  obtain ⟨rfl, hsz, hP, hK, hD0, hC, hZ⟩ := hv
  have hx := B.exec
  have hb := B.bytes
  have hr := B.returns
  have hts := atoms_spec (ws := wsX0_hasProof) B.pre
  have hown : s.vm.findClass RX0 = some m.cls := findClass_of_methodNamed B.named
  have hlocks := B.notSynchronized
  subst hsz
  have hD := hD0.self (sz := s.heap.size)
  generalize hAe : va_A [(oX0 a0 p0 a1 a3 a4 a5 a6 i6 i7 i8 i9 i10 i11 i12 i13 i14 i15 i16 i17 i18 i19)] s.heap.size = A at hD hZ ⊢
  have hA : ∀ q : Nat, s.heap.size ≤ q → A q := fun q h => by rw [← hAe]; exact Or.inr h
  have hS : va_S A s.heap s.heap [] := va_S.rf
  have hP : va_P D vwCl [(oX0 a0 p0 a1 a3 a4 a5 a6 i6 i7 i8 i9 i10 i11 i12 i13 i14 i15 i16 i17 i18 i19)] s.heap := hP
  have hl := lv_entry ([.ref a0, .int a]) (n := 2) (Nat.le_of_ble_eq_true rfl)
  rw [lg_entry_eq]
  generalize (lg_sl ([.ref a0, .int a]) ++ List.replicate (2 - (lg_sl ([.ref a0, .int a])).length) Slot.unset).toArray = ls at hl ⊢
  have hl : lv_has ls 2 [(0, .ref a0), (1, .int a)] := hl
  have inX0 : ∀ w ∈ u_ws RX0 TX0 20, w ∈ wsX0_hasProof := by decide +kernel
  refine lv_aload_n hx hb dX0_hasProof_0 rfl (lv_at hl 0 rfl) ?_
  refine va_get (D := D) (ci := 4) (v := .int i18) (C := RX0) (T := TX0) (N := 20) hx hb hts inX0 hown hK hP 0 rfl rfl 18 (by decide) (hts (.fieldLink RX0 83 "EscrowDesk$Account" "submittedSet" "I") (by decide +kernel)) (fun _ h9 => h9) rfl dX0_hasProof_1 ?_
  refine lv_iload_n hx hb dX0_hasProof_4 rfl (lv_at hl 1 rfl) ?_
  obtain ⟨hPc, hDc, hFc⟩ := PDq.cut (wc := []) hP hD hS hA [] (by decide) rfl
  refine va_calli (va_runS (As := [.int i18, .int a]) (rest := []) ⟨hx, hb, hml, hown, hts⟩ (s_contains l D cA sa i18 a s.heap.size) (va_cwS 2 hts gX0_hasProof_X3_contains rfl rfl rfl (by decide +kernel) ⟨(Nat.le_of_ble_eq_true rfl), (Nat.le_of_ble_eq_true rfl)⟩) ⟨Wd.blind, fun U hU hW => ⟨rfl, Wd.call hPc hDc hK hC hZ hS hFc U hU hW⟩⟩ rfl rfl hl.1 rfl (lv_room (Nat.le_of_ble_eq_true rfl)) dX0_hasProof_5 ⟨(Nat.le_of_ble_eq_true rfl), (Nat.le_of_ble_eq_true rfl)⟩) hS (fun q _ h => hFc q h) hFc (fun rn1 u t H1 locs ht hvm hw hB hz1 hk1 hS => ?_)
  obtain ⟨hP1, hD1⟩ := hB
  rw [ht] at hP1
  obtain ⟨hP, hD⟩ := PDq.join (w := [(oX0 a0 p0 a1 a3 a4 a5 a6 i6 i7 i8 i9 i10 i11 i12 i13 i14 i15 i16 i17 i18 i19)]) 1 hP hD [] [0] rfl rfl (by decide) (by decide) hk1 hFc hP1 hD1 rfl
  generalize H1 = H at hP hS ⊢
  have hn2 := hw
  obtain ⟨hP9, hD9⟩ := PDq.sub (ws' := [(oX0 a0 p0 a1 a3 a4 a5 a6 i6 i7 i8 i9 i10 i11 i12 i13 i14 i15 i16 i17 i18 i19)]) hP hD [0] (by decide) rfl
  refine W.widen (k := 0) (n := 0) (Nat.le_of_ble_eq_true rfl) (Nat.le_of_ble_eq_true rfl) ?_
  exact (W.zret (v := rn1) hx hb hr (by rcases hn2 with h9 | h9 <;> rw [h9] <;> rfl) (fun t ht hW => ⟨⟨rn1, (), rfl, hn2, by rw [ht]; exact hP9, hD9⟩, hS.F ht⟩) hS.2.2 dX0_hasProof_8)

set_option maxHeartbeats 4000000 in
set_option maxRecDepth 100000 in
/-- doneSet -/
theorem s_doneSet (l : Launch) (D : va_G) (cA : Nat → ClassId) (sa : Nat → Nat) (a0 : Nat) (a1 : Nat) (a3 : Nat) (a4 : Nat) (a5 : Nat) (a6 : Nat) (p0 : Nat) (i6 : Int32) (i7 : Int32) (i8 : Int32) (i12 : Int32) (i13 : Int32) (i14 : Int32) (i15 : Int32) (i16 : Int32) (i17 : Int32) (i18 : Int32) (i19 : Int32) (i9 : Int64) (i10 : Int64) (i11 : Int64) (p1 : Nat) (p2 : Nat) (p3 : Nat) (p4 : Nat) (p5 : Nat) (p6 : Nat) (p7 : Nat) (p8 : Nat) (p9 : Nat) (cn : Nat) (pq : Nat) (nd : Nat) (sc : Nat) (pr : Int32) (pb : Int32) (pe : Int32) (pg : Int32) (fs : Nat → Int32) (sz : Nat) (hcn : cn ≤ 10) (hpq : pq ≤ 8) (hnd : nd ≤ 6) (hsc : sc ≤ 350) : Met l yX0_doneSet wsX0_doneSet ({ frames := 0, cells := 0, slots := 0, locals := 0 }) (va_Pc [.ref a0] (Wd D cA sa [(oX0 a0 p0 a1 a3 a4 a5 a6 i6 i7 i8 i9 i10 i11 i12 i13 i14 i15 i16 i17 i18 i19), (oX3 p0 pr pb pe pg p1 (nI nd) p2 p3 p4 p5 (nI cn) p6 (nI pq) p7 p8 p9 (nI sc)), (a3, .inl (cA 0, 10, .inl fs))] sz)) (va_Qi (fun (r : Int32) (_ : Unit) => True) (fun (_ : Unit) t => Wq D (va_A [(oX0 a0 p0 a1 a3 a4 a5 a6 i6 i7 i8 i9 i10 i11 i12 i13 i14 i15 i16 i17 i18 i19), (oX3 p0 pr pb pe pg p1 (nI nd) p2 p3 p4 p5 (nI cn) p6 (nI pq) p7 p8 p9 (nI sc)), (a3, .inl (cA 0, 10, .inl fs))] sz) [(oX0 a0 p0 a1 a3 a4 a5 a6 i6 i7 i8 i9 i10 i11 i12 i13 i14 i15 i16 i17 i18 i19), (oX3 p0 pr pb pe pg p1 (nI nd) p2 p3 p4 p5 (nI cn) p6 (nI pq) p7 p8 p9 (nI sc)), (a3, .inl (cA 0, 10, .inl fs))] t) (va_A [(oX0 a0 p0 a1 a3 a4 a5 a6 i6 i7 i8 i9 i10 i11 i12 i13 i14 i15 i16 i17 i18 i19), (oX3 p0 pr pb pe pg p1 (nI nd) p2 p3 p4 p5 (nI cn) p6 (nI pq) p7 p8 p9 (nI sc)), (a3, .inl (cA 0, 10, .inl fs))] sz)) 0 0 (va_A [(oX0 a0 p0 a1 a3 a4 a5 a6 i6 i7 i8 i9 i10 i11 i12 i13 i14 i15 i16 i17 i18 i19), (oX3 p0 pr pb pe pg p1 (nI nd) p2 p3 p4 p5 (nI cn) p6 (nI pq) p7 p8 p9 (nI sc)), (a3, .inl (cA 0, 10, .inl fs))] sz) := by
  refine Met.ofW (cc := cX0_doneSet) (maxL := 3) (ret := (some .int)) (by decide) rfl ?_
  intro p e s m args below meth c s₁ B hml hv
  obtain ⟨rfl, hsz, hP, hK, hD0, hC, hZ⟩ := hv
  have hx := B.exec
  have hb := B.bytes
  have hr := B.returns
  have hts := atoms_spec (ws := wsX0_doneSet) B.pre
  have hown : s.vm.findClass RX0 = some m.cls := findClass_of_methodNamed B.named
  have hlocks := B.notSynchronized
  subst hsz
  have hD := hD0.self (sz := s.heap.size)
  generalize hAe : va_A [(oX0 a0 p0 a1 a3 a4 a5 a6 i6 i7 i8 i9 i10 i11 i12 i13 i14 i15 i16 i17 i18 i19), (oX3 p0 pr pb pe pg p1 (nI nd) p2 p3 p4 p5 (nI cn) p6 (nI pq) p7 p8 p9 (nI sc)), (a3, .inl (cA 0, 10, .inl fs))] s.heap.size = A at hD hZ ⊢
  have hA : ∀ q : Nat, s.heap.size ≤ q → A q := fun q h => by rw [← hAe]; exact Or.inr h
  have hS : va_S A s.heap s.heap [] := va_S.rf
  have hP : va_P D vwCl [(oX0 a0 p0 a1 a3 a4 a5 a6 i6 i7 i8 i9 i10 i11 i12 i13 i14 i15 i16 i17 i18 i19), (oX3 p0 pr pb pe pg p1 (nI nd) p2 p3 p4 p5 (nI cn) p6 (nI pq) p7 p8 p9 (nI sc)), (a3, .inl (cA 0, 10, .inl fs))] s.heap := hP
  have hl := lv_entry ([.ref a0]) (n := 3) (Nat.le_of_ble_eq_true rfl)
  rw [lg_entry_eq]
  generalize (lg_sl ([.ref a0]) ++ List.replicate (3 - (lg_sl ([.ref a0])).length) Slot.unset).toArray = ls at hl ⊢
  have hl : lv_has ls 3 [(0, .ref a0)] := hl
  have inX0 : ∀ w ∈ u_ws RX0 TX0 20, w ∈ wsX0_doneSet := by decide +kernel
  have inX3 : ∀ w ∈ u_ws RX3 TX3 17, w ∈ wsX0_doneSet := by decide +kernel
  refine lv_iconst (v := 0) hx hb dX0_doneSet_0 (by decide) ?_
  refine lv_istore_n (lv' := [(1, .int 0), (0, .ref a0)]) hx hb dX0_doneSet_1 rfl hl (by decide) rfl (fun ls hl => ?_)
  refine lv_iconst (v := 0) hx hb dX0_doneSet_2 (by decide) ?_
  refine lv_istore_n (lv' := [(2, .int 0), (1, .int 0), (0, .ref a0)]) hx hb dX0_doneSet_3 rfl hl (by decide) rfl (fun ls hl => ?_)
  have loop1 : ∀ (n1 i1 : Nat) (x1_1 : Int32) (H : Heap) (locs : List Loc) (ls : Array Slot), i1 + n1 = cn → va_P D vwCl [(oX0 a0 p0 a1 a3 a4 a5 a6 i6 i7 i8 i9 i10 i11 i12 i13 i14 i15 i16 i17 i18 i19), (oX3 p0 pr pb pe pg p1 (nI nd) p2 p3 p4 p5 (nI cn) p6 (nI pq) p7 p8 p9 (nI sc)), (a3, .inl (cA 0, 10, .inl fs))] H → va_D A [(oX0 a0 p0 a1 a3 a4 a5 a6 i6 i7 i8 i9 i10 i11 i12 i13 i14 i15 i16 i17 i18 i19), (oX3 p0 pr pb pe pg p1 (nI nd) p2 p3 p4 p5 (nI cn) p6 (nI pq) p7 p8 p9 (nI sc)), (a3, .inl (cA 0, 10, .inl fs))] → va_S A s.heap H locs → lv_has ls 3 [(2, .int (nI i1)), (1, .int x1_1), (0, .ref a0)] → W p l e (headSpec wsX0_doneSet ({ frames := 0, cells := 0, slots := 0, locals := 0 } : Room)).room s m ([.ref a0] : List Value).toArray below meth c H locs 0 0 (MQ below (va_Qi (fun (r : Int32) (_ : Unit) => True) (fun (_ : Unit) t => Wq D A [(oX0 a0 p0 a1 a3 a4 a5 a6 i6 i7 i8 i9 i10 i11 i12 i13 i14 i15 i16 i17 i18 i19), (oX3 p0 pr pb pe pg p1 (nI nd) p2 p3 p4 p5 (nI cn) p6 (nI pq) p7 p8 p9 (nI sc)), (a3, .inl (cA 0, 10, .inl fs))] t) A) ([.ref a0] : List Value).toArray s 0 0 A) (F0 m 4 ls []) := by
    intro n1
    induction n1 with
    | zero =>
      intro i1 x1_1 H locs ls hi1 hP hD hS hl
      obtain rfl : cn = i1 := by omega
      refine lv_iload_n hx hb dX0_doneSet_4 rfl (lv_at hl 0 rfl) ?_
      refine lv_aload_n hx hb dX0_doneSet_5 rfl (lv_at hl 2 rfl) ?_
      refine va_get (D := D) (ci := 4) (v := .ref p0) (C := RX0) (T := TX0) (N := 20) hx hb hts inX0 hown hK hP 0 rfl rfl 0 (by decide) (hts (.fieldLink RX0 31 "EscrowDesk$Account" "plan" "LEscrowDesk$Plan;") (by decide +kernel)) (fun _ h9 => h9) rfl dX0_doneSet_6 ?_
      refine va_getN (D := D) (ci := 7) (v := .int (nI cn)) (C := RX3) (T := TX3) (N := 17) hx hb hts inX3 hown hK hP 1 rfl rfl 10 (by decide) (hC.f (A := _) (a := RX0) (i := 109) (b := "EscrowDesk$Plan") (n := "milestoneCount") (d := "I") (x := "EscrowDesk") (by decide +kernel)) (fun _ h9 => h9) rfl dX0_doneSet_9 ?_
      refine lv_icmp_ge (tgt := 47) hx hb dX0_doneSet_12 (by decide) (fun c1 => ?_) (fun c9 => absurd (nI_le (a := cn) (b := cn) (show cn ≤ cn by omega) (by omega)) c9)
      refine lv_iload_n hx hb dX0_doneSet_47 rfl (lv_at hl 1 rfl) ?_
      obtain ⟨hP9, hD9⟩ := PDq.sub (ws' := [(oX0 a0 p0 a1 a3 a4 a5 a6 i6 i7 i8 i9 i10 i11 i12 i13 i14 i15 i16 i17 i18 i19), (oX3 p0 pr pb pe pg p1 (nI nd) p2 p3 p4 p5 (nI cn) p6 (nI pq) p7 p8 p9 (nI sc)), (a3, .inl (cA 0, 10, .inl fs))]) hP hD [0, 1, 2] (by decide) rfl
      refine W.widen (k := 0) (n := 0) (Nat.le_of_ble_eq_true rfl) (Nat.le_of_ble_eq_true rfl) ?_
      exact (W.iret (v := x1_1) hx hb hr (fun t ht hW => ⟨⟨x1_1, (), rfl, trivial, by rw [ht]; exact hP9, hD9⟩, hS.F ht⟩) hS.2.2 dX0_doneSet_48)
    | succ n1 ih1 =>
      intro i1 x1_1 H locs ls hi1 hP hD hS hl
      refine lv_iload_n hx hb dX0_doneSet_4 rfl (lv_at hl 0 rfl) ?_
      refine lv_aload_n hx hb dX0_doneSet_5 rfl (lv_at hl 2 rfl) ?_
      refine va_get (D := D) (ci := 4) (v := .ref p0) (C := RX0) (T := TX0) (N := 20) hx hb hts inX0 hown hK hP 0 rfl rfl 0 (by decide) (hts (.fieldLink RX0 31 "EscrowDesk$Account" "plan" "LEscrowDesk$Plan;") (by decide +kernel)) (fun _ h9 => h9) rfl dX0_doneSet_6 ?_
      refine va_getN (D := D) (ci := 7) (v := .int (nI cn)) (C := RX3) (T := TX3) (N := 17) hx hb hts inX3 hown hK hP 1 rfl rfl 10 (by decide) (hC.f (A := _) (a := RX0) (i := 109) (b := "EscrowDesk$Plan") (n := "milestoneCount") (d := "I") (x := "EscrowDesk") (by decide +kernel)) (fun _ h9 => h9) rfl dX0_doneSet_9 ?_
      refine lv_icmp_ge (tgt := 47) hx hb dX0_doneSet_12 (by decide) (fun c9 => absurd c9 (nI_ge (a := i1) (b := cn) (show i1 < cn by omega) (by omega))) (fun c2 => ?_)
      refine lv_aload_n hx hb dX0_doneSet_15 rfl (lv_at hl 2 rfl) ?_
      refine va_get (D := D) (ci := 4) (v := .ref a3) (C := RX0) (T := TX0) (N := 20) hx hb hts inX0 hown hK hP 0 rfl rfl 2 (by decide) (hts (.fieldLink RX0 18 "EscrowDesk$Account" "state" "[I") (by decide +kernel)) (fun _ h9 => h9) rfl dX0_doneSet_16 ?_
      refine lv_iload_n hx hb dX0_doneSet_19 rfl (lv_at hl 0 rfl) ?_
      refine va_iald hx hb hK hP 2 0 rfl rfl (vp_in_nI (n := i1) (N := 10) (show i1 < 10 by omega) (by decide)) dX0_doneSet_20 ?_
      refine lv_topi (fun yn3 eyn3 => ?_)
      refine lv_iconst (v := 3) hx hb dX0_doneSet_21 (by decide) ?_
      refine lv_icmp_eq (tgt := 35) hx hb dX0_doneSet_22 (by decide) (fun c4 => ?_) (fun c4 => ?_)
      · skip
        refine lv_iload_n hx hb dX0_doneSet_35 rfl (lv_at hl 1 rfl) ?_
        refine lv_iconst (v := 1) hx hb dX0_doneSet_36 (by decide) ?_
        refine lv_iload_n hx hb dX0_doneSet_37 rfl (lv_at hl 0 rfl) ?_
        refine lv_ishl hx hb dX0_doneSet_38 ?_
        refine lv_topi (fun yn5 eyn5 => ?_)
        refine lv_ior hx hb dX0_doneSet_39 ?_
        refine lv_topi (fun yn6 eyn6 => ?_)
        refine lv_istore_n (lv' := [(1, .int yn6), (2, .int (nI i1)), (0, .ref a0)]) hx hb dX0_doneSet_40 rfl hl (by decide) rfl (fun ls hl => ?_)
        refine lv_iinc (v := (nI (i1 + 1))) (lv' := [(2, .int (nI (i1 + 1))), (1, .int yn6), (0, .ref a0)]) hx hb dX0_doneSet_41 hl (k := 1) rfl (nI_1 _) (by decide) rfl (fun ls hl => ?_)
        refine lv_goto (tgt := 4) hx hb dX0_doneSet_44 (by decide) ?_
        obtain ⟨hP9, hD9⟩ := PDq.sub (ws' := [(oX0 a0 p0 a1 a3 a4 a5 a6 i6 i7 i8 i9 i10 i11 i12 i13 i14 i15 i16 i17 i18 i19), (oX3 p0 pr pb pe pg p1 (nI nd) p2 p3 p4 p5 (nI cn) p6 (nI pq) p7 p8 p9 (nI sc)), (a3, .inl (cA 0, 10, .inl fs))]) hP hD [0, 1, 2] (by decide) rfl
        exact ih1 (i1 + 1) yn6 H _ ls (by omega) hP9 hD9 hS (lv_sub hl [0, 1, 2] rfl)
      · skip
        refine lv_aload_n hx hb dX0_doneSet_25 rfl (lv_at hl 2 rfl) ?_
        refine va_get (D := D) (ci := 4) (v := .ref a3) (C := RX0) (T := TX0) (N := 20) hx hb hts inX0 hown hK hP 0 rfl rfl 2 (by decide) (hts (.fieldLink RX0 18 "EscrowDesk$Account" "state" "[I") (by decide +kernel)) (fun _ h9 => h9) rfl dX0_doneSet_26 ?_
        refine lv_iload_n hx hb dX0_doneSet_29 rfl (lv_at hl 0 rfl) ?_
        refine va_iald hx hb hK hP 2 0 rfl rfl (vp_in_nI (n := i1) (N := 10) (show i1 < 10 by omega) (by decide)) dX0_doneSet_30 ?_
        refine lv_topi (fun yn7 eyn7 => ?_)
        refine lv_iconst (v := 4) hx hb dX0_doneSet_31 (by decide) ?_
        refine lv_icmp_ne (tgt := 41) hx hb dX0_doneSet_32 (by decide) (fun c8 => ?_) (fun c8 => ?_)
        · skip
          refine lv_iinc (v := (nI (i1 + 1))) (lv' := [(2, .int (nI (i1 + 1))), (1, .int x1_1), (0, .ref a0)]) hx hb dX0_doneSet_41 hl (k := 0) rfl (nI_1 _) (by decide) rfl (fun ls hl => ?_)
          refine lv_goto (tgt := 4) hx hb dX0_doneSet_44 (by decide) ?_
          obtain ⟨hP9, hD9⟩ := PDq.sub (ws' := [(oX0 a0 p0 a1 a3 a4 a5 a6 i6 i7 i8 i9 i10 i11 i12 i13 i14 i15 i16 i17 i18 i19), (oX3 p0 pr pb pe pg p1 (nI nd) p2 p3 p4 p5 (nI cn) p6 (nI pq) p7 p8 p9 (nI sc)), (a3, .inl (cA 0, 10, .inl fs))]) hP hD [0, 1, 2] (by decide) rfl
          exact ih1 (i1 + 1) x1_1 H _ ls (by omega) hP9 hD9 hS (lv_sub hl [0, 1, 2] rfl)
        · skip
          refine lv_iload_n hx hb dX0_doneSet_35 rfl (lv_at hl 1 rfl) ?_
          refine lv_iconst (v := 1) hx hb dX0_doneSet_36 (by decide) ?_
          refine lv_iload_n hx hb dX0_doneSet_37 rfl (lv_at hl 0 rfl) ?_
          refine lv_ishl hx hb dX0_doneSet_38 ?_
          refine lv_topi (fun yn9 eyn9 => ?_)
          refine lv_ior hx hb dX0_doneSet_39 ?_
          refine lv_topi (fun yn10 eyn10 => ?_)
          refine lv_istore_n (lv' := [(1, .int yn10), (2, .int (nI i1)), (0, .ref a0)]) hx hb dX0_doneSet_40 rfl hl (by decide) rfl (fun ls hl => ?_)
          refine lv_iinc (v := (nI (i1 + 1))) (lv' := [(2, .int (nI (i1 + 1))), (1, .int yn10), (0, .ref a0)]) hx hb dX0_doneSet_41 hl (k := 1) rfl (nI_1 _) (by decide) rfl (fun ls hl => ?_)
          refine lv_goto (tgt := 4) hx hb dX0_doneSet_44 (by decide) ?_
          obtain ⟨hP9, hD9⟩ := PDq.sub (ws' := [(oX0 a0 p0 a1 a3 a4 a5 a6 i6 i7 i8 i9 i10 i11 i12 i13 i14 i15 i16 i17 i18 i19), (oX3 p0 pr pb pe pg p1 (nI nd) p2 p3 p4 p5 (nI cn) p6 (nI pq) p7 p8 p9 (nI sc)), (a3, .inl (cA 0, 10, .inl fs))]) hP hD [0, 1, 2] (by decide) rfl
          exact ih1 (i1 + 1) yn10 H _ ls (by omega) hP9 hD9 hS (lv_sub hl [0, 1, 2] rfl)
  obtain ⟨hP9, hD9⟩ := PDq.sub (ws' := [(oX0 a0 p0 a1 a3 a4 a5 a6 i6 i7 i8 i9 i10 i11 i12 i13 i14 i15 i16 i17 i18 i19), (oX3 p0 pr pb pe pg p1 (nI nd) p2 p3 p4 p5 (nI cn) p6 (nI pq) p7 p8 p9 (nI sc)), (a3, .inl (cA 0, 10, .inl fs))]) hP hD [0, 1, 2] (by decide) rfl
  exact loop1 (cn - 0) 0 0 _ _ ls (by omega) hP9 hD9 hS (lv_sub hl [0, 1, 2] rfl)

set_option maxHeartbeats 4000000 in
set_option maxRecDepth 100000 in
/-- judged -/
theorem s_judged (l : Launch) (D : va_G) (cA : Nat → ClassId) (sa : Nat → Nat) (a0 : Nat) (a1 : Nat) (a3 : Nat) (a4 : Nat) (a5 : Nat) (a6 : Nat) (p0 : Nat) (i6 : Int32) (i7 : Int32) (i8 : Int32) (i12 : Int32) (i13 : Int32) (i14 : Int32) (i15 : Int32) (i16 : Int32) (i17 : Int32) (i18 : Int32) (i19 : Int32) (i9 : Int64) (i10 : Int64) (i11 : Int64) (p1 : Nat) (p2 : Nat) (p3 : Nat) (p4 : Nat) (p5 : Nat) (p6 : Nat) (p7 : Nat) (p8 : Nat) (p9 : Nat) (cn : Nat) (pq : Nat) (nd : Nat) (sc : Nat) (pr : Int32) (pb : Int32) (pe : Int32) (pg : Int32) (mi : Nat) (fen : Nat → Int32) (fst : Nat → Int32) (fop : Nat → Int32) (d : Int32) (a : Int32) (b : Int32) (sz : Nat) (hcn : cn ≤ 10) (hpq : pq ≤ 8) (hnd : nd ≤ 6) (hsc : sc ≤ 350) (hen : Rng 10 351 fen) (hmi : mi < 10) : Met l yX0_judged wsX0_judged ({ frames := 2, cells := 0, slots := 0, locals := 51 }) (va_Pc [.ref a0, .int (nI mi), .int d, .int a, .int b] (Wd D cA sa [(oX0 a0 p0 a1 a3 a4 a5 a6 i6 i7 i8 i9 i10 i11 i12 i13 i14 i15 i16 i17 i18 i19), (oX3 p0 pr pb pe pg p1 (nI nd) p2 p3 p4 p5 (nI cn) p6 (nI pq) p7 p8 p9 (nI sc)), (p9, .inl (cA 0, 10, .inl fen)), (p7, .inl (cA 0, 350, .inl fst)), (p8, .inl (cA 0, 350, .inl fop))] sz)) (va_Qi (fun (r : Int32) (_ : Unit) => r = 0 ∨ r = 1) (fun (_ : Unit) t => Wq D (va_A [(oX0 a0 p0 a1 a3 a4 a5 a6 i6 i7 i8 i9 i10 i11 i12 i13 i14 i15 i16 i17 i18 i19), (oX3 p0 pr pb pe pg p1 (nI nd) p2 p3 p4 p5 (nI cn) p6 (nI pq) p7 p8 p9 (nI sc)), (p9, .inl (cA 0, 10, .inl fen)), (p7, .inl (cA 0, 350, .inl fst)), (p8, .inl (cA 0, 350, .inl fop))] sz) [(oX0 a0 p0 a1 a3 a4 a5 a6 i6 i7 i8 i9 i10 i11 i12 i13 i14 i15 i16 i17 i18 i19), (oX3 p0 pr pb pe pg p1 (nI nd) p2 p3 p4 p5 (nI cn) p6 (nI pq) p7 p8 p9 (nI sc)), (p9, .inl (cA 0, 10, .inl fen)), (p7, .inl (cA 0, 350, .inl fst)), (p8, .inl (cA 0, 350, .inl fop))] t) (va_A [(oX0 a0 p0 a1 a3 a4 a5 a6 i6 i7 i8 i9 i10 i11 i12 i13 i14 i15 i16 i17 i18 i19), (oX3 p0 pr pb pe pg p1 (nI nd) p2 p3 p4 p5 (nI cn) p6 (nI pq) p7 p8 p9 (nI sc)), (p9, .inl (cA 0, 10, .inl fen)), (p7, .inl (cA 0, 350, .inl fst)), (p8, .inl (cA 0, 350, .inl fop))] sz)) 0 0 (va_A [(oX0 a0 p0 a1 a3 a4 a5 a6 i6 i7 i8 i9 i10 i11 i12 i13 i14 i15 i16 i17 i18 i19), (oX3 p0 pr pb pe pg p1 (nI nd) p2 p3 p4 p5 (nI cn) p6 (nI pq) p7 p8 p9 (nI sc)), (p9, .inl (cA 0, 10, .inl fen)), (p7, .inl (cA 0, 350, .inl fst)), (p8, .inl (cA 0, 350, .inl fop))] sz) := by
  refine Met.ofW (cc := cX0_judged) (maxL := 6) (ret := (some .boolean)) (by decide) rfl ?_
  intro p e s m args below meth c s₁ B hml hv
  obtain ⟨rfl, hsz, hP, hK, hD0, hC, hZ⟩ := hv
  have hx := B.exec
  have hb := B.bytes
  have hr := B.returns
  have hts := atoms_spec (ws := wsX0_judged) B.pre
  have hown : s.vm.findClass RX0 = some m.cls := findClass_of_methodNamed B.named
  have hlocks := B.notSynchronized
  subst hsz
  have hD := hD0.self (sz := s.heap.size)
  generalize hAe : va_A [(oX0 a0 p0 a1 a3 a4 a5 a6 i6 i7 i8 i9 i10 i11 i12 i13 i14 i15 i16 i17 i18 i19), (oX3 p0 pr pb pe pg p1 (nI nd) p2 p3 p4 p5 (nI cn) p6 (nI pq) p7 p8 p9 (nI sc)), (p9, .inl (cA 0, 10, .inl fen)), (p7, .inl (cA 0, 350, .inl fst)), (p8, .inl (cA 0, 350, .inl fop))] s.heap.size = A at hD hZ ⊢
  have hA : ∀ q : Nat, s.heap.size ≤ q → A q := fun q h => by rw [← hAe]; exact Or.inr h
  have hS : va_S A s.heap s.heap [] := va_S.rf
  have hP : va_P D vwCl [(oX0 a0 p0 a1 a3 a4 a5 a6 i6 i7 i8 i9 i10 i11 i12 i13 i14 i15 i16 i17 i18 i19), (oX3 p0 pr pb pe pg p1 (nI nd) p2 p3 p4 p5 (nI cn) p6 (nI pq) p7 p8 p9 (nI sc)), (p9, .inl (cA 0, 10, .inl fen)), (p7, .inl (cA 0, 350, .inl fst)), (p8, .inl (cA 0, 350, .inl fop))] s.heap := hP
  have hl := lv_entry ([.ref a0, .int (nI mi), .int d, .int a, .int b]) (n := 6) (Nat.le_of_ble_eq_true rfl)
  rw [lg_entry_eq]
  generalize (lg_sl ([.ref a0, .int (nI mi), .int d, .int a, .int b]) ++ List.replicate (6 - (lg_sl ([.ref a0, .int (nI mi), .int d, .int a, .int b])).length) Slot.unset).toArray = ls at hl ⊢
  have hl : lv_has ls 6 [(0, .ref a0), (1, .int (nI mi)), (2, .int d), (3, .int a), (4, .int b)] := hl
  have inX0 : ∀ w ∈ u_ws RX0 TX0 20, w ∈ wsX0_judged := by decide +kernel
  refine lv_aload_n hx hb dX0_judged_0 rfl (lv_at hl 0 rfl) ?_
  refine va_get (D := D) (ci := 4) (v := .int i19) (C := RX0) (T := TX0) (N := 20) hx hb hts inX0 hown hK hP 0 rfl rfl 19 (by decide) (hts (.fieldLink RX0 86 "EscrowDesk$Account" "approvedSet" "I") (by decide +kernel)) (fun _ h9 => h9) rfl dX0_judged_1 ?_
  refine lv_iload_n hx hb dX0_judged_4 rfl (lv_at hl 1 rfl) ?_
  obtain ⟨hPc, hDc, hFc⟩ := PDq.cut (wc := []) hP hD hS hA [] (by decide) rfl
  refine va_calli (va_runS (As := [.int i19, .int (nI mi)]) (rest := []) ⟨hx, hb, hml, hown, hts⟩ (s_contains l D cA sa i19 (nI mi) s.heap.size) (va_cwS 2 hts gX0_judged_X3_contains rfl rfl rfl (by decide +kernel) ⟨(Nat.le_of_ble_eq_true rfl), (Nat.le_of_ble_eq_true rfl)⟩) ⟨Wd.blind, fun U hU hW => ⟨rfl, Wd.call hPc hDc hK hC hZ hS hFc U hU hW⟩⟩ rfl rfl hl.1 rfl (lv_room (Nat.le_of_ble_eq_true rfl)) dX0_judged_5 ⟨(Nat.le_of_ble_eq_true rfl), (Nat.le_of_ble_eq_true rfl)⟩) hS (fun q _ h => hFc q h) hFc (fun rn1 u t H1 locs ht hvm hw hB hz1 hk1 hS => ?_)
  obtain ⟨hP1, hD1⟩ := hB
  rw [ht] at hP1
  obtain ⟨hP, hD⟩ := PDq.join (w := [(oX0 a0 p0 a1 a3 a4 a5 a6 i6 i7 i8 i9 i10 i11 i12 i13 i14 i15 i16 i17 i18 i19), (oX3 p0 pr pb pe pg p1 (nI nd) p2 p3 p4 p5 (nI cn) p6 (nI pq) p7 p8 p9 (nI sc)), (p9, .inl (cA 0, 10, .inl fen)), (p7, .inl (cA 0, 350, .inl fst)), (p8, .inl (cA 0, 350, .inl fop))]) 5 hP hD [] [0, 1, 2, 3, 4] rfl rfl (by decide) (by decide) hk1 hFc hP1 hD1 rfl
  generalize H1 = H at hP hS ⊢
  have hn2 := hw
  refine lv_istore (lv' := [(5, .int rn1), (0, .ref a0), (1, .int (nI mi)), (2, .int d), (3, .int a), (4, .int b)]) hx hb dX0_judged_8 hl (by decide) rfl (fun ls hl => ?_)
  refine lv_aload_n hx hb dX0_judged_10 rfl (lv_at hl 1 rfl) ?_
  refine va_get (D := D) (ci := 4) (v := .ref p0) (C := RX0) (T := TX0) (N := 20) hx hb hts inX0 hown hK hP 0 rfl rfl 0 (by decide) (hts (.fieldLink RX0 31 "EscrowDesk$Account" "plan" "LEscrowDesk$Plan;") (by decide +kernel)) (fun _ h9 => h9) rfl dX0_judged_11 ?_
  refine lv_iload_n hx hb dX0_judged_14 rfl (lv_at hl 2 rfl) ?_
  refine lv_iload_n hx hb dX0_judged_15 rfl (lv_at hl 3 rfl) ?_
  refine lv_iload_n hx hb dX0_judged_16 rfl (lv_at hl 4 rfl) ?_
  refine lv_iload hx hb dX0_judged_17 (lv_at hl 5 rfl) ?_
  refine lv_aload_n hx hb dX0_judged_19 rfl (lv_at hl 1 rfl) ?_
  obtain ⟨hPc, hDc, hFc⟩ := PDq.cut (wc := [(oX0 a0 p0 a1 a3 a4 a5 a6 i6 i7 i8 i9 i10 i11 i12 i13 i14 i15 i16 i17 i18 i19)]) hP hD hS hA [0] (by decide) rfl
  refine va_calli (va_runV (As := []) (rest := [.int b, .int a, .int d, .int (nI mi), .ref p0]) ⟨hx, hb, hml, hown, hts⟩ (s_payments l D cA sa a0 a1 a3 a4 a5 a6 p0 i6 i7 i8 i12 i13 i14 i15 i16 i17 i18 i19 i9 i10 i11 H.size) (cwV 0 hts gX0_judged_X0_payments rfl rfl rfl (by decide +kernel) ⟨(Nat.le_of_ble_eq_true rfl), (Nat.le_of_ble_eq_true rfl)⟩) ⟨Wd.blind, va_recv hK hPc (ci := 4) (q0 := 0) rfl rfl, fun U hU hW => ⟨rfl, Wd.call hPc hDc hK hC hZ hS hFc U hU hW⟩⟩ rfl rfl hl.1 rfl (lv_room (Nat.le_of_ble_eq_true rfl)) dX0_judged_20 ⟨(Nat.le_of_ble_eq_true rfl), (Nat.le_of_ble_eq_true rfl)⟩) hS (fun q _ h => hFc q h) hFc (fun rn3 u t H1 locs ht hvm hw hB hz1 hk1 hS => ?_)
  obtain ⟨hP1, hD1⟩ := hB
  rw [ht] at hP1
  obtain ⟨hP, hD⟩ := PDq.join (w := [(oX3 p0 pr pb pe pg p1 (nI nd) p2 p3 p4 p5 (nI cn) p6 (nI pq) p7 p8 p9 (nI sc)), (p9, .inl (cA 0, 10, .inl fen)), (p7, .inl (cA 0, 350, .inl fst)), (p8, .inl (cA 0, 350, .inl fop)), (oX0 a0 p0 a1 a3 a4 a5 a6 i6 i7 i8 i9 i10 i11 i12 i13 i14 i15 i16 i17 i18 i19)]) 4 hP hD [0] [1, 2, 3, 4] rfl rfl (by decide) (by decide) hk1 hFc hP1 hD1 rfl
  generalize H1 = H at hP hS ⊢
  refine lv_iload hx hb dX0_judged_23 (lv_at hl 0 rfl) ?_
  obtain ⟨hPc, hDc, hFc⟩ := PDq.cut (wc := [(oX3 p0 pr pb pe pg p1 (nI nd) p2 p3 p4 p5 (nI cn) p6 (nI pq) p7 p8 p9 (nI sc)), (p9, .inl (cA 0, 10, .inl fen)), (p7, .inl (cA 0, 350, .inl fst)), (p8, .inl (cA 0, 350, .inl fop))]) hP hD hS hA [0, 1, 2, 3] (by decide) rfl
  refine va_calli (va_runV (As := [.int (nI mi), .int d, .int a, .int b, .int rn3, .int rn1]) (rest := []) ⟨hx, hb, hml, hown, hts⟩ (s_conditionHolds l D cA sa p0 p1 p2 p3 p4 p5 p6 p7 p8 p9 cn pq nd sc pr pb pe pg mi d a b rn3 rn1 fen fst fop H.size hcn hpq hnd hsc hen hmi) (cwV 6 hts gX0_judged_X3_conditionHolds rfl rfl rfl (by decide +kernel) ⟨(Nat.le_of_ble_eq_true rfl), (Nat.le_of_ble_eq_true rfl)⟩) ⟨Wd.blind, va_recv hK hPc (ci := 7) (q0 := 0) rfl rfl, fun U hU hW => ⟨rfl, Wd.call hPc hDc hK hC hZ hS hFc U hU hW⟩⟩ rfl rfl hl.1 rfl (lv_room (Nat.le_of_ble_eq_true rfl)) dX0_judged_25 ⟨(Nat.le_of_ble_eq_true rfl), (Nat.le_of_ble_eq_true rfl)⟩) hS (fun q _ h => hFc q h) hFc (fun rn4 u t H1 locs ht hvm hw hB hz1 hk1 hS => ?_)
  obtain ⟨hP1, hD1⟩ := hB
  rw [ht] at hP1
  obtain ⟨hP, hD⟩ := PDq.join (w := [(oX0 a0 p0 a1 a3 a4 a5 a6 i6 i7 i8 i9 i10 i11 i12 i13 i14 i15 i16 i17 i18 i19), (oX3 p0 pr pb pe pg p1 (nI nd) p2 p3 p4 p5 (nI cn) p6 (nI pq) p7 p8 p9 (nI sc)), (p9, .inl (cA 0, 10, .inl fen)), (p7, .inl (cA 0, 350, .inl fst)), (p8, .inl (cA 0, 350, .inl fop))]) 1 hP hD [0, 1, 2, 3] [4] rfl rfl (by decide) (by decide) hk1 hFc hP1 hD1 rfl
  generalize H1 = H at hP hS ⊢
  have hn5 := hw
  obtain ⟨hP9, hD9⟩ := PDq.sub (ws' := [(oX0 a0 p0 a1 a3 a4 a5 a6 i6 i7 i8 i9 i10 i11 i12 i13 i14 i15 i16 i17 i18 i19), (oX3 p0 pr pb pe pg p1 (nI nd) p2 p3 p4 p5 (nI cn) p6 (nI pq) p7 p8 p9 (nI sc)), (p9, .inl (cA 0, 10, .inl fen)), (p7, .inl (cA 0, 350, .inl fst)), (p8, .inl (cA 0, 350, .inl fop))]) hP hD [0, 1, 2, 3, 4] (by decide) rfl
  refine W.widen (k := 0) (n := 0) (Nat.le_of_ble_eq_true rfl) (Nat.le_of_ble_eq_true rfl) ?_
  exact (W.zret (v := rn4) hx hb hr (by rcases hn5 with h9 | h9 <;> rw [h9] <;> rfl) (fun t ht hW => ⟨⟨rn4, (), rfl, hn5, by rw [ht]; exact hP9, hD9⟩, hS.F ht⟩) hS.2.2 dX0_judged_28)

set_option maxHeartbeats 4000000 in
set_option maxRecDepth 100000 in
/-- holdsOn -/
theorem s_holdsOn (l : Launch) (D : va_G) (cA : Nat → ClassId) (sa : Nat → Nat) (a0 : Nat) (a1 : Nat) (a3 : Nat) (a4 : Nat) (a5 : Nat) (a6 : Nat) (p0 : Nat) (i6 : Int32) (i7 : Int32) (i8 : Int32) (i12 : Int32) (i13 : Int32) (i14 : Int32) (i15 : Int32) (i16 : Int32) (i17 : Int32) (i18 : Int32) (i19 : Int32) (i9 : Int64) (i10 : Int64) (i11 : Int64) (p1 : Nat) (p2 : Nat) (p3 : Nat) (p4 : Nat) (p5 : Nat) (p6 : Nat) (p7 : Nat) (p8 : Nat) (p9 : Nat) (cn : Nat) (pq : Nat) (nd : Nat) (sc : Nat) (pr : Int32) (pb : Int32) (pe : Int32) (pg : Int32) (mi : Nat) (fen : Nat → Int32) (fst : Nat → Int32) (fop : Nat → Int32) (d : Int32) (fs : Nat → Int32) (sz : Nat) (hcn : cn ≤ 10) (hpq : pq ≤ 8) (hnd : nd ≤ 6) (hsc : sc ≤ 350) (hen : Rng 10 351 fen) (hmi : mi < 10) : Met l yX0_holdsOn wsX0_holdsOn ({ frames := 3, cells := 0, slots := 0, locals := 76 }) (va_Pc [.ref a0, .int (nI mi), .int d] (Wd D cA sa [(oX0 a0 p0 a1 a3 a4 a5 a6 i6 i7 i8 i9 i10 i11 i12 i13 i14 i15 i16 i17 i18 i19), (oX3 p0 pr pb pe pg p1 (nI nd) p2 p3 p4 p5 (nI cn) p6 (nI pq) p7 p8 p9 (nI sc)), (p9, .inl (cA 0, 10, .inl fen)), (p7, .inl (cA 0, 350, .inl fst)), (p8, .inl (cA 0, 350, .inl fop)), (a3, .inl (cA 0, 10, .inl fs))] sz)) (va_Qi (fun (r : Int32) (_ : Unit) => r = 0 ∨ r = 1) (fun (_ : Unit) t => Wq D (va_A [(oX0 a0 p0 a1 a3 a4 a5 a6 i6 i7 i8 i9 i10 i11 i12 i13 i14 i15 i16 i17 i18 i19), (oX3 p0 pr pb pe pg p1 (nI nd) p2 p3 p4 p5 (nI cn) p6 (nI pq) p7 p8 p9 (nI sc)), (p9, .inl (cA 0, 10, .inl fen)), (p7, .inl (cA 0, 350, .inl fst)), (p8, .inl (cA 0, 350, .inl fop)), (a3, .inl (cA 0, 10, .inl fs))] sz) [(oX0 a0 p0 a1 a3 a4 a5 a6 i6 i7 i8 i9 i10 i11 i12 i13 i14 i15 i16 i17 i18 i19), (oX3 p0 pr pb pe pg p1 (nI nd) p2 p3 p4 p5 (nI cn) p6 (nI pq) p7 p8 p9 (nI sc)), (p9, .inl (cA 0, 10, .inl fen)), (p7, .inl (cA 0, 350, .inl fst)), (p8, .inl (cA 0, 350, .inl fop)), (a3, .inl (cA 0, 10, .inl fs))] t) (va_A [(oX0 a0 p0 a1 a3 a4 a5 a6 i6 i7 i8 i9 i10 i11 i12 i13 i14 i15 i16 i17 i18 i19), (oX3 p0 pr pb pe pg p1 (nI nd) p2 p3 p4 p5 (nI cn) p6 (nI pq) p7 p8 p9 (nI sc)), (p9, .inl (cA 0, 10, .inl fen)), (p7, .inl (cA 0, 350, .inl fst)), (p8, .inl (cA 0, 350, .inl fop)), (a3, .inl (cA 0, 10, .inl fs))] sz)) 0 0 (va_A [(oX0 a0 p0 a1 a3 a4 a5 a6 i6 i7 i8 i9 i10 i11 i12 i13 i14 i15 i16 i17 i18 i19), (oX3 p0 pr pb pe pg p1 (nI nd) p2 p3 p4 p5 (nI cn) p6 (nI pq) p7 p8 p9 (nI sc)), (p9, .inl (cA 0, 10, .inl fen)), (p7, .inl (cA 0, 350, .inl fst)), (p8, .inl (cA 0, 350, .inl fop)), (a3, .inl (cA 0, 10, .inl fs))] sz) := by
  refine Met.ofW (cc := cX0_holdsOn) (maxL := 3) (ret := (some .boolean)) (by decide) rfl ?_
  intro p e s m args below meth c s₁ B hml hv
  obtain ⟨rfl, hsz, hP, hK, hD0, hC, hZ⟩ := hv
  have hx := B.exec
  have hb := B.bytes
  have hr := B.returns
  have hts := atoms_spec (ws := wsX0_holdsOn) B.pre
  have hown : s.vm.findClass RX0 = some m.cls := findClass_of_methodNamed B.named
  have hlocks := B.notSynchronized
  subst hsz
  have hD := hD0.self (sz := s.heap.size)
  generalize hAe : va_A [(oX0 a0 p0 a1 a3 a4 a5 a6 i6 i7 i8 i9 i10 i11 i12 i13 i14 i15 i16 i17 i18 i19), (oX3 p0 pr pb pe pg p1 (nI nd) p2 p3 p4 p5 (nI cn) p6 (nI pq) p7 p8 p9 (nI sc)), (p9, .inl (cA 0, 10, .inl fen)), (p7, .inl (cA 0, 350, .inl fst)), (p8, .inl (cA 0, 350, .inl fop)), (a3, .inl (cA 0, 10, .inl fs))] s.heap.size = A at hD hZ ⊢
  have hA : ∀ q : Nat, s.heap.size ≤ q → A q := fun q h => by rw [← hAe]; exact Or.inr h
  have hS : va_S A s.heap s.heap [] := va_S.rf
  have hP : va_P D vwCl [(oX0 a0 p0 a1 a3 a4 a5 a6 i6 i7 i8 i9 i10 i11 i12 i13 i14 i15 i16 i17 i18 i19), (oX3 p0 pr pb pe pg p1 (nI nd) p2 p3 p4 p5 (nI cn) p6 (nI pq) p7 p8 p9 (nI sc)), (p9, .inl (cA 0, 10, .inl fen)), (p7, .inl (cA 0, 350, .inl fst)), (p8, .inl (cA 0, 350, .inl fop)), (a3, .inl (cA 0, 10, .inl fs))] s.heap := hP
  have hl := lv_entry ([.ref a0, .int (nI mi), .int d]) (n := 3) (Nat.le_of_ble_eq_true rfl)
  rw [lg_entry_eq]
  generalize (lg_sl ([.ref a0, .int (nI mi), .int d]) ++ List.replicate (3 - (lg_sl ([.ref a0, .int (nI mi), .int d])).length) Slot.unset).toArray = ls at hl ⊢
  have hl : lv_has ls 3 [(0, .ref a0), (1, .int (nI mi)), (2, .int d)] := hl
  have inX0 : ∀ w ∈ u_ws RX0 TX0 20, w ∈ wsX0_holdsOn := by decide +kernel
  refine lv_aload_n hx hb dX0_holdsOn_0 rfl (lv_at hl 0 rfl) ?_
  refine lv_iload_n hx hb dX0_holdsOn_1 rfl (lv_at hl 1 rfl) ?_
  refine lv_iload_n hx hb dX0_holdsOn_2 rfl (lv_at hl 2 rfl) ?_
  refine lv_aload_n hx hb dX0_holdsOn_3 rfl (lv_at hl 0 rfl) ?_
  refine va_get (D := D) (ci := 4) (v := .int i18) (C := RX0) (T := TX0) (N := 20) hx hb hts inX0 hown hK hP 0 rfl rfl 18 (by decide) (hts (.fieldLink RX0 83 "EscrowDesk$Account" "submittedSet" "I") (by decide +kernel)) (fun _ h9 => h9) rfl dX0_holdsOn_4 ?_
  refine lv_aload_n hx hb dX0_holdsOn_7 rfl (lv_at hl 0 rfl) ?_
  obtain ⟨hPc, hDc, hFc⟩ := PDq.cut (wc := [(oX0 a0 p0 a1 a3 a4 a5 a6 i6 i7 i8 i9 i10 i11 i12 i13 i14 i15 i16 i17 i18 i19), (oX3 p0 pr pb pe pg p1 (nI nd) p2 p3 p4 p5 (nI cn) p6 (nI pq) p7 p8 p9 (nI sc)), (a3, .inl (cA 0, 10, .inl fs))]) hP hD hS hA [0, 1, 5] (by decide) rfl
  refine va_calli (va_runV (As := []) (rest := [.int i18, .int d, .int (nI mi), .ref a0]) ⟨hx, hb, hml, hown, hts⟩ (s_doneSet l D cA sa a0 a1 a3 a4 a5 a6 p0 i6 i7 i8 i12 i13 i14 i15 i16 i17 i18 i19 i9 i10 i11 p1 p2 p3 p4 p5 p6 p7 p8 p9 cn pq nd sc pr pb pe pg fs s.heap.size hcn hpq hnd hsc) (cwV 0 hts gX0_holdsOn_X0_doneSet rfl rfl rfl (by decide +kernel) ⟨(Nat.le_of_ble_eq_true rfl), (Nat.le_of_ble_eq_true rfl)⟩) ⟨Wd.blind, va_recv hK hPc (ci := 4) (q0 := 0) rfl rfl, fun U hU hW => ⟨rfl, Wd.call hPc hDc hK hC hZ hS hFc U hU hW⟩⟩ rfl rfl hl.1 rfl (lv_room (Nat.le_of_ble_eq_true rfl)) dX0_holdsOn_8 ⟨(Nat.le_of_ble_eq_true rfl), (Nat.le_of_ble_eq_true rfl)⟩) hS (fun q _ h => hFc q h) hFc (fun rn1 u t H1 locs ht hvm hw hB hz1 hk1 hS => ?_)
  obtain ⟨hP1, hD1⟩ := hB
  rw [ht] at hP1
  obtain ⟨hP, hD⟩ := PDq.join (w := [(p9, .inl (cA 0, 10, .inl fen)), (p7, .inl (cA 0, 350, .inl fst)), (p8, .inl (cA 0, 350, .inl fop)), (oX0 a0 p0 a1 a3 a4 a5 a6 i6 i7 i8 i9 i10 i11 i12 i13 i14 i15 i16 i17 i18 i19), (oX3 p0 pr pb pe pg p1 (nI nd) p2 p3 p4 p5 (nI cn) p6 (nI pq) p7 p8 p9 (nI sc)), (a3, .inl (cA 0, 10, .inl fs))]) 3 hP hD [0, 1, 5] [2, 3, 4] rfl rfl (by decide) (by decide) hk1 hFc hP1 hD1 rfl
  generalize H1 = H at hP hS ⊢
  obtain ⟨hPc, hDc, hFc⟩ := PDq.cut (wc := [(oX0 a0 p0 a1 a3 a4 a5 a6 i6 i7 i8 i9 i10 i11 i12 i13 i14 i15 i16 i17 i18 i19), (oX3 p0 pr pb pe pg p1 (nI nd) p2 p3 p4 p5 (nI cn) p6 (nI pq) p7 p8 p9 (nI sc)), (p9, .inl (cA 0, 10, .inl fen)), (p7, .inl (cA 0, 350, .inl fst)), (p8, .inl (cA 0, 350, .inl fop))]) hP hD hS hA [3, 4, 0, 1, 2] (by decide) rfl
  refine va_calli (va_runV (As := [.int (nI mi), .int d, .int i18, .int rn1]) (rest := []) ⟨hx, hb, hml, hown, hts⟩ (s_judged l D cA sa a0 a1 a3 a4 a5 a6 p0 i6 i7 i8 i12 i13 i14 i15 i16 i17 i18 i19 i9 i10 i11 p1 p2 p3 p4 p5 p6 p7 p8 p9 cn pq nd sc pr pb pe pg mi fen fst fop d i18 rn1 H.size hcn hpq hnd hsc hen hmi) (cwV 4 hts gX0_holdsOn_X0_judged rfl rfl rfl (by decide +kernel) ⟨(Nat.le_of_ble_eq_true rfl), (Nat.le_of_ble_eq_true rfl)⟩) ⟨Wd.blind, va_recv hK hPc (ci := 4) (q0 := 0) rfl rfl, fun U hU hW => ⟨rfl, Wd.call hPc hDc hK hC hZ hS hFc U hU hW⟩⟩ rfl rfl hl.1 rfl (lv_room (Nat.le_of_ble_eq_true rfl)) dX0_holdsOn_11 ⟨(Nat.le_of_ble_eq_true rfl), (Nat.le_of_ble_eq_true rfl)⟩) hS (fun q _ h => hFc q h) hFc (fun rn2 u t H1 locs ht hvm hw hB hz1 hk1 hS => ?_)
  obtain ⟨hP1, hD1⟩ := hB
  rw [ht] at hP1
  obtain ⟨hP, hD⟩ := PDq.join (w := [(a3, .inl (cA 0, 10, .inl fs)), (oX0 a0 p0 a1 a3 a4 a5 a6 i6 i7 i8 i9 i10 i11 i12 i13 i14 i15 i16 i17 i18 i19), (oX3 p0 pr pb pe pg p1 (nI nd) p2 p3 p4 p5 (nI cn) p6 (nI pq) p7 p8 p9 (nI sc)), (p9, .inl (cA 0, 10, .inl fen)), (p7, .inl (cA 0, 350, .inl fst)), (p8, .inl (cA 0, 350, .inl fop))]) 1 hP hD [3, 4, 0, 1, 2] [5] rfl rfl (by decide) (by decide) hk1 hFc hP1 hD1 rfl
  generalize H1 = H at hP hS ⊢
  have hn3 := hw
  obtain ⟨hP9, hD9⟩ := PDq.sub (ws' := [(oX0 a0 p0 a1 a3 a4 a5 a6 i6 i7 i8 i9 i10 i11 i12 i13 i14 i15 i16 i17 i18 i19), (oX3 p0 pr pb pe pg p1 (nI nd) p2 p3 p4 p5 (nI cn) p6 (nI pq) p7 p8 p9 (nI sc)), (p9, .inl (cA 0, 10, .inl fen)), (p7, .inl (cA 0, 350, .inl fst)), (p8, .inl (cA 0, 350, .inl fop)), (a3, .inl (cA 0, 10, .inl fs))]) hP hD [1, 2, 3, 4, 5, 0] (by decide) rfl
  refine W.widen (k := 0) (n := 0) (Nat.le_of_ble_eq_true rfl) (Nat.le_of_ble_eq_true rfl) ?_
  exact (W.zret (v := rn2) hx hb hr (by rcases hn3 with h9 | h9 <;> rw [h9] <;> rfl) (fun t ht hW => ⟨⟨rn2, (), rfl, hn3, by rw [ht]; exact hP9, hD9⟩, hS.F ht⟩) hS.2.2 dX0_holdsOn_14)

set_option maxHeartbeats 4000000 in
set_option maxRecDepth 100000 in
/-- holdsWithProofs -/
theorem s_holdsWithProofs (l : Launch) (D : va_G) (cA : Nat → ClassId) (sa : Nat → Nat) (a0 : Nat) (a1 : Nat) (a3 : Nat) (a4 : Nat) (a5 : Nat) (a6 : Nat) (p0 : Nat) (i6 : Int32) (i7 : Int32) (i8 : Int32) (i12 : Int32) (i13 : Int32) (i14 : Int32) (i15 : Int32) (i16 : Int32) (i17 : Int32) (i18 : Int32) (i19 : Int32) (i9 : Int64) (i10 : Int64) (i11 : Int64) (p1 : Nat) (p2 : Nat) (p3 : Nat) (p4 : Nat) (p5 : Nat) (p6 : Nat) (p7 : Nat) (p8 : Nat) (p9 : Nat) (cn : Nat) (pq : Nat) (nd : Nat) (sc : Nat) (pr : Int32) (pb : Int32) (pe : Int32) (pg : Int32) (mi : Nat) (fen : Nat → Int32) (fst : Nat → Int32) (fop : Nat → Int32) (d : Int32) (fs : Nat → Int32) (sz : Nat) (hcn : cn ≤ 10) (hpq : pq ≤ 8) (hnd : nd ≤ 6) (hsc : sc ≤ 350) (hen : Rng 10 351 fen) (hmi : mi < 10) : Met l yX0_holdsWithProofs wsX0_holdsWithProofs ({ frames := 3, cells := 0, slots := 0, locals := 76 }) (va_Pc [.ref a0, .int (nI mi), .int d] (Wd D cA sa [(oX0 a0 p0 a1 a3 a4 a5 a6 i6 i7 i8 i9 i10 i11 i12 i13 i14 i15 i16 i17 i18 i19), (oX3 p0 pr pb pe pg p1 (nI nd) p2 p3 p4 p5 (nI cn) p6 (nI pq) p7 p8 p9 (nI sc)), (p9, .inl (cA 0, 10, .inl fen)), (p7, .inl (cA 0, 350, .inl fst)), (p8, .inl (cA 0, 350, .inl fop)), (a3, .inl (cA 0, 10, .inl fs))] sz)) (va_Qi (fun (r : Int32) (_ : Unit) => r = 0 ∨ r = 1) (fun (_ : Unit) t => Wq D (va_A [(oX0 a0 p0 a1 a3 a4 a5 a6 i6 i7 i8 i9 i10 i11 i12 i13 i14 i15 i16 i17 i18 i19), (oX3 p0 pr pb pe pg p1 (nI nd) p2 p3 p4 p5 (nI cn) p6 (nI pq) p7 p8 p9 (nI sc)), (p9, .inl (cA 0, 10, .inl fen)), (p7, .inl (cA 0, 350, .inl fst)), (p8, .inl (cA 0, 350, .inl fop)), (a3, .inl (cA 0, 10, .inl fs))] sz) [(oX0 a0 p0 a1 a3 a4 a5 a6 i6 i7 i8 i9 i10 i11 i12 i13 i14 i15 i16 i17 i18 i19), (oX3 p0 pr pb pe pg p1 (nI nd) p2 p3 p4 p5 (nI cn) p6 (nI pq) p7 p8 p9 (nI sc)), (p9, .inl (cA 0, 10, .inl fen)), (p7, .inl (cA 0, 350, .inl fst)), (p8, .inl (cA 0, 350, .inl fop)), (a3, .inl (cA 0, 10, .inl fs))] t) (va_A [(oX0 a0 p0 a1 a3 a4 a5 a6 i6 i7 i8 i9 i10 i11 i12 i13 i14 i15 i16 i17 i18 i19), (oX3 p0 pr pb pe pg p1 (nI nd) p2 p3 p4 p5 (nI cn) p6 (nI pq) p7 p8 p9 (nI sc)), (p9, .inl (cA 0, 10, .inl fen)), (p7, .inl (cA 0, 350, .inl fst)), (p8, .inl (cA 0, 350, .inl fop)), (a3, .inl (cA 0, 10, .inl fs))] sz)) 0 0 (va_A [(oX0 a0 p0 a1 a3 a4 a5 a6 i6 i7 i8 i9 i10 i11 i12 i13 i14 i15 i16 i17 i18 i19), (oX3 p0 pr pb pe pg p1 (nI nd) p2 p3 p4 p5 (nI cn) p6 (nI pq) p7 p8 p9 (nI sc)), (p9, .inl (cA 0, 10, .inl fen)), (p7, .inl (cA 0, 350, .inl fst)), (p8, .inl (cA 0, 350, .inl fop)), (a3, .inl (cA 0, 10, .inl fs))] sz) := by
  refine Met.ofW (cc := cX0_holdsWithProofs) (maxL := 3) (ret := (some .boolean)) (by decide) rfl ?_
  intro p e s m args below meth c s₁ B hml hv
  obtain ⟨rfl, hsz, hP, hK, hD0, hC, hZ⟩ := hv
  have hx := B.exec
  have hb := B.bytes
  have hr := B.returns
  have hts := atoms_spec (ws := wsX0_holdsWithProofs) B.pre
  have hown : s.vm.findClass RX0 = some m.cls := findClass_of_methodNamed B.named
  have hlocks := B.notSynchronized
  subst hsz
  have hD := hD0.self (sz := s.heap.size)
  generalize hAe : va_A [(oX0 a0 p0 a1 a3 a4 a5 a6 i6 i7 i8 i9 i10 i11 i12 i13 i14 i15 i16 i17 i18 i19), (oX3 p0 pr pb pe pg p1 (nI nd) p2 p3 p4 p5 (nI cn) p6 (nI pq) p7 p8 p9 (nI sc)), (p9, .inl (cA 0, 10, .inl fen)), (p7, .inl (cA 0, 350, .inl fst)), (p8, .inl (cA 0, 350, .inl fop)), (a3, .inl (cA 0, 10, .inl fs))] s.heap.size = A at hD hZ ⊢
  have hA : ∀ q : Nat, s.heap.size ≤ q → A q := fun q h => by rw [← hAe]; exact Or.inr h
  have hS : va_S A s.heap s.heap [] := va_S.rf
  have hP : va_P D vwCl [(oX0 a0 p0 a1 a3 a4 a5 a6 i6 i7 i8 i9 i10 i11 i12 i13 i14 i15 i16 i17 i18 i19), (oX3 p0 pr pb pe pg p1 (nI nd) p2 p3 p4 p5 (nI cn) p6 (nI pq) p7 p8 p9 (nI sc)), (p9, .inl (cA 0, 10, .inl fen)), (p7, .inl (cA 0, 350, .inl fst)), (p8, .inl (cA 0, 350, .inl fop)), (a3, .inl (cA 0, 10, .inl fs))] s.heap := hP
  have hl := lv_entry ([.ref a0, .int (nI mi), .int d]) (n := 3) (Nat.le_of_ble_eq_true rfl)
  rw [lg_entry_eq]
  generalize (lg_sl ([.ref a0, .int (nI mi), .int d]) ++ List.replicate (3 - (lg_sl ([.ref a0, .int (nI mi), .int d])).length) Slot.unset).toArray = ls at hl ⊢
  have hl : lv_has ls 3 [(0, .ref a0), (1, .int (nI mi)), (2, .int d)] := hl
  have inX0 : ∀ w ∈ u_ws RX0 TX0 20, w ∈ wsX0_holdsWithProofs := by decide +kernel
  refine lv_aload_n hx hb dX0_holdsWithProofs_0 rfl (lv_at hl 0 rfl) ?_
  refine lv_iload_n hx hb dX0_holdsWithProofs_1 rfl (lv_at hl 1 rfl) ?_
  refine lv_aload_n hx hb dX0_holdsWithProofs_2 rfl (lv_at hl 0 rfl) ?_
  refine va_get (D := D) (ci := 4) (v := .int i6) (C := RX0) (T := TX0) (N := 20) hx hb hts inX0 hown hK hP 0 rfl rfl 6 (by decide) (hts (.fieldLink RX0 40 "EscrowDesk$Account" "day" "I") (by decide +kernel)) (fun _ h9 => h9) rfl dX0_holdsWithProofs_3 ?_
  refine lv_aload_n hx hb dX0_holdsWithProofs_6 rfl (lv_at hl 0 rfl) ?_
  refine va_get (D := D) (ci := 4) (v := .int i18) (C := RX0) (T := TX0) (N := 20) hx hb hts inX0 hown hK hP 0 rfl rfl 18 (by decide) (hts (.fieldLink RX0 83 "EscrowDesk$Account" "submittedSet" "I") (by decide +kernel)) (fun _ h9 => h9) rfl dX0_holdsWithProofs_7 ?_
  refine lv_iload_n hx hb dX0_holdsWithProofs_10 rfl (lv_at hl 2 rfl) ?_
  refine lv_ior hx hb dX0_holdsWithProofs_11 ?_
  refine lv_topi (fun yn1 eyn1 => ?_)
  refine lv_aload_n hx hb dX0_holdsWithProofs_12 rfl (lv_at hl 0 rfl) ?_
  obtain ⟨hPc, hDc, hFc⟩ := PDq.cut (wc := [(oX0 a0 p0 a1 a3 a4 a5 a6 i6 i7 i8 i9 i10 i11 i12 i13 i14 i15 i16 i17 i18 i19), (oX3 p0 pr pb pe pg p1 (nI nd) p2 p3 p4 p5 (nI cn) p6 (nI pq) p7 p8 p9 (nI sc)), (a3, .inl (cA 0, 10, .inl fs))]) hP hD hS hA [0, 1, 5] (by decide) rfl
  refine va_calli (va_runV (As := []) (rest := [.int yn1, .int i6, .int (nI mi), .ref a0]) ⟨hx, hb, hml, hown, hts⟩ (s_doneSet l D cA sa a0 a1 a3 a4 a5 a6 p0 i6 i7 i8 i12 i13 i14 i15 i16 i17 i18 i19 i9 i10 i11 p1 p2 p3 p4 p5 p6 p7 p8 p9 cn pq nd sc pr pb pe pg fs s.heap.size hcn hpq hnd hsc) (cwV 0 hts gX0_holdsWithProofs_X0_doneSet rfl rfl rfl (by decide +kernel) ⟨(Nat.le_of_ble_eq_true rfl), (Nat.le_of_ble_eq_true rfl)⟩) ⟨Wd.blind, va_recv hK hPc (ci := 4) (q0 := 0) rfl rfl, fun U hU hW => ⟨rfl, Wd.call hPc hDc hK hC hZ hS hFc U hU hW⟩⟩ rfl rfl hl.1 rfl (lv_room (Nat.le_of_ble_eq_true rfl)) dX0_holdsWithProofs_13 ⟨(Nat.le_of_ble_eq_true rfl), (Nat.le_of_ble_eq_true rfl)⟩) hS (fun q _ h => hFc q h) hFc (fun rn2 u t H1 locs ht hvm hw hB hz1 hk1 hS => ?_)
  obtain ⟨hP1, hD1⟩ := hB
  rw [ht] at hP1
  obtain ⟨hP, hD⟩ := PDq.join (w := [(p9, .inl (cA 0, 10, .inl fen)), (p7, .inl (cA 0, 350, .inl fst)), (p8, .inl (cA 0, 350, .inl fop)), (oX0 a0 p0 a1 a3 a4 a5 a6 i6 i7 i8 i9 i10 i11 i12 i13 i14 i15 i16 i17 i18 i19), (oX3 p0 pr pb pe pg p1 (nI nd) p2 p3 p4 p5 (nI cn) p6 (nI pq) p7 p8 p9 (nI sc)), (a3, .inl (cA 0, 10, .inl fs))]) 3 hP hD [0, 1, 5] [2, 3, 4] rfl rfl (by decide) (by decide) hk1 hFc hP1 hD1 rfl
  generalize H1 = H at hP hS ⊢
  obtain ⟨hPc, hDc, hFc⟩ := PDq.cut (wc := [(oX0 a0 p0 a1 a3 a4 a5 a6 i6 i7 i8 i9 i10 i11 i12 i13 i14 i15 i16 i17 i18 i19), (oX3 p0 pr pb pe pg p1 (nI nd) p2 p3 p4 p5 (nI cn) p6 (nI pq) p7 p8 p9 (nI sc)), (p9, .inl (cA 0, 10, .inl fen)), (p7, .inl (cA 0, 350, .inl fst)), (p8, .inl (cA 0, 350, .inl fop))]) hP hD hS hA [3, 4, 0, 1, 2] (by decide) rfl
  refine va_calli (va_runV (As := [.int (nI mi), .int i6, .int yn1, .int rn2]) (rest := []) ⟨hx, hb, hml, hown, hts⟩ (s_judged l D cA sa a0 a1 a3 a4 a5 a6 p0 i6 i7 i8 i12 i13 i14 i15 i16 i17 i18 i19 i9 i10 i11 p1 p2 p3 p4 p5 p6 p7 p8 p9 cn pq nd sc pr pb pe pg mi fen fst fop i6 yn1 rn2 H.size hcn hpq hnd hsc hen hmi) (cwV 4 hts gX0_holdsWithProofs_X0_judged rfl rfl rfl (by decide +kernel) ⟨(Nat.le_of_ble_eq_true rfl), (Nat.le_of_ble_eq_true rfl)⟩) ⟨Wd.blind, va_recv hK hPc (ci := 4) (q0 := 0) rfl rfl, fun U hU hW => ⟨rfl, Wd.call hPc hDc hK hC hZ hS hFc U hU hW⟩⟩ rfl rfl hl.1 rfl (lv_room (Nat.le_of_ble_eq_true rfl)) dX0_holdsWithProofs_16 ⟨(Nat.le_of_ble_eq_true rfl), (Nat.le_of_ble_eq_true rfl)⟩) hS (fun q _ h => hFc q h) hFc (fun rn3 u t H1 locs ht hvm hw hB hz1 hk1 hS => ?_)
  obtain ⟨hP1, hD1⟩ := hB
  rw [ht] at hP1
  obtain ⟨hP, hD⟩ := PDq.join (w := [(a3, .inl (cA 0, 10, .inl fs)), (oX0 a0 p0 a1 a3 a4 a5 a6 i6 i7 i8 i9 i10 i11 i12 i13 i14 i15 i16 i17 i18 i19), (oX3 p0 pr pb pe pg p1 (nI nd) p2 p3 p4 p5 (nI cn) p6 (nI pq) p7 p8 p9 (nI sc)), (p9, .inl (cA 0, 10, .inl fen)), (p7, .inl (cA 0, 350, .inl fst)), (p8, .inl (cA 0, 350, .inl fop))]) 1 hP hD [3, 4, 0, 1, 2] [5] rfl rfl (by decide) (by decide) hk1 hFc hP1 hD1 rfl
  generalize H1 = H at hP hS ⊢
  have hn4 := hw
  obtain ⟨hP9, hD9⟩ := PDq.sub (ws' := [(oX0 a0 p0 a1 a3 a4 a5 a6 i6 i7 i8 i9 i10 i11 i12 i13 i14 i15 i16 i17 i18 i19), (oX3 p0 pr pb pe pg p1 (nI nd) p2 p3 p4 p5 (nI cn) p6 (nI pq) p7 p8 p9 (nI sc)), (p9, .inl (cA 0, 10, .inl fen)), (p7, .inl (cA 0, 350, .inl fst)), (p8, .inl (cA 0, 350, .inl fop)), (a3, .inl (cA 0, 10, .inl fs))]) hP hD [1, 2, 3, 4, 5, 0] (by decide) rfl
  refine W.widen (k := 0) (n := 0) (Nat.le_of_ble_eq_true rfl) (Nat.le_of_ble_eq_true rfl) ?_
  exact (W.zret (v := rn3) hx hb hr (by rcases hn4 with h9 | h9 <;> rw [h9] <;> rfl) (fun t ht hW => ⟨⟨rn3, (), rfl, hn4, by rw [ht]; exact hP9, hD9⟩, hS.F ht⟩) hS.2.2 dX0_holdsWithProofs_19)

set_option maxHeartbeats 4000000 in
set_option maxRecDepth 100000 in
/-- holdsWithDone -/
theorem s_holdsWithDone (l : Launch) (D : va_G) (cA : Nat → ClassId) (sa : Nat → Nat) (a0 : Nat) (a1 : Nat) (a3 : Nat) (a4 : Nat) (a5 : Nat) (a6 : Nat) (p0 : Nat) (i6 : Int32) (i7 : Int32) (i8 : Int32) (i12 : Int32) (i13 : Int32) (i14 : Int32) (i15 : Int32) (i16 : Int32) (i17 : Int32) (i18 : Int32) (i19 : Int32) (i9 : Int64) (i10 : Int64) (i11 : Int64) (p1 : Nat) (p2 : Nat) (p3 : Nat) (p4 : Nat) (p5 : Nat) (p6 : Nat) (p7 : Nat) (p8 : Nat) (p9 : Nat) (cn : Nat) (pq : Nat) (nd : Nat) (sc : Nat) (pr : Int32) (pb : Int32) (pe : Int32) (pg : Int32) (mi : Nat) (fen : Nat → Int32) (fst : Nat → Int32) (fop : Nat → Int32) (d : Int32) (fs : Nat → Int32) (sz : Nat) (hcn : cn ≤ 10) (hpq : pq ≤ 8) (hnd : nd ≤ 6) (hsc : sc ≤ 350) (hen : Rng 10 351 fen) (hmi : mi < 10) : Met l yX0_holdsWithDone wsX0_holdsWithDone ({ frames := 3, cells := 0, slots := 0, locals := 76 }) (va_Pc [.ref a0, .int (nI mi), .int d] (Wd D cA sa [(oX0 a0 p0 a1 a3 a4 a5 a6 i6 i7 i8 i9 i10 i11 i12 i13 i14 i15 i16 i17 i18 i19), (oX3 p0 pr pb pe pg p1 (nI nd) p2 p3 p4 p5 (nI cn) p6 (nI pq) p7 p8 p9 (nI sc)), (p9, .inl (cA 0, 10, .inl fen)), (p7, .inl (cA 0, 350, .inl fst)), (p8, .inl (cA 0, 350, .inl fop)), (a3, .inl (cA 0, 10, .inl fs))] sz)) (va_Qi (fun (r : Int32) (_ : Unit) => r = 0 ∨ r = 1) (fun (_ : Unit) t => Wq D (va_A [(oX0 a0 p0 a1 a3 a4 a5 a6 i6 i7 i8 i9 i10 i11 i12 i13 i14 i15 i16 i17 i18 i19), (oX3 p0 pr pb pe pg p1 (nI nd) p2 p3 p4 p5 (nI cn) p6 (nI pq) p7 p8 p9 (nI sc)), (p9, .inl (cA 0, 10, .inl fen)), (p7, .inl (cA 0, 350, .inl fst)), (p8, .inl (cA 0, 350, .inl fop)), (a3, .inl (cA 0, 10, .inl fs))] sz) [(oX0 a0 p0 a1 a3 a4 a5 a6 i6 i7 i8 i9 i10 i11 i12 i13 i14 i15 i16 i17 i18 i19), (oX3 p0 pr pb pe pg p1 (nI nd) p2 p3 p4 p5 (nI cn) p6 (nI pq) p7 p8 p9 (nI sc)), (p9, .inl (cA 0, 10, .inl fen)), (p7, .inl (cA 0, 350, .inl fst)), (p8, .inl (cA 0, 350, .inl fop)), (a3, .inl (cA 0, 10, .inl fs))] t) (va_A [(oX0 a0 p0 a1 a3 a4 a5 a6 i6 i7 i8 i9 i10 i11 i12 i13 i14 i15 i16 i17 i18 i19), (oX3 p0 pr pb pe pg p1 (nI nd) p2 p3 p4 p5 (nI cn) p6 (nI pq) p7 p8 p9 (nI sc)), (p9, .inl (cA 0, 10, .inl fen)), (p7, .inl (cA 0, 350, .inl fst)), (p8, .inl (cA 0, 350, .inl fop)), (a3, .inl (cA 0, 10, .inl fs))] sz)) 0 0 (va_A [(oX0 a0 p0 a1 a3 a4 a5 a6 i6 i7 i8 i9 i10 i11 i12 i13 i14 i15 i16 i17 i18 i19), (oX3 p0 pr pb pe pg p1 (nI nd) p2 p3 p4 p5 (nI cn) p6 (nI pq) p7 p8 p9 (nI sc)), (p9, .inl (cA 0, 10, .inl fen)), (p7, .inl (cA 0, 350, .inl fst)), (p8, .inl (cA 0, 350, .inl fop)), (a3, .inl (cA 0, 10, .inl fs))] sz) := by
  refine Met.ofW (cc := cX0_holdsWithDone) (maxL := 3) (ret := (some .boolean)) (by decide) rfl ?_
  intro p e s m args below meth c s₁ B hml hv
  obtain ⟨rfl, hsz, hP, hK, hD0, hC, hZ⟩ := hv
  have hx := B.exec
  have hb := B.bytes
  have hr := B.returns
  have hts := atoms_spec (ws := wsX0_holdsWithDone) B.pre
  have hown : s.vm.findClass RX0 = some m.cls := findClass_of_methodNamed B.named
  have hlocks := B.notSynchronized
  subst hsz
  have hD := hD0.self (sz := s.heap.size)
  generalize hAe : va_A [(oX0 a0 p0 a1 a3 a4 a5 a6 i6 i7 i8 i9 i10 i11 i12 i13 i14 i15 i16 i17 i18 i19), (oX3 p0 pr pb pe pg p1 (nI nd) p2 p3 p4 p5 (nI cn) p6 (nI pq) p7 p8 p9 (nI sc)), (p9, .inl (cA 0, 10, .inl fen)), (p7, .inl (cA 0, 350, .inl fst)), (p8, .inl (cA 0, 350, .inl fop)), (a3, .inl (cA 0, 10, .inl fs))] s.heap.size = A at hD hZ ⊢
  have hA : ∀ q : Nat, s.heap.size ≤ q → A q := fun q h => by rw [← hAe]; exact Or.inr h
  have hS : va_S A s.heap s.heap [] := va_S.rf
  have hP : va_P D vwCl [(oX0 a0 p0 a1 a3 a4 a5 a6 i6 i7 i8 i9 i10 i11 i12 i13 i14 i15 i16 i17 i18 i19), (oX3 p0 pr pb pe pg p1 (nI nd) p2 p3 p4 p5 (nI cn) p6 (nI pq) p7 p8 p9 (nI sc)), (p9, .inl (cA 0, 10, .inl fen)), (p7, .inl (cA 0, 350, .inl fst)), (p8, .inl (cA 0, 350, .inl fop)), (a3, .inl (cA 0, 10, .inl fs))] s.heap := hP
  have hl := lv_entry ([.ref a0, .int (nI mi), .int d]) (n := 3) (Nat.le_of_ble_eq_true rfl)
  rw [lg_entry_eq]
  generalize (lg_sl ([.ref a0, .int (nI mi), .int d]) ++ List.replicate (3 - (lg_sl ([.ref a0, .int (nI mi), .int d])).length) Slot.unset).toArray = ls at hl ⊢
  have hl : lv_has ls 3 [(0, .ref a0), (1, .int (nI mi)), (2, .int d)] := hl
  have inX0 : ∀ w ∈ u_ws RX0 TX0 20, w ∈ wsX0_holdsWithDone := by decide +kernel
  refine lv_aload_n hx hb dX0_holdsWithDone_0 rfl (lv_at hl 0 rfl) ?_
  refine lv_iload_n hx hb dX0_holdsWithDone_1 rfl (lv_at hl 1 rfl) ?_
  refine lv_aload_n hx hb dX0_holdsWithDone_2 rfl (lv_at hl 0 rfl) ?_
  refine va_get (D := D) (ci := 4) (v := .int i6) (C := RX0) (T := TX0) (N := 20) hx hb hts inX0 hown hK hP 0 rfl rfl 6 (by decide) (hts (.fieldLink RX0 40 "EscrowDesk$Account" "day" "I") (by decide +kernel)) (fun _ h9 => h9) rfl dX0_holdsWithDone_3 ?_
  refine lv_aload_n hx hb dX0_holdsWithDone_6 rfl (lv_at hl 0 rfl) ?_
  refine va_get (D := D) (ci := 4) (v := .int i18) (C := RX0) (T := TX0) (N := 20) hx hb hts inX0 hown hK hP 0 rfl rfl 18 (by decide) (hts (.fieldLink RX0 83 "EscrowDesk$Account" "submittedSet" "I") (by decide +kernel)) (fun _ h9 => h9) rfl dX0_holdsWithDone_7 ?_
  refine lv_aload_n hx hb dX0_holdsWithDone_10 rfl (lv_at hl 0 rfl) ?_
  obtain ⟨hPc, hDc, hFc⟩ := PDq.cut (wc := [(oX0 a0 p0 a1 a3 a4 a5 a6 i6 i7 i8 i9 i10 i11 i12 i13 i14 i15 i16 i17 i18 i19), (oX3 p0 pr pb pe pg p1 (nI nd) p2 p3 p4 p5 (nI cn) p6 (nI pq) p7 p8 p9 (nI sc)), (a3, .inl (cA 0, 10, .inl fs))]) hP hD hS hA [0, 1, 5] (by decide) rfl
  refine va_calli (va_runV (As := []) (rest := [.int i18, .int i6, .int (nI mi), .ref a0]) ⟨hx, hb, hml, hown, hts⟩ (s_doneSet l D cA sa a0 a1 a3 a4 a5 a6 p0 i6 i7 i8 i12 i13 i14 i15 i16 i17 i18 i19 i9 i10 i11 p1 p2 p3 p4 p5 p6 p7 p8 p9 cn pq nd sc pr pb pe pg fs s.heap.size hcn hpq hnd hsc) (cwV 0 hts gX0_holdsWithDone_X0_doneSet rfl rfl rfl (by decide +kernel) ⟨(Nat.le_of_ble_eq_true rfl), (Nat.le_of_ble_eq_true rfl)⟩) ⟨Wd.blind, va_recv hK hPc (ci := 4) (q0 := 0) rfl rfl, fun U hU hW => ⟨rfl, Wd.call hPc hDc hK hC hZ hS hFc U hU hW⟩⟩ rfl rfl hl.1 rfl (lv_room (Nat.le_of_ble_eq_true rfl)) dX0_holdsWithDone_11 ⟨(Nat.le_of_ble_eq_true rfl), (Nat.le_of_ble_eq_true rfl)⟩) hS (fun q _ h => hFc q h) hFc (fun rn1 u t H1 locs ht hvm hw hB hz1 hk1 hS => ?_)
  obtain ⟨hP1, hD1⟩ := hB
  rw [ht] at hP1
  obtain ⟨hP, hD⟩ := PDq.join (w := [(p9, .inl (cA 0, 10, .inl fen)), (p7, .inl (cA 0, 350, .inl fst)), (p8, .inl (cA 0, 350, .inl fop)), (oX0 a0 p0 a1 a3 a4 a5 a6 i6 i7 i8 i9 i10 i11 i12 i13 i14 i15 i16 i17 i18 i19), (oX3 p0 pr pb pe pg p1 (nI nd) p2 p3 p4 p5 (nI cn) p6 (nI pq) p7 p8 p9 (nI sc)), (a3, .inl (cA 0, 10, .inl fs))]) 3 hP hD [0, 1, 5] [2, 3, 4] rfl rfl (by decide) (by decide) hk1 hFc hP1 hD1 rfl
  generalize H1 = H at hP hS ⊢
  refine lv_iload_n hx hb dX0_holdsWithDone_14 rfl (lv_at hl 2 rfl) ?_
  refine lv_ior hx hb dX0_holdsWithDone_15 ?_
  refine lv_topi (fun yn2 eyn2 => ?_)
  obtain ⟨hPc, hDc, hFc⟩ := PDq.cut (wc := [(oX0 a0 p0 a1 a3 a4 a5 a6 i6 i7 i8 i9 i10 i11 i12 i13 i14 i15 i16 i17 i18 i19), (oX3 p0 pr pb pe pg p1 (nI nd) p2 p3 p4 p5 (nI cn) p6 (nI pq) p7 p8 p9 (nI sc)), (p9, .inl (cA 0, 10, .inl fen)), (p7, .inl (cA 0, 350, .inl fst)), (p8, .inl (cA 0, 350, .inl fop))]) hP hD hS hA [3, 4, 0, 1, 2] (by decide) rfl
  refine va_calli (va_runV (As := [.int (nI mi), .int i6, .int i18, .int yn2]) (rest := []) ⟨hx, hb, hml, hown, hts⟩ (s_judged l D cA sa a0 a1 a3 a4 a5 a6 p0 i6 i7 i8 i12 i13 i14 i15 i16 i17 i18 i19 i9 i10 i11 p1 p2 p3 p4 p5 p6 p7 p8 p9 cn pq nd sc pr pb pe pg mi fen fst fop i6 i18 yn2 H.size hcn hpq hnd hsc hen hmi) (cwV 4 hts gX0_holdsWithDone_X0_judged rfl rfl rfl (by decide +kernel) ⟨(Nat.le_of_ble_eq_true rfl), (Nat.le_of_ble_eq_true rfl)⟩) ⟨Wd.blind, va_recv hK hPc (ci := 4) (q0 := 0) rfl rfl, fun U hU hW => ⟨rfl, Wd.call hPc hDc hK hC hZ hS hFc U hU hW⟩⟩ rfl rfl hl.1 rfl (lv_room (Nat.le_of_ble_eq_true rfl)) dX0_holdsWithDone_16 ⟨(Nat.le_of_ble_eq_true rfl), (Nat.le_of_ble_eq_true rfl)⟩) hS (fun q _ h => hFc q h) hFc (fun rn3 u t H1 locs ht hvm hw hB hz1 hk1 hS => ?_)
  obtain ⟨hP1, hD1⟩ := hB
  rw [ht] at hP1
  obtain ⟨hP, hD⟩ := PDq.join (w := [(a3, .inl (cA 0, 10, .inl fs)), (oX0 a0 p0 a1 a3 a4 a5 a6 i6 i7 i8 i9 i10 i11 i12 i13 i14 i15 i16 i17 i18 i19), (oX3 p0 pr pb pe pg p1 (nI nd) p2 p3 p4 p5 (nI cn) p6 (nI pq) p7 p8 p9 (nI sc)), (p9, .inl (cA 0, 10, .inl fen)), (p7, .inl (cA 0, 350, .inl fst)), (p8, .inl (cA 0, 350, .inl fop))]) 1 hP hD [3, 4, 0, 1, 2] [5] rfl rfl (by decide) (by decide) hk1 hFc hP1 hD1 rfl
  generalize H1 = H at hP hS ⊢
  have hn4 := hw
  obtain ⟨hP9, hD9⟩ := PDq.sub (ws' := [(oX0 a0 p0 a1 a3 a4 a5 a6 i6 i7 i8 i9 i10 i11 i12 i13 i14 i15 i16 i17 i18 i19), (oX3 p0 pr pb pe pg p1 (nI nd) p2 p3 p4 p5 (nI cn) p6 (nI pq) p7 p8 p9 (nI sc)), (p9, .inl (cA 0, 10, .inl fen)), (p7, .inl (cA 0, 350, .inl fst)), (p8, .inl (cA 0, 350, .inl fop)), (a3, .inl (cA 0, 10, .inl fs))]) hP hD [1, 2, 3, 4, 5, 0] (by decide) rfl
  refine W.widen (k := 0) (n := 0) (Nat.le_of_ble_eq_true rfl) (Nat.le_of_ble_eq_true rfl) ?_
  exact (W.zret (v := rn3) hx hb hr (by rcases hn4 with h9 | h9 <;> rw [h9] <;> rfl) (fun t ht hW => ⟨⟨rn3, (), rfl, hn4, by rw [ht]; exact hP9, hD9⟩, hS.F ht⟩) hS.2.2 dX0_holdsWithDone_19)

set_option maxHeartbeats 4000000 in
set_option maxRecDepth 100000 in
/-- dueByRank -/
theorem s_dueByRank (l : Launch) (D : va_G) (cA : Nat → ClassId) (sa : Nat → Nat) (a0 : Nat) (a1 : Nat) (a3 : Nat) (a4 : Nat) (a5 : Nat) (a6 : Nat) (p0 : Nat) (i6 : Int32) (i7 : Int32) (i8 : Int32) (i12 : Int32) (i13 : Int32) (i14 : Int32) (i15 : Int32) (i16 : Int32) (i17 : Int32) (i18 : Int32) (i19 : Int32) (i9 : Int64) (i10 : Int64) (i11 : Int64) (p1 : Nat) (p2 : Nat) (p3 : Nat) (p4 : Nat) (p5 : Nat) (p6 : Nat) (p7 : Nat) (p8 : Nat) (p9 : Nat) (cn : Nat) (pq : Nat) (nd : Nat) (sc : Nat) (pr : Int32) (pb : Int32) (pe : Int32) (pg : Int32) (k : Int32) (fs : Nat → Int32) (fby : Nat → Int32) (sz : Nat) (hcn : cn ≤ 10) (hpq : pq ≤ 8) (hnd : nd ≤ 6) (hsc : sc ≤ 350) (hby : Rng 10 10 fby) : Met l yX0_dueByRank wsX0_dueByRank ({ frames := 0, cells := 0, slots := 0, locals := 0 }) (va_Pc [.ref a0, .int k] (Wd D cA sa [(oX0 a0 p0 a1 a3 a4 a5 a6 i6 i7 i8 i9 i10 i11 i12 i13 i14 i15 i16 i17 i18 i19), (oX3 p0 pr pb pe pg p1 (nI nd) p2 p3 p4 p5 (nI cn) p6 (nI pq) p7 p8 p9 (nI sc)), (a3, .inl (cA 0, 10, .inl fs)), (p5, .inl (cA 0, 10, .inl fby))] sz)) (va_Qi (fun (r : Int32) (_ : Unit) => r = -1 ∨ ∃ n, n < 10 ∧ r = nI n) (fun (_ : Unit) t => Wq D (va_A [(oX0 a0 p0 a1 a3 a4 a5 a6 i6 i7 i8 i9 i10 i11 i12 i13 i14 i15 i16 i17 i18 i19), (oX3 p0 pr pb pe pg p1 (nI nd) p2 p3 p4 p5 (nI cn) p6 (nI pq) p7 p8 p9 (nI sc)), (a3, .inl (cA 0, 10, .inl fs)), (p5, .inl (cA 0, 10, .inl fby))] sz) [(oX0 a0 p0 a1 a3 a4 a5 a6 i6 i7 i8 i9 i10 i11 i12 i13 i14 i15 i16 i17 i18 i19), (oX3 p0 pr pb pe pg p1 (nI nd) p2 p3 p4 p5 (nI cn) p6 (nI pq) p7 p8 p9 (nI sc)), (a3, .inl (cA 0, 10, .inl fs)), (p5, .inl (cA 0, 10, .inl fby))] t) (va_A [(oX0 a0 p0 a1 a3 a4 a5 a6 i6 i7 i8 i9 i10 i11 i12 i13 i14 i15 i16 i17 i18 i19), (oX3 p0 pr pb pe pg p1 (nI nd) p2 p3 p4 p5 (nI cn) p6 (nI pq) p7 p8 p9 (nI sc)), (a3, .inl (cA 0, 10, .inl fs)), (p5, .inl (cA 0, 10, .inl fby))] sz)) 0 0 (va_A [(oX0 a0 p0 a1 a3 a4 a5 a6 i6 i7 i8 i9 i10 i11 i12 i13 i14 i15 i16 i17 i18 i19), (oX3 p0 pr pb pe pg p1 (nI nd) p2 p3 p4 p5 (nI cn) p6 (nI pq) p7 p8 p9 (nI sc)), (a3, .inl (cA 0, 10, .inl fs)), (p5, .inl (cA 0, 10, .inl fby))] sz) := by
  refine Met.ofW (cc := cX0_dueByRank) (maxL := 5) (ret := (some .int)) (by decide) rfl ?_
  intro p e s m args below meth c s₁ B hml hv
  obtain ⟨rfl, hsz, hP, hK, hD0, hC, hZ⟩ := hv
  have hx := B.exec
  have hb := B.bytes
  have hr := B.returns
  have hts := atoms_spec (ws := wsX0_dueByRank) B.pre
  have hown : s.vm.findClass RX0 = some m.cls := findClass_of_methodNamed B.named
  have hlocks := B.notSynchronized
  subst hsz
  have hD := hD0.self (sz := s.heap.size)
  generalize hAe : va_A [(oX0 a0 p0 a1 a3 a4 a5 a6 i6 i7 i8 i9 i10 i11 i12 i13 i14 i15 i16 i17 i18 i19), (oX3 p0 pr pb pe pg p1 (nI nd) p2 p3 p4 p5 (nI cn) p6 (nI pq) p7 p8 p9 (nI sc)), (a3, .inl (cA 0, 10, .inl fs)), (p5, .inl (cA 0, 10, .inl fby))] s.heap.size = A at hD hZ ⊢
  have hA : ∀ q : Nat, s.heap.size ≤ q → A q := fun q h => by rw [← hAe]; exact Or.inr h
  have hS : va_S A s.heap s.heap [] := va_S.rf
  have hP : va_P D vwCl [(oX0 a0 p0 a1 a3 a4 a5 a6 i6 i7 i8 i9 i10 i11 i12 i13 i14 i15 i16 i17 i18 i19), (oX3 p0 pr pb pe pg p1 (nI nd) p2 p3 p4 p5 (nI cn) p6 (nI pq) p7 p8 p9 (nI sc)), (a3, .inl (cA 0, 10, .inl fs)), (p5, .inl (cA 0, 10, .inl fby))] s.heap := hP
  have hl := lv_entry ([.ref a0, .int k]) (n := 5) (Nat.le_of_ble_eq_true rfl)
  rw [lg_entry_eq]
  generalize (lg_sl ([.ref a0, .int k]) ++ List.replicate (5 - (lg_sl ([.ref a0, .int k])).length) Slot.unset).toArray = ls at hl ⊢
  have hl : lv_has ls 5 [(0, .ref a0), (1, .int k)] := hl
  have inX0 : ∀ w ∈ u_ws RX0 TX0 20, w ∈ wsX0_dueByRank := by decide +kernel
  have inX3 : ∀ w ∈ u_ws RX3 TX3 17, w ∈ wsX0_dueByRank := by decide +kernel
  refine lv_iconst (v := 0) hx hb dX0_dueByRank_0 (by decide) ?_
  refine lv_istore_n (lv' := [(2, .int 0), (0, .ref a0), (1, .int k)]) hx hb dX0_dueByRank_1 rfl hl (by decide) rfl (fun ls hl => ?_)
  refine lv_iconst (v := 0) hx hb dX0_dueByRank_2 (by decide) ?_
  refine lv_istore_n (lv' := [(3, .int 0), (2, .int 0), (0, .ref a0), (1, .int k)]) hx hb dX0_dueByRank_3 rfl hl (by decide) rfl (fun ls hl => ?_)
  have loop1 : ∀ (n1 i1 : Nat) (x2_1 : Int32) (H : Heap) (locs : List Loc) (ls : Array Slot), i1 + n1 = cn → va_P D vwCl [(oX0 a0 p0 a1 a3 a4 a5 a6 i6 i7 i8 i9 i10 i11 i12 i13 i14 i15 i16 i17 i18 i19), (oX3 p0 pr pb pe pg p1 (nI nd) p2 p3 p4 p5 (nI cn) p6 (nI pq) p7 p8 p9 (nI sc)), (a3, .inl (cA 0, 10, .inl fs)), (p5, .inl (cA 0, 10, .inl fby))] H → va_D A [(oX0 a0 p0 a1 a3 a4 a5 a6 i6 i7 i8 i9 i10 i11 i12 i13 i14 i15 i16 i17 i18 i19), (oX3 p0 pr pb pe pg p1 (nI nd) p2 p3 p4 p5 (nI cn) p6 (nI pq) p7 p8 p9 (nI sc)), (a3, .inl (cA 0, 10, .inl fs)), (p5, .inl (cA 0, 10, .inl fby))] → va_S A s.heap H locs → lv_has ls 5 [(3, .int (nI i1)), (2, .int x2_1), (0, .ref a0), (1, .int k)] → W p l e (headSpec wsX0_dueByRank ({ frames := 0, cells := 0, slots := 0, locals := 0 } : Room)).room s m ([.ref a0, .int k] : List Value).toArray below meth c H locs 0 0 (MQ below (va_Qi (fun (r : Int32) (_ : Unit) => r = -1 ∨ ∃ n, n < 10 ∧ r = nI n) (fun (_ : Unit) t => Wq D A [(oX0 a0 p0 a1 a3 a4 a5 a6 i6 i7 i8 i9 i10 i11 i12 i13 i14 i15 i16 i17 i18 i19), (oX3 p0 pr pb pe pg p1 (nI nd) p2 p3 p4 p5 (nI cn) p6 (nI pq) p7 p8 p9 (nI sc)), (a3, .inl (cA 0, 10, .inl fs)), (p5, .inl (cA 0, 10, .inl fby))] t) A) ([.ref a0, .int k] : List Value).toArray s 0 0 A) (F0 m 4 ls []) := by
    intro n1
    induction n1 with
    | zero =>
      intro i1 x2_1 H locs ls hi1 hP hD hS hl
      obtain rfl : cn = i1 := by omega
      refine lv_iload_n hx hb dX0_dueByRank_4 rfl (lv_at hl 0 rfl) ?_
      refine lv_aload_n hx hb dX0_dueByRank_5 rfl (lv_at hl 2 rfl) ?_
      refine va_get (D := D) (ci := 4) (v := .ref p0) (C := RX0) (T := TX0) (N := 20) hx hb hts inX0 hown hK hP 0 rfl rfl 0 (by decide) (hts (.fieldLink RX0 31 "EscrowDesk$Account" "plan" "LEscrowDesk$Plan;") (by decide +kernel)) (fun _ h9 => h9) rfl dX0_dueByRank_6 ?_
      refine va_getN (D := D) (ci := 7) (v := .int (nI cn)) (C := RX3) (T := TX3) (N := 17) hx hb hts inX3 hown hK hP 1 rfl rfl 10 (by decide) (hC.f (A := _) (a := RX0) (i := 109) (b := "EscrowDesk$Plan") (n := "milestoneCount") (d := "I") (x := "EscrowDesk") (by decide +kernel)) (fun _ h9 => h9) rfl dX0_dueByRank_9 ?_
      refine lv_icmp_ge (tgt := 54) hx hb dX0_dueByRank_12 (by decide) (fun c1 => ?_) (fun c9 => absurd (nI_le (a := cn) (b := cn) (show cn ≤ cn by omega) (by omega)) c9)
      refine lv_iconst (v := (-1)) hx hb dX0_dueByRank_54 (by decide) ?_
      obtain ⟨hP9, hD9⟩ := PDq.sub (ws' := [(oX0 a0 p0 a1 a3 a4 a5 a6 i6 i7 i8 i9 i10 i11 i12 i13 i14 i15 i16 i17 i18 i19), (oX3 p0 pr pb pe pg p1 (nI nd) p2 p3 p4 p5 (nI cn) p6 (nI pq) p7 p8 p9 (nI sc)), (a3, .inl (cA 0, 10, .inl fs)), (p5, .inl (cA 0, 10, .inl fby))]) hP hD [0, 1, 2, 3] (by decide) rfl
      refine W.widen (k := 0) (n := 0) (Nat.le_of_ble_eq_true rfl) (Nat.le_of_ble_eq_true rfl) ?_
      exact (W.iret (v := (-1)) hx hb hr (fun t ht hW => ⟨⟨(-1), (), rfl, Or.inl rfl, by rw [ht]; exact hP9, hD9⟩, hS.F ht⟩) hS.2.2 dX0_dueByRank_55)
    | succ n1 ih1 =>
      intro i1 x2_1 H locs ls hi1 hP hD hS hl
      refine lv_iload_n hx hb dX0_dueByRank_4 rfl (lv_at hl 0 rfl) ?_
      refine lv_aload_n hx hb dX0_dueByRank_5 rfl (lv_at hl 2 rfl) ?_
      refine va_get (D := D) (ci := 4) (v := .ref p0) (C := RX0) (T := TX0) (N := 20) hx hb hts inX0 hown hK hP 0 rfl rfl 0 (by decide) (hts (.fieldLink RX0 31 "EscrowDesk$Account" "plan" "LEscrowDesk$Plan;") (by decide +kernel)) (fun _ h9 => h9) rfl dX0_dueByRank_6 ?_
      refine va_getN (D := D) (ci := 7) (v := .int (nI cn)) (C := RX3) (T := TX3) (N := 17) hx hb hts inX3 hown hK hP 1 rfl rfl 10 (by decide) (hC.f (A := _) (a := RX0) (i := 109) (b := "EscrowDesk$Plan") (n := "milestoneCount") (d := "I") (x := "EscrowDesk") (by decide +kernel)) (fun _ h9 => h9) rfl dX0_dueByRank_9 ?_
      refine lv_icmp_ge (tgt := 54) hx hb dX0_dueByRank_12 (by decide) (fun c9 => absurd c9 (nI_ge (a := i1) (b := cn) (show i1 < cn by omega) (by omega))) (fun c2 => ?_)
      refine lv_aload_n hx hb dX0_dueByRank_15 rfl (lv_at hl 2 rfl) ?_
      refine va_get (D := D) (ci := 4) (v := .ref p0) (C := RX0) (T := TX0) (N := 20) hx hb hts inX0 hown hK hP 0 rfl rfl 0 (by decide) (hts (.fieldLink RX0 31 "EscrowDesk$Account" "plan" "LEscrowDesk$Plan;") (by decide +kernel)) (fun _ h9 => h9) rfl dX0_dueByRank_16 ?_
      refine va_getN (D := D) (ci := 7) (v := .ref p5) (C := RX3) (T := TX3) (N := 17) hx hb hts inX3 hown hK hP 1 rfl rfl 9 (by decide) (hC.f (A := _) (a := RX0) (i := 138) (b := "EscrowDesk$Plan") (n := "byPriority") (d := "[I") (x := "EscrowDesk") (by decide +kernel)) (fun _ h9 => h9) rfl dX0_dueByRank_19 ?_
      refine lv_iload_n hx hb dX0_dueByRank_22 rfl (lv_at hl 0 rfl) ?_
      obtain ⟨kn3, hn4, hn5⟩ := Rng.get hby (show i1 < 10 by omega)
      refine va_iald hx hb hK hP 3 0 rfl rfl (vp_in_nI (n := i1) (N := 10) (show i1 < 10 by omega) (by decide)) dX0_dueByRank_23 ?_
      refine lv_topi (fun yn6 eyn6 => ?_)
      obtain rfl : yn6 = (nI kn3) := eyn6.trans (by first | exact hn5 | (rw [nI_clamp (by omega)]; exact hn5))
      refine lv_istore (lv' := [(4, .int (nI kn3)), (3, .int (nI i1)), (2, .int x2_1), (0, .ref a0), (1, .int k)]) hx hb dX0_dueByRank_24 hl (by decide) rfl (fun ls hl => ?_)
      refine lv_aload_n hx hb dX0_dueByRank_26 rfl (lv_at hl 3 rfl) ?_
      refine va_get (D := D) (ci := 4) (v := .ref a3) (C := RX0) (T := TX0) (N := 20) hx hb hts inX0 hown hK hP 0 rfl rfl 2 (by decide) (hts (.fieldLink RX0 18 "EscrowDesk$Account" "state" "[I") (by decide +kernel)) (fun _ h9 => h9) rfl dX0_dueByRank_27 ?_
      refine lv_iload hx hb dX0_dueByRank_30 (lv_at hl 0 rfl) ?_
      refine va_iald hx hb hK hP 2 0 rfl rfl (vp_in_nI (n := kn3) (N := 10) (show kn3 < 10 by omega) (by decide)) dX0_dueByRank_32 ?_
      refine lv_topi (fun yn7 eyn7 => ?_)
      refine lv_iconst (v := 1) hx hb dX0_dueByRank_33 (by decide) ?_
      refine lv_icmp_ne (tgt := 48) hx hb dX0_dueByRank_34 (by decide) (fun c8 => ?_) (fun c8 => ?_)
      · skip
        refine lv_iinc (v := (nI (i1 + 1))) (lv' := [(3, .int (nI (i1 + 1))), (4, .int (nI kn3)), (2, .int x2_1), (0, .ref a0), (1, .int k)]) hx hb dX0_dueByRank_48 hl (k := 1) rfl (nI_1 _) (by decide) rfl (fun ls hl => ?_)
        refine lv_goto (tgt := 4) hx hb dX0_dueByRank_51 (by decide) ?_
        obtain ⟨hP9, hD9⟩ := PDq.sub (ws' := [(oX0 a0 p0 a1 a3 a4 a5 a6 i6 i7 i8 i9 i10 i11 i12 i13 i14 i15 i16 i17 i18 i19), (oX3 p0 pr pb pe pg p1 (nI nd) p2 p3 p4 p5 (nI cn) p6 (nI pq) p7 p8 p9 (nI sc)), (a3, .inl (cA 0, 10, .inl fs)), (p5, .inl (cA 0, 10, .inl fby))]) hP hD [0, 1, 2, 3] (by decide) rfl
        exact ih1 (i1 + 1) x2_1 H _ ls (by omega) hP9 hD9 hS (lv_sub hl [0, 2, 3, 4] rfl)
      · skip
        refine lv_iload_n hx hb dX0_dueByRank_37 rfl (lv_at hl 2 rfl) ?_
        refine lv_iload_n hx hb dX0_dueByRank_38 rfl (lv_at hl 4 rfl) ?_
        refine lv_icmp_ne (tgt := 45) hx hb dX0_dueByRank_39 (by decide) (fun c9 => ?_) (fun c9 => ?_)
        · skip
          refine lv_iinc (v := (x2_1 + 1)) (lv' := [(2, .int (x2_1 + 1)), (4, .int (nI kn3)), (3, .int (nI i1)), (0, .ref a0), (1, .int k)]) hx hb dX0_dueByRank_45 hl (k := 2) rfl rfl (by decide) rfl (fun ls hl => ?_)
          refine lv_iinc (v := (nI (i1 + 1))) (lv' := [(3, .int (nI (i1 + 1))), (2, .int (x2_1 + 1)), (4, .int (nI kn3)), (0, .ref a0), (1, .int k)]) hx hb dX0_dueByRank_48 hl (k := 2) rfl (nI_1 _) (by decide) rfl (fun ls hl => ?_)
          refine lv_goto (tgt := 4) hx hb dX0_dueByRank_51 (by decide) ?_
          obtain ⟨hP9, hD9⟩ := PDq.sub (ws' := [(oX0 a0 p0 a1 a3 a4 a5 a6 i6 i7 i8 i9 i10 i11 i12 i13 i14 i15 i16 i17 i18 i19), (oX3 p0 pr pb pe pg p1 (nI nd) p2 p3 p4 p5 (nI cn) p6 (nI pq) p7 p8 p9 (nI sc)), (a3, .inl (cA 0, 10, .inl fs)), (p5, .inl (cA 0, 10, .inl fby))]) hP hD [0, 1, 2, 3] (by decide) rfl
          exact ih1 (i1 + 1) (x2_1 + 1) H _ ls (by omega) hP9 hD9 hS (lv_sub hl [0, 1, 3, 4] rfl)
        · skip
          refine lv_iload hx hb dX0_dueByRank_42 (lv_at hl 0 rfl) ?_
          obtain ⟨hP9, hD9⟩ := PDq.sub (ws' := [(oX0 a0 p0 a1 a3 a4 a5 a6 i6 i7 i8 i9 i10 i11 i12 i13 i14 i15 i16 i17 i18 i19), (oX3 p0 pr pb pe pg p1 (nI nd) p2 p3 p4 p5 (nI cn) p6 (nI pq) p7 p8 p9 (nI sc)), (a3, .inl (cA 0, 10, .inl fs)), (p5, .inl (cA 0, 10, .inl fby))]) hP hD [0, 1, 2, 3] (by decide) rfl
          refine W.widen (k := 0) (n := 0) (Nat.le_of_ble_eq_true rfl) (Nat.le_of_ble_eq_true rfl) ?_
          exact (W.iret (v := (nI kn3)) hx hb hr (fun t ht hW => ⟨⟨(nI kn3), (), rfl, Or.inr ⟨kn3, by omega, rfl⟩, by rw [ht]; exact hP9, hD9⟩, hS.F ht⟩) hS.2.2 dX0_dueByRank_44)
  obtain ⟨hP9, hD9⟩ := PDq.sub (ws' := [(oX0 a0 p0 a1 a3 a4 a5 a6 i6 i7 i8 i9 i10 i11 i12 i13 i14 i15 i16 i17 i18 i19), (oX3 p0 pr pb pe pg p1 (nI nd) p2 p3 p4 p5 (nI cn) p6 (nI pq) p7 p8 p9 (nI sc)), (a3, .inl (cA 0, 10, .inl fs)), (p5, .inl (cA 0, 10, .inl fby))]) hP hD [0, 1, 2, 3] (by decide) rfl
  exact loop1 (cn - 0) 0 0 _ _ ls (by omega) hP9 hD9 hS (lv_sub hl [0, 1, 2, 3] rfl)

set_option maxHeartbeats 4000000 in
set_option maxRecDepth 100000 in
/-- mustBePaid -/
theorem s_mustBePaid (l : Launch) (D : va_G) (cA : Nat → ClassId) (sa : Nat → Nat) (a0 : Nat) (a1 : Nat) (a3 : Nat) (a4 : Nat) (a5 : Nat) (a6 : Nat) (p0 : Nat) (i6 : Int32) (i7 : Int32) (i8 : Int32) (i12 : Int32) (i13 : Int32) (i14 : Int32) (i15 : Int32) (i16 : Int32) (i17 : Int32) (i18 : Int32) (i19 : Int32) (i9 : Int64) (i10 : Int64) (i11 : Int64) (mi : Nat) (fs : Nat → Int32) (fd : Nat → Int32) (sz : Nat) (hmi : mi < 10) : Met l yX0_mustBePaid wsX0_mustBePaid ({ frames := 1, cells := 0, slots := 0, locals := 21 }) (va_Pc [.ref a0, .int (nI mi)] (Wd D cA sa [(oX0 a0 p0 a1 a3 a4 a5 a6 i6 i7 i8 i9 i10 i11 i12 i13 i14 i15 i16 i17 i18 i19), (a3, .inl (cA 0, 10, .inl fs)), (a6, .inl (cA 0, 10, .inl fd))] sz)) (va_Qi (fun (r : Int32) (_ : Unit) => r = 0 ∨ r = 1) (fun (_ : Unit) t => Wq D (va_A [(oX0 a0 p0 a1 a3 a4 a5 a6 i6 i7 i8 i9 i10 i11 i12 i13 i14 i15 i16 i17 i18 i19), (a3, .inl (cA 0, 10, .inl fs)), (a6, .inl (cA 0, 10, .inl fd))] sz) [(oX0 a0 p0 a1 a3 a4 a5 a6 i6 i7 i8 i9 i10 i11 i12 i13 i14 i15 i16 i17 i18 i19), (a3, .inl (cA 0, 10, .inl fs)), (a6, .inl (cA 0, 10, .inl fd))] t) (va_A [(oX0 a0 p0 a1 a3 a4 a5 a6 i6 i7 i8 i9 i10 i11 i12 i13 i14 i15 i16 i17 i18 i19), (a3, .inl (cA 0, 10, .inl fs)), (a6, .inl (cA 0, 10, .inl fd))] sz)) 0 0 (va_A [(oX0 a0 p0 a1 a3 a4 a5 a6 i6 i7 i8 i9 i10 i11 i12 i13 i14 i15 i16 i17 i18 i19), (a3, .inl (cA 0, 10, .inl fs)), (a6, .inl (cA 0, 10, .inl fd))] sz) := by
  refine Met.ofW (cc := cX0_mustBePaid) (maxL := 2) (ret := (some .boolean)) (by decide) rfl ?_
  intro p e s m args below meth c s₁ B hml hv
  obtain ⟨rfl, hsz, hP, hK, hD0, hC, hZ⟩ := hv
  have hx := B.exec
  have hb := B.bytes
  have hr := B.returns
  have hts := atoms_spec (ws := wsX0_mustBePaid) B.pre
  have hown : s.vm.findClass RX0 = some m.cls := findClass_of_methodNamed B.named
  have hlocks := B.notSynchronized
  subst hsz
  have hD := hD0.self (sz := s.heap.size)
  generalize hAe : va_A [(oX0 a0 p0 a1 a3 a4 a5 a6 i6 i7 i8 i9 i10 i11 i12 i13 i14 i15 i16 i17 i18 i19), (a3, .inl (cA 0, 10, .inl fs)), (a6, .inl (cA 0, 10, .inl fd))] s.heap.size = A at hD hZ ⊢
  have hA : ∀ q : Nat, s.heap.size ≤ q → A q := fun q h => by rw [← hAe]; exact Or.inr h
  have hS : va_S A s.heap s.heap [] := va_S.rf
  have hP : va_P D vwCl [(oX0 a0 p0 a1 a3 a4 a5 a6 i6 i7 i8 i9 i10 i11 i12 i13 i14 i15 i16 i17 i18 i19), (a3, .inl (cA 0, 10, .inl fs)), (a6, .inl (cA 0, 10, .inl fd))] s.heap := hP
  have hl := lv_entry ([.ref a0, .int (nI mi)]) (n := 2) (Nat.le_of_ble_eq_true rfl)
  rw [lg_entry_eq]
  generalize (lg_sl ([.ref a0, .int (nI mi)]) ++ List.replicate (2 - (lg_sl ([.ref a0, .int (nI mi)])).length) Slot.unset).toArray = ls at hl ⊢
  have hl : lv_has ls 2 [(0, .ref a0), (1, .int (nI mi))] := hl
  have inX0 : ∀ w ∈ u_ws RX0 TX0 20, w ∈ wsX0_mustBePaid := by decide +kernel
  refine lv_aload_n hx hb dX0_mustBePaid_0 rfl (lv_at hl 0 rfl) ?_
  refine va_get (D := D) (ci := 4) (v := .ref a3) (C := RX0) (T := TX0) (N := 20) hx hb hts inX0 hown hK hP 0 rfl rfl 2 (by decide) (hts (.fieldLink RX0 18 "EscrowDesk$Account" "state" "[I") (by decide +kernel)) (fun _ h9 => h9) rfl dX0_mustBePaid_1 ?_
  refine lv_iload_n hx hb dX0_mustBePaid_4 rfl (lv_at hl 1 rfl) ?_
  refine va_iald hx hb hK hP 1 0 rfl rfl (vp_in_nI (n := mi) (N := 10) (show mi < 10 by omega) (by decide)) dX0_mustBePaid_5 ?_
  refine lv_topi (fun yn1 eyn1 => ?_)
  refine lv_iconst (v := 1) hx hb dX0_mustBePaid_6 (by decide) ?_
  refine lv_icmp_ne (tgt := 26) hx hb dX0_mustBePaid_7 (by decide) (fun c2 => ?_) (fun c2 => ?_)
  · skip
    refine lv_iconst (v := 0) hx hb dX0_mustBePaid_26 (by decide) ?_
    obtain ⟨hP9, hD9⟩ := PDq.sub (ws' := [(oX0 a0 p0 a1 a3 a4 a5 a6 i6 i7 i8 i9 i10 i11 i12 i13 i14 i15 i16 i17 i18 i19), (a3, .inl (cA 0, 10, .inl fs)), (a6, .inl (cA 0, 10, .inl fd))]) hP hD [0, 1, 2] (by decide) rfl
    refine W.widen (k := 0) (n := 0) (Nat.le_of_ble_eq_true rfl) (Nat.le_of_ble_eq_true rfl) ?_
    exact (W.zret (v := 0) hx hb hr (by first | rfl | decide) (fun t ht hW => ⟨⟨0, (), rfl, (by first | exact Or.inl rfl | exact Or.inr rfl), by rw [ht]; exact hP9, hD9⟩, hS.F ht⟩) hS.2.2 dX0_mustBePaid_27)
  · skip
    refine lv_aload_n hx hb dX0_mustBePaid_10 rfl (lv_at hl 0 rfl) ?_
    refine lv_iload_n hx hb dX0_mustBePaid_11 rfl (lv_at hl 1 rfl) ?_
    obtain ⟨hPc, hDc, hFc⟩ := PDq.cut (wc := [(oX0 a0 p0 a1 a3 a4 a5 a6 i6 i7 i8 i9 i10 i11 i12 i13 i14 i15 i16 i17 i18 i19), (a6, .inl (cA 0, 10, .inl fd))]) hP hD hS hA [0, 2] (by decide) rfl
    refine va_calli (va_runV (As := [.int (nI mi)]) (rest := []) ⟨hx, hb, hml, hown, hts⟩ (s_payDay l D cA sa a0 a1 a3 a4 a5 a6 p0 i6 i7 i8 i12 i13 i14 i15 i16 i17 i18 i19 i9 i10 i11 mi fd s.heap.size hmi) (cwV 1 hts gX0_mustBePaid_X0_payDay rfl rfl rfl (by decide +kernel) ⟨(Nat.le_of_ble_eq_true rfl), (Nat.le_of_ble_eq_true rfl)⟩) ⟨Wd.blind, va_recv hK hPc (ci := 4) (q0 := 0) rfl rfl, fun U hU hW => ⟨rfl, Wd.call hPc hDc hK hC hZ hS hFc U hU hW⟩⟩ rfl rfl hl.1 rfl (lv_room (Nat.le_of_ble_eq_true rfl)) dX0_mustBePaid_12 ⟨(Nat.le_of_ble_eq_true rfl), (Nat.le_of_ble_eq_true rfl)⟩) hS (fun q _ h => hFc q h) hFc (fun rn3 u t H1 locs ht hvm hw hB hz1 hk1 hS => ?_)
    obtain ⟨hP1, hD1⟩ := hB
    rw [ht] at hP1
    obtain ⟨hP, hD⟩ := PDq.join (w := [(a3, .inl (cA 0, 10, .inl fs)), (oX0 a0 p0 a1 a3 a4 a5 a6 i6 i7 i8 i9 i10 i11 i12 i13 i14 i15 i16 i17 i18 i19), (a6, .inl (cA 0, 10, .inl fd))]) 1 hP hD [0, 2] [1] rfl rfl (by decide) (by decide) hk1 hFc hP1 hD1 rfl
    generalize H1 = H at hP hS ⊢
    refine lv_aload_n hx hb dX0_mustBePaid_15 rfl (lv_at hl 0 rfl) ?_
    refine va_get (D := D) (ci := 4) (v := .int i6) (C := RX0) (T := TX0) (N := 20) hx hb hts inX0 hown hK hP 1 rfl rfl 6 (by decide) (hts (.fieldLink RX0 40 "EscrowDesk$Account" "day" "I") (by decide +kernel)) (fun _ h9 => h9) rfl dX0_mustBePaid_16 ?_
    refine lv_icmp_gt (tgt := 26) hx hb dX0_mustBePaid_19 (by decide) (fun c4 => ?_) (fun c4 => ?_)
    · skip
      refine lv_iconst (v := 0) hx hb dX0_mustBePaid_26 (by decide) ?_
      obtain ⟨hP9, hD9⟩ := PDq.sub (ws' := [(oX0 a0 p0 a1 a3 a4 a5 a6 i6 i7 i8 i9 i10 i11 i12 i13 i14 i15 i16 i17 i18 i19), (a3, .inl (cA 0, 10, .inl fs)), (a6, .inl (cA 0, 10, .inl fd))]) hP hD [1, 0, 2] (by decide) rfl
      refine W.widen (k := 0) (n := 0) (Nat.le_of_ble_eq_true rfl) (Nat.le_of_ble_eq_true rfl) ?_
      exact (W.zret (v := 0) hx hb hr (by first | rfl | decide) (fun t ht hW => ⟨⟨0, (), rfl, (by first | exact Or.inl rfl | exact Or.inr rfl), by rw [ht]; exact hP9, hD9⟩, hS.F ht⟩) hS.2.2 dX0_mustBePaid_27)
    · skip
      refine lv_iconst (v := 1) hx hb dX0_mustBePaid_22 (by decide) ?_
      refine lv_goto (tgt := 27) hx hb dX0_mustBePaid_23 (by decide) ?_
      obtain ⟨hP9, hD9⟩ := PDq.sub (ws' := [(oX0 a0 p0 a1 a3 a4 a5 a6 i6 i7 i8 i9 i10 i11 i12 i13 i14 i15 i16 i17 i18 i19), (a3, .inl (cA 0, 10, .inl fs)), (a6, .inl (cA 0, 10, .inl fd))]) hP hD [1, 0, 2] (by decide) rfl
      refine W.widen (k := 0) (n := 0) (Nat.le_of_ble_eq_true rfl) (Nat.le_of_ble_eq_true rfl) ?_
      exact (W.zret (v := 1) hx hb hr (by first | rfl | decide) (fun t ht hW => ⟨⟨1, (), rfl, (by first | exact Or.inl rfl | exact Or.inr rfl), by rw [ht]; exact hP9, hD9⟩, hS.F ht⟩) hS.2.2 dX0_mustBePaid_27)

set_option maxHeartbeats 4000000 in
set_option maxRecDepth 100000 in
/-- isShort -/
theorem s_isShort (l : Launch) (D : va_G) (cA : Nat → ClassId) (sa : Nat → Nat) (a0 : Nat) (a1 : Nat) (a3 : Nat) (a4 : Nat) (a5 : Nat) (a6 : Nat) (p0 : Nat) (i6 : Int32) (i7 : Int32) (i8 : Int32) (i12 : Int32) (i13 : Int32) (i14 : Int32) (i15 : Int32) (i16 : Int32) (i17 : Int32) (i18 : Int32) (i19 : Int32) (i9 : Int64) (i10 : Int64) (i11 : Int64) (p1 : Nat) (p2 : Nat) (p3 : Nat) (p4 : Nat) (p5 : Nat) (p6 : Nat) (p7 : Nat) (p8 : Nat) (p9 : Nat) (cn : Nat) (pq : Nat) (nd : Nat) (sc : Nat) (pr : Int32) (pb : Int32) (pe : Int32) (pg : Int32) (fs : Nat → Int32) (fp : Nat → Int32) (fd : Nat → Int32) (fam : Nat → Int32) (sz : Nat) (hcn : cn ≤ 10) (hpq : pq ≤ 8) (hnd : nd ≤ 6) (hsc : sc ≤ 350) : Met l yX0_isShort wsX0_isShort ({ frames := 2, cells := 0, slots := 0, locals := 42 }) (va_Pc [.ref a0] (Wd D cA sa [(oX0 a0 p0 a1 a3 a4 a5 a6 i6 i7 i8 i9 i10 i11 i12 i13 i14 i15 i16 i17 i18 i19), (oX3 p0 pr pb pe pg p1 (nI nd) p2 p3 p4 p5 (nI cn) p6 (nI pq) p7 p8 p9 (nI sc)), (a3, .inl (cA 0, 10, .inl fs)), (a4, .inl (cA 0, 10, .inl fp)), (p3, .inl (cA 0, 10, .inl fam)), (a6, .inl (cA 0, 10, .inl fd))] sz)) (va_Qi (fun (r : Int32) (_ : Unit) => r = 0 ∨ r = 1) (fun (_ : Unit) t => Wq D (va_A [(oX0 a0 p0 a1 a3 a4 a5 a6 i6 i7 i8 i9 i10 i11 i12 i13 i14 i15 i16 i17 i18 i19), (oX3 p0 pr pb pe pg p1 (nI nd) p2 p3 p4 p5 (nI cn) p6 (nI pq) p7 p8 p9 (nI sc)), (a3, .inl (cA 0, 10, .inl fs)), (a4, .inl (cA 0, 10, .inl fp)), (p3, .inl (cA 0, 10, .inl fam)), (a6, .inl (cA 0, 10, .inl fd))] sz) [(oX0 a0 p0 a1 a3 a4 a5 a6 i6 i7 i8 i9 i10 i11 i12 i13 i14 i15 i16 i17 i18 i19), (oX3 p0 pr pb pe pg p1 (nI nd) p2 p3 p4 p5 (nI cn) p6 (nI pq) p7 p8 p9 (nI sc)), (a3, .inl (cA 0, 10, .inl fs)), (a4, .inl (cA 0, 10, .inl fp)), (p3, .inl (cA 0, 10, .inl fam)), (a6, .inl (cA 0, 10, .inl fd))] t) (va_A [(oX0 a0 p0 a1 a3 a4 a5 a6 i6 i7 i8 i9 i10 i11 i12 i13 i14 i15 i16 i17 i18 i19), (oX3 p0 pr pb pe pg p1 (nI nd) p2 p3 p4 p5 (nI cn) p6 (nI pq) p7 p8 p9 (nI sc)), (a3, .inl (cA 0, 10, .inl fs)), (a4, .inl (cA 0, 10, .inl fp)), (p3, .inl (cA 0, 10, .inl fam)), (a6, .inl (cA 0, 10, .inl fd))] sz)) 0 0 (va_A [(oX0 a0 p0 a1 a3 a4 a5 a6 i6 i7 i8 i9 i10 i11 i12 i13 i14 i15 i16 i17 i18 i19), (oX3 p0 pr pb pe pg p1 (nI nd) p2 p3 p4 p5 (nI cn) p6 (nI pq) p7 p8 p9 (nI sc)), (a3, .inl (cA 0, 10, .inl fs)), (a4, .inl (cA 0, 10, .inl fp)), (p3, .inl (cA 0, 10, .inl fam)), (a6, .inl (cA 0, 10, .inl fd))] sz) := by
  refine Met.ofW (cc := cX0_isShort) (maxL := 2) (ret := (some .boolean)) (by decide) rfl ?_
  intro p e s m args below meth c s₁ B hml hv
  obtain ⟨rfl, hsz, hP, hK, hD0, hC, hZ⟩ := hv
  have hx := B.exec
  have hb := B.bytes
  have hr := B.returns
  have hts := atoms_spec (ws := wsX0_isShort) B.pre
  have hown : s.vm.findClass RX0 = some m.cls := findClass_of_methodNamed B.named
  have hlocks := B.notSynchronized
  subst hsz
  have hD := hD0.self (sz := s.heap.size)
  generalize hAe : va_A [(oX0 a0 p0 a1 a3 a4 a5 a6 i6 i7 i8 i9 i10 i11 i12 i13 i14 i15 i16 i17 i18 i19), (oX3 p0 pr pb pe pg p1 (nI nd) p2 p3 p4 p5 (nI cn) p6 (nI pq) p7 p8 p9 (nI sc)), (a3, .inl (cA 0, 10, .inl fs)), (a4, .inl (cA 0, 10, .inl fp)), (p3, .inl (cA 0, 10, .inl fam)), (a6, .inl (cA 0, 10, .inl fd))] s.heap.size = A at hD hZ ⊢
  have hA : ∀ q : Nat, s.heap.size ≤ q → A q := fun q h => by rw [← hAe]; exact Or.inr h
  have hS : va_S A s.heap s.heap [] := va_S.rf
  have hP : va_P D vwCl [(oX0 a0 p0 a1 a3 a4 a5 a6 i6 i7 i8 i9 i10 i11 i12 i13 i14 i15 i16 i17 i18 i19), (oX3 p0 pr pb pe pg p1 (nI nd) p2 p3 p4 p5 (nI cn) p6 (nI pq) p7 p8 p9 (nI sc)), (a3, .inl (cA 0, 10, .inl fs)), (a4, .inl (cA 0, 10, .inl fp)), (p3, .inl (cA 0, 10, .inl fam)), (a6, .inl (cA 0, 10, .inl fd))] s.heap := hP
  have hl := lv_entry ([.ref a0]) (n := 2) (Nat.le_of_ble_eq_true rfl)
  rw [lg_entry_eq]
  generalize (lg_sl ([.ref a0]) ++ List.replicate (2 - (lg_sl ([.ref a0])).length) Slot.unset).toArray = ls at hl ⊢
  have hl : lv_has ls 2 [(0, .ref a0)] := hl
  have inX0 : ∀ w ∈ u_ws RX0 TX0 20, w ∈ wsX0_isShort := by decide +kernel
  have inX3 : ∀ w ∈ u_ws RX3 TX3 17, w ∈ wsX0_isShort := by decide +kernel
  refine lv_iconst (v := 0) hx hb dX0_isShort_0 (by decide) ?_
  refine lv_istore_n (lv' := [(1, .int 0), (0, .ref a0)]) hx hb dX0_isShort_1 rfl hl (by decide) rfl (fun ls hl => ?_)
  have loop1 : ∀ (n1 i1 : Nat) (H : Heap) (locs : List Loc) (ls : Array Slot), i1 + n1 = cn → va_P D vwCl [(oX0 a0 p0 a1 a3 a4 a5 a6 i6 i7 i8 i9 i10 i11 i12 i13 i14 i15 i16 i17 i18 i19), (oX3 p0 pr pb pe pg p1 (nI nd) p2 p3 p4 p5 (nI cn) p6 (nI pq) p7 p8 p9 (nI sc)), (a3, .inl (cA 0, 10, .inl fs)), (a4, .inl (cA 0, 10, .inl fp)), (p3, .inl (cA 0, 10, .inl fam)), (a6, .inl (cA 0, 10, .inl fd))] H → va_D A [(oX0 a0 p0 a1 a3 a4 a5 a6 i6 i7 i8 i9 i10 i11 i12 i13 i14 i15 i16 i17 i18 i19), (oX3 p0 pr pb pe pg p1 (nI nd) p2 p3 p4 p5 (nI cn) p6 (nI pq) p7 p8 p9 (nI sc)), (a3, .inl (cA 0, 10, .inl fs)), (a4, .inl (cA 0, 10, .inl fp)), (p3, .inl (cA 0, 10, .inl fam)), (a6, .inl (cA 0, 10, .inl fd))] → va_S A s.heap H locs → lv_has ls 2 [(1, .int (nI i1)), (0, .ref a0)] → W p l e (headSpec wsX0_isShort ({ frames := 2, cells := 0, slots := 0, locals := 42 } : Room)).room s m ([.ref a0] : List Value).toArray below meth c H locs 0 0 (MQ below (va_Qi (fun (r : Int32) (_ : Unit) => r = 0 ∨ r = 1) (fun (_ : Unit) t => Wq D A [(oX0 a0 p0 a1 a3 a4 a5 a6 i6 i7 i8 i9 i10 i11 i12 i13 i14 i15 i16 i17 i18 i19), (oX3 p0 pr pb pe pg p1 (nI nd) p2 p3 p4 p5 (nI cn) p6 (nI pq) p7 p8 p9 (nI sc)), (a3, .inl (cA 0, 10, .inl fs)), (a4, .inl (cA 0, 10, .inl fp)), (p3, .inl (cA 0, 10, .inl fam)), (a6, .inl (cA 0, 10, .inl fd))] t) A) ([.ref a0] : List Value).toArray s 0 0 A) (F0 m 2 ls []) := by
    intro n1
    induction n1 with
    | zero =>
      intro i1 H locs ls hi1 hP hD hS hl
      obtain rfl : cn = i1 := by omega
      refine lv_iload_n hx hb dX0_isShort_2 rfl (lv_at hl 0 rfl) ?_
      refine lv_aload_n hx hb dX0_isShort_3 rfl (lv_at hl 1 rfl) ?_
      refine va_get (D := D) (ci := 4) (v := .ref p0) (C := RX0) (T := TX0) (N := 20) hx hb hts inX0 hown hK hP 0 rfl rfl 0 (by decide) (hts (.fieldLink RX0 31 "EscrowDesk$Account" "plan" "LEscrowDesk$Plan;") (by decide +kernel)) (fun _ h9 => h9) rfl dX0_isShort_4 ?_
      refine va_getN (D := D) (ci := 7) (v := .int (nI cn)) (C := RX3) (T := TX3) (N := 17) hx hb hts inX3 hown hK hP 1 rfl rfl 10 (by decide) (hC.f (A := _) (a := RX0) (i := 109) (b := "EscrowDesk$Plan") (n := "milestoneCount") (d := "I") (x := "EscrowDesk") (by decide +kernel)) (fun _ h9 => h9) rfl dX0_isShort_7 ?_
      refine lv_icmp_ge (tgt := 37) hx hb dX0_isShort_10 (by decide) (fun c1 => ?_) (fun c9 => absurd (nI_le (a := cn) (b := cn) (show cn ≤ cn by omega) (by omega)) c9)
      refine lv_iconst (v := 0) hx hb dX0_isShort_37 (by decide) ?_
      obtain ⟨hP9, hD9⟩ := PDq.sub (ws' := [(oX0 a0 p0 a1 a3 a4 a5 a6 i6 i7 i8 i9 i10 i11 i12 i13 i14 i15 i16 i17 i18 i19), (oX3 p0 pr pb pe pg p1 (nI nd) p2 p3 p4 p5 (nI cn) p6 (nI pq) p7 p8 p9 (nI sc)), (a3, .inl (cA 0, 10, .inl fs)), (a4, .inl (cA 0, 10, .inl fp)), (p3, .inl (cA 0, 10, .inl fam)), (a6, .inl (cA 0, 10, .inl fd))]) hP hD [0, 1, 2, 3, 4, 5] (by decide) rfl
      refine W.widen (k := 0) (n := 0) (Nat.le_of_ble_eq_true rfl) (Nat.le_of_ble_eq_true rfl) ?_
      exact (W.zret (v := 0) hx hb hr (by first | rfl | decide) (fun t ht hW => ⟨⟨0, (), rfl, (by first | exact Or.inl rfl | exact Or.inr rfl), by rw [ht]; exact hP9, hD9⟩, hS.F ht⟩) hS.2.2 dX0_isShort_38)
    | succ n1 ih1 =>
      intro i1 H locs ls hi1 hP hD hS hl
      refine lv_iload_n hx hb dX0_isShort_2 rfl (lv_at hl 0 rfl) ?_
      refine lv_aload_n hx hb dX0_isShort_3 rfl (lv_at hl 1 rfl) ?_
      refine va_get (D := D) (ci := 4) (v := .ref p0) (C := RX0) (T := TX0) (N := 20) hx hb hts inX0 hown hK hP 0 rfl rfl 0 (by decide) (hts (.fieldLink RX0 31 "EscrowDesk$Account" "plan" "LEscrowDesk$Plan;") (by decide +kernel)) (fun _ h9 => h9) rfl dX0_isShort_4 ?_
      refine va_getN (D := D) (ci := 7) (v := .int (nI cn)) (C := RX3) (T := TX3) (N := 17) hx hb hts inX3 hown hK hP 1 rfl rfl 10 (by decide) (hC.f (A := _) (a := RX0) (i := 109) (b := "EscrowDesk$Plan") (n := "milestoneCount") (d := "I") (x := "EscrowDesk") (by decide +kernel)) (fun _ h9 => h9) rfl dX0_isShort_7 ?_
      refine lv_icmp_ge (tgt := 37) hx hb dX0_isShort_10 (by decide) (fun c9 => absurd c9 (nI_ge (a := i1) (b := cn) (show i1 < cn by omega) (by omega))) (fun c2 => ?_)
      refine lv_aload_n hx hb dX0_isShort_13 rfl (lv_at hl 1 rfl) ?_
      refine lv_iload_n hx hb dX0_isShort_14 rfl (lv_at hl 0 rfl) ?_
      obtain ⟨hPc, hDc, hFc⟩ := PDq.cut (wc := [(oX0 a0 p0 a1 a3 a4 a5 a6 i6 i7 i8 i9 i10 i11 i12 i13 i14 i15 i16 i17 i18 i19), (a3, .inl (cA 0, 10, .inl fs)), (a6, .inl (cA 0, 10, .inl fd))]) hP hD hS hA [0, 2, 5] (by decide) rfl
      refine va_calli (va_runV (As := [.int (nI i1)]) (rest := []) ⟨hx, hb, hml, hown, hts⟩ (s_mustBePaid l D cA sa a0 a1 a3 a4 a5 a6 p0 i6 i7 i8 i12 i13 i14 i15 i16 i17 i18 i19 i9 i10 i11 i1 fs fd H.size (by omega)) (cwV 1 hts gX0_isShort_X0_mustBePaid rfl rfl rfl (by decide +kernel) ⟨(Nat.le_of_ble_eq_true rfl), (Nat.le_of_ble_eq_true rfl)⟩) ⟨Wd.blind, va_recv hK hPc (ci := 4) (q0 := 0) rfl rfl, fun U hU hW => ⟨rfl, Wd.call hPc hDc hK hC hZ hS hFc U hU hW⟩⟩ rfl rfl hl.1 rfl (lv_room (Nat.le_of_ble_eq_true rfl)) dX0_isShort_15 ⟨(Nat.le_of_ble_eq_true rfl), (Nat.le_of_ble_eq_true rfl)⟩) hS (fun q _ h => hFc q h) hFc (fun rn3 u t H1 locs ht hvm hw hB hz1 hk1 hS => ?_)
      obtain ⟨hP1, hD1⟩ := hB
      rw [ht] at hP1
      obtain ⟨hP, hD⟩ := PDq.join (w := [(oX3 p0 pr pb pe pg p1 (nI nd) p2 p3 p4 p5 (nI cn) p6 (nI pq) p7 p8 p9 (nI sc)), (a4, .inl (cA 0, 10, .inl fp)), (p3, .inl (cA 0, 10, .inl fam)), (oX0 a0 p0 a1 a3 a4 a5 a6 i6 i7 i8 i9 i10 i11 i12 i13 i14 i15 i16 i17 i18 i19), (a3, .inl (cA 0, 10, .inl fs)), (a6, .inl (cA 0, 10, .inl fd))]) 3 hP hD [0, 2, 5] [1, 3, 4] rfl rfl (by decide) (by decide) hk1 hFc hP1 hD1 rfl
      generalize H1 = H at hP hS ⊢
      have hn4 := hw
      refine lv_if_eq (tgt := 31) hx hb dX0_isShort_18 (by decide) (fun c5 => ?_) (fun c5 => ?_)
      · skip
        refine lv_iinc (v := (nI (i1 + 1))) (lv' := [(1, .int (nI (i1 + 1))), (0, .ref a0)]) hx hb dX0_isShort_31 hl (k := 0) rfl (nI_1 _) (by decide) rfl (fun ls hl => ?_)
        refine lv_goto (tgt := 2) hx hb dX0_isShort_34 (by decide) ?_
        obtain ⟨hP9, hD9⟩ := PDq.sub (ws' := [(oX0 a0 p0 a1 a3 a4 a5 a6 i6 i7 i8 i9 i10 i11 i12 i13 i14 i15 i16 i17 i18 i19), (oX3 p0 pr pb pe pg p1 (nI nd) p2 p3 p4 p5 (nI cn) p6 (nI pq) p7 p8 p9 (nI sc)), (a3, .inl (cA 0, 10, .inl fs)), (a4, .inl (cA 0, 10, .inl fp)), (p3, .inl (cA 0, 10, .inl fam)), (a6, .inl (cA 0, 10, .inl fd))]) hP hD [3, 0, 4, 1, 2, 5] (by decide) rfl
        exact ih1 (i1 + 1)  H _ ls (by omega) hP9 hD9 hS (lv_sub hl [0, 1] rfl)
      · skip
        refine lv_aload_n hx hb dX0_isShort_21 rfl (lv_at hl 1 rfl) ?_
        refine lv_iload_n hx hb dX0_isShort_22 rfl (lv_at hl 0 rfl) ?_
        obtain ⟨hPc, hDc, hFc⟩ := PDq.cut (wc := [(oX0 a0 p0 a1 a3 a4 a5 a6 i6 i7 i8 i9 i10 i11 i12 i13 i14 i15 i16 i17 i18 i19), (oX3 p0 pr pb pe pg p1 (nI nd) p2 p3 p4 p5 (nI cn) p6 (nI pq) p7 p8 p9 (nI sc)), (a3, .inl (cA 0, 10, .inl fs)), (a4, .inl (cA 0, 10, .inl fp)), (p3, .inl (cA 0, 10, .inl fam))]) hP hD hS hA [3, 0, 4, 1, 2] (by decide) rfl
        refine va_calli (va_runV (As := [.int (nI i1)]) (rest := []) ⟨hx, hb, hml, hown, hts⟩ (s_remainingOf l D cA sa a0 a1 a3 a4 a5 a6 p0 i6 i7 i8 i12 i13 i14 i15 i16 i17 i18 i19 i9 i10 i11 p1 p2 p3 p4 p5 p6 p7 p8 p9 cn pq nd sc pr pb pe pg i1 fs fp fam H.size (by omega)) (cwV 1 hts gX0_isShort_X0_remainingOf rfl rfl rfl (by decide +kernel) ⟨(Nat.le_of_ble_eq_true rfl), (Nat.le_of_ble_eq_true rfl)⟩) ⟨Wd.blind, va_recv hK hPc (ci := 4) (q0 := 0) rfl rfl, fun U hU hW => ⟨rfl, Wd.call hPc hDc hK hC hZ hS hFc U hU hW⟩⟩ rfl rfl hl.1 rfl (lv_room (Nat.le_of_ble_eq_true rfl)) dX0_isShort_23 ⟨(Nat.le_of_ble_eq_true rfl), (Nat.le_of_ble_eq_true rfl)⟩) hS (fun q _ h => hFc q h) hFc (fun rn6 u t H1 locs ht hvm hw hB hz1 hk1 hS => ?_)
        obtain ⟨hP1, hD1⟩ := hB
        rw [ht] at hP1
        obtain ⟨hP, hD⟩ := PDq.join (w := [(a6, .inl (cA 0, 10, .inl fd)), (oX0 a0 p0 a1 a3 a4 a5 a6 i6 i7 i8 i9 i10 i11 i12 i13 i14 i15 i16 i17 i18 i19), (oX3 p0 pr pb pe pg p1 (nI nd) p2 p3 p4 p5 (nI cn) p6 (nI pq) p7 p8 p9 (nI sc)), (a3, .inl (cA 0, 10, .inl fs)), (a4, .inl (cA 0, 10, .inl fp)), (p3, .inl (cA 0, 10, .inl fam))]) 1 hP hD [3, 0, 4, 1, 2] [5] rfl rfl (by decide) (by decide) hk1 hFc hP1 hD1 rfl
        generalize H1 = H at hP hS ⊢
        refine lv_if_le (tgt := 31) hx hb dX0_isShort_26 (by decide) (fun c7 => ?_) (fun c7 => ?_)
        · skip
          refine lv_iinc (v := (nI (i1 + 1))) (lv' := [(1, .int (nI (i1 + 1))), (0, .ref a0)]) hx hb dX0_isShort_31 hl (k := 0) rfl (nI_1 _) (by decide) rfl (fun ls hl => ?_)
          refine lv_goto (tgt := 2) hx hb dX0_isShort_34 (by decide) ?_
          obtain ⟨hP9, hD9⟩ := PDq.sub (ws' := [(oX0 a0 p0 a1 a3 a4 a5 a6 i6 i7 i8 i9 i10 i11 i12 i13 i14 i15 i16 i17 i18 i19), (oX3 p0 pr pb pe pg p1 (nI nd) p2 p3 p4 p5 (nI cn) p6 (nI pq) p7 p8 p9 (nI sc)), (a3, .inl (cA 0, 10, .inl fs)), (a4, .inl (cA 0, 10, .inl fp)), (p3, .inl (cA 0, 10, .inl fam)), (a6, .inl (cA 0, 10, .inl fd))]) hP hD [1, 2, 3, 4, 5, 0] (by decide) rfl
          exact ih1 (i1 + 1)  H _ ls (by omega) hP9 hD9 hS (lv_sub hl [0, 1] rfl)
        · skip
          refine lv_iconst (v := 1) hx hb dX0_isShort_29 (by decide) ?_
          obtain ⟨hP9, hD9⟩ := PDq.sub (ws' := [(oX0 a0 p0 a1 a3 a4 a5 a6 i6 i7 i8 i9 i10 i11 i12 i13 i14 i15 i16 i17 i18 i19), (oX3 p0 pr pb pe pg p1 (nI nd) p2 p3 p4 p5 (nI cn) p6 (nI pq) p7 p8 p9 (nI sc)), (a3, .inl (cA 0, 10, .inl fs)), (a4, .inl (cA 0, 10, .inl fp)), (p3, .inl (cA 0, 10, .inl fam)), (a6, .inl (cA 0, 10, .inl fd))]) hP hD [1, 2, 3, 4, 5, 0] (by decide) rfl
          refine W.widen (k := 0) (n := 0) (Nat.le_of_ble_eq_true rfl) (Nat.le_of_ble_eq_true rfl) ?_
          exact (W.zret (v := 1) hx hb hr (by first | rfl | decide) (fun t ht hW => ⟨⟨1, (), rfl, (by first | exact Or.inl rfl | exact Or.inr rfl), by rw [ht]; exact hP9, hD9⟩, hS.F ht⟩) hS.2.2 dX0_isShort_30)
  obtain ⟨hP9, hD9⟩ := PDq.sub (ws' := [(oX0 a0 p0 a1 a3 a4 a5 a6 i6 i7 i8 i9 i10 i11 i12 i13 i14 i15 i16 i17 i18 i19), (oX3 p0 pr pb pe pg p1 (nI nd) p2 p3 p4 p5 (nI cn) p6 (nI pq) p7 p8 p9 (nI sc)), (a3, .inl (cA 0, 10, .inl fs)), (a4, .inl (cA 0, 10, .inl fp)), (p3, .inl (cA 0, 10, .inl fam)), (a6, .inl (cA 0, 10, .inl fd))]) hP hD [0, 1, 2, 3, 4, 5] (by decide) rfl
  exact loop1 (cn - 0) 0  _ _ ls (by omega) hP9 hD9 hS (lv_sub hl [0, 1] rfl)

set_option maxHeartbeats 4000000 in
set_option maxRecDepth 100000 in
/-- moneyToSplit -/
theorem s_moneyToSplit (l : Launch) (D : va_G) (cA : Nat → ClassId) (sa : Nat → Nat) (a0 : Nat) (a1 : Nat) (a3 : Nat) (a4 : Nat) (a5 : Nat) (a6 : Nat) (p0 : Nat) (i6 : Int32) (i7 : Int32) (i8 : Int32) (i12 : Int32) (i13 : Int32) (i14 : Int32) (i15 : Int32) (i16 : Int32) (i17 : Int32) (i18 : Int32) (i19 : Int32) (i9 : Int64) (i10 : Int64) (i11 : Int64) (p1 : Nat) (p2 : Nat) (p3 : Nat) (p4 : Nat) (p5 : Nat) (p6 : Nat) (p7 : Nat) (p8 : Nat) (p9 : Nat) (cn : Nat) (pq : Nat) (nd : Nat) (sc : Nat) (pr : Int32) (pb : Int32) (pe : Int32) (pg : Int32) (mi : Nat) (fs : Nat → Int32) (fp : Nat → Int32) (ff : Nat → Int32) (fam : Nat → Int32) (sz : Nat) (hcn : cn ≤ 10) (hpq : pq ≤ 8) (hnd : nd ≤ 6) (hsc : sc ≤ 350) (hmi : mi < 10) : Met l yX0_moneyToSplit wsX0_moneyToSplit ({ frames := 2, cells := 0, slots := 0, locals := 42 }) (va_Pc [.ref a0, .int (nI mi)] (Wd D cA sa [(oX0 a0 p0 a1 a3 a4 a5 a6 i6 i7 i8 i9 i10 i11 i12 i13 i14 i15 i16 i17 i18 i19), (oX3 p0 pr pb pe pg p1 (nI nd) p2 p3 p4 p5 (nI cn) p6 (nI pq) p7 p8 p9 (nI sc)), (a3, .inl (cA 0, 10, .inl fs)), (a4, .inl (cA 0, 10, .inl fp)), (p3, .inl (cA 0, 10, .inl fam)), (a5, .inl (cA 0, 10, .inl ff))] sz)) (va_Qi (fun (r : Int32) (_ : Unit) => True) (fun (_ : Unit) t => Wq D (va_A [(oX0 a0 p0 a1 a3 a4 a5 a6 i6 i7 i8 i9 i10 i11 i12 i13 i14 i15 i16 i17 i18 i19), (oX3 p0 pr pb pe pg p1 (nI nd) p2 p3 p4 p5 (nI cn) p6 (nI pq) p7 p8 p9 (nI sc)), (a3, .inl (cA 0, 10, .inl fs)), (a4, .inl (cA 0, 10, .inl fp)), (p3, .inl (cA 0, 10, .inl fam)), (a5, .inl (cA 0, 10, .inl ff))] sz) [(oX0 a0 p0 a1 a3 a4 a5 a6 i6 i7 i8 i9 i10 i11 i12 i13 i14 i15 i16 i17 i18 i19), (oX3 p0 pr pb pe pg p1 (nI nd) p2 p3 p4 p5 (nI cn) p6 (nI pq) p7 p8 p9 (nI sc)), (a3, .inl (cA 0, 10, .inl fs)), (a4, .inl (cA 0, 10, .inl fp)), (p3, .inl (cA 0, 10, .inl fam)), (a5, .inl (cA 0, 10, .inl ff))] t) (va_A [(oX0 a0 p0 a1 a3 a4 a5 a6 i6 i7 i8 i9 i10 i11 i12 i13 i14 i15 i16 i17 i18 i19), (oX3 p0 pr pb pe pg p1 (nI nd) p2 p3 p4 p5 (nI cn) p6 (nI pq) p7 p8 p9 (nI sc)), (a3, .inl (cA 0, 10, .inl fs)), (a4, .inl (cA 0, 10, .inl fp)), (p3, .inl (cA 0, 10, .inl fam)), (a5, .inl (cA 0, 10, .inl ff))] sz)) 0 0 (va_A [(oX0 a0 p0 a1 a3 a4 a5 a6 i6 i7 i8 i9 i10 i11 i12 i13 i14 i15 i16 i17 i18 i19), (oX3 p0 pr pb pe pg p1 (nI nd) p2 p3 p4 p5 (nI cn) p6 (nI pq) p7 p8 p9 (nI sc)), (a3, .inl (cA 0, 10, .inl fs)), (a4, .inl (cA 0, 10, .inl fp)), (p3, .inl (cA 0, 10, .inl fam)), (a5, .inl (cA 0, 10, .inl ff))] sz) := by
  refine Met.ofW (cc := cX0_moneyToSplit) (maxL := 2) (ret := (some .int)) (by decide) rfl ?_
  intro p e s m args below meth c s₁ B hml hv
  obtain ⟨rfl, hsz, hP, hK, hD0, hC, hZ⟩ := hv
  have hx := B.exec
  have hb := B.bytes
  have hr := B.returns
  have hts := atoms_spec (ws := wsX0_moneyToSplit) B.pre
  have hown : s.vm.findClass RX0 = some m.cls := findClass_of_methodNamed B.named
  have hlocks := B.notSynchronized
  subst hsz
  have hD := hD0.self (sz := s.heap.size)
  generalize hAe : va_A [(oX0 a0 p0 a1 a3 a4 a5 a6 i6 i7 i8 i9 i10 i11 i12 i13 i14 i15 i16 i17 i18 i19), (oX3 p0 pr pb pe pg p1 (nI nd) p2 p3 p4 p5 (nI cn) p6 (nI pq) p7 p8 p9 (nI sc)), (a3, .inl (cA 0, 10, .inl fs)), (a4, .inl (cA 0, 10, .inl fp)), (p3, .inl (cA 0, 10, .inl fam)), (a5, .inl (cA 0, 10, .inl ff))] s.heap.size = A at hD hZ ⊢
  have hA : ∀ q : Nat, s.heap.size ≤ q → A q := fun q h => by rw [← hAe]; exact Or.inr h
  have hS : va_S A s.heap s.heap [] := va_S.rf
  have hP : va_P D vwCl [(oX0 a0 p0 a1 a3 a4 a5 a6 i6 i7 i8 i9 i10 i11 i12 i13 i14 i15 i16 i17 i18 i19), (oX3 p0 pr pb pe pg p1 (nI nd) p2 p3 p4 p5 (nI cn) p6 (nI pq) p7 p8 p9 (nI sc)), (a3, .inl (cA 0, 10, .inl fs)), (a4, .inl (cA 0, 10, .inl fp)), (p3, .inl (cA 0, 10, .inl fam)), (a5, .inl (cA 0, 10, .inl ff))] s.heap := hP
  have hl := lv_entry ([.ref a0, .int (nI mi)]) (n := 2) (Nat.le_of_ble_eq_true rfl)
  rw [lg_entry_eq]
  generalize (lg_sl ([.ref a0, .int (nI mi)]) ++ List.replicate (2 - (lg_sl ([.ref a0, .int (nI mi)])).length) Slot.unset).toArray = ls at hl ⊢
  have hl : lv_has ls 2 [(0, .ref a0), (1, .int (nI mi))] := hl
  have inX0 : ∀ w ∈ u_ws RX0 TX0 20, w ∈ wsX0_moneyToSplit := by decide +kernel
  refine lv_aload_n hx hb dX0_moneyToSplit_0 rfl (lv_at hl 0 rfl) ?_
  refine lv_iload_n hx hb dX0_moneyToSplit_1 rfl (lv_at hl 1 rfl) ?_
  obtain ⟨hPc, hDc, hFc⟩ := PDq.cut (wc := [(oX0 a0 p0 a1 a3 a4 a5 a6 i6 i7 i8 i9 i10 i11 i12 i13 i14 i15 i16 i17 i18 i19), (oX3 p0 pr pb pe pg p1 (nI nd) p2 p3 p4 p5 (nI cn) p6 (nI pq) p7 p8 p9 (nI sc)), (a3, .inl (cA 0, 10, .inl fs)), (a4, .inl (cA 0, 10, .inl fp)), (p3, .inl (cA 0, 10, .inl fam))]) hP hD hS hA [0, 1, 2, 3, 4] (by decide) rfl
  refine va_calli (va_runV (As := [.int (nI mi)]) (rest := []) ⟨hx, hb, hml, hown, hts⟩ (s_remainingOf l D cA sa a0 a1 a3 a4 a5 a6 p0 i6 i7 i8 i12 i13 i14 i15 i16 i17 i18 i19 i9 i10 i11 p1 p2 p3 p4 p5 p6 p7 p8 p9 cn pq nd sc pr pb pe pg mi fs fp fam s.heap.size hmi) (cwV 1 hts gX0_moneyToSplit_X0_remainingOf rfl rfl rfl (by decide +kernel) ⟨(Nat.le_of_ble_eq_true rfl), (Nat.le_of_ble_eq_true rfl)⟩) ⟨Wd.blind, va_recv hK hPc (ci := 4) (q0 := 0) rfl rfl, fun U hU hW => ⟨rfl, Wd.call hPc hDc hK hC hZ hS hFc U hU hW⟩⟩ rfl rfl hl.1 rfl (lv_room (Nat.le_of_ble_eq_true rfl)) dX0_moneyToSplit_2 ⟨(Nat.le_of_ble_eq_true rfl), (Nat.le_of_ble_eq_true rfl)⟩) hS (fun q _ h => hFc q h) hFc (fun rn1 u t H1 locs ht hvm hw hB hz1 hk1 hS => ?_)
  obtain ⟨hP1, hD1⟩ := hB
  rw [ht] at hP1
  obtain ⟨hP, hD⟩ := PDq.join (w := [(a5, .inl (cA 0, 10, .inl ff)), (oX0 a0 p0 a1 a3 a4 a5 a6 i6 i7 i8 i9 i10 i11 i12 i13 i14 i15 i16 i17 i18 i19), (oX3 p0 pr pb pe pg p1 (nI nd) p2 p3 p4 p5 (nI cn) p6 (nI pq) p7 p8 p9 (nI sc)), (a3, .inl (cA 0, 10, .inl fs)), (a4, .inl (cA 0, 10, .inl fp)), (p3, .inl (cA 0, 10, .inl fam))]) 1 hP hD [0, 1, 2, 3, 4] [5] rfl rfl (by decide) (by decide) hk1 hFc hP1 hD1 rfl
  generalize H1 = H at hP hS ⊢
  refine lv_aload_n hx hb dX0_moneyToSplit_5 rfl (lv_at hl 0 rfl) ?_
  obtain ⟨hPc, hDc, hFc⟩ := PDq.cut (wc := [(oX0 a0 p0 a1 a3 a4 a5 a6 i6 i7 i8 i9 i10 i11 i12 i13 i14 i15 i16 i17 i18 i19), (oX3 p0 pr pb pe pg p1 (nI nd) p2 p3 p4 p5 (nI cn) p6 (nI pq) p7 p8 p9 (nI sc)), (a5, .inl (cA 0, 10, .inl ff))]) hP hD hS hA [1, 2, 0] (by decide) rfl
  refine va_calli (va_runV (As := []) (rest := [.int rn1]) ⟨hx, hb, hml, hown, hts⟩ (s_availMoney l D cA sa a0 a1 a3 a4 a5 a6 p0 i6 i7 i8 i12 i13 i14 i15 i16 i17 i18 i19 i9 i10 i11 p1 p2 p3 p4 p5 p6 p7 p8 p9 cn pq nd sc pr pb pe pg ff H.size hcn hpq hnd hsc) (cwV 0 hts gX0_moneyToSplit_X0_availableMoney rfl rfl rfl (by decide +kernel) ⟨(Nat.le_of_ble_eq_true rfl), (Nat.le_of_ble_eq_true rfl)⟩) ⟨Wd.blind, va_recv hK hPc (ci := 4) (q0 := 0) rfl rfl, fun U hU hW => ⟨rfl, Wd.call hPc hDc hK hC hZ hS hFc U hU hW⟩⟩ rfl rfl hl.1 rfl (lv_room (Nat.le_of_ble_eq_true rfl)) dX0_moneyToSplit_6 ⟨(Nat.le_of_ble_eq_true rfl), (Nat.le_of_ble_eq_true rfl)⟩) hS (fun q _ h => hFc q h) hFc (fun rn2 u t H1 locs ht hvm hw hB hz1 hk1 hS => ?_)
  obtain ⟨hP1, hD1⟩ := hB
  rw [ht] at hP1
  obtain ⟨hP, hD⟩ := PDq.join (w := [(a3, .inl (cA 0, 10, .inl fs)), (a4, .inl (cA 0, 10, .inl fp)), (p3, .inl (cA 0, 10, .inl fam)), (oX0 a0 p0 a1 a3 a4 a5 a6 i6 i7 i8 i9 i10 i11 i12 i13 i14 i15 i16 i17 i18 i19), (oX3 p0 pr pb pe pg p1 (nI nd) p2 p3 p4 p5 (nI cn) p6 (nI pq) p7 p8 p9 (nI sc)), (a5, .inl (cA 0, 10, .inl ff))]) 3 hP hD [1, 2, 0] [3, 4, 5] rfl rfl (by decide) (by decide) hk1 hFc hP1 hD1 rfl
  generalize H1 = H at hP hS ⊢
  refine lv_aload_n hx hb dX0_moneyToSplit_9 rfl (lv_at hl 0 rfl) ?_
  refine va_get (D := D) (ci := 4) (v := .ref a5) (C := RX0) (T := TX0) (N := 20) hx hb hts inX0 hown hK hP 3 rfl rfl 4 (by decide) (hts (.fieldLink RX0 25 "EscrowDesk$Account" "frozen" "[I") (by decide +kernel)) (fun _ h9 => h9) rfl dX0_moneyToSplit_10 ?_
  refine lv_iload_n hx hb dX0_moneyToSplit_13 rfl (lv_at hl 1 rfl) ?_
  refine va_iald hx hb hK hP 5 0 rfl rfl (vp_in_nI (n := mi) (N := 10) (show mi < 10 by omega) (by decide)) dX0_moneyToSplit_14 ?_
  refine lv_topi (fun yn3 eyn3 => ?_)
  refine lv_iadd hx hb dX0_moneyToSplit_15 ?_
  refine lv_topi (fun yn4 eyn4 => ?_)
  refine va_mmin hx hb (by rw [hml]; exact hl.1.symm) hown (hts (.methodLink RX0 161 Lib.Math.min.name) (by decide +kernel)) (hts (.static Lib.Math.min.name) (by decide +kernel)) (hts (.initialized "java/lang/Math") (by decide +kernel)) (hts (.code Lib.Math.min.name Lib.Math.min.code 2 (some .int)) (by decide +kernel)) (Nat.le_of_ble_eq_true rfl) (Nat.le_of_ble_eq_true rfl) (Nat.le_of_ble_eq_true rfl) (Nat.le_of_ble_eq_true rfl) dX0_moneyToSplit_16 ?_
  refine lv_topi (fun yn5 eyn5 => ?_)
  obtain ⟨hP9, hD9⟩ := PDq.sub (ws' := [(oX0 a0 p0 a1 a3 a4 a5 a6 i6 i7 i8 i9 i10 i11 i12 i13 i14 i15 i16 i17 i18 i19), (oX3 p0 pr pb pe pg p1 (nI nd) p2 p3 p4 p5 (nI cn) p6 (nI pq) p7 p8 p9 (nI sc)), (a3, .inl (cA 0, 10, .inl fs)), (a4, .inl (cA 0, 10, .inl fp)), (p3, .inl (cA 0, 10, .inl fam)), (a5, .inl (cA 0, 10, .inl ff))]) hP hD [3, 4, 0, 1, 2, 5] (by decide) rfl
  refine W.widen (k := 0) (n := 0) (Nat.le_of_ble_eq_true rfl) (Nat.le_of_ble_eq_true rfl) ?_
  exact (W.iret (v := yn5) hx hb hr (fun t ht hW => ⟨⟨yn5, (), rfl, trivial, by rw [ht]; exact hP9, hD9⟩, hS.F ht⟩) hS.2.2 dX0_moneyToSplit_19)

set_option maxHeartbeats 4000000 in
set_option maxRecDepth 100000 in
/-- partOf -/
theorem s_partOf (l : Launch) (D : va_G) (cA : Nat → ClassId) (sa : Nat → Nat) (a : Int32) (b : Int32) (sz : Nat) : Met l yX0_partOf wsX0_partOf ({ frames := 0, cells := 0, slots := 0, locals := 0 }) (va_Pc [.int a, .int b] (Wd D cA sa [] sz)) (va_Qi (fun (r : Int32) (_ : Unit) => True) (fun (_ : Unit) t => Wq D (va_A [] sz) [] t) (va_A [] sz)) 0 0 (va_A [] sz) := by
  refine Met.ofW (cc := cX0_partOf) (maxL := 2) (ret := (some .int)) (by decide) rfl ?_
  intro p e s m args below meth c s₁ B hml hv
  obtain ⟨rfl, hsz, hP, hK, hD0, hC, hZ⟩ := hv
  have hx := B.exec
  have hb := B.bytes
  have hr := B.returns
  have hts := atoms_spec (ws := wsX0_partOf) B.pre
  have hown : s.vm.findClass RX0 = some m.cls := findClass_of_methodNamed B.named
  have hlocks := B.notSynchronized
  subst hsz
  have hD := hD0.self (sz := s.heap.size)
  generalize hAe : va_A [] s.heap.size = A at hD hZ ⊢
  have hA : ∀ q : Nat, s.heap.size ≤ q → A q := fun q h => by rw [← hAe]; exact Or.inr h
  have hS : va_S A s.heap s.heap [] := va_S.rf
  have hP : va_P D vwCl [] s.heap := hP
  have hl := lv_entry ([.int a, .int b]) (n := 2) (Nat.le_of_ble_eq_true rfl)
  rw [lg_entry_eq]
  generalize (lg_sl ([.int a, .int b]) ++ List.replicate (2 - (lg_sl ([.int a, .int b])).length) Slot.unset).toArray = ls at hl ⊢
  have hl : lv_has ls 2 [(0, .int a), (1, .int b)] := hl
  refine lv_iload_n hx hb dX0_partOf_0 rfl (lv_at hl 0 rfl) ?_
  refine lv_iload_n hx hb dX0_partOf_1 rfl (lv_at hl 1 rfl) ?_
  refine lv_imul hx hb dX0_partOf_2 ?_
  refine lv_topi (fun yn1 eyn1 => ?_)
  refine lv_sipush (v := 1000) hx hb dX0_partOf_3 (by decide) ?_
  refine lv_idiv hx hb dX0_partOf_6 (by decide) ?_
  refine lv_topi (fun yn2 eyn2 => ?_)
  obtain ⟨hP9, hD9⟩ := PDq.sub (ws' := []) hP hD [] (by decide) rfl
  refine W.widen (k := 0) (n := 0) (Nat.le_of_ble_eq_true rfl) (Nat.le_of_ble_eq_true rfl) ?_
  exact (W.iret (v := yn2) hx hb hr (fun t ht hW => ⟨⟨yn2, (), rfl, trivial, by rw [ht]; exact hP9, hD9⟩, hS.F ht⟩) hS.2.2 dX0_partOf_7)

set_option maxHeartbeats 4000000 in
set_option maxRecDepth 100000 in
/-- makePayment -/
theorem s_makePayment (l : Launch) (D : va_G) (cA : Nat → ClassId) (sa : Nat → Nat) (a0 : Nat) (a1 : Nat) (a2 : Nat) (a3 : Nat) (a4 : Nat) (a5 : Nat) (a6 : Nat) (p0 : Nat) (i6 : Int32) (i7 : Int32) (i8 : Int32) (i12 : Int32) (i13 : Int32) (i14 : Int32) (i15 : Int32) (i16 : Int32) (i17 : Int32) (i18 : Int32) (i19 : Int32) (i9 : Int64) (i10 : Int64) (i11 : Int64) (nx : Nat) (kp : Nat) (fr : Nat → Int32) (p1 : Nat) (p2 : Nat) (p3 : Nat) (p4 : Nat) (p5 : Nat) (p6 : Nat) (p7 : Nat) (p8 : Nat) (p9 : Nat) (cn : Nat) (pq : Nat) (nd : Nat) (sc : Nat) (pr : Int32) (pb : Int32) (pe : Int32) (pg : Int32) (fs : Nat → Int32) (fp : Nat → Int32) (fam : Nat → Int32) (mi : Nat) (a : Int32) (sz : Nat) (hnx : nx < 60) (hkp : kp ≤ 60) (hmi : mi < 10) : Met l yX0_makePayment wsX0_makePayment ({ frames := 2, cells := 0, slots := 0, locals := 46 }) (va_Pc [.ref a0, .int (nI mi), .int a] (Wd D cA sa [(oX0 a0 p0 a1 a3 a4 a5 a6 i6 i7 i8 i9 i10 i11 i12 i13 i14 i15 i16 i17 i18 i19), (a1, .inr (6, [.ref a2, .int (nI nx), .int (nI kp)])), (a2, .inl (cA 0, 240, .inl fr)), (a3, .inl (cA 0, 10, .inl fs)), (a4, .inl (cA 0, 10, .inl fp)), (oX3 p0 pr pb pe pg p1 (nI nd) p2 p3 p4 p5 (nI cn) p6 (nI pq) p7 p8 p9 (nI sc)), (p3, .inl (cA 0, 10, .inl fam))] sz)) (va_Qi (fun (r : Int32) (_ : Unit) => True) (fun (_ : Unit) t => ∃ z6 : Int32, ∃ z7 : Int32, ∃ z8 : Int32, ∃ z12 : Int32, ∃ z13 : Int32, ∃ z14 : Int32, ∃ z15 : Int32, ∃ z16 : Int32, ∃ z17 : Int32, ∃ z18 : Int32, ∃ z19 : Int32, ∃ z9 : Int64, ∃ z10 : Int64, ∃ z11 : Int64, ∃ ny : Nat, ∃ ky : Nat, ∃ zr : Nat → Int32, ∃ zs : Nat → Int32, ∃ zp : Nat → Int32, ny < 60 ∧ ky ≤ 60 ∧ Wq D (va_A [(oX0 a0 p0 a1 a3 a4 a5 a6 i6 i7 i8 i9 i10 i11 i12 i13 i14 i15 i16 i17 i18 i19), (a1, .inr (6, [.ref a2, .int (nI nx), .int (nI kp)])), (a2, .inl (cA 0, 240, .inl fr)), (a3, .inl (cA 0, 10, .inl fs)), (a4, .inl (cA 0, 10, .inl fp)), (oX3 p0 pr pb pe pg p1 (nI nd) p2 p3 p4 p5 (nI cn) p6 (nI pq) p7 p8 p9 (nI sc)), (p3, .inl (cA 0, 10, .inl fam))] sz) [(oX0 a0 p0 a1 a3 a4 a5 a6 z6 z7 z8 z9 z10 z11 z12 z13 z14 z15 z16 z17 z18 z19), (a1, .inr (6, [.ref a2, .int (nI ny), .int (nI ky)])), (a2, .inl (cA 0, 240, .inl zr)), (a3, .inl (cA 0, 10, .inl zs)), (a4, .inl (cA 0, 10, .inl zp)), (oX3 p0 pr pb pe pg p1 (nI nd) p2 p3 p4 p5 (nI cn) p6 (nI pq) p7 p8 p9 (nI sc)), (p3, .inl (cA 0, 10, .inl fam))] t) (va_A [(oX0 a0 p0 a1 a3 a4 a5 a6 i6 i7 i8 i9 i10 i11 i12 i13 i14 i15 i16 i17 i18 i19), (a1, .inr (6, [.ref a2, .int (nI nx), .int (nI kp)])), (a2, .inl (cA 0, 240, .inl fr)), (a3, .inl (cA 0, 10, .inl fs)), (a4, .inl (cA 0, 10, .inl fp)), (oX3 p0 pr pb pe pg p1 (nI nd) p2 p3 p4 p5 (nI cn) p6 (nI pq) p7 p8 p9 (nI sc)), (p3, .inl (cA 0, 10, .inl fam))] sz)) 0 0 (va_A [(oX0 a0 p0 a1 a3 a4 a5 a6 i6 i7 i8 i9 i10 i11 i12 i13 i14 i15 i16 i17 i18 i19), (a1, .inr (6, [.ref a2, .int (nI nx), .int (nI kp)])), (a2, .inl (cA 0, 240, .inl fr)), (a3, .inl (cA 0, 10, .inl fs)), (a4, .inl (cA 0, 10, .inl fp)), (oX3 p0 pr pb pe pg p1 (nI nd) p2 p3 p4 p5 (nI cn) p6 (nI pq) p7 p8 p9 (nI sc)), (p3, .inl (cA 0, 10, .inl fam))] sz) := by
  refine Met.ofW (cc := cX0_makePayment) (maxL := 4) (ret := (some .int)) (by decide) rfl ?_
  intro p e s m args below meth c s₁ B hml hv
  obtain ⟨rfl, hsz, hP, hK, hD0, hC, hZ⟩ := hv
  have hx := B.exec
  have hb := B.bytes
  have hr := B.returns
  have hts := atoms_spec (ws := wsX0_makePayment) B.pre
  have hown : s.vm.findClass RX0 = some m.cls := findClass_of_methodNamed B.named
  have hlocks := B.notSynchronized
  subst hsz
  have hD := hD0.self (sz := s.heap.size)
  generalize hAe : va_A [(oX0 a0 p0 a1 a3 a4 a5 a6 i6 i7 i8 i9 i10 i11 i12 i13 i14 i15 i16 i17 i18 i19), (a1, .inr (6, [.ref a2, .int (nI nx), .int (nI kp)])), (a2, .inl (cA 0, 240, .inl fr)), (a3, .inl (cA 0, 10, .inl fs)), (a4, .inl (cA 0, 10, .inl fp)), (oX3 p0 pr pb pe pg p1 (nI nd) p2 p3 p4 p5 (nI cn) p6 (nI pq) p7 p8 p9 (nI sc)), (p3, .inl (cA 0, 10, .inl fam))] s.heap.size = A at hD hZ ⊢
  have hA : ∀ q : Nat, s.heap.size ≤ q → A q := fun q h => by rw [← hAe]; exact Or.inr h
  have hS : va_S A s.heap s.heap [] := va_S.rf
  have hP : va_P D vwCl [(oX0 a0 p0 a1 a3 a4 a5 a6 i6 i7 i8 i9 i10 i11 i12 i13 i14 i15 i16 i17 i18 i19), (a1, .inr (6, [.ref a2, .int (nI nx), .int (nI kp)])), (a2, .inl (cA 0, 240, .inl fr)), (a3, .inl (cA 0, 10, .inl fs)), (a4, .inl (cA 0, 10, .inl fp)), (oX3 p0 pr pb pe pg p1 (nI nd) p2 p3 p4 p5 (nI cn) p6 (nI pq) p7 p8 p9 (nI sc)), (p3, .inl (cA 0, 10, .inl fam))] s.heap := hP
  have hl := lv_entry ([.ref a0, .int (nI mi), .int a]) (n := 4) (Nat.le_of_ble_eq_true rfl)
  rw [lg_entry_eq]
  generalize (lg_sl ([.ref a0, .int (nI mi), .int a]) ++ List.replicate (4 - (lg_sl ([.ref a0, .int (nI mi), .int a])).length) Slot.unset).toArray = ls at hl ⊢
  have hl : lv_has ls 4 [(0, .ref a0), (1, .int (nI mi)), (2, .int a)] := hl
  have inX0 : ∀ w ∈ u_ws RX0 TX0 20, w ∈ wsX0_makePayment := by decide +kernel
  refine lv_aload_n hx hb dX0_makePayment_0 rfl (lv_at hl 0 rfl) ?_
  refine va_get (D := D) (ci := 4) (v := .ref p0) (C := RX0) (T := TX0) (N := 20) hx hb hts inX0 hown hK hP 0 rfl rfl 0 (by decide) (hts (.fieldLink RX0 31 "EscrowDesk$Account" "plan" "LEscrowDesk$Plan;") (by decide +kernel)) (fun _ h9 => h9) rfl dX0_makePayment_1 ?_
  refine lv_iload_n hx hb dX0_makePayment_4 rfl (lv_at hl 2 rfl) ?_
  obtain ⟨hPc, hDc, hFc⟩ := PDq.cut (wc := [(oX3 p0 pr pb pe pg p1 (nI nd) p2 p3 p4 p5 (nI cn) p6 (nI pq) p7 p8 p9 (nI sc))]) hP hD hS hA [5] (by decide) rfl
  refine va_calli (va_runV (As := [.int a]) (rest := []) ⟨hx, hb, hml, hown, hts⟩ (s_feeOf l D cA sa p0 p1 p2 p3 p4 p5 p6 p7 p8 p9 cn pq nd sc pr pb pe pg a s.heap.size) (cwV 1 hts gX0_makePayment_X3_feeOf rfl rfl rfl (by decide +kernel) ⟨(Nat.le_of_ble_eq_true rfl), (Nat.le_of_ble_eq_true rfl)⟩) ⟨Wd.blind, va_recv hK hPc (ci := 7) (q0 := 0) rfl rfl, fun U hU hW => ⟨rfl, Wd.call hPc hDc hK hC hZ hS hFc U hU hW⟩⟩ rfl rfl hl.1 rfl (lv_room (Nat.le_of_ble_eq_true rfl)) dX0_makePayment_5 ⟨(Nat.le_of_ble_eq_true rfl), (Nat.le_of_ble_eq_true rfl)⟩) hS (fun q _ h => hFc q h) hFc (fun rn1 u t H1 locs ht hvm hw hB hz1 hk1 hS => ?_)
  obtain ⟨hP1, hD1⟩ := hB
  rw [ht] at hP1
  obtain ⟨hP, hD⟩ := PDq.join (w := [(oX0 a0 p0 a1 a3 a4 a5 a6 i6 i7 i8 i9 i10 i11 i12 i13 i14 i15 i16 i17 i18 i19), (a1, .inr (6, [.ref a2, .int (nI nx), .int (nI kp)])), (a2, .inl (cA 0, 240, .inl fr)), (a3, .inl (cA 0, 10, .inl fs)), (a4, .inl (cA 0, 10, .inl fp)), (p3, .inl (cA 0, 10, .inl fam)), (oX3 p0 pr pb pe pg p1 (nI nd) p2 p3 p4 p5 (nI cn) p6 (nI pq) p7 p8 p9 (nI sc))]) 6 hP hD [5] [0, 1, 2, 3, 4, 6] rfl rfl (by decide) (by decide) hk1 hFc hP1 hD1 rfl
  generalize H1 = H at hP hS ⊢
  refine lv_istore_n (lv' := [(3, .int rn1), (0, .ref a0), (1, .int (nI mi)), (2, .int a)]) hx hb dX0_makePayment_8 rfl hl (by decide) rfl (fun ls hl => ?_)
  refine lv_aload_n hx hb dX0_makePayment_9 rfl (lv_at hl 1 rfl) ?_
  refine lv_dup hx hb dX0_makePayment_10 rfl ?_
  refine va_get (D := D) (ci := 4) (v := .int i8) (C := RX0) (T := TX0) (N := 20) hx hb hts inX0 hown hK hP 0 rfl rfl 8 (by decide) (hts (.fieldLink RX0 47 "EscrowDesk$Account" "principal" "I") (by decide +kernel)) (fun _ h9 => h9) rfl dX0_makePayment_11 ?_
  refine lv_iload_n hx hb dX0_makePayment_14 rfl (lv_at hl 3 rfl) ?_
  refine lv_isub hx hb dX0_makePayment_15 ?_
  refine lv_topi (fun yn2 eyn2 => ?_)
  refine va_put (D := D) (ci := 4) (v := .int yn2) (ty := .int) (C := RX0) (T := TX0) (N := 20) hx hb hts inX0 tyX0 tyX0_ok nmX0 hown hK hP hD hS 0 rfl rfl 8 (by decide) (hts (.fieldLink RX0 47 "EscrowDesk$Account" "principal" "I") (by decide +kernel)) (fun _ h9 => h9) rfl (by decide +kernel) rfl rfl (Nat.le_of_ble_eq_true rfl) dX0_makePayment_16 (fun H locs hP hD hS => ?_)
  obtain ⟨hP, hD⟩ : PDq D A [(oX0 a0 p0 a1 a3 a4 a5 a6 i6 i7 yn2 i9 i10 i11 i12 i13 i14 i15 i16 i17 i18 i19), (a1, .inr (6, [.ref a2, .int (nI nx), .int (nI kp)])), (a2, .inl (cA 0, 240, .inl fr)), (a3, .inl (cA 0, 10, .inl fs)), (a4, .inl (cA 0, 10, .inl fp)), (p3, .inl (cA 0, 10, .inl fam)), (oX3 p0 pr pb pe pg p1 (nI nd) p2 p3 p4 p5 (nI cn) p6 (nI pq) p7 p8 p9 (nI sc))] H := ⟨hP, hD⟩
  refine lv_aload_n hx hb dX0_makePayment_19 rfl (lv_at hl 1 rfl) ?_
  refine va_get (D := D) (ci := 4) (v := .ref a4) (C := RX0) (T := TX0) (N := 20) hx hb hts inX0 hown hK hP 0 rfl rfl 3 (by decide) (hts (.fieldLink RX0 22 "EscrowDesk$Account" "paid" "[I") (by decide +kernel)) (fun _ h9 => h9) rfl dX0_makePayment_20 ?_
  refine lv_iload_n hx hb dX0_makePayment_23 rfl (lv_at hl 2 rfl) ?_
  refine lv_dup2_11 hx hb dX0_makePayment_24 rfl rfl ?_
  refine va_iald hx hb hK hP 4 0 rfl rfl (vp_in_nI (n := mi) (N := 10) (show mi < 10 by omega) (by decide)) dX0_makePayment_25 ?_
  refine lv_topi (fun yn3 eyn3 => ?_)
  refine lv_iload_n hx hb dX0_makePayment_26 rfl (lv_at hl 3 rfl) ?_
  refine lv_iadd hx hb dX0_makePayment_27 ?_
  refine lv_topi (fun yn4 eyn4 => ?_)
  refine va_iast hx hb hK hP hD hS 4 0 rfl rfl (vp_in_nI (n := mi) (N := 10) (show mi < 10 by omega) (by decide)) dX0_makePayment_28 (fun H locs hP hD hS => ?_)
  obtain ⟨hP, hD⟩ : PDq D A [(oX0 a0 p0 a1 a3 a4 a5 a6 i6 i7 yn2 i9 i10 i11 i12 i13 i14 i15 i16 i17 i18 i19), (a1, .inr (6, [.ref a2, .int (nI nx), .int (nI kp)])), (a2, .inl (cA 0, 240, .inl fr)), (a3, .inl (cA 0, 10, .inl fs)), (a4, .inl (cA 0, 10, .inl (upd fp (((nI mi)).toNatClampNeg) yn4))), (p3, .inl (cA 0, 10, .inl fam)), (oX3 p0 pr pb pe pg p1 (nI nd) p2 p3 p4 p5 (nI cn) p6 (nI pq) p7 p8 p9 (nI sc))] H := ⟨hP, hD⟩
  generalize (upd fp (((nI mi)).toNatClampNeg) yn4) = fn5 at hP hD
  obtain ⟨hP, hD⟩ : PDq D A [(oX0 a0 p0 a1 a3 a4 a5 a6 i6 i7 yn2 i9 i10 i11 i12 i13 i14 i15 i16 i17 i18 i19), (a1, .inr (6, [.ref a2, .int (nI nx), .int (nI kp)])), (a2, .inl (cA 0, 240, .inl fr)), (a3, .inl (cA 0, 10, .inl fs)), (a4, .inl (cA 0, 10, .inl fn5)), (p3, .inl (cA 0, 10, .inl fam)), (oX3 p0 pr pb pe pg p1 (nI nd) p2 p3 p4 p5 (nI cn) p6 (nI pq) p7 p8 p9 (nI sc))] H := ⟨hP, hD⟩
  refine lv_aload_n hx hb dX0_makePayment_29 rfl (lv_at hl 1 rfl) ?_
  refine lv_dup hx hb dX0_makePayment_30 rfl ?_
  refine va_get (D := D) (ci := 4) (v := .int i13) (C := RX0) (T := TX0) (N := 20) hx hb hts inX0 hown hK hP 0 rfl rfl 13 (by decide) (hts (.fieldLink RX0 63 "EscrowDesk$Account" "fees" "I") (by decide +kernel)) (fun _ h9 => h9) rfl dX0_makePayment_31 ?_
  refine lv_iload_n hx hb dX0_makePayment_34 rfl (lv_at hl 0 rfl) ?_
  refine lv_iadd hx hb dX0_makePayment_35 ?_
  refine lv_topi (fun yn6 eyn6 => ?_)
  refine va_put (D := D) (ci := 4) (v := .int yn6) (ty := .int) (C := RX0) (T := TX0) (N := 20) hx hb hts inX0 tyX0 tyX0_ok nmX0 hown hK hP hD hS 0 rfl rfl 13 (by decide) (hts (.fieldLink RX0 63 "EscrowDesk$Account" "fees" "I") (by decide +kernel)) (fun _ h9 => h9) rfl (by decide +kernel) rfl rfl (Nat.le_of_ble_eq_true rfl) dX0_makePayment_36 (fun H locs hP hD hS => ?_)
  obtain ⟨hP, hD⟩ : PDq D A [(oX0 a0 p0 a1 a3 a4 a5 a6 i6 i7 yn2 i9 i10 i11 i12 yn6 i14 i15 i16 i17 i18 i19), (a1, .inr (6, [.ref a2, .int (nI nx), .int (nI kp)])), (a2, .inl (cA 0, 240, .inl fr)), (a3, .inl (cA 0, 10, .inl fs)), (a4, .inl (cA 0, 10, .inl fn5)), (p3, .inl (cA 0, 10, .inl fam)), (oX3 p0 pr pb pe pg p1 (nI nd) p2 p3 p4 p5 (nI cn) p6 (nI pq) p7 p8 p9 (nI sc))] H := ⟨hP, hD⟩
  refine lv_aload_n hx hb dX0_makePayment_39 rfl (lv_at hl 1 rfl) ?_
  refine lv_dup hx hb dX0_makePayment_40 rfl ?_
  refine va_get (D := D) (ci := 4) (v := .int i12) (C := RX0) (T := TX0) (N := 20) hx hb hts inX0 hown hK hP 0 rfl rfl 12 (by decide) (hts (.fieldLink RX0 60 "EscrowDesk$Account" "received" "I") (by decide +kernel)) (fun _ h9 => h9) rfl dX0_makePayment_41 ?_
  refine lv_iload_n hx hb dX0_makePayment_44 rfl (lv_at hl 3 rfl) ?_
  refine lv_iload_n hx hb dX0_makePayment_45 rfl (lv_at hl 0 rfl) ?_
  refine lv_isub hx hb dX0_makePayment_46 ?_
  refine lv_topi (fun yn7 eyn7 => ?_)
  refine lv_iadd hx hb dX0_makePayment_47 ?_
  refine lv_topi (fun yn8 eyn8 => ?_)
  refine va_put (D := D) (ci := 4) (v := .int yn8) (ty := .int) (C := RX0) (T := TX0) (N := 20) hx hb hts inX0 tyX0 tyX0_ok nmX0 hown hK hP hD hS 0 rfl rfl 12 (by decide) (hts (.fieldLink RX0 60 "EscrowDesk$Account" "received" "I") (by decide +kernel)) (fun _ h9 => h9) rfl (by decide +kernel) rfl rfl (Nat.le_of_ble_eq_true rfl) dX0_makePayment_48 (fun H locs hP hD hS => ?_)
  obtain ⟨hP, hD⟩ : PDq D A [(oX0 a0 p0 a1 a3 a4 a5 a6 i6 i7 yn2 i9 i10 i11 yn8 yn6 i14 i15 i16 i17 i18 i19), (a1, .inr (6, [.ref a2, .int (nI nx), .int (nI kp)])), (a2, .inl (cA 0, 240, .inl fr)), (a3, .inl (cA 0, 10, .inl fs)), (a4, .inl (cA 0, 10, .inl fn5)), (p3, .inl (cA 0, 10, .inl fam)), (oX3 p0 pr pb pe pg p1 (nI nd) p2 p3 p4 p5 (nI cn) p6 (nI pq) p7 p8 p9 (nI sc))] H := ⟨hP, hD⟩
  refine lv_aload_n hx hb dX0_makePayment_51 rfl (lv_at hl 1 rfl) ?_
  refine va_get (D := D) (ci := 4) (v := .ref a1) (C := RX0) (T := TX0) (N := 20) hx hb hts inX0 hown hK hP 0 rfl rfl 1 (by decide) (hts (.fieldLink RX0 12 "EscrowDesk$Account" "ledger" "LEscrowDesk$Ledger;") (by decide +kernel)) (fun _ h9 => h9) rfl dX0_makePayment_52 ?_
  refine lv_iconst (v := 1) hx hb dX0_makePayment_55 (by decide) ?_
  refine lv_aload_n hx hb dX0_makePayment_56 rfl (lv_at hl 1 rfl) ?_
  refine va_get (D := D) (ci := 4) (v := .int i6) (C := RX0) (T := TX0) (N := 20) hx hb hts inX0 hown hK hP 0 rfl rfl 6 (by decide) (hts (.fieldLink RX0 40 "EscrowDesk$Account" "day" "I") (by decide +kernel)) (fun _ h9 => h9) rfl dX0_makePayment_57 ?_
  refine lv_iload_n hx hb dX0_makePayment_60 rfl (lv_at hl 3 rfl) ?_
  refine lv_iload_n hx hb dX0_makePayment_61 rfl (lv_at hl 2 rfl) ?_
  obtain ⟨hPc, hDc, hFc⟩ := PDq.cut (wc := [(a1, .inr (6, [.ref a2, .int (nI nx), .int (nI kp)])), (a2, .inl (cA 0, 240, .inl fr))]) hP hD hS hA [1, 2] (by decide) rfl
  refine va_callv (va_runV (As := [.int 1, .int i6, .int a, .int (nI mi)]) (rest := []) ⟨hx, hb, hml, hown, hts⟩ (s_enter l D cA sa a1 a2 nx kp 1 i6 a (nI mi) fr H.size hnx hkp) (cwV 4 hts gX0_makePayment_X2_enter rfl rfl rfl (by decide +kernel) ⟨(Nat.le_of_ble_eq_true rfl), (Nat.le_of_ble_eq_true rfl)⟩) ⟨Wd.blind, va_recv hK hPc (ci := 6) (q0 := 0) rfl rfl, fun U hU hW => ⟨rfl, Wd.call hPc hDc hK hC hZ hS hFc U hU hW⟩⟩ rfl rfl hl.1 rfl (lv_room (Nat.le_of_ble_eq_true rfl)) dX0_makePayment_62 ⟨(Nat.le_of_ble_eq_true rfl), (Nat.le_of_ble_eq_true rfl)⟩) hS (fun q _ h => hFc q h) hFc (fun u t H1 locs ht hvm hw hB hz1 hk1 hS => ?_)
  obtain ⟨qn9, qn10, fn11, hn12, hn13, hP1, hD1⟩ := hB
  rw [ht] at hP1
  obtain ⟨hP, hD⟩ := PDq.join (w := [(oX0 a0 p0 a1 a3 a4 a5 a6 i6 i7 yn2 i9 i10 i11 yn8 yn6 i14 i15 i16 i17 i18 i19), (a3, .inl (cA 0, 10, .inl fs)), (a4, .inl (cA 0, 10, .inl fn5)), (p3, .inl (cA 0, 10, .inl fam)), (oX3 p0 pr pb pe pg p1 (nI nd) p2 p3 p4 p5 (nI cn) p6 (nI pq) p7 p8 p9 (nI sc)), (a1, .inr (6, [.ref a2, .int (nI qn9), .int (nI qn10)])), (a2, .inl (cA 0, 240, .inl fn11))]) 5 hP hD [1, 2] [0, 3, 4, 5, 6] rfl rfl (by decide) (by decide) hk1 hFc hP1 hD1 rfl
  generalize H1 = H at hP hS ⊢
  refine lv_aload_n hx hb dX0_makePayment_65 rfl (lv_at hl 1 rfl) ?_
  refine lv_iload_n hx hb dX0_makePayment_66 rfl (lv_at hl 2 rfl) ?_
  obtain ⟨hPc, hDc, hFc⟩ := PDq.cut (wc := [(oX0 a0 p0 a1 a3 a4 a5 a6 i6 i7 yn2 i9 i10 i11 yn8 yn6 i14 i15 i16 i17 i18 i19), (a3, .inl (cA 0, 10, .inl fs))]) hP hD hS hA [0, 1] (by decide) rfl
  refine va_calli (va_runV (As := [.int (nI mi)]) (rest := []) ⟨hx, hb, hml, hown, hts⟩ (s_isClosed l D cA sa a0 a1 a3 a4 a5 a6 p0 i6 i7 yn2 yn8 yn6 i14 i15 i16 i17 i18 i19 i9 i10 i11 mi fs H.size hmi) (cwV 1 hts gX0_makePayment_X0_isClosed rfl rfl rfl (by decide +kernel) ⟨(Nat.le_of_ble_eq_true rfl), (Nat.le_of_ble_eq_true rfl)⟩) ⟨Wd.blind, va_recv hK hPc (ci := 4) (q0 := 0) rfl rfl, fun U hU hW => ⟨rfl, Wd.call hPc hDc hK hC hZ hS hFc U hU hW⟩⟩ rfl rfl hl.1 rfl (lv_room (Nat.le_of_ble_eq_true rfl)) dX0_makePayment_67 ⟨(Nat.le_of_ble_eq_true rfl), (Nat.le_of_ble_eq_true rfl)⟩) hS (fun q _ h => hFc q h) hFc (fun rn14 u t H1 locs ht hvm hw hB hz1 hk1 hS => ?_)
  obtain ⟨hP1, hD1⟩ := hB
  rw [ht] at hP1
  obtain ⟨hP, hD⟩ := PDq.join (w := [(a4, .inl (cA 0, 10, .inl fn5)), (p3, .inl (cA 0, 10, .inl fam)), (oX3 p0 pr pb pe pg p1 (nI nd) p2 p3 p4 p5 (nI cn) p6 (nI pq) p7 p8 p9 (nI sc)), (a1, .inr (6, [.ref a2, .int (nI qn9), .int (nI qn10)])), (a2, .inl (cA 0, 240, .inl fn11)), (oX0 a0 p0 a1 a3 a4 a5 a6 i6 i7 yn2 i9 i10 i11 yn8 yn6 i14 i15 i16 i17 i18 i19), (a3, .inl (cA 0, 10, .inl fs))]) 5 hP hD [0, 1] [2, 3, 4, 5, 6] rfl rfl (by decide) (by decide) hk1 hFc hP1 hD1 rfl
  generalize H1 = H at hP hS ⊢
  have hn15 := hw
  refine lv_if_ne (tgt := 88) hx hb dX0_makePayment_70 (by decide) (fun c16 => ?_) (fun c16 => ?_)
  · skip
    refine lv_iload_n hx hb dX0_makePayment_88 rfl (lv_at hl 0 rfl) ?_
    obtain ⟨hP9, hD9⟩ := PDq.sub (ws' := [(oX0 a0 p0 a1 a3 a4 a5 a6 i6 i7 yn2 i9 i10 i11 yn8 yn6 i14 i15 i16 i17 i18 i19), (a1, .inr (6, [.ref a2, .int (nI qn9), .int (nI qn10)])), (a2, .inl (cA 0, 240, .inl fn11)), (a3, .inl (cA 0, 10, .inl fs)), (a4, .inl (cA 0, 10, .inl fn5)), (oX3 p0 pr pb pe pg p1 (nI nd) p2 p3 p4 p5 (nI cn) p6 (nI pq) p7 p8 p9 (nI sc)), (p3, .inl (cA 0, 10, .inl fam))]) hP hD [5, 3, 4, 6, 0, 2, 1] (by decide) rfl
    refine W.widen (k := 0) (n := 0) (Nat.le_of_ble_eq_true rfl) (Nat.le_of_ble_eq_true rfl) ?_
    exact (W.iret (v := rn1) hx hb hr (fun t ht hW => ⟨⟨rn1, (), rfl, trivial, i6, i7, yn2, yn8, yn6, i14, i15, i16, i17, i18, i19, i9, i10, i11, qn9, qn10, fn11, fs, fn5, hn12, hn13, by rw [ht]; exact hP9, hD9⟩, hS.F ht⟩) hS.2.2 dX0_makePayment_89)
  · skip
    refine lv_aload_n hx hb dX0_makePayment_73 rfl (lv_at hl 1 rfl) ?_
    refine lv_iload_n hx hb dX0_makePayment_74 rfl (lv_at hl 2 rfl) ?_
    obtain ⟨hPc, hDc, hFc⟩ := PDq.cut (wc := [(oX0 a0 p0 a1 a3 a4 a5 a6 i6 i7 yn2 i9 i10 i11 yn8 yn6 i14 i15 i16 i17 i18 i19), (oX3 p0 pr pb pe pg p1 (nI nd) p2 p3 p4 p5 (nI cn) p6 (nI pq) p7 p8 p9 (nI sc)), (a3, .inl (cA 0, 10, .inl fs)), (a4, .inl (cA 0, 10, .inl fn5)), (p3, .inl (cA 0, 10, .inl fam))]) hP hD hS hA [5, 2, 6, 0, 1] (by decide) rfl
    refine va_calli (va_runV (As := [.int (nI mi)]) (rest := []) ⟨hx, hb, hml, hown, hts⟩ (s_remainingOf l D cA sa a0 a1 a3 a4 a5 a6 p0 i6 i7 yn2 yn8 yn6 i14 i15 i16 i17 i18 i19 i9 i10 i11 p1 p2 p3 p4 p5 p6 p7 p8 p9 cn pq nd sc pr pb pe pg mi fs fn5 fam H.size hmi) (cwV 1 hts gX0_makePayment_X0_remainingOf rfl rfl rfl (by decide +kernel) ⟨(Nat.le_of_ble_eq_true rfl), (Nat.le_of_ble_eq_true rfl)⟩) ⟨Wd.blind, va_recv hK hPc (ci := 4) (q0 := 0) rfl rfl, fun U hU hW => ⟨rfl, Wd.call hPc hDc hK hC hZ hS hFc U hU hW⟩⟩ rfl rfl hl.1 rfl (lv_room (Nat.le_of_ble_eq_true rfl)) dX0_makePayment_75 ⟨(Nat.le_of_ble_eq_true rfl), (Nat.le_of_ble_eq_true rfl)⟩) hS (fun q _ h => hFc q h) hFc (fun rn17 u t H1 locs ht hvm hw hB hz1 hk1 hS => ?_)
    obtain ⟨hP1, hD1⟩ := hB
    rw [ht] at hP1
    obtain ⟨hP, hD⟩ := PDq.join (w := [(a1, .inr (6, [.ref a2, .int (nI qn9), .int (nI qn10)])), (a2, .inl (cA 0, 240, .inl fn11)), (oX0 a0 p0 a1 a3 a4 a5 a6 i6 i7 yn2 i9 i10 i11 yn8 yn6 i14 i15 i16 i17 i18 i19), (oX3 p0 pr pb pe pg p1 (nI nd) p2 p3 p4 p5 (nI cn) p6 (nI pq) p7 p8 p9 (nI sc)), (a3, .inl (cA 0, 10, .inl fs)), (a4, .inl (cA 0, 10, .inl fn5)), (p3, .inl (cA 0, 10, .inl fam))]) 2 hP hD [5, 2, 6, 0, 1] [3, 4] rfl rfl (by decide) (by decide) hk1 hFc hP1 hD1 rfl
    generalize H1 = H at hP hS ⊢
    refine lv_if_ne (tgt := 88) hx hb dX0_makePayment_78 (by decide) (fun c18 => ?_) (fun c18 => ?_)
    · skip
      refine lv_iload_n hx hb dX0_makePayment_88 rfl (lv_at hl 0 rfl) ?_
      obtain ⟨hP9, hD9⟩ := PDq.sub (ws' := [(oX0 a0 p0 a1 a3 a4 a5 a6 i6 i7 yn2 i9 i10 i11 yn8 yn6 i14 i15 i16 i17 i18 i19), (a1, .inr (6, [.ref a2, .int (nI qn9), .int (nI qn10)])), (a2, .inl (cA 0, 240, .inl fn11)), (a3, .inl (cA 0, 10, .inl fs)), (a4, .inl (cA 0, 10, .inl fn5)), (oX3 p0 pr pb pe pg p1 (nI nd) p2 p3 p4 p5 (nI cn) p6 (nI pq) p7 p8 p9 (nI sc)), (p3, .inl (cA 0, 10, .inl fam))]) hP hD [2, 0, 1, 4, 5, 3, 6] (by decide) rfl
      refine W.widen (k := 0) (n := 0) (Nat.le_of_ble_eq_true rfl) (Nat.le_of_ble_eq_true rfl) ?_
      exact (W.iret (v := rn1) hx hb hr (fun t ht hW => ⟨⟨rn1, (), rfl, trivial, i6, i7, yn2, yn8, yn6, i14, i15, i16, i17, i18, i19, i9, i10, i11, qn9, qn10, fn11, fs, fn5, hn12, hn13, by rw [ht]; exact hP9, hD9⟩, hS.F ht⟩) hS.2.2 dX0_makePayment_89)
    · skip
      refine lv_aload_n hx hb dX0_makePayment_81 rfl (lv_at hl 1 rfl) ?_
      refine va_get (D := D) (ci := 4) (v := .ref a3) (C := RX0) (T := TX0) (N := 20) hx hb hts inX0 hown hK hP 2 rfl rfl 2 (by decide) (hts (.fieldLink RX0 18 "EscrowDesk$Account" "state" "[I") (by decide +kernel)) (fun _ h9 => h9) rfl dX0_makePayment_82 ?_
      refine lv_iload_n hx hb dX0_makePayment_85 rfl (lv_at hl 2 rfl) ?_
      refine lv_iconst (v := 3) hx hb dX0_makePayment_86 (by decide) ?_
      refine va_iast hx hb hK hP hD hS 4 0 rfl rfl (vp_in_nI (n := mi) (N := 10) (show mi < 10 by omega) (by decide)) dX0_makePayment_87 (fun H locs hP hD hS => ?_)
      obtain ⟨hP, hD⟩ : PDq D A [(a1, .inr (6, [.ref a2, .int (nI qn9), .int (nI qn10)])), (a2, .inl (cA 0, 240, .inl fn11)), (oX0 a0 p0 a1 a3 a4 a5 a6 i6 i7 yn2 i9 i10 i11 yn8 yn6 i14 i15 i16 i17 i18 i19), (oX3 p0 pr pb pe pg p1 (nI nd) p2 p3 p4 p5 (nI cn) p6 (nI pq) p7 p8 p9 (nI sc)), (a3, .inl (cA 0, 10, .inl (upd fs (((nI mi)).toNatClampNeg) 3))), (a4, .inl (cA 0, 10, .inl fn5)), (p3, .inl (cA 0, 10, .inl fam))] H := ⟨hP, hD⟩
      generalize (upd fs (((nI mi)).toNatClampNeg) 3) = fn19 at hP hD
      obtain ⟨hP, hD⟩ : PDq D A [(a1, .inr (6, [.ref a2, .int (nI qn9), .int (nI qn10)])), (a2, .inl (cA 0, 240, .inl fn11)), (oX0 a0 p0 a1 a3 a4 a5 a6 i6 i7 yn2 i9 i10 i11 yn8 yn6 i14 i15 i16 i17 i18 i19), (oX3 p0 pr pb pe pg p1 (nI nd) p2 p3 p4 p5 (nI cn) p6 (nI pq) p7 p8 p9 (nI sc)), (a3, .inl (cA 0, 10, .inl fn19)), (a4, .inl (cA 0, 10, .inl fn5)), (p3, .inl (cA 0, 10, .inl fam))] H := ⟨hP, hD⟩
      refine lv_iload_n hx hb dX0_makePayment_88 rfl (lv_at hl 0 rfl) ?_
      obtain ⟨hP9, hD9⟩ := PDq.sub (ws' := [(oX0 a0 p0 a1 a3 a4 a5 a6 i6 i7 yn2 i9 i10 i11 yn8 yn6 i14 i15 i16 i17 i18 i19), (a1, .inr (6, [.ref a2, .int (nI qn9), .int (nI qn10)])), (a2, .inl (cA 0, 240, .inl fn11)), (a3, .inl (cA 0, 10, .inl fn19)), (a4, .inl (cA 0, 10, .inl fn5)), (oX3 p0 pr pb pe pg p1 (nI nd) p2 p3 p4 p5 (nI cn) p6 (nI pq) p7 p8 p9 (nI sc)), (p3, .inl (cA 0, 10, .inl fam))]) hP hD [2, 0, 1, 4, 5, 3, 6] (by decide) rfl
      refine W.widen (k := 0) (n := 0) (Nat.le_of_ble_eq_true rfl) (Nat.le_of_ble_eq_true rfl) ?_
      exact (W.iret (v := rn1) hx hb hr (fun t ht hW => ⟨⟨rn1, (), rfl, trivial, i6, i7, yn2, yn8, yn6, i14, i15, i16, i17, i18, i19, i9, i10, i11, qn9, qn10, fn11, fn19, fn5, hn12, hn13, by rw [ht]; exact hP9, hD9⟩, hS.F ht⟩) hS.2.2 dX0_makePayment_89)

set_option maxHeartbeats 4000000 in
set_option maxRecDepth 100000 in
/-- creditInterest -/
theorem s_creditInterest (l : Launch) (D : va_G) (cA : Nat → ClassId) (sa : Nat → Nat) (a0 : Nat) (a1 : Nat) (a2 : Nat) (a3 : Nat) (a4 : Nat) (a5 : Nat) (a6 : Nat) (p0 : Nat) (i6 : Int32) (i7 : Int32) (i8 : Int32) (i12 : Int32) (i13 : Int32) (i14 : Int32) (i15 : Int32) (i16 : Int32) (i17 : Int32) (i18 : Int32) (i19 : Int32) (i9 : Int64) (i10 : Int64) (i11 : Int64) (nx : Nat) (kp : Nat) (fr : Nat → Int32) (sz : Nat) (hnx : nx < 60) (hkp : kp ≤ 60) : Met l yX0_creditInterest wsX0_creditInterest ({ frames := 2, cells := 0, slots := 0, locals := 46 }) (va_Pc [.ref a0] (Wd D cA sa [(oX0 a0 p0 a1 a3 a4 a5 a6 i6 i7 i8 i9 i10 i11 i12 i13 i14 i15 i16 i17 i18 i19), (a1, .inr (6, [.ref a2, .int (nI nx), .int (nI kp)])), (a2, .inl (cA 0, 240, .inl fr))] sz)) (va_Qv (fun _ : Unit => True) (fun (_ : Unit) t => ∃ z6 : Int32, ∃ z7 : Int32, ∃ z8 : Int32, ∃ z12 : Int32, ∃ z13 : Int32, ∃ z14 : Int32, ∃ z15 : Int32, ∃ z16 : Int32, ∃ z17 : Int32, ∃ z18 : Int32, ∃ z19 : Int32, ∃ z9 : Int64, ∃ z10 : Int64, ∃ z11 : Int64, ∃ ny : Nat, ∃ ky : Nat, ∃ zr : Nat → Int32, ny < 60 ∧ ky ≤ 60 ∧ Wq D (va_A [(oX0 a0 p0 a1 a3 a4 a5 a6 i6 i7 i8 i9 i10 i11 i12 i13 i14 i15 i16 i17 i18 i19), (a1, .inr (6, [.ref a2, .int (nI nx), .int (nI kp)])), (a2, .inl (cA 0, 240, .inl fr))] sz) [(oX0 a0 p0 a1 a3 a4 a5 a6 z6 z7 z8 z9 z10 z11 z12 z13 z14 z15 z16 z17 z18 z19), (a1, .inr (6, [.ref a2, .int (nI ny), .int (nI ky)])), (a2, .inl (cA 0, 240, .inl zr))] t) (va_A [(oX0 a0 p0 a1 a3 a4 a5 a6 i6 i7 i8 i9 i10 i11 i12 i13 i14 i15 i16 i17 i18 i19), (a1, .inr (6, [.ref a2, .int (nI nx), .int (nI kp)])), (a2, .inl (cA 0, 240, .inl fr))] sz)) 0 0 (va_A [(oX0 a0 p0 a1 a3 a4 a5 a6 i6 i7 i8 i9 i10 i11 i12 i13 i14 i15 i16 i17 i18 i19), (a1, .inr (6, [.ref a2, .int (nI nx), .int (nI kp)])), (a2, .inl (cA 0, 240, .inl fr))] sz) := by
  refine Met.ofW (cc := cX0_creditInterest) (maxL := 5) (ret := none) (by decide) rfl ?_
  intro p e s m args below meth c s₁ B hml hv
  obtain ⟨rfl, hsz, hP, hK, hD0, hC, hZ⟩ := hv
  have hx := B.exec
  have hb := B.bytes
  have hr := B.returns
  have hts := atoms_spec (ws := wsX0_creditInterest) B.pre
  have hown : s.vm.findClass RX0 = some m.cls := findClass_of_methodNamed B.named
  have hlocks := B.notSynchronized
  subst hsz
  have hD := hD0.self (sz := s.heap.size)
  generalize hAe : va_A [(oX0 a0 p0 a1 a3 a4 a5 a6 i6 i7 i8 i9 i10 i11 i12 i13 i14 i15 i16 i17 i18 i19), (a1, .inr (6, [.ref a2, .int (nI nx), .int (nI kp)])), (a2, .inl (cA 0, 240, .inl fr))] s.heap.size = A at hD hZ ⊢
  have hA : ∀ q : Nat, s.heap.size ≤ q → A q := fun q h => by rw [← hAe]; exact Or.inr h
  have hS : va_S A s.heap s.heap [] := va_S.rf
  have hP : va_P D vwCl [(oX0 a0 p0 a1 a3 a4 a5 a6 i6 i7 i8 i9 i10 i11 i12 i13 i14 i15 i16 i17 i18 i19), (a1, .inr (6, [.ref a2, .int (nI nx), .int (nI kp)])), (a2, .inl (cA 0, 240, .inl fr))] s.heap := hP
  have hl := lv_entry ([.ref a0]) (n := 5) (Nat.le_of_ble_eq_true rfl)
  rw [lg_entry_eq]
  generalize (lg_sl ([.ref a0]) ++ List.replicate (5 - (lg_sl ([.ref a0])).length) Slot.unset).toArray = ls at hl ⊢
  have hl : lv_has ls 5 [(0, .ref a0)] := hl
  have inX0 : ∀ w ∈ u_ws RX0 TX0 20, w ∈ wsX0_creditInterest := by decide +kernel
  refine lv_ldc2 (v := 10000) hx hb hown (hts (.constantLong RX0 195 10000) (by decide +kernel)) dX0_creditInterest_0 ?_
  refine lv_aload_n hx hb dX0_creditInterest_3 rfl (lv_at hl 0 rfl) ?_
  refine va_get (D := D) (ci := 4) (v := .int i16) (C := RX0) (T := TX0) (N := 20) hx hb hts inX0 hown hK hP 0 rfl rfl 16 (by decide) (hts (.fieldLink RX0 78 "EscrowDesk$Account" "basis" "I") (by decide +kernel)) (fun _ h9 => h9) rfl dX0_creditInterest_4 ?_
  refine lv_i2l (v := (i16.toInt64)) hx hb dX0_creditInterest_7 rfl ?_
  refine lv_lmul hx hb dX0_creditInterest_8 ?_
  refine lv_topl (fun yn1 eyn1 => ?_)
  refine lv_lstore_n (lv' := [(1, .long yn1), (0, .ref a0)]) hx hb dX0_creditInterest_9 rfl hl (by decide) rfl (fun ls hl => ?_)
  refine lv_lload_n hx hb dX0_creditInterest_10 rfl (lv_at hl 0 rfl) ?_
  refine lv_lconst (v := 0) hx hb dX0_creditInterest_11 (by decide) ?_
  refine W.lcmp hx hb dX0_creditInterest_12 ?_
  refine lv_if_gt (tgt := 17) hx hb dX0_creditInterest_13 (by decide) (fun c2 => ?_) (fun c2 => ?_)
  · skip
    refine lv_aload_n hx hb dX0_creditInterest_17 rfl (lv_at hl 1 rfl) ?_
    refine va_get (D := D) (ci := 4) (v := .long i11) (C := RX0) (T := TX0) (N := 20) hx hb hts inX0 hown hK hP 0 rfl rfl 11 (by decide) (hts (.fieldLink RX0 57 "EscrowDesk$Account" "accruedParts" "J") (by decide +kernel)) (fun _ h9 => h9) rfl dX0_creditInterest_18 ?_
    refine lv_lload_n hx hb dX0_creditInterest_21 rfl (lv_at hl 0 rfl) ?_
    refine lv_ldiv hx hb dX0_creditInterest_22 (lg_ne c2) ?_
    refine lv_topl (fun yn3 eyn3 => ?_)
    refine lv_lstore_n (lv' := [(3, .long yn3), (1, .long yn1), (0, .ref a0)]) hx hb dX0_creditInterest_23 rfl hl (by decide) rfl (fun ls hl => ?_)
    refine lv_aload_n hx hb dX0_creditInterest_24 rfl (lv_at hl 2 rfl) ?_
    refine lv_dup hx hb dX0_creditInterest_25 rfl ?_
    refine va_get (D := D) (ci := 4) (v := .long i11) (C := RX0) (T := TX0) (N := 20) hx hb hts inX0 hown hK hP 0 rfl rfl 11 (by decide) (hts (.fieldLink RX0 57 "EscrowDesk$Account" "accruedParts" "J") (by decide +kernel)) (fun _ h9 => h9) rfl dX0_creditInterest_26 ?_
    refine lv_lload_n hx hb dX0_creditInterest_29 rfl (lv_at hl 0 rfl) ?_
    refine lv_lload_n hx hb dX0_creditInterest_30 rfl (lv_at hl 1 rfl) ?_
    refine lv_lmul hx hb dX0_creditInterest_31 ?_
    refine lv_topl (fun yn4 eyn4 => ?_)
    refine lv_lsub hx hb dX0_creditInterest_32 ?_
    refine lv_topl (fun yn5 eyn5 => ?_)
    refine va_put (D := D) (ci := 4) (v := .long yn5) (ty := .long) (C := RX0) (T := TX0) (N := 20) hx hb hts inX0 tyX0 tyX0_ok nmX0 hown hK hP hD hS 0 rfl rfl 11 (by decide) (hts (.fieldLink RX0 57 "EscrowDesk$Account" "accruedParts" "J") (by decide +kernel)) (fun _ h9 => h9) rfl (by decide +kernel) rfl rfl (Nat.le_of_ble_eq_true rfl) dX0_creditInterest_33 (fun H locs hP hD hS => ?_)
    obtain ⟨hP, hD⟩ : PDq D A [(oX0 a0 p0 a1 a3 a4 a5 a6 i6 i7 i8 i9 i10 yn5 i12 i13 i14 i15 i16 i17 i18 i19), (a1, .inr (6, [.ref a2, .int (nI nx), .int (nI kp)])), (a2, .inl (cA 0, 240, .inl fr))] H := ⟨hP, hD⟩
    refine lv_aload_n hx hb dX0_creditInterest_36 rfl (lv_at hl 2 rfl) ?_
    refine lv_dup hx hb dX0_creditInterest_37 rfl ?_
    refine va_get (D := D) (ci := 4) (v := .long i9) (C := RX0) (T := TX0) (N := 20) hx hb hts inX0 hown hK hP 0 rfl rfl 9 (by decide) (hts (.fieldLink RX0 50 "EscrowDesk$Account" "interestPot" "J") (by decide +kernel)) (fun _ h9 => h9) rfl dX0_creditInterest_38 ?_
    refine lv_lload_n hx hb dX0_creditInterest_41 rfl (lv_at hl 0 rfl) ?_
    refine lv_ladd hx hb dX0_creditInterest_42 ?_
    refine lv_topl (fun yn6 eyn6 => ?_)
    refine va_put (D := D) (ci := 4) (v := .long yn6) (ty := .long) (C := RX0) (T := TX0) (N := 20) hx hb hts inX0 tyX0 tyX0_ok nmX0 hown hK hP hD hS 0 rfl rfl 9 (by decide) (hts (.fieldLink RX0 50 "EscrowDesk$Account" "interestPot" "J") (by decide +kernel)) (fun _ h9 => h9) rfl (by decide +kernel) rfl rfl (Nat.le_of_ble_eq_true rfl) dX0_creditInterest_43 (fun H locs hP hD hS => ?_)
    obtain ⟨hP, hD⟩ : PDq D A [(oX0 a0 p0 a1 a3 a4 a5 a6 i6 i7 i8 yn6 i10 yn5 i12 i13 i14 i15 i16 i17 i18 i19), (a1, .inr (6, [.ref a2, .int (nI nx), .int (nI kp)])), (a2, .inl (cA 0, 240, .inl fr))] H := ⟨hP, hD⟩
    refine lv_aload_n hx hb dX0_creditInterest_46 rfl (lv_at hl 2 rfl) ?_
    refine lv_dup hx hb dX0_creditInterest_47 rfl ?_
    refine va_get (D := D) (ci := 4) (v := .long i10) (C := RX0) (T := TX0) (N := 20) hx hb hts inX0 hown hK hP 0 rfl rfl 10 (by decide) (hts (.fieldLink RX0 54 "EscrowDesk$Account" "credited" "J") (by decide +kernel)) (fun _ h9 => h9) rfl dX0_creditInterest_48 ?_
    refine lv_lload_n hx hb dX0_creditInterest_51 rfl (lv_at hl 0 rfl) ?_
    refine lv_ladd hx hb dX0_creditInterest_52 ?_
    refine lv_topl (fun yn7 eyn7 => ?_)
    refine va_put (D := D) (ci := 4) (v := .long yn7) (ty := .long) (C := RX0) (T := TX0) (N := 20) hx hb hts inX0 tyX0 tyX0_ok nmX0 hown hK hP hD hS 0 rfl rfl 10 (by decide) (hts (.fieldLink RX0 54 "EscrowDesk$Account" "credited" "J") (by decide +kernel)) (fun _ h9 => h9) rfl (by decide +kernel) rfl rfl (Nat.le_of_ble_eq_true rfl) dX0_creditInterest_53 (fun H locs hP hD hS => ?_)
    obtain ⟨hP, hD⟩ : PDq D A [(oX0 a0 p0 a1 a3 a4 a5 a6 i6 i7 i8 yn6 yn7 yn5 i12 i13 i14 i15 i16 i17 i18 i19), (a1, .inr (6, [.ref a2, .int (nI nx), .int (nI kp)])), (a2, .inl (cA 0, 240, .inl fr))] H := ⟨hP, hD⟩
    refine lv_aload_n hx hb dX0_creditInterest_56 rfl (lv_at hl 2 rfl) ?_
    refine va_get (D := D) (ci := 4) (v := .ref a1) (C := RX0) (T := TX0) (N := 20) hx hb hts inX0 hown hK hP 0 rfl rfl 1 (by decide) (hts (.fieldLink RX0 12 "EscrowDesk$Account" "ledger" "LEscrowDesk$Ledger;") (by decide +kernel)) (fun _ h9 => h9) rfl dX0_creditInterest_57 ?_
    refine lv_iconst (v := 3) hx hb dX0_creditInterest_60 (by decide) ?_
    refine lv_aload_n hx hb dX0_creditInterest_61 rfl (lv_at hl 2 rfl) ?_
    refine va_get (D := D) (ci := 4) (v := .int i6) (C := RX0) (T := TX0) (N := 20) hx hb hts inX0 hown hK hP 0 rfl rfl 6 (by decide) (hts (.fieldLink RX0 40 "EscrowDesk$Account" "day" "I") (by decide +kernel)) (fun _ h9 => h9) rfl dX0_creditInterest_62 ?_
    refine lv_lload_n hx hb dX0_creditInterest_65 rfl (lv_at hl 0 rfl) ?_
    refine lv_l2i (v := yn3.toInt32) hx hb dX0_creditInterest_66 rfl ?_
    refine lv_topi (fun yn8 eyn8 => ?_)
    refine lv_iconst (v := (-1)) hx hb dX0_creditInterest_67 (by decide) ?_
    obtain ⟨hPc, hDc, hFc⟩ := PDq.cut (wc := [(a1, .inr (6, [.ref a2, .int (nI nx), .int (nI kp)])), (a2, .inl (cA 0, 240, .inl fr))]) hP hD hS hA [1, 2] (by decide) rfl
    refine va_callv (va_runV (As := [.int 3, .int i6, .int yn8, .int (-1)]) (rest := []) ⟨hx, hb, hml, hown, hts⟩ (s_enter l D cA sa a1 a2 nx kp 3 i6 yn8 (-1) fr H.size hnx hkp) (cwV 4 hts gX0_creditInterest_X2_enter rfl rfl rfl (by decide +kernel) ⟨(Nat.le_of_ble_eq_true rfl), (Nat.le_of_ble_eq_true rfl)⟩) ⟨Wd.blind, va_recv hK hPc (ci := 6) (q0 := 0) rfl rfl, fun U hU hW => ⟨rfl, Wd.call hPc hDc hK hC hZ hS hFc U hU hW⟩⟩ rfl rfl hl.1 rfl (lv_room (Nat.le_of_ble_eq_true rfl)) dX0_creditInterest_68 ⟨(Nat.le_of_ble_eq_true rfl), (Nat.le_of_ble_eq_true rfl)⟩) hS (fun q _ h => hFc q h) hFc (fun u t H1 locs ht hvm hw hB hz1 hk1 hS => ?_)
    obtain ⟨qn9, qn10, fn11, hn12, hn13, hP1, hD1⟩ := hB
    rw [ht] at hP1
    obtain ⟨hP, hD⟩ := PDq.join (w := [(oX0 a0 p0 a1 a3 a4 a5 a6 i6 i7 i8 yn6 yn7 yn5 i12 i13 i14 i15 i16 i17 i18 i19), (a1, .inr (6, [.ref a2, .int (nI qn9), .int (nI qn10)])), (a2, .inl (cA 0, 240, .inl fn11))]) 1 hP hD [1, 2] [0] rfl rfl (by decide) (by decide) hk1 hFc hP1 hD1 rfl
    generalize H1 = H at hP hS ⊢
    obtain ⟨hP9, hD9⟩ := PDq.sub (ws' := [(oX0 a0 p0 a1 a3 a4 a5 a6 i6 i7 i8 yn6 yn7 yn5 i12 i13 i14 i15 i16 i17 i18 i19), (a1, .inr (6, [.ref a2, .int (nI qn9), .int (nI qn10)])), (a2, .inl (cA 0, 240, .inl fn11))]) hP hD [0, 1, 2] (by decide) rfl
    refine W.widen (k := 0) (n := 0) (Nat.le_of_ble_eq_true rfl) (Nat.le_of_ble_eq_true rfl) ?_
    exact (W.vret hx hb hr (fun t ht hW => ⟨⟨(), rfl, trivial, i6, i7, i8, i12, i13, i14, i15, i16, i17, i18, i19, yn6, yn7, yn5, qn9, qn10, fn11, hn12, hn13, by rw [ht]; exact hP9, hD9⟩, hS.F ht⟩) hS.2.2 dX0_creditInterest_71)
  · skip
    obtain ⟨hP9, hD9⟩ := PDq.sub (ws' := [(oX0 a0 p0 a1 a3 a4 a5 a6 i6 i7 i8 i9 i10 i11 i12 i13 i14 i15 i16 i17 i18 i19), (a1, .inr (6, [.ref a2, .int (nI nx), .int (nI kp)])), (a2, .inl (cA 0, 240, .inl fr))]) hP hD [0, 1, 2] (by decide) rfl
    refine W.widen (k := 0) (n := 0) (Nat.le_of_ble_eq_true rfl) (Nat.le_of_ble_eq_true rfl) ?_
    exact (W.vret hx hb hr (fun t ht hW => ⟨⟨(), rfl, trivial, i6, i7, i8, i12, i13, i14, i15, i16, i17, i18, i19, i9, i10, i11, nx, kp, fr, hnx, hkp, by rw [ht]; exact hP9, hD9⟩, hS.F ht⟩) hS.2.2 dX0_creditInterest_16)

set_option maxHeartbeats 4000000 in
set_option maxRecDepth 100000 in
/-- makeDue -/
theorem s_makeDue (l : Launch) (D : va_G) (cA : Nat → ClassId) (sa : Nat → Nat) (a0 : Nat) (a1 : Nat) (a3 : Nat) (a4 : Nat) (a5 : Nat) (a6 : Nat) (p0 : Nat) (i6 : Int32) (i7 : Int32) (i8 : Int32) (i12 : Int32) (i13 : Int32) (i14 : Int32) (i15 : Int32) (i16 : Int32) (i17 : Int32) (i18 : Int32) (i19 : Int32) (i9 : Int64) (i10 : Int64) (i11 : Int64) (p1 : Nat) (p2 : Nat) (p3 : Nat) (p4 : Nat) (p5 : Nat) (p6 : Nat) (p7 : Nat) (p8 : Nat) (p9 : Nat) (cn : Nat) (pq : Nat) (nd : Nat) (sc : Nat) (pr : Int32) (pb : Int32) (pe : Int32) (pg : Int32) (fen : Nat → Int32) (fst : Nat → Int32) (fop : Nat → Int32) (fs : Nat → Int32) (fd : Nat → Int32) (sz : Nat) (hcn : cn ≤ 10) (hpq : pq ≤ 8) (hnd : nd ≤ 6) (hsc : sc ≤ 350) (hen : Rng 10 351 fen) : Met l yX0_makeDue wsX0_makeDue ({ frames := 3, cells := 0, slots := 0, locals := 76 }) (va_Pc [.ref a0] (Wd D cA sa [(oX0 a0 p0 a1 a3 a4 a5 a6 i6 i7 i8 i9 i10 i11 i12 i13 i14 i15 i16 i17 i18 i19), (oX3 p0 pr pb pe pg p1 (nI nd) p2 p3 p4 p5 (nI cn) p6 (nI pq) p7 p8 p9 (nI sc)), (p9, .inl (cA 0, 10, .inl fen)), (p7, .inl (cA 0, 350, .inl fst)), (p8, .inl (cA 0, 350, .inl fop)), (a3, .inl (cA 0, 10, .inl fs)), (a6, .inl (cA 0, 10, .inl fd))] sz)) (va_Qv (fun _ : Unit => True) (fun (_ : Unit) t => ∃ z6 : Int32, ∃ z7 : Int32, ∃ z8 : Int32, ∃ z12 : Int32, ∃ z13 : Int32, ∃ z14 : Int32, ∃ z15 : Int32, ∃ z16 : Int32, ∃ z17 : Int32, ∃ z18 : Int32, ∃ z19 : Int32, ∃ z9 : Int64, ∃ z10 : Int64, ∃ z11 : Int64, ∃ zs : Nat → Int32, ∃ zd : Nat → Int32, Wq D (va_A [(oX0 a0 p0 a1 a3 a4 a5 a6 i6 i7 i8 i9 i10 i11 i12 i13 i14 i15 i16 i17 i18 i19), (oX3 p0 pr pb pe pg p1 (nI nd) p2 p3 p4 p5 (nI cn) p6 (nI pq) p7 p8 p9 (nI sc)), (p9, .inl (cA 0, 10, .inl fen)), (p7, .inl (cA 0, 350, .inl fst)), (p8, .inl (cA 0, 350, .inl fop)), (a3, .inl (cA 0, 10, .inl fs)), (a6, .inl (cA 0, 10, .inl fd))] sz) [(oX0 a0 p0 a1 a3 a4 a5 a6 z6 z7 z8 z9 z10 z11 z12 z13 z14 z15 z16 z17 z18 z19), (oX3 p0 pr pb pe pg p1 (nI nd) p2 p3 p4 p5 (nI cn) p6 (nI pq) p7 p8 p9 (nI sc)), (p9, .inl (cA 0, 10, .inl fen)), (p7, .inl (cA 0, 350, .inl fst)), (p8, .inl (cA 0, 350, .inl fop)), (a3, .inl (cA 0, 10, .inl zs)), (a6, .inl (cA 0, 10, .inl zd))] t) (va_A [(oX0 a0 p0 a1 a3 a4 a5 a6 i6 i7 i8 i9 i10 i11 i12 i13 i14 i15 i16 i17 i18 i19), (oX3 p0 pr pb pe pg p1 (nI nd) p2 p3 p4 p5 (nI cn) p6 (nI pq) p7 p8 p9 (nI sc)), (p9, .inl (cA 0, 10, .inl fen)), (p7, .inl (cA 0, 350, .inl fst)), (p8, .inl (cA 0, 350, .inl fop)), (a3, .inl (cA 0, 10, .inl fs)), (a6, .inl (cA 0, 10, .inl fd))] sz)) 0 0 (va_A [(oX0 a0 p0 a1 a3 a4 a5 a6 i6 i7 i8 i9 i10 i11 i12 i13 i14 i15 i16 i17 i18 i19), (oX3 p0 pr pb pe pg p1 (nI nd) p2 p3 p4 p5 (nI cn) p6 (nI pq) p7 p8 p9 (nI sc)), (p9, .inl (cA 0, 10, .inl fen)), (p7, .inl (cA 0, 350, .inl fst)), (p8, .inl (cA 0, 350, .inl fop)), (a3, .inl (cA 0, 10, .inl fs)), (a6, .inl (cA 0, 10, .inl fd))] sz) := by
  refine Met.ofW (cc := cX0_makeDue) (maxL := 3) (ret := none) (by decide) rfl ?_
  intro p e s m args below meth c s₁ B hml hv
  obtain ⟨rfl, hsz, hP, hK, hD0, hC, hZ⟩ := hv
  have hx := B.exec
  have hb := B.bytes
  have hr := B.returns
  have hts := atoms_spec (ws := wsX0_makeDue) B.pre
  have hown : s.vm.findClass RX0 = some m.cls := findClass_of_methodNamed B.named
  have hlocks := B.notSynchronized
  subst hsz
  have hD := hD0.self (sz := s.heap.size)
  generalize hAe : va_A [(oX0 a0 p0 a1 a3 a4 a5 a6 i6 i7 i8 i9 i10 i11 i12 i13 i14 i15 i16 i17 i18 i19), (oX3 p0 pr pb pe pg p1 (nI nd) p2 p3 p4 p5 (nI cn) p6 (nI pq) p7 p8 p9 (nI sc)), (p9, .inl (cA 0, 10, .inl fen)), (p7, .inl (cA 0, 350, .inl fst)), (p8, .inl (cA 0, 350, .inl fop)), (a3, .inl (cA 0, 10, .inl fs)), (a6, .inl (cA 0, 10, .inl fd))] s.heap.size = A at hD hZ ⊢
  have hA : ∀ q : Nat, s.heap.size ≤ q → A q := fun q h => by rw [← hAe]; exact Or.inr h
  have hS : va_S A s.heap s.heap [] := va_S.rf
  have hP : va_P D vwCl [(oX0 a0 p0 a1 a3 a4 a5 a6 i6 i7 i8 i9 i10 i11 i12 i13 i14 i15 i16 i17 i18 i19), (oX3 p0 pr pb pe pg p1 (nI nd) p2 p3 p4 p5 (nI cn) p6 (nI pq) p7 p8 p9 (nI sc)), (p9, .inl (cA 0, 10, .inl fen)), (p7, .inl (cA 0, 350, .inl fst)), (p8, .inl (cA 0, 350, .inl fop)), (a3, .inl (cA 0, 10, .inl fs)), (a6, .inl (cA 0, 10, .inl fd))] s.heap := hP
  have hl := lv_entry ([.ref a0]) (n := 3) (Nat.le_of_ble_eq_true rfl)
  rw [lg_entry_eq]
  generalize (lg_sl ([.ref a0]) ++ List.replicate (3 - (lg_sl ([.ref a0])).length) Slot.unset).toArray = ls at hl ⊢
  have hl : lv_has ls 3 [(0, .ref a0)] := hl
  have inX0 : ∀ w ∈ u_ws RX0 TX0 20, w ∈ wsX0_makeDue := by decide +kernel
  have inX3 : ∀ w ∈ u_ws RX3 TX3 17, w ∈ wsX0_makeDue := by decide +kernel
  refine lv_aload_n hx hb dX0_makeDue_0 rfl (lv_at hl 0 rfl) ?_
  obtain ⟨hPc, hDc, hFc⟩ := PDq.cut (wc := [(oX0 a0 p0 a1 a3 a4 a5 a6 i6 i7 i8 i9 i10 i11 i12 i13 i14 i15 i16 i17 i18 i19), (oX3 p0 pr pb pe pg p1 (nI nd) p2 p3 p4 p5 (nI cn) p6 (nI pq) p7 p8 p9 (nI sc)), (a3, .inl (cA 0, 10, .inl fs))]) hP hD hS hA [0, 1, 5] (by decide) rfl
  refine va_calli (va_runV (As := []) (rest := []) ⟨hx, hb, hml, hown, hts⟩ (s_doneSet l D cA sa a0 a1 a3 a4 a5 a6 p0 i6 i7 i8 i12 i13 i14 i15 i16 i17 i18 i19 i9 i10 i11 p1 p2 p3 p4 p5 p6 p7 p8 p9 cn pq nd sc pr pb pe pg fs s.heap.size hcn hpq hnd hsc) (cwV 0 hts gX0_makeDue_X0_doneSet rfl rfl rfl (by decide +kernel) ⟨(Nat.le_of_ble_eq_true rfl), (Nat.le_of_ble_eq_true rfl)⟩) ⟨Wd.blind, va_recv hK hPc (ci := 4) (q0 := 0) rfl rfl, fun U hU hW => ⟨rfl, Wd.call hPc hDc hK hC hZ hS hFc U hU hW⟩⟩ rfl rfl hl.1 rfl (lv_room (Nat.le_of_ble_eq_true rfl)) dX0_makeDue_1 ⟨(Nat.le_of_ble_eq_true rfl), (Nat.le_of_ble_eq_true rfl)⟩) hS (fun q _ h => hFc q h) hFc (fun rn1 u t H1 locs ht hvm hw hB hz1 hk1 hS => ?_)
  obtain ⟨hP1, hD1⟩ := hB
  rw [ht] at hP1
  obtain ⟨hP, hD⟩ := PDq.join (w := [(p9, .inl (cA 0, 10, .inl fen)), (p7, .inl (cA 0, 350, .inl fst)), (p8, .inl (cA 0, 350, .inl fop)), (a6, .inl (cA 0, 10, .inl fd)), (oX0 a0 p0 a1 a3 a4 a5 a6 i6 i7 i8 i9 i10 i11 i12 i13 i14 i15 i16 i17 i18 i19), (oX3 p0 pr pb pe pg p1 (nI nd) p2 p3 p4 p5 (nI cn) p6 (nI pq) p7 p8 p9 (nI sc)), (a3, .inl (cA 0, 10, .inl fs))]) 4 hP hD [0, 1, 5] [2, 3, 4, 6] rfl rfl (by decide) (by decide) hk1 hFc hP1 hD1 rfl
  generalize H1 = H at hP hS ⊢
  refine lv_istore_n (lv' := [(1, .int rn1), (0, .ref a0)]) hx hb dX0_makeDue_4 rfl hl (by decide) rfl (fun ls hl => ?_)
  refine lv_iconst (v := 0) hx hb dX0_makeDue_5 (by decide) ?_
  refine lv_istore_n (lv' := [(2, .int 0), (1, .int rn1), (0, .ref a0)]) hx hb dX0_makeDue_6 rfl hl (by decide) rfl (fun ls hl => ?_)
  have loop1 : ∀ (n1 i1 : Nat) (f3_1 : Nat → Int32) (f6_1 : Nat → Int32) (H : Heap) (locs : List Loc) (ls : Array Slot), i1 + n1 = cn → va_P D vwCl [(p9, .inl (cA 0, 10, .inl fen)), (p7, .inl (cA 0, 350, .inl fst)), (p8, .inl (cA 0, 350, .inl fop)), (a6, .inl (cA 0, 10, .inl f3_1)), (oX0 a0 p0 a1 a3 a4 a5 a6 i6 i7 i8 i9 i10 i11 i12 i13 i14 i15 i16 i17 i18 i19), (oX3 p0 pr pb pe pg p1 (nI nd) p2 p3 p4 p5 (nI cn) p6 (nI pq) p7 p8 p9 (nI sc)), (a3, .inl (cA 0, 10, .inl f6_1))] H → va_D A [(p9, .inl (cA 0, 10, .inl fen)), (p7, .inl (cA 0, 350, .inl fst)), (p8, .inl (cA 0, 350, .inl fop)), (a6, .inl (cA 0, 10, .inl f3_1)), (oX0 a0 p0 a1 a3 a4 a5 a6 i6 i7 i8 i9 i10 i11 i12 i13 i14 i15 i16 i17 i18 i19), (oX3 p0 pr pb pe pg p1 (nI nd) p2 p3 p4 p5 (nI cn) p6 (nI pq) p7 p8 p9 (nI sc)), (a3, .inl (cA 0, 10, .inl f6_1))] → va_S A s.heap H locs → lv_has ls 3 [(2, .int (nI i1)), (1, .int rn1), (0, .ref a0)] → W p l e (headSpec wsX0_makeDue ({ frames := 3, cells := 0, slots := 0, locals := 76 } : Room)).room s m ([.ref a0] : List Value).toArray below meth c H locs 0 0 (MQ below (va_Qv (fun _ : Unit => True) (fun (_ : Unit) t => ∃ z6 : Int32, ∃ z7 : Int32, ∃ z8 : Int32, ∃ z12 : Int32, ∃ z13 : Int32, ∃ z14 : Int32, ∃ z15 : Int32, ∃ z16 : Int32, ∃ z17 : Int32, ∃ z18 : Int32, ∃ z19 : Int32, ∃ z9 : Int64, ∃ z10 : Int64, ∃ z11 : Int64, ∃ zs : Nat → Int32, ∃ zd : Nat → Int32, Wq D A [(oX0 a0 p0 a1 a3 a4 a5 a6 z6 z7 z8 z9 z10 z11 z12 z13 z14 z15 z16 z17 z18 z19), (oX3 p0 pr pb pe pg p1 (nI nd) p2 p3 p4 p5 (nI cn) p6 (nI pq) p7 p8 p9 (nI sc)), (p9, .inl (cA 0, 10, .inl fen)), (p7, .inl (cA 0, 350, .inl fst)), (p8, .inl (cA 0, 350, .inl fop)), (a3, .inl (cA 0, 10, .inl zs)), (a6, .inl (cA 0, 10, .inl zd))] t) A) ([.ref a0] : List Value).toArray s 0 0 A) (F0 m 7 ls []) := by
    intro n1
    induction n1 with
    | zero =>
      intro i1 f3_1 f6_1 H locs ls hi1 hP hD hS hl
      obtain rfl : cn = i1 := by omega
      refine lv_iload_n hx hb dX0_makeDue_7 rfl (lv_at hl 0 rfl) ?_
      refine lv_aload_n hx hb dX0_makeDue_8 rfl (lv_at hl 2 rfl) ?_
      refine va_get (D := D) (ci := 4) (v := .ref p0) (C := RX0) (T := TX0) (N := 20) hx hb hts inX0 hown hK hP 4 rfl rfl 0 (by decide) (hts (.fieldLink RX0 31 "EscrowDesk$Account" "plan" "LEscrowDesk$Plan;") (by decide +kernel)) (fun _ h9 => h9) rfl dX0_makeDue_9 ?_
      refine va_getN (D := D) (ci := 7) (v := .int (nI cn)) (C := RX3) (T := TX3) (N := 17) hx hb hts inX3 hown hK hP 5 rfl rfl 10 (by decide) (hC.f (A := _) (a := RX0) (i := 109) (b := "EscrowDesk$Plan") (n := "milestoneCount") (d := "I") (x := "EscrowDesk") (by decide +kernel)) (fun _ h9 => h9) rfl dX0_makeDue_12 ?_
      refine lv_icmp_ge (tgt := 67) hx hb dX0_makeDue_15 (by decide) (fun c2 => ?_) (fun c9 => absurd (nI_le (a := cn) (b := cn) (show cn ≤ cn by omega) (by omega)) c9)
      obtain ⟨hP9, hD9⟩ := PDq.sub (ws' := [(oX0 a0 p0 a1 a3 a4 a5 a6 i6 i7 i8 i9 i10 i11 i12 i13 i14 i15 i16 i17 i18 i19), (oX3 p0 pr pb pe pg p1 (nI nd) p2 p3 p4 p5 (nI cn) p6 (nI pq) p7 p8 p9 (nI sc)), (p9, .inl (cA 0, 10, .inl fen)), (p7, .inl (cA 0, 350, .inl fst)), (p8, .inl (cA 0, 350, .inl fop)), (a3, .inl (cA 0, 10, .inl f6_1)), (a6, .inl (cA 0, 10, .inl f3_1))]) hP hD [4, 5, 0, 1, 2, 6, 3] (by decide) rfl
      refine W.widen (k := 0) (n := 0) (Nat.le_of_ble_eq_true rfl) (Nat.le_of_ble_eq_true rfl) ?_
      exact (W.vret hx hb hr (fun t ht hW => ⟨⟨(), rfl, trivial, i6, i7, i8, i12, i13, i14, i15, i16, i17, i18, i19, i9, i10, i11, f6_1, f3_1, by rw [ht]; exact hP9, hD9⟩, hS.F ht⟩) hS.2.2 dX0_makeDue_67)
    | succ n1 ih1 =>
      intro i1 f3_1 f6_1 H locs ls hi1 hP hD hS hl
      refine lv_iload_n hx hb dX0_makeDue_7 rfl (lv_at hl 0 rfl) ?_
      refine lv_aload_n hx hb dX0_makeDue_8 rfl (lv_at hl 2 rfl) ?_
      refine va_get (D := D) (ci := 4) (v := .ref p0) (C := RX0) (T := TX0) (N := 20) hx hb hts inX0 hown hK hP 4 rfl rfl 0 (by decide) (hts (.fieldLink RX0 31 "EscrowDesk$Account" "plan" "LEscrowDesk$Plan;") (by decide +kernel)) (fun _ h9 => h9) rfl dX0_makeDue_9 ?_
      refine va_getN (D := D) (ci := 7) (v := .int (nI cn)) (C := RX3) (T := TX3) (N := 17) hx hb hts inX3 hown hK hP 5 rfl rfl 10 (by decide) (hC.f (A := _) (a := RX0) (i := 109) (b := "EscrowDesk$Plan") (n := "milestoneCount") (d := "I") (x := "EscrowDesk") (by decide +kernel)) (fun _ h9 => h9) rfl dX0_makeDue_12 ?_
      refine lv_icmp_ge (tgt := 67) hx hb dX0_makeDue_15 (by decide) (fun c9 => absurd c9 (nI_ge (a := i1) (b := cn) (show i1 < cn by omega) (by omega))) (fun c3 => ?_)
      refine lv_aload_n hx hb dX0_makeDue_18 rfl (lv_at hl 2 rfl) ?_
      refine va_get (D := D) (ci := 4) (v := .ref a3) (C := RX0) (T := TX0) (N := 20) hx hb hts inX0 hown hK hP 4 rfl rfl 2 (by decide) (hts (.fieldLink RX0 18 "EscrowDesk$Account" "state" "[I") (by decide +kernel)) (fun _ h9 => h9) rfl dX0_makeDue_19 ?_
      refine lv_iload_n hx hb dX0_makeDue_22 rfl (lv_at hl 0 rfl) ?_
      refine va_iald hx hb hK hP 6 0 rfl rfl (vp_in_nI (n := i1) (N := 10) (show i1 < 10 by omega) (by decide)) dX0_makeDue_23 ?_
      refine lv_topi (fun yn4 eyn4 => ?_)
      refine lv_if_ne (tgt := 61) hx hb dX0_makeDue_24 (by decide) (fun c5 => ?_) (fun c5 => ?_)
      · skip
        refine lv_iinc (v := (nI (i1 + 1))) (lv' := [(2, .int (nI (i1 + 1))), (1, .int rn1), (0, .ref a0)]) hx hb dX0_makeDue_61 hl (k := 0) rfl (nI_1 _) (by decide) rfl (fun ls hl => ?_)
        refine lv_goto (tgt := 7) hx hb dX0_makeDue_64 (by decide) ?_
        obtain ⟨hP9, hD9⟩ := PDq.sub (ws' := [(p9, .inl (cA 0, 10, .inl fen)), (p7, .inl (cA 0, 350, .inl fst)), (p8, .inl (cA 0, 350, .inl fop)), (a6, .inl (cA 0, 10, .inl f3_1)), (oX0 a0 p0 a1 a3 a4 a5 a6 i6 i7 i8 i9 i10 i11 i12 i13 i14 i15 i16 i17 i18 i19), (oX3 p0 pr pb pe pg p1 (nI nd) p2 p3 p4 p5 (nI cn) p6 (nI pq) p7 p8 p9 (nI sc)), (a3, .inl (cA 0, 10, .inl f6_1))]) hP hD [0, 1, 2, 3, 4, 5, 6] (by decide) rfl
        exact ih1 (i1 + 1) f3_1 f6_1 H _ ls (by omega) hP9 hD9 hS (lv_sub hl [0, 1, 2] rfl)
      · skip
        refine lv_aload_n hx hb dX0_makeDue_27 rfl (lv_at hl 2 rfl) ?_
        refine lv_iload_n hx hb dX0_makeDue_28 rfl (lv_at hl 0 rfl) ?_
        refine lv_aload_n hx hb dX0_makeDue_29 rfl (lv_at hl 2 rfl) ?_
        refine va_get (D := D) (ci := 4) (v := .int i6) (C := RX0) (T := TX0) (N := 20) hx hb hts inX0 hown hK hP 4 rfl rfl 6 (by decide) (hts (.fieldLink RX0 40 "EscrowDesk$Account" "day" "I") (by decide +kernel)) (fun _ h9 => h9) rfl dX0_makeDue_30 ?_
        refine lv_aload_n hx hb dX0_makeDue_33 rfl (lv_at hl 2 rfl) ?_
        refine va_get (D := D) (ci := 4) (v := .int i18) (C := RX0) (T := TX0) (N := 20) hx hb hts inX0 hown hK hP 4 rfl rfl 18 (by decide) (hts (.fieldLink RX0 83 "EscrowDesk$Account" "submittedSet" "I") (by decide +kernel)) (fun _ h9 => h9) rfl dX0_makeDue_34 ?_
        refine lv_iload_n hx hb dX0_makeDue_37 rfl (lv_at hl 1 rfl) ?_
        obtain ⟨hPc, hDc, hFc⟩ := PDq.cut (wc := [(oX0 a0 p0 a1 a3 a4 a5 a6 i6 i7 i8 i9 i10 i11 i12 i13 i14 i15 i16 i17 i18 i19), (oX3 p0 pr pb pe pg p1 (nI nd) p2 p3 p4 p5 (nI cn) p6 (nI pq) p7 p8 p9 (nI sc)), (p9, .inl (cA 0, 10, .inl fen)), (p7, .inl (cA 0, 350, .inl fst)), (p8, .inl (cA 0, 350, .inl fop))]) hP hD hS hA [4, 5, 0, 1, 2] (by decide) rfl
        refine va_calli (va_runV (As := [.int (nI i1), .int i6, .int i18, .int rn1]) (rest := []) ⟨hx, hb, hml, hown, hts⟩ (s_judged l D cA sa a0 a1 a3 a4 a5 a6 p0 i6 i7 i8 i12 i13 i14 i15 i16 i17 i18 i19 i9 i10 i11 p1 p2 p3 p4 p5 p6 p7 p8 p9 cn pq nd sc pr pb pe pg i1 fen fst fop i6 i18 rn1 H.size hcn hpq hnd hsc hen (by omega)) (cwV 4 hts gX0_makeDue_X0_judged rfl rfl rfl (by decide +kernel) ⟨(Nat.le_of_ble_eq_true rfl), (Nat.le_of_ble_eq_true rfl)⟩) ⟨Wd.blind, va_recv hK hPc (ci := 4) (q0 := 0) rfl rfl, fun U hU hW => ⟨rfl, Wd.call hPc hDc hK hC hZ hS hFc U hU hW⟩⟩ rfl rfl hl.1 rfl (lv_room (Nat.le_of_ble_eq_true rfl)) dX0_makeDue_38 ⟨(Nat.le_of_ble_eq_true rfl), (Nat.le_of_ble_eq_true rfl)⟩) hS (fun q _ h => hFc q h) hFc (fun rn6 u t H1 locs ht hvm hw hB hz1 hk1 hS => ?_)
        obtain ⟨hP1, hD1⟩ := hB
        rw [ht] at hP1
        obtain ⟨hP, hD⟩ := PDq.join (w := [(a6, .inl (cA 0, 10, .inl f3_1)), (a3, .inl (cA 0, 10, .inl f6_1)), (oX0 a0 p0 a1 a3 a4 a5 a6 i6 i7 i8 i9 i10 i11 i12 i13 i14 i15 i16 i17 i18 i19), (oX3 p0 pr pb pe pg p1 (nI nd) p2 p3 p4 p5 (nI cn) p6 (nI pq) p7 p8 p9 (nI sc)), (p9, .inl (cA 0, 10, .inl fen)), (p7, .inl (cA 0, 350, .inl fst)), (p8, .inl (cA 0, 350, .inl fop))]) 2 hP hD [4, 5, 0, 1, 2] [3, 6] rfl rfl (by decide) (by decide) hk1 hFc hP1 hD1 rfl
        generalize H1 = H at hP hS ⊢
        have hn7 := hw
        refine lv_if_eq (tgt := 61) hx hb dX0_makeDue_41 (by decide) (fun c8 => ?_) (fun c8 => ?_)
        · skip
          refine lv_iinc (v := (nI (i1 + 1))) (lv' := [(2, .int (nI (i1 + 1))), (1, .int rn1), (0, .ref a0)]) hx hb dX0_makeDue_61 hl (k := 0) rfl (nI_1 _) (by decide) rfl (fun ls hl => ?_)
          refine lv_goto (tgt := 7) hx hb dX0_makeDue_64 (by decide) ?_
          obtain ⟨hP9, hD9⟩ := PDq.sub (ws' := [(p9, .inl (cA 0, 10, .inl fen)), (p7, .inl (cA 0, 350, .inl fst)), (p8, .inl (cA 0, 350, .inl fop)), (a6, .inl (cA 0, 10, .inl f3_1)), (oX0 a0 p0 a1 a3 a4 a5 a6 i6 i7 i8 i9 i10 i11 i12 i13 i14 i15 i16 i17 i18 i19), (oX3 p0 pr pb pe pg p1 (nI nd) p2 p3 p4 p5 (nI cn) p6 (nI pq) p7 p8 p9 (nI sc)), (a3, .inl (cA 0, 10, .inl f6_1))]) hP hD [4, 5, 6, 0, 2, 3, 1] (by decide) rfl
          exact ih1 (i1 + 1) f3_1 f6_1 H _ ls (by omega) hP9 hD9 hS (lv_sub hl [0, 1, 2] rfl)
        · skip
          refine lv_aload_n hx hb dX0_makeDue_44 rfl (lv_at hl 2 rfl) ?_
          refine va_get (D := D) (ci := 4) (v := .ref a3) (C := RX0) (T := TX0) (N := 20) hx hb hts inX0 hown hK hP 2 rfl rfl 2 (by decide) (hts (.fieldLink RX0 18 "EscrowDesk$Account" "state" "[I") (by decide +kernel)) (fun _ h9 => h9) rfl dX0_makeDue_45 ?_
          refine lv_iload_n hx hb dX0_makeDue_48 rfl (lv_at hl 0 rfl) ?_
          refine lv_iconst (v := 1) hx hb dX0_makeDue_49 (by decide) ?_
          refine va_iast hx hb hK hP hD hS 1 0 rfl rfl (vp_in_nI (n := i1) (N := 10) (show i1 < 10 by omega) (by decide)) dX0_makeDue_50 (fun H locs hP hD hS => ?_)
          obtain ⟨hP, hD⟩ : PDq D A [(a6, .inl (cA 0, 10, .inl f3_1)), (a3, .inl (cA 0, 10, .inl (upd f6_1 (((nI i1)).toNatClampNeg) 1))), (oX0 a0 p0 a1 a3 a4 a5 a6 i6 i7 i8 i9 i10 i11 i12 i13 i14 i15 i16 i17 i18 i19), (oX3 p0 pr pb pe pg p1 (nI nd) p2 p3 p4 p5 (nI cn) p6 (nI pq) p7 p8 p9 (nI sc)), (p9, .inl (cA 0, 10, .inl fen)), (p7, .inl (cA 0, 350, .inl fst)), (p8, .inl (cA 0, 350, .inl fop))] H := ⟨hP, hD⟩
          generalize (upd f6_1 (((nI i1)).toNatClampNeg) 1) = fn9 at hP hD
          obtain ⟨hP, hD⟩ : PDq D A [(a6, .inl (cA 0, 10, .inl f3_1)), (a3, .inl (cA 0, 10, .inl fn9)), (oX0 a0 p0 a1 a3 a4 a5 a6 i6 i7 i8 i9 i10 i11 i12 i13 i14 i15 i16 i17 i18 i19), (oX3 p0 pr pb pe pg p1 (nI nd) p2 p3 p4 p5 (nI cn) p6 (nI pq) p7 p8 p9 (nI sc)), (p9, .inl (cA 0, 10, .inl fen)), (p7, .inl (cA 0, 350, .inl fst)), (p8, .inl (cA 0, 350, .inl fop))] H := ⟨hP, hD⟩
          refine lv_aload_n hx hb dX0_makeDue_51 rfl (lv_at hl 2 rfl) ?_
          refine va_get (D := D) (ci := 4) (v := .ref a6) (C := RX0) (T := TX0) (N := 20) hx hb hts inX0 hown hK hP 2 rfl rfl 5 (by decide) (hts (.fieldLink RX0 28 "EscrowDesk$Account" "dueDay" "[I") (by decide +kernel)) (fun _ h9 => h9) rfl dX0_makeDue_52 ?_
          refine lv_iload_n hx hb dX0_makeDue_55 rfl (lv_at hl 0 rfl) ?_
          refine lv_aload_n hx hb dX0_makeDue_56 rfl (lv_at hl 2 rfl) ?_
          refine va_get (D := D) (ci := 4) (v := .int i6) (C := RX0) (T := TX0) (N := 20) hx hb hts inX0 hown hK hP 2 rfl rfl 6 (by decide) (hts (.fieldLink RX0 40 "EscrowDesk$Account" "day" "I") (by decide +kernel)) (fun _ h9 => h9) rfl dX0_makeDue_57 ?_
          refine va_iast hx hb hK hP hD hS 0 0 rfl rfl (vp_in_nI (n := i1) (N := 10) (show i1 < 10 by omega) (by decide)) dX0_makeDue_60 (fun H locs hP hD hS => ?_)
          obtain ⟨hP, hD⟩ : PDq D A [(a6, .inl (cA 0, 10, .inl (upd f3_1 (((nI i1)).toNatClampNeg) i6))), (a3, .inl (cA 0, 10, .inl fn9)), (oX0 a0 p0 a1 a3 a4 a5 a6 i6 i7 i8 i9 i10 i11 i12 i13 i14 i15 i16 i17 i18 i19), (oX3 p0 pr pb pe pg p1 (nI nd) p2 p3 p4 p5 (nI cn) p6 (nI pq) p7 p8 p9 (nI sc)), (p9, .inl (cA 0, 10, .inl fen)), (p7, .inl (cA 0, 350, .inl fst)), (p8, .inl (cA 0, 350, .inl fop))] H := ⟨hP, hD⟩
          generalize (upd f3_1 (((nI i1)).toNatClampNeg) i6) = fn10 at hP hD
          obtain ⟨hP, hD⟩ : PDq D A [(a6, .inl (cA 0, 10, .inl fn10)), (a3, .inl (cA 0, 10, .inl fn9)), (oX0 a0 p0 a1 a3 a4 a5 a6 i6 i7 i8 i9 i10 i11 i12 i13 i14 i15 i16 i17 i18 i19), (oX3 p0 pr pb pe pg p1 (nI nd) p2 p3 p4 p5 (nI cn) p6 (nI pq) p7 p8 p9 (nI sc)), (p9, .inl (cA 0, 10, .inl fen)), (p7, .inl (cA 0, 350, .inl fst)), (p8, .inl (cA 0, 350, .inl fop))] H := ⟨hP, hD⟩
          refine lv_iinc (v := (nI (i1 + 1))) (lv' := [(2, .int (nI (i1 + 1))), (1, .int rn1), (0, .ref a0)]) hx hb dX0_makeDue_61 hl (k := 0) rfl (nI_1 _) (by decide) rfl (fun ls hl => ?_)
          refine lv_goto (tgt := 7) hx hb dX0_makeDue_64 (by decide) ?_
          obtain ⟨hP9, hD9⟩ := PDq.sub (ws' := [(p9, .inl (cA 0, 10, .inl fen)), (p7, .inl (cA 0, 350, .inl fst)), (p8, .inl (cA 0, 350, .inl fop)), (a6, .inl (cA 0, 10, .inl fn10)), (oX0 a0 p0 a1 a3 a4 a5 a6 i6 i7 i8 i9 i10 i11 i12 i13 i14 i15 i16 i17 i18 i19), (oX3 p0 pr pb pe pg p1 (nI nd) p2 p3 p4 p5 (nI cn) p6 (nI pq) p7 p8 p9 (nI sc)), (a3, .inl (cA 0, 10, .inl fn9))]) hP hD [4, 5, 6, 0, 2, 3, 1] (by decide) rfl
          exact ih1 (i1 + 1) fn10 fn9 H _ ls (by omega) hP9 hD9 hS (lv_sub hl [0, 1, 2] rfl)
  obtain ⟨hP9, hD9⟩ := PDq.sub (ws' := [(p9, .inl (cA 0, 10, .inl fen)), (p7, .inl (cA 0, 350, .inl fst)), (p8, .inl (cA 0, 350, .inl fop)), (a6, .inl (cA 0, 10, .inl fd)), (oX0 a0 p0 a1 a3 a4 a5 a6 i6 i7 i8 i9 i10 i11 i12 i13 i14 i15 i16 i17 i18 i19), (oX3 p0 pr pb pe pg p1 (nI nd) p2 p3 p4 p5 (nI cn) p6 (nI pq) p7 p8 p9 (nI sc)), (a3, .inl (cA 0, 10, .inl fs))]) hP hD [0, 1, 2, 3, 4, 5, 6] (by decide) rfl
  exact loop1 (cn - 0) 0 fd fs _ _ ls (by omega) hP9 hD9 hS (lv_sub hl [0, 1, 2] rfl)

set_option maxHeartbeats 4000000 in
set_option maxRecDepth 100000 in
/-- payDue -/
theorem s_payDue (l : Launch) (D : va_G) (cA : Nat → ClassId) (sa : Nat → Nat) (a0 : Nat) (a1 : Nat) (a2 : Nat) (a3 : Nat) (a4 : Nat) (a5 : Nat) (a6 : Nat) (p0 : Nat) (i6 : Int32) (i7 : Int32) (i8 : Int32) (i12 : Int32) (i13 : Int32) (i14 : Int32) (i15 : Int32) (i16 : Int32) (i17 : Int32) (i18 : Int32) (i19 : Int32) (i9 : Int64) (i10 : Int64) (i11 : Int64) (nx : Nat) (kp : Nat) (fr : Nat → Int32) (p1 : Nat) (p2 : Nat) (p3 : Nat) (p4 : Nat) (p5 : Nat) (p6 : Nat) (p7 : Nat) (p8 : Nat) (p9 : Nat) (cn : Nat) (pq : Nat) (nd : Nat) (sc : Nat) (pr : Int32) (pb : Int32) (pe : Int32) (pg : Int32) (fs : Nat → Int32) (fp : Nat → Int32) (ff : Nat → Int32) (fd : Nat → Int32) (fam : Nat → Int32) (fby : Nat → Int32) (sz : Nat) (hnx : nx < 60) (hkp : kp ≤ 60) (hcn : cn ≤ 10) (hpq : pq ≤ 8) (hnd : nd ≤ 6) (hsc : sc ≤ 350) (hby : Rng 10 10 fby) : Met l yX0_payDue wsX0_payDue ({ frames := 3, cells := 0, slots := 0, locals := 69 }) (va_Pc [.ref a0] (Wd D cA sa [(oX0 a0 p0 a1 a3 a4 a5 a6 i6 i7 i8 i9 i10 i11 i12 i13 i14 i15 i16 i17 i18 i19), (a1, .inr (6, [.ref a2, .int (nI nx), .int (nI kp)])), (a2, .inl (cA 0, 240, .inl fr)), (a3, .inl (cA 0, 10, .inl fs)), (a4, .inl (cA 0, 10, .inl fp)), (a5, .inl (cA 0, 10, .inl ff)), (a6, .inl (cA 0, 10, .inl fd)), (oX3 p0 pr pb pe pg p1 (nI nd) p2 p3 p4 p5 (nI cn) p6 (nI pq) p7 p8 p9 (nI sc)), (p3, .inl (cA 0, 10, .inl fam)), (p5, .inl (cA 0, 10, .inl fby))] sz)) (va_Qv (fun _ : Unit => True) (fun (_ : Unit) t => ∃ z6 : Int32, ∃ z7 : Int32, ∃ z8 : Int32, ∃ z12 : Int32, ∃ z13 : Int32, ∃ z14 : Int32, ∃ z15 : Int32, ∃ z16 : Int32, ∃ z17 : Int32, ∃ z18 : Int32, ∃ z19 : Int32, ∃ z9 : Int64, ∃ z10 : Int64, ∃ z11 : Int64, ∃ ny : Nat, ∃ ky : Nat, ∃ zr : Nat → Int32, ∃ zs : Nat → Int32, ∃ zp : Nat → Int32, ∃ zf : Nat → Int32, ∃ zd : Nat → Int32, ny < 60 ∧ ky ≤ 60 ∧ Wq D (va_A [(oX0 a0 p0 a1 a3 a4 a5 a6 i6 i7 i8 i9 i10 i11 i12 i13 i14 i15 i16 i17 i18 i19), (a1, .inr (6, [.ref a2, .int (nI nx), .int (nI kp)])), (a2, .inl (cA 0, 240, .inl fr)), (a3, .inl (cA 0, 10, .inl fs)), (a4, .inl (cA 0, 10, .inl fp)), (a5, .inl (cA 0, 10, .inl ff)), (a6, .inl (cA 0, 10, .inl fd)), (oX3 p0 pr pb pe pg p1 (nI nd) p2 p3 p4 p5 (nI cn) p6 (nI pq) p7 p8 p9 (nI sc)), (p3, .inl (cA 0, 10, .inl fam)), (p5, .inl (cA 0, 10, .inl fby))] sz) [(oX0 a0 p0 a1 a3 a4 a5 a6 z6 z7 z8 z9 z10 z11 z12 z13 z14 z15 z16 z17 z18 z19), (a1, .inr (6, [.ref a2, .int (nI ny), .int (nI ky)])), (a2, .inl (cA 0, 240, .inl zr)), (a3, .inl (cA 0, 10, .inl zs)), (a4, .inl (cA 0, 10, .inl zp)), (a5, .inl (cA 0, 10, .inl zf)), (a6, .inl (cA 0, 10, .inl zd)), (oX3 p0 pr pb pe pg p1 (nI nd) p2 p3 p4 p5 (nI cn) p6 (nI pq) p7 p8 p9 (nI sc)), (p3, .inl (cA 0, 10, .inl fam)), (p5, .inl (cA 0, 10, .inl fby))] t) (va_A [(oX0 a0 p0 a1 a3 a4 a5 a6 i6 i7 i8 i9 i10 i11 i12 i13 i14 i15 i16 i17 i18 i19), (a1, .inr (6, [.ref a2, .int (nI nx), .int (nI kp)])), (a2, .inl (cA 0, 240, .inl fr)), (a3, .inl (cA 0, 10, .inl fs)), (a4, .inl (cA 0, 10, .inl fp)), (a5, .inl (cA 0, 10, .inl ff)), (a6, .inl (cA 0, 10, .inl fd)), (oX3 p0 pr pb pe pg p1 (nI nd) p2 p3 p4 p5 (nI cn) p6 (nI pq) p7 p8 p9 (nI sc)), (p3, .inl (cA 0, 10, .inl fam)), (p5, .inl (cA 0, 10, .inl fby))] sz)) 0 0 (va_A [(oX0 a0 p0 a1 a3 a4 a5 a6 i6 i7 i8 i9 i10 i11 i12 i13 i14 i15 i16 i17 i18 i19), (a1, .inr (6, [.ref a2, .int (nI nx), .int (nI kp)])), (a2, .inl (cA 0, 240, .inl fr)), (a3, .inl (cA 0, 10, .inl fs)), (a4, .inl (cA 0, 10, .inl fp)), (a5, .inl (cA 0, 10, .inl ff)), (a6, .inl (cA 0, 10, .inl fd)), (oX3 p0 pr pb pe pg p1 (nI nd) p2 p3 p4 p5 (nI cn) p6 (nI pq) p7 p8 p9 (nI sc)), (p3, .inl (cA 0, 10, .inl fam)), (p5, .inl (cA 0, 10, .inl fby))] sz) := by
  refine Met.ofW (cc := cX0_payDue) (maxL := 4) (ret := none) (by decide) rfl ?_
  intro p e s m args below meth c s₁ B hml hv
  obtain ⟨rfl, hsz, hP, hK, hD0, hC, hZ⟩ := hv
  have hx := B.exec
  have hb := B.bytes
  have hr := B.returns
  have hts := atoms_spec (ws := wsX0_payDue) B.pre
  have hown : s.vm.findClass RX0 = some m.cls := findClass_of_methodNamed B.named
  have hlocks := B.notSynchronized
  subst hsz
  have hD := hD0.self (sz := s.heap.size)
  generalize hAe : va_A [(oX0 a0 p0 a1 a3 a4 a5 a6 i6 i7 i8 i9 i10 i11 i12 i13 i14 i15 i16 i17 i18 i19), (a1, .inr (6, [.ref a2, .int (nI nx), .int (nI kp)])), (a2, .inl (cA 0, 240, .inl fr)), (a3, .inl (cA 0, 10, .inl fs)), (a4, .inl (cA 0, 10, .inl fp)), (a5, .inl (cA 0, 10, .inl ff)), (a6, .inl (cA 0, 10, .inl fd)), (oX3 p0 pr pb pe pg p1 (nI nd) p2 p3 p4 p5 (nI cn) p6 (nI pq) p7 p8 p9 (nI sc)), (p3, .inl (cA 0, 10, .inl fam)), (p5, .inl (cA 0, 10, .inl fby))] s.heap.size = A at hD hZ ⊢
  have hA : ∀ q : Nat, s.heap.size ≤ q → A q := fun q h => by rw [← hAe]; exact Or.inr h
  have hS : va_S A s.heap s.heap [] := va_S.rf
  have hP : va_P D vwCl [(oX0 a0 p0 a1 a3 a4 a5 a6 i6 i7 i8 i9 i10 i11 i12 i13 i14 i15 i16 i17 i18 i19), (a1, .inr (6, [.ref a2, .int (nI nx), .int (nI kp)])), (a2, .inl (cA 0, 240, .inl fr)), (a3, .inl (cA 0, 10, .inl fs)), (a4, .inl (cA 0, 10, .inl fp)), (a5, .inl (cA 0, 10, .inl ff)), (a6, .inl (cA 0, 10, .inl fd)), (oX3 p0 pr pb pe pg p1 (nI nd) p2 p3 p4 p5 (nI cn) p6 (nI pq) p7 p8 p9 (nI sc)), (p3, .inl (cA 0, 10, .inl fam)), (p5, .inl (cA 0, 10, .inl fby))] s.heap := hP
  have hl := lv_entry ([.ref a0]) (n := 4) (Nat.le_of_ble_eq_true rfl)
  rw [lg_entry_eq]
  generalize (lg_sl ([.ref a0]) ++ List.replicate (4 - (lg_sl ([.ref a0])).length) Slot.unset).toArray = ls at hl ⊢
  have hl : lv_has ls 4 [(0, .ref a0)] := hl
  have inX0 : ∀ w ∈ u_ws RX0 TX0 20, w ∈ wsX0_payDue := by decide +kernel
  have inX3 : ∀ w ∈ u_ws RX3 TX3 17, w ∈ wsX0_payDue := by decide +kernel
  refine lv_iconst (v := 0) hx hb dX0_payDue_0 (by decide) ?_
  refine lv_istore_n (lv' := [(1, .int 0), (0, .ref a0)]) hx hb dX0_payDue_1 rfl hl (by decide) rfl (fun ls hl => ?_)
  have loop1 : ∀ (n1 i1 : Nat) (u0_6_1 : Int32) (u0_7_1 : Int32) (u0_8_1 : Int32) (u0_9_1 : Int64) (u0_10_1 : Int64) (u0_11_1 : Int64) (u0_12_1 : Int32) (u0_13_1 : Int32) (u0_14_1 : Int32) (u0_15_1 : Int32) (u0_16_1 : Int32) (u0_17_1 : Int32) (u0_18_1 : Int32) (u0_19_1 : Int32) (ni : Nat) (ki : Nat) (f2_1 : Nat → Int32) (f3_1 : Nat → Int32) (f4_1 : Nat → Int32) (H : Heap) (locs : List Loc) (ls : Array Slot), i1 + n1 = cn → ni < 60 → ki ≤ 60 → va_P D vwCl [(oX0 a0 p0 a1 a3 a4 a5 a6 u0_6_1 u0_7_1 u0_8_1 u0_9_1 u0_10_1 u0_11_1 u0_12_1 u0_13_1 u0_14_1 u0_15_1 u0_16_1 u0_17_1 u0_18_1 u0_19_1), (a1, .inr (6, [.ref a2, .int (nI ni), .int (nI ki)])), (a2, .inl (cA 0, 240, .inl f2_1)), (a3, .inl (cA 0, 10, .inl f3_1)), (a4, .inl (cA 0, 10, .inl f4_1)), (a5, .inl (cA 0, 10, .inl ff)), (a6, .inl (cA 0, 10, .inl fd)), (oX3 p0 pr pb pe pg p1 (nI nd) p2 p3 p4 p5 (nI cn) p6 (nI pq) p7 p8 p9 (nI sc)), (p3, .inl (cA 0, 10, .inl fam)), (p5, .inl (cA 0, 10, .inl fby))] H → va_D A [(oX0 a0 p0 a1 a3 a4 a5 a6 u0_6_1 u0_7_1 u0_8_1 u0_9_1 u0_10_1 u0_11_1 u0_12_1 u0_13_1 u0_14_1 u0_15_1 u0_16_1 u0_17_1 u0_18_1 u0_19_1), (a1, .inr (6, [.ref a2, .int (nI ni), .int (nI ki)])), (a2, .inl (cA 0, 240, .inl f2_1)), (a3, .inl (cA 0, 10, .inl f3_1)), (a4, .inl (cA 0, 10, .inl f4_1)), (a5, .inl (cA 0, 10, .inl ff)), (a6, .inl (cA 0, 10, .inl fd)), (oX3 p0 pr pb pe pg p1 (nI nd) p2 p3 p4 p5 (nI cn) p6 (nI pq) p7 p8 p9 (nI sc)), (p3, .inl (cA 0, 10, .inl fam)), (p5, .inl (cA 0, 10, .inl fby))] → va_S A s.heap H locs → lv_has ls 4 [(1, .int (nI i1)), (0, .ref a0)] → W p l e (headSpec wsX0_payDue ({ frames := 3, cells := 0, slots := 0, locals := 69 } : Room)).room s m ([.ref a0] : List Value).toArray below meth c H locs 0 0 (MQ below (va_Qv (fun _ : Unit => True) (fun (_ : Unit) t => ∃ z6 : Int32, ∃ z7 : Int32, ∃ z8 : Int32, ∃ z12 : Int32, ∃ z13 : Int32, ∃ z14 : Int32, ∃ z15 : Int32, ∃ z16 : Int32, ∃ z17 : Int32, ∃ z18 : Int32, ∃ z19 : Int32, ∃ z9 : Int64, ∃ z10 : Int64, ∃ z11 : Int64, ∃ ny : Nat, ∃ ky : Nat, ∃ zr : Nat → Int32, ∃ zs : Nat → Int32, ∃ zp : Nat → Int32, ∃ zf : Nat → Int32, ∃ zd : Nat → Int32, ny < 60 ∧ ky ≤ 60 ∧ Wq D A [(oX0 a0 p0 a1 a3 a4 a5 a6 z6 z7 z8 z9 z10 z11 z12 z13 z14 z15 z16 z17 z18 z19), (a1, .inr (6, [.ref a2, .int (nI ny), .int (nI ky)])), (a2, .inl (cA 0, 240, .inl zr)), (a3, .inl (cA 0, 10, .inl zs)), (a4, .inl (cA 0, 10, .inl zp)), (a5, .inl (cA 0, 10, .inl zf)), (a6, .inl (cA 0, 10, .inl zd)), (oX3 p0 pr pb pe pg p1 (nI nd) p2 p3 p4 p5 (nI cn) p6 (nI pq) p7 p8 p9 (nI sc)), (p3, .inl (cA 0, 10, .inl fam)), (p5, .inl (cA 0, 10, .inl fby))] t) A) ([.ref a0] : List Value).toArray s 0 0 A) (F0 m 2 ls []) := by
    intro n1
    induction n1 with
    | zero =>
      intro i1 u0_6_1 u0_7_1 u0_8_1 u0_9_1 u0_10_1 u0_11_1 u0_12_1 u0_13_1 u0_14_1 u0_15_1 u0_16_1 u0_17_1 u0_18_1 u0_19_1 ni ki f2_1 f3_1 f4_1 H locs ls hi1 hv0_1 hv1_1 hP hD hS hl
      obtain rfl : cn = i1 := by omega
      refine lv_iload_n hx hb dX0_payDue_2 rfl (lv_at hl 0 rfl) ?_
      refine lv_aload_n hx hb dX0_payDue_3 rfl (lv_at hl 1 rfl) ?_
      refine va_get (D := D) (ci := 4) (v := .ref p0) (C := RX0) (T := TX0) (N := 20) hx hb hts inX0 hown hK hP 0 rfl rfl 0 (by decide) (hts (.fieldLink RX0 31 "EscrowDesk$Account" "plan" "LEscrowDesk$Plan;") (by decide +kernel)) (fun _ h9 => h9) rfl dX0_payDue_4 ?_
      refine va_getN (D := D) (ci := 7) (v := .int (nI cn)) (C := RX3) (T := TX3) (N := 17) hx hb hts inX3 hown hK hP 7 rfl rfl 10 (by decide) (hC.f (A := _) (a := RX0) (i := 109) (b := "EscrowDesk$Plan") (n := "milestoneCount") (d := "I") (x := "EscrowDesk") (by decide +kernel)) (fun _ h9 => h9) rfl dX0_payDue_7 ?_
      refine lv_icmp_ge (tgt := 61) hx hb dX0_payDue_10 (by decide) (fun c1 => ?_) (fun c9 => absurd (nI_le (a := cn) (b := cn) (show cn ≤ cn by omega) (by omega)) c9)
      obtain ⟨hP9, hD9⟩ := PDq.sub (ws' := [(oX0 a0 p0 a1 a3 a4 a5 a6 u0_6_1 u0_7_1 u0_8_1 u0_9_1 u0_10_1 u0_11_1 u0_12_1 u0_13_1 u0_14_1 u0_15_1 u0_16_1 u0_17_1 u0_18_1 u0_19_1), (a1, .inr (6, [.ref a2, .int (nI ni), .int (nI ki)])), (a2, .inl (cA 0, 240, .inl f2_1)), (a3, .inl (cA 0, 10, .inl f3_1)), (a4, .inl (cA 0, 10, .inl f4_1)), (a5, .inl (cA 0, 10, .inl ff)), (a6, .inl (cA 0, 10, .inl fd)), (oX3 p0 pr pb pe pg p1 (nI nd) p2 p3 p4 p5 (nI cn) p6 (nI pq) p7 p8 p9 (nI sc)), (p3, .inl (cA 0, 10, .inl fam)), (p5, .inl (cA 0, 10, .inl fby))]) hP hD [0, 1, 2, 3, 4, 5, 6, 7, 8, 9] (by decide +kernel) rfl
      refine W.widen (k := 0) (n := 0) (Nat.le_of_ble_eq_true rfl) (Nat.le_of_ble_eq_true rfl) ?_
      exact (W.vret hx hb hr (fun t ht hW => ⟨⟨(), rfl, trivial, u0_6_1, u0_7_1, u0_8_1, u0_12_1, u0_13_1, u0_14_1, u0_15_1, u0_16_1, u0_17_1, u0_18_1, u0_19_1, u0_9_1, u0_10_1, u0_11_1, ni, ki, f2_1, f3_1, f4_1, ff, fd, hv0_1, hv1_1, by rw [ht]; exact hP9, hD9⟩, hS.F ht⟩) hS.2.2 dX0_payDue_61)
    | succ n1 ih1 =>
      intro i1 u0_6_1 u0_7_1 u0_8_1 u0_9_1 u0_10_1 u0_11_1 u0_12_1 u0_13_1 u0_14_1 u0_15_1 u0_16_1 u0_17_1 u0_18_1 u0_19_1 ni ki f2_1 f3_1 f4_1 H locs ls hi1 hv0_1 hv1_1 hP hD hS hl
      refine lv_iload_n hx hb dX0_payDue_2 rfl (lv_at hl 0 rfl) ?_
      refine lv_aload_n hx hb dX0_payDue_3 rfl (lv_at hl 1 rfl) ?_
      refine va_get (D := D) (ci := 4) (v := .ref p0) (C := RX0) (T := TX0) (N := 20) hx hb hts inX0 hown hK hP 0 rfl rfl 0 (by decide) (hts (.fieldLink RX0 31 "EscrowDesk$Account" "plan" "LEscrowDesk$Plan;") (by decide +kernel)) (fun _ h9 => h9) rfl dX0_payDue_4 ?_
      refine va_getN (D := D) (ci := 7) (v := .int (nI cn)) (C := RX3) (T := TX3) (N := 17) hx hb hts inX3 hown hK hP 7 rfl rfl 10 (by decide) (hC.f (A := _) (a := RX0) (i := 109) (b := "EscrowDesk$Plan") (n := "milestoneCount") (d := "I") (x := "EscrowDesk") (by decide +kernel)) (fun _ h9 => h9) rfl dX0_payDue_7 ?_
      refine lv_icmp_ge (tgt := 61) hx hb dX0_payDue_10 (by decide) (fun c9 => absurd c9 (nI_ge (a := i1) (b := cn) (show i1 < cn by omega) (by omega))) (fun c2 => ?_)
      refine lv_aload_n hx hb dX0_payDue_13 rfl (lv_at hl 1 rfl) ?_
      refine va_get (D := D) (ci := 4) (v := .ref p0) (C := RX0) (T := TX0) (N := 20) hx hb hts inX0 hown hK hP 0 rfl rfl 0 (by decide) (hts (.fieldLink RX0 31 "EscrowDesk$Account" "plan" "LEscrowDesk$Plan;") (by decide +kernel)) (fun _ h9 => h9) rfl dX0_payDue_14 ?_
      refine va_getN (D := D) (ci := 7) (v := .ref p5) (C := RX3) (T := TX3) (N := 17) hx hb hts inX3 hown hK hP 7 rfl rfl 9 (by decide) (hC.f (A := _) (a := RX0) (i := 138) (b := "EscrowDesk$Plan") (n := "byPriority") (d := "[I") (x := "EscrowDesk") (by decide +kernel)) (fun _ h9 => h9) rfl dX0_payDue_17 ?_
      refine lv_iload_n hx hb dX0_payDue_20 rfl (lv_at hl 0 rfl) ?_
      obtain ⟨kn3, hn4, hn5⟩ := Rng.get hby (show i1 < 10 by omega)
      refine va_iald hx hb hK hP 9 0 rfl rfl (vp_in_nI (n := i1) (N := 10) (show i1 < 10 by omega) (by decide)) dX0_payDue_21 ?_
      refine lv_topi (fun yn6 eyn6 => ?_)
      obtain rfl : yn6 = (nI kn3) := eyn6.trans (by first | exact hn5 | (rw [nI_clamp (by omega)]; exact hn5))
      refine lv_istore_n (lv' := [(2, .int (nI kn3)), (1, .int (nI i1)), (0, .ref a0)]) hx hb dX0_payDue_22 rfl hl (by decide) rfl (fun ls hl => ?_)
      refine lv_aload_n hx hb dX0_payDue_23 rfl (lv_at hl 2 rfl) ?_
      refine lv_iload_n hx hb dX0_payDue_24 rfl (lv_at hl 0 rfl) ?_
      obtain ⟨hPc, hDc, hFc⟩ := PDq.cut (wc := [(oX0 a0 p0 a1 a3 a4 a5 a6 u0_6_1 u0_7_1 u0_8_1 u0_9_1 u0_10_1 u0_11_1 u0_12_1 u0_13_1 u0_14_1 u0_15_1 u0_16_1 u0_17_1 u0_18_1 u0_19_1), (oX3 p0 pr pb pe pg p1 (nI nd) p2 p3 p4 p5 (nI cn) p6 (nI pq) p7 p8 p9 (nI sc)), (a3, .inl (cA 0, 10, .inl f3_1)), (a4, .inl (cA 0, 10, .inl f4_1)), (p3, .inl (cA 0, 10, .inl fam))]) hP hD hS hA [0, 7, 3, 4, 8] (by decide) rfl
      refine va_calli (va_runV (As := [.int (nI kn3)]) (rest := []) ⟨hx, hb, hml, hown, hts⟩ (s_remainingOf l D cA sa a0 a1 a3 a4 a5 a6 p0 u0_6_1 u0_7_1 u0_8_1 u0_12_1 u0_13_1 u0_14_1 u0_15_1 u0_16_1 u0_17_1 u0_18_1 u0_19_1 u0_9_1 u0_10_1 u0_11_1 p1 p2 p3 p4 p5 p6 p7 p8 p9 cn pq nd sc pr pb pe pg kn3 f3_1 f4_1 fam H.size hn4) (cwV 1 hts gX0_payDue_X0_remainingOf rfl rfl rfl (by decide +kernel) ⟨(Nat.le_of_ble_eq_true rfl), (Nat.le_of_ble_eq_true rfl)⟩) ⟨Wd.blind, va_recv hK hPc (ci := 4) (q0 := 0) rfl rfl, fun U hU hW => ⟨rfl, Wd.call hPc hDc hK hC hZ hS hFc U hU hW⟩⟩ rfl rfl hl.1 rfl (lv_room (Nat.le_of_ble_eq_true rfl)) dX0_payDue_25 ⟨(Nat.le_of_ble_eq_true rfl), (Nat.le_of_ble_eq_true rfl)⟩) hS (fun q _ h => hFc q h) hFc (fun rn7 u t H1 locs ht hvm hw hB hz1 hk1 hS => ?_)
      obtain ⟨hP1, hD1⟩ := hB
      rw [ht] at hP1
      obtain ⟨hP, hD⟩ := PDq.join (w := [(a1, .inr (6, [.ref a2, .int (nI ni), .int (nI ki)])), (a2, .inl (cA 0, 240, .inl f2_1)), (a5, .inl (cA 0, 10, .inl ff)), (a6, .inl (cA 0, 10, .inl fd)), (p5, .inl (cA 0, 10, .inl fby)), (oX0 a0 p0 a1 a3 a4 a5 a6 u0_6_1 u0_7_1 u0_8_1 u0_9_1 u0_10_1 u0_11_1 u0_12_1 u0_13_1 u0_14_1 u0_15_1 u0_16_1 u0_17_1 u0_18_1 u0_19_1), (oX3 p0 pr pb pe pg p1 (nI nd) p2 p3 p4 p5 (nI cn) p6 (nI pq) p7 p8 p9 (nI sc)), (a3, .inl (cA 0, 10, .inl f3_1)), (a4, .inl (cA 0, 10, .inl f4_1)), (p3, .inl (cA 0, 10, .inl fam))]) 5 hP hD [0, 7, 3, 4, 8] [1, 2, 5, 6, 9] rfl rfl (by decide) (by decide +kernel) hk1 hFc hP1 hD1 rfl
      generalize H1 = H at hP hS ⊢
      refine lv_aload_n hx hb dX0_payDue_28 rfl (lv_at hl 2 rfl) ?_
      obtain ⟨hPc, hDc, hFc⟩ := PDq.cut (wc := [(oX0 a0 p0 a1 a3 a4 a5 a6 u0_6_1 u0_7_1 u0_8_1 u0_9_1 u0_10_1 u0_11_1 u0_12_1 u0_13_1 u0_14_1 u0_15_1 u0_16_1 u0_17_1 u0_18_1 u0_19_1), (oX3 p0 pr pb pe pg p1 (nI nd) p2 p3 p4 p5 (nI cn) p6 (nI pq) p7 p8 p9 (nI sc)), (a5, .inl (cA 0, 10, .inl ff))]) hP hD hS hA [5, 6, 2] (by decide) rfl
      refine va_calli (va_runV (As := []) (rest := [.int rn7]) ⟨hx, hb, hml, hown, hts⟩ (s_availMoney l D cA sa a0 a1 a3 a4 a5 a6 p0 u0_6_1 u0_7_1 u0_8_1 u0_12_1 u0_13_1 u0_14_1 u0_15_1 u0_16_1 u0_17_1 u0_18_1 u0_19_1 u0_9_1 u0_10_1 u0_11_1 p1 p2 p3 p4 p5 p6 p7 p8 p9 cn pq nd sc pr pb pe pg ff H.size hcn hpq hnd hsc) (cwV 0 hts gX0_payDue_X0_availableMoney rfl rfl rfl (by decide +kernel) ⟨(Nat.le_of_ble_eq_true rfl), (Nat.le_of_ble_eq_true rfl)⟩) ⟨Wd.blind, va_recv hK hPc (ci := 4) (q0 := 0) rfl rfl, fun U hU hW => ⟨rfl, Wd.call hPc hDc hK hC hZ hS hFc U hU hW⟩⟩ rfl rfl hl.1 rfl (lv_room (Nat.le_of_ble_eq_true rfl)) dX0_payDue_29 ⟨(Nat.le_of_ble_eq_true rfl), (Nat.le_of_ble_eq_true rfl)⟩) hS (fun q _ h => hFc q h) hFc (fun rn8 u t H1 locs ht hvm hw hB hz1 hk1 hS => ?_)
      obtain ⟨hP1, hD1⟩ := hB
      rw [ht] at hP1
      obtain ⟨hP, hD⟩ := PDq.join (w := [(a1, .inr (6, [.ref a2, .int (nI ni), .int (nI ki)])), (a2, .inl (cA 0, 240, .inl f2_1)), (a6, .inl (cA 0, 10, .inl fd)), (p5, .inl (cA 0, 10, .inl fby)), (a3, .inl (cA 0, 10, .inl f3_1)), (a4, .inl (cA 0, 10, .inl f4_1)), (p3, .inl (cA 0, 10, .inl fam)), (oX0 a0 p0 a1 a3 a4 a5 a6 u0_6_1 u0_7_1 u0_8_1 u0_9_1 u0_10_1 u0_11_1 u0_12_1 u0_13_1 u0_14_1 u0_15_1 u0_16_1 u0_17_1 u0_18_1 u0_19_1), (oX3 p0 pr pb pe pg p1 (nI nd) p2 p3 p4 p5 (nI cn) p6 (nI pq) p7 p8 p9 (nI sc)), (a5, .inl (cA 0, 10, .inl ff))]) 7 hP hD [5, 6, 2] [0, 1, 3, 4, 7, 8, 9] rfl rfl (by decide) (by decide +kernel) hk1 hFc hP1 hD1 rfl
      generalize H1 = H at hP hS ⊢
      refine va_mmin hx hb (by rw [hml]; exact hl.1.symm) hown (hts (.methodLink RX0 161 Lib.Math.min.name) (by decide +kernel)) (hts (.static Lib.Math.min.name) (by decide +kernel)) (hts (.initialized "java/lang/Math") (by decide +kernel)) (hts (.code Lib.Math.min.name Lib.Math.min.code 2 (some .int)) (by decide +kernel)) (Nat.le_of_ble_eq_true rfl) (Nat.le_of_ble_eq_true rfl) (Nat.le_of_ble_eq_true rfl) (Nat.le_of_ble_eq_true rfl) dX0_payDue_32 ?_
      refine lv_topi (fun yn9 eyn9 => ?_)
      refine lv_istore_n (lv' := [(3, .int yn9), (2, .int (nI kn3)), (1, .int (nI i1)), (0, .ref a0)]) hx hb dX0_payDue_35 rfl hl (by decide) rfl (fun ls hl => ?_)
      refine lv_aload_n hx hb dX0_payDue_36 rfl (lv_at hl 3 rfl) ?_
      refine lv_iload_n hx hb dX0_payDue_37 rfl (lv_at hl 1 rfl) ?_
      obtain ⟨hPc, hDc, hFc⟩ := PDq.cut (wc := [(oX0 a0 p0 a1 a3 a4 a5 a6 u0_6_1 u0_7_1 u0_8_1 u0_9_1 u0_10_1 u0_11_1 u0_12_1 u0_13_1 u0_14_1 u0_15_1 u0_16_1 u0_17_1 u0_18_1 u0_19_1), (a3, .inl (cA 0, 10, .inl f3_1)), (a6, .inl (cA 0, 10, .inl fd))]) hP hD hS hA [7, 4, 2] (by decide) rfl
      refine va_calli (va_runV (As := [.int (nI kn3)]) (rest := []) ⟨hx, hb, hml, hown, hts⟩ (s_mustBePaid l D cA sa a0 a1 a3 a4 a5 a6 p0 u0_6_1 u0_7_1 u0_8_1 u0_12_1 u0_13_1 u0_14_1 u0_15_1 u0_16_1 u0_17_1 u0_18_1 u0_19_1 u0_9_1 u0_10_1 u0_11_1 kn3 f3_1 fd H.size hn4) (cwV 1 hts gX0_payDue_X0_mustBePaid rfl rfl rfl (by decide +kernel) ⟨(Nat.le_of_ble_eq_true rfl), (Nat.le_of_ble_eq_true rfl)⟩) ⟨Wd.blind, va_recv hK hPc (ci := 4) (q0 := 0) rfl rfl, fun U hU hW => ⟨rfl, Wd.call hPc hDc hK hC hZ hS hFc U hU hW⟩⟩ rfl rfl hl.1 rfl (lv_room (Nat.le_of_ble_eq_true rfl)) dX0_payDue_38 ⟨(Nat.le_of_ble_eq_true rfl), (Nat.le_of_ble_eq_true rfl)⟩) hS (fun q _ h => hFc q h) hFc (fun rn10 u t H1 locs ht hvm hw hB hz1 hk1 hS => ?_)
      obtain ⟨hP1, hD1⟩ := hB
      rw [ht] at hP1
      obtain ⟨hP, hD⟩ := PDq.join (w := [(a1, .inr (6, [.ref a2, .int (nI ni), .int (nI ki)])), (a2, .inl (cA 0, 240, .inl f2_1)), (p5, .inl (cA 0, 10, .inl fby)), (a4, .inl (cA 0, 10, .inl f4_1)), (p3, .inl (cA 0, 10, .inl fam)), (oX3 p0 pr pb pe pg p1 (nI nd) p2 p3 p4 p5 (nI cn) p6 (nI pq) p7 p8 p9 (nI sc)), (a5, .inl (cA 0, 10, .inl ff)), (oX0 a0 p0 a1 a3 a4 a5 a6 u0_6_1 u0_7_1 u0_8_1 u0_9_1 u0_10_1 u0_11_1 u0_12_1 u0_13_1 u0_14_1 u0_15_1 u0_16_1 u0_17_1 u0_18_1 u0_19_1), (a3, .inl (cA 0, 10, .inl f3_1)), (a6, .inl (cA 0, 10, .inl fd))]) 7 hP hD [7, 4, 2] [0, 1, 3, 5, 6, 8, 9] rfl rfl (by decide) (by decide +kernel) hk1 hFc hP1 hD1 rfl
      generalize H1 = H at hP hS ⊢
      have hn11 := hw
      refine lv_if_eq (tgt := 55) hx hb dX0_payDue_41 (by decide) (fun c12 => ?_) (fun c12 => ?_)
      · skip
        refine lv_iinc (v := (nI (i1 + 1))) (lv' := [(1, .int (nI (i1 + 1))), (3, .int yn9), (2, .int (nI kn3)), (0, .ref a0)]) hx hb dX0_payDue_55 hl (k := 2) rfl (nI_1 _) (by decide) rfl (fun ls hl => ?_)
        refine lv_goto (tgt := 2) hx hb dX0_payDue_58 (by decide) ?_
        obtain ⟨hP9, hD9⟩ := PDq.sub (ws' := [(oX0 a0 p0 a1 a3 a4 a5 a6 u0_6_1 u0_7_1 u0_8_1 u0_9_1 u0_10_1 u0_11_1 u0_12_1 u0_13_1 u0_14_1 u0_15_1 u0_16_1 u0_17_1 u0_18_1 u0_19_1), (a1, .inr (6, [.ref a2, .int (nI ni), .int (nI ki)])), (a2, .inl (cA 0, 240, .inl f2_1)), (a3, .inl (cA 0, 10, .inl f3_1)), (a4, .inl (cA 0, 10, .inl f4_1)), (a5, .inl (cA 0, 10, .inl ff)), (a6, .inl (cA 0, 10, .inl fd)), (oX3 p0 pr pb pe pg p1 (nI nd) p2 p3 p4 p5 (nI cn) p6 (nI pq) p7 p8 p9 (nI sc)), (p3, .inl (cA 0, 10, .inl fam)), (p5, .inl (cA 0, 10, .inl fby))]) hP hD [7, 0, 1, 8, 3, 6, 9, 5, 4, 2] (by decide +kernel) rfl
        exact ih1 (i1 + 1) u0_6_1 u0_7_1 u0_8_1 u0_9_1 u0_10_1 u0_11_1 u0_12_1 u0_13_1 u0_14_1 u0_15_1 u0_16_1 u0_17_1 u0_18_1 u0_19_1 ni ki f2_1 f3_1 f4_1 H _ ls (by omega) hv0_1 hv1_1 hP9 hD9 hS (lv_sub hl [0, 3] rfl)
      · skip
        refine lv_iload_n hx hb dX0_payDue_44 rfl (lv_at hl 0 rfl) ?_
        refine lv_if_le (tgt := 55) hx hb dX0_payDue_45 (by decide) (fun c13 => ?_) (fun c13 => ?_)
        · skip
          refine lv_iinc (v := (nI (i1 + 1))) (lv' := [(1, .int (nI (i1 + 1))), (3, .int yn9), (2, .int (nI kn3)), (0, .ref a0)]) hx hb dX0_payDue_55 hl (k := 2) rfl (nI_1 _) (by decide) rfl (fun ls hl => ?_)
          refine lv_goto (tgt := 2) hx hb dX0_payDue_58 (by decide) ?_
          obtain ⟨hP9, hD9⟩ := PDq.sub (ws' := [(oX0 a0 p0 a1 a3 a4 a5 a6 u0_6_1 u0_7_1 u0_8_1 u0_9_1 u0_10_1 u0_11_1 u0_12_1 u0_13_1 u0_14_1 u0_15_1 u0_16_1 u0_17_1 u0_18_1 u0_19_1), (a1, .inr (6, [.ref a2, .int (nI ni), .int (nI ki)])), (a2, .inl (cA 0, 240, .inl f2_1)), (a3, .inl (cA 0, 10, .inl f3_1)), (a4, .inl (cA 0, 10, .inl f4_1)), (a5, .inl (cA 0, 10, .inl ff)), (a6, .inl (cA 0, 10, .inl fd)), (oX3 p0 pr pb pe pg p1 (nI nd) p2 p3 p4 p5 (nI cn) p6 (nI pq) p7 p8 p9 (nI sc)), (p3, .inl (cA 0, 10, .inl fam)), (p5, .inl (cA 0, 10, .inl fby))]) hP hD [7, 0, 1, 8, 3, 6, 9, 5, 4, 2] (by decide +kernel) rfl
          exact ih1 (i1 + 1) u0_6_1 u0_7_1 u0_8_1 u0_9_1 u0_10_1 u0_11_1 u0_12_1 u0_13_1 u0_14_1 u0_15_1 u0_16_1 u0_17_1 u0_18_1 u0_19_1 ni ki f2_1 f3_1 f4_1 H _ ls (by omega) hv0_1 hv1_1 hP9 hD9 hS (lv_sub hl [0, 3] rfl)
        · skip
          refine lv_aload_n hx hb dX0_payDue_48 rfl (lv_at hl 3 rfl) ?_
          refine lv_iload_n hx hb dX0_payDue_49 rfl (lv_at hl 1 rfl) ?_
          refine lv_iload_n hx hb dX0_payDue_50 rfl (lv_at hl 0 rfl) ?_
          obtain ⟨hPc, hDc, hFc⟩ := PDq.cut (wc := [(oX0 a0 p0 a1 a3 a4 a5 a6 u0_6_1 u0_7_1 u0_8_1 u0_9_1 u0_10_1 u0_11_1 u0_12_1 u0_13_1 u0_14_1 u0_15_1 u0_16_1 u0_17_1 u0_18_1 u0_19_1), (a1, .inr (6, [.ref a2, .int (nI ni), .int (nI ki)])), (a2, .inl (cA 0, 240, .inl f2_1)), (a3, .inl (cA 0, 10, .inl f3_1)), (a4, .inl (cA 0, 10, .inl f4_1)), (oX3 p0 pr pb pe pg p1 (nI nd) p2 p3 p4 p5 (nI cn) p6 (nI pq) p7 p8 p9 (nI sc)), (p3, .inl (cA 0, 10, .inl fam))]) hP hD hS hA [7, 0, 1, 8, 3, 5, 4] (by decide) rfl
          refine va_calli (va_runV (As := [.int (nI kn3), .int yn9]) (rest := []) ⟨hx, hb, hml, hown, hts⟩ (s_makePayment l D cA sa a0 a1 a2 a3 a4 a5 a6 p0 u0_6_1 u0_7_1 u0_8_1 u0_12_1 u0_13_1 u0_14_1 u0_15_1 u0_16_1 u0_17_1 u0_18_1 u0_19_1 u0_9_1 u0_10_1 u0_11_1 ni ki f2_1 p1 p2 p3 p4 p5 p6 p7 p8 p9 cn pq nd sc pr pb pe pg f3_1 f4_1 fam kn3 yn9 H.size hv0_1 hv1_1 hn4) (cwV 2 hts gX0_payDue_X0_makePayment rfl rfl rfl (by decide +kernel) ⟨(Nat.le_of_ble_eq_true rfl), (Nat.le_of_ble_eq_true rfl)⟩) ⟨Wd.blind, va_recv hK hPc (ci := 4) (q0 := 0) rfl rfl, fun U hU hW => ⟨rfl, Wd.call hPc hDc hK hC hZ hS hFc U hU hW⟩⟩ rfl rfl hl.1 rfl (lv_room (Nat.le_of_ble_eq_true rfl)) dX0_payDue_51 ⟨(Nat.le_of_ble_eq_true rfl), (Nat.le_of_ble_eq_true rfl)⟩) hS (fun q _ h => hFc q h) hFc (fun rn14 u t H1 locs ht hvm hw hB hz1 hk1 hS => ?_)
          obtain ⟨zn15, zn16, zn17, zn18, zn19, zn20, zn21, zn22, zn23, zn24, zn25, zn26, zn27, zn28, qn29, qn30, fn31, fn32, fn33, hn34, hn35, hP1, hD1⟩ := hB
          rw [ht] at hP1
          obtain ⟨hP, hD⟩ := PDq.join (w := [(p5, .inl (cA 0, 10, .inl fby)), (a5, .inl (cA 0, 10, .inl ff)), (a6, .inl (cA 0, 10, .inl fd)), (oX0 a0 p0 a1 a3 a4 a5 a6 zn15 zn16 zn17 zn26 zn27 zn28 zn18 zn19 zn20 zn21 zn22 zn23 zn24 zn25), (a1, .inr (6, [.ref a2, .int (nI qn29), .int (nI qn30)])), (a2, .inl (cA 0, 240, .inl fn31)), (a3, .inl (cA 0, 10, .inl fn32)), (a4, .inl (cA 0, 10, .inl fn33)), (oX3 p0 pr pb pe pg p1 (nI nd) p2 p3 p4 p5 (nI cn) p6 (nI pq) p7 p8 p9 (nI sc)), (p3, .inl (cA 0, 10, .inl fam))]) 3 hP hD [7, 0, 1, 8, 3, 5, 4] [2, 6, 9] rfl rfl (by decide) (by decide +kernel) hk1 hFc hP1 hD1 rfl
          generalize H1 = H at hP hS ⊢
          refine lv_pop hx hb dX0_payDue_54 rfl ?_
          refine lv_iinc (v := (nI (i1 + 1))) (lv' := [(1, .int (nI (i1 + 1))), (3, .int yn9), (2, .int (nI kn3)), (0, .ref a0)]) hx hb dX0_payDue_55 hl (k := 2) rfl (nI_1 _) (by decide) rfl (fun ls hl => ?_)
          refine lv_goto (tgt := 2) hx hb dX0_payDue_58 (by decide) ?_
          obtain ⟨hP9, hD9⟩ := PDq.sub (ws' := [(oX0 a0 p0 a1 a3 a4 a5 a6 zn15 zn16 zn17 zn26 zn27 zn28 zn18 zn19 zn20 zn21 zn22 zn23 zn24 zn25), (a1, .inr (6, [.ref a2, .int (nI qn29), .int (nI qn30)])), (a2, .inl (cA 0, 240, .inl fn31)), (a3, .inl (cA 0, 10, .inl fn32)), (a4, .inl (cA 0, 10, .inl fn33)), (a5, .inl (cA 0, 10, .inl ff)), (a6, .inl (cA 0, 10, .inl fd)), (oX3 p0 pr pb pe pg p1 (nI nd) p2 p3 p4 p5 (nI cn) p6 (nI pq) p7 p8 p9 (nI sc)), (p3, .inl (cA 0, 10, .inl fam)), (p5, .inl (cA 0, 10, .inl fby))]) hP hD [3, 4, 5, 6, 7, 1, 2, 8, 9, 0] (by decide +kernel) rfl
          exact ih1 (i1 + 1) zn15 zn16 zn17 zn26 zn27 zn28 zn18 zn19 zn20 zn21 zn22 zn23 zn24 zn25 qn29 qn30 fn31 fn32 fn33 H _ ls (by omega) hn34 hn35 hP9 hD9 hS (lv_sub hl [0, 3] rfl)
  obtain ⟨hP9, hD9⟩ := PDq.sub (ws' := [(oX0 a0 p0 a1 a3 a4 a5 a6 i6 i7 i8 i9 i10 i11 i12 i13 i14 i15 i16 i17 i18 i19), (a1, .inr (6, [.ref a2, .int (nI nx), .int (nI kp)])), (a2, .inl (cA 0, 240, .inl fr)), (a3, .inl (cA 0, 10, .inl fs)), (a4, .inl (cA 0, 10, .inl fp)), (a5, .inl (cA 0, 10, .inl ff)), (a6, .inl (cA 0, 10, .inl fd)), (oX3 p0 pr pb pe pg p1 (nI nd) p2 p3 p4 p5 (nI cn) p6 (nI pq) p7 p8 p9 (nI sc)), (p3, .inl (cA 0, 10, .inl fam)), (p5, .inl (cA 0, 10, .inl fby))]) hP hD [0, 1, 2, 3, 4, 5, 6, 7, 8, 9] (by decide +kernel) rfl
  exact loop1 (cn - 0) 0 i6 i7 i8 i9 i10 i11 i12 i13 i14 i15 i16 i17 i18 i19 nx kp fr fs fp _ _ ls (by omega) hnx hkp hP9 hD9 hS (lv_sub hl [0, 1] rfl)

set_option maxHeartbeats 4000000 in
set_option maxRecDepth 100000 in
/-- liveDay -/
theorem s_liveDay (l : Launch) (D : va_G) (cA : Nat → ClassId) (sa : Nat → Nat) (a0 : Nat) (a1 : Nat) (a2 : Nat) (a3 : Nat) (a4 : Nat) (a5 : Nat) (a6 : Nat) (p0 : Nat) (i6 : Int32) (i7 : Int32) (i8 : Int32) (i12 : Int32) (i13 : Int32) (i14 : Int32) (i15 : Int32) (i16 : Int32) (i17 : Int32) (i18 : Int32) (i19 : Int32) (i9 : Int64) (i10 : Int64) (i11 : Int64) (nx : Nat) (kp : Nat) (fr : Nat → Int32) (p1 : Nat) (p2 : Nat) (p3 : Nat) (p4 : Nat) (p5 : Nat) (p6 : Nat) (p7 : Nat) (p8 : Nat) (p9 : Nat) (cn : Nat) (pq : Nat) (nd : Nat) (sc : Nat) (pr : Int32) (pb : Int32) (pe : Int32) (pg : Int32) (fs : Nat → Int32) (fp : Nat → Int32) (ff : Nat → Int32) (fd : Nat → Int32) (fam : Nat → Int32) (fby : Nat → Int32) (fen : Nat → Int32) (fst : Nat → Int32) (fop : Nat → Int32) (sz : Nat) (hnx : nx < 60) (hkp : kp ≤ 60) (hcn : cn ≤ 10) (hpq : pq ≤ 8) (hnd : nd ≤ 6) (hsc : sc ≤ 350) (hby : Rng 10 10 fby) (hen : Rng 10 351 fen) : Met l yX0_liveDay wsX0_liveDay ({ frames := 4, cells := 0, slots := 0, locals := 98 }) (va_Pc [.ref a0] (Wd D cA sa [(oX0 a0 p0 a1 a3 a4 a5 a6 i6 i7 i8 i9 i10 i11 i12 i13 i14 i15 i16 i17 i18 i19), (a1, .inr (6, [.ref a2, .int (nI nx), .int (nI kp)])), (a2, .inl (cA 0, 240, .inl fr)), (a3, .inl (cA 0, 10, .inl fs)), (a4, .inl (cA 0, 10, .inl fp)), (a5, .inl (cA 0, 10, .inl ff)), (a6, .inl (cA 0, 10, .inl fd)), (oX3 p0 pr pb pe pg p1 (nI nd) p2 p3 p4 p5 (nI cn) p6 (nI pq) p7 p8 p9 (nI sc)), (p3, .inl (cA 0, 10, .inl fam)), (p5, .inl (cA 0, 10, .inl fby)), (p9, .inl (cA 0, 10, .inl fen)), (p7, .inl (cA 0, 350, .inl fst)), (p8, .inl (cA 0, 350, .inl fop))] sz)) (va_Qv (fun _ : Unit => True) (fun (_ : Unit) t => ∃ z6 : Int32, ∃ z7 : Int32, ∃ z8 : Int32, ∃ z12 : Int32, ∃ z13 : Int32, ∃ z14 : Int32, ∃ z15 : Int32, ∃ z16 : Int32, ∃ z17 : Int32, ∃ z18 : Int32, ∃ z19 : Int32, ∃ z9 : Int64, ∃ z10 : Int64, ∃ z11 : Int64, ∃ ny : Nat, ∃ ky : Nat, ∃ zr : Nat → Int32, ∃ zs : Nat → Int32, ∃ zp : Nat → Int32, ∃ zf : Nat → Int32, ∃ zd : Nat → Int32, ny < 60 ∧ ky ≤ 60 ∧ Wq D (va_A [(oX0 a0 p0 a1 a3 a4 a5 a6 i6 i7 i8 i9 i10 i11 i12 i13 i14 i15 i16 i17 i18 i19), (a1, .inr (6, [.ref a2, .int (nI nx), .int (nI kp)])), (a2, .inl (cA 0, 240, .inl fr)), (a3, .inl (cA 0, 10, .inl fs)), (a4, .inl (cA 0, 10, .inl fp)), (a5, .inl (cA 0, 10, .inl ff)), (a6, .inl (cA 0, 10, .inl fd)), (oX3 p0 pr pb pe pg p1 (nI nd) p2 p3 p4 p5 (nI cn) p6 (nI pq) p7 p8 p9 (nI sc)), (p3, .inl (cA 0, 10, .inl fam)), (p5, .inl (cA 0, 10, .inl fby)), (p9, .inl (cA 0, 10, .inl fen)), (p7, .inl (cA 0, 350, .inl fst)), (p8, .inl (cA 0, 350, .inl fop))] sz) [(oX0 a0 p0 a1 a3 a4 a5 a6 z6 z7 z8 z9 z10 z11 z12 z13 z14 z15 z16 z17 z18 z19), (a1, .inr (6, [.ref a2, .int (nI ny), .int (nI ky)])), (a2, .inl (cA 0, 240, .inl zr)), (a3, .inl (cA 0, 10, .inl zs)), (a4, .inl (cA 0, 10, .inl zp)), (a5, .inl (cA 0, 10, .inl zf)), (a6, .inl (cA 0, 10, .inl zd)), (oX3 p0 pr pb pe pg p1 (nI nd) p2 p3 p4 p5 (nI cn) p6 (nI pq) p7 p8 p9 (nI sc)), (p3, .inl (cA 0, 10, .inl fam)), (p5, .inl (cA 0, 10, .inl fby)), (p9, .inl (cA 0, 10, .inl fen)), (p7, .inl (cA 0, 350, .inl fst)), (p8, .inl (cA 0, 350, .inl fop))] t) (va_A [(oX0 a0 p0 a1 a3 a4 a5 a6 i6 i7 i8 i9 i10 i11 i12 i13 i14 i15 i16 i17 i18 i19), (a1, .inr (6, [.ref a2, .int (nI nx), .int (nI kp)])), (a2, .inl (cA 0, 240, .inl fr)), (a3, .inl (cA 0, 10, .inl fs)), (a4, .inl (cA 0, 10, .inl fp)), (a5, .inl (cA 0, 10, .inl ff)), (a6, .inl (cA 0, 10, .inl fd)), (oX3 p0 pr pb pe pg p1 (nI nd) p2 p3 p4 p5 (nI cn) p6 (nI pq) p7 p8 p9 (nI sc)), (p3, .inl (cA 0, 10, .inl fam)), (p5, .inl (cA 0, 10, .inl fby)), (p9, .inl (cA 0, 10, .inl fen)), (p7, .inl (cA 0, 350, .inl fst)), (p8, .inl (cA 0, 350, .inl fop))] sz)) 0 0 (va_A [(oX0 a0 p0 a1 a3 a4 a5 a6 i6 i7 i8 i9 i10 i11 i12 i13 i14 i15 i16 i17 i18 i19), (a1, .inr (6, [.ref a2, .int (nI nx), .int (nI kp)])), (a2, .inl (cA 0, 240, .inl fr)), (a3, .inl (cA 0, 10, .inl fs)), (a4, .inl (cA 0, 10, .inl fp)), (a5, .inl (cA 0, 10, .inl ff)), (a6, .inl (cA 0, 10, .inl fd)), (oX3 p0 pr pb pe pg p1 (nI nd) p2 p3 p4 p5 (nI cn) p6 (nI pq) p7 p8 p9 (nI sc)), (p3, .inl (cA 0, 10, .inl fam)), (p5, .inl (cA 0, 10, .inl fby)), (p9, .inl (cA 0, 10, .inl fen)), (p7, .inl (cA 0, 350, .inl fst)), (p8, .inl (cA 0, 350, .inl fop))] sz) := by
  refine Met.ofW (cc := cX0_liveDay) (maxL := 1) (ret := none) (by decide) rfl ?_
  intro p e s m args below meth c s₁ B hml hv
  obtain ⟨rfl, hsz, hP, hK, hD0, hC, hZ⟩ := hv
  have hx := B.exec
  have hb := B.bytes
  have hr := B.returns
  have hts := atoms_spec (ws := wsX0_liveDay) B.pre
  have hown : s.vm.findClass RX0 = some m.cls := findClass_of_methodNamed B.named
  have hlocks := B.notSynchronized
  subst hsz
  have hD := hD0.self (sz := s.heap.size)
  generalize hAe : va_A [(oX0 a0 p0 a1 a3 a4 a5 a6 i6 i7 i8 i9 i10 i11 i12 i13 i14 i15 i16 i17 i18 i19), (a1, .inr (6, [.ref a2, .int (nI nx), .int (nI kp)])), (a2, .inl (cA 0, 240, .inl fr)), (a3, .inl (cA 0, 10, .inl fs)), (a4, .inl (cA 0, 10, .inl fp)), (a5, .inl (cA 0, 10, .inl ff)), (a6, .inl (cA 0, 10, .inl fd)), (oX3 p0 pr pb pe pg p1 (nI nd) p2 p3 p4 p5 (nI cn) p6 (nI pq) p7 p8 p9 (nI sc)), (p3, .inl (cA 0, 10, .inl fam)), (p5, .inl (cA 0, 10, .inl fby)), (p9, .inl (cA 0, 10, .inl fen)), (p7, .inl (cA 0, 350, .inl fst)), (p8, .inl (cA 0, 350, .inl fop))] s.heap.size = A at hD hZ ⊢
  have hA : ∀ q : Nat, s.heap.size ≤ q → A q := fun q h => by rw [← hAe]; exact Or.inr h
  have hS : va_S A s.heap s.heap [] := va_S.rf
  have hP : va_P D vwCl [(oX0 a0 p0 a1 a3 a4 a5 a6 i6 i7 i8 i9 i10 i11 i12 i13 i14 i15 i16 i17 i18 i19), (a1, .inr (6, [.ref a2, .int (nI nx), .int (nI kp)])), (a2, .inl (cA 0, 240, .inl fr)), (a3, .inl (cA 0, 10, .inl fs)), (a4, .inl (cA 0, 10, .inl fp)), (a5, .inl (cA 0, 10, .inl ff)), (a6, .inl (cA 0, 10, .inl fd)), (oX3 p0 pr pb pe pg p1 (nI nd) p2 p3 p4 p5 (nI cn) p6 (nI pq) p7 p8 p9 (nI sc)), (p3, .inl (cA 0, 10, .inl fam)), (p5, .inl (cA 0, 10, .inl fby)), (p9, .inl (cA 0, 10, .inl fen)), (p7, .inl (cA 0, 350, .inl fst)), (p8, .inl (cA 0, 350, .inl fop))] s.heap := hP
  have hl := lv_entry ([.ref a0]) (n := 1) (Nat.le_of_ble_eq_true rfl)
  rw [lg_entry_eq]
  generalize (lg_sl ([.ref a0]) ++ List.replicate (1 - (lg_sl ([.ref a0])).length) Slot.unset).toArray = ls at hl ⊢
  have hl : lv_has ls 1 [(0, .ref a0)] := hl
  have inX0 : ∀ w ∈ u_ws RX0 TX0 20, w ∈ wsX0_liveDay := by decide +kernel
  refine lv_aload_n hx hb dX0_liveDay_0 rfl (lv_at hl 0 rfl) ?_
  refine lv_dup hx hb dX0_liveDay_1 rfl ?_
  refine va_get (D := D) (ci := 4) (v := .long i11) (C := RX0) (T := TX0) (N := 20) hx hb hts inX0 hown hK hP 0 rfl rfl 11 (by decide) (hts (.fieldLink RX0 57 "EscrowDesk$Account" "accruedParts" "J") (by decide +kernel)) (fun _ h9 => h9) rfl dX0_liveDay_2 ?_
  refine lv_aload_n hx hb dX0_liveDay_5 rfl (lv_at hl 0 rfl) ?_
  refine va_get (D := D) (ci := 4) (v := .int i8) (C := RX0) (T := TX0) (N := 20) hx hb hts inX0 hown hK hP 0 rfl rfl 8 (by decide) (hts (.fieldLink RX0 47 "EscrowDesk$Account" "principal" "I") (by decide +kernel)) (fun _ h9 => h9) rfl dX0_liveDay_6 ?_
  refine lv_i2l (v := (i8.toInt64)) hx hb dX0_liveDay_9 rfl ?_
  refine lv_aload_n hx hb dX0_liveDay_10 rfl (lv_at hl 0 rfl) ?_
  refine va_get (D := D) (ci := 4) (v := .long i9) (C := RX0) (T := TX0) (N := 20) hx hb hts inX0 hown hK hP 0 rfl rfl 9 (by decide) (hts (.fieldLink RX0 50 "EscrowDesk$Account" "interestPot" "J") (by decide +kernel)) (fun _ h9 => h9) rfl dX0_liveDay_11 ?_
  refine lv_ladd hx hb dX0_liveDay_14 ?_
  refine lv_topl (fun yn1 eyn1 => ?_)
  refine lv_aload_n hx hb dX0_liveDay_15 rfl (lv_at hl 0 rfl) ?_
  refine va_get (D := D) (ci := 4) (v := .int i15) (C := RX0) (T := TX0) (N := 20) hx hb hts inX0 hown hK hP 0 rfl rfl 15 (by decide) (hts (.fieldLink RX0 74 "EscrowDesk$Account" "rate" "I") (by decide +kernel)) (fun _ h9 => h9) rfl dX0_liveDay_16 ?_
  refine lv_i2l (v := (i15.toInt64)) hx hb dX0_liveDay_19 rfl ?_
  refine lv_lmul hx hb dX0_liveDay_20 ?_
  refine lv_topl (fun yn2 eyn2 => ?_)
  refine lv_ladd hx hb dX0_liveDay_21 ?_
  refine lv_topl (fun yn3 eyn3 => ?_)
  refine va_put (D := D) (ci := 4) (v := .long yn3) (ty := .long) (C := RX0) (T := TX0) (N := 20) hx hb hts inX0 tyX0 tyX0_ok nmX0 hown hK hP hD hS 0 rfl rfl 11 (by decide) (hts (.fieldLink RX0 57 "EscrowDesk$Account" "accruedParts" "J") (by decide +kernel)) (fun _ h9 => h9) rfl (by decide +kernel) rfl rfl (Nat.le_of_ble_eq_true rfl) dX0_liveDay_22 (fun H locs hP hD hS => ?_)
  obtain ⟨hP, hD⟩ : PDq D A [(oX0 a0 p0 a1 a3 a4 a5 a6 i6 i7 i8 i9 i10 yn3 i12 i13 i14 i15 i16 i17 i18 i19), (a1, .inr (6, [.ref a2, .int (nI nx), .int (nI kp)])), (a2, .inl (cA 0, 240, .inl fr)), (a3, .inl (cA 0, 10, .inl fs)), (a4, .inl (cA 0, 10, .inl fp)), (a5, .inl (cA 0, 10, .inl ff)), (a6, .inl (cA 0, 10, .inl fd)), (oX3 p0 pr pb pe pg p1 (nI nd) p2 p3 p4 p5 (nI cn) p6 (nI pq) p7 p8 p9 (nI sc)), (p3, .inl (cA 0, 10, .inl fam)), (p5, .inl (cA 0, 10, .inl fby)), (p9, .inl (cA 0, 10, .inl fen)), (p7, .inl (cA 0, 350, .inl fst)), (p8, .inl (cA 0, 350, .inl fop))] H := ⟨hP, hD⟩
  refine lv_aload_n hx hb dX0_liveDay_25 rfl (lv_at hl 0 rfl) ?_
  refine lv_dup hx hb dX0_liveDay_26 rfl ?_
  refine va_get (D := D) (ci := 4) (v := .int i6) (C := RX0) (T := TX0) (N := 20) hx hb hts inX0 hown hK hP 0 rfl rfl 6 (by decide) (hts (.fieldLink RX0 40 "EscrowDesk$Account" "day" "I") (by decide +kernel)) (fun _ h9 => h9) rfl dX0_liveDay_27 ?_
  refine lv_iconst (v := 1) hx hb dX0_liveDay_30 (by decide) ?_
  refine lv_iadd hx hb dX0_liveDay_31 ?_
  refine lv_topi (fun yn4 eyn4 => ?_)
  refine va_put (D := D) (ci := 4) (v := .int yn4) (ty := .int) (C := RX0) (T := TX0) (N := 20) hx hb hts inX0 tyX0 tyX0_ok nmX0 hown hK hP hD hS 0 rfl rfl 6 (by decide) (hts (.fieldLink RX0 40 "EscrowDesk$Account" "day" "I") (by decide +kernel)) (fun _ h9 => h9) rfl (by decide +kernel) rfl rfl (Nat.le_of_ble_eq_true rfl) dX0_liveDay_32 (fun H locs hP hD hS => ?_)
  obtain ⟨hP, hD⟩ : PDq D A [(oX0 a0 p0 a1 a3 a4 a5 a6 yn4 i7 i8 i9 i10 yn3 i12 i13 i14 i15 i16 i17 i18 i19), (a1, .inr (6, [.ref a2, .int (nI nx), .int (nI kp)])), (a2, .inl (cA 0, 240, .inl fr)), (a3, .inl (cA 0, 10, .inl fs)), (a4, .inl (cA 0, 10, .inl fp)), (a5, .inl (cA 0, 10, .inl ff)), (a6, .inl (cA 0, 10, .inl fd)), (oX3 p0 pr pb pe pg p1 (nI nd) p2 p3 p4 p5 (nI cn) p6 (nI pq) p7 p8 p9 (nI sc)), (p3, .inl (cA 0, 10, .inl fam)), (p5, .inl (cA 0, 10, .inl fby)), (p9, .inl (cA 0, 10, .inl fen)), (p7, .inl (cA 0, 350, .inl fst)), (p8, .inl (cA 0, 350, .inl fop))] H := ⟨hP, hD⟩
  refine lv_aload_n hx hb dX0_liveDay_35 rfl (lv_at hl 0 rfl) ?_
  refine va_get (D := D) (ci := 4) (v := .int yn4) (C := RX0) (T := TX0) (N := 20) hx hb hts inX0 hown hK hP 0 rfl rfl 6 (by decide) (hts (.fieldLink RX0 40 "EscrowDesk$Account" "day" "I") (by decide +kernel)) (fun _ h9 => h9) rfl dX0_liveDay_36 ?_
  refine lv_bipush (v := 30) hx hb dX0_liveDay_39 (by decide) ?_
  refine lv_irem hx hb dX0_liveDay_41 (by decide) ?_
  refine lv_topi (fun yn5 eyn5 => ?_)
  refine lv_if_ne (tgt := 49) hx hb dX0_liveDay_42 (by decide) (fun c6 => ?_) (fun c6 => ?_)
  · skip
    refine lv_aload_n hx hb dX0_liveDay_49 rfl (lv_at hl 0 rfl) ?_
    obtain ⟨hPc, hDc, hFc⟩ := PDq.cut (wc := [(oX0 a0 p0 a1 a3 a4 a5 a6 yn4 i7 i8 i9 i10 yn3 i12 i13 i14 i15 i16 i17 i18 i19), (oX3 p0 pr pb pe pg p1 (nI nd) p2 p3 p4 p5 (nI cn) p6 (nI pq) p7 p8 p9 (nI sc)), (p9, .inl (cA 0, 10, .inl fen)), (p7, .inl (cA 0, 350, .inl fst)), (p8, .inl (cA 0, 350, .inl fop)), (a3, .inl (cA 0, 10, .inl fs)), (a6, .inl (cA 0, 10, .inl fd))]) hP hD hS hA [0, 7, 10, 11, 12, 3, 6] (by decide) rfl
    refine va_callv (va_runV (As := []) (rest := []) ⟨hx, hb, hml, hown, hts⟩ (s_makeDue l D cA sa a0 a1 a3 a4 a5 a6 p0 yn4 i7 i8 i12 i13 i14 i15 i16 i17 i18 i19 i9 i10 yn3 p1 p2 p3 p4 p5 p6 p7 p8 p9 cn pq nd sc pr pb pe pg fen fst fop fs fd H.size hcn hpq hnd hsc hen) (cwV 0 hts gX0_liveDay_X0_makeDue rfl rfl rfl (by decide +kernel) ⟨(Nat.le_of_ble_eq_true rfl), (Nat.le_of_ble_eq_true rfl)⟩) ⟨Wd.blind, va_recv hK hPc (ci := 4) (q0 := 0) rfl rfl, fun U hU hW => ⟨rfl, Wd.call hPc hDc hK hC hZ hS hFc U hU hW⟩⟩ rfl rfl hl.1 rfl (lv_room (Nat.le_of_ble_eq_true rfl)) dX0_liveDay_50 ⟨(Nat.le_of_ble_eq_true rfl), (Nat.le_of_ble_eq_true rfl)⟩) hS (fun q _ h => hFc q h) hFc (fun u t H1 locs ht hvm hw hB hz1 hk1 hS => ?_)
    obtain ⟨zn7, zn8, zn9, zn10, zn11, zn12, zn13, zn14, zn15, zn16, zn17, zn18, zn19, zn20, fn21, fn22, hP1, hD1⟩ := hB
    rw [ht] at hP1
    obtain ⟨hP, hD⟩ := PDq.join (w := [(a1, .inr (6, [.ref a2, .int (nI nx), .int (nI kp)])), (a2, .inl (cA 0, 240, .inl fr)), (a4, .inl (cA 0, 10, .inl fp)), (a5, .inl (cA 0, 10, .inl ff)), (p3, .inl (cA 0, 10, .inl fam)), (p5, .inl (cA 0, 10, .inl fby)), (oX0 a0 p0 a1 a3 a4 a5 a6 zn7 zn8 zn9 zn18 zn19 zn20 zn10 zn11 zn12 zn13 zn14 zn15 zn16 zn17), (oX3 p0 pr pb pe pg p1 (nI nd) p2 p3 p4 p5 (nI cn) p6 (nI pq) p7 p8 p9 (nI sc)), (p9, .inl (cA 0, 10, .inl fen)), (p7, .inl (cA 0, 350, .inl fst)), (p8, .inl (cA 0, 350, .inl fop)), (a3, .inl (cA 0, 10, .inl fn21)), (a6, .inl (cA 0, 10, .inl fn22))]) 6 hP hD [0, 7, 10, 11, 12, 3, 6] [1, 2, 4, 5, 8, 9] rfl rfl (by decide) (by decide +kernel) hk1 hFc hP1 hD1 rfl
    generalize H1 = H at hP hS ⊢
    refine lv_aload_n hx hb dX0_liveDay_53 rfl (lv_at hl 0 rfl) ?_
    obtain ⟨hPc, hDc, hFc⟩ := PDq.cut (wc := [(oX0 a0 p0 a1 a3 a4 a5 a6 zn7 zn8 zn9 zn18 zn19 zn20 zn10 zn11 zn12 zn13 zn14 zn15 zn16 zn17), (a1, .inr (6, [.ref a2, .int (nI nx), .int (nI kp)])), (a2, .inl (cA 0, 240, .inl fr)), (a3, .inl (cA 0, 10, .inl fn21)), (a4, .inl (cA 0, 10, .inl fp)), (a5, .inl (cA 0, 10, .inl ff)), (a6, .inl (cA 0, 10, .inl fn22)), (oX3 p0 pr pb pe pg p1 (nI nd) p2 p3 p4 p5 (nI cn) p6 (nI pq) p7 p8 p9 (nI sc)), (p3, .inl (cA 0, 10, .inl fam)), (p5, .inl (cA 0, 10, .inl fby))]) hP hD hS hA [6, 0, 1, 11, 2, 3, 12, 7, 4, 5] (by decide +kernel) rfl
    refine va_callv (va_runV (As := []) (rest := []) ⟨hx, hb, hml, hown, hts⟩ (s_payDue l D cA sa a0 a1 a2 a3 a4 a5 a6 p0 zn7 zn8 zn9 zn10 zn11 zn12 zn13 zn14 zn15 zn16 zn17 zn18 zn19 zn20 nx kp fr p1 p2 p3 p4 p5 p6 p7 p8 p9 cn pq nd sc pr pb pe pg fn21 fp ff fn22 fam fby H.size hnx hkp hcn hpq hnd hsc hby) (cwV 0 hts gX0_liveDay_X0_payDue rfl rfl rfl (by decide +kernel) ⟨(Nat.le_of_ble_eq_true rfl), (Nat.le_of_ble_eq_true rfl)⟩) ⟨Wd.blind, va_recv hK hPc (ci := 4) (q0 := 0) rfl rfl, fun U hU hW => ⟨rfl, Wd.call hPc hDc hK hC hZ hS hFc U hU hW⟩⟩ rfl rfl hl.1 rfl (lv_room (Nat.le_of_ble_eq_true rfl)) dX0_liveDay_54 ⟨(Nat.le_of_ble_eq_true rfl), (Nat.le_of_ble_eq_true rfl)⟩) hS (fun q _ h => hFc q h) hFc (fun u t H1 locs ht hvm hw hB hz1 hk1 hS => ?_)
    obtain ⟨zn23, zn24, zn25, zn26, zn27, zn28, zn29, zn30, zn31, zn32, zn33, zn34, zn35, zn36, qn37, qn38, fn39, fn40, fn41, fn42, fn43, hn44, hn45, hP1, hD1⟩ := hB
    rw [ht] at hP1
    obtain ⟨hP, hD⟩ := PDq.join (w := [(p9, .inl (cA 0, 10, .inl fen)), (p7, .inl (cA 0, 350, .inl fst)), (p8, .inl (cA 0, 350, .inl fop)), (oX0 a0 p0 a1 a3 a4 a5 a6 zn23 zn24 zn25 zn34 zn35 zn36 zn26 zn27 zn28 zn29 zn30 zn31 zn32 zn33), (a1, .inr (6, [.ref a2, .int (nI qn37), .int (nI qn38)])), (a2, .inl (cA 0, 240, .inl fn39)), (a3, .inl (cA 0, 10, .inl fn40)), (a4, .inl (cA 0, 10, .inl fn41)), (a5, .inl (cA 0, 10, .inl fn42)), (a6, .inl (cA 0, 10, .inl fn43)), (oX3 p0 pr pb pe pg p1 (nI nd) p2 p3 p4 p5 (nI cn) p6 (nI pq) p7 p8 p9 (nI sc)), (p3, .inl (cA 0, 10, .inl fam)), (p5, .inl (cA 0, 10, .inl fby))]) 3 hP hD [6, 0, 1, 11, 2, 3, 12, 7, 4, 5] [8, 9, 10] rfl rfl (by decide) (by decide +kernel) hk1 hFc hP1 hD1 rfl
    generalize H1 = H at hP hS ⊢
    obtain ⟨hP9, hD9⟩ := PDq.sub (ws' := [(oX0 a0 p0 a1 a3 a4 a5 a6 zn23 zn24 zn25 zn34 zn35 zn36 zn26 zn27 zn28 zn29 zn30 zn31 zn32 zn33), (a1, .inr (6, [.ref a2, .int (nI qn37), .int (nI qn38)])), (a2, .inl (cA 0, 240, .inl fn39)), (a3, .inl (cA 0, 10, .inl fn40)), (a4, .inl (cA 0, 10, .inl fn41)), (a5, .inl (cA 0, 10, .inl fn42)), (a6, .inl (cA 0, 10, .inl fn43)), (oX3 p0 pr pb pe pg p1 (nI nd) p2 p3 p4 p5 (nI cn) p6 (nI pq) p7 p8 p9 (nI sc)), (p3, .inl (cA 0, 10, .inl fam)), (p5, .inl (cA 0, 10, .inl fby)), (p9, .inl (cA 0, 10, .inl fen)), (p7, .inl (cA 0, 350, .inl fst)), (p8, .inl (cA 0, 350, .inl fop))]) hP hD [3, 4, 5, 6, 7, 8, 9, 10, 11, 12, 0, 1, 2] (by decide +kernel) rfl
    refine W.widen (k := 0) (n := 0) (Nat.le_of_ble_eq_true rfl) (Nat.le_of_ble_eq_true rfl) ?_
    exact (W.vret hx hb hr (fun t ht hW => ⟨⟨(), rfl, trivial, zn23, zn24, zn25, zn26, zn27, zn28, zn29, zn30, zn31, zn32, zn33, zn34, zn35, zn36, qn37, qn38, fn39, fn40, fn41, fn42, fn43, hn44, hn45, by rw [ht]; exact hP9, hD9⟩, hS.F ht⟩) hS.2.2 dX0_liveDay_57)
  · skip
    refine lv_aload_n hx hb dX0_liveDay_45 rfl (lv_at hl 0 rfl) ?_
    obtain ⟨hPc, hDc, hFc⟩ := PDq.cut (wc := [(oX0 a0 p0 a1 a3 a4 a5 a6 yn4 i7 i8 i9 i10 yn3 i12 i13 i14 i15 i16 i17 i18 i19), (a1, .inr (6, [.ref a2, .int (nI nx), .int (nI kp)])), (a2, .inl (cA 0, 240, .inl fr))]) hP hD hS hA [0, 1, 2] (by decide) rfl
    refine va_callv (va_runV (As := []) (rest := []) ⟨hx, hb, hml, hown, hts⟩ (s_creditInterest l D cA sa a0 a1 a2 a3 a4 a5 a6 p0 yn4 i7 i8 i12 i13 i14 i15 i16 i17 i18 i19 i9 i10 yn3 nx kp fr H.size hnx hkp) (cwV 0 hts gX0_liveDay_X0_creditInterest rfl rfl rfl (by decide +kernel) ⟨(Nat.le_of_ble_eq_true rfl), (Nat.le_of_ble_eq_true rfl)⟩) ⟨Wd.blind, va_recv hK hPc (ci := 4) (q0 := 0) rfl rfl, fun U hU hW => ⟨rfl, Wd.call hPc hDc hK hC hZ hS hFc U hU hW⟩⟩ rfl rfl hl.1 rfl (lv_room (Nat.le_of_ble_eq_true rfl)) dX0_liveDay_46 ⟨(Nat.le_of_ble_eq_true rfl), (Nat.le_of_ble_eq_true rfl)⟩) hS (fun q _ h => hFc q h) hFc (fun u t H1 locs ht hvm hw hB hz1 hk1 hS => ?_)
    obtain ⟨zn46, zn47, zn48, zn49, zn50, zn51, zn52, zn53, zn54, zn55, zn56, zn57, zn58, zn59, qn60, qn61, fn62, hn63, hn64, hP1, hD1⟩ := hB
    rw [ht] at hP1
    obtain ⟨hP, hD⟩ := PDq.join (w := [(a3, .inl (cA 0, 10, .inl fs)), (a4, .inl (cA 0, 10, .inl fp)), (a5, .inl (cA 0, 10, .inl ff)), (a6, .inl (cA 0, 10, .inl fd)), (oX3 p0 pr pb pe pg p1 (nI nd) p2 p3 p4 p5 (nI cn) p6 (nI pq) p7 p8 p9 (nI sc)), (p3, .inl (cA 0, 10, .inl fam)), (p5, .inl (cA 0, 10, .inl fby)), (p9, .inl (cA 0, 10, .inl fen)), (p7, .inl (cA 0, 350, .inl fst)), (p8, .inl (cA 0, 350, .inl fop)), (oX0 a0 p0 a1 a3 a4 a5 a6 zn46 zn47 zn48 zn57 zn58 zn59 zn49 zn50 zn51 zn52 zn53 zn54 zn55 zn56), (a1, .inr (6, [.ref a2, .int (nI qn60), .int (nI qn61)])), (a2, .inl (cA 0, 240, .inl fn62))]) 10 hP hD [0, 1, 2] [3, 4, 5, 6, 7, 8, 9, 10, 11, 12] rfl rfl (by decide +kernel) (by decide +kernel) hk1 hFc hP1 hD1 rfl
    generalize H1 = H at hP hS ⊢
    refine lv_aload_n hx hb dX0_liveDay_49 rfl (lv_at hl 0 rfl) ?_
    obtain ⟨hPc, hDc, hFc⟩ := PDq.cut (wc := [(oX0 a0 p0 a1 a3 a4 a5 a6 zn46 zn47 zn48 zn57 zn58 zn59 zn49 zn50 zn51 zn52 zn53 zn54 zn55 zn56), (oX3 p0 pr pb pe pg p1 (nI nd) p2 p3 p4 p5 (nI cn) p6 (nI pq) p7 p8 p9 (nI sc)), (p9, .inl (cA 0, 10, .inl fen)), (p7, .inl (cA 0, 350, .inl fst)), (p8, .inl (cA 0, 350, .inl fop)), (a3, .inl (cA 0, 10, .inl fs)), (a6, .inl (cA 0, 10, .inl fd))]) hP hD hS hA [10, 4, 7, 8, 9, 0, 3] (by decide) rfl
    refine va_callv (va_runV (As := []) (rest := []) ⟨hx, hb, hml, hown, hts⟩ (s_makeDue l D cA sa a0 a1 a3 a4 a5 a6 p0 zn46 zn47 zn48 zn49 zn50 zn51 zn52 zn53 zn54 zn55 zn56 zn57 zn58 zn59 p1 p2 p3 p4 p5 p6 p7 p8 p9 cn pq nd sc pr pb pe pg fen fst fop fs fd H.size hcn hpq hnd hsc hen) (cwV 0 hts gX0_liveDay_X0_makeDue rfl rfl rfl (by decide +kernel) ⟨(Nat.le_of_ble_eq_true rfl), (Nat.le_of_ble_eq_true rfl)⟩) ⟨Wd.blind, va_recv hK hPc (ci := 4) (q0 := 0) rfl rfl, fun U hU hW => ⟨rfl, Wd.call hPc hDc hK hC hZ hS hFc U hU hW⟩⟩ rfl rfl hl.1 rfl (lv_room (Nat.le_of_ble_eq_true rfl)) dX0_liveDay_50 ⟨(Nat.le_of_ble_eq_true rfl), (Nat.le_of_ble_eq_true rfl)⟩) hS (fun q _ h => hFc q h) hFc (fun u t H1 locs ht hvm hw hB hz1 hk1 hS => ?_)
    obtain ⟨zn65, zn66, zn67, zn68, zn69, zn70, zn71, zn72, zn73, zn74, zn75, zn76, zn77, zn78, fn79, fn80, hP1, hD1⟩ := hB
    rw [ht] at hP1
    obtain ⟨hP, hD⟩ := PDq.join (w := [(a4, .inl (cA 0, 10, .inl fp)), (a5, .inl (cA 0, 10, .inl ff)), (p3, .inl (cA 0, 10, .inl fam)), (p5, .inl (cA 0, 10, .inl fby)), (a1, .inr (6, [.ref a2, .int (nI qn60), .int (nI qn61)])), (a2, .inl (cA 0, 240, .inl fn62)), (oX0 a0 p0 a1 a3 a4 a5 a6 zn65 zn66 zn67 zn76 zn77 zn78 zn68 zn69 zn70 zn71 zn72 zn73 zn74 zn75), (oX3 p0 pr pb pe pg p1 (nI nd) p2 p3 p4 p5 (nI cn) p6 (nI pq) p7 p8 p9 (nI sc)), (p9, .inl (cA 0, 10, .inl fen)), (p7, .inl (cA 0, 350, .inl fst)), (p8, .inl (cA 0, 350, .inl fop)), (a3, .inl (cA 0, 10, .inl fn79)), (a6, .inl (cA 0, 10, .inl fn80))]) 6 hP hD [10, 4, 7, 8, 9, 0, 3] [1, 2, 5, 6, 11, 12] rfl rfl (by decide) (by decide +kernel) hk1 hFc hP1 hD1 rfl
    generalize H1 = H at hP hS ⊢
    refine lv_aload_n hx hb dX0_liveDay_53 rfl (lv_at hl 0 rfl) ?_
    obtain ⟨hPc, hDc, hFc⟩ := PDq.cut (wc := [(oX0 a0 p0 a1 a3 a4 a5 a6 zn65 zn66 zn67 zn76 zn77 zn78 zn68 zn69 zn70 zn71 zn72 zn73 zn74 zn75), (a1, .inr (6, [.ref a2, .int (nI qn60), .int (nI qn61)])), (a2, .inl (cA 0, 240, .inl fn62)), (a3, .inl (cA 0, 10, .inl fn79)), (a4, .inl (cA 0, 10, .inl fp)), (a5, .inl (cA 0, 10, .inl ff)), (a6, .inl (cA 0, 10, .inl fn80)), (oX3 p0 pr pb pe pg p1 (nI nd) p2 p3 p4 p5 (nI cn) p6 (nI pq) p7 p8 p9 (nI sc)), (p3, .inl (cA 0, 10, .inl fam)), (p5, .inl (cA 0, 10, .inl fby))]) hP hD hS hA [6, 4, 5, 11, 0, 1, 12, 7, 2, 3] (by decide +kernel) rfl
    refine va_callv (va_runV (As := []) (rest := []) ⟨hx, hb, hml, hown, hts⟩ (s_payDue l D cA sa a0 a1 a2 a3 a4 a5 a6 p0 zn65 zn66 zn67 zn68 zn69 zn70 zn71 zn72 zn73 zn74 zn75 zn76 zn77 zn78 qn60 qn61 fn62 p1 p2 p3 p4 p5 p6 p7 p8 p9 cn pq nd sc pr pb pe pg fn79 fp ff fn80 fam fby H.size hn63 hn64 hcn hpq hnd hsc hby) (cwV 0 hts gX0_liveDay_X0_payDue rfl rfl rfl (by decide +kernel) ⟨(Nat.le_of_ble_eq_true rfl), (Nat.le_of_ble_eq_true rfl)⟩) ⟨Wd.blind, va_recv hK hPc (ci := 4) (q0 := 0) rfl rfl, fun U hU hW => ⟨rfl, Wd.call hPc hDc hK hC hZ hS hFc U hU hW⟩⟩ rfl rfl hl.1 rfl (lv_room (Nat.le_of_ble_eq_true rfl)) dX0_liveDay_54 ⟨(Nat.le_of_ble_eq_true rfl), (Nat.le_of_ble_eq_true rfl)⟩) hS (fun q _ h => hFc q h) hFc (fun u t H1 locs ht hvm hw hB hz1 hk1 hS => ?_)
    obtain ⟨zn81, zn82, zn83, zn84, zn85, zn86, zn87, zn88, zn89, zn90, zn91, zn92, zn93, zn94, qn95, qn96, fn97, fn98, fn99, fn100, fn101, hn102, hn103, hP1, hD1⟩ := hB
    rw [ht] at hP1
    obtain ⟨hP, hD⟩ := PDq.join (w := [(p9, .inl (cA 0, 10, .inl fen)), (p7, .inl (cA 0, 350, .inl fst)), (p8, .inl (cA 0, 350, .inl fop)), (oX0 a0 p0 a1 a3 a4 a5 a6 zn81 zn82 zn83 zn92 zn93 zn94 zn84 zn85 zn86 zn87 zn88 zn89 zn90 zn91), (a1, .inr (6, [.ref a2, .int (nI qn95), .int (nI qn96)])), (a2, .inl (cA 0, 240, .inl fn97)), (a3, .inl (cA 0, 10, .inl fn98)), (a4, .inl (cA 0, 10, .inl fn99)), (a5, .inl (cA 0, 10, .inl fn100)), (a6, .inl (cA 0, 10, .inl fn101)), (oX3 p0 pr pb pe pg p1 (nI nd) p2 p3 p4 p5 (nI cn) p6 (nI pq) p7 p8 p9 (nI sc)), (p3, .inl (cA 0, 10, .inl fam)), (p5, .inl (cA 0, 10, .inl fby))]) 3 hP hD [6, 4, 5, 11, 0, 1, 12, 7, 2, 3] [8, 9, 10] rfl rfl (by decide) (by decide +kernel) hk1 hFc hP1 hD1 rfl
    generalize H1 = H at hP hS ⊢
    obtain ⟨hP9, hD9⟩ := PDq.sub (ws' := [(oX0 a0 p0 a1 a3 a4 a5 a6 zn81 zn82 zn83 zn92 zn93 zn94 zn84 zn85 zn86 zn87 zn88 zn89 zn90 zn91), (a1, .inr (6, [.ref a2, .int (nI qn95), .int (nI qn96)])), (a2, .inl (cA 0, 240, .inl fn97)), (a3, .inl (cA 0, 10, .inl fn98)), (a4, .inl (cA 0, 10, .inl fn99)), (a5, .inl (cA 0, 10, .inl fn100)), (a6, .inl (cA 0, 10, .inl fn101)), (oX3 p0 pr pb pe pg p1 (nI nd) p2 p3 p4 p5 (nI cn) p6 (nI pq) p7 p8 p9 (nI sc)), (p3, .inl (cA 0, 10, .inl fam)), (p5, .inl (cA 0, 10, .inl fby)), (p9, .inl (cA 0, 10, .inl fen)), (p7, .inl (cA 0, 350, .inl fst)), (p8, .inl (cA 0, 350, .inl fop))]) hP hD [3, 4, 5, 6, 7, 8, 9, 10, 11, 12, 0, 1, 2] (by decide +kernel) rfl
    refine W.widen (k := 0) (n := 0) (Nat.le_of_ble_eq_true rfl) (Nat.le_of_ble_eq_true rfl) ?_
    exact (W.vret hx hb hr (fun t ht hW => ⟨⟨(), rfl, trivial, zn81, zn82, zn83, zn84, zn85, zn86, zn87, zn88, zn89, zn90, zn91, zn92, zn93, zn94, qn95, qn96, fn97, fn98, fn99, fn100, fn101, hn102, hn103, by rw [ht]; exact hP9, hD9⟩, hS.F ht⟩) hS.2.2 dX0_liveDay_57)

set_option maxHeartbeats 4000000 in
set_option maxRecDepth 100000 in
/-- liveDays -/
theorem s_liveDays (l : Launch) (D : va_G) (cA : Nat → ClassId) (sa : Nat → Nat) (a0 : Nat) (a1 : Nat) (a2 : Nat) (a3 : Nat) (a4 : Nat) (a5 : Nat) (a6 : Nat) (p0 : Nat) (i6 : Int32) (i7 : Int32) (i8 : Int32) (i12 : Int32) (i13 : Int32) (i14 : Int32) (i15 : Int32) (i16 : Int32) (i17 : Int32) (i18 : Int32) (i19 : Int32) (i9 : Int64) (i10 : Int64) (i11 : Int64) (nx : Nat) (kp : Nat) (fr : Nat → Int32) (p1 : Nat) (p2 : Nat) (p3 : Nat) (p4 : Nat) (p5 : Nat) (p6 : Nat) (p7 : Nat) (p8 : Nat) (p9 : Nat) (cn : Nat) (pq : Nat) (nd : Nat) (sc : Nat) (pr : Int32) (pb : Int32) (pe : Int32) (pg : Int32) (fs : Nat → Int32) (fp : Nat → Int32) (ff : Nat → Int32) (fd : Nat → Int32) (fam : Nat → Int32) (fby : Nat → Int32) (fen : Nat → Int32) (fst : Nat → Int32) (fop : Nat → Int32) (N : Nat) (sz : Nat) (hnx : nx < 60) (hkp : kp ≤ 60) (hcn : cn ≤ 10) (hpq : pq ≤ 8) (hnd : nd ≤ 6) (hsc : sc ≤ 350) (hby : Rng 10 10 fby) (hen : Rng 10 351 fen) (hN : N ≤ 120) : Met l yX0_liveDays wsX0_liveDays ({ frames := 5, cells := 0, slots := 0, locals := 118 }) (va_Pc [.ref a0, .int (nI N)] (Wd D cA sa [(oX0 a0 p0 a1 a3 a4 a5 a6 i6 i7 i8 i9 i10 i11 i12 i13 i14 i15 i16 i17 i18 i19), (a1, .inr (6, [.ref a2, .int (nI nx), .int (nI kp)])), (a2, .inl (cA 0, 240, .inl fr)), (a3, .inl (cA 0, 10, .inl fs)), (a4, .inl (cA 0, 10, .inl fp)), (a5, .inl (cA 0, 10, .inl ff)), (a6, .inl (cA 0, 10, .inl fd)), (oX3 p0 pr pb pe pg p1 (nI nd) p2 p3 p4 p5 (nI cn) p6 (nI pq) p7 p8 p9 (nI sc)), (p3, .inl (cA 0, 10, .inl fam)), (p5, .inl (cA 0, 10, .inl fby)), (p9, .inl (cA 0, 10, .inl fen)), (p7, .inl (cA 0, 350, .inl fst)), (p8, .inl (cA 0, 350, .inl fop))] sz)) (va_Qv (fun _ : Unit => True) (fun (_ : Unit) t => ∃ z6 : Int32, ∃ z7 : Int32, ∃ z8 : Int32, ∃ z12 : Int32, ∃ z13 : Int32, ∃ z14 : Int32, ∃ z15 : Int32, ∃ z16 : Int32, ∃ z17 : Int32, ∃ z18 : Int32, ∃ z19 : Int32, ∃ z9 : Int64, ∃ z10 : Int64, ∃ z11 : Int64, ∃ ny : Nat, ∃ ky : Nat, ∃ zr : Nat → Int32, ∃ zs : Nat → Int32, ∃ zp : Nat → Int32, ∃ zf : Nat → Int32, ∃ zd : Nat → Int32, ny < 60 ∧ ky ≤ 60 ∧ Wq D (va_A [(oX0 a0 p0 a1 a3 a4 a5 a6 i6 i7 i8 i9 i10 i11 i12 i13 i14 i15 i16 i17 i18 i19), (a1, .inr (6, [.ref a2, .int (nI nx), .int (nI kp)])), (a2, .inl (cA 0, 240, .inl fr)), (a3, .inl (cA 0, 10, .inl fs)), (a4, .inl (cA 0, 10, .inl fp)), (a5, .inl (cA 0, 10, .inl ff)), (a6, .inl (cA 0, 10, .inl fd)), (oX3 p0 pr pb pe pg p1 (nI nd) p2 p3 p4 p5 (nI cn) p6 (nI pq) p7 p8 p9 (nI sc)), (p3, .inl (cA 0, 10, .inl fam)), (p5, .inl (cA 0, 10, .inl fby)), (p9, .inl (cA 0, 10, .inl fen)), (p7, .inl (cA 0, 350, .inl fst)), (p8, .inl (cA 0, 350, .inl fop))] sz) [(oX0 a0 p0 a1 a3 a4 a5 a6 z6 z7 z8 z9 z10 z11 z12 z13 z14 z15 z16 z17 z18 z19), (a1, .inr (6, [.ref a2, .int (nI ny), .int (nI ky)])), (a2, .inl (cA 0, 240, .inl zr)), (a3, .inl (cA 0, 10, .inl zs)), (a4, .inl (cA 0, 10, .inl zp)), (a5, .inl (cA 0, 10, .inl zf)), (a6, .inl (cA 0, 10, .inl zd)), (oX3 p0 pr pb pe pg p1 (nI nd) p2 p3 p4 p5 (nI cn) p6 (nI pq) p7 p8 p9 (nI sc)), (p3, .inl (cA 0, 10, .inl fam)), (p5, .inl (cA 0, 10, .inl fby)), (p9, .inl (cA 0, 10, .inl fen)), (p7, .inl (cA 0, 350, .inl fst)), (p8, .inl (cA 0, 350, .inl fop))] t) (va_A [(oX0 a0 p0 a1 a3 a4 a5 a6 i6 i7 i8 i9 i10 i11 i12 i13 i14 i15 i16 i17 i18 i19), (a1, .inr (6, [.ref a2, .int (nI nx), .int (nI kp)])), (a2, .inl (cA 0, 240, .inl fr)), (a3, .inl (cA 0, 10, .inl fs)), (a4, .inl (cA 0, 10, .inl fp)), (a5, .inl (cA 0, 10, .inl ff)), (a6, .inl (cA 0, 10, .inl fd)), (oX3 p0 pr pb pe pg p1 (nI nd) p2 p3 p4 p5 (nI cn) p6 (nI pq) p7 p8 p9 (nI sc)), (p3, .inl (cA 0, 10, .inl fam)), (p5, .inl (cA 0, 10, .inl fby)), (p9, .inl (cA 0, 10, .inl fen)), (p7, .inl (cA 0, 350, .inl fst)), (p8, .inl (cA 0, 350, .inl fop))] sz)) 0 0 (va_A [(oX0 a0 p0 a1 a3 a4 a5 a6 i6 i7 i8 i9 i10 i11 i12 i13 i14 i15 i16 i17 i18 i19), (a1, .inr (6, [.ref a2, .int (nI nx), .int (nI kp)])), (a2, .inl (cA 0, 240, .inl fr)), (a3, .inl (cA 0, 10, .inl fs)), (a4, .inl (cA 0, 10, .inl fp)), (a5, .inl (cA 0, 10, .inl ff)), (a6, .inl (cA 0, 10, .inl fd)), (oX3 p0 pr pb pe pg p1 (nI nd) p2 p3 p4 p5 (nI cn) p6 (nI pq) p7 p8 p9 (nI sc)), (p3, .inl (cA 0, 10, .inl fam)), (p5, .inl (cA 0, 10, .inl fby)), (p9, .inl (cA 0, 10, .inl fen)), (p7, .inl (cA 0, 350, .inl fst)), (p8, .inl (cA 0, 350, .inl fop))] sz) := by
  refine Met.ofW (cc := cX0_liveDays) (maxL := 3) (ret := none) (by decide) rfl ?_
  intro p e s m args below meth c s₁ B hml hv
  obtain ⟨rfl, hsz, hP, hK, hD0, hC, hZ⟩ := hv
  have hx := B.exec
  have hb := B.bytes
  have hr := B.returns
  have hts := atoms_spec (ws := wsX0_liveDays) B.pre
  have hown : s.vm.findClass RX0 = some m.cls := findClass_of_methodNamed B.named
  have hlocks := B.notSynchronized
  subst hsz
  have hD := hD0.self (sz := s.heap.size)
  generalize hAe : va_A [(oX0 a0 p0 a1 a3 a4 a5 a6 i6 i7 i8 i9 i10 i11 i12 i13 i14 i15 i16 i17 i18 i19), (a1, .inr (6, [.ref a2, .int (nI nx), .int (nI kp)])), (a2, .inl (cA 0, 240, .inl fr)), (a3, .inl (cA 0, 10, .inl fs)), (a4, .inl (cA 0, 10, .inl fp)), (a5, .inl (cA 0, 10, .inl ff)), (a6, .inl (cA 0, 10, .inl fd)), (oX3 p0 pr pb pe pg p1 (nI nd) p2 p3 p4 p5 (nI cn) p6 (nI pq) p7 p8 p9 (nI sc)), (p3, .inl (cA 0, 10, .inl fam)), (p5, .inl (cA 0, 10, .inl fby)), (p9, .inl (cA 0, 10, .inl fen)), (p7, .inl (cA 0, 350, .inl fst)), (p8, .inl (cA 0, 350, .inl fop))] s.heap.size = A at hD hZ ⊢
  have hA : ∀ q : Nat, s.heap.size ≤ q → A q := fun q h => by rw [← hAe]; exact Or.inr h
  have hS : va_S A s.heap s.heap [] := va_S.rf
  have hP : va_P D vwCl [(oX0 a0 p0 a1 a3 a4 a5 a6 i6 i7 i8 i9 i10 i11 i12 i13 i14 i15 i16 i17 i18 i19), (a1, .inr (6, [.ref a2, .int (nI nx), .int (nI kp)])), (a2, .inl (cA 0, 240, .inl fr)), (a3, .inl (cA 0, 10, .inl fs)), (a4, .inl (cA 0, 10, .inl fp)), (a5, .inl (cA 0, 10, .inl ff)), (a6, .inl (cA 0, 10, .inl fd)), (oX3 p0 pr pb pe pg p1 (nI nd) p2 p3 p4 p5 (nI cn) p6 (nI pq) p7 p8 p9 (nI sc)), (p3, .inl (cA 0, 10, .inl fam)), (p5, .inl (cA 0, 10, .inl fby)), (p9, .inl (cA 0, 10, .inl fen)), (p7, .inl (cA 0, 350, .inl fst)), (p8, .inl (cA 0, 350, .inl fop))] s.heap := hP
  have hl := lv_entry ([.ref a0, .int (nI N)]) (n := 3) (Nat.le_of_ble_eq_true rfl)
  rw [lg_entry_eq]
  generalize (lg_sl ([.ref a0, .int (nI N)]) ++ List.replicate (3 - (lg_sl ([.ref a0, .int (nI N)])).length) Slot.unset).toArray = ls at hl ⊢
  have hl : lv_has ls 3 [(0, .ref a0), (1, .int (nI N))] := hl
  refine lv_iconst (v := 0) hx hb dX0_liveDays_0 (by decide) ?_
  refine lv_istore_n (lv' := [(2, .int 0), (0, .ref a0), (1, .int (nI N))]) hx hb dX0_liveDays_1 rfl hl (by decide) rfl (fun ls hl => ?_)
  have loop1 : ∀ (n1 i1 : Nat) (u0_6_1 : Int32) (u0_7_1 : Int32) (u0_8_1 : Int32) (u0_9_1 : Int64) (u0_10_1 : Int64) (u0_11_1 : Int64) (u0_12_1 : Int32) (u0_13_1 : Int32) (u0_14_1 : Int32) (u0_15_1 : Int32) (u0_16_1 : Int32) (u0_17_1 : Int32) (u0_18_1 : Int32) (u0_19_1 : Int32) (ni : Nat) (ki : Nat) (f2_1 : Nat → Int32) (f3_1 : Nat → Int32) (f4_1 : Nat → Int32) (f5_1 : Nat → Int32) (f6_1 : Nat → Int32) (H : Heap) (locs : List Loc) (ls : Array Slot), i1 + n1 = N → ni < 60 → ki ≤ 60 → va_P D vwCl [(oX0 a0 p0 a1 a3 a4 a5 a6 u0_6_1 u0_7_1 u0_8_1 u0_9_1 u0_10_1 u0_11_1 u0_12_1 u0_13_1 u0_14_1 u0_15_1 u0_16_1 u0_17_1 u0_18_1 u0_19_1), (a1, .inr (6, [.ref a2, .int (nI ni), .int (nI ki)])), (a2, .inl (cA 0, 240, .inl f2_1)), (a3, .inl (cA 0, 10, .inl f3_1)), (a4, .inl (cA 0, 10, .inl f4_1)), (a5, .inl (cA 0, 10, .inl f5_1)), (a6, .inl (cA 0, 10, .inl f6_1)), (oX3 p0 pr pb pe pg p1 (nI nd) p2 p3 p4 p5 (nI cn) p6 (nI pq) p7 p8 p9 (nI sc)), (p3, .inl (cA 0, 10, .inl fam)), (p5, .inl (cA 0, 10, .inl fby)), (p9, .inl (cA 0, 10, .inl fen)), (p7, .inl (cA 0, 350, .inl fst)), (p8, .inl (cA 0, 350, .inl fop))] H → va_D A [(oX0 a0 p0 a1 a3 a4 a5 a6 u0_6_1 u0_7_1 u0_8_1 u0_9_1 u0_10_1 u0_11_1 u0_12_1 u0_13_1 u0_14_1 u0_15_1 u0_16_1 u0_17_1 u0_18_1 u0_19_1), (a1, .inr (6, [.ref a2, .int (nI ni), .int (nI ki)])), (a2, .inl (cA 0, 240, .inl f2_1)), (a3, .inl (cA 0, 10, .inl f3_1)), (a4, .inl (cA 0, 10, .inl f4_1)), (a5, .inl (cA 0, 10, .inl f5_1)), (a6, .inl (cA 0, 10, .inl f6_1)), (oX3 p0 pr pb pe pg p1 (nI nd) p2 p3 p4 p5 (nI cn) p6 (nI pq) p7 p8 p9 (nI sc)), (p3, .inl (cA 0, 10, .inl fam)), (p5, .inl (cA 0, 10, .inl fby)), (p9, .inl (cA 0, 10, .inl fen)), (p7, .inl (cA 0, 350, .inl fst)), (p8, .inl (cA 0, 350, .inl fop))] → va_S A s.heap H locs → lv_has ls 3 [(2, .int (nI i1)), (0, .ref a0), (1, .int (nI N))] → W p l e (headSpec wsX0_liveDays ({ frames := 5, cells := 0, slots := 0, locals := 118 } : Room)).room s m ([.ref a0, .int (nI N)] : List Value).toArray below meth c H locs 0 0 (MQ below (va_Qv (fun _ : Unit => True) (fun (_ : Unit) t => ∃ z6 : Int32, ∃ z7 : Int32, ∃ z8 : Int32, ∃ z12 : Int32, ∃ z13 : Int32, ∃ z14 : Int32, ∃ z15 : Int32, ∃ z16 : Int32, ∃ z17 : Int32, ∃ z18 : Int32, ∃ z19 : Int32, ∃ z9 : Int64, ∃ z10 : Int64, ∃ z11 : Int64, ∃ ny : Nat, ∃ ky : Nat, ∃ zr : Nat → Int32, ∃ zs : Nat → Int32, ∃ zp : Nat → Int32, ∃ zf : Nat → Int32, ∃ zd : Nat → Int32, ny < 60 ∧ ky ≤ 60 ∧ Wq D A [(oX0 a0 p0 a1 a3 a4 a5 a6 z6 z7 z8 z9 z10 z11 z12 z13 z14 z15 z16 z17 z18 z19), (a1, .inr (6, [.ref a2, .int (nI ny), .int (nI ky)])), (a2, .inl (cA 0, 240, .inl zr)), (a3, .inl (cA 0, 10, .inl zs)), (a4, .inl (cA 0, 10, .inl zp)), (a5, .inl (cA 0, 10, .inl zf)), (a6, .inl (cA 0, 10, .inl zd)), (oX3 p0 pr pb pe pg p1 (nI nd) p2 p3 p4 p5 (nI cn) p6 (nI pq) p7 p8 p9 (nI sc)), (p3, .inl (cA 0, 10, .inl fam)), (p5, .inl (cA 0, 10, .inl fby)), (p9, .inl (cA 0, 10, .inl fen)), (p7, .inl (cA 0, 350, .inl fst)), (p8, .inl (cA 0, 350, .inl fop))] t) A) ([.ref a0, .int (nI N)] : List Value).toArray s 0 0 A) (F0 m 2 ls []) := by
    intro n1
    induction n1 with
    | zero =>
      intro i1 u0_6_1 u0_7_1 u0_8_1 u0_9_1 u0_10_1 u0_11_1 u0_12_1 u0_13_1 u0_14_1 u0_15_1 u0_16_1 u0_17_1 u0_18_1 u0_19_1 ni ki f2_1 f3_1 f4_1 f5_1 f6_1 H locs ls hi1 hv0_1 hv1_1 hP hD hS hl
      obtain rfl : N = i1 := by omega
      refine lv_iload_n hx hb dX0_liveDays_2 rfl (lv_at hl 0 rfl) ?_
      refine lv_iload_n hx hb dX0_liveDays_3 rfl (lv_at hl 2 rfl) ?_
      refine lv_icmp_ge (tgt := 17) hx hb dX0_liveDays_4 (by decide) (fun c1 => ?_) (fun c9 => absurd (nI_le (a := N) (b := N) (show N ≤ N by omega) (by omega)) c9)
      obtain ⟨hP9, hD9⟩ := PDq.sub (ws' := [(oX0 a0 p0 a1 a3 a4 a5 a6 u0_6_1 u0_7_1 u0_8_1 u0_9_1 u0_10_1 u0_11_1 u0_12_1 u0_13_1 u0_14_1 u0_15_1 u0_16_1 u0_17_1 u0_18_1 u0_19_1), (a1, .inr (6, [.ref a2, .int (nI ni), .int (nI ki)])), (a2, .inl (cA 0, 240, .inl f2_1)), (a3, .inl (cA 0, 10, .inl f3_1)), (a4, .inl (cA 0, 10, .inl f4_1)), (a5, .inl (cA 0, 10, .inl f5_1)), (a6, .inl (cA 0, 10, .inl f6_1)), (oX3 p0 pr pb pe pg p1 (nI nd) p2 p3 p4 p5 (nI cn) p6 (nI pq) p7 p8 p9 (nI sc)), (p3, .inl (cA 0, 10, .inl fam)), (p5, .inl (cA 0, 10, .inl fby)), (p9, .inl (cA 0, 10, .inl fen)), (p7, .inl (cA 0, 350, .inl fst)), (p8, .inl (cA 0, 350, .inl fop))]) hP hD [0, 1, 2, 3, 4, 5, 6, 7, 8, 9, 10, 11, 12] (by decide +kernel) rfl
      refine W.widen (k := 0) (n := 0) (Nat.le_of_ble_eq_true rfl) (Nat.le_of_ble_eq_true rfl) ?_
      exact (W.vret hx hb hr (fun t ht hW => ⟨⟨(), rfl, trivial, u0_6_1, u0_7_1, u0_8_1, u0_12_1, u0_13_1, u0_14_1, u0_15_1, u0_16_1, u0_17_1, u0_18_1, u0_19_1, u0_9_1, u0_10_1, u0_11_1, ni, ki, f2_1, f3_1, f4_1, f5_1, f6_1, hv0_1, hv1_1, by rw [ht]; exact hP9, hD9⟩, hS.F ht⟩) hS.2.2 dX0_liveDays_17)
    | succ n1 ih1 =>
      intro i1 u0_6_1 u0_7_1 u0_8_1 u0_9_1 u0_10_1 u0_11_1 u0_12_1 u0_13_1 u0_14_1 u0_15_1 u0_16_1 u0_17_1 u0_18_1 u0_19_1 ni ki f2_1 f3_1 f4_1 f5_1 f6_1 H locs ls hi1 hv0_1 hv1_1 hP hD hS hl
      refine lv_iload_n hx hb dX0_liveDays_2 rfl (lv_at hl 0 rfl) ?_
      refine lv_iload_n hx hb dX0_liveDays_3 rfl (lv_at hl 2 rfl) ?_
      refine lv_icmp_ge (tgt := 17) hx hb dX0_liveDays_4 (by decide) (fun c9 => absurd c9 (nI_ge (a := i1) (b := N) (show i1 < N by omega) (by omega))) (fun c2 => ?_)
      refine lv_aload_n hx hb dX0_liveDays_7 rfl (lv_at hl 1 rfl) ?_
      obtain ⟨hPc, hDc, hFc⟩ := PDq.cut (wc := [(oX0 a0 p0 a1 a3 a4 a5 a6 u0_6_1 u0_7_1 u0_8_1 u0_9_1 u0_10_1 u0_11_1 u0_12_1 u0_13_1 u0_14_1 u0_15_1 u0_16_1 u0_17_1 u0_18_1 u0_19_1), (a1, .inr (6, [.ref a2, .int (nI ni), .int (nI ki)])), (a2, .inl (cA 0, 240, .inl f2_1)), (a3, .inl (cA 0, 10, .inl f3_1)), (a4, .inl (cA 0, 10, .inl f4_1)), (a5, .inl (cA 0, 10, .inl f5_1)), (a6, .inl (cA 0, 10, .inl f6_1)), (oX3 p0 pr pb pe pg p1 (nI nd) p2 p3 p4 p5 (nI cn) p6 (nI pq) p7 p8 p9 (nI sc)), (p3, .inl (cA 0, 10, .inl fam)), (p5, .inl (cA 0, 10, .inl fby)), (p9, .inl (cA 0, 10, .inl fen)), (p7, .inl (cA 0, 350, .inl fst)), (p8, .inl (cA 0, 350, .inl fop))]) hP hD hS hA [0, 1, 2, 3, 4, 5, 6, 7, 8, 9, 10, 11, 12] (by decide +kernel) rfl
      refine va_callv (va_runV (As := []) (rest := []) ⟨hx, hb, hml, hown, hts⟩ (s_liveDay l D cA sa a0 a1 a2 a3 a4 a5 a6 p0 u0_6_1 u0_7_1 u0_8_1 u0_12_1 u0_13_1 u0_14_1 u0_15_1 u0_16_1 u0_17_1 u0_18_1 u0_19_1 u0_9_1 u0_10_1 u0_11_1 ni ki f2_1 p1 p2 p3 p4 p5 p6 p7 p8 p9 cn pq nd sc pr pb pe pg f3_1 f4_1 f5_1 f6_1 fam fby fen fst fop H.size hv0_1 hv1_1 hcn hpq hnd hsc hby hen) (cwV 0 hts gX0_liveDays_X0_liveDay rfl rfl rfl (by decide +kernel) ⟨(Nat.le_of_ble_eq_true rfl), (Nat.le_of_ble_eq_true rfl)⟩) ⟨Wd.blind, va_recv hK hPc (ci := 4) (q0 := 0) rfl rfl, fun U hU hW => ⟨rfl, Wd.call hPc hDc hK hC hZ hS hFc U hU hW⟩⟩ rfl rfl hl.1 rfl (lv_room (Nat.le_of_ble_eq_true rfl)) dX0_liveDays_8 ⟨(Nat.le_of_ble_eq_true rfl), (Nat.le_of_ble_eq_true rfl)⟩) hS (fun q _ h => hFc q h) hFc (fun u t H1 locs ht hvm hw hB hz1 hk1 hS => ?_)
      obtain ⟨zn3, zn4, zn5, zn6, zn7, zn8, zn9, zn10, zn11, zn12, zn13, zn14, zn15, zn16, qn17, qn18, fn19, fn20, fn21, fn22, fn23, hn24, hn25, hP1, hD1⟩ := hB
      rw [ht] at hP1
      obtain ⟨hP, hD⟩ := PDq.join (w := [(oX0 a0 p0 a1 a3 a4 a5 a6 zn3 zn4 zn5 zn14 zn15 zn16 zn6 zn7 zn8 zn9 zn10 zn11 zn12 zn13), (a1, .inr (6, [.ref a2, .int (nI qn17), .int (nI qn18)])), (a2, .inl (cA 0, 240, .inl fn19)), (a3, .inl (cA 0, 10, .inl fn20)), (a4, .inl (cA 0, 10, .inl fn21)), (a5, .inl (cA 0, 10, .inl fn22)), (a6, .inl (cA 0, 10, .inl fn23)), (oX3 p0 pr pb pe pg p1 (nI nd) p2 p3 p4 p5 (nI cn) p6 (nI pq) p7 p8 p9 (nI sc)), (p3, .inl (cA 0, 10, .inl fam)), (p5, .inl (cA 0, 10, .inl fby)), (p9, .inl (cA 0, 10, .inl fen)), (p7, .inl (cA 0, 350, .inl fst)), (p8, .inl (cA 0, 350, .inl fop))]) 0 hP hD [0, 1, 2, 3, 4, 5, 6, 7, 8, 9, 10, 11, 12] [] rfl rfl (by decide) (by decide +kernel) hk1 hFc hP1 hD1 rfl
      generalize H1 = H at hP hS ⊢
      refine lv_iinc (v := (nI (i1 + 1))) (lv' := [(2, .int (nI (i1 + 1))), (0, .ref a0), (1, .int (nI N))]) hx hb dX0_liveDays_11 hl (k := 0) rfl (nI_1 _) (by decide) rfl (fun ls hl => ?_)
      refine lv_goto (tgt := 2) hx hb dX0_liveDays_14 (by decide) ?_
      obtain ⟨hP9, hD9⟩ := PDq.sub (ws' := [(oX0 a0 p0 a1 a3 a4 a5 a6 zn3 zn4 zn5 zn14 zn15 zn16 zn6 zn7 zn8 zn9 zn10 zn11 zn12 zn13), (a1, .inr (6, [.ref a2, .int (nI qn17), .int (nI qn18)])), (a2, .inl (cA 0, 240, .inl fn19)), (a3, .inl (cA 0, 10, .inl fn20)), (a4, .inl (cA 0, 10, .inl fn21)), (a5, .inl (cA 0, 10, .inl fn22)), (a6, .inl (cA 0, 10, .inl fn23)), (oX3 p0 pr pb pe pg p1 (nI nd) p2 p3 p4 p5 (nI cn) p6 (nI pq) p7 p8 p9 (nI sc)), (p3, .inl (cA 0, 10, .inl fam)), (p5, .inl (cA 0, 10, .inl fby)), (p9, .inl (cA 0, 10, .inl fen)), (p7, .inl (cA 0, 350, .inl fst)), (p8, .inl (cA 0, 350, .inl fop))]) hP hD [0, 1, 2, 3, 4, 5, 6, 7, 8, 9, 10, 11, 12] (by decide +kernel) rfl
      exact ih1 (i1 + 1) zn3 zn4 zn5 zn14 zn15 zn16 zn6 zn7 zn8 zn9 zn10 zn11 zn12 zn13 qn17 qn18 fn19 fn20 fn21 fn22 fn23 H _ ls (by omega) hn24 hn25 hP9 hD9 hS (lv_sub hl [0, 1, 2] rfl)
  obtain ⟨hP9, hD9⟩ := PDq.sub (ws' := [(oX0 a0 p0 a1 a3 a4 a5 a6 i6 i7 i8 i9 i10 i11 i12 i13 i14 i15 i16 i17 i18 i19), (a1, .inr (6, [.ref a2, .int (nI nx), .int (nI kp)])), (a2, .inl (cA 0, 240, .inl fr)), (a3, .inl (cA 0, 10, .inl fs)), (a4, .inl (cA 0, 10, .inl fp)), (a5, .inl (cA 0, 10, .inl ff)), (a6, .inl (cA 0, 10, .inl fd)), (oX3 p0 pr pb pe pg p1 (nI nd) p2 p3 p4 p5 (nI cn) p6 (nI pq) p7 p8 p9 (nI sc)), (p3, .inl (cA 0, 10, .inl fam)), (p5, .inl (cA 0, 10, .inl fby)), (p9, .inl (cA 0, 10, .inl fen)), (p7, .inl (cA 0, 350, .inl fst)), (p8, .inl (cA 0, 350, .inl fop))]) hP hD [0, 1, 2, 3, 4, 5, 6, 7, 8, 9, 10, 11, 12] (by decide +kernel) rfl
  exact loop1 (N - 0) 0 i6 i7 i8 i9 i10 i11 i12 i13 i14 i15 i16 i17 i18 i19 nx kp fr fs fp ff fd _ _ ls (by omega) hnx hkp hP9 hD9 hS (lv_sub hl [0, 1, 2] rfl)

set_option maxHeartbeats 4000000 in
set_option maxRecDepth 100000 in
/-- Account.copyFrom -/
theorem s_copyFrom (l : Launch) (D : va_G) (cA : Nat → ClassId) (sa : Nat → Nat) (h0 : Nat) (h1 : Nat) (h2 : Nat) (h3 : Nat) (h4 : Nat) (h5 : Nat) (h6 : Nat) (nh : Nat) (kh : Nat) (x0 : Value) (x6 : Value) (x7 : Value) (x8 : Value) (x9 : Value) (x10 : Value) (x11 : Value) (x12 : Value) (x13 : Value) (x14 : Value) (x15 : Value) (x16 : Value) (x17 : Value) (x18 : Value) (x19 : Value) (gs : Nat → Int32) (gp : Nat → Int32) (gf : Nat → Int32) (gd : Nat → Int32) (gr : Nat → Int32) (a0 : Nat) (a1 : Nat) (a2 : Nat) (a3 : Nat) (a4 : Nat) (a5 : Nat) (a6 : Nat) (p0 : Nat) (i6 : Int32) (i7 : Int32) (i8 : Int32) (i12 : Int32) (i13 : Int32) (i14 : Int32) (i15 : Int32) (i16 : Int32) (i17 : Int32) (i18 : Int32) (i19 : Int32) (i9 : Int64) (i10 : Int64) (i11 : Int64) (nx : Nat) (kp : Nat) (fr : Nat → Int32) (fs : Nat → Int32) (fp : Nat → Int32) (ff : Nat → Int32) (fd : Nat → Int32) (sz : Nat) : Met l yX0_copyFrom wsX0_copyFrom ({ frames := 2, cells := 0, slots := 0, locals := 81 }) (va_Pc [.ref h0, .ref a0] (Wd D cA sa [(h0, .inr (4, [x0, .ref h1, .ref h3, .ref h4, .ref h5, .ref h6, x6, x7, x8, x9, x10, x11, x12, x13, x14, x15, x16, x17, x18, x19])), (h1, .inr (6, [.ref h2, .int (nI nh), .int (nI kh)])), (h2, .inl (cA 0, 240, .inl gr)), (h3, .inl (cA 0, 10, .inl gs)), (h4, .inl (cA 0, 10, .inl gp)), (h5, .inl (cA 0, 10, .inl gf)), (h6, .inl (cA 0, 10, .inl gd)), (oX0 a0 p0 a1 a3 a4 a5 a6 i6 i7 i8 i9 i10 i11 i12 i13 i14 i15 i16 i17 i18 i19), (a1, .inr (6, [.ref a2, .int (nI nx), .int (nI kp)])), (a2, .inl (cA 0, 240, .inl fr)), (a3, .inl (cA 0, 10, .inl fs)), (a4, .inl (cA 0, 10, .inl fp)), (a5, .inl (cA 0, 10, .inl ff)), (a6, .inl (cA 0, 10, .inl fd))] sz)) (va_Qv (fun _ : Unit => True) (fun (_ : Unit) t => ∃ zs : Nat → Int32, ∃ zp : Nat → Int32, ∃ zf : Nat → Int32, ∃ zd : Nat → Int32, ∃ zr : Nat → Int32, Wq D (va_A [(h0, .inr (4, [x0, .ref h1, .ref h3, .ref h4, .ref h5, .ref h6, x6, x7, x8, x9, x10, x11, x12, x13, x14, x15, x16, x17, x18, x19])), (h1, .inr (6, [.ref h2, .int (nI nh), .int (nI kh)])), (h2, .inl (cA 0, 240, .inl gr)), (h3, .inl (cA 0, 10, .inl gs)), (h4, .inl (cA 0, 10, .inl gp)), (h5, .inl (cA 0, 10, .inl gf)), (h6, .inl (cA 0, 10, .inl gd)), (oX0 a0 p0 a1 a3 a4 a5 a6 i6 i7 i8 i9 i10 i11 i12 i13 i14 i15 i16 i17 i18 i19), (a1, .inr (6, [.ref a2, .int (nI nx), .int (nI kp)])), (a2, .inl (cA 0, 240, .inl fr)), (a3, .inl (cA 0, 10, .inl fs)), (a4, .inl (cA 0, 10, .inl fp)), (a5, .inl (cA 0, 10, .inl ff)), (a6, .inl (cA 0, 10, .inl fd))] sz) [(oX0 h0 p0 h1 h3 h4 h5 h6 i6 i7 i8 i9 i10 i11 i12 i13 i14 i15 i16 i17 i18 i19), (h1, .inr (6, [.ref h2, .int (nI nx), .int (nI kp)])), (h2, .inl (cA 0, 240, .inl zr)), (h3, .inl (cA 0, 10, .inl zs)), (h4, .inl (cA 0, 10, .inl zp)), (h5, .inl (cA 0, 10, .inl zf)), (h6, .inl (cA 0, 10, .inl zd)), (oX0 a0 p0 a1 a3 a4 a5 a6 i6 i7 i8 i9 i10 i11 i12 i13 i14 i15 i16 i17 i18 i19), (a1, .inr (6, [.ref a2, .int (nI nx), .int (nI kp)])), (a2, .inl (cA 0, 240, .inl fr)), (a3, .inl (cA 0, 10, .inl fs)), (a4, .inl (cA 0, 10, .inl fp)), (a5, .inl (cA 0, 10, .inl ff)), (a6, .inl (cA 0, 10, .inl fd))] t) (va_A [(h0, .inr (4, [x0, .ref h1, .ref h3, .ref h4, .ref h5, .ref h6, x6, x7, x8, x9, x10, x11, x12, x13, x14, x15, x16, x17, x18, x19])), (h1, .inr (6, [.ref h2, .int (nI nh), .int (nI kh)])), (h2, .inl (cA 0, 240, .inl gr)), (h3, .inl (cA 0, 10, .inl gs)), (h4, .inl (cA 0, 10, .inl gp)), (h5, .inl (cA 0, 10, .inl gf)), (h6, .inl (cA 0, 10, .inl gd)), (oX0 a0 p0 a1 a3 a4 a5 a6 i6 i7 i8 i9 i10 i11 i12 i13 i14 i15 i16 i17 i18 i19), (a1, .inr (6, [.ref a2, .int (nI nx), .int (nI kp)])), (a2, .inl (cA 0, 240, .inl fr)), (a3, .inl (cA 0, 10, .inl fs)), (a4, .inl (cA 0, 10, .inl fp)), (a5, .inl (cA 0, 10, .inl ff)), (a6, .inl (cA 0, 10, .inl fd))] sz)) 0 0 (va_A [(h0, .inr (4, [x0, .ref h1, .ref h3, .ref h4, .ref h5, .ref h6, x6, x7, x8, x9, x10, x11, x12, x13, x14, x15, x16, x17, x18, x19])), (h1, .inr (6, [.ref h2, .int (nI nh), .int (nI kh)])), (h2, .inl (cA 0, 240, .inl gr)), (h3, .inl (cA 0, 10, .inl gs)), (h4, .inl (cA 0, 10, .inl gp)), (h5, .inl (cA 0, 10, .inl gf)), (h6, .inl (cA 0, 10, .inl gd)), (oX0 a0 p0 a1 a3 a4 a5 a6 i6 i7 i8 i9 i10 i11 i12 i13 i14 i15 i16 i17 i18 i19), (a1, .inr (6, [.ref a2, .int (nI nx), .int (nI kp)])), (a2, .inl (cA 0, 240, .inl fr)), (a3, .inl (cA 0, 10, .inl fs)), (a4, .inl (cA 0, 10, .inl fp)), (a5, .inl (cA 0, 10, .inl ff)), (a6, .inl (cA 0, 10, .inl fd))] sz) := by
  refine Met.ofW (cc := cX0_copyFrom) (maxL := 2) (ret := none) (by decide) rfl ?_
  intro p e s m args below meth c s₁ B hml hv
  obtain ⟨rfl, hsz, hP, hK, hD0, hC, hZ⟩ := hv
  have hx := B.exec
  have hb := B.bytes
  have hr := B.returns
  have hts := atoms_spec (ws := wsX0_copyFrom) B.pre
  have hown : s.vm.findClass RX0 = some m.cls := findClass_of_methodNamed B.named
  have hlocks := B.notSynchronized
  subst hsz
  have hD := hD0.self (sz := s.heap.size)
  generalize hAe : va_A [(h0, .inr (4, [x0, .ref h1, .ref h3, .ref h4, .ref h5, .ref h6, x6, x7, x8, x9, x10, x11, x12, x13, x14, x15, x16, x17, x18, x19])), (h1, .inr (6, [.ref h2, .int (nI nh), .int (nI kh)])), (h2, .inl (cA 0, 240, .inl gr)), (h3, .inl (cA 0, 10, .inl gs)), (h4, .inl (cA 0, 10, .inl gp)), (h5, .inl (cA 0, 10, .inl gf)), (h6, .inl (cA 0, 10, .inl gd)), (oX0 a0 p0 a1 a3 a4 a5 a6 i6 i7 i8 i9 i10 i11 i12 i13 i14 i15 i16 i17 i18 i19), (a1, .inr (6, [.ref a2, .int (nI nx), .int (nI kp)])), (a2, .inl (cA 0, 240, .inl fr)), (a3, .inl (cA 0, 10, .inl fs)), (a4, .inl (cA 0, 10, .inl fp)), (a5, .inl (cA 0, 10, .inl ff)), (a6, .inl (cA 0, 10, .inl fd))] s.heap.size = A at hD hZ ⊢
  have hA : ∀ q : Nat, s.heap.size ≤ q → A q := fun q h => by rw [← hAe]; exact Or.inr h
  have hS : va_S A s.heap s.heap [] := va_S.rf
  have hP : va_P D vwCl [(h0, .inr (4, [x0, .ref h1, .ref h3, .ref h4, .ref h5, .ref h6, x6, x7, x8, x9, x10, x11, x12, x13, x14, x15, x16, x17, x18, x19])), (h1, .inr (6, [.ref h2, .int (nI nh), .int (nI kh)])), (h2, .inl (cA 0, 240, .inl gr)), (h3, .inl (cA 0, 10, .inl gs)), (h4, .inl (cA 0, 10, .inl gp)), (h5, .inl (cA 0, 10, .inl gf)), (h6, .inl (cA 0, 10, .inl gd)), (oX0 a0 p0 a1 a3 a4 a5 a6 i6 i7 i8 i9 i10 i11 i12 i13 i14 i15 i16 i17 i18 i19), (a1, .inr (6, [.ref a2, .int (nI nx), .int (nI kp)])), (a2, .inl (cA 0, 240, .inl fr)), (a3, .inl (cA 0, 10, .inl fs)), (a4, .inl (cA 0, 10, .inl fp)), (a5, .inl (cA 0, 10, .inl ff)), (a6, .inl (cA 0, 10, .inl fd))] s.heap := hP
  have hl := lv_entry ([.ref h0, .ref a0]) (n := 2) (Nat.le_of_ble_eq_true rfl)
  rw [lg_entry_eq]
  generalize (lg_sl ([.ref h0, .ref a0]) ++ List.replicate (2 - (lg_sl ([.ref h0, .ref a0])).length) Slot.unset).toArray = ls at hl ⊢
  have hl : lv_has ls 2 [(0, .ref h0), (1, .ref a0)] := hl
  have inX0 : ∀ w ∈ u_ws RX0 TX0 20, w ∈ wsX0_copyFrom := by decide +kernel
  refine lv_aload_n hx hb dX0_copyFrom_0 rfl (lv_at hl 0 rfl) ?_
  refine lv_aload_n hx hb dX0_copyFrom_1 rfl (lv_at hl 1 rfl) ?_
  refine va_get (D := D) (ci := 4) (v := .ref p0) (C := RX0) (T := TX0) (N := 20) hx hb hts inX0 hown hK hP 7 rfl rfl 0 (by decide) (hts (.fieldLink RX0 31 "EscrowDesk$Account" "plan" "LEscrowDesk$Plan;") (by decide +kernel)) (fun _ h9 => h9) rfl dX0_copyFrom_2 ?_
  refine va_put (D := D) (ci := 4) (v := .ref p0) (ty := (.object "EscrowDesk$Plan")) (C := RX0) (T := TX0) (N := 20) hx hb hts inX0 tyX0 tyX0_ok nmX0 hown hK hP hD hS 0 rfl rfl 0 (by decide) (hts (.fieldLink RX0 31 "EscrowDesk$Account" "plan" "LEscrowDesk$Plan;") (by decide +kernel)) (fun _ h9 => h9) rfl (by decide +kernel) rfl rfl (Nat.le_of_ble_eq_true rfl) dX0_copyFrom_5 (fun H locs hP hD hS => ?_)
  obtain ⟨hP, hD⟩ : PDq D A [(h0, .inr (4, [.ref p0, .ref h1, .ref h3, .ref h4, .ref h5, .ref h6, x6, x7, x8, x9, x10, x11, x12, x13, x14, x15, x16, x17, x18, x19])), (h1, .inr (6, [.ref h2, .int (nI nh), .int (nI kh)])), (h2, .inl (cA 0, 240, .inl gr)), (h3, .inl (cA 0, 10, .inl gs)), (h4, .inl (cA 0, 10, .inl gp)), (h5, .inl (cA 0, 10, .inl gf)), (h6, .inl (cA 0, 10, .inl gd)), (oX0 a0 p0 a1 a3 a4 a5 a6 i6 i7 i8 i9 i10 i11 i12 i13 i14 i15 i16 i17 i18 i19), (a1, .inr (6, [.ref a2, .int (nI nx), .int (nI kp)])), (a2, .inl (cA 0, 240, .inl fr)), (a3, .inl (cA 0, 10, .inl fs)), (a4, .inl (cA 0, 10, .inl fp)), (a5, .inl (cA 0, 10, .inl ff)), (a6, .inl (cA 0, 10, .inl fd))] H := ⟨hP, hD⟩
  refine lv_aload_n hx hb dX0_copyFrom_8 rfl (lv_at hl 0 rfl) ?_
  refine va_get (D := D) (ci := 4) (v := .ref h1) (C := RX0) (T := TX0) (N := 20) hx hb hts inX0 hown hK hP 0 rfl rfl 1 (by decide) (hts (.fieldLink RX0 12 "EscrowDesk$Account" "ledger" "LEscrowDesk$Ledger;") (by decide +kernel)) (fun _ h9 => h9) rfl dX0_copyFrom_9 ?_
  refine lv_aload_n hx hb dX0_copyFrom_12 rfl (lv_at hl 1 rfl) ?_
  refine va_get (D := D) (ci := 4) (v := .ref a1) (C := RX0) (T := TX0) (N := 20) hx hb hts inX0 hown hK hP 7 rfl rfl 1 (by decide) (hts (.fieldLink RX0 12 "EscrowDesk$Account" "ledger" "LEscrowDesk$Ledger;") (by decide +kernel)) (fun _ h9 => h9) rfl dX0_copyFrom_13 ?_
  obtain ⟨hPc, hDc, hFc⟩ := PDq.cut (wc := [(h1, .inr (6, [.ref h2, .int (nI nh), .int (nI kh)])), (h2, .inl (cA 0, 240, .inl gr)), (a1, .inr (6, [.ref a2, .int (nI nx), .int (nI kp)])), (a2, .inl (cA 0, 240, .inl fr))]) hP hD hS hA [1, 2, 8, 9] (by decide) rfl
  refine va_callv (va_runV (As := [.ref a1]) (rest := []) ⟨hx, hb, hml, hown, hts⟩ (s_lcopy l D cA sa h1 h2 nh kh a1 a2 nx kp gr fr H.size) (cwV 1 hts gX0_copyFrom_X2_copyFrom rfl rfl rfl (by decide +kernel) ⟨(Nat.le_of_ble_eq_true rfl), (Nat.le_of_ble_eq_true rfl)⟩) ⟨Wd.blind, va_recv hK hPc (ci := 6) (q0 := 0) rfl rfl, fun U hU hW => ⟨rfl, Wd.call hPc hDc hK hC hZ hS hFc U hU hW⟩⟩ rfl rfl hl.1 rfl (lv_room (Nat.le_of_ble_eq_true rfl)) dX0_copyFrom_16 ⟨(Nat.le_of_ble_eq_true rfl), (Nat.le_of_ble_eq_true rfl)⟩) hS (fun q _ h => hFc q h) hFc (fun u t H1 locs ht hvm hw hB hz1 hk1 hS => ?_)
  obtain ⟨fn1, hP1, hD1⟩ := hB
  rw [ht] at hP1
  obtain ⟨hP, hD⟩ := PDq.join (w := [(h0, .inr (4, [.ref p0, .ref h1, .ref h3, .ref h4, .ref h5, .ref h6, x6, x7, x8, x9, x10, x11, x12, x13, x14, x15, x16, x17, x18, x19])), (h3, .inl (cA 0, 10, .inl gs)), (h4, .inl (cA 0, 10, .inl gp)), (h5, .inl (cA 0, 10, .inl gf)), (h6, .inl (cA 0, 10, .inl gd)), (oX0 a0 p0 a1 a3 a4 a5 a6 i6 i7 i8 i9 i10 i11 i12 i13 i14 i15 i16 i17 i18 i19), (a3, .inl (cA 0, 10, .inl fs)), (a4, .inl (cA 0, 10, .inl fp)), (a5, .inl (cA 0, 10, .inl ff)), (a6, .inl (cA 0, 10, .inl fd)), (h1, .inr (6, [.ref h2, .int (nI nx), .int (nI kp)])), (h2, .inl (cA 0, 240, .inl fn1)), (a1, .inr (6, [.ref a2, .int (nI nx), .int (nI kp)])), (a2, .inl (cA 0, 240, .inl fr))]) 10 hP hD [1, 2, 8, 9] [0, 3, 4, 5, 6, 7, 10, 11, 12, 13] rfl rfl (by decide +kernel) (by decide +kernel) hk1 hFc hP1 hD1 rfl
  generalize H1 = H at hP hS ⊢
  refine lv_aload_n hx hb dX0_copyFrom_19 rfl (lv_at hl 1 rfl) ?_
  refine va_get (D := D) (ci := 4) (v := .ref a3) (C := RX0) (T := TX0) (N := 20) hx hb hts inX0 hown hK hP 5 rfl rfl 2 (by decide) (hts (.fieldLink RX0 18 "EscrowDesk$Account" "state" "[I") (by decide +kernel)) (fun _ h9 => h9) rfl dX0_copyFrom_20 ?_
  refine lv_iconst (v := 0) hx hb dX0_copyFrom_23 (by decide) ?_
  refine lv_aload_n hx hb dX0_copyFrom_24 rfl (lv_at hl 0 rfl) ?_
  refine va_get (D := D) (ci := 4) (v := .ref h3) (C := RX0) (T := TX0) (N := 20) hx hb hts inX0 hown hK hP 0 rfl rfl 2 (by decide) (hts (.fieldLink RX0 18 "EscrowDesk$Account" "state" "[I") (by decide +kernel)) (fun _ h9 => h9) rfl dX0_copyFrom_25 ?_
  refine lv_iconst (v := 0) hx hb dX0_copyFrom_28 (by decide) ?_
  refine lv_bipush (v := 10) hx hb dX0_copyFrom_29 (by decide) ?_
  refine va_copyi hx hb (by rw [hml]; exact hl.1.symm) hown (hts (.methodLink RX0 103 arraycopyName) (by decide +kernel)) (hts (.native arraycopyName) (by decide +kernel)) (hts (.static arraycopyName) (by decide +kernel)) (hts (.initialized "java/lang/System") (by decide +kernel)) hK hP hD hS 6 1 0 0 rfl rfl rfl rfl rfl (by decide) (by decide) (by decide) (by decide +kernel) (by decide +kernel) (fun _ _ => rfl) (Nat.le_of_ble_eq_true rfl) (Nat.le_of_ble_eq_true rfl) dX0_copyFrom_31 (fun H locs hP hD hS => ?_)
  obtain ⟨hP, hD⟩ : PDq D A [(h0, .inr (4, [.ref p0, .ref h1, .ref h3, .ref h4, .ref h5, .ref h6, x6, x7, x8, x9, x10, x11, x12, x13, x14, x15, x16, x17, x18, x19])), (h3, .inl (cA 0, 10, .inl (va_cpy fs gs 0 0 10))), (h4, .inl (cA 0, 10, .inl gp)), (h5, .inl (cA 0, 10, .inl gf)), (h6, .inl (cA 0, 10, .inl gd)), (oX0 a0 p0 a1 a3 a4 a5 a6 i6 i7 i8 i9 i10 i11 i12 i13 i14 i15 i16 i17 i18 i19), (a3, .inl (cA 0, 10, .inl fs)), (a4, .inl (cA 0, 10, .inl fp)), (a5, .inl (cA 0, 10, .inl ff)), (a6, .inl (cA 0, 10, .inl fd)), (h1, .inr (6, [.ref h2, .int (nI nx), .int (nI kp)])), (h2, .inl (cA 0, 240, .inl fn1)), (a1, .inr (6, [.ref a2, .int (nI nx), .int (nI kp)])), (a2, .inl (cA 0, 240, .inl fr))] H := ⟨hP, hD⟩
  generalize (va_cpy fs gs 0 0 10) = fn2 at hP hD
  obtain ⟨hP, hD⟩ : PDq D A [(h0, .inr (4, [.ref p0, .ref h1, .ref h3, .ref h4, .ref h5, .ref h6, x6, x7, x8, x9, x10, x11, x12, x13, x14, x15, x16, x17, x18, x19])), (h3, .inl (cA 0, 10, .inl fn2)), (h4, .inl (cA 0, 10, .inl gp)), (h5, .inl (cA 0, 10, .inl gf)), (h6, .inl (cA 0, 10, .inl gd)), (oX0 a0 p0 a1 a3 a4 a5 a6 i6 i7 i8 i9 i10 i11 i12 i13 i14 i15 i16 i17 i18 i19), (a3, .inl (cA 0, 10, .inl fs)), (a4, .inl (cA 0, 10, .inl fp)), (a5, .inl (cA 0, 10, .inl ff)), (a6, .inl (cA 0, 10, .inl fd)), (h1, .inr (6, [.ref h2, .int (nI nx), .int (nI kp)])), (h2, .inl (cA 0, 240, .inl fn1)), (a1, .inr (6, [.ref a2, .int (nI nx), .int (nI kp)])), (a2, .inl (cA 0, 240, .inl fr))] H := ⟨hP, hD⟩
  refine lv_aload_n hx hb dX0_copyFrom_34 rfl (lv_at hl 1 rfl) ?_
  refine va_get (D := D) (ci := 4) (v := .ref a4) (C := RX0) (T := TX0) (N := 20) hx hb hts inX0 hown hK hP 5 rfl rfl 3 (by decide) (hts (.fieldLink RX0 22 "EscrowDesk$Account" "paid" "[I") (by decide +kernel)) (fun _ h9 => h9) rfl dX0_copyFrom_35 ?_
  refine lv_iconst (v := 0) hx hb dX0_copyFrom_38 (by decide) ?_
  refine lv_aload_n hx hb dX0_copyFrom_39 rfl (lv_at hl 0 rfl) ?_
  refine va_get (D := D) (ci := 4) (v := .ref h4) (C := RX0) (T := TX0) (N := 20) hx hb hts inX0 hown hK hP 0 rfl rfl 3 (by decide) (hts (.fieldLink RX0 22 "EscrowDesk$Account" "paid" "[I") (by decide +kernel)) (fun _ h9 => h9) rfl dX0_copyFrom_40 ?_
  refine lv_iconst (v := 0) hx hb dX0_copyFrom_43 (by decide) ?_
  refine lv_bipush (v := 10) hx hb dX0_copyFrom_44 (by decide) ?_
  refine va_copyi hx hb (by rw [hml]; exact hl.1.symm) hown (hts (.methodLink RX0 103 arraycopyName) (by decide +kernel)) (hts (.native arraycopyName) (by decide +kernel)) (hts (.static arraycopyName) (by decide +kernel)) (hts (.initialized "java/lang/System") (by decide +kernel)) hK hP hD hS 7 2 0 0 rfl rfl rfl rfl rfl (by decide) (by decide) (by decide) (by decide +kernel) (by decide +kernel) (fun _ _ => rfl) (Nat.le_of_ble_eq_true rfl) (Nat.le_of_ble_eq_true rfl) dX0_copyFrom_46 (fun H locs hP hD hS => ?_)
  obtain ⟨hP, hD⟩ : PDq D A [(h0, .inr (4, [.ref p0, .ref h1, .ref h3, .ref h4, .ref h5, .ref h6, x6, x7, x8, x9, x10, x11, x12, x13, x14, x15, x16, x17, x18, x19])), (h3, .inl (cA 0, 10, .inl fn2)), (h4, .inl (cA 0, 10, .inl (va_cpy fp gp 0 0 10))), (h5, .inl (cA 0, 10, .inl gf)), (h6, .inl (cA 0, 10, .inl gd)), (oX0 a0 p0 a1 a3 a4 a5 a6 i6 i7 i8 i9 i10 i11 i12 i13 i14 i15 i16 i17 i18 i19), (a3, .inl (cA 0, 10, .inl fs)), (a4, .inl (cA 0, 10, .inl fp)), (a5, .inl (cA 0, 10, .inl ff)), (a6, .inl (cA 0, 10, .inl fd)), (h1, .inr (6, [.ref h2, .int (nI nx), .int (nI kp)])), (h2, .inl (cA 0, 240, .inl fn1)), (a1, .inr (6, [.ref a2, .int (nI nx), .int (nI kp)])), (a2, .inl (cA 0, 240, .inl fr))] H := ⟨hP, hD⟩
  generalize (va_cpy fp gp 0 0 10) = fn3 at hP hD
  obtain ⟨hP, hD⟩ : PDq D A [(h0, .inr (4, [.ref p0, .ref h1, .ref h3, .ref h4, .ref h5, .ref h6, x6, x7, x8, x9, x10, x11, x12, x13, x14, x15, x16, x17, x18, x19])), (h3, .inl (cA 0, 10, .inl fn2)), (h4, .inl (cA 0, 10, .inl fn3)), (h5, .inl (cA 0, 10, .inl gf)), (h6, .inl (cA 0, 10, .inl gd)), (oX0 a0 p0 a1 a3 a4 a5 a6 i6 i7 i8 i9 i10 i11 i12 i13 i14 i15 i16 i17 i18 i19), (a3, .inl (cA 0, 10, .inl fs)), (a4, .inl (cA 0, 10, .inl fp)), (a5, .inl (cA 0, 10, .inl ff)), (a6, .inl (cA 0, 10, .inl fd)), (h1, .inr (6, [.ref h2, .int (nI nx), .int (nI kp)])), (h2, .inl (cA 0, 240, .inl fn1)), (a1, .inr (6, [.ref a2, .int (nI nx), .int (nI kp)])), (a2, .inl (cA 0, 240, .inl fr))] H := ⟨hP, hD⟩
  refine lv_aload_n hx hb dX0_copyFrom_49 rfl (lv_at hl 1 rfl) ?_
  refine va_get (D := D) (ci := 4) (v := .ref a5) (C := RX0) (T := TX0) (N := 20) hx hb hts inX0 hown hK hP 5 rfl rfl 4 (by decide) (hts (.fieldLink RX0 25 "EscrowDesk$Account" "frozen" "[I") (by decide +kernel)) (fun _ h9 => h9) rfl dX0_copyFrom_50 ?_
  refine lv_iconst (v := 0) hx hb dX0_copyFrom_53 (by decide) ?_
  refine lv_aload_n hx hb dX0_copyFrom_54 rfl (lv_at hl 0 rfl) ?_
  refine va_get (D := D) (ci := 4) (v := .ref h5) (C := RX0) (T := TX0) (N := 20) hx hb hts inX0 hown hK hP 0 rfl rfl 4 (by decide) (hts (.fieldLink RX0 25 "EscrowDesk$Account" "frozen" "[I") (by decide +kernel)) (fun _ h9 => h9) rfl dX0_copyFrom_55 ?_
  refine lv_iconst (v := 0) hx hb dX0_copyFrom_58 (by decide) ?_
  refine lv_bipush (v := 10) hx hb dX0_copyFrom_59 (by decide) ?_
  refine va_copyi hx hb (by rw [hml]; exact hl.1.symm) hown (hts (.methodLink RX0 103 arraycopyName) (by decide +kernel)) (hts (.native arraycopyName) (by decide +kernel)) (hts (.static arraycopyName) (by decide +kernel)) (hts (.initialized "java/lang/System") (by decide +kernel)) hK hP hD hS 8 3 0 0 rfl rfl rfl rfl rfl (by decide) (by decide) (by decide) (by decide +kernel) (by decide +kernel) (fun _ _ => rfl) (Nat.le_of_ble_eq_true rfl) (Nat.le_of_ble_eq_true rfl) dX0_copyFrom_61 (fun H locs hP hD hS => ?_)
  obtain ⟨hP, hD⟩ : PDq D A [(h0, .inr (4, [.ref p0, .ref h1, .ref h3, .ref h4, .ref h5, .ref h6, x6, x7, x8, x9, x10, x11, x12, x13, x14, x15, x16, x17, x18, x19])), (h3, .inl (cA 0, 10, .inl fn2)), (h4, .inl (cA 0, 10, .inl fn3)), (h5, .inl (cA 0, 10, .inl (va_cpy ff gf 0 0 10))), (h6, .inl (cA 0, 10, .inl gd)), (oX0 a0 p0 a1 a3 a4 a5 a6 i6 i7 i8 i9 i10 i11 i12 i13 i14 i15 i16 i17 i18 i19), (a3, .inl (cA 0, 10, .inl fs)), (a4, .inl (cA 0, 10, .inl fp)), (a5, .inl (cA 0, 10, .inl ff)), (a6, .inl (cA 0, 10, .inl fd)), (h1, .inr (6, [.ref h2, .int (nI nx), .int (nI kp)])), (h2, .inl (cA 0, 240, .inl fn1)), (a1, .inr (6, [.ref a2, .int (nI nx), .int (nI kp)])), (a2, .inl (cA 0, 240, .inl fr))] H := ⟨hP, hD⟩
  generalize (va_cpy ff gf 0 0 10) = fn4 at hP hD
  obtain ⟨hP, hD⟩ : PDq D A [(h0, .inr (4, [.ref p0, .ref h1, .ref h3, .ref h4, .ref h5, .ref h6, x6, x7, x8, x9, x10, x11, x12, x13, x14, x15, x16, x17, x18, x19])), (h3, .inl (cA 0, 10, .inl fn2)), (h4, .inl (cA 0, 10, .inl fn3)), (h5, .inl (cA 0, 10, .inl fn4)), (h6, .inl (cA 0, 10, .inl gd)), (oX0 a0 p0 a1 a3 a4 a5 a6 i6 i7 i8 i9 i10 i11 i12 i13 i14 i15 i16 i17 i18 i19), (a3, .inl (cA 0, 10, .inl fs)), (a4, .inl (cA 0, 10, .inl fp)), (a5, .inl (cA 0, 10, .inl ff)), (a6, .inl (cA 0, 10, .inl fd)), (h1, .inr (6, [.ref h2, .int (nI nx), .int (nI kp)])), (h2, .inl (cA 0, 240, .inl fn1)), (a1, .inr (6, [.ref a2, .int (nI nx), .int (nI kp)])), (a2, .inl (cA 0, 240, .inl fr))] H := ⟨hP, hD⟩
  refine lv_aload_n hx hb dX0_copyFrom_64 rfl (lv_at hl 1 rfl) ?_
  refine va_get (D := D) (ci := 4) (v := .ref a6) (C := RX0) (T := TX0) (N := 20) hx hb hts inX0 hown hK hP 5 rfl rfl 5 (by decide) (hts (.fieldLink RX0 28 "EscrowDesk$Account" "dueDay" "[I") (by decide +kernel)) (fun _ h9 => h9) rfl dX0_copyFrom_65 ?_
  refine lv_iconst (v := 0) hx hb dX0_copyFrom_68 (by decide) ?_
  refine lv_aload_n hx hb dX0_copyFrom_69 rfl (lv_at hl 0 rfl) ?_
  refine va_get (D := D) (ci := 4) (v := .ref h6) (C := RX0) (T := TX0) (N := 20) hx hb hts inX0 hown hK hP 0 rfl rfl 5 (by decide) (hts (.fieldLink RX0 28 "EscrowDesk$Account" "dueDay" "[I") (by decide +kernel)) (fun _ h9 => h9) rfl dX0_copyFrom_70 ?_
  refine lv_iconst (v := 0) hx hb dX0_copyFrom_73 (by decide) ?_
  refine lv_bipush (v := 10) hx hb dX0_copyFrom_74 (by decide) ?_
  refine va_copyi hx hb (by rw [hml]; exact hl.1.symm) hown (hts (.methodLink RX0 103 arraycopyName) (by decide +kernel)) (hts (.native arraycopyName) (by decide +kernel)) (hts (.static arraycopyName) (by decide +kernel)) (hts (.initialized "java/lang/System") (by decide +kernel)) hK hP hD hS 9 4 0 0 rfl rfl rfl rfl rfl (by decide) (by decide) (by decide) (by decide +kernel) (by decide +kernel) (fun _ _ => rfl) (Nat.le_of_ble_eq_true rfl) (Nat.le_of_ble_eq_true rfl) dX0_copyFrom_76 (fun H locs hP hD hS => ?_)
  obtain ⟨hP, hD⟩ : PDq D A [(h0, .inr (4, [.ref p0, .ref h1, .ref h3, .ref h4, .ref h5, .ref h6, x6, x7, x8, x9, x10, x11, x12, x13, x14, x15, x16, x17, x18, x19])), (h3, .inl (cA 0, 10, .inl fn2)), (h4, .inl (cA 0, 10, .inl fn3)), (h5, .inl (cA 0, 10, .inl fn4)), (h6, .inl (cA 0, 10, .inl (va_cpy fd gd 0 0 10))), (oX0 a0 p0 a1 a3 a4 a5 a6 i6 i7 i8 i9 i10 i11 i12 i13 i14 i15 i16 i17 i18 i19), (a3, .inl (cA 0, 10, .inl fs)), (a4, .inl (cA 0, 10, .inl fp)), (a5, .inl (cA 0, 10, .inl ff)), (a6, .inl (cA 0, 10, .inl fd)), (h1, .inr (6, [.ref h2, .int (nI nx), .int (nI kp)])), (h2, .inl (cA 0, 240, .inl fn1)), (a1, .inr (6, [.ref a2, .int (nI nx), .int (nI kp)])), (a2, .inl (cA 0, 240, .inl fr))] H := ⟨hP, hD⟩
  generalize (va_cpy fd gd 0 0 10) = fn5 at hP hD
  obtain ⟨hP, hD⟩ : PDq D A [(h0, .inr (4, [.ref p0, .ref h1, .ref h3, .ref h4, .ref h5, .ref h6, x6, x7, x8, x9, x10, x11, x12, x13, x14, x15, x16, x17, x18, x19])), (h3, .inl (cA 0, 10, .inl fn2)), (h4, .inl (cA 0, 10, .inl fn3)), (h5, .inl (cA 0, 10, .inl fn4)), (h6, .inl (cA 0, 10, .inl fn5)), (oX0 a0 p0 a1 a3 a4 a5 a6 i6 i7 i8 i9 i10 i11 i12 i13 i14 i15 i16 i17 i18 i19), (a3, .inl (cA 0, 10, .inl fs)), (a4, .inl (cA 0, 10, .inl fp)), (a5, .inl (cA 0, 10, .inl ff)), (a6, .inl (cA 0, 10, .inl fd)), (h1, .inr (6, [.ref h2, .int (nI nx), .int (nI kp)])), (h2, .inl (cA 0, 240, .inl fn1)), (a1, .inr (6, [.ref a2, .int (nI nx), .int (nI kp)])), (a2, .inl (cA 0, 240, .inl fr))] H := ⟨hP, hD⟩
  refine lv_aload_n hx hb dX0_copyFrom_79 rfl (lv_at hl 0 rfl) ?_
  refine lv_aload_n hx hb dX0_copyFrom_80 rfl (lv_at hl 1 rfl) ?_
  refine va_get (D := D) (ci := 4) (v := .int i6) (C := RX0) (T := TX0) (N := 20) hx hb hts inX0 hown hK hP 5 rfl rfl 6 (by decide) (hts (.fieldLink RX0 40 "EscrowDesk$Account" "day" "I") (by decide +kernel)) (fun _ h9 => h9) rfl dX0_copyFrom_81 ?_
  refine va_put (D := D) (ci := 4) (v := .int i6) (ty := .int) (C := RX0) (T := TX0) (N := 20) hx hb hts inX0 tyX0 tyX0_ok nmX0 hown hK hP hD hS 0 rfl rfl 6 (by decide) (hts (.fieldLink RX0 40 "EscrowDesk$Account" "day" "I") (by decide +kernel)) (fun _ h9 => h9) rfl (by decide +kernel) rfl rfl (Nat.le_of_ble_eq_true rfl) dX0_copyFrom_84 (fun H locs hP hD hS => ?_)
  obtain ⟨hP, hD⟩ : PDq D A [(h0, .inr (4, [.ref p0, .ref h1, .ref h3, .ref h4, .ref h5, .ref h6, .int i6, x7, x8, x9, x10, x11, x12, x13, x14, x15, x16, x17, x18, x19])), (h3, .inl (cA 0, 10, .inl fn2)), (h4, .inl (cA 0, 10, .inl fn3)), (h5, .inl (cA 0, 10, .inl fn4)), (h6, .inl (cA 0, 10, .inl fn5)), (oX0 a0 p0 a1 a3 a4 a5 a6 i6 i7 i8 i9 i10 i11 i12 i13 i14 i15 i16 i17 i18 i19), (a3, .inl (cA 0, 10, .inl fs)), (a4, .inl (cA 0, 10, .inl fp)), (a5, .inl (cA 0, 10, .inl ff)), (a6, .inl (cA 0, 10, .inl fd)), (h1, .inr (6, [.ref h2, .int (nI nx), .int (nI kp)])), (h2, .inl (cA 0, 240, .inl fn1)), (a1, .inr (6, [.ref a2, .int (nI nx), .int (nI kp)])), (a2, .inl (cA 0, 240, .inl fr))] H := ⟨hP, hD⟩
  refine lv_aload_n hx hb dX0_copyFrom_87 rfl (lv_at hl 0 rfl) ?_
  refine lv_aload_n hx hb dX0_copyFrom_88 rfl (lv_at hl 1 rfl) ?_
  refine va_get (D := D) (ci := 4) (v := .int i7) (C := RX0) (T := TX0) (N := 20) hx hb hts inX0 hown hK hP 5 rfl rfl 7 (by decide) (hts (.fieldLink RX0 44 "EscrowDesk$Account" "deposited" "I") (by decide +kernel)) (fun _ h9 => h9) rfl dX0_copyFrom_89 ?_
  refine va_put (D := D) (ci := 4) (v := .int i7) (ty := .int) (C := RX0) (T := TX0) (N := 20) hx hb hts inX0 tyX0 tyX0_ok nmX0 hown hK hP hD hS 0 rfl rfl 7 (by decide) (hts (.fieldLink RX0 44 "EscrowDesk$Account" "deposited" "I") (by decide +kernel)) (fun _ h9 => h9) rfl (by decide +kernel) rfl rfl (Nat.le_of_ble_eq_true rfl) dX0_copyFrom_92 (fun H locs hP hD hS => ?_)
  obtain ⟨hP, hD⟩ : PDq D A [(h0, .inr (4, [.ref p0, .ref h1, .ref h3, .ref h4, .ref h5, .ref h6, .int i6, .int i7, x8, x9, x10, x11, x12, x13, x14, x15, x16, x17, x18, x19])), (h3, .inl (cA 0, 10, .inl fn2)), (h4, .inl (cA 0, 10, .inl fn3)), (h5, .inl (cA 0, 10, .inl fn4)), (h6, .inl (cA 0, 10, .inl fn5)), (oX0 a0 p0 a1 a3 a4 a5 a6 i6 i7 i8 i9 i10 i11 i12 i13 i14 i15 i16 i17 i18 i19), (a3, .inl (cA 0, 10, .inl fs)), (a4, .inl (cA 0, 10, .inl fp)), (a5, .inl (cA 0, 10, .inl ff)), (a6, .inl (cA 0, 10, .inl fd)), (h1, .inr (6, [.ref h2, .int (nI nx), .int (nI kp)])), (h2, .inl (cA 0, 240, .inl fn1)), (a1, .inr (6, [.ref a2, .int (nI nx), .int (nI kp)])), (a2, .inl (cA 0, 240, .inl fr))] H := ⟨hP, hD⟩
  refine lv_aload_n hx hb dX0_copyFrom_95 rfl (lv_at hl 0 rfl) ?_
  refine lv_aload_n hx hb dX0_copyFrom_96 rfl (lv_at hl 1 rfl) ?_
  refine va_get (D := D) (ci := 4) (v := .int i8) (C := RX0) (T := TX0) (N := 20) hx hb hts inX0 hown hK hP 5 rfl rfl 8 (by decide) (hts (.fieldLink RX0 47 "EscrowDesk$Account" "principal" "I") (by decide +kernel)) (fun _ h9 => h9) rfl dX0_copyFrom_97 ?_
  refine va_put (D := D) (ci := 4) (v := .int i8) (ty := .int) (C := RX0) (T := TX0) (N := 20) hx hb hts inX0 tyX0 tyX0_ok nmX0 hown hK hP hD hS 0 rfl rfl 8 (by decide) (hts (.fieldLink RX0 47 "EscrowDesk$Account" "principal" "I") (by decide +kernel)) (fun _ h9 => h9) rfl (by decide +kernel) rfl rfl (Nat.le_of_ble_eq_true rfl) dX0_copyFrom_100 (fun H locs hP hD hS => ?_)
  obtain ⟨hP, hD⟩ : PDq D A [(h0, .inr (4, [.ref p0, .ref h1, .ref h3, .ref h4, .ref h5, .ref h6, .int i6, .int i7, .int i8, x9, x10, x11, x12, x13, x14, x15, x16, x17, x18, x19])), (h3, .inl (cA 0, 10, .inl fn2)), (h4, .inl (cA 0, 10, .inl fn3)), (h5, .inl (cA 0, 10, .inl fn4)), (h6, .inl (cA 0, 10, .inl fn5)), (oX0 a0 p0 a1 a3 a4 a5 a6 i6 i7 i8 i9 i10 i11 i12 i13 i14 i15 i16 i17 i18 i19), (a3, .inl (cA 0, 10, .inl fs)), (a4, .inl (cA 0, 10, .inl fp)), (a5, .inl (cA 0, 10, .inl ff)), (a6, .inl (cA 0, 10, .inl fd)), (h1, .inr (6, [.ref h2, .int (nI nx), .int (nI kp)])), (h2, .inl (cA 0, 240, .inl fn1)), (a1, .inr (6, [.ref a2, .int (nI nx), .int (nI kp)])), (a2, .inl (cA 0, 240, .inl fr))] H := ⟨hP, hD⟩
  refine lv_aload_n hx hb dX0_copyFrom_103 rfl (lv_at hl 0 rfl) ?_
  refine lv_aload_n hx hb dX0_copyFrom_104 rfl (lv_at hl 1 rfl) ?_
  refine va_get (D := D) (ci := 4) (v := .long i9) (C := RX0) (T := TX0) (N := 20) hx hb hts inX0 hown hK hP 5 rfl rfl 9 (by decide) (hts (.fieldLink RX0 50 "EscrowDesk$Account" "interestPot" "J") (by decide +kernel)) (fun _ h9 => h9) rfl dX0_copyFrom_105 ?_
  refine va_put (D := D) (ci := 4) (v := .long i9) (ty := .long) (C := RX0) (T := TX0) (N := 20) hx hb hts inX0 tyX0 tyX0_ok nmX0 hown hK hP hD hS 0 rfl rfl 9 (by decide) (hts (.fieldLink RX0 50 "EscrowDesk$Account" "interestPot" "J") (by decide +kernel)) (fun _ h9 => h9) rfl (by decide +kernel) rfl rfl (Nat.le_of_ble_eq_true rfl) dX0_copyFrom_108 (fun H locs hP hD hS => ?_)
  obtain ⟨hP, hD⟩ : PDq D A [(h0, .inr (4, [.ref p0, .ref h1, .ref h3, .ref h4, .ref h5, .ref h6, .int i6, .int i7, .int i8, .long i9, x10, x11, x12, x13, x14, x15, x16, x17, x18, x19])), (h3, .inl (cA 0, 10, .inl fn2)), (h4, .inl (cA 0, 10, .inl fn3)), (h5, .inl (cA 0, 10, .inl fn4)), (h6, .inl (cA 0, 10, .inl fn5)), (oX0 a0 p0 a1 a3 a4 a5 a6 i6 i7 i8 i9 i10 i11 i12 i13 i14 i15 i16 i17 i18 i19), (a3, .inl (cA 0, 10, .inl fs)), (a4, .inl (cA 0, 10, .inl fp)), (a5, .inl (cA 0, 10, .inl ff)), (a6, .inl (cA 0, 10, .inl fd)), (h1, .inr (6, [.ref h2, .int (nI nx), .int (nI kp)])), (h2, .inl (cA 0, 240, .inl fn1)), (a1, .inr (6, [.ref a2, .int (nI nx), .int (nI kp)])), (a2, .inl (cA 0, 240, .inl fr))] H := ⟨hP, hD⟩
  refine lv_aload_n hx hb dX0_copyFrom_111 rfl (lv_at hl 0 rfl) ?_
  refine lv_aload_n hx hb dX0_copyFrom_112 rfl (lv_at hl 1 rfl) ?_
  refine va_get (D := D) (ci := 4) (v := .long i10) (C := RX0) (T := TX0) (N := 20) hx hb hts inX0 hown hK hP 5 rfl rfl 10 (by decide) (hts (.fieldLink RX0 54 "EscrowDesk$Account" "credited" "J") (by decide +kernel)) (fun _ h9 => h9) rfl dX0_copyFrom_113 ?_
  refine va_put (D := D) (ci := 4) (v := .long i10) (ty := .long) (C := RX0) (T := TX0) (N := 20) hx hb hts inX0 tyX0 tyX0_ok nmX0 hown hK hP hD hS 0 rfl rfl 10 (by decide) (hts (.fieldLink RX0 54 "EscrowDesk$Account" "credited" "J") (by decide +kernel)) (fun _ h9 => h9) rfl (by decide +kernel) rfl rfl (Nat.le_of_ble_eq_true rfl) dX0_copyFrom_116 (fun H locs hP hD hS => ?_)
  obtain ⟨hP, hD⟩ : PDq D A [(h0, .inr (4, [.ref p0, .ref h1, .ref h3, .ref h4, .ref h5, .ref h6, .int i6, .int i7, .int i8, .long i9, .long i10, x11, x12, x13, x14, x15, x16, x17, x18, x19])), (h3, .inl (cA 0, 10, .inl fn2)), (h4, .inl (cA 0, 10, .inl fn3)), (h5, .inl (cA 0, 10, .inl fn4)), (h6, .inl (cA 0, 10, .inl fn5)), (oX0 a0 p0 a1 a3 a4 a5 a6 i6 i7 i8 i9 i10 i11 i12 i13 i14 i15 i16 i17 i18 i19), (a3, .inl (cA 0, 10, .inl fs)), (a4, .inl (cA 0, 10, .inl fp)), (a5, .inl (cA 0, 10, .inl ff)), (a6, .inl (cA 0, 10, .inl fd)), (h1, .inr (6, [.ref h2, .int (nI nx), .int (nI kp)])), (h2, .inl (cA 0, 240, .inl fn1)), (a1, .inr (6, [.ref a2, .int (nI nx), .int (nI kp)])), (a2, .inl (cA 0, 240, .inl fr))] H := ⟨hP, hD⟩
  refine lv_aload_n hx hb dX0_copyFrom_119 rfl (lv_at hl 0 rfl) ?_
  refine lv_aload_n hx hb dX0_copyFrom_120 rfl (lv_at hl 1 rfl) ?_
  refine va_get (D := D) (ci := 4) (v := .long i11) (C := RX0) (T := TX0) (N := 20) hx hb hts inX0 hown hK hP 5 rfl rfl 11 (by decide) (hts (.fieldLink RX0 57 "EscrowDesk$Account" "accruedParts" "J") (by decide +kernel)) (fun _ h9 => h9) rfl dX0_copyFrom_121 ?_
  refine va_put (D := D) (ci := 4) (v := .long i11) (ty := .long) (C := RX0) (T := TX0) (N := 20) hx hb hts inX0 tyX0 tyX0_ok nmX0 hown hK hP hD hS 0 rfl rfl 11 (by decide) (hts (.fieldLink RX0 57 "EscrowDesk$Account" "accruedParts" "J") (by decide +kernel)) (fun _ h9 => h9) rfl (by decide +kernel) rfl rfl (Nat.le_of_ble_eq_true rfl) dX0_copyFrom_124 (fun H locs hP hD hS => ?_)
  obtain ⟨hP, hD⟩ : PDq D A [(h0, .inr (4, [.ref p0, .ref h1, .ref h3, .ref h4, .ref h5, .ref h6, .int i6, .int i7, .int i8, .long i9, .long i10, .long i11, x12, x13, x14, x15, x16, x17, x18, x19])), (h3, .inl (cA 0, 10, .inl fn2)), (h4, .inl (cA 0, 10, .inl fn3)), (h5, .inl (cA 0, 10, .inl fn4)), (h6, .inl (cA 0, 10, .inl fn5)), (oX0 a0 p0 a1 a3 a4 a5 a6 i6 i7 i8 i9 i10 i11 i12 i13 i14 i15 i16 i17 i18 i19), (a3, .inl (cA 0, 10, .inl fs)), (a4, .inl (cA 0, 10, .inl fp)), (a5, .inl (cA 0, 10, .inl ff)), (a6, .inl (cA 0, 10, .inl fd)), (h1, .inr (6, [.ref h2, .int (nI nx), .int (nI kp)])), (h2, .inl (cA 0, 240, .inl fn1)), (a1, .inr (6, [.ref a2, .int (nI nx), .int (nI kp)])), (a2, .inl (cA 0, 240, .inl fr))] H := ⟨hP, hD⟩
  refine lv_aload_n hx hb dX0_copyFrom_127 rfl (lv_at hl 0 rfl) ?_
  refine lv_aload_n hx hb dX0_copyFrom_128 rfl (lv_at hl 1 rfl) ?_
  refine va_get (D := D) (ci := 4) (v := .int i12) (C := RX0) (T := TX0) (N := 20) hx hb hts inX0 hown hK hP 5 rfl rfl 12 (by decide) (hts (.fieldLink RX0 60 "EscrowDesk$Account" "received" "I") (by decide +kernel)) (fun _ h9 => h9) rfl dX0_copyFrom_129 ?_
  refine va_put (D := D) (ci := 4) (v := .int i12) (ty := .int) (C := RX0) (T := TX0) (N := 20) hx hb hts inX0 tyX0 tyX0_ok nmX0 hown hK hP hD hS 0 rfl rfl 12 (by decide) (hts (.fieldLink RX0 60 "EscrowDesk$Account" "received" "I") (by decide +kernel)) (fun _ h9 => h9) rfl (by decide +kernel) rfl rfl (Nat.le_of_ble_eq_true rfl) dX0_copyFrom_132 (fun H locs hP hD hS => ?_)
  obtain ⟨hP, hD⟩ : PDq D A [(h0, .inr (4, [.ref p0, .ref h1, .ref h3, .ref h4, .ref h5, .ref h6, .int i6, .int i7, .int i8, .long i9, .long i10, .long i11, .int i12, x13, x14, x15, x16, x17, x18, x19])), (h3, .inl (cA 0, 10, .inl fn2)), (h4, .inl (cA 0, 10, .inl fn3)), (h5, .inl (cA 0, 10, .inl fn4)), (h6, .inl (cA 0, 10, .inl fn5)), (oX0 a0 p0 a1 a3 a4 a5 a6 i6 i7 i8 i9 i10 i11 i12 i13 i14 i15 i16 i17 i18 i19), (a3, .inl (cA 0, 10, .inl fs)), (a4, .inl (cA 0, 10, .inl fp)), (a5, .inl (cA 0, 10, .inl ff)), (a6, .inl (cA 0, 10, .inl fd)), (h1, .inr (6, [.ref h2, .int (nI nx), .int (nI kp)])), (h2, .inl (cA 0, 240, .inl fn1)), (a1, .inr (6, [.ref a2, .int (nI nx), .int (nI kp)])), (a2, .inl (cA 0, 240, .inl fr))] H := ⟨hP, hD⟩
  refine lv_aload_n hx hb dX0_copyFrom_135 rfl (lv_at hl 0 rfl) ?_
  refine lv_aload_n hx hb dX0_copyFrom_136 rfl (lv_at hl 1 rfl) ?_
  refine va_get (D := D) (ci := 4) (v := .int i13) (C := RX0) (T := TX0) (N := 20) hx hb hts inX0 hown hK hP 5 rfl rfl 13 (by decide) (hts (.fieldLink RX0 63 "EscrowDesk$Account" "fees" "I") (by decide +kernel)) (fun _ h9 => h9) rfl dX0_copyFrom_137 ?_
  refine va_put (D := D) (ci := 4) (v := .int i13) (ty := .int) (C := RX0) (T := TX0) (N := 20) hx hb hts inX0 tyX0 tyX0_ok nmX0 hown hK hP hD hS 0 rfl rfl 13 (by decide) (hts (.fieldLink RX0 63 "EscrowDesk$Account" "fees" "I") (by decide +kernel)) (fun _ h9 => h9) rfl (by decide +kernel) rfl rfl (Nat.le_of_ble_eq_true rfl) dX0_copyFrom_140 (fun H locs hP hD hS => ?_)
  obtain ⟨hP, hD⟩ : PDq D A [(h0, .inr (4, [.ref p0, .ref h1, .ref h3, .ref h4, .ref h5, .ref h6, .int i6, .int i7, .int i8, .long i9, .long i10, .long i11, .int i12, .int i13, x14, x15, x16, x17, x18, x19])), (h3, .inl (cA 0, 10, .inl fn2)), (h4, .inl (cA 0, 10, .inl fn3)), (h5, .inl (cA 0, 10, .inl fn4)), (h6, .inl (cA 0, 10, .inl fn5)), (oX0 a0 p0 a1 a3 a4 a5 a6 i6 i7 i8 i9 i10 i11 i12 i13 i14 i15 i16 i17 i18 i19), (a3, .inl (cA 0, 10, .inl fs)), (a4, .inl (cA 0, 10, .inl fp)), (a5, .inl (cA 0, 10, .inl ff)), (a6, .inl (cA 0, 10, .inl fd)), (h1, .inr (6, [.ref h2, .int (nI nx), .int (nI kp)])), (h2, .inl (cA 0, 240, .inl fn1)), (a1, .inr (6, [.ref a2, .int (nI nx), .int (nI kp)])), (a2, .inl (cA 0, 240, .inl fr))] H := ⟨hP, hD⟩
  refine lv_aload_n hx hb dX0_copyFrom_143 rfl (lv_at hl 0 rfl) ?_
  refine lv_aload_n hx hb dX0_copyFrom_144 rfl (lv_at hl 1 rfl) ?_
  refine va_get (D := D) (ci := 4) (v := .int i14) (C := RX0) (T := TX0) (N := 20) hx hb hts inX0 hown hK hP 5 rfl rfl 14 (by decide) (hts (.fieldLink RX0 66 "EscrowDesk$Account" "refunded" "I") (by decide +kernel)) (fun _ h9 => h9) rfl dX0_copyFrom_145 ?_
  refine va_put (D := D) (ci := 4) (v := .int i14) (ty := .int) (C := RX0) (T := TX0) (N := 20) hx hb hts inX0 tyX0 tyX0_ok nmX0 hown hK hP hD hS 0 rfl rfl 14 (by decide) (hts (.fieldLink RX0 66 "EscrowDesk$Account" "refunded" "I") (by decide +kernel)) (fun _ h9 => h9) rfl (by decide +kernel) rfl rfl (Nat.le_of_ble_eq_true rfl) dX0_copyFrom_148 (fun H locs hP hD hS => ?_)
  obtain ⟨hP, hD⟩ : PDq D A [(h0, .inr (4, [.ref p0, .ref h1, .ref h3, .ref h4, .ref h5, .ref h6, .int i6, .int i7, .int i8, .long i9, .long i10, .long i11, .int i12, .int i13, .int i14, x15, x16, x17, x18, x19])), (h3, .inl (cA 0, 10, .inl fn2)), (h4, .inl (cA 0, 10, .inl fn3)), (h5, .inl (cA 0, 10, .inl fn4)), (h6, .inl (cA 0, 10, .inl fn5)), (oX0 a0 p0 a1 a3 a4 a5 a6 i6 i7 i8 i9 i10 i11 i12 i13 i14 i15 i16 i17 i18 i19), (a3, .inl (cA 0, 10, .inl fs)), (a4, .inl (cA 0, 10, .inl fp)), (a5, .inl (cA 0, 10, .inl ff)), (a6, .inl (cA 0, 10, .inl fd)), (h1, .inr (6, [.ref h2, .int (nI nx), .int (nI kp)])), (h2, .inl (cA 0, 240, .inl fn1)), (a1, .inr (6, [.ref a2, .int (nI nx), .int (nI kp)])), (a2, .inl (cA 0, 240, .inl fr))] H := ⟨hP, hD⟩
  refine lv_aload_n hx hb dX0_copyFrom_151 rfl (lv_at hl 0 rfl) ?_
  refine lv_aload_n hx hb dX0_copyFrom_152 rfl (lv_at hl 1 rfl) ?_
  refine va_get (D := D) (ci := 4) (v := .int i15) (C := RX0) (T := TX0) (N := 20) hx hb hts inX0 hown hK hP 5 rfl rfl 15 (by decide) (hts (.fieldLink RX0 74 "EscrowDesk$Account" "rate" "I") (by decide +kernel)) (fun _ h9 => h9) rfl dX0_copyFrom_153 ?_
  refine va_put (D := D) (ci := 4) (v := .int i15) (ty := .int) (C := RX0) (T := TX0) (N := 20) hx hb hts inX0 tyX0 tyX0_ok nmX0 hown hK hP hD hS 0 rfl rfl 15 (by decide) (hts (.fieldLink RX0 74 "EscrowDesk$Account" "rate" "I") (by decide +kernel)) (fun _ h9 => h9) rfl (by decide +kernel) rfl rfl (Nat.le_of_ble_eq_true rfl) dX0_copyFrom_156 (fun H locs hP hD hS => ?_)
  obtain ⟨hP, hD⟩ : PDq D A [(h0, .inr (4, [.ref p0, .ref h1, .ref h3, .ref h4, .ref h5, .ref h6, .int i6, .int i7, .int i8, .long i9, .long i10, .long i11, .int i12, .int i13, .int i14, .int i15, x16, x17, x18, x19])), (h3, .inl (cA 0, 10, .inl fn2)), (h4, .inl (cA 0, 10, .inl fn3)), (h5, .inl (cA 0, 10, .inl fn4)), (h6, .inl (cA 0, 10, .inl fn5)), (oX0 a0 p0 a1 a3 a4 a5 a6 i6 i7 i8 i9 i10 i11 i12 i13 i14 i15 i16 i17 i18 i19), (a3, .inl (cA 0, 10, .inl fs)), (a4, .inl (cA 0, 10, .inl fp)), (a5, .inl (cA 0, 10, .inl ff)), (a6, .inl (cA 0, 10, .inl fd)), (h1, .inr (6, [.ref h2, .int (nI nx), .int (nI kp)])), (h2, .inl (cA 0, 240, .inl fn1)), (a1, .inr (6, [.ref a2, .int (nI nx), .int (nI kp)])), (a2, .inl (cA 0, 240, .inl fr))] H := ⟨hP, hD⟩
  refine lv_aload_n hx hb dX0_copyFrom_159 rfl (lv_at hl 0 rfl) ?_
  refine lv_aload_n hx hb dX0_copyFrom_160 rfl (lv_at hl 1 rfl) ?_
  refine va_get (D := D) (ci := 4) (v := .int i16) (C := RX0) (T := TX0) (N := 20) hx hb hts inX0 hown hK hP 5 rfl rfl 16 (by decide) (hts (.fieldLink RX0 78 "EscrowDesk$Account" "basis" "I") (by decide +kernel)) (fun _ h9 => h9) rfl dX0_copyFrom_161 ?_
  refine va_put (D := D) (ci := 4) (v := .int i16) (ty := .int) (C := RX0) (T := TX0) (N := 20) hx hb hts inX0 tyX0 tyX0_ok nmX0 hown hK hP hD hS 0 rfl rfl 16 (by decide) (hts (.fieldLink RX0 78 "EscrowDesk$Account" "basis" "I") (by decide +kernel)) (fun _ h9 => h9) rfl (by decide +kernel) rfl rfl (Nat.le_of_ble_eq_true rfl) dX0_copyFrom_164 (fun H locs hP hD hS => ?_)
  obtain ⟨hP, hD⟩ : PDq D A [(h0, .inr (4, [.ref p0, .ref h1, .ref h3, .ref h4, .ref h5, .ref h6, .int i6, .int i7, .int i8, .long i9, .long i10, .long i11, .int i12, .int i13, .int i14, .int i15, .int i16, x17, x18, x19])), (h3, .inl (cA 0, 10, .inl fn2)), (h4, .inl (cA 0, 10, .inl fn3)), (h5, .inl (cA 0, 10, .inl fn4)), (h6, .inl (cA 0, 10, .inl fn5)), (oX0 a0 p0 a1 a3 a4 a5 a6 i6 i7 i8 i9 i10 i11 i12 i13 i14 i15 i16 i17 i18 i19), (a3, .inl (cA 0, 10, .inl fs)), (a4, .inl (cA 0, 10, .inl fp)), (a5, .inl (cA 0, 10, .inl ff)), (a6, .inl (cA 0, 10, .inl fd)), (h1, .inr (6, [.ref h2, .int (nI nx), .int (nI kp)])), (h2, .inl (cA 0, 240, .inl fn1)), (a1, .inr (6, [.ref a2, .int (nI nx), .int (nI kp)])), (a2, .inl (cA 0, 240, .inl fr))] H := ⟨hP, hD⟩
  refine lv_aload_n hx hb dX0_copyFrom_167 rfl (lv_at hl 0 rfl) ?_
  refine lv_aload_n hx hb dX0_copyFrom_168 rfl (lv_at hl 1 rfl) ?_
  refine va_get (D := D) (ci := 4) (v := .int i17) (C := RX0) (T := TX0) (N := 20) hx hb hts inX0 hown hK hP 5 rfl rfl 17 (by decide) (hts (.fieldLink RX0 82 "EscrowDesk$Account" "grace" "I") (by decide +kernel)) (fun _ h9 => h9) rfl dX0_copyFrom_169 ?_
  refine va_put (D := D) (ci := 4) (v := .int i17) (ty := .int) (C := RX0) (T := TX0) (N := 20) hx hb hts inX0 tyX0 tyX0_ok nmX0 hown hK hP hD hS 0 rfl rfl 17 (by decide) (hts (.fieldLink RX0 82 "EscrowDesk$Account" "grace" "I") (by decide +kernel)) (fun _ h9 => h9) rfl (by decide +kernel) rfl rfl (Nat.le_of_ble_eq_true rfl) dX0_copyFrom_172 (fun H locs hP hD hS => ?_)
  obtain ⟨hP, hD⟩ : PDq D A [(h0, .inr (4, [.ref p0, .ref h1, .ref h3, .ref h4, .ref h5, .ref h6, .int i6, .int i7, .int i8, .long i9, .long i10, .long i11, .int i12, .int i13, .int i14, .int i15, .int i16, .int i17, x18, x19])), (h3, .inl (cA 0, 10, .inl fn2)), (h4, .inl (cA 0, 10, .inl fn3)), (h5, .inl (cA 0, 10, .inl fn4)), (h6, .inl (cA 0, 10, .inl fn5)), (oX0 a0 p0 a1 a3 a4 a5 a6 i6 i7 i8 i9 i10 i11 i12 i13 i14 i15 i16 i17 i18 i19), (a3, .inl (cA 0, 10, .inl fs)), (a4, .inl (cA 0, 10, .inl fp)), (a5, .inl (cA 0, 10, .inl ff)), (a6, .inl (cA 0, 10, .inl fd)), (h1, .inr (6, [.ref h2, .int (nI nx), .int (nI kp)])), (h2, .inl (cA 0, 240, .inl fn1)), (a1, .inr (6, [.ref a2, .int (nI nx), .int (nI kp)])), (a2, .inl (cA 0, 240, .inl fr))] H := ⟨hP, hD⟩
  refine lv_aload_n hx hb dX0_copyFrom_175 rfl (lv_at hl 0 rfl) ?_
  refine lv_aload_n hx hb dX0_copyFrom_176 rfl (lv_at hl 1 rfl) ?_
  refine va_get (D := D) (ci := 4) (v := .int i18) (C := RX0) (T := TX0) (N := 20) hx hb hts inX0 hown hK hP 5 rfl rfl 18 (by decide) (hts (.fieldLink RX0 83 "EscrowDesk$Account" "submittedSet" "I") (by decide +kernel)) (fun _ h9 => h9) rfl dX0_copyFrom_177 ?_
  refine va_put (D := D) (ci := 4) (v := .int i18) (ty := .int) (C := RX0) (T := TX0) (N := 20) hx hb hts inX0 tyX0 tyX0_ok nmX0 hown hK hP hD hS 0 rfl rfl 18 (by decide) (hts (.fieldLink RX0 83 "EscrowDesk$Account" "submittedSet" "I") (by decide +kernel)) (fun _ h9 => h9) rfl (by decide +kernel) rfl rfl (Nat.le_of_ble_eq_true rfl) dX0_copyFrom_180 (fun H locs hP hD hS => ?_)
  obtain ⟨hP, hD⟩ : PDq D A [(h0, .inr (4, [.ref p0, .ref h1, .ref h3, .ref h4, .ref h5, .ref h6, .int i6, .int i7, .int i8, .long i9, .long i10, .long i11, .int i12, .int i13, .int i14, .int i15, .int i16, .int i17, .int i18, x19])), (h3, .inl (cA 0, 10, .inl fn2)), (h4, .inl (cA 0, 10, .inl fn3)), (h5, .inl (cA 0, 10, .inl fn4)), (h6, .inl (cA 0, 10, .inl fn5)), (oX0 a0 p0 a1 a3 a4 a5 a6 i6 i7 i8 i9 i10 i11 i12 i13 i14 i15 i16 i17 i18 i19), (a3, .inl (cA 0, 10, .inl fs)), (a4, .inl (cA 0, 10, .inl fp)), (a5, .inl (cA 0, 10, .inl ff)), (a6, .inl (cA 0, 10, .inl fd)), (h1, .inr (6, [.ref h2, .int (nI nx), .int (nI kp)])), (h2, .inl (cA 0, 240, .inl fn1)), (a1, .inr (6, [.ref a2, .int (nI nx), .int (nI kp)])), (a2, .inl (cA 0, 240, .inl fr))] H := ⟨hP, hD⟩
  refine lv_aload_n hx hb dX0_copyFrom_183 rfl (lv_at hl 0 rfl) ?_
  refine lv_aload_n hx hb dX0_copyFrom_184 rfl (lv_at hl 1 rfl) ?_
  refine va_get (D := D) (ci := 4) (v := .int i19) (C := RX0) (T := TX0) (N := 20) hx hb hts inX0 hown hK hP 5 rfl rfl 19 (by decide) (hts (.fieldLink RX0 86 "EscrowDesk$Account" "approvedSet" "I") (by decide +kernel)) (fun _ h9 => h9) rfl dX0_copyFrom_185 ?_
  refine va_put (D := D) (ci := 4) (v := .int i19) (ty := .int) (C := RX0) (T := TX0) (N := 20) hx hb hts inX0 tyX0 tyX0_ok nmX0 hown hK hP hD hS 0 rfl rfl 19 (by decide) (hts (.fieldLink RX0 86 "EscrowDesk$Account" "approvedSet" "I") (by decide +kernel)) (fun _ h9 => h9) rfl (by decide +kernel) rfl rfl (Nat.le_of_ble_eq_true rfl) dX0_copyFrom_188 (fun H locs hP hD hS => ?_)
  obtain ⟨hP, hD⟩ : PDq D A [(oX0 h0 p0 h1 h3 h4 h5 h6 i6 i7 i8 i9 i10 i11 i12 i13 i14 i15 i16 i17 i18 i19), (h3, .inl (cA 0, 10, .inl fn2)), (h4, .inl (cA 0, 10, .inl fn3)), (h5, .inl (cA 0, 10, .inl fn4)), (h6, .inl (cA 0, 10, .inl fn5)), (oX0 a0 p0 a1 a3 a4 a5 a6 i6 i7 i8 i9 i10 i11 i12 i13 i14 i15 i16 i17 i18 i19), (a3, .inl (cA 0, 10, .inl fs)), (a4, .inl (cA 0, 10, .inl fp)), (a5, .inl (cA 0, 10, .inl ff)), (a6, .inl (cA 0, 10, .inl fd)), (h1, .inr (6, [.ref h2, .int (nI nx), .int (nI kp)])), (h2, .inl (cA 0, 240, .inl fn1)), (a1, .inr (6, [.ref a2, .int (nI nx), .int (nI kp)])), (a2, .inl (cA 0, 240, .inl fr))] H := ⟨hP, hD⟩
  obtain ⟨hP9, hD9⟩ := PDq.sub (ws' := [(oX0 h0 p0 h1 h3 h4 h5 h6 i6 i7 i8 i9 i10 i11 i12 i13 i14 i15 i16 i17 i18 i19), (h1, .inr (6, [.ref h2, .int (nI nx), .int (nI kp)])), (h2, .inl (cA 0, 240, .inl fn1)), (h3, .inl (cA 0, 10, .inl fn2)), (h4, .inl (cA 0, 10, .inl fn3)), (h5, .inl (cA 0, 10, .inl fn4)), (h6, .inl (cA 0, 10, .inl fn5)), (oX0 a0 p0 a1 a3 a4 a5 a6 i6 i7 i8 i9 i10 i11 i12 i13 i14 i15 i16 i17 i18 i19), (a1, .inr (6, [.ref a2, .int (nI nx), .int (nI kp)])), (a2, .inl (cA 0, 240, .inl fr)), (a3, .inl (cA 0, 10, .inl fs)), (a4, .inl (cA 0, 10, .inl fp)), (a5, .inl (cA 0, 10, .inl ff)), (a6, .inl (cA 0, 10, .inl fd))]) hP hD [0, 10, 11, 1, 2, 3, 4, 5, 12, 13, 6, 7, 8, 9] (by decide +kernel) rfl
  refine W.widen (k := 0) (n := 0) (Nat.le_of_ble_eq_true rfl) (Nat.le_of_ble_eq_true rfl) ?_
  exact (W.vret hx hb hr (fun t ht hW => ⟨⟨(), rfl, trivial, fn2, fn3, fn4, fn5, fn1, by rw [ht]; exact hP9, hD9⟩, hS.F ht⟩) hS.2.2 dX0_copyFrom_191)

set_option maxHeartbeats 4000000 in
set_option maxRecDepth 100000 in
/-- forgetAll -/
theorem s_forgetAll (l : Launch) (D : va_G) (cA : Nat → ClassId) (sa : Nat → Nat) (s0 : Nat) (s1 : Nat) (wn : Nat) (wc : Nat) (sz : Nat) : Met l yX1_forgetAll wsX1_forgetAll ({ frames := 0, cells := 0, slots := 0, locals := 0 }) (va_Pc [.ref s0] (Wd D cA sa [(s0, .inr (5, [.ref s1, .int (nI wn), .int (nI wc)]))] sz)) (va_Qv (fun _ : Unit => True) (fun (_ : Unit) t => Wq D (va_A [(s0, .inr (5, [.ref s1, .int (nI wn), .int (nI wc)]))] sz) [(s0, .inr (5, [.ref s1, .int (nI wn), .int 0]))] t) (va_A [(s0, .inr (5, [.ref s1, .int (nI wn), .int (nI wc)]))] sz)) 0 0 (va_A [(s0, .inr (5, [.ref s1, .int (nI wn), .int (nI wc)]))] sz) := by
  refine Met.ofW (cc := cX1_forgetAll) (maxL := 1) (ret := none) (by decide) rfl ?_
  intro p e s m args below meth c s₁ B hml hv
  obtain ⟨rfl, hsz, hP, hK, hD0, hC, hZ⟩ := hv
  have hx := B.exec
  have hb := B.bytes
  have hr := B.returns
  have hts := atoms_spec (ws := wsX1_forgetAll) B.pre
  have hown : s.vm.findClass RX1 = some m.cls := findClass_of_methodNamed B.named
  have hlocks := B.notSynchronized
  subst hsz
  have hD := hD0.self (sz := s.heap.size)
  generalize hAe : va_A [(s0, .inr (5, [.ref s1, .int (nI wn), .int (nI wc)]))] s.heap.size = A at hD hZ ⊢
  have hA : ∀ q : Nat, s.heap.size ≤ q → A q := fun q h => by rw [← hAe]; exact Or.inr h
  have hS : va_S A s.heap s.heap [] := va_S.rf
  have hP : va_P D vwCl [(s0, .inr (5, [.ref s1, .int (nI wn), .int (nI wc)]))] s.heap := hP
  have hl := lv_entry ([.ref s0]) (n := 1) (Nat.le_of_ble_eq_true rfl)
  rw [lg_entry_eq]
  generalize (lg_sl ([.ref s0]) ++ List.replicate (1 - (lg_sl ([.ref s0])).length) Slot.unset).toArray = ls at hl ⊢
  have hl : lv_has ls 1 [(0, .ref s0)] := hl
  have inX1 : ∀ w ∈ u_ws RX1 TX1 3, w ∈ wsX1_forgetAll := by decide +kernel
  refine lv_aload_n hx hb dX1_forgetAll_0 rfl (lv_at hl 0 rfl) ?_
  refine lv_iconst (v := 0) hx hb dX1_forgetAll_1 (by decide) ?_
  refine va_put (D := D) (ci := 5) (v := .int 0) (ty := .int) (C := RX1) (T := TX1) (N := 3) hx hb hts inX1 tyX1 tyX1_ok nmX1 hown hK hP hD hS 0 rfl rfl 2 (by decide) (hts (.fieldLink RX1 28 "EscrowDesk$History" "count" "I") (by decide +kernel)) (fun _ h9 => h9) rfl (by decide +kernel) rfl rfl (Nat.le_of_ble_eq_true rfl) dX1_forgetAll_2 (fun H locs hP hD hS => ?_)
  obtain ⟨hP, hD⟩ : PDq D A [(s0, .inr (5, [.ref s1, .int (nI wn), .int 0]))] H := ⟨hP, hD⟩
  obtain ⟨hP9, hD9⟩ := PDq.sub (ws' := [(s0, .inr (5, [.ref s1, .int (nI wn), .int 0]))]) hP hD [0] (by decide) rfl
  refine W.widen (k := 0) (n := 0) (Nat.le_of_ble_eq_true rfl) (Nat.le_of_ble_eq_true rfl) ?_
  exact (W.vret hx hb hr (fun t ht hW => ⟨⟨(), rfl, trivial, by rw [ht]; exact hP9, hD9⟩, hS.F ht⟩) hS.2.2 dX1_forgetAll_5)

set_option maxHeartbeats 4000000 in
set_option maxRecDepth 100000 in
/-- needIndex -/
theorem s_needIndex (l : Launch) (D : va_G) (cA : Nat → ClassId) (sa : Nat → Nat) (i : Int32) (n : Nat) (sz : Nat) (hl9 : l.stackTraces = false) (hn31 : n < 2147483648) : vx_Met l yX9_needIndex wsX9_needIndex ({ frames := 6, cells := 1, slots := 6, locals := 90 }) (va_Pc [.int i, .int (nI n)] (Wd D cA sa [] sz)) (va_Qv (fun _ : Unit => True) (fun (_ : Unit) t => ∃ k : Nat, k < n ∧ i = nI k ∧ Wq D (va_A [] sz) [] t) (va_A [] sz)) (vx_X (fun _ : Unit => True) (fun E _ t => (E = "java/lang/IndexOutOfBoundsException") ∧ Wq D (va_A [] sz) [] t) (va_A [] sz)) 1 6 (va_A [] sz) := by
  refine vx_ofW (cc := cX9_needIndex) (maxL := 2) (ret := none) (by decide) rfl ?_
  intro p e s m args below meth c s₁ B hml hno hv
  obtain ⟨rfl, hsz, hP, hK, hD0, hC, hZ⟩ := hv
  have hx := B.exec
  have hb := B.bytes
  have hr := B.returns
  have hts := atoms_spec (ws := wsX9_needIndex) B.pre
  have hown : s.vm.findClass RX9 = some m.cls := findClass_of_methodNamed B.named
  have hlocks := B.notSynchronized
  subst hsz
  have hD := hD0.self (sz := s.heap.size)
  generalize hAe : va_A [] s.heap.size = A at hD hZ ⊢
  have hA : ∀ q : Nat, s.heap.size ≤ q → A q := fun q h => by rw [← hAe]; exact Or.inr h
  have hS : va_S A s.heap s.heap [] := va_S.rf
  have hP : va_P D vwCl [] s.heap := hP
  have hl := lv_entry ([.int i, .int (nI n)]) (n := 2) (Nat.le_of_ble_eq_true rfl)
  rw [lg_entry_eq]
  generalize (lg_sl ([.int i, .int (nI n)]) ++ List.replicate (2 - (lg_sl ([.int i, .int (nI n)])).length) Slot.unset).toArray = ls at hl ⊢
  have hl : lv_has ls 2 [(0, .int i), (1, .int (nI n))] := hl
  refine lv_iload_n hx hb dX9_needIndex_0 rfl (lv_at hl 0 rfl) ?_
  refine lv_if_lt (tgt := 9) hx hb dX9_needIndex_1 (by decide) (fun c1 => ?_) (fun c1 => ?_)
  · skip
    obtain ⟨hP9, hD9⟩ := PDq.sub (ws' := []) hP hD [] (by decide) rfl
    exact vx_throwSW (text := "there is no such thing") (names := ["java/lang/RuntimeException", "java/lang/Exception"]) (A := A) hx hb hl9 hown (by decide +kernel) (by decide +kernel) (hts (.classLink RX9 210 "java/lang/IndexOutOfBoundsException") (by decide +kernel)) (hts (.initialized "java/lang/IndexOutOfBoundsException") (by decide +kernel)) (hC.str 17 rfl) (vx_hat (B := [.castable "java/lang/IndexOutOfBoundsException" "java/lang/IndexOutOfBoundsException", .declares (Bundle.initS "java/lang/RuntimeException"), .declares (Bundle.initS "java/lang/Exception"), .declares (Bundle.initS "java/lang/Throwable")]) (fun w h => hts w (by first | exact (List.mem_cons_of_mem _ (List.mem_append_right _ h)) | (revert w; decide +kernel))) (by decide +kernel) (vx_c (hC.c (by decide +kernel)) (vx_c (hC.d (by decide +kernel)) (vx_c (hC.d (by decide +kernel)) (vx_c (hC.d (by decide +kernel)) vx_n))))) (by decide +kernel) hZ.1 hZ.2.1 hS (by rw [hml]; exact hl.1) dX9_needIndex_9 dX9_needIndex_12 dX9_needIndex_13 dX9_needIndex_16 dX9_needIndex_19 (fun x h => (hno x h).elim) (Nat.le_of_ble_eq_true rfl) (Nat.le_of_ble_eq_true rfl) (Nat.le_of_ble_eq_true rfl) (Nat.le_of_ble_eq_true rfl) hlocks (fun t _ h1 h2 => ⟨(), trivial, ⟨rfl, hP9.kept (fun k q hq => h2 q.1 (hP9 k q hq).lt), hD9⟩, F_of hS h1 h2⟩) hS.2.2 (Nat.le_of_ble_eq_true rfl) (Nat.le_of_ble_eq_true rfl)
  · skip
    refine lv_iload_n hx hb dX9_needIndex_4 rfl (lv_at hl 0 rfl) ?_
    refine lv_iload_n hx hb dX9_needIndex_5 rfl (lv_at hl 1 rfl) ?_
    refine lv_icmp_lt (tgt := 20) hx hb dX9_needIndex_6 (by decide) (fun c2 => ?_) (fun c2 => ?_)
    · skip
      obtain ⟨hP9, hD9⟩ := PDq.sub (ws' := []) hP hD [] (by decide) rfl
      refine W.widen (k := 1) (n := 6) (Nat.le_of_ble_eq_true rfl) (Nat.le_of_ble_eq_true rfl) ?_
      exact vx_ret (W.vret hx hb hr (fun t ht hW => ⟨⟨(), rfl, trivial, i.toNatClampNeg, (ix_lt c1 c2 hn31), (ix_eq c1), by rw [ht]; exact hP9, hD9⟩, hS.F ht⟩) hS.2.2 dX9_needIndex_20)
    · skip
      obtain ⟨hP9, hD9⟩ := PDq.sub (ws' := []) hP hD [] (by decide) rfl
      exact vx_throwSW (text := "there is no such thing") (names := ["java/lang/RuntimeException", "java/lang/Exception"]) (A := A) hx hb hl9 hown (by decide +kernel) (by decide +kernel) (hts (.classLink RX9 210 "java/lang/IndexOutOfBoundsException") (by decide +kernel)) (hts (.initialized "java/lang/IndexOutOfBoundsException") (by decide +kernel)) (hC.str 17 rfl) (vx_hat (B := [.castable "java/lang/IndexOutOfBoundsException" "java/lang/IndexOutOfBoundsException", .declares (Bundle.initS "java/lang/RuntimeException"), .declares (Bundle.initS "java/lang/Exception"), .declares (Bundle.initS "java/lang/Throwable")]) (fun w h => hts w (by first | exact (List.mem_cons_of_mem _ (List.mem_append_right _ h)) | (revert w; decide +kernel))) (by decide +kernel) (vx_c (hC.c (by decide +kernel)) (vx_c (hC.d (by decide +kernel)) (vx_c (hC.d (by decide +kernel)) (vx_c (hC.d (by decide +kernel)) vx_n))))) (by decide +kernel) hZ.1 hZ.2.1 hS (by rw [hml]; exact hl.1) dX9_needIndex_9 dX9_needIndex_12 dX9_needIndex_13 dX9_needIndex_16 dX9_needIndex_19 (fun x h => (hno x h).elim) (Nat.le_of_ble_eq_true rfl) (Nat.le_of_ble_eq_true rfl) (Nat.le_of_ble_eq_true rfl) (Nat.le_of_ble_eq_true rfl) hlocks (fun t _ h1 h2 => ⟨(), trivial, ⟨rfl, hP9.kept (fun k q hq => h2 q.1 (hP9 k q hq).lt), hD9⟩, F_of hS h1 h2⟩) hS.2.2 (Nat.le_of_ble_eq_true rfl) (Nat.le_of_ble_eq_true rfl)

set_option maxHeartbeats 4000000 in
set_option maxRecDepth 100000 in
/-- needRange, of any numbers -/
theorem s_needRange (l : Launch) (D : va_G) (cA : Nat → ClassId) (sa : Nat → Nat) (v : Int32) (lo : Int32) (hi : Int32) (sz : Nat) (hl9 : l.stackTraces = false) : vx_Met l yX9_needRange wsX9_needRange ({ frames := 6, cells := 1, slots := 6, locals := 90 }) (va_Pc [.int v, .int lo, .int hi] (Wd D cA sa [] sz)) (va_Qv (fun _ : Unit => True) (fun (_ : Unit) t => Wq D (va_A [] sz) [] t) (va_A [] sz)) (vx_X (fun _ : Unit => True) (fun E _ t => (E = "java/lang/IllegalArgumentException") ∧ Wq D (va_A [] sz) [] t) (va_A [] sz)) 1 6 (va_A [] sz) := by
  refine vx_ofW (cc := cX9_needRange) (maxL := 3) (ret := none) (by decide) rfl ?_
  intro p e s m args below meth c s₁ B hml hno hv
  obtain ⟨rfl, hsz, hP, hK, hD0, hC, hZ⟩ := hv
  have hx := B.exec
  have hb := B.bytes
  have hr := B.returns
  have hts := atoms_spec (ws := wsX9_needRange) B.pre
  have hown : s.vm.findClass RX9 = some m.cls := findClass_of_methodNamed B.named
  have hlocks := B.notSynchronized
  subst hsz
  have hD := hD0.self (sz := s.heap.size)
  generalize hAe : va_A [] s.heap.size = A at hD hZ ⊢
  have hA : ∀ q : Nat, s.heap.size ≤ q → A q := fun q h => by rw [← hAe]; exact Or.inr h
  have hS : va_S A s.heap s.heap [] := va_S.rf
  have hP : va_P D vwCl [] s.heap := hP
  have hl := lv_entry ([.int v, .int lo, .int hi]) (n := 3) (Nat.le_of_ble_eq_true rfl)
  rw [lg_entry_eq]
  generalize (lg_sl ([.int v, .int lo, .int hi]) ++ List.replicate (3 - (lg_sl ([.int v, .int lo, .int hi])).length) Slot.unset).toArray = ls at hl ⊢
  have hl : lv_has ls 3 [(0, .int v), (1, .int lo), (2, .int hi)] := hl
  refine lv_iload_n hx hb dX9_needRange_0 rfl (lv_at hl 0 rfl) ?_
  refine lv_iload_n hx hb dX9_needRange_1 rfl (lv_at hl 1 rfl) ?_
  refine lv_icmp_lt (tgt := 10) hx hb dX9_needRange_2 (by decide) (fun c1 => ?_) (fun c1 => ?_)
  · skip
    obtain ⟨hP9, hD9⟩ := PDq.sub (ws' := []) hP hD [] (by decide) rfl
    exact vx_throwSW (text := "out of range") (names := ["java/lang/RuntimeException", "java/lang/Exception"]) (A := A) hx hb hl9 hown (by decide +kernel) (by decide +kernel) (hts (.classLink RX9 279 "java/lang/IllegalArgumentException") (by decide +kernel)) (hts (.initialized "java/lang/IllegalArgumentException") (by decide +kernel)) (hC.str 0 rfl) (vx_hat (B := [.castable "java/lang/IllegalArgumentException" "java/lang/IllegalArgumentException", .declares (Bundle.initS "java/lang/RuntimeException"), .declares (Bundle.initS "java/lang/Exception"), .declares (Bundle.initS "java/lang/Throwable")]) (fun w h => hts w (by first | exact (List.mem_cons_of_mem _ (List.mem_append_right _ h)) | (revert w; decide +kernel))) (by decide +kernel) (vx_c (hC.c (by decide +kernel)) (vx_c (hC.d (by decide +kernel)) (vx_c (hC.d (by decide +kernel)) (vx_c (hC.d (by decide +kernel)) vx_n))))) (by decide +kernel) hZ.1 hZ.2.1 hS (by rw [hml]; exact hl.1) dX9_needRange_10 dX9_needRange_13 dX9_needRange_14 dX9_needRange_17 dX9_needRange_20 (fun x h => (hno x h).elim) (Nat.le_of_ble_eq_true rfl) (Nat.le_of_ble_eq_true rfl) (Nat.le_of_ble_eq_true rfl) (Nat.le_of_ble_eq_true rfl) hlocks (fun t _ h1 h2 => ⟨(), trivial, ⟨rfl, hP9.kept (fun k q hq => h2 q.1 (hP9 k q hq).lt), hD9⟩, F_of hS h1 h2⟩) hS.2.2 (Nat.le_of_ble_eq_true rfl) (Nat.le_of_ble_eq_true rfl)
  · skip
    refine lv_iload_n hx hb dX9_needRange_5 rfl (lv_at hl 0 rfl) ?_
    refine lv_iload_n hx hb dX9_needRange_6 rfl (lv_at hl 2 rfl) ?_
    refine lv_icmp_le (tgt := 21) hx hb dX9_needRange_7 (by decide) (fun c2 => ?_) (fun c2 => ?_)
    · skip
      obtain ⟨hP9, hD9⟩ := PDq.sub (ws' := []) hP hD [] (by decide) rfl
      refine W.widen (k := 1) (n := 6) (Nat.le_of_ble_eq_true rfl) (Nat.le_of_ble_eq_true rfl) ?_
      exact vx_ret (W.vret hx hb hr (fun t ht hW => ⟨⟨(), rfl, trivial, by rw [ht]; exact hP9, hD9⟩, hS.F ht⟩) hS.2.2 dX9_needRange_21)
    · skip
      obtain ⟨hP9, hD9⟩ := PDq.sub (ws' := []) hP hD [] (by decide) rfl
      exact vx_throwSW (text := "out of range") (names := ["java/lang/RuntimeException", "java/lang/Exception"]) (A := A) hx hb hl9 hown (by decide +kernel) (by decide +kernel) (hts (.classLink RX9 279 "java/lang/IllegalArgumentException") (by decide +kernel)) (hts (.initialized "java/lang/IllegalArgumentException") (by decide +kernel)) (hC.str 0 rfl) (vx_hat (B := [.castable "java/lang/IllegalArgumentException" "java/lang/IllegalArgumentException", .declares (Bundle.initS "java/lang/RuntimeException"), .declares (Bundle.initS "java/lang/Exception"), .declares (Bundle.initS "java/lang/Throwable")]) (fun w h => hts w (by first | exact (List.mem_cons_of_mem _ (List.mem_append_right _ h)) | (revert w; decide +kernel))) (by decide +kernel) (vx_c (hC.c (by decide +kernel)) (vx_c (hC.d (by decide +kernel)) (vx_c (hC.d (by decide +kernel)) (vx_c (hC.d (by decide +kernel)) vx_n))))) (by decide +kernel) hZ.1 hZ.2.1 hS (by rw [hml]; exact hl.1) dX9_needRange_10 dX9_needRange_13 dX9_needRange_14 dX9_needRange_17 dX9_needRange_20 (fun x h => (hno x h).elim) (Nat.le_of_ble_eq_true rfl) (Nat.le_of_ble_eq_true rfl) (Nat.le_of_ble_eq_true rfl) (Nat.le_of_ble_eq_true rfl) hlocks (fun t _ h1 h2 => ⟨(), trivial, ⟨rfl, hP9.kept (fun k q hq => h2 q.1 (hP9 k q hq).lt), hD9⟩, F_of hS h1 h2⟩) hS.2.2 (Nat.le_of_ble_eq_true rfl) (Nat.le_of_ble_eq_true rfl)

set_option maxHeartbeats 4000000 in
set_option maxRecDepth 100000 in
/-- needRange, of natural bounds -/
theorem s_needRangeN (l : Launch) (D : va_G) (cA : Nat → ClassId) (sa : Nat → Nat) (v : Int32) (lo : Nat) (hi : Nat) (sz : Nat) (hl9 : l.stackTraces = false) (hhi : hi < 2147483648) (hlo : lo ≤ hi) : vx_Met l yX9_needRange wsX9_needRange ({ frames := 6, cells := 1, slots := 6, locals := 90 }) (va_Pc [.int v, .int (nI lo), .int (nI hi)] (Wd D cA sa [] sz)) (va_Qv (fun _ : Unit => True) (fun (_ : Unit) t => ∃ k : Nat, lo ≤ k ∧ k ≤ hi ∧ v = nI k ∧ Wq D (va_A [] sz) [] t) (va_A [] sz)) (vx_X (fun _ : Unit => True) (fun E _ t => (E = "java/lang/IllegalArgumentException") ∧ Wq D (va_A [] sz) [] t) (va_A [] sz)) 1 6 (va_A [] sz) := by
  refine vx_ofW (cc := cX9_needRange) (maxL := 3) (ret := none) (by decide) rfl ?_
  intro p e s m args below meth c s₁ B hml hno hv
  obtain ⟨rfl, hsz, hP, hK, hD0, hC, hZ⟩ := hv
  have hx := B.exec
  have hb := B.bytes
  have hr := B.returns
  have hts := atoms_spec (ws := wsX9_needRange) B.pre
  have hown : s.vm.findClass RX9 = some m.cls := findClass_of_methodNamed B.named
  have hlocks := B.notSynchronized
  subst hsz
  have hD := hD0.self (sz := s.heap.size)
  generalize hAe : va_A [] s.heap.size = A at hD hZ ⊢
  have hA : ∀ q : Nat, s.heap.size ≤ q → A q := fun q h => by rw [← hAe]; exact Or.inr h
  have hS : va_S A s.heap s.heap [] := va_S.rf
  have hP : va_P D vwCl [] s.heap := hP
  have hl := lv_entry ([.int v, .int (nI lo), .int (nI hi)]) (n := 3) (Nat.le_of_ble_eq_true rfl)
  rw [lg_entry_eq]
  generalize (lg_sl ([.int v, .int (nI lo), .int (nI hi)]) ++ List.replicate (3 - (lg_sl ([.int v, .int (nI lo), .int (nI hi)])).length) Slot.unset).toArray = ls at hl ⊢
  have hl : lv_has ls 3 [(0, .int v), (1, .int (nI lo)), (2, .int (nI hi))] := hl
  refine lv_iload_n hx hb dX9_needRange_0 rfl (lv_at hl 0 rfl) ?_
  refine lv_iload_n hx hb dX9_needRange_1 rfl (lv_at hl 1 rfl) ?_
  refine lv_icmp_lt (tgt := 10) hx hb dX9_needRange_2 (by decide) (fun c1 => ?_) (fun c1 => ?_)
  · skip
    obtain ⟨hP9, hD9⟩ := PDq.sub (ws' := []) hP hD [] (by decide) rfl
    exact vx_throwSW (text := "out of range") (names := ["java/lang/RuntimeException", "java/lang/Exception"]) (A := A) hx hb hl9 hown (by decide +kernel) (by decide +kernel) (hts (.classLink RX9 279 "java/lang/IllegalArgumentException") (by decide +kernel)) (hts (.initialized "java/lang/IllegalArgumentException") (by decide +kernel)) (hC.str 0 rfl) (vx_hat (B := [.castable "java/lang/IllegalArgumentException" "java/lang/IllegalArgumentException", .declares (Bundle.initS "java/lang/RuntimeException"), .declares (Bundle.initS "java/lang/Exception"), .declares (Bundle.initS "java/lang/Throwable")]) (fun w h => hts w (by first | exact (List.mem_cons_of_mem _ (List.mem_append_right _ h)) | (revert w; decide +kernel))) (by decide +kernel) (vx_c (hC.c (by decide +kernel)) (vx_c (hC.d (by decide +kernel)) (vx_c (hC.d (by decide +kernel)) (vx_c (hC.d (by decide +kernel)) vx_n))))) (by decide +kernel) hZ.1 hZ.2.1 hS (by rw [hml]; exact hl.1) dX9_needRange_10 dX9_needRange_13 dX9_needRange_14 dX9_needRange_17 dX9_needRange_20 (fun x h => (hno x h).elim) (Nat.le_of_ble_eq_true rfl) (Nat.le_of_ble_eq_true rfl) (Nat.le_of_ble_eq_true rfl) (Nat.le_of_ble_eq_true rfl) hlocks (fun t _ h1 h2 => ⟨(), trivial, ⟨rfl, hP9.kept (fun k q hq => h2 q.1 (hP9 k q hq).lt), hD9⟩, F_of hS h1 h2⟩) hS.2.2 (Nat.le_of_ble_eq_true rfl) (Nat.le_of_ble_eq_true rfl)
  · skip
    refine lv_iload_n hx hb dX9_needRange_5 rfl (lv_at hl 0 rfl) ?_
    refine lv_iload_n hx hb dX9_needRange_6 rfl (lv_at hl 2 rfl) ?_
    refine lv_icmp_le (tgt := 21) hx hb dX9_needRange_7 (by decide) (fun c2 => ?_) (fun c2 => ?_)
    · skip
      obtain ⟨hP9, hD9⟩ := PDq.sub (ws' := []) hP hD [] (by decide) rfl
      refine W.widen (k := 1) (n := 6) (Nat.le_of_ble_eq_true rfl) (Nat.le_of_ble_eq_true rfl) ?_
      exact vx_ret (W.vret hx hb hr (fun t ht hW => ⟨⟨(), rfl, trivial, v.toNatClampNeg, (rg_lo c1 hlo hhi), (rg_hi c1 c2 hlo hhi), (rg_eq c1 hlo hhi), by rw [ht]; exact hP9, hD9⟩, hS.F ht⟩) hS.2.2 dX9_needRange_21)
    · skip
      obtain ⟨hP9, hD9⟩ := PDq.sub (ws' := []) hP hD [] (by decide) rfl
      exact vx_throwSW (text := "out of range") (names := ["java/lang/RuntimeException", "java/lang/Exception"]) (A := A) hx hb hl9 hown (by decide +kernel) (by decide +kernel) (hts (.classLink RX9 279 "java/lang/IllegalArgumentException") (by decide +kernel)) (hts (.initialized "java/lang/IllegalArgumentException") (by decide +kernel)) (hC.str 0 rfl) (vx_hat (B := [.castable "java/lang/IllegalArgumentException" "java/lang/IllegalArgumentException", .declares (Bundle.initS "java/lang/RuntimeException"), .declares (Bundle.initS "java/lang/Exception"), .declares (Bundle.initS "java/lang/Throwable")]) (fun w h => hts w (by first | exact (List.mem_cons_of_mem _ (List.mem_append_right _ h)) | (revert w; decide +kernel))) (by decide +kernel) (vx_c (hC.c (by decide +kernel)) (vx_c (hC.d (by decide +kernel)) (vx_c (hC.d (by decide +kernel)) (vx_c (hC.d (by decide +kernel)) vx_n))))) (by decide +kernel) hZ.1 hZ.2.1 hS (by rw [hml]; exact hl.1) dX9_needRange_10 dX9_needRange_13 dX9_needRange_14 dX9_needRange_17 dX9_needRange_20 (fun x h => (hno x h).elim) (Nat.le_of_ble_eq_true rfl) (Nat.le_of_ble_eq_true rfl) (Nat.le_of_ble_eq_true rfl) (Nat.le_of_ble_eq_true rfl) hlocks (fun t _ h1 h2 => ⟨(), trivial, ⟨rfl, hP9.kept (fun k q hq => h2 q.1 (hP9 k q hq).lt), hD9⟩, F_of hS h1 h2⟩) hS.2.2 (Nat.le_of_ble_eq_true rfl) (Nat.le_of_ble_eq_true rfl)

set_option maxHeartbeats 4000000 in
set_option maxRecDepth 100000 in
/-- needPossible(true) -/
theorem s_needPossible1 (l : Launch) (D : va_G) (cA : Nat → ClassId) (sa : Nat → Nat)  (sz : Nat) : Met l yX9_needPossible wsX9_needPossible ({ frames := 0, cells := 0, slots := 0, locals := 0 }) (va_Pc [.int 1] (Wd D cA sa [] sz)) (va_Qv (fun _ : Unit => True) (fun (_ : Unit) t => Wq D (va_A [] sz) [] t) (va_A [] sz)) 0 0 (va_A [] sz) := by
  refine Met.ofW (cc := cX9_needPossible) (maxL := 1) (ret := none) (by decide) rfl ?_
  intro p e s m args below meth c s₁ B hml hv
  obtain ⟨rfl, hsz, hP, hK, hD0, hC, hZ⟩ := hv
  have hx := B.exec
  have hb := B.bytes
  have hr := B.returns
  have hts := atoms_spec (ws := wsX9_needPossible) B.pre
  have hown : s.vm.findClass RX9 = some m.cls := findClass_of_methodNamed B.named
  have hlocks := B.notSynchronized
  subst hsz
  have hD := hD0.self (sz := s.heap.size)
  generalize hAe : va_A [] s.heap.size = A at hD hZ ⊢
  have hA : ∀ q : Nat, s.heap.size ≤ q → A q := fun q h => by rw [← hAe]; exact Or.inr h
  have hS : va_S A s.heap s.heap [] := va_S.rf
  have hP : va_P D vwCl [] s.heap := hP
  have hl := lv_entry ([.int 1]) (n := 1) (Nat.le_of_ble_eq_true rfl)
  rw [lg_entry_eq]
  generalize (lg_sl ([.int 1]) ++ List.replicate (1 - (lg_sl ([.int 1])).length) Slot.unset).toArray = ls at hl ⊢
  have hl : lv_has ls 1 [(0, .int 1)] := hl
  refine lv_iload_n hx hb dX9_needPossible_0 rfl (lv_at hl 0 rfl) ?_
  refine lv_if_ne (tgt := 15) hx hb dX9_needPossible_1 (by decide) (fun c1 => ?_) (fun c9 => absurd c9 (by decide))
  obtain ⟨hP9, hD9⟩ := PDq.sub (ws' := []) hP hD [] (by decide) rfl
  refine W.widen (k := 0) (n := 0) (Nat.le_of_ble_eq_true rfl) (Nat.le_of_ble_eq_true rfl) ?_
  exact (W.vret hx hb hr (fun t ht hW => ⟨⟨(), rfl, trivial, by rw [ht]; exact hP9, hD9⟩, hS.F ht⟩) hS.2.2 dX9_needPossible_15)

set_option maxHeartbeats 4000000 in
set_option maxRecDepth 100000 in
/-- needPossible(false) -/
theorem s_needPossible0 (l : Launch) (D : va_G) (cA : Nat → ClassId) (sa : Nat → Nat)  (sz : Nat) (hl9 : l.stackTraces = false) : vx_Met l yX9_needPossible wsX9_needPossible ({ frames := 6, cells := 1, slots := 6, locals := 90 }) (va_Pc [.int 0] (Wd D cA sa [] sz)) (va_Qv (fun _ : Unit => False) (fun (_ : Unit) t => Wq D (va_A [] sz) [] t) (va_A [] sz)) (vx_X (fun _ : Unit => True) (fun E _ t => (E = "java/lang/IllegalStateException") ∧ Wq D (va_A [] sz) [] t) (va_A [] sz)) 1 6 (va_A [] sz) := by
  refine vx_ofW (cc := cX9_needPossible) (maxL := 1) (ret := none) (by decide) rfl ?_
  intro p e s m args below meth c s₁ B hml hno hv
  obtain ⟨rfl, hsz, hP, hK, hD0, hC, hZ⟩ := hv
  have hx := B.exec
  have hb := B.bytes
  have hr := B.returns
  have hts := atoms_spec (ws := wsX9_needPossible) B.pre
  have hown : s.vm.findClass RX9 = some m.cls := findClass_of_methodNamed B.named
  have hlocks := B.notSynchronized
  subst hsz
  have hD := hD0.self (sz := s.heap.size)
  generalize hAe : va_A [] s.heap.size = A at hD hZ ⊢
  have hA : ∀ q : Nat, s.heap.size ≤ q → A q := fun q h => by rw [← hAe]; exact Or.inr h
  have hS : va_S A s.heap s.heap [] := va_S.rf
  have hP : va_P D vwCl [] s.heap := hP
  have hl := lv_entry ([.int 0]) (n := 1) (Nat.le_of_ble_eq_true rfl)
  rw [lg_entry_eq]
  generalize (lg_sl ([.int 0]) ++ List.replicate (1 - (lg_sl ([.int 0])).length) Slot.unset).toArray = ls at hl ⊢
  have hl : lv_has ls 1 [(0, .int 0)] := hl
  refine lv_iload_n hx hb dX9_needPossible_0 rfl (lv_at hl 0 rfl) ?_
  refine lv_if_ne (tgt := 15) hx hb dX9_needPossible_1 (by decide) (fun c9 => absurd c9 (by decide)) (fun c1 => ?_)
  obtain ⟨hP9, hD9⟩ := PDq.sub (ws' := []) hP hD [] (by decide) rfl
  exact vx_throwSW (text := "not possible in the present state") (names := ["java/lang/RuntimeException", "java/lang/Exception"]) (A := A) hx hb hl9 hown (by decide +kernel) (by decide +kernel) (hts (.classLink RX9 369 "java/lang/IllegalStateException") (by decide +kernel)) (hts (.initialized "java/lang/IllegalStateException") (by decide +kernel)) (hC.str 19 rfl) (vx_hat (B := [.castable "java/lang/IllegalStateException" "java/lang/IllegalStateException", .declares (Bundle.initS "java/lang/RuntimeException"), .declares (Bundle.initS "java/lang/Exception"), .declares (Bundle.initS "java/lang/Throwable")]) (fun w h => hts w (by first | exact (List.mem_cons_of_mem _ (List.mem_append_right _ h)) | (revert w; decide +kernel))) (by decide +kernel) (vx_c (hC.c (by decide +kernel)) (vx_c (hC.d (by decide +kernel)) (vx_c (hC.d (by decide +kernel)) (vx_c (hC.d (by decide +kernel)) vx_n))))) (by decide +kernel) hZ.1 hZ.2.1 hS (by rw [hml]; exact hl.1) dX9_needPossible_4 dX9_needPossible_7 dX9_needPossible_8 dX9_needPossible_11 dX9_needPossible_14 (fun x h => (hno x h).elim) (Nat.le_of_ble_eq_true rfl) (Nat.le_of_ble_eq_true rfl) (Nat.le_of_ble_eq_true rfl) (Nat.le_of_ble_eq_true rfl) hlocks (fun t _ h1 h2 => ⟨(), trivial, ⟨rfl, hP9.kept (fun k q hq => h2 q.1 (hP9 k q hq).lt), hD9⟩, F_of hS h1 h2⟩) hS.2.2 (Nat.le_of_ble_eq_true rfl) (Nat.le_of_ble_eq_true rfl)

set_option maxHeartbeats 4000000 in
set_option maxRecDepth 100000 in
/-- needMilestone -/
theorem s_needMilestone (l : Launch) (D : va_G) (cA : Nat → ClassId) (sa : Nat → Nat) (h0 : Nat) (b0 : Nat) (nb : Nat) (p0 : Nat) (u0 : Nat) (r0 : Nat) (a0 : Nat) (t0 : Nat) (s0 : Nat) (o0 : Nat) (p1 : Nat) (p2 : Nat) (p3 : Nat) (p4 : Nat) (p5 : Nat) (p6 : Nat) (p7 : Nat) (p8 : Nat) (p9 : Nat) (cn : Nat) (pq : Nat) (nd : Nat) (sc : Nat) (pr : Int32) (pb : Int32) (pe : Int32) (pg : Int32) (i : Int32) (sz : Nat) (hl9 : l.stackTraces = false) (hcn : cn ≤ 10) (hpq : pq ≤ 8) (hnd : nd ≤ 6) (hsc : sc ≤ 350) : vx_Met l yX9_needMilestone wsX9_needMilestone ({ frames := 7, cells := 1, slots := 6, locals := 111 }) (va_Pc [.ref h0, .int i] (Wd D cA sa [(oX9 h0 b0 (nI nb) p0 u0 r0 a0 t0 s0 o0), (oX3 p0 pr pb pe pg p1 (nI nd) p2 p3 p4 p5 (nI cn) p6 (nI pq) p7 p8 p9 (nI sc))] sz)) (va_Qv (fun _ : Unit => True) (fun (_ : Unit) t => ∃ k : Nat, k < cn ∧ i = nI k ∧ Wq D (va_A [(oX9 h0 b0 (nI nb) p0 u0 r0 a0 t0 s0 o0), (oX3 p0 pr pb pe pg p1 (nI nd) p2 p3 p4 p5 (nI cn) p6 (nI pq) p7 p8 p9 (nI sc))] sz) [(oX9 h0 b0 (nI nb) p0 u0 r0 a0 t0 s0 o0), (oX3 p0 pr pb pe pg p1 (nI nd) p2 p3 p4 p5 (nI cn) p6 (nI pq) p7 p8 p9 (nI sc))] t) (va_A [(oX9 h0 b0 (nI nb) p0 u0 r0 a0 t0 s0 o0), (oX3 p0 pr pb pe pg p1 (nI nd) p2 p3 p4 p5 (nI cn) p6 (nI pq) p7 p8 p9 (nI sc))] sz)) (vx_X (fun _ : Unit => True) (fun E _ t => (E = "java/lang/IndexOutOfBoundsException") ∧ Wq D (va_A [(oX9 h0 b0 (nI nb) p0 u0 r0 a0 t0 s0 o0), (oX3 p0 pr pb pe pg p1 (nI nd) p2 p3 p4 p5 (nI cn) p6 (nI pq) p7 p8 p9 (nI sc))] sz) [(oX9 h0 b0 (nI nb) p0 u0 r0 a0 t0 s0 o0), (oX3 p0 pr pb pe pg p1 (nI nd) p2 p3 p4 p5 (nI cn) p6 (nI pq) p7 p8 p9 (nI sc))] t) (va_A [(oX9 h0 b0 (nI nb) p0 u0 r0 a0 t0 s0 o0), (oX3 p0 pr pb pe pg p1 (nI nd) p2 p3 p4 p5 (nI cn) p6 (nI pq) p7 p8 p9 (nI sc))] sz)) 1 6 (va_A [(oX9 h0 b0 (nI nb) p0 u0 r0 a0 t0 s0 o0), (oX3 p0 pr pb pe pg p1 (nI nd) p2 p3 p4 p5 (nI cn) p6 (nI pq) p7 p8 p9 (nI sc))] sz) := by
  refine vx_ofW (cc := cX9_needMilestone) (maxL := 2) (ret := none) (by decide) rfl ?_
  intro p e s m args below meth c s₁ B hml hno hv
  obtain ⟨rfl, hsz, hP, hK, hD0, hC, hZ⟩ := hv
  have hx := B.exec
  have hb := B.bytes
  have hr := B.returns
  have hts := atoms_spec (ws := wsX9_needMilestone) B.pre
  have hown : s.vm.findClass RX9 = some m.cls := findClass_of_methodNamed B.named
  have hlocks := B.notSynchronized
  subst hsz
  have hD := hD0.self (sz := s.heap.size)
  generalize hAe : va_A [(oX9 h0 b0 (nI nb) p0 u0 r0 a0 t0 s0 o0), (oX3 p0 pr pb pe pg p1 (nI nd) p2 p3 p4 p5 (nI cn) p6 (nI pq) p7 p8 p9 (nI sc))] s.heap.size = A at hD hZ ⊢
  have hA : ∀ q : Nat, s.heap.size ≤ q → A q := fun q h => by rw [← hAe]; exact Or.inr h
  have hS : va_S A s.heap s.heap [] := va_S.rf
  have hP : va_P D vwCl [(oX9 h0 b0 (nI nb) p0 u0 r0 a0 t0 s0 o0), (oX3 p0 pr pb pe pg p1 (nI nd) p2 p3 p4 p5 (nI cn) p6 (nI pq) p7 p8 p9 (nI sc))] s.heap := hP
  have hl := lv_entry ([.ref h0, .int i]) (n := 2) (Nat.le_of_ble_eq_true rfl)
  rw [lg_entry_eq]
  generalize (lg_sl ([.ref h0, .int i]) ++ List.replicate (2 - (lg_sl ([.ref h0, .int i])).length) Slot.unset).toArray = ls at hl ⊢
  have hl : lv_has ls 2 [(0, .ref h0), (1, .int i)] := hl
  have inX3 : ∀ w ∈ u_ws RX3 TX3 17, w ∈ wsX9_needMilestone := by decide +kernel
  have inX9 : ∀ w ∈ u_ws RX9 TX9 9, w ∈ wsX9_needMilestone := by decide +kernel
  refine lv_iload_n hx hb dX9_needMilestone_0 rfl (lv_at hl 1 rfl) ?_
  refine lv_aload_n hx hb dX9_needMilestone_1 rfl (lv_at hl 0 rfl) ?_
  refine va_get (D := D) (ci := 10) (v := .ref p0) (C := RX9) (T := TX9) (N := 9) hx hb hts inX9 hown hK hP 0 rfl rfl 2 (by decide) (hts (.fieldLink RX9 16 "EscrowDesk" "plan" "LEscrowDesk$Plan;") (by decide +kernel)) (fun _ h9 => h9) rfl dX9_needMilestone_2 ?_
  refine va_getN (D := D) (ci := 7) (v := .int (nI cn)) (C := RX3) (T := TX3) (N := 17) hx hb hts inX3 hown hK hP 1 rfl rfl 10 (by decide) (hC.f (A := _) (a := RX9) (i := 78) (b := "EscrowDesk$Plan") (n := "milestoneCount") (d := "I") (x := "EscrowDesk") (by decide +kernel)) (fun _ h9 => h9) rfl dX9_needMilestone_5 ?_
  obtain ⟨hPc, hDc, hFc⟩ := PDq.cut (wc := []) hP hD hS hA [] (by decide) rfl
  refine vx_callv (vx_runS (As := [.int i, .int (nI cn)]) (rest := []) ⟨hx, hb, hml, hown, hts⟩ (s_needIndex l D cA sa i cn s.heap.size hl9 (by omega)) (va_cwS 2 hts gX9_needMilestone_X9_needIndex rfl rfl rfl (by decide +kernel) ⟨(Nat.le_of_ble_eq_true rfl), (Nat.le_of_ble_eq_true rfl)⟩) ⟨Wd.blind, fun U hU hW => ⟨rfl, Wd.call hPc hDc hK hC hZ hS hFc U hU hW⟩⟩ rfl rfl hl.1 rfl (lv_room (Nat.le_of_ble_eq_true rfl)) dX9_needMilestone_8 ⟨(Nat.le_of_ble_eq_true rfl), (Nat.le_of_ble_eq_true rfl)⟩) hS (fun q _ h => hFc q h) hFc (fun q _ h => hFc q h) (fun E ce q9 u t H1 locs ht hvm hpx hE hz1 hk1 hS hcell hv9 hcl => ?_) (fun u t H1 locs ht hvm hw hB hz1 hk1 hS => ?_)
  · skip
    obtain ⟨hE, hP1, hD1⟩ := hE
    rw [ht] at hP1
    obtain ⟨hP, hD⟩ := PDq.join (w := [(oX9 h0 b0 (nI nb) p0 u0 r0 a0 t0 s0 o0), (oX3 p0 pr pb pe pg p1 (nI nd) p2 p3 p4 p5 (nI cn) p6 (nI pq) p7 p8 p9 (nI sc))]) 2 hP hD [] [0, 1] rfl rfl (by decide) (by decide) hk1 hFc hP1 hD1 rfl
    generalize H1 = H at hP hS hcell ⊢
    obtain ⟨hP9, hD9⟩ := PDq.sub (ws' := [(oX9 h0 b0 (nI nb) p0 u0 r0 a0 t0 s0 o0), (oX3 p0 pr pb pe pg p1 (nI nd) p2 p3 p4 p5 (nI cn) p6 (nI pq) p7 p8 p9 (nI sc))]) hP hD [0, 1] (by decide) rfl
    exact vx_out (fun x h => (hno x h).elim) hlocks hcell hv9 hcl (fun t ht hvm => ⟨(), trivial, ⟨hE, by rw [ht]; exact hP9, hD9⟩, hS.F ht⟩) hS.2.2 (Nat.le_of_ble_eq_true rfl) (Nat.le_of_ble_eq_true rfl)
  · skip
    obtain ⟨qn1, hn2, hn3, hP1, hD1⟩ := hB
    rw [ht] at hP1
    obtain ⟨hP, hD⟩ := PDq.join (w := [(oX9 h0 b0 (nI nb) p0 u0 r0 a0 t0 s0 o0), (oX3 p0 pr pb pe pg p1 (nI nd) p2 p3 p4 p5 (nI cn) p6 (nI pq) p7 p8 p9 (nI sc))]) 2 hP hD [] [0, 1] rfl rfl (by decide) (by decide) hk1 hFc hP1 hD1 rfl
    generalize H1 = H at hP hS ⊢
    rw [hn3] at hl
    have hl : lv_has ls 2 [(0, .ref h0), (1, .int (nI qn1))] := hl
    obtain ⟨hP9, hD9⟩ := PDq.sub (ws' := [(oX9 h0 b0 (nI nb) p0 u0 r0 a0 t0 s0 o0), (oX3 p0 pr pb pe pg p1 (nI nd) p2 p3 p4 p5 (nI cn) p6 (nI pq) p7 p8 p9 (nI sc))]) hP hD [0, 1] (by decide) rfl
    refine W.widen (k := 1) (n := 6) (Nat.le_of_ble_eq_true rfl) (Nat.le_of_ble_eq_true rfl) ?_
    exact vx_ret (W.vret hx hb hr (fun t ht hW => ⟨⟨(), rfl, trivial, qn1, hn2, hn3, by rw [ht]; exact hP9, hD9⟩, hS.F ht⟩) hS.2.2 dX9_needMilestone_11)

set_option maxHeartbeats 4000000 in
set_option maxRecDepth 100000 in
/-- needProof -/
theorem s_needProof (l : Launch) (D : va_G) (cA : Nat → ClassId) (sa : Nat → Nat) (h0 : Nat) (b0 : Nat) (nb : Nat) (p0 : Nat) (u0 : Nat) (r0 : Nat) (a0 : Nat) (t0 : Nat) (s0 : Nat) (o0 : Nat) (p1 : Nat) (p2 : Nat) (p3 : Nat) (p4 : Nat) (p5 : Nat) (p6 : Nat) (p7 : Nat) (p8 : Nat) (p9 : Nat) (cn : Nat) (pq : Nat) (nd : Nat) (sc : Nat) (pr : Int32) (pb : Int32) (pe : Int32) (pg : Int32) (i : Int32) (sz : Nat) (hl9 : l.stackTraces = false) (hcn : cn ≤ 10) (hpq : pq ≤ 8) (hnd : nd ≤ 6) (hsc : sc ≤ 350) : vx_Met l yX9_needProof wsX9_needProof ({ frames := 7, cells := 1, slots := 6, locals := 111 }) (va_Pc [.ref h0, .int i] (Wd D cA sa [(oX9 h0 b0 (nI nb) p0 u0 r0 a0 t0 s0 o0), (oX3 p0 pr pb pe pg p1 (nI nd) p2 p3 p4 p5 (nI cn) p6 (nI pq) p7 p8 p9 (nI sc))] sz)) (va_Qv (fun _ : Unit => True) (fun (_ : Unit) t => ∃ k : Nat, k < pq ∧ i = nI k ∧ Wq D (va_A [(oX9 h0 b0 (nI nb) p0 u0 r0 a0 t0 s0 o0), (oX3 p0 pr pb pe pg p1 (nI nd) p2 p3 p4 p5 (nI cn) p6 (nI pq) p7 p8 p9 (nI sc))] sz) [(oX9 h0 b0 (nI nb) p0 u0 r0 a0 t0 s0 o0), (oX3 p0 pr pb pe pg p1 (nI nd) p2 p3 p4 p5 (nI cn) p6 (nI pq) p7 p8 p9 (nI sc))] t) (va_A [(oX9 h0 b0 (nI nb) p0 u0 r0 a0 t0 s0 o0), (oX3 p0 pr pb pe pg p1 (nI nd) p2 p3 p4 p5 (nI cn) p6 (nI pq) p7 p8 p9 (nI sc))] sz)) (vx_X (fun _ : Unit => True) (fun E _ t => (E = "java/lang/IndexOutOfBoundsException") ∧ Wq D (va_A [(oX9 h0 b0 (nI nb) p0 u0 r0 a0 t0 s0 o0), (oX3 p0 pr pb pe pg p1 (nI nd) p2 p3 p4 p5 (nI cn) p6 (nI pq) p7 p8 p9 (nI sc))] sz) [(oX9 h0 b0 (nI nb) p0 u0 r0 a0 t0 s0 o0), (oX3 p0 pr pb pe pg p1 (nI nd) p2 p3 p4 p5 (nI cn) p6 (nI pq) p7 p8 p9 (nI sc))] t) (va_A [(oX9 h0 b0 (nI nb) p0 u0 r0 a0 t0 s0 o0), (oX3 p0 pr pb pe pg p1 (nI nd) p2 p3 p4 p5 (nI cn) p6 (nI pq) p7 p8 p9 (nI sc))] sz)) 1 6 (va_A [(oX9 h0 b0 (nI nb) p0 u0 r0 a0 t0 s0 o0), (oX3 p0 pr pb pe pg p1 (nI nd) p2 p3 p4 p5 (nI cn) p6 (nI pq) p7 p8 p9 (nI sc))] sz) := by
  refine vx_ofW (cc := cX9_needProof) (maxL := 2) (ret := none) (by decide) rfl ?_
  intro p e s m args below meth c s₁ B hml hno hv
  obtain ⟨rfl, hsz, hP, hK, hD0, hC, hZ⟩ := hv
  have hx := B.exec
  have hb := B.bytes
  have hr := B.returns
  have hts := atoms_spec (ws := wsX9_needProof) B.pre
  have hown : s.vm.findClass RX9 = some m.cls := findClass_of_methodNamed B.named
  have hlocks := B.notSynchronized
  subst hsz
  have hD := hD0.self (sz := s.heap.size)
  generalize hAe : va_A [(oX9 h0 b0 (nI nb) p0 u0 r0 a0 t0 s0 o0), (oX3 p0 pr pb pe pg p1 (nI nd) p2 p3 p4 p5 (nI cn) p6 (nI pq) p7 p8 p9 (nI sc))] s.heap.size = A at hD hZ ⊢
  have hA : ∀ q : Nat, s.heap.size ≤ q → A q := fun q h => by rw [← hAe]; exact Or.inr h
  have hS : va_S A s.heap s.heap [] := va_S.rf
  have hP : va_P D vwCl [(oX9 h0 b0 (nI nb) p0 u0 r0 a0 t0 s0 o0), (oX3 p0 pr pb pe pg p1 (nI nd) p2 p3 p4 p5 (nI cn) p6 (nI pq) p7 p8 p9 (nI sc))] s.heap := hP
  have hl := lv_entry ([.ref h0, .int i]) (n := 2) (Nat.le_of_ble_eq_true rfl)
  rw [lg_entry_eq]
  generalize (lg_sl ([.ref h0, .int i]) ++ List.replicate (2 - (lg_sl ([.ref h0, .int i])).length) Slot.unset).toArray = ls at hl ⊢
  have hl : lv_has ls 2 [(0, .ref h0), (1, .int i)] := hl
  have inX3 : ∀ w ∈ u_ws RX3 TX3 17, w ∈ wsX9_needProof := by decide +kernel
  have inX9 : ∀ w ∈ u_ws RX9 TX9 9, w ∈ wsX9_needProof := by decide +kernel
  refine lv_iload_n hx hb dX9_needProof_0 rfl (lv_at hl 1 rfl) ?_
  refine lv_aload_n hx hb dX9_needProof_1 rfl (lv_at hl 0 rfl) ?_
  refine va_get (D := D) (ci := 10) (v := .ref p0) (C := RX9) (T := TX9) (N := 9) hx hb hts inX9 hown hK hP 0 rfl rfl 2 (by decide) (hts (.fieldLink RX9 16 "EscrowDesk" "plan" "LEscrowDesk$Plan;") (by decide +kernel)) (fun _ h9 => h9) rfl dX9_needProof_2 ?_
  refine va_getN (D := D) (ci := 7) (v := .int (nI pq)) (C := RX3) (T := TX3) (N := 17) hx hb hts inX3 hown hK hP 1 rfl rfl 12 (by decide) (hC.f (A := _) (a := RX9) (i := 147) (b := "EscrowDesk$Plan") (n := "proofCount") (d := "I") (x := "EscrowDesk") (by decide +kernel)) (fun _ h9 => h9) rfl dX9_needProof_5 ?_
  obtain ⟨hPc, hDc, hFc⟩ := PDq.cut (wc := []) hP hD hS hA [] (by decide) rfl
  refine vx_callv (vx_runS (As := [.int i, .int (nI pq)]) (rest := []) ⟨hx, hb, hml, hown, hts⟩ (s_needIndex l D cA sa i pq s.heap.size hl9 (by omega)) (va_cwS 2 hts gX9_needProof_X9_needIndex rfl rfl rfl (by decide +kernel) ⟨(Nat.le_of_ble_eq_true rfl), (Nat.le_of_ble_eq_true rfl)⟩) ⟨Wd.blind, fun U hU hW => ⟨rfl, Wd.call hPc hDc hK hC hZ hS hFc U hU hW⟩⟩ rfl rfl hl.1 rfl (lv_room (Nat.le_of_ble_eq_true rfl)) dX9_needProof_8 ⟨(Nat.le_of_ble_eq_true rfl), (Nat.le_of_ble_eq_true rfl)⟩) hS (fun q _ h => hFc q h) hFc (fun q _ h => hFc q h) (fun E ce q9 u t H1 locs ht hvm hpx hE hz1 hk1 hS hcell hv9 hcl => ?_) (fun u t H1 locs ht hvm hw hB hz1 hk1 hS => ?_)
  · skip
    obtain ⟨hE, hP1, hD1⟩ := hE
    rw [ht] at hP1
    obtain ⟨hP, hD⟩ := PDq.join (w := [(oX9 h0 b0 (nI nb) p0 u0 r0 a0 t0 s0 o0), (oX3 p0 pr pb pe pg p1 (nI nd) p2 p3 p4 p5 (nI cn) p6 (nI pq) p7 p8 p9 (nI sc))]) 2 hP hD [] [0, 1] rfl rfl (by decide) (by decide) hk1 hFc hP1 hD1 rfl
    generalize H1 = H at hP hS hcell ⊢
    obtain ⟨hP9, hD9⟩ := PDq.sub (ws' := [(oX9 h0 b0 (nI nb) p0 u0 r0 a0 t0 s0 o0), (oX3 p0 pr pb pe pg p1 (nI nd) p2 p3 p4 p5 (nI cn) p6 (nI pq) p7 p8 p9 (nI sc))]) hP hD [0, 1] (by decide) rfl
    exact vx_out (fun x h => (hno x h).elim) hlocks hcell hv9 hcl (fun t ht hvm => ⟨(), trivial, ⟨hE, by rw [ht]; exact hP9, hD9⟩, hS.F ht⟩) hS.2.2 (Nat.le_of_ble_eq_true rfl) (Nat.le_of_ble_eq_true rfl)
  · skip
    obtain ⟨qn1, hn2, hn3, hP1, hD1⟩ := hB
    rw [ht] at hP1
    obtain ⟨hP, hD⟩ := PDq.join (w := [(oX9 h0 b0 (nI nb) p0 u0 r0 a0 t0 s0 o0), (oX3 p0 pr pb pe pg p1 (nI nd) p2 p3 p4 p5 (nI cn) p6 (nI pq) p7 p8 p9 (nI sc))]) 2 hP hD [] [0, 1] rfl rfl (by decide) (by decide) hk1 hFc hP1 hD1 rfl
    generalize H1 = H at hP hS ⊢
    rw [hn3] at hl
    have hl : lv_has ls 2 [(0, .ref h0), (1, .int (nI qn1))] := hl
    obtain ⟨hP9, hD9⟩ := PDq.sub (ws' := [(oX9 h0 b0 (nI nb) p0 u0 r0 a0 t0 s0 o0), (oX3 p0 pr pb pe pg p1 (nI nd) p2 p3 p4 p5 (nI cn) p6 (nI pq) p7 p8 p9 (nI sc))]) hP hD [0, 1] (by decide) rfl
    refine W.widen (k := 1) (n := 6) (Nat.le_of_ble_eq_true rfl) (Nat.le_of_ble_eq_true rfl) ?_
    exact vx_ret (W.vret hx hb hr (fun t ht hW => ⟨⟨(), rfl, trivial, qn1, hn2, hn3, by rw [ht]; exact hP9, hD9⟩, hS.F ht⟩) hS.2.2 dX9_needProof_11)

set_option maxHeartbeats 4000000 in
set_option maxRecDepth 100000 in
/-- needDispute -/
theorem s_needDispute (l : Launch) (D : va_G) (cA : Nat → ClassId) (sa : Nat → Nat) (h0 : Nat) (b0 : Nat) (nb : Nat) (p0 : Nat) (u0 : Nat) (r0 : Nat) (a0 : Nat) (t0 : Nat) (s0 : Nat) (o0 : Nat) (a1 : Nat) (a3 : Nat) (a4 : Nat) (a5 : Nat) (a6 : Nat) (i6 : Int32) (i7 : Int32) (i8 : Int32) (i12 : Int32) (i13 : Int32) (i14 : Int32) (i15 : Int32) (i16 : Int32) (i17 : Int32) (i18 : Int32) (i19 : Int32) (i9 : Int64) (i10 : Int64) (i11 : Int64) (mi : Nat) (fs : Nat → Int32) (sz : Nat) (hl9 : l.stackTraces = false) (hmi : mi < 10) : vx_Met l yX9_needDispute wsX9_needDispute ({ frames := 7, cells := 1, slots := 6, locals := 110 }) (va_Pc [.ref h0, .int (nI mi)] (Wd D cA sa [(oX9 h0 b0 (nI nb) p0 u0 r0 a0 t0 s0 o0), (oX0 a0 p0 a1 a3 a4 a5 a6 i6 i7 i8 i9 i10 i11 i12 i13 i14 i15 i16 i17 i18 i19), (a3, .inl (cA 0, 10, .inl fs))] sz)) (va_Qv (fun _ : Unit => True) (fun (_ : Unit) t => Wq D (va_A [(oX9 h0 b0 (nI nb) p0 u0 r0 a0 t0 s0 o0), (oX0 a0 p0 a1 a3 a4 a5 a6 i6 i7 i8 i9 i10 i11 i12 i13 i14 i15 i16 i17 i18 i19), (a3, .inl (cA 0, 10, .inl fs))] sz) [(oX9 h0 b0 (nI nb) p0 u0 r0 a0 t0 s0 o0), (oX0 a0 p0 a1 a3 a4 a5 a6 i6 i7 i8 i9 i10 i11 i12 i13 i14 i15 i16 i17 i18 i19), (a3, .inl (cA 0, 10, .inl fs))] t) (va_A [(oX9 h0 b0 (nI nb) p0 u0 r0 a0 t0 s0 o0), (oX0 a0 p0 a1 a3 a4 a5 a6 i6 i7 i8 i9 i10 i11 i12 i13 i14 i15 i16 i17 i18 i19), (a3, .inl (cA 0, 10, .inl fs))] sz)) (vx_X (fun _ : Unit => True) (fun E _ t => (E = "java/lang/IllegalStateException") ∧ Wq D (va_A [(oX9 h0 b0 (nI nb) p0 u0 r0 a0 t0 s0 o0), (oX0 a0 p0 a1 a3 a4 a5 a6 i6 i7 i8 i9 i10 i11 i12 i13 i14 i15 i16 i17 i18 i19), (a3, .inl (cA 0, 10, .inl fs))] sz) [(oX9 h0 b0 (nI nb) p0 u0 r0 a0 t0 s0 o0), (oX0 a0 p0 a1 a3 a4 a5 a6 i6 i7 i8 i9 i10 i11 i12 i13 i14 i15 i16 i17 i18 i19), (a3, .inl (cA 0, 10, .inl fs))] t) (va_A [(oX9 h0 b0 (nI nb) p0 u0 r0 a0 t0 s0 o0), (oX0 a0 p0 a1 a3 a4 a5 a6 i6 i7 i8 i9 i10 i11 i12 i13 i14 i15 i16 i17 i18 i19), (a3, .inl (cA 0, 10, .inl fs))] sz)) 1 6 (va_A [(oX9 h0 b0 (nI nb) p0 u0 r0 a0 t0 s0 o0), (oX0 a0 p0 a1 a3 a4 a5 a6 i6 i7 i8 i9 i10 i11 i12 i13 i14 i15 i16 i17 i18 i19), (a3, .inl (cA 0, 10, .inl fs))] sz) := by
  refine vx_ofW (cc := cX9_needDispute) (maxL := 2) (ret := none) (by decide) rfl ?_
  intro p e s m args below meth c s₁ B hml hno hv
  obtain ⟨rfl, hsz, hP, hK, hD0, hC, hZ⟩ := hv
  have hx := B.exec
  have hb := B.bytes
  have hr := B.returns
  have hts := atoms_spec (ws := wsX9_needDispute) B.pre
  have hown : s.vm.findClass RX9 = some m.cls := findClass_of_methodNamed B.named
  have hlocks := B.notSynchronized
  subst hsz
  have hD := hD0.self (sz := s.heap.size)
  generalize hAe : va_A [(oX9 h0 b0 (nI nb) p0 u0 r0 a0 t0 s0 o0), (oX0 a0 p0 a1 a3 a4 a5 a6 i6 i7 i8 i9 i10 i11 i12 i13 i14 i15 i16 i17 i18 i19), (a3, .inl (cA 0, 10, .inl fs))] s.heap.size = A at hD hZ ⊢
  have hA : ∀ q : Nat, s.heap.size ≤ q → A q := fun q h => by rw [← hAe]; exact Or.inr h
  have hS : va_S A s.heap s.heap [] := va_S.rf
  have hP : va_P D vwCl [(oX9 h0 b0 (nI nb) p0 u0 r0 a0 t0 s0 o0), (oX0 a0 p0 a1 a3 a4 a5 a6 i6 i7 i8 i9 i10 i11 i12 i13 i14 i15 i16 i17 i18 i19), (a3, .inl (cA 0, 10, .inl fs))] s.heap := hP
  have hl := lv_entry ([.ref h0, .int (nI mi)]) (n := 2) (Nat.le_of_ble_eq_true rfl)
  rw [lg_entry_eq]
  generalize (lg_sl ([.ref h0, .int (nI mi)]) ++ List.replicate (2 - (lg_sl ([.ref h0, .int (nI mi)])).length) Slot.unset).toArray = ls at hl ⊢
  have hl : lv_has ls 2 [(0, .ref h0), (1, .int (nI mi))] := hl
  have inX0 : ∀ w ∈ u_ws RX0 TX0 20, w ∈ wsX9_needDispute := by decide +kernel
  have inX9 : ∀ w ∈ u_ws RX9 TX9 9, w ∈ wsX9_needDispute := by decide +kernel
  refine lv_aload_n hx hb dX9_needDispute_0 rfl (lv_at hl 0 rfl) ?_
  refine va_get (D := D) (ci := 10) (v := .ref a0) (C := RX9) (T := TX9) (N := 9) hx hb hts inX9 hown hK hP 0 rfl rfl 5 (by decide) (hts (.fieldLink RX9 35 "EscrowDesk" "account" "LEscrowDesk$Account;") (by decide +kernel)) (fun _ h9 => h9) rfl dX9_needDispute_1 ?_
  refine va_getN (D := D) (ci := 4) (v := .ref a3) (C := RX0) (T := TX0) (N := 20) hx hb hts inX0 hown hK hP 1 rfl rfl 2 (by decide) (hC.f (A := _) (a := RX9) (i := 122) (b := "EscrowDesk$Account") (n := "state") (d := "[I") (x := "EscrowDesk") (by decide +kernel)) (fun _ h9 => h9) rfl dX9_needDispute_4 ?_
  refine lv_iload_n hx hb dX9_needDispute_7 rfl (lv_at hl 1 rfl) ?_
  refine va_iald hx hb hK hP 2 0 rfl rfl (vp_in_nI (n := mi) (N := 10) (show mi < 10 by omega) (by decide)) dX9_needDispute_8 ?_
  refine lv_topi (fun yn1 eyn1 => ?_)
  refine lv_iconst (v := 2) hx hb dX9_needDispute_9 (by decide) ?_
  refine lv_icmp_ne (tgt := 17) hx hb dX9_needDispute_10 (by decide) (fun c2 => ?_) (fun c2 => ?_)
  · skip
    refine lv_iconst (v := 0) hx hb dX9_needDispute_17 (by decide) ?_
    obtain ⟨hPc, hDc, hFc⟩ := PDq.cut (wc := []) hP hD hS hA [] (by decide) rfl
    refine vx_callv (vx_runS (As := [.int 0]) (rest := []) ⟨hx, hb, hml, hown, hts⟩ (s_needPossible0 l D cA sa  s.heap.size hl9) (va_cwS 1 hts gX9_needDispute_X9_needPossible rfl rfl rfl (by decide +kernel) ⟨(Nat.le_of_ble_eq_true rfl), (Nat.le_of_ble_eq_true rfl)⟩) ⟨Wd.blind, fun U hU hW => ⟨rfl, Wd.call hPc hDc hK hC hZ hS hFc U hU hW⟩⟩ rfl rfl hl.1 rfl (lv_room (Nat.le_of_ble_eq_true rfl)) dX9_needDispute_18 ⟨(Nat.le_of_ble_eq_true rfl), (Nat.le_of_ble_eq_true rfl)⟩) hS (fun q _ h => hFc q h) hFc (fun q _ h => hFc q h) (fun E ce q9 u t H1 locs ht hvm hpx hE hz1 hk1 hS hcell hv9 hcl => ?_) (fun u t H1 locs ht hvm hw hB hz1 hk1 hS => ?_)
    · skip
      obtain ⟨hE, hP1, hD1⟩ := hE
      rw [ht] at hP1
      obtain ⟨hP, hD⟩ := PDq.join (w := [(oX9 h0 b0 (nI nb) p0 u0 r0 a0 t0 s0 o0), (oX0 a0 p0 a1 a3 a4 a5 a6 i6 i7 i8 i9 i10 i11 i12 i13 i14 i15 i16 i17 i18 i19), (a3, .inl (cA 0, 10, .inl fs))]) 3 hP hD [] [0, 1, 2] rfl rfl (by decide) (by decide) hk1 hFc hP1 hD1 rfl
      generalize H1 = H at hP hS hcell ⊢
      obtain ⟨hP9, hD9⟩ := PDq.sub (ws' := [(oX9 h0 b0 (nI nb) p0 u0 r0 a0 t0 s0 o0), (oX0 a0 p0 a1 a3 a4 a5 a6 i6 i7 i8 i9 i10 i11 i12 i13 i14 i15 i16 i17 i18 i19), (a3, .inl (cA 0, 10, .inl fs))]) hP hD [0, 1, 2] (by decide) rfl
      exact vx_out (fun x h => (hno x h).elim) hlocks hcell hv9 hcl (fun t ht hvm => ⟨(), trivial, ⟨hE, by rw [ht]; exact hP9, hD9⟩, hS.F ht⟩) hS.2.2 (Nat.le_of_ble_eq_true rfl) (Nat.le_of_ble_eq_true rfl)
    · skip
      exact hw.elim
  · skip
    refine lv_iconst (v := 1) hx hb dX9_needDispute_13 (by decide) ?_
    refine lv_goto (tgt := 18) hx hb dX9_needDispute_14 (by decide) ?_
    obtain ⟨hPc, hDc, hFc⟩ := PDq.cut (wc := []) hP hD hS hA [] (by decide) rfl
    refine va_callv (va_runS (As := [.int 1]) (rest := []) ⟨hx, hb, hml, hown, hts⟩ (s_needPossible1 l D cA sa  s.heap.size) (va_cwS 1 hts gX9_needDispute_X9_needPossible rfl rfl rfl (by decide +kernel) ⟨(Nat.le_of_ble_eq_true rfl), (Nat.le_of_ble_eq_true rfl)⟩) ⟨Wd.blind, fun U hU hW => ⟨rfl, Wd.call hPc hDc hK hC hZ hS hFc U hU hW⟩⟩ rfl rfl hl.1 rfl (lv_room (Nat.le_of_ble_eq_true rfl)) dX9_needDispute_18 ⟨(Nat.le_of_ble_eq_true rfl), (Nat.le_of_ble_eq_true rfl)⟩) hS (fun q _ h => hFc q h) hFc (fun u t H1 locs ht hvm hw hB hz1 hk1 hS => ?_)
    obtain ⟨hP1, hD1⟩ := hB
    rw [ht] at hP1
    obtain ⟨hP, hD⟩ := PDq.join (w := [(oX9 h0 b0 (nI nb) p0 u0 r0 a0 t0 s0 o0), (oX0 a0 p0 a1 a3 a4 a5 a6 i6 i7 i8 i9 i10 i11 i12 i13 i14 i15 i16 i17 i18 i19), (a3, .inl (cA 0, 10, .inl fs))]) 3 hP hD [] [0, 1, 2] rfl rfl (by decide) (by decide) hk1 hFc hP1 hD1 rfl
    generalize H1 = H at hP hS ⊢
    obtain ⟨hP9, hD9⟩ := PDq.sub (ws' := [(oX9 h0 b0 (nI nb) p0 u0 r0 a0 t0 s0 o0), (oX0 a0 p0 a1 a3 a4 a5 a6 i6 i7 i8 i9 i10 i11 i12 i13 i14 i15 i16 i17 i18 i19), (a3, .inl (cA 0, 10, .inl fs))]) hP hD [0, 1, 2] (by decide) rfl
    refine W.widen (k := 1) (n := 6) (Nat.le_of_ble_eq_true rfl) (Nat.le_of_ble_eq_true rfl) ?_
    exact vx_ret (W.vret hx hb hr (fun t ht hW => ⟨⟨(), rfl, trivial, by rw [ht]; exact hP9, hD9⟩, hS.F ht⟩) hS.2.2 dX9_needDispute_21)

set_option maxHeartbeats 4000000 in
set_option maxRecDepth 100000 in
/-- day -/
theorem s_day (l : Launch) (D : va_G) (cA : Nat → ClassId) (sa : Nat → Nat) (h0 : Nat) (b0 : Nat) (nb : Nat) (p0 : Nat) (u0 : Nat) (r0 : Nat) (a0 : Nat) (t0 : Nat) (s0 : Nat) (o0 : Nat) (a1 : Nat) (a3 : Nat) (a4 : Nat) (a5 : Nat) (a6 : Nat) (i6 : Int32) (i7 : Int32) (i8 : Int32) (i12 : Int32) (i13 : Int32) (i14 : Int32) (i15 : Int32) (i16 : Int32) (i17 : Int32) (i18 : Int32) (i19 : Int32) (i9 : Int64) (i10 : Int64) (i11 : Int64) (sz : Nat) : Met l yX9_day wsX9_day ({ frames := 0, cells := 0, slots := 0, locals := 0 }) (va_Pc [.ref h0] (Wd D cA sa [(oX9 h0 b0 (nI nb) p0 u0 r0 a0 t0 s0 o0), (oX0 a0 p0 a1 a3 a4 a5 a6 i6 i7 i8 i9 i10 i11 i12 i13 i14 i15 i16 i17 i18 i19)] sz)) (va_Qi (fun (r : Int32) (_ : Unit) => True) (fun (_ : Unit) t => Wq D (va_A [(oX9 h0 b0 (nI nb) p0 u0 r0 a0 t0 s0 o0), (oX0 a0 p0 a1 a3 a4 a5 a6 i6 i7 i8 i9 i10 i11 i12 i13 i14 i15 i16 i17 i18 i19)] sz) [(oX9 h0 b0 (nI nb) p0 u0 r0 a0 t0 s0 o0), (oX0 a0 p0 a1 a3 a4 a5 a6 i6 i7 i8 i9 i10 i11 i12 i13 i14 i15 i16 i17 i18 i19)] t) (va_A [(oX9 h0 b0 (nI nb) p0 u0 r0 a0 t0 s0 o0), (oX0 a0 p0 a1 a3 a4 a5 a6 i6 i7 i8 i9 i10 i11 i12 i13 i14 i15 i16 i17 i18 i19)] sz)) 0 0 (va_A [(oX9 h0 b0 (nI nb) p0 u0 r0 a0 t0 s0 o0), (oX0 a0 p0 a1 a3 a4 a5 a6 i6 i7 i8 i9 i10 i11 i12 i13 i14 i15 i16 i17 i18 i19)] sz) := by
  refine Met.ofW (cc := cX9_day) (maxL := 1) (ret := (some .int)) (by decide) rfl ?_
  intro p e s m args below meth c s₁ B hml hv
  obtain ⟨rfl, hsz, hP, hK, hD0, hC, hZ⟩ := hv
  have hx := B.exec
  have hb := B.bytes
  have hr := B.returns
  have hts := atoms_spec (ws := wsX9_day) B.pre
  have hown : s.vm.findClass RX9 = some m.cls := findClass_of_methodNamed B.named
  have hlocks := B.notSynchronized
  subst hsz
  have hD := hD0.self (sz := s.heap.size)
  generalize hAe : va_A [(oX9 h0 b0 (nI nb) p0 u0 r0 a0 t0 s0 o0), (oX0 a0 p0 a1 a3 a4 a5 a6 i6 i7 i8 i9 i10 i11 i12 i13 i14 i15 i16 i17 i18 i19)] s.heap.size = A at hD hZ ⊢
  have hA : ∀ q : Nat, s.heap.size ≤ q → A q := fun q h => by rw [← hAe]; exact Or.inr h
  have hS : va_S A s.heap s.heap [] := va_S.rf
  have hP : va_P D vwCl [(oX9 h0 b0 (nI nb) p0 u0 r0 a0 t0 s0 o0), (oX0 a0 p0 a1 a3 a4 a5 a6 i6 i7 i8 i9 i10 i11 i12 i13 i14 i15 i16 i17 i18 i19)] s.heap := hP
  have hl := lv_entry ([.ref h0]) (n := 1) (Nat.le_of_ble_eq_true rfl)
  rw [lg_entry_eq]
  generalize (lg_sl ([.ref h0]) ++ List.replicate (1 - (lg_sl ([.ref h0])).length) Slot.unset).toArray = ls at hl ⊢
  have hl : lv_has ls 1 [(0, .ref h0)] := hl
  have inX0 : ∀ w ∈ u_ws RX0 TX0 20, w ∈ wsX9_day := by decide +kernel
  have inX9 : ∀ w ∈ u_ws RX9 TX9 9, w ∈ wsX9_day := by decide +kernel
  refine lv_aload_n hx hb dX9_day_0 rfl (lv_at hl 0 rfl) ?_
  refine va_get (D := D) (ci := 10) (v := .ref a0) (C := RX9) (T := TX9) (N := 9) hx hb hts inX9 hown hK hP 0 rfl rfl 5 (by decide) (hts (.fieldLink RX9 35 "EscrowDesk" "account" "LEscrowDesk$Account;") (by decide +kernel)) (fun _ h9 => h9) rfl dX9_day_1 ?_
  refine va_getN (D := D) (ci := 4) (v := .int i6) (C := RX0) (T := TX0) (N := 20) hx hb hts inX0 hown hK hP 1 rfl rfl 6 (by decide) (hC.f (A := _) (a := RX9) (i := 87) (b := "EscrowDesk$Account") (n := "day") (d := "I") (x := "EscrowDesk") (by decide +kernel)) (fun _ h9 => h9) rfl dX9_day_4 ?_
  obtain ⟨hP9, hD9⟩ := PDq.sub (ws' := [(oX9 h0 b0 (nI nb) p0 u0 r0 a0 t0 s0 o0), (oX0 a0 p0 a1 a3 a4 a5 a6 i6 i7 i8 i9 i10 i11 i12 i13 i14 i15 i16 i17 i18 i19)]) hP hD [0, 1] (by decide) rfl
  refine W.widen (k := 0) (n := 0) (Nat.le_of_ble_eq_true rfl) (Nat.le_of_ble_eq_true rfl) ?_
  exact (W.iret (v := i6) hx hb hr (fun t ht hW => ⟨⟨i6, (), rfl, trivial, by rw [ht]; exact hP9, hD9⟩, hS.F ht⟩) hS.2.2 dX9_day_7)

set_option maxHeartbeats 4000000 in
set_option maxRecDepth 100000 in
/-- deposited -/
theorem s_deposited (l : Launch) (D : va_G) (cA : Nat → ClassId) (sa : Nat → Nat) (h0 : Nat) (b0 : Nat) (nb : Nat) (p0 : Nat) (u0 : Nat) (r0 : Nat) (a0 : Nat) (t0 : Nat) (s0 : Nat) (o0 : Nat) (a1 : Nat) (a3 : Nat) (a4 : Nat) (a5 : Nat) (a6 : Nat) (i6 : Int32) (i7 : Int32) (i8 : Int32) (i12 : Int32) (i13 : Int32) (i14 : Int32) (i15 : Int32) (i16 : Int32) (i17 : Int32) (i18 : Int32) (i19 : Int32) (i9 : Int64) (i10 : Int64) (i11 : Int64) (sz : Nat) : Met l yX9_deposited wsX9_deposited ({ frames := 0, cells := 0, slots := 0, locals := 0 }) (va_Pc [.ref h0] (Wd D cA sa [(oX9 h0 b0 (nI nb) p0 u0 r0 a0 t0 s0 o0), (oX0 a0 p0 a1 a3 a4 a5 a6 i6 i7 i8 i9 i10 i11 i12 i13 i14 i15 i16 i17 i18 i19)] sz)) (va_Qi (fun (r : Int32) (_ : Unit) => True) (fun (_ : Unit) t => Wq D (va_A [(oX9 h0 b0 (nI nb) p0 u0 r0 a0 t0 s0 o0), (oX0 a0 p0 a1 a3 a4 a5 a6 i6 i7 i8 i9 i10 i11 i12 i13 i14 i15 i16 i17 i18 i19)] sz) [(oX9 h0 b0 (nI nb) p0 u0 r0 a0 t0 s0 o0), (oX0 a0 p0 a1 a3 a4 a5 a6 i6 i7 i8 i9 i10 i11 i12 i13 i14 i15 i16 i17 i18 i19)] t) (va_A [(oX9 h0 b0 (nI nb) p0 u0 r0 a0 t0 s0 o0), (oX0 a0 p0 a1 a3 a4 a5 a6 i6 i7 i8 i9 i10 i11 i12 i13 i14 i15 i16 i17 i18 i19)] sz)) 0 0 (va_A [(oX9 h0 b0 (nI nb) p0 u0 r0 a0 t0 s0 o0), (oX0 a0 p0 a1 a3 a4 a5 a6 i6 i7 i8 i9 i10 i11 i12 i13 i14 i15 i16 i17 i18 i19)] sz) := by
  refine Met.ofW (cc := cX9_deposited) (maxL := 1) (ret := (some .int)) (by decide) rfl ?_
  intro p e s m args below meth c s₁ B hml hv
  obtain ⟨rfl, hsz, hP, hK, hD0, hC, hZ⟩ := hv
  have hx := B.exec
  have hb := B.bytes
  have hr := B.returns
  have hts := atoms_spec (ws := wsX9_deposited) B.pre
  have hown : s.vm.findClass RX9 = some m.cls := findClass_of_methodNamed B.named
  have hlocks := B.notSynchronized
  subst hsz
  have hD := hD0.self (sz := s.heap.size)
  generalize hAe : va_A [(oX9 h0 b0 (nI nb) p0 u0 r0 a0 t0 s0 o0), (oX0 a0 p0 a1 a3 a4 a5 a6 i6 i7 i8 i9 i10 i11 i12 i13 i14 i15 i16 i17 i18 i19)] s.heap.size = A at hD hZ ⊢
  have hA : ∀ q : Nat, s.heap.size ≤ q → A q := fun q h => by rw [← hAe]; exact Or.inr h
  have hS : va_S A s.heap s.heap [] := va_S.rf
  have hP : va_P D vwCl [(oX9 h0 b0 (nI nb) p0 u0 r0 a0 t0 s0 o0), (oX0 a0 p0 a1 a3 a4 a5 a6 i6 i7 i8 i9 i10 i11 i12 i13 i14 i15 i16 i17 i18 i19)] s.heap := hP
  have hl := lv_entry ([.ref h0]) (n := 1) (Nat.le_of_ble_eq_true rfl)
  rw [lg_entry_eq]
  generalize (lg_sl ([.ref h0]) ++ List.replicate (1 - (lg_sl ([.ref h0])).length) Slot.unset).toArray = ls at hl ⊢
  have hl : lv_has ls 1 [(0, .ref h0)] := hl
  have inX0 : ∀ w ∈ u_ws RX0 TX0 20, w ∈ wsX9_deposited := by decide +kernel
  have inX9 : ∀ w ∈ u_ws RX9 TX9 9, w ∈ wsX9_deposited := by decide +kernel
  refine lv_aload_n hx hb dX9_deposited_0 rfl (lv_at hl 0 rfl) ?_
  refine va_get (D := D) (ci := 10) (v := .ref a0) (C := RX9) (T := TX9) (N := 9) hx hb hts inX9 hown hK hP 0 rfl rfl 5 (by decide) (hts (.fieldLink RX9 35 "EscrowDesk" "account" "LEscrowDesk$Account;") (by decide +kernel)) (fun _ h9 => h9) rfl dX9_deposited_1 ?_
  refine va_getN (D := D) (ci := 4) (v := .int i7) (C := RX0) (T := TX0) (N := 20) hx hb hts inX0 hown hK hP 1 rfl rfl 7 (by decide) (hC.f (A := _) (a := RX9) (i := 90) (b := "EscrowDesk$Account") (n := "deposited") (d := "I") (x := "EscrowDesk") (by decide +kernel)) (fun _ h9 => h9) rfl dX9_deposited_4 ?_
  obtain ⟨hP9, hD9⟩ := PDq.sub (ws' := [(oX9 h0 b0 (nI nb) p0 u0 r0 a0 t0 s0 o0), (oX0 a0 p0 a1 a3 a4 a5 a6 i6 i7 i8 i9 i10 i11 i12 i13 i14 i15 i16 i17 i18 i19)]) hP hD [0, 1] (by decide) rfl
  refine W.widen (k := 0) (n := 0) (Nat.le_of_ble_eq_true rfl) (Nat.le_of_ble_eq_true rfl) ?_
  exact (W.iret (v := i7) hx hb hr (fun t ht hW => ⟨⟨i7, (), rfl, trivial, by rw [ht]; exact hP9, hD9⟩, hS.F ht⟩) hS.2.2 dX9_deposited_7)

set_option maxHeartbeats 4000000 in
set_option maxRecDepth 100000 in
/-- principal -/
theorem s_principal (l : Launch) (D : va_G) (cA : Nat → ClassId) (sa : Nat → Nat) (h0 : Nat) (b0 : Nat) (nb : Nat) (p0 : Nat) (u0 : Nat) (r0 : Nat) (a0 : Nat) (t0 : Nat) (s0 : Nat) (o0 : Nat) (a1 : Nat) (a3 : Nat) (a4 : Nat) (a5 : Nat) (a6 : Nat) (i6 : Int32) (i7 : Int32) (i8 : Int32) (i12 : Int32) (i13 : Int32) (i14 : Int32) (i15 : Int32) (i16 : Int32) (i17 : Int32) (i18 : Int32) (i19 : Int32) (i9 : Int64) (i10 : Int64) (i11 : Int64) (sz : Nat) : Met l yX9_principal wsX9_principal ({ frames := 0, cells := 0, slots := 0, locals := 0 }) (va_Pc [.ref h0] (Wd D cA sa [(oX9 h0 b0 (nI nb) p0 u0 r0 a0 t0 s0 o0), (oX0 a0 p0 a1 a3 a4 a5 a6 i6 i7 i8 i9 i10 i11 i12 i13 i14 i15 i16 i17 i18 i19)] sz)) (va_Qi (fun (r : Int32) (_ : Unit) => True) (fun (_ : Unit) t => Wq D (va_A [(oX9 h0 b0 (nI nb) p0 u0 r0 a0 t0 s0 o0), (oX0 a0 p0 a1 a3 a4 a5 a6 i6 i7 i8 i9 i10 i11 i12 i13 i14 i15 i16 i17 i18 i19)] sz) [(oX9 h0 b0 (nI nb) p0 u0 r0 a0 t0 s0 o0), (oX0 a0 p0 a1 a3 a4 a5 a6 i6 i7 i8 i9 i10 i11 i12 i13 i14 i15 i16 i17 i18 i19)] t) (va_A [(oX9 h0 b0 (nI nb) p0 u0 r0 a0 t0 s0 o0), (oX0 a0 p0 a1 a3 a4 a5 a6 i6 i7 i8 i9 i10 i11 i12 i13 i14 i15 i16 i17 i18 i19)] sz)) 0 0 (va_A [(oX9 h0 b0 (nI nb) p0 u0 r0 a0 t0 s0 o0), (oX0 a0 p0 a1 a3 a4 a5 a6 i6 i7 i8 i9 i10 i11 i12 i13 i14 i15 i16 i17 i18 i19)] sz) := by
  refine Met.ofW (cc := cX9_principal) (maxL := 1) (ret := (some .int)) (by decide) rfl ?_
  intro p e s m args below meth c s₁ B hml hv
  obtain ⟨rfl, hsz, hP, hK, hD0, hC, hZ⟩ := hv
  have hx := B.exec
  have hb := B.bytes
  have hr := B.returns
  have hts := atoms_spec (ws := wsX9_principal) B.pre
  have hown : s.vm.findClass RX9 = some m.cls := findClass_of_methodNamed B.named
  have hlocks := B.notSynchronized
  subst hsz
  have hD := hD0.self (sz := s.heap.size)
  generalize hAe : va_A [(oX9 h0 b0 (nI nb) p0 u0 r0 a0 t0 s0 o0), (oX0 a0 p0 a1 a3 a4 a5 a6 i6 i7 i8 i9 i10 i11 i12 i13 i14 i15 i16 i17 i18 i19)] s.heap.size = A at hD hZ ⊢
  have hA : ∀ q : Nat, s.heap.size ≤ q → A q := fun q h => by rw [← hAe]; exact Or.inr h
  have hS : va_S A s.heap s.heap [] := va_S.rf
  have hP : va_P D vwCl [(oX9 h0 b0 (nI nb) p0 u0 r0 a0 t0 s0 o0), (oX0 a0 p0 a1 a3 a4 a5 a6 i6 i7 i8 i9 i10 i11 i12 i13 i14 i15 i16 i17 i18 i19)] s.heap := hP
  have hl := lv_entry ([.ref h0]) (n := 1) (Nat.le_of_ble_eq_true rfl)
  rw [lg_entry_eq]
  generalize (lg_sl ([.ref h0]) ++ List.replicate (1 - (lg_sl ([.ref h0])).length) Slot.unset).toArray = ls at hl ⊢
  have hl : lv_has ls 1 [(0, .ref h0)] := hl
  have inX0 : ∀ w ∈ u_ws RX0 TX0 20, w ∈ wsX9_principal := by decide +kernel
  have inX9 : ∀ w ∈ u_ws RX9 TX9 9, w ∈ wsX9_principal := by decide +kernel
  refine lv_aload_n hx hb dX9_principal_0 rfl (lv_at hl 0 rfl) ?_
  refine va_get (D := D) (ci := 10) (v := .ref a0) (C := RX9) (T := TX9) (N := 9) hx hb hts inX9 hown hK hP 0 rfl rfl 5 (by decide) (hts (.fieldLink RX9 35 "EscrowDesk" "account" "LEscrowDesk$Account;") (by decide +kernel)) (fun _ h9 => h9) rfl dX9_principal_1 ?_
  refine va_getN (D := D) (ci := 4) (v := .int i8) (C := RX0) (T := TX0) (N := 20) hx hb hts inX0 hown hK hP 1 rfl rfl 8 (by decide) (hC.f (A := _) (a := RX9) (i := 93) (b := "EscrowDesk$Account") (n := "principal") (d := "I") (x := "EscrowDesk") (by decide +kernel)) (fun _ h9 => h9) rfl dX9_principal_4 ?_
  obtain ⟨hP9, hD9⟩ := PDq.sub (ws' := [(oX9 h0 b0 (nI nb) p0 u0 r0 a0 t0 s0 o0), (oX0 a0 p0 a1 a3 a4 a5 a6 i6 i7 i8 i9 i10 i11 i12 i13 i14 i15 i16 i17 i18 i19)]) hP hD [0, 1] (by decide) rfl
  refine W.widen (k := 0) (n := 0) (Nat.le_of_ble_eq_true rfl) (Nat.le_of_ble_eq_true rfl) ?_
  exact (W.iret (v := i8) hx hb hr (fun t ht hW => ⟨⟨i8, (), rfl, trivial, by rw [ht]; exact hP9, hD9⟩, hS.F ht⟩) hS.2.2 dX9_principal_7)

set_option maxHeartbeats 4000000 in
set_option maxRecDepth 100000 in
/-- interestPot -/
theorem s_interestPot (l : Launch) (D : va_G) (cA : Nat → ClassId) (sa : Nat → Nat) (h0 : Nat) (b0 : Nat) (nb : Nat) (p0 : Nat) (u0 : Nat) (r0 : Nat) (a0 : Nat) (t0 : Nat) (s0 : Nat) (o0 : Nat) (a1 : Nat) (a3 : Nat) (a4 : Nat) (a5 : Nat) (a6 : Nat) (i6 : Int32) (i7 : Int32) (i8 : Int32) (i12 : Int32) (i13 : Int32) (i14 : Int32) (i15 : Int32) (i16 : Int32) (i17 : Int32) (i18 : Int32) (i19 : Int32) (i9 : Int64) (i10 : Int64) (i11 : Int64) (sz : Nat) : Met l yX9_interestPot wsX9_interestPot ({ frames := 0, cells := 0, slots := 0, locals := 0 }) (va_Pc [.ref h0] (Wd D cA sa [(oX9 h0 b0 (nI nb) p0 u0 r0 a0 t0 s0 o0), (oX0 a0 p0 a1 a3 a4 a5 a6 i6 i7 i8 i9 i10 i11 i12 i13 i14 i15 i16 i17 i18 i19)] sz)) (va_Qi (fun (r : Int32) (_ : Unit) => True) (fun (_ : Unit) t => Wq D (va_A [(oX9 h0 b0 (nI nb) p0 u0 r0 a0 t0 s0 o0), (oX0 a0 p0 a1 a3 a4 a5 a6 i6 i7 i8 i9 i10 i11 i12 i13 i14 i15 i16 i17 i18 i19)] sz) [(oX9 h0 b0 (nI nb) p0 u0 r0 a0 t0 s0 o0), (oX0 a0 p0 a1 a3 a4 a5 a6 i6 i7 i8 i9 i10 i11 i12 i13 i14 i15 i16 i17 i18 i19)] t) (va_A [(oX9 h0 b0 (nI nb) p0 u0 r0 a0 t0 s0 o0), (oX0 a0 p0 a1 a3 a4 a5 a6 i6 i7 i8 i9 i10 i11 i12 i13 i14 i15 i16 i17 i18 i19)] sz)) 0 0 (va_A [(oX9 h0 b0 (nI nb) p0 u0 r0 a0 t0 s0 o0), (oX0 a0 p0 a1 a3 a4 a5 a6 i6 i7 i8 i9 i10 i11 i12 i13 i14 i15 i16 i17 i18 i19)] sz) := by
  refine Met.ofW (cc := cX9_interestPot) (maxL := 1) (ret := (some .int)) (by decide) rfl ?_
  intro p e s m args below meth c s₁ B hml hv
  obtain ⟨rfl, hsz, hP, hK, hD0, hC, hZ⟩ := hv
  have hx := B.exec
  have hb := B.bytes
  have hr := B.returns
  have hts := atoms_spec (ws := wsX9_interestPot) B.pre
  have hown : s.vm.findClass RX9 = some m.cls := findClass_of_methodNamed B.named
  have hlocks := B.notSynchronized
  subst hsz
  have hD := hD0.self (sz := s.heap.size)
  generalize hAe : va_A [(oX9 h0 b0 (nI nb) p0 u0 r0 a0 t0 s0 o0), (oX0 a0 p0 a1 a3 a4 a5 a6 i6 i7 i8 i9 i10 i11 i12 i13 i14 i15 i16 i17 i18 i19)] s.heap.size = A at hD hZ ⊢
  have hA : ∀ q : Nat, s.heap.size ≤ q → A q := fun q h => by rw [← hAe]; exact Or.inr h
  have hS : va_S A s.heap s.heap [] := va_S.rf
  have hP : va_P D vwCl [(oX9 h0 b0 (nI nb) p0 u0 r0 a0 t0 s0 o0), (oX0 a0 p0 a1 a3 a4 a5 a6 i6 i7 i8 i9 i10 i11 i12 i13 i14 i15 i16 i17 i18 i19)] s.heap := hP
  have hl := lv_entry ([.ref h0]) (n := 1) (Nat.le_of_ble_eq_true rfl)
  rw [lg_entry_eq]
  generalize (lg_sl ([.ref h0]) ++ List.replicate (1 - (lg_sl ([.ref h0])).length) Slot.unset).toArray = ls at hl ⊢
  have hl : lv_has ls 1 [(0, .ref h0)] := hl
  have inX0 : ∀ w ∈ u_ws RX0 TX0 20, w ∈ wsX9_interestPot := by decide +kernel
  have inX9 : ∀ w ∈ u_ws RX9 TX9 9, w ∈ wsX9_interestPot := by decide +kernel
  refine lv_aload_n hx hb dX9_interestPot_0 rfl (lv_at hl 0 rfl) ?_
  refine va_get (D := D) (ci := 10) (v := .ref a0) (C := RX9) (T := TX9) (N := 9) hx hb hts inX9 hown hK hP 0 rfl rfl 5 (by decide) (hts (.fieldLink RX9 35 "EscrowDesk" "account" "LEscrowDesk$Account;") (by decide +kernel)) (fun _ h9 => h9) rfl dX9_interestPot_1 ?_
  refine va_getN (D := D) (ci := 4) (v := .long i9) (C := RX0) (T := TX0) (N := 20) hx hb hts inX0 hown hK hP 1 rfl rfl 9 (by decide) (hC.f (A := _) (a := RX9) (i := 100) (b := "EscrowDesk$Account") (n := "interestPot") (d := "J") (x := "EscrowDesk") (by decide +kernel)) (fun _ h9 => h9) rfl dX9_interestPot_4 ?_
  refine lv_l2i (v := i9.toInt32) hx hb dX9_interestPot_7 rfl ?_
  refine lv_topi (fun yn1 eyn1 => ?_)
  obtain ⟨hP9, hD9⟩ := PDq.sub (ws' := [(oX9 h0 b0 (nI nb) p0 u0 r0 a0 t0 s0 o0), (oX0 a0 p0 a1 a3 a4 a5 a6 i6 i7 i8 i9 i10 i11 i12 i13 i14 i15 i16 i17 i18 i19)]) hP hD [0, 1] (by decide) rfl
  refine W.widen (k := 0) (n := 0) (Nat.le_of_ble_eq_true rfl) (Nat.le_of_ble_eq_true rfl) ?_
  exact (W.iret (v := yn1) hx hb hr (fun t ht hW => ⟨⟨yn1, (), rfl, trivial, by rw [ht]; exact hP9, hD9⟩, hS.F ht⟩) hS.2.2 dX9_interestPot_8)

set_option maxHeartbeats 4000000 in
set_option maxRecDepth 100000 in
/-- credited -/
theorem s_credited (l : Launch) (D : va_G) (cA : Nat → ClassId) (sa : Nat → Nat) (h0 : Nat) (b0 : Nat) (nb : Nat) (p0 : Nat) (u0 : Nat) (r0 : Nat) (a0 : Nat) (t0 : Nat) (s0 : Nat) (o0 : Nat) (a1 : Nat) (a3 : Nat) (a4 : Nat) (a5 : Nat) (a6 : Nat) (i6 : Int32) (i7 : Int32) (i8 : Int32) (i12 : Int32) (i13 : Int32) (i14 : Int32) (i15 : Int32) (i16 : Int32) (i17 : Int32) (i18 : Int32) (i19 : Int32) (i9 : Int64) (i10 : Int64) (i11 : Int64) (sz : Nat) : Met l yX9_credited wsX9_credited ({ frames := 0, cells := 0, slots := 0, locals := 0 }) (va_Pc [.ref h0] (Wd D cA sa [(oX9 h0 b0 (nI nb) p0 u0 r0 a0 t0 s0 o0), (oX0 a0 p0 a1 a3 a4 a5 a6 i6 i7 i8 i9 i10 i11 i12 i13 i14 i15 i16 i17 i18 i19)] sz)) (va_Qi (fun (r : Int32) (_ : Unit) => True) (fun (_ : Unit) t => Wq D (va_A [(oX9 h0 b0 (nI nb) p0 u0 r0 a0 t0 s0 o0), (oX0 a0 p0 a1 a3 a4 a5 a6 i6 i7 i8 i9 i10 i11 i12 i13 i14 i15 i16 i17 i18 i19)] sz) [(oX9 h0 b0 (nI nb) p0 u0 r0 a0 t0 s0 o0), (oX0 a0 p0 a1 a3 a4 a5 a6 i6 i7 i8 i9 i10 i11 i12 i13 i14 i15 i16 i17 i18 i19)] t) (va_A [(oX9 h0 b0 (nI nb) p0 u0 r0 a0 t0 s0 o0), (oX0 a0 p0 a1 a3 a4 a5 a6 i6 i7 i8 i9 i10 i11 i12 i13 i14 i15 i16 i17 i18 i19)] sz)) 0 0 (va_A [(oX9 h0 b0 (nI nb) p0 u0 r0 a0 t0 s0 o0), (oX0 a0 p0 a1 a3 a4 a5 a6 i6 i7 i8 i9 i10 i11 i12 i13 i14 i15 i16 i17 i18 i19)] sz) := by
  refine Met.ofW (cc := cX9_credited) (maxL := 1) (ret := (some .int)) (by decide) rfl ?_
  intro p e s m args below meth c s₁ B hml hv
  obtain ⟨rfl, hsz, hP, hK, hD0, hC, hZ⟩ := hv
  have hx := B.exec
  have hb := B.bytes
  have hr := B.returns
  have hts := atoms_spec (ws := wsX9_credited) B.pre
  have hown : s.vm.findClass RX9 = some m.cls := findClass_of_methodNamed B.named
  have hlocks := B.notSynchronized
  subst hsz
  have hD := hD0.self (sz := s.heap.size)
  generalize hAe : va_A [(oX9 h0 b0 (nI nb) p0 u0 r0 a0 t0 s0 o0), (oX0 a0 p0 a1 a3 a4 a5 a6 i6 i7 i8 i9 i10 i11 i12 i13 i14 i15 i16 i17 i18 i19)] s.heap.size = A at hD hZ ⊢
  have hA : ∀ q : Nat, s.heap.size ≤ q → A q := fun q h => by rw [← hAe]; exact Or.inr h
  have hS : va_S A s.heap s.heap [] := va_S.rf
  have hP : va_P D vwCl [(oX9 h0 b0 (nI nb) p0 u0 r0 a0 t0 s0 o0), (oX0 a0 p0 a1 a3 a4 a5 a6 i6 i7 i8 i9 i10 i11 i12 i13 i14 i15 i16 i17 i18 i19)] s.heap := hP
  have hl := lv_entry ([.ref h0]) (n := 1) (Nat.le_of_ble_eq_true rfl)
  rw [lg_entry_eq]
  generalize (lg_sl ([.ref h0]) ++ List.replicate (1 - (lg_sl ([.ref h0])).length) Slot.unset).toArray = ls at hl ⊢
  have hl : lv_has ls 1 [(0, .ref h0)] := hl
  have inX0 : ∀ w ∈ u_ws RX0 TX0 20, w ∈ wsX9_credited := by decide +kernel
  have inX9 : ∀ w ∈ u_ws RX9 TX9 9, w ∈ wsX9_credited := by decide +kernel
  refine lv_aload_n hx hb dX9_credited_0 rfl (lv_at hl 0 rfl) ?_
  refine va_get (D := D) (ci := 10) (v := .ref a0) (C := RX9) (T := TX9) (N := 9) hx hb hts inX9 hown hK hP 0 rfl rfl 5 (by decide) (hts (.fieldLink RX9 35 "EscrowDesk" "account" "LEscrowDesk$Account;") (by decide +kernel)) (fun _ h9 => h9) rfl dX9_credited_1 ?_
  refine va_getN (D := D) (ci := 4) (v := .long i10) (C := RX0) (T := TX0) (N := 20) hx hb hts inX0 hown hK hP 1 rfl rfl 10 (by decide) (hC.f (A := _) (a := RX9) (i := 104) (b := "EscrowDesk$Account") (n := "credited") (d := "J") (x := "EscrowDesk") (by decide +kernel)) (fun _ h9 => h9) rfl dX9_credited_4 ?_
  refine lv_l2i (v := i10.toInt32) hx hb dX9_credited_7 rfl ?_
  refine lv_topi (fun yn1 eyn1 => ?_)
  obtain ⟨hP9, hD9⟩ := PDq.sub (ws' := [(oX9 h0 b0 (nI nb) p0 u0 r0 a0 t0 s0 o0), (oX0 a0 p0 a1 a3 a4 a5 a6 i6 i7 i8 i9 i10 i11 i12 i13 i14 i15 i16 i17 i18 i19)]) hP hD [0, 1] (by decide) rfl
  refine W.widen (k := 0) (n := 0) (Nat.le_of_ble_eq_true rfl) (Nat.le_of_ble_eq_true rfl) ?_
  exact (W.iret (v := yn1) hx hb hr (fun t ht hW => ⟨⟨yn1, (), rfl, trivial, by rw [ht]; exact hP9, hD9⟩, hS.F ht⟩) hS.2.2 dX9_credited_8)

set_option maxHeartbeats 4000000 in
set_option maxRecDepth 100000 in
/-- accruedParts -/
theorem s_accruedParts (l : Launch) (D : va_G) (cA : Nat → ClassId) (sa : Nat → Nat) (h0 : Nat) (b0 : Nat) (nb : Nat) (p0 : Nat) (u0 : Nat) (r0 : Nat) (a0 : Nat) (t0 : Nat) (s0 : Nat) (o0 : Nat) (a1 : Nat) (a3 : Nat) (a4 : Nat) (a5 : Nat) (a6 : Nat) (i6 : Int32) (i7 : Int32) (i8 : Int32) (i12 : Int32) (i13 : Int32) (i14 : Int32) (i15 : Int32) (i16 : Int32) (i17 : Int32) (i18 : Int32) (i19 : Int32) (i9 : Int64) (i10 : Int64) (i11 : Int64) (sz : Nat) : Met l yX9_accruedParts wsX9_accruedParts ({ frames := 0, cells := 0, slots := 0, locals := 0 }) (va_Pc [.ref h0] (Wd D cA sa [(oX9 h0 b0 (nI nb) p0 u0 r0 a0 t0 s0 o0), (oX0 a0 p0 a1 a3 a4 a5 a6 i6 i7 i8 i9 i10 i11 i12 i13 i14 i15 i16 i17 i18 i19)] sz)) (va_Ql (fun (r : Int64) (_ : Unit) => True) (fun (_ : Unit) t => Wq D (va_A [(oX9 h0 b0 (nI nb) p0 u0 r0 a0 t0 s0 o0), (oX0 a0 p0 a1 a3 a4 a5 a6 i6 i7 i8 i9 i10 i11 i12 i13 i14 i15 i16 i17 i18 i19)] sz) [(oX9 h0 b0 (nI nb) p0 u0 r0 a0 t0 s0 o0), (oX0 a0 p0 a1 a3 a4 a5 a6 i6 i7 i8 i9 i10 i11 i12 i13 i14 i15 i16 i17 i18 i19)] t) (va_A [(oX9 h0 b0 (nI nb) p0 u0 r0 a0 t0 s0 o0), (oX0 a0 p0 a1 a3 a4 a5 a6 i6 i7 i8 i9 i10 i11 i12 i13 i14 i15 i16 i17 i18 i19)] sz)) 0 0 (va_A [(oX9 h0 b0 (nI nb) p0 u0 r0 a0 t0 s0 o0), (oX0 a0 p0 a1 a3 a4 a5 a6 i6 i7 i8 i9 i10 i11 i12 i13 i14 i15 i16 i17 i18 i19)] sz) := by
  refine Met.ofW (cc := cX9_accruedParts) (maxL := 1) (ret := (some .long)) (by decide) rfl ?_
  intro p e s m args below meth c s₁ B hml hv
  obtain ⟨rfl, hsz, hP, hK, hD0, hC, hZ⟩ := hv
  have hx := B.exec
  have hb := B.bytes
  have hr := B.returns
  have hts := atoms_spec (ws := wsX9_accruedParts) B.pre
  have hown : s.vm.findClass RX9 = some m.cls := findClass_of_methodNamed B.named
  have hlocks := B.notSynchronized
  subst hsz
  have hD := hD0.self (sz := s.heap.size)
  generalize hAe : va_A [(oX9 h0 b0 (nI nb) p0 u0 r0 a0 t0 s0 o0), (oX0 a0 p0 a1 a3 a4 a5 a6 i6 i7 i8 i9 i10 i11 i12 i13 i14 i15 i16 i17 i18 i19)] s.heap.size = A at hD hZ ⊢
  have hA : ∀ q : Nat, s.heap.size ≤ q → A q := fun q h => by rw [← hAe]; exact Or.inr h
  have hS : va_S A s.heap s.heap [] := va_S.rf
  have hP : va_P D vwCl [(oX9 h0 b0 (nI nb) p0 u0 r0 a0 t0 s0 o0), (oX0 a0 p0 a1 a3 a4 a5 a6 i6 i7 i8 i9 i10 i11 i12 i13 i14 i15 i16 i17 i18 i19)] s.heap := hP
  have hl := lv_entry ([.ref h0]) (n := 1) (Nat.le_of_ble_eq_true rfl)
  rw [lg_entry_eq]
  generalize (lg_sl ([.ref h0]) ++ List.replicate (1 - (lg_sl ([.ref h0])).length) Slot.unset).toArray = ls at hl ⊢
  have hl : lv_has ls 1 [(0, .ref h0)] := hl
  have inX0 : ∀ w ∈ u_ws RX0 TX0 20, w ∈ wsX9_accruedParts := by decide +kernel
  have inX9 : ∀ w ∈ u_ws RX9 TX9 9, w ∈ wsX9_accruedParts := by decide +kernel
  refine lv_aload_n hx hb dX9_accruedParts_0 rfl (lv_at hl 0 rfl) ?_
  refine va_get (D := D) (ci := 10) (v := .ref a0) (C := RX9) (T := TX9) (N := 9) hx hb hts inX9 hown hK hP 0 rfl rfl 5 (by decide) (hts (.fieldLink RX9 35 "EscrowDesk" "account" "LEscrowDesk$Account;") (by decide +kernel)) (fun _ h9 => h9) rfl dX9_accruedParts_1 ?_
  refine va_getN (D := D) (ci := 4) (v := .long i11) (C := RX0) (T := TX0) (N := 20) hx hb hts inX0 hown hK hP 1 rfl rfl 11 (by decide) (hC.f (A := _) (a := RX9) (i := 107) (b := "EscrowDesk$Account") (n := "accruedParts") (d := "J") (x := "EscrowDesk") (by decide +kernel)) (fun _ h9 => h9) rfl dX9_accruedParts_4 ?_
  obtain ⟨hP9, hD9⟩ := PDq.sub (ws' := [(oX9 h0 b0 (nI nb) p0 u0 r0 a0 t0 s0 o0), (oX0 a0 p0 a1 a3 a4 a5 a6 i6 i7 i8 i9 i10 i11 i12 i13 i14 i15 i16 i17 i18 i19)]) hP hD [0, 1] (by decide) rfl
  refine W.widen (k := 0) (n := 0) (Nat.le_of_ble_eq_true rfl) (Nat.le_of_ble_eq_true rfl) ?_
  exact (W.lret (v := i11) hx hb hr (fun t ht hW => ⟨⟨i11, (), rfl, trivial, by rw [ht]; exact hP9, hD9⟩, hS.F ht⟩) hS.2.2 dX9_accruedParts_7)

set_option maxHeartbeats 4000000 in
set_option maxRecDepth 100000 in
/-- received -/
theorem s_received (l : Launch) (D : va_G) (cA : Nat → ClassId) (sa : Nat → Nat) (h0 : Nat) (b0 : Nat) (nb : Nat) (p0 : Nat) (u0 : Nat) (r0 : Nat) (a0 : Nat) (t0 : Nat) (s0 : Nat) (o0 : Nat) (a1 : Nat) (a3 : Nat) (a4 : Nat) (a5 : Nat) (a6 : Nat) (i6 : Int32) (i7 : Int32) (i8 : Int32) (i12 : Int32) (i13 : Int32) (i14 : Int32) (i15 : Int32) (i16 : Int32) (i17 : Int32) (i18 : Int32) (i19 : Int32) (i9 : Int64) (i10 : Int64) (i11 : Int64) (sz : Nat) : Met l yX9_received wsX9_received ({ frames := 0, cells := 0, slots := 0, locals := 0 }) (va_Pc [.ref h0] (Wd D cA sa [(oX9 h0 b0 (nI nb) p0 u0 r0 a0 t0 s0 o0), (oX0 a0 p0 a1 a3 a4 a5 a6 i6 i7 i8 i9 i10 i11 i12 i13 i14 i15 i16 i17 i18 i19)] sz)) (va_Qi (fun (r : Int32) (_ : Unit) => True) (fun (_ : Unit) t => Wq D (va_A [(oX9 h0 b0 (nI nb) p0 u0 r0 a0 t0 s0 o0), (oX0 a0 p0 a1 a3 a4 a5 a6 i6 i7 i8 i9 i10 i11 i12 i13 i14 i15 i16 i17 i18 i19)] sz) [(oX9 h0 b0 (nI nb) p0 u0 r0 a0 t0 s0 o0), (oX0 a0 p0 a1 a3 a4 a5 a6 i6 i7 i8 i9 i10 i11 i12 i13 i14 i15 i16 i17 i18 i19)] t) (va_A [(oX9 h0 b0 (nI nb) p0 u0 r0 a0 t0 s0 o0), (oX0 a0 p0 a1 a3 a4 a5 a6 i6 i7 i8 i9 i10 i11 i12 i13 i14 i15 i16 i17 i18 i19)] sz)) 0 0 (va_A [(oX9 h0 b0 (nI nb) p0 u0 r0 a0 t0 s0 o0), (oX0 a0 p0 a1 a3 a4 a5 a6 i6 i7 i8 i9 i10 i11 i12 i13 i14 i15 i16 i17 i18 i19)] sz) := by
  refine Met.ofW (cc := cX9_received) (maxL := 1) (ret := (some .int)) (by decide) rfl ?_
  intro p e s m args below meth c s₁ B hml hv
  obtain ⟨rfl, hsz, hP, hK, hD0, hC, hZ⟩ := hv
  have hx := B.exec
  have hb := B.bytes
  have hr := B.returns
  have hts := atoms_spec (ws := wsX9_received) B.pre
  have hown : s.vm.findClass RX9 = some m.cls := findClass_of_methodNamed B.named
  have hlocks := B.notSynchronized
  subst hsz
  have hD := hD0.self (sz := s.heap.size)
  generalize hAe : va_A [(oX9 h0 b0 (nI nb) p0 u0 r0 a0 t0 s0 o0), (oX0 a0 p0 a1 a3 a4 a5 a6 i6 i7 i8 i9 i10 i11 i12 i13 i14 i15 i16 i17 i18 i19)] s.heap.size = A at hD hZ ⊢
  have hA : ∀ q : Nat, s.heap.size ≤ q → A q := fun q h => by rw [← hAe]; exact Or.inr h
  have hS : va_S A s.heap s.heap [] := va_S.rf
  have hP : va_P D vwCl [(oX9 h0 b0 (nI nb) p0 u0 r0 a0 t0 s0 o0), (oX0 a0 p0 a1 a3 a4 a5 a6 i6 i7 i8 i9 i10 i11 i12 i13 i14 i15 i16 i17 i18 i19)] s.heap := hP
  have hl := lv_entry ([.ref h0]) (n := 1) (Nat.le_of_ble_eq_true rfl)
  rw [lg_entry_eq]
  generalize (lg_sl ([.ref h0]) ++ List.replicate (1 - (lg_sl ([.ref h0])).length) Slot.unset).toArray = ls at hl ⊢
  have hl : lv_has ls 1 [(0, .ref h0)] := hl
  have inX0 : ∀ w ∈ u_ws RX0 TX0 20, w ∈ wsX9_received := by decide +kernel
  have inX9 : ∀ w ∈ u_ws RX9 TX9 9, w ∈ wsX9_received := by decide +kernel
  refine lv_aload_n hx hb dX9_received_0 rfl (lv_at hl 0 rfl) ?_
  refine va_get (D := D) (ci := 10) (v := .ref a0) (C := RX9) (T := TX9) (N := 9) hx hb hts inX9 hown hK hP 0 rfl rfl 5 (by decide) (hts (.fieldLink RX9 35 "EscrowDesk" "account" "LEscrowDesk$Account;") (by decide +kernel)) (fun _ h9 => h9) rfl dX9_received_1 ?_
  refine va_getN (D := D) (ci := 4) (v := .int i12) (C := RX0) (T := TX0) (N := 20) hx hb hts inX0 hown hK hP 1 rfl rfl 12 (by decide) (hC.f (A := _) (a := RX9) (i := 110) (b := "EscrowDesk$Account") (n := "received") (d := "I") (x := "EscrowDesk") (by decide +kernel)) (fun _ h9 => h9) rfl dX9_received_4 ?_
  obtain ⟨hP9, hD9⟩ := PDq.sub (ws' := [(oX9 h0 b0 (nI nb) p0 u0 r0 a0 t0 s0 o0), (oX0 a0 p0 a1 a3 a4 a5 a6 i6 i7 i8 i9 i10 i11 i12 i13 i14 i15 i16 i17 i18 i19)]) hP hD [0, 1] (by decide) rfl
  refine W.widen (k := 0) (n := 0) (Nat.le_of_ble_eq_true rfl) (Nat.le_of_ble_eq_true rfl) ?_
  exact (W.iret (v := i12) hx hb hr (fun t ht hW => ⟨⟨i12, (), rfl, trivial, by rw [ht]; exact hP9, hD9⟩, hS.F ht⟩) hS.2.2 dX9_received_7)

set_option maxHeartbeats 4000000 in
set_option maxRecDepth 100000 in
/-- fees -/
theorem s_fees (l : Launch) (D : va_G) (cA : Nat → ClassId) (sa : Nat → Nat) (h0 : Nat) (b0 : Nat) (nb : Nat) (p0 : Nat) (u0 : Nat) (r0 : Nat) (a0 : Nat) (t0 : Nat) (s0 : Nat) (o0 : Nat) (a1 : Nat) (a3 : Nat) (a4 : Nat) (a5 : Nat) (a6 : Nat) (i6 : Int32) (i7 : Int32) (i8 : Int32) (i12 : Int32) (i13 : Int32) (i14 : Int32) (i15 : Int32) (i16 : Int32) (i17 : Int32) (i18 : Int32) (i19 : Int32) (i9 : Int64) (i10 : Int64) (i11 : Int64) (sz : Nat) : Met l yX9_fees wsX9_fees ({ frames := 0, cells := 0, slots := 0, locals := 0 }) (va_Pc [.ref h0] (Wd D cA sa [(oX9 h0 b0 (nI nb) p0 u0 r0 a0 t0 s0 o0), (oX0 a0 p0 a1 a3 a4 a5 a6 i6 i7 i8 i9 i10 i11 i12 i13 i14 i15 i16 i17 i18 i19)] sz)) (va_Qi (fun (r : Int32) (_ : Unit) => True) (fun (_ : Unit) t => Wq D (va_A [(oX9 h0 b0 (nI nb) p0 u0 r0 a0 t0 s0 o0), (oX0 a0 p0 a1 a3 a4 a5 a6 i6 i7 i8 i9 i10 i11 i12 i13 i14 i15 i16 i17 i18 i19)] sz) [(oX9 h0 b0 (nI nb) p0 u0 r0 a0 t0 s0 o0), (oX0 a0 p0 a1 a3 a4 a5 a6 i6 i7 i8 i9 i10 i11 i12 i13 i14 i15 i16 i17 i18 i19)] t) (va_A [(oX9 h0 b0 (nI nb) p0 u0 r0 a0 t0 s0 o0), (oX0 a0 p0 a1 a3 a4 a5 a6 i6 i7 i8 i9 i10 i11 i12 i13 i14 i15 i16 i17 i18 i19)] sz)) 0 0 (va_A [(oX9 h0 b0 (nI nb) p0 u0 r0 a0 t0 s0 o0), (oX0 a0 p0 a1 a3 a4 a5 a6 i6 i7 i8 i9 i10 i11 i12 i13 i14 i15 i16 i17 i18 i19)] sz) := by
  refine Met.ofW (cc := cX9_fees) (maxL := 1) (ret := (some .int)) (by decide) rfl ?_
  intro p e s m args below meth c s₁ B hml hv
  obtain ⟨rfl, hsz, hP, hK, hD0, hC, hZ⟩ := hv
  have hx := B.exec
  have hb := B.bytes
  have hr := B.returns
  have hts := atoms_spec (ws := wsX9_fees) B.pre
  have hown : s.vm.findClass RX9 = some m.cls := findClass_of_methodNamed B.named
  have hlocks := B.notSynchronized
  subst hsz
  have hD := hD0.self (sz := s.heap.size)
  generalize hAe : va_A [(oX9 h0 b0 (nI nb) p0 u0 r0 a0 t0 s0 o0), (oX0 a0 p0 a1 a3 a4 a5 a6 i6 i7 i8 i9 i10 i11 i12 i13 i14 i15 i16 i17 i18 i19)] s.heap.size = A at hD hZ ⊢
  have hA : ∀ q : Nat, s.heap.size ≤ q → A q := fun q h => by rw [← hAe]; exact Or.inr h
  have hS : va_S A s.heap s.heap [] := va_S.rf
  have hP : va_P D vwCl [(oX9 h0 b0 (nI nb) p0 u0 r0 a0 t0 s0 o0), (oX0 a0 p0 a1 a3 a4 a5 a6 i6 i7 i8 i9 i10 i11 i12 i13 i14 i15 i16 i17 i18 i19)] s.heap := hP
  have hl := lv_entry ([.ref h0]) (n := 1) (Nat.le_of_ble_eq_true rfl)
  rw [lg_entry_eq]
  generalize (lg_sl ([.ref h0]) ++ List.replicate (1 - (lg_sl ([.ref h0])).length) Slot.unset).toArray = ls at hl ⊢
  have hl : lv_has ls 1 [(0, .ref h0)] := hl
  have inX0 : ∀ w ∈ u_ws RX0 TX0 20, w ∈ wsX9_fees := by decide +kernel
  have inX9 : ∀ w ∈ u_ws RX9 TX9 9, w ∈ wsX9_fees := by decide +kernel
  refine lv_aload_n hx hb dX9_fees_0 rfl (lv_at hl 0 rfl) ?_
  refine va_get (D := D) (ci := 10) (v := .ref a0) (C := RX9) (T := TX9) (N := 9) hx hb hts inX9 hown hK hP 0 rfl rfl 5 (by decide) (hts (.fieldLink RX9 35 "EscrowDesk" "account" "LEscrowDesk$Account;") (by decide +kernel)) (fun _ h9 => h9) rfl dX9_fees_1 ?_
  refine va_getN (D := D) (ci := 4) (v := .int i13) (C := RX0) (T := TX0) (N := 20) hx hb hts inX0 hown hK hP 1 rfl rfl 13 (by decide) (hC.f (A := _) (a := RX9) (i := 113) (b := "EscrowDesk$Account") (n := "fees") (d := "I") (x := "EscrowDesk") (by decide +kernel)) (fun _ h9 => h9) rfl dX9_fees_4 ?_
  obtain ⟨hP9, hD9⟩ := PDq.sub (ws' := [(oX9 h0 b0 (nI nb) p0 u0 r0 a0 t0 s0 o0), (oX0 a0 p0 a1 a3 a4 a5 a6 i6 i7 i8 i9 i10 i11 i12 i13 i14 i15 i16 i17 i18 i19)]) hP hD [0, 1] (by decide) rfl
  refine W.widen (k := 0) (n := 0) (Nat.le_of_ble_eq_true rfl) (Nat.le_of_ble_eq_true rfl) ?_
  exact (W.iret (v := i13) hx hb hr (fun t ht hW => ⟨⟨i13, (), rfl, trivial, by rw [ht]; exact hP9, hD9⟩, hS.F ht⟩) hS.2.2 dX9_fees_7)

set_option maxHeartbeats 4000000 in
set_option maxRecDepth 100000 in
/-- refunded -/
theorem s_refunded (l : Launch) (D : va_G) (cA : Nat → ClassId) (sa : Nat → Nat) (h0 : Nat) (b0 : Nat) (nb : Nat) (p0 : Nat) (u0 : Nat) (r0 : Nat) (a0 : Nat) (t0 : Nat) (s0 : Nat) (o0 : Nat) (a1 : Nat) (a3 : Nat) (a4 : Nat) (a5 : Nat) (a6 : Nat) (i6 : Int32) (i7 : Int32) (i8 : Int32) (i12 : Int32) (i13 : Int32) (i14 : Int32) (i15 : Int32) (i16 : Int32) (i17 : Int32) (i18 : Int32) (i19 : Int32) (i9 : Int64) (i10 : Int64) (i11 : Int64) (sz : Nat) : Met l yX9_refunded wsX9_refunded ({ frames := 0, cells := 0, slots := 0, locals := 0 }) (va_Pc [.ref h0] (Wd D cA sa [(oX9 h0 b0 (nI nb) p0 u0 r0 a0 t0 s0 o0), (oX0 a0 p0 a1 a3 a4 a5 a6 i6 i7 i8 i9 i10 i11 i12 i13 i14 i15 i16 i17 i18 i19)] sz)) (va_Qi (fun (r : Int32) (_ : Unit) => True) (fun (_ : Unit) t => Wq D (va_A [(oX9 h0 b0 (nI nb) p0 u0 r0 a0 t0 s0 o0), (oX0 a0 p0 a1 a3 a4 a5 a6 i6 i7 i8 i9 i10 i11 i12 i13 i14 i15 i16 i17 i18 i19)] sz) [(oX9 h0 b0 (nI nb) p0 u0 r0 a0 t0 s0 o0), (oX0 a0 p0 a1 a3 a4 a5 a6 i6 i7 i8 i9 i10 i11 i12 i13 i14 i15 i16 i17 i18 i19)] t) (va_A [(oX9 h0 b0 (nI nb) p0 u0 r0 a0 t0 s0 o0), (oX0 a0 p0 a1 a3 a4 a5 a6 i6 i7 i8 i9 i10 i11 i12 i13 i14 i15 i16 i17 i18 i19)] sz)) 0 0 (va_A [(oX9 h0 b0 (nI nb) p0 u0 r0 a0 t0 s0 o0), (oX0 a0 p0 a1 a3 a4 a5 a6 i6 i7 i8 i9 i10 i11 i12 i13 i14 i15 i16 i17 i18 i19)] sz) := by
  refine Met.ofW (cc := cX9_refunded) (maxL := 1) (ret := (some .int)) (by decide) rfl ?_
  intro p e s m args below meth c s₁ B hml hv
  obtain ⟨rfl, hsz, hP, hK, hD0, hC, hZ⟩ := hv
  have hx := B.exec
  have hb := B.bytes
  have hr := B.returns
  have hts := atoms_spec (ws := wsX9_refunded) B.pre
  have hown : s.vm.findClass RX9 = some m.cls := findClass_of_methodNamed B.named
  have hlocks := B.notSynchronized
  subst hsz
  have hD := hD0.self (sz := s.heap.size)
  generalize hAe : va_A [(oX9 h0 b0 (nI nb) p0 u0 r0 a0 t0 s0 o0), (oX0 a0 p0 a1 a3 a4 a5 a6 i6 i7 i8 i9 i10 i11 i12 i13 i14 i15 i16 i17 i18 i19)] s.heap.size = A at hD hZ ⊢
  have hA : ∀ q : Nat, s.heap.size ≤ q → A q := fun q h => by rw [← hAe]; exact Or.inr h
  have hS : va_S A s.heap s.heap [] := va_S.rf
  have hP : va_P D vwCl [(oX9 h0 b0 (nI nb) p0 u0 r0 a0 t0 s0 o0), (oX0 a0 p0 a1 a3 a4 a5 a6 i6 i7 i8 i9 i10 i11 i12 i13 i14 i15 i16 i17 i18 i19)] s.heap := hP
  have hl := lv_entry ([.ref h0]) (n := 1) (Nat.le_of_ble_eq_true rfl)
  rw [lg_entry_eq]
  generalize (lg_sl ([.ref h0]) ++ List.replicate (1 - (lg_sl ([.ref h0])).length) Slot.unset).toArray = ls at hl ⊢
  have hl : lv_has ls 1 [(0, .ref h0)] := hl
  have inX0 : ∀ w ∈ u_ws RX0 TX0 20, w ∈ wsX9_refunded := by decide +kernel
  have inX9 : ∀ w ∈ u_ws RX9 TX9 9, w ∈ wsX9_refunded := by decide +kernel
  refine lv_aload_n hx hb dX9_refunded_0 rfl (lv_at hl 0 rfl) ?_
  refine va_get (D := D) (ci := 10) (v := .ref a0) (C := RX9) (T := TX9) (N := 9) hx hb hts inX9 hown hK hP 0 rfl rfl 5 (by decide) (hts (.fieldLink RX9 35 "EscrowDesk" "account" "LEscrowDesk$Account;") (by decide +kernel)) (fun _ h9 => h9) rfl dX9_refunded_1 ?_
  refine va_getN (D := D) (ci := 4) (v := .int i14) (C := RX0) (T := TX0) (N := 20) hx hb hts inX0 hown hK hP 1 rfl rfl 14 (by decide) (hC.f (A := _) (a := RX9) (i := 116) (b := "EscrowDesk$Account") (n := "refunded") (d := "I") (x := "EscrowDesk") (by decide +kernel)) (fun _ h9 => h9) rfl dX9_refunded_4 ?_
  obtain ⟨hP9, hD9⟩ := PDq.sub (ws' := [(oX9 h0 b0 (nI nb) p0 u0 r0 a0 t0 s0 o0), (oX0 a0 p0 a1 a3 a4 a5 a6 i6 i7 i8 i9 i10 i11 i12 i13 i14 i15 i16 i17 i18 i19)]) hP hD [0, 1] (by decide) rfl
  refine W.widen (k := 0) (n := 0) (Nat.le_of_ble_eq_true rfl) (Nat.le_of_ble_eq_true rfl) ?_
  exact (W.iret (v := i14) hx hb hr (fun t ht hW => ⟨⟨i14, (), rfl, trivial, by rw [ht]; exact hP9, hD9⟩, hS.F ht⟩) hS.2.2 dX9_refunded_7)

set_option maxHeartbeats 4000000 in
set_option maxRecDepth 100000 in
/-- milestones -/
theorem s_milestones (l : Launch) (D : va_G) (cA : Nat → ClassId) (sa : Nat → Nat) (h0 : Nat) (b0 : Nat) (nb : Nat) (p0 : Nat) (u0 : Nat) (r0 : Nat) (a0 : Nat) (t0 : Nat) (s0 : Nat) (o0 : Nat) (p1 : Nat) (p2 : Nat) (p3 : Nat) (p4 : Nat) (p5 : Nat) (p6 : Nat) (p7 : Nat) (p8 : Nat) (p9 : Nat) (cn : Nat) (pq : Nat) (nd : Nat) (sc : Nat) (pr : Int32) (pb : Int32) (pe : Int32) (pg : Int32) (sz : Nat) : Met l yX9_milestones wsX9_milestones ({ frames := 0, cells := 0, slots := 0, locals := 0 }) (va_Pc [.ref h0] (Wd D cA sa [(oX9 h0 b0 (nI nb) p0 u0 r0 a0 t0 s0 o0), (oX3 p0 pr pb pe pg p1 (nI nd) p2 p3 p4 p5 (nI cn) p6 (nI pq) p7 p8 p9 (nI sc))] sz)) (va_Qi (fun (r : Int32) (_ : Unit) => r = (nI cn)) (fun (_ : Unit) t => Wq D (va_A [(oX9 h0 b0 (nI nb) p0 u0 r0 a0 t0 s0 o0), (oX3 p0 pr pb pe pg p1 (nI nd) p2 p3 p4 p5 (nI cn) p6 (nI pq) p7 p8 p9 (nI sc))] sz) [(oX9 h0 b0 (nI nb) p0 u0 r0 a0 t0 s0 o0), (oX3 p0 pr pb pe pg p1 (nI nd) p2 p3 p4 p5 (nI cn) p6 (nI pq) p7 p8 p9 (nI sc))] t) (va_A [(oX9 h0 b0 (nI nb) p0 u0 r0 a0 t0 s0 o0), (oX3 p0 pr pb pe pg p1 (nI nd) p2 p3 p4 p5 (nI cn) p6 (nI pq) p7 p8 p9 (nI sc))] sz)) 0 0 (va_A [(oX9 h0 b0 (nI nb) p0 u0 r0 a0 t0 s0 o0), (oX3 p0 pr pb pe pg p1 (nI nd) p2 p3 p4 p5 (nI cn) p6 (nI pq) p7 p8 p9 (nI sc))] sz) := by
  refine Met.ofW (cc := cX9_milestones) (maxL := 1) (ret := (some .int)) (by decide) rfl ?_
  intro p e s m args below meth c s₁ B hml hv
  obtain ⟨rfl, hsz, hP, hK, hD0, hC, hZ⟩ := hv
  have hx := B.exec
  have hb := B.bytes
  have hr := B.returns
  have hts := atoms_spec (ws := wsX9_milestones) B.pre
  have hown : s.vm.findClass RX9 = some m.cls := findClass_of_methodNamed B.named
  have hlocks := B.notSynchronized
  subst hsz
  have hD := hD0.self (sz := s.heap.size)
  generalize hAe : va_A [(oX9 h0 b0 (nI nb) p0 u0 r0 a0 t0 s0 o0), (oX3 p0 pr pb pe pg p1 (nI nd) p2 p3 p4 p5 (nI cn) p6 (nI pq) p7 p8 p9 (nI sc))] s.heap.size = A at hD hZ ⊢
  have hA : ∀ q : Nat, s.heap.size ≤ q → A q := fun q h => by rw [← hAe]; exact Or.inr h
  have hS : va_S A s.heap s.heap [] := va_S.rf
  have hP : va_P D vwCl [(oX9 h0 b0 (nI nb) p0 u0 r0 a0 t0 s0 o0), (oX3 p0 pr pb pe pg p1 (nI nd) p2 p3 p4 p5 (nI cn) p6 (nI pq) p7 p8 p9 (nI sc))] s.heap := hP
  have hl := lv_entry ([.ref h0]) (n := 1) (Nat.le_of_ble_eq_true rfl)
  rw [lg_entry_eq]
  generalize (lg_sl ([.ref h0]) ++ List.replicate (1 - (lg_sl ([.ref h0])).length) Slot.unset).toArray = ls at hl ⊢
  have hl : lv_has ls 1 [(0, .ref h0)] := hl
  have inX3 : ∀ w ∈ u_ws RX3 TX3 17, w ∈ wsX9_milestones := by decide +kernel
  have inX9 : ∀ w ∈ u_ws RX9 TX9 9, w ∈ wsX9_milestones := by decide +kernel
  refine lv_aload_n hx hb dX9_milestones_0 rfl (lv_at hl 0 rfl) ?_
  refine va_get (D := D) (ci := 10) (v := .ref p0) (C := RX9) (T := TX9) (N := 9) hx hb hts inX9 hown hK hP 0 rfl rfl 2 (by decide) (hts (.fieldLink RX9 16 "EscrowDesk" "plan" "LEscrowDesk$Plan;") (by decide +kernel)) (fun _ h9 => h9) rfl dX9_milestones_1 ?_
  refine va_getN (D := D) (ci := 7) (v := .int (nI cn)) (C := RX3) (T := TX3) (N := 17) hx hb hts inX3 hown hK hP 1 rfl rfl 10 (by decide) (hC.f (A := _) (a := RX9) (i := 78) (b := "EscrowDesk$Plan") (n := "milestoneCount") (d := "I") (x := "EscrowDesk") (by decide +kernel)) (fun _ h9 => h9) rfl dX9_milestones_4 ?_
  obtain ⟨hP9, hD9⟩ := PDq.sub (ws' := [(oX9 h0 b0 (nI nb) p0 u0 r0 a0 t0 s0 o0), (oX3 p0 pr pb pe pg p1 (nI nd) p2 p3 p4 p5 (nI cn) p6 (nI pq) p7 p8 p9 (nI sc))]) hP hD [0, 1] (by decide) rfl
  refine W.widen (k := 0) (n := 0) (Nat.le_of_ble_eq_true rfl) (Nat.le_of_ble_eq_true rfl) ?_
  exact (W.iret (v := (nI cn)) hx hb hr (fun t ht hW => ⟨⟨(nI cn), (), rfl, rfl, by rw [ht]; exact hP9, hD9⟩, hS.F ht⟩) hS.2.2 dX9_milestones_7)

set_option maxHeartbeats 4000000 in
set_option maxRecDepth 100000 in
/-- proofs -/
theorem s_proofs (l : Launch) (D : va_G) (cA : Nat → ClassId) (sa : Nat → Nat) (h0 : Nat) (b0 : Nat) (nb : Nat) (p0 : Nat) (u0 : Nat) (r0 : Nat) (a0 : Nat) (t0 : Nat) (s0 : Nat) (o0 : Nat) (p1 : Nat) (p2 : Nat) (p3 : Nat) (p4 : Nat) (p5 : Nat) (p6 : Nat) (p7 : Nat) (p8 : Nat) (p9 : Nat) (cn : Nat) (pq : Nat) (nd : Nat) (sc : Nat) (pr : Int32) (pb : Int32) (pe : Int32) (pg : Int32) (sz : Nat) : Met l yX9_proofs wsX9_proofs ({ frames := 0, cells := 0, slots := 0, locals := 0 }) (va_Pc [.ref h0] (Wd D cA sa [(oX9 h0 b0 (nI nb) p0 u0 r0 a0 t0 s0 o0), (oX3 p0 pr pb pe pg p1 (nI nd) p2 p3 p4 p5 (nI cn) p6 (nI pq) p7 p8 p9 (nI sc))] sz)) (va_Qi (fun (r : Int32) (_ : Unit) => r = (nI pq)) (fun (_ : Unit) t => Wq D (va_A [(oX9 h0 b0 (nI nb) p0 u0 r0 a0 t0 s0 o0), (oX3 p0 pr pb pe pg p1 (nI nd) p2 p3 p4 p5 (nI cn) p6 (nI pq) p7 p8 p9 (nI sc))] sz) [(oX9 h0 b0 (nI nb) p0 u0 r0 a0 t0 s0 o0), (oX3 p0 pr pb pe pg p1 (nI nd) p2 p3 p4 p5 (nI cn) p6 (nI pq) p7 p8 p9 (nI sc))] t) (va_A [(oX9 h0 b0 (nI nb) p0 u0 r0 a0 t0 s0 o0), (oX3 p0 pr pb pe pg p1 (nI nd) p2 p3 p4 p5 (nI cn) p6 (nI pq) p7 p8 p9 (nI sc))] sz)) 0 0 (va_A [(oX9 h0 b0 (nI nb) p0 u0 r0 a0 t0 s0 o0), (oX3 p0 pr pb pe pg p1 (nI nd) p2 p3 p4 p5 (nI cn) p6 (nI pq) p7 p8 p9 (nI sc))] sz) := by
  refine Met.ofW (cc := cX9_proofs) (maxL := 1) (ret := (some .int)) (by decide) rfl ?_
  intro p e s m args below meth c s₁ B hml hv
  obtain ⟨rfl, hsz, hP, hK, hD0, hC, hZ⟩ := hv
  have hx := B.exec
  have hb := B.bytes
  have hr := B.returns
  have hts := atoms_spec (ws := wsX9_proofs) B.pre
  have hown : s.vm.findClass RX9 = some m.cls := findClass_of_methodNamed B.named
  have hlocks := B.notSynchronized
  subst hsz
  have hD := hD0.self (sz := s.heap.size)
  generalize hAe : va_A [(oX9 h0 b0 (nI nb) p0 u0 r0 a0 t0 s0 o0), (oX3 p0 pr pb pe pg p1 (nI nd) p2 p3 p4 p5 (nI cn) p6 (nI pq) p7 p8 p9 (nI sc))] s.heap.size = A at hD hZ ⊢
  have hA : ∀ q : Nat, s.heap.size ≤ q → A q := fun q h => by rw [← hAe]; exact Or.inr h
  have hS : va_S A s.heap s.heap [] := va_S.rf
  have hP : va_P D vwCl [(oX9 h0 b0 (nI nb) p0 u0 r0 a0 t0 s0 o0), (oX3 p0 pr pb pe pg p1 (nI nd) p2 p3 p4 p5 (nI cn) p6 (nI pq) p7 p8 p9 (nI sc))] s.heap := hP
  have hl := lv_entry ([.ref h0]) (n := 1) (Nat.le_of_ble_eq_true rfl)
  rw [lg_entry_eq]
  generalize (lg_sl ([.ref h0]) ++ List.replicate (1 - (lg_sl ([.ref h0])).length) Slot.unset).toArray = ls at hl ⊢
  have hl : lv_has ls 1 [(0, .ref h0)] := hl
  have inX3 : ∀ w ∈ u_ws RX3 TX3 17, w ∈ wsX9_proofs := by decide +kernel
  have inX9 : ∀ w ∈ u_ws RX9 TX9 9, w ∈ wsX9_proofs := by decide +kernel
  refine lv_aload_n hx hb dX9_proofs_0 rfl (lv_at hl 0 rfl) ?_
  refine va_get (D := D) (ci := 10) (v := .ref p0) (C := RX9) (T := TX9) (N := 9) hx hb hts inX9 hown hK hP 0 rfl rfl 2 (by decide) (hts (.fieldLink RX9 16 "EscrowDesk" "plan" "LEscrowDesk$Plan;") (by decide +kernel)) (fun _ h9 => h9) rfl dX9_proofs_1 ?_
  refine va_getN (D := D) (ci := 7) (v := .int (nI pq)) (C := RX3) (T := TX3) (N := 17) hx hb hts inX3 hown hK hP 1 rfl rfl 12 (by decide) (hC.f (A := _) (a := RX9) (i := 147) (b := "EscrowDesk$Plan") (n := "proofCount") (d := "I") (x := "EscrowDesk") (by decide +kernel)) (fun _ h9 => h9) rfl dX9_proofs_4 ?_
  obtain ⟨hP9, hD9⟩ := PDq.sub (ws' := [(oX9 h0 b0 (nI nb) p0 u0 r0 a0 t0 s0 o0), (oX3 p0 pr pb pe pg p1 (nI nd) p2 p3 p4 p5 (nI cn) p6 (nI pq) p7 p8 p9 (nI sc))]) hP hD [0, 1] (by decide) rfl
  refine W.widen (k := 0) (n := 0) (Nat.le_of_ble_eq_true rfl) (Nat.le_of_ble_eq_true rfl) ?_
  exact (W.iret (v := (nI pq)) hx hb hr (fun t ht hW => ⟨⟨(nI pq), (), rfl, rfl, by rw [ht]; exact hP9, hD9⟩, hS.F ht⟩) hS.2.2 dX9_proofs_7)

set_option maxHeartbeats 4000000 in
set_option maxRecDepth 100000 in
/-- errorKind -/
theorem s_errorKind (l : Launch) (D : va_G) (cA : Nat → ClassId) (sa : Nat → Nat) (h0 : Nat) (b0 : Nat) (nb : Nat) (p0 : Nat) (u0 : Nat) (r0 : Nat) (a0 : Nat) (t0 : Nat) (s0 : Nat) (o0 : Nat) (r1 : Nat) (rp : Nat) (rt : Int32) (rk : Int32) (rs : Int32) (rn : Int32) (ek : Int32) (ep : Int32) (rl : Int64) (sz : Nat) : Met l yX9_errorKind wsX9_errorKind ({ frames := 0, cells := 0, slots := 0, locals := 0 }) (va_Pc [.ref h0] (Wd D cA sa [(oX9 h0 b0 (nI nb) p0 u0 r0 a0 t0 s0 o0), (oX4 r0 r1 rp rt rk rs rl rn ek ep)] sz)) (va_Qi (fun (r : Int32) (_ : Unit) => r = ek) (fun (_ : Unit) t => Wq D (va_A [(oX9 h0 b0 (nI nb) p0 u0 r0 a0 t0 s0 o0), (oX4 r0 r1 rp rt rk rs rl rn ek ep)] sz) [(oX9 h0 b0 (nI nb) p0 u0 r0 a0 t0 s0 o0), (oX4 r0 r1 rp rt rk rs rl rn ek ep)] t) (va_A [(oX9 h0 b0 (nI nb) p0 u0 r0 a0 t0 s0 o0), (oX4 r0 r1 rp rt rk rs rl rn ek ep)] sz)) 0 0 (va_A [(oX9 h0 b0 (nI nb) p0 u0 r0 a0 t0 s0 o0), (oX4 r0 r1 rp rt rk rs rl rn ek ep)] sz) := by
  refine Met.ofW (cc := cX9_errorKind) (maxL := 1) (ret := (some .int)) (by decide) rfl ?_
  intro p e s m args below meth c s₁ B hml hv
  obtain ⟨rfl, hsz, hP, hK, hD0, hC, hZ⟩ := hv
  have hx := B.exec
  have hb := B.bytes
  have hr := B.returns
  have hts := atoms_spec (ws := wsX9_errorKind) B.pre
  have hown : s.vm.findClass RX9 = some m.cls := findClass_of_methodNamed B.named
  have hlocks := B.notSynchronized
  subst hsz
  have hD := hD0.self (sz := s.heap.size)
  generalize hAe : va_A [(oX9 h0 b0 (nI nb) p0 u0 r0 a0 t0 s0 o0), (oX4 r0 r1 rp rt rk rs rl rn ek ep)] s.heap.size = A at hD hZ ⊢
  have hA : ∀ q : Nat, s.heap.size ≤ q → A q := fun q h => by rw [← hAe]; exact Or.inr h
  have hS : va_S A s.heap s.heap [] := va_S.rf
  have hP : va_P D vwCl [(oX9 h0 b0 (nI nb) p0 u0 r0 a0 t0 s0 o0), (oX4 r0 r1 rp rt rk rs rl rn ek ep)] s.heap := hP
  have hl := lv_entry ([.ref h0]) (n := 1) (Nat.le_of_ble_eq_true rfl)
  rw [lg_entry_eq]
  generalize (lg_sl ([.ref h0]) ++ List.replicate (1 - (lg_sl ([.ref h0])).length) Slot.unset).toArray = ls at hl ⊢
  have hl : lv_has ls 1 [(0, .ref h0)] := hl
  have inX4 : ∀ w ∈ u_ws RX4 TX4 9, w ∈ wsX9_errorKind := by decide +kernel
  have inX9 : ∀ w ∈ u_ws RX9 TX9 9, w ∈ wsX9_errorKind := by decide +kernel
  refine lv_aload_n hx hb dX9_errorKind_0 rfl (lv_at hl 0 rfl) ?_
  refine va_get (D := D) (ci := 10) (v := .ref r0) (C := RX9) (T := TX9) (N := 9) hx hb hts inX9 hown hK hP 0 rfl rfl 4 (by decide) (hts (.fieldLink RX9 28 "EscrowDesk" "reader" "LEscrowDesk$Reader;") (by decide +kernel)) (fun _ h9 => h9) rfl dX9_errorKind_1 ?_
  refine va_getN (D := D) (ci := 8) (v := .int ek) (C := RX4) (T := TX4) (N := 9) hx hb hts inX4 hown hK hP 1 rfl rfl 7 (by decide) (hC.f (A := _) (a := RX9) (i := 81) (b := "EscrowDesk$Reader") (n := "errorKind") (d := "I") (x := "EscrowDesk") (by decide +kernel)) (fun _ h9 => h9) rfl dX9_errorKind_4 ?_
  obtain ⟨hP9, hD9⟩ := PDq.sub (ws' := [(oX9 h0 b0 (nI nb) p0 u0 r0 a0 t0 s0 o0), (oX4 r0 r1 rp rt rk rs rl rn ek ep)]) hP hD [0, 1] (by decide) rfl
  refine W.widen (k := 0) (n := 0) (Nat.le_of_ble_eq_true rfl) (Nat.le_of_ble_eq_true rfl) ?_
  exact (W.iret (v := ek) hx hb hr (fun t ht hW => ⟨⟨ek, (), rfl, rfl, by rw [ht]; exact hP9, hD9⟩, hS.F ht⟩) hS.2.2 dX9_errorKind_7)

set_option maxHeartbeats 4000000 in
set_option maxRecDepth 100000 in
/-- errorPosition -/
theorem s_errorPosition (l : Launch) (D : va_G) (cA : Nat → ClassId) (sa : Nat → Nat) (h0 : Nat) (b0 : Nat) (nb : Nat) (p0 : Nat) (u0 : Nat) (r0 : Nat) (a0 : Nat) (t0 : Nat) (s0 : Nat) (o0 : Nat) (r1 : Nat) (rp : Nat) (rt : Int32) (rk : Int32) (rs : Int32) (rn : Int32) (ek : Int32) (ep : Int32) (rl : Int64) (sz : Nat) : Met l yX9_errorPosition wsX9_errorPosition ({ frames := 0, cells := 0, slots := 0, locals := 0 }) (va_Pc [.ref h0] (Wd D cA sa [(oX9 h0 b0 (nI nb) p0 u0 r0 a0 t0 s0 o0), (oX4 r0 r1 rp rt rk rs rl rn ek ep)] sz)) (va_Qi (fun (r : Int32) (_ : Unit) => r = ep) (fun (_ : Unit) t => Wq D (va_A [(oX9 h0 b0 (nI nb) p0 u0 r0 a0 t0 s0 o0), (oX4 r0 r1 rp rt rk rs rl rn ek ep)] sz) [(oX9 h0 b0 (nI nb) p0 u0 r0 a0 t0 s0 o0), (oX4 r0 r1 rp rt rk rs rl rn ek ep)] t) (va_A [(oX9 h0 b0 (nI nb) p0 u0 r0 a0 t0 s0 o0), (oX4 r0 r1 rp rt rk rs rl rn ek ep)] sz)) 0 0 (va_A [(oX9 h0 b0 (nI nb) p0 u0 r0 a0 t0 s0 o0), (oX4 r0 r1 rp rt rk rs rl rn ek ep)] sz) := by
  refine Met.ofW (cc := cX9_errorPosition) (maxL := 1) (ret := (some .int)) (by decide) rfl ?_
  intro p e s m args below meth c s₁ B hml hv
  obtain ⟨rfl, hsz, hP, hK, hD0, hC, hZ⟩ := hv
  have hx := B.exec
  have hb := B.bytes
  have hr := B.returns
  have hts := atoms_spec (ws := wsX9_errorPosition) B.pre
  have hown : s.vm.findClass RX9 = some m.cls := findClass_of_methodNamed B.named
  have hlocks := B.notSynchronized
  subst hsz
  have hD := hD0.self (sz := s.heap.size)
  generalize hAe : va_A [(oX9 h0 b0 (nI nb) p0 u0 r0 a0 t0 s0 o0), (oX4 r0 r1 rp rt rk rs rl rn ek ep)] s.heap.size = A at hD hZ ⊢
  have hA : ∀ q : Nat, s.heap.size ≤ q → A q := fun q h => by rw [← hAe]; exact Or.inr h
  have hS : va_S A s.heap s.heap [] := va_S.rf
  have hP : va_P D vwCl [(oX9 h0 b0 (nI nb) p0 u0 r0 a0 t0 s0 o0), (oX4 r0 r1 rp rt rk rs rl rn ek ep)] s.heap := hP
  have hl := lv_entry ([.ref h0]) (n := 1) (Nat.le_of_ble_eq_true rfl)
  rw [lg_entry_eq]
  generalize (lg_sl ([.ref h0]) ++ List.replicate (1 - (lg_sl ([.ref h0])).length) Slot.unset).toArray = ls at hl ⊢
  have hl : lv_has ls 1 [(0, .ref h0)] := hl
  have inX4 : ∀ w ∈ u_ws RX4 TX4 9, w ∈ wsX9_errorPosition := by decide +kernel
  have inX9 : ∀ w ∈ u_ws RX9 TX9 9, w ∈ wsX9_errorPosition := by decide +kernel
  refine lv_aload_n hx hb dX9_errorPosition_0 rfl (lv_at hl 0 rfl) ?_
  refine va_get (D := D) (ci := 10) (v := .ref r0) (C := RX9) (T := TX9) (N := 9) hx hb hts inX9 hown hK hP 0 rfl rfl 4 (by decide) (hts (.fieldLink RX9 28 "EscrowDesk" "reader" "LEscrowDesk$Reader;") (by decide +kernel)) (fun _ h9 => h9) rfl dX9_errorPosition_1 ?_
  refine va_getN (D := D) (ci := 8) (v := .int ep) (C := RX4) (T := TX4) (N := 9) hx hb hts inX4 hown hK hP 1 rfl rfl 8 (by decide) (hC.f (A := _) (a := RX9) (i := 84) (b := "EscrowDesk$Reader") (n := "errorPosition") (d := "I") (x := "EscrowDesk") (by decide +kernel)) (fun _ h9 => h9) rfl dX9_errorPosition_4 ?_
  obtain ⟨hP9, hD9⟩ := PDq.sub (ws' := [(oX9 h0 b0 (nI nb) p0 u0 r0 a0 t0 s0 o0), (oX4 r0 r1 rp rt rk rs rl rn ek ep)]) hP hD [0, 1] (by decide) rfl
  refine W.widen (k := 0) (n := 0) (Nat.le_of_ble_eq_true rfl) (Nat.le_of_ble_eq_true rfl) ?_
  exact (W.iret (v := ep) hx hb hr (fun t ht hW => ⟨⟨ep, (), rfl, rfl, by rw [ht]; exact hP9, hD9⟩, hS.F ht⟩) hS.2.2 dX9_errorPosition_7)

set_option maxHeartbeats 4000000 in
set_option maxRecDepth 100000 in
/-- available -/
theorem s_available (l : Launch) (D : va_G) (cA : Nat → ClassId) (sa : Nat → Nat) (h0 : Nat) (b0 : Nat) (nb : Nat) (p0 : Nat) (u0 : Nat) (r0 : Nat) (a0 : Nat) (t0 : Nat) (s0 : Nat) (o0 : Nat) (a1 : Nat) (a3 : Nat) (a4 : Nat) (a5 : Nat) (a6 : Nat) (i6 : Int32) (i7 : Int32) (i8 : Int32) (i12 : Int32) (i13 : Int32) (i14 : Int32) (i15 : Int32) (i16 : Int32) (i17 : Int32) (i18 : Int32) (i19 : Int32) (i9 : Int64) (i10 : Int64) (i11 : Int64) (p1 : Nat) (p2 : Nat) (p3 : Nat) (p4 : Nat) (p5 : Nat) (p6 : Nat) (p7 : Nat) (p8 : Nat) (p9 : Nat) (cn : Nat) (pq : Nat) (nd : Nat) (sc : Nat) (pr : Int32) (pb : Int32) (pe : Int32) (pg : Int32) (ff : Nat → Int32) (sz : Nat) (hcn : cn ≤ 10) (hpq : pq ≤ 8) (hnd : nd ≤ 6) (hsc : sc ≤ 350) : Met l yX9_available wsX9_available ({ frames := 1, cells := 0, slots := 0, locals := 22 }) (va_Pc [.ref h0] (Wd D cA sa [(oX9 h0 b0 (nI nb) p0 u0 r0 a0 t0 s0 o0), (oX0 a0 p0 a1 a3 a4 a5 a6 i6 i7 i8 i9 i10 i11 i12 i13 i14 i15 i16 i17 i18 i19), (oX3 p0 pr pb pe pg p1 (nI nd) p2 p3 p4 p5 (nI cn) p6 (nI pq) p7 p8 p9 (nI sc)), (a5, .inl (cA 0, 10, .inl ff))] sz)) (va_Qi (fun (r : Int32) (_ : Unit) => True) (fun (_ : Unit) t => Wq D (va_A [(oX9 h0 b0 (nI nb) p0 u0 r0 a0 t0 s0 o0), (oX0 a0 p0 a1 a3 a4 a5 a6 i6 i7 i8 i9 i10 i11 i12 i13 i14 i15 i16 i17 i18 i19), (oX3 p0 pr pb pe pg p1 (nI nd) p2 p3 p4 p5 (nI cn) p6 (nI pq) p7 p8 p9 (nI sc)), (a5, .inl (cA 0, 10, .inl ff))] sz) [(oX9 h0 b0 (nI nb) p0 u0 r0 a0 t0 s0 o0), (oX0 a0 p0 a1 a3 a4 a5 a6 i6 i7 i8 i9 i10 i11 i12 i13 i14 i15 i16 i17 i18 i19), (oX3 p0 pr pb pe pg p1 (nI nd) p2 p3 p4 p5 (nI cn) p6 (nI pq) p7 p8 p9 (nI sc)), (a5, .inl (cA 0, 10, .inl ff))] t) (va_A [(oX9 h0 b0 (nI nb) p0 u0 r0 a0 t0 s0 o0), (oX0 a0 p0 a1 a3 a4 a5 a6 i6 i7 i8 i9 i10 i11 i12 i13 i14 i15 i16 i17 i18 i19), (oX3 p0 pr pb pe pg p1 (nI nd) p2 p3 p4 p5 (nI cn) p6 (nI pq) p7 p8 p9 (nI sc)), (a5, .inl (cA 0, 10, .inl ff))] sz)) 0 0 (va_A [(oX9 h0 b0 (nI nb) p0 u0 r0 a0 t0 s0 o0), (oX0 a0 p0 a1 a3 a4 a5 a6 i6 i7 i8 i9 i10 i11 i12 i13 i14 i15 i16 i17 i18 i19), (oX3 p0 pr pb pe pg p1 (nI nd) p2 p3 p4 p5 (nI cn) p6 (nI pq) p7 p8 p9 (nI sc)), (a5, .inl (cA 0, 10, .inl ff))] sz) := by
  refine Met.ofW (cc := cX9_available) (maxL := 1) (ret := (some .int)) (by decide) rfl ?_
  intro p e s m args below meth c s₁ B hml hv
  obtain ⟨rfl, hsz, hP, hK, hD0, hC, hZ⟩ := hv
  have hx := B.exec
  have hb := B.bytes
  have hr := B.returns
  have hts := atoms_spec (ws := wsX9_available) B.pre
  have hown : s.vm.findClass RX9 = some m.cls := findClass_of_methodNamed B.named
  have hlocks := B.notSynchronized
  subst hsz
  have hD := hD0.self (sz := s.heap.size)
  generalize hAe : va_A [(oX9 h0 b0 (nI nb) p0 u0 r0 a0 t0 s0 o0), (oX0 a0 p0 a1 a3 a4 a5 a6 i6 i7 i8 i9 i10 i11 i12 i13 i14 i15 i16 i17 i18 i19), (oX3 p0 pr pb pe pg p1 (nI nd) p2 p3 p4 p5 (nI cn) p6 (nI pq) p7 p8 p9 (nI sc)), (a5, .inl (cA 0, 10, .inl ff))] s.heap.size = A at hD hZ ⊢
  have hA : ∀ q : Nat, s.heap.size ≤ q → A q := fun q h => by rw [← hAe]; exact Or.inr h
  have hS : va_S A s.heap s.heap [] := va_S.rf
  have hP : va_P D vwCl [(oX9 h0 b0 (nI nb) p0 u0 r0 a0 t0 s0 o0), (oX0 a0 p0 a1 a3 a4 a5 a6 i6 i7 i8 i9 i10 i11 i12 i13 i14 i15 i16 i17 i18 i19), (oX3 p0 pr pb pe pg p1 (nI nd) p2 p3 p4 p5 (nI cn) p6 (nI pq) p7 p8 p9 (nI sc)), (a5, .inl (cA 0, 10, .inl ff))] s.heap := hP
  have hl := lv_entry ([.ref h0]) (n := 1) (Nat.le_of_ble_eq_true rfl)
  rw [lg_entry_eq]
  generalize (lg_sl ([.ref h0]) ++ List.replicate (1 - (lg_sl ([.ref h0])).length) Slot.unset).toArray = ls at hl ⊢
  have hl : lv_has ls 1 [(0, .ref h0)] := hl
  have inX9 : ∀ w ∈ u_ws RX9 TX9 9, w ∈ wsX9_available := by decide +kernel
  refine lv_aload_n hx hb dX9_available_0 rfl (lv_at hl 0 rfl) ?_
  refine va_get (D := D) (ci := 10) (v := .ref a0) (C := RX9) (T := TX9) (N := 9) hx hb hts inX9 hown hK hP 0 rfl rfl 5 (by decide) (hts (.fieldLink RX9 35 "EscrowDesk" "account" "LEscrowDesk$Account;") (by decide +kernel)) (fun _ h9 => h9) rfl dX9_available_1 ?_
  obtain ⟨hPc, hDc, hFc⟩ := PDq.cut (wc := [(oX0 a0 p0 a1 a3 a4 a5 a6 i6 i7 i8 i9 i10 i11 i12 i13 i14 i15 i16 i17 i18 i19), (oX3 p0 pr pb pe pg p1 (nI nd) p2 p3 p4 p5 (nI cn) p6 (nI pq) p7 p8 p9 (nI sc)), (a5, .inl (cA 0, 10, .inl ff))]) hP hD hS hA [1, 2, 3] (by decide) rfl
  refine va_calli (va_runV (As := []) (rest := []) ⟨hx, hb, hml, hown, hts⟩ (s_availMoney l D cA sa a0 a1 a3 a4 a5 a6 p0 i6 i7 i8 i12 i13 i14 i15 i16 i17 i18 i19 i9 i10 i11 p1 p2 p3 p4 p5 p6 p7 p8 p9 cn pq nd sc pr pb pe pg ff s.heap.size hcn hpq hnd hsc) (cwV 0 hts gX9_available_X0_availableMoney rfl rfl rfl (by decide +kernel) ⟨(Nat.le_of_ble_eq_true rfl), (Nat.le_of_ble_eq_true rfl)⟩) ⟨Wd.blind, va_recv hK hPc (ci := 4) (q0 := 0) rfl rfl, fun U hU hW => ⟨rfl, Wd.call hPc hDc hK hC hZ hS hFc U hU hW⟩⟩ rfl rfl hl.1 rfl (lv_room (Nat.le_of_ble_eq_true rfl)) dX9_available_4 ⟨(Nat.le_of_ble_eq_true rfl), (Nat.le_of_ble_eq_true rfl)⟩) hS (fun q _ h => hFc q h) hFc (fun rn1 u t H1 locs ht hvm hw hB hz1 hk1 hS => ?_)
  obtain ⟨hP1, hD1⟩ := hB
  rw [ht] at hP1
  obtain ⟨hP, hD⟩ := PDq.join (w := [(oX9 h0 b0 (nI nb) p0 u0 r0 a0 t0 s0 o0), (oX0 a0 p0 a1 a3 a4 a5 a6 i6 i7 i8 i9 i10 i11 i12 i13 i14 i15 i16 i17 i18 i19), (oX3 p0 pr pb pe pg p1 (nI nd) p2 p3 p4 p5 (nI cn) p6 (nI pq) p7 p8 p9 (nI sc)), (a5, .inl (cA 0, 10, .inl ff))]) 1 hP hD [1, 2, 3] [0] rfl rfl (by decide) (by decide) hk1 hFc hP1 hD1 rfl
  generalize H1 = H at hP hS ⊢
  obtain ⟨hP9, hD9⟩ := PDq.sub (ws' := [(oX9 h0 b0 (nI nb) p0 u0 r0 a0 t0 s0 o0), (oX0 a0 p0 a1 a3 a4 a5 a6 i6 i7 i8 i9 i10 i11 i12 i13 i14 i15 i16 i17 i18 i19), (oX3 p0 pr pb pe pg p1 (nI nd) p2 p3 p4 p5 (nI cn) p6 (nI pq) p7 p8 p9 (nI sc)), (a5, .inl (cA 0, 10, .inl ff))]) hP hD [0, 1, 2, 3] (by decide) rfl
  refine W.widen (k := 0) (n := 0) (Nat.le_of_ble_eq_true rfl) (Nat.le_of_ble_eq_true rfl) ?_
  exact (W.iret (v := rn1) hx hb hr (fun t ht hW => ⟨⟨rn1, (), rfl, trivial, by rw [ht]; exact hP9, hD9⟩, hS.F ht⟩) hS.2.2 dX9_available_7)

set_option maxHeartbeats 4000000 in
set_option maxRecDepth 100000 in
/-- state -/
theorem s_state (l : Launch) (D : va_G) (cA : Nat → ClassId) (sa : Nat → Nat) (h0 : Nat) (b0 : Nat) (nb : Nat) (p0 : Nat) (u0 : Nat) (r0 : Nat) (a0 : Nat) (t0 : Nat) (s0 : Nat) (o0 : Nat) (a1 : Nat) (a3 : Nat) (a4 : Nat) (a5 : Nat) (a6 : Nat) (i6 : Int32) (i7 : Int32) (i8 : Int32) (i12 : Int32) (i13 : Int32) (i14 : Int32) (i15 : Int32) (i16 : Int32) (i17 : Int32) (i18 : Int32) (i19 : Int32) (i9 : Int64) (i10 : Int64) (i11 : Int64) (p1 : Nat) (p2 : Nat) (p3 : Nat) (p4 : Nat) (p5 : Nat) (p6 : Nat) (p7 : Nat) (p8 : Nat) (p9 : Nat) (cn : Nat) (pq : Nat) (nd : Nat) (sc : Nat) (pr : Int32) (pb : Int32) (pe : Int32) (pg : Int32) (i : Int32) (fs : Nat → Int32) (sz : Nat) (hl9 : l.stackTraces = false) (hcn : cn ≤ 10) (hpq : pq ≤ 8) (hnd : nd ≤ 6) (hsc : sc ≤ 350) : vx_Met l yX9_state wsX9_state ({ frames := 8, cells := 1, slots := 6, locals := 132 }) (va_Pc [.ref h0, .int i] (Wd D cA sa [(oX9 h0 b0 (nI nb) p0 u0 r0 a0 t0 s0 o0), (oX0 a0 p0 a1 a3 a4 a5 a6 i6 i7 i8 i9 i10 i11 i12 i13 i14 i15 i16 i17 i18 i19), (oX3 p0 pr pb pe pg p1 (nI nd) p2 p3 p4 p5 (nI cn) p6 (nI pq) p7 p8 p9 (nI sc)), (a3, .inl (cA 0, 10, .inl fs))] sz)) (va_Qi (fun (r : Int32) (_ : Unit) => True) (fun (_ : Unit) t => Wq D (va_A [(oX9 h0 b0 (nI nb) p0 u0 r0 a0 t0 s0 o0), (oX0 a0 p0 a1 a3 a4 a5 a6 i6 i7 i8 i9 i10 i11 i12 i13 i14 i15 i16 i17 i18 i19), (oX3 p0 pr pb pe pg p1 (nI nd) p2 p3 p4 p5 (nI cn) p6 (nI pq) p7 p8 p9 (nI sc)), (a3, .inl (cA 0, 10, .inl fs))] sz) [(oX9 h0 b0 (nI nb) p0 u0 r0 a0 t0 s0 o0), (oX0 a0 p0 a1 a3 a4 a5 a6 i6 i7 i8 i9 i10 i11 i12 i13 i14 i15 i16 i17 i18 i19), (oX3 p0 pr pb pe pg p1 (nI nd) p2 p3 p4 p5 (nI cn) p6 (nI pq) p7 p8 p9 (nI sc)), (a3, .inl (cA 0, 10, .inl fs))] t) (va_A [(oX9 h0 b0 (nI nb) p0 u0 r0 a0 t0 s0 o0), (oX0 a0 p0 a1 a3 a4 a5 a6 i6 i7 i8 i9 i10 i11 i12 i13 i14 i15 i16 i17 i18 i19), (oX3 p0 pr pb pe pg p1 (nI nd) p2 p3 p4 p5 (nI cn) p6 (nI pq) p7 p8 p9 (nI sc)), (a3, .inl (cA 0, 10, .inl fs))] sz)) (vx_X (fun _ : Unit => True) (fun E _ t => (E = "java/lang/IndexOutOfBoundsException") ∧ Wq D (va_A [(oX9 h0 b0 (nI nb) p0 u0 r0 a0 t0 s0 o0), (oX0 a0 p0 a1 a3 a4 a5 a6 i6 i7 i8 i9 i10 i11 i12 i13 i14 i15 i16 i17 i18 i19), (oX3 p0 pr pb pe pg p1 (nI nd) p2 p3 p4 p5 (nI cn) p6 (nI pq) p7 p8 p9 (nI sc)), (a3, .inl (cA 0, 10, .inl fs))] sz) [(oX9 h0 b0 (nI nb) p0 u0 r0 a0 t0 s0 o0), (oX0 a0 p0 a1 a3 a4 a5 a6 i6 i7 i8 i9 i10 i11 i12 i13 i14 i15 i16 i17 i18 i19), (oX3 p0 pr pb pe pg p1 (nI nd) p2 p3 p4 p5 (nI cn) p6 (nI pq) p7 p8 p9 (nI sc)), (a3, .inl (cA 0, 10, .inl fs))] t) (va_A [(oX9 h0 b0 (nI nb) p0 u0 r0 a0 t0 s0 o0), (oX0 a0 p0 a1 a3 a4 a5 a6 i6 i7 i8 i9 i10 i11 i12 i13 i14 i15 i16 i17 i18 i19), (oX3 p0 pr pb pe pg p1 (nI nd) p2 p3 p4 p5 (nI cn) p6 (nI pq) p7 p8 p9 (nI sc)), (a3, .inl (cA 0, 10, .inl fs))] sz)) 1 6 (va_A [(oX9 h0 b0 (nI nb) p0 u0 r0 a0 t0 s0 o0), (oX0 a0 p0 a1 a3 a4 a5 a6 i6 i7 i8 i9 i10 i11 i12 i13 i14 i15 i16 i17 i18 i19), (oX3 p0 pr pb pe pg p1 (nI nd) p2 p3 p4 p5 (nI cn) p6 (nI pq) p7 p8 p9 (nI sc)), (a3, .inl (cA 0, 10, .inl fs))] sz) := by
  refine vx_ofW (cc := cX9_state) (maxL := 2) (ret := (some .int)) (by decide) rfl ?_
  intro p e s m args below meth c s₁ B hml hno hv
  obtain ⟨rfl, hsz, hP, hK, hD0, hC, hZ⟩ := hv
  have hx := B.exec
  have hb := B.bytes
  have hr := B.returns
  have hts := atoms_spec (ws := wsX9_state) B.pre
  have hown : s.vm.findClass RX9 = some m.cls := findClass_of_methodNamed B.named
  have hlocks := B.notSynchronized
  subst hsz
  have hD := hD0.self (sz := s.heap.size)
  generalize hAe : va_A [(oX9 h0 b0 (nI nb) p0 u0 r0 a0 t0 s0 o0), (oX0 a0 p0 a1 a3 a4 a5 a6 i6 i7 i8 i9 i10 i11 i12 i13 i14 i15 i16 i17 i18 i19), (oX3 p0 pr pb pe pg p1 (nI nd) p2 p3 p4 p5 (nI cn) p6 (nI pq) p7 p8 p9 (nI sc)), (a3, .inl (cA 0, 10, .inl fs))] s.heap.size = A at hD hZ ⊢
  have hA : ∀ q : Nat, s.heap.size ≤ q → A q := fun q h => by rw [← hAe]; exact Or.inr h
  have hS : va_S A s.heap s.heap [] := va_S.rf
  have hP : va_P D vwCl [(oX9 h0 b0 (nI nb) p0 u0 r0 a0 t0 s0 o0), (oX0 a0 p0 a1 a3 a4 a5 a6 i6 i7 i8 i9 i10 i11 i12 i13 i14 i15 i16 i17 i18 i19), (oX3 p0 pr pb pe pg p1 (nI nd) p2 p3 p4 p5 (nI cn) p6 (nI pq) p7 p8 p9 (nI sc)), (a3, .inl (cA 0, 10, .inl fs))] s.heap := hP
  have hl := lv_entry ([.ref h0, .int i]) (n := 2) (Nat.le_of_ble_eq_true rfl)
  rw [lg_entry_eq]
  generalize (lg_sl ([.ref h0, .int i]) ++ List.replicate (2 - (lg_sl ([.ref h0, .int i])).length) Slot.unset).toArray = ls at hl ⊢
  have hl : lv_has ls 2 [(0, .ref h0), (1, .int i)] := hl
  have inX0 : ∀ w ∈ u_ws RX0 TX0 20, w ∈ wsX9_state := by decide +kernel
  have inX9 : ∀ w ∈ u_ws RX9 TX9 9, w ∈ wsX9_state := by decide +kernel
  refine lv_aload_n hx hb dX9_state_0 rfl (lv_at hl 0 rfl) ?_
  refine lv_iload_n hx hb dX9_state_1 rfl (lv_at hl 1 rfl) ?_
  obtain ⟨hPc, hDc, hFc⟩ := PDq.cut (wc := [(oX9 h0 b0 (nI nb) p0 u0 r0 a0 t0 s0 o0), (oX3 p0 pr pb pe pg p1 (nI nd) p2 p3 p4 p5 (nI cn) p6 (nI pq) p7 p8 p9 (nI sc))]) hP hD hS hA [0, 2] (by decide) rfl
  refine vx_callv (vx_runV (As := [.int i]) (rest := []) ⟨hx, hb, hml, hown, hts⟩ (s_needMilestone l D cA sa h0 b0 nb p0 u0 r0 a0 t0 s0 o0 p1 p2 p3 p4 p5 p6 p7 p8 p9 cn pq nd sc pr pb pe pg i s.heap.size hl9 hcn hpq hnd hsc) (cwV 1 hts gX9_state_X9_needMilestone rfl rfl rfl (by decide +kernel) ⟨(Nat.le_of_ble_eq_true rfl), (Nat.le_of_ble_eq_true rfl)⟩) ⟨Wd.blind, va_recv hK hPc (ci := 10) (q0 := 0) rfl rfl, fun U hU hW => ⟨rfl, Wd.call hPc hDc hK hC hZ hS hFc U hU hW⟩⟩ rfl rfl hl.1 rfl (lv_room (Nat.le_of_ble_eq_true rfl)) dX9_state_2 ⟨(Nat.le_of_ble_eq_true rfl), (Nat.le_of_ble_eq_true rfl)⟩) hS (fun q _ h => hFc q h) hFc (fun q _ h => hFc q h) (fun E ce q9 u t H1 locs ht hvm hpx hE hz1 hk1 hS hcell hv9 hcl => ?_) (fun u t H1 locs ht hvm hw hB hz1 hk1 hS => ?_)
  · skip
    obtain ⟨hE, hP1, hD1⟩ := hE
    rw [ht] at hP1
    obtain ⟨hP, hD⟩ := PDq.join (w := [(oX0 a0 p0 a1 a3 a4 a5 a6 i6 i7 i8 i9 i10 i11 i12 i13 i14 i15 i16 i17 i18 i19), (a3, .inl (cA 0, 10, .inl fs)), (oX9 h0 b0 (nI nb) p0 u0 r0 a0 t0 s0 o0), (oX3 p0 pr pb pe pg p1 (nI nd) p2 p3 p4 p5 (nI cn) p6 (nI pq) p7 p8 p9 (nI sc))]) 2 hP hD [0, 2] [1, 3] rfl rfl (by decide) (by decide) hk1 hFc hP1 hD1 rfl
    generalize H1 = H at hP hS hcell ⊢
    obtain ⟨hP9, hD9⟩ := PDq.sub (ws' := [(oX9 h0 b0 (nI nb) p0 u0 r0 a0 t0 s0 o0), (oX0 a0 p0 a1 a3 a4 a5 a6 i6 i7 i8 i9 i10 i11 i12 i13 i14 i15 i16 i17 i18 i19), (oX3 p0 pr pb pe pg p1 (nI nd) p2 p3 p4 p5 (nI cn) p6 (nI pq) p7 p8 p9 (nI sc)), (a3, .inl (cA 0, 10, .inl fs))]) hP hD [2, 0, 3, 1] (by decide) rfl
    exact vx_out (fun x h => (hno x h).elim) hlocks hcell hv9 hcl (fun t ht hvm => ⟨(), trivial, ⟨hE, by rw [ht]; exact hP9, hD9⟩, hS.F ht⟩) hS.2.2 (Nat.le_of_ble_eq_true rfl) (Nat.le_of_ble_eq_true rfl)
  · skip
    obtain ⟨qn1, hn2, hn3, hP1, hD1⟩ := hB
    rw [ht] at hP1
    obtain ⟨hP, hD⟩ := PDq.join (w := [(oX0 a0 p0 a1 a3 a4 a5 a6 i6 i7 i8 i9 i10 i11 i12 i13 i14 i15 i16 i17 i18 i19), (a3, .inl (cA 0, 10, .inl fs)), (oX9 h0 b0 (nI nb) p0 u0 r0 a0 t0 s0 o0), (oX3 p0 pr pb pe pg p1 (nI nd) p2 p3 p4 p5 (nI cn) p6 (nI pq) p7 p8 p9 (nI sc))]) 2 hP hD [0, 2] [1, 3] rfl rfl (by decide) (by decide) hk1 hFc hP1 hD1 rfl
    generalize H1 = H at hP hS ⊢
    rw [hn3] at hl
    have hl : lv_has ls 2 [(0, .ref h0), (1, .int (nI qn1))] := hl
    refine lv_aload_n hx hb dX9_state_5 rfl (lv_at hl 0 rfl) ?_
    refine va_get (D := D) (ci := 10) (v := .ref a0) (C := RX9) (T := TX9) (N := 9) hx hb hts inX9 hown hK hP 2 rfl rfl 5 (by decide) (hts (.fieldLink RX9 35 "EscrowDesk" "account" "LEscrowDesk$Account;") (by decide +kernel)) (fun _ h9 => h9) rfl dX9_state_6 ?_
    refine va_getN (D := D) (ci := 4) (v := .ref a3) (C := RX0) (T := TX0) (N := 20) hx hb hts inX0 hown hK hP 0 rfl rfl 2 (by decide) (hC.f (A := _) (a := RX9) (i := 122) (b := "EscrowDesk$Account") (n := "state") (d := "[I") (x := "EscrowDesk") (by decide +kernel)) (fun _ h9 => h9) rfl dX9_state_9 ?_
    refine lv_iload_n hx hb dX9_state_12 rfl (lv_at hl 1 rfl) ?_
    refine va_iald hx hb hK hP 1 0 rfl rfl (vp_in_nI (n := qn1) (N := 10) (show qn1 < 10 by omega) (by decide)) dX9_state_13 ?_
    refine lv_topi (fun yn4 eyn4 => ?_)
    obtain ⟨hP9, hD9⟩ := PDq.sub (ws' := [(oX9 h0 b0 (nI nb) p0 u0 r0 a0 t0 s0 o0), (oX0 a0 p0 a1 a3 a4 a5 a6 i6 i7 i8 i9 i10 i11 i12 i13 i14 i15 i16 i17 i18 i19), (oX3 p0 pr pb pe pg p1 (nI nd) p2 p3 p4 p5 (nI cn) p6 (nI pq) p7 p8 p9 (nI sc)), (a3, .inl (cA 0, 10, .inl fs))]) hP hD [2, 0, 3, 1] (by decide) rfl
    refine W.widen (k := 1) (n := 6) (Nat.le_of_ble_eq_true rfl) (Nat.le_of_ble_eq_true rfl) ?_
    exact vx_ret (W.iret (v := yn4) hx hb hr (fun t ht hW => ⟨⟨yn4, (), rfl, trivial, by rw [ht]; exact hP9, hD9⟩, hS.F ht⟩) hS.2.2 dX9_state_14)

set_option maxHeartbeats 4000000 in
set_option maxRecDepth 100000 in
/-- paid -/
theorem s_paid (l : Launch) (D : va_G) (cA : Nat → ClassId) (sa : Nat → Nat) (h0 : Nat) (b0 : Nat) (nb : Nat) (p0 : Nat) (u0 : Nat) (r0 : Nat) (a0 : Nat) (t0 : Nat) (s0 : Nat) (o0 : Nat) (a1 : Nat) (a3 : Nat) (a4 : Nat) (a5 : Nat) (a6 : Nat) (i6 : Int32) (i7 : Int32) (i8 : Int32) (i12 : Int32) (i13 : Int32) (i14 : Int32) (i15 : Int32) (i16 : Int32) (i17 : Int32) (i18 : Int32) (i19 : Int32) (i9 : Int64) (i10 : Int64) (i11 : Int64) (p1 : Nat) (p2 : Nat) (p3 : Nat) (p4 : Nat) (p5 : Nat) (p6 : Nat) (p7 : Nat) (p8 : Nat) (p9 : Nat) (cn : Nat) (pq : Nat) (nd : Nat) (sc : Nat) (pr : Int32) (pb : Int32) (pe : Int32) (pg : Int32) (i : Int32) (fp : Nat → Int32) (sz : Nat) (hl9 : l.stackTraces = false) (hcn : cn ≤ 10) (hpq : pq ≤ 8) (hnd : nd ≤ 6) (hsc : sc ≤ 350) : vx_Met l yX9_paid wsX9_paid ({ frames := 8, cells := 1, slots := 6, locals := 132 }) (va_Pc [.ref h0, .int i] (Wd D cA sa [(oX9 h0 b0 (nI nb) p0 u0 r0 a0 t0 s0 o0), (oX0 a0 p0 a1 a3 a4 a5 a6 i6 i7 i8 i9 i10 i11 i12 i13 i14 i15 i16 i17 i18 i19), (oX3 p0 pr pb pe pg p1 (nI nd) p2 p3 p4 p5 (nI cn) p6 (nI pq) p7 p8 p9 (nI sc)), (a4, .inl (cA 0, 10, .inl fp))] sz)) (va_Qi (fun (r : Int32) (_ : Unit) => True) (fun (_ : Unit) t => Wq D (va_A [(oX9 h0 b0 (nI nb) p0 u0 r0 a0 t0 s0 o0), (oX0 a0 p0 a1 a3 a4 a5 a6 i6 i7 i8 i9 i10 i11 i12 i13 i14 i15 i16 i17 i18 i19), (oX3 p0 pr pb pe pg p1 (nI nd) p2 p3 p4 p5 (nI cn) p6 (nI pq) p7 p8 p9 (nI sc)), (a4, .inl (cA 0, 10, .inl fp))] sz) [(oX9 h0 b0 (nI nb) p0 u0 r0 a0 t0 s0 o0), (oX0 a0 p0 a1 a3 a4 a5 a6 i6 i7 i8 i9 i10 i11 i12 i13 i14 i15 i16 i17 i18 i19), (oX3 p0 pr pb pe pg p1 (nI nd) p2 p3 p4 p5 (nI cn) p6 (nI pq) p7 p8 p9 (nI sc)), (a4, .inl (cA 0, 10, .inl fp))] t) (va_A [(oX9 h0 b0 (nI nb) p0 u0 r0 a0 t0 s0 o0), (oX0 a0 p0 a1 a3 a4 a5 a6 i6 i7 i8 i9 i10 i11 i12 i13 i14 i15 i16 i17 i18 i19), (oX3 p0 pr pb pe pg p1 (nI nd) p2 p3 p4 p5 (nI cn) p6 (nI pq) p7 p8 p9 (nI sc)), (a4, .inl (cA 0, 10, .inl fp))] sz)) (vx_X (fun _ : Unit => True) (fun E _ t => (E = "java/lang/IndexOutOfBoundsException") ∧ Wq D (va_A [(oX9 h0 b0 (nI nb) p0 u0 r0 a0 t0 s0 o0), (oX0 a0 p0 a1 a3 a4 a5 a6 i6 i7 i8 i9 i10 i11 i12 i13 i14 i15 i16 i17 i18 i19), (oX3 p0 pr pb pe pg p1 (nI nd) p2 p3 p4 p5 (nI cn) p6 (nI pq) p7 p8 p9 (nI sc)), (a4, .inl (cA 0, 10, .inl fp))] sz) [(oX9 h0 b0 (nI nb) p0 u0 r0 a0 t0 s0 o0), (oX0 a0 p0 a1 a3 a4 a5 a6 i6 i7 i8 i9 i10 i11 i12 i13 i14 i15 i16 i17 i18 i19), (oX3 p0 pr pb pe pg p1 (nI nd) p2 p3 p4 p5 (nI cn) p6 (nI pq) p7 p8 p9 (nI sc)), (a4, .inl (cA 0, 10, .inl fp))] t) (va_A [(oX9 h0 b0 (nI nb) p0 u0 r0 a0 t0 s0 o0), (oX0 a0 p0 a1 a3 a4 a5 a6 i6 i7 i8 i9 i10 i11 i12 i13 i14 i15 i16 i17 i18 i19), (oX3 p0 pr pb pe pg p1 (nI nd) p2 p3 p4 p5 (nI cn) p6 (nI pq) p7 p8 p9 (nI sc)), (a4, .inl (cA 0, 10, .inl fp))] sz)) 1 6 (va_A [(oX9 h0 b0 (nI nb) p0 u0 r0 a0 t0 s0 o0), (oX0 a0 p0 a1 a3 a4 a5 a6 i6 i7 i8 i9 i10 i11 i12 i13 i14 i15 i16 i17 i18 i19), (oX3 p0 pr pb pe pg p1 (nI nd) p2 p3 p4 p5 (nI cn) p6 (nI pq) p7 p8 p9 (nI sc)), (a4, .inl (cA 0, 10, .inl fp))] sz) := by
  refine vx_ofW (cc := cX9_paid) (maxL := 2) (ret := (some .int)) (by decide) rfl ?_
  intro p e s m args below meth c s₁ B hml hno hv
  obtain ⟨rfl, hsz, hP, hK, hD0, hC, hZ⟩ := hv
  have hx := B.exec
  have hb := B.bytes
  have hr := B.returns
  have hts := atoms_spec (ws := wsX9_paid) B.pre
  have hown : s.vm.findClass RX9 = some m.cls := findClass_of_methodNamed B.named
  have hlocks := B.notSynchronized
  subst hsz
  have hD := hD0.self (sz := s.heap.size)
  generalize hAe : va_A [(oX9 h0 b0 (nI nb) p0 u0 r0 a0 t0 s0 o0), (oX0 a0 p0 a1 a3 a4 a5 a6 i6 i7 i8 i9 i10 i11 i12 i13 i14 i15 i16 i17 i18 i19), (oX3 p0 pr pb pe pg p1 (nI nd) p2 p3 p4 p5 (nI cn) p6 (nI pq) p7 p8 p9 (nI sc)), (a4, .inl (cA 0, 10, .inl fp))] s.heap.size = A at hD hZ ⊢
  have hA : ∀ q : Nat, s.heap.size ≤ q → A q := fun q h => by rw [← hAe]; exact Or.inr h
  have hS : va_S A s.heap s.heap [] := va_S.rf
  have hP : va_P D vwCl [(oX9 h0 b0 (nI nb) p0 u0 r0 a0 t0 s0 o0), (oX0 a0 p0 a1 a3 a4 a5 a6 i6 i7 i8 i9 i10 i11 i12 i13 i14 i15 i16 i17 i18 i19), (oX3 p0 pr pb pe pg p1 (nI nd) p2 p3 p4 p5 (nI cn) p6 (nI pq) p7 p8 p9 (nI sc)), (a4, .inl (cA 0, 10, .inl fp))] s.heap := hP
  have hl := lv_entry ([.ref h0, .int i]) (n := 2) (Nat.le_of_ble_eq_true rfl)
  rw [lg_entry_eq]
  generalize (lg_sl ([.ref h0, .int i]) ++ List.replicate (2 - (lg_sl ([.ref h0, .int i])).length) Slot.unset).toArray = ls at hl ⊢
  have hl : lv_has ls 2 [(0, .ref h0), (1, .int i)] := hl
  have inX0 : ∀ w ∈ u_ws RX0 TX0 20, w ∈ wsX9_paid := by decide +kernel
  have inX9 : ∀ w ∈ u_ws RX9 TX9 9, w ∈ wsX9_paid := by decide +kernel
  refine lv_aload_n hx hb dX9_paid_0 rfl (lv_at hl 0 rfl) ?_
  refine lv_iload_n hx hb dX9_paid_1 rfl (lv_at hl 1 rfl) ?_
  obtain ⟨hPc, hDc, hFc⟩ := PDq.cut (wc := [(oX9 h0 b0 (nI nb) p0 u0 r0 a0 t0 s0 o0), (oX3 p0 pr pb pe pg p1 (nI nd) p2 p3 p4 p5 (nI cn) p6 (nI pq) p7 p8 p9 (nI sc))]) hP hD hS hA [0, 2] (by decide) rfl
  refine vx_callv (vx_runV (As := [.int i]) (rest := []) ⟨hx, hb, hml, hown, hts⟩ (s_needMilestone l D cA sa h0 b0 nb p0 u0 r0 a0 t0 s0 o0 p1 p2 p3 p4 p5 p6 p7 p8 p9 cn pq nd sc pr pb pe pg i s.heap.size hl9 hcn hpq hnd hsc) (cwV 1 hts gX9_paid_X9_needMilestone rfl rfl rfl (by decide +kernel) ⟨(Nat.le_of_ble_eq_true rfl), (Nat.le_of_ble_eq_true rfl)⟩) ⟨Wd.blind, va_recv hK hPc (ci := 10) (q0 := 0) rfl rfl, fun U hU hW => ⟨rfl, Wd.call hPc hDc hK hC hZ hS hFc U hU hW⟩⟩ rfl rfl hl.1 rfl (lv_room (Nat.le_of_ble_eq_true rfl)) dX9_paid_2 ⟨(Nat.le_of_ble_eq_true rfl), (Nat.le_of_ble_eq_true rfl)⟩) hS (fun q _ h => hFc q h) hFc (fun q _ h => hFc q h) (fun E ce q9 u t H1 locs ht hvm hpx hE hz1 hk1 hS hcell hv9 hcl => ?_) (fun u t H1 locs ht hvm hw hB hz1 hk1 hS => ?_)
  · skip
    obtain ⟨hE, hP1, hD1⟩ := hE
    rw [ht] at hP1
    obtain ⟨hP, hD⟩ := PDq.join (w := [(oX0 a0 p0 a1 a3 a4 a5 a6 i6 i7 i8 i9 i10 i11 i12 i13 i14 i15 i16 i17 i18 i19), (a4, .inl (cA 0, 10, .inl fp)), (oX9 h0 b0 (nI nb) p0 u0 r0 a0 t0 s0 o0), (oX3 p0 pr pb pe pg p1 (nI nd) p2 p3 p4 p5 (nI cn) p6 (nI pq) p7 p8 p9 (nI sc))]) 2 hP hD [0, 2] [1, 3] rfl rfl (by decide) (by decide) hk1 hFc hP1 hD1 rfl
    generalize H1 = H at hP hS hcell ⊢
    obtain ⟨hP9, hD9⟩ := PDq.sub (ws' := [(oX9 h0 b0 (nI nb) p0 u0 r0 a0 t0 s0 o0), (oX0 a0 p0 a1 a3 a4 a5 a6 i6 i7 i8 i9 i10 i11 i12 i13 i14 i15 i16 i17 i18 i19), (oX3 p0 pr pb pe pg p1 (nI nd) p2 p3 p4 p5 (nI cn) p6 (nI pq) p7 p8 p9 (nI sc)), (a4, .inl (cA 0, 10, .inl fp))]) hP hD [2, 0, 3, 1] (by decide) rfl
    exact vx_out (fun x h => (hno x h).elim) hlocks hcell hv9 hcl (fun t ht hvm => ⟨(), trivial, ⟨hE, by rw [ht]; exact hP9, hD9⟩, hS.F ht⟩) hS.2.2 (Nat.le_of_ble_eq_true rfl) (Nat.le_of_ble_eq_true rfl)
  · skip
    obtain ⟨qn1, hn2, hn3, hP1, hD1⟩ := hB
    rw [ht] at hP1
    obtain ⟨hP, hD⟩ := PDq.join (w := [(oX0 a0 p0 a1 a3 a4 a5 a6 i6 i7 i8 i9 i10 i11 i12 i13 i14 i15 i16 i17 i18 i19), (a4, .inl (cA 0, 10, .inl fp)), (oX9 h0 b0 (nI nb) p0 u0 r0 a0 t0 s0 o0), (oX3 p0 pr pb pe pg p1 (nI nd) p2 p3 p4 p5 (nI cn) p6 (nI pq) p7 p8 p9 (nI sc))]) 2 hP hD [0, 2] [1, 3] rfl rfl (by decide) (by decide) hk1 hFc hP1 hD1 rfl
    generalize H1 = H at hP hS ⊢
    rw [hn3] at hl
    have hl : lv_has ls 2 [(0, .ref h0), (1, .int (nI qn1))] := hl
    refine lv_aload_n hx hb dX9_paid_5 rfl (lv_at hl 0 rfl) ?_
    refine va_get (D := D) (ci := 10) (v := .ref a0) (C := RX9) (T := TX9) (N := 9) hx hb hts inX9 hown hK hP 2 rfl rfl 5 (by decide) (hts (.fieldLink RX9 35 "EscrowDesk" "account" "LEscrowDesk$Account;") (by decide +kernel)) (fun _ h9 => h9) rfl dX9_paid_6 ?_
    refine va_getN (D := D) (ci := 4) (v := .ref a4) (C := RX0) (T := TX0) (N := 20) hx hb hts inX0 hown hK hP 0 rfl rfl 3 (by decide) (hC.f (A := _) (a := RX9) (i := 126) (b := "EscrowDesk$Account") (n := "paid") (d := "[I") (x := "EscrowDesk") (by decide +kernel)) (fun _ h9 => h9) rfl dX9_paid_9 ?_
    refine lv_iload_n hx hb dX9_paid_12 rfl (lv_at hl 1 rfl) ?_
    refine va_iald hx hb hK hP 1 0 rfl rfl (vp_in_nI (n := qn1) (N := 10) (show qn1 < 10 by omega) (by decide)) dX9_paid_13 ?_
    refine lv_topi (fun yn4 eyn4 => ?_)
    obtain ⟨hP9, hD9⟩ := PDq.sub (ws' := [(oX9 h0 b0 (nI nb) p0 u0 r0 a0 t0 s0 o0), (oX0 a0 p0 a1 a3 a4 a5 a6 i6 i7 i8 i9 i10 i11 i12 i13 i14 i15 i16 i17 i18 i19), (oX3 p0 pr pb pe pg p1 (nI nd) p2 p3 p4 p5 (nI cn) p6 (nI pq) p7 p8 p9 (nI sc)), (a4, .inl (cA 0, 10, .inl fp))]) hP hD [2, 0, 3, 1] (by decide) rfl
    refine W.widen (k := 1) (n := 6) (Nat.le_of_ble_eq_true rfl) (Nat.le_of_ble_eq_true rfl) ?_
    exact vx_ret (W.iret (v := yn4) hx hb hr (fun t ht hW => ⟨⟨yn4, (), rfl, trivial, by rw [ht]; exact hP9, hD9⟩, hS.F ht⟩) hS.2.2 dX9_paid_14)

set_option maxHeartbeats 4000000 in
set_option maxRecDepth 100000 in
/-- frozen -/
theorem s_frozen (l : Launch) (D : va_G) (cA : Nat → ClassId) (sa : Nat → Nat) (h0 : Nat) (b0 : Nat) (nb : Nat) (p0 : Nat) (u0 : Nat) (r0 : Nat) (a0 : Nat) (t0 : Nat) (s0 : Nat) (o0 : Nat) (a1 : Nat) (a3 : Nat) (a4 : Nat) (a5 : Nat) (a6 : Nat) (i6 : Int32) (i7 : Int32) (i8 : Int32) (i12 : Int32) (i13 : Int32) (i14 : Int32) (i15 : Int32) (i16 : Int32) (i17 : Int32) (i18 : Int32) (i19 : Int32) (i9 : Int64) (i10 : Int64) (i11 : Int64) (p1 : Nat) (p2 : Nat) (p3 : Nat) (p4 : Nat) (p5 : Nat) (p6 : Nat) (p7 : Nat) (p8 : Nat) (p9 : Nat) (cn : Nat) (pq : Nat) (nd : Nat) (sc : Nat) (pr : Int32) (pb : Int32) (pe : Int32) (pg : Int32) (i : Int32) (ff : Nat → Int32) (sz : Nat) (hl9 : l.stackTraces = false) (hcn : cn ≤ 10) (hpq : pq ≤ 8) (hnd : nd ≤ 6) (hsc : sc ≤ 350) : vx_Met l yX9_frozen wsX9_frozen ({ frames := 8, cells := 1, slots := 6, locals := 132 }) (va_Pc [.ref h0, .int i] (Wd D cA sa [(oX9 h0 b0 (nI nb) p0 u0 r0 a0 t0 s0 o0), (oX0 a0 p0 a1 a3 a4 a5 a6 i6 i7 i8 i9 i10 i11 i12 i13 i14 i15 i16 i17 i18 i19), (oX3 p0 pr pb pe pg p1 (nI nd) p2 p3 p4 p5 (nI cn) p6 (nI pq) p7 p8 p9 (nI sc)), (a5, .inl (cA 0, 10, .inl ff))] sz)) (va_Qi (fun (r : Int32) (_ : Unit) => True) (fun (_ : Unit) t => Wq D (va_A [(oX9 h0 b0 (nI nb) p0 u0 r0 a0 t0 s0 o0), (oX0 a0 p0 a1 a3 a4 a5 a6 i6 i7 i8 i9 i10 i11 i12 i13 i14 i15 i16 i17 i18 i19), (oX3 p0 pr pb pe pg p1 (nI nd) p2 p3 p4 p5 (nI cn) p6 (nI pq) p7 p8 p9 (nI sc)), (a5, .inl (cA 0, 10, .inl ff))] sz) [(oX9 h0 b0 (nI nb) p0 u0 r0 a0 t0 s0 o0), (oX0 a0 p0 a1 a3 a4 a5 a6 i6 i7 i8 i9 i10 i11 i12 i13 i14 i15 i16 i17 i18 i19), (oX3 p0 pr pb pe pg p1 (nI nd) p2 p3 p4 p5 (nI cn) p6 (nI pq) p7 p8 p9 (nI sc)), (a5, .inl (cA 0, 10, .inl ff))] t) (va_A [(oX9 h0 b0 (nI nb) p0 u0 r0 a0 t0 s0 o0), (oX0 a0 p0 a1 a3 a4 a5 a6 i6 i7 i8 i9 i10 i11 i12 i13 i14 i15 i16 i17 i18 i19), (oX3 p0 pr pb pe pg p1 (nI nd) p2 p3 p4 p5 (nI cn) p6 (nI pq) p7 p8 p9 (nI sc)), (a5, .inl (cA 0, 10, .inl ff))] sz)) (vx_X (fun _ : Unit => True) (fun E _ t => (E = "java/lang/IndexOutOfBoundsException") ∧ Wq D (va_A [(oX9 h0 b0 (nI nb) p0 u0 r0 a0 t0 s0 o0), (oX0 a0 p0 a1 a3 a4 a5 a6 i6 i7 i8 i9 i10 i11 i12 i13 i14 i15 i16 i17 i18 i19), (oX3 p0 pr pb pe pg p1 (nI nd) p2 p3 p4 p5 (nI cn) p6 (nI pq) p7 p8 p9 (nI sc)), (a5, .inl (cA 0, 10, .inl ff))] sz) [(oX9 h0 b0 (nI nb) p0 u0 r0 a0 t0 s0 o0), (oX0 a0 p0 a1 a3 a4 a5 a6 i6 i7 i8 i9 i10 i11 i12 i13 i14 i15 i16 i17 i18 i19), (oX3 p0 pr pb pe pg p1 (nI nd) p2 p3 p4 p5 (nI cn) p6 (nI pq) p7 p8 p9 (nI sc)), (a5, .inl (cA 0, 10, .inl ff))] t) (va_A [(oX9 h0 b0 (nI nb) p0 u0 r0 a0 t0 s0 o0), (oX0 a0 p0 a1 a3 a4 a5 a6 i6 i7 i8 i9 i10 i11 i12 i13 i14 i15 i16 i17 i18 i19), (oX3 p0 pr pb pe pg p1 (nI nd) p2 p3 p4 p5 (nI cn) p6 (nI pq) p7 p8 p9 (nI sc)), (a5, .inl (cA 0, 10, .inl ff))] sz)) 1 6 (va_A [(oX9 h0 b0 (nI nb) p0 u0 r0 a0 t0 s0 o0), (oX0 a0 p0 a1 a3 a4 a5 a6 i6 i7 i8 i9 i10 i11 i12 i13 i14 i15 i16 i17 i18 i19), (oX3 p0 pr pb pe pg p1 (nI nd) p2 p3 p4 p5 (nI cn) p6 (nI pq) p7 p8 p9 (nI sc)), (a5, .inl (cA 0, 10, .inl ff))] sz) := by
  refine vx_ofW (cc := cX9_frozen) (maxL := 2) (ret := (some .int)) (by decide) rfl ?_
  intro p e s m args below meth c s₁ B hml hno hv
  obtain ⟨rfl, hsz, hP, hK, hD0, hC, hZ⟩ := hv
  have hx := B.exec
  have hb := B.bytes
  have hr := B.returns
  have hts := atoms_spec (ws := wsX9_frozen) B.pre
  have hown : s.vm.findClass RX9 = some m.cls := findClass_of_methodNamed B.named
  have hlocks := B.notSynchronized
  subst hsz
  have hD := hD0.self (sz := s.heap.size)
  generalize hAe : va_A [(oX9 h0 b0 (nI nb) p0 u0 r0 a0 t0 s0 o0), (oX0 a0 p0 a1 a3 a4 a5 a6 i6 i7 i8 i9 i10 i11 i12 i13 i14 i15 i16 i17 i18 i19), (oX3 p0 pr pb pe pg p1 (nI nd) p2 p3 p4 p5 (nI cn) p6 (nI pq) p7 p8 p9 (nI sc)), (a5, .inl (cA 0, 10, .inl ff))] s.heap.size = A at hD hZ ⊢
  have hA : ∀ q : Nat, s.heap.size ≤ q → A q := fun q h => by rw [← hAe]; exact Or.inr h
  have hS : va_S A s.heap s.heap [] := va_S.rf
  have hP : va_P D vwCl [(oX9 h0 b0 (nI nb) p0 u0 r0 a0 t0 s0 o0), (oX0 a0 p0 a1 a3 a4 a5 a6 i6 i7 i8 i9 i10 i11 i12 i13 i14 i15 i16 i17 i18 i19), (oX3 p0 pr pb pe pg p1 (nI nd) p2 p3 p4 p5 (nI cn) p6 (nI pq) p7 p8 p9 (nI sc)), (a5, .inl (cA 0, 10, .inl ff))] s.heap := hP
  have hl := lv_entry ([.ref h0, .int i]) (n := 2) (Nat.le_of_ble_eq_true rfl)
  rw [lg_entry_eq]
  generalize (lg_sl ([.ref h0, .int i]) ++ List.replicate (2 - (lg_sl ([.ref h0, .int i])).length) Slot.unset).toArray = ls at hl ⊢
  have hl : lv_has ls 2 [(0, .ref h0), (1, .int i)] := hl
  have inX0 : ∀ w ∈ u_ws RX0 TX0 20, w ∈ wsX9_frozen := by decide +kernel
  have inX9 : ∀ w ∈ u_ws RX9 TX9 9, w ∈ wsX9_frozen := by decide +kernel
  refine lv_aload_n hx hb dX9_frozen_0 rfl (lv_at hl 0 rfl) ?_
  refine lv_iload_n hx hb dX9_frozen_1 rfl (lv_at hl 1 rfl) ?_
  obtain ⟨hPc, hDc, hFc⟩ := PDq.cut (wc := [(oX9 h0 b0 (nI nb) p0 u0 r0 a0 t0 s0 o0), (oX3 p0 pr pb pe pg p1 (nI nd) p2 p3 p4 p5 (nI cn) p6 (nI pq) p7 p8 p9 (nI sc))]) hP hD hS hA [0, 2] (by decide) rfl
  refine vx_callv (vx_runV (As := [.int i]) (rest := []) ⟨hx, hb, hml, hown, hts⟩ (s_needMilestone l D cA sa h0 b0 nb p0 u0 r0 a0 t0 s0 o0 p1 p2 p3 p4 p5 p6 p7 p8 p9 cn pq nd sc pr pb pe pg i s.heap.size hl9 hcn hpq hnd hsc) (cwV 1 hts gX9_frozen_X9_needMilestone rfl rfl rfl (by decide +kernel) ⟨(Nat.le_of_ble_eq_true rfl), (Nat.le_of_ble_eq_true rfl)⟩) ⟨Wd.blind, va_recv hK hPc (ci := 10) (q0 := 0) rfl rfl, fun U hU hW => ⟨rfl, Wd.call hPc hDc hK hC hZ hS hFc U hU hW⟩⟩ rfl rfl hl.1 rfl (lv_room (Nat.le_of_ble_eq_true rfl)) dX9_frozen_2 ⟨(Nat.le_of_ble_eq_true rfl), (Nat.le_of_ble_eq_true rfl)⟩) hS (fun q _ h => hFc q h) hFc (fun q _ h => hFc q h) (fun E ce q9 u t H1 locs ht hvm hpx hE hz1 hk1 hS hcell hv9 hcl => ?_) (fun u t H1 locs ht hvm hw hB hz1 hk1 hS => ?_)
  · skip
    obtain ⟨hE, hP1, hD1⟩ := hE
    rw [ht] at hP1
    obtain ⟨hP, hD⟩ := PDq.join (w := [(oX0 a0 p0 a1 a3 a4 a5 a6 i6 i7 i8 i9 i10 i11 i12 i13 i14 i15 i16 i17 i18 i19), (a5, .inl (cA 0, 10, .inl ff)), (oX9 h0 b0 (nI nb) p0 u0 r0 a0 t0 s0 o0), (oX3 p0 pr pb pe pg p1 (nI nd) p2 p3 p4 p5 (nI cn) p6 (nI pq) p7 p8 p9 (nI sc))]) 2 hP hD [0, 2] [1, 3] rfl rfl (by decide) (by decide) hk1 hFc hP1 hD1 rfl
    generalize H1 = H at hP hS hcell ⊢
    obtain ⟨hP9, hD9⟩ := PDq.sub (ws' := [(oX9 h0 b0 (nI nb) p0 u0 r0 a0 t0 s0 o0), (oX0 a0 p0 a1 a3 a4 a5 a6 i6 i7 i8 i9 i10 i11 i12 i13 i14 i15 i16 i17 i18 i19), (oX3 p0 pr pb pe pg p1 (nI nd) p2 p3 p4 p5 (nI cn) p6 (nI pq) p7 p8 p9 (nI sc)), (a5, .inl (cA 0, 10, .inl ff))]) hP hD [2, 0, 3, 1] (by decide) rfl
    exact vx_out (fun x h => (hno x h).elim) hlocks hcell hv9 hcl (fun t ht hvm => ⟨(), trivial, ⟨hE, by rw [ht]; exact hP9, hD9⟩, hS.F ht⟩) hS.2.2 (Nat.le_of_ble_eq_true rfl) (Nat.le_of_ble_eq_true rfl)
  · skip
    obtain ⟨qn1, hn2, hn3, hP1, hD1⟩ := hB
    rw [ht] at hP1
    obtain ⟨hP, hD⟩ := PDq.join (w := [(oX0 a0 p0 a1 a3 a4 a5 a6 i6 i7 i8 i9 i10 i11 i12 i13 i14 i15 i16 i17 i18 i19), (a5, .inl (cA 0, 10, .inl ff)), (oX9 h0 b0 (nI nb) p0 u0 r0 a0 t0 s0 o0), (oX3 p0 pr pb pe pg p1 (nI nd) p2 p3 p4 p5 (nI cn) p6 (nI pq) p7 p8 p9 (nI sc))]) 2 hP hD [0, 2] [1, 3] rfl rfl (by decide) (by decide) hk1 hFc hP1 hD1 rfl
    generalize H1 = H at hP hS ⊢
    rw [hn3] at hl
    have hl : lv_has ls 2 [(0, .ref h0), (1, .int (nI qn1))] := hl
    refine lv_aload_n hx hb dX9_frozen_5 rfl (lv_at hl 0 rfl) ?_
    refine va_get (D := D) (ci := 10) (v := .ref a0) (C := RX9) (T := TX9) (N := 9) hx hb hts inX9 hown hK hP 2 rfl rfl 5 (by decide) (hts (.fieldLink RX9 35 "EscrowDesk" "account" "LEscrowDesk$Account;") (by decide +kernel)) (fun _ h9 => h9) rfl dX9_frozen_6 ?_
    refine va_getN (D := D) (ci := 4) (v := .ref a5) (C := RX0) (T := TX0) (N := 20) hx hb hts inX0 hown hK hP 0 rfl rfl 4 (by decide) (hC.f (A := _) (a := RX9) (i := 133) (b := "EscrowDesk$Account") (n := "frozen") (d := "[I") (x := "EscrowDesk") (by decide +kernel)) (fun _ h9 => h9) rfl dX9_frozen_9 ?_
    refine lv_iload_n hx hb dX9_frozen_12 rfl (lv_at hl 1 rfl) ?_
    refine va_iald hx hb hK hP 1 0 rfl rfl (vp_in_nI (n := qn1) (N := 10) (show qn1 < 10 by omega) (by decide)) dX9_frozen_13 ?_
    refine lv_topi (fun yn4 eyn4 => ?_)
    obtain ⟨hP9, hD9⟩ := PDq.sub (ws' := [(oX9 h0 b0 (nI nb) p0 u0 r0 a0 t0 s0 o0), (oX0 a0 p0 a1 a3 a4 a5 a6 i6 i7 i8 i9 i10 i11 i12 i13 i14 i15 i16 i17 i18 i19), (oX3 p0 pr pb pe pg p1 (nI nd) p2 p3 p4 p5 (nI cn) p6 (nI pq) p7 p8 p9 (nI sc)), (a5, .inl (cA 0, 10, .inl ff))]) hP hD [2, 0, 3, 1] (by decide) rfl
    refine W.widen (k := 1) (n := 6) (Nat.le_of_ble_eq_true rfl) (Nat.le_of_ble_eq_true rfl) ?_
    exact vx_ret (W.iret (v := yn4) hx hb hr (fun t ht hW => ⟨⟨yn4, (), rfl, trivial, by rw [ht]; exact hP9, hD9⟩, hS.F ht⟩) hS.2.2 dX9_frozen_14)

set_option maxHeartbeats 4000000 in
set_option maxRecDepth 100000 in
/-- dueDay -/
theorem s_dueDay (l : Launch) (D : va_G) (cA : Nat → ClassId) (sa : Nat → Nat) (h0 : Nat) (b0 : Nat) (nb : Nat) (p0 : Nat) (u0 : Nat) (r0 : Nat) (a0 : Nat) (t0 : Nat) (s0 : Nat) (o0 : Nat) (a1 : Nat) (a3 : Nat) (a4 : Nat) (a5 : Nat) (a6 : Nat) (i6 : Int32) (i7 : Int32) (i8 : Int32) (i12 : Int32) (i13 : Int32) (i14 : Int32) (i15 : Int32) (i16 : Int32) (i17 : Int32) (i18 : Int32) (i19 : Int32) (i9 : Int64) (i10 : Int64) (i11 : Int64) (p1 : Nat) (p2 : Nat) (p3 : Nat) (p4 : Nat) (p5 : Nat) (p6 : Nat) (p7 : Nat) (p8 : Nat) (p9 : Nat) (cn : Nat) (pq : Nat) (nd : Nat) (sc : Nat) (pr : Int32) (pb : Int32) (pe : Int32) (pg : Int32) (i : Int32) (fd : Nat → Int32) (sz : Nat) (hl9 : l.stackTraces = false) (hcn : cn ≤ 10) (hpq : pq ≤ 8) (hnd : nd ≤ 6) (hsc : sc ≤ 350) : vx_Met l yX9_dueDay wsX9_dueDay ({ frames := 8, cells := 1, slots := 6, locals := 132 }) (va_Pc [.ref h0, .int i] (Wd D cA sa [(oX9 h0 b0 (nI nb) p0 u0 r0 a0 t0 s0 o0), (oX0 a0 p0 a1 a3 a4 a5 a6 i6 i7 i8 i9 i10 i11 i12 i13 i14 i15 i16 i17 i18 i19), (oX3 p0 pr pb pe pg p1 (nI nd) p2 p3 p4 p5 (nI cn) p6 (nI pq) p7 p8 p9 (nI sc)), (a6, .inl (cA 0, 10, .inl fd))] sz)) (va_Qi (fun (r : Int32) (_ : Unit) => True) (fun (_ : Unit) t => Wq D (va_A [(oX9 h0 b0 (nI nb) p0 u0 r0 a0 t0 s0 o0), (oX0 a0 p0 a1 a3 a4 a5 a6 i6 i7 i8 i9 i10 i11 i12 i13 i14 i15 i16 i17 i18 i19), (oX3 p0 pr pb pe pg p1 (nI nd) p2 p3 p4 p5 (nI cn) p6 (nI pq) p7 p8 p9 (nI sc)), (a6, .inl (cA 0, 10, .inl fd))] sz) [(oX9 h0 b0 (nI nb) p0 u0 r0 a0 t0 s0 o0), (oX0 a0 p0 a1 a3 a4 a5 a6 i6 i7 i8 i9 i10 i11 i12 i13 i14 i15 i16 i17 i18 i19), (oX3 p0 pr pb pe pg p1 (nI nd) p2 p3 p4 p5 (nI cn) p6 (nI pq) p7 p8 p9 (nI sc)), (a6, .inl (cA 0, 10, .inl fd))] t) (va_A [(oX9 h0 b0 (nI nb) p0 u0 r0 a0 t0 s0 o0), (oX0 a0 p0 a1 a3 a4 a5 a6 i6 i7 i8 i9 i10 i11 i12 i13 i14 i15 i16 i17 i18 i19), (oX3 p0 pr pb pe pg p1 (nI nd) p2 p3 p4 p5 (nI cn) p6 (nI pq) p7 p8 p9 (nI sc)), (a6, .inl (cA 0, 10, .inl fd))] sz)) (vx_X (fun _ : Unit => True) (fun E _ t => (E = "java/lang/IndexOutOfBoundsException") ∧ Wq D (va_A [(oX9 h0 b0 (nI nb) p0 u0 r0 a0 t0 s0 o0), (oX0 a0 p0 a1 a3 a4 a5 a6 i6 i7 i8 i9 i10 i11 i12 i13 i14 i15 i16 i17 i18 i19), (oX3 p0 pr pb pe pg p1 (nI nd) p2 p3 p4 p5 (nI cn) p6 (nI pq) p7 p8 p9 (nI sc)), (a6, .inl (cA 0, 10, .inl fd))] sz) [(oX9 h0 b0 (nI nb) p0 u0 r0 a0 t0 s0 o0), (oX0 a0 p0 a1 a3 a4 a5 a6 i6 i7 i8 i9 i10 i11 i12 i13 i14 i15 i16 i17 i18 i19), (oX3 p0 pr pb pe pg p1 (nI nd) p2 p3 p4 p5 (nI cn) p6 (nI pq) p7 p8 p9 (nI sc)), (a6, .inl (cA 0, 10, .inl fd))] t) (va_A [(oX9 h0 b0 (nI nb) p0 u0 r0 a0 t0 s0 o0), (oX0 a0 p0 a1 a3 a4 a5 a6 i6 i7 i8 i9 i10 i11 i12 i13 i14 i15 i16 i17 i18 i19), (oX3 p0 pr pb pe pg p1 (nI nd) p2 p3 p4 p5 (nI cn) p6 (nI pq) p7 p8 p9 (nI sc)), (a6, .inl (cA 0, 10, .inl fd))] sz)) 1 6 (va_A [(oX9 h0 b0 (nI nb) p0 u0 r0 a0 t0 s0 o0), (oX0 a0 p0 a1 a3 a4 a5 a6 i6 i7 i8 i9 i10 i11 i12 i13 i14 i15 i16 i17 i18 i19), (oX3 p0 pr pb pe pg p1 (nI nd) p2 p3 p4 p5 (nI cn) p6 (nI pq) p7 p8 p9 (nI sc)), (a6, .inl (cA 0, 10, .inl fd))] sz) := by
  refine vx_ofW (cc := cX9_dueDay) (maxL := 2) (ret := (some .int)) (by decide) rfl ?_
  intro p e s m args below meth c s₁ B hml hno hv
  obtain ⟨rfl, hsz, hP, hK, hD0, hC, hZ⟩ := hv
  have hx := B.exec
  have hb := B.bytes
  have hr := B.returns
  have hts := atoms_spec (ws := wsX9_dueDay) B.pre
  have hown : s.vm.findClass RX9 = some m.cls := findClass_of_methodNamed B.named
  have hlocks := B.notSynchronized
  subst hsz
  have hD := hD0.self (sz := s.heap.size)
  generalize hAe : va_A [(oX9 h0 b0 (nI nb) p0 u0 r0 a0 t0 s0 o0), (oX0 a0 p0 a1 a3 a4 a5 a6 i6 i7 i8 i9 i10 i11 i12 i13 i14 i15 i16 i17 i18 i19), (oX3 p0 pr pb pe pg p1 (nI nd) p2 p3 p4 p5 (nI cn) p6 (nI pq) p7 p8 p9 (nI sc)), (a6, .inl (cA 0, 10, .inl fd))] s.heap.size = A at hD hZ ⊢
  have hA : ∀ q : Nat, s.heap.size ≤ q → A q := fun q h => by rw [← hAe]; exact Or.inr h
  have hS : va_S A s.heap s.heap [] := va_S.rf
  have hP : va_P D vwCl [(oX9 h0 b0 (nI nb) p0 u0 r0 a0 t0 s0 o0), (oX0 a0 p0 a1 a3 a4 a5 a6 i6 i7 i8 i9 i10 i11 i12 i13 i14 i15 i16 i17 i18 i19), (oX3 p0 pr pb pe pg p1 (nI nd) p2 p3 p4 p5 (nI cn) p6 (nI pq) p7 p8 p9 (nI sc)), (a6, .inl (cA 0, 10, .inl fd))] s.heap := hP
  have hl := lv_entry ([.ref h0, .int i]) (n := 2) (Nat.le_of_ble_eq_true rfl)
  rw [lg_entry_eq]
  generalize (lg_sl ([.ref h0, .int i]) ++ List.replicate (2 - (lg_sl ([.ref h0, .int i])).length) Slot.unset).toArray = ls at hl ⊢
  have hl : lv_has ls 2 [(0, .ref h0), (1, .int i)] := hl
  have inX0 : ∀ w ∈ u_ws RX0 TX0 20, w ∈ wsX9_dueDay := by decide +kernel
  have inX9 : ∀ w ∈ u_ws RX9 TX9 9, w ∈ wsX9_dueDay := by decide +kernel
  refine lv_aload_n hx hb dX9_dueDay_0 rfl (lv_at hl 0 rfl) ?_
  refine lv_iload_n hx hb dX9_dueDay_1 rfl (lv_at hl 1 rfl) ?_
  obtain ⟨hPc, hDc, hFc⟩ := PDq.cut (wc := [(oX9 h0 b0 (nI nb) p0 u0 r0 a0 t0 s0 o0), (oX3 p0 pr pb pe pg p1 (nI nd) p2 p3 p4 p5 (nI cn) p6 (nI pq) p7 p8 p9 (nI sc))]) hP hD hS hA [0, 2] (by decide) rfl
  refine vx_callv (vx_runV (As := [.int i]) (rest := []) ⟨hx, hb, hml, hown, hts⟩ (s_needMilestone l D cA sa h0 b0 nb p0 u0 r0 a0 t0 s0 o0 p1 p2 p3 p4 p5 p6 p7 p8 p9 cn pq nd sc pr pb pe pg i s.heap.size hl9 hcn hpq hnd hsc) (cwV 1 hts gX9_dueDay_X9_needMilestone rfl rfl rfl (by decide +kernel) ⟨(Nat.le_of_ble_eq_true rfl), (Nat.le_of_ble_eq_true rfl)⟩) ⟨Wd.blind, va_recv hK hPc (ci := 10) (q0 := 0) rfl rfl, fun U hU hW => ⟨rfl, Wd.call hPc hDc hK hC hZ hS hFc U hU hW⟩⟩ rfl rfl hl.1 rfl (lv_room (Nat.le_of_ble_eq_true rfl)) dX9_dueDay_2 ⟨(Nat.le_of_ble_eq_true rfl), (Nat.le_of_ble_eq_true rfl)⟩) hS (fun q _ h => hFc q h) hFc (fun q _ h => hFc q h) (fun E ce q9 u t H1 locs ht hvm hpx hE hz1 hk1 hS hcell hv9 hcl => ?_) (fun u t H1 locs ht hvm hw hB hz1 hk1 hS => ?_)
  · skip
    obtain ⟨hE, hP1, hD1⟩ := hE
    rw [ht] at hP1
    obtain ⟨hP, hD⟩ := PDq.join (w := [(oX0 a0 p0 a1 a3 a4 a5 a6 i6 i7 i8 i9 i10 i11 i12 i13 i14 i15 i16 i17 i18 i19), (a6, .inl (cA 0, 10, .inl fd)), (oX9 h0 b0 (nI nb) p0 u0 r0 a0 t0 s0 o0), (oX3 p0 pr pb pe pg p1 (nI nd) p2 p3 p4 p5 (nI cn) p6 (nI pq) p7 p8 p9 (nI sc))]) 2 hP hD [0, 2] [1, 3] rfl rfl (by decide) (by decide) hk1 hFc hP1 hD1 rfl
    generalize H1 = H at hP hS hcell ⊢
    obtain ⟨hP9, hD9⟩ := PDq.sub (ws' := [(oX9 h0 b0 (nI nb) p0 u0 r0 a0 t0 s0 o0), (oX0 a0 p0 a1 a3 a4 a5 a6 i6 i7 i8 i9 i10 i11 i12 i13 i14 i15 i16 i17 i18 i19), (oX3 p0 pr pb pe pg p1 (nI nd) p2 p3 p4 p5 (nI cn) p6 (nI pq) p7 p8 p9 (nI sc)), (a6, .inl (cA 0, 10, .inl fd))]) hP hD [2, 0, 3, 1] (by decide) rfl
    exact vx_out (fun x h => (hno x h).elim) hlocks hcell hv9 hcl (fun t ht hvm => ⟨(), trivial, ⟨hE, by rw [ht]; exact hP9, hD9⟩, hS.F ht⟩) hS.2.2 (Nat.le_of_ble_eq_true rfl) (Nat.le_of_ble_eq_true rfl)
  · skip
    obtain ⟨qn1, hn2, hn3, hP1, hD1⟩ := hB
    rw [ht] at hP1
    obtain ⟨hP, hD⟩ := PDq.join (w := [(oX0 a0 p0 a1 a3 a4 a5 a6 i6 i7 i8 i9 i10 i11 i12 i13 i14 i15 i16 i17 i18 i19), (a6, .inl (cA 0, 10, .inl fd)), (oX9 h0 b0 (nI nb) p0 u0 r0 a0 t0 s0 o0), (oX3 p0 pr pb pe pg p1 (nI nd) p2 p3 p4 p5 (nI cn) p6 (nI pq) p7 p8 p9 (nI sc))]) 2 hP hD [0, 2] [1, 3] rfl rfl (by decide) (by decide) hk1 hFc hP1 hD1 rfl
    generalize H1 = H at hP hS ⊢
    rw [hn3] at hl
    have hl : lv_has ls 2 [(0, .ref h0), (1, .int (nI qn1))] := hl
    refine lv_aload_n hx hb dX9_dueDay_5 rfl (lv_at hl 0 rfl) ?_
    refine va_get (D := D) (ci := 10) (v := .ref a0) (C := RX9) (T := TX9) (N := 9) hx hb hts inX9 hown hK hP 2 rfl rfl 5 (by decide) (hts (.fieldLink RX9 35 "EscrowDesk" "account" "LEscrowDesk$Account;") (by decide +kernel)) (fun _ h9 => h9) rfl dX9_dueDay_6 ?_
    refine va_getN (D := D) (ci := 4) (v := .ref a6) (C := RX0) (T := TX0) (N := 20) hx hb hts inX0 hown hK hP 0 rfl rfl 5 (by decide) (hC.f (A := _) (a := RX9) (i := 136) (b := "EscrowDesk$Account") (n := "dueDay") (d := "[I") (x := "EscrowDesk") (by decide +kernel)) (fun _ h9 => h9) rfl dX9_dueDay_9 ?_
    refine lv_iload_n hx hb dX9_dueDay_12 rfl (lv_at hl 1 rfl) ?_
    refine va_iald hx hb hK hP 1 0 rfl rfl (vp_in_nI (n := qn1) (N := 10) (show qn1 < 10 by omega) (by decide)) dX9_dueDay_13 ?_
    refine lv_topi (fun yn4 eyn4 => ?_)
    obtain ⟨hP9, hD9⟩ := PDq.sub (ws' := [(oX9 h0 b0 (nI nb) p0 u0 r0 a0 t0 s0 o0), (oX0 a0 p0 a1 a3 a4 a5 a6 i6 i7 i8 i9 i10 i11 i12 i13 i14 i15 i16 i17 i18 i19), (oX3 p0 pr pb pe pg p1 (nI nd) p2 p3 p4 p5 (nI cn) p6 (nI pq) p7 p8 p9 (nI sc)), (a6, .inl (cA 0, 10, .inl fd))]) hP hD [2, 0, 3, 1] (by decide) rfl
    refine W.widen (k := 1) (n := 6) (Nat.le_of_ble_eq_true rfl) (Nat.le_of_ble_eq_true rfl) ?_
    exact vx_ret (W.iret (v := yn4) hx hb hr (fun t ht hW => ⟨⟨yn4, (), rfl, trivial, by rw [ht]; exact hP9, hD9⟩, hS.F ht⟩) hS.2.2 dX9_dueDay_14)

set_option maxHeartbeats 4000000 in
set_option maxRecDepth 100000 in
/-- remaining -/
theorem s_remaining (l : Launch) (D : va_G) (cA : Nat → ClassId) (sa : Nat → Nat) (h0 : Nat) (b0 : Nat) (nb : Nat) (p0 : Nat) (u0 : Nat) (r0 : Nat) (a0 : Nat) (t0 : Nat) (s0 : Nat) (o0 : Nat) (a1 : Nat) (a3 : Nat) (a4 : Nat) (a5 : Nat) (a6 : Nat) (i6 : Int32) (i7 : Int32) (i8 : Int32) (i12 : Int32) (i13 : Int32) (i14 : Int32) (i15 : Int32) (i16 : Int32) (i17 : Int32) (i18 : Int32) (i19 : Int32) (i9 : Int64) (i10 : Int64) (i11 : Int64) (p1 : Nat) (p2 : Nat) (p3 : Nat) (p4 : Nat) (p5 : Nat) (p6 : Nat) (p7 : Nat) (p8 : Nat) (p9 : Nat) (cn : Nat) (pq : Nat) (nd : Nat) (sc : Nat) (pr : Int32) (pb : Int32) (pe : Int32) (pg : Int32) (i : Int32) (fs : Nat → Int32) (fp : Nat → Int32) (fam : Nat → Int32) (sz : Nat) (hl9 : l.stackTraces = false) (hcn : cn ≤ 10) (hpq : pq ≤ 8) (hnd : nd ≤ 6) (hsc : sc ≤ 350) : vx_Met l yX9_remaining wsX9_remaining ({ frames := 8, cells := 1, slots := 6, locals := 132 }) (va_Pc [.ref h0, .int i] (Wd D cA sa [(oX9 h0 b0 (nI nb) p0 u0 r0 a0 t0 s0 o0), (oX0 a0 p0 a1 a3 a4 a5 a6 i6 i7 i8 i9 i10 i11 i12 i13 i14 i15 i16 i17 i18 i19), (oX3 p0 pr pb pe pg p1 (nI nd) p2 p3 p4 p5 (nI cn) p6 (nI pq) p7 p8 p9 (nI sc)), (a3, .inl (cA 0, 10, .inl fs)), (a4, .inl (cA 0, 10, .inl fp)), (p3, .inl (cA 0, 10, .inl fam))] sz)) (va_Qi (fun (r : Int32) (_ : Unit) => True) (fun (_ : Unit) t => Wq D (va_A [(oX9 h0 b0 (nI nb) p0 u0 r0 a0 t0 s0 o0), (oX0 a0 p0 a1 a3 a4 a5 a6 i6 i7 i8 i9 i10 i11 i12 i13 i14 i15 i16 i17 i18 i19), (oX3 p0 pr pb pe pg p1 (nI nd) p2 p3 p4 p5 (nI cn) p6 (nI pq) p7 p8 p9 (nI sc)), (a3, .inl (cA 0, 10, .inl fs)), (a4, .inl (cA 0, 10, .inl fp)), (p3, .inl (cA 0, 10, .inl fam))] sz) [(oX9 h0 b0 (nI nb) p0 u0 r0 a0 t0 s0 o0), (oX0 a0 p0 a1 a3 a4 a5 a6 i6 i7 i8 i9 i10 i11 i12 i13 i14 i15 i16 i17 i18 i19), (oX3 p0 pr pb pe pg p1 (nI nd) p2 p3 p4 p5 (nI cn) p6 (nI pq) p7 p8 p9 (nI sc)), (a3, .inl (cA 0, 10, .inl fs)), (a4, .inl (cA 0, 10, .inl fp)), (p3, .inl (cA 0, 10, .inl fam))] t) (va_A [(oX9 h0 b0 (nI nb) p0 u0 r0 a0 t0 s0 o0), (oX0 a0 p0 a1 a3 a4 a5 a6 i6 i7 i8 i9 i10 i11 i12 i13 i14 i15 i16 i17 i18 i19), (oX3 p0 pr pb pe pg p1 (nI nd) p2 p3 p4 p5 (nI cn) p6 (nI pq) p7 p8 p9 (nI sc)), (a3, .inl (cA 0, 10, .inl fs)), (a4, .inl (cA 0, 10, .inl fp)), (p3, .inl (cA 0, 10, .inl fam))] sz)) (vx_X (fun _ : Unit => True) (fun E _ t => (E = "java/lang/IndexOutOfBoundsException") ∧ Wq D (va_A [(oX9 h0 b0 (nI nb) p0 u0 r0 a0 t0 s0 o0), (oX0 a0 p0 a1 a3 a4 a5 a6 i6 i7 i8 i9 i10 i11 i12 i13 i14 i15 i16 i17 i18 i19), (oX3 p0 pr pb pe pg p1 (nI nd) p2 p3 p4 p5 (nI cn) p6 (nI pq) p7 p8 p9 (nI sc)), (a3, .inl (cA 0, 10, .inl fs)), (a4, .inl (cA 0, 10, .inl fp)), (p3, .inl (cA 0, 10, .inl fam))] sz) [(oX9 h0 b0 (nI nb) p0 u0 r0 a0 t0 s0 o0), (oX0 a0 p0 a1 a3 a4 a5 a6 i6 i7 i8 i9 i10 i11 i12 i13 i14 i15 i16 i17 i18 i19), (oX3 p0 pr pb pe pg p1 (nI nd) p2 p3 p4 p5 (nI cn) p6 (nI pq) p7 p8 p9 (nI sc)), (a3, .inl (cA 0, 10, .inl fs)), (a4, .inl (cA 0, 10, .inl fp)), (p3, .inl (cA 0, 10, .inl fam))] t) (va_A [(oX9 h0 b0 (nI nb) p0 u0 r0 a0 t0 s0 o0), (oX0 a0 p0 a1 a3 a4 a5 a6 i6 i7 i8 i9 i10 i11 i12 i13 i14 i15 i16 i17 i18 i19), (oX3 p0 pr pb pe pg p1 (nI nd) p2 p3 p4 p5 (nI cn) p6 (nI pq) p7 p8 p9 (nI sc)), (a3, .inl (cA 0, 10, .inl fs)), (a4, .inl (cA 0, 10, .inl fp)), (p3, .inl (cA 0, 10, .inl fam))] sz)) 1 6 (va_A [(oX9 h0 b0 (nI nb) p0 u0 r0 a0 t0 s0 o0), (oX0 a0 p0 a1 a3 a4 a5 a6 i6 i7 i8 i9 i10 i11 i12 i13 i14 i15 i16 i17 i18 i19), (oX3 p0 pr pb pe pg p1 (nI nd) p2 p3 p4 p5 (nI cn) p6 (nI pq) p7 p8 p9 (nI sc)), (a3, .inl (cA 0, 10, .inl fs)), (a4, .inl (cA 0, 10, .inl fp)), (p3, .inl (cA 0, 10, .inl fam))] sz) := by
  refine vx_ofW (cc := cX9_remaining) (maxL := 2) (ret := (some .int)) (by decide) rfl ?_
  intro p e s m args below meth c s₁ B hml hno hv
  obtain ⟨rfl, hsz, hP, hK, hD0, hC, hZ⟩ := hv
  have hx := B.exec
  have hb := B.bytes
  have hr := B.returns
  have hts := atoms_spec (ws := wsX9_remaining) B.pre
  have hown : s.vm.findClass RX9 = some m.cls := findClass_of_methodNamed B.named
  have hlocks := B.notSynchronized
  subst hsz
  have hD := hD0.self (sz := s.heap.size)
  generalize hAe : va_A [(oX9 h0 b0 (nI nb) p0 u0 r0 a0 t0 s0 o0), (oX0 a0 p0 a1 a3 a4 a5 a6 i6 i7 i8 i9 i10 i11 i12 i13 i14 i15 i16 i17 i18 i19), (oX3 p0 pr pb pe pg p1 (nI nd) p2 p3 p4 p5 (nI cn) p6 (nI pq) p7 p8 p9 (nI sc)), (a3, .inl (cA 0, 10, .inl fs)), (a4, .inl (cA 0, 10, .inl fp)), (p3, .inl (cA 0, 10, .inl fam))] s.heap.size = A at hD hZ ⊢
  have hA : ∀ q : Nat, s.heap.size ≤ q → A q := fun q h => by rw [← hAe]; exact Or.inr h
  have hS : va_S A s.heap s.heap [] := va_S.rf
  have hP : va_P D vwCl [(oX9 h0 b0 (nI nb) p0 u0 r0 a0 t0 s0 o0), (oX0 a0 p0 a1 a3 a4 a5 a6 i6 i7 i8 i9 i10 i11 i12 i13 i14 i15 i16 i17 i18 i19), (oX3 p0 pr pb pe pg p1 (nI nd) p2 p3 p4 p5 (nI cn) p6 (nI pq) p7 p8 p9 (nI sc)), (a3, .inl (cA 0, 10, .inl fs)), (a4, .inl (cA 0, 10, .inl fp)), (p3, .inl (cA 0, 10, .inl fam))] s.heap := hP
  have hl := lv_entry ([.ref h0, .int i]) (n := 2) (Nat.le_of_ble_eq_true rfl)
  rw [lg_entry_eq]
  generalize (lg_sl ([.ref h0, .int i]) ++ List.replicate (2 - (lg_sl ([.ref h0, .int i])).length) Slot.unset).toArray = ls at hl ⊢
  have hl : lv_has ls 2 [(0, .ref h0), (1, .int i)] := hl
  have inX9 : ∀ w ∈ u_ws RX9 TX9 9, w ∈ wsX9_remaining := by decide +kernel
  refine lv_aload_n hx hb dX9_remaining_0 rfl (lv_at hl 0 rfl) ?_
  refine lv_iload_n hx hb dX9_remaining_1 rfl (lv_at hl 1 rfl) ?_
  obtain ⟨hPc, hDc, hFc⟩ := PDq.cut (wc := [(oX9 h0 b0 (nI nb) p0 u0 r0 a0 t0 s0 o0), (oX3 p0 pr pb pe pg p1 (nI nd) p2 p3 p4 p5 (nI cn) p6 (nI pq) p7 p8 p9 (nI sc))]) hP hD hS hA [0, 2] (by decide) rfl
  refine vx_callv (vx_runV (As := [.int i]) (rest := []) ⟨hx, hb, hml, hown, hts⟩ (s_needMilestone l D cA sa h0 b0 nb p0 u0 r0 a0 t0 s0 o0 p1 p2 p3 p4 p5 p6 p7 p8 p9 cn pq nd sc pr pb pe pg i s.heap.size hl9 hcn hpq hnd hsc) (cwV 1 hts gX9_remaining_X9_needMilestone rfl rfl rfl (by decide +kernel) ⟨(Nat.le_of_ble_eq_true rfl), (Nat.le_of_ble_eq_true rfl)⟩) ⟨Wd.blind, va_recv hK hPc (ci := 10) (q0 := 0) rfl rfl, fun U hU hW => ⟨rfl, Wd.call hPc hDc hK hC hZ hS hFc U hU hW⟩⟩ rfl rfl hl.1 rfl (lv_room (Nat.le_of_ble_eq_true rfl)) dX9_remaining_2 ⟨(Nat.le_of_ble_eq_true rfl), (Nat.le_of_ble_eq_true rfl)⟩) hS (fun q _ h => hFc q h) hFc (fun q _ h => hFc q h) (fun E ce q9 u t H1 locs ht hvm hpx hE hz1 hk1 hS hcell hv9 hcl => ?_) (fun u t H1 locs ht hvm hw hB hz1 hk1 hS => ?_)
  · skip
    obtain ⟨hE, hP1, hD1⟩ := hE
    rw [ht] at hP1
    obtain ⟨hP, hD⟩ := PDq.join (w := [(oX0 a0 p0 a1 a3 a4 a5 a6 i6 i7 i8 i9 i10 i11 i12 i13 i14 i15 i16 i17 i18 i19), (a3, .inl (cA 0, 10, .inl fs)), (a4, .inl (cA 0, 10, .inl fp)), (p3, .inl (cA 0, 10, .inl fam)), (oX9 h0 b0 (nI nb) p0 u0 r0 a0 t0 s0 o0), (oX3 p0 pr pb pe pg p1 (nI nd) p2 p3 p4 p5 (nI cn) p6 (nI pq) p7 p8 p9 (nI sc))]) 4 hP hD [0, 2] [1, 3, 4, 5] rfl rfl (by decide) (by decide) hk1 hFc hP1 hD1 rfl
    generalize H1 = H at hP hS hcell ⊢
    obtain ⟨hP9, hD9⟩ := PDq.sub (ws' := [(oX9 h0 b0 (nI nb) p0 u0 r0 a0 t0 s0 o0), (oX0 a0 p0 a1 a3 a4 a5 a6 i6 i7 i8 i9 i10 i11 i12 i13 i14 i15 i16 i17 i18 i19), (oX3 p0 pr pb pe pg p1 (nI nd) p2 p3 p4 p5 (nI cn) p6 (nI pq) p7 p8 p9 (nI sc)), (a3, .inl (cA 0, 10, .inl fs)), (a4, .inl (cA 0, 10, .inl fp)), (p3, .inl (cA 0, 10, .inl fam))]) hP hD [4, 0, 5, 1, 2, 3] (by decide) rfl
    exact vx_out (fun x h => (hno x h).elim) hlocks hcell hv9 hcl (fun t ht hvm => ⟨(), trivial, ⟨hE, by rw [ht]; exact hP9, hD9⟩, hS.F ht⟩) hS.2.2 (Nat.le_of_ble_eq_true rfl) (Nat.le_of_ble_eq_true rfl)
  · skip
    obtain ⟨qn1, hn2, hn3, hP1, hD1⟩ := hB
    rw [ht] at hP1
    obtain ⟨hP, hD⟩ := PDq.join (w := [(oX0 a0 p0 a1 a3 a4 a5 a6 i6 i7 i8 i9 i10 i11 i12 i13 i14 i15 i16 i17 i18 i19), (a3, .inl (cA 0, 10, .inl fs)), (a4, .inl (cA 0, 10, .inl fp)), (p3, .inl (cA 0, 10, .inl fam)), (oX9 h0 b0 (nI nb) p0 u0 r0 a0 t0 s0 o0), (oX3 p0 pr pb pe pg p1 (nI nd) p2 p3 p4 p5 (nI cn) p6 (nI pq) p7 p8 p9 (nI sc))]) 4 hP hD [0, 2] [1, 3, 4, 5] rfl rfl (by decide) (by decide) hk1 hFc hP1 hD1 rfl
    generalize H1 = H at hP hS ⊢
    rw [hn3] at hl
    have hl : lv_has ls 2 [(0, .ref h0), (1, .int (nI qn1))] := hl
    refine lv_aload_n hx hb dX9_remaining_5 rfl (lv_at hl 0 rfl) ?_
    refine va_get (D := D) (ci := 10) (v := .ref a0) (C := RX9) (T := TX9) (N := 9) hx hb hts inX9 hown hK hP 4 rfl rfl 5 (by decide) (hts (.fieldLink RX9 35 "EscrowDesk" "account" "LEscrowDesk$Account;") (by decide +kernel)) (fun _ h9 => h9) rfl dX9_remaining_6 ?_
    refine lv_iload_n hx hb dX9_remaining_9 rfl (lv_at hl 1 rfl) ?_
    obtain ⟨hPc, hDc, hFc⟩ := PDq.cut (wc := [(oX0 a0 p0 a1 a3 a4 a5 a6 i6 i7 i8 i9 i10 i11 i12 i13 i14 i15 i16 i17 i18 i19), (oX3 p0 pr pb pe pg p1 (nI nd) p2 p3 p4 p5 (nI cn) p6 (nI pq) p7 p8 p9 (nI sc)), (a3, .inl (cA 0, 10, .inl fs)), (a4, .inl (cA 0, 10, .inl fp)), (p3, .inl (cA 0, 10, .inl fam))]) hP hD hS hA [0, 5, 1, 2, 3] (by decide) rfl
    refine va_calli (va_runV (As := [.int (nI qn1)]) (rest := []) ⟨hx, hb, hml, hown, hts⟩ (s_remainingOf l D cA sa a0 a1 a3 a4 a5 a6 p0 i6 i7 i8 i12 i13 i14 i15 i16 i17 i18 i19 i9 i10 i11 p1 p2 p3 p4 p5 p6 p7 p8 p9 cn pq nd sc pr pb pe pg qn1 fs fp fam H.size (by omega)) (cwV 1 hts gX9_remaining_X0_remainingOf rfl rfl rfl (by decide +kernel) ⟨(Nat.le_of_ble_eq_true rfl), (Nat.le_of_ble_eq_true rfl)⟩) ⟨Wd.blind, va_recv hK hPc (ci := 4) (q0 := 0) rfl rfl, fun U hU hW => ⟨rfl, Wd.call hPc hDc hK hC hZ hS hFc U hU hW⟩⟩ rfl rfl hl.1 rfl (lv_room (Nat.le_of_ble_eq_true rfl)) dX9_remaining_10 ⟨(Nat.le_of_ble_eq_true rfl), (Nat.le_of_ble_eq_true rfl)⟩) hS (fun q _ h => hFc q h) hFc (fun rn4 u t H1 locs ht hvm hw hB hz1 hk1 hS => ?_)
    obtain ⟨hP1, hD1⟩ := hB
    rw [ht] at hP1
    obtain ⟨hP, hD⟩ := PDq.join (w := [(oX9 h0 b0 (nI nb) p0 u0 r0 a0 t0 s0 o0), (oX0 a0 p0 a1 a3 a4 a5 a6 i6 i7 i8 i9 i10 i11 i12 i13 i14 i15 i16 i17 i18 i19), (oX3 p0 pr pb pe pg p1 (nI nd) p2 p3 p4 p5 (nI cn) p6 (nI pq) p7 p8 p9 (nI sc)), (a3, .inl (cA 0, 10, .inl fs)), (a4, .inl (cA 0, 10, .inl fp)), (p3, .inl (cA 0, 10, .inl fam))]) 1 hP hD [0, 5, 1, 2, 3] [4] rfl rfl (by decide) (by decide) hk1 hFc hP1 hD1 rfl
    generalize H1 = H at hP hS ⊢
    obtain ⟨hP9, hD9⟩ := PDq.sub (ws' := [(oX9 h0 b0 (nI nb) p0 u0 r0 a0 t0 s0 o0), (oX0 a0 p0 a1 a3 a4 a5 a6 i6 i7 i8 i9 i10 i11 i12 i13 i14 i15 i16 i17 i18 i19), (oX3 p0 pr pb pe pg p1 (nI nd) p2 p3 p4 p5 (nI cn) p6 (nI pq) p7 p8 p9 (nI sc)), (a3, .inl (cA 0, 10, .inl fs)), (a4, .inl (cA 0, 10, .inl fp)), (p3, .inl (cA 0, 10, .inl fam))]) hP hD [0, 1, 2, 3, 4, 5] (by decide) rfl
    refine W.widen (k := 1) (n := 6) (Nat.le_of_ble_eq_true rfl) (Nat.le_of_ble_eq_true rfl) ?_
    exact vx_ret (W.iret (v := rn4) hx hb hr (fun t ht hW => ⟨⟨rn4, (), rfl, trivial, by rw [ht]; exact hP9, hD9⟩, hS.F ht⟩) hS.2.2 dX9_remaining_13)

set_option maxHeartbeats 4000000 in
set_option maxRecDepth 100000 in
/-- holds -/
theorem s_holds (l : Launch) (D : va_G) (cA : Nat → ClassId) (sa : Nat → Nat) (h0 : Nat) (b0 : Nat) (nb : Nat) (p0 : Nat) (u0 : Nat) (r0 : Nat) (a0 : Nat) (t0 : Nat) (s0 : Nat) (o0 : Nat) (a1 : Nat) (a3 : Nat) (a4 : Nat) (a5 : Nat) (a6 : Nat) (i6 : Int32) (i7 : Int32) (i8 : Int32) (i12 : Int32) (i13 : Int32) (i14 : Int32) (i15 : Int32) (i16 : Int32) (i17 : Int32) (i18 : Int32) (i19 : Int32) (i9 : Int64) (i10 : Int64) (i11 : Int64) (p1 : Nat) (p2 : Nat) (p3 : Nat) (p4 : Nat) (p5 : Nat) (p6 : Nat) (p7 : Nat) (p8 : Nat) (p9 : Nat) (cn : Nat) (pq : Nat) (nd : Nat) (sc : Nat) (pr : Int32) (pb : Int32) (pe : Int32) (pg : Int32) (fen : Nat → Int32) (fst : Nat → Int32) (fop : Nat → Int32) (fs : Nat → Int32) (i : Int32) (sz : Nat) (hl9 : l.stackTraces = false) (hcn : cn ≤ 10) (hpq : pq ≤ 8) (hnd : nd ≤ 6) (hsc : sc ≤ 350) (hen : Rng 10 351 fen) : vx_Met l yX9_holds wsX9_holds ({ frames := 8, cells := 1, slots := 6, locals := 132 }) (va_Pc [.ref h0, .int i] (Wd D cA sa [(oX9 h0 b0 (nI nb) p0 u0 r0 a0 t0 s0 o0), (oX0 a0 p0 a1 a3 a4 a5 a6 i6 i7 i8 i9 i10 i11 i12 i13 i14 i15 i16 i17 i18 i19), (oX3 p0 pr pb pe pg p1 (nI nd) p2 p3 p4 p5 (nI cn) p6 (nI pq) p7 p8 p9 (nI sc)), (p9, .inl (cA 0, 10, .inl fen)), (p7, .inl (cA 0, 350, .inl fst)), (p8, .inl (cA 0, 350, .inl fop)), (a3, .inl (cA 0, 10, .inl fs))] sz)) (va_Qi (fun (r : Int32) (_ : Unit) => r = 0 ∨ r = 1) (fun (_ : Unit) t => Wq D (va_A [(oX9 h0 b0 (nI nb) p0 u0 r0 a0 t0 s0 o0), (oX0 a0 p0 a1 a3 a4 a5 a6 i6 i7 i8 i9 i10 i11 i12 i13 i14 i15 i16 i17 i18 i19), (oX3 p0 pr pb pe pg p1 (nI nd) p2 p3 p4 p5 (nI cn) p6 (nI pq) p7 p8 p9 (nI sc)), (p9, .inl (cA 0, 10, .inl fen)), (p7, .inl (cA 0, 350, .inl fst)), (p8, .inl (cA 0, 350, .inl fop)), (a3, .inl (cA 0, 10, .inl fs))] sz) [(oX9 h0 b0 (nI nb) p0 u0 r0 a0 t0 s0 o0), (oX0 a0 p0 a1 a3 a4 a5 a6 i6 i7 i8 i9 i10 i11 i12 i13 i14 i15 i16 i17 i18 i19), (oX3 p0 pr pb pe pg p1 (nI nd) p2 p3 p4 p5 (nI cn) p6 (nI pq) p7 p8 p9 (nI sc)), (p9, .inl (cA 0, 10, .inl fen)), (p7, .inl (cA 0, 350, .inl fst)), (p8, .inl (cA 0, 350, .inl fop)), (a3, .inl (cA 0, 10, .inl fs))] t) (va_A [(oX9 h0 b0 (nI nb) p0 u0 r0 a0 t0 s0 o0), (oX0 a0 p0 a1 a3 a4 a5 a6 i6 i7 i8 i9 i10 i11 i12 i13 i14 i15 i16 i17 i18 i19), (oX3 p0 pr pb pe pg p1 (nI nd) p2 p3 p4 p5 (nI cn) p6 (nI pq) p7 p8 p9 (nI sc)), (p9, .inl (cA 0, 10, .inl fen)), (p7, .inl (cA 0, 350, .inl fst)), (p8, .inl (cA 0, 350, .inl fop)), (a3, .inl (cA 0, 10, .inl fs))] sz)) (vx_X (fun _ : Unit => True) (fun E _ t => (E = "java/lang/IndexOutOfBoundsException") ∧ Wq D (va_A [(oX9 h0 b0 (nI nb) p0 u0 r0 a0 t0 s0 o0), (oX0 a0 p0 a1 a3 a4 a5 a6 i6 i7 i8 i9 i10 i11 i12 i13 i14 i15 i16 i17 i18 i19), (oX3 p0 pr pb pe pg p1 (nI nd) p2 p3 p4 p5 (nI cn) p6 (nI pq) p7 p8 p9 (nI sc)), (p9, .inl (cA 0, 10, .inl fen)), (p7, .inl (cA 0, 350, .inl fst)), (p8, .inl (cA 0, 350, .inl fop)), (a3, .inl (cA 0, 10, .inl fs))] sz) [(oX9 h0 b0 (nI nb) p0 u0 r0 a0 t0 s0 o0), (oX0 a0 p0 a1 a3 a4 a5 a6 i6 i7 i8 i9 i10 i11 i12 i13 i14 i15 i16 i17 i18 i19), (oX3 p0 pr pb pe pg p1 (nI nd) p2 p3 p4 p5 (nI cn) p6 (nI pq) p7 p8 p9 (nI sc)), (p9, .inl (cA 0, 10, .inl fen)), (p7, .inl (cA 0, 350, .inl fst)), (p8, .inl (cA 0, 350, .inl fop)), (a3, .inl (cA 0, 10, .inl fs))] t) (va_A [(oX9 h0 b0 (nI nb) p0 u0 r0 a0 t0 s0 o0), (oX0 a0 p0 a1 a3 a4 a5 a6 i6 i7 i8 i9 i10 i11 i12 i13 i14 i15 i16 i17 i18 i19), (oX3 p0 pr pb pe pg p1 (nI nd) p2 p3 p4 p5 (nI cn) p6 (nI pq) p7 p8 p9 (nI sc)), (p9, .inl (cA 0, 10, .inl fen)), (p7, .inl (cA 0, 350, .inl fst)), (p8, .inl (cA 0, 350, .inl fop)), (a3, .inl (cA 0, 10, .inl fs))] sz)) 1 6 (va_A [(oX9 h0 b0 (nI nb) p0 u0 r0 a0 t0 s0 o0), (oX0 a0 p0 a1 a3 a4 a5 a6 i6 i7 i8 i9 i10 i11 i12 i13 i14 i15 i16 i17 i18 i19), (oX3 p0 pr pb pe pg p1 (nI nd) p2 p3 p4 p5 (nI cn) p6 (nI pq) p7 p8 p9 (nI sc)), (p9, .inl (cA 0, 10, .inl fen)), (p7, .inl (cA 0, 350, .inl fst)), (p8, .inl (cA 0, 350, .inl fop)), (a3, .inl (cA 0, 10, .inl fs))] sz) := by
  refine vx_ofW (cc := cX9_holds) (maxL := 2) (ret := (some .boolean)) (by decide) rfl ?_
  intro p e s m args below meth c s₁ B hml hno hv
  obtain ⟨rfl, hsz, hP, hK, hD0, hC, hZ⟩ := hv
  have hx := B.exec
  have hb := B.bytes
  have hr := B.returns
  have hts := atoms_spec (ws := wsX9_holds) B.pre
  have hown : s.vm.findClass RX9 = some m.cls := findClass_of_methodNamed B.named
  have hlocks := B.notSynchronized
  subst hsz
  have hD := hD0.self (sz := s.heap.size)
  generalize hAe : va_A [(oX9 h0 b0 (nI nb) p0 u0 r0 a0 t0 s0 o0), (oX0 a0 p0 a1 a3 a4 a5 a6 i6 i7 i8 i9 i10 i11 i12 i13 i14 i15 i16 i17 i18 i19), (oX3 p0 pr pb pe pg p1 (nI nd) p2 p3 p4 p5 (nI cn) p6 (nI pq) p7 p8 p9 (nI sc)), (p9, .inl (cA 0, 10, .inl fen)), (p7, .inl (cA 0, 350, .inl fst)), (p8, .inl (cA 0, 350, .inl fop)), (a3, .inl (cA 0, 10, .inl fs))] s.heap.size = A at hD hZ ⊢
  have hA : ∀ q : Nat, s.heap.size ≤ q → A q := fun q h => by rw [← hAe]; exact Or.inr h
  have hS : va_S A s.heap s.heap [] := va_S.rf
  have hP : va_P D vwCl [(oX9 h0 b0 (nI nb) p0 u0 r0 a0 t0 s0 o0), (oX0 a0 p0 a1 a3 a4 a5 a6 i6 i7 i8 i9 i10 i11 i12 i13 i14 i15 i16 i17 i18 i19), (oX3 p0 pr pb pe pg p1 (nI nd) p2 p3 p4 p5 (nI cn) p6 (nI pq) p7 p8 p9 (nI sc)), (p9, .inl (cA 0, 10, .inl fen)), (p7, .inl (cA 0, 350, .inl fst)), (p8, .inl (cA 0, 350, .inl fop)), (a3, .inl (cA 0, 10, .inl fs))] s.heap := hP
  have hl := lv_entry ([.ref h0, .int i]) (n := 2) (Nat.le_of_ble_eq_true rfl)
  rw [lg_entry_eq]
  generalize (lg_sl ([.ref h0, .int i]) ++ List.replicate (2 - (lg_sl ([.ref h0, .int i])).length) Slot.unset).toArray = ls at hl ⊢
  have hl : lv_has ls 2 [(0, .ref h0), (1, .int i)] := hl
  have inX0 : ∀ w ∈ u_ws RX0 TX0 20, w ∈ wsX9_holds := by decide +kernel
  have inX9 : ∀ w ∈ u_ws RX9 TX9 9, w ∈ wsX9_holds := by decide +kernel
  refine lv_aload_n hx hb dX9_holds_0 rfl (lv_at hl 0 rfl) ?_
  refine lv_iload_n hx hb dX9_holds_1 rfl (lv_at hl 1 rfl) ?_
  obtain ⟨hPc, hDc, hFc⟩ := PDq.cut (wc := [(oX9 h0 b0 (nI nb) p0 u0 r0 a0 t0 s0 o0), (oX3 p0 pr pb pe pg p1 (nI nd) p2 p3 p4 p5 (nI cn) p6 (nI pq) p7 p8 p9 (nI sc))]) hP hD hS hA [0, 2] (by decide) rfl
  refine vx_callv (vx_runV (As := [.int i]) (rest := []) ⟨hx, hb, hml, hown, hts⟩ (s_needMilestone l D cA sa h0 b0 nb p0 u0 r0 a0 t0 s0 o0 p1 p2 p3 p4 p5 p6 p7 p8 p9 cn pq nd sc pr pb pe pg i s.heap.size hl9 hcn hpq hnd hsc) (cwV 1 hts gX9_holds_X9_needMilestone rfl rfl rfl (by decide +kernel) ⟨(Nat.le_of_ble_eq_true rfl), (Nat.le_of_ble_eq_true rfl)⟩) ⟨Wd.blind, va_recv hK hPc (ci := 10) (q0 := 0) rfl rfl, fun U hU hW => ⟨rfl, Wd.call hPc hDc hK hC hZ hS hFc U hU hW⟩⟩ rfl rfl hl.1 rfl (lv_room (Nat.le_of_ble_eq_true rfl)) dX9_holds_2 ⟨(Nat.le_of_ble_eq_true rfl), (Nat.le_of_ble_eq_true rfl)⟩) hS (fun q _ h => hFc q h) hFc (fun q _ h => hFc q h) (fun E ce q9 u t H1 locs ht hvm hpx hE hz1 hk1 hS hcell hv9 hcl => ?_) (fun u t H1 locs ht hvm hw hB hz1 hk1 hS => ?_)
  · skip
    obtain ⟨hE, hP1, hD1⟩ := hE
    rw [ht] at hP1
    obtain ⟨hP, hD⟩ := PDq.join (w := [(oX0 a0 p0 a1 a3 a4 a5 a6 i6 i7 i8 i9 i10 i11 i12 i13 i14 i15 i16 i17 i18 i19), (p9, .inl (cA 0, 10, .inl fen)), (p7, .inl (cA 0, 350, .inl fst)), (p8, .inl (cA 0, 350, .inl fop)), (a3, .inl (cA 0, 10, .inl fs)), (oX9 h0 b0 (nI nb) p0 u0 r0 a0 t0 s0 o0), (oX3 p0 pr pb pe pg p1 (nI nd) p2 p3 p4 p5 (nI cn) p6 (nI pq) p7 p8 p9 (nI sc))]) 5 hP hD [0, 2] [1, 3, 4, 5, 6] rfl rfl (by decide) (by decide) hk1 hFc hP1 hD1 rfl
    generalize H1 = H at hP hS hcell ⊢
    obtain ⟨hP9, hD9⟩ := PDq.sub (ws' := [(oX9 h0 b0 (nI nb) p0 u0 r0 a0 t0 s0 o0), (oX0 a0 p0 a1 a3 a4 a5 a6 i6 i7 i8 i9 i10 i11 i12 i13 i14 i15 i16 i17 i18 i19), (oX3 p0 pr pb pe pg p1 (nI nd) p2 p3 p4 p5 (nI cn) p6 (nI pq) p7 p8 p9 (nI sc)), (p9, .inl (cA 0, 10, .inl fen)), (p7, .inl (cA 0, 350, .inl fst)), (p8, .inl (cA 0, 350, .inl fop)), (a3, .inl (cA 0, 10, .inl fs))]) hP hD [5, 0, 6, 1, 2, 3, 4] (by decide) rfl
    exact vx_out (fun x h => (hno x h).elim) hlocks hcell hv9 hcl (fun t ht hvm => ⟨(), trivial, ⟨hE, by rw [ht]; exact hP9, hD9⟩, hS.F ht⟩) hS.2.2 (Nat.le_of_ble_eq_true rfl) (Nat.le_of_ble_eq_true rfl)
  · skip
    obtain ⟨qn1, hn2, hn3, hP1, hD1⟩ := hB
    rw [ht] at hP1
    obtain ⟨hP, hD⟩ := PDq.join (w := [(oX0 a0 p0 a1 a3 a4 a5 a6 i6 i7 i8 i9 i10 i11 i12 i13 i14 i15 i16 i17 i18 i19), (p9, .inl (cA 0, 10, .inl fen)), (p7, .inl (cA 0, 350, .inl fst)), (p8, .inl (cA 0, 350, .inl fop)), (a3, .inl (cA 0, 10, .inl fs)), (oX9 h0 b0 (nI nb) p0 u0 r0 a0 t0 s0 o0), (oX3 p0 pr pb pe pg p1 (nI nd) p2 p3 p4 p5 (nI cn) p6 (nI pq) p7 p8 p9 (nI sc))]) 5 hP hD [0, 2] [1, 3, 4, 5, 6] rfl rfl (by decide) (by decide) hk1 hFc hP1 hD1 rfl
    generalize H1 = H at hP hS ⊢
    rw [hn3] at hl
    have hl : lv_has ls 2 [(0, .ref h0), (1, .int (nI qn1))] := hl
    refine lv_aload_n hx hb dX9_holds_5 rfl (lv_at hl 0 rfl) ?_
    refine va_get (D := D) (ci := 10) (v := .ref a0) (C := RX9) (T := TX9) (N := 9) hx hb hts inX9 hown hK hP 5 rfl rfl 5 (by decide) (hts (.fieldLink RX9 35 "EscrowDesk" "account" "LEscrowDesk$Account;") (by decide +kernel)) (fun _ h9 => h9) rfl dX9_holds_6 ?_
    refine lv_iload_n hx hb dX9_holds_9 rfl (lv_at hl 1 rfl) ?_
    refine lv_aload_n hx hb dX9_holds_10 rfl (lv_at hl 0 rfl) ?_
    refine va_get (D := D) (ci := 10) (v := .ref a0) (C := RX9) (T := TX9) (N := 9) hx hb hts inX9 hown hK hP 5 rfl rfl 5 (by decide) (hts (.fieldLink RX9 35 "EscrowDesk" "account" "LEscrowDesk$Account;") (by decide +kernel)) (fun _ h9 => h9) rfl dX9_holds_11 ?_
    refine va_getN (D := D) (ci := 4) (v := .int i6) (C := RX0) (T := TX0) (N := 20) hx hb hts inX0 hown hK hP 0 rfl rfl 6 (by decide) (hC.f (A := _) (a := RX9) (i := 87) (b := "EscrowDesk$Account") (n := "day") (d := "I") (x := "EscrowDesk") (by decide +kernel)) (fun _ h9 => h9) rfl dX9_holds_14 ?_
    obtain ⟨hPc, hDc, hFc⟩ := PDq.cut (wc := [(oX0 a0 p0 a1 a3 a4 a5 a6 i6 i7 i8 i9 i10 i11 i12 i13 i14 i15 i16 i17 i18 i19), (oX3 p0 pr pb pe pg p1 (nI nd) p2 p3 p4 p5 (nI cn) p6 (nI pq) p7 p8 p9 (nI sc)), (p9, .inl (cA 0, 10, .inl fen)), (p7, .inl (cA 0, 350, .inl fst)), (p8, .inl (cA 0, 350, .inl fop)), (a3, .inl (cA 0, 10, .inl fs))]) hP hD hS hA [0, 6, 1, 2, 3, 4] (by decide) rfl
    refine va_calli (va_runV (As := [.int (nI qn1), .int i6]) (rest := []) ⟨hx, hb, hml, hown, hts⟩ (s_holdsOn l D cA sa a0 a1 a3 a4 a5 a6 p0 i6 i7 i8 i12 i13 i14 i15 i16 i17 i18 i19 i9 i10 i11 p1 p2 p3 p4 p5 p6 p7 p8 p9 cn pq nd sc pr pb pe pg qn1 fen fst fop i6 fs H.size hcn hpq hnd hsc hen (by omega)) (cwV 2 hts gX9_holds_X0_holdsOn rfl rfl rfl (by decide +kernel) ⟨(Nat.le_of_ble_eq_true rfl), (Nat.le_of_ble_eq_true rfl)⟩) ⟨Wd.blind, va_recv hK hPc (ci := 4) (q0 := 0) rfl rfl, fun U hU hW => ⟨rfl, Wd.call hPc hDc hK hC hZ hS hFc U hU hW⟩⟩ rfl rfl hl.1 rfl (lv_room (Nat.le_of_ble_eq_true rfl)) dX9_holds_17 ⟨(Nat.le_of_ble_eq_true rfl), (Nat.le_of_ble_eq_true rfl)⟩) hS (fun q _ h => hFc q h) hFc (fun rn4 u t H1 locs ht hvm hw hB hz1 hk1 hS => ?_)
    obtain ⟨hP1, hD1⟩ := hB
    rw [ht] at hP1
    obtain ⟨hP, hD⟩ := PDq.join (w := [(oX9 h0 b0 (nI nb) p0 u0 r0 a0 t0 s0 o0), (oX0 a0 p0 a1 a3 a4 a5 a6 i6 i7 i8 i9 i10 i11 i12 i13 i14 i15 i16 i17 i18 i19), (oX3 p0 pr pb pe pg p1 (nI nd) p2 p3 p4 p5 (nI cn) p6 (nI pq) p7 p8 p9 (nI sc)), (p9, .inl (cA 0, 10, .inl fen)), (p7, .inl (cA 0, 350, .inl fst)), (p8, .inl (cA 0, 350, .inl fop)), (a3, .inl (cA 0, 10, .inl fs))]) 1 hP hD [0, 6, 1, 2, 3, 4] [5] rfl rfl (by decide) (by decide) hk1 hFc hP1 hD1 rfl
    generalize H1 = H at hP hS ⊢
    have hn5 := hw
    obtain ⟨hP9, hD9⟩ := PDq.sub (ws' := [(oX9 h0 b0 (nI nb) p0 u0 r0 a0 t0 s0 o0), (oX0 a0 p0 a1 a3 a4 a5 a6 i6 i7 i8 i9 i10 i11 i12 i13 i14 i15 i16 i17 i18 i19), (oX3 p0 pr pb pe pg p1 (nI nd) p2 p3 p4 p5 (nI cn) p6 (nI pq) p7 p8 p9 (nI sc)), (p9, .inl (cA 0, 10, .inl fen)), (p7, .inl (cA 0, 350, .inl fst)), (p8, .inl (cA 0, 350, .inl fop)), (a3, .inl (cA 0, 10, .inl fs))]) hP hD [0, 1, 2, 3, 4, 5, 6] (by decide) rfl
    refine W.widen (k := 1) (n := 6) (Nat.le_of_ble_eq_true rfl) (Nat.le_of_ble_eq_true rfl) ?_
    exact vx_ret (W.zret (v := rn4) hx hb hr (by rcases hn5 with h9 | h9 <;> rw [h9] <;> rfl) (fun t ht hW => ⟨⟨rn4, (), rfl, hn5, by rw [ht]; exact hP9, hD9⟩, hS.F ht⟩) hS.2.2 dX9_holds_20)

set_option maxHeartbeats 4000000 in
set_option maxRecDepth 100000 in
/-- closedCount -/
theorem s_closedCount (l : Launch) (D : va_G) (cA : Nat → ClassId) (sa : Nat → Nat) (h0 : Nat) (b0 : Nat) (nb : Nat) (p0 : Nat) (u0 : Nat) (r0 : Nat) (a0 : Nat) (t0 : Nat) (s0 : Nat) (o0 : Nat) (a1 : Nat) (a3 : Nat) (a4 : Nat) (a5 : Nat) (a6 : Nat) (i6 : Int32) (i7 : Int32) (i8 : Int32) (i12 : Int32) (i13 : Int32) (i14 : Int32) (i15 : Int32) (i16 : Int32) (i17 : Int32) (i18 : Int32) (i19 : Int32) (i9 : Int64) (i10 : Int64) (i11 : Int64) (p1 : Nat) (p2 : Nat) (p3 : Nat) (p4 : Nat) (p5 : Nat) (p6 : Nat) (p7 : Nat) (p8 : Nat) (p9 : Nat) (cn : Nat) (pq : Nat) (nd : Nat) (sc : Nat) (pr : Int32) (pb : Int32) (pe : Int32) (pg : Int32) (fs : Nat → Int32) (sz : Nat) (hcn : cn ≤ 10) (hpq : pq ≤ 8) (hnd : nd ≤ 6) (hsc : sc ≤ 350) : Met l yX9_closedCount wsX9_closedCount ({ frames := 1, cells := 0, slots := 0, locals := 21 }) (va_Pc [.ref h0] (Wd D cA sa [(oX9 h0 b0 (nI nb) p0 u0 r0 a0 t0 s0 o0), (oX0 a0 p0 a1 a3 a4 a5 a6 i6 i7 i8 i9 i10 i11 i12 i13 i14 i15 i16 i17 i18 i19), (oX3 p0 pr pb pe pg p1 (nI nd) p2 p3 p4 p5 (nI cn) p6 (nI pq) p7 p8 p9 (nI sc)), (a3, .inl (cA 0, 10, .inl fs))] sz)) (va_Qi (fun (r : Int32) (_ : Unit) => True) (fun (_ : Unit) t => Wq D (va_A [(oX9 h0 b0 (nI nb) p0 u0 r0 a0 t0 s0 o0), (oX0 a0 p0 a1 a3 a4 a5 a6 i6 i7 i8 i9 i10 i11 i12 i13 i14 i15 i16 i17 i18 i19), (oX3 p0 pr pb pe pg p1 (nI nd) p2 p3 p4 p5 (nI cn) p6 (nI pq) p7 p8 p9 (nI sc)), (a3, .inl (cA 0, 10, .inl fs))] sz) [(oX9 h0 b0 (nI nb) p0 u0 r0 a0 t0 s0 o0), (oX0 a0 p0 a1 a3 a4 a5 a6 i6 i7 i8 i9 i10 i11 i12 i13 i14 i15 i16 i17 i18 i19), (oX3 p0 pr pb pe pg p1 (nI nd) p2 p3 p4 p5 (nI cn) p6 (nI pq) p7 p8 p9 (nI sc)), (a3, .inl (cA 0, 10, .inl fs))] t) (va_A [(oX9 h0 b0 (nI nb) p0 u0 r0 a0 t0 s0 o0), (oX0 a0 p0 a1 a3 a4 a5 a6 i6 i7 i8 i9 i10 i11 i12 i13 i14 i15 i16 i17 i18 i19), (oX3 p0 pr pb pe pg p1 (nI nd) p2 p3 p4 p5 (nI cn) p6 (nI pq) p7 p8 p9 (nI sc)), (a3, .inl (cA 0, 10, .inl fs))] sz)) 0 0 (va_A [(oX9 h0 b0 (nI nb) p0 u0 r0 a0 t0 s0 o0), (oX0 a0 p0 a1 a3 a4 a5 a6 i6 i7 i8 i9 i10 i11 i12 i13 i14 i15 i16 i17 i18 i19), (oX3 p0 pr pb pe pg p1 (nI nd) p2 p3 p4 p5 (nI cn) p6 (nI pq) p7 p8 p9 (nI sc)), (a3, .inl (cA 0, 10, .inl fs))] sz) := by
  refine Met.ofW (cc := cX9_closedCount) (maxL := 3) (ret := (some .int)) (by decide) rfl ?_
  intro p e s m args below meth c s₁ B hml hv
  obtain ⟨rfl, hsz, hP, hK, hD0, hC, hZ⟩ := hv
  have hx := B.exec
  have hb := B.bytes
  have hr := B.returns
  have hts := atoms_spec (ws := wsX9_closedCount) B.pre
  have hown : s.vm.findClass RX9 = some m.cls := findClass_of_methodNamed B.named
  have hlocks := B.notSynchronized
  subst hsz
  have hD := hD0.self (sz := s.heap.size)
  generalize hAe : va_A [(oX9 h0 b0 (nI nb) p0 u0 r0 a0 t0 s0 o0), (oX0 a0 p0 a1 a3 a4 a5 a6 i6 i7 i8 i9 i10 i11 i12 i13 i14 i15 i16 i17 i18 i19), (oX3 p0 pr pb pe pg p1 (nI nd) p2 p3 p4 p5 (nI cn) p6 (nI pq) p7 p8 p9 (nI sc)), (a3, .inl (cA 0, 10, .inl fs))] s.heap.size = A at hD hZ ⊢
  have hA : ∀ q : Nat, s.heap.size ≤ q → A q := fun q h => by rw [← hAe]; exact Or.inr h
  have hS : va_S A s.heap s.heap [] := va_S.rf
  have hP : va_P D vwCl [(oX9 h0 b0 (nI nb) p0 u0 r0 a0 t0 s0 o0), (oX0 a0 p0 a1 a3 a4 a5 a6 i6 i7 i8 i9 i10 i11 i12 i13 i14 i15 i16 i17 i18 i19), (oX3 p0 pr pb pe pg p1 (nI nd) p2 p3 p4 p5 (nI cn) p6 (nI pq) p7 p8 p9 (nI sc)), (a3, .inl (cA 0, 10, .inl fs))] s.heap := hP
  have hl := lv_entry ([.ref h0]) (n := 3) (Nat.le_of_ble_eq_true rfl)
  rw [lg_entry_eq]
  generalize (lg_sl ([.ref h0]) ++ List.replicate (3 - (lg_sl ([.ref h0])).length) Slot.unset).toArray = ls at hl ⊢
  have hl : lv_has ls 3 [(0, .ref h0)] := hl
  have inX3 : ∀ w ∈ u_ws RX3 TX3 17, w ∈ wsX9_closedCount := by decide +kernel
  have inX9 : ∀ w ∈ u_ws RX9 TX9 9, w ∈ wsX9_closedCount := by decide +kernel
  refine lv_iconst (v := 0) hx hb dX9_closedCount_0 (by decide) ?_
  refine lv_istore_n (lv' := [(1, .int 0), (0, .ref h0)]) hx hb dX9_closedCount_1 rfl hl (by decide) rfl (fun ls hl => ?_)
  refine lv_iconst (v := 0) hx hb dX9_closedCount_2 (by decide) ?_
  refine lv_istore_n (lv' := [(2, .int 0), (1, .int 0), (0, .ref h0)]) hx hb dX9_closedCount_3 rfl hl (by decide) rfl (fun ls hl => ?_)
  have loop1 : ∀ (n1 i1 : Nat) (x1_1 : Int32) (H : Heap) (locs : List Loc) (ls : Array Slot), i1 + n1 = cn → va_P D vwCl [(oX9 h0 b0 (nI nb) p0 u0 r0 a0 t0 s0 o0), (oX0 a0 p0 a1 a3 a4 a5 a6 i6 i7 i8 i9 i10 i11 i12 i13 i14 i15 i16 i17 i18 i19), (oX3 p0 pr pb pe pg p1 (nI nd) p2 p3 p4 p5 (nI cn) p6 (nI pq) p7 p8 p9 (nI sc)), (a3, .inl (cA 0, 10, .inl fs))] H → va_D A [(oX9 h0 b0 (nI nb) p0 u0 r0 a0 t0 s0 o0), (oX0 a0 p0 a1 a3 a4 a5 a6 i6 i7 i8 i9 i10 i11 i12 i13 i14 i15 i16 i17 i18 i19), (oX3 p0 pr pb pe pg p1 (nI nd) p2 p3 p4 p5 (nI cn) p6 (nI pq) p7 p8 p9 (nI sc)), (a3, .inl (cA 0, 10, .inl fs))] → va_S A s.heap H locs → lv_has ls 3 [(2, .int (nI i1)), (1, .int x1_1), (0, .ref h0)] → W p l e (headSpec wsX9_closedCount ({ frames := 1, cells := 0, slots := 0, locals := 21 } : Room)).room s m ([.ref h0] : List Value).toArray below meth c H locs 0 0 (MQ below (va_Qi (fun (r : Int32) (_ : Unit) => True) (fun (_ : Unit) t => Wq D A [(oX9 h0 b0 (nI nb) p0 u0 r0 a0 t0 s0 o0), (oX0 a0 p0 a1 a3 a4 a5 a6 i6 i7 i8 i9 i10 i11 i12 i13 i14 i15 i16 i17 i18 i19), (oX3 p0 pr pb pe pg p1 (nI nd) p2 p3 p4 p5 (nI cn) p6 (nI pq) p7 p8 p9 (nI sc)), (a3, .inl (cA 0, 10, .inl fs))] t) A) ([.ref h0] : List Value).toArray s 0 0 A) (F0 m 4 ls []) := by
    intro n1
    induction n1 with
    | zero =>
      intro i1 x1_1 H locs ls hi1 hP hD hS hl
      obtain rfl : cn = i1 := by omega
      refine lv_iload_n hx hb dX9_closedCount_4 rfl (lv_at hl 0 rfl) ?_
      refine lv_aload_n hx hb dX9_closedCount_5 rfl (lv_at hl 2 rfl) ?_
      refine va_get (D := D) (ci := 10) (v := .ref p0) (C := RX9) (T := TX9) (N := 9) hx hb hts inX9 hown hK hP 0 rfl rfl 2 (by decide) (hts (.fieldLink RX9 16 "EscrowDesk" "plan" "LEscrowDesk$Plan;") (by decide +kernel)) (fun _ h9 => h9) rfl dX9_closedCount_6 ?_
      refine va_getN (D := D) (ci := 7) (v := .int (nI cn)) (C := RX3) (T := TX3) (N := 17) hx hb hts inX3 hown hK hP 2 rfl rfl 10 (by decide) (hC.f (A := _) (a := RX9) (i := 78) (b := "EscrowDesk$Plan") (n := "milestoneCount") (d := "I") (x := "EscrowDesk") (by decide +kernel)) (fun _ h9 => h9) rfl dX9_closedCount_9 ?_
      refine lv_icmp_ge (tgt := 35) hx hb dX9_closedCount_12 (by decide) (fun c1 => ?_) (fun c9 => absurd (nI_le (a := cn) (b := cn) (show cn ≤ cn by omega) (by omega)) c9)
      refine lv_iload_n hx hb dX9_closedCount_35 rfl (lv_at hl 1 rfl) ?_
      obtain ⟨hP9, hD9⟩ := PDq.sub (ws' := [(oX9 h0 b0 (nI nb) p0 u0 r0 a0 t0 s0 o0), (oX0 a0 p0 a1 a3 a4 a5 a6 i6 i7 i8 i9 i10 i11 i12 i13 i14 i15 i16 i17 i18 i19), (oX3 p0 pr pb pe pg p1 (nI nd) p2 p3 p4 p5 (nI cn) p6 (nI pq) p7 p8 p9 (nI sc)), (a3, .inl (cA 0, 10, .inl fs))]) hP hD [0, 1, 2, 3] (by decide) rfl
      refine W.widen (k := 0) (n := 0) (Nat.le_of_ble_eq_true rfl) (Nat.le_of_ble_eq_true rfl) ?_
      exact (W.iret (v := x1_1) hx hb hr (fun t ht hW => ⟨⟨x1_1, (), rfl, trivial, by rw [ht]; exact hP9, hD9⟩, hS.F ht⟩) hS.2.2 dX9_closedCount_36)
    | succ n1 ih1 =>
      intro i1 x1_1 H locs ls hi1 hP hD hS hl
      refine lv_iload_n hx hb dX9_closedCount_4 rfl (lv_at hl 0 rfl) ?_
      refine lv_aload_n hx hb dX9_closedCount_5 rfl (lv_at hl 2 rfl) ?_
      refine va_get (D := D) (ci := 10) (v := .ref p0) (C := RX9) (T := TX9) (N := 9) hx hb hts inX9 hown hK hP 0 rfl rfl 2 (by decide) (hts (.fieldLink RX9 16 "EscrowDesk" "plan" "LEscrowDesk$Plan;") (by decide +kernel)) (fun _ h9 => h9) rfl dX9_closedCount_6 ?_
      refine va_getN (D := D) (ci := 7) (v := .int (nI cn)) (C := RX3) (T := TX3) (N := 17) hx hb hts inX3 hown hK hP 2 rfl rfl 10 (by decide) (hC.f (A := _) (a := RX9) (i := 78) (b := "EscrowDesk$Plan") (n := "milestoneCount") (d := "I") (x := "EscrowDesk") (by decide +kernel)) (fun _ h9 => h9) rfl dX9_closedCount_9 ?_
      refine lv_icmp_ge (tgt := 35) hx hb dX9_closedCount_12 (by decide) (fun c9 => absurd c9 (nI_ge (a := i1) (b := cn) (show i1 < cn by omega) (by omega))) (fun c2 => ?_)
      refine lv_aload_n hx hb dX9_closedCount_15 rfl (lv_at hl 2 rfl) ?_
      refine va_get (D := D) (ci := 10) (v := .ref a0) (C := RX9) (T := TX9) (N := 9) hx hb hts inX9 hown hK hP 0 rfl rfl 5 (by decide) (hts (.fieldLink RX9 35 "EscrowDesk" "account" "LEscrowDesk$Account;") (by decide +kernel)) (fun _ h9 => h9) rfl dX9_closedCount_16 ?_
      refine lv_iload_n hx hb dX9_closedCount_19 rfl (lv_at hl 0 rfl) ?_
      obtain ⟨hPc, hDc, hFc⟩ := PDq.cut (wc := [(oX0 a0 p0 a1 a3 a4 a5 a6 i6 i7 i8 i9 i10 i11 i12 i13 i14 i15 i16 i17 i18 i19), (a3, .inl (cA 0, 10, .inl fs))]) hP hD hS hA [1, 3] (by decide) rfl
      refine va_calli (va_runV (As := [.int (nI i1)]) (rest := []) ⟨hx, hb, hml, hown, hts⟩ (s_isClosed l D cA sa a0 a1 a3 a4 a5 a6 p0 i6 i7 i8 i12 i13 i14 i15 i16 i17 i18 i19 i9 i10 i11 i1 fs H.size (by omega)) (cwV 1 hts gX9_closedCount_X0_isClosed rfl rfl rfl (by decide +kernel) ⟨(Nat.le_of_ble_eq_true rfl), (Nat.le_of_ble_eq_true rfl)⟩) ⟨Wd.blind, va_recv hK hPc (ci := 4) (q0 := 0) rfl rfl, fun U hU hW => ⟨rfl, Wd.call hPc hDc hK hC hZ hS hFc U hU hW⟩⟩ rfl rfl hl.1 rfl (lv_room (Nat.le_of_ble_eq_true rfl)) dX9_closedCount_20 ⟨(Nat.le_of_ble_eq_true rfl), (Nat.le_of_ble_eq_true rfl)⟩) hS (fun q _ h => hFc q h) hFc (fun rn3 u t H1 locs ht hvm hw hB hz1 hk1 hS => ?_)
      obtain ⟨hP1, hD1⟩ := hB
      rw [ht] at hP1
      obtain ⟨hP, hD⟩ := PDq.join (w := [(oX9 h0 b0 (nI nb) p0 u0 r0 a0 t0 s0 o0), (oX3 p0 pr pb pe pg p1 (nI nd) p2 p3 p4 p5 (nI cn) p6 (nI pq) p7 p8 p9 (nI sc)), (oX0 a0 p0 a1 a3 a4 a5 a6 i6 i7 i8 i9 i10 i11 i12 i13 i14 i15 i16 i17 i18 i19), (a3, .inl (cA 0, 10, .inl fs))]) 2 hP hD [1, 3] [0, 2] rfl rfl (by decide) (by decide) hk1 hFc hP1 hD1 rfl
      generalize H1 = H at hP hS ⊢
      have hn4 := hw
      refine lv_if_eq (tgt := 29) hx hb dX9_closedCount_23 (by decide) (fun c5 => ?_) (fun c5 => ?_)
      · skip
        refine lv_iinc (v := (nI (i1 + 1))) (lv' := [(2, .int (nI (i1 + 1))), (1, .int x1_1), (0, .ref h0)]) hx hb dX9_closedCount_29 hl (k := 0) rfl (nI_1 _) (by decide) rfl (fun ls hl => ?_)
        refine lv_goto (tgt := 4) hx hb dX9_closedCount_32 (by decide) ?_
        obtain ⟨hP9, hD9⟩ := PDq.sub (ws' := [(oX9 h0 b0 (nI nb) p0 u0 r0 a0 t0 s0 o0), (oX0 a0 p0 a1 a3 a4 a5 a6 i6 i7 i8 i9 i10 i11 i12 i13 i14 i15 i16 i17 i18 i19), (oX3 p0 pr pb pe pg p1 (nI nd) p2 p3 p4 p5 (nI cn) p6 (nI pq) p7 p8 p9 (nI sc)), (a3, .inl (cA 0, 10, .inl fs))]) hP hD [0, 2, 1, 3] (by decide) rfl
        exact ih1 (i1 + 1) x1_1 H _ ls (by omega) hP9 hD9 hS (lv_sub hl [0, 1, 2] rfl)
      · skip
        refine lv_iinc (v := (x1_1 + 1)) (lv' := [(1, .int (x1_1 + 1)), (2, .int (nI i1)), (0, .ref h0)]) hx hb dX9_closedCount_26 hl (k := 1) rfl rfl (by decide) rfl (fun ls hl => ?_)
        refine lv_iinc (v := (nI (i1 + 1))) (lv' := [(2, .int (nI (i1 + 1))), (1, .int (x1_1 + 1)), (0, .ref h0)]) hx hb dX9_closedCount_29 hl (k := 1) rfl (nI_1 _) (by decide) rfl (fun ls hl => ?_)
        refine lv_goto (tgt := 4) hx hb dX9_closedCount_32 (by decide) ?_
        obtain ⟨hP9, hD9⟩ := PDq.sub (ws' := [(oX9 h0 b0 (nI nb) p0 u0 r0 a0 t0 s0 o0), (oX0 a0 p0 a1 a3 a4 a5 a6 i6 i7 i8 i9 i10 i11 i12 i13 i14 i15 i16 i17 i18 i19), (oX3 p0 pr pb pe pg p1 (nI nd) p2 p3 p4 p5 (nI cn) p6 (nI pq) p7 p8 p9 (nI sc)), (a3, .inl (cA 0, 10, .inl fs))]) hP hD [0, 2, 1, 3] (by decide) rfl
        exact ih1 (i1 + 1) (x1_1 + 1) H _ ls (by omega) hP9 hD9 hS (lv_sub hl [0, 1, 2] rfl)
  obtain ⟨hP9, hD9⟩ := PDq.sub (ws' := [(oX9 h0 b0 (nI nb) p0 u0 r0 a0 t0 s0 o0), (oX0 a0 p0 a1 a3 a4 a5 a6 i6 i7 i8 i9 i10 i11 i12 i13 i14 i15 i16 i17 i18 i19), (oX3 p0 pr pb pe pg p1 (nI nd) p2 p3 p4 p5 (nI cn) p6 (nI pq) p7 p8 p9 (nI sc)), (a3, .inl (cA 0, 10, .inl fs))]) hP hD [0, 1, 2, 3] (by decide) rfl
  exact loop1 (cn - 0) 0 0 _ _ ls (by omega) hP9 hD9 hS (lv_sub hl [0, 1, 2] rfl)

