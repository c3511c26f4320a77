set_option maxHeartbeats 4000000 in
set_option maxRecDepth 100000 in
/-- reference: stateWord -/
theorem r_stateWord2 (l : Launch) (D : va_G) (cA : Nat → ClassId) (sa : Nat → Nat)  (sz : Nat) : Met l yX10_stateWord wsX10_stateWord ({ frames := 0, cells := 0, slots := 0, locals := 0 }) (va_Pc [.int 2] (Wd D cA sa [] sz)) (va_Qr (fun _ : Unit => True) (fun (_ : Unit) (a9 : Nat) t => a9 = (sa 27) ∧ Wq D (va_A [] sz) [] t) (va_A [] sz)) 0 0 (va_A [] sz) := by
  refine Met.ofW (cc := cX10_stateWord) (maxL := 1) (ret := (some (.object "java/lang/String"))) (by decide) rfl ?_
  intro p e s m args below meth c s₁ B hml hv
  obtain ⟨rfl, hsz, hP, hK, hD0, hC, hZ⟩ := hv
  have hx := B.exec
  have hb := B.bytes
  have hr := B.returns
  have hts := atoms_spec (ws := wsX10_stateWord) B.pre
  have hown : s.vm.findClass RX10 = some m.cls := findClass_of_methodNamed B.named
  have hlocks := B.notSynchronized
  subst hsz
  have hD := hD0.self (sz := s.heap.size)
  generalize hAe : va_A [] s.heap.size = A at hD hZ ⊢
  have hA : ∀ q : Nat, s.heap.size ≤ q → A q := fun q h => by rw [← hAe]; exact Or.inr h
  have hS : va_S A s.heap s.heap [] := va_S.rf
  have hP : va_P D vwCl [] s.heap := hP
  have hl := lv_entry ([.int 2]) (n := 1) (Nat.le_of_ble_eq_true rfl)
  rw [lg_entry_eq]
  generalize (lg_sl ([.int 2]) ++ List.replicate (1 - (lg_sl ([.int 2])).length) Slot.unset).toArray = ls at hl ⊢
  have hl : lv_has ls 1 [(0, .int 2)] := hl
  refine lv_iload_n hx hb dX10_stateWord_0 rfl (lv_at hl 0 rfl) ?_
  refine lv_tableIn (off := 43) (tgt := 44) hx hb dX10_stateWord_1 (by decide) (by decide) (by decide) (by decide) ?_
  refine va_ldcwS hx hb hown (hC.str 27 rfl) dX10_stateWord_44 ?_
  obtain ⟨hP9, hD9⟩ := PDq.sub (ws' := []) hP hD [] (by decide) rfl
  refine W.widen (k := 0) (n := 0) (Nat.le_of_ble_eq_true rfl) (Nat.le_of_ble_eq_true rfl) ?_
  exact (W.aret (v := .ref (sa 27)) hx hb hr (Or.inl ⟨_, rfl⟩) (Or.inr ⟨_, rfl⟩) (fun t ht hW => ⟨⟨(), (sa 27), rfl, trivial, rfl, by rw [ht]; exact hP9, hD9⟩, hS.F ht⟩) hS.2.2 dX10_stateWord_47)

set_option maxHeartbeats 4000000 in
set_option maxRecDepth 100000 in
/-- reference: stateWord -/
theorem r_stateWord3 (l : Launch) (D : va_G) (cA : Nat → ClassId) (sa : Nat → Nat)  (sz : Nat) : Met l yX10_stateWord wsX10_stateWord ({ frames := 0, cells := 0, slots := 0, locals := 0 }) (va_Pc [.int 3] (Wd D cA sa [] sz)) (va_Qr (fun _ : Unit => True) (fun (_ : Unit) (a9 : Nat) t => a9 = (sa 28) ∧ Wq D (va_A [] sz) [] t) (va_A [] sz)) 0 0 (va_A [] sz) := by
  refine Met.ofW (cc := cX10_stateWord) (maxL := 1) (ret := (some (.object "java/lang/String"))) (by decide) rfl ?_
  intro p e s m args below meth c s₁ B hml hv
  obtain ⟨rfl, hsz, hP, hK, hD0, hC, hZ⟩ := hv
  have hx := B.exec
  have hb := B.bytes
  have hr := B.returns
  have hts := atoms_spec (ws := wsX10_stateWord) B.pre
  have hown : s.vm.findClass RX10 = some m.cls := findClass_of_methodNamed B.named
  have hlocks := B.notSynchronized
  subst hsz
  have hD := hD0.self (sz := s.heap.size)
  generalize hAe : va_A [] s.heap.size = A at hD hZ ⊢
  have hA : ∀ q : Nat, s.heap.size ≤ q → A q := fun q h => by rw [← hAe]; exact Or.inr h
  have hS : va_S A s.heap s.heap [] := va_S.rf
  have hP : va_P D vwCl [] s.heap := hP
  have hl := lv_entry ([.int 3]) (n := 1) (Nat.le_of_ble_eq_true rfl)
  rw [lg_entry_eq]
  generalize (lg_sl ([.int 3]) ++ List.replicate (1 - (lg_sl ([.int 3])).length) Slot.unset).toArray = ls at hl ⊢
  have hl : lv_has ls 1 [(0, .int 3)] := hl
  refine lv_iload_n hx hb dX10_stateWord_0 rfl (lv_at hl 0 rfl) ?_
  refine lv_tableIn (off := 47) (tgt := 48) hx hb dX10_stateWord_1 (by decide) (by decide) (by decide) (by decide) ?_
  refine va_ldcwS hx hb hown (hC.str 28 rfl) dX10_stateWord_48 ?_
  obtain ⟨hP9, hD9⟩ := PDq.sub (ws' := []) hP hD [] (by decide) rfl
  refine W.widen (k := 0) (n := 0) (Nat.le_of_ble_eq_true rfl) (Nat.le_of_ble_eq_true rfl) ?_
  exact (W.aret (v := .ref (sa 28)) hx hb hr (Or.inl ⟨_, rfl⟩) (Or.inr ⟨_, rfl⟩) (fun t ht hW => ⟨⟨(), (sa 28), rfl, trivial, rfl, by rw [ht]; exact hP9, hD9⟩, hS.F ht⟩) hS.2.2 dX10_stateWord_51)

set_option maxHeartbeats 4000000 in
set_option maxRecDepth 100000 in
/-- reference: stateWord -/
theorem r_stateWord4 (l : Launch) (D : va_G) (cA : Nat → ClassId) (sa : Nat → Nat)  (sz : Nat) : Met l yX10_stateWord wsX10_stateWord ({ frames := 0, cells := 0, slots := 0, locals := 0 }) (va_Pc [.int 4] (Wd D cA sa [] sz)) (va_Qr (fun _ : Unit => True) (fun (_ : Unit) (a9 : Nat) t => a9 = (sa 29) ∧ Wq D (va_A [] sz) [] t) (va_A [] sz)) 0 0 (va_A [] sz) := by
  refine Met.ofW (cc := cX10_stateWord) (maxL := 1) (ret := (some (.object "java/lang/String"))) (by decide) rfl ?_
  intro p e s m args below meth c s₁ B hml hv
  obtain ⟨rfl, hsz, hP, hK, hD0, hC, hZ⟩ := hv
  have hx := B.exec
  have hb := B.bytes
  have hr := B.returns
  have hts := atoms_spec (ws := wsX10_stateWord) B.pre
  have hown : s.vm.findClass RX10 = some m.cls := findClass_of_methodNamed B.named
  have hlocks := B.notSynchronized
  subst hsz
  have hD := hD0.self (sz := s.heap.size)
  generalize hAe : va_A [] s.heap.size = A at hD hZ ⊢
  have hA : ∀ q : Nat, s.heap.size ≤ q → A q := fun q h => by rw [← hAe]; exact Or.inr h
  have hS : va_S A s.heap s.heap [] := va_S.rf
  have hP : va_P D vwCl [] s.heap := hP
  have hl := lv_entry ([.int 4]) (n := 1) (Nat.le_of_ble_eq_true rfl)
  rw [lg_entry_eq]
  generalize (lg_sl ([.int 4]) ++ List.replicate (1 - (lg_sl ([.int 4])).length) Slot.unset).toArray = ls at hl ⊢
  have hl : lv_has ls 1 [(0, .int 4)] := hl
  refine lv_iload_n hx hb dX10_stateWord_0 rfl (lv_at hl 0 rfl) ?_
  refine lv_tableIn (off := 51) (tgt := 52) hx hb dX10_stateWord_1 (by decide) (by decide) (by decide) (by decide) ?_
  refine va_ldcwS hx hb hown (hC.str 29 rfl) dX10_stateWord_52 ?_
  obtain ⟨hP9, hD9⟩ := PDq.sub (ws' := []) hP hD [] (by decide) rfl
  refine W.widen (k := 0) (n := 0) (Nat.le_of_ble_eq_true rfl) (Nat.le_of_ble_eq_true rfl) ?_
  exact (W.aret (v := .ref (sa 29)) hx hb hr (Or.inl ⟨_, rfl⟩) (Or.inr ⟨_, rfl⟩) (fun t ht hW => ⟨⟨(), (sa 29), rfl, trivial, rfl, by rw [ht]; exact hP9, hD9⟩, hS.F ht⟩) hS.2.2 dX10_stateWord_55)

set_option maxHeartbeats 4000000 in
set_option maxRecDepth 100000 in
/-- reference: stateWord -/
theorem r_stateWordX (l : Launch) (D : va_G) (cA : Nat → ClassId) (sa : Nat → Nat) (a : Int32) (sz : Nat) (h09 : ¬ a = 0) (h19 : ¬ a = 1) (h29 : ¬ a = 2) (h39 : ¬ a = 3) (h49 : ¬ a = 4) : Met l yX10_stateWord wsX10_stateWord ({ frames := 0, cells := 0, slots := 0, locals := 0 }) (va_Pc [.int a] (Wd D cA sa [] sz)) (va_Qr (fun _ : Unit => True) (fun (_ : Unit) (a9 : Nat) t => a9 = (sa 30) ∧ Wq D (va_A [] sz) [] t) (va_A [] sz)) 0 0 (va_A [] sz) := by
  refine Met.ofW (cc := cX10_stateWord) (maxL := 1) (ret := (some (.object "java/lang/String"))) (by decide) rfl ?_
  intro p e s m args below meth c s₁ B hml hv
  obtain ⟨rfl, hsz, hP, hK, hD0, hC, hZ⟩ := hv
  have hx := B.exec
  have hb := B.bytes
  have hr := B.returns
  have hts := atoms_spec (ws := wsX10_stateWord) B.pre
  have hown : s.vm.findClass RX10 = some m.cls := findClass_of_methodNamed B.named
  have hlocks := B.notSynchronized
  subst hsz
  have hD := hD0.self (sz := s.heap.size)
  generalize hAe : va_A [] s.heap.size = A at hD hZ ⊢
  have hA : ∀ q : Nat, s.heap.size ≤ q → A q := fun q h => by rw [← hAe]; exact Or.inr h
  have hS : va_S A s.heap s.heap [] := va_S.rf
  have hP : va_P D vwCl [] s.heap := hP
  have hl := lv_entry ([.int a]) (n := 1) (Nat.le_of_ble_eq_true rfl)
  rw [lg_entry_eq]
  generalize (lg_sl ([.int a]) ++ List.replicate (1 - (lg_sl ([.int a])).length) Slot.unset).toArray = ls at hl ⊢
  have hl : lv_has ls 1 [(0, .int a)] := hl
  refine lv_iload_n hx hb dX10_stateWord_0 rfl (lv_at hl 0 rfl) ?_
  refine lv_tableOut (tgt := 56) hx hb dX10_stateWord_1 (by have q0 : ¬ (a).toInt = 0 := fun e9 => h09 (Int32.toInt_inj.mp (e9.trans (by decide))); have q1 : ¬ (a).toInt = 1 := fun e9 => h19 (Int32.toInt_inj.mp (e9.trans (by decide))); have q2 : ¬ (a).toInt = 2 := fun e9 => h29 (Int32.toInt_inj.mp (e9.trans (by decide))); have q3 : ¬ (a).toInt = 3 := fun e9 => h39 (Int32.toInt_inj.mp (e9.trans (by decide))); have q4 : ¬ (a).toInt = 4 := fun e9 => h49 (Int32.toInt_inj.mp (e9.trans (by decide))); omega) (by decide) ?_
  refine va_ldcwS hx hb hown (hC.str 30 rfl) dX10_stateWord_56 ?_
  obtain ⟨hP9, hD9⟩ := PDq.sub (ws' := []) hP hD [] (by decide) rfl
  refine W.widen (k := 0) (n := 0) (Nat.le_of_ble_eq_true rfl) (Nat.le_of_ble_eq_true rfl) ?_
  exact (W.aret (v := .ref (sa 30)) hx hb hr (Or.inl ⟨_, rfl⟩) (Or.inr ⟨_, rfl⟩) (fun t ht hW => ⟨⟨(), (sa 30), rfl, trivial, rfl, by rw [ht]; exact hP9, hD9⟩, hS.F ht⟩) hS.2.2 dX10_stateWord_59)

set_option maxHeartbeats 4000000 in
set_option maxRecDepth 100000 in
/-- reference: write -/
theorem r_write (l : Launch) (D : va_G) (cA : Nat → ClassId) (sa : Nat → Nat) (w0 : Nat) (ed : Nat) (nb : Nat) (ol : Nat) (v0 : Nat) (v1 : Nat) (v2 : Nat) (v3 : Nat) (v4 : Nat) (v9 : Nat) (v13 : Nat) (v27 : Nat) (v28 : Nat) (v29 : Nat) (v30 : Nat) (v31 : Nat) (v32 : Nat) (v33 : Nat) (v34 : Nat) (v35 : Nat) (v36 : Nat) (v37 : Nat) (g8 : Int32) (g11 : Int32) (g12 : Int32) (g14 : Int32) (g15 : Int32) (g16 : Int32) (g17 : Int32) (g18 : Int32) (g19 : Int32) (g20 : Int32) (g21 : Int32) (g22 : Int32) (g23 : Int32) (g24 : Int32) (g26 : Int32) (g5 : Int64) (g6 : Int64) (g25 : Int64) (cn : Nat) (pq : Nat) (en : Nat) (dy : Nat) (fs : Nat → Int32) (i : Int32) (fo9 : Nat → Int32) (l27 : Nat → Int64) (sz : Nat) (hcn : cn ≤ 10) (hpq : pq ≤ 8) (hen : en ≤ 60) (hdy : dy ≤ 20000) (hri : RI cn pq en dy fs) (hol : ol ≤ 100) : Met l yX10_write wsX10_write ({ frames := 5, cells := 0, slots := 0, locals := 107 }) (va_Pc [.ref w0, .int i] (Wd D cA sa [(oX10 w0 v0 v1 v2 v3 v4 g5 g6 (nI ed) g8 v9 (nI nb) g11 g12 v13 g14 g15 g16 g17 g18 g19 g20 g21 g22 g23 g24 g25 g26 v27 v28 v29 v30 v31 v32 v33 v34 v35 v36 v37 (nI ol)), (v0, .inl (cA 0, 326, .inl fs)), (v37, .inl (cA 0, 100, .inl fo9)), (v27, .inl (cA 1, 10, .inr (.inl l27)))] sz)) (va_Qi (fun (r : Int32) (_ : Unit) => True) (fun (_ : Unit) t => ∃ zt : Int32, ∃ ol2 : Nat, ∃ zo9 : Nat → Int32, ol2 ≤ 100 ∧ Wq D (va_A [(oX10 w0 v0 v1 v2 v3 v4 g5 g6 (nI ed) g8 v9 (nI nb) g11 g12 v13 g14 g15 g16 g17 g18 g19 g20 g21 g22 g23 g24 g25 g26 v27 v28 v29 v30 v31 v32 v33 v34 v35 v36 v37 (nI ol)), (v0, .inl (cA 0, 326, .inl fs)), (v37, .inl (cA 0, 100, .inl fo9)), (v27, .inl (cA 1, 10, .inr (.inl l27)))] sz) [(oX10 w0 v0 v1 v2 v3 v4 g5 g6 (nI ed) zt v9 (nI nb) g11 g12 v13 g14 g15 g16 g17 g18 g19 g20 g21 g22 g23 g24 g25 g26 v27 v28 v29 v30 v31 v32 v33 v34 v35 v36 v37 (nI ol2)), (v0, .inl (cA 0, 326, .inl fs)), (v37, .inl (cA 0, 100, .inl zo9)), (v27, .inl (cA 1, 10, .inr (.inl l27)))] t) (va_A [(oX10 w0 v0 v1 v2 v3 v4 g5 g6 (nI ed) g8 v9 (nI nb) g11 g12 v13 g14 g15 g16 g17 g18 g19 g20 g21 g22 g23 g24 g25 g26 v27 v28 v29 v30 v31 v32 v33 v34 v35 v36 v37 (nI ol)), (v0, .inl (cA 0, 326, .inl fs)), (v37, .inl (cA 0, 100, .inl fo9)), (v27, .inl (cA 1, 10, .inr (.inl l27)))] sz)) 0 0 (va_A [(oX10 w0 v0 v1 v2 v3 v4 g5 g6 (nI ed) g8 v9 (nI nb) g11 g12 v13 g14 g15 g16 g17 g18 g19 g20 g21 g22 g23 g24 g25 g26 v27 v28 v29 v30 v31 v32 v33 v34 v35 v36 v37 (nI ol)), (v0, .inl (cA 0, 326, .inl fs)), (v37, .inl (cA 0, 100, .inl fo9)), (v27, .inl (cA 1, 10, .inr (.inl l27)))] sz) := by
  refine Met.ofW (cc := cX10_write) (maxL := 3) (ret := (some .int)) (by decide) rfl ?_
  intro p e s m args below meth c s₁ B hml hv
  obtain ⟨rfl, hsz, hP, hK, hD0, hC, hZ⟩ := hv
  have hx := B.exec
  have hb := B.bytes
  have hr := B.returns
  have hts := atoms_spec (ws := wsX10_write) B.pre
  have hown : s.vm.findClass RX10 = some m.cls := findClass_of_methodNamed B.named
  have hlocks := B.notSynchronized
  subst hsz
  have hD := hD0.self (sz := s.heap.size)
  generalize hAe : va_A [(oX10 w0 v0 v1 v2 v3 v4 g5 g6 (nI ed) g8 v9 (nI nb) g11 g12 v13 g14 g15 g16 g17 g18 g19 g20 g21 g22 g23 g24 g25 g26 v27 v28 v29 v30 v31 v32 v33 v34 v35 v36 v37 (nI ol)), (v0, .inl (cA 0, 326, .inl fs)), (v37, .inl (cA 0, 100, .inl fo9)), (v27, .inl (cA 1, 10, .inr (.inl l27)))] s.heap.size = A at hD hZ ⊢
  have hA : ∀ q : Nat, s.heap.size ≤ q → A q := fun q h => by rw [← hAe]; exact Or.inr h
  have hS : va_S A s.heap s.heap [] := va_S.rf
  have hP : va_P D vwCl [(oX10 w0 v0 v1 v2 v3 v4 g5 g6 (nI ed) g8 v9 (nI nb) g11 g12 v13 g14 g15 g16 g17 g18 g19 g20 g21 g22 g23 g24 g25 g26 v27 v28 v29 v30 v31 v32 v33 v34 v35 v36 v37 (nI ol)), (v0, .inl (cA 0, 326, .inl fs)), (v37, .inl (cA 0, 100, .inl fo9)), (v27, .inl (cA 1, 10, .inr (.inl l27)))] s.heap := hP
  have hl := lv_entry ([.ref w0, .int i]) (n := 3) (Nat.le_of_ble_eq_true rfl)
  rw [lg_entry_eq]
  generalize (lg_sl ([.ref w0, .int i]) ++ List.replicate (3 - (lg_sl ([.ref w0, .int i])).length) Slot.unset).toArray = ls at hl ⊢
  have hl : lv_has ls 3 [(0, .ref w0), (1, .int i)] := hl
  have inX10 : ∀ w ∈ u_ws RX10 TX10 39, w ∈ wsX10_write := by decide +kernel
  refine lv_aload_n hx hb dX10_write_0 rfl (lv_at hl 0 rfl) ?_
  refine lv_aload_n hx hb dX10_write_1 rfl (lv_at hl 0 rfl) ?_
  refine lv_iload_n hx hb dX10_write_2 rfl (lv_at hl 1 rfl) ?_
  obtain ⟨hPc, hDc, hFc⟩ := PDq.cut (wc := [(oX10 w0 v0 v1 v2 v3 v4 g5 g6 (nI ed) g8 v9 (nI nb) g11 g12 v13 g14 g15 g16 g17 g18 g19 g20 g21 g22 g23 g24 g25 g26 v27 v28 v29 v30 v31 v32 v33 v34 v35 v36 v37 (nI ol)), (v0, .inl (cA 0, 326, .inl fs))]) hP hD hS hA [0, 1] (by decide) rfl
  refine va_calli (va_runV (As := [.int i]) (rest := [.ref w0]) ⟨hx, hb, hml, hown, hts⟩ (r_isMilestone l D cA sa w0 ed nb ol v0 v1 v2 v3 v4 v9 v13 v27 v28 v29 v30 v31 v32 v33 v34 v35 v36 v37 g8 g11 g12 g14 g15 g16 g17 g18 g19 g20 g21 g22 g23 g24 g26 g5 g6 g25 cn pq en dy fs i s.heap.size hcn hpq hen hdy hri) (cwV 1 hts gX10_write_X10_isMilestone rfl rfl rfl (by decide +kernel) ⟨(Nat.le_of_ble_eq_true rfl), (Nat.le_of_ble_eq_true rfl)⟩) ⟨Wd.blind, va_recv hK hPc (ci := 11) (q0 := 0) rfl rfl, fun U hU hW => ⟨rfl, Wd.call hPc hDc hK hC hZ hS hFc U hU hW⟩⟩ rfl rfl hl.1 rfl (lv_room (Nat.le_of_ble_eq_true rfl)) dX10_write_3 ⟨(Nat.le_of_ble_eq_true rfl), (Nat.le_of_ble_eq_true rfl)⟩) hS (fun q _ h => hFc q h) hFc (fun rn1 u t H1 locs ht hvm hw hB hz1 hk1 hS => ?_)
  obtain ⟨hP1, hD1⟩ := hB
  rw [ht] at hP1
  obtain ⟨hP, hD⟩ := PDq.join (w := [(v37, .inl (cA 0, 100, .inl fo9)), (v27, .inl (cA 1, 10, .inr (.inl l27))), (oX10 w0 v0 v1 v2 v3 v4 g5 g6 (nI ed) g8 v9 (nI nb) g11 g12 v13 g14 g15 g16 g17 g18 g19 g20 g21 g22 g23 g24 g25 g26 v27 v28 v29 v30 v31 v32 v33 v34 v35 v36 v37 (nI ol)), (v0, .inl (cA 0, 326, .inl fs))]) 2 hP hD [0, 1] [2, 3] rfl rfl (by decide) (by decide) hk1 hFc hP1 hD1 rfl
  generalize H1 = H at hP hS ⊢
  rcases hw with ⟨hr9, hn2⟩ | hr9
  · skip
    subst hr9
    obtain ⟨kn3, hn4, hn5⟩ := hn2
    rw [hn5] at hl
    have hl : lv_has ls 3 [(0, .ref w0), (1, .int (nI kn3))] := hl
    obtain ⟨hPc, hDc, hFc⟩ := PDq.cut (wc := [(oX10 w0 v0 v1 v2 v3 v4 g5 g6 (nI ed) g8 v9 (nI nb) g11 g12 v13 g14 g15 g16 g17 g18 g19 g20 g21 g22 g23 g24 g25 g26 v27 v28 v29 v30 v31 v32 v33 v34 v35 v36 v37 (nI ol))]) hP hD hS hA [2] (by decide) rfl
    refine va_calli (va_runV (As := [.int 1]) (rest := []) ⟨hx, hb, hml, hown, hts⟩ (r_good1 l D cA sa w0 ed nb ol v0 v1 v2 v3 v4 v9 v13 v27 v28 v29 v30 v31 v32 v33 v34 v35 v36 v37 g8 g11 g12 g14 g15 g16 g17 g18 g19 g20 g21 g22 g23 g24 g26 g5 g6 g25 H.size) (cwV 1 hts gX10_write_X10_good rfl rfl rfl (by decide +kernel) ⟨(Nat.le_of_ble_eq_true rfl), (Nat.le_of_ble_eq_true rfl)⟩) ⟨Wd.blind, va_recv hK hPc (ci := 11) (q0 := 0) rfl rfl, fun U hU hW => ⟨rfl, Wd.call hPc hDc hK hC hZ hS hFc U hU hW⟩⟩ rfl rfl hl.1 rfl (lv_room (Nat.le_of_ble_eq_true rfl)) dX10_write_6 ⟨(Nat.le_of_ble_eq_true rfl), (Nat.le_of_ble_eq_true rfl)⟩) hS (fun q _ h => hFc q h) hFc (fun rn6 u t H1 locs ht hvm hw hB hz1 hk1 hS => ?_)
    obtain ⟨hP1, hD1⟩ := hB
    rw [ht] at hP1
    obtain ⟨hP, hD⟩ := PDq.join (w := [(v37, .inl (cA 0, 100, .inl fo9)), (v27, .inl (cA 1, 10, .inr (.inl l27))), (v0, .inl (cA 0, 326, .inl fs)), (oX10 w0 v0 v1 v2 v3 v4 g5 g6 (nI ed) 0 v9 (nI nb) g11 g12 v13 g14 g15 g16 g17 g18 g19 g20 g21 g22 g23 g24 g25 g26 v27 v28 v29 v30 v31 v32 v33 v34 v35 v36 v37 (nI ol))]) 3 hP hD [2] [0, 1, 3] rfl rfl (by decide) (by decide) hk1 hFc hP1 hD1 rfl
    generalize H1 = H at hP hS ⊢
    obtain rfl : rn6 = 1 := hw
    refine lv_if_ne (tgt := 14) hx hb dX10_write_9 (by decide) (fun c7 => ?_) (fun c9 => absurd c9 (by decide))
    refine lv_aload_n hx hb dX10_write_14 rfl (lv_at hl 0 rfl) ?_
    refine lv_iconst (v := 0) hx hb dX10_write_15 (by decide) ?_
    refine va_put (D := D) (ci := 11) (v := .int 0) (ty := .int) (C := RX10) (T := TX10) (N := 39) hx hb hts inX10 tyX10 tyX10_ok nmX10 hown hK hP hD hS 3 rfl rfl 38 (by decide) (hts (.fieldLink RX10 412 "EscrowDeskModel" "outputLength" "I") (by decide +kernel)) (fun _ h9 => h9) rfl (by decide +kernel) rfl rfl (Nat.le_of_ble_eq_true rfl) dX10_write_16 (fun H locs hP hD hS => ?_)
    obtain ⟨hP, hD⟩ : PDq D A [(v37, .inl (cA 0, 100, .inl fo9)), (v27, .inl (cA 1, 10, .inr (.inl l27))), (v0, .inl (cA 0, 326, .inl fs)), (oX10 w0 v0 v1 v2 v3 v4 g5 g6 (nI ed) 0 v9 (nI nb) g11 g12 v13 g14 g15 g16 g17 g18 g19 g20 g21 g22 g23 g24 g25 g26 v27 v28 v29 v30 v31 v32 v33 v34 v35 v36 v37 0)] H := ⟨hP, hD⟩
    refine lv_iconst (v := 0) hx hb dX10_write_19 (by decide) ?_
    refine lv_istore_n (lv' := [(2, .int 0), (0, .ref w0), (1, .int (nI kn3))]) hx hb dX10_write_20 rfl hl (by decide) rfl (fun ls hl => ?_)
    have loop1 : ∀ (n1 i1 : Nat) (f0_1 : Nat → Int32) (oi : Nat) (H : Heap) (locs : List Loc) (ls : Array Slot), i1 + n1 = 14 → oi = i1 → va_P D vwCl [(v37, .inl (cA 0, 100, .inl f0_1)), (v27, .inl (cA 1, 10, .inr (.inl l27))), (v0, .inl (cA 0, 326, .inl fs)), (oX10 w0 v0 v1 v2 v3 v4 g5 g6 (nI ed) 0 v9 (nI nb) g11 g12 v13 g14 g15 g16 g17 g18 g19 g20 g21 g22 g23 g24 g25 g26 v27 v28 v29 v30 v31 v32 v33 v34 v35 v36 v37 (nI oi))] H → va_D A [(v37, .inl (cA 0, 100, .inl f0_1)), (v27, .inl (cA 1, 10, .inr (.inl l27))), (v0, .inl (cA 0, 326, .inl fs)), (oX10 w0 v0 v1 v2 v3 v4 g5 g6 (nI ed) 0 v9 (nI nb) g11 g12 v13 g14 g15 g16 g17 g18 g19 g20 g21 g22 g23 g24 g25 g26 v27 v28 v29 v30 v31 v32 v33 v34 v35 v36 v37 (nI oi))] → va_S A s.heap H locs → lv_has ls 3 [(2, .int (nI i1)), (0, .ref w0), (1, .int (nI kn3))] → W p l e (headSpec wsX10_write ({ frames := 5, cells := 0, slots := 0, locals := 107 } : Room)).room s m ([.ref w0, .int i] : List Value).toArray below meth c H locs 0 0 (MQ below (va_Qi (fun (r : Int32) (_ : Unit) => True) (fun (_ : Unit) t => ∃ zt : Int32, ∃ ol2 : Nat, ∃ zo9 : Nat → Int32, ol2 ≤ 100 ∧ Wq D A [(oX10 w0 v0 v1 v2 v3 v4 g5 g6 (nI ed) zt v9 (nI nb) g11 g12 v13 g14 g15 g16 g17 g18 g19 g20 g21 g22 g23 g24 g25 g26 v27 v28 v29 v30 v31 v32 v33 v34 v35 v36 v37 (nI ol2)), (v0, .inl (cA 0, 326, .inl fs)), (v37, .inl (cA 0, 100, .inl zo9)), (v27, .inl (cA 1, 10, .inr (.inl l27)))] t) A) ([.ref w0, .int i] : List Value).toArray s 0 0 A) (F0 m 21 ls []) := by
      intro n1
      induction n1 with
      | zero =>
        intro i1 f0_1 oi H locs ls hi1 hv0_1 hP hD hS hl
        obtain rfl : 14 = i1 := by omega
        refine lv_iload_n hx hb dX10_write_21 rfl (lv_at hl 0 rfl) ?_
        refine lv_aload_n hx hb dX10_write_22 rfl (lv_at hl 1 rfl) ?_
        refine va_get (D := D) (ci := 11) (v := .ref v27) (C := RX10) (T := TX10) (N := 39) hx hb hts inX10 hown hK hP 3 rfl rfl 27 (by decide) (hts (.fieldLink RX10 36 "EscrowDeskModel" "names" "[J") (by decide +kernel)) (fun _ h9 => h9) rfl dX10_write_23 ?_
        refine lv_iload_n hx hb dX10_write_26 rfl (lv_at hl 2 rfl) ?_
        refine va_lald hx hb hK hP 1 1 rfl rfl (vp_in_nI (n := kn3) (N := 10) (show kn3 < 10 by omega) (by decide)) dX10_write_27 ?_
        refine lv_topl (fun yn8 eyn8 => ?_)
        obtain ⟨hPc, hDc, hFc⟩ := PDq.cut (wc := []) hP hD hS hA [] (by decide) rfl
        refine va_calli (va_runS (As := [.long yn8]) (rest := [.int (nI 14)]) ⟨hx, hb, hml, hown, hts⟩ (r_lettersOf l D cA sa yn8 H.size) (va_cwS 1 hts gX10_write_X10_lettersOf rfl rfl rfl (by decide +kernel) ⟨(Nat.le_of_ble_eq_true rfl), (Nat.le_of_ble_eq_true rfl)⟩) ⟨Wd.blind, fun U hU hW => ⟨rfl, Wd.call hPc hDc hK hC hZ hS hFc U hU hW⟩⟩ rfl rfl hl.1 rfl (lv_room (Nat.le_of_ble_eq_true rfl)) dX10_write_28 ⟨(Nat.le_of_ble_eq_true rfl), (Nat.le_of_ble_eq_true rfl)⟩) hS (fun q _ h => hFc q h) hFc (fun rn9 u t H1 locs ht hvm hw hB hz1 hk1 hS => ?_)
        obtain ⟨hP1, hD1⟩ := hB
        rw [ht] at hP1
        obtain ⟨hP, hD⟩ := PDq.join (w := [(v37, .inl (cA 0, 100, .inl f0_1)), (v27, .inl (cA 1, 10, .inr (.inl l27))), (v0, .inl (cA 0, 326, .inl fs)), (oX10 w0 v0 v1 v2 v3 v4 g5 g6 (nI ed) 0 v9 (nI nb) g11 g12 v13 g14 g15 g16 g17 g18 g19 g20 g21 g22 g23 g24 g25 g26 v27 v28 v29 v30 v31 v32 v33 v34 v35 v36 v37 (nI oi))]) 4 hP hD [] [0, 1, 2, 3] rfl rfl (by decide) (by decide) hk1 hFc hP1 hD1 rfl
        generalize H1 = H at hP hS ⊢
        obtain ⟨kn10, hn11, hr9⟩ := hw
        subst hr9
        refine lv_icmp_ge (tgt := 54) hx hb dX10_write_31 (by decide) (fun c12 => ?_) (fun c9 => absurd (nI_le (a := kn10) (b := 14) (show kn10 ≤ 14 by omega) (by omega)) c9)
        refine lv_aload_n hx hb dX10_write_54 rfl (lv_at hl 1 rfl) ?_
        refine lv_bipush (v := 32) hx hb dX10_write_55 (by decide) ?_
        obtain ⟨hPc, hDc, hFc⟩ := PDq.cut (wc := [(oX10 w0 v0 v1 v2 v3 v4 g5 g6 (nI ed) 0 v9 (nI nb) g11 g12 v13 g14 g15 g16 g17 g18 g19 g20 g21 g22 g23 g24 g25 g26 v27 v28 v29 v30 v31 v32 v33 v34 v35 v36 v37 (nI oi)), (v37, .inl (cA 0, 100, .inl f0_1))]) hP hD hS hA [3, 0] (by decide) rfl
        refine va_callv (va_runV (As := [.int 32]) (rest := []) ⟨hx, hb, hml, hown, hts⟩ (r_put l D cA sa w0 ed nb oi v0 v1 v2 v3 v4 v9 v13 v27 v28 v29 v30 v31 v32 v33 v34 v35 v36 v37 0 g11 g12 g14 g15 g16 g17 g18 g19 g20 g21 g22 g23 g24 g26 g5 g6 g25 f0_1 32 H.size (by omega)) (cwV 1 hts gX10_write_X10_put rfl rfl rfl (by decide +kernel) ⟨(Nat.le_of_ble_eq_true rfl), (Nat.le_of_ble_eq_true rfl)⟩) ⟨Wd.blind, va_recv hK hPc (ci := 11) (q0 := 0) rfl rfl, fun U hU hW => ⟨rfl, Wd.call hPc hDc hK hC hZ hS hFc U hU hW⟩⟩ rfl rfl hl.1 rfl (lv_room (Nat.le_of_ble_eq_true rfl)) dX10_write_57 ⟨(Nat.le_of_ble_eq_true rfl), (Nat.le_of_ble_eq_true rfl)⟩) hS (fun q _ h => hFc q h) hFc (fun u t H1 locs ht hvm hw hB hz1 hk1 hS => ?_)
        obtain ⟨qn13, fn14, hn15, hP1, hD1⟩ := hB
        rw [ht] at hP1
        obtain ⟨hP, hD⟩ := PDq.join (w := [(v27, .inl (cA 1, 10, .inr (.inl l27))), (v0, .inl (cA 0, 326, .inl fs)), (oX10 w0 v0 v1 v2 v3 v4 g5 g6 (nI ed) 0 v9 (nI nb) g11 g12 v13 g14 g15 g16 g17 g18 g19 g20 g21 g22 g23 g24 g25 g26 v27 v28 v29 v30 v31 v32 v33 v34 v35 v36 v37 (nI qn13)), (v37, .inl (cA 0, 100, .inl fn14))]) 2 hP hD [3, 0] [1, 2] rfl rfl (by decide) (by decide) hk1 hFc hP1 hD1 rfl
        generalize H1 = H at hP hS ⊢
        refine lv_aload_n hx hb dX10_write_60 rfl (lv_at hl 1 rfl) ?_
        refine lv_aload_n hx hb dX10_write_61 rfl (lv_at hl 1 rfl) ?_
        refine lv_iload_n hx hb dX10_write_62 rfl (lv_at hl 2 rfl) ?_
        refine lv_iconst (v := 2) hx hb dX10_write_63 (by decide) ?_
        obtain ⟨hPc, hDc, hFc⟩ := PDq.cut (wc := [(oX10 w0 v0 v1 v2 v3 v4 g5 g6 (nI ed) 0 v9 (nI nb) g11 g12 v13 g14 g15 g16 g17 g18 g19 g20 g21 g22 g23 g24 g25 g26 v27 v28 v29 v30 v31 v32 v33 v34 v35 v36 v37 (nI qn13)), (v0, .inl (cA 0, 326, .inl fs))]) hP hD hS hA [2, 1] (by decide) rfl
        refine va_calli (va_runV (As := [.int (nI kn3), .int 2]) (rest := [.ref w0]) ⟨hx, hb, hml, hown, hts⟩ (r_of l D cA sa w0 ed nb qn13 v0 v1 v2 v3 v4 v9 v13 v27 v28 v29 v30 v31 v32 v33 v34 v35 v36 v37 0 g11 g12 g14 g15 g16 g17 g18 g19 g20 g21 g22 g23 g24 g26 g5 g6 g25 fs kn3 2 H.size (by omega) (by omega)) (cwV 2 hts gX10_write_X10_of rfl rfl rfl (by decide +kernel) ⟨(Nat.le_of_ble_eq_true rfl), (Nat.le_of_ble_eq_true rfl)⟩) ⟨Wd.blind, va_recv hK hPc (ci := 11) (q0 := 0) rfl rfl, fun U hU hW => ⟨rfl, Wd.call hPc hDc hK hC hZ hS hFc U hU hW⟩⟩ rfl rfl hl.1 rfl (lv_room (Nat.le_of_ble_eq_true rfl)) dX10_write_64 ⟨(Nat.le_of_ble_eq_true rfl), (Nat.le_of_ble_eq_true rfl)⟩) hS (fun q _ h => hFc q h) hFc (fun rn16 u t H1 locs ht hvm hw hB hz1 hk1 hS => ?_)
        obtain ⟨hP1, hD1⟩ := hB
        rw [ht] at hP1
        obtain ⟨hP, hD⟩ := PDq.join (w := [(v27, .inl (cA 1, 10, .inr (.inl l27))), (v37, .inl (cA 0, 100, .inl fn14)), (oX10 w0 v0 v1 v2 v3 v4 g5 g6 (nI ed) 0 v9 (nI nb) g11 g12 v13 g14 g15 g16 g17 g18 g19 g20 g21 g22 g23 g24 g25 g26 v27 v28 v29 v30 v31 v32 v33 v34 v35 v36 v37 (nI qn13)), (v0, .inl (cA 0, 326, .inl fs))]) 2 hP hD [2, 1] [0, 3] rfl rfl (by decide) (by decide) hk1 hFc hP1 hD1 rfl
        generalize H1 = H at hP hS ⊢
        obtain rfl : rn16 = (fs (16 + 7 * kn3 + 2)) := hw
        have meet2 : ∀ (fj : Nat → Int32) (oj : Nat) (H : Heap) (locs : List Loc) (ls : Array Slot), oj ≤ qn13 + 9 → va_P D vwCl [(v27, .inl (cA 1, 10, .inr (.inl l27))), (v37, .inl (cA 0, 100, .inl fj)), (oX10 w0 v0 v1 v2 v3 v4 g5 g6 (nI ed) 0 v9 (nI nb) g11 g12 v13 g14 g15 g16 g17 g18 g19 g20 g21 g22 g23 g24 g25 g26 v27 v28 v29 v30 v31 v32 v33 v34 v35 v36 v37 (nI oj)), (v0, .inl (cA 0, 326, .inl fs))] H → va_D A [(v27, .inl (cA 1, 10, .inr (.inl l27))), (v37, .inl (cA 0, 100, .inl fj)), (oX10 w0 v0 v1 v2 v3 v4 g5 g6 (nI ed) 0 v9 (nI nb) g11 g12 v13 g14 g15 g16 g17 g18 g19 g20 g21 g22 g23 g24 g25 g26 v27 v28 v29 v30 v31 v32 v33 v34 v35 v36 v37 (nI oj)), (v0, .inl (cA 0, 326, .inl fs))] → va_S A s.heap H locs → lv_has ls 3 [(2, .int (nI 14)), (0, .ref w0), (1, .int (nI kn3))] → W p l e (headSpec wsX10_write ({ frames := 5, cells := 0, slots := 0, locals := 107 } : Room)).room s m ([.ref w0, .int i] : List Value).toArray below meth c H locs 0 0 (MQ below (va_Qi (fun (r : Int32) (_ : Unit) => True) (fun (_ : Unit) t => ∃ zt : Int32, ∃ ol2 : Nat, ∃ zo9 : Nat → Int32, ol2 ≤ 100 ∧ Wq D A [(oX10 w0 v0 v1 v2 v3 v4 g5 g6 (nI ed) zt v9 (nI nb) g11 g12 v13 g14 g15 g16 g17 g18 g19 g20 g21 g22 g23 g24 g25 g26 v27 v28 v29 v30 v31 v32 v33 v34 v35 v36 v37 (nI ol2)), (v0, .inl (cA 0, 326, .inl fs)), (v37, .inl (cA 0, 100, .inl zo9)), (v27, .inl (cA 1, 10, .inr (.inl l27)))] t) A) ([.ref w0, .int i] : List Value).toArray s 0 0 A) (F0 m 73 ls []) := by
          intro fj oj H locs ls hm0_2 hP hD hS hl
          refine lv_aload_n hx hb dX10_write_73 rfl (lv_at hl 1 rfl) ?_
          refine lv_bipush (v := 32) hx hb dX10_write_74 (by decide) ?_
          obtain ⟨hPc, hDc, hFc⟩ := PDq.cut (wc := [(oX10 w0 v0 v1 v2 v3 v4 g5 g6 (nI ed) 0 v9 (nI nb) g11 g12 v13 g14 g15 g16 g17 g18 g19 g20 g21 g22 g23 g24 g25 g26 v27 v28 v29 v30 v31 v32 v33 v34 v35 v36 v37 (nI oj)), (v37, .inl (cA 0, 100, .inl fj))]) hP hD hS hA [2, 1] (by decide) rfl
          refine va_callv (va_runV (As := [.int 32]) (rest := []) ⟨hx, hb, hml, hown, hts⟩ (r_put l D cA sa w0 ed nb oj v0 v1 v2 v3 v4 v9 v13 v27 v28 v29 v30 v31 v32 v33 v34 v35 v36 v37 0 g11 g12 g14 g15 g16 g17 g18 g19 g20 g21 g22 g23 g24 g26 g5 g6 g25 fj 32 H.size (by omega)) (cwV 1 hts gX10_write_X10_put rfl rfl rfl (by decide +kernel) ⟨(Nat.le_of_ble_eq_true rfl), (Nat.le_of_ble_eq_true rfl)⟩) ⟨Wd.blind, va_recv hK hPc (ci := 11) (q0 := 0) rfl rfl, fun U hU hW => ⟨rfl, Wd.call hPc hDc hK hC hZ hS hFc U hU hW⟩⟩ rfl rfl hl.1 rfl (lv_room (Nat.le_of_ble_eq_true rfl)) dX10_write_76 ⟨(Nat.le_of_ble_eq_true rfl), (Nat.le_of_ble_eq_true rfl)⟩) hS (fun q _ h => hFc q h) hFc (fun u t H1 locs ht hvm hw hB hz1 hk1 hS => ?_)
          obtain ⟨qn17, fn18, hn19, hP1, hD1⟩ := hB
          rw [ht] at hP1
          obtain ⟨hP, hD⟩ := PDq.join (w := [(v27, .inl (cA 1, 10, .inr (.inl l27))), (v0, .inl (cA 0, 326, .inl fs)), (oX10 w0 v0 v1 v2 v3 v4 g5 g6 (nI ed) 0 v9 (nI nb) g11 g12 v13 g14 g15 g16 g17 g18 g19 g20 g21 g22 g23 g24 g25 g26 v27 v28 v29 v30 v31 v32 v33 v34 v35 v36 v37 (nI qn17)), (v37, .inl (cA 0, 100, .inl fn18))]) 2 hP hD [2, 1] [0, 3] rfl rfl (by decide) (by decide) hk1 hFc hP1 hD1 rfl
          generalize H1 = H at hP hS ⊢
          refine lv_aload_n hx hb dX10_write_79 rfl (lv_at hl 1 rfl) ?_
          refine lv_aload_n hx hb dX10_write_80 rfl (lv_at hl 1 rfl) ?_
          refine lv_iload_n hx hb dX10_write_81 rfl (lv_at hl 2 rfl) ?_
          refine lv_iconst (v := 1) hx hb dX10_write_82 (by decide) ?_
          obtain ⟨hPc, hDc, hFc⟩ := PDq.cut (wc := [(oX10 w0 v0 v1 v2 v3 v4 g5 g6 (nI ed) 0 v9 (nI nb) g11 g12 v13 g14 g15 g16 g17 g18 g19 g20 g21 g22 g23 g24 g25 g26 v27 v28 v29 v30 v31 v32 v33 v34 v35 v36 v37 (nI qn17)), (v0, .inl (cA 0, 326, .inl fs))]) hP hD hS hA [2, 1] (by decide) rfl
          refine va_calli (va_runV (As := [.int (nI kn3), .int 1]) (rest := [.ref w0]) ⟨hx, hb, hml, hown, hts⟩ (r_of l D cA sa w0 ed nb qn17 v0 v1 v2 v3 v4 v9 v13 v27 v28 v29 v30 v31 v32 v33 v34 v35 v36 v37 0 g11 g12 g14 g15 g16 g17 g18 g19 g20 g21 g22 g23 g24 g26 g5 g6 g25 fs kn3 1 H.size (by omega) (by omega)) (cwV 2 hts gX10_write_X10_of rfl rfl rfl (by decide +kernel) ⟨(Nat.le_of_ble_eq_true rfl), (Nat.le_of_ble_eq_true rfl)⟩) ⟨Wd.blind, va_recv hK hPc (ci := 11) (q0 := 0) rfl rfl, fun U hU hW => ⟨rfl, Wd.call hPc hDc hK hC hZ hS hFc U hU hW⟩⟩ rfl rfl hl.1 rfl (lv_room (Nat.le_of_ble_eq_true rfl)) dX10_write_83 ⟨(Nat.le_of_ble_eq_true rfl), (Nat.le_of_ble_eq_true rfl)⟩) hS (fun q _ h => hFc q h) hFc (fun rn20 u t H1 locs ht hvm hw hB hz1 hk1 hS => ?_)
          obtain ⟨hP1, hD1⟩ := hB
          rw [ht] at hP1
          obtain ⟨hP, hD⟩ := PDq.join (w := [(v27, .inl (cA 1, 10, .inr (.inl l27))), (v37, .inl (cA 0, 100, .inl fn18)), (oX10 w0 v0 v1 v2 v3 v4 g5 g6 (nI ed) 0 v9 (nI nb) g11 g12 v13 g14 g15 g16 g17 g18 g19 g20 g21 g22 g23 g24 g25 g26 v27 v28 v29 v30 v31 v32 v33 v34 v35 v36 v37 (nI qn17)), (v0, .inl (cA 0, 326, .inl fs))]) 2 hP hD [2, 1] [0, 3] rfl rfl (by decide) (by decide) hk1 hFc hP1 hD1 rfl
          generalize H1 = H at hP hS ⊢
          obtain rfl : rn20 = (fs (16 + 7 * kn3 + 1)) := hw
          obtain ⟨hPc, hDc, hFc⟩ := PDq.cut (wc := [(oX10 w0 v0 v1 v2 v3 v4 g5 g6 (nI ed) 0 v9 (nI nb) g11 g12 v13 g14 g15 g16 g17 g18 g19 g20 g21 g22 g23 g24 g25 g26 v27 v28 v29 v30 v31 v32 v33 v34 v35 v36 v37 (nI qn17)), (v37, .inl (cA 0, 100, .inl fn18))]) hP hD hS hA [2, 1] (by decide) rfl
          refine va_callv (va_runV (As := [.int (fs (16 + 7 * kn3 + 1))]) (rest := []) ⟨hx, hb, hml, hown, hts⟩ (r_putNumber l D cA sa w0 ed nb qn17 v0 v1 v2 v3 v4 v9 v13 v27 v28 v29 v30 v31 v32 v33 v34 v35 v36 v37 0 g11 g12 g14 g15 g16 g17 g18 g19 g20 g21 g22 g23 g24 g26 g5 g6 g25 fn18 (fs (16 + 7 * kn3 + 1)) H.size (by omega)) (cwV 1 hts gX10_write_X10_putNumber rfl rfl rfl (by decide +kernel) ⟨(Nat.le_of_ble_eq_true rfl), (Nat.le_of_ble_eq_true rfl)⟩) ⟨Wd.blind, va_recv hK hPc (ci := 11) (q0 := 0) rfl rfl, fun U hU hW => ⟨rfl, Wd.call hPc hDc hK hC hZ hS hFc U hU hW⟩⟩ rfl rfl hl.1 rfl (lv_room (Nat.le_of_ble_eq_true rfl)) dX10_write_86 ⟨(Nat.le_of_ble_eq_true rfl), (Nat.le_of_ble_eq_true rfl)⟩) hS (fun q _ h => hFc q h) hFc (fun u t H1 locs ht hvm hw hB hz1 hk1 hS => ?_)
          obtain ⟨qn21, fn22, hn23, hP1, hD1⟩ := hB
          rw [ht] at hP1
          obtain ⟨hP, hD⟩ := PDq.join (w := [(v27, .inl (cA 1, 10, .inr (.inl l27))), (v0, .inl (cA 0, 326, .inl fs)), (oX10 w0 v0 v1 v2 v3 v4 g5 g6 (nI ed) 0 v9 (nI nb) g11 g12 v13 g14 g15 g16 g17 g18 g19 g20 g21 g22 g23 g24 g25 g26 v27 v28 v29 v30 v31 v32 v33 v34 v35 v36 v37 (nI qn21)), (v37, .inl (cA 0, 100, .inl fn22))]) 2 hP hD [2, 1] [0, 3] rfl rfl (by decide) (by decide) hk1 hFc hP1 hD1 rfl
          generalize H1 = H at hP hS ⊢
          refine lv_aload_n hx hb dX10_write_89 rfl (lv_at hl 1 rfl) ?_
          refine lv_bipush (v := 47) hx hb dX10_write_90 (by decide) ?_
          obtain ⟨hPc, hDc, hFc⟩ := PDq.cut (wc := [(oX10 w0 v0 v1 v2 v3 v4 g5 g6 (nI ed) 0 v9 (nI nb) g11 g12 v13 g14 g15 g16 g17 g18 g19 g20 g21 g22 g23 g24 g25 g26 v27 v28 v29 v30 v31 v32 v33 v34 v35 v36 v37 (nI qn21)), (v37, .inl (cA 0, 100, .inl fn22))]) hP hD hS hA [2, 3] (by decide) rfl
          refine va_callv (va_runV (As := [.int 47]) (rest := []) ⟨hx, hb, hml, hown, hts⟩ (r_put l D cA sa w0 ed nb qn21 v0 v1 v2 v3 v4 v9 v13 v27 v28 v29 v30 v31 v32 v33 v34 v35 v36 v37 0 g11 g12 g14 g15 g16 g17 g18 g19 g20 g21 g22 g23 g24 g26 g5 g6 g25 fn22 47 H.size (by omega)) (cwV 1 hts gX10_write_X10_put rfl rfl rfl (by decide +kernel) ⟨(Nat.le_of_ble_eq_true rfl), (Nat.le_of_ble_eq_true rfl)⟩) ⟨Wd.blind, va_recv hK hPc (ci := 11) (q0 := 0) rfl rfl, fun U hU hW => ⟨rfl, Wd.call hPc hDc hK hC hZ hS hFc U hU hW⟩⟩ rfl rfl hl.1 rfl (lv_room (Nat.le_of_ble_eq_true rfl)) dX10_write_92 ⟨(Nat.le_of_ble_eq_true rfl), (Nat.le_of_ble_eq_true rfl)⟩) hS (fun q _ h => hFc q h) hFc (fun u t H1 locs ht hvm hw hB hz1 hk1 hS => ?_)
          obtain ⟨qn24, fn25, hn26, hP1, hD1⟩ := hB
          rw [ht] at hP1
          obtain ⟨hP, hD⟩ := PDq.join (w := [(v27, .inl (cA 1, 10, .inr (.inl l27))), (v0, .inl (cA 0, 326, .inl fs)), (oX10 w0 v0 v1 v2 v3 v4 g5 g6 (nI ed) 0 v9 (nI nb) g11 g12 v13 g14 g15 g16 g17 g18 g19 g20 g21 g22 g23 g24 g25 g26 v27 v28 v29 v30 v31 v32 v33 v34 v35 v36 v37 (nI qn24)), (v37, .inl (cA 0, 100, .inl fn25))]) 2 hP hD [2, 3] [0, 1] rfl rfl (by decide) (by decide) hk1 hFc hP1 hD1 rfl
          generalize H1 = H at hP hS ⊢
          refine lv_aload_n hx hb dX10_write_95 rfl (lv_at hl 1 rfl) ?_
          refine lv_aload_n hx hb dX10_write_96 rfl (lv_at hl 1 rfl) ?_
          refine lv_iload_n hx hb dX10_write_97 rfl (lv_at hl 2 rfl) ?_
          refine lv_iconst (v := 0) hx hb dX10_write_98 (by decide) ?_
          obtain ⟨hPc, hDc, hFc⟩ := PDq.cut (wc := [(oX10 w0 v0 v1 v2 v3 v4 g5 g6 (nI ed) 0 v9 (nI nb) g11 g12 v13 g14 g15 g16 g17 g18 g19 g20 g21 g22 g23 g24 g25 g26 v27 v28 v29 v30 v31 v32 v33 v34 v35 v36 v37 (nI qn24)), (v0, .inl (cA 0, 326, .inl fs))]) hP hD hS hA [2, 1] (by decide) rfl
          refine va_calli (va_runV (As := [.int (nI kn3), .int 0]) (rest := [.ref w0]) ⟨hx, hb, hml, hown, hts⟩ (r_of l D cA sa w0 ed nb qn24 v0 v1 v2 v3 v4 v9 v13 v27 v28 v29 v30 v31 v32 v33 v34 v35 v36 v37 0 g11 g12 g14 g15 g16 g17 g18 g19 g20 g21 g22 g23 g24 g26 g5 g6 g25 fs kn3 0 H.size (by omega) (by omega)) (cwV 2 hts gX10_write_X10_of rfl rfl rfl (by decide +kernel) ⟨(Nat.le_of_ble_eq_true rfl), (Nat.le_of_ble_eq_true rfl)⟩) ⟨Wd.blind, va_recv hK hPc (ci := 11) (q0 := 0) rfl rfl, fun U hU hW => ⟨rfl, Wd.call hPc hDc hK hC hZ hS hFc U hU hW⟩⟩ rfl rfl hl.1 rfl (lv_room (Nat.le_of_ble_eq_true rfl)) dX10_write_99 ⟨(Nat.le_of_ble_eq_true rfl), (Nat.le_of_ble_eq_true rfl)⟩) hS (fun q _ h => hFc q h) hFc (fun rn27 u t H1 locs ht hvm hw hB hz1 hk1 hS => ?_)
          obtain ⟨hP1, hD1⟩ := hB
          rw [ht] at hP1
          obtain ⟨hP, hD⟩ := PDq.join (w := [(v27, .inl (cA 1, 10, .inr (.inl l27))), (v37, .inl (cA 0, 100, .inl fn25)), (oX10 w0 v0 v1 v2 v3 v4 g5 g6 (nI ed) 0 v9 (nI nb) g11 g12 v13 g14 g15 g16 g17 g18 g19 g20 g21 g22 g23 g24 g25 g26 v27 v28 v29 v30 v31 v32 v33 v34 v35 v36 v37 (nI qn24)), (v0, .inl (cA 0, 326, .inl fs))]) 2 hP hD [2, 1] [0, 3] rfl rfl (by decide) (by decide) hk1 hFc hP1 hD1 rfl
          generalize H1 = H at hP hS ⊢
          obtain rfl : rn27 = (fs (16 + 7 * kn3 + 0)) := hw
          obtain ⟨hPc, hDc, hFc⟩ := PDq.cut (wc := [(oX10 w0 v0 v1 v2 v3 v4 g5 g6 (nI ed) 0 v9 (nI nb) g11 g12 v13 g14 g15 g16 g17 g18 g19 g20 g21 g22 g23 g24 g25 g26 v27 v28 v29 v30 v31 v32 v33 v34 v35 v36 v37 (nI qn24)), (v37, .inl (cA 0, 100, .inl fn25))]) hP hD hS hA [2, 1] (by decide) rfl
          refine va_callv (va_runV (As := [.int (fs (16 + 7 * kn3 + 0))]) (rest := []) ⟨hx, hb, hml, hown, hts⟩ (r_putNumber l D cA sa w0 ed nb qn24 v0 v1 v2 v3 v4 v9 v13 v27 v28 v29 v30 v31 v32 v33 v34 v35 v36 v37 0 g11 g12 g14 g15 g16 g17 g18 g19 g20 g21 g22 g23 g24 g26 g5 g6 g25 fn25 (fs (16 + 7 * kn3 + 0)) H.size (by omega)) (cwV 1 hts gX10_write_X10_putNumber rfl rfl rfl (by decide +kernel) ⟨(Nat.le_of_ble_eq_true rfl), (Nat.le_of_ble_eq_true rfl)⟩) ⟨Wd.blind, va_recv hK hPc (ci := 11) (q0 := 0) rfl rfl, fun U hU hW => ⟨rfl, Wd.call hPc hDc hK hC hZ hS hFc U hU hW⟩⟩ rfl rfl hl.1 rfl (lv_room (Nat.le_of_ble_eq_true rfl)) dX10_write_102 ⟨(Nat.le_of_ble_eq_true rfl), (Nat.le_of_ble_eq_true rfl)⟩) hS (fun q _ h => hFc q h) hFc (fun u t H1 locs ht hvm hw hB hz1 hk1 hS => ?_)
          obtain ⟨qn28, fn29, hn30, hP1, hD1⟩ := hB
          rw [ht] at hP1
          obtain ⟨hP, hD⟩ := PDq.join (w := [(v27, .inl (cA 1, 10, .inr (.inl l27))), (v0, .inl (cA 0, 326, .inl fs)), (oX10 w0 v0 v1 v2 v3 v4 g5 g6 (nI ed) 0 v9 (nI nb) g11 g12 v13 g14 g15 g16 g17 g18 g19 g20 g21 g22 g23 g24 g25 g26 v27 v28 v29 v30 v31 v32 v33 v34 v35 v36 v37 (nI qn28)), (v37, .inl (cA 0, 100, .inl fn29))]) 2 hP hD [2, 1] [0, 3] rfl rfl (by decide) (by decide) hk1 hFc hP1 hD1 rfl
          generalize H1 = H at hP hS ⊢
          refine lv_aload_n hx hb dX10_write_105 rfl (lv_at hl 1 rfl) ?_
          refine lv_iload_n hx hb dX10_write_106 rfl (lv_at hl 2 rfl) ?_
          refine lv_iconst (v := 2) hx hb dX10_write_107 (by decide) ?_
          obtain ⟨hPc, hDc, hFc⟩ := PDq.cut (wc := [(oX10 w0 v0 v1 v2 v3 v4 g5 g6 (nI ed) 0 v9 (nI nb) g11 g12 v13 g14 g15 g16 g17 g18 g19 g20 g21 g22 g23 g24 g25 g26 v27 v28 v29 v30 v31 v32 v33 v34 v35 v36 v37 (nI qn28)), (v0, .inl (cA 0, 326, .inl fs))]) hP hD hS hA [2, 1] (by decide) rfl
          refine va_calli (va_runV (As := [.int (nI kn3), .int 2]) (rest := []) ⟨hx, hb, hml, hown, hts⟩ (r_of l D cA sa w0 ed nb qn28 v0 v1 v2 v3 v4 v9 v13 v27 v28 v29 v30 v31 v32 v33 v34 v35 v36 v37 0 g11 g12 g14 g15 g16 g17 g18 g19 g20 g21 g22 g23 g24 g26 g5 g6 g25 fs kn3 2 H.size (by omega) (by omega)) (cwV 2 hts gX10_write_X10_of rfl rfl rfl (by decide +kernel) ⟨(Nat.le_of_ble_eq_true rfl), (Nat.le_of_ble_eq_true rfl)⟩) ⟨Wd.blind, va_recv hK hPc (ci := 11) (q0 := 0) rfl rfl, fun U hU hW => ⟨rfl, Wd.call hPc hDc hK hC hZ hS hFc U hU hW⟩⟩ rfl rfl hl.1 rfl (lv_room (Nat.le_of_ble_eq_true rfl)) dX10_write_108 ⟨(Nat.le_of_ble_eq_true rfl), (Nat.le_of_ble_eq_true rfl)⟩) hS (fun q _ h => hFc q h) hFc (fun rn31 u t H1 locs ht hvm hw hB hz1 hk1 hS => ?_)
          obtain ⟨hP1, hD1⟩ := hB
          rw [ht] at hP1
          obtain ⟨hP, hD⟩ := PDq.join (w := [(v27, .inl (cA 1, 10, .inr (.inl l27))), (v37, .inl (cA 0, 100, .inl fn29)), (oX10 w0 v0 v1 v2 v3 v4 g5 g6 (nI ed) 0 v9 (nI nb) g11 g12 v13 g14 g15 g16 g17 g18 g19 g20 g21 g22 g23 g24 g25 g26 v27 v28 v29 v30 v31 v32 v33 v34 v35 v36 v37 (nI qn28)), (v0, .inl (cA 0, 326, .inl fs))]) 2 hP hD [2, 1] [0, 3] rfl rfl (by decide) (by decide) hk1 hFc hP1 hD1 rfl
          generalize H1 = H at hP hS ⊢
          obtain rfl : rn31 = (fs (16 + 7 * kn3 + 2)) := hw
          refine lv_iconst (v := 1) hx hb dX10_write_111 (by decide) ?_
          refine lv_icmp_ne (tgt := 132) hx hb dX10_write_112 (by decide) (fun c32 => ?_) (fun c32 => ?_)
          · skip
            refine lv_aload_n hx hb dX10_write_132 rfl (lv_at hl 1 rfl) ?_
            refine lv_iload_n hx hb dX10_write_133 rfl (lv_at hl 2 rfl) ?_
            refine lv_iconst (v := 2) hx hb dX10_write_134 (by decide) ?_
            obtain ⟨hPc, hDc, hFc⟩ := PDq.cut (wc := [(oX10 w0 v0 v1 v2 v3 v4 g5 g6 (nI ed) 0 v9 (nI nb) g11 g12 v13 g14 g15 g16 g17 g18 g19 g20 g21 g22 g23 g24 g25 g26 v27 v28 v29 v30 v31 v32 v33 v34 v35 v36 v37 (nI qn28)), (v0, .inl (cA 0, 326, .inl fs))]) hP hD hS hA [2, 3] (by decide) rfl
            refine va_calli (va_runV (As := [.int (nI kn3), .int 2]) (rest := []) ⟨hx, hb, hml, hown, hts⟩ (r_of l D cA sa w0 ed nb qn28 v0 v1 v2 v3 v4 v9 v13 v27 v28 v29 v30 v31 v32 v33 v34 v35 v36 v37 0 g11 g12 g14 g15 g16 g17 g18 g19 g20 g21 g22 g23 g24 g26 g5 g6 g25 fs kn3 2 H.size (by omega) (by omega)) (cwV 2 hts gX10_write_X10_of rfl rfl rfl (by decide +kernel) ⟨(Nat.le_of_ble_eq_true rfl), (Nat.le_of_ble_eq_true rfl)⟩) ⟨Wd.blind, va_recv hK hPc (ci := 11) (q0 := 0) rfl rfl, fun U hU hW => ⟨rfl, Wd.call hPc hDc hK hC hZ hS hFc U hU hW⟩⟩ rfl rfl hl.1 rfl (lv_room (Nat.le_of_ble_eq_true rfl)) dX10_write_135 ⟨(Nat.le_of_ble_eq_true rfl), (Nat.le_of_ble_eq_true rfl)⟩) hS (fun q _ h => hFc q h) hFc (fun rn33 u t H1 locs ht hvm hw hB hz1 hk1 hS => ?_)
            obtain ⟨hP1, hD1⟩ := hB
            rw [ht] at hP1
            obtain ⟨hP, hD⟩ := PDq.join (w := [(v27, .inl (cA 1, 10, .inr (.inl l27))), (v37, .inl (cA 0, 100, .inl fn29)), (oX10 w0 v0 v1 v2 v3 v4 g5 g6 (nI ed) 0 v9 (nI nb) g11 g12 v13 g14 g15 g16 g17 g18 g19 g20 g21 g22 g23 g24 g25 g26 v27 v28 v29 v30 v31 v32 v33 v34 v35 v36 v37 (nI qn28)), (v0, .inl (cA 0, 326, .inl fs))]) 2 hP hD [2, 3] [0, 1] rfl rfl (by decide) (by decide) hk1 hFc hP1 hD1 rfl
            generalize H1 = H at hP hS ⊢
            obtain rfl : rn33 = (fs (16 + 7 * kn3 + 2)) := hw
            refine lv_iconst (v := 2) hx hb dX10_write_138 (by decide) ?_
            refine lv_icmp_ne (tgt := 159) hx hb dX10_write_139 (by decide) (fun c34 => ?_) (fun c34 => ?_)
            · skip
              refine lv_aload_n hx hb dX10_write_159 rfl (lv_at hl 1 rfl) ?_
              refine va_get (D := D) (ci := 11) (v := .int (nI qn28)) (C := RX10) (T := TX10) (N := 39) hx hb hts inX10 hown hK hP 2 rfl rfl 38 (by decide) (hts (.fieldLink RX10 412 "EscrowDeskModel" "outputLength" "I") (by decide +kernel)) (fun _ h9 => h9) rfl dX10_write_160 ?_
              obtain ⟨hP9, hD9⟩ := PDq.sub (ws' := [(oX10 w0 v0 v1 v2 v3 v4 g5 g6 (nI ed) 0 v9 (nI nb) g11 g12 v13 g14 g15 g16 g17 g18 g19 g20 g21 g22 g23 g24 g25 g26 v27 v28 v29 v30 v31 v32 v33 v34 v35 v36 v37 (nI qn28)), (v0, .inl (cA 0, 326, .inl fs)), (v37, .inl (cA 0, 100, .inl fn29)), (v27, .inl (cA 1, 10, .inr (.inl l27)))]) hP hD [2, 3, 1, 0] (by decide) rfl
              refine W.widen (k := 0) (n := 0) (Nat.le_of_ble_eq_true rfl) (Nat.le_of_ble_eq_true rfl) ?_
              exact (W.iret (v := (nI qn28)) hx hb hr (fun t ht hW => ⟨⟨(nI qn28), (), rfl, trivial, 0, qn28, fn29, (by omega), by rw [ht]; exact hP9, hD9⟩, hS.F ht⟩) hS.2.2 dX10_write_163)
            · skip
              refine lv_aload_n hx hb dX10_write_142 rfl (lv_at hl 1 rfl) ?_
              refine va_ldcwS hx hb hown (hC.str 32 rfl) dX10_write_143 ?_
              obtain ⟨hPc, hDc, hFc⟩ := PDq.cut (wc := [(oX10 w0 v0 v1 v2 v3 v4 g5 g6 (nI ed) 0 v9 (nI nb) g11 g12 v13 g14 g15 g16 g17 g18 g19 g20 g21 g22 g23 g24 g25 g26 v27 v28 v29 v30 v31 v32 v33 v34 v35 v36 v37 (nI qn28)), (v37, .inl (cA 0, 100, .inl fn29))]) hP hD hS hA [2, 1] (by decide) rfl
              refine va_callv (va_runV (As := [.ref (sa 32)]) (rest := []) ⟨hx, hb, hml, hown, hts⟩ (r_putText l D cA sa w0 ed nb qn28 v0 v1 v2 v3 v4 v9 v13 v27 v28 v29 v30 v31 v32 v33 v34 v35 v36 v37 0 g11 g12 g14 g15 g16 g17 g18 g19 g20 g21 g22 g23 g24 g26 g5 g6 g25 fn29 32 ([32, 102, 114, 111, 122, 101, 110, 32]) H.size (by decide +kernel) (by simp only [List.length_cons, List.length_nil]; omega)) (cwV 1 hts gX10_write_X10_putText rfl rfl rfl (by decide +kernel) ⟨(Nat.le_of_ble_eq_true rfl), (Nat.le_of_ble_eq_true rfl)⟩) ⟨Wd.blind, va_recv hK hPc (ci := 11) (q0 := 0) rfl rfl, fun U hU hW => ⟨rfl, Wd.call hPc hDc hK hC hZ hS hFc U hU hW⟩⟩ rfl rfl hl.1 rfl (lv_room (Nat.le_of_ble_eq_true rfl)) dX10_write_146 ⟨(Nat.le_of_ble_eq_true rfl), (Nat.le_of_ble_eq_true rfl)⟩) hS (fun q _ h => hFc q h) hFc (fun u t H1 locs ht hvm hw hB hz1 hk1 hS => ?_)
              obtain ⟨qn35, fn36, hn37, hP1, hD1⟩ := hB
              rw [ht] at hP1
              obtain ⟨hP, hD⟩ := PDq.join (w := [(v27, .inl (cA 1, 10, .inr (.inl l27))), (v0, .inl (cA 0, 326, .inl fs)), (oX10 w0 v0 v1 v2 v3 v4 g5 g6 (nI ed) 0 v9 (nI nb) g11 g12 v13 g14 g15 g16 g17 g18 g19 g20 g21 g22 g23 g24 g25 g26 v27 v28 v29 v30 v31 v32 v33 v34 v35 v36 v37 (nI qn35)), (v37, .inl (cA 0, 100, .inl fn36))]) 2 hP hD [2, 1] [0, 3] rfl rfl (by decide) (by decide) hk1 hFc hP1 hD1 rfl
              generalize H1 = H at hP hS ⊢
              have hn38 : ([32, 102, 114, 111, 122, 101, 110, 32] : List Int32).length = 8 := rfl
              refine lv_aload_n hx hb dX10_write_149 rfl (lv_at hl 1 rfl) ?_
              refine lv_aload_n hx hb dX10_write_150 rfl (lv_at hl 1 rfl) ?_
              refine lv_iload_n hx hb dX10_write_151 rfl (lv_at hl 2 rfl) ?_
              refine lv_iconst (v := 3) hx hb dX10_write_152 (by decide) ?_
              obtain ⟨hPc, hDc, hFc⟩ := PDq.cut (wc := [(oX10 w0 v0 v1 v2 v3 v4 g5 g6 (nI ed) 0 v9 (nI nb) g11 g12 v13 g14 g15 g16 g17 g18 g19 g20 g21 g22 g23 g24 g25 g26 v27 v28 v29 v30 v31 v32 v33 v34 v35 v36 v37 (nI qn35)), (v0, .inl (cA 0, 326, .inl fs))]) hP hD hS hA [2, 1] (by decide) rfl
              refine va_calli (va_runV (As := [.int (nI kn3), .int 3]) (rest := [.ref w0]) ⟨hx, hb, hml, hown, hts⟩ (r_of l D cA sa w0 ed nb qn35 v0 v1 v2 v3 v4 v9 v13 v27 v28 v29 v30 v31 v32 v33 v34 v35 v36 v37 0 g11 g12 g14 g15 g16 g17 g18 g19 g20 g21 g22 g23 g24 g26 g5 g6 g25 fs kn3 3 H.size (by omega) (by omega)) (cwV 2 hts gX10_write_X10_of rfl rfl rfl (by decide +kernel) ⟨(Nat.le_of_ble_eq_true rfl), (Nat.le_of_ble_eq_true rfl)⟩) ⟨Wd.blind, va_recv hK hPc (ci := 11) (q0 := 0) rfl rfl, fun U hU hW => ⟨rfl, Wd.call hPc hDc hK hC hZ hS hFc U hU hW⟩⟩ rfl rfl hl.1 rfl (lv_room (Nat.le_of_ble_eq_true rfl)) dX10_write_153 ⟨(Nat.le_of_ble_eq_true rfl), (Nat.le_of_ble_eq_true rfl)⟩) hS (fun q _ h => hFc q h) hFc (fun rn39 u t H1 locs ht hvm hw hB hz1 hk1 hS => ?_)
              obtain ⟨hP1, hD1⟩ := hB
              rw [ht] at hP1
              obtain ⟨hP, hD⟩ := PDq.join (w := [(v27, .inl (cA 1, 10, .inr (.inl l27))), (v37, .inl (cA 0, 100, .inl fn36)), (oX10 w0 v0 v1 v2 v3 v4 g5 g6 (nI ed) 0 v9 (nI nb) g11 g12 v13 g14 g15 g16 g17 g18 g19 g20 g21 g22 g23 g24 g25 g26 v27 v28 v29 v30 v31 v32 v33 v34 v35 v36 v37 (nI qn35)), (v0, .inl (cA 0, 326, .inl fs))]) 2 hP hD [2, 1] [0, 3] rfl rfl (by decide) (by decide) hk1 hFc hP1 hD1 rfl
              generalize H1 = H at hP hS ⊢
              obtain rfl : rn39 = (fs (16 + 7 * kn3 + 3)) := hw
              obtain ⟨hPc, hDc, hFc⟩ := PDq.cut (wc := [(oX10 w0 v0 v1 v2 v3 v4 g5 g6 (nI ed) 0 v9 (nI nb) g11 g12 v13 g14 g15 g16 g17 g18 g19 g20 g21 g22 g23 g24 g25 g26 v27 v28 v29 v30 v31 v32 v33 v34 v35 v36 v37 (nI qn35)), (v37, .inl (cA 0, 100, .inl fn36))]) hP hD hS hA [2, 1] (by decide) rfl
              refine va_callv (va_runV (As := [.int (fs (16 + 7 * kn3 + 3))]) (rest := []) ⟨hx, hb, hml, hown, hts⟩ (r_putNumber l D cA sa w0 ed nb qn35 v0 v1 v2 v3 v4 v9 v13 v27 v28 v29 v30 v31 v32 v33 v34 v35 v36 v37 0 g11 g12 g14 g15 g16 g17 g18 g19 g20 g21 g22 g23 g24 g26 g5 g6 g25 fn36 (fs (16 + 7 * kn3 + 3)) H.size (by omega)) (cwV 1 hts gX10_write_X10_putNumber rfl rfl rfl (by decide +kernel) ⟨(Nat.le_of_ble_eq_true rfl), (Nat.le_of_ble_eq_true rfl)⟩) ⟨Wd.blind, va_recv hK hPc (ci := 11) (q0 := 0) rfl rfl, fun U hU hW => ⟨rfl, Wd.call hPc hDc hK hC hZ hS hFc U hU hW⟩⟩ rfl rfl hl.1 rfl (lv_room (Nat.le_of_ble_eq_true rfl)) dX10_write_156 ⟨(Nat.le_of_ble_eq_true rfl), (Nat.le_of_ble_eq_true rfl)⟩) hS (fun q _ h => hFc q h) hFc (fun u t H1 locs ht hvm hw hB hz1 hk1 hS => ?_)
              obtain ⟨qn40, fn41, hn42, hP1, hD1⟩ := hB
              rw [ht] at hP1
              obtain ⟨hP, hD⟩ := PDq.join (w := [(v27, .inl (cA 1, 10, .inr (.inl l27))), (v0, .inl (cA 0, 326, .inl fs)), (oX10 w0 v0 v1 v2 v3 v4 g5 g6 (nI ed) 0 v9 (nI nb) g11 g12 v13 g14 g15 g16 g17 g18 g19 g20 g21 g22 g23 g24 g25 g26 v27 v28 v29 v30 v31 v32 v33 v34 v35 v36 v37 (nI qn40)), (v37, .inl (cA 0, 100, .inl fn41))]) 2 hP hD [2, 1] [0, 3] rfl rfl (by decide) (by decide) hk1 hFc hP1 hD1 rfl
              generalize H1 = H at hP hS ⊢
              refine lv_aload_n hx hb dX10_write_159 rfl (lv_at hl 1 rfl) ?_
              refine va_get (D := D) (ci := 11) (v := .int (nI qn40)) (C := RX10) (T := TX10) (N := 39) hx hb hts inX10 hown hK hP 2 rfl rfl 38 (by decide) (hts (.fieldLink RX10 412 "EscrowDeskModel" "outputLength" "I") (by decide +kernel)) (fun _ h9 => h9) rfl dX10_write_160 ?_
              obtain ⟨hP9, hD9⟩ := PDq.sub (ws' := [(oX10 w0 v0 v1 v2 v3 v4 g5 g6 (nI ed) 0 v9 (nI nb) g11 g12 v13 g14 g15 g16 g17 g18 g19 g20 g21 g22 g23 g24 g25 g26 v27 v28 v29 v30 v31 v32 v33 v34 v35 v36 v37 (nI qn40)), (v0, .inl (cA 0, 326, .inl fs)), (v37, .inl (cA 0, 100, .inl fn41)), (v27, .inl (cA 1, 10, .inr (.inl l27)))]) hP hD [2, 1, 3, 0] (by decide) rfl
              refine W.widen (k := 0) (n := 0) (Nat.le_of_ble_eq_true rfl) (Nat.le_of_ble_eq_true rfl) ?_
              exact (W.iret (v := (nI qn40)) hx hb hr (fun t ht hW => ⟨⟨(nI qn40), (), rfl, trivial, 0, qn40, fn41, (by omega), by rw [ht]; exact hP9, hD9⟩, hS.F ht⟩) hS.2.2 dX10_write_163)
          · skip
            refine lv_aload_n hx hb dX10_write_115 rfl (lv_at hl 1 rfl) ?_
            refine va_ldcwS hx hb hown (hC.str 31 rfl) dX10_write_116 ?_
            obtain ⟨hPc, hDc, hFc⟩ := PDq.cut (wc := [(oX10 w0 v0 v1 v2 v3 v4 g5 g6 (nI ed) 0 v9 (nI nb) g11 g12 v13 g14 g15 g16 g17 g18 g19 g20 g21 g22 g23 g24 g25 g26 v27 v28 v29 v30 v31 v32 v33 v34 v35 v36 v37 (nI qn28)), (v37, .inl (cA 0, 100, .inl fn29))]) hP hD hS hA [2, 1] (by decide) rfl
            refine va_callv (va_runV (As := [.ref (sa 31)]) (rest := []) ⟨hx, hb, hml, hown, hts⟩ (r_putText l D cA sa w0 ed nb qn28 v0 v1 v2 v3 v4 v9 v13 v27 v28 v29 v30 v31 v32 v33 v34 v35 v36 v37 0 g11 g12 g14 g15 g16 g17 g18 g19 g20 g21 g22 g23 g24 g26 g5 g6 g25 fn29 31 ([32, 115, 105, 110, 99, 101, 32]) H.size (by decide +kernel) (by simp only [List.length_cons, List.length_nil]; omega)) (cwV 1 hts gX10_write_X10_putText rfl rfl rfl (by decide +kernel) ⟨(Nat.le_of_ble_eq_true rfl), (Nat.le_of_ble_eq_true rfl)⟩) ⟨Wd.blind, va_recv hK hPc (ci := 11) (q0 := 0) rfl rfl, fun U hU hW => ⟨rfl, Wd.call hPc hDc hK hC hZ hS hFc U hU hW⟩⟩ rfl rfl hl.1 rfl (lv_room (Nat.le_of_ble_eq_true rfl)) dX10_write_119 ⟨(Nat.le_of_ble_eq_true rfl), (Nat.le_of_ble_eq_true rfl)⟩) hS (fun q _ h => hFc q h) hFc (fun u t H1 locs ht hvm hw hB hz1 hk1 hS => ?_)
            obtain ⟨qn43, fn44, hn45, hP1, hD1⟩ := hB
            rw [ht] at hP1
            obtain ⟨hP, hD⟩ := PDq.join (w := [(v27, .inl (cA 1, 10, .inr (.inl l27))), (v0, .inl (cA 0, 326, .inl fs)), (oX10 w0 v0 v1 v2 v3 v4 g5 g6 (nI ed) 0 v9 (nI nb) g11 g12 v13 g14 g15 g16 g17 g18 g19 g20 g21 g22 g23 g24 g25 g26 v27 v28 v29 v30 v31 v32 v33 v34 v35 v36 v37 (nI qn43)), (v37, .inl (cA 0, 100, .inl fn44))]) 2 hP hD [2, 1] [0, 3] rfl rfl (by decide) (by decide) hk1 hFc hP1 hD1 rfl
            generalize H1 = H at hP hS ⊢
            have hn46 : ([32, 115, 105, 110, 99, 101, 32] : List Int32).length = 7 := rfl
            refine lv_aload_n hx hb dX10_write_122 rfl (lv_at hl 1 rfl) ?_
            refine lv_aload_n hx hb dX10_write_123 rfl (lv_at hl 1 rfl) ?_
            refine lv_iload_n hx hb dX10_write_124 rfl (lv_at hl 2 rfl) ?_
            refine lv_iconst (v := 4) hx hb dX10_write_125 (by decide) ?_
            obtain ⟨hPc, hDc, hFc⟩ := PDq.cut (wc := [(oX10 w0 v0 v1 v2 v3 v4 g5 g6 (nI ed) 0 v9 (nI nb) g11 g12 v13 g14 g15 g16 g17 g18 g19 g20 g21 g22 g23 g24 g25 g26 v27 v28 v29 v30 v31 v32 v33 v34 v35 v36 v37 (nI qn43)), (v0, .inl (cA 0, 326, .inl fs))]) hP hD hS hA [2, 1] (by decide) rfl
            refine va_calli (va_runV (As := [.int (nI kn3), .int 4]) (rest := [.ref w0]) ⟨hx, hb, hml, hown, hts⟩ (r_of l D cA sa w0 ed nb qn43 v0 v1 v2 v3 v4 v9 v13 v27 v28 v29 v30 v31 v32 v33 v34 v35 v36 v37 0 g11 g12 g14 g15 g16 g17 g18 g19 g20 g21 g22 g23 g24 g26 g5 g6 g25 fs kn3 4 H.size (by omega) (by omega)) (cwV 2 hts gX10_write_X10_of rfl rfl rfl (by decide +kernel) ⟨(Nat.le_of_ble_eq_true rfl), (Nat.le_of_ble_eq_true rfl)⟩) ⟨Wd.blind, va_recv hK hPc (ci := 11) (q0 := 0) rfl rfl, fun U hU hW => ⟨rfl, Wd.call hPc hDc hK hC hZ hS hFc U hU hW⟩⟩ rfl rfl hl.1 rfl (lv_room (Nat.le_of_ble_eq_true rfl)) dX10_write_126 ⟨(Nat.le_of_ble_eq_true rfl), (Nat.le_of_ble_eq_true rfl)⟩) hS (fun q _ h => hFc q h) hFc (fun rn47 u t H1 locs ht hvm hw hB hz1 hk1 hS => ?_)
            obtain ⟨hP1, hD1⟩ := hB
            rw [ht] at hP1
            obtain ⟨hP, hD⟩ := PDq.join (w := [(v27, .inl (cA 1, 10, .inr (.inl l27))), (v37, .inl (cA 0, 100, .inl fn44)), (oX10 w0 v0 v1 v2 v3 v4 g5 g6 (nI ed) 0 v9 (nI nb) g11 g12 v13 g14 g15 g16 g17 g18 g19 g20 g21 g22 g23 g24 g25 g26 v27 v28 v29 v30 v31 v32 v33 v34 v35 v36 v37 (nI qn43)), (v0, .inl (cA 0, 326, .inl fs))]) 2 hP hD [2, 1] [0, 3] rfl rfl (by decide) (by decide) hk1 hFc hP1 hD1 rfl
            generalize H1 = H at hP hS ⊢
            obtain rfl : rn47 = (fs (16 + 7 * kn3 + 4)) := hw
            obtain ⟨hPc, hDc, hFc⟩ := PDq.cut (wc := [(oX10 w0 v0 v1 v2 v3 v4 g5 g6 (nI ed) 0 v9 (nI nb) g11 g12 v13 g14 g15 g16 g17 g18 g19 g20 g21 g22 g23 g24 g25 g26 v27 v28 v29 v30 v31 v32 v33 v34 v35 v36 v37 (nI qn43)), (v37, .inl (cA 0, 100, .inl fn44))]) hP hD hS hA [2, 1] (by decide) rfl
            refine va_callv (va_runV (As := [.int (fs (16 + 7 * kn3 + 4))]) (rest := []) ⟨hx, hb, hml, hown, hts⟩ (r_putNumber l D cA sa w0 ed nb qn43 v0 v1 v2 v3 v4 v9 v13 v27 v28 v29 v30 v31 v32 v33 v34 v35 v36 v37 0 g11 g12 g14 g15 g16 g17 g18 g19 g20 g21 g22 g23 g24 g26 g5 g6 g25 fn44 (fs (16 + 7 * kn3 + 4)) H.size (by omega)) (cwV 1 hts gX10_write_X10_putNumber rfl rfl rfl (by decide +kernel) ⟨(Nat.le_of_ble_eq_true rfl), (Nat.le_of_ble_eq_true rfl)⟩) ⟨Wd.blind, va_recv hK hPc (ci := 11) (q0 := 0) rfl rfl, fun U hU hW => ⟨rfl, Wd.call hPc hDc hK hC hZ hS hFc U hU hW⟩⟩ rfl rfl hl.1 rfl (lv_room (Nat.le_of_ble_eq_true rfl)) dX10_write_129 ⟨(Nat.le_of_ble_eq_true rfl), (Nat.le_of_ble_eq_true rfl)⟩) hS (fun q _ h => hFc q h) hFc (fun u t H1 locs ht hvm hw hB hz1 hk1 hS => ?_)
            obtain ⟨qn48, fn49, hn50, hP1, hD1⟩ := hB
            rw [ht] at hP1
            obtain ⟨hP, hD⟩ := PDq.join (w := [(v27, .inl (cA 1, 10, .inr (.inl l27))), (v0, .inl (cA 0, 326, .inl fs)), (oX10 w0 v0 v1 v2 v3 v4 g5 g6 (nI ed) 0 v9 (nI nb) g11 g12 v13 g14 g15 g16 g17 g18 g19 g20 g21 g22 g23 g24 g25 g26 v27 v28 v29 v30 v31 v32 v33 v34 v35 v36 v37 (nI qn48)), (v37, .inl (cA 0, 100, .inl fn49))]) 2 hP hD [2, 1] [0, 3] rfl rfl (by decide) (by decide) hk1 hFc hP1 hD1 rfl
            generalize H1 = H at hP hS ⊢
            refine lv_aload_n hx hb dX10_write_132 rfl (lv_at hl 1 rfl) ?_
            refine lv_iload_n hx hb dX10_write_133 rfl (lv_at hl 2 rfl) ?_
            refine lv_iconst (v := 2) hx hb dX10_write_134 (by decide) ?_
            obtain ⟨hPc, hDc, hFc⟩ := PDq.cut (wc := [(oX10 w0 v0 v1 v2 v3 v4 g5 g6 (nI ed) 0 v9 (nI nb) g11 g12 v13 g14 g15 g16 g17 g18 g19 g20 g21 g22 g23 g24 g25 g26 v27 v28 v29 v30 v31 v32 v33 v34 v35 v36 v37 (nI qn48)), (v0, .inl (cA 0, 326, .inl fs))]) hP hD hS hA [2, 1] (by decide) rfl
            refine va_calli (va_runV (As := [.int (nI kn3), .int 2]) (rest := []) ⟨hx, hb, hml, hown, hts⟩ (r_of l D cA sa w0 ed nb qn48 v0 v1 v2 v3 v4 v9 v13 v27 v28 v29 v30 v31 v32 v33 v34 v35 v36 v37 0 g11 g12 g14 g15 g16 g17 g18 g19 g20 g21 g22 g23 g24 g26 g5 g6 g25 fs kn3 2 H.size (by omega) (by omega)) (cwV 2 hts gX10_write_X10_of rfl rfl rfl (by decide +kernel) ⟨(Nat.le_of_ble_eq_true rfl), (Nat.le_of_ble_eq_true rfl)⟩) ⟨Wd.blind, va_recv hK hPc (ci := 11) (q0 := 0) rfl rfl, fun U hU hW => ⟨rfl, Wd.call hPc hDc hK hC hZ hS hFc U hU hW⟩⟩ rfl rfl hl.1 rfl (lv_room (Nat.le_of_ble_eq_true rfl)) dX10_write_135 ⟨(Nat.le_of_ble_eq_true rfl), (Nat.le_of_ble_eq_true rfl)⟩) hS (fun q _ h => hFc q h) hFc (fun rn51 u t H1 locs ht hvm hw hB hz1 hk1 hS => ?_)
            obtain ⟨hP1, hD1⟩ := hB
            rw [ht] at hP1
            obtain ⟨hP, hD⟩ := PDq.join (w := [(v27, .inl (cA 1, 10, .inr (.inl l27))), (v37, .inl (cA 0, 100, .inl fn49)), (oX10 w0 v0 v1 v2 v3 v4 g5 g6 (nI ed) 0 v9 (nI nb) g11 g12 v13 g14 g15 g16 g17 g18 g19 g20 g21 g22 g23 g24 g25 g26 v27 v28 v29 v30 v31 v32 v33 v34 v35 v36 v37 (nI qn48)), (v0, .inl (cA 0, 326, .inl fs))]) 2 hP hD [2, 1] [0, 3] rfl rfl (by decide) (by decide) hk1 hFc hP1 hD1 rfl
            generalize H1 = H at hP hS ⊢
            obtain rfl : rn51 = (fs (16 + 7 * kn3 + 2)) := hw
            refine lv_iconst (v := 2) hx hb dX10_write_138 (by decide) ?_
            refine lv_icmp_ne (tgt := 159) hx hb dX10_write_139 (by decide) (fun c52 => ?_) (fun c52 => ?_)
            · skip
              refine lv_aload_n hx hb dX10_write_159 rfl (lv_at hl 1 rfl) ?_
              refine va_get (D := D) (ci := 11) (v := .int (nI qn48)) (C := RX10) (T := TX10) (N := 39) hx hb hts inX10 hown hK hP 2 rfl rfl 38 (by decide) (hts (.fieldLink RX10 412 "EscrowDeskModel" "outputLength" "I") (by decide +kernel)) (fun _ h9 => h9) rfl dX10_write_160 ?_
              obtain ⟨hP9, hD9⟩ := PDq.sub (ws' := [(oX10 w0 v0 v1 v2 v3 v4 g5 g6 (nI ed) 0 v9 (nI nb) g11 g12 v13 g14 g15 g16 g17 g18 g19 g20 g21 g22 g23 g24 g25 g26 v27 v28 v29 v30 v31 v32 v33 v34 v35 v36 v37 (nI qn48)), (v0, .inl (cA 0, 326, .inl fs)), (v37, .inl (cA 0, 100, .inl fn49)), (v27, .inl (cA 1, 10, .inr (.inl l27)))]) hP hD [2, 3, 1, 0] (by decide) rfl
              refine W.widen (k := 0) (n := 0) (Nat.le_of_ble_eq_true rfl) (Nat.le_of_ble_eq_true rfl) ?_
              exact (W.iret (v := (nI qn48)) hx hb hr (fun t ht hW => ⟨⟨(nI qn48), (), rfl, trivial, 0, qn48, fn49, (by omega), by rw [ht]; exact hP9, hD9⟩, hS.F ht⟩) hS.2.2 dX10_write_163)
            · skip
              refine lv_aload_n hx hb dX10_write_142 rfl (lv_at hl 1 rfl) ?_
              refine va_ldcwS hx hb hown (hC.str 32 rfl) dX10_write_143 ?_
              obtain ⟨hPc, hDc, hFc⟩ := PDq.cut (wc := [(oX10 w0 v0 v1 v2 v3 v4 g5 g6 (nI ed) 0 v9 (nI nb) g11 g12 v13 g14 g15 g16 g17 g18 g19 g20 g21 g22 g23 g24 g25 g26 v27 v28 v29 v30 v31 v32 v33 v34 v35 v36 v37 (nI qn48)), (v37, .inl (cA 0, 100, .inl fn49))]) hP hD hS hA [2, 1] (by decide) rfl
              refine va_callv (va_runV (As := [.ref (sa 32)]) (rest := []) ⟨hx, hb, hml, hown, hts⟩ (r_putText l D cA sa w0 ed nb qn48 v0 v1 v2 v3 v4 v9 v13 v27 v28 v29 v30 v31 v32 v33 v34 v35 v36 v37 0 g11 g12 g14 g15 g16 g17 g18 g19 g20 g21 g22 g23 g24 g26 g5 g6 g25 fn49 32 ([32, 102, 114, 111, 122, 101, 110, 32]) H.size (by decide +kernel) (by simp only [List.length_cons, List.length_nil]; omega)) (cwV 1 hts gX10_write_X10_putText rfl rfl rfl (by decide +kernel) ⟨(Nat.le_of_ble_eq_true rfl), (Nat.le_of_ble_eq_true rfl)⟩) ⟨Wd.blind, va_recv hK hPc (ci := 11) (q0 := 0) rfl rfl, fun U hU hW => ⟨rfl, Wd.call hPc hDc hK hC hZ hS hFc U hU hW⟩⟩ rfl rfl hl.1 rfl (lv_room (Nat.le_of_ble_eq_true rfl)) dX10_write_146 ⟨(Nat.le_of_ble_eq_true rfl), (Nat.le_of_ble_eq_true rfl)⟩) hS (fun q _ h => hFc q h) hFc (fun u t H1 locs ht hvm hw hB hz1 hk1 hS => ?_)
              obtain ⟨qn53, fn54, hn55, hP1, hD1⟩ := hB
              rw [ht] at hP1
              obtain ⟨hP, hD⟩ := PDq.join (w := [(v27, .inl (cA 1, 10, .inr (.inl l27))), (v0, .inl (cA 0, 326, .inl fs)), (oX10 w0 v0 v1 v2 v3 v4 g5 g6 (nI ed) 0 v9 (nI nb) g11 g12 v13 g14 g15 g16 g17 g18 g19 g20 g21 g22 g23 g24 g25 g26 v27 v28 v29 v30 v31 v32 v33 v34 v35 v36 v37 (nI qn53)), (v37, .inl (cA 0, 100, .inl fn54))]) 2 hP hD [2, 1] [0, 3] rfl rfl (by decide) (by decide) hk1 hFc hP1 hD1 rfl
              generalize H1 = H at hP hS ⊢
              have hn56 : ([32, 102, 114, 111, 122, 101, 110, 32] : List Int32).length = 8 := rfl
              refine lv_aload_n hx hb dX10_write_149 rfl (lv_at hl 1 rfl) ?_
              refine lv_aload_n hx hb dX10_write_150 rfl (lv_at hl 1 rfl) ?_
              refine lv_iload_n hx hb dX10_write_151 rfl (lv_at hl 2 rfl) ?_
              refine lv_iconst (v := 3) hx hb dX10_write_152 (by decide) ?_
              obtain ⟨hPc, hDc, hFc⟩ := PDq.cut (wc := [(oX10 w0 v0 v1 v2 v3 v4 g5 g6 (nI ed) 0 v9 (nI nb) g11 g12 v13 g14 g15 g16 g17 g18 g19 g20 g21 g22 g23 g24 g25 g26 v27 v28 v29 v30 v31 v32 v33 v34 v35 v36 v37 (nI qn53)), (v0, .inl (cA 0, 326, .inl fs))]) hP hD hS hA [2, 1] (by decide) rfl
              refine va_calli (va_runV (As := [.int (nI kn3), .int 3]) (rest := [.ref w0]) ⟨hx, hb, hml, hown, hts⟩ (r_of l D cA sa w0 ed nb qn53 v0 v1 v2 v3 v4 v9 v13 v27 v28 v29 v30 v31 v32 v33 v34 v35 v36 v37 0 g11 g12 g14 g15 g16 g17 g18 g19 g20 g21 g22 g23 g24 g26 g5 g6 g25 fs kn3 3 H.size (by omega) (by omega)) (cwV 2 hts gX10_write_X10_of rfl rfl rfl (by decide +kernel) ⟨(Nat.le_of_ble_eq_true rfl), (Nat.le_of_ble_eq_true rfl)⟩) ⟨Wd.blind, va_recv hK hPc (ci := 11) (q0 := 0) rfl rfl, fun U hU hW => ⟨rfl, Wd.call hPc hDc hK hC hZ hS hFc U hU hW⟩⟩ rfl rfl hl.1 rfl (lv_room (Nat.le_of_ble_eq_true rfl)) dX10_write_153 ⟨(Nat.le_of_ble_eq_true rfl), (Nat.le_of_ble_eq_true rfl)⟩) hS (fun q _ h => hFc q h) hFc (fun rn57 u t H1 locs ht hvm hw hB hz1 hk1 hS => ?_)
              obtain ⟨hP1, hD1⟩ := hB
              rw [ht] at hP1
              obtain ⟨hP, hD⟩ := PDq.join (w := [(v27, .inl (cA 1, 10, .inr (.inl l27))), (v37, .inl (cA 0, 100, .inl fn54)), (oX10 w0 v0 v1 v2 v3 v4 g5 g6 (nI ed) 0 v9 (nI nb) g11 g12 v13 g14 g15 g16 g17 g18 g19 g20 g21 g22 g23 g24 g25 g26 v27 v28 v29 v30 v31 v32 v33 v34 v35 v36 v37 (nI qn53)), (v0, .inl (cA 0, 326, .inl fs))]) 2 hP hD [2, 1] [0, 3] rfl rfl (by decide) (by decide) hk1 hFc hP1 hD1 rfl
              generalize H1 = H at hP hS ⊢
              obtain rfl : rn57 = (fs (16 + 7 * kn3 + 3)) := hw
              obtain ⟨hPc, hDc, hFc⟩ := PDq.cut (wc := [(oX10 w0 v0 v1 v2 v3 v4 g5 g6 (nI ed) 0 v9 (nI nb) g11 g12 v13 g14 g15 g16 g17 g18 g19 g20 g21 g22 g23 g24 g25 g26 v27 v28 v29 v30 v31 v32 v33 v34 v35 v36 v37 (nI qn53)), (v37, .inl (cA 0, 100, .inl fn54))]) hP hD hS hA [2, 1] (by decide) rfl
              refine va_callv (va_runV (As := [.int (fs (16 + 7 * kn3 + 3))]) (rest := []) ⟨hx, hb, hml, hown, hts⟩ (r_putNumber l D cA sa w0 ed nb qn53 v0 v1 v2 v3 v4 v9 v13 v27 v28 v29 v30 v31 v32 v33 v34 v35 v36 v37 0 g11 g12 g14 g15 g16 g17 g18 g19 g20 g21 g22 g23 g24 g26 g5 g6 g25 fn54 (fs (16 + 7 * kn3 + 3)) H.size (by omega)) (cwV 1 hts gX10_write_X10_putNumber rfl rfl rfl (by decide +kernel) ⟨(Nat.le_of_ble_eq_true rfl), (Nat.le_of_ble_eq_true rfl)⟩) ⟨Wd.blind, va_recv hK hPc (ci := 11) (q0 := 0) rfl rfl, fun U hU hW => ⟨rfl, Wd.call hPc hDc hK hC hZ hS hFc U hU hW⟩⟩ rfl rfl hl.1 rfl (lv_room (Nat.le_of_ble_eq_true rfl)) dX10_write_156 ⟨(Nat.le_of_ble_eq_true rfl), (Nat.le_of_ble_eq_true rfl)⟩) hS (fun q _ h => hFc q h) hFc (fun u t H1 locs ht hvm hw hB hz1 hk1 hS => ?_)
              obtain ⟨qn58, fn59, hn60, hP1, hD1⟩ := hB
              rw [ht] at hP1
              obtain ⟨hP, hD⟩ := PDq.join (w := [(v27, .inl (cA 1, 10, .inr (.inl l27))), (v0, .inl (cA 0, 326, .inl fs)), (oX10 w0 v0 v1 v2 v3 v4 g5 g6 (nI ed) 0 v9 (nI nb) g11 g12 v13 g14 g15 g16 g17 g18 g19 g20 g21 g22 g23 g24 g25 g26 v27 v28 v29 v30 v31 v32 v33 v34 v35 v36 v37 (nI qn58)), (v37, .inl (cA 0, 100, .inl fn59))]) 2 hP hD [2, 1] [0, 3] rfl rfl (by decide) (by decide) hk1 hFc hP1 hD1 rfl
              generalize H1 = H at hP hS ⊢
              refine lv_aload_n hx hb dX10_write_159 rfl (lv_at hl 1 rfl) ?_
              refine va_get (D := D) (ci := 11) (v := .int (nI qn58)) (C := RX10) (T := TX10) (N := 39) hx hb hts inX10 hown hK hP 2 rfl rfl 38 (by decide) (hts (.fieldLink RX10 412 "EscrowDeskModel" "outputLength" "I") (by decide +kernel)) (fun _ h9 => h9) rfl dX10_write_160 ?_
              obtain ⟨hP9, hD9⟩ := PDq.sub (ws' := [(oX10 w0 v0 v1 v2 v3 v4 g5 g6 (nI ed) 0 v9 (nI nb) g11 g12 v13 g14 g15 g16 g17 g18 g19 g20 g21 g22 g23 g24 g25 g26 v27 v28 v29 v30 v31 v32 v33 v34 v35 v36 v37 (nI qn58)), (v0, .inl (cA 0, 326, .inl fs)), (v37, .inl (cA 0, 100, .inl fn59)), (v27, .inl (cA 1, 10, .inr (.inl l27)))]) hP hD [2, 1, 3, 0] (by decide) rfl
              refine W.widen (k := 0) (n := 0) (Nat.le_of_ble_eq_true rfl) (Nat.le_of_ble_eq_true rfl) ?_
              exact (W.iret (v := (nI qn58)) hx hb hr (fun t ht hW => ⟨⟨(nI qn58), (), rfl, trivial, 0, qn58, fn59, (by omega), by rw [ht]; exact hP9, hD9⟩, hS.F ht⟩) hS.2.2 dX10_write_163)
        by_cases hn61 : (fs (16 + 7 * kn3 + 2)) = 0
        · skip
          refine W.eq (g2 := F0 m 67 ls [.int 0, .ref w0]) (by rw [hn61]) ?_
          obtain ⟨hPc, hDc, hFc⟩ := PDq.cut (wc := []) hP hD hS hA [] (by decide) rfl
          refine va_callr (va_runS (As := [.int 0]) (rest := [.ref w0]) ⟨hx, hb, hml, hown, hts⟩ (r_stateWord0 l D cA sa  H.size) (va_cwS 1 hts gX10_write_X10_stateWord rfl rfl rfl (by decide +kernel) ⟨(Nat.le_of_ble_eq_true rfl), (Nat.le_of_ble_eq_true rfl)⟩) ⟨Wd.blind, fun U hU hW => ⟨rfl, Wd.call hPc hDc hK hC hZ hS hFc U hU hW⟩⟩ rfl rfl hl.1 rfl (lv_room (Nat.le_of_ble_eq_true rfl)) dX10_write_67 ⟨(Nat.le_of_ble_eq_true rfl), (Nat.le_of_ble_eq_true rfl)⟩) hS (fun q _ h => hFc q h) hFc (fun u ra t H1 locs ht hvm hw hB hz1 hk1 hS => ?_)
          obtain ⟨hra, hP1, hD1⟩ := hB
          obtain rfl := hra.symm
          rw [ht] at hP1
          obtain ⟨hP, hD⟩ := PDq.join (w := [(v27, .inl (cA 1, 10, .inr (.inl l27))), (v37, .inl (cA 0, 100, .inl fn14)), (oX10 w0 v0 v1 v2 v3 v4 g5 g6 (nI ed) 0 v9 (nI nb) g11 g12 v13 g14 g15 g16 g17 g18 g19 g20 g21 g22 g23 g24 g25 g26 v27 v28 v29 v30 v31 v32 v33 v34 v35 v36 v37 (nI qn13)), (v0, .inl (cA 0, 326, .inl fs))]) 4 hP hD [] [0, 1, 2, 3] rfl rfl (by decide) (by decide) hk1 hFc hP1 hD1 rfl
          generalize H1 = H at hP hS ⊢
          obtain ⟨hPc, hDc, hFc⟩ := PDq.cut (wc := [(oX10 w0 v0 v1 v2 v3 v4 g5 g6 (nI ed) 0 v9 (nI nb) g11 g12 v13 g14 g15 g16 g17 g18 g19 g20 g21 g22 g23 g24 g25 g26 v27 v28 v29 v30 v31 v32 v33 v34 v35 v36 v37 (nI qn13)), (v37, .inl (cA 0, 100, .inl fn14))]) hP hD hS hA [2, 1] (by decide) rfl
          refine va_callv (va_runV (As := [.ref (sa 25)]) (rest := []) ⟨hx, hb, hml, hown, hts⟩ (r_putText l D cA sa w0 ed nb qn13 v0 v1 v2 v3 v4 v9 v13 v27 v28 v29 v30 v31 v32 v33 v34 v35 v36 v37 0 g11 g12 g14 g15 g16 g17 g18 g19 g20 g21 g22 g23 g24 g26 g5 g6 g25 fn14 25 ([111, 112, 101, 110]) H.size (by decide +kernel) (by simp only [List.length_cons, List.length_nil]; omega)) (cwV 1 hts gX10_write_X10_putText rfl rfl rfl (by decide +kernel) ⟨(Nat.le_of_ble_eq_true rfl), (Nat.le_of_ble_eq_true rfl)⟩) ⟨Wd.blind, va_recv hK hPc (ci := 11) (q0 := 0) rfl rfl, fun U hU hW => ⟨rfl, Wd.call hPc hDc hK hC hZ hS hFc U hU hW⟩⟩ rfl rfl hl.1 rfl (lv_room (Nat.le_of_ble_eq_true rfl)) dX10_write_70 ⟨(Nat.le_of_ble_eq_true rfl), (Nat.le_of_ble_eq_true rfl)⟩) hS (fun q _ h => hFc q h) hFc (fun u t H1 locs ht hvm hw hB hz1 hk1 hS => ?_)
          obtain ⟨qn62, fn63, hn64, hP1, hD1⟩ := hB
          rw [ht] at hP1
          obtain ⟨hP, hD⟩ := PDq.join (w := [(v27, .inl (cA 1, 10, .inr (.inl l27))), (v0, .inl (cA 0, 326, .inl fs)), (oX10 w0 v0 v1 v2 v3 v4 g5 g6 (nI ed) 0 v9 (nI nb) g11 g12 v13 g14 g15 g16 g17 g18 g19 g20 g21 g22 g23 g24 g25 g26 v27 v28 v29 v30 v31 v32 v33 v34 v35 v36 v37 (nI qn62)), (v37, .inl (cA 0, 100, .inl fn63))]) 2 hP hD [2, 1] [0, 3] rfl rfl (by decide) (by decide) hk1 hFc hP1 hD1 rfl
          generalize H1 = H at hP hS ⊢
          have hn65 : ([111, 112, 101, 110] : List Int32).length = 4 := rfl
          obtain ⟨hP9, hD9⟩ := PDq.sub (ws' := [(v27, .inl (cA 1, 10, .inr (.inl l27))), (v37, .inl (cA 0, 100, .inl fn63)), (oX10 w0 v0 v1 v2 v3 v4 g5 g6 (nI ed) 0 v9 (nI nb) g11 g12 v13 g14 g15 g16 g17 g18 g19 g20 g21 g22 g23 g24 g25 g26 v27 v28 v29 v30 v31 v32 v33 v34 v35 v36 v37 (nI qn62)), (v0, .inl (cA 0, 326, .inl fs))]) hP hD [0, 3, 2, 1] (by decide) rfl
          exact meet2 fn63 qn62 H _ ls (by omega) hP9 hD9 hS (lv_sub hl [0, 1, 2] rfl)
        · skip
          by_cases hn66 : (fs (16 + 7 * kn3 + 2)) = 1
          · skip
            refine W.eq (g2 := F0 m 67 ls [.int 1, .ref w0]) (by rw [hn66]) ?_
            obtain ⟨hPc, hDc, hFc⟩ := PDq.cut (wc := []) hP hD hS hA [] (by decide) rfl
            refine va_callr (va_runS (As := [.int 1]) (rest := [.ref w0]) ⟨hx, hb, hml, hown, hts⟩ (r_stateWord1 l D cA sa  H.size) (va_cwS 1 hts gX10_write_X10_stateWord rfl rfl rfl (by decide +kernel) ⟨(Nat.le_of_ble_eq_true rfl), (Nat.le_of_ble_eq_true rfl)⟩) ⟨Wd.blind, fun U hU hW => ⟨rfl, Wd.call hPc hDc hK hC hZ hS hFc U hU hW⟩⟩ rfl rfl hl.1 rfl (lv_room (Nat.le_of_ble_eq_true rfl)) dX10_write_67 ⟨(Nat.le_of_ble_eq_true rfl), (Nat.le_of_ble_eq_true rfl)⟩) hS (fun q _ h => hFc q h) hFc (fun u ra t H1 locs ht hvm hw hB hz1 hk1 hS => ?_)
            obtain ⟨hra, hP1, hD1⟩ := hB
            obtain rfl := hra.symm
            rw [ht] at hP1
            obtain ⟨hP, hD⟩ := PDq.join (w := [(v27, .inl (cA 1, 10, .inr (.inl l27))), (v37, .inl (cA 0, 100, .inl fn14)), (oX10 w0 v0 v1 v2 v3 v4 g5 g6 (nI ed) 0 v9 (nI nb) g11 g12 v13 g14 g15 g16 g17 g18 g19 g20 g21 g22 g23 g24 g25 g26 v27 v28 v29 v30 v31 v32 v33 v34 v35 v36 v37 (nI qn13)), (v0, .inl (cA 0, 326, .inl fs))]) 4 hP hD [] [0, 1, 2, 3] rfl rfl (by decide) (by decide) hk1 hFc hP1 hD1 rfl
            generalize H1 = H at hP hS ⊢
            obtain ⟨hPc, hDc, hFc⟩ := PDq.cut (wc := [(oX10 w0 v0 v1 v2 v3 v4 g5 g6 (nI ed) 0 v9 (nI nb) g11 g12 v13 g14 g15 g16 g17 g18 g19 g20 g21 g22 g23 g24 g25 g26 v27 v28 v29 v30 v31 v32 v33 v34 v35 v36 v37 (nI qn13)), (v37, .inl (cA 0, 100, .inl fn14))]) hP hD hS hA [2, 1] (by decide) rfl
            refine va_callv (va_runV (As := [.ref (sa 26)]) (rest := []) ⟨hx, hb, hml, hown, hts⟩ (r_putText l D cA sa w0 ed nb qn13 v0 v1 v2 v3 v4 v9 v13 v27 v28 v29 v30 v31 v32 v33 v34 v35 v36 v37 0 g11 g12 g14 g15 g16 g17 g18 g19 g20 g21 g22 g23 g24 g26 g5 g6 g25 fn14 26 ([100, 117, 101]) H.size (by decide +kernel) (by simp only [List.length_cons, List.length_nil]; omega)) (cwV 1 hts gX10_write_X10_putText rfl rfl rfl (by decide +kernel) ⟨(Nat.le_of_ble_eq_true rfl), (Nat.le_of_ble_eq_true rfl)⟩) ⟨Wd.blind, va_recv hK hPc (ci := 11) (q0 := 0) rfl rfl, fun U hU hW => ⟨rfl, Wd.call hPc hDc hK hC hZ hS hFc U hU hW⟩⟩ rfl rfl hl.1 rfl (lv_room (Nat.le_of_ble_eq_true rfl)) dX10_write_70 ⟨(Nat.le_of_ble_eq_true rfl), (Nat.le_of_ble_eq_true rfl)⟩) hS (fun q _ h => hFc q h) hFc (fun u t H1 locs ht hvm hw hB hz1 hk1 hS => ?_)
            obtain ⟨qn67, fn68, hn69, hP1, hD1⟩ := hB
            rw [ht] at hP1
            obtain ⟨hP, hD⟩ := PDq.join (w := [(v27, .inl (cA 1, 10, .inr (.inl l27))), (v0, .inl (cA 0, 326, .inl fs)), (oX10 w0 v0 v1 v2 v3 v4 g5 g6 (nI ed) 0 v9 (nI nb) g11 g12 v13 g14 g15 g16 g17 g18 g19 g20 g21 g22 g23 g24 g25 g26 v27 v28 v29 v30 v31 v32 v33 v34 v35 v36 v37 (nI qn67)), (v37, .inl (cA 0, 100, .inl fn68))]) 2 hP hD [2, 1] [0, 3] rfl rfl (by decide) (by decide) hk1 hFc hP1 hD1 rfl
            generalize H1 = H at hP hS ⊢
            have hn70 : ([100, 117, 101] : List Int32).length = 3 := rfl
            obtain ⟨hP9, hD9⟩ := PDq.sub (ws' := [(v27, .inl (cA 1, 10, .inr (.inl l27))), (v37, .inl (cA 0, 100, .inl fn68)), (oX10 w0 v0 v1 v2 v3 v4 g5 g6 (nI ed) 0 v9 (nI nb) g11 g12 v13 g14 g15 g16 g17 g18 g19 g20 g21 g22 g23 g24 g25 g26 v27 v28 v29 v30 v31 v32 v33 v34 v35 v36 v37 (nI qn67)), (v0, .inl (cA 0, 326, .inl fs))]) hP hD [0, 3, 2, 1] (by decide) rfl
            exact meet2 fn68 qn67 H _ ls (by omega) hP9 hD9 hS (lv_sub hl [0, 1, 2] rfl)
          · skip
            by_cases hn71 : (fs (16 + 7 * kn3 + 2)) = 2
            · skip
              refine W.eq (g2 := F0 m 67 ls [.int 2, .ref w0]) (by rw [hn71]) ?_
              obtain ⟨hPc, hDc, hFc⟩ := PDq.cut (wc := []) hP hD hS hA [] (by decide) rfl
              refine va_callr (va_runS (As := [.int 2]) (rest := [.ref w0]) ⟨hx, hb, hml, hown, hts⟩ (r_stateWord2 l D cA sa  H.size) (va_cwS 1 hts gX10_write_X10_stateWord rfl rfl rfl (by decide +kernel) ⟨(Nat.le_of_ble_eq_true rfl), (Nat.le_of_ble_eq_true rfl)⟩) ⟨Wd.blind, fun U hU hW => ⟨rfl, Wd.call hPc hDc hK hC hZ hS hFc U hU hW⟩⟩ rfl rfl hl.1 rfl (lv_room (Nat.le_of_ble_eq_true rfl)) dX10_write_67 ⟨(Nat.le_of_ble_eq_true rfl), (Nat.le_of_ble_eq_true rfl)⟩) hS (fun q _ h => hFc q h) hFc (fun u ra t H1 locs ht hvm hw hB hz1 hk1 hS => ?_)
              obtain ⟨hra, hP1, hD1⟩ := hB
              obtain rfl := hra.symm
              rw [ht] at hP1
              obtain ⟨hP, hD⟩ := PDq.join (w := [(v27, .inl (cA 1, 10, .inr (.inl l27))), (v37, .inl (cA 0, 100, .inl fn14)), (oX10 w0 v0 v1 v2 v3 v4 g5 g6 (nI ed) 0 v9 (nI nb) g11 g12 v13 g14 g15 g16 g17 g18 g19 g20 g21 g22 g23 g24 g25 g26 v27 v28 v29 v30 v31 v32 v33 v34 v35 v36 v37 (nI qn13)), (v0, .inl (cA 0, 326, .inl fs))]) 4 hP hD [] [0, 1, 2, 3] rfl rfl (by decide) (by decide) hk1 hFc hP1 hD1 rfl
              generalize H1 = H at hP hS ⊢
              obtain ⟨hPc, hDc, hFc⟩ := PDq.cut (wc := [(oX10 w0 v0 v1 v2 v3 v4 g5 g6 (nI ed) 0 v9 (nI nb) g11 g12 v13 g14 g15 g16 g17 g18 g19 g20 g21 g22 g23 g24 g25 g26 v27 v28 v29 v30 v31 v32 v33 v34 v35 v36 v37 (nI qn13)), (v37, .inl (cA 0, 100, .inl fn14))]) hP hD hS hA [2, 1] (by decide) rfl
              refine va_callv (va_runV (As := [.ref (sa 27)]) (rest := []) ⟨hx, hb, hml, hown, hts⟩ (r_putText l D cA sa w0 ed nb qn13 v0 v1 v2 v3 v4 v9 v13 v27 v28 v29 v30 v31 v32 v33 v34 v35 v36 v37 0 g11 g12 g14 g15 g16 g17 g18 g19 g20 g21 g22 g23 g24 g26 g5 g6 g25 fn14 27 ([100, 105, 115, 112, 117, 116, 101, 100]) H.size (by decide +kernel) (by simp only [List.length_cons, List.length_nil]; omega)) (cwV 1 hts gX10_write_X10_putText rfl rfl rfl (by decide +kernel) ⟨(Nat.le_of_ble_eq_true rfl), (Nat.le_of_ble_eq_true rfl)⟩) ⟨Wd.blind, va_recv hK hPc (ci := 11) (q0 := 0) rfl rfl, fun U hU hW => ⟨rfl, Wd.call hPc hDc hK hC hZ hS hFc U hU hW⟩⟩ rfl rfl hl.1 rfl (lv_room (Nat.le_of_ble_eq_true rfl)) dX10_write_70 ⟨(Nat.le_of_ble_eq_true rfl), (Nat.le_of_ble_eq_true rfl)⟩) hS (fun q _ h => hFc q h) hFc (fun u t H1 locs ht hvm hw hB hz1 hk1 hS => ?_)
              obtain ⟨qn72, fn73, hn74, hP1, hD1⟩ := hB
              rw [ht] at hP1
              obtain ⟨hP, hD⟩ := PDq.join (w := [(v27, .inl (cA 1, 10, .inr (.inl l27))), (v0, .inl (cA 0, 326, .inl fs)), (oX10 w0 v0 v1 v2 v3 v4 g5 g6 (nI ed) 0 v9 (nI nb) g11 g12 v13 g14 g15 g16 g17 g18 g19 g20 g21 g22 g23 g24 g25 g26 v27 v28 v29 v30 v31 v32 v33 v34 v35 v36 v37 (nI qn72)), (v37, .inl (cA 0, 100, .inl fn73))]) 2 hP hD [2, 1] [0, 3] rfl rfl (by decide) (by decide) hk1 hFc hP1 hD1 rfl
              generalize H1 = H at hP hS ⊢
              have hn75 : ([100, 105, 115, 112, 117, 116, 101, 100] : List Int32).length = 8 := rfl
              obtain ⟨hP9, hD9⟩ := PDq.sub (ws' := [(v27, .inl (cA 1, 10, .inr (.inl l27))), (v37, .inl (cA 0, 100, .inl fn73)), (oX10 w0 v0 v1 v2 v3 v4 g5 g6 (nI ed) 0 v9 (nI nb) g11 g12 v13 g14 g15 g16 g17 g18 g19 g20 g21 g22 g23 g24 g25 g26 v27 v28 v29 v30 v31 v32 v33 v34 v35 v36 v37 (nI qn72)), (v0, .inl (cA 0, 326, .inl fs))]) hP hD [0, 3, 2, 1] (by decide) rfl
              exact meet2 fn73 qn72 H _ ls (by omega) hP9 hD9 hS (lv_sub hl [0, 1, 2] rfl)
            · skip
              by_cases hn76 : (fs (16 + 7 * kn3 + 2)) = 3
              · skip
                refine W.eq (g2 := F0 m 67 ls [.int 3, .ref w0]) (by rw [hn76]) ?_
                obtain ⟨hPc, hDc, hFc⟩ := PDq.cut (wc := []) hP hD hS hA [] (by decide) rfl
                refine va_callr (va_runS (As := [.int 3]) (rest := [.ref w0]) ⟨hx, hb, hml, hown, hts⟩ (r_stateWord3 l D cA sa  H.size) (va_cwS 1 hts gX10_write_X10_stateWord rfl rfl rfl (by decide +kernel) ⟨(Nat.le_of_ble_eq_true rfl), (Nat.le_of_ble_eq_true rfl)⟩) ⟨Wd.blind, fun U hU hW => ⟨rfl, Wd.call hPc hDc hK hC hZ hS hFc U hU hW⟩⟩ rfl rfl hl.1 rfl (lv_room (Nat.le_of_ble_eq_true rfl)) dX10_write_67 ⟨(Nat.le_of_ble_eq_true rfl), (Nat.le_of_ble_eq_true rfl)⟩) hS (fun q _ h => hFc q h) hFc (fun u ra t H1 locs ht hvm hw hB hz1 hk1 hS => ?_)
                obtain ⟨hra, hP1, hD1⟩ := hB
                obtain rfl := hra.symm
                rw [ht] at hP1
                obtain ⟨hP, hD⟩ := PDq.join (w := [(v27, .inl (cA 1, 10, .inr (.inl l27))), (v37, .inl (cA 0, 100, .inl fn14)), (oX10 w0 v0 v1 v2 v3 v4 g5 g6 (nI ed) 0 v9 (nI nb) g11 g12 v13 g14 g15 g16 g17 g18 g19 g20 g21 g22 g23 g24 g25 g26 v27 v28 v29 v30 v31 v32 v33 v34 v35 v36 v37 (nI qn13)), (v0, .inl (cA 0, 326, .inl fs))]) 4 hP hD [] [0, 1, 2, 3] rfl rfl (by decide) (by decide) hk1 hFc hP1 hD1 rfl
                generalize H1 = H at hP hS ⊢
                obtain ⟨hPc, hDc, hFc⟩ := PDq.cut (wc := [(oX10 w0 v0 v1 v2 v3 v4 g5 g6 (nI ed) 0 v9 (nI nb) g11 g12 v13 g14 g15 g16 g17 g18 g19 g20 g21 g22 g23 g24 g25 g26 v27 v28 v29 v30 v31 v32 v33 v34 v35 v36 v37 (nI qn13)), (v37, .inl (cA 0, 100, .inl fn14))]) hP hD hS hA [2, 1] (by decide) rfl
                refine va_callv (va_runV (As := [.ref (sa 28)]) (rest := []) ⟨hx, hb, hml, hown, hts⟩ (r_putText l D cA sa w0 ed nb qn13 v0 v1 v2 v3 v4 v9 v13 v27 v28 v29 v30 v31 v32 v33 v34 v35 v36 v37 0 g11 g12 g14 g15 g16 g17 g18 g19 g20 g21 g22 g23 g24 g26 g5 g6 g25 fn14 28 ([112, 97, 105, 100]) H.size (by decide +kernel) (by simp only [List.length_cons, List.length_nil]; omega)) (cwV 1 hts gX10_write_X10_putText rfl rfl rfl (by decide +kernel) ⟨(Nat.le_of_ble_eq_true rfl), (Nat.le_of_ble_eq_true rfl)⟩) ⟨Wd.blind, va_recv hK hPc (ci := 11) (q0 := 0) rfl rfl, fun U hU hW => ⟨rfl, Wd.call hPc hDc hK hC hZ hS hFc U hU hW⟩⟩ rfl rfl hl.1 rfl (lv_room (Nat.le_of_ble_eq_true rfl)) dX10_write_70 ⟨(Nat.le_of_ble_eq_true rfl), (Nat.le_of_ble_eq_true rfl)⟩) hS (fun q _ h => hFc q h) hFc (fun u t H1 locs ht hvm hw hB hz1 hk1 hS => ?_)
                obtain ⟨qn77, fn78, hn79, hP1, hD1⟩ := hB
                rw [ht] at hP1
                obtain ⟨hP, hD⟩ := PDq.join (w := [(v27, .inl (cA 1, 10, .inr (.inl l27))), (v0, .inl (cA 0, 326, .inl fs)), (oX10 w0 v0 v1 v2 v3 v4 g5 g6 (nI ed) 0 v9 (nI nb) g11 g12 v13 g14 g15 g16 g17 g18 g19 g20 g21 g22 g23 g24 g25 g26 v27 v28 v29 v30 v31 v32 v33 v34 v35 v36 v37 (nI qn77)), (v37, .inl (cA 0, 100, .inl fn78))]) 2 hP hD [2, 1] [0, 3] rfl rfl (by decide) (by decide) hk1 hFc hP1 hD1 rfl
                generalize H1 = H at hP hS ⊢
                have hn80 : ([112, 97, 105, 100] : List Int32).length = 4 := rfl
                obtain ⟨hP9, hD9⟩ := PDq.sub (ws' := [(v27, .inl (cA 1, 10, .inr (.inl l27))), (v37, .inl (cA 0, 100, .inl fn78)), (oX10 w0 v0 v1 v2 v3 v4 g5 g6 (nI ed) 0 v9 (nI nb) g11 g12 v13 g14 g15 g16 g17 g18 g19 g20 g21 g22 g23 g24 g25 g26 v27 v28 v29 v30 v31 v32 v33 v34 v35 v36 v37 (nI qn77)), (v0, .inl (cA 0, 326, .inl fs))]) hP hD [0, 3, 2, 1] (by decide) rfl
                exact meet2 fn78 qn77 H _ ls (by omega) hP9 hD9 hS (lv_sub hl [0, 1, 2] rfl)
              · skip
                by_cases hn81 : (fs (16 + 7 * kn3 + 2)) = 4
                · skip
                  refine W.eq (g2 := F0 m 67 ls [.int 4, .ref w0]) (by rw [hn81]) ?_
                  obtain ⟨hPc, hDc, hFc⟩ := PDq.cut (wc := []) hP hD hS hA [] (by decide) rfl
                  refine va_callr (va_runS (As := [.int 4]) (rest := [.ref w0]) ⟨hx, hb, hml, hown, hts⟩ (r_stateWord4 l D cA sa  H.size) (va_cwS 1 hts gX10_write_X10_stateWord rfl rfl rfl (by decide +kernel) ⟨(Nat.le_of_ble_eq_true rfl), (Nat.le_of_ble_eq_true rfl)⟩) ⟨Wd.blind, fun U hU hW => ⟨rfl, Wd.call hPc hDc hK hC hZ hS hFc U hU hW⟩⟩ rfl rfl hl.1 rfl (lv_room (Nat.le_of_ble_eq_true rfl)) dX10_write_67 ⟨(Nat.le_of_ble_eq_true rfl), (Nat.le_of_ble_eq_true rfl)⟩) hS (fun q _ h => hFc q h) hFc (fun u ra t H1 locs ht hvm hw hB hz1 hk1 hS => ?_)
                  obtain ⟨hra, hP1, hD1⟩ := hB
                  obtain rfl := hra.symm
                  rw [ht] at hP1
                  obtain ⟨hP, hD⟩ := PDq.join (w := [(v27, .inl (cA 1, 10, .inr (.inl l27))), (v37, .inl (cA 0, 100, .inl fn14)), (oX10 w0 v0 v1 v2 v3 v4 g5 g6 (nI ed) 0 v9 (nI nb) g11 g12 v13 g14 g15 g16 g17 g18 g19 g20 g21 g22 g23 g24 g25 g26 v27 v28 v29 v30 v31 v32 v33 v34 v35 v36 v37 (nI qn13)), (v0, .inl (cA 0, 326, .inl fs))]) 4 hP hD [] [0, 1, 2, 3] rfl rfl (by decide) (by decide) hk1 hFc hP1 hD1 rfl
                  generalize H1 = H at hP hS ⊢
                  obtain ⟨hPc, hDc, hFc⟩ := PDq.cut (wc := [(oX10 w0 v0 v1 v2 v3 v4 g5 g6 (nI ed) 0 v9 (nI nb) g11 g12 v13 g14 g15 g16 g17 g18 g19 g20 g21 g22 g23 g24 g25 g26 v27 v28 v29 v30 v31 v32 v33 v34 v35 v36 v37 (nI qn13)), (v37, .inl (cA 0, 100, .inl fn14))]) hP hD hS hA [2, 1] (by decide) rfl
                  refine va_callv (va_runV (As := [.ref (sa 29)]) (rest := []) ⟨hx, hb, hml, hown, hts⟩ (r_putText l D cA sa w0 ed nb qn13 v0 v1 v2 v3 v4 v9 v13 v27 v28 v29 v30 v31 v32 v33 v34 v35 v36 v37 0 g11 g12 g14 g15 g16 g17 g18 g19 g20 g21 g22 g23 g24 g26 g5 g6 g25 fn14 29 ([115, 101, 116, 116, 108, 101, 100]) H.size (by decide +kernel) (by simp only [List.length_cons, List.length_nil]; omega)) (cwV 1 hts gX10_write_X10_putText rfl rfl rfl (by decide +kernel) ⟨(Nat.le_of_ble_eq_true rfl), (Nat.le_of_ble_eq_true rfl)⟩) ⟨Wd.blind, va_recv hK hPc (ci := 11) (q0 := 0) rfl rfl, fun U hU hW => ⟨rfl, Wd.call hPc hDc hK hC hZ hS hFc U hU hW⟩⟩ rfl rfl hl.1 rfl (lv_room (Nat.le_of_ble_eq_true rfl)) dX10_write_70 ⟨(Nat.le_of_ble_eq_true rfl), (Nat.le_of_ble_eq_true rfl)⟩) hS (fun q _ h => hFc q h) hFc (fun u t H1 locs ht hvm hw hB hz1 hk1 hS => ?_)
                  obtain ⟨qn82, fn83, hn84, hP1, hD1⟩ := hB
                  rw [ht] at hP1
                  obtain ⟨hP, hD⟩ := PDq.join (w := [(v27, .inl (cA 1, 10, .inr (.inl l27))), (v0, .inl (cA 0, 326, .inl fs)), (oX10 w0 v0 v1 v2 v3 v4 g5 g6 (nI ed) 0 v9 (nI nb) g11 g12 v13 g14 g15 g16 g17 g18 g19 g20 g21 g22 g23 g24 g25 g26 v27 v28 v29 v30 v31 v32 v33 v34 v35 v36 v37 (nI qn82)), (v37, .inl (cA 0, 100, .inl fn83))]) 2 hP hD [2, 1] [0, 3] rfl rfl (by decide) (by decide) hk1 hFc hP1 hD1 rfl
                  generalize H1 = H at hP hS ⊢
                  have hn85 : ([115, 101, 116, 116, 108, 101, 100] : List Int32).length = 7 := rfl
                  obtain ⟨hP9, hD9⟩ := PDq.sub (ws' := [(v27, .inl (cA 1, 10, .inr (.inl l27))), (v37, .inl (cA 0, 100, .inl fn83)), (oX10 w0 v0 v1 v2 v3 v4 g5 g6 (nI ed) 0 v9 (nI nb) g11 g12 v13 g14 g15 g16 g17 g18 g19 g20 g21 g22 g23 g24 g25 g26 v27 v28 v29 v30 v31 v32 v33 v34 v35 v36 v37 (nI qn82)), (v0, .inl (cA 0, 326, .inl fs))]) hP hD [0, 3, 2, 1] (by decide) rfl
                  exact meet2 fn83 qn82 H _ ls (by omega) hP9 hD9 hS (lv_sub hl [0, 1, 2] rfl)
                · skip
                  obtain ⟨hPc, hDc, hFc⟩ := PDq.cut (wc := []) hP hD hS hA [] (by decide) rfl
                  refine va_callr (va_runS (As := [.int (fs (16 + 7 * kn3 + 2))]) (rest := [.ref w0]) ⟨hx, hb, hml, hown, hts⟩ (r_stateWordX l D cA sa (fs (16 + 7 * kn3 + 2)) H.size hn61 hn66 hn71 hn76 hn81) (va_cwS 1 hts gX10_write_X10_stateWord rfl rfl rfl (by decide +kernel) ⟨(Nat.le_of_ble_eq_true rfl), (Nat.le_of_ble_eq_true rfl)⟩) ⟨Wd.blind, fun U hU hW => ⟨rfl, Wd.call hPc hDc hK hC hZ hS hFc U hU hW⟩⟩ rfl rfl hl.1 rfl (lv_room (Nat.le_of_ble_eq_true rfl)) dX10_write_67 ⟨(Nat.le_of_ble_eq_true rfl), (Nat.le_of_ble_eq_true rfl)⟩) hS (fun q _ h => hFc q h) hFc (fun u ra t H1 locs ht hvm hw hB hz1 hk1 hS => ?_)
                  obtain ⟨hra, hP1, hD1⟩ := hB
                  obtain rfl := hra.symm
                  rw [ht] at hP1
                  obtain ⟨hP, hD⟩ := PDq.join (w := [(v27, .inl (cA 1, 10, .inr (.inl l27))), (v37, .inl (cA 0, 100, .inl fn14)), (oX10 w0 v0 v1 v2 v3 v4 g5 g6 (nI ed) 0 v9 (nI nb) g11 g12 v13 g14 g15 g16 g17 g18 g19 g20 g21 g22 g23 g24 g25 g26 v27 v28 v29 v30 v31 v32 v33 v34 v35 v36 v37 (nI qn13)), (v0, .inl (cA 0, 326, .inl fs))]) 4 hP hD [] [0, 1, 2, 3] rfl rfl (by decide) (by decide) hk1 hFc hP1 hD1 rfl
                  generalize H1 = H at hP hS ⊢
                  obtain ⟨hPc, hDc, hFc⟩ := PDq.cut (wc := [(oX10 w0 v0 v1 v2 v3 v4 g5 g6 (nI ed) 0 v9 (nI nb) g11 g12 v13 g14 g15 g16 g17 g18 g19 g20 g21 g22 g23 g24 g25 g26 v27 v28 v29 v30 v31 v32 v33 v34 v35 v36 v37 (nI qn13)), (v37, .inl (cA 0, 100, .inl fn14))]) hP hD hS hA [2, 1] (by decide) rfl
                  refine va_callv (va_runV (As := [.ref (sa 30)]) (rest := []) ⟨hx, hb, hml, hown, hts⟩ (r_putText l D cA sa w0 ed nb qn13 v0 v1 v2 v3 v4 v9 v13 v27 v28 v29 v30 v31 v32 v33 v34 v35 v36 v37 0 g11 g12 g14 g15 g16 g17 g18 g19 g20 g21 g22 g23 g24 g26 g5 g6 g25 fn14 30 ([99, 97, 110, 99, 101, 108, 108, 101, 100]) H.size (by decide +kernel) (by simp only [List.length_cons, List.length_nil]; omega)) (cwV 1 hts gX10_write_X10_putText rfl rfl rfl (by decide +kernel) ⟨(Nat.le_of_ble_eq_true rfl), (Nat.le_of_ble_eq_true rfl)⟩) ⟨Wd.blind, va_recv hK hPc (ci := 11) (q0 := 0) rfl rfl, fun U hU hW => ⟨rfl, Wd.call hPc hDc hK hC hZ hS hFc U hU hW⟩⟩ rfl rfl hl.1 rfl (lv_room (Nat.le_of_ble_eq_true rfl)) dX10_write_70 ⟨(Nat.le_of_ble_eq_true rfl), (Nat.le_of_ble_eq_true rfl)⟩) hS (fun q _ h => hFc q h) hFc (fun u t H1 locs ht hvm hw hB hz1 hk1 hS => ?_)
                  obtain ⟨qn86, fn87, hn88, hP1, hD1⟩ := hB
                  rw [ht] at hP1
                  obtain ⟨hP, hD⟩ := PDq.join (w := [(v27, .inl (cA 1, 10, .inr (.inl l27))), (v0, .inl (cA 0, 326, .inl fs)), (oX10 w0 v0 v1 v2 v3 v4 g5 g6 (nI ed) 0 v9 (nI nb) g11 g12 v13 g14 g15 g16 g17 g18 g19 g20 g21 g22 g23 g24 g25 g26 v27 v28 v29 v30 v31 v32 v33 v34 v35 v36 v37 (nI qn86)), (v37, .inl (cA 0, 100, .inl fn87))]) 2 hP hD [2, 1] [0, 3] rfl rfl (by decide) (by decide) hk1 hFc hP1 hD1 rfl
                  generalize H1 = H at hP hS ⊢
                  have hn89 : ([99, 97, 110, 99, 101, 108, 108, 101, 100] : List Int32).length = 9 := rfl
                  obtain ⟨hP9, hD9⟩ := PDq.sub (ws' := [(v27, .inl (cA 1, 10, .inr (.inl l27))), (v37, .inl (cA 0, 100, .inl fn87)), (oX10 w0 v0 v1 v2 v3 v4 g5 g6 (nI ed) 0 v9 (nI nb) g11 g12 v13 g14 g15 g16 g17 g18 g19 g20 g21 g22 g23 g24 g25 g26 v27 v28 v29 v30 v31 v32 v33 v34 v35 v36 v37 (nI qn86)), (v0, .inl (cA 0, 326, .inl fs))]) hP hD [0, 3, 2, 1] (by decide) rfl
                  exact meet2 fn87 qn86 H _ ls (by omega) hP9 hD9 hS (lv_sub hl [0, 1, 2] rfl)
      | succ n1 ih1 =>
        intro i1 f0_1 oi H locs ls hi1 hv0_1 hP hD hS hl
        refine lv_iload_n hx hb dX10_write_21 rfl (lv_at hl 0 rfl) ?_
        refine lv_aload_n hx hb dX10_write_22 rfl (lv_at hl 1 rfl) ?_
        refine va_get (D := D) (ci := 11) (v := .ref v27) (C := RX10) (T := TX10) (N := 39) hx hb hts inX10 hown hK hP 3 rfl rfl 27 (by decide) (hts (.fieldLink RX10 36 "EscrowDeskModel" "names" "[J") (by decide +kernel)) (fun _ h9 => h9) rfl dX10_write_23 ?_
        refine lv_iload_n hx hb dX10_write_26 rfl (lv_at hl 2 rfl) ?_
        refine va_lald hx hb hK hP 1 1 rfl rfl (vp_in_nI (n := kn3) (N := 10) (show kn3 < 10 by omega) (by decide)) dX10_write_27 ?_
        refine lv_topl (fun yn90 eyn90 => ?_)
        obtain ⟨hPc, hDc, hFc⟩ := PDq.cut (wc := []) hP hD hS hA [] (by decide) rfl
        refine va_calli (va_runS (As := [.long yn90]) (rest := [.int (nI i1)]) ⟨hx, hb, hml, hown, hts⟩ (r_lettersOf l D cA sa yn90 H.size) (va_cwS 1 hts gX10_write_X10_lettersOf rfl rfl rfl (by decide +kernel) ⟨(Nat.le_of_ble_eq_true rfl), (Nat.le_of_ble_eq_true rfl)⟩) ⟨Wd.blind, fun U hU hW => ⟨rfl, Wd.call hPc hDc hK hC hZ hS hFc U hU hW⟩⟩ rfl rfl hl.1 rfl (lv_room (Nat.le_of_ble_eq_true rfl)) dX10_write_28 ⟨(Nat.le_of_ble_eq_true rfl), (Nat.le_of_ble_eq_true rfl)⟩) hS (fun q _ h => hFc q h) hFc (fun rn91 u t H1 locs ht hvm hw hB hz1 hk1 hS => ?_)
        obtain ⟨hP1, hD1⟩ := hB
        rw [ht] at hP1
        obtain ⟨hP, hD⟩ := PDq.join (w := [(v37, .inl (cA 0, 100, .inl f0_1)), (v27, .inl (cA 1, 10, .inr (.inl l27))), (v0, .inl (cA 0, 326, .inl fs)), (oX10 w0 v0 v1 v2 v3 v4 g5 g6 (nI ed) 0 v9 (nI nb) g11 g12 v13 g14 g15 g16 g17 g18 g19 g20 g21 g22 g23 g24 g25 g26 v27 v28 v29 v30 v31 v32 v33 v34 v35 v36 v37 (nI oi))]) 4 hP hD [] [0, 1, 2, 3] rfl rfl (by decide) (by decide) hk1 hFc hP1 hD1 rfl
        generalize H1 = H at hP hS ⊢
        obtain ⟨kn92, hn93, hr9⟩ := hw
        subst hr9
        refine lv_icmp_ge (tgt := 54) hx hb dX10_write_31 (by decide) (fun c94 => ?_) (fun c94 => ?_)
        · skip
          have hn95 : kn92 ≤ i1 := (nI_leI (a := kn92) (b := i1) (by omega) (by omega)).mp c94
          refine lv_aload_n hx hb dX10_write_54 rfl (lv_at hl 1 rfl) ?_
          refine lv_bipush (v := 32) hx hb dX10_write_55 (by decide) ?_
          obtain ⟨hPc, hDc, hFc⟩ := PDq.cut (wc := [(oX10 w0 v0 v1 v2 v3 v4 g5 g6 (nI ed) 0 v9 (nI nb) g11 g12 v13 g14 g15 g16 g17 g18 g19 g20 g21 g22 g23 g24 g25 g26 v27 v28 v29 v30 v31 v32 v33 v34 v35 v36 v37 (nI oi)), (v37, .inl (cA 0, 100, .inl f0_1))]) hP hD hS hA [3, 0] (by decide) rfl
          refine va_callv (va_runV (As := [.int 32]) (rest := []) ⟨hx, hb, hml, hown, hts⟩ (r_put l D cA sa w0 ed nb oi v0 v1 v2 v3 v4 v9 v13 v27 v28 v29 v30 v31 v32 v33 v34 v35 v36 v37 0 g11 g12 g14 g15 g16 g17 g18 g19 g20 g21 g22 g23 g24 g26 g5 g6 g25 f0_1 32 H.size (by omega)) (cwV 1 hts gX10_write_X10_put rfl rfl rfl (by decide +kernel) ⟨(Nat.le_of_ble_eq_true rfl), (Nat.le_of_ble_eq_true rfl)⟩) ⟨Wd.blind, va_recv hK hPc (ci := 11) (q0 := 0) rfl rfl, fun U hU hW => ⟨rfl, Wd.call hPc hDc hK hC hZ hS hFc U hU hW⟩⟩ rfl rfl hl.1 rfl (lv_room (Nat.le_of_ble_eq_true rfl)) dX10_write_57 ⟨(Nat.le_of_ble_eq_true rfl), (Nat.le_of_ble_eq_true rfl)⟩) hS (fun q _ h => hFc q h) hFc (fun u t H1 locs ht hvm hw hB hz1 hk1 hS => ?_)
          obtain ⟨qn96, fn97, hn98, hP1, hD1⟩ := hB
          rw [ht] at hP1
          obtain ⟨hP, hD⟩ := PDq.join (w := [(v27, .inl (cA 1, 10, .inr (.inl l27))), (v0, .inl (cA 0, 326, .inl fs)), (oX10 w0 v0 v1 v2 v3 v4 g5 g6 (nI ed) 0 v9 (nI nb) g11 g12 v13 g14 g15 g16 g17 g18 g19 g20 g21 g22 g23 g24 g25 g26 v27 v28 v29 v30 v31 v32 v33 v34 v35 v36 v37 (nI qn96)), (v37, .inl (cA 0, 100, .inl fn97))]) 2 hP hD [3, 0] [1, 2] rfl rfl (by decide) (by decide) hk1 hFc hP1 hD1 rfl
          generalize H1 = H at hP hS ⊢
          refine lv_aload_n hx hb dX10_write_60 rfl (lv_at hl 1 rfl) ?_
          refine lv_aload_n hx hb dX10_write_61 rfl (lv_at hl 1 rfl) ?_
          refine lv_iload_n hx hb dX10_write_62 rfl (lv_at hl 2 rfl) ?_
          refine lv_iconst (v := 2) hx hb dX10_write_63 (by decide) ?_
          obtain ⟨hPc, hDc, hFc⟩ := PDq.cut (wc := [(oX10 w0 v0 v1 v2 v3 v4 g5 g6 (nI ed) 0 v9 (nI nb) g11 g12 v13 g14 g15 g16 g17 g18 g19 g20 g21 g22 g23 g24 g25 g26 v27 v28 v29 v30 v31 v32 v33 v34 v35 v36 v37 (nI qn96)), (v0, .inl (cA 0, 326, .inl fs))]) hP hD hS hA [2, 1] (by decide) rfl
          refine va_calli (va_runV (As := [.int (nI kn3), .int 2]) (rest := [.ref w0]) ⟨hx, hb, hml, hown, hts⟩ (r_of l D cA sa w0 ed nb qn96 v0 v1 v2 v3 v4 v9 v13 v27 v28 v29 v30 v31 v32 v33 v34 v35 v36 v37 0 g11 g12 g14 g15 g16 g17 g18 g19 g20 g21 g22 g23 g24 g26 g5 g6 g25 fs kn3 2 H.size (by omega) (by omega)) (cwV 2 hts gX10_write_X10_of rfl rfl rfl (by decide +kernel) ⟨(Nat.le_of_ble_eq_true rfl), (Nat.le_of_ble_eq_true rfl)⟩) ⟨Wd.blind, va_recv hK hPc (ci := 11) (q0 := 0) rfl rfl, fun U hU hW => ⟨rfl, Wd.call hPc hDc hK hC hZ hS hFc U hU hW⟩⟩ rfl rfl hl.1 rfl (lv_room (Nat.le_of_ble_eq_true rfl)) dX10_write_64 ⟨(Nat.le_of_ble_eq_true rfl), (Nat.le_of_ble_eq_true rfl)⟩) hS (fun q _ h => hFc q h) hFc (fun rn99 u t H1 locs ht hvm hw hB hz1 hk1 hS => ?_)
          obtain ⟨hP1, hD1⟩ := hB
          rw [ht] at hP1
          obtain ⟨hP, hD⟩ := PDq.join (w := [(v27, .inl (cA 1, 10, .inr (.inl l27))), (v37, .inl (cA 0, 100, .inl fn97)), (oX10 w0 v0 v1 v2 v3 v4 g5 g6 (nI ed) 0 v9 (nI nb) g11 g12 v13 g14 g15 g16 g17 g18 g19 g20 g21 g22 g23 g24 g25 g26 v27 v28 v29 v30 v31 v32 v33 v34 v35 v36 v37 (nI qn96)), (v0, .inl (cA 0, 326, .inl fs))]) 2 hP hD [2, 1] [0, 3] rfl rfl (by decide) (by decide) hk1 hFc hP1 hD1 rfl
          generalize H1 = H at hP hS ⊢
          obtain rfl : rn99 = (fs (16 + 7 * kn3 + 2)) := hw
          have meet3 : ∀ (fj : Nat → Int32) (oj : Nat) (H : Heap) (locs : List Loc) (ls : Array Slot), oj ≤ qn96 + 9 → va_P D vwCl [(v27, .inl (cA 1, 10, .inr (.inl l27))), (v37, .inl (cA 0, 100, .inl fj)), (oX10 w0 v0 v1 v2 v3 v4 g5 g6 (nI ed) 0 v9 (nI nb) g11 g12 v13 g14 g15 g16 g17 g18 g19 g20 g21 g22 g23 g24 g25 g26 v27 v28 v29 v30 v31 v32 v33 v34 v35 v36 v37 (nI oj)), (v0, .inl (cA 0, 326, .inl fs))] H → va_D A [(v27, .inl (cA 1, 10, .inr (.inl l27))), (v37, .inl (cA 0, 100, .inl fj)), (oX10 w0 v0 v1 v2 v3 v4 g5 g6 (nI ed) 0 v9 (nI nb) g11 g12 v13 g14 g15 g16 g17 g18 g19 g20 g21 g22 g23 g24 g25 g26 v27 v28 v29 v30 v31 v32 v33 v34 v35 v36 v37 (nI oj)), (v0, .inl (cA 0, 326, .inl fs))] → va_S A s.heap H locs → lv_has ls 3 [(2, .int (nI i1)), (0, .ref w0), (1, .int (nI kn3))] → W p l e (headSpec wsX10_write ({ frames := 5, cells := 0, slots := 0, locals := 107 } : Room)).room s m ([.ref w0, .int i] : List Value).toArray below meth c H locs 0 0 (MQ below (va_Qi (fun (r : Int32) (_ : Unit) => True) (fun (_ : Unit) t => ∃ zt : Int32, ∃ ol2 : Nat, ∃ zo9 : Nat → Int32, ol2 ≤ 100 ∧ Wq D A [(oX10 w0 v0 v1 v2 v3 v4 g5 g6 (nI ed) zt v9 (nI nb) g11 g12 v13 g14 g15 g16 g17 g18 g19 g20 g21 g22 g23 g24 g25 g26 v27 v28 v29 v30 v31 v32 v33 v34 v35 v36 v37 (nI ol2)), (v0, .inl (cA 0, 326, .inl fs)), (v37, .inl (cA 0, 100, .inl zo9)), (v27, .inl (cA 1, 10, .inr (.inl l27)))] t) A) ([.ref w0, .int i] : List Value).toArray s 0 0 A) (F0 m 73 ls []) := by
            intro fj oj H locs ls hm0_3 hP hD hS hl
            refine lv_aload_n hx hb dX10_write_73 rfl (lv_at hl 1 rfl) ?_
            refine lv_bipush (v := 32) hx hb dX10_write_74 (by decide) ?_
            obtain ⟨hPc, hDc, hFc⟩ := PDq.cut (wc := [(oX10 w0 v0 v1 v2 v3 v4 g5 g6 (nI ed) 0 v9 (nI nb) g11 g12 v13 g14 g15 g16 g17 g18 g19 g20 g21 g22 g23 g24 g25 g26 v27 v28 v29 v30 v31 v32 v33 v34 v35 v36 v37 (nI oj)), (v37, .inl (cA 0, 100, .inl fj))]) hP hD hS hA [2, 1] (by decide) rfl
            refine va_callv (va_runV (As := [.int 32]) (rest := []) ⟨hx, hb, hml, hown, hts⟩ (r_put l D cA sa w0 ed nb oj v0 v1 v2 v3 v4 v9 v13 v27 v28 v29 v30 v31 v32 v33 v34 v35 v36 v37 0 g11 g12 g14 g15 g16 g17 g18 g19 g20 g21 g22 g23 g24 g26 g5 g6 g25 fj 32 H.size (by omega)) (cwV 1 hts gX10_write_X10_put rfl rfl rfl (by decide +kernel) ⟨(Nat.le_of_ble_eq_true rfl), (Nat.le_of_ble_eq_true rfl)⟩) ⟨Wd.blind, va_recv hK hPc (ci := 11) (q0 := 0) rfl rfl, fun U hU hW => ⟨rfl, Wd.call hPc hDc hK hC hZ hS hFc U hU hW⟩⟩ rfl rfl hl.1 rfl (lv_room (Nat.le_of_ble_eq_true rfl)) dX10_write_76 ⟨(Nat.le_of_ble_eq_true rfl), (Nat.le_of_ble_eq_true rfl)⟩) hS (fun q _ h => hFc q h) hFc (fun u t H1 locs ht hvm hw hB hz1 hk1 hS => ?_)
            obtain ⟨qn100, fn101, hn102, hP1, hD1⟩ := hB
            rw [ht] at hP1
            obtain ⟨hP, hD⟩ := PDq.join (w := [(v27, .inl (cA 1, 10, .inr (.inl l27))), (v0, .inl (cA 0, 326, .inl fs)), (oX10 w0 v0 v1 v2 v3 v4 g5 g6 (nI ed) 0 v9 (nI nb) g11 g12 v13 g14 g15 g16 g17 g18 g19 g20 g21 g22 g23 g24 g25 g26 v27 v28 v29 v30 v31 v32 v33 v34 v35 v36 v37 (nI qn100)), (v37, .inl (cA 0, 100, .inl fn101))]) 2 hP hD [2, 1] [0, 3] rfl rfl (by decide) (by decide) hk1 hFc hP1 hD1 rfl
            generalize H1 = H at hP hS ⊢
            refine lv_aload_n hx hb dX10_write_79 rfl (lv_at hl 1 rfl) ?_
            refine lv_aload_n hx hb dX10_write_80 rfl (lv_at hl 1 rfl) ?_
            refine lv_iload_n hx hb dX10_write_81 rfl (lv_at hl 2 rfl) ?_
            refine lv_iconst (v := 1) hx hb dX10_write_82 (by decide) ?_
            obtain ⟨hPc, hDc, hFc⟩ := PDq.cut (wc := [(oX10 w0 v0 v1 v2 v3 v4 g5 g6 (nI ed) 0 v9 (nI nb) g11 g12 v13 g14 g15 g16 g17 g18 g19 g20 g21 g22 g23 g24 g25 g26 v27 v28 v29 v30 v31 v32 v33 v34 v35 v36 v37 (nI qn100)), (v0, .inl (cA 0, 326, .inl fs))]) hP hD hS hA [2, 1] (by decide) rfl
            refine va_calli (va_runV (As := [.int (nI kn3), .int 1]) (rest := [.ref w0]) ⟨hx, hb, hml, hown, hts⟩ (r_of l D cA sa w0 ed nb qn100 v0 v1 v2 v3 v4 v9 v13 v27 v28 v29 v30 v31 v32 v33 v34 v35 v36 v37 0 g11 g12 g14 g15 g16 g17 g18 g19 g20 g21 g22 g23 g24 g26 g5 g6 g25 fs kn3 1 H.size (by omega) (by omega)) (cwV 2 hts gX10_write_X10_of rfl rfl rfl (by decide +kernel) ⟨(Nat.le_of_ble_eq_true rfl), (Nat.le_of_ble_eq_true rfl)⟩) ⟨Wd.blind, va_recv hK hPc (ci := 11) (q0 := 0) rfl rfl, fun U hU hW => ⟨rfl, Wd.call hPc hDc hK hC hZ hS hFc U hU hW⟩⟩ rfl rfl hl.1 rfl (lv_room (Nat.le_of_ble_eq_true rfl)) dX10_write_83 ⟨(Nat.le_of_ble_eq_true rfl), (Nat.le_of_ble_eq_true rfl)⟩) hS (fun q _ h => hFc q h) hFc (fun rn103 u t H1 locs ht hvm hw hB hz1 hk1 hS => ?_)
            obtain ⟨hP1, hD1⟩ := hB
            rw [ht] at hP1
            obtain ⟨hP, hD⟩ := PDq.join (w := [(v27, .inl (cA 1, 10, .inr (.inl l27))), (v37, .inl (cA 0, 100, .inl fn101)), (oX10 w0 v0 v1 v2 v3 v4 g5 g6 (nI ed) 0 v9 (nI nb) g11 g12 v13 g14 g15 g16 g17 g18 g19 g20 g21 g22 g23 g24 g25 g26 v27 v28 v29 v30 v31 v32 v33 v34 v35 v36 v37 (nI qn100)), (v0, .inl (cA 0, 326, .inl fs))]) 2 hP hD [2, 1] [0, 3] rfl rfl (by decide) (by decide) hk1 hFc hP1 hD1 rfl
            generalize H1 = H at hP hS ⊢
            obtain rfl : rn103 = (fs (16 + 7 * kn3 + 1)) := hw
            obtain ⟨hPc, hDc, hFc⟩ := PDq.cut (wc := [(oX10 w0 v0 v1 v2 v3 v4 g5 g6 (nI ed) 0 v9 (nI nb) g11 g12 v13 g14 g15 g16 g17 g18 g19 g20 g21 g22 g23 g24 g25 g26 v27 v28 v29 v30 v31 v32 v33 v34 v35 v36 v37 (nI qn100)), (v37, .inl (cA 0, 100, .inl fn101))]) hP hD hS hA [2, 1] (by decide) rfl
            refine va_callv (va_runV (As := [.int (fs (16 + 7 * kn3 + 1))]) (rest := []) ⟨hx, hb, hml, hown, hts⟩ (r_putNumber l D cA sa w0 ed nb qn100 v0 v1 v2 v3 v4 v9 v13 v27 v28 v29 v30 v31 v32 v33 v34 v35 v36 v37 0 g11 g12 g14 g15 g16 g17 g18 g19 g20 g21 g22 g23 g24 g26 g5 g6 g25 fn101 (fs (16 + 7 * kn3 + 1)) H.size (by omega)) (cwV 1 hts gX10_write_X10_putNumber rfl rfl rfl (by decide +kernel) ⟨(Nat.le_of_ble_eq_true rfl), (Nat.le_of_ble_eq_true rfl)⟩) ⟨Wd.blind, va_recv hK hPc (ci := 11) (q0 := 0) rfl rfl, fun U hU hW => ⟨rfl, Wd.call hPc hDc hK hC hZ hS hFc U hU hW⟩⟩ rfl rfl hl.1 rfl (lv_room (Nat.le_of_ble_eq_true rfl)) dX10_write_86 ⟨(Nat.le_of_ble_eq_true rfl), (Nat.le_of_ble_eq_true rfl)⟩) hS (fun q _ h => hFc q h) hFc (fun u t H1 locs ht hvm hw hB hz1 hk1 hS => ?_)
            obtain ⟨qn104, fn105, hn106, hP1, hD1⟩ := hB
            rw [ht] at hP1
            obtain ⟨hP, hD⟩ := PDq.join (w := [(v27, .inl (cA 1, 10, .inr (.inl l27))), (v0, .inl (cA 0, 326, .inl fs)), (oX10 w0 v0 v1 v2 v3 v4 g5 g6 (nI ed) 0 v9 (nI nb) g11 g12 v13 g14 g15 g16 g17 g18 g19 g20 g21 g22 g23 g24 g25 g26 v27 v28 v29 v30 v31 v32 v33 v34 v35 v36 v37 (nI qn104)), (v37, .inl (cA 0, 100, .inl fn105))]) 2 hP hD [2, 1] [0, 3] rfl rfl (by decide) (by decide) hk1 hFc hP1 hD1 rfl
            generalize H1 = H at hP hS ⊢
            refine lv_aload_n hx hb dX10_write_89 rfl (lv_at hl 1 rfl) ?_
            refine lv_bipush (v := 47) hx hb dX10_write_90 (by decide) ?_
            obtain ⟨hPc, hDc, hFc⟩ := PDq.cut (wc := [(oX10 w0 v0 v1 v2 v3 v4 g5 g6 (nI ed) 0 v9 (nI nb) g11 g12 v13 g14 g15 g16 g17 g18 g19 g20 g21 g22 g23 g24 g25 g26 v27 v28 v29 v30 v31 v32 v33 v34 v35 v36 v37 (nI qn104)), (v37, .inl (cA 0, 100, .inl fn105))]) hP hD hS hA [2, 3] (by decide) rfl
            refine va_callv (va_runV (As := [.int 47]) (rest := []) ⟨hx, hb, hml, hown, hts⟩ (r_put l D cA sa w0 ed nb qn104 v0 v1 v2 v3 v4 v9 v13 v27 v28 v29 v30 v31 v32 v33 v34 v35 v36 v37 0 g11 g12 g14 g15 g16 g17 g18 g19 g20 g21 g22 g23 g24 g26 g5 g6 g25 fn105 47 H.size (by omega)) (cwV 1 hts gX10_write_X10_put rfl rfl rfl (by decide +kernel) ⟨(Nat.le_of_ble_eq_true rfl), (Nat.le_of_ble_eq_true rfl)⟩) ⟨Wd.blind, va_recv hK hPc (ci := 11) (q0 := 0) rfl rfl, fun U hU hW => ⟨rfl, Wd.call hPc hDc hK hC hZ hS hFc U hU hW⟩⟩ rfl rfl hl.1 rfl (lv_room (Nat.le_of_ble_eq_true rfl)) dX10_write_92 ⟨(Nat.le_of_ble_eq_true rfl), (Nat.le_of_ble_eq_true rfl)⟩) hS (fun q _ h => hFc q h) hFc (fun u t H1 locs ht hvm hw hB hz1 hk1 hS => ?_)
            obtain ⟨qn107, fn108, hn109, hP1, hD1⟩ := hB
            rw [ht] at hP1
            obtain ⟨hP, hD⟩ := PDq.join (w := [(v27, .inl (cA 1, 10, .inr (.inl l27))), (v0, .inl (cA 0, 326, .inl fs)), (oX10 w0 v0 v1 v2 v3 v4 g5 g6 (nI ed) 0 v9 (nI nb) g11 g12 v13 g14 g15 g16 g17 g18 g19 g20 g21 g22 g23 g24 g25 g26 v27 v28 v29 v30 v31 v32 v33 v34 v35 v36 v37 (nI qn107)), (v37, .inl (cA 0, 100, .inl fn108))]) 2 hP hD [2, 3] [0, 1] rfl rfl (by decide) (by decide) hk1 hFc hP1 hD1 rfl
            generalize H1 = H at hP hS ⊢
            refine lv_aload_n hx hb dX10_write_95 rfl (lv_at hl 1 rfl) ?_
            refine lv_aload_n hx hb dX10_write_96 rfl (lv_at hl 1 rfl) ?_
            refine lv_iload_n hx hb dX10_write_97 rfl (lv_at hl 2 rfl) ?_
            refine lv_iconst (v := 0) hx hb dX10_write_98 (by decide) ?_
            obtain ⟨hPc, hDc, hFc⟩ := PDq.cut (wc := [(oX10 w0 v0 v1 v2 v3 v4 g5 g6 (nI ed) 0 v9 (nI nb) g11 g12 v13 g14 g15 g16 g17 g18 g19 g20 g21 g22 g23 g24 g25 g26 v27 v28 v29 v30 v31 v32 v33 v34 v35 v36 v37 (nI qn107)), (v0, .inl (cA 0, 326, .inl fs))]) hP hD hS hA [2, 1] (by decide) rfl
            refine va_calli (va_runV (As := [.int (nI kn3), .int 0]) (rest := [.ref w0]) ⟨hx, hb, hml, hown, hts⟩ (r_of l D cA sa w0 ed nb qn107 v0 v1 v2 v3 v4 v9 v13 v27 v28 v29 v30 v31 v32 v33 v34 v35 v36 v37 0 g11 g12 g14 g15 g16 g17 g18 g19 g20 g21 g22 g23 g24 g26 g5 g6 g25 fs kn3 0 H.size (by omega) (by omega)) (cwV 2 hts gX10_write_X10_of rfl rfl rfl (by decide +kernel) ⟨(Nat.le_of_ble_eq_true rfl), (Nat.le_of_ble_eq_true rfl)⟩) ⟨Wd.blind, va_recv hK hPc (ci := 11) (q0 := 0) rfl rfl, fun U hU hW => ⟨rfl, Wd.call hPc hDc hK hC hZ hS hFc U hU hW⟩⟩ rfl rfl hl.1 rfl (lv_room (Nat.le_of_ble_eq_true rfl)) dX10_write_99 ⟨(Nat.le_of_ble_eq_true rfl), (Nat.le_of_ble_eq_true rfl)⟩) hS (fun q _ h => hFc q h) hFc (fun rn110 u t H1 locs ht hvm hw hB hz1 hk1 hS => ?_)
            obtain ⟨hP1, hD1⟩ := hB
            rw [ht] at hP1
            obtain ⟨hP, hD⟩ := PDq.join (w := [(v27, .inl (cA 1, 10, .inr (.inl l27))), (v37, .inl (cA 0, 100, .inl fn108)), (oX10 w0 v0 v1 v2 v3 v4 g5 g6 (nI ed) 0 v9 (nI nb) g11 g12 v13 g14 g15 g16 g17 g18 g19 g20 g21 g22 g23 g24 g25 g26 v27 v28 v29 v30 v31 v32 v33 v34 v35 v36 v37 (nI qn107)), (v0, .inl (cA 0, 326, .inl fs))]) 2 hP hD [2, 1] [0, 3] rfl rfl (by decide) (by decide) hk1 hFc hP1 hD1 rfl
            generalize H1 = H at hP hS ⊢
            obtain rfl : rn110 = (fs (16 + 7 * kn3 + 0)) := hw
            obtain ⟨hPc, hDc, hFc⟩ := PDq.cut (wc := [(oX10 w0 v0 v1 v2 v3 v4 g5 g6 (nI ed) 0 v9 (nI nb) g11 g12 v13 g14 g15 g16 g17 g18 g19 g20 g21 g22 g23 g24 g25 g26 v27 v28 v29 v30 v31 v32 v33 v34 v35 v36 v37 (nI qn107)), (v37, .inl (cA 0, 100, .inl fn108))]) hP hD hS hA [2, 1] (by decide) rfl
            refine va_callv (va_runV (As := [.int (fs (16 + 7 * kn3 + 0))]) (rest := []) ⟨hx, hb, hml, hown, hts⟩ (r_putNumber l D cA sa w0 ed nb qn107 v0 v1 v2 v3 v4 v9 v13 v27 v28 v29 v30 v31 v32 v33 v34 v35 v36 v37 0 g11 g12 g14 g15 g16 g17 g18 g19 g20 g21 g22 g23 g24 g26 g5 g6 g25 fn108 (fs (16 + 7 * kn3 + 0)) H.size (by omega)) (cwV 1 hts gX10_write_X10_putNumber rfl rfl rfl (by decide +kernel) ⟨(Nat.le_of_ble_eq_true rfl), (Nat.le_of_ble_eq_true rfl)⟩) ⟨Wd.blind, va_recv hK hPc (ci := 11) (q0 := 0) rfl rfl, fun U hU hW => ⟨rfl, Wd.call hPc hDc hK hC hZ hS hFc U hU hW⟩⟩ rfl rfl hl.1 rfl (lv_room (Nat.le_of_ble_eq_true rfl)) dX10_write_102 ⟨(Nat.le_of_ble_eq_true rfl), (Nat.le_of_ble_eq_true rfl)⟩) hS (fun q _ h => hFc q h) hFc (fun u t H1 locs ht hvm hw hB hz1 hk1 hS => ?_)
            obtain ⟨qn111, fn112, hn113, hP1, hD1⟩ := hB
            rw [ht] at hP1
            obtain ⟨hP, hD⟩ := PDq.join (w := [(v27, .inl (cA 1, 10, .inr (.inl l27))), (v0, .inl (cA 0, 326, .inl fs)), (oX10 w0 v0 v1 v2 v3 v4 g5 g6 (nI ed) 0 v9 (nI nb) g11 g12 v13 g14 g15 g16 g17 g18 g19 g20 g21 g22 g23 g24 g25 g26 v27 v28 v29 v30 v31 v32 v33 v34 v35 v36 v37 (nI qn111)), (v37, .inl (cA 0, 100, .inl fn112))]) 2 hP hD [2, 1] [0, 3] rfl rfl (by decide) (by decide) hk1 hFc hP1 hD1 rfl
            generalize H1 = H at hP hS ⊢
            refine lv_aload_n hx hb dX10_write_105 rfl (lv_at hl 1 rfl) ?_
            refine lv_iload_n hx hb dX10_write_106 rfl (lv_at hl 2 rfl) ?_
            refine lv_iconst (v := 2) hx hb dX10_write_107 (by decide) ?_
            obtain ⟨hPc, hDc, hFc⟩ := PDq.cut (wc := [(oX10 w0 v0 v1 v2 v3 v4 g5 g6 (nI ed) 0 v9 (nI nb) g11 g12 v13 g14 g15 g16 g17 g18 g19 g20 g21 g22 g23 g24 g25 g26 v27 v28 v29 v30 v31 v32 v33 v34 v35 v36 v37 (nI qn111)), (v0, .inl (cA 0, 326, .inl fs))]) hP hD hS hA [2, 1] (by decide) rfl
            refine va_calli (va_runV (As := [.int (nI kn3), .int 2]) (rest := []) ⟨hx, hb, hml, hown, hts⟩ (r_of l D cA sa w0 ed nb qn111 v0 v1 v2 v3 v4 v9 v13 v27 v28 v29 v30 v31 v32 v33 v34 v35 v36 v37 0 g11 g12 g14 g15 g16 g17 g18 g19 g20 g21 g22 g23 g24 g26 g5 g6 g25 fs kn3 2 H.size (by omega) (by omega)) (cwV 2 hts gX10_write_X10_of rfl rfl rfl (by decide +kernel) ⟨(Nat.le_of_ble_eq_true rfl), (Nat.le_of_ble_eq_true rfl)⟩) ⟨Wd.blind, va_recv hK hPc (ci := 11) (q0 := 0) rfl rfl, fun U hU hW => ⟨rfl, Wd.call hPc hDc hK hC hZ hS hFc U hU hW⟩⟩ rfl rfl hl.1 rfl (lv_room (Nat.le_of_ble_eq_true rfl)) dX10_write_108 ⟨(Nat.le_of_ble_eq_true rfl), (Nat.le_of_ble_eq_true rfl)⟩) hS (fun q _ h => hFc q h) hFc (fun rn114 u t H1 locs ht hvm hw hB hz1 hk1 hS => ?_)
            obtain ⟨hP1, hD1⟩ := hB
            rw [ht] at hP1
            obtain ⟨hP, hD⟩ := PDq.join (w := [(v27, .inl (cA 1, 10, .inr (.inl l27))), (v37, .inl (cA 0, 100, .inl fn112)), (oX10 w0 v0 v1 v2 v3 v4 g5 g6 (nI ed) 0 v9 (nI nb) g11 g12 v13 g14 g15 g16 g17 g18 g19 g20 g21 g22 g23 g24 g25 g26 v27 v28 v29 v30 v31 v32 v33 v34 v35 v36 v37 (nI qn111)), (v0, .inl (cA 0, 326, .inl fs))]) 2 hP hD [2, 1] [0, 3] rfl rfl (by decide) (by decide) hk1 hFc hP1 hD1 rfl
            generalize H1 = H at hP hS ⊢
            obtain rfl : rn114 = (fs (16 + 7 * kn3 + 2)) := hw
            refine lv_iconst (v := 1) hx hb dX10_write_111 (by decide) ?_
            refine lv_icmp_ne (tgt := 132) hx hb dX10_write_112 (by decide) (fun c115 => ?_) (fun c115 => ?_)
            · skip
              refine lv_aload_n hx hb dX10_write_132 rfl (lv_at hl 1 rfl) ?_
              refine lv_iload_n hx hb dX10_write_133 rfl (lv_at hl 2 rfl) ?_
              refine lv_iconst (v := 2) hx hb dX10_write_134 (by decide) ?_
              obtain ⟨hPc, hDc, hFc⟩ := PDq.cut (wc := [(oX10 w0 v0 v1 v2 v3 v4 g5 g6 (nI ed) 0 v9 (nI nb) g11 g12 v13 g14 g15 g16 g17 g18 g19 g20 g21 g22 g23 g24 g25 g26 v27 v28 v29 v30 v31 v32 v33 v34 v35 v36 v37 (nI qn111)), (v0, .inl (cA 0, 326, .inl fs))]) hP hD hS hA [2, 3] (by decide) rfl
              refine va_calli (va_runV (As := [.int (nI kn3), .int 2]) (rest := []) ⟨hx, hb, hml, hown, hts⟩ (r_of l D cA sa w0 ed nb qn111 v0 v1 v2 v3 v4 v9 v13 v27 v28 v29 v30 v31 v32 v33 v34 v35 v36 v37 0 g11 g12 g14 g15 g16 g17 g18 g19 g20 g21 g22 g23 g24 g26 g5 g6 g25 fs kn3 2 H.size (by omega) (by omega)) (cwV 2 hts gX10_write_X10_of rfl rfl rfl (by decide +kernel) ⟨(Nat.le_of_ble_eq_true rfl), (Nat.le_of_ble_eq_true rfl)⟩) ⟨Wd.blind, va_recv hK hPc (ci := 11) (q0 := 0) rfl rfl, fun U hU hW => ⟨rfl, Wd.call hPc hDc hK hC hZ hS hFc U hU hW⟩⟩ rfl rfl hl.1 rfl (lv_room (Nat.le_of_ble_eq_true rfl)) dX10_write_135 ⟨(Nat.le_of_ble_eq_true rfl), (Nat.le_of_ble_eq_true rfl)⟩) hS (fun q _ h => hFc q h) hFc (fun rn116 u t H1 locs ht hvm hw hB hz1 hk1 hS => ?_)
              obtain ⟨hP1, hD1⟩ := hB
              rw [ht] at hP1
              obtain ⟨hP, hD⟩ := PDq.join (w := [(v27, .inl (cA 1, 10, .inr (.inl l27))), (v37, .inl (cA 0, 100, .inl fn112)), (oX10 w0 v0 v1 v2 v3 v4 g5 g6 (nI ed) 0 v9 (nI nb) g11 g12 v13 g14 g15 g16 g17 g18 g19 g20 g21 g22 g23 g24 g25 g26 v27 v28 v29 v30 v31 v32 v33 v34 v35 v36 v37 (nI qn111)), (v0, .inl (cA 0, 326, .inl fs))]) 2 hP hD [2, 3] [0, 1] rfl rfl (by decide) (by decide) hk1 hFc hP1 hD1 rfl
              generalize H1 = H at hP hS ⊢
              obtain rfl : rn116 = (fs (16 + 7 * kn3 + 2)) := hw
              refine lv_iconst (v := 2) hx hb dX10_write_138 (by decide) ?_
              refine lv_icmp_ne (tgt := 159) hx hb dX10_write_139 (by decide) (fun c117 => ?_) (fun c117 => ?_)
              · skip
                refine lv_aload_n hx hb dX10_write_159 rfl (lv_at hl 1 rfl) ?_
                refine va_get (D := D) (ci := 11) (v := .int (nI qn111)) (C := RX10) (T := TX10) (N := 39) hx hb hts inX10 hown hK hP 2 rfl rfl 38 (by decide) (hts (.fieldLink RX10 412 "EscrowDeskModel" "outputLength" "I") (by decide +kernel)) (fun _ h9 => h9) rfl dX10_write_160 ?_
                obtain ⟨hP9, hD9⟩ := PDq.sub (ws' := [(oX10 w0 v0 v1 v2 v3 v4 g5 g6 (nI ed) 0 v9 (nI nb) g11 g12 v13 g14 g15 g16 g17 g18 g19 g20 g21 g22 g23 g24 g25 g26 v27 v28 v29 v30 v31 v32 v33 v34 v35 v36 v37 (nI qn111)), (v0, .inl (cA 0, 326, .inl fs)), (v37, .inl (cA 0, 100, .inl fn112)), (v27, .inl (cA 1, 10, .inr (.inl l27)))]) hP hD [2, 3, 1, 0] (by decide) rfl
                refine W.widen (k := 0) (n := 0) (Nat.le_of_ble_eq_true rfl) (Nat.le_of_ble_eq_true rfl) ?_
                exact (W.iret (v := (nI qn111)) hx hb hr (fun t ht hW => ⟨⟨(nI qn111), (), rfl, trivial, 0, qn111, fn112, (by omega), by rw [ht]; exact hP9, hD9⟩, hS.F ht⟩) hS.2.2 dX10_write_163)
              · skip
                refine lv_aload_n hx hb dX10_write_142 rfl (lv_at hl 1 rfl) ?_
                refine va_ldcwS hx hb hown (hC.str 32 rfl) dX10_write_143 ?_
                obtain ⟨hPc, hDc, hFc⟩ := PDq.cut (wc := [(oX10 w0 v0 v1 v2 v3 v4 g5 g6 (nI ed) 0 v9 (nI nb) g11 g12 v13 g14 g15 g16 g17 g18 g19 g20 g21 g22 g23 g24 g25 g26 v27 v28 v29 v30 v31 v32 v33 v34 v35 v36 v37 (nI qn111)), (v37, .inl (cA 0, 100, .inl fn112))]) hP hD hS hA [2, 1] (by decide) rfl
                refine va_callv (va_runV (As := [.ref (sa 32)]) (rest := []) ⟨hx, hb, hml, hown, hts⟩ (r_putText l D cA sa w0 ed nb qn111 v0 v1 v2 v3 v4 v9 v13 v27 v28 v29 v30 v31 v32 v33 v34 v35 v36 v37 0 g11 g12 g14 g15 g16 g17 g18 g19 g20 g21 g22 g23 g24 g26 g5 g6 g25 fn112 32 ([32, 102, 114, 111, 122, 101, 110, 32]) H.size (by decide +kernel) (by simp only [List.length_cons, List.length_nil]; omega)) (cwV 1 hts gX10_write_X10_putText rfl rfl rfl (by decide +kernel) ⟨(Nat.le_of_ble_eq_true rfl), (Nat.le_of_ble_eq_true rfl)⟩) ⟨Wd.blind, va_recv hK hPc (ci := 11) (q0 := 0) rfl rfl, fun U hU hW => ⟨rfl, Wd.call hPc hDc hK hC hZ hS hFc U hU hW⟩⟩ rfl rfl hl.1 rfl (lv_room (Nat.le_of_ble_eq_true rfl)) dX10_write_146 ⟨(Nat.le_of_ble_eq_true rfl), (Nat.le_of_ble_eq_true rfl)⟩) hS (fun q _ h => hFc q h) hFc (fun u t H1 locs ht hvm hw hB hz1 hk1 hS => ?_)
                obtain ⟨qn118, fn119, hn120, hP1, hD1⟩ := hB
                rw [ht] at hP1
                obtain ⟨hP, hD⟩ := PDq.join (w := [(v27, .inl (cA 1, 10, .inr (.inl l27))), (v0, .inl (cA 0, 326, .inl fs)), (oX10 w0 v0 v1 v2 v3 v4 g5 g6 (nI ed) 0 v9 (nI nb) g11 g12 v13 g14 g15 g16 g17 g18 g19 g20 g21 g22 g23 g24 g25 g26 v27 v28 v29 v30 v31 v32 v33 v34 v35 v36 v37 (nI qn118)), (v37, .inl (cA 0, 100, .inl fn119))]) 2 hP hD [2, 1] [0, 3] rfl rfl (by decide) (by decide) hk1 hFc hP1 hD1 rfl
                generalize H1 = H at hP hS ⊢
                have hn121 : ([32, 102, 114, 111, 122, 101, 110, 32] : List Int32).length = 8 := rfl
                refine lv_aload_n hx hb dX10_write_149 rfl (lv_at hl 1 rfl) ?_
                refine lv_aload_n hx hb dX10_write_150 rfl (lv_at hl 1 rfl) ?_
                refine lv_iload_n hx hb dX10_write_151 rfl (lv_at hl 2 rfl) ?_
                refine lv_iconst (v := 3) hx hb dX10_write_152 (by decide) ?_
                obtain ⟨hPc, hDc, hFc⟩ := PDq.cut (wc := [(oX10 w0 v0 v1 v2 v3 v4 g5 g6 (nI ed) 0 v9 (nI nb) g11 g12 v13 g14 g15 g16 g17 g18 g19 g20 g21 g22 g23 g24 g25 g26 v27 v28 v29 v30 v31 v32 v33 v34 v35 v36 v37 (nI qn118)), (v0, .inl (cA 0, 326, .inl fs))]) hP hD hS hA [2, 1] (by decide) rfl
                refine va_calli (va_runV (As := [.int (nI kn3), .int 3]) (rest := [.ref w0]) ⟨hx, hb, hml, hown, hts⟩ (r_of l D cA sa w0 ed nb qn118 v0 v1 v2 v3 v4 v9 v13 v27 v28 v29 v30 v31 v32 v33 v34 v35 v36 v37 0 g11 g12 g14 g15 g16 g17 g18 g19 g20 g21 g22 g23 g24 g26 g5 g6 g25 fs kn3 3 H.size (by omega) (by omega)) (cwV 2 hts gX10_write_X10_of rfl rfl rfl (by decide +kernel) ⟨(Nat.le_of_ble_eq_true rfl), (Nat.le_of_ble_eq_true rfl)⟩) ⟨Wd.blind, va_recv hK hPc (ci := 11) (q0 := 0) rfl rfl, fun U hU hW => ⟨rfl, Wd.call hPc hDc hK hC hZ hS hFc U hU hW⟩⟩ rfl rfl hl.1 rfl (lv_room (Nat.le_of_ble_eq_true rfl)) dX10_write_153 ⟨(Nat.le_of_ble_eq_true rfl), (Nat.le_of_ble_eq_true rfl)⟩) hS (fun q _ h => hFc q h) hFc (fun rn122 u t H1 locs ht hvm hw hB hz1 hk1 hS => ?_)
                obtain ⟨hP1, hD1⟩ := hB
                rw [ht] at hP1
                obtain ⟨hP, hD⟩ := PDq.join (w := [(v27, .inl (cA 1, 10, .inr (.inl l27))), (v37, .inl (cA 0, 100, .inl fn119)), (oX10 w0 v0 v1 v2 v3 v4 g5 g6 (nI ed) 0 v9 (nI nb) g11 g12 v13 g14 g15 g16 g17 g18 g19 g20 g21 g22 g23 g24 g25 g26 v27 v28 v29 v30 v31 v32 v33 v34 v35 v36 v37 (nI qn118)), (v0, .inl (cA 0, 326, .inl fs))]) 2 hP hD [2, 1] [0, 3] rfl rfl (by decide) (by decide) hk1 hFc hP1 hD1 rfl
                generalize H1 = H at hP hS ⊢
                obtain rfl : rn122 = (fs (16 + 7 * kn3 + 3)) := hw
                obtain ⟨hPc, hDc, hFc⟩ := PDq.cut (wc := [(oX10 w0 v0 v1 v2 v3 v4 g5 g6 (nI ed) 0 v9 (nI nb) g11 g12 v13 g14 g15 g16 g17 g18 g19 g20 g21 g22 g23 g24 g25 g26 v27 v28 v29 v30 v31 v32 v33 v34 v35 v36 v37 (nI qn118)), (v37, .inl (cA 0, 100, .inl fn119))]) hP hD hS hA [2, 1] (by decide) rfl
                refine va_callv (va_runV (As := [.int (fs (16 + 7 * kn3 + 3))]) (rest := []) ⟨hx, hb, hml, hown, hts⟩ (r_putNumber l D cA sa w0 ed nb qn118 v0 v1 v2 v3 v4 v9 v13 v27 v28 v29 v30 v31 v32 v33 v34 v35 v36 v37 0 g11 g12 g14 g15 g16 g17 g18 g19 g20 g21 g22 g23 g24 g26 g5 g6 g25 fn119 (fs (16 + 7 * kn3 + 3)) H.size (by omega)) (cwV 1 hts gX10_write_X10_putNumber rfl rfl rfl (by decide +kernel) ⟨(Nat.le_of_ble_eq_true rfl), (Nat.le_of_ble_eq_true rfl)⟩) ⟨Wd.blind, va_recv hK hPc (ci := 11) (q0 := 0) rfl rfl, fun U hU hW => ⟨rfl, Wd.call hPc hDc hK hC hZ hS hFc U hU hW⟩⟩ rfl rfl hl.1 rfl (lv_room (Nat.le_of_ble_eq_true rfl)) dX10_write_156 ⟨(Nat.le_of_ble_eq_true rfl), (Nat.le_of_ble_eq_true rfl)⟩) hS (fun q _ h => hFc q h) hFc (fun u t H1 locs ht hvm hw hB hz1 hk1 hS => ?_)
                obtain ⟨qn123, fn124, hn125, hP1, hD1⟩ := hB
                rw [ht] at hP1
                obtain ⟨hP, hD⟩ := PDq.join (w := [(v27, .inl (cA 1, 10, .inr (.inl l27))), (v0, .inl (cA 0, 326, .inl fs)), (oX10 w0 v0 v1 v2 v3 v4 g5 g6 (nI ed) 0 v9 (nI nb) g11 g12 v13 g14 g15 g16 g17 g18 g19 g20 g21 g22 g23 g24 g25 g26 v27 v28 v29 v30 v31 v32 v33 v34 v35 v36 v37 (nI qn123)), (v37, .inl (cA 0, 100, .inl fn124))]) 2 hP hD [2, 1] [0, 3] rfl rfl (by decide) (by decide) hk1 hFc hP1 hD1 rfl
                generalize H1 = H at hP hS ⊢
                refine lv_aload_n hx hb dX10_write_159 rfl (lv_at hl 1 rfl) ?_
                refine va_get (D := D) (ci := 11) (v := .int (nI qn123)) (C := RX10) (T := TX10) (N := 39) hx hb hts inX10 hown hK hP 2 rfl rfl 38 (by decide) (hts (.fieldLink RX10 412 "EscrowDeskModel" "outputLength" "I") (by decide +kernel)) (fun _ h9 => h9) rfl dX10_write_160 ?_
                obtain ⟨hP9, hD9⟩ := PDq.sub (ws' := [(oX10 w0 v0 v1 v2 v3 v4 g5 g6 (nI ed) 0 v9 (nI nb) g11 g12 v13 g14 g15 g16 g17 g18 g19 g20 g21 g22 g23 g24 g25 g26 v27 v28 v29 v30 v31 v32 v33 v34 v35 v36 v37 (nI qn123)), (v0, .inl (cA 0, 326, .inl fs)), (v37, .inl (cA 0, 100, .inl fn124)), (v27, .inl (cA 1, 10, .inr (.inl l27)))]) hP hD [2, 1, 3, 0] (by decide) rfl
                refine W.widen (k := 0) (n := 0) (Nat.le_of_ble_eq_true rfl) (Nat.le_of_ble_eq_true rfl) ?_
                exact (W.iret (v := (nI qn123)) hx hb hr (fun t ht hW => ⟨⟨(nI qn123), (), rfl, trivial, 0, qn123, fn124, (by omega), by rw [ht]; exact hP9, hD9⟩, hS.F ht⟩) hS.2.2 dX10_write_163)
            · skip
              refine lv_aload_n hx hb dX10_write_115 rfl (lv_at hl 1 rfl) ?_
              refine va_ldcwS hx hb hown (hC.str 31 rfl) dX10_write_116 ?_
              obtain ⟨hPc, hDc, hFc⟩ := PDq.cut (wc := [(oX10 w0 v0 v1 v2 v3 v4 g5 g6 (nI ed) 0 v9 (nI nb) g11 g12 v13 g14 g15 g16 g17 g18 g19 g20 g21 g22 g23 g24 g25 g26 v27 v28 v29 v30 v31 v32 v33 v34 v35 v36 v37 (nI qn111)), (v37, .inl (cA 0, 100, .inl fn112))]) hP hD hS hA [2, 1] (by decide) rfl
              refine va_callv (va_runV (As := [.ref (sa 31)]) (rest := []) ⟨hx, hb, hml, hown, hts⟩ (r_putText l D cA sa w0 ed nb qn111 v0 v1 v2 v3 v4 v9 v13 v27 v28 v29 v30 v31 v32 v33 v34 v35 v36 v37 0 g11 g12 g14 g15 g16 g17 g18 g19 g20 g21 g22 g23 g24 g26 g5 g6 g25 fn112 31 ([32, 115, 105, 110, 99, 101, 32]) H.size (by decide +kernel) (by simp only [List.length_cons, List.length_nil]; omega)) (cwV 1 hts gX10_write_X10_putText rfl rfl rfl (by decide +kernel) ⟨(Nat.le_of_ble_eq_true rfl), (Nat.le_of_ble_eq_true rfl)⟩) ⟨Wd.blind, va_recv hK hPc (ci := 11) (q0 := 0) rfl rfl, fun U hU hW => ⟨rfl, Wd.call hPc hDc hK hC hZ hS hFc U hU hW⟩⟩ rfl rfl hl.1 rfl (lv_room (Nat.le_of_ble_eq_true rfl)) dX10_write_119 ⟨(Nat.le_of_ble_eq_true rfl), (Nat.le_of_ble_eq_true rfl)⟩) hS (fun q _ h => hFc q h) hFc (fun u t H1 locs ht hvm hw hB hz1 hk1 hS => ?_)
              obtain ⟨qn126, fn127, hn128, hP1, hD1⟩ := hB
              rw [ht] at hP1
              obtain ⟨hP, hD⟩ := PDq.join (w := [(v27, .inl (cA 1, 10, .inr (.inl l27))), (v0, .inl (cA 0, 326, .inl fs)), (oX10 w0 v0 v1 v2 v3 v4 g5 g6 (nI ed) 0 v9 (nI nb) g11 g12 v13 g14 g15 g16 g17 g18 g19 g20 g21 g22 g23 g24 g25 g26 v27 v28 v29 v30 v31 v32 v33 v34 v35 v36 v37 (nI qn126)), (v37, .inl (cA 0, 100, .inl fn127))]) 2 hP hD [2, 1] [0, 3] rfl rfl (by decide) (by decide) hk1 hFc hP1 hD1 rfl
              generalize H1 = H at hP hS ⊢
              have hn129 : ([32, 115, 105, 110, 99, 101, 32] : List Int32).length = 7 := rfl
              refine lv_aload_n hx hb dX10_write_122 rfl (lv_at hl 1 rfl) ?_
              refine lv_aload_n hx hb dX10_write_123 rfl (lv_at hl 1 rfl) ?_
              refine lv_iload_n hx hb dX10_write_124 rfl (lv_at hl 2 rfl) ?_
              refine lv_iconst (v := 4) hx hb dX10_write_125 (by decide) ?_
              obtain ⟨hPc, hDc, hFc⟩ := PDq.cut (wc := [(oX10 w0 v0 v1 v2 v3 v4 g5 g6 (nI ed) 0 v9 (nI nb) g11 g12 v13 g14 g15 g16 g17 g18 g19 g20 g21 g22 g23 g24 g25 g26 v27 v28 v29 v30 v31 v32 v33 v34 v35 v36 v37 (nI qn126)), (v0, .inl (cA 0, 326, .inl fs))]) hP hD hS hA [2, 1] (by decide) rfl
              refine va_calli (va_runV (As := [.int (nI kn3), .int 4]) (rest := [.ref w0]) ⟨hx, hb, hml, hown, hts⟩ (r_of l D cA sa w0 ed nb qn126 v0 v1 v2 v3 v4 v9 v13 v27 v28 v29 v30 v31 v32 v33 v34 v35 v36 v37 0 g11 g12 g14 g15 g16 g17 g18 g19 g20 g21 g22 g23 g24 g26 g5 g6 g25 fs kn3 4 H.size (by omega) (by omega)) (cwV 2 hts gX10_write_X10_of rfl rfl rfl (by decide +kernel) ⟨(Nat.le_of_ble_eq_true rfl), (Nat.le_of_ble_eq_true rfl)⟩) ⟨Wd.blind, va_recv hK hPc (ci := 11) (q0 := 0) rfl rfl, fun U hU hW => ⟨rfl, Wd.call hPc hDc hK hC hZ hS hFc U hU hW⟩⟩ rfl rfl hl.1 rfl (lv_room (Nat.le_of_ble_eq_true rfl)) dX10_write_126 ⟨(Nat.le_of_ble_eq_true rfl), (Nat.le_of_ble_eq_true rfl)⟩) hS (fun q _ h => hFc q h) hFc (fun rn130 u t H1 locs ht hvm hw hB hz1 hk1 hS => ?_)
              obtain ⟨hP1, hD1⟩ := hB
              rw [ht] at hP1
              obtain ⟨hP, hD⟩ := PDq.join (w := [(v27, .inl (cA 1, 10, .inr (.inl l27))), (v37, .inl (cA 0, 100, .inl fn127)), (oX10 w0 v0 v1 v2 v3 v4 g5 g6 (nI ed) 0 v9 (nI nb) g11 g12 v13 g14 g15 g16 g17 g18 g19 g20 g21 g22 g23 g24 g25 g26 v27 v28 v29 v30 v31 v32 v33 v34 v35 v36 v37 (nI qn126)), (v0, .inl (cA 0, 326, .inl fs))]) 2 hP hD [2, 1] [0, 3] rfl rfl (by decide) (by decide) hk1 hFc hP1 hD1 rfl
              generalize H1 = H at hP hS ⊢
              obtain rfl : rn130 = (fs (16 + 7 * kn3 + 4)) := hw
              obtain ⟨hPc, hDc, hFc⟩ := PDq.cut (wc := [(oX10 w0 v0 v1 v2 v3 v4 g5 g6 (nI ed) 0 v9 (nI nb) g11 g12 v13 g14 g15 g16 g17 g18 g19 g20 g21 g22 g23 g24 g25 g26 v27 v28 v29 v30 v31 v32 v33 v34 v35 v36 v37 (nI qn126)), (v37, .inl (cA 0, 100, .inl fn127))]) hP hD hS hA [2, 1] (by decide) rfl
              refine va_callv (va_runV (As := [.int (fs (16 + 7 * kn3 + 4))]) (rest := []) ⟨hx, hb, hml, hown, hts⟩ (r_putNumber l D cA sa w0 ed nb qn126 v0 v1 v2 v3 v4 v9 v13 v27 v28 v29 v30 v31 v32 v33 v34 v35 v36 v37 0 g11 g12 g14 g15 g16 g17 g18 g19 g20 g21 g22 g23 g24 g26 g5 g6 g25 fn127 (fs (16 + 7 * kn3 + 4)) H.size (by omega)) (cwV 1 hts gX10_write_X10_putNumber rfl rfl rfl (by decide +kernel) ⟨(Nat.le_of_ble_eq_true rfl), (Nat.le_of_ble_eq_true rfl)⟩) ⟨Wd.blind, va_recv hK hPc (ci := 11) (q0 := 0) rfl rfl, fun U hU hW => ⟨rfl, Wd.call hPc hDc hK hC hZ hS hFc U hU hW⟩⟩ rfl rfl hl.1 rfl (lv_room (Nat.le_of_ble_eq_true rfl)) dX10_write_129 ⟨(Nat.le_of_ble_eq_true rfl), (Nat.le_of_ble_eq_true rfl)⟩) hS (fun q _ h => hFc q h) hFc (fun u t H1 locs ht hvm hw hB hz1 hk1 hS => ?_)
              obtain ⟨qn131, fn132, hn133, hP1, hD1⟩ := hB
              rw [ht] at hP1
              obtain ⟨hP, hD⟩ := PDq.join (w := [(v27, .inl (cA 1, 10, .inr (.inl l27))), (v0, .inl (cA 0, 326, .inl fs)), (oX10 w0 v0 v1 v2 v3 v4 g5 g6 (nI ed) 0 v9 (nI nb) g11 g12 v13 g14 g15 g16 g17 g18 g19 g20 g21 g22 g23 g24 g25 g26 v27 v28 v29 v30 v31 v32 v33 v34 v35 v36 v37 (nI qn131)), (v37, .inl (cA 0, 100, .inl fn132))]) 2 hP hD [2, 1] [0, 3] rfl rfl (by decide) (by decide) hk1 hFc hP1 hD1 rfl
              generalize H1 = H at hP hS ⊢
              refine lv_aload_n hx hb dX10_write_132 rfl (lv_at hl 1 rfl) ?_
              refine lv_iload_n hx hb dX10_write_133 rfl (lv_at hl 2 rfl) ?_
              refine lv_iconst (v := 2) hx hb dX10_write_134 (by decide) ?_
              obtain ⟨hPc, hDc, hFc⟩ := PDq.cut (wc := [(oX10 w0 v0 v1 v2 v3 v4 g5 g6 (nI ed) 0 v9 (nI nb) g11 g12 v13 g14 g15 g16 g17 g18 g19 g20 g21 g22 g23 g24 g25 g26 v27 v28 v29 v30 v31 v32 v33 v34 v35 v36 v37 (nI qn131)), (v0, .inl (cA 0, 326, .inl fs))]) hP hD hS hA [2, 1] (by decide) rfl
              refine va_calli (va_runV (As := [.int (nI kn3), .int 2]) (rest := []) ⟨hx, hb, hml, hown, hts⟩ (r_of l D cA sa w0 ed nb qn131 v0 v1 v2 v3 v4 v9 v13 v27 v28 v29 v30 v31 v32 v33 v34 v35 v36 v37 0 g11 g12 g14 g15 g16 g17 g18 g19 g20 g21 g22 g23 g24 g26 g5 g6 g25 fs kn3 2 H.size (by omega) (by omega)) (cwV 2 hts gX10_write_X10_of rfl rfl rfl (by decide +kernel) ⟨(Nat.le_of_ble_eq_true rfl), (Nat.le_of_ble_eq_true rfl)⟩) ⟨Wd.blind, va_recv hK hPc (ci := 11) (q0 := 0) rfl rfl, fun U hU hW => ⟨rfl, Wd.call hPc hDc hK hC hZ hS hFc U hU hW⟩⟩ rfl rfl hl.1 rfl (lv_room (Nat.le_of_ble_eq_true rfl)) dX10_write_135 ⟨(Nat.le_of_ble_eq_true rfl), (Nat.le_of_ble_eq_true rfl)⟩) hS (fun q _ h => hFc q h) hFc (fun rn134 u t H1 locs ht hvm hw hB hz1 hk1 hS => ?_)
              obtain ⟨hP1, hD1⟩ := hB
              rw [ht] at hP1
              obtain ⟨hP, hD⟩ := PDq.join (w := [(v27, .inl (cA 1, 10, .inr (.inl l27))), (v37, .inl (cA 0, 100, .inl fn132)), (oX10 w0 v0 v1 v2 v3 v4 g5 g6 (nI ed) 0 v9 (nI nb) g11 g12 v13 g14 g15 g16 g17 g18 g19 g20 g21 g22 g23 g24 g25 g26 v27 v28 v29 v30 v31 v32 v33 v34 v35 v36 v37 (nI qn131)), (v0, .inl (cA 0, 326, .inl fs))]) 2 hP hD [2, 1] [0, 3] rfl rfl (by decide) (by decide) hk1 hFc hP1 hD1 rfl
              generalize H1 = H at hP hS ⊢
              obtain rfl : rn134 = (fs (16 + 7 * kn3 + 2)) := hw
              refine lv_iconst (v := 2) hx hb dX10_write_138 (by decide) ?_
              refine lv_icmp_ne (tgt := 159) hx hb dX10_write_139 (by decide) (fun c135 => ?_) (fun c135 => ?_)
              · skip
                refine lv_aload_n hx hb dX10_write_159 rfl (lv_at hl 1 rfl) ?_
                refine va_get (D := D) (ci := 11) (v := .int (nI qn131)) (C := RX10) (T := TX10) (N := 39) hx hb hts inX10 hown hK hP 2 rfl rfl 38 (by decide) (hts (.fieldLink RX10 412 "EscrowDeskModel" "outputLength" "I") (by decide +kernel)) (fun _ h9 => h9) rfl dX10_write_160 ?_
                obtain ⟨hP9, hD9⟩ := PDq.sub (ws' := [(oX10 w0 v0 v1 v2 v3 v4 g5 g6 (nI ed) 0 v9 (nI nb) g11 g12 v13 g14 g15 g16 g17 g18 g19 g20 g21 g22 g23 g24 g25 g26 v27 v28 v29 v30 v31 v32 v33 v34 v35 v36 v37 (nI qn131)), (v0, .inl (cA 0, 326, .inl fs)), (v37, .inl (cA 0, 100, .inl fn132)), (v27, .inl (cA 1, 10, .inr (.inl l27)))]) hP hD [2, 3, 1, 0] (by decide) rfl
                refine W.widen (k := 0) (n := 0) (Nat.le_of_ble_eq_true rfl) (Nat.le_of_ble_eq_true rfl) ?_
                exact (W.iret (v := (nI qn131)) hx hb hr (fun t ht hW => ⟨⟨(nI qn131), (), rfl, trivial, 0, qn131, fn132, (by omega), by rw [ht]; exact hP9, hD9⟩, hS.F ht⟩) hS.2.2 dX10_write_163)
              · skip
                refine lv_aload_n hx hb dX10_write_142 rfl (lv_at hl 1 rfl) ?_
                refine va_ldcwS hx hb hown (hC.str 32 rfl) dX10_write_143 ?_
                obtain ⟨hPc, hDc, hFc⟩ := PDq.cut (wc := [(oX10 w0 v0 v1 v2 v3 v4 g5 g6 (nI ed) 0 v9 (nI nb) g11 g12 v13 g14 g15 g16 g17 g18 g19 g20 g21 g22 g23 g24 g25 g26 v27 v28 v29 v30 v31 v32 v33 v34 v35 v36 v37 (nI qn131)), (v37, .inl (cA 0, 100, .inl fn132))]) hP hD hS hA [2, 1] (by decide) rfl
                refine va_callv (va_runV (As := [.ref (sa 32)]) (rest := []) ⟨hx, hb, hml, hown, hts⟩ (r_putText l D cA sa w0 ed nb qn131 v0 v1 v2 v3 v4 v9 v13 v27 v28 v29 v30 v31 v32 v33 v34 v35 v36 v37 0 g11 g12 g14 g15 g16 g17 g18 g19 g20 g21 g22 g23 g24 g26 g5 g6 g25 fn132 32 ([32, 102, 114, 111, 122, 101, 110, 32]) H.size (by decide +kernel) (by simp only [List.length_cons, List.length_nil]; omega)) (cwV 1 hts gX10_write_X10_putText rfl rfl rfl (by decide +kernel) ⟨(Nat.le_of_ble_eq_true rfl), (Nat.le_of_ble_eq_true rfl)⟩) ⟨Wd.blind, va_recv hK hPc (ci := 11) (q0 := 0) rfl rfl, fun U hU hW => ⟨rfl, Wd.call hPc hDc hK hC hZ hS hFc U hU hW⟩⟩ rfl rfl hl.1 rfl (lv_room (Nat.le_of_ble_eq_true rfl)) dX10_write_146 ⟨(Nat.le_of_ble_eq_true rfl), (Nat.le_of_ble_eq_true rfl)⟩) hS (fun q _ h => hFc q h) hFc (fun u t H1 locs ht hvm hw hB hz1 hk1 hS => ?_)
                obtain ⟨qn136, fn137, hn138, hP1, hD1⟩ := hB
                rw [ht] at hP1
                obtain ⟨hP, hD⟩ := PDq.join (w := [(v27, .inl (cA 1, 10, .inr (.inl l27))), (v0, .inl (cA 0, 326, .inl fs)), (oX10 w0 v0 v1 v2 v3 v4 g5 g6 (nI ed) 0 v9 (nI nb) g11 g12 v13 g14 g15 g16 g17 g18 g19 g20 g21 g22 g23 g24 g25 g26 v27 v28 v29 v30 v31 v32 v33 v34 v35 v36 v37 (nI qn136)), (v37, .inl (cA 0, 100, .inl fn137))]) 2 hP hD [2, 1] [0, 3] rfl rfl (by decide) (by decide) hk1 hFc hP1 hD1 rfl
                generalize H1 = H at hP hS ⊢
                have hn139 : ([32, 102, 114, 111, 122, 101, 110, 32] : List Int32).length = 8 := rfl
                refine lv_aload_n hx hb dX10_write_149 rfl (lv_at hl 1 rfl) ?_
                refine lv_aload_n hx hb dX10_write_150 rfl (lv_at hl 1 rfl) ?_
                refine lv_iload_n hx hb dX10_write_151 rfl (lv_at hl 2 rfl) ?_
                refine lv_iconst (v := 3) hx hb dX10_write_152 (by decide) ?_
                obtain ⟨hPc, hDc, hFc⟩ := PDq.cut (wc := [(oX10 w0 v0 v1 v2 v3 v4 g5 g6 (nI ed) 0 v9 (nI nb) g11 g12 v13 g14 g15 g16 g17 g18 g19 g20 g21 g22 g23 g24 g25 g26 v27 v28 v29 v30 v31 v32 v33 v34 v35 v36 v37 (nI qn136)), (v0, .inl (cA 0, 326, .inl fs))]) hP hD hS hA [2, 1] (by decide) rfl
                refine va_calli (va_runV (As := [.int (nI kn3), .int 3]) (rest := [.ref w0]) ⟨hx, hb, hml, hown, hts⟩ (r_of l D cA sa w0 ed nb qn136 v0 v1 v2 v3 v4 v9 v13 v27 v28 v29 v30 v31 v32 v33 v34 v35 v36 v37 0 g11 g12 g14 g15 g16 g17 g18 g19 g20 g21 g22 g23 g24 g26 g5 g6 g25 fs kn3 3 H.size (by omega) (by omega)) (cwV 2 hts gX10_write_X10_of rfl rfl rfl (by decide +kernel) ⟨(Nat.le_of_ble_eq_true rfl), (Nat.le_of_ble_eq_true rfl)⟩) ⟨Wd.blind, va_recv hK hPc (ci := 11) (q0 := 0) rfl rfl, fun U hU hW => ⟨rfl, Wd.call hPc hDc hK hC hZ hS hFc U hU hW⟩⟩ rfl rfl hl.1 rfl (lv_room (Nat.le_of_ble_eq_true rfl)) dX10_write_153 ⟨(Nat.le_of_ble_eq_true rfl), (Nat.le_of_ble_eq_true rfl)⟩) hS (fun q _ h => hFc q h) hFc (fun rn140 u t H1 locs ht hvm hw hB hz1 hk1 hS => ?_)
                obtain ⟨hP1, hD1⟩ := hB
                rw [ht] at hP1
                obtain ⟨hP, hD⟩ := PDq.join (w := [(v27, .inl (cA 1, 10, .inr (.inl l27))), (v37, .inl (cA 0, 100, .inl fn137)), (oX10 w0 v0 v1 v2 v3 v4 g5 g6 (nI ed) 0 v9 (nI nb) g11 g12 v13 g14 g15 g16 g17 g18 g19 g20 g21 g22 g23 g24 g25 g26 v27 v28 v29 v30 v31 v32 v33 v34 v35 v36 v37 (nI qn136)), (v0, .inl (cA 0, 326, .inl fs))]) 2 hP hD [2, 1] [0, 3] rfl rfl (by decide) (by decide) hk1 hFc hP1 hD1 rfl
                generalize H1 = H at hP hS ⊢
                obtain rfl : rn140 = (fs (16 + 7 * kn3 + 3)) := hw
                obtain ⟨hPc, hDc, hFc⟩ := PDq.cut (wc := [(oX10 w0 v0 v1 v2 v3 v4 g5 g6 (nI ed) 0 v9 (nI nb) g11 g12 v13 g14 g15 g16 g17 g18 g19 g20 g21 g22 g23 g24 g25 g26 v27 v28 v29 v30 v31 v32 v33 v34 v35 v36 v37 (nI qn136)), (v37, .inl (cA 0, 100, .inl fn137))]) hP hD hS hA [2, 1] (by decide) rfl
                refine va_callv (va_runV (As := [.int (fs (16 + 7 * kn3 + 3))]) (rest := []) ⟨hx, hb, hml, hown, hts⟩ (r_putNumber l D cA sa w0 ed nb qn136 v0 v1 v2 v3 v4 v9 v13 v27 v28 v29 v30 v31 v32 v33 v34 v35 v36 v37 0 g11 g12 g14 g15 g16 g17 g18 g19 g20 g21 g22 g23 g24 g26 g5 g6 g25 fn137 (fs (16 + 7 * kn3 + 3)) H.size (by omega)) (cwV 1 hts gX10_write_X10_putNumber rfl rfl rfl (by decide +kernel) ⟨(Nat.le_of_ble_eq_true rfl), (Nat.le_of_ble_eq_true rfl)⟩) ⟨Wd.blind, va_recv hK hPc (ci := 11) (q0 := 0) rfl rfl, fun U hU hW => ⟨rfl, Wd.call hPc hDc hK hC hZ hS hFc U hU hW⟩⟩ rfl rfl hl.1 rfl (lv_room (Nat.le_of_ble_eq_true rfl)) dX10_write_156 ⟨(Nat.le_of_ble_eq_true rfl), (Nat.le_of_ble_eq_true rfl)⟩) hS (fun q _ h => hFc q h) hFc (fun u t H1 locs ht hvm hw hB hz1 hk1 hS => ?_)
                obtain ⟨qn141, fn142, hn143, hP1, hD1⟩ := hB
                rw [ht] at hP1
                obtain ⟨hP, hD⟩ := PDq.join (w := [(v27, .inl (cA 1, 10, .inr (.inl l27))), (v0, .inl (cA 0, 326, .inl fs)), (oX10 w0 v0 v1 v2 v3 v4 g5 g6 (nI ed) 0 v9 (nI nb) g11 g12 v13 g14 g15 g16 g17 g18 g19 g20 g21 g22 g23 g24 g25 g26 v27 v28 v29 v30 v31 v32 v33 v34 v35 v36 v37 (nI qn141)), (v37, .inl (cA 0, 100, .inl fn142))]) 2 hP hD [2, 1] [0, 3] rfl rfl (by decide) (by decide) hk1 hFc hP1 hD1 rfl
                generalize H1 = H at hP hS ⊢
                refine lv_aload_n hx hb dX10_write_159 rfl (lv_at hl 1 rfl) ?_
                refine va_get (D := D) (ci := 11) (v := .int (nI qn141)) (C := RX10) (T := TX10) (N := 39) hx hb hts inX10 hown hK hP 2 rfl rfl 38 (by decide) (hts (.fieldLink RX10 412 "EscrowDeskModel" "outputLength" "I") (by decide +kernel)) (fun _ h9 => h9) rfl dX10_write_160 ?_
                obtain ⟨hP9, hD9⟩ := PDq.sub (ws' := [(oX10 w0 v0 v1 v2 v3 v4 g5 g6 (nI ed) 0 v9 (nI nb) g11 g12 v13 g14 g15 g16 g17 g18 g19 g20 g21 g22 g23 g24 g25 g26 v27 v28 v29 v30 v31 v32 v33 v34 v35 v36 v37 (nI qn141)), (v0, .inl (cA 0, 326, .inl fs)), (v37, .inl (cA 0, 100, .inl fn142)), (v27, .inl (cA 1, 10, .inr (.inl l27)))]) hP hD [2, 1, 3, 0] (by decide) rfl
                refine W.widen (k := 0) (n := 0) (Nat.le_of_ble_eq_true rfl) (Nat.le_of_ble_eq_true rfl) ?_
                exact (W.iret (v := (nI qn141)) hx hb hr (fun t ht hW => ⟨⟨(nI qn141), (), rfl, trivial, 0, qn141, fn142, (by omega), by rw [ht]; exact hP9, hD9⟩, hS.F ht⟩) hS.2.2 dX10_write_163)
          by_cases hn144 : (fs (16 + 7 * kn3 + 2)) = 0
          · skip
            refine W.eq (g2 := F0 m 67 ls [.int 0, .ref w0]) (by rw [hn144]) ?_
            obtain ⟨hPc, hDc, hFc⟩ := PDq.cut (wc := []) hP hD hS hA [] (by decide) rfl
            refine va_callr (va_runS (As := [.int 0]) (rest := [.ref w0]) ⟨hx, hb, hml, hown, hts⟩ (r_stateWord0 l D cA sa  H.size) (va_cwS 1 hts gX10_write_X10_stateWord rfl rfl rfl (by decide +kernel) ⟨(Nat.le_of_ble_eq_true rfl), (Nat.le_of_ble_eq_true rfl)⟩) ⟨Wd.blind, fun U hU hW => ⟨rfl, Wd.call hPc hDc hK hC hZ hS hFc U hU hW⟩⟩ rfl rfl hl.1 rfl (lv_room (Nat.le_of_ble_eq_true rfl)) dX10_write_67 ⟨(Nat.le_of_ble_eq_true rfl), (Nat.le_of_ble_eq_true rfl)⟩) hS (fun q _ h => hFc q h) hFc (fun u ra t H1 locs ht hvm hw hB hz1 hk1 hS => ?_)
            obtain ⟨hra, hP1, hD1⟩ := hB
            obtain rfl := hra.symm
            rw [ht] at hP1
            obtain ⟨hP, hD⟩ := PDq.join (w := [(v27, .inl (cA 1, 10, .inr (.inl l27))), (v37, .inl (cA 0, 100, .inl fn97)), (oX10 w0 v0 v1 v2 v3 v4 g5 g6 (nI ed) 0 v9 (nI nb) g11 g12 v13 g14 g15 g16 g17 g18 g19 g20 g21 g22 g23 g24 g25 g26 v27 v28 v29 v30 v31 v32 v33 v34 v35 v36 v37 (nI qn96)), (v0, .inl (cA 0, 326, .inl fs))]) 4 hP hD [] [0, 1, 2, 3] rfl rfl (by decide) (by decide) hk1 hFc hP1 hD1 rfl
            generalize H1 = H at hP hS ⊢
            obtain ⟨hPc, hDc, hFc⟩ := PDq.cut (wc := [(oX10 w0 v0 v1 v2 v3 v4 g5 g6 (nI ed) 0 v9 (nI nb) g11 g12 v13 g14 g15 g16 g17 g18 g19 g20 g21 g22 g23 g24 g25 g26 v27 v28 v29 v30 v31 v32 v33 v34 v35 v36 v37 (nI qn96)), (v37, .inl (cA 0, 100, .inl fn97))]) hP hD hS hA [2, 1] (by decide) rfl
            refine va_callv (va_runV (As := [.ref (sa 25)]) (rest := []) ⟨hx, hb, hml, hown, hts⟩ (r_putText l D cA sa w0 ed nb qn96 v0 v1 v2 v3 v4 v9 v13 v27 v28 v29 v30 v31 v32 v33 v34 v35 v36 v37 0 g11 g12 g14 g15 g16 g17 g18 g19 g20 g21 g22 g23 g24 g26 g5 g6 g25 fn97 25 ([111, 112, 101, 110]) H.size (by decide +kernel) (by simp only [List.length_cons, List.length_nil]; omega)) (cwV 1 hts gX10_write_X10_putText rfl rfl rfl (by decide +kernel) ⟨(Nat.le_of_ble_eq_true rfl), (Nat.le_of_ble_eq_true rfl)⟩) ⟨Wd.blind, va_recv hK hPc (ci := 11) (q0 := 0) rfl rfl, fun U hU hW => ⟨rfl, Wd.call hPc hDc hK hC hZ hS hFc U hU hW⟩⟩ rfl rfl hl.1 rfl (lv_room (Nat.le_of_ble_eq_true rfl)) dX10_write_70 ⟨(Nat.le_of_ble_eq_true rfl), (Nat.le_of_ble_eq_true rfl)⟩) hS (fun q _ h => hFc q h) hFc (fun u t H1 locs ht hvm hw hB hz1 hk1 hS => ?_)
            obtain ⟨qn145, fn146, hn147, hP1, hD1⟩ := hB
            rw [ht] at hP1
            obtain ⟨hP, hD⟩ := PDq.join (w := [(v27, .inl (cA 1, 10, .inr (.inl l27))), (v0, .inl (cA 0, 326, .inl fs)), (oX10 w0 v0 v1 v2 v3 v4 g5 g6 (nI ed) 0 v9 (nI nb) g11 g12 v13 g14 g15 g16 g17 g18 g19 g20 g21 g22 g23 g24 g25 g26 v27 v28 v29 v30 v31 v32 v33 v34 v35 v36 v37 (nI qn145)), (v37, .inl (cA 0, 100, .inl fn146))]) 2 hP hD [2, 1] [0, 3] rfl rfl (by decide) (by decide) hk1 hFc hP1 hD1 rfl
            generalize H1 = H at hP hS ⊢
            have hn148 : ([111, 112, 101, 110] : List Int32).length = 4 := rfl
            obtain ⟨hP9, hD9⟩ := PDq.sub (ws' := [(v27, .inl (cA 1, 10, .inr (.inl l27))), (v37, .inl (cA 0, 100, .inl fn146)), (oX10 w0 v0 v1 v2 v3 v4 g5 g6 (nI ed) 0 v9 (nI nb) g11 g12 v13 g14 g15 g16 g17 g18 g19 g20 g21 g22 g23 g24 g25 g26 v27 v28 v29 v30 v31 v32 v33 v34 v35 v36 v37 (nI qn145)), (v0, .inl (cA 0, 326, .inl fs))]) hP hD [0, 3, 2, 1] (by decide) rfl
            exact meet3 fn146 qn145 H _ ls (by omega) hP9 hD9 hS (lv_sub hl [0, 1, 2] rfl)
          · skip
            by_cases hn149 : (fs (16 + 7 * kn3 + 2)) = 1
            · skip
              refine W.eq (g2 := F0 m 67 ls [.int 1, .ref w0]) (by rw [hn149]) ?_
              obtain ⟨hPc, hDc, hFc⟩ := PDq.cut (wc := []) hP hD hS hA [] (by decide) rfl
              refine va_callr (va_runS (As := [.int 1]) (rest := [.ref w0]) ⟨hx, hb, hml, hown, hts⟩ (r_stateWord1 l D cA sa  H.size) (va_cwS 1 hts gX10_write_X10_stateWord rfl rfl rfl (by decide +kernel) ⟨(Nat.le_of_ble_eq_true rfl), (Nat.le_of_ble_eq_true rfl)⟩) ⟨Wd.blind, fun U hU hW => ⟨rfl, Wd.call hPc hDc hK hC hZ hS hFc U hU hW⟩⟩ rfl rfl hl.1 rfl (lv_room (Nat.le_of_ble_eq_true rfl)) dX10_write_67 ⟨(Nat.le_of_ble_eq_true rfl), (Nat.le_of_ble_eq_true rfl)⟩) hS (fun q _ h => hFc q h) hFc (fun u ra t H1 locs ht hvm hw hB hz1 hk1 hS => ?_)
              obtain ⟨hra, hP1, hD1⟩ := hB
              obtain rfl := hra.symm
              rw [ht] at hP1
              obtain ⟨hP, hD⟩ := PDq.join (w := [(v27, .inl (cA 1, 10, .inr (.inl l27))), (v37, .inl (cA 0, 100, .inl fn97)), (oX10 w0 v0 v1 v2 v3 v4 g5 g6 (nI ed) 0 v9 (nI nb) g11 g12 v13 g14 g15 g16 g17 g18 g19 g20 g21 g22 g23 g24 g25 g26 v27 v28 v29 v30 v31 v32 v33 v34 v35 v36 v37 (nI qn96)), (v0, .inl (cA 0, 326, .inl fs))]) 4 hP hD [] [0, 1, 2, 3] rfl rfl (by decide) (by decide) hk1 hFc hP1 hD1 rfl
              generalize H1 = H at hP hS ⊢
              obtain ⟨hPc, hDc, hFc⟩ := PDq.cut (wc := [(oX10 w0 v0 v1 v2 v3 v4 g5 g6 (nI ed) 0 v9 (nI nb) g11 g12 v13 g14 g15 g16 g17 g18 g19 g20 g21 g22 g23 g24 g25 g26 v27 v28 v29 v30 v31 v32 v33 v34 v35 v36 v37 (nI qn96)), (v37, .inl (cA 0, 100, .inl fn97))]) hP hD hS hA [2, 1] (by decide) rfl
              refine va_callv (va_runV (As := [.ref (sa 26)]) (rest := []) ⟨hx, hb, hml, hown, hts⟩ (r_putText l D cA sa w0 ed nb qn96 v0 v1 v2 v3 v4 v9 v13 v27 v28 v29 v30 v31 v32 v33 v34 v35 v36 v37 0 g11 g12 g14 g15 g16 g17 g18 g19 g20 g21 g22 g23 g24 g26 g5 g6 g25 fn97 26 ([100, 117, 101]) H.size (by decide +kernel) (by simp only [List.length_cons, List.length_nil]; omega)) (cwV 1 hts gX10_write_X10_putText rfl rfl rfl (by decide +kernel) ⟨(Nat.le_of_ble_eq_true rfl), (Nat.le_of_ble_eq_true rfl)⟩) ⟨Wd.blind, va_recv hK hPc (ci := 11) (q0 := 0) rfl rfl, fun U hU hW => ⟨rfl, Wd.call hPc hDc hK hC hZ hS hFc U hU hW⟩⟩ rfl rfl hl.1 rfl (lv_room (Nat.le_of_ble_eq_true rfl)) dX10_write_70 ⟨(Nat.le_of_ble_eq_true rfl), (Nat.le_of_ble_eq_true rfl)⟩) hS (fun q _ h => hFc q h) hFc (fun u t H1 locs ht hvm hw hB hz1 hk1 hS => ?_)
              obtain ⟨qn150, fn151, hn152, hP1, hD1⟩ := hB
              rw [ht] at hP1
              obtain ⟨hP, hD⟩ := PDq.join (w := [(v27, .inl (cA 1, 10, .inr (.inl l27))), (v0, .inl (cA 0, 326, .inl fs)), (oX10 w0 v0 v1 v2 v3 v4 g5 g6 (nI ed) 0 v9 (nI nb) g11 g12 v13 g14 g15 g16 g17 g18 g19 g20 g21 g22 g23 g24 g25 g26 v27 v28 v29 v30 v31 v32 v33 v34 v35 v36 v37 (nI qn150)), (v37, .inl (cA 0, 100, .inl fn151))]) 2 hP hD [2, 1] [0, 3] rfl rfl (by decide) (by decide) hk1 hFc hP1 hD1 rfl
              generalize H1 = H at hP hS ⊢
              have hn153 : ([100, 117, 101] : List Int32).length = 3 := rfl
              obtain ⟨hP9, hD9⟩ := PDq.sub (ws' := [(v27, .inl (cA 1, 10, .inr (.inl l27))), (v37, .inl (cA 0, 100, .inl fn151)), (oX10 w0 v0 v1 v2 v3 v4 g5 g6 (nI ed) 0 v9 (nI nb) g11 g12 v13 g14 g15 g16 g17 g18 g19 g20 g21 g22 g23 g24 g25 g26 v27 v28 v29 v30 v31 v32 v33 v34 v35 v36 v37 (nI qn150)), (v0, .inl (cA 0, 326, .inl fs))]) hP hD [0, 3, 2, 1] (by decide) rfl
              exact meet3 fn151 qn150 H _ ls (by omega) hP9 hD9 hS (lv_sub hl [0, 1, 2] rfl)
            · skip
              by_cases hn154 : (fs (16 + 7 * kn3 + 2)) = 2
              · skip
                refine W.eq (g2 := F0 m 67 ls [.int 2, .ref w0]) (by rw [hn154]) ?_
                obtain ⟨hPc, hDc, hFc⟩ := PDq.cut (wc := []) hP hD hS hA [] (by decide) rfl
                refine va_callr (va_runS (As := [.int 2]) (rest := [.ref w0]) ⟨hx, hb, hml, hown, hts⟩ (r_stateWord2 l D cA sa  H.size) (va_cwS 1 hts gX10_write_X10_stateWord rfl rfl rfl (by decide +kernel) ⟨(Nat.le_of_ble_eq_true rfl), (Nat.le_of_ble_eq_true rfl)⟩) ⟨Wd.blind, fun U hU hW => ⟨rfl, Wd.call hPc hDc hK hC hZ hS hFc U hU hW⟩⟩ rfl rfl hl.1 rfl (lv_room (Nat.le_of_ble_eq_true rfl)) dX10_write_67 ⟨(Nat.le_of_ble_eq_true rfl), (Nat.le_of_ble_eq_true rfl)⟩) hS (fun q _ h => hFc q h) hFc (fun u ra t H1 locs ht hvm hw hB hz1 hk1 hS => ?_)
                obtain ⟨hra, hP1, hD1⟩ := hB
                obtain rfl := hra.symm
                rw [ht] at hP1
                obtain ⟨hP, hD⟩ := PDq.join (w := [(v27, .inl (cA 1, 10, .inr (.inl l27))), (v37, .inl (cA 0, 100, .inl fn97)), (oX10 w0 v0 v1 v2 v3 v4 g5 g6 (nI ed) 0 v9 (nI nb) g11 g12 v13 g14 g15 g16 g17 g18 g19 g20 g21 g22 g23 g24 g25 g26 v27 v28 v29 v30 v31 v32 v33 v34 v35 v36 v37 (nI qn96)), (v0, .inl (cA 0, 326, .inl fs))]) 4 hP hD [] [0, 1, 2, 3] rfl rfl (by decide) (by decide) hk1 hFc hP1 hD1 rfl
                generalize H1 = H at hP hS ⊢
                obtain ⟨hPc, hDc, hFc⟩ := PDq.cut (wc := [(oX10 w0 v0 v1 v2 v3 v4 g5 g6 (nI ed) 0 v9 (nI nb) g11 g12 v13 g14 g15 g16 g17 g18 g19 g20 g21 g22 g23 g24 g25 g26 v27 v28 v29 v30 v31 v32 v33 v34 v35 v36 v37 (nI qn96)), (v37, .inl (cA 0, 100, .inl fn97))]) hP hD hS hA [2, 1] (by decide) rfl
                refine va_callv (va_runV (As := [.ref (sa 27)]) (rest := []) ⟨hx, hb, hml, hown, hts⟩ (r_putText l D cA sa w0 ed nb qn96 v0 v1 v2 v3 v4 v9 v13 v27 v28 v29 v30 v31 v32 v33 v34 v35 v36 v37 0 g11 g12 g14 g15 g16 g17 g18 g19 g20 g21 g22 g23 g24 g26 g5 g6 g25 fn97 27 ([100, 105, 115, 112, 117, 116, 101, 100]) H.size (by decide +kernel) (by simp only [List.length_cons, List.length_nil]; omega)) (cwV 1 hts gX10_write_X10_putText rfl rfl rfl (by decide +kernel) ⟨(Nat.le_of_ble_eq_true rfl), (Nat.le_of_ble_eq_true rfl)⟩) ⟨Wd.blind, va_recv hK hPc (ci := 11) (q0 := 0) rfl rfl, fun U hU hW => ⟨rfl, Wd.call hPc hDc hK hC hZ hS hFc U hU hW⟩⟩ rfl rfl hl.1 rfl (lv_room (Nat.le_of_ble_eq_true rfl)) dX10_write_70 ⟨(Nat.le_of_ble_eq_true rfl), (Nat.le_of_ble_eq_true rfl)⟩) hS (fun q _ h => hFc q h) hFc (fun u t H1 locs ht hvm hw hB hz1 hk1 hS => ?_)
                obtain ⟨qn155, fn156, hn157, hP1, hD1⟩ := hB
                rw [ht] at hP1
                obtain ⟨hP, hD⟩ := PDq.join (w := [(v27, .inl (cA 1, 10, .inr (.inl l27))), (v0, .inl (cA 0, 326, .inl fs)), (oX10 w0 v0 v1 v2 v3 v4 g5 g6 (nI ed) 0 v9 (nI nb) g11 g12 v13 g14 g15 g16 g17 g18 g19 g20 g21 g22 g23 g24 g25 g26 v27 v28 v29 v30 v31 v32 v33 v34 v35 v36 v37 (nI qn155)), (v37, .inl (cA 0, 100, .inl fn156))]) 2 hP hD [2, 1] [0, 3] rfl rfl (by decide) (by decide) hk1 hFc hP1 hD1 rfl
                generalize H1 = H at hP hS ⊢
                have hn158 : ([100, 105, 115, 112, 117, 116, 101, 100] : List Int32).length = 8 := rfl
                obtain ⟨hP9, hD9⟩ := PDq.sub (ws' := [(v27, .inl (cA 1, 10, .inr (.inl l27))), (v37, .inl (cA 0, 100, .inl fn156)), (oX10 w0 v0 v1 v2 v3 v4 g5 g6 (nI ed) 0 v9 (nI nb) g11 g12 v13 g14 g15 g16 g17 g18 g19 g20 g21 g22 g23 g24 g25 g26 v27 v28 v29 v30 v31 v32 v33 v34 v35 v36 v37 (nI qn155)), (v0, .inl (cA 0, 326, .inl fs))]) hP hD [0, 3, 2, 1] (by decide) rfl
                exact meet3 fn156 qn155 H _ ls (by omega) hP9 hD9 hS (lv_sub hl [0, 1, 2] rfl)
              · skip
                by_cases hn159 : (fs (16 + 7 * kn3 + 2)) = 3
                · skip
                  refine W.eq (g2 := F0 m 67 ls [.int 3, .ref w0]) (by rw [hn159]) ?_
                  obtain ⟨hPc, hDc, hFc⟩ := PDq.cut (wc := []) hP hD hS hA [] (by decide) rfl
                  refine va_callr (va_runS (As := [.int 3]) (rest := [.ref w0]) ⟨hx, hb, hml, hown, hts⟩ (r_stateWord3 l D cA sa  H.size) (va_cwS 1 hts gX10_write_X10_stateWord rfl rfl rfl (by decide +kernel) ⟨(Nat.le_of_ble_eq_true rfl), (Nat.le_of_ble_eq_true rfl)⟩) ⟨Wd.blind, fun U hU hW => ⟨rfl, Wd.call hPc hDc hK hC hZ hS hFc U hU hW⟩⟩ rfl rfl hl.1 rfl (lv_room (Nat.le_of_ble_eq_true rfl)) dX10_write_67 ⟨(Nat.le_of_ble_eq_true rfl), (Nat.le_of_ble_eq_true rfl)⟩) hS (fun q _ h => hFc q h) hFc (fun u ra t H1 locs ht hvm hw hB hz1 hk1 hS => ?_)
                  obtain ⟨hra, hP1, hD1⟩ := hB
                  obtain rfl := hra.symm
                  rw [ht] at hP1
                  obtain ⟨hP, hD⟩ := PDq.join (w := [(v27, .inl (cA 1, 10, .inr (.inl l27))), (v37, .inl (cA 0, 100, .inl fn97)), (oX10 w0 v0 v1 v2 v3 v4 g5 g6 (nI ed) 0 v9 (nI nb) g11 g12 v13 g14 g15 g16 g17 g18 g19 g20 g21 g22 g23 g24 g25 g26 v27 v28 v29 v30 v31 v32 v33 v34 v35 v36 v37 (nI qn96)), (v0, .inl (cA 0, 326, .inl fs))]) 4 hP hD [] [0, 1, 2, 3] rfl rfl (by decide) (by decide) hk1 hFc hP1 hD1 rfl
                  generalize H1 = H at hP hS ⊢
                  obtain ⟨hPc, hDc, hFc⟩ := PDq.cut (wc := [(oX10 w0 v0 v1 v2 v3 v4 g5 g6 (nI ed) 0 v9 (nI nb) g11 g12 v13 g14 g15 g16 g17 g18 g19 g20 g21 g22 g23 g24 g25 g26 v27 v28 v29 v30 v31 v32 v33 v34 v35 v36 v37 (nI qn96)), (v37, .inl (cA 0, 100, .inl fn97))]) hP hD hS hA [2, 1] (by decide) rfl
                  refine va_callv (va_runV (As := [.ref (sa 28)]) (rest := []) ⟨hx, hb, hml, hown, hts⟩ (r_putText l D cA sa w0 ed nb qn96 v0 v1 v2 v3 v4 v9 v13 v27 v28 v29 v30 v31 v32 v33 v34 v35 v36 v37 0 g11 g12 g14 g15 g16 g17 g18 g19 g20 g21 g22 g23 g24 g26 g5 g6 g25 fn97 28 ([112, 97, 105, 100]) H.size (by decide +kernel) (by simp only [List.length_cons, List.length_nil]; omega)) (cwV 1 hts gX10_write_X10_putText rfl rfl rfl (by decide +kernel) ⟨(Nat.le_of_ble_eq_true rfl), (Nat.le_of_ble_eq_true rfl)⟩) ⟨Wd.blind, va_recv hK hPc (ci := 11) (q0 := 0) rfl rfl, fun U hU hW => ⟨rfl, Wd.call hPc hDc hK hC hZ hS hFc U hU hW⟩⟩ rfl rfl hl.1 rfl (lv_room (Nat.le_of_ble_eq_true rfl)) dX10_write_70 ⟨(Nat.le_of_ble_eq_true rfl), (Nat.le_of_ble_eq_true rfl)⟩) hS (fun q _ h => hFc q h) hFc (fun u t H1 locs ht hvm hw hB hz1 hk1 hS => ?_)
                  obtain ⟨qn160, fn161, hn162, hP1, hD1⟩ := hB
                  rw [ht] at hP1
                  obtain ⟨hP, hD⟩ := PDq.join (w := [(v27, .inl (cA 1, 10, .inr (.inl l27))), (v0, .inl (cA 0, 326, .inl fs)), (oX10 w0 v0 v1 v2 v3 v4 g5 g6 (nI ed) 0 v9 (nI nb) g11 g12 v13 g14 g15 g16 g17 g18 g19 g20 g21 g22 g23 g24 g25 g26 v27 v28 v29 v30 v31 v32 v33 v34 v35 v36 v37 (nI qn160)), (v37, .inl (cA 0, 100, .inl fn161))]) 2 hP hD [2, 1] [0, 3] rfl rfl (by decide) (by decide) hk1 hFc hP1 hD1 rfl
                  generalize H1 = H at hP hS ⊢
                  have hn163 : ([112, 97, 105, 100] : List Int32).length = 4 := rfl
                  obtain ⟨hP9, hD9⟩ := PDq.sub (ws' := [(v27, .inl (cA 1, 10, .inr (.inl l27))), (v37, .inl (cA 0, 100, .inl fn161)), (oX10 w0 v0 v1 v2 v3 v4 g5 g6 (nI ed) 0 v9 (nI nb) g11 g12 v13 g14 g15 g16 g17 g18 g19 g20 g21 g22 g23 g24 g25 g26 v27 v28 v29 v30 v31 v32 v33 v34 v35 v36 v37 (nI qn160)), (v0, .inl (cA 0, 326, .inl fs))]) hP hD [0, 3, 2, 1] (by decide) rfl
                  exact meet3 fn161 qn160 H _ ls (by omega) hP9 hD9 hS (lv_sub hl [0, 1, 2] rfl)
                · skip
                  by_cases hn164 : (fs (16 + 7 * kn3 + 2)) = 4
                  · skip
                    refine W.eq (g2 := F0 m 67 ls [.int 4, .ref w0]) (by rw [hn164]) ?_
                    obtain ⟨hPc, hDc, hFc⟩ := PDq.cut (wc := []) hP hD hS hA [] (by decide) rfl
                    refine va_callr (va_runS (As := [.int 4]) (rest := [.ref w0]) ⟨hx, hb, hml, hown, hts⟩ (r_stateWord4 l D cA sa  H.size) (va_cwS 1 hts gX10_write_X10_stateWord rfl rfl rfl (by decide +kernel) ⟨(Nat.le_of_ble_eq_true rfl), (Nat.le_of_ble_eq_true rfl)⟩) ⟨Wd.blind, fun U hU hW => ⟨rfl, Wd.call hPc hDc hK hC hZ hS hFc U hU hW⟩⟩ rfl rfl hl.1 rfl (lv_room (Nat.le_of_ble_eq_true rfl)) dX10_write_67 ⟨(Nat.le_of_ble_eq_true rfl), (Nat.le_of_ble_eq_true rfl)⟩) hS (fun q _ h => hFc q h) hFc (fun u ra t H1 locs ht hvm hw hB hz1 hk1 hS => ?_)
                    obtain ⟨hra, hP1, hD1⟩ := hB
                    obtain rfl := hra.symm
                    rw [ht] at hP1
                    obtain ⟨hP, hD⟩ := PDq.join (w := [(v27, .inl (cA 1, 10, .inr (.inl l27))), (v37, .inl (cA 0, 100, .inl fn97)), (oX10 w0 v0 v1 v2 v3 v4 g5 g6 (nI ed) 0 v9 (nI nb) g11 g12 v13 g14 g15 g16 g17 g18 g19 g20 g21 g22 g23 g24 g25 g26 v27 v28 v29 v30 v31 v32 v33 v34 v35 v36 v37 (nI qn96)), (v0, .inl (cA 0, 326, .inl fs))]) 4 hP hD [] [0, 1, 2, 3] rfl rfl (by decide) (by decide) hk1 hFc hP1 hD1 rfl
                    generalize H1 = H at hP hS ⊢
                    obtain ⟨hPc, hDc, hFc⟩ := PDq.cut (wc := [(oX10 w0 v0 v1 v2 v3 v4 g5 g6 (nI ed) 0 v9 (nI nb) g11 g12 v13 g14 g15 g16 g17 g18 g19 g20 g21 g22 g23 g24 g25 g26 v27 v28 v29 v30 v31 v32 v33 v34 v35 v36 v37 (nI qn96)), (v37, .inl (cA 0, 100, .inl fn97))]) hP hD hS hA [2, 1] (by decide) rfl
                    refine va_callv (va_runV (As := [.ref (sa 29)]) (rest := []) ⟨hx, hb, hml, hown, hts⟩ (r_putText l D cA sa w0 ed nb qn96 v0 v1 v2 v3 v4 v9 v13 v27 v28 v29 v30 v31 v32 v33 v34 v35 v36 v37 0 g11 g12 g14 g15 g16 g17 g18 g19 g20 g21 g22 g23 g24 g26 g5 g6 g25 fn97 29 ([115, 101, 116, 116, 108, 101, 100]) H.size (by decide +kernel) (by simp only [List.length_cons, List.length_nil]; omega)) (cwV 1 hts gX10_write_X10_putText rfl rfl rfl (by decide +kernel) ⟨(Nat.le_of_ble_eq_true rfl), (Nat.le_of_ble_eq_true rfl)⟩) ⟨Wd.blind, va_recv hK hPc (ci := 11) (q0 := 0) rfl rfl, fun U hU hW => ⟨rfl, Wd.call hPc hDc hK hC hZ hS hFc U hU hW⟩⟩ rfl rfl hl.1 rfl (lv_room (Nat.le_of_ble_eq_true rfl)) dX10_write_70 ⟨(Nat.le_of_ble_eq_true rfl), (Nat.le_of_ble_eq_true rfl)⟩) hS (fun q _ h => hFc q h) hFc (fun u t H1 locs ht hvm hw hB hz1 hk1 hS => ?_)
                    obtain ⟨qn165, fn166, hn167, hP1, hD1⟩ := hB
                    rw [ht] at hP1
                    obtain ⟨hP, hD⟩ := PDq.join (w := [(v27, .inl (cA 1, 10, .inr (.inl l27))), (v0, .inl (cA 0, 326, .inl fs)), (oX10 w0 v0 v1 v2 v3 v4 g5 g6 (nI ed) 0 v9 (nI nb) g11 g12 v13 g14 g15 g16 g17 g18 g19 g20 g21 g22 g23 g24 g25 g26 v27 v28 v29 v30 v31 v32 v33 v34 v35 v36 v37 (nI qn165)), (v37, .inl (cA 0, 100, .inl fn166))]) 2 hP hD [2, 1] [0, 3] rfl rfl (by decide) (by decide) hk1 hFc hP1 hD1 rfl
                    generalize H1 = H at hP hS ⊢
                    have hn168 : ([115, 101, 116, 116, 108, 101, 100] : List Int32).length = 7 := rfl
                    obtain ⟨hP9, hD9⟩ := PDq.sub (ws' := [(v27, .inl (cA 1, 10, .inr (.inl l27))), (v37, .inl (cA 0, 100, .inl fn166)), (oX10 w0 v0 v1 v2 v3 v4 g5 g6 (nI ed) 0 v9 (nI nb) g11 g12 v13 g14 g15 g16 g17 g18 g19 g20 g21 g22 g23 g24 g25 g26 v27 v28 v29 v30 v31 v32 v33 v34 v35 v36 v37 (nI qn165)), (v0, .inl (cA 0, 326, .inl fs))]) hP hD [0, 3, 2, 1] (by decide) rfl
                    exact meet3 fn166 qn165 H _ ls (by omega) hP9 hD9 hS (lv_sub hl [0, 1, 2] rfl)
                  · skip
                    obtain ⟨hPc, hDc, hFc⟩ := PDq.cut (wc := []) hP hD hS hA [] (by decide) rfl
                    refine va_callr (va_runS (As := [.int (fs (16 + 7 * kn3 + 2))]) (rest := [.ref w0]) ⟨hx, hb, hml, hown, hts⟩ (r_stateWordX l D cA sa (fs (16 + 7 * kn3 + 2)) H.size hn144 hn149 hn154 hn159 hn164) (va_cwS 1 hts gX10_write_X10_stateWord rfl rfl rfl (by decide +kernel) ⟨(Nat.le_of_ble_eq_true rfl), (Nat.le_of_ble_eq_true rfl)⟩) ⟨Wd.blind, fun U hU hW => ⟨rfl, Wd.call hPc hDc hK hC hZ hS hFc U hU hW⟩⟩ rfl rfl hl.1 rfl (lv_room (Nat.le_of_ble_eq_true rfl)) dX10_write_67 ⟨(Nat.le_of_ble_eq_true rfl), (Nat.le_of_ble_eq_true rfl)⟩) hS (fun q _ h => hFc q h) hFc (fun u ra t H1 locs ht hvm hw hB hz1 hk1 hS => ?_)
                    obtain ⟨hra, hP1, hD1⟩ := hB
                    obtain rfl := hra.symm
                    rw [ht] at hP1
                    obtain ⟨hP, hD⟩ := PDq.join (w := [(v27, .inl (cA 1, 10, .inr (.inl l27))), (v37, .inl (cA 0, 100, .inl fn97)), (oX10 w0 v0 v1 v2 v3 v4 g5 g6 (nI ed) 0 v9 (nI nb) g11 g12 v13 g14 g15 g16 g17 g18 g19 g20 g21 g22 g23 g24 g25 g26 v27 v28 v29 v30 v31 v32 v33 v34 v35 v36 v37 (nI qn96)), (v0, .inl (cA 0, 326, .inl fs))]) 4 hP hD [] [0, 1, 2, 3] rfl rfl (by decide) (by decide) hk1 hFc hP1 hD1 rfl
                    generalize H1 = H at hP hS ⊢
                    obtain ⟨hPc, hDc, hFc⟩ := PDq.cut (wc := [(oX10 w0 v0 v1 v2 v3 v4 g5 g6 (nI ed) 0 v9 (nI nb) g11 g12 v13 g14 g15 g16 g17 g18 g19 g20 g21 g22 g23 g24 g25 g26 v27 v28 v29 v30 v31 v32 v33 v34 v35 v36 v37 (nI qn96)), (v37, .inl (cA 0, 100, .inl fn97))]) hP hD hS hA [2, 1] (by decide) rfl
                    refine va_callv (va_runV (As := [.ref (sa 30)]) (rest := []) ⟨hx, hb, hml, hown, hts⟩ (r_putText l D cA sa w0 ed nb qn96 v0 v1 v2 v3 v4 v9 v13 v27 v28 v29 v30 v31 v32 v33 v34 v35 v36 v37 0 g11 g12 g14 g15 g16 g17 g18 g19 g20 g21 g22 g23 g24 g26 g5 g6 g25 fn97 30 ([99, 97, 110, 99, 101, 108, 108, 101, 100]) H.size (by decide +kernel) (by simp only [List.length_cons, List.length_nil]; omega)) (cwV 1 hts gX10_write_X10_putText rfl rfl rfl (by decide +kernel) ⟨(Nat.le_of_ble_eq_true rfl), (Nat.le_of_ble_eq_true rfl)⟩) ⟨Wd.blind, va_recv hK hPc (ci := 11) (q0 := 0) rfl rfl, fun U hU hW => ⟨rfl, Wd.call hPc hDc hK hC hZ hS hFc U hU hW⟩⟩ rfl rfl hl.1 rfl (lv_room (Nat.le_of_ble_eq_true rfl)) dX10_write_70 ⟨(Nat.le_of_ble_eq_true rfl), (Nat.le_of_ble_eq_true rfl)⟩) hS (fun q _ h => hFc q h) hFc (fun u t H1 locs ht hvm hw hB hz1 hk1 hS => ?_)
                    obtain ⟨qn169, fn170, hn171, hP1, hD1⟩ := hB
                    rw [ht] at hP1
                    obtain ⟨hP, hD⟩ := PDq.join (w := [(v27, .inl (cA 1, 10, .inr (.inl l27))), (v0, .inl (cA 0, 326, .inl fs)), (oX10 w0 v0 v1 v2 v3 v4 g5 g6 (nI ed) 0 v9 (nI nb) g11 g12 v13 g14 g15 g16 g17 g18 g19 g20 g21 g22 g23 g24 g25 g26 v27 v28 v29 v30 v31 v32 v33 v34 v35 v36 v37 (nI qn169)), (v37, .inl (cA 0, 100, .inl fn170))]) 2 hP hD [2, 1] [0, 3] rfl rfl (by decide) (by decide) hk1 hFc hP1 hD1 rfl
                    generalize H1 = H at hP hS ⊢
                    have hn172 : ([99, 97, 110, 99, 101, 108, 108, 101, 100] : List Int32).length = 9 := rfl
                    obtain ⟨hP9, hD9⟩ := PDq.sub (ws' := [(v27, .inl (cA 1, 10, .inr (.inl l27))), (v37, .inl (cA 0, 100, .inl fn170)), (oX10 w0 v0 v1 v2 v3 v4 g5 g6 (nI ed) 0 v9 (nI nb) g11 g12 v13 g14 g15 g16 g17 g18 g19 g20 g21 g22 g23 g24 g25 g26 v27 v28 v29 v30 v31 v32 v33 v34 v35 v36 v37 (nI qn169)), (v0, .inl (cA 0, 326, .inl fs))]) hP hD [0, 3, 2, 1] (by decide) rfl
                    exact meet3 fn170 qn169 H _ ls (by omega) hP9 hD9 hS (lv_sub hl [0, 1, 2] rfl)
        · skip
          have hn173 : i1 < kn92 := Nat.lt_of_not_le (fun h9 => c94 (nI_le (a := kn92) (b := i1) h9 (by omega)))
          refine lv_aload_n hx hb dX10_write_34 rfl (lv_at hl 1 rfl) ?_
          refine lv_aload_n hx hb dX10_write_35 rfl (lv_at hl 1 rfl) ?_
          refine va_get (D := D) (ci := 11) (v := .ref v27) (C := RX10) (T := TX10) (N := 39) hx hb hts inX10 hown hK hP 3 rfl rfl 27 (by decide) (hts (.fieldLink RX10 36 "EscrowDeskModel" "names" "[J") (by decide +kernel)) (fun _ h9 => h9) rfl dX10_write_36 ?_
          refine lv_iload_n hx hb dX10_write_39 rfl (lv_at hl 2 rfl) ?_
          refine va_lald hx hb hK hP 1 1 rfl rfl (vp_in_nI (n := kn3) (N := 10) (show kn3 < 10 by omega) (by decide)) dX10_write_40 ?_
          refine lv_topl (fun yn174 eyn174 => ?_)
          refine lv_iload_n hx hb dX10_write_41 rfl (lv_at hl 0 rfl) ?_
          obtain ⟨hPc, hDc, hFc⟩ := PDq.cut (wc := []) hP hD hS hA [] (by decide) rfl
          refine va_calli (va_runS (As := [.long yn174, .int (nI i1)]) (rest := [.ref w0]) ⟨hx, hb, hml, hown, hts⟩ (r_letterOf l D cA sa yn174 i1 H.size (by omega)) (va_cwS 2 hts gX10_write_X10_letterOf rfl rfl rfl (by decide +kernel) ⟨(Nat.le_of_ble_eq_true rfl), (Nat.le_of_ble_eq_true rfl)⟩) ⟨Wd.blind, fun U hU hW => ⟨rfl, Wd.call hPc hDc hK hC hZ hS hFc U hU hW⟩⟩ rfl rfl hl.1 rfl (lv_room (Nat.le_of_ble_eq_true rfl)) dX10_write_42 ⟨(Nat.le_of_ble_eq_true rfl), (Nat.le_of_ble_eq_true rfl)⟩) hS (fun q _ h => hFc q h) hFc (fun rn175 u t H1 locs ht hvm hw hB hz1 hk1 hS => ?_)
          obtain ⟨hP1, hD1⟩ := hB
          rw [ht] at hP1
          obtain ⟨hP, hD⟩ := PDq.join (w := [(v37, .inl (cA 0, 100, .inl f0_1)), (v27, .inl (cA 1, 10, .inr (.inl l27))), (v0, .inl (cA 0, 326, .inl fs)), (oX10 w0 v0 v1 v2 v3 v4 g5 g6 (nI ed) 0 v9 (nI nb) g11 g12 v13 g14 g15 g16 g17 g18 g19 g20 g21 g22 g23 g24 g25 g26 v27 v28 v29 v30 v31 v32 v33 v34 v35 v36 v37 (nI oi))]) 4 hP hD [] [0, 1, 2, 3] rfl rfl (by decide) (by decide) hk1 hFc hP1 hD1 rfl
          generalize H1 = H at hP hS ⊢
          obtain ⟨hPc, hDc, hFc⟩ := PDq.cut (wc := [(oX10 w0 v0 v1 v2 v3 v4 g5 g6 (nI ed) 0 v9 (nI nb) g11 g12 v13 g14 g15 g16 g17 g18 g19 g20 g21 g22 g23 g24 g25 g26 v27 v28 v29 v30 v31 v32 v33 v34 v35 v36 v37 (nI oi)), (v37, .inl (cA 0, 100, .inl f0_1))]) hP hD hS hA [3, 0] (by decide) rfl
          refine va_callv (va_runV (As := [.int rn175]) (rest := []) ⟨hx, hb, hml, hown, hts⟩ (r_put l D cA sa w0 ed nb oi v0 v1 v2 v3 v4 v9 v13 v27 v28 v29 v30 v31 v32 v33 v34 v35 v36 v37 0 g11 g12 g14 g15 g16 g17 g18 g19 g20 g21 g22 g23 g24 g26 g5 g6 g25 f0_1 rn175 H.size (by omega)) (cwV 1 hts gX10_write_X10_put rfl rfl rfl (by decide +kernel) ⟨(Nat.le_of_ble_eq_true rfl), (Nat.le_of_ble_eq_true rfl)⟩) ⟨Wd.blind, va_recv hK hPc (ci := 11) (q0 := 0) rfl rfl, fun U hU hW => ⟨rfl, Wd.call hPc hDc hK hC hZ hS hFc U hU hW⟩⟩ rfl rfl hl.1 rfl (lv_room (Nat.le_of_ble_eq_true rfl)) dX10_write_45 ⟨(Nat.le_of_ble_eq_true rfl), (Nat.le_of_ble_eq_true rfl)⟩) hS (fun q _ h => hFc q h) hFc (fun u t H1 locs ht hvm hw hB hz1 hk1 hS => ?_)
          obtain ⟨qn176, fn177, hn178, hP1, hD1⟩ := hB
          rw [ht] at hP1
          obtain ⟨hP, hD⟩ := PDq.join (w := [(v27, .inl (cA 1, 10, .inr (.inl l27))), (v0, .inl (cA 0, 326, .inl fs)), (oX10 w0 v0 v1 v2 v3 v4 g5 g6 (nI ed) 0 v9 (nI nb) g11 g12 v13 g14 g15 g16 g17 g18 g19 g20 g21 g22 g23 g24 g25 g26 v27 v28 v29 v30 v31 v32 v33 v34 v35 v36 v37 (nI qn176)), (v37, .inl (cA 0, 100, .inl fn177))]) 2 hP hD [3, 0] [1, 2] rfl rfl (by decide) (by decide) hk1 hFc hP1 hD1 rfl
          generalize H1 = H at hP hS ⊢
          refine lv_iinc (v := (nI (i1 + 1))) (lv' := [(2, .int (nI (i1 + 1))), (0, .ref w0), (1, .int (nI kn3))]) hx hb dX10_write_48 hl (k := 0) rfl (nI_1 _) (by decide) rfl (fun ls hl => ?_)
          refine lv_goto (tgt := 21) hx hb dX10_write_51 (by decide) ?_
          obtain ⟨hP9, hD9⟩ := PDq.sub (ws' := [(v37, .inl (cA 0, 100, .inl fn177)), (v27, .inl (cA 1, 10, .inr (.inl l27))), (v0, .inl (cA 0, 326, .inl fs)), (oX10 w0 v0 v1 v2 v3 v4 g5 g6 (nI ed) 0 v9 (nI nb) g11 g12 v13 g14 g15 g16 g17 g18 g19 g20 g21 g22 g23 g24 g25 g26 v27 v28 v29 v30 v31 v32 v33 v34 v35 v36 v37 (nI qn176))]) hP hD [3, 0, 1, 2] (by decide) rfl
          exact ih1 (i1 + 1) fn177 qn176 H _ ls (by omega) (by omega) hP9 hD9 hS (lv_sub hl [0, 1, 2] rfl)
    obtain ⟨hP9, hD9⟩ := PDq.sub (ws' := [(v37, .inl (cA 0, 100, .inl fo9)), (v27, .inl (cA 1, 10, .inr (.inl l27))), (v0, .inl (cA 0, 326, .inl fs)), (oX10 w0 v0 v1 v2 v3 v4 g5 g6 (nI ed) 0 v9 (nI nb) g11 g12 v13 g14 g15 g16 g17 g18 g19 g20 g21 g22 g23 g24 g25 g26 v27 v28 v29 v30 v31 v32 v33 v34 v35 v36 v37 0)]) hP hD [0, 1, 2, 3] (by decide) rfl
    exact loop1 (14 - 0) 0 fo9 0 _ _ ls (by omega) (by omega) hP9 hD9 hS (lv_sub hl [0, 1, 2] rfl)
  · skip
    subst hr9
    obtain ⟨hPc, hDc, hFc⟩ := PDq.cut (wc := [(oX10 w0 v0 v1 v2 v3 v4 g5 g6 (nI ed) g8 v9 (nI nb) g11 g12 v13 g14 g15 g16 g17 g18 g19 g20 g21 g22 g23 g24 g25 g26 v27 v28 v29 v30 v31 v32 v33 v34 v35 v36 v37 (nI ol))]) hP hD hS hA [2] (by decide) rfl
    refine va_calli (va_runV (As := [.int 0]) (rest := []) ⟨hx, hb, hml, hown, hts⟩ (r_good0 l D cA sa w0 ed nb ol v0 v1 v2 v3 v4 v9 v13 v27 v28 v29 v30 v31 v32 v33 v34 v35 v36 v37 g8 g11 g12 g14 g15 g16 g17 g18 g19 g20 g21 g22 g23 g24 g26 g5 g6 g25 H.size) (cwV 1 hts gX10_write_X10_good rfl rfl rfl (by decide +kernel) ⟨(Nat.le_of_ble_eq_true rfl), (Nat.le_of_ble_eq_true rfl)⟩) ⟨Wd.blind, va_recv hK hPc (ci := 11) (q0 := 0) rfl rfl, fun U hU hW => ⟨rfl, Wd.call hPc hDc hK hC hZ hS hFc U hU hW⟩⟩ rfl rfl hl.1 rfl (lv_room (Nat.le_of_ble_eq_true rfl)) dX10_write_6 ⟨(Nat.le_of_ble_eq_true rfl), (Nat.le_of_ble_eq_true rfl)⟩) hS (fun q _ h => hFc q h) hFc (fun rn179 u t H1 locs ht hvm hw hB hz1 hk1 hS => ?_)
    obtain ⟨hP1, hD1⟩ := hB
    rw [ht] at hP1
    obtain ⟨hP, hD⟩ := PDq.join (w := [(v37, .inl (cA 0, 100, .inl fo9)), (v27, .inl (cA 1, 10, .inr (.inl l27))), (v0, .inl (cA 0, 326, .inl fs)), (oX10 w0 v0 v1 v2 v3 v4 g5 g6 (nI ed) 1 v9 (nI nb) g11 g12 v13 g14 g15 g16 g17 g18 g19 g20 g21 g22 g23 g24 g25 g26 v27 v28 v29 v30 v31 v32 v33 v34 v35 v36 v37 (nI ol))]) 3 hP hD [2] [0, 1, 3] rfl rfl (by decide) (by decide) hk1 hFc hP1 hD1 rfl
    generalize H1 = H at hP hS ⊢
    obtain rfl : rn179 = 0 := hw
    refine lv_if_ne (tgt := 14) hx hb dX10_write_9 (by decide) (fun c9 => absurd c9 (by decide)) (fun c180 => ?_)
    refine lv_iconst (v := 0) hx hb dX10_write_12 (by decide) ?_
    obtain ⟨hP9, hD9⟩ := PDq.sub (ws' := [(oX10 w0 v0 v1 v2 v3 v4 g5 g6 (nI ed) 1 v9 (nI nb) g11 g12 v13 g14 g15 g16 g17 g18 g19 g20 g21 g22 g23 g24 g25 g26 v27 v28 v29 v30 v31 v32 v33 v34 v35 v36 v37 (nI ol)), (v0, .inl (cA 0, 326, .inl fs)), (v37, .inl (cA 0, 100, .inl fo9)), (v27, .inl (cA 1, 10, .inr (.inl l27)))]) hP hD [3, 2, 0, 1] (by decide) rfl
    refine W.widen (k := 0) (n := 0) (Nat.le_of_ble_eq_true rfl) (Nat.le_of_ble_eq_true rfl) ?_
    exact (W.iret (v := 0) hx hb hr (fun t ht hW => ⟨⟨0, (), rfl, trivial, 1, ol, fo9, hol, by rw [ht]; exact hP9, hD9⟩, hS.F ht⟩) hS.2.2 dX10_write_13)

set_option maxHeartbeats 4000000 in
set_option maxRecDepth 100000 in
/-- reference: written -/
theorem r_written (l : Launch) (D : va_G) (cA : Nat → ClassId) (sa : Nat → Nat) (w0 : Nat) (ed : Nat) (nb : Nat) (ol : Nat) (v0 : Nat) (v1 : Nat) (v2 : Nat) (v3 : Nat) (v4 : Nat) (v9 : Nat) (v13 : Nat) (v27 : Nat) (v28 : Nat) (v29 : Nat) (v30 : Nat) (v31 : Nat) (v32 : Nat) (v33 : Nat) (v34 : Nat) (v35 : Nat) (v36 : Nat) (v37 : Nat) (g8 : Int32) (g11 : Int32) (g12 : Int32) (g14 : Int32) (g15 : Int32) (g16 : Int32) (g17 : Int32) (g18 : Int32) (g19 : Int32) (g20 : Int32) (g21 : Int32) (g22 : Int32) (g23 : Int32) (g24 : Int32) (g26 : Int32) (g5 : Int64) (g6 : Int64) (g25 : Int64) (i : Int32) (fo9 : Nat → Int32) (sz : Nat) (hol : ol ≤ 100) : Met l yX10_written wsX10_written ({ frames := 1, cells := 0, slots := 0, locals := 25 }) (va_Pc [.ref w0, .int i] (Wd D cA sa [(oX10 w0 v0 v1 v2 v3 v4 g5 g6 (nI ed) g8 v9 (nI nb) g11 g12 v13 g14 g15 g16 g17 g18 g19 g20 g21 g22 g23 g24 g25 g26 v27 v28 v29 v30 v31 v32 v33 v34 v35 v36 v37 (nI ol)), (v37, .inl (cA 0, 100, .inl fo9))] sz)) (va_Qi (fun (r : Int32) (_ : Unit) => True) (fun (_ : Unit) t => ∃ zt : Int32, Wq D (va_A [(oX10 w0 v0 v1 v2 v3 v4 g5 g6 (nI ed) g8 v9 (nI nb) g11 g12 v13 g14 g15 g16 g17 g18 g19 g20 g21 g22 g23 g24 g25 g26 v27 v28 v29 v30 v31 v32 v33 v34 v35 v36 v37 (nI ol)), (v37, .inl (cA 0, 100, .inl fo9))] sz) [(oX10 w0 v0 v1 v2 v3 v4 g5 g6 (nI ed) zt v9 (nI nb) g11 g12 v13 g14 g15 g16 g17 g18 g19 g20 g21 g22 g23 g24 g25 g26 v27 v28 v29 v30 v31 v32 v33 v34 v35 v36 v37 (nI ol)), (v37, .inl (cA 0, 100, .inl fo9))] t) (va_A [(oX10 w0 v0 v1 v2 v3 v4 g5 g6 (nI ed) g8 v9 (nI nb) g11 g12 v13 g14 g15 g16 g17 g18 g19 g20 g21 g22 g23 g24 g25 g26 v27 v28 v29 v30 v31 v32 v33 v34 v35 v36 v37 (nI ol)), (v37, .inl (cA 0, 100, .inl fo9))] sz)) 0 0 (va_A [(oX10 w0 v0 v1 v2 v3 v4 g5 g6 (nI ed) g8 v9 (nI nb) g11 g12 v13 g14 g15 g16 g17 g18 g19 g20 g21 g22 g23 g24 g25 g26 v27 v28 v29 v30 v31 v32 v33 v34 v35 v36 v37 (nI ol)), (v37, .inl (cA 0, 100, .inl fo9))] sz) := by
  refine Met.ofW (cc := cX10_written) (maxL := 2) (ret := (some .char)) (by decide) rfl ?_
  intro p e s m args below meth c s₁ B hml hv
  obtain ⟨rfl, hsz, hP, hK, hD0, hC, hZ⟩ := hv
  have hx := B.exec
  have hb := B.bytes
  have hr := B.returns
  have hts := atoms_spec (ws := wsX10_written) B.pre
  have hown : s.vm.findClass RX10 = some m.cls := findClass_of_methodNamed B.named
  have hlocks := B.notSynchronized
  subst hsz
  have hD := hD0.self (sz := s.heap.size)
  generalize hAe : va_A [(oX10 w0 v0 v1 v2 v3 v4 g5 g6 (nI ed) g8 v9 (nI nb) g11 g12 v13 g14 g15 g16 g17 g18 g19 g20 g21 g22 g23 g24 g25 g26 v27 v28 v29 v30 v31 v32 v33 v34 v35 v36 v37 (nI ol)), (v37, .inl (cA 0, 100, .inl fo9))] s.heap.size = A at hD hZ ⊢
  have hA : ∀ q : Nat, s.heap.size ≤ q → A q := fun q h => by rw [← hAe]; exact Or.inr h
  have hS : va_S A s.heap s.heap [] := va_S.rf
  have hP : va_P D vwCl [(oX10 w0 v0 v1 v2 v3 v4 g5 g6 (nI ed) g8 v9 (nI nb) g11 g12 v13 g14 g15 g16 g17 g18 g19 g20 g21 g22 g23 g24 g25 g26 v27 v28 v29 v30 v31 v32 v33 v34 v35 v36 v37 (nI ol)), (v37, .inl (cA 0, 100, .inl fo9))] s.heap := hP
  have hl := lv_entry ([.ref w0, .int i]) (n := 2) (Nat.le_of_ble_eq_true rfl)
  rw [lg_entry_eq]
  generalize (lg_sl ([.ref w0, .int i]) ++ List.replicate (2 - (lg_sl ([.ref w0, .int i])).length) Slot.unset).toArray = ls at hl ⊢
  have hl : lv_has ls 2 [(0, .ref w0), (1, .int i)] := hl
  have inX10 : ∀ w ∈ u_ws RX10 TX10 39, w ∈ wsX10_written := by decide +kernel
  refine lv_aload_n hx hb dX10_written_0 rfl (lv_at hl 0 rfl) ?_
  refine lv_iload_n hx hb dX10_written_1 rfl (lv_at hl 1 rfl) ?_
  refine lv_i2l (v := (i.toInt64)) hx hb dX10_written_2 rfl ?_
  refine lv_lconst (v := 0) hx hb dX10_written_3 (by decide) ?_
  refine lv_aload_n hx hb dX10_written_4 rfl (lv_at hl 0 rfl) ?_
  refine va_get (D := D) (ci := 11) (v := .int (nI ol)) (C := RX10) (T := TX10) (N := 39) hx hb hts inX10 hown hK hP 0 rfl rfl 38 (by decide) (hts (.fieldLink RX10 412 "EscrowDeskModel" "outputLength" "I") (by decide +kernel)) (fun _ h9 => h9) rfl dX10_written_5 ?_
  refine lv_iconst (v := 1) hx hb dX10_written_8 (by decide) ?_
  rcases Nat.eq_zero_or_pos ol with hn1 | hn1
  · skip
    refine lv_isub hx hb dX10_written_9 ?_
    refine lv_topi (fun yn2 eyn2 => ?_)
    obtain rfl : yn2 = (-1) := eyn2.trans (nI_sub0 hn1)
    refine lv_i2l (v := (-1)) hx hb dX10_written_10 (by decide) ?_
    obtain ⟨hPc, hDc, hFc⟩ := PDq.cut (wc := []) hP hD hS hA [] (by decide) rfl
    refine va_calli (va_runS (As := [.long (i.toInt64), .long 0, .long (-1)]) (rest := [.ref w0]) ⟨hx, hb, hml, hown, hts⟩ (r_between l D cA sa (i.toInt64) 0 (-1) s.heap.size) (va_cwS 3 hts gX10_written_X10_between rfl rfl rfl (by decide +kernel) ⟨(Nat.le_of_ble_eq_true rfl), (Nat.le_of_ble_eq_true rfl)⟩) ⟨Wd.blind, fun U hU hW => ⟨rfl, Wd.call hPc hDc hK hC hZ hS hFc U hU hW⟩⟩ rfl rfl hl.1 rfl (lv_room (Nat.le_of_ble_eq_true rfl)) dX10_written_11 ⟨(Nat.le_of_ble_eq_true rfl), (Nat.le_of_ble_eq_true rfl)⟩) hS (fun q _ h => hFc q h) hFc (fun rn3 u t H1 locs ht hvm hw hB hz1 hk1 hS => ?_)
    obtain ⟨hP1, hD1⟩ := hB
    rw [ht] at hP1
    obtain ⟨hP, hD⟩ := PDq.join (w := [(oX10 w0 v0 v1 v2 v3 v4 g5 g6 (nI ed) g8 v9 (nI nb) g11 g12 v13 g14 g15 g16 g17 g18 g19 g20 g21 g22 g23 g24 g25 g26 v27 v28 v29 v30 v31 v32 v33 v34 v35 v36 v37 (nI ol)), (v37, .inl (cA 0, 100, .inl fo9))]) 2 hP hD [] [0, 1] rfl rfl (by decide) (by decide) hk1 hFc hP1 hD1 rfl
    generalize H1 = H at hP hS ⊢
    rcases hw with ⟨hr9, hn4⟩ | hr9
    · skip
      subst hr9
      exact absurd (btw_no hn4.1 hn4.2) (fun h9 => h9)
    · skip
      subst hr9
      obtain ⟨hPc, hDc, hFc⟩ := PDq.cut (wc := [(oX10 w0 v0 v1 v2 v3 v4 g5 g6 (nI ed) g8 v9 (nI nb) g11 g12 v13 g14 g15 g16 g17 g18 g19 g20 g21 g22 g23 g24 g25 g26 v27 v28 v29 v30 v31 v32 v33 v34 v35 v36 v37 (nI ol))]) hP hD hS hA [0] (by decide) rfl
      refine va_calli (va_runV (As := [.int 0]) (rest := []) ⟨hx, hb, hml, hown, hts⟩ (r_good0 l D cA sa w0 ed nb ol v0 v1 v2 v3 v4 v9 v13 v27 v28 v29 v30 v31 v32 v33 v34 v35 v36 v37 g8 g11 g12 g14 g15 g16 g17 g18 g19 g20 g21 g22 g23 g24 g26 g5 g6 g25 H.size) (cwV 1 hts gX10_written_X10_good rfl rfl rfl (by decide +kernel) ⟨(Nat.le_of_ble_eq_true rfl), (Nat.le_of_ble_eq_true rfl)⟩) ⟨Wd.blind, va_recv hK hPc (ci := 11) (q0 := 0) rfl rfl, fun U hU hW => ⟨rfl, Wd.call hPc hDc hK hC hZ hS hFc U hU hW⟩⟩ rfl rfl hl.1 rfl (lv_room (Nat.le_of_ble_eq_true rfl)) dX10_written_14 ⟨(Nat.le_of_ble_eq_true rfl), (Nat.le_of_ble_eq_true rfl)⟩) hS (fun q _ h => hFc q h) hFc (fun rn5 u t H1 locs ht hvm hw hB hz1 hk1 hS => ?_)
      obtain ⟨hP1, hD1⟩ := hB
      rw [ht] at hP1
      obtain ⟨hP, hD⟩ := PDq.join (w := [(v37, .inl (cA 0, 100, .inl fo9)), (oX10 w0 v0 v1 v2 v3 v4 g5 g6 (nI ed) 1 v9 (nI nb) g11 g12 v13 g14 g15 g16 g17 g18 g19 g20 g21 g22 g23 g24 g25 g26 v27 v28 v29 v30 v31 v32 v33 v34 v35 v36 v37 (nI ol))]) 1 hP hD [0] [1] rfl rfl (by decide) (by decide) hk1 hFc hP1 hD1 rfl
      generalize H1 = H at hP hS ⊢
      obtain rfl : rn5 = 0 := hw
      refine lv_if_eq (tgt := 30) hx hb dX10_written_17 (by decide) (fun c6 => ?_) (fun c9 => absurd c9 (by decide))
      refine lv_iconst (v := 0) hx hb dX10_written_30 (by decide) ?_
      obtain ⟨hP9, hD9⟩ := PDq.sub (ws' := [(oX10 w0 v0 v1 v2 v3 v4 g5 g6 (nI ed) 1 v9 (nI nb) g11 g12 v13 g14 g15 g16 g17 g18 g19 g20 g21 g22 g23 g24 g25 g26 v27 v28 v29 v30 v31 v32 v33 v34 v35 v36 v37 (nI ol)), (v37, .inl (cA 0, 100, .inl fo9))]) hP hD [1, 0] (by decide) rfl
      refine W.widen (k := 0) (n := 0) (Nat.le_of_ble_eq_true rfl) (Nat.le_of_ble_eq_true rfl) ?_
      exact (W.zret (v := 0) hx hb hr (by first | rfl | decide) (fun t ht hW => ⟨⟨0, (), rfl, trivial, 1, by rw [ht]; exact hP9, hD9⟩, hS.F ht⟩) hS.2.2 dX10_written_31)
  · skip
    refine lv_isub hx hb dX10_written_9 ?_
    refine lv_topi (fun yn7 eyn7 => ?_)
    obtain rfl : yn7 = (nI (ol - 1)) := eyn7.trans (nI_sub (a := ol) (b := 1) (by omega))
    refine lv_i2l (v := ((nI (ol - 1)).toInt64)) hx hb dX10_written_10 rfl ?_
    obtain ⟨hPc, hDc, hFc⟩ := PDq.cut (wc := []) hP hD hS hA [] (by decide) rfl
    refine va_calli (va_runS (As := [.long (i.toInt64), .long 0, .long ((nI (ol - 1)).toInt64)]) (rest := [.ref w0]) ⟨hx, hb, hml, hown, hts⟩ (r_between l D cA sa (i.toInt64) 0 ((nI (ol - 1)).toInt64) s.heap.size) (va_cwS 3 hts gX10_written_X10_between rfl rfl rfl (by decide +kernel) ⟨(Nat.le_of_ble_eq_true rfl), (Nat.le_of_ble_eq_true rfl)⟩) ⟨Wd.blind, fun U hU hW => ⟨rfl, Wd.call hPc hDc hK hC hZ hS hFc U hU hW⟩⟩ rfl rfl hl.1 rfl (lv_room (Nat.le_of_ble_eq_true rfl)) dX10_written_11 ⟨(Nat.le_of_ble_eq_true rfl), (Nat.le_of_ble_eq_true rfl)⟩) hS (fun q _ h => hFc q h) hFc (fun rn8 u t H1 locs ht hvm hw hB hz1 hk1 hS => ?_)
    obtain ⟨hP1, hD1⟩ := hB
    rw [ht] at hP1
    obtain ⟨hP, hD⟩ := PDq.join (w := [(oX10 w0 v0 v1 v2 v3 v4 g5 g6 (nI ed) g8 v9 (nI nb) g11 g12 v13 g14 g15 g16 g17 g18 g19 g20 g21 g22 g23 g24 g25 g26 v27 v28 v29 v30 v31 v32 v33 v34 v35 v36 v37 (nI ol)), (v37, .inl (cA 0, 100, .inl fo9))]) 2 hP hD [] [0, 1] rfl rfl (by decide) (by decide) hk1 hFc hP1 hD1 rfl
    generalize H1 = H at hP hS ⊢
    rcases hw with ⟨hr9, hn9⟩ | hr9
    · skip
      subst hr9
      have hn10 := btw_nat hn9.1 hn9.2 (by omega)
      obtain ⟨kn11, hn12, hn13⟩ := hn10
      rw [hn13] at hl
      have hl : lv_has ls 2 [(0, .ref w0), (1, .int (nI kn11))] := hl
      obtain ⟨hPc, hDc, hFc⟩ := PDq.cut (wc := [(oX10 w0 v0 v1 v2 v3 v4 g5 g6 (nI ed) g8 v9 (nI nb) g11 g12 v13 g14 g15 g16 g17 g18 g19 g20 g21 g22 g23 g24 g25 g26 v27 v28 v29 v30 v31 v32 v33 v34 v35 v36 v37 (nI ol))]) hP hD hS hA [0] (by decide) rfl
      refine va_calli (va_runV (As := [.int 1]) (rest := []) ⟨hx, hb, hml, hown, hts⟩ (r_good1 l D cA sa w0 ed nb ol v0 v1 v2 v3 v4 v9 v13 v27 v28 v29 v30 v31 v32 v33 v34 v35 v36 v37 g8 g11 g12 g14 g15 g16 g17 g18 g19 g20 g21 g22 g23 g24 g26 g5 g6 g25 H.size) (cwV 1 hts gX10_written_X10_good rfl rfl rfl (by decide +kernel) ⟨(Nat.le_of_ble_eq_true rfl), (Nat.le_of_ble_eq_true rfl)⟩) ⟨Wd.blind, va_recv hK hPc (ci := 11) (q0 := 0) rfl rfl, fun U hU hW => ⟨rfl, Wd.call hPc hDc hK hC hZ hS hFc U hU hW⟩⟩ rfl rfl hl.1 rfl (lv_room (Nat.le_of_ble_eq_true rfl)) dX10_written_14 ⟨(Nat.le_of_ble_eq_true rfl), (Nat.le_of_ble_eq_true rfl)⟩) hS (fun q _ h => hFc q h) hFc (fun rn14 u t H1 locs ht hvm hw hB hz1 hk1 hS => ?_)
      obtain ⟨hP1, hD1⟩ := hB
      rw [ht] at hP1
      obtain ⟨hP, hD⟩ := PDq.join (w := [(v37, .inl (cA 0, 100, .inl fo9)), (oX10 w0 v0 v1 v2 v3 v4 g5 g6 (nI ed) 0 v9 (nI nb) g11 g12 v13 g14 g15 g16 g17 g18 g19 g20 g21 g22 g23 g24 g25 g26 v27 v28 v29 v30 v31 v32 v33 v34 v35 v36 v37 (nI ol))]) 1 hP hD [0] [1] rfl rfl (by decide) (by decide) hk1 hFc hP1 hD1 rfl
      generalize H1 = H at hP hS ⊢
      obtain rfl : rn14 = 1 := hw
      refine lv_if_eq (tgt := 30) hx hb dX10_written_17 (by decide) (fun c9 => absurd c9 (by decide)) (fun c15 => ?_)
      refine lv_aload_n hx hb dX10_written_20 rfl (lv_at hl 0 rfl) ?_
      refine va_get (D := D) (ci := 11) (v := .ref v37) (C := RX10) (T := TX10) (N := 39) hx hb hts inX10 hown hK hP 1 rfl rfl 37 (by decide) (hts (.fieldLink RX10 67 "EscrowDeskModel" "output" "[I") (by decide +kernel)) (fun _ h9 => h9) rfl dX10_written_21 ?_
      refine lv_iload_n hx hb dX10_written_24 rfl (lv_at hl 1 rfl) ?_
      refine va_iald hx hb hK hP 0 0 rfl rfl (vp_in_nI (n := kn11) (N := 100) (show kn11 < 100 by omega) (by decide)) dX10_written_25 ?_
      refine lv_topi (fun yn16 eyn16 => ?_)
      refine lv_i2c hx hb dX10_written_26 rfl ?_
      refine lv_topi (fun yn17 eyn17 => ?_)
      refine lv_goto (tgt := 31) hx hb dX10_written_27 (by decide) ?_
      obtain ⟨hP9, hD9⟩ := PDq.sub (ws' := [(oX10 w0 v0 v1 v2 v3 v4 g5 g6 (nI ed) 0 v9 (nI nb) g11 g12 v13 g14 g15 g16 g17 g18 g19 g20 g21 g22 g23 g24 g25 g26 v27 v28 v29 v30 v31 v32 v33 v34 v35 v36 v37 (nI ol)), (v37, .inl (cA 0, 100, .inl fo9))]) hP hD [1, 0] (by decide) rfl
      refine W.widen (k := 0) (n := 0) (Nat.le_of_ble_eq_true rfl) (Nat.le_of_ble_eq_true rfl) ?_
      exact (W.zret (v := yn17) hx hb hr (nar_i2c eyn17) (fun t ht hW => ⟨⟨yn17, (), rfl, trivial, 0, by rw [ht]; exact hP9, hD9⟩, hS.F ht⟩) hS.2.2 dX10_written_31)
    · skip
      subst hr9
      obtain ⟨hPc, hDc, hFc⟩ := PDq.cut (wc := [(oX10 w0 v0 v1 v2 v3 v4 g5 g6 (nI ed) g8 v9 (nI nb) g11 g12 v13 g14 g15 g16 g17 g18 g19 g20 g21 g22 g23 g24 g25 g26 v27 v28 v29 v30 v31 v32 v33 v34 v35 v36 v37 (nI ol))]) hP hD hS hA [0] (by decide) rfl
      refine va_calli (va_runV (As := [.int 0]) (rest := []) ⟨hx, hb, hml, hown, hts⟩ (r_good0 l D cA sa w0 ed nb ol v0 v1 v2 v3 v4 v9 v13 v27 v28 v29 v30 v31 v32 v33 v34 v35 v36 v37 g8 g11 g12 g14 g15 g16 g17 g18 g19 g20 g21 g22 g23 g24 g26 g5 g6 g25 H.size) (cwV 1 hts gX10_written_X10_good rfl rfl rfl (by decide +kernel) ⟨(Nat.le_of_ble_eq_true rfl), (Nat.le_of_ble_eq_true rfl)⟩) ⟨Wd.blind, va_recv hK hPc (ci := 11) (q0 := 0) rfl rfl, fun U hU hW => ⟨rfl, Wd.call hPc hDc hK hC hZ hS hFc U hU hW⟩⟩ rfl rfl hl.1 rfl (lv_room (Nat.le_of_ble_eq_true rfl)) dX10_written_14 ⟨(Nat.le_of_ble_eq_true rfl), (Nat.le_of_ble_eq_true rfl)⟩) hS (fun q _ h => hFc q h) hFc (fun rn18 u t H1 locs ht hvm hw hB hz1 hk1 hS => ?_)
      obtain ⟨hP1, hD1⟩ := hB
      rw [ht] at hP1
      obtain ⟨hP, hD⟩ := PDq.join (w := [(v37, .inl (cA 0, 100, .inl fo9)), (oX10 w0 v0 v1 v2 v3 v4 g5 g6 (nI ed) 1 v9 (nI nb) g11 g12 v13 g14 g15 g16 g17 g18 g19 g20 g21 g22 g23 g24 g25 g26 v27 v28 v29 v30 v31 v32 v33 v34 v35 v36 v37 (nI ol))]) 1 hP hD [0] [1] rfl rfl (by decide) (by decide) hk1 hFc hP1 hD1 rfl
      generalize H1 = H at hP hS ⊢
      obtain rfl : rn18 = 0 := hw
      refine lv_if_eq (tgt := 30) hx hb dX10_written_17 (by decide) (fun c19 => ?_) (fun c9 => absurd c9 (by decide))
      refine lv_iconst (v := 0) hx hb dX10_written_30 (by decide) ?_
      obtain ⟨hP9, hD9⟩ := PDq.sub (ws' := [(oX10 w0 v0 v1 v2 v3 v4 g5 g6 (nI ed) 1 v9 (nI nb) g11 g12 v13 g14 g15 g16 g17 g18 g19 g20 g21 g22 g23 g24 g25 g26 v27 v28 v29 v30 v31 v32 v33 v34 v35 v36 v37 (nI ol)), (v37, .inl (cA 0, 100, .inl fo9))]) hP hD [1, 0] (by decide) rfl
      refine W.widen (k := 0) (n := 0) (Nat.le_of_ble_eq_true rfl) (Nat.le_of_ble_eq_true rfl) ?_
      exact (W.zret (v := 0) hx hb hr (by first | rfl | decide) (fun t ht hW => ⟨⟨0, (), rfl, trivial, 1, by rw [ht]; exact hP9, hD9⟩, hS.F ht⟩) hS.2.2 dX10_written_31)

set_option maxHeartbeats 4000000 in
set_option maxRecDepth 100000 in
/-- reference: proofCharacter -/
theorem r_proofCharacter (l : Launch) (D : va_G) (cA : Nat → ClassId) (sa : Nat → Nat) (w0 : Nat) (ed : Nat) (nb : Nat) (ol : Nat) (v0 : Nat) (v1 : Nat) (v2 : Nat) (v3 : Nat) (v4 : Nat) (v9 : Nat) (v13 : Nat) (v27 : Nat) (v28 : Nat) (v29 : Nat) (v30 : Nat) (v31 : Nat) (v32 : Nat) (v33 : Nat) (v34 : Nat) (v35 : Nat) (v36 : Nat) (v37 : Nat) (g8 : Int32) (g11 : Int32) (g12 : Int32) (g14 : Int32) (g15 : Int32) (g16 : Int32) (g17 : Int32) (g18 : Int32) (g19 : Int32) (g20 : Int32) (g21 : Int32) (g22 : Int32) (g23 : Int32) (g24 : Int32) (g26 : Int32) (g5 : Int64) (g6 : Int64) (g25 : Int64) (cn : Nat) (pq : Nat) (en : Nat) (dy : Nat) (fs : Nat → Int32) (i : Int32) (j : Int32) (l29 : Nat → Int64) (sz : Nat) (hcn : cn ≤ 10) (hpq : pq ≤ 8) (hen : en ≤ 60) (hdy : dy ≤ 20000) (hri : RI cn pq en dy fs) : Met l yX10_proofCharacter wsX10_proofCharacter ({ frames := 2, cells := 0, slots := 0, locals := 49 }) (va_Pc [.ref w0, .int i, .int j] (Wd D cA sa [(oX10 w0 v0 v1 v2 v3 v4 g5 g6 (nI ed) g8 v9 (nI nb) g11 g12 v13 g14 g15 g16 g17 g18 g19 g20 g21 g22 g23 g24 g25 g26 v27 v28 v29 v30 v31 v32 v33 v34 v35 v36 v37 (nI ol)), (v0, .inl (cA 0, 326, .inl fs)), (v29, .inl (cA 1, 8, .inr (.inl l29)))] sz)) (va_Qi (fun (r : Int32) (_ : Unit) => True) (fun (_ : Unit) t => ∃ zt : Int32, Wq D (va_A [(oX10 w0 v0 v1 v2 v3 v4 g5 g6 (nI ed) g8 v9 (nI nb) g11 g12 v13 g14 g15 g16 g17 g18 g19 g20 g21 g22 g23 g24 g25 g26 v27 v28 v29 v30 v31 v32 v33 v34 v35 v36 v37 (nI ol)), (v0, .inl (cA 0, 326, .inl fs)), (v29, .inl (cA 1, 8, .inr (.inl l29)))] sz) [(oX10 w0 v0 v1 v2 v3 v4 g5 g6 (nI ed) zt v9 (nI nb) g11 g12 v13 g14 g15 g16 g17 g18 g19 g20 g21 g22 g23 g24 g25 g26 v27 v28 v29 v30 v31 v32 v33 v34 v35 v36 v37 (nI ol)), (v0, .inl (cA 0, 326, .inl fs)), (v29, .inl (cA 1, 8, .inr (.inl l29)))] t) (va_A [(oX10 w0 v0 v1 v2 v3 v4 g5 g6 (nI ed) g8 v9 (nI nb) g11 g12 v13 g14 g15 g16 g17 g18 g19 g20 g21 g22 g23 g24 g25 g26 v27 v28 v29 v30 v31 v32 v33 v34 v35 v36 v37 (nI ol)), (v0, .inl (cA 0, 326, .inl fs)), (v29, .inl (cA 1, 8, .inr (.inl l29)))] sz)) 0 0 (va_A [(oX10 w0 v0 v1 v2 v3 v4 g5 g6 (nI ed) g8 v9 (nI nb) g11 g12 v13 g14 g15 g16 g17 g18 g19 g20 g21 g22 g23 g24 g25 g26 v27 v28 v29 v30 v31 v32 v33 v34 v35 v36 v37 (nI ol)), (v0, .inl (cA 0, 326, .inl fs)), (v29, .inl (cA 1, 8, .inr (.inl l29)))] sz) := by
  refine Met.ofW (cc := cX10_proofCharacter) (maxL := 3) (ret := (some .char)) (by decide) rfl ?_
  intro p e s m args below meth c s₁ B hml hv
  obtain ⟨rfl, hsz, hP, hK, hD0, hC, hZ⟩ := hv
  have hx := B.exec
  have hb := B.bytes
  have hr := B.returns
  have hts := atoms_spec (ws := wsX10_proofCharacter) B.pre
  have hown : s.vm.findClass RX10 = some m.cls := findClass_of_methodNamed B.named
  have hlocks := B.notSynchronized
  subst hsz
  have hD := hD0.self (sz := s.heap.size)
  generalize hAe : va_A [(oX10 w0 v0 v1 v2 v3 v4 g5 g6 (nI ed) g8 v9 (nI nb) g11 g12 v13 g14 g15 g16 g17 g18 g19 g20 g21 g22 g23 g24 g25 g26 v27 v28 v29 v30 v31 v32 v33 v34 v35 v36 v37 (nI ol)), (v0, .inl (cA 0, 326, .inl fs)), (v29, .inl (cA 1, 8, .inr (.inl l29)))] s.heap.size = A at hD hZ ⊢
  have hA : ∀ q : Nat, s.heap.size ≤ q → A q := fun q h => by rw [← hAe]; exact Or.inr h
  have hS : va_S A s.heap s.heap [] := va_S.rf
  have hP : va_P D vwCl [(oX10 w0 v0 v1 v2 v3 v4 g5 g6 (nI ed) g8 v9 (nI nb) g11 g12 v13 g14 g15 g16 g17 g18 g19 g20 g21 g22 g23 g24 g25 g26 v27 v28 v29 v30 v31 v32 v33 v34 v35 v36 v37 (nI ol)), (v0, .inl (cA 0, 326, .inl fs)), (v29, .inl (cA 1, 8, .inr (.inl l29)))] s.heap := hP
  have hl := lv_entry ([.ref w0, .int i, .int j]) (n := 3) (Nat.le_of_ble_eq_true rfl)
  rw [lg_entry_eq]
  generalize (lg_sl ([.ref w0, .int i, .int j]) ++ List.replicate (3 - (lg_sl ([.ref w0, .int i, .int j])).length) Slot.unset).toArray = ls at hl ⊢
  have hl : lv_has ls 3 [(0, .ref w0), (1, .int i), (2, .int j)] := hl
  have inX10 : ∀ w ∈ u_ws RX10 TX10 39, w ∈ wsX10_proofCharacter := by decide +kernel
  refine lv_aload_n hx hb dX10_proofCharacter_0 rfl (lv_at hl 0 rfl) ?_
  refine lv_aload_n hx hb dX10_proofCharacter_1 rfl (lv_at hl 0 rfl) ?_
  refine lv_iload_n hx hb dX10_proofCharacter_2 rfl (lv_at hl 1 rfl) ?_
  obtain ⟨hPc, hDc, hFc⟩ := PDq.cut (wc := [(oX10 w0 v0 v1 v2 v3 v4 g5 g6 (nI ed) g8 v9 (nI nb) g11 g12 v13 g14 g15 g16 g17 g18 g19 g20 g21 g22 g23 g24 g25 g26 v27 v28 v29 v30 v31 v32 v33 v34 v35 v36 v37 (nI ol)), (v0, .inl (cA 0, 326, .inl fs))]) hP hD hS hA [0, 1] (by decide) rfl
  refine va_calli (va_runV (As := [.int i]) (rest := [.ref w0]) ⟨hx, hb, hml, hown, hts⟩ (r_isProof l D cA sa w0 ed nb ol v0 v1 v2 v3 v4 v9 v13 v27 v28 v29 v30 v31 v32 v33 v34 v35 v36 v37 g8 g11 g12 g14 g15 g16 g17 g18 g19 g20 g21 g22 g23 g24 g26 g5 g6 g25 cn pq en dy fs i s.heap.size hcn hpq hen hdy hri) (cwV 1 hts gX10_proofCharacter_X10_isProof rfl rfl rfl (by decide +kernel) ⟨(Nat.le_of_ble_eq_true rfl), (Nat.le_of_ble_eq_true rfl)⟩) ⟨Wd.blind, va_recv hK hPc (ci := 11) (q0 := 0) rfl rfl, fun U hU hW => ⟨rfl, Wd.call hPc hDc hK hC hZ hS hFc U hU hW⟩⟩ rfl rfl hl.1 rfl (lv_room (Nat.le_of_ble_eq_true rfl)) dX10_proofCharacter_3 ⟨(Nat.le_of_ble_eq_true rfl), (Nat.le_of_ble_eq_true rfl)⟩) hS (fun q _ h => hFc q h) hFc (fun rn1 u t H1 locs ht hvm hw hB hz1 hk1 hS => ?_)
  obtain ⟨hP1, hD1⟩ := hB
  rw [ht] at hP1
  obtain ⟨hP, hD⟩ := PDq.join (w := [(v29, .inl (cA 1, 8, .inr (.inl l29))), (oX10 w0 v0 v1 v2 v3 v4 g5 g6 (nI ed) g8 v9 (nI nb) g11 g12 v13 g14 g15 g16 g17 g18 g19 g20 g21 g22 g23 g24 g25 g26 v27 v28 v29 v30 v31 v32 v33 v34 v35 v36 v37 (nI ol)), (v0, .inl (cA 0, 326, .inl fs))]) 1 hP hD [0, 1] [2] rfl rfl (by decide) (by decide) hk1 hFc hP1 hD1 rfl
  generalize H1 = H at hP hS ⊢
  rcases hw with ⟨hr9, hn2⟩ | hr9
  · skip
    subst hr9
    obtain ⟨kn3, hn4, hn5⟩ := hn2
    rw [hn5] at hl
    have hl : lv_has ls 3 [(0, .ref w0), (1, .int (nI kn3)), (2, .int j)] := hl
    refine lv_if_eq (tgt := 34) hx hb dX10_proofCharacter_6 (by decide) (fun c9 => absurd c9 (by decide)) (fun c6 => ?_)
    refine lv_iload_n hx hb dX10_proofCharacter_9 rfl (lv_at hl 2 rfl) ?_
    refine lv_i2l (v := (j.toInt64)) hx hb dX10_proofCharacter_10 rfl ?_
    refine lv_lconst (v := 0) hx hb dX10_proofCharacter_11 (by decide) ?_
    refine lv_aload_n hx hb dX10_proofCharacter_12 rfl (lv_at hl 0 rfl) ?_
    refine va_get (D := D) (ci := 11) (v := .ref v29) (C := RX10) (T := TX10) (N := 39) hx hb hts inX10 hown hK hP 1 rfl rfl 29 (by decide) (hts (.fieldLink RX10 42 "EscrowDeskModel" "proofNames" "[J") (by decide +kernel)) (fun _ h9 => h9) rfl dX10_proofCharacter_13 ?_
    refine lv_iload_n hx hb dX10_proofCharacter_16 rfl (lv_at hl 1 rfl) ?_
    refine va_lald hx hb hK hP 0 1 rfl rfl (vp_in_nI (n := kn3) (N := 8) (show kn3 < 8 by omega) (by decide)) dX10_proofCharacter_17 ?_
    refine lv_topl (fun yn7 eyn7 => ?_)
    obtain ⟨hPc, hDc, hFc⟩ := PDq.cut (wc := []) hP hD hS hA [] (by decide) rfl
    refine va_calli (va_runS (As := [.long yn7]) (rest := [.long 0, .long (j.toInt64), .ref w0]) ⟨hx, hb, hml, hown, hts⟩ (r_lettersOf l D cA sa yn7 H.size) (va_cwS 1 hts gX10_proofCharacter_X10_lettersOf rfl rfl rfl (by decide +kernel) ⟨(Nat.le_of_ble_eq_true rfl), (Nat.le_of_ble_eq_true rfl)⟩) ⟨Wd.blind, fun U hU hW => ⟨rfl, Wd.call hPc hDc hK hC hZ hS hFc U hU hW⟩⟩ rfl rfl hl.1 rfl (lv_room (Nat.le_of_ble_eq_true rfl)) dX10_proofCharacter_18 ⟨(Nat.le_of_ble_eq_true rfl), (Nat.le_of_ble_eq_true rfl)⟩) hS (fun q _ h => hFc q h) hFc (fun rn8 u t H1 locs ht hvm hw hB hz1 hk1 hS => ?_)
    obtain ⟨hP1, hD1⟩ := hB
    rw [ht] at hP1
    obtain ⟨hP, hD⟩ := PDq.join (w := [(v29, .inl (cA 1, 8, .inr (.inl l29))), (oX10 w0 v0 v1 v2 v3 v4 g5 g6 (nI ed) g8 v9 (nI nb) g11 g12 v13 g14 g15 g16 g17 g18 g19 g20 g21 g22 g23 g24 g25 g26 v27 v28 v29 v30 v31 v32 v33 v34 v35 v36 v37 (nI ol)), (v0, .inl (cA 0, 326, .inl fs))]) 3 hP hD [] [0, 1, 2] rfl rfl (by decide) (by decide) hk1 hFc hP1 hD1 rfl
    generalize H1 = H at hP hS ⊢
    obtain ⟨kn9, hn10, hr9⟩ := hw
    subst hr9
    refine lv_iconst (v := 1) hx hb dX10_proofCharacter_21 (by decide) ?_
    rcases Nat.eq_zero_or_pos kn9 with hn11 | hn11
    · skip
      refine lv_isub hx hb dX10_proofCharacter_22 ?_
      refine lv_topi (fun yn12 eyn12 => ?_)
      obtain rfl : yn12 = (-1) := eyn12.trans (nI_sub0 hn11)
      refine lv_i2l (v := (-1)) hx hb dX10_proofCharacter_23 (by decide) ?_
      obtain ⟨hPc, hDc, hFc⟩ := PDq.cut (wc := []) hP hD hS hA [] (by decide) rfl
      refine va_calli (va_runS (As := [.long (j.toInt64), .long 0, .long (-1)]) (rest := [.ref w0]) ⟨hx, hb, hml, hown, hts⟩ (r_between l D cA sa (j.toInt64) 0 (-1) H.size) (va_cwS 3 hts gX10_proofCharacter_X10_between rfl rfl rfl (by decide +kernel) ⟨(Nat.le_of_ble_eq_true rfl), (Nat.le_of_ble_eq_true rfl)⟩) ⟨Wd.blind, fun U hU hW => ⟨rfl, Wd.call hPc hDc hK hC hZ hS hFc U hU hW⟩⟩ rfl rfl hl.1 rfl (lv_room (Nat.le_of_ble_eq_true rfl)) dX10_proofCharacter_24 ⟨(Nat.le_of_ble_eq_true rfl), (Nat.le_of_ble_eq_true rfl)⟩) hS (fun q _ h => hFc q h) hFc (fun rn13 u t H1 locs ht hvm hw hB hz1 hk1 hS => ?_)
      obtain ⟨hP1, hD1⟩ := hB
      rw [ht] at hP1
      obtain ⟨hP, hD⟩ := PDq.join (w := [(v29, .inl (cA 1, 8, .inr (.inl l29))), (oX10 w0 v0 v1 v2 v3 v4 g5 g6 (nI ed) g8 v9 (nI nb) g11 g12 v13 g14 g15 g16 g17 g18 g19 g20 g21 g22 g23 g24 g25 g26 v27 v28 v29 v30 v31 v32 v33 v34 v35 v36 v37 (nI ol)), (v0, .inl (cA 0, 326, .inl fs))]) 3 hP hD [] [0, 1, 2] rfl rfl (by decide) (by decide) hk1 hFc hP1 hD1 rfl
      generalize H1 = H at hP hS ⊢
      rcases hw with ⟨hr9, hn14⟩ | hr9
      · skip
        subst hr9
        exact absurd (btw_no hn14.1 hn14.2) (fun h9 => h9)
      · skip
        subst hr9
        refine lv_if_eq (tgt := 34) hx hb dX10_proofCharacter_27 (by decide) (fun c15 => ?_) (fun c9 => absurd c9 (by decide))
        refine lv_iconst (v := 1) hx hb dX10_proofCharacter_34 (by decide) ?_
        refine va_put (D := D) (ci := 11) (v := .int 1) (ty := .int) (C := RX10) (T := TX10) (N := 39) hx hb hts inX10 tyX10 tyX10_ok nmX10 hown hK hP hD hS 1 rfl rfl 8 (by decide) (hts (.fieldLink RX10 80 "EscrowDeskModel" "thrown" "I") (by decide +kernel)) (fun _ h9 => h9) rfl (by decide +kernel) rfl rfl (Nat.le_of_ble_eq_true rfl) dX10_proofCharacter_35 (fun H locs hP hD hS => ?_)
        obtain ⟨hP, hD⟩ : PDq D A [(v29, .inl (cA 1, 8, .inr (.inl l29))), (oX10 w0 v0 v1 v2 v3 v4 g5 g6 (nI ed) 1 v9 (nI nb) g11 g12 v13 g14 g15 g16 g17 g18 g19 g20 g21 g22 g23 g24 g25 g26 v27 v28 v29 v30 v31 v32 v33 v34 v35 v36 v37 (nI ol)), (v0, .inl (cA 0, 326, .inl fs))] H := ⟨hP, hD⟩
        refine lv_aload_n hx hb dX10_proofCharacter_38 rfl (lv_at hl 0 rfl) ?_
        refine va_get (D := D) (ci := 11) (v := .int 1) (C := RX10) (T := TX10) (N := 39) hx hb hts inX10 hown hK hP 1 rfl rfl 8 (by decide) (hts (.fieldLink RX10 80 "EscrowDeskModel" "thrown" "I") (by decide +kernel)) (fun _ h9 => h9) rfl dX10_proofCharacter_39 ?_
        refine lv_if_ne (tgt := 59) hx hb dX10_proofCharacter_42 (by decide) (fun c16 => ?_) (fun c9 => absurd c9 (by decide))
        refine lv_iconst (v := 0) hx hb dX10_proofCharacter_59 (by decide) ?_
        obtain ⟨hP9, hD9⟩ := PDq.sub (ws' := [(oX10 w0 v0 v1 v2 v3 v4 g5 g6 (nI ed) 1 v9 (nI nb) g11 g12 v13 g14 g15 g16 g17 g18 g19 g20 g21 g22 g23 g24 g25 g26 v27 v28 v29 v30 v31 v32 v33 v34 v35 v36 v37 (nI ol)), (v0, .inl (cA 0, 326, .inl fs)), (v29, .inl (cA 1, 8, .inr (.inl l29)))]) hP hD [1, 2, 0] (by decide) rfl
        refine W.widen (k := 0) (n := 0) (Nat.le_of_ble_eq_true rfl) (Nat.le_of_ble_eq_true rfl) ?_
        exact (W.zret (v := 0) hx hb hr (by first | rfl | decide) (fun t ht hW => ⟨⟨0, (), rfl, trivial, 1, by rw [ht]; exact hP9, hD9⟩, hS.F ht⟩) hS.2.2 dX10_proofCharacter_60)
    · skip
      refine lv_isub hx hb dX10_proofCharacter_22 ?_
      refine lv_topi (fun yn17 eyn17 => ?_)
      obtain rfl : yn17 = (nI (kn9 - 1)) := eyn17.trans (nI_sub (a := kn9) (b := 1) (by omega))
      refine lv_i2l (v := ((nI (kn9 - 1)).toInt64)) hx hb dX10_proofCharacter_23 rfl ?_
      obtain ⟨hPc, hDc, hFc⟩ := PDq.cut (wc := []) hP hD hS hA [] (by decide) rfl
      refine va_calli (va_runS (As := [.long (j.toInt64), .long 0, .long ((nI (kn9 - 1)).toInt64)]) (rest := [.ref w0]) ⟨hx, hb, hml, hown, hts⟩ (r_between l D cA sa (j.toInt64) 0 ((nI (kn9 - 1)).toInt64) H.size) (va_cwS 3 hts gX10_proofCharacter_X10_between rfl rfl rfl (by decide +kernel) ⟨(Nat.le_of_ble_eq_true rfl), (Nat.le_of_ble_eq_true rfl)⟩) ⟨Wd.blind, fun U hU hW => ⟨rfl, Wd.call hPc hDc hK hC hZ hS hFc U hU hW⟩⟩ rfl rfl hl.1 rfl (lv_room (Nat.le_of_ble_eq_true rfl)) dX10_proofCharacter_24 ⟨(Nat.le_of_ble_eq_true rfl), (Nat.le_of_ble_eq_true rfl)⟩) hS (fun q _ h => hFc q h) hFc (fun rn18 u t H1 locs ht hvm hw hB hz1 hk1 hS => ?_)
      obtain ⟨hP1, hD1⟩ := hB
      rw [ht] at hP1
      obtain ⟨hP, hD⟩ := PDq.join (w := [(v29, .inl (cA 1, 8, .inr (.inl l29))), (oX10 w0 v0 v1 v2 v3 v4 g5 g6 (nI ed) g8 v9 (nI nb) g11 g12 v13 g14 g15 g16 g17 g18 g19 g20 g21 g22 g23 g24 g25 g26 v27 v28 v29 v30 v31 v32 v33 v34 v35 v36 v37 (nI ol)), (v0, .inl (cA 0, 326, .inl fs))]) 3 hP hD [] [0, 1, 2] rfl rfl (by decide) (by decide) hk1 hFc hP1 hD1 rfl
      generalize H1 = H at hP hS ⊢
      rcases hw with ⟨hr9, hn19⟩ | hr9
      · skip
        subst hr9
        have hn20 := btw_nat hn19.1 hn19.2 (by omega)
        obtain ⟨kn21, hn22, hn23⟩ := hn20
        rw [hn23] at hl
        have hl : lv_has ls 3 [(0, .ref w0), (1, .int (nI kn3)), (2, .int (nI kn21))] := hl
        refine lv_if_eq (tgt := 34) hx hb dX10_proofCharacter_27 (by decide) (fun c9 => absurd c9 (by decide)) (fun c24 => ?_)
        refine lv_iconst (v := 0) hx hb dX10_proofCharacter_30 (by decide) ?_
        refine lv_goto (tgt := 35) hx hb dX10_proofCharacter_31 (by decide) ?_
        refine va_put (D := D) (ci := 11) (v := .int 0) (ty := .int) (C := RX10) (T := TX10) (N := 39) hx hb hts inX10 tyX10 tyX10_ok nmX10 hown hK hP hD hS 1 rfl rfl 8 (by decide) (hts (.fieldLink RX10 80 "EscrowDeskModel" "thrown" "I") (by decide +kernel)) (fun _ h9 => h9) rfl (by decide +kernel) rfl rfl (Nat.le_of_ble_eq_true rfl) dX10_proofCharacter_35 (fun H locs hP hD hS => ?_)
        obtain ⟨hP, hD⟩ : PDq D A [(v29, .inl (cA 1, 8, .inr (.inl l29))), (oX10 w0 v0 v1 v2 v3 v4 g5 g6 (nI ed) 0 v9 (nI nb) g11 g12 v13 g14 g15 g16 g17 g18 g19 g20 g21 g22 g23 g24 g25 g26 v27 v28 v29 v30 v31 v32 v33 v34 v35 v36 v37 (nI ol)), (v0, .inl (cA 0, 326, .inl fs))] H := ⟨hP, hD⟩
        refine lv_aload_n hx hb dX10_proofCharacter_38 rfl (lv_at hl 0 rfl) ?_
        refine va_get (D := D) (ci := 11) (v := .int 0) (C := RX10) (T := TX10) (N := 39) hx hb hts inX10 hown hK hP 1 rfl rfl 8 (by decide) (hts (.fieldLink RX10 80 "EscrowDeskModel" "thrown" "I") (by decide +kernel)) (fun _ h9 => h9) rfl dX10_proofCharacter_39 ?_
        refine lv_if_ne (tgt := 59) hx hb dX10_proofCharacter_42 (by decide) (fun c9 => absurd c9 (by decide)) (fun c25 => ?_)
        refine lv_aload_n hx hb dX10_proofCharacter_45 rfl (lv_at hl 0 rfl) ?_
        refine va_get (D := D) (ci := 11) (v := .ref v29) (C := RX10) (T := TX10) (N := 39) hx hb hts inX10 hown hK hP 1 rfl rfl 29 (by decide) (hts (.fieldLink RX10 42 "EscrowDeskModel" "proofNames" "[J") (by decide +kernel)) (fun _ h9 => h9) rfl dX10_proofCharacter_46 ?_
        refine lv_iload_n hx hb dX10_proofCharacter_49 rfl (lv_at hl 1 rfl) ?_
        refine va_lald hx hb hK hP 0 1 rfl rfl (vp_in_nI (n := kn3) (N := 8) (show kn3 < 8 by omega) (by decide)) dX10_proofCharacter_50 ?_
        refine lv_topl (fun yn26 eyn26 => ?_)
        refine lv_iload_n hx hb dX10_proofCharacter_51 rfl (lv_at hl 2 rfl) ?_
        obtain ⟨hPc, hDc, hFc⟩ := PDq.cut (wc := []) hP hD hS hA [] (by decide) rfl
        refine va_calli (va_runS (As := [.long yn26, .int (nI kn21)]) (rest := []) ⟨hx, hb, hml, hown, hts⟩ (r_letterOf l D cA sa yn26 kn21 H.size (by omega)) (va_cwS 2 hts gX10_proofCharacter_X10_letterOf rfl rfl rfl (by decide +kernel) ⟨(Nat.le_of_ble_eq_true rfl), (Nat.le_of_ble_eq_true rfl)⟩) ⟨Wd.blind, fun U hU hW => ⟨rfl, Wd.call hPc hDc hK hC hZ hS hFc U hU hW⟩⟩ rfl rfl hl.1 rfl (lv_room (Nat.le_of_ble_eq_true rfl)) dX10_proofCharacter_52 ⟨(Nat.le_of_ble_eq_true rfl), (Nat.le_of_ble_eq_true rfl)⟩) hS (fun q _ h => hFc q h) hFc (fun rn27 u t H1 locs ht hvm hw hB hz1 hk1 hS => ?_)
        obtain ⟨hP1, hD1⟩ := hB
        rw [ht] at hP1
        obtain ⟨hP, hD⟩ := PDq.join (w := [(v29, .inl (cA 1, 8, .inr (.inl l29))), (oX10 w0 v0 v1 v2 v3 v4 g5 g6 (nI ed) 0 v9 (nI nb) g11 g12 v13 g14 g15 g16 g17 g18 g19 g20 g21 g22 g23 g24 g25 g26 v27 v28 v29 v30 v31 v32 v33 v34 v35 v36 v37 (nI ol)), (v0, .inl (cA 0, 326, .inl fs))]) 3 hP hD [] [0, 1, 2] rfl rfl (by decide) (by decide) hk1 hFc hP1 hD1 rfl
        generalize H1 = H at hP hS ⊢
        refine lv_i2c hx hb dX10_proofCharacter_55 rfl ?_
        refine lv_topi (fun yn28 eyn28 => ?_)
        refine lv_goto (tgt := 60) hx hb dX10_proofCharacter_56 (by decide) ?_
        obtain ⟨hP9, hD9⟩ := PDq.sub (ws' := [(oX10 w0 v0 v1 v2 v3 v4 g5 g6 (nI ed) 0 v9 (nI nb) g11 g12 v13 g14 g15 g16 g17 g18 g19 g20 g21 g22 g23 g24 g25 g26 v27 v28 v29 v30 v31 v32 v33 v34 v35 v36 v37 (nI ol)), (v0, .inl (cA 0, 326, .inl fs)), (v29, .inl (cA 1, 8, .inr (.inl l29)))]) hP hD [1, 2, 0] (by decide) rfl
        refine W.widen (k := 0) (n := 0) (Nat.le_of_ble_eq_true rfl) (Nat.le_of_ble_eq_true rfl) ?_
        exact (W.zret (v := yn28) hx hb hr (nar_i2c eyn28) (fun t ht hW => ⟨⟨yn28, (), rfl, trivial, 0, by rw [ht]; exact hP9, hD9⟩, hS.F ht⟩) hS.2.2 dX10_proofCharacter_60)
      · skip
        subst hr9
        refine lv_if_eq (tgt := 34) hx hb dX10_proofCharacter_27 (by decide) (fun c29 => ?_) (fun c9 => absurd c9 (by decide))
        refine lv_iconst (v := 1) hx hb dX10_proofCharacter_34 (by decide) ?_
        refine va_put (D := D) (ci := 11) (v := .int 1) (ty := .int) (C := RX10) (T := TX10) (N := 39) hx hb hts inX10 tyX10 tyX10_ok nmX10 hown hK hP hD hS 1 rfl rfl 8 (by decide) (hts (.fieldLink RX10 80 "EscrowDeskModel" "thrown" "I") (by decide +kernel)) (fun _ h9 => h9) rfl (by decide +kernel) rfl rfl (Nat.le_of_ble_eq_true rfl) dX10_proofCharacter_35 (fun H locs hP hD hS => ?_)
        obtain ⟨hP, hD⟩ : PDq D A [(v29, .inl (cA 1, 8, .inr (.inl l29))), (oX10 w0 v0 v1 v2 v3 v4 g5 g6 (nI ed) 1 v9 (nI nb) g11 g12 v13 g14 g15 g16 g17 g18 g19 g20 g21 g22 g23 g24 g25 g26 v27 v28 v29 v30 v31 v32 v33 v34 v35 v36 v37 (nI ol)), (v0, .inl (cA 0, 326, .inl fs))] H := ⟨hP, hD⟩
        refine lv_aload_n hx hb dX10_proofCharacter_38 rfl (lv_at hl 0 rfl) ?_
        refine va_get (D := D) (ci := 11) (v := .int 1) (C := RX10) (T := TX10) (N := 39) hx hb hts inX10 hown hK hP 1 rfl rfl 8 (by decide) (hts (.fieldLink RX10 80 "EscrowDeskModel" "thrown" "I") (by decide +kernel)) (fun _ h9 => h9) rfl dX10_proofCharacter_39 ?_
        refine lv_if_ne (tgt := 59) hx hb dX10_proofCharacter_42 (by decide) (fun c30 => ?_) (fun c9 => absurd c9 (by decide))
        refine lv_iconst (v := 0) hx hb dX10_proofCharacter_59 (by decide) ?_
        obtain ⟨hP9, hD9⟩ := PDq.sub (ws' := [(oX10 w0 v0 v1 v2 v3 v4 g5 g6 (nI ed) 1 v9 (nI nb) g11 g12 v13 g14 g15 g16 g17 g18 g19 g20 g21 g22 g23 g24 g25 g26 v27 v28 v29 v30 v31 v32 v33 v34 v35 v36 v37 (nI ol)), (v0, .inl (cA 0, 326, .inl fs)), (v29, .inl (cA 1, 8, .inr (.inl l29)))]) hP hD [1, 2, 0] (by decide) rfl
        refine W.widen (k := 0) (n := 0) (Nat.le_of_ble_eq_true rfl) (Nat.le_of_ble_eq_true rfl) ?_
        exact (W.zret (v := 0) hx hb hr (by first | rfl | decide) (fun t ht hW => ⟨⟨0, (), rfl, trivial, 1, by rw [ht]; exact hP9, hD9⟩, hS.F ht⟩) hS.2.2 dX10_proofCharacter_60)
  · skip
    subst hr9
    refine lv_if_eq (tgt := 34) hx hb dX10_proofCharacter_6 (by decide) (fun c31 => ?_) (fun c9 => absurd c9 (by decide))
    refine lv_iconst (v := 1) hx hb dX10_proofCharacter_34 (by decide) ?_
    refine va_put (D := D) (ci := 11) (v := .int 1) (ty := .int) (C := RX10) (T := TX10) (N := 39) hx hb hts inX10 tyX10 tyX10_ok nmX10 hown hK hP hD hS 1 rfl rfl 8 (by decide) (hts (.fieldLink RX10 80 "EscrowDeskModel" "thrown" "I") (by decide +kernel)) (fun _ h9 => h9) rfl (by decide +kernel) rfl rfl (Nat.le_of_ble_eq_true rfl) dX10_proofCharacter_35 (fun H locs hP hD hS => ?_)
    obtain ⟨hP, hD⟩ : PDq D A [(v29, .inl (cA 1, 8, .inr (.inl l29))), (oX10 w0 v0 v1 v2 v3 v4 g5 g6 (nI ed) 1 v9 (nI nb) g11 g12 v13 g14 g15 g16 g17 g18 g19 g20 g21 g22 g23 g24 g25 g26 v27 v28 v29 v30 v31 v32 v33 v34 v35 v36 v37 (nI ol)), (v0, .inl (cA 0, 326, .inl fs))] H := ⟨hP, hD⟩
    refine lv_aload_n hx hb dX10_proofCharacter_38 rfl (lv_at hl 0 rfl) ?_
    refine va_get (D := D) (ci := 11) (v := .int 1) (C := RX10) (T := TX10) (N := 39) hx hb hts inX10 hown hK hP 1 rfl rfl 8 (by decide) (hts (.fieldLink RX10 80 "EscrowDeskModel" "thrown" "I") (by decide +kernel)) (fun _ h9 => h9) rfl dX10_proofCharacter_39 ?_
    refine lv_if_ne (tgt := 59) hx hb dX10_proofCharacter_42 (by decide) (fun c32 => ?_) (fun c9 => absurd c9 (by decide))
    refine lv_iconst (v := 0) hx hb dX10_proofCharacter_59 (by decide) ?_
    obtain ⟨hP9, hD9⟩ := PDq.sub (ws' := [(oX10 w0 v0 v1 v2 v3 v4 g5 g6 (nI ed) 1 v9 (nI nb) g11 g12 v13 g14 g15 g16 g17 g18 g19 g20 g21 g22 g23 g24 g25 g26 v27 v28 v29 v30 v31 v32 v33 v34 v35 v36 v37 (nI ol)), (v0, .inl (cA 0, 326, .inl fs)), (v29, .inl (cA 1, 8, .inr (.inl l29)))]) hP hD [1, 2, 0] (by decide) rfl
    refine W.widen (k := 0) (n := 0) (Nat.le_of_ble_eq_true rfl) (Nat.le_of_ble_eq_true rfl) ?_
    exact (W.zret (v := 0) hx hb hr (by first | rfl | decide) (fun t ht hW => ⟨⟨0, (), rfl, trivial, 1, by rw [ht]; exact hP9, hD9⟩, hS.F ht⟩) hS.2.2 dX10_proofCharacter_60)

set_option maxHeartbeats 4000000 in
set_option maxRecDepth 100000 in
/-- reference: feed -/
theorem r_feedFull (l : Launch) (D : va_G) (cA : Nat → ClassId) (sa : Nat → Nat) (w0 : Nat) (ed : Nat) (nb : Nat) (ol : Nat) (v0 : Nat) (v1 : Nat) (v2 : Nat) (v3 : Nat) (v4 : Nat) (v9 : Nat) (v13 : Nat) (v27 : Nat) (v28 : Nat) (v29 : Nat) (v30 : Nat) (v31 : Nat) (v32 : Nat) (v33 : Nat) (v34 : Nat) (v35 : Nat) (v36 : Nat) (v37 : Nat) (g8 : Int32) (g11 : Int32) (g12 : Int32) (g14 : Int32) (g15 : Int32) (g16 : Int32) (g17 : Int32) (g18 : Int32) (g19 : Int32) (g20 : Int32) (g21 : Int32) (g22 : Int32) (g23 : Int32) (g24 : Int32) (g26 : Int32) (g5 : Int64) (g6 : Int64) (g25 : Int64) (w1 : Int32) (w2 : Int32) (w3 : Int32) (w4 : Int32) (w5 : Int32) (sz : Nat) (hnb : 700 < nb + 20) (hnb2 : nb ≤ 700) : Met l yX10_feed wsX10_feed ({ frames := 0, cells := 0, slots := 0, locals := 0 }) (va_Pc [.ref w0, .int w1, .int w2, .int w3, .int w4, .int w5] (Wd D cA sa [(oX10 w0 v0 v1 v2 v3 v4 g5 g6 (nI ed) g8 v9 (nI nb) g11 g12 v13 g14 g15 g16 g17 g18 g19 g20 g21 g22 g23 g24 g25 g26 v27 v28 v29 v30 v31 v32 v33 v34 v35 v36 v37 (nI ol))] sz)) (va_Qi (fun (r : Int32) (_ : Unit) => r = (-2)) (fun (_ : Unit) t => Wq D (va_A [(oX10 w0 v0 v1 v2 v3 v4 g5 g6 (nI ed) g8 v9 (nI nb) g11 g12 v13 g14 g15 g16 g17 g18 g19 g20 g21 g22 g23 g24 g25 g26 v27 v28 v29 v30 v31 v32 v33 v34 v35 v36 v37 (nI ol))] sz) [(oX10 w0 v0 v1 v2 v3 v4 g5 g6 (nI ed) 0 v9 (nI nb) g11 g12 v13 g14 g15 g16 g17 g18 g19 g20 g21 g22 g23 g24 g25 g26 v27 v28 v29 v30 v31 v32 v33 v34 v35 v36 v37 (nI ol))] t) (va_A [(oX10 w0 v0 v1 v2 v3 v4 g5 g6 (nI ed) g8 v9 (nI nb) g11 g12 v13 g14 g15 g16 g17 g18 g19 g20 g21 g22 g23 g24 g25 g26 v27 v28 v29 v30 v31 v32 v33 v34 v35 v36 v37 (nI ol))] sz)) 0 0 (va_A [(oX10 w0 v0 v1 v2 v3 v4 g5 g6 (nI ed) g8 v9 (nI nb) g11 g12 v13 g14 g15 g16 g17 g18 g19 g20 g21 g22 g23 g24 g25 g26 v27 v28 v29 v30 v31 v32 v33 v34 v35 v36 v37 (nI ol))] sz) := by
  refine Met.ofW (cc := cX10_feed) (maxL := 6) (ret := (some .int)) (by decide) rfl ?_
  intro p e s m args below meth c s₁ B hml hv
  obtain ⟨rfl, hsz, hP, hK, hD0, hC, hZ⟩ := hv
  have hx := B.exec
  have hb := B.bytes
  have hr := B.returns
  have hts := atoms_spec (ws := wsX10_feed) B.pre
  have hown : s.vm.findClass RX10 = some m.cls := findClass_of_methodNamed B.named
  have hlocks := B.notSynchronized
  subst hsz
  have hD := hD0.self (sz := s.heap.size)
  generalize hAe : va_A [(oX10 w0 v0 v1 v2 v3 v4 g5 g6 (nI ed) g8 v9 (nI nb) g11 g12 v13 g14 g15 g16 g17 g18 g19 g20 g21 g22 g23 g24 g25 g26 v27 v28 v29 v30 v31 v32 v33 v34 v35 v36 v37 (nI ol))] s.heap.size = A at hD hZ ⊢
  have hA : ∀ q : Nat, s.heap.size ≤ q → A q := fun q h => by rw [← hAe]; exact Or.inr h
  have hS : va_S A s.heap s.heap [] := va_S.rf
  have hP : va_P D vwCl [(oX10 w0 v0 v1 v2 v3 v4 g5 g6 (nI ed) g8 v9 (nI nb) g11 g12 v13 g14 g15 g16 g17 g18 g19 g20 g21 g22 g23 g24 g25 g26 v27 v28 v29 v30 v31 v32 v33 v34 v35 v36 v37 (nI ol))] s.heap := hP
  have hl := lv_entry ([.ref w0, .int w1, .int w2, .int w3, .int w4, .int w5]) (n := 6) (Nat.le_of_ble_eq_true rfl)
  rw [lg_entry_eq]
  generalize (lg_sl ([.ref w0, .int w1, .int w2, .int w3, .int w4, .int w5]) ++ List.replicate (6 - (lg_sl ([.ref w0, .int w1, .int w2, .int w3, .int w4, .int w5])).length) Slot.unset).toArray = ls at hl ⊢
  have hl : lv_has ls 6 [(0, .ref w0), (1, .int w1), (2, .int w2), (3, .int w3), (4, .int w4), (5, .int w5)] := hl
  have inX10 : ∀ w ∈ u_ws RX10 TX10 39, w ∈ wsX10_feed := by decide +kernel
  refine lv_aload_n hx hb dX10_feed_0 rfl (lv_at hl 0 rfl) ?_
  refine lv_iconst (v := 0) hx hb dX10_feed_1 (by decide) ?_
  refine va_put (D := D) (ci := 11) (v := .int 0) (ty := .int) (C := RX10) (T := TX10) (N := 39) hx hb hts inX10 tyX10 tyX10_ok nmX10 hown hK hP hD hS 0 rfl rfl 8 (by decide) (hts (.fieldLink RX10 80 "EscrowDeskModel" "thrown" "I") (by decide +kernel)) (fun _ h9 => h9) rfl (by decide +kernel) rfl rfl (Nat.le_of_ble_eq_true rfl) dX10_feed_2 (fun H locs hP hD hS => ?_)
  obtain ⟨hP, hD⟩ : PDq D A [(oX10 w0 v0 v1 v2 v3 v4 g5 g6 (nI ed) 0 v9 (nI nb) g11 g12 v13 g14 g15 g16 g17 g18 g19 g20 g21 g22 g23 g24 g25 g26 v27 v28 v29 v30 v31 v32 v33 v34 v35 v36 v37 (nI ol))] H := ⟨hP, hD⟩
  refine lv_aload_n hx hb dX10_feed_5 rfl (lv_at hl 0 rfl) ?_
  refine va_get (D := D) (ci := 11) (v := .int (nI nb)) (C := RX10) (T := TX10) (N := 39) hx hb hts inX10 hown hK hP 0 rfl rfl 10 (by decide) (hts (.fieldLink RX10 90 "EscrowDeskModel" "buffered" "I") (by decide +kernel)) (fun _ h9 => h9) rfl dX10_feed_6 ?_
  refine lv_bipush (v := 20) hx hb dX10_feed_9 (by decide) ?_
  refine lv_iadd hx hb dX10_feed_11 ?_
  refine lv_topi (fun yn1 eyn1 => ?_)
  obtain rfl : yn1 = (nI (nb + 20)) := eyn1.trans (nI_add nb 20)
  refine lv_sipush (v := 700) hx hb dX10_feed_12 (by decide) ?_
  refine lv_icmp_le (tgt := 21) hx hb dX10_feed_15 (by decide) (fun c9 => absurd c9 (nI_ge (a := 700) (b := (nb + 20)) (show 700 < (nb + 20) by omega) (by omega))) (fun c2 => ?_)
  refine lv_bipush (v := (-2)) hx hb dX10_feed_18 (by decide) ?_
  obtain ⟨hP9, hD9⟩ := PDq.sub (ws' := [(oX10 w0 v0 v1 v2 v3 v4 g5 g6 (nI ed) 0 v9 (nI nb) g11 g12 v13 g14 g15 g16 g17 g18 g19 g20 g21 g22 g23 g24 g25 g26 v27 v28 v29 v30 v31 v32 v33 v34 v35 v36 v37 (nI ol))]) hP hD [0] (by decide) rfl
  refine W.widen (k := 0) (n := 0) (Nat.le_of_ble_eq_true rfl) (Nat.le_of_ble_eq_true rfl) ?_
  exact (W.iret (v := (-2)) hx hb hr (fun t ht hW => ⟨⟨(-2), (), rfl, rfl, by rw [ht]; exact hP9, hD9⟩, hS.F ht⟩) hS.2.2 dX10_feed_20)

set_option maxHeartbeats 4000000 in
set_option maxRecDepth 100000 in
/-- reference: emit -/
theorem r_emit (l : Launch) (D : va_G) (cA : Nat → ClassId) (sa : Nat → Nat) (w0 : Nat) (ed : Nat) (nb : Nat) (ol : Nat) (v0 : Nat) (v1 : Nat) (v2 : Nat) (v3 : Nat) (v4 : Nat) (v9 : Nat) (v13 : Nat) (v27 : Nat) (v28 : Nat) (v29 : Nat) (v30 : Nat) (v31 : Nat) (v32 : Nat) (v33 : Nat) (v34 : Nat) (v35 : Nat) (v36 : Nat) (v37 : Nat) (g8 : Int32) (g11 : Int32) (g12 : Int32) (g14 : Int32) (g15 : Int32) (g16 : Int32) (g17 : Int32) (g18 : Int32) (g19 : Int32) (g20 : Int32) (g21 : Int32) (g22 : Int32) (g23 : Int32) (g26 : Int32) (g5 : Int64) (g6 : Int64) (g25 : Int64) (cd : Nat) (a : Int32) (fc : Nat → Int32) (sz : Nat) (hcd : cd < 400) : Met l yX10_emit wsX10_emit ({ frames := 0, cells := 0, slots := 0, locals := 0 }) (va_Pc [.ref w0, .int a] (Wd D cA sa [(oX10 w0 v0 v1 v2 v3 v4 g5 g6 (nI ed) g8 v9 (nI nb) g11 g12 v13 g14 g15 g16 g17 g18 g19 g20 g21 g22 g23 (nI cd) g25 g26 v27 v28 v29 v30 v31 v32 v33 v34 v35 v36 v37 (nI ol)), (v32, .inl (cA 0, 400, .inl fc))] sz)) (va_Qi (fun (r : Int32) (_ : Unit) => r = 1) (fun (_ : Unit) t => ∃ zc : Nat → Int32, Em cd a fc zc ∧ Wq D (va_A [(oX10 w0 v0 v1 v2 v3 v4 g5 g6 (nI ed) g8 v9 (nI nb) g11 g12 v13 g14 g15 g16 g17 g18 g19 g20 g21 g22 g23 (nI cd) g25 g26 v27 v28 v29 v30 v31 v32 v33 v34 v35 v36 v37 (nI ol)), (v32, .inl (cA 0, 400, .inl fc))] sz) [(oX10 w0 v0 v1 v2 v3 v4 g5 g6 (nI ed) g8 v9 (nI nb) g11 g12 v13 g14 g15 g16 g17 g18 g19 g20 g21 g22 g23 (nI (cd + 1)) g25 g26 v27 v28 v29 v30 v31 v32 v33 v34 v35 v36 v37 (nI ol)), (v32, .inl (cA 0, 400, .inl zc))] t) (va_A [(oX10 w0 v0 v1 v2 v3 v4 g5 g6 (nI ed) g8 v9 (nI nb) g11 g12 v13 g14 g15 g16 g17 g18 g19 g20 g21 g22 g23 (nI cd) g25 g26 v27 v28 v29 v30 v31 v32 v33 v34 v35 v36 v37 (nI ol)), (v32, .inl (cA 0, 400, .inl fc))] sz)) 0 0 (va_A [(oX10 w0 v0 v1 v2 v3 v4 g5 g6 (nI ed) g8 v9 (nI nb) g11 g12 v13 g14 g15 g16 g17 g18 g19 g20 g21 g22 g23 (nI cd) g25 g26 v27 v28 v29 v30 v31 v32 v33 v34 v35 v36 v37 (nI ol)), (v32, .inl (cA 0, 400, .inl fc))] sz) := by
  refine Met.ofW (cc := cX10_emit) (maxL := 2) (ret := (some .boolean)) (by decide) rfl ?_
  intro p e s m args below meth c s₁ B hml hv
  obtain ⟨rfl, hsz, hP, hK, hD0, hC, hZ⟩ := hv
  have hx := B.exec
  have hb := B.bytes
  have hr := B.returns
  have hts := atoms_spec (ws := wsX10_emit) B.pre
  have hown : s.vm.findClass RX10 = some m.cls := findClass_of_methodNamed B.named
  have hlocks := B.notSynchronized
  subst hsz
  have hD := hD0.self (sz := s.heap.size)
  generalize hAe : va_A [(oX10 w0 v0 v1 v2 v3 v4 g5 g6 (nI ed) g8 v9 (nI nb) g11 g12 v13 g14 g15 g16 g17 g18 g19 g20 g21 g22 g23 (nI cd) g25 g26 v27 v28 v29 v30 v31 v32 v33 v34 v35 v36 v37 (nI ol)), (v32, .inl (cA 0, 400, .inl fc))] s.heap.size = A at hD hZ ⊢
  have hA : ∀ q : Nat, s.heap.size ≤ q → A q := fun q h => by rw [← hAe]; exact Or.inr h
  have hS : va_S A s.heap s.heap [] := va_S.rf
  have hP : va_P D vwCl [(oX10 w0 v0 v1 v2 v3 v4 g5 g6 (nI ed) g8 v9 (nI nb) g11 g12 v13 g14 g15 g16 g17 g18 g19 g20 g21 g22 g23 (nI cd) g25 g26 v27 v28 v29 v30 v31 v32 v33 v34 v35 v36 v37 (nI ol)), (v32, .inl (cA 0, 400, .inl fc))] s.heap := hP
  have hl := lv_entry ([.ref w0, .int a]) (n := 2) (Nat.le_of_ble_eq_true rfl)
  rw [lg_entry_eq]
  generalize (lg_sl ([.ref w0, .int a]) ++ List.replicate (2 - (lg_sl ([.ref w0, .int a])).length) Slot.unset).toArray = ls at hl ⊢
  have hl : lv_has ls 2 [(0, .ref w0), (1, .int a)] := hl
  have inX10 : ∀ w ∈ u_ws RX10 TX10 39, w ∈ wsX10_emit := by decide +kernel
  refine lv_aload_n hx hb dX10_emit_0 rfl (lv_at hl 0 rfl) ?_
  refine va_get (D := D) (ci := 11) (v := .ref v32) (C := RX10) (T := TX10) (N := 39) hx hb hts inX10 hown hK hP 0 rfl rfl 32 (by decide) (hts (.fieldLink RX10 51 "EscrowDeskModel" "codeRead" "[I") (by decide +kernel)) (fun _ h9 => h9) rfl dX10_emit_1 ?_
  refine lv_aload_n hx hb dX10_emit_4 rfl (lv_at hl 0 rfl) ?_
  refine va_get (D := D) (ci := 11) (v := .int (nI cd)) (C := RX10) (T := TX10) (N := 39) hx hb hts inX10 hown hK hP 0 rfl rfl 24 (by decide) (hts (.fieldLink RX10 167 "EscrowDeskModel" "codes" "I") (by decide +kernel)) (fun _ h9 => h9) rfl dX10_emit_5 ?_
  refine lv_iload_n hx hb dX10_emit_8 rfl (lv_at hl 1 rfl) ?_
  refine va_iast hx hb hK hP hD hS 1 0 rfl rfl (vp_in_nI (n := cd) (N := 400) (show cd < 400 by omega) (by decide)) dX10_emit_9 (fun H locs hP hD hS => ?_)
  obtain ⟨hP, hD⟩ : PDq D A [(oX10 w0 v0 v1 v2 v3 v4 g5 g6 (nI ed) g8 v9 (nI nb) g11 g12 v13 g14 g15 g16 g17 g18 g19 g20 g21 g22 g23 (nI cd) g25 g26 v27 v28 v29 v30 v31 v32 v33 v34 v35 v36 v37 (nI ol)), (v32, .inl (cA 0, 400, .inl (upd fc (((nI cd)).toNatClampNeg) a)))] H := ⟨hP, hD⟩
  have hn2 : Em cd a fc (upd fc (((nI cd)).toNatClampNeg) a) := (Em.of (by omega))
  generalize (upd fc (((nI cd)).toNatClampNeg) a) = fn1 at hP hD hn2
  obtain ⟨hP, hD⟩ : PDq D A [(oX10 w0 v0 v1 v2 v3 v4 g5 g6 (nI ed) g8 v9 (nI nb) g11 g12 v13 g14 g15 g16 g17 g18 g19 g20 g21 g22 g23 (nI cd) g25 g26 v27 v28 v29 v30 v31 v32 v33 v34 v35 v36 v37 (nI ol)), (v32, .inl (cA 0, 400, .inl fn1))] H := ⟨hP, hD⟩
  refine lv_aload_n hx hb dX10_emit_10 rfl (lv_at hl 0 rfl) ?_
  refine lv_dup hx hb dX10_emit_11 rfl ?_
  refine va_get (D := D) (ci := 11) (v := .int (nI cd)) (C := RX10) (T := TX10) (N := 39) hx hb hts inX10 hown hK hP 0 rfl rfl 24 (by decide) (hts (.fieldLink RX10 167 "EscrowDeskModel" "codes" "I") (by decide +kernel)) (fun _ h9 => h9) rfl dX10_emit_12 ?_
  refine lv_iconst (v := 1) hx hb dX10_emit_15 (by decide) ?_
  refine lv_iadd hx hb dX10_emit_16 ?_
  refine lv_topi (fun yn3 eyn3 => ?_)
  obtain rfl : yn3 = (nI (cd + 1)) := eyn3.trans (nI_add cd 1)
  refine va_put (D := D) (ci := 11) (v := .int (nI (cd + 1))) (ty := .int) (C := RX10) (T := TX10) (N := 39) hx hb hts inX10 tyX10 tyX10_ok nmX10 hown hK hP hD hS 0 rfl rfl 24 (by decide) (hts (.fieldLink RX10 167 "EscrowDeskModel" "codes" "I") (by decide +kernel)) (fun _ h9 => h9) rfl (by decide +kernel) rfl rfl (Nat.le_of_ble_eq_true rfl) dX10_emit_17 (fun H locs hP hD hS => ?_)
  obtain ⟨hP, hD⟩ : PDq D A [(oX10 w0 v0 v1 v2 v3 v4 g5 g6 (nI ed) g8 v9 (nI nb) g11 g12 v13 g14 g15 g16 g17 g18 g19 g20 g21 g22 g23 (nI (cd + 1)) g25 g26 v27 v28 v29 v30 v31 v32 v33 v34 v35 v36 v37 (nI ol)), (v32, .inl (cA 0, 400, .inl fn1))] H := ⟨hP, hD⟩
  refine lv_iconst (v := 1) hx hb dX10_emit_20 (by decide) ?_
  obtain ⟨hP9, hD9⟩ := PDq.sub (ws' := [(oX10 w0 v0 v1 v2 v3 v4 g5 g6 (nI ed) g8 v9 (nI nb) g11 g12 v13 g14 g15 g16 g17 g18 g19 g20 g21 g22 g23 (nI (cd + 1)) g25 g26 v27 v28 v29 v30 v31 v32 v33 v34 v35 v36 v37 (nI ol)), (v32, .inl (cA 0, 400, .inl fn1))]) hP hD [0, 1] (by decide) rfl
  refine W.widen (k := 0) (n := 0) (Nat.le_of_ble_eq_true rfl) (Nat.le_of_ble_eq_true rfl) ?_
  exact (W.zret (v := 1) hx hb hr (by first | rfl | decide) (fun t ht hW => ⟨⟨1, (), rfl, rfl, fn1, hn2, by rw [ht]; exact hP9, hD9⟩, hS.F ht⟩) hS.2.2 dX10_emit_21)

set_option maxHeartbeats 4000000 in
set_option maxRecDepth 100000 in
/-- reference: between -/
theorem r_betweenT (l : Launch) (D : va_G) (cA : Nat → ClassId) (sa : Nat → Nat) (a : Int64) (lo : Int64) (hi : Int64) (sz : Nat) (h1 : lo ≤ a) (h2 : a ≤ hi) : Met l yX10_between wsX10_between ({ frames := 0, cells := 0, slots := 0, locals := 0 }) (va_Pc [.long a, .long lo, .long hi] (Wd D cA sa [] sz)) (va_Qi (fun (r : Int32) (_ : Unit) => r = 1) (fun (_ : Unit) t => Wq D (va_A [] sz) [] t) (va_A [] sz)) 0 0 (va_A [] sz) := by
  refine Met.ofW (cc := cX10_between) (maxL := 6) (ret := (some .boolean)) (by decide) rfl ?_
  intro p e s m args below meth c s₁ B hml hv
  obtain ⟨rfl, hsz, hP, hK, hD0, hC, hZ⟩ := hv
  have hx := B.exec
  have hb := B.bytes
  have hr := B.returns
  have hts := atoms_spec (ws := wsX10_between) B.pre
  have hown : s.vm.findClass RX10 = some m.cls := findClass_of_methodNamed B.named
  have hlocks := B.notSynchronized
  subst hsz
  have hD := hD0.self (sz := s.heap.size)
  generalize hAe : va_A [] s.heap.size = A at hD hZ ⊢
  have hA : ∀ q : Nat, s.heap.size ≤ q → A q := fun q h => by rw [← hAe]; exact Or.inr h
  have hS : va_S A s.heap s.heap [] := va_S.rf
  have hP : va_P D vwCl [] s.heap := hP
  have hl := lv_entry ([.long a, .long lo, .long hi]) (n := 6) (Nat.le_of_ble_eq_true rfl)
  rw [lg_entry_eq]
  generalize (lg_sl ([.long a, .long lo, .long hi]) ++ List.replicate (6 - (lg_sl ([.long a, .long lo, .long hi])).length) Slot.unset).toArray = ls at hl ⊢
  have hl : lv_has ls 6 [(0, .long a), (2, .long lo), (4, .long hi)] := hl
  refine lv_lload_n hx hb dX10_between_0 rfl (lv_at hl 0 rfl) ?_
  refine lv_lload_n hx hb dX10_between_1 rfl (lv_at hl 1 rfl) ?_
  refine W.lcmp hx hb dX10_between_2 ?_
  refine lv_if_lt (tgt := 17) hx hb dX10_between_3 (by decide) (fun c1 => ?_) (fun c1 => ?_)
  · skip
    refine lv_iconst (v := 0) hx hb dX10_between_17 (by decide) ?_
    obtain ⟨hP9, hD9⟩ := PDq.sub (ws' := []) hP hD [] (by decide) rfl
    refine W.widen (k := 0) (n := 0) (Nat.le_of_ble_eq_true rfl) (Nat.le_of_ble_eq_true rfl) ?_
    exact (W.zret (v := 0) hx hb hr (by first | rfl | decide) (fun t ht hW => ⟨⟨0, (), rfl, (absurd (lg_lt.mp c1) (Int64.not_lt.mpr h1)), by rw [ht]; exact hP9, hD9⟩, hS.F ht⟩) hS.2.2 dX10_between_18)
  · skip
    refine lv_lload_n hx hb dX10_between_6 rfl (lv_at hl 0 rfl) ?_
    refine lv_lload hx hb dX10_between_7 (lv_at hl 2 rfl) ?_
    refine W.lcmp hx hb dX10_between_9 ?_
    refine lv_if_gt (tgt := 17) hx hb dX10_between_10 (by decide) (fun c2 => ?_) (fun c2 => ?_)
    · skip
      refine lv_iconst (v := 0) hx hb dX10_between_17 (by decide) ?_
      obtain ⟨hP9, hD9⟩ := PDq.sub (ws' := []) hP hD [] (by decide) rfl
      refine W.widen (k := 0) (n := 0) (Nat.le_of_ble_eq_true rfl) (Nat.le_of_ble_eq_true rfl) ?_
      exact (W.zret (v := 0) hx hb hr (by first | rfl | decide) (fun t ht hW => ⟨⟨0, (), rfl, (absurd (lg_gt.mp c2) (Int64.not_lt.mpr h2)), by rw [ht]; exact hP9, hD9⟩, hS.F ht⟩) hS.2.2 dX10_between_18)
    · skip
      refine lv_iconst (v := 1) hx hb dX10_between_13 (by decide) ?_
      refine lv_goto (tgt := 18) hx hb dX10_between_14 (by decide) ?_
      obtain ⟨hP9, hD9⟩ := PDq.sub (ws' := []) hP hD [] (by decide) rfl
      refine W.widen (k := 0) (n := 0) (Nat.le_of_ble_eq_true rfl) (Nat.le_of_ble_eq_true rfl) ?_
      exact (W.zret (v := 1) hx hb hr (by first | rfl | decide) (fun t ht hW => ⟨⟨1, (), rfl, rfl, by rw [ht]; exact hP9, hD9⟩, hS.F ht⟩) hS.2.2 dX10_between_18)

set_option maxHeartbeats 4000000 in
set_option maxRecDepth 100000 in
/-- reference: between -/
theorem r_betweenF (l : Launch) (D : va_G) (cA : Nat → ClassId) (sa : Nat → Nat) (a : Int64) (lo : Int64) (hi : Int64) (sz : Nat) (hno : ¬ (lo ≤ a ∧ a ≤ hi)) : Met l yX10_between wsX10_between ({ frames := 0, cells := 0, slots := 0, locals := 0 }) (va_Pc [.long a, .long lo, .long hi] (Wd D cA sa [] sz)) (va_Qi (fun (r : Int32) (_ : Unit) => r = 0) (fun (_ : Unit) t => Wq D (va_A [] sz) [] t) (va_A [] sz)) 0 0 (va_A [] sz) := by
  refine Met.ofW (cc := cX10_between) (maxL := 6) (ret := (some .boolean)) (by decide) rfl ?_
  intro p e s m args below meth c s₁ B hml hv
  obtain ⟨rfl, hsz, hP, hK, hD0, hC, hZ⟩ := hv
  have hx := B.exec
  have hb := B.bytes
  have hr := B.returns
  have hts := atoms_spec (ws := wsX10_between) B.pre
  have hown : s.vm.findClass RX10 = some m.cls := findClass_of_methodNamed B.named
  have hlocks := B.notSynchronized
  subst hsz
  have hD := hD0.self (sz := s.heap.size)
  generalize hAe : va_A [] s.heap.size = A at hD hZ ⊢
  have hA : ∀ q : Nat, s.heap.size ≤ q → A q := fun q h => by rw [← hAe]; exact Or.inr h
  have hS : va_S A s.heap s.heap [] := va_S.rf
  have hP : va_P D vwCl [] s.heap := hP
  have hl := lv_entry ([.long a, .long lo, .long hi]) (n := 6) (Nat.le_of_ble_eq_true rfl)
  rw [lg_entry_eq]
  generalize (lg_sl ([.long a, .long lo, .long hi]) ++ List.replicate (6 - (lg_sl ([.long a, .long lo, .long hi])).length) Slot.unset).toArray = ls at hl ⊢
  have hl : lv_has ls 6 [(0, .long a), (2, .long lo), (4, .long hi)] := hl
  refine lv_lload_n hx hb dX10_between_0 rfl (lv_at hl 0 rfl) ?_
  refine lv_lload_n hx hb dX10_between_1 rfl (lv_at hl 1 rfl) ?_
  refine W.lcmp hx hb dX10_between_2 ?_
  refine lv_if_lt (tgt := 17) hx hb dX10_between_3 (by decide) (fun c1 => ?_) (fun c1 => ?_)
  · skip
    refine lv_iconst (v := 0) hx hb dX10_between_17 (by decide) ?_
    obtain ⟨hP9, hD9⟩ := PDq.sub (ws' := []) hP hD [] (by decide) rfl
    refine W.widen (k := 0) (n := 0) (Nat.le_of_ble_eq_true rfl) (Nat.le_of_ble_eq_true rfl) ?_
    exact (W.zret (v := 0) hx hb hr (by first | rfl | decide) (fun t ht hW => ⟨⟨0, (), rfl, rfl, by rw [ht]; exact hP9, hD9⟩, hS.F ht⟩) hS.2.2 dX10_between_18)
  · skip
    refine lv_lload_n hx hb dX10_between_6 rfl (lv_at hl 0 rfl) ?_
    refine lv_lload hx hb dX10_between_7 (lv_at hl 2 rfl) ?_
    refine W.lcmp hx hb dX10_between_9 ?_
    refine lv_if_gt (tgt := 17) hx hb dX10_between_10 (by decide) (fun c2 => ?_) (fun c2 => ?_)
    · skip
      refine lv_iconst (v := 0) hx hb dX10_between_17 (by decide) ?_
      obtain ⟨hP9, hD9⟩ := PDq.sub (ws' := []) hP hD [] (by decide) rfl
      refine W.widen (k := 0) (n := 0) (Nat.le_of_ble_eq_true rfl) (Nat.le_of_ble_eq_true rfl) ?_
      exact (W.zret (v := 0) hx hb hr (by first | rfl | decide) (fun t ht hW => ⟨⟨0, (), rfl, rfl, by rw [ht]; exact hP9, hD9⟩, hS.F ht⟩) hS.2.2 dX10_between_18)
    · skip
      refine lv_iconst (v := 1) hx hb dX10_between_13 (by decide) ?_
      refine lv_goto (tgt := 18) hx hb dX10_between_14 (by decide) ?_
      obtain ⟨hP9, hD9⟩ := PDq.sub (ws' := []) hP hD [] (by decide) rfl
      refine W.widen (k := 0) (n := 0) (Nat.le_of_ble_eq_true rfl) (Nat.le_of_ble_eq_true rfl) ?_
      exact (W.zret (v := 1) hx hb hr (by first | rfl | decide) (fun t ht hW => ⟨⟨1, (), rfl, (absurd ⟨lg_nlt c1, lg_ngt c2⟩ hno), by rw [ht]; exact hP9, hD9⟩, hS.F ht⟩) hS.2.2 dX10_between_18)

set_option maxHeartbeats 4000000 in
set_option maxRecDepth 100000 in
/-- reference: load -/
theorem r_loadOut (l : Launch) (D : va_G) (cA : Nat → ClassId) (sa : Nat → Nat) (w0 : Nat) (ed : Nat) (nb : Nat) (ol : Nat) (v0 : Nat) (v1 : Nat) (v2 : Nat) (v3 : Nat) (v4 : Nat) (v9 : Nat) (v13 : Nat) (v27 : Nat) (v28 : Nat) (v29 : Nat) (v30 : Nat) (v31 : Nat) (v32 : Nat) (v33 : Nat) (v34 : Nat) (v35 : Nat) (v36 : Nat) (v37 : Nat) (g8 : Int32) (g11 : Int32) (g12 : Int32) (g14 : Int32) (g15 : Int32) (g16 : Int32) (g17 : Int32) (g18 : Int32) (g19 : Int32) (g20 : Int32) (g21 : Int32) (g22 : Int32) (g23 : Int32) (g24 : Int32) (g26 : Int32) (g5 : Int64) (g6 : Int64) (g25 : Int64) (i : Int32) (sz : Nat) (hout : i < 0 ∨ nI nb < i) (hnb : nb ≤ 700) : Met l yX10_load wsX10_load ({ frames := 1, cells := 0, slots := 0, locals := 25 }) (va_Pc [.ref w0, .int i] (Wd D cA sa [(oX10 w0 v0 v1 v2 v3 v4 g5 g6 (nI ed) g8 v9 (nI nb) g11 g12 v13 g14 g15 g16 g17 g18 g19 g20 g21 g22 g23 g24 g25 g26 v27 v28 v29 v30 v31 v32 v33 v34 v35 v36 v37 (nI ol))] sz)) (va_Qi (fun (r : Int32) (_ : Unit) => r = 0) (fun (_ : Unit) t => Wq D (va_A [(oX10 w0 v0 v1 v2 v3 v4 g5 g6 (nI ed) g8 v9 (nI nb) g11 g12 v13 g14 g15 g16 g17 g18 g19 g20 g21 g22 g23 g24 g25 g26 v27 v28 v29 v30 v31 v32 v33 v34 v35 v36 v37 (nI ol))] sz) [(oX10 w0 v0 v1 v2 v3 v4 g5 g6 (nI ed) 1 v9 (nI nb) g11 g12 v13 g14 g15 g16 g17 g18 g19 g20 g21 g22 g23 g24 g25 g26 v27 v28 v29 v30 v31 v32 v33 v34 v35 v36 v37 (nI ol))] t) (va_A [(oX10 w0 v0 v1 v2 v3 v4 g5 g6 (nI ed) g8 v9 (nI nb) g11 g12 v13 g14 g15 g16 g17 g18 g19 g20 g21 g22 g23 g24 g25 g26 v27 v28 v29 v30 v31 v32 v33 v34 v35 v36 v37 (nI ol))] sz)) 0 0 (va_A [(oX10 w0 v0 v1 v2 v3 v4 g5 g6 (nI ed) g8 v9 (nI nb) g11 g12 v13 g14 g15 g16 g17 g18 g19 g20 g21 g22 g23 g24 g25 g26 v27 v28 v29 v30 v31 v32 v33 v34 v35 v36 v37 (nI ol))] sz) := by
  refine Met.ofW (cc := cX10_load) (maxL := 3) (ret := (some .int)) (by decide) rfl ?_
  intro p e s m args below meth c s₁ B hml hv
  obtain ⟨rfl, hsz, hP, hK, hD0, hC, hZ⟩ := hv
  have hx := B.exec
  have hb := B.bytes
  have hr := B.returns
  have hts := atoms_spec (ws := wsX10_load) B.pre
  have hown : s.vm.findClass RX10 = some m.cls := findClass_of_methodNamed B.named
  have hlocks := B.notSynchronized
  subst hsz
  have hD := hD0.self (sz := s.heap.size)
  generalize hAe : va_A [(oX10 w0 v0 v1 v2 v3 v4 g5 g6 (nI ed) g8 v9 (nI nb) g11 g12 v13 g14 g15 g16 g17 g18 g19 g20 g21 g22 g23 g24 g25 g26 v27 v28 v29 v30 v31 v32 v33 v34 v35 v36 v37 (nI ol))] s.heap.size = A at hD hZ ⊢
  have hA : ∀ q : Nat, s.heap.size ≤ q → A q := fun q h => by rw [← hAe]; exact Or.inr h
  have hS : va_S A s.heap s.heap [] := va_S.rf
  have hP : va_P D vwCl [(oX10 w0 v0 v1 v2 v3 v4 g5 g6 (nI ed) g8 v9 (nI nb) g11 g12 v13 g14 g15 g16 g17 g18 g19 g20 g21 g22 g23 g24 g25 g26 v27 v28 v29 v30 v31 v32 v33 v34 v35 v36 v37 (nI ol))] s.heap := hP
  have hl := lv_entry ([.ref w0, .int i]) (n := 3) (Nat.le_of_ble_eq_true rfl)
  rw [lg_entry_eq]
  generalize (lg_sl ([.ref w0, .int i]) ++ List.replicate (3 - (lg_sl ([.ref w0, .int i])).length) Slot.unset).toArray = ls at hl ⊢
  have hl : lv_has ls 3 [(0, .ref w0), (1, .int i)] := hl
  have inX10 : ∀ w ∈ u_ws RX10 TX10 39, w ∈ wsX10_load := by decide +kernel
  refine lv_aload_n hx hb dX10_load_0 rfl (lv_at hl 0 rfl) ?_
  refine lv_iload_n hx hb dX10_load_1 rfl (lv_at hl 1 rfl) ?_
  refine lv_i2l (v := (i.toInt64)) hx hb dX10_load_2 rfl ?_
  refine lv_lconst (v := 0) hx hb dX10_load_3 (by decide) ?_
  refine lv_aload_n hx hb dX10_load_4 rfl (lv_at hl 0 rfl) ?_
  refine va_get (D := D) (ci := 11) (v := .int (nI nb)) (C := RX10) (T := TX10) (N := 39) hx hb hts inX10 hown hK hP 0 rfl rfl 10 (by decide) (hts (.fieldLink RX10 90 "EscrowDeskModel" "buffered" "I") (by decide +kernel)) (fun _ h9 => h9) rfl dX10_load_5 ?_
  refine lv_i2l (v := ((nI nb).toInt64)) hx hb dX10_load_8 rfl ?_
  obtain ⟨hPc, hDc, hFc⟩ := PDq.cut (wc := []) hP hD hS hA [] (by decide) rfl
  refine va_calli (va_runS (As := [.long (i.toInt64), .long 0, .long ((nI nb).toInt64)]) (rest := [.ref w0]) ⟨hx, hb, hml, hown, hts⟩ (r_betweenF l D cA sa (i.toInt64) 0 ((nI nb).toInt64) s.heap.size (l64_no hout)) (va_cwS 3 hts gX10_load_X10_between rfl rfl rfl (by decide +kernel) ⟨(Nat.le_of_ble_eq_true rfl), (Nat.le_of_ble_eq_true rfl)⟩) ⟨Wd.blind, fun U hU hW => ⟨rfl, Wd.call hPc hDc hK hC hZ hS hFc U hU hW⟩⟩ rfl rfl hl.1 rfl (lv_room (Nat.le_of_ble_eq_true rfl)) dX10_load_9 ⟨(Nat.le_of_ble_eq_true rfl), (Nat.le_of_ble_eq_true rfl)⟩) hS (fun q _ h => hFc q h) hFc (fun rn1 u t H1 locs ht hvm hw hB hz1 hk1 hS => ?_)
  obtain ⟨hP1, hD1⟩ := hB
  rw [ht] at hP1
  obtain ⟨hP, hD⟩ := PDq.join (w := [(oX10 w0 v0 v1 v2 v3 v4 g5 g6 (nI ed) g8 v9 (nI nb) g11 g12 v13 g14 g15 g16 g17 g18 g19 g20 g21 g22 g23 g24 g25 g26 v27 v28 v29 v30 v31 v32 v33 v34 v35 v36 v37 (nI ol))]) 1 hP hD [] [0] rfl rfl (by decide) (by decide) hk1 hFc hP1 hD1 rfl
  generalize H1 = H at hP hS ⊢
  obtain rfl : rn1 = 0 := hw
  refine lv_if_eq (tgt := 19) hx hb dX10_load_12 (by decide) (fun c2 => ?_) (fun c9 => absurd c9 (by decide))
  refine lv_iconst (v := 1) hx hb dX10_load_19 (by decide) ?_
  refine va_put (D := D) (ci := 11) (v := .int 1) (ty := .int) (C := RX10) (T := TX10) (N := 39) hx hb hts inX10 tyX10 tyX10_ok nmX10 hown hK hP hD hS 0 rfl rfl 8 (by decide) (hts (.fieldLink RX10 80 "EscrowDeskModel" "thrown" "I") (by decide +kernel)) (fun _ h9 => h9) rfl (by decide +kernel) rfl rfl (Nat.le_of_ble_eq_true rfl) dX10_load_20 (fun H locs hP hD hS => ?_)
  obtain ⟨hP, hD⟩ : PDq D A [(oX10 w0 v0 v1 v2 v3 v4 g5 g6 (nI ed) 1 v9 (nI nb) g11 g12 v13 g14 g15 g16 g17 g18 g19 g20 g21 g22 g23 g24 g25 g26 v27 v28 v29 v30 v31 v32 v33 v34 v35 v36 v37 (nI ol))] H := ⟨hP, hD⟩
  refine lv_aload_n hx hb dX10_load_23 rfl (lv_at hl 0 rfl) ?_
  refine va_get (D := D) (ci := 11) (v := .int 1) (C := RX10) (T := TX10) (N := 39) hx hb hts inX10 hown hK hP 0 rfl rfl 8 (by decide) (hts (.fieldLink RX10 80 "EscrowDeskModel" "thrown" "I") (by decide +kernel)) (fun _ h9 => h9) rfl dX10_load_24 ?_
  refine lv_if_le (tgt := 32) hx hb dX10_load_27 (by decide) (fun c9 => absurd c9 (by decide)) (fun c3 => ?_)
  refine lv_iconst (v := 0) hx hb dX10_load_30 (by decide) ?_
  obtain ⟨hP9, hD9⟩ := PDq.sub (ws' := [(oX10 w0 v0 v1 v2 v3 v4 g5 g6 (nI ed) 1 v9 (nI nb) g11 g12 v13 g14 g15 g16 g17 g18 g19 g20 g21 g22 g23 g24 g25 g26 v27 v28 v29 v30 v31 v32 v33 v34 v35 v36 v37 (nI ol))]) hP hD [0] (by decide) rfl
  refine W.widen (k := 0) (n := 0) (Nat.le_of_ble_eq_true rfl) (Nat.le_of_ble_eq_true rfl) ?_
  exact (W.iret (v := 0) hx hb hr (fun t ht hW => ⟨⟨0, (), rfl, rfl, by rw [ht]; exact hP9, hD9⟩, hS.F ht⟩) hS.2.2 dX10_load_31)

set_option maxHeartbeats 4000000 in
set_option maxRecDepth 100000 in
/-- reference: byteAt -/
theorem y_byteAt (l : Launch) (D : va_G) (cA : Nat → ClassId) (sa : Nat → Nat) (w0 : Nat) (ed : Nat) (nb : Nat) (ol : Nat) (v0 : Nat) (v1 : Nat) (v2 : Nat) (v3 : Nat) (v4 : Nat) (v9 : Nat) (v13 : Nat) (v27 : Nat) (v28 : Nat) (v29 : Nat) (v30 : Nat) (v31 : Nat) (v32 : Nat) (v33 : Nat) (v34 : Nat) (v35 : Nat) (v36 : Nat) (v37 : Nat) (g8 : Int32) (g11 : Int32) (g12 : Int32) (g15 : Int32) (g16 : Int32) (g17 : Int32) (g18 : Int32) (g19 : Int32) (g20 : Int32) (g21 : Int32) (g22 : Int32) (g23 : Int32) (g24 : Int32) (g26 : Int32) (g5 : Int64) (g6 : Int64) (g25 : Int64) (ln : Nat) (ix : Nat) (fb : Nat → Int32) (sz : Nat) (hln : ln ≤ 700) (hix : ix ≤ 701) : Met l yX10_byteAt wsX10_byteAt ({ frames := 0, cells := 0, slots := 0, locals := 0 }) (va_Pc [.ref w0, .int (nI ix)] (Wd D cA sa [(oX10 w0 v0 v1 v2 v3 v4 g5 g6 (nI ed) g8 v9 (nI nb) g11 g12 v13 (nI ln) g15 g16 g17 g18 g19 g20 g21 g22 g23 g24 g25 g26 v27 v28 v29 v30 v31 v32 v33 v34 v35 v36 v37 (nI ol)), (v9, .inl (cA 0, 700, .inl fb))] sz)) (va_Qi (fun (r : Int32) (_ : Unit) => r = bta fb ln ix) (fun (_ : Unit) t => Wq D (va_A [(oX10 w0 v0 v1 v2 v3 v4 g5 g6 (nI ed) g8 v9 (nI nb) g11 g12 v13 (nI ln) g15 g16 g17 g18 g19 g20 g21 g22 g23 g24 g25 g26 v27 v28 v29 v30 v31 v32 v33 v34 v35 v36 v37 (nI ol)), (v9, .inl (cA 0, 700, .inl fb))] sz) [(oX10 w0 v0 v1 v2 v3 v4 g5 g6 (nI ed) g8 v9 (nI nb) g11 g12 v13 (nI ln) g15 g16 g17 g18 g19 g20 g21 g22 g23 g24 g25 g26 v27 v28 v29 v30 v31 v32 v33 v34 v35 v36 v37 (nI ol)), (v9, .inl (cA 0, 700, .inl fb))] t) (va_A [(oX10 w0 v0 v1 v2 v3 v4 g5 g6 (nI ed) g8 v9 (nI nb) g11 g12 v13 (nI ln) g15 g16 g17 g18 g19 g20 g21 g22 g23 g24 g25 g26 v27 v28 v29 v30 v31 v32 v33 v34 v35 v36 v37 (nI ol)), (v9, .inl (cA 0, 700, .inl fb))] sz)) 0 0 (va_A [(oX10 w0 v0 v1 v2 v3 v4 g5 g6 (nI ed) g8 v9 (nI nb) g11 g12 v13 (nI ln) g15 g16 g17 g18 g19 g20 g21 g22 g23 g24 g25 g26 v27 v28 v29 v30 v31 v32 v33 v34 v35 v36 v37 (nI ol)), (v9, .inl (cA 0, 700, .inl fb))] sz) := by
  refine Met.ofW (cc := cX10_byteAt) (maxL := 2) (ret := (some .int)) (by decide) rfl ?_
  intro p e s m args below meth c s₁ B hml hv
  obtain ⟨rfl, hsz, hP, hK, hD0, hC, hZ⟩ := hv
  have hx := B.exec
  have hb := B.bytes
  have hr := B.returns
  have hts := atoms_spec (ws := wsX10_byteAt) B.pre
  have hown : s.vm.findClass RX10 = some m.cls := findClass_of_methodNamed B.named
  have hlocks := B.notSynchronized
  subst hsz
  have hD := hD0.self (sz := s.heap.size)
  generalize hAe : va_A [(oX10 w0 v0 v1 v2 v3 v4 g5 g6 (nI ed) g8 v9 (nI nb) g11 g12 v13 (nI ln) g15 g16 g17 g18 g19 g20 g21 g22 g23 g24 g25 g26 v27 v28 v29 v30 v31 v32 v33 v34 v35 v36 v37 (nI ol)), (v9, .inl (cA 0, 700, .inl fb))] s.heap.size = A at hD hZ ⊢
  have hA : ∀ q : Nat, s.heap.size ≤ q → A q := fun q h => by rw [← hAe]; exact Or.inr h
  have hS : va_S A s.heap s.heap [] := va_S.rf
  have hP : va_P D vwCl [(oX10 w0 v0 v1 v2 v3 v4 g5 g6 (nI ed) g8 v9 (nI nb) g11 g12 v13 (nI ln) g15 g16 g17 g18 g19 g20 g21 g22 g23 g24 g25 g26 v27 v28 v29 v30 v31 v32 v33 v34 v35 v36 v37 (nI ol)), (v9, .inl (cA 0, 700, .inl fb))] s.heap := hP
  have hl := lv_entry ([.ref w0, .int (nI ix)]) (n := 2) (Nat.le_of_ble_eq_true rfl)
  rw [lg_entry_eq]
  generalize (lg_sl ([.ref w0, .int (nI ix)]) ++ List.replicate (2 - (lg_sl ([.ref w0, .int (nI ix)])).length) Slot.unset).toArray = ls at hl ⊢
  have hl : lv_has ls 2 [(0, .ref w0), (1, .int (nI ix))] := hl
  have inX10 : ∀ w ∈ u_ws RX10 TX10 39, w ∈ wsX10_byteAt := by decide +kernel
  refine lv_iload_n hx hb dX10_byteAt_0 rfl (lv_at hl 1 rfl) ?_
  refine lv_aload_n hx hb dX10_byteAt_1 rfl (lv_at hl 0 rfl) ?_
  refine va_get (D := D) (ci := 11) (v := .int (nI ln)) (C := RX10) (T := TX10) (N := 39) hx hb hts inX10 hown hK hP 0 rfl rfl 14 (by decide) (hts (.fieldLink RX10 107 "EscrowDeskModel" "length" "I") (by decide +kernel)) (fun _ h9 => h9) rfl dX10_byteAt_2 ?_
  refine lv_icmp_ge (tgt := 17) hx hb dX10_byteAt_5 (by decide) (fun c1 => ?_) (fun c1 => ?_)
  · skip
    have hn2 : ln ≤ ix := (nI_leI (a := ln) (b := ix) (by omega) (by omega)).mp c1
    refine lv_iconst (v := (-1)) hx hb dX10_byteAt_17 (by decide) ?_
    obtain ⟨hP9, hD9⟩ := PDq.sub (ws' := [(oX10 w0 v0 v1 v2 v3 v4 g5 g6 (nI ed) g8 v9 (nI nb) g11 g12 v13 (nI ln) g15 g16 g17 g18 g19 g20 g21 g22 g23 g24 g25 g26 v27 v28 v29 v30 v31 v32 v33 v34 v35 v36 v37 (nI ol)), (v9, .inl (cA 0, 700, .inl fb))]) hP hD [0, 1] (by decide) rfl
    refine W.widen (k := 0) (n := 0) (Nat.le_of_ble_eq_true rfl) (Nat.le_of_ble_eq_true rfl) ?_
    exact (W.iret (v := (-1)) hx hb hr (fun t ht hW => ⟨⟨(-1), (), rfl, (bt_out (by omega)).symm, by rw [ht]; exact hP9, hD9⟩, hS.F ht⟩) hS.2.2 dX10_byteAt_18)
  · skip
    have hn3 : ix < ln := Nat.lt_of_not_le (fun h9 => c1 (nI_le (a := ln) (b := ix) h9 (by omega)))
    refine lv_aload_n hx hb dX10_byteAt_8 rfl (lv_at hl 0 rfl) ?_
    refine va_get (D := D) (ci := 11) (v := .ref v9) (C := RX10) (T := TX10) (N := 39) hx hb hts inX10 hown hK hP 0 rfl rfl 9 (by decide) (hts (.fieldLink RX10 26 "EscrowDeskModel" "buffer" "[I") (by decide +kernel)) (fun _ h9 => h9) rfl dX10_byteAt_9 ?_
    refine lv_iload_n hx hb dX10_byteAt_12 rfl (lv_at hl 1 rfl) ?_
    refine va_iald hx hb hK hP 1 0 rfl rfl (vp_in_nI (n := ix) (N := 700) (show ix < 700 by omega) (by decide)) dX10_byteAt_13 ?_
    refine lv_topi (fun yn4 eyn4 => ?_)
    obtain rfl : yn4 = (fb ix) := eyn4.trans (by rw [nI_clamp (by omega)])
    refine lv_goto (tgt := 18) hx hb dX10_byteAt_14 (by decide) ?_
    obtain ⟨hP9, hD9⟩ := PDq.sub (ws' := [(oX10 w0 v0 v1 v2 v3 v4 g5 g6 (nI ed) g8 v9 (nI nb) g11 g12 v13 (nI ln) g15 g16 g17 g18 g19 g20 g21 g22 g23 g24 g25 g26 v27 v28 v29 v30 v31 v32 v33 v34 v35 v36 v37 (nI ol)), (v9, .inl (cA 0, 700, .inl fb))]) hP hD [0, 1] (by decide) rfl
    refine W.widen (k := 0) (n := 0) (Nat.le_of_ble_eq_true rfl) (Nat.le_of_ble_eq_true rfl) ?_
    exact (W.iret (v := (fb ix)) hx hb hr (fun t ht hW => ⟨⟨(fb ix), (), rfl, (bt_in (by omega)).symm, by rw [ht]; exact hP9, hD9⟩, hS.F ht⟩) hS.2.2 dX10_byteAt_18)

set_option maxHeartbeats 4000000 in
set_option maxRecDepth 100000 in
/-- reference: isLetter -/
theorem y_isLetter (l : Launch) (D : va_G) (cA : Nat → ClassId) (sa : Nat → Nat) (a : Int32) (sz : Nat) : Met l yX10_isLetter wsX10_isLetter ({ frames := 0, cells := 0, slots := 0, locals := 0 }) (va_Pc [.int a] (Wd D cA sa [] sz)) (va_Qi (fun (r : Int32) (_ : Unit) => (r = 1 ∧ (97 ≤ a ∧ a ≤ 122)) ∨ (r = 0 ∧ ¬ (97 ≤ a ∧ a ≤ 122))) (fun (_ : Unit) t => Wq D (va_A [] sz) [] t) (va_A [] sz)) 0 0 (va_A [] sz) := by
  refine Met.ofW (cc := cX10_isLetter) (maxL := 1) (ret := (some .boolean)) (by decide) rfl ?_
  intro p e s m args below meth c s₁ B hml hv
  obtain ⟨rfl, hsz, hP, hK, hD0, hC, hZ⟩ := hv
  have hx := B.exec
  have hb := B.bytes
  have hr := B.returns
  have hts := atoms_spec (ws := wsX10_isLetter) B.pre
  have hown : s.vm.findClass RX10 = some m.cls := findClass_of_methodNamed B.named
  have hlocks := B.notSynchronized
  subst hsz
  have hD := hD0.self (sz := s.heap.size)
  generalize hAe : va_A [] s.heap.size = A at hD hZ ⊢
  have hA : ∀ q : Nat, s.heap.size ≤ q → A q := fun q h => by rw [← hAe]; exact Or.inr h
  have hS : va_S A s.heap s.heap [] := va_S.rf
  have hP : va_P D vwCl [] s.heap := hP
  have hl := lv_entry ([.int a]) (n := 1) (Nat.le_of_ble_eq_true rfl)
  rw [lg_entry_eq]
  generalize (lg_sl ([.int a]) ++ List.replicate (1 - (lg_sl ([.int a])).length) Slot.unset).toArray = ls at hl ⊢
  have hl : lv_has ls 1 [(0, .int a)] := hl
  refine lv_iload_n hx hb dX10_isLetter_0 rfl (lv_at hl 0 rfl) ?_
  refine lv_bipush (v := 97) hx hb dX10_isLetter_1 (by decide) ?_
  refine lv_icmp_lt (tgt := 16) hx hb dX10_isLetter_3 (by decide) (fun c1 => ?_) (fun c1 => ?_)
  · skip
    refine lv_iconst (v := 0) hx hb dX10_isLetter_16 (by decide) ?_
    obtain ⟨hP9, hD9⟩ := PDq.sub (ws' := []) hP hD [] (by decide) rfl
    refine W.widen (k := 0) (n := 0) (Nat.le_of_ble_eq_true rfl) (Nat.le_of_ble_eq_true rfl) ?_
    exact (W.zret (v := 0) hx hb hr (by first | rfl | decide) (fun t ht hW => ⟨⟨0, (), rfl, (Or.inr ⟨rfl, (fun q9 => absurd q9.1 (Int32.not_le.mpr c1))⟩), by rw [ht]; exact hP9, hD9⟩, hS.F ht⟩) hS.2.2 dX10_isLetter_17)
  · skip
    refine lv_iload_n hx hb dX10_isLetter_6 rfl (lv_at hl 0 rfl) ?_
    refine lv_bipush (v := 122) hx hb dX10_isLetter_7 (by decide) ?_
    refine lv_icmp_gt (tgt := 16) hx hb dX10_isLetter_9 (by decide) (fun c2 => ?_) (fun c2 => ?_)
    · skip
      refine lv_iconst (v := 0) hx hb dX10_isLetter_16 (by decide) ?_
      obtain ⟨hP9, hD9⟩ := PDq.sub (ws' := []) hP hD [] (by decide) rfl
      refine W.widen (k := 0) (n := 0) (Nat.le_of_ble_eq_true rfl) (Nat.le_of_ble_eq_true rfl) ?_
      exact (W.zret (v := 0) hx hb hr (by first | rfl | decide) (fun t ht hW => ⟨⟨0, (), rfl, (Or.inr ⟨rfl, (fun q9 => absurd q9.2 (Int32.not_le.mpr c2))⟩), by rw [ht]; exact hP9, hD9⟩, hS.F ht⟩) hS.2.2 dX10_isLetter_17)
    · skip
      refine lv_iconst (v := 1) hx hb dX10_isLetter_12 (by decide) ?_
      refine lv_goto (tgt := 17) hx hb dX10_isLetter_13 (by decide) ?_
      obtain ⟨hP9, hD9⟩ := PDq.sub (ws' := []) hP hD [] (by decide) rfl
      refine W.widen (k := 0) (n := 0) (Nat.le_of_ble_eq_true rfl) (Nat.le_of_ble_eq_true rfl) ?_
      exact (W.zret (v := 1) hx hb hr (by first | rfl | decide) (fun t ht hW => ⟨⟨1, (), rfl, (Or.inl ⟨rfl, ⟨Int32.not_lt.mp c1, Int32.not_lt.mp c2⟩⟩), by rw [ht]; exact hP9, hD9⟩, hS.F ht⟩) hS.2.2 dX10_isLetter_17)

set_option maxHeartbeats 4000000 in
set_option maxRecDepth 100000 in
/-- reference: isDigit -/
theorem y_isDigit (l : Launch) (D : va_G) (cA : Nat → ClassId) (sa : Nat → Nat) (a : Int32) (sz : Nat) : Met l yX10_isDigit wsX10_isDigit ({ frames := 0, cells := 0, slots := 0, locals := 0 }) (va_Pc [.int a] (Wd D cA sa [] sz)) (va_Qi (fun (r : Int32) (_ : Unit) => (r = 1 ∧ (48 ≤ a ∧ a ≤ 57)) ∨ (r = 0 ∧ ¬ (48 ≤ a ∧ a ≤ 57))) (fun (_ : Unit) t => Wq D (va_A [] sz) [] t) (va_A [] sz)) 0 0 (va_A [] sz) := by
  refine Met.ofW (cc := cX10_isDigit) (maxL := 1) (ret := (some .boolean)) (by decide) rfl ?_
  intro p e s m args below meth c s₁ B hml hv
  obtain ⟨rfl, hsz, hP, hK, hD0, hC, hZ⟩ := hv
  have hx := B.exec
  have hb := B.bytes
  have hr := B.returns
  have hts := atoms_spec (ws := wsX10_isDigit) B.pre
  have hown : s.vm.findClass RX10 = some m.cls := findClass_of_methodNamed B.named
  have hlocks := B.notSynchronized
  subst hsz
  have hD := hD0.self (sz := s.heap.size)
  generalize hAe : va_A [] s.heap.size = A at hD hZ ⊢
  have hA : ∀ q : Nat, s.heap.size ≤ q → A q := fun q h => by rw [← hAe]; exact Or.inr h
  have hS : va_S A s.heap s.heap [] := va_S.rf
  have hP : va_P D vwCl [] s.heap := hP
  have hl := lv_entry ([.int a]) (n := 1) (Nat.le_of_ble_eq_true rfl)
  rw [lg_entry_eq]
  generalize (lg_sl ([.int a]) ++ List.replicate (1 - (lg_sl ([.int a])).length) Slot.unset).toArray = ls at hl ⊢
  have hl : lv_has ls 1 [(0, .int a)] := hl
  refine lv_iload_n hx hb dX10_isDigit_0 rfl (lv_at hl 0 rfl) ?_
  refine lv_bipush (v := 48) hx hb dX10_isDigit_1 (by decide) ?_
  refine lv_icmp_lt (tgt := 16) hx hb dX10_isDigit_3 (by decide) (fun c1 => ?_) (fun c1 => ?_)
  · skip
    refine lv_iconst (v := 0) hx hb dX10_isDigit_16 (by decide) ?_
    obtain ⟨hP9, hD9⟩ := PDq.sub (ws' := []) hP hD [] (by decide) rfl
    refine W.widen (k := 0) (n := 0) (Nat.le_of_ble_eq_true rfl) (Nat.le_of_ble_eq_true rfl) ?_
    exact (W.zret (v := 0) hx hb hr (by first | rfl | decide) (fun t ht hW => ⟨⟨0, (), rfl, (Or.inr ⟨rfl, (fun q9 => absurd q9.1 (Int32.not_le.mpr c1))⟩), by rw [ht]; exact hP9, hD9⟩, hS.F ht⟩) hS.2.2 dX10_isDigit_17)
  · skip
    refine lv_iload_n hx hb dX10_isDigit_6 rfl (lv_at hl 0 rfl) ?_
    refine lv_bipush (v := 57) hx hb dX10_isDigit_7 (by decide) ?_
    refine lv_icmp_gt (tgt := 16) hx hb dX10_isDigit_9 (by decide) (fun c2 => ?_) (fun c2 => ?_)
    · skip
      refine lv_iconst (v := 0) hx hb dX10_isDigit_16 (by decide) ?_
      obtain ⟨hP9, hD9⟩ := PDq.sub (ws' := []) hP hD [] (by decide) rfl
      refine W.widen (k := 0) (n := 0) (Nat.le_of_ble_eq_true rfl) (Nat.le_of_ble_eq_true rfl) ?_
      exact (W.zret (v := 0) hx hb hr (by first | rfl | decide) (fun t ht hW => ⟨⟨0, (), rfl, (Or.inr ⟨rfl, (fun q9 => absurd q9.2 (Int32.not_le.mpr c2))⟩), by rw [ht]; exact hP9, hD9⟩, hS.F ht⟩) hS.2.2 dX10_isDigit_17)
    · skip
      refine lv_iconst (v := 1) hx hb dX10_isDigit_12 (by decide) ?_
      refine lv_goto (tgt := 17) hx hb dX10_isDigit_13 (by decide) ?_
      obtain ⟨hP9, hD9⟩ := PDq.sub (ws' := []) hP hD [] (by decide) rfl
      refine W.widen (k := 0) (n := 0) (Nat.le_of_ble_eq_true rfl) (Nat.le_of_ble_eq_true rfl) ?_
      exact (W.zret (v := 1) hx hb hr (by first | rfl | decide) (fun t ht hW => ⟨⟨1, (), rfl, (Or.inl ⟨rfl, ⟨Int32.not_lt.mp c1, Int32.not_lt.mp c2⟩⟩), by rw [ht]; exact hP9, hD9⟩, hS.F ht⟩) hS.2.2 dX10_isDigit_17)

set_option maxHeartbeats 4000000 in
set_option maxRecDepth 100000 in
/-- reference: keywordOf -/
theorem y_keywordOf (l : Launch) (D : va_G) (cA : Nat → ClassId) (sa : Nat → Nat) (w0 : Nat) (ed : Nat) (nb : Nat) (ol : Nat) (v0 : Nat) (v1 : Nat) (v2 : Nat) (v3 : Nat) (v4 : Nat) (v9 : Nat) (v13 : Nat) (v27 : Nat) (v28 : Nat) (v29 : Nat) (v30 : Nat) (v31 : Nat) (v32 : Nat) (v33 : Nat) (v34 : Nat) (v35 : Nat) (v36 : Nat) (v37 : Nat) (g8 : Int32) (g11 : Int32) (g12 : Int32) (g14 : Int32) (g15 : Int32) (g16 : Int32) (g17 : Int32) (g18 : Int32) (g19 : Int32) (g20 : Int32) (g21 : Int32) (g22 : Int32) (g23 : Int32) (g24 : Int32) (g26 : Int32) (g5 : Int64) (g6 : Int64) (g25 : Int64) (w : Int64) (fkw : Nat → Int64) (sz : Nat) : Met l yX10_keywordOf wsX10_keywordOf ({ frames := 0, cells := 0, slots := 0, locals := 0 }) (va_Pc [.ref w0, .long w] (Wd D cA sa [(oX10 w0 v0 v1 v2 v3 v4 g5 g6 (nI ed) g8 v9 (nI nb) g11 g12 v13 g14 g15 g16 g17 g18 g19 g20 g21 g22 g23 g24 g25 g26 v27 v28 v29 v30 v31 v32 v33 v34 v35 v36 v37 (nI ol)), (v13, .inl (cA 1, 15, .inr (.inl fkw)))] sz)) (va_Qi (fun (r : Int32) (_ : Unit) => (r = -1 ∧ ∀ j, j < 15 → fkw j ≠ w) ∨ ∃ n, n < 15 ∧ r = nI n ∧ fkw n = w) (fun (_ : Unit) t => Wq D (va_A [(oX10 w0 v0 v1 v2 v3 v4 g5 g6 (nI ed) g8 v9 (nI nb) g11 g12 v13 g14 g15 g16 g17 g18 g19 g20 g21 g22 g23 g24 g25 g26 v27 v28 v29 v30 v31 v32 v33 v34 v35 v36 v37 (nI ol)), (v13, .inl (cA 1, 15, .inr (.inl fkw)))] sz) [(oX10 w0 v0 v1 v2 v3 v4 g5 g6 (nI ed) g8 v9 (nI nb) g11 g12 v13 g14 g15 g16 g17 g18 g19 g20 g21 g22 g23 g24 g25 g26 v27 v28 v29 v30 v31 v32 v33 v34 v35 v36 v37 (nI ol)), (v13, .inl (cA 1, 15, .inr (.inl fkw)))] t) (va_A [(oX10 w0 v0 v1 v2 v3 v4 g5 g6 (nI ed) g8 v9 (nI nb) g11 g12 v13 g14 g15 g16 g17 g18 g19 g20 g21 g22 g23 g24 g25 g26 v27 v28 v29 v30 v31 v32 v33 v34 v35 v36 v37 (nI ol)), (v13, .inl (cA 1, 15, .inr (.inl fkw)))] sz)) 0 0 (va_A [(oX10 w0 v0 v1 v2 v3 v4 g5 g6 (nI ed) g8 v9 (nI nb) g11 g12 v13 g14 g15 g16 g17 g18 g19 g20 g21 g22 g23 g24 g25 g26 v27 v28 v29 v30 v31 v32 v33 v34 v35 v36 v37 (nI ol)), (v13, .inl (cA 1, 15, .inr (.inl fkw)))] sz) := by
  refine Met.ofW (cc := cX10_keywordOf) (maxL := 4) (ret := (some .int)) (by decide) rfl ?_
  intro p e s m args below meth c s₁ B hml hv
  obtain ⟨rfl, hsz, hP, hK, hD0, hC, hZ⟩ := hv
  have hx := B.exec
  have hb := B.bytes
  have hr := B.returns
  have hts := atoms_spec (ws := wsX10_keywordOf) B.pre
  have hown : s.vm.findClass RX10 = some m.cls := findClass_of_methodNamed B.named
  have hlocks := B.notSynchronized
  subst hsz
  have hD := hD0.self (sz := s.heap.size)
  generalize hAe : va_A [(oX10 w0 v0 v1 v2 v3 v4 g5 g6 (nI ed) g8 v9 (nI nb) g11 g12 v13 g14 g15 g16 g17 g18 g19 g20 g21 g22 g23 g24 g25 g26 v27 v28 v29 v30 v31 v32 v33 v34 v35 v36 v37 (nI ol)), (v13, .inl (cA 1, 15, .inr (.inl fkw)))] s.heap.size = A at hD hZ ⊢
  have hA : ∀ q : Nat, s.heap.size ≤ q → A q := fun q h => by rw [← hAe]; exact Or.inr h
  have hS : va_S A s.heap s.heap [] := va_S.rf
  have hP : va_P D vwCl [(oX10 w0 v0 v1 v2 v3 v4 g5 g6 (nI ed) g8 v9 (nI nb) g11 g12 v13 g14 g15 g16 g17 g18 g19 g20 g21 g22 g23 g24 g25 g26 v27 v28 v29 v30 v31 v32 v33 v34 v35 v36 v37 (nI ol)), (v13, .inl (cA 1, 15, .inr (.inl fkw)))] s.heap := hP
  have hl := lv_entry ([.ref w0, .long w]) (n := 4) (Nat.le_of_ble_eq_true rfl)
  rw [lg_entry_eq]
  generalize (lg_sl ([.ref w0, .long w]) ++ List.replicate (4 - (lg_sl ([.ref w0, .long w])).length) Slot.unset).toArray = ls at hl ⊢
  have hl : lv_has ls 4 [(0, .ref w0), (1, .long w)] := hl
  have inX10 : ∀ w ∈ u_ws RX10 TX10 39, w ∈ wsX10_keywordOf := by decide +kernel
  refine lv_iconst (v := 0) hx hb dX10_keywordOf_0 (by decide) ?_
  refine lv_istore_n (lv' := [(3, .int 0), (0, .ref w0), (1, .long w)]) hx hb dX10_keywordOf_1 rfl hl (by decide) rfl (fun ls hl => ?_)
  have loop1 : ∀ (n1 i1 : Nat) (H : Heap) (locs : List Loc) (ls : Array Slot), i1 + n1 = 15 → Nof i1 w fkw → va_P D vwCl [(oX10 w0 v0 v1 v2 v3 v4 g5 g6 (nI ed) g8 v9 (nI nb) g11 g12 v13 g14 g15 g16 g17 g18 g19 g20 g21 g22 g23 g24 g25 g26 v27 v28 v29 v30 v31 v32 v33 v34 v35 v36 v37 (nI ol)), (v13, .inl (cA 1, 15, .inr (.inl fkw)))] H → va_D A [(oX10 w0 v0 v1 v2 v3 v4 g5 g6 (nI ed) g8 v9 (nI nb) g11 g12 v13 g14 g15 g16 g17 g18 g19 g20 g21 g22 g23 g24 g25 g26 v27 v28 v29 v30 v31 v32 v33 v34 v35 v36 v37 (nI ol)), (v13, .inl (cA 1, 15, .inr (.inl fkw)))] → va_S A s.heap H locs → lv_has ls 4 [(3, .int (nI i1)), (0, .ref w0), (1, .long w)] → W p l e (headSpec wsX10_keywordOf ({ frames := 0, cells := 0, slots := 0, locals := 0 } : Room)).room s m ([.ref w0, .long w] : List Value).toArray below meth c H locs 0 0 (MQ below (va_Qi (fun (r : Int32) (_ : Unit) => (r = -1 ∧ ∀ j, j < 15 → fkw j ≠ w) ∨ ∃ n, n < 15 ∧ r = nI n ∧ fkw n = w) (fun (_ : Unit) t => Wq D A [(oX10 w0 v0 v1 v2 v3 v4 g5 g6 (nI ed) g8 v9 (nI nb) g11 g12 v13 g14 g15 g16 g17 g18 g19 g20 g21 g22 g23 g24 g25 g26 v27 v28 v29 v30 v31 v32 v33 v34 v35 v36 v37 (nI ol)), (v13, .inl (cA 1, 15, .inr (.inl fkw)))] t) A) ([.ref w0, .long w] : List Value).toArray s 0 0 A) (F0 m 2 ls []) := by
    intro n1
    induction n1 with
    | zero =>
      intro i1 H locs ls hi1 hv0_1 hP hD hS hl
      obtain rfl : 15 = i1 := by omega
      refine lv_iload_n hx hb dX10_keywordOf_2 rfl (lv_at hl 0 rfl) ?_
      refine lv_bipush (v := 15) hx hb dX10_keywordOf_3 (by decide) ?_
      refine lv_icmp_ge (tgt := 27) hx hb dX10_keywordOf_5 (by decide) (fun c1 => ?_) (fun c9 => absurd (nI_le (a := 15) (b := 15) (show 15 ≤ 15 by omega) (by omega)) c9)
      refine lv_iconst (v := (-1)) hx hb dX10_keywordOf_27 (by decide) ?_
      obtain ⟨hP9, hD9⟩ := PDq.sub (ws' := [(oX10 w0 v0 v1 v2 v3 v4 g5 g6 (nI ed) g8 v9 (nI nb) g11 g12 v13 g14 g15 g16 g17 g18 g19 g20 g21 g22 g23 g24 g25 g26 v27 v28 v29 v30 v31 v32 v33 v34 v35 v36 v37 (nI ol)), (v13, .inl (cA 1, 15, .inr (.inl fkw)))]) hP hD [0, 1] (by decide) rfl
      refine W.widen (k := 0) (n := 0) (Nat.le_of_ble_eq_true rfl) (Nat.le_of_ble_eq_true rfl) ?_
      exact (W.iret (v := (-1)) hx hb hr (fun t ht hW => ⟨⟨(-1), (), rfl, (Or.inl ⟨rfl, hv0_1⟩), by rw [ht]; exact hP9, hD9⟩, hS.F ht⟩) hS.2.2 dX10_keywordOf_28)
    | succ n1 ih1 =>
      intro i1 H locs ls hi1 hv0_1 hP hD hS hl
      refine lv_iload_n hx hb dX10_keywordOf_2 rfl (lv_at hl 0 rfl) ?_
      refine lv_bipush (v := 15) hx hb dX10_keywordOf_3 (by decide) ?_
      refine lv_icmp_ge (tgt := 27) hx hb dX10_keywordOf_5 (by decide) (fun c9 => absurd c9 (nI_ge (a := i1) (b := 15) (show i1 < 15 by omega) (by omega))) (fun c2 => ?_)
      refine lv_aload_n hx hb dX10_keywordOf_8 rfl (lv_at hl 1 rfl) ?_
      refine va_get (D := D) (ci := 11) (v := .ref v13) (C := RX10) (T := TX10) (N := 39) hx hb hts inX10 hown hK hP 0 rfl rfl 13 (by decide) (hts (.fieldLink RX10 33 "EscrowDeskModel" "keywords" "[J") (by decide +kernel)) (fun _ h9 => h9) rfl dX10_keywordOf_9 ?_
      refine lv_iload_n hx hb dX10_keywordOf_12 rfl (lv_at hl 0 rfl) ?_
      refine va_lald hx hb hK hP 1 1 rfl rfl (vp_in_nI (n := i1) (N := 15) (show i1 < 15 by omega) (by decide)) dX10_keywordOf_13 ?_
      refine lv_topl (fun yn3 eyn3 => ?_)
      obtain rfl : yn3 = (fkw i1) := eyn3.trans (by rw [nI_clamp (by omega)])
      refine lv_lload_n hx hb dX10_keywordOf_14 rfl (lv_at hl 2 rfl) ?_
      refine W.lcmp hx hb dX10_keywordOf_15 ?_
      refine lv_if_ne (tgt := 21) hx hb dX10_keywordOf_16 (by decide) (fun c4 => ?_) (fun c4 => ?_)
      · skip
        refine lv_iinc (v := (nI (i1 + 1))) (lv' := [(3, .int (nI (i1 + 1))), (0, .ref w0), (1, .long w)]) hx hb dX10_keywordOf_21 hl (k := 0) rfl (nI_1 _) (by decide) rfl (fun ls hl => ?_)
        refine lv_goto (tgt := 2) hx hb dX10_keywordOf_24 (by decide) ?_
        obtain ⟨hP9, hD9⟩ := PDq.sub (ws' := [(oX10 w0 v0 v1 v2 v3 v4 g5 g6 (nI ed) g8 v9 (nI nb) g11 g12 v13 g14 g15 g16 g17 g18 g19 g20 g21 g22 g23 g24 g25 g26 v27 v28 v29 v30 v31 v32 v33 v34 v35 v36 v37 (nI ol)), (v13, .inl (cA 1, 15, .inr (.inl fkw)))]) hP hD [0, 1] (by decide) rfl
        exact ih1 (i1 + 1)  H _ ls (by omega) (Nof.step hv0_1 c4) hP9 hD9 hS (lv_sub hl [0, 1, 2] rfl)
      · skip
        refine lv_iload_n hx hb dX10_keywordOf_19 rfl (lv_at hl 0 rfl) ?_
        obtain ⟨hP9, hD9⟩ := PDq.sub (ws' := [(oX10 w0 v0 v1 v2 v3 v4 g5 g6 (nI ed) g8 v9 (nI nb) g11 g12 v13 g14 g15 g16 g17 g18 g19 g20 g21 g22 g23 g24 g25 g26 v27 v28 v29 v30 v31 v32 v33 v34 v35 v36 v37 (nI ol)), (v13, .inl (cA 1, 15, .inr (.inl fkw)))]) hP hD [0, 1] (by decide) rfl
        refine W.widen (k := 0) (n := 0) (Nat.le_of_ble_eq_true rfl) (Nat.le_of_ble_eq_true rfl) ?_
        exact (W.iret (v := (nI i1)) hx hb hr (fun t ht hW => ⟨⟨(nI i1), (), rfl, (Or.inr ⟨i1, by omega, rfl, lg_eq0 c4⟩), by rw [ht]; exact hP9, hD9⟩, hS.F ht⟩) hS.2.2 dX10_keywordOf_20)
  obtain ⟨hP9, hD9⟩ := PDq.sub (ws' := [(oX10 w0 v0 v1 v2 v3 v4 g5 g6 (nI ed) g8 v9 (nI nb) g11 g12 v13 g14 g15 g16 g17 g18 g19 g20 g21 g22 g23 g24 g25 g26 v27 v28 v29 v30 v31 v32 v33 v34 v35 v36 v37 (nI ol)), (v13, .inl (cA 1, 15, .inr (.inl fkw)))]) hP hD [0, 1] (by decide) rfl
  exact loop1 (15 - 0) 0  _ _ ls (by omega) (Nof.zero w fkw) hP9 hD9 hS (lv_sub hl [0, 1, 2] rfl)

set_option maxHeartbeats 4000000 in
set_option maxRecDepth 100000 in
/-- reference: advance -/
theorem y_advance (l : Launch) (D : va_G) (cA : Nat → ClassId) (sa : Nat → Nat) (w0 : Nat) (ed : Nat) (nb : Nat) (ol : Nat) (v0 : Nat) (v1 : Nat) (v2 : Nat) (v3 : Nat) (v4 : Nat) (v9 : Nat) (v13 : Nat) (v27 : Nat) (v28 : Nat) (v29 : Nat) (v30 : Nat) (v31 : Nat) (v32 : Nat) (v33 : Nat) (v34 : Nat) (v35 : Nat) (v36 : Nat) (v37 : Nat) (g8 : Int32) (g11 : Int32) (g12 : Int32) (g15 : Int32) (g17 : Int32) (g18 : Int32) (g19 : Int32) (g20 : Int32) (g21 : Int32) (g22 : Int32) (g23 : Int32) (g24 : Int32) (g26 : Int32) (g5 : Int64) (g6 : Int64) (g25 : Int64) (ln : Nat) (nx : Nat) (fb : Nat → Int32) (fkw : Nat → Int64) (ta : Nat) (tb : Nat) (kk : Int32) (vv : Int64) (sz : Nat) (hln : ln ≤ 700) (hnx : nx ≤ ln) (hKW : KW 15 fkw) (hBY : BYn ln fb) (hTn : Tn fb ln nx ta tb kk vv) : Met l yX10_advance wsX10_advance ({ frames := 1, cells := 0, slots := 0, locals := 23 }) (va_Pc [.ref w0] (Wd D cA sa [(oX10 w0 v0 v1 v2 v3 v4 g5 g6 (nI ed) g8 v9 (nI nb) g11 g12 v13 (nI ln) g15 (nI nx) g17 g18 g19 g20 g21 g22 g23 g24 g25 g26 v27 v28 v29 v30 v31 v32 v33 v34 v35 v36 v37 (nI ol)), (v9, .inl (cA 0, 700, .inl fb)), (v13, .inl (cA 1, 15, .inr (.inl fkw)))] sz)) (va_Qi (fun (r : Int32) (_ : Unit) => r = 1) (fun (_ : Unit) t => ∃ z17 : Int32, ∃ z18 : Int32, ∃ z19 : Int32, ∃ z25 : Int64, TKR kk vv (fb ta) z17 z18 z19 z25 ∧ Wq D (va_A [(oX10 w0 v0 v1 v2 v3 v4 g5 g6 (nI ed) g8 v9 (nI nb) g11 g12 v13 (nI ln) g15 (nI nx) g17 g18 g19 g20 g21 g22 g23 g24 g25 g26 v27 v28 v29 v30 v31 v32 v33 v34 v35 v36 v37 (nI ol)), (v9, .inl (cA 0, 700, .inl fb)), (v13, .inl (cA 1, 15, .inr (.inl fkw)))] sz) [(oX10 w0 v0 v1 v2 v3 v4 g5 g6 (nI ed) g8 v9 (nI nb) g11 g12 v13 (nI ln) (nI ta) (nI tb) z17 z18 z19 g20 g21 g22 g23 g24 z25 g26 v27 v28 v29 v30 v31 v32 v33 v34 v35 v36 v37 (nI ol)), (v9, .inl (cA 0, 700, .inl fb)), (v13, .inl (cA 1, 15, .inr (.inl fkw)))] t) (va_A [(oX10 w0 v0 v1 v2 v3 v4 g5 g6 (nI ed) g8 v9 (nI nb) g11 g12 v13 (nI ln) g15 (nI nx) g17 g18 g19 g20 g21 g22 g23 g24 g25 g26 v27 v28 v29 v30 v31 v32 v33 v34 v35 v36 v37 (nI ol)), (v9, .inl (cA 0, 700, .inl fb)), (v13, .inl (cA 1, 15, .inr (.inl fkw)))] sz)) 0 0 (va_A [(oX10 w0 v0 v1 v2 v3 v4 g5 g6 (nI ed) g8 v9 (nI nb) g11 g12 v13 (nI ln) g15 (nI nx) g17 g18 g19 g20 g21 g22 g23 g24 g25 g26 v27 v28 v29 v30 v31 v32 v33 v34 v35 v36 v37 (nI ol)), (v9, .inl (cA 0, 700, .inl fb)), (v13, .inl (cA 1, 15, .inr (.inl fkw)))] sz) := by
  refine Met.ofW (cc := cX10_advance) (maxL := 2) (ret := (some .boolean)) (by decide) rfl ?_
  intro p e s m args below meth c s₁ B hml hv
  obtain ⟨rfl, hsz, hP, hK, hD0, hC, hZ⟩ := hv
  have hx := B.exec
  have hb := B.bytes
  have hr := B.returns
  have hts := atoms_spec (ws := wsX10_advance) B.pre
  have hown : s.vm.findClass RX10 = some m.cls := findClass_of_methodNamed B.named
  have hlocks := B.notSynchronized
  subst hsz
  have hD := hD0.self (sz := s.heap.size)
  generalize hAe : va_A [(oX10 w0 v0 v1 v2 v3 v4 g5 g6 (nI ed) g8 v9 (nI nb) g11 g12 v13 (nI ln) g15 (nI nx) g17 g18 g19 g20 g21 g22 g23 g24 g25 g26 v27 v28 v29 v30 v31 v32 v33 v34 v35 v36 v37 (nI ol)), (v9, .inl (cA 0, 700, .inl fb)), (v13, .inl (cA 1, 15, .inr (.inl fkw)))] s.heap.size = A at hD hZ ⊢
  have hA : ∀ q : Nat, s.heap.size ≤ q → A q := fun q h => by rw [← hAe]; exact Or.inr h
  have hS : va_S A s.heap s.heap [] := va_S.rf
  have hP : va_P D vwCl [(oX10 w0 v0 v1 v2 v3 v4 g5 g6 (nI ed) g8 v9 (nI nb) g11 g12 v13 (nI ln) g15 (nI nx) g17 g18 g19 g20 g21 g22 g23 g24 g25 g26 v27 v28 v29 v30 v31 v32 v33 v34 v35 v36 v37 (nI ol)), (v9, .inl (cA 0, 700, .inl fb)), (v13, .inl (cA 1, 15, .inr (.inl fkw)))] s.heap := hP
  have hl := lv_entry ([.ref w0]) (n := 2) (Nat.le_of_ble_eq_true rfl)
  rw [lg_entry_eq]
  generalize (lg_sl ([.ref w0]) ++ List.replicate (2 - (lg_sl ([.ref w0])).length) Slot.unset).toArray = ls at hl ⊢
  have hl : lv_has ls 2 [(0, .ref w0)] := hl
  have inX10 : ∀ w ∈ u_ws RX10 TX10 39, w ∈ wsX10_advance := by decide +kernel
  obtain ⟨tn1, tn2, tn3, tn4⟩ := hTn
  rcases tn4 with ⟨ge1, ge2, ge3⟩ | ⟨k0, ⟨gw1, gw2, ⟨ga1, ga2, ⟨ga3, ga4, ga5⟩ | ⟨ga3, ga4⟩⟩ | ⟨ga1, ga2, ⟨ga3, ga4, ga5⟩ | ⟨ga3, ga4⟩⟩ | ⟨ga0, ga1, ga2, ga3, ga4⟩⟩, ge9⟩
  · skip
    have hlt : ta ≤ ln := by omega
    have loop1 : ∀ (n1 i1 : Nat) (H : Heap) (locs : List Loc) (ls : Array Slot), i1 + n1 = ta → nx ≤ i1 → va_P D vwCl [(oX10 w0 v0 v1 v2 v3 v4 g5 g6 (nI ed) g8 v9 (nI nb) g11 g12 v13 (nI ln) g15 (nI i1) g17 g18 g19 g20 g21 g22 g23 g24 g25 g26 v27 v28 v29 v30 v31 v32 v33 v34 v35 v36 v37 (nI ol)), (v9, .inl (cA 0, 700, .inl fb)), (v13, .inl (cA 1, 15, .inr (.inl fkw)))] H → va_D A [(oX10 w0 v0 v1 v2 v3 v4 g5 g6 (nI ed) g8 v9 (nI nb) g11 g12 v13 (nI ln) g15 (nI i1) g17 g18 g19 g20 g21 g22 g23 g24 g25 g26 v27 v28 v29 v30 v31 v32 v33 v34 v35 v36 v37 (nI ol)), (v9, .inl (cA 0, 700, .inl fb)), (v13, .inl (cA 1, 15, .inr (.inl fkw)))] → va_S A s.heap H locs → lv_has ls 2 [(0, .ref w0)] → W p l e (headSpec wsX10_advance ({ frames := 1, cells := 0, slots := 0, locals := 23 } : Room)).room s m ([.ref w0] : List Value).toArray below meth c H locs 0 0 (MQ below (va_Qi (fun (r : Int32) (_ : Unit) => r = 1) (fun (_ : Unit) t => ∃ z17 : Int32, ∃ z18 : Int32, ∃ z19 : Int32, ∃ z25 : Int64, TKR kk vv (fb ta) z17 z18 z19 z25 ∧ Wq D A [(oX10 w0 v0 v1 v2 v3 v4 g5 g6 (nI ed) g8 v9 (nI nb) g11 g12 v13 (nI ln) (nI ta) (nI tb) z17 z18 z19 g20 g21 g22 g23 g24 z25 g26 v27 v28 v29 v30 v31 v32 v33 v34 v35 v36 v37 (nI ol)), (v9, .inl (cA 0, 700, .inl fb)), (v13, .inl (cA 1, 15, .inr (.inl fkw)))] t) A) ([.ref w0] : List Value).toArray s 0 0 A) (F0 m 0 ls []) := by
      intro n1
      induction n1 with
      | zero =>
        intro i1 H locs ls hi1 hv0_1 hP hD hS hl
        obtain rfl : ta = i1 := by omega
        refine lv_aload_n hx hb dX10_advance_0 rfl (lv_at hl 0 rfl) ?_
        refine lv_aload_n hx hb dX10_advance_1 rfl (lv_at hl 0 rfl) ?_
        refine va_get (D := D) (ci := 11) (v := .int (nI ta)) (C := RX10) (T := TX10) (N := 39) hx hb hts inX10 hown hK hP 0 rfl rfl 16 (by decide) (hts (.fieldLink RX10 110 "EscrowDeskModel" "next" "I") (by decide +kernel)) (fun _ h9 => h9) rfl dX10_advance_2 ?_
        obtain ⟨hPc, hDc, hFc⟩ := PDq.cut (wc := [(oX10 w0 v0 v1 v2 v3 v4 g5 g6 (nI ed) g8 v9 (nI nb) g11 g12 v13 (nI ln) g15 (nI ta) g17 g18 g19 g20 g21 g22 g23 g24 g25 g26 v27 v28 v29 v30 v31 v32 v33 v34 v35 v36 v37 (nI ol)), (v9, .inl (cA 0, 700, .inl fb))]) hP hD hS hA [0, 1] (by decide) rfl
        refine va_calli (va_runV (As := [.int (nI ta)]) (rest := []) ⟨hx, hb, hml, hown, hts⟩ (y_byteAt l D cA sa w0 ed nb ol v0 v1 v2 v3 v4 v9 v13 v27 v28 v29 v30 v31 v32 v33 v34 v35 v36 v37 g8 g11 g12 g15 (nI ta) g17 g18 g19 g20 g21 g22 g23 g24 g26 g5 g6 g25 ln ta fb H.size hln (by omega)) (cwV 1 hts gX10_advance_X10_byteAt rfl rfl rfl (by decide +kernel) ⟨(Nat.le_of_ble_eq_true rfl), (Nat.le_of_ble_eq_true rfl)⟩) ⟨Wd.blind, va_recv hK hPc (ci := 11) (q0 := 0) rfl rfl, fun U hU hW => ⟨rfl, Wd.call hPc hDc hK hC hZ hS hFc U hU hW⟩⟩ rfl rfl hl.1 rfl (lv_room (Nat.le_of_ble_eq_true rfl)) dX10_advance_5 ⟨(Nat.le_of_ble_eq_true rfl), (Nat.le_of_ble_eq_true rfl)⟩) hS (fun q _ h => hFc q h) hFc (fun rn1 u t H1 locs ht hvm hw hB hz1 hk1 hS => ?_)
        obtain ⟨hP1, hD1⟩ := hB
        rw [ht] at hP1
        obtain ⟨hP, hD⟩ := PDq.join (w := [(v13, .inl (cA 1, 15, .inr (.inl fkw))), (oX10 w0 v0 v1 v2 v3 v4 g5 g6 (nI ed) g8 v9 (nI nb) g11 g12 v13 (nI ln) g15 (nI ta) g17 g18 g19 g20 g21 g22 g23 g24 g25 g26 v27 v28 v29 v30 v31 v32 v33 v34 v35 v36 v37 (nI ol)), (v9, .inl (cA 0, 700, .inl fb))]) 1 hP hD [0, 1] [2] rfl rfl (by decide) (by decide) hk1 hFc hP1 hD1 rfl
        generalize H1 = H at hP hS ⊢
        obtain rfl : rn1 = (bta fb ln ta) := hw
        refine lv_bipush (v := 32) hx hb dX10_advance_8 (by decide) ?_
        refine lv_icmp_eq (tgt := 26) hx hb dX10_advance_10 (by decide) (fun c2 => ?_) (fun c2 => ?_)
        · skip
          rw [bt_out (by omega)] at c2
          exact absurd c2 (by decide)
        · skip
          refine lv_aload_n hx hb dX10_advance_13 rfl (lv_at hl 0 rfl) ?_
          refine lv_aload_n hx hb dX10_advance_14 rfl (lv_at hl 0 rfl) ?_
          refine va_get (D := D) (ci := 11) (v := .int (nI ta)) (C := RX10) (T := TX10) (N := 39) hx hb hts inX10 hown hK hP 1 rfl rfl 16 (by decide) (hts (.fieldLink RX10 110 "EscrowDeskModel" "next" "I") (by decide +kernel)) (fun _ h9 => h9) rfl dX10_advance_15 ?_
          obtain ⟨hPc, hDc, hFc⟩ := PDq.cut (wc := [(oX10 w0 v0 v1 v2 v3 v4 g5 g6 (nI ed) g8 v9 (nI nb) g11 g12 v13 (nI ln) g15 (nI ta) g17 g18 g19 g20 g21 g22 g23 g24 g25 g26 v27 v28 v29 v30 v31 v32 v33 v34 v35 v36 v37 (nI ol)), (v9, .inl (cA 0, 700, .inl fb))]) hP hD hS hA [1, 2] (by decide) rfl
          refine va_calli (va_runV (As := [.int (nI ta)]) (rest := []) ⟨hx, hb, hml, hown, hts⟩ (y_byteAt l D cA sa w0 ed nb ol v0 v1 v2 v3 v4 v9 v13 v27 v28 v29 v30 v31 v32 v33 v34 v35 v36 v37 g8 g11 g12 g15 (nI ta) g17 g18 g19 g20 g21 g22 g23 g24 g26 g5 g6 g25 ln ta fb H.size hln (by omega)) (cwV 1 hts gX10_advance_X10_byteAt rfl rfl rfl (by decide +kernel) ⟨(Nat.le_of_ble_eq_true rfl), (Nat.le_of_ble_eq_true rfl)⟩) ⟨Wd.blind, va_recv hK hPc (ci := 11) (q0 := 0) rfl rfl, fun U hU hW => ⟨rfl, Wd.call hPc hDc hK hC hZ hS hFc U hU hW⟩⟩ rfl rfl hl.1 rfl (lv_room (Nat.le_of_ble_eq_true rfl)) dX10_advance_18 ⟨(Nat.le_of_ble_eq_true rfl), (Nat.le_of_ble_eq_true rfl)⟩) hS (fun q _ h => hFc q h) hFc (fun rn3 u t H1 locs ht hvm hw hB hz1 hk1 hS => ?_)
          obtain ⟨hP1, hD1⟩ := hB
          rw [ht] at hP1
          obtain ⟨hP, hD⟩ := PDq.join (w := [(v13, .inl (cA 1, 15, .inr (.inl fkw))), (oX10 w0 v0 v1 v2 v3 v4 g5 g6 (nI ed) g8 v9 (nI nb) g11 g12 v13 (nI ln) g15 (nI ta) g17 g18 g19 g20 g21 g22 g23 g24 g25 g26 v27 v28 v29 v30 v31 v32 v33 v34 v35 v36 v37 (nI ol)), (v9, .inl (cA 0, 700, .inl fb))]) 1 hP hD [1, 2] [0] rfl rfl (by decide) (by decide) hk1 hFc hP1 hD1 rfl
          generalize H1 = H at hP hS ⊢
          obtain rfl : rn3 = (bta fb ln ta) := hw
          refine lv_bipush (v := 10) hx hb dX10_advance_21 (by decide) ?_
          refine lv_icmp_ne (tgt := 39) hx hb dX10_advance_23 (by decide) (fun c4 => ?_) (fun c4 => ?_)
          · skip
            refine lv_aload_n hx hb dX10_advance_39 rfl (lv_at hl 0 rfl) ?_
            refine lv_aload_n hx hb dX10_advance_40 rfl (lv_at hl 0 rfl) ?_
            refine va_get (D := D) (ci := 11) (v := .int (nI ta)) (C := RX10) (T := TX10) (N := 39) hx hb hts inX10 hown hK hP 1 rfl rfl 16 (by decide) (hts (.fieldLink RX10 110 "EscrowDeskModel" "next" "I") (by decide +kernel)) (fun _ h9 => h9) rfl dX10_advance_41 ?_
            refine va_put (D := D) (ci := 11) (v := .int (nI ta)) (ty := .int) (C := RX10) (T := TX10) (N := 39) hx hb hts inX10 tyX10 tyX10_ok nmX10 hown hK hP hD hS 1 rfl rfl 15 (by decide) (hts (.fieldLink RX10 117 "EscrowDeskModel" "start" "I") (by decide +kernel)) (fun _ h9 => h9) rfl (by decide +kernel) rfl rfl (Nat.le_of_ble_eq_true rfl) dX10_advance_44 (fun H locs hP hD hS => ?_)
            obtain ⟨hP, hD⟩ : PDq D A [(v13, .inl (cA 1, 15, .inr (.inl fkw))), (oX10 w0 v0 v1 v2 v3 v4 g5 g6 (nI ed) g8 v9 (nI nb) g11 g12 v13 (nI ln) (nI ta) (nI ta) g17 g18 g19 g20 g21 g22 g23 g24 g25 g26 v27 v28 v29 v30 v31 v32 v33 v34 v35 v36 v37 (nI ol)), (v9, .inl (cA 0, 700, .inl fb))] H := ⟨hP, hD⟩
            refine lv_aload_n hx hb dX10_advance_47 rfl (lv_at hl 0 rfl) ?_
            refine lv_iconst (v := (-1)) hx hb dX10_advance_48 (by decide) ?_
            refine va_put (D := D) (ci := 11) (v := .int (-1)) (ty := .int) (C := RX10) (T := TX10) (N := 39) hx hb hts inX10 tyX10 tyX10_ok nmX10 hown hK hP hD hS 1 rfl rfl 18 (by decide) (hts (.fieldLink RX10 120 "EscrowDeskModel" "keyword" "I") (by decide +kernel)) (fun _ h9 => h9) rfl (by decide +kernel) rfl rfl (Nat.le_of_ble_eq_true rfl) dX10_advance_49 (fun H locs hP hD hS => ?_)
            obtain ⟨hP, hD⟩ : PDq D A [(v13, .inl (cA 1, 15, .inr (.inl fkw))), (oX10 w0 v0 v1 v2 v3 v4 g5 g6 (nI ed) g8 v9 (nI nb) g11 g12 v13 (nI ln) (nI ta) (nI ta) g17 (-1) g19 g20 g21 g22 g23 g24 g25 g26 v27 v28 v29 v30 v31 v32 v33 v34 v35 v36 v37 (nI ol)), (v9, .inl (cA 0, 700, .inl fb))] H := ⟨hP, hD⟩
            refine lv_aload_n hx hb dX10_advance_52 rfl (lv_at hl 0 rfl) ?_
            refine lv_lconst (v := 0) hx hb dX10_advance_53 (by decide) ?_
            refine va_put (D := D) (ci := 11) (v := .long 0) (ty := .long) (C := RX10) (T := TX10) (N := 39) hx hb hts inX10 tyX10 tyX10_ok nmX10 hown hK hP hD hS 1 rfl rfl 25 (by decide) (hts (.fieldLink RX10 123 "EscrowDeskModel" "word" "J") (by decide +kernel)) (fun _ h9 => h9) rfl (by decide +kernel) rfl rfl (Nat.le_of_ble_eq_true rfl) dX10_advance_54 (fun H locs hP hD hS => ?_)
            obtain ⟨hP, hD⟩ : PDq D A [(v13, .inl (cA 1, 15, .inr (.inl fkw))), (oX10 w0 v0 v1 v2 v3 v4 g5 g6 (nI ed) g8 v9 (nI nb) g11 g12 v13 (nI ln) (nI ta) (nI ta) g17 (-1) g19 g20 g21 g22 g23 g24 0 g26 v27 v28 v29 v30 v31 v32 v33 v34 v35 v36 v37 (nI ol)), (v9, .inl (cA 0, 700, .inl fb))] H := ⟨hP, hD⟩
            refine lv_aload_n hx hb dX10_advance_57 rfl (lv_at hl 0 rfl) ?_
            refine lv_aload_n hx hb dX10_advance_58 rfl (lv_at hl 0 rfl) ?_
            refine va_get (D := D) (ci := 11) (v := .int (nI ta)) (C := RX10) (T := TX10) (N := 39) hx hb hts inX10 hown hK hP 1 rfl rfl 16 (by decide) (hts (.fieldLink RX10 110 "EscrowDeskModel" "next" "I") (by decide +kernel)) (fun _ h9 => h9) rfl dX10_advance_59 ?_
            obtain ⟨hPc, hDc, hFc⟩ := PDq.cut (wc := [(oX10 w0 v0 v1 v2 v3 v4 g5 g6 (nI ed) g8 v9 (nI nb) g11 g12 v13 (nI ln) (nI ta) (nI ta) g17 (-1) g19 g20 g21 g22 g23 g24 0 g26 v27 v28 v29 v30 v31 v32 v33 v34 v35 v36 v37 (nI ol)), (v9, .inl (cA 0, 700, .inl fb))]) hP hD hS hA [1, 2] (by decide) rfl
            refine va_calli (va_runV (As := [.int (nI ta)]) (rest := []) ⟨hx, hb, hml, hown, hts⟩ (y_byteAt l D cA sa w0 ed nb ol v0 v1 v2 v3 v4 v9 v13 v27 v28 v29 v30 v31 v32 v33 v34 v35 v36 v37 g8 g11 g12 (nI ta) (nI ta) g17 (-1) g19 g20 g21 g22 g23 g24 g26 g5 g6 0 ln ta fb H.size hln (by omega)) (cwV 1 hts gX10_advance_X10_byteAt rfl rfl rfl (by decide +kernel) ⟨(Nat.le_of_ble_eq_true rfl), (Nat.le_of_ble_eq_true rfl)⟩) ⟨Wd.blind, va_recv hK hPc (ci := 11) (q0 := 0) rfl rfl, fun U hU hW => ⟨rfl, Wd.call hPc hDc hK hC hZ hS hFc U hU hW⟩⟩ rfl rfl hl.1 rfl (lv_room (Nat.le_of_ble_eq_true rfl)) dX10_advance_62 ⟨(Nat.le_of_ble_eq_true rfl), (Nat.le_of_ble_eq_true rfl)⟩) hS (fun q _ h => hFc q h) hFc (fun rn5 u t H1 locs ht hvm hw hB hz1 hk1 hS => ?_)
            obtain ⟨hP1, hD1⟩ := hB
            rw [ht] at hP1
            obtain ⟨hP, hD⟩ := PDq.join (w := [(v13, .inl (cA 1, 15, .inr (.inl fkw))), (oX10 w0 v0 v1 v2 v3 v4 g5 g6 (nI ed) g8 v9 (nI nb) g11 g12 v13 (nI ln) (nI ta) (nI ta) g17 (-1) g19 g20 g21 g22 g23 g24 0 g26 v27 v28 v29 v30 v31 v32 v33 v34 v35 v36 v37 (nI ol)), (v9, .inl (cA 0, 700, .inl fb))]) 1 hP hD [1, 2] [0] rfl rfl (by decide) (by decide) hk1 hFc hP1 hD1 rfl
            generalize H1 = H at hP hS ⊢
            obtain rfl : rn5 = (bta fb ln ta) := hw
            refine lv_istore_n (lv' := [(1, .int (bta fb ln ta)), (0, .ref w0)]) hx hb dX10_advance_65 rfl hl (by decide) rfl (fun ls hl => ?_)
            refine lv_iload_n hx hb dX10_advance_66 rfl (lv_at hl 0 rfl) ?_
            refine lv_iconst (v := (-1)) hx hb dX10_advance_67 (by decide) ?_
            refine lv_icmp_ne (tgt := 79) hx hb dX10_advance_68 (by decide) (fun c9 => absurd c9 (fun h9 => h9 (bt_out (by omega)))) (fun c6 => ?_)
            refine lv_aload_n hx hb dX10_advance_71 rfl (lv_at hl 1 rfl) ?_
            refine lv_iconst (v := 0) hx hb dX10_advance_72 (by decide) ?_
            refine va_put (D := D) (ci := 11) (v := .int 0) (ty := .int) (C := RX10) (T := TX10) (N := 39) hx hb hts inX10 tyX10 tyX10_ok nmX10 hown hK hP hD hS 1 rfl rfl 17 (by decide) (hts (.fieldLink RX10 126 "EscrowDeskModel" "token" "I") (by decide +kernel)) (fun _ h9 => h9) rfl (by decide +kernel) rfl rfl (Nat.le_of_ble_eq_true rfl) dX10_advance_73 (fun H locs hP hD hS => ?_)
            obtain ⟨hP, hD⟩ : PDq D A [(v13, .inl (cA 1, 15, .inr (.inl fkw))), (oX10 w0 v0 v1 v2 v3 v4 g5 g6 (nI ed) g8 v9 (nI nb) g11 g12 v13 (nI ln) (nI ta) (nI ta) 0 (-1) g19 g20 g21 g22 g23 g24 0 g26 v27 v28 v29 v30 v31 v32 v33 v34 v35 v36 v37 (nI ol)), (v9, .inl (cA 0, 700, .inl fb))] H := ⟨hP, hD⟩
            refine lv_goto (tgt := 354) hx hb dX10_advance_76 (by decide) ?_
            have hP : va_P D vwCl [(v13, .inl (cA 1, 15, .inr (.inl fkw))), (oX10 w0 v0 v1 v2 v3 v4 g5 g6 (nI ed) g8 v9 (nI nb) g11 g12 v13 (nI ln) (nI ta) (nI tb) 0 (-1) g19 g20 g21 g22 g23 g24 0 g26 v27 v28 v29 v30 v31 v32 v33 v34 v35 v36 v37 (nI ol)), (v9, .inl (cA 0, 700, .inl fb))] H := by rw [show tb = ta by omega]; exact hP
            have hD : va_D A [(v13, .inl (cA 1, 15, .inr (.inl fkw))), (oX10 w0 v0 v1 v2 v3 v4 g5 g6 (nI ed) g8 v9 (nI nb) g11 g12 v13 (nI ln) (nI ta) (nI tb) 0 (-1) g19 g20 g21 g22 g23 g24 0 g26 v27 v28 v29 v30 v31 v32 v33 v34 v35 v36 v37 (nI ol)), (v9, .inl (cA 0, 700, .inl fb))] := by rw [show tb = ta by omega]; exact hD
            refine lv_iconst (v := 1) hx hb dX10_advance_354 (by decide) ?_
            obtain ⟨hP9, hD9⟩ := PDq.sub (ws' := [(oX10 w0 v0 v1 v2 v3 v4 g5 g6 (nI ed) g8 v9 (nI nb) g11 g12 v13 (nI ln) (nI ta) (nI tb) 0 (-1) g19 g20 g21 g22 g23 g24 0 g26 v27 v28 v29 v30 v31 v32 v33 v34 v35 v36 v37 (nI ol)), (v9, .inl (cA 0, 700, .inl fb)), (v13, .inl (cA 1, 15, .inr (.inl fkw)))]) hP hD [1, 2, 0] (by decide) rfl
            refine W.widen (k := 0) (n := 0) (Nat.le_of_ble_eq_true rfl) (Nat.le_of_ble_eq_true rfl) ?_
            exact (W.zret (v := 1) hx hb hr (by first | rfl | decide) (fun t ht hW => ⟨⟨1, (), rfl, rfl, 0, (-1), g19, 0, (Or.inl ⟨ge3, rfl⟩), by rw [ht]; exact hP9, hD9⟩, hS.F ht⟩) hS.2.2 dX10_advance_355)
          · skip
            rw [bt_out (by omega)] at c4
            exact absurd c4 (by decide)
      | succ n1 ih1 =>
        intro i1 H locs ls hi1 hv0_1 hP hD hS hl
        refine lv_aload_n hx hb dX10_advance_0 rfl (lv_at hl 0 rfl) ?_
        refine lv_aload_n hx hb dX10_advance_1 rfl (lv_at hl 0 rfl) ?_
        refine va_get (D := D) (ci := 11) (v := .int (nI i1)) (C := RX10) (T := TX10) (N := 39) hx hb hts inX10 hown hK hP 0 rfl rfl 16 (by decide) (hts (.fieldLink RX10 110 "EscrowDeskModel" "next" "I") (by decide +kernel)) (fun _ h9 => h9) rfl dX10_advance_2 ?_
        obtain ⟨hPc, hDc, hFc⟩ := PDq.cut (wc := [(oX10 w0 v0 v1 v2 v3 v4 g5 g6 (nI ed) g8 v9 (nI nb) g11 g12 v13 (nI ln) g15 (nI i1) g17 g18 g19 g20 g21 g22 g23 g24 g25 g26 v27 v28 v29 v30 v31 v32 v33 v34 v35 v36 v37 (nI ol)), (v9, .inl (cA 0, 700, .inl fb))]) hP hD hS hA [0, 1] (by decide) rfl
        refine va_calli (va_runV (As := [.int (nI i1)]) (rest := []) ⟨hx, hb, hml, hown, hts⟩ (y_byteAt l D cA sa w0 ed nb ol v0 v1 v2 v3 v4 v9 v13 v27 v28 v29 v30 v31 v32 v33 v34 v35 v36 v37 g8 g11 g12 g15 (nI i1) g17 g18 g19 g20 g21 g22 g23 g24 g26 g5 g6 g25 ln i1 fb H.size hln (by omega)) (cwV 1 hts gX10_advance_X10_byteAt rfl rfl rfl (by decide +kernel) ⟨(Nat.le_of_ble_eq_true rfl), (Nat.le_of_ble_eq_true rfl)⟩) ⟨Wd.blind, va_recv hK hPc (ci := 11) (q0 := 0) rfl rfl, fun U hU hW => ⟨rfl, Wd.call hPc hDc hK hC hZ hS hFc U hU hW⟩⟩ rfl rfl hl.1 rfl (lv_room (Nat.le_of_ble_eq_true rfl)) dX10_advance_5 ⟨(Nat.le_of_ble_eq_true rfl), (Nat.le_of_ble_eq_true rfl)⟩) hS (fun q _ h => hFc q h) hFc (fun rn7 u t H1 locs ht hvm hw hB hz1 hk1 hS => ?_)
        obtain ⟨hP1, hD1⟩ := hB
        rw [ht] at hP1
        obtain ⟨hP, hD⟩ := PDq.join (w := [(v13, .inl (cA 1, 15, .inr (.inl fkw))), (oX10 w0 v0 v1 v2 v3 v4 g5 g6 (nI ed) g8 v9 (nI nb) g11 g12 v13 (nI ln) g15 (nI i1) g17 g18 g19 g20 g21 g22 g23 g24 g25 g26 v27 v28 v29 v30 v31 v32 v33 v34 v35 v36 v37 (nI ol)), (v9, .inl (cA 0, 700, .inl fb))]) 1 hP hD [0, 1] [2] rfl rfl (by decide) (by decide) hk1 hFc hP1 hD1 rfl
        generalize H1 = H at hP hS ⊢
        obtain rfl : rn7 = (bta fb ln i1) := hw
        refine lv_bipush (v := 32) hx hb dX10_advance_8 (by decide) ?_
        refine lv_icmp_eq (tgt := 26) hx hb dX10_advance_10 (by decide) (fun c8 => ?_) (fun c8 => ?_)
        · skip
          refine lv_aload_n hx hb dX10_advance_26 rfl (lv_at hl 0 rfl) ?_
          refine lv_dup hx hb dX10_advance_27 rfl ?_
          refine va_get (D := D) (ci := 11) (v := .int (nI i1)) (C := RX10) (T := TX10) (N := 39) hx hb hts inX10 hown hK hP 1 rfl rfl 16 (by decide) (hts (.fieldLink RX10 110 "EscrowDeskModel" "next" "I") (by decide +kernel)) (fun _ h9 => h9) rfl dX10_advance_28 ?_
          refine lv_iconst (v := 1) hx hb dX10_advance_31 (by decide) ?_
          refine lv_iadd hx hb dX10_advance_32 ?_
          refine lv_topi (fun yn9 eyn9 => ?_)
          obtain rfl : yn9 = (nI (i1 + 1)) := eyn9.trans (nI_add i1 1)
          refine va_put (D := D) (ci := 11) (v := .int (nI (i1 + 1))) (ty := .int) (C := RX10) (T := TX10) (N := 39) hx hb hts inX10 tyX10 tyX10_ok nmX10 hown hK hP hD hS 1 rfl rfl 16 (by decide) (hts (.fieldLink RX10 110 "EscrowDeskModel" "next" "I") (by decide +kernel)) (fun _ h9 => h9) rfl (by decide +kernel) rfl rfl (Nat.le_of_ble_eq_true rfl) dX10_advance_33 (fun H locs hP hD hS => ?_)
          obtain ⟨hP, hD⟩ : PDq D A [(v13, .inl (cA 1, 15, .inr (.inl fkw))), (oX10 w0 v0 v1 v2 v3 v4 g5 g6 (nI ed) g8 v9 (nI nb) g11 g12 v13 (nI ln) g15 (nI (i1 + 1)) g17 g18 g19 g20 g21 g22 g23 g24 g25 g26 v27 v28 v29 v30 v31 v32 v33 v34 v35 v36 v37 (nI ol)), (v9, .inl (cA 0, 700, .inl fb))] H := ⟨hP, hD⟩
          refine lv_goto (tgt := 0) hx hb dX10_advance_36 (by decide) ?_
          obtain ⟨hP9, hD9⟩ := PDq.sub (ws' := [(oX10 w0 v0 v1 v2 v3 v4 g5 g6 (nI ed) g8 v9 (nI nb) g11 g12 v13 (nI ln) g15 (nI (i1 + 1)) g17 g18 g19 g20 g21 g22 g23 g24 g25 g26 v27 v28 v29 v30 v31 v32 v33 v34 v35 v36 v37 (nI ol)), (v9, .inl (cA 0, 700, .inl fb)), (v13, .inl (cA 1, 15, .inr (.inl fkw)))]) hP hD [1, 2, 0] (by decide) rfl
          exact ih1 (i1 + 1)  H _ ls (by omega) (by omega) hP9 hD9 hS (lv_sub hl [0] rfl)
        · skip
          refine lv_aload_n hx hb dX10_advance_13 rfl (lv_at hl 0 rfl) ?_
          refine lv_aload_n hx hb dX10_advance_14 rfl (lv_at hl 0 rfl) ?_
          refine va_get (D := D) (ci := 11) (v := .int (nI i1)) (C := RX10) (T := TX10) (N := 39) hx hb hts inX10 hown hK hP 1 rfl rfl 16 (by decide) (hts (.fieldLink RX10 110 "EscrowDeskModel" "next" "I") (by decide +kernel)) (fun _ h9 => h9) rfl dX10_advance_15 ?_
          obtain ⟨hPc, hDc, hFc⟩ := PDq.cut (wc := [(oX10 w0 v0 v1 v2 v3 v4 g5 g6 (nI ed) g8 v9 (nI nb) g11 g12 v13 (nI ln) g15 (nI i1) g17 g18 g19 g20 g21 g22 g23 g24 g25 g26 v27 v28 v29 v30 v31 v32 v33 v34 v35 v36 v37 (nI ol)), (v9, .inl (cA 0, 700, .inl fb))]) hP hD hS hA [1, 2] (by decide) rfl
          refine va_calli (va_runV (As := [.int (nI i1)]) (rest := []) ⟨hx, hb, hml, hown, hts⟩ (y_byteAt l D cA sa w0 ed nb ol v0 v1 v2 v3 v4 v9 v13 v27 v28 v29 v30 v31 v32 v33 v34 v35 v36 v37 g8 g11 g12 g15 (nI i1) g17 g18 g19 g20 g21 g22 g23 g24 g26 g5 g6 g25 ln i1 fb H.size hln (by omega)) (cwV 1 hts gX10_advance_X10_byteAt rfl rfl rfl (by decide +kernel) ⟨(Nat.le_of_ble_eq_true rfl), (Nat.le_of_ble_eq_true rfl)⟩) ⟨Wd.blind, va_recv hK hPc (ci := 11) (q0 := 0) rfl rfl, fun U hU hW => ⟨rfl, Wd.call hPc hDc hK hC hZ hS hFc U hU hW⟩⟩ rfl rfl hl.1 rfl (lv_room (Nat.le_of_ble_eq_true rfl)) dX10_advance_18 ⟨(Nat.le_of_ble_eq_true rfl), (Nat.le_of_ble_eq_true rfl)⟩) hS (fun q _ h => hFc q h) hFc (fun rn10 u t H1 locs ht hvm hw hB hz1 hk1 hS => ?_)
          obtain ⟨hP1, hD1⟩ := hB
          rw [ht] at hP1
          obtain ⟨hP, hD⟩ := PDq.join (w := [(v13, .inl (cA 1, 15, .inr (.inl fkw))), (oX10 w0 v0 v1 v2 v3 v4 g5 g6 (nI ed) g8 v9 (nI nb) g11 g12 v13 (nI ln) g15 (nI i1) g17 g18 g19 g20 g21 g22 g23 g24 g25 g26 v27 v28 v29 v30 v31 v32 v33 v34 v35 v36 v37 (nI ol)), (v9, .inl (cA 0, 700, .inl fb))]) 1 hP hD [1, 2] [0] rfl rfl (by decide) (by decide) hk1 hFc hP1 hD1 rfl
          generalize H1 = H at hP hS ⊢
          obtain rfl : rn10 = (bta fb ln i1) := hw
          refine lv_bipush (v := 10) hx hb dX10_advance_21 (by decide) ?_
          refine lv_icmp_ne (tgt := 39) hx hb dX10_advance_23 (by decide) (fun c11 => ?_) (fun c11 => ?_)
          · skip
            rw [bt_in (show i1 < ln by omega)] at c8 c11
            exact absurd (tn3 i1 (by omega) (by omega)) (ckd_n0 c8 c11)
          · skip
            refine lv_aload_n hx hb dX10_advance_26 rfl (lv_at hl 0 rfl) ?_
            refine lv_dup hx hb dX10_advance_27 rfl ?_
            refine va_get (D := D) (ci := 11) (v := .int (nI i1)) (C := RX10) (T := TX10) (N := 39) hx hb hts inX10 hown hK hP 1 rfl rfl 16 (by decide) (hts (.fieldLink RX10 110 "EscrowDeskModel" "next" "I") (by decide +kernel)) (fun _ h9 => h9) rfl dX10_advance_28 ?_
            refine lv_iconst (v := 1) hx hb dX10_advance_31 (by decide) ?_
            refine lv_iadd hx hb dX10_advance_32 ?_
            refine lv_topi (fun yn12 eyn12 => ?_)
            obtain rfl : yn12 = (nI (i1 + 1)) := eyn12.trans (nI_add i1 1)
            refine va_put (D := D) (ci := 11) (v := .int (nI (i1 + 1))) (ty := .int) (C := RX10) (T := TX10) (N := 39) hx hb hts inX10 tyX10 tyX10_ok nmX10 hown hK hP hD hS 1 rfl rfl 16 (by decide) (hts (.fieldLink RX10 110 "EscrowDeskModel" "next" "I") (by decide +kernel)) (fun _ h9 => h9) rfl (by decide +kernel) rfl rfl (Nat.le_of_ble_eq_true rfl) dX10_advance_33 (fun H locs hP hD hS => ?_)
            obtain ⟨hP, hD⟩ : PDq D A [(v13, .inl (cA 1, 15, .inr (.inl fkw))), (oX10 w0 v0 v1 v2 v3 v4 g5 g6 (nI ed) g8 v9 (nI nb) g11 g12 v13 (nI ln) g15 (nI (i1 + 1)) g17 g18 g19 g20 g21 g22 g23 g24 g25 g26 v27 v28 v29 v30 v31 v32 v33 v34 v35 v36 v37 (nI ol)), (v9, .inl (cA 0, 700, .inl fb))] H := ⟨hP, hD⟩
            refine lv_goto (tgt := 0) hx hb dX10_advance_36 (by decide) ?_
            obtain ⟨hP9, hD9⟩ := PDq.sub (ws' := [(oX10 w0 v0 v1 v2 v3 v4 g5 g6 (nI ed) g8 v9 (nI nb) g11 g12 v13 (nI ln) g15 (nI (i1 + 1)) g17 g18 g19 g20 g21 g22 g23 g24 g25 g26 v27 v28 v29 v30 v31 v32 v33 v34 v35 v36 v37 (nI ol)), (v9, .inl (cA 0, 700, .inl fb)), (v13, .inl (cA 1, 15, .inr (.inl fkw)))]) hP hD [1, 2, 0] (by decide) rfl
            exact ih1 (i1 + 1)  H _ ls (by omega) (by omega) hP9 hD9 hS (lv_sub hl [0] rfl)
    obtain ⟨hP9, hD9⟩ := PDq.sub (ws' := [(oX10 w0 v0 v1 v2 v3 v4 g5 g6 (nI ed) g8 v9 (nI nb) g11 g12 v13 (nI ln) g15 (nI nx) g17 g18 g19 g20 g21 g22 g23 g24 g25 g26 v27 v28 v29 v30 v31 v32 v33 v34 v35 v36 v37 (nI ol)), (v9, .inl (cA 0, 700, .inl fb)), (v13, .inl (cA 1, 15, .inr (.inl fkw)))]) hP hD [0, 1, 2] (by decide) rfl
    exact loop1 (ta - nx) nx  _ _ ls (by omega) (by omega) hP9 hD9 hS (lv_sub hl [0] rfl)
  · skip
    have hc0 : ckd (fb ta) = 4 := ga1 ta (Nat.le_refl _) (by omega)
    have hlt : ta ≤ ln := by omega
    have loop2 : ∀ (n2 i2 : Nat) (H : Heap) (locs : List Loc) (ls : Array Slot), i2 + n2 = ta → nx ≤ i2 → va_P D vwCl [(oX10 w0 v0 v1 v2 v3 v4 g5 g6 (nI ed) g8 v9 (nI nb) g11 g12 v13 (nI ln) g15 (nI i2) g17 g18 g19 g20 g21 g22 g23 g24 g25 g26 v27 v28 v29 v30 v31 v32 v33 v34 v35 v36 v37 (nI ol)), (v9, .inl (cA 0, 700, .inl fb)), (v13, .inl (cA 1, 15, .inr (.inl fkw)))] H → va_D A [(oX10 w0 v0 v1 v2 v3 v4 g5 g6 (nI ed) g8 v9 (nI nb) g11 g12 v13 (nI ln) g15 (nI i2) g17 g18 g19 g20 g21 g22 g23 g24 g25 g26 v27 v28 v29 v30 v31 v32 v33 v34 v35 v36 v37 (nI ol)), (v9, .inl (cA 0, 700, .inl fb)), (v13, .inl (cA 1, 15, .inr (.inl fkw)))] → va_S A s.heap H locs → lv_has ls 2 [(0, .ref w0)] → W p l e (headSpec wsX10_advance ({ frames := 1, cells := 0, slots := 0, locals := 23 } : Room)).room s m ([.ref w0] : List Value).toArray below meth c H locs 0 0 (MQ below (va_Qi (fun (r : Int32) (_ : Unit) => r = 1) (fun (_ : Unit) t => ∃ z17 : Int32, ∃ z18 : Int32, ∃ z19 : Int32, ∃ z25 : Int64, TKR kk vv (fb ta) z17 z18 z19 z25 ∧ Wq D A [(oX10 w0 v0 v1 v2 v3 v4 g5 g6 (nI ed) g8 v9 (nI nb) g11 g12 v13 (nI ln) (nI ta) (nI tb) z17 z18 z19 g20 g21 g22 g23 g24 z25 g26 v27 v28 v29 v30 v31 v32 v33 v34 v35 v36 v37 (nI ol)), (v9, .inl (cA 0, 700, .inl fb)), (v13, .inl (cA 1, 15, .inr (.inl fkw)))] t) A) ([.ref w0] : List Value).toArray s 0 0 A) (F0 m 0 ls []) := by
      intro n2
      induction n2 with
      | zero =>
        intro i2 H locs ls hi2 hv0_2 hP hD hS hl
        obtain rfl : ta = i2 := by omega
        refine lv_aload_n hx hb dX10_advance_0 rfl (lv_at hl 0 rfl) ?_
        refine lv_aload_n hx hb dX10_advance_1 rfl (lv_at hl 0 rfl) ?_
        refine va_get (D := D) (ci := 11) (v := .int (nI ta)) (C := RX10) (T := TX10) (N := 39) hx hb hts inX10 hown hK hP 0 rfl rfl 16 (by decide) (hts (.fieldLink RX10 110 "EscrowDeskModel" "next" "I") (by decide +kernel)) (fun _ h9 => h9) rfl dX10_advance_2 ?_
        obtain ⟨hPc, hDc, hFc⟩ := PDq.cut (wc := [(oX10 w0 v0 v1 v2 v3 v4 g5 g6 (nI ed) g8 v9 (nI nb) g11 g12 v13 (nI ln) g15 (nI ta) g17 g18 g19 g20 g21 g22 g23 g24 g25 g26 v27 v28 v29 v30 v31 v32 v33 v34 v35 v36 v37 (nI ol)), (v9, .inl (cA 0, 700, .inl fb))]) hP hD hS hA [0, 1] (by decide) rfl
        refine va_calli (va_runV (As := [.int (nI ta)]) (rest := []) ⟨hx, hb, hml, hown, hts⟩ (y_byteAt l D cA sa w0 ed nb ol v0 v1 v2 v3 v4 v9 v13 v27 v28 v29 v30 v31 v32 v33 v34 v35 v36 v37 g8 g11 g12 g15 (nI ta) g17 g18 g19 g20 g21 g22 g23 g24 g26 g5 g6 g25 ln ta fb H.size hln (by omega)) (cwV 1 hts gX10_advance_X10_byteAt rfl rfl rfl (by decide +kernel) ⟨(Nat.le_of_ble_eq_true rfl), (Nat.le_of_ble_eq_true rfl)⟩) ⟨Wd.blind, va_recv hK hPc (ci := 11) (q0 := 0) rfl rfl, fun U hU hW => ⟨rfl, Wd.call hPc hDc hK hC hZ hS hFc U hU hW⟩⟩ rfl rfl hl.1 rfl (lv_room (Nat.le_of_ble_eq_true rfl)) dX10_advance_5 ⟨(Nat.le_of_ble_eq_true rfl), (Nat.le_of_ble_eq_true rfl)⟩) hS (fun q _ h => hFc q h) hFc (fun rn13 u t H1 locs ht hvm hw hB hz1 hk1 hS => ?_)
        obtain ⟨hP1, hD1⟩ := hB
        rw [ht] at hP1
        obtain ⟨hP, hD⟩ := PDq.join (w := [(v13, .inl (cA 1, 15, .inr (.inl fkw))), (oX10 w0 v0 v1 v2 v3 v4 g5 g6 (nI ed) g8 v9 (nI nb) g11 g12 v13 (nI ln) g15 (nI ta) g17 g18 g19 g20 g21 g22 g23 g24 g25 g26 v27 v28 v29 v30 v31 v32 v33 v34 v35 v36 v37 (nI ol)), (v9, .inl (cA 0, 700, .inl fb))]) 1 hP hD [0, 1] [2] rfl rfl (by decide) (by decide) hk1 hFc hP1 hD1 rfl
        generalize H1 = H at hP hS ⊢
        obtain rfl : rn13 = (bta fb ln ta) := hw
        refine lv_bipush (v := 32) hx hb dX10_advance_8 (by decide) ?_
        refine lv_icmp_eq (tgt := 26) hx hb dX10_advance_10 (by decide) (fun c14 => ?_) (fun c14 => ?_)
        · skip
          rw [bt_in (show ta < ln by omega)] at c14
          rw [c14] at hc0
          exact absurd hc0 (by decide)
        · skip
          refine lv_aload_n hx hb dX10_advance_13 rfl (lv_at hl 0 rfl) ?_
          refine lv_aload_n hx hb dX10_advance_14 rfl (lv_at hl 0 rfl) ?_
          refine va_get (D := D) (ci := 11) (v := .int (nI ta)) (C := RX10) (T := TX10) (N := 39) hx hb hts inX10 hown hK hP 1 rfl rfl 16 (by decide) (hts (.fieldLink RX10 110 "EscrowDeskModel" "next" "I") (by decide +kernel)) (fun _ h9 => h9) rfl dX10_advance_15 ?_
          obtain ⟨hPc, hDc, hFc⟩ := PDq.cut (wc := [(oX10 w0 v0 v1 v2 v3 v4 g5 g6 (nI ed) g8 v9 (nI nb) g11 g12 v13 (nI ln) g15 (nI ta) g17 g18 g19 g20 g21 g22 g23 g24 g25 g26 v27 v28 v29 v30 v31 v32 v33 v34 v35 v36 v37 (nI ol)), (v9, .inl (cA 0, 700, .inl fb))]) hP hD hS hA [1, 2] (by decide) rfl
          refine va_calli (va_runV (As := [.int (nI ta)]) (rest := []) ⟨hx, hb, hml, hown, hts⟩ (y_byteAt l D cA sa w0 ed nb ol v0 v1 v2 v3 v4 v9 v13 v27 v28 v29 v30 v31 v32 v33 v34 v35 v36 v37 g8 g11 g12 g15 (nI ta) g17 g18 g19 g20 g21 g22 g23 g24 g26 g5 g6 g25 ln ta fb H.size hln (by omega)) (cwV 1 hts gX10_advance_X10_byteAt rfl rfl rfl (by decide +kernel) ⟨(Nat.le_of_ble_eq_true rfl), (Nat.le_of_ble_eq_true rfl)⟩) ⟨Wd.blind, va_recv hK hPc (ci := 11) (q0 := 0) rfl rfl, fun U hU hW => ⟨rfl, Wd.call hPc hDc hK hC hZ hS hFc U hU hW⟩⟩ rfl rfl hl.1 rfl (lv_room (Nat.le_of_ble_eq_true rfl)) dX10_advance_18 ⟨(Nat.le_of_ble_eq_true rfl), (Nat.le_of_ble_eq_true rfl)⟩) hS (fun q _ h => hFc q h) hFc (fun rn15 u t H1 locs ht hvm hw hB hz1 hk1 hS => ?_)
          obtain ⟨hP1, hD1⟩ := hB
          rw [ht] at hP1
          obtain ⟨hP, hD⟩ := PDq.join (w := [(v13, .inl (cA 1, 15, .inr (.inl fkw))), (oX10 w0 v0 v1 v2 v3 v4 g5 g6 (nI ed) g8 v9 (nI nb) g11 g12 v13 (nI ln) g15 (nI ta) g17 g18 g19 g20 g21 g22 g23 g24 g25 g26 v27 v28 v29 v30 v31 v32 v33 v34 v35 v36 v37 (nI ol)), (v9, .inl (cA 0, 700, .inl fb))]) 1 hP hD [1, 2] [0] rfl rfl (by decide) (by decide) hk1 hFc hP1 hD1 rfl
          generalize H1 = H at hP hS ⊢
          obtain rfl : rn15 = (bta fb ln ta) := hw
          refine lv_bipush (v := 10) hx hb dX10_advance_21 (by decide) ?_
          refine lv_icmp_ne (tgt := 39) hx hb dX10_advance_23 (by decide) (fun c16 => ?_) (fun c16 => ?_)
          · skip
            refine lv_aload_n hx hb dX10_advance_39 rfl (lv_at hl 0 rfl) ?_
            refine lv_aload_n hx hb dX10_advance_40 rfl (lv_at hl 0 rfl) ?_
            refine va_get (D := D) (ci := 11) (v := .int (nI ta)) (C := RX10) (T := TX10) (N := 39) hx hb hts inX10 hown hK hP 1 rfl rfl 16 (by decide) (hts (.fieldLink RX10 110 "EscrowDeskModel" "next" "I") (by decide +kernel)) (fun _ h9 => h9) rfl dX10_advance_41 ?_
            refine va_put (D := D) (ci := 11) (v := .int (nI ta)) (ty := .int) (C := RX10) (T := TX10) (N := 39) hx hb hts inX10 tyX10 tyX10_ok nmX10 hown hK hP hD hS 1 rfl rfl 15 (by decide) (hts (.fieldLink RX10 117 "EscrowDeskModel" "start" "I") (by decide +kernel)) (fun _ h9 => h9) rfl (by decide +kernel) rfl rfl (Nat.le_of_ble_eq_true rfl) dX10_advance_44 (fun H locs hP hD hS => ?_)
            obtain ⟨hP, hD⟩ : PDq D A [(v13, .inl (cA 1, 15, .inr (.inl fkw))), (oX10 w0 v0 v1 v2 v3 v4 g5 g6 (nI ed) g8 v9 (nI nb) g11 g12 v13 (nI ln) (nI ta) (nI ta) g17 g18 g19 g20 g21 g22 g23 g24 g25 g26 v27 v28 v29 v30 v31 v32 v33 v34 v35 v36 v37 (nI ol)), (v9, .inl (cA 0, 700, .inl fb))] H := ⟨hP, hD⟩
            refine lv_aload_n hx hb dX10_advance_47 rfl (lv_at hl 0 rfl) ?_
            refine lv_iconst (v := (-1)) hx hb dX10_advance_48 (by decide) ?_
            refine va_put (D := D) (ci := 11) (v := .int (-1)) (ty := .int) (C := RX10) (T := TX10) (N := 39) hx hb hts inX10 tyX10 tyX10_ok nmX10 hown hK hP hD hS 1 rfl rfl 18 (by decide) (hts (.fieldLink RX10 120 "EscrowDeskModel" "keyword" "I") (by decide +kernel)) (fun _ h9 => h9) rfl (by decide +kernel) rfl rfl (Nat.le_of_ble_eq_true rfl) dX10_advance_49 (fun H locs hP hD hS => ?_)
            obtain ⟨hP, hD⟩ : PDq D A [(v13, .inl (cA 1, 15, .inr (.inl fkw))), (oX10 w0 v0 v1 v2 v3 v4 g5 g6 (nI ed) g8 v9 (nI nb) g11 g12 v13 (nI ln) (nI ta) (nI ta) g17 (-1) g19 g20 g21 g22 g23 g24 g25 g26 v27 v28 v29 v30 v31 v32 v33 v34 v35 v36 v37 (nI ol)), (v9, .inl (cA 0, 700, .inl fb))] H := ⟨hP, hD⟩
            refine lv_aload_n hx hb dX10_advance_52 rfl (lv_at hl 0 rfl) ?_
            refine lv_lconst (v := 0) hx hb dX10_advance_53 (by decide) ?_
            refine va_put (D := D) (ci := 11) (v := .long 0) (ty := .long) (C := RX10) (T := TX10) (N := 39) hx hb hts inX10 tyX10 tyX10_ok nmX10 hown hK hP hD hS 1 rfl rfl 25 (by decide) (hts (.fieldLink RX10 123 "EscrowDeskModel" "word" "J") (by decide +kernel)) (fun _ h9 => h9) rfl (by decide +kernel) rfl rfl (Nat.le_of_ble_eq_true rfl) dX10_advance_54 (fun H locs hP hD hS => ?_)
            obtain ⟨hP, hD⟩ : PDq D A [(v13, .inl (cA 1, 15, .inr (.inl fkw))), (oX10 w0 v0 v1 v2 v3 v4 g5 g6 (nI ed) g8 v9 (nI nb) g11 g12 v13 (nI ln) (nI ta) (nI ta) g17 (-1) g19 g20 g21 g22 g23 g24 0 g26 v27 v28 v29 v30 v31 v32 v33 v34 v35 v36 v37 (nI ol)), (v9, .inl (cA 0, 700, .inl fb))] H := ⟨hP, hD⟩
            refine lv_aload_n hx hb dX10_advance_57 rfl (lv_at hl 0 rfl) ?_
            refine lv_aload_n hx hb dX10_advance_58 rfl (lv_at hl 0 rfl) ?_
            refine va_get (D := D) (ci := 11) (v := .int (nI ta)) (C := RX10) (T := TX10) (N := 39) hx hb hts inX10 hown hK hP 1 rfl rfl 16 (by decide) (hts (.fieldLink RX10 110 "EscrowDeskModel" "next" "I") (by decide +kernel)) (fun _ h9 => h9) rfl dX10_advance_59 ?_
            obtain ⟨hPc, hDc, hFc⟩ := PDq.cut (wc := [(oX10 w0 v0 v1 v2 v3 v4 g5 g6 (nI ed) g8 v9 (nI nb) g11 g12 v13 (nI ln) (nI ta) (nI ta) g17 (-1) g19 g20 g21 g22 g23 g24 0 g26 v27 v28 v29 v30 v31 v32 v33 v34 v35 v36 v37 (nI ol)), (v9, .inl (cA 0, 700, .inl fb))]) hP hD hS hA [1, 2] (by decide) rfl
            refine va_calli (va_runV (As := [.int (nI ta)]) (rest := []) ⟨hx, hb, hml, hown, hts⟩ (y_byteAt l D cA sa w0 ed nb ol v0 v1 v2 v3 v4 v9 v13 v27 v28 v29 v30 v31 v32 v33 v34 v35 v36 v37 g8 g11 g12 (nI ta) (nI ta) g17 (-1) g19 g20 g21 g22 g23 g24 g26 g5 g6 0 ln ta fb H.size hln (by omega)) (cwV 1 hts gX10_advance_X10_byteAt rfl rfl rfl (by decide +kernel) ⟨(Nat.le_of_ble_eq_true rfl), (Nat.le_of_ble_eq_true rfl)⟩) ⟨Wd.blind, va_recv hK hPc (ci := 11) (q0 := 0) rfl rfl, fun U hU hW => ⟨rfl, Wd.call hPc hDc hK hC hZ hS hFc U hU hW⟩⟩ rfl rfl hl.1 rfl (lv_room (Nat.le_of_ble_eq_true rfl)) dX10_advance_62 ⟨(Nat.le_of_ble_eq_true rfl), (Nat.le_of_ble_eq_true rfl)⟩) hS (fun q _ h => hFc q h) hFc (fun rn17 u t H1 locs ht hvm hw hB hz1 hk1 hS => ?_)
            obtain ⟨hP1, hD1⟩ := hB
            rw [ht] at hP1
            obtain ⟨hP, hD⟩ := PDq.join (w := [(v13, .inl (cA 1, 15, .inr (.inl fkw))), (oX10 w0 v0 v1 v2 v3 v4 g5 g6 (nI ed) g8 v9 (nI nb) g11 g12 v13 (nI ln) (nI ta) (nI ta) g17 (-1) g19 g20 g21 g22 g23 g24 0 g26 v27 v28 v29 v30 v31 v32 v33 v34 v35 v36 v37 (nI ol)), (v9, .inl (cA 0, 700, .inl fb))]) 1 hP hD [1, 2] [0] rfl rfl (by decide) (by decide) hk1 hFc hP1 hD1 rfl
            generalize H1 = H at hP hS ⊢
            obtain rfl : rn17 = (bta fb ln ta) := hw
            refine lv_istore_n (lv' := [(1, .int (bta fb ln ta)), (0, .ref w0)]) hx hb dX10_advance_65 rfl hl (by decide) rfl (fun ls hl => ?_)
            refine lv_iload_n hx hb dX10_advance_66 rfl (lv_at hl 0 rfl) ?_
            refine lv_iconst (v := (-1)) hx hb dX10_advance_67 (by decide) ?_
            refine lv_icmp_ne (tgt := 79) hx hb dX10_advance_68 (by decide) (fun c18 => ?_) (fun c9 => absurd c9 (by rw [bt_in (show ta < ln by omega)]; exact fun h9 => hBY ta (by omega) (by rw [h9]; decide)))
            refine lv_iload_n hx hb dX10_advance_79 rfl (lv_at hl 0 rfl) ?_
            obtain ⟨hPc, hDc, hFc⟩ := PDq.cut (wc := []) hP hD hS hA [] (by decide) rfl
            refine va_calli (va_runS (As := [.int (bta fb ln ta)]) (rest := []) ⟨hx, hb, hml, hown, hts⟩ (y_isLetter l D cA sa (bta fb ln ta) H.size) (va_cwS 1 hts gX10_advance_X10_isLetter rfl rfl rfl (by decide +kernel) ⟨(Nat.le_of_ble_eq_true rfl), (Nat.le_of_ble_eq_true rfl)⟩) ⟨Wd.blind, fun U hU hW => ⟨rfl, Wd.call hPc hDc hK hC hZ hS hFc U hU hW⟩⟩ rfl rfl hl.1 rfl (lv_room (Nat.le_of_ble_eq_true rfl)) dX10_advance_80 ⟨(Nat.le_of_ble_eq_true rfl), (Nat.le_of_ble_eq_true rfl)⟩) hS (fun q _ h => hFc q h) hFc (fun rn19 u t H1 locs ht hvm hw hB hz1 hk1 hS => ?_)
            obtain ⟨hP1, hD1⟩ := hB
            rw [ht] at hP1
            obtain ⟨hP, hD⟩ := PDq.join (w := [(v13, .inl (cA 1, 15, .inr (.inl fkw))), (oX10 w0 v0 v1 v2 v3 v4 g5 g6 (nI ed) g8 v9 (nI nb) g11 g12 v13 (nI ln) (nI ta) (nI ta) g17 (-1) g19 g20 g21 g22 g23 g24 0 g26 v27 v28 v29 v30 v31 v32 v33 v34 v35 v36 v37 (nI ol)), (v9, .inl (cA 0, 700, .inl fb))]) 3 hP hD [] [0, 1, 2] rfl rfl (by decide) (by decide) hk1 hFc hP1 hD1 rfl
            generalize H1 = H at hP hS ⊢
            rcases hw with ⟨hr9, hn20⟩ | ⟨hr9, hn20⟩
            · skip
              subst hr9
              refine lv_if_eq (tgt := 210) hx hb dX10_advance_83 (by decide) (fun c9 => absurd c9 (by decide)) (fun c21 => ?_)
              have loop3 : ∀ (n3 i3 : Nat) (u1_25_3 : Int64) (H : Heap) (locs : List Loc) (ls : Array Slot), i3 + n3 = tb → ta ≤ i3 → Wlq fb ta i3 u1_25_3 → va_P D vwCl [(v13, .inl (cA 1, 15, .inr (.inl fkw))), (oX10 w0 v0 v1 v2 v3 v4 g5 g6 (nI ed) g8 v9 (nI nb) g11 g12 v13 (nI ln) (nI ta) (nI i3) g17 (-1) g19 g20 g21 g22 g23 g24 u1_25_3 g26 v27 v28 v29 v30 v31 v32 v33 v34 v35 v36 v37 (nI ol)), (v9, .inl (cA 0, 700, .inl fb))] H → va_D A [(v13, .inl (cA 1, 15, .inr (.inl fkw))), (oX10 w0 v0 v1 v2 v3 v4 g5 g6 (nI ed) g8 v9 (nI nb) g11 g12 v13 (nI ln) (nI ta) (nI i3) g17 (-1) g19 g20 g21 g22 g23 g24 u1_25_3 g26 v27 v28 v29 v30 v31 v32 v33 v34 v35 v36 v37 (nI ol)), (v9, .inl (cA 0, 700, .inl fb))] → va_S A s.heap H locs → lv_has ls 2 [(1, .int (bta fb ln ta)), (0, .ref w0)] → W p l e (headSpec wsX10_advance ({ frames := 1, cells := 0, slots := 0, locals := 23 } : Room)).room s m ([.ref w0] : List Value).toArray below meth c H locs 0 0 (MQ below (va_Qi (fun (r : Int32) (_ : Unit) => r = 1) (fun (_ : Unit) t => ∃ z17 : Int32, ∃ z18 : Int32, ∃ z19 : Int32, ∃ z25 : Int64, TKR kk vv (fb ta) z17 z18 z19 z25 ∧ Wq D A [(oX10 w0 v0 v1 v2 v3 v4 g5 g6 (nI ed) g8 v9 (nI nb) g11 g12 v13 (nI ln) (nI ta) (nI tb) z17 z18 z19 g20 g21 g22 g23 g24 z25 g26 v27 v28 v29 v30 v31 v32 v33 v34 v35 v36 v37 (nI ol)), (v9, .inl (cA 0, 700, .inl fb)), (v13, .inl (cA 1, 15, .inr (.inl fkw)))] t) A) ([.ref w0] : List Value).toArray s 0 0 A) (F0 m 86 ls []) := by
                intro n3
                induction n3 with
                | zero =>
                  intro i3 u1_25_3 H locs ls hi3 hv0_3 hv1_3 hP hD hS hl
                  obtain rfl : tb = i3 := by omega
                  refine lv_aload_n hx hb dX10_advance_86 rfl (lv_at hl 1 rfl) ?_
                  refine lv_aload_n hx hb dX10_advance_87 rfl (lv_at hl 1 rfl) ?_
                  refine va_get (D := D) (ci := 11) (v := .int (nI tb)) (C := RX10) (T := TX10) (N := 39) hx hb hts inX10 hown hK hP 1 rfl rfl 16 (by decide) (hts (.fieldLink RX10 110 "EscrowDeskModel" "next" "I") (by decide +kernel)) (fun _ h9 => h9) rfl dX10_advance_88 ?_
                  obtain ⟨hPc, hDc, hFc⟩ := PDq.cut (wc := [(oX10 w0 v0 v1 v2 v3 v4 g5 g6 (nI ed) g8 v9 (nI nb) g11 g12 v13 (nI ln) (nI ta) (nI tb) g17 (-1) g19 g20 g21 g22 g23 g24 u1_25_3 g26 v27 v28 v29 v30 v31 v32 v33 v34 v35 v36 v37 (nI ol)), (v9, .inl (cA 0, 700, .inl fb))]) hP hD hS hA [1, 2] (by decide) rfl
                  refine va_calli (va_runV (As := [.int (nI tb)]) (rest := []) ⟨hx, hb, hml, hown, hts⟩ (y_byteAt l D cA sa w0 ed nb ol v0 v1 v2 v3 v4 v9 v13 v27 v28 v29 v30 v31 v32 v33 v34 v35 v36 v37 g8 g11 g12 (nI ta) (nI tb) g17 (-1) g19 g20 g21 g22 g23 g24 g26 g5 g6 u1_25_3 ln tb fb H.size hln (by omega)) (cwV 1 hts gX10_advance_X10_byteAt rfl rfl rfl (by decide +kernel) ⟨(Nat.le_of_ble_eq_true rfl), (Nat.le_of_ble_eq_true rfl)⟩) ⟨Wd.blind, va_recv hK hPc (ci := 11) (q0 := 0) rfl rfl, fun U hU hW => ⟨rfl, Wd.call hPc hDc hK hC hZ hS hFc U hU hW⟩⟩ rfl rfl hl.1 rfl (lv_room (Nat.le_of_ble_eq_true rfl)) dX10_advance_91 ⟨(Nat.le_of_ble_eq_true rfl), (Nat.le_of_ble_eq_true rfl)⟩) hS (fun q _ h => hFc q h) hFc (fun rn22 u t H1 locs ht hvm hw hB hz1 hk1 hS => ?_)
                  obtain ⟨hP1, hD1⟩ := hB
                  rw [ht] at hP1
                  obtain ⟨hP, hD⟩ := PDq.join (w := [(v13, .inl (cA 1, 15, .inr (.inl fkw))), (oX10 w0 v0 v1 v2 v3 v4 g5 g6 (nI ed) g8 v9 (nI nb) g11 g12 v13 (nI ln) (nI ta) (nI tb) g17 (-1) g19 g20 g21 g22 g23 g24 u1_25_3 g26 v27 v28 v29 v30 v31 v32 v33 v34 v35 v36 v37 (nI ol)), (v9, .inl (cA 0, 700, .inl fb))]) 1 hP hD [1, 2] [0] rfl rfl (by decide) (by decide) hk1 hFc hP1 hD1 rfl
                  generalize H1 = H at hP hS ⊢
                  obtain rfl : rn22 = (bta fb ln tb) := hw
                  obtain ⟨hPc, hDc, hFc⟩ := PDq.cut (wc := []) hP hD hS hA [] (by decide) rfl
                  refine va_calli (va_runS (As := [.int (bta fb ln tb)]) (rest := []) ⟨hx, hb, hml, hown, hts⟩ (y_isLetter l D cA sa (bta fb ln tb) H.size) (va_cwS 1 hts gX10_advance_X10_isLetter rfl rfl rfl (by decide +kernel) ⟨(Nat.le_of_ble_eq_true rfl), (Nat.le_of_ble_eq_true rfl)⟩) ⟨Wd.blind, fun U hU hW => ⟨rfl, Wd.call hPc hDc hK hC hZ hS hFc U hU hW⟩⟩ rfl rfl hl.1 rfl (lv_room (Nat.le_of_ble_eq_true rfl)) dX10_advance_94 ⟨(Nat.le_of_ble_eq_true rfl), (Nat.le_of_ble_eq_true rfl)⟩) hS (fun q _ h => hFc q h) hFc (fun rn23 u t H1 locs ht hvm hw hB hz1 hk1 hS => ?_)
                  obtain ⟨hP1, hD1⟩ := hB
                  rw [ht] at hP1
                  obtain ⟨hP, hD⟩ := PDq.join (w := [(v13, .inl (cA 1, 15, .inr (.inl fkw))), (oX10 w0 v0 v1 v2 v3 v4 g5 g6 (nI ed) g8 v9 (nI nb) g11 g12 v13 (nI ln) (nI ta) (nI tb) g17 (-1) g19 g20 g21 g22 g23 g24 u1_25_3 g26 v27 v28 v29 v30 v31 v32 v33 v34 v35 v36 v37 (nI ol)), (v9, .inl (cA 0, 700, .inl fb))]) 3 hP hD [] [0, 1, 2] rfl rfl (by decide) (by decide) hk1 hFc hP1 hD1 rfl
                  generalize H1 = H at hP hS ⊢
                  rcases hw with ⟨hr9, hn24⟩ | ⟨hr9, hn24⟩
                  · skip
                    subst hr9
                    exact absurd hn24 (bt_nb ga2)
                  · skip
                    subst hr9
                    refine lv_if_eq (tgt := 160) hx hb dX10_advance_97 (by decide) (fun c25 => ?_) (fun c9 => absurd c9 (by decide))
                    refine lv_aload_n hx hb dX10_advance_160 rfl (lv_at hl 1 rfl) ?_
                    refine lv_aload_n hx hb dX10_advance_161 rfl (lv_at hl 1 rfl) ?_
                    refine va_get (D := D) (ci := 11) (v := .int (nI tb)) (C := RX10) (T := TX10) (N := 39) hx hb hts inX10 hown hK hP 1 rfl rfl 16 (by decide) (hts (.fieldLink RX10 110 "EscrowDeskModel" "next" "I") (by decide +kernel)) (fun _ h9 => h9) rfl dX10_advance_162 ?_
                    refine lv_aload_n hx hb dX10_advance_165 rfl (lv_at hl 1 rfl) ?_
                    refine va_get (D := D) (ci := 11) (v := .int (nI ta)) (C := RX10) (T := TX10) (N := 39) hx hb hts inX10 hown hK hP 1 rfl rfl 15 (by decide) (hts (.fieldLink RX10 117 "EscrowDeskModel" "start" "I") (by decide +kernel)) (fun _ h9 => h9) rfl dX10_advance_166 ?_
                    refine lv_isub hx hb dX10_advance_169 ?_
                    refine lv_topi (fun yn26 eyn26 => ?_)
                    obtain rfl : yn26 = (nI (tb - ta)) := eyn26.trans (nI_sub (a := tb) (b := ta) (by omega))
                    refine lv_bipush (v := 9) hx hb dX10_advance_170 (by decide) ?_
                    refine lv_icmp_le (tgt := 179) hx hb dX10_advance_172 (by decide) (fun c27 => ?_) (fun c9 => absurd (nI_le (a := (tb - ta)) (b := 9) (show (tb - ta) ≤ 9 by omega) (by omega)) c9)
                    refine lv_iconst (v := 2) hx hb dX10_advance_179 (by decide) ?_
                    refine va_put (D := D) (ci := 11) (v := .int 2) (ty := .int) (C := RX10) (T := TX10) (N := 39) hx hb hts inX10 tyX10 tyX10_ok nmX10 hown hK hP hD hS 1 rfl rfl 17 (by decide) (hts (.fieldLink RX10 126 "EscrowDeskModel" "token" "I") (by decide +kernel)) (fun _ h9 => h9) rfl (by decide +kernel) rfl rfl (Nat.le_of_ble_eq_true rfl) dX10_advance_180 (fun H locs hP hD hS => ?_)
                    obtain ⟨hP, hD⟩ : PDq D A [(v13, .inl (cA 1, 15, .inr (.inl fkw))), (oX10 w0 v0 v1 v2 v3 v4 g5 g6 (nI ed) g8 v9 (nI nb) g11 g12 v13 (nI ln) (nI ta) (nI tb) 2 (-1) g19 g20 g21 g22 g23 g24 u1_25_3 g26 v27 v28 v29 v30 v31 v32 v33 v34 v35 v36 v37 (nI ol)), (v9, .inl (cA 0, 700, .inl fb))] H := ⟨hP, hD⟩
                    refine lv_aload_n hx hb dX10_advance_183 rfl (lv_at hl 1 rfl) ?_
                    refine lv_aload_n hx hb dX10_advance_184 rfl (lv_at hl 1 rfl) ?_
                    refine va_get (D := D) (ci := 11) (v := .int 2) (C := RX10) (T := TX10) (N := 39) hx hb hts inX10 hown hK hP 1 rfl rfl 17 (by decide) (hts (.fieldLink RX10 126 "EscrowDeskModel" "token" "I") (by decide +kernel)) (fun _ h9 => h9) rfl dX10_advance_185 ?_
                    refine lv_iconst (v := 2) hx hb dX10_advance_188 (by decide) ?_
                    refine lv_icmp_ne (tgt := 203) hx hb dX10_advance_189 (by decide) (fun c9 => absurd c9 (by decide)) (fun c28 => ?_)
                    refine lv_aload_n hx hb dX10_advance_192 rfl (lv_at hl 1 rfl) ?_
                    refine lv_aload_n hx hb dX10_advance_193 rfl (lv_at hl 1 rfl) ?_
                    refine va_get (D := D) (ci := 11) (v := .long u1_25_3) (C := RX10) (T := TX10) (N := 39) hx hb hts inX10 hown hK hP 1 rfl rfl 25 (by decide) (hts (.fieldLink RX10 123 "EscrowDeskModel" "word" "J") (by decide +kernel)) (fun _ h9 => h9) rfl dX10_advance_194 ?_
                    obtain ⟨hPc, hDc, hFc⟩ := PDq.cut (wc := [(oX10 w0 v0 v1 v2 v3 v4 g5 g6 (nI ed) g8 v9 (nI nb) g11 g12 v13 (nI ln) (nI ta) (nI tb) 2 (-1) g19 g20 g21 g22 g23 g24 u1_25_3 g26 v27 v28 v29 v30 v31 v32 v33 v34 v35 v36 v37 (nI ol)), (v13, .inl (cA 1, 15, .inr (.inl fkw)))]) hP hD hS hA [1, 0] (by decide) rfl
                    refine va_calli (va_runV (As := [.long u1_25_3]) (rest := [.ref w0]) ⟨hx, hb, hml, hown, hts⟩ (y_keywordOf l D cA sa w0 ed nb ol v0 v1 v2 v3 v4 v9 v13 v27 v28 v29 v30 v31 v32 v33 v34 v35 v36 v37 g8 g11 g12 (nI ln) (nI ta) (nI tb) 2 (-1) g19 g20 g21 g22 g23 g24 g26 g5 g6 u1_25_3 u1_25_3 fkw H.size) (cwV 1 hts gX10_advance_X10_keywordOf rfl rfl rfl (by decide +kernel) ⟨(Nat.le_of_ble_eq_true rfl), (Nat.le_of_ble_eq_true rfl)⟩) ⟨Wd.blind, va_recv hK hPc (ci := 11) (q0 := 0) rfl rfl, fun U hU hW => ⟨rfl, Wd.call hPc hDc hK hC hZ hS hFc U hU hW⟩⟩ rfl rfl hl.1 rfl (lv_room (Nat.le_of_ble_eq_true rfl)) dX10_advance_197 ⟨(Nat.le_of_ble_eq_true rfl), (Nat.le_of_ble_eq_true rfl)⟩) hS (fun q _ h => hFc q h) hFc (fun rn29 u t H1 locs ht hvm hw hB hz1 hk1 hS => ?_)
                    obtain ⟨hP1, hD1⟩ := hB
                    rw [ht] at hP1
                    obtain ⟨hP, hD⟩ := PDq.join (w := [(v9, .inl (cA 0, 700, .inl fb)), (oX10 w0 v0 v1 v2 v3 v4 g5 g6 (nI ed) g8 v9 (nI nb) g11 g12 v13 (nI ln) (nI ta) (nI tb) 2 (-1) g19 g20 g21 g22 g23 g24 u1_25_3 g26 v27 v28 v29 v30 v31 v32 v33 v34 v35 v36 v37 (nI ol)), (v13, .inl (cA 1, 15, .inr (.inl fkw)))]) 1 hP hD [1, 0] [2] rfl rfl (by decide) (by decide) hk1 hFc hP1 hD1 rfl
                    generalize H1 = H at hP hS ⊢
                    have hn30 := hw
                    refine lv_goto (tgt := 204) hx hb dX10_advance_200 (by decide) ?_
                    refine va_put (D := D) (ci := 11) (v := .int rn29) (ty := .int) (C := RX10) (T := TX10) (N := 39) hx hb hts inX10 tyX10 tyX10_ok nmX10 hown hK hP hD hS 1 rfl rfl 18 (by decide) (hts (.fieldLink RX10 120 "EscrowDeskModel" "keyword" "I") (by decide +kernel)) (fun _ h9 => h9) rfl (by decide +kernel) rfl rfl (Nat.le_of_ble_eq_true rfl) dX10_advance_204 (fun H locs hP hD hS => ?_)
                    obtain ⟨hP, hD⟩ : PDq D A [(v9, .inl (cA 0, 700, .inl fb)), (oX10 w0 v0 v1 v2 v3 v4 g5 g6 (nI ed) g8 v9 (nI nb) g11 g12 v13 (nI ln) (nI ta) (nI tb) 2 rn29 g19 g20 g21 g22 g23 g24 u1_25_3 g26 v27 v28 v29 v30 v31 v32 v33 v34 v35 v36 v37 (nI ol)), (v13, .inl (cA 1, 15, .inr (.inl fkw)))] H := ⟨hP, hD⟩
                    refine lv_goto (tgt := 354) hx hb dX10_advance_207 (by decide) ?_
                    refine lv_iconst (v := 1) hx hb dX10_advance_354 (by decide) ?_
                    obtain ⟨hP9, hD9⟩ := PDq.sub (ws' := [(oX10 w0 v0 v1 v2 v3 v4 g5 g6 (nI ed) g8 v9 (nI nb) g11 g12 v13 (nI ln) (nI ta) (nI tb) 2 rn29 g19 g20 g21 g22 g23 g24 u1_25_3 g26 v27 v28 v29 v30 v31 v32 v33 v34 v35 v36 v37 (nI ol)), (v9, .inl (cA 0, 700, .inl fb)), (v13, .inl (cA 1, 15, .inr (.inl fkw)))]) hP hD [1, 0, 2] (by decide) rfl
                    refine W.widen (k := 0) (n := 0) (Nat.le_of_ble_eq_true rfl) (Nat.le_of_ble_eq_true rfl) ?_
                    exact (W.zret (v := 1) hx hb hr (by first | rfl | decide) (fun t ht hW => ⟨⟨1, (), rfl, rfl, 2, rn29, g19, u1_25_3, (TKR.word _ _ hKW hn30 ((hv1_3 (by omega)).trans ga4.symm) (by rw [ge9, ga5])), by rw [ht]; exact hP9, hD9⟩, hS.F ht⟩) hS.2.2 dX10_advance_355)
                | succ n3 ih3 =>
                  intro i3 u1_25_3 H locs ls hi3 hv0_3 hv1_3 hP hD hS hl
                  refine lv_aload_n hx hb dX10_advance_86 rfl (lv_at hl 1 rfl) ?_
                  refine lv_aload_n hx hb dX10_advance_87 rfl (lv_at hl 1 rfl) ?_
                  refine va_get (D := D) (ci := 11) (v := .int (nI i3)) (C := RX10) (T := TX10) (N := 39) hx hb hts inX10 hown hK hP 1 rfl rfl 16 (by decide) (hts (.fieldLink RX10 110 "EscrowDeskModel" "next" "I") (by decide +kernel)) (fun _ h9 => h9) rfl dX10_advance_88 ?_
                  obtain ⟨hPc, hDc, hFc⟩ := PDq.cut (wc := [(oX10 w0 v0 v1 v2 v3 v4 g5 g6 (nI ed) g8 v9 (nI nb) g11 g12 v13 (nI ln) (nI ta) (nI i3) g17 (-1) g19 g20 g21 g22 g23 g24 u1_25_3 g26 v27 v28 v29 v30 v31 v32 v33 v34 v35 v36 v37 (nI ol)), (v9, .inl (cA 0, 700, .inl fb))]) hP hD hS hA [1, 2] (by decide) rfl
                  refine va_calli (va_runV (As := [.int (nI i3)]) (rest := []) ⟨hx, hb, hml, hown, hts⟩ (y_byteAt l D cA sa w0 ed nb ol v0 v1 v2 v3 v4 v9 v13 v27 v28 v29 v30 v31 v32 v33 v34 v35 v36 v37 g8 g11 g12 (nI ta) (nI i3) g17 (-1) g19 g20 g21 g22 g23 g24 g26 g5 g6 u1_25_3 ln i3 fb H.size hln (by omega)) (cwV 1 hts gX10_advance_X10_byteAt rfl rfl rfl (by decide +kernel) ⟨(Nat.le_of_ble_eq_true rfl), (Nat.le_of_ble_eq_true rfl)⟩) ⟨Wd.blind, va_recv hK hPc (ci := 11) (q0 := 0) rfl rfl, fun U hU hW => ⟨rfl, Wd.call hPc hDc hK hC hZ hS hFc U hU hW⟩⟩ rfl rfl hl.1 rfl (lv_room (Nat.le_of_ble_eq_true rfl)) dX10_advance_91 ⟨(Nat.le_of_ble_eq_true rfl), (Nat.le_of_ble_eq_true rfl)⟩) hS (fun q _ h => hFc q h) hFc (fun rn31 u t H1 locs ht hvm hw hB hz1 hk1 hS => ?_)
                  obtain ⟨hP1, hD1⟩ := hB
                  rw [ht] at hP1
                  obtain ⟨hP, hD⟩ := PDq.join (w := [(v13, .inl (cA 1, 15, .inr (.inl fkw))), (oX10 w0 v0 v1 v2 v3 v4 g5 g6 (nI ed) g8 v9 (nI nb) g11 g12 v13 (nI ln) (nI ta) (nI i3) g17 (-1) g19 g20 g21 g22 g23 g24 u1_25_3 g26 v27 v28 v29 v30 v31 v32 v33 v34 v35 v36 v37 (nI ol)), (v9, .inl (cA 0, 700, .inl fb))]) 1 hP hD [1, 2] [0] rfl rfl (by decide) (by decide) hk1 hFc hP1 hD1 rfl
                  generalize H1 = H at hP hS ⊢
                  obtain rfl : rn31 = (bta fb ln i3) := hw
                  obtain ⟨hPc, hDc, hFc⟩ := PDq.cut (wc := []) hP hD hS hA [] (by decide) rfl
                  refine va_calli (va_runS (As := [.int (bta fb ln i3)]) (rest := []) ⟨hx, hb, hml, hown, hts⟩ (y_isLetter l D cA sa (bta fb ln i3) H.size) (va_cwS 1 hts gX10_advance_X10_isLetter rfl rfl rfl (by decide +kernel) ⟨(Nat.le_of_ble_eq_true rfl), (Nat.le_of_ble_eq_true rfl)⟩) ⟨Wd.blind, fun U hU hW => ⟨rfl, Wd.call hPc hDc hK hC hZ hS hFc U hU hW⟩⟩ rfl rfl hl.1 rfl (lv_room (Nat.le_of_ble_eq_true rfl)) dX10_advance_94 ⟨(Nat.le_of_ble_eq_true rfl), (Nat.le_of_ble_eq_true rfl)⟩) hS (fun q _ h => hFc q h) hFc (fun rn32 u t H1 locs ht hvm hw hB hz1 hk1 hS => ?_)
                  obtain ⟨hP1, hD1⟩ := hB
                  rw [ht] at hP1
                  obtain ⟨hP, hD⟩ := PDq.join (w := [(v13, .inl (cA 1, 15, .inr (.inl fkw))), (oX10 w0 v0 v1 v2 v3 v4 g5 g6 (nI ed) g8 v9 (nI nb) g11 g12 v13 (nI ln) (nI ta) (nI i3) g17 (-1) g19 g20 g21 g22 g23 g24 u1_25_3 g26 v27 v28 v29 v30 v31 v32 v33 v34 v35 v36 v37 (nI ol)), (v9, .inl (cA 0, 700, .inl fb))]) 3 hP hD [] [0, 1, 2] rfl rfl (by decide) (by decide) hk1 hFc hP1 hD1 rfl
                  generalize H1 = H at hP hS ⊢
                  rcases hw with ⟨hr9, hn33⟩ | ⟨hr9, hn33⟩
                  · skip
                    subst hr9
                    refine lv_if_eq (tgt := 160) hx hb dX10_advance_97 (by decide) (fun c9 => absurd c9 (by decide)) (fun c34 => ?_)
                    refine lv_aload_n hx hb dX10_advance_100 rfl (lv_at hl 1 rfl) ?_
                    refine lv_aload_n hx hb dX10_advance_101 rfl (lv_at hl 1 rfl) ?_
                    refine va_get (D := D) (ci := 11) (v := .int (nI i3)) (C := RX10) (T := TX10) (N := 39) hx hb hts inX10 hown hK hP 1 rfl rfl 16 (by decide) (hts (.fieldLink RX10 110 "EscrowDeskModel" "next" "I") (by decide +kernel)) (fun _ h9 => h9) rfl dX10_advance_102 ?_
                    refine lv_aload_n hx hb dX10_advance_105 rfl (lv_at hl 1 rfl) ?_
                    refine va_get (D := D) (ci := 11) (v := .int (nI ta)) (C := RX10) (T := TX10) (N := 39) hx hb hts inX10 hown hK hP 1 rfl rfl 15 (by decide) (hts (.fieldLink RX10 117 "EscrowDeskModel" "start" "I") (by decide +kernel)) (fun _ h9 => h9) rfl dX10_advance_106 ?_
                    refine lv_isub hx hb dX10_advance_109 ?_
                    refine lv_topi (fun yn35 eyn35 => ?_)
                    obtain rfl : yn35 = (nI (i3 - ta)) := eyn35.trans (nI_sub (a := i3) (b := ta) (by omega))
                    refine lv_bipush (v := 9) hx hb dX10_advance_110 (by decide) ?_
                    refine lv_icmp_ge (tgt := 140) hx hb dX10_advance_112 (by decide) (fun c36 => ?_) (fun c36 => ?_)
                    · skip
                      have hn37 : 9 ≤ (i3 - ta) := (nI_leI (a := 9) (b := (i3 - ta)) (by omega) (by omega)).mp c36
                      refine lv_aload_n hx hb dX10_advance_140 rfl (lv_at hl 1 rfl) ?_
                      refine va_get (D := D) (ci := 11) (v := .long u1_25_3) (C := RX10) (T := TX10) (N := 39) hx hb hts inX10 hown hK hP 1 rfl rfl 25 (by decide) (hts (.fieldLink RX10 123 "EscrowDeskModel" "word" "J") (by decide +kernel)) (fun _ h9 => h9) rfl dX10_advance_141 ?_
                      refine va_put (D := D) (ci := 11) (v := .long u1_25_3) (ty := .long) (C := RX10) (T := TX10) (N := 39) hx hb hts inX10 tyX10 tyX10_ok nmX10 hown hK hP hD hS 1 rfl rfl 25 (by decide) (hts (.fieldLink RX10 123 "EscrowDeskModel" "word" "J") (by decide +kernel)) (fun _ h9 => h9) rfl (by decide +kernel) rfl rfl (Nat.le_of_ble_eq_true rfl) dX10_advance_144 (fun H locs hP hD hS => ?_)
                      obtain ⟨hP, hD⟩ : PDq D A [(v13, .inl (cA 1, 15, .inr (.inl fkw))), (oX10 w0 v0 v1 v2 v3 v4 g5 g6 (nI ed) g8 v9 (nI nb) g11 g12 v13 (nI ln) (nI ta) (nI i3) g17 (-1) g19 g20 g21 g22 g23 g24 u1_25_3 g26 v27 v28 v29 v30 v31 v32 v33 v34 v35 v36 v37 (nI ol)), (v9, .inl (cA 0, 700, .inl fb))] H := ⟨hP, hD⟩
                      refine lv_aload_n hx hb dX10_advance_147 rfl (lv_at hl 1 rfl) ?_
                      refine lv_dup hx hb dX10_advance_148 rfl ?_
                      refine va_get (D := D) (ci := 11) (v := .int (nI i3)) (C := RX10) (T := TX10) (N := 39) hx hb hts inX10 hown hK hP 1 rfl rfl 16 (by decide) (hts (.fieldLink RX10 110 "EscrowDeskModel" "next" "I") (by decide +kernel)) (fun _ h9 => h9) rfl dX10_advance_149 ?_
                      refine lv_iconst (v := 1) hx hb dX10_advance_152 (by decide) ?_
                      refine lv_iadd hx hb dX10_advance_153 ?_
                      refine lv_topi (fun yn38 eyn38 => ?_)
                      obtain rfl : yn38 = (nI (i3 + 1)) := eyn38.trans (nI_add i3 1)
                      refine va_put (D := D) (ci := 11) (v := .int (nI (i3 + 1))) (ty := .int) (C := RX10) (T := TX10) (N := 39) hx hb hts inX10 tyX10 tyX10_ok nmX10 hown hK hP hD hS 1 rfl rfl 16 (by decide) (hts (.fieldLink RX10 110 "EscrowDeskModel" "next" "I") (by decide +kernel)) (fun _ h9 => h9) rfl (by decide +kernel) rfl rfl (Nat.le_of_ble_eq_true rfl) dX10_advance_154 (fun H locs hP hD hS => ?_)
                      obtain ⟨hP, hD⟩ : PDq D A [(v13, .inl (cA 1, 15, .inr (.inl fkw))), (oX10 w0 v0 v1 v2 v3 v4 g5 g6 (nI ed) g8 v9 (nI nb) g11 g12 v13 (nI ln) (nI ta) (nI (i3 + 1)) g17 (-1) g19 g20 g21 g22 g23 g24 u1_25_3 g26 v27 v28 v29 v30 v31 v32 v33 v34 v35 v36 v37 (nI ol)), (v9, .inl (cA 0, 700, .inl fb))] H := ⟨hP, hD⟩
                      refine lv_goto (tgt := 86) hx hb dX10_advance_157 (by decide) ?_
                      obtain ⟨hP9, hD9⟩ := PDq.sub (ws' := [(v13, .inl (cA 1, 15, .inr (.inl fkw))), (oX10 w0 v0 v1 v2 v3 v4 g5 g6 (nI ed) g8 v9 (nI nb) g11 g12 v13 (nI ln) (nI ta) (nI (i3 + 1)) g17 (-1) g19 g20 g21 g22 g23 g24 u1_25_3 g26 v27 v28 v29 v30 v31 v32 v33 v34 v35 v36 v37 (nI ol)), (v9, .inl (cA 0, 700, .inl fb))]) hP hD [0, 1, 2] (by decide) rfl
                      exact ih3 (i3 + 1) u1_25_3 H _ ls (by omega) (by omega) (Wlq.far (by omega)) hP9 hD9 hS (lv_sub hl [0, 1] rfl)
                    · skip
                      have hn39 : (i3 - ta) < 9 := Nat.lt_of_not_le (fun h9 => c36 (nI_le (a := 9) (b := (i3 - ta)) h9 (by omega)))
                      refine lv_ldc2 (v := 32) hx hb hown (hts (.constantLong RX10 103 32) (by decide +kernel)) dX10_advance_115 ?_
                      refine lv_aload_n hx hb dX10_advance_118 rfl (lv_at hl 1 rfl) ?_
                      refine va_get (D := D) (ci := 11) (v := .long u1_25_3) (C := RX10) (T := TX10) (N := 39) hx hb hts inX10 hown hK hP 1 rfl rfl 25 (by decide) (hts (.fieldLink RX10 123 "EscrowDeskModel" "word" "J") (by decide +kernel)) (fun _ h9 => h9) rfl dX10_advance_119 ?_
                      refine lv_lmul hx hb dX10_advance_122 ?_
                      refine lv_topl (fun yn40 eyn40 => ?_)
                      refine lv_aload_n hx hb dX10_advance_123 rfl (lv_at hl 1 rfl) ?_
                      refine lv_aload_n hx hb dX10_advance_124 rfl (lv_at hl 1 rfl) ?_
                      refine va_get (D := D) (ci := 11) (v := .int (nI i3)) (C := RX10) (T := TX10) (N := 39) hx hb hts inX10 hown hK hP 1 rfl rfl 16 (by decide) (hts (.fieldLink RX10 110 "EscrowDeskModel" "next" "I") (by decide +kernel)) (fun _ h9 => h9) rfl dX10_advance_125 ?_
                      obtain ⟨hPc, hDc, hFc⟩ := PDq.cut (wc := [(oX10 w0 v0 v1 v2 v3 v4 g5 g6 (nI ed) g8 v9 (nI nb) g11 g12 v13 (nI ln) (nI ta) (nI i3) g17 (-1) g19 g20 g21 g22 g23 g24 u1_25_3 g26 v27 v28 v29 v30 v31 v32 v33 v34 v35 v36 v37 (nI ol)), (v9, .inl (cA 0, 700, .inl fb))]) hP hD hS hA [1, 2] (by decide) rfl
                      refine va_calli (va_runV (As := [.int (nI i3)]) (rest := [.long yn40, .ref w0]) ⟨hx, hb, hml, hown, hts⟩ (y_byteAt l D cA sa w0 ed nb ol v0 v1 v2 v3 v4 v9 v13 v27 v28 v29 v30 v31 v32 v33 v34 v35 v36 v37 g8 g11 g12 (nI ta) (nI i3) g17 (-1) g19 g20 g21 g22 g23 g24 g26 g5 g6 u1_25_3 ln i3 fb H.size hln (by omega)) (cwV 1 hts gX10_advance_X10_byteAt rfl rfl rfl (by decide +kernel) ⟨(Nat.le_of_ble_eq_true rfl), (Nat.le_of_ble_eq_true rfl)⟩) ⟨Wd.blind, va_recv hK hPc (ci := 11) (q0 := 0) rfl rfl, fun U hU hW => ⟨rfl, Wd.call hPc hDc hK hC hZ hS hFc U hU hW⟩⟩ rfl rfl hl.1 rfl (lv_room (Nat.le_of_ble_eq_true rfl)) dX10_advance_128 ⟨(Nat.le_of_ble_eq_true rfl), (Nat.le_of_ble_eq_true rfl)⟩) hS (fun q _ h => hFc q h) hFc (fun rn41 u t H1 locs ht hvm hw hB hz1 hk1 hS => ?_)
                      obtain ⟨hP1, hD1⟩ := hB
                      rw [ht] at hP1
                      obtain ⟨hP, hD⟩ := PDq.join (w := [(v13, .inl (cA 1, 15, .inr (.inl fkw))), (oX10 w0 v0 v1 v2 v3 v4 g5 g6 (nI ed) g8 v9 (nI nb) g11 g12 v13 (nI ln) (nI ta) (nI i3) g17 (-1) g19 g20 g21 g22 g23 g24 u1_25_3 g26 v27 v28 v29 v30 v31 v32 v33 v34 v35 v36 v37 (nI ol)), (v9, .inl (cA 0, 700, .inl fb))]) 1 hP hD [1, 2] [0] rfl rfl (by decide) (by decide) hk1 hFc hP1 hD1 rfl
                      generalize H1 = H at hP hS ⊢
                      obtain rfl : rn41 = (bta fb ln i3) := hw
                      refine lv_i2l (v := ((bta fb ln i3).toInt64)) hx hb dX10_advance_131 rfl ?_
                      refine lv_ladd hx hb dX10_advance_132 ?_
                      refine lv_topl (fun yn42 eyn42 => ?_)
                      refine lv_ldc2 (v := 96) hx hb hown (hts (.constantLong RX10 105 96) (by decide +kernel)) dX10_advance_133 ?_
                      refine lv_lsub hx hb dX10_advance_136 ?_
                      refine lv_topl (fun yn43 eyn43 => ?_)
                      refine lv_goto (tgt := 144) hx hb dX10_advance_137 (by decide) ?_
                      refine va_put (D := D) (ci := 11) (v := .long yn43) (ty := .long) (C := RX10) (T := TX10) (N := 39) hx hb hts inX10 tyX10 tyX10_ok nmX10 hown hK hP hD hS 1 rfl rfl 25 (by decide) (hts (.fieldLink RX10 123 "EscrowDeskModel" "word" "J") (by decide +kernel)) (fun _ h9 => h9) rfl (by decide +kernel) rfl rfl (Nat.le_of_ble_eq_true rfl) dX10_advance_144 (fun H locs hP hD hS => ?_)
                      obtain ⟨hP, hD⟩ : PDq D A [(v13, .inl (cA 1, 15, .inr (.inl fkw))), (oX10 w0 v0 v1 v2 v3 v4 g5 g6 (nI ed) g8 v9 (nI nb) g11 g12 v13 (nI ln) (nI ta) (nI i3) g17 (-1) g19 g20 g21 g22 g23 g24 yn43 g26 v27 v28 v29 v30 v31 v32 v33 v34 v35 v36 v37 (nI ol)), (v9, .inl (cA 0, 700, .inl fb))] H := ⟨hP, hD⟩
                      refine lv_aload_n hx hb dX10_advance_147 rfl (lv_at hl 1 rfl) ?_
                      refine lv_dup hx hb dX10_advance_148 rfl ?_
                      refine va_get (D := D) (ci := 11) (v := .int (nI i3)) (C := RX10) (T := TX10) (N := 39) hx hb hts inX10 hown hK hP 1 rfl rfl 16 (by decide) (hts (.fieldLink RX10 110 "EscrowDeskModel" "next" "I") (by decide +kernel)) (fun _ h9 => h9) rfl dX10_advance_149 ?_
                      refine lv_iconst (v := 1) hx hb dX10_advance_152 (by decide) ?_
                      refine lv_iadd hx hb dX10_advance_153 ?_
                      refine lv_topi (fun yn44 eyn44 => ?_)
                      obtain rfl : yn44 = (nI (i3 + 1)) := eyn44.trans (nI_add i3 1)
                      refine va_put (D := D) (ci := 11) (v := .int (nI (i3 + 1))) (ty := .int) (C := RX10) (T := TX10) (N := 39) hx hb hts inX10 tyX10 tyX10_ok nmX10 hown hK hP hD hS 1 rfl rfl 16 (by decide) (hts (.fieldLink RX10 110 "EscrowDeskModel" "next" "I") (by decide +kernel)) (fun _ h9 => h9) rfl (by decide +kernel) rfl rfl (Nat.le_of_ble_eq_true rfl) dX10_advance_154 (fun H locs hP hD hS => ?_)
                      obtain ⟨hP, hD⟩ : PDq D A [(v13, .inl (cA 1, 15, .inr (.inl fkw))), (oX10 w0 v0 v1 v2 v3 v4 g5 g6 (nI ed) g8 v9 (nI nb) g11 g12 v13 (nI ln) (nI ta) (nI (i3 + 1)) g17 (-1) g19 g20 g21 g22 g23 g24 yn43 g26 v27 v28 v29 v30 v31 v32 v33 v34 v35 v36 v37 (nI ol)), (v9, .inl (cA 0, 700, .inl fb))] H := ⟨hP, hD⟩
                      refine lv_goto (tgt := 86) hx hb dX10_advance_157 (by decide) ?_
                      obtain ⟨hP9, hD9⟩ := PDq.sub (ws' := [(v13, .inl (cA 1, 15, .inr (.inl fkw))), (oX10 w0 v0 v1 v2 v3 v4 g5 g6 (nI ed) g8 v9 (nI nb) g11 g12 v13 (nI ln) (nI ta) (nI (i3 + 1)) g17 (-1) g19 g20 g21 g22 g23 g24 yn43 g26 v27 v28 v29 v30 v31 v32 v33 v34 v35 v36 v37 (nI ol)), (v9, .inl (cA 0, 700, .inl fb))]) hP hD [0, 1, 2] (by decide) rfl
                      exact ih3 (i3 + 1) yn43 H _ ls (by omega) (by omega) (Wlq.step hv1_3 (by omega) (show i3 < ln by omega) eyn40 eyn42 eyn43) hP9 hD9 hS (lv_sub hl [0, 1] rfl)
                  · skip
                    subst hr9
                    exact absurd (by rw [bt_in (show i3 < ln by omega)]; exact ckd_4.mp (ga1 i3 (by omega) (by omega))) hn33
              obtain ⟨hP9, hD9⟩ := PDq.sub (ws' := [(v13, .inl (cA 1, 15, .inr (.inl fkw))), (oX10 w0 v0 v1 v2 v3 v4 g5 g6 (nI ed) g8 v9 (nI nb) g11 g12 v13 (nI ln) (nI ta) (nI ta) g17 (-1) g19 g20 g21 g22 g23 g24 0 g26 v27 v28 v29 v30 v31 v32 v33 v34 v35 v36 v37 (nI ol)), (v9, .inl (cA 0, 700, .inl fb))]) hP hD [0, 1, 2] (by decide) rfl
              exact loop3 (tb - ta) ta 0 _ _ ls (by omega) (by omega) (Wlq.zero fb ta) hP9 hD9 hS (lv_sub hl [0, 1] rfl)
            · skip
              subst hr9
              exact absurd (by rw [bt_in (show ta < ln by omega)]; exact ckd_4.mp hc0) hn20
          · skip
            rw [bt_in (show ta < ln by omega)] at c16
            rw [c16] at hc0
            exact absurd hc0 (by decide)
      | succ n2 ih2 =>
        intro i2 H locs ls hi2 hv0_2 hP hD hS hl
        refine lv_aload_n hx hb dX10_advance_0 rfl (lv_at hl 0 rfl) ?_
        refine lv_aload_n hx hb dX10_advance_1 rfl (lv_at hl 0 rfl) ?_
        refine va_get (D := D) (ci := 11) (v := .int (nI i2)) (C := RX10) (T := TX10) (N := 39) hx hb hts inX10 hown hK hP 0 rfl rfl 16 (by decide) (hts (.fieldLink RX10 110 "EscrowDeskModel" "next" "I") (by decide +kernel)) (fun _ h9 => h9) rfl dX10_advance_2 ?_
        obtain ⟨hPc, hDc, hFc⟩ := PDq.cut (wc := [(oX10 w0 v0 v1 v2 v3 v4 g5 g6 (nI ed) g8 v9 (nI nb) g11 g12 v13 (nI ln) g15 (nI i2) g17 g18 g19 g20 g21 g22 g23 g24 g25 g26 v27 v28 v29 v30 v31 v32 v33 v34 v35 v36 v37 (nI ol)), (v9, .inl (cA 0, 700, .inl fb))]) hP hD hS hA [0, 1] (by decide) rfl
        refine va_calli (va_runV (As := [.int (nI i2)]) (rest := []) ⟨hx, hb, hml, hown, hts⟩ (y_byteAt l D cA sa w0 ed nb ol v0 v1 v2 v3 v4 v9 v13 v27 v28 v29 v30 v31 v32 v33 v34 v35 v36 v37 g8 g11 g12 g15 (nI i2) g17 g18 g19 g20 g21 g22 g23 g24 g26 g5 g6 g25 ln i2 fb H.size hln (by omega)) (cwV 1 hts gX10_advance_X10_byteAt rfl rfl rfl (by decide +kernel) ⟨(Nat.le_of_ble_eq_true rfl), (Nat.le_of_ble_eq_true rfl)⟩) ⟨Wd.blind, va_recv hK hPc (ci := 11) (q0 := 0) rfl rfl, fun U hU hW => ⟨rfl, Wd.call hPc hDc hK hC hZ hS hFc U hU hW⟩⟩ rfl rfl hl.1 rfl (lv_room (Nat.le_of_ble_eq_true rfl)) dX10_advance_5 ⟨(Nat.le_of_ble_eq_true rfl), (Nat.le_of_ble_eq_true rfl)⟩) hS (fun q _ h => hFc q h) hFc (fun rn45 u t H1 locs ht hvm hw hB hz1 hk1 hS => ?_)
        obtain ⟨hP1, hD1⟩ := hB
        rw [ht] at hP1
        obtain ⟨hP, hD⟩ := PDq.join (w := [(v13, .inl (cA 1, 15, .inr (.inl fkw))), (oX10 w0 v0 v1 v2 v3 v4 g5 g6 (nI ed) g8 v9 (nI nb) g11 g12 v13 (nI ln) g15 (nI i2) g17 g18 g19 g20 g21 g22 g23 g24 g25 g26 v27 v28 v29 v30 v31 v32 v33 v34 v35 v36 v37 (nI ol)), (v9, .inl (cA 0, 700, .inl fb))]) 1 hP hD [0, 1] [2] rfl rfl (by decide) (by decide) hk1 hFc hP1 hD1 rfl
        generalize H1 = H at hP hS ⊢
        obtain rfl : rn45 = (bta fb ln i2) := hw
        refine lv_bipush (v := 32) hx hb dX10_advance_8 (by decide) ?_
        refine lv_icmp_eq (tgt := 26) hx hb dX10_advance_10 (by decide) (fun c46 => ?_) (fun c46 => ?_)
        · skip
          refine lv_aload_n hx hb dX10_advance_26 rfl (lv_at hl 0 rfl) ?_
          refine lv_dup hx hb dX10_advance_27 rfl ?_
          refine va_get (D := D) (ci := 11) (v := .int (nI i2)) (C := RX10) (T := TX10) (N := 39) hx hb hts inX10 hown hK hP 1 rfl rfl 16 (by decide) (hts (.fieldLink RX10 110 "EscrowDeskModel" "next" "I") (by decide +kernel)) (fun _ h9 => h9) rfl dX10_advance_28 ?_
          refine lv_iconst (v := 1) hx hb dX10_advance_31 (by decide) ?_
          refine lv_iadd hx hb dX10_advance_32 ?_
          refine lv_topi (fun yn47 eyn47 => ?_)
          obtain rfl : yn47 = (nI (i2 + 1)) := eyn47.trans (nI_add i2 1)
          refine va_put (D := D) (ci := 11) (v := .int (nI (i2 + 1))) (ty := .int) (C := RX10) (T := TX10) (N := 39) hx hb hts inX10 tyX10 tyX10_ok nmX10 hown hK hP hD hS 1 rfl rfl 16 (by decide) (hts (.fieldLink RX10 110 "EscrowDeskModel" "next" "I") (by decide +kernel)) (fun _ h9 => h9) rfl (by decide +kernel) rfl rfl (Nat.le_of_ble_eq_true rfl) dX10_advance_33 (fun H locs hP hD hS => ?_)
          obtain ⟨hP, hD⟩ : PDq D A [(v13, .inl (cA 1, 15, .inr (.inl fkw))), (oX10 w0 v0 v1 v2 v3 v4 g5 g6 (nI ed) g8 v9 (nI nb) g11 g12 v13 (nI ln) g15 (nI (i2 + 1)) g17 g18 g19 g20 g21 g22 g23 g24 g25 g26 v27 v28 v29 v30 v31 v32 v33 v34 v35 v36 v37 (nI ol)), (v9, .inl (cA 0, 700, .inl fb))] H := ⟨hP, hD⟩
          refine lv_goto (tgt := 0) hx hb dX10_advance_36 (by decide) ?_
          obtain ⟨hP9, hD9⟩ := PDq.sub (ws' := [(oX10 w0 v0 v1 v2 v3 v4 g5 g6 (nI ed) g8 v9 (nI nb) g11 g12 v13 (nI ln) g15 (nI (i2 + 1)) g17 g18 g19 g20 g21 g22 g23 g24 g25 g26 v27 v28 v29 v30 v31 v32 v33 v34 v35 v36 v37 (nI ol)), (v9, .inl (cA 0, 700, .inl fb)), (v13, .inl (cA 1, 15, .inr (.inl fkw)))]) hP hD [1, 2, 0] (by decide) rfl
          exact ih2 (i2 + 1)  H _ ls (by omega) (by omega) hP9 hD9 hS (lv_sub hl [0] rfl)
        · skip
          refine lv_aload_n hx hb dX10_advance_13 rfl (lv_at hl 0 rfl) ?_
          refine lv_aload_n hx hb dX10_advance_14 rfl (lv_at hl 0 rfl) ?_
          refine va_get (D := D) (ci := 11) (v := .int (nI i2)) (C := RX10) (T := TX10) (N := 39) hx hb hts inX10 hown hK hP 1 rfl rfl 16 (by decide) (hts (.fieldLink RX10 110 "EscrowDeskModel" "next" "I") (by decide +kernel)) (fun _ h9 => h9) rfl dX10_advance_15 ?_
          obtain ⟨hPc, hDc, hFc⟩ := PDq.cut (wc := [(oX10 w0 v0 v1 v2 v3 v4 g5 g6 (nI ed) g8 v9 (nI nb) g11 g12 v13 (nI ln) g15 (nI i2) g17 g18 g19 g20 g21 g22 g23 g24 g25 g26 v27 v28 v29 v30 v31 v32 v33 v34 v35 v36 v37 (nI ol)), (v9, .inl (cA 0, 700, .inl fb))]) hP hD hS hA [1, 2] (by decide) rfl
          refine va_calli (va_runV (As := [.int (nI i2)]) (rest := []) ⟨hx, hb, hml, hown, hts⟩ (y_byteAt l D cA sa w0 ed nb ol v0 v1 v2 v3 v4 v9 v13 v27 v28 v29 v30 v31 v32 v33 v34 v35 v36 v37 g8 g11 g12 g15 (nI i2) g17 g18 g19 g20 g21 g22 g23 g24 g26 g5 g6 g25 ln i2 fb H.size hln (by omega)) (cwV 1 hts gX10_advance_X10_byteAt rfl rfl rfl (by decide +kernel) ⟨(Nat.le_of_ble_eq_true rfl), (Nat.le_of_ble_eq_true rfl)⟩) ⟨Wd.blind, va_recv hK hPc (ci := 11) (q0 := 0) rfl rfl, fun U hU hW => ⟨rfl, Wd.call hPc hDc hK hC hZ hS hFc U hU hW⟩⟩ rfl rfl hl.1 rfl (lv_room (Nat.le_of_ble_eq_true rfl)) dX10_advance_18 ⟨(Nat.le_of_ble_eq_true rfl), (Nat.le_of_ble_eq_true rfl)⟩) hS (fun q _ h => hFc q h) hFc (fun rn48 u t H1 locs ht hvm hw hB hz1 hk1 hS => ?_)
          obtain ⟨hP1, hD1⟩ := hB
          rw [ht] at hP1
          obtain ⟨hP, hD⟩ := PDq.join (w := [(v13, .inl (cA 1, 15, .inr (.inl fkw))), (oX10 w0 v0 v1 v2 v3 v4 g5 g6 (nI ed) g8 v9 (nI nb) g11 g12 v13 (nI ln) g15 (nI i2) g17 g18 g19 g20 g21 g22 g23 g24 g25 g26 v27 v28 v29 v30 v31 v32 v33 v34 v35 v36 v37 (nI ol)), (v9, .inl (cA 0, 700, .inl fb))]) 1 hP hD [1, 2] [0] rfl rfl (by decide) (by decide) hk1 hFc hP1 hD1 rfl
          generalize H1 = H at hP hS ⊢
          obtain rfl : rn48 = (bta fb ln i2) := hw
          refine lv_bipush (v := 10) hx hb dX10_advance_21 (by decide) ?_
          refine lv_icmp_ne (tgt := 39) hx hb dX10_advance_23 (by decide) (fun c49 => ?_) (fun c49 => ?_)
          · skip
            rw [bt_in (show i2 < ln by omega)] at c46 c49
            exact absurd (tn3 i2 (by omega) (by omega)) (ckd_n0 c46 c49)
          · skip
            refine lv_aload_n hx hb dX10_advance_26 rfl (lv_at hl 0 rfl) ?_
            refine lv_dup hx hb dX10_advance_27 rfl ?_
            refine va_get (D := D) (ci := 11) (v := .int (nI i2)) (C := RX10) (T := TX10) (N := 39) hx hb hts inX10 hown hK hP 1 rfl rfl 16 (by decide) (hts (.fieldLink RX10 110 "EscrowDeskModel" "next" "I") (by decide +kernel)) (fun _ h9 => h9) rfl dX10_advance_28 ?_
            refine lv_iconst (v := 1) hx hb dX10_advance_31 (by decide) ?_
            refine lv_iadd hx hb dX10_advance_32 ?_
            refine lv_topi (fun yn50 eyn50 => ?_)
            obtain rfl : yn50 = (nI (i2 + 1)) := eyn50.trans (nI_add i2 1)
            refine va_put (D := D) (ci := 11) (v := .int (nI (i2 + 1))) (ty := .int) (C := RX10) (T := TX10) (N := 39) hx hb hts inX10 tyX10 tyX10_ok nmX10 hown hK hP hD hS 1 rfl rfl 16 (by decide) (hts (.fieldLink RX10 110 "EscrowDeskModel" "next" "I") (by decide +kernel)) (fun _ h9 => h9) rfl (by decide +kernel) rfl rfl (Nat.le_of_ble_eq_true rfl) dX10_advance_33 (fun H locs hP hD hS => ?_)
            obtain ⟨hP, hD⟩ : PDq D A [(v13, .inl (cA 1, 15, .inr (.inl fkw))), (oX10 w0 v0 v1 v2 v3 v4 g5 g6 (nI ed) g8 v9 (nI nb) g11 g12 v13 (nI ln) g15 (nI (i2 + 1)) g17 g18 g19 g20 g21 g22 g23 g24 g25 g26 v27 v28 v29 v30 v31 v32 v33 v34 v35 v36 v37 (nI ol)), (v9, .inl (cA 0, 700, .inl fb))] H := ⟨hP, hD⟩
            refine lv_goto (tgt := 0) hx hb dX10_advance_36 (by decide) ?_
            obtain ⟨hP9, hD9⟩ := PDq.sub (ws' := [(oX10 w0 v0 v1 v2 v3 v4 g5 g6 (nI ed) g8 v9 (nI nb) g11 g12 v13 (nI ln) g15 (nI (i2 + 1)) g17 g18 g19 g20 g21 g22 g23 g24 g25 g26 v27 v28 v29 v30 v31 v32 v33 v34 v35 v36 v37 (nI ol)), (v9, .inl (cA 0, 700, .inl fb)), (v13, .inl (cA 1, 15, .inr (.inl fkw)))]) hP hD [1, 2, 0] (by decide) rfl
            exact ih2 (i2 + 1)  H _ ls (by omega) (by omega) hP9 hD9 hS (lv_sub hl [0] rfl)
    obtain ⟨hP9, hD9⟩ := PDq.sub (ws' := [(oX10 w0 v0 v1 v2 v3 v4 g5 g6 (nI ed) g8 v9 (nI nb) g11 g12 v13 (nI ln) g15 (nI nx) g17 g18 g19 g20 g21 g22 g23 g24 g25 g26 v27 v28 v29 v30 v31 v32 v33 v34 v35 v36 v37 (nI ol)), (v9, .inl (cA 0, 700, .inl fb)), (v13, .inl (cA 1, 15, .inr (.inl fkw)))]) hP hD [0, 1, 2] (by decide) rfl
    exact loop2 (ta - nx) nx  _ _ ls (by omega) (by omega) hP9 hD9 hS (lv_sub hl [0] rfl)
  · skip
    have hc0 : ckd (fb ta) = 4 := ga1 ta (Nat.le_refl _) (by omega)
    have hlt : ta ≤ ln := by omega
    have loop4 : ∀ (n4 i4 : Nat) (H : Heap) (locs : List Loc) (ls : Array Slot), i4 + n4 = ta → nx ≤ i4 → va_P D vwCl [(oX10 w0 v0 v1 v2 v3 v4 g5 g6 (nI ed) g8 v9 (nI nb) g11 g12 v13 (nI ln) g15 (nI i4) g17 g18 g19 g20 g21 g22 g23 g24 g25 g26 v27 v28 v29 v30 v31 v32 v33 v34 v35 v36 v37 (nI ol)), (v9, .inl (cA 0, 700, .inl fb)), (v13, .inl (cA 1, 15, .inr (.inl fkw)))] H → va_D A [(oX10 w0 v0 v1 v2 v3 v4 g5 g6 (nI ed) g8 v9 (nI nb) g11 g12 v13 (nI ln) g15 (nI i4) g17 g18 g19 g20 g21 g22 g23 g24 g25 g26 v27 v28 v29 v30 v31 v32 v33 v34 v35 v36 v37 (nI ol)), (v9, .inl (cA 0, 700, .inl fb)), (v13, .inl (cA 1, 15, .inr (.inl fkw)))] → va_S A s.heap H locs → lv_has ls 2 [(0, .ref w0)] → W p l e (headSpec wsX10_advance ({ frames := 1, cells := 0, slots := 0, locals := 23 } : Room)).room s m ([.ref w0] : List Value).toArray below meth c H locs 0 0 (MQ below (va_Qi (fun (r : Int32) (_ : Unit) => r = 1) (fun (_ : Unit) t => ∃ z17 : Int32, ∃ z18 : Int32, ∃ z19 : Int32, ∃ z25 : Int64, TKR kk vv (fb ta) z17 z18 z19 z25 ∧ Wq D A [(oX10 w0 v0 v1 v2 v3 v4 g5 g6 (nI ed) g8 v9 (nI nb) g11 g12 v13 (nI ln) (nI ta) (nI tb) z17 z18 z19 g20 g21 g22 g23 g24 z25 g26 v27 v28 v29 v30 v31 v32 v33 v34 v35 v36 v37 (nI ol)), (v9, .inl (cA 0, 700, .inl fb)), (v13, .inl (cA 1, 15, .inr (.inl fkw)))] t) A) ([.ref w0] : List Value).toArray s 0 0 A) (F0 m 0 ls []) := by
      intro n4
      induction n4 with
      | zero =>
        intro i4 H locs ls hi4 hv0_4 hP hD hS hl
        obtain rfl : ta = i4 := by omega
        refine lv_aload_n hx hb dX10_advance_0 rfl (lv_at hl 0 rfl) ?_
        refine lv_aload_n hx hb dX10_advance_1 rfl (lv_at hl 0 rfl) ?_
        refine va_get (D := D) (ci := 11) (v := .int (nI ta)) (C := RX10) (T := TX10) (N := 39) hx hb hts inX10 hown hK hP 0 rfl rfl 16 (by decide) (hts (.fieldLink RX10 110 "EscrowDeskModel" "next" "I") (by decide +kernel)) (fun _ h9 => h9) rfl dX10_advance_2 ?_
        obtain ⟨hPc, hDc, hFc⟩ := PDq.cut (wc := [(oX10 w0 v0 v1 v2 v3 v4 g5 g6 (nI ed) g8 v9 (nI nb) g11 g12 v13 (nI ln) g15 (nI ta) g17 g18 g19 g20 g21 g22 g23 g24 g25 g26 v27 v28 v29 v30 v31 v32 v33 v34 v35 v36 v37 (nI ol)), (v9, .inl (cA 0, 700, .inl fb))]) hP hD hS hA [0, 1] (by decide) rfl
        refine va_calli (va_runV (As := [.int (nI ta)]) (rest := []) ⟨hx, hb, hml, hown, hts⟩ (y_byteAt l D cA sa w0 ed nb ol v0 v1 v2 v3 v4 v9 v13 v27 v28 v29 v30 v31 v32 v33 v34 v35 v36 v37 g8 g11 g12 g15 (nI ta) g17 g18 g19 g20 g21 g22 g23 g24 g26 g5 g6 g25 ln ta fb H.size hln (by omega)) (cwV 1 hts gX10_advance_X10_byteAt rfl rfl rfl (by decide +kernel) ⟨(Nat.le_of_ble_eq_true rfl), (Nat.le_of_ble_eq_true rfl)⟩) ⟨Wd.blind, va_recv hK hPc (ci := 11) (q0 := 0) rfl rfl, fun U hU hW => ⟨rfl, Wd.call hPc hDc hK hC hZ hS hFc U hU hW⟩⟩ rfl rfl hl.1 rfl (lv_room (Nat.le_of_ble_eq_true rfl)) dX10_advance_5 ⟨(Nat.le_of_ble_eq_true rfl), (Nat.le_of_ble_eq_true rfl)⟩) hS (fun q _ h => hFc q h) hFc (fun rn51 u t H1 locs ht hvm hw hB hz1 hk1 hS => ?_)
        obtain ⟨hP1, hD1⟩ := hB
        rw [ht] at hP1
        obtain ⟨hP, hD⟩ := PDq.join (w := [(v13, .inl (cA 1, 15, .inr (.inl fkw))), (oX10 w0 v0 v1 v2 v3 v4 g5 g6 (nI ed) g8 v9 (nI nb) g11 g12 v13 (nI ln) g15 (nI ta) g17 g18 g19 g20 g21 g22 g23 g24 g25 g26 v27 v28 v29 v30 v31 v32 v33 v34 v35 v36 v37 (nI ol)), (v9, .inl (cA 0, 700, .inl fb))]) 1 hP hD [0, 1] [2] rfl rfl (by decide) (by decide) hk1 hFc hP1 hD1 rfl
        generalize H1 = H at hP hS ⊢
        obtain rfl : rn51 = (bta fb ln ta) := hw
        refine lv_bipush (v := 32) hx hb dX10_advance_8 (by decide) ?_
        refine lv_icmp_eq (tgt := 26) hx hb dX10_advance_10 (by decide) (fun c52 => ?_) (fun c52 => ?_)
        · skip
          rw [bt_in (show ta < ln by omega)] at c52
          rw [c52] at hc0
          exact absurd hc0 (by decide)
        · skip
          refine lv_aload_n hx hb dX10_advance_13 rfl (lv_at hl 0 rfl) ?_
          refine lv_aload_n hx hb dX10_advance_14 rfl (lv_at hl 0 rfl) ?_
          refine va_get (D := D) (ci := 11) (v := .int (nI ta)) (C := RX10) (T := TX10) (N := 39) hx hb hts inX10 hown hK hP 1 rfl rfl 16 (by decide) (hts (.fieldLink RX10 110 "EscrowDeskModel" "next" "I") (by decide +kernel)) (fun _ h9 => h9) rfl dX10_advance_15 ?_
          obtain ⟨hPc, hDc, hFc⟩ := PDq.cut (wc := [(oX10 w0 v0 v1 v2 v3 v4 g5 g6 (nI ed) g8 v9 (nI nb) g11 g12 v13 (nI ln) g15 (nI ta) g17 g18 g19 g20 g21 g22 g23 g24 g25 g26 v27 v28 v29 v30 v31 v32 v33 v34 v35 v36 v37 (nI ol)), (v9, .inl (cA 0, 700, .inl fb))]) hP hD hS hA [1, 2] (by decide) rfl
          refine va_calli (va_runV (As := [.int (nI ta)]) (rest := []) ⟨hx, hb, hml, hown, hts⟩ (y_byteAt l D cA sa w0 ed nb ol v0 v1 v2 v3 v4 v9 v13 v27 v28 v29 v30 v31 v32 v33 v34 v35 v36 v37 g8 g11 g12 g15 (nI ta) g17 g18 g19 g20 g21 g22 g23 g24 g26 g5 g6 g25 ln ta fb H.size hln (by omega)) (cwV 1 hts gX10_advance_X10_byteAt rfl rfl rfl (by decide +kernel) ⟨(Nat.le_of_ble_eq_true rfl), (Nat.le_of_ble_eq_true rfl)⟩) ⟨Wd.blind, va_recv hK hPc (ci := 11) (q0 := 0) rfl rfl, fun U hU hW => ⟨rfl, Wd.call hPc hDc hK hC hZ hS hFc U hU hW⟩⟩ rfl rfl hl.1 rfl (lv_room (Nat.le_of_ble_eq_true rfl)) dX10_advance_18 ⟨(Nat.le_of_ble_eq_true rfl), (Nat.le_of_ble_eq_true rfl)⟩) hS (fun q _ h => hFc q h) hFc (fun rn53 u t H1 locs ht hvm hw hB hz1 hk1 hS => ?_)
          obtain ⟨hP1, hD1⟩ := hB
          rw [ht] at hP1
          obtain ⟨hP, hD⟩ := PDq.join (w := [(v13, .inl (cA 1, 15, .inr (.inl fkw))), (oX10 w0 v0 v1 v2 v3 v4 g5 g6 (nI ed) g8 v9 (nI nb) g11 g12 v13 (nI ln) g15 (nI ta) g17 g18 g19 g20 g21 g22 g23 g24 g25 g26 v27 v28 v29 v30 v31 v32 v33 v34 v35 v36 v37 (nI ol)), (v9, .inl (cA 0, 700, .inl fb))]) 1 hP hD [1, 2] [0] rfl rfl (by decide) (by decide) hk1 hFc hP1 hD1 rfl
          generalize H1 = H at hP hS ⊢
          obtain rfl : rn53 = (bta fb ln ta) := hw
          refine lv_bipush (v := 10) hx hb dX10_advance_21 (by decide) ?_
          refine lv_icmp_ne (tgt := 39) hx hb dX10_advance_23 (by decide) (fun c54 => ?_) (fun c54 => ?_)
          · skip
            refine lv_aload_n hx hb dX10_advance_39 rfl (lv_at hl 0 rfl) ?_
            refine lv_aload_n hx hb dX10_advance_40 rfl (lv_at hl 0 rfl) ?_
            refine va_get (D := D) (ci := 11) (v := .int (nI ta)) (C := RX10) (T := TX10) (N := 39) hx hb hts inX10 hown hK hP 1 rfl rfl 16 (by decide) (hts (.fieldLink RX10 110 "EscrowDeskModel" "next" "I") (by decide +kernel)) (fun _ h9 => h9) rfl dX10_advance_41 ?_
            refine va_put (D := D) (ci := 11) (v := .int (nI ta)) (ty := .int) (C := RX10) (T := TX10) (N := 39) hx hb hts inX10 tyX10 tyX10_ok nmX10 hown hK hP hD hS 1 rfl rfl 15 (by decide) (hts (.fieldLink RX10 117 "EscrowDeskModel" "start" "I") (by decide +kernel)) (fun _ h9 => h9) rfl (by decide +kernel) rfl rfl (Nat.le_of_ble_eq_true rfl) dX10_advance_44 (fun H locs hP hD hS => ?_)
            obtain ⟨hP, hD⟩ : PDq D A [(v13, .inl (cA 1, 15, .inr (.inl fkw))), (oX10 w0 v0 v1 v2 v3 v4 g5 g6 (nI ed) g8 v9 (nI nb) g11 g12 v13 (nI ln) (nI ta) (nI ta) g17 g18 g19 g20 g21 g22 g23 g24 g25 g26 v27 v28 v29 v30 v31 v32 v33 v34 v35 v36 v37 (nI ol)), (v9, .inl (cA 0, 700, .inl fb))] H := ⟨hP, hD⟩
            refine lv_aload_n hx hb dX10_advance_47 rfl (lv_at hl 0 rfl) ?_
            refine lv_iconst (v := (-1)) hx hb dX10_advance_48 (by decide) ?_
            refine va_put (D := D) (ci := 11) (v := .int (-1)) (ty := .int) (C := RX10) (T := TX10) (N := 39) hx hb hts inX10 tyX10 tyX10_ok nmX10 hown hK hP hD hS 1 rfl rfl 18 (by decide) (hts (.fieldLink RX10 120 "EscrowDeskModel" "keyword" "I") (by decide +kernel)) (fun _ h9 => h9) rfl (by decide +kernel) rfl rfl (Nat.le_of_ble_eq_true rfl) dX10_advance_49 (fun H locs hP hD hS => ?_)
            obtain ⟨hP, hD⟩ : PDq D A [(v13, .inl (cA 1, 15, .inr (.inl fkw))), (oX10 w0 v0 v1 v2 v3 v4 g5 g6 (nI ed) g8 v9 (nI nb) g11 g12 v13 (nI ln) (nI ta) (nI ta) g17 (-1) g19 g20 g21 g22 g23 g24 g25 g26 v27 v28 v29 v30 v31 v32 v33 v34 v35 v36 v37 (nI ol)), (v9, .inl (cA 0, 700, .inl fb))] H := ⟨hP, hD⟩
            refine lv_aload_n hx hb dX10_advance_52 rfl (lv_at hl 0 rfl) ?_
            refine lv_lconst (v := 0) hx hb dX10_advance_53 (by decide) ?_
            refine va_put (D := D) (ci := 11) (v := .long 0) (ty := .long) (C := RX10) (T := TX10) (N := 39) hx hb hts inX10 tyX10 tyX10_ok nmX10 hown hK hP hD hS 1 rfl rfl 25 (by decide) (hts (.fieldLink RX10 123 "EscrowDeskModel" "word" "J") (by decide +kernel)) (fun _ h9 => h9) rfl (by decide +kernel) rfl rfl (Nat.le_of_ble_eq_true rfl) dX10_advance_54 (fun H locs hP hD hS => ?_)
            obtain ⟨hP, hD⟩ : PDq D A [(v13, .inl (cA 1, 15, .inr (.inl fkw))), (oX10 w0 v0 v1 v2 v3 v4 g5 g6 (nI ed) g8 v9 (nI nb) g11 g12 v13 (nI ln) (nI ta) (nI ta) g17 (-1) g19 g20 g21 g22 g23 g24 0 g26 v27 v28 v29 v30 v31 v32 v33 v34 v35 v36 v37 (nI ol)), (v9, .inl (cA 0, 700, .inl fb))] H := ⟨hP, hD⟩
            refine lv_aload_n hx hb dX10_advance_57 rfl (lv_at hl 0 rfl) ?_
            refine lv_aload_n hx hb dX10_advance_58 rfl (lv_at hl 0 rfl) ?_
            refine va_get (D := D) (ci := 11) (v := .int (nI ta)) (C := RX10) (T := TX10) (N := 39) hx hb hts inX10 hown hK hP 1 rfl rfl 16 (by decide) (hts (.fieldLink RX10 110 "EscrowDeskModel" "next" "I") (by decide +kernel)) (fun _ h9 => h9) rfl dX10_advance_59 ?_
            obtain ⟨hPc, hDc, hFc⟩ := PDq.cut (wc := [(oX10 w0 v0 v1 v2 v3 v4 g5 g6 (nI ed) g8 v9 (nI nb) g11 g12 v13 (nI ln) (nI ta) (nI ta) g17 (-1) g19 g20 g21 g22 g23 g24 0 g26 v27 v28 v29 v30 v31 v32 v33 v34 v35 v36 v37 (nI ol)), (v9, .inl (cA 0, 700, .inl fb))]) hP hD hS hA [1, 2] (by decide) rfl
            refine va_calli (va_runV (As := [.int (nI ta)]) (rest := []) ⟨hx, hb, hml, hown, hts⟩ (y_byteAt l D cA sa w0 ed nb ol v0 v1 v2 v3 v4 v9 v13 v27 v28 v29 v30 v31 v32 v33 v34 v35 v36 v37 g8 g11 g12 (nI ta) (nI ta) g17 (-1) g19 g20 g21 g22 g23 g24 g26 g5 g6 0 ln ta fb H.size hln (by omega)) (cwV 1 hts gX10_advance_X10_byteAt rfl rfl rfl (by decide +kernel) ⟨(Nat.le_of_ble_eq_true rfl), (Nat.le_of_ble_eq_true rfl)⟩) ⟨Wd.blind, va_recv hK hPc (ci := 11) (q0 := 0) rfl rfl, fun U hU hW => ⟨rfl, Wd.call hPc hDc hK hC hZ hS hFc U hU hW⟩⟩ rfl rfl hl.1 rfl (lv_room (Nat.le_of_ble_eq_true rfl)) dX10_advance_62 ⟨(Nat.le_of_ble_eq_true rfl), (Nat.le_of_ble_eq_true rfl)⟩) hS (fun q _ h => hFc q h) hFc (fun rn55 u t H1 locs ht hvm hw hB hz1 hk1 hS => ?_)
            obtain ⟨hP1, hD1⟩ := hB
            rw [ht] at hP1
            obtain ⟨hP, hD⟩ := PDq.join (w := [(v13, .inl (cA 1, 15, .inr (.inl fkw))), (oX10 w0 v0 v1 v2 v3 v4 g5 g6 (nI ed) g8 v9 (nI nb) g11 g12 v13 (nI ln) (nI ta) (nI ta) g17 (-1) g19 g20 g21 g22 g23 g24 0 g26 v27 v28 v29 v30 v31 v32 v33 v34 v35 v36 v37 (nI ol)), (v9, .inl (cA 0, 700, .inl fb))]) 1 hP hD [1, 2] [0] rfl rfl (by decide) (by decide) hk1 hFc hP1 hD1 rfl
            generalize H1 = H at hP hS ⊢
            obtain rfl : rn55 = (bta fb ln ta) := hw
            refine lv_istore_n (lv' := [(1, .int (bta fb ln ta)), (0, .ref w0)]) hx hb dX10_advance_65 rfl hl (by decide) rfl (fun ls hl => ?_)
            refine lv_iload_n hx hb dX10_advance_66 rfl (lv_at hl 0 rfl) ?_
            refine lv_iconst (v := (-1)) hx hb dX10_advance_67 (by decide) ?_
            refine lv_icmp_ne (tgt := 79) hx hb dX10_advance_68 (by decide) (fun c56 => ?_) (fun c9 => absurd c9 (by rw [bt_in (show ta < ln by omega)]; exact fun h9 => hBY ta (by omega) (by rw [h9]; decide)))
            refine lv_iload_n hx hb dX10_advance_79 rfl (lv_at hl 0 rfl) ?_
            obtain ⟨hPc, hDc, hFc⟩ := PDq.cut (wc := []) hP hD hS hA [] (by decide) rfl
            refine va_calli (va_runS (As := [.int (bta fb ln ta)]) (rest := []) ⟨hx, hb, hml, hown, hts⟩ (y_isLetter l D cA sa (bta fb ln ta) H.size) (va_cwS 1 hts gX10_advance_X10_isLetter rfl rfl rfl (by decide +kernel) ⟨(Nat.le_of_ble_eq_true rfl), (Nat.le_of_ble_eq_true rfl)⟩) ⟨Wd.blind, fun U hU hW => ⟨rfl, Wd.call hPc hDc hK hC hZ hS hFc U hU hW⟩⟩ rfl rfl hl.1 rfl (lv_room (Nat.le_of_ble_eq_true rfl)) dX10_advance_80 ⟨(Nat.le_of_ble_eq_true rfl), (Nat.le_of_ble_eq_true rfl)⟩) hS (fun q _ h => hFc q h) hFc (fun rn57 u t H1 locs ht hvm hw hB hz1 hk1 hS => ?_)
            obtain ⟨hP1, hD1⟩ := hB
            rw [ht] at hP1
            obtain ⟨hP, hD⟩ := PDq.join (w := [(v13, .inl (cA 1, 15, .inr (.inl fkw))), (oX10 w0 v0 v1 v2 v3 v4 g5 g6 (nI ed) g8 v9 (nI nb) g11 g12 v13 (nI ln) (nI ta) (nI ta) g17 (-1) g19 g20 g21 g22 g23 g24 0 g26 v27 v28 v29 v30 v31 v32 v33 v34 v35 v36 v37 (nI ol)), (v9, .inl (cA 0, 700, .inl fb))]) 3 hP hD [] [0, 1, 2] rfl rfl (by decide) (by decide) hk1 hFc hP1 hD1 rfl
            generalize H1 = H at hP hS ⊢
            rcases hw with ⟨hr9, hn58⟩ | ⟨hr9, hn58⟩
            · skip
              subst hr9
              refine lv_if_eq (tgt := 210) hx hb dX10_advance_83 (by decide) (fun c9 => absurd c9 (by decide)) (fun c59 => ?_)
              have loop5 : ∀ (n5 i5 : Nat) (u1_25_5 : Int64) (H : Heap) (locs : List Loc) (ls : Array Slot), i5 + n5 = tb → ta ≤ i5 → Wlq fb ta i5 u1_25_5 → va_P D vwCl [(v13, .inl (cA 1, 15, .inr (.inl fkw))), (oX10 w0 v0 v1 v2 v3 v4 g5 g6 (nI ed) g8 v9 (nI nb) g11 g12 v13 (nI ln) (nI ta) (nI i5) g17 (-1) g19 g20 g21 g22 g23 g24 u1_25_5 g26 v27 v28 v29 v30 v31 v32 v33 v34 v35 v36 v37 (nI ol)), (v9, .inl (cA 0, 700, .inl fb))] H → va_D A [(v13, .inl (cA 1, 15, .inr (.inl fkw))), (oX10 w0 v0 v1 v2 v3 v4 g5 g6 (nI ed) g8 v9 (nI nb) g11 g12 v13 (nI ln) (nI ta) (nI i5) g17 (-1) g19 g20 g21 g22 g23 g24 u1_25_5 g26 v27 v28 v29 v30 v31 v32 v33 v34 v35 v36 v37 (nI ol)), (v9, .inl (cA 0, 700, .inl fb))] → va_S A s.heap H locs → lv_has ls 2 [(1, .int (bta fb ln ta)), (0, .ref w0)] → W p l e (headSpec wsX10_advance ({ frames := 1, cells := 0, slots := 0, locals := 23 } : Room)).room s m ([.ref w0] : List Value).toArray below meth c H locs 0 0 (MQ below (va_Qi (fun (r : Int32) (_ : Unit) => r = 1) (fun (_ : Unit) t => ∃ z17 : Int32, ∃ z18 : Int32, ∃ z19 : Int32, ∃ z25 : Int64, TKR kk vv (fb ta) z17 z18 z19 z25 ∧ Wq D A [(oX10 w0 v0 v1 v2 v3 v4 g5 g6 (nI ed) g8 v9 (nI nb) g11 g12 v13 (nI ln) (nI ta) (nI tb) z17 z18 z19 g20 g21 g22 g23 g24 z25 g26 v27 v28 v29 v30 v31 v32 v33 v34 v35 v36 v37 (nI ol)), (v9, .inl (cA 0, 700, .inl fb)), (v13, .inl (cA 1, 15, .inr (.inl fkw)))] t) A) ([.ref w0] : List Value).toArray s 0 0 A) (F0 m 86 ls []) := by
                intro n5
                induction n5 with
                | zero =>
                  intro i5 u1_25_5 H locs ls hi5 hv0_5 hv1_5 hP hD hS hl
                  obtain rfl : tb = i5 := by omega
                  refine lv_aload_n hx hb dX10_advance_86 rfl (lv_at hl 1 rfl) ?_
                  refine lv_aload_n hx hb dX10_advance_87 rfl (lv_at hl 1 rfl) ?_
                  refine va_get (D := D) (ci := 11) (v := .int (nI tb)) (C := RX10) (T := TX10) (N := 39) hx hb hts inX10 hown hK hP 1 rfl rfl 16 (by decide) (hts (.fieldLink RX10 110 "EscrowDeskModel" "next" "I") (by decide +kernel)) (fun _ h9 => h9) rfl dX10_advance_88 ?_
                  obtain ⟨hPc, hDc, hFc⟩ := PDq.cut (wc := [(oX10 w0 v0 v1 v2 v3 v4 g5 g6 (nI ed) g8 v9 (nI nb) g11 g12 v13 (nI ln) (nI ta) (nI tb) g17 (-1) g19 g20 g21 g22 g23 g24 u1_25_5 g26 v27 v28 v29 v30 v31 v32 v33 v34 v35 v36 v37 (nI ol)), (v9, .inl (cA 0, 700, .inl fb))]) hP hD hS hA [1, 2] (by decide) rfl
                  refine va_calli (va_runV (As := [.int (nI tb)]) (rest := []) ⟨hx, hb, hml, hown, hts⟩ (y_byteAt l D cA sa w0 ed nb ol v0 v1 v2 v3 v4 v9 v13 v27 v28 v29 v30 v31 v32 v33 v34 v35 v36 v37 g8 g11 g12 (nI ta) (nI tb) g17 (-1) g19 g20 g21 g22 g23 g24 g26 g5 g6 u1_25_5 ln tb fb H.size hln (by omega)) (cwV 1 hts gX10_advance_X10_byteAt rfl rfl rfl (by decide +kernel) ⟨(Nat.le_of_ble_eq_true rfl), (Nat.le_of_ble_eq_true rfl)⟩) ⟨Wd.blind, va_recv hK hPc (ci := 11) (q0 := 0) rfl rfl, fun U hU hW => ⟨rfl, Wd.call hPc hDc hK hC hZ hS hFc U hU hW⟩⟩ rfl rfl hl.1 rfl (lv_room (Nat.le_of_ble_eq_true rfl)) dX10_advance_91 ⟨(Nat.le_of_ble_eq_true rfl), (Nat.le_of_ble_eq_true rfl)⟩) hS (fun q _ h => hFc q h) hFc (fun rn60 u t H1 locs ht hvm hw hB hz1 hk1 hS => ?_)
                  obtain ⟨hP1, hD1⟩ := hB
                  rw [ht] at hP1
                  obtain ⟨hP, hD⟩ := PDq.join (w := [(v13, .inl (cA 1, 15, .inr (.inl fkw))), (oX10 w0 v0 v1 v2 v3 v4 g5 g6 (nI ed) g8 v9 (nI nb) g11 g12 v13 (nI ln) (nI ta) (nI tb) g17 (-1) g19 g20 g21 g22 g23 g24 u1_25_5 g26 v27 v28 v29 v30 v31 v32 v33 v34 v35 v36 v37 (nI ol)), (v9, .inl (cA 0, 700, .inl fb))]) 1 hP hD [1, 2] [0] rfl rfl (by decide) (by decide) hk1 hFc hP1 hD1 rfl
                  generalize H1 = H at hP hS ⊢
                  obtain rfl : rn60 = (bta fb ln tb) := hw
                  obtain ⟨hPc, hDc, hFc⟩ := PDq.cut (wc := []) hP hD hS hA [] (by decide) rfl
                  refine va_calli (va_runS (As := [.int (bta fb ln tb)]) (rest := []) ⟨hx, hb, hml, hown, hts⟩ (y_isLetter l D cA sa (bta fb ln tb) H.size) (va_cwS 1 hts gX10_advance_X10_isLetter rfl rfl rfl (by decide +kernel) ⟨(Nat.le_of_ble_eq_true rfl), (Nat.le_of_ble_eq_true rfl)⟩) ⟨Wd.blind, fun U hU hW => ⟨rfl, Wd.call hPc hDc hK hC hZ hS hFc U hU hW⟩⟩ rfl rfl hl.1 rfl (lv_room (Nat.le_of_ble_eq_true rfl)) dX10_advance_94 ⟨(Nat.le_of_ble_eq_true rfl), (Nat.le_of_ble_eq_true rfl)⟩) hS (fun q _ h => hFc q h) hFc (fun rn61 u t H1 locs ht hvm hw hB hz1 hk1 hS => ?_)
                  obtain ⟨hP1, hD1⟩ := hB
                  rw [ht] at hP1
                  obtain ⟨hP, hD⟩ := PDq.join (w := [(v13, .inl (cA 1, 15, .inr (.inl fkw))), (oX10 w0 v0 v1 v2 v3 v4 g5 g6 (nI ed) g8 v9 (nI nb) g11 g12 v13 (nI ln) (nI ta) (nI tb) g17 (-1) g19 g20 g21 g22 g23 g24 u1_25_5 g26 v27 v28 v29 v30 v31 v32 v33 v34 v35 v36 v37 (nI ol)), (v9, .inl (cA 0, 700, .inl fb))]) 3 hP hD [] [0, 1, 2] rfl rfl (by decide) (by decide) hk1 hFc hP1 hD1 rfl
                  generalize H1 = H at hP hS ⊢
                  rcases hw with ⟨hr9, hn62⟩ | ⟨hr9, hn62⟩
                  · skip
                    subst hr9
                    exact absurd hn62 (bt_nb ga2)
                  · skip
                    subst hr9
                    refine lv_if_eq (tgt := 160) hx hb dX10_advance_97 (by decide) (fun c63 => ?_) (fun c9 => absurd c9 (by decide))
                    refine lv_aload_n hx hb dX10_advance_160 rfl (lv_at hl 1 rfl) ?_
                    refine lv_aload_n hx hb dX10_advance_161 rfl (lv_at hl 1 rfl) ?_
                    refine va_get (D := D) (ci := 11) (v := .int (nI tb)) (C := RX10) (T := TX10) (N := 39) hx hb hts inX10 hown hK hP 1 rfl rfl 16 (by decide) (hts (.fieldLink RX10 110 "EscrowDeskModel" "next" "I") (by decide +kernel)) (fun _ h9 => h9) rfl dX10_advance_162 ?_
                    refine lv_aload_n hx hb dX10_advance_165 rfl (lv_at hl 1 rfl) ?_
                    refine va_get (D := D) (ci := 11) (v := .int (nI ta)) (C := RX10) (T := TX10) (N := 39) hx hb hts inX10 hown hK hP 1 rfl rfl 15 (by decide) (hts (.fieldLink RX10 117 "EscrowDeskModel" "start" "I") (by decide +kernel)) (fun _ h9 => h9) rfl dX10_advance_166 ?_
                    refine lv_isub hx hb dX10_advance_169 ?_
                    refine lv_topi (fun yn64 eyn64 => ?_)
                    obtain rfl : yn64 = (nI (tb - ta)) := eyn64.trans (nI_sub (a := tb) (b := ta) (by omega))
                    refine lv_bipush (v := 9) hx hb dX10_advance_170 (by decide) ?_
                    refine lv_icmp_le (tgt := 179) hx hb dX10_advance_172 (by decide) (fun c9 => absurd c9 (nI_ge (a := 9) (b := (tb - ta)) (show 9 < (tb - ta) by omega) (by omega))) (fun c65 => ?_)
                    refine lv_iconst (v := 1) hx hb dX10_advance_175 (by decide) ?_
                    refine lv_goto (tgt := 180) hx hb dX10_advance_176 (by decide) ?_
                    refine va_put (D := D) (ci := 11) (v := .int 1) (ty := .int) (C := RX10) (T := TX10) (N := 39) hx hb hts inX10 tyX10 tyX10_ok nmX10 hown hK hP hD hS 1 rfl rfl 17 (by decide) (hts (.fieldLink RX10 126 "EscrowDeskModel" "token" "I") (by decide +kernel)) (fun _ h9 => h9) rfl (by decide +kernel) rfl rfl (Nat.le_of_ble_eq_true rfl) dX10_advance_180 (fun H locs hP hD hS => ?_)
                    obtain ⟨hP, hD⟩ : PDq D A [(v13, .inl (cA 1, 15, .inr (.inl fkw))), (oX10 w0 v0 v1 v2 v3 v4 g5 g6 (nI ed) g8 v9 (nI nb) g11 g12 v13 (nI ln) (nI ta) (nI tb) 1 (-1) g19 g20 g21 g22 g23 g24 u1_25_5 g26 v27 v28 v29 v30 v31 v32 v33 v34 v35 v36 v37 (nI ol)), (v9, .inl (cA 0, 700, .inl fb))] H := ⟨hP, hD⟩
                    refine lv_aload_n hx hb dX10_advance_183 rfl (lv_at hl 1 rfl) ?_
                    refine lv_aload_n hx hb dX10_advance_184 rfl (lv_at hl 1 rfl) ?_
                    refine va_get (D := D) (ci := 11) (v := .int 1) (C := RX10) (T := TX10) (N := 39) hx hb hts inX10 hown hK hP 1 rfl rfl 17 (by decide) (hts (.fieldLink RX10 126 "EscrowDeskModel" "token" "I") (by decide +kernel)) (fun _ h9 => h9) rfl dX10_advance_185 ?_
                    refine lv_iconst (v := 2) hx hb dX10_advance_188 (by decide) ?_
                    refine lv_icmp_ne (tgt := 203) hx hb dX10_advance_189 (by decide) (fun c66 => ?_) (fun c9 => absurd c9 (by decide))
                    refine lv_iconst (v := (-1)) hx hb dX10_advance_203 (by decide) ?_
                    refine va_put (D := D) (ci := 11) (v := .int (-1)) (ty := .int) (C := RX10) (T := TX10) (N := 39) hx hb hts inX10 tyX10 tyX10_ok nmX10 hown hK hP hD hS 1 rfl rfl 18 (by decide) (hts (.fieldLink RX10 120 "EscrowDeskModel" "keyword" "I") (by decide +kernel)) (fun _ h9 => h9) rfl (by decide +kernel) rfl rfl (Nat.le_of_ble_eq_true rfl) dX10_advance_204 (fun H locs hP hD hS => ?_)
                    obtain ⟨hP, hD⟩ : PDq D A [(v13, .inl (cA 1, 15, .inr (.inl fkw))), (oX10 w0 v0 v1 v2 v3 v4 g5 g6 (nI ed) g8 v9 (nI nb) g11 g12 v13 (nI ln) (nI ta) (nI tb) 1 (-1) g19 g20 g21 g22 g23 g24 u1_25_5 g26 v27 v28 v29 v30 v31 v32 v33 v34 v35 v36 v37 (nI ol)), (v9, .inl (cA 0, 700, .inl fb))] H := ⟨hP, hD⟩
                    refine lv_goto (tgt := 354) hx hb dX10_advance_207 (by decide) ?_
                    refine lv_iconst (v := 1) hx hb dX10_advance_354 (by decide) ?_
                    obtain ⟨hP9, hD9⟩ := PDq.sub (ws' := [(oX10 w0 v0 v1 v2 v3 v4 g5 g6 (nI ed) g8 v9 (nI nb) g11 g12 v13 (nI ln) (nI ta) (nI tb) 1 (-1) g19 g20 g21 g22 g23 g24 u1_25_5 g26 v27 v28 v29 v30 v31 v32 v33 v34 v35 v36 v37 (nI ol)), (v9, .inl (cA 0, 700, .inl fb)), (v13, .inl (cA 1, 15, .inr (.inl fkw)))]) hP hD [1, 2, 0] (by decide) rfl
                    refine W.widen (k := 0) (n := 0) (Nat.le_of_ble_eq_true rfl) (Nat.le_of_ble_eq_true rfl) ?_
                    exact (W.zret (v := 1) hx hb hr (by first | rfl | decide) (fun t ht hW => ⟨⟨1, (), rfl, rfl, 1, (-1), g19, u1_25_5, (Or.inr (Or.inl ⟨by rw [ge9, ga4, kwm_not _ (by decide)], rfl⟩)), by rw [ht]; exact hP9, hD9⟩, hS.F ht⟩) hS.2.2 dX10_advance_355)
                | succ n5 ih5 =>
                  intro i5 u1_25_5 H locs ls hi5 hv0_5 hv1_5 hP hD hS hl
                  refine lv_aload_n hx hb dX10_advance_86 rfl (lv_at hl 1 rfl) ?_
                  refine lv_aload_n hx hb dX10_advance_87 rfl (lv_at hl 1 rfl) ?_
                  refine va_get (D := D) (ci := 11) (v := .int (nI i5)) (C := RX10) (T := TX10) (N := 39) hx hb hts inX10 hown hK hP 1 rfl rfl 16 (by decide) (hts (.fieldLink RX10 110 "EscrowDeskModel" "next" "I") (by decide +kernel)) (fun _ h9 => h9) rfl dX10_advance_88 ?_
                  obtain ⟨hPc, hDc, hFc⟩ := PDq.cut (wc := [(oX10 w0 v0 v1 v2 v3 v4 g5 g6 (nI ed) g8 v9 (nI nb) g11 g12 v13 (nI ln) (nI ta) (nI i5) g17 (-1) g19 g20 g21 g22 g23 g24 u1_25_5 g26 v27 v28 v29 v30 v31 v32 v33 v34 v35 v36 v37 (nI ol)), (v9, .inl (cA 0, 700, .inl fb))]) hP hD hS hA [1, 2] (by decide) rfl
                  refine va_calli (va_runV (As := [.int (nI i5)]) (rest := []) ⟨hx, hb, hml, hown, hts⟩ (y_byteAt l D cA sa w0 ed nb ol v0 v1 v2 v3 v4 v9 v13 v27 v28 v29 v30 v31 v32 v33 v34 v35 v36 v37 g8 g11 g12 (nI ta) (nI i5) g17 (-1) g19 g20 g21 g22 g23 g24 g26 g5 g6 u1_25_5 ln i5 fb H.size hln (by omega)) (cwV 1 hts gX10_advance_X10_byteAt rfl rfl rfl (by decide +kernel) ⟨(Nat.le_of_ble_eq_true rfl), (Nat.le_of_ble_eq_true rfl)⟩) ⟨Wd.blind, va_recv hK hPc (ci := 11) (q0 := 0) rfl rfl, fun U hU hW => ⟨rfl, Wd.call hPc hDc hK hC hZ hS hFc U hU hW⟩⟩ rfl rfl hl.1 rfl (lv_room (Nat.le_of_ble_eq_true rfl)) dX10_advance_91 ⟨(Nat.le_of_ble_eq_true rfl), (Nat.le_of_ble_eq_true rfl)⟩) hS (fun q _ h => hFc q h) hFc (fun rn67 u t H1 locs ht hvm hw hB hz1 hk1 hS => ?_)
                  obtain ⟨hP1, hD1⟩ := hB
                  rw [ht] at hP1
                  obtain ⟨hP, hD⟩ := PDq.join (w := [(v13, .inl (cA 1, 15, .inr (.inl fkw))), (oX10 w0 v0 v1 v2 v3 v4 g5 g6 (nI ed) g8 v9 (nI nb) g11 g12 v13 (nI ln) (nI ta) (nI i5) g17 (-1) g19 g20 g21 g22 g23 g24 u1_25_5 g26 v27 v28 v29 v30 v31 v32 v33 v34 v35 v36 v37 (nI ol)), (v9, .inl (cA 0, 700, .inl fb))]) 1 hP hD [1, 2] [0] rfl rfl (by decide) (by decide) hk1 hFc hP1 hD1 rfl
                  generalize H1 = H at hP hS ⊢
                  obtain rfl : rn67 = (bta fb ln i5) := hw
                  obtain ⟨hPc, hDc, hFc⟩ := PDq.cut (wc := []) hP hD hS hA [] (by decide) rfl
                  refine va_calli (va_runS (As := [.int (bta fb ln i5)]) (rest := []) ⟨hx, hb, hml, hown, hts⟩ (y_isLetter l D cA sa (bta fb ln i5) H.size) (va_cwS 1 hts gX10_advance_X10_isLetter rfl rfl rfl (by decide +kernel) ⟨(Nat.le_of_ble_eq_true rfl), (Nat.le_of_ble_eq_true rfl)⟩) ⟨Wd.blind, fun U hU hW => ⟨rfl, Wd.call hPc hDc hK hC hZ hS hFc U hU hW⟩⟩ rfl rfl hl.1 rfl (lv_room (Nat.le_of_ble_eq_true rfl)) dX10_advance_94 ⟨(Nat.le_of_ble_eq_true rfl), (Nat.le_of_ble_eq_true rfl)⟩) hS (fun q _ h => hFc q h) hFc (fun rn68 u t H1 locs ht hvm hw hB hz1 hk1 hS => ?_)
                  obtain ⟨hP1, hD1⟩ := hB
                  rw [ht] at hP1
                  obtain ⟨hP, hD⟩ := PDq.join (w := [(v13, .inl (cA 1, 15, .inr (.inl fkw))), (oX10 w0 v0 v1 v2 v3 v4 g5 g6 (nI ed) g8 v9 (nI nb) g11 g12 v13 (nI ln) (nI ta) (nI i5) g17 (-1) g19 g20 g21 g22 g23 g24 u1_25_5 g26 v27 v28 v29 v30 v31 v32 v33 v34 v35 v36 v37 (nI ol)), (v9, .inl (cA 0, 700, .inl fb))]) 3 hP hD [] [0, 1, 2] rfl rfl (by decide) (by decide) hk1 hFc hP1 hD1 rfl
                  generalize H1 = H at hP hS ⊢
                  rcases hw with ⟨hr9, hn69⟩ | ⟨hr9, hn69⟩
                  · skip
                    subst hr9
                    refine lv_if_eq (tgt := 160) hx hb dX10_advance_97 (by decide) (fun c9 => absurd c9 (by decide)) (fun c70 => ?_)
                    refine lv_aload_n hx hb dX10_advance_100 rfl (lv_at hl 1 rfl) ?_
                    refine lv_aload_n hx hb dX10_advance_101 rfl (lv_at hl 1 rfl) ?_
                    refine va_get (D := D) (ci := 11) (v := .int (nI i5)) (C := RX10) (T := TX10) (N := 39) hx hb hts inX10 hown hK hP 1 rfl rfl 16 (by decide) (hts (.fieldLink RX10 110 "EscrowDeskModel" "next" "I") (by decide +kernel)) (fun _ h9 => h9) rfl dX10_advance_102 ?_
                    refine lv_aload_n hx hb dX10_advance_105 rfl (lv_at hl 1 rfl) ?_
                    refine va_get (D := D) (ci := 11) (v := .int (nI ta)) (C := RX10) (T := TX10) (N := 39) hx hb hts inX10 hown hK hP 1 rfl rfl 15 (by decide) (hts (.fieldLink RX10 117 "EscrowDeskModel" "start" "I") (by decide +kernel)) (fun _ h9 => h9) rfl dX10_advance_106 ?_
                    refine lv_isub hx hb dX10_advance_109 ?_
                    refine lv_topi (fun yn71 eyn71 => ?_)
                    obtain rfl : yn71 = (nI (i5 - ta)) := eyn71.trans (nI_sub (a := i5) (b := ta) (by omega))
                    refine lv_bipush (v := 9) hx hb dX10_advance_110 (by decide) ?_
                    refine lv_icmp_ge (tgt := 140) hx hb dX10_advance_112 (by decide) (fun c72 => ?_) (fun c72 => ?_)
                    · skip
                      have hn73 : 9 ≤ (i5 - ta) := (nI_leI (a := 9) (b := (i5 - ta)) (by omega) (by omega)).mp c72
                      refine lv_aload_n hx hb dX10_advance_140 rfl (lv_at hl 1 rfl) ?_
                      refine va_get (D := D) (ci := 11) (v := .long u1_25_5) (C := RX10) (T := TX10) (N := 39) hx hb hts inX10 hown hK hP 1 rfl rfl 25 (by decide) (hts (.fieldLink RX10 123 "EscrowDeskModel" "word" "J") (by decide +kernel)) (fun _ h9 => h9) rfl dX10_advance_141 ?_
                      refine va_put (D := D) (ci := 11) (v := .long u1_25_5) (ty := .long) (C := RX10) (T := TX10) (N := 39) hx hb hts inX10 tyX10 tyX10_ok nmX10 hown hK hP hD hS 1 rfl rfl 25 (by decide) (hts (.fieldLink RX10 123 "EscrowDeskModel" "word" "J") (by decide +kernel)) (fun _ h9 => h9) rfl (by decide +kernel) rfl rfl (Nat.le_of_ble_eq_true rfl) dX10_advance_144 (fun H locs hP hD hS => ?_)
                      obtain ⟨hP, hD⟩ : PDq D A [(v13, .inl (cA 1, 15, .inr (.inl fkw))), (oX10 w0 v0 v1 v2 v3 v4 g5 g6 (nI ed) g8 v9 (nI nb) g11 g12 v13 (nI ln) (nI ta) (nI i5) g17 (-1) g19 g20 g21 g22 g23 g24 u1_25_5 g26 v27 v28 v29 v30 v31 v32 v33 v34 v35 v36 v37 (nI ol)), (v9, .inl (cA 0, 700, .inl fb))] H := ⟨hP, hD⟩
                      refine lv_aload_n hx hb dX10_advance_147 rfl (lv_at hl 1 rfl) ?_
                      refine lv_dup hx hb dX10_advance_148 rfl ?_
                      refine va_get (D := D) (ci := 11) (v := .int (nI i5)) (C := RX10) (T := TX10) (N := 39) hx hb hts inX10 hown hK hP 1 rfl rfl 16 (by decide) (hts (.fieldLink RX10 110 "EscrowDeskModel" "next" "I") (by decide +kernel)) (fun _ h9 => h9) rfl dX10_advance_149 ?_
                      refine lv_iconst (v := 1) hx hb dX10_advance_152 (by decide) ?_
                      refine lv_iadd hx hb dX10_advance_153 ?_
                      refine lv_topi (fun yn74 eyn74 => ?_)
                      obtain rfl : yn74 = (nI (i5 + 1)) := eyn74.trans (nI_add i5 1)
                      refine va_put (D := D) (ci := 11) (v := .int (nI (i5 + 1))) (ty := .int) (C := RX10) (T := TX10) (N := 39) hx hb hts inX10 tyX10 tyX10_ok nmX10 hown hK hP hD hS 1 rfl rfl 16 (by decide) (hts (.fieldLink RX10 110 "EscrowDeskModel" "next" "I") (by decide +kernel)) (fun _ h9 => h9) rfl (by decide +kernel) rfl rfl (Nat.le_of_ble_eq_true rfl) dX10_advance_154 (fun H locs hP hD hS => ?_)
                      obtain ⟨hP, hD⟩ : PDq D A [(v13, .inl (cA 1, 15, .inr (.inl fkw))), (oX10 w0 v0 v1 v2 v3 v4 g5 g6 (nI ed) g8 v9 (nI nb) g11 g12 v13 (nI ln) (nI ta) (nI (i5 + 1)) g17 (-1) g19 g20 g21 g22 g23 g24 u1_25_5 g26 v27 v28 v29 v30 v31 v32 v33 v34 v35 v36 v37 (nI ol)), (v9, .inl (cA 0, 700, .inl fb))] H := ⟨hP, hD⟩
                      refine lv_goto (tgt := 86) hx hb dX10_advance_157 (by decide) ?_
                      obtain ⟨hP9, hD9⟩ := PDq.sub (ws' := [(v13, .inl (cA 1, 15, .inr (.inl fkw))), (oX10 w0 v0 v1 v2 v3 v4 g5 g6 (nI ed) g8 v9 (nI nb) g11 g12 v13 (nI ln) (nI ta) (nI (i5 + 1)) g17 (-1) g19 g20 g21 g22 g23 g24 u1_25_5 g26 v27 v28 v29 v30 v31 v32 v33 v34 v35 v36 v37 (nI ol)), (v9, .inl (cA 0, 700, .inl fb))]) hP hD [0, 1, 2] (by decide) rfl
                      exact ih5 (i5 + 1) u1_25_5 H _ ls (by omega) (by omega) (Wlq.far (by omega)) hP9 hD9 hS (lv_sub hl [0, 1] rfl)
                    · skip
                      have hn75 : (i5 - ta) < 9 := Nat.lt_of_not_le (fun h9 => c72 (nI_le (a := 9) (b := (i5 - ta)) h9 (by omega)))
                      refine lv_ldc2 (v := 32) hx hb hown (hts (.constantLong RX10 103 32) (by decide +kernel)) dX10_advance_115 ?_
                      refine lv_aload_n hx hb dX10_advance_118 rfl (lv_at hl 1 rfl) ?_
                      refine va_get (D := D) (ci := 11) (v := .long u1_25_5) (C := RX10) (T := TX10) (N := 39) hx hb hts inX10 hown hK hP 1 rfl rfl 25 (by decide) (hts (.fieldLink RX10 123 "EscrowDeskModel" "word" "J") (by decide +kernel)) (fun _ h9 => h9) rfl dX10_advance_119 ?_
                      refine lv_lmul hx hb dX10_advance_122 ?_
                      refine lv_topl (fun yn76 eyn76 => ?_)
                      refine lv_aload_n hx hb dX10_advance_123 rfl (lv_at hl 1 rfl) ?_
                      refine lv_aload_n hx hb dX10_advance_124 rfl (lv_at hl 1 rfl) ?_
                      refine va_get (D := D) (ci := 11) (v := .int (nI i5)) (C := RX10) (T := TX10) (N := 39) hx hb hts inX10 hown hK hP 1 rfl rfl 16 (by decide) (hts (.fieldLink RX10 110 "EscrowDeskModel" "next" "I") (by decide +kernel)) (fun _ h9 => h9) rfl dX10_advance_125 ?_
                      obtain ⟨hPc, hDc, hFc⟩ := PDq.cut (wc := [(oX10 w0 v0 v1 v2 v3 v4 g5 g6 (nI ed) g8 v9 (nI nb) g11 g12 v13 (nI ln) (nI ta) (nI i5) g17 (-1) g19 g20 g21 g22 g23 g24 u1_25_5 g26 v27 v28 v29 v30 v31 v32 v33 v34 v35 v36 v37 (nI ol)), (v9, .inl (cA 0, 700, .inl fb))]) hP hD hS hA [1, 2] (by decide) rfl
                      refine va_calli (va_runV (As := [.int (nI i5)]) (rest := [.long yn76, .ref w0]) ⟨hx, hb, hml, hown, hts⟩ (y_byteAt l D cA sa w0 ed nb ol v0 v1 v2 v3 v4 v9 v13 v27 v28 v29 v30 v31 v32 v33 v34 v35 v36 v37 g8 g11 g12 (nI ta) (nI i5) g17 (-1) g19 g20 g21 g22 g23 g24 g26 g5 g6 u1_25_5 ln i5 fb H.size hln (by omega)) (cwV 1 hts gX10_advance_X10_byteAt rfl rfl rfl (by decide +kernel) ⟨(Nat.le_of_ble_eq_true rfl), (Nat.le_of_ble_eq_true rfl)⟩) ⟨Wd.blind, va_recv hK hPc (ci := 11) (q0 := 0) rfl rfl, fun U hU hW => ⟨rfl, Wd.call hPc hDc hK hC hZ hS hFc U hU hW⟩⟩ rfl rfl hl.1 rfl (lv_room (Nat.le_of_ble_eq_true rfl)) dX10_advance_128 ⟨(Nat.le_of_ble_eq_true rfl), (Nat.le_of_ble_eq_true rfl)⟩) hS (fun q _ h => hFc q h) hFc (fun rn77 u t H1 locs ht hvm hw hB hz1 hk1 hS => ?_)
                      obtain ⟨hP1, hD1⟩ := hB
                      rw [ht] at hP1
                      obtain ⟨hP, hD⟩ := PDq.join (w := [(v13, .inl (cA 1, 15, .inr (.inl fkw))), (oX10 w0 v0 v1 v2 v3 v4 g5 g6 (nI ed) g8 v9 (nI nb) g11 g12 v13 (nI ln) (nI ta) (nI i5) g17 (-1) g19 g20 g21 g22 g23 g24 u1_25_5 g26 v27 v28 v29 v30 v31 v32 v33 v34 v35 v36 v37 (nI ol)), (v9, .inl (cA 0, 700, .inl fb))]) 1 hP hD [1, 2] [0] rfl rfl (by decide) (by decide) hk1 hFc hP1 hD1 rfl
                      generalize H1 = H at hP hS ⊢
                      obtain rfl : rn77 = (bta fb ln i5) := hw
                      refine lv_i2l (v := ((bta fb ln i5).toInt64)) hx hb dX10_advance_131 rfl ?_
                      refine lv_ladd hx hb dX10_advance_132 ?_
                      refine lv_topl (fun yn78 eyn78 => ?_)
                      refine lv_ldc2 (v := 96) hx hb hown (hts (.constantLong RX10 105 96) (by decide +kernel)) dX10_advance_133 ?_
                      refine lv_lsub hx hb dX10_advance_136 ?_
                      refine lv_topl (fun yn79 eyn79 => ?_)
                      refine lv_goto (tgt := 144) hx hb dX10_advance_137 (by decide) ?_
                      refine va_put (D := D) (ci := 11) (v := .long yn79) (ty := .long) (C := RX10) (T := TX10) (N := 39) hx hb hts inX10 tyX10 tyX10_ok nmX10 hown hK hP hD hS 1 rfl rfl 25 (by decide) (hts (.fieldLink RX10 123 "EscrowDeskModel" "word" "J") (by decide +kernel)) (fun _ h9 => h9) rfl (by decide +kernel) rfl rfl (Nat.le_of_ble_eq_true rfl) dX10_advance_144 (fun H locs hP hD hS => ?_)
                      obtain ⟨hP, hD⟩ : PDq D A [(v13, .inl (cA 1, 15, .inr (.inl fkw))), (oX10 w0 v0 v1 v2 v3 v4 g5 g6 (nI ed) g8 v9 (nI nb) g11 g12 v13 (nI ln) (nI ta) (nI i5) g17 (-1) g19 g20 g21 g22 g23 g24 yn79 g26 v27 v28 v29 v30 v31 v32 v33 v34 v35 v36 v37 (nI ol)), (v9, .inl (cA 0, 700, .inl fb))] H := ⟨hP, hD⟩
                      refine lv_aload_n hx hb dX10_advance_147 rfl (lv_at hl 1 rfl) ?_
                      refine lv_dup hx hb dX10_advance_148 rfl ?_
                      refine va_get (D := D) (ci := 11) (v := .int (nI i5)) (C := RX10) (T := TX10) (N := 39) hx hb hts inX10 hown hK hP 1 rfl rfl 16 (by decide) (hts (.fieldLink RX10 110 "EscrowDeskModel" "next" "I") (by decide +kernel)) (fun _ h9 => h9) rfl dX10_advance_149 ?_
                      refine lv_iconst (v := 1) hx hb dX10_advance_152 (by decide) ?_
                      refine lv_iadd hx hb dX10_advance_153 ?_
                      refine lv_topi (fun yn80 eyn80 => ?_)
                      obtain rfl : yn80 = (nI (i5 + 1)) := eyn80.trans (nI_add i5 1)
                      refine va_put (D := D) (ci := 11) (v := .int (nI (i5 + 1))) (ty := .int) (C := RX10) (T := TX10) (N := 39) hx hb hts inX10 tyX10 tyX10_ok nmX10 hown hK hP hD hS 1 rfl rfl 16 (by decide) (hts (.fieldLink RX10 110 "EscrowDeskModel" "next" "I") (by decide +kernel)) (fun _ h9 => h9) rfl (by decide +kernel) rfl rfl (Nat.le_of_ble_eq_true rfl) dX10_advance_154 (fun H locs hP hD hS => ?_)
                      obtain ⟨hP, hD⟩ : PDq D A [(v13, .inl (cA 1, 15, .inr (.inl fkw))), (oX10 w0 v0 v1 v2 v3 v4 g5 g6 (nI ed) g8 v9 (nI nb) g11 g12 v13 (nI ln) (nI ta) (nI (i5 + 1)) g17 (-1) g19 g20 g21 g22 g23 g24 yn79 g26 v27 v28 v29 v30 v31 v32 v33 v34 v35 v36 v37 (nI ol)), (v9, .inl (cA 0, 700, .inl fb))] H := ⟨hP, hD⟩
                      refine lv_goto (tgt := 86) hx hb dX10_advance_157 (by decide) ?_
                      obtain ⟨hP9, hD9⟩ := PDq.sub (ws' := [(v13, .inl (cA 1, 15, .inr (.inl fkw))), (oX10 w0 v0 v1 v2 v3 v4 g5 g6 (nI ed) g8 v9 (nI nb) g11 g12 v13 (nI ln) (nI ta) (nI (i5 + 1)) g17 (-1) g19 g20 g21 g22 g23 g24 yn79 g26 v27 v28 v29 v30 v31 v32 v33 v34 v35 v36 v37 (nI ol)), (v9, .inl (cA 0, 700, .inl fb))]) hP hD [0, 1, 2] (by decide) rfl
                      exact ih5 (i5 + 1) yn79 H _ ls (by omega) (by omega) (Wlq.step hv1_5 (by omega) (show i5 < ln by omega) eyn76 eyn78 eyn79) hP9 hD9 hS (lv_sub hl [0, 1] rfl)
                  · skip
                    subst hr9
                    exact absurd (by rw [bt_in (show i5 < ln by omega)]; exact ckd_4.mp (ga1 i5 (by omega) (by omega))) hn69
              obtain ⟨hP9, hD9⟩ := PDq.sub (ws' := [(v13, .inl (cA 1, 15, .inr (.inl fkw))), (oX10 w0 v0 v1 v2 v3 v4 g5 g6 (nI ed) g8 v9 (nI nb) g11 g12 v13 (nI ln) (nI ta) (nI ta) g17 (-1) g19 g20 g21 g22 g23 g24 0 g26 v27 v28 v29 v30 v31 v32 v33 v34 v35 v36 v37 (nI ol)), (v9, .inl (cA 0, 700, .inl fb))]) hP hD [0, 1, 2] (by decide) rfl
              exact loop5 (tb - ta) ta 0 _ _ ls (by omega) (by omega) (Wlq.zero fb ta) hP9 hD9 hS (lv_sub hl [0, 1] rfl)
            · skip
              subst hr9
              exact absurd (by rw [bt_in (show ta < ln by omega)]; exact ckd_4.mp hc0) hn58
          · skip
            rw [bt_in (show ta < ln by omega)] at c54
            rw [c54] at hc0
            exact absurd hc0 (by decide)
      | succ n4 ih4 =>
        intro i4 H locs ls hi4 hv0_4 hP hD hS hl
        refine lv_aload_n hx hb dX10_advance_0 rfl (lv_at hl 0 rfl) ?_
        refine lv_aload_n hx hb dX10_advance_1 rfl (lv_at hl 0 rfl) ?_
        refine va_get (D := D) (ci := 11) (v := .int (nI i4)) (C := RX10) (T := TX10) (N := 39) hx hb hts inX10 hown hK hP 0 rfl rfl 16 (by decide) (hts (.fieldLink RX10 110 "EscrowDeskModel" "next" "I") (by decide +kernel)) (fun _ h9 => h9) rfl dX10_advance_2 ?_
        obtain ⟨hPc, hDc, hFc⟩ := PDq.cut (wc := [(oX10 w0 v0 v1 v2 v3 v4 g5 g6 (nI ed) g8 v9 (nI nb) g11 g12 v13 (nI ln) g15 (nI i4) g17 g18 g19 g20 g21 g22 g23 g24 g25 g26 v27 v28 v29 v30 v31 v32 v33 v34 v35 v36 v37 (nI ol)), (v9, .inl (cA 0, 700, .inl fb))]) hP hD hS hA [0, 1] (by decide) rfl
        refine va_calli (va_runV (As := [.int (nI i4)]) (rest := []) ⟨hx, hb, hml, hown, hts⟩ (y_byteAt l D cA sa w0 ed nb ol v0 v1 v2 v3 v4 v9 v13 v27 v28 v29 v30 v31 v32 v33 v34 v35 v36 v37 g8 g11 g12 g15 (nI i4) g17 g18 g19 g20 g21 g22 g23 g24 g26 g5 g6 g25 ln i4 fb H.size hln (by omega)) (cwV 1 hts gX10_advance_X10_byteAt rfl rfl rfl (by decide +kernel) ⟨(Nat.le_of_ble_eq_true rfl), (Nat.le_of_ble_eq_true rfl)⟩) ⟨Wd.blind, va_recv hK hPc (ci := 11) (q0 := 0) rfl rfl, fun U hU hW => ⟨rfl, Wd.call hPc hDc hK hC hZ hS hFc U hU hW⟩⟩ rfl rfl hl.1 rfl (lv_room (Nat.le_of_ble_eq_true rfl)) dX10_advance_5 ⟨(Nat.le_of_ble_eq_true rfl), (Nat.le_of_ble_eq_true rfl)⟩) hS (fun q _ h => hFc q h) hFc (fun rn81 u t H1 locs ht hvm hw hB hz1 hk1 hS => ?_)
        obtain ⟨hP1, hD1⟩ := hB
        rw [ht] at hP1
        obtain ⟨hP, hD⟩ := PDq.join (w := [(v13, .inl (cA 1, 15, .inr (.inl fkw))), (oX10 w0 v0 v1 v2 v3 v4 g5 g6 (nI ed) g8 v9 (nI nb) g11 g12 v13 (nI ln) g15 (nI i4) g17 g18 g19 g20 g21 g22 g23 g24 g25 g26 v27 v28 v29 v30 v31 v32 v33 v34 v35 v36 v37 (nI ol)), (v9, .inl (cA 0, 700, .inl fb))]) 1 hP hD [0, 1] [2] rfl rfl (by decide) (by decide) hk1 hFc hP1 hD1 rfl
        generalize H1 = H at hP hS ⊢
        obtain rfl : rn81 = (bta fb ln i4) := hw
        refine lv_bipush (v := 32) hx hb dX10_advance_8 (by decide) ?_
        refine lv_icmp_eq (tgt := 26) hx hb dX10_advance_10 (by decide) (fun c82 => ?_) (fun c82 => ?_)
        · skip
          refine lv_aload_n hx hb dX10_advance_26 rfl (lv_at hl 0 rfl) ?_
          refine lv_dup hx hb dX10_advance_27 rfl ?_
          refine va_get (D := D) (ci := 11) (v := .int (nI i4)) (C := RX10) (T := TX10) (N := 39) hx hb hts inX10 hown hK hP 1 rfl rfl 16 (by decide) (hts (.fieldLink RX10 110 "EscrowDeskModel" "next" "I") (by decide +kernel)) (fun _ h9 => h9) rfl dX10_advance_28 ?_
          refine lv_iconst (v := 1) hx hb dX10_advance_31 (by decide) ?_
          refine lv_iadd hx hb dX10_advance_32 ?_
          refine lv_topi (fun yn83 eyn83 => ?_)
          obtain rfl : yn83 = (nI (i4 + 1)) := eyn83.trans (nI_add i4 1)
          refine va_put (D := D) (ci := 11) (v := .int (nI (i4 + 1))) (ty := .int) (C := RX10) (T := TX10) (N := 39) hx hb hts inX10 tyX10 tyX10_ok nmX10 hown hK hP hD hS 1 rfl rfl 16 (by decide) (hts (.fieldLink RX10 110 "EscrowDeskModel" "next" "I") (by decide +kernel)) (fun _ h9 => h9) rfl (by decide +kernel) rfl rfl (Nat.le_of_ble_eq_true rfl) dX10_advance_33 (fun H locs hP hD hS => ?_)
          obtain ⟨hP, hD⟩ : PDq D A [(v13, .inl (cA 1, 15, .inr (.inl fkw))), (oX10 w0 v0 v1 v2 v3 v4 g5 g6 (nI ed) g8 v9 (nI nb) g11 g12 v13 (nI ln) g15 (nI (i4 + 1)) g17 g18 g19 g20 g21 g22 g23 g24 g25 g26 v27 v28 v29 v30 v31 v32 v33 v34 v35 v36 v37 (nI ol)), (v9, .inl (cA 0, 700, .inl fb))] H := ⟨hP, hD⟩
          refine lv_goto (tgt := 0) hx hb dX10_advance_36 (by decide) ?_
          obtain ⟨hP9, hD9⟩ := PDq.sub (ws' := [(oX10 w0 v0 v1 v2 v3 v4 g5 g6 (nI ed) g8 v9 (nI nb) g11 g12 v13 (nI ln) g15 (nI (i4 + 1)) g17 g18 g19 g20 g21 g22 g23 g24 g25 g26 v27 v28 v29 v30 v31 v32 v33 v34 v35 v36 v37 (nI ol)), (v9, .inl (cA 0, 700, .inl fb)), (v13, .inl (cA 1, 15, .inr (.inl fkw)))]) hP hD [1, 2, 0] (by decide) rfl
          exact ih4 (i4 + 1)  H _ ls (by omega) (by omega) hP9 hD9 hS (lv_sub hl [0] rfl)
        · skip
          refine lv_aload_n hx hb dX10_advance_13 rfl (lv_at hl 0 rfl) ?_
          refine lv_aload_n hx hb dX10_advance_14 rfl (lv_at hl 0 rfl) ?_
          refine va_get (D := D) (ci := 11) (v := .int (nI i4)) (C := RX10) (T := TX10) (N := 39) hx hb hts inX10 hown hK hP 1 rfl rfl 16 (by decide) (hts (.fieldLink RX10 110 "EscrowDeskModel" "next" "I") (by decide +kernel)) (fun _ h9 => h9) rfl dX10_advance_15 ?_
          obtain ⟨hPc, hDc, hFc⟩ := PDq.cut (wc := [(oX10 w0 v0 v1 v2 v3 v4 g5 g6 (nI ed) g8 v9 (nI nb) g11 g12 v13 (nI ln) g15 (nI i4) g17 g18 g19 g20 g21 g22 g23 g24 g25 g26 v27 v28 v29 v30 v31 v32 v33 v34 v35 v36 v37 (nI ol)), (v9, .inl (cA 0, 700, .inl fb))]) hP hD hS hA [1, 2] (by decide) rfl
          refine va_calli (va_runV (As := [.int (nI i4)]) (rest := []) ⟨hx, hb, hml, hown, hts⟩ (y_byteAt l D cA sa w0 ed nb ol v0 v1 v2 v3 v4 v9 v13 v27 v28 v29 v30 v31 v32 v33 v34 v35 v36 v37 g8 g11 g12 g15 (nI i4) g17 g18 g19 g20 g21 g22 g23 g24 g26 g5 g6 g25 ln i4 fb H.size hln (by omega)) (cwV 1 hts gX10_advance_X10_byteAt rfl rfl rfl (by decide +kernel) ⟨(Nat.le_of_ble_eq_true rfl), (Nat.le_of_ble_eq_true rfl)⟩) ⟨Wd.blind, va_recv hK hPc (ci := 11) (q0 := 0) rfl rfl, fun U hU hW => ⟨rfl, Wd.call hPc hDc hK hC hZ hS hFc U hU hW⟩⟩ rfl rfl hl.1 rfl (lv_room (Nat.le_of_ble_eq_true rfl)) dX10_advance_18 ⟨(Nat.le_of_ble_eq_true rfl), (Nat.le_of_ble_eq_true rfl)⟩) hS (fun q _ h => hFc q h) hFc (fun rn84 u t H1 locs ht hvm hw hB hz1 hk1 hS => ?_)
          obtain ⟨hP1, hD1⟩ := hB
          rw [ht] at hP1
          obtain ⟨hP, hD⟩ := PDq.join (w := [(v13, .inl (cA 1, 15, .inr (.inl fkw))), (oX10 w0 v0 v1 v2 v3 v4 g5 g6 (nI ed) g8 v9 (nI nb) g11 g12 v13 (nI ln) g15 (nI i4) g17 g18 g19 g20 g21 g22 g23 g24 g25 g26 v27 v28 v29 v30 v31 v32 v33 v34 v35 v36 v37 (nI ol)), (v9, .inl (cA 0, 700, .inl fb))]) 1 hP hD [1, 2] [0] rfl rfl (by decide) (by decide) hk1 hFc hP1 hD1 rfl
          generalize H1 = H at hP hS ⊢
          obtain rfl : rn84 = (bta fb ln i4) := hw
          refine lv_bipush (v := 10) hx hb dX10_advance_21 (by decide) ?_
          refine lv_icmp_ne (tgt := 39) hx hb dX10_advance_23 (by decide) (fun c85 => ?_) (fun c85 => ?_)
          · skip
            rw [bt_in (show i4 < ln by omega)] at c82 c85
            exact absurd (tn3 i4 (by omega) (by omega)) (ckd_n0 c82 c85)
          · skip
            refine lv_aload_n hx hb dX10_advance_26 rfl (lv_at hl 0 rfl) ?_
            refine lv_dup hx hb dX10_advance_27 rfl ?_
            refine va_get (D := D) (ci := 11) (v := .int (nI i4)) (C := RX10) (T := TX10) (N := 39) hx hb hts inX10 hown hK hP 1 rfl rfl 16 (by decide) (hts (.fieldLink RX10 110 "EscrowDeskModel" "next" "I") (by decide +kernel)) (fun _ h9 => h9) rfl dX10_advance_28 ?_
            refine lv_iconst (v := 1) hx hb dX10_advance_31 (by decide) ?_
            refine lv_iadd hx hb dX10_advance_32 ?_
            refine lv_topi (fun yn86 eyn86 => ?_)
            obtain rfl : yn86 = (nI (i4 + 1)) := eyn86.trans (nI_add i4 1)
            refine va_put (D := D) (ci := 11) (v := .int (nI (i4 + 1))) (ty := .int) (C := RX10) (T := TX10) (N := 39) hx hb hts inX10 tyX10 tyX10_ok nmX10 hown hK hP hD hS 1 rfl rfl 16 (by decide) (hts (.fieldLink RX10 110 "EscrowDeskModel" "next" "I") (by decide +kernel)) (fun _ h9 => h9) rfl (by decide +kernel) rfl rfl (Nat.le_of_ble_eq_true rfl) dX10_advance_33 (fun H locs hP hD hS => ?_)
            obtain ⟨hP, hD⟩ : PDq D A [(v13, .inl (cA 1, 15, .inr (.inl fkw))), (oX10 w0 v0 v1 v2 v3 v4 g5 g6 (nI ed) g8 v9 (nI nb) g11 g12 v13 (nI ln) g15 (nI (i4 + 1)) g17 g18 g19 g20 g21 g22 g23 g24 g25 g26 v27 v28 v29 v30 v31 v32 v33 v34 v35 v36 v37 (nI ol)), (v9, .inl (cA 0, 700, .inl fb))] H := ⟨hP, hD⟩
            refine lv_goto (tgt := 0) hx hb dX10_advance_36 (by decide) ?_
            obtain ⟨hP9, hD9⟩ := PDq.sub (ws' := [(oX10 w0 v0 v1 v2 v3 v4 g5 g6 (nI ed) g8 v9 (nI nb) g11 g12 v13 (nI ln) g15 (nI (i4 + 1)) g17 g18 g19 g20 g21 g22 g23 g24 g25 g26 v27 v28 v29 v30 v31 v32 v33 v34 v35 v36 v37 (nI ol)), (v9, .inl (cA 0, 700, .inl fb)), (v13, .inl (cA 1, 15, .inr (.inl fkw)))]) hP hD [1, 2, 0] (by decide) rfl
            exact ih4 (i4 + 1)  H _ ls (by omega) (by omega) hP9 hD9 hS (lv_sub hl [0] rfl)
    obtain ⟨hP9, hD9⟩ := PDq.sub (ws' := [(oX10 w0 v0 v1 v2 v3 v4 g5 g6 (nI ed) g8 v9 (nI nb) g11 g12 v13 (nI ln) g15 (nI nx) g17 g18 g19 g20 g21 g22 g23 g24 g25 g26 v27 v28 v29 v30 v31 v32 v33 v34 v35 v36 v37 (nI ol)), (v9, .inl (cA 0, 700, .inl fb)), (v13, .inl (cA 1, 15, .inr (.inl fkw)))]) hP hD [0, 1, 2] (by decide) rfl
    exact loop4 (ta - nx) nx  _ _ ls (by omega) (by omega) hP9 hD9 hS (lv_sub hl [0] rfl)
  · skip
    have hc0 : ckd (fb ta) = 3 := ga1 ta (Nat.le_refl _) (by omega)
    have hlt : ta ≤ ln := by omega
    have loop6 : ∀ (n6 i6 : Nat) (H : Heap) (locs : List Loc) (ls : Array Slot), i6 + n6 = ta → nx ≤ i6 → va_P D vwCl [(oX10 w0 v0 v1 v2 v3 v4 g5 g6 (nI ed) g8 v9 (nI nb) g11 g12 v13 (nI ln) g15 (nI i6) g17 g18 g19 g20 g21 g22 g23 g24 g25 g26 v27 v28 v29 v30 v31 v32 v33 v34 v35 v36 v37 (nI ol)), (v9, .inl (cA 0, 700, .inl fb)), (v13, .inl (cA 1, 15, .inr (.inl fkw)))] H → va_D A [(oX10 w0 v0 v1 v2 v3 v4 g5 g6 (nI ed) g8 v9 (nI nb) g11 g12 v13 (nI ln) g15 (nI i6) g17 g18 g19 g20 g21 g22 g23 g24 g25 g26 v27 v28 v29 v30 v31 v32 v33 v34 v35 v36 v37 (nI ol)), (v9, .inl (cA 0, 700, .inl fb)), (v13, .inl (cA 1, 15, .inr (.inl fkw)))] → va_S A s.heap H locs → lv_has ls 2 [(0, .ref w0)] → W p l e (headSpec wsX10_advance ({ frames := 1, cells := 0, slots := 0, locals := 23 } : Room)).room s m ([.ref w0] : List Value).toArray below meth c H locs 0 0 (MQ below (va_Qi (fun (r : Int32) (_ : Unit) => r = 1) (fun (_ : Unit) t => ∃ z17 : Int32, ∃ z18 : Int32, ∃ z19 : Int32, ∃ z25 : Int64, TKR kk vv (fb ta) z17 z18 z19 z25 ∧ Wq D A [(oX10 w0 v0 v1 v2 v3 v4 g5 g6 (nI ed) g8 v9 (nI nb) g11 g12 v13 (nI ln) (nI ta) (nI tb) z17 z18 z19 g20 g21 g22 g23 g24 z25 g26 v27 v28 v29 v30 v31 v32 v33 v34 v35 v36 v37 (nI ol)), (v9, .inl (cA 0, 700, .inl fb)), (v13, .inl (cA 1, 15, .inr (.inl fkw)))] t) A) ([.ref w0] : List Value).toArray s 0 0 A) (F0 m 0 ls []) := by
      intro n6
      induction n6 with
      | zero =>
        intro i6 H locs ls hi6 hv0_6 hP hD hS hl
        obtain rfl : ta = i6 := by omega
        refine lv_aload_n hx hb dX10_advance_0 rfl (lv_at hl 0 rfl) ?_
        refine lv_aload_n hx hb dX10_advance_1 rfl (lv_at hl 0 rfl) ?_
        refine va_get (D := D) (ci := 11) (v := .int (nI ta)) (C := RX10) (T := TX10) (N := 39) hx hb hts inX10 hown hK hP 0 rfl rfl 16 (by decide) (hts (.fieldLink RX10 110 "EscrowDeskModel" "next" "I") (by decide +kernel)) (fun _ h9 => h9) rfl dX10_advance_2 ?_
        obtain ⟨hPc, hDc, hFc⟩ := PDq.cut (wc := [(oX10 w0 v0 v1 v2 v3 v4 g5 g6 (nI ed) g8 v9 (nI nb) g11 g12 v13 (nI ln) g15 (nI ta) g17 g18 g19 g20 g21 g22 g23 g24 g25 g26 v27 v28 v29 v30 v31 v32 v33 v34 v35 v36 v37 (nI ol)), (v9, .inl (cA 0, 700, .inl fb))]) hP hD hS hA [0, 1] (by decide) rfl
        refine va_calli (va_runV (As := [.int (nI ta)]) (rest := []) ⟨hx, hb, hml, hown, hts⟩ (y_byteAt l D cA sa w0 ed nb ol v0 v1 v2 v3 v4 v9 v13 v27 v28 v29 v30 v31 v32 v33 v34 v35 v36 v37 g8 g11 g12 g15 (nI ta) g17 g18 g19 g20 g21 g22 g23 g24 g26 g5 g6 g25 ln ta fb H.size hln (by omega)) (cwV 1 hts gX10_advance_X10_byteAt rfl rfl rfl (by decide +kernel) ⟨(Nat.le_of_ble_eq_true rfl), (Nat.le_of_ble_eq_true rfl)⟩) ⟨Wd.blind, va_recv hK hPc (ci := 11) (q0 := 0) rfl rfl, fun U hU hW => ⟨rfl, Wd.call hPc hDc hK hC hZ hS hFc U hU hW⟩⟩ rfl rfl hl.1 rfl (lv_room (Nat.le_of_ble_eq_true rfl)) dX10_advance_5 ⟨(Nat.le_of_ble_eq_true rfl), (Nat.le_of_ble_eq_true rfl)⟩) hS (fun q _ h => hFc q h) hFc (fun rn87 u t H1 locs ht hvm hw hB hz1 hk1 hS => ?_)
        obtain ⟨hP1, hD1⟩ := hB
        rw [ht] at hP1
        obtain ⟨hP, hD⟩ := PDq.join (w := [(v13, .inl (cA 1, 15, .inr (.inl fkw))), (oX10 w0 v0 v1 v2 v3 v4 g5 g6 (nI ed) g8 v9 (nI nb) g11 g12 v13 (nI ln) g15 (nI ta) g17 g18 g19 g20 g21 g22 g23 g24 g25 g26 v27 v28 v29 v30 v31 v32 v33 v34 v35 v36 v37 (nI ol)), (v9, .inl (cA 0, 700, .inl fb))]) 1 hP hD [0, 1] [2] rfl rfl (by decide) (by decide) hk1 hFc hP1 hD1 rfl
        generalize H1 = H at hP hS ⊢
        obtain rfl : rn87 = (bta fb ln ta) := hw
        refine lv_bipush (v := 32) hx hb dX10_advance_8 (by decide) ?_
        refine lv_icmp_eq (tgt := 26) hx hb dX10_advance_10 (by decide) (fun c88 => ?_) (fun c88 => ?_)
        · skip
          rw [bt_in (show ta < ln by omega)] at c88
          rw [c88] at hc0
          exact absurd hc0 (by decide)
        · skip
          refine lv_aload_n hx hb dX10_advance_13 rfl (lv_at hl 0 rfl) ?_
          refine lv_aload_n hx hb dX10_advance_14 rfl (lv_at hl 0 rfl) ?_
          refine va_get (D := D) (ci := 11) (v := .int (nI ta)) (C := RX10) (T := TX10) (N := 39) hx hb hts inX10 hown hK hP 1 rfl rfl 16 (by decide) (hts (.fieldLink RX10 110 "EscrowDeskModel" "next" "I") (by decide +kernel)) (fun _ h9 => h9) rfl dX10_advance_15 ?_
          obtain ⟨hPc, hDc, hFc⟩ := PDq.cut (wc := [(oX10 w0 v0 v1 v2 v3 v4 g5 g6 (nI ed) g8 v9 (nI nb) g11 g12 v13 (nI ln) g15 (nI ta) g17 g18 g19 g20 g21 g22 g23 g24 g25 g26 v27 v28 v29 v30 v31 v32 v33 v34 v35 v36 v37 (nI ol)), (v9, .inl (cA 0, 700, .inl fb))]) hP hD hS hA [1, 2] (by decide) rfl
          refine va_calli (va_runV (As := [.int (nI ta)]) (rest := []) ⟨hx, hb, hml, hown, hts⟩ (y_byteAt l D cA sa w0 ed nb ol v0 v1 v2 v3 v4 v9 v13 v27 v28 v29 v30 v31 v32 v33 v34 v35 v36 v37 g8 g11 g12 g15 (nI ta) g17 g18 g19 g20 g21 g22 g23 g24 g26 g5 g6 g25 ln ta fb H.size hln (by omega)) (cwV 1 hts gX10_advance_X10_byteAt rfl rfl rfl (by decide +kernel) ⟨(Nat.le_of_ble_eq_true rfl), (Nat.le_of_ble_eq_true rfl)⟩) ⟨Wd.blind, va_recv hK hPc (ci := 11) (q0 := 0) rfl rfl, fun U hU hW => ⟨rfl, Wd.call hPc hDc hK hC hZ hS hFc U hU hW⟩⟩ rfl rfl hl.1 rfl (lv_room (Nat.le_of_ble_eq_true rfl)) dX10_advance_18 ⟨(Nat.le_of_ble_eq_true rfl), (Nat.le_of_ble_eq_true rfl)⟩) hS (fun q _ h => hFc q h) hFc (fun rn89 u t H1 locs ht hvm hw hB hz1 hk1 hS => ?_)
          obtain ⟨hP1, hD1⟩ := hB
          rw [ht] at hP1
          obtain ⟨hP, hD⟩ := PDq.join (w := [(v13, .inl (cA 1, 15, .inr (.inl fkw))), (oX10 w0 v0 v1 v2 v3 v4 g5 g6 (nI ed) g8 v9 (nI nb) g11 g12 v13 (nI ln) g15 (nI ta) g17 g18 g19 g20 g21 g22 g23 g24 g25 g26 v27 v28 v29 v30 v31 v32 v33 v34 v35 v36 v37 (nI ol)), (v9, .inl (cA 0, 700, .inl fb))]) 1 hP hD [1, 2] [0] rfl rfl (by decide) (by decide) hk1 hFc hP1 hD1 rfl
          generalize H1 = H at hP hS ⊢
          obtain rfl : rn89 = (bta fb ln ta) := hw
          refine lv_bipush (v := 10) hx hb dX10_advance_21 (by decide) ?_
          refine lv_icmp_ne (tgt := 39) hx hb dX10_advance_23 (by decide) (fun c90 => ?_) (fun c90 => ?_)
          · skip
            refine lv_aload_n hx hb dX10_advance_39 rfl (lv_at hl 0 rfl) ?_
            refine lv_aload_n hx hb dX10_advance_40 rfl (lv_at hl 0 rfl) ?_
            refine va_get (D := D) (ci := 11) (v := .int (nI ta)) (C := RX10) (T := TX10) (N := 39) hx hb hts inX10 hown hK hP 1 rfl rfl 16 (by decide) (hts (.fieldLink RX10 110 "EscrowDeskModel" "next" "I") (by decide +kernel)) (fun _ h9 => h9) rfl dX10_advance_41 ?_
            refine va_put (D := D) (ci := 11) (v := .int (nI ta)) (ty := .int) (C := RX10) (T := TX10) (N := 39) hx hb hts inX10 tyX10 tyX10_ok nmX10 hown hK hP hD hS 1 rfl rfl 15 (by decide) (hts (.fieldLink RX10 117 "EscrowDeskModel" "start" "I") (by decide +kernel)) (fun _ h9 => h9) rfl (by decide +kernel) rfl rfl (Nat.le_of_ble_eq_true rfl) dX10_advance_44 (fun H locs hP hD hS => ?_)
            obtain ⟨hP, hD⟩ : PDq D A [(v13, .inl (cA 1, 15, .inr (.inl fkw))), (oX10 w0 v0 v1 v2 v3 v4 g5 g6 (nI ed) g8 v9 (nI nb) g11 g12 v13 (nI ln) (nI ta) (nI ta) g17 g18 g19 g20 g21 g22 g23 g24 g25 g26 v27 v28 v29 v30 v31 v32 v33 v34 v35 v36 v37 (nI ol)), (v9, .inl (cA 0, 700, .inl fb))] H := ⟨hP, hD⟩
            refine lv_aload_n hx hb dX10_advance_47 rfl (lv_at hl 0 rfl) ?_
            refine lv_iconst (v := (-1)) hx hb dX10_advance_48 (by decide) ?_
            refine va_put (D := D) (ci := 11) (v := .int (-1)) (ty := .int) (C := RX10) (T := TX10) (N := 39) hx hb hts inX10 tyX10 tyX10_ok nmX10 hown hK hP hD hS 1 rfl rfl 18 (by decide) (hts (.fieldLink RX10 120 "EscrowDeskModel" "keyword" "I") (by decide +kernel)) (fun _ h9 => h9) rfl (by decide +kernel) rfl rfl (Nat.le_of_ble_eq_true rfl) dX10_advance_49 (fun H locs hP hD hS => ?_)
            obtain ⟨hP, hD⟩ : PDq D A [(v13, .inl (cA 1, 15, .inr (.inl fkw))), (oX10 w0 v0 v1 v2 v3 v4 g5 g6 (nI ed) g8 v9 (nI nb) g11 g12 v13 (nI ln) (nI ta) (nI ta) g17 (-1) g19 g20 g21 g22 g23 g24 g25 g26 v27 v28 v29 v30 v31 v32 v33 v34 v35 v36 v37 (nI ol)), (v9, .inl (cA 0, 700, .inl fb))] H := ⟨hP, hD⟩
            refine lv_aload_n hx hb dX10_advance_52 rfl (lv_at hl 0 rfl) ?_
            refine lv_lconst (v := 0) hx hb dX10_advance_53 (by decide) ?_
            refine va_put (D := D) (ci := 11) (v := .long 0) (ty := .long) (C := RX10) (T := TX10) (N := 39) hx hb hts inX10 tyX10 tyX10_ok nmX10 hown hK hP hD hS 1 rfl rfl 25 (by decide) (hts (.fieldLink RX10 123 "EscrowDeskModel" "word" "J") (by decide +kernel)) (fun _ h9 => h9) rfl (by decide +kernel) rfl rfl (Nat.le_of_ble_eq_true rfl) dX10_advance_54 (fun H locs hP hD hS => ?_)
            obtain ⟨hP, hD⟩ : PDq D A [(v13, .inl (cA 1, 15, .inr (.inl fkw))), (oX10 w0 v0 v1 v2 v3 v4 g5 g6 (nI ed) g8 v9 (nI nb) g11 g12 v13 (nI ln) (nI ta) (nI ta) g17 (-1) g19 g20 g21 g22 g23 g24 0 g26 v27 v28 v29 v30 v31 v32 v33 v34 v35 v36 v37 (nI ol)), (v9, .inl (cA 0, 700, .inl fb))] H := ⟨hP, hD⟩
            refine lv_aload_n hx hb dX10_advance_57 rfl (lv_at hl 0 rfl) ?_
            refine lv_aload_n hx hb dX10_advance_58 rfl (lv_at hl 0 rfl) ?_
            refine va_get (D := D) (ci := 11) (v := .int (nI ta)) (C := RX10) (T := TX10) (N := 39) hx hb hts inX10 hown hK hP 1 rfl rfl 16 (by decide) (hts (.fieldLink RX10 110 "EscrowDeskModel" "next" "I") (by decide +kernel)) (fun _ h9 => h9) rfl dX10_advance_59 ?_
            obtain ⟨hPc, hDc, hFc⟩ := PDq.cut (wc := [(oX10 w0 v0 v1 v2 v3 v4 g5 g6 (nI ed) g8 v9 (nI nb) g11 g12 v13 (nI ln) (nI ta) (nI ta) g17 (-1) g19 g20 g21 g22 g23 g24 0 g26 v27 v28 v29 v30 v31 v32 v33 v34 v35 v36 v37 (nI ol)), (v9, .inl (cA 0, 700, .inl fb))]) hP hD hS hA [1, 2] (by decide) rfl
            refine va_calli (va_runV (As := [.int (nI ta)]) (rest := []) ⟨hx, hb, hml, hown, hts⟩ (y_byteAt l D cA sa w0 ed nb ol v0 v1 v2 v3 v4 v9 v13 v27 v28 v29 v30 v31 v32 v33 v34 v35 v36 v37 g8 g11 g12 (nI ta) (nI ta) g17 (-1) g19 g20 g21 g22 g23 g24 g26 g5 g6 0 ln ta fb H.size hln (by omega)) (cwV 1 hts gX10_advance_X10_byteAt rfl rfl rfl (by decide +kernel) ⟨(Nat.le_of_ble_eq_true rfl), (Nat.le_of_ble_eq_true rfl)⟩) ⟨Wd.blind, va_recv hK hPc (ci := 11) (q0 := 0) rfl rfl, fun U hU hW => ⟨rfl, Wd.call hPc hDc hK hC hZ hS hFc U hU hW⟩⟩ rfl rfl hl.1 rfl (lv_room (Nat.le_of_ble_eq_true rfl)) dX10_advance_62 ⟨(Nat.le_of_ble_eq_true rfl), (Nat.le_of_ble_eq_true rfl)⟩) hS (fun q _ h => hFc q h) hFc (fun rn91 u t H1 locs ht hvm hw hB hz1 hk1 hS => ?_)
            obtain ⟨hP1, hD1⟩ := hB
            rw [ht] at hP1
            obtain ⟨hP, hD⟩ := PDq.join (w := [(v13, .inl (cA 1, 15, .inr (.inl fkw))), (oX10 w0 v0 v1 v2 v3 v4 g5 g6 (nI ed) g8 v9 (nI nb) g11 g12 v13 (nI ln) (nI ta) (nI ta) g17 (-1) g19 g20 g21 g22 g23 g24 0 g26 v27 v28 v29 v30 v31 v32 v33 v34 v35 v36 v37 (nI ol)), (v9, .inl (cA 0, 700, .inl fb))]) 1 hP hD [1, 2] [0] rfl rfl (by decide) (by decide) hk1 hFc hP1 hD1 rfl
            generalize H1 = H at hP hS ⊢
            obtain rfl : rn91 = (bta fb ln ta) := hw
            refine lv_istore_n (lv' := [(1, .int (bta fb ln ta)), (0, .ref w0)]) hx hb dX10_advance_65 rfl hl (by decide) rfl (fun ls hl => ?_)
            refine lv_iload_n hx hb dX10_advance_66 rfl (lv_at hl 0 rfl) ?_
            refine lv_iconst (v := (-1)) hx hb dX10_advance_67 (by decide) ?_
            refine lv_icmp_ne (tgt := 79) hx hb dX10_advance_68 (by decide) (fun c92 => ?_) (fun c9 => absurd c9 (by rw [bt_in (show ta < ln by omega)]; exact fun h9 => hBY ta (by omega) (by rw [h9]; decide)))
            refine lv_iload_n hx hb dX10_advance_79 rfl (lv_at hl 0 rfl) ?_
            obtain ⟨hPc, hDc, hFc⟩ := PDq.cut (wc := []) hP hD hS hA [] (by decide) rfl
            refine va_calli (va_runS (As := [.int (bta fb ln ta)]) (rest := []) ⟨hx, hb, hml, hown, hts⟩ (y_isLetter l D cA sa (bta fb ln ta) H.size) (va_cwS 1 hts gX10_advance_X10_isLetter rfl rfl rfl (by decide +kernel) ⟨(Nat.le_of_ble_eq_true rfl), (Nat.le_of_ble_eq_true rfl)⟩) ⟨Wd.blind, fun U hU hW => ⟨rfl, Wd.call hPc hDc hK hC hZ hS hFc U hU hW⟩⟩ rfl rfl hl.1 rfl (lv_room (Nat.le_of_ble_eq_true rfl)) dX10_advance_80 ⟨(Nat.le_of_ble_eq_true rfl), (Nat.le_of_ble_eq_true rfl)⟩) hS (fun q _ h => hFc q h) hFc (fun rn93 u t H1 locs ht hvm hw hB hz1 hk1 hS => ?_)
            obtain ⟨hP1, hD1⟩ := hB
            rw [ht] at hP1
            obtain ⟨hP, hD⟩ := PDq.join (w := [(v13, .inl (cA 1, 15, .inr (.inl fkw))), (oX10 w0 v0 v1 v2 v3 v4 g5 g6 (nI ed) g8 v9 (nI nb) g11 g12 v13 (nI ln) (nI ta) (nI ta) g17 (-1) g19 g20 g21 g22 g23 g24 0 g26 v27 v28 v29 v30 v31 v32 v33 v34 v35 v36 v37 (nI ol)), (v9, .inl (cA 0, 700, .inl fb))]) 3 hP hD [] [0, 1, 2] rfl rfl (by decide) (by decide) hk1 hFc hP1 hD1 rfl
            generalize H1 = H at hP hS ⊢
            rcases hw with ⟨hr9, hn94⟩ | ⟨hr9, hn94⟩
            · skip
              subst hr9
              exact absurd (ckd_4.mpr (by rw [bt_in (show ta < ln by omega)] at hn94; exact hn94)) (by rw [hc0]; decide)
            · skip
              subst hr9
              refine lv_if_eq (tgt := 210) hx hb dX10_advance_83 (by decide) (fun c95 => ?_) (fun c9 => absurd c9 (by decide))
              refine lv_iload_n hx hb dX10_advance_210 rfl (lv_at hl 0 rfl) ?_
              obtain ⟨hPc, hDc, hFc⟩ := PDq.cut (wc := []) hP hD hS hA [] (by decide) rfl
              refine va_calli (va_runS (As := [.int (bta fb ln ta)]) (rest := []) ⟨hx, hb, hml, hown, hts⟩ (y_isDigit l D cA sa (bta fb ln ta) H.size) (va_cwS 1 hts gX10_advance_X10_isDigit rfl rfl rfl (by decide +kernel) ⟨(Nat.le_of_ble_eq_true rfl), (Nat.le_of_ble_eq_true rfl)⟩) ⟨Wd.blind, fun U hU hW => ⟨rfl, Wd.call hPc hDc hK hC hZ hS hFc U hU hW⟩⟩ rfl rfl hl.1 rfl (lv_room (Nat.le_of_ble_eq_true rfl)) dX10_advance_211 ⟨(Nat.le_of_ble_eq_true rfl), (Nat.le_of_ble_eq_true rfl)⟩) hS (fun q _ h => hFc q h) hFc (fun rn96 u t H1 locs ht hvm hw hB hz1 hk1 hS => ?_)
              obtain ⟨hP1, hD1⟩ := hB
              rw [ht] at hP1
              obtain ⟨hP, hD⟩ := PDq.join (w := [(v13, .inl (cA 1, 15, .inr (.inl fkw))), (oX10 w0 v0 v1 v2 v3 v4 g5 g6 (nI ed) g8 v9 (nI nb) g11 g12 v13 (nI ln) (nI ta) (nI ta) g17 (-1) g19 g20 g21 g22 g23 g24 0 g26 v27 v28 v29 v30 v31 v32 v33 v34 v35 v36 v37 (nI ol)), (v9, .inl (cA 0, 700, .inl fb))]) 3 hP hD [] [0, 1, 2] rfl rfl (by decide) (by decide) hk1 hFc hP1 hD1 rfl
              generalize H1 = H at hP hS ⊢
              rcases hw with ⟨hr9, hn97⟩ | ⟨hr9, hn97⟩
              · skip
                subst hr9
                refine lv_if_eq (tgt := 317) hx hb dX10_advance_214 (by decide) (fun c9 => absurd c9 (by decide)) (fun c98 => ?_)
                refine lv_aload_n hx hb dX10_advance_217 rfl (lv_at hl 1 rfl) ?_
                refine lv_iconst (v := 0) hx hb dX10_advance_218 (by decide) ?_
                refine va_put (D := D) (ci := 11) (v := .int 0) (ty := .int) (C := RX10) (T := TX10) (N := 39) hx hb hts inX10 tyX10 tyX10_ok nmX10 hown hK hP hD hS 1 rfl rfl 19 (by decide) (hts (.fieldLink RX10 140 "EscrowDeskModel" "value" "I") (by decide +kernel)) (fun _ h9 => h9) rfl (by decide +kernel) rfl rfl (Nat.le_of_ble_eq_true rfl) dX10_advance_219 (fun H locs hP hD hS => ?_)
                obtain ⟨hP, hD⟩ : PDq D A [(v13, .inl (cA 1, 15, .inr (.inl fkw))), (oX10 w0 v0 v1 v2 v3 v4 g5 g6 (nI ed) g8 v9 (nI nb) g11 g12 v13 (nI ln) (nI ta) (nI ta) g17 (-1) 0 g20 g21 g22 g23 g24 0 g26 v27 v28 v29 v30 v31 v32 v33 v34 v35 v36 v37 (nI ol)), (v9, .inl (cA 0, 700, .inl fb))] H := ⟨hP, hD⟩
                have loop7 : ∀ (n7 i7 : Nat) (u1_19_7 : Int32) (H : Heap) (locs : List Loc) (ls : Array Slot), i7 + n7 = tb → ta ≤ i7 → Dq fb ta i7 u1_19_7 → va_P D vwCl [(v13, .inl (cA 1, 15, .inr (.inl fkw))), (oX10 w0 v0 v1 v2 v3 v4 g5 g6 (nI ed) g8 v9 (nI nb) g11 g12 v13 (nI ln) (nI ta) (nI i7) g17 (-1) u1_19_7 g20 g21 g22 g23 g24 0 g26 v27 v28 v29 v30 v31 v32 v33 v34 v35 v36 v37 (nI ol)), (v9, .inl (cA 0, 700, .inl fb))] H → va_D A [(v13, .inl (cA 1, 15, .inr (.inl fkw))), (oX10 w0 v0 v1 v2 v3 v4 g5 g6 (nI ed) g8 v9 (nI nb) g11 g12 v13 (nI ln) (nI ta) (nI i7) g17 (-1) u1_19_7 g20 g21 g22 g23 g24 0 g26 v27 v28 v29 v30 v31 v32 v33 v34 v35 v36 v37 (nI ol)), (v9, .inl (cA 0, 700, .inl fb))] → va_S A s.heap H locs → lv_has ls 2 [(1, .int (bta fb ln ta)), (0, .ref w0)] → W p l e (headSpec wsX10_advance ({ frames := 1, cells := 0, slots := 0, locals := 23 } : Room)).room s m ([.ref w0] : List Value).toArray below meth c H locs 0 0 (MQ below (va_Qi (fun (r : Int32) (_ : Unit) => r = 1) (fun (_ : Unit) t => ∃ z17 : Int32, ∃ z18 : Int32, ∃ z19 : Int32, ∃ z25 : Int64, TKR kk vv (fb ta) z17 z18 z19 z25 ∧ Wq D A [(oX10 w0 v0 v1 v2 v3 v4 g5 g6 (nI ed) g8 v9 (nI nb) g11 g12 v13 (nI ln) (nI ta) (nI tb) z17 z18 z19 g20 g21 g22 g23 g24 z25 g26 v27 v28 v29 v30 v31 v32 v33 v34 v35 v36 v37 (nI ol)), (v9, .inl (cA 0, 700, .inl fb)), (v13, .inl (cA 1, 15, .inr (.inl fkw)))] t) A) ([.ref w0] : List Value).toArray s 0 0 A) (F0 m 222 ls []) := by
                  intro n7
                  induction n7 with
                  | zero =>
                    intro i7 u1_19_7 H locs ls hi7 hv0_7 hv1_7 hP hD hS hl
                    obtain rfl : tb = i7 := by omega
                    refine lv_aload_n hx hb dX10_advance_222 rfl (lv_at hl 1 rfl) ?_
                    refine lv_aload_n hx hb dX10_advance_223 rfl (lv_at hl 1 rfl) ?_
                    refine va_get (D := D) (ci := 11) (v := .int (nI tb)) (C := RX10) (T := TX10) (N := 39) hx hb hts inX10 hown hK hP 1 rfl rfl 16 (by decide) (hts (.fieldLink RX10 110 "EscrowDeskModel" "next" "I") (by decide +kernel)) (fun _ h9 => h9) rfl dX10_advance_224 ?_
                    obtain ⟨hPc, hDc, hFc⟩ := PDq.cut (wc := [(oX10 w0 v0 v1 v2 v3 v4 g5 g6 (nI ed) g8 v9 (nI nb) g11 g12 v13 (nI ln) (nI ta) (nI tb) g17 (-1) u1_19_7 g20 g21 g22 g23 g24 0 g26 v27 v28 v29 v30 v31 v32 v33 v34 v35 v36 v37 (nI ol)), (v9, .inl (cA 0, 700, .inl fb))]) hP hD hS hA [1, 2] (by decide) rfl
                    refine va_calli (va_runV (As := [.int (nI tb)]) (rest := []) ⟨hx, hb, hml, hown, hts⟩ (y_byteAt l D cA sa w0 ed nb ol v0 v1 v2 v3 v4 v9 v13 v27 v28 v29 v30 v31 v32 v33 v34 v35 v36 v37 g8 g11 g12 (nI ta) (nI tb) g17 (-1) u1_19_7 g20 g21 g22 g23 g24 g26 g5 g6 0 ln tb fb H.size hln (by omega)) (cwV 1 hts gX10_advance_X10_byteAt rfl rfl rfl (by decide +kernel) ⟨(Nat.le_of_ble_eq_true rfl), (Nat.le_of_ble_eq_true rfl)⟩) ⟨Wd.blind, va_recv hK hPc (ci := 11) (q0 := 0) rfl rfl, fun U hU hW => ⟨rfl, Wd.call hPc hDc hK hC hZ hS hFc U hU hW⟩⟩ rfl rfl hl.1 rfl (lv_room (Nat.le_of_ble_eq_true rfl)) dX10_advance_227 ⟨(Nat.le_of_ble_eq_true rfl), (Nat.le_of_ble_eq_true rfl)⟩) hS (fun q _ h => hFc q h) hFc (fun rn99 u t H1 locs ht hvm hw hB hz1 hk1 hS => ?_)
                    obtain ⟨hP1, hD1⟩ := hB
                    rw [ht] at hP1
                    obtain ⟨hP, hD⟩ := PDq.join (w := [(v13, .inl (cA 1, 15, .inr (.inl fkw))), (oX10 w0 v0 v1 v2 v3 v4 g5 g6 (nI ed) g8 v9 (nI nb) g11 g12 v13 (nI ln) (nI ta) (nI tb) g17 (-1) u1_19_7 g20 g21 g22 g23 g24 0 g26 v27 v28 v29 v30 v31 v32 v33 v34 v35 v36 v37 (nI ol)), (v9, .inl (cA 0, 700, .inl fb))]) 1 hP hD [1, 2] [0] rfl rfl (by decide) (by decide) hk1 hFc hP1 hD1 rfl
                    generalize H1 = H at hP hS ⊢
                    obtain rfl : rn99 = (bta fb ln tb) := hw
                    obtain ⟨hPc, hDc, hFc⟩ := PDq.cut (wc := []) hP hD hS hA [] (by decide) rfl
                    refine va_calli (va_runS (As := [.int (bta fb ln tb)]) (rest := []) ⟨hx, hb, hml, hown, hts⟩ (y_isDigit l D cA sa (bta fb ln tb) H.size) (va_cwS 1 hts gX10_advance_X10_isDigit rfl rfl rfl (by decide +kernel) ⟨(Nat.le_of_ble_eq_true rfl), (Nat.le_of_ble_eq_true rfl)⟩) ⟨Wd.blind, fun U hU hW => ⟨rfl, Wd.call hPc hDc hK hC hZ hS hFc U hU hW⟩⟩ rfl rfl hl.1 rfl (lv_room (Nat.le_of_ble_eq_true rfl)) dX10_advance_230 ⟨(Nat.le_of_ble_eq_true rfl), (Nat.le_of_ble_eq_true rfl)⟩) hS (fun q _ h => hFc q h) hFc (fun rn100 u t H1 locs ht hvm hw hB hz1 hk1 hS => ?_)
                    obtain ⟨hP1, hD1⟩ := hB
                    rw [ht] at hP1
                    obtain ⟨hP, hD⟩ := PDq.join (w := [(v13, .inl (cA 1, 15, .inr (.inl fkw))), (oX10 w0 v0 v1 v2 v3 v4 g5 g6 (nI ed) g8 v9 (nI nb) g11 g12 v13 (nI ln) (nI ta) (nI tb) g17 (-1) u1_19_7 g20 g21 g22 g23 g24 0 g26 v27 v28 v29 v30 v31 v32 v33 v34 v35 v36 v37 (nI ol)), (v9, .inl (cA 0, 700, .inl fb))]) 3 hP hD [] [0, 1, 2] rfl rfl (by decide) (by decide) hk1 hFc hP1 hD1 rfl
                    generalize H1 = H at hP hS ⊢
                    rcases hw with ⟨hr9, hn101⟩ | ⟨hr9, hn101⟩
                    · skip
                      subst hr9
                      exact absurd hn101 (bt_nd ga2)
                    · skip
                      subst hr9
                      refine lv_if_eq (tgt := 292) hx hb dX10_advance_233 (by decide) (fun c102 => ?_) (fun c9 => absurd c9 (by decide))
                      refine lv_aload_n hx hb dX10_advance_292 rfl (lv_at hl 1 rfl) ?_
                      refine lv_aload_n hx hb dX10_advance_293 rfl (lv_at hl 1 rfl) ?_
                      refine va_get (D := D) (ci := 11) (v := .int (nI tb)) (C := RX10) (T := TX10) (N := 39) hx hb hts inX10 hown hK hP 1 rfl rfl 16 (by decide) (hts (.fieldLink RX10 110 "EscrowDeskModel" "next" "I") (by decide +kernel)) (fun _ h9 => h9) rfl dX10_advance_294 ?_
                      refine lv_aload_n hx hb dX10_advance_297 rfl (lv_at hl 1 rfl) ?_
                      refine va_get (D := D) (ci := 11) (v := .int (nI ta)) (C := RX10) (T := TX10) (N := 39) hx hb hts inX10 hown hK hP 1 rfl rfl 15 (by decide) (hts (.fieldLink RX10 117 "EscrowDeskModel" "start" "I") (by decide +kernel)) (fun _ h9 => h9) rfl dX10_advance_298 ?_
                      refine lv_isub hx hb dX10_advance_301 ?_
                      refine lv_topi (fun yn103 eyn103 => ?_)
                      obtain rfl : yn103 = (nI (tb - ta)) := eyn103.trans (nI_sub (a := tb) (b := ta) (by omega))
                      refine lv_iconst (v := 5) hx hb dX10_advance_302 (by decide) ?_
                      refine lv_icmp_le (tgt := 310) hx hb dX10_advance_303 (by decide) (fun c104 => ?_) (fun c9 => absurd (nI_le (a := (tb - ta)) (b := 5) (show (tb - ta) ≤ 5 by omega) (by omega)) c9)
                      refine lv_iconst (v := 3) hx hb dX10_advance_310 (by decide) ?_
                      refine va_put (D := D) (ci := 11) (v := .int 3) (ty := .int) (C := RX10) (T := TX10) (N := 39) hx hb hts inX10 tyX10 tyX10_ok nmX10 hown hK hP hD hS 1 rfl rfl 17 (by decide) (hts (.fieldLink RX10 126 "EscrowDeskModel" "token" "I") (by decide +kernel)) (fun _ h9 => h9) rfl (by decide +kernel) rfl rfl (Nat.le_of_ble_eq_true rfl) dX10_advance_311 (fun H locs hP hD hS => ?_)
                      obtain ⟨hP, hD⟩ : PDq D A [(v13, .inl (cA 1, 15, .inr (.inl fkw))), (oX10 w0 v0 v1 v2 v3 v4 g5 g6 (nI ed) g8 v9 (nI nb) g11 g12 v13 (nI ln) (nI ta) (nI tb) 3 (-1) u1_19_7 g20 g21 g22 g23 g24 0 g26 v27 v28 v29 v30 v31 v32 v33 v34 v35 v36 v37 (nI ol)), (v9, .inl (cA 0, 700, .inl fb))] H := ⟨hP, hD⟩
                      refine lv_goto (tgt := 354) hx hb dX10_advance_314 (by decide) ?_
                      refine lv_iconst (v := 1) hx hb dX10_advance_354 (by decide) ?_
                      obtain ⟨hP9, hD9⟩ := PDq.sub (ws' := [(oX10 w0 v0 v1 v2 v3 v4 g5 g6 (nI ed) g8 v9 (nI nb) g11 g12 v13 (nI ln) (nI ta) (nI tb) 3 (-1) u1_19_7 g20 g21 g22 g23 g24 0 g26 v27 v28 v29 v30 v31 v32 v33 v34 v35 v36 v37 (nI ol)), (v9, .inl (cA 0, 700, .inl fb)), (v13, .inl (cA 1, 15, .inr (.inl fkw)))]) hP hD [1, 2, 0] (by decide) rfl
                      refine W.widen (k := 0) (n := 0) (Nat.le_of_ble_eq_true rfl) (Nat.le_of_ble_eq_true rfl) ?_
                      exact (W.zret (v := 1) hx hb hr (by first | rfl | decide) (fun t ht hW => ⟨⟨1, (), rfl, rfl, 3, (-1), u1_19_7, 0, (Dq.num hv1_7 (by omega) ga4 (by rw [ge9, ga5, kwm_not _ (by decide)])), by rw [ht]; exact hP9, hD9⟩, hS.F ht⟩) hS.2.2 dX10_advance_355)
                  | succ n7 ih7 =>
                    intro i7 u1_19_7 H locs ls hi7 hv0_7 hv1_7 hP hD hS hl
                    refine lv_aload_n hx hb dX10_advance_222 rfl (lv_at hl 1 rfl) ?_
                    refine lv_aload_n hx hb dX10_advance_223 rfl (lv_at hl 1 rfl) ?_
                    refine va_get (D := D) (ci := 11) (v := .int (nI i7)) (C := RX10) (T := TX10) (N := 39) hx hb hts inX10 hown hK hP 1 rfl rfl 16 (by decide) (hts (.fieldLink RX10 110 "EscrowDeskModel" "next" "I") (by decide +kernel)) (fun _ h9 => h9) rfl dX10_advance_224 ?_
                    obtain ⟨hPc, hDc, hFc⟩ := PDq.cut (wc := [(oX10 w0 v0 v1 v2 v3 v4 g5 g6 (nI ed) g8 v9 (nI nb) g11 g12 v13 (nI ln) (nI ta) (nI i7) g17 (-1) u1_19_7 g20 g21 g22 g23 g24 0 g26 v27 v28 v29 v30 v31 v32 v33 v34 v35 v36 v37 (nI ol)), (v9, .inl (cA 0, 700, .inl fb))]) hP hD hS hA [1, 2] (by decide) rfl
                    refine va_calli (va_runV (As := [.int (nI i7)]) (rest := []) ⟨hx, hb, hml, hown, hts⟩ (y_byteAt l D cA sa w0 ed nb ol v0 v1 v2 v3 v4 v9 v13 v27 v28 v29 v30 v31 v32 v33 v34 v35 v36 v37 g8 g11 g12 (nI ta) (nI i7) g17 (-1) u1_19_7 g20 g21 g22 g23 g24 g26 g5 g6 0 ln i7 fb H.size hln (by omega)) (cwV 1 hts gX10_advance_X10_byteAt rfl rfl rfl (by decide +kernel) ⟨(Nat.le_of_ble_eq_true rfl), (Nat.le_of_ble_eq_true rfl)⟩) ⟨Wd.blind, va_recv hK hPc (ci := 11) (q0 := 0) rfl rfl, fun U hU hW => ⟨rfl, Wd.call hPc hDc hK hC hZ hS hFc U hU hW⟩⟩ rfl rfl hl.1 rfl (lv_room (Nat.le_of_ble_eq_true rfl)) dX10_advance_227 ⟨(Nat.le_of_ble_eq_true rfl), (Nat.le_of_ble_eq_true rfl)⟩) hS (fun q _ h => hFc q h) hFc (fun rn105 u t H1 locs ht hvm hw hB hz1 hk1 hS => ?_)
                    obtain ⟨hP1, hD1⟩ := hB
                    rw [ht] at hP1
                    obtain ⟨hP, hD⟩ := PDq.join (w := [(v13, .inl (cA 1, 15, .inr (.inl fkw))), (oX10 w0 v0 v1 v2 v3 v4 g5 g6 (nI ed) g8 v9 (nI nb) g11 g12 v13 (nI ln) (nI ta) (nI i7) g17 (-1) u1_19_7 g20 g21 g22 g23 g24 0 g26 v27 v28 v29 v30 v31 v32 v33 v34 v35 v36 v37 (nI ol)), (v9, .inl (cA 0, 700, .inl fb))]) 1 hP hD [1, 2] [0] rfl rfl (by decide) (by decide) hk1 hFc hP1 hD1 rfl
                    generalize H1 = H at hP hS ⊢
                    obtain rfl : rn105 = (bta fb ln i7) := hw
                    obtain ⟨hPc, hDc, hFc⟩ := PDq.cut (wc := []) hP hD hS hA [] (by decide) rfl
                    refine va_calli (va_runS (As := [.int (bta fb ln i7)]) (rest := []) ⟨hx, hb, hml, hown, hts⟩ (y_isDigit l D cA sa (bta fb ln i7) H.size) (va_cwS 1 hts gX10_advance_X10_isDigit rfl rfl rfl (by decide +kernel) ⟨(Nat.le_of_ble_eq_true rfl), (Nat.le_of_ble_eq_true rfl)⟩) ⟨Wd.blind, fun U hU hW => ⟨rfl, Wd.call hPc hDc hK hC hZ hS hFc U hU hW⟩⟩ rfl rfl hl.1 rfl (lv_room (Nat.le_of_ble_eq_true rfl)) dX10_advance_230 ⟨(Nat.le_of_ble_eq_true rfl), (Nat.le_of_ble_eq_true rfl)⟩) hS (fun q _ h => hFc q h) hFc (fun rn106 u t H1 locs ht hvm hw hB hz1 hk1 hS => ?_)
                    obtain ⟨hP1, hD1⟩ := hB
                    rw [ht] at hP1
                    obtain ⟨hP, hD⟩ := PDq.join (w := [(v13, .inl (cA 1, 15, .inr (.inl fkw))), (oX10 w0 v0 v1 v2 v3 v4 g5 g6 (nI ed) g8 v9 (nI nb) g11 g12 v13 (nI ln) (nI ta) (nI i7) g17 (-1) u1_19_7 g20 g21 g22 g23 g24 0 g26 v27 v28 v29 v30 v31 v32 v33 v34 v35 v36 v37 (nI ol)), (v9, .inl (cA 0, 700, .inl fb))]) 3 hP hD [] [0, 1, 2] rfl rfl (by decide) (by decide) hk1 hFc hP1 hD1 rfl
                    generalize H1 = H at hP hS ⊢
                    rcases hw with ⟨hr9, hn107⟩ | ⟨hr9, hn107⟩
                    · skip
                      subst hr9
                      refine lv_if_eq (tgt := 292) hx hb dX10_advance_233 (by decide) (fun c9 => absurd c9 (by decide)) (fun c108 => ?_)
                      refine lv_aload_n hx hb dX10_advance_236 rfl (lv_at hl 1 rfl) ?_
                      refine lv_aload_n hx hb dX10_advance_237 rfl (lv_at hl 1 rfl) ?_
                      refine va_get (D := D) (ci := 11) (v := .int (nI i7)) (C := RX10) (T := TX10) (N := 39) hx hb hts inX10 hown hK hP 1 rfl rfl 16 (by decide) (hts (.fieldLink RX10 110 "EscrowDeskModel" "next" "I") (by decide +kernel)) (fun _ h9 => h9) rfl dX10_advance_238 ?_
                      refine lv_aload_n hx hb dX10_advance_241 rfl (lv_at hl 1 rfl) ?_
                      refine va_get (D := D) (ci := 11) (v := .int (nI ta)) (C := RX10) (T := TX10) (N := 39) hx hb hts inX10 hown hK hP 1 rfl rfl 15 (by decide) (hts (.fieldLink RX10 117 "EscrowDeskModel" "start" "I") (by decide +kernel)) (fun _ h9 => h9) rfl dX10_advance_242 ?_
                      refine lv_isub hx hb dX10_advance_245 ?_
                      refine lv_topi (fun yn109 eyn109 => ?_)
                      obtain rfl : yn109 = (nI (i7 - ta)) := eyn109.trans (nI_sub (a := i7) (b := ta) (by omega))
                      refine lv_iconst (v := 5) hx hb dX10_advance_246 (by decide) ?_
                      refine lv_icmp_ge (tgt := 272) hx hb dX10_advance_247 (by decide) (fun c110 => ?_) (fun c110 => ?_)
                      · skip
                        have hn111 : 5 ≤ (i7 - ta) := (nI_leI (a := 5) (b := (i7 - ta)) (by omega) (by omega)).mp c110
                        refine lv_aload_n hx hb dX10_advance_272 rfl (lv_at hl 1 rfl) ?_
                        refine va_get (D := D) (ci := 11) (v := .int u1_19_7) (C := RX10) (T := TX10) (N := 39) hx hb hts inX10 hown hK hP 1 rfl rfl 19 (by decide) (hts (.fieldLink RX10 140 "EscrowDeskModel" "value" "I") (by decide +kernel)) (fun _ h9 => h9) rfl dX10_advance_273 ?_
                        refine va_put (D := D) (ci := 11) (v := .int u1_19_7) (ty := .int) (C := RX10) (T := TX10) (N := 39) hx hb hts inX10 tyX10 tyX10_ok nmX10 hown hK hP hD hS 1 rfl rfl 19 (by decide) (hts (.fieldLink RX10 140 "EscrowDeskModel" "value" "I") (by decide +kernel)) (fun _ h9 => h9) rfl (by decide +kernel) rfl rfl (Nat.le_of_ble_eq_true rfl) dX10_advance_276 (fun H locs hP hD hS => ?_)
                        obtain ⟨hP, hD⟩ : PDq D A [(v13, .inl (cA 1, 15, .inr (.inl fkw))), (oX10 w0 v0 v1 v2 v3 v4 g5 g6 (nI ed) g8 v9 (nI nb) g11 g12 v13 (nI ln) (nI ta) (nI i7) g17 (-1) u1_19_7 g20 g21 g22 g23 g24 0 g26 v27 v28 v29 v30 v31 v32 v33 v34 v35 v36 v37 (nI ol)), (v9, .inl (cA 0, 700, .inl fb))] H := ⟨hP, hD⟩
                        refine lv_aload_n hx hb dX10_advance_279 rfl (lv_at hl 1 rfl) ?_
                        refine lv_dup hx hb dX10_advance_280 rfl ?_
                        refine va_get (D := D) (ci := 11) (v := .int (nI i7)) (C := RX10) (T := TX10) (N := 39) hx hb hts inX10 hown hK hP 1 rfl rfl 16 (by decide) (hts (.fieldLink RX10 110 "EscrowDeskModel" "next" "I") (by decide +kernel)) (fun _ h9 => h9) rfl dX10_advance_281 ?_
                        refine lv_iconst (v := 1) hx hb dX10_advance_284 (by decide) ?_
                        refine lv_iadd hx hb dX10_advance_285 ?_
                        refine lv_topi (fun yn112 eyn112 => ?_)
                        obtain rfl : yn112 = (nI (i7 + 1)) := eyn112.trans (nI_add i7 1)
                        refine va_put (D := D) (ci := 11) (v := .int (nI (i7 + 1))) (ty := .int) (C := RX10) (T := TX10) (N := 39) hx hb hts inX10 tyX10 tyX10_ok nmX10 hown hK hP hD hS 1 rfl rfl 16 (by decide) (hts (.fieldLink RX10 110 "EscrowDeskModel" "next" "I") (by decide +kernel)) (fun _ h9 => h9) rfl (by decide +kernel) rfl rfl (Nat.le_of_ble_eq_true rfl) dX10_advance_286 (fun H locs hP hD hS => ?_)
                        obtain ⟨hP, hD⟩ : PDq D A [(v13, .inl (cA 1, 15, .inr (.inl fkw))), (oX10 w0 v0 v1 v2 v3 v4 g5 g6 (nI ed) g8 v9 (nI nb) g11 g12 v13 (nI ln) (nI ta) (nI (i7 + 1)) g17 (-1) u1_19_7 g20 g21 g22 g23 g24 0 g26 v27 v28 v29 v30 v31 v32 v33 v34 v35 v36 v37 (nI ol)), (v9, .inl (cA 0, 700, .inl fb))] H := ⟨hP, hD⟩
                        refine lv_goto (tgt := 222) hx hb dX10_advance_289 (by decide) ?_
                        obtain ⟨hP9, hD9⟩ := PDq.sub (ws' := [(v13, .inl (cA 1, 15, .inr (.inl fkw))), (oX10 w0 v0 v1 v2 v3 v4 g5 g6 (nI ed) g8 v9 (nI nb) g11 g12 v13 (nI ln) (nI ta) (nI (i7 + 1)) g17 (-1) u1_19_7 g20 g21 g22 g23 g24 0 g26 v27 v28 v29 v30 v31 v32 v33 v34 v35 v36 v37 (nI ol)), (v9, .inl (cA 0, 700, .inl fb))]) hP hD [0, 1, 2] (by decide) rfl
                        exact ih7 (i7 + 1) u1_19_7 H _ ls (by omega) (by omega) (Dq.far (by omega)) hP9 hD9 hS (lv_sub hl [0, 1] rfl)
                      · skip
                        have hn113 : (i7 - ta) < 5 := Nat.lt_of_not_le (fun h9 => c110 (nI_le (a := 5) (b := (i7 - ta)) h9 (by omega)))
                        refine lv_bipush (v := 10) hx hb dX10_advance_250 (by decide) ?_
                        refine lv_aload_n hx hb dX10_advance_252 rfl (lv_at hl 1 rfl) ?_
                        refine va_get (D := D) (ci := 11) (v := .int u1_19_7) (C := RX10) (T := TX10) (N := 39) hx hb hts inX10 hown hK hP 1 rfl rfl 19 (by decide) (hts (.fieldLink RX10 140 "EscrowDeskModel" "value" "I") (by decide +kernel)) (fun _ h9 => h9) rfl dX10_advance_253 ?_
                        refine lv_imul hx hb dX10_advance_256 ?_
                        refine lv_topi (fun yn114 eyn114 => ?_)
                        refine lv_aload_n hx hb dX10_advance_257 rfl (lv_at hl 1 rfl) ?_
                        refine lv_aload_n hx hb dX10_advance_258 rfl (lv_at hl 1 rfl) ?_
                        refine va_get (D := D) (ci := 11) (v := .int (nI i7)) (C := RX10) (T := TX10) (N := 39) hx hb hts inX10 hown hK hP 1 rfl rfl 16 (by decide) (hts (.fieldLink RX10 110 "EscrowDeskModel" "next" "I") (by decide +kernel)) (fun _ h9 => h9) rfl dX10_advance_259 ?_
                        obtain ⟨hPc, hDc, hFc⟩ := PDq.cut (wc := [(oX10 w0 v0 v1 v2 v3 v4 g5 g6 (nI ed) g8 v9 (nI nb) g11 g12 v13 (nI ln) (nI ta) (nI i7) g17 (-1) u1_19_7 g20 g21 g22 g23 g24 0 g26 v27 v28 v29 v30 v31 v32 v33 v34 v35 v36 v37 (nI ol)), (v9, .inl (cA 0, 700, .inl fb))]) hP hD hS hA [1, 2] (by decide) rfl
                        refine va_calli (va_runV (As := [.int (nI i7)]) (rest := [.int yn114, .ref w0]) ⟨hx, hb, hml, hown, hts⟩ (y_byteAt l D cA sa w0 ed nb ol v0 v1 v2 v3 v4 v9 v13 v27 v28 v29 v30 v31 v32 v33 v34 v35 v36 v37 g8 g11 g12 (nI ta) (nI i7) g17 (-1) u1_19_7 g20 g21 g22 g23 g24 g26 g5 g6 0 ln i7 fb H.size hln (by omega)) (cwV 1 hts gX10_advance_X10_byteAt rfl rfl rfl (by decide +kernel) ⟨(Nat.le_of_ble_eq_true rfl), (Nat.le_of_ble_eq_true rfl)⟩) ⟨Wd.blind, va_recv hK hPc (ci := 11) (q0 := 0) rfl rfl, fun U hU hW => ⟨rfl, Wd.call hPc hDc hK hC hZ hS hFc U hU hW⟩⟩ rfl rfl hl.1 rfl (lv_room (Nat.le_of_ble_eq_true rfl)) dX10_advance_262 ⟨(Nat.le_of_ble_eq_true rfl), (Nat.le_of_ble_eq_true rfl)⟩) hS (fun q _ h => hFc q h) hFc (fun rn115 u t H1 locs ht hvm hw hB hz1 hk1 hS => ?_)
                        obtain ⟨hP1, hD1⟩ := hB
                        rw [ht] at hP1
                        obtain ⟨hP, hD⟩ := PDq.join (w := [(v13, .inl (cA 1, 15, .inr (.inl fkw))), (oX10 w0 v0 v1 v2 v3 v4 g5 g6 (nI ed) g8 v9 (nI nb) g11 g12 v13 (nI ln) (nI ta) (nI i7) g17 (-1) u1_19_7 g20 g21 g22 g23 g24 0 g26 v27 v28 v29 v30 v31 v32 v33 v34 v35 v36 v37 (nI ol)), (v9, .inl (cA 0, 700, .inl fb))]) 1 hP hD [1, 2] [0] rfl rfl (by decide) (by decide) hk1 hFc hP1 hD1 rfl
                        generalize H1 = H at hP hS ⊢
                        obtain rfl : rn115 = (bta fb ln i7) := hw
                        refine lv_iadd hx hb dX10_advance_265 ?_
                        refine lv_topi (fun yn116 eyn116 => ?_)
                        refine lv_bipush (v := 48) hx hb dX10_advance_266 (by decide) ?_
                        refine lv_isub hx hb dX10_advance_268 ?_
                        refine lv_topi (fun yn117 eyn117 => ?_)
                        refine lv_goto (tgt := 276) hx hb dX10_advance_269 (by decide) ?_
                        refine va_put (D := D) (ci := 11) (v := .int yn117) (ty := .int) (C := RX10) (T := TX10) (N := 39) hx hb hts inX10 tyX10 tyX10_ok nmX10 hown hK hP hD hS 1 rfl rfl 19 (by decide) (hts (.fieldLink RX10 140 "EscrowDeskModel" "value" "I") (by decide +kernel)) (fun _ h9 => h9) rfl (by decide +kernel) rfl rfl (Nat.le_of_ble_eq_true rfl) dX10_advance_276 (fun H locs hP hD hS => ?_)
                        obtain ⟨hP, hD⟩ : PDq D A [(v13, .inl (cA 1, 15, .inr (.inl fkw))), (oX10 w0 v0 v1 v2 v3 v4 g5 g6 (nI ed) g8 v9 (nI nb) g11 g12 v13 (nI ln) (nI ta) (nI i7) g17 (-1) yn117 g20 g21 g22 g23 g24 0 g26 v27 v28 v29 v30 v31 v32 v33 v34 v35 v36 v37 (nI ol)), (v9, .inl (cA 0, 700, .inl fb))] H := ⟨hP, hD⟩
                        refine lv_aload_n hx hb dX10_advance_279 rfl (lv_at hl 1 rfl) ?_
                        refine lv_dup hx hb dX10_advance_280 rfl ?_
                        refine va_get (D := D) (ci := 11) (v := .int (nI i7)) (C := RX10) (T := TX10) (N := 39) hx hb hts inX10 hown hK hP 1 rfl rfl 16 (by decide) (hts (.fieldLink RX10 110 "EscrowDeskModel" "next" "I") (by decide +kernel)) (fun _ h9 => h9) rfl dX10_advance_281 ?_
                        refine lv_iconst (v := 1) hx hb dX10_advance_284 (by decide) ?_
                        refine lv_iadd hx hb dX10_advance_285 ?_
                        refine lv_topi (fun yn118 eyn118 => ?_)
                        obtain rfl : yn118 = (nI (i7 + 1)) := eyn118.trans (nI_add i7 1)
                        refine va_put (D := D) (ci := 11) (v := .int (nI (i7 + 1))) (ty := .int) (C := RX10) (T := TX10) (N := 39) hx hb hts inX10 tyX10 tyX10_ok nmX10 hown hK hP hD hS 1 rfl rfl 16 (by decide) (hts (.fieldLink RX10 110 "EscrowDeskModel" "next" "I") (by decide +kernel)) (fun _ h9 => h9) rfl (by decide +kernel) rfl rfl (Nat.le_of_ble_eq_true rfl) dX10_advance_286 (fun H locs hP hD hS => ?_)
                        obtain ⟨hP, hD⟩ : PDq D A [(v13, .inl (cA 1, 15, .inr (.inl fkw))), (oX10 w0 v0 v1 v2 v3 v4 g5 g6 (nI ed) g8 v9 (nI nb) g11 g12 v13 (nI ln) (nI ta) (nI (i7 + 1)) g17 (-1) yn117 g20 g21 g22 g23 g24 0 g26 v27 v28 v29 v30 v31 v32 v33 v34 v35 v36 v37 (nI ol)), (v9, .inl (cA 0, 700, .inl fb))] H := ⟨hP, hD⟩
                        refine lv_goto (tgt := 222) hx hb dX10_advance_289 (by decide) ?_
                        obtain ⟨hP9, hD9⟩ := PDq.sub (ws' := [(v13, .inl (cA 1, 15, .inr (.inl fkw))), (oX10 w0 v0 v1 v2 v3 v4 g5 g6 (nI ed) g8 v9 (nI nb) g11 g12 v13 (nI ln) (nI ta) (nI (i7 + 1)) g17 (-1) yn117 g20 g21 g22 g23 g24 0 g26 v27 v28 v29 v30 v31 v32 v33 v34 v35 v36 v37 (nI ol)), (v9, .inl (cA 0, 700, .inl fb))]) hP hD [0, 1, 2] (by decide) rfl
                        exact ih7 (i7 + 1) yn117 H _ ls (by omega) (by omega) (Dq.step hv1_7 (by omega) (show i7 < ln by omega) (ga1 i7 (by omega) (by omega)) eyn114 eyn116 eyn117) hP9 hD9 hS (lv_sub hl [0, 1] rfl)
                    · skip
                      subst hr9
                      exact absurd (by rw [bt_in (show i7 < ln by omega)]; exact ckd_3.mp (ga1 i7 (by omega) (by omega))) hn107
                obtain ⟨hP9, hD9⟩ := PDq.sub (ws' := [(v13, .inl (cA 1, 15, .inr (.inl fkw))), (oX10 w0 v0 v1 v2 v3 v4 g5 g6 (nI ed) g8 v9 (nI nb) g11 g12 v13 (nI ln) (nI ta) (nI ta) g17 (-1) 0 g20 g21 g22 g23 g24 0 g26 v27 v28 v29 v30 v31 v32 v33 v34 v35 v36 v37 (nI ol)), (v9, .inl (cA 0, 700, .inl fb))]) hP hD [0, 1, 2] (by decide) rfl
                exact loop7 (tb - ta) ta 0 _ _ ls (by omega) (by omega) (Dq.zero fb ta) hP9 hD9 hS (lv_sub hl [0, 1] rfl)
              · skip
                subst hr9
                exact absurd (by rw [bt_in (show ta < ln by omega)]; exact ckd_3.mp hc0) hn97
          · skip
            rw [bt_in (show ta < ln by omega)] at c90
            rw [c90] at hc0
            exact absurd hc0 (by decide)
      | succ n6 ih6 =>
        intro i6 H locs ls hi6 hv0_6 hP hD hS hl
        refine lv_aload_n hx hb dX10_advance_0 rfl (lv_at hl 0 rfl) ?_
        refine lv_aload_n hx hb dX10_advance_1 rfl (lv_at hl 0 rfl) ?_
        refine va_get (D := D) (ci := 11) (v := .int (nI i6)) (C := RX10) (T := TX10) (N := 39) hx hb hts inX10 hown hK hP 0 rfl rfl 16 (by decide) (hts (.fieldLink RX10 110 "EscrowDeskModel" "next" "I") (by decide +kernel)) (fun _ h9 => h9) rfl dX10_advance_2 ?_
        obtain ⟨hPc, hDc, hFc⟩ := PDq.cut (wc := [(oX10 w0 v0 v1 v2 v3 v4 g5 g6 (nI ed) g8 v9 (nI nb) g11 g12 v13 (nI ln) g15 (nI i6) g17 g18 g19 g20 g21 g22 g23 g24 g25 g26 v27 v28 v29 v30 v31 v32 v33 v34 v35 v36 v37 (nI ol)), (v9, .inl (cA 0, 700, .inl fb))]) hP hD hS hA [0, 1] (by decide) rfl
        refine va_calli (va_runV (As := [.int (nI i6)]) (rest := []) ⟨hx, hb, hml, hown, hts⟩ (y_byteAt l D cA sa w0 ed nb ol v0 v1 v2 v3 v4 v9 v13 v27 v28 v29 v30 v31 v32 v33 v34 v35 v36 v37 g8 g11 g12 g15 (nI i6) g17 g18 g19 g20 g21 g22 g23 g24 g26 g5 g6 g25 ln i6 fb H.size hln (by omega)) (cwV 1 hts gX10_advance_X10_byteAt rfl rfl rfl (by decide +kernel) ⟨(Nat.le_of_ble_eq_true rfl), (Nat.le_of_ble_eq_true rfl)⟩) ⟨Wd.blind, va_recv hK hPc (ci := 11) (q0 := 0) rfl rfl, fun U hU hW => ⟨rfl, Wd.call hPc hDc hK hC hZ hS hFc U hU hW⟩⟩ rfl rfl hl.1 rfl (lv_room (Nat.le_of_ble_eq_true rfl)) dX10_advance_5 ⟨(Nat.le_of_ble_eq_true rfl), (Nat.le_of_ble_eq_true rfl)⟩) hS (fun q _ h => hFc q h) hFc (fun rn119 u t H1 locs ht hvm hw hB hz1 hk1 hS => ?_)
        obtain ⟨hP1, hD1⟩ := hB
        rw [ht] at hP1
        obtain ⟨hP, hD⟩ := PDq.join (w := [(v13, .inl (cA 1, 15, .inr (.inl fkw))), (oX10 w0 v0 v1 v2 v3 v4 g5 g6 (nI ed) g8 v9 (nI nb) g11 g12 v13 (nI ln) g15 (nI i6) g17 g18 g19 g20 g21 g22 g23 g24 g25 g26 v27 v28 v29 v30 v31 v32 v33 v34 v35 v36 v37 (nI ol)), (v9, .inl (cA 0, 700, .inl fb))]) 1 hP hD [0, 1] [2] rfl rfl (by decide) (by decide) hk1 hFc hP1 hD1 rfl
        generalize H1 = H at hP hS ⊢
        obtain rfl : rn119 = (bta fb ln i6) := hw
        refine lv_bipush (v := 32) hx hb dX10_advance_8 (by decide) ?_
        refine lv_icmp_eq (tgt := 26) hx hb dX10_advance_10 (by decide) (fun c120 => ?_) (fun c120 => ?_)
        · skip
          refine lv_aload_n hx hb dX10_advance_26 rfl (lv_at hl 0 rfl) ?_
          refine lv_dup hx hb dX10_advance_27 rfl ?_
          refine va_get (D := D) (ci := 11) (v := .int (nI i6)) (C := RX10) (T := TX10) (N := 39) hx hb hts inX10 hown hK hP 1 rfl rfl 16 (by decide) (hts (.fieldLink RX10 110 "EscrowDeskModel" "next" "I") (by decide +kernel)) (fun _ h9 => h9) rfl dX10_advance_28 ?_
          refine lv_iconst (v := 1) hx hb dX10_advance_31 (by decide) ?_
          refine lv_iadd hx hb dX10_advance_32 ?_
          refine lv_topi (fun yn121 eyn121 => ?_)
          obtain rfl : yn121 = (nI (i6 + 1)) := eyn121.trans (nI_add i6 1)
          refine va_put (D := D) (ci := 11) (v := .int (nI (i6 + 1))) (ty := .int) (C := RX10) (T := TX10) (N := 39) hx hb hts inX10 tyX10 tyX10_ok nmX10 hown hK hP hD hS 1 rfl rfl 16 (by decide) (hts (.fieldLink RX10 110 "EscrowDeskModel" "next" "I") (by decide +kernel)) (fun _ h9 => h9) rfl (by decide +kernel) rfl rfl (Nat.le_of_ble_eq_true rfl) dX10_advance_33 (fun H locs hP hD hS => ?_)
          obtain ⟨hP, hD⟩ : PDq D A [(v13, .inl (cA 1, 15, .inr (.inl fkw))), (oX10 w0 v0 v1 v2 v3 v4 g5 g6 (nI ed) g8 v9 (nI nb) g11 g12 v13 (nI ln) g15 (nI (i6 + 1)) g17 g18 g19 g20 g21 g22 g23 g24 g25 g26 v27 v28 v29 v30 v31 v32 v33 v34 v35 v36 v37 (nI ol)), (v9, .inl (cA 0, 700, .inl fb))] H := ⟨hP, hD⟩
          refine lv_goto (tgt := 0) hx hb dX10_advance_36 (by decide) ?_
          obtain ⟨hP9, hD9⟩ := PDq.sub (ws' := [(oX10 w0 v0 v1 v2 v3 v4 g5 g6 (nI ed) g8 v9 (nI nb) g11 g12 v13 (nI ln) g15 (nI (i6 + 1)) g17 g18 g19 g20 g21 g22 g23 g24 g25 g26 v27 v28 v29 v30 v31 v32 v33 v34 v35 v36 v37 (nI ol)), (v9, .inl (cA 0, 700, .inl fb)), (v13, .inl (cA 1, 15, .inr (.inl fkw)))]) hP hD [1, 2, 0] (by decide) rfl
          exact ih6 (i6 + 1)  H _ ls (by omega) (by omega) hP9 hD9 hS (lv_sub hl [0] rfl)
        · skip
          refine lv_aload_n hx hb dX10_advance_13 rfl (lv_at hl 0 rfl) ?_
          refine lv_aload_n hx hb dX10_advance_14 rfl (lv_at hl 0 rfl) ?_
          refine va_get (D := D) (ci := 11) (v := .int (nI i6)) (C := RX10) (T := TX10) (N := 39) hx hb hts inX10 hown hK hP 1 rfl rfl 16 (by decide) (hts (.fieldLink RX10 110 "EscrowDeskModel" "next" "I") (by decide +kernel)) (fun _ h9 => h9) rfl dX10_advance_15 ?_
          obtain ⟨hPc, hDc, hFc⟩ := PDq.cut (wc := [(oX10 w0 v0 v1 v2 v3 v4 g5 g6 (nI ed) g8 v9 (nI nb) g11 g12 v13 (nI ln) g15 (nI i6) g17 g18 g19 g20 g21 g22 g23 g24 g25 g26 v27 v28 v29 v30 v31 v32 v33 v34 v35 v36 v37 (nI ol)), (v9, .inl (cA 0, 700, .inl fb))]) hP hD hS hA [1, 2] (by decide) rfl
          refine va_calli (va_runV (As := [.int (nI i6)]) (rest := []) ⟨hx, hb, hml, hown, hts⟩ (y_byteAt l D cA sa w0 ed nb ol v0 v1 v2 v3 v4 v9 v13 v27 v28 v29 v30 v31 v32 v33 v34 v35 v36 v37 g8 g11 g12 g15 (nI i6) g17 g18 g19 g20 g21 g22 g23 g24 g26 g5 g6 g25 ln i6 fb H.size hln (by omega)) (cwV 1 hts gX10_advance_X10_byteAt rfl rfl rfl (by decide +kernel) ⟨(Nat.le_of_ble_eq_true rfl), (Nat.le_of_ble_eq_true rfl)⟩) ⟨Wd.blind, va_recv hK hPc (ci := 11) (q0 := 0) rfl rfl, fun U hU hW => ⟨rfl, Wd.call hPc hDc hK hC hZ hS hFc U hU hW⟩⟩ rfl rfl hl.1 rfl (lv_room (Nat.le_of_ble_eq_true rfl)) dX10_advance_18 ⟨(Nat.le_of_ble_eq_true rfl), (Nat.le_of_ble_eq_true rfl)⟩) hS (fun q _ h => hFc q h) hFc (fun rn122 u t H1 locs ht hvm hw hB hz1 hk1 hS => ?_)
          obtain ⟨hP1, hD1⟩ := hB
          rw [ht] at hP1
          obtain ⟨hP, hD⟩ := PDq.join (w := [(v13, .inl (cA 1, 15, .inr (.inl fkw))), (oX10 w0 v0 v1 v2 v3 v4 g5 g6 (nI ed) g8 v9 (nI nb) g11 g12 v13 (nI ln) g15 (nI i6) g17 g18 g19 g20 g21 g22 g23 g24 g25 g26 v27 v28 v29 v30 v31 v32 v33 v34 v35 v36 v37 (nI ol)), (v9, .inl (cA 0, 700, .inl fb))]) 1 hP hD [1, 2] [0] rfl rfl (by decide) (by decide) hk1 hFc hP1 hD1 rfl
          generalize H1 = H at hP hS ⊢
          obtain rfl : rn122 = (bta fb ln i6) := hw
          refine lv_bipush (v := 10) hx hb dX10_advance_21 (by decide) ?_
          refine lv_icmp_ne (tgt := 39) hx hb dX10_advance_23 (by decide) (fun c123 => ?_) (fun c123 => ?_)
          · skip
            rw [bt_in (show i6 < ln by omega)] at c120 c123
            exact absurd (tn3 i6 (by omega) (by omega)) (ckd_n0 c120 c123)
          · skip
            refine lv_aload_n hx hb dX10_advance_26 rfl (lv_at hl 0 rfl) ?_
            refine lv_dup hx hb dX10_advance_27 rfl ?_
            refine va_get (D := D) (ci := 11) (v := .int (nI i6)) (C := RX10) (T := TX10) (N := 39) hx hb hts inX10 hown hK hP 1 rfl rfl 16 (by decide) (hts (.fieldLink RX10 110 "EscrowDeskModel" "next" "I") (by decide +kernel)) (fun _ h9 => h9) rfl dX10_advance_28 ?_
            refine lv_iconst (v := 1) hx hb dX10_advance_31 (by decide) ?_
            refine lv_iadd hx hb dX10_advance_32 ?_
            refine lv_topi (fun yn124 eyn124 => ?_)
            obtain rfl : yn124 = (nI (i6 + 1)) := eyn124.trans (nI_add i6 1)
            refine va_put (D := D) (ci := 11) (v := .int (nI (i6 + 1))) (ty := .int) (C := RX10) (T := TX10) (N := 39) hx hb hts inX10 tyX10 tyX10_ok nmX10 hown hK hP hD hS 1 rfl rfl 16 (by decide) (hts (.fieldLink RX10 110 "EscrowDeskModel" "next" "I") (by decide +kernel)) (fun _ h9 => h9) rfl (by decide +kernel) rfl rfl (Nat.le_of_ble_eq_true rfl) dX10_advance_33 (fun H locs hP hD hS => ?_)
            obtain ⟨hP, hD⟩ : PDq D A [(v13, .inl (cA 1, 15, .inr (.inl fkw))), (oX10 w0 v0 v1 v2 v3 v4 g5 g6 (nI ed) g8 v9 (nI nb) g11 g12 v13 (nI ln) g15 (nI (i6 + 1)) g17 g18 g19 g20 g21 g22 g23 g24 g25 g26 v27 v28 v29 v30 v31 v32 v33 v34 v35 v36 v37 (nI ol)), (v9, .inl (cA 0, 700, .inl fb))] H := ⟨hP, hD⟩
            refine lv_goto (tgt := 0) hx hb dX10_advance_36 (by decide) ?_
            obtain ⟨hP9, hD9⟩ := PDq.sub (ws' := [(oX10 w0 v0 v1 v2 v3 v4 g5 g6 (nI ed) g8 v9 (nI nb) g11 g12 v13 (nI ln) g15 (nI (i6 + 1)) g17 g18 g19 g20 g21 g22 g23 g24 g25 g26 v27 v28 v29 v30 v31 v32 v33 v34 v35 v36 v37 (nI ol)), (v9, .inl (cA 0, 700, .inl fb)), (v13, .inl (cA 1, 15, .inr (.inl fkw)))]) hP hD [1, 2, 0] (by decide) rfl
            exact ih6 (i6 + 1)  H _ ls (by omega) (by omega) hP9 hD9 hS (lv_sub hl [0] rfl)
    obtain ⟨hP9, hD9⟩ := PDq.sub (ws' := [(oX10 w0 v0 v1 v2 v3 v4 g5 g6 (nI ed) g8 v9 (nI nb) g11 g12 v13 (nI ln) g15 (nI nx) g17 g18 g19 g20 g21 g22 g23 g24 g25 g26 v27 v28 v29 v30 v31 v32 v33 v34 v35 v36 v37 (nI ol)), (v9, .inl (cA 0, 700, .inl fb)), (v13, .inl (cA 1, 15, .inr (.inl fkw)))]) hP hD [0, 1, 2] (by decide) rfl
    exact loop6 (ta - nx) nx  _ _ ls (by omega) (by omega) hP9 hD9 hS (lv_sub hl [0] rfl)
  · skip
    have hc0 : ckd (fb ta) = 3 := ga1 ta (Nat.le_refl _) (by omega)
    have hlt : ta ≤ ln := by omega
    have loop8 : ∀ (n8 i8 : Nat) (H : Heap) (locs : List Loc) (ls : Array Slot), i8 + n8 = ta → nx ≤ i8 → va_P D vwCl [(oX10 w0 v0 v1 v2 v3 v4 g5 g6 (nI ed) g8 v9 (nI nb) g11 g12 v13 (nI ln) g15 (nI i8) g17 g18 g19 g20 g21 g22 g23 g24 g25 g26 v27 v28 v29 v30 v31 v32 v33 v34 v35 v36 v37 (nI ol)), (v9, .inl (cA 0, 700, .inl fb)), (v13, .inl (cA 1, 15, .inr (.inl fkw)))] H → va_D A [(oX10 w0 v0 v1 v2 v3 v4 g5 g6 (nI ed) g8 v9 (nI nb) g11 g12 v13 (nI ln) g15 (nI i8) g17 g18 g19 g20 g21 g22 g23 g24 g25 g26 v27 v28 v29 v30 v31 v32 v33 v34 v35 v36 v37 (nI ol)), (v9, .inl (cA 0, 700, .inl fb)), (v13, .inl (cA 1, 15, .inr (.inl fkw)))] → va_S A s.heap H locs → lv_has ls 2 [(0, .ref w0)] → W p l e (headSpec wsX10_advance ({ frames := 1, cells := 0, slots := 0, locals := 23 } : Room)).room s m ([.ref w0] : List Value).toArray below meth c H locs 0 0 (MQ below (va_Qi (fun (r : Int32) (_ : Unit) => r = 1) (fun (_ : Unit) t => ∃ z17 : Int32, ∃ z18 : Int32, ∃ z19 : Int32, ∃ z25 : Int64, TKR kk vv (fb ta) z17 z18 z19 z25 ∧ Wq D A [(oX10 w0 v0 v1 v2 v3 v4 g5 g6 (nI ed) g8 v9 (nI nb) g11 g12 v13 (nI ln) (nI ta) (nI tb) z17 z18 z19 g20 g21 g22 g23 g24 z25 g26 v27 v28 v29 v30 v31 v32 v33 v34 v35 v36 v37 (nI ol)), (v9, .inl (cA 0, 700, .inl fb)), (v13, .inl (cA 1, 15, .inr (.inl fkw)))] t) A) ([.ref w0] : List Value).toArray s 0 0 A) (F0 m 0 ls []) := by
      intro n8
      induction n8 with
      | zero =>
        intro i8 H locs ls hi8 hv0_8 hP hD hS hl
        obtain rfl : ta = i8 := by omega
        refine lv_aload_n hx hb dX10_advance_0 rfl (lv_at hl 0 rfl) ?_
        refine lv_aload_n hx hb dX10_advance_1 rfl (lv_at hl 0 rfl) ?_
        refine va_get (D := D) (ci := 11) (v := .int (nI ta)) (C := RX10) (T := TX10) (N := 39) hx hb hts inX10 hown hK hP 0 rfl rfl 16 (by decide) (hts (.fieldLink RX10 110 "EscrowDeskModel" "next" "I") (by decide +kernel)) (fun _ h9 => h9) rfl dX10_advance_2 ?_
        obtain ⟨hPc, hDc, hFc⟩ := PDq.cut (wc := [(oX10 w0 v0 v1 v2 v3 v4 g5 g6 (nI ed) g8 v9 (nI nb) g11 g12 v13 (nI ln) g15 (nI ta) g17 g18 g19 g20 g21 g22 g23 g24 g25 g26 v27 v28 v29 v30 v31 v32 v33 v34 v35 v36 v37 (nI ol)), (v9, .inl (cA 0, 700, .inl fb))]) hP hD hS hA [0, 1] (by decide) rfl
        refine va_calli (va_runV (As := [.int (nI ta)]) (rest := []) ⟨hx, hb, hml, hown, hts⟩ (y_byteAt l D cA sa w0 ed nb ol v0 v1 v2 v3 v4 v9 v13 v27 v28 v29 v30 v31 v32 v33 v34 v35 v36 v37 g8 g11 g12 g15 (nI ta) g17 g18 g19 g20 g21 g22 g23 g24 g26 g5 g6 g25 ln ta fb H.size hln (by omega)) (cwV 1 hts gX10_advance_X10_byteAt rfl rfl rfl (by decide +kernel) ⟨(Nat.le_of_ble_eq_true rfl), (Nat.le_of_ble_eq_true rfl)⟩) ⟨Wd.blind, va_recv hK hPc (ci := 11) (q0 := 0) rfl rfl, fun U hU hW => ⟨rfl, Wd.call hPc hDc hK hC hZ hS hFc U hU hW⟩⟩ rfl rfl hl.1 rfl (lv_room (Nat.le_of_ble_eq_true rfl)) dX10_advance_5 ⟨(Nat.le_of_ble_eq_true rfl), (Nat.le_of_ble_eq_true rfl)⟩) hS (fun q _ h => hFc q h) hFc (fun rn125 u t H1 locs ht hvm hw hB hz1 hk1 hS => ?_)
        obtain ⟨hP1, hD1⟩ := hB
        rw [ht] at hP1
        obtain ⟨hP, hD⟩ := PDq.join (w := [(v13, .inl (cA 1, 15, .inr (.inl fkw))), (oX10 w0 v0 v1 v2 v3 v4 g5 g6 (nI ed) g8 v9 (nI nb) g11 g12 v13 (nI ln) g15 (nI ta) g17 g18 g19 g20 g21 g22 g23 g24 g25 g26 v27 v28 v29 v30 v31 v32 v33 v34 v35 v36 v37 (nI ol)), (v9, .inl (cA 0, 700, .inl fb))]) 1 hP hD [0, 1] [2] rfl rfl (by decide) (by decide) hk1 hFc hP1 hD1 rfl
        generalize H1 = H at hP hS ⊢
        obtain rfl : rn125 = (bta fb ln ta) := hw
        refine lv_bipush (v := 32) hx hb dX10_advance_8 (by decide) ?_
        refine lv_icmp_eq (tgt := 26) hx hb dX10_advance_10 (by decide) (fun c126 => ?_) (fun c126 => ?_)
        · skip
          rw [bt_in (show ta < ln by omega)] at c126
          rw [c126] at hc0
          exact absurd hc0 (by decide)
        · skip
          refine lv_aload_n hx hb dX10_advance_13 rfl (lv_at hl 0 rfl) ?_
          refine lv_aload_n hx hb dX10_advance_14 rfl (lv_at hl 0 rfl) ?_
          refine va_get (D := D) (ci := 11) (v := .int (nI ta)) (C := RX10) (T := TX10) (N := 39) hx hb hts inX10 hown hK hP 1 rfl rfl 16 (by decide) (hts (.fieldLink RX10 110 "EscrowDeskModel" "next" "I") (by decide +kernel)) (fun _ h9 => h9) rfl dX10_advance_15 ?_
          obtain ⟨hPc, hDc, hFc⟩ := PDq.cut (wc := [(oX10 w0 v0 v1 v2 v3 v4 g5 g6 (nI ed) g8 v9 (nI nb) g11 g12 v13 (nI ln) g15 (nI ta) g17 g18 g19 g20 g21 g22 g23 g24 g25 g26 v27 v28 v29 v30 v31 v32 v33 v34 v35 v36 v37 (nI ol)), (v9, .inl (cA 0, 700, .inl fb))]) hP hD hS hA [1, 2] (by decide) rfl
          refine va_calli (va_runV (As := [.int (nI ta)]) (rest := []) ⟨hx, hb, hml, hown, hts⟩ (y_byteAt l D cA sa w0 ed nb ol v0 v1 v2 v3 v4 v9 v13 v27 v28 v29 v30 v31 v32 v33 v34 v35 v36 v37 g8 g11 g12 g15 (nI ta) g17 g18 g19 g20 g21 g22 g23 g24 g26 g5 g6 g25 ln ta fb H.size hln (by omega)) (cwV 1 hts gX10_advance_X10_byteAt rfl rfl rfl (by decide +kernel) ⟨(Nat.le_of_ble_eq_true rfl), (Nat.le_of_ble_eq_true rfl)⟩) ⟨Wd.blind, va_recv hK hPc (ci := 11) (q0 := 0) rfl rfl, fun U hU hW => ⟨rfl, Wd.call hPc hDc hK hC hZ hS hFc U hU hW⟩⟩ rfl rfl hl.1 rfl (lv_room (Nat.le_of_ble_eq_true rfl)) dX10_advance_18 ⟨(Nat.le_of_ble_eq_true rfl), (Nat.le_of_ble_eq_true rfl)⟩) hS (fun q _ h => hFc q h) hFc (fun rn127 u t H1 locs ht hvm hw hB hz1 hk1 hS => ?_)
          obtain ⟨hP1, hD1⟩ := hB
          rw [ht] at hP1
          obtain ⟨hP, hD⟩ := PDq.join (w := [(v13, .inl (cA 1, 15, .inr (.inl fkw))), (oX10 w0 v0 v1 v2 v3 v4 g5 g6 (nI ed) g8 v9 (nI nb) g11 g12 v13 (nI ln) g15 (nI ta) g17 g18 g19 g20 g21 g22 g23 g24 g25 g26 v27 v28 v29 v30 v31 v32 v33 v34 v35 v36 v37 (nI ol)), (v9, .inl (cA 0, 700, .inl fb))]) 1 hP hD [1, 2] [0] rfl rfl (by decide) (by decide) hk1 hFc hP1 hD1 rfl
          generalize H1 = H at hP hS ⊢
          obtain rfl : rn127 = (bta fb ln ta) := hw
          refine lv_bipush (v := 10) hx hb dX10_advance_21 (by decide) ?_
          refine lv_icmp_ne (tgt := 39) hx hb dX10_advance_23 (by decide) (fun c128 => ?_) (fun c128 => ?_)
          · skip
            refine lv_aload_n hx hb dX10_advance_39 rfl (lv_at hl 0 rfl) ?_
            refine lv_aload_n hx hb dX10_advance_40 rfl (lv_at hl 0 rfl) ?_
            refine va_get (D := D) (ci := 11) (v := .int (nI ta)) (C := RX10) (T := TX10) (N := 39) hx hb hts inX10 hown hK hP 1 rfl rfl 16 (by decide) (hts (.fieldLink RX10 110 "EscrowDeskModel" "next" "I") (by decide +kernel)) (fun _ h9 => h9) rfl dX10_advance_41 ?_
            refine va_put (D := D) (ci := 11) (v := .int (nI ta)) (ty := .int) (C := RX10) (T := TX10) (N := 39) hx hb hts inX10 tyX10 tyX10_ok nmX10 hown hK hP hD hS 1 rfl rfl 15 (by decide) (hts (.fieldLink RX10 117 "EscrowDeskModel" "start" "I") (by decide +kernel)) (fun _ h9 => h9) rfl (by decide +kernel) rfl rfl (Nat.le_of_ble_eq_true rfl) dX10_advance_44 (fun H locs hP hD hS => ?_)
            obtain ⟨hP, hD⟩ : PDq D A [(v13, .inl (cA 1, 15, .inr (.inl fkw))), (oX10 w0 v0 v1 v2 v3 v4 g5 g6 (nI ed) g8 v9 (nI nb) g11 g12 v13 (nI ln) (nI ta) (nI ta) g17 g18 g19 g20 g21 g22 g23 g24 g25 g26 v27 v28 v29 v30 v31 v32 v33 v34 v35 v36 v37 (nI ol)), (v9, .inl (cA 0, 700, .inl fb))] H := ⟨hP, hD⟩
            refine lv_aload_n hx hb dX10_advance_47 rfl (lv_at hl 0 rfl) ?_
            refine lv_iconst (v := (-1)) hx hb dX10_advance_48 (by decide) ?_
            refine va_put (D := D) (ci := 11) (v := .int (-1)) (ty := .int) (C := RX10) (T := TX10) (N := 39) hx hb hts inX10 tyX10 tyX10_ok nmX10 hown hK hP hD hS 1 rfl rfl 18 (by decide) (hts (.fieldLink RX10 120 "EscrowDeskModel" "keyword" "I") (by decide +kernel)) (fun _ h9 => h9) rfl (by decide +kernel) rfl rfl (Nat.le_of_ble_eq_true rfl) dX10_advance_49 (fun H locs hP hD hS => ?_)
            obtain ⟨hP, hD⟩ : PDq D A [(v13, .inl (cA 1, 15, .inr (.inl fkw))), (oX10 w0 v0 v1 v2 v3 v4 g5 g6 (nI ed) g8 v9 (nI nb) g11 g12 v13 (nI ln) (nI ta) (nI ta) g17 (-1) g19 g20 g21 g22 g23 g24 g25 g26 v27 v28 v29 v30 v31 v32 v33 v34 v35 v36 v37 (nI ol)), (v9, .inl (cA 0, 700, .inl fb))] H := ⟨hP, hD⟩
            refine lv_aload_n hx hb dX10_advance_52 rfl (lv_at hl 0 rfl) ?_
            refine lv_lconst (v := 0) hx hb dX10_advance_53 (by decide) ?_
            refine va_put (D := D) (ci := 11) (v := .long 0) (ty := .long) (C := RX10) (T := TX10) (N := 39) hx hb hts inX10 tyX10 tyX10_ok nmX10 hown hK hP hD hS 1 rfl rfl 25 (by decide) (hts (.fieldLink RX10 123 "EscrowDeskModel" "word" "J") (by decide +kernel)) (fun _ h9 => h9) rfl (by decide +kernel) rfl rfl (Nat.le_of_ble_eq_true rfl) dX10_advance_54 (fun H locs hP hD hS => ?_)
            obtain ⟨hP, hD⟩ : PDq D A [(v13, .inl (cA 1, 15, .inr (.inl fkw))), (oX10 w0 v0 v1 v2 v3 v4 g5 g6 (nI ed) g8 v9 (nI nb) g11 g12 v13 (nI ln) (nI ta) (nI ta) g17 (-1) g19 g20 g21 g22 g23 g24 0 g26 v27 v28 v29 v30 v31 v32 v33 v34 v35 v36 v37 (nI ol)), (v9, .inl (cA 0, 700, .inl fb))] H := ⟨hP, hD⟩
            refine lv_aload_n hx hb dX10_advance_57 rfl (lv_at hl 0 rfl) ?_
            refine lv_aload_n hx hb dX10_advance_58 rfl (lv_at hl 0 rfl) ?_
            refine va_get (D := D) (ci := 11) (v := .int (nI ta)) (C := RX10) (T := TX10) (N := 39) hx hb hts inX10 hown hK hP 1 rfl rfl 16 (by decide) (hts (.fieldLink RX10 110 "EscrowDeskModel" "next" "I") (by decide +kernel)) (fun _ h9 => h9) rfl dX10_advance_59 ?_
            obtain ⟨hPc, hDc, hFc⟩ := PDq.cut (wc := [(oX10 w0 v0 v1 v2 v3 v4 g5 g6 (nI ed) g8 v9 (nI nb) g11 g12 v13 (nI ln) (nI ta) (nI ta) g17 (-1) g19 g20 g21 g22 g23 g24 0 g26 v27 v28 v29 v30 v31 v32 v33 v34 v35 v36 v37 (nI ol)), (v9, .inl (cA 0, 700, .inl fb))]) hP hD hS hA [1, 2] (by decide) rfl
            refine va_calli (va_runV (As := [.int (nI ta)]) (rest := []) ⟨hx, hb, hml, hown, hts⟩ (y_byteAt l D cA sa w0 ed nb ol v0 v1 v2 v3 v4 v9 v13 v27 v28 v29 v30 v31 v32 v33 v34 v35 v36 v37 g8 g11 g12 (nI ta) (nI ta) g17 (-1) g19 g20 g21 g22 g23 g24 g26 g5 g6 0 ln ta fb H.size hln (by omega)) (cwV 1 hts gX10_advance_X10_byteAt rfl rfl rfl (by decide +kernel) ⟨(Nat.le_of_ble_eq_true rfl), (Nat.le_of_ble_eq_true rfl)⟩) ⟨Wd.blind, va_recv hK hPc (ci := 11) (q0 := 0) rfl rfl, fun U hU hW => ⟨rfl, Wd.call hPc hDc hK hC hZ hS hFc U hU hW⟩⟩ rfl rfl hl.1 rfl (lv_room (Nat.le_of_ble_eq_true rfl)) dX10_advance_62 ⟨(Nat.le_of_ble_eq_true rfl), (Nat.le_of_ble_eq_true rfl)⟩) hS (fun q _ h => hFc q h) hFc (fun rn129 u t H1 locs ht hvm hw hB hz1 hk1 hS => ?_)
            obtain ⟨hP1, hD1⟩ := hB
            rw [ht] at hP1
            obtain ⟨hP, hD⟩ := PDq.join (w := [(v13, .inl (cA 1, 15, .inr (.inl fkw))), (oX10 w0 v0 v1 v2 v3 v4 g5 g6 (nI ed) g8 v9 (nI nb) g11 g12 v13 (nI ln) (nI ta) (nI ta) g17 (-1) g19 g20 g21 g22 g23 g24 0 g26 v27 v28 v29 v30 v31 v32 v33 v34 v35 v36 v37 (nI ol)), (v9, .inl (cA 0, 700, .inl fb))]) 1 hP hD [1, 2] [0] rfl rfl (by decide) (by decide) hk1 hFc hP1 hD1 rfl
            generalize H1 = H at hP hS ⊢
            obtain rfl : rn129 = (bta fb ln ta) := hw
            refine lv_istore_n (lv' := [(1, .int (bta fb ln ta)), (0, .ref w0)]) hx hb dX10_advance_65 rfl hl (by decide) rfl (fun ls hl => ?_)
            refine lv_iload_n hx hb dX10_advance_66 rfl (lv_at hl 0 rfl) ?_
            refine lv_iconst (v := (-1)) hx hb dX10_advance_67 (by decide) ?_
            refine lv_icmp_ne (tgt := 79) hx hb dX10_advance_68 (by decide) (fun c130 => ?_) (fun c9 => absurd c9 (by rw [bt_in (show ta < ln by omega)]; exact fun h9 => hBY ta (by omega) (by rw [h9]; decide)))
            refine lv_iload_n hx hb dX10_advance_79 rfl (lv_at hl 0 rfl) ?_
            obtain ⟨hPc, hDc, hFc⟩ := PDq.cut (wc := []) hP hD hS hA [] (by decide) rfl
            refine va_calli (va_runS (As := [.int (bta fb ln ta)]) (rest := []) ⟨hx, hb, hml, hown, hts⟩ (y_isLetter l D cA sa (bta fb ln ta) H.size) (va_cwS 1 hts gX10_advance_X10_isLetter rfl rfl rfl (by decide +kernel) ⟨(Nat.le_of_ble_eq_true rfl), (Nat.le_of_ble_eq_true rfl)⟩) ⟨Wd.blind, fun U hU hW => ⟨rfl, Wd.call hPc hDc hK hC hZ hS hFc U hU hW⟩⟩ rfl rfl hl.1 rfl (lv_room (Nat.le_of_ble_eq_true rfl)) dX10_advance_80 ⟨(Nat.le_of_ble_eq_true rfl), (Nat.le_of_ble_eq_true rfl)⟩) hS (fun q _ h => hFc q h) hFc (fun rn131 u t H1 locs ht hvm hw hB hz1 hk1 hS => ?_)
            obtain ⟨hP1, hD1⟩ := hB
            rw [ht] at hP1
            obtain ⟨hP, hD⟩ := PDq.join (w := [(v13, .inl (cA 1, 15, .inr (.inl fkw))), (oX10 w0 v0 v1 v2 v3 v4 g5 g6 (nI ed) g8 v9 (nI nb) g11 g12 v13 (nI ln) (nI ta) (nI ta) g17 (-1) g19 g20 g21 g22 g23 g24 0 g26 v27 v28 v29 v30 v31 v32 v33 v34 v35 v36 v37 (nI ol)), (v9, .inl (cA 0, 700, .inl fb))]) 3 hP hD [] [0, 1, 2] rfl rfl (by decide) (by decide) hk1 hFc hP1 hD1 rfl
            generalize H1 = H at hP hS ⊢
            rcases hw with ⟨hr9, hn132⟩ | ⟨hr9, hn132⟩
            · skip
              subst hr9
              exact absurd (ckd_4.mpr (by rw [bt_in (show ta < ln by omega)] at hn132; exact hn132)) (by rw [hc0]; decide)
            · skip
              subst hr9
              refine lv_if_eq (tgt := 210) hx hb dX10_advance_83 (by decide) (fun c133 => ?_) (fun c9 => absurd c9 (by decide))
              refine lv_iload_n hx hb dX10_advance_210 rfl (lv_at hl 0 rfl) ?_
              obtain ⟨hPc, hDc, hFc⟩ := PDq.cut (wc := []) hP hD hS hA [] (by decide) rfl
              refine va_calli (va_runS (As := [.int (bta fb ln ta)]) (rest := []) ⟨hx, hb, hml, hown, hts⟩ (y_isDigit l D cA sa (bta fb ln ta) H.size) (va_cwS 1 hts gX10_advance_X10_isDigit rfl rfl rfl (by decide +kernel) ⟨(Nat.le_of_ble_eq_true rfl), (Nat.le_of_ble_eq_true rfl)⟩) ⟨Wd.blind, fun U hU hW => ⟨rfl, Wd.call hPc hDc hK hC hZ hS hFc U hU hW⟩⟩ rfl rfl hl.1 rfl (lv_room (Nat.le_of_ble_eq_true rfl)) dX10_advance_211 ⟨(Nat.le_of_ble_eq_true rfl), (Nat.le_of_ble_eq_true rfl)⟩) hS (fun q _ h => hFc q h) hFc (fun rn134 u t H1 locs ht hvm hw hB hz1 hk1 hS => ?_)
              obtain ⟨hP1, hD1⟩ := hB
              rw [ht] at hP1
              obtain ⟨hP, hD⟩ := PDq.join (w := [(v13, .inl (cA 1, 15, .inr (.inl fkw))), (oX10 w0 v0 v1 v2 v3 v4 g5 g6 (nI ed) g8 v9 (nI nb) g11 g12 v13 (nI ln) (nI ta) (nI ta) g17 (-1) g19 g20 g21 g22 g23 g24 0 g26 v27 v28 v29 v30 v31 v32 v33 v34 v35 v36 v37 (nI ol)), (v9, .inl (cA 0, 700, .inl fb))]) 3 hP hD [] [0, 1, 2] rfl rfl (by decide) (by decide) hk1 hFc hP1 hD1 rfl
              generalize H1 = H at hP hS ⊢
              rcases hw with ⟨hr9, hn135⟩ | ⟨hr9, hn135⟩
              · skip
                subst hr9
                refine lv_if_eq (tgt := 317) hx hb dX10_advance_214 (by decide) (fun c9 => absurd c9 (by decide)) (fun c136 => ?_)
                refine lv_aload_n hx hb dX10_advance_217 rfl (lv_at hl 1 rfl) ?_
                refine lv_iconst (v := 0) hx hb dX10_advance_218 (by decide) ?_
                refine va_put (D := D) (ci := 11) (v := .int 0) (ty := .int) (C := RX10) (T := TX10) (N := 39) hx hb hts inX10 tyX10 tyX10_ok nmX10 hown hK hP hD hS 1 rfl rfl 19 (by decide) (hts (.fieldLink RX10 140 "EscrowDeskModel" "value" "I") (by decide +kernel)) (fun _ h9 => h9) rfl (by decide +kernel) rfl rfl (Nat.le_of_ble_eq_true rfl) dX10_advance_219 (fun H locs hP hD hS => ?_)
                obtain ⟨hP, hD⟩ : PDq D A [(v13, .inl (cA 1, 15, .inr (.inl fkw))), (oX10 w0 v0 v1 v2 v3 v4 g5 g6 (nI ed) g8 v9 (nI nb) g11 g12 v13 (nI ln) (nI ta) (nI ta) g17 (-1) 0 g20 g21 g22 g23 g24 0 g26 v27 v28 v29 v30 v31 v32 v33 v34 v35 v36 v37 (nI ol)), (v9, .inl (cA 0, 700, .inl fb))] H := ⟨hP, hD⟩
                have loop9 : ∀ (n9 i9 : Nat) (u1_19_9 : Int32) (H : Heap) (locs : List Loc) (ls : Array Slot), i9 + n9 = tb → ta ≤ i9 → Dq fb ta i9 u1_19_9 → va_P D vwCl [(v13, .inl (cA 1, 15, .inr (.inl fkw))), (oX10 w0 v0 v1 v2 v3 v4 g5 g6 (nI ed) g8 v9 (nI nb) g11 g12 v13 (nI ln) (nI ta) (nI i9) g17 (-1) u1_19_9 g20 g21 g22 g23 g24 0 g26 v27 v28 v29 v30 v31 v32 v33 v34 v35 v36 v37 (nI ol)), (v9, .inl (cA 0, 700, .inl fb))] H → va_D A [(v13, .inl (cA 1, 15, .inr (.inl fkw))), (oX10 w0 v0 v1 v2 v3 v4 g5 g6 (nI ed) g8 v9 (nI nb) g11 g12 v13 (nI ln) (nI ta) (nI i9) g17 (-1) u1_19_9 g20 g21 g22 g23 g24 0 g26 v27 v28 v29 v30 v31 v32 v33 v34 v35 v36 v37 (nI ol)), (v9, .inl (cA 0, 700, .inl fb))] → va_S A s.heap H locs → lv_has ls 2 [(1, .int (bta fb ln ta)), (0, .ref w0)] → W p l e (headSpec wsX10_advance ({ frames := 1, cells := 0, slots := 0, locals := 23 } : Room)).room s m ([.ref w0] : List Value).toArray below meth c H locs 0 0 (MQ below (va_Qi (fun (r : Int32) (_ : Unit) => r = 1) (fun (_ : Unit) t => ∃ z17 : Int32, ∃ z18 : Int32, ∃ z19 : Int32, ∃ z25 : Int64, TKR kk vv (fb ta) z17 z18 z19 z25 ∧ Wq D A [(oX10 w0 v0 v1 v2 v3 v4 g5 g6 (nI ed) g8 v9 (nI nb) g11 g12 v13 (nI ln) (nI ta) (nI tb) z17 z18 z19 g20 g21 g22 g23 g24 z25 g26 v27 v28 v29 v30 v31 v32 v33 v34 v35 v36 v37 (nI ol)), (v9, .inl (cA 0, 700, .inl fb)), (v13, .inl (cA 1, 15, .inr (.inl fkw)))] t) A) ([.ref w0] : List Value).toArray s 0 0 A) (F0 m 222 ls []) := by
                  intro n9
                  induction n9 with
                  | zero =>
                    intro i9 u1_19_9 H locs ls hi9 hv0_9 hv1_9 hP hD hS hl
                    obtain rfl : tb = i9 := by omega
                    refine lv_aload_n hx hb dX10_advance_222 rfl (lv_at hl 1 rfl) ?_
                    refine lv_aload_n hx hb dX10_advance_223 rfl (lv_at hl 1 rfl) ?_
                    refine va_get (D := D) (ci := 11) (v := .int (nI tb)) (C := RX10) (T := TX10) (N := 39) hx hb hts inX10 hown hK hP 1 rfl rfl 16 (by decide) (hts (.fieldLink RX10 110 "EscrowDeskModel" "next" "I") (by decide +kernel)) (fun _ h9 => h9) rfl dX10_advance_224 ?_
                    obtain ⟨hPc, hDc, hFc⟩ := PDq.cut (wc := [(oX10 w0 v0 v1 v2 v3 v4 g5 g6 (nI ed) g8 v9 (nI nb) g11 g12 v13 (nI ln) (nI ta) (nI tb) g17 (-1) u1_19_9 g20 g21 g22 g23 g24 0 g26 v27 v28 v29 v30 v31 v32 v33 v34 v35 v36 v37 (nI ol)), (v9, .inl (cA 0, 700, .inl fb))]) hP hD hS hA [1, 2] (by decide) rfl
                    refine va_calli (va_runV (As := [.int (nI tb)]) (rest := []) ⟨hx, hb, hml, hown, hts⟩ (y_byteAt l D cA sa w0 ed nb ol v0 v1 v2 v3 v4 v9 v13 v27 v28 v29 v30 v31 v32 v33 v34 v35 v36 v37 g8 g11 g12 (nI ta) (nI tb) g17 (-1) u1_19_9 g20 g21 g22 g23 g24 g26 g5 g6 0 ln tb fb H.size hln (by omega)) (cwV 1 hts gX10_advance_X10_byteAt rfl rfl rfl (by decide +kernel) ⟨(Nat.le_of_ble_eq_true rfl), (Nat.le_of_ble_eq_true rfl)⟩) ⟨Wd.blind, va_recv hK hPc (ci := 11) (q0 := 0) rfl rfl, fun U hU hW => ⟨rfl, Wd.call hPc hDc hK hC hZ hS hFc U hU hW⟩⟩ rfl rfl hl.1 rfl (lv_room (Nat.le_of_ble_eq_true rfl)) dX10_advance_227 ⟨(Nat.le_of_ble_eq_true rfl), (Nat.le_of_ble_eq_true rfl)⟩) hS (fun q _ h => hFc q h) hFc (fun rn137 u t H1 locs ht hvm hw hB hz1 hk1 hS => ?_)
                    obtain ⟨hP1, hD1⟩ := hB
                    rw [ht] at hP1
                    obtain ⟨hP, hD⟩ := PDq.join (w := [(v13, .inl (cA 1, 15, .inr (.inl fkw))), (oX10 w0 v0 v1 v2 v3 v4 g5 g6 (nI ed) g8 v9 (nI nb) g11 g12 v13 (nI ln) (nI ta) (nI tb) g17 (-1) u1_19_9 g20 g21 g22 g23 g24 0 g26 v27 v28 v29 v30 v31 v32 v33 v34 v35 v36 v37 (nI ol)), (v9, .inl (cA 0, 700, .inl fb))]) 1 hP hD [1, 2] [0] rfl rfl (by decide) (by decide) hk1 hFc hP1 hD1 rfl
                    generalize H1 = H at hP hS ⊢
                    obtain rfl : rn137 = (bta fb ln tb) := hw
                    obtain ⟨hPc, hDc, hFc⟩ := PDq.cut (wc := []) hP hD hS hA [] (by decide) rfl
                    refine va_calli (va_runS (As := [.int (bta fb ln tb)]) (rest := []) ⟨hx, hb, hml, hown, hts⟩ (y_isDigit l D cA sa (bta fb ln tb) H.size) (va_cwS 1 hts gX10_advance_X10_isDigit rfl rfl rfl (by decide +kernel) ⟨(Nat.le_of_ble_eq_true rfl), (Nat.le_of_ble_eq_true rfl)⟩) ⟨Wd.blind, fun U hU hW => ⟨rfl, Wd.call hPc hDc hK hC hZ hS hFc U hU hW⟩⟩ rfl rfl hl.1 rfl (lv_room (Nat.le_of_ble_eq_true rfl)) dX10_advance_230 ⟨(Nat.le_of_ble_eq_true rfl), (Nat.le_of_ble_eq_true rfl)⟩) hS (fun q _ h => hFc q h) hFc (fun rn138 u t H1 locs ht hvm hw hB hz1 hk1 hS => ?_)
                    obtain ⟨hP1, hD1⟩ := hB
                    rw [ht] at hP1
                    obtain ⟨hP, hD⟩ := PDq.join (w := [(v13, .inl (cA 1, 15, .inr (.inl fkw))), (oX10 w0 v0 v1 v2 v3 v4 g5 g6 (nI ed) g8 v9 (nI nb) g11 g12 v13 (nI ln) (nI ta) (nI tb) g17 (-1) u1_19_9 g20 g21 g22 g23 g24 0 g26 v27 v28 v29 v30 v31 v32 v33 v34 v35 v36 v37 (nI ol)), (v9, .inl (cA 0, 700, .inl fb))]) 3 hP hD [] [0, 1, 2] rfl rfl (by decide) (by decide) hk1 hFc hP1 hD1 rfl
                    generalize H1 = H at hP hS ⊢
                    rcases hw with ⟨hr9, hn139⟩ | ⟨hr9, hn139⟩
                    · skip
                      subst hr9
                      exact absurd hn139 (bt_nd ga2)
                    · skip
                      subst hr9
                      refine lv_if_eq (tgt := 292) hx hb dX10_advance_233 (by decide) (fun c140 => ?_) (fun c9 => absurd c9 (by decide))
                      refine lv_aload_n hx hb dX10_advance_292 rfl (lv_at hl 1 rfl) ?_
                      refine lv_aload_n hx hb dX10_advance_293 rfl (lv_at hl 1 rfl) ?_
                      refine va_get (D := D) (ci := 11) (v := .int (nI tb)) (C := RX10) (T := TX10) (N := 39) hx hb hts inX10 hown hK hP 1 rfl rfl 16 (by decide) (hts (.fieldLink RX10 110 "EscrowDeskModel" "next" "I") (by decide +kernel)) (fun _ h9 => h9) rfl dX10_advance_294 ?_
                      refine lv_aload_n hx hb dX10_advance_297 rfl (lv_at hl 1 rfl) ?_
                      refine va_get (D := D) (ci := 11) (v := .int (nI ta)) (C := RX10) (T := TX10) (N := 39) hx hb hts inX10 hown hK hP 1 rfl rfl 15 (by decide) (hts (.fieldLink RX10 117 "EscrowDeskModel" "start" "I") (by decide +kernel)) (fun _ h9 => h9) rfl dX10_advance_298 ?_
                      refine lv_isub hx hb dX10_advance_301 ?_
                      refine lv_topi (fun yn141 eyn141 => ?_)
                      obtain rfl : yn141 = (nI (tb - ta)) := eyn141.trans (nI_sub (a := tb) (b := ta) (by omega))
                      refine lv_iconst (v := 5) hx hb dX10_advance_302 (by decide) ?_
                      refine lv_icmp_le (tgt := 310) hx hb dX10_advance_303 (by decide) (fun c9 => absurd c9 (nI_ge (a := 5) (b := (tb - ta)) (show 5 < (tb - ta) by omega) (by omega))) (fun c142 => ?_)
                      refine lv_iconst (v := 1) hx hb dX10_advance_306 (by decide) ?_
                      refine lv_goto (tgt := 311) hx hb dX10_advance_307 (by decide) ?_
                      refine va_put (D := D) (ci := 11) (v := .int 1) (ty := .int) (C := RX10) (T := TX10) (N := 39) hx hb hts inX10 tyX10 tyX10_ok nmX10 hown hK hP hD hS 1 rfl rfl 17 (by decide) (hts (.fieldLink RX10 126 "EscrowDeskModel" "token" "I") (by decide +kernel)) (fun _ h9 => h9) rfl (by decide +kernel) rfl rfl (Nat.le_of_ble_eq_true rfl) dX10_advance_311 (fun H locs hP hD hS => ?_)
                      obtain ⟨hP, hD⟩ : PDq D A [(v13, .inl (cA 1, 15, .inr (.inl fkw))), (oX10 w0 v0 v1 v2 v3 v4 g5 g6 (nI ed) g8 v9 (nI nb) g11 g12 v13 (nI ln) (nI ta) (nI tb) 1 (-1) u1_19_9 g20 g21 g22 g23 g24 0 g26 v27 v28 v29 v30 v31 v32 v33 v34 v35 v36 v37 (nI ol)), (v9, .inl (cA 0, 700, .inl fb))] H := ⟨hP, hD⟩
                      refine lv_goto (tgt := 354) hx hb dX10_advance_314 (by decide) ?_
                      refine lv_iconst (v := 1) hx hb dX10_advance_354 (by decide) ?_
                      obtain ⟨hP9, hD9⟩ := PDq.sub (ws' := [(oX10 w0 v0 v1 v2 v3 v4 g5 g6 (nI ed) g8 v9 (nI nb) g11 g12 v13 (nI ln) (nI ta) (nI tb) 1 (-1) u1_19_9 g20 g21 g22 g23 g24 0 g26 v27 v28 v29 v30 v31 v32 v33 v34 v35 v36 v37 (nI ol)), (v9, .inl (cA 0, 700, .inl fb)), (v13, .inl (cA 1, 15, .inr (.inl fkw)))]) hP hD [1, 2, 0] (by decide) rfl
                      refine W.widen (k := 0) (n := 0) (Nat.le_of_ble_eq_true rfl) (Nat.le_of_ble_eq_true rfl) ?_
                      exact (W.zret (v := 1) hx hb hr (by first | rfl | decide) (fun t ht hW => ⟨⟨1, (), rfl, rfl, 1, (-1), u1_19_9, 0, (Or.inr (Or.inl ⟨by rw [ge9, ga4, kwm_not _ (by decide)], rfl⟩)), by rw [ht]; exact hP9, hD9⟩, hS.F ht⟩) hS.2.2 dX10_advance_355)
                  | succ n9 ih9 =>
                    intro i9 u1_19_9 H locs ls hi9 hv0_9 hv1_9 hP hD hS hl
                    refine lv_aload_n hx hb dX10_advance_222 rfl (lv_at hl 1 rfl) ?_
                    refine lv_aload_n hx hb dX10_advance_223 rfl (lv_at hl 1 rfl) ?_
                    refine va_get (D := D) (ci := 11) (v := .int (nI i9)) (C := RX10) (T := TX10) (N := 39) hx hb hts inX10 hown hK hP 1 rfl rfl 16 (by decide) (hts (.fieldLink RX10 110 "EscrowDeskModel" "next" "I") (by decide +kernel)) (fun _ h9 => h9) rfl dX10_advance_224 ?_
                    obtain ⟨hPc, hDc, hFc⟩ := PDq.cut (wc := [(oX10 w0 v0 v1 v2 v3 v4 g5 g6 (nI ed) g8 v9 (nI nb) g11 g12 v13 (nI ln) (nI ta) (nI i9) g17 (-1) u1_19_9 g20 g21 g22 g23 g24 0 g26 v27 v28 v29 v30 v31 v32 v33 v34 v35 v36 v37 (nI ol)), (v9, .inl (cA 0, 700, .inl fb))]) hP hD hS hA [1, 2] (by decide) rfl
                    refine va_calli (va_runV (As := [.int (nI i9)]) (rest := []) ⟨hx, hb, hml, hown, hts⟩ (y_byteAt l D cA sa w0 ed nb ol v0 v1 v2 v3 v4 v9 v13 v27 v28 v29 v30 v31 v32 v33 v34 v35 v36 v37 g8 g11 g12 (nI ta) (nI i9) g17 (-1) u1_19_9 g20 g21 g22 g23 g24 g26 g5 g6 0 ln i9 fb H.size hln (by omega)) (cwV 1 hts gX10_advance_X10_byteAt rfl rfl rfl (by decide +kernel) ⟨(Nat.le_of_ble_eq_true rfl), (Nat.le_of_ble_eq_true rfl)⟩) ⟨Wd.blind, va_recv hK hPc (ci := 11) (q0 := 0) rfl rfl, fun U hU hW => ⟨rfl, Wd.call hPc hDc hK hC hZ hS hFc U hU hW⟩⟩ rfl rfl hl.1 rfl (lv_room (Nat.le_of_ble_eq_true rfl)) dX10_advance_227 ⟨(Nat.le_of_ble_eq_true rfl), (Nat.le_of_ble_eq_true rfl)⟩) hS (fun q _ h => hFc q h) hFc (fun rn143 u t H1 locs ht hvm hw hB hz1 hk1 hS => ?_)
                    obtain ⟨hP1, hD1⟩ := hB
                    rw [ht] at hP1
                    obtain ⟨hP, hD⟩ := PDq.join (w := [(v13, .inl (cA 1, 15, .inr (.inl fkw))), (oX10 w0 v0 v1 v2 v3 v4 g5 g6 (nI ed) g8 v9 (nI nb) g11 g12 v13 (nI ln) (nI ta) (nI i9) g17 (-1) u1_19_9 g20 g21 g22 g23 g24 0 g26 v27 v28 v29 v30 v31 v32 v33 v34 v35 v36 v37 (nI ol)), (v9, .inl (cA 0, 700, .inl fb))]) 1 hP hD [1, 2] [0] rfl rfl (by decide) (by decide) hk1 hFc hP1 hD1 rfl
                    generalize H1 = H at hP hS ⊢
                    obtain rfl : rn143 = (bta fb ln i9) := hw
                    obtain ⟨hPc, hDc, hFc⟩ := PDq.cut (wc := []) hP hD hS hA [] (by decide) rfl
                    refine va_calli (va_runS (As := [.int (bta fb ln i9)]) (rest := []) ⟨hx, hb, hml, hown, hts⟩ (y_isDigit l D cA sa (bta fb ln i9) H.size) (va_cwS 1 hts gX10_advance_X10_isDigit rfl rfl rfl (by decide +kernel) ⟨(Nat.le_of_ble_eq_true rfl), (Nat.le_of_ble_eq_true rfl)⟩) ⟨Wd.blind, fun U hU hW => ⟨rfl, Wd.call hPc hDc hK hC hZ hS hFc U hU hW⟩⟩ rfl rfl hl.1 rfl (lv_room (Nat.le_of_ble_eq_true rfl)) dX10_advance_230 ⟨(Nat.le_of_ble_eq_true rfl), (Nat.le_of_ble_eq_true rfl)⟩) hS (fun q _ h => hFc q h) hFc (fun rn144 u t H1 locs ht hvm hw hB hz1 hk1 hS => ?_)
                    obtain ⟨hP1, hD1⟩ := hB
                    rw [ht] at hP1
                    obtain ⟨hP, hD⟩ := PDq.join (w := [(v13, .inl (cA 1, 15, .inr (.inl fkw))), (oX10 w0 v0 v1 v2 v3 v4 g5 g6 (nI ed) g8 v9 (nI nb) g11 g12 v13 (nI ln) (nI ta) (nI i9) g17 (-1) u1_19_9 g20 g21 g22 g23 g24 0 g26 v27 v28 v29 v30 v31 v32 v33 v34 v35 v36 v37 (nI ol)), (v9, .inl (cA 0, 700, .inl fb))]) 3 hP hD [] [0, 1, 2] rfl rfl (by decide) (by decide) hk1 hFc hP1 hD1 rfl
                    generalize H1 = H at hP hS ⊢
                    rcases hw with ⟨hr9, hn145⟩ | ⟨hr9, hn145⟩
                    · skip
                      subst hr9
                      refine lv_if_eq (tgt := 292) hx hb dX10_advance_233 (by decide) (fun c9 => absurd c9 (by decide)) (fun c146 => ?_)
                      refine lv_aload_n hx hb dX10_advance_236 rfl (lv_at hl 1 rfl) ?_
                      refine lv_aload_n hx hb dX10_advance_237 rfl (lv_at hl 1 rfl) ?_
                      refine va_get (D := D) (ci := 11) (v := .int (nI i9)) (C := RX10) (T := TX10) (N := 39) hx hb hts inX10 hown hK hP 1 rfl rfl 16 (by decide) (hts (.fieldLink RX10 110 "EscrowDeskModel" "next" "I") (by decide +kernel)) (fun _ h9 => h9) rfl dX10_advance_238 ?_
                      refine lv_aload_n hx hb dX10_advance_241 rfl (lv_at hl 1 rfl) ?_
                      refine va_get (D := D) (ci := 11) (v := .int (nI ta)) (C := RX10) (T := TX10) (N := 39) hx hb hts inX10 hown hK hP 1 rfl rfl 15 (by decide) (hts (.fieldLink RX10 117 "EscrowDeskModel" "start" "I") (by decide +kernel)) (fun _ h9 => h9) rfl dX10_advance_242 ?_
                      refine lv_isub hx hb dX10_advance_245 ?_
                      refine lv_topi (fun yn147 eyn147 => ?_)
                      obtain rfl : yn147 = (nI (i9 - ta)) := eyn147.trans (nI_sub (a := i9) (b := ta) (by omega))
                      refine lv_iconst (v := 5) hx hb dX10_advance_246 (by decide) ?_
                      refine lv_icmp_ge (tgt := 272) hx hb dX10_advance_247 (by decide) (fun c148 => ?_) (fun c148 => ?_)
                      · skip
                        have hn149 : 5 ≤ (i9 - ta) := (nI_leI (a := 5) (b := (i9 - ta)) (by omega) (by omega)).mp c148
                        refine lv_aload_n hx hb dX10_advance_272 rfl (lv_at hl 1 rfl) ?_
                        refine va_get (D := D) (ci := 11) (v := .int u1_19_9) (C := RX10) (T := TX10) (N := 39) hx hb hts inX10 hown hK hP 1 rfl rfl 19 (by decide) (hts (.fieldLink RX10 140 "EscrowDeskModel" "value" "I") (by decide +kernel)) (fun _ h9 => h9) rfl dX10_advance_273 ?_
                        refine va_put (D := D) (ci := 11) (v := .int u1_19_9) (ty := .int) (C := RX10) (T := TX10) (N := 39) hx hb hts inX10 tyX10 tyX10_ok nmX10 hown hK hP hD hS 1 rfl rfl 19 (by decide) (hts (.fieldLink RX10 140 "EscrowDeskModel" "value" "I") (by decide +kernel)) (fun _ h9 => h9) rfl (by decide +kernel) rfl rfl (Nat.le_of_ble_eq_true rfl) dX10_advance_276 (fun H locs hP hD hS => ?_)
                        obtain ⟨hP, hD⟩ : PDq D A [(v13, .inl (cA 1, 15, .inr (.inl fkw))), (oX10 w0 v0 v1 v2 v3 v4 g5 g6 (nI ed) g8 v9 (nI nb) g11 g12 v13 (nI ln) (nI ta) (nI i9) g17 (-1) u1_19_9 g20 g21 g22 g23 g24 0 g26 v27 v28 v29 v30 v31 v32 v33 v34 v35 v36 v37 (nI ol)), (v9, .inl (cA 0, 700, .inl fb))] H := ⟨hP, hD⟩
                        refine lv_aload_n hx hb dX10_advance_279 rfl (lv_at hl 1 rfl) ?_
                        refine lv_dup hx hb dX10_advance_280 rfl ?_
                        refine va_get (D := D) (ci := 11) (v := .int (nI i9)) (C := RX10) (T := TX10) (N := 39) hx hb hts inX10 hown hK hP 1 rfl rfl 16 (by decide) (hts (.fieldLink RX10 110 "EscrowDeskModel" "next" "I") (by decide +kernel)) (fun _ h9 => h9) rfl dX10_advance_281 ?_
                        refine lv_iconst (v := 1) hx hb dX10_advance_284 (by decide) ?_
                        refine lv_iadd hx hb dX10_advance_285 ?_
                        refine lv_topi (fun yn150 eyn150 => ?_)
                        obtain rfl : yn150 = (nI (i9 + 1)) := eyn150.trans (nI_add i9 1)
                        refine va_put (D := D) (ci := 11) (v := .int (nI (i9 + 1))) (ty := .int) (C := RX10) (T := TX10) (N := 39) hx hb hts inX10 tyX10 tyX10_ok nmX10 hown hK hP hD hS 1 rfl rfl 16 (by decide) (hts (.fieldLink RX10 110 "EscrowDeskModel" "next" "I") (by decide +kernel)) (fun _ h9 => h9) rfl (by decide +kernel) rfl rfl (Nat.le_of_ble_eq_true rfl) dX10_advance_286 (fun H locs hP hD hS => ?_)
                        obtain ⟨hP, hD⟩ : PDq D A [(v13, .inl (cA 1, 15, .inr (.inl fkw))), (oX10 w0 v0 v1 v2 v3 v4 g5 g6 (nI ed) g8 v9 (nI nb) g11 g12 v13 (nI ln) (nI ta) (nI (i9 + 1)) g17 (-1) u1_19_9 g20 g21 g22 g23 g24 0 g26 v27 v28 v29 v30 v31 v32 v33 v34 v35 v36 v37 (nI ol)), (v9, .inl (cA 0, 700, .inl fb))] H := ⟨hP, hD⟩
                        refine lv_goto (tgt := 222) hx hb dX10_advance_289 (by decide) ?_
                        obtain ⟨hP9, hD9⟩ := PDq.sub (ws' := [(v13, .inl (cA 1, 15, .inr (.inl fkw))), (oX10 w0 v0 v1 v2 v3 v4 g5 g6 (nI ed) g8 v9 (nI nb) g11 g12 v13 (nI ln) (nI ta) (nI (i9 + 1)) g17 (-1) u1_19_9 g20 g21 g22 g23 g24 0 g26 v27 v28 v29 v30 v31 v32 v33 v34 v35 v36 v37 (nI ol)), (v9, .inl (cA 0, 700, .inl fb))]) hP hD [0, 1, 2] (by decide) rfl
                        exact ih9 (i9 + 1) u1_19_9 H _ ls (by omega) (by omega) (Dq.far (by omega)) hP9 hD9 hS (lv_sub hl [0, 1] rfl)
                      · skip
                        have hn151 : (i9 - ta) < 5 := Nat.lt_of_not_le (fun h9 => c148 (nI_le (a := 5) (b := (i9 - ta)) h9 (by omega)))
                        refine lv_bipush (v := 10) hx hb dX10_advance_250 (by decide) ?_
                        refine lv_aload_n hx hb dX10_advance_252 rfl (lv_at hl 1 rfl) ?_
                        refine va_get (D := D) (ci := 11) (v := .int u1_19_9) (C := RX10) (T := TX10) (N := 39) hx hb hts inX10 hown hK hP 1 rfl rfl 19 (by decide) (hts (.fieldLink RX10 140 "EscrowDeskModel" "value" "I") (by decide +kernel)) (fun _ h9 => h9) rfl dX10_advance_253 ?_
                        refine lv_imul hx hb dX10_advance_256 ?_
                        refine lv_topi (fun yn152 eyn152 => ?_)
                        refine lv_aload_n hx hb dX10_advance_257 rfl (lv_at hl 1 rfl) ?_
                        refine lv_aload_n hx hb dX10_advance_258 rfl (lv_at hl 1 rfl) ?_
                        refine va_get (D := D) (ci := 11) (v := .int (nI i9)) (C := RX10) (T := TX10) (N := 39) hx hb hts inX10 hown hK hP 1 rfl rfl 16 (by decide) (hts (.fieldLink RX10 110 "EscrowDeskModel" "next" "I") (by decide +kernel)) (fun _ h9 => h9) rfl dX10_advance_259 ?_
                        obtain ⟨hPc, hDc, hFc⟩ := PDq.cut (wc := [(oX10 w0 v0 v1 v2 v3 v4 g5 g6 (nI ed) g8 v9 (nI nb) g11 g12 v13 (nI ln) (nI ta) (nI i9) g17 (-1) u1_19_9 g20 g21 g22 g23 g24 0 g26 v27 v28 v29 v30 v31 v32 v33 v34 v35 v36 v37 (nI ol)), (v9, .inl (cA 0, 700, .inl fb))]) hP hD hS hA [1, 2] (by decide) rfl
                        refine va_calli (va_runV (As := [.int (nI i9)]) (rest := [.int yn152, .ref w0]) ⟨hx, hb, hml, hown, hts⟩ (y_byteAt l D cA sa w0 ed nb ol v0 v1 v2 v3 v4 v9 v13 v27 v28 v29 v30 v31 v32 v33 v34 v35 v36 v37 g8 g11 g12 (nI ta) (nI i9) g17 (-1) u1_19_9 g20 g21 g22 g23 g24 g26 g5 g6 0 ln i9 fb H.size hln (by omega)) (cwV 1 hts gX10_advance_X10_byteAt rfl rfl rfl (by decide +kernel) ⟨(Nat.le_of_ble_eq_true rfl), (Nat.le_of_ble_eq_true rfl)⟩) ⟨Wd.blind, va_recv hK hPc (ci := 11) (q0 := 0) rfl rfl, fun U hU hW => ⟨rfl, Wd.call hPc hDc hK hC hZ hS hFc U hU hW⟩⟩ rfl rfl hl.1 rfl (lv_room (Nat.le_of_ble_eq_true rfl)) dX10_advance_262 ⟨(Nat.le_of_ble_eq_true rfl), (Nat.le_of_ble_eq_true rfl)⟩) hS (fun q _ h => hFc q h) hFc (fun rn153 u t H1 locs ht hvm hw hB hz1 hk1 hS => ?_)
                        obtain ⟨hP1, hD1⟩ := hB
                        rw [ht] at hP1
                        obtain ⟨hP, hD⟩ := PDq.join (w := [(v13, .inl (cA 1, 15, .inr (.inl fkw))), (oX10 w0 v0 v1 v2 v3 v4 g5 g6 (nI ed) g8 v9 (nI nb) g11 g12 v13 (nI ln) (nI ta) (nI i9) g17 (-1) u1_19_9 g20 g21 g22 g23 g24 0 g26 v27 v28 v29 v30 v31 v32 v33 v34 v35 v36 v37 (nI ol)), (v9, .inl (cA 0, 700, .inl fb))]) 1 hP hD [1, 2] [0] rfl rfl (by decide) (by decide) hk1 hFc hP1 hD1 rfl
                        generalize H1 = H at hP hS ⊢
                        obtain rfl : rn153 = (bta fb ln i9) := hw
                        refine lv_iadd hx hb dX10_advance_265 ?_
                        refine lv_topi (fun yn154 eyn154 => ?_)
                        refine lv_bipush (v := 48) hx hb dX10_advance_266 (by decide) ?_
                        refine lv_isub hx hb dX10_advance_268 ?_
                        refine lv_topi (fun yn155 eyn155 => ?_)
                        refine lv_goto (tgt := 276) hx hb dX10_advance_269 (by decide) ?_
                        refine va_put (D := D) (ci := 11) (v := .int yn155) (ty := .int) (C := RX10) (T := TX10) (N := 39) hx hb hts inX10 tyX10 tyX10_ok nmX10 hown hK hP hD hS 1 rfl rfl 19 (by decide) (hts (.fieldLink RX10 140 "EscrowDeskModel" "value" "I") (by decide +kernel)) (fun _ h9 => h9) rfl (by decide +kernel) rfl rfl (Nat.le_of_ble_eq_true rfl) dX10_advance_276 (fun H locs hP hD hS => ?_)
                        obtain ⟨hP, hD⟩ : PDq D A [(v13, .inl (cA 1, 15, .inr (.inl fkw))), (oX10 w0 v0 v1 v2 v3 v4 g5 g6 (nI ed) g8 v9 (nI nb) g11 g12 v13 (nI ln) (nI ta) (nI i9) g17 (-1) yn155 g20 g21 g22 g23 g24 0 g26 v27 v28 v29 v30 v31 v32 v33 v34 v35 v36 v37 (nI ol)), (v9, .inl (cA 0, 700, .inl fb))] H := ⟨hP, hD⟩
                        refine lv_aload_n hx hb dX10_advance_279 rfl (lv_at hl 1 rfl) ?_
                        refine lv_dup hx hb dX10_advance_280 rfl ?_
                        refine va_get (D := D) (ci := 11) (v := .int (nI i9)) (C := RX10) (T := TX10) (N := 39) hx hb hts inX10 hown hK hP 1 rfl rfl 16 (by decide) (hts (.fieldLink RX10 110 "EscrowDeskModel" "next" "I") (by decide +kernel)) (fun _ h9 => h9) rfl dX10_advance_281 ?_
                        refine lv_iconst (v := 1) hx hb dX10_advance_284 (by decide) ?_
                        refine lv_iadd hx hb dX10_advance_285 ?_
                        refine lv_topi (fun yn156 eyn156 => ?_)
                        obtain rfl : yn156 = (nI (i9 + 1)) := eyn156.trans (nI_add i9 1)
                        refine va_put (D := D) (ci := 11) (v := .int (nI (i9 + 1))) (ty := .int) (C := RX10) (T := TX10) (N := 39) hx hb hts inX10 tyX10 tyX10_ok nmX10 hown hK hP hD hS 1 rfl rfl 16 (by decide) (hts (.fieldLink RX10 110 "EscrowDeskModel" "next" "I") (by decide +kernel)) (fun _ h9 => h9) rfl (by decide +kernel) rfl rfl (Nat.le_of_ble_eq_true rfl) dX10_advance_286 (fun H locs hP hD hS => ?_)
                        obtain ⟨hP, hD⟩ : PDq D A [(v13, .inl (cA 1, 15, .inr (.inl fkw))), (oX10 w0 v0 v1 v2 v3 v4 g5 g6 (nI ed) g8 v9 (nI nb) g11 g12 v13 (nI ln) (nI ta) (nI (i9 + 1)) g17 (-1) yn155 g20 g21 g22 g23 g24 0 g26 v27 v28 v29 v30 v31 v32 v33 v34 v35 v36 v37 (nI ol)), (v9, .inl (cA 0, 700, .inl fb))] H := ⟨hP, hD⟩
                        refine lv_goto (tgt := 222) hx hb dX10_advance_289 (by decide) ?_
                        obtain ⟨hP9, hD9⟩ := PDq.sub (ws' := [(v13, .inl (cA 1, 15, .inr (.inl fkw))), (oX10 w0 v0 v1 v2 v3 v4 g5 g6 (nI ed) g8 v9 (nI nb) g11 g12 v13 (nI ln) (nI ta) (nI (i9 + 1)) g17 (-1) yn155 g20 g21 g22 g23 g24 0 g26 v27 v28 v29 v30 v31 v32 v33 v34 v35 v36 v37 (nI ol)), (v9, .inl (cA 0, 700, .inl fb))]) hP hD [0, 1, 2] (by decide) rfl
                        exact ih9 (i9 + 1) yn155 H _ ls (by omega) (by omega) (Dq.step hv1_9 (by omega) (show i9 < ln by omega) (ga1 i9 (by omega) (by omega)) eyn152 eyn154 eyn155) hP9 hD9 hS (lv_sub hl [0, 1] rfl)
                    · skip
                      subst hr9
                      exact absurd (by rw [bt_in (show i9 < ln by omega)]; exact ckd_3.mp (ga1 i9 (by omega) (by omega))) hn145
                obtain ⟨hP9, hD9⟩ := PDq.sub (ws' := [(v13, .inl (cA 1, 15, .inr (.inl fkw))), (oX10 w0 v0 v1 v2 v3 v4 g5 g6 (nI ed) g8 v9 (nI nb) g11 g12 v13 (nI ln) (nI ta) (nI ta) g17 (-1) 0 g20 g21 g22 g23 g24 0 g26 v27 v28 v29 v30 v31 v32 v33 v34 v35 v36 v37 (nI ol)), (v9, .inl (cA 0, 700, .inl fb))]) hP hD [0, 1, 2] (by decide) rfl
                exact loop9 (tb - ta) ta 0 _ _ ls (by omega) (by omega) (Dq.zero fb ta) hP9 hD9 hS (lv_sub hl [0, 1] rfl)
              · skip
                subst hr9
                exact absurd (by rw [bt_in (show ta < ln by omega)]; exact ckd_3.mp hc0) hn135
          · skip
            rw [bt_in (show ta < ln by omega)] at c128
            rw [c128] at hc0
            exact absurd hc0 (by decide)
      | succ n8 ih8 =>
        intro i8 H locs ls hi8 hv0_8 hP hD hS hl
        refine lv_aload_n hx hb dX10_advance_0 rfl (lv_at hl 0 rfl) ?_
        refine lv_aload_n hx hb dX10_advance_1 rfl (lv_at hl 0 rfl) ?_
        refine va_get (D := D) (ci := 11) (v := .int (nI i8)) (C := RX10) (T := TX10) (N := 39) hx hb hts inX10 hown hK hP 0 rfl rfl 16 (by decide) (hts (.fieldLink RX10 110 "EscrowDeskModel" "next" "I") (by decide +kernel)) (fun _ h9 => h9) rfl dX10_advance_2 ?_
        obtain ⟨hPc, hDc, hFc⟩ := PDq.cut (wc := [(oX10 w0 v0 v1 v2 v3 v4 g5 g6 (nI ed) g8 v9 (nI nb) g11 g12 v13 (nI ln) g15 (nI i8) g17 g18 g19 g20 g21 g22 g23 g24 g25 g26 v27 v28 v29 v30 v31 v32 v33 v34 v35 v36 v37 (nI ol)), (v9, .inl (cA 0, 700, .inl fb))]) hP hD hS hA [0, 1] (by decide) rfl
        refine va_calli (va_runV (As := [.int (nI i8)]) (rest := []) ⟨hx, hb, hml, hown, hts⟩ (y_byteAt l D cA sa w0 ed nb ol v0 v1 v2 v3 v4 v9 v13 v27 v28 v29 v30 v31 v32 v33 v34 v35 v36 v37 g8 g11 g12 g15 (nI i8) g17 g18 g19 g20 g21 g22 g23 g24 g26 g5 g6 g25 ln i8 fb H.size hln (by omega)) (cwV 1 hts gX10_advance_X10_byteAt rfl rfl rfl (by decide +kernel) ⟨(Nat.le_of_ble_eq_true rfl), (Nat.le_of_ble_eq_true rfl)⟩) ⟨Wd.blind, va_recv hK hPc (ci := 11) (q0 := 0) rfl rfl, fun U hU hW => ⟨rfl, Wd.call hPc hDc hK hC hZ hS hFc U hU hW⟩⟩ rfl rfl hl.1 rfl (lv_room (Nat.le_of_ble_eq_true rfl)) dX10_advance_5 ⟨(Nat.le_of_ble_eq_true rfl), (Nat.le_of_ble_eq_true rfl)⟩) hS (fun q _ h => hFc q h) hFc (fun rn157 u t H1 locs ht hvm hw hB hz1 hk1 hS => ?_)
        obtain ⟨hP1, hD1⟩ := hB
        rw [ht] at hP1
        obtain ⟨hP, hD⟩ := PDq.join (w := [(v13, .inl (cA 1, 15, .inr (.inl fkw))), (oX10 w0 v0 v1 v2 v3 v4 g5 g6 (nI ed) g8 v9 (nI nb) g11 g12 v13 (nI ln) g15 (nI i8) g17 g18 g19 g20 g21 g22 g23 g24 g25 g26 v27 v28 v29 v30 v31 v32 v33 v34 v35 v36 v37 (nI ol)), (v9, .inl (cA 0, 700, .inl fb))]) 1 hP hD [0, 1] [2] rfl rfl (by decide) (by decide) hk1 hFc hP1 hD1 rfl
        generalize H1 = H at hP hS ⊢
        obtain rfl : rn157 = (bta fb ln i8) := hw
        refine lv_bipush (v := 32) hx hb dX10_advance_8 (by decide) ?_
        refine lv_icmp_eq (tgt := 26) hx hb dX10_advance_10 (by decide) (fun c158 => ?_) (fun c158 => ?_)
        · skip
          refine lv_aload_n hx hb dX10_advance_26 rfl (lv_at hl 0 rfl) ?_
          refine lv_dup hx hb dX10_advance_27 rfl ?_
          refine va_get (D := D) (ci := 11) (v := .int (nI i8)) (C := RX10) (T := TX10) (N := 39) hx hb hts inX10 hown hK hP 1 rfl rfl 16 (by decide) (hts (.fieldLink RX10 110 "EscrowDeskModel" "next" "I") (by decide +kernel)) (fun _ h9 => h9) rfl dX10_advance_28 ?_
          refine lv_iconst (v := 1) hx hb dX10_advance_31 (by decide) ?_
          refine lv_iadd hx hb dX10_advance_32 ?_
          refine lv_topi (fun yn159 eyn159 => ?_)
          obtain rfl : yn159 = (nI (i8 + 1)) := eyn159.trans (nI_add i8 1)
          refine va_put (D := D) (ci := 11) (v := .int (nI (i8 + 1))) (ty := .int) (C := RX10) (T := TX10) (N := 39) hx hb hts inX10 tyX10 tyX10_ok nmX10 hown hK hP hD hS 1 rfl rfl 16 (by decide) (hts (.fieldLink RX10 110 "EscrowDeskModel" "next" "I") (by decide +kernel)) (fun _ h9 => h9) rfl (by decide +kernel) rfl rfl (Nat.le_of_ble_eq_true rfl) dX10_advance_33 (fun H locs hP hD hS => ?_)
          obtain ⟨hP, hD⟩ : PDq D A [(v13, .inl (cA 1, 15, .inr (.inl fkw))), (oX10 w0 v0 v1 v2 v3 v4 g5 g6 (nI ed) g8 v9 (nI nb) g11 g12 v13 (nI ln) g15 (nI (i8 + 1)) g17 g18 g19 g20 g21 g22 g23 g24 g25 g26 v27 v28 v29 v30 v31 v32 v33 v34 v35 v36 v37 (nI ol)), (v9, .inl (cA 0, 700, .inl fb))] H := ⟨hP, hD⟩
          refine lv_goto (tgt := 0) hx hb dX10_advance_36 (by decide) ?_
          obtain ⟨hP9, hD9⟩ := PDq.sub (ws' := [(oX10 w0 v0 v1 v2 v3 v4 g5 g6 (nI ed) g8 v9 (nI nb) g11 g12 v13 (nI ln) g15 (nI (i8 + 1)) g17 g18 g19 g20 g21 g22 g23 g24 g25 g26 v27 v28 v29 v30 v31 v32 v33 v34 v35 v36 v37 (nI ol)), (v9, .inl (cA 0, 700, .inl fb)), (v13, .inl (cA 1, 15, .inr (.inl fkw)))]) hP hD [1, 2, 0] (by decide) rfl
          exact ih8 (i8 + 1)  H _ ls (by omega) (by omega) hP9 hD9 hS (lv_sub hl [0] rfl)
        · skip
          refine lv_aload_n hx hb dX10_advance_13 rfl (lv_at hl 0 rfl) ?_
          refine lv_aload_n hx hb dX10_advance_14 rfl (lv_at hl 0 rfl) ?_
          refine va_get (D := D) (ci := 11) (v := .int (nI i8)) (C := RX10) (T := TX10) (N := 39) hx hb hts inX10 hown hK hP 1 rfl rfl 16 (by decide) (hts (.fieldLink RX10 110 "EscrowDeskModel" "next" "I") (by decide +kernel)) (fun _ h9 => h9) rfl dX10_advance_15 ?_
          obtain ⟨hPc, hDc, hFc⟩ := PDq.cut (wc := [(oX10 w0 v0 v1 v2 v3 v4 g5 g6 (nI ed) g8 v9 (nI nb) g11 g12 v13 (nI ln) g15 (nI i8) g17 g18 g19 g20 g21 g22 g23 g24 g25 g26 v27 v28 v29 v30 v31 v32 v33 v34 v35 v36 v37 (nI ol)), (v9, .inl (cA 0, 700, .inl fb))]) hP hD hS hA [1, 2] (by decide) rfl
          refine va_calli (va_runV (As := [.int (nI i8)]) (rest := []) ⟨hx, hb, hml, hown, hts⟩ (y_byteAt l D cA sa w0 ed nb ol v0 v1 v2 v3 v4 v9 v13 v27 v28 v29 v30 v31 v32 v33 v34 v35 v36 v37 g8 g11 g12 g15 (nI i8) g17 g18 g19 g20 g21 g22 g23 g24 g26 g5 g6 g25 ln i8 fb H.size hln (by omega)) (cwV 1 hts gX10_advance_X10_byteAt rfl rfl rfl (by decide +kernel) ⟨(Nat.le_of_ble_eq_true rfl), (Nat.le_of_ble_eq_true rfl)⟩) ⟨Wd.blind, va_recv hK hPc (ci := 11) (q0 := 0) rfl rfl, fun U hU hW => ⟨rfl, Wd.call hPc hDc hK hC hZ hS hFc U hU hW⟩⟩ rfl rfl hl.1 rfl (lv_room (Nat.le_of_ble_eq_true rfl)) dX10_advance_18 ⟨(Nat.le_of_ble_eq_true rfl), (Nat.le_of_ble_eq_true rfl)⟩) hS (fun q _ h => hFc q h) hFc (fun rn160 u t H1 locs ht hvm hw hB hz1 hk1 hS => ?_)
          obtain ⟨hP1, hD1⟩ := hB
          rw [ht] at hP1
          obtain ⟨hP, hD⟩ := PDq.join (w := [(v13, .inl (cA 1, 15, .inr (.inl fkw))), (oX10 w0 v0 v1 v2 v3 v4 g5 g6 (nI ed) g8 v9 (nI nb) g11 g12 v13 (nI ln) g15 (nI i8) g17 g18 g19 g20 g21 g22 g23 g24 g25 g26 v27 v28 v29 v30 v31 v32 v33 v34 v35 v36 v37 (nI ol)), (v9, .inl (cA 0, 700, .inl fb))]) 1 hP hD [1, 2] [0] rfl rfl (by decide) (by decide) hk1 hFc hP1 hD1 rfl
          generalize H1 = H at hP hS ⊢
          obtain rfl : rn160 = (bta fb ln i8) := hw
          refine lv_bipush (v := 10) hx hb dX10_advance_21 (by decide) ?_
          refine lv_icmp_ne (tgt := 39) hx hb dX10_advance_23 (by decide) (fun c161 => ?_) (fun c161 => ?_)
          · skip
            rw [bt_in (show i8 < ln by omega)] at c158 c161
            exact absurd (tn3 i8 (by omega) (by omega)) (ckd_n0 c158 c161)
          · skip
            refine lv_aload_n hx hb dX10_advance_26 rfl (lv_at hl 0 rfl) ?_
            refine lv_dup hx hb dX10_advance_27 rfl ?_
            refine va_get (D := D) (ci := 11) (v := .int (nI i8)) (C := RX10) (T := TX10) (N := 39) hx hb hts inX10 hown hK hP 1 rfl rfl 16 (by decide) (hts (.fieldLink RX10 110 "EscrowDeskModel" "next" "I") (by decide +kernel)) (fun _ h9 => h9) rfl dX10_advance_28 ?_
            refine lv_iconst (v := 1) hx hb dX10_advance_31 (by decide) ?_
            refine lv_iadd hx hb dX10_advance_32 ?_
            refine lv_topi (fun yn162 eyn162 => ?_)
            obtain rfl : yn162 = (nI (i8 + 1)) := eyn162.trans (nI_add i8 1)
            refine va_put (D := D) (ci := 11) (v := .int (nI (i8 + 1))) (ty := .int) (C := RX10) (T := TX10) (N := 39) hx hb hts inX10 tyX10 tyX10_ok nmX10 hown hK hP hD hS 1 rfl rfl 16 (by decide) (hts (.fieldLink RX10 110 "EscrowDeskModel" "next" "I") (by decide +kernel)) (fun _ h9 => h9) rfl (by decide +kernel) rfl rfl (Nat.le_of_ble_eq_true rfl) dX10_advance_33 (fun H locs hP hD hS => ?_)
            obtain ⟨hP, hD⟩ : PDq D A [(v13, .inl (cA 1, 15, .inr (.inl fkw))), (oX10 w0 v0 v1 v2 v3 v4 g5 g6 (nI ed) g8 v9 (nI nb) g11 g12 v13 (nI ln) g15 (nI (i8 + 1)) g17 g18 g19 g20 g21 g22 g23 g24 g25 g26 v27 v28 v29 v30 v31 v32 v33 v34 v35 v36 v37 (nI ol)), (v9, .inl (cA 0, 700, .inl fb))] H := ⟨hP, hD⟩
            refine lv_goto (tgt := 0) hx hb dX10_advance_36 (by decide) ?_
            obtain ⟨hP9, hD9⟩ := PDq.sub (ws' := [(oX10 w0 v0 v1 v2 v3 v4 g5 g6 (nI ed) g8 v9 (nI nb) g11 g12 v13 (nI ln) g15 (nI (i8 + 1)) g17 g18 g19 g20 g21 g22 g23 g24 g25 g26 v27 v28 v29 v30 v31 v32 v33 v34 v35 v36 v37 (nI ol)), (v9, .inl (cA 0, 700, .inl fb)), (v13, .inl (cA 1, 15, .inr (.inl fkw)))]) hP hD [1, 2, 0] (by decide) rfl
            exact ih8 (i8 + 1)  H _ ls (by omega) (by omega) hP9 hD9 hS (lv_sub hl [0] rfl)
    obtain ⟨hP9, hD9⟩ := PDq.sub (ws' := [(oX10 w0 v0 v1 v2 v3 v4 g5 g6 (nI ed) g8 v9 (nI nb) g11 g12 v13 (nI ln) g15 (nI nx) g17 g18 g19 g20 g21 g22 g23 g24 g25 g26 v27 v28 v29 v30 v31 v32 v33 v34 v35 v36 v37 (nI ol)), (v9, .inl (cA 0, 700, .inl fb)), (v13, .inl (cA 1, 15, .inr (.inl fkw)))]) hP hD [0, 1, 2] (by decide) rfl
    exact loop8 (ta - nx) nx  _ _ ls (by omega) (by omega) hP9 hD9 hS (lv_sub hl [0] rfl)
  · skip
    have hlt : ta ≤ ln := by omega
    have loop10 : ∀ (n10 i10 : Nat) (H : Heap) (locs : List Loc) (ls : Array Slot), i10 + n10 = ta → nx ≤ i10 → va_P D vwCl [(oX10 w0 v0 v1 v2 v3 v4 g5 g6 (nI ed) g8 v9 (nI nb) g11 g12 v13 (nI ln) g15 (nI i10) g17 g18 g19 g20 g21 g22 g23 g24 g25 g26 v27 v28 v29 v30 v31 v32 v33 v34 v35 v36 v37 (nI ol)), (v9, .inl (cA 0, 700, .inl fb)), (v13, .inl (cA 1, 15, .inr (.inl fkw)))] H → va_D A [(oX10 w0 v0 v1 v2 v3 v4 g5 g6 (nI ed) g8 v9 (nI nb) g11 g12 v13 (nI ln) g15 (nI i10) g17 g18 g19 g20 g21 g22 g23 g24 g25 g26 v27 v28 v29 v30 v31 v32 v33 v34 v35 v36 v37 (nI ol)), (v9, .inl (cA 0, 700, .inl fb)), (v13, .inl (cA 1, 15, .inr (.inl fkw)))] → va_S A s.heap H locs → lv_has ls 2 [(0, .ref w0)] → W p l e (headSpec wsX10_advance ({ frames := 1, cells := 0, slots := 0, locals := 23 } : Room)).room s m ([.ref w0] : List Value).toArray below meth c H locs 0 0 (MQ below (va_Qi (fun (r : Int32) (_ : Unit) => r = 1) (fun (_ : Unit) t => ∃ z17 : Int32, ∃ z18 : Int32, ∃ z19 : Int32, ∃ z25 : Int64, TKR kk vv (fb ta) z17 z18 z19 z25 ∧ Wq D A [(oX10 w0 v0 v1 v2 v3 v4 g5 g6 (nI ed) g8 v9 (nI nb) g11 g12 v13 (nI ln) (nI ta) (nI tb) z17 z18 z19 g20 g21 g22 g23 g24 z25 g26 v27 v28 v29 v30 v31 v32 v33 v34 v35 v36 v37 (nI ol)), (v9, .inl (cA 0, 700, .inl fb)), (v13, .inl (cA 1, 15, .inr (.inl fkw)))] t) A) ([.ref w0] : List Value).toArray s 0 0 A) (F0 m 0 ls []) := by
      intro n10
      induction n10 with
      | zero =>
        intro i10 H locs ls hi10 hv0_10 hP hD hS hl
        obtain rfl : ta = i10 := by omega
        refine lv_aload_n hx hb dX10_advance_0 rfl (lv_at hl 0 rfl) ?_
        refine lv_aload_n hx hb dX10_advance_1 rfl (lv_at hl 0 rfl) ?_
        refine va_get (D := D) (ci := 11) (v := .int (nI ta)) (C := RX10) (T := TX10) (N := 39) hx hb hts inX10 hown hK hP 0 rfl rfl 16 (by decide) (hts (.fieldLink RX10 110 "EscrowDeskModel" "next" "I") (by decide +kernel)) (fun _ h9 => h9) rfl dX10_advance_2 ?_
        obtain ⟨hPc, hDc, hFc⟩ := PDq.cut (wc := [(oX10 w0 v0 v1 v2 v3 v4 g5 g6 (nI ed) g8 v9 (nI nb) g11 g12 v13 (nI ln) g15 (nI ta) g17 g18 g19 g20 g21 g22 g23 g24 g25 g26 v27 v28 v29 v30 v31 v32 v33 v34 v35 v36 v37 (nI ol)), (v9, .inl (cA 0, 700, .inl fb))]) hP hD hS hA [0, 1] (by decide) rfl
        refine va_calli (va_runV (As := [.int (nI ta)]) (rest := []) ⟨hx, hb, hml, hown, hts⟩ (y_byteAt l D cA sa w0 ed nb ol v0 v1 v2 v3 v4 v9 v13 v27 v28 v29 v30 v31 v32 v33 v34 v35 v36 v37 g8 g11 g12 g15 (nI ta) g17 g18 g19 g20 g21 g22 g23 g24 g26 g5 g6 g25 ln ta fb H.size hln (by omega)) (cwV 1 hts gX10_advance_X10_byteAt rfl rfl rfl (by decide +kernel) ⟨(Nat.le_of_ble_eq_true rfl), (Nat.le_of_ble_eq_true rfl)⟩) ⟨Wd.blind, va_recv hK hPc (ci := 11) (q0 := 0) rfl rfl, fun U hU hW => ⟨rfl, Wd.call hPc hDc hK hC hZ hS hFc U hU hW⟩⟩ rfl rfl hl.1 rfl (lv_room (Nat.le_of_ble_eq_true rfl)) dX10_advance_5 ⟨(Nat.le_of_ble_eq_true rfl), (Nat.le_of_ble_eq_true rfl)⟩) hS (fun q _ h => hFc q h) hFc (fun rn163 u t H1 locs ht hvm hw hB hz1 hk1 hS => ?_)
        obtain ⟨hP1, hD1⟩ := hB
        rw [ht] at hP1
        obtain ⟨hP, hD⟩ := PDq.join (w := [(v13, .inl (cA 1, 15, .inr (.inl fkw))), (oX10 w0 v0 v1 v2 v3 v4 g5 g6 (nI ed) g8 v9 (nI nb) g11 g12 v13 (nI ln) g15 (nI ta) g17 g18 g19 g20 g21 g22 g23 g24 g25 g26 v27 v28 v29 v30 v31 v32 v33 v34 v35 v36 v37 (nI ol)), (v9, .inl (cA 0, 700, .inl fb))]) 1 hP hD [0, 1] [2] rfl rfl (by decide) (by decide) hk1 hFc hP1 hD1 rfl
        generalize H1 = H at hP hS ⊢
        obtain rfl : rn163 = (bta fb ln ta) := hw
        refine lv_bipush (v := 32) hx hb dX10_advance_8 (by decide) ?_
        refine lv_icmp_eq (tgt := 26) hx hb dX10_advance_10 (by decide) (fun c164 => ?_) (fun c164 => ?_)
        · skip
          rw [bt_in (show ta < ln by omega)] at c164
          rw [c164] at ga3
          exact absurd (by decide) ga3
        · skip
          refine lv_aload_n hx hb dX10_advance_13 rfl (lv_at hl 0 rfl) ?_
          refine lv_aload_n hx hb dX10_advance_14 rfl (lv_at hl 0 rfl) ?_
          refine va_get (D := D) (ci := 11) (v := .int (nI ta)) (C := RX10) (T := TX10) (N := 39) hx hb hts inX10 hown hK hP 1 rfl rfl 16 (by decide) (hts (.fieldLink RX10 110 "EscrowDeskModel" "next" "I") (by decide +kernel)) (fun _ h9 => h9) rfl dX10_advance_15 ?_
          obtain ⟨hPc, hDc, hFc⟩ := PDq.cut (wc := [(oX10 w0 v0 v1 v2 v3 v4 g5 g6 (nI ed) g8 v9 (nI nb) g11 g12 v13 (nI ln) g15 (nI ta) g17 g18 g19 g20 g21 g22 g23 g24 g25 g26 v27 v28 v29 v30 v31 v32 v33 v34 v35 v36 v37 (nI ol)), (v9, .inl (cA 0, 700, .inl fb))]) hP hD hS hA [1, 2] (by decide) rfl
          refine va_calli (va_runV (As := [.int (nI ta)]) (rest := []) ⟨hx, hb, hml, hown, hts⟩ (y_byteAt l D cA sa w0 ed nb ol v0 v1 v2 v3 v4 v9 v13 v27 v28 v29 v30 v31 v32 v33 v34 v35 v36 v37 g8 g11 g12 g15 (nI ta) g17 g18 g19 g20 g21 g22 g23 g24 g26 g5 g6 g25 ln ta fb H.size hln (by omega)) (cwV 1 hts gX10_advance_X10_byteAt rfl rfl rfl (by decide +kernel) ⟨(Nat.le_of_ble_eq_true rfl), (Nat.le_of_ble_eq_true rfl)⟩) ⟨Wd.blind, va_recv hK hPc (ci := 11) (q0 := 0) rfl rfl, fun U hU hW => ⟨rfl, Wd.call hPc hDc hK hC hZ hS hFc U hU hW⟩⟩ rfl rfl hl.1 rfl (lv_room (Nat.le_of_ble_eq_true rfl)) dX10_advance_18 ⟨(Nat.le_of_ble_eq_true rfl), (Nat.le_of_ble_eq_true rfl)⟩) hS (fun q _ h => hFc q h) hFc (fun rn165 u t H1 locs ht hvm hw hB hz1 hk1 hS => ?_)
          obtain ⟨hP1, hD1⟩ := hB
          rw [ht] at hP1
          obtain ⟨hP, hD⟩ := PDq.join (w := [(v13, .inl (cA 1, 15, .inr (.inl fkw))), (oX10 w0 v0 v1 v2 v3 v4 g5 g6 (nI ed) g8 v9 (nI nb) g11 g12 v13 (nI ln) g15 (nI ta) g17 g18 g19 g20 g21 g22 g23 g24 g25 g26 v27 v28 v29 v30 v31 v32 v33 v34 v35 v36 v37 (nI ol)), (v9, .inl (cA 0, 700, .inl fb))]) 1 hP hD [1, 2] [0] rfl rfl (by decide) (by decide) hk1 hFc hP1 hD1 rfl
          generalize H1 = H at hP hS ⊢
          obtain rfl : rn165 = (bta fb ln ta) := hw
          refine lv_bipush (v := 10) hx hb dX10_advance_21 (by decide) ?_
          refine lv_icmp_ne (tgt := 39) hx hb dX10_advance_23 (by decide) (fun c166 => ?_) (fun c166 => ?_)
          · skip
            refine lv_aload_n hx hb dX10_advance_39 rfl (lv_at hl 0 rfl) ?_
            refine lv_aload_n hx hb dX10_advance_40 rfl (lv_at hl 0 rfl) ?_
            refine va_get (D := D) (ci := 11) (v := .int (nI ta)) (C := RX10) (T := TX10) (N := 39) hx hb hts inX10 hown hK hP 1 rfl rfl 16 (by decide) (hts (.fieldLink RX10 110 "EscrowDeskModel" "next" "I") (by decide +kernel)) (fun _ h9 => h9) rfl dX10_advance_41 ?_
            refine va_put (D := D) (ci := 11) (v := .int (nI ta)) (ty := .int) (C := RX10) (T := TX10) (N := 39) hx hb hts inX10 tyX10 tyX10_ok nmX10 hown hK hP hD hS 1 rfl rfl 15 (by decide) (hts (.fieldLink RX10 117 "EscrowDeskModel" "start" "I") (by decide +kernel)) (fun _ h9 => h9) rfl (by decide +kernel) rfl rfl (Nat.le_of_ble_eq_true rfl) dX10_advance_44 (fun H locs hP hD hS => ?_)
            obtain ⟨hP, hD⟩ : PDq D A [(v13, .inl (cA 1, 15, .inr (.inl fkw))), (oX10 w0 v0 v1 v2 v3 v4 g5 g6 (nI ed) g8 v9 (nI nb) g11 g12 v13 (nI ln) (nI ta) (nI ta) g17 g18 g19 g20 g21 g22 g23 g24 g25 g26 v27 v28 v29 v30 v31 v32 v33 v34 v35 v36 v37 (nI ol)), (v9, .inl (cA 0, 700, .inl fb))] H := ⟨hP, hD⟩
            refine lv_aload_n hx hb dX10_advance_47 rfl (lv_at hl 0 rfl) ?_
            refine lv_iconst (v := (-1)) hx hb dX10_advance_48 (by decide) ?_
            refine va_put (D := D) (ci := 11) (v := .int (-1)) (ty := .int) (C := RX10) (T := TX10) (N := 39) hx hb hts inX10 tyX10 tyX10_ok nmX10 hown hK hP hD hS 1 rfl rfl 18 (by decide) (hts (.fieldLink RX10 120 "EscrowDeskModel" "keyword" "I") (by decide +kernel)) (fun _ h9 => h9) rfl (by decide +kernel) rfl rfl (Nat.le_of_ble_eq_true rfl) dX10_advance_49 (fun H locs hP hD hS => ?_)
            obtain ⟨hP, hD⟩ : PDq D A [(v13, .inl (cA 1, 15, .inr (.inl fkw))), (oX10 w0 v0 v1 v2 v3 v4 g5 g6 (nI ed) g8 v9 (nI nb) g11 g12 v13 (nI ln) (nI ta) (nI ta) g17 (-1) g19 g20 g21 g22 g23 g24 g25 g26 v27 v28 v29 v30 v31 v32 v33 v34 v35 v36 v37 (nI ol)), (v9, .inl (cA 0, 700, .inl fb))] H := ⟨hP, hD⟩
            refine lv_aload_n hx hb dX10_advance_52 rfl (lv_at hl 0 rfl) ?_
            refine lv_lconst (v := 0) hx hb dX10_advance_53 (by decide) ?_
            refine va_put (D := D) (ci := 11) (v := .long 0) (ty := .long) (C := RX10) (T := TX10) (N := 39) hx hb hts inX10 tyX10 tyX10_ok nmX10 hown hK hP hD hS 1 rfl rfl 25 (by decide) (hts (.fieldLink RX10 123 "EscrowDeskModel" "word" "J") (by decide +kernel)) (fun _ h9 => h9) rfl (by decide +kernel) rfl rfl (Nat.le_of_ble_eq_true rfl) dX10_advance_54 (fun H locs hP hD hS => ?_)
            obtain ⟨hP, hD⟩ : PDq D A [(v13, .inl (cA 1, 15, .inr (.inl fkw))), (oX10 w0 v0 v1 v2 v3 v4 g5 g6 (nI ed) g8 v9 (nI nb) g11 g12 v13 (nI ln) (nI ta) (nI ta) g17 (-1) g19 g20 g21 g22 g23 g24 0 g26 v27 v28 v29 v30 v31 v32 v33 v34 v35 v36 v37 (nI ol)), (v9, .inl (cA 0, 700, .inl fb))] H := ⟨hP, hD⟩
            refine lv_aload_n hx hb dX10_advance_57 rfl (lv_at hl 0 rfl) ?_
            refine lv_aload_n hx hb dX10_advance_58 rfl (lv_at hl 0 rfl) ?_
            refine va_get (D := D) (ci := 11) (v := .int (nI ta)) (C := RX10) (T := TX10) (N := 39) hx hb hts inX10 hown hK hP 1 rfl rfl 16 (by decide) (hts (.fieldLink RX10 110 "EscrowDeskModel" "next" "I") (by decide +kernel)) (fun _ h9 => h9) rfl dX10_advance_59 ?_
            obtain ⟨hPc, hDc, hFc⟩ := PDq.cut (wc := [(oX10 w0 v0 v1 v2 v3 v4 g5 g6 (nI ed) g8 v9 (nI nb) g11 g12 v13 (nI ln) (nI ta) (nI ta) g17 (-1) g19 g20 g21 g22 g23 g24 0 g26 v27 v28 v29 v30 v31 v32 v33 v34 v35 v36 v37 (nI ol)), (v9, .inl (cA 0, 700, .inl fb))]) hP hD hS hA [1, 2] (by decide) rfl
            refine va_calli (va_runV (As := [.int (nI ta)]) (rest := []) ⟨hx, hb, hml, hown, hts⟩ (y_byteAt l D cA sa w0 ed nb ol v0 v1 v2 v3 v4 v9 v13 v27 v28 v29 v30 v31 v32 v33 v34 v35 v36 v37 g8 g11 g12 (nI ta) (nI ta) g17 (-1) g19 g20 g21 g22 g23 g24 g26 g5 g6 0 ln ta fb H.size hln (by omega)) (cwV 1 hts gX10_advance_X10_byteAt rfl rfl rfl (by decide +kernel) ⟨(Nat.le_of_ble_eq_true rfl), (Nat.le_of_ble_eq_true rfl)⟩) ⟨Wd.blind, va_recv hK hPc (ci := 11) (q0 := 0) rfl rfl, fun U hU hW => ⟨rfl, Wd.call hPc hDc hK hC hZ hS hFc U hU hW⟩⟩ rfl rfl hl.1 rfl (lv_room (Nat.le_of_ble_eq_true rfl)) dX10_advance_62 ⟨(Nat.le_of_ble_eq_true rfl), (Nat.le_of_ble_eq_true rfl)⟩) hS (fun q _ h => hFc q h) hFc (fun rn167 u t H1 locs ht hvm hw hB hz1 hk1 hS => ?_)
            obtain ⟨hP1, hD1⟩ := hB
            rw [ht] at hP1
            obtain ⟨hP, hD⟩ := PDq.join (w := [(v13, .inl (cA 1, 15, .inr (.inl fkw))), (oX10 w0 v0 v1 v2 v3 v4 g5 g6 (nI ed) g8 v9 (nI nb) g11 g12 v13 (nI ln) (nI ta) (nI ta) g17 (-1) g19 g20 g21 g22 g23 g24 0 g26 v27 v28 v29 v30 v31 v32 v33 v34 v35 v36 v37 (nI ol)), (v9, .inl (cA 0, 700, .inl fb))]) 1 hP hD [1, 2] [0] rfl rfl (by decide) (by decide) hk1 hFc hP1 hD1 rfl
            generalize H1 = H at hP hS ⊢
            obtain rfl : rn167 = (bta fb ln ta) := hw
            refine lv_istore_n (lv' := [(1, .int (bta fb ln ta)), (0, .ref w0)]) hx hb dX10_advance_65 rfl hl (by decide) rfl (fun ls hl => ?_)
            refine lv_iload_n hx hb dX10_advance_66 rfl (lv_at hl 0 rfl) ?_
            refine lv_iconst (v := (-1)) hx hb dX10_advance_67 (by decide) ?_
            refine lv_icmp_ne (tgt := 79) hx hb dX10_advance_68 (by decide) (fun c168 => ?_) (fun c9 => absurd c9 (by rw [bt_in (show ta < ln by omega)]; exact fun h9 => hBY ta (by omega) (by rw [h9]; decide)))
            refine lv_iload_n hx hb dX10_advance_79 rfl (lv_at hl 0 rfl) ?_
            obtain ⟨hPc, hDc, hFc⟩ := PDq.cut (wc := []) hP hD hS hA [] (by decide) rfl
            refine va_calli (va_runS (As := [.int (bta fb ln ta)]) (rest := []) ⟨hx, hb, hml, hown, hts⟩ (y_isLetter l D cA sa (bta fb ln ta) H.size) (va_cwS 1 hts gX10_advance_X10_isLetter rfl rfl rfl (by decide +kernel) ⟨(Nat.le_of_ble_eq_true rfl), (Nat.le_of_ble_eq_true rfl)⟩) ⟨Wd.blind, fun U hU hW => ⟨rfl, Wd.call hPc hDc hK hC hZ hS hFc U hU hW⟩⟩ rfl rfl hl.1 rfl (lv_room (Nat.le_of_ble_eq_true rfl)) dX10_advance_80 ⟨(Nat.le_of_ble_eq_true rfl), (Nat.le_of_ble_eq_true rfl)⟩) hS (fun q _ h => hFc q h) hFc (fun rn169 u t H1 locs ht hvm hw hB hz1 hk1 hS => ?_)
            obtain ⟨hP1, hD1⟩ := hB
            rw [ht] at hP1
            obtain ⟨hP, hD⟩ := PDq.join (w := [(v13, .inl (cA 1, 15, .inr (.inl fkw))), (oX10 w0 v0 v1 v2 v3 v4 g5 g6 (nI ed) g8 v9 (nI nb) g11 g12 v13 (nI ln) (nI ta) (nI ta) g17 (-1) g19 g20 g21 g22 g23 g24 0 g26 v27 v28 v29 v30 v31 v32 v33 v34 v35 v36 v37 (nI ol)), (v9, .inl (cA 0, 700, .inl fb))]) 3 hP hD [] [0, 1, 2] rfl rfl (by decide) (by decide) hk1 hFc hP1 hD1 rfl
            generalize H1 = H at hP hS ⊢
            rcases hw with ⟨hr9, hn170⟩ | ⟨hr9, hn170⟩
            · skip
              subst hr9
              exact absurd (ckd_4.mpr (by rw [bt_in (show ta < ln by omega)] at hn170; exact hn170)) ga1
            · skip
              subst hr9
              refine lv_if_eq (tgt := 210) hx hb dX10_advance_83 (by decide) (fun c171 => ?_) (fun c9 => absurd c9 (by decide))
              refine lv_iload_n hx hb dX10_advance_210 rfl (lv_at hl 0 rfl) ?_
              obtain ⟨hPc, hDc, hFc⟩ := PDq.cut (wc := []) hP hD hS hA [] (by decide) rfl
              refine va_calli (va_runS (As := [.int (bta fb ln ta)]) (rest := []) ⟨hx, hb, hml, hown, hts⟩ (y_isDigit l D cA sa (bta fb ln ta) H.size) (va_cwS 1 hts gX10_advance_X10_isDigit rfl rfl rfl (by decide +kernel) ⟨(Nat.le_of_ble_eq_true rfl), (Nat.le_of_ble_eq_true rfl)⟩) ⟨Wd.blind, fun U hU hW => ⟨rfl, Wd.call hPc hDc hK hC hZ hS hFc U hU hW⟩⟩ rfl rfl hl.1 rfl (lv_room (Nat.le_of_ble_eq_true rfl)) dX10_advance_211 ⟨(Nat.le_of_ble_eq_true rfl), (Nat.le_of_ble_eq_true rfl)⟩) hS (fun q _ h => hFc q h) hFc (fun rn172 u t H1 locs ht hvm hw hB hz1 hk1 hS => ?_)
              obtain ⟨hP1, hD1⟩ := hB
              rw [ht] at hP1
              obtain ⟨hP, hD⟩ := PDq.join (w := [(v13, .inl (cA 1, 15, .inr (.inl fkw))), (oX10 w0 v0 v1 v2 v3 v4 g5 g6 (nI ed) g8 v9 (nI nb) g11 g12 v13 (nI ln) (nI ta) (nI ta) g17 (-1) g19 g20 g21 g22 g23 g24 0 g26 v27 v28 v29 v30 v31 v32 v33 v34 v35 v36 v37 (nI ol)), (v9, .inl (cA 0, 700, .inl fb))]) 3 hP hD [] [0, 1, 2] rfl rfl (by decide) (by decide) hk1 hFc hP1 hD1 rfl
              generalize H1 = H at hP hS ⊢
              rcases hw with ⟨hr9, hn173⟩ | ⟨hr9, hn173⟩
              · skip
                subst hr9
                exact absurd (ckd_3.mpr (by rw [bt_in (show ta < ln by omega)] at hn173; exact hn173)) ga2
              · skip
                subst hr9
                refine lv_if_eq (tgt := 317) hx hb dX10_advance_214 (by decide) (fun c174 => ?_) (fun c9 => absurd c9 (by decide))
                refine lv_aload_n hx hb dX10_advance_317 rfl (lv_at hl 1 rfl) ?_
                refine lv_dup hx hb dX10_advance_318 rfl ?_
                refine va_get (D := D) (ci := 11) (v := .int (nI ta)) (C := RX10) (T := TX10) (N := 39) hx hb hts inX10 hown hK hP 1 rfl rfl 16 (by decide) (hts (.fieldLink RX10 110 "EscrowDeskModel" "next" "I") (by decide +kernel)) (fun _ h9 => h9) rfl dX10_advance_319 ?_
                refine lv_iconst (v := 1) hx hb dX10_advance_322 (by decide) ?_
                refine lv_iadd hx hb dX10_advance_323 ?_
                refine lv_topi (fun yn175 eyn175 => ?_)
                obtain rfl : yn175 = (nI (ta + 1)) := eyn175.trans (nI_add ta 1)
                refine va_put (D := D) (ci := 11) (v := .int (nI (ta + 1))) (ty := .int) (C := RX10) (T := TX10) (N := 39) hx hb hts inX10 tyX10 tyX10_ok nmX10 hown hK hP hD hS 1 rfl rfl 16 (by decide) (hts (.fieldLink RX10 110 "EscrowDeskModel" "next" "I") (by decide +kernel)) (fun _ h9 => h9) rfl (by decide +kernel) rfl rfl (Nat.le_of_ble_eq_true rfl) dX10_advance_324 (fun H locs hP hD hS => ?_)
                obtain ⟨hP, hD⟩ : PDq D A [(v13, .inl (cA 1, 15, .inr (.inl fkw))), (oX10 w0 v0 v1 v2 v3 v4 g5 g6 (nI ed) g8 v9 (nI nb) g11 g12 v13 (nI ln) (nI ta) (nI (ta + 1)) g17 (-1) g19 g20 g21 g22 g23 g24 0 g26 v27 v28 v29 v30 v31 v32 v33 v34 v35 v36 v37 (nI ol)), (v9, .inl (cA 0, 700, .inl fb))] H := ⟨hP, hD⟩
                refine lv_aload_n hx hb dX10_advance_327 rfl (lv_at hl 1 rfl) ?_
                refine lv_iload_n hx hb dX10_advance_328 rfl (lv_at hl 0 rfl) ?_
                refine lv_bipush (v := 59) hx hb dX10_advance_329 (by decide) ?_
                refine lv_icmp_eq (tgt := 346) hx hb dX10_advance_331 (by decide) (fun c176 => ?_) (fun c176 => ?_)
                · skip
                  refine lv_iconst (v := 4) hx hb dX10_advance_346 (by decide) ?_
                  refine lv_goto (tgt := 351) hx hb dX10_advance_347 (by decide) ?_
                  refine va_put (D := D) (ci := 11) (v := .int 4) (ty := .int) (C := RX10) (T := TX10) (N := 39) hx hb hts inX10 tyX10 tyX10_ok nmX10 hown hK hP hD hS 1 rfl rfl 17 (by decide) (hts (.fieldLink RX10 126 "EscrowDeskModel" "token" "I") (by decide +kernel)) (fun _ h9 => h9) rfl (by decide +kernel) rfl rfl (Nat.le_of_ble_eq_true rfl) dX10_advance_351 (fun H locs hP hD hS => ?_)
                  obtain ⟨hP, hD⟩ : PDq D A [(v13, .inl (cA 1, 15, .inr (.inl fkw))), (oX10 w0 v0 v1 v2 v3 v4 g5 g6 (nI ed) g8 v9 (nI nb) g11 g12 v13 (nI ln) (nI ta) (nI (ta + 1)) 4 (-1) g19 g20 g21 g22 g23 g24 0 g26 v27 v28 v29 v30 v31 v32 v33 v34 v35 v36 v37 (nI ol)), (v9, .inl (cA 0, 700, .inl fb))] H := ⟨hP, hD⟩
                  have hP : va_P D vwCl [(v13, .inl (cA 1, 15, .inr (.inl fkw))), (oX10 w0 v0 v1 v2 v3 v4 g5 g6 (nI ed) g8 v9 (nI nb) g11 g12 v13 (nI ln) (nI ta) (nI tb) 4 (-1) g19 g20 g21 g22 g23 g24 0 g26 v27 v28 v29 v30 v31 v32 v33 v34 v35 v36 v37 (nI ol)), (v9, .inl (cA 0, 700, .inl fb))] H := by rw [ga0]; exact hP
                  have hD : va_D A [(v13, .inl (cA 1, 15, .inr (.inl fkw))), (oX10 w0 v0 v1 v2 v3 v4 g5 g6 (nI ed) g8 v9 (nI nb) g11 g12 v13 (nI ln) (nI ta) (nI tb) 4 (-1) g19 g20 g21 g22 g23 g24 0 g26 v27 v28 v29 v30 v31 v32 v33 v34 v35 v36 v37 (nI ol)), (v9, .inl (cA 0, 700, .inl fb))] := by rw [ga0]; exact hD
                  refine lv_iconst (v := 1) hx hb dX10_advance_354 (by decide) ?_
                  obtain ⟨hP9, hD9⟩ := PDq.sub (ws' := [(oX10 w0 v0 v1 v2 v3 v4 g5 g6 (nI ed) g8 v9 (nI nb) g11 g12 v13 (nI ln) (nI ta) (nI tb) 4 (-1) g19 g20 g21 g22 g23 g24 0 g26 v27 v28 v29 v30 v31 v32 v33 v34 v35 v36 v37 (nI ol)), (v9, .inl (cA 0, 700, .inl fb)), (v13, .inl (cA 1, 15, .inr (.inl fkw)))]) hP hD [1, 2, 0] (by decide) rfl
                  refine W.widen (k := 0) (n := 0) (Nat.le_of_ble_eq_true rfl) (Nat.le_of_ble_eq_true rfl) ?_
                  exact (W.zret (v := 1) hx hb hr (by first | rfl | decide) (fun t ht hW => ⟨⟨1, (), rfl, rfl, 4, (-1), g19, 0, (Or.inr (Or.inr (Or.inr (Or.inr (Or.inr (Or.inr (Or.inr ⟨by have q8 : fb ta = 59 := (by have q9 := c176; rw [bt_in (show ta < ln by omega)] at q9; exact q9); rw [show kk = ckd (fb ta) by rw [ge9, ga4, kwm_not _ ga1], q8]; decide, rfl, (by have q9 := c176; rw [bt_in (show ta < ln by omega)] at q9; exact q9)⟩))))))), by rw [ht]; exact hP9, hD9⟩, hS.F ht⟩) hS.2.2 dX10_advance_355)
                · skip
                  refine lv_iload_n hx hb dX10_advance_334 rfl (lv_at hl 0 rfl) ?_
                  refine lv_bipush (v := 40) hx hb dX10_advance_335 (by decide) ?_
                  refine lv_icmp_eq (tgt := 346) hx hb dX10_advance_337 (by decide) (fun c177 => ?_) (fun c177 => ?_)
                  · skip
                    refine lv_iconst (v := 4) hx hb dX10_advance_346 (by decide) ?_
                    refine lv_goto (tgt := 351) hx hb dX10_advance_347 (by decide) ?_
                    refine va_put (D := D) (ci := 11) (v := .int 4) (ty := .int) (C := RX10) (T := TX10) (N := 39) hx hb hts inX10 tyX10 tyX10_ok nmX10 hown hK hP hD hS 1 rfl rfl 17 (by decide) (hts (.fieldLink RX10 126 "EscrowDeskModel" "token" "I") (by decide +kernel)) (fun _ h9 => h9) rfl (by decide +kernel) rfl rfl (Nat.le_of_ble_eq_true rfl) dX10_advance_351 (fun H locs hP hD hS => ?_)
                    obtain ⟨hP, hD⟩ : PDq D A [(v13, .inl (cA 1, 15, .inr (.inl fkw))), (oX10 w0 v0 v1 v2 v3 v4 g5 g6 (nI ed) g8 v9 (nI nb) g11 g12 v13 (nI ln) (nI ta) (nI (ta + 1)) 4 (-1) g19 g20 g21 g22 g23 g24 0 g26 v27 v28 v29 v30 v31 v32 v33 v34 v35 v36 v37 (nI ol)), (v9, .inl (cA 0, 700, .inl fb))] H := ⟨hP, hD⟩
                    have hP : va_P D vwCl [(v13, .inl (cA 1, 15, .inr (.inl fkw))), (oX10 w0 v0 v1 v2 v3 v4 g5 g6 (nI ed) g8 v9 (nI nb) g11 g12 v13 (nI ln) (nI ta) (nI tb) 4 (-1) g19 g20 g21 g22 g23 g24 0 g26 v27 v28 v29 v30 v31 v32 v33 v34 v35 v36 v37 (nI ol)), (v9, .inl (cA 0, 700, .inl fb))] H := by rw [ga0]; exact hP
                    have hD : va_D A [(v13, .inl (cA 1, 15, .inr (.inl fkw))), (oX10 w0 v0 v1 v2 v3 v4 g5 g6 (nI ed) g8 v9 (nI nb) g11 g12 v13 (nI ln) (nI ta) (nI tb) 4 (-1) g19 g20 g21 g22 g23 g24 0 g26 v27 v28 v29 v30 v31 v32 v33 v34 v35 v36 v37 (nI ol)), (v9, .inl (cA 0, 700, .inl fb))] := by rw [ga0]; exact hD
                    refine lv_iconst (v := 1) hx hb dX10_advance_354 (by decide) ?_
                    obtain ⟨hP9, hD9⟩ := PDq.sub (ws' := [(oX10 w0 v0 v1 v2 v3 v4 g5 g6 (nI ed) g8 v9 (nI nb) g11 g12 v13 (nI ln) (nI ta) (nI tb) 4 (-1) g19 g20 g21 g22 g23 g24 0 g26 v27 v28 v29 v30 v31 v32 v33 v34 v35 v36 v37 (nI ol)), (v9, .inl (cA 0, 700, .inl fb)), (v13, .inl (cA 1, 15, .inr (.inl fkw)))]) hP hD [1, 2, 0] (by decide) rfl
                    refine W.widen (k := 0) (n := 0) (Nat.le_of_ble_eq_true rfl) (Nat.le_of_ble_eq_true rfl) ?_
                    exact (W.zret (v := 1) hx hb hr (by first | rfl | decide) (fun t ht hW => ⟨⟨1, (), rfl, rfl, 4, (-1), g19, 0, (Or.inr (Or.inr (Or.inr (Or.inr (Or.inr (Or.inl ⟨by have q8 : fb ta = 40 := (by have q9 := c177; rw [bt_in (show ta < ln by omega)] at q9; exact q9); rw [show kk = ckd (fb ta) by rw [ge9, ga4, kwm_not _ ga1], q8]; decide, rfl, (by have q9 := c177; rw [bt_in (show ta < ln by omega)] at q9; exact q9)⟩)))))), by rw [ht]; exact hP9, hD9⟩, hS.F ht⟩) hS.2.2 dX10_advance_355)
                  · skip
                    refine lv_iload_n hx hb dX10_advance_340 rfl (lv_at hl 0 rfl) ?_
                    refine lv_bipush (v := 41) hx hb dX10_advance_341 (by decide) ?_
                    refine lv_icmp_ne (tgt := 350) hx hb dX10_advance_343 (by decide) (fun c178 => ?_) (fun c178 => ?_)
                    · skip
                      refine lv_iconst (v := 1) hx hb dX10_advance_350 (by decide) ?_
                      refine va_put (D := D) (ci := 11) (v := .int 1) (ty := .int) (C := RX10) (T := TX10) (N := 39) hx hb hts inX10 tyX10 tyX10_ok nmX10 hown hK hP hD hS 1 rfl rfl 17 (by decide) (hts (.fieldLink RX10 126 "EscrowDeskModel" "token" "I") (by decide +kernel)) (fun _ h9 => h9) rfl (by decide +kernel) rfl rfl (Nat.le_of_ble_eq_true rfl) dX10_advance_351 (fun H locs hP hD hS => ?_)
                      obtain ⟨hP, hD⟩ : PDq D A [(v13, .inl (cA 1, 15, .inr (.inl fkw))), (oX10 w0 v0 v1 v2 v3 v4 g5 g6 (nI ed) g8 v9 (nI nb) g11 g12 v13 (nI ln) (nI ta) (nI (ta + 1)) 1 (-1) g19 g20 g21 g22 g23 g24 0 g26 v27 v28 v29 v30 v31 v32 v33 v34 v35 v36 v37 (nI ol)), (v9, .inl (cA 0, 700, .inl fb))] H := ⟨hP, hD⟩
                      have hP : va_P D vwCl [(v13, .inl (cA 1, 15, .inr (.inl fkw))), (oX10 w0 v0 v1 v2 v3 v4 g5 g6 (nI ed) g8 v9 (nI nb) g11 g12 v13 (nI ln) (nI ta) (nI tb) 1 (-1) g19 g20 g21 g22 g23 g24 0 g26 v27 v28 v29 v30 v31 v32 v33 v34 v35 v36 v37 (nI ol)), (v9, .inl (cA 0, 700, .inl fb))] H := by rw [ga0]; exact hP
                      have hD : va_D A [(v13, .inl (cA 1, 15, .inr (.inl fkw))), (oX10 w0 v0 v1 v2 v3 v4 g5 g6 (nI ed) g8 v9 (nI nb) g11 g12 v13 (nI ln) (nI ta) (nI tb) 1 (-1) g19 g20 g21 g22 g23 g24 0 g26 v27 v28 v29 v30 v31 v32 v33 v34 v35 v36 v37 (nI ol)), (v9, .inl (cA 0, 700, .inl fb))] := by rw [ga0]; exact hD
                      refine lv_iconst (v := 1) hx hb dX10_advance_354 (by decide) ?_
                      obtain ⟨hP9, hD9⟩ := PDq.sub (ws' := [(oX10 w0 v0 v1 v2 v3 v4 g5 g6 (nI ed) g8 v9 (nI nb) g11 g12 v13 (nI ln) (nI ta) (nI tb) 1 (-1) g19 g20 g21 g22 g23 g24 0 g26 v27 v28 v29 v30 v31 v32 v33 v34 v35 v36 v37 (nI ol)), (v9, .inl (cA 0, 700, .inl fb)), (v13, .inl (cA 1, 15, .inr (.inl fkw)))]) hP hD [1, 2, 0] (by decide) rfl
                      refine W.widen (k := 0) (n := 0) (Nat.le_of_ble_eq_true rfl) (Nat.le_of_ble_eq_true rfl) ?_
                      exact (W.zret (v := 1) hx hb hr (by first | rfl | decide) (fun t ht hW => ⟨⟨1, (), rfl, rfl, 1, (-1), g19, 0, (Or.inr (Or.inl ⟨by rw [show kk = ckd (fb ta) by rw [ge9, ga4, kwm_not _ ga1]]; exact ckd_i ga1 ga2 ga3 (fun z9 => c177 (by rw [bt_in (show ta < ln by omega)]; exact z9)) (fun z9 => c178 (by rw [bt_in (show ta < ln by omega)]; exact z9)) (fun z9 => c176 (by rw [bt_in (show ta < ln by omega)]; exact z9)), rfl⟩)), by rw [ht]; exact hP9, hD9⟩, hS.F ht⟩) hS.2.2 dX10_advance_355)
                    · skip
                      refine lv_iconst (v := 4) hx hb dX10_advance_346 (by decide) ?_
                      refine lv_goto (tgt := 351) hx hb dX10_advance_347 (by decide) ?_
                      refine va_put (D := D) (ci := 11) (v := .int 4) (ty := .int) (C := RX10) (T := TX10) (N := 39) hx hb hts inX10 tyX10 tyX10_ok nmX10 hown hK hP hD hS 1 rfl rfl 17 (by decide) (hts (.fieldLink RX10 126 "EscrowDeskModel" "token" "I") (by decide +kernel)) (fun _ h9 => h9) rfl (by decide +kernel) rfl rfl (Nat.le_of_ble_eq_true rfl) dX10_advance_351 (fun H locs hP hD hS => ?_)
                      obtain ⟨hP, hD⟩ : PDq D A [(v13, .inl (cA 1, 15, .inr (.inl fkw))), (oX10 w0 v0 v1 v2 v3 v4 g5 g6 (nI ed) g8 v9 (nI nb) g11 g12 v13 (nI ln) (nI ta) (nI (ta + 1)) 4 (-1) g19 g20 g21 g22 g23 g24 0 g26 v27 v28 v29 v30 v31 v32 v33 v34 v35 v36 v37 (nI ol)), (v9, .inl (cA 0, 700, .inl fb))] H := ⟨hP, hD⟩
                      have hP : va_P D vwCl [(v13, .inl (cA 1, 15, .inr (.inl fkw))), (oX10 w0 v0 v1 v2 v3 v4 g5 g6 (nI ed) g8 v9 (nI nb) g11 g12 v13 (nI ln) (nI ta) (nI tb) 4 (-1) g19 g20 g21 g22 g23 g24 0 g26 v27 v28 v29 v30 v31 v32 v33 v34 v35 v36 v37 (nI ol)), (v9, .inl (cA 0, 700, .inl fb))] H := by rw [ga0]; exact hP
                      have hD : va_D A [(v13, .inl (cA 1, 15, .inr (.inl fkw))), (oX10 w0 v0 v1 v2 v3 v4 g5 g6 (nI ed) g8 v9 (nI nb) g11 g12 v13 (nI ln) (nI ta) (nI tb) 4 (-1) g19 g20 g21 g22 g23 g24 0 g26 v27 v28 v29 v30 v31 v32 v33 v34 v35 v36 v37 (nI ol)), (v9, .inl (cA 0, 700, .inl fb))] := by rw [ga0]; exact hD
                      refine lv_iconst (v := 1) hx hb dX10_advance_354 (by decide) ?_
                      obtain ⟨hP9, hD9⟩ := PDq.sub (ws' := [(oX10 w0 v0 v1 v2 v3 v4 g5 g6 (nI ed) g8 v9 (nI nb) g11 g12 v13 (nI ln) (nI ta) (nI tb) 4 (-1) g19 g20 g21 g22 g23 g24 0 g26 v27 v28 v29 v30 v31 v32 v33 v34 v35 v36 v37 (nI ol)), (v9, .inl (cA 0, 700, .inl fb)), (v13, .inl (cA 1, 15, .inr (.inl fkw)))]) hP hD [1, 2, 0] (by decide) rfl
                      refine W.widen (k := 0) (n := 0) (Nat.le_of_ble_eq_true rfl) (Nat.le_of_ble_eq_true rfl) ?_
                      exact (W.zret (v := 1) hx hb hr (by first | rfl | decide) (fun t ht hW => ⟨⟨1, (), rfl, rfl, 4, (-1), g19, 0, (Or.inr (Or.inr (Or.inr (Or.inr (Or.inr (Or.inr (Or.inl ⟨by have q8 : fb ta = 41 := (by have q9 := c178; rw [bt_in (show ta < ln by omega)] at q9; exact q9); rw [show kk = ckd (fb ta) by rw [ge9, ga4, kwm_not _ ga1], q8]; decide, rfl, (by have q9 := c178; rw [bt_in (show ta < ln by omega)] at q9; exact q9)⟩))))))), by rw [ht]; exact hP9, hD9⟩, hS.F ht⟩) hS.2.2 dX10_advance_355)
          · skip
            rw [bt_in (show ta < ln by omega)] at c166
            rw [c166] at ga3
            exact absurd (by decide) ga3
      | succ n10 ih10 =>
        intro i10 H locs ls hi10 hv0_10 hP hD hS hl
        refine lv_aload_n hx hb dX10_advance_0 rfl (lv_at hl 0 rfl) ?_
        refine lv_aload_n hx hb dX10_advance_1 rfl (lv_at hl 0 rfl) ?_
        refine va_get (D := D) (ci := 11) (v := .int (nI i10)) (C := RX10) (T := TX10) (N := 39) hx hb hts inX10 hown hK hP 0 rfl rfl 16 (by decide) (hts (.fieldLink RX10 110 "EscrowDeskModel" "next" "I") (by decide +kernel)) (fun _ h9 => h9) rfl dX10_advance_2 ?_
        obtain ⟨hPc, hDc, hFc⟩ := PDq.cut (wc := [(oX10 w0 v0 v1 v2 v3 v4 g5 g6 (nI ed) g8 v9 (nI nb) g11 g12 v13 (nI ln) g15 (nI i10) g17 g18 g19 g20 g21 g22 g23 g24 g25 g26 v27 v28 v29 v30 v31 v32 v33 v34 v35 v36 v37 (nI ol)), (v9, .inl (cA 0, 700, .inl fb))]) hP hD hS hA [0, 1] (by decide) rfl
        refine va_calli (va_runV (As := [.int (nI i10)]) (rest := []) ⟨hx, hb, hml, hown, hts⟩ (y_byteAt l D cA sa w0 ed nb ol v0 v1 v2 v3 v4 v9 v13 v27 v28 v29 v30 v31 v32 v33 v34 v35 v36 v37 g8 g11 g12 g15 (nI i10) g17 g18 g19 g20 g21 g22 g23 g24 g26 g5 g6 g25 ln i10 fb H.size hln (by omega)) (cwV 1 hts gX10_advance_X10_byteAt rfl rfl rfl (by decide +kernel) ⟨(Nat.le_of_ble_eq_true rfl), (Nat.le_of_ble_eq_true rfl)⟩) ⟨Wd.blind, va_recv hK hPc (ci := 11) (q0 := 0) rfl rfl, fun U hU hW => ⟨rfl, Wd.call hPc hDc hK hC hZ hS hFc U hU hW⟩⟩ rfl rfl hl.1 rfl (lv_room (Nat.le_of_ble_eq_true rfl)) dX10_advance_5 ⟨(Nat.le_of_ble_eq_true rfl), (Nat.le_of_ble_eq_true rfl)⟩) hS (fun q _ h => hFc q h) hFc (fun rn179 u t H1 locs ht hvm hw hB hz1 hk1 hS => ?_)
        obtain ⟨hP1, hD1⟩ := hB
        rw [ht] at hP1
        obtain ⟨hP, hD⟩ := PDq.join (w := [(v13, .inl (cA 1, 15, .inr (.inl fkw))), (oX10 w0 v0 v1 v2 v3 v4 g5 g6 (nI ed) g8 v9 (nI nb) g11 g12 v13 (nI ln) g15 (nI i10) g17 g18 g19 g20 g21 g22 g23 g24 g25 g26 v27 v28 v29 v30 v31 v32 v33 v34 v35 v36 v37 (nI ol)), (v9, .inl (cA 0, 700, .inl fb))]) 1 hP hD [0, 1] [2] rfl rfl (by decide) (by decide) hk1 hFc hP1 hD1 rfl
        generalize H1 = H at hP hS ⊢
        obtain rfl : rn179 = (bta fb ln i10) := hw
        refine lv_bipush (v := 32) hx hb dX10_advance_8 (by decide) ?_
        refine lv_icmp_eq (tgt := 26) hx hb dX10_advance_10 (by decide) (fun c180 => ?_) (fun c180 => ?_)
        · skip
          refine lv_aload_n hx hb dX10_advance_26 rfl (lv_at hl 0 rfl) ?_
          refine lv_dup hx hb dX10_advance_27 rfl ?_
          refine va_get (D := D) (ci := 11) (v := .int (nI i10)) (C := RX10) (T := TX10) (N := 39) hx hb hts inX10 hown hK hP 1 rfl rfl 16 (by decide) (hts (.fieldLink RX10 110 "EscrowDeskModel" "next" "I") (by decide +kernel)) (fun _ h9 => h9) rfl dX10_advance_28 ?_
          refine lv_iconst (v := 1) hx hb dX10_advance_31 (by decide) ?_
          refine lv_iadd hx hb dX10_advance_32 ?_
          refine lv_topi (fun yn181 eyn181 => ?_)
          obtain rfl : yn181 = (nI (i10 + 1)) := eyn181.trans (nI_add i10 1)
          refine va_put (D := D) (ci := 11) (v := .int (nI (i10 + 1))) (ty := .int) (C := RX10) (T := TX10) (N := 39) hx hb hts inX10 tyX10 tyX10_ok nmX10 hown hK hP hD hS 1 rfl rfl 16 (by decide) (hts (.fieldLink RX10 110 "EscrowDeskModel" "next" "I") (by decide +kernel)) (fun _ h9 => h9) rfl (by decide +kernel) rfl rfl (Nat.le_of_ble_eq_true rfl) dX10_advance_33 (fun H locs hP hD hS => ?_)
          obtain ⟨hP, hD⟩ : PDq D A [(v13, .inl (cA 1, 15, .inr (.inl fkw))), (oX10 w0 v0 v1 v2 v3 v4 g5 g6 (nI ed) g8 v9 (nI nb) g11 g12 v13 (nI ln) g15 (nI (i10 + 1)) g17 g18 g19 g20 g21 g22 g23 g24 g25 g26 v27 v28 v29 v30 v31 v32 v33 v34 v35 v36 v37 (nI ol)), (v9, .inl (cA 0, 700, .inl fb))] H := ⟨hP, hD⟩
          refine lv_goto (tgt := 0) hx hb dX10_advance_36 (by decide) ?_
          obtain ⟨hP9, hD9⟩ := PDq.sub (ws' := [(oX10 w0 v0 v1 v2 v3 v4 g5 g6 (nI ed) g8 v9 (nI nb) g11 g12 v13 (nI ln) g15 (nI (i10 + 1)) g17 g18 g19 g20 g21 g22 g23 g24 g25 g26 v27 v28 v29 v30 v31 v32 v33 v34 v35 v36 v37 (nI ol)), (v9, .inl (cA 0, 700, .inl fb)), (v13, .inl (cA 1, 15, .inr (.inl fkw)))]) hP hD [1, 2, 0] (by decide) rfl
          exact ih10 (i10 + 1)  H _ ls (by omega) (by omega) hP9 hD9 hS (lv_sub hl [0] rfl)
        · skip
          refine lv_aload_n hx hb dX10_advance_13 rfl (lv_at hl 0 rfl) ?_
          refine lv_aload_n hx hb dX10_advance_14 rfl (lv_at hl 0 rfl) ?_
          refine va_get (D := D) (ci := 11) (v := .int (nI i10)) (C := RX10) (T := TX10) (N := 39) hx hb hts inX10 hown hK hP 1 rfl rfl 16 (by decide) (hts (.fieldLink RX10 110 "EscrowDeskModel" "next" "I") (by decide +kernel)) (fun _ h9 => h9) rfl dX10_advance_15 ?_
          obtain ⟨hPc, hDc, hFc⟩ := PDq.cut (wc := [(oX10 w0 v0 v1 v2 v3 v4 g5 g6 (nI ed) g8 v9 (nI nb) g11 g12 v13 (nI ln) g15 (nI i10) g17 g18 g19 g20 g21 g22 g23 g24 g25 g26 v27 v28 v29 v30 v31 v32 v33 v34 v35 v36 v37 (nI ol)), (v9, .inl (cA 0, 700, .inl fb))]) hP hD hS hA [1, 2] (by decide) rfl
          refine va_calli (va_runV (As := [.int (nI i10)]) (rest := []) ⟨hx, hb, hml, hown, hts⟩ (y_byteAt l D cA sa w0 ed nb ol v0 v1 v2 v3 v4 v9 v13 v27 v28 v29 v30 v31 v32 v33 v34 v35 v36 v37 g8 g11 g12 g15 (nI i10) g17 g18 g19 g20 g21 g22 g23 g24 g26 g5 g6 g25 ln i10 fb H.size hln (by omega)) (cwV 1 hts gX10_advance_X10_byteAt rfl rfl rfl (by decide +kernel) ⟨(Nat.le_of_ble_eq_true rfl), (Nat.le_of_ble_eq_true rfl)⟩) ⟨Wd.blind, va_recv hK hPc (ci := 11) (q0 := 0) rfl rfl, fun U hU hW => ⟨rfl, Wd.call hPc hDc hK hC hZ hS hFc U hU hW⟩⟩ rfl rfl hl.1 rfl (lv_room (Nat.le_of_ble_eq_true rfl)) dX10_advance_18 ⟨(Nat.le_of_ble_eq_true rfl), (Nat.le_of_ble_eq_true rfl)⟩) hS (fun q _ h => hFc q h) hFc (fun rn182 u t H1 locs ht hvm hw hB hz1 hk1 hS => ?_)
          obtain ⟨hP1, hD1⟩ := hB
          rw [ht] at hP1
          obtain ⟨hP, hD⟩ := PDq.join (w := [(v13, .inl (cA 1, 15, .inr (.inl fkw))), (oX10 w0 v0 v1 v2 v3 v4 g5 g6 (nI ed) g8 v9 (nI nb) g11 g12 v13 (nI ln) g15 (nI i10) g17 g18 g19 g20 g21 g22 g23 g24 g25 g26 v27 v28 v29 v30 v31 v32 v33 v34 v35 v36 v37 (nI ol)), (v9, .inl (cA 0, 700, .inl fb))]) 1 hP hD [1, 2] [0] rfl rfl (by decide) (by decide) hk1 hFc hP1 hD1 rfl
          generalize H1 = H at hP hS ⊢
          obtain rfl : rn182 = (bta fb ln i10) := hw
          refine lv_bipush (v := 10) hx hb dX10_advance_21 (by decide) ?_
          refine lv_icmp_ne (tgt := 39) hx hb dX10_advance_23 (by decide) (fun c183 => ?_) (fun c183 => ?_)
          · skip
            rw [bt_in (show i10 < ln by omega)] at c180 c183
            exact absurd (tn3 i10 (by omega) (by omega)) (ckd_n0 c180 c183)
          · skip
            refine lv_aload_n hx hb dX10_advance_26 rfl (lv_at hl 0 rfl) ?_
            refine lv_dup hx hb dX10_advance_27 rfl ?_
            refine va_get (D := D) (ci := 11) (v := .int (nI i10)) (C := RX10) (T := TX10) (N := 39) hx hb hts inX10 hown hK hP 1 rfl rfl 16 (by decide) (hts (.fieldLink RX10 110 "EscrowDeskModel" "next" "I") (by decide +kernel)) (fun _ h9 => h9) rfl dX10_advance_28 ?_
            refine lv_iconst (v := 1) hx hb dX10_advance_31 (by decide) ?_
            refine lv_iadd hx hb dX10_advance_32 ?_
            refine lv_topi (fun yn184 eyn184 => ?_)
            obtain rfl : yn184 = (nI (i10 + 1)) := eyn184.trans (nI_add i10 1)
            refine va_put (D := D) (ci := 11) (v := .int (nI (i10 + 1))) (ty := .int) (C := RX10) (T := TX10) (N := 39) hx hb hts inX10 tyX10 tyX10_ok nmX10 hown hK hP hD hS 1 rfl rfl 16 (by decide) (hts (.fieldLink RX10 110 "EscrowDeskModel" "next" "I") (by decide +kernel)) (fun _ h9 => h9) rfl (by decide +kernel) rfl rfl (Nat.le_of_ble_eq_true rfl) dX10_advance_33 (fun H locs hP hD hS => ?_)
            obtain ⟨hP, hD⟩ : PDq D A [(v13, .inl (cA 1, 15, .inr (.inl fkw))), (oX10 w0 v0 v1 v2 v3 v4 g5 g6 (nI ed) g8 v9 (nI nb) g11 g12 v13 (nI ln) g15 (nI (i10 + 1)) g17 g18 g19 g20 g21 g22 g23 g24 g25 g26 v27 v28 v29 v30 v31 v32 v33 v34 v35 v36 v37 (nI ol)), (v9, .inl (cA 0, 700, .inl fb))] H := ⟨hP, hD⟩
            refine lv_goto (tgt := 0) hx hb dX10_advance_36 (by decide) ?_
            obtain ⟨hP9, hD9⟩ := PDq.sub (ws' := [(oX10 w0 v0 v1 v2 v3 v4 g5 g6 (nI ed) g8 v9 (nI nb) g11 g12 v13 (nI ln) g15 (nI (i10 + 1)) g17 g18 g19 g20 g21 g22 g23 g24 g25 g26 v27 v28 v29 v30 v31 v32 v33 v34 v35 v36 v37 (nI ol)), (v9, .inl (cA 0, 700, .inl fb)), (v13, .inl (cA 1, 15, .inr (.inl fkw)))]) hP hD [1, 2, 0] (by decide) rfl
            exact ih10 (i10 + 1)  H _ ls (by omega) (by omega) hP9 hD9 hS (lv_sub hl [0] rfl)
    obtain ⟨hP9, hD9⟩ := PDq.sub (ws' := [(oX10 w0 v0 v1 v2 v3 v4 g5 g6 (nI ed) g8 v9 (nI nb) g11 g12 v13 (nI ln) g15 (nI nx) g17 g18 g19 g20 g21 g22 g23 g24 g25 g26 v27 v28 v29 v30 v31 v32 v33 v34 v35 v36 v37 (nI ol)), (v9, .inl (cA 0, 700, .inl fb)), (v13, .inl (cA 1, 15, .inr (.inl fkw)))]) hP hD [0, 1, 2] (by decide) rfl
    exact loop10 (ta - nx) nx  _ _ ls (by omega) (by omega) hP9 hD9 hS (lv_sub hl [0] rfl)

set_option maxHeartbeats 4000000 in
set_option maxRecDepth 100000 in
/-- reference: isSymbol -/
theorem y_sym40 (l : Launch) (D : va_G) (cA : Nat → ClassId) (sa : Nat → Nat) (w0 : Nat) (ed : Nat) (nb : Nat) (ol : Nat) (v0 : Nat) (v1 : Nat) (v2 : Nat) (v3 : Nat) (v4 : Nat) (v9 : Nat) (v13 : Nat) (v27 : Nat) (v28 : Nat) (v29 : Nat) (v30 : Nat) (v31 : Nat) (v32 : Nat) (v33 : Nat) (v34 : Nat) (v35 : Nat) (v36 : Nat) (v37 : Nat) (g8 : Int32) (g11 : Int32) (g12 : Int32) (g19 : Int32) (g20 : Int32) (g21 : Int32) (g22 : Int32) (g23 : Int32) (g26 : Int32) (g5 : Int64) (g6 : Int64) (g25 : Int64) (ln : Nat) (cd : Nat) (tk : Int32) (kw : Int32) (ti : Nat) (ct : Nat) (fb : Nat → Int32) (gP : Nat → Nat) (gR : Nat → Nat) (gS : Nat → Int32) (gK : Nat → Int32) (gV : Nat → Int64) (sz : Nat) (hln : ln ≤ 700) (hct : ct ≤ 701) (hti : ti < ct) (hTX : TX fb ln ct gP gR gS gV gK) (hBY : BYn ln fb) (hTK : TKR (gK ti) (gV ti) (fb (gP ti)) tk kw g19 g25) : Met l yX10_isSymbol wsX10_isSymbol ({ frames := 0, cells := 0, slots := 0, locals := 0 }) (va_Pc [.ref w0, .int 40] (Wd D cA sa [(oX10 w0 v0 v1 v2 v3 v4 g5 g6 (nI ed) g8 v9 (nI nb) g11 g12 v13 (nI ln) (nI (gP ti)) (nI (gR (ti + 1))) tk kw g19 g20 g21 g22 g23 (nI cd) g25 g26 v27 v28 v29 v30 v31 v32 v33 v34 v35 v36 v37 (nI ol)), (v9, .inl (cA 0, 700, .inl fb))] sz)) (va_Qi (fun (r : Int32) (_ : Unit) => (r = 1 ∧ (gK ti = 5)) ∨ (r = 0 ∧ ¬ (gK ti = 5))) (fun (_ : Unit) t => Wq D (va_A [(oX10 w0 v0 v1 v2 v3 v4 g5 g6 (nI ed) g8 v9 (nI nb) g11 g12 v13 (nI ln) (nI (gP ti)) (nI (gR (ti + 1))) tk kw g19 g20 g21 g22 g23 (nI cd) g25 g26 v27 v28 v29 v30 v31 v32 v33 v34 v35 v36 v37 (nI ol)), (v9, .inl (cA 0, 700, .inl fb))] sz) [(oX10 w0 v0 v1 v2 v3 v4 g5 g6 (nI ed) g8 v9 (nI nb) g11 g12 v13 (nI ln) (nI (gP ti)) (nI (gR (ti + 1))) tk kw g19 g20 g21 g22 g23 (nI cd) g25 g26 v27 v28 v29 v30 v31 v32 v33 v34 v35 v36 v37 (nI ol)), (v9, .inl (cA 0, 700, .inl fb))] t) (va_A [(oX10 w0 v0 v1 v2 v3 v4 g5 g6 (nI ed) g8 v9 (nI nb) g11 g12 v13 (nI ln) (nI (gP ti)) (nI (gR (ti + 1))) tk kw g19 g20 g21 g22 g23 (nI cd) g25 g26 v27 v28 v29 v30 v31 v32 v33 v34 v35 v36 v37 (nI ol)), (v9, .inl (cA 0, 700, .inl fb))] sz)) 0 0 (va_A [(oX10 w0 v0 v1 v2 v3 v4 g5 g6 (nI ed) g8 v9 (nI nb) g11 g12 v13 (nI ln) (nI (gP ti)) (nI (gR (ti + 1))) tk kw g19 g20 g21 g22 g23 (nI cd) g25 g26 v27 v28 v29 v30 v31 v32 v33 v34 v35 v36 v37 (nI ol)), (v9, .inl (cA 0, 700, .inl fb))] sz) := by
  refine Met.ofW (cc := cX10_isSymbol) (maxL := 2) (ret := (some .boolean)) (by decide) rfl ?_
  intro p e s m args below meth c s₁ B hml hv
  obtain ⟨rfl, hsz, hP, hK, hD0, hC, hZ⟩ := hv
  have hx := B.exec
  have hb := B.bytes
  have hr := B.returns
  have hts := atoms_spec (ws := wsX10_isSymbol) B.pre
  have hown : s.vm.findClass RX10 = some m.cls := findClass_of_methodNamed B.named
  have hlocks := B.notSynchronized
  subst hsz
  have hD := hD0.self (sz := s.heap.size)
  generalize hAe : va_A [(oX10 w0 v0 v1 v2 v3 v4 g5 g6 (nI ed) g8 v9 (nI nb) g11 g12 v13 (nI ln) (nI (gP ti)) (nI (gR (ti + 1))) tk kw g19 g20 g21 g22 g23 (nI cd) g25 g26 v27 v28 v29 v30 v31 v32 v33 v34 v35 v36 v37 (nI ol)), (v9, .inl (cA 0, 700, .inl fb))] s.heap.size = A at hD hZ ⊢
  have hA : ∀ q : Nat, s.heap.size ≤ q → A q := fun q h => by rw [← hAe]; exact Or.inr h
  have hS : va_S A s.heap s.heap [] := va_S.rf
  have hP : va_P D vwCl [(oX10 w0 v0 v1 v2 v3 v4 g5 g6 (nI ed) g8 v9 (nI nb) g11 g12 v13 (nI ln) (nI (gP ti)) (nI (gR (ti + 1))) tk kw g19 g20 g21 g22 g23 (nI cd) g25 g26 v27 v28 v29 v30 v31 v32 v33 v34 v35 v36 v37 (nI ol)), (v9, .inl (cA 0, 700, .inl fb))] s.heap := hP
  have hl := lv_entry ([.ref w0, .int 40]) (n := 2) (Nat.le_of_ble_eq_true rfl)
  rw [lg_entry_eq]
  generalize (lg_sl ([.ref w0, .int 40]) ++ List.replicate (2 - (lg_sl ([.ref w0, .int 40])).length) Slot.unset).toArray = ls at hl ⊢
  have hl : lv_has ls 2 [(0, .ref w0), (1, .int 40)] := hl
  have inX10 : ∀ w ∈ u_ws RX10 TX10 39, w ∈ wsX10_isSymbol := by decide +kernel
  have hle9 := TX.le hTX hti
  refine lv_aload_n hx hb dX10_isSymbol_0 rfl (lv_at hl 0 rfl) ?_
  refine va_get (D := D) (ci := 11) (v := .int tk) (C := RX10) (T := TX10) (N := 39) hx hb hts inX10 hown hK hP 0 rfl rfl 17 (by decide) (hts (.fieldLink RX10 126 "EscrowDeskModel" "token" "I") (by decide +kernel)) (fun _ h9 => h9) rfl dX10_isSymbol_1 ?_
  refine lv_iconst (v := 4) hx hb dX10_isSymbol_4 (by decide) ?_
  refine lv_icmp_ne (tgt := 25) hx hb dX10_isSymbol_5 (by decide) (fun c1 => ?_) (fun c1 => ?_)
  · skip
    refine lv_iconst (v := 0) hx hb dX10_isSymbol_25 (by decide) ?_
    obtain ⟨hP9, hD9⟩ := PDq.sub (ws' := [(oX10 w0 v0 v1 v2 v3 v4 g5 g6 (nI ed) g8 v9 (nI nb) g11 g12 v13 (nI ln) (nI (gP ti)) (nI (gR (ti + 1))) tk kw g19 g20 g21 g22 g23 (nI cd) g25 g26 v27 v28 v29 v30 v31 v32 v33 v34 v35 v36 v37 (nI ol)), (v9, .inl (cA 0, 700, .inl fb))]) hP hD [0, 1] (by decide) rfl
    refine W.widen (k := 0) (n := 0) (Nat.le_of_ble_eq_true rfl) (Nat.le_of_ble_eq_true rfl) ?_
    exact (W.zret (v := 0) hx hb hr (by first | rfl | decide) (fun t ht hW => ⟨⟨0, (), rfl, (Or.inr ⟨rfl, (TKR.n40 hTK (fun q9 => c1 q9.1))⟩), by rw [ht]; exact hP9, hD9⟩, hS.F ht⟩) hS.2.2 dX10_isSymbol_26)
  · skip
    refine lv_aload_n hx hb dX10_isSymbol_8 rfl (lv_at hl 0 rfl) ?_
    refine va_get (D := D) (ci := 11) (v := .ref v9) (C := RX10) (T := TX10) (N := 39) hx hb hts inX10 hown hK hP 0 rfl rfl 9 (by decide) (hts (.fieldLink RX10 26 "EscrowDeskModel" "buffer" "[I") (by decide +kernel)) (fun _ h9 => h9) rfl dX10_isSymbol_9 ?_
    refine lv_aload_n hx hb dX10_isSymbol_12 rfl (lv_at hl 0 rfl) ?_
    refine va_get (D := D) (ci := 11) (v := .int (nI (gP ti))) (C := RX10) (T := TX10) (N := 39) hx hb hts inX10 hown hK hP 0 rfl rfl 15 (by decide) (hts (.fieldLink RX10 117 "EscrowDeskModel" "start" "I") (by decide +kernel)) (fun _ h9 => h9) rfl dX10_isSymbol_13 ?_
    refine va_iald hx hb hK hP 1 0 rfl rfl (vp_in_nI (n := gP ti) (N := 700) (by have q9 := TX.lt hTX hti (TKR.k4 hTK c1); omega) (by decide)) dX10_isSymbol_16 ?_
    refine lv_topi (fun yn2 eyn2 => ?_)
    obtain rfl : yn2 = (fb (gP ti)) := eyn2.trans (by rw [nI_clamp (by omega)])
    refine lv_iload_n hx hb dX10_isSymbol_17 rfl (lv_at hl 1 rfl) ?_
    refine lv_icmp_ne (tgt := 25) hx hb dX10_isSymbol_18 (by decide) (fun c3 => ?_) (fun c3 => ?_)
    · skip
      refine lv_iconst (v := 0) hx hb dX10_isSymbol_25 (by decide) ?_
      obtain ⟨hP9, hD9⟩ := PDq.sub (ws' := [(oX10 w0 v0 v1 v2 v3 v4 g5 g6 (nI ed) g8 v9 (nI nb) g11 g12 v13 (nI ln) (nI (gP ti)) (nI (gR (ti + 1))) tk kw g19 g20 g21 g22 g23 (nI cd) g25 g26 v27 v28 v29 v30 v31 v32 v33 v34 v35 v36 v37 (nI ol)), (v9, .inl (cA 0, 700, .inl fb))]) hP hD [0, 1] (by decide) rfl
      refine W.widen (k := 0) (n := 0) (Nat.le_of_ble_eq_true rfl) (Nat.le_of_ble_eq_true rfl) ?_
      exact (W.zret (v := 0) hx hb hr (by first | rfl | decide) (fun t ht hW => ⟨⟨0, (), rfl, (Or.inr ⟨rfl, (TKR.n40 hTK (fun q9 => c3 q9.2))⟩), by rw [ht]; exact hP9, hD9⟩, hS.F ht⟩) hS.2.2 dX10_isSymbol_26)
    · skip
      refine lv_iconst (v := 1) hx hb dX10_isSymbol_21 (by decide) ?_
      refine lv_goto (tgt := 26) hx hb dX10_isSymbol_22 (by decide) ?_
      obtain ⟨hP9, hD9⟩ := PDq.sub (ws' := [(oX10 w0 v0 v1 v2 v3 v4 g5 g6 (nI ed) g8 v9 (nI nb) g11 g12 v13 (nI ln) (nI (gP ti)) (nI (gR (ti + 1))) tk kw g19 g20 g21 g22 g23 (nI cd) g25 g26 v27 v28 v29 v30 v31 v32 v33 v34 v35 v36 v37 (nI ol)), (v9, .inl (cA 0, 700, .inl fb))]) hP hD [0, 1] (by decide) rfl
      refine W.widen (k := 0) (n := 0) (Nat.le_of_ble_eq_true rfl) (Nat.le_of_ble_eq_true rfl) ?_
      exact (W.zret (v := 1) hx hb hr (by first | rfl | decide) (fun t ht hW => ⟨⟨1, (), rfl, (Or.inl ⟨rfl, (TKR.s40 hTK c1 c3)⟩), by rw [ht]; exact hP9, hD9⟩, hS.F ht⟩) hS.2.2 dX10_isSymbol_26)

set_option maxHeartbeats 4000000 in
set_option maxRecDepth 100000 in
/-- reference: isSymbol -/
theorem y_sym41 (l : Launch) (D : va_G) (cA : Nat → ClassId) (sa : Nat → Nat) (w0 : Nat) (ed : Nat) (nb : Nat) (ol : Nat) (v0 : Nat) (v1 : Nat) (v2 : Nat) (v3 : Nat) (v4 : Nat) (v9 : Nat) (v13 : Nat) (v27 : Nat) (v28 : Nat) (v29 : Nat) (v30 : Nat) (v31 : Nat) (v32 : Nat) (v33 : Nat) (v34 : Nat) (v35 : Nat) (v36 : Nat) (v37 : Nat) (g8 : Int32) (g11 : Int32) (g12 : Int32) (g19 : Int32) (g20 : Int32) (g21 : Int32) (g22 : Int32) (g23 : Int32) (g26 : Int32) (g5 : Int64) (g6 : Int64) (g25 : Int64) (ln : Nat) (cd : Nat) (tk : Int32) (kw : Int32) (ti : Nat) (ct : Nat) (fb : Nat → Int32) (gP : Nat → Nat) (gR : Nat → Nat) (gS : Nat → Int32) (gK : Nat → Int32) (gV : Nat → Int64) (sz : Nat) (hln : ln ≤ 700) (hct : ct ≤ 701) (hti : ti < ct) (hTX : TX fb ln ct gP gR gS gV gK) (hBY : BYn ln fb) (hTK : TKR (gK ti) (gV ti) (fb (gP ti)) tk kw g19 g25) : Met l yX10_isSymbol wsX10_isSymbol ({ frames := 0, cells := 0, slots := 0, locals := 0 }) (va_Pc [.ref w0, .int 41] (Wd D cA sa [(oX10 w0 v0 v1 v2 v3 v4 g5 g6 (nI ed) g8 v9 (nI nb) g11 g12 v13 (nI ln) (nI (gP ti)) (nI (gR (ti + 1))) tk kw g19 g20 g21 g22 g23 (nI cd) g25 g26 v27 v28 v29 v30 v31 v32 v33 v34 v35 v36 v37 (nI ol)), (v9, .inl (cA 0, 700, .inl fb))] sz)) (va_Qi (fun (r : Int32) (_ : Unit) => (r = 1 ∧ (gK ti = 6)) ∨ (r = 0 ∧ ¬ (gK ti = 6))) (fun (_ : Unit) t => Wq D (va_A [(oX10 w0 v0 v1 v2 v3 v4 g5 g6 (nI ed) g8 v9 (nI nb) g11 g12 v13 (nI ln) (nI (gP ti)) (nI (gR (ti + 1))) tk kw g19 g20 g21 g22 g23 (nI cd) g25 g26 v27 v28 v29 v30 v31 v32 v33 v34 v35 v36 v37 (nI ol)), (v9, .inl (cA 0, 700, .inl fb))] sz) [(oX10 w0 v0 v1 v2 v3 v4 g5 g6 (nI ed) g8 v9 (nI nb) g11 g12 v13 (nI ln) (nI (gP ti)) (nI (gR (ti + 1))) tk kw g19 g20 g21 g22 g23 (nI cd) g25 g26 v27 v28 v29 v30 v31 v32 v33 v34 v35 v36 v37 (nI ol)), (v9, .inl (cA 0, 700, .inl fb))] t) (va_A [(oX10 w0 v0 v1 v2 v3 v4 g5 g6 (nI ed) g8 v9 (nI nb) g11 g12 v13 (nI ln) (nI (gP ti)) (nI (gR (ti + 1))) tk kw g19 g20 g21 g22 g23 (nI cd) g25 g26 v27 v28 v29 v30 v31 v32 v33 v34 v35 v36 v37 (nI ol)), (v9, .inl (cA 0, 700, .inl fb))] sz)) 0 0 (va_A [(oX10 w0 v0 v1 v2 v3 v4 g5 g6 (nI ed) g8 v9 (nI nb) g11 g12 v13 (nI ln) (nI (gP ti)) (nI (gR (ti + 1))) tk kw g19 g20 g21 g22 g23 (nI cd) g25 g26 v27 v28 v29 v30 v31 v32 v33 v34 v35 v36 v37 (nI ol)), (v9, .inl (cA 0, 700, .inl fb))] sz) := by
  refine Met.ofW (cc := cX10_isSymbol) (maxL := 2) (ret := (some .boolean)) (by decide) rfl ?_
  intro p e s m args below meth c s₁ B hml hv
  obtain ⟨rfl, hsz, hP, hK, hD0, hC, hZ⟩ := hv
  have hx := B.exec
  have hb := B.bytes
  have hr := B.returns
  have hts := atoms_spec (ws := wsX10_isSymbol) B.pre
  have hown : s.vm.findClass RX10 = some m.cls := findClass_of_methodNamed B.named
  have hlocks := B.notSynchronized
  subst hsz
  have hD := hD0.self (sz := s.heap.size)
  generalize hAe : va_A [(oX10 w0 v0 v1 v2 v3 v4 g5 g6 (nI ed) g8 v9 (nI nb) g11 g12 v13 (nI ln) (nI (gP ti)) (nI (gR (ti + 1))) tk kw g19 g20 g21 g22 g23 (nI cd) g25 g26 v27 v28 v29 v30 v31 v32 v33 v34 v35 v36 v37 (nI ol)), (v9, .inl (cA 0, 700, .inl fb))] s.heap.size = A at hD hZ ⊢
  have hA : ∀ q : Nat, s.heap.size ≤ q → A q := fun q h => by rw [← hAe]; exact Or.inr h
  have hS : va_S A s.heap s.heap [] := va_S.rf
  have hP : va_P D vwCl [(oX10 w0 v0 v1 v2 v3 v4 g5 g6 (nI ed) g8 v9 (nI nb) g11 g12 v13 (nI ln) (nI (gP ti)) (nI (gR (ti + 1))) tk kw g19 g20 g21 g22 g23 (nI cd) g25 g26 v27 v28 v29 v30 v31 v32 v33 v34 v35 v36 v37 (nI ol)), (v9, .inl (cA 0, 700, .inl fb))] s.heap := hP
  have hl := lv_entry ([.ref w0, .int 41]) (n := 2) (Nat.le_of_ble_eq_true rfl)
  rw [lg_entry_eq]
  generalize (lg_sl ([.ref w0, .int 41]) ++ List.replicate (2 - (lg_sl ([.ref w0, .int 41])).length) Slot.unset).toArray = ls at hl ⊢
  have hl : lv_has ls 2 [(0, .ref w0), (1, .int 41)] := hl
  have inX10 : ∀ w ∈ u_ws RX10 TX10 39, w ∈ wsX10_isSymbol := by decide +kernel
  have hle9 := TX.le hTX hti
  refine lv_aload_n hx hb dX10_isSymbol_0 rfl (lv_at hl 0 rfl) ?_
  refine va_get (D := D) (ci := 11) (v := .int tk) (C := RX10) (T := TX10) (N := 39) hx hb hts inX10 hown hK hP 0 rfl rfl 17 (by decide) (hts (.fieldLink RX10 126 "EscrowDeskModel" "token" "I") (by decide +kernel)) (fun _ h9 => h9) rfl dX10_isSymbol_1 ?_
  refine lv_iconst (v := 4) hx hb dX10_isSymbol_4 (by decide) ?_
  refine lv_icmp_ne (tgt := 25) hx hb dX10_isSymbol_5 (by decide) (fun c1 => ?_) (fun c1 => ?_)
  · skip
    refine lv_iconst (v := 0) hx hb dX10_isSymbol_25 (by decide) ?_
    obtain ⟨hP9, hD9⟩ := PDq.sub (ws' := [(oX10 w0 v0 v1 v2 v3 v4 g5 g6 (nI ed) g8 v9 (nI nb) g11 g12 v13 (nI ln) (nI (gP ti)) (nI (gR (ti + 1))) tk kw g19 g20 g21 g22 g23 (nI cd) g25 g26 v27 v28 v29 v30 v31 v32 v33 v34 v35 v36 v37 (nI ol)), (v9, .inl (cA 0, 700, .inl fb))]) hP hD [0, 1] (by decide) rfl
    refine W.widen (k := 0) (n := 0) (Nat.le_of_ble_eq_true rfl) (Nat.le_of_ble_eq_true rfl) ?_
    exact (W.zret (v := 0) hx hb hr (by first | rfl | decide) (fun t ht hW => ⟨⟨0, (), rfl, (Or.inr ⟨rfl, (TKR.n41 hTK (fun q9 => c1 q9.1))⟩), by rw [ht]; exact hP9, hD9⟩, hS.F ht⟩) hS.2.2 dX10_isSymbol_26)
  · skip
    refine lv_aload_n hx hb dX10_isSymbol_8 rfl (lv_at hl 0 rfl) ?_
    refine va_get (D := D) (ci := 11) (v := .ref v9) (C := RX10) (T := TX10) (N := 39) hx hb hts inX10 hown hK hP 0 rfl rfl 9 (by decide) (hts (.fieldLink RX10 26 "EscrowDeskModel" "buffer" "[I") (by decide +kernel)) (fun _ h9 => h9) rfl dX10_isSymbol_9 ?_
    refine lv_aload_n hx hb dX10_isSymbol_12 rfl (lv_at hl 0 rfl) ?_
    refine va_get (D := D) (ci := 11) (v := .int (nI (gP ti))) (C := RX10) (T := TX10) (N := 39) hx hb hts inX10 hown hK hP 0 rfl rfl 15 (by decide) (hts (.fieldLink RX10 117 "EscrowDeskModel" "start" "I") (by decide +kernel)) (fun _ h9 => h9) rfl dX10_isSymbol_13 ?_
    refine va_iald hx hb hK hP 1 0 rfl rfl (vp_in_nI (n := gP ti) (N := 700) (by have q9 := TX.lt hTX hti (TKR.k4 hTK c1); omega) (by decide)) dX10_isSymbol_16 ?_
    refine lv_topi (fun yn2 eyn2 => ?_)
    obtain rfl : yn2 = (fb (gP ti)) := eyn2.trans (by rw [nI_clamp (by omega)])
    refine lv_iload_n hx hb dX10_isSymbol_17 rfl (lv_at hl 1 rfl) ?_
    refine lv_icmp_ne (tgt := 25) hx hb dX10_isSymbol_18 (by decide) (fun c3 => ?_) (fun c3 => ?_)
    · skip
      refine lv_iconst (v := 0) hx hb dX10_isSymbol_25 (by decide) ?_
      obtain ⟨hP9, hD9⟩ := PDq.sub (ws' := [(oX10 w0 v0 v1 v2 v3 v4 g5 g6 (nI ed) g8 v9 (nI nb) g11 g12 v13 (nI ln) (nI (gP ti)) (nI (gR (ti + 1))) tk kw g19 g20 g21 g22 g23 (nI cd) g25 g26 v27 v28 v29 v30 v31 v32 v33 v34 v35 v36 v37 (nI ol)), (v9, .inl (cA 0, 700, .inl fb))]) hP hD [0, 1] (by decide) rfl
      refine W.widen (k := 0) (n := 0) (Nat.le_of_ble_eq_true rfl) (Nat.le_of_ble_eq_true rfl) ?_
      exact (W.zret (v := 0) hx hb hr (by first | rfl | decide) (fun t ht hW => ⟨⟨0, (), rfl, (Or.inr ⟨rfl, (TKR.n41 hTK (fun q9 => c3 q9.2))⟩), by rw [ht]; exact hP9, hD9⟩, hS.F ht⟩) hS.2.2 dX10_isSymbol_26)
    · skip
      refine lv_iconst (v := 1) hx hb dX10_isSymbol_21 (by decide) ?_
      refine lv_goto (tgt := 26) hx hb dX10_isSymbol_22 (by decide) ?_
      obtain ⟨hP9, hD9⟩ := PDq.sub (ws' := [(oX10 w0 v0 v1 v2 v3 v4 g5 g6 (nI ed) g8 v9 (nI nb) g11 g12 v13 (nI ln) (nI (gP ti)) (nI (gR (ti + 1))) tk kw g19 g20 g21 g22 g23 (nI cd) g25 g26 v27 v28 v29 v30 v31 v32 v33 v34 v35 v36 v37 (nI ol)), (v9, .inl (cA 0, 700, .inl fb))]) hP hD [0, 1] (by decide) rfl
      refine W.widen (k := 0) (n := 0) (Nat.le_of_ble_eq_true rfl) (Nat.le_of_ble_eq_true rfl) ?_
      exact (W.zret (v := 1) hx hb hr (by first | rfl | decide) (fun t ht hW => ⟨⟨1, (), rfl, (Or.inl ⟨rfl, (TKR.s41 hTK c1 c3)⟩), by rw [ht]; exact hP9, hD9⟩, hS.F ht⟩) hS.2.2 dX10_isSymbol_26)

set_option maxHeartbeats 4000000 in
set_option maxRecDepth 100000 in
/-- reference: isSymbol -/
theorem y_sym59 (l : Launch) (D : va_G) (cA : Nat → ClassId) (sa : Nat → Nat) (w0 : Nat) (ed : Nat) (nb : Nat) (ol : Nat) (v0 : Nat) (v1 : Nat) (v2 : Nat) (v3 : Nat) (v4 : Nat) (v9 : Nat) (v13 : Nat) (v27 : Nat) (v28 : Nat) (v29 : Nat) (v30 : Nat) (v31 : Nat) (v32 : Nat) (v33 : Nat) (v34 : Nat) (v35 : Nat) (v36 : Nat) (v37 : Nat) (g8 : Int32) (g11 : Int32) (g12 : Int32) (g19 : Int32) (g20 : Int32) (g21 : Int32) (g22 : Int32) (g23 : Int32) (g26 : Int32) (g5 : Int64) (g6 : Int64) (g25 : Int64) (ln : Nat) (cd : Nat) (tk : Int32) (kw : Int32) (ti : Nat) (ct : Nat) (fb : Nat → Int32) (gP : Nat → Nat) (gR : Nat → Nat) (gS : Nat → Int32) (gK : Nat → Int32) (gV : Nat → Int64) (sz : Nat) (hln : ln ≤ 700) (hct : ct ≤ 701) (hti : ti < ct) (hTX : TX fb ln ct gP gR gS gV gK) (hBY : BYn ln fb) (hTK : TKR (gK ti) (gV ti) (fb (gP ti)) tk kw g19 g25) : Met l yX10_isSymbol wsX10_isSymbol ({ frames := 0, cells := 0, slots := 0, locals := 0 }) (va_Pc [.ref w0, .int 59] (Wd D cA sa [(oX10 w0 v0 v1 v2 v3 v4 g5 g6 (nI ed) g8 v9 (nI nb) g11 g12 v13 (nI ln) (nI (gP ti)) (nI (gR (ti + 1))) tk kw g19 g20 g21 g22 g23 (nI cd) g25 g26 v27 v28 v29 v30 v31 v32 v33 v34 v35 v36 v37 (nI ol)), (v9, .inl (cA 0, 700, .inl fb))] sz)) (va_Qi (fun (r : Int32) (_ : Unit) => (r = 1 ∧ (gK ti = 7)) ∨ (r = 0 ∧ ¬ (gK ti = 7))) (fun (_ : Unit) t => Wq D (va_A [(oX10 w0 v0 v1 v2 v3 v4 g5 g6 (nI ed) g8 v9 (nI nb) g11 g12 v13 (nI ln) (nI (gP ti)) (nI (gR (ti + 1))) tk kw g19 g20 g21 g22 g23 (nI cd) g25 g26 v27 v28 v29 v30 v31 v32 v33 v34 v35 v36 v37 (nI ol)), (v9, .inl (cA 0, 700, .inl fb))] sz) [(oX10 w0 v0 v1 v2 v3 v4 g5 g6 (nI ed) g8 v9 (nI nb) g11 g12 v13 (nI ln) (nI (gP ti)) (nI (gR (ti + 1))) tk kw g19 g20 g21 g22 g23 (nI cd) g25 g26 v27 v28 v29 v30 v31 v32 v33 v34 v35 v36 v37 (nI ol)), (v9, .inl (cA 0, 700, .inl fb))] t) (va_A [(oX10 w0 v0 v1 v2 v3 v4 g5 g6 (nI ed) g8 v9 (nI nb) g11 g12 v13 (nI ln) (nI (gP ti)) (nI (gR (ti + 1))) tk kw g19 g20 g21 g22 g23 (nI cd) g25 g26 v27 v28 v29 v30 v31 v32 v33 v34 v35 v36 v37 (nI ol)), (v9, .inl (cA 0, 700, .inl fb))] sz)) 0 0 (va_A [(oX10 w0 v0 v1 v2 v3 v4 g5 g6 (nI ed) g8 v9 (nI nb) g11 g12 v13 (nI ln) (nI (gP ti)) (nI (gR (ti + 1))) tk kw g19 g20 g21 g22 g23 (nI cd) g25 g26 v27 v28 v29 v30 v31 v32 v33 v34 v35 v36 v37 (nI ol)), (v9, .inl (cA 0, 700, .inl fb))] sz) := by
  refine Met.ofW (cc := cX10_isSymbol) (maxL := 2) (ret := (some .boolean)) (by decide) rfl ?_
  intro p e s m args below meth c s₁ B hml hv
  obtain ⟨rfl, hsz, hP, hK, hD0, hC, hZ⟩ := hv
  have hx := B.exec
  have hb := B.bytes
  have hr := B.returns
  have hts := atoms_spec (ws := wsX10_isSymbol) B.pre
  have hown : s.vm.findClass RX10 = some m.cls := findClass_of_methodNamed B.named
  have hlocks := B.notSynchronized
  subst hsz
  have hD := hD0.self (sz := s.heap.size)
  generalize hAe : va_A [(oX10 w0 v0 v1 v2 v3 v4 g5 g6 (nI ed) g8 v9 (nI nb) g11 g12 v13 (nI ln) (nI (gP ti)) (nI (gR (ti + 1))) tk kw g19 g20 g21 g22 g23 (nI cd) g25 g26 v27 v28 v29 v30 v31 v32 v33 v34 v35 v36 v37 (nI ol)), (v9, .inl (cA 0, 700, .inl fb))] s.heap.size = A at hD hZ ⊢
  have hA : ∀ q : Nat, s.heap.size ≤ q → A q := fun q h => by rw [← hAe]; exact Or.inr h
  have hS : va_S A s.heap s.heap [] := va_S.rf
  have hP : va_P D vwCl [(oX10 w0 v0 v1 v2 v3 v4 g5 g6 (nI ed) g8 v9 (nI nb) g11 g12 v13 (nI ln) (nI (gP ti)) (nI (gR (ti + 1))) tk kw g19 g20 g21 g22 g23 (nI cd) g25 g26 v27 v28 v29 v30 v31 v32 v33 v34 v35 v36 v37 (nI ol)), (v9, .inl (cA 0, 700, .inl fb))] s.heap := hP
  have hl := lv_entry ([.ref w0, .int 59]) (n := 2) (Nat.le_of_ble_eq_true rfl)
  rw [lg_entry_eq]
  generalize (lg_sl ([.ref w0, .int 59]) ++ List.replicate (2 - (lg_sl ([.ref w0, .int 59])).length) Slot.unset).toArray = ls at hl ⊢
  have hl : lv_has ls 2 [(0, .ref w0), (1, .int 59)] := hl
  have inX10 : ∀ w ∈ u_ws RX10 TX10 39, w ∈ wsX10_isSymbol := by decide +kernel
  have hle9 := TX.le hTX hti
  refine lv_aload_n hx hb dX10_isSymbol_0 rfl (lv_at hl 0 rfl) ?_
  refine va_get (D := D) (ci := 11) (v := .int tk) (C := RX10) (T := TX10) (N := 39) hx hb hts inX10 hown hK hP 0 rfl rfl 17 (by decide) (hts (.fieldLink RX10 126 "EscrowDeskModel" "token" "I") (by decide +kernel)) (fun _ h9 => h9) rfl dX10_isSymbol_1 ?_
  refine lv_iconst (v := 4) hx hb dX10_isSymbol_4 (by decide) ?_
  refine lv_icmp_ne (tgt := 25) hx hb dX10_isSymbol_5 (by decide) (fun c1 => ?_) (fun c1 => ?_)
  · skip
    refine lv_iconst (v := 0) hx hb dX10_isSymbol_25 (by decide) ?_
    obtain ⟨hP9, hD9⟩ := PDq.sub (ws' := [(oX10 w0 v0 v1 v2 v3 v4 g5 g6 (nI ed) g8 v9 (nI nb) g11 g12 v13 (nI ln) (nI (gP ti)) (nI (gR (ti + 1))) tk kw g19 g20 g21 g22 g23 (nI cd) g25 g26 v27 v28 v29 v30 v31 v32 v33 v34 v35 v36 v37 (nI ol)), (v9, .inl (cA 0, 700, .inl fb))]) hP hD [0, 1] (by decide) rfl
    refine W.widen (k := 0) (n := 0) (Nat.le_of_ble_eq_true rfl) (Nat.le_of_ble_eq_true rfl) ?_
    exact (W.zret (v := 0) hx hb hr (by first | rfl | decide) (fun t ht hW => ⟨⟨0, (), rfl, (Or.inr ⟨rfl, (TKR.n59 hTK (fun q9 => c1 q9.1))⟩), by rw [ht]; exact hP9, hD9⟩, hS.F ht⟩) hS.2.2 dX10_isSymbol_26)
  · skip
    refine lv_aload_n hx hb dX10_isSymbol_8 rfl (lv_at hl 0 rfl) ?_
    refine va_get (D := D) (ci := 11) (v := .ref v9) (C := RX10) (T := TX10) (N := 39) hx hb hts inX10 hown hK hP 0 rfl rfl 9 (by decide) (hts (.fieldLink RX10 26 "EscrowDeskModel" "buffer" "[I") (by decide +kernel)) (fun _ h9 => h9) rfl dX10_isSymbol_9 ?_
    refine lv_aload_n hx hb dX10_isSymbol_12 rfl (lv_at hl 0 rfl) ?_
    refine va_get (D := D) (ci := 11) (v := .int (nI (gP ti))) (C := RX10) (T := TX10) (N := 39) hx hb hts inX10 hown hK hP 0 rfl rfl 15 (by decide) (hts (.fieldLink RX10 117 "EscrowDeskModel" "start" "I") (by decide +kernel)) (fun _ h9 => h9) rfl dX10_isSymbol_13 ?_
    refine va_iald hx hb hK hP 1 0 rfl rfl (vp_in_nI (n := gP ti) (N := 700) (by have q9 := TX.lt hTX hti (TKR.k4 hTK c1); omega) (by decide)) dX10_isSymbol_16 ?_
    refine lv_topi (fun yn2 eyn2 => ?_)
    obtain rfl : yn2 = (fb (gP ti)) := eyn2.trans (by rw [nI_clamp (by omega)])
    refine lv_iload_n hx hb dX10_isSymbol_17 rfl (lv_at hl 1 rfl) ?_
    refine lv_icmp_ne (tgt := 25) hx hb dX10_isSymbol_18 (by decide) (fun c3 => ?_) (fun c3 => ?_)
    · skip
      refine lv_iconst (v := 0) hx hb dX10_isSymbol_25 (by decide) ?_
      obtain ⟨hP9, hD9⟩ := PDq.sub (ws' := [(oX10 w0 v0 v1 v2 v3 v4 g5 g6 (nI ed) g8 v9 (nI nb) g11 g12 v13 (nI ln) (nI (gP ti)) (nI (gR (ti + 1))) tk kw g19 g20 g21 g22 g23 (nI cd) g25 g26 v27 v28 v29 v30 v31 v32 v33 v34 v35 v36 v37 (nI ol)), (v9, .inl (cA 0, 700, .inl fb))]) hP hD [0, 1] (by decide) rfl
      refine W.widen (k := 0) (n := 0) (Nat.le_of_ble_eq_true rfl) (Nat.le_of_ble_eq_true rfl) ?_
      exact (W.zret (v := 0) hx hb hr (by first | rfl | decide) (fun t ht hW => ⟨⟨0, (), rfl, (Or.inr ⟨rfl, (TKR.n59 hTK (fun q9 => c3 q9.2))⟩), by rw [ht]; exact hP9, hD9⟩, hS.F ht⟩) hS.2.2 dX10_isSymbol_26)
    · skip
      refine lv_iconst (v := 1) hx hb dX10_isSymbol_21 (by decide) ?_
      refine lv_goto (tgt := 26) hx hb dX10_isSymbol_22 (by decide) ?_
      obtain ⟨hP9, hD9⟩ := PDq.sub (ws' := [(oX10 w0 v0 v1 v2 v3 v4 g5 g6 (nI ed) g8 v9 (nI nb) g11 g12 v13 (nI ln) (nI (gP ti)) (nI (gR (ti + 1))) tk kw g19 g20 g21 g22 g23 (nI cd) g25 g26 v27 v28 v29 v30 v31 v32 v33 v34 v35 v36 v37 (nI ol)), (v9, .inl (cA 0, 700, .inl fb))]) hP hD [0, 1] (by decide) rfl
      refine W.widen (k := 0) (n := 0) (Nat.le_of_ble_eq_true rfl) (Nat.le_of_ble_eq_true rfl) ?_
      exact (W.zret (v := 1) hx hb hr (by first | rfl | decide) (fun t ht hW => ⟨⟨1, (), rfl, (Or.inl ⟨rfl, (TKR.s59 hTK c1 c3)⟩), by rw [ht]; exact hP9, hD9⟩, hS.F ht⟩) hS.2.2 dX10_isSymbol_26)

set_option maxHeartbeats 4000000 in
set_option maxRecDepth 100000 in
/-- reference: isKeyword -/
theorem y_kw5 (l : Launch) (D : va_G) (cA : Nat → ClassId) (sa : Nat → Nat) (w0 : Nat) (ed : Nat) (nb : Nat) (ol : Nat) (v0 : Nat) (v1 : Nat) (v2 : Nat) (v3 : Nat) (v4 : Nat) (v9 : Nat) (v13 : Nat) (v27 : Nat) (v28 : Nat) (v29 : Nat) (v30 : Nat) (v31 : Nat) (v32 : Nat) (v33 : Nat) (v34 : Nat) (v35 : Nat) (v36 : Nat) (v37 : Nat) (g8 : Int32) (g11 : Int32) (g12 : Int32) (g19 : Int32) (g20 : Int32) (g21 : Int32) (g22 : Int32) (g23 : Int32) (g26 : Int32) (g5 : Int64) (g6 : Int64) (g25 : Int64) (ln : Nat) (cd : Nat) (tk : Int32) (kw : Int32) (ti : Nat) (ct : Nat) (fb : Nat → Int32) (gP : Nat → Nat) (gR : Nat → Nat) (gS : Nat → Int32) (gK : Nat → Int32) (gV : Nat → Int64) (sz : Nat) (hln : ln ≤ 700) (hct : ct ≤ 701) (hti : ti < ct) (hTX : TX fb ln ct gP gR gS gV gK) (hBY : BYn ln fb) (hTK : TKR (gK ti) (gV ti) (fb (gP ti)) tk kw g19 g25) : Met l yX10_isKeyword wsX10_isKeyword ({ frames := 0, cells := 0, slots := 0, locals := 0 }) (va_Pc [.ref w0, .int 5] (Wd D cA sa [(oX10 w0 v0 v1 v2 v3 v4 g5 g6 (nI ed) g8 v9 (nI nb) g11 g12 v13 (nI ln) (nI (gP ti)) (nI (gR (ti + 1))) tk kw g19 g20 g21 g22 g23 (nI cd) g25 g26 v27 v28 v29 v30 v31 v32 v33 v34 v35 v36 v37 (nI ol))] sz)) (va_Qi (fun (r : Int32) (_ : Unit) => (r = 1 ∧ (gK ti = 13)) ∨ (r = 0 ∧ ¬ (gK ti = 13))) (fun (_ : Unit) t => Wq D (va_A [(oX10 w0 v0 v1 v2 v3 v4 g5 g6 (nI ed) g8 v9 (nI nb) g11 g12 v13 (nI ln) (nI (gP ti)) (nI (gR (ti + 1))) tk kw g19 g20 g21 g22 g23 (nI cd) g25 g26 v27 v28 v29 v30 v31 v32 v33 v34 v35 v36 v37 (nI ol))] sz) [(oX10 w0 v0 v1 v2 v3 v4 g5 g6 (nI ed) g8 v9 (nI nb) g11 g12 v13 (nI ln) (nI (gP ti)) (nI (gR (ti + 1))) tk kw g19 g20 g21 g22 g23 (nI cd) g25 g26 v27 v28 v29 v30 v31 v32 v33 v34 v35 v36 v37 (nI ol))] t) (va_A [(oX10 w0 v0 v1 v2 v3 v4 g5 g6 (nI ed) g8 v9 (nI nb) g11 g12 v13 (nI ln) (nI (gP ti)) (nI (gR (ti + 1))) tk kw g19 g20 g21 g22 g23 (nI cd) g25 g26 v27 v28 v29 v30 v31 v32 v33 v34 v35 v36 v37 (nI ol))] sz)) 0 0 (va_A [(oX10 w0 v0 v1 v2 v3 v4 g5 g6 (nI ed) g8 v9 (nI nb) g11 g12 v13 (nI ln) (nI (gP ti)) (nI (gR (ti + 1))) tk kw g19 g20 g21 g22 g23 (nI cd) g25 g26 v27 v28 v29 v30 v31 v32 v33 v34 v35 v36 v37 (nI ol))] sz) := by
  refine Met.ofW (cc := cX10_isKeyword) (maxL := 2) (ret := (some .boolean)) (by decide) rfl ?_
  intro p e s m args below meth c s₁ B hml hv
  obtain ⟨rfl, hsz, hP, hK, hD0, hC, hZ⟩ := hv
  have hx := B.exec
  have hb := B.bytes
  have hr := B.returns
  have hts := atoms_spec (ws := wsX10_isKeyword) B.pre
  have hown : s.vm.findClass RX10 = some m.cls := findClass_of_methodNamed B.named
  have hlocks := B.notSynchronized
  subst hsz
  have hD := hD0.self (sz := s.heap.size)
  generalize hAe : va_A [(oX10 w0 v0 v1 v2 v3 v4 g5 g6 (nI ed) g8 v9 (nI nb) g11 g12 v13 (nI ln) (nI (gP ti)) (nI (gR (ti + 1))) tk kw g19 g20 g21 g22 g23 (nI cd) g25 g26 v27 v28 v29 v30 v31 v32 v33 v34 v35 v36 v37 (nI ol))] s.heap.size = A at hD hZ ⊢
  have hA : ∀ q : Nat, s.heap.size ≤ q → A q := fun q h => by rw [← hAe]; exact Or.inr h
  have hS : va_S A s.heap s.heap [] := va_S.rf
  have hP : va_P D vwCl [(oX10 w0 v0 v1 v2 v3 v4 g5 g6 (nI ed) g8 v9 (nI nb) g11 g12 v13 (nI ln) (nI (gP ti)) (nI (gR (ti + 1))) tk kw g19 g20 g21 g22 g23 (nI cd) g25 g26 v27 v28 v29 v30 v31 v32 v33 v34 v35 v36 v37 (nI ol))] s.heap := hP
  have hl := lv_entry ([.ref w0, .int 5]) (n := 2) (Nat.le_of_ble_eq_true rfl)
  rw [lg_entry_eq]
  generalize (lg_sl ([.ref w0, .int 5]) ++ List.replicate (2 - (lg_sl ([.ref w0, .int 5])).length) Slot.unset).toArray = ls at hl ⊢
  have hl : lv_has ls 2 [(0, .ref w0), (1, .int 5)] := hl
  have inX10 : ∀ w ∈ u_ws RX10 TX10 39, w ∈ wsX10_isKeyword := by decide +kernel
  refine lv_aload_n hx hb dX10_isKeyword_0 rfl (lv_at hl 0 rfl) ?_
  refine va_get (D := D) (ci := 11) (v := .int tk) (C := RX10) (T := TX10) (N := 39) hx hb hts inX10 hown hK hP 0 rfl rfl 17 (by decide) (hts (.fieldLink RX10 126 "EscrowDeskModel" "token" "I") (by decide +kernel)) (fun _ h9 => h9) rfl dX10_isKeyword_1 ?_
  refine lv_iconst (v := 2) hx hb dX10_isKeyword_4 (by decide) ?_
  refine lv_icmp_ne (tgt := 20) hx hb dX10_isKeyword_5 (by decide) (fun c1 => ?_) (fun c1 => ?_)
  · skip
    refine lv_iconst (v := 0) hx hb dX10_isKeyword_20 (by decide) ?_
    obtain ⟨hP9, hD9⟩ := PDq.sub (ws' := [(oX10 w0 v0 v1 v2 v3 v4 g5 g6 (nI ed) g8 v9 (nI nb) g11 g12 v13 (nI ln) (nI (gP ti)) (nI (gR (ti + 1))) tk kw g19 g20 g21 g22 g23 (nI cd) g25 g26 v27 v28 v29 v30 v31 v32 v33 v34 v35 v36 v37 (nI ol))]) hP hD [0] (by decide) rfl
    refine W.widen (k := 0) (n := 0) (Nat.le_of_ble_eq_true rfl) (Nat.le_of_ble_eq_true rfl) ?_
    exact (W.zret (v := 0) hx hb hr (by first | rfl | decide) (fun t ht hW => ⟨⟨0, (), rfl, (Or.inr ⟨rfl, (TKR.nkwd (n := 5) hTK (by decide) (fun q9 => c1 q9.1))⟩), by rw [ht]; exact hP9, hD9⟩, hS.F ht⟩) hS.2.2 dX10_isKeyword_21)
  · skip
    refine lv_aload_n hx hb dX10_isKeyword_8 rfl (lv_at hl 0 rfl) ?_
    refine va_get (D := D) (ci := 11) (v := .int kw) (C := RX10) (T := TX10) (N := 39) hx hb hts inX10 hown hK hP 0 rfl rfl 18 (by decide) (hts (.fieldLink RX10 120 "EscrowDeskModel" "keyword" "I") (by decide +kernel)) (fun _ h9 => h9) rfl dX10_isKeyword_9 ?_
    refine lv_iload_n hx hb dX10_isKeyword_12 rfl (lv_at hl 1 rfl) ?_
    refine lv_icmp_ne (tgt := 20) hx hb dX10_isKeyword_13 (by decide) (fun c2 => ?_) (fun c2 => ?_)
    · skip
      refine lv_iconst (v := 0) hx hb dX10_isKeyword_20 (by decide) ?_
      obtain ⟨hP9, hD9⟩ := PDq.sub (ws' := [(oX10 w0 v0 v1 v2 v3 v4 g5 g6 (nI ed) g8 v9 (nI nb) g11 g12 v13 (nI ln) (nI (gP ti)) (nI (gR (ti + 1))) tk kw g19 g20 g21 g22 g23 (nI cd) g25 g26 v27 v28 v29 v30 v31 v32 v33 v34 v35 v36 v37 (nI ol))]) hP hD [0] (by decide) rfl
      refine W.widen (k := 0) (n := 0) (Nat.le_of_ble_eq_true rfl) (Nat.le_of_ble_eq_true rfl) ?_
      exact (W.zret (v := 0) hx hb hr (by first | rfl | decide) (fun t ht hW => ⟨⟨0, (), rfl, (Or.inr ⟨rfl, (TKR.nkwd (n := 5) hTK (by decide) (fun q9 => c2 q9.2))⟩), by rw [ht]; exact hP9, hD9⟩, hS.F ht⟩) hS.2.2 dX10_isKeyword_21)
    · skip
      refine lv_iconst (v := 1) hx hb dX10_isKeyword_16 (by decide) ?_
      refine lv_goto (tgt := 21) hx hb dX10_isKeyword_17 (by decide) ?_
      obtain ⟨hP9, hD9⟩ := PDq.sub (ws' := [(oX10 w0 v0 v1 v2 v3 v4 g5 g6 (nI ed) g8 v9 (nI nb) g11 g12 v13 (nI ln) (nI (gP ti)) (nI (gR (ti + 1))) tk kw g19 g20 g21 g22 g23 (nI cd) g25 g26 v27 v28 v29 v30 v31 v32 v33 v34 v35 v36 v37 (nI ol))]) hP hD [0] (by decide) rfl
      refine W.widen (k := 0) (n := 0) (Nat.le_of_ble_eq_true rfl) (Nat.le_of_ble_eq_true rfl) ?_
      exact (W.zret (v := 1) hx hb hr (by first | rfl | decide) (fun t ht hW => ⟨⟨1, (), rfl, (Or.inl ⟨rfl, (TKR.kwd (n := 5) hTK (by decide) c1 c2)⟩), by rw [ht]; exact hP9, hD9⟩, hS.F ht⟩) hS.2.2 dX10_isKeyword_21)

set_option maxHeartbeats 4000000 in
set_option maxRecDepth 100000 in
/-- reference: isKeyword -/
theorem y_kw6 (l : Launch) (D : va_G) (cA : Nat → ClassId) (sa : Nat → Nat) (w0 : Nat) (ed : Nat) (nb : Nat) (ol : Nat) (v0 : Nat) (v1 : Nat) (v2 : Nat) (v3 : Nat) (v4 : Nat) (v9 : Nat) (v13 : Nat) (v27 : Nat) (v28 : Nat) (v29 : Nat) (v30 : Nat) (v31 : Nat) (v32 : Nat) (v33 : Nat) (v34 : Nat) (v35 : Nat) (v36 : Nat) (v37 : Nat) (g8 : Int32) (g11 : Int32) (g12 : Int32) (g19 : Int32) (g20 : Int32) (g21 : Int32) (g22 : Int32) (g23 : Int32) (g26 : Int32) (g5 : Int64) (g6 : Int64) (g25 : Int64) (ln : Nat) (cd : Nat) (tk : Int32) (kw : Int32) (ti : Nat) (ct : Nat) (fb : Nat → Int32) (gP : Nat → Nat) (gR : Nat → Nat) (gS : Nat → Int32) (gK : Nat → Int32) (gV : Nat → Int64) (sz : Nat) (hln : ln ≤ 700) (hct : ct ≤ 701) (hti : ti < ct) (hTX : TX fb ln ct gP gR gS gV gK) (hBY : BYn ln fb) (hTK : TKR (gK ti) (gV ti) (fb (gP ti)) tk kw g19 g25) : Met l yX10_isKeyword wsX10_isKeyword ({ frames := 0, cells := 0, slots := 0, locals := 0 }) (va_Pc [.ref w0, .int 6] (Wd D cA sa [(oX10 w0 v0 v1 v2 v3 v4 g5 g6 (nI ed) g8 v9 (nI nb) g11 g12 v13 (nI ln) (nI (gP ti)) (nI (gR (ti + 1))) tk kw g19 g20 g21 g22 g23 (nI cd) g25 g26 v27 v28 v29 v30 v31 v32 v33 v34 v35 v36 v37 (nI ol))] sz)) (va_Qi (fun (r : Int32) (_ : Unit) => (r = 1 ∧ (gK ti = 14)) ∨ (r = 0 ∧ ¬ (gK ti = 14))) (fun (_ : Unit) t => Wq D (va_A [(oX10 w0 v0 v1 v2 v3 v4 g5 g6 (nI ed) g8 v9 (nI nb) g11 g12 v13 (nI ln) (nI (gP ti)) (nI (gR (ti + 1))) tk kw g19 g20 g21 g22 g23 (nI cd) g25 g26 v27 v28 v29 v30 v31 v32 v33 v34 v35 v36 v37 (nI ol))] sz) [(oX10 w0 v0 v1 v2 v3 v4 g5 g6 (nI ed) g8 v9 (nI nb) g11 g12 v13 (nI ln) (nI (gP ti)) (nI (gR (ti + 1))) tk kw g19 g20 g21 g22 g23 (nI cd) g25 g26 v27 v28 v29 v30 v31 v32 v33 v34 v35 v36 v37 (nI ol))] t) (va_A [(oX10 w0 v0 v1 v2 v3 v4 g5 g6 (nI ed) g8 v9 (nI nb) g11 g12 v13 (nI ln) (nI (gP ti)) (nI (gR (ti + 1))) tk kw g19 g20 g21 g22 g23 (nI cd) g25 g26 v27 v28 v29 v30 v31 v32 v33 v34 v35 v36 v37 (nI ol))] sz)) 0 0 (va_A [(oX10 w0 v0 v1 v2 v3 v4 g5 g6 (nI ed) g8 v9 (nI nb) g11 g12 v13 (nI ln) (nI (gP ti)) (nI (gR (ti + 1))) tk kw g19 g20 g21 g22 g23 (nI cd) g25 g26 v27 v28 v29 v30 v31 v32 v33 v34 v35 v36 v37 (nI ol))] sz) := by
  refine Met.ofW (cc := cX10_isKeyword) (maxL := 2) (ret := (some .boolean)) (by decide) rfl ?_
  intro p e s m args below meth c s₁ B hml hv
  obtain ⟨rfl, hsz, hP, hK, hD0, hC, hZ⟩ := hv
  have hx := B.exec
  have hb := B.bytes
  have hr := B.returns
  have hts := atoms_spec (ws := wsX10_isKeyword) B.pre
  have hown : s.vm.findClass RX10 = some m.cls := findClass_of_methodNamed B.named
  have hlocks := B.notSynchronized
  subst hsz
  have hD := hD0.self (sz := s.heap.size)
  generalize hAe : va_A [(oX10 w0 v0 v1 v2 v3 v4 g5 g6 (nI ed) g8 v9 (nI nb) g11 g12 v13 (nI ln) (nI (gP ti)) (nI (gR (ti + 1))) tk kw g19 g20 g21 g22 g23 (nI cd) g25 g26 v27 v28 v29 v30 v31 v32 v33 v34 v35 v36 v37 (nI ol))] s.heap.size = A at hD hZ ⊢
  have hA : ∀ q : Nat, s.heap.size ≤ q → A q := fun q h => by rw [← hAe]; exact Or.inr h
  have hS : va_S A s.heap s.heap [] := va_S.rf
  have hP : va_P D vwCl [(oX10 w0 v0 v1 v2 v3 v4 g5 g6 (nI ed) g8 v9 (nI nb) g11 g12 v13 (nI ln) (nI (gP ti)) (nI (gR (ti + 1))) tk kw g19 g20 g21 g22 g23 (nI cd) g25 g26 v27 v28 v29 v30 v31 v32 v33 v34 v35 v36 v37 (nI ol))] s.heap := hP
  have hl := lv_entry ([.ref w0, .int 6]) (n := 2) (Nat.le_of_ble_eq_true rfl)
  rw [lg_entry_eq]
  generalize (lg_sl ([.ref w0, .int 6]) ++ List.replicate (2 - (lg_sl ([.ref w0, .int 6])).length) Slot.unset).toArray = ls at hl ⊢
  have hl : lv_has ls 2 [(0, .ref w0), (1, .int 6)] := hl
  have inX10 : ∀ w ∈ u_ws RX10 TX10 39, w ∈ wsX10_isKeyword := by decide +kernel
  refine lv_aload_n hx hb dX10_isKeyword_0 rfl (lv_at hl 0 rfl) ?_
  refine va_get (D := D) (ci := 11) (v := .int tk) (C := RX10) (T := TX10) (N := 39) hx hb hts inX10 hown hK hP 0 rfl rfl 17 (by decide) (hts (.fieldLink RX10 126 "EscrowDeskModel" "token" "I") (by decide +kernel)) (fun _ h9 => h9) rfl dX10_isKeyword_1 ?_
  refine lv_iconst (v := 2) hx hb dX10_isKeyword_4 (by decide) ?_
  refine lv_icmp_ne (tgt := 20) hx hb dX10_isKeyword_5 (by decide) (fun c1 => ?_) (fun c1 => ?_)
  · skip
    refine lv_iconst (v := 0) hx hb dX10_isKeyword_20 (by decide) ?_
    obtain ⟨hP9, hD9⟩ := PDq.sub (ws' := [(oX10 w0 v0 v1 v2 v3 v4 g5 g6 (nI ed) g8 v9 (nI nb) g11 g12 v13 (nI ln) (nI (gP ti)) (nI (gR (ti + 1))) tk kw g19 g20 g21 g22 g23 (nI cd) g25 g26 v27 v28 v29 v30 v31 v32 v33 v34 v35 v36 v37 (nI ol))]) hP hD [0] (by decide) rfl
    refine W.widen (k := 0) (n := 0) (Nat.le_of_ble_eq_true rfl) (Nat.le_of_ble_eq_true rfl) ?_
    exact (W.zret (v := 0) hx hb hr (by first | rfl | decide) (fun t ht hW => ⟨⟨0, (), rfl, (Or.inr ⟨rfl, (TKR.nkwd (n := 6) hTK (by decide) (fun q9 => c1 q9.1))⟩), by rw [ht]; exact hP9, hD9⟩, hS.F ht⟩) hS.2.2 dX10_isKeyword_21)
  · skip
    refine lv_aload_n hx hb dX10_isKeyword_8 rfl (lv_at hl 0 rfl) ?_
    refine va_get (D := D) (ci := 11) (v := .int kw) (C := RX10) (T := TX10) (N := 39) hx hb hts inX10 hown hK hP 0 rfl rfl 18 (by decide) (hts (.fieldLink RX10 120 "EscrowDeskModel" "keyword" "I") (by decide +kernel)) (fun _ h9 => h9) rfl dX10_isKeyword_9 ?_
    refine lv_iload_n hx hb dX10_isKeyword_12 rfl (lv_at hl 1 rfl) ?_
    refine lv_icmp_ne (tgt := 20) hx hb dX10_isKeyword_13 (by decide) (fun c2 => ?_) (fun c2 => ?_)
    · skip
      refine lv_iconst (v := 0) hx hb dX10_isKeyword_20 (by decide) ?_
      obtain ⟨hP9, hD9⟩ := PDq.sub (ws' := [(oX10 w0 v0 v1 v2 v3 v4 g5 g6 (nI ed) g8 v9 (nI nb) g11 g12 v13 (nI ln) (nI (gP ti)) (nI (gR (ti + 1))) tk kw g19 g20 g21 g22 g23 (nI cd) g25 g26 v27 v28 v29 v30 v31 v32 v33 v34 v35 v36 v37 (nI ol))]) hP hD [0] (by decide) rfl
      refine W.widen (k := 0) (n := 0) (Nat.le_of_ble_eq_true rfl) (Nat.le_of_ble_eq_true rfl) ?_
      exact (W.zret (v := 0) hx hb hr (by first | rfl | decide) (fun t ht hW => ⟨⟨0, (), rfl, (Or.inr ⟨rfl, (TKR.nkwd (n := 6) hTK (by decide) (fun q9 => c2 q9.2))⟩), by rw [ht]; exact hP9, hD9⟩, hS.F ht⟩) hS.2.2 dX10_isKeyword_21)
    · skip
      refine lv_iconst (v := 1) hx hb dX10_isKeyword_16 (by decide) ?_
      refine lv_goto (tgt := 21) hx hb dX10_isKeyword_17 (by decide) ?_
      obtain ⟨hP9, hD9⟩ := PDq.sub (ws' := [(oX10 w0 v0 v1 v2 v3 v4 g5 g6 (nI ed) g8 v9 (nI nb) g11 g12 v13 (nI ln) (nI (gP ti)) (nI (gR (ti + 1))) tk kw g19 g20 g21 g22 g23 (nI cd) g25 g26 v27 v28 v29 v30 v31 v32 v33 v34 v35 v36 v37 (nI ol))]) hP hD [0] (by decide) rfl
      refine W.widen (k := 0) (n := 0) (Nat.le_of_ble_eq_true rfl) (Nat.le_of_ble_eq_true rfl) ?_
      exact (W.zret (v := 1) hx hb hr (by first | rfl | decide) (fun t ht hW => ⟨⟨1, (), rfl, (Or.inl ⟨rfl, (TKR.kwd (n := 6) hTK (by decide) c1 c2)⟩), by rw [ht]; exact hP9, hD9⟩, hS.F ht⟩) hS.2.2 dX10_isKeyword_21)

set_option maxHeartbeats 4000000 in
set_option maxRecDepth 100000 in
/-- reference: isKeyword -/
theorem y_kw7 (l : Launch) (D : va_G) (cA : Nat → ClassId) (sa : Nat → Nat) (w0 : Nat) (ed : Nat) (nb : Nat) (ol : Nat) (v0 : Nat) (v1 : Nat) (v2 : Nat) (v3 : Nat) (v4 : Nat) (v9 : Nat) (v13 : Nat) (v27 : Nat) (v28 : Nat) (v29 : Nat) (v30 : Nat) (v31 : Nat) (v32 : Nat) (v33 : Nat) (v34 : Nat) (v35 : Nat) (v36 : Nat) (v37 : Nat) (g8 : Int32) (g11 : Int32) (g12 : Int32) (g19 : Int32) (g20 : Int32) (g21 : Int32) (g22 : Int32) (g23 : Int32) (g26 : Int32) (g5 : Int64) (g6 : Int64) (g25 : Int64) (ln : Nat) (cd : Nat) (tk : Int32) (kw : Int32) (ti : Nat) (ct : Nat) (fb : Nat → Int32) (gP : Nat → Nat) (gR : Nat → Nat) (gS : Nat → Int32) (gK : Nat → Int32) (gV : Nat → Int64) (sz : Nat) (hln : ln ≤ 700) (hct : ct ≤ 701) (hti : ti < ct) (hTX : TX fb ln ct gP gR gS gV gK) (hBY : BYn ln fb) (hTK : TKR (gK ti) (gV ti) (fb (gP ti)) tk kw g19 g25) : Met l yX10_isKeyword wsX10_isKeyword ({ frames := 0, cells := 0, slots := 0, locals := 0 }) (va_Pc [.ref w0, .int 7] (Wd D cA sa [(oX10 w0 v0 v1 v2 v3 v4 g5 g6 (nI ed) g8 v9 (nI nb) g11 g12 v13 (nI ln) (nI (gP ti)) (nI (gR (ti + 1))) tk kw g19 g20 g21 g22 g23 (nI cd) g25 g26 v27 v28 v29 v30 v31 v32 v33 v34 v35 v36 v37 (nI ol))] sz)) (va_Qi (fun (r : Int32) (_ : Unit) => (r = 1 ∧ (gK ti = 15)) ∨ (r = 0 ∧ ¬ (gK ti = 15))) (fun (_ : Unit) t => Wq D (va_A [(oX10 w0 v0 v1 v2 v3 v4 g5 g6 (nI ed) g8 v9 (nI nb) g11 g12 v13 (nI ln) (nI (gP ti)) (nI (gR (ti + 1))) tk kw g19 g20 g21 g22 g23 (nI cd) g25 g26 v27 v28 v29 v30 v31 v32 v33 v34 v35 v36 v37 (nI ol))] sz) [(oX10 w0 v0 v1 v2 v3 v4 g5 g6 (nI ed) g8 v9 (nI nb) g11 g12 v13 (nI ln) (nI (gP ti)) (nI (gR (ti + 1))) tk kw g19 g20 g21 g22 g23 (nI cd) g25 g26 v27 v28 v29 v30 v31 v32 v33 v34 v35 v36 v37 (nI ol))] t) (va_A [(oX10 w0 v0 v1 v2 v3 v4 g5 g6 (nI ed) g8 v9 (nI nb) g11 g12 v13 (nI ln) (nI (gP ti)) (nI (gR (ti + 1))) tk kw g19 g20 g21 g22 g23 (nI cd) g25 g26 v27 v28 v29 v30 v31 v32 v33 v34 v35 v36 v37 (nI ol))] sz)) 0 0 (va_A [(oX10 w0 v0 v1 v2 v3 v4 g5 g6 (nI ed) g8 v9 (nI nb) g11 g12 v13 (nI ln) (nI (gP ti)) (nI (gR (ti + 1))) tk kw g19 g20 g21 g22 g23 (nI cd) g25 g26 v27 v28 v29 v30 v31 v32 v33 v34 v35 v36 v37 (nI ol))] sz) := by
  refine Met.ofW (cc := cX10_isKeyword) (maxL := 2) (ret := (some .boolean)) (by decide) rfl ?_
  intro p e s m args below meth c s₁ B hml hv
  obtain ⟨rfl, hsz, hP, hK, hD0, hC, hZ⟩ := hv
  have hx := B.exec
  have hb := B.bytes
  have hr := B.returns
  have hts := atoms_spec (ws := wsX10_isKeyword) B.pre
  have hown : s.vm.findClass RX10 = some m.cls := findClass_of_methodNamed B.named
  have hlocks := B.notSynchronized
  subst hsz
  have hD := hD0.self (sz := s.heap.size)
  generalize hAe : va_A [(oX10 w0 v0 v1 v2 v3 v4 g5 g6 (nI ed) g8 v9 (nI nb) g11 g12 v13 (nI ln) (nI (gP ti)) (nI (gR (ti + 1))) tk kw g19 g20 g21 g22 g23 (nI cd) g25 g26 v27 v28 v29 v30 v31 v32 v33 v34 v35 v36 v37 (nI ol))] s.heap.size = A at hD hZ ⊢
  have hA : ∀ q : Nat, s.heap.size ≤ q → A q := fun q h => by rw [← hAe]; exact Or.inr h
  have hS : va_S A s.heap s.heap [] := va_S.rf
  have hP : va_P D vwCl [(oX10 w0 v0 v1 v2 v3 v4 g5 g6 (nI ed) g8 v9 (nI nb) g11 g12 v13 (nI ln) (nI (gP ti)) (nI (gR (ti + 1))) tk kw g19 g20 g21 g22 g23 (nI cd) g25 g26 v27 v28 v29 v30 v31 v32 v33 v34 v35 v36 v37 (nI ol))] s.heap := hP
  have hl := lv_entry ([.ref w0, .int 7]) (n := 2) (Nat.le_of_ble_eq_true rfl)
  rw [lg_entry_eq]
  generalize (lg_sl ([.ref w0, .int 7]) ++ List.replicate (2 - (lg_sl ([.ref w0, .int 7])).length) Slot.unset).toArray = ls at hl ⊢
  have hl : lv_has ls 2 [(0, .ref w0), (1, .int 7)] := hl
  have inX10 : ∀ w ∈ u_ws RX10 TX10 39, w ∈ wsX10_isKeyword := by decide +kernel
  refine lv_aload_n hx hb dX10_isKeyword_0 rfl (lv_at hl 0 rfl) ?_
  refine va_get (D := D) (ci := 11) (v := .int tk) (C := RX10) (T := TX10) (N := 39) hx hb hts inX10 hown hK hP 0 rfl rfl 17 (by decide) (hts (.fieldLink RX10 126 "EscrowDeskModel" "token" "I") (by decide +kernel)) (fun _ h9 => h9) rfl dX10_isKeyword_1 ?_
  refine lv_iconst (v := 2) hx hb dX10_isKeyword_4 (by decide) ?_
  refine lv_icmp_ne (tgt := 20) hx hb dX10_isKeyword_5 (by decide) (fun c1 => ?_) (fun c1 => ?_)
  · skip
    refine lv_iconst (v := 0) hx hb dX10_isKeyword_20 (by decide) ?_
    obtain ⟨hP9, hD9⟩ := PDq.sub (ws' := [(oX10 w0 v0 v1 v2 v3 v4 g5 g6 (nI ed) g8 v9 (nI nb) g11 g12 v13 (nI ln) (nI (gP ti)) (nI (gR (ti + 1))) tk kw g19 g20 g21 g22 g23 (nI cd) g25 g26 v27 v28 v29 v30 v31 v32 v33 v34 v35 v36 v37 (nI ol))]) hP hD [0] (by decide) rfl
    refine W.widen (k := 0) (n := 0) (Nat.le_of_ble_eq_true rfl) (Nat.le_of_ble_eq_true rfl) ?_
    exact (W.zret (v := 0) hx hb hr (by first | rfl | decide) (fun t ht hW => ⟨⟨0, (), rfl, (Or.inr ⟨rfl, (TKR.nkwd (n := 7) hTK (by decide) (fun q9 => c1 q9.1))⟩), by rw [ht]; exact hP9, hD9⟩, hS.F ht⟩) hS.2.2 dX10_isKeyword_21)
  · skip
    refine lv_aload_n hx hb dX10_isKeyword_8 rfl (lv_at hl 0 rfl) ?_
    refine va_get (D := D) (ci := 11) (v := .int kw) (C := RX10) (T := TX10) (N := 39) hx hb hts inX10 hown hK hP 0 rfl rfl 18 (by decide) (hts (.fieldLink RX10 120 "EscrowDeskModel" "keyword" "I") (by decide +kernel)) (fun _ h9 => h9) rfl dX10_isKeyword_9 ?_
    refine lv_iload_n hx hb dX10_isKeyword_12 rfl (lv_at hl 1 rfl) ?_
    refine lv_icmp_ne (tgt := 20) hx hb dX10_isKeyword_13 (by decide) (fun c2 => ?_) (fun c2 => ?_)
    · skip
      refine lv_iconst (v := 0) hx hb dX10_isKeyword_20 (by decide) ?_
      obtain ⟨hP9, hD9⟩ := PDq.sub (ws' := [(oX10 w0 v0 v1 v2 v3 v4 g5 g6 (nI ed) g8 v9 (nI nb) g11 g12 v13 (nI ln) (nI (gP ti)) (nI (gR (ti + 1))) tk kw g19 g20 g21 g22 g23 (nI cd) g25 g26 v27 v28 v29 v30 v31 v32 v33 v34 v35 v36 v37 (nI ol))]) hP hD [0] (by decide) rfl
      refine W.widen (k := 0) (n := 0) (Nat.le_of_ble_eq_true rfl) (Nat.le_of_ble_eq_true rfl) ?_
      exact (W.zret (v := 0) hx hb hr (by first | rfl | decide) (fun t ht hW => ⟨⟨0, (), rfl, (Or.inr ⟨rfl, (TKR.nkwd (n := 7) hTK (by decide) (fun q9 => c2 q9.2))⟩), by rw [ht]; exact hP9, hD9⟩, hS.F ht⟩) hS.2.2 dX10_isKeyword_21)
    · skip
      refine lv_iconst (v := 1) hx hb dX10_isKeyword_16 (by decide) ?_
      refine lv_goto (tgt := 21) hx hb dX10_isKeyword_17 (by decide) ?_
      obtain ⟨hP9, hD9⟩ := PDq.sub (ws' := [(oX10 w0 v0 v1 v2 v3 v4 g5 g6 (nI ed) g8 v9 (nI nb) g11 g12 v13 (nI ln) (nI (gP ti)) (nI (gR (ti + 1))) tk kw g19 g20 g21 g22 g23 (nI cd) g25 g26 v27 v28 v29 v30 v31 v32 v33 v34 v35 v36 v37 (nI ol))]) hP hD [0] (by decide) rfl
      refine W.widen (k := 0) (n := 0) (Nat.le_of_ble_eq_true rfl) (Nat.le_of_ble_eq_true rfl) ?_
      exact (W.zret (v := 1) hx hb hr (by first | rfl | decide) (fun t ht hW => ⟨⟨1, (), rfl, (Or.inl ⟨rfl, (TKR.kwd (n := 7) hTK (by decide) c1 c2)⟩), by rw [ht]; exact hP9, hD9⟩, hS.F ht⟩) hS.2.2 dX10_isKeyword_21)

set_option maxHeartbeats 4000000 in
set_option maxRecDepth 100000 in
/-- reference: isName -/
theorem y_isName (l : Launch) (D : va_G) (cA : Nat → ClassId) (sa : Nat → Nat) (w0 : Nat) (ed : Nat) (nb : Nat) (ol : Nat) (v0 : Nat) (v1 : Nat) (v2 : Nat) (v3 : Nat) (v4 : Nat) (v9 : Nat) (v13 : Nat) (v27 : Nat) (v28 : Nat) (v29 : Nat) (v30 : Nat) (v31 : Nat) (v32 : Nat) (v33 : Nat) (v34 : Nat) (v35 : Nat) (v36 : Nat) (v37 : Nat) (g8 : Int32) (g11 : Int32) (g12 : Int32) (g19 : Int32) (g20 : Int32) (g21 : Int32) (g22 : Int32) (g23 : Int32) (g26 : Int32) (g5 : Int64) (g6 : Int64) (g25 : Int64) (ln : Nat) (cd : Nat) (tk : Int32) (kw : Int32) (ti : Nat) (ct : Nat) (fb : Nat → Int32) (gP : Nat → Nat) (gR : Nat → Nat) (gS : Nat → Int32) (gK : Nat → Int32) (gV : Nat → Int64) (sz : Nat) (hln : ln ≤ 700) (hct : ct ≤ 701) (hti : ti < ct) (hTX : TX fb ln ct gP gR gS gV gK) (hBY : BYn ln fb) (hTK : TKR (gK ti) (gV ti) (fb (gP ti)) tk kw g19 g25) : Met l yX10_isName wsX10_isName ({ frames := 0, cells := 0, slots := 0, locals := 0 }) (va_Pc [.ref w0] (Wd D cA sa [(oX10 w0 v0 v1 v2 v3 v4 g5 g6 (nI ed) g8 v9 (nI nb) g11 g12 v13 (nI ln) (nI (gP ti)) (nI (gR (ti + 1))) tk kw g19 g20 g21 g22 g23 (nI cd) g25 g26 v27 v28 v29 v30 v31 v32 v33 v34 v35 v36 v37 (nI ol))] sz)) (va_Qi (fun (r : Int32) (_ : Unit) => (r = 1 ∧ (gK ti = 4)) ∨ (r = 0 ∧ ¬ (gK ti = 4))) (fun (_ : Unit) t => Wq D (va_A [(oX10 w0 v0 v1 v2 v3 v4 g5 g6 (nI ed) g8 v9 (nI nb) g11 g12 v13 (nI ln) (nI (gP ti)) (nI (gR (ti + 1))) tk kw g19 g20 g21 g22 g23 (nI cd) g25 g26 v27 v28 v29 v30 v31 v32 v33 v34 v35 v36 v37 (nI ol))] sz) [(oX10 w0 v0 v1 v2 v3 v4 g5 g6 (nI ed) g8 v9 (nI nb) g11 g12 v13 (nI ln) (nI (gP ti)) (nI (gR (ti + 1))) tk kw g19 g20 g21 g22 g23 (nI cd) g25 g26 v27 v28 v29 v30 v31 v32 v33 v34 v35 v36 v37 (nI ol))] t) (va_A [(oX10 w0 v0 v1 v2 v3 v4 g5 g6 (nI ed) g8 v9 (nI nb) g11 g12 v13 (nI ln) (nI (gP ti)) (nI (gR (ti + 1))) tk kw g19 g20 g21 g22 g23 (nI cd) g25 g26 v27 v28 v29 v30 v31 v32 v33 v34 v35 v36 v37 (nI ol))] sz)) 0 0 (va_A [(oX10 w0 v0 v1 v2 v3 v4 g5 g6 (nI ed) g8 v9 (nI nb) g11 g12 v13 (nI ln) (nI (gP ti)) (nI (gR (ti + 1))) tk kw g19 g20 g21 g22 g23 (nI cd) g25 g26 v27 v28 v29 v30 v31 v32 v33 v34 v35 v36 v37 (nI ol))] sz) := by
  refine Met.ofW (cc := cX10_isName) (maxL := 1) (ret := (some .boolean)) (by decide) rfl ?_
  intro p e s m args below meth c s₁ B hml hv
  obtain ⟨rfl, hsz, hP, hK, hD0, hC, hZ⟩ := hv
  have hx := B.exec
  have hb := B.bytes
  have hr := B.returns
  have hts := atoms_spec (ws := wsX10_isName) B.pre
  have hown : s.vm.findClass RX10 = some m.cls := findClass_of_methodNamed B.named
  have hlocks := B.notSynchronized
  subst hsz
  have hD := hD0.self (sz := s.heap.size)
  generalize hAe : va_A [(oX10 w0 v0 v1 v2 v3 v4 g5 g6 (nI ed) g8 v9 (nI nb) g11 g12 v13 (nI ln) (nI (gP ti)) (nI (gR (ti + 1))) tk kw g19 g20 g21 g22 g23 (nI cd) g25 g26 v27 v28 v29 v30 v31 v32 v33 v34 v35 v36 v37 (nI ol))] s.heap.size = A at hD hZ ⊢
  have hA : ∀ q : Nat, s.heap.size ≤ q → A q := fun q h => by rw [← hAe]; exact Or.inr h
  have hS : va_S A s.heap s.heap [] := va_S.rf
  have hP : va_P D vwCl [(oX10 w0 v0 v1 v2 v3 v4 g5 g6 (nI ed) g8 v9 (nI nb) g11 g12 v13 (nI ln) (nI (gP ti)) (nI (gR (ti + 1))) tk kw g19 g20 g21 g22 g23 (nI cd) g25 g26 v27 v28 v29 v30 v31 v32 v33 v34 v35 v36 v37 (nI ol))] s.heap := hP
  have hl := lv_entry ([.ref w0]) (n := 1) (Nat.le_of_ble_eq_true rfl)
  rw [lg_entry_eq]
  generalize (lg_sl ([.ref w0]) ++ List.replicate (1 - (lg_sl ([.ref w0])).length) Slot.unset).toArray = ls at hl ⊢
  have hl : lv_has ls 1 [(0, .ref w0)] := hl
  have inX10 : ∀ w ∈ u_ws RX10 TX10 39, w ∈ wsX10_isName := by decide +kernel
  refine lv_aload_n hx hb dX10_isName_0 rfl (lv_at hl 0 rfl) ?_
  refine va_get (D := D) (ci := 11) (v := .int tk) (C := RX10) (T := TX10) (N := 39) hx hb hts inX10 hown hK hP 0 rfl rfl 17 (by decide) (hts (.fieldLink RX10 126 "EscrowDeskModel" "token" "I") (by decide +kernel)) (fun _ h9 => h9) rfl dX10_isName_1 ?_
  refine lv_iconst (v := 2) hx hb dX10_isName_4 (by decide) ?_
  refine lv_icmp_ne (tgt := 20) hx hb dX10_isName_5 (by decide) (fun c1 => ?_) (fun c1 => ?_)
  · skip
    refine lv_iconst (v := 0) hx hb dX10_isName_20 (by decide) ?_
    obtain ⟨hP9, hD9⟩ := PDq.sub (ws' := [(oX10 w0 v0 v1 v2 v3 v4 g5 g6 (nI ed) g8 v9 (nI nb) g11 g12 v13 (nI ln) (nI (gP ti)) (nI (gR (ti + 1))) tk kw g19 g20 g21 g22 g23 (nI cd) g25 g26 v27 v28 v29 v30 v31 v32 v33 v34 v35 v36 v37 (nI ol))]) hP hD [0] (by decide) rfl
    refine W.widen (k := 0) (n := 0) (Nat.le_of_ble_eq_true rfl) (Nat.le_of_ble_eq_true rfl) ?_
    exact (W.zret (v := 0) hx hb hr (by first | rfl | decide) (fun t ht hW => ⟨⟨0, (), rfl, (Or.inr ⟨rfl, (TKR.nnam hTK (fun q9 => c1 q9.1))⟩), by rw [ht]; exact hP9, hD9⟩, hS.F ht⟩) hS.2.2 dX10_isName_21)
  · skip
    refine lv_aload_n hx hb dX10_isName_8 rfl (lv_at hl 0 rfl) ?_
    refine va_get (D := D) (ci := 11) (v := .int kw) (C := RX10) (T := TX10) (N := 39) hx hb hts inX10 hown hK hP 0 rfl rfl 18 (by decide) (hts (.fieldLink RX10 120 "EscrowDeskModel" "keyword" "I") (by decide +kernel)) (fun _ h9 => h9) rfl dX10_isName_9 ?_
    refine lv_iconst (v := (-1)) hx hb dX10_isName_12 (by decide) ?_
    refine lv_icmp_ne (tgt := 20) hx hb dX10_isName_13 (by decide) (fun c2 => ?_) (fun c2 => ?_)
    · skip
      refine lv_iconst (v := 0) hx hb dX10_isName_20 (by decide) ?_
      obtain ⟨hP9, hD9⟩ := PDq.sub (ws' := [(oX10 w0 v0 v1 v2 v3 v4 g5 g6 (nI ed) g8 v9 (nI nb) g11 g12 v13 (nI ln) (nI (gP ti)) (nI (gR (ti + 1))) tk kw g19 g20 g21 g22 g23 (nI cd) g25 g26 v27 v28 v29 v30 v31 v32 v33 v34 v35 v36 v37 (nI ol))]) hP hD [0] (by decide) rfl
      refine W.widen (k := 0) (n := 0) (Nat.le_of_ble_eq_true rfl) (Nat.le_of_ble_eq_true rfl) ?_
      exact (W.zret (v := 0) hx hb hr (by first | rfl | decide) (fun t ht hW => ⟨⟨0, (), rfl, (Or.inr ⟨rfl, (TKR.nnam hTK (fun q9 => c2 q9.2))⟩), by rw [ht]; exact hP9, hD9⟩, hS.F ht⟩) hS.2.2 dX10_isName_21)
    · skip
      refine lv_iconst (v := 1) hx hb dX10_isName_16 (by decide) ?_
      refine lv_goto (tgt := 21) hx hb dX10_isName_17 (by decide) ?_
      obtain ⟨hP9, hD9⟩ := PDq.sub (ws' := [(oX10 w0 v0 v1 v2 v3 v4 g5 g6 (nI ed) g8 v9 (nI nb) g11 g12 v13 (nI ln) (nI (gP ti)) (nI (gR (ti + 1))) tk kw g19 g20 g21 g22 g23 (nI cd) g25 g26 v27 v28 v29 v30 v31 v32 v33 v34 v35 v36 v37 (nI ol))]) hP hD [0] (by decide) rfl
      refine W.widen (k := 0) (n := 0) (Nat.le_of_ble_eq_true rfl) (Nat.le_of_ble_eq_true rfl) ?_
      exact (W.zret (v := 1) hx hb hr (by first | rfl | decide) (fun t ht hW => ⟨⟨1, (), rfl, (Or.inl ⟨rfl, (TKR.nam hTK c1 c2).1⟩), by rw [ht]; exact hP9, hD9⟩, hS.F ht⟩) hS.2.2 dX10_isName_21)

set_option maxHeartbeats 4000000 in
set_option maxRecDepth 100000 in
/-- reference: fail -/
theorem y_fail (l : Launch) (D : va_G) (cA : Nat → ClassId) (sa : Nat → Nat) (w0 : Nat) (ed : Nat) (nb : Nat) (ol : Nat) (v0 : Nat) (v1 : Nat) (v2 : Nat) (v3 : Nat) (v4 : Nat) (v9 : Nat) (v13 : Nat) (v27 : Nat) (v28 : Nat) (v29 : Nat) (v30 : Nat) (v31 : Nat) (v32 : Nat) (v33 : Nat) (v34 : Nat) (v35 : Nat) (v36 : Nat) (v37 : Nat) (g8 : Int32) (g11 : Int32) (g12 : Int32) (g19 : Int32) (g20 : Int32) (g21 : Int32) (g22 : Int32) (g23 : Int32) (g26 : Int32) (g5 : Int64) (g6 : Int64) (g25 : Int64) (ln : Nat) (cd : Nat) (tk : Int32) (kw : Int32) (ti : Nat) (ct : Nat) (fb : Nat → Int32) (gP : Nat → Nat) (gR : Nat → Nat) (gS : Nat → Int32) (gK : Nat → Int32) (gV : Nat → Int64) (a : Int32) (sz : Nat) (hln : ln ≤ 700) (hct : ct ≤ 701) (hti : ti < ct) (hTX : TX fb ln ct gP gR gS gV gK) (hBY : BYn ln fb) (hTK : TKR (gK ti) (gV ti) (fb (gP ti)) tk kw g19 g25) : Met l yX10_fail wsX10_fail ({ frames := 0, cells := 0, slots := 0, locals := 0 }) (va_Pc [.ref w0, .int a] (Wd D cA sa [(oX10 w0 v0 v1 v2 v3 v4 g5 g6 (nI ed) g8 v9 (nI nb) g11 g12 v13 (nI ln) (nI (gP ti)) (nI (gR (ti + 1))) tk kw g19 g20 g21 g22 g23 (nI cd) g25 g26 v27 v28 v29 v30 v31 v32 v33 v34 v35 v36 v37 (nI ol))] sz)) (va_Qi (fun (r : Int32) (_ : Unit) => r = 0) (fun (_ : Unit) t => ∃ z20 : Int32, z20 = fek (gK ti) a ∧ Wq D (va_A [(oX10 w0 v0 v1 v2 v3 v4 g5 g6 (nI ed) g8 v9 (nI nb) g11 g12 v13 (nI ln) (nI (gP ti)) (nI (gR (ti + 1))) tk kw g19 g20 g21 g22 g23 (nI cd) g25 g26 v27 v28 v29 v30 v31 v32 v33 v34 v35 v36 v37 (nI ol))] sz) [(oX10 w0 v0 v1 v2 v3 v4 g5 g6 (nI ed) g8 v9 (nI nb) g11 g12 v13 (nI ln) (nI (gP ti)) (nI (gR (ti + 1))) tk kw g19 z20 (nI (gP ti)) g22 g23 (nI cd) g25 g26 v27 v28 v29 v30 v31 v32 v33 v34 v35 v36 v37 (nI ol))] t) (va_A [(oX10 w0 v0 v1 v2 v3 v4 g5 g6 (nI ed) g8 v9 (nI nb) g11 g12 v13 (nI ln) (nI (gP ti)) (nI (gR (ti + 1))) tk kw g19 g20 g21 g22 g23 (nI cd) g25 g26 v27 v28 v29 v30 v31 v32 v33 v34 v35 v36 v37 (nI ol))] sz)) 0 0 (va_A [(oX10 w0 v0 v1 v2 v3 v4 g5 g6 (nI ed) g8 v9 (nI nb) g11 g12 v13 (nI ln) (nI (gP ti)) (nI (gR (ti + 1))) tk kw g19 g20 g21 g22 g23 (nI cd) g25 g26 v27 v28 v29 v30 v31 v32 v33 v34 v35 v36 v37 (nI ol))] sz) := by
  refine Met.ofW (cc := cX10_fail) (maxL := 2) (ret := (some .boolean)) (by decide) rfl ?_
  intro p e s m args below meth c s₁ B hml hv
  obtain ⟨rfl, hsz, hP, hK, hD0, hC, hZ⟩ := hv
  have hx := B.exec
  have hb := B.bytes
  have hr := B.returns
  have hts := atoms_spec (ws := wsX10_fail) B.pre
  have hown : s.vm.findClass RX10 = some m.cls := findClass_of_methodNamed B.named
  have hlocks := B.notSynchronized
  subst hsz
  have hD := hD0.self (sz := s.heap.size)
  generalize hAe : va_A [(oX10 w0 v0 v1 v2 v3 v4 g5 g6 (nI ed) g8 v9 (nI nb) g11 g12 v13 (nI ln) (nI (gP ti)) (nI (gR (ti + 1))) tk kw g19 g20 g21 g22 g23 (nI cd) g25 g26 v27 v28 v29 v30 v31 v32 v33 v34 v35 v36 v37 (nI ol))] s.heap.size = A at hD hZ ⊢
  have hA : ∀ q : Nat, s.heap.size ≤ q → A q := fun q h => by rw [← hAe]; exact Or.inr h
  have hS : va_S A s.heap s.heap [] := va_S.rf
  have hP : va_P D vwCl [(oX10 w0 v0 v1 v2 v3 v4 g5 g6 (nI ed) g8 v9 (nI nb) g11 g12 v13 (nI ln) (nI (gP ti)) (nI (gR (ti + 1))) tk kw g19 g20 g21 g22 g23 (nI cd) g25 g26 v27 v28 v29 v30 v31 v32 v33 v34 v35 v36 v37 (nI ol))] s.heap := hP
  have hl := lv_entry ([.ref w0, .int a]) (n := 2) (Nat.le_of_ble_eq_true rfl)
  rw [lg_entry_eq]
  generalize (lg_sl ([.ref w0, .int a]) ++ List.replicate (2 - (lg_sl ([.ref w0, .int a])).length) Slot.unset).toArray = ls at hl ⊢
  have hl : lv_has ls 2 [(0, .ref w0), (1, .int a)] := hl
  have inX10 : ∀ w ∈ u_ws RX10 TX10 39, w ∈ wsX10_fail := by decide +kernel
  refine lv_aload_n hx hb dX10_fail_0 rfl (lv_at hl 0 rfl) ?_
  refine lv_aload_n hx hb dX10_fail_1 rfl (lv_at hl 0 rfl) ?_
  refine va_get (D := D) (ci := 11) (v := .int tk) (C := RX10) (T := TX10) (N := 39) hx hb hts inX10 hown hK hP 0 rfl rfl 17 (by decide) (hts (.fieldLink RX10 126 "EscrowDeskModel" "token" "I") (by decide +kernel)) (fun _ h9 => h9) rfl dX10_fail_2 ?_
  refine lv_iconst (v := 1) hx hb dX10_fail_5 (by decide) ?_
  refine lv_icmp_ne (tgt := 13) hx hb dX10_fail_6 (by decide) (fun c1 => ?_) (fun c1 => ?_)
  · skip
    refine lv_iload_n hx hb dX10_fail_13 rfl (lv_at hl 1 rfl) ?_
    refine va_put (D := D) (ci := 11) (v := .int a) (ty := .int) (C := RX10) (T := TX10) (N := 39) hx hb hts inX10 tyX10 tyX10_ok nmX10 hown hK hP hD hS 0 rfl rfl 20 (by decide) (hts (.fieldLink RX10 143 "EscrowDeskModel" "kind" "I") (by decide +kernel)) (fun _ h9 => h9) rfl (by decide +kernel) rfl rfl (Nat.le_of_ble_eq_true rfl) dX10_fail_14 (fun H locs hP hD hS => ?_)
    obtain ⟨hP, hD⟩ : PDq D A [(oX10 w0 v0 v1 v2 v3 v4 g5 g6 (nI ed) g8 v9 (nI nb) g11 g12 v13 (nI ln) (nI (gP ti)) (nI (gR (ti + 1))) tk kw g19 a g21 g22 g23 (nI cd) g25 g26 v27 v28 v29 v30 v31 v32 v33 v34 v35 v36 v37 (nI ol))] H := ⟨hP, hD⟩
    refine lv_aload_n hx hb dX10_fail_17 rfl (lv_at hl 0 rfl) ?_
    refine lv_aload_n hx hb dX10_fail_18 rfl (lv_at hl 0 rfl) ?_
    refine va_get (D := D) (ci := 11) (v := .int (nI (gP ti))) (C := RX10) (T := TX10) (N := 39) hx hb hts inX10 hown hK hP 0 rfl rfl 15 (by decide) (hts (.fieldLink RX10 117 "EscrowDeskModel" "start" "I") (by decide +kernel)) (fun _ h9 => h9) rfl dX10_fail_19 ?_
    refine va_put (D := D) (ci := 11) (v := .int (nI (gP ti))) (ty := .int) (C := RX10) (T := TX10) (N := 39) hx hb hts inX10 tyX10 tyX10_ok nmX10 hown hK hP hD hS 0 rfl rfl 21 (by decide) (hts (.fieldLink RX10 146 "EscrowDeskModel" "position" "I") (by decide +kernel)) (fun _ h9 => h9) rfl (by decide +kernel) rfl rfl (Nat.le_of_ble_eq_true rfl) dX10_fail_22 (fun H locs hP hD hS => ?_)
    obtain ⟨hP, hD⟩ : PDq D A [(oX10 w0 v0 v1 v2 v3 v4 g5 g6 (nI ed) g8 v9 (nI nb) g11 g12 v13 (nI ln) (nI (gP ti)) (nI (gR (ti + 1))) tk kw g19 a (nI (gP ti)) g22 g23 (nI cd) g25 g26 v27 v28 v29 v30 v31 v32 v33 v34 v35 v36 v37 (nI ol))] H := ⟨hP, hD⟩
    refine lv_iconst (v := 0) hx hb dX10_fail_25 (by decide) ?_
    obtain ⟨hP9, hD9⟩ := PDq.sub (ws' := [(oX10 w0 v0 v1 v2 v3 v4 g5 g6 (nI ed) g8 v9 (nI nb) g11 g12 v13 (nI ln) (nI (gP ti)) (nI (gR (ti + 1))) tk kw g19 a (nI (gP ti)) g22 g23 (nI cd) g25 g26 v27 v28 v29 v30 v31 v32 v33 v34 v35 v36 v37 (nI ol))]) hP hD [0] (by decide) rfl
    refine W.widen (k := 0) (n := 0) (Nat.le_of_ble_eq_true rfl) (Nat.le_of_ble_eq_true rfl) ?_
    exact (W.zret (v := 0) hx hb hr (by first | rfl | decide) (fun t ht hW => ⟨⟨0, (), rfl, rfl, a, (TKR.fn hTK c1 a), by rw [ht]; exact hP9, hD9⟩, hS.F ht⟩) hS.2.2 dX10_fail_26)
  · skip
    refine lv_iconst (v := 1) hx hb dX10_fail_9 (by decide) ?_
    refine lv_goto (tgt := 14) hx hb dX10_fail_10 (by decide) ?_
    refine va_put (D := D) (ci := 11) (v := .int 1) (ty := .int) (C := RX10) (T := TX10) (N := 39) hx hb hts inX10 tyX10 tyX10_ok nmX10 hown hK hP hD hS 0 rfl rfl 20 (by decide) (hts (.fieldLink RX10 143 "EscrowDeskModel" "kind" "I") (by decide +kernel)) (fun _ h9 => h9) rfl (by decide +kernel) rfl rfl (Nat.le_of_ble_eq_true rfl) dX10_fail_14 (fun H locs hP hD hS => ?_)
    obtain ⟨hP, hD⟩ : PDq D A [(oX10 w0 v0 v1 v2 v3 v4 g5 g6 (nI ed) g8 v9 (nI nb) g11 g12 v13 (nI ln) (nI (gP ti)) (nI (gR (ti + 1))) tk kw g19 1 g21 g22 g23 (nI cd) g25 g26 v27 v28 v29 v30 v31 v32 v33 v34 v35 v36 v37 (nI ol))] H := ⟨hP, hD⟩
    refine lv_aload_n hx hb dX10_fail_17 rfl (lv_at hl 0 rfl) ?_
    refine lv_aload_n hx hb dX10_fail_18 rfl (lv_at hl 0 rfl) ?_
    refine va_get (D := D) (ci := 11) (v := .int (nI (gP ti))) (C := RX10) (T := TX10) (N := 39) hx hb hts inX10 hown hK hP 0 rfl rfl 15 (by decide) (hts (.fieldLink RX10 117 "EscrowDeskModel" "start" "I") (by decide +kernel)) (fun _ h9 => h9) rfl dX10_fail_19 ?_
    refine va_put (D := D) (ci := 11) (v := .int (nI (gP ti))) (ty := .int) (C := RX10) (T := TX10) (N := 39) hx hb hts inX10 tyX10 tyX10_ok nmX10 hown hK hP hD hS 0 rfl rfl 21 (by decide) (hts (.fieldLink RX10 146 "EscrowDeskModel" "position" "I") (by decide +kernel)) (fun _ h9 => h9) rfl (by decide +kernel) rfl rfl (Nat.le_of_ble_eq_true rfl) dX10_fail_22 (fun H locs hP hD hS => ?_)
    obtain ⟨hP, hD⟩ : PDq D A [(oX10 w0 v0 v1 v2 v3 v4 g5 g6 (nI ed) g8 v9 (nI nb) g11 g12 v13 (nI ln) (nI (gP ti)) (nI (gR (ti + 1))) tk kw g19 1 (nI (gP ti)) g22 g23 (nI cd) g25 g26 v27 v28 v29 v30 v31 v32 v33 v34 v35 v36 v37 (nI ol))] H := ⟨hP, hD⟩
    refine lv_iconst (v := 0) hx hb dX10_fail_25 (by decide) ?_
    obtain ⟨hP9, hD9⟩ := PDq.sub (ws' := [(oX10 w0 v0 v1 v2 v3 v4 g5 g6 (nI ed) g8 v9 (nI nb) g11 g12 v13 (nI ln) (nI (gP ti)) (nI (gR (ti + 1))) tk kw g19 1 (nI (gP ti)) g22 g23 (nI cd) g25 g26 v27 v28 v29 v30 v31 v32 v33 v34 v35 v36 v37 (nI ol))]) hP hD [0] (by decide) rfl
    refine W.widen (k := 0) (n := 0) (Nat.le_of_ble_eq_true rfl) (Nat.le_of_ble_eq_true rfl) ?_
    exact (W.zret (v := 0) hx hb hr (by first | rfl | decide) (fun t ht hW => ⟨⟨0, (), rfl, rfl, 1, (TKR.fk hTK c1 a), by rw [ht]; exact hP9, hD9⟩, hS.F ht⟩) hS.2.2 dX10_fail_26)

set_option maxHeartbeats 4000000 in
set_option maxRecDepth 100000 in
/-- reference: between -/
theorem y_between (l : Launch) (D : va_G) (cA : Nat → ClassId) (sa : Nat → Nat) (a : Int64) (lo : Int64) (hi : Int64) (sz : Nat) : Met l yX10_between wsX10_between ({ frames := 0, cells := 0, slots := 0, locals := 0 }) (va_Pc [.long a, .long lo, .long hi] (Wd D cA sa [] sz)) (va_Qi (fun (r : Int32) (_ : Unit) => (r = 1 ∧ (lo ≤ a ∧ a ≤ hi)) ∨ (r = 0 ∧ ¬ (lo ≤ a ∧ a ≤ hi))) (fun (_ : Unit) t => Wq D (va_A [] sz) [] t) (va_A [] sz)) 0 0 (va_A [] sz) := by
  refine Met.ofW (cc := cX10_between) (maxL := 6) (ret := (some .boolean)) (by decide) rfl ?_
  intro p e s m args below meth c s₁ B hml hv
  obtain ⟨rfl, hsz, hP, hK, hD0, hC, hZ⟩ := hv
  have hx := B.exec
  have hb := B.bytes
  have hr := B.returns
  have hts := atoms_spec (ws := wsX10_between) B.pre
  have hown : s.vm.findClass RX10 = some m.cls := findClass_of_methodNamed B.named
  have hlocks := B.notSynchronized
  subst hsz
  have hD := hD0.self (sz := s.heap.size)
  generalize hAe : va_A [] s.heap.size = A at hD hZ ⊢
  have hA : ∀ q : Nat, s.heap.size ≤ q → A q := fun q h => by rw [← hAe]; exact Or.inr h
  have hS : va_S A s.heap s.heap [] := va_S.rf
  have hP : va_P D vwCl [] s.heap := hP
  have hl := lv_entry ([.long a, .long lo, .long hi]) (n := 6) (Nat.le_of_ble_eq_true rfl)
  rw [lg_entry_eq]
  generalize (lg_sl ([.long a, .long lo, .long hi]) ++ List.replicate (6 - (lg_sl ([.long a, .long lo, .long hi])).length) Slot.unset).toArray = ls at hl ⊢
  have hl : lv_has ls 6 [(0, .long a), (2, .long lo), (4, .long hi)] := hl
  refine lv_lload_n hx hb dX10_between_0 rfl (lv_at hl 0 rfl) ?_
  refine lv_lload_n hx hb dX10_between_1 rfl (lv_at hl 1 rfl) ?_
  refine W.lcmp hx hb dX10_between_2 ?_
  refine lv_if_lt (tgt := 17) hx hb dX10_between_3 (by decide) (fun c1 => ?_) (fun c1 => ?_)
  · skip
    refine lv_iconst (v := 0) hx hb dX10_between_17 (by decide) ?_
    obtain ⟨hP9, hD9⟩ := PDq.sub (ws' := []) hP hD [] (by decide) rfl
    refine W.widen (k := 0) (n := 0) (Nat.le_of_ble_eq_true rfl) (Nat.le_of_ble_eq_true rfl) ?_
    exact (W.zret (v := 0) hx hb hr (by first | rfl | decide) (fun t ht hW => ⟨⟨0, (), rfl, (Or.inr ⟨rfl, (fun q9 => absurd (lg_lt.mp c1) (Int64.not_lt.mpr q9.1))⟩), by rw [ht]; exact hP9, hD9⟩, hS.F ht⟩) hS.2.2 dX10_between_18)
  · skip
    refine lv_lload_n hx hb dX10_between_6 rfl (lv_at hl 0 rfl) ?_
    refine lv_lload hx hb dX10_between_7 (lv_at hl 2 rfl) ?_
    refine W.lcmp hx hb dX10_between_9 ?_
    refine lv_if_gt (tgt := 17) hx hb dX10_between_10 (by decide) (fun c2 => ?_) (fun c2 => ?_)
    · skip
      refine lv_iconst (v := 0) hx hb dX10_between_17 (by decide) ?_
      obtain ⟨hP9, hD9⟩ := PDq.sub (ws' := []) hP hD [] (by decide) rfl
      refine W.widen (k := 0) (n := 0) (Nat.le_of_ble_eq_true rfl) (Nat.le_of_ble_eq_true rfl) ?_
      exact (W.zret (v := 0) hx hb hr (by first | rfl | decide) (fun t ht hW => ⟨⟨0, (), rfl, (Or.inr ⟨rfl, (fun q9 => absurd (lg_gt.mp c2) (Int64.not_lt.mpr q9.2))⟩), by rw [ht]; exact hP9, hD9⟩, hS.F ht⟩) hS.2.2 dX10_between_18)
    · skip
      refine lv_iconst (v := 1) hx hb dX10_between_13 (by decide) ?_
      refine lv_goto (tgt := 18) hx hb dX10_between_14 (by decide) ?_
      obtain ⟨hP9, hD9⟩ := PDq.sub (ws' := []) hP hD [] (by decide) rfl
      refine W.widen (k := 0) (n := 0) (Nat.le_of_ble_eq_true rfl) (Nat.le_of_ble_eq_true rfl) ?_
      exact (W.zret (v := 1) hx hb hr (by first | rfl | decide) (fun t ht hW => ⟨⟨1, (), rfl, (Or.inl ⟨rfl, ⟨lg_nlt c1, lg_ngt c2⟩⟩), by rw [ht]; exact hP9, hD9⟩, hS.F ht⟩) hS.2.2 dX10_between_18)

set_option maxHeartbeats 4000000 in
set_option maxRecDepth 100000 in
/-- reference: number -/
theorem y_number (l : Launch) (D : va_G) (cA : Nat → ClassId) (sa : Nat → Nat) (w0 : Nat) (ed : Nat) (nb : Nat) (ol : Nat) (v0 : Nat) (v1 : Nat) (v2 : Nat) (v3 : Nat) (v4 : Nat) (v9 : Nat) (v13 : Nat) (v27 : Nat) (v28 : Nat) (v29 : Nat) (v30 : Nat) (v31 : Nat) (v32 : Nat) (v33 : Nat) (v34 : Nat) (v35 : Nat) (v36 : Nat) (v37 : Nat) (g8 : Int32) (g11 : Int32) (g12 : Int32) (g19 : Int32) (g20 : Int32) (g21 : Int32) (g22 : Int32) (g23 : Int32) (g26 : Int32) (g5 : Int64) (g6 : Int64) (g25 : Int64) (ln : Nat) (cd : Nat) (tk : Int32) (kw : Int32) (ti : Nat) (ct : Nat) (fb : Nat → Int32) (fkw : Nat → Int64) (gP : Nat → Nat) (gR : Nat → Nat) (gS : Nat → Int32) (gK : Nat → Int32) (gV : Nat → Int64) (lo : Nat) (hi : Nat) (sz : Nat) (hln : ln ≤ 700) (hct : ct ≤ 701) (hti : ti < ct) (hTX : TX fb ln ct gP gR gS gV gK) (hBY : BYn ln fb) (hTK : TKR (gK ti) (gV ti) (fb (gP ti)) tk kw g19 g25) (hKW : KW 15 fkw) (hhi : hi < 2147483648) (hlo : lo ≤ hi) : Met l yX10_number wsX10_number ({ frames := 2, cells := 0, slots := 0, locals := 44 }) (va_Pc [.ref w0, .int (nI lo), .int (nI hi)] (Wd D cA sa [(oX10 w0 v0 v1 v2 v3 v4 g5 g6 (nI ed) g8 v9 (nI nb) g11 g12 v13 (nI ln) (nI (gP ti)) (nI (gR (ti + 1))) tk kw g19 g20 g21 g22 g23 (nI cd) g25 g26 v27 v28 v29 v30 v31 v32 v33 v34 v35 v36 v37 (nI ol)), (v9, .inl (cA 0, 700, .inl fb)), (v13, .inl (cA 1, 15, .inr (.inl fkw)))] sz)) (va_Qi (fun (r : Int32) (u9 : Int32) => u9 = r ∧ (r = 0 ∨ r = 1)) (fun (u9 : Int32) t => ∃ tj : Nat, ∃ z17 : Int32, ∃ z18 : Int32, ∃ z19 : Int32, ∃ z20 : Int32, ∃ z21 : Int32, ∃ z26 : Int32, ∃ z25 : Int64, tj < ct ∧ gP tj ≤ ln ∧ ti ≤ tj ∧ TKR (gK tj) (gV tj) (fb (gP tj)) z17 z18 z19 z25 ∧ (u9 = 1 → tj = ti + 1) ∧ (u9 = 1 → z20 = g20) ∧ (u9 = 1 → z21 = g21) ∧ (u9 = 1 → gP ti + 1 ≤ gP tj) ∧ (u9 = 1 → nmE (lN lo) (lN hi) (gK ti) (gV ti) = none) ∧ (u9 = 1 → NV9 z26 (gV ti)) ∧ (u9 = 1 → NB lo hi z26) ∧ (u9 = 0 → NmF lo hi (gK ti) (gV ti) z20) ∧ (u9 = 0 → z21 = gS ti) ∧ Wq D (va_A [(oX10 w0 v0 v1 v2 v3 v4 g5 g6 (nI ed) g8 v9 (nI nb) g11 g12 v13 (nI ln) (nI (gP ti)) (nI (gR (ti + 1))) tk kw g19 g20 g21 g22 g23 (nI cd) g25 g26 v27 v28 v29 v30 v31 v32 v33 v34 v35 v36 v37 (nI ol)), (v9, .inl (cA 0, 700, .inl fb)), (v13, .inl (cA 1, 15, .inr (.inl fkw)))] sz) [(oX10 w0 v0 v1 v2 v3 v4 g5 g6 (nI ed) g8 v9 (nI nb) g11 g12 v13 (nI ln) (nI (gP tj)) (nI (gR (tj + 1))) z17 z18 z19 z20 z21 g22 g23 (nI cd) z25 z26 v27 v28 v29 v30 v31 v32 v33 v34 v35 v36 v37 (nI ol)), (v9, .inl (cA 0, 700, .inl fb)), (v13, .inl (cA 1, 15, .inr (.inl fkw)))] t) (va_A [(oX10 w0 v0 v1 v2 v3 v4 g5 g6 (nI ed) g8 v9 (nI nb) g11 g12 v13 (nI ln) (nI (gP ti)) (nI (gR (ti + 1))) tk kw g19 g20 g21 g22 g23 (nI cd) g25 g26 v27 v28 v29 v30 v31 v32 v33 v34 v35 v36 v37 (nI ol)), (v9, .inl (cA 0, 700, .inl fb)), (v13, .inl (cA 1, 15, .inr (.inl fkw)))] sz)) 0 0 (va_A [(oX10 w0 v0 v1 v2 v3 v4 g5 g6 (nI ed) g8 v9 (nI nb) g11 g12 v13 (nI ln) (nI (gP ti)) (nI (gR (ti + 1))) tk kw g19 g20 g21 g22 g23 (nI cd) g25 g26 v27 v28 v29 v30 v31 v32 v33 v34 v35 v36 v37 (nI ol)), (v9, .inl (cA 0, 700, .inl fb)), (v13, .inl (cA 1, 15, .inr (.inl fkw)))] sz) := by
  refine Met.ofW (cc := cX10_number) (maxL := 3) (ret := (some .boolean)) (by decide) rfl ?_
  intro p e s m args below meth c s₁ B hml hv
  obtain ⟨rfl, hsz, hP, hK, hD0, hC, hZ⟩ := hv
  have hx := B.exec
  have hb := B.bytes
  have hr := B.returns
  have hts := atoms_spec (ws := wsX10_number) B.pre
  have hown : s.vm.findClass RX10 = some m.cls := findClass_of_methodNamed B.named
  have hlocks := B.notSynchronized
  subst hsz
  have hD := hD0.self (sz := s.heap.size)
  generalize hAe : va_A [(oX10 w0 v0 v1 v2 v3 v4 g5 g6 (nI ed) g8 v9 (nI nb) g11 g12 v13 (nI ln) (nI (gP ti)) (nI (gR (ti + 1))) tk kw g19 g20 g21 g22 g23 (nI cd) g25 g26 v27 v28 v29 v30 v31 v32 v33 v34 v35 v36 v37 (nI ol)), (v9, .inl (cA 0, 700, .inl fb)), (v13, .inl (cA 1, 15, .inr (.inl fkw)))] s.heap.size = A at hD hZ ⊢
  have hA : ∀ q : Nat, s.heap.size ≤ q → A q := fun q h => by rw [← hAe]; exact Or.inr h
  have hS : va_S A s.heap s.heap [] := va_S.rf
  have hP : va_P D vwCl [(oX10 w0 v0 v1 v2 v3 v4 g5 g6 (nI ed) g8 v9 (nI nb) g11 g12 v13 (nI ln) (nI (gP ti)) (nI (gR (ti + 1))) tk kw g19 g20 g21 g22 g23 (nI cd) g25 g26 v27 v28 v29 v30 v31 v32 v33 v34 v35 v36 v37 (nI ol)), (v9, .inl (cA 0, 700, .inl fb)), (v13, .inl (cA 1, 15, .inr (.inl fkw)))] s.heap := hP
  have hl := lv_entry ([.ref w0, .int (nI lo), .int (nI hi)]) (n := 3) (Nat.le_of_ble_eq_true rfl)
  rw [lg_entry_eq]
  generalize (lg_sl ([.ref w0, .int (nI lo), .int (nI hi)]) ++ List.replicate (3 - (lg_sl ([.ref w0, .int (nI lo), .int (nI hi)])).length) Slot.unset).toArray = ls at hl ⊢
  have hl : lv_has ls 3 [(0, .ref w0), (1, .int (nI lo)), (2, .int (nI hi))] := hl
  have inX10 : ∀ w ∈ u_ws RX10 TX10 39, w ∈ wsX10_number := by decide +kernel
  have hle9 := TX.le hTX hti
  refine lv_aload_n hx hb dX10_number_0 rfl (lv_at hl 0 rfl) ?_
  refine va_get (D := D) (ci := 11) (v := .int tk) (C := RX10) (T := TX10) (N := 39) hx hb hts inX10 hown hK hP 0 rfl rfl 17 (by decide) (hts (.fieldLink RX10 126 "EscrowDeskModel" "token" "I") (by decide +kernel)) (fun _ h9 => h9) rfl dX10_number_1 ?_
  refine lv_iconst (v := 3) hx hb dX10_number_4 (by decide) ?_
  refine lv_icmp_eq (tgt := 14) hx hb dX10_number_5 (by decide) (fun c1 => ?_) (fun c1 => ?_)
  · skip
    refine lv_aload_n hx hb dX10_number_14 rfl (lv_at hl 0 rfl) ?_
    refine va_get (D := D) (ci := 11) (v := .int g19) (C := RX10) (T := TX10) (N := 39) hx hb hts inX10 hown hK hP 0 rfl rfl 19 (by decide) (hts (.fieldLink RX10 140 "EscrowDeskModel" "value" "I") (by decide +kernel)) (fun _ h9 => h9) rfl dX10_number_15 ?_
    refine lv_i2l (v := (g19.toInt64)) hx hb dX10_number_18 rfl ?_
    refine lv_iload_n hx hb dX10_number_19 rfl (lv_at hl 1 rfl) ?_
    refine lv_i2l (v := ((nI lo).toInt64)) hx hb dX10_number_20 rfl ?_
    refine lv_iload_n hx hb dX10_number_21 rfl (lv_at hl 2 rfl) ?_
    refine lv_i2l (v := ((nI hi).toInt64)) hx hb dX10_number_22 rfl ?_
    obtain ⟨hPc, hDc, hFc⟩ := PDq.cut (wc := []) hP hD hS hA [] (by decide) rfl
    refine va_calli (va_runS (As := [.long (g19.toInt64), .long ((nI lo).toInt64), .long ((nI hi).toInt64)]) (rest := []) ⟨hx, hb, hml, hown, hts⟩ (y_between l D cA sa (g19.toInt64) ((nI lo).toInt64) ((nI hi).toInt64) s.heap.size) (va_cwS 3 hts gX10_number_X10_between rfl rfl rfl (by decide +kernel) ⟨(Nat.le_of_ble_eq_true rfl), (Nat.le_of_ble_eq_true rfl)⟩) ⟨Wd.blind, fun U hU hW => ⟨rfl, Wd.call hPc hDc hK hC hZ hS hFc U hU hW⟩⟩ rfl rfl hl.1 rfl (lv_room (Nat.le_of_ble_eq_true rfl)) dX10_number_23 ⟨(Nat.le_of_ble_eq_true rfl), (Nat.le_of_ble_eq_true rfl)⟩) hS (fun q _ h => hFc q h) hFc (fun rn2 u t H1 locs ht hvm hw hB hz1 hk1 hS => ?_)
    obtain ⟨hP1, hD1⟩ := hB
    rw [ht] at hP1
    obtain ⟨hP, hD⟩ := PDq.join (w := [(oX10 w0 v0 v1 v2 v3 v4 g5 g6 (nI ed) g8 v9 (nI nb) g11 g12 v13 (nI ln) (nI (gP ti)) (nI (gR (ti + 1))) tk kw g19 g20 g21 g22 g23 (nI cd) g25 g26 v27 v28 v29 v30 v31 v32 v33 v34 v35 v36 v37 (nI ol)), (v9, .inl (cA 0, 700, .inl fb)), (v13, .inl (cA 1, 15, .inr (.inl fkw)))]) 3 hP hD [] [0, 1, 2] rfl rfl (by decide) (by decide) hk1 hFc hP1 hD1 rfl
    generalize H1 = H at hP hS ⊢
    rcases hw with ⟨hr9, hn3⟩ | ⟨hr9, hn3⟩
    · skip
      subst hr9
      refine lv_if_ne (tgt := 35) hx hb dX10_number_26 (by decide) (fun c4 => ?_) (fun c9 => absurd c9 (by decide))
      have hn5 : NB lo hi g19 := btw_nn hhi (by omega) hn3.1 hn3.2
      refine lv_aload_n hx hb dX10_number_35 rfl (lv_at hl 0 rfl) ?_
      refine lv_aload_n hx hb dX10_number_36 rfl (lv_at hl 0 rfl) ?_
      refine va_get (D := D) (ci := 11) (v := .int g19) (C := RX10) (T := TX10) (N := 39) hx hb hts inX10 hown hK hP 0 rfl rfl 19 (by decide) (hts (.fieldLink RX10 140 "EscrowDeskModel" "value" "I") (by decide +kernel)) (fun _ h9 => h9) rfl dX10_number_37 ?_
      refine va_put (D := D) (ci := 11) (v := .int g19) (ty := .int) (C := RX10) (T := TX10) (N := 39) hx hb hts inX10 tyX10 tyX10_ok nmX10 hown hK hP hD hS 0 rfl rfl 26 (by decide) (hts (.fieldLink RX10 156 "EscrowDeskModel" "numberRead" "I") (by decide +kernel)) (fun _ h9 => h9) rfl (by decide +kernel) rfl rfl (Nat.le_of_ble_eq_true rfl) dX10_number_40 (fun H locs hP hD hS => ?_)
      obtain ⟨hP, hD⟩ : PDq D A [(oX10 w0 v0 v1 v2 v3 v4 g5 g6 (nI ed) g8 v9 (nI nb) g11 g12 v13 (nI ln) (nI (gP ti)) (nI (gR (ti + 1))) tk kw g19 g20 g21 g22 g23 (nI cd) g25 g19 v27 v28 v29 v30 v31 v32 v33 v34 v35 v36 v37 (nI ol)), (v9, .inl (cA 0, 700, .inl fb)), (v13, .inl (cA 1, 15, .inr (.inl fkw)))] H := ⟨hP, hD⟩
      refine lv_aload_n hx hb dX10_number_43 rfl (lv_at hl 0 rfl) ?_
      have hn6 := TX.go hTX (show ti < ct by omega) (by rw [(TKR.num hTK c1).1]; decide)
      have hn6a := TX.le hTX (show ti < ct by omega)
      have hn6b := TX.le hTX hn6.1
      obtain ⟨hPc, hDc, hFc⟩ := PDq.cut (wc := [(oX10 w0 v0 v1 v2 v3 v4 g5 g6 (nI ed) g8 v9 (nI nb) g11 g12 v13 (nI ln) (nI (gP ti)) (nI (gR (ti + 1))) tk kw g19 g20 g21 g22 g23 (nI cd) g25 g19 v27 v28 v29 v30 v31 v32 v33 v34 v35 v36 v37 (nI ol)), (v9, .inl (cA 0, 700, .inl fb)), (v13, .inl (cA 1, 15, .inr (.inl fkw)))]) hP hD hS hA [0, 1, 2] (by decide) rfl
      refine va_calli (va_runV (As := []) (rest := []) ⟨hx, hb, hml, hown, hts⟩ (y_advance l D cA sa w0 ed nb ol v0 v1 v2 v3 v4 v9 v13 v27 v28 v29 v30 v31 v32 v33 v34 v35 v36 v37 g8 g11 g12 (nI (gP ti)) tk kw g19 g20 g21 g22 g23 (nI cd) g19 g5 g6 g25 ln (gR (ti + 1)) fb fkw (gP (ti + 1)) (gR ((ti + 1) + 1)) (gK (ti + 1)) (gV (ti + 1)) H.size hln (by omega) hKW hBY (TX.t hTX hn6.1)) (cwV 0 hts gX10_number_X10_advance rfl rfl rfl (by decide +kernel) ⟨(Nat.le_of_ble_eq_true rfl), (Nat.le_of_ble_eq_true rfl)⟩) ⟨Wd.blind, va_recv hK hPc (ci := 11) (q0 := 0) rfl rfl, fun U hU hW => ⟨rfl, Wd.call hPc hDc hK hC hZ hS hFc U hU hW⟩⟩ rfl rfl hl.1 rfl (lv_room (Nat.le_of_ble_eq_true rfl)) dX10_number_44 ⟨(Nat.le_of_ble_eq_true rfl), (Nat.le_of_ble_eq_true rfl)⟩) hS (fun q _ h => hFc q h) hFc (fun rn7 u t H1 locs ht hvm hw hB hz1 hk1 hS => ?_)
      obtain ⟨zn8, zn9, zn10, zn11, hn12, hP1, hD1⟩ := hB
      rw [ht] at hP1
      obtain ⟨hP, hD⟩ := PDq.join (w := [(oX10 w0 v0 v1 v2 v3 v4 g5 g6 (nI ed) g8 v9 (nI nb) g11 g12 v13 (nI ln) (nI (gP (ti + 1))) (nI (gR ((ti + 1) + 1))) zn8 zn9 zn10 g20 g21 g22 g23 (nI cd) zn11 g19 v27 v28 v29 v30 v31 v32 v33 v34 v35 v36 v37 (nI ol)), (v9, .inl (cA 0, 700, .inl fb)), (v13, .inl (cA 1, 15, .inr (.inl fkw)))]) 0 hP hD [0, 1, 2] [] rfl rfl (by decide) (by decide) hk1 hFc hP1 hD1 rfl
      generalize H1 = H at hP hS ⊢
      obtain rfl : rn7 = 1 := hw
      obtain ⟨hP9, hD9⟩ := PDq.sub (ws' := [(oX10 w0 v0 v1 v2 v3 v4 g5 g6 (nI ed) g8 v9 (nI nb) g11 g12 v13 (nI ln) (nI (gP (ti + 1))) (nI (gR ((ti + 1) + 1))) zn8 zn9 zn10 g20 g21 g22 g23 (nI cd) zn11 g19 v27 v28 v29 v30 v31 v32 v33 v34 v35 v36 v37 (nI ol)), (v9, .inl (cA 0, 700, .inl fb)), (v13, .inl (cA 1, 15, .inr (.inl fkw)))]) hP hD [0, 1, 2] (by decide) rfl
      refine W.widen (k := 0) (n := 0) (Nat.le_of_ble_eq_true rfl) (Nat.le_of_ble_eq_true rfl) ?_
      exact (W.zret (v := 1) hx hb hr (by first | rfl | decide) (fun t ht hW => ⟨⟨1, 1, rfl, ⟨rfl, by decide⟩, (ti + 1), zn8, zn9, zn10, g20, g21, g19, zn11, hn6.1, (by omega), (by omega), hn12, (fun _ => rfl), (fun _ => rfl), (fun _ => rfl), (fun _ => (by omega)), (fun _ => (nm_ok2 (TKR.num hTK c1).1 (TKR.num hTK c1).2 (by omega) (by omega) hn3)), (fun _ => (NV9.of (TKR.num hTK c1).2)), (fun _ => hn5), (fun h9 => absurd h9 (by decide)), (fun h9 => absurd h9 (by decide)), by rw [ht]; exact hP9, hD9⟩, hS.F ht⟩) hS.2.2 dX10_number_47)
    · skip
      subst hr9
      refine lv_if_ne (tgt := 35) hx hb dX10_number_26 (by decide) (fun c9 => absurd c9 (by decide)) (fun c13 => ?_)
      refine lv_aload_n hx hb dX10_number_29 rfl (lv_at hl 0 rfl) ?_
      refine lv_iconst (v := 3) hx hb dX10_number_30 (by decide) ?_
      obtain ⟨hPc, hDc, hFc⟩ := PDq.cut (wc := [(oX10 w0 v0 v1 v2 v3 v4 g5 g6 (nI ed) g8 v9 (nI nb) g11 g12 v13 (nI ln) (nI (gP ti)) (nI (gR (ti + 1))) tk kw g19 g20 g21 g22 g23 (nI cd) g25 g26 v27 v28 v29 v30 v31 v32 v33 v34 v35 v36 v37 (nI ol))]) hP hD hS hA [0] (by decide) rfl
      refine va_calli (va_runV (As := [.int 3]) (rest := []) ⟨hx, hb, hml, hown, hts⟩ (y_fail l D cA sa w0 ed nb ol v0 v1 v2 v3 v4 v9 v13 v27 v28 v29 v30 v31 v32 v33 v34 v35 v36 v37 g8 g11 g12 g19 g20 g21 g22 g23 g26 g5 g6 g25 ln cd tk kw ti ct fb gP gR gS gK gV 3 H.size hln hct hti hTX hBY hTK) (cwV 1 hts gX10_number_X10_fail rfl rfl rfl (by decide +kernel) ⟨(Nat.le_of_ble_eq_true rfl), (Nat.le_of_ble_eq_true rfl)⟩) ⟨Wd.blind, va_recv hK hPc (ci := 11) (q0 := 0) rfl rfl, fun U hU hW => ⟨rfl, Wd.call hPc hDc hK hC hZ hS hFc U hU hW⟩⟩ rfl rfl hl.1 rfl (lv_room (Nat.le_of_ble_eq_true rfl)) dX10_number_31 ⟨(Nat.le_of_ble_eq_true rfl), (Nat.le_of_ble_eq_true rfl)⟩) hS (fun q _ h => hFc q h) hFc (fun rn14 u t H1 locs ht hvm hw hB hz1 hk1 hS => ?_)
      obtain ⟨zn15, hn16, hP1, hD1⟩ := hB
      rw [ht] at hP1
      obtain ⟨hP, hD⟩ := PDq.join (w := [(v9, .inl (cA 0, 700, .inl fb)), (v13, .inl (cA 1, 15, .inr (.inl fkw))), (oX10 w0 v0 v1 v2 v3 v4 g5 g6 (nI ed) g8 v9 (nI nb) g11 g12 v13 (nI ln) (nI (gP ti)) (nI (gR (ti + 1))) tk kw g19 zn15 (nI (gP ti)) g22 g23 (nI cd) g25 g26 v27 v28 v29 v30 v31 v32 v33 v34 v35 v36 v37 (nI ol))]) 2 hP hD [0] [1, 2] rfl rfl (by decide) (by decide) hk1 hFc hP1 hD1 rfl
      generalize H1 = H at hP hS ⊢
      obtain rfl : rn14 = 0 := hw
      obtain ⟨hP9, hD9⟩ := PDq.sub (ws' := [(oX10 w0 v0 v1 v2 v3 v4 g5 g6 (nI ed) g8 v9 (nI nb) g11 g12 v13 (nI ln) (nI (gP ti)) (nI (gR (ti + 1))) tk kw g19 zn15 (nI (gP ti)) g22 g23 (nI cd) g25 g26 v27 v28 v29 v30 v31 v32 v33 v34 v35 v36 v37 (nI ol)), (v9, .inl (cA 0, 700, .inl fb)), (v13, .inl (cA 1, 15, .inr (.inl fkw)))]) hP hD [2, 0, 1] (by decide) rfl
      refine W.widen (k := 0) (n := 0) (Nat.le_of_ble_eq_true rfl) (Nat.le_of_ble_eq_true rfl) ?_
      exact (W.zret (v := 0) hx hb hr (by first | rfl | decide) (fun t ht hW => ⟨⟨0, 0, rfl, ⟨rfl, by decide⟩, ti, tk, kw, g19, zn15, (nI (gP ti)), g26, g25, hti, (by omega), (by omega), hTK, (fun h9 => absurd h9 (by decide)), (fun h9 => absurd h9 (by decide)), (fun h9 => absurd h9 (by decide)), (fun h9 => absurd h9 (by decide)), (fun h9 => absurd h9 (by decide)), (fun h9 => absurd h9 (by decide)), (fun h9 => absurd h9 (by decide)), (fun _ => ⟨3, nm_no2 (TKR.num hTK c1).1 (TKR.num hTK c1).2 (by omega) (by omega) hn3, hn16⟩), (fun _ => (TX.s hTX (show ti < ct by omega))), by rw [ht]; exact hP9, hD9⟩, hS.F ht⟩) hS.2.2 dX10_number_34)
  · skip
    refine lv_aload_n hx hb dX10_number_8 rfl (lv_at hl 0 rfl) ?_
    refine lv_iconst (v := 2) hx hb dX10_number_9 (by decide) ?_
    obtain ⟨hPc, hDc, hFc⟩ := PDq.cut (wc := [(oX10 w0 v0 v1 v2 v3 v4 g5 g6 (nI ed) g8 v9 (nI nb) g11 g12 v13 (nI ln) (nI (gP ti)) (nI (gR (ti + 1))) tk kw g19 g20 g21 g22 g23 (nI cd) g25 g26 v27 v28 v29 v30 v31 v32 v33 v34 v35 v36 v37 (nI ol))]) hP hD hS hA [0] (by decide) rfl
    refine va_calli (va_runV (As := [.int 2]) (rest := []) ⟨hx, hb, hml, hown, hts⟩ (y_fail l D cA sa w0 ed nb ol v0 v1 v2 v3 v4 v9 v13 v27 v28 v29 v30 v31 v32 v33 v34 v35 v36 v37 g8 g11 g12 g19 g20 g21 g22 g23 g26 g5 g6 g25 ln cd tk kw ti ct fb gP gR gS gK gV 2 s.heap.size hln hct hti hTX hBY hTK) (cwV 1 hts gX10_number_X10_fail rfl rfl rfl (by decide +kernel) ⟨(Nat.le_of_ble_eq_true rfl), (Nat.le_of_ble_eq_true rfl)⟩) ⟨Wd.blind, va_recv hK hPc (ci := 11) (q0 := 0) rfl rfl, fun U hU hW => ⟨rfl, Wd.call hPc hDc hK hC hZ hS hFc U hU hW⟩⟩ rfl rfl hl.1 rfl (lv_room (Nat.le_of_ble_eq_true rfl)) dX10_number_10 ⟨(Nat.le_of_ble_eq_true rfl), (Nat.le_of_ble_eq_true rfl)⟩) hS (fun q _ h => hFc q h) hFc (fun rn17 u t H1 locs ht hvm hw hB hz1 hk1 hS => ?_)
    obtain ⟨zn18, hn19, hP1, hD1⟩ := hB
    rw [ht] at hP1
    obtain ⟨hP, hD⟩ := PDq.join (w := [(v9, .inl (cA 0, 700, .inl fb)), (v13, .inl (cA 1, 15, .inr (.inl fkw))), (oX10 w0 v0 v1 v2 v3 v4 g5 g6 (nI ed) g8 v9 (nI nb) g11 g12 v13 (nI ln) (nI (gP ti)) (nI (gR (ti + 1))) tk kw g19 zn18 (nI (gP ti)) g22 g23 (nI cd) g25 g26 v27 v28 v29 v30 v31 v32 v33 v34 v35 v36 v37 (nI ol))]) 2 hP hD [0] [1, 2] rfl rfl (by decide) (by decide) hk1 hFc hP1 hD1 rfl
    generalize H1 = H at hP hS ⊢
    obtain rfl : rn17 = 0 := hw
    obtain ⟨hP9, hD9⟩ := PDq.sub (ws' := [(oX10 w0 v0 v1 v2 v3 v4 g5 g6 (nI ed) g8 v9 (nI nb) g11 g12 v13 (nI ln) (nI (gP ti)) (nI (gR (ti + 1))) tk kw g19 zn18 (nI (gP ti)) g22 g23 (nI cd) g25 g26 v27 v28 v29 v30 v31 v32 v33 v34 v35 v36 v37 (nI ol)), (v9, .inl (cA 0, 700, .inl fb)), (v13, .inl (cA 1, 15, .inr (.inl fkw)))]) hP hD [2, 0, 1] (by decide) rfl
    refine W.widen (k := 0) (n := 0) (Nat.le_of_ble_eq_true rfl) (Nat.le_of_ble_eq_true rfl) ?_
    exact (W.zret (v := 0) hx hb hr (by first | rfl | decide) (fun t ht hW => ⟨⟨0, 0, rfl, ⟨rfl, by decide⟩, ti, tk, kw, g19, zn18, (nI (gP ti)), g26, g25, hti, (by omega), (by omega), hTK, (fun h9 => absurd h9 (by decide)), (fun h9 => absurd h9 (by decide)), (fun h9 => absurd h9 (by decide)), (fun h9 => absurd h9 (by decide)), (fun h9 => absurd h9 (by decide)), (fun h9 => absurd h9 (by decide)), (fun h9 => absurd h9 (by decide)), (fun _ => ⟨2, nm_k _ (TKR.nnum hTK c1), hn19⟩), (fun _ => (TX.s hTX (show ti < ct by omega))), by rw [ht]; exact hP9, hD9⟩, hS.F ht⟩) hS.2.2 dX10_number_13)

set_option maxHeartbeats 4000000 in
set_option maxRecDepth 100000 in
/-- reference: numberTo -/
theorem y_numberTo0 (l : Launch) (D : va_G) (cA : Nat → ClassId) (sa : Nat → Nat) (w0 : Nat) (ed : Nat) (nb : Nat) (ol : Nat) (v0 : Nat) (v1 : Nat) (v2 : Nat) (v3 : Nat) (v4 : Nat) (v9 : Nat) (v13 : Nat) (v27 : Nat) (v28 : Nat) (v29 : Nat) (v30 : Nat) (v31 : Nat) (v32 : Nat) (v33 : Nat) (v34 : Nat) (v35 : Nat) (v36 : Nat) (v37 : Nat) (g8 : Int32) (g11 : Int32) (g12 : Int32) (g19 : Int32) (g20 : Int32) (g21 : Int32) (g22 : Int32) (g23 : Int32) (g26 : Int32) (g5 : Int64) (g6 : Int64) (g25 : Int64) (ln : Nat) (cd : Nat) (tk : Int32) (kw : Int32) (ti : Nat) (ct : Nat) (fb : Nat → Int32) (fkw : Nat → Int64) (gP : Nat → Nat) (gR : Nat → Nat) (gS : Nat → Int32) (gK : Nat → Int32) (gV : Nat → Int64) (cn : Nat) (pq : Nat) (en : Nat) (dy : Nat) (fp : Nat → Int32) (lo : Nat) (hi : Nat) (sz : Nat) (hln : ln ≤ 700) (hct : ct ≤ 701) (hti : ti < ct) (hTX : TX fb ln ct gP gR gS gV gK) (hBY : BYn ln fb) (hTK : TKR (gK ti) (gV ti) (fb (gP ti)) tk kw g19 g25) (hKW : KW 15 fkw) (hhi : hi < 2147483648) (hlo : lo ≤ hi) (hcn : cn ≤ 10) (hpq : pq ≤ 8) (hen : en ≤ 60) (hdy : dy ≤ 20000) (hri : RI cn pq en dy fp) : Met l yX10_numberTo wsX10_numberTo ({ frames := 3, cells := 0, slots := 0, locals := 66 }) (va_Pc [.ref w0, .int 0, .int (nI lo), .int (nI hi)] (Wd D cA sa [(oX10 w0 v0 v1 v2 v3 v4 g5 g6 (nI ed) g8 v9 (nI nb) g11 g12 v13 (nI ln) (nI (gP ti)) (nI (gR (ti + 1))) tk kw g19 g20 g21 g22 g23 (nI cd) g25 g26 v27 v28 v29 v30 v31 v32 v33 v34 v35 v36 v37 (nI ol)), (v9, .inl (cA 0, 700, .inl fb)), (v13, .inl (cA 1, 15, .inr (.inl fkw))), (v1, .inl (cA 0, 326, .inl fp))] sz)) (va_Qi (fun (r : Int32) (u9 : Int32) => u9 = r ∧ (r = 0 ∨ r = 1)) (fun (u9 : Int32) t => ∃ tj : Nat, ∃ z17 : Int32, ∃ z18 : Int32, ∃ z19 : Int32, ∃ z20 : Int32, ∃ z21 : Int32, ∃ z26 : Int32, ∃ z25 : Int64, ∃ zp : Nat → Int32, tj < ct ∧ gP tj ≤ ln ∧ ti ≤ tj ∧ TKR (gK tj) (gV tj) (fb (gP tj)) z17 z18 z19 z25 ∧ RI cn pq en dy zp ∧ (u9 = 1 → tj = ti + 1) ∧ (u9 = 1 → z20 = g20) ∧ (u9 = 1 → z21 = g21) ∧ (u9 = 1 → gP ti + 1 ≤ gP tj) ∧ (u9 = 1 → nmE (lN lo) (lN hi) (gK ti) (gV ti) = none) ∧ (u9 = 1 → UpV 0 fp zp (gV ti)) ∧ (u9 = 0 → NmF lo hi (gK ti) (gV ti) z20) ∧ (u9 = 0 → z21 = gS ti) ∧ Wq D (va_A [(oX10 w0 v0 v1 v2 v3 v4 g5 g6 (nI ed) g8 v9 (nI nb) g11 g12 v13 (nI ln) (nI (gP ti)) (nI (gR (ti + 1))) tk kw g19 g20 g21 g22 g23 (nI cd) g25 g26 v27 v28 v29 v30 v31 v32 v33 v34 v35 v36 v37 (nI ol)), (v9, .inl (cA 0, 700, .inl fb)), (v13, .inl (cA 1, 15, .inr (.inl fkw))), (v1, .inl (cA 0, 326, .inl fp))] sz) [(oX10 w0 v0 v1 v2 v3 v4 g5 g6 (nI ed) g8 v9 (nI nb) g11 g12 v13 (nI ln) (nI (gP tj)) (nI (gR (tj + 1))) z17 z18 z19 z20 z21 g22 g23 (nI cd) z25 z26 v27 v28 v29 v30 v31 v32 v33 v34 v35 v36 v37 (nI ol)), (v9, .inl (cA 0, 700, .inl fb)), (v13, .inl (cA 1, 15, .inr (.inl fkw))), (v1, .inl (cA 0, 326, .inl zp))] t) (va_A [(oX10 w0 v0 v1 v2 v3 v4 g5 g6 (nI ed) g8 v9 (nI nb) g11 g12 v13 (nI ln) (nI (gP ti)) (nI (gR (ti + 1))) tk kw g19 g20 g21 g22 g23 (nI cd) g25 g26 v27 v28 v29 v30 v31 v32 v33 v34 v35 v36 v37 (nI ol)), (v9, .inl (cA 0, 700, .inl fb)), (v13, .inl (cA 1, 15, .inr (.inl fkw))), (v1, .inl (cA 0, 326, .inl fp))] sz)) 0 0 (va_A [(oX10 w0 v0 v1 v2 v3 v4 g5 g6 (nI ed) g8 v9 (nI nb) g11 g12 v13 (nI ln) (nI (gP ti)) (nI (gR (ti + 1))) tk kw g19 g20 g21 g22 g23 (nI cd) g25 g26 v27 v28 v29 v30 v31 v32 v33 v34 v35 v36 v37 (nI ol)), (v9, .inl (cA 0, 700, .inl fb)), (v13, .inl (cA 1, 15, .inr (.inl fkw))), (v1, .inl (cA 0, 326, .inl fp))] sz) := by
  refine Met.ofW (cc := cX10_numberTo) (maxL := 4) (ret := (some .boolean)) (by decide) rfl ?_
  intro p e s m args below meth c s₁ B hml hv
  obtain ⟨rfl, hsz, hP, hK, hD0, hC, hZ⟩ := hv
  have hx := B.exec
  have hb := B.bytes
  have hr := B.returns
  have hts := atoms_spec (ws := wsX10_numberTo) B.pre
  have hown : s.vm.findClass RX10 = some m.cls := findClass_of_methodNamed B.named
  have hlocks := B.notSynchronized
  subst hsz
  have hD := hD0.self (sz := s.heap.size)
  generalize hAe : va_A [(oX10 w0 v0 v1 v2 v3 v4 g5 g6 (nI ed) g8 v9 (nI nb) g11 g12 v13 (nI ln) (nI (gP ti)) (nI (gR (ti + 1))) tk kw g19 g20 g21 g22 g23 (nI cd) g25 g26 v27 v28 v29 v30 v31 v32 v33 v34 v35 v36 v37 (nI ol)), (v9, .inl (cA 0, 700, .inl fb)), (v13, .inl (cA 1, 15, .inr (.inl fkw))), (v1, .inl (cA 0, 326, .inl fp))] s.heap.size = A at hD hZ ⊢
  have hA : ∀ q : Nat, s.heap.size ≤ q → A q := fun q h => by rw [← hAe]; exact Or.inr h
  have hS : va_S A s.heap s.heap [] := va_S.rf
  have hP : va_P D vwCl [(oX10 w0 v0 v1 v2 v3 v4 g5 g6 (nI ed) g8 v9 (nI nb) g11 g12 v13 (nI ln) (nI (gP ti)) (nI (gR (ti + 1))) tk kw g19 g20 g21 g22 g23 (nI cd) g25 g26 v27 v28 v29 v30 v31 v32 v33 v34 v35 v36 v37 (nI ol)), (v9, .inl (cA 0, 700, .inl fb)), (v13, .inl (cA 1, 15, .inr (.inl fkw))), (v1, .inl (cA 0, 326, .inl fp))] s.heap := hP
  have hl := lv_entry ([.ref w0, .int 0, .int (nI lo), .int (nI hi)]) (n := 4) (Nat.le_of_ble_eq_true rfl)
  rw [lg_entry_eq]
  generalize (lg_sl ([.ref w0, .int 0, .int (nI lo), .int (nI hi)]) ++ List.replicate (4 - (lg_sl ([.ref w0, .int 0, .int (nI lo), .int (nI hi)])).length) Slot.unset).toArray = ls at hl ⊢
  have hl : lv_has ls 4 [(0, .ref w0), (1, .int 0), (2, .int (nI lo)), (3, .int (nI hi))] := hl
  have inX10 : ∀ w ∈ u_ws RX10 TX10 39, w ∈ wsX10_numberTo := by decide +kernel
  have hle9 := TX.le hTX hti
  refine lv_aload_n hx hb dX10_numberTo_0 rfl (lv_at hl 0 rfl) ?_
  refine lv_iload_n hx hb dX10_numberTo_1 rfl (lv_at hl 2 rfl) ?_
  refine lv_iload_n hx hb dX10_numberTo_2 rfl (lv_at hl 3 rfl) ?_
  obtain ⟨hPc, hDc, hFc⟩ := PDq.cut (wc := [(oX10 w0 v0 v1 v2 v3 v4 g5 g6 (nI ed) g8 v9 (nI nb) g11 g12 v13 (nI ln) (nI (gP ti)) (nI (gR (ti + 1))) tk kw g19 g20 g21 g22 g23 (nI cd) g25 g26 v27 v28 v29 v30 v31 v32 v33 v34 v35 v36 v37 (nI ol)), (v9, .inl (cA 0, 700, .inl fb)), (v13, .inl (cA 1, 15, .inr (.inl fkw)))]) hP hD hS hA [0, 1, 2] (by decide) rfl
  refine va_calli (va_runV (As := [.int (nI lo), .int (nI hi)]) (rest := []) ⟨hx, hb, hml, hown, hts⟩ (y_number l D cA sa w0 ed nb ol v0 v1 v2 v3 v4 v9 v13 v27 v28 v29 v30 v31 v32 v33 v34 v35 v36 v37 g8 g11 g12 g19 g20 g21 g22 g23 g26 g5 g6 g25 ln cd tk kw ti ct fb fkw gP gR gS gK gV lo hi s.heap.size hln hct hti hTX hBY hTK hKW hhi hlo) (cwV 2 hts gX10_numberTo_X10_number rfl rfl rfl (by decide +kernel) ⟨(Nat.le_of_ble_eq_true rfl), (Nat.le_of_ble_eq_true rfl)⟩) ⟨Wd.blind, va_recv hK hPc (ci := 11) (q0 := 0) rfl rfl, fun U hU hW => ⟨rfl, Wd.call hPc hDc hK hC hZ hS hFc U hU hW⟩⟩ rfl rfl hl.1 rfl (lv_room (Nat.le_of_ble_eq_true rfl)) dX10_numberTo_3 ⟨(Nat.le_of_ble_eq_true rfl), (Nat.le_of_ble_eq_true rfl)⟩) hS (fun q _ h => hFc q h) hFc (fun rn1 u t H1 locs ht hvm hw hB hz1 hk1 hS => ?_)
  obtain ⟨qn2, zn3, zn4, zn5, zn6, zn7, zn8, zn9, hn10, hn11, hn12, hn13, hn14, hn15, hn16, hn17, hn18, hn19, hn20, hn21, hn22, hP1, hD1⟩ := hB
  rw [ht] at hP1
  obtain ⟨hP, hD⟩ := PDq.join (w := [(v1, .inl (cA 0, 326, .inl fp)), (oX10 w0 v0 v1 v2 v3 v4 g5 g6 (nI ed) g8 v9 (nI nb) g11 g12 v13 (nI ln) (nI (gP qn2)) (nI (gR (qn2 + 1))) zn3 zn4 zn5 zn6 zn7 g22 g23 (nI cd) zn9 zn8 v27 v28 v29 v30 v31 v32 v33 v34 v35 v36 v37 (nI ol)), (v9, .inl (cA 0, 700, .inl fb)), (v13, .inl (cA 1, 15, .inr (.inl fkw)))]) 1 hP hD [0, 1, 2] [3] rfl rfl (by decide) (by decide) hk1 hFc hP1 hD1 rfl
  generalize H1 = H at hP hS ⊢
  rcases hw.2 with hr9 | hr9
  · skip
    have hn21 := hn21 (hw.1.trans hr9)
    have hn22 := hn22 (hw.1.trans hr9)
    subst hr9
    refine lv_if_ne (tgt := 11) hx hb dX10_numberTo_6 (by decide) (fun c9 => absurd c9 (by decide)) (fun c23 => ?_)
    refine lv_iconst (v := 0) hx hb dX10_numberTo_9 (by decide) ?_
    obtain ⟨hP9, hD9⟩ := PDq.sub (ws' := [(oX10 w0 v0 v1 v2 v3 v4 g5 g6 (nI ed) g8 v9 (nI nb) g11 g12 v13 (nI ln) (nI (gP qn2)) (nI (gR (qn2 + 1))) zn3 zn4 zn5 zn6 zn7 g22 g23 (nI cd) zn9 zn8 v27 v28 v29 v30 v31 v32 v33 v34 v35 v36 v37 (nI ol)), (v9, .inl (cA 0, 700, .inl fb)), (v13, .inl (cA 1, 15, .inr (.inl fkw))), (v1, .inl (cA 0, 326, .inl fp))]) hP hD [1, 2, 3, 0] (by decide) rfl
    refine W.widen (k := 0) (n := 0) (Nat.le_of_ble_eq_true rfl) (Nat.le_of_ble_eq_true rfl) ?_
    exact (W.zret (v := 0) hx hb hr (by first | rfl | decide) (fun t ht hW => ⟨⟨0, 0, rfl, ⟨rfl, by decide⟩, qn2, zn3, zn4, zn5, zn6, zn7, zn8, zn9, fp, hn10, hn11, hn12, hn13, hri, (fun h9 => absurd h9 (by decide)), (fun h9 => absurd h9 (by decide)), (fun h9 => absurd h9 (by decide)), (fun h9 => absurd h9 (by decide)), (fun h9 => absurd h9 (by decide)), (fun h9 => absurd h9 (by decide)), (fun _ => hn21), (fun _ => hn22), by rw [ht]; exact hP9, hD9⟩, hS.F ht⟩) hS.2.2 dX10_numberTo_10)
  · skip
    have hn14 := hn14 (hw.1.trans hr9)
    subst hn14
    obtain ⟨hP, hD⟩ : PDq D A [(v1, .inl (cA 0, 326, .inl fp)), (oX10 w0 v0 v1 v2 v3 v4 g5 g6 (nI ed) g8 v9 (nI nb) g11 g12 v13 (nI ln) (nI (gP (ti + 1))) (nI (gR ((ti + 1) + 1))) zn3 zn4 zn5 zn6 zn7 g22 g23 (nI cd) zn9 zn8 v27 v28 v29 v30 v31 v32 v33 v34 v35 v36 v37 (nI ol)), (v9, .inl (cA 0, 700, .inl fb)), (v13, .inl (cA 1, 15, .inr (.inl fkw)))] H := ⟨hP, hD⟩
    have hn15 := hn15 (hw.1.trans hr9)
    obtain rfl : g20 = zn6 := hn15.symm
    obtain ⟨hP, hD⟩ : PDq D A [(v1, .inl (cA 0, 326, .inl fp)), (oX10 w0 v0 v1 v2 v3 v4 g5 g6 (nI ed) g8 v9 (nI nb) g11 g12 v13 (nI ln) (nI (gP (ti + 1))) (nI (gR ((ti + 1) + 1))) zn3 zn4 zn5 g20 zn7 g22 g23 (nI cd) zn9 zn8 v27 v28 v29 v30 v31 v32 v33 v34 v35 v36 v37 (nI ol)), (v9, .inl (cA 0, 700, .inl fb)), (v13, .inl (cA 1, 15, .inr (.inl fkw)))] H := ⟨hP, hD⟩
    have hn16 := hn16 (hw.1.trans hr9)
    obtain rfl : g21 = zn7 := hn16.symm
    obtain ⟨hP, hD⟩ : PDq D A [(v1, .inl (cA 0, 326, .inl fp)), (oX10 w0 v0 v1 v2 v3 v4 g5 g6 (nI ed) g8 v9 (nI nb) g11 g12 v13 (nI ln) (nI (gP (ti + 1))) (nI (gR ((ti + 1) + 1))) zn3 zn4 zn5 g20 g21 g22 g23 (nI cd) zn9 zn8 v27 v28 v29 v30 v31 v32 v33 v34 v35 v36 v37 (nI ol)), (v9, .inl (cA 0, 700, .inl fb)), (v13, .inl (cA 1, 15, .inr (.inl fkw)))] H := ⟨hP, hD⟩
    have hn17 := hn17 (hw.1.trans hr9)
    have hn18 := hn18 (hw.1.trans hr9)
    have hn19 := hn19 (hw.1.trans hr9)
    have hn20 := hn20 (hw.1.trans hr9)
    obtain ⟨kn24, hn25, hn26, hn9⟩ := hn20
    subst hn9
    obtain ⟨hP, hD⟩ : PDq D A [(v1, .inl (cA 0, 326, .inl fp)), (oX10 w0 v0 v1 v2 v3 v4 g5 g6 (nI ed) g8 v9 (nI nb) g11 g12 v13 (nI ln) (nI (gP (ti + 1))) (nI (gR ((ti + 1) + 1))) zn3 zn4 zn5 g20 g21 g22 g23 (nI cd) zn9 (nI kn24) v27 v28 v29 v30 v31 v32 v33 v34 v35 v36 v37 (nI ol)), (v9, .inl (cA 0, 700, .inl fb)), (v13, .inl (cA 1, 15, .inr (.inl fkw)))] H := ⟨hP, hD⟩
    subst hr9
    refine lv_if_ne (tgt := 11) hx hb dX10_numberTo_6 (by decide) (fun c27 => ?_) (fun c9 => absurd c9 (by decide))
    refine lv_aload_n hx hb dX10_numberTo_11 rfl (lv_at hl 0 rfl) ?_
    refine va_get (D := D) (ci := 11) (v := .ref v1) (C := RX10) (T := TX10) (N := 39) hx hb hts inX10 hown hK hP 1 rfl rfl 1 (by decide) (hts (.fieldLink RX10 13 "EscrowDeskModel" "parsed" "[I") (by decide +kernel)) (fun _ h9 => h9) rfl dX10_numberTo_12 ?_
    refine lv_iload_n hx hb dX10_numberTo_15 rfl (lv_at hl 1 rfl) ?_
    refine lv_aload_n hx hb dX10_numberTo_16 rfl (lv_at hl 0 rfl) ?_
    refine va_get (D := D) (ci := 11) (v := .int (nI kn24)) (C := RX10) (T := TX10) (N := 39) hx hb hts inX10 hown hK hP 1 rfl rfl 26 (by decide) (hts (.fieldLink RX10 156 "EscrowDeskModel" "numberRead" "I") (by decide +kernel)) (fun _ h9 => h9) rfl dX10_numberTo_17 ?_
    refine va_iast hx hb hK hP hD hS 0 0 rfl rfl (vp_in_iff.mpr (by decide)) dX10_numberTo_20 (fun H locs hP hD hS => ?_)
    obtain ⟨hP, hD⟩ : PDq D A [(v1, .inl (cA 0, 326, .inl (upd fp 0 (nI kn24)))), (oX10 w0 v0 v1 v2 v3 v4 g5 g6 (nI ed) g8 v9 (nI nb) g11 g12 v13 (nI ln) (nI (gP (ti + 1))) (nI (gR ((ti + 1) + 1))) zn3 zn4 zn5 g20 g21 g22 g23 (nI cd) zn9 (nI kn24) v27 v28 v29 v30 v31 v32 v33 v34 v35 v36 v37 (nI ol)), (v9, .inl (cA 0, 700, .inl fb)), (v13, .inl (cA 1, 15, .inr (.inl fkw)))] H := ⟨hP, hD⟩
    have hn29 : RI cn pq en dy (upd fp 0 (nI kn24)) := RI.put hri 0 (nI kn24) (by decide) (by decide) (by decide) (by decide) (by decide)
    have hn30 : Upp 0 (nI kn24) fp (upd fp 0 (nI kn24)) := rfl
    have hn31 : Rpp (upd fp 0 (nI kn24)) := rfl
    generalize (upd fp 0 (nI kn24)) = fn28 at hP hD hn29 hn30 hn31
    obtain ⟨hP, hD⟩ : PDq D A [(v1, .inl (cA 0, 326, .inl fn28)), (oX10 w0 v0 v1 v2 v3 v4 g5 g6 (nI ed) g8 v9 (nI nb) g11 g12 v13 (nI ln) (nI (gP (ti + 1))) (nI (gR ((ti + 1) + 1))) zn3 zn4 zn5 g20 g21 g22 g23 (nI cd) zn9 (nI kn24) v27 v28 v29 v30 v31 v32 v33 v34 v35 v36 v37 (nI ol)), (v9, .inl (cA 0, 700, .inl fb)), (v13, .inl (cA 1, 15, .inr (.inl fkw)))] H := ⟨hP, hD⟩
    refine lv_iconst (v := 1) hx hb dX10_numberTo_21 (by decide) ?_
    obtain ⟨hP9, hD9⟩ := PDq.sub (ws' := [(oX10 w0 v0 v1 v2 v3 v4 g5 g6 (nI ed) g8 v9 (nI nb) g11 g12 v13 (nI ln) (nI (gP (ti + 1))) (nI (gR ((ti + 1) + 1))) zn3 zn4 zn5 g20 g21 g22 g23 (nI cd) zn9 (nI kn24) v27 v28 v29 v30 v31 v32 v33 v34 v35 v36 v37 (nI ol)), (v9, .inl (cA 0, 700, .inl fb)), (v13, .inl (cA 1, 15, .inr (.inl fkw))), (v1, .inl (cA 0, 326, .inl fn28))]) hP hD [1, 2, 3, 0] (by decide) rfl
    refine W.widen (k := 0) (n := 0) (Nat.le_of_ble_eq_true rfl) (Nat.le_of_ble_eq_true rfl) ?_
    exact (W.zret (v := 1) hx hb hr (by first | rfl | decide) (fun t ht hW => ⟨⟨1, 1, rfl, ⟨rfl, by decide⟩, (ti + 1), zn3, zn4, zn5, g20, g21, (nI kn24), zn9, fn28, hn10, hn11, hn12, hn13, hn29, (fun _ => rfl), (fun _ => rfl), (fun _ => rfl), (fun _ => hn17), (fun _ => hn18), (fun _ => (UpV.of hn30 hn19)), (fun h9 => absurd h9 (by decide)), (fun h9 => absurd h9 (by decide)), by rw [ht]; exact hP9, hD9⟩, hS.F ht⟩) hS.2.2 dX10_numberTo_22)

set_option maxHeartbeats 4000000 in
set_option maxRecDepth 100000 in
/-- reference: numberTo -/
theorem y_numberTo1 (l : Launch) (D : va_G) (cA : Nat → ClassId) (sa : Nat → Nat) (w0 : Nat) (ed : Nat) (nb : Nat) (ol : Nat) (v0 : Nat) (v1 : Nat) (v2 : Nat) (v3 : Nat) (v4 : Nat) (v9 : Nat) (v13 : Nat) (v27 : Nat) (v28 : Nat) (v29 : Nat) (v30 : Nat) (v31 : Nat) (v32 : Nat) (v33 : Nat) (v34 : Nat) (v35 : Nat) (v36 : Nat) (v37 : Nat) (g8 : Int32) (g11 : Int32) (g12 : Int32) (g19 : Int32) (g20 : Int32) (g21 : Int32) (g22 : Int32) (g23 : Int32) (g26 : Int32) (g5 : Int64) (g6 : Int64) (g25 : Int64) (ln : Nat) (cd : Nat) (tk : Int32) (kw : Int32) (ti : Nat) (ct : Nat) (fb : Nat → Int32) (fkw : Nat → Int64) (gP : Nat → Nat) (gR : Nat → Nat) (gS : Nat → Int32) (gK : Nat → Int32) (gV : Nat → Int64) (cn : Nat) (pq : Nat) (en : Nat) (dy : Nat) (fp : Nat → Int32) (lo : Nat) (hi : Nat) (sz : Nat) (hln : ln ≤ 700) (hct : ct ≤ 701) (hti : ti < ct) (hTX : TX fb ln ct gP gR gS gV gK) (hBY : BYn ln fb) (hTK : TKR (gK ti) (gV ti) (fb (gP ti)) tk kw g19 g25) (hKW : KW 15 fkw) (hhi : hi < 2147483648) (hlo : lo ≤ hi) (hcn : cn ≤ 10) (hpq : pq ≤ 8) (hen : en ≤ 60) (hdy : dy ≤ 20000) (hri : RI cn pq en dy fp) (hb1 : 0 < lo) (hb2 : hi ≤ 365) : Met l yX10_numberTo wsX10_numberTo ({ frames := 3, cells := 0, slots := 0, locals := 66 }) (va_Pc [.ref w0, .int 1, .int (nI lo), .int (nI hi)] (Wd D cA sa [(oX10 w0 v0 v1 v2 v3 v4 g5 g6 (nI ed) g8 v9 (nI nb) g11 g12 v13 (nI ln) (nI (gP ti)) (nI (gR (ti + 1))) tk kw g19 g20 g21 g22 g23 (nI cd) g25 g26 v27 v28 v29 v30 v31 v32 v33 v34 v35 v36 v37 (nI ol)), (v9, .inl (cA 0, 700, .inl fb)), (v13, .inl (cA 1, 15, .inr (.inl fkw))), (v1, .inl (cA 0, 326, .inl fp))] sz)) (va_Qi (fun (r : Int32) (u9 : Int32) => u9 = r ∧ (r = 0 ∨ r = 1)) (fun (u9 : Int32) t => ∃ tj : Nat, ∃ z17 : Int32, ∃ z18 : Int32, ∃ z19 : Int32, ∃ z20 : Int32, ∃ z21 : Int32, ∃ z26 : Int32, ∃ z25 : Int64, ∃ zp : Nat → Int32, tj < ct ∧ gP tj ≤ ln ∧ ti ≤ tj ∧ TKR (gK tj) (gV tj) (fb (gP tj)) z17 z18 z19 z25 ∧ RI cn pq en dy zp ∧ (u9 = 1 → tj = ti + 1) ∧ (u9 = 1 → z20 = g20) ∧ (u9 = 1 → z21 = g21) ∧ (u9 = 1 → gP ti + 1 ≤ gP tj) ∧ (u9 = 1 → nmE (lN lo) (lN hi) (gK ti) (gV ti) = none) ∧ (u9 = 1 → UpV 1 fp zp (gV ti)) ∧ (u9 = 0 → NmF lo hi (gK ti) (gV ti) z20) ∧ (u9 = 0 → z21 = gS ti) ∧ Wq D (va_A [(oX10 w0 v0 v1 v2 v3 v4 g5 g6 (nI ed) g8 v9 (nI nb) g11 g12 v13 (nI ln) (nI (gP ti)) (nI (gR (ti + 1))) tk kw g19 g20 g21 g22 g23 (nI cd) g25 g26 v27 v28 v29 v30 v31 v32 v33 v34 v35 v36 v37 (nI ol)), (v9, .inl (cA 0, 700, .inl fb)), (v13, .inl (cA 1, 15, .inr (.inl fkw))), (v1, .inl (cA 0, 326, .inl fp))] sz) [(oX10 w0 v0 v1 v2 v3 v4 g5 g6 (nI ed) g8 v9 (nI nb) g11 g12 v13 (nI ln) (nI (gP tj)) (nI (gR (tj + 1))) z17 z18 z19 z20 z21 g22 g23 (nI cd) z25 z26 v27 v28 v29 v30 v31 v32 v33 v34 v35 v36 v37 (nI ol)), (v9, .inl (cA 0, 700, .inl fb)), (v13, .inl (cA 1, 15, .inr (.inl fkw))), (v1, .inl (cA 0, 326, .inl zp))] t) (va_A [(oX10 w0 v0 v1 v2 v3 v4 g5 g6 (nI ed) g8 v9 (nI nb) g11 g12 v13 (nI ln) (nI (gP ti)) (nI (gR (ti + 1))) tk kw g19 g20 g21 g22 g23 (nI cd) g25 g26 v27 v28 v29 v30 v31 v32 v33 v34 v35 v36 v37 (nI ol)), (v9, .inl (cA 0, 700, .inl fb)), (v13, .inl (cA 1, 15, .inr (.inl fkw))), (v1, .inl (cA 0, 326, .inl fp))] sz)) 0 0 (va_A [(oX10 w0 v0 v1 v2 v3 v4 g5 g6 (nI ed) g8 v9 (nI nb) g11 g12 v13 (nI ln) (nI (gP ti)) (nI (gR (ti + 1))) tk kw g19 g20 g21 g22 g23 (nI cd) g25 g26 v27 v28 v29 v30 v31 v32 v33 v34 v35 v36 v37 (nI ol)), (v9, .inl (cA 0, 700, .inl fb)), (v13, .inl (cA 1, 15, .inr (.inl fkw))), (v1, .inl (cA 0, 326, .inl fp))] sz) := by
  refine Met.ofW (cc := cX10_numberTo) (maxL := 4) (ret := (some .boolean)) (by decide) rfl ?_
  intro p e s m args below meth c s₁ B hml hv
  obtain ⟨rfl, hsz, hP, hK, hD0, hC, hZ⟩ := hv
  have hx := B.exec
  have hb := B.bytes
  have hr := B.returns
  have hts := atoms_spec (ws := wsX10_numberTo) B.pre
  have hown : s.vm.findClass RX10 = some m.cls := findClass_of_methodNamed B.named
  have hlocks := B.notSynchronized
  subst hsz
  have hD := hD0.self (sz := s.heap.size)
  generalize hAe : va_A [(oX10 w0 v0 v1 v2 v3 v4 g5 g6 (nI ed) g8 v9 (nI nb) g11 g12 v13 (nI ln) (nI (gP ti)) (nI (gR (ti + 1))) tk kw g19 g20 g21 g22 g23 (nI cd) g25 g26 v27 v28 v29 v30 v31 v32 v33 v34 v35 v36 v37 (nI ol)), (v9, .inl (cA 0, 700, .inl fb)), (v13, .inl (cA 1, 15, .inr (.inl fkw))), (v1, .inl (cA 0, 326, .inl fp))] s.heap.size = A at hD hZ ⊢
  have hA : ∀ q : Nat, s.heap.size ≤ q → A q := fun q h => by rw [← hAe]; exact Or.inr h
  have hS : va_S A s.heap s.heap [] := va_S.rf
  have hP : va_P D vwCl [(oX10 w0 v0 v1 v2 v3 v4 g5 g6 (nI ed) g8 v9 (nI nb) g11 g12 v13 (nI ln) (nI (gP ti)) (nI (gR (ti + 1))) tk kw g19 g20 g21 g22 g23 (nI cd) g25 g26 v27 v28 v29 v30 v31 v32 v33 v34 v35 v36 v37 (nI ol)), (v9, .inl (cA 0, 700, .inl fb)), (v13, .inl (cA 1, 15, .inr (.inl fkw))), (v1, .inl (cA 0, 326, .inl fp))] s.heap := hP
  have hl := lv_entry ([.ref w0, .int 1, .int (nI lo), .int (nI hi)]) (n := 4) (Nat.le_of_ble_eq_true rfl)
  rw [lg_entry_eq]
  generalize (lg_sl ([.ref w0, .int 1, .int (nI lo), .int (nI hi)]) ++ List.replicate (4 - (lg_sl ([.ref w0, .int 1, .int (nI lo), .int (nI hi)])).length) Slot.unset).toArray = ls at hl ⊢
  have hl : lv_has ls 4 [(0, .ref w0), (1, .int 1), (2, .int (nI lo)), (3, .int (nI hi))] := hl
  have inX10 : ∀ w ∈ u_ws RX10 TX10 39, w ∈ wsX10_numberTo := by decide +kernel
  have hle9 := TX.le hTX hti
  refine lv_aload_n hx hb dX10_numberTo_0 rfl (lv_at hl 0 rfl) ?_
  refine lv_iload_n hx hb dX10_numberTo_1 rfl (lv_at hl 2 rfl) ?_
  refine lv_iload_n hx hb dX10_numberTo_2 rfl (lv_at hl 3 rfl) ?_
  obtain ⟨hPc, hDc, hFc⟩ := PDq.cut (wc := [(oX10 w0 v0 v1 v2 v3 v4 g5 g6 (nI ed) g8 v9 (nI nb) g11 g12 v13 (nI ln) (nI (gP ti)) (nI (gR (ti + 1))) tk kw g19 g20 g21 g22 g23 (nI cd) g25 g26 v27 v28 v29 v30 v31 v32 v33 v34 v35 v36 v37 (nI ol)), (v9, .inl (cA 0, 700, .inl fb)), (v13, .inl (cA 1, 15, .inr (.inl fkw)))]) hP hD hS hA [0, 1, 2] (by decide) rfl
  refine va_calli (va_runV (As := [.int (nI lo), .int (nI hi)]) (rest := []) ⟨hx, hb, hml, hown, hts⟩ (y_number l D cA sa w0 ed nb ol v0 v1 v2 v3 v4 v9 v13 v27 v28 v29 v30 v31 v32 v33 v34 v35 v36 v37 g8 g11 g12 g19 g20 g21 g22 g23 g26 g5 g6 g25 ln cd tk kw ti ct fb fkw gP gR gS gK gV lo hi s.heap.size hln hct hti hTX hBY hTK hKW hhi hlo) (cwV 2 hts gX10_numberTo_X10_number rfl rfl rfl (by decide +kernel) ⟨(Nat.le_of_ble_eq_true rfl), (Nat.le_of_ble_eq_true rfl)⟩) ⟨Wd.blind, va_recv hK hPc (ci := 11) (q0 := 0) rfl rfl, fun U hU hW => ⟨rfl, Wd.call hPc hDc hK hC hZ hS hFc U hU hW⟩⟩ rfl rfl hl.1 rfl (lv_room (Nat.le_of_ble_eq_true rfl)) dX10_numberTo_3 ⟨(Nat.le_of_ble_eq_true rfl), (Nat.le_of_ble_eq_true rfl)⟩) hS (fun q _ h => hFc q h) hFc (fun rn1 u t H1 locs ht hvm hw hB hz1 hk1 hS => ?_)
  obtain ⟨qn2, zn3, zn4, zn5, zn6, zn7, zn8, zn9, hn10, hn11, hn12, hn13, hn14, hn15, hn16, hn17, hn18, hn19, hn20, hn21, hn22, hP1, hD1⟩ := hB
  rw [ht] at hP1
  obtain ⟨hP, hD⟩ := PDq.join (w := [(v1, .inl (cA 0, 326, .inl fp)), (oX10 w0 v0 v1 v2 v3 v4 g5 g6 (nI ed) g8 v9 (nI nb) g11 g12 v13 (nI ln) (nI (gP qn2)) (nI (gR (qn2 + 1))) zn3 zn4 zn5 zn6 zn7 g22 g23 (nI cd) zn9 zn8 v27 v28 v29 v30 v31 v32 v33 v34 v35 v36 v37 (nI ol)), (v9, .inl (cA 0, 700, .inl fb)), (v13, .inl (cA 1, 15, .inr (.inl fkw)))]) 1 hP hD [0, 1, 2] [3] rfl rfl (by decide) (by decide) hk1 hFc hP1 hD1 rfl
  generalize H1 = H at hP hS ⊢
  rcases hw.2 with hr9 | hr9
  · skip
    have hn21 := hn21 (hw.1.trans hr9)
    have hn22 := hn22 (hw.1.trans hr9)
    subst hr9
    refine lv_if_ne (tgt := 11) hx hb dX10_numberTo_6 (by decide) (fun c9 => absurd c9 (by decide)) (fun c23 => ?_)
    refine lv_iconst (v := 0) hx hb dX10_numberTo_9 (by decide) ?_
    obtain ⟨hP9, hD9⟩ := PDq.sub (ws' := [(oX10 w0 v0 v1 v2 v3 v4 g5 g6 (nI ed) g8 v9 (nI nb) g11 g12 v13 (nI ln) (nI (gP qn2)) (nI (gR (qn2 + 1))) zn3 zn4 zn5 zn6 zn7 g22 g23 (nI cd) zn9 zn8 v27 v28 v29 v30 v31 v32 v33 v34 v35 v36 v37 (nI ol)), (v9, .inl (cA 0, 700, .inl fb)), (v13, .inl (cA 1, 15, .inr (.inl fkw))), (v1, .inl (cA 0, 326, .inl fp))]) hP hD [1, 2, 3, 0] (by decide) rfl
    refine W.widen (k := 0) (n := 0) (Nat.le_of_ble_eq_true rfl) (Nat.le_of_ble_eq_true rfl) ?_
    exact (W.zret (v := 0) hx hb hr (by first | rfl | decide) (fun t ht hW => ⟨⟨0, 0, rfl, ⟨rfl, by decide⟩, qn2, zn3, zn4, zn5, zn6, zn7, zn8, zn9, fp, hn10, hn11, hn12, hn13, hri, (fun h9 => absurd h9 (by decide)), (fun h9 => absurd h9 (by decide)), (fun h9 => absurd h9 (by decide)), (fun h9 => absurd h9 (by decide)), (fun h9 => absurd h9 (by decide)), (fun h9 => absurd h9 (by decide)), (fun _ => hn21), (fun _ => hn22), by rw [ht]; exact hP9, hD9⟩, hS.F ht⟩) hS.2.2 dX10_numberTo_10)
  · skip
    have hn14 := hn14 (hw.1.trans hr9)
    subst hn14
    obtain ⟨hP, hD⟩ : PDq D A [(v1, .inl (cA 0, 326, .inl fp)), (oX10 w0 v0 v1 v2 v3 v4 g5 g6 (nI ed) g8 v9 (nI nb) g11 g12 v13 (nI ln) (nI (gP (ti + 1))) (nI (gR ((ti + 1) + 1))) zn3 zn4 zn5 zn6 zn7 g22 g23 (nI cd) zn9 zn8 v27 v28 v29 v30 v31 v32 v33 v34 v35 v36 v37 (nI ol)), (v9, .inl (cA 0, 700, .inl fb)), (v13, .inl (cA 1, 15, .inr (.inl fkw)))] H := ⟨hP, hD⟩
    have hn15 := hn15 (hw.1.trans hr9)
    obtain rfl : g20 = zn6 := hn15.symm
    obtain ⟨hP, hD⟩ : PDq D A [(v1, .inl (cA 0, 326, .inl fp)), (oX10 w0 v0 v1 v2 v3 v4 g5 g6 (nI ed) g8 v9 (nI nb) g11 g12 v13 (nI ln) (nI (gP (ti + 1))) (nI (gR ((ti + 1) + 1))) zn3 zn4 zn5 g20 zn7 g22 g23 (nI cd) zn9 zn8 v27 v28 v29 v30 v31 v32 v33 v34 v35 v36 v37 (nI ol)), (v9, .inl (cA 0, 700, .inl fb)), (v13, .inl (cA 1, 15, .inr (.inl fkw)))] H := ⟨hP, hD⟩
    have hn16 := hn16 (hw.1.trans hr9)
    obtain rfl : g21 = zn7 := hn16.symm
    obtain ⟨hP, hD⟩ : PDq D A [(v1, .inl (cA 0, 326, .inl fp)), (oX10 w0 v0 v1 v2 v3 v4 g5 g6 (nI ed) g8 v9 (nI nb) g11 g12 v13 (nI ln) (nI (gP (ti + 1))) (nI (gR ((ti + 1) + 1))) zn3 zn4 zn5 g20 g21 g22 g23 (nI cd) zn9 zn8 v27 v28 v29 v30 v31 v32 v33 v34 v35 v36 v37 (nI ol)), (v9, .inl (cA 0, 700, .inl fb)), (v13, .inl (cA 1, 15, .inr (.inl fkw)))] H := ⟨hP, hD⟩
    have hn17 := hn17 (hw.1.trans hr9)
    have hn18 := hn18 (hw.1.trans hr9)
    have hn19 := hn19 (hw.1.trans hr9)
    have hn20 := hn20 (hw.1.trans hr9)
    obtain ⟨kn24, hn25, hn26, hn9⟩ := hn20
    subst hn9
    obtain ⟨hP, hD⟩ : PDq D A [(v1, .inl (cA 0, 326, .inl fp)), (oX10 w0 v0 v1 v2 v3 v4 g5 g6 (nI ed) g8 v9 (nI nb) g11 g12 v13 (nI ln) (nI (gP (ti + 1))) (nI (gR ((ti + 1) + 1))) zn3 zn4 zn5 g20 g21 g22 g23 (nI cd) zn9 (nI kn24) v27 v28 v29 v30 v31 v32 v33 v34 v35 v36 v37 (nI ol)), (v9, .inl (cA 0, 700, .inl fb)), (v13, .inl (cA 1, 15, .inr (.inl fkw)))] H := ⟨hP, hD⟩
    subst hr9
    refine lv_if_ne (tgt := 11) hx hb dX10_numberTo_6 (by decide) (fun c27 => ?_) (fun c9 => absurd c9 (by decide))
    refine lv_aload_n hx hb dX10_numberTo_11 rfl (lv_at hl 0 rfl) ?_
    refine va_get (D := D) (ci := 11) (v := .ref v1) (C := RX10) (T := TX10) (N := 39) hx hb hts inX10 hown hK hP 1 rfl rfl 1 (by decide) (hts (.fieldLink RX10 13 "EscrowDeskModel" "parsed" "[I") (by decide +kernel)) (fun _ h9 => h9) rfl dX10_numberTo_12 ?_
    refine lv_iload_n hx hb dX10_numberTo_15 rfl (lv_at hl 1 rfl) ?_
    refine lv_aload_n hx hb dX10_numberTo_16 rfl (lv_at hl 0 rfl) ?_
    refine va_get (D := D) (ci := 11) (v := .int (nI kn24)) (C := RX10) (T := TX10) (N := 39) hx hb hts inX10 hown hK hP 1 rfl rfl 26 (by decide) (hts (.fieldLink RX10 156 "EscrowDeskModel" "numberRead" "I") (by decide +kernel)) (fun _ h9 => h9) rfl dX10_numberTo_17 ?_
    refine va_iast hx hb hK hP hD hS 0 0 rfl rfl (vp_in_iff.mpr (by decide)) dX10_numberTo_20 (fun H locs hP hD hS => ?_)
    obtain ⟨hP, hD⟩ : PDq D A [(v1, .inl (cA 0, 326, .inl (upd fp 1 (nI kn24)))), (oX10 w0 v0 v1 v2 v3 v4 g5 g6 (nI ed) g8 v9 (nI nb) g11 g12 v13 (nI ln) (nI (gP (ti + 1))) (nI (gR ((ti + 1) + 1))) zn3 zn4 zn5 g20 g21 g22 g23 (nI cd) zn9 (nI kn24) v27 v28 v29 v30 v31 v32 v33 v34 v35 v36 v37 (nI ol)), (v9, .inl (cA 0, 700, .inl fb)), (v13, .inl (cA 1, 15, .inr (.inl fkw)))] H := ⟨hP, hD⟩
    have hn29 : RI cn pq en dy (upd fp 1 (nI kn24)) := RI.bas hri kn24 (by omega) (by omega)
    have hn30 : Upp 1 (nI kn24) fp (upd fp 1 (nI kn24)) := rfl
    have hn31 : Rpp (upd fp 1 (nI kn24)) := rfl
    generalize (upd fp 1 (nI kn24)) = fn28 at hP hD hn29 hn30 hn31
    obtain ⟨hP, hD⟩ : PDq D A [(v1, .inl (cA 0, 326, .inl fn28)), (oX10 w0 v0 v1 v2 v3 v4 g5 g6 (nI ed) g8 v9 (nI nb) g11 g12 v13 (nI ln) (nI (gP (ti + 1))) (nI (gR ((ti + 1) + 1))) zn3 zn4 zn5 g20 g21 g22 g23 (nI cd) zn9 (nI kn24) v27 v28 v29 v30 v31 v32 v33 v34 v35 v36 v37 (nI ol)), (v9, .inl (cA 0, 700, .inl fb)), (v13, .inl (cA 1, 15, .inr (.inl fkw)))] H := ⟨hP, hD⟩
    refine lv_iconst (v := 1) hx hb dX10_numberTo_21 (by decide) ?_
    obtain ⟨hP9, hD9⟩ := PDq.sub (ws' := [(oX10 w0 v0 v1 v2 v3 v4 g5 g6 (nI ed) g8 v9 (nI nb) g11 g12 v13 (nI ln) (nI (gP (ti + 1))) (nI (gR ((ti + 1) + 1))) zn3 zn4 zn5 g20 g21 g22 g23 (nI cd) zn9 (nI kn24) v27 v28 v29 v30 v31 v32 v33 v34 v35 v36 v37 (nI ol)), (v9, .inl (cA 0, 700, .inl fb)), (v13, .inl (cA 1, 15, .inr (.inl fkw))), (v1, .inl (cA 0, 326, .inl fn28))]) hP hD [1, 2, 3, 0] (by decide) rfl
    refine W.widen (k := 0) (n := 0) (Nat.le_of_ble_eq_true rfl) (Nat.le_of_ble_eq_true rfl) ?_
    exact (W.zret (v := 1) hx hb hr (by first | rfl | decide) (fun t ht hW => ⟨⟨1, 1, rfl, ⟨rfl, by decide⟩, (ti + 1), zn3, zn4, zn5, g20, g21, (nI kn24), zn9, fn28, hn10, hn11, hn12, hn13, hn29, (fun _ => rfl), (fun _ => rfl), (fun _ => rfl), (fun _ => hn17), (fun _ => hn18), (fun _ => (UpV.of hn30 hn19)), (fun h9 => absurd h9 (by decide)), (fun h9 => absurd h9 (by decide)), by rw [ht]; exact hP9, hD9⟩, hS.F ht⟩) hS.2.2 dX10_numberTo_22)

