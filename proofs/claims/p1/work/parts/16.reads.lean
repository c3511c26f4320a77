set_option maxHeartbeats 4000000 in
set_option maxRecDepth 100000 in
/-- needIndex(i, 0) throws -/
theorem c_needIndex_thr (l : Launch) (D : va_G) (cA : Nat → ClassId) (sa : Nat → Nat) (i : Int32) (sz : Nat) (hl9 : l.stackTraces = false) : vx_Met l yX9_needIndex wsX9_needIndex ({ frames := 6, cells := 1, slots := 6, locals := 90 }) (va_Pc [.int i, .int 0] (Wd D cA sa [] sz)) (va_Qv (fun _ : Unit => False) (fun (_ : Unit) _ => True) (va_A [] sz)) (vx_X (fun _ : Unit => True) (fun E _ _ => E = "java/lang/IndexOutOfBoundsException") (va_A [] sz)) 1 6 (va_A [] sz) := by
  refine vx_ofW (cc := cX9_needIndex) (maxL := 2) (ret := none) (by decide) rfl ?_
  intro p e s m args below meth c s₁ B hml hno hv
  obtain ⟨rfl, hsz, hP, hK, hD0, hC, hZ⟩ := hv
  have hx := B.exec
  have hb := B.bytes
  have hr := B.returns
  have hts := atoms_spec (ws := wsX9_needIndex) B.pre
  have hown : s.vm.findClass RX9 = some m.cls := findClass_of_methodNamed B.named
  have hlocks := B.notSynchronized
  subst hsz
  have hD := hD0.self (sz := s.heap.size)
  generalize hAe : va_A [] s.heap.size = A at hD hZ ⊢
  have hA : ∀ q : Nat, s.heap.size ≤ q → A q := fun q h => by rw [← hAe]; exact Or.inr h
  have hS : va_S A s.heap s.heap [] := va_S.rf
  have hP : va_P D vwCl [] s.heap := hP
  have hl := lv_entry ([.int i, .int 0]) (n := 2) (Nat.le_of_ble_eq_true rfl)
  rw [lg_entry_eq]
  generalize (lg_sl ([.int i, .int 0]) ++ List.replicate (2 - (lg_sl ([.int i, .int 0])).length) Slot.unset).toArray = ls at hl ⊢
  have hl : lv_has ls 2 [(0, .int i), (1, .int 0)] := hl
  refine lv_iload_n hx hb dX9_needIndex_0 rfl (lv_at hl 0 rfl) ?_
  refine lv_if_lt (tgt := 9) hx hb dX9_needIndex_1 (by decide) (fun c1 => ?_) (fun c1 => ?_)
  · skip
    exact vx_throwSW (text := "there is no such thing") (names := ["java/lang/RuntimeException", "java/lang/Exception"]) (A := A) hx hb hl9 hown (by decide +kernel) (by decide +kernel) (hts (.classLink RX9 210 "java/lang/IndexOutOfBoundsException") (by decide +kernel)) (hts (.initialized "java/lang/IndexOutOfBoundsException") (by decide +kernel)) (hC.str 17 rfl) (vx_hat (B := [.castable "java/lang/IndexOutOfBoundsException" "java/lang/IndexOutOfBoundsException", .declares (Bundle.initS "java/lang/RuntimeException"), .declares (Bundle.initS "java/lang/Exception"), .declares (Bundle.initS "java/lang/Throwable")]) (fun w h => hts w (by first | exact (List.mem_cons_of_mem _ (List.mem_append_right _ h)) | (revert w; decide +kernel))) (by decide +kernel) (vx_c (hC.c (by decide +kernel)) (vx_c (hC.d (by decide +kernel)) (vx_c (hC.d (by decide +kernel)) (vx_c (hC.d (by decide +kernel)) vx_n))))) (by decide +kernel) hZ.1 hZ.2.1 hS (by rw [hml]; exact hl.1) dX9_needIndex_9 dX9_needIndex_12 dX9_needIndex_13 dX9_needIndex_16 dX9_needIndex_19 (fun x h => (hno x h).elim) (Nat.le_of_ble_eq_true rfl) (Nat.le_of_ble_eq_true rfl) (Nat.le_of_ble_eq_true rfl) (Nat.le_of_ble_eq_true rfl) hlocks (fun t ht h1 h2 => ⟨(), trivial, rfl, F_of hS h1 h2⟩) hS.2.2 (Nat.le_of_ble_eq_true rfl) (Nat.le_of_ble_eq_true rfl)
  · skip
    refine lv_iload_n hx hb dX9_needIndex_4 rfl (lv_at hl 0 rfl) ?_
    refine lv_iload_n hx hb dX9_needIndex_5 rfl (lv_at hl 1 rfl) ?_
    refine lv_icmp_lt (tgt := 20) hx hb dX9_needIndex_6 (by decide) (fun c9 => absurd c9 c1) (fun c2 => ?_)
    exact vx_throwSW (text := "there is no such thing") (names := ["java/lang/RuntimeException", "java/lang/Exception"]) (A := A) hx hb hl9 hown (by decide +kernel) (by decide +kernel) (hts (.classLink RX9 210 "java/lang/IndexOutOfBoundsException") (by decide +kernel)) (hts (.initialized "java/lang/IndexOutOfBoundsException") (by decide +kernel)) (hC.str 17 rfl) (vx_hat (B := [.castable "java/lang/IndexOutOfBoundsException" "java/lang/IndexOutOfBoundsException", .declares (Bundle.initS "java/lang/RuntimeException"), .declares (Bundle.initS "java/lang/Exception"), .declares (Bundle.initS "java/lang/Throwable")]) (fun w h => hts w (by first | exact (List.mem_cons_of_mem _ (List.mem_append_right _ h)) | (revert w; decide +kernel))) (by decide +kernel) (vx_c (hC.c (by decide +kernel)) (vx_c (hC.d (by decide +kernel)) (vx_c (hC.d (by decide +kernel)) (vx_c (hC.d (by decide +kernel)) vx_n))))) (by decide +kernel) hZ.1 hZ.2.1 hS (by rw [hml]; exact hl.1) dX9_needIndex_9 dX9_needIndex_12 dX9_needIndex_13 dX9_needIndex_16 dX9_needIndex_19 (fun x h => (hno x h).elim) (Nat.le_of_ble_eq_true rfl) (Nat.le_of_ble_eq_true rfl) (Nat.le_of_ble_eq_true rfl) (Nat.le_of_ble_eq_true rfl) hlocks (fun t ht h1 h2 => ⟨(), trivial, rfl, F_of hS h1 h2⟩) hS.2.2 (Nat.le_of_ble_eq_true rfl) (Nat.le_of_ble_eq_true rfl)

set_option maxHeartbeats 4000000 in
set_option maxRecDepth 100000 in
/-- needRange within -/
theorem c_needRange_ret (l : Launch) (D : va_G) (cA : Nat → ClassId) (sa : Nat → Nat) (v lo hi : Int32) (sz : Nat) (h1 : ¬ v < lo) (h2 : ¬ hi < v) : Met l yX9_needRange wsX9_needRange ({ frames := 0, cells := 0, slots := 0, locals := 0 }) (va_Pc [.int v, .int lo, .int hi] (Wd D cA sa [] sz)) (va_Qv (fun _ : Unit => True) (fun (_ : Unit) t => Wq D (va_A [] sz) [] t) (va_A [] sz)) 0 0 (va_A [] sz) := by
  refine Met.ofW (cc := cX9_needRange) (maxL := 3) (ret := none) (by decide) rfl ?_
  intro p e s m args below meth c s₁ B hml hv
  obtain ⟨rfl, hsz, hP, hK, hD0, hC, hZ⟩ := hv
  have hx := B.exec
  have hb := B.bytes
  have hr := B.returns
  have hts := atoms_spec (ws := wsX9_needRange) B.pre
  have hown : s.vm.findClass RX9 = some m.cls := findClass_of_methodNamed B.named
  have hlocks := B.notSynchronized
  subst hsz
  have hD := hD0.self (sz := s.heap.size)
  generalize hAe : va_A [] s.heap.size = A at hD hZ ⊢
  have hA : ∀ q : Nat, s.heap.size ≤ q → A q := fun q h => by rw [← hAe]; exact Or.inr h
  have hS : va_S A s.heap s.heap [] := va_S.rf
  have hP : va_P D vwCl [] s.heap := hP
  have hl := lv_entry ([.int v, .int lo, .int hi]) (n := 3) (Nat.le_of_ble_eq_true rfl)
  rw [lg_entry_eq]
  generalize (lg_sl ([.int v, .int lo, .int hi]) ++ List.replicate (3 - (lg_sl ([.int v, .int lo, .int hi])).length) Slot.unset).toArray = ls at hl ⊢
  have hl : lv_has ls 3 [(0, .int v), (1, .int lo), (2, .int hi)] := hl
  refine lv_iload_n hx hb dX9_needRange_0 rfl (lv_at hl 0 rfl) ?_
  refine lv_iload_n hx hb dX9_needRange_1 rfl (lv_at hl 1 rfl) ?_
  refine lv_icmp_lt (tgt := 10) hx hb dX9_needRange_2 (by decide) (fun c9 => absurd c9 h1) (fun c1 => ?_)
  refine lv_iload_n hx hb dX9_needRange_5 rfl (lv_at hl 0 rfl) ?_
  refine lv_iload_n hx hb dX9_needRange_6 rfl (lv_at hl 2 rfl) ?_
  refine lv_icmp_le (tgt := 21) hx hb dX9_needRange_7 (by decide) (fun c2 => ?_) (fun c9 => absurd c9 (fun h3 => h3 (Int32.not_lt.mp h2)))
  have hP9 := hP.sub (ws' := []) [] rfl
  have hD9 := hD.sub (ws' := []) [] (by decide) rfl
  refine W.widen (k := 0) (n := 0) (Nat.le_of_ble_eq_true rfl) (Nat.le_of_ble_eq_true rfl) ?_
  exact W.vret hx hb hr (fun t ht hW => ⟨⟨(), rfl, trivial, by rw [ht]; exact hP9, hD9⟩, hS.F ht⟩) hS.2.2 dX9_needRange_21

set_option maxHeartbeats 4000000 in
set_option maxRecDepth 100000 in
/-- needRange outside -/
theorem c_needRange_thr (l : Launch) (D : va_G) (cA : Nat → ClassId) (sa : Nat → Nat) (v lo hi : Int32) (sz : Nat) (hl9 : l.stackTraces = false) (h : v < lo ∨ hi < v) : vx_Met l yX9_needRange wsX9_needRange ({ frames := 6, cells := 1, slots := 6, locals := 90 }) (va_Pc [.int v, .int lo, .int hi] (Wd D cA sa [] sz)) (va_Qv (fun _ : Unit => False) (fun (_ : Unit) _ => True) (va_A [] sz)) (vx_X (fun _ : Unit => True) (fun E _ _ => E = "java/lang/IllegalArgumentException") (va_A [] sz)) 1 6 (va_A [] sz) := by
  refine vx_ofW (cc := cX9_needRange) (maxL := 3) (ret := none) (by decide) rfl ?_
  intro p e s m args below meth c s₁ B hml hno hv
  obtain ⟨rfl, hsz, hP, hK, hD0, hC, hZ⟩ := hv
  have hx := B.exec
  have hb := B.bytes
  have hr := B.returns
  have hts := atoms_spec (ws := wsX9_needRange) B.pre
  have hown : s.vm.findClass RX9 = some m.cls := findClass_of_methodNamed B.named
  have hlocks := B.notSynchronized
  subst hsz
  have hD := hD0.self (sz := s.heap.size)
  generalize hAe : va_A [] s.heap.size = A at hD hZ ⊢
  have hA : ∀ q : Nat, s.heap.size ≤ q → A q := fun q h => by rw [← hAe]; exact Or.inr h
  have hS : va_S A s.heap s.heap [] := va_S.rf
  have hP : va_P D vwCl [] s.heap := hP
  have hl := lv_entry ([.int v, .int lo, .int hi]) (n := 3) (Nat.le_of_ble_eq_true rfl)
  rw [lg_entry_eq]
  generalize (lg_sl ([.int v, .int lo, .int hi]) ++ List.replicate (3 - (lg_sl ([.int v, .int lo, .int hi])).length) Slot.unset).toArray = ls at hl ⊢
  have hl : lv_has ls 3 [(0, .int v), (1, .int lo), (2, .int hi)] := hl
  refine lv_iload_n hx hb dX9_needRange_0 rfl (lv_at hl 0 rfl) ?_
  refine lv_iload_n hx hb dX9_needRange_1 rfl (lv_at hl 1 rfl) ?_
  refine lv_icmp_lt (tgt := 10) hx hb dX9_needRange_2 (by decide) (fun c1 => ?_) (fun c1 => ?_)
  · skip
    exact vx_throwSW (text := "out of range") (names := ["java/lang/RuntimeException", "java/lang/Exception"]) (A := A) hx hb hl9 hown (by decide +kernel) (by decide +kernel) (hts (.classLink RX9 279 "java/lang/IllegalArgumentException") (by decide +kernel)) (hts (.initialized "java/lang/IllegalArgumentException") (by decide +kernel)) (hC.str 0 rfl) (vx_hat (B := [.castable "java/lang/IllegalArgumentException" "java/lang/IllegalArgumentException", .declares (Bundle.initS "java/lang/RuntimeException"), .declares (Bundle.initS "java/lang/Exception"), .declares (Bundle.initS "java/lang/Throwable")]) (fun w h => hts w (by first | exact (List.mem_cons_of_mem _ (List.mem_append_right _ h)) | (revert w; decide +kernel))) (by decide +kernel) (vx_c (hC.c (by decide +kernel)) (vx_c (hC.d (by decide +kernel)) (vx_c (hC.d (by decide +kernel)) (vx_c (hC.d (by decide +kernel)) vx_n))))) (by decide +kernel) hZ.1 hZ.2.1 hS (by rw [hml]; exact hl.1) dX9_needRange_10 dX9_needRange_13 dX9_needRange_14 dX9_needRange_17 dX9_needRange_20 (fun x h => (hno x h).elim) (Nat.le_of_ble_eq_true rfl) (Nat.le_of_ble_eq_true rfl) (Nat.le_of_ble_eq_true rfl) (Nat.le_of_ble_eq_true rfl) hlocks (fun t ht h1 h2 => ⟨(), trivial, rfl, F_of hS h1 h2⟩) hS.2.2 (Nat.le_of_ble_eq_true rfl) (Nat.le_of_ble_eq_true rfl)
  · skip
    refine lv_iload_n hx hb dX9_needRange_5 rfl (lv_at hl 0 rfl) ?_
    refine lv_iload_n hx hb dX9_needRange_6 rfl (lv_at hl 2 rfl) ?_
    refine lv_icmp_le (tgt := 21) hx hb dX9_needRange_7 (by decide) (fun c9 => absurd c9 (fun h3 => h.elim (fun h4 => c1 h4) (fun h4 => (Int32.not_le.mpr h4) h3))) (fun c2 => ?_)
    exact vx_throwSW (text := "out of range") (names := ["java/lang/RuntimeException", "java/lang/Exception"]) (A := A) hx hb hl9 hown (by decide +kernel) (by decide +kernel) (hts (.classLink RX9 279 "java/lang/IllegalArgumentException") (by decide +kernel)) (hts (.initialized "java/lang/IllegalArgumentException") (by decide +kernel)) (hC.str 0 rfl) (vx_hat (B := [.castable "java/lang/IllegalArgumentException" "java/lang/IllegalArgumentException", .declares (Bundle.initS "java/lang/RuntimeException"), .declares (Bundle.initS "java/lang/Exception"), .declares (Bundle.initS "java/lang/Throwable")]) (fun w h => hts w (by first | exact (List.mem_cons_of_mem _ (List.mem_append_right _ h)) | (revert w; decide +kernel))) (by decide +kernel) (vx_c (hC.c (by decide +kernel)) (vx_c (hC.d (by decide +kernel)) (vx_c (hC.d (by decide +kernel)) (vx_c (hC.d (by decide +kernel)) vx_n))))) (by decide +kernel) hZ.1 hZ.2.1 hS (by rw [hml]; exact hl.1) dX9_needRange_10 dX9_needRange_13 dX9_needRange_14 dX9_needRange_17 dX9_needRange_20 (fun x h => (hno x h).elim) (Nat.le_of_ble_eq_true rfl) (Nat.le_of_ble_eq_true rfl) (Nat.le_of_ble_eq_true rfl) (Nat.le_of_ble_eq_true rfl) hlocks (fun t ht h1 h2 => ⟨(), trivial, rfl, F_of hS h1 h2⟩) hS.2.2 (Nat.le_of_ble_eq_true rfl) (Nat.le_of_ble_eq_true rfl)

set_option maxHeartbeats 4000000 in
set_option maxRecDepth 100000 in
/-- needPossible(true) -/
theorem c_needPossible (l : Launch) (D : va_G) (cA : Nat → ClassId) (sa : Nat → Nat)  (sz : Nat) : Met l yX9_needPossible wsX9_needPossible ({ frames := 0, cells := 0, slots := 0, locals := 0 }) (va_Pc [.int 1] (Wd D cA sa [] sz)) (va_Qv (fun _ : Unit => True) (fun (_ : Unit) t => Wq D (va_A [] sz) [] t) (va_A [] sz)) 0 0 (va_A [] sz) := by
  refine Met.ofW (cc := cX9_needPossible) (maxL := 1) (ret := none) (by decide) rfl ?_
  intro p e s m args below meth c s₁ B hml hv
  obtain ⟨rfl, hsz, hP, hK, hD0, hC, hZ⟩ := hv
  have hx := B.exec
  have hb := B.bytes
  have hr := B.returns
  have hts := atoms_spec (ws := wsX9_needPossible) B.pre
  have hown : s.vm.findClass RX9 = some m.cls := findClass_of_methodNamed B.named
  have hlocks := B.notSynchronized
  subst hsz
  have hD := hD0.self (sz := s.heap.size)
  generalize hAe : va_A [] s.heap.size = A at hD hZ ⊢
  have hA : ∀ q : Nat, s.heap.size ≤ q → A q := fun q h => by rw [← hAe]; exact Or.inr h
  have hS : va_S A s.heap s.heap [] := va_S.rf
  have hP : va_P D vwCl [] s.heap := hP
  have hl := lv_entry ([.int 1]) (n := 1) (Nat.le_of_ble_eq_true rfl)
  rw [lg_entry_eq]
  generalize (lg_sl ([.int 1]) ++ List.replicate (1 - (lg_sl ([.int 1])).length) Slot.unset).toArray = ls at hl ⊢
  have hl : lv_has ls 1 [(0, .int 1)] := hl
  refine lv_iload_n hx hb dX9_needPossible_0 rfl (lv_at hl 0 rfl) ?_
  refine lv_if_ne (tgt := 15) hx hb dX9_needPossible_1 (by decide) (fun c1 => ?_) (fun c9 => absurd c9 (by decide))
  have hP9 := hP.sub (ws' := []) [] rfl
  have hD9 := hD.sub (ws' := []) [] (by decide) rfl
  refine W.widen (k := 0) (n := 0) (Nat.le_of_ble_eq_true rfl) (Nat.le_of_ble_eq_true rfl) ?_
  exact W.vret hx hb hr (fun t ht hW => ⟨⟨(), rfl, trivial, by rw [ht]; exact hP9, hD9⟩, hS.F ht⟩) hS.2.2 dX9_needPossible_15

set_option maxHeartbeats 4000000 in
set_option maxRecDepth 100000 in
/-- needMilestone(i): there is none -/
theorem c_needMilestone_thr (l : Launch) (D : va_G) (cA : Nat → ClassId) (sa : Nat → Nat) (h0 b0 p0 u0 r0 a0 t0 s0 o0 p1 p2 p3 p4 p5 p6 p7 p8 p9 : Nat) (i : Int32) (sz : Nat) (hl9 : l.stackTraces = false) : vx_Met l yX9_needMilestone wsX9_needMilestone ({ frames := 7, cells := 1, slots := 6, locals := 111 }) (va_Pc [.ref h0, .int i] (Wd D cA sa [(h0, .inr (10, [.ref b0, .int 0, .ref p0, .ref u0, .ref r0, .ref a0, .ref t0, .ref s0, .ref o0])), (p0, .inr (7, [.int 0, .int 365, .int 0, .int 0, .ref p1, .int 0, .ref p2, .ref p3, .ref p4, .ref p5, .int 0, .ref p6, .int 0, .ref p7, .ref p8, .ref p9, .int 0]))] sz)) (va_Qv (fun _ : Unit => False) (fun (_ : Unit) _ => True) (va_A [(h0, .inr (10, [.ref b0, .int 0, .ref p0, .ref u0, .ref r0, .ref a0, .ref t0, .ref s0, .ref o0])), (p0, .inr (7, [.int 0, .int 365, .int 0, .int 0, .ref p1, .int 0, .ref p2, .ref p3, .ref p4, .ref p5, .int 0, .ref p6, .int 0, .ref p7, .ref p8, .ref p9, .int 0]))] sz)) (vx_X (fun _ : Unit => True) (fun E _ _ => E = "java/lang/IndexOutOfBoundsException") (va_A [(h0, .inr (10, [.ref b0, .int 0, .ref p0, .ref u0, .ref r0, .ref a0, .ref t0, .ref s0, .ref o0])), (p0, .inr (7, [.int 0, .int 365, .int 0, .int 0, .ref p1, .int 0, .ref p2, .ref p3, .ref p4, .ref p5, .int 0, .ref p6, .int 0, .ref p7, .ref p8, .ref p9, .int 0]))] sz)) 1 6 (va_A [(h0, .inr (10, [.ref b0, .int 0, .ref p0, .ref u0, .ref r0, .ref a0, .ref t0, .ref s0, .ref o0])), (p0, .inr (7, [.int 0, .int 365, .int 0, .int 0, .ref p1, .int 0, .ref p2, .ref p3, .ref p4, .ref p5, .int 0, .ref p6, .int 0, .ref p7, .ref p8, .ref p9, .int 0]))] sz) := by
  refine vx_ofW (cc := cX9_needMilestone) (maxL := 2) (ret := none) (by decide) rfl ?_
  intro p e s m args below meth c s₁ B hml hno hv
  obtain ⟨rfl, hsz, hP, hK, hD0, hC, hZ⟩ := hv
  have hx := B.exec
  have hb := B.bytes
  have hr := B.returns
  have hts := atoms_spec (ws := wsX9_needMilestone) B.pre
  have hown : s.vm.findClass RX9 = some m.cls := findClass_of_methodNamed B.named
  have hlocks := B.notSynchronized
  subst hsz
  have hD := hD0.self (sz := s.heap.size)
  generalize hAe : va_A [(h0, .inr (10, [.ref b0, .int 0, .ref p0, .ref u0, .ref r0, .ref a0, .ref t0, .ref s0, .ref o0])), (p0, .inr (7, [.int 0, .int 365, .int 0, .int 0, .ref p1, .int 0, .ref p2, .ref p3, .ref p4, .ref p5, .int 0, .ref p6, .int 0, .ref p7, .ref p8, .ref p9, .int 0]))] s.heap.size = A at hD hZ ⊢
  have hA : ∀ q : Nat, s.heap.size ≤ q → A q := fun q h => by rw [← hAe]; exact Or.inr h
  have hS : va_S A s.heap s.heap [] := va_S.rf
  have hP : va_P D vwCl [(h0, .inr (10, [.ref b0, .int 0, .ref p0, .ref u0, .ref r0, .ref a0, .ref t0, .ref s0, .ref o0])), (p0, .inr (7, [.int 0, .int 365, .int 0, .int 0, .ref p1, .int 0, .ref p2, .ref p3, .ref p4, .ref p5, .int 0, .ref p6, .int 0, .ref p7, .ref p8, .ref p9, .int 0]))] s.heap := hP
  have hl := lv_entry ([.ref h0, .int i]) (n := 2) (Nat.le_of_ble_eq_true rfl)
  rw [lg_entry_eq]
  generalize (lg_sl ([.ref h0, .int i]) ++ List.replicate (2 - (lg_sl ([.ref h0, .int i])).length) Slot.unset).toArray = ls at hl ⊢
  have hl : lv_has ls 2 [(0, .ref h0), (1, .int i)] := hl
  have inX3 : ∀ w ∈ u_ws RX3 TX3 17, w ∈ wsX9_needMilestone := by decide +kernel
  have inX9 : ∀ w ∈ u_ws RX9 TX9 9, w ∈ wsX9_needMilestone := by decide +kernel
  refine lv_iload_n hx hb dX9_needMilestone_0 rfl (lv_at hl 1 rfl) ?_
  refine lv_aload_n hx hb dX9_needMilestone_1 rfl (lv_at hl 0 rfl) ?_
  refine va_get (D := D) (ci := 10) (v := .ref p0) (C := RX9) (T := TX9) (N := 9) hx hb hts inX9 hown hK hP 0 rfl rfl 2 (by decide) (hts (.fieldLink RX9 16 "EscrowDesk" "plan" "LEscrowDesk$Plan;") (by decide +kernel)) (fun _ h9 => h9) rfl dX9_needMilestone_2 ?_
  refine va_getN (D := D) (ci := 7) (v := .int 0) (C := RX3) (T := TX3) (N := 17) hx hb hts inX3 hown hK hP 1 rfl rfl 10 (by decide) (hC.f (A := _) (a := RX9) (i := 78) (b := "EscrowDesk$Plan") (n := "milestoneCount") (d := "I") (x := "EscrowDesk") (by decide +kernel)) (fun _ h9 => h9) rfl dX9_needMilestone_5 ?_
  have hPc := hP.sub (ws' := []) [] rfl
  have hDc := hD.sub (ws' := []) [] (by decide) rfl
  have hFc := va_free (wc := []) hD hS hA [] rfl
  refine vx_callv (vx_runS (As := [.int i, .int 0]) (rest := []) ⟨hx, hb, hml, hown, hts⟩ (c_needIndex_thr l D cA sa i s.heap.size hl9) (va_cwS 2 hts gX9_needMilestone_X9_needIndex rfl rfl rfl (by decide +kernel) ⟨(Nat.le_of_ble_eq_true rfl), (Nat.le_of_ble_eq_true rfl)⟩) ⟨Wd.blind, fun U hU hW => ⟨rfl, Wd.call hPc hDc hK hC hZ hS hFc U hU hW⟩⟩ rfl rfl hl.1 rfl (lv_room (Nat.le_of_ble_eq_true rfl)) dX9_needMilestone_8 ⟨(Nat.le_of_ble_eq_true rfl), (Nat.le_of_ble_eq_true rfl)⟩) hS (fun q _ h => hFc q h) hFc (fun q _ h => hFc q h) (fun E ce q9 u t H1 locs ht hvm hpx hE hz1 hk1 hS hcell hv9 hcl => ?_) (fun u t H1 locs ht hvm hw hB hz1 hk1 hS => hw.elim)
  exact vx_out (fun x h => (hno x h).elim) hlocks hcell hv9 hcl (fun t ht hvm => ⟨(), trivial, hE, hS.F ht⟩) hS.2.2 (Nat.le_of_ble_eq_true rfl) (Nat.le_of_ble_eq_true rfl)

set_option maxHeartbeats 4000000 in
set_option maxRecDepth 100000 in
/-- needProof(i): there is none -/
theorem c_needProof_thr (l : Launch) (D : va_G) (cA : Nat → ClassId) (sa : Nat → Nat) (h0 b0 p0 u0 r0 a0 t0 s0 o0 p1 p2 p3 p4 p5 p6 p7 p8 p9 : Nat) (i : Int32) (sz : Nat) (hl9 : l.stackTraces = false) : vx_Met l yX9_needProof wsX9_needProof ({ frames := 7, cells := 1, slots := 6, locals := 111 }) (va_Pc [.ref h0, .int i] (Wd D cA sa [(h0, .inr (10, [.ref b0, .int 0, .ref p0, .ref u0, .ref r0, .ref a0, .ref t0, .ref s0, .ref o0])), (p0, .inr (7, [.int 0, .int 365, .int 0, .int 0, .ref p1, .int 0, .ref p2, .ref p3, .ref p4, .ref p5, .int 0, .ref p6, .int 0, .ref p7, .ref p8, .ref p9, .int 0]))] sz)) (va_Qv (fun _ : Unit => False) (fun (_ : Unit) _ => True) (va_A [(h0, .inr (10, [.ref b0, .int 0, .ref p0, .ref u0, .ref r0, .ref a0, .ref t0, .ref s0, .ref o0])), (p0, .inr (7, [.int 0, .int 365, .int 0, .int 0, .ref p1, .int 0, .ref p2, .ref p3, .ref p4, .ref p5, .int 0, .ref p6, .int 0, .ref p7, .ref p8, .ref p9, .int 0]))] sz)) (vx_X (fun _ : Unit => True) (fun E _ _ => E = "java/lang/IndexOutOfBoundsException") (va_A [(h0, .inr (10, [.ref b0, .int 0, .ref p0, .ref u0, .ref r0, .ref a0, .ref t0, .ref s0, .ref o0])), (p0, .inr (7, [.int 0, .int 365, .int 0, .int 0, .ref p1, .int 0, .ref p2, .ref p3, .ref p4, .ref p5, .int 0, .ref p6, .int 0, .ref p7, .ref p8, .ref p9, .int 0]))] sz)) 1 6 (va_A [(h0, .inr (10, [.ref b0, .int 0, .ref p0, .ref u0, .ref r0, .ref a0, .ref t0, .ref s0, .ref o0])), (p0, .inr (7, [.int 0, .int 365, .int 0, .int 0, .ref p1, .int 0, .ref p2, .ref p3, .ref p4, .ref p5, .int 0, .ref p6, .int 0, .ref p7, .ref p8, .ref p9, .int 0]))] sz) := by
  refine vx_ofW (cc := cX9_needProof) (maxL := 2) (ret := none) (by decide) rfl ?_
  intro p e s m args below meth c s₁ B hml hno hv
  obtain ⟨rfl, hsz, hP, hK, hD0, hC, hZ⟩ := hv
  have hx := B.exec
  have hb := B.bytes
  have hr := B.returns
  have hts := atoms_spec (ws := wsX9_needProof) B.pre
  have hown : s.vm.findClass RX9 = some m.cls := findClass_of_methodNamed B.named
  have hlocks := B.notSynchronized
  subst hsz
  have hD := hD0.self (sz := s.heap.size)
  generalize hAe : va_A [(h0, .inr (10, [.ref b0, .int 0, .ref p0, .ref u0, .ref r0, .ref a0, .ref t0, .ref s0, .ref o0])), (p0, .inr (7, [.int 0, .int 365, .int 0, .int 0, .ref p1, .int 0, .ref p2, .ref p3, .ref p4, .ref p5, .int 0, .ref p6, .int 0, .ref p7, .ref p8, .ref p9, .int 0]))] s.heap.size = A at hD hZ ⊢
  have hA : ∀ q : Nat, s.heap.size ≤ q → A q := fun q h => by rw [← hAe]; exact Or.inr h
  have hS : va_S A s.heap s.heap [] := va_S.rf
  have hP : va_P D vwCl [(h0, .inr (10, [.ref b0, .int 0, .ref p0, .ref u0, .ref r0, .ref a0, .ref t0, .ref s0, .ref o0])), (p0, .inr (7, [.int 0, .int 365, .int 0, .int 0, .ref p1, .int 0, .ref p2, .ref p3, .ref p4, .ref p5, .int 0, .ref p6, .int 0, .ref p7, .ref p8, .ref p9, .int 0]))] s.heap := hP
  have hl := lv_entry ([.ref h0, .int i]) (n := 2) (Nat.le_of_ble_eq_true rfl)
  rw [lg_entry_eq]
  generalize (lg_sl ([.ref h0, .int i]) ++ List.replicate (2 - (lg_sl ([.ref h0, .int i])).length) Slot.unset).toArray = ls at hl ⊢
  have hl : lv_has ls 2 [(0, .ref h0), (1, .int i)] := hl
  have inX3 : ∀ w ∈ u_ws RX3 TX3 17, w ∈ wsX9_needProof := by decide +kernel
  have inX9 : ∀ w ∈ u_ws RX9 TX9 9, w ∈ wsX9_needProof := by decide +kernel
  refine lv_iload_n hx hb dX9_needProof_0 rfl (lv_at hl 1 rfl) ?_
  refine lv_aload_n hx hb dX9_needProof_1 rfl (lv_at hl 0 rfl) ?_
  refine va_get (D := D) (ci := 10) (v := .ref p0) (C := RX9) (T := TX9) (N := 9) hx hb hts inX9 hown hK hP 0 rfl rfl 2 (by decide) (hts (.fieldLink RX9 16 "EscrowDesk" "plan" "LEscrowDesk$Plan;") (by decide +kernel)) (fun _ h9 => h9) rfl dX9_needProof_2 ?_
  refine va_getN (D := D) (ci := 7) (v := .int 0) (C := RX3) (T := TX3) (N := 17) hx hb hts inX3 hown hK hP 1 rfl rfl 12 (by decide) (hC.f (A := _) (a := RX9) (i := 147) (b := "EscrowDesk$Plan") (n := "proofCount") (d := "I") (x := "EscrowDesk") (by decide +kernel)) (fun _ h9 => h9) rfl dX9_needProof_5 ?_
  have hPc := hP.sub (ws' := []) [] rfl
  have hDc := hD.sub (ws' := []) [] (by decide) rfl
  have hFc := va_free (wc := []) hD hS hA [] rfl
  refine vx_callv (vx_runS (As := [.int i, .int 0]) (rest := []) ⟨hx, hb, hml, hown, hts⟩ (c_needIndex_thr l D cA sa i s.heap.size hl9) (va_cwS 2 hts gX9_needProof_X9_needIndex rfl rfl rfl (by decide +kernel) ⟨(Nat.le_of_ble_eq_true rfl), (Nat.le_of_ble_eq_true rfl)⟩) ⟨Wd.blind, fun U hU hW => ⟨rfl, Wd.call hPc hDc hK hC hZ hS hFc U hU hW⟩⟩ rfl rfl hl.1 rfl (lv_room (Nat.le_of_ble_eq_true rfl)) dX9_needProof_8 ⟨(Nat.le_of_ble_eq_true rfl), (Nat.le_of_ble_eq_true rfl)⟩) hS (fun q _ h => hFc q h) hFc (fun q _ h => hFc q h) (fun E ce q9 u t H1 locs ht hvm hpx hE hz1 hk1 hS hcell hv9 hcl => ?_) (fun u t H1 locs ht hvm hw hB hz1 hk1 hS => hw.elim)
  exact vx_out (fun x h => (hno x h).elim) hlocks hcell hv9 hcl (fun t ht hvm => ⟨(), trivial, hE, hS.F ht⟩) hS.2.2 (Nat.le_of_ble_eq_true rfl) (Nat.le_of_ble_eq_true rfl)

set_option maxHeartbeats 4000000 in
set_option maxRecDepth 100000 in
/-- state: there is no such thing -/
theorem c_state_thr (l : Launch) (D : va_G) (cA : Nat → ClassId) (sa : Nat → Nat) (h0 b0 p0 u0 r0 a0 t0 s0 o0 p1 p2 p3 p4 p5 p6 p7 p8 p9 : Nat) (i : Int32) (sz : Nat) (hl9 : l.stackTraces = false) : vx_Met l yX9_state wsX9_state ({ frames := 8, cells := 1, slots := 6, locals := 132 }) (va_Pc [.ref h0, .int i] (Wd D cA sa [(h0, .inr (10, [.ref b0, .int 0, .ref p0, .ref u0, .ref r0, .ref a0, .ref t0, .ref s0, .ref o0])), (p0, .inr (7, [.int 0, .int 365, .int 0, .int 0, .ref p1, .int 0, .ref p2, .ref p3, .ref p4, .ref p5, .int 0, .ref p6, .int 0, .ref p7, .ref p8, .ref p9, .int 0]))] sz)) (va_Qi (fun (_ : Int32) (_ : Unit) => False) (fun (_ : Unit) _ => True) (va_A [(h0, .inr (10, [.ref b0, .int 0, .ref p0, .ref u0, .ref r0, .ref a0, .ref t0, .ref s0, .ref o0])), (p0, .inr (7, [.int 0, .int 365, .int 0, .int 0, .ref p1, .int 0, .ref p2, .ref p3, .ref p4, .ref p5, .int 0, .ref p6, .int 0, .ref p7, .ref p8, .ref p9, .int 0]))] sz)) (vx_X (fun _ : Unit => True) (fun E _ _ => E = "java/lang/IndexOutOfBoundsException") (va_A [(h0, .inr (10, [.ref b0, .int 0, .ref p0, .ref u0, .ref r0, .ref a0, .ref t0, .ref s0, .ref o0])), (p0, .inr (7, [.int 0, .int 365, .int 0, .int 0, .ref p1, .int 0, .ref p2, .ref p3, .ref p4, .ref p5, .int 0, .ref p6, .int 0, .ref p7, .ref p8, .ref p9, .int 0]))] sz)) 1 6 (va_A [(h0, .inr (10, [.ref b0, .int 0, .ref p0, .ref u0, .ref r0, .ref a0, .ref t0, .ref s0, .ref o0])), (p0, .inr (7, [.int 0, .int 365, .int 0, .int 0, .ref p1, .int 0, .ref p2, .ref p3, .ref p4, .ref p5, .int 0, .ref p6, .int 0, .ref p7, .ref p8, .ref p9, .int 0]))] sz) := by
  refine vx_ofW (cc := cX9_state) (maxL := 2) (ret := (some .int)) (by decide) rfl ?_
  intro p e s m args below meth c s₁ B hml hno hv
  obtain ⟨rfl, hsz, hP, hK, hD0, hC, hZ⟩ := hv
  have hx := B.exec
  have hb := B.bytes
  have hr := B.returns
  have hts := atoms_spec (ws := wsX9_state) B.pre
  have hown : s.vm.findClass RX9 = some m.cls := findClass_of_methodNamed B.named
  have hlocks := B.notSynchronized
  subst hsz
  have hD := hD0.self (sz := s.heap.size)
  generalize hAe : va_A [(h0, .inr (10, [.ref b0, .int 0, .ref p0, .ref u0, .ref r0, .ref a0, .ref t0, .ref s0, .ref o0])), (p0, .inr (7, [.int 0, .int 365, .int 0, .int 0, .ref p1, .int 0, .ref p2, .ref p3, .ref p4, .ref p5, .int 0, .ref p6, .int 0, .ref p7, .ref p8, .ref p9, .int 0]))] s.heap.size = A at hD hZ ⊢
  have hA : ∀ q : Nat, s.heap.size ≤ q → A q := fun q h => by rw [← hAe]; exact Or.inr h
  have hS : va_S A s.heap s.heap [] := va_S.rf
  have hP : va_P D vwCl [(h0, .inr (10, [.ref b0, .int 0, .ref p0, .ref u0, .ref r0, .ref a0, .ref t0, .ref s0, .ref o0])), (p0, .inr (7, [.int 0, .int 365, .int 0, .int 0, .ref p1, .int 0, .ref p2, .ref p3, .ref p4, .ref p5, .int 0, .ref p6, .int 0, .ref p7, .ref p8, .ref p9, .int 0]))] s.heap := hP
  have hl := lv_entry ([.ref h0, .int i]) (n := 2) (Nat.le_of_ble_eq_true rfl)
  rw [lg_entry_eq]
  generalize (lg_sl ([.ref h0, .int i]) ++ List.replicate (2 - (lg_sl ([.ref h0, .int i])).length) Slot.unset).toArray = ls at hl ⊢
  have hl : lv_has ls 2 [(0, .ref h0), (1, .int i)] := hl
  refine lv_aload_n hx hb dX9_state_0 rfl (lv_at hl 0 rfl) ?_
  refine lv_iload_n hx hb dX9_state_1 rfl (lv_at hl 1 rfl) ?_
  have hPc := hP.sub (ws' := [(h0, .inr (10, [.ref b0, .int 0, .ref p0, .ref u0, .ref r0, .ref a0, .ref t0, .ref s0, .ref o0])), (p0, .inr (7, [.int 0, .int 365, .int 0, .int 0, .ref p1, .int 0, .ref p2, .ref p3, .ref p4, .ref p5, .int 0, .ref p6, .int 0, .ref p7, .ref p8, .ref p9, .int 0]))]) [0, 1] rfl
  have hDc := hD.sub (ws' := [(h0, .inr (10, [.ref b0, .int 0, .ref p0, .ref u0, .ref r0, .ref a0, .ref t0, .ref s0, .ref o0])), (p0, .inr (7, [.int 0, .int 365, .int 0, .int 0, .ref p1, .int 0, .ref p2, .ref p3, .ref p4, .ref p5, .int 0, .ref p6, .int 0, .ref p7, .ref p8, .ref p9, .int 0]))]) [0, 1] (by decide) rfl
  have hFc := va_free (wc := [(h0, .inr (10, [.ref b0, .int 0, .ref p0, .ref u0, .ref r0, .ref a0, .ref t0, .ref s0, .ref o0])), (p0, .inr (7, [.int 0, .int 365, .int 0, .int 0, .ref p1, .int 0, .ref p2, .ref p3, .ref p4, .ref p5, .int 0, .ref p6, .int 0, .ref p7, .ref p8, .ref p9, .int 0]))]) hD hS hA [0, 1] rfl
  refine vx_callv (vx_runV (As := [.int i]) (rest := []) ⟨hx, hb, hml, hown, hts⟩ (c_needMilestone_thr l D cA sa h0 b0 p0 u0 r0 a0 t0 s0 o0 p1 p2 p3 p4 p5 p6 p7 p8 p9 i s.heap.size hl9) (cwV 1 hts gX9_state_X9_needMilestone rfl rfl rfl (by decide +kernel) ⟨(Nat.le_of_ble_eq_true rfl), (Nat.le_of_ble_eq_true rfl)⟩) ⟨Wd.blind, va_recv hK hPc (ci := 10) (q0 := 0) rfl rfl, fun U hU hW => ⟨rfl, Wd.call hPc hDc hK hC hZ hS hFc U hU hW⟩⟩ rfl rfl hl.1 rfl (lv_room (Nat.le_of_ble_eq_true rfl)) dX9_state_2 ⟨(Nat.le_of_ble_eq_true rfl), (Nat.le_of_ble_eq_true rfl)⟩) hS (fun q _ h => hFc q h) hFc (fun q _ h => hFc q h) (fun E ce q9 u t H1 locs ht hvm hpx hE hz1 hk1 hS hcell hv9 hcl => ?_) (fun u t H1 locs ht hvm hw hB hz1 hk1 hS => hw.elim)
  exact vx_out (fun x h => (hno x h).elim) hlocks hcell hv9 hcl (fun t ht hvm => ⟨(), trivial, hE, hS.F ht⟩) hS.2.2 (Nat.le_of_ble_eq_true rfl) (Nat.le_of_ble_eq_true rfl)

set_option maxHeartbeats 4000000 in
set_option maxRecDepth 100000 in
/-- paid: there is no such thing -/
theorem c_paid_thr (l : Launch) (D : va_G) (cA : Nat → ClassId) (sa : Nat → Nat) (h0 b0 p0 u0 r0 a0 t0 s0 o0 p1 p2 p3 p4 p5 p6 p7 p8 p9 : Nat) (i : Int32) (sz : Nat) (hl9 : l.stackTraces = false) : vx_Met l yX9_paid wsX9_paid ({ frames := 8, cells := 1, slots := 6, locals := 132 }) (va_Pc [.ref h0, .int i] (Wd D cA sa [(h0, .inr (10, [.ref b0, .int 0, .ref p0, .ref u0, .ref r0, .ref a0, .ref t0, .ref s0, .ref o0])), (p0, .inr (7, [.int 0, .int 365, .int 0, .int 0, .ref p1, .int 0, .ref p2, .ref p3, .ref p4, .ref p5, .int 0, .ref p6, .int 0, .ref p7, .ref p8, .ref p9, .int 0]))] sz)) (va_Qi (fun (_ : Int32) (_ : Unit) => False) (fun (_ : Unit) _ => True) (va_A [(h0, .inr (10, [.ref b0, .int 0, .ref p0, .ref u0, .ref r0, .ref a0, .ref t0, .ref s0, .ref o0])), (p0, .inr (7, [.int 0, .int 365, .int 0, .int 0, .ref p1, .int 0, .ref p2, .ref p3, .ref p4, .ref p5, .int 0, .ref p6, .int 0, .ref p7, .ref p8, .ref p9, .int 0]))] sz)) (vx_X (fun _ : Unit => True) (fun E _ _ => E = "java/lang/IndexOutOfBoundsException") (va_A [(h0, .inr (10, [.ref b0, .int 0, .ref p0, .ref u0, .ref r0, .ref a0, .ref t0, .ref s0, .ref o0])), (p0, .inr (7, [.int 0, .int 365, .int 0, .int 0, .ref p1, .int 0, .ref p2, .ref p3, .ref p4, .ref p5, .int 0, .ref p6, .int 0, .ref p7, .ref p8, .ref p9, .int 0]))] sz)) 1 6 (va_A [(h0, .inr (10, [.ref b0, .int 0, .ref p0, .ref u0, .ref r0, .ref a0, .ref t0, .ref s0, .ref o0])), (p0, .inr (7, [.int 0, .int 365, .int 0, .int 0, .ref p1, .int 0, .ref p2, .ref p3, .ref p4, .ref p5, .int 0, .ref p6, .int 0, .ref p7, .ref p8, .ref p9, .int 0]))] sz) := by
  refine vx_ofW (cc := cX9_paid) (maxL := 2) (ret := (some .int)) (by decide) rfl ?_
  intro p e s m args below meth c s₁ B hml hno hv
  obtain ⟨rfl, hsz, hP, hK, hD0, hC, hZ⟩ := hv
  have hx := B.exec
  have hb := B.bytes
  have hr := B.returns
  have hts := atoms_spec (ws := wsX9_paid) B.pre
  have hown : s.vm.findClass RX9 = some m.cls := findClass_of_methodNamed B.named
  have hlocks := B.notSynchronized
  subst hsz
  have hD := hD0.self (sz := s.heap.size)
  generalize hAe : va_A [(h0, .inr (10, [.ref b0, .int 0, .ref p0, .ref u0, .ref r0, .ref a0, .ref t0, .ref s0, .ref o0])), (p0, .inr (7, [.int 0, .int 365, .int 0, .int 0, .ref p1, .int 0, .ref p2, .ref p3, .ref p4, .ref p5, .int 0, .ref p6, .int 0, .ref p7, .ref p8, .ref p9, .int 0]))] s.heap.size = A at hD hZ ⊢
  have hA : ∀ q : Nat, s.heap.size ≤ q → A q := fun q h => by rw [← hAe]; exact Or.inr h
  have hS : va_S A s.heap s.heap [] := va_S.rf
  have hP : va_P D vwCl [(h0, .inr (10, [.ref b0, .int 0, .ref p0, .ref u0, .ref r0, .ref a0, .ref t0, .ref s0, .ref o0])), (p0, .inr (7, [.int 0, .int 365, .int 0, .int 0, .ref p1, .int 0, .ref p2, .ref p3, .ref p4, .ref p5, .int 0, .ref p6, .int 0, .ref p7, .ref p8, .ref p9, .int 0]))] s.heap := hP
  have hl := lv_entry ([.ref h0, .int i]) (n := 2) (Nat.le_of_ble_eq_true rfl)
  rw [lg_entry_eq]
  generalize (lg_sl ([.ref h0, .int i]) ++ List.replicate (2 - (lg_sl ([.ref h0, .int i])).length) Slot.unset).toArray = ls at hl ⊢
  have hl : lv_has ls 2 [(0, .ref h0), (1, .int i)] := hl
  refine lv_aload_n hx hb dX9_paid_0 rfl (lv_at hl 0 rfl) ?_
  refine lv_iload_n hx hb dX9_paid_1 rfl (lv_at hl 1 rfl) ?_
  have hPc := hP.sub (ws' := [(h0, .inr (10, [.ref b0, .int 0, .ref p0, .ref u0, .ref r0, .ref a0, .ref t0, .ref s0, .ref o0])), (p0, .inr (7, [.int 0, .int 365, .int 0, .int 0, .ref p1, .int 0, .ref p2, .ref p3, .ref p4, .ref p5, .int 0, .ref p6, .int 0, .ref p7, .ref p8, .ref p9, .int 0]))]) [0, 1] rfl
  have hDc := hD.sub (ws' := [(h0, .inr (10, [.ref b0, .int 0, .ref p0, .ref u0, .ref r0, .ref a0, .ref t0, .ref s0, .ref o0])), (p0, .inr (7, [.int 0, .int 365, .int 0, .int 0, .ref p1, .int 0, .ref p2, .ref p3, .ref p4, .ref p5, .int 0, .ref p6, .int 0, .ref p7, .ref p8, .ref p9, .int 0]))]) [0, 1] (by decide) rfl
  have hFc := va_free (wc := [(h0, .inr (10, [.ref b0, .int 0, .ref p0, .ref u0, .ref r0, .ref a0, .ref t0, .ref s0, .ref o0])), (p0, .inr (7, [.int 0, .int 365, .int 0, .int 0, .ref p1, .int 0, .ref p2, .ref p3, .ref p4, .ref p5, .int 0, .ref p6, .int 0, .ref p7, .ref p8, .ref p9, .int 0]))]) hD hS hA [0, 1] rfl
  refine vx_callv (vx_runV (As := [.int i]) (rest := []) ⟨hx, hb, hml, hown, hts⟩ (c_needMilestone_thr l D cA sa h0 b0 p0 u0 r0 a0 t0 s0 o0 p1 p2 p3 p4 p5 p6 p7 p8 p9 i s.heap.size hl9) (cwV 1 hts gX9_paid_X9_needMilestone rfl rfl rfl (by decide +kernel) ⟨(Nat.le_of_ble_eq_true rfl), (Nat.le_of_ble_eq_true rfl)⟩) ⟨Wd.blind, va_recv hK hPc (ci := 10) (q0 := 0) rfl rfl, fun U hU hW => ⟨rfl, Wd.call hPc hDc hK hC hZ hS hFc U hU hW⟩⟩ rfl rfl hl.1 rfl (lv_room (Nat.le_of_ble_eq_true rfl)) dX9_paid_2 ⟨(Nat.le_of_ble_eq_true rfl), (Nat.le_of_ble_eq_true rfl)⟩) hS (fun q _ h => hFc q h) hFc (fun q _ h => hFc q h) (fun E ce q9 u t H1 locs ht hvm hpx hE hz1 hk1 hS hcell hv9 hcl => ?_) (fun u t H1 locs ht hvm hw hB hz1 hk1 hS => hw.elim)
  exact vx_out (fun x h => (hno x h).elim) hlocks hcell hv9 hcl (fun t ht hvm => ⟨(), trivial, hE, hS.F ht⟩) hS.2.2 (Nat.le_of_ble_eq_true rfl) (Nat.le_of_ble_eq_true rfl)

set_option maxHeartbeats 4000000 in
set_option maxRecDepth 100000 in
/-- remaining: there is no such thing -/
theorem c_remaining_thr (l : Launch) (D : va_G) (cA : Nat → ClassId) (sa : Nat → Nat) (h0 b0 p0 u0 r0 a0 t0 s0 o0 p1 p2 p3 p4 p5 p6 p7 p8 p9 : Nat) (i : Int32) (sz : Nat) (hl9 : l.stackTraces = false) : vx_Met l yX9_remaining wsX9_remaining ({ frames := 8, cells := 1, slots := 6, locals := 132 }) (va_Pc [.ref h0, .int i] (Wd D cA sa [(h0, .inr (10, [.ref b0, .int 0, .ref p0, .ref u0, .ref r0, .ref a0, .ref t0, .ref s0, .ref o0])), (p0, .inr (7, [.int 0, .int 365, .int 0, .int 0, .ref p1, .int 0, .ref p2, .ref p3, .ref p4, .ref p5, .int 0, .ref p6, .int 0, .ref p7, .ref p8, .ref p9, .int 0]))] sz)) (va_Qi (fun (_ : Int32) (_ : Unit) => False) (fun (_ : Unit) _ => True) (va_A [(h0, .inr (10, [.ref b0, .int 0, .ref p0, .ref u0, .ref r0, .ref a0, .ref t0, .ref s0, .ref o0])), (p0, .inr (7, [.int 0, .int 365, .int 0, .int 0, .ref p1, .int 0, .ref p2, .ref p3, .ref p4, .ref p5, .int 0, .ref p6, .int 0, .ref p7, .ref p8, .ref p9, .int 0]))] sz)) (vx_X (fun _ : Unit => True) (fun E _ _ => E = "java/lang/IndexOutOfBoundsException") (va_A [(h0, .inr (10, [.ref b0, .int 0, .ref p0, .ref u0, .ref r0, .ref a0, .ref t0, .ref s0, .ref o0])), (p0, .inr (7, [.int 0, .int 365, .int 0, .int 0, .ref p1, .int 0, .ref p2, .ref p3, .ref p4, .ref p5, .int 0, .ref p6, .int 0, .ref p7, .ref p8, .ref p9, .int 0]))] sz)) 1 6 (va_A [(h0, .inr (10, [.ref b0, .int 0, .ref p0, .ref u0, .ref r0, .ref a0, .ref t0, .ref s0, .ref o0])), (p0, .inr (7, [.int 0, .int 365, .int 0, .int 0, .ref p1, .int 0, .ref p2, .ref p3, .ref p4, .ref p5, .int 0, .ref p6, .int 0, .ref p7, .ref p8, .ref p9, .int 0]))] sz) := by
  refine vx_ofW (cc := cX9_remaining) (maxL := 2) (ret := (some .int)) (by decide) rfl ?_
  intro p e s m args below meth c s₁ B hml hno hv
  obtain ⟨rfl, hsz, hP, hK, hD0, hC, hZ⟩ := hv
  have hx := B.exec
  have hb := B.bytes
  have hr := B.returns
  have hts := atoms_spec (ws := wsX9_remaining) B.pre
  have hown : s.vm.findClass RX9 = some m.cls := findClass_of_methodNamed B.named
  have hlocks := B.notSynchronized
  subst hsz
  have hD := hD0.self (sz := s.heap.size)
  generalize hAe : va_A [(h0, .inr (10, [.ref b0, .int 0, .ref p0, .ref u0, .ref r0, .ref a0, .ref t0, .ref s0, .ref o0])), (p0, .inr (7, [.int 0, .int 365, .int 0, .int 0, .ref p1, .int 0, .ref p2, .ref p3, .ref p4, .ref p5, .int 0, .ref p6, .int 0, .ref p7, .ref p8, .ref p9, .int 0]))] s.heap.size = A at hD hZ ⊢
  have hA : ∀ q : Nat, s.heap.size ≤ q → A q := fun q h => by rw [← hAe]; exact Or.inr h
  have hS : va_S A s.heap s.heap [] := va_S.rf
  have hP : va_P D vwCl [(h0, .inr (10, [.ref b0, .int 0, .ref p0, .ref u0, .ref r0, .ref a0, .ref t0, .ref s0, .ref o0])), (p0, .inr (7, [.int 0, .int 365, .int 0, .int 0, .ref p1, .int 0, .ref p2, .ref p3, .ref p4, .ref p5, .int 0, .ref p6, .int 0, .ref p7, .ref p8, .ref p9, .int 0]))] s.heap := hP
  have hl := lv_entry ([.ref h0, .int i]) (n := 2) (Nat.le_of_ble_eq_true rfl)
  rw [lg_entry_eq]
  generalize (lg_sl ([.ref h0, .int i]) ++ List.replicate (2 - (lg_sl ([.ref h0, .int i])).length) Slot.unset).toArray = ls at hl ⊢
  have hl : lv_has ls 2 [(0, .ref h0), (1, .int i)] := hl
  refine lv_aload_n hx hb dX9_remaining_0 rfl (lv_at hl 0 rfl) ?_
  refine lv_iload_n hx hb dX9_remaining_1 rfl (lv_at hl 1 rfl) ?_
  have hPc := hP.sub (ws' := [(h0, .inr (10, [.ref b0, .int 0, .ref p0, .ref u0, .ref r0, .ref a0, .ref t0, .ref s0, .ref o0])), (p0, .inr (7, [.int 0, .int 365, .int 0, .int 0, .ref p1, .int 0, .ref p2, .ref p3, .ref p4, .ref p5, .int 0, .ref p6, .int 0, .ref p7, .ref p8, .ref p9, .int 0]))]) [0, 1] rfl
  have hDc := hD.sub (ws' := [(h0, .inr (10, [.ref b0, .int 0, .ref p0, .ref u0, .ref r0, .ref a0, .ref t0, .ref s0, .ref o0])), (p0, .inr (7, [.int 0, .int 365, .int 0, .int 0, .ref p1, .int 0, .ref p2, .ref p3, .ref p4, .ref p5, .int 0, .ref p6, .int 0, .ref p7, .ref p8, .ref p9, .int 0]))]) [0, 1] (by decide) rfl
  have hFc := va_free (wc := [(h0, .inr (10, [.ref b0, .int 0, .ref p0, .ref u0, .ref r0, .ref a0, .ref t0, .ref s0, .ref o0])), (p0, .inr (7, [.int 0, .int 365, .int 0, .int 0, .ref p1, .int 0, .ref p2, .ref p3, .ref p4, .ref p5, .int 0, .ref p6, .int 0, .ref p7, .ref p8, .ref p9, .int 0]))]) hD hS hA [0, 1] rfl
  refine vx_callv (vx_runV (As := [.int i]) (rest := []) ⟨hx, hb, hml, hown, hts⟩ (c_needMilestone_thr l D cA sa h0 b0 p0 u0 r0 a0 t0 s0 o0 p1 p2 p3 p4 p5 p6 p7 p8 p9 i s.heap.size hl9) (cwV 1 hts gX9_remaining_X9_needMilestone rfl rfl rfl (by decide +kernel) ⟨(Nat.le_of_ble_eq_true rfl), (Nat.le_of_ble_eq_true rfl)⟩) ⟨Wd.blind, va_recv hK hPc (ci := 10) (q0 := 0) rfl rfl, fun U hU hW => ⟨rfl, Wd.call hPc hDc hK hC hZ hS hFc U hU hW⟩⟩ rfl rfl hl.1 rfl (lv_room (Nat.le_of_ble_eq_true rfl)) dX9_remaining_2 ⟨(Nat.le_of_ble_eq_true rfl), (Nat.le_of_ble_eq_true rfl)⟩) hS (fun q _ h => hFc q h) hFc (fun q _ h => hFc q h) (fun E ce q9 u t H1 locs ht hvm hpx hE hz1 hk1 hS hcell hv9 hcl => ?_) (fun u t H1 locs ht hvm hw hB hz1 hk1 hS => hw.elim)
  exact vx_out (fun x h => (hno x h).elim) hlocks hcell hv9 hcl (fun t ht hvm => ⟨(), trivial, hE, hS.F ht⟩) hS.2.2 (Nat.le_of_ble_eq_true rfl) (Nat.le_of_ble_eq_true rfl)

set_option maxHeartbeats 4000000 in
set_option maxRecDepth 100000 in
/-- frozen: there is no such thing -/
theorem c_frozen_thr (l : Launch) (D : va_G) (cA : Nat → ClassId) (sa : Nat → Nat) (h0 b0 p0 u0 r0 a0 t0 s0 o0 p1 p2 p3 p4 p5 p6 p7 p8 p9 : Nat) (i : Int32) (sz : Nat) (hl9 : l.stackTraces = false) : vx_Met l yX9_frozen wsX9_frozen ({ frames := 8, cells := 1, slots := 6, locals := 132 }) (va_Pc [.ref h0, .int i] (Wd D cA sa [(h0, .inr (10, [.ref b0, .int 0, .ref p0, .ref u0, .ref r0, .ref a0, .ref t0, .ref s0, .ref o0])), (p0, .inr (7, [.int 0, .int 365, .int 0, .int 0, .ref p1, .int 0, .ref p2, .ref p3, .ref p4, .ref p5, .int 0, .ref p6, .int 0, .ref p7, .ref p8, .ref p9, .int 0]))] sz)) (va_Qi (fun (_ : Int32) (_ : Unit) => False) (fun (_ : Unit) _ => True) (va_A [(h0, .inr (10, [.ref b0, .int 0, .ref p0, .ref u0, .ref r0, .ref a0, .ref t0, .ref s0, .ref o0])), (p0, .inr (7, [.int 0, .int 365, .int 0, .int 0, .ref p1, .int 0, .ref p2, .ref p3, .ref p4, .ref p5, .int 0, .ref p6, .int 0, .ref p7, .ref p8, .ref p9, .int 0]))] sz)) (vx_X (fun _ : Unit => True) (fun E _ _ => E = "java/lang/IndexOutOfBoundsException") (va_A [(h0, .inr (10, [.ref b0, .int 0, .ref p0, .ref u0, .ref r0, .ref a0, .ref t0, .ref s0, .ref o0])), (p0, .inr (7, [.int 0, .int 365, .int 0, .int 0, .ref p1, .int 0, .ref p2, .ref p3, .ref p4, .ref p5, .int 0, .ref p6, .int 0, .ref p7, .ref p8, .ref p9, .int 0]))] sz)) 1 6 (va_A [(h0, .inr (10, [.ref b0, .int 0, .ref p0, .ref u0, .ref r0, .ref a0, .ref t0, .ref s0, .ref o0])), (p0, .inr (7, [.int 0, .int 365, .int 0, .int 0, .ref p1, .int 0, .ref p2, .ref p3, .ref p4, .ref p5, .int 0, .ref p6, .int 0, .ref p7, .ref p8, .ref p9, .int 0]))] sz) := by
  refine vx_ofW (cc := cX9_frozen) (maxL := 2) (ret := (some .int)) (by decide) rfl ?_
  intro p e s m args below meth c s₁ B hml hno hv
  obtain ⟨rfl, hsz, hP, hK, hD0, hC, hZ⟩ := hv
  have hx := B.exec
  have hb := B.bytes
  have hr := B.returns
  have hts := atoms_spec (ws := wsX9_frozen) B.pre
  have hown : s.vm.findClass RX9 = some m.cls := findClass_of_methodNamed B.named
  have hlocks := B.notSynchronized
  subst hsz
  have hD := hD0.self (sz := s.heap.size)
  generalize hAe : va_A [(h0, .inr (10, [.ref b0, .int 0, .ref p0, .ref u0, .ref r0, .ref a0, .ref t0, .ref s0, .ref o0])), (p0, .inr (7, [.int 0, .int 365, .int 0, .int 0, .ref p1, .int 0, .ref p2, .ref p3, .ref p4, .ref p5, .int 0, .ref p6, .int 0, .ref p7, .ref p8, .ref p9, .int 0]))] s.heap.size = A at hD hZ ⊢
  have hA : ∀ q : Nat, s.heap.size ≤ q → A q := fun q h => by rw [← hAe]; exact Or.inr h
  have hS : va_S A s.heap s.heap [] := va_S.rf
  have hP : va_P D vwCl [(h0, .inr (10, [.ref b0, .int 0, .ref p0, .ref u0, .ref r0, .ref a0, .ref t0, .ref s0, .ref o0])), (p0, .inr (7, [.int 0, .int 365, .int 0, .int 0, .ref p1, .int 0, .ref p2, .ref p3, .ref p4, .ref p5, .int 0, .ref p6, .int 0, .ref p7, .ref p8, .ref p9, .int 0]))] s.heap := hP
  have hl := lv_entry ([.ref h0, .int i]) (n := 2) (Nat.le_of_ble_eq_true rfl)
  rw [lg_entry_eq]
  generalize (lg_sl ([.ref h0, .int i]) ++ List.replicate (2 - (lg_sl ([.ref h0, .int i])).length) Slot.unset).toArray = ls at hl ⊢
  have hl : lv_has ls 2 [(0, .ref h0), (1, .int i)] := hl
  refine lv_aload_n hx hb dX9_frozen_0 rfl (lv_at hl 0 rfl) ?_
  refine lv_iload_n hx hb dX9_frozen_1 rfl (lv_at hl 1 rfl) ?_
  have hPc := hP.sub (ws' := [(h0, .inr (10, [.ref b0, .int 0, .ref p0, .ref u0, .ref r0, .ref a0, .ref t0, .ref s0, .ref o0])), (p0, .inr (7, [.int 0, .int 365, .int 0, .int 0, .ref p1, .int 0, .ref p2, .ref p3, .ref p4, .ref p5, .int 0, .ref p6, .int 0, .ref p7, .ref p8, .ref p9, .int 0]))]) [0, 1] rfl
  have hDc := hD.sub (ws' := [(h0, .inr (10, [.ref b0, .int 0, .ref p0, .ref u0, .ref r0, .ref a0, .ref t0, .ref s0, .ref o0])), (p0, .inr (7, [.int 0, .int 365, .int 0, .int 0, .ref p1, .int 0, .ref p2, .ref p3, .ref p4, .ref p5, .int 0, .ref p6, .int 0, .ref p7, .ref p8, .ref p9, .int 0]))]) [0, 1] (by decide) rfl
  have hFc := va_free (wc := [(h0, .inr (10, [.ref b0, .int 0, .ref p0, .ref u0, .ref r0, .ref a0, .ref t0, .ref s0, .ref o0])), (p0, .inr (7, [.int 0, .int 365, .int 0, .int 0, .ref p1, .int 0, .ref p2, .ref p3, .ref p4, .ref p5, .int 0, .ref p6, .int 0, .ref p7, .ref p8, .ref p9, .int 0]))]) hD hS hA [0, 1] rfl
  refine vx_callv (vx_runV (As := [.int i]) (rest := []) ⟨hx, hb, hml, hown, hts⟩ (c_needMilestone_thr l D cA sa h0 b0 p0 u0 r0 a0 t0 s0 o0 p1 p2 p3 p4 p5 p6 p7 p8 p9 i s.heap.size hl9) (cwV 1 hts gX9_frozen_X9_needMilestone rfl rfl rfl (by decide +kernel) ⟨(Nat.le_of_ble_eq_true rfl), (Nat.le_of_ble_eq_true rfl)⟩) ⟨Wd.blind, va_recv hK hPc (ci := 10) (q0 := 0) rfl rfl, fun U hU hW => ⟨rfl, Wd.call hPc hDc hK hC hZ hS hFc U hU hW⟩⟩ rfl rfl hl.1 rfl (lv_room (Nat.le_of_ble_eq_true rfl)) dX9_frozen_2 ⟨(Nat.le_of_ble_eq_true rfl), (Nat.le_of_ble_eq_true rfl)⟩) hS (fun q _ h => hFc q h) hFc (fun q _ h => hFc q h) (fun E ce q9 u t H1 locs ht hvm hpx hE hz1 hk1 hS hcell hv9 hcl => ?_) (fun u t H1 locs ht hvm hw hB hz1 hk1 hS => hw.elim)
  exact vx_out (fun x h => (hno x h).elim) hlocks hcell hv9 hcl (fun t ht hvm => ⟨(), trivial, hE, hS.F ht⟩) hS.2.2 (Nat.le_of_ble_eq_true rfl) (Nat.le_of_ble_eq_true rfl)

set_option maxHeartbeats 4000000 in
set_option maxRecDepth 100000 in
/-- dueDay: there is no such thing -/
theorem c_dueDay_thr (l : Launch) (D : va_G) (cA : Nat → ClassId) (sa : Nat → Nat) (h0 b0 p0 u0 r0 a0 t0 s0 o0 p1 p2 p3 p4 p5 p6 p7 p8 p9 : Nat) (i : Int32) (sz : Nat) (hl9 : l.stackTraces = false) : vx_Met l yX9_dueDay wsX9_dueDay ({ frames := 8, cells := 1, slots := 6, locals := 132 }) (va_Pc [.ref h0, .int i] (Wd D cA sa [(h0, .inr (10, [.ref b0, .int 0, .ref p0, .ref u0, .ref r0, .ref a0, .ref t0, .ref s0, .ref o0])), (p0, .inr (7, [.int 0, .int 365, .int 0, .int 0, .ref p1, .int 0, .ref p2, .ref p3, .ref p4, .ref p5, .int 0, .ref p6, .int 0, .ref p7, .ref p8, .ref p9, .int 0]))] sz)) (va_Qi (fun (_ : Int32) (_ : Unit) => False) (fun (_ : Unit) _ => True) (va_A [(h0, .inr (10, [.ref b0, .int 0, .ref p0, .ref u0, .ref r0, .ref a0, .ref t0, .ref s0, .ref o0])), (p0, .inr (7, [.int 0, .int 365, .int 0, .int 0, .ref p1, .int 0, .ref p2, .ref p3, .ref p4, .ref p5, .int 0, .ref p6, .int 0, .ref p7, .ref p8, .ref p9, .int 0]))] sz)) (vx_X (fun _ : Unit => True) (fun E _ _ => E = "java/lang/IndexOutOfBoundsException") (va_A [(h0, .inr (10, [.ref b0, .int 0, .ref p0, .ref u0, .ref r0, .ref a0, .ref t0, .ref s0, .ref o0])), (p0, .inr (7, [.int 0, .int 365, .int 0, .int 0, .ref p1, .int 0, .ref p2, .ref p3, .ref p4, .ref p5, .int 0, .ref p6, .int 0, .ref p7, .ref p8, .ref p9, .int 0]))] sz)) 1 6 (va_A [(h0, .inr (10, [.ref b0, .int 0, .ref p0, .ref u0, .ref r0, .ref a0, .ref t0, .ref s0, .ref o0])), (p0, .inr (7, [.int 0, .int 365, .int 0, .int 0, .ref p1, .int 0, .ref p2, .ref p3, .ref p4, .ref p5, .int 0, .ref p6, .int 0, .ref p7, .ref p8, .ref p9, .int 0]))] sz) := by
  refine vx_ofW (cc := cX9_dueDay) (maxL := 2) (ret := (some .int)) (by decide) rfl ?_
  intro p e s m args below meth c s₁ B hml hno hv
  obtain ⟨rfl, hsz, hP, hK, hD0, hC, hZ⟩ := hv
  have hx := B.exec
  have hb := B.bytes
  have hr := B.returns
  have hts := atoms_spec (ws := wsX9_dueDay) B.pre
  have hown : s.vm.findClass RX9 = some m.cls := findClass_of_methodNamed B.named
  have hlocks := B.notSynchronized
  subst hsz
  have hD := hD0.self (sz := s.heap.size)
  generalize hAe : va_A [(h0, .inr (10, [.ref b0, .int 0, .ref p0, .ref u0, .ref r0, .ref a0, .ref t0, .ref s0, .ref o0])), (p0, .inr (7, [.int 0, .int 365, .int 0, .int 0, .ref p1, .int 0, .ref p2, .ref p3, .ref p4, .ref p5, .int 0, .ref p6, .int 0, .ref p7, .ref p8, .ref p9, .int 0]))] s.heap.size = A at hD hZ ⊢
  have hA : ∀ q : Nat, s.heap.size ≤ q → A q := fun q h => by rw [← hAe]; exact Or.inr h
  have hS : va_S A s.heap s.heap [] := va_S.rf
  have hP : va_P D vwCl [(h0, .inr (10, [.ref b0, .int 0, .ref p0, .ref u0, .ref r0, .ref a0, .ref t0, .ref s0, .ref o0])), (p0, .inr (7, [.int 0, .int 365, .int 0, .int 0, .ref p1, .int 0, .ref p2, .ref p3, .ref p4, .ref p5, .int 0, .ref p6, .int 0, .ref p7, .ref p8, .ref p9, .int 0]))] s.heap := hP
  have hl := lv_entry ([.ref h0, .int i]) (n := 2) (Nat.le_of_ble_eq_true rfl)
  rw [lg_entry_eq]
  generalize (lg_sl ([.ref h0, .int i]) ++ List.replicate (2 - (lg_sl ([.ref h0, .int i])).length) Slot.unset).toArray = ls at hl ⊢
  have hl : lv_has ls 2 [(0, .ref h0), (1, .int i)] := hl
  refine lv_aload_n hx hb dX9_dueDay_0 rfl (lv_at hl 0 rfl) ?_
  refine lv_iload_n hx hb dX9_dueDay_1 rfl (lv_at hl 1 rfl) ?_
  have hPc := hP.sub (ws' := [(h0, .inr (10, [.ref b0, .int 0, .ref p0, .ref u0, .ref r0, .ref a0, .ref t0, .ref s0, .ref o0])), (p0, .inr (7, [.int 0, .int 365, .int 0, .int 0, .ref p1, .int 0, .ref p2, .ref p3, .ref p4, .ref p5, .int 0, .ref p6, .int 0, .ref p7, .ref p8, .ref p9, .int 0]))]) [0, 1] rfl
  have hDc := hD.sub (ws' := [(h0, .inr (10, [.ref b0, .int 0, .ref p0, .ref u0, .ref r0, .ref a0, .ref t0, .ref s0, .ref o0])), (p0, .inr (7, [.int 0, .int 365, .int 0, .int 0, .ref p1, .int 0, .ref p2, .ref p3, .ref p4, .ref p5, .int 0, .ref p6, .int 0, .ref p7, .ref p8, .ref p9, .int 0]))]) [0, 1] (by decide) rfl
  have hFc := va_free (wc := [(h0, .inr (10, [.ref b0, .int 0, .ref p0, .ref u0, .ref r0, .ref a0, .ref t0, .ref s0, .ref o0])), (p0, .inr (7, [.int 0, .int 365, .int 0, .int 0, .ref p1, .int 0, .ref p2, .ref p3, .ref p4, .ref p5, .int 0, .ref p6, .int 0, .ref p7, .ref p8, .ref p9, .int 0]))]) hD hS hA [0, 1] rfl
  refine vx_callv (vx_runV (As := [.int i]) (rest := []) ⟨hx, hb, hml, hown, hts⟩ (c_needMilestone_thr l D cA sa h0 b0 p0 u0 r0 a0 t0 s0 o0 p1 p2 p3 p4 p5 p6 p7 p8 p9 i s.heap.size hl9) (cwV 1 hts gX9_dueDay_X9_needMilestone rfl rfl rfl (by decide +kernel) ⟨(Nat.le_of_ble_eq_true rfl), (Nat.le_of_ble_eq_true rfl)⟩) ⟨Wd.blind, va_recv hK hPc (ci := 10) (q0 := 0) rfl rfl, fun U hU hW => ⟨rfl, Wd.call hPc hDc hK hC hZ hS hFc U hU hW⟩⟩ rfl rfl hl.1 rfl (lv_room (Nat.le_of_ble_eq_true rfl)) dX9_dueDay_2 ⟨(Nat.le_of_ble_eq_true rfl), (Nat.le_of_ble_eq_true rfl)⟩) hS (fun q _ h => hFc q h) hFc (fun q _ h => hFc q h) (fun E ce q9 u t H1 locs ht hvm hpx hE hz1 hk1 hS hcell hv9 hcl => ?_) (fun u t H1 locs ht hvm hw hB hz1 hk1 hS => hw.elim)
  exact vx_out (fun x h => (hno x h).elim) hlocks hcell hv9 hcl (fun t ht hvm => ⟨(), trivial, hE, hS.F ht⟩) hS.2.2 (Nat.le_of_ble_eq_true rfl) (Nat.le_of_ble_eq_true rfl)

set_option maxHeartbeats 4000000 in
set_option maxRecDepth 100000 in
/-- holds: there is no such thing -/
theorem c_holds_thr (l : Launch) (D : va_G) (cA : Nat → ClassId) (sa : Nat → Nat) (h0 b0 p0 u0 r0 a0 t0 s0 o0 p1 p2 p3 p4 p5 p6 p7 p8 p9 : Nat) (i : Int32) (sz : Nat) (hl9 : l.stackTraces = false) : vx_Met l yX9_holds wsX9_holds ({ frames := 8, cells := 1, slots := 6, locals := 132 }) (va_Pc [.ref h0, .int i] (Wd D cA sa [(h0, .inr (10, [.ref b0, .int 0, .ref p0, .ref u0, .ref r0, .ref a0, .ref t0, .ref s0, .ref o0])), (p0, .inr (7, [.int 0, .int 365, .int 0, .int 0, .ref p1, .int 0, .ref p2, .ref p3, .ref p4, .ref p5, .int 0, .ref p6, .int 0, .ref p7, .ref p8, .ref p9, .int 0]))] sz)) (va_Qi (fun (_ : Int32) (_ : Unit) => False) (fun (_ : Unit) _ => True) (va_A [(h0, .inr (10, [.ref b0, .int 0, .ref p0, .ref u0, .ref r0, .ref a0, .ref t0, .ref s0, .ref o0])), (p0, .inr (7, [.int 0, .int 365, .int 0, .int 0, .ref p1, .int 0, .ref p2, .ref p3, .ref p4, .ref p5, .int 0, .ref p6, .int 0, .ref p7, .ref p8, .ref p9, .int 0]))] sz)) (vx_X (fun _ : Unit => True) (fun E _ _ => E = "java/lang/IndexOutOfBoundsException") (va_A [(h0, .inr (10, [.ref b0, .int 0, .ref p0, .ref u0, .ref r0, .ref a0, .ref t0, .ref s0, .ref o0])), (p0, .inr (7, [.int 0, .int 365, .int 0, .int 0, .ref p1, .int 0, .ref p2, .ref p3, .ref p4, .ref p5, .int 0, .ref p6, .int 0, .ref p7, .ref p8, .ref p9, .int 0]))] sz)) 1 6 (va_A [(h0, .inr (10, [.ref b0, .int 0, .ref p0, .ref u0, .ref r0, .ref a0, .ref t0, .ref s0, .ref o0])), (p0, .inr (7, [.int 0, .int 365, .int 0, .int 0, .ref p1, .int 0, .ref p2, .ref p3, .ref p4, .ref p5, .int 0, .ref p6, .int 0, .ref p7, .ref p8, .ref p9, .int 0]))] sz) := by
  refine vx_ofW (cc := cX9_holds) (maxL := 2) (ret := (some .boolean)) (by decide) rfl ?_
  intro p e s m args below meth c s₁ B hml hno hv
  obtain ⟨rfl, hsz, hP, hK, hD0, hC, hZ⟩ := hv
  have hx := B.exec
  have hb := B.bytes
  have hr := B.returns
  have hts := atoms_spec (ws := wsX9_holds) B.pre
  have hown : s.vm.findClass RX9 = some m.cls := findClass_of_methodNamed B.named
  have hlocks := B.notSynchronized
  subst hsz
  have hD := hD0.self (sz := s.heap.size)
  generalize hAe : va_A [(h0, .inr (10, [.ref b0, .int 0, .ref p0, .ref u0, .ref r0, .ref a0, .ref t0, .ref s0, .ref o0])), (p0, .inr (7, [.int 0, .int 365, .int 0, .int 0, .ref p1, .int 0, .ref p2, .ref p3, .ref p4, .ref p5, .int 0, .ref p6, .int 0, .ref p7, .ref p8, .ref p9, .int 0]))] s.heap.size = A at hD hZ ⊢
  have hA : ∀ q : Nat, s.heap.size ≤ q → A q := fun q h => by rw [← hAe]; exact Or.inr h
  have hS : va_S A s.heap s.heap [] := va_S.rf
  have hP : va_P D vwCl [(h0, .inr (10, [.ref b0, .int 0, .ref p0, .ref u0, .ref r0, .ref a0, .ref t0, .ref s0, .ref o0])), (p0, .inr (7, [.int 0, .int 365, .int 0, .int 0, .ref p1, .int 0, .ref p2, .ref p3, .ref p4, .ref p5, .int 0, .ref p6, .int 0, .ref p7, .ref p8, .ref p9, .int 0]))] s.heap := hP
  have hl := lv_entry ([.ref h0, .int i]) (n := 2) (Nat.le_of_ble_eq_true rfl)
  rw [lg_entry_eq]
  generalize (lg_sl ([.ref h0, .int i]) ++ List.replicate (2 - (lg_sl ([.ref h0, .int i])).length) Slot.unset).toArray = ls at hl ⊢
  have hl : lv_has ls 2 [(0, .ref h0), (1, .int i)] := hl
  refine lv_aload_n hx hb dX9_holds_0 rfl (lv_at hl 0 rfl) ?_
  refine lv_iload_n hx hb dX9_holds_1 rfl (lv_at hl 1 rfl) ?_
  have hPc := hP.sub (ws' := [(h0, .inr (10, [.ref b0, .int 0, .ref p0, .ref u0, .ref r0, .ref a0, .ref t0, .ref s0, .ref o0])), (p0, .inr (7, [.int 0, .int 365, .int 0, .int 0, .ref p1, .int 0, .ref p2, .ref p3, .ref p4, .ref p5, .int 0, .ref p6, .int 0, .ref p7, .ref p8, .ref p9, .int 0]))]) [0, 1] rfl
  have hDc := hD.sub (ws' := [(h0, .inr (10, [.ref b0, .int 0, .ref p0, .ref u0, .ref r0, .ref a0, .ref t0, .ref s0, .ref o0])), (p0, .inr (7, [.int 0, .int 365, .int 0, .int 0, .ref p1, .int 0, .ref p2, .ref p3, .ref p4, .ref p5, .int 0, .ref p6, .int 0, .ref p7, .ref p8, .ref p9, .int 0]))]) [0, 1] (by decide) rfl
  have hFc := va_free (wc := [(h0, .inr (10, [.ref b0, .int 0, .ref p0, .ref u0, .ref r0, .ref a0, .ref t0, .ref s0, .ref o0])), (p0, .inr (7, [.int 0, .int 365, .int 0, .int 0, .ref p1, .int 0, .ref p2, .ref p3, .ref p4, .ref p5, .int 0, .ref p6, .int 0, .ref p7, .ref p8, .ref p9, .int 0]))]) hD hS hA [0, 1] rfl
  refine vx_callv (vx_runV (As := [.int i]) (rest := []) ⟨hx, hb, hml, hown, hts⟩ (c_needMilestone_thr l D cA sa h0 b0 p0 u0 r0 a0 t0 s0 o0 p1 p2 p3 p4 p5 p6 p7 p8 p9 i s.heap.size hl9) (cwV 1 hts gX9_holds_X9_needMilestone rfl rfl rfl (by decide +kernel) ⟨(Nat.le_of_ble_eq_true rfl), (Nat.le_of_ble_eq_true rfl)⟩) ⟨Wd.blind, va_recv hK hPc (ci := 10) (q0 := 0) rfl rfl, fun U hU hW => ⟨rfl, Wd.call hPc hDc hK hC hZ hS hFc U hU hW⟩⟩ rfl rfl hl.1 rfl (lv_room (Nat.le_of_ble_eq_true rfl)) dX9_holds_2 ⟨(Nat.le_of_ble_eq_true rfl), (Nat.le_of_ble_eq_true rfl)⟩) hS (fun q _ h => hFc q h) hFc (fun q _ h => hFc q h) (fun E ce q9 u t H1 locs ht hvm hpx hE hz1 hk1 hS hcell hv9 hcl => ?_) (fun u t H1 locs ht hvm hw hB hz1 hk1 hS => hw.elim)
  exact vx_out (fun x h => (hno x h).elim) hlocks hcell hv9 hcl (fun t ht hvm => ⟨(), trivial, hE, hS.F ht⟩) hS.2.2 (Nat.le_of_ble_eq_true rfl) (Nat.le_of_ble_eq_true rfl)

set_option maxHeartbeats 4000000 in
set_option maxRecDepth 100000 in
/-- dayByClock: there is no such thing -/
theorem c_dayByClock_thr (l : Launch) (D : va_G) (cA : Nat → ClassId) (sa : Nat → Nat) (h0 b0 p0 u0 r0 a0 t0 s0 o0 p1 p2 p3 p4 p5 p6 p7 p8 p9 : Nat) (i : Int32) (sz : Nat) (hl9 : l.stackTraces = false) : vx_Met l yX9_dayByClock wsX9_dayByClock ({ frames := 8, cells := 1, slots := 6, locals := 132 }) (va_Pc [.ref h0, .int i] (Wd D cA sa [(h0, .inr (10, [.ref b0, .int 0, .ref p0, .ref u0, .ref r0, .ref a0, .ref t0, .ref s0, .ref o0])), (p0, .inr (7, [.int 0, .int 365, .int 0, .int 0, .ref p1, .int 0, .ref p2, .ref p3, .ref p4, .ref p5, .int 0, .ref p6, .int 0, .ref p7, .ref p8, .ref p9, .int 0]))] sz)) (va_Qi (fun (_ : Int32) (_ : Unit) => False) (fun (_ : Unit) _ => True) (va_A [(h0, .inr (10, [.ref b0, .int 0, .ref p0, .ref u0, .ref r0, .ref a0, .ref t0, .ref s0, .ref o0])), (p0, .inr (7, [.int 0, .int 365, .int 0, .int 0, .ref p1, .int 0, .ref p2, .ref p3, .ref p4, .ref p5, .int 0, .ref p6, .int 0, .ref p7, .ref p8, .ref p9, .int 0]))] sz)) (vx_X (fun _ : Unit => True) (fun E _ _ => E = "java/lang/IndexOutOfBoundsException") (va_A [(h0, .inr (10, [.ref b0, .int 0, .ref p0, .ref u0, .ref r0, .ref a0, .ref t0, .ref s0, .ref o0])), (p0, .inr (7, [.int 0, .int 365, .int 0, .int 0, .ref p1, .int 0, .ref p2, .ref p3, .ref p4, .ref p5, .int 0, .ref p6, .int 0, .ref p7, .ref p8, .ref p9, .int 0]))] sz)) 1 6 (va_A [(h0, .inr (10, [.ref b0, .int 0, .ref p0, .ref u0, .ref r0, .ref a0, .ref t0, .ref s0, .ref o0])), (p0, .inr (7, [.int 0, .int 365, .int 0, .int 0, .ref p1, .int 0, .ref p2, .ref p3, .ref p4, .ref p5, .int 0, .ref p6, .int 0, .ref p7, .ref p8, .ref p9, .int 0]))] sz) := by
  refine vx_ofW (cc := cX9_dayByClock) (maxL := 5) (ret := (some .int)) (by decide) rfl ?_
  intro p e s m args below meth c s₁ B hml hno hv
  obtain ⟨rfl, hsz, hP, hK, hD0, hC, hZ⟩ := hv
  have hx := B.exec
  have hb := B.bytes
  have hr := B.returns
  have hts := atoms_spec (ws := wsX9_dayByClock) B.pre
  have hown : s.vm.findClass RX9 = some m.cls := findClass_of_methodNamed B.named
  have hlocks := B.notSynchronized
  subst hsz
  have hD := hD0.self (sz := s.heap.size)
  generalize hAe : va_A [(h0, .inr (10, [.ref b0, .int 0, .ref p0, .ref u0, .ref r0, .ref a0, .ref t0, .ref s0, .ref o0])), (p0, .inr (7, [.int 0, .int 365, .int 0, .int 0, .ref p1, .int 0, .ref p2, .ref p3, .ref p4, .ref p5, .int 0, .ref p6, .int 0, .ref p7, .ref p8, .ref p9, .int 0]))] s.heap.size = A at hD hZ ⊢
  have hA : ∀ q : Nat, s.heap.size ≤ q → A q := fun q h => by rw [← hAe]; exact Or.inr h
  have hS : va_S A s.heap s.heap [] := va_S.rf
  have hP : va_P D vwCl [(h0, .inr (10, [.ref b0, .int 0, .ref p0, .ref u0, .ref r0, .ref a0, .ref t0, .ref s0, .ref o0])), (p0, .inr (7, [.int 0, .int 365, .int 0, .int 0, .ref p1, .int 0, .ref p2, .ref p3, .ref p4, .ref p5, .int 0, .ref p6, .int 0, .ref p7, .ref p8, .ref p9, .int 0]))] s.heap := hP
  have hl := lv_entry ([.ref h0, .int i]) (n := 5) (Nat.le_of_ble_eq_true rfl)
  rw [lg_entry_eq]
  generalize (lg_sl ([.ref h0, .int i]) ++ List.replicate (5 - (lg_sl ([.ref h0, .int i])).length) Slot.unset).toArray = ls at hl ⊢
  have hl : lv_has ls 5 [(0, .ref h0), (1, .int i)] := hl
  refine lv_aload_n hx hb dX9_dayByClock_0 rfl (lv_at hl 0 rfl) ?_
  refine lv_iload_n hx hb dX9_dayByClock_1 rfl (lv_at hl 1 rfl) ?_
  have hPc := hP.sub (ws' := [(h0, .inr (10, [.ref b0, .int 0, .ref p0, .ref u0, .ref r0, .ref a0, .ref t0, .ref s0, .ref o0])), (p0, .inr (7, [.int 0, .int 365, .int 0, .int 0, .ref p1, .int 0, .ref p2, .ref p3, .ref p4, .ref p5, .int 0, .ref p6, .int 0, .ref p7, .ref p8, .ref p9, .int 0]))]) [0, 1] rfl
  have hDc := hD.sub (ws' := [(h0, .inr (10, [.ref b0, .int 0, .ref p0, .ref u0, .ref r0, .ref a0, .ref t0, .ref s0, .ref o0])), (p0, .inr (7, [.int 0, .int 365, .int 0, .int 0, .ref p1, .int 0, .ref p2, .ref p3, .ref p4, .ref p5, .int 0, .ref p6, .int 0, .ref p7, .ref p8, .ref p9, .int 0]))]) [0, 1] (by decide) rfl
  have hFc := va_free (wc := [(h0, .inr (10, [.ref b0, .int 0, .ref p0, .ref u0, .ref r0, .ref a0, .ref t0, .ref s0, .ref o0])), (p0, .inr (7, [.int 0, .int 365, .int 0, .int 0, .ref p1, .int 0, .ref p2, .ref p3, .ref p4, .ref p5, .int 0, .ref p6, .int 0, .ref p7, .ref p8, .ref p9, .int 0]))]) hD hS hA [0, 1] rfl
  refine vx_callv (vx_runV (As := [.int i]) (rest := []) ⟨hx, hb, hml, hown, hts⟩ (c_needMilestone_thr l D cA sa h0 b0 p0 u0 r0 a0 t0 s0 o0 p1 p2 p3 p4 p5 p6 p7 p8 p9 i s.heap.size hl9) (cwV 1 hts gX9_dayByClock_X9_needMilestone rfl rfl rfl (by decide +kernel) ⟨(Nat.le_of_ble_eq_true rfl), (Nat.le_of_ble_eq_true rfl)⟩) ⟨Wd.blind, va_recv hK hPc (ci := 10) (q0 := 0) rfl rfl, fun U hU hW => ⟨rfl, Wd.call hPc hDc hK hC hZ hS hFc U hU hW⟩⟩ rfl rfl hl.1 rfl (lv_room (Nat.le_of_ble_eq_true rfl)) dX9_dayByClock_2 ⟨(Nat.le_of_ble_eq_true rfl), (Nat.le_of_ble_eq_true rfl)⟩) hS (fun q _ h => hFc q h) hFc (fun q _ h => hFc q h) (fun E ce q9 u t H1 locs ht hvm hpx hE hz1 hk1 hS hcell hv9 hcl => ?_) (fun u t H1 locs ht hvm hw hB hz1 hk1 hS => hw.elim)
  exact vx_out (fun x h => (hno x h).elim) hlocks hcell hv9 hcl (fun t ht hvm => ⟨(), trivial, hE, hS.F ht⟩) hS.2.2 (Nat.le_of_ble_eq_true rfl) (Nat.le_of_ble_eq_true rfl)

set_option maxHeartbeats 4000000 in
set_option maxRecDepth 100000 in
/-- missingProofs: there is no such thing -/
theorem c_missingProofs_thr (l : Launch) (D : va_G) (cA : Nat → ClassId) (sa : Nat → Nat) (h0 b0 p0 u0 r0 a0 t0 s0 o0 p1 p2 p3 p4 p5 p6 p7 p8 p9 : Nat) (i : Int32) (sz : Nat) (hl9 : l.stackTraces = false) : vx_Met l yX9_missingProofs wsX9_missingProofs ({ frames := 8, cells := 1, slots := 6, locals := 132 }) (va_Pc [.ref h0, .int i] (Wd D cA sa [(h0, .inr (10, [.ref b0, .int 0, .ref p0, .ref u0, .ref r0, .ref a0, .ref t0, .ref s0, .ref o0])), (p0, .inr (7, [.int 0, .int 365, .int 0, .int 0, .ref p1, .int 0, .ref p2, .ref p3, .ref p4, .ref p5, .int 0, .ref p6, .int 0, .ref p7, .ref p8, .ref p9, .int 0]))] sz)) (va_Qi (fun (_ : Int32) (_ : Unit) => False) (fun (_ : Unit) _ => True) (va_A [(h0, .inr (10, [.ref b0, .int 0, .ref p0, .ref u0, .ref r0, .ref a0, .ref t0, .ref s0, .ref o0])), (p0, .inr (7, [.int 0, .int 365, .int 0, .int 0, .ref p1, .int 0, .ref p2, .ref p3, .ref p4, .ref p5, .int 0, .ref p6, .int 0, .ref p7, .ref p8, .ref p9, .int 0]))] sz)) (vx_X (fun _ : Unit => True) (fun E _ _ => E = "java/lang/IndexOutOfBoundsException") (va_A [(h0, .inr (10, [.ref b0, .int 0, .ref p0, .ref u0, .ref r0, .ref a0, .ref t0, .ref s0, .ref o0])), (p0, .inr (7, [.int 0, .int 365, .int 0, .int 0, .ref p1, .int 0, .ref p2, .ref p3, .ref p4, .ref p5, .int 0, .ref p6, .int 0, .ref p7, .ref p8, .ref p9, .int 0]))] sz)) 1 6 (va_A [(h0, .inr (10, [.ref b0, .int 0, .ref p0, .ref u0, .ref r0, .ref a0, .ref t0, .ref s0, .ref o0])), (p0, .inr (7, [.int 0, .int 365, .int 0, .int 0, .ref p1, .int 0, .ref p2, .ref p3, .ref p4, .ref p5, .int 0, .ref p6, .int 0, .ref p7, .ref p8, .ref p9, .int 0]))] sz) := by
  refine vx_ofW (cc := cX9_missingProofs) (maxL := 7) (ret := (some .int)) (by decide) rfl ?_
  intro p e s m args below meth c s₁ B hml hno hv
  obtain ⟨rfl, hsz, hP, hK, hD0, hC, hZ⟩ := hv
  have hx := B.exec
  have hb := B.bytes
  have hr := B.returns
  have hts := atoms_spec (ws := wsX9_missingProofs) B.pre
  have hown : s.vm.findClass RX9 = some m.cls := findClass_of_methodNamed B.named
  have hlocks := B.notSynchronized
  subst hsz
  have hD := hD0.self (sz := s.heap.size)
  generalize hAe : va_A [(h0, .inr (10, [.ref b0, .int 0, .ref p0, .ref u0, .ref r0, .ref a0, .ref t0, .ref s0, .ref o0])), (p0, .inr (7, [.int 0, .int 365, .int 0, .int 0, .ref p1, .int 0, .ref p2, .ref p3, .ref p4, .ref p5, .int 0, .ref p6, .int 0, .ref p7, .ref p8, .ref p9, .int 0]))] s.heap.size = A at hD hZ ⊢
  have hA : ∀ q : Nat, s.heap.size ≤ q → A q := fun q h => by rw [← hAe]; exact Or.inr h
  have hS : va_S A s.heap s.heap [] := va_S.rf
  have hP : va_P D vwCl [(h0, .inr (10, [.ref b0, .int 0, .ref p0, .ref u0, .ref r0, .ref a0, .ref t0, .ref s0, .ref o0])), (p0, .inr (7, [.int 0, .int 365, .int 0, .int 0, .ref p1, .int 0, .ref p2, .ref p3, .ref p4, .ref p5, .int 0, .ref p6, .int 0, .ref p7, .ref p8, .ref p9, .int 0]))] s.heap := hP
  have hl := lv_entry ([.ref h0, .int i]) (n := 7) (Nat.le_of_ble_eq_true rfl)
  rw [lg_entry_eq]
  generalize (lg_sl ([.ref h0, .int i]) ++ List.replicate (7 - (lg_sl ([.ref h0, .int i])).length) Slot.unset).toArray = ls at hl ⊢
  have hl : lv_has ls 7 [(0, .ref h0), (1, .int i)] := hl
  refine lv_aload_n hx hb dX9_missingProofs_0 rfl (lv_at hl 0 rfl) ?_
  refine lv_iload_n hx hb dX9_missingProofs_1 rfl (lv_at hl 1 rfl) ?_
  have hPc := hP.sub (ws' := [(h0, .inr (10, [.ref b0, .int 0, .ref p0, .ref u0, .ref r0, .ref a0, .ref t0, .ref s0, .ref o0])), (p0, .inr (7, [.int 0, .int 365, .int 0, .int 0, .ref p1, .int 0, .ref p2, .ref p3, .ref p4, .ref p5, .int 0, .ref p6, .int 0, .ref p7, .ref p8, .ref p9, .int 0]))]) [0, 1] rfl
  have hDc := hD.sub (ws' := [(h0, .inr (10, [.ref b0, .int 0, .ref p0, .ref u0, .ref r0, .ref a0, .ref t0, .ref s0, .ref o0])), (p0, .inr (7, [.int 0, .int 365, .int 0, .int 0, .ref p1, .int 0, .ref p2, .ref p3, .ref p4, .ref p5, .int 0, .ref p6, .int 0, .ref p7, .ref p8, .ref p9, .int 0]))]) [0, 1] (by decide) rfl
  have hFc := va_free (wc := [(h0, .inr (10, [.ref b0, .int 0, .ref p0, .ref u0, .ref r0, .ref a0, .ref t0, .ref s0, .ref o0])), (p0, .inr (7, [.int 0, .int 365, .int 0, .int 0, .ref p1, .int 0, .ref p2, .ref p3, .ref p4, .ref p5, .int 0, .ref p6, .int 0, .ref p7, .ref p8, .ref p9, .int 0]))]) hD hS hA [0, 1] rfl
  refine vx_callv (vx_runV (As := [.int i]) (rest := []) ⟨hx, hb, hml, hown, hts⟩ (c_needMilestone_thr l D cA sa h0 b0 p0 u0 r0 a0 t0 s0 o0 p1 p2 p3 p4 p5 p6 p7 p8 p9 i s.heap.size hl9) (cwV 1 hts gX9_missingProofs_X9_needMilestone rfl rfl rfl (by decide +kernel) ⟨(Nat.le_of_ble_eq_true rfl), (Nat.le_of_ble_eq_true rfl)⟩) ⟨Wd.blind, va_recv hK hPc (ci := 10) (q0 := 0) rfl rfl, fun U hU hW => ⟨rfl, Wd.call hPc hDc hK hC hZ hS hFc U hU hW⟩⟩ rfl rfl hl.1 rfl (lv_room (Nat.le_of_ble_eq_true rfl)) dX9_missingProofs_2 ⟨(Nat.le_of_ble_eq_true rfl), (Nat.le_of_ble_eq_true rfl)⟩) hS (fun q _ h => hFc q h) hFc (fun q _ h => hFc q h) (fun E ce q9 u t H1 locs ht hvm hpx hE hz1 hk1 hS hcell hv9 hcl => ?_) (fun u t H1 locs ht hvm hw hB hz1 hk1 hS => hw.elim)
  exact vx_out (fun x h => (hno x h).elim) hlocks hcell hv9 hcl (fun t ht hvm => ⟨(), trivial, hE, hS.F ht⟩) hS.2.2 (Nat.le_of_ble_eq_true rfl) (Nat.le_of_ble_eq_true rfl)

set_option maxHeartbeats 4000000 in
set_option maxRecDepth 100000 in
/-- graceLeft: there is no such thing -/
theorem c_graceLeft_thr (l : Launch) (D : va_G) (cA : Nat → ClassId) (sa : Nat → Nat) (h0 b0 p0 u0 r0 a0 t0 s0 o0 p1 p2 p3 p4 p5 p6 p7 p8 p9 : Nat) (i : Int32) (sz : Nat) (hl9 : l.stackTraces = false) : vx_Met l yX9_graceLeft wsX9_graceLeft ({ frames := 8, cells := 1, slots := 6, locals := 132 }) (va_Pc [.ref h0, .int i] (Wd D cA sa [(h0, .inr (10, [.ref b0, .int 0, .ref p0, .ref u0, .ref r0, .ref a0, .ref t0, .ref s0, .ref o0])), (p0, .inr (7, [.int 0, .int 365, .int 0, .int 0, .ref p1, .int 0, .ref p2, .ref p3, .ref p4, .ref p5, .int 0, .ref p6, .int 0, .ref p7, .ref p8, .ref p9, .int 0]))] sz)) (va_Qi (fun (_ : Int32) (_ : Unit) => False) (fun (_ : Unit) _ => True) (va_A [(h0, .inr (10, [.ref b0, .int 0, .ref p0, .ref u0, .ref r0, .ref a0, .ref t0, .ref s0, .ref o0])), (p0, .inr (7, [.int 0, .int 365, .int 0, .int 0, .ref p1, .int 0, .ref p2, .ref p3, .ref p4, .ref p5, .int 0, .ref p6, .int 0, .ref p7, .ref p8, .ref p9, .int 0]))] sz)) (vx_X (fun _ : Unit => True) (fun E _ _ => E = "java/lang/IndexOutOfBoundsException") (va_A [(h0, .inr (10, [.ref b0, .int 0, .ref p0, .ref u0, .ref r0, .ref a0, .ref t0, .ref s0, .ref o0])), (p0, .inr (7, [.int 0, .int 365, .int 0, .int 0, .ref p1, .int 0, .ref p2, .ref p3, .ref p4, .ref p5, .int 0, .ref p6, .int 0, .ref p7, .ref p8, .ref p9, .int 0]))] sz)) 1 6 (va_A [(h0, .inr (10, [.ref b0, .int 0, .ref p0, .ref u0, .ref r0, .ref a0, .ref t0, .ref s0, .ref o0])), (p0, .inr (7, [.int 0, .int 365, .int 0, .int 0, .ref p1, .int 0, .ref p2, .ref p3, .ref p4, .ref p5, .int 0, .ref p6, .int 0, .ref p7, .ref p8, .ref p9, .int 0]))] sz) := by
  refine vx_ofW (cc := cX9_graceLeft) (maxL := 2) (ret := (some .int)) (by decide) rfl ?_
  intro p e s m args below meth c s₁ B hml hno hv
  obtain ⟨rfl, hsz, hP, hK, hD0, hC, hZ⟩ := hv
  have hx := B.exec
  have hb := B.bytes
  have hr := B.returns
  have hts := atoms_spec (ws := wsX9_graceLeft) B.pre
  have hown : s.vm.findClass RX9 = some m.cls := findClass_of_methodNamed B.named
  have hlocks := B.notSynchronized
  subst hsz
  have hD := hD0.self (sz := s.heap.size)
  generalize hAe : va_A [(h0, .inr (10, [.ref b0, .int 0, .ref p0, .ref u0, .ref r0, .ref a0, .ref t0, .ref s0, .ref o0])), (p0, .inr (7, [.int 0, .int 365, .int 0, .int 0, .ref p1, .int 0, .ref p2, .ref p3, .ref p4, .ref p5, .int 0, .ref p6, .int 0, .ref p7, .ref p8, .ref p9, .int 0]))] s.heap.size = A at hD hZ ⊢
  have hA : ∀ q : Nat, s.heap.size ≤ q → A q := fun q h => by rw [← hAe]; exact Or.inr h
  have hS : va_S A s.heap s.heap [] := va_S.rf
  have hP : va_P D vwCl [(h0, .inr (10, [.ref b0, .int 0, .ref p0, .ref u0, .ref r0, .ref a0, .ref t0, .ref s0, .ref o0])), (p0, .inr (7, [.int 0, .int 365, .int 0, .int 0, .ref p1, .int 0, .ref p2, .ref p3, .ref p4, .ref p5, .int 0, .ref p6, .int 0, .ref p7, .ref p8, .ref p9, .int 0]))] s.heap := hP
  have hl := lv_entry ([.ref h0, .int i]) (n := 2) (Nat.le_of_ble_eq_true rfl)
  rw [lg_entry_eq]
  generalize (lg_sl ([.ref h0, .int i]) ++ List.replicate (2 - (lg_sl ([.ref h0, .int i])).length) Slot.unset).toArray = ls at hl ⊢
  have hl : lv_has ls 2 [(0, .ref h0), (1, .int i)] := hl
  refine lv_aload_n hx hb dX9_graceLeft_0 rfl (lv_at hl 0 rfl) ?_
  refine lv_iload_n hx hb dX9_graceLeft_1 rfl (lv_at hl 1 rfl) ?_
  have hPc := hP.sub (ws' := [(h0, .inr (10, [.ref b0, .int 0, .ref p0, .ref u0, .ref r0, .ref a0, .ref t0, .ref s0, .ref o0])), (p0, .inr (7, [.int 0, .int 365, .int 0, .int 0, .ref p1, .int 0, .ref p2, .ref p3, .ref p4, .ref p5, .int 0, .ref p6, .int 0, .ref p7, .ref p8, .ref p9, .int 0]))]) [0, 1] rfl
  have hDc := hD.sub (ws' := [(h0, .inr (10, [.ref b0, .int 0, .ref p0, .ref u0, .ref r0, .ref a0, .ref t0, .ref s0, .ref o0])), (p0, .inr (7, [.int 0, .int 365, .int 0, .int 0, .ref p1, .int 0, .ref p2, .ref p3, .ref p4, .ref p5, .int 0, .ref p6, .int 0, .ref p7, .ref p8, .ref p9, .int 0]))]) [0, 1] (by decide) rfl
  have hFc := va_free (wc := [(h0, .inr (10, [.ref b0, .int 0, .ref p0, .ref u0, .ref r0, .ref a0, .ref t0, .ref s0, .ref o0])), (p0, .inr (7, [.int 0, .int 365, .int 0, .int 0, .ref p1, .int 0, .ref p2, .ref p3, .ref p4, .ref p5, .int 0, .ref p6, .int 0, .ref p7, .ref p8, .ref p9, .int 0]))]) hD hS hA [0, 1] rfl
  refine vx_callv (vx_runV (As := [.int i]) (rest := []) ⟨hx, hb, hml, hown, hts⟩ (c_needMilestone_thr l D cA sa h0 b0 p0 u0 r0 a0 t0 s0 o0 p1 p2 p3 p4 p5 p6 p7 p8 p9 i s.heap.size hl9) (cwV 1 hts gX9_graceLeft_X9_needMilestone rfl rfl rfl (by decide +kernel) ⟨(Nat.le_of_ble_eq_true rfl), (Nat.le_of_ble_eq_true rfl)⟩) ⟨Wd.blind, va_recv hK hPc (ci := 10) (q0 := 0) rfl rfl, fun U hU hW => ⟨rfl, Wd.call hPc hDc hK hC hZ hS hFc U hU hW⟩⟩ rfl rfl hl.1 rfl (lv_room (Nat.le_of_ble_eq_true rfl)) dX9_graceLeft_2 ⟨(Nat.le_of_ble_eq_true rfl), (Nat.le_of_ble_eq_true rfl)⟩) hS (fun q _ h => hFc q h) hFc (fun q _ h => hFc q h) (fun E ce q9 u t H1 locs ht hvm hpx hE hz1 hk1 hS hcell hv9 hcl => ?_) (fun u t H1 locs ht hvm hw hB hz1 hk1 hS => hw.elim)
  exact vx_out (fun x h => (hno x h).elim) hlocks hcell hv9 hcl (fun t ht hvm => ⟨(), trivial, hE, hS.F ht⟩) hS.2.2 (Nat.le_of_ble_eq_true rfl) (Nat.le_of_ble_eq_true rfl)

set_option maxHeartbeats 4000000 in
set_option maxRecDepth 100000 in
/-- daysUntilClosed: there is no such thing -/
theorem c_daysUntilClosed_thr (l : Launch) (D : va_G) (cA : Nat → ClassId) (sa : Nat → Nat) (h0 b0 p0 u0 r0 a0 t0 s0 o0 p1 p2 p3 p4 p5 p6 p7 p8 p9 : Nat) (i : Int32) (sz : Nat) (hl9 : l.stackTraces = false) : vx_Met l yX9_daysUntilClosed wsX9_daysUntilClosed ({ frames := 8, cells := 1, slots := 6, locals := 132 }) (va_Pc [.ref h0, .int i] (Wd D cA sa [(h0, .inr (10, [.ref b0, .int 0, .ref p0, .ref u0, .ref r0, .ref a0, .ref t0, .ref s0, .ref o0])), (p0, .inr (7, [.int 0, .int 365, .int 0, .int 0, .ref p1, .int 0, .ref p2, .ref p3, .ref p4, .ref p5, .int 0, .ref p6, .int 0, .ref p7, .ref p8, .ref p9, .int 0]))] sz)) (va_Qi (fun (_ : Int32) (_ : Unit) => False) (fun (_ : Unit) _ => True) (va_A [(h0, .inr (10, [.ref b0, .int 0, .ref p0, .ref u0, .ref r0, .ref a0, .ref t0, .ref s0, .ref o0])), (p0, .inr (7, [.int 0, .int 365, .int 0, .int 0, .ref p1, .int 0, .ref p2, .ref p3, .ref p4, .ref p5, .int 0, .ref p6, .int 0, .ref p7, .ref p8, .ref p9, .int 0]))] sz)) (vx_X (fun _ : Unit => True) (fun E _ _ => E = "java/lang/IndexOutOfBoundsException") (va_A [(h0, .inr (10, [.ref b0, .int 0, .ref p0, .ref u0, .ref r0, .ref a0, .ref t0, .ref s0, .ref o0])), (p0, .inr (7, [.int 0, .int 365, .int 0, .int 0, .ref p1, .int 0, .ref p2, .ref p3, .ref p4, .ref p5, .int 0, .ref p6, .int 0, .ref p7, .ref p8, .ref p9, .int 0]))] sz)) 1 6 (va_A [(h0, .inr (10, [.ref b0, .int 0, .ref p0, .ref u0, .ref r0, .ref a0, .ref t0, .ref s0, .ref o0])), (p0, .inr (7, [.int 0, .int 365, .int 0, .int 0, .ref p1, .int 0, .ref p2, .ref p3, .ref p4, .ref p5, .int 0, .ref p6, .int 0, .ref p7, .ref p8, .ref p9, .int 0]))] sz) := by
  refine vx_ofW (cc := cX9_daysUntilClosed) (maxL := 3) (ret := (some .int)) (by decide) rfl ?_
  intro p e s m args below meth c s₁ B hml hno hv
  obtain ⟨rfl, hsz, hP, hK, hD0, hC, hZ⟩ := hv
  have hx := B.exec
  have hb := B.bytes
  have hr := B.returns
  have hts := atoms_spec (ws := wsX9_daysUntilClosed) B.pre
  have hown : s.vm.findClass RX9 = some m.cls := findClass_of_methodNamed B.named
  have hlocks := B.notSynchronized
  subst hsz
  have hD := hD0.self (sz := s.heap.size)
  generalize hAe : va_A [(h0, .inr (10, [.ref b0, .int 0, .ref p0, .ref u0, .ref r0, .ref a0, .ref t0, .ref s0, .ref o0])), (p0, .inr (7, [.int 0, .int 365, .int 0, .int 0, .ref p1, .int 0, .ref p2, .ref p3, .ref p4, .ref p5, .int 0, .ref p6, .int 0, .ref p7, .ref p8, .ref p9, .int 0]))] s.heap.size = A at hD hZ ⊢
  have hA : ∀ q : Nat, s.heap.size ≤ q → A q := fun q h => by rw [← hAe]; exact Or.inr h
  have hS : va_S A s.heap s.heap [] := va_S.rf
  have hP : va_P D vwCl [(h0, .inr (10, [.ref b0, .int 0, .ref p0, .ref u0, .ref r0, .ref a0, .ref t0, .ref s0, .ref o0])), (p0, .inr (7, [.int 0, .int 365, .int 0, .int 0, .ref p1, .int 0, .ref p2, .ref p3, .ref p4, .ref p5, .int 0, .ref p6, .int 0, .ref p7, .ref p8, .ref p9, .int 0]))] s.heap := hP
  have hl := lv_entry ([.ref h0, .int i]) (n := 3) (Nat.le_of_ble_eq_true rfl)
  rw [lg_entry_eq]
  generalize (lg_sl ([.ref h0, .int i]) ++ List.replicate (3 - (lg_sl ([.ref h0, .int i])).length) Slot.unset).toArray = ls at hl ⊢
  have hl : lv_has ls 3 [(0, .ref h0), (1, .int i)] := hl
  refine lv_aload_n hx hb dX9_daysUntilClosed_0 rfl (lv_at hl 0 rfl) ?_
  refine lv_iload_n hx hb dX9_daysUntilClosed_1 rfl (lv_at hl 1 rfl) ?_
  have hPc := hP.sub (ws' := [(h0, .inr (10, [.ref b0, .int 0, .ref p0, .ref u0, .ref r0, .ref a0, .ref t0, .ref s0, .ref o0])), (p0, .inr (7, [.int 0, .int 365, .int 0, .int 0, .ref p1, .int 0, .ref p2, .ref p3, .ref p4, .ref p5, .int 0, .ref p6, .int 0, .ref p7, .ref p8, .ref p9, .int 0]))]) [0, 1] rfl
  have hDc := hD.sub (ws' := [(h0, .inr (10, [.ref b0, .int 0, .ref p0, .ref u0, .ref r0, .ref a0, .ref t0, .ref s0, .ref o0])), (p0, .inr (7, [.int 0, .int 365, .int 0, .int 0, .ref p1, .int 0, .ref p2, .ref p3, .ref p4, .ref p5, .int 0, .ref p6, .int 0, .ref p7, .ref p8, .ref p9, .int 0]))]) [0, 1] (by decide) rfl
  have hFc := va_free (wc := [(h0, .inr (10, [.ref b0, .int 0, .ref p0, .ref u0, .ref r0, .ref a0, .ref t0, .ref s0, .ref o0])), (p0, .inr (7, [.int 0, .int 365, .int 0, .int 0, .ref p1, .int 0, .ref p2, .ref p3, .ref p4, .ref p5, .int 0, .ref p6, .int 0, .ref p7, .ref p8, .ref p9, .int 0]))]) hD hS hA [0, 1] rfl
  refine vx_callv (vx_runV (As := [.int i]) (rest := []) ⟨hx, hb, hml, hown, hts⟩ (c_needMilestone_thr l D cA sa h0 b0 p0 u0 r0 a0 t0 s0 o0 p1 p2 p3 p4 p5 p6 p7 p8 p9 i s.heap.size hl9) (cwV 1 hts gX9_daysUntilClosed_X9_needMilestone rfl rfl rfl (by decide +kernel) ⟨(Nat.le_of_ble_eq_true rfl), (Nat.le_of_ble_eq_true rfl)⟩) ⟨Wd.blind, va_recv hK hPc (ci := 10) (q0 := 0) rfl rfl, fun U hU hW => ⟨rfl, Wd.call hPc hDc hK hC hZ hS hFc U hU hW⟩⟩ rfl rfl hl.1 rfl (lv_room (Nat.le_of_ble_eq_true rfl)) dX9_daysUntilClosed_2 ⟨(Nat.le_of_ble_eq_true rfl), (Nat.le_of_ble_eq_true rfl)⟩) hS (fun q _ h => hFc q h) hFc (fun q _ h => hFc q h) (fun E ce q9 u t H1 locs ht hvm hpx hE hz1 hk1 hS hcell hv9 hcl => ?_) (fun u t H1 locs ht hvm hw hB hz1 hk1 hS => hw.elim)
  exact vx_out (fun x h => (hno x h).elim) hlocks hcell hv9 hcl (fun t ht hvm => ⟨(), trivial, hE, hS.F ht⟩) hS.2.2 (Nat.le_of_ble_eq_true rfl) (Nat.le_of_ble_eq_true rfl)

set_option maxHeartbeats 4000000 in
set_option maxRecDepth 100000 in
/-- approve: there is no such thing -/
theorem c_approve_thr (l : Launch) (D : va_G) (cA : Nat → ClassId) (sa : Nat → Nat) (h0 b0 p0 u0 r0 a0 t0 s0 o0 p1 p2 p3 p4 p5 p6 p7 p8 p9 : Nat) (i : Int32) (sz : Nat) (hl9 : l.stackTraces = false) : vx_Met l yX9_approve wsX9_approve ({ frames := 8, cells := 1, slots := 6, locals := 132 }) (va_Pc [.ref h0, .int i] (Wd D cA sa [(h0, .inr (10, [.ref b0, .int 0, .ref p0, .ref u0, .ref r0, .ref a0, .ref t0, .ref s0, .ref o0])), (p0, .inr (7, [.int 0, .int 365, .int 0, .int 0, .ref p1, .int 0, .ref p2, .ref p3, .ref p4, .ref p5, .int 0, .ref p6, .int 0, .ref p7, .ref p8, .ref p9, .int 0]))] sz)) (va_Qi (fun (_ : Int32) (_ : Unit) => False) (fun (_ : Unit) _ => True) (va_A [(h0, .inr (10, [.ref b0, .int 0, .ref p0, .ref u0, .ref r0, .ref a0, .ref t0, .ref s0, .ref o0])), (p0, .inr (7, [.int 0, .int 365, .int 0, .int 0, .ref p1, .int 0, .ref p2, .ref p3, .ref p4, .ref p5, .int 0, .ref p6, .int 0, .ref p7, .ref p8, .ref p9, .int 0]))] sz)) (vx_X (fun _ : Unit => True) (fun E _ _ => E = "java/lang/IndexOutOfBoundsException") (va_A [(h0, .inr (10, [.ref b0, .int 0, .ref p0, .ref u0, .ref r0, .ref a0, .ref t0, .ref s0, .ref o0])), (p0, .inr (7, [.int 0, .int 365, .int 0, .int 0, .ref p1, .int 0, .ref p2, .ref p3, .ref p4, .ref p5, .int 0, .ref p6, .int 0, .ref p7, .ref p8, .ref p9, .int 0]))] sz)) 1 6 (va_A [(h0, .inr (10, [.ref b0, .int 0, .ref p0, .ref u0, .ref r0, .ref a0, .ref t0, .ref s0, .ref o0])), (p0, .inr (7, [.int 0, .int 365, .int 0, .int 0, .ref p1, .int 0, .ref p2, .ref p3, .ref p4, .ref p5, .int 0, .ref p6, .int 0, .ref p7, .ref p8, .ref p9, .int 0]))] sz) := by
  refine vx_ofW (cc := cX9_approve) (maxL := 2) (ret := (some .boolean)) (by decide) rfl ?_
  intro p e s m args below meth c s₁ B hml hno hv
  obtain ⟨rfl, hsz, hP, hK, hD0, hC, hZ⟩ := hv
  have hx := B.exec
  have hb := B.bytes
  have hr := B.returns
  have hts := atoms_spec (ws := wsX9_approve) B.pre
  have hown : s.vm.findClass RX9 = some m.cls := findClass_of_methodNamed B.named
  have hlocks := B.notSynchronized
  subst hsz
  have hD := hD0.self (sz := s.heap.size)
  generalize hAe : va_A [(h0, .inr (10, [.ref b0, .int 0, .ref p0, .ref u0, .ref r0, .ref a0, .ref t0, .ref s0, .ref o0])), (p0, .inr (7, [.int 0, .int 365, .int 0, .int 0, .ref p1, .int 0, .ref p2, .ref p3, .ref p4, .ref p5, .int 0, .ref p6, .int 0, .ref p7, .ref p8, .ref p9, .int 0]))] s.heap.size = A at hD hZ ⊢
  have hA : ∀ q : Nat, s.heap.size ≤ q → A q := fun q h => by rw [← hAe]; exact Or.inr h
  have hS : va_S A s.heap s.heap [] := va_S.rf
  have hP : va_P D vwCl [(h0, .inr (10, [.ref b0, .int 0, .ref p0, .ref u0, .ref r0, .ref a0, .ref t0, .ref s0, .ref o0])), (p0, .inr (7, [.int 0, .int 365, .int 0, .int 0, .ref p1, .int 0, .ref p2, .ref p3, .ref p4, .ref p5, .int 0, .ref p6, .int 0, .ref p7, .ref p8, .ref p9, .int 0]))] s.heap := hP
  have hl := lv_entry ([.ref h0, .int i]) (n := 2) (Nat.le_of_ble_eq_true rfl)
  rw [lg_entry_eq]
  generalize (lg_sl ([.ref h0, .int i]) ++ List.replicate (2 - (lg_sl ([.ref h0, .int i])).length) Slot.unset).toArray = ls at hl ⊢
  have hl : lv_has ls 2 [(0, .ref h0), (1, .int i)] := hl
  refine lv_aload_n hx hb dX9_approve_0 rfl (lv_at hl 0 rfl) ?_
  refine lv_iload_n hx hb dX9_approve_1 rfl (lv_at hl 1 rfl) ?_
  have hPc := hP.sub (ws' := [(h0, .inr (10, [.ref b0, .int 0, .ref p0, .ref u0, .ref r0, .ref a0, .ref t0, .ref s0, .ref o0])), (p0, .inr (7, [.int 0, .int 365, .int 0, .int 0, .ref p1, .int 0, .ref p2, .ref p3, .ref p4, .ref p5, .int 0, .ref p6, .int 0, .ref p7, .ref p8, .ref p9, .int 0]))]) [0, 1] rfl
  have hDc := hD.sub (ws' := [(h0, .inr (10, [.ref b0, .int 0, .ref p0, .ref u0, .ref r0, .ref a0, .ref t0, .ref s0, .ref o0])), (p0, .inr (7, [.int 0, .int 365, .int 0, .int 0, .ref p1, .int 0, .ref p2, .ref p3, .ref p4, .ref p5, .int 0, .ref p6, .int 0, .ref p7, .ref p8, .ref p9, .int 0]))]) [0, 1] (by decide) rfl
  have hFc := va_free (wc := [(h0, .inr (10, [.ref b0, .int 0, .ref p0, .ref u0, .ref r0, .ref a0, .ref t0, .ref s0, .ref o0])), (p0, .inr (7, [.int 0, .int 365, .int 0, .int 0, .ref p1, .int 0, .ref p2, .ref p3, .ref p4, .ref p5, .int 0, .ref p6, .int 0, .ref p7, .ref p8, .ref p9, .int 0]))]) hD hS hA [0, 1] rfl
  refine vx_callv (vx_runV (As := [.int i]) (rest := []) ⟨hx, hb, hml, hown, hts⟩ (c_needMilestone_thr l D cA sa h0 b0 p0 u0 r0 a0 t0 s0 o0 p1 p2 p3 p4 p5 p6 p7 p8 p9 i s.heap.size hl9) (cwV 1 hts gX9_approve_X9_needMilestone rfl rfl rfl (by decide +kernel) ⟨(Nat.le_of_ble_eq_true rfl), (Nat.le_of_ble_eq_true rfl)⟩) ⟨Wd.blind, va_recv hK hPc (ci := 10) (q0 := 0) rfl rfl, fun U hU hW => ⟨rfl, Wd.call hPc hDc hK hC hZ hS hFc U hU hW⟩⟩ rfl rfl hl.1 rfl (lv_room (Nat.le_of_ble_eq_true rfl)) dX9_approve_2 ⟨(Nat.le_of_ble_eq_true rfl), (Nat.le_of_ble_eq_true rfl)⟩) hS (fun q _ h => hFc q h) hFc (fun q _ h => hFc q h) (fun E ce q9 u t H1 locs ht hvm hpx hE hz1 hk1 hS hcell hv9 hcl => ?_) (fun u t H1 locs ht hvm hw hB hz1 hk1 hS => hw.elim)
  exact vx_out (fun x h => (hno x h).elim) hlocks hcell hv9 hcl (fun t ht hvm => ⟨(), trivial, hE, hS.F ht⟩) hS.2.2 (Nat.le_of_ble_eq_true rfl) (Nat.le_of_ble_eq_true rfl)

set_option maxHeartbeats 4000000 in
set_option maxRecDepth 100000 in
/-- dispute: there is no such thing -/
theorem c_dispute_thr (l : Launch) (D : va_G) (cA : Nat → ClassId) (sa : Nat → Nat) (h0 b0 p0 u0 r0 a0 t0 s0 o0 p1 p2 p3 p4 p5 p6 p7 p8 p9 : Nat) (i : Int32) (sz : Nat) (hl9 : l.stackTraces = false) : vx_Met l yX9_dispute wsX9_dispute ({ frames := 8, cells := 1, slots := 6, locals := 132 }) (va_Pc [.ref h0, .int i] (Wd D cA sa [(h0, .inr (10, [.ref b0, .int 0, .ref p0, .ref u0, .ref r0, .ref a0, .ref t0, .ref s0, .ref o0])), (p0, .inr (7, [.int 0, .int 365, .int 0, .int 0, .ref p1, .int 0, .ref p2, .ref p3, .ref p4, .ref p5, .int 0, .ref p6, .int 0, .ref p7, .ref p8, .ref p9, .int 0]))] sz)) (va_Qi (fun (_ : Int32) (_ : Unit) => False) (fun (_ : Unit) _ => True) (va_A [(h0, .inr (10, [.ref b0, .int 0, .ref p0, .ref u0, .ref r0, .ref a0, .ref t0, .ref s0, .ref o0])), (p0, .inr (7, [.int 0, .int 365, .int 0, .int 0, .ref p1, .int 0, .ref p2, .ref p3, .ref p4, .ref p5, .int 0, .ref p6, .int 0, .ref p7, .ref p8, .ref p9, .int 0]))] sz)) (vx_X (fun _ : Unit => True) (fun E _ _ => E = "java/lang/IndexOutOfBoundsException") (va_A [(h0, .inr (10, [.ref b0, .int 0, .ref p0, .ref u0, .ref r0, .ref a0, .ref t0, .ref s0, .ref o0])), (p0, .inr (7, [.int 0, .int 365, .int 0, .int 0, .ref p1, .int 0, .ref p2, .ref p3, .ref p4, .ref p5, .int 0, .ref p6, .int 0, .ref p7, .ref p8, .ref p9, .int 0]))] sz)) 1 6 (va_A [(h0, .inr (10, [.ref b0, .int 0, .ref p0, .ref u0, .ref r0, .ref a0, .ref t0, .ref s0, .ref o0])), (p0, .inr (7, [.int 0, .int 365, .int 0, .int 0, .ref p1, .int 0, .ref p2, .ref p3, .ref p4, .ref p5, .int 0, .ref p6, .int 0, .ref p7, .ref p8, .ref p9, .int 0]))] sz) := by
  refine vx_ofW (cc := cX9_dispute) (maxL := 2) (ret := (some .int)) (by decide) rfl ?_
  intro p e s m args below meth c s₁ B hml hno hv
  obtain ⟨rfl, hsz, hP, hK, hD0, hC, hZ⟩ := hv
  have hx := B.exec
  have hb := B.bytes
  have hr := B.returns
  have hts := atoms_spec (ws := wsX9_dispute) B.pre
  have hown : s.vm.findClass RX9 = some m.cls := findClass_of_methodNamed B.named
  have hlocks := B.notSynchronized
  subst hsz
  have hD := hD0.self (sz := s.heap.size)
  generalize hAe : va_A [(h0, .inr (10, [.ref b0, .int 0, .ref p0, .ref u0, .ref r0, .ref a0, .ref t0, .ref s0, .ref o0])), (p0, .inr (7, [.int 0, .int 365, .int 0, .int 0, .ref p1, .int 0, .ref p2, .ref p3, .ref p4, .ref p5, .int 0, .ref p6, .int 0, .ref p7, .ref p8, .ref p9, .int 0]))] s.heap.size = A at hD hZ ⊢
  have hA : ∀ q : Nat, s.heap.size ≤ q → A q := fun q h => by rw [← hAe]; exact Or.inr h
  have hS : va_S A s.heap s.heap [] := va_S.rf
  have hP : va_P D vwCl [(h0, .inr (10, [.ref b0, .int 0, .ref p0, .ref u0, .ref r0, .ref a0, .ref t0, .ref s0, .ref o0])), (p0, .inr (7, [.int 0, .int 365, .int 0, .int 0, .ref p1, .int 0, .ref p2, .ref p3, .ref p4, .ref p5, .int 0, .ref p6, .int 0, .ref p7, .ref p8, .ref p9, .int 0]))] s.heap := hP
  have hl := lv_entry ([.ref h0, .int i]) (n := 2) (Nat.le_of_ble_eq_true rfl)
  rw [lg_entry_eq]
  generalize (lg_sl ([.ref h0, .int i]) ++ List.replicate (2 - (lg_sl ([.ref h0, .int i])).length) Slot.unset).toArray = ls at hl ⊢
  have hl : lv_has ls 2 [(0, .ref h0), (1, .int i)] := hl
  refine lv_aload_n hx hb dX9_dispute_0 rfl (lv_at hl 0 rfl) ?_
  refine lv_iload_n hx hb dX9_dispute_1 rfl (lv_at hl 1 rfl) ?_
  have hPc := hP.sub (ws' := [(h0, .inr (10, [.ref b0, .int 0, .ref p0, .ref u0, .ref r0, .ref a0, .ref t0, .ref s0, .ref o0])), (p0, .inr (7, [.int 0, .int 365, .int 0, .int 0, .ref p1, .int 0, .ref p2, .ref p3, .ref p4, .ref p5, .int 0, .ref p6, .int 0, .ref p7, .ref p8, .ref p9, .int 0]))]) [0, 1] rfl
  have hDc := hD.sub (ws' := [(h0, .inr (10, [.ref b0, .int 0, .ref p0, .ref u0, .ref r0, .ref a0, .ref t0, .ref s0, .ref o0])), (p0, .inr (7, [.int 0, .int 365, .int 0, .int 0, .ref p1, .int 0, .ref p2, .ref p3, .ref p4, .ref p5, .int 0, .ref p6, .int 0, .ref p7, .ref p8, .ref p9, .int 0]))]) [0, 1] (by decide) rfl
  have hFc := va_free (wc := [(h0, .inr (10, [.ref b0, .int 0, .ref p0, .ref u0, .ref r0, .ref a0, .ref t0, .ref s0, .ref o0])), (p0, .inr (7, [.int 0, .int 365, .int 0, .int 0, .ref p1, .int 0, .ref p2, .ref p3, .ref p4, .ref p5, .int 0, .ref p6, .int 0, .ref p7, .ref p8, .ref p9, .int 0]))]) hD hS hA [0, 1] rfl
  refine vx_callv (vx_runV (As := [.int i]) (rest := []) ⟨hx, hb, hml, hown, hts⟩ (c_needMilestone_thr l D cA sa h0 b0 p0 u0 r0 a0 t0 s0 o0 p1 p2 p3 p4 p5 p6 p7 p8 p9 i s.heap.size hl9) (cwV 1 hts gX9_dispute_X9_needMilestone rfl rfl rfl (by decide +kernel) ⟨(Nat.le_of_ble_eq_true rfl), (Nat.le_of_ble_eq_true rfl)⟩) ⟨Wd.blind, va_recv hK hPc (ci := 10) (q0 := 0) rfl rfl, fun U hU hW => ⟨rfl, Wd.call hPc hDc hK hC hZ hS hFc U hU hW⟩⟩ rfl rfl hl.1 rfl (lv_room (Nat.le_of_ble_eq_true rfl)) dX9_dispute_2 ⟨(Nat.le_of_ble_eq_true rfl), (Nat.le_of_ble_eq_true rfl)⟩) hS (fun q _ h => hFc q h) hFc (fun q _ h => hFc q h) (fun E ce q9 u t H1 locs ht hvm hpx hE hz1 hk1 hS hcell hv9 hcl => ?_) (fun u t H1 locs ht hvm hw hB hz1 hk1 hS => hw.elim)
  exact vx_out (fun x h => (hno x h).elim) hlocks hcell hv9 hcl (fun t ht hvm => ⟨(), trivial, hE, hS.F ht⟩) hS.2.2 (Nat.le_of_ble_eq_true rfl) (Nat.le_of_ble_eq_true rfl)

set_option maxHeartbeats 4000000 in
set_option maxRecDepth 100000 in
/-- withdraw: there is no such thing -/
theorem c_withdraw_thr (l : Launch) (D : va_G) (cA : Nat → ClassId) (sa : Nat → Nat) (h0 b0 p0 u0 r0 a0 t0 s0 o0 p1 p2 p3 p4 p5 p6 p7 p8 p9 : Nat) (i : Int32) (sz : Nat) (hl9 : l.stackTraces = false) : vx_Met l yX9_withdraw wsX9_withdraw ({ frames := 8, cells := 1, slots := 6, locals := 132 }) (va_Pc [.ref h0, .int i] (Wd D cA sa [(h0, .inr (10, [.ref b0, .int 0, .ref p0, .ref u0, .ref r0, .ref a0, .ref t0, .ref s0, .ref o0])), (p0, .inr (7, [.int 0, .int 365, .int 0, .int 0, .ref p1, .int 0, .ref p2, .ref p3, .ref p4, .ref p5, .int 0, .ref p6, .int 0, .ref p7, .ref p8, .ref p9, .int 0]))] sz)) (va_Qi (fun (_ : Int32) (_ : Unit) => False) (fun (_ : Unit) _ => True) (va_A [(h0, .inr (10, [.ref b0, .int 0, .ref p0, .ref u0, .ref r0, .ref a0, .ref t0, .ref s0, .ref o0])), (p0, .inr (7, [.int 0, .int 365, .int 0, .int 0, .ref p1, .int 0, .ref p2, .ref p3, .ref p4, .ref p5, .int 0, .ref p6, .int 0, .ref p7, .ref p8, .ref p9, .int 0]))] sz)) (vx_X (fun _ : Unit => True) (fun E _ _ => E = "java/lang/IndexOutOfBoundsException") (va_A [(h0, .inr (10, [.ref b0, .int 0, .ref p0, .ref u0, .ref r0, .ref a0, .ref t0, .ref s0, .ref o0])), (p0, .inr (7, [.int 0, .int 365, .int 0, .int 0, .ref p1, .int 0, .ref p2, .ref p3, .ref p4, .ref p5, .int 0, .ref p6, .int 0, .ref p7, .ref p8, .ref p9, .int 0]))] sz)) 1 6 (va_A [(h0, .inr (10, [.ref b0, .int 0, .ref p0, .ref u0, .ref r0, .ref a0, .ref t0, .ref s0, .ref o0])), (p0, .inr (7, [.int 0, .int 365, .int 0, .int 0, .ref p1, .int 0, .ref p2, .ref p3, .ref p4, .ref p5, .int 0, .ref p6, .int 0, .ref p7, .ref p8, .ref p9, .int 0]))] sz) := by
  refine vx_ofW (cc := cX9_withdraw) (maxL := 2) (ret := (some .int)) (by decide) rfl ?_
  intro p e s m args below meth c s₁ B hml hno hv
  obtain ⟨rfl, hsz, hP, hK, hD0, hC, hZ⟩ := hv
  have hx := B.exec
  have hb := B.bytes
  have hr := B.returns
  have hts := atoms_spec (ws := wsX9_withdraw) B.pre
  have hown : s.vm.findClass RX9 = some m.cls := findClass_of_methodNamed B.named
  have hlocks := B.notSynchronized
  subst hsz
  have hD := hD0.self (sz := s.heap.size)
  generalize hAe : va_A [(h0, .inr (10, [.ref b0, .int 0, .ref p0, .ref u0, .ref r0, .ref a0, .ref t0, .ref s0, .ref o0])), (p0, .inr (7, [.int 0, .int 365, .int 0, .int 0, .ref p1, .int 0, .ref p2, .ref p3, .ref p4, .ref p5, .int 0, .ref p6, .int 0, .ref p7, .ref p8, .ref p9, .int 0]))] s.heap.size = A at hD hZ ⊢
  have hA : ∀ q : Nat, s.heap.size ≤ q → A q := fun q h => by rw [← hAe]; exact Or.inr h
  have hS : va_S A s.heap s.heap [] := va_S.rf
  have hP : va_P D vwCl [(h0, .inr (10, [.ref b0, .int 0, .ref p0, .ref u0, .ref r0, .ref a0, .ref t0, .ref s0, .ref o0])), (p0, .inr (7, [.int 0, .int 365, .int 0, .int 0, .ref p1, .int 0, .ref p2, .ref p3, .ref p4, .ref p5, .int 0, .ref p6, .int 0, .ref p7, .ref p8, .ref p9, .int 0]))] s.heap := hP
  have hl := lv_entry ([.ref h0, .int i]) (n := 2) (Nat.le_of_ble_eq_true rfl)
  rw [lg_entry_eq]
  generalize (lg_sl ([.ref h0, .int i]) ++ List.replicate (2 - (lg_sl ([.ref h0, .int i])).length) Slot.unset).toArray = ls at hl ⊢
  have hl : lv_has ls 2 [(0, .ref h0), (1, .int i)] := hl
  refine lv_aload_n hx hb dX9_withdraw_0 rfl (lv_at hl 0 rfl) ?_
  refine lv_iload_n hx hb dX9_withdraw_1 rfl (lv_at hl 1 rfl) ?_
  have hPc := hP.sub (ws' := [(h0, .inr (10, [.ref b0, .int 0, .ref p0, .ref u0, .ref r0, .ref a0, .ref t0, .ref s0, .ref o0])), (p0, .inr (7, [.int 0, .int 365, .int 0, .int 0, .ref p1, .int 0, .ref p2, .ref p3, .ref p4, .ref p5, .int 0, .ref p6, .int 0, .ref p7, .ref p8, .ref p9, .int 0]))]) [0, 1] rfl
  have hDc := hD.sub (ws' := [(h0, .inr (10, [.ref b0, .int 0, .ref p0, .ref u0, .ref r0, .ref a0, .ref t0, .ref s0, .ref o0])), (p0, .inr (7, [.int 0, .int 365, .int 0, .int 0, .ref p1, .int 0, .ref p2, .ref p3, .ref p4, .ref p5, .int 0, .ref p6, .int 0, .ref p7, .ref p8, .ref p9, .int 0]))]) [0, 1] (by decide) rfl
  have hFc := va_free (wc := [(h0, .inr (10, [.ref b0, .int 0, .ref p0, .ref u0, .ref r0, .ref a0, .ref t0, .ref s0, .ref o0])), (p0, .inr (7, [.int 0, .int 365, .int 0, .int 0, .ref p1, .int 0, .ref p2, .ref p3, .ref p4, .ref p5, .int 0, .ref p6, .int 0, .ref p7, .ref p8, .ref p9, .int 0]))]) hD hS hA [0, 1] rfl
  refine vx_callv (vx_runV (As := [.int i]) (rest := []) ⟨hx, hb, hml, hown, hts⟩ (c_needMilestone_thr l D cA sa h0 b0 p0 u0 r0 a0 t0 s0 o0 p1 p2 p3 p4 p5 p6 p7 p8 p9 i s.heap.size hl9) (cwV 1 hts gX9_withdraw_X9_needMilestone rfl rfl rfl (by decide +kernel) ⟨(Nat.le_of_ble_eq_true rfl), (Nat.le_of_ble_eq_true rfl)⟩) ⟨Wd.blind, va_recv hK hPc (ci := 10) (q0 := 0) rfl rfl, fun U hU hW => ⟨rfl, Wd.call hPc hDc hK hC hZ hS hFc U hU hW⟩⟩ rfl rfl hl.1 rfl (lv_room (Nat.le_of_ble_eq_true rfl)) dX9_withdraw_2 ⟨(Nat.le_of_ble_eq_true rfl), (Nat.le_of_ble_eq_true rfl)⟩) hS (fun q _ h => hFc q h) hFc (fun q _ h => hFc q h) (fun E ce q9 u t H1 locs ht hvm hpx hE hz1 hk1 hS hcell hv9 hcl => ?_) (fun u t H1 locs ht hvm hw hB hz1 hk1 hS => hw.elim)
  exact vx_out (fun x h => (hno x h).elim) hlocks hcell hv9 hcl (fun t ht hvm => ⟨(), trivial, hE, hS.F ht⟩) hS.2.2 (Nat.le_of_ble_eq_true rfl) (Nat.le_of_ble_eq_true rfl)

set_option maxHeartbeats 4000000 in
set_option maxRecDepth 100000 in
/-- cancel: there is no such thing -/
theorem c_cancel_thr (l : Launch) (D : va_G) (cA : Nat → ClassId) (sa : Nat → Nat) (h0 b0 p0 u0 r0 a0 t0 s0 o0 p1 p2 p3 p4 p5 p6 p7 p8 p9 : Nat) (i : Int32) (sz : Nat) (hl9 : l.stackTraces = false) : vx_Met l yX9_cancel wsX9_cancel ({ frames := 8, cells := 1, slots := 6, locals := 132 }) (va_Pc [.ref h0, .int i] (Wd D cA sa [(h0, .inr (10, [.ref b0, .int 0, .ref p0, .ref u0, .ref r0, .ref a0, .ref t0, .ref s0, .ref o0])), (p0, .inr (7, [.int 0, .int 365, .int 0, .int 0, .ref p1, .int 0, .ref p2, .ref p3, .ref p4, .ref p5, .int 0, .ref p6, .int 0, .ref p7, .ref p8, .ref p9, .int 0]))] sz)) (va_Qi (fun (_ : Int32) (_ : Unit) => False) (fun (_ : Unit) _ => True) (va_A [(h0, .inr (10, [.ref b0, .int 0, .ref p0, .ref u0, .ref r0, .ref a0, .ref t0, .ref s0, .ref o0])), (p0, .inr (7, [.int 0, .int 365, .int 0, .int 0, .ref p1, .int 0, .ref p2, .ref p3, .ref p4, .ref p5, .int 0, .ref p6, .int 0, .ref p7, .ref p8, .ref p9, .int 0]))] sz)) (vx_X (fun _ : Unit => True) (fun E _ _ => E = "java/lang/IndexOutOfBoundsException") (va_A [(h0, .inr (10, [.ref b0, .int 0, .ref p0, .ref u0, .ref r0, .ref a0, .ref t0, .ref s0, .ref o0])), (p0, .inr (7, [.int 0, .int 365, .int 0, .int 0, .ref p1, .int 0, .ref p2, .ref p3, .ref p4, .ref p5, .int 0, .ref p6, .int 0, .ref p7, .ref p8, .ref p9, .int 0]))] sz)) 1 6 (va_A [(h0, .inr (10, [.ref b0, .int 0, .ref p0, .ref u0, .ref r0, .ref a0, .ref t0, .ref s0, .ref o0])), (p0, .inr (7, [.int 0, .int 365, .int 0, .int 0, .ref p1, .int 0, .ref p2, .ref p3, .ref p4, .ref p5, .int 0, .ref p6, .int 0, .ref p7, .ref p8, .ref p9, .int 0]))] sz) := by
  refine vx_ofW (cc := cX9_cancel) (maxL := 3) (ret := (some .int)) (by decide) rfl ?_
  intro p e s m args below meth c s₁ B hml hno hv
  obtain ⟨rfl, hsz, hP, hK, hD0, hC, hZ⟩ := hv
  have hx := B.exec
  have hb := B.bytes
  have hr := B.returns
  have hts := atoms_spec (ws := wsX9_cancel) B.pre
  have hown : s.vm.findClass RX9 = some m.cls := findClass_of_methodNamed B.named
  have hlocks := B.notSynchronized
  subst hsz
  have hD := hD0.self (sz := s.heap.size)
  generalize hAe : va_A [(h0, .inr (10, [.ref b0, .int 0, .ref p0, .ref u0, .ref r0, .ref a0, .ref t0, .ref s0, .ref o0])), (p0, .inr (7, [.int 0, .int 365, .int 0, .int 0, .ref p1, .int 0, .ref p2, .ref p3, .ref p4, .ref p5, .int 0, .ref p6, .int 0, .ref p7, .ref p8, .ref p9, .int 0]))] s.heap.size = A at hD hZ ⊢
  have hA : ∀ q : Nat, s.heap.size ≤ q → A q := fun q h => by rw [← hAe]; exact Or.inr h
  have hS : va_S A s.heap s.heap [] := va_S.rf
  have hP : va_P D vwCl [(h0, .inr (10, [.ref b0, .int 0, .ref p0, .ref u0, .ref r0, .ref a0, .ref t0, .ref s0, .ref o0])), (p0, .inr (7, [.int 0, .int 365, .int 0, .int 0, .ref p1, .int 0, .ref p2, .ref p3, .ref p4, .ref p5, .int 0, .ref p6, .int 0, .ref p7, .ref p8, .ref p9, .int 0]))] s.heap := hP
  have hl := lv_entry ([.ref h0, .int i]) (n := 3) (Nat.le_of_ble_eq_true rfl)
  rw [lg_entry_eq]
  generalize (lg_sl ([.ref h0, .int i]) ++ List.replicate (3 - (lg_sl ([.ref h0, .int i])).length) Slot.unset).toArray = ls at hl ⊢
  have hl : lv_has ls 3 [(0, .ref h0), (1, .int i)] := hl
  refine lv_aload_n hx hb dX9_cancel_0 rfl (lv_at hl 0 rfl) ?_
  refine lv_iload_n hx hb dX9_cancel_1 rfl (lv_at hl 1 rfl) ?_
  have hPc := hP.sub (ws' := [(h0, .inr (10, [.ref b0, .int 0, .ref p0, .ref u0, .ref r0, .ref a0, .ref t0, .ref s0, .ref o0])), (p0, .inr (7, [.int 0, .int 365, .int 0, .int 0, .ref p1, .int 0, .ref p2, .ref p3, .ref p4, .ref p5, .int 0, .ref p6, .int 0, .ref p7, .ref p8, .ref p9, .int 0]))]) [0, 1] rfl
  have hDc := hD.sub (ws' := [(h0, .inr (10, [.ref b0, .int 0, .ref p0, .ref u0, .ref r0, .ref a0, .ref t0, .ref s0, .ref o0])), (p0, .inr (7, [.int 0, .int 365, .int 0, .int 0, .ref p1, .int 0, .ref p2, .ref p3, .ref p4, .ref p5, .int 0, .ref p6, .int 0, .ref p7, .ref p8, .ref p9, .int 0]))]) [0, 1] (by decide) rfl
  have hFc := va_free (wc := [(h0, .inr (10, [.ref b0, .int 0, .ref p0, .ref u0, .ref r0, .ref a0, .ref t0, .ref s0, .ref o0])), (p0, .inr (7, [.int 0, .int 365, .int 0, .int 0, .ref p1, .int 0, .ref p2, .ref p3, .ref p4, .ref p5, .int 0, .ref p6, .int 0, .ref p7, .ref p8, .ref p9, .int 0]))]) hD hS hA [0, 1] rfl
  refine vx_callv (vx_runV (As := [.int i]) (rest := []) ⟨hx, hb, hml, hown, hts⟩ (c_needMilestone_thr l D cA sa h0 b0 p0 u0 r0 a0 t0 s0 o0 p1 p2 p3 p4 p5 p6 p7 p8 p9 i s.heap.size hl9) (cwV 1 hts gX9_cancel_X9_needMilestone rfl rfl rfl (by decide +kernel) ⟨(Nat.le_of_ble_eq_true rfl), (Nat.le_of_ble_eq_true rfl)⟩) ⟨Wd.blind, va_recv hK hPc (ci := 10) (q0 := 0) rfl rfl, fun U hU hW => ⟨rfl, Wd.call hPc hDc hK hC hZ hS hFc U hU hW⟩⟩ rfl rfl hl.1 rfl (lv_room (Nat.le_of_ble_eq_true rfl)) dX9_cancel_2 ⟨(Nat.le_of_ble_eq_true rfl), (Nat.le_of_ble_eq_true rfl)⟩) hS (fun q _ h => hFc q h) hFc (fun q _ h => hFc q h) (fun E ce q9 u t H1 locs ht hvm hpx hE hz1 hk1 hS hcell hv9 hcl => ?_) (fun u t H1 locs ht hvm hw hB hz1 hk1 hS => hw.elim)
  exact vx_out (fun x h => (hno x h).elim) hlocks hcell hv9 hcl (fun t ht hvm => ⟨(), trivial, hE, hS.F ht⟩) hS.2.2 (Nat.le_of_ble_eq_true rfl) (Nat.le_of_ble_eq_true rfl)

set_option maxHeartbeats 4000000 in
set_option maxRecDepth 100000 in
/-- write: there is no such thing -/
theorem c_write_thr (l : Launch) (D : va_G) (cA : Nat → ClassId) (sa : Nat → Nat) (h0 b0 p0 u0 r0 a0 t0 s0 o0 p1 p2 p3 p4 p5 p6 p7 p8 p9 : Nat) (i : Int32) (sz : Nat) (hl9 : l.stackTraces = false) : vx_Met l yX9_write wsX9_write ({ frames := 8, cells := 1, slots := 6, locals := 132 }) (va_Pc [.ref h0, .int i] (Wd D cA sa [(h0, .inr (10, [.ref b0, .int 0, .ref p0, .ref u0, .ref r0, .ref a0, .ref t0, .ref s0, .ref o0])), (p0, .inr (7, [.int 0, .int 365, .int 0, .int 0, .ref p1, .int 0, .ref p2, .ref p3, .ref p4, .ref p5, .int 0, .ref p6, .int 0, .ref p7, .ref p8, .ref p9, .int 0]))] sz)) (va_Qi (fun (_ : Int32) (_ : Unit) => False) (fun (_ : Unit) _ => True) (va_A [(h0, .inr (10, [.ref b0, .int 0, .ref p0, .ref u0, .ref r0, .ref a0, .ref t0, .ref s0, .ref o0])), (p0, .inr (7, [.int 0, .int 365, .int 0, .int 0, .ref p1, .int 0, .ref p2, .ref p3, .ref p4, .ref p5, .int 0, .ref p6, .int 0, .ref p7, .ref p8, .ref p9, .int 0]))] sz)) (vx_X (fun _ : Unit => True) (fun E _ _ => E = "java/lang/IndexOutOfBoundsException") (va_A [(h0, .inr (10, [.ref b0, .int 0, .ref p0, .ref u0, .ref r0, .ref a0, .ref t0, .ref s0, .ref o0])), (p0, .inr (7, [.int 0, .int 365, .int 0, .int 0, .ref p1, .int 0, .ref p2, .ref p3, .ref p4, .ref p5, .int 0, .ref p6, .int 0, .ref p7, .ref p8, .ref p9, .int 0]))] sz)) 1 6 (va_A [(h0, .inr (10, [.ref b0, .int 0, .ref p0, .ref u0, .ref r0, .ref a0, .ref t0, .ref s0, .ref o0])), (p0, .inr (7, [.int 0, .int 365, .int 0, .int 0, .ref p1, .int 0, .ref p2, .ref p3, .ref p4, .ref p5, .int 0, .ref p6, .int 0, .ref p7, .ref p8, .ref p9, .int 0]))] sz) := by
  refine vx_ofW (cc := cX9_write) (maxL := 3) (ret := (some .int)) (by decide) rfl ?_
  intro p e s m args below meth c s₁ B hml hno hv
  obtain ⟨rfl, hsz, hP, hK, hD0, hC, hZ⟩ := hv
  have hx := B.exec
  have hb := B.bytes
  have hr := B.returns
  have hts := atoms_spec (ws := wsX9_write) B.pre
  have hown : s.vm.findClass RX9 = some m.cls := findClass_of_methodNamed B.named
  have hlocks := B.notSynchronized
  subst hsz
  have hD := hD0.self (sz := s.heap.size)
  generalize hAe : va_A [(h0, .inr (10, [.ref b0, .int 0, .ref p0, .ref u0, .ref r0, .ref a0, .ref t0, .ref s0, .ref o0])), (p0, .inr (7, [.int 0, .int 365, .int 0, .int 0, .ref p1, .int 0, .ref p2, .ref p3, .ref p4, .ref p5, .int 0, .ref p6, .int 0, .ref p7, .ref p8, .ref p9, .int 0]))] s.heap.size = A at hD hZ ⊢
  have hA : ∀ q : Nat, s.heap.size ≤ q → A q := fun q h => by rw [← hAe]; exact Or.inr h
  have hS : va_S A s.heap s.heap [] := va_S.rf
  have hP : va_P D vwCl [(h0, .inr (10, [.ref b0, .int 0, .ref p0, .ref u0, .ref r0, .ref a0, .ref t0, .ref s0, .ref o0])), (p0, .inr (7, [.int 0, .int 365, .int 0, .int 0, .ref p1, .int 0, .ref p2, .ref p3, .ref p4, .ref p5, .int 0, .ref p6, .int 0, .ref p7, .ref p8, .ref p9, .int 0]))] s.heap := hP
  have hl := lv_entry ([.ref h0, .int i]) (n := 3) (Nat.le_of_ble_eq_true rfl)
  rw [lg_entry_eq]
  generalize (lg_sl ([.ref h0, .int i]) ++ List.replicate (3 - (lg_sl ([.ref h0, .int i])).length) Slot.unset).toArray = ls at hl ⊢
  have hl : lv_has ls 3 [(0, .ref h0), (1, .int i)] := hl
  refine lv_aload_n hx hb dX9_write_0 rfl (lv_at hl 0 rfl) ?_
  refine lv_iload_n hx hb dX9_write_1 rfl (lv_at hl 1 rfl) ?_
  have hPc := hP.sub (ws' := [(h0, .inr (10, [.ref b0, .int 0, .ref p0, .ref u0, .ref r0, .ref a0, .ref t0, .ref s0, .ref o0])), (p0, .inr (7, [.int 0, .int 365, .int 0, .int 0, .ref p1, .int 0, .ref p2, .ref p3, .ref p4, .ref p5, .int 0, .ref p6, .int 0, .ref p7, .ref p8, .ref p9, .int 0]))]) [0, 1] rfl
  have hDc := hD.sub (ws' := [(h0, .inr (10, [.ref b0, .int 0, .ref p0, .ref u0, .ref r0, .ref a0, .ref t0, .ref s0, .ref o0])), (p0, .inr (7, [.int 0, .int 365, .int 0, .int 0, .ref p1, .int 0, .ref p2, .ref p3, .ref p4, .ref p5, .int 0, .ref p6, .int 0, .ref p7, .ref p8, .ref p9, .int 0]))]) [0, 1] (by decide) rfl
  have hFc := va_free (wc := [(h0, .inr (10, [.ref b0, .int 0, .ref p0, .ref u0, .ref r0, .ref a0, .ref t0, .ref s0, .ref o0])), (p0, .inr (7, [.int 0, .int 365, .int 0, .int 0, .ref p1, .int 0, .ref p2, .ref p3, .ref p4, .ref p5, .int 0, .ref p6, .int 0, .ref p7, .ref p8, .ref p9, .int 0]))]) hD hS hA [0, 1] rfl
  refine vx_callv (vx_runV (As := [.int i]) (rest := []) ⟨hx, hb, hml, hown, hts⟩ (c_needMilestone_thr l D cA sa h0 b0 p0 u0 r0 a0 t0 s0 o0 p1 p2 p3 p4 p5 p6 p7 p8 p9 i s.heap.size hl9) (cwV 1 hts gX9_write_X9_needMilestone rfl rfl rfl (by decide +kernel) ⟨(Nat.le_of_ble_eq_true rfl), (Nat.le_of_ble_eq_true rfl)⟩) ⟨Wd.blind, va_recv hK hPc (ci := 10) (q0 := 0) rfl rfl, fun U hU hW => ⟨rfl, Wd.call hPc hDc hK hC hZ hS hFc U hU hW⟩⟩ rfl rfl hl.1 rfl (lv_room (Nat.le_of_ble_eq_true rfl)) dX9_write_2 ⟨(Nat.le_of_ble_eq_true rfl), (Nat.le_of_ble_eq_true rfl)⟩) hS (fun q _ h => hFc q h) hFc (fun q _ h => hFc q h) (fun E ce q9 u t H1 locs ht hvm hpx hE hz1 hk1 hS hcell hv9 hcl => ?_) (fun u t H1 locs ht hvm hw hB hz1 hk1 hS => hw.elim)
  exact vx_out (fun x h => (hno x h).elim) hlocks hcell hv9 hcl (fun t ht hvm => ⟨(), trivial, hE, hS.F ht⟩) hS.2.2 (Nat.le_of_ble_eq_true rfl) (Nat.le_of_ble_eq_true rfl)

set_option maxHeartbeats 4000000 in
set_option maxRecDepth 100000 in
/-- isSubmitted: there is no such thing -/
theorem c_isSubmitted_thr (l : Launch) (D : va_G) (cA : Nat → ClassId) (sa : Nat → Nat) (h0 b0 p0 u0 r0 a0 t0 s0 o0 p1 p2 p3 p4 p5 p6 p7 p8 p9 : Nat) (i : Int32) (sz : Nat) (hl9 : l.stackTraces = false) : vx_Met l yX9_isSubmitted wsX9_isSubmitted ({ frames := 8, cells := 1, slots := 6, locals := 132 }) (va_Pc [.ref h0, .int i] (Wd D cA sa [(h0, .inr (10, [.ref b0, .int 0, .ref p0, .ref u0, .ref r0, .ref a0, .ref t0, .ref s0, .ref o0])), (p0, .inr (7, [.int 0, .int 365, .int 0, .int 0, .ref p1, .int 0, .ref p2, .ref p3, .ref p4, .ref p5, .int 0, .ref p6, .int 0, .ref p7, .ref p8, .ref p9, .int 0]))] sz)) (va_Qi (fun (_ : Int32) (_ : Unit) => False) (fun (_ : Unit) _ => True) (va_A [(h0, .inr (10, [.ref b0, .int 0, .ref p0, .ref u0, .ref r0, .ref a0, .ref t0, .ref s0, .ref o0])), (p0, .inr (7, [.int 0, .int 365, .int 0, .int 0, .ref p1, .int 0, .ref p2, .ref p3, .ref p4, .ref p5, .int 0, .ref p6, .int 0, .ref p7, .ref p8, .ref p9, .int 0]))] sz)) (vx_X (fun _ : Unit => True) (fun E _ _ => E = "java/lang/IndexOutOfBoundsException") (va_A [(h0, .inr (10, [.ref b0, .int 0, .ref p0, .ref u0, .ref r0, .ref a0, .ref t0, .ref s0, .ref o0])), (p0, .inr (7, [.int 0, .int 365, .int 0, .int 0, .ref p1, .int 0, .ref p2, .ref p3, .ref p4, .ref p5, .int 0, .ref p6, .int 0, .ref p7, .ref p8, .ref p9, .int 0]))] sz)) 1 6 (va_A [(h0, .inr (10, [.ref b0, .int 0, .ref p0, .ref u0, .ref r0, .ref a0, .ref t0, .ref s0, .ref o0])), (p0, .inr (7, [.int 0, .int 365, .int 0, .int 0, .ref p1, .int 0, .ref p2, .ref p3, .ref p4, .ref p5, .int 0, .ref p6, .int 0, .ref p7, .ref p8, .ref p9, .int 0]))] sz) := by
  refine vx_ofW (cc := cX9_isSubmitted) (maxL := 2) (ret := (some .boolean)) (by decide) rfl ?_
  intro p e s m args below meth c s₁ B hml hno hv
  obtain ⟨rfl, hsz, hP, hK, hD0, hC, hZ⟩ := hv
  have hx := B.exec
  have hb := B.bytes
  have hr := B.returns
  have hts := atoms_spec (ws := wsX9_isSubmitted) B.pre
  have hown : s.vm.findClass RX9 = some m.cls := findClass_of_methodNamed B.named
  have hlocks := B.notSynchronized
  subst hsz
  have hD := hD0.self (sz := s.heap.size)
  generalize hAe : va_A [(h0, .inr (10, [.ref b0, .int 0, .ref p0, .ref u0, .ref r0, .ref a0, .ref t0, .ref s0, .ref o0])), (p0, .inr (7, [.int 0, .int 365, .int 0, .int 0, .ref p1, .int 0, .ref p2, .ref p3, .ref p4, .ref p5, .int 0, .ref p6, .int 0, .ref p7, .ref p8, .ref p9, .int 0]))] s.heap.size = A at hD hZ ⊢
  have hA : ∀ q : Nat, s.heap.size ≤ q → A q := fun q h => by rw [← hAe]; exact Or.inr h
  have hS : va_S A s.heap s.heap [] := va_S.rf
  have hP : va_P D vwCl [(h0, .inr (10, [.ref b0, .int 0, .ref p0, .ref u0, .ref r0, .ref a0, .ref t0, .ref s0, .ref o0])), (p0, .inr (7, [.int 0, .int 365, .int 0, .int 0, .ref p1, .int 0, .ref p2, .ref p3, .ref p4, .ref p5, .int 0, .ref p6, .int 0, .ref p7, .ref p8, .ref p9, .int 0]))] s.heap := hP
  have hl := lv_entry ([.ref h0, .int i]) (n := 2) (Nat.le_of_ble_eq_true rfl)
  rw [lg_entry_eq]
  generalize (lg_sl ([.ref h0, .int i]) ++ List.replicate (2 - (lg_sl ([.ref h0, .int i])).length) Slot.unset).toArray = ls at hl ⊢
  have hl : lv_has ls 2 [(0, .ref h0), (1, .int i)] := hl
  refine lv_aload_n hx hb dX9_isSubmitted_0 rfl (lv_at hl 0 rfl) ?_
  refine lv_iload_n hx hb dX9_isSubmitted_1 rfl (lv_at hl 1 rfl) ?_
  have hPc := hP.sub (ws' := [(h0, .inr (10, [.ref b0, .int 0, .ref p0, .ref u0, .ref r0, .ref a0, .ref t0, .ref s0, .ref o0])), (p0, .inr (7, [.int 0, .int 365, .int 0, .int 0, .ref p1, .int 0, .ref p2, .ref p3, .ref p4, .ref p5, .int 0, .ref p6, .int 0, .ref p7, .ref p8, .ref p9, .int 0]))]) [0, 1] rfl
  have hDc := hD.sub (ws' := [(h0, .inr (10, [.ref b0, .int 0, .ref p0, .ref u0, .ref r0, .ref a0, .ref t0, .ref s0, .ref o0])), (p0, .inr (7, [.int 0, .int 365, .int 0, .int 0, .ref p1, .int 0, .ref p2, .ref p3, .ref p4, .ref p5, .int 0, .ref p6, .int 0, .ref p7, .ref p8, .ref p9, .int 0]))]) [0, 1] (by decide) rfl
  have hFc := va_free (wc := [(h0, .inr (10, [.ref b0, .int 0, .ref p0, .ref u0, .ref r0, .ref a0, .ref t0, .ref s0, .ref o0])), (p0, .inr (7, [.int 0, .int 365, .int 0, .int 0, .ref p1, .int 0, .ref p2, .ref p3, .ref p4, .ref p5, .int 0, .ref p6, .int 0, .ref p7, .ref p8, .ref p9, .int 0]))]) hD hS hA [0, 1] rfl
  refine vx_callv (vx_runV (As := [.int i]) (rest := []) ⟨hx, hb, hml, hown, hts⟩ (c_needProof_thr l D cA sa h0 b0 p0 u0 r0 a0 t0 s0 o0 p1 p2 p3 p4 p5 p6 p7 p8 p9 i s.heap.size hl9) (cwV 1 hts gX9_isSubmitted_X9_needProof rfl rfl rfl (by decide +kernel) ⟨(Nat.le_of_ble_eq_true rfl), (Nat.le_of_ble_eq_true rfl)⟩) ⟨Wd.blind, va_recv hK hPc (ci := 10) (q0 := 0) rfl rfl, fun U hU hW => ⟨rfl, Wd.call hPc hDc hK hC hZ hS hFc U hU hW⟩⟩ rfl rfl hl.1 rfl (lv_room (Nat.le_of_ble_eq_true rfl)) dX9_isSubmitted_2 ⟨(Nat.le_of_ble_eq_true rfl), (Nat.le_of_ble_eq_true rfl)⟩) hS (fun q _ h => hFc q h) hFc (fun q _ h => hFc q h) (fun E ce q9 u t H1 locs ht hvm hpx hE hz1 hk1 hS hcell hv9 hcl => ?_) (fun u t H1 locs ht hvm hw hB hz1 hk1 hS => hw.elim)
  exact vx_out (fun x h => (hno x h).elim) hlocks hcell hv9 hcl (fun t ht hvm => ⟨(), trivial, hE, hS.F ht⟩) hS.2.2 (Nat.le_of_ble_eq_true rfl) (Nat.le_of_ble_eq_true rfl)

set_option maxHeartbeats 4000000 in
set_option maxRecDepth 100000 in
/-- submit: there is no such thing -/
theorem c_submit_thr (l : Launch) (D : va_G) (cA : Nat → ClassId) (sa : Nat → Nat) (h0 b0 p0 u0 r0 a0 t0 s0 o0 p1 p2 p3 p4 p5 p6 p7 p8 p9 : Nat) (i : Int32) (sz : Nat) (hl9 : l.stackTraces = false) : vx_Met l yX9_submit wsX9_submit ({ frames := 8, cells := 1, slots := 6, locals := 132 }) (va_Pc [.ref h0, .int i] (Wd D cA sa [(h0, .inr (10, [.ref b0, .int 0, .ref p0, .ref u0, .ref r0, .ref a0, .ref t0, .ref s0, .ref o0])), (p0, .inr (7, [.int 0, .int 365, .int 0, .int 0, .ref p1, .int 0, .ref p2, .ref p3, .ref p4, .ref p5, .int 0, .ref p6, .int 0, .ref p7, .ref p8, .ref p9, .int 0]))] sz)) (va_Qi (fun (_ : Int32) (_ : Unit) => False) (fun (_ : Unit) _ => True) (va_A [(h0, .inr (10, [.ref b0, .int 0, .ref p0, .ref u0, .ref r0, .ref a0, .ref t0, .ref s0, .ref o0])), (p0, .inr (7, [.int 0, .int 365, .int 0, .int 0, .ref p1, .int 0, .ref p2, .ref p3, .ref p4, .ref p5, .int 0, .ref p6, .int 0, .ref p7, .ref p8, .ref p9, .int 0]))] sz)) (vx_X (fun _ : Unit => True) (fun E _ _ => E = "java/lang/IndexOutOfBoundsException") (va_A [(h0, .inr (10, [.ref b0, .int 0, .ref p0, .ref u0, .ref r0, .ref a0, .ref t0, .ref s0, .ref o0])), (p0, .inr (7, [.int 0, .int 365, .int 0, .int 0, .ref p1, .int 0, .ref p2, .ref p3, .ref p4, .ref p5, .int 0, .ref p6, .int 0, .ref p7, .ref p8, .ref p9, .int 0]))] sz)) 1 6 (va_A [(h0, .inr (10, [.ref b0, .int 0, .ref p0, .ref u0, .ref r0, .ref a0, .ref t0, .ref s0, .ref o0])), (p0, .inr (7, [.int 0, .int 365, .int 0, .int 0, .ref p1, .int 0, .ref p2, .ref p3, .ref p4, .ref p5, .int 0, .ref p6, .int 0, .ref p7, .ref p8, .ref p9, .int 0]))] sz) := by
  refine vx_ofW (cc := cX9_submit) (maxL := 3) (ret := (some .boolean)) (by decide) rfl ?_
  intro p e s m args below meth c s₁ B hml hno hv
  obtain ⟨rfl, hsz, hP, hK, hD0, hC, hZ⟩ := hv
  have hx := B.exec
  have hb := B.bytes
  have hr := B.returns
  have hts := atoms_spec (ws := wsX9_submit) B.pre
  have hown : s.vm.findClass RX9 = some m.cls := findClass_of_methodNamed B.named
  have hlocks := B.notSynchronized
  subst hsz
  have hD := hD0.self (sz := s.heap.size)
  generalize hAe : va_A [(h0, .inr (10, [.ref b0, .int 0, .ref p0, .ref u0, .ref r0, .ref a0, .ref t0, .ref s0, .ref o0])), (p0, .inr (7, [.int 0, .int 365, .int 0, .int 0, .ref p1, .int 0, .ref p2, .ref p3, .ref p4, .ref p5, .int 0, .ref p6, .int 0, .ref p7, .ref p8, .ref p9, .int 0]))] s.heap.size = A at hD hZ ⊢
  have hA : ∀ q : Nat, s.heap.size ≤ q → A q := fun q h => by rw [← hAe]; exact Or.inr h
  have hS : va_S A s.heap s.heap [] := va_S.rf
  have hP : va_P D vwCl [(h0, .inr (10, [.ref b0, .int 0, .ref p0, .ref u0, .ref r0, .ref a0, .ref t0, .ref s0, .ref o0])), (p0, .inr (7, [.int 0, .int 365, .int 0, .int 0, .ref p1, .int 0, .ref p2, .ref p3, .ref p4, .ref p5, .int 0, .ref p6, .int 0, .ref p7, .ref p8, .ref p9, .int 0]))] s.heap := hP
  have hl := lv_entry ([.ref h0, .int i]) (n := 3) (Nat.le_of_ble_eq_true rfl)
  rw [lg_entry_eq]
  generalize (lg_sl ([.ref h0, .int i]) ++ List.replicate (3 - (lg_sl ([.ref h0, .int i])).length) Slot.unset).toArray = ls at hl ⊢
  have hl : lv_has ls 3 [(0, .ref h0), (1, .int i)] := hl
  refine lv_aload_n hx hb dX9_submit_0 rfl (lv_at hl 0 rfl) ?_
  refine lv_iload_n hx hb dX9_submit_1 rfl (lv_at hl 1 rfl) ?_
  have hPc := hP.sub (ws' := [(h0, .inr (10, [.ref b0, .int 0, .ref p0, .ref u0, .ref r0, .ref a0, .ref t0, .ref s0, .ref o0])), (p0, .inr (7, [.int 0, .int 365, .int 0, .int 0, .ref p1, .int 0, .ref p2, .ref p3, .ref p4, .ref p5, .int 0, .ref p6, .int 0, .ref p7, .ref p8, .ref p9, .int 0]))]) [0, 1] rfl
  have hDc := hD.sub (ws' := [(h0, .inr (10, [.ref b0, .int 0, .ref p0, .ref u0, .ref r0, .ref a0, .ref t0, .ref s0, .ref o0])), (p0, .inr (7, [.int 0, .int 365, .int 0, .int 0, .ref p1, .int 0, .ref p2, .ref p3, .ref p4, .ref p5, .int 0, .ref p6, .int 0, .ref p7, .ref p8, .ref p9, .int 0]))]) [0, 1] (by decide) rfl
  have hFc := va_free (wc := [(h0, .inr (10, [.ref b0, .int 0, .ref p0, .ref u0, .ref r0, .ref a0, .ref t0, .ref s0, .ref o0])), (p0, .inr (7, [.int 0, .int 365, .int 0, .int 0, .ref p1, .int 0, .ref p2, .ref p3, .ref p4, .ref p5, .int 0, .ref p6, .int 0, .ref p7, .ref p8, .ref p9, .int 0]))]) hD hS hA [0, 1] rfl
  refine vx_callv (vx_runV (As := [.int i]) (rest := []) ⟨hx, hb, hml, hown, hts⟩ (c_needProof_thr l D cA sa h0 b0 p0 u0 r0 a0 t0 s0 o0 p1 p2 p3 p4 p5 p6 p7 p8 p9 i s.heap.size hl9) (cwV 1 hts gX9_submit_X9_needProof rfl rfl rfl (by decide +kernel) ⟨(Nat.le_of_ble_eq_true rfl), (Nat.le_of_ble_eq_true rfl)⟩) ⟨Wd.blind, va_recv hK hPc (ci := 10) (q0 := 0) rfl rfl, fun U hU hW => ⟨rfl, Wd.call hPc hDc hK hC hZ hS hFc U hU hW⟩⟩ rfl rfl hl.1 rfl (lv_room (Nat.le_of_ble_eq_true rfl)) dX9_submit_2 ⟨(Nat.le_of_ble_eq_true rfl), (Nat.le_of_ble_eq_true rfl)⟩) hS (fun q _ h => hFc q h) hFc (fun q _ h => hFc q h) (fun E ce q9 u t H1 locs ht hvm hpx hE hz1 hk1 hS hcell hv9 hcl => ?_) (fun u t H1 locs ht hvm hw hB hz1 hk1 hS => hw.elim)
  exact vx_out (fun x h => (hno x h).elim) hlocks hcell hv9 hcl (fun t ht hvm => ⟨(), trivial, hE, hS.F ht⟩) hS.2.2 (Nat.le_of_ble_eq_true rfl) (Nat.le_of_ble_eq_true rfl)

set_option maxHeartbeats 4000000 in
set_option maxRecDepth 100000 in
/-- wouldHold: there is no such thing -/
theorem c_wouldHold_thr (l : Launch) (D : va_G) (cA : Nat → ClassId) (sa : Nat → Nat) (h0 b0 p0 u0 r0 a0 t0 s0 o0 p1 p2 p3 p4 p5 p6 p7 p8 p9 : Nat) (i j : Int32) (sz : Nat) (hl9 : l.stackTraces = false) : vx_Met l yX9_wouldHold wsX9_wouldHold ({ frames := 8, cells := 1, slots := 6, locals := 132 }) (va_Pc [.ref h0, .int i, .int j] (Wd D cA sa [(h0, .inr (10, [.ref b0, .int 0, .ref p0, .ref u0, .ref r0, .ref a0, .ref t0, .ref s0, .ref o0])), (p0, .inr (7, [.int 0, .int 365, .int 0, .int 0, .ref p1, .int 0, .ref p2, .ref p3, .ref p4, .ref p5, .int 0, .ref p6, .int 0, .ref p7, .ref p8, .ref p9, .int 0]))] sz)) (va_Qi (fun (_ : Int32) (_ : Unit) => False) (fun (_ : Unit) _ => True) (va_A [(h0, .inr (10, [.ref b0, .int 0, .ref p0, .ref u0, .ref r0, .ref a0, .ref t0, .ref s0, .ref o0])), (p0, .inr (7, [.int 0, .int 365, .int 0, .int 0, .ref p1, .int 0, .ref p2, .ref p3, .ref p4, .ref p5, .int 0, .ref p6, .int 0, .ref p7, .ref p8, .ref p9, .int 0]))] sz)) (vx_X (fun _ : Unit => True) (fun E _ _ => E = "java/lang/IndexOutOfBoundsException") (va_A [(h0, .inr (10, [.ref b0, .int 0, .ref p0, .ref u0, .ref r0, .ref a0, .ref t0, .ref s0, .ref o0])), (p0, .inr (7, [.int 0, .int 365, .int 0, .int 0, .ref p1, .int 0, .ref p2, .ref p3, .ref p4, .ref p5, .int 0, .ref p6, .int 0, .ref p7, .ref p8, .ref p9, .int 0]))] sz)) 1 6 (va_A [(h0, .inr (10, [.ref b0, .int 0, .ref p0, .ref u0, .ref r0, .ref a0, .ref t0, .ref s0, .ref o0])), (p0, .inr (7, [.int 0, .int 365, .int 0, .int 0, .ref p1, .int 0, .ref p2, .ref p3, .ref p4, .ref p5, .int 0, .ref p6, .int 0, .ref p7, .ref p8, .ref p9, .int 0]))] sz) := by
  refine vx_ofW (cc := cX9_wouldHold) (maxL := 3) (ret := (some .boolean)) (by decide) rfl ?_
  intro p e s m args below meth c s₁ B hml hno hv
  obtain ⟨rfl, hsz, hP, hK, hD0, hC, hZ⟩ := hv
  have hx := B.exec
  have hb := B.bytes
  have hr := B.returns
  have hts := atoms_spec (ws := wsX9_wouldHold) B.pre
  have hown : s.vm.findClass RX9 = some m.cls := findClass_of_methodNamed B.named
  have hlocks := B.notSynchronized
  subst hsz
  have hD := hD0.self (sz := s.heap.size)
  generalize hAe : va_A [(h0, .inr (10, [.ref b0, .int 0, .ref p0, .ref u0, .ref r0, .ref a0, .ref t0, .ref s0, .ref o0])), (p0, .inr (7, [.int 0, .int 365, .int 0, .int 0, .ref p1, .int 0, .ref p2, .ref p3, .ref p4, .ref p5, .int 0, .ref p6, .int 0, .ref p7, .ref p8, .ref p9, .int 0]))] s.heap.size = A at hD hZ ⊢
  have hA : ∀ q : Nat, s.heap.size ≤ q → A q := fun q h => by rw [← hAe]; exact Or.inr h
  have hS : va_S A s.heap s.heap [] := va_S.rf
  have hP : va_P D vwCl [(h0, .inr (10, [.ref b0, .int 0, .ref p0, .ref u0, .ref r0, .ref a0, .ref t0, .ref s0, .ref o0])), (p0, .inr (7, [.int 0, .int 365, .int 0, .int 0, .ref p1, .int 0, .ref p2, .ref p3, .ref p4, .ref p5, .int 0, .ref p6, .int 0, .ref p7, .ref p8, .ref p9, .int 0]))] s.heap := hP
  have hl := lv_entry ([.ref h0, .int i, .int j]) (n := 3) (Nat.le_of_ble_eq_true rfl)
  rw [lg_entry_eq]
  generalize (lg_sl ([.ref h0, .int i, .int j]) ++ List.replicate (3 - (lg_sl ([.ref h0, .int i, .int j])).length) Slot.unset).toArray = ls at hl ⊢
  have hl : lv_has ls 3 [(0, .ref h0), (1, .int i), (2, .int j)] := hl
  refine lv_aload_n hx hb dX9_wouldHold_0 rfl (lv_at hl 0 rfl) ?_
  refine lv_iload_n hx hb dX9_wouldHold_1 rfl (lv_at hl 1 rfl) ?_
  have hPc := hP.sub (ws' := [(h0, .inr (10, [.ref b0, .int 0, .ref p0, .ref u0, .ref r0, .ref a0, .ref t0, .ref s0, .ref o0])), (p0, .inr (7, [.int 0, .int 365, .int 0, .int 0, .ref p1, .int 0, .ref p2, .ref p3, .ref p4, .ref p5, .int 0, .ref p6, .int 0, .ref p7, .ref p8, .ref p9, .int 0]))]) [0, 1] rfl
  have hDc := hD.sub (ws' := [(h0, .inr (10, [.ref b0, .int 0, .ref p0, .ref u0, .ref r0, .ref a0, .ref t0, .ref s0, .ref o0])), (p0, .inr (7, [.int 0, .int 365, .int 0, .int 0, .ref p1, .int 0, .ref p2, .ref p3, .ref p4, .ref p5, .int 0, .ref p6, .int 0, .ref p7, .ref p8, .ref p9, .int 0]))]) [0, 1] (by decide) rfl
  have hFc := va_free (wc := [(h0, .inr (10, [.ref b0, .int 0, .ref p0, .ref u0, .ref r0, .ref a0, .ref t0, .ref s0, .ref o0])), (p0, .inr (7, [.int 0, .int 365, .int 0, .int 0, .ref p1, .int 0, .ref p2, .ref p3, .ref p4, .ref p5, .int 0, .ref p6, .int 0, .ref p7, .ref p8, .ref p9, .int 0]))]) hD hS hA [0, 1] rfl
  refine vx_callv (vx_runV (As := [.int i]) (rest := []) ⟨hx, hb, hml, hown, hts⟩ (c_needMilestone_thr l D cA sa h0 b0 p0 u0 r0 a0 t0 s0 o0 p1 p2 p3 p4 p5 p6 p7 p8 p9 i s.heap.size hl9) (cwV 1 hts gX9_wouldHold_X9_needMilestone rfl rfl rfl (by decide +kernel) ⟨(Nat.le_of_ble_eq_true rfl), (Nat.le_of_ble_eq_true rfl)⟩) ⟨Wd.blind, va_recv hK hPc (ci := 10) (q0 := 0) rfl rfl, fun U hU hW => ⟨rfl, Wd.call hPc hDc hK hC hZ hS hFc U hU hW⟩⟩ rfl rfl hl.1 rfl (lv_room (Nat.le_of_ble_eq_true rfl)) dX9_wouldHold_2 ⟨(Nat.le_of_ble_eq_true rfl), (Nat.le_of_ble_eq_true rfl)⟩) hS (fun q _ h => hFc q h) hFc (fun q _ h => hFc q h) (fun E ce q9 u t H1 locs ht hvm hpx hE hz1 hk1 hS hcell hv9 hcl => ?_) (fun u t H1 locs ht hvm hw hB hz1 hk1 hS => hw.elim)
  exact vx_out (fun x h => (hno x h).elim) hlocks hcell hv9 hcl (fun t ht hvm => ⟨(), trivial, hE, hS.F ht⟩) hS.2.2 (Nat.le_of_ble_eq_true rfl) (Nat.le_of_ble_eq_true rfl)

set_option maxHeartbeats 4000000 in
set_option maxRecDepth 100000 in
/-- paidAfter: there is no such thing -/
theorem c_paidAfter_thr (l : Launch) (D : va_G) (cA : Nat → ClassId) (sa : Nat → Nat) (h0 b0 p0 u0 r0 a0 t0 s0 o0 p1 p2 p3 p4 p5 p6 p7 p8 p9 : Nat) (i j : Int32) (sz : Nat) (hl9 : l.stackTraces = false) : vx_Met l yX9_paidAfter wsX9_paidAfter ({ frames := 8, cells := 1, slots := 6, locals := 132 }) (va_Pc [.ref h0, .int i, .int j] (Wd D cA sa [(h0, .inr (10, [.ref b0, .int 0, .ref p0, .ref u0, .ref r0, .ref a0, .ref t0, .ref s0, .ref o0])), (p0, .inr (7, [.int 0, .int 365, .int 0, .int 0, .ref p1, .int 0, .ref p2, .ref p3, .ref p4, .ref p5, .int 0, .ref p6, .int 0, .ref p7, .ref p8, .ref p9, .int 0]))] sz)) (va_Qi (fun (_ : Int32) (_ : Unit) => False) (fun (_ : Unit) _ => True) (va_A [(h0, .inr (10, [.ref b0, .int 0, .ref p0, .ref u0, .ref r0, .ref a0, .ref t0, .ref s0, .ref o0])), (p0, .inr (7, [.int 0, .int 365, .int 0, .int 0, .ref p1, .int 0, .ref p2, .ref p3, .ref p4, .ref p5, .int 0, .ref p6, .int 0, .ref p7, .ref p8, .ref p9, .int 0]))] sz)) (vx_X (fun _ : Unit => True) (fun E _ _ => E = "java/lang/IndexOutOfBoundsException") (va_A [(h0, .inr (10, [.ref b0, .int 0, .ref p0, .ref u0, .ref r0, .ref a0, .ref t0, .ref s0, .ref o0])), (p0, .inr (7, [.int 0, .int 365, .int 0, .int 0, .ref p1, .int 0, .ref p2, .ref p3, .ref p4, .ref p5, .int 0, .ref p6, .int 0, .ref p7, .ref p8, .ref p9, .int 0]))] sz)) 1 6 (va_A [(h0, .inr (10, [.ref b0, .int 0, .ref p0, .ref u0, .ref r0, .ref a0, .ref t0, .ref s0, .ref o0])), (p0, .inr (7, [.int 0, .int 365, .int 0, .int 0, .ref p1, .int 0, .ref p2, .ref p3, .ref p4, .ref p5, .int 0, .ref p6, .int 0, .ref p7, .ref p8, .ref p9, .int 0]))] sz) := by
  refine vx_ofW (cc := cX9_paidAfter) (maxL := 3) (ret := (some .int)) (by decide) rfl ?_
  intro p e s m args below meth c s₁ B hml hno hv
  obtain ⟨rfl, hsz, hP, hK, hD0, hC, hZ⟩ := hv
  have hx := B.exec
  have hb := B.bytes
  have hr := B.returns
  have hts := atoms_spec (ws := wsX9_paidAfter) B.pre
  have hown : s.vm.findClass RX9 = some m.cls := findClass_of_methodNamed B.named
  have hlocks := B.notSynchronized
  subst hsz
  have hD := hD0.self (sz := s.heap.size)
  generalize hAe : va_A [(h0, .inr (10, [.ref b0, .int 0, .ref p0, .ref u0, .ref r0, .ref a0, .ref t0, .ref s0, .ref o0])), (p0, .inr (7, [.int 0, .int 365, .int 0, .int 0, .ref p1, .int 0, .ref p2, .ref p3, .ref p4, .ref p5, .int 0, .ref p6, .int 0, .ref p7, .ref p8, .ref p9, .int 0]))] s.heap.size = A at hD hZ ⊢
  have hA : ∀ q : Nat, s.heap.size ≤ q → A q := fun q h => by rw [← hAe]; exact Or.inr h
  have hS : va_S A s.heap s.heap [] := va_S.rf
  have hP : va_P D vwCl [(h0, .inr (10, [.ref b0, .int 0, .ref p0, .ref u0, .ref r0, .ref a0, .ref t0, .ref s0, .ref o0])), (p0, .inr (7, [.int 0, .int 365, .int 0, .int 0, .ref p1, .int 0, .ref p2, .ref p3, .ref p4, .ref p5, .int 0, .ref p6, .int 0, .ref p7, .ref p8, .ref p9, .int 0]))] s.heap := hP
  have hl := lv_entry ([.ref h0, .int i, .int j]) (n := 3) (Nat.le_of_ble_eq_true rfl)
  rw [lg_entry_eq]
  generalize (lg_sl ([.ref h0, .int i, .int j]) ++ List.replicate (3 - (lg_sl ([.ref h0, .int i, .int j])).length) Slot.unset).toArray = ls at hl ⊢
  have hl : lv_has ls 3 [(0, .ref h0), (1, .int i), (2, .int j)] := hl
  refine lv_aload_n hx hb dX9_paidAfter_0 rfl (lv_at hl 0 rfl) ?_
  refine lv_iload_n hx hb dX9_paidAfter_1 rfl (lv_at hl 1 rfl) ?_
  have hPc := hP.sub (ws' := [(h0, .inr (10, [.ref b0, .int 0, .ref p0, .ref u0, .ref r0, .ref a0, .ref t0, .ref s0, .ref o0])), (p0, .inr (7, [.int 0, .int 365, .int 0, .int 0, .ref p1, .int 0, .ref p2, .ref p3, .ref p4, .ref p5, .int 0, .ref p6, .int 0, .ref p7, .ref p8, .ref p9, .int 0]))]) [0, 1] rfl
  have hDc := hD.sub (ws' := [(h0, .inr (10, [.ref b0, .int 0, .ref p0, .ref u0, .ref r0, .ref a0, .ref t0, .ref s0, .ref o0])), (p0, .inr (7, [.int 0, .int 365, .int 0, .int 0, .ref p1, .int 0, .ref p2, .ref p3, .ref p4, .ref p5, .int 0, .ref p6, .int 0, .ref p7, .ref p8, .ref p9, .int 0]))]) [0, 1] (by decide) rfl
  have hFc := va_free (wc := [(h0, .inr (10, [.ref b0, .int 0, .ref p0, .ref u0, .ref r0, .ref a0, .ref t0, .ref s0, .ref o0])), (p0, .inr (7, [.int 0, .int 365, .int 0, .int 0, .ref p1, .int 0, .ref p2, .ref p3, .ref p4, .ref p5, .int 0, .ref p6, .int 0, .ref p7, .ref p8, .ref p9, .int 0]))]) hD hS hA [0, 1] rfl
  refine vx_callv (vx_runV (As := [.int i]) (rest := []) ⟨hx, hb, hml, hown, hts⟩ (c_needMilestone_thr l D cA sa h0 b0 p0 u0 r0 a0 t0 s0 o0 p1 p2 p3 p4 p5 p6 p7 p8 p9 i s.heap.size hl9) (cwV 1 hts gX9_paidAfter_X9_needMilestone rfl rfl rfl (by decide +kernel) ⟨(Nat.le_of_ble_eq_true rfl), (Nat.le_of_ble_eq_true rfl)⟩) ⟨Wd.blind, va_recv hK hPc (ci := 10) (q0 := 0) rfl rfl, fun U hU hW => ⟨rfl, Wd.call hPc hDc hK hC hZ hS hFc U hU hW⟩⟩ rfl rfl hl.1 rfl (lv_room (Nat.le_of_ble_eq_true rfl)) dX9_paidAfter_2 ⟨(Nat.le_of_ble_eq_true rfl), (Nat.le_of_ble_eq_true rfl)⟩) hS (fun q _ h => hFc q h) hFc (fun q _ h => hFc q h) (fun E ce q9 u t H1 locs ht hvm hpx hE hz1 hk1 hS hcell hv9 hcl => ?_) (fun u t H1 locs ht hvm hw hB hz1 hk1 hS => hw.elim)
  exact vx_out (fun x h => (hno x h).elim) hlocks hcell hv9 hcl (fun t ht hvm => ⟨(), trivial, hE, hS.F ht⟩) hS.2.2 (Nat.le_of_ble_eq_true rfl) (Nat.le_of_ble_eq_true rfl)

set_option maxHeartbeats 4000000 in
set_option maxRecDepth 100000 in
/-- splitPayment: there is no such thing -/
theorem c_splitPayment_thr (l : Launch) (D : va_G) (cA : Nat → ClassId) (sa : Nat → Nat) (h0 b0 p0 u0 r0 a0 t0 s0 o0 p1 p2 p3 p4 p5 p6 p7 p8 p9 : Nat) (i j : Int32) (sz : Nat) (hl9 : l.stackTraces = false) : vx_Met l yX9_splitPayment wsX9_splitPayment ({ frames := 8, cells := 1, slots := 6, locals := 132 }) (va_Pc [.ref h0, .int i, .int j] (Wd D cA sa [(h0, .inr (10, [.ref b0, .int 0, .ref p0, .ref u0, .ref r0, .ref a0, .ref t0, .ref s0, .ref o0])), (p0, .inr (7, [.int 0, .int 365, .int 0, .int 0, .ref p1, .int 0, .ref p2, .ref p3, .ref p4, .ref p5, .int 0, .ref p6, .int 0, .ref p7, .ref p8, .ref p9, .int 0]))] sz)) (va_Qi (fun (_ : Int32) (_ : Unit) => False) (fun (_ : Unit) _ => True) (va_A [(h0, .inr (10, [.ref b0, .int 0, .ref p0, .ref u0, .ref r0, .ref a0, .ref t0, .ref s0, .ref o0])), (p0, .inr (7, [.int 0, .int 365, .int 0, .int 0, .ref p1, .int 0, .ref p2, .ref p3, .ref p4, .ref p5, .int 0, .ref p6, .int 0, .ref p7, .ref p8, .ref p9, .int 0]))] sz)) (vx_X (fun _ : Unit => True) (fun E _ _ => E = "java/lang/IndexOutOfBoundsException") (va_A [(h0, .inr (10, [.ref b0, .int 0, .ref p0, .ref u0, .ref r0, .ref a0, .ref t0, .ref s0, .ref o0])), (p0, .inr (7, [.int 0, .int 365, .int 0, .int 0, .ref p1, .int 0, .ref p2, .ref p3, .ref p4, .ref p5, .int 0, .ref p6, .int 0, .ref p7, .ref p8, .ref p9, .int 0]))] sz)) 1 6 (va_A [(h0, .inr (10, [.ref b0, .int 0, .ref p0, .ref u0, .ref r0, .ref a0, .ref t0, .ref s0, .ref o0])), (p0, .inr (7, [.int 0, .int 365, .int 0, .int 0, .ref p1, .int 0, .ref p2, .ref p3, .ref p4, .ref p5, .int 0, .ref p6, .int 0, .ref p7, .ref p8, .ref p9, .int 0]))] sz) := by
  refine vx_ofW (cc := cX9_splitPayment) (maxL := 3) (ret := (some .int)) (by decide) rfl ?_
  intro p e s m args below meth c s₁ B hml hno hv
  obtain ⟨rfl, hsz, hP, hK, hD0, hC, hZ⟩ := hv
  have hx := B.exec
  have hb := B.bytes
  have hr := B.returns
  have hts := atoms_spec (ws := wsX9_splitPayment) B.pre
  have hown : s.vm.findClass RX9 = some m.cls := findClass_of_methodNamed B.named
  have hlocks := B.notSynchronized
  subst hsz
  have hD := hD0.self (sz := s.heap.size)
  generalize hAe : va_A [(h0, .inr (10, [.ref b0, .int 0, .ref p0, .ref u0, .ref r0, .ref a0, .ref t0, .ref s0, .ref o0])), (p0, .inr (7, [.int 0, .int 365, .int 0, .int 0, .ref p1, .int 0, .ref p2, .ref p3, .ref p4, .ref p5, .int 0, .ref p6, .int 0, .ref p7, .ref p8, .ref p9, .int 0]))] s.heap.size = A at hD hZ ⊢
  have hA : ∀ q : Nat, s.heap.size ≤ q → A q := fun q h => by rw [← hAe]; exact Or.inr h
  have hS : va_S A s.heap s.heap [] := va_S.rf
  have hP : va_P D vwCl [(h0, .inr (10, [.ref b0, .int 0, .ref p0, .ref u0, .ref r0, .ref a0, .ref t0, .ref s0, .ref o0])), (p0, .inr (7, [.int 0, .int 365, .int 0, .int 0, .ref p1, .int 0, .ref p2, .ref p3, .ref p4, .ref p5, .int 0, .ref p6, .int 0, .ref p7, .ref p8, .ref p9, .int 0]))] s.heap := hP
  have hl := lv_entry ([.ref h0, .int i, .int j]) (n := 3) (Nat.le_of_ble_eq_true rfl)
  rw [lg_entry_eq]
  generalize (lg_sl ([.ref h0, .int i, .int j]) ++ List.replicate (3 - (lg_sl ([.ref h0, .int i, .int j])).length) Slot.unset).toArray = ls at hl ⊢
  have hl : lv_has ls 3 [(0, .ref h0), (1, .int i), (2, .int j)] := hl
  refine lv_aload_n hx hb dX9_splitPayment_0 rfl (lv_at hl 0 rfl) ?_
  refine lv_iload_n hx hb dX9_splitPayment_1 rfl (lv_at hl 1 rfl) ?_
  have hPc := hP.sub (ws' := [(h0, .inr (10, [.ref b0, .int 0, .ref p0, .ref u0, .ref r0, .ref a0, .ref t0, .ref s0, .ref o0])), (p0, .inr (7, [.int 0, .int 365, .int 0, .int 0, .ref p1, .int 0, .ref p2, .ref p3, .ref p4, .ref p5, .int 0, .ref p6, .int 0, .ref p7, .ref p8, .ref p9, .int 0]))]) [0, 1] rfl
  have hDc := hD.sub (ws' := [(h0, .inr (10, [.ref b0, .int 0, .ref p0, .ref u0, .ref r0, .ref a0, .ref t0, .ref s0, .ref o0])), (p0, .inr (7, [.int 0, .int 365, .int 0, .int 0, .ref p1, .int 0, .ref p2, .ref p3, .ref p4, .ref p5, .int 0, .ref p6, .int 0, .ref p7, .ref p8, .ref p9, .int 0]))]) [0, 1] (by decide) rfl
  have hFc := va_free (wc := [(h0, .inr (10, [.ref b0, .int 0, .ref p0, .ref u0, .ref r0, .ref a0, .ref t0, .ref s0, .ref o0])), (p0, .inr (7, [.int 0, .int 365, .int 0, .int 0, .ref p1, .int 0, .ref p2, .ref p3, .ref p4, .ref p5, .int 0, .ref p6, .int 0, .ref p7, .ref p8, .ref p9, .int 0]))]) hD hS hA [0, 1] rfl
  refine vx_callv (vx_runV (As := [.int i]) (rest := []) ⟨hx, hb, hml, hown, hts⟩ (c_needMilestone_thr l D cA sa h0 b0 p0 u0 r0 a0 t0 s0 o0 p1 p2 p3 p4 p5 p6 p7 p8 p9 i s.heap.size hl9) (cwV 1 hts gX9_splitPayment_X9_needMilestone rfl rfl rfl (by decide +kernel) ⟨(Nat.le_of_ble_eq_true rfl), (Nat.le_of_ble_eq_true rfl)⟩) ⟨Wd.blind, va_recv hK hPc (ci := 10) (q0 := 0) rfl rfl, fun U hU hW => ⟨rfl, Wd.call hPc hDc hK hC hZ hS hFc U hU hW⟩⟩ rfl rfl hl.1 rfl (lv_room (Nat.le_of_ble_eq_true rfl)) dX9_splitPayment_2 ⟨(Nat.le_of_ble_eq_true rfl), (Nat.le_of_ble_eq_true rfl)⟩) hS (fun q _ h => hFc q h) hFc (fun q _ h => hFc q h) (fun E ce q9 u t H1 locs ht hvm hpx hE hz1 hk1 hS hcell hv9 hcl => ?_) (fun u t H1 locs ht hvm hw hB hz1 hk1 hS => hw.elim)
  exact vx_out (fun x h => (hno x h).elim) hlocks hcell hv9 hcl (fun t ht hvm => ⟨(), trivial, hE, hS.F ht⟩) hS.2.2 (Nat.le_of_ble_eq_true rfl) (Nat.le_of_ble_eq_true rfl)

set_option maxHeartbeats 4000000 in
set_option maxRecDepth 100000 in
/-- shareFor: there is no such thing -/
theorem c_shareFor_thr (l : Launch) (D : va_G) (cA : Nat → ClassId) (sa : Nat → Nat) (h0 b0 p0 u0 r0 a0 t0 s0 o0 p1 p2 p3 p4 p5 p6 p7 p8 p9 : Nat) (i j : Int32) (sz : Nat) (hl9 : l.stackTraces = false) : vx_Met l yX9_shareFor wsX9_shareFor ({ frames := 8, cells := 1, slots := 6, locals := 132 }) (va_Pc [.ref h0, .int i, .int j] (Wd D cA sa [(h0, .inr (10, [.ref b0, .int 0, .ref p0, .ref u0, .ref r0, .ref a0, .ref t0, .ref s0, .ref o0])), (p0, .inr (7, [.int 0, .int 365, .int 0, .int 0, .ref p1, .int 0, .ref p2, .ref p3, .ref p4, .ref p5, .int 0, .ref p6, .int 0, .ref p7, .ref p8, .ref p9, .int 0]))] sz)) (va_Qi (fun (_ : Int32) (_ : Unit) => False) (fun (_ : Unit) _ => True) (va_A [(h0, .inr (10, [.ref b0, .int 0, .ref p0, .ref u0, .ref r0, .ref a0, .ref t0, .ref s0, .ref o0])), (p0, .inr (7, [.int 0, .int 365, .int 0, .int 0, .ref p1, .int 0, .ref p2, .ref p3, .ref p4, .ref p5, .int 0, .ref p6, .int 0, .ref p7, .ref p8, .ref p9, .int 0]))] sz)) (vx_X (fun _ : Unit => True) (fun E _ _ => E = "java/lang/IndexOutOfBoundsException") (va_A [(h0, .inr (10, [.ref b0, .int 0, .ref p0, .ref u0, .ref r0, .ref a0, .ref t0, .ref s0, .ref o0])), (p0, .inr (7, [.int 0, .int 365, .int 0, .int 0, .ref p1, .int 0, .ref p2, .ref p3, .ref p4, .ref p5, .int 0, .ref p6, .int 0, .ref p7, .ref p8, .ref p9, .int 0]))] sz)) 1 6 (va_A [(h0, .inr (10, [.ref b0, .int 0, .ref p0, .ref u0, .ref r0, .ref a0, .ref t0, .ref s0, .ref o0])), (p0, .inr (7, [.int 0, .int 365, .int 0, .int 0, .ref p1, .int 0, .ref p2, .ref p3, .ref p4, .ref p5, .int 0, .ref p6, .int 0, .ref p7, .ref p8, .ref p9, .int 0]))] sz) := by
  refine vx_ofW (cc := cX9_shareFor) (maxL := 6) (ret := (some .int)) (by decide) rfl ?_
  intro p e s m args below meth c s₁ B hml hno hv
  obtain ⟨rfl, hsz, hP, hK, hD0, hC, hZ⟩ := hv
  have hx := B.exec
  have hb := B.bytes
  have hr := B.returns
  have hts := atoms_spec (ws := wsX9_shareFor) B.pre
  have hown : s.vm.findClass RX9 = some m.cls := findClass_of_methodNamed B.named
  have hlocks := B.notSynchronized
  subst hsz
  have hD := hD0.self (sz := s.heap.size)
  generalize hAe : va_A [(h0, .inr (10, [.ref b0, .int 0, .ref p0, .ref u0, .ref r0, .ref a0, .ref t0, .ref s0, .ref o0])), (p0, .inr (7, [.int 0, .int 365, .int 0, .int 0, .ref p1, .int 0, .ref p2, .ref p3, .ref p4, .ref p5, .int 0, .ref p6, .int 0, .ref p7, .ref p8, .ref p9, .int 0]))] s.heap.size = A at hD hZ ⊢
  have hA : ∀ q : Nat, s.heap.size ≤ q → A q := fun q h => by rw [← hAe]; exact Or.inr h
  have hS : va_S A s.heap s.heap [] := va_S.rf
  have hP : va_P D vwCl [(h0, .inr (10, [.ref b0, .int 0, .ref p0, .ref u0, .ref r0, .ref a0, .ref t0, .ref s0, .ref o0])), (p0, .inr (7, [.int 0, .int 365, .int 0, .int 0, .ref p1, .int 0, .ref p2, .ref p3, .ref p4, .ref p5, .int 0, .ref p6, .int 0, .ref p7, .ref p8, .ref p9, .int 0]))] s.heap := hP
  have hl := lv_entry ([.ref h0, .int i, .int j]) (n := 6) (Nat.le_of_ble_eq_true rfl)
  rw [lg_entry_eq]
  generalize (lg_sl ([.ref h0, .int i, .int j]) ++ List.replicate (6 - (lg_sl ([.ref h0, .int i, .int j])).length) Slot.unset).toArray = ls at hl ⊢
  have hl : lv_has ls 6 [(0, .ref h0), (1, .int i), (2, .int j)] := hl
  refine lv_aload_n hx hb dX9_shareFor_0 rfl (lv_at hl 0 rfl) ?_
  refine lv_iload_n hx hb dX9_shareFor_1 rfl (lv_at hl 1 rfl) ?_
  have hPc := hP.sub (ws' := [(h0, .inr (10, [.ref b0, .int 0, .ref p0, .ref u0, .ref r0, .ref a0, .ref t0, .ref s0, .ref o0])), (p0, .inr (7, [.int 0, .int 365, .int 0, .int 0, .ref p1, .int 0, .ref p2, .ref p3, .ref p4, .ref p5, .int 0, .ref p6, .int 0, .ref p7, .ref p8, .ref p9, .int 0]))]) [0, 1] rfl
  have hDc := hD.sub (ws' := [(h0, .inr (10, [.ref b0, .int 0, .ref p0, .ref u0, .ref r0, .ref a0, .ref t0, .ref s0, .ref o0])), (p0, .inr (7, [.int 0, .int 365, .int 0, .int 0, .ref p1, .int 0, .ref p2, .ref p3, .ref p4, .ref p5, .int 0, .ref p6, .int 0, .ref p7, .ref p8, .ref p9, .int 0]))]) [0, 1] (by decide) rfl
  have hFc := va_free (wc := [(h0, .inr (10, [.ref b0, .int 0, .ref p0, .ref u0, .ref r0, .ref a0, .ref t0, .ref s0, .ref o0])), (p0, .inr (7, [.int 0, .int 365, .int 0, .int 0, .ref p1, .int 0, .ref p2, .ref p3, .ref p4, .ref p5, .int 0, .ref p6, .int 0, .ref p7, .ref p8, .ref p9, .int 0]))]) hD hS hA [0, 1] rfl
  refine vx_callv (vx_runV (As := [.int i]) (rest := []) ⟨hx, hb, hml, hown, hts⟩ (c_needMilestone_thr l D cA sa h0 b0 p0 u0 r0 a0 t0 s0 o0 p1 p2 p3 p4 p5 p6 p7 p8 p9 i s.heap.size hl9) (cwV 1 hts gX9_shareFor_X9_needMilestone rfl rfl rfl (by decide +kernel) ⟨(Nat.le_of_ble_eq_true rfl), (Nat.le_of_ble_eq_true rfl)⟩) ⟨Wd.blind, va_recv hK hPc (ci := 10) (q0 := 0) rfl rfl, fun U hU hW => ⟨rfl, Wd.call hPc hDc hK hC hZ hS hFc U hU hW⟩⟩ rfl rfl hl.1 rfl (lv_room (Nat.le_of_ble_eq_true rfl)) dX9_shareFor_2 ⟨(Nat.le_of_ble_eq_true rfl), (Nat.le_of_ble_eq_true rfl)⟩) hS (fun q _ h => hFc q h) hFc (fun q _ h => hFc q h) (fun E ce q9 u t H1 locs ht hvm hpx hE hz1 hk1 hS hcell hv9 hcl => ?_) (fun u t H1 locs ht hvm hw hB hz1 hk1 hS => hw.elim)
  exact vx_out (fun x h => (hno x h).elim) hlocks hcell hv9 hcl (fun t ht hvm => ⟨(), trivial, hE, hS.F ht⟩) hS.2.2 (Nat.le_of_ble_eq_true rfl) (Nat.le_of_ble_eq_true rfl)

set_option maxHeartbeats 4000000 in
set_option maxRecDepth 100000 in
/-- pay: there is no such thing -/
theorem c_pay_thr (l : Launch) (D : va_G) (cA : Nat → ClassId) (sa : Nat → Nat) (h0 b0 p0 u0 r0 a0 t0 s0 o0 p1 p2 p3 p4 p5 p6 p7 p8 p9 : Nat) (i j : Int32) (sz : Nat) (hl9 : l.stackTraces = false) : vx_Met l yX9_pay wsX9_pay ({ frames := 8, cells := 1, slots := 6, locals := 132 }) (va_Pc [.ref h0, .int i, .int j] (Wd D cA sa [(h0, .inr (10, [.ref b0, .int 0, .ref p0, .ref u0, .ref r0, .ref a0, .ref t0, .ref s0, .ref o0])), (p0, .inr (7, [.int 0, .int 365, .int 0, .int 0, .ref p1, .int 0, .ref p2, .ref p3, .ref p4, .ref p5, .int 0, .ref p6, .int 0, .ref p7, .ref p8, .ref p9, .int 0]))] sz)) (va_Qi (fun (_ : Int32) (_ : Unit) => False) (fun (_ : Unit) _ => True) (va_A [(h0, .inr (10, [.ref b0, .int 0, .ref p0, .ref u0, .ref r0, .ref a0, .ref t0, .ref s0, .ref o0])), (p0, .inr (7, [.int 0, .int 365, .int 0, .int 0, .ref p1, .int 0, .ref p2, .ref p3, .ref p4, .ref p5, .int 0, .ref p6, .int 0, .ref p7, .ref p8, .ref p9, .int 0]))] sz)) (vx_X (fun _ : Unit => True) (fun E _ _ => E = "java/lang/IndexOutOfBoundsException") (va_A [(h0, .inr (10, [.ref b0, .int 0, .ref p0, .ref u0, .ref r0, .ref a0, .ref t0, .ref s0, .ref o0])), (p0, .inr (7, [.int 0, .int 365, .int 0, .int 0, .ref p1, .int 0, .ref p2, .ref p3, .ref p4, .ref p5, .int 0, .ref p6, .int 0, .ref p7, .ref p8, .ref p9, .int 0]))] sz)) 1 6 (va_A [(h0, .inr (10, [.ref b0, .int 0, .ref p0, .ref u0, .ref r0, .ref a0, .ref t0, .ref s0, .ref o0])), (p0, .inr (7, [.int 0, .int 365, .int 0, .int 0, .ref p1, .int 0, .ref p2, .ref p3, .ref p4, .ref p5, .int 0, .ref p6, .int 0, .ref p7, .ref p8, .ref p9, .int 0]))] sz) := by
  refine vx_ofW (cc := cX9_pay) (maxL := 3) (ret := (some .int)) (by decide) rfl ?_
  intro p e s m args below meth c s₁ B hml hno hv
  obtain ⟨rfl, hsz, hP, hK, hD0, hC, hZ⟩ := hv
  have hx := B.exec
  have hb := B.bytes
  have hr := B.returns
  have hts := atoms_spec (ws := wsX9_pay) B.pre
  have hown : s.vm.findClass RX9 = some m.cls := findClass_of_methodNamed B.named
  have hlocks := B.notSynchronized
  subst hsz
  have hD := hD0.self (sz := s.heap.size)
  generalize hAe : va_A [(h0, .inr (10, [.ref b0, .int 0, .ref p0, .ref u0, .ref r0, .ref a0, .ref t0, .ref s0, .ref o0])), (p0, .inr (7, [.int 0, .int 365, .int 0, .int 0, .ref p1, .int 0, .ref p2, .ref p3, .ref p4, .ref p5, .int 0, .ref p6, .int 0, .ref p7, .ref p8, .ref p9, .int 0]))] s.heap.size = A at hD hZ ⊢
  have hA : ∀ q : Nat, s.heap.size ≤ q → A q := fun q h => by rw [← hAe]; exact Or.inr h
  have hS : va_S A s.heap s.heap [] := va_S.rf
  have hP : va_P D vwCl [(h0, .inr (10, [.ref b0, .int 0, .ref p0, .ref u0, .ref r0, .ref a0, .ref t0, .ref s0, .ref o0])), (p0, .inr (7, [.int 0, .int 365, .int 0, .int 0, .ref p1, .int 0, .ref p2, .ref p3, .ref p4, .ref p5, .int 0, .ref p6, .int 0, .ref p7, .ref p8, .ref p9, .int 0]))] s.heap := hP
  have hl := lv_entry ([.ref h0, .int i, .int j]) (n := 3) (Nat.le_of_ble_eq_true rfl)
  rw [lg_entry_eq]
  generalize (lg_sl ([.ref h0, .int i, .int j]) ++ List.replicate (3 - (lg_sl ([.ref h0, .int i, .int j])).length) Slot.unset).toArray = ls at hl ⊢
  have hl : lv_has ls 3 [(0, .ref h0), (1, .int i), (2, .int j)] := hl
  refine lv_aload_n hx hb dX9_pay_0 rfl (lv_at hl 0 rfl) ?_
  refine lv_iload_n hx hb dX9_pay_1 rfl (lv_at hl 1 rfl) ?_
  have hPc := hP.sub (ws' := [(h0, .inr (10, [.ref b0, .int 0, .ref p0, .ref u0, .ref r0, .ref a0, .ref t0, .ref s0, .ref o0])), (p0, .inr (7, [.int 0, .int 365, .int 0, .int 0, .ref p1, .int 0, .ref p2, .ref p3, .ref p4, .ref p5, .int 0, .ref p6, .int 0, .ref p7, .ref p8, .ref p9, .int 0]))]) [0, 1] rfl
  have hDc := hD.sub (ws' := [(h0, .inr (10, [.ref b0, .int 0, .ref p0, .ref u0, .ref r0, .ref a0, .ref t0, .ref s0, .ref o0])), (p0, .inr (7, [.int 0, .int 365, .int 0, .int 0, .ref p1, .int 0, .ref p2, .ref p3, .ref p4, .ref p5, .int 0, .ref p6, .int 0, .ref p7, .ref p8, .ref p9, .int 0]))]) [0, 1] (by decide) rfl
  have hFc := va_free (wc := [(h0, .inr (10, [.ref b0, .int 0, .ref p0, .ref u0, .ref r0, .ref a0, .ref t0, .ref s0, .ref o0])), (p0, .inr (7, [.int 0, .int 365, .int 0, .int 0, .ref p1, .int 0, .ref p2, .ref p3, .ref p4, .ref p5, .int 0, .ref p6, .int 0, .ref p7, .ref p8, .ref p9, .int 0]))]) hD hS hA [0, 1] rfl
  refine vx_callv (vx_runV (As := [.int i]) (rest := []) ⟨hx, hb, hml, hown, hts⟩ (c_needMilestone_thr l D cA sa h0 b0 p0 u0 r0 a0 t0 s0 o0 p1 p2 p3 p4 p5 p6 p7 p8 p9 i s.heap.size hl9) (cwV 1 hts gX9_pay_X9_needMilestone rfl rfl rfl (by decide +kernel) ⟨(Nat.le_of_ble_eq_true rfl), (Nat.le_of_ble_eq_true rfl)⟩) ⟨Wd.blind, va_recv hK hPc (ci := 10) (q0 := 0) rfl rfl, fun U hU hW => ⟨rfl, Wd.call hPc hDc hK hC hZ hS hFc U hU hW⟩⟩ rfl rfl hl.1 rfl (lv_room (Nat.le_of_ble_eq_true rfl)) dX9_pay_2 ⟨(Nat.le_of_ble_eq_true rfl), (Nat.le_of_ble_eq_true rfl)⟩) hS (fun q _ h => hFc q h) hFc (fun q _ h => hFc q h) (fun E ce q9 u t H1 locs ht hvm hpx hE hz1 hk1 hS hcell hv9 hcl => ?_) (fun u t H1 locs ht hvm hw hB hz1 hk1 hS => hw.elim)
  exact vx_out (fun x h => (hno x h).elim) hlocks hcell hv9 hcl (fun t ht hvm => ⟨(), trivial, hE, hS.F ht⟩) hS.2.2 (Nat.le_of_ble_eq_true rfl) (Nat.le_of_ble_eq_true rfl)

set_option maxHeartbeats 4000000 in
set_option maxRecDepth 100000 in
/-- resolve: there is no such thing -/
theorem c_resolve_thr (l : Launch) (D : va_G) (cA : Nat → ClassId) (sa : Nat → Nat) (h0 b0 p0 u0 r0 a0 t0 s0 o0 p1 p2 p3 p4 p5 p6 p7 p8 p9 : Nat) (i j : Int32) (sz : Nat) (hl9 : l.stackTraces = false) : vx_Met l yX9_resolve wsX9_resolve ({ frames := 8, cells := 1, slots := 6, locals := 132 }) (va_Pc [.ref h0, .int i, .int j] (Wd D cA sa [(h0, .inr (10, [.ref b0, .int 0, .ref p0, .ref u0, .ref r0, .ref a0, .ref t0, .ref s0, .ref o0])), (p0, .inr (7, [.int 0, .int 365, .int 0, .int 0, .ref p1, .int 0, .ref p2, .ref p3, .ref p4, .ref p5, .int 0, .ref p6, .int 0, .ref p7, .ref p8, .ref p9, .int 0]))] sz)) (va_Qi (fun (_ : Int32) (_ : Unit) => False) (fun (_ : Unit) _ => True) (va_A [(h0, .inr (10, [.ref b0, .int 0, .ref p0, .ref u0, .ref r0, .ref a0, .ref t0, .ref s0, .ref o0])), (p0, .inr (7, [.int 0, .int 365, .int 0, .int 0, .ref p1, .int 0, .ref p2, .ref p3, .ref p4, .ref p5, .int 0, .ref p6, .int 0, .ref p7, .ref p8, .ref p9, .int 0]))] sz)) (vx_X (fun _ : Unit => True) (fun E _ _ => E = "java/lang/IndexOutOfBoundsException") (va_A [(h0, .inr (10, [.ref b0, .int 0, .ref p0, .ref u0, .ref r0, .ref a0, .ref t0, .ref s0, .ref o0])), (p0, .inr (7, [.int 0, .int 365, .int 0, .int 0, .ref p1, .int 0, .ref p2, .ref p3, .ref p4, .ref p5, .int 0, .ref p6, .int 0, .ref p7, .ref p8, .ref p9, .int 0]))] sz)) 1 6 (va_A [(h0, .inr (10, [.ref b0, .int 0, .ref p0, .ref u0, .ref r0, .ref a0, .ref t0, .ref s0, .ref o0])), (p0, .inr (7, [.int 0, .int 365, .int 0, .int 0, .ref p1, .int 0, .ref p2, .ref p3, .ref p4, .ref p5, .int 0, .ref p6, .int 0, .ref p7, .ref p8, .ref p9, .int 0]))] sz) := by
  refine vx_ofW (cc := cX9_resolve) (maxL := 3) (ret := (some .int)) (by decide) rfl ?_
  intro p e s m args below meth c s₁ B hml hno hv
  obtain ⟨rfl, hsz, hP, hK, hD0, hC, hZ⟩ := hv
  have hx := B.exec
  have hb := B.bytes
  have hr := B.returns
  have hts := atoms_spec (ws := wsX9_resolve) B.pre
  have hown : s.vm.findClass RX9 = some m.cls := findClass_of_methodNamed B.named
  have hlocks := B.notSynchronized
  subst hsz
  have hD := hD0.self (sz := s.heap.size)
  generalize hAe : va_A [(h0, .inr (10, [.ref b0, .int 0, .ref p0, .ref u0, .ref r0, .ref a0, .ref t0, .ref s0, .ref o0])), (p0, .inr (7, [.int 0, .int 365, .int 0, .int 0, .ref p1, .int 0, .ref p2, .ref p3, .ref p4, .ref p5, .int 0, .ref p6, .int 0, .ref p7, .ref p8, .ref p9, .int 0]))] s.heap.size = A at hD hZ ⊢
  have hA : ∀ q : Nat, s.heap.size ≤ q → A q := fun q h => by rw [← hAe]; exact Or.inr h
  have hS : va_S A s.heap s.heap [] := va_S.rf
  have hP : va_P D vwCl [(h0, .inr (10, [.ref b0, .int 0, .ref p0, .ref u0, .ref r0, .ref a0, .ref t0, .ref s0, .ref o0])), (p0, .inr (7, [.int 0, .int 365, .int 0, .int 0, .ref p1, .int 0, .ref p2, .ref p3, .ref p4, .ref p5, .int 0, .ref p6, .int 0, .ref p7, .ref p8, .ref p9, .int 0]))] s.heap := hP
  have hl := lv_entry ([.ref h0, .int i, .int j]) (n := 3) (Nat.le_of_ble_eq_true rfl)
  rw [lg_entry_eq]
  generalize (lg_sl ([.ref h0, .int i, .int j]) ++ List.replicate (3 - (lg_sl ([.ref h0, .int i, .int j])).length) Slot.unset).toArray = ls at hl ⊢
  have hl : lv_has ls 3 [(0, .ref h0), (1, .int i), (2, .int j)] := hl
  refine lv_aload_n hx hb dX9_resolve_0 rfl (lv_at hl 0 rfl) ?_
  refine lv_iload_n hx hb dX9_resolve_1 rfl (lv_at hl 1 rfl) ?_
  have hPc := hP.sub (ws' := [(h0, .inr (10, [.ref b0, .int 0, .ref p0, .ref u0, .ref r0, .ref a0, .ref t0, .ref s0, .ref o0])), (p0, .inr (7, [.int 0, .int 365, .int 0, .int 0, .ref p1, .int 0, .ref p2, .ref p3, .ref p4, .ref p5, .int 0, .ref p6, .int 0, .ref p7, .ref p8, .ref p9, .int 0]))]) [0, 1] rfl
  have hDc := hD.sub (ws' := [(h0, .inr (10, [.ref b0, .int 0, .ref p0, .ref u0, .ref r0, .ref a0, .ref t0, .ref s0, .ref o0])), (p0, .inr (7, [.int 0, .int 365, .int 0, .int 0, .ref p1, .int 0, .ref p2, .ref p3, .ref p4, .ref p5, .int 0, .ref p6, .int 0, .ref p7, .ref p8, .ref p9, .int 0]))]) [0, 1] (by decide) rfl
  have hFc := va_free (wc := [(h0, .inr (10, [.ref b0, .int 0, .ref p0, .ref u0, .ref r0, .ref a0, .ref t0, .ref s0, .ref o0])), (p0, .inr (7, [.int 0, .int 365, .int 0, .int 0, .ref p1, .int 0, .ref p2, .ref p3, .ref p4, .ref p5, .int 0, .ref p6, .int 0, .ref p7, .ref p8, .ref p9, .int 0]))]) hD hS hA [0, 1] rfl
  refine vx_callv (vx_runV (As := [.int i]) (rest := []) ⟨hx, hb, hml, hown, hts⟩ (c_needMilestone_thr l D cA sa h0 b0 p0 u0 r0 a0 t0 s0 o0 p1 p2 p3 p4 p5 p6 p7 p8 p9 i s.heap.size hl9) (cwV 1 hts gX9_resolve_X9_needMilestone rfl rfl rfl (by decide +kernel) ⟨(Nat.le_of_ble_eq_true rfl), (Nat.le_of_ble_eq_true rfl)⟩) ⟨Wd.blind, va_recv hK hPc (ci := 10) (q0 := 0) rfl rfl, fun U hU hW => ⟨rfl, Wd.call hPc hDc hK hC hZ hS hFc U hU hW⟩⟩ rfl rfl hl.1 rfl (lv_room (Nat.le_of_ble_eq_true rfl)) dX9_resolve_2 ⟨(Nat.le_of_ble_eq_true rfl), (Nat.le_of_ble_eq_true rfl)⟩) hS (fun q _ h => hFc q h) hFc (fun q _ h => hFc q h) (fun E ce q9 u t H1 locs ht hvm hpx hE hz1 hk1 hS hcell hv9 hcl => ?_) (fun u t H1 locs ht hvm hw hB hz1 hk1 hS => hw.elim)
  exact vx_out (fun x h => (hno x h).elim) hlocks hcell hv9 hcl (fun t ht hvm => ⟨(), trivial, hE, hS.F ht⟩) hS.2.2 (Nat.le_of_ble_eq_true rfl) (Nat.le_of_ble_eq_true rfl)

set_option maxHeartbeats 4000000 in
set_option maxRecDepth 100000 in
/-- proofCharacter: there is no such thing -/
theorem c_proofCharacter_thr (l : Launch) (D : va_G) (cA : Nat → ClassId) (sa : Nat → Nat) (h0 b0 p0 u0 r0 a0 t0 s0 o0 p1 p2 p3 p4 p5 p6 p7 p8 p9 : Nat) (i j : Int32) (sz : Nat) (hl9 : l.stackTraces = false) : vx_Met l yX9_proofCharacter wsX9_proofCharacter ({ frames := 8, cells := 1, slots := 6, locals := 132 }) (va_Pc [.ref h0, .int i, .int j] (Wd D cA sa [(h0, .inr (10, [.ref b0, .int 0, .ref p0, .ref u0, .ref r0, .ref a0, .ref t0, .ref s0, .ref o0])), (p0, .inr (7, [.int 0, .int 365, .int 0, .int 0, .ref p1, .int 0, .ref p2, .ref p3, .ref p4, .ref p5, .int 0, .ref p6, .int 0, .ref p7, .ref p8, .ref p9, .int 0]))] sz)) (va_Qi (fun (_ : Int32) (_ : Unit) => False) (fun (_ : Unit) _ => True) (va_A [(h0, .inr (10, [.ref b0, .int 0, .ref p0, .ref u0, .ref r0, .ref a0, .ref t0, .ref s0, .ref o0])), (p0, .inr (7, [.int 0, .int 365, .int 0, .int 0, .ref p1, .int 0, .ref p2, .ref p3, .ref p4, .ref p5, .int 0, .ref p6, .int 0, .ref p7, .ref p8, .ref p9, .int 0]))] sz)) (vx_X (fun _ : Unit => True) (fun E _ _ => E = "java/lang/IndexOutOfBoundsException") (va_A [(h0, .inr (10, [.ref b0, .int 0, .ref p0, .ref u0, .ref r0, .ref a0, .ref t0, .ref s0, .ref o0])), (p0, .inr (7, [.int 0, .int 365, .int 0, .int 0, .ref p1, .int 0, .ref p2, .ref p3, .ref p4, .ref p5, .int 0, .ref p6, .int 0, .ref p7, .ref p8, .ref p9, .int 0]))] sz)) 1 6 (va_A [(h0, .inr (10, [.ref b0, .int 0, .ref p0, .ref u0, .ref r0, .ref a0, .ref t0, .ref s0, .ref o0])), (p0, .inr (7, [.int 0, .int 365, .int 0, .int 0, .ref p1, .int 0, .ref p2, .ref p3, .ref p4, .ref p5, .int 0, .ref p6, .int 0, .ref p7, .ref p8, .ref p9, .int 0]))] sz) := by
  refine vx_ofW (cc := cX9_proofCharacter) (maxL := 5) (ret := (some .char)) (by decide) rfl ?_
  intro p e s m args below meth c s₁ B hml hno hv
  obtain ⟨rfl, hsz, hP, hK, hD0, hC, hZ⟩ := hv
  have hx := B.exec
  have hb := B.bytes
  have hr := B.returns
  have hts := atoms_spec (ws := wsX9_proofCharacter) B.pre
  have hown : s.vm.findClass RX9 = some m.cls := findClass_of_methodNamed B.named
  have hlocks := B.notSynchronized
  subst hsz
  have hD := hD0.self (sz := s.heap.size)
  generalize hAe : va_A [(h0, .inr (10, [.ref b0, .int 0, .ref p0, .ref u0, .ref r0, .ref a0, .ref t0, .ref s0, .ref o0])), (p0, .inr (7, [.int 0, .int 365, .int 0, .int 0, .ref p1, .int 0, .ref p2, .ref p3, .ref p4, .ref p5, .int 0, .ref p6, .int 0, .ref p7, .ref p8, .ref p9, .int 0]))] s.heap.size = A at hD hZ ⊢
  have hA : ∀ q : Nat, s.heap.size ≤ q → A q := fun q h => by rw [← hAe]; exact Or.inr h
  have hS : va_S A s.heap s.heap [] := va_S.rf
  have hP : va_P D vwCl [(h0, .inr (10, [.ref b0, .int 0, .ref p0, .ref u0, .ref r0, .ref a0, .ref t0, .ref s0, .ref o0])), (p0, .inr (7, [.int 0, .int 365, .int 0, .int 0, .ref p1, .int 0, .ref p2, .ref p3, .ref p4, .ref p5, .int 0, .ref p6, .int 0, .ref p7, .ref p8, .ref p9, .int 0]))] s.heap := hP
  have hl := lv_entry ([.ref h0, .int i, .int j]) (n := 5) (Nat.le_of_ble_eq_true rfl)
  rw [lg_entry_eq]
  generalize (lg_sl ([.ref h0, .int i, .int j]) ++ List.replicate (5 - (lg_sl ([.ref h0, .int i, .int j])).length) Slot.unset).toArray = ls at hl ⊢
  have hl : lv_has ls 5 [(0, .ref h0), (1, .int i), (2, .int j)] := hl
  refine lv_aload_n hx hb dX9_proofCharacter_0 rfl (lv_at hl 0 rfl) ?_
  refine lv_iload_n hx hb dX9_proofCharacter_1 rfl (lv_at hl 1 rfl) ?_
  have hPc := hP.sub (ws' := [(h0, .inr (10, [.ref b0, .int 0, .ref p0, .ref u0, .ref r0, .ref a0, .ref t0, .ref s0, .ref o0])), (p0, .inr (7, [.int 0, .int 365, .int 0, .int 0, .ref p1, .int 0, .ref p2, .ref p3, .ref p4, .ref p5, .int 0, .ref p6, .int 0, .ref p7, .ref p8, .ref p9, .int 0]))]) [0, 1] rfl
  have hDc := hD.sub (ws' := [(h0, .inr (10, [.ref b0, .int 0, .ref p0, .ref u0, .ref r0, .ref a0, .ref t0, .ref s0, .ref o0])), (p0, .inr (7, [.int 0, .int 365, .int 0, .int 0, .ref p1, .int 0, .ref p2, .ref p3, .ref p4, .ref p5, .int 0, .ref p6, .int 0, .ref p7, .ref p8, .ref p9, .int 0]))]) [0, 1] (by decide) rfl
  have hFc := va_free (wc := [(h0, .inr (10, [.ref b0, .int 0, .ref p0, .ref u0, .ref r0, .ref a0, .ref t0, .ref s0, .ref o0])), (p0, .inr (7, [.int 0, .int 365, .int 0, .int 0, .ref p1, .int 0, .ref p2, .ref p3, .ref p4, .ref p5, .int 0, .ref p6, .int 0, .ref p7, .ref p8, .ref p9, .int 0]))]) hD hS hA [0, 1] rfl
  refine vx_callv (vx_runV (As := [.int i]) (rest := []) ⟨hx, hb, hml, hown, hts⟩ (c_needProof_thr l D cA sa h0 b0 p0 u0 r0 a0 t0 s0 o0 p1 p2 p3 p4 p5 p6 p7 p8 p9 i s.heap.size hl9) (cwV 1 hts gX9_proofCharacter_X9_needProof rfl rfl rfl (by decide +kernel) ⟨(Nat.le_of_ble_eq_true rfl), (Nat.le_of_ble_eq_true rfl)⟩) ⟨Wd.blind, va_recv hK hPc (ci := 10) (q0 := 0) rfl rfl, fun U hU hW => ⟨rfl, Wd.call hPc hDc hK hC hZ hS hFc U hU hW⟩⟩ rfl rfl hl.1 rfl (lv_room (Nat.le_of_ble_eq_true rfl)) dX9_proofCharacter_2 ⟨(Nat.le_of_ble_eq_true rfl), (Nat.le_of_ble_eq_true rfl)⟩) hS (fun q _ h => hFc q h) hFc (fun q _ h => hFc q h) (fun E ce q9 u t H1 locs ht hvm hpx hE hz1 hk1 hS hcell hv9 hcl => ?_) (fun u t H1 locs ht hvm hw hB hz1 hk1 hS => hw.elim)
  exact vx_out (fun x h => (hno x h).elim) hlocks hcell hv9 hcl (fun t ht hvm => ⟨(), trivial, hE, hS.F ht⟩) hS.2.2 (Nat.le_of_ble_eq_true rfl) (Nat.le_of_ble_eq_true rfl)

set_option maxHeartbeats 4000000 in
set_option maxRecDepth 100000 in
/-- day -/
theorem c_day (l : Launch) (D : va_G) (cA : Nat → ClassId) (sa : Nat → Nat) (h0 b0 p0 u0 r0 a0 t0 s0 o0 a1 a3 a4 a5 a6 : Nat) (sz : Nat) : Met l yX9_day wsX9_day ({ frames := 0, cells := 0, slots := 0, locals := 0 }) (va_Pc [.ref h0] (Wd D cA sa [(h0, .inr (10, [.ref b0, .int 0, .ref p0, .ref u0, .ref r0, .ref a0, .ref t0, .ref s0, .ref o0])), (a0, .inr (4, [.ref p0, .ref a1, .ref a3, .ref a4, .ref a5, .ref a6, .int 0, .int 0, .int 0, .long 0, .long 0, .long 0, .int 0, .int 0, .int 0, .int 0, .int 365, .int 0, .int 0, .int 0]))] sz)) (va_Qi (fun (r : Int32) (_ : Unit) => r = 0) (fun (_ : Unit) t => Wq D (va_A [(h0, .inr (10, [.ref b0, .int 0, .ref p0, .ref u0, .ref r0, .ref a0, .ref t0, .ref s0, .ref o0])), (a0, .inr (4, [.ref p0, .ref a1, .ref a3, .ref a4, .ref a5, .ref a6, .int 0, .int 0, .int 0, .long 0, .long 0, .long 0, .int 0, .int 0, .int 0, .int 0, .int 365, .int 0, .int 0, .int 0]))] sz) [] t) (va_A [(h0, .inr (10, [.ref b0, .int 0, .ref p0, .ref u0, .ref r0, .ref a0, .ref t0, .ref s0, .ref o0])), (a0, .inr (4, [.ref p0, .ref a1, .ref a3, .ref a4, .ref a5, .ref a6, .int 0, .int 0, .int 0, .long 0, .long 0, .long 0, .int 0, .int 0, .int 0, .int 0, .int 365, .int 0, .int 0, .int 0]))] sz)) 0 0 (va_A [(h0, .inr (10, [.ref b0, .int 0, .ref p0, .ref u0, .ref r0, .ref a0, .ref t0, .ref s0, .ref o0])), (a0, .inr (4, [.ref p0, .ref a1, .ref a3, .ref a4, .ref a5, .ref a6, .int 0, .int 0, .int 0, .long 0, .long 0, .long 0, .int 0, .int 0, .int 0, .int 0, .int 365, .int 0, .int 0, .int 0]))] sz) := by
  refine Met.ofW (cc := cX9_day) (maxL := 1) (ret := (some .int)) (by decide) rfl ?_
  intro p e s m args below meth c s₁ B hml hv
  obtain ⟨rfl, hsz, hP, hK, hD0, hC, hZ⟩ := hv
  have hx := B.exec
  have hb := B.bytes
  have hr := B.returns
  have hts := atoms_spec (ws := wsX9_day) B.pre
  have hown : s.vm.findClass RX9 = some m.cls := findClass_of_methodNamed B.named
  have hlocks := B.notSynchronized
  subst hsz
  have hD := hD0.self (sz := s.heap.size)
  generalize hAe : va_A [(h0, .inr (10, [.ref b0, .int 0, .ref p0, .ref u0, .ref r0, .ref a0, .ref t0, .ref s0, .ref o0])), (a0, .inr (4, [.ref p0, .ref a1, .ref a3, .ref a4, .ref a5, .ref a6, .int 0, .int 0, .int 0, .long 0, .long 0, .long 0, .int 0, .int 0, .int 0, .int 0, .int 365, .int 0, .int 0, .int 0]))] s.heap.size = A at hD hZ ⊢
  have hA : ∀ q : Nat, s.heap.size ≤ q → A q := fun q h => by rw [← hAe]; exact Or.inr h
  have hS : va_S A s.heap s.heap [] := va_S.rf
  have hP : va_P D vwCl [(h0, .inr (10, [.ref b0, .int 0, .ref p0, .ref u0, .ref r0, .ref a0, .ref t0, .ref s0, .ref o0])), (a0, .inr (4, [.ref p0, .ref a1, .ref a3, .ref a4, .ref a5, .ref a6, .int 0, .int 0, .int 0, .long 0, .long 0, .long 0, .int 0, .int 0, .int 0, .int 0, .int 365, .int 0, .int 0, .int 0]))] s.heap := hP
  have hl := lv_entry ([.ref h0]) (n := 1) (Nat.le_of_ble_eq_true rfl)
  rw [lg_entry_eq]
  generalize (lg_sl ([.ref h0]) ++ List.replicate (1 - (lg_sl ([.ref h0])).length) Slot.unset).toArray = ls at hl ⊢
  have hl : lv_has ls 1 [(0, .ref h0)] := hl
  have inX0 : ∀ w ∈ u_ws RX0 TX0 20, w ∈ wsX9_day := by decide +kernel
  have inX9 : ∀ w ∈ u_ws RX9 TX9 9, w ∈ wsX9_day := by decide +kernel
  refine lv_aload_n hx hb dX9_day_0 rfl (lv_at hl 0 rfl) ?_
  refine va_get (D := D) (ci := 10) (v := .ref a0) (C := RX9) (T := TX9) (N := 9) hx hb hts inX9 hown hK hP 0 rfl rfl 5 (by decide) (hts (.fieldLink RX9 35 "EscrowDesk" "account" "LEscrowDesk$Account;") (by decide +kernel)) (fun _ h9 => h9) rfl dX9_day_1 ?_
  refine va_getN (D := D) (ci := 4) (v := .int 0) (C := RX0) (T := TX0) (N := 20) hx hb hts inX0 hown hK hP 1 rfl rfl 6 (by decide) (hC.f (A := _) (a := RX9) (i := 87) (b := "EscrowDesk$Account") (n := "day") (d := "I") (x := "EscrowDesk") (by decide +kernel)) (fun _ h9 => h9) rfl dX9_day_4 ?_
  have hP9 := hP.sub (ws' := []) [] rfl
  have hD9 := hD.sub (ws' := []) [] (by decide) rfl
  refine W.widen (k := 0) (n := 0) (Nat.le_of_ble_eq_true rfl) (Nat.le_of_ble_eq_true rfl) ?_
  exact W.iret (v := 0) hx hb hr (fun t ht hW => ⟨⟨0, (), rfl, rfl, by rw [ht]; exact hP9, hD9⟩, hS.F ht⟩) hS.2.2 dX9_day_7

set_option maxHeartbeats 4000000 in
set_option maxRecDepth 100000 in
/-- deposited -/
theorem c_deposited (l : Launch) (D : va_G) (cA : Nat → ClassId) (sa : Nat → Nat) (h0 b0 p0 u0 r0 a0 t0 s0 o0 a1 a3 a4 a5 a6 : Nat) (sz : Nat) : Met l yX9_deposited wsX9_deposited ({ frames := 0, cells := 0, slots := 0, locals := 0 }) (va_Pc [.ref h0] (Wd D cA sa [(h0, .inr (10, [.ref b0, .int 0, .ref p0, .ref u0, .ref r0, .ref a0, .ref t0, .ref s0, .ref o0])), (a0, .inr (4, [.ref p0, .ref a1, .ref a3, .ref a4, .ref a5, .ref a6, .int 0, .int 0, .int 0, .long 0, .long 0, .long 0, .int 0, .int 0, .int 0, .int 0, .int 365, .int 0, .int 0, .int 0]))] sz)) (va_Qi (fun (r : Int32) (_ : Unit) => r = 0) (fun (_ : Unit) t => Wq D (va_A [(h0, .inr (10, [.ref b0, .int 0, .ref p0, .ref u0, .ref r0, .ref a0, .ref t0, .ref s0, .ref o0])), (a0, .inr (4, [.ref p0, .ref a1, .ref a3, .ref a4, .ref a5, .ref a6, .int 0, .int 0, .int 0, .long 0, .long 0, .long 0, .int 0, .int 0, .int 0, .int 0, .int 365, .int 0, .int 0, .int 0]))] sz) [] t) (va_A [(h0, .inr (10, [.ref b0, .int 0, .ref p0, .ref u0, .ref r0, .ref a0, .ref t0, .ref s0, .ref o0])), (a0, .inr (4, [.ref p0, .ref a1, .ref a3, .ref a4, .ref a5, .ref a6, .int 0, .int 0, .int 0, .long 0, .long 0, .long 0, .int 0, .int 0, .int 0, .int 0, .int 365, .int 0, .int 0, .int 0]))] sz)) 0 0 (va_A [(h0, .inr (10, [.ref b0, .int 0, .ref p0, .ref u0, .ref r0, .ref a0, .ref t0, .ref s0, .ref o0])), (a0, .inr (4, [.ref p0, .ref a1, .ref a3, .ref a4, .ref a5, .ref a6, .int 0, .int 0, .int 0, .long 0, .long 0, .long 0, .int 0, .int 0, .int 0, .int 0, .int 365, .int 0, .int 0, .int 0]))] sz) := by
  refine Met.ofW (cc := cX9_deposited) (maxL := 1) (ret := (some .int)) (by decide) rfl ?_
  intro p e s m args below meth c s₁ B hml hv
  obtain ⟨rfl, hsz, hP, hK, hD0, hC, hZ⟩ := hv
  have hx := B.exec
  have hb := B.bytes
  have hr := B.returns
  have hts := atoms_spec (ws := wsX9_deposited) B.pre
  have hown : s.vm.findClass RX9 = some m.cls := findClass_of_methodNamed B.named
  have hlocks := B.notSynchronized
  subst hsz
  have hD := hD0.self (sz := s.heap.size)
  generalize hAe : va_A [(h0, .inr (10, [.ref b0, .int 0, .ref p0, .ref u0, .ref r0, .ref a0, .ref t0, .ref s0, .ref o0])), (a0, .inr (4, [.ref p0, .ref a1, .ref a3, .ref a4, .ref a5, .ref a6, .int 0, .int 0, .int 0, .long 0, .long 0, .long 0, .int 0, .int 0, .int 0, .int 0, .int 365, .int 0, .int 0, .int 0]))] s.heap.size = A at hD hZ ⊢
  have hA : ∀ q : Nat, s.heap.size ≤ q → A q := fun q h => by rw [← hAe]; exact Or.inr h
  have hS : va_S A s.heap s.heap [] := va_S.rf
  have hP : va_P D vwCl [(h0, .inr (10, [.ref b0, .int 0, .ref p0, .ref u0, .ref r0, .ref a0, .ref t0, .ref s0, .ref o0])), (a0, .inr (4, [.ref p0, .ref a1, .ref a3, .ref a4, .ref a5, .ref a6, .int 0, .int 0, .int 0, .long 0, .long 0, .long 0, .int 0, .int 0, .int 0, .int 0, .int 365, .int 0, .int 0, .int 0]))] s.heap := hP
  have hl := lv_entry ([.ref h0]) (n := 1) (Nat.le_of_ble_eq_true rfl)
  rw [lg_entry_eq]
  generalize (lg_sl ([.ref h0]) ++ List.replicate (1 - (lg_sl ([.ref h0])).length) Slot.unset).toArray = ls at hl ⊢
  have hl : lv_has ls 1 [(0, .ref h0)] := hl
  have inX0 : ∀ w ∈ u_ws RX0 TX0 20, w ∈ wsX9_deposited := by decide +kernel
  have inX9 : ∀ w ∈ u_ws RX9 TX9 9, w ∈ wsX9_deposited := by decide +kernel
  refine lv_aload_n hx hb dX9_deposited_0 rfl (lv_at hl 0 rfl) ?_
  refine va_get (D := D) (ci := 10) (v := .ref a0) (C := RX9) (T := TX9) (N := 9) hx hb hts inX9 hown hK hP 0 rfl rfl 5 (by decide) (hts (.fieldLink RX9 35 "EscrowDesk" "account" "LEscrowDesk$Account;") (by decide +kernel)) (fun _ h9 => h9) rfl dX9_deposited_1 ?_
  refine va_getN (D := D) (ci := 4) (v := .int 0) (C := RX0) (T := TX0) (N := 20) hx hb hts inX0 hown hK hP 1 rfl rfl 7 (by decide) (hC.f (A := _) (a := RX9) (i := 90) (b := "EscrowDesk$Account") (n := "deposited") (d := "I") (x := "EscrowDesk") (by decide +kernel)) (fun _ h9 => h9) rfl dX9_deposited_4 ?_
  have hP9 := hP.sub (ws' := []) [] rfl
  have hD9 := hD.sub (ws' := []) [] (by decide) rfl
  refine W.widen (k := 0) (n := 0) (Nat.le_of_ble_eq_true rfl) (Nat.le_of_ble_eq_true rfl) ?_
  exact W.iret (v := 0) hx hb hr (fun t ht hW => ⟨⟨0, (), rfl, rfl, by rw [ht]; exact hP9, hD9⟩, hS.F ht⟩) hS.2.2 dX9_deposited_7

set_option maxHeartbeats 4000000 in
set_option maxRecDepth 100000 in
/-- principal -/
theorem c_principal (l : Launch) (D : va_G) (cA : Nat → ClassId) (sa : Nat → Nat) (h0 b0 p0 u0 r0 a0 t0 s0 o0 a1 a3 a4 a5 a6 : Nat) (sz : Nat) : Met l yX9_principal wsX9_principal ({ frames := 0, cells := 0, slots := 0, locals := 0 }) (va_Pc [.ref h0] (Wd D cA sa [(h0, .inr (10, [.ref b0, .int 0, .ref p0, .ref u0, .ref r0, .ref a0, .ref t0, .ref s0, .ref o0])), (a0, .inr (4, [.ref p0, .ref a1, .ref a3, .ref a4, .ref a5, .ref a6, .int 0, .int 0, .int 0, .long 0, .long 0, .long 0, .int 0, .int 0, .int 0, .int 0, .int 365, .int 0, .int 0, .int 0]))] sz)) (va_Qi (fun (r : Int32) (_ : Unit) => r = 0) (fun (_ : Unit) t => Wq D (va_A [(h0, .inr (10, [.ref b0, .int 0, .ref p0, .ref u0, .ref r0, .ref a0, .ref t0, .ref s0, .ref o0])), (a0, .inr (4, [.ref p0, .ref a1, .ref a3, .ref a4, .ref a5, .ref a6, .int 0, .int 0, .int 0, .long 0, .long 0, .long 0, .int 0, .int 0, .int 0, .int 0, .int 365, .int 0, .int 0, .int 0]))] sz) [] t) (va_A [(h0, .inr (10, [.ref b0, .int 0, .ref p0, .ref u0, .ref r0, .ref a0, .ref t0, .ref s0, .ref o0])), (a0, .inr (4, [.ref p0, .ref a1, .ref a3, .ref a4, .ref a5, .ref a6, .int 0, .int 0, .int 0, .long 0, .long 0, .long 0, .int 0, .int 0, .int 0, .int 0, .int 365, .int 0, .int 0, .int 0]))] sz)) 0 0 (va_A [(h0, .inr (10, [.ref b0, .int 0, .ref p0, .ref u0, .ref r0, .ref a0, .ref t0, .ref s0, .ref o0])), (a0, .inr (4, [.ref p0, .ref a1, .ref a3, .ref a4, .ref a5, .ref a6, .int 0, .int 0, .int 0, .long 0, .long 0, .long 0, .int 0, .int 0, .int 0, .int 0, .int 365, .int 0, .int 0, .int 0]))] sz) := by
  refine Met.ofW (cc := cX9_principal) (maxL := 1) (ret := (some .int)) (by decide) rfl ?_
  intro p e s m args below meth c s₁ B hml hv
  obtain ⟨rfl, hsz, hP, hK, hD0, hC, hZ⟩ := hv
  have hx := B.exec
  have hb := B.bytes
  have hr := B.returns
  have hts := atoms_spec (ws := wsX9_principal) B.pre
  have hown : s.vm.findClass RX9 = some m.cls := findClass_of_methodNamed B.named
  have hlocks := B.notSynchronized
  subst hsz
  have hD := hD0.self (sz := s.heap.size)
  generalize hAe : va_A [(h0, .inr (10, [.ref b0, .int 0, .ref p0, .ref u0, .ref r0, .ref a0, .ref t0, .ref s0, .ref o0])), (a0, .inr (4, [.ref p0, .ref a1, .ref a3, .ref a4, .ref a5, .ref a6, .int 0, .int 0, .int 0, .long 0, .long 0, .long 0, .int 0, .int 0, .int 0, .int 0, .int 365, .int 0, .int 0, .int 0]))] s.heap.size = A at hD hZ ⊢
  have hA : ∀ q : Nat, s.heap.size ≤ q → A q := fun q h => by rw [← hAe]; exact Or.inr h
  have hS : va_S A s.heap s.heap [] := va_S.rf
  have hP : va_P D vwCl [(h0, .inr (10, [.ref b0, .int 0, .ref p0, .ref u0, .ref r0, .ref a0, .ref t0, .ref s0, .ref o0])), (a0, .inr (4, [.ref p0, .ref a1, .ref a3, .ref a4, .ref a5, .ref a6, .int 0, .int 0, .int 0, .long 0, .long 0, .long 0, .int 0, .int 0, .int 0, .int 0, .int 365, .int 0, .int 0, .int 0]))] s.heap := hP
  have hl := lv_entry ([.ref h0]) (n := 1) (Nat.le_of_ble_eq_true rfl)
  rw [lg_entry_eq]
  generalize (lg_sl ([.ref h0]) ++ List.replicate (1 - (lg_sl ([.ref h0])).length) Slot.unset).toArray = ls at hl ⊢
  have hl : lv_has ls 1 [(0, .ref h0)] := hl
  have inX0 : ∀ w ∈ u_ws RX0 TX0 20, w ∈ wsX9_principal := by decide +kernel
  have inX9 : ∀ w ∈ u_ws RX9 TX9 9, w ∈ wsX9_principal := by decide +kernel
  refine lv_aload_n hx hb dX9_principal_0 rfl (lv_at hl 0 rfl) ?_
  refine va_get (D := D) (ci := 10) (v := .ref a0) (C := RX9) (T := TX9) (N := 9) hx hb hts inX9 hown hK hP 0 rfl rfl 5 (by decide) (hts (.fieldLink RX9 35 "EscrowDesk" "account" "LEscrowDesk$Account;") (by decide +kernel)) (fun _ h9 => h9) rfl dX9_principal_1 ?_
  refine va_getN (D := D) (ci := 4) (v := .int 0) (C := RX0) (T := TX0) (N := 20) hx hb hts inX0 hown hK hP 1 rfl rfl 8 (by decide) (hC.f (A := _) (a := RX9) (i := 93) (b := "EscrowDesk$Account") (n := "principal") (d := "I") (x := "EscrowDesk") (by decide +kernel)) (fun _ h9 => h9) rfl dX9_principal_4 ?_
  have hP9 := hP.sub (ws' := []) [] rfl
  have hD9 := hD.sub (ws' := []) [] (by decide) rfl
  refine W.widen (k := 0) (n := 0) (Nat.le_of_ble_eq_true rfl) (Nat.le_of_ble_eq_true rfl) ?_
  exact W.iret (v := 0) hx hb hr (fun t ht hW => ⟨⟨0, (), rfl, rfl, by rw [ht]; exact hP9, hD9⟩, hS.F ht⟩) hS.2.2 dX9_principal_7

set_option maxHeartbeats 4000000 in
set_option maxRecDepth 100000 in
/-- interestPot -/
theorem c_interestPot (l : Launch) (D : va_G) (cA : Nat → ClassId) (sa : Nat → Nat) (h0 b0 p0 u0 r0 a0 t0 s0 o0 a1 a3 a4 a5 a6 : Nat) (sz : Nat) : Met l yX9_interestPot wsX9_interestPot ({ frames := 0, cells := 0, slots := 0, locals := 0 }) (va_Pc [.ref h0] (Wd D cA sa [(h0, .inr (10, [.ref b0, .int 0, .ref p0, .ref u0, .ref r0, .ref a0, .ref t0, .ref s0, .ref o0])), (a0, .inr (4, [.ref p0, .ref a1, .ref a3, .ref a4, .ref a5, .ref a6, .int 0, .int 0, .int 0, .long 0, .long 0, .long 0, .int 0, .int 0, .int 0, .int 0, .int 365, .int 0, .int 0, .int 0]))] sz)) (va_Qi (fun (r : Int32) (_ : Unit) => r = 0) (fun (_ : Unit) t => Wq D (va_A [(h0, .inr (10, [.ref b0, .int 0, .ref p0, .ref u0, .ref r0, .ref a0, .ref t0, .ref s0, .ref o0])), (a0, .inr (4, [.ref p0, .ref a1, .ref a3, .ref a4, .ref a5, .ref a6, .int 0, .int 0, .int 0, .long 0, .long 0, .long 0, .int 0, .int 0, .int 0, .int 0, .int 365, .int 0, .int 0, .int 0]))] sz) [] t) (va_A [(h0, .inr (10, [.ref b0, .int 0, .ref p0, .ref u0, .ref r0, .ref a0, .ref t0, .ref s0, .ref o0])), (a0, .inr (4, [.ref p0, .ref a1, .ref a3, .ref a4, .ref a5, .ref a6, .int 0, .int 0, .int 0, .long 0, .long 0, .long 0, .int 0, .int 0, .int 0, .int 0, .int 365, .int 0, .int 0, .int 0]))] sz)) 0 0 (va_A [(h0, .inr (10, [.ref b0, .int 0, .ref p0, .ref u0, .ref r0, .ref a0, .ref t0, .ref s0, .ref o0])), (a0, .inr (4, [.ref p0, .ref a1, .ref a3, .ref a4, .ref a5, .ref a6, .int 0, .int 0, .int 0, .long 0, .long 0, .long 0, .int 0, .int 0, .int 0, .int 0, .int 365, .int 0, .int 0, .int 0]))] sz) := by
  refine Met.ofW (cc := cX9_interestPot) (maxL := 1) (ret := (some .int)) (by decide) rfl ?_
  intro p e s m args below meth c s₁ B hml hv
  obtain ⟨rfl, hsz, hP, hK, hD0, hC, hZ⟩ := hv
  have hx := B.exec
  have hb := B.bytes
  have hr := B.returns
  have hts := atoms_spec (ws := wsX9_interestPot) B.pre
  have hown : s.vm.findClass RX9 = some m.cls := findClass_of_methodNamed B.named
  have hlocks := B.notSynchronized
  subst hsz
  have hD := hD0.self (sz := s.heap.size)
  generalize hAe : va_A [(h0, .inr (10, [.ref b0, .int 0, .ref p0, .ref u0, .ref r0, .ref a0, .ref t0, .ref s0, .ref o0])), (a0, .inr (4, [.ref p0, .ref a1, .ref a3, .ref a4, .ref a5, .ref a6, .int 0, .int 0, .int 0, .long 0, .long 0, .long 0, .int 0, .int 0, .int 0, .int 0, .int 365, .int 0, .int 0, .int 0]))] s.heap.size = A at hD hZ ⊢
  have hA : ∀ q : Nat, s.heap.size ≤ q → A q := fun q h => by rw [← hAe]; exact Or.inr h
  have hS : va_S A s.heap s.heap [] := va_S.rf
  have hP : va_P D vwCl [(h0, .inr (10, [.ref b0, .int 0, .ref p0, .ref u0, .ref r0, .ref a0, .ref t0, .ref s0, .ref o0])), (a0, .inr (4, [.ref p0, .ref a1, .ref a3, .ref a4, .ref a5, .ref a6, .int 0, .int 0, .int 0, .long 0, .long 0, .long 0, .int 0, .int 0, .int 0, .int 0, .int 365, .int 0, .int 0, .int 0]))] s.heap := hP
  have hl := lv_entry ([.ref h0]) (n := 1) (Nat.le_of_ble_eq_true rfl)
  rw [lg_entry_eq]
  generalize (lg_sl ([.ref h0]) ++ List.replicate (1 - (lg_sl ([.ref h0])).length) Slot.unset).toArray = ls at hl ⊢
  have hl : lv_has ls 1 [(0, .ref h0)] := hl
  have inX0 : ∀ w ∈ u_ws RX0 TX0 20, w ∈ wsX9_interestPot := by decide +kernel
  have inX9 : ∀ w ∈ u_ws RX9 TX9 9, w ∈ wsX9_interestPot := by decide +kernel
  refine lv_aload_n hx hb dX9_interestPot_0 rfl (lv_at hl 0 rfl) ?_
  refine va_get (D := D) (ci := 10) (v := .ref a0) (C := RX9) (T := TX9) (N := 9) hx hb hts inX9 hown hK hP 0 rfl rfl 5 (by decide) (hts (.fieldLink RX9 35 "EscrowDesk" "account" "LEscrowDesk$Account;") (by decide +kernel)) (fun _ h9 => h9) rfl dX9_interestPot_1 ?_
  refine va_getN (D := D) (ci := 4) (v := .long 0) (C := RX0) (T := TX0) (N := 20) hx hb hts inX0 hown hK hP 1 rfl rfl 9 (by decide) (hC.f (A := _) (a := RX9) (i := 100) (b := "EscrowDesk$Account") (n := "interestPot") (d := "J") (x := "EscrowDesk") (by decide +kernel)) (fun _ h9 => h9) rfl dX9_interestPot_4 ?_
  refine lv_l2i (v := 0) hx hb dX9_interestPot_7 (by decide) ?_
  have hP9 := hP.sub (ws' := []) [] rfl
  have hD9 := hD.sub (ws' := []) [] (by decide) rfl
  refine W.widen (k := 0) (n := 0) (Nat.le_of_ble_eq_true rfl) (Nat.le_of_ble_eq_true rfl) ?_
  exact W.iret (v := 0) hx hb hr (fun t ht hW => ⟨⟨0, (), rfl, rfl, by rw [ht]; exact hP9, hD9⟩, hS.F ht⟩) hS.2.2 dX9_interestPot_8

set_option maxHeartbeats 4000000 in
set_option maxRecDepth 100000 in
/-- credited -/
theorem c_credited (l : Launch) (D : va_G) (cA : Nat → ClassId) (sa : Nat → Nat) (h0 b0 p0 u0 r0 a0 t0 s0 o0 a1 a3 a4 a5 a6 : Nat) (sz : Nat) : Met l yX9_credited wsX9_credited ({ frames := 0, cells := 0, slots := 0, locals := 0 }) (va_Pc [.ref h0] (Wd D cA sa [(h0, .inr (10, [.ref b0, .int 0, .ref p0, .ref u0, .ref r0, .ref a0, .ref t0, .ref s0, .ref o0])), (a0, .inr (4, [.ref p0, .ref a1, .ref a3, .ref a4, .ref a5, .ref a6, .int 0, .int 0, .int 0, .long 0, .long 0, .long 0, .int 0, .int 0, .int 0, .int 0, .int 365, .int 0, .int 0, .int 0]))] sz)) (va_Qi (fun (r : Int32) (_ : Unit) => r = 0) (fun (_ : Unit) t => Wq D (va_A [(h0, .inr (10, [.ref b0, .int 0, .ref p0, .ref u0, .ref r0, .ref a0, .ref t0, .ref s0, .ref o0])), (a0, .inr (4, [.ref p0, .ref a1, .ref a3, .ref a4, .ref a5, .ref a6, .int 0, .int 0, .int 0, .long 0, .long 0, .long 0, .int 0, .int 0, .int 0, .int 0, .int 365, .int 0, .int 0, .int 0]))] sz) [] t) (va_A [(h0, .inr (10, [.ref b0, .int 0, .ref p0, .ref u0, .ref r0, .ref a0, .ref t0, .ref s0, .ref o0])), (a0, .inr (4, [.ref p0, .ref a1, .ref a3, .ref a4, .ref a5, .ref a6, .int 0, .int 0, .int 0, .long 0, .long 0, .long 0, .int 0, .int 0, .int 0, .int 0, .int 365, .int 0, .int 0, .int 0]))] sz)) 0 0 (va_A [(h0, .inr (10, [.ref b0, .int 0, .ref p0, .ref u0, .ref r0, .ref a0, .ref t0, .ref s0, .ref o0])), (a0, .inr (4, [.ref p0, .ref a1, .ref a3, .ref a4, .ref a5, .ref a6, .int 0, .int 0, .int 0, .long 0, .long 0, .long 0, .int 0, .int 0, .int 0, .int 0, .int 365, .int 0, .int 0, .int 0]))] sz) := by
  refine Met.ofW (cc := cX9_credited) (maxL := 1) (ret := (some .int)) (by decide) rfl ?_
  intro p e s m args below meth c s₁ B hml hv
  obtain ⟨rfl, hsz, hP, hK, hD0, hC, hZ⟩ := hv
  have hx := B.exec
  have hb := B.bytes
  have hr := B.returns
  have hts := atoms_spec (ws := wsX9_credited) B.pre
  have hown : s.vm.findClass RX9 = some m.cls := findClass_of_methodNamed B.named
  have hlocks := B.notSynchronized
  subst hsz
  have hD := hD0.self (sz := s.heap.size)
  generalize hAe : va_A [(h0, .inr (10, [.ref b0, .int 0, .ref p0, .ref u0, .ref r0, .ref a0, .ref t0, .ref s0, .ref o0])), (a0, .inr (4, [.ref p0, .ref a1, .ref a3, .ref a4, .ref a5, .ref a6, .int 0, .int 0, .int 0, .long 0, .long 0, .long 0, .int 0, .int 0, .int 0, .int 0, .int 365, .int 0, .int 0, .int 0]))] s.heap.size = A at hD hZ ⊢
  have hA : ∀ q : Nat, s.heap.size ≤ q → A q := fun q h => by rw [← hAe]; exact Or.inr h
  have hS : va_S A s.heap s.heap [] := va_S.rf
  have hP : va_P D vwCl [(h0, .inr (10, [.ref b0, .int 0, .ref p0, .ref u0, .ref r0, .ref a0, .ref t0, .ref s0, .ref o0])), (a0, .inr (4, [.ref p0, .ref a1, .ref a3, .ref a4, .ref a5, .ref a6, .int 0, .int 0, .int 0, .long 0, .long 0, .long 0, .int 0, .int 0, .int 0, .int 0, .int 365, .int 0, .int 0, .int 0]))] s.heap := hP
  have hl := lv_entry ([.ref h0]) (n := 1) (Nat.le_of_ble_eq_true rfl)
  rw [lg_entry_eq]
  generalize (lg_sl ([.ref h0]) ++ List.replicate (1 - (lg_sl ([.ref h0])).length) Slot.unset).toArray = ls at hl ⊢
  have hl : lv_has ls 1 [(0, .ref h0)] := hl
  have inX0 : ∀ w ∈ u_ws RX0 TX0 20, w ∈ wsX9_credited := by decide +kernel
  have inX9 : ∀ w ∈ u_ws RX9 TX9 9, w ∈ wsX9_credited := by decide +kernel
  refine lv_aload_n hx hb dX9_credited_0 rfl (lv_at hl 0 rfl) ?_
  refine va_get (D := D) (ci := 10) (v := .ref a0) (C := RX9) (T := TX9) (N := 9) hx hb hts inX9 hown hK hP 0 rfl rfl 5 (by decide) (hts (.fieldLink RX9 35 "EscrowDesk" "account" "LEscrowDesk$Account;") (by decide +kernel)) (fun _ h9 => h9) rfl dX9_credited_1 ?_
  refine va_getN (D := D) (ci := 4) (v := .long 0) (C := RX0) (T := TX0) (N := 20) hx hb hts inX0 hown hK hP 1 rfl rfl 10 (by decide) (hC.f (A := _) (a := RX9) (i := 104) (b := "EscrowDesk$Account") (n := "credited") (d := "J") (x := "EscrowDesk") (by decide +kernel)) (fun _ h9 => h9) rfl dX9_credited_4 ?_
  refine lv_l2i (v := 0) hx hb dX9_credited_7 (by decide) ?_
  have hP9 := hP.sub (ws' := []) [] rfl
  have hD9 := hD.sub (ws' := []) [] (by decide) rfl
  refine W.widen (k := 0) (n := 0) (Nat.le_of_ble_eq_true rfl) (Nat.le_of_ble_eq_true rfl) ?_
  exact W.iret (v := 0) hx hb hr (fun t ht hW => ⟨⟨0, (), rfl, rfl, by rw [ht]; exact hP9, hD9⟩, hS.F ht⟩) hS.2.2 dX9_credited_8

set_option maxHeartbeats 4000000 in
set_option maxRecDepth 100000 in
/-- accruedParts -/
theorem c_accruedParts (l : Launch) (D : va_G) (cA : Nat → ClassId) (sa : Nat → Nat) (h0 b0 p0 u0 r0 a0 t0 s0 o0 a1 a3 a4 a5 a6 : Nat) (sz : Nat) : Met l yX9_accruedParts wsX9_accruedParts ({ frames := 0, cells := 0, slots := 0, locals := 0 }) (va_Pc [.ref h0] (Wd D cA sa [(h0, .inr (10, [.ref b0, .int 0, .ref p0, .ref u0, .ref r0, .ref a0, .ref t0, .ref s0, .ref o0])), (a0, .inr (4, [.ref p0, .ref a1, .ref a3, .ref a4, .ref a5, .ref a6, .int 0, .int 0, .int 0, .long 0, .long 0, .long 0, .int 0, .int 0, .int 0, .int 0, .int 365, .int 0, .int 0, .int 0]))] sz)) (va_Ql (fun (r : Int64) (_ : Unit) => r = 0) (fun (_ : Unit) t => Wq D (va_A [(h0, .inr (10, [.ref b0, .int 0, .ref p0, .ref u0, .ref r0, .ref a0, .ref t0, .ref s0, .ref o0])), (a0, .inr (4, [.ref p0, .ref a1, .ref a3, .ref a4, .ref a5, .ref a6, .int 0, .int 0, .int 0, .long 0, .long 0, .long 0, .int 0, .int 0, .int 0, .int 0, .int 365, .int 0, .int 0, .int 0]))] sz) [] t) (va_A [(h0, .inr (10, [.ref b0, .int 0, .ref p0, .ref u0, .ref r0, .ref a0, .ref t0, .ref s0, .ref o0])), (a0, .inr (4, [.ref p0, .ref a1, .ref a3, .ref a4, .ref a5, .ref a6, .int 0, .int 0, .int 0, .long 0, .long 0, .long 0, .int 0, .int 0, .int 0, .int 0, .int 365, .int 0, .int 0, .int 0]))] sz)) 0 0 (va_A [(h0, .inr (10, [.ref b0, .int 0, .ref p0, .ref u0, .ref r0, .ref a0, .ref t0, .ref s0, .ref o0])), (a0, .inr (4, [.ref p0, .ref a1, .ref a3, .ref a4, .ref a5, .ref a6, .int 0, .int 0, .int 0, .long 0, .long 0, .long 0, .int 0, .int 0, .int 0, .int 0, .int 365, .int 0, .int 0, .int 0]))] sz) := by
  refine Met.ofW (cc := cX9_accruedParts) (maxL := 1) (ret := (some .long)) (by decide) rfl ?_
  intro p e s m args below meth c s₁ B hml hv
  obtain ⟨rfl, hsz, hP, hK, hD0, hC, hZ⟩ := hv
  have hx := B.exec
  have hb := B.bytes
  have hr := B.returns
  have hts := atoms_spec (ws := wsX9_accruedParts) B.pre
  have hown : s.vm.findClass RX9 = some m.cls := findClass_of_methodNamed B.named
  have hlocks := B.notSynchronized
  subst hsz
  have hD := hD0.self (sz := s.heap.size)
  generalize hAe : va_A [(h0, .inr (10, [.ref b0, .int 0, .ref p0, .ref u0, .ref r0, .ref a0, .ref t0, .ref s0, .ref o0])), (a0, .inr (4, [.ref p0, .ref a1, .ref a3, .ref a4, .ref a5, .ref a6, .int 0, .int 0, .int 0, .long 0, .long 0, .long 0, .int 0, .int 0, .int 0, .int 0, .int 365, .int 0, .int 0, .int 0]))] s.heap.size = A at hD hZ ⊢
  have hA : ∀ q : Nat, s.heap.size ≤ q → A q := fun q h => by rw [← hAe]; exact Or.inr h
  have hS : va_S A s.heap s.heap [] := va_S.rf
  have hP : va_P D vwCl [(h0, .inr (10, [.ref b0, .int 0, .ref p0, .ref u0, .ref r0, .ref a0, .ref t0, .ref s0, .ref o0])), (a0, .inr (4, [.ref p0, .ref a1, .ref a3, .ref a4, .ref a5, .ref a6, .int 0, .int 0, .int 0, .long 0, .long 0, .long 0, .int 0, .int 0, .int 0, .int 0, .int 365, .int 0, .int 0, .int 0]))] s.heap := hP
  have hl := lv_entry ([.ref h0]) (n := 1) (Nat.le_of_ble_eq_true rfl)
  rw [lg_entry_eq]
  generalize (lg_sl ([.ref h0]) ++ List.replicate (1 - (lg_sl ([.ref h0])).length) Slot.unset).toArray = ls at hl ⊢
  have hl : lv_has ls 1 [(0, .ref h0)] := hl
  have inX0 : ∀ w ∈ u_ws RX0 TX0 20, w ∈ wsX9_accruedParts := by decide +kernel
  have inX9 : ∀ w ∈ u_ws RX9 TX9 9, w ∈ wsX9_accruedParts := by decide +kernel
  refine lv_aload_n hx hb dX9_accruedParts_0 rfl (lv_at hl 0 rfl) ?_
  refine va_get (D := D) (ci := 10) (v := .ref a0) (C := RX9) (T := TX9) (N := 9) hx hb hts inX9 hown hK hP 0 rfl rfl 5 (by decide) (hts (.fieldLink RX9 35 "EscrowDesk" "account" "LEscrowDesk$Account;") (by decide +kernel)) (fun _ h9 => h9) rfl dX9_accruedParts_1 ?_
  refine va_getN (D := D) (ci := 4) (v := .long 0) (C := RX0) (T := TX0) (N := 20) hx hb hts inX0 hown hK hP 1 rfl rfl 11 (by decide) (hC.f (A := _) (a := RX9) (i := 107) (b := "EscrowDesk$Account") (n := "accruedParts") (d := "J") (x := "EscrowDesk") (by decide +kernel)) (fun _ h9 => h9) rfl dX9_accruedParts_4 ?_
  have hP9 := hP.sub (ws' := []) [] rfl
  have hD9 := hD.sub (ws' := []) [] (by decide) rfl
  refine W.widen (k := 0) (n := 0) (Nat.le_of_ble_eq_true rfl) (Nat.le_of_ble_eq_true rfl) ?_
  exact W.lret (v := 0) hx hb hr (fun t ht hW => ⟨⟨0, (), rfl, rfl, by rw [ht]; exact hP9, hD9⟩, hS.F ht⟩) hS.2.2 dX9_accruedParts_7

set_option maxHeartbeats 4000000 in
set_option maxRecDepth 100000 in
/-- received -/
theorem c_received (l : Launch) (D : va_G) (cA : Nat → ClassId) (sa : Nat → Nat) (h0 b0 p0 u0 r0 a0 t0 s0 o0 a1 a3 a4 a5 a6 : Nat) (sz : Nat) : Met l yX9_received wsX9_received ({ frames := 0, cells := 0, slots := 0, locals := 0 }) (va_Pc [.ref h0] (Wd D cA sa [(h0, .inr (10, [.ref b0, .int 0, .ref p0, .ref u0, .ref r0, .ref a0, .ref t0, .ref s0, .ref o0])), (a0, .inr (4, [.ref p0, .ref a1, .ref a3, .ref a4, .ref a5, .ref a6, .int 0, .int 0, .int 0, .long 0, .long 0, .long 0, .int 0, .int 0, .int 0, .int 0, .int 365, .int 0, .int 0, .int 0]))] sz)) (va_Qi (fun (r : Int32) (_ : Unit) => r = 0) (fun (_ : Unit) t => Wq D (va_A [(h0, .inr (10, [.ref b0, .int 0, .ref p0, .ref u0, .ref r0, .ref a0, .ref t0, .ref s0, .ref o0])), (a0, .inr (4, [.ref p0, .ref a1, .ref a3, .ref a4, .ref a5, .ref a6, .int 0, .int 0, .int 0, .long 0, .long 0, .long 0, .int 0, .int 0, .int 0, .int 0, .int 365, .int 0, .int 0, .int 0]))] sz) [] t) (va_A [(h0, .inr (10, [.ref b0, .int 0, .ref p0, .ref u0, .ref r0, .ref a0, .ref t0, .ref s0, .ref o0])), (a0, .inr (4, [.ref p0, .ref a1, .ref a3, .ref a4, .ref a5, .ref a6, .int 0, .int 0, .int 0, .long 0, .long 0, .long 0, .int 0, .int 0, .int 0, .int 0, .int 365, .int 0, .int 0, .int 0]))] sz)) 0 0 (va_A [(h0, .inr (10, [.ref b0, .int 0, .ref p0, .ref u0, .ref r0, .ref a0, .ref t0, .ref s0, .ref o0])), (a0, .inr (4, [.ref p0, .ref a1, .ref a3, .ref a4, .ref a5, .ref a6, .int 0, .int 0, .int 0, .long 0, .long 0, .long 0, .int 0, .int 0, .int 0, .int 0, .int 365, .int 0, .int 0, .int 0]))] sz) := by
  refine Met.ofW (cc := cX9_received) (maxL := 1) (ret := (some .int)) (by decide) rfl ?_
  intro p e s m args below meth c s₁ B hml hv
  obtain ⟨rfl, hsz, hP, hK, hD0, hC, hZ⟩ := hv
  have hx := B.exec
  have hb := B.bytes
  have hr := B.returns
  have hts := atoms_spec (ws := wsX9_received) B.pre
  have hown : s.vm.findClass RX9 = some m.cls := findClass_of_methodNamed B.named
  have hlocks := B.notSynchronized
  subst hsz
  have hD := hD0.self (sz := s.heap.size)
  generalize hAe : va_A [(h0, .inr (10, [.ref b0, .int 0, .ref p0, .ref u0, .ref r0, .ref a0, .ref t0, .ref s0, .ref o0])), (a0, .inr (4, [.ref p0, .ref a1, .ref a3, .ref a4, .ref a5, .ref a6, .int 0, .int 0, .int 0, .long 0, .long 0, .long 0, .int 0, .int 0, .int 0, .int 0, .int 365, .int 0, .int 0, .int 0]))] s.heap.size = A at hD hZ ⊢
  have hA : ∀ q : Nat, s.heap.size ≤ q → A q := fun q h => by rw [← hAe]; exact Or.inr h
  have hS : va_S A s.heap s.heap [] := va_S.rf
  have hP : va_P D vwCl [(h0, .inr (10, [.ref b0, .int 0, .ref p0, .ref u0, .ref r0, .ref a0, .ref t0, .ref s0, .ref o0])), (a0, .inr (4, [.ref p0, .ref a1, .ref a3, .ref a4, .ref a5, .ref a6, .int 0, .int 0, .int 0, .long 0, .long 0, .long 0, .int 0, .int 0, .int 0, .int 0, .int 365, .int 0, .int 0, .int 0]))] s.heap := hP
  have hl := lv_entry ([.ref h0]) (n := 1) (Nat.le_of_ble_eq_true rfl)
  rw [lg_entry_eq]
  generalize (lg_sl ([.ref h0]) ++ List.replicate (1 - (lg_sl ([.ref h0])).length) Slot.unset).toArray = ls at hl ⊢
  have hl : lv_has ls 1 [(0, .ref h0)] := hl
  have inX0 : ∀ w ∈ u_ws RX0 TX0 20, w ∈ wsX9_received := by decide +kernel
  have inX9 : ∀ w ∈ u_ws RX9 TX9 9, w ∈ wsX9_received := by decide +kernel
  refine lv_aload_n hx hb dX9_received_0 rfl (lv_at hl 0 rfl) ?_
  refine va_get (D := D) (ci := 10) (v := .ref a0) (C := RX9) (T := TX9) (N := 9) hx hb hts inX9 hown hK hP 0 rfl rfl 5 (by decide) (hts (.fieldLink RX9 35 "EscrowDesk" "account" "LEscrowDesk$Account;") (by decide +kernel)) (fun _ h9 => h9) rfl dX9_received_1 ?_
  refine va_getN (D := D) (ci := 4) (v := .int 0) (C := RX0) (T := TX0) (N := 20) hx hb hts inX0 hown hK hP 1 rfl rfl 12 (by decide) (hC.f (A := _) (a := RX9) (i := 110) (b := "EscrowDesk$Account") (n := "received") (d := "I") (x := "EscrowDesk") (by decide +kernel)) (fun _ h9 => h9) rfl dX9_received_4 ?_
  have hP9 := hP.sub (ws' := []) [] rfl
  have hD9 := hD.sub (ws' := []) [] (by decide) rfl
  refine W.widen (k := 0) (n := 0) (Nat.le_of_ble_eq_true rfl) (Nat.le_of_ble_eq_true rfl) ?_
  exact W.iret (v := 0) hx hb hr (fun t ht hW => ⟨⟨0, (), rfl, rfl, by rw [ht]; exact hP9, hD9⟩, hS.F ht⟩) hS.2.2 dX9_received_7

set_option maxHeartbeats 4000000 in
set_option maxRecDepth 100000 in
/-- fees -/
theorem c_fees (l : Launch) (D : va_G) (cA : Nat → ClassId) (sa : Nat → Nat) (h0 b0 p0 u0 r0 a0 t0 s0 o0 a1 a3 a4 a5 a6 : Nat) (sz : Nat) : Met l yX9_fees wsX9_fees ({ frames := 0, cells := 0, slots := 0, locals := 0 }) (va_Pc [.ref h0] (Wd D cA sa [(h0, .inr (10, [.ref b0, .int 0, .ref p0, .ref u0, .ref r0, .ref a0, .ref t0, .ref s0, .ref o0])), (a0, .inr (4, [.ref p0, .ref a1, .ref a3, .ref a4, .ref a5, .ref a6, .int 0, .int 0, .int 0, .long 0, .long 0, .long 0, .int 0, .int 0, .int 0, .int 0, .int 365, .int 0, .int 0, .int 0]))] sz)) (va_Qi (fun (r : Int32) (_ : Unit) => r = 0) (fun (_ : Unit) t => Wq D (va_A [(h0, .inr (10, [.ref b0, .int 0, .ref p0, .ref u0, .ref r0, .ref a0, .ref t0, .ref s0, .ref o0])), (a0, .inr (4, [.ref p0, .ref a1, .ref a3, .ref a4, .ref a5, .ref a6, .int 0, .int 0, .int 0, .long 0, .long 0, .long 0, .int 0, .int 0, .int 0, .int 0, .int 365, .int 0, .int 0, .int 0]))] sz) [] t) (va_A [(h0, .inr (10, [.ref b0, .int 0, .ref p0, .ref u0, .ref r0, .ref a0, .ref t0, .ref s0, .ref o0])), (a0, .inr (4, [.ref p0, .ref a1, .ref a3, .ref a4, .ref a5, .ref a6, .int 0, .int 0, .int 0, .long 0, .long 0, .long 0, .int 0, .int 0, .int 0, .int 0, .int 365, .int 0, .int 0, .int 0]))] sz)) 0 0 (va_A [(h0, .inr (10, [.ref b0, .int 0, .ref p0, .ref u0, .ref r0, .ref a0, .ref t0, .ref s0, .ref o0])), (a0, .inr (4, [.ref p0, .ref a1, .ref a3, .ref a4, .ref a5, .ref a6, .int 0, .int 0, .int 0, .long 0, .long 0, .long 0, .int 0, .int 0, .int 0, .int 0, .int 365, .int 0, .int 0, .int 0]))] sz) := by
  refine Met.ofW (cc := cX9_fees) (maxL := 1) (ret := (some .int)) (by decide) rfl ?_
  intro p e s m args below meth c s₁ B hml hv
  obtain ⟨rfl, hsz, hP, hK, hD0, hC, hZ⟩ := hv
  have hx := B.exec
  have hb := B.bytes
  have hr := B.returns
  have hts := atoms_spec (ws := wsX9_fees) B.pre
  have hown : s.vm.findClass RX9 = some m.cls := findClass_of_methodNamed B.named
  have hlocks := B.notSynchronized
  subst hsz
  have hD := hD0.self (sz := s.heap.size)
  generalize hAe : va_A [(h0, .inr (10, [.ref b0, .int 0, .ref p0, .ref u0, .ref r0, .ref a0, .ref t0, .ref s0, .ref o0])), (a0, .inr (4, [.ref p0, .ref a1, .ref a3, .ref a4, .ref a5, .ref a6, .int 0, .int 0, .int 0, .long 0, .long 0, .long 0, .int 0, .int 0, .int 0, .int 0, .int 365, .int 0, .int 0, .int 0]))] s.heap.size = A at hD hZ ⊢
  have hA : ∀ q : Nat, s.heap.size ≤ q → A q := fun q h => by rw [← hAe]; exact Or.inr h
  have hS : va_S A s.heap s.heap [] := va_S.rf
  have hP : va_P D vwCl [(h0, .inr (10, [.ref b0, .int 0, .ref p0, .ref u0, .ref r0, .ref a0, .ref t0, .ref s0, .ref o0])), (a0, .inr (4, [.ref p0, .ref a1, .ref a3, .ref a4, .ref a5, .ref a6, .int 0, .int 0, .int 0, .long 0, .long 0, .long 0, .int 0, .int 0, .int 0, .int 0, .int 365, .int 0, .int 0, .int 0]))] s.heap := hP
  have hl := lv_entry ([.ref h0]) (n := 1) (Nat.le_of_ble_eq_true rfl)
  rw [lg_entry_eq]
  generalize (lg_sl ([.ref h0]) ++ List.replicate (1 - (lg_sl ([.ref h0])).length) Slot.unset).toArray = ls at hl ⊢
  have hl : lv_has ls 1 [(0, .ref h0)] := hl
  have inX0 : ∀ w ∈ u_ws RX0 TX0 20, w ∈ wsX9_fees := by decide +kernel
  have inX9 : ∀ w ∈ u_ws RX9 TX9 9, w ∈ wsX9_fees := by decide +kernel
  refine lv_aload_n hx hb dX9_fees_0 rfl (lv_at hl 0 rfl) ?_
  refine va_get (D := D) (ci := 10) (v := .ref a0) (C := RX9) (T := TX9) (N := 9) hx hb hts inX9 hown hK hP 0 rfl rfl 5 (by decide) (hts (.fieldLink RX9 35 "EscrowDesk" "account" "LEscrowDesk$Account;") (by decide +kernel)) (fun _ h9 => h9) rfl dX9_fees_1 ?_
  refine va_getN (D := D) (ci := 4) (v := .int 0) (C := RX0) (T := TX0) (N := 20) hx hb hts inX0 hown hK hP 1 rfl rfl 13 (by decide) (hC.f (A := _) (a := RX9) (i := 113) (b := "EscrowDesk$Account") (n := "fees") (d := "I") (x := "EscrowDesk") (by decide +kernel)) (fun _ h9 => h9) rfl dX9_fees_4 ?_
  have hP9 := hP.sub (ws' := []) [] rfl
  have hD9 := hD.sub (ws' := []) [] (by decide) rfl
  refine W.widen (k := 0) (n := 0) (Nat.le_of_ble_eq_true rfl) (Nat.le_of_ble_eq_true rfl) ?_
  exact W.iret (v := 0) hx hb hr (fun t ht hW => ⟨⟨0, (), rfl, rfl, by rw [ht]; exact hP9, hD9⟩, hS.F ht⟩) hS.2.2 dX9_fees_7

set_option maxHeartbeats 4000000 in
set_option maxRecDepth 100000 in
/-- refunded -/
theorem c_refunded (l : Launch) (D : va_G) (cA : Nat → ClassId) (sa : Nat → Nat) (h0 b0 p0 u0 r0 a0 t0 s0 o0 a1 a3 a4 a5 a6 : Nat) (sz : Nat) : Met l yX9_refunded wsX9_refunded ({ frames := 0, cells := 0, slots := 0, locals := 0 }) (va_Pc [.ref h0] (Wd D cA sa [(h0, .inr (10, [.ref b0, .int 0, .ref p0, .ref u0, .ref r0, .ref a0, .ref t0, .ref s0, .ref o0])), (a0, .inr (4, [.ref p0, .ref a1, .ref a3, .ref a4, .ref a5, .ref a6, .int 0, .int 0, .int 0, .long 0, .long 0, .long 0, .int 0, .int 0, .int 0, .int 0, .int 365, .int 0, .int 0, .int 0]))] sz)) (va_Qi (fun (r : Int32) (_ : Unit) => r = 0) (fun (_ : Unit) t => Wq D (va_A [(h0, .inr (10, [.ref b0, .int 0, .ref p0, .ref u0, .ref r0, .ref a0, .ref t0, .ref s0, .ref o0])), (a0, .inr (4, [.ref p0, .ref a1, .ref a3, .ref a4, .ref a5, .ref a6, .int 0, .int 0, .int 0, .long 0, .long 0, .long 0, .int 0, .int 0, .int 0, .int 0, .int 365, .int 0, .int 0, .int 0]))] sz) [] t) (va_A [(h0, .inr (10, [.ref b0, .int 0, .ref p0, .ref u0, .ref r0, .ref a0, .ref t0, .ref s0, .ref o0])), (a0, .inr (4, [.ref p0, .ref a1, .ref a3, .ref a4, .ref a5, .ref a6, .int 0, .int 0, .int 0, .long 0, .long 0, .long 0, .int 0, .int 0, .int 0, .int 0, .int 365, .int 0, .int 0, .int 0]))] sz)) 0 0 (va_A [(h0, .inr (10, [.ref b0, .int 0, .ref p0, .ref u0, .ref r0, .ref a0, .ref t0, .ref s0, .ref o0])), (a0, .inr (4, [.ref p0, .ref a1, .ref a3, .ref a4, .ref a5, .ref a6, .int 0, .int 0, .int 0, .long 0, .long 0, .long 0, .int 0, .int 0, .int 0, .int 0, .int 365, .int 0, .int 0, .int 0]))] sz) := by
  refine Met.ofW (cc := cX9_refunded) (maxL := 1) (ret := (some .int)) (by decide) rfl ?_
  intro p e s m args below meth c s₁ B hml hv
  obtain ⟨rfl, hsz, hP, hK, hD0, hC, hZ⟩ := hv
  have hx := B.exec
  have hb := B.bytes
  have hr := B.returns
  have hts := atoms_spec (ws := wsX9_refunded) B.pre
  have hown : s.vm.findClass RX9 = some m.cls := findClass_of_methodNamed B.named
  have hlocks := B.notSynchronized
  subst hsz
  have hD := hD0.self (sz := s.heap.size)
  generalize hAe : va_A [(h0, .inr (10, [.ref b0, .int 0, .ref p0, .ref u0, .ref r0, .ref a0, .ref t0, .ref s0, .ref o0])), (a0, .inr (4, [.ref p0, .ref a1, .ref a3, .ref a4, .ref a5, .ref a6, .int 0, .int 0, .int 0, .long 0, .long 0, .long 0, .int 0, .int 0, .int 0, .int 0, .int 365, .int 0, .int 0, .int 0]))] s.heap.size = A at hD hZ ⊢
  have hA : ∀ q : Nat, s.heap.size ≤ q → A q := fun q h => by rw [← hAe]; exact Or.inr h
  have hS : va_S A s.heap s.heap [] := va_S.rf
  have hP : va_P D vwCl [(h0, .inr (10, [.ref b0, .int 0, .ref p0, .ref u0, .ref r0, .ref a0, .ref t0, .ref s0, .ref o0])), (a0, .inr (4, [.ref p0, .ref a1, .ref a3, .ref a4, .ref a5, .ref a6, .int 0, .int 0, .int 0, .long 0, .long 0, .long 0, .int 0, .int 0, .int 0, .int 0, .int 365, .int 0, .int 0, .int 0]))] s.heap := hP
  have hl := lv_entry ([.ref h0]) (n := 1) (Nat.le_of_ble_eq_true rfl)
  rw [lg_entry_eq]
  generalize (lg_sl ([.ref h0]) ++ List.replicate (1 - (lg_sl ([.ref h0])).length) Slot.unset).toArray = ls at hl ⊢
  have hl : lv_has ls 1 [(0, .ref h0)] := hl
  have inX0 : ∀ w ∈ u_ws RX0 TX0 20, w ∈ wsX9_refunded := by decide +kernel
  have inX9 : ∀ w ∈ u_ws RX9 TX9 9, w ∈ wsX9_refunded := by decide +kernel
  refine lv_aload_n hx hb dX9_refunded_0 rfl (lv_at hl 0 rfl) ?_
  refine va_get (D := D) (ci := 10) (v := .ref a0) (C := RX9) (T := TX9) (N := 9) hx hb hts inX9 hown hK hP 0 rfl rfl 5 (by decide) (hts (.fieldLink RX9 35 "EscrowDesk" "account" "LEscrowDesk$Account;") (by decide +kernel)) (fun _ h9 => h9) rfl dX9_refunded_1 ?_
  refine va_getN (D := D) (ci := 4) (v := .int 0) (C := RX0) (T := TX0) (N := 20) hx hb hts inX0 hown hK hP 1 rfl rfl 14 (by decide) (hC.f (A := _) (a := RX9) (i := 116) (b := "EscrowDesk$Account") (n := "refunded") (d := "I") (x := "EscrowDesk") (by decide +kernel)) (fun _ h9 => h9) rfl dX9_refunded_4 ?_
  have hP9 := hP.sub (ws' := []) [] rfl
  have hD9 := hD.sub (ws' := []) [] (by decide) rfl
  refine W.widen (k := 0) (n := 0) (Nat.le_of_ble_eq_true rfl) (Nat.le_of_ble_eq_true rfl) ?_
  exact W.iret (v := 0) hx hb hr (fun t ht hW => ⟨⟨0, (), rfl, rfl, by rw [ht]; exact hP9, hD9⟩, hS.F ht⟩) hS.2.2 dX9_refunded_7

set_option maxHeartbeats 4000000 in
set_option maxRecDepth 100000 in
/-- milestones -/
theorem c_milestones (l : Launch) (D : va_G) (cA : Nat → ClassId) (sa : Nat → Nat) (h0 b0 p0 u0 r0 a0 t0 s0 o0 p1 p2 p3 p4 p5 p6 p7 p8 p9 : Nat) (sz : Nat) : Met l yX9_milestones wsX9_milestones ({ frames := 0, cells := 0, slots := 0, locals := 0 }) (va_Pc [.ref h0] (Wd D cA sa [(h0, .inr (10, [.ref b0, .int 0, .ref p0, .ref u0, .ref r0, .ref a0, .ref t0, .ref s0, .ref o0])), (p0, .inr (7, [.int 0, .int 365, .int 0, .int 0, .ref p1, .int 0, .ref p2, .ref p3, .ref p4, .ref p5, .int 0, .ref p6, .int 0, .ref p7, .ref p8, .ref p9, .int 0]))] sz)) (va_Qi (fun (r : Int32) (_ : Unit) => r = 0) (fun (_ : Unit) t => Wq D (va_A [(h0, .inr (10, [.ref b0, .int 0, .ref p0, .ref u0, .ref r0, .ref a0, .ref t0, .ref s0, .ref o0])), (p0, .inr (7, [.int 0, .int 365, .int 0, .int 0, .ref p1, .int 0, .ref p2, .ref p3, .ref p4, .ref p5, .int 0, .ref p6, .int 0, .ref p7, .ref p8, .ref p9, .int 0]))] sz) [] t) (va_A [(h0, .inr (10, [.ref b0, .int 0, .ref p0, .ref u0, .ref r0, .ref a0, .ref t0, .ref s0, .ref o0])), (p0, .inr (7, [.int 0, .int 365, .int 0, .int 0, .ref p1, .int 0, .ref p2, .ref p3, .ref p4, .ref p5, .int 0, .ref p6, .int 0, .ref p7, .ref p8, .ref p9, .int 0]))] sz)) 0 0 (va_A [(h0, .inr (10, [.ref b0, .int 0, .ref p0, .ref u0, .ref r0, .ref a0, .ref t0, .ref s0, .ref o0])), (p0, .inr (7, [.int 0, .int 365, .int 0, .int 0, .ref p1, .int 0, .ref p2, .ref p3, .ref p4, .ref p5, .int 0, .ref p6, .int 0, .ref p7, .ref p8, .ref p9, .int 0]))] sz) := by
  refine Met.ofW (cc := cX9_milestones) (maxL := 1) (ret := (some .int)) (by decide) rfl ?_
  intro p e s m args below meth c s₁ B hml hv
  obtain ⟨rfl, hsz, hP, hK, hD0, hC, hZ⟩ := hv
  have hx := B.exec
  have hb := B.bytes
  have hr := B.returns
  have hts := atoms_spec (ws := wsX9_milestones) B.pre
  have hown : s.vm.findClass RX9 = some m.cls := findClass_of_methodNamed B.named
  have hlocks := B.notSynchronized
  subst hsz
  have hD := hD0.self (sz := s.heap.size)
  generalize hAe : va_A [(h0, .inr (10, [.ref b0, .int 0, .ref p0, .ref u0, .ref r0, .ref a0, .ref t0, .ref s0, .ref o0])), (p0, .inr (7, [.int 0, .int 365, .int 0, .int 0, .ref p1, .int 0, .ref p2, .ref p3, .ref p4, .ref p5, .int 0, .ref p6, .int 0, .ref p7, .ref p8, .ref p9, .int 0]))] s.heap.size = A at hD hZ ⊢
  have hA : ∀ q : Nat, s.heap.size ≤ q → A q := fun q h => by rw [← hAe]; exact Or.inr h
  have hS : va_S A s.heap s.heap [] := va_S.rf
  have hP : va_P D vwCl [(h0, .inr (10, [.ref b0, .int 0, .ref p0, .ref u0, .ref r0, .ref a0, .ref t0, .ref s0, .ref o0])), (p0, .inr (7, [.int 0, .int 365, .int 0, .int 0, .ref p1, .int 0, .ref p2, .ref p3, .ref p4, .ref p5, .int 0, .ref p6, .int 0, .ref p7, .ref p8, .ref p9, .int 0]))] s.heap := hP
  have hl := lv_entry ([.ref h0]) (n := 1) (Nat.le_of_ble_eq_true rfl)
  rw [lg_entry_eq]
  generalize (lg_sl ([.ref h0]) ++ List.replicate (1 - (lg_sl ([.ref h0])).length) Slot.unset).toArray = ls at hl ⊢
  have hl : lv_has ls 1 [(0, .ref h0)] := hl
  have inX3 : ∀ w ∈ u_ws RX3 TX3 17, w ∈ wsX9_milestones := by decide +kernel
  have inX9 : ∀ w ∈ u_ws RX9 TX9 9, w ∈ wsX9_milestones := by decide +kernel
  refine lv_aload_n hx hb dX9_milestones_0 rfl (lv_at hl 0 rfl) ?_
  refine va_get (D := D) (ci := 10) (v := .ref p0) (C := RX9) (T := TX9) (N := 9) hx hb hts inX9 hown hK hP 0 rfl rfl 2 (by decide) (hts (.fieldLink RX9 16 "EscrowDesk" "plan" "LEscrowDesk$Plan;") (by decide +kernel)) (fun _ h9 => h9) rfl dX9_milestones_1 ?_
  refine va_getN (D := D) (ci := 7) (v := .int 0) (C := RX3) (T := TX3) (N := 17) hx hb hts inX3 hown hK hP 1 rfl rfl 10 (by decide) (hC.f (A := _) (a := RX9) (i := 78) (b := "EscrowDesk$Plan") (n := "milestoneCount") (d := "I") (x := "EscrowDesk") (by decide +kernel)) (fun _ h9 => h9) rfl dX9_milestones_4 ?_
  have hP9 := hP.sub (ws' := []) [] rfl
  have hD9 := hD.sub (ws' := []) [] (by decide) rfl
  refine W.widen (k := 0) (n := 0) (Nat.le_of_ble_eq_true rfl) (Nat.le_of_ble_eq_true rfl) ?_
  exact W.iret (v := 0) hx hb hr (fun t ht hW => ⟨⟨0, (), rfl, rfl, by rw [ht]; exact hP9, hD9⟩, hS.F ht⟩) hS.2.2 dX9_milestones_7

set_option maxHeartbeats 4000000 in
set_option maxRecDepth 100000 in
/-- proofs -/
theorem c_proofs (l : Launch) (D : va_G) (cA : Nat → ClassId) (sa : Nat → Nat) (h0 b0 p0 u0 r0 a0 t0 s0 o0 p1 p2 p3 p4 p5 p6 p7 p8 p9 : Nat) (sz : Nat) : Met l yX9_proofs wsX9_proofs ({ frames := 0, cells := 0, slots := 0, locals := 0 }) (va_Pc [.ref h0] (Wd D cA sa [(h0, .inr (10, [.ref b0, .int 0, .ref p0, .ref u0, .ref r0, .ref a0, .ref t0, .ref s0, .ref o0])), (p0, .inr (7, [.int 0, .int 365, .int 0, .int 0, .ref p1, .int 0, .ref p2, .ref p3, .ref p4, .ref p5, .int 0, .ref p6, .int 0, .ref p7, .ref p8, .ref p9, .int 0]))] sz)) (va_Qi (fun (r : Int32) (_ : Unit) => r = 0) (fun (_ : Unit) t => Wq D (va_A [(h0, .inr (10, [.ref b0, .int 0, .ref p0, .ref u0, .ref r0, .ref a0, .ref t0, .ref s0, .ref o0])), (p0, .inr (7, [.int 0, .int 365, .int 0, .int 0, .ref p1, .int 0, .ref p2, .ref p3, .ref p4, .ref p5, .int 0, .ref p6, .int 0, .ref p7, .ref p8, .ref p9, .int 0]))] sz) [] t) (va_A [(h0, .inr (10, [.ref b0, .int 0, .ref p0, .ref u0, .ref r0, .ref a0, .ref t0, .ref s0, .ref o0])), (p0, .inr (7, [.int 0, .int 365, .int 0, .int 0, .ref p1, .int 0, .ref p2, .ref p3, .ref p4, .ref p5, .int 0, .ref p6, .int 0, .ref p7, .ref p8, .ref p9, .int 0]))] sz)) 0 0 (va_A [(h0, .inr (10, [.ref b0, .int 0, .ref p0, .ref u0, .ref r0, .ref a0, .ref t0, .ref s0, .ref o0])), (p0, .inr (7, [.int 0, .int 365, .int 0, .int 0, .ref p1, .int 0, .ref p2, .ref p3, .ref p4, .ref p5, .int 0, .ref p6, .int 0, .ref p7, .ref p8, .ref p9, .int 0]))] sz) := by
  refine Met.ofW (cc := cX9_proofs) (maxL := 1) (ret := (some .int)) (by decide) rfl ?_
  intro p e s m args below meth c s₁ B hml hv
  obtain ⟨rfl, hsz, hP, hK, hD0, hC, hZ⟩ := hv
  have hx := B.exec
  have hb := B.bytes
  have hr := B.returns
  have hts := atoms_spec (ws := wsX9_proofs) B.pre
  have hown : s.vm.findClass RX9 = some m.cls := findClass_of_methodNamed B.named
  have hlocks := B.notSynchronized
  subst hsz
  have hD := hD0.self (sz := s.heap.size)
  generalize hAe : va_A [(h0, .inr (10, [.ref b0, .int 0, .ref p0, .ref u0, .ref r0, .ref a0, .ref t0, .ref s0, .ref o0])), (p0, .inr (7, [.int 0, .int 365, .int 0, .int 0, .ref p1, .int 0, .ref p2, .ref p3, .ref p4, .ref p5, .int 0, .ref p6, .int 0, .ref p7, .ref p8, .ref p9, .int 0]))] s.heap.size = A at hD hZ ⊢
  have hA : ∀ q : Nat, s.heap.size ≤ q → A q := fun q h => by rw [← hAe]; exact Or.inr h
  have hS : va_S A s.heap s.heap [] := va_S.rf
  have hP : va_P D vwCl [(h0, .inr (10, [.ref b0, .int 0, .ref p0, .ref u0, .ref r0, .ref a0, .ref t0, .ref s0, .ref o0])), (p0, .inr (7, [.int 0, .int 365, .int 0, .int 0, .ref p1, .int 0, .ref p2, .ref p3, .ref p4, .ref p5, .int 0, .ref p6, .int 0, .ref p7, .ref p8, .ref p9, .int 0]))] s.heap := hP
  have hl := lv_entry ([.ref h0]) (n := 1) (Nat.le_of_ble_eq_true rfl)
  rw [lg_entry_eq]
  generalize (lg_sl ([.ref h0]) ++ List.replicate (1 - (lg_sl ([.ref h0])).length) Slot.unset).toArray = ls at hl ⊢
  have hl : lv_has ls 1 [(0, .ref h0)] := hl
  have inX3 : ∀ w ∈ u_ws RX3 TX3 17, w ∈ wsX9_proofs := by decide +kernel
  have inX9 : ∀ w ∈ u_ws RX9 TX9 9, w ∈ wsX9_proofs := by decide +kernel
  refine lv_aload_n hx hb dX9_proofs_0 rfl (lv_at hl 0 rfl) ?_
  refine va_get (D := D) (ci := 10) (v := .ref p0) (C := RX9) (T := TX9) (N := 9) hx hb hts inX9 hown hK hP 0 rfl rfl 2 (by decide) (hts (.fieldLink RX9 16 "EscrowDesk" "plan" "LEscrowDesk$Plan;") (by decide +kernel)) (fun _ h9 => h9) rfl dX9_proofs_1 ?_
  refine va_getN (D := D) (ci := 7) (v := .int 0) (C := RX3) (T := TX3) (N := 17) hx hb hts inX3 hown hK hP 1 rfl rfl 12 (by decide) (hC.f (A := _) (a := RX9) (i := 147) (b := "EscrowDesk$Plan") (n := "proofCount") (d := "I") (x := "EscrowDesk") (by decide +kernel)) (fun _ h9 => h9) rfl dX9_proofs_4 ?_
  have hP9 := hP.sub (ws' := []) [] rfl
  have hD9 := hD.sub (ws' := []) [] (by decide) rfl
  refine W.widen (k := 0) (n := 0) (Nat.le_of_ble_eq_true rfl) (Nat.le_of_ble_eq_true rfl) ?_
  exact W.iret (v := 0) hx hb hr (fun t ht hW => ⟨⟨0, (), rfl, rfl, by rw [ht]; exact hP9, hD9⟩, hS.F ht⟩) hS.2.2 dX9_proofs_7

set_option maxHeartbeats 4000000 in
set_option maxRecDepth 100000 in
/-- errorKind -/
theorem c_errorKind (l : Launch) (D : va_G) (cA : Nat → ClassId) (sa : Nat → Nat) (h0 b0 p0 u0 r0 a0 t0 s0 o0 r1 : Nat) (sz : Nat) : Met l yX9_errorKind wsX9_errorKind ({ frames := 0, cells := 0, slots := 0, locals := 0 }) (va_Pc [.ref h0] (Wd D cA sa [(h0, .inr (10, [.ref b0, .int 0, .ref p0, .ref u0, .ref r0, .ref a0, .ref t0, .ref s0, .ref o0])), (r0, .inr (8, [.ref r1, .ref u0, .int 0, .int 0, .int 0, .long 0, .int 0, .int 0, .int (-1)]))] sz)) (va_Qi (fun (r : Int32) (_ : Unit) => r = 0) (fun (_ : Unit) t => Wq D (va_A [(h0, .inr (10, [.ref b0, .int 0, .ref p0, .ref u0, .ref r0, .ref a0, .ref t0, .ref s0, .ref o0])), (r0, .inr (8, [.ref r1, .ref u0, .int 0, .int 0, .int 0, .long 0, .int 0, .int 0, .int (-1)]))] sz) [] t) (va_A [(h0, .inr (10, [.ref b0, .int 0, .ref p0, .ref u0, .ref r0, .ref a0, .ref t0, .ref s0, .ref o0])), (r0, .inr (8, [.ref r1, .ref u0, .int 0, .int 0, .int 0, .long 0, .int 0, .int 0, .int (-1)]))] sz)) 0 0 (va_A [(h0, .inr (10, [.ref b0, .int 0, .ref p0, .ref u0, .ref r0, .ref a0, .ref t0, .ref s0, .ref o0])), (r0, .inr (8, [.ref r1, .ref u0, .int 0, .int 0, .int 0, .long 0, .int 0, .int 0, .int (-1)]))] sz) := by
  refine Met.ofW (cc := cX9_errorKind) (maxL := 1) (ret := (some .int)) (by decide) rfl ?_
  intro p e s m args below meth c s₁ B hml hv
  obtain ⟨rfl, hsz, hP, hK, hD0, hC, hZ⟩ := hv
  have hx := B.exec
  have hb := B.bytes
  have hr := B.returns
  have hts := atoms_spec (ws := wsX9_errorKind) B.pre
  have hown : s.vm.findClass RX9 = some m.cls := findClass_of_methodNamed B.named
  have hlocks := B.notSynchronized
  subst hsz
  have hD := hD0.self (sz := s.heap.size)
  generalize hAe : va_A [(h0, .inr (10, [.ref b0, .int 0, .ref p0, .ref u0, .ref r0, .ref a0, .ref t0, .ref s0, .ref o0])), (r0, .inr (8, [.ref r1, .ref u0, .int 0, .int 0, .int 0, .long 0, .int 0, .int 0, .int (-1)]))] s.heap.size = A at hD hZ ⊢
  have hA : ∀ q : Nat, s.heap.size ≤ q → A q := fun q h => by rw [← hAe]; exact Or.inr h
  have hS : va_S A s.heap s.heap [] := va_S.rf
  have hP : va_P D vwCl [(h0, .inr (10, [.ref b0, .int 0, .ref p0, .ref u0, .ref r0, .ref a0, .ref t0, .ref s0, .ref o0])), (r0, .inr (8, [.ref r1, .ref u0, .int 0, .int 0, .int 0, .long 0, .int 0, .int 0, .int (-1)]))] s.heap := hP
  have hl := lv_entry ([.ref h0]) (n := 1) (Nat.le_of_ble_eq_true rfl)
  rw [lg_entry_eq]
  generalize (lg_sl ([.ref h0]) ++ List.replicate (1 - (lg_sl ([.ref h0])).length) Slot.unset).toArray = ls at hl ⊢
  have hl : lv_has ls 1 [(0, .ref h0)] := hl
  have inX4 : ∀ w ∈ u_ws RX4 TX4 9, w ∈ wsX9_errorKind := by decide +kernel
  have inX9 : ∀ w ∈ u_ws RX9 TX9 9, w ∈ wsX9_errorKind := by decide +kernel
  refine lv_aload_n hx hb dX9_errorKind_0 rfl (lv_at hl 0 rfl) ?_
  refine va_get (D := D) (ci := 10) (v := .ref r0) (C := RX9) (T := TX9) (N := 9) hx hb hts inX9 hown hK hP 0 rfl rfl 4 (by decide) (hts (.fieldLink RX9 28 "EscrowDesk" "reader" "LEscrowDesk$Reader;") (by decide +kernel)) (fun _ h9 => h9) rfl dX9_errorKind_1 ?_
  refine va_getN (D := D) (ci := 8) (v := .int 0) (C := RX4) (T := TX4) (N := 9) hx hb hts inX4 hown hK hP 1 rfl rfl 7 (by decide) (hC.f (A := _) (a := RX9) (i := 81) (b := "EscrowDesk$Reader") (n := "errorKind") (d := "I") (x := "EscrowDesk") (by decide +kernel)) (fun _ h9 => h9) rfl dX9_errorKind_4 ?_
  have hP9 := hP.sub (ws' := []) [] rfl
  have hD9 := hD.sub (ws' := []) [] (by decide) rfl
  refine W.widen (k := 0) (n := 0) (Nat.le_of_ble_eq_true rfl) (Nat.le_of_ble_eq_true rfl) ?_
  exact W.iret (v := 0) hx hb hr (fun t ht hW => ⟨⟨0, (), rfl, rfl, by rw [ht]; exact hP9, hD9⟩, hS.F ht⟩) hS.2.2 dX9_errorKind_7

set_option maxHeartbeats 4000000 in
set_option maxRecDepth 100000 in
/-- errorPosition -/
theorem c_errorPosition (l : Launch) (D : va_G) (cA : Nat → ClassId) (sa : Nat → Nat) (h0 b0 p0 u0 r0 a0 t0 s0 o0 r1 : Nat) (sz : Nat) : Met l yX9_errorPosition wsX9_errorPosition ({ frames := 0, cells := 0, slots := 0, locals := 0 }) (va_Pc [.ref h0] (Wd D cA sa [(h0, .inr (10, [.ref b0, .int 0, .ref p0, .ref u0, .ref r0, .ref a0, .ref t0, .ref s0, .ref o0])), (r0, .inr (8, [.ref r1, .ref u0, .int 0, .int 0, .int 0, .long 0, .int 0, .int 0, .int (-1)]))] sz)) (va_Qi (fun (r : Int32) (_ : Unit) => r = (-1)) (fun (_ : Unit) t => Wq D (va_A [(h0, .inr (10, [.ref b0, .int 0, .ref p0, .ref u0, .ref r0, .ref a0, .ref t0, .ref s0, .ref o0])), (r0, .inr (8, [.ref r1, .ref u0, .int 0, .int 0, .int 0, .long 0, .int 0, .int 0, .int (-1)]))] sz) [] t) (va_A [(h0, .inr (10, [.ref b0, .int 0, .ref p0, .ref u0, .ref r0, .ref a0, .ref t0, .ref s0, .ref o0])), (r0, .inr (8, [.ref r1, .ref u0, .int 0, .int 0, .int 0, .long 0, .int 0, .int 0, .int (-1)]))] sz)) 0 0 (va_A [(h0, .inr (10, [.ref b0, .int 0, .ref p0, .ref u0, .ref r0, .ref a0, .ref t0, .ref s0, .ref o0])), (r0, .inr (8, [.ref r1, .ref u0, .int 0, .int 0, .int 0, .long 0, .int 0, .int 0, .int (-1)]))] sz) := by
  refine Met.ofW (cc := cX9_errorPosition) (maxL := 1) (ret := (some .int)) (by decide) rfl ?_
  intro p e s m args below meth c s₁ B hml hv
  obtain ⟨rfl, hsz, hP, hK, hD0, hC, hZ⟩ := hv
  have hx := B.exec
  have hb := B.bytes
  have hr := B.returns
  have hts := atoms_spec (ws := wsX9_errorPosition) B.pre
  have hown : s.vm.findClass RX9 = some m.cls := findClass_of_methodNamed B.named
  have hlocks := B.notSynchronized
  subst hsz
  have hD := hD0.self (sz := s.heap.size)
  generalize hAe : va_A [(h0, .inr (10, [.ref b0, .int 0, .ref p0, .ref u0, .ref r0, .ref a0, .ref t0, .ref s0, .ref o0])), (r0, .inr (8, [.ref r1, .ref u0, .int 0, .int 0, .int 0, .long 0, .int 0, .int 0, .int (-1)]))] s.heap.size = A at hD hZ ⊢
  have hA : ∀ q : Nat, s.heap.size ≤ q → A q := fun q h => by rw [← hAe]; exact Or.inr h
  have hS : va_S A s.heap s.heap [] := va_S.rf
  have hP : va_P D vwCl [(h0, .inr (10, [.ref b0, .int 0, .ref p0, .ref u0, .ref r0, .ref a0, .ref t0, .ref s0, .ref o0])), (r0, .inr (8, [.ref r1, .ref u0, .int 0, .int 0, .int 0, .long 0, .int 0, .int 0, .int (-1)]))] s.heap := hP
  have hl := lv_entry ([.ref h0]) (n := 1) (Nat.le_of_ble_eq_true rfl)
  rw [lg_entry_eq]
  generalize (lg_sl ([.ref h0]) ++ List.replicate (1 - (lg_sl ([.ref h0])).length) Slot.unset).toArray = ls at hl ⊢
  have hl : lv_has ls 1 [(0, .ref h0)] := hl
  have inX4 : ∀ w ∈ u_ws RX4 TX4 9, w ∈ wsX9_errorPosition := by decide +kernel
  have inX9 : ∀ w ∈ u_ws RX9 TX9 9, w ∈ wsX9_errorPosition := by decide +kernel
  refine lv_aload_n hx hb dX9_errorPosition_0 rfl (lv_at hl 0 rfl) ?_
  refine va_get (D := D) (ci := 10) (v := .ref r0) (C := RX9) (T := TX9) (N := 9) hx hb hts inX9 hown hK hP 0 rfl rfl 4 (by decide) (hts (.fieldLink RX9 28 "EscrowDesk" "reader" "LEscrowDesk$Reader;") (by decide +kernel)) (fun _ h9 => h9) rfl dX9_errorPosition_1 ?_
  refine va_getN (D := D) (ci := 8) (v := .int (-1)) (C := RX4) (T := TX4) (N := 9) hx hb hts inX4 hown hK hP 1 rfl rfl 8 (by decide) (hC.f (A := _) (a := RX9) (i := 84) (b := "EscrowDesk$Reader") (n := "errorPosition") (d := "I") (x := "EscrowDesk") (by decide +kernel)) (fun _ h9 => h9) rfl dX9_errorPosition_4 ?_
  have hP9 := hP.sub (ws' := []) [] rfl
  have hD9 := hD.sub (ws' := []) [] (by decide) rfl
  refine W.widen (k := 0) (n := 0) (Nat.le_of_ble_eq_true rfl) (Nat.le_of_ble_eq_true rfl) ?_
  exact W.iret (v := (-1)) hx hb hr (fun t ht hW => ⟨⟨(-1), (), rfl, rfl, by rw [ht]; exact hP9, hD9⟩, hS.F ht⟩) hS.2.2 dX9_errorPosition_7

set_option maxHeartbeats 4000000 in
set_option maxRecDepth 100000 in
/-- entries -/
theorem c_entries (l : Launch) (D : va_G) (cA : Nat → ClassId) (sa : Nat → Nat) (h0 b0 p0 u0 r0 a0 t0 s0 o0 a1 a3 a4 a5 a6 a2 : Nat) (sz : Nat) : Met l yX9_entries wsX9_entries ({ frames := 0, cells := 0, slots := 0, locals := 0 }) (va_Pc [.ref h0] (Wd D cA sa [(h0, .inr (10, [.ref b0, .int 0, .ref p0, .ref u0, .ref r0, .ref a0, .ref t0, .ref s0, .ref o0])), (a0, .inr (4, [.ref p0, .ref a1, .ref a3, .ref a4, .ref a5, .ref a6, .int 0, .int 0, .int 0, .long 0, .long 0, .long 0, .int 0, .int 0, .int 0, .int 0, .int 365, .int 0, .int 0, .int 0])), (a1, .inr (6, [.ref a2, .int 0, .int 0]))] sz)) (va_Qi (fun (r : Int32) (_ : Unit) => r = 0) (fun (_ : Unit) t => Wq D (va_A [(h0, .inr (10, [.ref b0, .int 0, .ref p0, .ref u0, .ref r0, .ref a0, .ref t0, .ref s0, .ref o0])), (a0, .inr (4, [.ref p0, .ref a1, .ref a3, .ref a4, .ref a5, .ref a6, .int 0, .int 0, .int 0, .long 0, .long 0, .long 0, .int 0, .int 0, .int 0, .int 0, .int 365, .int 0, .int 0, .int 0])), (a1, .inr (6, [.ref a2, .int 0, .int 0]))] sz) [] t) (va_A [(h0, .inr (10, [.ref b0, .int 0, .ref p0, .ref u0, .ref r0, .ref a0, .ref t0, .ref s0, .ref o0])), (a0, .inr (4, [.ref p0, .ref a1, .ref a3, .ref a4, .ref a5, .ref a6, .int 0, .int 0, .int 0, .long 0, .long 0, .long 0, .int 0, .int 0, .int 0, .int 0, .int 365, .int 0, .int 0, .int 0])), (a1, .inr (6, [.ref a2, .int 0, .int 0]))] sz)) 0 0 (va_A [(h0, .inr (10, [.ref b0, .int 0, .ref p0, .ref u0, .ref r0, .ref a0, .ref t0, .ref s0, .ref o0])), (a0, .inr (4, [.ref p0, .ref a1, .ref a3, .ref a4, .ref a5, .ref a6, .int 0, .int 0, .int 0, .long 0, .long 0, .long 0, .int 0, .int 0, .int 0, .int 0, .int 365, .int 0, .int 0, .int 0])), (a1, .inr (6, [.ref a2, .int 0, .int 0]))] sz) := by
  refine Met.ofW (cc := cX9_entries) (maxL := 1) (ret := (some .int)) (by decide) rfl ?_
  intro p e s m args below meth c s₁ B hml hv
  obtain ⟨rfl, hsz, hP, hK, hD0, hC, hZ⟩ := hv
  have hx := B.exec
  have hb := B.bytes
  have hr := B.returns
  have hts := atoms_spec (ws := wsX9_entries) B.pre
  have hown : s.vm.findClass RX9 = some m.cls := findClass_of_methodNamed B.named
  have hlocks := B.notSynchronized
  subst hsz
  have hD := hD0.self (sz := s.heap.size)
  generalize hAe : va_A [(h0, .inr (10, [.ref b0, .int 0, .ref p0, .ref u0, .ref r0, .ref a0, .ref t0, .ref s0, .ref o0])), (a0, .inr (4, [.ref p0, .ref a1, .ref a3, .ref a4, .ref a5, .ref a6, .int 0, .int 0, .int 0, .long 0, .long 0, .long 0, .int 0, .int 0, .int 0, .int 0, .int 365, .int 0, .int 0, .int 0])), (a1, .inr (6, [.ref a2, .int 0, .int 0]))] s.heap.size = A at hD hZ ⊢
  have hA : ∀ q : Nat, s.heap.size ≤ q → A q := fun q h => by rw [← hAe]; exact Or.inr h
  have hS : va_S A s.heap s.heap [] := va_S.rf
  have hP : va_P D vwCl [(h0, .inr (10, [.ref b0, .int 0, .ref p0, .ref u0, .ref r0, .ref a0, .ref t0, .ref s0, .ref o0])), (a0, .inr (4, [.ref p0, .ref a1, .ref a3, .ref a4, .ref a5, .ref a6, .int 0, .int 0, .int 0, .long 0, .long 0, .long 0, .int 0, .int 0, .int 0, .int 0, .int 365, .int 0, .int 0, .int 0])), (a1, .inr (6, [.ref a2, .int 0, .int 0]))] s.heap := hP
  have hl := lv_entry ([.ref h0]) (n := 1) (Nat.le_of_ble_eq_true rfl)
  rw [lg_entry_eq]
  generalize (lg_sl ([.ref h0]) ++ List.replicate (1 - (lg_sl ([.ref h0])).length) Slot.unset).toArray = ls at hl ⊢
  have hl : lv_has ls 1 [(0, .ref h0)] := hl
  have inX0 : ∀ w ∈ u_ws RX0 TX0 20, w ∈ wsX9_entries := by decide +kernel
  have inX2 : ∀ w ∈ u_ws RX2 TX2 3, w ∈ wsX9_entries := by decide +kernel
  have inX9 : ∀ w ∈ u_ws RX9 TX9 9, w ∈ wsX9_entries := by decide +kernel
  refine lv_aload_n hx hb dX9_entries_0 rfl (lv_at hl 0 rfl) ?_
  refine va_get (D := D) (ci := 10) (v := .ref a0) (C := RX9) (T := TX9) (N := 9) hx hb hts inX9 hown hK hP 0 rfl rfl 5 (by decide) (hts (.fieldLink RX9 35 "EscrowDesk" "account" "LEscrowDesk$Account;") (by decide +kernel)) (fun _ h9 => h9) rfl dX9_entries_1 ?_
  refine va_getN (D := D) (ci := 4) (v := .ref a1) (C := RX0) (T := TX0) (N := 20) hx hb hts inX0 hown hK hP 1 rfl rfl 1 (by decide) (hC.f (A := _) (a := RX9) (i := 347) (b := "EscrowDesk$Account") (n := "ledger") (d := "LEscrowDesk$Ledger;") (x := "EscrowDesk") (by decide +kernel)) (fun _ h9 => h9) rfl dX9_entries_4 ?_
  refine va_getN (D := D) (ci := 6) (v := .int 0) (C := RX2) (T := TX2) (N := 3) hx hb hts inX2 hown hK hP 2 rfl rfl 2 (by decide) (hC.f (A := _) (a := RX9) (i := 351) (b := "EscrowDesk$Ledger") (n := "kept") (d := "I") (x := "EscrowDesk") (by decide +kernel)) (fun _ h9 => h9) rfl dX9_entries_7 ?_
  have hP9 := hP.sub (ws' := []) [] rfl
  have hD9 := hD.sub (ws' := []) [] (by decide) rfl
  refine W.widen (k := 0) (n := 0) (Nat.le_of_ble_eq_true rfl) (Nat.le_of_ble_eq_true rfl) ?_
  exact W.iret (v := 0) hx hb hr (fun t ht hW => ⟨⟨0, (), rfl, rfl, by rw [ht]; exact hP9, hD9⟩, hS.F ht⟩) hS.2.2 dX9_entries_10

set_option maxHeartbeats 4000000 in
set_option maxRecDepth 100000 in
/-- entry: there is none -/
theorem c_entry_thr (l : Launch) (D : va_G) (cA : Nat → ClassId) (sa : Nat → Nat) (h0 b0 p0 u0 r0 a0 t0 s0 o0 a1 a3 a4 a5 a6 a2 : Nat) (i j : Int32) (sz : Nat) (hl9 : l.stackTraces = false) : vx_Met l yX9_entry wsX9_entry ({ frames := 7, cells := 1, slots := 6, locals := 111 }) (va_Pc [.ref h0, .int i, .int j] (Wd D cA sa [(h0, .inr (10, [.ref b0, .int 0, .ref p0, .ref u0, .ref r0, .ref a0, .ref t0, .ref s0, .ref o0])), (a0, .inr (4, [.ref p0, .ref a1, .ref a3, .ref a4, .ref a5, .ref a6, .int 0, .int 0, .int 0, .long 0, .long 0, .long 0, .int 0, .int 0, .int 0, .int 0, .int 365, .int 0, .int 0, .int 0])), (a1, .inr (6, [.ref a2, .int 0, .int 0]))] sz)) (va_Qi (fun (_ : Int32) (_ : Unit) => False) (fun (_ : Unit) _ => True) (va_A [(h0, .inr (10, [.ref b0, .int 0, .ref p0, .ref u0, .ref r0, .ref a0, .ref t0, .ref s0, .ref o0])), (a0, .inr (4, [.ref p0, .ref a1, .ref a3, .ref a4, .ref a5, .ref a6, .int 0, .int 0, .int 0, .long 0, .long 0, .long 0, .int 0, .int 0, .int 0, .int 0, .int 365, .int 0, .int 0, .int 0])), (a1, .inr (6, [.ref a2, .int 0, .int 0]))] sz)) (vx_X (fun _ : Unit => True) (fun E _ _ => E = "java/lang/IndexOutOfBoundsException") (va_A [(h0, .inr (10, [.ref b0, .int 0, .ref p0, .ref u0, .ref r0, .ref a0, .ref t0, .ref s0, .ref o0])), (a0, .inr (4, [.ref p0, .ref a1, .ref a3, .ref a4, .ref a5, .ref a6, .int 0, .int 0, .int 0, .long 0, .long 0, .long 0, .int 0, .int 0, .int 0, .int 0, .int 365, .int 0, .int 0, .int 0])), (a1, .inr (6, [.ref a2, .int 0, .int 0]))] sz)) 1 6 (va_A [(h0, .inr (10, [.ref b0, .int 0, .ref p0, .ref u0, .ref r0, .ref a0, .ref t0, .ref s0, .ref o0])), (a0, .inr (4, [.ref p0, .ref a1, .ref a3, .ref a4, .ref a5, .ref a6, .int 0, .int 0, .int 0, .long 0, .long 0, .long 0, .int 0, .int 0, .int 0, .int 0, .int 365, .int 0, .int 0, .int 0])), (a1, .inr (6, [.ref a2, .int 0, .int 0]))] sz) := by
  refine vx_ofW (cc := cX9_entry) (maxL := 3) (ret := (some .int)) (by decide) rfl ?_
  intro p e s m args below meth c s₁ B hml hno hv
  obtain ⟨rfl, hsz, hP, hK, hD0, hC, hZ⟩ := hv
  have hx := B.exec
  have hb := B.bytes
  have hr := B.returns
  have hts := atoms_spec (ws := wsX9_entry) B.pre
  have hown : s.vm.findClass RX9 = some m.cls := findClass_of_methodNamed B.named
  have hlocks := B.notSynchronized
  subst hsz
  have hD := hD0.self (sz := s.heap.size)
  generalize hAe : va_A [(h0, .inr (10, [.ref b0, .int 0, .ref p0, .ref u0, .ref r0, .ref a0, .ref t0, .ref s0, .ref o0])), (a0, .inr (4, [.ref p0, .ref a1, .ref a3, .ref a4, .ref a5, .ref a6, .int 0, .int 0, .int 0, .long 0, .long 0, .long 0, .int 0, .int 0, .int 0, .int 0, .int 365, .int 0, .int 0, .int 0])), (a1, .inr (6, [.ref a2, .int 0, .int 0]))] s.heap.size = A at hD hZ ⊢
  have hA : ∀ q : Nat, s.heap.size ≤ q → A q := fun q h => by rw [← hAe]; exact Or.inr h
  have hS : va_S A s.heap s.heap [] := va_S.rf
  have hP : va_P D vwCl [(h0, .inr (10, [.ref b0, .int 0, .ref p0, .ref u0, .ref r0, .ref a0, .ref t0, .ref s0, .ref o0])), (a0, .inr (4, [.ref p0, .ref a1, .ref a3, .ref a4, .ref a5, .ref a6, .int 0, .int 0, .int 0, .long 0, .long 0, .long 0, .int 0, .int 0, .int 0, .int 0, .int 365, .int 0, .int 0, .int 0])), (a1, .inr (6, [.ref a2, .int 0, .int 0]))] s.heap := hP
  have hl := lv_entry ([.ref h0, .int i, .int j]) (n := 3) (Nat.le_of_ble_eq_true rfl)
  rw [lg_entry_eq]
  generalize (lg_sl ([.ref h0, .int i, .int j]) ++ List.replicate (3 - (lg_sl ([.ref h0, .int i, .int j])).length) Slot.unset).toArray = ls at hl ⊢
  have hl : lv_has ls 3 [(0, .ref h0), (1, .int i), (2, .int j)] := hl
  have inX0 : ∀ w ∈ u_ws RX0 TX0 20, w ∈ wsX9_entry := by decide +kernel
  have inX2 : ∀ w ∈ u_ws RX2 TX2 3, w ∈ wsX9_entry := by decide +kernel
  have inX9 : ∀ w ∈ u_ws RX9 TX9 9, w ∈ wsX9_entry := by decide +kernel
  refine lv_iload_n hx hb dX9_entry_0 rfl (lv_at hl 1 rfl) ?_
  refine lv_aload_n hx hb dX9_entry_1 rfl (lv_at hl 0 rfl) ?_
  refine va_get (D := D) (ci := 10) (v := .ref a0) (C := RX9) (T := TX9) (N := 9) hx hb hts inX9 hown hK hP 0 rfl rfl 5 (by decide) (hts (.fieldLink RX9 35 "EscrowDesk" "account" "LEscrowDesk$Account;") (by decide +kernel)) (fun _ h9 => h9) rfl dX9_entry_2 ?_
  refine va_getN (D := D) (ci := 4) (v := .ref a1) (C := RX0) (T := TX0) (N := 20) hx hb hts inX0 hown hK hP 1 rfl rfl 1 (by decide) (hC.f (A := _) (a := RX9) (i := 347) (b := "EscrowDesk$Account") (n := "ledger") (d := "LEscrowDesk$Ledger;") (x := "EscrowDesk") (by decide +kernel)) (fun _ h9 => h9) rfl dX9_entry_5 ?_
  refine va_getN (D := D) (ci := 6) (v := .int 0) (C := RX2) (T := TX2) (N := 3) hx hb hts inX2 hown hK hP 2 rfl rfl 2 (by decide) (hC.f (A := _) (a := RX9) (i := 351) (b := "EscrowDesk$Ledger") (n := "kept") (d := "I") (x := "EscrowDesk") (by decide +kernel)) (fun _ h9 => h9) rfl dX9_entry_8 ?_
  have hPc := hP.sub (ws' := []) [] rfl
  have hDc := hD.sub (ws' := []) [] (by decide) rfl
  have hFc := va_free (wc := []) hD hS hA [] rfl
  refine vx_callv (vx_runS (As := [.int i, .int 0]) (rest := []) ⟨hx, hb, hml, hown, hts⟩ (c_needIndex_thr l D cA sa i s.heap.size hl9) (va_cwS 2 hts gX9_entry_X9_needIndex rfl rfl rfl (by decide +kernel) ⟨(Nat.le_of_ble_eq_true rfl), (Nat.le_of_ble_eq_true rfl)⟩) ⟨Wd.blind, fun U hU hW => ⟨rfl, Wd.call hPc hDc hK hC hZ hS hFc U hU hW⟩⟩ rfl rfl hl.1 rfl (lv_room (Nat.le_of_ble_eq_true rfl)) dX9_entry_11 ⟨(Nat.le_of_ble_eq_true rfl), (Nat.le_of_ble_eq_true rfl)⟩) hS (fun q _ h => hFc q h) hFc (fun q _ h => hFc q h) (fun E ce q9 u t H1 locs ht hvm hpx hE hz1 hk1 hS hcell hv9 hcl => ?_) (fun u t H1 locs ht hvm hw hB hz1 hk1 hS => hw.elim)
  exact vx_out (fun x h => (hno x h).elim) hlocks hcell hv9 hcl (fun t ht hvm => ⟨(), trivial, hE, hS.F ht⟩) hS.2.2 (Nat.le_of_ble_eq_true rfl) (Nat.le_of_ble_eq_true rfl)

set_option maxHeartbeats 4000000 in
set_option maxRecDepth 100000 in
/-- availableMoney() -/
theorem c_availableMoney (l : Launch) (D : va_G) (cA : Nat → ClassId) (sa : Nat → Nat) (a0 p0 a1 a3 a4 a5 a6 p1 p2 p3 p4 p5 p6 p7 p8 p9 : Nat) (sz : Nat) : Met l yX0_availableMoney wsX0_availableMoney ({ frames := 0, cells := 0, slots := 0, locals := 0 }) (va_Pc [.ref a0] (Wd D cA sa [(a0, .inr (4, [.ref p0, .ref a1, .ref a3, .ref a4, .ref a5, .ref a6, .int 0, .int 0, .int 0, .long 0, .long 0, .long 0, .int 0, .int 0, .int 0, .int 0, .int 365, .int 0, .int 0, .int 0])), (p0, .inr (7, [.int 0, .int 365, .int 0, .int 0, .ref p1, .int 0, .ref p2, .ref p3, .ref p4, .ref p5, .int 0, .ref p6, .int 0, .ref p7, .ref p8, .ref p9, .int 0]))] sz)) (va_Qi (fun (r : Int32) (_ : Unit) => r = 0) (fun (_ : Unit) t => Wq D (va_A [(a0, .inr (4, [.ref p0, .ref a1, .ref a3, .ref a4, .ref a5, .ref a6, .int 0, .int 0, .int 0, .long 0, .long 0, .long 0, .int 0, .int 0, .int 0, .int 0, .int 365, .int 0, .int 0, .int 0])), (p0, .inr (7, [.int 0, .int 365, .int 0, .int 0, .ref p1, .int 0, .ref p2, .ref p3, .ref p4, .ref p5, .int 0, .ref p6, .int 0, .ref p7, .ref p8, .ref p9, .int 0]))] sz) [] t) (va_A [(a0, .inr (4, [.ref p0, .ref a1, .ref a3, .ref a4, .ref a5, .ref a6, .int 0, .int 0, .int 0, .long 0, .long 0, .long 0, .int 0, .int 0, .int 0, .int 0, .int 365, .int 0, .int 0, .int 0])), (p0, .inr (7, [.int 0, .int 365, .int 0, .int 0, .ref p1, .int 0, .ref p2, .ref p3, .ref p4, .ref p5, .int 0, .ref p6, .int 0, .ref p7, .ref p8, .ref p9, .int 0]))] sz)) 0 0 (va_A [(a0, .inr (4, [.ref p0, .ref a1, .ref a3, .ref a4, .ref a5, .ref a6, .int 0, .int 0, .int 0, .long 0, .long 0, .long 0, .int 0, .int 0, .int 0, .int 0, .int 365, .int 0, .int 0, .int 0])), (p0, .inr (7, [.int 0, .int 365, .int 0, .int 0, .ref p1, .int 0, .ref p2, .ref p3, .ref p4, .ref p5, .int 0, .ref p6, .int 0, .ref p7, .ref p8, .ref p9, .int 0]))] sz) := by
  refine Met.ofW (cc := cX0_availableMoney) (maxL := 3) (ret := (some .int)) (by decide) rfl ?_
  intro p e s m args below meth c s₁ B hml hv
  obtain ⟨rfl, hsz, hP, hK, hD0, hC, hZ⟩ := hv
  have hx := B.exec
  have hb := B.bytes
  have hr := B.returns
  have hts := atoms_spec (ws := wsX0_availableMoney) B.pre
  have hown : s.vm.findClass RX0 = some m.cls := findClass_of_methodNamed B.named
  have hlocks := B.notSynchronized
  subst hsz
  have hD := hD0.self (sz := s.heap.size)
  generalize hAe : va_A [(a0, .inr (4, [.ref p0, .ref a1, .ref a3, .ref a4, .ref a5, .ref a6, .int 0, .int 0, .int 0, .long 0, .long 0, .long 0, .int 0, .int 0, .int 0, .int 0, .int 365, .int 0, .int 0, .int 0])), (p0, .inr (7, [.int 0, .int 365, .int 0, .int 0, .ref p1, .int 0, .ref p2, .ref p3, .ref p4, .ref p5, .int 0, .ref p6, .int 0, .ref p7, .ref p8, .ref p9, .int 0]))] s.heap.size = A at hD hZ ⊢
  have hA : ∀ q : Nat, s.heap.size ≤ q → A q := fun q h => by rw [← hAe]; exact Or.inr h
  have hS : va_S A s.heap s.heap [] := va_S.rf
  have hP : va_P D vwCl [(a0, .inr (4, [.ref p0, .ref a1, .ref a3, .ref a4, .ref a5, .ref a6, .int 0, .int 0, .int 0, .long 0, .long 0, .long 0, .int 0, .int 0, .int 0, .int 0, .int 365, .int 0, .int 0, .int 0])), (p0, .inr (7, [.int 0, .int 365, .int 0, .int 0, .ref p1, .int 0, .ref p2, .ref p3, .ref p4, .ref p5, .int 0, .ref p6, .int 0, .ref p7, .ref p8, .ref p9, .int 0]))] s.heap := hP
  have hl := lv_entry ([.ref a0]) (n := 3) (Nat.le_of_ble_eq_true rfl)
  rw [lg_entry_eq]
  generalize (lg_sl ([.ref a0]) ++ List.replicate (3 - (lg_sl ([.ref a0])).length) Slot.unset).toArray = ls at hl ⊢
  have hl : lv_has ls 3 [(0, .ref a0)] := hl
  have inX0 : ∀ w ∈ u_ws RX0 TX0 20, w ∈ wsX0_availableMoney := by decide +kernel
  have inX3 : ∀ w ∈ u_ws RX3 TX3 17, w ∈ wsX0_availableMoney := by decide +kernel
  refine lv_aload_n hx hb dX0_availableMoney_0 rfl (lv_at hl 0 rfl) ?_
  refine va_get (D := D) (ci := 4) (v := .int 0) (C := RX0) (T := TX0) (N := 20) hx hb hts inX0 hown hK hP 0 rfl rfl 8 (by decide) (hts (.fieldLink RX0 47 "EscrowDesk$Account" "principal" "I") (by decide +kernel)) (fun _ h9 => h9) rfl dX0_availableMoney_1 ?_
  refine lv_istore_n (lv' := [(1, .int 0), (0, .ref a0)]) hx hb dX0_availableMoney_4 rfl hl (by decide) rfl (fun ls hl => ?_)
  refine lv_iconst (v := 0) hx hb dX0_availableMoney_5 (by decide) ?_
  refine lv_istore_n (lv' := [(2, .int 0), (1, .int 0), (0, .ref a0)]) hx hb dX0_availableMoney_6 rfl hl (by decide) rfl (fun ls hl => ?_)
  refine lv_iload_n hx hb dX0_availableMoney_7 rfl (lv_at hl 0 rfl) ?_
  refine lv_aload_n hx hb dX0_availableMoney_8 rfl (lv_at hl 2 rfl) ?_
  refine va_get (D := D) (ci := 4) (v := .ref p0) (C := RX0) (T := TX0) (N := 20) hx hb hts inX0 hown hK hP 0 rfl rfl 0 (by decide) (hts (.fieldLink RX0 31 "EscrowDesk$Account" "plan" "LEscrowDesk$Plan;") (by decide +kernel)) (fun _ h9 => h9) rfl dX0_availableMoney_9 ?_
  refine va_getN (D := D) (ci := 7) (v := .int 0) (C := RX3) (T := TX3) (N := 17) hx hb hts inX3 hown hK hP 1 rfl rfl 10 (by decide) (hC.f (A := _) (a := RX0) (i := 109) (b := "EscrowDesk$Plan") (n := "milestoneCount") (d := "I") (x := "EscrowDesk") (by decide +kernel)) (fun _ h9 => h9) rfl dX0_availableMoney_12 ?_
  refine lv_icmp_ge (tgt := 33) hx hb dX0_availableMoney_15 (by decide) (fun c1 => ?_) (fun c9 => absurd c9 (by decide))
  refine lv_iload_n hx hb dX0_availableMoney_33 rfl (lv_at hl 1 rfl) ?_
  have hP9 := hP.sub (ws' := []) [] rfl
  have hD9 := hD.sub (ws' := []) [] (by decide) rfl
  refine W.widen (k := 0) (n := 0) (Nat.le_of_ble_eq_true rfl) (Nat.le_of_ble_eq_true rfl) ?_
  exact W.iret (v := 0) hx hb hr (fun t ht hW => ⟨⟨0, (), rfl, rfl, by rw [ht]; exact hP9, hD9⟩, hS.F ht⟩) hS.2.2 dX0_availableMoney_34

set_option maxHeartbeats 4000000 in
set_option maxRecDepth 100000 in
/-- available -/
theorem c_available (l : Launch) (D : va_G) (cA : Nat → ClassId) (sa : Nat → Nat) (h0 b0 p0 u0 r0 a0 t0 s0 o0 p1 p2 p3 p4 p5 p6 p7 p8 p9 a1 a3 a4 a5 a6 : Nat) (sz : Nat) : Met l yX9_available wsX9_available ({ frames := 1, cells := 0, slots := 0, locals := 22 }) (va_Pc [.ref h0] (Wd D cA sa [(h0, .inr (10, [.ref b0, .int 0, .ref p0, .ref u0, .ref r0, .ref a0, .ref t0, .ref s0, .ref o0])), (a0, .inr (4, [.ref p0, .ref a1, .ref a3, .ref a4, .ref a5, .ref a6, .int 0, .int 0, .int 0, .long 0, .long 0, .long 0, .int 0, .int 0, .int 0, .int 0, .int 365, .int 0, .int 0, .int 0])), (p0, .inr (7, [.int 0, .int 365, .int 0, .int 0, .ref p1, .int 0, .ref p2, .ref p3, .ref p4, .ref p5, .int 0, .ref p6, .int 0, .ref p7, .ref p8, .ref p9, .int 0]))] sz)) (va_Qi (fun (r : Int32) (_ : Unit) => r = 0) (fun (_ : Unit) t => Wq D (va_A [(h0, .inr (10, [.ref b0, .int 0, .ref p0, .ref u0, .ref r0, .ref a0, .ref t0, .ref s0, .ref o0])), (a0, .inr (4, [.ref p0, .ref a1, .ref a3, .ref a4, .ref a5, .ref a6, .int 0, .int 0, .int 0, .long 0, .long 0, .long 0, .int 0, .int 0, .int 0, .int 0, .int 365, .int 0, .int 0, .int 0])), (p0, .inr (7, [.int 0, .int 365, .int 0, .int 0, .ref p1, .int 0, .ref p2, .ref p3, .ref p4, .ref p5, .int 0, .ref p6, .int 0, .ref p7, .ref p8, .ref p9, .int 0]))] sz) [] t) (va_A [(h0, .inr (10, [.ref b0, .int 0, .ref p0, .ref u0, .ref r0, .ref a0, .ref t0, .ref s0, .ref o0])), (a0, .inr (4, [.ref p0, .ref a1, .ref a3, .ref a4, .ref a5, .ref a6, .int 0, .int 0, .int 0, .long 0, .long 0, .long 0, .int 0, .int 0, .int 0, .int 0, .int 365, .int 0, .int 0, .int 0])), (p0, .inr (7, [.int 0, .int 365, .int 0, .int 0, .ref p1, .int 0, .ref p2, .ref p3, .ref p4, .ref p5, .int 0, .ref p6, .int 0, .ref p7, .ref p8, .ref p9, .int 0]))] sz)) 0 0 (va_A [(h0, .inr (10, [.ref b0, .int 0, .ref p0, .ref u0, .ref r0, .ref a0, .ref t0, .ref s0, .ref o0])), (a0, .inr (4, [.ref p0, .ref a1, .ref a3, .ref a4, .ref a5, .ref a6, .int 0, .int 0, .int 0, .long 0, .long 0, .long 0, .int 0, .int 0, .int 0, .int 0, .int 365, .int 0, .int 0, .int 0])), (p0, .inr (7, [.int 0, .int 365, .int 0, .int 0, .ref p1, .int 0, .ref p2, .ref p3, .ref p4, .ref p5, .int 0, .ref p6, .int 0, .ref p7, .ref p8, .ref p9, .int 0]))] sz) := by
  refine Met.ofW (cc := cX9_available) (maxL := 1) (ret := (some .int)) (by decide) rfl ?_
  intro p e s m args below meth c s₁ B hml hv
  obtain ⟨rfl, hsz, hP, hK, hD0, hC, hZ⟩ := hv
  have hx := B.exec
  have hb := B.bytes
  have hr := B.returns
  have hts := atoms_spec (ws := wsX9_available) B.pre
  have hown : s.vm.findClass RX9 = some m.cls := findClass_of_methodNamed B.named
  have hlocks := B.notSynchronized
  subst hsz
  have hD := hD0.self (sz := s.heap.size)
  generalize hAe : va_A [(h0, .inr (10, [.ref b0, .int 0, .ref p0, .ref u0, .ref r0, .ref a0, .ref t0, .ref s0, .ref o0])), (a0, .inr (4, [.ref p0, .ref a1, .ref a3, .ref a4, .ref a5, .ref a6, .int 0, .int 0, .int 0, .long 0, .long 0, .long 0, .int 0, .int 0, .int 0, .int 0, .int 365, .int 0, .int 0, .int 0])), (p0, .inr (7, [.int 0, .int 365, .int 0, .int 0, .ref p1, .int 0, .ref p2, .ref p3, .ref p4, .ref p5, .int 0, .ref p6, .int 0, .ref p7, .ref p8, .ref p9, .int 0]))] s.heap.size = A at hD hZ ⊢
  have hA : ∀ q : Nat, s.heap.size ≤ q → A q := fun q h => by rw [← hAe]; exact Or.inr h
  have hS : va_S A s.heap s.heap [] := va_S.rf
  have hP : va_P D vwCl [(h0, .inr (10, [.ref b0, .int 0, .ref p0, .ref u0, .ref r0, .ref a0, .ref t0, .ref s0, .ref o0])), (a0, .inr (4, [.ref p0, .ref a1, .ref a3, .ref a4, .ref a5, .ref a6, .int 0, .int 0, .int 0, .long 0, .long 0, .long 0, .int 0, .int 0, .int 0, .int 0, .int 365, .int 0, .int 0, .int 0])), (p0, .inr (7, [.int 0, .int 365, .int 0, .int 0, .ref p1, .int 0, .ref p2, .ref p3, .ref p4, .ref p5, .int 0, .ref p6, .int 0, .ref p7, .ref p8, .ref p9, .int 0]))] s.heap := hP
  have hl := lv_entry ([.ref h0]) (n := 1) (Nat.le_of_ble_eq_true rfl)
  rw [lg_entry_eq]
  generalize (lg_sl ([.ref h0]) ++ List.replicate (1 - (lg_sl ([.ref h0])).length) Slot.unset).toArray = ls at hl ⊢
  have hl : lv_has ls 1 [(0, .ref h0)] := hl
  have inX9 : ∀ w ∈ u_ws RX9 TX9 9, w ∈ wsX9_available := by decide +kernel
  refine lv_aload_n hx hb dX9_available_0 rfl (lv_at hl 0 rfl) ?_
  refine va_get (D := D) (ci := 10) (v := .ref a0) (C := RX9) (T := TX9) (N := 9) hx hb hts inX9 hown hK hP 0 rfl rfl 5 (by decide) (hts (.fieldLink RX9 35 "EscrowDesk" "account" "LEscrowDesk$Account;") (by decide +kernel)) (fun _ h9 => h9) rfl dX9_available_1 ?_
  have hPc := hP.sub (ws' := [(a0, .inr (4, [.ref p0, .ref a1, .ref a3, .ref a4, .ref a5, .ref a6, .int 0, .int 0, .int 0, .long 0, .long 0, .long 0, .int 0, .int 0, .int 0, .int 0, .int 365, .int 0, .int 0, .int 0])), (p0, .inr (7, [.int 0, .int 365, .int 0, .int 0, .ref p1, .int 0, .ref p2, .ref p3, .ref p4, .ref p5, .int 0, .ref p6, .int 0, .ref p7, .ref p8, .ref p9, .int 0]))]) [1, 2] rfl
  have hDc := hD.sub (ws' := [(a0, .inr (4, [.ref p0, .ref a1, .ref a3, .ref a4, .ref a5, .ref a6, .int 0, .int 0, .int 0, .long 0, .long 0, .long 0, .int 0, .int 0, .int 0, .int 0, .int 365, .int 0, .int 0, .int 0])), (p0, .inr (7, [.int 0, .int 365, .int 0, .int 0, .ref p1, .int 0, .ref p2, .ref p3, .ref p4, .ref p5, .int 0, .ref p6, .int 0, .ref p7, .ref p8, .ref p9, .int 0]))]) [1, 2] (by decide) rfl
  have hFc := va_free (wc := [(a0, .inr (4, [.ref p0, .ref a1, .ref a3, .ref a4, .ref a5, .ref a6, .int 0, .int 0, .int 0, .long 0, .long 0, .long 0, .int 0, .int 0, .int 0, .int 0, .int 365, .int 0, .int 0, .int 0])), (p0, .inr (7, [.int 0, .int 365, .int 0, .int 0, .ref p1, .int 0, .ref p2, .ref p3, .ref p4, .ref p5, .int 0, .ref p6, .int 0, .ref p7, .ref p8, .ref p9, .int 0]))]) hD hS hA [1, 2] rfl
  refine va_calli (va_runV (As := []) (rest := []) ⟨hx, hb, hml, hown, hts⟩ (c_availableMoney l D cA sa a0 p0 a1 a3 a4 a5 a6 p1 p2 p3 p4 p5 p6 p7 p8 p9 s.heap.size) (cwV 0 hts gX9_available_X0_availableMoney rfl rfl rfl (by decide +kernel) ⟨(Nat.le_of_ble_eq_true rfl), (Nat.le_of_ble_eq_true rfl)⟩) ⟨Wd.blind, va_recv hK hPc (ci := 4) (q0 := 0) rfl rfl, fun U hU hW => ⟨rfl, Wd.call hPc hDc hK hC hZ hS hFc U hU hW⟩⟩ rfl rfl hl.1 rfl (lv_room (Nat.le_of_ble_eq_true rfl)) dX9_available_4 ⟨(Nat.le_of_ble_eq_true rfl), (Nat.le_of_ble_eq_true rfl)⟩) hS (fun q _ h => hFc q h) hFc (fun rn1 u t H1 locs ht hvm hw hB hz1 hk1 hS => ?_)
  obtain ⟨hP1, hD1⟩ := hB
  rw [ht] at hP1
  obtain ⟨hP, hD⟩ := va_join (wr := [(h0, .inr (10, [.ref b0, .int 0, .ref p0, .ref u0, .ref r0, .ref a0, .ref t0, .ref s0, .ref o0]))]) (w1 := []) hP hD [1, 2] [0] rfl rfl (by decide) (by decide) hk1 hFc hP1 hD1
  generalize H1 = H at hP hS ⊢
  have hP : va_P D vwCl [(h0, .inr (10, [.ref b0, .int 0, .ref p0, .ref u0, .ref r0, .ref a0, .ref t0, .ref s0, .ref o0]))] H := hP
  have hD : va_D A [(h0, .inr (10, [.ref b0, .int 0, .ref p0, .ref u0, .ref r0, .ref a0, .ref t0, .ref s0, .ref o0]))] := hD
  obtain rfl : rn1 = 0 := hw
  have hP9 := hP.sub (ws' := []) [] rfl
  have hD9 := hD.sub (ws' := []) [] (by decide) rfl
  refine W.widen (k := 0) (n := 0) (Nat.le_of_ble_eq_true rfl) (Nat.le_of_ble_eq_true rfl) ?_
  exact W.iret (v := 0) hx hb hr (fun t ht hW => ⟨⟨0, (), rfl, rfl, by rw [ht]; exact hP9, hD9⟩, hS.F ht⟩) hS.2.2 dX9_available_7

set_option maxHeartbeats 4000000 in
set_option maxRecDepth 100000 in
/-- closedCount -/
theorem c_closedCount (l : Launch) (D : va_G) (cA : Nat → ClassId) (sa : Nat → Nat) (h0 b0 p0 u0 r0 a0 t0 s0 o0 p1 p2 p3 p4 p5 p6 p7 p8 p9 : Nat) (sz : Nat) : Met l yX9_closedCount wsX9_closedCount ({ frames := 0, cells := 0, slots := 0, locals := 0 }) (va_Pc [.ref h0] (Wd D cA sa [(h0, .inr (10, [.ref b0, .int 0, .ref p0, .ref u0, .ref r0, .ref a0, .ref t0, .ref s0, .ref o0])), (p0, .inr (7, [.int 0, .int 365, .int 0, .int 0, .ref p1, .int 0, .ref p2, .ref p3, .ref p4, .ref p5, .int 0, .ref p6, .int 0, .ref p7, .ref p8, .ref p9, .int 0]))] sz)) (va_Qi (fun (r : Int32) (_ : Unit) => r = 0) (fun (_ : Unit) t => Wq D (va_A [(h0, .inr (10, [.ref b0, .int 0, .ref p0, .ref u0, .ref r0, .ref a0, .ref t0, .ref s0, .ref o0])), (p0, .inr (7, [.int 0, .int 365, .int 0, .int 0, .ref p1, .int 0, .ref p2, .ref p3, .ref p4, .ref p5, .int 0, .ref p6, .int 0, .ref p7, .ref p8, .ref p9, .int 0]))] sz) [(h0, .inr (10, [.ref b0, .int 0, .ref p0, .ref u0, .ref r0, .ref a0, .ref t0, .ref s0, .ref o0])), (p0, .inr (7, [.int 0, .int 365, .int 0, .int 0, .ref p1, .int 0, .ref p2, .ref p3, .ref p4, .ref p5, .int 0, .ref p6, .int 0, .ref p7, .ref p8, .ref p9, .int 0]))] t) (va_A [(h0, .inr (10, [.ref b0, .int 0, .ref p0, .ref u0, .ref r0, .ref a0, .ref t0, .ref s0, .ref o0])), (p0, .inr (7, [.int 0, .int 365, .int 0, .int 0, .ref p1, .int 0, .ref p2, .ref p3, .ref p4, .ref p5, .int 0, .ref p6, .int 0, .ref p7, .ref p8, .ref p9, .int 0]))] sz)) 0 0 (va_A [(h0, .inr (10, [.ref b0, .int 0, .ref p0, .ref u0, .ref r0, .ref a0, .ref t0, .ref s0, .ref o0])), (p0, .inr (7, [.int 0, .int 365, .int 0, .int 0, .ref p1, .int 0, .ref p2, .ref p3, .ref p4, .ref p5, .int 0, .ref p6, .int 0, .ref p7, .ref p8, .ref p9, .int 0]))] sz) := by
  refine Met.ofW (cc := cX9_closedCount) (maxL := 3) (ret := (some .int)) (by decide) rfl ?_
  intro p e s m args below meth c s₁ B hml hv
  obtain ⟨rfl, hsz, hP, hK, hD0, hC, hZ⟩ := hv
  have hx := B.exec
  have hb := B.bytes
  have hr := B.returns
  have hts := atoms_spec (ws := wsX9_closedCount) B.pre
  have hown : s.vm.findClass RX9 = some m.cls := findClass_of_methodNamed B.named
  have hlocks := B.notSynchronized
  subst hsz
  have hD := hD0.self (sz := s.heap.size)
  generalize hAe : va_A [(h0, .inr (10, [.ref b0, .int 0, .ref p0, .ref u0, .ref r0, .ref a0, .ref t0, .ref s0, .ref o0])), (p0, .inr (7, [.int 0, .int 365, .int 0, .int 0, .ref p1, .int 0, .ref p2, .ref p3, .ref p4, .ref p5, .int 0, .ref p6, .int 0, .ref p7, .ref p8, .ref p9, .int 0]))] s.heap.size = A at hD hZ ⊢
  have hA : ∀ q : Nat, s.heap.size ≤ q → A q := fun q h => by rw [← hAe]; exact Or.inr h
  have hS : va_S A s.heap s.heap [] := va_S.rf
  have hP : va_P D vwCl [(h0, .inr (10, [.ref b0, .int 0, .ref p0, .ref u0, .ref r0, .ref a0, .ref t0, .ref s0, .ref o0])), (p0, .inr (7, [.int 0, .int 365, .int 0, .int 0, .ref p1, .int 0, .ref p2, .ref p3, .ref p4, .ref p5, .int 0, .ref p6, .int 0, .ref p7, .ref p8, .ref p9, .int 0]))] s.heap := hP
  have hl := lv_entry ([.ref h0]) (n := 3) (Nat.le_of_ble_eq_true rfl)
  rw [lg_entry_eq]
  generalize (lg_sl ([.ref h0]) ++ List.replicate (3 - (lg_sl ([.ref h0])).length) Slot.unset).toArray = ls at hl ⊢
  have hl : lv_has ls 3 [(0, .ref h0)] := hl
  have inX3 : ∀ w ∈ u_ws RX3 TX3 17, w ∈ wsX9_closedCount := by decide +kernel
  have inX9 : ∀ w ∈ u_ws RX9 TX9 9, w ∈ wsX9_closedCount := by decide +kernel
  refine lv_iconst (v := 0) hx hb dX9_closedCount_0 (by decide) ?_
  refine lv_istore_n (lv' := [(1, .int 0), (0, .ref h0)]) hx hb dX9_closedCount_1 rfl hl (by decide) rfl (fun ls hl => ?_)
  refine lv_iconst (v := 0) hx hb dX9_closedCount_2 (by decide) ?_
  refine lv_istore_n (lv' := [(2, .int 0), (1, .int 0), (0, .ref h0)]) hx hb dX9_closedCount_3 rfl hl (by decide) rfl (fun ls hl => ?_)
  refine lv_iload_n hx hb dX9_closedCount_4 rfl (lv_at hl 0 rfl) ?_
  refine lv_aload_n hx hb dX9_closedCount_5 rfl (lv_at hl 2 rfl) ?_
  refine va_get (D := D) (ci := 10) (v := .ref p0) (C := RX9) (T := TX9) (N := 9) hx hb hts inX9 hown hK hP 0 rfl rfl 2 (by decide) (hts (.fieldLink RX9 16 "EscrowDesk" "plan" "LEscrowDesk$Plan;") (by decide +kernel)) (fun _ h9 => h9) rfl dX9_closedCount_6 ?_
  refine va_getN (D := D) (ci := 7) (v := .int 0) (C := RX3) (T := TX3) (N := 17) hx hb hts inX3 hown hK hP 1 rfl rfl 10 (by decide) (hC.f (A := _) (a := RX9) (i := 78) (b := "EscrowDesk$Plan") (n := "milestoneCount") (d := "I") (x := "EscrowDesk") (by decide +kernel)) (fun _ h9 => h9) rfl dX9_closedCount_9 ?_
  refine lv_icmp_ge (tgt := 35) hx hb dX9_closedCount_12 (by decide) (fun c1 => ?_) (fun c9 => absurd c9 (by decide))
  refine lv_iload_n hx hb dX9_closedCount_35 rfl (lv_at hl 1 rfl) ?_
  have hP9 := hP.sub (ws' := [(h0, .inr (10, [.ref b0, .int 0, .ref p0, .ref u0, .ref r0, .ref a0, .ref t0, .ref s0, .ref o0])), (p0, .inr (7, [.int 0, .int 365, .int 0, .int 0, .ref p1, .int 0, .ref p2, .ref p3, .ref p4, .ref p5, .int 0, .ref p6, .int 0, .ref p7, .ref p8, .ref p9, .int 0]))]) [0, 1] rfl
  have hD9 := hD.sub (ws' := [(h0, .inr (10, [.ref b0, .int 0, .ref p0, .ref u0, .ref r0, .ref a0, .ref t0, .ref s0, .ref o0])), (p0, .inr (7, [.int 0, .int 365, .int 0, .int 0, .ref p1, .int 0, .ref p2, .ref p3, .ref p4, .ref p5, .int 0, .ref p6, .int 0, .ref p7, .ref p8, .ref p9, .int 0]))]) [0, 1] (by decide) rfl
  refine W.widen (k := 0) (n := 0) (Nat.le_of_ble_eq_true rfl) (Nat.le_of_ble_eq_true rfl) ?_
  exact W.iret (v := 0) hx hb hr (fun t ht hW => ⟨⟨0, (), rfl, rfl, by rw [ht]; exact hP9, hD9⟩, hS.F ht⟩) hS.2.2 dX9_closedCount_36

set_option maxHeartbeats 4000000 in
set_option maxRecDepth 100000 in
/-- progress -/
theorem c_progress (l : Launch) (D : va_G) (cA : Nat → ClassId) (sa : Nat → Nat) (h0 b0 p0 u0 r0 a0 t0 s0 o0 p1 p2 p3 p4 p5 p6 p7 p8 p9 : Nat) (sz : Nat) : Met l yX9_progress wsX9_progress ({ frames := 0, cells := 0, slots := 0, locals := 0 }) (va_Pc [.ref h0] (Wd D cA sa [(h0, .inr (10, [.ref b0, .int 0, .ref p0, .ref u0, .ref r0, .ref a0, .ref t0, .ref s0, .ref o0])), (p0, .inr (7, [.int 0, .int 365, .int 0, .int 0, .ref p1, .int 0, .ref p2, .ref p3, .ref p4, .ref p5, .int 0, .ref p6, .int 0, .ref p7, .ref p8, .ref p9, .int 0]))] sz)) (va_Qi (fun (r : Int32) (_ : Unit) => r = 0) (fun (_ : Unit) t => Wq D (va_A [(h0, .inr (10, [.ref b0, .int 0, .ref p0, .ref u0, .ref r0, .ref a0, .ref t0, .ref s0, .ref o0])), (p0, .inr (7, [.int 0, .int 365, .int 0, .int 0, .ref p1, .int 0, .ref p2, .ref p3, .ref p4, .ref p5, .int 0, .ref p6, .int 0, .ref p7, .ref p8, .ref p9, .int 0]))] sz) [] t) (va_A [(h0, .inr (10, [.ref b0, .int 0, .ref p0, .ref u0, .ref r0, .ref a0, .ref t0, .ref s0, .ref o0])), (p0, .inr (7, [.int 0, .int 365, .int 0, .int 0, .ref p1, .int 0, .ref p2, .ref p3, .ref p4, .ref p5, .int 0, .ref p6, .int 0, .ref p7, .ref p8, .ref p9, .int 0]))] sz)) 0 0 (va_A [(h0, .inr (10, [.ref b0, .int 0, .ref p0, .ref u0, .ref r0, .ref a0, .ref t0, .ref s0, .ref o0])), (p0, .inr (7, [.int 0, .int 365, .int 0, .int 0, .ref p1, .int 0, .ref p2, .ref p3, .ref p4, .ref p5, .int 0, .ref p6, .int 0, .ref p7, .ref p8, .ref p9, .int 0]))] sz) := by
  refine Met.ofW (cc := cX9_progress) (maxL := 6) (ret := (some .int)) (by decide) rfl ?_
  intro p e s m args below meth c s₁ B hml hv
  obtain ⟨rfl, hsz, hP, hK, hD0, hC, hZ⟩ := hv
  have hx := B.exec
  have hb := B.bytes
  have hr := B.returns
  have hts := atoms_spec (ws := wsX9_progress) B.pre
  have hown : s.vm.findClass RX9 = some m.cls := findClass_of_methodNamed B.named
  have hlocks := B.notSynchronized
  subst hsz
  have hD := hD0.self (sz := s.heap.size)
  generalize hAe : va_A [(h0, .inr (10, [.ref b0, .int 0, .ref p0, .ref u0, .ref r0, .ref a0, .ref t0, .ref s0, .ref o0])), (p0, .inr (7, [.int 0, .int 365, .int 0, .int 0, .ref p1, .int 0, .ref p2, .ref p3, .ref p4, .ref p5, .int 0, .ref p6, .int 0, .ref p7, .ref p8, .ref p9, .int 0]))] s.heap.size = A at hD hZ ⊢
  have hA : ∀ q : Nat, s.heap.size ≤ q → A q := fun q h => by rw [← hAe]; exact Or.inr h
  have hS : va_S A s.heap s.heap [] := va_S.rf
  have hP : va_P D vwCl [(h0, .inr (10, [.ref b0, .int 0, .ref p0, .ref u0, .ref r0, .ref a0, .ref t0, .ref s0, .ref o0])), (p0, .inr (7, [.int 0, .int 365, .int 0, .int 0, .ref p1, .int 0, .ref p2, .ref p3, .ref p4, .ref p5, .int 0, .ref p6, .int 0, .ref p7, .ref p8, .ref p9, .int 0]))] s.heap := hP
  have hl := lv_entry ([.ref h0]) (n := 6) (Nat.le_of_ble_eq_true rfl)
  rw [lg_entry_eq]
  generalize (lg_sl ([.ref h0]) ++ List.replicate (6 - (lg_sl ([.ref h0])).length) Slot.unset).toArray = ls at hl ⊢
  have hl : lv_has ls 6 [(0, .ref h0)] := hl
  have inX3 : ∀ w ∈ u_ws RX3 TX3 17, w ∈ wsX9_progress := by decide +kernel
  have inX9 : ∀ w ∈ u_ws RX9 TX9 9, w ∈ wsX9_progress := by decide +kernel
  refine lv_lconst (v := 0) hx hb dX9_progress_0 (by decide) ?_
  refine lv_lstore_n (lv' := [(1, .long 0), (0, .ref h0)]) hx hb dX9_progress_1 rfl hl (by decide) rfl (fun ls hl => ?_)
  refine lv_lconst (v := 0) hx hb dX9_progress_2 (by decide) ?_
  refine lv_lstore_n (lv' := [(3, .long 0), (1, .long 0), (0, .ref h0)]) hx hb dX9_progress_3 rfl hl (by decide) rfl (fun ls hl => ?_)
  refine lv_iconst (v := 0) hx hb dX9_progress_4 (by decide) ?_
  refine lv_istore (lv' := [(5, .int 0), (3, .long 0), (1, .long 0), (0, .ref h0)]) hx hb dX9_progress_5 hl (by decide) rfl (fun ls hl => ?_)
  refine lv_iload hx hb dX9_progress_7 (lv_at hl 0 rfl) ?_
  refine lv_aload_n hx hb dX9_progress_9 rfl (lv_at hl 3 rfl) ?_
  refine va_get (D := D) (ci := 10) (v := .ref p0) (C := RX9) (T := TX9) (N := 9) hx hb hts inX9 hown hK hP 0 rfl rfl 2 (by decide) (hts (.fieldLink RX9 16 "EscrowDesk" "plan" "LEscrowDesk$Plan;") (by decide +kernel)) (fun _ h9 => h9) rfl dX9_progress_10 ?_
  refine va_getN (D := D) (ci := 7) (v := .int 0) (C := RX3) (T := TX3) (N := 17) hx hb hts inX3 hown hK hP 1 rfl rfl 10 (by decide) (hC.f (A := _) (a := RX9) (i := 78) (b := "EscrowDesk$Plan") (n := "milestoneCount") (d := "I") (x := "EscrowDesk") (by decide +kernel)) (fun _ h9 => h9) rfl dX9_progress_13 ?_
  refine lv_icmp_ge (tgt := 53) hx hb dX9_progress_16 (by decide) (fun c1 => ?_) (fun c9 => absurd c9 (by decide))
  refine lv_lload_n hx hb dX9_progress_53 rfl (lv_at hl 1 rfl) ?_
  refine lv_lconst (v := 0) hx hb dX9_progress_54 (by decide) ?_
  refine W.lcmp hx hb dX9_progress_55 ?_
  refine lv_topi (fun yn2 eyn2 => ?_)
  obtain rfl : yn2 = 0 := eyn2.trans (by first | rfl | decide +kernel)
  refine lv_if_le (tgt := 70) hx hb dX9_progress_56 (by decide) (fun c3 => ?_) (fun c9 => absurd c9 (by decide))
  refine lv_iconst (v := 0) hx hb dX9_progress_70 (by decide) ?_
  have hP9 := hP.sub (ws' := []) [] rfl
  have hD9 := hD.sub (ws' := []) [] (by decide) rfl
  refine W.widen (k := 0) (n := 0) (Nat.le_of_ble_eq_true rfl) (Nat.le_of_ble_eq_true rfl) ?_
  exact W.iret (v := 0) hx hb hr (fun t ht hW => ⟨⟨0, (), rfl, rfl, by rw [ht]; exact hP9, hD9⟩, hS.F ht⟩) hS.2.2 dX9_progress_71

set_option maxHeartbeats 4000000 in
set_option maxRecDepth 100000 in
/-- dueByRank: none -/
theorem c_dueByRank (l : Launch) (D : va_G) (cA : Nat → ClassId) (sa : Nat → Nat) (a0 p0 a1 a3 a4 a5 a6 p1 p2 p3 p4 p5 p6 p7 p8 p9 : Nat) (i : Int32) (sz : Nat) : Met l yX0_dueByRank wsX0_dueByRank ({ frames := 0, cells := 0, slots := 0, locals := 0 }) (va_Pc [.ref a0, .int i] (Wd D cA sa [(a0, .inr (4, [.ref p0, .ref a1, .ref a3, .ref a4, .ref a5, .ref a6, .int 0, .int 0, .int 0, .long 0, .long 0, .long 0, .int 0, .int 0, .int 0, .int 0, .int 365, .int 0, .int 0, .int 0])), (p0, .inr (7, [.int 0, .int 365, .int 0, .int 0, .ref p1, .int 0, .ref p2, .ref p3, .ref p4, .ref p5, .int 0, .ref p6, .int 0, .ref p7, .ref p8, .ref p9, .int 0]))] sz)) (va_Qi (fun (r : Int32) (_ : Unit) => r = (-1)) (fun (_ : Unit) t => Wq D (va_A [(a0, .inr (4, [.ref p0, .ref a1, .ref a3, .ref a4, .ref a5, .ref a6, .int 0, .int 0, .int 0, .long 0, .long 0, .long 0, .int 0, .int 0, .int 0, .int 0, .int 365, .int 0, .int 0, .int 0])), (p0, .inr (7, [.int 0, .int 365, .int 0, .int 0, .ref p1, .int 0, .ref p2, .ref p3, .ref p4, .ref p5, .int 0, .ref p6, .int 0, .ref p7, .ref p8, .ref p9, .int 0]))] sz) [] t) (va_A [(a0, .inr (4, [.ref p0, .ref a1, .ref a3, .ref a4, .ref a5, .ref a6, .int 0, .int 0, .int 0, .long 0, .long 0, .long 0, .int 0, .int 0, .int 0, .int 0, .int 365, .int 0, .int 0, .int 0])), (p0, .inr (7, [.int 0, .int 365, .int 0, .int 0, .ref p1, .int 0, .ref p2, .ref p3, .ref p4, .ref p5, .int 0, .ref p6, .int 0, .ref p7, .ref p8, .ref p9, .int 0]))] sz)) 0 0 (va_A [(a0, .inr (4, [.ref p0, .ref a1, .ref a3, .ref a4, .ref a5, .ref a6, .int 0, .int 0, .int 0, .long 0, .long 0, .long 0, .int 0, .int 0, .int 0, .int 0, .int 365, .int 0, .int 0, .int 0])), (p0, .inr (7, [.int 0, .int 365, .int 0, .int 0, .ref p1, .int 0, .ref p2, .ref p3, .ref p4, .ref p5, .int 0, .ref p6, .int 0, .ref p7, .ref p8, .ref p9, .int 0]))] sz) := by
  refine Met.ofW (cc := cX0_dueByRank) (maxL := 5) (ret := (some .int)) (by decide) rfl ?_
  intro p e s m args below meth c s₁ B hml hv
  obtain ⟨rfl, hsz, hP, hK, hD0, hC, hZ⟩ := hv
  have hx := B.exec
  have hb := B.bytes
  have hr := B.returns
  have hts := atoms_spec (ws := wsX0_dueByRank) B.pre
  have hown : s.vm.findClass RX0 = some m.cls := findClass_of_methodNamed B.named
  have hlocks := B.notSynchronized
  subst hsz
  have hD := hD0.self (sz := s.heap.size)
  generalize hAe : va_A [(a0, .inr (4, [.ref p0, .ref a1, .ref a3, .ref a4, .ref a5, .ref a6, .int 0, .int 0, .int 0, .long 0, .long 0, .long 0, .int 0, .int 0, .int 0, .int 0, .int 365, .int 0, .int 0, .int 0])), (p0, .inr (7, [.int 0, .int 365, .int 0, .int 0, .ref p1, .int 0, .ref p2, .ref p3, .ref p4, .ref p5, .int 0, .ref p6, .int 0, .ref p7, .ref p8, .ref p9, .int 0]))] s.heap.size = A at hD hZ ⊢
  have hA : ∀ q : Nat, s.heap.size ≤ q → A q := fun q h => by rw [← hAe]; exact Or.inr h
  have hS : va_S A s.heap s.heap [] := va_S.rf
  have hP : va_P D vwCl [(a0, .inr (4, [.ref p0, .ref a1, .ref a3, .ref a4, .ref a5, .ref a6, .int 0, .int 0, .int 0, .long 0, .long 0, .long 0, .int 0, .int 0, .int 0, .int 0, .int 365, .int 0, .int 0, .int 0])), (p0, .inr (7, [.int 0, .int 365, .int 0, .int 0, .ref p1, .int 0, .ref p2, .ref p3, .ref p4, .ref p5, .int 0, .ref p6, .int 0, .ref p7, .ref p8, .ref p9, .int 0]))] s.heap := hP
  have hl := lv_entry ([.ref a0, .int i]) (n := 5) (Nat.le_of_ble_eq_true rfl)
  rw [lg_entry_eq]
  generalize (lg_sl ([.ref a0, .int i]) ++ List.replicate (5 - (lg_sl ([.ref a0, .int i])).length) Slot.unset).toArray = ls at hl ⊢
  have hl : lv_has ls 5 [(0, .ref a0), (1, .int i)] := hl
  have inX0 : ∀ w ∈ u_ws RX0 TX0 20, w ∈ wsX0_dueByRank := by decide +kernel
  have inX3 : ∀ w ∈ u_ws RX3 TX3 17, w ∈ wsX0_dueByRank := by decide +kernel
  refine lv_iconst (v := 0) hx hb dX0_dueByRank_0 (by decide) ?_
  refine lv_istore_n (lv' := [(2, .int 0), (0, .ref a0), (1, .int i)]) hx hb dX0_dueByRank_1 rfl hl (by decide) rfl (fun ls hl => ?_)
  refine lv_iconst (v := 0) hx hb dX0_dueByRank_2 (by decide) ?_
  refine lv_istore_n (lv' := [(3, .int 0), (2, .int 0), (0, .ref a0), (1, .int i)]) hx hb dX0_dueByRank_3 rfl hl (by decide) rfl (fun ls hl => ?_)
  refine lv_iload_n hx hb dX0_dueByRank_4 rfl (lv_at hl 0 rfl) ?_
  refine lv_aload_n hx hb dX0_dueByRank_5 rfl (lv_at hl 2 rfl) ?_
  refine va_get (D := D) (ci := 4) (v := .ref p0) (C := RX0) (T := TX0) (N := 20) hx hb hts inX0 hown hK hP 0 rfl rfl 0 (by decide) (hts (.fieldLink RX0 31 "EscrowDesk$Account" "plan" "LEscrowDesk$Plan;") (by decide +kernel)) (fun _ h9 => h9) rfl dX0_dueByRank_6 ?_
  refine va_getN (D := D) (ci := 7) (v := .int 0) (C := RX3) (T := TX3) (N := 17) hx hb hts inX3 hown hK hP 1 rfl rfl 10 (by decide) (hC.f (A := _) (a := RX0) (i := 109) (b := "EscrowDesk$Plan") (n := "milestoneCount") (d := "I") (x := "EscrowDesk") (by decide +kernel)) (fun _ h9 => h9) rfl dX0_dueByRank_9 ?_
  refine lv_icmp_ge (tgt := 54) hx hb dX0_dueByRank_12 (by decide) (fun c1 => ?_) (fun c9 => absurd c9 (by decide))
  refine lv_iconst (v := (-1)) hx hb dX0_dueByRank_54 (by decide) ?_
  have hP9 := hP.sub (ws' := []) [] rfl
  have hD9 := hD.sub (ws' := []) [] (by decide) rfl
  refine W.widen (k := 0) (n := 0) (Nat.le_of_ble_eq_true rfl) (Nat.le_of_ble_eq_true rfl) ?_
  exact W.iret (v := (-1)) hx hb hr (fun t ht hW => ⟨⟨(-1), (), rfl, rfl, by rw [ht]; exact hP9, hD9⟩, hS.F ht⟩) hS.2.2 dX0_dueByRank_55

set_option maxHeartbeats 4000000 in
set_option maxRecDepth 100000 in
/-- nextDue -/
theorem c_nextDue (l : Launch) (D : va_G) (cA : Nat → ClassId) (sa : Nat → Nat) (h0 b0 p0 u0 r0 a0 t0 s0 o0 p1 p2 p3 p4 p5 p6 p7 p8 p9 a1 a3 a4 a5 a6 : Nat) (sz : Nat) : Met l yX9_nextDue wsX9_nextDue ({ frames := 1, cells := 0, slots := 0, locals := 24 }) (va_Pc [.ref h0] (Wd D cA sa [(h0, .inr (10, [.ref b0, .int 0, .ref p0, .ref u0, .ref r0, .ref a0, .ref t0, .ref s0, .ref o0])), (a0, .inr (4, [.ref p0, .ref a1, .ref a3, .ref a4, .ref a5, .ref a6, .int 0, .int 0, .int 0, .long 0, .long 0, .long 0, .int 0, .int 0, .int 0, .int 0, .int 365, .int 0, .int 0, .int 0])), (p0, .inr (7, [.int 0, .int 365, .int 0, .int 0, .ref p1, .int 0, .ref p2, .ref p3, .ref p4, .ref p5, .int 0, .ref p6, .int 0, .ref p7, .ref p8, .ref p9, .int 0]))] sz)) (va_Qi (fun (r : Int32) (_ : Unit) => r = (-1)) (fun (_ : Unit) t => Wq D (va_A [(h0, .inr (10, [.ref b0, .int 0, .ref p0, .ref u0, .ref r0, .ref a0, .ref t0, .ref s0, .ref o0])), (a0, .inr (4, [.ref p0, .ref a1, .ref a3, .ref a4, .ref a5, .ref a6, .int 0, .int 0, .int 0, .long 0, .long 0, .long 0, .int 0, .int 0, .int 0, .int 0, .int 365, .int 0, .int 0, .int 0])), (p0, .inr (7, [.int 0, .int 365, .int 0, .int 0, .ref p1, .int 0, .ref p2, .ref p3, .ref p4, .ref p5, .int 0, .ref p6, .int 0, .ref p7, .ref p8, .ref p9, .int 0]))] sz) [] t) (va_A [(h0, .inr (10, [.ref b0, .int 0, .ref p0, .ref u0, .ref r0, .ref a0, .ref t0, .ref s0, .ref o0])), (a0, .inr (4, [.ref p0, .ref a1, .ref a3, .ref a4, .ref a5, .ref a6, .int 0, .int 0, .int 0, .long 0, .long 0, .long 0, .int 0, .int 0, .int 0, .int 0, .int 365, .int 0, .int 0, .int 0])), (p0, .inr (7, [.int 0, .int 365, .int 0, .int 0, .ref p1, .int 0, .ref p2, .ref p3, .ref p4, .ref p5, .int 0, .ref p6, .int 0, .ref p7, .ref p8, .ref p9, .int 0]))] sz)) 0 0 (va_A [(h0, .inr (10, [.ref b0, .int 0, .ref p0, .ref u0, .ref r0, .ref a0, .ref t0, .ref s0, .ref o0])), (a0, .inr (4, [.ref p0, .ref a1, .ref a3, .ref a4, .ref a5, .ref a6, .int 0, .int 0, .int 0, .long 0, .long 0, .long 0, .int 0, .int 0, .int 0, .int 0, .int 365, .int 0, .int 0, .int 0])), (p0, .inr (7, [.int 0, .int 365, .int 0, .int 0, .ref p1, .int 0, .ref p2, .ref p3, .ref p4, .ref p5, .int 0, .ref p6, .int 0, .ref p7, .ref p8, .ref p9, .int 0]))] sz) := by
  refine Met.ofW (cc := cX9_nextDue) (maxL := 1) (ret := (some .int)) (by decide) rfl ?_
  intro p e s m args below meth c s₁ B hml hv
  obtain ⟨rfl, hsz, hP, hK, hD0, hC, hZ⟩ := hv
  have hx := B.exec
  have hb := B.bytes
  have hr := B.returns
  have hts := atoms_spec (ws := wsX9_nextDue) B.pre
  have hown : s.vm.findClass RX9 = some m.cls := findClass_of_methodNamed B.named
  have hlocks := B.notSynchronized
  subst hsz
  have hD := hD0.self (sz := s.heap.size)
  generalize hAe : va_A [(h0, .inr (10, [.ref b0, .int 0, .ref p0, .ref u0, .ref r0, .ref a0, .ref t0, .ref s0, .ref o0])), (a0, .inr (4, [.ref p0, .ref a1, .ref a3, .ref a4, .ref a5, .ref a6, .int 0, .int 0, .int 0, .long 0, .long 0, .long 0, .int 0, .int 0, .int 0, .int 0, .int 365, .int 0, .int 0, .int 0])), (p0, .inr (7, [.int 0, .int 365, .int 0, .int 0, .ref p1, .int 0, .ref p2, .ref p3, .ref p4, .ref p5, .int 0, .ref p6, .int 0, .ref p7, .ref p8, .ref p9, .int 0]))] s.heap.size = A at hD hZ ⊢
  have hA : ∀ q : Nat, s.heap.size ≤ q → A q := fun q h => by rw [← hAe]; exact Or.inr h
  have hS : va_S A s.heap s.heap [] := va_S.rf
  have hP : va_P D vwCl [(h0, .inr (10, [.ref b0, .int 0, .ref p0, .ref u0, .ref r0, .ref a0, .ref t0, .ref s0, .ref o0])), (a0, .inr (4, [.ref p0, .ref a1, .ref a3, .ref a4, .ref a5, .ref a6, .int 0, .int 0, .int 0, .long 0, .long 0, .long 0, .int 0, .int 0, .int 0, .int 0, .int 365, .int 0, .int 0, .int 0])), (p0, .inr (7, [.int 0, .int 365, .int 0, .int 0, .ref p1, .int 0, .ref p2, .ref p3, .ref p4, .ref p5, .int 0, .ref p6, .int 0, .ref p7, .ref p8, .ref p9, .int 0]))] s.heap := hP
  have hl := lv_entry ([.ref h0]) (n := 1) (Nat.le_of_ble_eq_true rfl)
  rw [lg_entry_eq]
  generalize (lg_sl ([.ref h0]) ++ List.replicate (1 - (lg_sl ([.ref h0])).length) Slot.unset).toArray = ls at hl ⊢
  have hl : lv_has ls 1 [(0, .ref h0)] := hl
  have inX9 : ∀ w ∈ u_ws RX9 TX9 9, w ∈ wsX9_nextDue := by decide +kernel
  refine lv_aload_n hx hb dX9_nextDue_0 rfl (lv_at hl 0 rfl) ?_
  refine va_get (D := D) (ci := 10) (v := .ref a0) (C := RX9) (T := TX9) (N := 9) hx hb hts inX9 hown hK hP 0 rfl rfl 5 (by decide) (hts (.fieldLink RX9 35 "EscrowDesk" "account" "LEscrowDesk$Account;") (by decide +kernel)) (fun _ h9 => h9) rfl dX9_nextDue_1 ?_
  refine lv_iconst (v := 0) hx hb dX9_nextDue_4 (by decide) ?_
  have hPc := hP.sub (ws' := [(a0, .inr (4, [.ref p0, .ref a1, .ref a3, .ref a4, .ref a5, .ref a6, .int 0, .int 0, .int 0, .long 0, .long 0, .long 0, .int 0, .int 0, .int 0, .int 0, .int 365, .int 0, .int 0, .int 0])), (p0, .inr (7, [.int 0, .int 365, .int 0, .int 0, .ref p1, .int 0, .ref p2, .ref p3, .ref p4, .ref p5, .int 0, .ref p6, .int 0, .ref p7, .ref p8, .ref p9, .int 0]))]) [1, 2] rfl
  have hDc := hD.sub (ws' := [(a0, .inr (4, [.ref p0, .ref a1, .ref a3, .ref a4, .ref a5, .ref a6, .int 0, .int 0, .int 0, .long 0, .long 0, .long 0, .int 0, .int 0, .int 0, .int 0, .int 365, .int 0, .int 0, .int 0])), (p0, .inr (7, [.int 0, .int 365, .int 0, .int 0, .ref p1, .int 0, .ref p2, .ref p3, .ref p4, .ref p5, .int 0, .ref p6, .int 0, .ref p7, .ref p8, .ref p9, .int 0]))]) [1, 2] (by decide) rfl
  have hFc := va_free (wc := [(a0, .inr (4, [.ref p0, .ref a1, .ref a3, .ref a4, .ref a5, .ref a6, .int 0, .int 0, .int 0, .long 0, .long 0, .long 0, .int 0, .int 0, .int 0, .int 0, .int 365, .int 0, .int 0, .int 0])), (p0, .inr (7, [.int 0, .int 365, .int 0, .int 0, .ref p1, .int 0, .ref p2, .ref p3, .ref p4, .ref p5, .int 0, .ref p6, .int 0, .ref p7, .ref p8, .ref p9, .int 0]))]) hD hS hA [1, 2] rfl
  refine va_calli (va_runV (As := [.int 0]) (rest := []) ⟨hx, hb, hml, hown, hts⟩ (c_dueByRank l D cA sa a0 p0 a1 a3 a4 a5 a6 p1 p2 p3 p4 p5 p6 p7 p8 p9 0 s.heap.size) (cwV 1 hts gX9_nextDue_X0_dueByRank rfl rfl rfl (by decide +kernel) ⟨(Nat.le_of_ble_eq_true rfl), (Nat.le_of_ble_eq_true rfl)⟩) ⟨Wd.blind, va_recv hK hPc (ci := 4) (q0 := 0) rfl rfl, fun U hU hW => ⟨rfl, Wd.call hPc hDc hK hC hZ hS hFc U hU hW⟩⟩ rfl rfl hl.1 rfl (lv_room (Nat.le_of_ble_eq_true rfl)) dX9_nextDue_5 ⟨(Nat.le_of_ble_eq_true rfl), (Nat.le_of_ble_eq_true rfl)⟩) hS (fun q _ h => hFc q h) hFc (fun rn1 u t H1 locs ht hvm hw hB hz1 hk1 hS => ?_)
  obtain ⟨hP1, hD1⟩ := hB
  rw [ht] at hP1
  obtain ⟨hP, hD⟩ := va_join (wr := [(h0, .inr (10, [.ref b0, .int 0, .ref p0, .ref u0, .ref r0, .ref a0, .ref t0, .ref s0, .ref o0]))]) (w1 := []) hP hD [1, 2] [0] rfl rfl (by decide) (by decide) hk1 hFc hP1 hD1
  generalize H1 = H at hP hS ⊢
  have hP : va_P D vwCl [(h0, .inr (10, [.ref b0, .int 0, .ref p0, .ref u0, .ref r0, .ref a0, .ref t0, .ref s0, .ref o0]))] H := hP
  have hD : va_D A [(h0, .inr (10, [.ref b0, .int 0, .ref p0, .ref u0, .ref r0, .ref a0, .ref t0, .ref s0, .ref o0]))] := hD
  obtain rfl : rn1 = (-1) := hw
  have hP9 := hP.sub (ws' := []) [] rfl
  have hD9 := hD.sub (ws' := []) [] (by decide) rfl
  refine W.widen (k := 0) (n := 0) (Nat.le_of_ble_eq_true rfl) (Nat.le_of_ble_eq_true rfl) ?_
  exact W.iret (v := (-1)) hx hb hr (fun t ht hW => ⟨⟨(-1), (), rfl, rfl, by rw [ht]; exact hP9, hD9⟩, hS.F ht⟩) hS.2.2 dX9_nextDue_8

set_option maxHeartbeats 4000000 in
set_option maxRecDepth 100000 in
/-- dueAt: none -/
theorem c_dueAt_thr (l : Launch) (D : va_G) (cA : Nat → ClassId) (sa : Nat → Nat) (h0 b0 p0 u0 r0 a0 t0 s0 o0 p1 p2 p3 p4 p5 p6 p7 p8 p9 a1 a3 a4 a5 a6 : Nat) (i : Int32) (sz : Nat) (hl9 : l.stackTraces = false) : vx_Met l yX9_dueAt wsX9_dueAt ({ frames := 6, cells := 1, slots := 6, locals := 90 }) (va_Pc [.ref h0, .int i] (Wd D cA sa [(h0, .inr (10, [.ref b0, .int 0, .ref p0, .ref u0, .ref r0, .ref a0, .ref t0, .ref s0, .ref o0])), (a0, .inr (4, [.ref p0, .ref a1, .ref a3, .ref a4, .ref a5, .ref a6, .int 0, .int 0, .int 0, .long 0, .long 0, .long 0, .int 0, .int 0, .int 0, .int 0, .int 365, .int 0, .int 0, .int 0])), (p0, .inr (7, [.int 0, .int 365, .int 0, .int 0, .ref p1, .int 0, .ref p2, .ref p3, .ref p4, .ref p5, .int 0, .ref p6, .int 0, .ref p7, .ref p8, .ref p9, .int 0]))] sz)) (va_Qi (fun (_ : Int32) (_ : Unit) => False) (fun (_ : Unit) _ => True) (va_A [(h0, .inr (10, [.ref b0, .int 0, .ref p0, .ref u0, .ref r0, .ref a0, .ref t0, .ref s0, .ref o0])), (a0, .inr (4, [.ref p0, .ref a1, .ref a3, .ref a4, .ref a5, .ref a6, .int 0, .int 0, .int 0, .long 0, .long 0, .long 0, .int 0, .int 0, .int 0, .int 0, .int 365, .int 0, .int 0, .int 0])), (p0, .inr (7, [.int 0, .int 365, .int 0, .int 0, .ref p1, .int 0, .ref p2, .ref p3, .ref p4, .ref p5, .int 0, .ref p6, .int 0, .ref p7, .ref p8, .ref p9, .int 0]))] sz)) (vx_X (fun _ : Unit => True) (fun E _ _ => E = "java/lang/IndexOutOfBoundsException") (va_A [(h0, .inr (10, [.ref b0, .int 0, .ref p0, .ref u0, .ref r0, .ref a0, .ref t0, .ref s0, .ref o0])), (a0, .inr (4, [.ref p0, .ref a1, .ref a3, .ref a4, .ref a5, .ref a6, .int 0, .int 0, .int 0, .long 0, .long 0, .long 0, .int 0, .int 0, .int 0, .int 0, .int 365, .int 0, .int 0, .int 0])), (p0, .inr (7, [.int 0, .int 365, .int 0, .int 0, .ref p1, .int 0, .ref p2, .ref p3, .ref p4, .ref p5, .int 0, .ref p6, .int 0, .ref p7, .ref p8, .ref p9, .int 0]))] sz)) 1 6 (va_A [(h0, .inr (10, [.ref b0, .int 0, .ref p0, .ref u0, .ref r0, .ref a0, .ref t0, .ref s0, .ref o0])), (a0, .inr (4, [.ref p0, .ref a1, .ref a3, .ref a4, .ref a5, .ref a6, .int 0, .int 0, .int 0, .long 0, .long 0, .long 0, .int 0, .int 0, .int 0, .int 0, .int 365, .int 0, .int 0, .int 0])), (p0, .inr (7, [.int 0, .int 365, .int 0, .int 0, .ref p1, .int 0, .ref p2, .ref p3, .ref p4, .ref p5, .int 0, .ref p6, .int 0, .ref p7, .ref p8, .ref p9, .int 0]))] sz) := by
  refine vx_ofW (cc := cX9_dueAt) (maxL := 3) (ret := (some .int)) (by decide) rfl ?_
  intro p e s m args below meth c s₁ B hml hno hv
  obtain ⟨rfl, hsz, hP, hK, hD0, hC, hZ⟩ := hv
  have hx := B.exec
  have hb := B.bytes
  have hr := B.returns
  have hts := atoms_spec (ws := wsX9_dueAt) B.pre
  have hown : s.vm.findClass RX9 = some m.cls := findClass_of_methodNamed B.named
  have hlocks := B.notSynchronized
  subst hsz
  have hD := hD0.self (sz := s.heap.size)
  generalize hAe : va_A [(h0, .inr (10, [.ref b0, .int 0, .ref p0, .ref u0, .ref r0, .ref a0, .ref t0, .ref s0, .ref o0])), (a0, .inr (4, [.ref p0, .ref a1, .ref a3, .ref a4, .ref a5, .ref a6, .int 0, .int 0, .int 0, .long 0, .long 0, .long 0, .int 0, .int 0, .int 0, .int 0, .int 365, .int 0, .int 0, .int 0])), (p0, .inr (7, [.int 0, .int 365, .int 0, .int 0, .ref p1, .int 0, .ref p2, .ref p3, .ref p4, .ref p5, .int 0, .ref p6, .int 0, .ref p7, .ref p8, .ref p9, .int 0]))] s.heap.size = A at hD hZ ⊢
  have hA : ∀ q : Nat, s.heap.size ≤ q → A q := fun q h => by rw [← hAe]; exact Or.inr h
  have hS : va_S A s.heap s.heap [] := va_S.rf
  have hP : va_P D vwCl [(h0, .inr (10, [.ref b0, .int 0, .ref p0, .ref u0, .ref r0, .ref a0, .ref t0, .ref s0, .ref o0])), (a0, .inr (4, [.ref p0, .ref a1, .ref a3, .ref a4, .ref a5, .ref a6, .int 0, .int 0, .int 0, .long 0, .long 0, .long 0, .int 0, .int 0, .int 0, .int 0, .int 365, .int 0, .int 0, .int 0])), (p0, .inr (7, [.int 0, .int 365, .int 0, .int 0, .ref p1, .int 0, .ref p2, .ref p3, .ref p4, .ref p5, .int 0, .ref p6, .int 0, .ref p7, .ref p8, .ref p9, .int 0]))] s.heap := hP
  have hl := lv_entry ([.ref h0, .int i]) (n := 3) (Nat.le_of_ble_eq_true rfl)
  rw [lg_entry_eq]
  generalize (lg_sl ([.ref h0, .int i]) ++ List.replicate (3 - (lg_sl ([.ref h0, .int i])).length) Slot.unset).toArray = ls at hl ⊢
  have hl : lv_has ls 3 [(0, .ref h0), (1, .int i)] := hl
  have inX9 : ∀ w ∈ u_ws RX9 TX9 9, w ∈ wsX9_dueAt := by decide +kernel
  refine lv_aload_n hx hb dX9_dueAt_0 rfl (lv_at hl 0 rfl) ?_
  refine va_get (D := D) (ci := 10) (v := .ref a0) (C := RX9) (T := TX9) (N := 9) hx hb hts inX9 hown hK hP 0 rfl rfl 5 (by decide) (hts (.fieldLink RX9 35 "EscrowDesk" "account" "LEscrowDesk$Account;") (by decide +kernel)) (fun _ h9 => h9) rfl dX9_dueAt_1 ?_
  refine lv_iload_n hx hb dX9_dueAt_4 rfl (lv_at hl 1 rfl) ?_
  have hPc := hP.sub (ws' := [(a0, .inr (4, [.ref p0, .ref a1, .ref a3, .ref a4, .ref a5, .ref a6, .int 0, .int 0, .int 0, .long 0, .long 0, .long 0, .int 0, .int 0, .int 0, .int 0, .int 365, .int 0, .int 0, .int 0])), (p0, .inr (7, [.int 0, .int 365, .int 0, .int 0, .ref p1, .int 0, .ref p2, .ref p3, .ref p4, .ref p5, .int 0, .ref p6, .int 0, .ref p7, .ref p8, .ref p9, .int 0]))]) [1, 2] rfl
  have hDc := hD.sub (ws' := [(a0, .inr (4, [.ref p0, .ref a1, .ref a3, .ref a4, .ref a5, .ref a6, .int 0, .int 0, .int 0, .long 0, .long 0, .long 0, .int 0, .int 0, .int 0, .int 0, .int 365, .int 0, .int 0, .int 0])), (p0, .inr (7, [.int 0, .int 365, .int 0, .int 0, .ref p1, .int 0, .ref p2, .ref p3, .ref p4, .ref p5, .int 0, .ref p6, .int 0, .ref p7, .ref p8, .ref p9, .int 0]))]) [1, 2] (by decide) rfl
  have hFc := va_free (wc := [(a0, .inr (4, [.ref p0, .ref a1, .ref a3, .ref a4, .ref a5, .ref a6, .int 0, .int 0, .int 0, .long 0, .long 0, .long 0, .int 0, .int 0, .int 0, .int 0, .int 365, .int 0, .int 0, .int 0])), (p0, .inr (7, [.int 0, .int 365, .int 0, .int 0, .ref p1, .int 0, .ref p2, .ref p3, .ref p4, .ref p5, .int 0, .ref p6, .int 0, .ref p7, .ref p8, .ref p9, .int 0]))]) hD hS hA [1, 2] rfl
  refine va_calli (va_runV (As := [.int i]) (rest := []) ⟨hx, hb, hml, hown, hts⟩ (c_dueByRank l D cA sa a0 p0 a1 a3 a4 a5 a6 p1 p2 p3 p4 p5 p6 p7 p8 p9 i s.heap.size) (cwV 1 hts gX9_dueAt_X0_dueByRank rfl rfl rfl (by decide +kernel) ⟨(Nat.le_of_ble_eq_true rfl), (Nat.le_of_ble_eq_true rfl)⟩) ⟨Wd.blind, va_recv hK hPc (ci := 4) (q0 := 0) rfl rfl, fun U hU hW => ⟨rfl, Wd.call hPc hDc hK hC hZ hS hFc U hU hW⟩⟩ rfl rfl hl.1 rfl (lv_room (Nat.le_of_ble_eq_true rfl)) dX9_dueAt_5 ⟨(Nat.le_of_ble_eq_true rfl), (Nat.le_of_ble_eq_true rfl)⟩) hS (fun q _ h => hFc q h) hFc (fun rn1 u t H1 locs ht hvm hw hB hz1 hk1 hS => ?_)
  obtain ⟨hP1, hD1⟩ := hB
  rw [ht] at hP1
  obtain ⟨hP, hD⟩ := va_join (wr := [(h0, .inr (10, [.ref b0, .int 0, .ref p0, .ref u0, .ref r0, .ref a0, .ref t0, .ref s0, .ref o0]))]) (w1 := []) hP hD [1, 2] [0] rfl rfl (by decide) (by decide) hk1 hFc hP1 hD1
  generalize H1 = H at hP hS ⊢
  have hP : va_P D vwCl [(h0, .inr (10, [.ref b0, .int 0, .ref p0, .ref u0, .ref r0, .ref a0, .ref t0, .ref s0, .ref o0]))] H := hP
  have hD : va_D A [(h0, .inr (10, [.ref b0, .int 0, .ref p0, .ref u0, .ref r0, .ref a0, .ref t0, .ref s0, .ref o0]))] := hD
  obtain rfl : rn1 = (-1) := hw
  refine lv_istore_n (lv' := [(2, .int (-1)), (0, .ref h0), (1, .int i)]) hx hb dX9_dueAt_8 rfl hl (by decide) rfl (fun ls hl => ?_)
  refine lv_iload_n hx hb dX9_dueAt_9 rfl (lv_at hl 0 rfl) ?_
  refine lv_iconst (v := (-1)) hx hb dX9_dueAt_10 (by decide) ?_
  refine lv_icmp_ne (tgt := 24) hx hb dX9_dueAt_11 (by decide) (fun c9 => absurd c9 (by decide)) (fun c2 => ?_)
  exact vx_throwS (text := "there are not so many due milestones") (names := ["java/lang/RuntimeException", "java/lang/Exception"]) (A := A) hx hb hl9 hown (by decide +kernel) (by decide +kernel) (hts (.classLink RX9 210 "java/lang/IndexOutOfBoundsException") (by decide +kernel)) (hts (.initialized "java/lang/IndexOutOfBoundsException") (by decide +kernel)) (hC.str 18 rfl) (vx_hat (B := [.castable "java/lang/IndexOutOfBoundsException" "java/lang/IndexOutOfBoundsException", .declares (Bundle.initS "java/lang/RuntimeException"), .declares (Bundle.initS "java/lang/Exception"), .declares (Bundle.initS "java/lang/Throwable")]) (fun w h => hts w (by first | exact (List.mem_cons_of_mem _ (List.mem_append_right _ h)) | (revert w; decide +kernel))) (by decide +kernel) (vx_c (hC.c (by decide +kernel)) (vx_c (hC.d (by decide +kernel)) (vx_c (hC.d (by decide +kernel)) (vx_c (hC.d (by decide +kernel)) vx_n))))) (by decide +kernel) hZ.1 hZ.2.1 hS (by rw [hml]; exact hl.1) dX9_dueAt_14 dX9_dueAt_17 dX9_dueAt_18 dX9_dueAt_20 dX9_dueAt_23 (fun x h => (hno x h).elim) (Nat.le_of_ble_eq_true rfl) (Nat.le_of_ble_eq_true rfl) (Nat.le_of_ble_eq_true rfl) (Nat.le_of_ble_eq_true rfl) hlocks (fun t ht h1 h2 => ⟨(), trivial, rfl, F_of hS h1 h2⟩) hS.2.2 (Nat.le_of_ble_eq_true rfl) (Nat.le_of_ble_eq_true rfl)

set_option maxHeartbeats 4000000 in
set_option maxRecDepth 100000 in
/-- shortage -/
theorem c_shortage (l : Launch) (D : va_G) (cA : Nat → ClassId) (sa : Nat → Nat) (h0 b0 p0 u0 r0 a0 t0 s0 o0 p1 p2 p3 p4 p5 p6 p7 p8 p9 a1 a3 a4 a5 a6 : Nat) (sz : Nat) : Met l yX9_shortage wsX9_shortage ({ frames := 1, cells := 0, slots := 0, locals := 21 }) (va_Pc [.ref h0] (Wd D cA sa [(h0, .inr (10, [.ref b0, .int 0, .ref p0, .ref u0, .ref r0, .ref a0, .ref t0, .ref s0, .ref o0])), (a0, .inr (4, [.ref p0, .ref a1, .ref a3, .ref a4, .ref a5, .ref a6, .int 0, .int 0, .int 0, .long 0, .long 0, .long 0, .int 0, .int 0, .int 0, .int 0, .int 365, .int 0, .int 0, .int 0])), (p0, .inr (7, [.int 0, .int 365, .int 0, .int 0, .ref p1, .int 0, .ref p2, .ref p3, .ref p4, .ref p5, .int 0, .ref p6, .int 0, .ref p7, .ref p8, .ref p9, .int 0]))] sz)) (va_Qi (fun (r : Int32) (_ : Unit) => r = 0) (fun (_ : Unit) t => Wq D (va_A [(h0, .inr (10, [.ref b0, .int 0, .ref p0, .ref u0, .ref r0, .ref a0, .ref t0, .ref s0, .ref o0])), (a0, .inr (4, [.ref p0, .ref a1, .ref a3, .ref a4, .ref a5, .ref a6, .int 0, .int 0, .int 0, .long 0, .long 0, .long 0, .int 0, .int 0, .int 0, .int 0, .int 365, .int 0, .int 0, .int 0])), (p0, .inr (7, [.int 0, .int 365, .int 0, .int 0, .ref p1, .int 0, .ref p2, .ref p3, .ref p4, .ref p5, .int 0, .ref p6, .int 0, .ref p7, .ref p8, .ref p9, .int 0]))] sz) [] t) (va_A [(h0, .inr (10, [.ref b0, .int 0, .ref p0, .ref u0, .ref r0, .ref a0, .ref t0, .ref s0, .ref o0])), (a0, .inr (4, [.ref p0, .ref a1, .ref a3, .ref a4, .ref a5, .ref a6, .int 0, .int 0, .int 0, .long 0, .long 0, .long 0, .int 0, .int 0, .int 0, .int 0, .int 365, .int 0, .int 0, .int 0])), (p0, .inr (7, [.int 0, .int 365, .int 0, .int 0, .ref p1, .int 0, .ref p2, .ref p3, .ref p4, .ref p5, .int 0, .ref p6, .int 0, .ref p7, .ref p8, .ref p9, .int 0]))] sz)) 0 0 (va_A [(h0, .inr (10, [.ref b0, .int 0, .ref p0, .ref u0, .ref r0, .ref a0, .ref t0, .ref s0, .ref o0])), (a0, .inr (4, [.ref p0, .ref a1, .ref a3, .ref a4, .ref a5, .ref a6, .int 0, .int 0, .int 0, .long 0, .long 0, .long 0, .int 0, .int 0, .int 0, .int 0, .int 365, .int 0, .int 0, .int 0])), (p0, .inr (7, [.int 0, .int 365, .int 0, .int 0, .ref p1, .int 0, .ref p2, .ref p3, .ref p4, .ref p5, .int 0, .ref p6, .int 0, .ref p7, .ref p8, .ref p9, .int 0]))] sz) := by
  refine Met.ofW (cc := cX9_shortage) (maxL := 3) (ret := (some .int)) (by decide) rfl ?_
  intro p e s m args below meth c s₁ B hml hv
  obtain ⟨rfl, hsz, hP, hK, hD0, hC, hZ⟩ := hv
  have hx := B.exec
  have hb := B.bytes
  have hr := B.returns
  have hts := atoms_spec (ws := wsX9_shortage) B.pre
  have hown : s.vm.findClass RX9 = some m.cls := findClass_of_methodNamed B.named
  have hlocks := B.notSynchronized
  subst hsz
  have hD := hD0.self (sz := s.heap.size)
  generalize hAe : va_A [(h0, .inr (10, [.ref b0, .int 0, .ref p0, .ref u0, .ref r0, .ref a0, .ref t0, .ref s0, .ref o0])), (a0, .inr (4, [.ref p0, .ref a1, .ref a3, .ref a4, .ref a5, .ref a6, .int 0, .int 0, .int 0, .long 0, .long 0, .long 0, .int 0, .int 0, .int 0, .int 0, .int 365, .int 0, .int 0, .int 0])), (p0, .inr (7, [.int 0, .int 365, .int 0, .int 0, .ref p1, .int 0, .ref p2, .ref p3, .ref p4, .ref p5, .int 0, .ref p6, .int 0, .ref p7, .ref p8, .ref p9, .int 0]))] s.heap.size = A at hD hZ ⊢
  have hA : ∀ q : Nat, s.heap.size ≤ q → A q := fun q h => by rw [← hAe]; exact Or.inr h
  have hS : va_S A s.heap s.heap [] := va_S.rf
  have hP : va_P D vwCl [(h0, .inr (10, [.ref b0, .int 0, .ref p0, .ref u0, .ref r0, .ref a0, .ref t0, .ref s0, .ref o0])), (a0, .inr (4, [.ref p0, .ref a1, .ref a3, .ref a4, .ref a5, .ref a6, .int 0, .int 0, .int 0, .long 0, .long 0, .long 0, .int 0, .int 0, .int 0, .int 0, .int 365, .int 0, .int 0, .int 0])), (p0, .inr (7, [.int 0, .int 365, .int 0, .int 0, .ref p1, .int 0, .ref p2, .ref p3, .ref p4, .ref p5, .int 0, .ref p6, .int 0, .ref p7, .ref p8, .ref p9, .int 0]))] s.heap := hP
  have hl := lv_entry ([.ref h0]) (n := 3) (Nat.le_of_ble_eq_true rfl)
  rw [lg_entry_eq]
  generalize (lg_sl ([.ref h0]) ++ List.replicate (3 - (lg_sl ([.ref h0])).length) Slot.unset).toArray = ls at hl ⊢
  have hl : lv_has ls 3 [(0, .ref h0)] := hl
  have inX0 : ∀ w ∈ u_ws RX0 TX0 20, w ∈ wsX9_shortage := by decide +kernel
  have inX3 : ∀ w ∈ u_ws RX3 TX3 17, w ∈ wsX9_shortage := by decide +kernel
  have inX9 : ∀ w ∈ u_ws RX9 TX9 9, w ∈ wsX9_shortage := by decide +kernel
  refine lv_iconst (v := 0) hx hb dX9_shortage_0 (by decide) ?_
  refine lv_istore_n (lv' := [(1, .int 0), (0, .ref h0)]) hx hb dX9_shortage_1 rfl hl (by decide) rfl (fun ls hl => ?_)
  refine lv_iconst (v := 0) hx hb dX9_shortage_2 (by decide) ?_
  refine lv_istore_n (lv' := [(2, .int 0), (1, .int 0), (0, .ref h0)]) hx hb dX9_shortage_3 rfl hl (by decide) rfl (fun ls hl => ?_)
  refine lv_iload_n hx hb dX9_shortage_4 rfl (lv_at hl 0 rfl) ?_
  refine lv_aload_n hx hb dX9_shortage_5 rfl (lv_at hl 2 rfl) ?_
  refine va_get (D := D) (ci := 10) (v := .ref p0) (C := RX9) (T := TX9) (N := 9) hx hb hts inX9 hown hK hP 0 rfl rfl 2 (by decide) (hts (.fieldLink RX9 16 "EscrowDesk" "plan" "LEscrowDesk$Plan;") (by decide +kernel)) (fun _ h9 => h9) rfl dX9_shortage_6 ?_
  refine va_getN (D := D) (ci := 7) (v := .int 0) (C := RX3) (T := TX3) (N := 17) hx hb hts inX3 hown hK hP 2 rfl rfl 10 (by decide) (hC.f (A := _) (a := RX9) (i := 78) (b := "EscrowDesk$Plan") (n := "milestoneCount") (d := "I") (x := "EscrowDesk") (by decide +kernel)) (fun _ h9 => h9) rfl dX9_shortage_9 ?_
  refine lv_icmp_ge (tgt := 32) hx hb dX9_shortage_12 (by decide) (fun c1 => ?_) (fun c9 => absurd c9 (by decide))
  refine lv_iload_n hx hb dX9_shortage_32 rfl (lv_at hl 1 rfl) ?_
  refine lv_aload_n hx hb dX9_shortage_33 rfl (lv_at hl 2 rfl) ?_
  refine va_get (D := D) (ci := 10) (v := .ref a0) (C := RX9) (T := TX9) (N := 9) hx hb hts inX9 hown hK hP 0 rfl rfl 5 (by decide) (hts (.fieldLink RX9 35 "EscrowDesk" "account" "LEscrowDesk$Account;") (by decide +kernel)) (fun _ h9 => h9) rfl dX9_shortage_34 ?_
  refine va_getN (D := D) (ci := 4) (v := .int 0) (C := RX0) (T := TX0) (N := 20) hx hb hts inX0 hown hK hP 1 rfl rfl 8 (by decide) (hC.f (A := _) (a := RX9) (i := 93) (b := "EscrowDesk$Account") (n := "principal") (d := "I") (x := "EscrowDesk") (by decide +kernel)) (fun _ h9 => h9) rfl dX9_shortage_37 ?_
  refine lv_isub hx hb dX9_shortage_40 ?_
  refine lv_topi (fun yn2 eyn2 => ?_)
  obtain rfl : yn2 = 0 := eyn2.trans (by first | rfl | decide +kernel)
  refine lv_iconst (v := 0) hx hb dX9_shortage_41 (by decide) ?_
  refine va_mmax hx hb (by rw [hml]; exact hl.1.symm) hown (hts (.methodLink RX9 175 Lib.Math.max.name) (by decide +kernel)) (hts (.static Lib.Math.max.name) (by decide +kernel)) (hts (.initialized "java/lang/Math") (by decide +kernel)) (hts (.code Lib.Math.max.name Lib.Math.max.code 2 (some .int)) (by decide +kernel)) (Nat.le_of_ble_eq_true rfl) (Nat.le_of_ble_eq_true rfl) (Nat.le_of_ble_eq_true rfl) (Nat.le_of_ble_eq_true rfl) dX9_shortage_42 ?_
  refine lv_topi (fun yn3 eyn3 => ?_)
  obtain rfl : yn3 = 0 := eyn3.trans (by first | rfl | decide +kernel)
  have hP9 := hP.sub (ws' := []) [] rfl
  have hD9 := hD.sub (ws' := []) [] (by decide) rfl
  refine W.widen (k := 0) (n := 0) (Nat.le_of_ble_eq_true rfl) (Nat.le_of_ble_eq_true rfl) ?_
  exact W.iret (v := 0) hx hb hr (fun t ht hW => ⟨⟨0, (), rfl, rfl, by rw [ht]; exact hP9, hD9⟩, hS.F ht⟩) hS.2.2 dX9_shortage_45

set_option maxHeartbeats 4000000 in
set_option maxRecDepth 100000 in
/-- restore: nothing to undo -/
theorem c_restore (l : Launch) (D : va_G) (cA : Nat → ClassId) (sa : Nat → Nat) (s0 s1 a0 : Nat) (sz : Nat) : Met l yX1_restore wsX1_restore ({ frames := 0, cells := 0, slots := 0, locals := 0 }) (va_Pc [.ref s0, .ref a0] (Wd D cA sa [(s0, .inr (5, [.ref s1, .int 0, .int 0]))] sz)) (va_Qi (fun (r : Int32) (_ : Unit) => r = (-1)) (fun (_ : Unit) t => Wq D (va_A [(s0, .inr (5, [.ref s1, .int 0, .int 0]))] sz) [] t) (va_A [(s0, .inr (5, [.ref s1, .int 0, .int 0]))] sz)) 0 0 (va_A [(s0, .inr (5, [.ref s1, .int 0, .int 0]))] sz) := by
  refine Met.ofW (cc := cX1_restore) (maxL := 2) (ret := (some .int)) (by decide) rfl ?_
  intro p e s m args below meth c s₁ B hml hv
  obtain ⟨rfl, hsz, hP, hK, hD0, hC, hZ⟩ := hv
  have hx := B.exec
  have hb := B.bytes
  have hr := B.returns
  have hts := atoms_spec (ws := wsX1_restore) B.pre
  have hown : s.vm.findClass RX1 = some m.cls := findClass_of_methodNamed B.named
  have hlocks := B.notSynchronized
  subst hsz
  have hD := hD0.self (sz := s.heap.size)
  generalize hAe : va_A [(s0, .inr (5, [.ref s1, .int 0, .int 0]))] s.heap.size = A at hD hZ ⊢
  have hA : ∀ q : Nat, s.heap.size ≤ q → A q := fun q h => by rw [← hAe]; exact Or.inr h
  have hS : va_S A s.heap s.heap [] := va_S.rf
  have hP : va_P D vwCl [(s0, .inr (5, [.ref s1, .int 0, .int 0]))] s.heap := hP
  have hl := lv_entry ([.ref s0, .ref a0]) (n := 2) (Nat.le_of_ble_eq_true rfl)
  rw [lg_entry_eq]
  generalize (lg_sl ([.ref s0, .ref a0]) ++ List.replicate (2 - (lg_sl ([.ref s0, .ref a0])).length) Slot.unset).toArray = ls at hl ⊢
  have hl : lv_has ls 2 [(0, .ref s0), (1, .ref a0)] := hl
  have inX1 : ∀ w ∈ u_ws RX1 TX1 3, w ∈ wsX1_restore := by decide +kernel
  refine lv_aload_n hx hb dX1_restore_0 rfl (lv_at hl 0 rfl) ?_
  refine va_get (D := D) (ci := 5) (v := .int 0) (C := RX1) (T := TX1) (N := 3) hx hb hts inX1 hown hK hP 0 rfl rfl 2 (by decide) (hts (.fieldLink RX1 28 "EscrowDesk$History" "count" "I") (by decide +kernel)) (fun _ h9 => h9) rfl dX1_restore_1 ?_
  refine lv_if_ne (tgt := 9) hx hb dX1_restore_4 (by decide) (fun c9 => absurd c9 (by decide)) (fun c1 => ?_)
  refine lv_iconst (v := (-1)) hx hb dX1_restore_7 (by decide) ?_
  have hP9 := hP.sub (ws' := []) [] rfl
  have hD9 := hD.sub (ws' := []) [] (by decide) rfl
  refine W.widen (k := 0) (n := 0) (Nat.le_of_ble_eq_true rfl) (Nat.le_of_ble_eq_true rfl) ?_
  exact W.iret (v := (-1)) hx hb hr (fun t ht hW => ⟨⟨(-1), (), rfl, rfl, by rw [ht]; exact hP9, hD9⟩, hS.F ht⟩) hS.2.2 dX1_restore_8

set_option maxHeartbeats 4000000 in
set_option maxRecDepth 100000 in
/-- undo -/
theorem c_undo (l : Launch) (D : va_G) (cA : Nat → ClassId) (sa : Nat → Nat) (h0 b0 p0 u0 r0 a0 t0 s0 o0 s1 : Nat) (sz : Nat) : Met l yX9_undo wsX9_undo ({ frames := 1, cells := 0, slots := 0, locals := 21 }) (va_Pc [.ref h0] (Wd D cA sa [(h0, .inr (10, [.ref b0, .int 0, .ref p0, .ref u0, .ref r0, .ref a0, .ref t0, .ref s0, .ref o0])), (s0, .inr (5, [.ref s1, .int 0, .int 0]))] sz)) (va_Qi (fun (r : Int32) (_ : Unit) => r = (-1)) (fun (_ : Unit) t => Wq D (va_A [(h0, .inr (10, [.ref b0, .int 0, .ref p0, .ref u0, .ref r0, .ref a0, .ref t0, .ref s0, .ref o0])), (s0, .inr (5, [.ref s1, .int 0, .int 0]))] sz) [] t) (va_A [(h0, .inr (10, [.ref b0, .int 0, .ref p0, .ref u0, .ref r0, .ref a0, .ref t0, .ref s0, .ref o0])), (s0, .inr (5, [.ref s1, .int 0, .int 0]))] sz)) 0 0 (va_A [(h0, .inr (10, [.ref b0, .int 0, .ref p0, .ref u0, .ref r0, .ref a0, .ref t0, .ref s0, .ref o0])), (s0, .inr (5, [.ref s1, .int 0, .int 0]))] sz) := by
  refine Met.ofW (cc := cX9_undo) (maxL := 1) (ret := (some .int)) (by decide) rfl ?_
  intro p e s m args below meth c s₁ B hml hv
  obtain ⟨rfl, hsz, hP, hK, hD0, hC, hZ⟩ := hv
  have hx := B.exec
  have hb := B.bytes
  have hr := B.returns
  have hts := atoms_spec (ws := wsX9_undo) B.pre
  have hown : s.vm.findClass RX9 = some m.cls := findClass_of_methodNamed B.named
  have hlocks := B.notSynchronized
  subst hsz
  have hD := hD0.self (sz := s.heap.size)
  generalize hAe : va_A [(h0, .inr (10, [.ref b0, .int 0, .ref p0, .ref u0, .ref r0, .ref a0, .ref t0, .ref s0, .ref o0])), (s0, .inr (5, [.ref s1, .int 0, .int 0]))] s.heap.size = A at hD hZ ⊢
  have hA : ∀ q : Nat, s.heap.size ≤ q → A q := fun q h => by rw [← hAe]; exact Or.inr h
  have hS : va_S A s.heap s.heap [] := va_S.rf
  have hP : va_P D vwCl [(h0, .inr (10, [.ref b0, .int 0, .ref p0, .ref u0, .ref r0, .ref a0, .ref t0, .ref s0, .ref o0])), (s0, .inr (5, [.ref s1, .int 0, .int 0]))] s.heap := hP
  have hl := lv_entry ([.ref h0]) (n := 1) (Nat.le_of_ble_eq_true rfl)
  rw [lg_entry_eq]
  generalize (lg_sl ([.ref h0]) ++ List.replicate (1 - (lg_sl ([.ref h0])).length) Slot.unset).toArray = ls at hl ⊢
  have hl : lv_has ls 1 [(0, .ref h0)] := hl
  have inX9 : ∀ w ∈ u_ws RX9 TX9 9, w ∈ wsX9_undo := by decide +kernel
  refine lv_aload_n hx hb dX9_undo_0 rfl (lv_at hl 0 rfl) ?_
  refine va_get (D := D) (ci := 10) (v := .ref s0) (C := RX9) (T := TX9) (N := 9) hx hb hts inX9 hown hK hP 0 rfl rfl 7 (by decide) (hts (.fieldLink RX9 45 "EscrowDesk" "history" "LEscrowDesk$History;") (by decide +kernel)) (fun _ h9 => h9) rfl dX9_undo_1 ?_
  refine lv_aload_n hx hb dX9_undo_4 rfl (lv_at hl 0 rfl) ?_
  refine va_get (D := D) (ci := 10) (v := .ref a0) (C := RX9) (T := TX9) (N := 9) hx hb hts inX9 hown hK hP 0 rfl rfl 5 (by decide) (hts (.fieldLink RX9 35 "EscrowDesk" "account" "LEscrowDesk$Account;") (by decide +kernel)) (fun _ h9 => h9) rfl dX9_undo_5 ?_
  have hPc := hP.sub (ws' := [(s0, .inr (5, [.ref s1, .int 0, .int 0]))]) [1] rfl
  have hDc := hD.sub (ws' := [(s0, .inr (5, [.ref s1, .int 0, .int 0]))]) [1] (by decide) rfl
  have hFc := va_free (wc := [(s0, .inr (5, [.ref s1, .int 0, .int 0]))]) hD hS hA [1] rfl
  refine va_calli (va_runV (As := [.ref a0]) (rest := []) ⟨hx, hb, hml, hown, hts⟩ (c_restore l D cA sa s0 s1 a0 s.heap.size) (cwV 1 hts gX9_undo_X1_restore rfl rfl rfl (by decide +kernel) ⟨(Nat.le_of_ble_eq_true rfl), (Nat.le_of_ble_eq_true rfl)⟩) ⟨Wd.blind, va_recv hK hPc (ci := 5) (q0 := 0) rfl rfl, fun U hU hW => ⟨rfl, Wd.call hPc hDc hK hC hZ hS hFc U hU hW⟩⟩ rfl rfl hl.1 rfl (lv_room (Nat.le_of_ble_eq_true rfl)) dX9_undo_8 ⟨(Nat.le_of_ble_eq_true rfl), (Nat.le_of_ble_eq_true rfl)⟩) hS (fun q _ h => hFc q h) hFc (fun rn1 u t H1 locs ht hvm hw hB hz1 hk1 hS => ?_)
  obtain ⟨hP1, hD1⟩ := hB
  rw [ht] at hP1
  obtain ⟨hP, hD⟩ := va_join (wr := [(h0, .inr (10, [.ref b0, .int 0, .ref p0, .ref u0, .ref r0, .ref a0, .ref t0, .ref s0, .ref o0]))]) (w1 := []) hP hD [1] [0] rfl rfl (by decide) (by decide) hk1 hFc hP1 hD1
  generalize H1 = H at hP hS ⊢
  have hP : va_P D vwCl [(h0, .inr (10, [.ref b0, .int 0, .ref p0, .ref u0, .ref r0, .ref a0, .ref t0, .ref s0, .ref o0]))] H := hP
  have hD : va_D A [(h0, .inr (10, [.ref b0, .int 0, .ref p0, .ref u0, .ref r0, .ref a0, .ref t0, .ref s0, .ref o0]))] := hD
  obtain rfl : rn1 = (-1) := hw
  have hP9 := hP.sub (ws' := []) [] rfl
  have hD9 := hD.sub (ws' := []) [] (by decide) rfl
  refine W.widen (k := 0) (n := 0) (Nat.le_of_ble_eq_true rfl) (Nat.le_of_ble_eq_true rfl) ?_
  exact W.iret (v := (-1)) hx hb hr (fun t ht hW => ⟨⟨(-1), (), rfl, rfl, by rw [ht]; exact hP9, hD9⟩, hS.F ht⟩) hS.2.2 dX9_undo_11

set_option maxHeartbeats 4000000 in
set_option maxRecDepth 100000 in
/-- sumOn: no entries -/
theorem c_sumOn (l : Launch) (D : va_G) (cA : Nat → ClassId) (sa : Nat → Nat) (a1 a2 : Nat) (i j : Int32) (sz : Nat) : Met l yX2_sumOn wsX2_sumOn ({ frames := 0, cells := 0, slots := 0, locals := 0 }) (va_Pc [.ref a1, .int i, .int j] (Wd D cA sa [(a1, .inr (6, [.ref a2, .int 0, .int 0]))] sz)) (va_Qi (fun (r : Int32) (_ : Unit) => r = 0) (fun (_ : Unit) t => Wq D (va_A [(a1, .inr (6, [.ref a2, .int 0, .int 0]))] sz) [] t) (va_A [(a1, .inr (6, [.ref a2, .int 0, .int 0]))] sz)) 0 0 (va_A [(a1, .inr (6, [.ref a2, .int 0, .int 0]))] sz) := by
  refine Met.ofW (cc := cX2_sumOn) (maxL := 5) (ret := (some .int)) (by decide) rfl ?_
  intro p e s m args below meth c s₁ B hml hv
  obtain ⟨rfl, hsz, hP, hK, hD0, hC, hZ⟩ := hv
  have hx := B.exec
  have hb := B.bytes
  have hr := B.returns
  have hts := atoms_spec (ws := wsX2_sumOn) B.pre
  have hown : s.vm.findClass RX2 = some m.cls := findClass_of_methodNamed B.named
  have hlocks := B.notSynchronized
  subst hsz
  have hD := hD0.self (sz := s.heap.size)
  generalize hAe : va_A [(a1, .inr (6, [.ref a2, .int 0, .int 0]))] s.heap.size = A at hD hZ ⊢
  have hA : ∀ q : Nat, s.heap.size ≤ q → A q := fun q h => by rw [← hAe]; exact Or.inr h
  have hS : va_S A s.heap s.heap [] := va_S.rf
  have hP : va_P D vwCl [(a1, .inr (6, [.ref a2, .int 0, .int 0]))] s.heap := hP
  have hl := lv_entry ([.ref a1, .int i, .int j]) (n := 5) (Nat.le_of_ble_eq_true rfl)
  rw [lg_entry_eq]
  generalize (lg_sl ([.ref a1, .int i, .int j]) ++ List.replicate (5 - (lg_sl ([.ref a1, .int i, .int j])).length) Slot.unset).toArray = ls at hl ⊢
  have hl : lv_has ls 5 [(0, .ref a1), (1, .int i), (2, .int j)] := hl
  have inX2 : ∀ w ∈ u_ws RX2 TX2 3, w ∈ wsX2_sumOn := by decide +kernel
  refine lv_iconst (v := 0) hx hb dX2_sumOn_0 (by decide) ?_
  refine lv_istore_n (lv' := [(3, .int 0), (0, .ref a1), (1, .int i), (2, .int j)]) hx hb dX2_sumOn_1 rfl hl (by decide) rfl (fun ls hl => ?_)
  refine lv_iconst (v := 0) hx hb dX2_sumOn_2 (by decide) ?_
  refine lv_istore (lv' := [(4, .int 0), (3, .int 0), (0, .ref a1), (1, .int i), (2, .int j)]) hx hb dX2_sumOn_3 hl (by decide) rfl (fun ls hl => ?_)
  refine lv_iload hx hb dX2_sumOn_5 (lv_at hl 0 rfl) ?_
  refine lv_aload_n hx hb dX2_sumOn_7 rfl (lv_at hl 2 rfl) ?_
  refine va_get (D := D) (ci := 6) (v := .int 0) (C := RX2) (T := TX2) (N := 3) hx hb hts inX2 hown hK hP 0 rfl rfl 2 (by decide) (hts (.fieldLink RX2 19 "EscrowDesk$Ledger" "kept" "I") (by decide +kernel)) (fun _ h9 => h9) rfl dX2_sumOn_8 ?_
  refine lv_icmp_ge (tgt := 52) hx hb dX2_sumOn_11 (by decide) (fun c1 => ?_) (fun c9 => absurd c9 (by decide))
  refine lv_iload_n hx hb dX2_sumOn_52 rfl (lv_at hl 1 rfl) ?_
  have hP9 := hP.sub (ws' := []) [] rfl
  have hD9 := hD.sub (ws' := []) [] (by decide) rfl
  refine W.widen (k := 0) (n := 0) (Nat.le_of_ble_eq_true rfl) (Nat.le_of_ble_eq_true rfl) ?_
  exact W.iret (v := 0) hx hb hr (fun t ht hW => ⟨⟨0, (), rfl, rfl, by rw [ht]; exact hP9, hD9⟩, hS.F ht⟩) hS.2.2 dX2_sumOn_53

set_option maxHeartbeats 4000000 in
set_option maxRecDepth 100000 in
/-- no entries -/
theorem c_dayOfMost (l : Launch) (D : va_G) (cA : Nat → ClassId) (sa : Nat → Nat) (a1 a2 : Nat) (sz : Nat) : Met l yX2_dayOfMostPayments wsX2_dayOfMostPayments ({ frames := 0, cells := 0, slots := 0, locals := 0 }) (va_Pc [.ref a1] (Wd D cA sa [(a1, .inr (6, [.ref a2, .int 0, .int 0]))] sz)) (va_Qi (fun (r : Int32) (_ : Unit) => r = (-1)) (fun (_ : Unit) t => Wq D (va_A [(a1, .inr (6, [.ref a2, .int 0, .int 0]))] sz) [] t) (va_A [(a1, .inr (6, [.ref a2, .int 0, .int 0]))] sz)) 0 0 (va_A [(a1, .inr (6, [.ref a2, .int 0, .int 0]))] sz) := by
  refine Met.ofW (cc := cX2_dayOfMostPayments) (maxL := 7) (ret := (some .int)) (by decide) rfl ?_
  intro p e s m args below meth c s₁ B hml hv
  obtain ⟨rfl, hsz, hP, hK, hD0, hC, hZ⟩ := hv
  have hx := B.exec
  have hb := B.bytes
  have hr := B.returns
  have hts := atoms_spec (ws := wsX2_dayOfMostPayments) B.pre
  have hown : s.vm.findClass RX2 = some m.cls := findClass_of_methodNamed B.named
  have hlocks := B.notSynchronized
  subst hsz
  have hD := hD0.self (sz := s.heap.size)
  generalize hAe : va_A [(a1, .inr (6, [.ref a2, .int 0, .int 0]))] s.heap.size = A at hD hZ ⊢
  have hA : ∀ q : Nat, s.heap.size ≤ q → A q := fun q h => by rw [← hAe]; exact Or.inr h
  have hS : va_S A s.heap s.heap [] := va_S.rf
  have hP : va_P D vwCl [(a1, .inr (6, [.ref a2, .int 0, .int 0]))] s.heap := hP
  have hl := lv_entry ([.ref a1]) (n := 7) (Nat.le_of_ble_eq_true rfl)
  rw [lg_entry_eq]
  generalize (lg_sl ([.ref a1]) ++ List.replicate (7 - (lg_sl ([.ref a1])).length) Slot.unset).toArray = ls at hl ⊢
  have hl : lv_has ls 7 [(0, .ref a1)] := hl
  have inX2 : ∀ w ∈ u_ws RX2 TX2 3, w ∈ wsX2_dayOfMostPayments := by decide +kernel
  refine lv_iconst (v := (-1)) hx hb dX2_dayOfMostPayments_0 (by decide) ?_
  refine lv_istore_n (lv' := [(1, .int (-1)), (0, .ref a1)]) hx hb dX2_dayOfMostPayments_1 rfl hl (by decide) rfl (fun ls hl => ?_)
  refine lv_iconst (v := 0) hx hb dX2_dayOfMostPayments_2 (by decide) ?_
  refine lv_istore_n (lv' := [(2, .int 0), (1, .int (-1)), (0, .ref a1)]) hx hb dX2_dayOfMostPayments_3 rfl hl (by decide) rfl (fun ls hl => ?_)
  refine lv_iconst (v := (-1)) hx hb dX2_dayOfMostPayments_4 (by decide) ?_
  refine lv_istore_n (lv' := [(3, .int (-1)), (2, .int 0), (1, .int (-1)), (0, .ref a1)]) hx hb dX2_dayOfMostPayments_5 rfl hl (by decide) rfl (fun ls hl => ?_)
  refine lv_iconst (v := 0) hx hb dX2_dayOfMostPayments_6 (by decide) ?_
  refine lv_istore (lv' := [(4, .int 0), (3, .int (-1)), (2, .int 0), (1, .int (-1)), (0, .ref a1)]) hx hb dX2_dayOfMostPayments_7 hl (by decide) rfl (fun ls hl => ?_)
  refine lv_iconst (v := 0) hx hb dX2_dayOfMostPayments_9 (by decide) ?_
  refine lv_istore (lv' := [(5, .int 0), (4, .int 0), (3, .int (-1)), (2, .int 0), (1, .int (-1)), (0, .ref a1)]) hx hb dX2_dayOfMostPayments_10 hl (by decide) rfl (fun ls hl => ?_)
  refine lv_iload hx hb dX2_dayOfMostPayments_12 (lv_at hl 0 rfl) ?_
  refine lv_aload_n hx hb dX2_dayOfMostPayments_14 rfl (lv_at hl 5 rfl) ?_
  refine va_get (D := D) (ci := 6) (v := .int 0) (C := RX2) (T := TX2) (N := 3) hx hb hts inX2 hown hK hP 0 rfl rfl 2 (by decide) (hts (.fieldLink RX2 19 "EscrowDesk$Ledger" "kept" "I") (by decide +kernel)) (fun _ h9 => h9) rfl dX2_dayOfMostPayments_15 ?_
  refine lv_icmp_ge (tgt := 84) hx hb dX2_dayOfMostPayments_18 (by decide) (fun c1 => ?_) (fun c9 => absurd c9 (by decide))
  refine lv_iload_n hx hb dX2_dayOfMostPayments_84 rfl (lv_at hl 4 rfl) ?_
  have hP9 := hP.sub (ws' := []) [] rfl
  have hD9 := hD.sub (ws' := []) [] (by decide) rfl
  refine W.widen (k := 0) (n := 0) (Nat.le_of_ble_eq_true rfl) (Nat.le_of_ble_eq_true rfl) ?_
  exact W.iret (v := (-1)) hx hb hr (fun t ht hW => ⟨⟨(-1), (), rfl, rfl, by rw [ht]; exact hP9, hD9⟩, hS.F ht⟩) hS.2.2 dX2_dayOfMostPayments_85

set_option maxHeartbeats 4000000 in
set_option maxRecDepth 100000 in
/-- busiestDay -/
theorem c_busiestDay (l : Launch) (D : va_G) (cA : Nat → ClassId) (sa : Nat → Nat) (h0 b0 p0 u0 r0 a0 t0 s0 o0 a1 a3 a4 a5 a6 a2 : Nat) (sz : Nat) : Met l yX9_busiestDay wsX9_busiestDay ({ frames := 1, cells := 0, slots := 0, locals := 26 }) (va_Pc [.ref h0] (Wd D cA sa [(h0, .inr (10, [.ref b0, .int 0, .ref p0, .ref u0, .ref r0, .ref a0, .ref t0, .ref s0, .ref o0])), (a0, .inr (4, [.ref p0, .ref a1, .ref a3, .ref a4, .ref a5, .ref a6, .int 0, .int 0, .int 0, .long 0, .long 0, .long 0, .int 0, .int 0, .int 0, .int 0, .int 365, .int 0, .int 0, .int 0])), (a1, .inr (6, [.ref a2, .int 0, .int 0]))] sz)) (va_Qi (fun (r : Int32) (_ : Unit) => r = (-1)) (fun (_ : Unit) t => Wq D (va_A [(h0, .inr (10, [.ref b0, .int 0, .ref p0, .ref u0, .ref r0, .ref a0, .ref t0, .ref s0, .ref o0])), (a0, .inr (4, [.ref p0, .ref a1, .ref a3, .ref a4, .ref a5, .ref a6, .int 0, .int 0, .int 0, .long 0, .long 0, .long 0, .int 0, .int 0, .int 0, .int 0, .int 365, .int 0, .int 0, .int 0])), (a1, .inr (6, [.ref a2, .int 0, .int 0]))] sz) [] t) (va_A [(h0, .inr (10, [.ref b0, .int 0, .ref p0, .ref u0, .ref r0, .ref a0, .ref t0, .ref s0, .ref o0])), (a0, .inr (4, [.ref p0, .ref a1, .ref a3, .ref a4, .ref a5, .ref a6, .int 0, .int 0, .int 0, .long 0, .long 0, .long 0, .int 0, .int 0, .int 0, .int 0, .int 365, .int 0, .int 0, .int 0])), (a1, .inr (6, [.ref a2, .int 0, .int 0]))] sz)) 0 0 (va_A [(h0, .inr (10, [.ref b0, .int 0, .ref p0, .ref u0, .ref r0, .ref a0, .ref t0, .ref s0, .ref o0])), (a0, .inr (4, [.ref p0, .ref a1, .ref a3, .ref a4, .ref a5, .ref a6, .int 0, .int 0, .int 0, .long 0, .long 0, .long 0, .int 0, .int 0, .int 0, .int 0, .int 365, .int 0, .int 0, .int 0])), (a1, .inr (6, [.ref a2, .int 0, .int 0]))] sz) := by
  refine Met.ofW (cc := cX9_busiestDay) (maxL := 1) (ret := (some .int)) (by decide) rfl ?_
  intro p e s m args below meth c s₁ B hml hv
  obtain ⟨rfl, hsz, hP, hK, hD0, hC, hZ⟩ := hv
  have hx := B.exec
  have hb := B.bytes
  have hr := B.returns
  have hts := atoms_spec (ws := wsX9_busiestDay) B.pre
  have hown : s.vm.findClass RX9 = some m.cls := findClass_of_methodNamed B.named
  have hlocks := B.notSynchronized
  subst hsz
  have hD := hD0.self (sz := s.heap.size)
  generalize hAe : va_A [(h0, .inr (10, [.ref b0, .int 0, .ref p0, .ref u0, .ref r0, .ref a0, .ref t0, .ref s0, .ref o0])), (a0, .inr (4, [.ref p0, .ref a1, .ref a3, .ref a4, .ref a5, .ref a6, .int 0, .int 0, .int 0, .long 0, .long 0, .long 0, .int 0, .int 0, .int 0, .int 0, .int 365, .int 0, .int 0, .int 0])), (a1, .inr (6, [.ref a2, .int 0, .int 0]))] s.heap.size = A at hD hZ ⊢
  have hA : ∀ q : Nat, s.heap.size ≤ q → A q := fun q h => by rw [← hAe]; exact Or.inr h
  have hS : va_S A s.heap s.heap [] := va_S.rf
  have hP : va_P D vwCl [(h0, .inr (10, [.ref b0, .int 0, .ref p0, .ref u0, .ref r0, .ref a0, .ref t0, .ref s0, .ref o0])), (a0, .inr (4, [.ref p0, .ref a1, .ref a3, .ref a4, .ref a5, .ref a6, .int 0, .int 0, .int 0, .long 0, .long 0, .long 0, .int 0, .int 0, .int 0, .int 0, .int 365, .int 0, .int 0, .int 0])), (a1, .inr (6, [.ref a2, .int 0, .int 0]))] s.heap := hP
  have hl := lv_entry ([.ref h0]) (n := 1) (Nat.le_of_ble_eq_true rfl)
  rw [lg_entry_eq]
  generalize (lg_sl ([.ref h0]) ++ List.replicate (1 - (lg_sl ([.ref h0])).length) Slot.unset).toArray = ls at hl ⊢
  have hl : lv_has ls 1 [(0, .ref h0)] := hl
  have inX0 : ∀ w ∈ u_ws RX0 TX0 20, w ∈ wsX9_busiestDay := by decide +kernel
  have inX9 : ∀ w ∈ u_ws RX9 TX9 9, w ∈ wsX9_busiestDay := by decide +kernel
  refine lv_aload_n hx hb dX9_busiestDay_0 rfl (lv_at hl 0 rfl) ?_
  refine va_get (D := D) (ci := 10) (v := .ref a0) (C := RX9) (T := TX9) (N := 9) hx hb hts inX9 hown hK hP 0 rfl rfl 5 (by decide) (hts (.fieldLink RX9 35 "EscrowDesk" "account" "LEscrowDesk$Account;") (by decide +kernel)) (fun _ h9 => h9) rfl dX9_busiestDay_1 ?_
  refine va_getN (D := D) (ci := 4) (v := .ref a1) (C := RX0) (T := TX0) (N := 20) hx hb hts inX0 hown hK hP 1 rfl rfl 1 (by decide) (hC.f (A := _) (a := RX9) (i := 347) (b := "EscrowDesk$Account") (n := "ledger") (d := "LEscrowDesk$Ledger;") (x := "EscrowDesk") (by decide +kernel)) (fun _ h9 => h9) rfl dX9_busiestDay_4 ?_
  have hPc := hP.sub (ws' := [(a1, .inr (6, [.ref a2, .int 0, .int 0]))]) [2] rfl
  have hDc := hD.sub (ws' := [(a1, .inr (6, [.ref a2, .int 0, .int 0]))]) [2] (by decide) rfl
  have hFc := va_free (wc := [(a1, .inr (6, [.ref a2, .int 0, .int 0]))]) hD hS hA [2] rfl
  refine va_calli (va_runV (As := []) (rest := []) ⟨hx, hb, hml, hown, hts⟩ (c_dayOfMost l D cA sa a1 a2 s.heap.size) (cwV 0 hts gX9_busiestDay_X2_dayOfMostPayments rfl rfl rfl (by decide +kernel) ⟨(Nat.le_of_ble_eq_true rfl), (Nat.le_of_ble_eq_true rfl)⟩) ⟨Wd.blind, va_recv hK hPc (ci := 6) (q0 := 0) rfl rfl, fun U hU hW => ⟨rfl, Wd.call hPc hDc hK hC hZ hS hFc U hU hW⟩⟩ rfl rfl hl.1 rfl (lv_room (Nat.le_of_ble_eq_true rfl)) dX9_busiestDay_7 ⟨(Nat.le_of_ble_eq_true rfl), (Nat.le_of_ble_eq_true rfl)⟩) hS (fun q _ h => hFc q h) hFc (fun rn1 u t H1 locs ht hvm hw hB hz1 hk1 hS => ?_)
  obtain ⟨hP1, hD1⟩ := hB
  rw [ht] at hP1
  obtain ⟨hP, hD⟩ := va_join (wr := [(h0, .inr (10, [.ref b0, .int 0, .ref p0, .ref u0, .ref r0, .ref a0, .ref t0, .ref s0, .ref o0])), (a0, .inr (4, [.ref p0, .ref a1, .ref a3, .ref a4, .ref a5, .ref a6, .int 0, .int 0, .int 0, .long 0, .long 0, .long 0, .int 0, .int 0, .int 0, .int 0, .int 365, .int 0, .int 0, .int 0]))]) (w1 := []) hP hD [2] [0, 1] rfl rfl (by decide) (by decide) hk1 hFc hP1 hD1
  generalize H1 = H at hP hS ⊢
  have hP : va_P D vwCl [(h0, .inr (10, [.ref b0, .int 0, .ref p0, .ref u0, .ref r0, .ref a0, .ref t0, .ref s0, .ref o0])), (a0, .inr (4, [.ref p0, .ref a1, .ref a3, .ref a4, .ref a5, .ref a6, .int 0, .int 0, .int 0, .long 0, .long 0, .long 0, .int 0, .int 0, .int 0, .int 0, .int 365, .int 0, .int 0, .int 0]))] H := hP
  have hD : va_D A [(h0, .inr (10, [.ref b0, .int 0, .ref p0, .ref u0, .ref r0, .ref a0, .ref t0, .ref s0, .ref o0])), (a0, .inr (4, [.ref p0, .ref a1, .ref a3, .ref a4, .ref a5, .ref a6, .int 0, .int 0, .int 0, .long 0, .long 0, .long 0, .int 0, .int 0, .int 0, .int 0, .int 365, .int 0, .int 0, .int 0]))] := hD
  obtain rfl : rn1 = (-1) := hw
  have hP9 := hP.sub (ws' := []) [] rfl
  have hD9 := hD.sub (ws' := []) [] (by decide) rfl
  refine W.widen (k := 0) (n := 0) (Nat.le_of_ble_eq_true rfl) (Nat.le_of_ble_eq_true rfl) ?_
  exact W.iret (v := (-1)) hx hb hr (fun t ht hW => ⟨⟨(-1), (), rfl, rfl, by rw [ht]; exact hP9, hD9⟩, hS.F ht⟩) hS.2.2 dX9_busiestDay_10

set_option maxHeartbeats 4000000 in
set_option maxRecDepth 100000 in
/-- totalOn within -/
theorem c_totalOn_ret (l : Launch) (D : va_G) (cA : Nat → ClassId) (sa : Nat → Nat) (h0 b0 p0 u0 r0 a0 t0 s0 o0 a1 a3 a4 a5 a6 a2 : Nat) (i j : Int32) (sz : Nat) (h1 : ¬ j < 0) (h2 : ¬ 4 < j) : Met l yX9_totalOn wsX9_totalOn ({ frames := 1, cells := 0, slots := 0, locals := 24 }) (va_Pc [.ref h0, .int i, .int j] (Wd D cA sa [(h0, .inr (10, [.ref b0, .int 0, .ref p0, .ref u0, .ref r0, .ref a0, .ref t0, .ref s0, .ref o0])), (a0, .inr (4, [.ref p0, .ref a1, .ref a3, .ref a4, .ref a5, .ref a6, .int 0, .int 0, .int 0, .long 0, .long 0, .long 0, .int 0, .int 0, .int 0, .int 0, .int 365, .int 0, .int 0, .int 0])), (a1, .inr (6, [.ref a2, .int 0, .int 0]))] sz)) (va_Qi (fun (r : Int32) (_ : Unit) => r = 0) (fun (_ : Unit) t => Wq D (va_A [(h0, .inr (10, [.ref b0, .int 0, .ref p0, .ref u0, .ref r0, .ref a0, .ref t0, .ref s0, .ref o0])), (a0, .inr (4, [.ref p0, .ref a1, .ref a3, .ref a4, .ref a5, .ref a6, .int 0, .int 0, .int 0, .long 0, .long 0, .long 0, .int 0, .int 0, .int 0, .int 0, .int 365, .int 0, .int 0, .int 0])), (a1, .inr (6, [.ref a2, .int 0, .int 0]))] sz) [] t) (va_A [(h0, .inr (10, [.ref b0, .int 0, .ref p0, .ref u0, .ref r0, .ref a0, .ref t0, .ref s0, .ref o0])), (a0, .inr (4, [.ref p0, .ref a1, .ref a3, .ref a4, .ref a5, .ref a6, .int 0, .int 0, .int 0, .long 0, .long 0, .long 0, .int 0, .int 0, .int 0, .int 0, .int 365, .int 0, .int 0, .int 0])), (a1, .inr (6, [.ref a2, .int 0, .int 0]))] sz)) 0 0 (va_A [(h0, .inr (10, [.ref b0, .int 0, .ref p0, .ref u0, .ref r0, .ref a0, .ref t0, .ref s0, .ref o0])), (a0, .inr (4, [.ref p0, .ref a1, .ref a3, .ref a4, .ref a5, .ref a6, .int 0, .int 0, .int 0, .long 0, .long 0, .long 0, .int 0, .int 0, .int 0, .int 0, .int 365, .int 0, .int 0, .int 0])), (a1, .inr (6, [.ref a2, .int 0, .int 0]))] sz) := by
  refine Met.ofW (cc := cX9_totalOn) (maxL := 3) (ret := (some .int)) (by decide) rfl ?_
  intro p e s m args below meth c s₁ B hml hv
  obtain ⟨rfl, hsz, hP, hK, hD0, hC, hZ⟩ := hv
  have hx := B.exec
  have hb := B.bytes
  have hr := B.returns
  have hts := atoms_spec (ws := wsX9_totalOn) B.pre
  have hown : s.vm.findClass RX9 = some m.cls := findClass_of_methodNamed B.named
  have hlocks := B.notSynchronized
  subst hsz
  have hD := hD0.self (sz := s.heap.size)
  generalize hAe : va_A [(h0, .inr (10, [.ref b0, .int 0, .ref p0, .ref u0, .ref r0, .ref a0, .ref t0, .ref s0, .ref o0])), (a0, .inr (4, [.ref p0, .ref a1, .ref a3, .ref a4, .ref a5, .ref a6, .int 0, .int 0, .int 0, .long 0, .long 0, .long 0, .int 0, .int 0, .int 0, .int 0, .int 365, .int 0, .int 0, .int 0])), (a1, .inr (6, [.ref a2, .int 0, .int 0]))] s.heap.size = A at hD hZ ⊢
  have hA : ∀ q : Nat, s.heap.size ≤ q → A q := fun q h => by rw [← hAe]; exact Or.inr h
  have hS : va_S A s.heap s.heap [] := va_S.rf
  have hP : va_P D vwCl [(h0, .inr (10, [.ref b0, .int 0, .ref p0, .ref u0, .ref r0, .ref a0, .ref t0, .ref s0, .ref o0])), (a0, .inr (4, [.ref p0, .ref a1, .ref a3, .ref a4, .ref a5, .ref a6, .int 0, .int 0, .int 0, .long 0, .long 0, .long 0, .int 0, .int 0, .int 0, .int 0, .int 365, .int 0, .int 0, .int 0])), (a1, .inr (6, [.ref a2, .int 0, .int 0]))] s.heap := hP
  have hl := lv_entry ([.ref h0, .int i, .int j]) (n := 3) (Nat.le_of_ble_eq_true rfl)
  rw [lg_entry_eq]
  generalize (lg_sl ([.ref h0, .int i, .int j]) ++ List.replicate (3 - (lg_sl ([.ref h0, .int i, .int j])).length) Slot.unset).toArray = ls at hl ⊢
  have hl : lv_has ls 3 [(0, .ref h0), (1, .int i), (2, .int j)] := hl
  have inX0 : ∀ w ∈ u_ws RX0 TX0 20, w ∈ wsX9_totalOn := by decide +kernel
  have inX9 : ∀ w ∈ u_ws RX9 TX9 9, w ∈ wsX9_totalOn := by decide +kernel
  refine lv_iload_n hx hb dX9_totalOn_0 rfl (lv_at hl 2 rfl) ?_
  refine lv_iconst (v := 0) hx hb dX9_totalOn_1 (by decide) ?_
  refine lv_iconst (v := 4) hx hb dX9_totalOn_2 (by decide) ?_
  have hPc := hP.sub (ws' := []) [] rfl
  have hDc := hD.sub (ws' := []) [] (by decide) rfl
  have hFc := va_free (wc := []) hD hS hA [] rfl
  refine va_callv (va_runS (As := [.int j, .int 0, .int 4]) (rest := []) ⟨hx, hb, hml, hown, hts⟩ (c_needRange_ret l D cA sa j 0 4 s.heap.size h1 h2) (va_cwS 3 hts gX9_totalOn_X9_needRange rfl rfl rfl (by decide +kernel) ⟨(Nat.le_of_ble_eq_true rfl), (Nat.le_of_ble_eq_true rfl)⟩) ⟨Wd.blind, fun U hU hW => ⟨rfl, Wd.call hPc hDc hK hC hZ hS hFc U hU hW⟩⟩ rfl rfl hl.1 rfl (lv_room (Nat.le_of_ble_eq_true rfl)) dX9_totalOn_3 ⟨(Nat.le_of_ble_eq_true rfl), (Nat.le_of_ble_eq_true rfl)⟩) hS (fun q _ h => hFc q h) hFc (fun u t H1 locs ht hvm hw hB hz1 hk1 hS => ?_)
  obtain ⟨hP1, hD1⟩ := hB
  rw [ht] at hP1
  obtain ⟨hP, hD⟩ := va_join (wr := [(h0, .inr (10, [.ref b0, .int 0, .ref p0, .ref u0, .ref r0, .ref a0, .ref t0, .ref s0, .ref o0])), (a0, .inr (4, [.ref p0, .ref a1, .ref a3, .ref a4, .ref a5, .ref a6, .int 0, .int 0, .int 0, .long 0, .long 0, .long 0, .int 0, .int 0, .int 0, .int 0, .int 365, .int 0, .int 0, .int 0])), (a1, .inr (6, [.ref a2, .int 0, .int 0]))]) (w1 := []) hP hD [] [0, 1, 2] rfl rfl (by decide) (by decide) hk1 hFc hP1 hD1
  generalize H1 = H at hP hS ⊢
  have hP : va_P D vwCl [(h0, .inr (10, [.ref b0, .int 0, .ref p0, .ref u0, .ref r0, .ref a0, .ref t0, .ref s0, .ref o0])), (a0, .inr (4, [.ref p0, .ref a1, .ref a3, .ref a4, .ref a5, .ref a6, .int 0, .int 0, .int 0, .long 0, .long 0, .long 0, .int 0, .int 0, .int 0, .int 0, .int 365, .int 0, .int 0, .int 0])), (a1, .inr (6, [.ref a2, .int 0, .int 0]))] H := hP
  have hD : va_D A [(h0, .inr (10, [.ref b0, .int 0, .ref p0, .ref u0, .ref r0, .ref a0, .ref t0, .ref s0, .ref o0])), (a0, .inr (4, [.ref p0, .ref a1, .ref a3, .ref a4, .ref a5, .ref a6, .int 0, .int 0, .int 0, .long 0, .long 0, .long 0, .int 0, .int 0, .int 0, .int 0, .int 365, .int 0, .int 0, .int 0])), (a1, .inr (6, [.ref a2, .int 0, .int 0]))] := hD
  refine lv_aload_n hx hb dX9_totalOn_6 rfl (lv_at hl 0 rfl) ?_
  refine va_get (D := D) (ci := 10) (v := .ref a0) (C := RX9) (T := TX9) (N := 9) hx hb hts inX9 hown hK hP 0 rfl rfl 5 (by decide) (hts (.fieldLink RX9 35 "EscrowDesk" "account" "LEscrowDesk$Account;") (by decide +kernel)) (fun _ h9 => h9) rfl dX9_totalOn_7 ?_
  refine va_getN (D := D) (ci := 4) (v := .ref a1) (C := RX0) (T := TX0) (N := 20) hx hb hts inX0 hown hK hP 1 rfl rfl 1 (by decide) (hC.f (A := _) (a := RX9) (i := 347) (b := "EscrowDesk$Account") (n := "ledger") (d := "LEscrowDesk$Ledger;") (x := "EscrowDesk") (by decide +kernel)) (fun _ h9 => h9) rfl dX9_totalOn_10 ?_
  refine lv_iload_n hx hb dX9_totalOn_13 rfl (lv_at hl 1 rfl) ?_
  refine lv_iload_n hx hb dX9_totalOn_14 rfl (lv_at hl 2 rfl) ?_
  have hPc := hP.sub (ws' := [(a1, .inr (6, [.ref a2, .int 0, .int 0]))]) [2] rfl
  have hDc := hD.sub (ws' := [(a1, .inr (6, [.ref a2, .int 0, .int 0]))]) [2] (by decide) rfl
  have hFc := va_free (wc := [(a1, .inr (6, [.ref a2, .int 0, .int 0]))]) hD hS hA [2] rfl
  refine va_calli (va_runV (As := [.int i, .int j]) (rest := []) ⟨hx, hb, hml, hown, hts⟩ (c_sumOn l D cA sa a1 a2 i j H.size) (cwV 2 hts gX9_totalOn_X2_sumOn rfl rfl rfl (by decide +kernel) ⟨(Nat.le_of_ble_eq_true rfl), (Nat.le_of_ble_eq_true rfl)⟩) ⟨Wd.blind, va_recv hK hPc (ci := 6) (q0 := 0) rfl rfl, fun U hU hW => ⟨rfl, Wd.call hPc hDc hK hC hZ hS hFc U hU hW⟩⟩ rfl rfl hl.1 rfl (lv_room (Nat.le_of_ble_eq_true rfl)) dX9_totalOn_15 ⟨(Nat.le_of_ble_eq_true rfl), (Nat.le_of_ble_eq_true rfl)⟩) hS (fun q _ h => hFc q h) hFc (fun rn1 u t H1 locs ht hvm hw hB hz1 hk1 hS => ?_)
  obtain ⟨hP1, hD1⟩ := hB
  rw [ht] at hP1
  obtain ⟨hP, hD⟩ := va_join (wr := [(h0, .inr (10, [.ref b0, .int 0, .ref p0, .ref u0, .ref r0, .ref a0, .ref t0, .ref s0, .ref o0])), (a0, .inr (4, [.ref p0, .ref a1, .ref a3, .ref a4, .ref a5, .ref a6, .int 0, .int 0, .int 0, .long 0, .long 0, .long 0, .int 0, .int 0, .int 0, .int 0, .int 365, .int 0, .int 0, .int 0]))]) (w1 := []) hP hD [2] [0, 1] rfl rfl (by decide) (by decide) hk1 hFc hP1 hD1
  generalize H1 = H at hP hS ⊢
  have hP : va_P D vwCl [(h0, .inr (10, [.ref b0, .int 0, .ref p0, .ref u0, .ref r0, .ref a0, .ref t0, .ref s0, .ref o0])), (a0, .inr (4, [.ref p0, .ref a1, .ref a3, .ref a4, .ref a5, .ref a6, .int 0, .int 0, .int 0, .long 0, .long 0, .long 0, .int 0, .int 0, .int 0, .int 0, .int 365, .int 0, .int 0, .int 0]))] H := hP
  have hD : va_D A [(h0, .inr (10, [.ref b0, .int 0, .ref p0, .ref u0, .ref r0, .ref a0, .ref t0, .ref s0, .ref o0])), (a0, .inr (4, [.ref p0, .ref a1, .ref a3, .ref a4, .ref a5, .ref a6, .int 0, .int 0, .int 0, .long 0, .long 0, .long 0, .int 0, .int 0, .int 0, .int 0, .int 365, .int 0, .int 0, .int 0]))] := hD
  obtain rfl : rn1 = 0 := hw
  have hP9 := hP.sub (ws' := []) [] rfl
  have hD9 := hD.sub (ws' := []) [] (by decide) rfl
  refine W.widen (k := 0) (n := 0) (Nat.le_of_ble_eq_true rfl) (Nat.le_of_ble_eq_true rfl) ?_
  exact W.iret (v := 0) hx hb hr (fun t ht hW => ⟨⟨0, (), rfl, rfl, by rw [ht]; exact hP9, hD9⟩, hS.F ht⟩) hS.2.2 dX9_totalOn_18

set_option maxHeartbeats 4000000 in
set_option maxRecDepth 100000 in
/-- totalOn outside -/
theorem c_totalOn_thr (l : Launch) (D : va_G) (cA : Nat → ClassId) (sa : Nat → Nat) (h0 b0 p0 u0 r0 a0 t0 s0 o0 a1 a3 a4 a5 a6 a2 : Nat) (i j : Int32) (sz : Nat) (hl9 : l.stackTraces = false) (h : j < 0 ∨ 4 < j) : vx_Met l yX9_totalOn wsX9_totalOn ({ frames := 7, cells := 1, slots := 6, locals := 112 }) (va_Pc [.ref h0, .int i, .int j] (Wd D cA sa [(h0, .inr (10, [.ref b0, .int 0, .ref p0, .ref u0, .ref r0, .ref a0, .ref t0, .ref s0, .ref o0])), (a0, .inr (4, [.ref p0, .ref a1, .ref a3, .ref a4, .ref a5, .ref a6, .int 0, .int 0, .int 0, .long 0, .long 0, .long 0, .int 0, .int 0, .int 0, .int 0, .int 365, .int 0, .int 0, .int 0])), (a1, .inr (6, [.ref a2, .int 0, .int 0]))] sz)) (va_Qi (fun (_ : Int32) (_ : Unit) => False) (fun (_ : Unit) _ => True) (va_A [(h0, .inr (10, [.ref b0, .int 0, .ref p0, .ref u0, .ref r0, .ref a0, .ref t0, .ref s0, .ref o0])), (a0, .inr (4, [.ref p0, .ref a1, .ref a3, .ref a4, .ref a5, .ref a6, .int 0, .int 0, .int 0, .long 0, .long 0, .long 0, .int 0, .int 0, .int 0, .int 0, .int 365, .int 0, .int 0, .int 0])), (a1, .inr (6, [.ref a2, .int 0, .int 0]))] sz)) (vx_X (fun _ : Unit => True) (fun E _ _ => E = "java/lang/IllegalArgumentException") (va_A [(h0, .inr (10, [.ref b0, .int 0, .ref p0, .ref u0, .ref r0, .ref a0, .ref t0, .ref s0, .ref o0])), (a0, .inr (4, [.ref p0, .ref a1, .ref a3, .ref a4, .ref a5, .ref a6, .int 0, .int 0, .int 0, .long 0, .long 0, .long 0, .int 0, .int 0, .int 0, .int 0, .int 365, .int 0, .int 0, .int 0])), (a1, .inr (6, [.ref a2, .int 0, .int 0]))] sz)) 1 6 (va_A [(h0, .inr (10, [.ref b0, .int 0, .ref p0, .ref u0, .ref r0, .ref a0, .ref t0, .ref s0, .ref o0])), (a0, .inr (4, [.ref p0, .ref a1, .ref a3, .ref a4, .ref a5, .ref a6, .int 0, .int 0, .int 0, .long 0, .long 0, .long 0, .int 0, .int 0, .int 0, .int 0, .int 365, .int 0, .int 0, .int 0])), (a1, .inr (6, [.ref a2, .int 0, .int 0]))] sz) := by
  refine vx_ofW (cc := cX9_totalOn) (maxL := 3) (ret := (some .int)) (by decide) rfl ?_
  intro p e s m args below meth c s₁ B hml hno hv
  obtain ⟨rfl, hsz, hP, hK, hD0, hC, hZ⟩ := hv
  have hx := B.exec
  have hb := B.bytes
  have hr := B.returns
  have hts := atoms_spec (ws := wsX9_totalOn) B.pre
  have hown : s.vm.findClass RX9 = some m.cls := findClass_of_methodNamed B.named
  have hlocks := B.notSynchronized
  subst hsz
  have hD := hD0.self (sz := s.heap.size)
  generalize hAe : va_A [(h0, .inr (10, [.ref b0, .int 0, .ref p0, .ref u0, .ref r0, .ref a0, .ref t0, .ref s0, .ref o0])), (a0, .inr (4, [.ref p0, .ref a1, .ref a3, .ref a4, .ref a5, .ref a6, .int 0, .int 0, .int 0, .long 0, .long 0, .long 0, .int 0, .int 0, .int 0, .int 0, .int 365, .int 0, .int 0, .int 0])), (a1, .inr (6, [.ref a2, .int 0, .int 0]))] s.heap.size = A at hD hZ ⊢
  have hA : ∀ q : Nat, s.heap.size ≤ q → A q := fun q h => by rw [← hAe]; exact Or.inr h
  have hS : va_S A s.heap s.heap [] := va_S.rf
  have hP : va_P D vwCl [(h0, .inr (10, [.ref b0, .int 0, .ref p0, .ref u0, .ref r0, .ref a0, .ref t0, .ref s0, .ref o0])), (a0, .inr (4, [.ref p0, .ref a1, .ref a3, .ref a4, .ref a5, .ref a6, .int 0, .int 0, .int 0, .long 0, .long 0, .long 0, .int 0, .int 0, .int 0, .int 0, .int 365, .int 0, .int 0, .int 0])), (a1, .inr (6, [.ref a2, .int 0, .int 0]))] s.heap := hP
  have hl := lv_entry ([.ref h0, .int i, .int j]) (n := 3) (Nat.le_of_ble_eq_true rfl)
  rw [lg_entry_eq]
  generalize (lg_sl ([.ref h0, .int i, .int j]) ++ List.replicate (3 - (lg_sl ([.ref h0, .int i, .int j])).length) Slot.unset).toArray = ls at hl ⊢
  have hl : lv_has ls 3 [(0, .ref h0), (1, .int i), (2, .int j)] := hl
  refine lv_iload_n hx hb dX9_totalOn_0 rfl (lv_at hl 2 rfl) ?_
  refine lv_iconst (v := 0) hx hb dX9_totalOn_1 (by decide) ?_
  refine lv_iconst (v := 4) hx hb dX9_totalOn_2 (by decide) ?_
  have hPc := hP.sub (ws' := []) [] rfl
  have hDc := hD.sub (ws' := []) [] (by decide) rfl
  have hFc := va_free (wc := []) hD hS hA [] rfl
  refine vx_callv (vx_runS (As := [.int j, .int 0, .int 4]) (rest := []) ⟨hx, hb, hml, hown, hts⟩ (c_needRange_thr l D cA sa j 0 4 s.heap.size hl9 h) (va_cwS 3 hts gX9_totalOn_X9_needRange rfl rfl rfl (by decide +kernel) ⟨(Nat.le_of_ble_eq_true rfl), (Nat.le_of_ble_eq_true rfl)⟩) ⟨Wd.blind, fun U hU hW => ⟨rfl, Wd.call hPc hDc hK hC hZ hS hFc U hU hW⟩⟩ rfl rfl hl.1 rfl (lv_room (Nat.le_of_ble_eq_true rfl)) dX9_totalOn_3 ⟨(Nat.le_of_ble_eq_true rfl), (Nat.le_of_ble_eq_true rfl)⟩) hS (fun q _ h => hFc q h) hFc (fun q _ h => hFc q h) (fun E ce q9 u t H1 locs ht hvm hpx hE hz1 hk1 hS hcell hv9 hcl => ?_) (fun u t H1 locs ht hvm hw hB hz1 hk1 hS => hw.elim)
  exact vx_out (fun x h => (hno x h).elim) hlocks hcell hv9 hcl (fun t ht hvm => ⟨(), trivial, hE, hS.F ht⟩) hS.2.2 (Nat.le_of_ble_eq_true rfl) (Nat.le_of_ble_eq_true rfl)
