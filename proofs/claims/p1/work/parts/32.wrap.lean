set_option maxHeartbeats 4000000 in
set_option maxRecDepth 100000 in
/-- the wrapper of state -/
theorem c_L_state_thr (l : Launch) (D : va_G) (cA : Nat → ClassId) (sa : Nat → Nat) (h0 b0 p0 u0 r0 a0 t0 s0 o0 p1 p2 p3 p4 p5 p6 p7 p8 p9 : Nat) (i : Int32) (oo : Nat) (fo : Nat → Int64) (sz : Nat) (hl9 : l.stackTraces = false) : Met l yL_state wsL_state ({ frames := 9, cells := 1, slots := 6, locals := 153 }) (va_Pc [.ref h0, .int i, .ref oo] (Wd D cA sa [(h0, .inr (10, [.ref b0, .int 0, .ref p0, .ref u0, .ref r0, .ref a0, .ref t0, .ref s0, .ref o0])), (p0, .inr (7, [.int 0, .int 365, .int 0, .int 0, .ref p1, .int 0, .ref p2, .ref p3, .ref p4, .ref p5, .int 0, .ref p6, .int 0, .ref p7, .ref p8, .ref p9, .int 0])), (oo, .inl (cA 1, 1, .inr (.inl fo)))] sz)) (va_Qi (fun (r : Int32) (_ : Unit) => r = 1) (fun (_ : Unit) t => Wq D (va_A [(h0, .inr (10, [.ref b0, .int 0, .ref p0, .ref u0, .ref r0, .ref a0, .ref t0, .ref s0, .ref o0])), (p0, .inr (7, [.int 0, .int 365, .int 0, .int 0, .ref p1, .int 0, .ref p2, .ref p3, .ref p4, .ref p5, .int 0, .ref p6, .int 0, .ref p7, .ref p8, .ref p9, .int 0])), (oo, .inl (cA 1, 1, .inr (.inl fo)))] sz) [] t) (va_A [(h0, .inr (10, [.ref b0, .int 0, .ref p0, .ref u0, .ref r0, .ref a0, .ref t0, .ref s0, .ref o0])), (p0, .inr (7, [.int 0, .int 365, .int 0, .int 0, .ref p1, .int 0, .ref p2, .ref p3, .ref p4, .ref p5, .int 0, .ref p6, .int 0, .ref p7, .ref p8, .ref p9, .int 0])), (oo, .inl (cA 1, 1, .inr (.inl fo)))] sz)) 1 6 (va_A [(h0, .inr (10, [.ref b0, .int 0, .ref p0, .ref u0, .ref r0, .ref a0, .ref t0, .ref s0, .ref o0])), (p0, .inr (7, [.int 0, .int 365, .int 0, .int 0, .ref p1, .int 0, .ref p2, .ref p3, .ref p4, .ref p5, .int 0, .ref p6, .int 0, .ref p7, .ref p8, .ref p9, .int 0])), (oo, .inl (cA 1, 1, .inr (.inl fo)))] sz) := by
  refine va_MetW (cc := cL_state) (maxL := 4) (ret := (some .int)) (hh := [(0, 9, 12, 18)]) (by decide) rfl ?_
  intro p e s m args below meth c s₁ B hml hv
  obtain ⟨rfl, hsz, hP, hK, hD0, hC, hZ⟩ := hv
  have hx := B.exec
  have hb := B.bytes
  have hr := B.returns
  have hts := atoms_spec (ws := wsL_state) B.pre
  have hown : s.vm.findClass RL = some m.cls := findClass_of_methodNamed B.named
  have hlocks := B.notSynchronized
  have htab := vx_table (x := yL_state) B (hts (.codeWith yL_state cL_state 4 (some .int) [(0, 9, 12, 18)]) List.mem_cons_self)
  subst hsz
  have hD := hD0.self (sz := s.heap.size)
  generalize hAe : va_A [(h0, .inr (10, [.ref b0, .int 0, .ref p0, .ref u0, .ref r0, .ref a0, .ref t0, .ref s0, .ref o0])), (p0, .inr (7, [.int 0, .int 365, .int 0, .int 0, .ref p1, .int 0, .ref p2, .ref p3, .ref p4, .ref p5, .int 0, .ref p6, .int 0, .ref p7, .ref p8, .ref p9, .int 0])), (oo, .inl (cA 1, 1, .inr (.inl fo)))] s.heap.size = A at hD hZ ⊢
  have hA : ∀ q : Nat, s.heap.size ≤ q → A q := fun q h => by rw [← hAe]; exact Or.inr h
  have hS : va_S A s.heap s.heap [] := va_S.rf
  have hP : va_P D vwCl [(h0, .inr (10, [.ref b0, .int 0, .ref p0, .ref u0, .ref r0, .ref a0, .ref t0, .ref s0, .ref o0])), (p0, .inr (7, [.int 0, .int 365, .int 0, .int 0, .ref p1, .int 0, .ref p2, .ref p3, .ref p4, .ref p5, .int 0, .ref p6, .int 0, .ref p7, .ref p8, .ref p9, .int 0])), (oo, .inl (cA 1, 1, .inr (.inl fo)))] s.heap := hP
  have hl := lv_entry ([.ref h0, .int i, .ref oo]) (n := 4) (Nat.le_of_ble_eq_true rfl)
  rw [lg_entry_eq]
  generalize (lg_sl ([.ref h0, .int i, .ref oo]) ++ List.replicate (4 - (lg_sl ([.ref h0, .int i, .ref oo])).length) Slot.unset).toArray = ls at hl ⊢
  have hl : lv_has ls 4 [(0, .ref h0), (1, .int i), (2, .ref oo)] := hl
  refine lv_aload_n hx hb dL_state_0 rfl (lv_at hl 2 rfl) ?_
  refine lv_iconst (v := 0) hx hb dL_state_1 (by decide) ?_
  refine lv_aload_n hx hb dL_state_2 rfl (lv_at hl 0 rfl) ?_
  refine lv_iload_n hx hb dL_state_3 rfl (lv_at hl 1 rfl) ?_
  have hPc := hP.sub (ws' := [(h0, .inr (10, [.ref b0, .int 0, .ref p0, .ref u0, .ref r0, .ref a0, .ref t0, .ref s0, .ref o0])), (p0, .inr (7, [.int 0, .int 365, .int 0, .int 0, .ref p1, .int 0, .ref p2, .ref p3, .ref p4, .ref p5, .int 0, .ref p6, .int 0, .ref p7, .ref p8, .ref p9, .int 0]))]) [0, 1] rfl
  have hDc := hD.sub (ws' := [(h0, .inr (10, [.ref b0, .int 0, .ref p0, .ref u0, .ref r0, .ref a0, .ref t0, .ref s0, .ref o0])), (p0, .inr (7, [.int 0, .int 365, .int 0, .int 0, .ref p1, .int 0, .ref p2, .ref p3, .ref p4, .ref p5, .int 0, .ref p6, .int 0, .ref p7, .ref p8, .ref p9, .int 0]))]) [0, 1] (by decide) rfl
  have hFc := va_free (wc := [(h0, .inr (10, [.ref b0, .int 0, .ref p0, .ref u0, .ref r0, .ref a0, .ref t0, .ref s0, .ref o0])), (p0, .inr (7, [.int 0, .int 365, .int 0, .int 0, .ref p1, .int 0, .ref p2, .ref p3, .ref p4, .ref p5, .int 0, .ref p6, .int 0, .ref p7, .ref p8, .ref p9, .int 0]))]) hD hS hA [0, 1] rfl
  refine vx_calli (vx_runV (As := [.int i]) (rest := [.int 0, .ref oo]) ⟨hx, hb, hml, hown, hts⟩ (c_state_thr l D cA sa h0 b0 p0 u0 r0 a0 t0 s0 o0 p1 p2 p3 p4 p5 p6 p7 p8 p9 i s.heap.size hl9) (cwV 1 hts gL_state_X9_state rfl rfl rfl (by decide +kernel) ⟨(Nat.le_of_ble_eq_true rfl), (Nat.le_of_ble_eq_true rfl)⟩) ⟨Wd.blind, va_recv hK hPc (ci := 10) (q0 := 0) rfl rfl, fun U hU hW => ⟨rfl, Wd.call hPc hDc hK hC hZ hS hFc U hU hW⟩⟩ rfl rfl hl.1 rfl (lv_room (Nat.le_of_ble_eq_true rfl)) dL_state_4 ⟨(Nat.le_of_ble_eq_true rfl), (Nat.le_of_ble_eq_true rfl)⟩) hS (fun q _ h => hFc q h) hFc (fun q _ h => hFc q h) (fun E ce q9 u t H1 locs ht hvm hpx hE hz1 hk1 hS hcell hv9 hcl => ?_) (fun r9 u t H1 locs ht hvm hw hB hz1 hk1 hS => hw.elim)
  have hE : E = "java/lang/IndexOutOfBoundsException" := hE
  subst hE
  refine vx_catch hown [] ⟨0, 9, 12, 18⟩ (tableOf []) (htab.trans rfl) (fun z h => absurd h List.not_mem_nil) (by decide) (by decide) (name := "java/lang/IndexOutOfBoundsException") (hts (.classLink RL 18 "java/lang/IndexOutOfBoundsException") (by decide +kernel)) (hC.c (by decide +kernel)) hcell hv9 hcl ?_
  generalize H1 = H at hS ⊢
  have hP : va_P D vwCl [] H := fun k q h => by simp at h
  have hD : va_D A [] := ⟨fun i j p q h => by simp at h, fun k q h => by simp at h⟩
  refine lv_astore_n (lv' := [(3, .ref q9), (0, .ref h0), (1, .int i), (2, .ref oo)]) hx hb dL_state_12 rfl hl (by decide) rfl (fun ls hl => ?_)
  refine lv_iconst (v := 1) hx hb dL_state_13 (by decide) ?_
  have hP9 := hP.sub (ws' := []) [] rfl
  have hD9 := hD.sub (ws' := []) [] (by decide) rfl
  refine W.widen (k := 1) (n := 6) (Nat.le_of_ble_eq_true rfl) (Nat.le_of_ble_eq_true rfl) ?_
  exact W.iret (v := 1) hx hb hr (fun t ht hW => ⟨⟨1, (), rfl, rfl, by rw [ht]; exact hP9, hD9⟩, hS.F ht⟩) hS.2.2 dL_state_14

set_option maxHeartbeats 4000000 in
set_option maxRecDepth 100000 in
/-- the wrapper of paid -/
theorem c_L_paid_thr (l : Launch) (D : va_G) (cA : Nat → ClassId) (sa : Nat → Nat) (h0 b0 p0 u0 r0 a0 t0 s0 o0 p1 p2 p3 p4 p5 p6 p7 p8 p9 : Nat) (i : Int32) (oo : Nat) (fo : Nat → Int64) (sz : Nat) (hl9 : l.stackTraces = false) : Met l yL_paid wsL_paid ({ frames := 9, cells := 1, slots := 6, locals := 153 }) (va_Pc [.ref h0, .int i, .ref oo] (Wd D cA sa [(h0, .inr (10, [.ref b0, .int 0, .ref p0, .ref u0, .ref r0, .ref a0, .ref t0, .ref s0, .ref o0])), (p0, .inr (7, [.int 0, .int 365, .int 0, .int 0, .ref p1, .int 0, .ref p2, .ref p3, .ref p4, .ref p5, .int 0, .ref p6, .int 0, .ref p7, .ref p8, .ref p9, .int 0])), (oo, .inl (cA 1, 1, .inr (.inl fo)))] sz)) (va_Qi (fun (r : Int32) (_ : Unit) => r = 1) (fun (_ : Unit) t => Wq D (va_A [(h0, .inr (10, [.ref b0, .int 0, .ref p0, .ref u0, .ref r0, .ref a0, .ref t0, .ref s0, .ref o0])), (p0, .inr (7, [.int 0, .int 365, .int 0, .int 0, .ref p1, .int 0, .ref p2, .ref p3, .ref p4, .ref p5, .int 0, .ref p6, .int 0, .ref p7, .ref p8, .ref p9, .int 0])), (oo, .inl (cA 1, 1, .inr (.inl fo)))] sz) [] t) (va_A [(h0, .inr (10, [.ref b0, .int 0, .ref p0, .ref u0, .ref r0, .ref a0, .ref t0, .ref s0, .ref o0])), (p0, .inr (7, [.int 0, .int 365, .int 0, .int 0, .ref p1, .int 0, .ref p2, .ref p3, .ref p4, .ref p5, .int 0, .ref p6, .int 0, .ref p7, .ref p8, .ref p9, .int 0])), (oo, .inl (cA 1, 1, .inr (.inl fo)))] sz)) 1 6 (va_A [(h0, .inr (10, [.ref b0, .int 0, .ref p0, .ref u0, .ref r0, .ref a0, .ref t0, .ref s0, .ref o0])), (p0, .inr (7, [.int 0, .int 365, .int 0, .int 0, .ref p1, .int 0, .ref p2, .ref p3, .ref p4, .ref p5, .int 0, .ref p6, .int 0, .ref p7, .ref p8, .ref p9, .int 0])), (oo, .inl (cA 1, 1, .inr (.inl fo)))] sz) := by
  refine va_MetW (cc := cL_paid) (maxL := 4) (ret := (some .int)) (hh := [(0, 9, 12, 18)]) (by decide) rfl ?_
  intro p e s m args below meth c s₁ B hml hv
  obtain ⟨rfl, hsz, hP, hK, hD0, hC, hZ⟩ := hv
  have hx := B.exec
  have hb := B.bytes
  have hr := B.returns
  have hts := atoms_spec (ws := wsL_paid) B.pre
  have hown : s.vm.findClass RL = some m.cls := findClass_of_methodNamed B.named
  have hlocks := B.notSynchronized
  have htab := vx_table (x := yL_paid) B (hts (.codeWith yL_paid cL_paid 4 (some .int) [(0, 9, 12, 18)]) List.mem_cons_self)
  subst hsz
  have hD := hD0.self (sz := s.heap.size)
  generalize hAe : va_A [(h0, .inr (10, [.ref b0, .int 0, .ref p0, .ref u0, .ref r0, .ref a0, .ref t0, .ref s0, .ref o0])), (p0, .inr (7, [.int 0, .int 365, .int 0, .int 0, .ref p1, .int 0, .ref p2, .ref p3, .ref p4, .ref p5, .int 0, .ref p6, .int 0, .ref p7, .ref p8, .ref p9, .int 0])), (oo, .inl (cA 1, 1, .inr (.inl fo)))] s.heap.size = A at hD hZ ⊢
  have hA : ∀ q : Nat, s.heap.size ≤ q → A q := fun q h => by rw [← hAe]; exact Or.inr h
  have hS : va_S A s.heap s.heap [] := va_S.rf
  have hP : va_P D vwCl [(h0, .inr (10, [.ref b0, .int 0, .ref p0, .ref u0, .ref r0, .ref a0, .ref t0, .ref s0, .ref o0])), (p0, .inr (7, [.int 0, .int 365, .int 0, .int 0, .ref p1, .int 0, .ref p2, .ref p3, .ref p4, .ref p5, .int 0, .ref p6, .int 0, .ref p7, .ref p8, .ref p9, .int 0])), (oo, .inl (cA 1, 1, .inr (.inl fo)))] s.heap := hP
  have hl := lv_entry ([.ref h0, .int i, .ref oo]) (n := 4) (Nat.le_of_ble_eq_true rfl)
  rw [lg_entry_eq]
  generalize (lg_sl ([.ref h0, .int i, .ref oo]) ++ List.replicate (4 - (lg_sl ([.ref h0, .int i, .ref oo])).length) Slot.unset).toArray = ls at hl ⊢
  have hl : lv_has ls 4 [(0, .ref h0), (1, .int i), (2, .ref oo)] := hl
  refine lv_aload_n hx hb dL_paid_0 rfl (lv_at hl 2 rfl) ?_
  refine lv_iconst (v := 0) hx hb dL_paid_1 (by decide) ?_
  refine lv_aload_n hx hb dL_paid_2 rfl (lv_at hl 0 rfl) ?_
  refine lv_iload_n hx hb dL_paid_3 rfl (lv_at hl 1 rfl) ?_
  have hPc := hP.sub (ws' := [(h0, .inr (10, [.ref b0, .int 0, .ref p0, .ref u0, .ref r0, .ref a0, .ref t0, .ref s0, .ref o0])), (p0, .inr (7, [.int 0, .int 365, .int 0, .int 0, .ref p1, .int 0, .ref p2, .ref p3, .ref p4, .ref p5, .int 0, .ref p6, .int 0, .ref p7, .ref p8, .ref p9, .int 0]))]) [0, 1] rfl
  have hDc := hD.sub (ws' := [(h0, .inr (10, [.ref b0, .int 0, .ref p0, .ref u0, .ref r0, .ref a0, .ref t0, .ref s0, .ref o0])), (p0, .inr (7, [.int 0, .int 365, .int 0, .int 0, .ref p1, .int 0, .ref p2, .ref p3, .ref p4, .ref p5, .int 0, .ref p6, .int 0, .ref p7, .ref p8, .ref p9, .int 0]))]) [0, 1] (by decide) rfl
  have hFc := va_free (wc := [(h0, .inr (10, [.ref b0, .int 0, .ref p0, .ref u0, .ref r0, .ref a0, .ref t0, .ref s0, .ref o0])), (p0, .inr (7, [.int 0, .int 365, .int 0, .int 0, .ref p1, .int 0, .ref p2, .ref p3, .ref p4, .ref p5, .int 0, .ref p6, .int 0, .ref p7, .ref p8, .ref p9, .int 0]))]) hD hS hA [0, 1] rfl
  refine vx_calli (vx_runV (As := [.int i]) (rest := [.int 0, .ref oo]) ⟨hx, hb, hml, hown, hts⟩ (c_paid_thr l D cA sa h0 b0 p0 u0 r0 a0 t0 s0 o0 p1 p2 p3 p4 p5 p6 p7 p8 p9 i s.heap.size hl9) (cwV 1 hts gL_paid_X9_paid rfl rfl rfl (by decide +kernel) ⟨(Nat.le_of_ble_eq_true rfl), (Nat.le_of_ble_eq_true rfl)⟩) ⟨Wd.blind, va_recv hK hPc (ci := 10) (q0 := 0) rfl rfl, fun U hU hW => ⟨rfl, Wd.call hPc hDc hK hC hZ hS hFc U hU hW⟩⟩ rfl rfl hl.1 rfl (lv_room (Nat.le_of_ble_eq_true rfl)) dL_paid_4 ⟨(Nat.le_of_ble_eq_true rfl), (Nat.le_of_ble_eq_true rfl)⟩) hS (fun q _ h => hFc q h) hFc (fun q _ h => hFc q h) (fun E ce q9 u t H1 locs ht hvm hpx hE hz1 hk1 hS hcell hv9 hcl => ?_) (fun r9 u t H1 locs ht hvm hw hB hz1 hk1 hS => hw.elim)
  have hE : E = "java/lang/IndexOutOfBoundsException" := hE
  subst hE
  refine vx_catch hown [] ⟨0, 9, 12, 18⟩ (tableOf []) (htab.trans rfl) (fun z h => absurd h List.not_mem_nil) (by decide) (by decide) (name := "java/lang/IndexOutOfBoundsException") (hts (.classLink RL 18 "java/lang/IndexOutOfBoundsException") (by decide +kernel)) (hC.c (by decide +kernel)) hcell hv9 hcl ?_
  generalize H1 = H at hS ⊢
  have hP : va_P D vwCl [] H := fun k q h => by simp at h
  have hD : va_D A [] := ⟨fun i j p q h => by simp at h, fun k q h => by simp at h⟩
  refine lv_astore_n (lv' := [(3, .ref q9), (0, .ref h0), (1, .int i), (2, .ref oo)]) hx hb dL_paid_12 rfl hl (by decide) rfl (fun ls hl => ?_)
  refine lv_iconst (v := 1) hx hb dL_paid_13 (by decide) ?_
  have hP9 := hP.sub (ws' := []) [] rfl
  have hD9 := hD.sub (ws' := []) [] (by decide) rfl
  refine W.widen (k := 1) (n := 6) (Nat.le_of_ble_eq_true rfl) (Nat.le_of_ble_eq_true rfl) ?_
  exact W.iret (v := 1) hx hb hr (fun t ht hW => ⟨⟨1, (), rfl, rfl, by rw [ht]; exact hP9, hD9⟩, hS.F ht⟩) hS.2.2 dL_paid_14

set_option maxHeartbeats 4000000 in
set_option maxRecDepth 100000 in
/-- the wrapper of remaining -/
theorem c_L_remaining_thr (l : Launch) (D : va_G) (cA : Nat → ClassId) (sa : Nat → Nat) (h0 b0 p0 u0 r0 a0 t0 s0 o0 p1 p2 p3 p4 p5 p6 p7 p8 p9 : Nat) (i : Int32) (oo : Nat) (fo : Nat → Int64) (sz : Nat) (hl9 : l.stackTraces = false) : Met l yL_remaining wsL_remaining ({ frames := 9, cells := 1, slots := 6, locals := 153 }) (va_Pc [.ref h0, .int i, .ref oo] (Wd D cA sa [(h0, .inr (10, [.ref b0, .int 0, .ref p0, .ref u0, .ref r0, .ref a0, .ref t0, .ref s0, .ref o0])), (p0, .inr (7, [.int 0, .int 365, .int 0, .int 0, .ref p1, .int 0, .ref p2, .ref p3, .ref p4, .ref p5, .int 0, .ref p6, .int 0, .ref p7, .ref p8, .ref p9, .int 0])), (oo, .inl (cA 1, 1, .inr (.inl fo)))] sz)) (va_Qi (fun (r : Int32) (_ : Unit) => r = 1) (fun (_ : Unit) t => Wq D (va_A [(h0, .inr (10, [.ref b0, .int 0, .ref p0, .ref u0, .ref r0, .ref a0, .ref t0, .ref s0, .ref o0])), (p0, .inr (7, [.int 0, .int 365, .int 0, .int 0, .ref p1, .int 0, .ref p2, .ref p3, .ref p4, .ref p5, .int 0, .ref p6, .int 0, .ref p7, .ref p8, .ref p9, .int 0])), (oo, .inl (cA 1, 1, .inr (.inl fo)))] sz) [] t) (va_A [(h0, .inr (10, [.ref b0, .int 0, .ref p0, .ref u0, .ref r0, .ref a0, .ref t0, .ref s0, .ref o0])), (p0, .inr (7, [.int 0, .int 365, .int 0, .int 0, .ref p1, .int 0, .ref p2, .ref p3, .ref p4, .ref p5, .int 0, .ref p6, .int 0, .ref p7, .ref p8, .ref p9, .int 0])), (oo, .inl (cA 1, 1, .inr (.inl fo)))] sz)) 1 6 (va_A [(h0, .inr (10, [.ref b0, .int 0, .ref p0, .ref u0, .ref r0, .ref a0, .ref t0, .ref s0, .ref o0])), (p0, .inr (7, [.int 0, .int 365, .int 0, .int 0, .ref p1, .int 0, .ref p2, .ref p3, .ref p4, .ref p5, .int 0, .ref p6, .int 0, .ref p7, .ref p8, .ref p9, .int 0])), (oo, .inl (cA 1, 1, .inr (.inl fo)))] sz) := by
  refine va_MetW (cc := cL_remaining) (maxL := 4) (ret := (some .int)) (hh := [(0, 9, 12, 18)]) (by decide) rfl ?_
  intro p e s m args below meth c s₁ B hml hv
  obtain ⟨rfl, hsz, hP, hK, hD0, hC, hZ⟩ := hv
  have hx := B.exec
  have hb := B.bytes
  have hr := B.returns
  have hts := atoms_spec (ws := wsL_remaining) B.pre
  have hown : s.vm.findClass RL = some m.cls := findClass_of_methodNamed B.named
  have hlocks := B.notSynchronized
  have htab := vx_table (x := yL_remaining) B (hts (.codeWith yL_remaining cL_remaining 4 (some .int) [(0, 9, 12, 18)]) List.mem_cons_self)
  subst hsz
  have hD := hD0.self (sz := s.heap.size)
  generalize hAe : va_A [(h0, .inr (10, [.ref b0, .int 0, .ref p0, .ref u0, .ref r0, .ref a0, .ref t0, .ref s0, .ref o0])), (p0, .inr (7, [.int 0, .int 365, .int 0, .int 0, .ref p1, .int 0, .ref p2, .ref p3, .ref p4, .ref p5, .int 0, .ref p6, .int 0, .ref p7, .ref p8, .ref p9, .int 0])), (oo, .inl (cA 1, 1, .inr (.inl fo)))] s.heap.size = A at hD hZ ⊢
  have hA : ∀ q : Nat, s.heap.size ≤ q → A q := fun q h => by rw [← hAe]; exact Or.inr h
  have hS : va_S A s.heap s.heap [] := va_S.rf
  have hP : va_P D vwCl [(h0, .inr (10, [.ref b0, .int 0, .ref p0, .ref u0, .ref r0, .ref a0, .ref t0, .ref s0, .ref o0])), (p0, .inr (7, [.int 0, .int 365, .int 0, .int 0, .ref p1, .int 0, .ref p2, .ref p3, .ref p4, .ref p5, .int 0, .ref p6, .int 0, .ref p7, .ref p8, .ref p9, .int 0])), (oo, .inl (cA 1, 1, .inr (.inl fo)))] s.heap := hP
  have hl := lv_entry ([.ref h0, .int i, .ref oo]) (n := 4) (Nat.le_of_ble_eq_true rfl)
  rw [lg_entry_eq]
  generalize (lg_sl ([.ref h0, .int i, .ref oo]) ++ List.replicate (4 - (lg_sl ([.ref h0, .int i, .ref oo])).length) Slot.unset).toArray = ls at hl ⊢
  have hl : lv_has ls 4 [(0, .ref h0), (1, .int i), (2, .ref oo)] := hl
  refine lv_aload_n hx hb dL_remaining_0 rfl (lv_at hl 2 rfl) ?_
  refine lv_iconst (v := 0) hx hb dL_remaining_1 (by decide) ?_
  refine lv_aload_n hx hb dL_remaining_2 rfl (lv_at hl 0 rfl) ?_
  refine lv_iload_n hx hb dL_remaining_3 rfl (lv_at hl 1 rfl) ?_
  have hPc := hP.sub (ws' := [(h0, .inr (10, [.ref b0, .int 0, .ref p0, .ref u0, .ref r0, .ref a0, .ref t0, .ref s0, .ref o0])), (p0, .inr (7, [.int 0, .int 365, .int 0, .int 0, .ref p1, .int 0, .ref p2, .ref p3, .ref p4, .ref p5, .int 0, .ref p6, .int 0, .ref p7, .ref p8, .ref p9, .int 0]))]) [0, 1] rfl
  have hDc := hD.sub (ws' := [(h0, .inr (10, [.ref b0, .int 0, .ref p0, .ref u0, .ref r0, .ref a0, .ref t0, .ref s0, .ref o0])), (p0, .inr (7, [.int 0, .int 365, .int 0, .int 0, .ref p1, .int 0, .ref p2, .ref p3, .ref p4, .ref p5, .int 0, .ref p6, .int 0, .ref p7, .ref p8, .ref p9, .int 0]))]) [0, 1] (by decide) rfl
  have hFc := va_free (wc := [(h0, .inr (10, [.ref b0, .int 0, .ref p0, .ref u0, .ref r0, .ref a0, .ref t0, .ref s0, .ref o0])), (p0, .inr (7, [.int 0, .int 365, .int 0, .int 0, .ref p1, .int 0, .ref p2, .ref p3, .ref p4, .ref p5, .int 0, .ref p6, .int 0, .ref p7, .ref p8, .ref p9, .int 0]))]) hD hS hA [0, 1] rfl
  refine vx_calli (vx_runV (As := [.int i]) (rest := [.int 0, .ref oo]) ⟨hx, hb, hml, hown, hts⟩ (c_remaining_thr l D cA sa h0 b0 p0 u0 r0 a0 t0 s0 o0 p1 p2 p3 p4 p5 p6 p7 p8 p9 i s.heap.size hl9) (cwV 1 hts gL_remaining_X9_remaining rfl rfl rfl (by decide +kernel) ⟨(Nat.le_of_ble_eq_true rfl), (Nat.le_of_ble_eq_true rfl)⟩) ⟨Wd.blind, va_recv hK hPc (ci := 10) (q0 := 0) rfl rfl, fun U hU hW => ⟨rfl, Wd.call hPc hDc hK hC hZ hS hFc U hU hW⟩⟩ rfl rfl hl.1 rfl (lv_room (Nat.le_of_ble_eq_true rfl)) dL_remaining_4 ⟨(Nat.le_of_ble_eq_true rfl), (Nat.le_of_ble_eq_true rfl)⟩) hS (fun q _ h => hFc q h) hFc (fun q _ h => hFc q h) (fun E ce q9 u t H1 locs ht hvm hpx hE hz1 hk1 hS hcell hv9 hcl => ?_) (fun r9 u t H1 locs ht hvm hw hB hz1 hk1 hS => hw.elim)
  have hE : E = "java/lang/IndexOutOfBoundsException" := hE
  subst hE
  refine vx_catch hown [] ⟨0, 9, 12, 18⟩ (tableOf []) (htab.trans rfl) (fun z h => absurd h List.not_mem_nil) (by decide) (by decide) (name := "java/lang/IndexOutOfBoundsException") (hts (.classLink RL 18 "java/lang/IndexOutOfBoundsException") (by decide +kernel)) (hC.c (by decide +kernel)) hcell hv9 hcl ?_
  generalize H1 = H at hS ⊢
  have hP : va_P D vwCl [] H := fun k q h => by simp at h
  have hD : va_D A [] := ⟨fun i j p q h => by simp at h, fun k q h => by simp at h⟩
  refine lv_astore_n (lv' := [(3, .ref q9), (0, .ref h0), (1, .int i), (2, .ref oo)]) hx hb dL_remaining_12 rfl hl (by decide) rfl (fun ls hl => ?_)
  refine lv_iconst (v := 1) hx hb dL_remaining_13 (by decide) ?_
  have hP9 := hP.sub (ws' := []) [] rfl
  have hD9 := hD.sub (ws' := []) [] (by decide) rfl
  refine W.widen (k := 1) (n := 6) (Nat.le_of_ble_eq_true rfl) (Nat.le_of_ble_eq_true rfl) ?_
  exact W.iret (v := 1) hx hb hr (fun t ht hW => ⟨⟨1, (), rfl, rfl, by rw [ht]; exact hP9, hD9⟩, hS.F ht⟩) hS.2.2 dL_remaining_14

set_option maxHeartbeats 4000000 in
set_option maxRecDepth 100000 in
/-- the wrapper of frozen -/
theorem c_L_frozen_thr (l : Launch) (D : va_G) (cA : Nat → ClassId) (sa : Nat → Nat) (h0 b0 p0 u0 r0 a0 t0 s0 o0 p1 p2 p3 p4 p5 p6 p7 p8 p9 : Nat) (i : Int32) (oo : Nat) (fo : Nat → Int64) (sz : Nat) (hl9 : l.stackTraces = false) : Met l yL_frozen wsL_frozen ({ frames := 9, cells := 1, slots := 6, locals := 153 }) (va_Pc [.ref h0, .int i, .ref oo] (Wd D cA sa [(h0, .inr (10, [.ref b0, .int 0, .ref p0, .ref u0, .ref r0, .ref a0, .ref t0, .ref s0, .ref o0])), (p0, .inr (7, [.int 0, .int 365, .int 0, .int 0, .ref p1, .int 0, .ref p2, .ref p3, .ref p4, .ref p5, .int 0, .ref p6, .int 0, .ref p7, .ref p8, .ref p9, .int 0])), (oo, .inl (cA 1, 1, .inr (.inl fo)))] sz)) (va_Qi (fun (r : Int32) (_ : Unit) => r = 1) (fun (_ : Unit) t => Wq D (va_A [(h0, .inr (10, [.ref b0, .int 0, .ref p0, .ref u0, .ref r0, .ref a0, .ref t0, .ref s0, .ref o0])), (p0, .inr (7, [.int 0, .int 365, .int 0, .int 0, .ref p1, .int 0, .ref p2, .ref p3, .ref p4, .ref p5, .int 0, .ref p6, .int 0, .ref p7, .ref p8, .ref p9, .int 0])), (oo, .inl (cA 1, 1, .inr (.inl fo)))] sz) [] t) (va_A [(h0, .inr (10, [.ref b0, .int 0, .ref p0, .ref u0, .ref r0, .ref a0, .ref t0, .ref s0, .ref o0])), (p0, .inr (7, [.int 0, .int 365, .int 0, .int 0, .ref p1, .int 0, .ref p2, .ref p3, .ref p4, .ref p5, .int 0, .ref p6, .int 0, .ref p7, .ref p8, .ref p9, .int 0])), (oo, .inl (cA 1, 1, .inr (.inl fo)))] sz)) 1 6 (va_A [(h0, .inr (10, [.ref b0, .int 0, .ref p0, .ref u0, .ref r0, .ref a0, .ref t0, .ref s0, .ref o0])), (p0, .inr (7, [.int 0, .int 365, .int 0, .int 0, .ref p1, .int 0, .ref p2, .ref p3, .ref p4, .ref p5, .int 0, .ref p6, .int 0, .ref p7, .ref p8, .ref p9, .int 0])), (oo, .inl (cA 1, 1, .inr (.inl fo)))] sz) := by
  refine va_MetW (cc := cL_frozen) (maxL := 4) (ret := (some .int)) (hh := [(0, 9, 12, 18)]) (by decide) rfl ?_
  intro p e s m args below meth c s₁ B hml hv
  obtain ⟨rfl, hsz, hP, hK, hD0, hC, hZ⟩ := hv
  have hx := B.exec
  have hb := B.bytes
  have hr := B.returns
  have hts := atoms_spec (ws := wsL_frozen) B.pre
  have hown : s.vm.findClass RL = some m.cls := findClass_of_methodNamed B.named
  have hlocks := B.notSynchronized
  have htab := vx_table (x := yL_frozen) B (hts (.codeWith yL_frozen cL_frozen 4 (some .int) [(0, 9, 12, 18)]) List.mem_cons_self)
  subst hsz
  have hD := hD0.self (sz := s.heap.size)
  generalize hAe : va_A [(h0, .inr (10, [.ref b0, .int 0, .ref p0, .ref u0, .ref r0, .ref a0, .ref t0, .ref s0, .ref o0])), (p0, .inr (7, [.int 0, .int 365, .int 0, .int 0, .ref p1, .int 0, .ref p2, .ref p3, .ref p4, .ref p5, .int 0, .ref p6, .int 0, .ref p7, .ref p8, .ref p9, .int 0])), (oo, .inl (cA 1, 1, .inr (.inl fo)))] s.heap.size = A at hD hZ ⊢
  have hA : ∀ q : Nat, s.heap.size ≤ q → A q := fun q h => by rw [← hAe]; exact Or.inr h
  have hS : va_S A s.heap s.heap [] := va_S.rf
  have hP : va_P D vwCl [(h0, .inr (10, [.ref b0, .int 0, .ref p0, .ref u0, .ref r0, .ref a0, .ref t0, .ref s0, .ref o0])), (p0, .inr (7, [.int 0, .int 365, .int 0, .int 0, .ref p1, .int 0, .ref p2, .ref p3, .ref p4, .ref p5, .int 0, .ref p6, .int 0, .ref p7, .ref p8, .ref p9, .int 0])), (oo, .inl (cA 1, 1, .inr (.inl fo)))] s.heap := hP
  have hl := lv_entry ([.ref h0, .int i, .ref oo]) (n := 4) (Nat.le_of_ble_eq_true rfl)
  rw [lg_entry_eq]
  generalize (lg_sl ([.ref h0, .int i, .ref oo]) ++ List.replicate (4 - (lg_sl ([.ref h0, .int i, .ref oo])).length) Slot.unset).toArray = ls at hl ⊢
  have hl : lv_has ls 4 [(0, .ref h0), (1, .int i), (2, .ref oo)] := hl
  refine lv_aload_n hx hb dL_frozen_0 rfl (lv_at hl 2 rfl) ?_
  refine lv_iconst (v := 0) hx hb dL_frozen_1 (by decide) ?_
  refine lv_aload_n hx hb dL_frozen_2 rfl (lv_at hl 0 rfl) ?_
  refine lv_iload_n hx hb dL_frozen_3 rfl (lv_at hl 1 rfl) ?_
  have hPc := hP.sub (ws' := [(h0, .inr (10, [.ref b0, .int 0, .ref p0, .ref u0, .ref r0, .ref a0, .ref t0, .ref s0, .ref o0])), (p0, .inr (7, [.int 0, .int 365, .int 0, .int 0, .ref p1, .int 0, .ref p2, .ref p3, .ref p4, .ref p5, .int 0, .ref p6, .int 0, .ref p7, .ref p8, .ref p9, .int 0]))]) [0, 1] rfl
  have hDc := hD.sub (ws' := [(h0, .inr (10, [.ref b0, .int 0, .ref p0, .ref u0, .ref r0, .ref a0, .ref t0, .ref s0, .ref o0])), (p0, .inr (7, [.int 0, .int 365, .int 0, .int 0, .ref p1, .int 0, .ref p2, .ref p3, .ref p4, .ref p5, .int 0, .ref p6, .int 0, .ref p7, .ref p8, .ref p9, .int 0]))]) [0, 1] (by decide) rfl
  have hFc := va_free (wc := [(h0, .inr (10, [.ref b0, .int 0, .ref p0, .ref u0, .ref r0, .ref a0, .ref t0, .ref s0, .ref o0])), (p0, .inr (7, [.int 0, .int 365, .int 0, .int 0, .ref p1, .int 0, .ref p2, .ref p3, .ref p4, .ref p5, .int 0, .ref p6, .int 0, .ref p7, .ref p8, .ref p9, .int 0]))]) hD hS hA [0, 1] rfl
  refine vx_calli (vx_runV (As := [.int i]) (rest := [.int 0, .ref oo]) ⟨hx, hb, hml, hown, hts⟩ (c_frozen_thr l D cA sa h0 b0 p0 u0 r0 a0 t0 s0 o0 p1 p2 p3 p4 p5 p6 p7 p8 p9 i s.heap.size hl9) (cwV 1 hts gL_frozen_X9_frozen rfl rfl rfl (by decide +kernel) ⟨(Nat.le_of_ble_eq_true rfl), (Nat.le_of_ble_eq_true rfl)⟩) ⟨Wd.blind, va_recv hK hPc (ci := 10) (q0 := 0) rfl rfl, fun U hU hW => ⟨rfl, Wd.call hPc hDc hK hC hZ hS hFc U hU hW⟩⟩ rfl rfl hl.1 rfl (lv_room (Nat.le_of_ble_eq_true rfl)) dL_frozen_4 ⟨(Nat.le_of_ble_eq_true rfl), (Nat.le_of_ble_eq_true rfl)⟩) hS (fun q _ h => hFc q h) hFc (fun q _ h => hFc q h) (fun E ce q9 u t H1 locs ht hvm hpx hE hz1 hk1 hS hcell hv9 hcl => ?_) (fun r9 u t H1 locs ht hvm hw hB hz1 hk1 hS => hw.elim)
  have hE : E = "java/lang/IndexOutOfBoundsException" := hE
  subst hE
  refine vx_catch hown [] ⟨0, 9, 12, 18⟩ (tableOf []) (htab.trans rfl) (fun z h => absurd h List.not_mem_nil) (by decide) (by decide) (name := "java/lang/IndexOutOfBoundsException") (hts (.classLink RL 18 "java/lang/IndexOutOfBoundsException") (by decide +kernel)) (hC.c (by decide +kernel)) hcell hv9 hcl ?_
  generalize H1 = H at hS ⊢
  have hP : va_P D vwCl [] H := fun k q h => by simp at h
  have hD : va_D A [] := ⟨fun i j p q h => by simp at h, fun k q h => by simp at h⟩
  refine lv_astore_n (lv' := [(3, .ref q9), (0, .ref h0), (1, .int i), (2, .ref oo)]) hx hb dL_frozen_12 rfl hl (by decide) rfl (fun ls hl => ?_)
  refine lv_iconst (v := 1) hx hb dL_frozen_13 (by decide) ?_
  have hP9 := hP.sub (ws' := []) [] rfl
  have hD9 := hD.sub (ws' := []) [] (by decide) rfl
  refine W.widen (k := 1) (n := 6) (Nat.le_of_ble_eq_true rfl) (Nat.le_of_ble_eq_true rfl) ?_
  exact W.iret (v := 1) hx hb hr (fun t ht hW => ⟨⟨1, (), rfl, rfl, by rw [ht]; exact hP9, hD9⟩, hS.F ht⟩) hS.2.2 dL_frozen_14

set_option maxHeartbeats 4000000 in
set_option maxRecDepth 100000 in
/-- the wrapper of dueDay -/
theorem c_L_dueDay_thr (l : Launch) (D : va_G) (cA : Nat → ClassId) (sa : Nat → Nat) (h0 b0 p0 u0 r0 a0 t0 s0 o0 p1 p2 p3 p4 p5 p6 p7 p8 p9 : Nat) (i : Int32) (oo : Nat) (fo : Nat → Int64) (sz : Nat) (hl9 : l.stackTraces = false) : Met l yL_dueDay wsL_dueDay ({ frames := 9, cells := 1, slots := 6, locals := 153 }) (va_Pc [.ref h0, .int i, .ref oo] (Wd D cA sa [(h0, .inr (10, [.ref b0, .int 0, .ref p0, .ref u0, .ref r0, .ref a0, .ref t0, .ref s0, .ref o0])), (p0, .inr (7, [.int 0, .int 365, .int 0, .int 0, .ref p1, .int 0, .ref p2, .ref p3, .ref p4, .ref p5, .int 0, .ref p6, .int 0, .ref p7, .ref p8, .ref p9, .int 0])), (oo, .inl (cA 1, 1, .inr (.inl fo)))] sz)) (va_Qi (fun (r : Int32) (_ : Unit) => r = 1) (fun (_ : Unit) t => Wq D (va_A [(h0, .inr (10, [.ref b0, .int 0, .ref p0, .ref u0, .ref r0, .ref a0, .ref t0, .ref s0, .ref o0])), (p0, .inr (7, [.int 0, .int 365, .int 0, .int 0, .ref p1, .int 0, .ref p2, .ref p3, .ref p4, .ref p5, .int 0, .ref p6, .int 0, .ref p7, .ref p8, .ref p9, .int 0])), (oo, .inl (cA 1, 1, .inr (.inl fo)))] sz) [] t) (va_A [(h0, .inr (10, [.ref b0, .int 0, .ref p0, .ref u0, .ref r0, .ref a0, .ref t0, .ref s0, .ref o0])), (p0, .inr (7, [.int 0, .int 365, .int 0, .int 0, .ref p1, .int 0, .ref p2, .ref p3, .ref p4, .ref p5, .int 0, .ref p6, .int 0, .ref p7, .ref p8, .ref p9, .int 0])), (oo, .inl (cA 1, 1, .inr (.inl fo)))] sz)) 1 6 (va_A [(h0, .inr (10, [.ref b0, .int 0, .ref p0, .ref u0, .ref r0, .ref a0, .ref t0, .ref s0, .ref o0])), (p0, .inr (7, [.int 0, .int 365, .int 0, .int 0, .ref p1, .int 0, .ref p2, .ref p3, .ref p4, .ref p5, .int 0, .ref p6, .int 0, .ref p7, .ref p8, .ref p9, .int 0])), (oo, .inl (cA 1, 1, .inr (.inl fo)))] sz) := by
  refine va_MetW (cc := cL_dueDay) (maxL := 4) (ret := (some .int)) (hh := [(0, 9, 12, 18)]) (by decide) rfl ?_
  intro p e s m args below meth c s₁ B hml hv
  obtain ⟨rfl, hsz, hP, hK, hD0, hC, hZ⟩ := hv
  have hx := B.exec
  have hb := B.bytes
  have hr := B.returns
  have hts := atoms_spec (ws := wsL_dueDay) B.pre
  have hown : s.vm.findClass RL = some m.cls := findClass_of_methodNamed B.named
  have hlocks := B.notSynchronized
  have htab := vx_table (x := yL_dueDay) B (hts (.codeWith yL_dueDay cL_dueDay 4 (some .int) [(0, 9, 12, 18)]) List.mem_cons_self)
  subst hsz
  have hD := hD0.self (sz := s.heap.size)
  generalize hAe : va_A [(h0, .inr (10, [.ref b0, .int 0, .ref p0, .ref u0, .ref r0, .ref a0, .ref t0, .ref s0, .ref o0])), (p0, .inr (7, [.int 0, .int 365, .int 0, .int 0, .ref p1, .int 0, .ref p2, .ref p3, .ref p4, .ref p5, .int 0, .ref p6, .int 0, .ref p7, .ref p8, .ref p9, .int 0])), (oo, .inl (cA 1, 1, .inr (.inl fo)))] s.heap.size = A at hD hZ ⊢
  have hA : ∀ q : Nat, s.heap.size ≤ q → A q := fun q h => by rw [← hAe]; exact Or.inr h
  have hS : va_S A s.heap s.heap [] := va_S.rf
  have hP : va_P D vwCl [(h0, .inr (10, [.ref b0, .int 0, .ref p0, .ref u0, .ref r0, .ref a0, .ref t0, .ref s0, .ref o0])), (p0, .inr (7, [.int 0, .int 365, .int 0, .int 0, .ref p1, .int 0, .ref p2, .ref p3, .ref p4, .ref p5, .int 0, .ref p6, .int 0, .ref p7, .ref p8, .ref p9, .int 0])), (oo, .inl (cA 1, 1, .inr (.inl fo)))] s.heap := hP
  have hl := lv_entry ([.ref h0, .int i, .ref oo]) (n := 4) (Nat.le_of_ble_eq_true rfl)
  rw [lg_entry_eq]
  generalize (lg_sl ([.ref h0, .int i, .ref oo]) ++ List.replicate (4 - (lg_sl ([.ref h0, .int i, .ref oo])).length) Slot.unset).toArray = ls at hl ⊢
  have hl : lv_has ls 4 [(0, .ref h0), (1, .int i), (2, .ref oo)] := hl
  refine lv_aload_n hx hb dL_dueDay_0 rfl (lv_at hl 2 rfl) ?_
  refine lv_iconst (v := 0) hx hb dL_dueDay_1 (by decide) ?_
  refine lv_aload_n hx hb dL_dueDay_2 rfl (lv_at hl 0 rfl) ?_
  refine lv_iload_n hx hb dL_dueDay_3 rfl (lv_at hl 1 rfl) ?_
  have hPc := hP.sub (ws' := [(h0, .inr (10, [.ref b0, .int 0, .ref p0, .ref u0, .ref r0, .ref a0, .ref t0, .ref s0, .ref o0])), (p0, .inr (7, [.int 0, .int 365, .int 0, .int 0, .ref p1, .int 0, .ref p2, .ref p3, .ref p4, .ref p5, .int 0, .ref p6, .int 0, .ref p7, .ref p8, .ref p9, .int 0]))]) [0, 1] rfl
  have hDc := hD.sub (ws' := [(h0, .inr (10, [.ref b0, .int 0, .ref p0, .ref u0, .ref r0, .ref a0, .ref t0, .ref s0, .ref o0])), (p0, .inr (7, [.int 0, .int 365, .int 0, .int 0, .ref p1, .int 0, .ref p2, .ref p3, .ref p4, .ref p5, .int 0, .ref p6, .int 0, .ref p7, .ref p8, .ref p9, .int 0]))]) [0, 1] (by decide) rfl
  have hFc := va_free (wc := [(h0, .inr (10, [.ref b0, .int 0, .ref p0, .ref u0, .ref r0, .ref a0, .ref t0, .ref s0, .ref o0])), (p0, .inr (7, [.int 0, .int 365, .int 0, .int 0, .ref p1, .int 0, .ref p2, .ref p3, .ref p4, .ref p5, .int 0, .ref p6, .int 0, .ref p7, .ref p8, .ref p9, .int 0]))]) hD hS hA [0, 1] rfl
  refine vx_calli (vx_runV (As := [.int i]) (rest := [.int 0, .ref oo]) ⟨hx, hb, hml, hown, hts⟩ (c_dueDay_thr l D cA sa h0 b0 p0 u0 r0 a0 t0 s0 o0 p1 p2 p3 p4 p5 p6 p7 p8 p9 i s.heap.size hl9) (cwV 1 hts gL_dueDay_X9_dueDay rfl rfl rfl (by decide +kernel) ⟨(Nat.le_of_ble_eq_true rfl), (Nat.le_of_ble_eq_true rfl)⟩) ⟨Wd.blind, va_recv hK hPc (ci := 10) (q0 := 0) rfl rfl, fun U hU hW => ⟨rfl, Wd.call hPc hDc hK hC hZ hS hFc U hU hW⟩⟩ rfl rfl hl.1 rfl (lv_room (Nat.le_of_ble_eq_true rfl)) dL_dueDay_4 ⟨(Nat.le_of_ble_eq_true rfl), (Nat.le_of_ble_eq_true rfl)⟩) hS (fun q _ h => hFc q h) hFc (fun q _ h => hFc q h) (fun E ce q9 u t H1 locs ht hvm hpx hE hz1 hk1 hS hcell hv9 hcl => ?_) (fun r9 u t H1 locs ht hvm hw hB hz1 hk1 hS => hw.elim)
  have hE : E = "java/lang/IndexOutOfBoundsException" := hE
  subst hE
  refine vx_catch hown [] ⟨0, 9, 12, 18⟩ (tableOf []) (htab.trans rfl) (fun z h => absurd h List.not_mem_nil) (by decide) (by decide) (name := "java/lang/IndexOutOfBoundsException") (hts (.classLink RL 18 "java/lang/IndexOutOfBoundsException") (by decide +kernel)) (hC.c (by decide +kernel)) hcell hv9 hcl ?_
  generalize H1 = H at hS ⊢
  have hP : va_P D vwCl [] H := fun k q h => by simp at h
  have hD : va_D A [] := ⟨fun i j p q h => by simp at h, fun k q h => by simp at h⟩
  refine lv_astore_n (lv' := [(3, .ref q9), (0, .ref h0), (1, .int i), (2, .ref oo)]) hx hb dL_dueDay_12 rfl hl (by decide) rfl (fun ls hl => ?_)
  refine lv_iconst (v := 1) hx hb dL_dueDay_13 (by decide) ?_
  have hP9 := hP.sub (ws' := []) [] rfl
  have hD9 := hD.sub (ws' := []) [] (by decide) rfl
  refine W.widen (k := 1) (n := 6) (Nat.le_of_ble_eq_true rfl) (Nat.le_of_ble_eq_true rfl) ?_
  exact W.iret (v := 1) hx hb hr (fun t ht hW => ⟨⟨1, (), rfl, rfl, by rw [ht]; exact hP9, hD9⟩, hS.F ht⟩) hS.2.2 dL_dueDay_14

set_option maxHeartbeats 4000000 in
set_option maxRecDepth 100000 in
/-- the wrapper of holds -/
theorem c_L_holds_thr (l : Launch) (D : va_G) (cA : Nat → ClassId) (sa : Nat → Nat) (h0 b0 p0 u0 r0 a0 t0 s0 o0 p1 p2 p3 p4 p5 p6 p7 p8 p9 : Nat) (i : Int32) (oo : Nat) (fo : Nat → Int64) (sz : Nat) (hl9 : l.stackTraces = false) : Met l yL_holds wsL_holds ({ frames := 9, cells := 1, slots := 6, locals := 153 }) (va_Pc [.ref h0, .int i, .ref oo] (Wd D cA sa [(h0, .inr (10, [.ref b0, .int 0, .ref p0, .ref u0, .ref r0, .ref a0, .ref t0, .ref s0, .ref o0])), (p0, .inr (7, [.int 0, .int 365, .int 0, .int 0, .ref p1, .int 0, .ref p2, .ref p3, .ref p4, .ref p5, .int 0, .ref p6, .int 0, .ref p7, .ref p8, .ref p9, .int 0])), (oo, .inl (cA 1, 1, .inr (.inl fo)))] sz)) (va_Qi (fun (r : Int32) (_ : Unit) => r = 1) (fun (_ : Unit) t => Wq D (va_A [(h0, .inr (10, [.ref b0, .int 0, .ref p0, .ref u0, .ref r0, .ref a0, .ref t0, .ref s0, .ref o0])), (p0, .inr (7, [.int 0, .int 365, .int 0, .int 0, .ref p1, .int 0, .ref p2, .ref p3, .ref p4, .ref p5, .int 0, .ref p6, .int 0, .ref p7, .ref p8, .ref p9, .int 0])), (oo, .inl (cA 1, 1, .inr (.inl fo)))] sz) [] t) (va_A [(h0, .inr (10, [.ref b0, .int 0, .ref p0, .ref u0, .ref r0, .ref a0, .ref t0, .ref s0, .ref o0])), (p0, .inr (7, [.int 0, .int 365, .int 0, .int 0, .ref p1, .int 0, .ref p2, .ref p3, .ref p4, .ref p5, .int 0, .ref p6, .int 0, .ref p7, .ref p8, .ref p9, .int 0])), (oo, .inl (cA 1, 1, .inr (.inl fo)))] sz)) 1 6 (va_A [(h0, .inr (10, [.ref b0, .int 0, .ref p0, .ref u0, .ref r0, .ref a0, .ref t0, .ref s0, .ref o0])), (p0, .inr (7, [.int 0, .int 365, .int 0, .int 0, .ref p1, .int 0, .ref p2, .ref p3, .ref p4, .ref p5, .int 0, .ref p6, .int 0, .ref p7, .ref p8, .ref p9, .int 0])), (oo, .inl (cA 1, 1, .inr (.inl fo)))] sz) := by
  refine va_MetW (cc := cL_holds) (maxL := 4) (ret := (some .int)) (hh := [(0, 16, 19, 18)]) (by decide) rfl ?_
  intro p e s m args below meth c s₁ B hml hv
  obtain ⟨rfl, hsz, hP, hK, hD0, hC, hZ⟩ := hv
  have hx := B.exec
  have hb := B.bytes
  have hr := B.returns
  have hts := atoms_spec (ws := wsL_holds) B.pre
  have hown : s.vm.findClass RL = some m.cls := findClass_of_methodNamed B.named
  have hlocks := B.notSynchronized
  have htab := vx_table (x := yL_holds) B (hts (.codeWith yL_holds cL_holds 4 (some .int) [(0, 16, 19, 18)]) List.mem_cons_self)
  subst hsz
  have hD := hD0.self (sz := s.heap.size)
  generalize hAe : va_A [(h0, .inr (10, [.ref b0, .int 0, .ref p0, .ref u0, .ref r0, .ref a0, .ref t0, .ref s0, .ref o0])), (p0, .inr (7, [.int 0, .int 365, .int 0, .int 0, .ref p1, .int 0, .ref p2, .ref p3, .ref p4, .ref p5, .int 0, .ref p6, .int 0, .ref p7, .ref p8, .ref p9, .int 0])), (oo, .inl (cA 1, 1, .inr (.inl fo)))] s.heap.size = A at hD hZ ⊢
  have hA : ∀ q : Nat, s.heap.size ≤ q → A q := fun q h => by rw [← hAe]; exact Or.inr h
  have hS : va_S A s.heap s.heap [] := va_S.rf
  have hP : va_P D vwCl [(h0, .inr (10, [.ref b0, .int 0, .ref p0, .ref u0, .ref r0, .ref a0, .ref t0, .ref s0, .ref o0])), (p0, .inr (7, [.int 0, .int 365, .int 0, .int 0, .ref p1, .int 0, .ref p2, .ref p3, .ref p4, .ref p5, .int 0, .ref p6, .int 0, .ref p7, .ref p8, .ref p9, .int 0])), (oo, .inl (cA 1, 1, .inr (.inl fo)))] s.heap := hP
  have hl := lv_entry ([.ref h0, .int i, .ref oo]) (n := 4) (Nat.le_of_ble_eq_true rfl)
  rw [lg_entry_eq]
  generalize (lg_sl ([.ref h0, .int i, .ref oo]) ++ List.replicate (4 - (lg_sl ([.ref h0, .int i, .ref oo])).length) Slot.unset).toArray = ls at hl ⊢
  have hl : lv_has ls 4 [(0, .ref h0), (1, .int i), (2, .ref oo)] := hl
  refine lv_aload_n hx hb dL_holds_0 rfl (lv_at hl 2 rfl) ?_
  refine lv_iconst (v := 0) hx hb dL_holds_1 (by decide) ?_
  refine lv_aload_n hx hb dL_holds_2 rfl (lv_at hl 0 rfl) ?_
  refine lv_iload_n hx hb dL_holds_3 rfl (lv_at hl 1 rfl) ?_
  have hPc := hP.sub (ws' := [(h0, .inr (10, [.ref b0, .int 0, .ref p0, .ref u0, .ref r0, .ref a0, .ref t0, .ref s0, .ref o0])), (p0, .inr (7, [.int 0, .int 365, .int 0, .int 0, .ref p1, .int 0, .ref p2, .ref p3, .ref p4, .ref p5, .int 0, .ref p6, .int 0, .ref p7, .ref p8, .ref p9, .int 0]))]) [0, 1] rfl
  have hDc := hD.sub (ws' := [(h0, .inr (10, [.ref b0, .int 0, .ref p0, .ref u0, .ref r0, .ref a0, .ref t0, .ref s0, .ref o0])), (p0, .inr (7, [.int 0, .int 365, .int 0, .int 0, .ref p1, .int 0, .ref p2, .ref p3, .ref p4, .ref p5, .int 0, .ref p6, .int 0, .ref p7, .ref p8, .ref p9, .int 0]))]) [0, 1] (by decide) rfl
  have hFc := va_free (wc := [(h0, .inr (10, [.ref b0, .int 0, .ref p0, .ref u0, .ref r0, .ref a0, .ref t0, .ref s0, .ref o0])), (p0, .inr (7, [.int 0, .int 365, .int 0, .int 0, .ref p1, .int 0, .ref p2, .ref p3, .ref p4, .ref p5, .int 0, .ref p6, .int 0, .ref p7, .ref p8, .ref p9, .int 0]))]) hD hS hA [0, 1] rfl
  refine vx_calli (vx_runV (As := [.int i]) (rest := [.int 0, .ref oo]) ⟨hx, hb, hml, hown, hts⟩ (c_holds_thr l D cA sa h0 b0 p0 u0 r0 a0 t0 s0 o0 p1 p2 p3 p4 p5 p6 p7 p8 p9 i s.heap.size hl9) (cwV 1 hts gL_holds_X9_holds rfl rfl rfl (by decide +kernel) ⟨(Nat.le_of_ble_eq_true rfl), (Nat.le_of_ble_eq_true rfl)⟩) ⟨Wd.blind, va_recv hK hPc (ci := 10) (q0 := 0) rfl rfl, fun U hU hW => ⟨rfl, Wd.call hPc hDc hK hC hZ hS hFc U hU hW⟩⟩ rfl rfl hl.1 rfl (lv_room (Nat.le_of_ble_eq_true rfl)) dL_holds_4 ⟨(Nat.le_of_ble_eq_true rfl), (Nat.le_of_ble_eq_true rfl)⟩) hS (fun q _ h => hFc q h) hFc (fun q _ h => hFc q h) (fun E ce q9 u t H1 locs ht hvm hpx hE hz1 hk1 hS hcell hv9 hcl => ?_) (fun r9 u t H1 locs ht hvm hw hB hz1 hk1 hS => hw.elim)
  have hE : E = "java/lang/IndexOutOfBoundsException" := hE
  subst hE
  refine vx_catch hown [] ⟨0, 16, 19, 18⟩ (tableOf []) (htab.trans rfl) (fun z h => absurd h List.not_mem_nil) (by decide) (by decide) (name := "java/lang/IndexOutOfBoundsException") (hts (.classLink RL 18 "java/lang/IndexOutOfBoundsException") (by decide +kernel)) (hC.c (by decide +kernel)) hcell hv9 hcl ?_
  generalize H1 = H at hS ⊢
  have hP : va_P D vwCl [] H := fun k q h => by simp at h
  have hD : va_D A [] := ⟨fun i j p q h => by simp at h, fun k q h => by simp at h⟩
  refine lv_astore_n (lv' := [(3, .ref q9), (0, .ref h0), (1, .int i), (2, .ref oo)]) hx hb dL_holds_19 rfl hl (by decide) rfl (fun ls hl => ?_)
  refine lv_iconst (v := 1) hx hb dL_holds_20 (by decide) ?_
  have hP9 := hP.sub (ws' := []) [] rfl
  have hD9 := hD.sub (ws' := []) [] (by decide) rfl
  refine W.widen (k := 1) (n := 6) (Nat.le_of_ble_eq_true rfl) (Nat.le_of_ble_eq_true rfl) ?_
  exact W.iret (v := 1) hx hb hr (fun t ht hW => ⟨⟨1, (), rfl, rfl, by rw [ht]; exact hP9, hD9⟩, hS.F ht⟩) hS.2.2 dL_holds_21

set_option maxHeartbeats 4000000 in
set_option maxRecDepth 100000 in
/-- the wrapper of dayByClock -/
theorem c_L_dayByClock_thr (l : Launch) (D : va_G) (cA : Nat → ClassId) (sa : Nat → Nat) (h0 b0 p0 u0 r0 a0 t0 s0 o0 p1 p2 p3 p4 p5 p6 p7 p8 p9 : Nat) (i : Int32) (oo : Nat) (fo : Nat → Int64) (sz : Nat) (hl9 : l.stackTraces = false) : Met l yL_dayByClock wsL_dayByClock ({ frames := 9, cells := 1, slots := 6, locals := 156 }) (va_Pc [.ref h0, .int i, .ref oo] (Wd D cA sa [(h0, .inr (10, [.ref b0, .int 0, .ref p0, .ref u0, .ref r0, .ref a0, .ref t0, .ref s0, .ref o0])), (p0, .inr (7, [.int 0, .int 365, .int 0, .int 0, .ref p1, .int 0, .ref p2, .ref p3, .ref p4, .ref p5, .int 0, .ref p6, .int 0, .ref p7, .ref p8, .ref p9, .int 0])), (oo, .inl (cA 1, 1, .inr (.inl fo)))] sz)) (va_Qi (fun (r : Int32) (_ : Unit) => r = 1) (fun (_ : Unit) t => Wq D (va_A [(h0, .inr (10, [.ref b0, .int 0, .ref p0, .ref u0, .ref r0, .ref a0, .ref t0, .ref s0, .ref o0])), (p0, .inr (7, [.int 0, .int 365, .int 0, .int 0, .ref p1, .int 0, .ref p2, .ref p3, .ref p4, .ref p5, .int 0, .ref p6, .int 0, .ref p7, .ref p8, .ref p9, .int 0])), (oo, .inl (cA 1, 1, .inr (.inl fo)))] sz) [] t) (va_A [(h0, .inr (10, [.ref b0, .int 0, .ref p0, .ref u0, .ref r0, .ref a0, .ref t0, .ref s0, .ref o0])), (p0, .inr (7, [.int 0, .int 365, .int 0, .int 0, .ref p1, .int 0, .ref p2, .ref p3, .ref p4, .ref p5, .int 0, .ref p6, .int 0, .ref p7, .ref p8, .ref p9, .int 0])), (oo, .inl (cA 1, 1, .inr (.inl fo)))] sz)) 1 6 (va_A [(h0, .inr (10, [.ref b0, .int 0, .ref p0, .ref u0, .ref r0, .ref a0, .ref t0, .ref s0, .ref o0])), (p0, .inr (7, [.int 0, .int 365, .int 0, .int 0, .ref p1, .int 0, .ref p2, .ref p3, .ref p4, .ref p5, .int 0, .ref p6, .int 0, .ref p7, .ref p8, .ref p9, .int 0])), (oo, .inl (cA 1, 1, .inr (.inl fo)))] sz) := by
  refine va_MetW (cc := cL_dayByClock) (maxL := 4) (ret := (some .int)) (hh := [(0, 9, 12, 18)]) (by decide) rfl ?_
  intro p e s m args below meth c s₁ B hml hv
  obtain ⟨rfl, hsz, hP, hK, hD0, hC, hZ⟩ := hv
  have hx := B.exec
  have hb := B.bytes
  have hr := B.returns
  have hts := atoms_spec (ws := wsL_dayByClock) B.pre
  have hown : s.vm.findClass RL = some m.cls := findClass_of_methodNamed B.named
  have hlocks := B.notSynchronized
  have htab := vx_table (x := yL_dayByClock) B (hts (.codeWith yL_dayByClock cL_dayByClock 4 (some .int) [(0, 9, 12, 18)]) List.mem_cons_self)
  subst hsz
  have hD := hD0.self (sz := s.heap.size)
  generalize hAe : va_A [(h0, .inr (10, [.ref b0, .int 0, .ref p0, .ref u0, .ref r0, .ref a0, .ref t0, .ref s0, .ref o0])), (p0, .inr (7, [.int 0, .int 365, .int 0, .int 0, .ref p1, .int 0, .ref p2, .ref p3, .ref p4, .ref p5, .int 0, .ref p6, .int 0, .ref p7, .ref p8, .ref p9, .int 0])), (oo, .inl (cA 1, 1, .inr (.inl fo)))] s.heap.size = A at hD hZ ⊢
  have hA : ∀ q : Nat, s.heap.size ≤ q → A q := fun q h => by rw [← hAe]; exact Or.inr h
  have hS : va_S A s.heap s.heap [] := va_S.rf
  have hP : va_P D vwCl [(h0, .inr (10, [.ref b0, .int 0, .ref p0, .ref u0, .ref r0, .ref a0, .ref t0, .ref s0, .ref o0])), (p0, .inr (7, [.int 0, .int 365, .int 0, .int 0, .ref p1, .int 0, .ref p2, .ref p3, .ref p4, .ref p5, .int 0, .ref p6, .int 0, .ref p7, .ref p8, .ref p9, .int 0])), (oo, .inl (cA 1, 1, .inr (.inl fo)))] s.heap := hP
  have hl := lv_entry ([.ref h0, .int i, .ref oo]) (n := 4) (Nat.le_of_ble_eq_true rfl)
  rw [lg_entry_eq]
  generalize (lg_sl ([.ref h0, .int i, .ref oo]) ++ List.replicate (4 - (lg_sl ([.ref h0, .int i, .ref oo])).length) Slot.unset).toArray = ls at hl ⊢
  have hl : lv_has ls 4 [(0, .ref h0), (1, .int i), (2, .ref oo)] := hl
  refine lv_aload_n hx hb dL_dayByClock_0 rfl (lv_at hl 2 rfl) ?_
  refine lv_iconst (v := 0) hx hb dL_dayByClock_1 (by decide) ?_
  refine lv_aload_n hx hb dL_dayByClock_2 rfl (lv_at hl 0 rfl) ?_
  refine lv_iload_n hx hb dL_dayByClock_3 rfl (lv_at hl 1 rfl) ?_
  have hPc := hP.sub (ws' := [(h0, .inr (10, [.ref b0, .int 0, .ref p0, .ref u0, .ref r0, .ref a0, .ref t0, .ref s0, .ref o0])), (p0, .inr (7, [.int 0, .int 365, .int 0, .int 0, .ref p1, .int 0, .ref p2, .ref p3, .ref p4, .ref p5, .int 0, .ref p6, .int 0, .ref p7, .ref p8, .ref p9, .int 0]))]) [0, 1] rfl
  have hDc := hD.sub (ws' := [(h0, .inr (10, [.ref b0, .int 0, .ref p0, .ref u0, .ref r0, .ref a0, .ref t0, .ref s0, .ref o0])), (p0, .inr (7, [.int 0, .int 365, .int 0, .int 0, .ref p1, .int 0, .ref p2, .ref p3, .ref p4, .ref p5, .int 0, .ref p6, .int 0, .ref p7, .ref p8, .ref p9, .int 0]))]) [0, 1] (by decide) rfl
  have hFc := va_free (wc := [(h0, .inr (10, [.ref b0, .int 0, .ref p0, .ref u0, .ref r0, .ref a0, .ref t0, .ref s0, .ref o0])), (p0, .inr (7, [.int 0, .int 365, .int 0, .int 0, .ref p1, .int 0, .ref p2, .ref p3, .ref p4, .ref p5, .int 0, .ref p6, .int 0, .ref p7, .ref p8, .ref p9, .int 0]))]) hD hS hA [0, 1] rfl
  refine vx_calli (vx_runV (As := [.int i]) (rest := [.int 0, .ref oo]) ⟨hx, hb, hml, hown, hts⟩ (c_dayByClock_thr l D cA sa h0 b0 p0 u0 r0 a0 t0 s0 o0 p1 p2 p3 p4 p5 p6 p7 p8 p9 i s.heap.size hl9) (cwV 1 hts gL_dayByClock_X9_dayByClock rfl rfl rfl (by decide +kernel) ⟨(Nat.le_of_ble_eq_true rfl), (Nat.le_of_ble_eq_true rfl)⟩) ⟨Wd.blind, va_recv hK hPc (ci := 10) (q0 := 0) rfl rfl, fun U hU hW => ⟨rfl, Wd.call hPc hDc hK hC hZ hS hFc U hU hW⟩⟩ rfl rfl hl.1 rfl (lv_room (Nat.le_of_ble_eq_true rfl)) dL_dayByClock_4 ⟨(Nat.le_of_ble_eq_true rfl), (Nat.le_of_ble_eq_true rfl)⟩) hS (fun q _ h => hFc q h) hFc (fun q _ h => hFc q h) (fun E ce q9 u t H1 locs ht hvm hpx hE hz1 hk1 hS hcell hv9 hcl => ?_) (fun r9 u t H1 locs ht hvm hw hB hz1 hk1 hS => hw.elim)
  have hE : E = "java/lang/IndexOutOfBoundsException" := hE
  subst hE
  refine vx_catch hown [] ⟨0, 9, 12, 18⟩ (tableOf []) (htab.trans rfl) (fun z h => absurd h List.not_mem_nil) (by decide) (by decide) (name := "java/lang/IndexOutOfBoundsException") (hts (.classLink RL 18 "java/lang/IndexOutOfBoundsException") (by decide +kernel)) (hC.c (by decide +kernel)) hcell hv9 hcl ?_
  generalize H1 = H at hS ⊢
  have hP : va_P D vwCl [] H := fun k q h => by simp at h
  have hD : va_D A [] := ⟨fun i j p q h => by simp at h, fun k q h => by simp at h⟩
  refine lv_astore_n (lv' := [(3, .ref q9), (0, .ref h0), (1, .int i), (2, .ref oo)]) hx hb dL_dayByClock_12 rfl hl (by decide) rfl (fun ls hl => ?_)
  refine lv_iconst (v := 1) hx hb dL_dayByClock_13 (by decide) ?_
  have hP9 := hP.sub (ws' := []) [] rfl
  have hD9 := hD.sub (ws' := []) [] (by decide) rfl
  refine W.widen (k := 1) (n := 6) (Nat.le_of_ble_eq_true rfl) (Nat.le_of_ble_eq_true rfl) ?_
  exact W.iret (v := 1) hx hb hr (fun t ht hW => ⟨⟨1, (), rfl, rfl, by rw [ht]; exact hP9, hD9⟩, hS.F ht⟩) hS.2.2 dL_dayByClock_14

set_option maxHeartbeats 4000000 in
set_option maxRecDepth 100000 in
/-- the wrapper of missingProofs -/
theorem c_L_missingProofs_thr (l : Launch) (D : va_G) (cA : Nat → ClassId) (sa : Nat → Nat) (h0 b0 p0 u0 r0 a0 t0 s0 o0 p1 p2 p3 p4 p5 p6 p7 p8 p9 : Nat) (i : Int32) (oo : Nat) (fo : Nat → Int64) (sz : Nat) (hl9 : l.stackTraces = false) : Met l yL_missingProofs wsL_missingProofs ({ frames := 9, cells := 1, slots := 6, locals := 158 }) (va_Pc [.ref h0, .int i, .ref oo] (Wd D cA sa [(h0, .inr (10, [.ref b0, .int 0, .ref p0, .ref u0, .ref r0, .ref a0, .ref t0, .ref s0, .ref o0])), (p0, .inr (7, [.int 0, .int 365, .int 0, .int 0, .ref p1, .int 0, .ref p2, .ref p3, .ref p4, .ref p5, .int 0, .ref p6, .int 0, .ref p7, .ref p8, .ref p9, .int 0])), (oo, .inl (cA 1, 1, .inr (.inl fo)))] sz)) (va_Qi (fun (r : Int32) (_ : Unit) => r = 1) (fun (_ : Unit) t => Wq D (va_A [(h0, .inr (10, [.ref b0, .int 0, .ref p0, .ref u0, .ref r0, .ref a0, .ref t0, .ref s0, .ref o0])), (p0, .inr (7, [.int 0, .int 365, .int 0, .int 0, .ref p1, .int 0, .ref p2, .ref p3, .ref p4, .ref p5, .int 0, .ref p6, .int 0, .ref p7, .ref p8, .ref p9, .int 0])), (oo, .inl (cA 1, 1, .inr (.inl fo)))] sz) [] t) (va_A [(h0, .inr (10, [.ref b0, .int 0, .ref p0, .ref u0, .ref r0, .ref a0, .ref t0, .ref s0, .ref o0])), (p0, .inr (7, [.int 0, .int 365, .int 0, .int 0, .ref p1, .int 0, .ref p2, .ref p3, .ref p4, .ref p5, .int 0, .ref p6, .int 0, .ref p7, .ref p8, .ref p9, .int 0])), (oo, .inl (cA 1, 1, .inr (.inl fo)))] sz)) 1 6 (va_A [(h0, .inr (10, [.ref b0, .int 0, .ref p0, .ref u0, .ref r0, .ref a0, .ref t0, .ref s0, .ref o0])), (p0, .inr (7, [.int 0, .int 365, .int 0, .int 0, .ref p1, .int 0, .ref p2, .ref p3, .ref p4, .ref p5, .int 0, .ref p6, .int 0, .ref p7, .ref p8, .ref p9, .int 0])), (oo, .inl (cA 1, 1, .inr (.inl fo)))] sz) := by
  refine va_MetW (cc := cL_missingProofs) (maxL := 4) (ret := (some .int)) (hh := [(0, 9, 12, 18)]) (by decide) rfl ?_
  intro p e s m args below meth c s₁ B hml hv
  obtain ⟨rfl, hsz, hP, hK, hD0, hC, hZ⟩ := hv
  have hx := B.exec
  have hb := B.bytes
  have hr := B.returns
  have hts := atoms_spec (ws := wsL_missingProofs) B.pre
  have hown : s.vm.findClass RL = some m.cls := findClass_of_methodNamed B.named
  have hlocks := B.notSynchronized
  have htab := vx_table (x := yL_missingProofs) B (hts (.codeWith yL_missingProofs cL_missingProofs 4 (some .int) [(0, 9, 12, 18)]) List.mem_cons_self)
  subst hsz
  have hD := hD0.self (sz := s.heap.size)
  generalize hAe : va_A [(h0, .inr (10, [.ref b0, .int 0, .ref p0, .ref u0, .ref r0, .ref a0, .ref t0, .ref s0, .ref o0])), (p0, .inr (7, [.int 0, .int 365, .int 0, .int 0, .ref p1, .int 0, .ref p2, .ref p3, .ref p4, .ref p5, .int 0, .ref p6, .int 0, .ref p7, .ref p8, .ref p9, .int 0])), (oo, .inl (cA 1, 1, .inr (.inl fo)))] s.heap.size = A at hD hZ ⊢
  have hA : ∀ q : Nat, s.heap.size ≤ q → A q := fun q h => by rw [← hAe]; exact Or.inr h
  have hS : va_S A s.heap s.heap [] := va_S.rf
  have hP : va_P D vwCl [(h0, .inr (10, [.ref b0, .int 0, .ref p0, .ref u0, .ref r0, .ref a0, .ref t0, .ref s0, .ref o0])), (p0, .inr (7, [.int 0, .int 365, .int 0, .int 0, .ref p1, .int 0, .ref p2, .ref p3, .ref p4, .ref p5, .int 0, .ref p6, .int 0, .ref p7, .ref p8, .ref p9, .int 0])), (oo, .inl (cA 1, 1, .inr (.inl fo)))] s.heap := hP
  have hl := lv_entry ([.ref h0, .int i, .ref oo]) (n := 4) (Nat.le_of_ble_eq_true rfl)
  rw [lg_entry_eq]
  generalize (lg_sl ([.ref h0, .int i, .ref oo]) ++ List.replicate (4 - (lg_sl ([.ref h0, .int i, .ref oo])).length) Slot.unset).toArray = ls at hl ⊢
  have hl : lv_has ls 4 [(0, .ref h0), (1, .int i), (2, .ref oo)] := hl
  refine lv_aload_n hx hb dL_missingProofs_0 rfl (lv_at hl 2 rfl) ?_
  refine lv_iconst (v := 0) hx hb dL_missingProofs_1 (by decide) ?_
  refine lv_aload_n hx hb dL_missingProofs_2 rfl (lv_at hl 0 rfl) ?_
  refine lv_iload_n hx hb dL_missingProofs_3 rfl (lv_at hl 1 rfl) ?_
  have hPc := hP.sub (ws' := [(h0, .inr (10, [.ref b0, .int 0, .ref p0, .ref u0, .ref r0, .ref a0, .ref t0, .ref s0, .ref o0])), (p0, .inr (7, [.int 0, .int 365, .int 0, .int 0, .ref p1, .int 0, .ref p2, .ref p3, .ref p4, .ref p5, .int 0, .ref p6, .int 0, .ref p7, .ref p8, .ref p9, .int 0]))]) [0, 1] rfl
  have hDc := hD.sub (ws' := [(h0, .inr (10, [.ref b0, .int 0, .ref p0, .ref u0, .ref r0, .ref a0, .ref t0, .ref s0, .ref o0])), (p0, .inr (7, [.int 0, .int 365, .int 0, .int 0, .ref p1, .int 0, .ref p2, .ref p3, .ref p4, .ref p5, .int 0, .ref p6, .int 0, .ref p7, .ref p8, .ref p9, .int 0]))]) [0, 1] (by decide) rfl
  have hFc := va_free (wc := [(h0, .inr (10, [.ref b0, .int 0, .ref p0, .ref u0, .ref r0, .ref a0, .ref t0, .ref s0, .ref o0])), (p0, .inr (7, [.int 0, .int 365, .int 0, .int 0, .ref p1, .int 0, .ref p2, .ref p3, .ref p4, .ref p5, .int 0, .ref p6, .int 0, .ref p7, .ref p8, .ref p9, .int 0]))]) hD hS hA [0, 1] rfl
  refine vx_calli (vx_runV (As := [.int i]) (rest := [.int 0, .ref oo]) ⟨hx, hb, hml, hown, hts⟩ (c_missingProofs_thr l D cA sa h0 b0 p0 u0 r0 a0 t0 s0 o0 p1 p2 p3 p4 p5 p6 p7 p8 p9 i s.heap.size hl9) (cwV 1 hts gL_missingProofs_X9_missingProofs rfl rfl rfl (by decide +kernel) ⟨(Nat.le_of_ble_eq_true rfl), (Nat.le_of_ble_eq_true rfl)⟩) ⟨Wd.blind, va_recv hK hPc (ci := 10) (q0 := 0) rfl rfl, fun U hU hW => ⟨rfl, Wd.call hPc hDc hK hC hZ hS hFc U hU hW⟩⟩ rfl rfl hl.1 rfl (lv_room (Nat.le_of_ble_eq_true rfl)) dL_missingProofs_4 ⟨(Nat.le_of_ble_eq_true rfl), (Nat.le_of_ble_eq_true rfl)⟩) hS (fun q _ h => hFc q h) hFc (fun q _ h => hFc q h) (fun E ce q9 u t H1 locs ht hvm hpx hE hz1 hk1 hS hcell hv9 hcl => ?_) (fun r9 u t H1 locs ht hvm hw hB hz1 hk1 hS => hw.elim)
  have hE : E = "java/lang/IndexOutOfBoundsException" := hE
  subst hE
  refine vx_catch hown [] ⟨0, 9, 12, 18⟩ (tableOf []) (htab.trans rfl) (fun z h => absurd h List.not_mem_nil) (by decide) (by decide) (name := "java/lang/IndexOutOfBoundsException") (hts (.classLink RL 18 "java/lang/IndexOutOfBoundsException") (by decide +kernel)) (hC.c (by decide +kernel)) hcell hv9 hcl ?_
  generalize H1 = H at hS ⊢
  have hP : va_P D vwCl [] H := fun k q h => by simp at h
  have hD : va_D A [] := ⟨fun i j p q h => by simp at h, fun k q h => by simp at h⟩
  refine lv_astore_n (lv' := [(3, .ref q9), (0, .ref h0), (1, .int i), (2, .ref oo)]) hx hb dL_missingProofs_12 rfl hl (by decide) rfl (fun ls hl => ?_)
  refine lv_iconst (v := 1) hx hb dL_missingProofs_13 (by decide) ?_
  have hP9 := hP.sub (ws' := []) [] rfl
  have hD9 := hD.sub (ws' := []) [] (by decide) rfl
  refine W.widen (k := 1) (n := 6) (Nat.le_of_ble_eq_true rfl) (Nat.le_of_ble_eq_true rfl) ?_
  exact W.iret (v := 1) hx hb hr (fun t ht hW => ⟨⟨1, (), rfl, rfl, by rw [ht]; exact hP9, hD9⟩, hS.F ht⟩) hS.2.2 dL_missingProofs_14

set_option maxHeartbeats 4000000 in
set_option maxRecDepth 100000 in
/-- the wrapper of graceLeft -/
theorem c_L_graceLeft_thr (l : Launch) (D : va_G) (cA : Nat → ClassId) (sa : Nat → Nat) (h0 b0 p0 u0 r0 a0 t0 s0 o0 p1 p2 p3 p4 p5 p6 p7 p8 p9 : Nat) (i : Int32) (oo : Nat) (fo : Nat → Int64) (sz : Nat) (hl9 : l.stackTraces = false) : Met l yL_graceLeft wsL_graceLeft ({ frames := 9, cells := 1, slots := 6, locals := 153 }) (va_Pc [.ref h0, .int i, .ref oo] (Wd D cA sa [(h0, .inr (10, [.ref b0, .int 0, .ref p0, .ref u0, .ref r0, .ref a0, .ref t0, .ref s0, .ref o0])), (p0, .inr (7, [.int 0, .int 365, .int 0, .int 0, .ref p1, .int 0, .ref p2, .ref p3, .ref p4, .ref p5, .int 0, .ref p6, .int 0, .ref p7, .ref p8, .ref p9, .int 0])), (oo, .inl (cA 1, 1, .inr (.inl fo)))] sz)) (va_Qi (fun (r : Int32) (_ : Unit) => r = 1) (fun (_ : Unit) t => Wq D (va_A [(h0, .inr (10, [.ref b0, .int 0, .ref p0, .ref u0, .ref r0, .ref a0, .ref t0, .ref s0, .ref o0])), (p0, .inr (7, [.int 0, .int 365, .int 0, .int 0, .ref p1, .int 0, .ref p2, .ref p3, .ref p4, .ref p5, .int 0, .ref p6, .int 0, .ref p7, .ref p8, .ref p9, .int 0])), (oo, .inl (cA 1, 1, .inr (.inl fo)))] sz) [] t) (va_A [(h0, .inr (10, [.ref b0, .int 0, .ref p0, .ref u0, .ref r0, .ref a0, .ref t0, .ref s0, .ref o0])), (p0, .inr (7, [.int 0, .int 365, .int 0, .int 0, .ref p1, .int 0, .ref p2, .ref p3, .ref p4, .ref p5, .int 0, .ref p6, .int 0, .ref p7, .ref p8, .ref p9, .int 0])), (oo, .inl (cA 1, 1, .inr (.inl fo)))] sz)) 1 6 (va_A [(h0, .inr (10, [.ref b0, .int 0, .ref p0, .ref u0, .ref r0, .ref a0, .ref t0, .ref s0, .ref o0])), (p0, .inr (7, [.int 0, .int 365, .int 0, .int 0, .ref p1, .int 0, .ref p2, .ref p3, .ref p4, .ref p5, .int 0, .ref p6, .int 0, .ref p7, .ref p8, .ref p9, .int 0])), (oo, .inl (cA 1, 1, .inr (.inl fo)))] sz) := by
  refine va_MetW (cc := cL_graceLeft) (maxL := 4) (ret := (some .int)) (hh := [(0, 9, 12, 18)]) (by decide) rfl ?_
  intro p e s m args below meth c s₁ B hml hv
  obtain ⟨rfl, hsz, hP, hK, hD0, hC, hZ⟩ := hv
  have hx := B.exec
  have hb := B.bytes
  have hr := B.returns
  have hts := atoms_spec (ws := wsL_graceLeft) B.pre
  have hown : s.vm.findClass RL = some m.cls := findClass_of_methodNamed B.named
  have hlocks := B.notSynchronized
  have htab := vx_table (x := yL_graceLeft) B (hts (.codeWith yL_graceLeft cL_graceLeft 4 (some .int) [(0, 9, 12, 18)]) List.mem_cons_self)
  subst hsz
  have hD := hD0.self (sz := s.heap.size)
  generalize hAe : va_A [(h0, .inr (10, [.ref b0, .int 0, .ref p0, .ref u0, .ref r0, .ref a0, .ref t0, .ref s0, .ref o0])), (p0, .inr (7, [.int 0, .int 365, .int 0, .int 0, .ref p1, .int 0, .ref p2, .ref p3, .ref p4, .ref p5, .int 0, .ref p6, .int 0, .ref p7, .ref p8, .ref p9, .int 0])), (oo, .inl (cA 1, 1, .inr (.inl fo)))] s.heap.size = A at hD hZ ⊢
  have hA : ∀ q : Nat, s.heap.size ≤ q → A q := fun q h => by rw [← hAe]; exact Or.inr h
  have hS : va_S A s.heap s.heap [] := va_S.rf
  have hP : va_P D vwCl [(h0, .inr (10, [.ref b0, .int 0, .ref p0, .ref u0, .ref r0, .ref a0, .ref t0, .ref s0, .ref o0])), (p0, .inr (7, [.int 0, .int 365, .int 0, .int 0, .ref p1, .int 0, .ref p2, .ref p3, .ref p4, .ref p5, .int 0, .ref p6, .int 0, .ref p7, .ref p8, .ref p9, .int 0])), (oo, .inl (cA 1, 1, .inr (.inl fo)))] s.heap := hP
  have hl := lv_entry ([.ref h0, .int i, .ref oo]) (n := 4) (Nat.le_of_ble_eq_true rfl)
  rw [lg_entry_eq]
  generalize (lg_sl ([.ref h0, .int i, .ref oo]) ++ List.replicate (4 - (lg_sl ([.ref h0, .int i, .ref oo])).length) Slot.unset).toArray = ls at hl ⊢
  have hl : lv_has ls 4 [(0, .ref h0), (1, .int i), (2, .ref oo)] := hl
  refine lv_aload_n hx hb dL_graceLeft_0 rfl (lv_at hl 2 rfl) ?_
  refine lv_iconst (v := 0) hx hb dL_graceLeft_1 (by decide) ?_
  refine lv_aload_n hx hb dL_graceLeft_2 rfl (lv_at hl 0 rfl) ?_
  refine lv_iload_n hx hb dL_graceLeft_3 rfl (lv_at hl 1 rfl) ?_
  have hPc := hP.sub (ws' := [(h0, .inr (10, [.ref b0, .int 0, .ref p0, .ref u0, .ref r0, .ref a0, .ref t0, .ref s0, .ref o0])), (p0, .inr (7, [.int 0, .int 365, .int 0, .int 0, .ref p1, .int 0, .ref p2, .ref p3, .ref p4, .ref p5, .int 0, .ref p6, .int 0, .ref p7, .ref p8, .ref p9, .int 0]))]) [0, 1] rfl
  have hDc := hD.sub (ws' := [(h0, .inr (10, [.ref b0, .int 0, .ref p0, .ref u0, .ref r0, .ref a0, .ref t0, .ref s0, .ref o0])), (p0, .inr (7, [.int 0, .int 365, .int 0, .int 0, .ref p1, .int 0, .ref p2, .ref p3, .ref p4, .ref p5, .int 0, .ref p6, .int 0, .ref p7, .ref p8, .ref p9, .int 0]))]) [0, 1] (by decide) rfl
  have hFc := va_free (wc := [(h0, .inr (10, [.ref b0, .int 0, .ref p0, .ref u0, .ref r0, .ref a0, .ref t0, .ref s0, .ref o0])), (p0, .inr (7, [.int 0, .int 365, .int 0, .int 0, .ref p1, .int 0, .ref p2, .ref p3, .ref p4, .ref p5, .int 0, .ref p6, .int 0, .ref p7, .ref p8, .ref p9, .int 0]))]) hD hS hA [0, 1] rfl
  refine vx_calli (vx_runV (As := [.int i]) (rest := [.int 0, .ref oo]) ⟨hx, hb, hml, hown, hts⟩ (c_graceLeft_thr l D cA sa h0 b0 p0 u0 r0 a0 t0 s0 o0 p1 p2 p3 p4 p5 p6 p7 p8 p9 i s.heap.size hl9) (cwV 1 hts gL_graceLeft_X9_graceLeft rfl rfl rfl (by decide +kernel) ⟨(Nat.le_of_ble_eq_true rfl), (Nat.le_of_ble_eq_true rfl)⟩) ⟨Wd.blind, va_recv hK hPc (ci := 10) (q0 := 0) rfl rfl, fun U hU hW => ⟨rfl, Wd.call hPc hDc hK hC hZ hS hFc U hU hW⟩⟩ rfl rfl hl.1 rfl (lv_room (Nat.le_of_ble_eq_true rfl)) dL_graceLeft_4 ⟨(Nat.le_of_ble_eq_true rfl), (Nat.le_of_ble_eq_true rfl)⟩) hS (fun q _ h => hFc q h) hFc (fun q _ h => hFc q h) (fun E ce q9 u t H1 locs ht hvm hpx hE hz1 hk1 hS hcell hv9 hcl => ?_) (fun r9 u t H1 locs ht hvm hw hB hz1 hk1 hS => hw.elim)
  have hE : E = "java/lang/IndexOutOfBoundsException" := hE
  subst hE
  refine vx_catch hown [] ⟨0, 9, 12, 18⟩ (tableOf []) (htab.trans rfl) (fun z h => absurd h List.not_mem_nil) (by decide) (by decide) (name := "java/lang/IndexOutOfBoundsException") (hts (.classLink RL 18 "java/lang/IndexOutOfBoundsException") (by decide +kernel)) (hC.c (by decide +kernel)) hcell hv9 hcl ?_
  generalize H1 = H at hS ⊢
  have hP : va_P D vwCl [] H := fun k q h => by simp at h
  have hD : va_D A [] := ⟨fun i j p q h => by simp at h, fun k q h => by simp at h⟩
  refine lv_astore_n (lv' := [(3, .ref q9), (0, .ref h0), (1, .int i), (2, .ref oo)]) hx hb dL_graceLeft_12 rfl hl (by decide) rfl (fun ls hl => ?_)
  refine lv_iconst (v := 1) hx hb dL_graceLeft_13 (by decide) ?_
  have hP9 := hP.sub (ws' := []) [] rfl
  have hD9 := hD.sub (ws' := []) [] (by decide) rfl
  refine W.widen (k := 1) (n := 6) (Nat.le_of_ble_eq_true rfl) (Nat.le_of_ble_eq_true rfl) ?_
  exact W.iret (v := 1) hx hb hr (fun t ht hW => ⟨⟨1, (), rfl, rfl, by rw [ht]; exact hP9, hD9⟩, hS.F ht⟩) hS.2.2 dL_graceLeft_14

set_option maxHeartbeats 4000000 in
set_option maxRecDepth 100000 in
/-- the wrapper of daysUntilClosed -/
theorem c_L_daysUntilClosed_thr (l : Launch) (D : va_G) (cA : Nat → ClassId) (sa : Nat → Nat) (h0 b0 p0 u0 r0 a0 t0 s0 o0 p1 p2 p3 p4 p5 p6 p7 p8 p9 : Nat) (i : Int32) (oo : Nat) (fo : Nat → Int64) (sz : Nat) (hl9 : l.stackTraces = false) : Met l yL_daysUntilClosed wsL_daysUntilClosed ({ frames := 9, cells := 1, slots := 6, locals := 154 }) (va_Pc [.ref h0, .int i, .ref oo] (Wd D cA sa [(h0, .inr (10, [.ref b0, .int 0, .ref p0, .ref u0, .ref r0, .ref a0, .ref t0, .ref s0, .ref o0])), (p0, .inr (7, [.int 0, .int 365, .int 0, .int 0, .ref p1, .int 0, .ref p2, .ref p3, .ref p4, .ref p5, .int 0, .ref p6, .int 0, .ref p7, .ref p8, .ref p9, .int 0])), (oo, .inl (cA 1, 1, .inr (.inl fo)))] sz)) (va_Qi (fun (r : Int32) (_ : Unit) => r = 1) (fun (_ : Unit) t => Wq D (va_A [(h0, .inr (10, [.ref b0, .int 0, .ref p0, .ref u0, .ref r0, .ref a0, .ref t0, .ref s0, .ref o0])), (p0, .inr (7, [.int 0, .int 365, .int 0, .int 0, .ref p1, .int 0, .ref p2, .ref p3, .ref p4, .ref p5, .int 0, .ref p6, .int 0, .ref p7, .ref p8, .ref p9, .int 0])), (oo, .inl (cA 1, 1, .inr (.inl fo)))] sz) [] t) (va_A [(h0, .inr (10, [.ref b0, .int 0, .ref p0, .ref u0, .ref r0, .ref a0, .ref t0, .ref s0, .ref o0])), (p0, .inr (7, [.int 0, .int 365, .int 0, .int 0, .ref p1, .int 0, .ref p2, .ref p3, .ref p4, .ref p5, .int 0, .ref p6, .int 0, .ref p7, .ref p8, .ref p9, .int 0])), (oo, .inl (cA 1, 1, .inr (.inl fo)))] sz)) 1 6 (va_A [(h0, .inr (10, [.ref b0, .int 0, .ref p0, .ref u0, .ref r0, .ref a0, .ref t0, .ref s0, .ref o0])), (p0, .inr (7, [.int 0, .int 365, .int 0, .int 0, .ref p1, .int 0, .ref p2, .ref p3, .ref p4, .ref p5, .int 0, .ref p6, .int 0, .ref p7, .ref p8, .ref p9, .int 0])), (oo, .inl (cA 1, 1, .inr (.inl fo)))] sz) := by
  refine va_MetW (cc := cL_daysUntilClosed) (maxL := 4) (ret := (some .int)) (hh := [(0, 9, 12, 18)]) (by decide) rfl ?_
  intro p e s m args below meth c s₁ B hml hv
  obtain ⟨rfl, hsz, hP, hK, hD0, hC, hZ⟩ := hv
  have hx := B.exec
  have hb := B.bytes
  have hr := B.returns
  have hts := atoms_spec (ws := wsL_daysUntilClosed) B.pre
  have hown : s.vm.findClass RL = some m.cls := findClass_of_methodNamed B.named
  have hlocks := B.notSynchronized
  have htab := vx_table (x := yL_daysUntilClosed) B (hts (.codeWith yL_daysUntilClosed cL_daysUntilClosed 4 (some .int) [(0, 9, 12, 18)]) List.mem_cons_self)
  subst hsz
  have hD := hD0.self (sz := s.heap.size)
  generalize hAe : va_A [(h0, .inr (10, [.ref b0, .int 0, .ref p0, .ref u0, .ref r0, .ref a0, .ref t0, .ref s0, .ref o0])), (p0, .inr (7, [.int 0, .int 365, .int 0, .int 0, .ref p1, .int 0, .ref p2, .ref p3, .ref p4, .ref p5, .int 0, .ref p6, .int 0, .ref p7, .ref p8, .ref p9, .int 0])), (oo, .inl (cA 1, 1, .inr (.inl fo)))] s.heap.size = A at hD hZ ⊢
  have hA : ∀ q : Nat, s.heap.size ≤ q → A q := fun q h => by rw [← hAe]; exact Or.inr h
  have hS : va_S A s.heap s.heap [] := va_S.rf
  have hP : va_P D vwCl [(h0, .inr (10, [.ref b0, .int 0, .ref p0, .ref u0, .ref r0, .ref a0, .ref t0, .ref s0, .ref o0])), (p0, .inr (7, [.int 0, .int 365, .int 0, .int 0, .ref p1, .int 0, .ref p2, .ref p3, .ref p4, .ref p5, .int 0, .ref p6, .int 0, .ref p7, .ref p8, .ref p9, .int 0])), (oo, .inl (cA 1, 1, .inr (.inl fo)))] s.heap := hP
  have hl := lv_entry ([.ref h0, .int i, .ref oo]) (n := 4) (Nat.le_of_ble_eq_true rfl)
  rw [lg_entry_eq]
  generalize (lg_sl ([.ref h0, .int i, .ref oo]) ++ List.replicate (4 - (lg_sl ([.ref h0, .int i, .ref oo])).length) Slot.unset).toArray = ls at hl ⊢
  have hl : lv_has ls 4 [(0, .ref h0), (1, .int i), (2, .ref oo)] := hl
  refine lv_aload_n hx hb dL_daysUntilClosed_0 rfl (lv_at hl 2 rfl) ?_
  refine lv_iconst (v := 0) hx hb dL_daysUntilClosed_1 (by decide) ?_
  refine lv_aload_n hx hb dL_daysUntilClosed_2 rfl (lv_at hl 0 rfl) ?_
  refine lv_iload_n hx hb dL_daysUntilClosed_3 rfl (lv_at hl 1 rfl) ?_
  have hPc := hP.sub (ws' := [(h0, .inr (10, [.ref b0, .int 0, .ref p0, .ref u0, .ref r0, .ref a0, .ref t0, .ref s0, .ref o0])), (p0, .inr (7, [.int 0, .int 365, .int 0, .int 0, .ref p1, .int 0, .ref p2, .ref p3, .ref p4, .ref p5, .int 0, .ref p6, .int 0, .ref p7, .ref p8, .ref p9, .int 0]))]) [0, 1] rfl
  have hDc := hD.sub (ws' := [(h0, .inr (10, [.ref b0, .int 0, .ref p0, .ref u0, .ref r0, .ref a0, .ref t0, .ref s0, .ref o0])), (p0, .inr (7, [.int 0, .int 365, .int 0, .int 0, .ref p1, .int 0, .ref p2, .ref p3, .ref p4, .ref p5, .int 0, .ref p6, .int 0, .ref p7, .ref p8, .ref p9, .int 0]))]) [0, 1] (by decide) rfl
  have hFc := va_free (wc := [(h0, .inr (10, [.ref b0, .int 0, .ref p0, .ref u0, .ref r0, .ref a0, .ref t0, .ref s0, .ref o0])), (p0, .inr (7, [.int 0, .int 365, .int 0, .int 0, .ref p1, .int 0, .ref p2, .ref p3, .ref p4, .ref p5, .int 0, .ref p6, .int 0, .ref p7, .ref p8, .ref p9, .int 0]))]) hD hS hA [0, 1] rfl
  refine vx_calli (vx_runV (As := [.int i]) (rest := [.int 0, .ref oo]) ⟨hx, hb, hml, hown, hts⟩ (c_daysUntilClosed_thr l D cA sa h0 b0 p0 u0 r0 a0 t0 s0 o0 p1 p2 p3 p4 p5 p6 p7 p8 p9 i s.heap.size hl9) (cwV 1 hts gL_daysUntilClosed_X9_daysUntilClosed rfl rfl rfl (by decide +kernel) ⟨(Nat.le_of_ble_eq_true rfl), (Nat.le_of_ble_eq_true rfl)⟩) ⟨Wd.blind, va_recv hK hPc (ci := 10) (q0 := 0) rfl rfl, fun U hU hW => ⟨rfl, Wd.call hPc hDc hK hC hZ hS hFc U hU hW⟩⟩ rfl rfl hl.1 rfl (lv_room (Nat.le_of_ble_eq_true rfl)) dL_daysUntilClosed_4 ⟨(Nat.le_of_ble_eq_true rfl), (Nat.le_of_ble_eq_true rfl)⟩) hS (fun q _ h => hFc q h) hFc (fun q _ h => hFc q h) (fun E ce q9 u t H1 locs ht hvm hpx hE hz1 hk1 hS hcell hv9 hcl => ?_) (fun r9 u t H1 locs ht hvm hw hB hz1 hk1 hS => hw.elim)
  have hE : E = "java/lang/IndexOutOfBoundsException" := hE
  subst hE
  refine vx_catch hown [] ⟨0, 9, 12, 18⟩ (tableOf []) (htab.trans rfl) (fun z h => absurd h List.not_mem_nil) (by decide) (by decide) (name := "java/lang/IndexOutOfBoundsException") (hts (.classLink RL 18 "java/lang/IndexOutOfBoundsException") (by decide +kernel)) (hC.c (by decide +kernel)) hcell hv9 hcl ?_
  generalize H1 = H at hS ⊢
  have hP : va_P D vwCl [] H := fun k q h => by simp at h
  have hD : va_D A [] := ⟨fun i j p q h => by simp at h, fun k q h => by simp at h⟩
  refine lv_astore_n (lv' := [(3, .ref q9), (0, .ref h0), (1, .int i), (2, .ref oo)]) hx hb dL_daysUntilClosed_12 rfl hl (by decide) rfl (fun ls hl => ?_)
  refine lv_iconst (v := 1) hx hb dL_daysUntilClosed_13 (by decide) ?_
  have hP9 := hP.sub (ws' := []) [] rfl
  have hD9 := hD.sub (ws' := []) [] (by decide) rfl
  refine W.widen (k := 1) (n := 6) (Nat.le_of_ble_eq_true rfl) (Nat.le_of_ble_eq_true rfl) ?_
  exact W.iret (v := 1) hx hb hr (fun t ht hW => ⟨⟨1, (), rfl, rfl, by rw [ht]; exact hP9, hD9⟩, hS.F ht⟩) hS.2.2 dL_daysUntilClosed_14

set_option maxHeartbeats 4000000 in
set_option maxRecDepth 100000 in
/-- the wrapper of approve -/
theorem c_L_approve_thr (l : Launch) (D : va_G) (cA : Nat → ClassId) (sa : Nat → Nat) (h0 b0 p0 u0 r0 a0 t0 s0 o0 p1 p2 p3 p4 p5 p6 p7 p8 p9 : Nat) (i : Int32) (oo : Nat) (fo : Nat → Int64) (sz : Nat) (hl9 : l.stackTraces = false) : Met l yL_approve wsL_approve ({ frames := 9, cells := 1, slots := 6, locals := 153 }) (va_Pc [.ref h0, .int i, .ref oo] (Wd D cA sa [(h0, .inr (10, [.ref b0, .int 0, .ref p0, .ref u0, .ref r0, .ref a0, .ref t0, .ref s0, .ref o0])), (p0, .inr (7, [.int 0, .int 365, .int 0, .int 0, .ref p1, .int 0, .ref p2, .ref p3, .ref p4, .ref p5, .int 0, .ref p6, .int 0, .ref p7, .ref p8, .ref p9, .int 0])), (oo, .inl (cA 1, 1, .inr (.inl fo)))] sz)) (va_Qi (fun (r : Int32) (_ : Unit) => r = 1) (fun (_ : Unit) t => Wq D (va_A [(h0, .inr (10, [.ref b0, .int 0, .ref p0, .ref u0, .ref r0, .ref a0, .ref t0, .ref s0, .ref o0])), (p0, .inr (7, [.int 0, .int 365, .int 0, .int 0, .ref p1, .int 0, .ref p2, .ref p3, .ref p4, .ref p5, .int 0, .ref p6, .int 0, .ref p7, .ref p8, .ref p9, .int 0])), (oo, .inl (cA 1, 1, .inr (.inl fo)))] sz) [] t) (va_A [(h0, .inr (10, [.ref b0, .int 0, .ref p0, .ref u0, .ref r0, .ref a0, .ref t0, .ref s0, .ref o0])), (p0, .inr (7, [.int 0, .int 365, .int 0, .int 0, .ref p1, .int 0, .ref p2, .ref p3, .ref p4, .ref p5, .int 0, .ref p6, .int 0, .ref p7, .ref p8, .ref p9, .int 0])), (oo, .inl (cA 1, 1, .inr (.inl fo)))] sz)) 1 6 (va_A [(h0, .inr (10, [.ref b0, .int 0, .ref p0, .ref u0, .ref r0, .ref a0, .ref t0, .ref s0, .ref o0])), (p0, .inr (7, [.int 0, .int 365, .int 0, .int 0, .ref p1, .int 0, .ref p2, .ref p3, .ref p4, .ref p5, .int 0, .ref p6, .int 0, .ref p7, .ref p8, .ref p9, .int 0])), (oo, .inl (cA 1, 1, .inr (.inl fo)))] sz) := by
  refine va_MetW (cc := cL_approve) (maxL := 4) (ret := (some .int)) (hh := [(0, 16, 19, 18), (0, 16, 22, 75)]) (by decide) rfl ?_
  intro p e s m args below meth c s₁ B hml hv
  obtain ⟨rfl, hsz, hP, hK, hD0, hC, hZ⟩ := hv
  have hx := B.exec
  have hb := B.bytes
  have hr := B.returns
  have hts := atoms_spec (ws := wsL_approve) B.pre
  have hown : s.vm.findClass RL = some m.cls := findClass_of_methodNamed B.named
  have hlocks := B.notSynchronized
  have htab := vx_table (x := yL_approve) B (hts (.codeWith yL_approve cL_approve 4 (some .int) [(0, 16, 19, 18), (0, 16, 22, 75)]) List.mem_cons_self)
  subst hsz
  have hD := hD0.self (sz := s.heap.size)
  generalize hAe : va_A [(h0, .inr (10, [.ref b0, .int 0, .ref p0, .ref u0, .ref r0, .ref a0, .ref t0, .ref s0, .ref o0])), (p0, .inr (7, [.int 0, .int 365, .int 0, .int 0, .ref p1, .int 0, .ref p2, .ref p3, .ref p4, .ref p5, .int 0, .ref p6, .int 0, .ref p7, .ref p8, .ref p9, .int 0])), (oo, .inl (cA 1, 1, .inr (.inl fo)))] s.heap.size = A at hD hZ ⊢
  have hA : ∀ q : Nat, s.heap.size ≤ q → A q := fun q h => by rw [← hAe]; exact Or.inr h
  have hS : va_S A s.heap s.heap [] := va_S.rf
  have hP : va_P D vwCl [(h0, .inr (10, [.ref b0, .int 0, .ref p0, .ref u0, .ref r0, .ref a0, .ref t0, .ref s0, .ref o0])), (p0, .inr (7, [.int 0, .int 365, .int 0, .int 0, .ref p1, .int 0, .ref p2, .ref p3, .ref p4, .ref p5, .int 0, .ref p6, .int 0, .ref p7, .ref p8, .ref p9, .int 0])), (oo, .inl (cA 1, 1, .inr (.inl fo)))] s.heap := hP
  have hl := lv_entry ([.ref h0, .int i, .ref oo]) (n := 4) (Nat.le_of_ble_eq_true rfl)
  rw [lg_entry_eq]
  generalize (lg_sl ([.ref h0, .int i, .ref oo]) ++ List.replicate (4 - (lg_sl ([.ref h0, .int i, .ref oo])).length) Slot.unset).toArray = ls at hl ⊢
  have hl : lv_has ls 4 [(0, .ref h0), (1, .int i), (2, .ref oo)] := hl
  refine lv_aload_n hx hb dL_approve_0 rfl (lv_at hl 2 rfl) ?_
  refine lv_iconst (v := 0) hx hb dL_approve_1 (by decide) ?_
  refine lv_aload_n hx hb dL_approve_2 rfl (lv_at hl 0 rfl) ?_
  refine lv_iload_n hx hb dL_approve_3 rfl (lv_at hl 1 rfl) ?_
  have hPc := hP.sub (ws' := [(h0, .inr (10, [.ref b0, .int 0, .ref p0, .ref u0, .ref r0, .ref a0, .ref t0, .ref s0, .ref o0])), (p0, .inr (7, [.int 0, .int 365, .int 0, .int 0, .ref p1, .int 0, .ref p2, .ref p3, .ref p4, .ref p5, .int 0, .ref p6, .int 0, .ref p7, .ref p8, .ref p9, .int 0]))]) [0, 1] rfl
  have hDc := hD.sub (ws' := [(h0, .inr (10, [.ref b0, .int 0, .ref p0, .ref u0, .ref r0, .ref a0, .ref t0, .ref s0, .ref o0])), (p0, .inr (7, [.int 0, .int 365, .int 0, .int 0, .ref p1, .int 0, .ref p2, .ref p3, .ref p4, .ref p5, .int 0, .ref p6, .int 0, .ref p7, .ref p8, .ref p9, .int 0]))]) [0, 1] (by decide) rfl
  have hFc := va_free (wc := [(h0, .inr (10, [.ref b0, .int 0, .ref p0, .ref u0, .ref r0, .ref a0, .ref t0, .ref s0, .ref o0])), (p0, .inr (7, [.int 0, .int 365, .int 0, .int 0, .ref p1, .int 0, .ref p2, .ref p3, .ref p4, .ref p5, .int 0, .ref p6, .int 0, .ref p7, .ref p8, .ref p9, .int 0]))]) hD hS hA [0, 1] rfl
  refine vx_calli (vx_runV (As := [.int i]) (rest := [.int 0, .ref oo]) ⟨hx, hb, hml, hown, hts⟩ (c_approve_thr l D cA sa h0 b0 p0 u0 r0 a0 t0 s0 o0 p1 p2 p3 p4 p5 p6 p7 p8 p9 i s.heap.size hl9) (cwV 1 hts gL_approve_X9_approve rfl rfl rfl (by decide +kernel) ⟨(Nat.le_of_ble_eq_true rfl), (Nat.le_of_ble_eq_true rfl)⟩) ⟨Wd.blind, va_recv hK hPc (ci := 10) (q0 := 0) rfl rfl, fun U hU hW => ⟨rfl, Wd.call hPc hDc hK hC hZ hS hFc U hU hW⟩⟩ rfl rfl hl.1 rfl (lv_room (Nat.le_of_ble_eq_true rfl)) dL_approve_4 ⟨(Nat.le_of_ble_eq_true rfl), (Nat.le_of_ble_eq_true rfl)⟩) hS (fun q _ h => hFc q h) hFc (fun q _ h => hFc q h) (fun E ce q9 u t H1 locs ht hvm hpx hE hz1 hk1 hS hcell hv9 hcl => ?_) (fun r9 u t H1 locs ht hvm hw hB hz1 hk1 hS => hw.elim)
  have hE : E = "java/lang/IndexOutOfBoundsException" := hE
  subst hE
  refine vx_catch hown [] ⟨0, 16, 19, 18⟩ (tableOf [(0, 16, 22, 75)]) (htab.trans rfl) (fun z h => absurd h List.not_mem_nil) (by decide) (by decide) (name := "java/lang/IndexOutOfBoundsException") (hts (.classLink RL 18 "java/lang/IndexOutOfBoundsException") (by decide +kernel)) (hC.c (by decide +kernel)) hcell hv9 hcl ?_
  generalize H1 = H at hS ⊢
  have hP : va_P D vwCl [] H := fun k q h => by simp at h
  have hD : va_D A [] := ⟨fun i j p q h => by simp at h, fun k q h => by simp at h⟩
  refine lv_astore_n (lv' := [(3, .ref q9), (0, .ref h0), (1, .int i), (2, .ref oo)]) hx hb dL_approve_19 rfl hl (by decide) rfl (fun ls hl => ?_)
  refine lv_iconst (v := 1) hx hb dL_approve_20 (by decide) ?_
  have hP9 := hP.sub (ws' := []) [] rfl
  have hD9 := hD.sub (ws' := []) [] (by decide) rfl
  refine W.widen (k := 1) (n := 6) (Nat.le_of_ble_eq_true rfl) (Nat.le_of_ble_eq_true rfl) ?_
  exact W.iret (v := 1) hx hb hr (fun t ht hW => ⟨⟨1, (), rfl, rfl, by rw [ht]; exact hP9, hD9⟩, hS.F ht⟩) hS.2.2 dL_approve_21

set_option maxHeartbeats 4000000 in
set_option maxRecDepth 100000 in
/-- the wrapper of dispute -/
theorem c_L_dispute_thr (l : Launch) (D : va_G) (cA : Nat → ClassId) (sa : Nat → Nat) (h0 b0 p0 u0 r0 a0 t0 s0 o0 p1 p2 p3 p4 p5 p6 p7 p8 p9 : Nat) (i : Int32) (oo : Nat) (fo : Nat → Int64) (sz : Nat) (hl9 : l.stackTraces = false) : Met l yL_dispute wsL_dispute ({ frames := 9, cells := 1, slots := 6, locals := 153 }) (va_Pc [.ref h0, .int i, .ref oo] (Wd D cA sa [(h0, .inr (10, [.ref b0, .int 0, .ref p0, .ref u0, .ref r0, .ref a0, .ref t0, .ref s0, .ref o0])), (p0, .inr (7, [.int 0, .int 365, .int 0, .int 0, .ref p1, .int 0, .ref p2, .ref p3, .ref p4, .ref p5, .int 0, .ref p6, .int 0, .ref p7, .ref p8, .ref p9, .int 0])), (oo, .inl (cA 1, 1, .inr (.inl fo)))] sz)) (va_Qi (fun (r : Int32) (_ : Unit) => r = 1) (fun (_ : Unit) t => Wq D (va_A [(h0, .inr (10, [.ref b0, .int 0, .ref p0, .ref u0, .ref r0, .ref a0, .ref t0, .ref s0, .ref o0])), (p0, .inr (7, [.int 0, .int 365, .int 0, .int 0, .ref p1, .int 0, .ref p2, .ref p3, .ref p4, .ref p5, .int 0, .ref p6, .int 0, .ref p7, .ref p8, .ref p9, .int 0])), (oo, .inl (cA 1, 1, .inr (.inl fo)))] sz) [] t) (va_A [(h0, .inr (10, [.ref b0, .int 0, .ref p0, .ref u0, .ref r0, .ref a0, .ref t0, .ref s0, .ref o0])), (p0, .inr (7, [.int 0, .int 365, .int 0, .int 0, .ref p1, .int 0, .ref p2, .ref p3, .ref p4, .ref p5, .int 0, .ref p6, .int 0, .ref p7, .ref p8, .ref p9, .int 0])), (oo, .inl (cA 1, 1, .inr (.inl fo)))] sz)) 1 6 (va_A [(h0, .inr (10, [.ref b0, .int 0, .ref p0, .ref u0, .ref r0, .ref a0, .ref t0, .ref s0, .ref o0])), (p0, .inr (7, [.int 0, .int 365, .int 0, .int 0, .ref p1, .int 0, .ref p2, .ref p3, .ref p4, .ref p5, .int 0, .ref p6, .int 0, .ref p7, .ref p8, .ref p9, .int 0])), (oo, .inl (cA 1, 1, .inr (.inl fo)))] sz) := by
  refine va_MetW (cc := cL_dispute) (maxL := 4) (ret := (some .int)) (hh := [(0, 9, 12, 18), (0, 9, 15, 75)]) (by decide) rfl ?_
  intro p e s m args below meth c s₁ B hml hv
  obtain ⟨rfl, hsz, hP, hK, hD0, hC, hZ⟩ := hv
  have hx := B.exec
  have hb := B.bytes
  have hr := B.returns
  have hts := atoms_spec (ws := wsL_dispute) B.pre
  have hown : s.vm.findClass RL = some m.cls := findClass_of_methodNamed B.named
  have hlocks := B.notSynchronized
  have htab := vx_table (x := yL_dispute) B (hts (.codeWith yL_dispute cL_dispute 4 (some .int) [(0, 9, 12, 18), (0, 9, 15, 75)]) List.mem_cons_self)
  subst hsz
  have hD := hD0.self (sz := s.heap.size)
  generalize hAe : va_A [(h0, .inr (10, [.ref b0, .int 0, .ref p0, .ref u0, .ref r0, .ref a0, .ref t0, .ref s0, .ref o0])), (p0, .inr (7, [.int 0, .int 365, .int 0, .int 0, .ref p1, .int 0, .ref p2, .ref p3, .ref p4, .ref p5, .int 0, .ref p6, .int 0, .ref p7, .ref p8, .ref p9, .int 0])), (oo, .inl (cA 1, 1, .inr (.inl fo)))] s.heap.size = A at hD hZ ⊢
  have hA : ∀ q : Nat, s.heap.size ≤ q → A q := fun q h => by rw [← hAe]; exact Or.inr h
  have hS : va_S A s.heap s.heap [] := va_S.rf
  have hP : va_P D vwCl [(h0, .inr (10, [.ref b0, .int 0, .ref p0, .ref u0, .ref r0, .ref a0, .ref t0, .ref s0, .ref o0])), (p0, .inr (7, [.int 0, .int 365, .int 0, .int 0, .ref p1, .int 0, .ref p2, .ref p3, .ref p4, .ref p5, .int 0, .ref p6, .int 0, .ref p7, .ref p8, .ref p9, .int 0])), (oo, .inl (cA 1, 1, .inr (.inl fo)))] s.heap := hP
  have hl := lv_entry ([.ref h0, .int i, .ref oo]) (n := 4) (Nat.le_of_ble_eq_true rfl)
  rw [lg_entry_eq]
  generalize (lg_sl ([.ref h0, .int i, .ref oo]) ++ List.replicate (4 - (lg_sl ([.ref h0, .int i, .ref oo])).length) Slot.unset).toArray = ls at hl ⊢
  have hl : lv_has ls 4 [(0, .ref h0), (1, .int i), (2, .ref oo)] := hl
  refine lv_aload_n hx hb dL_dispute_0 rfl (lv_at hl 2 rfl) ?_
  refine lv_iconst (v := 0) hx hb dL_dispute_1 (by decide) ?_
  refine lv_aload_n hx hb dL_dispute_2 rfl (lv_at hl 0 rfl) ?_
  refine lv_iload_n hx hb dL_dispute_3 rfl (lv_at hl 1 rfl) ?_
  have hPc := hP.sub (ws' := [(h0, .inr (10, [.ref b0, .int 0, .ref p0, .ref u0, .ref r0, .ref a0, .ref t0, .ref s0, .ref o0])), (p0, .inr (7, [.int 0, .int 365, .int 0, .int 0, .ref p1, .int 0, .ref p2, .ref p3, .ref p4, .ref p5, .int 0, .ref p6, .int 0, .ref p7, .ref p8, .ref p9, .int 0]))]) [0, 1] rfl
  have hDc := hD.sub (ws' := [(h0, .inr (10, [.ref b0, .int 0, .ref p0, .ref u0, .ref r0, .ref a0, .ref t0, .ref s0, .ref o0])), (p0, .inr (7, [.int 0, .int 365, .int 0, .int 0, .ref p1, .int 0, .ref p2, .ref p3, .ref p4, .ref p5, .int 0, .ref p6, .int 0, .ref p7, .ref p8, .ref p9, .int 0]))]) [0, 1] (by decide) rfl
  have hFc := va_free (wc := [(h0, .inr (10, [.ref b0, .int 0, .ref p0, .ref u0, .ref r0, .ref a0, .ref t0, .ref s0, .ref o0])), (p0, .inr (7, [.int 0, .int 365, .int 0, .int 0, .ref p1, .int 0, .ref p2, .ref p3, .ref p4, .ref p5, .int 0, .ref p6, .int 0, .ref p7, .ref p8, .ref p9, .int 0]))]) hD hS hA [0, 1] rfl
  refine vx_calli (vx_runV (As := [.int i]) (rest := [.int 0, .ref oo]) ⟨hx, hb, hml, hown, hts⟩ (c_dispute_thr l D cA sa h0 b0 p0 u0 r0 a0 t0 s0 o0 p1 p2 p3 p4 p5 p6 p7 p8 p9 i s.heap.size hl9) (cwV 1 hts gL_dispute_X9_dispute rfl rfl rfl (by decide +kernel) ⟨(Nat.le_of_ble_eq_true rfl), (Nat.le_of_ble_eq_true rfl)⟩) ⟨Wd.blind, va_recv hK hPc (ci := 10) (q0 := 0) rfl rfl, fun U hU hW => ⟨rfl, Wd.call hPc hDc hK hC hZ hS hFc U hU hW⟩⟩ rfl rfl hl.1 rfl (lv_room (Nat.le_of_ble_eq_true rfl)) dL_dispute_4 ⟨(Nat.le_of_ble_eq_true rfl), (Nat.le_of_ble_eq_true rfl)⟩) hS (fun q _ h => hFc q h) hFc (fun q _ h => hFc q h) (fun E ce q9 u t H1 locs ht hvm hpx hE hz1 hk1 hS hcell hv9 hcl => ?_) (fun r9 u t H1 locs ht hvm hw hB hz1 hk1 hS => hw.elim)
  have hE : E = "java/lang/IndexOutOfBoundsException" := hE
  subst hE
  refine vx_catch hown [] ⟨0, 9, 12, 18⟩ (tableOf [(0, 9, 15, 75)]) (htab.trans rfl) (fun z h => absurd h List.not_mem_nil) (by decide) (by decide) (name := "java/lang/IndexOutOfBoundsException") (hts (.classLink RL 18 "java/lang/IndexOutOfBoundsException") (by decide +kernel)) (hC.c (by decide +kernel)) hcell hv9 hcl ?_
  generalize H1 = H at hS ⊢
  have hP : va_P D vwCl [] H := fun k q h => by simp at h
  have hD : va_D A [] := ⟨fun i j p q h => by simp at h, fun k q h => by simp at h⟩
  refine lv_astore_n (lv' := [(3, .ref q9), (0, .ref h0), (1, .int i), (2, .ref oo)]) hx hb dL_dispute_12 rfl hl (by decide) rfl (fun ls hl => ?_)
  refine lv_iconst (v := 1) hx hb dL_dispute_13 (by decide) ?_
  have hP9 := hP.sub (ws' := []) [] rfl
  have hD9 := hD.sub (ws' := []) [] (by decide) rfl
  refine W.widen (k := 1) (n := 6) (Nat.le_of_ble_eq_true rfl) (Nat.le_of_ble_eq_true rfl) ?_
  exact W.iret (v := 1) hx hb hr (fun t ht hW => ⟨⟨1, (), rfl, rfl, by rw [ht]; exact hP9, hD9⟩, hS.F ht⟩) hS.2.2 dL_dispute_14

set_option maxHeartbeats 4000000 in
set_option maxRecDepth 100000 in
/-- the wrapper of withdraw -/
theorem c_L_withdraw_thr (l : Launch) (D : va_G) (cA : Nat → ClassId) (sa : Nat → Nat) (h0 b0 p0 u0 r0 a0 t0 s0 o0 p1 p2 p3 p4 p5 p6 p7 p8 p9 : Nat) (i : Int32) (oo : Nat) (fo : Nat → Int64) (sz : Nat) (hl9 : l.stackTraces = false) : Met l yL_withdraw wsL_withdraw ({ frames := 9, cells := 1, slots := 6, locals := 153 }) (va_Pc [.ref h0, .int i, .ref oo] (Wd D cA sa [(h0, .inr (10, [.ref b0, .int 0, .ref p0, .ref u0, .ref r0, .ref a0, .ref t0, .ref s0, .ref o0])), (p0, .inr (7, [.int 0, .int 365, .int 0, .int 0, .ref p1, .int 0, .ref p2, .ref p3, .ref p4, .ref p5, .int 0, .ref p6, .int 0, .ref p7, .ref p8, .ref p9, .int 0])), (oo, .inl (cA 1, 1, .inr (.inl fo)))] sz)) (va_Qi (fun (r : Int32) (_ : Unit) => r = 1) (fun (_ : Unit) t => Wq D (va_A [(h0, .inr (10, [.ref b0, .int 0, .ref p0, .ref u0, .ref r0, .ref a0, .ref t0, .ref s0, .ref o0])), (p0, .inr (7, [.int 0, .int 365, .int 0, .int 0, .ref p1, .int 0, .ref p2, .ref p3, .ref p4, .ref p5, .int 0, .ref p6, .int 0, .ref p7, .ref p8, .ref p9, .int 0])), (oo, .inl (cA 1, 1, .inr (.inl fo)))] sz) [] t) (va_A [(h0, .inr (10, [.ref b0, .int 0, .ref p0, .ref u0, .ref r0, .ref a0, .ref t0, .ref s0, .ref o0])), (p0, .inr (7, [.int 0, .int 365, .int 0, .int 0, .ref p1, .int 0, .ref p2, .ref p3, .ref p4, .ref p5, .int 0, .ref p6, .int 0, .ref p7, .ref p8, .ref p9, .int 0])), (oo, .inl (cA 1, 1, .inr (.inl fo)))] sz)) 1 6 (va_A [(h0, .inr (10, [.ref b0, .int 0, .ref p0, .ref u0, .ref r0, .ref a0, .ref t0, .ref s0, .ref o0])), (p0, .inr (7, [.int 0, .int 365, .int 0, .int 0, .ref p1, .int 0, .ref p2, .ref p3, .ref p4, .ref p5, .int 0, .ref p6, .int 0, .ref p7, .ref p8, .ref p9, .int 0])), (oo, .inl (cA 1, 1, .inr (.inl fo)))] sz) := by
  refine va_MetW (cc := cL_withdraw) (maxL := 4) (ret := (some .int)) (hh := [(0, 9, 12, 18), (0, 9, 15, 75)]) (by decide) rfl ?_
  intro p e s m args below meth c s₁ B hml hv
  obtain ⟨rfl, hsz, hP, hK, hD0, hC, hZ⟩ := hv
  have hx := B.exec
  have hb := B.bytes
  have hr := B.returns
  have hts := atoms_spec (ws := wsL_withdraw) B.pre
  have hown : s.vm.findClass RL = some m.cls := findClass_of_methodNamed B.named
  have hlocks := B.notSynchronized
  have htab := vx_table (x := yL_withdraw) B (hts (.codeWith yL_withdraw cL_withdraw 4 (some .int) [(0, 9, 12, 18), (0, 9, 15, 75)]) List.mem_cons_self)
  subst hsz
  have hD := hD0.self (sz := s.heap.size)
  generalize hAe : va_A [(h0, .inr (10, [.ref b0, .int 0, .ref p0, .ref u0, .ref r0, .ref a0, .ref t0, .ref s0, .ref o0])), (p0, .inr (7, [.int 0, .int 365, .int 0, .int 0, .ref p1, .int 0, .ref p2, .ref p3, .ref p4, .ref p5, .int 0, .ref p6, .int 0, .ref p7, .ref p8, .ref p9, .int 0])), (oo, .inl (cA 1, 1, .inr (.inl fo)))] s.heap.size = A at hD hZ ⊢
  have hA : ∀ q : Nat, s.heap.size ≤ q → A q := fun q h => by rw [← hAe]; exact Or.inr h
  have hS : va_S A s.heap s.heap [] := va_S.rf
  have hP : va_P D vwCl [(h0, .inr (10, [.ref b0, .int 0, .ref p0, .ref u0, .ref r0, .ref a0, .ref t0, .ref s0, .ref o0])), (p0, .inr (7, [.int 0, .int 365, .int 0, .int 0, .ref p1, .int 0, .ref p2, .ref p3, .ref p4, .ref p5, .int 0, .ref p6, .int 0, .ref p7, .ref p8, .ref p9, .int 0])), (oo, .inl (cA 1, 1, .inr (.inl fo)))] s.heap := hP
  have hl := lv_entry ([.ref h0, .int i, .ref oo]) (n := 4) (Nat.le_of_ble_eq_true rfl)
  rw [lg_entry_eq]
  generalize (lg_sl ([.ref h0, .int i, .ref oo]) ++ List.replicate (4 - (lg_sl ([.ref h0, .int i, .ref oo])).length) Slot.unset).toArray = ls at hl ⊢
  have hl : lv_has ls 4 [(0, .ref h0), (1, .int i), (2, .ref oo)] := hl
  refine lv_aload_n hx hb dL_withdraw_0 rfl (lv_at hl 2 rfl) ?_
  refine lv_iconst (v := 0) hx hb dL_withdraw_1 (by decide) ?_
  refine lv_aload_n hx hb dL_withdraw_2 rfl (lv_at hl 0 rfl) ?_
  refine lv_iload_n hx hb dL_withdraw_3 rfl (lv_at hl 1 rfl) ?_
  have hPc := hP.sub (ws' := [(h0, .inr (10, [.ref b0, .int 0, .ref p0, .ref u0, .ref r0, .ref a0, .ref t0, .ref s0, .ref o0])), (p0, .inr (7, [.int 0, .int 365, .int 0, .int 0, .ref p1, .int 0, .ref p2, .ref p3, .ref p4, .ref p5, .int 0, .ref p6, .int 0, .ref p7, .ref p8, .ref p9, .int 0]))]) [0, 1] rfl
  have hDc := hD.sub (ws' := [(h0, .inr (10, [.ref b0, .int 0, .ref p0, .ref u0, .ref r0, .ref a0, .ref t0, .ref s0, .ref o0])), (p0, .inr (7, [.int 0, .int 365, .int 0, .int 0, .ref p1, .int 0, .ref p2, .ref p3, .ref p4, .ref p5, .int 0, .ref p6, .int 0, .ref p7, .ref p8, .ref p9, .int 0]))]) [0, 1] (by decide) rfl
  have hFc := va_free (wc := [(h0, .inr (10, [.ref b0, .int 0, .ref p0, .ref u0, .ref r0, .ref a0, .ref t0, .ref s0, .ref o0])), (p0, .inr (7, [.int 0, .int 365, .int 0, .int 0, .ref p1, .int 0, .ref p2, .ref p3, .ref p4, .ref p5, .int 0, .ref p6, .int 0, .ref p7, .ref p8, .ref p9, .int 0]))]) hD hS hA [0, 1] rfl
  refine vx_calli (vx_runV (As := [.int i]) (rest := [.int 0, .ref oo]) ⟨hx, hb, hml, hown, hts⟩ (c_withdraw_thr l D cA sa h0 b0 p0 u0 r0 a0 t0 s0 o0 p1 p2 p3 p4 p5 p6 p7 p8 p9 i s.heap.size hl9) (cwV 1 hts gL_withdraw_X9_withdraw rfl rfl rfl (by decide +kernel) ⟨(Nat.le_of_ble_eq_true rfl), (Nat.le_of_ble_eq_true rfl)⟩) ⟨Wd.blind, va_recv hK hPc (ci := 10) (q0 := 0) rfl rfl, fun U hU hW => ⟨rfl, Wd.call hPc hDc hK hC hZ hS hFc U hU hW⟩⟩ rfl rfl hl.1 rfl (lv_room (Nat.le_of_ble_eq_true rfl)) dL_withdraw_4 ⟨(Nat.le_of_ble_eq_true rfl), (Nat.le_of_ble_eq_true rfl)⟩) hS (fun q _ h => hFc q h) hFc (fun q _ h => hFc q h) (fun E ce q9 u t H1 locs ht hvm hpx hE hz1 hk1 hS hcell hv9 hcl => ?_) (fun r9 u t H1 locs ht hvm hw hB hz1 hk1 hS => hw.elim)
  have hE : E = "java/lang/IndexOutOfBoundsException" := hE
  subst hE
  refine vx_catch hown [] ⟨0, 9, 12, 18⟩ (tableOf [(0, 9, 15, 75)]) (htab.trans rfl) (fun z h => absurd h List.not_mem_nil) (by decide) (by decide) (name := "java/lang/IndexOutOfBoundsException") (hts (.classLink RL 18 "java/lang/IndexOutOfBoundsException") (by decide +kernel)) (hC.c (by decide +kernel)) hcell hv9 hcl ?_
  generalize H1 = H at hS ⊢
  have hP : va_P D vwCl [] H := fun k q h => by simp at h
  have hD : va_D A [] := ⟨fun i j p q h => by simp at h, fun k q h => by simp at h⟩
  refine lv_astore_n (lv' := [(3, .ref q9), (0, .ref h0), (1, .int i), (2, .ref oo)]) hx hb dL_withdraw_12 rfl hl (by decide) rfl (fun ls hl => ?_)
  refine lv_iconst (v := 1) hx hb dL_withdraw_13 (by decide) ?_
  have hP9 := hP.sub (ws' := []) [] rfl
  have hD9 := hD.sub (ws' := []) [] (by decide) rfl
  refine W.widen (k := 1) (n := 6) (Nat.le_of_ble_eq_true rfl) (Nat.le_of_ble_eq_true rfl) ?_
  exact W.iret (v := 1) hx hb hr (fun t ht hW => ⟨⟨1, (), rfl, rfl, by rw [ht]; exact hP9, hD9⟩, hS.F ht⟩) hS.2.2 dL_withdraw_14

set_option maxHeartbeats 4000000 in
set_option maxRecDepth 100000 in
/-- the wrapper of cancel -/
theorem c_L_cancel_thr (l : Launch) (D : va_G) (cA : Nat → ClassId) (sa : Nat → Nat) (h0 b0 p0 u0 r0 a0 t0 s0 o0 p1 p2 p3 p4 p5 p6 p7 p8 p9 : Nat) (i : Int32) (oo : Nat) (fo : Nat → Int64) (sz : Nat) (hl9 : l.stackTraces = false) : Met l yL_cancel wsL_cancel ({ frames := 9, cells := 1, slots := 6, locals := 154 }) (va_Pc [.ref h0, .int i, .ref oo] (Wd D cA sa [(h0, .inr (10, [.ref b0, .int 0, .ref p0, .ref u0, .ref r0, .ref a0, .ref t0, .ref s0, .ref o0])), (p0, .inr (7, [.int 0, .int 365, .int 0, .int 0, .ref p1, .int 0, .ref p2, .ref p3, .ref p4, .ref p5, .int 0, .ref p6, .int 0, .ref p7, .ref p8, .ref p9, .int 0])), (oo, .inl (cA 1, 1, .inr (.inl fo)))] sz)) (va_Qi (fun (r : Int32) (_ : Unit) => r = 1) (fun (_ : Unit) t => Wq D (va_A [(h0, .inr (10, [.ref b0, .int 0, .ref p0, .ref u0, .ref r0, .ref a0, .ref t0, .ref s0, .ref o0])), (p0, .inr (7, [.int 0, .int 365, .int 0, .int 0, .ref p1, .int 0, .ref p2, .ref p3, .ref p4, .ref p5, .int 0, .ref p6, .int 0, .ref p7, .ref p8, .ref p9, .int 0])), (oo, .inl (cA 1, 1, .inr (.inl fo)))] sz) [] t) (va_A [(h0, .inr (10, [.ref b0, .int 0, .ref p0, .ref u0, .ref r0, .ref a0, .ref t0, .ref s0, .ref o0])), (p0, .inr (7, [.int 0, .int 365, .int 0, .int 0, .ref p1, .int 0, .ref p2, .ref p3, .ref p4, .ref p5, .int 0, .ref p6, .int 0, .ref p7, .ref p8, .ref p9, .int 0])), (oo, .inl (cA 1, 1, .inr (.inl fo)))] sz)) 1 6 (va_A [(h0, .inr (10, [.ref b0, .int 0, .ref p0, .ref u0, .ref r0, .ref a0, .ref t0, .ref s0, .ref o0])), (p0, .inr (7, [.int 0, .int 365, .int 0, .int 0, .ref p1, .int 0, .ref p2, .ref p3, .ref p4, .ref p5, .int 0, .ref p6, .int 0, .ref p7, .ref p8, .ref p9, .int 0])), (oo, .inl (cA 1, 1, .inr (.inl fo)))] sz) := by
  refine va_MetW (cc := cL_cancel) (maxL := 4) (ret := (some .int)) (hh := [(0, 9, 12, 18), (0, 9, 15, 75)]) (by decide) rfl ?_
  intro p e s m args below meth c s₁ B hml hv
  obtain ⟨rfl, hsz, hP, hK, hD0, hC, hZ⟩ := hv
  have hx := B.exec
  have hb := B.bytes
  have hr := B.returns
  have hts := atoms_spec (ws := wsL_cancel) B.pre
  have hown : s.vm.findClass RL = some m.cls := findClass_of_methodNamed B.named
  have hlocks := B.notSynchronized
  have htab := vx_table (x := yL_cancel) B (hts (.codeWith yL_cancel cL_cancel 4 (some .int) [(0, 9, 12, 18), (0, 9, 15, 75)]) List.mem_cons_self)
  subst hsz
  have hD := hD0.self (sz := s.heap.size)
  generalize hAe : va_A [(h0, .inr (10, [.ref b0, .int 0, .ref p0, .ref u0, .ref r0, .ref a0, .ref t0, .ref s0, .ref o0])), (p0, .inr (7, [.int 0, .int 365, .int 0, .int 0, .ref p1, .int 0, .ref p2, .ref p3, .ref p4, .ref p5, .int 0, .ref p6, .int 0, .ref p7, .ref p8, .ref p9, .int 0])), (oo, .inl (cA 1, 1, .inr (.inl fo)))] s.heap.size = A at hD hZ ⊢
  have hA : ∀ q : Nat, s.heap.size ≤ q → A q := fun q h => by rw [← hAe]; exact Or.inr h
  have hS : va_S A s.heap s.heap [] := va_S.rf
  have hP : va_P D vwCl [(h0, .inr (10, [.ref b0, .int 0, .ref p0, .ref u0, .ref r0, .ref a0, .ref t0, .ref s0, .ref o0])), (p0, .inr (7, [.int 0, .int 365, .int 0, .int 0, .ref p1, .int 0, .ref p2, .ref p3, .ref p4, .ref p5, .int 0, .ref p6, .int 0, .ref p7, .ref p8, .ref p9, .int 0])), (oo, .inl (cA 1, 1, .inr (.inl fo)))] s.heap := hP
  have hl := lv_entry ([.ref h0, .int i, .ref oo]) (n := 4) (Nat.le_of_ble_eq_true rfl)
  rw [lg_entry_eq]
  generalize (lg_sl ([.ref h0, .int i, .ref oo]) ++ List.replicate (4 - (lg_sl ([.ref h0, .int i, .ref oo])).length) Slot.unset).toArray = ls at hl ⊢
  have hl : lv_has ls 4 [(0, .ref h0), (1, .int i), (2, .ref oo)] := hl
  refine lv_aload_n hx hb dL_cancel_0 rfl (lv_at hl 2 rfl) ?_
  refine lv_iconst (v := 0) hx hb dL_cancel_1 (by decide) ?_
  refine lv_aload_n hx hb dL_cancel_2 rfl (lv_at hl 0 rfl) ?_
  refine lv_iload_n hx hb dL_cancel_3 rfl (lv_at hl 1 rfl) ?_
  have hPc := hP.sub (ws' := [(h0, .inr (10, [.ref b0, .int 0, .ref p0, .ref u0, .ref r0, .ref a0, .ref t0, .ref s0, .ref o0])), (p0, .inr (7, [.int 0, .int 365, .int 0, .int 0, .ref p1, .int 0, .ref p2, .ref p3, .ref p4, .ref p5, .int 0, .ref p6, .int 0, .ref p7, .ref p8, .ref p9, .int 0]))]) [0, 1] rfl
  have hDc := hD.sub (ws' := [(h0, .inr (10, [.ref b0, .int 0, .ref p0, .ref u0, .ref r0, .ref a0, .ref t0, .ref s0, .ref o0])), (p0, .inr (7, [.int 0, .int 365, .int 0, .int 0, .ref p1, .int 0, .ref p2, .ref p3, .ref p4, .ref p5, .int 0, .ref p6, .int 0, .ref p7, .ref p8, .ref p9, .int 0]))]) [0, 1] (by decide) rfl
  have hFc := va_free (wc := [(h0, .inr (10, [.ref b0, .int 0, .ref p0, .ref u0, .ref r0, .ref a0, .ref t0, .ref s0, .ref o0])), (p0, .inr (7, [.int 0, .int 365, .int 0, .int 0, .ref p1, .int 0, .ref p2, .ref p3, .ref p4, .ref p5, .int 0, .ref p6, .int 0, .ref p7, .ref p8, .ref p9, .int 0]))]) hD hS hA [0, 1] rfl
  refine vx_calli (vx_runV (As := [.int i]) (rest := [.int 0, .ref oo]) ⟨hx, hb, hml, hown, hts⟩ (c_cancel_thr l D cA sa h0 b0 p0 u0 r0 a0 t0 s0 o0 p1 p2 p3 p4 p5 p6 p7 p8 p9 i s.heap.size hl9) (cwV 1 hts gL_cancel_X9_cancel rfl rfl rfl (by decide +kernel) ⟨(Nat.le_of_ble_eq_true rfl), (Nat.le_of_ble_eq_true rfl)⟩) ⟨Wd.blind, va_recv hK hPc (ci := 10) (q0 := 0) rfl rfl, fun U hU hW => ⟨rfl, Wd.call hPc hDc hK hC hZ hS hFc U hU hW⟩⟩ rfl rfl hl.1 rfl (lv_room (Nat.le_of_ble_eq_true rfl)) dL_cancel_4 ⟨(Nat.le_of_ble_eq_true rfl), (Nat.le_of_ble_eq_true rfl)⟩) hS (fun q _ h => hFc q h) hFc (fun q _ h => hFc q h) (fun E ce q9 u t H1 locs ht hvm hpx hE hz1 hk1 hS hcell hv9 hcl => ?_) (fun r9 u t H1 locs ht hvm hw hB hz1 hk1 hS => hw.elim)
  have hE : E = "java/lang/IndexOutOfBoundsException" := hE
  subst hE
  refine vx_catch hown [] ⟨0, 9, 12, 18⟩ (tableOf [(0, 9, 15, 75)]) (htab.trans rfl) (fun z h => absurd h List.not_mem_nil) (by decide) (by decide) (name := "java/lang/IndexOutOfBoundsException") (hts (.classLink RL 18 "java/lang/IndexOutOfBoundsException") (by decide +kernel)) (hC.c (by decide +kernel)) hcell hv9 hcl ?_
  generalize H1 = H at hS ⊢
  have hP : va_P D vwCl [] H := fun k q h => by simp at h
  have hD : va_D A [] := ⟨fun i j p q h => by simp at h, fun k q h => by simp at h⟩
  refine lv_astore_n (lv' := [(3, .ref q9), (0, .ref h0), (1, .int i), (2, .ref oo)]) hx hb dL_cancel_12 rfl hl (by decide) rfl (fun ls hl => ?_)
  refine lv_iconst (v := 1) hx hb dL_cancel_13 (by decide) ?_
  have hP9 := hP.sub (ws' := []) [] rfl
  have hD9 := hD.sub (ws' := []) [] (by decide) rfl
  refine W.widen (k := 1) (n := 6) (Nat.le_of_ble_eq_true rfl) (Nat.le_of_ble_eq_true rfl) ?_
  exact W.iret (v := 1) hx hb hr (fun t ht hW => ⟨⟨1, (), rfl, rfl, by rw [ht]; exact hP9, hD9⟩, hS.F ht⟩) hS.2.2 dL_cancel_14

set_option maxHeartbeats 4000000 in
set_option maxRecDepth 100000 in
/-- the wrapper of write -/
theorem c_L_write_thr (l : Launch) (D : va_G) (cA : Nat → ClassId) (sa : Nat → Nat) (h0 b0 p0 u0 r0 a0 t0 s0 o0 p1 p2 p3 p4 p5 p6 p7 p8 p9 : Nat) (i : Int32) (oo : Nat) (fo : Nat → Int64) (sz : Nat) (hl9 : l.stackTraces = false) : Met l yL_write wsL_write ({ frames := 9, cells := 1, slots := 6, locals := 154 }) (va_Pc [.ref h0, .int i, .ref oo] (Wd D cA sa [(h0, .inr (10, [.ref b0, .int 0, .ref p0, .ref u0, .ref r0, .ref a0, .ref t0, .ref s0, .ref o0])), (p0, .inr (7, [.int 0, .int 365, .int 0, .int 0, .ref p1, .int 0, .ref p2, .ref p3, .ref p4, .ref p5, .int 0, .ref p6, .int 0, .ref p7, .ref p8, .ref p9, .int 0])), (oo, .inl (cA 1, 1, .inr (.inl fo)))] sz)) (va_Qi (fun (r : Int32) (_ : Unit) => r = 1) (fun (_ : Unit) t => Wq D (va_A [(h0, .inr (10, [.ref b0, .int 0, .ref p0, .ref u0, .ref r0, .ref a0, .ref t0, .ref s0, .ref o0])), (p0, .inr (7, [.int 0, .int 365, .int 0, .int 0, .ref p1, .int 0, .ref p2, .ref p3, .ref p4, .ref p5, .int 0, .ref p6, .int 0, .ref p7, .ref p8, .ref p9, .int 0])), (oo, .inl (cA 1, 1, .inr (.inl fo)))] sz) [] t) (va_A [(h0, .inr (10, [.ref b0, .int 0, .ref p0, .ref u0, .ref r0, .ref a0, .ref t0, .ref s0, .ref o0])), (p0, .inr (7, [.int 0, .int 365, .int 0, .int 0, .ref p1, .int 0, .ref p2, .ref p3, .ref p4, .ref p5, .int 0, .ref p6, .int 0, .ref p7, .ref p8, .ref p9, .int 0])), (oo, .inl (cA 1, 1, .inr (.inl fo)))] sz)) 1 6 (va_A [(h0, .inr (10, [.ref b0, .int 0, .ref p0, .ref u0, .ref r0, .ref a0, .ref t0, .ref s0, .ref o0])), (p0, .inr (7, [.int 0, .int 365, .int 0, .int 0, .ref p1, .int 0, .ref p2, .ref p3, .ref p4, .ref p5, .int 0, .ref p6, .int 0, .ref p7, .ref p8, .ref p9, .int 0])), (oo, .inl (cA 1, 1, .inr (.inl fo)))] sz) := by
  refine va_MetW (cc := cL_write) (maxL := 4) (ret := (some .int)) (hh := [(0, 9, 12, 18)]) (by decide) rfl ?_
  intro p e s m args below meth c s₁ B hml hv
  obtain ⟨rfl, hsz, hP, hK, hD0, hC, hZ⟩ := hv
  have hx := B.exec
  have hb := B.bytes
  have hr := B.returns
  have hts := atoms_spec (ws := wsL_write) B.pre
  have hown : s.vm.findClass RL = some m.cls := findClass_of_methodNamed B.named
  have hlocks := B.notSynchronized
  have htab := vx_table (x := yL_write) B (hts (.codeWith yL_write cL_write 4 (some .int) [(0, 9, 12, 18)]) List.mem_cons_self)
  subst hsz
  have hD := hD0.self (sz := s.heap.size)
  generalize hAe : va_A [(h0, .inr (10, [.ref b0, .int 0, .ref p0, .ref u0, .ref r0, .ref a0, .ref t0, .ref s0, .ref o0])), (p0, .inr (7, [.int 0, .int 365, .int 0, .int 0, .ref p1, .int 0, .ref p2, .ref p3, .ref p4, .ref p5, .int 0, .ref p6, .int 0, .ref p7, .ref p8, .ref p9, .int 0])), (oo, .inl (cA 1, 1, .inr (.inl fo)))] s.heap.size = A at hD hZ ⊢
  have hA : ∀ q : Nat, s.heap.size ≤ q → A q := fun q h => by rw [← hAe]; exact Or.inr h
  have hS : va_S A s.heap s.heap [] := va_S.rf
  have hP : va_P D vwCl [(h0, .inr (10, [.ref b0, .int 0, .ref p0, .ref u0, .ref r0, .ref a0, .ref t0, .ref s0, .ref o0])), (p0, .inr (7, [.int 0, .int 365, .int 0, .int 0, .ref p1, .int 0, .ref p2, .ref p3, .ref p4, .ref p5, .int 0, .ref p6, .int 0, .ref p7, .ref p8, .ref p9, .int 0])), (oo, .inl (cA 1, 1, .inr (.inl fo)))] s.heap := hP
  have hl := lv_entry ([.ref h0, .int i, .ref oo]) (n := 4) (Nat.le_of_ble_eq_true rfl)
  rw [lg_entry_eq]
  generalize (lg_sl ([.ref h0, .int i, .ref oo]) ++ List.replicate (4 - (lg_sl ([.ref h0, .int i, .ref oo])).length) Slot.unset).toArray = ls at hl ⊢
  have hl : lv_has ls 4 [(0, .ref h0), (1, .int i), (2, .ref oo)] := hl
  refine lv_aload_n hx hb dL_write_0 rfl (lv_at hl 2 rfl) ?_
  refine lv_iconst (v := 0) hx hb dL_write_1 (by decide) ?_
  refine lv_aload_n hx hb dL_write_2 rfl (lv_at hl 0 rfl) ?_
  refine lv_iload_n hx hb dL_write_3 rfl (lv_at hl 1 rfl) ?_
  have hPc := hP.sub (ws' := [(h0, .inr (10, [.ref b0, .int 0, .ref p0, .ref u0, .ref r0, .ref a0, .ref t0, .ref s0, .ref o0])), (p0, .inr (7, [.int 0, .int 365, .int 0, .int 0, .ref p1, .int 0, .ref p2, .ref p3, .ref p4, .ref p5, .int 0, .ref p6, .int 0, .ref p7, .ref p8, .ref p9, .int 0]))]) [0, 1] rfl
  have hDc := hD.sub (ws' := [(h0, .inr (10, [.ref b0, .int 0, .ref p0, .ref u0, .ref r0, .ref a0, .ref t0, .ref s0, .ref o0])), (p0, .inr (7, [.int 0, .int 365, .int 0, .int 0, .ref p1, .int 0, .ref p2, .ref p3, .ref p4, .ref p5, .int 0, .ref p6, .int 0, .ref p7, .ref p8, .ref p9, .int 0]))]) [0, 1] (by decide) rfl
  have hFc := va_free (wc := [(h0, .inr (10, [.ref b0, .int 0, .ref p0, .ref u0, .ref r0, .ref a0, .ref t0, .ref s0, .ref o0])), (p0, .inr (7, [.int 0, .int 365, .int 0, .int 0, .ref p1, .int 0, .ref p2, .ref p3, .ref p4, .ref p5, .int 0, .ref p6, .int 0, .ref p7, .ref p8, .ref p9, .int 0]))]) hD hS hA [0, 1] rfl
  refine vx_calli (vx_runV (As := [.int i]) (rest := [.int 0, .ref oo]) ⟨hx, hb, hml, hown, hts⟩ (c_write_thr l D cA sa h0 b0 p0 u0 r0 a0 t0 s0 o0 p1 p2 p3 p4 p5 p6 p7 p8 p9 i s.heap.size hl9) (cwV 1 hts gL_write_X9_write rfl rfl rfl (by decide +kernel) ⟨(Nat.le_of_ble_eq_true rfl), (Nat.le_of_ble_eq_true rfl)⟩) ⟨Wd.blind, va_recv hK hPc (ci := 10) (q0 := 0) rfl rfl, fun U hU hW => ⟨rfl, Wd.call hPc hDc hK hC hZ hS hFc U hU hW⟩⟩ rfl rfl hl.1 rfl (lv_room (Nat.le_of_ble_eq_true rfl)) dL_write_4 ⟨(Nat.le_of_ble_eq_true rfl), (Nat.le_of_ble_eq_true rfl)⟩) hS (fun q _ h => hFc q h) hFc (fun q _ h => hFc q h) (fun E ce q9 u t H1 locs ht hvm hpx hE hz1 hk1 hS hcell hv9 hcl => ?_) (fun r9 u t H1 locs ht hvm hw hB hz1 hk1 hS => hw.elim)
  have hE : E = "java/lang/IndexOutOfBoundsException" := hE
  subst hE
  refine vx_catch hown [] ⟨0, 9, 12, 18⟩ (tableOf []) (htab.trans rfl) (fun z h => absurd h List.not_mem_nil) (by decide) (by decide) (name := "java/lang/IndexOutOfBoundsException") (hts (.classLink RL 18 "java/lang/IndexOutOfBoundsException") (by decide +kernel)) (hC.c (by decide +kernel)) hcell hv9 hcl ?_
  generalize H1 = H at hS ⊢
  have hP : va_P D vwCl [] H := fun k q h => by simp at h
  have hD : va_D A [] := ⟨fun i j p q h => by simp at h, fun k q h => by simp at h⟩
  refine lv_astore_n (lv' := [(3, .ref q9), (0, .ref h0), (1, .int i), (2, .ref oo)]) hx hb dL_write_12 rfl hl (by decide) rfl (fun ls hl => ?_)
  refine lv_iconst (v := 1) hx hb dL_write_13 (by decide) ?_
  have hP9 := hP.sub (ws' := []) [] rfl
  have hD9 := hD.sub (ws' := []) [] (by decide) rfl
  refine W.widen (k := 1) (n := 6) (Nat.le_of_ble_eq_true rfl) (Nat.le_of_ble_eq_true rfl) ?_
  exact W.iret (v := 1) hx hb hr (fun t ht hW => ⟨⟨1, (), rfl, rfl, by rw [ht]; exact hP9, hD9⟩, hS.F ht⟩) hS.2.2 dL_write_14

set_option maxHeartbeats 4000000 in
set_option maxRecDepth 100000 in
/-- the wrapper of isSubmitted -/
theorem c_L_isSubmitted_thr (l : Launch) (D : va_G) (cA : Nat → ClassId) (sa : Nat → Nat) (h0 b0 p0 u0 r0 a0 t0 s0 o0 p1 p2 p3 p4 p5 p6 p7 p8 p9 : Nat) (i : Int32) (oo : Nat) (fo : Nat → Int64) (sz : Nat) (hl9 : l.stackTraces = false) : Met l yL_isSubmitted wsL_isSubmitted ({ frames := 9, cells := 1, slots := 6, locals := 153 }) (va_Pc [.ref h0, .int i, .ref oo] (Wd D cA sa [(h0, .inr (10, [.ref b0, .int 0, .ref p0, .ref u0, .ref r0, .ref a0, .ref t0, .ref s0, .ref o0])), (p0, .inr (7, [.int 0, .int 365, .int 0, .int 0, .ref p1, .int 0, .ref p2, .ref p3, .ref p4, .ref p5, .int 0, .ref p6, .int 0, .ref p7, .ref p8, .ref p9, .int 0])), (oo, .inl (cA 1, 1, .inr (.inl fo)))] sz)) (va_Qi (fun (r : Int32) (_ : Unit) => r = 1) (fun (_ : Unit) t => Wq D (va_A [(h0, .inr (10, [.ref b0, .int 0, .ref p0, .ref u0, .ref r0, .ref a0, .ref t0, .ref s0, .ref o0])), (p0, .inr (7, [.int 0, .int 365, .int 0, .int 0, .ref p1, .int 0, .ref p2, .ref p3, .ref p4, .ref p5, .int 0, .ref p6, .int 0, .ref p7, .ref p8, .ref p9, .int 0])), (oo, .inl (cA 1, 1, .inr (.inl fo)))] sz) [] t) (va_A [(h0, .inr (10, [.ref b0, .int 0, .ref p0, .ref u0, .ref r0, .ref a0, .ref t0, .ref s0, .ref o0])), (p0, .inr (7, [.int 0, .int 365, .int 0, .int 0, .ref p1, .int 0, .ref p2, .ref p3, .ref p4, .ref p5, .int 0, .ref p6, .int 0, .ref p7, .ref p8, .ref p9, .int 0])), (oo, .inl (cA 1, 1, .inr (.inl fo)))] sz)) 1 6 (va_A [(h0, .inr (10, [.ref b0, .int 0, .ref p0, .ref u0, .ref r0, .ref a0, .ref t0, .ref s0, .ref o0])), (p0, .inr (7, [.int 0, .int 365, .int 0, .int 0, .ref p1, .int 0, .ref p2, .ref p3, .ref p4, .ref p5, .int 0, .ref p6, .int 0, .ref p7, .ref p8, .ref p9, .int 0])), (oo, .inl (cA 1, 1, .inr (.inl fo)))] sz) := by
  refine va_MetW (cc := cL_isSubmitted) (maxL := 4) (ret := (some .int)) (hh := [(0, 16, 19, 18)]) (by decide) rfl ?_
  intro p e s m args below meth c s₁ B hml hv
  obtain ⟨rfl, hsz, hP, hK, hD0, hC, hZ⟩ := hv
  have hx := B.exec
  have hb := B.bytes
  have hr := B.returns
  have hts := atoms_spec (ws := wsL_isSubmitted) B.pre
  have hown : s.vm.findClass RL = some m.cls := findClass_of_methodNamed B.named
  have hlocks := B.notSynchronized
  have htab := vx_table (x := yL_isSubmitted) B (hts (.codeWith yL_isSubmitted cL_isSubmitted 4 (some .int) [(0, 16, 19, 18)]) List.mem_cons_self)
  subst hsz
  have hD := hD0.self (sz := s.heap.size)
  generalize hAe : va_A [(h0, .inr (10, [.ref b0, .int 0, .ref p0, .ref u0, .ref r0, .ref a0, .ref t0, .ref s0, .ref o0])), (p0, .inr (7, [.int 0, .int 365, .int 0, .int 0, .ref p1, .int 0, .ref p2, .ref p3, .ref p4, .ref p5, .int 0, .ref p6, .int 0, .ref p7, .ref p8, .ref p9, .int 0])), (oo, .inl (cA 1, 1, .inr (.inl fo)))] s.heap.size = A at hD hZ ⊢
  have hA : ∀ q : Nat, s.heap.size ≤ q → A q := fun q h => by rw [← hAe]; exact Or.inr h
  have hS : va_S A s.heap s.heap [] := va_S.rf
  have hP : va_P D vwCl [(h0, .inr (10, [.ref b0, .int 0, .ref p0, .ref u0, .ref r0, .ref a0, .ref t0, .ref s0, .ref o0])), (p0, .inr (7, [.int 0, .int 365, .int 0, .int 0, .ref p1, .int 0, .ref p2, .ref p3, .ref p4, .ref p5, .int 0, .ref p6, .int 0, .ref p7, .ref p8, .ref p9, .int 0])), (oo, .inl (cA 1, 1, .inr (.inl fo)))] s.heap := hP
  have hl := lv_entry ([.ref h0, .int i, .ref oo]) (n := 4) (Nat.le_of_ble_eq_true rfl)
  rw [lg_entry_eq]
  generalize (lg_sl ([.ref h0, .int i, .ref oo]) ++ List.replicate (4 - (lg_sl ([.ref h0, .int i, .ref oo])).length) Slot.unset).toArray = ls at hl ⊢
  have hl : lv_has ls 4 [(0, .ref h0), (1, .int i), (2, .ref oo)] := hl
  refine lv_aload_n hx hb dL_isSubmitted_0 rfl (lv_at hl 2 rfl) ?_
  refine lv_iconst (v := 0) hx hb dL_isSubmitted_1 (by decide) ?_
  refine lv_aload_n hx hb dL_isSubmitted_2 rfl (lv_at hl 0 rfl) ?_
  refine lv_iload_n hx hb dL_isSubmitted_3 rfl (lv_at hl 1 rfl) ?_
  have hPc := hP.sub (ws' := [(h0, .inr (10, [.ref b0, .int 0, .ref p0, .ref u0, .ref r0, .ref a0, .ref t0, .ref s0, .ref o0])), (p0, .inr (7, [.int 0, .int 365, .int 0, .int 0, .ref p1, .int 0, .ref p2, .ref p3, .ref p4, .ref p5, .int 0, .ref p6, .int 0, .ref p7, .ref p8, .ref p9, .int 0]))]) [0, 1] rfl
  have hDc := hD.sub (ws' := [(h0, .inr (10, [.ref b0, .int 0, .ref p0, .ref u0, .ref r0, .ref a0, .ref t0, .ref s0, .ref o0])), (p0, .inr (7, [.int 0, .int 365, .int 0, .int 0, .ref p1, .int 0, .ref p2, .ref p3, .ref p4, .ref p5, .int 0, .ref p6, .int 0, .ref p7, .ref p8, .ref p9, .int 0]))]) [0, 1] (by decide) rfl
  have hFc := va_free (wc := [(h0, .inr (10, [.ref b0, .int 0, .ref p0, .ref u0, .ref r0, .ref a0, .ref t0, .ref s0, .ref o0])), (p0, .inr (7, [.int 0, .int 365, .int 0, .int 0, .ref p1, .int 0, .ref p2, .ref p3, .ref p4, .ref p5, .int 0, .ref p6, .int 0, .ref p7, .ref p8, .ref p9, .int 0]))]) hD hS hA [0, 1] rfl
  refine vx_calli (vx_runV (As := [.int i]) (rest := [.int 0, .ref oo]) ⟨hx, hb, hml, hown, hts⟩ (c_isSubmitted_thr l D cA sa h0 b0 p0 u0 r0 a0 t0 s0 o0 p1 p2 p3 p4 p5 p6 p7 p8 p9 i s.heap.size hl9) (cwV 1 hts gL_isSubmitted_X9_isSubmitted rfl rfl rfl (by decide +kernel) ⟨(Nat.le_of_ble_eq_true rfl), (Nat.le_of_ble_eq_true rfl)⟩) ⟨Wd.blind, va_recv hK hPc (ci := 10) (q0 := 0) rfl rfl, fun U hU hW => ⟨rfl, Wd.call hPc hDc hK hC hZ hS hFc U hU hW⟩⟩ rfl rfl hl.1 rfl (lv_room (Nat.le_of_ble_eq_true rfl)) dL_isSubmitted_4 ⟨(Nat.le_of_ble_eq_true rfl), (Nat.le_of_ble_eq_true rfl)⟩) hS (fun q _ h => hFc q h) hFc (fun q _ h => hFc q h) (fun E ce q9 u t H1 locs ht hvm hpx hE hz1 hk1 hS hcell hv9 hcl => ?_) (fun r9 u t H1 locs ht hvm hw hB hz1 hk1 hS => hw.elim)
  have hE : E = "java/lang/IndexOutOfBoundsException" := hE
  subst hE
  refine vx_catch hown [] ⟨0, 16, 19, 18⟩ (tableOf []) (htab.trans rfl) (fun z h => absurd h List.not_mem_nil) (by decide) (by decide) (name := "java/lang/IndexOutOfBoundsException") (hts (.classLink RL 18 "java/lang/IndexOutOfBoundsException") (by decide +kernel)) (hC.c (by decide +kernel)) hcell hv9 hcl ?_
  generalize H1 = H at hS ⊢
  have hP : va_P D vwCl [] H := fun k q h => by simp at h
  have hD : va_D A [] := ⟨fun i j p q h => by simp at h, fun k q h => by simp at h⟩
  refine lv_astore_n (lv' := [(3, .ref q9), (0, .ref h0), (1, .int i), (2, .ref oo)]) hx hb dL_isSubmitted_19 rfl hl (by decide) rfl (fun ls hl => ?_)
  refine lv_iconst (v := 1) hx hb dL_isSubmitted_20 (by decide) ?_
  have hP9 := hP.sub (ws' := []) [] rfl
  have hD9 := hD.sub (ws' := []) [] (by decide) rfl
  refine W.widen (k := 1) (n := 6) (Nat.le_of_ble_eq_true rfl) (Nat.le_of_ble_eq_true rfl) ?_
  exact W.iret (v := 1) hx hb hr (fun t ht hW => ⟨⟨1, (), rfl, rfl, by rw [ht]; exact hP9, hD9⟩, hS.F ht⟩) hS.2.2 dL_isSubmitted_21

set_option maxHeartbeats 4000000 in
set_option maxRecDepth 100000 in
/-- the wrapper of submit -/
theorem c_L_submit_thr (l : Launch) (D : va_G) (cA : Nat → ClassId) (sa : Nat → Nat) (h0 b0 p0 u0 r0 a0 t0 s0 o0 p1 p2 p3 p4 p5 p6 p7 p8 p9 : Nat) (i : Int32) (oo : Nat) (fo : Nat → Int64) (sz : Nat) (hl9 : l.stackTraces = false) : Met l yL_submit wsL_submit ({ frames := 9, cells := 1, slots := 6, locals := 154 }) (va_Pc [.ref h0, .int i, .ref oo] (Wd D cA sa [(h0, .inr (10, [.ref b0, .int 0, .ref p0, .ref u0, .ref r0, .ref a0, .ref t0, .ref s0, .ref o0])), (p0, .inr (7, [.int 0, .int 365, .int 0, .int 0, .ref p1, .int 0, .ref p2, .ref p3, .ref p4, .ref p5, .int 0, .ref p6, .int 0, .ref p7, .ref p8, .ref p9, .int 0])), (oo, .inl (cA 1, 1, .inr (.inl fo)))] sz)) (va_Qi (fun (r : Int32) (_ : Unit) => r = 1) (fun (_ : Unit) t => Wq D (va_A [(h0, .inr (10, [.ref b0, .int 0, .ref p0, .ref u0, .ref r0, .ref a0, .ref t0, .ref s0, .ref o0])), (p0, .inr (7, [.int 0, .int 365, .int 0, .int 0, .ref p1, .int 0, .ref p2, .ref p3, .ref p4, .ref p5, .int 0, .ref p6, .int 0, .ref p7, .ref p8, .ref p9, .int 0])), (oo, .inl (cA 1, 1, .inr (.inl fo)))] sz) [] t) (va_A [(h0, .inr (10, [.ref b0, .int 0, .ref p0, .ref u0, .ref r0, .ref a0, .ref t0, .ref s0, .ref o0])), (p0, .inr (7, [.int 0, .int 365, .int 0, .int 0, .ref p1, .int 0, .ref p2, .ref p3, .ref p4, .ref p5, .int 0, .ref p6, .int 0, .ref p7, .ref p8, .ref p9, .int 0])), (oo, .inl (cA 1, 1, .inr (.inl fo)))] sz)) 1 6 (va_A [(h0, .inr (10, [.ref b0, .int 0, .ref p0, .ref u0, .ref r0, .ref a0, .ref t0, .ref s0, .ref o0])), (p0, .inr (7, [.int 0, .int 365, .int 0, .int 0, .ref p1, .int 0, .ref p2, .ref p3, .ref p4, .ref p5, .int 0, .ref p6, .int 0, .ref p7, .ref p8, .ref p9, .int 0])), (oo, .inl (cA 1, 1, .inr (.inl fo)))] sz) := by
  refine va_MetW (cc := cL_submit) (maxL := 4) (ret := (some .int)) (hh := [(0, 16, 19, 18)]) (by decide) rfl ?_
  intro p e s m args below meth c s₁ B hml hv
  obtain ⟨rfl, hsz, hP, hK, hD0, hC, hZ⟩ := hv
  have hx := B.exec
  have hb := B.bytes
  have hr := B.returns
  have hts := atoms_spec (ws := wsL_submit) B.pre
  have hown : s.vm.findClass RL = some m.cls := findClass_of_methodNamed B.named
  have hlocks := B.notSynchronized
  have htab := vx_table (x := yL_submit) B (hts (.codeWith yL_submit cL_submit 4 (some .int) [(0, 16, 19, 18)]) List.mem_cons_self)
  subst hsz
  have hD := hD0.self (sz := s.heap.size)
  generalize hAe : va_A [(h0, .inr (10, [.ref b0, .int 0, .ref p0, .ref u0, .ref r0, .ref a0, .ref t0, .ref s0, .ref o0])), (p0, .inr (7, [.int 0, .int 365, .int 0, .int 0, .ref p1, .int 0, .ref p2, .ref p3, .ref p4, .ref p5, .int 0, .ref p6, .int 0, .ref p7, .ref p8, .ref p9, .int 0])), (oo, .inl (cA 1, 1, .inr (.inl fo)))] s.heap.size = A at hD hZ ⊢
  have hA : ∀ q : Nat, s.heap.size ≤ q → A q := fun q h => by rw [← hAe]; exact Or.inr h
  have hS : va_S A s.heap s.heap [] := va_S.rf
  have hP : va_P D vwCl [(h0, .inr (10, [.ref b0, .int 0, .ref p0, .ref u0, .ref r0, .ref a0, .ref t0, .ref s0, .ref o0])), (p0, .inr (7, [.int 0, .int 365, .int 0, .int 0, .ref p1, .int 0, .ref p2, .ref p3, .ref p4, .ref p5, .int 0, .ref p6, .int 0, .ref p7, .ref p8, .ref p9, .int 0])), (oo, .inl (cA 1, 1, .inr (.inl fo)))] s.heap := hP
  have hl := lv_entry ([.ref h0, .int i, .ref oo]) (n := 4) (Nat.le_of_ble_eq_true rfl)
  rw [lg_entry_eq]
  generalize (lg_sl ([.ref h0, .int i, .ref oo]) ++ List.replicate (4 - (lg_sl ([.ref h0, .int i, .ref oo])).length) Slot.unset).toArray = ls at hl ⊢
  have hl : lv_has ls 4 [(0, .ref h0), (1, .int i), (2, .ref oo)] := hl
  refine lv_aload_n hx hb dL_submit_0 rfl (lv_at hl 2 rfl) ?_
  refine lv_iconst (v := 0) hx hb dL_submit_1 (by decide) ?_
  refine lv_aload_n hx hb dL_submit_2 rfl (lv_at hl 0 rfl) ?_
  refine lv_iload_n hx hb dL_submit_3 rfl (lv_at hl 1 rfl) ?_
  have hPc := hP.sub (ws' := [(h0, .inr (10, [.ref b0, .int 0, .ref p0, .ref u0, .ref r0, .ref a0, .ref t0, .ref s0, .ref o0])), (p0, .inr (7, [.int 0, .int 365, .int 0, .int 0, .ref p1, .int 0, .ref p2, .ref p3, .ref p4, .ref p5, .int 0, .ref p6, .int 0, .ref p7, .ref p8, .ref p9, .int 0]))]) [0, 1] rfl
  have hDc := hD.sub (ws' := [(h0, .inr (10, [.ref b0, .int 0, .ref p0, .ref u0, .ref r0, .ref a0, .ref t0, .ref s0, .ref o0])), (p0, .inr (7, [.int 0, .int 365, .int 0, .int 0, .ref p1, .int 0, .ref p2, .ref p3, .ref p4, .ref p5, .int 0, .ref p6, .int 0, .ref p7, .ref p8, .ref p9, .int 0]))]) [0, 1] (by decide) rfl
  have hFc := va_free (wc := [(h0, .inr (10, [.ref b0, .int 0, .ref p0, .ref u0, .ref r0, .ref a0, .ref t0, .ref s0, .ref o0])), (p0, .inr (7, [.int 0, .int 365, .int 0, .int 0, .ref p1, .int 0, .ref p2, .ref p3, .ref p4, .ref p5, .int 0, .ref p6, .int 0, .ref p7, .ref p8, .ref p9, .int 0]))]) hD hS hA [0, 1] rfl
  refine vx_calli (vx_runV (As := [.int i]) (rest := [.int 0, .ref oo]) ⟨hx, hb, hml, hown, hts⟩ (c_submit_thr l D cA sa h0 b0 p0 u0 r0 a0 t0 s0 o0 p1 p2 p3 p4 p5 p6 p7 p8 p9 i s.heap.size hl9) (cwV 1 hts gL_submit_X9_submit rfl rfl rfl (by decide +kernel) ⟨(Nat.le_of_ble_eq_true rfl), (Nat.le_of_ble_eq_true rfl)⟩) ⟨Wd.blind, va_recv hK hPc (ci := 10) (q0 := 0) rfl rfl, fun U hU hW => ⟨rfl, Wd.call hPc hDc hK hC hZ hS hFc U hU hW⟩⟩ rfl rfl hl.1 rfl (lv_room (Nat.le_of_ble_eq_true rfl)) dL_submit_4 ⟨(Nat.le_of_ble_eq_true rfl), (Nat.le_of_ble_eq_true rfl)⟩) hS (fun q _ h => hFc q h) hFc (fun q _ h => hFc q h) (fun E ce q9 u t H1 locs ht hvm hpx hE hz1 hk1 hS hcell hv9 hcl => ?_) (fun r9 u t H1 locs ht hvm hw hB hz1 hk1 hS => hw.elim)
  have hE : E = "java/lang/IndexOutOfBoundsException" := hE
  subst hE
  refine vx_catch hown [] ⟨0, 16, 19, 18⟩ (tableOf []) (htab.trans rfl) (fun z h => absurd h List.not_mem_nil) (by decide) (by decide) (name := "java/lang/IndexOutOfBoundsException") (hts (.classLink RL 18 "java/lang/IndexOutOfBoundsException") (by decide +kernel)) (hC.c (by decide +kernel)) hcell hv9 hcl ?_
  generalize H1 = H at hS ⊢
  have hP : va_P D vwCl [] H := fun k q h => by simp at h
  have hD : va_D A [] := ⟨fun i j p q h => by simp at h, fun k q h => by simp at h⟩
  refine lv_astore_n (lv' := [(3, .ref q9), (0, .ref h0), (1, .int i), (2, .ref oo)]) hx hb dL_submit_19 rfl hl (by decide) rfl (fun ls hl => ?_)
  refine lv_iconst (v := 1) hx hb dL_submit_20 (by decide) ?_
  have hP9 := hP.sub (ws' := []) [] rfl
  have hD9 := hD.sub (ws' := []) [] (by decide) rfl
  refine W.widen (k := 1) (n := 6) (Nat.le_of_ble_eq_true rfl) (Nat.le_of_ble_eq_true rfl) ?_
  exact W.iret (v := 1) hx hb hr (fun t ht hW => ⟨⟨1, (), rfl, rfl, by rw [ht]; exact hP9, hD9⟩, hS.F ht⟩) hS.2.2 dL_submit_21

set_option maxHeartbeats 4000000 in
set_option maxRecDepth 100000 in
/-- the wrapper of wouldHold -/
theorem c_L_wouldHold_thr (l : Launch) (D : va_G) (cA : Nat → ClassId) (sa : Nat → Nat) (h0 b0 p0 u0 r0 a0 t0 s0 o0 p1 p2 p3 p4 p5 p6 p7 p8 p9 : Nat) (i j : Int32) (oo : Nat) (fo : Nat → Int64) (sz : Nat) (hl9 : l.stackTraces = false) : Met l yL_wouldHold wsL_wouldHold ({ frames := 9, cells := 1, slots := 6, locals := 154 }) (va_Pc [.ref h0, .int i, .int j, .ref oo] (Wd D cA sa [(h0, .inr (10, [.ref b0, .int 0, .ref p0, .ref u0, .ref r0, .ref a0, .ref t0, .ref s0, .ref o0])), (p0, .inr (7, [.int 0, .int 365, .int 0, .int 0, .ref p1, .int 0, .ref p2, .ref p3, .ref p4, .ref p5, .int 0, .ref p6, .int 0, .ref p7, .ref p8, .ref p9, .int 0])), (oo, .inl (cA 1, 1, .inr (.inl fo)))] sz)) (va_Qi (fun (r : Int32) (_ : Unit) => r = 1) (fun (_ : Unit) t => Wq D (va_A [(h0, .inr (10, [.ref b0, .int 0, .ref p0, .ref u0, .ref r0, .ref a0, .ref t0, .ref s0, .ref o0])), (p0, .inr (7, [.int 0, .int 365, .int 0, .int 0, .ref p1, .int 0, .ref p2, .ref p3, .ref p4, .ref p5, .int 0, .ref p6, .int 0, .ref p7, .ref p8, .ref p9, .int 0])), (oo, .inl (cA 1, 1, .inr (.inl fo)))] sz) [] t) (va_A [(h0, .inr (10, [.ref b0, .int 0, .ref p0, .ref u0, .ref r0, .ref a0, .ref t0, .ref s0, .ref o0])), (p0, .inr (7, [.int 0, .int 365, .int 0, .int 0, .ref p1, .int 0, .ref p2, .ref p3, .ref p4, .ref p5, .int 0, .ref p6, .int 0, .ref p7, .ref p8, .ref p9, .int 0])), (oo, .inl (cA 1, 1, .inr (.inl fo)))] sz)) 1 6 (va_A [(h0, .inr (10, [.ref b0, .int 0, .ref p0, .ref u0, .ref r0, .ref a0, .ref t0, .ref s0, .ref o0])), (p0, .inr (7, [.int 0, .int 365, .int 0, .int 0, .ref p1, .int 0, .ref p2, .ref p3, .ref p4, .ref p5, .int 0, .ref p6, .int 0, .ref p7, .ref p8, .ref p9, .int 0])), (oo, .inl (cA 1, 1, .inr (.inl fo)))] sz) := by
  refine va_MetW (cc := cL_wouldHold) (maxL := 5) (ret := (some .int)) (hh := [(0, 17, 20, 18), (0, 17, 24, 13)]) (by decide) rfl ?_
  intro p e s m args below meth c s₁ B hml hv
  obtain ⟨rfl, hsz, hP, hK, hD0, hC, hZ⟩ := hv
  have hx := B.exec
  have hb := B.bytes
  have hr := B.returns
  have hts := atoms_spec (ws := wsL_wouldHold) B.pre
  have hown : s.vm.findClass RL = some m.cls := findClass_of_methodNamed B.named
  have hlocks := B.notSynchronized
  have htab := vx_table (x := yL_wouldHold) B (hts (.codeWith yL_wouldHold cL_wouldHold 5 (some .int) [(0, 17, 20, 18), (0, 17, 24, 13)]) List.mem_cons_self)
  subst hsz
  have hD := hD0.self (sz := s.heap.size)
  generalize hAe : va_A [(h0, .inr (10, [.ref b0, .int 0, .ref p0, .ref u0, .ref r0, .ref a0, .ref t0, .ref s0, .ref o0])), (p0, .inr (7, [.int 0, .int 365, .int 0, .int 0, .ref p1, .int 0, .ref p2, .ref p3, .ref p4, .ref p5, .int 0, .ref p6, .int 0, .ref p7, .ref p8, .ref p9, .int 0])), (oo, .inl (cA 1, 1, .inr (.inl fo)))] s.heap.size = A at hD hZ ⊢
  have hA : ∀ q : Nat, s.heap.size ≤ q → A q := fun q h => by rw [← hAe]; exact Or.inr h
  have hS : va_S A s.heap s.heap [] := va_S.rf
  have hP : va_P D vwCl [(h0, .inr (10, [.ref b0, .int 0, .ref p0, .ref u0, .ref r0, .ref a0, .ref t0, .ref s0, .ref o0])), (p0, .inr (7, [.int 0, .int 365, .int 0, .int 0, .ref p1, .int 0, .ref p2, .ref p3, .ref p4, .ref p5, .int 0, .ref p6, .int 0, .ref p7, .ref p8, .ref p9, .int 0])), (oo, .inl (cA 1, 1, .inr (.inl fo)))] s.heap := hP
  have hl := lv_entry ([.ref h0, .int i, .int j, .ref oo]) (n := 5) (Nat.le_of_ble_eq_true rfl)
  rw [lg_entry_eq]
  generalize (lg_sl ([.ref h0, .int i, .int j, .ref oo]) ++ List.replicate (5 - (lg_sl ([.ref h0, .int i, .int j, .ref oo])).length) Slot.unset).toArray = ls at hl ⊢
  have hl : lv_has ls 5 [(0, .ref h0), (1, .int i), (2, .int j), (3, .ref oo)] := hl
  refine lv_aload_n hx hb dL_wouldHold_0 rfl (lv_at hl 3 rfl) ?_
  refine lv_iconst (v := 0) hx hb dL_wouldHold_1 (by decide) ?_
  refine lv_aload_n hx hb dL_wouldHold_2 rfl (lv_at hl 0 rfl) ?_
  refine lv_iload_n hx hb dL_wouldHold_3 rfl (lv_at hl 1 rfl) ?_
  refine lv_iload_n hx hb dL_wouldHold_4 rfl (lv_at hl 2 rfl) ?_
  have hPc := hP.sub (ws' := [(h0, .inr (10, [.ref b0, .int 0, .ref p0, .ref u0, .ref r0, .ref a0, .ref t0, .ref s0, .ref o0])), (p0, .inr (7, [.int 0, .int 365, .int 0, .int 0, .ref p1, .int 0, .ref p2, .ref p3, .ref p4, .ref p5, .int 0, .ref p6, .int 0, .ref p7, .ref p8, .ref p9, .int 0]))]) [0, 1] rfl
  have hDc := hD.sub (ws' := [(h0, .inr (10, [.ref b0, .int 0, .ref p0, .ref u0, .ref r0, .ref a0, .ref t0, .ref s0, .ref o0])), (p0, .inr (7, [.int 0, .int 365, .int 0, .int 0, .ref p1, .int 0, .ref p2, .ref p3, .ref p4, .ref p5, .int 0, .ref p6, .int 0, .ref p7, .ref p8, .ref p9, .int 0]))]) [0, 1] (by decide) rfl
  have hFc := va_free (wc := [(h0, .inr (10, [.ref b0, .int 0, .ref p0, .ref u0, .ref r0, .ref a0, .ref t0, .ref s0, .ref o0])), (p0, .inr (7, [.int 0, .int 365, .int 0, .int 0, .ref p1, .int 0, .ref p2, .ref p3, .ref p4, .ref p5, .int 0, .ref p6, .int 0, .ref p7, .ref p8, .ref p9, .int 0]))]) hD hS hA [0, 1] rfl
  refine vx_calli (vx_runV (As := [.int i, .int j]) (rest := [.int 0, .ref oo]) ⟨hx, hb, hml, hown, hts⟩ (c_wouldHold_thr l D cA sa h0 b0 p0 u0 r0 a0 t0 s0 o0 p1 p2 p3 p4 p5 p6 p7 p8 p9 i j s.heap.size hl9) (cwV 2 hts gL_wouldHold_X9_wouldHold rfl rfl rfl (by decide +kernel) ⟨(Nat.le_of_ble_eq_true rfl), (Nat.le_of_ble_eq_true rfl)⟩) ⟨Wd.blind, va_recv hK hPc (ci := 10) (q0 := 0) rfl rfl, fun U hU hW => ⟨rfl, Wd.call hPc hDc hK hC hZ hS hFc U hU hW⟩⟩ rfl rfl hl.1 rfl (lv_room (Nat.le_of_ble_eq_true rfl)) dL_wouldHold_5 ⟨(Nat.le_of_ble_eq_true rfl), (Nat.le_of_ble_eq_true rfl)⟩) hS (fun q _ h => hFc q h) hFc (fun q _ h => hFc q h) (fun E ce q9 u t H1 locs ht hvm hpx hE hz1 hk1 hS hcell hv9 hcl => ?_) (fun r9 u t H1 locs ht hvm hw hB hz1 hk1 hS => hw.elim)
  have hE : E = "java/lang/IndexOutOfBoundsException" := hE
  subst hE
  refine vx_catch hown [] ⟨0, 17, 20, 18⟩ (tableOf [(0, 17, 24, 13)]) (htab.trans rfl) (fun z h => absurd h List.not_mem_nil) (by decide) (by decide) (name := "java/lang/IndexOutOfBoundsException") (hts (.classLink RL 18 "java/lang/IndexOutOfBoundsException") (by decide +kernel)) (hC.c (by decide +kernel)) hcell hv9 hcl ?_
  generalize H1 = H at hS ⊢
  have hP : va_P D vwCl [] H := fun k q h => by simp at h
  have hD : va_D A [] := ⟨fun i j p q h => by simp at h, fun k q h => by simp at h⟩
  refine lv_astore (lv' := [(4, .ref q9), (0, .ref h0), (1, .int i), (2, .int j), (3, .ref oo)]) hx hb dL_wouldHold_20 hl (by decide) rfl (fun ls hl => ?_)
  refine lv_iconst (v := 1) hx hb dL_wouldHold_22 (by decide) ?_
  have hP9 := hP.sub (ws' := []) [] rfl
  have hD9 := hD.sub (ws' := []) [] (by decide) rfl
  refine W.widen (k := 1) (n := 6) (Nat.le_of_ble_eq_true rfl) (Nat.le_of_ble_eq_true rfl) ?_
  exact W.iret (v := 1) hx hb hr (fun t ht hW => ⟨⟨1, (), rfl, rfl, by rw [ht]; exact hP9, hD9⟩, hS.F ht⟩) hS.2.2 dL_wouldHold_23

set_option maxHeartbeats 4000000 in
set_option maxRecDepth 100000 in
/-- the wrapper of paidAfter -/
theorem c_L_paidAfter_thr (l : Launch) (D : va_G) (cA : Nat → ClassId) (sa : Nat → Nat) (h0 b0 p0 u0 r0 a0 t0 s0 o0 p1 p2 p3 p4 p5 p6 p7 p8 p9 : Nat) (i j : Int32) (oo : Nat) (fo : Nat → Int64) (sz : Nat) (hl9 : l.stackTraces = false) : Met l yL_paidAfter wsL_paidAfter ({ frames := 9, cells := 1, slots := 6, locals := 154 }) (va_Pc [.ref h0, .int i, .int j, .ref oo] (Wd D cA sa [(h0, .inr (10, [.ref b0, .int 0, .ref p0, .ref u0, .ref r0, .ref a0, .ref t0, .ref s0, .ref o0])), (p0, .inr (7, [.int 0, .int 365, .int 0, .int 0, .ref p1, .int 0, .ref p2, .ref p3, .ref p4, .ref p5, .int 0, .ref p6, .int 0, .ref p7, .ref p8, .ref p9, .int 0])), (oo, .inl (cA 1, 1, .inr (.inl fo)))] sz)) (va_Qi (fun (r : Int32) (_ : Unit) => r = 1) (fun (_ : Unit) t => Wq D (va_A [(h0, .inr (10, [.ref b0, .int 0, .ref p0, .ref u0, .ref r0, .ref a0, .ref t0, .ref s0, .ref o0])), (p0, .inr (7, [.int 0, .int 365, .int 0, .int 0, .ref p1, .int 0, .ref p2, .ref p3, .ref p4, .ref p5, .int 0, .ref p6, .int 0, .ref p7, .ref p8, .ref p9, .int 0])), (oo, .inl (cA 1, 1, .inr (.inl fo)))] sz) [] t) (va_A [(h0, .inr (10, [.ref b0, .int 0, .ref p0, .ref u0, .ref r0, .ref a0, .ref t0, .ref s0, .ref o0])), (p0, .inr (7, [.int 0, .int 365, .int 0, .int 0, .ref p1, .int 0, .ref p2, .ref p3, .ref p4, .ref p5, .int 0, .ref p6, .int 0, .ref p7, .ref p8, .ref p9, .int 0])), (oo, .inl (cA 1, 1, .inr (.inl fo)))] sz)) 1 6 (va_A [(h0, .inr (10, [.ref b0, .int 0, .ref p0, .ref u0, .ref r0, .ref a0, .ref t0, .ref s0, .ref o0])), (p0, .inr (7, [.int 0, .int 365, .int 0, .int 0, .ref p1, .int 0, .ref p2, .ref p3, .ref p4, .ref p5, .int 0, .ref p6, .int 0, .ref p7, .ref p8, .ref p9, .int 0])), (oo, .inl (cA 1, 1, .inr (.inl fo)))] sz) := by
  refine va_MetW (cc := cL_paidAfter) (maxL := 5) (ret := (some .int)) (hh := [(0, 10, 13, 18), (0, 10, 17, 13)]) (by decide) rfl ?_
  intro p e s m args below meth c s₁ B hml hv
  obtain ⟨rfl, hsz, hP, hK, hD0, hC, hZ⟩ := hv
  have hx := B.exec
  have hb := B.bytes
  have hr := B.returns
  have hts := atoms_spec (ws := wsL_paidAfter) B.pre
  have hown : s.vm.findClass RL = some m.cls := findClass_of_methodNamed B.named
  have hlocks := B.notSynchronized
  have htab := vx_table (x := yL_paidAfter) B (hts (.codeWith yL_paidAfter cL_paidAfter 5 (some .int) [(0, 10, 13, 18), (0, 10, 17, 13)]) List.mem_cons_self)
  subst hsz
  have hD := hD0.self (sz := s.heap.size)
  generalize hAe : va_A [(h0, .inr (10, [.ref b0, .int 0, .ref p0, .ref u0, .ref r0, .ref a0, .ref t0, .ref s0, .ref o0])), (p0, .inr (7, [.int 0, .int 365, .int 0, .int 0, .ref p1, .int 0, .ref p2, .ref p3, .ref p4, .ref p5, .int 0, .ref p6, .int 0, .ref p7, .ref p8, .ref p9, .int 0])), (oo, .inl (cA 1, 1, .inr (.inl fo)))] s.heap.size = A at hD hZ ⊢
  have hA : ∀ q : Nat, s.heap.size ≤ q → A q := fun q h => by rw [← hAe]; exact Or.inr h
  have hS : va_S A s.heap s.heap [] := va_S.rf
  have hP : va_P D vwCl [(h0, .inr (10, [.ref b0, .int 0, .ref p0, .ref u0, .ref r0, .ref a0, .ref t0, .ref s0, .ref o0])), (p0, .inr (7, [.int 0, .int 365, .int 0, .int 0, .ref p1, .int 0, .ref p2, .ref p3, .ref p4, .ref p5, .int 0, .ref p6, .int 0, .ref p7, .ref p8, .ref p9, .int 0])), (oo, .inl (cA 1, 1, .inr (.inl fo)))] s.heap := hP
  have hl := lv_entry ([.ref h0, .int i, .int j, .ref oo]) (n := 5) (Nat.le_of_ble_eq_true rfl)
  rw [lg_entry_eq]
  generalize (lg_sl ([.ref h0, .int i, .int j, .ref oo]) ++ List.replicate (5 - (lg_sl ([.ref h0, .int i, .int j, .ref oo])).length) Slot.unset).toArray = ls at hl ⊢
  have hl : lv_has ls 5 [(0, .ref h0), (1, .int i), (2, .int j), (3, .ref oo)] := hl
  refine lv_aload_n hx hb dL_paidAfter_0 rfl (lv_at hl 3 rfl) ?_
  refine lv_iconst (v := 0) hx hb dL_paidAfter_1 (by decide) ?_
  refine lv_aload_n hx hb dL_paidAfter_2 rfl (lv_at hl 0 rfl) ?_
  refine lv_iload_n hx hb dL_paidAfter_3 rfl (lv_at hl 1 rfl) ?_
  refine lv_iload_n hx hb dL_paidAfter_4 rfl (lv_at hl 2 rfl) ?_
  have hPc := hP.sub (ws' := [(h0, .inr (10, [.ref b0, .int 0, .ref p0, .ref u0, .ref r0, .ref a0, .ref t0, .ref s0, .ref o0])), (p0, .inr (7, [.int 0, .int 365, .int 0, .int 0, .ref p1, .int 0, .ref p2, .ref p3, .ref p4, .ref p5, .int 0, .ref p6, .int 0, .ref p7, .ref p8, .ref p9, .int 0]))]) [0, 1] rfl
  have hDc := hD.sub (ws' := [(h0, .inr (10, [.ref b0, .int 0, .ref p0, .ref u0, .ref r0, .ref a0, .ref t0, .ref s0, .ref o0])), (p0, .inr (7, [.int 0, .int 365, .int 0, .int 0, .ref p1, .int 0, .ref p2, .ref p3, .ref p4, .ref p5, .int 0, .ref p6, .int 0, .ref p7, .ref p8, .ref p9, .int 0]))]) [0, 1] (by decide) rfl
  have hFc := va_free (wc := [(h0, .inr (10, [.ref b0, .int 0, .ref p0, .ref u0, .ref r0, .ref a0, .ref t0, .ref s0, .ref o0])), (p0, .inr (7, [.int 0, .int 365, .int 0, .int 0, .ref p1, .int 0, .ref p2, .ref p3, .ref p4, .ref p5, .int 0, .ref p6, .int 0, .ref p7, .ref p8, .ref p9, .int 0]))]) hD hS hA [0, 1] rfl
  refine vx_calli (vx_runV (As := [.int i, .int j]) (rest := [.int 0, .ref oo]) ⟨hx, hb, hml, hown, hts⟩ (c_paidAfter_thr l D cA sa h0 b0 p0 u0 r0 a0 t0 s0 o0 p1 p2 p3 p4 p5 p6 p7 p8 p9 i j s.heap.size hl9) (cwV 2 hts gL_paidAfter_X9_paidAfter rfl rfl rfl (by decide +kernel) ⟨(Nat.le_of_ble_eq_true rfl), (Nat.le_of_ble_eq_true rfl)⟩) ⟨Wd.blind, va_recv hK hPc (ci := 10) (q0 := 0) rfl rfl, fun U hU hW => ⟨rfl, Wd.call hPc hDc hK hC hZ hS hFc U hU hW⟩⟩ rfl rfl hl.1 rfl (lv_room (Nat.le_of_ble_eq_true rfl)) dL_paidAfter_5 ⟨(Nat.le_of_ble_eq_true rfl), (Nat.le_of_ble_eq_true rfl)⟩) hS (fun q _ h => hFc q h) hFc (fun q _ h => hFc q h) (fun E ce q9 u t H1 locs ht hvm hpx hE hz1 hk1 hS hcell hv9 hcl => ?_) (fun r9 u t H1 locs ht hvm hw hB hz1 hk1 hS => hw.elim)
  have hE : E = "java/lang/IndexOutOfBoundsException" := hE
  subst hE
  refine vx_catch hown [] ⟨0, 10, 13, 18⟩ (tableOf [(0, 10, 17, 13)]) (htab.trans rfl) (fun z h => absurd h List.not_mem_nil) (by decide) (by decide) (name := "java/lang/IndexOutOfBoundsException") (hts (.classLink RL 18 "java/lang/IndexOutOfBoundsException") (by decide +kernel)) (hC.c (by decide +kernel)) hcell hv9 hcl ?_
  generalize H1 = H at hS ⊢
  have hP : va_P D vwCl [] H := fun k q h => by simp at h
  have hD : va_D A [] := ⟨fun i j p q h => by simp at h, fun k q h => by simp at h⟩
  refine lv_astore (lv' := [(4, .ref q9), (0, .ref h0), (1, .int i), (2, .int j), (3, .ref oo)]) hx hb dL_paidAfter_13 hl (by decide) rfl (fun ls hl => ?_)
  refine lv_iconst (v := 1) hx hb dL_paidAfter_15 (by decide) ?_
  have hP9 := hP.sub (ws' := []) [] rfl
  have hD9 := hD.sub (ws' := []) [] (by decide) rfl
  refine W.widen (k := 1) (n := 6) (Nat.le_of_ble_eq_true rfl) (Nat.le_of_ble_eq_true rfl) ?_
  exact W.iret (v := 1) hx hb hr (fun t ht hW => ⟨⟨1, (), rfl, rfl, by rw [ht]; exact hP9, hD9⟩, hS.F ht⟩) hS.2.2 dL_paidAfter_16

set_option maxHeartbeats 4000000 in
set_option maxRecDepth 100000 in
/-- the wrapper of splitPayment -/
theorem c_L_splitPayment_thr (l : Launch) (D : va_G) (cA : Nat → ClassId) (sa : Nat → Nat) (h0 b0 p0 u0 r0 a0 t0 s0 o0 p1 p2 p3 p4 p5 p6 p7 p8 p9 : Nat) (i j : Int32) (oo : Nat) (fo : Nat → Int64) (sz : Nat) (hl9 : l.stackTraces = false) : Met l yL_splitPayment wsL_splitPayment ({ frames := 9, cells := 1, slots := 6, locals := 154 }) (va_Pc [.ref h0, .int i, .int j, .ref oo] (Wd D cA sa [(h0, .inr (10, [.ref b0, .int 0, .ref p0, .ref u0, .ref r0, .ref a0, .ref t0, .ref s0, .ref o0])), (p0, .inr (7, [.int 0, .int 365, .int 0, .int 0, .ref p1, .int 0, .ref p2, .ref p3, .ref p4, .ref p5, .int 0, .ref p6, .int 0, .ref p7, .ref p8, .ref p9, .int 0])), (oo, .inl (cA 1, 1, .inr (.inl fo)))] sz)) (va_Qi (fun (r : Int32) (_ : Unit) => r = 1) (fun (_ : Unit) t => Wq D (va_A [(h0, .inr (10, [.ref b0, .int 0, .ref p0, .ref u0, .ref r0, .ref a0, .ref t0, .ref s0, .ref o0])), (p0, .inr (7, [.int 0, .int 365, .int 0, .int 0, .ref p1, .int 0, .ref p2, .ref p3, .ref p4, .ref p5, .int 0, .ref p6, .int 0, .ref p7, .ref p8, .ref p9, .int 0])), (oo, .inl (cA 1, 1, .inr (.inl fo)))] sz) [] t) (va_A [(h0, .inr (10, [.ref b0, .int 0, .ref p0, .ref u0, .ref r0, .ref a0, .ref t0, .ref s0, .ref o0])), (p0, .inr (7, [.int 0, .int 365, .int 0, .int 0, .ref p1, .int 0, .ref p2, .ref p3, .ref p4, .ref p5, .int 0, .ref p6, .int 0, .ref p7, .ref p8, .ref p9, .int 0])), (oo, .inl (cA 1, 1, .inr (.inl fo)))] sz)) 1 6 (va_A [(h0, .inr (10, [.ref b0, .int 0, .ref p0, .ref u0, .ref r0, .ref a0, .ref t0, .ref s0, .ref o0])), (p0, .inr (7, [.int 0, .int 365, .int 0, .int 0, .ref p1, .int 0, .ref p2, .ref p3, .ref p4, .ref p5, .int 0, .ref p6, .int 0, .ref p7, .ref p8, .ref p9, .int 0])), (oo, .inl (cA 1, 1, .inr (.inl fo)))] sz) := by
  refine va_MetW (cc := cL_splitPayment) (maxL := 5) (ret := (some .int)) (hh := [(0, 10, 13, 18), (0, 10, 17, 13), (0, 10, 21, 75)]) (by decide) rfl ?_
  intro p e s m args below meth c s₁ B hml hv
  obtain ⟨rfl, hsz, hP, hK, hD0, hC, hZ⟩ := hv
  have hx := B.exec
  have hb := B.bytes
  have hr := B.returns
  have hts := atoms_spec (ws := wsL_splitPayment) B.pre
  have hown : s.vm.findClass RL = some m.cls := findClass_of_methodNamed B.named
  have hlocks := B.notSynchronized
  have htab := vx_table (x := yL_splitPayment) B (hts (.codeWith yL_splitPayment cL_splitPayment 5 (some .int) [(0, 10, 13, 18), (0, 10, 17, 13), (0, 10, 21, 75)]) List.mem_cons_self)
  subst hsz
  have hD := hD0.self (sz := s.heap.size)
  generalize hAe : va_A [(h0, .inr (10, [.ref b0, .int 0, .ref p0, .ref u0, .ref r0, .ref a0, .ref t0, .ref s0, .ref o0])), (p0, .inr (7, [.int 0, .int 365, .int 0, .int 0, .ref p1, .int 0, .ref p2, .ref p3, .ref p4, .ref p5, .int 0, .ref p6, .int 0, .ref p7, .ref p8, .ref p9, .int 0])), (oo, .inl (cA 1, 1, .inr (.inl fo)))] s.heap.size = A at hD hZ ⊢
  have hA : ∀ q : Nat, s.heap.size ≤ q → A q := fun q h => by rw [← hAe]; exact Or.inr h
  have hS : va_S A s.heap s.heap [] := va_S.rf
  have hP : va_P D vwCl [(h0, .inr (10, [.ref b0, .int 0, .ref p0, .ref u0, .ref r0, .ref a0, .ref t0, .ref s0, .ref o0])), (p0, .inr (7, [.int 0, .int 365, .int 0, .int 0, .ref p1, .int 0, .ref p2, .ref p3, .ref p4, .ref p5, .int 0, .ref p6, .int 0, .ref p7, .ref p8, .ref p9, .int 0])), (oo, .inl (cA 1, 1, .inr (.inl fo)))] s.heap := hP
  have hl := lv_entry ([.ref h0, .int i, .int j, .ref oo]) (n := 5) (Nat.le_of_ble_eq_true rfl)
  rw [lg_entry_eq]
  generalize (lg_sl ([.ref h0, .int i, .int j, .ref oo]) ++ List.replicate (5 - (lg_sl ([.ref h0, .int i, .int j, .ref oo])).length) Slot.unset).toArray = ls at hl ⊢
  have hl : lv_has ls 5 [(0, .ref h0), (1, .int i), (2, .int j), (3, .ref oo)] := hl
  refine lv_aload_n hx hb dL_splitPayment_0 rfl (lv_at hl 3 rfl) ?_
  refine lv_iconst (v := 0) hx hb dL_splitPayment_1 (by decide) ?_
  refine lv_aload_n hx hb dL_splitPayment_2 rfl (lv_at hl 0 rfl) ?_
  refine lv_iload_n hx hb dL_splitPayment_3 rfl (lv_at hl 1 rfl) ?_
  refine lv_iload_n hx hb dL_splitPayment_4 rfl (lv_at hl 2 rfl) ?_
  have hPc := hP.sub (ws' := [(h0, .inr (10, [.ref b0, .int 0, .ref p0, .ref u0, .ref r0, .ref a0, .ref t0, .ref s0, .ref o0])), (p0, .inr (7, [.int 0, .int 365, .int 0, .int 0, .ref p1, .int 0, .ref p2, .ref p3, .ref p4, .ref p5, .int 0, .ref p6, .int 0, .ref p7, .ref p8, .ref p9, .int 0]))]) [0, 1] rfl
  have hDc := hD.sub (ws' := [(h0, .inr (10, [.ref b0, .int 0, .ref p0, .ref u0, .ref r0, .ref a0, .ref t0, .ref s0, .ref o0])), (p0, .inr (7, [.int 0, .int 365, .int 0, .int 0, .ref p1, .int 0, .ref p2, .ref p3, .ref p4, .ref p5, .int 0, .ref p6, .int 0, .ref p7, .ref p8, .ref p9, .int 0]))]) [0, 1] (by decide) rfl
  have hFc := va_free (wc := [(h0, .inr (10, [.ref b0, .int 0, .ref p0, .ref u0, .ref r0, .ref a0, .ref t0, .ref s0, .ref o0])), (p0, .inr (7, [.int 0, .int 365, .int 0, .int 0, .ref p1, .int 0, .ref p2, .ref p3, .ref p4, .ref p5, .int 0, .ref p6, .int 0, .ref p7, .ref p8, .ref p9, .int 0]))]) hD hS hA [0, 1] rfl
  refine vx_calli (vx_runV (As := [.int i, .int j]) (rest := [.int 0, .ref oo]) ⟨hx, hb, hml, hown, hts⟩ (c_splitPayment_thr l D cA sa h0 b0 p0 u0 r0 a0 t0 s0 o0 p1 p2 p3 p4 p5 p6 p7 p8 p9 i j s.heap.size hl9) (cwV 2 hts gL_splitPayment_X9_splitPayment rfl rfl rfl (by decide +kernel) ⟨(Nat.le_of_ble_eq_true rfl), (Nat.le_of_ble_eq_true rfl)⟩) ⟨Wd.blind, va_recv hK hPc (ci := 10) (q0 := 0) rfl rfl, fun U hU hW => ⟨rfl, Wd.call hPc hDc hK hC hZ hS hFc U hU hW⟩⟩ rfl rfl hl.1 rfl (lv_room (Nat.le_of_ble_eq_true rfl)) dL_splitPayment_5 ⟨(Nat.le_of_ble_eq_true rfl), (Nat.le_of_ble_eq_true rfl)⟩) hS (fun q _ h => hFc q h) hFc (fun q _ h => hFc q h) (fun E ce q9 u t H1 locs ht hvm hpx hE hz1 hk1 hS hcell hv9 hcl => ?_) (fun r9 u t H1 locs ht hvm hw hB hz1 hk1 hS => hw.elim)
  have hE : E = "java/lang/IndexOutOfBoundsException" := hE
  subst hE
  refine vx_catch hown [] ⟨0, 10, 13, 18⟩ (tableOf [(0, 10, 17, 13), (0, 10, 21, 75)]) (htab.trans rfl) (fun z h => absurd h List.not_mem_nil) (by decide) (by decide) (name := "java/lang/IndexOutOfBoundsException") (hts (.classLink RL 18 "java/lang/IndexOutOfBoundsException") (by decide +kernel)) (hC.c (by decide +kernel)) hcell hv9 hcl ?_
  generalize H1 = H at hS ⊢
  have hP : va_P D vwCl [] H := fun k q h => by simp at h
  have hD : va_D A [] := ⟨fun i j p q h => by simp at h, fun k q h => by simp at h⟩
  refine lv_astore (lv' := [(4, .ref q9), (0, .ref h0), (1, .int i), (2, .int j), (3, .ref oo)]) hx hb dL_splitPayment_13 hl (by decide) rfl (fun ls hl => ?_)
  refine lv_iconst (v := 1) hx hb dL_splitPayment_15 (by decide) ?_
  have hP9 := hP.sub (ws' := []) [] rfl
  have hD9 := hD.sub (ws' := []) [] (by decide) rfl
  refine W.widen (k := 1) (n := 6) (Nat.le_of_ble_eq_true rfl) (Nat.le_of_ble_eq_true rfl) ?_
  exact W.iret (v := 1) hx hb hr (fun t ht hW => ⟨⟨1, (), rfl, rfl, by rw [ht]; exact hP9, hD9⟩, hS.F ht⟩) hS.2.2 dL_splitPayment_16

set_option maxHeartbeats 4000000 in
set_option maxRecDepth 100000 in
/-- the wrapper of shareFor -/
theorem c_L_shareFor_thr (l : Launch) (D : va_G) (cA : Nat → ClassId) (sa : Nat → Nat) (h0 b0 p0 u0 r0 a0 t0 s0 o0 p1 p2 p3 p4 p5 p6 p7 p8 p9 : Nat) (i j : Int32) (oo : Nat) (fo : Nat → Int64) (sz : Nat) (hl9 : l.stackTraces = false) : Met l yL_shareFor wsL_shareFor ({ frames := 9, cells := 1, slots := 6, locals := 157 }) (va_Pc [.ref h0, .int i, .int j, .ref oo] (Wd D cA sa [(h0, .inr (10, [.ref b0, .int 0, .ref p0, .ref u0, .ref r0, .ref a0, .ref t0, .ref s0, .ref o0])), (p0, .inr (7, [.int 0, .int 365, .int 0, .int 0, .ref p1, .int 0, .ref p2, .ref p3, .ref p4, .ref p5, .int 0, .ref p6, .int 0, .ref p7, .ref p8, .ref p9, .int 0])), (oo, .inl (cA 1, 1, .inr (.inl fo)))] sz)) (va_Qi (fun (r : Int32) (_ : Unit) => r = 1) (fun (_ : Unit) t => Wq D (va_A [(h0, .inr (10, [.ref b0, .int 0, .ref p0, .ref u0, .ref r0, .ref a0, .ref t0, .ref s0, .ref o0])), (p0, .inr (7, [.int 0, .int 365, .int 0, .int 0, .ref p1, .int 0, .ref p2, .ref p3, .ref p4, .ref p5, .int 0, .ref p6, .int 0, .ref p7, .ref p8, .ref p9, .int 0])), (oo, .inl (cA 1, 1, .inr (.inl fo)))] sz) [] t) (va_A [(h0, .inr (10, [.ref b0, .int 0, .ref p0, .ref u0, .ref r0, .ref a0, .ref t0, .ref s0, .ref o0])), (p0, .inr (7, [.int 0, .int 365, .int 0, .int 0, .ref p1, .int 0, .ref p2, .ref p3, .ref p4, .ref p5, .int 0, .ref p6, .int 0, .ref p7, .ref p8, .ref p9, .int 0])), (oo, .inl (cA 1, 1, .inr (.inl fo)))] sz)) 1 6 (va_A [(h0, .inr (10, [.ref b0, .int 0, .ref p0, .ref u0, .ref r0, .ref a0, .ref t0, .ref s0, .ref o0])), (p0, .inr (7, [.int 0, .int 365, .int 0, .int 0, .ref p1, .int 0, .ref p2, .ref p3, .ref p4, .ref p5, .int 0, .ref p6, .int 0, .ref p7, .ref p8, .ref p9, .int 0])), (oo, .inl (cA 1, 1, .inr (.inl fo)))] sz) := by
  refine va_MetW (cc := cL_shareFor) (maxL := 5) (ret := (some .int)) (hh := [(0, 10, 13, 18), (0, 10, 17, 13), (0, 10, 21, 75)]) (by decide) rfl ?_
  intro p e s m args below meth c s₁ B hml hv
  obtain ⟨rfl, hsz, hP, hK, hD0, hC, hZ⟩ := hv
  have hx := B.exec
  have hb := B.bytes
  have hr := B.returns
  have hts := atoms_spec (ws := wsL_shareFor) B.pre
  have hown : s.vm.findClass RL = some m.cls := findClass_of_methodNamed B.named
  have hlocks := B.notSynchronized
  have htab := vx_table (x := yL_shareFor) B (hts (.codeWith yL_shareFor cL_shareFor 5 (some .int) [(0, 10, 13, 18), (0, 10, 17, 13), (0, 10, 21, 75)]) List.mem_cons_self)
  subst hsz
  have hD := hD0.self (sz := s.heap.size)
  generalize hAe : va_A [(h0, .inr (10, [.ref b0, .int 0, .ref p0, .ref u0, .ref r0, .ref a0, .ref t0, .ref s0, .ref o0])), (p0, .inr (7, [.int 0, .int 365, .int 0, .int 0, .ref p1, .int 0, .ref p2, .ref p3, .ref p4, .ref p5, .int 0, .ref p6, .int 0, .ref p7, .ref p8, .ref p9, .int 0])), (oo, .inl (cA 1, 1, .inr (.inl fo)))] s.heap.size = A at hD hZ ⊢
  have hA : ∀ q : Nat, s.heap.size ≤ q → A q := fun q h => by rw [← hAe]; exact Or.inr h
  have hS : va_S A s.heap s.heap [] := va_S.rf
  have hP : va_P D vwCl [(h0, .inr (10, [.ref b0, .int 0, .ref p0, .ref u0, .ref r0, .ref a0, .ref t0, .ref s0, .ref o0])), (p0, .inr (7, [.int 0, .int 365, .int 0, .int 0, .ref p1, .int 0, .ref p2, .ref p3, .ref p4, .ref p5, .int 0, .ref p6, .int 0, .ref p7, .ref p8, .ref p9, .int 0])), (oo, .inl (cA 1, 1, .inr (.inl fo)))] s.heap := hP
  have hl := lv_entry ([.ref h0, .int i, .int j, .ref oo]) (n := 5) (Nat.le_of_ble_eq_true rfl)
  rw [lg_entry_eq]
  generalize (lg_sl ([.ref h0, .int i, .int j, .ref oo]) ++ List.replicate (5 - (lg_sl ([.ref h0, .int i, .int j, .ref oo])).length) Slot.unset).toArray = ls at hl ⊢
  have hl : lv_has ls 5 [(0, .ref h0), (1, .int i), (2, .int j), (3, .ref oo)] := hl
  refine lv_aload_n hx hb dL_shareFor_0 rfl (lv_at hl 3 rfl) ?_
  refine lv_iconst (v := 0) hx hb dL_shareFor_1 (by decide) ?_
  refine lv_aload_n hx hb dL_shareFor_2 rfl (lv_at hl 0 rfl) ?_
  refine lv_iload_n hx hb dL_shareFor_3 rfl (lv_at hl 1 rfl) ?_
  refine lv_iload_n hx hb dL_shareFor_4 rfl (lv_at hl 2 rfl) ?_
  have hPc := hP.sub (ws' := [(h0, .inr (10, [.ref b0, .int 0, .ref p0, .ref u0, .ref r0, .ref a0, .ref t0, .ref s0, .ref o0])), (p0, .inr (7, [.int 0, .int 365, .int 0, .int 0, .ref p1, .int 0, .ref p2, .ref p3, .ref p4, .ref p5, .int 0, .ref p6, .int 0, .ref p7, .ref p8, .ref p9, .int 0]))]) [0, 1] rfl
  have hDc := hD.sub (ws' := [(h0, .inr (10, [.ref b0, .int 0, .ref p0, .ref u0, .ref r0, .ref a0, .ref t0, .ref s0, .ref o0])), (p0, .inr (7, [.int 0, .int 365, .int 0, .int 0, .ref p1, .int 0, .ref p2, .ref p3, .ref p4, .ref p5, .int 0, .ref p6, .int 0, .ref p7, .ref p8, .ref p9, .int 0]))]) [0, 1] (by decide) rfl
  have hFc := va_free (wc := [(h0, .inr (10, [.ref b0, .int 0, .ref p0, .ref u0, .ref r0, .ref a0, .ref t0, .ref s0, .ref o0])), (p0, .inr (7, [.int 0, .int 365, .int 0, .int 0, .ref p1, .int 0, .ref p2, .ref p3, .ref p4, .ref p5, .int 0, .ref p6, .int 0, .ref p7, .ref p8, .ref p9, .int 0]))]) hD hS hA [0, 1] rfl
  refine vx_calli (vx_runV (As := [.int i, .int j]) (rest := [.int 0, .ref oo]) ⟨hx, hb, hml, hown, hts⟩ (c_shareFor_thr l D cA sa h0 b0 p0 u0 r0 a0 t0 s0 o0 p1 p2 p3 p4 p5 p6 p7 p8 p9 i j s.heap.size hl9) (cwV 2 hts gL_shareFor_X9_shareFor rfl rfl rfl (by decide +kernel) ⟨(Nat.le_of_ble_eq_true rfl), (Nat.le_of_ble_eq_true rfl)⟩) ⟨Wd.blind, va_recv hK hPc (ci := 10) (q0 := 0) rfl rfl, fun U hU hW => ⟨rfl, Wd.call hPc hDc hK hC hZ hS hFc U hU hW⟩⟩ rfl rfl hl.1 rfl (lv_room (Nat.le_of_ble_eq_true rfl)) dL_shareFor_5 ⟨(Nat.le_of_ble_eq_true rfl), (Nat.le_of_ble_eq_true rfl)⟩) hS (fun q _ h => hFc q h) hFc (fun q _ h => hFc q h) (fun E ce q9 u t H1 locs ht hvm hpx hE hz1 hk1 hS hcell hv9 hcl => ?_) (fun r9 u t H1 locs ht hvm hw hB hz1 hk1 hS => hw.elim)
  have hE : E = "java/lang/IndexOutOfBoundsException" := hE
  subst hE
  refine vx_catch hown [] ⟨0, 10, 13, 18⟩ (tableOf [(0, 10, 17, 13), (0, 10, 21, 75)]) (htab.trans rfl) (fun z h => absurd h List.not_mem_nil) (by decide) (by decide) (name := "java/lang/IndexOutOfBoundsException") (hts (.classLink RL 18 "java/lang/IndexOutOfBoundsException") (by decide +kernel)) (hC.c (by decide +kernel)) hcell hv9 hcl ?_
  generalize H1 = H at hS ⊢
  have hP : va_P D vwCl [] H := fun k q h => by simp at h
  have hD : va_D A [] := ⟨fun i j p q h => by simp at h, fun k q h => by simp at h⟩
  refine lv_astore (lv' := [(4, .ref q9), (0, .ref h0), (1, .int i), (2, .int j), (3, .ref oo)]) hx hb dL_shareFor_13 hl (by decide) rfl (fun ls hl => ?_)
  refine lv_iconst (v := 1) hx hb dL_shareFor_15 (by decide) ?_
  have hP9 := hP.sub (ws' := []) [] rfl
  have hD9 := hD.sub (ws' := []) [] (by decide) rfl
  refine W.widen (k := 1) (n := 6) (Nat.le_of_ble_eq_true rfl) (Nat.le_of_ble_eq_true rfl) ?_
  exact W.iret (v := 1) hx hb hr (fun t ht hW => ⟨⟨1, (), rfl, rfl, by rw [ht]; exact hP9, hD9⟩, hS.F ht⟩) hS.2.2 dL_shareFor_16

set_option maxHeartbeats 4000000 in
set_option maxRecDepth 100000 in
/-- the wrapper of pay -/
theorem c_L_pay_thr (l : Launch) (D : va_G) (cA : Nat → ClassId) (sa : Nat → Nat) (h0 b0 p0 u0 r0 a0 t0 s0 o0 p1 p2 p3 p4 p5 p6 p7 p8 p9 : Nat) (i j : Int32) (oo : Nat) (fo : Nat → Int64) (sz : Nat) (hl9 : l.stackTraces = false) : Met l yL_pay wsL_pay ({ frames := 9, cells := 1, slots := 6, locals := 154 }) (va_Pc [.ref h0, .int i, .int j, .ref oo] (Wd D cA sa [(h0, .inr (10, [.ref b0, .int 0, .ref p0, .ref u0, .ref r0, .ref a0, .ref t0, .ref s0, .ref o0])), (p0, .inr (7, [.int 0, .int 365, .int 0, .int 0, .ref p1, .int 0, .ref p2, .ref p3, .ref p4, .ref p5, .int 0, .ref p6, .int 0, .ref p7, .ref p8, .ref p9, .int 0])), (oo, .inl (cA 1, 1, .inr (.inl fo)))] sz)) (va_Qi (fun (r : Int32) (_ : Unit) => r = 1) (fun (_ : Unit) t => Wq D (va_A [(h0, .inr (10, [.ref b0, .int 0, .ref p0, .ref u0, .ref r0, .ref a0, .ref t0, .ref s0, .ref o0])), (p0, .inr (7, [.int 0, .int 365, .int 0, .int 0, .ref p1, .int 0, .ref p2, .ref p3, .ref p4, .ref p5, .int 0, .ref p6, .int 0, .ref p7, .ref p8, .ref p9, .int 0])), (oo, .inl (cA 1, 1, .inr (.inl fo)))] sz) [] t) (va_A [(h0, .inr (10, [.ref b0, .int 0, .ref p0, .ref u0, .ref r0, .ref a0, .ref t0, .ref s0, .ref o0])), (p0, .inr (7, [.int 0, .int 365, .int 0, .int 0, .ref p1, .int 0, .ref p2, .ref p3, .ref p4, .ref p5, .int 0, .ref p6, .int 0, .ref p7, .ref p8, .ref p9, .int 0])), (oo, .inl (cA 1, 1, .inr (.inl fo)))] sz)) 1 6 (va_A [(h0, .inr (10, [.ref b0, .int 0, .ref p0, .ref u0, .ref r0, .ref a0, .ref t0, .ref s0, .ref o0])), (p0, .inr (7, [.int 0, .int 365, .int 0, .int 0, .ref p1, .int 0, .ref p2, .ref p3, .ref p4, .ref p5, .int 0, .ref p6, .int 0, .ref p7, .ref p8, .ref p9, .int 0])), (oo, .inl (cA 1, 1, .inr (.inl fo)))] sz) := by
  refine va_MetW (cc := cL_pay) (maxL := 5) (ret := (some .int)) (hh := [(0, 10, 13, 18), (0, 10, 17, 13), (0, 10, 21, 75)]) (by decide) rfl ?_
  intro p e s m args below meth c s₁ B hml hv
  obtain ⟨rfl, hsz, hP, hK, hD0, hC, hZ⟩ := hv
  have hx := B.exec
  have hb := B.bytes
  have hr := B.returns
  have hts := atoms_spec (ws := wsL_pay) B.pre
  have hown : s.vm.findClass RL = some m.cls := findClass_of_methodNamed B.named
  have hlocks := B.notSynchronized
  have htab := vx_table (x := yL_pay) B (hts (.codeWith yL_pay cL_pay 5 (some .int) [(0, 10, 13, 18), (0, 10, 17, 13), (0, 10, 21, 75)]) List.mem_cons_self)
  subst hsz
  have hD := hD0.self (sz := s.heap.size)
  generalize hAe : va_A [(h0, .inr (10, [.ref b0, .int 0, .ref p0, .ref u0, .ref r0, .ref a0, .ref t0, .ref s0, .ref o0])), (p0, .inr (7, [.int 0, .int 365, .int 0, .int 0, .ref p1, .int 0, .ref p2, .ref p3, .ref p4, .ref p5, .int 0, .ref p6, .int 0, .ref p7, .ref p8, .ref p9, .int 0])), (oo, .inl (cA 1, 1, .inr (.inl fo)))] s.heap.size = A at hD hZ ⊢
  have hA : ∀ q : Nat, s.heap.size ≤ q → A q := fun q h => by rw [← hAe]; exact Or.inr h
  have hS : va_S A s.heap s.heap [] := va_S.rf
  have hP : va_P D vwCl [(h0, .inr (10, [.ref b0, .int 0, .ref p0, .ref u0, .ref r0, .ref a0, .ref t0, .ref s0, .ref o0])), (p0, .inr (7, [.int 0, .int 365, .int 0, .int 0, .ref p1, .int 0, .ref p2, .ref p3, .ref p4, .ref p5, .int 0, .ref p6, .int 0, .ref p7, .ref p8, .ref p9, .int 0])), (oo, .inl (cA 1, 1, .inr (.inl fo)))] s.heap := hP
  have hl := lv_entry ([.ref h0, .int i, .int j, .ref oo]) (n := 5) (Nat.le_of_ble_eq_true rfl)
  rw [lg_entry_eq]
  generalize (lg_sl ([.ref h0, .int i, .int j, .ref oo]) ++ List.replicate (5 - (lg_sl ([.ref h0, .int i, .int j, .ref oo])).length) Slot.unset).toArray = ls at hl ⊢
  have hl : lv_has ls 5 [(0, .ref h0), (1, .int i), (2, .int j), (3, .ref oo)] := hl
  refine lv_aload_n hx hb dL_pay_0 rfl (lv_at hl 3 rfl) ?_
  refine lv_iconst (v := 0) hx hb dL_pay_1 (by decide) ?_
  refine lv_aload_n hx hb dL_pay_2 rfl (lv_at hl 0 rfl) ?_
  refine lv_iload_n hx hb dL_pay_3 rfl (lv_at hl 1 rfl) ?_
  refine lv_iload_n hx hb dL_pay_4 rfl (lv_at hl 2 rfl) ?_
  have hPc := hP.sub (ws' := [(h0, .inr (10, [.ref b0, .int 0, .ref p0, .ref u0, .ref r0, .ref a0, .ref t0, .ref s0, .ref o0])), (p0, .inr (7, [.int 0, .int 365, .int 0, .int 0, .ref p1, .int 0, .ref p2, .ref p3, .ref p4, .ref p5, .int 0, .ref p6, .int 0, .ref p7, .ref p8, .ref p9, .int 0]))]) [0, 1] rfl
  have hDc := hD.sub (ws' := [(h0, .inr (10, [.ref b0, .int 0, .ref p0, .ref u0, .ref r0, .ref a0, .ref t0, .ref s0, .ref o0])), (p0, .inr (7, [.int 0, .int 365, .int 0, .int 0, .ref p1, .int 0, .ref p2, .ref p3, .ref p4, .ref p5, .int 0, .ref p6, .int 0, .ref p7, .ref p8, .ref p9, .int 0]))]) [0, 1] (by decide) rfl
  have hFc := va_free (wc := [(h0, .inr (10, [.ref b0, .int 0, .ref p0, .ref u0, .ref r0, .ref a0, .ref t0, .ref s0, .ref o0])), (p0, .inr (7, [.int 0, .int 365, .int 0, .int 0, .ref p1, .int 0, .ref p2, .ref p3, .ref p4, .ref p5, .int 0, .ref p6, .int 0, .ref p7, .ref p8, .ref p9, .int 0]))]) hD hS hA [0, 1] rfl
  refine vx_calli (vx_runV (As := [.int i, .int j]) (rest := [.int 0, .ref oo]) ⟨hx, hb, hml, hown, hts⟩ (c_pay_thr l D cA sa h0 b0 p0 u0 r0 a0 t0 s0 o0 p1 p2 p3 p4 p5 p6 p7 p8 p9 i j s.heap.size hl9) (cwV 2 hts gL_pay_X9_pay rfl rfl rfl (by decide +kernel) ⟨(Nat.le_of_ble_eq_true rfl), (Nat.le_of_ble_eq_true rfl)⟩) ⟨Wd.blind, va_recv hK hPc (ci := 10) (q0 := 0) rfl rfl, fun U hU hW => ⟨rfl, Wd.call hPc hDc hK hC hZ hS hFc U hU hW⟩⟩ rfl rfl hl.1 rfl (lv_room (Nat.le_of_ble_eq_true rfl)) dL_pay_5 ⟨(Nat.le_of_ble_eq_true rfl), (Nat.le_of_ble_eq_true rfl)⟩) hS (fun q _ h => hFc q h) hFc (fun q _ h => hFc q h) (fun E ce q9 u t H1 locs ht hvm hpx hE hz1 hk1 hS hcell hv9 hcl => ?_) (fun r9 u t H1 locs ht hvm hw hB hz1 hk1 hS => hw.elim)
  have hE : E = "java/lang/IndexOutOfBoundsException" := hE
  subst hE
  refine vx_catch hown [] ⟨0, 10, 13, 18⟩ (tableOf [(0, 10, 17, 13), (0, 10, 21, 75)]) (htab.trans rfl) (fun z h => absurd h List.not_mem_nil) (by decide) (by decide) (name := "java/lang/IndexOutOfBoundsException") (hts (.classLink RL 18 "java/lang/IndexOutOfBoundsException") (by decide +kernel)) (hC.c (by decide +kernel)) hcell hv9 hcl ?_
  generalize H1 = H at hS ⊢
  have hP : va_P D vwCl [] H := fun k q h => by simp at h
  have hD : va_D A [] := ⟨fun i j p q h => by simp at h, fun k q h => by simp at h⟩
  refine lv_astore (lv' := [(4, .ref q9), (0, .ref h0), (1, .int i), (2, .int j), (3, .ref oo)]) hx hb dL_pay_13 hl (by decide) rfl (fun ls hl => ?_)
  refine lv_iconst (v := 1) hx hb dL_pay_15 (by decide) ?_
  have hP9 := hP.sub (ws' := []) [] rfl
  have hD9 := hD.sub (ws' := []) [] (by decide) rfl
  refine W.widen (k := 1) (n := 6) (Nat.le_of_ble_eq_true rfl) (Nat.le_of_ble_eq_true rfl) ?_
  exact W.iret (v := 1) hx hb hr (fun t ht hW => ⟨⟨1, (), rfl, rfl, by rw [ht]; exact hP9, hD9⟩, hS.F ht⟩) hS.2.2 dL_pay_16

set_option maxHeartbeats 4000000 in
set_option maxRecDepth 100000 in
/-- the wrapper of resolve -/
theorem c_L_resolve_thr (l : Launch) (D : va_G) (cA : Nat → ClassId) (sa : Nat → Nat) (h0 b0 p0 u0 r0 a0 t0 s0 o0 p1 p2 p3 p4 p5 p6 p7 p8 p9 : Nat) (i j : Int32) (oo : Nat) (fo : Nat → Int64) (sz : Nat) (hl9 : l.stackTraces = false) : Met l yL_resolve wsL_resolve ({ frames := 9, cells := 1, slots := 6, locals := 154 }) (va_Pc [.ref h0, .int i, .int j, .ref oo] (Wd D cA sa [(h0, .inr (10, [.ref b0, .int 0, .ref p0, .ref u0, .ref r0, .ref a0, .ref t0, .ref s0, .ref o0])), (p0, .inr (7, [.int 0, .int 365, .int 0, .int 0, .ref p1, .int 0, .ref p2, .ref p3, .ref p4, .ref p5, .int 0, .ref p6, .int 0, .ref p7, .ref p8, .ref p9, .int 0])), (oo, .inl (cA 1, 1, .inr (.inl fo)))] sz)) (va_Qi (fun (r : Int32) (_ : Unit) => r = 1) (fun (_ : Unit) t => Wq D (va_A [(h0, .inr (10, [.ref b0, .int 0, .ref p0, .ref u0, .ref r0, .ref a0, .ref t0, .ref s0, .ref o0])), (p0, .inr (7, [.int 0, .int 365, .int 0, .int 0, .ref p1, .int 0, .ref p2, .ref p3, .ref p4, .ref p5, .int 0, .ref p6, .int 0, .ref p7, .ref p8, .ref p9, .int 0])), (oo, .inl (cA 1, 1, .inr (.inl fo)))] sz) [] t) (va_A [(h0, .inr (10, [.ref b0, .int 0, .ref p0, .ref u0, .ref r0, .ref a0, .ref t0, .ref s0, .ref o0])), (p0, .inr (7, [.int 0, .int 365, .int 0, .int 0, .ref p1, .int 0, .ref p2, .ref p3, .ref p4, .ref p5, .int 0, .ref p6, .int 0, .ref p7, .ref p8, .ref p9, .int 0])), (oo, .inl (cA 1, 1, .inr (.inl fo)))] sz)) 1 6 (va_A [(h0, .inr (10, [.ref b0, .int 0, .ref p0, .ref u0, .ref r0, .ref a0, .ref t0, .ref s0, .ref o0])), (p0, .inr (7, [.int 0, .int 365, .int 0, .int 0, .ref p1, .int 0, .ref p2, .ref p3, .ref p4, .ref p5, .int 0, .ref p6, .int 0, .ref p7, .ref p8, .ref p9, .int 0])), (oo, .inl (cA 1, 1, .inr (.inl fo)))] sz) := by
  refine va_MetW (cc := cL_resolve) (maxL := 5) (ret := (some .int)) (hh := [(0, 10, 13, 18), (0, 10, 17, 13), (0, 10, 21, 75)]) (by decide) rfl ?_
  intro p e s m args below meth c s₁ B hml hv
  obtain ⟨rfl, hsz, hP, hK, hD0, hC, hZ⟩ := hv
  have hx := B.exec
  have hb := B.bytes
  have hr := B.returns
  have hts := atoms_spec (ws := wsL_resolve) B.pre
  have hown : s.vm.findClass RL = some m.cls := findClass_of_methodNamed B.named
  have hlocks := B.notSynchronized
  have htab := vx_table (x := yL_resolve) B (hts (.codeWith yL_resolve cL_resolve 5 (some .int) [(0, 10, 13, 18), (0, 10, 17, 13), (0, 10, 21, 75)]) List.mem_cons_self)
  subst hsz
  have hD := hD0.self (sz := s.heap.size)
  generalize hAe : va_A [(h0, .inr (10, [.ref b0, .int 0, .ref p0, .ref u0, .ref r0, .ref a0, .ref t0, .ref s0, .ref o0])), (p0, .inr (7, [.int 0, .int 365, .int 0, .int 0, .ref p1, .int 0, .ref p2, .ref p3, .ref p4, .ref p5, .int 0, .ref p6, .int 0, .ref p7, .ref p8, .ref p9, .int 0])), (oo, .inl (cA 1, 1, .inr (.inl fo)))] s.heap.size = A at hD hZ ⊢
  have hA : ∀ q : Nat, s.heap.size ≤ q → A q := fun q h => by rw [← hAe]; exact Or.inr h
  have hS : va_S A s.heap s.heap [] := va_S.rf
  have hP : va_P D vwCl [(h0, .inr (10, [.ref b0, .int 0, .ref p0, .ref u0, .ref r0, .ref a0, .ref t0, .ref s0, .ref o0])), (p0, .inr (7, [.int 0, .int 365, .int 0, .int 0, .ref p1, .int 0, .ref p2, .ref p3, .ref p4, .ref p5, .int 0, .ref p6, .int 0, .ref p7, .ref p8, .ref p9, .int 0])), (oo, .inl (cA 1, 1, .inr (.inl fo)))] s.heap := hP
  have hl := lv_entry ([.ref h0, .int i, .int j, .ref oo]) (n := 5) (Nat.le_of_ble_eq_true rfl)
  rw [lg_entry_eq]
  generalize (lg_sl ([.ref h0, .int i, .int j, .ref oo]) ++ List.replicate (5 - (lg_sl ([.ref h0, .int i, .int j, .ref oo])).length) Slot.unset).toArray = ls at hl ⊢
  have hl : lv_has ls 5 [(0, .ref h0), (1, .int i), (2, .int j), (3, .ref oo)] := hl
  refine lv_aload_n hx hb dL_resolve_0 rfl (lv_at hl 3 rfl) ?_
  refine lv_iconst (v := 0) hx hb dL_resolve_1 (by decide) ?_
  refine lv_aload_n hx hb dL_resolve_2 rfl (lv_at hl 0 rfl) ?_
  refine lv_iload_n hx hb dL_resolve_3 rfl (lv_at hl 1 rfl) ?_
  refine lv_iload_n hx hb dL_resolve_4 rfl (lv_at hl 2 rfl) ?_
  have hPc := hP.sub (ws' := [(h0, .inr (10, [.ref b0, .int 0, .ref p0, .ref u0, .ref r0, .ref a0, .ref t0, .ref s0, .ref o0])), (p0, .inr (7, [.int 0, .int 365, .int 0, .int 0, .ref p1, .int 0, .ref p2, .ref p3, .ref p4, .ref p5, .int 0, .ref p6, .int 0, .ref p7, .ref p8, .ref p9, .int 0]))]) [0, 1] rfl
  have hDc := hD.sub (ws' := [(h0, .inr (10, [.ref b0, .int 0, .ref p0, .ref u0, .ref r0, .ref a0, .ref t0, .ref s0, .ref o0])), (p0, .inr (7, [.int 0, .int 365, .int 0, .int 0, .ref p1, .int 0, .ref p2, .ref p3, .ref p4, .ref p5, .int 0, .ref p6, .int 0, .ref p7, .ref p8, .ref p9, .int 0]))]) [0, 1] (by decide) rfl
  have hFc := va_free (wc := [(h0, .inr (10, [.ref b0, .int 0, .ref p0, .ref u0, .ref r0, .ref a0, .ref t0, .ref s0, .ref o0])), (p0, .inr (7, [.int 0, .int 365, .int 0, .int 0, .ref p1, .int 0, .ref p2, .ref p3, .ref p4, .ref p5, .int 0, .ref p6, .int 0, .ref p7, .ref p8, .ref p9, .int 0]))]) hD hS hA [0, 1] rfl
  refine vx_calli (vx_runV (As := [.int i, .int j]) (rest := [.int 0, .ref oo]) ⟨hx, hb, hml, hown, hts⟩ (c_resolve_thr l D cA sa h0 b0 p0 u0 r0 a0 t0 s0 o0 p1 p2 p3 p4 p5 p6 p7 p8 p9 i j s.heap.size hl9) (cwV 2 hts gL_resolve_X9_resolve rfl rfl rfl (by decide +kernel) ⟨(Nat.le_of_ble_eq_true rfl), (Nat.le_of_ble_eq_true rfl)⟩) ⟨Wd.blind, va_recv hK hPc (ci := 10) (q0 := 0) rfl rfl, fun U hU hW => ⟨rfl, Wd.call hPc hDc hK hC hZ hS hFc U hU hW⟩⟩ rfl rfl hl.1 rfl (lv_room (Nat.le_of_ble_eq_true rfl)) dL_resolve_5 ⟨(Nat.le_of_ble_eq_true rfl), (Nat.le_of_ble_eq_true rfl)⟩) hS (fun q _ h => hFc q h) hFc (fun q _ h => hFc q h) (fun E ce q9 u t H1 locs ht hvm hpx hE hz1 hk1 hS hcell hv9 hcl => ?_) (fun r9 u t H1 locs ht hvm hw hB hz1 hk1 hS => hw.elim)
  have hE : E = "java/lang/IndexOutOfBoundsException" := hE
  subst hE
  refine vx_catch hown [] ⟨0, 10, 13, 18⟩ (tableOf [(0, 10, 17, 13), (0, 10, 21, 75)]) (htab.trans rfl) (fun z h => absurd h List.not_mem_nil) (by decide) (by decide) (name := "java/lang/IndexOutOfBoundsException") (hts (.classLink RL 18 "java/lang/IndexOutOfBoundsException") (by decide +kernel)) (hC.c (by decide +kernel)) hcell hv9 hcl ?_
  generalize H1 = H at hS ⊢
  have hP : va_P D vwCl [] H := fun k q h => by simp at h
  have hD : va_D A [] := ⟨fun i j p q h => by simp at h, fun k q h => by simp at h⟩
  refine lv_astore (lv' := [(4, .ref q9), (0, .ref h0), (1, .int i), (2, .int j), (3, .ref oo)]) hx hb dL_resolve_13 hl (by decide) rfl (fun ls hl => ?_)
  refine lv_iconst (v := 1) hx hb dL_resolve_15 (by decide) ?_
  have hP9 := hP.sub (ws' := []) [] rfl
  have hD9 := hD.sub (ws' := []) [] (by decide) rfl
  refine W.widen (k := 1) (n := 6) (Nat.le_of_ble_eq_true rfl) (Nat.le_of_ble_eq_true rfl) ?_
  exact W.iret (v := 1) hx hb hr (fun t ht hW => ⟨⟨1, (), rfl, rfl, by rw [ht]; exact hP9, hD9⟩, hS.F ht⟩) hS.2.2 dL_resolve_16

set_option maxHeartbeats 4000000 in
set_option maxRecDepth 100000 in
/-- the wrapper of proofCharacter -/
theorem c_L_proofCharacter_thr (l : Launch) (D : va_G) (cA : Nat → ClassId) (sa : Nat → Nat) (h0 b0 p0 u0 r0 a0 t0 s0 o0 p1 p2 p3 p4 p5 p6 p7 p8 p9 : Nat) (i j : Int32) (oo : Nat) (fo : Nat → Int64) (sz : Nat) (hl9 : l.stackTraces = false) : Met l yL_proofCharacter wsL_proofCharacter ({ frames := 9, cells := 1, slots := 6, locals := 156 }) (va_Pc [.ref h0, .int i, .int j, .ref oo] (Wd D cA sa [(h0, .inr (10, [.ref b0, .int 0, .ref p0, .ref u0, .ref r0, .ref a0, .ref t0, .ref s0, .ref o0])), (p0, .inr (7, [.int 0, .int 365, .int 0, .int 0, .ref p1, .int 0, .ref p2, .ref p3, .ref p4, .ref p5, .int 0, .ref p6, .int 0, .ref p7, .ref p8, .ref p9, .int 0])), (oo, .inl (cA 1, 1, .inr (.inl fo)))] sz)) (va_Qi (fun (r : Int32) (_ : Unit) => r = 1) (fun (_ : Unit) t => Wq D (va_A [(h0, .inr (10, [.ref b0, .int 0, .ref p0, .ref u0, .ref r0, .ref a0, .ref t0, .ref s0, .ref o0])), (p0, .inr (7, [.int 0, .int 365, .int 0, .int 0, .ref p1, .int 0, .ref p2, .ref p3, .ref p4, .ref p5, .int 0, .ref p6, .int 0, .ref p7, .ref p8, .ref p9, .int 0])), (oo, .inl (cA 1, 1, .inr (.inl fo)))] sz) [] t) (va_A [(h0, .inr (10, [.ref b0, .int 0, .ref p0, .ref u0, .ref r0, .ref a0, .ref t0, .ref s0, .ref o0])), (p0, .inr (7, [.int 0, .int 365, .int 0, .int 0, .ref p1, .int 0, .ref p2, .ref p3, .ref p4, .ref p5, .int 0, .ref p6, .int 0, .ref p7, .ref p8, .ref p9, .int 0])), (oo, .inl (cA 1, 1, .inr (.inl fo)))] sz)) 1 6 (va_A [(h0, .inr (10, [.ref b0, .int 0, .ref p0, .ref u0, .ref r0, .ref a0, .ref t0, .ref s0, .ref o0])), (p0, .inr (7, [.int 0, .int 365, .int 0, .int 0, .ref p1, .int 0, .ref p2, .ref p3, .ref p4, .ref p5, .int 0, .ref p6, .int 0, .ref p7, .ref p8, .ref p9, .int 0])), (oo, .inl (cA 1, 1, .inr (.inl fo)))] sz) := by
  refine va_MetW (cc := cL_proofCharacter) (maxL := 5) (ret := (some .int)) (hh := [(0, 10, 13, 18)]) (by decide) rfl ?_
  intro p e s m args below meth c s₁ B hml hv
  obtain ⟨rfl, hsz, hP, hK, hD0, hC, hZ⟩ := hv
  have hx := B.exec
  have hb := B.bytes
  have hr := B.returns
  have hts := atoms_spec (ws := wsL_proofCharacter) B.pre
  have hown : s.vm.findClass RL = some m.cls := findClass_of_methodNamed B.named
  have hlocks := B.notSynchronized
  have htab := vx_table (x := yL_proofCharacter) B (hts (.codeWith yL_proofCharacter cL_proofCharacter 5 (some .int) [(0, 10, 13, 18)]) List.mem_cons_self)
  subst hsz
  have hD := hD0.self (sz := s.heap.size)
  generalize hAe : va_A [(h0, .inr (10, [.ref b0, .int 0, .ref p0, .ref u0, .ref r0, .ref a0, .ref t0, .ref s0, .ref o0])), (p0, .inr (7, [.int 0, .int 365, .int 0, .int 0, .ref p1, .int 0, .ref p2, .ref p3, .ref p4, .ref p5, .int 0, .ref p6, .int 0, .ref p7, .ref p8, .ref p9, .int 0])), (oo, .inl (cA 1, 1, .inr (.inl fo)))] s.heap.size = A at hD hZ ⊢
  have hA : ∀ q : Nat, s.heap.size ≤ q → A q := fun q h => by rw [← hAe]; exact Or.inr h
  have hS : va_S A s.heap s.heap [] := va_S.rf
  have hP : va_P D vwCl [(h0, .inr (10, [.ref b0, .int 0, .ref p0, .ref u0, .ref r0, .ref a0, .ref t0, .ref s0, .ref o0])), (p0, .inr (7, [.int 0, .int 365, .int 0, .int 0, .ref p1, .int 0, .ref p2, .ref p3, .ref p4, .ref p5, .int 0, .ref p6, .int 0, .ref p7, .ref p8, .ref p9, .int 0])), (oo, .inl (cA 1, 1, .inr (.inl fo)))] s.heap := hP
  have hl := lv_entry ([.ref h0, .int i, .int j, .ref oo]) (n := 5) (Nat.le_of_ble_eq_true rfl)
  rw [lg_entry_eq]
  generalize (lg_sl ([.ref h0, .int i, .int j, .ref oo]) ++ List.replicate (5 - (lg_sl ([.ref h0, .int i, .int j, .ref oo])).length) Slot.unset).toArray = ls at hl ⊢
  have hl : lv_has ls 5 [(0, .ref h0), (1, .int i), (2, .int j), (3, .ref oo)] := hl
  refine lv_aload_n hx hb dL_proofCharacter_0 rfl (lv_at hl 3 rfl) ?_
  refine lv_iconst (v := 0) hx hb dL_proofCharacter_1 (by decide) ?_
  refine lv_aload_n hx hb dL_proofCharacter_2 rfl (lv_at hl 0 rfl) ?_
  refine lv_iload_n hx hb dL_proofCharacter_3 rfl (lv_at hl 1 rfl) ?_
  refine lv_iload_n hx hb dL_proofCharacter_4 rfl (lv_at hl 2 rfl) ?_
  have hPc := hP.sub (ws' := [(h0, .inr (10, [.ref b0, .int 0, .ref p0, .ref u0, .ref r0, .ref a0, .ref t0, .ref s0, .ref o0])), (p0, .inr (7, [.int 0, .int 365, .int 0, .int 0, .ref p1, .int 0, .ref p2, .ref p3, .ref p4, .ref p5, .int 0, .ref p6, .int 0, .ref p7, .ref p8, .ref p9, .int 0]))]) [0, 1] rfl
  have hDc := hD.sub (ws' := [(h0, .inr (10, [.ref b0, .int 0, .ref p0, .ref u0, .ref r0, .ref a0, .ref t0, .ref s0, .ref o0])), (p0, .inr (7, [.int 0, .int 365, .int 0, .int 0, .ref p1, .int 0, .ref p2, .ref p3, .ref p4, .ref p5, .int 0, .ref p6, .int 0, .ref p7, .ref p8, .ref p9, .int 0]))]) [0, 1] (by decide) rfl
  have hFc := va_free (wc := [(h0, .inr (10, [.ref b0, .int 0, .ref p0, .ref u0, .ref r0, .ref a0, .ref t0, .ref s0, .ref o0])), (p0, .inr (7, [.int 0, .int 365, .int 0, .int 0, .ref p1, .int 0, .ref p2, .ref p3, .ref p4, .ref p5, .int 0, .ref p6, .int 0, .ref p7, .ref p8, .ref p9, .int 0]))]) hD hS hA [0, 1] rfl
  refine vx_calli (vx_runV (As := [.int i, .int j]) (rest := [.int 0, .ref oo]) ⟨hx, hb, hml, hown, hts⟩ (c_proofCharacter_thr l D cA sa h0 b0 p0 u0 r0 a0 t0 s0 o0 p1 p2 p3 p4 p5 p6 p7 p8 p9 i j s.heap.size hl9) (cwV 2 hts gL_proofCharacter_X9_proofCharacter rfl rfl rfl (by decide +kernel) ⟨(Nat.le_of_ble_eq_true rfl), (Nat.le_of_ble_eq_true rfl)⟩) ⟨Wd.blind, va_recv hK hPc (ci := 10) (q0 := 0) rfl rfl, fun U hU hW => ⟨rfl, Wd.call hPc hDc hK hC hZ hS hFc U hU hW⟩⟩ rfl rfl hl.1 rfl (lv_room (Nat.le_of_ble_eq_true rfl)) dL_proofCharacter_5 ⟨(Nat.le_of_ble_eq_true rfl), (Nat.le_of_ble_eq_true rfl)⟩) hS (fun q _ h => hFc q h) hFc (fun q _ h => hFc q h) (fun E ce q9 u t H1 locs ht hvm hpx hE hz1 hk1 hS hcell hv9 hcl => ?_) (fun r9 u t H1 locs ht hvm hw hB hz1 hk1 hS => hw.elim)
  have hE : E = "java/lang/IndexOutOfBoundsException" := hE
  subst hE
  refine vx_catch hown [] ⟨0, 10, 13, 18⟩ (tableOf []) (htab.trans rfl) (fun z h => absurd h List.not_mem_nil) (by decide) (by decide) (name := "java/lang/IndexOutOfBoundsException") (hts (.classLink RL 18 "java/lang/IndexOutOfBoundsException") (by decide +kernel)) (hC.c (by decide +kernel)) hcell hv9 hcl ?_
  generalize H1 = H at hS ⊢
  have hP : va_P D vwCl [] H := fun k q h => by simp at h
  have hD : va_D A [] := ⟨fun i j p q h => by simp at h, fun k q h => by simp at h⟩
  refine lv_astore (lv' := [(4, .ref q9), (0, .ref h0), (1, .int i), (2, .int j), (3, .ref oo)]) hx hb dL_proofCharacter_13 hl (by decide) rfl (fun ls hl => ?_)
  refine lv_iconst (v := 1) hx hb dL_proofCharacter_15 (by decide) ?_
  have hP9 := hP.sub (ws' := []) [] rfl
  have hD9 := hD.sub (ws' := []) [] (by decide) rfl
  refine W.widen (k := 1) (n := 6) (Nat.le_of_ble_eq_true rfl) (Nat.le_of_ble_eq_true rfl) ?_
  exact W.iret (v := 1) hx hb hr (fun t ht hW => ⟨⟨1, (), rfl, rfl, by rw [ht]; exact hP9, hD9⟩, hS.F ht⟩) hS.2.2 dL_proofCharacter_16

set_option maxHeartbeats 4000000 in
set_option maxRecDepth 100000 in
/-- the wrapper of entry -/
theorem c_L_entry_thr (l : Launch) (D : va_G) (cA : Nat → ClassId) (sa : Nat → Nat) (h0 b0 p0 u0 r0 a0 t0 s0 o0 a1 a3 a4 a5 a6 a2 : Nat) (i j : Int32) (oo : Nat) (fo : Nat → Int64) (sz : Nat) (hl9 : l.stackTraces = false) : Met l yL_entry wsL_entry ({ frames := 8, cells := 1, slots := 6, locals := 133 }) (va_Pc [.ref h0, .int i, .int j, .ref oo] (Wd D cA sa [(h0, .inr (10, [.ref b0, .int 0, .ref p0, .ref u0, .ref r0, .ref a0, .ref t0, .ref s0, .ref o0])), (a0, .inr (4, [.ref p0, .ref a1, .ref a3, .ref a4, .ref a5, .ref a6, .int 0, .int 0, .int 0, .long 0, .long 0, .long 0, .int 0, .int 0, .int 0, .int 0, .int 365, .int 0, .int 0, .int 0])), (a1, .inr (6, [.ref a2, .int 0, .int 0])), (oo, .inl (cA 1, 1, .inr (.inl fo)))] sz)) (va_Qi (fun (r : Int32) (_ : Unit) => r = 1) (fun (_ : Unit) t => Wq D (va_A [(h0, .inr (10, [.ref b0, .int 0, .ref p0, .ref u0, .ref r0, .ref a0, .ref t0, .ref s0, .ref o0])), (a0, .inr (4, [.ref p0, .ref a1, .ref a3, .ref a4, .ref a5, .ref a6, .int 0, .int 0, .int 0, .long 0, .long 0, .long 0, .int 0, .int 0, .int 0, .int 0, .int 365, .int 0, .int 0, .int 0])), (a1, .inr (6, [.ref a2, .int 0, .int 0])), (oo, .inl (cA 1, 1, .inr (.inl fo)))] sz) [] t) (va_A [(h0, .inr (10, [.ref b0, .int 0, .ref p0, .ref u0, .ref r0, .ref a0, .ref t0, .ref s0, .ref o0])), (a0, .inr (4, [.ref p0, .ref a1, .ref a3, .ref a4, .ref a5, .ref a6, .int 0, .int 0, .int 0, .long 0, .long 0, .long 0, .int 0, .int 0, .int 0, .int 0, .int 365, .int 0, .int 0, .int 0])), (a1, .inr (6, [.ref a2, .int 0, .int 0])), (oo, .inl (cA 1, 1, .inr (.inl fo)))] sz)) 1 6 (va_A [(h0, .inr (10, [.ref b0, .int 0, .ref p0, .ref u0, .ref r0, .ref a0, .ref t0, .ref s0, .ref o0])), (a0, .inr (4, [.ref p0, .ref a1, .ref a3, .ref a4, .ref a5, .ref a6, .int 0, .int 0, .int 0, .long 0, .long 0, .long 0, .int 0, .int 0, .int 0, .int 0, .int 365, .int 0, .int 0, .int 0])), (a1, .inr (6, [.ref a2, .int 0, .int 0])), (oo, .inl (cA 1, 1, .inr (.inl fo)))] sz) := by
  refine va_MetW (cc := cL_entry) (maxL := 5) (ret := (some .int)) (hh := [(0, 10, 13, 18), (0, 10, 17, 13)]) (by decide) rfl ?_
  intro p e s m args below meth c s₁ B hml hv
  obtain ⟨rfl, hsz, hP, hK, hD0, hC, hZ⟩ := hv
  have hx := B.exec
  have hb := B.bytes
  have hr := B.returns
  have hts := atoms_spec (ws := wsL_entry) B.pre
  have hown : s.vm.findClass RL = some m.cls := findClass_of_methodNamed B.named
  have hlocks := B.notSynchronized
  have htab := vx_table (x := yL_entry) B (hts (.codeWith yL_entry cL_entry 5 (some .int) [(0, 10, 13, 18), (0, 10, 17, 13)]) List.mem_cons_self)
  subst hsz
  have hD := hD0.self (sz := s.heap.size)
  generalize hAe : va_A [(h0, .inr (10, [.ref b0, .int 0, .ref p0, .ref u0, .ref r0, .ref a0, .ref t0, .ref s0, .ref o0])), (a0, .inr (4, [.ref p0, .ref a1, .ref a3, .ref a4, .ref a5, .ref a6, .int 0, .int 0, .int 0, .long 0, .long 0, .long 0, .int 0, .int 0, .int 0, .int 0, .int 365, .int 0, .int 0, .int 0])), (a1, .inr (6, [.ref a2, .int 0, .int 0])), (oo, .inl (cA 1, 1, .inr (.inl fo)))] s.heap.size = A at hD hZ ⊢
  have hA : ∀ q : Nat, s.heap.size ≤ q → A q := fun q h => by rw [← hAe]; exact Or.inr h
  have hS : va_S A s.heap s.heap [] := va_S.rf
  have hP : va_P D vwCl [(h0, .inr (10, [.ref b0, .int 0, .ref p0, .ref u0, .ref r0, .ref a0, .ref t0, .ref s0, .ref o0])), (a0, .inr (4, [.ref p0, .ref a1, .ref a3, .ref a4, .ref a5, .ref a6, .int 0, .int 0, .int 0, .long 0, .long 0, .long 0, .int 0, .int 0, .int 0, .int 0, .int 365, .int 0, .int 0, .int 0])), (a1, .inr (6, [.ref a2, .int 0, .int 0])), (oo, .inl (cA 1, 1, .inr (.inl fo)))] s.heap := hP
  have hl := lv_entry ([.ref h0, .int i, .int j, .ref oo]) (n := 5) (Nat.le_of_ble_eq_true rfl)
  rw [lg_entry_eq]
  generalize (lg_sl ([.ref h0, .int i, .int j, .ref oo]) ++ List.replicate (5 - (lg_sl ([.ref h0, .int i, .int j, .ref oo])).length) Slot.unset).toArray = ls at hl ⊢
  have hl : lv_has ls 5 [(0, .ref h0), (1, .int i), (2, .int j), (3, .ref oo)] := hl
  refine lv_aload_n hx hb dL_entry_0 rfl (lv_at hl 3 rfl) ?_
  refine lv_iconst (v := 0) hx hb dL_entry_1 (by decide) ?_
  refine lv_aload_n hx hb dL_entry_2 rfl (lv_at hl 0 rfl) ?_
  refine lv_iload_n hx hb dL_entry_3 rfl (lv_at hl 1 rfl) ?_
  refine lv_iload_n hx hb dL_entry_4 rfl (lv_at hl 2 rfl) ?_
  have hPc := hP.sub (ws' := [(h0, .inr (10, [.ref b0, .int 0, .ref p0, .ref u0, .ref r0, .ref a0, .ref t0, .ref s0, .ref o0])), (a0, .inr (4, [.ref p0, .ref a1, .ref a3, .ref a4, .ref a5, .ref a6, .int 0, .int 0, .int 0, .long 0, .long 0, .long 0, .int 0, .int 0, .int 0, .int 0, .int 365, .int 0, .int 0, .int 0])), (a1, .inr (6, [.ref a2, .int 0, .int 0]))]) [0, 1, 2] rfl
  have hDc := hD.sub (ws' := [(h0, .inr (10, [.ref b0, .int 0, .ref p0, .ref u0, .ref r0, .ref a0, .ref t0, .ref s0, .ref o0])), (a0, .inr (4, [.ref p0, .ref a1, .ref a3, .ref a4, .ref a5, .ref a6, .int 0, .int 0, .int 0, .long 0, .long 0, .long 0, .int 0, .int 0, .int 0, .int 0, .int 365, .int 0, .int 0, .int 0])), (a1, .inr (6, [.ref a2, .int 0, .int 0]))]) [0, 1, 2] (by decide) rfl
  have hFc := va_free (wc := [(h0, .inr (10, [.ref b0, .int 0, .ref p0, .ref u0, .ref r0, .ref a0, .ref t0, .ref s0, .ref o0])), (a0, .inr (4, [.ref p0, .ref a1, .ref a3, .ref a4, .ref a5, .ref a6, .int 0, .int 0, .int 0, .long 0, .long 0, .long 0, .int 0, .int 0, .int 0, .int 0, .int 365, .int 0, .int 0, .int 0])), (a1, .inr (6, [.ref a2, .int 0, .int 0]))]) hD hS hA [0, 1, 2] rfl
  refine vx_calli (vx_runV (As := [.int i, .int j]) (rest := [.int 0, .ref oo]) ⟨hx, hb, hml, hown, hts⟩ (c_entry_thr l D cA sa h0 b0 p0 u0 r0 a0 t0 s0 o0 a1 a3 a4 a5 a6 a2 i j s.heap.size hl9) (cwV 2 hts gL_entry_X9_entry rfl rfl rfl (by decide +kernel) ⟨(Nat.le_of_ble_eq_true rfl), (Nat.le_of_ble_eq_true rfl)⟩) ⟨Wd.blind, va_recv hK hPc (ci := 10) (q0 := 0) rfl rfl, fun U hU hW => ⟨rfl, Wd.call hPc hDc hK hC hZ hS hFc U hU hW⟩⟩ rfl rfl hl.1 rfl (lv_room (Nat.le_of_ble_eq_true rfl)) dL_entry_5 ⟨(Nat.le_of_ble_eq_true rfl), (Nat.le_of_ble_eq_true rfl)⟩) hS (fun q _ h => hFc q h) hFc (fun q _ h => hFc q h) (fun E ce q9 u t H1 locs ht hvm hpx hE hz1 hk1 hS hcell hv9 hcl => ?_) (fun r9 u t H1 locs ht hvm hw hB hz1 hk1 hS => hw.elim)
  have hE : E = "java/lang/IndexOutOfBoundsException" := hE
  subst hE
  refine vx_catch hown [] ⟨0, 10, 13, 18⟩ (tableOf [(0, 10, 17, 13)]) (htab.trans rfl) (fun z h => absurd h List.not_mem_nil) (by decide) (by decide) (name := "java/lang/IndexOutOfBoundsException") (hts (.classLink RL 18 "java/lang/IndexOutOfBoundsException") (by decide +kernel)) (hC.c (by decide +kernel)) hcell hv9 hcl ?_
  generalize H1 = H at hS ⊢
  have hP : va_P D vwCl [] H := fun k q h => by simp at h
  have hD : va_D A [] := ⟨fun i j p q h => by simp at h, fun k q h => by simp at h⟩
  refine lv_astore (lv' := [(4, .ref q9), (0, .ref h0), (1, .int i), (2, .int j), (3, .ref oo)]) hx hb dL_entry_13 hl (by decide) rfl (fun ls hl => ?_)
  refine lv_iconst (v := 1) hx hb dL_entry_15 (by decide) ?_
  have hP9 := hP.sub (ws' := []) [] rfl
  have hD9 := hD.sub (ws' := []) [] (by decide) rfl
  refine W.widen (k := 1) (n := 6) (Nat.le_of_ble_eq_true rfl) (Nat.le_of_ble_eq_true rfl) ?_
  exact W.iret (v := 1) hx hb hr (fun t ht hW => ⟨⟨1, (), rfl, rfl, by rw [ht]; exact hP9, hD9⟩, hS.F ht⟩) hS.2.2 dL_entry_16

set_option maxHeartbeats 4000000 in
set_option maxRecDepth 100000 in
/-- the wrapper of dueAt -/
theorem c_L_dueAt_thr (l : Launch) (D : va_G) (cA : Nat → ClassId) (sa : Nat → Nat) (h0 b0 p0 u0 r0 a0 t0 s0 o0 p1 p2 p3 p4 p5 p6 p7 p8 p9 a1 a3 a4 a5 a6 : Nat) (i : Int32) (oo : Nat) (fo : Nat → Int64) (sz : Nat) (hl9 : l.stackTraces = false) : Met l yL_dueAt wsL_dueAt ({ frames := 7, cells := 1, slots := 6, locals := 112 }) (va_Pc [.ref h0, .int i, .ref oo] (Wd D cA sa [(h0, .inr (10, [.ref b0, .int 0, .ref p0, .ref u0, .ref r0, .ref a0, .ref t0, .ref s0, .ref o0])), (a0, .inr (4, [.ref p0, .ref a1, .ref a3, .ref a4, .ref a5, .ref a6, .int 0, .int 0, .int 0, .long 0, .long 0, .long 0, .int 0, .int 0, .int 0, .int 0, .int 365, .int 0, .int 0, .int 0])), (p0, .inr (7, [.int 0, .int 365, .int 0, .int 0, .ref p1, .int 0, .ref p2, .ref p3, .ref p4, .ref p5, .int 0, .ref p6, .int 0, .ref p7, .ref p8, .ref p9, .int 0])), (oo, .inl (cA 1, 1, .inr (.inl fo)))] sz)) (va_Qi (fun (r : Int32) (_ : Unit) => r = 1) (fun (_ : Unit) t => Wq D (va_A [(h0, .inr (10, [.ref b0, .int 0, .ref p0, .ref u0, .ref r0, .ref a0, .ref t0, .ref s0, .ref o0])), (a0, .inr (4, [.ref p0, .ref a1, .ref a3, .ref a4, .ref a5, .ref a6, .int 0, .int 0, .int 0, .long 0, .long 0, .long 0, .int 0, .int 0, .int 0, .int 0, .int 365, .int 0, .int 0, .int 0])), (p0, .inr (7, [.int 0, .int 365, .int 0, .int 0, .ref p1, .int 0, .ref p2, .ref p3, .ref p4, .ref p5, .int 0, .ref p6, .int 0, .ref p7, .ref p8, .ref p9, .int 0])), (oo, .inl (cA 1, 1, .inr (.inl fo)))] sz) [] t) (va_A [(h0, .inr (10, [.ref b0, .int 0, .ref p0, .ref u0, .ref r0, .ref a0, .ref t0, .ref s0, .ref o0])), (a0, .inr (4, [.ref p0, .ref a1, .ref a3, .ref a4, .ref a5, .ref a6, .int 0, .int 0, .int 0, .long 0, .long 0, .long 0, .int 0, .int 0, .int 0, .int 0, .int 365, .int 0, .int 0, .int 0])), (p0, .inr (7, [.int 0, .int 365, .int 0, .int 0, .ref p1, .int 0, .ref p2, .ref p3, .ref p4, .ref p5, .int 0, .ref p6, .int 0, .ref p7, .ref p8, .ref p9, .int 0])), (oo, .inl (cA 1, 1, .inr (.inl fo)))] sz)) 1 6 (va_A [(h0, .inr (10, [.ref b0, .int 0, .ref p0, .ref u0, .ref r0, .ref a0, .ref t0, .ref s0, .ref o0])), (a0, .inr (4, [.ref p0, .ref a1, .ref a3, .ref a4, .ref a5, .ref a6, .int 0, .int 0, .int 0, .long 0, .long 0, .long 0, .int 0, .int 0, .int 0, .int 0, .int 365, .int 0, .int 0, .int 0])), (p0, .inr (7, [.int 0, .int 365, .int 0, .int 0, .ref p1, .int 0, .ref p2, .ref p3, .ref p4, .ref p5, .int 0, .ref p6, .int 0, .ref p7, .ref p8, .ref p9, .int 0])), (oo, .inl (cA 1, 1, .inr (.inl fo)))] sz) := by
  refine va_MetW (cc := cL_dueAt) (maxL := 4) (ret := (some .int)) (hh := [(0, 9, 12, 18)]) (by decide) rfl ?_
  intro p e s m args below meth c s₁ B hml hv
  obtain ⟨rfl, hsz, hP, hK, hD0, hC, hZ⟩ := hv
  have hx := B.exec
  have hb := B.bytes
  have hr := B.returns
  have hts := atoms_spec (ws := wsL_dueAt) B.pre
  have hown : s.vm.findClass RL = some m.cls := findClass_of_methodNamed B.named
  have hlocks := B.notSynchronized
  have htab := vx_table (x := yL_dueAt) B (hts (.codeWith yL_dueAt cL_dueAt 4 (some .int) [(0, 9, 12, 18)]) List.mem_cons_self)
  subst hsz
  have hD := hD0.self (sz := s.heap.size)
  generalize hAe : va_A [(h0, .inr (10, [.ref b0, .int 0, .ref p0, .ref u0, .ref r0, .ref a0, .ref t0, .ref s0, .ref o0])), (a0, .inr (4, [.ref p0, .ref a1, .ref a3, .ref a4, .ref a5, .ref a6, .int 0, .int 0, .int 0, .long 0, .long 0, .long 0, .int 0, .int 0, .int 0, .int 0, .int 365, .int 0, .int 0, .int 0])), (p0, .inr (7, [.int 0, .int 365, .int 0, .int 0, .ref p1, .int 0, .ref p2, .ref p3, .ref p4, .ref p5, .int 0, .ref p6, .int 0, .ref p7, .ref p8, .ref p9, .int 0])), (oo, .inl (cA 1, 1, .inr (.inl fo)))] s.heap.size = A at hD hZ ⊢
  have hA : ∀ q : Nat, s.heap.size ≤ q → A q := fun q h => by rw [← hAe]; exact Or.inr h
  have hS : va_S A s.heap s.heap [] := va_S.rf
  have hP : va_P D vwCl [(h0, .inr (10, [.ref b0, .int 0, .ref p0, .ref u0, .ref r0, .ref a0, .ref t0, .ref s0, .ref o0])), (a0, .inr (4, [.ref p0, .ref a1, .ref a3, .ref a4, .ref a5, .ref a6, .int 0, .int 0, .int 0, .long 0, .long 0, .long 0, .int 0, .int 0, .int 0, .int 0, .int 365, .int 0, .int 0, .int 0])), (p0, .inr (7, [.int 0, .int 365, .int 0, .int 0, .ref p1, .int 0, .ref p2, .ref p3, .ref p4, .ref p5, .int 0, .ref p6, .int 0, .ref p7, .ref p8, .ref p9, .int 0])), (oo, .inl (cA 1, 1, .inr (.inl fo)))] s.heap := hP
  have hl := lv_entry ([.ref h0, .int i, .ref oo]) (n := 4) (Nat.le_of_ble_eq_true rfl)
  rw [lg_entry_eq]
  generalize (lg_sl ([.ref h0, .int i, .ref oo]) ++ List.replicate (4 - (lg_sl ([.ref h0, .int i, .ref oo])).length) Slot.unset).toArray = ls at hl ⊢
  have hl : lv_has ls 4 [(0, .ref h0), (1, .int i), (2, .ref oo)] := hl
  refine lv_aload_n hx hb dL_dueAt_0 rfl (lv_at hl 2 rfl) ?_
  refine lv_iconst (v := 0) hx hb dL_dueAt_1 (by decide) ?_
  refine lv_aload_n hx hb dL_dueAt_2 rfl (lv_at hl 0 rfl) ?_
  refine lv_iload_n hx hb dL_dueAt_3 rfl (lv_at hl 1 rfl) ?_
  have hPc := hP.sub (ws' := [(h0, .inr (10, [.ref b0, .int 0, .ref p0, .ref u0, .ref r0, .ref a0, .ref t0, .ref s0, .ref o0])), (a0, .inr (4, [.ref p0, .ref a1, .ref a3, .ref a4, .ref a5, .ref a6, .int 0, .int 0, .int 0, .long 0, .long 0, .long 0, .int 0, .int 0, .int 0, .int 0, .int 365, .int 0, .int 0, .int 0])), (p0, .inr (7, [.int 0, .int 365, .int 0, .int 0, .ref p1, .int 0, .ref p2, .ref p3, .ref p4, .ref p5, .int 0, .ref p6, .int 0, .ref p7, .ref p8, .ref p9, .int 0]))]) [0, 1, 2] rfl
  have hDc := hD.sub (ws' := [(h0, .inr (10, [.ref b0, .int 0, .ref p0, .ref u0, .ref r0, .ref a0, .ref t0, .ref s0, .ref o0])), (a0, .inr (4, [.ref p0, .ref a1, .ref a3, .ref a4, .ref a5, .ref a6, .int 0, .int 0, .int 0, .long 0, .long 0, .long 0, .int 0, .int 0, .int 0, .int 0, .int 365, .int 0, .int 0, .int 0])), (p0, .inr (7, [.int 0, .int 365, .int 0, .int 0, .ref p1, .int 0, .ref p2, .ref p3, .ref p4, .ref p5, .int 0, .ref p6, .int 0, .ref p7, .ref p8, .ref p9, .int 0]))]) [0, 1, 2] (by decide) rfl
  have hFc := va_free (wc := [(h0, .inr (10, [.ref b0, .int 0, .ref p0, .ref u0, .ref r0, .ref a0, .ref t0, .ref s0, .ref o0])), (a0, .inr (4, [.ref p0, .ref a1, .ref a3, .ref a4, .ref a5, .ref a6, .int 0, .int 0, .int 0, .long 0, .long 0, .long 0, .int 0, .int 0, .int 0, .int 0, .int 365, .int 0, .int 0, .int 0])), (p0, .inr (7, [.int 0, .int 365, .int 0, .int 0, .ref p1, .int 0, .ref p2, .ref p3, .ref p4, .ref p5, .int 0, .ref p6, .int 0, .ref p7, .ref p8, .ref p9, .int 0]))]) hD hS hA [0, 1, 2] rfl
  refine vx_calli (vx_runV (As := [.int i]) (rest := [.int 0, .ref oo]) ⟨hx, hb, hml, hown, hts⟩ (c_dueAt_thr l D cA sa h0 b0 p0 u0 r0 a0 t0 s0 o0 p1 p2 p3 p4 p5 p6 p7 p8 p9 a1 a3 a4 a5 a6 i s.heap.size hl9) (cwV 1 hts gL_dueAt_X9_dueAt rfl rfl rfl (by decide +kernel) ⟨(Nat.le_of_ble_eq_true rfl), (Nat.le_of_ble_eq_true rfl)⟩) ⟨Wd.blind, va_recv hK hPc (ci := 10) (q0 := 0) rfl rfl, fun U hU hW => ⟨rfl, Wd.call hPc hDc hK hC hZ hS hFc U hU hW⟩⟩ rfl rfl hl.1 rfl (lv_room (Nat.le_of_ble_eq_true rfl)) dL_dueAt_4 ⟨(Nat.le_of_ble_eq_true rfl), (Nat.le_of_ble_eq_true rfl)⟩) hS (fun q _ h => hFc q h) hFc (fun q _ h => hFc q h) (fun E ce q9 u t H1 locs ht hvm hpx hE hz1 hk1 hS hcell hv9 hcl => ?_) (fun r9 u t H1 locs ht hvm hw hB hz1 hk1 hS => hw.elim)
  have hE : E = "java/lang/IndexOutOfBoundsException" := hE
  subst hE
  refine vx_catch hown [] ⟨0, 9, 12, 18⟩ (tableOf []) (htab.trans rfl) (fun z h => absurd h List.not_mem_nil) (by decide) (by decide) (name := "java/lang/IndexOutOfBoundsException") (hts (.classLink RL 18 "java/lang/IndexOutOfBoundsException") (by decide +kernel)) (hC.c (by decide +kernel)) hcell hv9 hcl ?_
  generalize H1 = H at hS ⊢
  have hP : va_P D vwCl [] H := fun k q h => by simp at h
  have hD : va_D A [] := ⟨fun i j p q h => by simp at h, fun k q h => by simp at h⟩
  refine lv_astore_n (lv' := [(3, .ref q9), (0, .ref h0), (1, .int i), (2, .ref oo)]) hx hb dL_dueAt_12 rfl hl (by decide) rfl (fun ls hl => ?_)
  refine lv_iconst (v := 1) hx hb dL_dueAt_13 (by decide) ?_
  have hP9 := hP.sub (ws' := []) [] rfl
  have hD9 := hD.sub (ws' := []) [] (by decide) rfl
  refine W.widen (k := 1) (n := 6) (Nat.le_of_ble_eq_true rfl) (Nat.le_of_ble_eq_true rfl) ?_
  exact W.iret (v := 1) hx hb hr (fun t ht hW => ⟨⟨1, (), rfl, rfl, by rw [ht]; exact hP9, hD9⟩, hS.F ht⟩) hS.2.2 dL_dueAt_14

set_option maxHeartbeats 4000000 in
set_option maxRecDepth 100000 in
/-- the wrapper of payInterest -/
theorem c_L_payInterest_thr (l : Launch) (D : va_G) (cA : Nat → ClassId) (sa : Nat → Nat) (h0 b0 p0 u0 r0 a0 t0 s0 o0 a1 a3 a4 a5 a6 : Nat) (a : Int32) (oo : Nat) (fo : Nat → Int64) (sz : Nat) (hl9 : l.stackTraces = false) : Met l yL_payInterest wsL_payInterest ({ frames := 7, cells := 1, slots := 6, locals := 111 }) (va_Pc [.ref h0, .int a, .ref oo] (Wd D cA sa [(h0, .inr (10, [.ref b0, .int 0, .ref p0, .ref u0, .ref r0, .ref a0, .ref t0, .ref s0, .ref o0])), (a0, .inr (4, [.ref p0, .ref a1, .ref a3, .ref a4, .ref a5, .ref a6, .int 0, .int 0, .int 0, .long 0, .long 0, .long 0, .int 0, .int 0, .int 0, .int 0, .int 365, .int 0, .int 0, .int 0])), (oo, .inl (cA 1, 1, .inr (.inl fo)))] sz)) (va_Qi (fun (r : Int32) (_ : Unit) => r = 1) (fun (_ : Unit) t => Wq D (va_A [(h0, .inr (10, [.ref b0, .int 0, .ref p0, .ref u0, .ref r0, .ref a0, .ref t0, .ref s0, .ref o0])), (a0, .inr (4, [.ref p0, .ref a1, .ref a3, .ref a4, .ref a5, .ref a6, .int 0, .int 0, .int 0, .long 0, .long 0, .long 0, .int 0, .int 0, .int 0, .int 0, .int 365, .int 0, .int 0, .int 0])), (oo, .inl (cA 1, 1, .inr (.inl fo)))] sz) [] t) (va_A [(h0, .inr (10, [.ref b0, .int 0, .ref p0, .ref u0, .ref r0, .ref a0, .ref t0, .ref s0, .ref o0])), (a0, .inr (4, [.ref p0, .ref a1, .ref a3, .ref a4, .ref a5, .ref a6, .int 0, .int 0, .int 0, .long 0, .long 0, .long 0, .int 0, .int 0, .int 0, .int 0, .int 365, .int 0, .int 0, .int 0])), (oo, .inl (cA 1, 1, .inr (.inl fo)))] sz)) 1 6 (va_A [(h0, .inr (10, [.ref b0, .int 0, .ref p0, .ref u0, .ref r0, .ref a0, .ref t0, .ref s0, .ref o0])), (a0, .inr (4, [.ref p0, .ref a1, .ref a3, .ref a4, .ref a5, .ref a6, .int 0, .int 0, .int 0, .long 0, .long 0, .long 0, .int 0, .int 0, .int 0, .int 0, .int 365, .int 0, .int 0, .int 0])), (oo, .inl (cA 1, 1, .inr (.inl fo)))] sz) := by
  refine va_MetW (cc := cL_payInterest) (maxL := 4) (ret := (some .int)) (hh := [(0, 9, 12, 13)]) (by decide) rfl ?_
  intro p e s m args below meth c s₁ B hml hv
  obtain ⟨rfl, hsz, hP, hK, hD0, hC, hZ⟩ := hv
  have hx := B.exec
  have hb := B.bytes
  have hr := B.returns
  have hts := atoms_spec (ws := wsL_payInterest) B.pre
  have hown : s.vm.findClass RL = some m.cls := findClass_of_methodNamed B.named
  have hlocks := B.notSynchronized
  have htab := vx_table (x := yL_payInterest) B (hts (.codeWith yL_payInterest cL_payInterest 4 (some .int) [(0, 9, 12, 13)]) List.mem_cons_self)
  subst hsz
  have hD := hD0.self (sz := s.heap.size)
  generalize hAe : va_A [(h0, .inr (10, [.ref b0, .int 0, .ref p0, .ref u0, .ref r0, .ref a0, .ref t0, .ref s0, .ref o0])), (a0, .inr (4, [.ref p0, .ref a1, .ref a3, .ref a4, .ref a5, .ref a6, .int 0, .int 0, .int 0, .long 0, .long 0, .long 0, .int 0, .int 0, .int 0, .int 0, .int 365, .int 0, .int 0, .int 0])), (oo, .inl (cA 1, 1, .inr (.inl fo)))] s.heap.size = A at hD hZ ⊢
  have hA : ∀ q : Nat, s.heap.size ≤ q → A q := fun q h => by rw [← hAe]; exact Or.inr h
  have hS : va_S A s.heap s.heap [] := va_S.rf
  have hP : va_P D vwCl [(h0, .inr (10, [.ref b0, .int 0, .ref p0, .ref u0, .ref r0, .ref a0, .ref t0, .ref s0, .ref o0])), (a0, .inr (4, [.ref p0, .ref a1, .ref a3, .ref a4, .ref a5, .ref a6, .int 0, .int 0, .int 0, .long 0, .long 0, .long 0, .int 0, .int 0, .int 0, .int 0, .int 365, .int 0, .int 0, .int 0])), (oo, .inl (cA 1, 1, .inr (.inl fo)))] s.heap := hP
  have hl := lv_entry ([.ref h0, .int a, .ref oo]) (n := 4) (Nat.le_of_ble_eq_true rfl)
  rw [lg_entry_eq]
  generalize (lg_sl ([.ref h0, .int a, .ref oo]) ++ List.replicate (4 - (lg_sl ([.ref h0, .int a, .ref oo])).length) Slot.unset).toArray = ls at hl ⊢
  have hl : lv_has ls 4 [(0, .ref h0), (1, .int a), (2, .ref oo)] := hl
  refine lv_aload_n hx hb dL_payInterest_0 rfl (lv_at hl 2 rfl) ?_
  refine lv_iconst (v := 0) hx hb dL_payInterest_1 (by decide) ?_
  refine lv_aload_n hx hb dL_payInterest_2 rfl (lv_at hl 0 rfl) ?_
  refine lv_iload_n hx hb dL_payInterest_3 rfl (lv_at hl 1 rfl) ?_
  have hPc := hP.sub (ws' := [(h0, .inr (10, [.ref b0, .int 0, .ref p0, .ref u0, .ref r0, .ref a0, .ref t0, .ref s0, .ref o0])), (a0, .inr (4, [.ref p0, .ref a1, .ref a3, .ref a4, .ref a5, .ref a6, .int 0, .int 0, .int 0, .long 0, .long 0, .long 0, .int 0, .int 0, .int 0, .int 0, .int 365, .int 0, .int 0, .int 0]))]) [0, 1] rfl
  have hDc := hD.sub (ws' := [(h0, .inr (10, [.ref b0, .int 0, .ref p0, .ref u0, .ref r0, .ref a0, .ref t0, .ref s0, .ref o0])), (a0, .inr (4, [.ref p0, .ref a1, .ref a3, .ref a4, .ref a5, .ref a6, .int 0, .int 0, .int 0, .long 0, .long 0, .long 0, .int 0, .int 0, .int 0, .int 0, .int 365, .int 0, .int 0, .int 0]))]) [0, 1] (by decide) rfl
  have hFc := va_free (wc := [(h0, .inr (10, [.ref b0, .int 0, .ref p0, .ref u0, .ref r0, .ref a0, .ref t0, .ref s0, .ref o0])), (a0, .inr (4, [.ref p0, .ref a1, .ref a3, .ref a4, .ref a5, .ref a6, .int 0, .int 0, .int 0, .long 0, .long 0, .long 0, .int 0, .int 0, .int 0, .int 0, .int 365, .int 0, .int 0, .int 0]))]) hD hS hA [0, 1] rfl
  refine vx_calli (vx_runV (As := [.int a]) (rest := [.int 0, .ref oo]) ⟨hx, hb, hml, hown, hts⟩ (c_payInterest_thr l D cA sa h0 b0 p0 u0 r0 a0 t0 s0 o0 a1 a3 a4 a5 a6 a s.heap.size hl9) (cwV 1 hts gL_payInterest_X9_payInterest rfl rfl rfl (by decide +kernel) ⟨(Nat.le_of_ble_eq_true rfl), (Nat.le_of_ble_eq_true rfl)⟩) ⟨Wd.blind, va_recv hK hPc (ci := 10) (q0 := 0) rfl rfl, fun U hU hW => ⟨rfl, Wd.call hPc hDc hK hC hZ hS hFc U hU hW⟩⟩ rfl rfl hl.1 rfl (lv_room (Nat.le_of_ble_eq_true rfl)) dL_payInterest_4 ⟨(Nat.le_of_ble_eq_true rfl), (Nat.le_of_ble_eq_true rfl)⟩) hS (fun q _ h => hFc q h) hFc (fun q _ h => hFc q h) (fun E ce q9 u t H1 locs ht hvm hpx hE hz1 hk1 hS hcell hv9 hcl => ?_) (fun r9 u t H1 locs ht hvm hw hB hz1 hk1 hS => hw.elim)
  have hE : E = "java/lang/IllegalArgumentException" := hE
  subst hE
  refine vx_catch hown [] ⟨0, 9, 12, 13⟩ (tableOf []) (htab.trans rfl) (fun z h => absurd h List.not_mem_nil) (by decide) (by decide) (name := "java/lang/IllegalArgumentException") (hts (.classLink RL 13 "java/lang/IllegalArgumentException") (by decide +kernel)) (hC.c (by decide +kernel)) hcell hv9 hcl ?_
  generalize H1 = H at hS ⊢
  have hP : va_P D vwCl [] H := fun k q h => by simp at h
  have hD : va_D A [] := ⟨fun i j p q h => by simp at h, fun k q h => by simp at h⟩
  refine lv_astore_n (lv' := [(3, .ref q9), (0, .ref h0), (1, .int a), (2, .ref oo)]) hx hb dL_payInterest_12 rfl hl (by decide) rfl (fun ls hl => ?_)
  refine lv_iconst (v := 1) hx hb dL_payInterest_13 (by decide) ?_
  have hP9 := hP.sub (ws' := []) [] rfl
  have hD9 := hD.sub (ws' := []) [] (by decide) rfl
  refine W.widen (k := 1) (n := 6) (Nat.le_of_ble_eq_true rfl) (Nat.le_of_ble_eq_true rfl) ?_
  exact W.iret (v := 1) hx hb hr (fun t ht hW => ⟨⟨1, (), rfl, rfl, by rw [ht]; exact hP9, hD9⟩, hS.F ht⟩) hS.2.2 dL_payInterest_14

set_option maxHeartbeats 4000000 in
set_option maxRecDepth 100000 in
/-- the wrapper of paymentsAfter -/
theorem c_L_paymentsAfter_ret (l : Launch) (D : va_G) (cA : Nat → ClassId) (sa : Nat → Nat) (h0 b0 p0 u0 r0 a0 t0 s0 o0 t1 t2 t3 t4 t5 t6 a1 a2 a3 a4 a5 a6 p1 p2 p3 p4 p5 p6 p7 p8 p9 : Nat) (x0 x6 x7 x8 x9 x10 x11 x12 x13 x14 x15 x16 x17 x18 x19 : Value) (n2 k2 : Int32) (q2 q3 q4 q5 q6 e2 e3 e4 e5 e6 : Nat → Int32) (N : Nat) (oo : Nat) (fo : Nat → Int64) (sz : Nat) (hN1 : 1 ≤ N) (hN : N ≤ 120) : Met l yL_paymentsAfter wsL_paymentsAfter ({ frames := 6, cells := 0, slots := 0, locals := 144 }) (va_Pc [.ref h0, .int (nI N), .ref oo] (Wd D cA sa [(h0, .inr (10, [.ref b0, .int 0, .ref p0, .ref u0, .ref r0, .ref a0, .ref t0, .ref s0, .ref o0])), (t0, .inr (4, [x0, .ref t1, .ref t3, .ref t4, .ref t5, .ref t6, x6, x7, x8, x9, x10, x11, x12, x13, x14, x15, x16, x17, x18, x19])), (t1, .inr (6, [.ref t2, .int n2, .int k2])), (t2, .inl (cA 0, 240, .inl q2)), (t3, .inl (cA 0, 10, .inl q3)), (t4, .inl (cA 0, 10, .inl q4)), (t5, .inl (cA 0, 10, .inl q5)), (t6, .inl (cA 0, 10, .inl q6)), (a0, .inr (4, [.ref p0, .ref a1, .ref a3, .ref a4, .ref a5, .ref a6, .int 0, .int 0, .int 0, .long 0, .long 0, .long 0, .int 0, .int 0, .int 0, .int 0, .int 365, .int 0, .int 0, .int 0])), (a1, .inr (6, [.ref a2, .int 0, .int 0])), (a2, .inl (cA 0, 240, .inl e2)), (a3, .inl (cA 0, 10, .inl e3)), (a4, .inl (cA 0, 10, .inl e4)), (a5, .inl (cA 0, 10, .inl e5)), (a6, .inl (cA 0, 10, .inl e6)), (p0, .inr (7, [.int 0, .int 365, .int 0, .int 0, .ref p1, .int 0, .ref p2, .ref p3, .ref p4, .ref p5, .int 0, .ref p6, .int 0, .ref p7, .ref p8, .ref p9, .int 0])), (oo, .inl (cA 1, 1, .inr (.inl fo)))] sz)) (va_Qi (fun (r : Int32) (_ : Unit) => r = 0) (fun (_ : Unit) t => Wq D (va_A [(h0, .inr (10, [.ref b0, .int 0, .ref p0, .ref u0, .ref r0, .ref a0, .ref t0, .ref s0, .ref o0])), (t0, .inr (4, [x0, .ref t1, .ref t3, .ref t4, .ref t5, .ref t6, x6, x7, x8, x9, x10, x11, x12, x13, x14, x15, x16, x17, x18, x19])), (t1, .inr (6, [.ref t2, .int n2, .int k2])), (t2, .inl (cA 0, 240, .inl q2)), (t3, .inl (cA 0, 10, .inl q3)), (t4, .inl (cA 0, 10, .inl q4)), (t5, .inl (cA 0, 10, .inl q5)), (t6, .inl (cA 0, 10, .inl q6)), (a0, .inr (4, [.ref p0, .ref a1, .ref a3, .ref a4, .ref a5, .ref a6, .int 0, .int 0, .int 0, .long 0, .long 0, .long 0, .int 0, .int 0, .int 0, .int 0, .int 365, .int 0, .int 0, .int 0])), (a1, .inr (6, [.ref a2, .int 0, .int 0])), (a2, .inl (cA 0, 240, .inl e2)), (a3, .inl (cA 0, 10, .inl e3)), (a4, .inl (cA 0, 10, .inl e4)), (a5, .inl (cA 0, 10, .inl e5)), (a6, .inl (cA 0, 10, .inl e6)), (p0, .inr (7, [.int 0, .int 365, .int 0, .int 0, .ref p1, .int 0, .ref p2, .ref p3, .ref p4, .ref p5, .int 0, .ref p6, .int 0, .ref p7, .ref p8, .ref p9, .int 0])), (oo, .inl (cA 1, 1, .inr (.inl fo)))] sz) [(oo, .inl (cA 1, 1, .inr (.inl (vp_updL fo 0 0))))] t) (va_A [(h0, .inr (10, [.ref b0, .int 0, .ref p0, .ref u0, .ref r0, .ref a0, .ref t0, .ref s0, .ref o0])), (t0, .inr (4, [x0, .ref t1, .ref t3, .ref t4, .ref t5, .ref t6, x6, x7, x8, x9, x10, x11, x12, x13, x14, x15, x16, x17, x18, x19])), (t1, .inr (6, [.ref t2, .int n2, .int k2])), (t2, .inl (cA 0, 240, .inl q2)), (t3, .inl (cA 0, 10, .inl q3)), (t4, .inl (cA 0, 10, .inl q4)), (t5, .inl (cA 0, 10, .inl q5)), (t6, .inl (cA 0, 10, .inl q6)), (a0, .inr (4, [.ref p0, .ref a1, .ref a3, .ref a4, .ref a5, .ref a6, .int 0, .int 0, .int 0, .long 0, .long 0, .long 0, .int 0, .int 0, .int 0, .int 0, .int 365, .int 0, .int 0, .int 0])), (a1, .inr (6, [.ref a2, .int 0, .int 0])), (a2, .inl (cA 0, 240, .inl e2)), (a3, .inl (cA 0, 10, .inl e3)), (a4, .inl (cA 0, 10, .inl e4)), (a5, .inl (cA 0, 10, .inl e5)), (a6, .inl (cA 0, 10, .inl e6)), (p0, .inr (7, [.int 0, .int 365, .int 0, .int 0, .ref p1, .int 0, .ref p2, .ref p3, .ref p4, .ref p5, .int 0, .ref p6, .int 0, .ref p7, .ref p8, .ref p9, .int 0])), (oo, .inl (cA 1, 1, .inr (.inl fo)))] sz)) 0 0 (va_A [(h0, .inr (10, [.ref b0, .int 0, .ref p0, .ref u0, .ref r0, .ref a0, .ref t0, .ref s0, .ref o0])), (t0, .inr (4, [x0, .ref t1, .ref t3, .ref t4, .ref t5, .ref t6, x6, x7, x8, x9, x10, x11, x12, x13, x14, x15, x16, x17, x18, x19])), (t1, .inr (6, [.ref t2, .int n2, .int k2])), (t2, .inl (cA 0, 240, .inl q2)), (t3, .inl (cA 0, 10, .inl q3)), (t4, .inl (cA 0, 10, .inl q4)), (t5, .inl (cA 0, 10, .inl q5)), (t6, .inl (cA 0, 10, .inl q6)), (a0, .inr (4, [.ref p0, .ref a1, .ref a3, .ref a4, .ref a5, .ref a6, .int 0, .int 0, .int 0, .long 0, .long 0, .long 0, .int 0, .int 0, .int 0, .int 0, .int 365, .int 0, .int 0, .int 0])), (a1, .inr (6, [.ref a2, .int 0, .int 0])), (a2, .inl (cA 0, 240, .inl e2)), (a3, .inl (cA 0, 10, .inl e3)), (a4, .inl (cA 0, 10, .inl e4)), (a5, .inl (cA 0, 10, .inl e5)), (a6, .inl (cA 0, 10, .inl e6)), (p0, .inr (7, [.int 0, .int 365, .int 0, .int 0, .ref p1, .int 0, .ref p2, .ref p3, .ref p4, .ref p5, .int 0, .ref p6, .int 0, .ref p7, .ref p8, .ref p9, .int 0])), (oo, .inl (cA 1, 1, .inr (.inl fo)))] sz) := by
  refine va_MetW (cc := cL_paymentsAfter) (maxL := 4) (ret := (some .int)) (hh := [(0, 9, 12, 13)]) (by decide) rfl ?_
  intro p e s m args below meth c s₁ B hml hv
  obtain ⟨rfl, hsz, hP, hK, hD0, hC, hZ⟩ := hv
  have hx := B.exec
  have hb := B.bytes
  have hr := B.returns
  have hts := atoms_spec (ws := wsL_paymentsAfter) B.pre
  have hown : s.vm.findClass RL = some m.cls := findClass_of_methodNamed B.named
  have hlocks := B.notSynchronized
  have htab := vx_table (x := yL_paymentsAfter) B (hts (.codeWith yL_paymentsAfter cL_paymentsAfter 4 (some .int) [(0, 9, 12, 13)]) List.mem_cons_self)
  subst hsz
  have hD := hD0.self (sz := s.heap.size)
  generalize hAe : va_A [(h0, .inr (10, [.ref b0, .int 0, .ref p0, .ref u0, .ref r0, .ref a0, .ref t0, .ref s0, .ref o0])), (t0, .inr (4, [x0, .ref t1, .ref t3, .ref t4, .ref t5, .ref t6, x6, x7, x8, x9, x10, x11, x12, x13, x14, x15, x16, x17, x18, x19])), (t1, .inr (6, [.ref t2, .int n2, .int k2])), (t2, .inl (cA 0, 240, .inl q2)), (t3, .inl (cA 0, 10, .inl q3)), (t4, .inl (cA 0, 10, .inl q4)), (t5, .inl (cA 0, 10, .inl q5)), (t6, .inl (cA 0, 10, .inl q6)), (a0, .inr (4, [.ref p0, .ref a1, .ref a3, .ref a4, .ref a5, .ref a6, .int 0, .int 0, .int 0, .long 0, .long 0, .long 0, .int 0, .int 0, .int 0, .int 0, .int 365, .int 0, .int 0, .int 0])), (a1, .inr (6, [.ref a2, .int 0, .int 0])), (a2, .inl (cA 0, 240, .inl e2)), (a3, .inl (cA 0, 10, .inl e3)), (a4, .inl (cA 0, 10, .inl e4)), (a5, .inl (cA 0, 10, .inl e5)), (a6, .inl (cA 0, 10, .inl e6)), (p0, .inr (7, [.int 0, .int 365, .int 0, .int 0, .ref p1, .int 0, .ref p2, .ref p3, .ref p4, .ref p5, .int 0, .ref p6, .int 0, .ref p7, .ref p8, .ref p9, .int 0])), (oo, .inl (cA 1, 1, .inr (.inl fo)))] s.heap.size = A at hD hZ ⊢
  have hA : ∀ q : Nat, s.heap.size ≤ q → A q := fun q h => by rw [← hAe]; exact Or.inr h
  have hS : va_S A s.heap s.heap [] := va_S.rf
  have hP : va_P D vwCl [(h0, .inr (10, [.ref b0, .int 0, .ref p0, .ref u0, .ref r0, .ref a0, .ref t0, .ref s0, .ref o0])), (t0, .inr (4, [x0, .ref t1, .ref t3, .ref t4, .ref t5, .ref t6, x6, x7, x8, x9, x10, x11, x12, x13, x14, x15, x16, x17, x18, x19])), (t1, .inr (6, [.ref t2, .int n2, .int k2])), (t2, .inl (cA 0, 240, .inl q2)), (t3, .inl (cA 0, 10, .inl q3)), (t4, .inl (cA 0, 10, .inl q4)), (t5, .inl (cA 0, 10, .inl q5)), (t6, .inl (cA 0, 10, .inl q6)), (a0, .inr (4, [.ref p0, .ref a1, .ref a3, .ref a4, .ref a5, .ref a6, .int 0, .int 0, .int 0, .long 0, .long 0, .long 0, .int 0, .int 0, .int 0, .int 0, .int 365, .int 0, .int 0, .int 0])), (a1, .inr (6, [.ref a2, .int 0, .int 0])), (a2, .inl (cA 0, 240, .inl e2)), (a3, .inl (cA 0, 10, .inl e3)), (a4, .inl (cA 0, 10, .inl e4)), (a5, .inl (cA 0, 10, .inl e5)), (a6, .inl (cA 0, 10, .inl e6)), (p0, .inr (7, [.int 0, .int 365, .int 0, .int 0, .ref p1, .int 0, .ref p2, .ref p3, .ref p4, .ref p5, .int 0, .ref p6, .int 0, .ref p7, .ref p8, .ref p9, .int 0])), (oo, .inl (cA 1, 1, .inr (.inl fo)))] s.heap := hP
  have hl := lv_entry ([.ref h0, .int (nI N), .ref oo]) (n := 4) (Nat.le_of_ble_eq_true rfl)
  rw [lg_entry_eq]
  generalize (lg_sl ([.ref h0, .int (nI N), .ref oo]) ++ List.replicate (4 - (lg_sl ([.ref h0, .int (nI N), .ref oo])).length) Slot.unset).toArray = ls at hl ⊢
  have hl : lv_has ls 4 [(0, .ref h0), (1, .int (nI N)), (2, .ref oo)] := hl
  refine lv_aload_n hx hb dL_paymentsAfter_0 rfl (lv_at hl 2 rfl) ?_
  refine lv_iconst (v := 0) hx hb dL_paymentsAfter_1 (by decide) ?_
  refine lv_aload_n hx hb dL_paymentsAfter_2 rfl (lv_at hl 0 rfl) ?_
  refine lv_iload_n hx hb dL_paymentsAfter_3 rfl (lv_at hl 1 rfl) ?_
  have hPc := hP.sub (ws' := [(h0, .inr (10, [.ref b0, .int 0, .ref p0, .ref u0, .ref r0, .ref a0, .ref t0, .ref s0, .ref o0])), (t0, .inr (4, [x0, .ref t1, .ref t3, .ref t4, .ref t5, .ref t6, x6, x7, x8, x9, x10, x11, x12, x13, x14, x15, x16, x17, x18, x19])), (t1, .inr (6, [.ref t2, .int n2, .int k2])), (t2, .inl (cA 0, 240, .inl q2)), (t3, .inl (cA 0, 10, .inl q3)), (t4, .inl (cA 0, 10, .inl q4)), (t5, .inl (cA 0, 10, .inl q5)), (t6, .inl (cA 0, 10, .inl q6)), (a0, .inr (4, [.ref p0, .ref a1, .ref a3, .ref a4, .ref a5, .ref a6, .int 0, .int 0, .int 0, .long 0, .long 0, .long 0, .int 0, .int 0, .int 0, .int 0, .int 365, .int 0, .int 0, .int 0])), (a1, .inr (6, [.ref a2, .int 0, .int 0])), (a2, .inl (cA 0, 240, .inl e2)), (a3, .inl (cA 0, 10, .inl e3)), (a4, .inl (cA 0, 10, .inl e4)), (a5, .inl (cA 0, 10, .inl e5)), (a6, .inl (cA 0, 10, .inl e6)), (p0, .inr (7, [.int 0, .int 365, .int 0, .int 0, .ref p1, .int 0, .ref p2, .ref p3, .ref p4, .ref p5, .int 0, .ref p6, .int 0, .ref p7, .ref p8, .ref p9, .int 0]))]) [0, 1, 2, 3, 4, 5, 6, 7, 8, 9, 10, 11, 12, 13, 14, 15] rfl
  have hDc := hD.sub (ws' := [(h0, .inr (10, [.ref b0, .int 0, .ref p0, .ref u0, .ref r0, .ref a0, .ref t0, .ref s0, .ref o0])), (t0, .inr (4, [x0, .ref t1, .ref t3, .ref t4, .ref t5, .ref t6, x6, x7, x8, x9, x10, x11, x12, x13, x14, x15, x16, x17, x18, x19])), (t1, .inr (6, [.ref t2, .int n2, .int k2])), (t2, .inl (cA 0, 240, .inl q2)), (t3, .inl (cA 0, 10, .inl q3)), (t4, .inl (cA 0, 10, .inl q4)), (t5, .inl (cA 0, 10, .inl q5)), (t6, .inl (cA 0, 10, .inl q6)), (a0, .inr (4, [.ref p0, .ref a1, .ref a3, .ref a4, .ref a5, .ref a6, .int 0, .int 0, .int 0, .long 0, .long 0, .long 0, .int 0, .int 0, .int 0, .int 0, .int 365, .int 0, .int 0, .int 0])), (a1, .inr (6, [.ref a2, .int 0, .int 0])), (a2, .inl (cA 0, 240, .inl e2)), (a3, .inl (cA 0, 10, .inl e3)), (a4, .inl (cA 0, 10, .inl e4)), (a5, .inl (cA 0, 10, .inl e5)), (a6, .inl (cA 0, 10, .inl e6)), (p0, .inr (7, [.int 0, .int 365, .int 0, .int 0, .ref p1, .int 0, .ref p2, .ref p3, .ref p4, .ref p5, .int 0, .ref p6, .int 0, .ref p7, .ref p8, .ref p9, .int 0]))]) [0, 1, 2, 3, 4, 5, 6, 7, 8, 9, 10, 11, 12, 13, 14, 15] (by decide) rfl
  have hFc := va_free (wc := [(h0, .inr (10, [.ref b0, .int 0, .ref p0, .ref u0, .ref r0, .ref a0, .ref t0, .ref s0, .ref o0])), (t0, .inr (4, [x0, .ref t1, .ref t3, .ref t4, .ref t5, .ref t6, x6, x7, x8, x9, x10, x11, x12, x13, x14, x15, x16, x17, x18, x19])), (t1, .inr (6, [.ref t2, .int n2, .int k2])), (t2, .inl (cA 0, 240, .inl q2)), (t3, .inl (cA 0, 10, .inl q3)), (t4, .inl (cA 0, 10, .inl q4)), (t5, .inl (cA 0, 10, .inl q5)), (t6, .inl (cA 0, 10, .inl q6)), (a0, .inr (4, [.ref p0, .ref a1, .ref a3, .ref a4, .ref a5, .ref a6, .int 0, .int 0, .int 0, .long 0, .long 0, .long 0, .int 0, .int 0, .int 0, .int 0, .int 365, .int 0, .int 0, .int 0])), (a1, .inr (6, [.ref a2, .int 0, .int 0])), (a2, .inl (cA 0, 240, .inl e2)), (a3, .inl (cA 0, 10, .inl e3)), (a4, .inl (cA 0, 10, .inl e4)), (a5, .inl (cA 0, 10, .inl e5)), (a6, .inl (cA 0, 10, .inl e6)), (p0, .inr (7, [.int 0, .int 365, .int 0, .int 0, .ref p1, .int 0, .ref p2, .ref p3, .ref p4, .ref p5, .int 0, .ref p6, .int 0, .ref p7, .ref p8, .ref p9, .int 0]))]) hD hS hA [0, 1, 2, 3, 4, 5, 6, 7, 8, 9, 10, 11, 12, 13, 14, 15] rfl
  refine va_calli (va_runV (As := [.int (nI N)]) (rest := [.int 0, .ref oo]) ⟨hx, hb, hml, hown, hts⟩ (c_paymentsAfter_ret l D cA sa h0 b0 p0 u0 r0 a0 t0 s0 o0 t1 t2 t3 t4 t5 t6 a1 a2 a3 a4 a5 a6 p1 p2 p3 p4 p5 p6 p7 p8 p9 x0 x6 x7 x8 x9 x10 x11 x12 x13 x14 x15 x16 x17 x18 x19 n2 k2 q2 q3 q4 q5 q6 e2 e3 e4 e5 e6 N s.heap.size hN1 hN) (cwV 1 hts gL_paymentsAfter_X9_paymentsAfter rfl rfl rfl (by decide +kernel) ⟨(Nat.le_of_ble_eq_true rfl), (Nat.le_of_ble_eq_true rfl)⟩) ⟨Wd.blind, va_recv hK hPc (ci := 10) (q0 := 0) rfl rfl, fun U hU hW => ⟨rfl, Wd.call hPc hDc hK hC hZ hS hFc U hU hW⟩⟩ rfl rfl hl.1 rfl (lv_room (Nat.le_of_ble_eq_true rfl)) dL_paymentsAfter_4 ⟨(Nat.le_of_ble_eq_true rfl), (Nat.le_of_ble_eq_true rfl)⟩) hS (fun q _ h => hFc q h) hFc (fun rn1 u t H1 locs ht hvm hw hB hz1 hk1 hS => ?_)
  obtain ⟨hP1, hD1⟩ := hB
  rw [ht] at hP1
  obtain ⟨hP, hD⟩ := va_join (wr := [(oo, .inl (cA 1, 1, .inr (.inl fo)))]) (w1 := []) hP hD [0, 1, 2, 3, 4, 5, 6, 7, 8, 9, 10, 11, 12, 13, 14, 15] [16] rfl rfl (by decide) (by decide) hk1 hFc hP1 hD1
  generalize H1 = H at hP hS ⊢
  have hP : va_P D vwCl [(oo, .inl (cA 1, 1, .inr (.inl fo)))] H := hP
  have hD : va_D A [(oo, .inl (cA 1, 1, .inr (.inl fo)))] := hD
  obtain rfl : rn1 = 0 := hw
  refine lv_i2l (v := 0) hx hb dL_paymentsAfter_7 (by decide) ?_
  refine va_last hx hb hK hP hD hS 0 1 rfl rfl (vp_in_iff.mpr (by decide)) dL_paymentsAfter_8 (fun H locs hP hD hS => ?_)
  have hP : va_P D vwCl [(oo, .inl (cA 1, 1, .inr (.inl (vp_updL fo 0 0))))] H := hP
  have hD : va_D A [(oo, .inl (cA 1, 1, .inr (.inl (vp_updL fo 0 0))))] := hD
  refine lv_goto (tgt := 15) hx hb dL_paymentsAfter_9 (by decide) ?_
  refine lv_iconst (v := 0) hx hb dL_paymentsAfter_15 (by decide) ?_
  have hP9 := hP.sub (ws' := [(oo, .inl (cA 1, 1, .inr (.inl (vp_updL fo 0 0))))]) [0] rfl
  have hD9 := hD.sub (ws' := [(oo, .inl (cA 1, 1, .inr (.inl (vp_updL fo 0 0))))]) [0] (by decide) rfl
  refine W.widen (k := 0) (n := 0) (Nat.le_of_ble_eq_true rfl) (Nat.le_of_ble_eq_true rfl) ?_
  exact W.iret (v := 0) hx hb hr (fun t ht hW => ⟨⟨0, (), rfl, rfl, by rw [ht]; exact hP9, hD9⟩, hS.F ht⟩) hS.2.2 dL_paymentsAfter_16

set_option maxHeartbeats 4000000 in
set_option maxRecDepth 100000 in
/-- the wrapper of paymentsAfter -/
theorem c_L_paymentsAfter_thr (l : Launch) (D : va_G) (cA : Nat → ClassId) (sa : Nat → Nat) (h0 b0 p0 u0 r0 a0 t0 s0 o0 : Nat) (a : Int32) (oo : Nat) (fo : Nat → Int64) (sz : Nat) (hl9 : l.stackTraces = false) (h : a < 1 ∨ 120 < a) : Met l yL_paymentsAfter wsL_paymentsAfter ({ frames := 8, cells := 1, slots := 6, locals := 133 }) (va_Pc [.ref h0, .int a, .ref oo] (Wd D cA sa [(h0, .inr (10, [.ref b0, .int 0, .ref p0, .ref u0, .ref r0, .ref a0, .ref t0, .ref s0, .ref o0])), (oo, .inl (cA 1, 1, .inr (.inl fo)))] sz)) (va_Qi (fun (r : Int32) (_ : Unit) => r = 1) (fun (_ : Unit) t => Wq D (va_A [(h0, .inr (10, [.ref b0, .int 0, .ref p0, .ref u0, .ref r0, .ref a0, .ref t0, .ref s0, .ref o0])), (oo, .inl (cA 1, 1, .inr (.inl fo)))] sz) [] t) (va_A [(h0, .inr (10, [.ref b0, .int 0, .ref p0, .ref u0, .ref r0, .ref a0, .ref t0, .ref s0, .ref o0])), (oo, .inl (cA 1, 1, .inr (.inl fo)))] sz)) 1 6 (va_A [(h0, .inr (10, [.ref b0, .int 0, .ref p0, .ref u0, .ref r0, .ref a0, .ref t0, .ref s0, .ref o0])), (oo, .inl (cA 1, 1, .inr (.inl fo)))] sz) := by
  refine va_MetW (cc := cL_paymentsAfter) (maxL := 4) (ret := (some .int)) (hh := [(0, 9, 12, 13)]) (by decide) rfl ?_
  intro p e s m args below meth c s₁ B hml hv
  obtain ⟨rfl, hsz, hP, hK, hD0, hC, hZ⟩ := hv
  have hx := B.exec
  have hb := B.bytes
  have hr := B.returns
  have hts := atoms_spec (ws := wsL_paymentsAfter) B.pre
  have hown : s.vm.findClass RL = some m.cls := findClass_of_methodNamed B.named
  have hlocks := B.notSynchronized
  have htab := vx_table (x := yL_paymentsAfter) B (hts (.codeWith yL_paymentsAfter cL_paymentsAfter 4 (some .int) [(0, 9, 12, 13)]) List.mem_cons_self)
  subst hsz
  have hD := hD0.self (sz := s.heap.size)
  generalize hAe : va_A [(h0, .inr (10, [.ref b0, .int 0, .ref p0, .ref u0, .ref r0, .ref a0, .ref t0, .ref s0, .ref o0])), (oo, .inl (cA 1, 1, .inr (.inl fo)))] s.heap.size = A at hD hZ ⊢
  have hA : ∀ q : Nat, s.heap.size ≤ q → A q := fun q h => by rw [← hAe]; exact Or.inr h
  have hS : va_S A s.heap s.heap [] := va_S.rf
  have hP : va_P D vwCl [(h0, .inr (10, [.ref b0, .int 0, .ref p0, .ref u0, .ref r0, .ref a0, .ref t0, .ref s0, .ref o0])), (oo, .inl (cA 1, 1, .inr (.inl fo)))] s.heap := hP
  have hl := lv_entry ([.ref h0, .int a, .ref oo]) (n := 4) (Nat.le_of_ble_eq_true rfl)
  rw [lg_entry_eq]
  generalize (lg_sl ([.ref h0, .int a, .ref oo]) ++ List.replicate (4 - (lg_sl ([.ref h0, .int a, .ref oo])).length) Slot.unset).toArray = ls at hl ⊢
  have hl : lv_has ls 4 [(0, .ref h0), (1, .int a), (2, .ref oo)] := hl
  refine lv_aload_n hx hb dL_paymentsAfter_0 rfl (lv_at hl 2 rfl) ?_
  refine lv_iconst (v := 0) hx hb dL_paymentsAfter_1 (by decide) ?_
  refine lv_aload_n hx hb dL_paymentsAfter_2 rfl (lv_at hl 0 rfl) ?_
  refine lv_iload_n hx hb dL_paymentsAfter_3 rfl (lv_at hl 1 rfl) ?_
  have hPc := hP.sub (ws' := [(h0, .inr (10, [.ref b0, .int 0, .ref p0, .ref u0, .ref r0, .ref a0, .ref t0, .ref s0, .ref o0]))]) [0] rfl
  have hDc := hD.sub (ws' := [(h0, .inr (10, [.ref b0, .int 0, .ref p0, .ref u0, .ref r0, .ref a0, .ref t0, .ref s0, .ref o0]))]) [0] (by decide) rfl
  have hFc := va_free (wc := [(h0, .inr (10, [.ref b0, .int 0, .ref p0, .ref u0, .ref r0, .ref a0, .ref t0, .ref s0, .ref o0]))]) hD hS hA [0] rfl
  refine vx_calli (vx_runV (As := [.int a]) (rest := [.int 0, .ref oo]) ⟨hx, hb, hml, hown, hts⟩ (c_paymentsAfter_thr l D cA sa h0 b0 p0 u0 r0 a0 t0 s0 o0 a s.heap.size hl9 h) (cwV 1 hts gL_paymentsAfter_X9_paymentsAfter rfl rfl rfl (by decide +kernel) ⟨(Nat.le_of_ble_eq_true rfl), (Nat.le_of_ble_eq_true rfl)⟩) ⟨Wd.blind, va_recv hK hPc (ci := 10) (q0 := 0) rfl rfl, fun U hU hW => ⟨rfl, Wd.call hPc hDc hK hC hZ hS hFc U hU hW⟩⟩ rfl rfl hl.1 rfl (lv_room (Nat.le_of_ble_eq_true rfl)) dL_paymentsAfter_4 ⟨(Nat.le_of_ble_eq_true rfl), (Nat.le_of_ble_eq_true rfl)⟩) hS (fun q _ h => hFc q h) hFc (fun q _ h => hFc q h) (fun E ce q9 u t H1 locs ht hvm hpx hE hz1 hk1 hS hcell hv9 hcl => ?_) (fun r9 u t H1 locs ht hvm hw hB hz1 hk1 hS => hw.elim)
  have hE : E = "java/lang/IllegalArgumentException" := hE
  subst hE
  refine vx_catch hown [] ⟨0, 9, 12, 13⟩ (tableOf []) (htab.trans rfl) (fun z h => absurd h List.not_mem_nil) (by decide) (by decide) (name := "java/lang/IllegalArgumentException") (hts (.classLink RL 13 "java/lang/IllegalArgumentException") (by decide +kernel)) (hC.c (by decide +kernel)) hcell hv9 hcl ?_
  generalize H1 = H at hS ⊢
  have hP : va_P D vwCl [] H := fun k q h => by simp at h
  have hD : va_D A [] := ⟨fun i j p q h => by simp at h, fun k q h => by simp at h⟩
  refine lv_astore_n (lv' := [(3, .ref q9), (0, .ref h0), (1, .int a), (2, .ref oo)]) hx hb dL_paymentsAfter_12 rfl hl (by decide) rfl (fun ls hl => ?_)
  refine lv_iconst (v := 1) hx hb dL_paymentsAfter_13 (by decide) ?_
  have hP9 := hP.sub (ws' := []) [] rfl
  have hD9 := hD.sub (ws' := []) [] (by decide) rfl
  refine W.widen (k := 1) (n := 6) (Nat.le_of_ble_eq_true rfl) (Nat.le_of_ble_eq_true rfl) ?_
  exact W.iret (v := 1) hx hb hr (fun t ht hW => ⟨⟨1, (), rfl, rfl, by rw [ht]; exact hP9, hD9⟩, hS.F ht⟩) hS.2.2 dL_paymentsAfter_14

set_option maxHeartbeats 4000000 in
set_option maxRecDepth 100000 in
/-- the wrapper of creditedAfter -/
theorem c_L_creditedAfter_ret (l : Launch) (D : va_G) (cA : Nat → ClassId) (sa : Nat → Nat) (h0 b0 p0 u0 r0 a0 t0 s0 o0 t1 t2 t3 t4 t5 t6 a1 a2 a3 a4 a5 a6 p1 p2 p3 p4 p5 p6 p7 p8 p9 : Nat) (x0 x6 x7 x8 x9 x10 x11 x12 x13 x14 x15 x16 x17 x18 x19 : Value) (n2 k2 : Int32) (q2 q3 q4 q5 q6 e2 e3 e4 e5 e6 : Nat → Int32) (N : Nat) (oo : Nat) (fo : Nat → Int64) (sz : Nat) (hN1 : 1 ≤ N) (hN : N ≤ 120) : Met l yL_creditedAfter wsL_creditedAfter ({ frames := 6, cells := 0, slots := 0, locals := 144 }) (va_Pc [.ref h0, .int (nI N), .ref oo] (Wd D cA sa [(h0, .inr (10, [.ref b0, .int 0, .ref p0, .ref u0, .ref r0, .ref a0, .ref t0, .ref s0, .ref o0])), (t0, .inr (4, [x0, .ref t1, .ref t3, .ref t4, .ref t5, .ref t6, x6, x7, x8, x9, x10, x11, x12, x13, x14, x15, x16, x17, x18, x19])), (t1, .inr (6, [.ref t2, .int n2, .int k2])), (t2, .inl (cA 0, 240, .inl q2)), (t3, .inl (cA 0, 10, .inl q3)), (t4, .inl (cA 0, 10, .inl q4)), (t5, .inl (cA 0, 10, .inl q5)), (t6, .inl (cA 0, 10, .inl q6)), (a0, .inr (4, [.ref p0, .ref a1, .ref a3, .ref a4, .ref a5, .ref a6, .int 0, .int 0, .int 0, .long 0, .long 0, .long 0, .int 0, .int 0, .int 0, .int 0, .int 365, .int 0, .int 0, .int 0])), (a1, .inr (6, [.ref a2, .int 0, .int 0])), (a2, .inl (cA 0, 240, .inl e2)), (a3, .inl (cA 0, 10, .inl e3)), (a4, .inl (cA 0, 10, .inl e4)), (a5, .inl (cA 0, 10, .inl e5)), (a6, .inl (cA 0, 10, .inl e6)), (p0, .inr (7, [.int 0, .int 365, .int 0, .int 0, .ref p1, .int 0, .ref p2, .ref p3, .ref p4, .ref p5, .int 0, .ref p6, .int 0, .ref p7, .ref p8, .ref p9, .int 0])), (oo, .inl (cA 1, 1, .inr (.inl fo)))] sz)) (va_Qi (fun (r : Int32) (_ : Unit) => r = 0) (fun (_ : Unit) t => Wq D (va_A [(h0, .inr (10, [.ref b0, .int 0, .ref p0, .ref u0, .ref r0, .ref a0, .ref t0, .ref s0, .ref o0])), (t0, .inr (4, [x0, .ref t1, .ref t3, .ref t4, .ref t5, .ref t6, x6, x7, x8, x9, x10, x11, x12, x13, x14, x15, x16, x17, x18, x19])), (t1, .inr (6, [.ref t2, .int n2, .int k2])), (t2, .inl (cA 0, 240, .inl q2)), (t3, .inl (cA 0, 10, .inl q3)), (t4, .inl (cA 0, 10, .inl q4)), (t5, .inl (cA 0, 10, .inl q5)), (t6, .inl (cA 0, 10, .inl q6)), (a0, .inr (4, [.ref p0, .ref a1, .ref a3, .ref a4, .ref a5, .ref a6, .int 0, .int 0, .int 0, .long 0, .long 0, .long 0, .int 0, .int 0, .int 0, .int 0, .int 365, .int 0, .int 0, .int 0])), (a1, .inr (6, [.ref a2, .int 0, .int 0])), (a2, .inl (cA 0, 240, .inl e2)), (a3, .inl (cA 0, 10, .inl e3)), (a4, .inl (cA 0, 10, .inl e4)), (a5, .inl (cA 0, 10, .inl e5)), (a6, .inl (cA 0, 10, .inl e6)), (p0, .inr (7, [.int 0, .int 365, .int 0, .int 0, .ref p1, .int 0, .ref p2, .ref p3, .ref p4, .ref p5, .int 0, .ref p6, .int 0, .ref p7, .ref p8, .ref p9, .int 0])), (oo, .inl (cA 1, 1, .inr (.inl fo)))] sz) [(oo, .inl (cA 1, 1, .inr (.inl (vp_updL fo 0 0))))] t) (va_A [(h0, .inr (10, [.ref b0, .int 0, .ref p0, .ref u0, .ref r0, .ref a0, .ref t0, .ref s0, .ref o0])), (t0, .inr (4, [x0, .ref t1, .ref t3, .ref t4, .ref t5, .ref t6, x6, x7, x8, x9, x10, x11, x12, x13, x14, x15, x16, x17, x18, x19])), (t1, .inr (6, [.ref t2, .int n2, .int k2])), (t2, .inl (cA 0, 240, .inl q2)), (t3, .inl (cA 0, 10, .inl q3)), (t4, .inl (cA 0, 10, .inl q4)), (t5, .inl (cA 0, 10, .inl q5)), (t6, .inl (cA 0, 10, .inl q6)), (a0, .inr (4, [.ref p0, .ref a1, .ref a3, .ref a4, .ref a5, .ref a6, .int 0, .int 0, .int 0, .long 0, .long 0, .long 0, .int 0, .int 0, .int 0, .int 0, .int 365, .int 0, .int 0, .int 0])), (a1, .inr (6, [.ref a2, .int 0, .int 0])), (a2, .inl (cA 0, 240, .inl e2)), (a3, .inl (cA 0, 10, .inl e3)), (a4, .inl (cA 0, 10, .inl e4)), (a5, .inl (cA 0, 10, .inl e5)), (a6, .inl (cA 0, 10, .inl e6)), (p0, .inr (7, [.int 0, .int 365, .int 0, .int 0, .ref p1, .int 0, .ref p2, .ref p3, .ref p4, .ref p5, .int 0, .ref p6, .int 0, .ref p7, .ref p8, .ref p9, .int 0])), (oo, .inl (cA 1, 1, .inr (.inl fo)))] sz)) 0 0 (va_A [(h0, .inr (10, [.ref b0, .int 0, .ref p0, .ref u0, .ref r0, .ref a0, .ref t0, .ref s0, .ref o0])), (t0, .inr (4, [x0, .ref t1, .ref t3, .ref t4, .ref t5, .ref t6, x6, x7, x8, x9, x10, x11, x12, x13, x14, x15, x16, x17, x18, x19])), (t1, .inr (6, [.ref t2, .int n2, .int k2])), (t2, .inl (cA 0, 240, .inl q2)), (t3, .inl (cA 0, 10, .inl q3)), (t4, .inl (cA 0, 10, .inl q4)), (t5, .inl (cA 0, 10, .inl q5)), (t6, .inl (cA 0, 10, .inl q6)), (a0, .inr (4, [.ref p0, .ref a1, .ref a3, .ref a4, .ref a5, .ref a6, .int 0, .int 0, .int 0, .long 0, .long 0, .long 0, .int 0, .int 0, .int 0, .int 0, .int 365, .int 0, .int 0, .int 0])), (a1, .inr (6, [.ref a2, .int 0, .int 0])), (a2, .inl (cA 0, 240, .inl e2)), (a3, .inl (cA 0, 10, .inl e3)), (a4, .inl (cA 0, 10, .inl e4)), (a5, .inl (cA 0, 10, .inl e5)), (a6, .inl (cA 0, 10, .inl e6)), (p0, .inr (7, [.int 0, .int 365, .int 0, .int 0, .ref p1, .int 0, .ref p2, .ref p3, .ref p4, .ref p5, .int 0, .ref p6, .int 0, .ref p7, .ref p8, .ref p9, .int 0])), (oo, .inl (cA 1, 1, .inr (.inl fo)))] sz) := by
  refine va_MetW (cc := cL_creditedAfter) (maxL := 4) (ret := (some .int)) (hh := [(0, 9, 12, 13)]) (by decide) rfl ?_
  intro p e s m args below meth c s₁ B hml hv
  obtain ⟨rfl, hsz, hP, hK, hD0, hC, hZ⟩ := hv
  have hx := B.exec
  have hb := B.bytes
  have hr := B.returns
  have hts := atoms_spec (ws := wsL_creditedAfter) B.pre
  have hown : s.vm.findClass RL = some m.cls := findClass_of_methodNamed B.named
  have hlocks := B.notSynchronized
  have htab := vx_table (x := yL_creditedAfter) B (hts (.codeWith yL_creditedAfter cL_creditedAfter 4 (some .int) [(0, 9, 12, 13)]) List.mem_cons_self)
  subst hsz
  have hD := hD0.self (sz := s.heap.size)
  generalize hAe : va_A [(h0, .inr (10, [.ref b0, .int 0, .ref p0, .ref u0, .ref r0, .ref a0, .ref t0, .ref s0, .ref o0])), (t0, .inr (4, [x0, .ref t1, .ref t3, .ref t4, .ref t5, .ref t6, x6, x7, x8, x9, x10, x11, x12, x13, x14, x15, x16, x17, x18, x19])), (t1, .inr (6, [.ref t2, .int n2, .int k2])), (t2, .inl (cA 0, 240, .inl q2)), (t3, .inl (cA 0, 10, .inl q3)), (t4, .inl (cA 0, 10, .inl q4)), (t5, .inl (cA 0, 10, .inl q5)), (t6, .inl (cA 0, 10, .inl q6)), (a0, .inr (4, [.ref p0, .ref a1, .ref a3, .ref a4, .ref a5, .ref a6, .int 0, .int 0, .int 0, .long 0, .long 0, .long 0, .int 0, .int 0, .int 0, .int 0, .int 365, .int 0, .int 0, .int 0])), (a1, .inr (6, [.ref a2, .int 0, .int 0])), (a2, .inl (cA 0, 240, .inl e2)), (a3, .inl (cA 0, 10, .inl e3)), (a4, .inl (cA 0, 10, .inl e4)), (a5, .inl (cA 0, 10, .inl e5)), (a6, .inl (cA 0, 10, .inl e6)), (p0, .inr (7, [.int 0, .int 365, .int 0, .int 0, .ref p1, .int 0, .ref p2, .ref p3, .ref p4, .ref p5, .int 0, .ref p6, .int 0, .ref p7, .ref p8, .ref p9, .int 0])), (oo, .inl (cA 1, 1, .inr (.inl fo)))] s.heap.size = A at hD hZ ⊢
  have hA : ∀ q : Nat, s.heap.size ≤ q → A q := fun q h => by rw [← hAe]; exact Or.inr h
  have hS : va_S A s.heap s.heap [] := va_S.rf
  have hP : va_P D vwCl [(h0, .inr (10, [.ref b0, .int 0, .ref p0, .ref u0, .ref r0, .ref a0, .ref t0, .ref s0, .ref o0])), (t0, .inr (4, [x0, .ref t1, .ref t3, .ref t4, .ref t5, .ref t6, x6, x7, x8, x9, x10, x11, x12, x13, x14, x15, x16, x17, x18, x19])), (t1, .inr (6, [.ref t2, .int n2, .int k2])), (t2, .inl (cA 0, 240, .inl q2)), (t3, .inl (cA 0, 10, .inl q3)), (t4, .inl (cA 0, 10, .inl q4)), (t5, .inl (cA 0, 10, .inl q5)), (t6, .inl (cA 0, 10, .inl q6)), (a0, .inr (4, [.ref p0, .ref a1, .ref a3, .ref a4, .ref a5, .ref a6, .int 0, .int 0, .int 0, .long 0, .long 0, .long 0, .int 0, .int 0, .int 0, .int 0, .int 365, .int 0, .int 0, .int 0])), (a1, .inr (6, [.ref a2, .int 0, .int 0])), (a2, .inl (cA 0, 240, .inl e2)), (a3, .inl (cA 0, 10, .inl e3)), (a4, .inl (cA 0, 10, .inl e4)), (a5, .inl (cA 0, 10, .inl e5)), (a6, .inl (cA 0, 10, .inl e6)), (p0, .inr (7, [.int 0, .int 365, .int 0, .int 0, .ref p1, .int 0, .ref p2, .ref p3, .ref p4, .ref p5, .int 0, .ref p6, .int 0, .ref p7, .ref p8, .ref p9, .int 0])), (oo, .inl (cA 1, 1, .inr (.inl fo)))] s.heap := hP
  have hl := lv_entry ([.ref h0, .int (nI N), .ref oo]) (n := 4) (Nat.le_of_ble_eq_true rfl)
  rw [lg_entry_eq]
  generalize (lg_sl ([.ref h0, .int (nI N), .ref oo]) ++ List.replicate (4 - (lg_sl ([.ref h0, .int (nI N), .ref oo])).length) Slot.unset).toArray = ls at hl ⊢
  have hl : lv_has ls 4 [(0, .ref h0), (1, .int (nI N)), (2, .ref oo)] := hl
  refine lv_aload_n hx hb dL_creditedAfter_0 rfl (lv_at hl 2 rfl) ?_
  refine lv_iconst (v := 0) hx hb dL_creditedAfter_1 (by decide) ?_
  refine lv_aload_n hx hb dL_creditedAfter_2 rfl (lv_at hl 0 rfl) ?_
  refine lv_iload_n hx hb dL_creditedAfter_3 rfl (lv_at hl 1 rfl) ?_
  have hPc := hP.sub (ws' := [(h0, .inr (10, [.ref b0, .int 0, .ref p0, .ref u0, .ref r0, .ref a0, .ref t0, .ref s0, .ref o0])), (t0, .inr (4, [x0, .ref t1, .ref t3, .ref t4, .ref t5, .ref t6, x6, x7, x8, x9, x10, x11, x12, x13, x14, x15, x16, x17, x18, x19])), (t1, .inr (6, [.ref t2, .int n2, .int k2])), (t2, .inl (cA 0, 240, .inl q2)), (t3, .inl (cA 0, 10, .inl q3)), (t4, .inl (cA 0, 10, .inl q4)), (t5, .inl (cA 0, 10, .inl q5)), (t6, .inl (cA 0, 10, .inl q6)), (a0, .inr (4, [.ref p0, .ref a1, .ref a3, .ref a4, .ref a5, .ref a6, .int 0, .int 0, .int 0, .long 0, .long 0, .long 0, .int 0, .int 0, .int 0, .int 0, .int 365, .int 0, .int 0, .int 0])), (a1, .inr (6, [.ref a2, .int 0, .int 0])), (a2, .inl (cA 0, 240, .inl e2)), (a3, .inl (cA 0, 10, .inl e3)), (a4, .inl (cA 0, 10, .inl e4)), (a5, .inl (cA 0, 10, .inl e5)), (a6, .inl (cA 0, 10, .inl e6)), (p0, .inr (7, [.int 0, .int 365, .int 0, .int 0, .ref p1, .int 0, .ref p2, .ref p3, .ref p4, .ref p5, .int 0, .ref p6, .int 0, .ref p7, .ref p8, .ref p9, .int 0]))]) [0, 1, 2, 3, 4, 5, 6, 7, 8, 9, 10, 11, 12, 13, 14, 15] rfl
  have hDc := hD.sub (ws' := [(h0, .inr (10, [.ref b0, .int 0, .ref p0, .ref u0, .ref r0, .ref a0, .ref t0, .ref s0, .ref o0])), (t0, .inr (4, [x0, .ref t1, .ref t3, .ref t4, .ref t5, .ref t6, x6, x7, x8, x9, x10, x11, x12, x13, x14, x15, x16, x17, x18, x19])), (t1, .inr (6, [.ref t2, .int n2, .int k2])), (t2, .inl (cA 0, 240, .inl q2)), (t3, .inl (cA 0, 10, .inl q3)), (t4, .inl (cA 0, 10, .inl q4)), (t5, .inl (cA 0, 10, .inl q5)), (t6, .inl (cA 0, 10, .inl q6)), (a0, .inr (4, [.ref p0, .ref a1, .ref a3, .ref a4, .ref a5, .ref a6, .int 0, .int 0, .int 0, .long 0, .long 0, .long 0, .int 0, .int 0, .int 0, .int 0, .int 365, .int 0, .int 0, .int 0])), (a1, .inr (6, [.ref a2, .int 0, .int 0])), (a2, .inl (cA 0, 240, .inl e2)), (a3, .inl (cA 0, 10, .inl e3)), (a4, .inl (cA 0, 10, .inl e4)), (a5, .inl (cA 0, 10, .inl e5)), (a6, .inl (cA 0, 10, .inl e6)), (p0, .inr (7, [.int 0, .int 365, .int 0, .int 0, .ref p1, .int 0, .ref p2, .ref p3, .ref p4, .ref p5, .int 0, .ref p6, .int 0, .ref p7, .ref p8, .ref p9, .int 0]))]) [0, 1, 2, 3, 4, 5, 6, 7, 8, 9, 10, 11, 12, 13, 14, 15] (by decide) rfl
  have hFc := va_free (wc := [(h0, .inr (10, [.ref b0, .int 0, .ref p0, .ref u0, .ref r0, .ref a0, .ref t0, .ref s0, .ref o0])), (t0, .inr (4, [x0, .ref t1, .ref t3, .ref t4, .ref t5, .ref t6, x6, x7, x8, x9, x10, x11, x12, x13, x14, x15, x16, x17, x18, x19])), (t1, .inr (6, [.ref t2, .int n2, .int k2])), (t2, .inl (cA 0, 240, .inl q2)), (t3, .inl (cA 0, 10, .inl q3)), (t4, .inl (cA 0, 10, .inl q4)), (t5, .inl (cA 0, 10, .inl q5)), (t6, .inl (cA 0, 10, .inl q6)), (a0, .inr (4, [.ref p0, .ref a1, .ref a3, .ref a4, .ref a5, .ref a6, .int 0, .int 0, .int 0, .long 0, .long 0, .long 0, .int 0, .int 0, .int 0, .int 0, .int 365, .int 0, .int 0, .int 0])), (a1, .inr (6, [.ref a2, .int 0, .int 0])), (a2, .inl (cA 0, 240, .inl e2)), (a3, .inl (cA 0, 10, .inl e3)), (a4, .inl (cA 0, 10, .inl e4)), (a5, .inl (cA 0, 10, .inl e5)), (a6, .inl (cA 0, 10, .inl e6)), (p0, .inr (7, [.int 0, .int 365, .int 0, .int 0, .ref p1, .int 0, .ref p2, .ref p3, .ref p4, .ref p5, .int 0, .ref p6, .int 0, .ref p7, .ref p8, .ref p9, .int 0]))]) hD hS hA [0, 1, 2, 3, 4, 5, 6, 7, 8, 9, 10, 11, 12, 13, 14, 15] rfl
  refine va_calli (va_runV (As := [.int (nI N)]) (rest := [.int 0, .ref oo]) ⟨hx, hb, hml, hown, hts⟩ (c_creditedAfter_ret l D cA sa h0 b0 p0 u0 r0 a0 t0 s0 o0 t1 t2 t3 t4 t5 t6 a1 a2 a3 a4 a5 a6 p1 p2 p3 p4 p5 p6 p7 p8 p9 x0 x6 x7 x8 x9 x10 x11 x12 x13 x14 x15 x16 x17 x18 x19 n2 k2 q2 q3 q4 q5 q6 e2 e3 e4 e5 e6 N s.heap.size hN1 hN) (cwV 1 hts gL_creditedAfter_X9_creditedAfter rfl rfl rfl (by decide +kernel) ⟨(Nat.le_of_ble_eq_true rfl), (Nat.le_of_ble_eq_true rfl)⟩) ⟨Wd.blind, va_recv hK hPc (ci := 10) (q0 := 0) rfl rfl, fun U hU hW => ⟨rfl, Wd.call hPc hDc hK hC hZ hS hFc U hU hW⟩⟩ rfl rfl hl.1 rfl (lv_room (Nat.le_of_ble_eq_true rfl)) dL_creditedAfter_4 ⟨(Nat.le_of_ble_eq_true rfl), (Nat.le_of_ble_eq_true rfl)⟩) hS (fun q _ h => hFc q h) hFc (fun rn1 u t H1 locs ht hvm hw hB hz1 hk1 hS => ?_)
  obtain ⟨hP1, hD1⟩ := hB
  rw [ht] at hP1
  obtain ⟨hP, hD⟩ := va_join (wr := [(oo, .inl (cA 1, 1, .inr (.inl fo)))]) (w1 := []) hP hD [0, 1, 2, 3, 4, 5, 6, 7, 8, 9, 10, 11, 12, 13, 14, 15] [16] rfl rfl (by decide) (by decide) hk1 hFc hP1 hD1
  generalize H1 = H at hP hS ⊢
  have hP : va_P D vwCl [(oo, .inl (cA 1, 1, .inr (.inl fo)))] H := hP
  have hD : va_D A [(oo, .inl (cA 1, 1, .inr (.inl fo)))] := hD
  obtain rfl : rn1 = 0 := hw
  refine lv_i2l (v := 0) hx hb dL_creditedAfter_7 (by decide) ?_
  refine va_last hx hb hK hP hD hS 0 1 rfl rfl (vp_in_iff.mpr (by decide)) dL_creditedAfter_8 (fun H locs hP hD hS => ?_)
  have hP : va_P D vwCl [(oo, .inl (cA 1, 1, .inr (.inl (vp_updL fo 0 0))))] H := hP
  have hD : va_D A [(oo, .inl (cA 1, 1, .inr (.inl (vp_updL fo 0 0))))] := hD
  refine lv_goto (tgt := 15) hx hb dL_creditedAfter_9 (by decide) ?_
  refine lv_iconst (v := 0) hx hb dL_creditedAfter_15 (by decide) ?_
  have hP9 := hP.sub (ws' := [(oo, .inl (cA 1, 1, .inr (.inl (vp_updL fo 0 0))))]) [0] rfl
  have hD9 := hD.sub (ws' := [(oo, .inl (cA 1, 1, .inr (.inl (vp_updL fo 0 0))))]) [0] (by decide) rfl
  refine W.widen (k := 0) (n := 0) (Nat.le_of_ble_eq_true rfl) (Nat.le_of_ble_eq_true rfl) ?_
  exact W.iret (v := 0) hx hb hr (fun t ht hW => ⟨⟨0, (), rfl, rfl, by rw [ht]; exact hP9, hD9⟩, hS.F ht⟩) hS.2.2 dL_creditedAfter_16

set_option maxHeartbeats 4000000 in
set_option maxRecDepth 100000 in
/-- the wrapper of creditedAfter -/
theorem c_L_creditedAfter_thr (l : Launch) (D : va_G) (cA : Nat → ClassId) (sa : Nat → Nat) (h0 b0 p0 u0 r0 a0 t0 s0 o0 : Nat) (a : Int32) (oo : Nat) (fo : Nat → Int64) (sz : Nat) (hl9 : l.stackTraces = false) (h : a < 1 ∨ 120 < a) : Met l yL_creditedAfter wsL_creditedAfter ({ frames := 8, cells := 1, slots := 6, locals := 133 }) (va_Pc [.ref h0, .int a, .ref oo] (Wd D cA sa [(h0, .inr (10, [.ref b0, .int 0, .ref p0, .ref u0, .ref r0, .ref a0, .ref t0, .ref s0, .ref o0])), (oo, .inl (cA 1, 1, .inr (.inl fo)))] sz)) (va_Qi (fun (r : Int32) (_ : Unit) => r = 1) (fun (_ : Unit) t => Wq D (va_A [(h0, .inr (10, [.ref b0, .int 0, .ref p0, .ref u0, .ref r0, .ref a0, .ref t0, .ref s0, .ref o0])), (oo, .inl (cA 1, 1, .inr (.inl fo)))] sz) [] t) (va_A [(h0, .inr (10, [.ref b0, .int 0, .ref p0, .ref u0, .ref r0, .ref a0, .ref t0, .ref s0, .ref o0])), (oo, .inl (cA 1, 1, .inr (.inl fo)))] sz)) 1 6 (va_A [(h0, .inr (10, [.ref b0, .int 0, .ref p0, .ref u0, .ref r0, .ref a0, .ref t0, .ref s0, .ref o0])), (oo, .inl (cA 1, 1, .inr (.inl fo)))] sz) := by
  refine va_MetW (cc := cL_creditedAfter) (maxL := 4) (ret := (some .int)) (hh := [(0, 9, 12, 13)]) (by decide) rfl ?_
  intro p e s m args below meth c s₁ B hml hv
  obtain ⟨rfl, hsz, hP, hK, hD0, hC, hZ⟩ := hv
  have hx := B.exec
  have hb := B.bytes
  have hr := B.returns
  have hts := atoms_spec (ws := wsL_creditedAfter) B.pre
  have hown : s.vm.findClass RL = some m.cls := findClass_of_methodNamed B.named
  have hlocks := B.notSynchronized
  have htab := vx_table (x := yL_creditedAfter) B (hts (.codeWith yL_creditedAfter cL_creditedAfter 4 (some .int) [(0, 9, 12, 13)]) List.mem_cons_self)
  subst hsz
  have hD := hD0.self (sz := s.heap.size)
  generalize hAe : va_A [(h0, .inr (10, [.ref b0, .int 0, .ref p0, .ref u0, .ref r0, .ref a0, .ref t0, .ref s0, .ref o0])), (oo, .inl (cA 1, 1, .inr (.inl fo)))] s.heap.size = A at hD hZ ⊢
  have hA : ∀ q : Nat, s.heap.size ≤ q → A q := fun q h => by rw [← hAe]; exact Or.inr h
  have hS : va_S A s.heap s.heap [] := va_S.rf
  have hP : va_P D vwCl [(h0, .inr (10, [.ref b0, .int 0, .ref p0, .ref u0, .ref r0, .ref a0, .ref t0, .ref s0, .ref o0])), (oo, .inl (cA 1, 1, .inr (.inl fo)))] s.heap := hP
  have hl := lv_entry ([.ref h0, .int a, .ref oo]) (n := 4) (Nat.le_of_ble_eq_true rfl)
  rw [lg_entry_eq]
  generalize (lg_sl ([.ref h0, .int a, .ref oo]) ++ List.replicate (4 - (lg_sl ([.ref h0, .int a, .ref oo])).length) Slot.unset).toArray = ls at hl ⊢
  have hl : lv_has ls 4 [(0, .ref h0), (1, .int a), (2, .ref oo)] := hl
  refine lv_aload_n hx hb dL_creditedAfter_0 rfl (lv_at hl 2 rfl) ?_
  refine lv_iconst (v := 0) hx hb dL_creditedAfter_1 (by decide) ?_
  refine lv_aload_n hx hb dL_creditedAfter_2 rfl (lv_at hl 0 rfl) ?_
  refine lv_iload_n hx hb dL_creditedAfter_3 rfl (lv_at hl 1 rfl) ?_
  have hPc := hP.sub (ws' := [(h0, .inr (10, [.ref b0, .int 0, .ref p0, .ref u0, .ref r0, .ref a0, .ref t0, .ref s0, .ref o0]))]) [0] rfl
  have hDc := hD.sub (ws' := [(h0, .inr (10, [.ref b0, .int 0, .ref p0, .ref u0, .ref r0, .ref a0, .ref t0, .ref s0, .ref o0]))]) [0] (by decide) rfl
  have hFc := va_free (wc := [(h0, .inr (10, [.ref b0, .int 0, .ref p0, .ref u0, .ref r0, .ref a0, .ref t0, .ref s0, .ref o0]))]) hD hS hA [0] rfl
  refine vx_calli (vx_runV (As := [.int a]) (rest := [.int 0, .ref oo]) ⟨hx, hb, hml, hown, hts⟩ (c_creditedAfter_thr l D cA sa h0 b0 p0 u0 r0 a0 t0 s0 o0 a s.heap.size hl9 h) (cwV 1 hts gL_creditedAfter_X9_creditedAfter rfl rfl rfl (by decide +kernel) ⟨(Nat.le_of_ble_eq_true rfl), (Nat.le_of_ble_eq_true rfl)⟩) ⟨Wd.blind, va_recv hK hPc (ci := 10) (q0 := 0) rfl rfl, fun U hU hW => ⟨rfl, Wd.call hPc hDc hK hC hZ hS hFc U hU hW⟩⟩ rfl rfl hl.1 rfl (lv_room (Nat.le_of_ble_eq_true rfl)) dL_creditedAfter_4 ⟨(Nat.le_of_ble_eq_true rfl), (Nat.le_of_ble_eq_true rfl)⟩) hS (fun q _ h => hFc q h) hFc (fun q _ h => hFc q h) (fun E ce q9 u t H1 locs ht hvm hpx hE hz1 hk1 hS hcell hv9 hcl => ?_) (fun r9 u t H1 locs ht hvm hw hB hz1 hk1 hS => hw.elim)
  have hE : E = "java/lang/IllegalArgumentException" := hE
  subst hE
  refine vx_catch hown [] ⟨0, 9, 12, 13⟩ (tableOf []) (htab.trans rfl) (fun z h => absurd h List.not_mem_nil) (by decide) (by decide) (name := "java/lang/IllegalArgumentException") (hts (.classLink RL 13 "java/lang/IllegalArgumentException") (by decide +kernel)) (hC.c (by decide +kernel)) hcell hv9 hcl ?_
  generalize H1 = H at hS ⊢
  have hP : va_P D vwCl [] H := fun k q h => by simp at h
  have hD : va_D A [] := ⟨fun i j p q h => by simp at h, fun k q h => by simp at h⟩
  refine lv_astore_n (lv' := [(3, .ref q9), (0, .ref h0), (1, .int a), (2, .ref oo)]) hx hb dL_creditedAfter_12 rfl hl (by decide) rfl (fun ls hl => ?_)
  refine lv_iconst (v := 1) hx hb dL_creditedAfter_13 (by decide) ?_
  have hP9 := hP.sub (ws' := []) [] rfl
  have hD9 := hD.sub (ws' := []) [] (by decide) rfl
  refine W.widen (k := 1) (n := 6) (Nat.le_of_ble_eq_true rfl) (Nat.le_of_ble_eq_true rfl) ?_
  exact W.iret (v := 1) hx hb hr (fun t ht hW => ⟨⟨1, (), rfl, rfl, by rw [ht]; exact hP9, hD9⟩, hS.F ht⟩) hS.2.2 dL_creditedAfter_14

set_option maxHeartbeats 4000000 in
set_option maxRecDepth 100000 in
/-- the wrapper of shortDay -/
theorem c_L_shortDay_ret (l : Launch) (D : va_G) (cA : Nat → ClassId) (sa : Nat → Nat) (h0 b0 p0 u0 r0 a0 t0 s0 o0 t1 t2 t3 t4 t5 t6 a1 a2 a3 a4 a5 a6 p1 p2 p3 p4 p5 p6 p7 p8 p9 : Nat) (x0 x6 x7 x8 x9 x10 x11 x12 x13 x14 x15 x16 x17 x18 x19 : Value) (n2 k2 : Int32) (q2 q3 q4 q5 q6 e2 e3 e4 e5 e6 : Nat → Int32) (N : Nat) (oo : Nat) (fo : Nat → Int64) (sz : Nat) (hN1 : 1 ≤ N) (hN : N ≤ 120) : Met l yL_shortDay wsL_shortDay ({ frames := 4, cells := 0, slots := 0, locals := 124 }) (va_Pc [.ref h0, .int (nI N), .ref oo] (Wd D cA sa [(h0, .inr (10, [.ref b0, .int 0, .ref p0, .ref u0, .ref r0, .ref a0, .ref t0, .ref s0, .ref o0])), (t0, .inr (4, [x0, .ref t1, .ref t3, .ref t4, .ref t5, .ref t6, x6, x7, x8, x9, x10, x11, x12, x13, x14, x15, x16, x17, x18, x19])), (t1, .inr (6, [.ref t2, .int n2, .int k2])), (t2, .inl (cA 0, 240, .inl q2)), (t3, .inl (cA 0, 10, .inl q3)), (t4, .inl (cA 0, 10, .inl q4)), (t5, .inl (cA 0, 10, .inl q5)), (t6, .inl (cA 0, 10, .inl q6)), (a0, .inr (4, [.ref p0, .ref a1, .ref a3, .ref a4, .ref a5, .ref a6, .int 0, .int 0, .int 0, .long 0, .long 0, .long 0, .int 0, .int 0, .int 0, .int 0, .int 365, .int 0, .int 0, .int 0])), (a1, .inr (6, [.ref a2, .int 0, .int 0])), (a2, .inl (cA 0, 240, .inl e2)), (a3, .inl (cA 0, 10, .inl e3)), (a4, .inl (cA 0, 10, .inl e4)), (a5, .inl (cA 0, 10, .inl e5)), (a6, .inl (cA 0, 10, .inl e6)), (p0, .inr (7, [.int 0, .int 365, .int 0, .int 0, .ref p1, .int 0, .ref p2, .ref p3, .ref p4, .ref p5, .int 0, .ref p6, .int 0, .ref p7, .ref p8, .ref p9, .int 0])), (oo, .inl (cA 1, 1, .inr (.inl fo)))] sz)) (va_Qi (fun (r : Int32) (_ : Unit) => r = 0) (fun (_ : Unit) t => Wq D (va_A [(h0, .inr (10, [.ref b0, .int 0, .ref p0, .ref u0, .ref r0, .ref a0, .ref t0, .ref s0, .ref o0])), (t0, .inr (4, [x0, .ref t1, .ref t3, .ref t4, .ref t5, .ref t6, x6, x7, x8, x9, x10, x11, x12, x13, x14, x15, x16, x17, x18, x19])), (t1, .inr (6, [.ref t2, .int n2, .int k2])), (t2, .inl (cA 0, 240, .inl q2)), (t3, .inl (cA 0, 10, .inl q3)), (t4, .inl (cA 0, 10, .inl q4)), (t5, .inl (cA 0, 10, .inl q5)), (t6, .inl (cA 0, 10, .inl q6)), (a0, .inr (4, [.ref p0, .ref a1, .ref a3, .ref a4, .ref a5, .ref a6, .int 0, .int 0, .int 0, .long 0, .long 0, .long 0, .int 0, .int 0, .int 0, .int 0, .int 365, .int 0, .int 0, .int 0])), (a1, .inr (6, [.ref a2, .int 0, .int 0])), (a2, .inl (cA 0, 240, .inl e2)), (a3, .inl (cA 0, 10, .inl e3)), (a4, .inl (cA 0, 10, .inl e4)), (a5, .inl (cA 0, 10, .inl e5)), (a6, .inl (cA 0, 10, .inl e6)), (p0, .inr (7, [.int 0, .int 365, .int 0, .int 0, .ref p1, .int 0, .ref p2, .ref p3, .ref p4, .ref p5, .int 0, .ref p6, .int 0, .ref p7, .ref p8, .ref p9, .int 0])), (oo, .inl (cA 1, 1, .inr (.inl fo)))] sz) [(oo, .inl (cA 1, 1, .inr (.inl (vp_updL fo 0 (-1)))))] t) (va_A [(h0, .inr (10, [.ref b0, .int 0, .ref p0, .ref u0, .ref r0, .ref a0, .ref t0, .ref s0, .ref o0])), (t0, .inr (4, [x0, .ref t1, .ref t3, .ref t4, .ref t5, .ref t6, x6, x7, x8, x9, x10, x11, x12, x13, x14, x15, x16, x17, x18, x19])), (t1, .inr (6, [.ref t2, .int n2, .int k2])), (t2, .inl (cA 0, 240, .inl q2)), (t3, .inl (cA 0, 10, .inl q3)), (t4, .inl (cA 0, 10, .inl q4)), (t5, .inl (cA 0, 10, .inl q5)), (t6, .inl (cA 0, 10, .inl q6)), (a0, .inr (4, [.ref p0, .ref a1, .ref a3, .ref a4, .ref a5, .ref a6, .int 0, .int 0, .int 0, .long 0, .long 0, .long 0, .int 0, .int 0, .int 0, .int 0, .int 365, .int 0, .int 0, .int 0])), (a1, .inr (6, [.ref a2, .int 0, .int 0])), (a2, .inl (cA 0, 240, .inl e2)), (a3, .inl (cA 0, 10, .inl e3)), (a4, .inl (cA 0, 10, .inl e4)), (a5, .inl (cA 0, 10, .inl e5)), (a6, .inl (cA 0, 10, .inl e6)), (p0, .inr (7, [.int 0, .int 365, .int 0, .int 0, .ref p1, .int 0, .ref p2, .ref p3, .ref p4, .ref p5, .int 0, .ref p6, .int 0, .ref p7, .ref p8, .ref p9, .int 0])), (oo, .inl (cA 1, 1, .inr (.inl fo)))] sz)) 0 0 (va_A [(h0, .inr (10, [.ref b0, .int 0, .ref p0, .ref u0, .ref r0, .ref a0, .ref t0, .ref s0, .ref o0])), (t0, .inr (4, [x0, .ref t1, .ref t3, .ref t4, .ref t5, .ref t6, x6, x7, x8, x9, x10, x11, x12, x13, x14, x15, x16, x17, x18, x19])), (t1, .inr (6, [.ref t2, .int n2, .int k2])), (t2, .inl (cA 0, 240, .inl q2)), (t3, .inl (cA 0, 10, .inl q3)), (t4, .inl (cA 0, 10, .inl q4)), (t5, .inl (cA 0, 10, .inl q5)), (t6, .inl (cA 0, 10, .inl q6)), (a0, .inr (4, [.ref p0, .ref a1, .ref a3, .ref a4, .ref a5, .ref a6, .int 0, .int 0, .int 0, .long 0, .long 0, .long 0, .int 0, .int 0, .int 0, .int 0, .int 365, .int 0, .int 0, .int 0])), (a1, .inr (6, [.ref a2, .int 0, .int 0])), (a2, .inl (cA 0, 240, .inl e2)), (a3, .inl (cA 0, 10, .inl e3)), (a4, .inl (cA 0, 10, .inl e4)), (a5, .inl (cA 0, 10, .inl e5)), (a6, .inl (cA 0, 10, .inl e6)), (p0, .inr (7, [.int 0, .int 365, .int 0, .int 0, .ref p1, .int 0, .ref p2, .ref p3, .ref p4, .ref p5, .int 0, .ref p6, .int 0, .ref p7, .ref p8, .ref p9, .int 0])), (oo, .inl (cA 1, 1, .inr (.inl fo)))] sz) := by
  refine va_MetW (cc := cL_shortDay) (maxL := 4) (ret := (some .int)) (hh := [(0, 9, 12, 13)]) (by decide) rfl ?_
  intro p e s m args below meth c s₁ B hml hv
  obtain ⟨rfl, hsz, hP, hK, hD0, hC, hZ⟩ := hv
  have hx := B.exec
  have hb := B.bytes
  have hr := B.returns
  have hts := atoms_spec (ws := wsL_shortDay) B.pre
  have hown : s.vm.findClass RL = some m.cls := findClass_of_methodNamed B.named
  have hlocks := B.notSynchronized
  have htab := vx_table (x := yL_shortDay) B (hts (.codeWith yL_shortDay cL_shortDay 4 (some .int) [(0, 9, 12, 13)]) List.mem_cons_self)
  subst hsz
  have hD := hD0.self (sz := s.heap.size)
  generalize hAe : va_A [(h0, .inr (10, [.ref b0, .int 0, .ref p0, .ref u0, .ref r0, .ref a0, .ref t0, .ref s0, .ref o0])), (t0, .inr (4, [x0, .ref t1, .ref t3, .ref t4, .ref t5, .ref t6, x6, x7, x8, x9, x10, x11, x12, x13, x14, x15, x16, x17, x18, x19])), (t1, .inr (6, [.ref t2, .int n2, .int k2])), (t2, .inl (cA 0, 240, .inl q2)), (t3, .inl (cA 0, 10, .inl q3)), (t4, .inl (cA 0, 10, .inl q4)), (t5, .inl (cA 0, 10, .inl q5)), (t6, .inl (cA 0, 10, .inl q6)), (a0, .inr (4, [.ref p0, .ref a1, .ref a3, .ref a4, .ref a5, .ref a6, .int 0, .int 0, .int 0, .long 0, .long 0, .long 0, .int 0, .int 0, .int 0, .int 0, .int 365, .int 0, .int 0, .int 0])), (a1, .inr (6, [.ref a2, .int 0, .int 0])), (a2, .inl (cA 0, 240, .inl e2)), (a3, .inl (cA 0, 10, .inl e3)), (a4, .inl (cA 0, 10, .inl e4)), (a5, .inl (cA 0, 10, .inl e5)), (a6, .inl (cA 0, 10, .inl e6)), (p0, .inr (7, [.int 0, .int 365, .int 0, .int 0, .ref p1, .int 0, .ref p2, .ref p3, .ref p4, .ref p5, .int 0, .ref p6, .int 0, .ref p7, .ref p8, .ref p9, .int 0])), (oo, .inl (cA 1, 1, .inr (.inl fo)))] s.heap.size = A at hD hZ ⊢
  have hA : ∀ q : Nat, s.heap.size ≤ q → A q := fun q h => by rw [← hAe]; exact Or.inr h
  have hS : va_S A s.heap s.heap [] := va_S.rf
  have hP : va_P D vwCl [(h0, .inr (10, [.ref b0, .int 0, .ref p0, .ref u0, .ref r0, .ref a0, .ref t0, .ref s0, .ref o0])), (t0, .inr (4, [x0, .ref t1, .ref t3, .ref t4, .ref t5, .ref t6, x6, x7, x8, x9, x10, x11, x12, x13, x14, x15, x16, x17, x18, x19])), (t1, .inr (6, [.ref t2, .int n2, .int k2])), (t2, .inl (cA 0, 240, .inl q2)), (t3, .inl (cA 0, 10, .inl q3)), (t4, .inl (cA 0, 10, .inl q4)), (t5, .inl (cA 0, 10, .inl q5)), (t6, .inl (cA 0, 10, .inl q6)), (a0, .inr (4, [.ref p0, .ref a1, .ref a3, .ref a4, .ref a5, .ref a6, .int 0, .int 0, .int 0, .long 0, .long 0, .long 0, .int 0, .int 0, .int 0, .int 0, .int 365, .int 0, .int 0, .int 0])), (a1, .inr (6, [.ref a2, .int 0, .int 0])), (a2, .inl (cA 0, 240, .inl e2)), (a3, .inl (cA 0, 10, .inl e3)), (a4, .inl (cA 0, 10, .inl e4)), (a5, .inl (cA 0, 10, .inl e5)), (a6, .inl (cA 0, 10, .inl e6)), (p0, .inr (7, [.int 0, .int 365, .int 0, .int 0, .ref p1, .int 0, .ref p2, .ref p3, .ref p4, .ref p5, .int 0, .ref p6, .int 0, .ref p7, .ref p8, .ref p9, .int 0])), (oo, .inl (cA 1, 1, .inr (.inl fo)))] s.heap := hP
  have hl := lv_entry ([.ref h0, .int (nI N), .ref oo]) (n := 4) (Nat.le_of_ble_eq_true rfl)
  rw [lg_entry_eq]
  generalize (lg_sl ([.ref h0, .int (nI N), .ref oo]) ++ List.replicate (4 - (lg_sl ([.ref h0, .int (nI N), .ref oo])).length) Slot.unset).toArray = ls at hl ⊢
  have hl : lv_has ls 4 [(0, .ref h0), (1, .int (nI N)), (2, .ref oo)] := hl
  refine lv_aload_n hx hb dL_shortDay_0 rfl (lv_at hl 2 rfl) ?_
  refine lv_iconst (v := 0) hx hb dL_shortDay_1 (by decide) ?_
  refine lv_aload_n hx hb dL_shortDay_2 rfl (lv_at hl 0 rfl) ?_
  refine lv_iload_n hx hb dL_shortDay_3 rfl (lv_at hl 1 rfl) ?_
  have hPc := hP.sub (ws' := [(h0, .inr (10, [.ref b0, .int 0, .ref p0, .ref u0, .ref r0, .ref a0, .ref t0, .ref s0, .ref o0])), (t0, .inr (4, [x0, .ref t1, .ref t3, .ref t4, .ref t5, .ref t6, x6, x7, x8, x9, x10, x11, x12, x13, x14, x15, x16, x17, x18, x19])), (t1, .inr (6, [.ref t2, .int n2, .int k2])), (t2, .inl (cA 0, 240, .inl q2)), (t3, .inl (cA 0, 10, .inl q3)), (t4, .inl (cA 0, 10, .inl q4)), (t5, .inl (cA 0, 10, .inl q5)), (t6, .inl (cA 0, 10, .inl q6)), (a0, .inr (4, [.ref p0, .ref a1, .ref a3, .ref a4, .ref a5, .ref a6, .int 0, .int 0, .int 0, .long 0, .long 0, .long 0, .int 0, .int 0, .int 0, .int 0, .int 365, .int 0, .int 0, .int 0])), (a1, .inr (6, [.ref a2, .int 0, .int 0])), (a2, .inl (cA 0, 240, .inl e2)), (a3, .inl (cA 0, 10, .inl e3)), (a4, .inl (cA 0, 10, .inl e4)), (a5, .inl (cA 0, 10, .inl e5)), (a6, .inl (cA 0, 10, .inl e6)), (p0, .inr (7, [.int 0, .int 365, .int 0, .int 0, .ref p1, .int 0, .ref p2, .ref p3, .ref p4, .ref p5, .int 0, .ref p6, .int 0, .ref p7, .ref p8, .ref p9, .int 0]))]) [0, 1, 2, 3, 4, 5, 6, 7, 8, 9, 10, 11, 12, 13, 14, 15] rfl
  have hDc := hD.sub (ws' := [(h0, .inr (10, [.ref b0, .int 0, .ref p0, .ref u0, .ref r0, .ref a0, .ref t0, .ref s0, .ref o0])), (t0, .inr (4, [x0, .ref t1, .ref t3, .ref t4, .ref t5, .ref t6, x6, x7, x8, x9, x10, x11, x12, x13, x14, x15, x16, x17, x18, x19])), (t1, .inr (6, [.ref t2, .int n2, .int k2])), (t2, .inl (cA 0, 240, .inl q2)), (t3, .inl (cA 0, 10, .inl q3)), (t4, .inl (cA 0, 10, .inl q4)), (t5, .inl (cA 0, 10, .inl q5)), (t6, .inl (cA 0, 10, .inl q6)), (a0, .inr (4, [.ref p0, .ref a1, .ref a3, .ref a4, .ref a5, .ref a6, .int 0, .int 0, .int 0, .long 0, .long 0, .long 0, .int 0, .int 0, .int 0, .int 0, .int 365, .int 0, .int 0, .int 0])), (a1, .inr (6, [.ref a2, .int 0, .int 0])), (a2, .inl (cA 0, 240, .inl e2)), (a3, .inl (cA 0, 10, .inl e3)), (a4, .inl (cA 0, 10, .inl e4)), (a5, .inl (cA 0, 10, .inl e5)), (a6, .inl (cA 0, 10, .inl e6)), (p0, .inr (7, [.int 0, .int 365, .int 0, .int 0, .ref p1, .int 0, .ref p2, .ref p3, .ref p4, .ref p5, .int 0, .ref p6, .int 0, .ref p7, .ref p8, .ref p9, .int 0]))]) [0, 1, 2, 3, 4, 5, 6, 7, 8, 9, 10, 11, 12, 13, 14, 15] (by decide) rfl
  have hFc := va_free (wc := [(h0, .inr (10, [.ref b0, .int 0, .ref p0, .ref u0, .ref r0, .ref a0, .ref t0, .ref s0, .ref o0])), (t0, .inr (4, [x0, .ref t1, .ref t3, .ref t4, .ref t5, .ref t6, x6, x7, x8, x9, x10, x11, x12, x13, x14, x15, x16, x17, x18, x19])), (t1, .inr (6, [.ref t2, .int n2, .int k2])), (t2, .inl (cA 0, 240, .inl q2)), (t3, .inl (cA 0, 10, .inl q3)), (t4, .inl (cA 0, 10, .inl q4)), (t5, .inl (cA 0, 10, .inl q5)), (t6, .inl (cA 0, 10, .inl q6)), (a0, .inr (4, [.ref p0, .ref a1, .ref a3, .ref a4, .ref a5, .ref a6, .int 0, .int 0, .int 0, .long 0, .long 0, .long 0, .int 0, .int 0, .int 0, .int 0, .int 365, .int 0, .int 0, .int 0])), (a1, .inr (6, [.ref a2, .int 0, .int 0])), (a2, .inl (cA 0, 240, .inl e2)), (a3, .inl (cA 0, 10, .inl e3)), (a4, .inl (cA 0, 10, .inl e4)), (a5, .inl (cA 0, 10, .inl e5)), (a6, .inl (cA 0, 10, .inl e6)), (p0, .inr (7, [.int 0, .int 365, .int 0, .int 0, .ref p1, .int 0, .ref p2, .ref p3, .ref p4, .ref p5, .int 0, .ref p6, .int 0, .ref p7, .ref p8, .ref p9, .int 0]))]) hD hS hA [0, 1, 2, 3, 4, 5, 6, 7, 8, 9, 10, 11, 12, 13, 14, 15] rfl
  refine va_calli (va_runV (As := [.int (nI N)]) (rest := [.int 0, .ref oo]) ⟨hx, hb, hml, hown, hts⟩ (c_shortDay_ret l D cA sa h0 b0 p0 u0 r0 a0 t0 s0 o0 t1 t2 t3 t4 t5 t6 a1 a2 a3 a4 a5 a6 p1 p2 p3 p4 p5 p6 p7 p8 p9 x0 x6 x7 x8 x9 x10 x11 x12 x13 x14 x15 x16 x17 x18 x19 n2 k2 q2 q3 q4 q5 q6 e2 e3 e4 e5 e6 N s.heap.size hN1 hN) (cwV 1 hts gL_shortDay_X9_shortDay rfl rfl rfl (by decide +kernel) ⟨(Nat.le_of_ble_eq_true rfl), (Nat.le_of_ble_eq_true rfl)⟩) ⟨Wd.blind, va_recv hK hPc (ci := 10) (q0 := 0) rfl rfl, fun U hU hW => ⟨rfl, Wd.call hPc hDc hK hC hZ hS hFc U hU hW⟩⟩ rfl rfl hl.1 rfl (lv_room (Nat.le_of_ble_eq_true rfl)) dL_shortDay_4 ⟨(Nat.le_of_ble_eq_true rfl), (Nat.le_of_ble_eq_true rfl)⟩) hS (fun q _ h => hFc q h) hFc (fun rn1 u t H1 locs ht hvm hw hB hz1 hk1 hS => ?_)
  obtain ⟨hP1, hD1⟩ := hB
  rw [ht] at hP1
  obtain ⟨hP, hD⟩ := va_join (wr := [(oo, .inl (cA 1, 1, .inr (.inl fo)))]) (w1 := []) hP hD [0, 1, 2, 3, 4, 5, 6, 7, 8, 9, 10, 11, 12, 13, 14, 15] [16] rfl rfl (by decide) (by decide) hk1 hFc hP1 hD1
  generalize H1 = H at hP hS ⊢
  have hP : va_P D vwCl [(oo, .inl (cA 1, 1, .inr (.inl fo)))] H := hP
  have hD : va_D A [(oo, .inl (cA 1, 1, .inr (.inl fo)))] := hD
  obtain rfl : rn1 = (-1) := hw
  refine lv_i2l (v := (-1)) hx hb dL_shortDay_7 (by decide) ?_
  refine va_last hx hb hK hP hD hS 0 1 rfl rfl (vp_in_iff.mpr (by decide)) dL_shortDay_8 (fun H locs hP hD hS => ?_)
  have hP : va_P D vwCl [(oo, .inl (cA 1, 1, .inr (.inl (vp_updL fo 0 (-1)))))] H := hP
  have hD : va_D A [(oo, .inl (cA 1, 1, .inr (.inl (vp_updL fo 0 (-1)))))] := hD
  refine lv_goto (tgt := 15) hx hb dL_shortDay_9 (by decide) ?_
  refine lv_iconst (v := 0) hx hb dL_shortDay_15 (by decide) ?_
  have hP9 := hP.sub (ws' := [(oo, .inl (cA 1, 1, .inr (.inl (vp_updL fo 0 (-1)))))]) [0] rfl
  have hD9 := hD.sub (ws' := [(oo, .inl (cA 1, 1, .inr (.inl (vp_updL fo 0 (-1)))))]) [0] (by decide) rfl
  refine W.widen (k := 0) (n := 0) (Nat.le_of_ble_eq_true rfl) (Nat.le_of_ble_eq_true rfl) ?_
  exact W.iret (v := 0) hx hb hr (fun t ht hW => ⟨⟨0, (), rfl, rfl, by rw [ht]; exact hP9, hD9⟩, hS.F ht⟩) hS.2.2 dL_shortDay_16

set_option maxHeartbeats 4000000 in
set_option maxRecDepth 100000 in
/-- the wrapper of shortDay -/
theorem c_L_shortDay_thr (l : Launch) (D : va_G) (cA : Nat → ClassId) (sa : Nat → Nat) (h0 b0 p0 u0 r0 a0 t0 s0 o0 : Nat) (a : Int32) (oo : Nat) (fo : Nat → Int64) (sz : Nat) (hl9 : l.stackTraces = false) (h : a < 1 ∨ 120 < a) : Met l yL_shortDay wsL_shortDay ({ frames := 8, cells := 1, slots := 6, locals := 134 }) (va_Pc [.ref h0, .int a, .ref oo] (Wd D cA sa [(h0, .inr (10, [.ref b0, .int 0, .ref p0, .ref u0, .ref r0, .ref a0, .ref t0, .ref s0, .ref o0])), (oo, .inl (cA 1, 1, .inr (.inl fo)))] sz)) (va_Qi (fun (r : Int32) (_ : Unit) => r = 1) (fun (_ : Unit) t => Wq D (va_A [(h0, .inr (10, [.ref b0, .int 0, .ref p0, .ref u0, .ref r0, .ref a0, .ref t0, .ref s0, .ref o0])), (oo, .inl (cA 1, 1, .inr (.inl fo)))] sz) [] t) (va_A [(h0, .inr (10, [.ref b0, .int 0, .ref p0, .ref u0, .ref r0, .ref a0, .ref t0, .ref s0, .ref o0])), (oo, .inl (cA 1, 1, .inr (.inl fo)))] sz)) 1 6 (va_A [(h0, .inr (10, [.ref b0, .int 0, .ref p0, .ref u0, .ref r0, .ref a0, .ref t0, .ref s0, .ref o0])), (oo, .inl (cA 1, 1, .inr (.inl fo)))] sz) := by
  refine va_MetW (cc := cL_shortDay) (maxL := 4) (ret := (some .int)) (hh := [(0, 9, 12, 13)]) (by decide) rfl ?_
  intro p e s m args below meth c s₁ B hml hv
  obtain ⟨rfl, hsz, hP, hK, hD0, hC, hZ⟩ := hv
  have hx := B.exec
  have hb := B.bytes
  have hr := B.returns
  have hts := atoms_spec (ws := wsL_shortDay) B.pre
  have hown : s.vm.findClass RL = some m.cls := findClass_of_methodNamed B.named
  have hlocks := B.notSynchronized
  have htab := vx_table (x := yL_shortDay) B (hts (.codeWith yL_shortDay cL_shortDay 4 (some .int) [(0, 9, 12, 13)]) List.mem_cons_self)
  subst hsz
  have hD := hD0.self (sz := s.heap.size)
  generalize hAe : va_A [(h0, .inr (10, [.ref b0, .int 0, .ref p0, .ref u0, .ref r0, .ref a0, .ref t0, .ref s0, .ref o0])), (oo, .inl (cA 1, 1, .inr (.inl fo)))] s.heap.size = A at hD hZ ⊢
  have hA : ∀ q : Nat, s.heap.size ≤ q → A q := fun q h => by rw [← hAe]; exact Or.inr h
  have hS : va_S A s.heap s.heap [] := va_S.rf
  have hP : va_P D vwCl [(h0, .inr (10, [.ref b0, .int 0, .ref p0, .ref u0, .ref r0, .ref a0, .ref t0, .ref s0, .ref o0])), (oo, .inl (cA 1, 1, .inr (.inl fo)))] s.heap := hP
  have hl := lv_entry ([.ref h0, .int a, .ref oo]) (n := 4) (Nat.le_of_ble_eq_true rfl)
  rw [lg_entry_eq]
  generalize (lg_sl ([.ref h0, .int a, .ref oo]) ++ List.replicate (4 - (lg_sl ([.ref h0, .int a, .ref oo])).length) Slot.unset).toArray = ls at hl ⊢
  have hl : lv_has ls 4 [(0, .ref h0), (1, .int a), (2, .ref oo)] := hl
  refine lv_aload_n hx hb dL_shortDay_0 rfl (lv_at hl 2 rfl) ?_
  refine lv_iconst (v := 0) hx hb dL_shortDay_1 (by decide) ?_
  refine lv_aload_n hx hb dL_shortDay_2 rfl (lv_at hl 0 rfl) ?_
  refine lv_iload_n hx hb dL_shortDay_3 rfl (lv_at hl 1 rfl) ?_
  have hPc := hP.sub (ws' := [(h0, .inr (10, [.ref b0, .int 0, .ref p0, .ref u0, .ref r0, .ref a0, .ref t0, .ref s0, .ref o0]))]) [0] rfl
  have hDc := hD.sub (ws' := [(h0, .inr (10, [.ref b0, .int 0, .ref p0, .ref u0, .ref r0, .ref a0, .ref t0, .ref s0, .ref o0]))]) [0] (by decide) rfl
  have hFc := va_free (wc := [(h0, .inr (10, [.ref b0, .int 0, .ref p0, .ref u0, .ref r0, .ref a0, .ref t0, .ref s0, .ref o0]))]) hD hS hA [0] rfl
  refine vx_calli (vx_runV (As := [.int a]) (rest := [.int 0, .ref oo]) ⟨hx, hb, hml, hown, hts⟩ (c_shortDay_thr l D cA sa h0 b0 p0 u0 r0 a0 t0 s0 o0 a s.heap.size hl9 h) (cwV 1 hts gL_shortDay_X9_shortDay rfl rfl rfl (by decide +kernel) ⟨(Nat.le_of_ble_eq_true rfl), (Nat.le_of_ble_eq_true rfl)⟩) ⟨Wd.blind, va_recv hK hPc (ci := 10) (q0 := 0) rfl rfl, fun U hU hW => ⟨rfl, Wd.call hPc hDc hK hC hZ hS hFc U hU hW⟩⟩ rfl rfl hl.1 rfl (lv_room (Nat.le_of_ble_eq_true rfl)) dL_shortDay_4 ⟨(Nat.le_of_ble_eq_true rfl), (Nat.le_of_ble_eq_true rfl)⟩) hS (fun q _ h => hFc q h) hFc (fun q _ h => hFc q h) (fun E ce q9 u t H1 locs ht hvm hpx hE hz1 hk1 hS hcell hv9 hcl => ?_) (fun r9 u t H1 locs ht hvm hw hB hz1 hk1 hS => hw.elim)
  have hE : E = "java/lang/IllegalArgumentException" := hE
  subst hE
  refine vx_catch hown [] ⟨0, 9, 12, 13⟩ (tableOf []) (htab.trans rfl) (fun z h => absurd h List.not_mem_nil) (by decide) (by decide) (name := "java/lang/IllegalArgumentException") (hts (.classLink RL 13 "java/lang/IllegalArgumentException") (by decide +kernel)) (hC.c (by decide +kernel)) hcell hv9 hcl ?_
  generalize H1 = H at hS ⊢
  have hP : va_P D vwCl [] H := fun k q h => by simp at h
  have hD : va_D A [] := ⟨fun i j p q h => by simp at h, fun k q h => by simp at h⟩
  refine lv_astore_n (lv' := [(3, .ref q9), (0, .ref h0), (1, .int a), (2, .ref oo)]) hx hb dL_shortDay_12 rfl hl (by decide) rfl (fun ls hl => ?_)
  refine lv_iconst (v := 1) hx hb dL_shortDay_13 (by decide) ?_
  have hP9 := hP.sub (ws' := []) [] rfl
  have hD9 := hD.sub (ws' := []) [] (by decide) rfl
  refine W.widen (k := 1) (n := 6) (Nat.le_of_ble_eq_true rfl) (Nat.le_of_ble_eq_true rfl) ?_
  exact W.iret (v := 1) hx hb hr (fun t ht hW => ⟨⟨1, (), rfl, rfl, by rw [ht]; exact hP9, hD9⟩, hS.F ht⟩) hS.2.2 dL_shortDay_14

set_option maxHeartbeats 4000000 in
set_option maxRecDepth 100000 in
/-- the wrapper of deposit -/
theorem c_L_deposit_ret (l : Launch) (D : va_G) (cA : Nat → ClassId) (sa : Nat → Nat) (h0 b0 p0 u0 r0 a0 t0 s0 o0 s1 m0 m1 m2 m3 m4 m5 m6 a1 a2 a3 a4 a5 a6 p1 p2 p3 p4 p5 p6 p7 p8 p9 : Nat) (x0 x6 x7 x8 x9 x10 x11 x12 x13 x14 x15 x16 x17 x18 x19 : Value) (n2 k2 : Int32) (q2 q3 q4 q5 q6 e2 e3 e4 e5 e6 : Nat → Int32) (FR : Nat → Option Nat) (a : Int32) (oo : Nat) (fo : Nat → Int64) (sz : Nat) (hF : FR 0 = some m0) (h1 : ¬ a < 1) (h2 : ¬ 99999 < a) : Met l yL_deposit wsL_deposit ({ frames := 5, cells := 0, slots := 0, locals := 144 }) (va_Pc [.ref h0, .int a, .ref oo] (Wd D cA sa [(h0, .inr (10, [.ref b0, .int 0, .ref p0, .ref u0, .ref r0, .ref a0, .ref t0, .ref s0, .ref o0])), (s0, .inr (5, [.ref s1, .int 0, .int 0])), (s1, .inl (cA 5, 10, .inr (.inr (.inr (.inr FR))))), (m0, .inr (4, [x0, .ref m1, .ref m3, .ref m4, .ref m5, .ref m6, x6, x7, x8, x9, x10, x11, x12, x13, x14, x15, x16, x17, x18, x19])), (m1, .inr (6, [.ref m2, .int n2, .int k2])), (m2, .inl (cA 0, 240, .inl q2)), (m3, .inl (cA 0, 10, .inl q3)), (m4, .inl (cA 0, 10, .inl q4)), (m5, .inl (cA 0, 10, .inl q5)), (m6, .inl (cA 0, 10, .inl q6)), (a0, .inr (4, [.ref p0, .ref a1, .ref a3, .ref a4, .ref a5, .ref a6, .int 0, .int 0, .int 0, .long 0, .long 0, .long 0, .int 0, .int 0, .int 0, .int 0, .int 365, .int 0, .int 0, .int 0])), (a1, .inr (6, [.ref a2, .int 0, .int 0])), (a2, .inl (cA 0, 240, .inl e2)), (a3, .inl (cA 0, 10, .inl e3)), (a4, .inl (cA 0, 10, .inl e4)), (a5, .inl (cA 0, 10, .inl e5)), (a6, .inl (cA 0, 10, .inl e6)), (p0, .inr (7, [.int 0, .int 365, .int 0, .int 0, .ref p1, .int 0, .ref p2, .ref p3, .ref p4, .ref p5, .int 0, .ref p6, .int 0, .ref p7, .ref p8, .ref p9, .int 0])), (oo, .inl (cA 1, 1, .inr (.inl fo)))] sz)) (va_Qi (fun (r : Int32) (_ : Unit) => r = 0) (fun (_ : Unit) t => Wq D (va_A [(h0, .inr (10, [.ref b0, .int 0, .ref p0, .ref u0, .ref r0, .ref a0, .ref t0, .ref s0, .ref o0])), (s0, .inr (5, [.ref s1, .int 0, .int 0])), (s1, .inl (cA 5, 10, .inr (.inr (.inr (.inr FR))))), (m0, .inr (4, [x0, .ref m1, .ref m3, .ref m4, .ref m5, .ref m6, x6, x7, x8, x9, x10, x11, x12, x13, x14, x15, x16, x17, x18, x19])), (m1, .inr (6, [.ref m2, .int n2, .int k2])), (m2, .inl (cA 0, 240, .inl q2)), (m3, .inl (cA 0, 10, .inl q3)), (m4, .inl (cA 0, 10, .inl q4)), (m5, .inl (cA 0, 10, .inl q5)), (m6, .inl (cA 0, 10, .inl q6)), (a0, .inr (4, [.ref p0, .ref a1, .ref a3, .ref a4, .ref a5, .ref a6, .int 0, .int 0, .int 0, .long 0, .long 0, .long 0, .int 0, .int 0, .int 0, .int 0, .int 365, .int 0, .int 0, .int 0])), (a1, .inr (6, [.ref a2, .int 0, .int 0])), (a2, .inl (cA 0, 240, .inl e2)), (a3, .inl (cA 0, 10, .inl e3)), (a4, .inl (cA 0, 10, .inl e4)), (a5, .inl (cA 0, 10, .inl e5)), (a6, .inl (cA 0, 10, .inl e6)), (p0, .inr (7, [.int 0, .int 365, .int 0, .int 0, .ref p1, .int 0, .ref p2, .ref p3, .ref p4, .ref p5, .int 0, .ref p6, .int 0, .ref p7, .ref p8, .ref p9, .int 0])), (oo, .inl (cA 1, 1, .inr (.inl fo)))] sz) [(oo, .inl (cA 1, 1, .inr (.inl (vp_updL fo 0 ((0 + a).toInt64)))))] t) (va_A [(h0, .inr (10, [.ref b0, .int 0, .ref p0, .ref u0, .ref r0, .ref a0, .ref t0, .ref s0, .ref o0])), (s0, .inr (5, [.ref s1, .int 0, .int 0])), (s1, .inl (cA 5, 10, .inr (.inr (.inr (.inr FR))))), (m0, .inr (4, [x0, .ref m1, .ref m3, .ref m4, .ref m5, .ref m6, x6, x7, x8, x9, x10, x11, x12, x13, x14, x15, x16, x17, x18, x19])), (m1, .inr (6, [.ref m2, .int n2, .int k2])), (m2, .inl (cA 0, 240, .inl q2)), (m3, .inl (cA 0, 10, .inl q3)), (m4, .inl (cA 0, 10, .inl q4)), (m5, .inl (cA 0, 10, .inl q5)), (m6, .inl (cA 0, 10, .inl q6)), (a0, .inr (4, [.ref p0, .ref a1, .ref a3, .ref a4, .ref a5, .ref a6, .int 0, .int 0, .int 0, .long 0, .long 0, .long 0, .int 0, .int 0, .int 0, .int 0, .int 365, .int 0, .int 0, .int 0])), (a1, .inr (6, [.ref a2, .int 0, .int 0])), (a2, .inl (cA 0, 240, .inl e2)), (a3, .inl (cA 0, 10, .inl e3)), (a4, .inl (cA 0, 10, .inl e4)), (a5, .inl (cA 0, 10, .inl e5)), (a6, .inl (cA 0, 10, .inl e6)), (p0, .inr (7, [.int 0, .int 365, .int 0, .int 0, .ref p1, .int 0, .ref p2, .ref p3, .ref p4, .ref p5, .int 0, .ref p6, .int 0, .ref p7, .ref p8, .ref p9, .int 0])), (oo, .inl (cA 1, 1, .inr (.inl fo)))] sz)) 0 0 (va_A [(h0, .inr (10, [.ref b0, .int 0, .ref p0, .ref u0, .ref r0, .ref a0, .ref t0, .ref s0, .ref o0])), (s0, .inr (5, [.ref s1, .int 0, .int 0])), (s1, .inl (cA 5, 10, .inr (.inr (.inr (.inr FR))))), (m0, .inr (4, [x0, .ref m1, .ref m3, .ref m4, .ref m5, .ref m6, x6, x7, x8, x9, x10, x11, x12, x13, x14, x15, x16, x17, x18, x19])), (m1, .inr (6, [.ref m2, .int n2, .int k2])), (m2, .inl (cA 0, 240, .inl q2)), (m3, .inl (cA 0, 10, .inl q3)), (m4, .inl (cA 0, 10, .inl q4)), (m5, .inl (cA 0, 10, .inl q5)), (m6, .inl (cA 0, 10, .inl q6)), (a0, .inr (4, [.ref p0, .ref a1, .ref a3, .ref a4, .ref a5, .ref a6, .int 0, .int 0, .int 0, .long 0, .long 0, .long 0, .int 0, .int 0, .int 0, .int 0, .int 365, .int 0, .int 0, .int 0])), (a1, .inr (6, [.ref a2, .int 0, .int 0])), (a2, .inl (cA 0, 240, .inl e2)), (a3, .inl (cA 0, 10, .inl e3)), (a4, .inl (cA 0, 10, .inl e4)), (a5, .inl (cA 0, 10, .inl e5)), (a6, .inl (cA 0, 10, .inl e6)), (p0, .inr (7, [.int 0, .int 365, .int 0, .int 0, .ref p1, .int 0, .ref p2, .ref p3, .ref p4, .ref p5, .int 0, .ref p6, .int 0, .ref p7, .ref p8, .ref p9, .int 0])), (oo, .inl (cA 1, 1, .inr (.inl fo)))] sz) := by
  refine va_MetW (cc := cL_deposit) (maxL := 4) (ret := (some .int)) (hh := [(0, 9, 12, 13), (0, 9, 15, 75)]) (by decide) rfl ?_
  intro p e s m args below meth c s₁ B hml hv
  obtain ⟨rfl, hsz, hP, hK, hD0, hC, hZ⟩ := hv
  have hx := B.exec
  have hb := B.bytes
  have hr := B.returns
  have hts := atoms_spec (ws := wsL_deposit) B.pre
  have hown : s.vm.findClass RL = some m.cls := findClass_of_methodNamed B.named
  have hlocks := B.notSynchronized
  have htab := vx_table (x := yL_deposit) B (hts (.codeWith yL_deposit cL_deposit 4 (some .int) [(0, 9, 12, 13), (0, 9, 15, 75)]) List.mem_cons_self)
  subst hsz
  have hD := hD0.self (sz := s.heap.size)
  generalize hAe : va_A [(h0, .inr (10, [.ref b0, .int 0, .ref p0, .ref u0, .ref r0, .ref a0, .ref t0, .ref s0, .ref o0])), (s0, .inr (5, [.ref s1, .int 0, .int 0])), (s1, .inl (cA 5, 10, .inr (.inr (.inr (.inr FR))))), (m0, .inr (4, [x0, .ref m1, .ref m3, .ref m4, .ref m5, .ref m6, x6, x7, x8, x9, x10, x11, x12, x13, x14, x15, x16, x17, x18, x19])), (m1, .inr (6, [.ref m2, .int n2, .int k2])), (m2, .inl (cA 0, 240, .inl q2)), (m3, .inl (cA 0, 10, .inl q3)), (m4, .inl (cA 0, 10, .inl q4)), (m5, .inl (cA 0, 10, .inl q5)), (m6, .inl (cA 0, 10, .inl q6)), (a0, .inr (4, [.ref p0, .ref a1, .ref a3, .ref a4, .ref a5, .ref a6, .int 0, .int 0, .int 0, .long 0, .long 0, .long 0, .int 0, .int 0, .int 0, .int 0, .int 365, .int 0, .int 0, .int 0])), (a1, .inr (6, [.ref a2, .int 0, .int 0])), (a2, .inl (cA 0, 240, .inl e2)), (a3, .inl (cA 0, 10, .inl e3)), (a4, .inl (cA 0, 10, .inl e4)), (a5, .inl (cA 0, 10, .inl e5)), (a6, .inl (cA 0, 10, .inl e6)), (p0, .inr (7, [.int 0, .int 365, .int 0, .int 0, .ref p1, .int 0, .ref p2, .ref p3, .ref p4, .ref p5, .int 0, .ref p6, .int 0, .ref p7, .ref p8, .ref p9, .int 0])), (oo, .inl (cA 1, 1, .inr (.inl fo)))] s.heap.size = A at hD hZ ⊢
  have hA : ∀ q : Nat, s.heap.size ≤ q → A q := fun q h => by rw [← hAe]; exact Or.inr h
  have hS : va_S A s.heap s.heap [] := va_S.rf
  have hP : va_P D vwCl [(h0, .inr (10, [.ref b0, .int 0, .ref p0, .ref u0, .ref r0, .ref a0, .ref t0, .ref s0, .ref o0])), (s0, .inr (5, [.ref s1, .int 0, .int 0])), (s1, .inl (cA 5, 10, .inr (.inr (.inr (.inr FR))))), (m0, .inr (4, [x0, .ref m1, .ref m3, .ref m4, .ref m5, .ref m6, x6, x7, x8, x9, x10, x11, x12, x13, x14, x15, x16, x17, x18, x19])), (m1, .inr (6, [.ref m2, .int n2, .int k2])), (m2, .inl (cA 0, 240, .inl q2)), (m3, .inl (cA 0, 10, .inl q3)), (m4, .inl (cA 0, 10, .inl q4)), (m5, .inl (cA 0, 10, .inl q5)), (m6, .inl (cA 0, 10, .inl q6)), (a0, .inr (4, [.ref p0, .ref a1, .ref a3, .ref a4, .ref a5, .ref a6, .int 0, .int 0, .int 0, .long 0, .long 0, .long 0, .int 0, .int 0, .int 0, .int 0, .int 365, .int 0, .int 0, .int 0])), (a1, .inr (6, [.ref a2, .int 0, .int 0])), (a2, .inl (cA 0, 240, .inl e2)), (a3, .inl (cA 0, 10, .inl e3)), (a4, .inl (cA 0, 10, .inl e4)), (a5, .inl (cA 0, 10, .inl e5)), (a6, .inl (cA 0, 10, .inl e6)), (p0, .inr (7, [.int 0, .int 365, .int 0, .int 0, .ref p1, .int 0, .ref p2, .ref p3, .ref p4, .ref p5, .int 0, .ref p6, .int 0, .ref p7, .ref p8, .ref p9, .int 0])), (oo, .inl (cA 1, 1, .inr (.inl fo)))] s.heap := hP
  have hl := lv_entry ([.ref h0, .int a, .ref oo]) (n := 4) (Nat.le_of_ble_eq_true rfl)
  rw [lg_entry_eq]
  generalize (lg_sl ([.ref h0, .int a, .ref oo]) ++ List.replicate (4 - (lg_sl ([.ref h0, .int a, .ref oo])).length) Slot.unset).toArray = ls at hl ⊢
  have hl : lv_has ls 4 [(0, .ref h0), (1, .int a), (2, .ref oo)] := hl
  refine lv_aload_n hx hb dL_deposit_0 rfl (lv_at hl 2 rfl) ?_
  refine lv_iconst (v := 0) hx hb dL_deposit_1 (by decide) ?_
  refine lv_aload_n hx hb dL_deposit_2 rfl (lv_at hl 0 rfl) ?_
  refine lv_iload_n hx hb dL_deposit_3 rfl (lv_at hl 1 rfl) ?_
  have hPc := hP.sub (ws' := [(h0, .inr (10, [.ref b0, .int 0, .ref p0, .ref u0, .ref r0, .ref a0, .ref t0, .ref s0, .ref o0])), (s0, .inr (5, [.ref s1, .int 0, .int 0])), (s1, .inl (cA 5, 10, .inr (.inr (.inr (.inr FR))))), (m0, .inr (4, [x0, .ref m1, .ref m3, .ref m4, .ref m5, .ref m6, x6, x7, x8, x9, x10, x11, x12, x13, x14, x15, x16, x17, x18, x19])), (m1, .inr (6, [.ref m2, .int n2, .int k2])), (m2, .inl (cA 0, 240, .inl q2)), (m3, .inl (cA 0, 10, .inl q3)), (m4, .inl (cA 0, 10, .inl q4)), (m5, .inl (cA 0, 10, .inl q5)), (m6, .inl (cA 0, 10, .inl q6)), (a0, .inr (4, [.ref p0, .ref a1, .ref a3, .ref a4, .ref a5, .ref a6, .int 0, .int 0, .int 0, .long 0, .long 0, .long 0, .int 0, .int 0, .int 0, .int 0, .int 365, .int 0, .int 0, .int 0])), (a1, .inr (6, [.ref a2, .int 0, .int 0])), (a2, .inl (cA 0, 240, .inl e2)), (a3, .inl (cA 0, 10, .inl e3)), (a4, .inl (cA 0, 10, .inl e4)), (a5, .inl (cA 0, 10, .inl e5)), (a6, .inl (cA 0, 10, .inl e6)), (p0, .inr (7, [.int 0, .int 365, .int 0, .int 0, .ref p1, .int 0, .ref p2, .ref p3, .ref p4, .ref p5, .int 0, .ref p6, .int 0, .ref p7, .ref p8, .ref p9, .int 0]))]) [0, 1, 2, 3, 4, 5, 6, 7, 8, 9, 10, 11, 12, 13, 14, 15, 16, 17] rfl
  have hDc := hD.sub (ws' := [(h0, .inr (10, [.ref b0, .int 0, .ref p0, .ref u0, .ref r0, .ref a0, .ref t0, .ref s0, .ref o0])), (s0, .inr (5, [.ref s1, .int 0, .int 0])), (s1, .inl (cA 5, 10, .inr (.inr (.inr (.inr FR))))), (m0, .inr (4, [x0, .ref m1, .ref m3, .ref m4, .ref m5, .ref m6, x6, x7, x8, x9, x10, x11, x12, x13, x14, x15, x16, x17, x18, x19])), (m1, .inr (6, [.ref m2, .int n2, .int k2])), (m2, .inl (cA 0, 240, .inl q2)), (m3, .inl (cA 0, 10, .inl q3)), (m4, .inl (cA 0, 10, .inl q4)), (m5, .inl (cA 0, 10, .inl q5)), (m6, .inl (cA 0, 10, .inl q6)), (a0, .inr (4, [.ref p0, .ref a1, .ref a3, .ref a4, .ref a5, .ref a6, .int 0, .int 0, .int 0, .long 0, .long 0, .long 0, .int 0, .int 0, .int 0, .int 0, .int 365, .int 0, .int 0, .int 0])), (a1, .inr (6, [.ref a2, .int 0, .int 0])), (a2, .inl (cA 0, 240, .inl e2)), (a3, .inl (cA 0, 10, .inl e3)), (a4, .inl (cA 0, 10, .inl e4)), (a5, .inl (cA 0, 10, .inl e5)), (a6, .inl (cA 0, 10, .inl e6)), (p0, .inr (7, [.int 0, .int 365, .int 0, .int 0, .ref p1, .int 0, .ref p2, .ref p3, .ref p4, .ref p5, .int 0, .ref p6, .int 0, .ref p7, .ref p8, .ref p9, .int 0]))]) [0, 1, 2, 3, 4, 5, 6, 7, 8, 9, 10, 11, 12, 13, 14, 15, 16, 17] (by decide) rfl
  have hFc := va_free (wc := [(h0, .inr (10, [.ref b0, .int 0, .ref p0, .ref u0, .ref r0, .ref a0, .ref t0, .ref s0, .ref o0])), (s0, .inr (5, [.ref s1, .int 0, .int 0])), (s1, .inl (cA 5, 10, .inr (.inr (.inr (.inr FR))))), (m0, .inr (4, [x0, .ref m1, .ref m3, .ref m4, .ref m5, .ref m6, x6, x7, x8, x9, x10, x11, x12, x13, x14, x15, x16, x17, x18, x19])), (m1, .inr (6, [.ref m2, .int n2, .int k2])), (m2, .inl (cA 0, 240, .inl q2)), (m3, .inl (cA 0, 10, .inl q3)), (m4, .inl (cA 0, 10, .inl q4)), (m5, .inl (cA 0, 10, .inl q5)), (m6, .inl (cA 0, 10, .inl q6)), (a0, .inr (4, [.ref p0, .ref a1, .ref a3, .ref a4, .ref a5, .ref a6, .int 0, .int 0, .int 0, .long 0, .long 0, .long 0, .int 0, .int 0, .int 0, .int 0, .int 365, .int 0, .int 0, .int 0])), (a1, .inr (6, [.ref a2, .int 0, .int 0])), (a2, .inl (cA 0, 240, .inl e2)), (a3, .inl (cA 0, 10, .inl e3)), (a4, .inl (cA 0, 10, .inl e4)), (a5, .inl (cA 0, 10, .inl e5)), (a6, .inl (cA 0, 10, .inl e6)), (p0, .inr (7, [.int 0, .int 365, .int 0, .int 0, .ref p1, .int 0, .ref p2, .ref p3, .ref p4, .ref p5, .int 0, .ref p6, .int 0, .ref p7, .ref p8, .ref p9, .int 0]))]) hD hS hA [0, 1, 2, 3, 4, 5, 6, 7, 8, 9, 10, 11, 12, 13, 14, 15, 16, 17] rfl
  refine va_calli (va_runV (As := [.int a]) (rest := [.int 0, .ref oo]) ⟨hx, hb, hml, hown, hts⟩ (c_deposit_ret l D cA sa h0 b0 p0 u0 r0 a0 t0 s0 o0 s1 m0 m1 m2 m3 m4 m5 m6 a1 a2 a3 a4 a5 a6 p1 p2 p3 p4 p5 p6 p7 p8 p9 x0 x6 x7 x8 x9 x10 x11 x12 x13 x14 x15 x16 x17 x18 x19 n2 k2 q2 q3 q4 q5 q6 e2 e3 e4 e5 e6 FR a s.heap.size hF h1 h2) (cwV 1 hts gL_deposit_X9_deposit rfl rfl rfl (by decide +kernel) ⟨(Nat.le_of_ble_eq_true rfl), (Nat.le_of_ble_eq_true rfl)⟩) ⟨Wd.blind, va_recv hK hPc (ci := 10) (q0 := 0) rfl rfl, fun U hU hW => ⟨rfl, Wd.call hPc hDc hK hC hZ hS hFc U hU hW⟩⟩ rfl rfl hl.1 rfl (lv_room (Nat.le_of_ble_eq_true rfl)) dL_deposit_4 ⟨(Nat.le_of_ble_eq_true rfl), (Nat.le_of_ble_eq_true rfl)⟩) hS (fun q _ h => hFc q h) hFc (fun rn1 u t H1 locs ht hvm hw hB hz1 hk1 hS => ?_)
  obtain ⟨hP1, hD1⟩ := hB
  rw [ht] at hP1
  obtain ⟨hP, hD⟩ := va_join (wr := [(oo, .inl (cA 1, 1, .inr (.inl fo)))]) (w1 := []) hP hD [0, 1, 2, 3, 4, 5, 6, 7, 8, 9, 10, 11, 12, 13, 14, 15, 16, 17] [18] rfl rfl (by decide) (by decide) hk1 hFc hP1 hD1
  generalize H1 = H at hP hS ⊢
  have hP : va_P D vwCl [(oo, .inl (cA 1, 1, .inr (.inl fo)))] H := hP
  have hD : va_D A [(oo, .inl (cA 1, 1, .inr (.inl fo)))] := hD
  obtain rfl : rn1 = (0 + a) := hw
  refine lv_i2l (v := ((0 + a).toInt64)) hx hb dL_deposit_7 rfl ?_
  refine va_last hx hb hK hP hD hS 0 1 rfl rfl (vp_in_iff.mpr (by decide)) dL_deposit_8 (fun H locs hP hD hS => ?_)
  have hP : va_P D vwCl [(oo, .inl (cA 1, 1, .inr (.inl (vp_updL fo 0 ((0 + a).toInt64)))))] H := hP
  have hD : va_D A [(oo, .inl (cA 1, 1, .inr (.inl (vp_updL fo 0 ((0 + a).toInt64)))))] := hD
  refine lv_goto (tgt := 18) hx hb dL_deposit_9 (by decide) ?_
  refine lv_iconst (v := 0) hx hb dL_deposit_18 (by decide) ?_
  have hP9 := hP.sub (ws' := [(oo, .inl (cA 1, 1, .inr (.inl (vp_updL fo 0 ((0 + a).toInt64)))))]) [0] rfl
  have hD9 := hD.sub (ws' := [(oo, .inl (cA 1, 1, .inr (.inl (vp_updL fo 0 ((0 + a).toInt64)))))]) [0] (by decide) rfl
  refine W.widen (k := 0) (n := 0) (Nat.le_of_ble_eq_true rfl) (Nat.le_of_ble_eq_true rfl) ?_
  exact W.iret (v := 0) hx hb hr (fun t ht hW => ⟨⟨0, (), rfl, rfl, by rw [ht]; exact hP9, hD9⟩, hS.F ht⟩) hS.2.2 dL_deposit_19

set_option maxHeartbeats 4000000 in
set_option maxRecDepth 100000 in
/-- the wrapper of deposit -/
theorem c_L_deposit_thr (l : Launch) (D : va_G) (cA : Nat → ClassId) (sa : Nat → Nat) (h0 b0 p0 u0 r0 a0 t0 s0 o0 p1 p2 p3 p4 p5 p6 p7 p8 p9 a1 a3 a4 a5 a6 : Nat) (a : Int32) (oo : Nat) (fo : Nat → Int64) (sz : Nat) (hl9 : l.stackTraces = false) (h : a < 1 ∨ 99999 < a) : Met l yL_deposit wsL_deposit ({ frames := 8, cells := 1, slots := 6, locals := 133 }) (va_Pc [.ref h0, .int a, .ref oo] (Wd D cA sa [(h0, .inr (10, [.ref b0, .int 0, .ref p0, .ref u0, .ref r0, .ref a0, .ref t0, .ref s0, .ref o0])), (a0, .inr (4, [.ref p0, .ref a1, .ref a3, .ref a4, .ref a5, .ref a6, .int 0, .int 0, .int 0, .long 0, .long 0, .long 0, .int 0, .int 0, .int 0, .int 0, .int 365, .int 0, .int 0, .int 0])), (p0, .inr (7, [.int 0, .int 365, .int 0, .int 0, .ref p1, .int 0, .ref p2, .ref p3, .ref p4, .ref p5, .int 0, .ref p6, .int 0, .ref p7, .ref p8, .ref p9, .int 0])), (oo, .inl (cA 1, 1, .inr (.inl fo)))] sz)) (va_Qi (fun (r : Int32) (_ : Unit) => r = 1) (fun (_ : Unit) t => Wq D (va_A [(h0, .inr (10, [.ref b0, .int 0, .ref p0, .ref u0, .ref r0, .ref a0, .ref t0, .ref s0, .ref o0])), (a0, .inr (4, [.ref p0, .ref a1, .ref a3, .ref a4, .ref a5, .ref a6, .int 0, .int 0, .int 0, .long 0, .long 0, .long 0, .int 0, .int 0, .int 0, .int 0, .int 365, .int 0, .int 0, .int 0])), (p0, .inr (7, [.int 0, .int 365, .int 0, .int 0, .ref p1, .int 0, .ref p2, .ref p3, .ref p4, .ref p5, .int 0, .ref p6, .int 0, .ref p7, .ref p8, .ref p9, .int 0])), (oo, .inl (cA 1, 1, .inr (.inl fo)))] sz) [] t) (va_A [(h0, .inr (10, [.ref b0, .int 0, .ref p0, .ref u0, .ref r0, .ref a0, .ref t0, .ref s0, .ref o0])), (a0, .inr (4, [.ref p0, .ref a1, .ref a3, .ref a4, .ref a5, .ref a6, .int 0, .int 0, .int 0, .long 0, .long 0, .long 0, .int 0, .int 0, .int 0, .int 0, .int 365, .int 0, .int 0, .int 0])), (p0, .inr (7, [.int 0, .int 365, .int 0, .int 0, .ref p1, .int 0, .ref p2, .ref p3, .ref p4, .ref p5, .int 0, .ref p6, .int 0, .ref p7, .ref p8, .ref p9, .int 0])), (oo, .inl (cA 1, 1, .inr (.inl fo)))] sz)) 1 6 (va_A [(h0, .inr (10, [.ref b0, .int 0, .ref p0, .ref u0, .ref r0, .ref a0, .ref t0, .ref s0, .ref o0])), (a0, .inr (4, [.ref p0, .ref a1, .ref a3, .ref a4, .ref a5, .ref a6, .int 0, .int 0, .int 0, .long 0, .long 0, .long 0, .int 0, .int 0, .int 0, .int 0, .int 365, .int 0, .int 0, .int 0])), (p0, .inr (7, [.int 0, .int 365, .int 0, .int 0, .ref p1, .int 0, .ref p2, .ref p3, .ref p4, .ref p5, .int 0, .ref p6, .int 0, .ref p7, .ref p8, .ref p9, .int 0])), (oo, .inl (cA 1, 1, .inr (.inl fo)))] sz) := by
  refine va_MetW (cc := cL_deposit) (maxL := 4) (ret := (some .int)) (hh := [(0, 9, 12, 13), (0, 9, 15, 75)]) (by decide) rfl ?_
  intro p e s m args below meth c s₁ B hml hv
  obtain ⟨rfl, hsz, hP, hK, hD0, hC, hZ⟩ := hv
  have hx := B.exec
  have hb := B.bytes
  have hr := B.returns
  have hts := atoms_spec (ws := wsL_deposit) B.pre
  have hown : s.vm.findClass RL = some m.cls := findClass_of_methodNamed B.named
  have hlocks := B.notSynchronized
  have htab := vx_table (x := yL_deposit) B (hts (.codeWith yL_deposit cL_deposit 4 (some .int) [(0, 9, 12, 13), (0, 9, 15, 75)]) List.mem_cons_self)
  subst hsz
  have hD := hD0.self (sz := s.heap.size)
  generalize hAe : va_A [(h0, .inr (10, [.ref b0, .int 0, .ref p0, .ref u0, .ref r0, .ref a0, .ref t0, .ref s0, .ref o0])), (a0, .inr (4, [.ref p0, .ref a1, .ref a3, .ref a4, .ref a5, .ref a6, .int 0, .int 0, .int 0, .long 0, .long 0, .long 0, .int 0, .int 0, .int 0, .int 0, .int 365, .int 0, .int 0, .int 0])), (p0, .inr (7, [.int 0, .int 365, .int 0, .int 0, .ref p1, .int 0, .ref p2, .ref p3, .ref p4, .ref p5, .int 0, .ref p6, .int 0, .ref p7, .ref p8, .ref p9, .int 0])), (oo, .inl (cA 1, 1, .inr (.inl fo)))] s.heap.size = A at hD hZ ⊢
  have hA : ∀ q : Nat, s.heap.size ≤ q → A q := fun q h => by rw [← hAe]; exact Or.inr h
  have hS : va_S A s.heap s.heap [] := va_S.rf
  have hP : va_P D vwCl [(h0, .inr (10, [.ref b0, .int 0, .ref p0, .ref u0, .ref r0, .ref a0, .ref t0, .ref s0, .ref o0])), (a0, .inr (4, [.ref p0, .ref a1, .ref a3, .ref a4, .ref a5, .ref a6, .int 0, .int 0, .int 0, .long 0, .long 0, .long 0, .int 0, .int 0, .int 0, .int 0, .int 365, .int 0, .int 0, .int 0])), (p0, .inr (7, [.int 0, .int 365, .int 0, .int 0, .ref p1, .int 0, .ref p2, .ref p3, .ref p4, .ref p5, .int 0, .ref p6, .int 0, .ref p7, .ref p8, .ref p9, .int 0])), (oo, .inl (cA 1, 1, .inr (.inl fo)))] s.heap := hP
  have hl := lv_entry ([.ref h0, .int a, .ref oo]) (n := 4) (Nat.le_of_ble_eq_true rfl)
  rw [lg_entry_eq]
  generalize (lg_sl ([.ref h0, .int a, .ref oo]) ++ List.replicate (4 - (lg_sl ([.ref h0, .int a, .ref oo])).length) Slot.unset).toArray = ls at hl ⊢
  have hl : lv_has ls 4 [(0, .ref h0), (1, .int a), (2, .ref oo)] := hl
  refine lv_aload_n hx hb dL_deposit_0 rfl (lv_at hl 2 rfl) ?_
  refine lv_iconst (v := 0) hx hb dL_deposit_1 (by decide) ?_
  refine lv_aload_n hx hb dL_deposit_2 rfl (lv_at hl 0 rfl) ?_
  refine lv_iload_n hx hb dL_deposit_3 rfl (lv_at hl 1 rfl) ?_
  have hPc := hP.sub (ws' := [(h0, .inr (10, [.ref b0, .int 0, .ref p0, .ref u0, .ref r0, .ref a0, .ref t0, .ref s0, .ref o0])), (a0, .inr (4, [.ref p0, .ref a1, .ref a3, .ref a4, .ref a5, .ref a6, .int 0, .int 0, .int 0, .long 0, .long 0, .long 0, .int 0, .int 0, .int 0, .int 0, .int 365, .int 0, .int 0, .int 0])), (p0, .inr (7, [.int 0, .int 365, .int 0, .int 0, .ref p1, .int 0, .ref p2, .ref p3, .ref p4, .ref p5, .int 0, .ref p6, .int 0, .ref p7, .ref p8, .ref p9, .int 0]))]) [0, 1, 2] rfl
  have hDc := hD.sub (ws' := [(h0, .inr (10, [.ref b0, .int 0, .ref p0, .ref u0, .ref r0, .ref a0, .ref t0, .ref s0, .ref o0])), (a0, .inr (4, [.ref p0, .ref a1, .ref a3, .ref a4, .ref a5, .ref a6, .int 0, .int 0, .int 0, .long 0, .long 0, .long 0, .int 0, .int 0, .int 0, .int 0, .int 365, .int 0, .int 0, .int 0])), (p0, .inr (7, [.int 0, .int 365, .int 0, .int 0, .ref p1, .int 0, .ref p2, .ref p3, .ref p4, .ref p5, .int 0, .ref p6, .int 0, .ref p7, .ref p8, .ref p9, .int 0]))]) [0, 1, 2] (by decide) rfl
  have hFc := va_free (wc := [(h0, .inr (10, [.ref b0, .int 0, .ref p0, .ref u0, .ref r0, .ref a0, .ref t0, .ref s0, .ref o0])), (a0, .inr (4, [.ref p0, .ref a1, .ref a3, .ref a4, .ref a5, .ref a6, .int 0, .int 0, .int 0, .long 0, .long 0, .long 0, .int 0, .int 0, .int 0, .int 0, .int 365, .int 0, .int 0, .int 0])), (p0, .inr (7, [.int 0, .int 365, .int 0, .int 0, .ref p1, .int 0, .ref p2, .ref p3, .ref p4, .ref p5, .int 0, .ref p6, .int 0, .ref p7, .ref p8, .ref p9, .int 0]))]) hD hS hA [0, 1, 2] rfl
  refine vx_calli (vx_runV (As := [.int a]) (rest := [.int 0, .ref oo]) ⟨hx, hb, hml, hown, hts⟩ (c_deposit_thr l D cA sa h0 b0 p0 u0 r0 a0 t0 s0 o0 p1 p2 p3 p4 p5 p6 p7 p8 p9 a1 a3 a4 a5 a6 a s.heap.size hl9 h) (cwV 1 hts gL_deposit_X9_deposit rfl rfl rfl (by decide +kernel) ⟨(Nat.le_of_ble_eq_true rfl), (Nat.le_of_ble_eq_true rfl)⟩) ⟨Wd.blind, va_recv hK hPc (ci := 10) (q0 := 0) rfl rfl, fun U hU hW => ⟨rfl, Wd.call hPc hDc hK hC hZ hS hFc U hU hW⟩⟩ rfl rfl hl.1 rfl (lv_room (Nat.le_of_ble_eq_true rfl)) dL_deposit_4 ⟨(Nat.le_of_ble_eq_true rfl), (Nat.le_of_ble_eq_true rfl)⟩) hS (fun q _ h => hFc q h) hFc (fun q _ h => hFc q h) (fun E ce q9 u t H1 locs ht hvm hpx hE hz1 hk1 hS hcell hv9 hcl => ?_) (fun r9 u t H1 locs ht hvm hw hB hz1 hk1 hS => hw.elim)
  have hE : E = "java/lang/IllegalArgumentException" := hE
  subst hE
  refine vx_catch hown [] ⟨0, 9, 12, 13⟩ (tableOf [(0, 9, 15, 75)]) (htab.trans rfl) (fun z h => absurd h List.not_mem_nil) (by decide) (by decide) (name := "java/lang/IllegalArgumentException") (hts (.classLink RL 13 "java/lang/IllegalArgumentException") (by decide +kernel)) (hC.c (by decide +kernel)) hcell hv9 hcl ?_
  generalize H1 = H at hS ⊢
  have hP : va_P D vwCl [] H := fun k q h => by simp at h
  have hD : va_D A [] := ⟨fun i j p q h => by simp at h, fun k q h => by simp at h⟩
  refine lv_astore_n (lv' := [(3, .ref q9), (0, .ref h0), (1, .int a), (2, .ref oo)]) hx hb dL_deposit_12 rfl hl (by decide) rfl (fun ls hl => ?_)
  refine lv_iconst (v := 1) hx hb dL_deposit_13 (by decide) ?_
  have hP9 := hP.sub (ws' := []) [] rfl
  have hD9 := hD.sub (ws' := []) [] (by decide) rfl
  refine W.widen (k := 1) (n := 6) (Nat.le_of_ble_eq_true rfl) (Nat.le_of_ble_eq_true rfl) ?_
  exact W.iret (v := 1) hx hb hr (fun t ht hW => ⟨⟨1, (), rfl, rfl, by rw [ht]; exact hP9, hD9⟩, hS.F ht⟩) hS.2.2 dL_deposit_14

set_option maxHeartbeats 4000000 in
set_option maxRecDepth 100000 in
/-- the wrapper of setGrace -/
theorem c_L_setGrace_ret (l : Launch) (D : va_G) (cA : Nat → ClassId) (sa : Nat → Nat) (h0 b0 p0 u0 r0 a0 t0 s0 o0 s1 m0 m1 m2 m3 m4 m5 m6 a1 a2 a3 a4 a5 a6 p1 p2 p3 p4 p5 p6 p7 p8 p9 : Nat) (x0 x6 x7 x8 x9 x10 x11 x12 x13 x14 x15 x16 x17 x18 x19 : Value) (n2 k2 : Int32) (q2 q3 q4 q5 q6 e2 e3 e4 e5 e6 : Nat → Int32) (FR : Nat → Option Nat) (a : Int32) (oo : Nat) (fo : Nat → Int64) (sz : Nat) (hF : FR 0 = some m0) (h1 : ¬ a < 0) (h2 : ¬ 60 < a) : Met l yL_setGrace wsL_setGrace ({ frames := 5, cells := 0, slots := 0, locals := 145 }) (va_Pc [.ref h0, .int a, .ref oo] (Wd D cA sa [(h0, .inr (10, [.ref b0, .int 0, .ref p0, .ref u0, .ref r0, .ref a0, .ref t0, .ref s0, .ref o0])), (s0, .inr (5, [.ref s1, .int 0, .int 0])), (s1, .inl (cA 5, 10, .inr (.inr (.inr (.inr FR))))), (m0, .inr (4, [x0, .ref m1, .ref m3, .ref m4, .ref m5, .ref m6, x6, x7, x8, x9, x10, x11, x12, x13, x14, x15, x16, x17, x18, x19])), (m1, .inr (6, [.ref m2, .int n2, .int k2])), (m2, .inl (cA 0, 240, .inl q2)), (m3, .inl (cA 0, 10, .inl q3)), (m4, .inl (cA 0, 10, .inl q4)), (m5, .inl (cA 0, 10, .inl q5)), (m6, .inl (cA 0, 10, .inl q6)), (a0, .inr (4, [.ref p0, .ref a1, .ref a3, .ref a4, .ref a5, .ref a6, .int 0, .int 0, .int 0, .long 0, .long 0, .long 0, .int 0, .int 0, .int 0, .int 0, .int 365, .int 0, .int 0, .int 0])), (a1, .inr (6, [.ref a2, .int 0, .int 0])), (a2, .inl (cA 0, 240, .inl e2)), (a3, .inl (cA 0, 10, .inl e3)), (a4, .inl (cA 0, 10, .inl e4)), (a5, .inl (cA 0, 10, .inl e5)), (a6, .inl (cA 0, 10, .inl e6)), (p0, .inr (7, [.int 0, .int 365, .int 0, .int 0, .ref p1, .int 0, .ref p2, .ref p3, .ref p4, .ref p5, .int 0, .ref p6, .int 0, .ref p7, .ref p8, .ref p9, .int 0])), (oo, .inl (cA 1, 1, .inr (.inl fo)))] sz)) (va_Qi (fun (r : Int32) (_ : Unit) => r = 0) (fun (_ : Unit) t => Wq D (va_A [(h0, .inr (10, [.ref b0, .int 0, .ref p0, .ref u0, .ref r0, .ref a0, .ref t0, .ref s0, .ref o0])), (s0, .inr (5, [.ref s1, .int 0, .int 0])), (s1, .inl (cA 5, 10, .inr (.inr (.inr (.inr FR))))), (m0, .inr (4, [x0, .ref m1, .ref m3, .ref m4, .ref m5, .ref m6, x6, x7, x8, x9, x10, x11, x12, x13, x14, x15, x16, x17, x18, x19])), (m1, .inr (6, [.ref m2, .int n2, .int k2])), (m2, .inl (cA 0, 240, .inl q2)), (m3, .inl (cA 0, 10, .inl q3)), (m4, .inl (cA 0, 10, .inl q4)), (m5, .inl (cA 0, 10, .inl q5)), (m6, .inl (cA 0, 10, .inl q6)), (a0, .inr (4, [.ref p0, .ref a1, .ref a3, .ref a4, .ref a5, .ref a6, .int 0, .int 0, .int 0, .long 0, .long 0, .long 0, .int 0, .int 0, .int 0, .int 0, .int 365, .int 0, .int 0, .int 0])), (a1, .inr (6, [.ref a2, .int 0, .int 0])), (a2, .inl (cA 0, 240, .inl e2)), (a3, .inl (cA 0, 10, .inl e3)), (a4, .inl (cA 0, 10, .inl e4)), (a5, .inl (cA 0, 10, .inl e5)), (a6, .inl (cA 0, 10, .inl e6)), (p0, .inr (7, [.int 0, .int 365, .int 0, .int 0, .ref p1, .int 0, .ref p2, .ref p3, .ref p4, .ref p5, .int 0, .ref p6, .int 0, .ref p7, .ref p8, .ref p9, .int 0])), (oo, .inl (cA 1, 1, .inr (.inl fo)))] sz) [(oo, .inl (cA 1, 1, .inr (.inl (vp_updL fo 0 0))))] t) (va_A [(h0, .inr (10, [.ref b0, .int 0, .ref p0, .ref u0, .ref r0, .ref a0, .ref t0, .ref s0, .ref o0])), (s0, .inr (5, [.ref s1, .int 0, .int 0])), (s1, .inl (cA 5, 10, .inr (.inr (.inr (.inr FR))))), (m0, .inr (4, [x0, .ref m1, .ref m3, .ref m4, .ref m5, .ref m6, x6, x7, x8, x9, x10, x11, x12, x13, x14, x15, x16, x17, x18, x19])), (m1, .inr (6, [.ref m2, .int n2, .int k2])), (m2, .inl (cA 0, 240, .inl q2)), (m3, .inl (cA 0, 10, .inl q3)), (m4, .inl (cA 0, 10, .inl q4)), (m5, .inl (cA 0, 10, .inl q5)), (m6, .inl (cA 0, 10, .inl q6)), (a0, .inr (4, [.ref p0, .ref a1, .ref a3, .ref a4, .ref a5, .ref a6, .int 0, .int 0, .int 0, .long 0, .long 0, .long 0, .int 0, .int 0, .int 0, .int 0, .int 365, .int 0, .int 0, .int 0])), (a1, .inr (6, [.ref a2, .int 0, .int 0])), (a2, .inl (cA 0, 240, .inl e2)), (a3, .inl (cA 0, 10, .inl e3)), (a4, .inl (cA 0, 10, .inl e4)), (a5, .inl (cA 0, 10, .inl e5)), (a6, .inl (cA 0, 10, .inl e6)), (p0, .inr (7, [.int 0, .int 365, .int 0, .int 0, .ref p1, .int 0, .ref p2, .ref p3, .ref p4, .ref p5, .int 0, .ref p6, .int 0, .ref p7, .ref p8, .ref p9, .int 0])), (oo, .inl (cA 1, 1, .inr (.inl fo)))] sz)) 0 0 (va_A [(h0, .inr (10, [.ref b0, .int 0, .ref p0, .ref u0, .ref r0, .ref a0, .ref t0, .ref s0, .ref o0])), (s0, .inr (5, [.ref s1, .int 0, .int 0])), (s1, .inl (cA 5, 10, .inr (.inr (.inr (.inr FR))))), (m0, .inr (4, [x0, .ref m1, .ref m3, .ref m4, .ref m5, .ref m6, x6, x7, x8, x9, x10, x11, x12, x13, x14, x15, x16, x17, x18, x19])), (m1, .inr (6, [.ref m2, .int n2, .int k2])), (m2, .inl (cA 0, 240, .inl q2)), (m3, .inl (cA 0, 10, .inl q3)), (m4, .inl (cA 0, 10, .inl q4)), (m5, .inl (cA 0, 10, .inl q5)), (m6, .inl (cA 0, 10, .inl q6)), (a0, .inr (4, [.ref p0, .ref a1, .ref a3, .ref a4, .ref a5, .ref a6, .int 0, .int 0, .int 0, .long 0, .long 0, .long 0, .int 0, .int 0, .int 0, .int 0, .int 365, .int 0, .int 0, .int 0])), (a1, .inr (6, [.ref a2, .int 0, .int 0])), (a2, .inl (cA 0, 240, .inl e2)), (a3, .inl (cA 0, 10, .inl e3)), (a4, .inl (cA 0, 10, .inl e4)), (a5, .inl (cA 0, 10, .inl e5)), (a6, .inl (cA 0, 10, .inl e6)), (p0, .inr (7, [.int 0, .int 365, .int 0, .int 0, .ref p1, .int 0, .ref p2, .ref p3, .ref p4, .ref p5, .int 0, .ref p6, .int 0, .ref p7, .ref p8, .ref p9, .int 0])), (oo, .inl (cA 1, 1, .inr (.inl fo)))] sz) := by
  refine va_MetW (cc := cL_setGrace) (maxL := 4) (ret := (some .int)) (hh := [(0, 9, 12, 13)]) (by decide) rfl ?_
  intro p e s m args below meth c s₁ B hml hv
  obtain ⟨rfl, hsz, hP, hK, hD0, hC, hZ⟩ := hv
  have hx := B.exec
  have hb := B.bytes
  have hr := B.returns
  have hts := atoms_spec (ws := wsL_setGrace) B.pre
  have hown : s.vm.findClass RL = some m.cls := findClass_of_methodNamed B.named
  have hlocks := B.notSynchronized
  have htab := vx_table (x := yL_setGrace) B (hts (.codeWith yL_setGrace cL_setGrace 4 (some .int) [(0, 9, 12, 13)]) List.mem_cons_self)
  subst hsz
  have hD := hD0.self (sz := s.heap.size)
  generalize hAe : va_A [(h0, .inr (10, [.ref b0, .int 0, .ref p0, .ref u0, .ref r0, .ref a0, .ref t0, .ref s0, .ref o0])), (s0, .inr (5, [.ref s1, .int 0, .int 0])), (s1, .inl (cA 5, 10, .inr (.inr (.inr (.inr FR))))), (m0, .inr (4, [x0, .ref m1, .ref m3, .ref m4, .ref m5, .ref m6, x6, x7, x8, x9, x10, x11, x12, x13, x14, x15, x16, x17, x18, x19])), (m1, .inr (6, [.ref m2, .int n2, .int k2])), (m2, .inl (cA 0, 240, .inl q2)), (m3, .inl (cA 0, 10, .inl q3)), (m4, .inl (cA 0, 10, .inl q4)), (m5, .inl (cA 0, 10, .inl q5)), (m6, .inl (cA 0, 10, .inl q6)), (a0, .inr (4, [.ref p0, .ref a1, .ref a3, .ref a4, .ref a5, .ref a6, .int 0, .int 0, .int 0, .long 0, .long 0, .long 0, .int 0, .int 0, .int 0, .int 0, .int 365, .int 0, .int 0, .int 0])), (a1, .inr (6, [.ref a2, .int 0, .int 0])), (a2, .inl (cA 0, 240, .inl e2)), (a3, .inl (cA 0, 10, .inl e3)), (a4, .inl (cA 0, 10, .inl e4)), (a5, .inl (cA 0, 10, .inl e5)), (a6, .inl (cA 0, 10, .inl e6)), (p0, .inr (7, [.int 0, .int 365, .int 0, .int 0, .ref p1, .int 0, .ref p2, .ref p3, .ref p4, .ref p5, .int 0, .ref p6, .int 0, .ref p7, .ref p8, .ref p9, .int 0])), (oo, .inl (cA 1, 1, .inr (.inl fo)))] s.heap.size = A at hD hZ ⊢
  have hA : ∀ q : Nat, s.heap.size ≤ q → A q := fun q h => by rw [← hAe]; exact Or.inr h
  have hS : va_S A s.heap s.heap [] := va_S.rf
  have hP : va_P D vwCl [(h0, .inr (10, [.ref b0, .int 0, .ref p0, .ref u0, .ref r0, .ref a0, .ref t0, .ref s0, .ref o0])), (s0, .inr (5, [.ref s1, .int 0, .int 0])), (s1, .inl (cA 5, 10, .inr (.inr (.inr (.inr FR))))), (m0, .inr (4, [x0, .ref m1, .ref m3, .ref m4, .ref m5, .ref m6, x6, x7, x8, x9, x10, x11, x12, x13, x14, x15, x16, x17, x18, x19])), (m1, .inr (6, [.ref m2, .int n2, .int k2])), (m2, .inl (cA 0, 240, .inl q2)), (m3, .inl (cA 0, 10, .inl q3)), (m4, .inl (cA 0, 10, .inl q4)), (m5, .inl (cA 0, 10, .inl q5)), (m6, .inl (cA 0, 10, .inl q6)), (a0, .inr (4, [.ref p0, .ref a1, .ref a3, .ref a4, .ref a5, .ref a6, .int 0, .int 0, .int 0, .long 0, .long 0, .long 0, .int 0, .int 0, .int 0, .int 0, .int 365, .int 0, .int 0, .int 0])), (a1, .inr (6, [.ref a2, .int 0, .int 0])), (a2, .inl (cA 0, 240, .inl e2)), (a3, .inl (cA 0, 10, .inl e3)), (a4, .inl (cA 0, 10, .inl e4)), (a5, .inl (cA 0, 10, .inl e5)), (a6, .inl (cA 0, 10, .inl e6)), (p0, .inr (7, [.int 0, .int 365, .int 0, .int 0, .ref p1, .int 0, .ref p2, .ref p3, .ref p4, .ref p5, .int 0, .ref p6, .int 0, .ref p7, .ref p8, .ref p9, .int 0])), (oo, .inl (cA 1, 1, .inr (.inl fo)))] s.heap := hP
  have hl := lv_entry ([.ref h0, .int a, .ref oo]) (n := 4) (Nat.le_of_ble_eq_true rfl)
  rw [lg_entry_eq]
  generalize (lg_sl ([.ref h0, .int a, .ref oo]) ++ List.replicate (4 - (lg_sl ([.ref h0, .int a, .ref oo])).length) Slot.unset).toArray = ls at hl ⊢
  have hl : lv_has ls 4 [(0, .ref h0), (1, .int a), (2, .ref oo)] := hl
  refine lv_aload_n hx hb dL_setGrace_0 rfl (lv_at hl 2 rfl) ?_
  refine lv_iconst (v := 0) hx hb dL_setGrace_1 (by decide) ?_
  refine lv_aload_n hx hb dL_setGrace_2 rfl (lv_at hl 0 rfl) ?_
  refine lv_iload_n hx hb dL_setGrace_3 rfl (lv_at hl 1 rfl) ?_
  have hPc := hP.sub (ws' := [(h0, .inr (10, [.ref b0, .int 0, .ref p0, .ref u0, .ref r0, .ref a0, .ref t0, .ref s0, .ref o0])), (s0, .inr (5, [.ref s1, .int 0, .int 0])), (s1, .inl (cA 5, 10, .inr (.inr (.inr (.inr FR))))), (m0, .inr (4, [x0, .ref m1, .ref m3, .ref m4, .ref m5, .ref m6, x6, x7, x8, x9, x10, x11, x12, x13, x14, x15, x16, x17, x18, x19])), (m1, .inr (6, [.ref m2, .int n2, .int k2])), (m2, .inl (cA 0, 240, .inl q2)), (m3, .inl (cA 0, 10, .inl q3)), (m4, .inl (cA 0, 10, .inl q4)), (m5, .inl (cA 0, 10, .inl q5)), (m6, .inl (cA 0, 10, .inl q6)), (a0, .inr (4, [.ref p0, .ref a1, .ref a3, .ref a4, .ref a5, .ref a6, .int 0, .int 0, .int 0, .long 0, .long 0, .long 0, .int 0, .int 0, .int 0, .int 0, .int 365, .int 0, .int 0, .int 0])), (a1, .inr (6, [.ref a2, .int 0, .int 0])), (a2, .inl (cA 0, 240, .inl e2)), (a3, .inl (cA 0, 10, .inl e3)), (a4, .inl (cA 0, 10, .inl e4)), (a5, .inl (cA 0, 10, .inl e5)), (a6, .inl (cA 0, 10, .inl e6)), (p0, .inr (7, [.int 0, .int 365, .int 0, .int 0, .ref p1, .int 0, .ref p2, .ref p3, .ref p4, .ref p5, .int 0, .ref p6, .int 0, .ref p7, .ref p8, .ref p9, .int 0]))]) [0, 1, 2, 3, 4, 5, 6, 7, 8, 9, 10, 11, 12, 13, 14, 15, 16, 17] rfl
  have hDc := hD.sub (ws' := [(h0, .inr (10, [.ref b0, .int 0, .ref p0, .ref u0, .ref r0, .ref a0, .ref t0, .ref s0, .ref o0])), (s0, .inr (5, [.ref s1, .int 0, .int 0])), (s1, .inl (cA 5, 10, .inr (.inr (.inr (.inr FR))))), (m0, .inr (4, [x0, .ref m1, .ref m3, .ref m4, .ref m5, .ref m6, x6, x7, x8, x9, x10, x11, x12, x13, x14, x15, x16, x17, x18, x19])), (m1, .inr (6, [.ref m2, .int n2, .int k2])), (m2, .inl (cA 0, 240, .inl q2)), (m3, .inl (cA 0, 10, .inl q3)), (m4, .inl (cA 0, 10, .inl q4)), (m5, .inl (cA 0, 10, .inl q5)), (m6, .inl (cA 0, 10, .inl q6)), (a0, .inr (4, [.ref p0, .ref a1, .ref a3, .ref a4, .ref a5, .ref a6, .int 0, .int 0, .int 0, .long 0, .long 0, .long 0, .int 0, .int 0, .int 0, .int 0, .int 365, .int 0, .int 0, .int 0])), (a1, .inr (6, [.ref a2, .int 0, .int 0])), (a2, .inl (cA 0, 240, .inl e2)), (a3, .inl (cA 0, 10, .inl e3)), (a4, .inl (cA 0, 10, .inl e4)), (a5, .inl (cA 0, 10, .inl e5)), (a6, .inl (cA 0, 10, .inl e6)), (p0, .inr (7, [.int 0, .int 365, .int 0, .int 0, .ref p1, .int 0, .ref p2, .ref p3, .ref p4, .ref p5, .int 0, .ref p6, .int 0, .ref p7, .ref p8, .ref p9, .int 0]))]) [0, 1, 2, 3, 4, 5, 6, 7, 8, 9, 10, 11, 12, 13, 14, 15, 16, 17] (by decide) rfl
  have hFc := va_free (wc := [(h0, .inr (10, [.ref b0, .int 0, .ref p0, .ref u0, .ref r0, .ref a0, .ref t0, .ref s0, .ref o0])), (s0, .inr (5, [.ref s1, .int 0, .int 0])), (s1, .inl (cA 5, 10, .inr (.inr (.inr (.inr FR))))), (m0, .inr (4, [x0, .ref m1, .ref m3, .ref m4, .ref m5, .ref m6, x6, x7, x8, x9, x10, x11, x12, x13, x14, x15, x16, x17, x18, x19])), (m1, .inr (6, [.ref m2, .int n2, .int k2])), (m2, .inl (cA 0, 240, .inl q2)), (m3, .inl (cA 0, 10, .inl q3)), (m4, .inl (cA 0, 10, .inl q4)), (m5, .inl (cA 0, 10, .inl q5)), (m6, .inl (cA 0, 10, .inl q6)), (a0, .inr (4, [.ref p0, .ref a1, .ref a3, .ref a4, .ref a5, .ref a6, .int 0, .int 0, .int 0, .long 0, .long 0, .long 0, .int 0, .int 0, .int 0, .int 0, .int 365, .int 0, .int 0, .int 0])), (a1, .inr (6, [.ref a2, .int 0, .int 0])), (a2, .inl (cA 0, 240, .inl e2)), (a3, .inl (cA 0, 10, .inl e3)), (a4, .inl (cA 0, 10, .inl e4)), (a5, .inl (cA 0, 10, .inl e5)), (a6, .inl (cA 0, 10, .inl e6)), (p0, .inr (7, [.int 0, .int 365, .int 0, .int 0, .ref p1, .int 0, .ref p2, .ref p3, .ref p4, .ref p5, .int 0, .ref p6, .int 0, .ref p7, .ref p8, .ref p9, .int 0]))]) hD hS hA [0, 1, 2, 3, 4, 5, 6, 7, 8, 9, 10, 11, 12, 13, 14, 15, 16, 17] rfl
  refine va_calli (va_runV (As := [.int a]) (rest := [.int 0, .ref oo]) ⟨hx, hb, hml, hown, hts⟩ (c_setGrace_ret l D cA sa h0 b0 p0 u0 r0 a0 t0 s0 o0 s1 m0 m1 m2 m3 m4 m5 m6 a1 a2 a3 a4 a5 a6 p1 p2 p3 p4 p5 p6 p7 p8 p9 x0 x6 x7 x8 x9 x10 x11 x12 x13 x14 x15 x16 x17 x18 x19 n2 k2 q2 q3 q4 q5 q6 e2 e3 e4 e5 e6 FR a s.heap.size hF h1 h2) (cwV 1 hts gL_setGrace_X9_setGrace rfl rfl rfl (by decide +kernel) ⟨(Nat.le_of_ble_eq_true rfl), (Nat.le_of_ble_eq_true rfl)⟩) ⟨Wd.blind, va_recv hK hPc (ci := 10) (q0 := 0) rfl rfl, fun U hU hW => ⟨rfl, Wd.call hPc hDc hK hC hZ hS hFc U hU hW⟩⟩ rfl rfl hl.1 rfl (lv_room (Nat.le_of_ble_eq_true rfl)) dL_setGrace_4 ⟨(Nat.le_of_ble_eq_true rfl), (Nat.le_of_ble_eq_true rfl)⟩) hS (fun q _ h => hFc q h) hFc (fun rn1 u t H1 locs ht hvm hw hB hz1 hk1 hS => ?_)
  obtain ⟨hP1, hD1⟩ := hB
  rw [ht] at hP1
  obtain ⟨hP, hD⟩ := va_join (wr := [(oo, .inl (cA 1, 1, .inr (.inl fo)))]) (w1 := []) hP hD [0, 1, 2, 3, 4, 5, 6, 7, 8, 9, 10, 11, 12, 13, 14, 15, 16, 17] [18] rfl rfl (by decide) (by decide) hk1 hFc hP1 hD1
  generalize H1 = H at hP hS ⊢
  have hP : va_P D vwCl [(oo, .inl (cA 1, 1, .inr (.inl fo)))] H := hP
  have hD : va_D A [(oo, .inl (cA 1, 1, .inr (.inl fo)))] := hD
  obtain rfl : rn1 = 0 := hw
  refine lv_i2l (v := 0) hx hb dL_setGrace_7 (by decide) ?_
  refine va_last hx hb hK hP hD hS 0 1 rfl rfl (vp_in_iff.mpr (by decide)) dL_setGrace_8 (fun H locs hP hD hS => ?_)
  have hP : va_P D vwCl [(oo, .inl (cA 1, 1, .inr (.inl (vp_updL fo 0 0))))] H := hP
  have hD : va_D A [(oo, .inl (cA 1, 1, .inr (.inl (vp_updL fo 0 0))))] := hD
  refine lv_goto (tgt := 15) hx hb dL_setGrace_9 (by decide) ?_
  refine lv_iconst (v := 0) hx hb dL_setGrace_15 (by decide) ?_
  have hP9 := hP.sub (ws' := [(oo, .inl (cA 1, 1, .inr (.inl (vp_updL fo 0 0))))]) [0] rfl
  have hD9 := hD.sub (ws' := [(oo, .inl (cA 1, 1, .inr (.inl (vp_updL fo 0 0))))]) [0] (by decide) rfl
  refine W.widen (k := 0) (n := 0) (Nat.le_of_ble_eq_true rfl) (Nat.le_of_ble_eq_true rfl) ?_
  exact W.iret (v := 0) hx hb hr (fun t ht hW => ⟨⟨0, (), rfl, rfl, by rw [ht]; exact hP9, hD9⟩, hS.F ht⟩) hS.2.2 dL_setGrace_16

set_option maxHeartbeats 4000000 in
set_option maxRecDepth 100000 in
/-- the wrapper of setGrace -/
theorem c_L_setGrace_thr (l : Launch) (D : va_G) (cA : Nat → ClassId) (sa : Nat → Nat) (h0 b0 p0 u0 r0 a0 t0 s0 o0 : Nat) (a : Int32) (oo : Nat) (fo : Nat → Int64) (sz : Nat) (hl9 : l.stackTraces = false) (h : a < 0 ∨ 60 < a) : Met l yL_setGrace wsL_setGrace ({ frames := 8, cells := 1, slots := 6, locals := 134 }) (va_Pc [.ref h0, .int a, .ref oo] (Wd D cA sa [(h0, .inr (10, [.ref b0, .int 0, .ref p0, .ref u0, .ref r0, .ref a0, .ref t0, .ref s0, .ref o0])), (oo, .inl (cA 1, 1, .inr (.inl fo)))] sz)) (va_Qi (fun (r : Int32) (_ : Unit) => r = 1) (fun (_ : Unit) t => Wq D (va_A [(h0, .inr (10, [.ref b0, .int 0, .ref p0, .ref u0, .ref r0, .ref a0, .ref t0, .ref s0, .ref o0])), (oo, .inl (cA 1, 1, .inr (.inl fo)))] sz) [] t) (va_A [(h0, .inr (10, [.ref b0, .int 0, .ref p0, .ref u0, .ref r0, .ref a0, .ref t0, .ref s0, .ref o0])), (oo, .inl (cA 1, 1, .inr (.inl fo)))] sz)) 1 6 (va_A [(h0, .inr (10, [.ref b0, .int 0, .ref p0, .ref u0, .ref r0, .ref a0, .ref t0, .ref s0, .ref o0])), (oo, .inl (cA 1, 1, .inr (.inl fo)))] sz) := by
  refine va_MetW (cc := cL_setGrace) (maxL := 4) (ret := (some .int)) (hh := [(0, 9, 12, 13)]) (by decide) rfl ?_
  intro p e s m args below meth c s₁ B hml hv
  obtain ⟨rfl, hsz, hP, hK, hD0, hC, hZ⟩ := hv
  have hx := B.exec
  have hb := B.bytes
  have hr := B.returns
  have hts := atoms_spec (ws := wsL_setGrace) B.pre
  have hown : s.vm.findClass RL = some m.cls := findClass_of_methodNamed B.named
  have hlocks := B.notSynchronized
  have htab := vx_table (x := yL_setGrace) B (hts (.codeWith yL_setGrace cL_setGrace 4 (some .int) [(0, 9, 12, 13)]) List.mem_cons_self)
  subst hsz
  have hD := hD0.self (sz := s.heap.size)
  generalize hAe : va_A [(h0, .inr (10, [.ref b0, .int 0, .ref p0, .ref u0, .ref r0, .ref a0, .ref t0, .ref s0, .ref o0])), (oo, .inl (cA 1, 1, .inr (.inl fo)))] s.heap.size = A at hD hZ ⊢
  have hA : ∀ q : Nat, s.heap.size ≤ q → A q := fun q h => by rw [← hAe]; exact Or.inr h
  have hS : va_S A s.heap s.heap [] := va_S.rf
  have hP : va_P D vwCl [(h0, .inr (10, [.ref b0, .int 0, .ref p0, .ref u0, .ref r0, .ref a0, .ref t0, .ref s0, .ref o0])), (oo, .inl (cA 1, 1, .inr (.inl fo)))] s.heap := hP
  have hl := lv_entry ([.ref h0, .int a, .ref oo]) (n := 4) (Nat.le_of_ble_eq_true rfl)
  rw [lg_entry_eq]
  generalize (lg_sl ([.ref h0, .int a, .ref oo]) ++ List.replicate (4 - (lg_sl ([.ref h0, .int a, .ref oo])).length) Slot.unset).toArray = ls at hl ⊢
  have hl : lv_has ls 4 [(0, .ref h0), (1, .int a), (2, .ref oo)] := hl
  refine lv_aload_n hx hb dL_setGrace_0 rfl (lv_at hl 2 rfl) ?_
  refine lv_iconst (v := 0) hx hb dL_setGrace_1 (by decide) ?_
  refine lv_aload_n hx hb dL_setGrace_2 rfl (lv_at hl 0 rfl) ?_
  refine lv_iload_n hx hb dL_setGrace_3 rfl (lv_at hl 1 rfl) ?_
  have hPc := hP.sub (ws' := [(h0, .inr (10, [.ref b0, .int 0, .ref p0, .ref u0, .ref r0, .ref a0, .ref t0, .ref s0, .ref o0]))]) [0] rfl
  have hDc := hD.sub (ws' := [(h0, .inr (10, [.ref b0, .int 0, .ref p0, .ref u0, .ref r0, .ref a0, .ref t0, .ref s0, .ref o0]))]) [0] (by decide) rfl
  have hFc := va_free (wc := [(h0, .inr (10, [.ref b0, .int 0, .ref p0, .ref u0, .ref r0, .ref a0, .ref t0, .ref s0, .ref o0]))]) hD hS hA [0] rfl
  refine vx_calli (vx_runV (As := [.int a]) (rest := [.int 0, .ref oo]) ⟨hx, hb, hml, hown, hts⟩ (c_setGrace_thr l D cA sa h0 b0 p0 u0 r0 a0 t0 s0 o0 a s.heap.size hl9 h) (cwV 1 hts gL_setGrace_X9_setGrace rfl rfl rfl (by decide +kernel) ⟨(Nat.le_of_ble_eq_true rfl), (Nat.le_of_ble_eq_true rfl)⟩) ⟨Wd.blind, va_recv hK hPc (ci := 10) (q0 := 0) rfl rfl, fun U hU hW => ⟨rfl, Wd.call hPc hDc hK hC hZ hS hFc U hU hW⟩⟩ rfl rfl hl.1 rfl (lv_room (Nat.le_of_ble_eq_true rfl)) dL_setGrace_4 ⟨(Nat.le_of_ble_eq_true rfl), (Nat.le_of_ble_eq_true rfl)⟩) hS (fun q _ h => hFc q h) hFc (fun q _ h => hFc q h) (fun E ce q9 u t H1 locs ht hvm hpx hE hz1 hk1 hS hcell hv9 hcl => ?_) (fun r9 u t H1 locs ht hvm hw hB hz1 hk1 hS => hw.elim)
  have hE : E = "java/lang/IllegalArgumentException" := hE
  subst hE
  refine vx_catch hown [] ⟨0, 9, 12, 13⟩ (tableOf []) (htab.trans rfl) (fun z h => absurd h List.not_mem_nil) (by decide) (by decide) (name := "java/lang/IllegalArgumentException") (hts (.classLink RL 13 "java/lang/IllegalArgumentException") (by decide +kernel)) (hC.c (by decide +kernel)) hcell hv9 hcl ?_
  generalize H1 = H at hS ⊢
  have hP : va_P D vwCl [] H := fun k q h => by simp at h
  have hD : va_D A [] := ⟨fun i j p q h => by simp at h, fun k q h => by simp at h⟩
  refine lv_astore_n (lv' := [(3, .ref q9), (0, .ref h0), (1, .int a), (2, .ref oo)]) hx hb dL_setGrace_12 rfl hl (by decide) rfl (fun ls hl => ?_)
  refine lv_iconst (v := 1) hx hb dL_setGrace_13 (by decide) ?_
  have hP9 := hP.sub (ws' := []) [] rfl
  have hD9 := hD.sub (ws' := []) [] (by decide) rfl
  refine W.widen (k := 1) (n := 6) (Nat.le_of_ble_eq_true rfl) (Nat.le_of_ble_eq_true rfl) ?_
  exact W.iret (v := 1) hx hb hr (fun t ht hW => ⟨⟨1, (), rfl, rfl, by rw [ht]; exact hP9, hD9⟩, hS.F ht⟩) hS.2.2 dL_setGrace_14

set_option maxHeartbeats 4000000 in
set_option maxRecDepth 100000 in
/-- the wrapper of pass -/
theorem c_L_pass_ret (l : Launch) (D : va_G) (cA : Nat → ClassId) (sa : Nat → Nat) (h0 b0 p0 u0 r0 a0 t0 s0 o0 s1 m0 m1 m2 m3 m4 m5 m6 a1 a2 a3 a4 a5 a6 p1 p2 p3 p4 p5 p6 p7 p8 p9 : Nat) (x0 x6 x7 x8 x9 x10 x11 x12 x13 x14 x15 x16 x17 x18 x19 : Value) (n2 k2 : Int32) (q2 q3 q4 q5 q6 e2 e3 e4 e5 e6 : Nat → Int32) (FR : Nat → Option Nat) (N : Nat) (oo : Nat) (fo : Nat → Int64) (sz : Nat) (hF : FR 0 = some m0) (hN1 : 1 ≤ N) (hN : N ≤ 120) : Met l yL_pass wsL_pass ({ frames := 5, cells := 0, slots := 0, locals := 145 }) (va_Pc [.ref h0, .int (nI N), .ref oo] (Wd D cA sa [(h0, .inr (10, [.ref b0, .int 0, .ref p0, .ref u0, .ref r0, .ref a0, .ref t0, .ref s0, .ref o0])), (s0, .inr (5, [.ref s1, .int 0, .int 0])), (s1, .inl (cA 5, 10, .inr (.inr (.inr (.inr FR))))), (m0, .inr (4, [x0, .ref m1, .ref m3, .ref m4, .ref m5, .ref m6, x6, x7, x8, x9, x10, x11, x12, x13, x14, x15, x16, x17, x18, x19])), (m1, .inr (6, [.ref m2, .int n2, .int k2])), (m2, .inl (cA 0, 240, .inl q2)), (m3, .inl (cA 0, 10, .inl q3)), (m4, .inl (cA 0, 10, .inl q4)), (m5, .inl (cA 0, 10, .inl q5)), (m6, .inl (cA 0, 10, .inl q6)), (a0, .inr (4, [.ref p0, .ref a1, .ref a3, .ref a4, .ref a5, .ref a6, .int 0, .int 0, .int 0, .long 0, .long 0, .long 0, .int 0, .int 0, .int 0, .int 0, .int 365, .int 0, .int 0, .int 0])), (a1, .inr (6, [.ref a2, .int 0, .int 0])), (a2, .inl (cA 0, 240, .inl e2)), (a3, .inl (cA 0, 10, .inl e3)), (a4, .inl (cA 0, 10, .inl e4)), (a5, .inl (cA 0, 10, .inl e5)), (a6, .inl (cA 0, 10, .inl e6)), (p0, .inr (7, [.int 0, .int 365, .int 0, .int 0, .ref p1, .int 0, .ref p2, .ref p3, .ref p4, .ref p5, .int 0, .ref p6, .int 0, .ref p7, .ref p8, .ref p9, .int 0])), (oo, .inl (cA 1, 1, .inr (.inl fo)))] sz)) (va_Qi (fun (r : Int32) (_ : Unit) => r = 0) (fun (_ : Unit) t => Wq D (va_A [(h0, .inr (10, [.ref b0, .int 0, .ref p0, .ref u0, .ref r0, .ref a0, .ref t0, .ref s0, .ref o0])), (s0, .inr (5, [.ref s1, .int 0, .int 0])), (s1, .inl (cA 5, 10, .inr (.inr (.inr (.inr FR))))), (m0, .inr (4, [x0, .ref m1, .ref m3, .ref m4, .ref m5, .ref m6, x6, x7, x8, x9, x10, x11, x12, x13, x14, x15, x16, x17, x18, x19])), (m1, .inr (6, [.ref m2, .int n2, .int k2])), (m2, .inl (cA 0, 240, .inl q2)), (m3, .inl (cA 0, 10, .inl q3)), (m4, .inl (cA 0, 10, .inl q4)), (m5, .inl (cA 0, 10, .inl q5)), (m6, .inl (cA 0, 10, .inl q6)), (a0, .inr (4, [.ref p0, .ref a1, .ref a3, .ref a4, .ref a5, .ref a6, .int 0, .int 0, .int 0, .long 0, .long 0, .long 0, .int 0, .int 0, .int 0, .int 0, .int 365, .int 0, .int 0, .int 0])), (a1, .inr (6, [.ref a2, .int 0, .int 0])), (a2, .inl (cA 0, 240, .inl e2)), (a3, .inl (cA 0, 10, .inl e3)), (a4, .inl (cA 0, 10, .inl e4)), (a5, .inl (cA 0, 10, .inl e5)), (a6, .inl (cA 0, 10, .inl e6)), (p0, .inr (7, [.int 0, .int 365, .int 0, .int 0, .ref p1, .int 0, .ref p2, .ref p3, .ref p4, .ref p5, .int 0, .ref p6, .int 0, .ref p7, .ref p8, .ref p9, .int 0])), (oo, .inl (cA 1, 1, .inr (.inl fo)))] sz) [(oo, .inl (cA 1, 1, .inr (.inl (vp_updL fo 0 0))))] t) (va_A [(h0, .inr (10, [.ref b0, .int 0, .ref p0, .ref u0, .ref r0, .ref a0, .ref t0, .ref s0, .ref o0])), (s0, .inr (5, [.ref s1, .int 0, .int 0])), (s1, .inl (cA 5, 10, .inr (.inr (.inr (.inr FR))))), (m0, .inr (4, [x0, .ref m1, .ref m3, .ref m4, .ref m5, .ref m6, x6, x7, x8, x9, x10, x11, x12, x13, x14, x15, x16, x17, x18, x19])), (m1, .inr (6, [.ref m2, .int n2, .int k2])), (m2, .inl (cA 0, 240, .inl q2)), (m3, .inl (cA 0, 10, .inl q3)), (m4, .inl (cA 0, 10, .inl q4)), (m5, .inl (cA 0, 10, .inl q5)), (m6, .inl (cA 0, 10, .inl q6)), (a0, .inr (4, [.ref p0, .ref a1, .ref a3, .ref a4, .ref a5, .ref a6, .int 0, .int 0, .int 0, .long 0, .long 0, .long 0, .int 0, .int 0, .int 0, .int 0, .int 365, .int 0, .int 0, .int 0])), (a1, .inr (6, [.ref a2, .int 0, .int 0])), (a2, .inl (cA 0, 240, .inl e2)), (a3, .inl (cA 0, 10, .inl e3)), (a4, .inl (cA 0, 10, .inl e4)), (a5, .inl (cA 0, 10, .inl e5)), (a6, .inl (cA 0, 10, .inl e6)), (p0, .inr (7, [.int 0, .int 365, .int 0, .int 0, .ref p1, .int 0, .ref p2, .ref p3, .ref p4, .ref p5, .int 0, .ref p6, .int 0, .ref p7, .ref p8, .ref p9, .int 0])), (oo, .inl (cA 1, 1, .inr (.inl fo)))] sz)) 0 0 (va_A [(h0, .inr (10, [.ref b0, .int 0, .ref p0, .ref u0, .ref r0, .ref a0, .ref t0, .ref s0, .ref o0])), (s0, .inr (5, [.ref s1, .int 0, .int 0])), (s1, .inl (cA 5, 10, .inr (.inr (.inr (.inr FR))))), (m0, .inr (4, [x0, .ref m1, .ref m3, .ref m4, .ref m5, .ref m6, x6, x7, x8, x9, x10, x11, x12, x13, x14, x15, x16, x17, x18, x19])), (m1, .inr (6, [.ref m2, .int n2, .int k2])), (m2, .inl (cA 0, 240, .inl q2)), (m3, .inl (cA 0, 10, .inl q3)), (m4, .inl (cA 0, 10, .inl q4)), (m5, .inl (cA 0, 10, .inl q5)), (m6, .inl (cA 0, 10, .inl q6)), (a0, .inr (4, [.ref p0, .ref a1, .ref a3, .ref a4, .ref a5, .ref a6, .int 0, .int 0, .int 0, .long 0, .long 0, .long 0, .int 0, .int 0, .int 0, .int 0, .int 365, .int 0, .int 0, .int 0])), (a1, .inr (6, [.ref a2, .int 0, .int 0])), (a2, .inl (cA 0, 240, .inl e2)), (a3, .inl (cA 0, 10, .inl e3)), (a4, .inl (cA 0, 10, .inl e4)), (a5, .inl (cA 0, 10, .inl e5)), (a6, .inl (cA 0, 10, .inl e6)), (p0, .inr (7, [.int 0, .int 365, .int 0, .int 0, .ref p1, .int 0, .ref p2, .ref p3, .ref p4, .ref p5, .int 0, .ref p6, .int 0, .ref p7, .ref p8, .ref p9, .int 0])), (oo, .inl (cA 1, 1, .inr (.inl fo)))] sz) := by
  refine va_MetW (cc := cL_pass) (maxL := 4) (ret := (some .int)) (hh := [(0, 9, 12, 13), (0, 9, 15, 75)]) (by decide) rfl ?_
  intro p e s m args below meth c s₁ B hml hv
  obtain ⟨rfl, hsz, hP, hK, hD0, hC, hZ⟩ := hv
  have hx := B.exec
  have hb := B.bytes
  have hr := B.returns
  have hts := atoms_spec (ws := wsL_pass) B.pre
  have hown : s.vm.findClass RL = some m.cls := findClass_of_methodNamed B.named
  have hlocks := B.notSynchronized
  have htab := vx_table (x := yL_pass) B (hts (.codeWith yL_pass cL_pass 4 (some .int) [(0, 9, 12, 13), (0, 9, 15, 75)]) List.mem_cons_self)
  subst hsz
  have hD := hD0.self (sz := s.heap.size)
  generalize hAe : va_A [(h0, .inr (10, [.ref b0, .int 0, .ref p0, .ref u0, .ref r0, .ref a0, .ref t0, .ref s0, .ref o0])), (s0, .inr (5, [.ref s1, .int 0, .int 0])), (s1, .inl (cA 5, 10, .inr (.inr (.inr (.inr FR))))), (m0, .inr (4, [x0, .ref m1, .ref m3, .ref m4, .ref m5, .ref m6, x6, x7, x8, x9, x10, x11, x12, x13, x14, x15, x16, x17, x18, x19])), (m1, .inr (6, [.ref m2, .int n2, .int k2])), (m2, .inl (cA 0, 240, .inl q2)), (m3, .inl (cA 0, 10, .inl q3)), (m4, .inl (cA 0, 10, .inl q4)), (m5, .inl (cA 0, 10, .inl q5)), (m6, .inl (cA 0, 10, .inl q6)), (a0, .inr (4, [.ref p0, .ref a1, .ref a3, .ref a4, .ref a5, .ref a6, .int 0, .int 0, .int 0, .long 0, .long 0, .long 0, .int 0, .int 0, .int 0, .int 0, .int 365, .int 0, .int 0, .int 0])), (a1, .inr (6, [.ref a2, .int 0, .int 0])), (a2, .inl (cA 0, 240, .inl e2)), (a3, .inl (cA 0, 10, .inl e3)), (a4, .inl (cA 0, 10, .inl e4)), (a5, .inl (cA 0, 10, .inl e5)), (a6, .inl (cA 0, 10, .inl e6)), (p0, .inr (7, [.int 0, .int 365, .int 0, .int 0, .ref p1, .int 0, .ref p2, .ref p3, .ref p4, .ref p5, .int 0, .ref p6, .int 0, .ref p7, .ref p8, .ref p9, .int 0])), (oo, .inl (cA 1, 1, .inr (.inl fo)))] s.heap.size = A at hD hZ ⊢
  have hA : ∀ q : Nat, s.heap.size ≤ q → A q := fun q h => by rw [← hAe]; exact Or.inr h
  have hS : va_S A s.heap s.heap [] := va_S.rf
  have hP : va_P D vwCl [(h0, .inr (10, [.ref b0, .int 0, .ref p0, .ref u0, .ref r0, .ref a0, .ref t0, .ref s0, .ref o0])), (s0, .inr (5, [.ref s1, .int 0, .int 0])), (s1, .inl (cA 5, 10, .inr (.inr (.inr (.inr FR))))), (m0, .inr (4, [x0, .ref m1, .ref m3, .ref m4, .ref m5, .ref m6, x6, x7, x8, x9, x10, x11, x12, x13, x14, x15, x16, x17, x18, x19])), (m1, .inr (6, [.ref m2, .int n2, .int k2])), (m2, .inl (cA 0, 240, .inl q2)), (m3, .inl (cA 0, 10, .inl q3)), (m4, .inl (cA 0, 10, .inl q4)), (m5, .inl (cA 0, 10, .inl q5)), (m6, .inl (cA 0, 10, .inl q6)), (a0, .inr (4, [.ref p0, .ref a1, .ref a3, .ref a4, .ref a5, .ref a6, .int 0, .int 0, .int 0, .long 0, .long 0, .long 0, .int 0, .int 0, .int 0, .int 0, .int 365, .int 0, .int 0, .int 0])), (a1, .inr (6, [.ref a2, .int 0, .int 0])), (a2, .inl (cA 0, 240, .inl e2)), (a3, .inl (cA 0, 10, .inl e3)), (a4, .inl (cA 0, 10, .inl e4)), (a5, .inl (cA 0, 10, .inl e5)), (a6, .inl (cA 0, 10, .inl e6)), (p0, .inr (7, [.int 0, .int 365, .int 0, .int 0, .ref p1, .int 0, .ref p2, .ref p3, .ref p4, .ref p5, .int 0, .ref p6, .int 0, .ref p7, .ref p8, .ref p9, .int 0])), (oo, .inl (cA 1, 1, .inr (.inl fo)))] s.heap := hP
  have hl := lv_entry ([.ref h0, .int (nI N), .ref oo]) (n := 4) (Nat.le_of_ble_eq_true rfl)
  rw [lg_entry_eq]
  generalize (lg_sl ([.ref h0, .int (nI N), .ref oo]) ++ List.replicate (4 - (lg_sl ([.ref h0, .int (nI N), .ref oo])).length) Slot.unset).toArray = ls at hl ⊢
  have hl : lv_has ls 4 [(0, .ref h0), (1, .int (nI N)), (2, .ref oo)] := hl
  refine lv_aload_n hx hb dL_pass_0 rfl (lv_at hl 2 rfl) ?_
  refine lv_iconst (v := 0) hx hb dL_pass_1 (by decide) ?_
  refine lv_aload_n hx hb dL_pass_2 rfl (lv_at hl 0 rfl) ?_
  refine lv_iload_n hx hb dL_pass_3 rfl (lv_at hl 1 rfl) ?_
  have hPc := hP.sub (ws' := [(h0, .inr (10, [.ref b0, .int 0, .ref p0, .ref u0, .ref r0, .ref a0, .ref t0, .ref s0, .ref o0])), (s0, .inr (5, [.ref s1, .int 0, .int 0])), (s1, .inl (cA 5, 10, .inr (.inr (.inr (.inr FR))))), (m0, .inr (4, [x0, .ref m1, .ref m3, .ref m4, .ref m5, .ref m6, x6, x7, x8, x9, x10, x11, x12, x13, x14, x15, x16, x17, x18, x19])), (m1, .inr (6, [.ref m2, .int n2, .int k2])), (m2, .inl (cA 0, 240, .inl q2)), (m3, .inl (cA 0, 10, .inl q3)), (m4, .inl (cA 0, 10, .inl q4)), (m5, .inl (cA 0, 10, .inl q5)), (m6, .inl (cA 0, 10, .inl q6)), (a0, .inr (4, [.ref p0, .ref a1, .ref a3, .ref a4, .ref a5, .ref a6, .int 0, .int 0, .int 0, .long 0, .long 0, .long 0, .int 0, .int 0, .int 0, .int 0, .int 365, .int 0, .int 0, .int 0])), (a1, .inr (6, [.ref a2, .int 0, .int 0])), (a2, .inl (cA 0, 240, .inl e2)), (a3, .inl (cA 0, 10, .inl e3)), (a4, .inl (cA 0, 10, .inl e4)), (a5, .inl (cA 0, 10, .inl e5)), (a6, .inl (cA 0, 10, .inl e6)), (p0, .inr (7, [.int 0, .int 365, .int 0, .int 0, .ref p1, .int 0, .ref p2, .ref p3, .ref p4, .ref p5, .int 0, .ref p6, .int 0, .ref p7, .ref p8, .ref p9, .int 0]))]) [0, 1, 2, 3, 4, 5, 6, 7, 8, 9, 10, 11, 12, 13, 14, 15, 16, 17] rfl
  have hDc := hD.sub (ws' := [(h0, .inr (10, [.ref b0, .int 0, .ref p0, .ref u0, .ref r0, .ref a0, .ref t0, .ref s0, .ref o0])), (s0, .inr (5, [.ref s1, .int 0, .int 0])), (s1, .inl (cA 5, 10, .inr (.inr (.inr (.inr FR))))), (m0, .inr (4, [x0, .ref m1, .ref m3, .ref m4, .ref m5, .ref m6, x6, x7, x8, x9, x10, x11, x12, x13, x14, x15, x16, x17, x18, x19])), (m1, .inr (6, [.ref m2, .int n2, .int k2])), (m2, .inl (cA 0, 240, .inl q2)), (m3, .inl (cA 0, 10, .inl q3)), (m4, .inl (cA 0, 10, .inl q4)), (m5, .inl (cA 0, 10, .inl q5)), (m6, .inl (cA 0, 10, .inl q6)), (a0, .inr (4, [.ref p0, .ref a1, .ref a3, .ref a4, .ref a5, .ref a6, .int 0, .int 0, .int 0, .long 0, .long 0, .long 0, .int 0, .int 0, .int 0, .int 0, .int 365, .int 0, .int 0, .int 0])), (a1, .inr (6, [.ref a2, .int 0, .int 0])), (a2, .inl (cA 0, 240, .inl e2)), (a3, .inl (cA 0, 10, .inl e3)), (a4, .inl (cA 0, 10, .inl e4)), (a5, .inl (cA 0, 10, .inl e5)), (a6, .inl (cA 0, 10, .inl e6)), (p0, .inr (7, [.int 0, .int 365, .int 0, .int 0, .ref p1, .int 0, .ref p2, .ref p3, .ref p4, .ref p5, .int 0, .ref p6, .int 0, .ref p7, .ref p8, .ref p9, .int 0]))]) [0, 1, 2, 3, 4, 5, 6, 7, 8, 9, 10, 11, 12, 13, 14, 15, 16, 17] (by decide) rfl
  have hFc := va_free (wc := [(h0, .inr (10, [.ref b0, .int 0, .ref p0, .ref u0, .ref r0, .ref a0, .ref t0, .ref s0, .ref o0])), (s0, .inr (5, [.ref s1, .int 0, .int 0])), (s1, .inl (cA 5, 10, .inr (.inr (.inr (.inr FR))))), (m0, .inr (4, [x0, .ref m1, .ref m3, .ref m4, .ref m5, .ref m6, x6, x7, x8, x9, x10, x11, x12, x13, x14, x15, x16, x17, x18, x19])), (m1, .inr (6, [.ref m2, .int n2, .int k2])), (m2, .inl (cA 0, 240, .inl q2)), (m3, .inl (cA 0, 10, .inl q3)), (m4, .inl (cA 0, 10, .inl q4)), (m5, .inl (cA 0, 10, .inl q5)), (m6, .inl (cA 0, 10, .inl q6)), (a0, .inr (4, [.ref p0, .ref a1, .ref a3, .ref a4, .ref a5, .ref a6, .int 0, .int 0, .int 0, .long 0, .long 0, .long 0, .int 0, .int 0, .int 0, .int 0, .int 365, .int 0, .int 0, .int 0])), (a1, .inr (6, [.ref a2, .int 0, .int 0])), (a2, .inl (cA 0, 240, .inl e2)), (a3, .inl (cA 0, 10, .inl e3)), (a4, .inl (cA 0, 10, .inl e4)), (a5, .inl (cA 0, 10, .inl e5)), (a6, .inl (cA 0, 10, .inl e6)), (p0, .inr (7, [.int 0, .int 365, .int 0, .int 0, .ref p1, .int 0, .ref p2, .ref p3, .ref p4, .ref p5, .int 0, .ref p6, .int 0, .ref p7, .ref p8, .ref p9, .int 0]))]) hD hS hA [0, 1, 2, 3, 4, 5, 6, 7, 8, 9, 10, 11, 12, 13, 14, 15, 16, 17] rfl
  refine va_calli (va_runV (As := [.int (nI N)]) (rest := [.int 0, .ref oo]) ⟨hx, hb, hml, hown, hts⟩ (c_pass_ret l D cA sa h0 b0 p0 u0 r0 a0 t0 s0 o0 s1 m0 m1 m2 m3 m4 m5 m6 a1 a2 a3 a4 a5 a6 p1 p2 p3 p4 p5 p6 p7 p8 p9 x0 x6 x7 x8 x9 x10 x11 x12 x13 x14 x15 x16 x17 x18 x19 n2 k2 q2 q3 q4 q5 q6 e2 e3 e4 e5 e6 FR N s.heap.size hF hN1 hN) (cwV 1 hts gL_pass_X9_pass rfl rfl rfl (by decide +kernel) ⟨(Nat.le_of_ble_eq_true rfl), (Nat.le_of_ble_eq_true rfl)⟩) ⟨Wd.blind, va_recv hK hPc (ci := 10) (q0 := 0) rfl rfl, fun U hU hW => ⟨rfl, Wd.call hPc hDc hK hC hZ hS hFc U hU hW⟩⟩ rfl rfl hl.1 rfl (lv_room (Nat.le_of_ble_eq_true rfl)) dL_pass_4 ⟨(Nat.le_of_ble_eq_true rfl), (Nat.le_of_ble_eq_true rfl)⟩) hS (fun q _ h => hFc q h) hFc (fun rn1 u t H1 locs ht hvm hw hB hz1 hk1 hS => ?_)
  obtain ⟨hP1, hD1⟩ := hB
  rw [ht] at hP1
  obtain ⟨hP, hD⟩ := va_join (wr := [(oo, .inl (cA 1, 1, .inr (.inl fo)))]) (w1 := []) hP hD [0, 1, 2, 3, 4, 5, 6, 7, 8, 9, 10, 11, 12, 13, 14, 15, 16, 17] [18] rfl rfl (by decide) (by decide) hk1 hFc hP1 hD1
  generalize H1 = H at hP hS ⊢
  have hP : va_P D vwCl [(oo, .inl (cA 1, 1, .inr (.inl fo)))] H := hP
  have hD : va_D A [(oo, .inl (cA 1, 1, .inr (.inl fo)))] := hD
  obtain rfl : rn1 = 0 := hw
  refine lv_i2l (v := 0) hx hb dL_pass_7 (by decide) ?_
  refine va_last hx hb hK hP hD hS 0 1 rfl rfl (vp_in_iff.mpr (by decide)) dL_pass_8 (fun H locs hP hD hS => ?_)
  have hP : va_P D vwCl [(oo, .inl (cA 1, 1, .inr (.inl (vp_updL fo 0 0))))] H := hP
  have hD : va_D A [(oo, .inl (cA 1, 1, .inr (.inl (vp_updL fo 0 0))))] := hD
  refine lv_goto (tgt := 18) hx hb dL_pass_9 (by decide) ?_
  refine lv_iconst (v := 0) hx hb dL_pass_18 (by decide) ?_
  have hP9 := hP.sub (ws' := [(oo, .inl (cA 1, 1, .inr (.inl (vp_updL fo 0 0))))]) [0] rfl
  have hD9 := hD.sub (ws' := [(oo, .inl (cA 1, 1, .inr (.inl (vp_updL fo 0 0))))]) [0] (by decide) rfl
  refine W.widen (k := 0) (n := 0) (Nat.le_of_ble_eq_true rfl) (Nat.le_of_ble_eq_true rfl) ?_
  exact W.iret (v := 0) hx hb hr (fun t ht hW => ⟨⟨0, (), rfl, rfl, by rw [ht]; exact hP9, hD9⟩, hS.F ht⟩) hS.2.2 dL_pass_19

set_option maxHeartbeats 4000000 in
set_option maxRecDepth 100000 in
/-- the wrapper of pass -/
theorem c_L_pass_thr (l : Launch) (D : va_G) (cA : Nat → ClassId) (sa : Nat → Nat) (h0 b0 p0 u0 r0 a0 t0 s0 o0 : Nat) (a : Int32) (oo : Nat) (fo : Nat → Int64) (sz : Nat) (hl9 : l.stackTraces = false) (h : a < 1 ∨ 120 < a) : Met l yL_pass wsL_pass ({ frames := 8, cells := 1, slots := 6, locals := 134 }) (va_Pc [.ref h0, .int a, .ref oo] (Wd D cA sa [(h0, .inr (10, [.ref b0, .int 0, .ref p0, .ref u0, .ref r0, .ref a0, .ref t0, .ref s0, .ref o0])), (oo, .inl (cA 1, 1, .inr (.inl fo)))] sz)) (va_Qi (fun (r : Int32) (_ : Unit) => r = 1) (fun (_ : Unit) t => Wq D (va_A [(h0, .inr (10, [.ref b0, .int 0, .ref p0, .ref u0, .ref r0, .ref a0, .ref t0, .ref s0, .ref o0])), (oo, .inl (cA 1, 1, .inr (.inl fo)))] sz) [] t) (va_A [(h0, .inr (10, [.ref b0, .int 0, .ref p0, .ref u0, .ref r0, .ref a0, .ref t0, .ref s0, .ref o0])), (oo, .inl (cA 1, 1, .inr (.inl fo)))] sz)) 1 6 (va_A [(h0, .inr (10, [.ref b0, .int 0, .ref p0, .ref u0, .ref r0, .ref a0, .ref t0, .ref s0, .ref o0])), (oo, .inl (cA 1, 1, .inr (.inl fo)))] sz) := by
  refine va_MetW (cc := cL_pass) (maxL := 4) (ret := (some .int)) (hh := [(0, 9, 12, 13), (0, 9, 15, 75)]) (by decide) rfl ?_
  intro p e s m args below meth c s₁ B hml hv
  obtain ⟨rfl, hsz, hP, hK, hD0, hC, hZ⟩ := hv
  have hx := B.exec
  have hb := B.bytes
  have hr := B.returns
  have hts := atoms_spec (ws := wsL_pass) B.pre
  have hown : s.vm.findClass RL = some m.cls := findClass_of_methodNamed B.named
  have hlocks := B.notSynchronized
  have htab := vx_table (x := yL_pass) B (hts (.codeWith yL_pass cL_pass 4 (some .int) [(0, 9, 12, 13), (0, 9, 15, 75)]) List.mem_cons_self)
  subst hsz
  have hD := hD0.self (sz := s.heap.size)
  generalize hAe : va_A [(h0, .inr (10, [.ref b0, .int 0, .ref p0, .ref u0, .ref r0, .ref a0, .ref t0, .ref s0, .ref o0])), (oo, .inl (cA 1, 1, .inr (.inl fo)))] s.heap.size = A at hD hZ ⊢
  have hA : ∀ q : Nat, s.heap.size ≤ q → A q := fun q h => by rw [← hAe]; exact Or.inr h
  have hS : va_S A s.heap s.heap [] := va_S.rf
  have hP : va_P D vwCl [(h0, .inr (10, [.ref b0, .int 0, .ref p0, .ref u0, .ref r0, .ref a0, .ref t0, .ref s0, .ref o0])), (oo, .inl (cA 1, 1, .inr (.inl fo)))] s.heap := hP
  have hl := lv_entry ([.ref h0, .int a, .ref oo]) (n := 4) (Nat.le_of_ble_eq_true rfl)
  rw [lg_entry_eq]
  generalize (lg_sl ([.ref h0, .int a, .ref oo]) ++ List.replicate (4 - (lg_sl ([.ref h0, .int a, .ref oo])).length) Slot.unset).toArray = ls at hl ⊢
  have hl : lv_has ls 4 [(0, .ref h0), (1, .int a), (2, .ref oo)] := hl
  refine lv_aload_n hx hb dL_pass_0 rfl (lv_at hl 2 rfl) ?_
  refine lv_iconst (v := 0) hx hb dL_pass_1 (by decide) ?_
  refine lv_aload_n hx hb dL_pass_2 rfl (lv_at hl 0 rfl) ?_
  refine lv_iload_n hx hb dL_pass_3 rfl (lv_at hl 1 rfl) ?_
  have hPc := hP.sub (ws' := [(h0, .inr (10, [.ref b0, .int 0, .ref p0, .ref u0, .ref r0, .ref a0, .ref t0, .ref s0, .ref o0]))]) [0] rfl
  have hDc := hD.sub (ws' := [(h0, .inr (10, [.ref b0, .int 0, .ref p0, .ref u0, .ref r0, .ref a0, .ref t0, .ref s0, .ref o0]))]) [0] (by decide) rfl
  have hFc := va_free (wc := [(h0, .inr (10, [.ref b0, .int 0, .ref p0, .ref u0, .ref r0, .ref a0, .ref t0, .ref s0, .ref o0]))]) hD hS hA [0] rfl
  refine vx_calli (vx_runV (As := [.int a]) (rest := [.int 0, .ref oo]) ⟨hx, hb, hml, hown, hts⟩ (c_pass_thr l D cA sa h0 b0 p0 u0 r0 a0 t0 s0 o0 a s.heap.size hl9 h) (cwV 1 hts gL_pass_X9_pass rfl rfl rfl (by decide +kernel) ⟨(Nat.le_of_ble_eq_true rfl), (Nat.le_of_ble_eq_true rfl)⟩) ⟨Wd.blind, va_recv hK hPc (ci := 10) (q0 := 0) rfl rfl, fun U hU hW => ⟨rfl, Wd.call hPc hDc hK hC hZ hS hFc U hU hW⟩⟩ rfl rfl hl.1 rfl (lv_room (Nat.le_of_ble_eq_true rfl)) dL_pass_4 ⟨(Nat.le_of_ble_eq_true rfl), (Nat.le_of_ble_eq_true rfl)⟩) hS (fun q _ h => hFc q h) hFc (fun q _ h => hFc q h) (fun E ce q9 u t H1 locs ht hvm hpx hE hz1 hk1 hS hcell hv9 hcl => ?_) (fun r9 u t H1 locs ht hvm hw hB hz1 hk1 hS => hw.elim)
  have hE : E = "java/lang/IllegalArgumentException" := hE
  subst hE
  refine vx_catch hown [] ⟨0, 9, 12, 13⟩ (tableOf [(0, 9, 15, 75)]) (htab.trans rfl) (fun z h => absurd h List.not_mem_nil) (by decide) (by decide) (name := "java/lang/IllegalArgumentException") (hts (.classLink RL 13 "java/lang/IllegalArgumentException") (by decide +kernel)) (hC.c (by decide +kernel)) hcell hv9 hcl ?_
  generalize H1 = H at hS ⊢
  have hP : va_P D vwCl [] H := fun k q h => by simp at h
  have hD : va_D A [] := ⟨fun i j p q h => by simp at h, fun k q h => by simp at h⟩
  refine lv_astore_n (lv' := [(3, .ref q9), (0, .ref h0), (1, .int a), (2, .ref oo)]) hx hb dL_pass_12 rfl hl (by decide) rfl (fun ls hl => ?_)
  refine lv_iconst (v := 1) hx hb dL_pass_13 (by decide) ?_
  have hP9 := hP.sub (ws' := []) [] rfl
  have hD9 := hD.sub (ws' := []) [] (by decide) rfl
  refine W.widen (k := 1) (n := 6) (Nat.le_of_ble_eq_true rfl) (Nat.le_of_ble_eq_true rfl) ?_
  exact W.iret (v := 1) hx hb hr (fun t ht hW => ⟨⟨1, (), rfl, rfl, by rw [ht]; exact hP9, hD9⟩, hS.F ht⟩) hS.2.2 dL_pass_14

set_option maxHeartbeats 4000000 in
set_option maxRecDepth 100000 in
/-- the wrapper of totalOn -/
theorem c_L_totalOn_ret (l : Launch) (D : va_G) (cA : Nat → ClassId) (sa : Nat → Nat) (h0 b0 p0 u0 r0 a0 t0 s0 o0 a1 a3 a4 a5 a6 a2 : Nat) (i j : Int32) (oo : Nat) (fo : Nat → Int64) (sz : Nat) (h1 : ¬ j < 0) (h2 : ¬ 4 < j) : Met l yL_totalOn wsL_totalOn ({ frames := 2, cells := 0, slots := 0, locals := 46 }) (va_Pc [.ref h0, .int i, .int j, .ref oo] (Wd D cA sa [(h0, .inr (10, [.ref b0, .int 0, .ref p0, .ref u0, .ref r0, .ref a0, .ref t0, .ref s0, .ref o0])), (a0, .inr (4, [.ref p0, .ref a1, .ref a3, .ref a4, .ref a5, .ref a6, .int 0, .int 0, .int 0, .long 0, .long 0, .long 0, .int 0, .int 0, .int 0, .int 0, .int 365, .int 0, .int 0, .int 0])), (a1, .inr (6, [.ref a2, .int 0, .int 0])), (oo, .inl (cA 1, 1, .inr (.inl fo)))] sz)) (va_Qi (fun (r : Int32) (_ : Unit) => r = 0) (fun (_ : Unit) t => Wq D (va_A [(h0, .inr (10, [.ref b0, .int 0, .ref p0, .ref u0, .ref r0, .ref a0, .ref t0, .ref s0, .ref o0])), (a0, .inr (4, [.ref p0, .ref a1, .ref a3, .ref a4, .ref a5, .ref a6, .int 0, .int 0, .int 0, .long 0, .long 0, .long 0, .int 0, .int 0, .int 0, .int 0, .int 365, .int 0, .int 0, .int 0])), (a1, .inr (6, [.ref a2, .int 0, .int 0])), (oo, .inl (cA 1, 1, .inr (.inl fo)))] sz) [(oo, .inl (cA 1, 1, .inr (.inl (vp_updL fo 0 0))))] t) (va_A [(h0, .inr (10, [.ref b0, .int 0, .ref p0, .ref u0, .ref r0, .ref a0, .ref t0, .ref s0, .ref o0])), (a0, .inr (4, [.ref p0, .ref a1, .ref a3, .ref a4, .ref a5, .ref a6, .int 0, .int 0, .int 0, .long 0, .long 0, .long 0, .int 0, .int 0, .int 0, .int 0, .int 365, .int 0, .int 0, .int 0])), (a1, .inr (6, [.ref a2, .int 0, .int 0])), (oo, .inl (cA 1, 1, .inr (.inl fo)))] sz)) 0 0 (va_A [(h0, .inr (10, [.ref b0, .int 0, .ref p0, .ref u0, .ref r0, .ref a0, .ref t0, .ref s0, .ref o0])), (a0, .inr (4, [.ref p0, .ref a1, .ref a3, .ref a4, .ref a5, .ref a6, .int 0, .int 0, .int 0, .long 0, .long 0, .long 0, .int 0, .int 0, .int 0, .int 0, .int 365, .int 0, .int 0, .int 0])), (a1, .inr (6, [.ref a2, .int 0, .int 0])), (oo, .inl (cA 1, 1, .inr (.inl fo)))] sz) := by
  refine va_MetW (cc := cL_totalOn) (maxL := 5) (ret := (some .int)) (hh := [(0, 10, 13, 13)]) (by decide) rfl ?_
  intro p e s m args below meth c s₁ B hml hv
  obtain ⟨rfl, hsz, hP, hK, hD0, hC, hZ⟩ := hv
  have hx := B.exec
  have hb := B.bytes
  have hr := B.returns
  have hts := atoms_spec (ws := wsL_totalOn) B.pre
  have hown : s.vm.findClass RL = some m.cls := findClass_of_methodNamed B.named
  have hlocks := B.notSynchronized
  have htab := vx_table (x := yL_totalOn) B (hts (.codeWith yL_totalOn cL_totalOn 5 (some .int) [(0, 10, 13, 13)]) List.mem_cons_self)
  subst hsz
  have hD := hD0.self (sz := s.heap.size)
  generalize hAe : va_A [(h0, .inr (10, [.ref b0, .int 0, .ref p0, .ref u0, .ref r0, .ref a0, .ref t0, .ref s0, .ref o0])), (a0, .inr (4, [.ref p0, .ref a1, .ref a3, .ref a4, .ref a5, .ref a6, .int 0, .int 0, .int 0, .long 0, .long 0, .long 0, .int 0, .int 0, .int 0, .int 0, .int 365, .int 0, .int 0, .int 0])), (a1, .inr (6, [.ref a2, .int 0, .int 0])), (oo, .inl (cA 1, 1, .inr (.inl fo)))] s.heap.size = A at hD hZ ⊢
  have hA : ∀ q : Nat, s.heap.size ≤ q → A q := fun q h => by rw [← hAe]; exact Or.inr h
  have hS : va_S A s.heap s.heap [] := va_S.rf
  have hP : va_P D vwCl [(h0, .inr (10, [.ref b0, .int 0, .ref p0, .ref u0, .ref r0, .ref a0, .ref t0, .ref s0, .ref o0])), (a0, .inr (4, [.ref p0, .ref a1, .ref a3, .ref a4, .ref a5, .ref a6, .int 0, .int 0, .int 0, .long 0, .long 0, .long 0, .int 0, .int 0, .int 0, .int 0, .int 365, .int 0, .int 0, .int 0])), (a1, .inr (6, [.ref a2, .int 0, .int 0])), (oo, .inl (cA 1, 1, .inr (.inl fo)))] s.heap := hP
  have hl := lv_entry ([.ref h0, .int i, .int j, .ref oo]) (n := 5) (Nat.le_of_ble_eq_true rfl)
  rw [lg_entry_eq]
  generalize (lg_sl ([.ref h0, .int i, .int j, .ref oo]) ++ List.replicate (5 - (lg_sl ([.ref h0, .int i, .int j, .ref oo])).length) Slot.unset).toArray = ls at hl ⊢
  have hl : lv_has ls 5 [(0, .ref h0), (1, .int i), (2, .int j), (3, .ref oo)] := hl
  refine lv_aload_n hx hb dL_totalOn_0 rfl (lv_at hl 3 rfl) ?_
  refine lv_iconst (v := 0) hx hb dL_totalOn_1 (by decide) ?_
  refine lv_aload_n hx hb dL_totalOn_2 rfl (lv_at hl 0 rfl) ?_
  refine lv_iload_n hx hb dL_totalOn_3 rfl (lv_at hl 1 rfl) ?_
  refine lv_iload_n hx hb dL_totalOn_4 rfl (lv_at hl 2 rfl) ?_
  have hPc := hP.sub (ws' := [(h0, .inr (10, [.ref b0, .int 0, .ref p0, .ref u0, .ref r0, .ref a0, .ref t0, .ref s0, .ref o0])), (a0, .inr (4, [.ref p0, .ref a1, .ref a3, .ref a4, .ref a5, .ref a6, .int 0, .int 0, .int 0, .long 0, .long 0, .long 0, .int 0, .int 0, .int 0, .int 0, .int 365, .int 0, .int 0, .int 0])), (a1, .inr (6, [.ref a2, .int 0, .int 0]))]) [0, 1, 2] rfl
  have hDc := hD.sub (ws' := [(h0, .inr (10, [.ref b0, .int 0, .ref p0, .ref u0, .ref r0, .ref a0, .ref t0, .ref s0, .ref o0])), (a0, .inr (4, [.ref p0, .ref a1, .ref a3, .ref a4, .ref a5, .ref a6, .int 0, .int 0, .int 0, .long 0, .long 0, .long 0, .int 0, .int 0, .int 0, .int 0, .int 365, .int 0, .int 0, .int 0])), (a1, .inr (6, [.ref a2, .int 0, .int 0]))]) [0, 1, 2] (by decide) rfl
  have hFc := va_free (wc := [(h0, .inr (10, [.ref b0, .int 0, .ref p0, .ref u0, .ref r0, .ref a0, .ref t0, .ref s0, .ref o0])), (a0, .inr (4, [.ref p0, .ref a1, .ref a3, .ref a4, .ref a5, .ref a6, .int 0, .int 0, .int 0, .long 0, .long 0, .long 0, .int 0, .int 0, .int 0, .int 0, .int 365, .int 0, .int 0, .int 0])), (a1, .inr (6, [.ref a2, .int 0, .int 0]))]) hD hS hA [0, 1, 2] rfl
  refine va_calli (va_runV (As := [.int i, .int j]) (rest := [.int 0, .ref oo]) ⟨hx, hb, hml, hown, hts⟩ (c_totalOn_ret l D cA sa h0 b0 p0 u0 r0 a0 t0 s0 o0 a1 a3 a4 a5 a6 a2 i j s.heap.size h1 h2) (cwV 2 hts gL_totalOn_X9_totalOn rfl rfl rfl (by decide +kernel) ⟨(Nat.le_of_ble_eq_true rfl), (Nat.le_of_ble_eq_true rfl)⟩) ⟨Wd.blind, va_recv hK hPc (ci := 10) (q0 := 0) rfl rfl, fun U hU hW => ⟨rfl, Wd.call hPc hDc hK hC hZ hS hFc U hU hW⟩⟩ rfl rfl hl.1 rfl (lv_room (Nat.le_of_ble_eq_true rfl)) dL_totalOn_5 ⟨(Nat.le_of_ble_eq_true rfl), (Nat.le_of_ble_eq_true rfl)⟩) hS (fun q _ h => hFc q h) hFc (fun rn1 u t H1 locs ht hvm hw hB hz1 hk1 hS => ?_)
  obtain ⟨hP1, hD1⟩ := hB
  rw [ht] at hP1
  obtain ⟨hP, hD⟩ := va_join (wr := [(oo, .inl (cA 1, 1, .inr (.inl fo)))]) (w1 := []) hP hD [0, 1, 2] [3] rfl rfl (by decide) (by decide) hk1 hFc hP1 hD1
  generalize H1 = H at hP hS ⊢
  have hP : va_P D vwCl [(oo, .inl (cA 1, 1, .inr (.inl fo)))] H := hP
  have hD : va_D A [(oo, .inl (cA 1, 1, .inr (.inl fo)))] := hD
  obtain rfl : rn1 = 0 := hw
  refine lv_i2l (v := 0) hx hb dL_totalOn_8 (by decide) ?_
  refine va_last hx hb hK hP hD hS 0 1 rfl rfl (vp_in_iff.mpr (by decide)) dL_totalOn_9 (fun H locs hP hD hS => ?_)
  have hP : va_P D vwCl [(oo, .inl (cA 1, 1, .inr (.inl (vp_updL fo 0 0))))] H := hP
  have hD : va_D A [(oo, .inl (cA 1, 1, .inr (.inl (vp_updL fo 0 0))))] := hD
  refine lv_goto (tgt := 17) hx hb dL_totalOn_10 (by decide) ?_
  refine lv_iconst (v := 0) hx hb dL_totalOn_17 (by decide) ?_
  have hP9 := hP.sub (ws' := [(oo, .inl (cA 1, 1, .inr (.inl (vp_updL fo 0 0))))]) [0] rfl
  have hD9 := hD.sub (ws' := [(oo, .inl (cA 1, 1, .inr (.inl (vp_updL fo 0 0))))]) [0] (by decide) rfl
  refine W.widen (k := 0) (n := 0) (Nat.le_of_ble_eq_true rfl) (Nat.le_of_ble_eq_true rfl) ?_
  exact W.iret (v := 0) hx hb hr (fun t ht hW => ⟨⟨0, (), rfl, rfl, by rw [ht]; exact hP9, hD9⟩, hS.F ht⟩) hS.2.2 dL_totalOn_18

set_option maxHeartbeats 4000000 in
set_option maxRecDepth 100000 in
/-- the wrapper of totalOn -/
theorem c_L_totalOn_thr (l : Launch) (D : va_G) (cA : Nat → ClassId) (sa : Nat → Nat) (h0 b0 p0 u0 r0 a0 t0 s0 o0 a1 a3 a4 a5 a6 a2 : Nat) (i j : Int32) (oo : Nat) (fo : Nat → Int64) (sz : Nat) (hl9 : l.stackTraces = false) (h : j < 0 ∨ 4 < j) : Met l yL_totalOn wsL_totalOn ({ frames := 8, cells := 1, slots := 6, locals := 134 }) (va_Pc [.ref h0, .int i, .int j, .ref oo] (Wd D cA sa [(h0, .inr (10, [.ref b0, .int 0, .ref p0, .ref u0, .ref r0, .ref a0, .ref t0, .ref s0, .ref o0])), (a0, .inr (4, [.ref p0, .ref a1, .ref a3, .ref a4, .ref a5, .ref a6, .int 0, .int 0, .int 0, .long 0, .long 0, .long 0, .int 0, .int 0, .int 0, .int 0, .int 365, .int 0, .int 0, .int 0])), (a1, .inr (6, [.ref a2, .int 0, .int 0])), (oo, .inl (cA 1, 1, .inr (.inl fo)))] sz)) (va_Qi (fun (r : Int32) (_ : Unit) => r = 1) (fun (_ : Unit) t => Wq D (va_A [(h0, .inr (10, [.ref b0, .int 0, .ref p0, .ref u0, .ref r0, .ref a0, .ref t0, .ref s0, .ref o0])), (a0, .inr (4, [.ref p0, .ref a1, .ref a3, .ref a4, .ref a5, .ref a6, .int 0, .int 0, .int 0, .long 0, .long 0, .long 0, .int 0, .int 0, .int 0, .int 0, .int 365, .int 0, .int 0, .int 0])), (a1, .inr (6, [.ref a2, .int 0, .int 0])), (oo, .inl (cA 1, 1, .inr (.inl fo)))] sz) [] t) (va_A [(h0, .inr (10, [.ref b0, .int 0, .ref p0, .ref u0, .ref r0, .ref a0, .ref t0, .ref s0, .ref o0])), (a0, .inr (4, [.ref p0, .ref a1, .ref a3, .ref a4, .ref a5, .ref a6, .int 0, .int 0, .int 0, .long 0, .long 0, .long 0, .int 0, .int 0, .int 0, .int 0, .int 365, .int 0, .int 0, .int 0])), (a1, .inr (6, [.ref a2, .int 0, .int 0])), (oo, .inl (cA 1, 1, .inr (.inl fo)))] sz)) 1 6 (va_A [(h0, .inr (10, [.ref b0, .int 0, .ref p0, .ref u0, .ref r0, .ref a0, .ref t0, .ref s0, .ref o0])), (a0, .inr (4, [.ref p0, .ref a1, .ref a3, .ref a4, .ref a5, .ref a6, .int 0, .int 0, .int 0, .long 0, .long 0, .long 0, .int 0, .int 0, .int 0, .int 0, .int 365, .int 0, .int 0, .int 0])), (a1, .inr (6, [.ref a2, .int 0, .int 0])), (oo, .inl (cA 1, 1, .inr (.inl fo)))] sz) := by
  refine va_MetW (cc := cL_totalOn) (maxL := 5) (ret := (some .int)) (hh := [(0, 10, 13, 13)]) (by decide) rfl ?_
  intro p e s m args below meth c s₁ B hml hv
  obtain ⟨rfl, hsz, hP, hK, hD0, hC, hZ⟩ := hv
  have hx := B.exec
  have hb := B.bytes
  have hr := B.returns
  have hts := atoms_spec (ws := wsL_totalOn) B.pre
  have hown : s.vm.findClass RL = some m.cls := findClass_of_methodNamed B.named
  have hlocks := B.notSynchronized
  have htab := vx_table (x := yL_totalOn) B (hts (.codeWith yL_totalOn cL_totalOn 5 (some .int) [(0, 10, 13, 13)]) List.mem_cons_self)
  subst hsz
  have hD := hD0.self (sz := s.heap.size)
  generalize hAe : va_A [(h0, .inr (10, [.ref b0, .int 0, .ref p0, .ref u0, .ref r0, .ref a0, .ref t0, .ref s0, .ref o0])), (a0, .inr (4, [.ref p0, .ref a1, .ref a3, .ref a4, .ref a5, .ref a6, .int 0, .int 0, .int 0, .long 0, .long 0, .long 0, .int 0, .int 0, .int 0, .int 0, .int 365, .int 0, .int 0, .int 0])), (a1, .inr (6, [.ref a2, .int 0, .int 0])), (oo, .inl (cA 1, 1, .inr (.inl fo)))] s.heap.size = A at hD hZ ⊢
  have hA : ∀ q : Nat, s.heap.size ≤ q → A q := fun q h => by rw [← hAe]; exact Or.inr h
  have hS : va_S A s.heap s.heap [] := va_S.rf
  have hP : va_P D vwCl [(h0, .inr (10, [.ref b0, .int 0, .ref p0, .ref u0, .ref r0, .ref a0, .ref t0, .ref s0, .ref o0])), (a0, .inr (4, [.ref p0, .ref a1, .ref a3, .ref a4, .ref a5, .ref a6, .int 0, .int 0, .int 0, .long 0, .long 0, .long 0, .int 0, .int 0, .int 0, .int 0, .int 365, .int 0, .int 0, .int 0])), (a1, .inr (6, [.ref a2, .int 0, .int 0])), (oo, .inl (cA 1, 1, .inr (.inl fo)))] s.heap := hP
  have hl := lv_entry ([.ref h0, .int i, .int j, .ref oo]) (n := 5) (Nat.le_of_ble_eq_true rfl)
  rw [lg_entry_eq]
  generalize (lg_sl ([.ref h0, .int i, .int j, .ref oo]) ++ List.replicate (5 - (lg_sl ([.ref h0, .int i, .int j, .ref oo])).length) Slot.unset).toArray = ls at hl ⊢
  have hl : lv_has ls 5 [(0, .ref h0), (1, .int i), (2, .int j), (3, .ref oo)] := hl
  refine lv_aload_n hx hb dL_totalOn_0 rfl (lv_at hl 3 rfl) ?_
  refine lv_iconst (v := 0) hx hb dL_totalOn_1 (by decide) ?_
  refine lv_aload_n hx hb dL_totalOn_2 rfl (lv_at hl 0 rfl) ?_
  refine lv_iload_n hx hb dL_totalOn_3 rfl (lv_at hl 1 rfl) ?_
  refine lv_iload_n hx hb dL_totalOn_4 rfl (lv_at hl 2 rfl) ?_
  have hPc := hP.sub (ws' := [(h0, .inr (10, [.ref b0, .int 0, .ref p0, .ref u0, .ref r0, .ref a0, .ref t0, .ref s0, .ref o0])), (a0, .inr (4, [.ref p0, .ref a1, .ref a3, .ref a4, .ref a5, .ref a6, .int 0, .int 0, .int 0, .long 0, .long 0, .long 0, .int 0, .int 0, .int 0, .int 0, .int 365, .int 0, .int 0, .int 0])), (a1, .inr (6, [.ref a2, .int 0, .int 0]))]) [0, 1, 2] rfl
  have hDc := hD.sub (ws' := [(h0, .inr (10, [.ref b0, .int 0, .ref p0, .ref u0, .ref r0, .ref a0, .ref t0, .ref s0, .ref o0])), (a0, .inr (4, [.ref p0, .ref a1, .ref a3, .ref a4, .ref a5, .ref a6, .int 0, .int 0, .int 0, .long 0, .long 0, .long 0, .int 0, .int 0, .int 0, .int 0, .int 365, .int 0, .int 0, .int 0])), (a1, .inr (6, [.ref a2, .int 0, .int 0]))]) [0, 1, 2] (by decide) rfl
  have hFc := va_free (wc := [(h0, .inr (10, [.ref b0, .int 0, .ref p0, .ref u0, .ref r0, .ref a0, .ref t0, .ref s0, .ref o0])), (a0, .inr (4, [.ref p0, .ref a1, .ref a3, .ref a4, .ref a5, .ref a6, .int 0, .int 0, .int 0, .long 0, .long 0, .long 0, .int 0, .int 0, .int 0, .int 0, .int 365, .int 0, .int 0, .int 0])), (a1, .inr (6, [.ref a2, .int 0, .int 0]))]) hD hS hA [0, 1, 2] rfl
  refine vx_calli (vx_runV (As := [.int i, .int j]) (rest := [.int 0, .ref oo]) ⟨hx, hb, hml, hown, hts⟩ (c_totalOn_thr l D cA sa h0 b0 p0 u0 r0 a0 t0 s0 o0 a1 a3 a4 a5 a6 a2 i j s.heap.size hl9 h) (cwV 2 hts gL_totalOn_X9_totalOn rfl rfl rfl (by decide +kernel) ⟨(Nat.le_of_ble_eq_true rfl), (Nat.le_of_ble_eq_true rfl)⟩) ⟨Wd.blind, va_recv hK hPc (ci := 10) (q0 := 0) rfl rfl, fun U hU hW => ⟨rfl, Wd.call hPc hDc hK hC hZ hS hFc U hU hW⟩⟩ rfl rfl hl.1 rfl (lv_room (Nat.le_of_ble_eq_true rfl)) dL_totalOn_5 ⟨(Nat.le_of_ble_eq_true rfl), (Nat.le_of_ble_eq_true rfl)⟩) hS (fun q _ h => hFc q h) hFc (fun q _ h => hFc q h) (fun E ce q9 u t H1 locs ht hvm hpx hE hz1 hk1 hS hcell hv9 hcl => ?_) (fun r9 u t H1 locs ht hvm hw hB hz1 hk1 hS => hw.elim)
  have hE : E = "java/lang/IllegalArgumentException" := hE
  subst hE
  refine vx_catch hown [] ⟨0, 10, 13, 13⟩ (tableOf []) (htab.trans rfl) (fun z h => absurd h List.not_mem_nil) (by decide) (by decide) (name := "java/lang/IllegalArgumentException") (hts (.classLink RL 13 "java/lang/IllegalArgumentException") (by decide +kernel)) (hC.c (by decide +kernel)) hcell hv9 hcl ?_
  generalize H1 = H at hS ⊢
  have hP : va_P D vwCl [] H := fun k q h => by simp at h
  have hD : va_D A [] := ⟨fun i j p q h => by simp at h, fun k q h => by simp at h⟩
  refine lv_astore (lv' := [(4, .ref q9), (0, .ref h0), (1, .int i), (2, .int j), (3, .ref oo)]) hx hb dL_totalOn_13 hl (by decide) rfl (fun ls hl => ?_)
  refine lv_iconst (v := 1) hx hb dL_totalOn_15 (by decide) ?_
  have hP9 := hP.sub (ws' := []) [] rfl
  have hD9 := hD.sub (ws' := []) [] (by decide) rfl
  refine W.widen (k := 1) (n := 6) (Nat.le_of_ble_eq_true rfl) (Nat.le_of_ble_eq_true rfl) ?_
  exact W.iret (v := 1) hx hb hr (fun t ht hW => ⟨⟨1, (), rfl, rfl, by rw [ht]; exact hP9, hD9⟩, hS.F ht⟩) hS.2.2 dL_totalOn_16

set_option maxHeartbeats 4000000 in
set_option maxRecDepth 100000 in
/-- the wrapper of close -/
theorem c_L_close_ret (l : Launch) (D : va_G) (cA : Nat → ClassId) (sa : Nat → Nat) (h0 b0 p0 u0 r0 a0 t0 s0 o0 s1 m0 m1 m2 m3 m4 m5 m6 a1 a2 a3 a4 a5 a6 p1 p2 p3 p4 p5 p6 p7 p8 p9 : Nat) (x0 x6 x7 x8 x9 x10 x11 x12 x13 x14 x15 x16 x17 x18 x19 : Value) (n2 k2 : Int32) (q2 q3 q4 q5 q6 e2 e3 e4 e5 e6 : Nat → Int32) (FR : Nat → Option Nat) (oo : Nat) (fo : Nat → Int64) (sz : Nat) (hF : FR 0 = some m0) : Met l yL_close wsL_close ({ frames := 5, cells := 0, slots := 0, locals := 144 }) (va_Pc [.ref h0, .ref oo] (Wd D cA sa [(h0, .inr (10, [.ref b0, .int 0, .ref p0, .ref u0, .ref r0, .ref a0, .ref t0, .ref s0, .ref o0])), (s0, .inr (5, [.ref s1, .int 0, .int 0])), (s1, .inl (cA 5, 10, .inr (.inr (.inr (.inr FR))))), (m0, .inr (4, [x0, .ref m1, .ref m3, .ref m4, .ref m5, .ref m6, x6, x7, x8, x9, x10, x11, x12, x13, x14, x15, x16, x17, x18, x19])), (m1, .inr (6, [.ref m2, .int n2, .int k2])), (m2, .inl (cA 0, 240, .inl q2)), (m3, .inl (cA 0, 10, .inl q3)), (m4, .inl (cA 0, 10, .inl q4)), (m5, .inl (cA 0, 10, .inl q5)), (m6, .inl (cA 0, 10, .inl q6)), (a0, .inr (4, [.ref p0, .ref a1, .ref a3, .ref a4, .ref a5, .ref a6, .int 0, .int 0, .int 0, .long 0, .long 0, .long 0, .int 0, .int 0, .int 0, .int 0, .int 365, .int 0, .int 0, .int 0])), (a1, .inr (6, [.ref a2, .int 0, .int 0])), (a2, .inl (cA 0, 240, .inl e2)), (a3, .inl (cA 0, 10, .inl e3)), (a4, .inl (cA 0, 10, .inl e4)), (a5, .inl (cA 0, 10, .inl e5)), (a6, .inl (cA 0, 10, .inl e6)), (p0, .inr (7, [.int 0, .int 365, .int 0, .int 0, .ref p1, .int 0, .ref p2, .ref p3, .ref p4, .ref p5, .int 0, .ref p6, .int 0, .ref p7, .ref p8, .ref p9, .int 0])), (oo, .inl (cA 1, 1, .inr (.inl fo)))] sz)) (va_Qi (fun (r : Int32) (_ : Unit) => r = 0) (fun (_ : Unit) t => Wq D (va_A [(h0, .inr (10, [.ref b0, .int 0, .ref p0, .ref u0, .ref r0, .ref a0, .ref t0, .ref s0, .ref o0])), (s0, .inr (5, [.ref s1, .int 0, .int 0])), (s1, .inl (cA 5, 10, .inr (.inr (.inr (.inr FR))))), (m0, .inr (4, [x0, .ref m1, .ref m3, .ref m4, .ref m5, .ref m6, x6, x7, x8, x9, x10, x11, x12, x13, x14, x15, x16, x17, x18, x19])), (m1, .inr (6, [.ref m2, .int n2, .int k2])), (m2, .inl (cA 0, 240, .inl q2)), (m3, .inl (cA 0, 10, .inl q3)), (m4, .inl (cA 0, 10, .inl q4)), (m5, .inl (cA 0, 10, .inl q5)), (m6, .inl (cA 0, 10, .inl q6)), (a0, .inr (4, [.ref p0, .ref a1, .ref a3, .ref a4, .ref a5, .ref a6, .int 0, .int 0, .int 0, .long 0, .long 0, .long 0, .int 0, .int 0, .int 0, .int 0, .int 365, .int 0, .int 0, .int 0])), (a1, .inr (6, [.ref a2, .int 0, .int 0])), (a2, .inl (cA 0, 240, .inl e2)), (a3, .inl (cA 0, 10, .inl e3)), (a4, .inl (cA 0, 10, .inl e4)), (a5, .inl (cA 0, 10, .inl e5)), (a6, .inl (cA 0, 10, .inl e6)), (p0, .inr (7, [.int 0, .int 365, .int 0, .int 0, .ref p1, .int 0, .ref p2, .ref p3, .ref p4, .ref p5, .int 0, .ref p6, .int 0, .ref p7, .ref p8, .ref p9, .int 0])), (oo, .inl (cA 1, 1, .inr (.inl fo)))] sz) [(oo, .inl (cA 1, 1, .inr (.inl (vp_updL fo 0 0))))] t) (va_A [(h0, .inr (10, [.ref b0, .int 0, .ref p0, .ref u0, .ref r0, .ref a0, .ref t0, .ref s0, .ref o0])), (s0, .inr (5, [.ref s1, .int 0, .int 0])), (s1, .inl (cA 5, 10, .inr (.inr (.inr (.inr FR))))), (m0, .inr (4, [x0, .ref m1, .ref m3, .ref m4, .ref m5, .ref m6, x6, x7, x8, x9, x10, x11, x12, x13, x14, x15, x16, x17, x18, x19])), (m1, .inr (6, [.ref m2, .int n2, .int k2])), (m2, .inl (cA 0, 240, .inl q2)), (m3, .inl (cA 0, 10, .inl q3)), (m4, .inl (cA 0, 10, .inl q4)), (m5, .inl (cA 0, 10, .inl q5)), (m6, .inl (cA 0, 10, .inl q6)), (a0, .inr (4, [.ref p0, .ref a1, .ref a3, .ref a4, .ref a5, .ref a6, .int 0, .int 0, .int 0, .long 0, .long 0, .long 0, .int 0, .int 0, .int 0, .int 0, .int 365, .int 0, .int 0, .int 0])), (a1, .inr (6, [.ref a2, .int 0, .int 0])), (a2, .inl (cA 0, 240, .inl e2)), (a3, .inl (cA 0, 10, .inl e3)), (a4, .inl (cA 0, 10, .inl e4)), (a5, .inl (cA 0, 10, .inl e5)), (a6, .inl (cA 0, 10, .inl e6)), (p0, .inr (7, [.int 0, .int 365, .int 0, .int 0, .ref p1, .int 0, .ref p2, .ref p3, .ref p4, .ref p5, .int 0, .ref p6, .int 0, .ref p7, .ref p8, .ref p9, .int 0])), (oo, .inl (cA 1, 1, .inr (.inl fo)))] sz)) 0 0 (va_A [(h0, .inr (10, [.ref b0, .int 0, .ref p0, .ref u0, .ref r0, .ref a0, .ref t0, .ref s0, .ref o0])), (s0, .inr (5, [.ref s1, .int 0, .int 0])), (s1, .inl (cA 5, 10, .inr (.inr (.inr (.inr FR))))), (m0, .inr (4, [x0, .ref m1, .ref m3, .ref m4, .ref m5, .ref m6, x6, x7, x8, x9, x10, x11, x12, x13, x14, x15, x16, x17, x18, x19])), (m1, .inr (6, [.ref m2, .int n2, .int k2])), (m2, .inl (cA 0, 240, .inl q2)), (m3, .inl (cA 0, 10, .inl q3)), (m4, .inl (cA 0, 10, .inl q4)), (m5, .inl (cA 0, 10, .inl q5)), (m6, .inl (cA 0, 10, .inl q6)), (a0, .inr (4, [.ref p0, .ref a1, .ref a3, .ref a4, .ref a5, .ref a6, .int 0, .int 0, .int 0, .long 0, .long 0, .long 0, .int 0, .int 0, .int 0, .int 0, .int 365, .int 0, .int 0, .int 0])), (a1, .inr (6, [.ref a2, .int 0, .int 0])), (a2, .inl (cA 0, 240, .inl e2)), (a3, .inl (cA 0, 10, .inl e3)), (a4, .inl (cA 0, 10, .inl e4)), (a5, .inl (cA 0, 10, .inl e5)), (a6, .inl (cA 0, 10, .inl e6)), (p0, .inr (7, [.int 0, .int 365, .int 0, .int 0, .ref p1, .int 0, .ref p2, .ref p3, .ref p4, .ref p5, .int 0, .ref p6, .int 0, .ref p7, .ref p8, .ref p9, .int 0])), (oo, .inl (cA 1, 1, .inr (.inl fo)))] sz) := by
  refine va_MetW (cc := cL_close) (maxL := 3) (ret := (some .int)) (hh := [(0, 8, 11, 75)]) (by decide) rfl ?_
  intro p e s m args below meth c s₁ B hml hv
  obtain ⟨rfl, hsz, hP, hK, hD0, hC, hZ⟩ := hv
  have hx := B.exec
  have hb := B.bytes
  have hr := B.returns
  have hts := atoms_spec (ws := wsL_close) B.pre
  have hown : s.vm.findClass RL = some m.cls := findClass_of_methodNamed B.named
  have hlocks := B.notSynchronized
  have htab := vx_table (x := yL_close) B (hts (.codeWith yL_close cL_close 3 (some .int) [(0, 8, 11, 75)]) List.mem_cons_self)
  subst hsz
  have hD := hD0.self (sz := s.heap.size)
  generalize hAe : va_A [(h0, .inr (10, [.ref b0, .int 0, .ref p0, .ref u0, .ref r0, .ref a0, .ref t0, .ref s0, .ref o0])), (s0, .inr (5, [.ref s1, .int 0, .int 0])), (s1, .inl (cA 5, 10, .inr (.inr (.inr (.inr FR))))), (m0, .inr (4, [x0, .ref m1, .ref m3, .ref m4, .ref m5, .ref m6, x6, x7, x8, x9, x10, x11, x12, x13, x14, x15, x16, x17, x18, x19])), (m1, .inr (6, [.ref m2, .int n2, .int k2])), (m2, .inl (cA 0, 240, .inl q2)), (m3, .inl (cA 0, 10, .inl q3)), (m4, .inl (cA 0, 10, .inl q4)), (m5, .inl (cA 0, 10, .inl q5)), (m6, .inl (cA 0, 10, .inl q6)), (a0, .inr (4, [.ref p0, .ref a1, .ref a3, .ref a4, .ref a5, .ref a6, .int 0, .int 0, .int 0, .long 0, .long 0, .long 0, .int 0, .int 0, .int 0, .int 0, .int 365, .int 0, .int 0, .int 0])), (a1, .inr (6, [.ref a2, .int 0, .int 0])), (a2, .inl (cA 0, 240, .inl e2)), (a3, .inl (cA 0, 10, .inl e3)), (a4, .inl (cA 0, 10, .inl e4)), (a5, .inl (cA 0, 10, .inl e5)), (a6, .inl (cA 0, 10, .inl e6)), (p0, .inr (7, [.int 0, .int 365, .int 0, .int 0, .ref p1, .int 0, .ref p2, .ref p3, .ref p4, .ref p5, .int 0, .ref p6, .int 0, .ref p7, .ref p8, .ref p9, .int 0])), (oo, .inl (cA 1, 1, .inr (.inl fo)))] s.heap.size = A at hD hZ ⊢
  have hA : ∀ q : Nat, s.heap.size ≤ q → A q := fun q h => by rw [← hAe]; exact Or.inr h
  have hS : va_S A s.heap s.heap [] := va_S.rf
  have hP : va_P D vwCl [(h0, .inr (10, [.ref b0, .int 0, .ref p0, .ref u0, .ref r0, .ref a0, .ref t0, .ref s0, .ref o0])), (s0, .inr (5, [.ref s1, .int 0, .int 0])), (s1, .inl (cA 5, 10, .inr (.inr (.inr (.inr FR))))), (m0, .inr (4, [x0, .ref m1, .ref m3, .ref m4, .ref m5, .ref m6, x6, x7, x8, x9, x10, x11, x12, x13, x14, x15, x16, x17, x18, x19])), (m1, .inr (6, [.ref m2, .int n2, .int k2])), (m2, .inl (cA 0, 240, .inl q2)), (m3, .inl (cA 0, 10, .inl q3)), (m4, .inl (cA 0, 10, .inl q4)), (m5, .inl (cA 0, 10, .inl q5)), (m6, .inl (cA 0, 10, .inl q6)), (a0, .inr (4, [.ref p0, .ref a1, .ref a3, .ref a4, .ref a5, .ref a6, .int 0, .int 0, .int 0, .long 0, .long 0, .long 0, .int 0, .int 0, .int 0, .int 0, .int 365, .int 0, .int 0, .int 0])), (a1, .inr (6, [.ref a2, .int 0, .int 0])), (a2, .inl (cA 0, 240, .inl e2)), (a3, .inl (cA 0, 10, .inl e3)), (a4, .inl (cA 0, 10, .inl e4)), (a5, .inl (cA 0, 10, .inl e5)), (a6, .inl (cA 0, 10, .inl e6)), (p0, .inr (7, [.int 0, .int 365, .int 0, .int 0, .ref p1, .int 0, .ref p2, .ref p3, .ref p4, .ref p5, .int 0, .ref p6, .int 0, .ref p7, .ref p8, .ref p9, .int 0])), (oo, .inl (cA 1, 1, .inr (.inl fo)))] s.heap := hP
  have hl := lv_entry ([.ref h0, .ref oo]) (n := 3) (Nat.le_of_ble_eq_true rfl)
  rw [lg_entry_eq]
  generalize (lg_sl ([.ref h0, .ref oo]) ++ List.replicate (3 - (lg_sl ([.ref h0, .ref oo])).length) Slot.unset).toArray = ls at hl ⊢
  have hl : lv_has ls 3 [(0, .ref h0), (1, .ref oo)] := hl
  refine lv_aload_n hx hb dL_close_0 rfl (lv_at hl 1 rfl) ?_
  refine lv_iconst (v := 0) hx hb dL_close_1 (by decide) ?_
  refine lv_aload_n hx hb dL_close_2 rfl (lv_at hl 0 rfl) ?_
  have hPc := hP.sub (ws' := [(h0, .inr (10, [.ref b0, .int 0, .ref p0, .ref u0, .ref r0, .ref a0, .ref t0, .ref s0, .ref o0])), (s0, .inr (5, [.ref s1, .int 0, .int 0])), (s1, .inl (cA 5, 10, .inr (.inr (.inr (.inr FR))))), (m0, .inr (4, [x0, .ref m1, .ref m3, .ref m4, .ref m5, .ref m6, x6, x7, x8, x9, x10, x11, x12, x13, x14, x15, x16, x17, x18, x19])), (m1, .inr (6, [.ref m2, .int n2, .int k2])), (m2, .inl (cA 0, 240, .inl q2)), (m3, .inl (cA 0, 10, .inl q3)), (m4, .inl (cA 0, 10, .inl q4)), (m5, .inl (cA 0, 10, .inl q5)), (m6, .inl (cA 0, 10, .inl q6)), (a0, .inr (4, [.ref p0, .ref a1, .ref a3, .ref a4, .ref a5, .ref a6, .int 0, .int 0, .int 0, .long 0, .long 0, .long 0, .int 0, .int 0, .int 0, .int 0, .int 365, .int 0, .int 0, .int 0])), (a1, .inr (6, [.ref a2, .int 0, .int 0])), (a2, .inl (cA 0, 240, .inl e2)), (a3, .inl (cA 0, 10, .inl e3)), (a4, .inl (cA 0, 10, .inl e4)), (a5, .inl (cA 0, 10, .inl e5)), (a6, .inl (cA 0, 10, .inl e6)), (p0, .inr (7, [.int 0, .int 365, .int 0, .int 0, .ref p1, .int 0, .ref p2, .ref p3, .ref p4, .ref p5, .int 0, .ref p6, .int 0, .ref p7, .ref p8, .ref p9, .int 0]))]) [0, 1, 2, 3, 4, 5, 6, 7, 8, 9, 10, 11, 12, 13, 14, 15, 16, 17] rfl
  have hDc := hD.sub (ws' := [(h0, .inr (10, [.ref b0, .int 0, .ref p0, .ref u0, .ref r0, .ref a0, .ref t0, .ref s0, .ref o0])), (s0, .inr (5, [.ref s1, .int 0, .int 0])), (s1, .inl (cA 5, 10, .inr (.inr (.inr (.inr FR))))), (m0, .inr (4, [x0, .ref m1, .ref m3, .ref m4, .ref m5, .ref m6, x6, x7, x8, x9, x10, x11, x12, x13, x14, x15, x16, x17, x18, x19])), (m1, .inr (6, [.ref m2, .int n2, .int k2])), (m2, .inl (cA 0, 240, .inl q2)), (m3, .inl (cA 0, 10, .inl q3)), (m4, .inl (cA 0, 10, .inl q4)), (m5, .inl (cA 0, 10, .inl q5)), (m6, .inl (cA 0, 10, .inl q6)), (a0, .inr (4, [.ref p0, .ref a1, .ref a3, .ref a4, .ref a5, .ref a6, .int 0, .int 0, .int 0, .long 0, .long 0, .long 0, .int 0, .int 0, .int 0, .int 0, .int 365, .int 0, .int 0, .int 0])), (a1, .inr (6, [.ref a2, .int 0, .int 0])), (a2, .inl (cA 0, 240, .inl e2)), (a3, .inl (cA 0, 10, .inl e3)), (a4, .inl (cA 0, 10, .inl e4)), (a5, .inl (cA 0, 10, .inl e5)), (a6, .inl (cA 0, 10, .inl e6)), (p0, .inr (7, [.int 0, .int 365, .int 0, .int 0, .ref p1, .int 0, .ref p2, .ref p3, .ref p4, .ref p5, .int 0, .ref p6, .int 0, .ref p7, .ref p8, .ref p9, .int 0]))]) [0, 1, 2, 3, 4, 5, 6, 7, 8, 9, 10, 11, 12, 13, 14, 15, 16, 17] (by decide) rfl
  have hFc := va_free (wc := [(h0, .inr (10, [.ref b0, .int 0, .ref p0, .ref u0, .ref r0, .ref a0, .ref t0, .ref s0, .ref o0])), (s0, .inr (5, [.ref s1, .int 0, .int 0])), (s1, .inl (cA 5, 10, .inr (.inr (.inr (.inr FR))))), (m0, .inr (4, [x0, .ref m1, .ref m3, .ref m4, .ref m5, .ref m6, x6, x7, x8, x9, x10, x11, x12, x13, x14, x15, x16, x17, x18, x19])), (m1, .inr (6, [.ref m2, .int n2, .int k2])), (m2, .inl (cA 0, 240, .inl q2)), (m3, .inl (cA 0, 10, .inl q3)), (m4, .inl (cA 0, 10, .inl q4)), (m5, .inl (cA 0, 10, .inl q5)), (m6, .inl (cA 0, 10, .inl q6)), (a0, .inr (4, [.ref p0, .ref a1, .ref a3, .ref a4, .ref a5, .ref a6, .int 0, .int 0, .int 0, .long 0, .long 0, .long 0, .int 0, .int 0, .int 0, .int 0, .int 365, .int 0, .int 0, .int 0])), (a1, .inr (6, [.ref a2, .int 0, .int 0])), (a2, .inl (cA 0, 240, .inl e2)), (a3, .inl (cA 0, 10, .inl e3)), (a4, .inl (cA 0, 10, .inl e4)), (a5, .inl (cA 0, 10, .inl e5)), (a6, .inl (cA 0, 10, .inl e6)), (p0, .inr (7, [.int 0, .int 365, .int 0, .int 0, .ref p1, .int 0, .ref p2, .ref p3, .ref p4, .ref p5, .int 0, .ref p6, .int 0, .ref p7, .ref p8, .ref p9, .int 0]))]) hD hS hA [0, 1, 2, 3, 4, 5, 6, 7, 8, 9, 10, 11, 12, 13, 14, 15, 16, 17] rfl
  refine va_calli (va_runV (As := []) (rest := [.int 0, .ref oo]) ⟨hx, hb, hml, hown, hts⟩ (c_close_ret l D cA sa h0 b0 p0 u0 r0 a0 t0 s0 o0 s1 m0 m1 m2 m3 m4 m5 m6 a1 a2 a3 a4 a5 a6 p1 p2 p3 p4 p5 p6 p7 p8 p9 x0 x6 x7 x8 x9 x10 x11 x12 x13 x14 x15 x16 x17 x18 x19 n2 k2 q2 q3 q4 q5 q6 e2 e3 e4 e5 e6 FR s.heap.size hF) (cwV 0 hts gL_close_X9_close rfl rfl rfl (by decide +kernel) ⟨(Nat.le_of_ble_eq_true rfl), (Nat.le_of_ble_eq_true rfl)⟩) ⟨Wd.blind, va_recv hK hPc (ci := 10) (q0 := 0) rfl rfl, fun U hU hW => ⟨rfl, Wd.call hPc hDc hK hC hZ hS hFc U hU hW⟩⟩ rfl rfl hl.1 rfl (lv_room (Nat.le_of_ble_eq_true rfl)) dL_close_3 ⟨(Nat.le_of_ble_eq_true rfl), (Nat.le_of_ble_eq_true rfl)⟩) hS (fun q _ h => hFc q h) hFc (fun rn1 u t H1 locs ht hvm hw hB hz1 hk1 hS => ?_)
  obtain ⟨hP1, hD1⟩ := hB
  rw [ht] at hP1
  obtain ⟨hP, hD⟩ := va_join (wr := [(oo, .inl (cA 1, 1, .inr (.inl fo)))]) (w1 := []) hP hD [0, 1, 2, 3, 4, 5, 6, 7, 8, 9, 10, 11, 12, 13, 14, 15, 16, 17] [18] rfl rfl (by decide) (by decide) hk1 hFc hP1 hD1
  generalize H1 = H at hP hS ⊢
  have hP : va_P D vwCl [(oo, .inl (cA 1, 1, .inr (.inl fo)))] H := hP
  have hD : va_D A [(oo, .inl (cA 1, 1, .inr (.inl fo)))] := hD
  obtain rfl : rn1 = 0 := hw
  refine lv_i2l (v := 0) hx hb dL_close_6 (by decide) ?_
  refine va_last hx hb hK hP hD hS 0 1 rfl rfl (vp_in_iff.mpr (by decide)) dL_close_7 (fun H locs hP hD hS => ?_)
  have hP : va_P D vwCl [(oo, .inl (cA 1, 1, .inr (.inl (vp_updL fo 0 0))))] H := hP
  have hD : va_D A [(oo, .inl (cA 1, 1, .inr (.inl (vp_updL fo 0 0))))] := hD
  refine lv_goto (tgt := 14) hx hb dL_close_8 (by decide) ?_
  refine lv_iconst (v := 0) hx hb dL_close_14 (by decide) ?_
  have hP9 := hP.sub (ws' := [(oo, .inl (cA 1, 1, .inr (.inl (vp_updL fo 0 0))))]) [0] rfl
  have hD9 := hD.sub (ws' := [(oo, .inl (cA 1, 1, .inr (.inl (vp_updL fo 0 0))))]) [0] (by decide) rfl
  refine W.widen (k := 0) (n := 0) (Nat.le_of_ble_eq_true rfl) (Nat.le_of_ble_eq_true rfl) ?_
  exact W.iret (v := 0) hx hb hr (fun t ht hW => ⟨⟨0, (), rfl, rfl, by rw [ht]; exact hP9, hD9⟩, hS.F ht⟩) hS.2.2 dL_close_15

set_option maxHeartbeats 4000000 in
set_option maxRecDepth 100000 in
/-- the wrapper of setRate -/
theorem c_L_setRate_360 (l : Launch) (D : va_G) (cA : Nat → ClassId) (sa : Nat → Nat) (h0 b0 p0 u0 r0 a0 t0 s0 o0 s1 m0 m1 m2 m3 m4 m5 m6 a1 a2 a3 a4 a5 a6 p1 p2 p3 p4 p5 p6 p7 p8 p9 : Nat) (x0 x6 x7 x8 x9 x10 x11 x12 x13 x14 x15 x16 x17 x18 x19 : Value) (n2 k2 : Int32) (q2 q3 q4 q5 q6 e2 e3 e4 e5 e6 : Nat → Int32) (FR : Nat → Option Nat) (a : Int32) (oo : Nat) (fo : Nat → Int64) (sz : Nat) (hF : FR 0 = some m0) (h1 : ¬ a < 0) (h2 : ¬ 3000 < a) : Met l yL_setRate wsL_setRate ({ frames := 5, cells := 0, slots := 0, locals := 146 }) (va_Pc [.ref h0, .int a, .int 360, .ref oo] (Wd D cA sa [(h0, .inr (10, [.ref b0, .int 0, .ref p0, .ref u0, .ref r0, .ref a0, .ref t0, .ref s0, .ref o0])), (s0, .inr (5, [.ref s1, .int 0, .int 0])), (s1, .inl (cA 5, 10, .inr (.inr (.inr (.inr FR))))), (m0, .inr (4, [x0, .ref m1, .ref m3, .ref m4, .ref m5, .ref m6, x6, x7, x8, x9, x10, x11, x12, x13, x14, x15, x16, x17, x18, x19])), (m1, .inr (6, [.ref m2, .int n2, .int k2])), (m2, .inl (cA 0, 240, .inl q2)), (m3, .inl (cA 0, 10, .inl q3)), (m4, .inl (cA 0, 10, .inl q4)), (m5, .inl (cA 0, 10, .inl q5)), (m6, .inl (cA 0, 10, .inl q6)), (a0, .inr (4, [.ref p0, .ref a1, .ref a3, .ref a4, .ref a5, .ref a6, .int 0, .int 0, .int 0, .long 0, .long 0, .long 0, .int 0, .int 0, .int 0, .int 0, .int 365, .int 0, .int 0, .int 0])), (a1, .inr (6, [.ref a2, .int 0, .int 0])), (a2, .inl (cA 0, 240, .inl e2)), (a3, .inl (cA 0, 10, .inl e3)), (a4, .inl (cA 0, 10, .inl e4)), (a5, .inl (cA 0, 10, .inl e5)), (a6, .inl (cA 0, 10, .inl e6)), (p0, .inr (7, [.int 0, .int 365, .int 0, .int 0, .ref p1, .int 0, .ref p2, .ref p3, .ref p4, .ref p5, .int 0, .ref p6, .int 0, .ref p7, .ref p8, .ref p9, .int 0])), (oo, .inl (cA 1, 1, .inr (.inl fo)))] sz)) (va_Qi (fun (r : Int32) (_ : Unit) => r = 0) (fun (_ : Unit) t => Wq D (va_A [(h0, .inr (10, [.ref b0, .int 0, .ref p0, .ref u0, .ref r0, .ref a0, .ref t0, .ref s0, .ref o0])), (s0, .inr (5, [.ref s1, .int 0, .int 0])), (s1, .inl (cA 5, 10, .inr (.inr (.inr (.inr FR))))), (m0, .inr (4, [x0, .ref m1, .ref m3, .ref m4, .ref m5, .ref m6, x6, x7, x8, x9, x10, x11, x12, x13, x14, x15, x16, x17, x18, x19])), (m1, .inr (6, [.ref m2, .int n2, .int k2])), (m2, .inl (cA 0, 240, .inl q2)), (m3, .inl (cA 0, 10, .inl q3)), (m4, .inl (cA 0, 10, .inl q4)), (m5, .inl (cA 0, 10, .inl q5)), (m6, .inl (cA 0, 10, .inl q6)), (a0, .inr (4, [.ref p0, .ref a1, .ref a3, .ref a4, .ref a5, .ref a6, .int 0, .int 0, .int 0, .long 0, .long 0, .long 0, .int 0, .int 0, .int 0, .int 0, .int 365, .int 0, .int 0, .int 0])), (a1, .inr (6, [.ref a2, .int 0, .int 0])), (a2, .inl (cA 0, 240, .inl e2)), (a3, .inl (cA 0, 10, .inl e3)), (a4, .inl (cA 0, 10, .inl e4)), (a5, .inl (cA 0, 10, .inl e5)), (a6, .inl (cA 0, 10, .inl e6)), (p0, .inr (7, [.int 0, .int 365, .int 0, .int 0, .ref p1, .int 0, .ref p2, .ref p3, .ref p4, .ref p5, .int 0, .ref p6, .int 0, .ref p7, .ref p8, .ref p9, .int 0])), (oo, .inl (cA 1, 1, .inr (.inl fo)))] sz) [(oo, .inl (cA 1, 1, .inr (.inl (vp_updL fo 0 0))))] t) (va_A [(h0, .inr (10, [.ref b0, .int 0, .ref p0, .ref u0, .ref r0, .ref a0, .ref t0, .ref s0, .ref o0])), (s0, .inr (5, [.ref s1, .int 0, .int 0])), (s1, .inl (cA 5, 10, .inr (.inr (.inr (.inr FR))))), (m0, .inr (4, [x0, .ref m1, .ref m3, .ref m4, .ref m5, .ref m6, x6, x7, x8, x9, x10, x11, x12, x13, x14, x15, x16, x17, x18, x19])), (m1, .inr (6, [.ref m2, .int n2, .int k2])), (m2, .inl (cA 0, 240, .inl q2)), (m3, .inl (cA 0, 10, .inl q3)), (m4, .inl (cA 0, 10, .inl q4)), (m5, .inl (cA 0, 10, .inl q5)), (m6, .inl (cA 0, 10, .inl q6)), (a0, .inr (4, [.ref p0, .ref a1, .ref a3, .ref a4, .ref a5, .ref a6, .int 0, .int 0, .int 0, .long 0, .long 0, .long 0, .int 0, .int 0, .int 0, .int 0, .int 365, .int 0, .int 0, .int 0])), (a1, .inr (6, [.ref a2, .int 0, .int 0])), (a2, .inl (cA 0, 240, .inl e2)), (a3, .inl (cA 0, 10, .inl e3)), (a4, .inl (cA 0, 10, .inl e4)), (a5, .inl (cA 0, 10, .inl e5)), (a6, .inl (cA 0, 10, .inl e6)), (p0, .inr (7, [.int 0, .int 365, .int 0, .int 0, .ref p1, .int 0, .ref p2, .ref p3, .ref p4, .ref p5, .int 0, .ref p6, .int 0, .ref p7, .ref p8, .ref p9, .int 0])), (oo, .inl (cA 1, 1, .inr (.inl fo)))] sz)) 0 0 (va_A [(h0, .inr (10, [.ref b0, .int 0, .ref p0, .ref u0, .ref r0, .ref a0, .ref t0, .ref s0, .ref o0])), (s0, .inr (5, [.ref s1, .int 0, .int 0])), (s1, .inl (cA 5, 10, .inr (.inr (.inr (.inr FR))))), (m0, .inr (4, [x0, .ref m1, .ref m3, .ref m4, .ref m5, .ref m6, x6, x7, x8, x9, x10, x11, x12, x13, x14, x15, x16, x17, x18, x19])), (m1, .inr (6, [.ref m2, .int n2, .int k2])), (m2, .inl (cA 0, 240, .inl q2)), (m3, .inl (cA 0, 10, .inl q3)), (m4, .inl (cA 0, 10, .inl q4)), (m5, .inl (cA 0, 10, .inl q5)), (m6, .inl (cA 0, 10, .inl q6)), (a0, .inr (4, [.ref p0, .ref a1, .ref a3, .ref a4, .ref a5, .ref a6, .int 0, .int 0, .int 0, .long 0, .long 0, .long 0, .int 0, .int 0, .int 0, .int 0, .int 365, .int 0, .int 0, .int 0])), (a1, .inr (6, [.ref a2, .int 0, .int 0])), (a2, .inl (cA 0, 240, .inl e2)), (a3, .inl (cA 0, 10, .inl e3)), (a4, .inl (cA 0, 10, .inl e4)), (a5, .inl (cA 0, 10, .inl e5)), (a6, .inl (cA 0, 10, .inl e6)), (p0, .inr (7, [.int 0, .int 365, .int 0, .int 0, .ref p1, .int 0, .ref p2, .ref p3, .ref p4, .ref p5, .int 0, .ref p6, .int 0, .ref p7, .ref p8, .ref p9, .int 0])), (oo, .inl (cA 1, 1, .inr (.inl fo)))] sz) := by
  refine va_MetW (cc := cL_setRate) (maxL := 5) (ret := (some .int)) (hh := [(0, 10, 13, 13)]) (by decide) rfl ?_
  intro p e s m args below meth c s₁ B hml hv
  obtain ⟨rfl, hsz, hP, hK, hD0, hC, hZ⟩ := hv
  have hx := B.exec
  have hb := B.bytes
  have hr := B.returns
  have hts := atoms_spec (ws := wsL_setRate) B.pre
  have hown : s.vm.findClass RL = some m.cls := findClass_of_methodNamed B.named
  have hlocks := B.notSynchronized
  have htab := vx_table (x := yL_setRate) B (hts (.codeWith yL_setRate cL_setRate 5 (some .int) [(0, 10, 13, 13)]) List.mem_cons_self)
  subst hsz
  have hD := hD0.self (sz := s.heap.size)
  generalize hAe : va_A [(h0, .inr (10, [.ref b0, .int 0, .ref p0, .ref u0, .ref r0, .ref a0, .ref t0, .ref s0, .ref o0])), (s0, .inr (5, [.ref s1, .int 0, .int 0])), (s1, .inl (cA 5, 10, .inr (.inr (.inr (.inr FR))))), (m0, .inr (4, [x0, .ref m1, .ref m3, .ref m4, .ref m5, .ref m6, x6, x7, x8, x9, x10, x11, x12, x13, x14, x15, x16, x17, x18, x19])), (m1, .inr (6, [.ref m2, .int n2, .int k2])), (m2, .inl (cA 0, 240, .inl q2)), (m3, .inl (cA 0, 10, .inl q3)), (m4, .inl (cA 0, 10, .inl q4)), (m5, .inl (cA 0, 10, .inl q5)), (m6, .inl (cA 0, 10, .inl q6)), (a0, .inr (4, [.ref p0, .ref a1, .ref a3, .ref a4, .ref a5, .ref a6, .int 0, .int 0, .int 0, .long 0, .long 0, .long 0, .int 0, .int 0, .int 0, .int 0, .int 365, .int 0, .int 0, .int 0])), (a1, .inr (6, [.ref a2, .int 0, .int 0])), (a2, .inl (cA 0, 240, .inl e2)), (a3, .inl (cA 0, 10, .inl e3)), (a4, .inl (cA 0, 10, .inl e4)), (a5, .inl (cA 0, 10, .inl e5)), (a6, .inl (cA 0, 10, .inl e6)), (p0, .inr (7, [.int 0, .int 365, .int 0, .int 0, .ref p1, .int 0, .ref p2, .ref p3, .ref p4, .ref p5, .int 0, .ref p6, .int 0, .ref p7, .ref p8, .ref p9, .int 0])), (oo, .inl (cA 1, 1, .inr (.inl fo)))] s.heap.size = A at hD hZ ⊢
  have hA : ∀ q : Nat, s.heap.size ≤ q → A q := fun q h => by rw [← hAe]; exact Or.inr h
  have hS : va_S A s.heap s.heap [] := va_S.rf
  have hP : va_P D vwCl [(h0, .inr (10, [.ref b0, .int 0, .ref p0, .ref u0, .ref r0, .ref a0, .ref t0, .ref s0, .ref o0])), (s0, .inr (5, [.ref s1, .int 0, .int 0])), (s1, .inl (cA 5, 10, .inr (.inr (.inr (.inr FR))))), (m0, .inr (4, [x0, .ref m1, .ref m3, .ref m4, .ref m5, .ref m6, x6, x7, x8, x9, x10, x11, x12, x13, x14, x15, x16, x17, x18, x19])), (m1, .inr (6, [.ref m2, .int n2, .int k2])), (m2, .inl (cA 0, 240, .inl q2)), (m3, .inl (cA 0, 10, .inl q3)), (m4, .inl (cA 0, 10, .inl q4)), (m5, .inl (cA 0, 10, .inl q5)), (m6, .inl (cA 0, 10, .inl q6)), (a0, .inr (4, [.ref p0, .ref a1, .ref a3, .ref a4, .ref a5, .ref a6, .int 0, .int 0, .int 0, .long 0, .long 0, .long 0, .int 0, .int 0, .int 0, .int 0, .int 365, .int 0, .int 0, .int 0])), (a1, .inr (6, [.ref a2, .int 0, .int 0])), (a2, .inl (cA 0, 240, .inl e2)), (a3, .inl (cA 0, 10, .inl e3)), (a4, .inl (cA 0, 10, .inl e4)), (a5, .inl (cA 0, 10, .inl e5)), (a6, .inl (cA 0, 10, .inl e6)), (p0, .inr (7, [.int 0, .int 365, .int 0, .int 0, .ref p1, .int 0, .ref p2, .ref p3, .ref p4, .ref p5, .int 0, .ref p6, .int 0, .ref p7, .ref p8, .ref p9, .int 0])), (oo, .inl (cA 1, 1, .inr (.inl fo)))] s.heap := hP
  have hl := lv_entry ([.ref h0, .int a, .int 360, .ref oo]) (n := 5) (Nat.le_of_ble_eq_true rfl)
  rw [lg_entry_eq]
  generalize (lg_sl ([.ref h0, .int a, .int 360, .ref oo]) ++ List.replicate (5 - (lg_sl ([.ref h0, .int a, .int 360, .ref oo])).length) Slot.unset).toArray = ls at hl ⊢
  have hl : lv_has ls 5 [(0, .ref h0), (1, .int a), (2, .int 360), (3, .ref oo)] := hl
  refine lv_aload_n hx hb dL_setRate_0 rfl (lv_at hl 3 rfl) ?_
  refine lv_iconst (v := 0) hx hb dL_setRate_1 (by decide) ?_
  refine lv_aload_n hx hb dL_setRate_2 rfl (lv_at hl 0 rfl) ?_
  refine lv_iload_n hx hb dL_setRate_3 rfl (lv_at hl 1 rfl) ?_
  refine lv_iload_n hx hb dL_setRate_4 rfl (lv_at hl 2 rfl) ?_
  have hPc := hP.sub (ws' := [(h0, .inr (10, [.ref b0, .int 0, .ref p0, .ref u0, .ref r0, .ref a0, .ref t0, .ref s0, .ref o0])), (s0, .inr (5, [.ref s1, .int 0, .int 0])), (s1, .inl (cA 5, 10, .inr (.inr (.inr (.inr FR))))), (m0, .inr (4, [x0, .ref m1, .ref m3, .ref m4, .ref m5, .ref m6, x6, x7, x8, x9, x10, x11, x12, x13, x14, x15, x16, x17, x18, x19])), (m1, .inr (6, [.ref m2, .int n2, .int k2])), (m2, .inl (cA 0, 240, .inl q2)), (m3, .inl (cA 0, 10, .inl q3)), (m4, .inl (cA 0, 10, .inl q4)), (m5, .inl (cA 0, 10, .inl q5)), (m6, .inl (cA 0, 10, .inl q6)), (a0, .inr (4, [.ref p0, .ref a1, .ref a3, .ref a4, .ref a5, .ref a6, .int 0, .int 0, .int 0, .long 0, .long 0, .long 0, .int 0, .int 0, .int 0, .int 0, .int 365, .int 0, .int 0, .int 0])), (a1, .inr (6, [.ref a2, .int 0, .int 0])), (a2, .inl (cA 0, 240, .inl e2)), (a3, .inl (cA 0, 10, .inl e3)), (a4, .inl (cA 0, 10, .inl e4)), (a5, .inl (cA 0, 10, .inl e5)), (a6, .inl (cA 0, 10, .inl e6)), (p0, .inr (7, [.int 0, .int 365, .int 0, .int 0, .ref p1, .int 0, .ref p2, .ref p3, .ref p4, .ref p5, .int 0, .ref p6, .int 0, .ref p7, .ref p8, .ref p9, .int 0]))]) [0, 1, 2, 3, 4, 5, 6, 7, 8, 9, 10, 11, 12, 13, 14, 15, 16, 17] rfl
  have hDc := hD.sub (ws' := [(h0, .inr (10, [.ref b0, .int 0, .ref p0, .ref u0, .ref r0, .ref a0, .ref t0, .ref s0, .ref o0])), (s0, .inr (5, [.ref s1, .int 0, .int 0])), (s1, .inl (cA 5, 10, .inr (.inr (.inr (.inr FR))))), (m0, .inr (4, [x0, .ref m1, .ref m3, .ref m4, .ref m5, .ref m6, x6, x7, x8, x9, x10, x11, x12, x13, x14, x15, x16, x17, x18, x19])), (m1, .inr (6, [.ref m2, .int n2, .int k2])), (m2, .inl (cA 0, 240, .inl q2)), (m3, .inl (cA 0, 10, .inl q3)), (m4, .inl (cA 0, 10, .inl q4)), (m5, .inl (cA 0, 10, .inl q5)), (m6, .inl (cA 0, 10, .inl q6)), (a0, .inr (4, [.ref p0, .ref a1, .ref a3, .ref a4, .ref a5, .ref a6, .int 0, .int 0, .int 0, .long 0, .long 0, .long 0, .int 0, .int 0, .int 0, .int 0, .int 365, .int 0, .int 0, .int 0])), (a1, .inr (6, [.ref a2, .int 0, .int 0])), (a2, .inl (cA 0, 240, .inl e2)), (a3, .inl (cA 0, 10, .inl e3)), (a4, .inl (cA 0, 10, .inl e4)), (a5, .inl (cA 0, 10, .inl e5)), (a6, .inl (cA 0, 10, .inl e6)), (p0, .inr (7, [.int 0, .int 365, .int 0, .int 0, .ref p1, .int 0, .ref p2, .ref p3, .ref p4, .ref p5, .int 0, .ref p6, .int 0, .ref p7, .ref p8, .ref p9, .int 0]))]) [0, 1, 2, 3, 4, 5, 6, 7, 8, 9, 10, 11, 12, 13, 14, 15, 16, 17] (by decide) rfl
  have hFc := va_free (wc := [(h0, .inr (10, [.ref b0, .int 0, .ref p0, .ref u0, .ref r0, .ref a0, .ref t0, .ref s0, .ref o0])), (s0, .inr (5, [.ref s1, .int 0, .int 0])), (s1, .inl (cA 5, 10, .inr (.inr (.inr (.inr FR))))), (m0, .inr (4, [x0, .ref m1, .ref m3, .ref m4, .ref m5, .ref m6, x6, x7, x8, x9, x10, x11, x12, x13, x14, x15, x16, x17, x18, x19])), (m1, .inr (6, [.ref m2, .int n2, .int k2])), (m2, .inl (cA 0, 240, .inl q2)), (m3, .inl (cA 0, 10, .inl q3)), (m4, .inl (cA 0, 10, .inl q4)), (m5, .inl (cA 0, 10, .inl q5)), (m6, .inl (cA 0, 10, .inl q6)), (a0, .inr (4, [.ref p0, .ref a1, .ref a3, .ref a4, .ref a5, .ref a6, .int 0, .int 0, .int 0, .long 0, .long 0, .long 0, .int 0, .int 0, .int 0, .int 0, .int 365, .int 0, .int 0, .int 0])), (a1, .inr (6, [.ref a2, .int 0, .int 0])), (a2, .inl (cA 0, 240, .inl e2)), (a3, .inl (cA 0, 10, .inl e3)), (a4, .inl (cA 0, 10, .inl e4)), (a5, .inl (cA 0, 10, .inl e5)), (a6, .inl (cA 0, 10, .inl e6)), (p0, .inr (7, [.int 0, .int 365, .int 0, .int 0, .ref p1, .int 0, .ref p2, .ref p3, .ref p4, .ref p5, .int 0, .ref p6, .int 0, .ref p7, .ref p8, .ref p9, .int 0]))]) hD hS hA [0, 1, 2, 3, 4, 5, 6, 7, 8, 9, 10, 11, 12, 13, 14, 15, 16, 17] rfl
  refine va_calli (va_runV (As := [.int a, .int 360]) (rest := [.int 0, .ref oo]) ⟨hx, hb, hml, hown, hts⟩ (c_setRate_360 l D cA sa h0 b0 p0 u0 r0 a0 t0 s0 o0 s1 m0 m1 m2 m3 m4 m5 m6 a1 a2 a3 a4 a5 a6 p1 p2 p3 p4 p5 p6 p7 p8 p9 x0 x6 x7 x8 x9 x10 x11 x12 x13 x14 x15 x16 x17 x18 x19 n2 k2 q2 q3 q4 q5 q6 e2 e3 e4 e5 e6 FR a s.heap.size hF h1 h2) (cwV 2 hts gL_setRate_X9_setRate rfl rfl rfl (by decide +kernel) ⟨(Nat.le_of_ble_eq_true rfl), (Nat.le_of_ble_eq_true rfl)⟩) ⟨Wd.blind, va_recv hK hPc (ci := 10) (q0 := 0) rfl rfl, fun U hU hW => ⟨rfl, Wd.call hPc hDc hK hC hZ hS hFc U hU hW⟩⟩ rfl rfl hl.1 rfl (lv_room (Nat.le_of_ble_eq_true rfl)) dL_setRate_5 ⟨(Nat.le_of_ble_eq_true rfl), (Nat.le_of_ble_eq_true rfl)⟩) hS (fun q _ h => hFc q h) hFc (fun rn1 u t H1 locs ht hvm hw hB hz1 hk1 hS => ?_)
  obtain ⟨hP1, hD1⟩ := hB
  rw [ht] at hP1
  obtain ⟨hP, hD⟩ := va_join (wr := [(oo, .inl (cA 1, 1, .inr (.inl fo)))]) (w1 := []) hP hD [0, 1, 2, 3, 4, 5, 6, 7, 8, 9, 10, 11, 12, 13, 14, 15, 16, 17] [18] rfl rfl (by decide) (by decide) hk1 hFc hP1 hD1
  generalize H1 = H at hP hS ⊢
  have hP : va_P D vwCl [(oo, .inl (cA 1, 1, .inr (.inl fo)))] H := hP
  have hD : va_D A [(oo, .inl (cA 1, 1, .inr (.inl fo)))] := hD
  obtain rfl : rn1 = 0 := hw
  refine lv_i2l (v := 0) hx hb dL_setRate_8 (by decide) ?_
  refine va_last hx hb hK hP hD hS 0 1 rfl rfl (vp_in_iff.mpr (by decide)) dL_setRate_9 (fun H locs hP hD hS => ?_)
  have hP : va_P D vwCl [(oo, .inl (cA 1, 1, .inr (.inl (vp_updL fo 0 0))))] H := hP
  have hD : va_D A [(oo, .inl (cA 1, 1, .inr (.inl (vp_updL fo 0 0))))] := hD
  refine lv_goto (tgt := 17) hx hb dL_setRate_10 (by decide) ?_
  refine lv_iconst (v := 0) hx hb dL_setRate_17 (by decide) ?_
  have hP9 := hP.sub (ws' := [(oo, .inl (cA 1, 1, .inr (.inl (vp_updL fo 0 0))))]) [0] rfl
  have hD9 := hD.sub (ws' := [(oo, .inl (cA 1, 1, .inr (.inl (vp_updL fo 0 0))))]) [0] (by decide) rfl
  refine W.widen (k := 0) (n := 0) (Nat.le_of_ble_eq_true rfl) (Nat.le_of_ble_eq_true rfl) ?_
  exact W.iret (v := 0) hx hb hr (fun t ht hW => ⟨⟨0, (), rfl, rfl, by rw [ht]; exact hP9, hD9⟩, hS.F ht⟩) hS.2.2 dL_setRate_18

set_option maxHeartbeats 4000000 in
set_option maxRecDepth 100000 in
/-- the wrapper of setRate -/
theorem c_L_setRate_365 (l : Launch) (D : va_G) (cA : Nat → ClassId) (sa : Nat → Nat) (h0 b0 p0 u0 r0 a0 t0 s0 o0 s1 m0 m1 m2 m3 m4 m5 m6 a1 a2 a3 a4 a5 a6 p1 p2 p3 p4 p5 p6 p7 p8 p9 : Nat) (x0 x6 x7 x8 x9 x10 x11 x12 x13 x14 x15 x16 x17 x18 x19 : Value) (n2 k2 : Int32) (q2 q3 q4 q5 q6 e2 e3 e4 e5 e6 : Nat → Int32) (FR : Nat → Option Nat) (a : Int32) (oo : Nat) (fo : Nat → Int64) (sz : Nat) (hF : FR 0 = some m0) (h1 : ¬ a < 0) (h2 : ¬ 3000 < a) : Met l yL_setRate wsL_setRate ({ frames := 5, cells := 0, slots := 0, locals := 146 }) (va_Pc [.ref h0, .int a, .int 365, .ref oo] (Wd D cA sa [(h0, .inr (10, [.ref b0, .int 0, .ref p0, .ref u0, .ref r0, .ref a0, .ref t0, .ref s0, .ref o0])), (s0, .inr (5, [.ref s1, .int 0, .int 0])), (s1, .inl (cA 5, 10, .inr (.inr (.inr (.inr FR))))), (m0, .inr (4, [x0, .ref m1, .ref m3, .ref m4, .ref m5, .ref m6, x6, x7, x8, x9, x10, x11, x12, x13, x14, x15, x16, x17, x18, x19])), (m1, .inr (6, [.ref m2, .int n2, .int k2])), (m2, .inl (cA 0, 240, .inl q2)), (m3, .inl (cA 0, 10, .inl q3)), (m4, .inl (cA 0, 10, .inl q4)), (m5, .inl (cA 0, 10, .inl q5)), (m6, .inl (cA 0, 10, .inl q6)), (a0, .inr (4, [.ref p0, .ref a1, .ref a3, .ref a4, .ref a5, .ref a6, .int 0, .int 0, .int 0, .long 0, .long 0, .long 0, .int 0, .int 0, .int 0, .int 0, .int 365, .int 0, .int 0, .int 0])), (a1, .inr (6, [.ref a2, .int 0, .int 0])), (a2, .inl (cA 0, 240, .inl e2)), (a3, .inl (cA 0, 10, .inl e3)), (a4, .inl (cA 0, 10, .inl e4)), (a5, .inl (cA 0, 10, .inl e5)), (a6, .inl (cA 0, 10, .inl e6)), (p0, .inr (7, [.int 0, .int 365, .int 0, .int 0, .ref p1, .int 0, .ref p2, .ref p3, .ref p4, .ref p5, .int 0, .ref p6, .int 0, .ref p7, .ref p8, .ref p9, .int 0])), (oo, .inl (cA 1, 1, .inr (.inl fo)))] sz)) (va_Qi (fun (r : Int32) (_ : Unit) => r = 0) (fun (_ : Unit) t => Wq D (va_A [(h0, .inr (10, [.ref b0, .int 0, .ref p0, .ref u0, .ref r0, .ref a0, .ref t0, .ref s0, .ref o0])), (s0, .inr (5, [.ref s1, .int 0, .int 0])), (s1, .inl (cA 5, 10, .inr (.inr (.inr (.inr FR))))), (m0, .inr (4, [x0, .ref m1, .ref m3, .ref m4, .ref m5, .ref m6, x6, x7, x8, x9, x10, x11, x12, x13, x14, x15, x16, x17, x18, x19])), (m1, .inr (6, [.ref m2, .int n2, .int k2])), (m2, .inl (cA 0, 240, .inl q2)), (m3, .inl (cA 0, 10, .inl q3)), (m4, .inl (cA 0, 10, .inl q4)), (m5, .inl (cA 0, 10, .inl q5)), (m6, .inl (cA 0, 10, .inl q6)), (a0, .inr (4, [.ref p0, .ref a1, .ref a3, .ref a4, .ref a5, .ref a6, .int 0, .int 0, .int 0, .long 0, .long 0, .long 0, .int 0, .int 0, .int 0, .int 0, .int 365, .int 0, .int 0, .int 0])), (a1, .inr (6, [.ref a2, .int 0, .int 0])), (a2, .inl (cA 0, 240, .inl e2)), (a3, .inl (cA 0, 10, .inl e3)), (a4, .inl (cA 0, 10, .inl e4)), (a5, .inl (cA 0, 10, .inl e5)), (a6, .inl (cA 0, 10, .inl e6)), (p0, .inr (7, [.int 0, .int 365, .int 0, .int 0, .ref p1, .int 0, .ref p2, .ref p3, .ref p4, .ref p5, .int 0, .ref p6, .int 0, .ref p7, .ref p8, .ref p9, .int 0])), (oo, .inl (cA 1, 1, .inr (.inl fo)))] sz) [(oo, .inl (cA 1, 1, .inr (.inl (vp_updL fo 0 0))))] t) (va_A [(h0, .inr (10, [.ref b0, .int 0, .ref p0, .ref u0, .ref r0, .ref a0, .ref t0, .ref s0, .ref o0])), (s0, .inr (5, [.ref s1, .int 0, .int 0])), (s1, .inl (cA 5, 10, .inr (.inr (.inr (.inr FR))))), (m0, .inr (4, [x0, .ref m1, .ref m3, .ref m4, .ref m5, .ref m6, x6, x7, x8, x9, x10, x11, x12, x13, x14, x15, x16, x17, x18, x19])), (m1, .inr (6, [.ref m2, .int n2, .int k2])), (m2, .inl (cA 0, 240, .inl q2)), (m3, .inl (cA 0, 10, .inl q3)), (m4, .inl (cA 0, 10, .inl q4)), (m5, .inl (cA 0, 10, .inl q5)), (m6, .inl (cA 0, 10, .inl q6)), (a0, .inr (4, [.ref p0, .ref a1, .ref a3, .ref a4, .ref a5, .ref a6, .int 0, .int 0, .int 0, .long 0, .long 0, .long 0, .int 0, .int 0, .int 0, .int 0, .int 365, .int 0, .int 0, .int 0])), (a1, .inr (6, [.ref a2, .int 0, .int 0])), (a2, .inl (cA 0, 240, .inl e2)), (a3, .inl (cA 0, 10, .inl e3)), (a4, .inl (cA 0, 10, .inl e4)), (a5, .inl (cA 0, 10, .inl e5)), (a6, .inl (cA 0, 10, .inl e6)), (p0, .inr (7, [.int 0, .int 365, .int 0, .int 0, .ref p1, .int 0, .ref p2, .ref p3, .ref p4, .ref p5, .int 0, .ref p6, .int 0, .ref p7, .ref p8, .ref p9, .int 0])), (oo, .inl (cA 1, 1, .inr (.inl fo)))] sz)) 0 0 (va_A [(h0, .inr (10, [.ref b0, .int 0, .ref p0, .ref u0, .ref r0, .ref a0, .ref t0, .ref s0, .ref o0])), (s0, .inr (5, [.ref s1, .int 0, .int 0])), (s1, .inl (cA 5, 10, .inr (.inr (.inr (.inr FR))))), (m0, .inr (4, [x0, .ref m1, .ref m3, .ref m4, .ref m5, .ref m6, x6, x7, x8, x9, x10, x11, x12, x13, x14, x15, x16, x17, x18, x19])), (m1, .inr (6, [.ref m2, .int n2, .int k2])), (m2, .inl (cA 0, 240, .inl q2)), (m3, .inl (cA 0, 10, .inl q3)), (m4, .inl (cA 0, 10, .inl q4)), (m5, .inl (cA 0, 10, .inl q5)), (m6, .inl (cA 0, 10, .inl q6)), (a0, .inr (4, [.ref p0, .ref a1, .ref a3, .ref a4, .ref a5, .ref a6, .int 0, .int 0, .int 0, .long 0, .long 0, .long 0, .int 0, .int 0, .int 0, .int 0, .int 365, .int 0, .int 0, .int 0])), (a1, .inr (6, [.ref a2, .int 0, .int 0])), (a2, .inl (cA 0, 240, .inl e2)), (a3, .inl (cA 0, 10, .inl e3)), (a4, .inl (cA 0, 10, .inl e4)), (a5, .inl (cA 0, 10, .inl e5)), (a6, .inl (cA 0, 10, .inl e6)), (p0, .inr (7, [.int 0, .int 365, .int 0, .int 0, .ref p1, .int 0, .ref p2, .ref p3, .ref p4, .ref p5, .int 0, .ref p6, .int 0, .ref p7, .ref p8, .ref p9, .int 0])), (oo, .inl (cA 1, 1, .inr (.inl fo)))] sz) := by
  refine va_MetW (cc := cL_setRate) (maxL := 5) (ret := (some .int)) (hh := [(0, 10, 13, 13)]) (by decide) rfl ?_
  intro p e s m args below meth c s₁ B hml hv
  obtain ⟨rfl, hsz, hP, hK, hD0, hC, hZ⟩ := hv
  have hx := B.exec
  have hb := B.bytes
  have hr := B.returns
  have hts := atoms_spec (ws := wsL_setRate) B.pre
  have hown : s.vm.findClass RL = some m.cls := findClass_of_methodNamed B.named
  have hlocks := B.notSynchronized
  have htab := vx_table (x := yL_setRate) B (hts (.codeWith yL_setRate cL_setRate 5 (some .int) [(0, 10, 13, 13)]) List.mem_cons_self)
  subst hsz
  have hD := hD0.self (sz := s.heap.size)
  generalize hAe : va_A [(h0, .inr (10, [.ref b0, .int 0, .ref p0, .ref u0, .ref r0, .ref a0, .ref t0, .ref s0, .ref o0])), (s0, .inr (5, [.ref s1, .int 0, .int 0])), (s1, .inl (cA 5, 10, .inr (.inr (.inr (.inr FR))))), (m0, .inr (4, [x0, .ref m1, .ref m3, .ref m4, .ref m5, .ref m6, x6, x7, x8, x9, x10, x11, x12, x13, x14, x15, x16, x17, x18, x19])), (m1, .inr (6, [.ref m2, .int n2, .int k2])), (m2, .inl (cA 0, 240, .inl q2)), (m3, .inl (cA 0, 10, .inl q3)), (m4, .inl (cA 0, 10, .inl q4)), (m5, .inl (cA 0, 10, .inl q5)), (m6, .inl (cA 0, 10, .inl q6)), (a0, .inr (4, [.ref p0, .ref a1, .ref a3, .ref a4, .ref a5, .ref a6, .int 0, .int 0, .int 0, .long 0, .long 0, .long 0, .int 0, .int 0, .int 0, .int 0, .int 365, .int 0, .int 0, .int 0])), (a1, .inr (6, [.ref a2, .int 0, .int 0])), (a2, .inl (cA 0, 240, .inl e2)), (a3, .inl (cA 0, 10, .inl e3)), (a4, .inl (cA 0, 10, .inl e4)), (a5, .inl (cA 0, 10, .inl e5)), (a6, .inl (cA 0, 10, .inl e6)), (p0, .inr (7, [.int 0, .int 365, .int 0, .int 0, .ref p1, .int 0, .ref p2, .ref p3, .ref p4, .ref p5, .int 0, .ref p6, .int 0, .ref p7, .ref p8, .ref p9, .int 0])), (oo, .inl (cA 1, 1, .inr (.inl fo)))] s.heap.size = A at hD hZ ⊢
  have hA : ∀ q : Nat, s.heap.size ≤ q → A q := fun q h => by rw [← hAe]; exact Or.inr h
  have hS : va_S A s.heap s.heap [] := va_S.rf
  have hP : va_P D vwCl [(h0, .inr (10, [.ref b0, .int 0, .ref p0, .ref u0, .ref r0, .ref a0, .ref t0, .ref s0, .ref o0])), (s0, .inr (5, [.ref s1, .int 0, .int 0])), (s1, .inl (cA 5, 10, .inr (.inr (.inr (.inr FR))))), (m0, .inr (4, [x0, .ref m1, .ref m3, .ref m4, .ref m5, .ref m6, x6, x7, x8, x9, x10, x11, x12, x13, x14, x15, x16, x17, x18, x19])), (m1, .inr (6, [.ref m2, .int n2, .int k2])), (m2, .inl (cA 0, 240, .inl q2)), (m3, .inl (cA 0, 10, .inl q3)), (m4, .inl (cA 0, 10, .inl q4)), (m5, .inl (cA 0, 10, .inl q5)), (m6, .inl (cA 0, 10, .inl q6)), (a0, .inr (4, [.ref p0, .ref a1, .ref a3, .ref a4, .ref a5, .ref a6, .int 0, .int 0, .int 0, .long 0, .long 0, .long 0, .int 0, .int 0, .int 0, .int 0, .int 365, .int 0, .int 0, .int 0])), (a1, .inr (6, [.ref a2, .int 0, .int 0])), (a2, .inl (cA 0, 240, .inl e2)), (a3, .inl (cA 0, 10, .inl e3)), (a4, .inl (cA 0, 10, .inl e4)), (a5, .inl (cA 0, 10, .inl e5)), (a6, .inl (cA 0, 10, .inl e6)), (p0, .inr (7, [.int 0, .int 365, .int 0, .int 0, .ref p1, .int 0, .ref p2, .ref p3, .ref p4, .ref p5, .int 0, .ref p6, .int 0, .ref p7, .ref p8, .ref p9, .int 0])), (oo, .inl (cA 1, 1, .inr (.inl fo)))] s.heap := hP
  have hl := lv_entry ([.ref h0, .int a, .int 365, .ref oo]) (n := 5) (Nat.le_of_ble_eq_true rfl)
  rw [lg_entry_eq]
  generalize (lg_sl ([.ref h0, .int a, .int 365, .ref oo]) ++ List.replicate (5 - (lg_sl ([.ref h0, .int a, .int 365, .ref oo])).length) Slot.unset).toArray = ls at hl ⊢
  have hl : lv_has ls 5 [(0, .ref h0), (1, .int a), (2, .int 365), (3, .ref oo)] := hl
  refine lv_aload_n hx hb dL_setRate_0 rfl (lv_at hl 3 rfl) ?_
  refine lv_iconst (v := 0) hx hb dL_setRate_1 (by decide) ?_
  refine lv_aload_n hx hb dL_setRate_2 rfl (lv_at hl 0 rfl) ?_
  refine lv_iload_n hx hb dL_setRate_3 rfl (lv_at hl 1 rfl) ?_
  refine lv_iload_n hx hb dL_setRate_4 rfl (lv_at hl 2 rfl) ?_
  have hPc := hP.sub (ws' := [(h0, .inr (10, [.ref b0, .int 0, .ref p0, .ref u0, .ref r0, .ref a0, .ref t0, .ref s0, .ref o0])), (s0, .inr (5, [.ref s1, .int 0, .int 0])), (s1, .inl (cA 5, 10, .inr (.inr (.inr (.inr FR))))), (m0, .inr (4, [x0, .ref m1, .ref m3, .ref m4, .ref m5, .ref m6, x6, x7, x8, x9, x10, x11, x12, x13, x14, x15, x16, x17, x18, x19])), (m1, .inr (6, [.ref m2, .int n2, .int k2])), (m2, .inl (cA 0, 240, .inl q2)), (m3, .inl (cA 0, 10, .inl q3)), (m4, .inl (cA 0, 10, .inl q4)), (m5, .inl (cA 0, 10, .inl q5)), (m6, .inl (cA 0, 10, .inl q6)), (a0, .inr (4, [.ref p0, .ref a1, .ref a3, .ref a4, .ref a5, .ref a6, .int 0, .int 0, .int 0, .long 0, .long 0, .long 0, .int 0, .int 0, .int 0, .int 0, .int 365, .int 0, .int 0, .int 0])), (a1, .inr (6, [.ref a2, .int 0, .int 0])), (a2, .inl (cA 0, 240, .inl e2)), (a3, .inl (cA 0, 10, .inl e3)), (a4, .inl (cA 0, 10, .inl e4)), (a5, .inl (cA 0, 10, .inl e5)), (a6, .inl (cA 0, 10, .inl e6)), (p0, .inr (7, [.int 0, .int 365, .int 0, .int 0, .ref p1, .int 0, .ref p2, .ref p3, .ref p4, .ref p5, .int 0, .ref p6, .int 0, .ref p7, .ref p8, .ref p9, .int 0]))]) [0, 1, 2, 3, 4, 5, 6, 7, 8, 9, 10, 11, 12, 13, 14, 15, 16, 17] rfl
  have hDc := hD.sub (ws' := [(h0, .inr (10, [.ref b0, .int 0, .ref p0, .ref u0, .ref r0, .ref a0, .ref t0, .ref s0, .ref o0])), (s0, .inr (5, [.ref s1, .int 0, .int 0])), (s1, .inl (cA 5, 10, .inr (.inr (.inr (.inr FR))))), (m0, .inr (4, [x0, .ref m1, .ref m3, .ref m4, .ref m5, .ref m6, x6, x7, x8, x9, x10, x11, x12, x13, x14, x15, x16, x17, x18, x19])), (m1, .inr (6, [.ref m2, .int n2, .int k2])), (m2, .inl (cA 0, 240, .inl q2)), (m3, .inl (cA 0, 10, .inl q3)), (m4, .inl (cA 0, 10, .inl q4)), (m5, .inl (cA 0, 10, .inl q5)), (m6, .inl (cA 0, 10, .inl q6)), (a0, .inr (4, [.ref p0, .ref a1, .ref a3, .ref a4, .ref a5, .ref a6, .int 0, .int 0, .int 0, .long 0, .long 0, .long 0, .int 0, .int 0, .int 0, .int 0, .int 365, .int 0, .int 0, .int 0])), (a1, .inr (6, [.ref a2, .int 0, .int 0])), (a2, .inl (cA 0, 240, .inl e2)), (a3, .inl (cA 0, 10, .inl e3)), (a4, .inl (cA 0, 10, .inl e4)), (a5, .inl (cA 0, 10, .inl e5)), (a6, .inl (cA 0, 10, .inl e6)), (p0, .inr (7, [.int 0, .int 365, .int 0, .int 0, .ref p1, .int 0, .ref p2, .ref p3, .ref p4, .ref p5, .int 0, .ref p6, .int 0, .ref p7, .ref p8, .ref p9, .int 0]))]) [0, 1, 2, 3, 4, 5, 6, 7, 8, 9, 10, 11, 12, 13, 14, 15, 16, 17] (by decide) rfl
  have hFc := va_free (wc := [(h0, .inr (10, [.ref b0, .int 0, .ref p0, .ref u0, .ref r0, .ref a0, .ref t0, .ref s0, .ref o0])), (s0, .inr (5, [.ref s1, .int 0, .int 0])), (s1, .inl (cA 5, 10, .inr (.inr (.inr (.inr FR))))), (m0, .inr (4, [x0, .ref m1, .ref m3, .ref m4, .ref m5, .ref m6, x6, x7, x8, x9, x10, x11, x12, x13, x14, x15, x16, x17, x18, x19])), (m1, .inr (6, [.ref m2, .int n2, .int k2])), (m2, .inl (cA 0, 240, .inl q2)), (m3, .inl (cA 0, 10, .inl q3)), (m4, .inl (cA 0, 10, .inl q4)), (m5, .inl (cA 0, 10, .inl q5)), (m6, .inl (cA 0, 10, .inl q6)), (a0, .inr (4, [.ref p0, .ref a1, .ref a3, .ref a4, .ref a5, .ref a6, .int 0, .int 0, .int 0, .long 0, .long 0, .long 0, .int 0, .int 0, .int 0, .int 0, .int 365, .int 0, .int 0, .int 0])), (a1, .inr (6, [.ref a2, .int 0, .int 0])), (a2, .inl (cA 0, 240, .inl e2)), (a3, .inl (cA 0, 10, .inl e3)), (a4, .inl (cA 0, 10, .inl e4)), (a5, .inl (cA 0, 10, .inl e5)), (a6, .inl (cA 0, 10, .inl e6)), (p0, .inr (7, [.int 0, .int 365, .int 0, .int 0, .ref p1, .int 0, .ref p2, .ref p3, .ref p4, .ref p5, .int 0, .ref p6, .int 0, .ref p7, .ref p8, .ref p9, .int 0]))]) hD hS hA [0, 1, 2, 3, 4, 5, 6, 7, 8, 9, 10, 11, 12, 13, 14, 15, 16, 17] rfl
  refine va_calli (va_runV (As := [.int a, .int 365]) (rest := [.int 0, .ref oo]) ⟨hx, hb, hml, hown, hts⟩ (c_setRate_365 l D cA sa h0 b0 p0 u0 r0 a0 t0 s0 o0 s1 m0 m1 m2 m3 m4 m5 m6 a1 a2 a3 a4 a5 a6 p1 p2 p3 p4 p5 p6 p7 p8 p9 x0 x6 x7 x8 x9 x10 x11 x12 x13 x14 x15 x16 x17 x18 x19 n2 k2 q2 q3 q4 q5 q6 e2 e3 e4 e5 e6 FR a s.heap.size hF h1 h2) (cwV 2 hts gL_setRate_X9_setRate rfl rfl rfl (by decide +kernel) ⟨(Nat.le_of_ble_eq_true rfl), (Nat.le_of_ble_eq_true rfl)⟩) ⟨Wd.blind, va_recv hK hPc (ci := 10) (q0 := 0) rfl rfl, fun U hU hW => ⟨rfl, Wd.call hPc hDc hK hC hZ hS hFc U hU hW⟩⟩ rfl rfl hl.1 rfl (lv_room (Nat.le_of_ble_eq_true rfl)) dL_setRate_5 ⟨(Nat.le_of_ble_eq_true rfl), (Nat.le_of_ble_eq_true rfl)⟩) hS (fun q _ h => hFc q h) hFc (fun rn1 u t H1 locs ht hvm hw hB hz1 hk1 hS => ?_)
  obtain ⟨hP1, hD1⟩ := hB
  rw [ht] at hP1
  obtain ⟨hP, hD⟩ := va_join (wr := [(oo, .inl (cA 1, 1, .inr (.inl fo)))]) (w1 := []) hP hD [0, 1, 2, 3, 4, 5, 6, 7, 8, 9, 10, 11, 12, 13, 14, 15, 16, 17] [18] rfl rfl (by decide) (by decide) hk1 hFc hP1 hD1
  generalize H1 = H at hP hS ⊢
  have hP : va_P D vwCl [(oo, .inl (cA 1, 1, .inr (.inl fo)))] H := hP
  have hD : va_D A [(oo, .inl (cA 1, 1, .inr (.inl fo)))] := hD
  obtain rfl : rn1 = 0 := hw
  refine lv_i2l (v := 0) hx hb dL_setRate_8 (by decide) ?_
  refine va_last hx hb hK hP hD hS 0 1 rfl rfl (vp_in_iff.mpr (by decide)) dL_setRate_9 (fun H locs hP hD hS => ?_)
  have hP : va_P D vwCl [(oo, .inl (cA 1, 1, .inr (.inl (vp_updL fo 0 0))))] H := hP
  have hD : va_D A [(oo, .inl (cA 1, 1, .inr (.inl (vp_updL fo 0 0))))] := hD
  refine lv_goto (tgt := 17) hx hb dL_setRate_10 (by decide) ?_
  refine lv_iconst (v := 0) hx hb dL_setRate_17 (by decide) ?_
  have hP9 := hP.sub (ws' := [(oo, .inl (cA 1, 1, .inr (.inl (vp_updL fo 0 0))))]) [0] rfl
  have hD9 := hD.sub (ws' := [(oo, .inl (cA 1, 1, .inr (.inl (vp_updL fo 0 0))))]) [0] (by decide) rfl
  refine W.widen (k := 0) (n := 0) (Nat.le_of_ble_eq_true rfl) (Nat.le_of_ble_eq_true rfl) ?_
  exact W.iret (v := 0) hx hb hr (fun t ht hW => ⟨⟨0, (), rfl, rfl, by rw [ht]; exact hP9, hD9⟩, hS.F ht⟩) hS.2.2 dL_setRate_18

set_option maxHeartbeats 4000000 in
set_option maxRecDepth 100000 in
/-- the wrapper of setRate -/
theorem c_L_setRate_thr1 (l : Launch) (D : va_G) (cA : Nat → ClassId) (sa : Nat → Nat) (h0 b0 p0 u0 r0 a0 t0 s0 o0 : Nat) (a b : Int32) (oo : Nat) (fo : Nat → Int64) (sz : Nat) (hl9 : l.stackTraces = false) (h : a < 0 ∨ 3000 < a) : Met l yL_setRate wsL_setRate ({ frames := 8, cells := 1, slots := 6, locals := 135 }) (va_Pc [.ref h0, .int a, .int b, .ref oo] (Wd D cA sa [(h0, .inr (10, [.ref b0, .int 0, .ref p0, .ref u0, .ref r0, .ref a0, .ref t0, .ref s0, .ref o0])), (oo, .inl (cA 1, 1, .inr (.inl fo)))] sz)) (va_Qi (fun (r : Int32) (_ : Unit) => r = 1) (fun (_ : Unit) t => Wq D (va_A [(h0, .inr (10, [.ref b0, .int 0, .ref p0, .ref u0, .ref r0, .ref a0, .ref t0, .ref s0, .ref o0])), (oo, .inl (cA 1, 1, .inr (.inl fo)))] sz) [] t) (va_A [(h0, .inr (10, [.ref b0, .int 0, .ref p0, .ref u0, .ref r0, .ref a0, .ref t0, .ref s0, .ref o0])), (oo, .inl (cA 1, 1, .inr (.inl fo)))] sz)) 1 6 (va_A [(h0, .inr (10, [.ref b0, .int 0, .ref p0, .ref u0, .ref r0, .ref a0, .ref t0, .ref s0, .ref o0])), (oo, .inl (cA 1, 1, .inr (.inl fo)))] sz) := by
  refine va_MetW (cc := cL_setRate) (maxL := 5) (ret := (some .int)) (hh := [(0, 10, 13, 13)]) (by decide) rfl ?_
  intro p e s m args below meth c s₁ B hml hv
  obtain ⟨rfl, hsz, hP, hK, hD0, hC, hZ⟩ := hv
  have hx := B.exec
  have hb := B.bytes
  have hr := B.returns
  have hts := atoms_spec (ws := wsL_setRate) B.pre
  have hown : s.vm.findClass RL = some m.cls := findClass_of_methodNamed B.named
  have hlocks := B.notSynchronized
  have htab := vx_table (x := yL_setRate) B (hts (.codeWith yL_setRate cL_setRate 5 (some .int) [(0, 10, 13, 13)]) List.mem_cons_self)
  subst hsz
  have hD := hD0.self (sz := s.heap.size)
  generalize hAe : va_A [(h0, .inr (10, [.ref b0, .int 0, .ref p0, .ref u0, .ref r0, .ref a0, .ref t0, .ref s0, .ref o0])), (oo, .inl (cA 1, 1, .inr (.inl fo)))] s.heap.size = A at hD hZ ⊢
  have hA : ∀ q : Nat, s.heap.size ≤ q → A q := fun q h => by rw [← hAe]; exact Or.inr h
  have hS : va_S A s.heap s.heap [] := va_S.rf
  have hP : va_P D vwCl [(h0, .inr (10, [.ref b0, .int 0, .ref p0, .ref u0, .ref r0, .ref a0, .ref t0, .ref s0, .ref o0])), (oo, .inl (cA 1, 1, .inr (.inl fo)))] s.heap := hP
  have hl := lv_entry ([.ref h0, .int a, .int b, .ref oo]) (n := 5) (Nat.le_of_ble_eq_true rfl)
  rw [lg_entry_eq]
  generalize (lg_sl ([.ref h0, .int a, .int b, .ref oo]) ++ List.replicate (5 - (lg_sl ([.ref h0, .int a, .int b, .ref oo])).length) Slot.unset).toArray = ls at hl ⊢
  have hl : lv_has ls 5 [(0, .ref h0), (1, .int a), (2, .int b), (3, .ref oo)] := hl
  refine lv_aload_n hx hb dL_setRate_0 rfl (lv_at hl 3 rfl) ?_
  refine lv_iconst (v := 0) hx hb dL_setRate_1 (by decide) ?_
  refine lv_aload_n hx hb dL_setRate_2 rfl (lv_at hl 0 rfl) ?_
  refine lv_iload_n hx hb dL_setRate_3 rfl (lv_at hl 1 rfl) ?_
  refine lv_iload_n hx hb dL_setRate_4 rfl (lv_at hl 2 rfl) ?_
  have hPc := hP.sub (ws' := [(h0, .inr (10, [.ref b0, .int 0, .ref p0, .ref u0, .ref r0, .ref a0, .ref t0, .ref s0, .ref o0]))]) [0] rfl
  have hDc := hD.sub (ws' := [(h0, .inr (10, [.ref b0, .int 0, .ref p0, .ref u0, .ref r0, .ref a0, .ref t0, .ref s0, .ref o0]))]) [0] (by decide) rfl
  have hFc := va_free (wc := [(h0, .inr (10, [.ref b0, .int 0, .ref p0, .ref u0, .ref r0, .ref a0, .ref t0, .ref s0, .ref o0]))]) hD hS hA [0] rfl
  refine vx_calli (vx_runV (As := [.int a, .int b]) (rest := [.int 0, .ref oo]) ⟨hx, hb, hml, hown, hts⟩ (c_setRate_thr1 l D cA sa h0 b0 p0 u0 r0 a0 t0 s0 o0 a b s.heap.size hl9 h) (cwV 2 hts gL_setRate_X9_setRate rfl rfl rfl (by decide +kernel) ⟨(Nat.le_of_ble_eq_true rfl), (Nat.le_of_ble_eq_true rfl)⟩) ⟨Wd.blind, va_recv hK hPc (ci := 10) (q0 := 0) rfl rfl, fun U hU hW => ⟨rfl, Wd.call hPc hDc hK hC hZ hS hFc U hU hW⟩⟩ rfl rfl hl.1 rfl (lv_room (Nat.le_of_ble_eq_true rfl)) dL_setRate_5 ⟨(Nat.le_of_ble_eq_true rfl), (Nat.le_of_ble_eq_true rfl)⟩) hS (fun q _ h => hFc q h) hFc (fun q _ h => hFc q h) (fun E ce q9 u t H1 locs ht hvm hpx hE hz1 hk1 hS hcell hv9 hcl => ?_) (fun r9 u t H1 locs ht hvm hw hB hz1 hk1 hS => hw.elim)
  have hE : E = "java/lang/IllegalArgumentException" := hE
  subst hE
  refine vx_catch hown [] ⟨0, 10, 13, 13⟩ (tableOf []) (htab.trans rfl) (fun z h => absurd h List.not_mem_nil) (by decide) (by decide) (name := "java/lang/IllegalArgumentException") (hts (.classLink RL 13 "java/lang/IllegalArgumentException") (by decide +kernel)) (hC.c (by decide +kernel)) hcell hv9 hcl ?_
  generalize H1 = H at hS ⊢
  have hP : va_P D vwCl [] H := fun k q h => by simp at h
  have hD : va_D A [] := ⟨fun i j p q h => by simp at h, fun k q h => by simp at h⟩
  refine lv_astore (lv' := [(4, .ref q9), (0, .ref h0), (1, .int a), (2, .int b), (3, .ref oo)]) hx hb dL_setRate_13 hl (by decide) rfl (fun ls hl => ?_)
  refine lv_iconst (v := 1) hx hb dL_setRate_15 (by decide) ?_
  have hP9 := hP.sub (ws' := []) [] rfl
  have hD9 := hD.sub (ws' := []) [] (by decide) rfl
  refine W.widen (k := 1) (n := 6) (Nat.le_of_ble_eq_true rfl) (Nat.le_of_ble_eq_true rfl) ?_
  exact W.iret (v := 1) hx hb hr (fun t ht hW => ⟨⟨1, (), rfl, rfl, by rw [ht]; exact hP9, hD9⟩, hS.F ht⟩) hS.2.2 dL_setRate_16

set_option maxHeartbeats 4000000 in
set_option maxRecDepth 100000 in
/-- the wrapper of setRate -/
theorem c_L_setRate_thr2 (l : Launch) (D : va_G) (cA : Nat → ClassId) (sa : Nat → Nat) (h0 b0 p0 u0 r0 a0 t0 s0 o0 : Nat) (a b : Int32) (oo : Nat) (fo : Nat → Int64) (sz : Nat) (hl9 : l.stackTraces = false) (h1 : ¬ a < 0) (h2 : ¬ 3000 < a) (h3 : ¬ b.toInt64 = 360) (h4 : ¬ b.toInt64 = 365) : Met l yL_setRate wsL_setRate ({ frames := 7, cells := 1, slots := 6, locals := 113 }) (va_Pc [.ref h0, .int a, .int b, .ref oo] (Wd D cA sa [(h0, .inr (10, [.ref b0, .int 0, .ref p0, .ref u0, .ref r0, .ref a0, .ref t0, .ref s0, .ref o0])), (oo, .inl (cA 1, 1, .inr (.inl fo)))] sz)) (va_Qi (fun (r : Int32) (_ : Unit) => r = 1) (fun (_ : Unit) t => Wq D (va_A [(h0, .inr (10, [.ref b0, .int 0, .ref p0, .ref u0, .ref r0, .ref a0, .ref t0, .ref s0, .ref o0])), (oo, .inl (cA 1, 1, .inr (.inl fo)))] sz) [] t) (va_A [(h0, .inr (10, [.ref b0, .int 0, .ref p0, .ref u0, .ref r0, .ref a0, .ref t0, .ref s0, .ref o0])), (oo, .inl (cA 1, 1, .inr (.inl fo)))] sz)) 1 6 (va_A [(h0, .inr (10, [.ref b0, .int 0, .ref p0, .ref u0, .ref r0, .ref a0, .ref t0, .ref s0, .ref o0])), (oo, .inl (cA 1, 1, .inr (.inl fo)))] sz) := by
  refine va_MetW (cc := cL_setRate) (maxL := 5) (ret := (some .int)) (hh := [(0, 10, 13, 13)]) (by decide) rfl ?_
  intro p e s m args below meth c s₁ B hml hv
  obtain ⟨rfl, hsz, hP, hK, hD0, hC, hZ⟩ := hv
  have hx := B.exec
  have hb := B.bytes
  have hr := B.returns
  have hts := atoms_spec (ws := wsL_setRate) B.pre
  have hown : s.vm.findClass RL = some m.cls := findClass_of_methodNamed B.named
  have hlocks := B.notSynchronized
  have htab := vx_table (x := yL_setRate) B (hts (.codeWith yL_setRate cL_setRate 5 (some .int) [(0, 10, 13, 13)]) List.mem_cons_self)
  subst hsz
  have hD := hD0.self (sz := s.heap.size)
  generalize hAe : va_A [(h0, .inr (10, [.ref b0, .int 0, .ref p0, .ref u0, .ref r0, .ref a0, .ref t0, .ref s0, .ref o0])), (oo, .inl (cA 1, 1, .inr (.inl fo)))] s.heap.size = A at hD hZ ⊢
  have hA : ∀ q : Nat, s.heap.size ≤ q → A q := fun q h => by rw [← hAe]; exact Or.inr h
  have hS : va_S A s.heap s.heap [] := va_S.rf
  have hP : va_P D vwCl [(h0, .inr (10, [.ref b0, .int 0, .ref p0, .ref u0, .ref r0, .ref a0, .ref t0, .ref s0, .ref o0])), (oo, .inl (cA 1, 1, .inr (.inl fo)))] s.heap := hP
  have hl := lv_entry ([.ref h0, .int a, .int b, .ref oo]) (n := 5) (Nat.le_of_ble_eq_true rfl)
  rw [lg_entry_eq]
  generalize (lg_sl ([.ref h0, .int a, .int b, .ref oo]) ++ List.replicate (5 - (lg_sl ([.ref h0, .int a, .int b, .ref oo])).length) Slot.unset).toArray = ls at hl ⊢
  have hl : lv_has ls 5 [(0, .ref h0), (1, .int a), (2, .int b), (3, .ref oo)] := hl
  refine lv_aload_n hx hb dL_setRate_0 rfl (lv_at hl 3 rfl) ?_
  refine lv_iconst (v := 0) hx hb dL_setRate_1 (by decide) ?_
  refine lv_aload_n hx hb dL_setRate_2 rfl (lv_at hl 0 rfl) ?_
  refine lv_iload_n hx hb dL_setRate_3 rfl (lv_at hl 1 rfl) ?_
  refine lv_iload_n hx hb dL_setRate_4 rfl (lv_at hl 2 rfl) ?_
  have hPc := hP.sub (ws' := [(h0, .inr (10, [.ref b0, .int 0, .ref p0, .ref u0, .ref r0, .ref a0, .ref t0, .ref s0, .ref o0]))]) [0] rfl
  have hDc := hD.sub (ws' := [(h0, .inr (10, [.ref b0, .int 0, .ref p0, .ref u0, .ref r0, .ref a0, .ref t0, .ref s0, .ref o0]))]) [0] (by decide) rfl
  have hFc := va_free (wc := [(h0, .inr (10, [.ref b0, .int 0, .ref p0, .ref u0, .ref r0, .ref a0, .ref t0, .ref s0, .ref o0]))]) hD hS hA [0] rfl
  refine vx_calli (vx_runV (As := [.int a, .int b]) (rest := [.int 0, .ref oo]) ⟨hx, hb, hml, hown, hts⟩ (c_setRate_thr2 l D cA sa h0 b0 p0 u0 r0 a0 t0 s0 o0 a b s.heap.size hl9 h1 h2 h3 h4) (cwV 2 hts gL_setRate_X9_setRate rfl rfl rfl (by decide +kernel) ⟨(Nat.le_of_ble_eq_true rfl), (Nat.le_of_ble_eq_true rfl)⟩) ⟨Wd.blind, va_recv hK hPc (ci := 10) (q0 := 0) rfl rfl, fun U hU hW => ⟨rfl, Wd.call hPc hDc hK hC hZ hS hFc U hU hW⟩⟩ rfl rfl hl.1 rfl (lv_room (Nat.le_of_ble_eq_true rfl)) dL_setRate_5 ⟨(Nat.le_of_ble_eq_true rfl), (Nat.le_of_ble_eq_true rfl)⟩) hS (fun q _ h => hFc q h) hFc (fun q _ h => hFc q h) (fun E ce q9 u t H1 locs ht hvm hpx hE hz1 hk1 hS hcell hv9 hcl => ?_) (fun r9 u t H1 locs ht hvm hw hB hz1 hk1 hS => hw.elim)
  have hE : E = "java/lang/IllegalArgumentException" := hE
  subst hE
  refine vx_catch hown [] ⟨0, 10, 13, 13⟩ (tableOf []) (htab.trans rfl) (fun z h => absurd h List.not_mem_nil) (by decide) (by decide) (name := "java/lang/IllegalArgumentException") (hts (.classLink RL 13 "java/lang/IllegalArgumentException") (by decide +kernel)) (hC.c (by decide +kernel)) hcell hv9 hcl ?_
  generalize H1 = H at hS ⊢
  have hP : va_P D vwCl [] H := fun k q h => by simp at h
  have hD : va_D A [] := ⟨fun i j p q h => by simp at h, fun k q h => by simp at h⟩
  refine lv_astore (lv' := [(4, .ref q9), (0, .ref h0), (1, .int a), (2, .int b), (3, .ref oo)]) hx hb dL_setRate_13 hl (by decide) rfl (fun ls hl => ?_)
  refine lv_iconst (v := 1) hx hb dL_setRate_15 (by decide) ?_
  have hP9 := hP.sub (ws' := []) [] rfl
  have hD9 := hD.sub (ws' := []) [] (by decide) rfl
  refine W.widen (k := 1) (n := 6) (Nat.le_of_ble_eq_true rfl) (Nat.le_of_ble_eq_true rfl) ?_
  exact W.iret (v := 1) hx hb hr (fun t ht hW => ⟨⟨1, (), rfl, rfl, by rw [ht]; exact hP9, hD9⟩, hS.F ht⟩) hS.2.2 dL_setRate_16
