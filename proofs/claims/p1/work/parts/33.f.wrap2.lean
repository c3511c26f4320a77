set_option maxHeartbeats 4000000 in
set_option maxRecDepth 100000 in
/-- the wrapper of load -/
theorem c_L_load_ret (l : Launch) (D : va_G) (cA : Nat → ClassId) (sa : Nat → Nat) (h0 b0 p0 u0 r0 a0 t0 s0 o0 u1 u2 u3 u4 u5 u6 u7 u8 u9 r1 g1 g2 g3 s1 a1 a2 a3 a4 a5 a6 : Nat) (fk ft e3 e4 e5 e6 : Nat → Int32) (fv : Nat → Int64) (oo : Nat) (fo : Nat → Int64) (sz : Nat) : Met l yL_load wsL_load ({ frames := 9, cells := 0, slots := 0, locals := 207 }) (va_Pc [.ref h0, .int 0, .ref oo] (Wd D cA sa [(h0, .inr (10, [.ref b0, .int 0, .ref p0, .ref u0, .ref r0, .ref a0, .ref t0, .ref s0, .ref o0])), (r0, .inr (8, [.ref r1, .ref u0, .int 0, .int 0, .int 0, .long 0, .int 0, .int 0, .int (-1)])), (r1, .inr (9, [.ref g1, .ref g2, .ref g3, .int 0])), (g1, .inl (cA 0, 701, .inl fk)), (g2, .inl (cA 0, 701, .inl ft)), (g3, .inl (cA 1, 701, .inr (.inl fv))), (u0, .inr (7, [.int 0, .int 365, .int 0, .int 0, .ref u1, .int 0, .ref u2, .ref u3, .ref u4, .ref u5, .int 0, .ref u6, .int 0, .ref u7, .ref u8, .ref u9, .int 0])), (a0, .inr (4, [.ref p0, .ref a1, .ref a3, .ref a4, .ref a5, .ref a6, .int 0, .int 0, .int 0, .long 0, .long 0, .long 0, .int 0, .int 0, .int 0, .int 0, .int 365, .int 0, .int 0, .int 0])), (a1, .inr (6, [.ref a2, .int 0, .int 0])), (a3, .inl (cA 0, 10, .inl e3)), (a4, .inl (cA 0, 10, .inl e4)), (a5, .inl (cA 0, 10, .inl e5)), (a6, .inl (cA 0, 10, .inl e6)), (s0, .inr (5, [.ref s1, .int 0, .int 0])), (oo, .inl (cA 1, 1, .inr (.inl fo)))] sz)) (va_Qi (fun (r : Int32) (_ : Unit) => r = 0) (fun (_ : Unit) t => Wq D (va_A [(h0, .inr (10, [.ref b0, .int 0, .ref p0, .ref u0, .ref r0, .ref a0, .ref t0, .ref s0, .ref o0])), (r0, .inr (8, [.ref r1, .ref u0, .int 0, .int 0, .int 0, .long 0, .int 0, .int 0, .int (-1)])), (r1, .inr (9, [.ref g1, .ref g2, .ref g3, .int 0])), (g1, .inl (cA 0, 701, .inl fk)), (g2, .inl (cA 0, 701, .inl ft)), (g3, .inl (cA 1, 701, .inr (.inl fv))), (u0, .inr (7, [.int 0, .int 365, .int 0, .int 0, .ref u1, .int 0, .ref u2, .ref u3, .ref u4, .ref u5, .int 0, .ref u6, .int 0, .ref u7, .ref u8, .ref u9, .int 0])), (a0, .inr (4, [.ref p0, .ref a1, .ref a3, .ref a4, .ref a5, .ref a6, .int 0, .int 0, .int 0, .long 0, .long 0, .long 0, .int 0, .int 0, .int 0, .int 0, .int 365, .int 0, .int 0, .int 0])), (a1, .inr (6, [.ref a2, .int 0, .int 0])), (a3, .inl (cA 0, 10, .inl e3)), (a4, .inl (cA 0, 10, .inl e4)), (a5, .inl (cA 0, 10, .inl e5)), (a6, .inl (cA 0, 10, .inl e6)), (s0, .inr (5, [.ref s1, .int 0, .int 0])), (oo, .inl (cA 1, 1, .inr (.inl fo)))] sz) [(oo, .inl (cA 1, 1, .inr (.inl (vp_updL fo 0 0))))] t) (va_A [(h0, .inr (10, [.ref b0, .int 0, .ref p0, .ref u0, .ref r0, .ref a0, .ref t0, .ref s0, .ref o0])), (r0, .inr (8, [.ref r1, .ref u0, .int 0, .int 0, .int 0, .long 0, .int 0, .int 0, .int (-1)])), (r1, .inr (9, [.ref g1, .ref g2, .ref g3, .int 0])), (g1, .inl (cA 0, 701, .inl fk)), (g2, .inl (cA 0, 701, .inl ft)), (g3, .inl (cA 1, 701, .inr (.inl fv))), (u0, .inr (7, [.int 0, .int 365, .int 0, .int 0, .ref u1, .int 0, .ref u2, .ref u3, .ref u4, .ref u5, .int 0, .ref u6, .int 0, .ref u7, .ref u8, .ref u9, .int 0])), (a0, .inr (4, [.ref p0, .ref a1, .ref a3, .ref a4, .ref a5, .ref a6, .int 0, .int 0, .int 0, .long 0, .long 0, .long 0, .int 0, .int 0, .int 0, .int 0, .int 365, .int 0, .int 0, .int 0])), (a1, .inr (6, [.ref a2, .int 0, .int 0])), (a3, .inl (cA 0, 10, .inl e3)), (a4, .inl (cA 0, 10, .inl e4)), (a5, .inl (cA 0, 10, .inl e5)), (a6, .inl (cA 0, 10, .inl e6)), (s0, .inr (5, [.ref s1, .int 0, .int 0])), (oo, .inl (cA 1, 1, .inr (.inl fo)))] sz)) 0 0 (va_A [(h0, .inr (10, [.ref b0, .int 0, .ref p0, .ref u0, .ref r0, .ref a0, .ref t0, .ref s0, .ref o0])), (r0, .inr (8, [.ref r1, .ref u0, .int 0, .int 0, .int 0, .long 0, .int 0, .int 0, .int (-1)])), (r1, .inr (9, [.ref g1, .ref g2, .ref g3, .int 0])), (g1, .inl (cA 0, 701, .inl fk)), (g2, .inl (cA 0, 701, .inl ft)), (g3, .inl (cA 1, 701, .inr (.inl fv))), (u0, .inr (7, [.int 0, .int 365, .int 0, .int 0, .ref u1, .int 0, .ref u2, .ref u3, .ref u4, .ref u5, .int 0, .ref u6, .int 0, .ref u7, .ref u8, .ref u9, .int 0])), (a0, .inr (4, [.ref p0, .ref a1, .ref a3, .ref a4, .ref a5, .ref a6, .int 0, .int 0, .int 0, .long 0, .long 0, .long 0, .int 0, .int 0, .int 0, .int 0, .int 365, .int 0, .int 0, .int 0])), (a1, .inr (6, [.ref a2, .int 0, .int 0])), (a3, .inl (cA 0, 10, .inl e3)), (a4, .inl (cA 0, 10, .inl e4)), (a5, .inl (cA 0, 10, .inl e5)), (a6, .inl (cA 0, 10, .inl e6)), (s0, .inr (5, [.ref s1, .int 0, .int 0])), (oo, .inl (cA 1, 1, .inr (.inl fo)))] sz) := by
  refine va_MetW (cc := cL_load) (maxL := 4) (ret := (some .int)) (hh := [(0, 9, 12, 13)]) (by decide) rfl ?_
  intro p e s m args below meth c s₁ B hml hv
  obtain ⟨rfl, hsz, hP, hK, hD0, hC, hZ⟩ := hv
  have hx := B.exec
  have hb := B.bytes
  have hr := B.returns
  have hts := atoms_spec (ws := wsL_load) B.pre
  have hown : s.vm.findClass RL = some m.cls := findClass_of_methodNamed B.named
  have hlocks := B.notSynchronized
  have htab := vx_table (x := yL_load) B (hts (.codeWith yL_load cL_load 4 (some .int) [(0, 9, 12, 13)]) List.mem_cons_self)
  subst hsz
  have hD := hD0.self (sz := s.heap.size)
  generalize hAe : va_A [(h0, .inr (10, [.ref b0, .int 0, .ref p0, .ref u0, .ref r0, .ref a0, .ref t0, .ref s0, .ref o0])), (r0, .inr (8, [.ref r1, .ref u0, .int 0, .int 0, .int 0, .long 0, .int 0, .int 0, .int (-1)])), (r1, .inr (9, [.ref g1, .ref g2, .ref g3, .int 0])), (g1, .inl (cA 0, 701, .inl fk)), (g2, .inl (cA 0, 701, .inl ft)), (g3, .inl (cA 1, 701, .inr (.inl fv))), (u0, .inr (7, [.int 0, .int 365, .int 0, .int 0, .ref u1, .int 0, .ref u2, .ref u3, .ref u4, .ref u5, .int 0, .ref u6, .int 0, .ref u7, .ref u8, .ref u9, .int 0])), (a0, .inr (4, [.ref p0, .ref a1, .ref a3, .ref a4, .ref a5, .ref a6, .int 0, .int 0, .int 0, .long 0, .long 0, .long 0, .int 0, .int 0, .int 0, .int 0, .int 365, .int 0, .int 0, .int 0])), (a1, .inr (6, [.ref a2, .int 0, .int 0])), (a3, .inl (cA 0, 10, .inl e3)), (a4, .inl (cA 0, 10, .inl e4)), (a5, .inl (cA 0, 10, .inl e5)), (a6, .inl (cA 0, 10, .inl e6)), (s0, .inr (5, [.ref s1, .int 0, .int 0])), (oo, .inl (cA 1, 1, .inr (.inl fo)))] s.heap.size = A at hD hZ ⊢
  have hA : ∀ q : Nat, s.heap.size ≤ q → A q := fun q h => by rw [← hAe]; exact Or.inr h
  have hS : va_S A s.heap s.heap [] := va_S.rf
  have hP : va_P D vwCl [(h0, .inr (10, [.ref b0, .int 0, .ref p0, .ref u0, .ref r0, .ref a0, .ref t0, .ref s0, .ref o0])), (r0, .inr (8, [.ref r1, .ref u0, .int 0, .int 0, .int 0, .long 0, .int 0, .int 0, .int (-1)])), (r1, .inr (9, [.ref g1, .ref g2, .ref g3, .int 0])), (g1, .inl (cA 0, 701, .inl fk)), (g2, .inl (cA 0, 701, .inl ft)), (g3, .inl (cA 1, 701, .inr (.inl fv))), (u0, .inr (7, [.int 0, .int 365, .int 0, .int 0, .ref u1, .int 0, .ref u2, .ref u3, .ref u4, .ref u5, .int 0, .ref u6, .int 0, .ref u7, .ref u8, .ref u9, .int 0])), (a0, .inr (4, [.ref p0, .ref a1, .ref a3, .ref a4, .ref a5, .ref a6, .int 0, .int 0, .int 0, .long 0, .long 0, .long 0, .int 0, .int 0, .int 0, .int 0, .int 365, .int 0, .int 0, .int 0])), (a1, .inr (6, [.ref a2, .int 0, .int 0])), (a3, .inl (cA 0, 10, .inl e3)), (a4, .inl (cA 0, 10, .inl e4)), (a5, .inl (cA 0, 10, .inl e5)), (a6, .inl (cA 0, 10, .inl e6)), (s0, .inr (5, [.ref s1, .int 0, .int 0])), (oo, .inl (cA 1, 1, .inr (.inl fo)))] s.heap := hP
  have hl := lv_entry ([.ref h0, .int 0, .ref oo]) (n := 4) (Nat.le_of_ble_eq_true rfl)
  rw [lg_entry_eq]
  generalize (lg_sl ([.ref h0, .int 0, .ref oo]) ++ List.replicate (4 - (lg_sl ([.ref h0, .int 0, .ref oo])).length) Slot.unset).toArray = ls at hl ⊢
  have hl : lv_has ls 4 [(0, .ref h0), (1, .int 0), (2, .ref oo)] := hl
  refine lv_aload_n hx hb dL_load_0 rfl (lv_at hl 2 rfl) ?_
  refine lv_iconst (v := 0) hx hb dL_load_1 (by decide) ?_
  refine lv_aload_n hx hb dL_load_2 rfl (lv_at hl 0 rfl) ?_
  refine lv_iload_n hx hb dL_load_3 rfl (lv_at hl 1 rfl) ?_
  have hPc := hP.sub (ws' := [(h0, .inr (10, [.ref b0, .int 0, .ref p0, .ref u0, .ref r0, .ref a0, .ref t0, .ref s0, .ref o0])), (r0, .inr (8, [.ref r1, .ref u0, .int 0, .int 0, .int 0, .long 0, .int 0, .int 0, .int (-1)])), (r1, .inr (9, [.ref g1, .ref g2, .ref g3, .int 0])), (g1, .inl (cA 0, 701, .inl fk)), (g2, .inl (cA 0, 701, .inl ft)), (g3, .inl (cA 1, 701, .inr (.inl fv))), (u0, .inr (7, [.int 0, .int 365, .int 0, .int 0, .ref u1, .int 0, .ref u2, .ref u3, .ref u4, .ref u5, .int 0, .ref u6, .int 0, .ref u7, .ref u8, .ref u9, .int 0])), (a0, .inr (4, [.ref p0, .ref a1, .ref a3, .ref a4, .ref a5, .ref a6, .int 0, .int 0, .int 0, .long 0, .long 0, .long 0, .int 0, .int 0, .int 0, .int 0, .int 365, .int 0, .int 0, .int 0])), (a1, .inr (6, [.ref a2, .int 0, .int 0])), (a3, .inl (cA 0, 10, .inl e3)), (a4, .inl (cA 0, 10, .inl e4)), (a5, .inl (cA 0, 10, .inl e5)), (a6, .inl (cA 0, 10, .inl e6)), (s0, .inr (5, [.ref s1, .int 0, .int 0]))]) [0, 1, 2, 3, 4, 5, 6, 7, 8, 9, 10, 11, 12, 13] rfl
  have hDc := hD.sub (ws' := [(h0, .inr (10, [.ref b0, .int 0, .ref p0, .ref u0, .ref r0, .ref a0, .ref t0, .ref s0, .ref o0])), (r0, .inr (8, [.ref r1, .ref u0, .int 0, .int 0, .int 0, .long 0, .int 0, .int 0, .int (-1)])), (r1, .inr (9, [.ref g1, .ref g2, .ref g3, .int 0])), (g1, .inl (cA 0, 701, .inl fk)), (g2, .inl (cA 0, 701, .inl ft)), (g3, .inl (cA 1, 701, .inr (.inl fv))), (u0, .inr (7, [.int 0, .int 365, .int 0, .int 0, .ref u1, .int 0, .ref u2, .ref u3, .ref u4, .ref u5, .int 0, .ref u6, .int 0, .ref u7, .ref u8, .ref u9, .int 0])), (a0, .inr (4, [.ref p0, .ref a1, .ref a3, .ref a4, .ref a5, .ref a6, .int 0, .int 0, .int 0, .long 0, .long 0, .long 0, .int 0, .int 0, .int 0, .int 0, .int 365, .int 0, .int 0, .int 0])), (a1, .inr (6, [.ref a2, .int 0, .int 0])), (a3, .inl (cA 0, 10, .inl e3)), (a4, .inl (cA 0, 10, .inl e4)), (a5, .inl (cA 0, 10, .inl e5)), (a6, .inl (cA 0, 10, .inl e6)), (s0, .inr (5, [.ref s1, .int 0, .int 0]))]) [0, 1, 2, 3, 4, 5, 6, 7, 8, 9, 10, 11, 12, 13] (by decide) rfl
  have hFc := va_free (wc := [(h0, .inr (10, [.ref b0, .int 0, .ref p0, .ref u0, .ref r0, .ref a0, .ref t0, .ref s0, .ref o0])), (r0, .inr (8, [.ref r1, .ref u0, .int 0, .int 0, .int 0, .long 0, .int 0, .int 0, .int (-1)])), (r1, .inr (9, [.ref g1, .ref g2, .ref g3, .int 0])), (g1, .inl (cA 0, 701, .inl fk)), (g2, .inl (cA 0, 701, .inl ft)), (g3, .inl (cA 1, 701, .inr (.inl fv))), (u0, .inr (7, [.int 0, .int 365, .int 0, .int 0, .ref u1, .int 0, .ref u2, .ref u3, .ref u4, .ref u5, .int 0, .ref u6, .int 0, .ref u7, .ref u8, .ref u9, .int 0])), (a0, .inr (4, [.ref p0, .ref a1, .ref a3, .ref a4, .ref a5, .ref a6, .int 0, .int 0, .int 0, .long 0, .long 0, .long 0, .int 0, .int 0, .int 0, .int 0, .int 365, .int 0, .int 0, .int 0])), (a1, .inr (6, [.ref a2, .int 0, .int 0])), (a3, .inl (cA 0, 10, .inl e3)), (a4, .inl (cA 0, 10, .inl e4)), (a5, .inl (cA 0, 10, .inl e5)), (a6, .inl (cA 0, 10, .inl e6)), (s0, .inr (5, [.ref s1, .int 0, .int 0]))]) hD hS hA [0, 1, 2, 3, 4, 5, 6, 7, 8, 9, 10, 11, 12, 13] rfl
  refine va_calli (va_runV (As := [.int 0]) (rest := [.int 0, .ref oo]) ⟨hx, hb, hml, hown, hts⟩ (c_load_ret l D cA sa h0 b0 p0 u0 r0 a0 t0 s0 o0 u1 u2 u3 u4 u5 u6 u7 u8 u9 r1 g1 g2 g3 s1 a1 a2 a3 a4 a5 a6 fk ft e3 e4 e5 e6 fv s.heap.size) (cwV 1 hts gL_load_X9_load rfl rfl rfl (by decide +kernel) ⟨(Nat.le_of_ble_eq_true rfl), (Nat.le_of_ble_eq_true rfl)⟩) ⟨Wd.blind, va_recv hK hPc (ci := 10) (q0 := 0) rfl rfl, fun U hU hW => ⟨rfl, Wd.call hPc hDc hK hC hZ hS hFc U hU hW⟩⟩ rfl rfl hl.1 rfl (lv_room (Nat.le_of_ble_eq_true rfl)) dL_load_4 ⟨(Nat.le_of_ble_eq_true rfl), (Nat.le_of_ble_eq_true rfl)⟩) hS (fun q _ h => hFc q h) hFc (fun rn1 u t H1 locs ht hvm hw hB hz1 hk1 hS => ?_)
  obtain ⟨hP1, hD1⟩ := hB
  rw [ht] at hP1
  obtain ⟨hP, hD⟩ := va_join (wr := [(oo, .inl (cA 1, 1, .inr (.inl fo)))]) (w1 := []) hP hD [0, 1, 2, 3, 4, 5, 6, 7, 8, 9, 10, 11, 12, 13] [14] rfl rfl (by decide) (by decide) hk1 hFc hP1 hD1
  generalize H1 = H at hP hS ⊢
  have hP : va_P D vwCl [(oo, .inl (cA 1, 1, .inr (.inl fo)))] H := hP
  have hD : va_D A [(oo, .inl (cA 1, 1, .inr (.inl fo)))] := hD
  obtain rfl : rn1 = 0 := hw
  refine lv_i2l (v := 0) hx hb dL_load_7 (by decide) ?_
  refine va_last hx hb hK hP hD hS 0 1 rfl rfl (vp_in_iff.mpr (by decide)) dL_load_8 (fun H locs hP hD hS => ?_)
  have hP : va_P D vwCl [(oo, .inl (cA 1, 1, .inr (.inl (vp_updL fo 0 0))))] H := hP
  have hD : va_D A [(oo, .inl (cA 1, 1, .inr (.inl (vp_updL fo 0 0))))] := hD
  refine lv_goto (tgt := 15) hx hb dL_load_9 (by decide) ?_
  refine lv_iconst (v := 0) hx hb dL_load_15 (by decide) ?_
  have hP9 := hP.sub (ws' := [(oo, .inl (cA 1, 1, .inr (.inl (vp_updL fo 0 0))))]) [0] rfl
  have hD9 := hD.sub (ws' := [(oo, .inl (cA 1, 1, .inr (.inl (vp_updL fo 0 0))))]) [0] (by decide) rfl
  refine W.widen (k := 0) (n := 0) (Nat.le_of_ble_eq_true rfl) (Nat.le_of_ble_eq_true rfl) ?_
  exact W.iret (v := 0) hx hb hr (fun t ht hW => ⟨⟨0, (), rfl, rfl, by rw [ht]; exact hP9, hD9⟩, hS.F ht⟩) hS.2.2 dL_load_16

set_option maxHeartbeats 4000000 in
set_option maxRecDepth 100000 in
/-- the wrapper of load -/
theorem c_L_load_thr (l : Launch) (D : va_G) (cA : Nat → ClassId) (sa : Nat → Nat) (h0 b0 p0 u0 r0 a0 t0 s0 o0 : Nat) (i : Int32) (oo : Nat) (fo : Nat → Int64) (sz : Nat) (hl9 : l.stackTraces = false) (h : i < 0 ∨ 0 < i) : Met l yL_load wsL_load ({ frames := 8, cells := 1, slots := 6, locals := 135 }) (va_Pc [.ref h0, .int i, .ref oo] (Wd D cA sa [(h0, .inr (10, [.ref b0, .int 0, .ref p0, .ref u0, .ref r0, .ref a0, .ref t0, .ref s0, .ref o0])), (oo, .inl (cA 1, 1, .inr (.inl fo)))] sz)) (va_Qi (fun (r : Int32) (_ : Unit) => r = 1) (fun (_ : Unit) t => Wq D (va_A [(h0, .inr (10, [.ref b0, .int 0, .ref p0, .ref u0, .ref r0, .ref a0, .ref t0, .ref s0, .ref o0])), (oo, .inl (cA 1, 1, .inr (.inl fo)))] sz) [] t) (va_A [(h0, .inr (10, [.ref b0, .int 0, .ref p0, .ref u0, .ref r0, .ref a0, .ref t0, .ref s0, .ref o0])), (oo, .inl (cA 1, 1, .inr (.inl fo)))] sz)) 1 6 (va_A [(h0, .inr (10, [.ref b0, .int 0, .ref p0, .ref u0, .ref r0, .ref a0, .ref t0, .ref s0, .ref o0])), (oo, .inl (cA 1, 1, .inr (.inl fo)))] sz) := by
  refine va_MetW (cc := cL_load) (maxL := 4) (ret := (some .int)) (hh := [(0, 9, 12, 13)]) (by decide) rfl ?_
  intro p e s m args below meth c s₁ B hml hv
  obtain ⟨rfl, hsz, hP, hK, hD0, hC, hZ⟩ := hv
  have hx := B.exec
  have hb := B.bytes
  have hr := B.returns
  have hts := atoms_spec (ws := wsL_load) B.pre
  have hown : s.vm.findClass RL = some m.cls := findClass_of_methodNamed B.named
  have hlocks := B.notSynchronized
  have htab := vx_table (x := yL_load) B (hts (.codeWith yL_load cL_load 4 (some .int) [(0, 9, 12, 13)]) List.mem_cons_self)
  subst hsz
  have hD := hD0.self (sz := s.heap.size)
  generalize hAe : va_A [(h0, .inr (10, [.ref b0, .int 0, .ref p0, .ref u0, .ref r0, .ref a0, .ref t0, .ref s0, .ref o0])), (oo, .inl (cA 1, 1, .inr (.inl fo)))] s.heap.size = A at hD hZ ⊢
  have hA : ∀ q : Nat, s.heap.size ≤ q → A q := fun q h => by rw [← hAe]; exact Or.inr h
  have hS : va_S A s.heap s.heap [] := va_S.rf
  have hP : va_P D vwCl [(h0, .inr (10, [.ref b0, .int 0, .ref p0, .ref u0, .ref r0, .ref a0, .ref t0, .ref s0, .ref o0])), (oo, .inl (cA 1, 1, .inr (.inl fo)))] s.heap := hP
  have hl := lv_entry ([.ref h0, .int i, .ref oo]) (n := 4) (Nat.le_of_ble_eq_true rfl)
  rw [lg_entry_eq]
  generalize (lg_sl ([.ref h0, .int i, .ref oo]) ++ List.replicate (4 - (lg_sl ([.ref h0, .int i, .ref oo])).length) Slot.unset).toArray = ls at hl ⊢
  have hl : lv_has ls 4 [(0, .ref h0), (1, .int i), (2, .ref oo)] := hl
  refine lv_aload_n hx hb dL_load_0 rfl (lv_at hl 2 rfl) ?_
  refine lv_iconst (v := 0) hx hb dL_load_1 (by decide) ?_
  refine lv_aload_n hx hb dL_load_2 rfl (lv_at hl 0 rfl) ?_
  refine lv_iload_n hx hb dL_load_3 rfl (lv_at hl 1 rfl) ?_
  have hPc := hP.sub (ws' := [(h0, .inr (10, [.ref b0, .int 0, .ref p0, .ref u0, .ref r0, .ref a0, .ref t0, .ref s0, .ref o0]))]) [0] rfl
  have hDc := hD.sub (ws' := [(h0, .inr (10, [.ref b0, .int 0, .ref p0, .ref u0, .ref r0, .ref a0, .ref t0, .ref s0, .ref o0]))]) [0] (by decide) rfl
  have hFc := va_free (wc := [(h0, .inr (10, [.ref b0, .int 0, .ref p0, .ref u0, .ref r0, .ref a0, .ref t0, .ref s0, .ref o0]))]) hD hS hA [0] rfl
  refine vx_calli (vx_runV (As := [.int i]) (rest := [.int 0, .ref oo]) ⟨hx, hb, hml, hown, hts⟩ (c_load_thr l D cA sa h0 b0 p0 u0 r0 a0 t0 s0 o0 i s.heap.size hl9 h) (cwV 1 hts gL_load_X9_load rfl rfl rfl (by decide +kernel) ⟨(Nat.le_of_ble_eq_true rfl), (Nat.le_of_ble_eq_true rfl)⟩) ⟨Wd.blind, va_recv hK hPc (ci := 10) (q0 := 0) rfl rfl, fun U hU hW => ⟨rfl, Wd.call hPc hDc hK hC hZ hS hFc U hU hW⟩⟩ rfl rfl hl.1 rfl (lv_room (Nat.le_of_ble_eq_true rfl)) dL_load_4 ⟨(Nat.le_of_ble_eq_true rfl), (Nat.le_of_ble_eq_true rfl)⟩) hS (fun q _ h => hFc q h) hFc (fun q _ h => hFc q h) (fun E ce q9 u t H1 locs ht hvm hpx hE hz1 hk1 hS hcell hv9 hcl => ?_) (fun r9 u t H1 locs ht hvm hw hB hz1 hk1 hS => hw.elim)
  have hE : E = "java/lang/IllegalArgumentException" := hE
  subst hE
  refine vx_catch hown [] ⟨0, 9, 12, 13⟩ (tableOf []) (htab.trans rfl) (fun z h => absurd h List.not_mem_nil) (by decide) (by decide) (name := "java/lang/IllegalArgumentException") (hts (.classLink RL 13 "java/lang/IllegalArgumentException") (by decide +kernel)) (hC.c (by decide +kernel)) hcell hv9 hcl ?_
  generalize H1 = H at hS ⊢
  have hP : va_P D vwCl [] H := fun k q h => by simp at h
  have hD : va_D A [] := ⟨fun i j p q h => by simp at h, fun k q h => by simp at h⟩
  refine lv_astore_n (lv' := [(3, .ref q9), (0, .ref h0), (1, .int i), (2, .ref oo)]) hx hb dL_load_12 rfl hl (by decide) rfl (fun ls hl => ?_)
  refine lv_iconst (v := 1) hx hb dL_load_13 (by decide) ?_
  have hP9 := hP.sub (ws' := []) [] rfl
  have hD9 := hD.sub (ws' := []) [] (by decide) rfl
  refine W.widen (k := 1) (n := 6) (Nat.le_of_ble_eq_true rfl) (Nat.le_of_ble_eq_true rfl) ?_
  exact W.iret (v := 1) hx hb hr (fun t ht hW => ⟨⟨1, (), rfl, rfl, by rw [ht]; exact hP9, hD9⟩, hS.F ht⟩) hS.2.2 dL_load_14

set_option maxHeartbeats 4000000 in
set_option maxRecDepth 100000 in
/-- the wrapper of written -/
theorem c_L_written_thr (l : Launch) (D : va_G) (cA : Nat → ClassId) (sa : Nat → Nat) (h0 b0 p0 u0 r0 a0 t0 s0 o0 o1 : Nat) (i : Int32) (oo : Nat) (fo : Nat → Int64) (sz : Nat) (hl9 : l.stackTraces = false) : Met l yL_written wsL_written ({ frames := 8, cells := 1, slots := 6, locals := 132 }) (va_Pc [.ref h0, .int i, .ref oo] (Wd D cA sa [(h0, .inr (10, [.ref b0, .int 0, .ref p0, .ref u0, .ref r0, .ref a0, .ref t0, .ref s0, .ref o0])), (o0, .inr (1, [.ref o1, .int 0, .int 0, .int 0])), (oo, .inl (cA 1, 1, .inr (.inl fo)))] sz)) (va_Qi (fun (r : Int32) (_ : Unit) => r = 1) (fun (_ : Unit) t => Wq D (va_A [(h0, .inr (10, [.ref b0, .int 0, .ref p0, .ref u0, .ref r0, .ref a0, .ref t0, .ref s0, .ref o0])), (o0, .inr (1, [.ref o1, .int 0, .int 0, .int 0])), (oo, .inl (cA 1, 1, .inr (.inl fo)))] sz) [] t) (va_A [(h0, .inr (10, [.ref b0, .int 0, .ref p0, .ref u0, .ref r0, .ref a0, .ref t0, .ref s0, .ref o0])), (o0, .inr (1, [.ref o1, .int 0, .int 0, .int 0])), (oo, .inl (cA 1, 1, .inr (.inl fo)))] sz)) 1 6 (va_A [(h0, .inr (10, [.ref b0, .int 0, .ref p0, .ref u0, .ref r0, .ref a0, .ref t0, .ref s0, .ref o0])), (o0, .inr (1, [.ref o1, .int 0, .int 0, .int 0])), (oo, .inl (cA 1, 1, .inr (.inl fo)))] sz) := by
  refine va_MetW (cc := cL_written) (maxL := 4) (ret := (some .int)) (hh := [(0, 9, 12, 18)]) (by decide) rfl ?_
  intro p e s m args below meth c s₁ B hml hv
  obtain ⟨rfl, hsz, hP, hK, hD0, hC, hZ⟩ := hv
  have hx := B.exec
  have hb := B.bytes
  have hr := B.returns
  have hts := atoms_spec (ws := wsL_written) B.pre
  have hown : s.vm.findClass RL = some m.cls := findClass_of_methodNamed B.named
  have hlocks := B.notSynchronized
  have htab := vx_table (x := yL_written) B (hts (.codeWith yL_written cL_written 4 (some .int) [(0, 9, 12, 18)]) List.mem_cons_self)
  subst hsz
  have hD := hD0.self (sz := s.heap.size)
  generalize hAe : va_A [(h0, .inr (10, [.ref b0, .int 0, .ref p0, .ref u0, .ref r0, .ref a0, .ref t0, .ref s0, .ref o0])), (o0, .inr (1, [.ref o1, .int 0, .int 0, .int 0])), (oo, .inl (cA 1, 1, .inr (.inl fo)))] s.heap.size = A at hD hZ ⊢
  have hA : ∀ q : Nat, s.heap.size ≤ q → A q := fun q h => by rw [← hAe]; exact Or.inr h
  have hS : va_S A s.heap s.heap [] := va_S.rf
  have hP : va_P D vwCl [(h0, .inr (10, [.ref b0, .int 0, .ref p0, .ref u0, .ref r0, .ref a0, .ref t0, .ref s0, .ref o0])), (o0, .inr (1, [.ref o1, .int 0, .int 0, .int 0])), (oo, .inl (cA 1, 1, .inr (.inl fo)))] s.heap := hP
  have hl := lv_entry ([.ref h0, .int i, .ref oo]) (n := 4) (Nat.le_of_ble_eq_true rfl)
  rw [lg_entry_eq]
  generalize (lg_sl ([.ref h0, .int i, .ref oo]) ++ List.replicate (4 - (lg_sl ([.ref h0, .int i, .ref oo])).length) Slot.unset).toArray = ls at hl ⊢
  have hl : lv_has ls 4 [(0, .ref h0), (1, .int i), (2, .ref oo)] := hl
  refine lv_aload_n hx hb dL_written_0 rfl (lv_at hl 2 rfl) ?_
  refine lv_iconst (v := 0) hx hb dL_written_1 (by decide) ?_
  refine lv_aload_n hx hb dL_written_2 rfl (lv_at hl 0 rfl) ?_
  refine lv_iload_n hx hb dL_written_3 rfl (lv_at hl 1 rfl) ?_
  have hPc := hP.sub (ws' := [(h0, .inr (10, [.ref b0, .int 0, .ref p0, .ref u0, .ref r0, .ref a0, .ref t0, .ref s0, .ref o0])), (o0, .inr (1, [.ref o1, .int 0, .int 0, .int 0]))]) [0, 1] rfl
  have hDc := hD.sub (ws' := [(h0, .inr (10, [.ref b0, .int 0, .ref p0, .ref u0, .ref r0, .ref a0, .ref t0, .ref s0, .ref o0])), (o0, .inr (1, [.ref o1, .int 0, .int 0, .int 0]))]) [0, 1] (by decide) rfl
  have hFc := va_free (wc := [(h0, .inr (10, [.ref b0, .int 0, .ref p0, .ref u0, .ref r0, .ref a0, .ref t0, .ref s0, .ref o0])), (o0, .inr (1, [.ref o1, .int 0, .int 0, .int 0]))]) hD hS hA [0, 1] rfl
  refine vx_calli (vx_runV (As := [.int i]) (rest := [.int 0, .ref oo]) ⟨hx, hb, hml, hown, hts⟩ (c_written_thr l D cA sa h0 b0 p0 u0 r0 a0 t0 s0 o0 o1 i s.heap.size hl9) (cwV 1 hts gL_written_X9_written rfl rfl rfl (by decide +kernel) ⟨(Nat.le_of_ble_eq_true rfl), (Nat.le_of_ble_eq_true rfl)⟩) ⟨Wd.blind, va_recv hK hPc (ci := 10) (q0 := 0) rfl rfl, fun U hU hW => ⟨rfl, Wd.call hPc hDc hK hC hZ hS hFc U hU hW⟩⟩ rfl rfl hl.1 rfl (lv_room (Nat.le_of_ble_eq_true rfl)) dL_written_4 ⟨(Nat.le_of_ble_eq_true rfl), (Nat.le_of_ble_eq_true rfl)⟩) hS (fun q _ h => hFc q h) hFc (fun q _ h => hFc q h) (fun E ce q9 u t H1 locs ht hvm hpx hE hz1 hk1 hS hcell hv9 hcl => ?_) (fun r9 u t H1 locs ht hvm hw hB hz1 hk1 hS => hw.elim)
  have hE : E = "java/lang/IndexOutOfBoundsException" := hE
  subst hE
  refine vx_catch hown [] ⟨0, 9, 12, 18⟩ (tableOf []) (htab.trans rfl) (fun z h => absurd h List.not_mem_nil) (by decide) (by decide) (name := "java/lang/IndexOutOfBoundsException") (hts (.classLink RL 18 "java/lang/IndexOutOfBoundsException") (by decide +kernel)) (hC.c (by decide +kernel)) hcell hv9 hcl ?_
  generalize H1 = H at hS ⊢
  have hP : va_P D vwCl [] H := fun k q h => by simp at h
  have hD : va_D A [] := ⟨fun i j p q h => by simp at h, fun k q h => by simp at h⟩
  refine lv_astore_n (lv' := [(3, .ref q9), (0, .ref h0), (1, .int i), (2, .ref oo)]) hx hb dL_written_12 rfl hl (by decide) rfl (fun ls hl => ?_)
  refine lv_iconst (v := 1) hx hb dL_written_13 (by decide) ?_
  have hP9 := hP.sub (ws' := []) [] rfl
  have hD9 := hD.sub (ws' := []) [] (by decide) rfl
  refine W.widen (k := 1) (n := 6) (Nat.le_of_ble_eq_true rfl) (Nat.le_of_ble_eq_true rfl) ?_
  exact W.iret (v := 1) hx hb hr (fun t ht hW => ⟨⟨1, (), rfl, rfl, by rw [ht]; exact hP9, hD9⟩, hS.F ht⟩) hS.2.2 dL_written_14
