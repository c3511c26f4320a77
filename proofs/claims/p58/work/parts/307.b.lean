set_option maxHeartbeats 4000000 in
set_option maxRecDepth 100000 in
/-- feed -/
theorem x_feed (l : Launch) (D : va_G) (cA : Nat → ClassId) (sa : Nat → Nat) (h0 : Nat) (b0 : Nat) (nb : Nat) (p0 : Nat) (u0 : Nat) (r0 : Nat) (a0 : Nat) (t0 : Nat) (s0 : Nat) (o0 : Nat) (w1 : Int32) (w2 : Int32) (w3 : Int32) (w4 : Int32) (w5 : Int32) (fb : Nat → Int32) (sz : Nat) (hnb : nb + 20 ≤ 700) : Met l yX9_feed wsX9_feed ({ frames := 1, cells := 0, slots := 0, locals := 22 }) (va_Pc [.ref h0, .int w1, .int w2, .int w3, .int w4, .int w5] (Wd D cA sa [(oX9 h0 b0 (nI nb) p0 u0 r0 a0 t0 s0 o0), (b0, .inl (cA 2, 700, .inl fb))] sz)) (va_Qi (fun (r : Int32) (_ : Unit) => r = nI (nb + 20)) (fun (_ : Unit) t => ∃ nb2 : Nat, ∃ zb : Nat → Int32, nb2 = nb + 20 ∧ A20 nb w1 w2 w3 w4 w5 fb zb ∧ Wq D (va_A [(oX9 h0 b0 (nI nb) p0 u0 r0 a0 t0 s0 o0), (b0, .inl (cA 2, 700, .inl fb))] sz) [(oX9 h0 b0 (nI nb2) p0 u0 r0 a0 t0 s0 o0), (b0, .inl (cA 2, 700, .inl zb))] t) (va_A [(oX9 h0 b0 (nI nb) p0 u0 r0 a0 t0 s0 o0), (b0, .inl (cA 2, 700, .inl fb))] sz)) 0 0 (va_A [(oX9 h0 b0 (nI nb) p0 u0 r0 a0 t0 s0 o0), (b0, .inl (cA 2, 700, .inl fb))] sz) := by
  refine Met.ofW (cc := cX9_feed) (maxL := 6) (ret := (some .int)) (by decide) rfl ?_
  intro p e s m args below meth c s₁ B hml hv
  obtain ⟨rfl, hsz, hP, hK, hD0, hC, hZ⟩ := hv
  have hx := B.exec
  have hb := B.bytes
  have hr := B.returns
  have hts := atoms_spec (ws := wsX9_feed) B.pre
  have hown : s.vm.findClass RX9 = some m.cls := findClass_of_methodNamed B.named
  have hlocks := B.notSynchronized
  subst hsz
  have hD := hD0.self (sz := s.heap.size)
  generalize hAe : va_A [(oX9 h0 b0 (nI nb) p0 u0 r0 a0 t0 s0 o0), (b0, .inl (cA 2, 700, .inl fb))] s.heap.size = A at hD hZ ⊢
  have hA : ∀ q : Nat, s.heap.size ≤ q → A q := fun q h => by rw [← hAe]; exact Or.inr h
  have hS : va_S A s.heap s.heap [] := va_S.rf
  have hP : va_P D vwCl [(oX9 h0 b0 (nI nb) p0 u0 r0 a0 t0 s0 o0), (b0, .inl (cA 2, 700, .inl fb))] s.heap := hP
  have hl := lv_entry ([.ref h0, .int w1, .int w2, .int w3, .int w4, .int w5]) (n := 6) (Nat.le_of_ble_eq_true rfl)
  rw [lg_entry_eq]
  generalize (lg_sl ([.ref h0, .int w1, .int w2, .int w3, .int w4, .int w5]) ++ List.replicate (6 - (lg_sl ([.ref h0, .int w1, .int w2, .int w3, .int w4, .int w5])).length) Slot.unset).toArray = ls at hl ⊢
  have hl : lv_has ls 6 [(0, .ref h0), (1, .int w1), (2, .int w2), (3, .int w3), (4, .int w4), (5, .int w5)] := hl
  have inX9 : ∀ w ∈ u_ws RX9 TX9 9, w ∈ wsX9_feed := by decide +kernel
  refine lv_aload_n hx hb dX9_feed_0 rfl (lv_at hl 0 rfl) ?_
  refine va_get (D := D) (ci := 10) (v := .int (nI nb)) (C := RX9) (T := TX9) (N := 9) hx hb hts inX9 hown hK hP 0 rfl rfl 1 (by decide) (hts (.fieldLink RX9 59 "EscrowDesk" "buffered" "I") (by decide +kernel)) (fun _ h9 => h9) rfl dX9_feed_1 ?_
  refine lv_bipush (v := 20) hx hb dX9_feed_4 (by decide) ?_
  refine lv_iadd hx hb dX9_feed_6 ?_
  refine lv_topi (fun yn1 eyn1 => ?_)
  obtain rfl : yn1 = (nI (nb + 20)) := eyn1.trans (nI_add nb 20)
  refine lv_sipush (v := 700) hx hb dX9_feed_7 (by decide) ?_
  refine lv_icmp_le (tgt := 16) hx hb dX9_feed_10 (by decide) (fun c2 => ?_) (fun c9 => absurd (nI_le (a := (nb + 20)) (b := 700) (show (nb + 20) ≤ 700 by omega) (by omega)) c9)
  refine lv_aload_n hx hb dX9_feed_16 rfl (lv_at hl 0 rfl) ?_
  refine lv_iload_n hx hb dX9_feed_17 rfl (lv_at hl 1 rfl) ?_
  obtain ⟨hPc, hDc, hFc⟩ := PDq.cut (wc := [(oX9 h0 b0 (nI nb) p0 u0 r0 a0 t0 s0 o0), (b0, .inl (cA 2, 700, .inl fb))]) hP hD hS hA [0, 1] (by decide) rfl
  refine va_callv (va_runV (As := [.int w1]) (rest := []) ⟨hx, hb, hml, hown, hts⟩ (x_appendBytes l D cA sa h0 b0 nb p0 u0 r0 a0 t0 s0 o0 w1 fb s.heap.size (by omega)) (cwV 1 hts gX9_feed_X9_appendBytes rfl rfl rfl (by decide +kernel) ⟨(Nat.le_of_ble_eq_true rfl), (Nat.le_of_ble_eq_true rfl)⟩) ⟨Wd.blind, va_recv hK hPc (ci := 10) (q0 := 0) rfl rfl, fun U hU hW => ⟨rfl, Wd.call hPc hDc hK hC hZ hS hFc U hU hW⟩⟩ rfl rfl hl.1 rfl (lv_room (Nat.le_of_ble_eq_true rfl)) dX9_feed_18 ⟨(Nat.le_of_ble_eq_true rfl), (Nat.le_of_ble_eq_true rfl)⟩) hS (fun q _ h => hFc q h) hFc (fun u t H1 locs ht hvm hw hB hz1 hk1 hS => ?_)
  obtain ⟨qn3, fn4, hn5, hn6, hP1, hD1⟩ := hB
  rw [ht] at hP1
  obtain ⟨hP, hD⟩ := PDq.join (w := [(oX9 h0 b0 (nI qn3) p0 u0 r0 a0 t0 s0 o0), (b0, .inl (cA 2, 700, .inl fn4))]) 0 hP hD [0, 1] [] rfl rfl (by decide) (by decide) hk1 hFc hP1 hD1 rfl
  generalize H1 = H at hP hS ⊢
  subst hn5
  obtain ⟨hP, hD⟩ : PDq D A [(oX9 h0 b0 (nI (nb + 4)) p0 u0 r0 a0 t0 s0 o0), (b0, .inl (cA 2, 700, .inl fn4))] H := ⟨hP, hD⟩
  refine lv_aload_n hx hb dX9_feed_21 rfl (lv_at hl 0 rfl) ?_
  refine lv_iload_n hx hb dX9_feed_22 rfl (lv_at hl 2 rfl) ?_
  obtain ⟨hPc, hDc, hFc⟩ := PDq.cut (wc := [(oX9 h0 b0 (nI (nb + 4)) p0 u0 r0 a0 t0 s0 o0), (b0, .inl (cA 2, 700, .inl fn4))]) hP hD hS hA [0, 1] (by decide) rfl
  refine va_callv (va_runV (As := [.int w2]) (rest := []) ⟨hx, hb, hml, hown, hts⟩ (x_appendBytes l D cA sa h0 b0 (nb + 4) p0 u0 r0 a0 t0 s0 o0 w2 fn4 H.size (by omega)) (cwV 1 hts gX9_feed_X9_appendBytes rfl rfl rfl (by decide +kernel) ⟨(Nat.le_of_ble_eq_true rfl), (Nat.le_of_ble_eq_true rfl)⟩) ⟨Wd.blind, va_recv hK hPc (ci := 10) (q0 := 0) rfl rfl, fun U hU hW => ⟨rfl, Wd.call hPc hDc hK hC hZ hS hFc U hU hW⟩⟩ rfl rfl hl.1 rfl (lv_room (Nat.le_of_ble_eq_true rfl)) dX9_feed_23 ⟨(Nat.le_of_ble_eq_true rfl), (Nat.le_of_ble_eq_true rfl)⟩) hS (fun q _ h => hFc q h) hFc (fun u t H1 locs ht hvm hw hB hz1 hk1 hS => ?_)
  obtain ⟨qn7, fn8, hn9, hn10, hP1, hD1⟩ := hB
  rw [ht] at hP1
  obtain ⟨hP, hD⟩ := PDq.join (w := [(oX9 h0 b0 (nI qn7) p0 u0 r0 a0 t0 s0 o0), (b0, .inl (cA 2, 700, .inl fn8))]) 0 hP hD [0, 1] [] rfl rfl (by decide) (by decide) hk1 hFc hP1 hD1 rfl
  generalize H1 = H at hP hS ⊢
  subst hn9
  obtain ⟨hP, hD⟩ : PDq D A [(oX9 h0 b0 (nI ((nb + 4) + 4)) p0 u0 r0 a0 t0 s0 o0), (b0, .inl (cA 2, 700, .inl fn8))] H := ⟨hP, hD⟩
  refine lv_aload_n hx hb dX9_feed_26 rfl (lv_at hl 0 rfl) ?_
  refine lv_iload_n hx hb dX9_feed_27 rfl (lv_at hl 3 rfl) ?_
  obtain ⟨hPc, hDc, hFc⟩ := PDq.cut (wc := [(oX9 h0 b0 (nI ((nb + 4) + 4)) p0 u0 r0 a0 t0 s0 o0), (b0, .inl (cA 2, 700, .inl fn8))]) hP hD hS hA [0, 1] (by decide) rfl
  refine va_callv (va_runV (As := [.int w3]) (rest := []) ⟨hx, hb, hml, hown, hts⟩ (x_appendBytes l D cA sa h0 b0 ((nb + 4) + 4) p0 u0 r0 a0 t0 s0 o0 w3 fn8 H.size (by omega)) (cwV 1 hts gX9_feed_X9_appendBytes rfl rfl rfl (by decide +kernel) ⟨(Nat.le_of_ble_eq_true rfl), (Nat.le_of_ble_eq_true rfl)⟩) ⟨Wd.blind, va_recv hK hPc (ci := 10) (q0 := 0) rfl rfl, fun U hU hW => ⟨rfl, Wd.call hPc hDc hK hC hZ hS hFc U hU hW⟩⟩ rfl rfl hl.1 rfl (lv_room (Nat.le_of_ble_eq_true rfl)) dX9_feed_28 ⟨(Nat.le_of_ble_eq_true rfl), (Nat.le_of_ble_eq_true rfl)⟩) hS (fun q _ h => hFc q h) hFc (fun u t H1 locs ht hvm hw hB hz1 hk1 hS => ?_)
  obtain ⟨qn11, fn12, hn13, hn14, hP1, hD1⟩ := hB
  rw [ht] at hP1
  obtain ⟨hP, hD⟩ := PDq.join (w := [(oX9 h0 b0 (nI qn11) p0 u0 r0 a0 t0 s0 o0), (b0, .inl (cA 2, 700, .inl fn12))]) 0 hP hD [0, 1] [] rfl rfl (by decide) (by decide) hk1 hFc hP1 hD1 rfl
  generalize H1 = H at hP hS ⊢
  subst hn13
  obtain ⟨hP, hD⟩ : PDq D A [(oX9 h0 b0 (nI (((nb + 4) + 4) + 4)) p0 u0 r0 a0 t0 s0 o0), (b0, .inl (cA 2, 700, .inl fn12))] H := ⟨hP, hD⟩
  refine lv_aload_n hx hb dX9_feed_31 rfl (lv_at hl 0 rfl) ?_
  refine lv_iload hx hb dX9_feed_32 (lv_at hl 4 rfl) ?_
  obtain ⟨hPc, hDc, hFc⟩ := PDq.cut (wc := [(oX9 h0 b0 (nI (((nb + 4) + 4) + 4)) p0 u0 r0 a0 t0 s0 o0), (b0, .inl (cA 2, 700, .inl fn12))]) hP hD hS hA [0, 1] (by decide) rfl
  refine va_callv (va_runV (As := [.int w4]) (rest := []) ⟨hx, hb, hml, hown, hts⟩ (x_appendBytes l D cA sa h0 b0 (((nb + 4) + 4) + 4) p0 u0 r0 a0 t0 s0 o0 w4 fn12 H.size (by omega)) (cwV 1 hts gX9_feed_X9_appendBytes rfl rfl rfl (by decide +kernel) ⟨(Nat.le_of_ble_eq_true rfl), (Nat.le_of_ble_eq_true rfl)⟩) ⟨Wd.blind, va_recv hK hPc (ci := 10) (q0 := 0) rfl rfl, fun U hU hW => ⟨rfl, Wd.call hPc hDc hK hC hZ hS hFc U hU hW⟩⟩ rfl rfl hl.1 rfl (lv_room (Nat.le_of_ble_eq_true rfl)) dX9_feed_34 ⟨(Nat.le_of_ble_eq_true rfl), (Nat.le_of_ble_eq_true rfl)⟩) hS (fun q _ h => hFc q h) hFc (fun u t H1 locs ht hvm hw hB hz1 hk1 hS => ?_)
  obtain ⟨qn15, fn16, hn17, hn18, hP1, hD1⟩ := hB
  rw [ht] at hP1
  obtain ⟨hP, hD⟩ := PDq.join (w := [(oX9 h0 b0 (nI qn15) p0 u0 r0 a0 t0 s0 o0), (b0, .inl (cA 2, 700, .inl fn16))]) 0 hP hD [0, 1] [] rfl rfl (by decide) (by decide) hk1 hFc hP1 hD1 rfl
  generalize H1 = H at hP hS ⊢
  subst hn17
  obtain ⟨hP, hD⟩ : PDq D A [(oX9 h0 b0 (nI ((((nb + 4) + 4) + 4) + 4)) p0 u0 r0 a0 t0 s0 o0), (b0, .inl (cA 2, 700, .inl fn16))] H := ⟨hP, hD⟩
  refine lv_aload_n hx hb dX9_feed_37 rfl (lv_at hl 0 rfl) ?_
  refine lv_iload hx hb dX9_feed_38 (lv_at hl 5 rfl) ?_
  obtain ⟨hPc, hDc, hFc⟩ := PDq.cut (wc := [(oX9 h0 b0 (nI ((((nb + 4) + 4) + 4) + 4)) p0 u0 r0 a0 t0 s0 o0), (b0, .inl (cA 2, 700, .inl fn16))]) hP hD hS hA [0, 1] (by decide) rfl
  refine va_callv (va_runV (As := [.int w5]) (rest := []) ⟨hx, hb, hml, hown, hts⟩ (x_appendBytes l D cA sa h0 b0 ((((nb + 4) + 4) + 4) + 4) p0 u0 r0 a0 t0 s0 o0 w5 fn16 H.size (by omega)) (cwV 1 hts gX9_feed_X9_appendBytes rfl rfl rfl (by decide +kernel) ⟨(Nat.le_of_ble_eq_true rfl), (Nat.le_of_ble_eq_true rfl)⟩) ⟨Wd.blind, va_recv hK hPc (ci := 10) (q0 := 0) rfl rfl, fun U hU hW => ⟨rfl, Wd.call hPc hDc hK hC hZ hS hFc U hU hW⟩⟩ rfl rfl hl.1 rfl (lv_room (Nat.le_of_ble_eq_true rfl)) dX9_feed_40 ⟨(Nat.le_of_ble_eq_true rfl), (Nat.le_of_ble_eq_true rfl)⟩) hS (fun q _ h => hFc q h) hFc (fun u t H1 locs ht hvm hw hB hz1 hk1 hS => ?_)
  obtain ⟨qn19, fn20, hn21, hn22, hP1, hD1⟩ := hB
  rw [ht] at hP1
  obtain ⟨hP, hD⟩ := PDq.join (w := [(oX9 h0 b0 (nI qn19) p0 u0 r0 a0 t0 s0 o0), (b0, .inl (cA 2, 700, .inl fn20))]) 0 hP hD [0, 1] [] rfl rfl (by decide) (by decide) hk1 hFc hP1 hD1 rfl
  generalize H1 = H at hP hS ⊢
  subst hn21
  obtain ⟨hP, hD⟩ : PDq D A [(oX9 h0 b0 (nI (((((nb + 4) + 4) + 4) + 4) + 4)) p0 u0 r0 a0 t0 s0 o0), (b0, .inl (cA 2, 700, .inl fn20))] H := ⟨hP, hD⟩
  refine lv_aload_n hx hb dX9_feed_43 rfl (lv_at hl 0 rfl) ?_
  refine va_get (D := D) (ci := 10) (v := .int (nI (((((nb + 4) + 4) + 4) + 4) + 4))) (C := RX9) (T := TX9) (N := 9) hx hb hts inX9 hown hK hP 0 rfl rfl 1 (by decide) (hts (.fieldLink RX9 59 "EscrowDesk" "buffered" "I") (by decide +kernel)) (fun _ h9 => h9) rfl dX9_feed_44 ?_
  obtain ⟨hP9, hD9⟩ := PDq.sub (ws' := [(oX9 h0 b0 (nI (((((nb + 4) + 4) + 4) + 4) + 4)) p0 u0 r0 a0 t0 s0 o0), (b0, .inl (cA 2, 700, .inl fn20))]) hP hD [0, 1] (by decide) rfl
  refine W.widen (k := 0) (n := 0) (Nat.le_of_ble_eq_true rfl) (Nat.le_of_ble_eq_true rfl) ?_
  exact (W.iret (v := (nI (((((nb + 4) + 4) + 4) + 4) + 4))) hx hb hr (fun t ht hW => ⟨⟨(nI (((((nb + 4) + 4) + 4) + 4) + 4)), (), rfl, (by rw [show nb + 20 = (((((nb + 4) + 4) + 4) + 4) + 4) by omega]), (((((nb + 4) + 4) + 4) + 4) + 4), fn20, (by omega), ⟨_, _, _, _, hn6, hn10, hn14, hn18, hn22⟩, by rw [ht]; exact hP9, hD9⟩, hS.F ht⟩) hS.2.2 dX9_feed_47)

set_option maxHeartbeats 4000000 in
set_option maxRecDepth 100000 in
/-- reference: feed -/
theorem y_feed (l : Launch) (D : va_G) (cA : Nat → ClassId) (sa : Nat → Nat) (w0 : Nat) (ed : Nat) (nb : Nat) (ol : Nat) (v0 : Nat) (v1 : Nat) (v2 : Nat) (v3 : Nat) (v4 : Nat) (v9 : Nat) (v13 : Nat) (v27 : Nat) (v28 : Nat) (v29 : Nat) (v30 : Nat) (v31 : Nat) (v32 : Nat) (v33 : Nat) (v34 : Nat) (v35 : Nat) (v36 : Nat) (v37 : Nat) (g8 : Int32) (g11 : Int32) (g12 : Int32) (g14 : Int32) (g15 : Int32) (g16 : Int32) (g17 : Int32) (g18 : Int32) (g19 : Int32) (g20 : Int32) (g21 : Int32) (g22 : Int32) (g23 : Int32) (g24 : Int32) (g26 : Int32) (g5 : Int64) (g6 : Int64) (g25 : Int64) (w1 : Int32) (w2 : Int32) (w3 : Int32) (w4 : Int32) (w5 : Int32) (fb : Nat → Int32) (sz : Nat) (hnb : nb + 20 ≤ 700) : Met l yX10_feed wsX10_feed ({ frames := 1, cells := 0, slots := 0, locals := 22 }) (va_Pc [.ref w0, .int w1, .int w2, .int w3, .int w4, .int w5] (Wd D cA sa [(oX10 w0 v0 v1 v2 v3 v4 g5 g6 (nI ed) g8 v9 (nI nb) g11 g12 v13 g14 g15 g16 g17 g18 g19 g20 g21 g22 g23 g24 g25 g26 v27 v28 v29 v30 v31 v32 v33 v34 v35 v36 v37 (nI ol)), (v9, .inl (cA 0, 700, .inl fb))] sz)) (va_Qi (fun (r : Int32) (_ : Unit) => r = nI (nb + 20)) (fun (_ : Unit) t => ∃ nb2 : Nat, ∃ zb : Nat → Int32, nb2 = nb + 20 ∧ A20 nb w1 w2 w3 w4 w5 fb zb ∧ Wq D (va_A [(oX10 w0 v0 v1 v2 v3 v4 g5 g6 (nI ed) g8 v9 (nI nb) g11 g12 v13 g14 g15 g16 g17 g18 g19 g20 g21 g22 g23 g24 g25 g26 v27 v28 v29 v30 v31 v32 v33 v34 v35 v36 v37 (nI ol)), (v9, .inl (cA 0, 700, .inl fb))] sz) [(oX10 w0 v0 v1 v2 v3 v4 g5 g6 (nI ed) 0 v9 (nI nb2) g11 g12 v13 g14 g15 g16 g17 g18 g19 g20 g21 g22 g23 g24 g25 g26 v27 v28 v29 v30 v31 v32 v33 v34 v35 v36 v37 (nI ol)), (v9, .inl (cA 0, 700, .inl zb))] t) (va_A [(oX10 w0 v0 v1 v2 v3 v4 g5 g6 (nI ed) g8 v9 (nI nb) g11 g12 v13 g14 g15 g16 g17 g18 g19 g20 g21 g22 g23 g24 g25 g26 v27 v28 v29 v30 v31 v32 v33 v34 v35 v36 v37 (nI ol)), (v9, .inl (cA 0, 700, .inl fb))] sz)) 0 0 (va_A [(oX10 w0 v0 v1 v2 v3 v4 g5 g6 (nI ed) g8 v9 (nI nb) g11 g12 v13 g14 g15 g16 g17 g18 g19 g20 g21 g22 g23 g24 g25 g26 v27 v28 v29 v30 v31 v32 v33 v34 v35 v36 v37 (nI ol)), (v9, .inl (cA 0, 700, .inl fb))] sz) := by
  refine Met.ofW (cc := cX10_feed) (maxL := 6) (ret := (some .int)) (by decide) rfl ?_
  intro p e s m args below meth c s₁ B hml hv
  obtain ⟨rfl, hsz, hP, hK, hD0, hC, hZ⟩ := hv
  have hx := B.exec
  have hb := B.bytes
  have hr := B.returns
  have hts := atoms_spec (ws := wsX10_feed) B.pre
  have hown : s.vm.findClass RX10 = some m.cls := findClass_of_methodNamed B.named
  have hlocks := B.notSynchronized
  subst hsz
  have hD := hD0.self (sz := s.heap.size)
  generalize hAe : va_A [(oX10 w0 v0 v1 v2 v3 v4 g5 g6 (nI ed) g8 v9 (nI nb) g11 g12 v13 g14 g15 g16 g17 g18 g19 g20 g21 g22 g23 g24 g25 g26 v27 v28 v29 v30 v31 v32 v33 v34 v35 v36 v37 (nI ol)), (v9, .inl (cA 0, 700, .inl fb))] s.heap.size = A at hD hZ ⊢
  have hA : ∀ q : Nat, s.heap.size ≤ q → A q := fun q h => by rw [← hAe]; exact Or.inr h
  have hS : va_S A s.heap s.heap [] := va_S.rf
  have hP : va_P D vwCl [(oX10 w0 v0 v1 v2 v3 v4 g5 g6 (nI ed) g8 v9 (nI nb) g11 g12 v13 g14 g15 g16 g17 g18 g19 g20 g21 g22 g23 g24 g25 g26 v27 v28 v29 v30 v31 v32 v33 v34 v35 v36 v37 (nI ol)), (v9, .inl (cA 0, 700, .inl fb))] s.heap := hP
  have hl := lv_entry ([.ref w0, .int w1, .int w2, .int w3, .int w4, .int w5]) (n := 6) (Nat.le_of_ble_eq_true rfl)
  rw [lg_entry_eq]
  generalize (lg_sl ([.ref w0, .int w1, .int w2, .int w3, .int w4, .int w5]) ++ List.replicate (6 - (lg_sl ([.ref w0, .int w1, .int w2, .int w3, .int w4, .int w5])).length) Slot.unset).toArray = ls at hl ⊢
  have hl : lv_has ls 6 [(0, .ref w0), (1, .int w1), (2, .int w2), (3, .int w3), (4, .int w4), (5, .int w5)] := hl
  have inX10 : ∀ w ∈ u_ws RX10 TX10 39, w ∈ wsX10_feed := by decide +kernel
  refine lv_aload_n hx hb dX10_feed_0 rfl (lv_at hl 0 rfl) ?_
  refine lv_iconst (v := 0) hx hb dX10_feed_1 (by decide) ?_
  refine va_put (D := D) (ci := 11) (v := .int 0) (ty := .int) (C := RX10) (T := TX10) (N := 39) hx hb hts inX10 tyX10 tyX10_ok nmX10 hown hK hP hD hS 0 rfl rfl 8 (by decide) (hts (.fieldLink RX10 80 "EscrowDeskModel" "thrown" "I") (by decide +kernel)) (fun _ h9 => h9) rfl (by decide +kernel) rfl rfl (Nat.le_of_ble_eq_true rfl) dX10_feed_2 (fun H locs hP hD hS => ?_)
  obtain ⟨hP, hD⟩ : PDq D A [(oX10 w0 v0 v1 v2 v3 v4 g5 g6 (nI ed) 0 v9 (nI nb) g11 g12 v13 g14 g15 g16 g17 g18 g19 g20 g21 g22 g23 g24 g25 g26 v27 v28 v29 v30 v31 v32 v33 v34 v35 v36 v37 (nI ol)), (v9, .inl (cA 0, 700, .inl fb))] H := ⟨hP, hD⟩
  refine lv_aload_n hx hb dX10_feed_5 rfl (lv_at hl 0 rfl) ?_
  refine va_get (D := D) (ci := 11) (v := .int (nI nb)) (C := RX10) (T := TX10) (N := 39) hx hb hts inX10 hown hK hP 0 rfl rfl 10 (by decide) (hts (.fieldLink RX10 90 "EscrowDeskModel" "buffered" "I") (by decide +kernel)) (fun _ h9 => h9) rfl dX10_feed_6 ?_
  refine lv_bipush (v := 20) hx hb dX10_feed_9 (by decide) ?_
  refine lv_iadd hx hb dX10_feed_11 ?_
  refine lv_topi (fun yn1 eyn1 => ?_)
  obtain rfl : yn1 = (nI (nb + 20)) := eyn1.trans (nI_add nb 20)
  refine lv_sipush (v := 700) hx hb dX10_feed_12 (by decide) ?_
  refine lv_icmp_le (tgt := 21) hx hb dX10_feed_15 (by decide) (fun c2 => ?_) (fun c9 => absurd (nI_le (a := (nb + 20)) (b := 700) (show (nb + 20) ≤ 700 by omega) (by omega)) c9)
  refine lv_aload_n hx hb dX10_feed_21 rfl (lv_at hl 0 rfl) ?_
  refine lv_iload_n hx hb dX10_feed_22 rfl (lv_at hl 1 rfl) ?_
  obtain ⟨hPc, hDc, hFc⟩ := PDq.cut (wc := [(oX10 w0 v0 v1 v2 v3 v4 g5 g6 (nI ed) 0 v9 (nI nb) g11 g12 v13 g14 g15 g16 g17 g18 g19 g20 g21 g22 g23 g24 g25 g26 v27 v28 v29 v30 v31 v32 v33 v34 v35 v36 v37 (nI ol)), (v9, .inl (cA 0, 700, .inl fb))]) hP hD hS hA [0, 1] (by decide) rfl
  refine va_callv (va_runV (As := [.int w1]) (rest := []) ⟨hx, hb, hml, hown, hts⟩ (y_append l D cA sa w0 ed nb ol v0 v1 v2 v3 v4 v9 v13 v27 v28 v29 v30 v31 v32 v33 v34 v35 v36 v37 0 g11 g12 g14 g15 g16 g17 g18 g19 g20 g21 g22 g23 g24 g26 g5 g6 g25 w1 fb H.size (by omega)) (cwV 1 hts gX10_feed_X10_append rfl rfl rfl (by decide +kernel) ⟨(Nat.le_of_ble_eq_true rfl), (Nat.le_of_ble_eq_true rfl)⟩) ⟨Wd.blind, va_recv hK hPc (ci := 11) (q0 := 0) rfl rfl, fun U hU hW => ⟨rfl, Wd.call hPc hDc hK hC hZ hS hFc U hU hW⟩⟩ rfl rfl hl.1 rfl (lv_room (Nat.le_of_ble_eq_true rfl)) dX10_feed_23 ⟨(Nat.le_of_ble_eq_true rfl), (Nat.le_of_ble_eq_true rfl)⟩) hS (fun q _ h => hFc q h) hFc (fun u t H1 locs ht hvm hw hB hz1 hk1 hS => ?_)
  obtain ⟨qn3, fn4, hn5, hn6, hP1, hD1⟩ := hB
  rw [ht] at hP1
  obtain ⟨hP, hD⟩ := PDq.join (w := [(oX10 w0 v0 v1 v2 v3 v4 g5 g6 (nI ed) 0 v9 (nI qn3) g11 g12 v13 g14 g15 g16 g17 g18 g19 g20 g21 g22 g23 g24 g25 g26 v27 v28 v29 v30 v31 v32 v33 v34 v35 v36 v37 (nI ol)), (v9, .inl (cA 0, 700, .inl fn4))]) 0 hP hD [0, 1] [] rfl rfl (by decide) (by decide) hk1 hFc hP1 hD1 rfl
  generalize H1 = H at hP hS ⊢
  subst hn5
  obtain ⟨hP, hD⟩ : PDq D A [(oX10 w0 v0 v1 v2 v3 v4 g5 g6 (nI ed) 0 v9 (nI (nb + 4)) g11 g12 v13 g14 g15 g16 g17 g18 g19 g20 g21 g22 g23 g24 g25 g26 v27 v28 v29 v30 v31 v32 v33 v34 v35 v36 v37 (nI ol)), (v9, .inl (cA 0, 700, .inl fn4))] H := ⟨hP, hD⟩
  refine lv_aload_n hx hb dX10_feed_26 rfl (lv_at hl 0 rfl) ?_
  refine lv_iload_n hx hb dX10_feed_27 rfl (lv_at hl 2 rfl) ?_
  obtain ⟨hPc, hDc, hFc⟩ := PDq.cut (wc := [(oX10 w0 v0 v1 v2 v3 v4 g5 g6 (nI ed) 0 v9 (nI (nb + 4)) g11 g12 v13 g14 g15 g16 g17 g18 g19 g20 g21 g22 g23 g24 g25 g26 v27 v28 v29 v30 v31 v32 v33 v34 v35 v36 v37 (nI ol)), (v9, .inl (cA 0, 700, .inl fn4))]) hP hD hS hA [0, 1] (by decide) rfl
  refine va_callv (va_runV (As := [.int w2]) (rest := []) ⟨hx, hb, hml, hown, hts⟩ (y_append l D cA sa w0 ed (nb + 4) ol v0 v1 v2 v3 v4 v9 v13 v27 v28 v29 v30 v31 v32 v33 v34 v35 v36 v37 0 g11 g12 g14 g15 g16 g17 g18 g19 g20 g21 g22 g23 g24 g26 g5 g6 g25 w2 fn4 H.size (by omega)) (cwV 1 hts gX10_feed_X10_append rfl rfl rfl (by decide +kernel) ⟨(Nat.le_of_ble_eq_true rfl), (Nat.le_of_ble_eq_true rfl)⟩) ⟨Wd.blind, va_recv hK hPc (ci := 11) (q0 := 0) rfl rfl, fun U hU hW => ⟨rfl, Wd.call hPc hDc hK hC hZ hS hFc U hU hW⟩⟩ rfl rfl hl.1 rfl (lv_room (Nat.le_of_ble_eq_true rfl)) dX10_feed_28 ⟨(Nat.le_of_ble_eq_true rfl), (Nat.le_of_ble_eq_true rfl)⟩) hS (fun q _ h => hFc q h) hFc (fun u t H1 locs ht hvm hw hB hz1 hk1 hS => ?_)
  obtain ⟨qn7, fn8, hn9, hn10, hP1, hD1⟩ := hB
  rw [ht] at hP1
  obtain ⟨hP, hD⟩ := PDq.join (w := [(oX10 w0 v0 v1 v2 v3 v4 g5 g6 (nI ed) 0 v9 (nI qn7) g11 g12 v13 g14 g15 g16 g17 g18 g19 g20 g21 g22 g23 g24 g25 g26 v27 v28 v29 v30 v31 v32 v33 v34 v35 v36 v37 (nI ol)), (v9, .inl (cA 0, 700, .inl fn8))]) 0 hP hD [0, 1] [] rfl rfl (by decide) (by decide) hk1 hFc hP1 hD1 rfl
  generalize H1 = H at hP hS ⊢
  subst hn9
  obtain ⟨hP, hD⟩ : PDq D A [(oX10 w0 v0 v1 v2 v3 v4 g5 g6 (nI ed) 0 v9 (nI ((nb + 4) + 4)) g11 g12 v13 g14 g15 g16 g17 g18 g19 g20 g21 g22 g23 g24 g25 g26 v27 v28 v29 v30 v31 v32 v33 v34 v35 v36 v37 (nI ol)), (v9, .inl (cA 0, 700, .inl fn8))] H := ⟨hP, hD⟩
  refine lv_aload_n hx hb dX10_feed_31 rfl (lv_at hl 0 rfl) ?_
  refine lv_iload_n hx hb dX10_feed_32 rfl (lv_at hl 3 rfl) ?_
  obtain ⟨hPc, hDc, hFc⟩ := PDq.cut (wc := [(oX10 w0 v0 v1 v2 v3 v4 g5 g6 (nI ed) 0 v9 (nI ((nb + 4) + 4)) g11 g12 v13 g14 g15 g16 g17 g18 g19 g20 g21 g22 g23 g24 g25 g26 v27 v28 v29 v30 v31 v32 v33 v34 v35 v36 v37 (nI ol)), (v9, .inl (cA 0, 700, .inl fn8))]) hP hD hS hA [0, 1] (by decide) rfl
  refine va_callv (va_runV (As := [.int w3]) (rest := []) ⟨hx, hb, hml, hown, hts⟩ (y_append l D cA sa w0 ed ((nb + 4) + 4) ol v0 v1 v2 v3 v4 v9 v13 v27 v28 v29 v30 v31 v32 v33 v34 v35 v36 v37 0 g11 g12 g14 g15 g16 g17 g18 g19 g20 g21 g22 g23 g24 g26 g5 g6 g25 w3 fn8 H.size (by omega)) (cwV 1 hts gX10_feed_X10_append rfl rfl rfl (by decide +kernel) ⟨(Nat.le_of_ble_eq_true rfl), (Nat.le_of_ble_eq_true rfl)⟩) ⟨Wd.blind, va_recv hK hPc (ci := 11) (q0 := 0) rfl rfl, fun U hU hW => ⟨rfl, Wd.call hPc hDc hK hC hZ hS hFc U hU hW⟩⟩ rfl rfl hl.1 rfl (lv_room (Nat.le_of_ble_eq_true rfl)) dX10_feed_33 ⟨(Nat.le_of_ble_eq_true rfl), (Nat.le_of_ble_eq_true rfl)⟩) hS (fun q _ h => hFc q h) hFc (fun u t H1 locs ht hvm hw hB hz1 hk1 hS => ?_)
  obtain ⟨qn11, fn12, hn13, hn14, hP1, hD1⟩ := hB
  rw [ht] at hP1
  obtain ⟨hP, hD⟩ := PDq.join (w := [(oX10 w0 v0 v1 v2 v3 v4 g5 g6 (nI ed) 0 v9 (nI qn11) g11 g12 v13 g14 g15 g16 g17 g18 g19 g20 g21 g22 g23 g24 g25 g26 v27 v28 v29 v30 v31 v32 v33 v34 v35 v36 v37 (nI ol)), (v9, .inl (cA 0, 700, .inl fn12))]) 0 hP hD [0, 1] [] rfl rfl (by decide) (by decide) hk1 hFc hP1 hD1 rfl
  generalize H1 = H at hP hS ⊢
  subst hn13
  obtain ⟨hP, hD⟩ : PDq D A [(oX10 w0 v0 v1 v2 v3 v4 g5 g6 (nI ed) 0 v9 (nI (((nb + 4) + 4) + 4)) g11 g12 v13 g14 g15 g16 g17 g18 g19 g20 g21 g22 g23 g24 g25 g26 v27 v28 v29 v30 v31 v32 v33 v34 v35 v36 v37 (nI ol)), (v9, .inl (cA 0, 700, .inl fn12))] H := ⟨hP, hD⟩
  refine lv_aload_n hx hb dX10_feed_36 rfl (lv_at hl 0 rfl) ?_
  refine lv_iload hx hb dX10_feed_37 (lv_at hl 4 rfl) ?_
  obtain ⟨hPc, hDc, hFc⟩ := PDq.cut (wc := [(oX10 w0 v0 v1 v2 v3 v4 g5 g6 (nI ed) 0 v9 (nI (((nb + 4) + 4) + 4)) g11 g12 v13 g14 g15 g16 g17 g18 g19 g20 g21 g22 g23 g24 g25 g26 v27 v28 v29 v30 v31 v32 v33 v34 v35 v36 v37 (nI ol)), (v9, .inl (cA 0, 700, .inl fn12))]) hP hD hS hA [0, 1] (by decide) rfl
  refine va_callv (va_runV (As := [.int w4]) (rest := []) ⟨hx, hb, hml, hown, hts⟩ (y_append l D cA sa w0 ed (((nb + 4) + 4) + 4) ol v0 v1 v2 v3 v4 v9 v13 v27 v28 v29 v30 v31 v32 v33 v34 v35 v36 v37 0 g11 g12 g14 g15 g16 g17 g18 g19 g20 g21 g22 g23 g24 g26 g5 g6 g25 w4 fn12 H.size (by omega)) (cwV 1 hts gX10_feed_X10_append rfl rfl rfl (by decide +kernel) ⟨(Nat.le_of_ble_eq_true rfl), (Nat.le_of_ble_eq_true rfl)⟩) ⟨Wd.blind, va_recv hK hPc (ci := 11) (q0 := 0) rfl rfl, fun U hU hW => ⟨rfl, Wd.call hPc hDc hK hC hZ hS hFc U hU hW⟩⟩ rfl rfl hl.1 rfl (lv_room (Nat.le_of_ble_eq_true rfl)) dX10_feed_39 ⟨(Nat.le_of_ble_eq_true rfl), (Nat.le_of_ble_eq_true rfl)⟩) hS (fun q _ h => hFc q h) hFc (fun u t H1 locs ht hvm hw hB hz1 hk1 hS => ?_)
  obtain ⟨qn15, fn16, hn17, hn18, hP1, hD1⟩ := hB
  rw [ht] at hP1
  obtain ⟨hP, hD⟩ := PDq.join (w := [(oX10 w0 v0 v1 v2 v3 v4 g5 g6 (nI ed) 0 v9 (nI qn15) g11 g12 v13 g14 g15 g16 g17 g18 g19 g20 g21 g22 g23 g24 g25 g26 v27 v28 v29 v30 v31 v32 v33 v34 v35 v36 v37 (nI ol)), (v9, .inl (cA 0, 700, .inl fn16))]) 0 hP hD [0, 1] [] rfl rfl (by decide) (by decide) hk1 hFc hP1 hD1 rfl
  generalize H1 = H at hP hS ⊢
  subst hn17
  obtain ⟨hP, hD⟩ : PDq D A [(oX10 w0 v0 v1 v2 v3 v4 g5 g6 (nI ed) 0 v9 (nI ((((nb + 4) + 4) + 4) + 4)) g11 g12 v13 g14 g15 g16 g17 g18 g19 g20 g21 g22 g23 g24 g25 g26 v27 v28 v29 v30 v31 v32 v33 v34 v35 v36 v37 (nI ol)), (v9, .inl (cA 0, 700, .inl fn16))] H := ⟨hP, hD⟩
  refine lv_aload_n hx hb dX10_feed_42 rfl (lv_at hl 0 rfl) ?_
  refine lv_iload hx hb dX10_feed_43 (lv_at hl 5 rfl) ?_
  obtain ⟨hPc, hDc, hFc⟩ := PDq.cut (wc := [(oX10 w0 v0 v1 v2 v3 v4 g5 g6 (nI ed) 0 v9 (nI ((((nb + 4) + 4) + 4) + 4)) g11 g12 v13 g14 g15 g16 g17 g18 g19 g20 g21 g22 g23 g24 g25 g26 v27 v28 v29 v30 v31 v32 v33 v34 v35 v36 v37 (nI ol)), (v9, .inl (cA 0, 700, .inl fn16))]) hP hD hS hA [0, 1] (by decide) rfl
  refine va_callv (va_runV (As := [.int w5]) (rest := []) ⟨hx, hb, hml, hown, hts⟩ (y_append l D cA sa w0 ed ((((nb + 4) + 4) + 4) + 4) ol v0 v1 v2 v3 v4 v9 v13 v27 v28 v29 v30 v31 v32 v33 v34 v35 v36 v37 0 g11 g12 g14 g15 g16 g17 g18 g19 g20 g21 g22 g23 g24 g26 g5 g6 g25 w5 fn16 H.size (by omega)) (cwV 1 hts gX10_feed_X10_append rfl rfl rfl (by decide +kernel) ⟨(Nat.le_of_ble_eq_true rfl), (Nat.le_of_ble_eq_true rfl)⟩) ⟨Wd.blind, va_recv hK hPc (ci := 11) (q0 := 0) rfl rfl, fun U hU hW => ⟨rfl, Wd.call hPc hDc hK hC hZ hS hFc U hU hW⟩⟩ rfl rfl hl.1 rfl (lv_room (Nat.le_of_ble_eq_true rfl)) dX10_feed_45 ⟨(Nat.le_of_ble_eq_true rfl), (Nat.le_of_ble_eq_true rfl)⟩) hS (fun q _ h => hFc q h) hFc (fun u t H1 locs ht hvm hw hB hz1 hk1 hS => ?_)
  obtain ⟨qn19, fn20, hn21, hn22, hP1, hD1⟩ := hB
  rw [ht] at hP1
  obtain ⟨hP, hD⟩ := PDq.join (w := [(oX10 w0 v0 v1 v2 v3 v4 g5 g6 (nI ed) 0 v9 (nI qn19) g11 g12 v13 g14 g15 g16 g17 g18 g19 g20 g21 g22 g23 g24 g25 g26 v27 v28 v29 v30 v31 v32 v33 v34 v35 v36 v37 (nI ol)), (v9, .inl (cA 0, 700, .inl fn20))]) 0 hP hD [0, 1] [] rfl rfl (by decide) (by decide) hk1 hFc hP1 hD1 rfl
  generalize H1 = H at hP hS ⊢
  subst hn21
  obtain ⟨hP, hD⟩ : PDq D A [(oX10 w0 v0 v1 v2 v3 v4 g5 g6 (nI ed) 0 v9 (nI (((((nb + 4) + 4) + 4) + 4) + 4)) g11 g12 v13 g14 g15 g16 g17 g18 g19 g20 g21 g22 g23 g24 g25 g26 v27 v28 v29 v30 v31 v32 v33 v34 v35 v36 v37 (nI ol)), (v9, .inl (cA 0, 700, .inl fn20))] H := ⟨hP, hD⟩
  refine lv_aload_n hx hb dX10_feed_48 rfl (lv_at hl 0 rfl) ?_
  refine va_get (D := D) (ci := 11) (v := .int (nI (((((nb + 4) + 4) + 4) + 4) + 4))) (C := RX10) (T := TX10) (N := 39) hx hb hts inX10 hown hK hP 0 rfl rfl 10 (by decide) (hts (.fieldLink RX10 90 "EscrowDeskModel" "buffered" "I") (by decide +kernel)) (fun _ h9 => h9) rfl dX10_feed_49 ?_
  obtain ⟨hP9, hD9⟩ := PDq.sub (ws' := [(oX10 w0 v0 v1 v2 v3 v4 g5 g6 (nI ed) 0 v9 (nI (((((nb + 4) + 4) + 4) + 4) + 4)) g11 g12 v13 g14 g15 g16 g17 g18 g19 g20 g21 g22 g23 g24 g25 g26 v27 v28 v29 v30 v31 v32 v33 v34 v35 v36 v37 (nI ol)), (v9, .inl (cA 0, 700, .inl fn20))]) hP hD [0, 1] (by decide) rfl
  refine W.widen (k := 0) (n := 0) (Nat.le_of_ble_eq_true rfl) (Nat.le_of_ble_eq_true rfl) ?_
  exact (W.iret (v := (nI (((((nb + 4) + 4) + 4) + 4) + 4))) hx hb hr (fun t ht hW => ⟨⟨(nI (((((nb + 4) + 4) + 4) + 4) + 4)), (), rfl, (by rw [show nb + 20 = (((((nb + 4) + 4) + 4) + 4) + 4) by omega]), (((((nb + 4) + 4) + 4) + 4) + 4), fn20, (by omega), ⟨_, _, _, _, hn6, hn10, hn14, hn18, hn22⟩, by rw [ht]; exact hP9, hD9⟩, hS.F ht⟩) hS.2.2 dX10_feed_52)

set_option maxHeartbeats 4000000 in
set_option maxRecDepth 100000 in
/-- isLatin1 -/
theorem j_isLatin1 (l : Launch) (D : va_G) (cA : Nat → ClassId) (sa : Nat → Nat) (o0 : Nat) (o1 : Nat) (ct : Nat) (mb : Int32) (sz : Nat) : Met l yJ5_isLatin1_aae02 wsJ5_isLatin1_aae02 ({ frames := 0, cells := 0, slots := 0, locals := 0 }) (va_Pc [.ref o0] (Wd D cA sa [(oJ4 o0 o1 0 mb (nI ct))] sz)) (va_Qi (fun (r : Int32) (_ : Unit) => r = 1) (fun (_ : Unit) t => Wq D (va_A [(oJ4 o0 o1 0 mb (nI ct))] sz) [(oJ4 o0 o1 0 mb (nI ct))] t) (va_A [(oJ4 o0 o1 0 mb (nI ct))] sz)) 0 0 (va_A [(oJ4 o0 o1 0 mb (nI ct))] sz) := by
  refine Met.ofW (cc := cJ5_isLatin1_aae02) (maxL := 1) (ret := (some .boolean)) (by decide) rfl ?_
  intro p e s m args below meth c s₁ B hml hv
  obtain ⟨rfl, hsz, hP, hK, hD0, hC, hZ⟩ := hv
  have hx := B.exec
  have hb := B.bytes
  have hr := B.returns
  have hts := atoms_spec (ws := wsJ5_isLatin1_aae02) B.pre
  have hown : s.vm.findClass RJ5 = some m.cls := findClass_of_methodNamed B.named
  have hlocks := B.notSynchronized
  subst hsz
  have hD := hD0.self (sz := s.heap.size)
  generalize hAe : va_A [(oJ4 o0 o1 0 mb (nI ct))] s.heap.size = A at hD hZ ⊢
  have hA : ∀ q : Nat, s.heap.size ≤ q → A q := fun q h => by rw [← hAe]; exact Or.inr h
  have hS : va_S A s.heap s.heap [] := va_S.rf
  have hP : va_P D vwCl [(oJ4 o0 o1 0 mb (nI ct))] s.heap := hP
  have hl := lv_entry ([.ref o0]) (n := 1) (Nat.le_of_ble_eq_true rfl)
  rw [lg_entry_eq]
  generalize (lg_sl ([.ref o0]) ++ List.replicate (1 - (lg_sl ([.ref o0])).length) Slot.unset).toArray = ls at hl ⊢
  have hl : lv_has ls 1 [(0, .ref o0)] := hl
  have inJ4 : ∀ w ∈ u_ws RJ4 TJ4 4, w ∈ wsJ5_isLatin1_aae02 := by decide +kernel
  refine va_gets hx hb hZ.2.2.1 hS hown (hts (.fieldLink RJ5 18 "java/lang/String" "COMPACT_STRINGS" "Z") (by decide +kernel)) (fun _ h9 => h9) dJ5_isLatin1_aae02_0 ?_
  refine lv_if_eq (tgt := 17) hx hb dJ5_isLatin1_aae02_3 (by decide) (fun c9 => absurd c9 (by decide)) (fun c1 => ?_)
  refine lv_aload_n hx hb dJ5_isLatin1_aae02_6 rfl (lv_at hl 0 rfl) ?_
  refine va_get (D := D) (ci := 1) (v := .int 0) (C := RJ4) (T := TJ4) (N := 4) hx hb hts inJ4 hown hK hP 0 rfl rfl 1 (by decide) (hts (.fieldLink RJ5 22 "java/lang/AbstractStringBuilder" "coder" "B") (by decide +kernel)) (fun _ h9 => h9) rfl dJ5_isLatin1_aae02_7 ?_
  refine lv_if_ne (tgt := 17) hx hb dJ5_isLatin1_aae02_10 (by decide) (fun c9 => absurd c9 (by decide)) (fun c2 => ?_)
  refine lv_iconst (v := 1) hx hb dJ5_isLatin1_aae02_13 (by decide) ?_
  refine lv_goto (tgt := 18) hx hb dJ5_isLatin1_aae02_14 (by decide) ?_
  obtain ⟨hP9, hD9⟩ := PDq.sub (ws' := [(oJ4 o0 o1 0 mb (nI ct))]) hP hD [0] (by decide) rfl
  refine W.widen (k := 0) (n := 0) (Nat.le_of_ble_eq_true rfl) (Nat.le_of_ble_eq_true rfl) ?_
  exact (W.zret (v := 1) hx hb hr (by first | rfl | decide) (fun t ht hW => ⟨⟨1, (), rfl, rfl, by rw [ht]; exact hP9, hD9⟩, hS.F ht⟩) hS.2.2 dJ5_isLatin1_aae02_18)

set_option maxHeartbeats 4000000 in
set_option maxRecDepth 100000 in
/-- canEncode -/
theorem j_canEncode (l : Launch) (D : va_G) (cA : Nat → ClassId) (sa : Nat → Nat) (ch : Nat) (sz : Nat) (hch : ch < 256) : Met l yJ1_canEncode_fc78d wsJ1_canEncode_fc78d ({ frames := 0, cells := 0, slots := 0, locals := 0 }) (va_Pc [.int (nI ch)] (Wd D cA sa [] sz)) (va_Qi (fun (r : Int32) (_ : Unit) => r = 1) (fun (_ : Unit) t => Wq D (va_A [] sz) [] t) (va_A [] sz)) 0 0 (va_A [] sz) := by
  refine Met.ofW (cc := cJ1_canEncode_fc78d) (maxL := 1) (ret := (some .boolean)) (by decide) rfl ?_
  intro p e s m args below meth c s₁ B hml hv
  obtain ⟨rfl, hsz, hP, hK, hD0, hC, hZ⟩ := hv
  have hx := B.exec
  have hb := B.bytes
  have hr := B.returns
  have hts := atoms_spec (ws := wsJ1_canEncode_fc78d) B.pre
  have hown : s.vm.findClass RJ1 = some m.cls := findClass_of_methodNamed B.named
  have hlocks := B.notSynchronized
  subst hsz
  have hD := hD0.self (sz := s.heap.size)
  generalize hAe : va_A [] s.heap.size = A at hD hZ ⊢
  have hA : ∀ q : Nat, s.heap.size ≤ q → A q := fun q h => by rw [← hAe]; exact Or.inr h
  have hS : va_S A s.heap s.heap [] := va_S.rf
  have hP : va_P D vwCl [] s.heap := hP
  have hl := lv_entry ([.int (nI ch)]) (n := 1) (Nat.le_of_ble_eq_true rfl)
  rw [lg_entry_eq]
  generalize (lg_sl ([.int (nI ch)]) ++ List.replicate (1 - (lg_sl ([.int (nI ch)])).length) Slot.unset).toArray = ls at hl ⊢
  have hl : lv_has ls 1 [(0, .int (nI ch))] := hl
  refine lv_iload_n hx hb dJ1_canEncode_fc78d_0 rfl (lv_at hl 0 rfl) ?_
  refine lv_sipush (v := 255) hx hb dJ1_canEncode_fc78d_1 (by decide) ?_
  refine lv_icmp_gt (tgt := 11) hx hb dJ1_canEncode_fc78d_4 (by decide) (fun c9 => absurd c9 (nI_nlt (a := 255) (b := ch) (show ch ≤ 255 by omega) (by omega))) (fun c1 => ?_)
  refine lv_iconst (v := 1) hx hb dJ1_canEncode_fc78d_7 (by decide) ?_
  refine lv_goto (tgt := 12) hx hb dJ1_canEncode_fc78d_8 (by decide) ?_
  obtain ⟨hP9, hD9⟩ := PDq.sub (ws' := []) hP hD [] (by decide) rfl
  refine W.widen (k := 0) (n := 0) (Nat.le_of_ble_eq_true rfl) (Nat.le_of_ble_eq_true rfl) ?_
  exact (W.zret (v := 1) hx hb hr (by first | rfl | decide) (fun t ht hW => ⟨⟨1, (), rfl, rfl, by rw [ht]; exact hP9, hD9⟩, hS.F ht⟩) hS.2.2 dJ1_canEncode_fc78d_12)

set_option maxHeartbeats 4000000 in
set_option maxRecDepth 100000 in
/-- AbstractStringBuilder.length -/
theorem j_length5 (l : Launch) (D : va_G) (cA : Nat → ClassId) (sa : Nat → Nat) (o0 : Nat) (o1 : Nat) (ct : Nat) (mb : Int32) (sz : Nat) : Met l yJ5_length_8abf5 wsJ5_length_8abf5 ({ frames := 0, cells := 0, slots := 0, locals := 0 }) (va_Pc [.ref o0] (Wd D cA sa [(oJ4 o0 o1 0 mb (nI ct))] sz)) (va_Qi (fun (r : Int32) (_ : Unit) => r = (nI ct)) (fun (_ : Unit) t => Wq D (va_A [(oJ4 o0 o1 0 mb (nI ct))] sz) [(oJ4 o0 o1 0 mb (nI ct))] t) (va_A [(oJ4 o0 o1 0 mb (nI ct))] sz)) 0 0 (va_A [(oJ4 o0 o1 0 mb (nI ct))] sz) := by
  refine Met.ofW (cc := cJ5_length_8abf5) (maxL := 1) (ret := (some .int)) (by decide) rfl ?_
  intro p e s m args below meth c s₁ B hml hv
  obtain ⟨rfl, hsz, hP, hK, hD0, hC, hZ⟩ := hv
  have hx := B.exec
  have hb := B.bytes
  have hr := B.returns
  have hts := atoms_spec (ws := wsJ5_length_8abf5) B.pre
  have hown : s.vm.findClass RJ5 = some m.cls := findClass_of_methodNamed B.named
  have hlocks := B.notSynchronized
  subst hsz
  have hD := hD0.self (sz := s.heap.size)
  generalize hAe : va_A [(oJ4 o0 o1 0 mb (nI ct))] s.heap.size = A at hD hZ ⊢
  have hA : ∀ q : Nat, s.heap.size ≤ q → A q := fun q h => by rw [← hAe]; exact Or.inr h
  have hS : va_S A s.heap s.heap [] := va_S.rf
  have hP : va_P D vwCl [(oJ4 o0 o1 0 mb (nI ct))] s.heap := hP
  have hl := lv_entry ([.ref o0]) (n := 1) (Nat.le_of_ble_eq_true rfl)
  rw [lg_entry_eq]
  generalize (lg_sl ([.ref o0]) ++ List.replicate (1 - (lg_sl ([.ref o0])).length) Slot.unset).toArray = ls at hl ⊢
  have hl : lv_has ls 1 [(0, .ref o0)] := hl
  have inJ4 : ∀ w ∈ u_ws RJ4 TJ4 4, w ∈ wsJ5_length_8abf5 := by decide +kernel
  refine lv_aload_n hx hb dJ5_length_8abf5_0 rfl (lv_at hl 0 rfl) ?_
  refine va_get (D := D) (ci := 1) (v := .int (nI ct)) (C := RJ4) (T := TJ4) (N := 4) hx hb hts inJ4 hown hK hP 0 rfl rfl 3 (by decide) (hts (.fieldLink RJ5 79 "java/lang/AbstractStringBuilder" "count" "I") (by decide +kernel)) (fun _ h9 => h9) rfl dJ5_length_8abf5_1 ?_
  obtain ⟨hP9, hD9⟩ := PDq.sub (ws' := [(oJ4 o0 o1 0 mb (nI ct))]) hP hD [0] (by decide) rfl
  refine W.widen (k := 0) (n := 0) (Nat.le_of_ble_eq_true rfl) (Nat.le_of_ble_eq_true rfl) ?_
  exact (W.iret (v := (nI ct)) hx hb hr (fun t ht hW => ⟨⟨(nI ct), (), rfl, rfl, by rw [ht]; exact hP9, hD9⟩, hS.F ht⟩) hS.2.2 dJ5_length_8abf5_4)

set_option maxHeartbeats 4000000 in
set_option maxRecDepth 100000 in
/-- StringBuilder.length -/
theorem j_length (l : Launch) (D : va_G) (cA : Nat → ClassId) (sa : Nat → Nat) (o0 : Nat) (o1 : Nat) (ct : Nat) (mb : Int32) (sz : Nat) : Met l yJ4_length_8abf5 wsJ4_length_8abf5 ({ frames := 1, cells := 0, slots := 0, locals := 20 }) (va_Pc [.ref o0] (Wd D cA sa [(oJ4 o0 o1 0 mb (nI ct))] sz)) (va_Qi (fun (r : Int32) (_ : Unit) => r = (nI ct)) (fun (_ : Unit) t => Wq D (va_A [(oJ4 o0 o1 0 mb (nI ct))] sz) [(oJ4 o0 o1 0 mb (nI ct))] t) (va_A [(oJ4 o0 o1 0 mb (nI ct))] sz)) 0 0 (va_A [(oJ4 o0 o1 0 mb (nI ct))] sz) := by
  refine Met.ofW (cc := cJ4_length_8abf5) (maxL := 1) (ret := (some .int)) (by decide) rfl ?_
  intro p e s m args below meth c s₁ B hml hv
  obtain ⟨rfl, hsz, hP, hK, hD0, hC, hZ⟩ := hv
  have hx := B.exec
  have hb := B.bytes
  have hr := B.returns
  have hts := atoms_spec (ws := wsJ4_length_8abf5) B.pre
  have hown : s.vm.findClass RJ4 = some m.cls := findClass_of_methodNamed B.named
  have hlocks := B.notSynchronized
  subst hsz
  have hD := hD0.self (sz := s.heap.size)
  generalize hAe : va_A [(oJ4 o0 o1 0 mb (nI ct))] s.heap.size = A at hD hZ ⊢
  have hA : ∀ q : Nat, s.heap.size ≤ q → A q := fun q h => by rw [← hAe]; exact Or.inr h
  have hS : va_S A s.heap s.heap [] := va_S.rf
  have hP : va_P D vwCl [(oJ4 o0 o1 0 mb (nI ct))] s.heap := hP
  have hl := lv_entry ([.ref o0]) (n := 1) (Nat.le_of_ble_eq_true rfl)
  rw [lg_entry_eq]
  generalize (lg_sl ([.ref o0]) ++ List.replicate (1 - (lg_sl ([.ref o0])).length) Slot.unset).toArray = ls at hl ⊢
  have hl : lv_has ls 1 [(0, .ref o0)] := hl
  refine lv_aload_n hx hb dJ4_length_8abf5_0 rfl (lv_at hl 0 rfl) ?_
  obtain ⟨hPc, hDc, hFc⟩ := PDq.cut (wc := [(oJ4 o0 o1 0 mb (nI ct))]) hP hD hS hA [0] (by decide) rfl
  refine va_calli (va_runSU (As := []) (rest := []) (hK.1 1 _ rfl).2 ⟨hx, hb, hml, hown, hts⟩ (j_length5 l D cA sa o0 o1 ct mb s.heap.size) (va_cwSU 0 hts gJ4_length_8abf5_J5_length_8abf5_s343 rfl rfl rfl (by decide +kernel) ⟨(Nat.le_of_ble_eq_true rfl), (Nat.le_of_ble_eq_true rfl)⟩) ⟨Wd.blind, va_recv hK hPc (ci := 1) (q0 := 0) rfl rfl, fun U hU hW => ⟨rfl, Wd.call hPc hDc hK hC hZ hS hFc U hU hW⟩⟩ rfl rfl hl.1 rfl (lv_room (Nat.le_of_ble_eq_true rfl)) dJ4_length_8abf5_1 ⟨(Nat.le_of_ble_eq_true rfl), (Nat.le_of_ble_eq_true rfl)⟩) hS (fun q _ h => hFc q h) hFc (fun rn1 u t H1 locs ht hvm hw hB hz1 hk1 hS => ?_)
  obtain ⟨hP1, hD1⟩ := hB
  rw [ht] at hP1
  obtain ⟨hP, hD⟩ := PDq.join (w := [(oJ4 o0 o1 0 mb (nI ct))]) 0 hP hD [0] [] rfl rfl (by decide) (by decide) hk1 hFc hP1 hD1 rfl
  generalize H1 = H at hP hS ⊢
  obtain rfl : rn1 = (nI ct) := hw
  obtain ⟨hP9, hD9⟩ := PDq.sub (ws' := [(oJ4 o0 o1 0 mb (nI ct))]) hP hD [0] (by decide) rfl
  refine W.widen (k := 0) (n := 0) (Nat.le_of_ble_eq_true rfl) (Nat.le_of_ble_eq_true rfl) ?_
  exact (W.iret (v := (nI ct)) hx hb hr (fun t ht hW => ⟨⟨(nI ct), (), rfl, rfl, by rw [ht]; exact hP9, hD9⟩, hS.F ht⟩) hS.2.2 dJ4_length_8abf5_4)

set_option maxHeartbeats 4000000 in
set_option maxRecDepth 100000 in
/-- newLength -/
theorem j_newLength (l : Launch) (D : va_G) (cA : Nat → ClassId) (sa : Nat → Nat) (ma : Nat) (mb9 : Nat) (mc9 : Nat) (sz : Nat) (h1 : ma ≤ 1000) (h2 : mb9 ≤ 1000) (h3 : mc9 ≤ 1000) (h4 : 0 < mb9) : Met l yJ8_newLength_cabcc wsJ8_newLength_cabcc ({ frames := 1, cells := 0, slots := 0, locals := 21 }) (va_Pc [.int (nI ma), .int (nI mb9), .int (nI mc9)] (Wd D cA sa [] sz)) (va_Qi (fun (r : Int32) (_ : Unit) => r = (nI (ma + max mb9 mc9))) (fun (_ : Unit) t => Wq D (va_A [] sz) [] t) (va_A [] sz)) 0 0 (va_A [] sz) := by
  refine Met.ofW (cc := cJ8_newLength_cabcc) (maxL := 4) (ret := (some .int)) (by decide) rfl ?_
  intro p e s m args below meth c s₁ B hml hv
  obtain ⟨rfl, hsz, hP, hK, hD0, hC, hZ⟩ := hv
  have hx := B.exec
  have hb := B.bytes
  have hr := B.returns
  have hts := atoms_spec (ws := wsJ8_newLength_cabcc) B.pre
  have hown : s.vm.findClass RJ8 = some m.cls := findClass_of_methodNamed B.named
  have hlocks := B.notSynchronized
  subst hsz
  have hD := hD0.self (sz := s.heap.size)
  generalize hAe : va_A [] s.heap.size = A at hD hZ ⊢
  have hA : ∀ q : Nat, s.heap.size ≤ q → A q := fun q h => by rw [← hAe]; exact Or.inr h
  have hS : va_S A s.heap s.heap [] := va_S.rf
  have hP : va_P D vwCl [] s.heap := hP
  have hl := lv_entry ([.int (nI ma), .int (nI mb9), .int (nI mc9)]) (n := 4) (Nat.le_of_ble_eq_true rfl)
  rw [lg_entry_eq]
  generalize (lg_sl ([.int (nI ma), .int (nI mb9), .int (nI mc9)]) ++ List.replicate (4 - (lg_sl ([.int (nI ma), .int (nI mb9), .int (nI mc9)])).length) Slot.unset).toArray = ls at hl ⊢
  have hl : lv_has ls 4 [(0, .int (nI ma)), (1, .int (nI mb9)), (2, .int (nI mc9))] := hl
  refine lv_iload_n hx hb dJ8_newLength_cabcc_0 rfl (lv_at hl 0 rfl) ?_
  refine lv_iload_n hx hb dJ8_newLength_cabcc_1 rfl (lv_at hl 1 rfl) ?_
  refine lv_iload_n hx hb dJ8_newLength_cabcc_2 rfl (lv_at hl 2 rfl) ?_
  refine va_mmax hx hb (by rw [hml]; exact hl.1.symm) hown (hts (.methodLink RJ8 194 Lib.Math.max.name) (by decide +kernel)) (hts (.static Lib.Math.max.name) (by decide +kernel)) (hts (.initialized "java/lang/Math") (by decide +kernel)) (hts (.code Lib.Math.max.name Lib.Math.max.code 2 (some .int)) (by decide +kernel)) (Nat.le_of_ble_eq_true rfl) (Nat.le_of_ble_eq_true rfl) (Nat.le_of_ble_eq_true rfl) (Nat.le_of_ble_eq_true rfl) dJ8_newLength_cabcc_3 ?_
  refine lv_topi (fun yn1 eyn1 => ?_)
  obtain rfl : yn1 = (nI (max mb9 mc9)) := eyn1.trans (nI_max (a := mb9) (b := mc9) (by omega) (by omega))
  refine lv_iadd hx hb dJ8_newLength_cabcc_6 ?_
  refine lv_topi (fun yn2 eyn2 => ?_)
  obtain rfl : yn2 = (nI (ma + (max mb9 mc9))) := eyn2.trans (nI_add ma (max mb9 mc9))
  refine lv_istore_n (lv' := [(3, .int (nI (ma + (max mb9 mc9)))), (0, .int (nI ma)), (1, .int (nI mb9)), (2, .int (nI mc9))]) hx hb dJ8_newLength_cabcc_7 rfl hl (by decide) rfl (fun ls hl => ?_)
  refine lv_iconst (v := 0) hx hb dJ8_newLength_cabcc_8 (by decide) ?_
  refine lv_iload_n hx hb dJ8_newLength_cabcc_9 rfl (lv_at hl 0 rfl) ?_
  refine lv_icmp_ge (tgt := 21) hx hb dJ8_newLength_cabcc_10 (by decide) (fun c9 => absurd c9 (nI_ge (a := 0) (b := (ma + (max mb9 mc9))) (show 0 < (ma + (max mb9 mc9)) by omega) (by omega))) (fun c3 => ?_)
  refine lv_iload_n hx hb dJ8_newLength_cabcc_13 rfl (lv_at hl 0 rfl) ?_
  refine lv_ldc (v := 2147483639) hx hb hown (hts (.constant RJ8 200 2147483639) (by decide +kernel)) dJ8_newLength_cabcc_14 ?_
  refine lv_icmp_gt (tgt := 21) hx hb dJ8_newLength_cabcc_16 (by decide) (fun c9 => absurd c9 (nI_nlt (a := 2147483639) (b := (ma + (max mb9 mc9))) (show (ma + (max mb9 mc9)) ≤ 2147483639 by omega) (by omega))) (fun c4 => ?_)
  refine lv_iload_n hx hb dJ8_newLength_cabcc_19 rfl (lv_at hl 0 rfl) ?_
  obtain ⟨hP9, hD9⟩ := PDq.sub (ws' := []) hP hD [] (by decide) rfl
  refine W.widen (k := 0) (n := 0) (Nat.le_of_ble_eq_true rfl) (Nat.le_of_ble_eq_true rfl) ?_
  exact (W.iret (v := (nI (ma + (max mb9 mc9)))) hx hb hr (fun t ht hW => ⟨⟨(nI (ma + (max mb9 mc9))), (), rfl, rfl, by rw [ht]; exact hP9, hD9⟩, hS.F ht⟩) hS.2.2 dJ8_newLength_cabcc_20)

set_option maxHeartbeats 4000000 in
set_option maxRecDepth 100000 in
/-- newCapacity -/
theorem j_newCapacity (l : Launch) (D : va_G) (cA : Nat → ClassId) (sa : Nat → Nat) (o0 : Nat) (o1 : Nat) (ct : Nat) (cp : Nat) (mb : Int32) (fy : Nat → Int32) (q9 : Nat) (sz : Nat) (hct : ct ≤ cp) (hcp : cp ≤ 126) (hfit : sb_Fit fy) (hq1 : cp < q9) (hq2 : q9 ≤ 126) : Met l yJ5_newCapacity_0f7a4 wsJ5_newCapacity_0f7a4 ({ frames := 2, cells := 0, slots := 0, locals := 44 }) (va_Pc [.ref o0, .int (nI q9)] (Wd D cA sa [(oJ4 o0 o1 0 mb (nI ct)), (o1, .inl (cA 3, cp, .inl fy))] sz)) (va_Qi (fun (r : Int32) (_ : Unit) => r = (nI (cp + max (q9 - cp) (cp + 2)))) (fun (_ : Unit) t => Wq D (va_A [(oJ4 o0 o1 0 mb (nI ct)), (o1, .inl (cA 3, cp, .inl fy))] sz) [(oJ4 o0 o1 0 mb (nI ct)), (o1, .inl (cA 3, cp, .inl fy))] t) (va_A [(oJ4 o0 o1 0 mb (nI ct)), (o1, .inl (cA 3, cp, .inl fy))] sz)) 0 0 (va_A [(oJ4 o0 o1 0 mb (nI ct)), (o1, .inl (cA 3, cp, .inl fy))] sz) := by
  refine Met.ofW (cc := cJ5_newCapacity_0f7a4) (maxL := 6) (ret := (some .int)) (by decide) rfl ?_
  intro p e s m args below meth c s₁ B hml hv
  obtain ⟨rfl, hsz, hP, hK, hD0, hC, hZ⟩ := hv
  have hx := B.exec
  have hb := B.bytes
  have hr := B.returns
  have hts := atoms_spec (ws := wsJ5_newCapacity_0f7a4) B.pre
  have hown : s.vm.findClass RJ5 = some m.cls := findClass_of_methodNamed B.named
  have hlocks := B.notSynchronized
  subst hsz
  have hD := hD0.self (sz := s.heap.size)
  generalize hAe : va_A [(oJ4 o0 o1 0 mb (nI ct)), (o1, .inl (cA 3, cp, .inl fy))] s.heap.size = A at hD hZ ⊢
  have hA : ∀ q : Nat, s.heap.size ≤ q → A q := fun q h => by rw [← hAe]; exact Or.inr h
  have hS : va_S A s.heap s.heap [] := va_S.rf
  have hP : va_P D vwCl [(oJ4 o0 o1 0 mb (nI ct)), (o1, .inl (cA 3, cp, .inl fy))] s.heap := hP
  have hl := lv_entry ([.ref o0, .int (nI q9)]) (n := 6) (Nat.le_of_ble_eq_true rfl)
  rw [lg_entry_eq]
  generalize (lg_sl ([.ref o0, .int (nI q9)]) ++ List.replicate (6 - (lg_sl ([.ref o0, .int (nI q9)])).length) Slot.unset).toArray = ls at hl ⊢
  have hl : lv_has ls 6 [(0, .ref o0), (1, .int (nI q9))] := hl
  have inJ4 : ∀ w ∈ u_ws RJ4 TJ4 4, w ∈ wsJ5_newCapacity_0f7a4 := by decide +kernel
  refine lv_aload_n hx hb dJ5_newCapacity_0f7a4_0 rfl (lv_at hl 0 rfl) ?_
  refine va_get (D := D) (ci := 1) (v := .ref o1) (C := RJ4) (T := TJ4) (N := 4) hx hb hts inJ4 hown hK hP 0 rfl rfl 0 (by decide) (hts (.fieldLink RJ5 15 "java/lang/AbstractStringBuilder" "value" "[B") (by decide +kernel)) (fun _ h9 => h9) rfl dJ5_newCapacity_0f7a4_1 ?_
  refine va_alen (v := (nI cp)) hx hb hK hP 1 3 rfl rfl rfl dJ5_newCapacity_0f7a4_4 ?_
  refine lv_istore_n (lv' := [(2, .int (nI cp)), (0, .ref o0), (1, .int (nI q9))]) hx hb dJ5_newCapacity_0f7a4_5 rfl hl (by decide) rfl (fun ls hl => ?_)
  refine lv_iload_n hx hb dJ5_newCapacity_0f7a4_6 rfl (lv_at hl 2 rfl) ?_
  refine lv_aload_n hx hb dJ5_newCapacity_0f7a4_7 rfl (lv_at hl 1 rfl) ?_
  refine va_get (D := D) (ci := 1) (v := .int 0) (C := RJ4) (T := TJ4) (N := 4) hx hb hts inJ4 hown hK hP 0 rfl rfl 1 (by decide) (hts (.fieldLink RJ5 22 "java/lang/AbstractStringBuilder" "coder" "B") (by decide +kernel)) (fun _ h9 => h9) rfl dJ5_newCapacity_0f7a4_8 ?_
  refine lv_ishl hx hb dJ5_newCapacity_0f7a4_11 ?_
  refine lv_topi (fun yn1 eyn1 => ?_)
  obtain rfl : yn1 = (nI q9) := eyn1.trans (sb_shl0 _)
  refine lv_istore_n (lv' := [(3, .int (nI q9)), (2, .int (nI cp)), (0, .ref o0), (1, .int (nI q9))]) hx hb dJ5_newCapacity_0f7a4_12 rfl hl (by decide) rfl (fun ls hl => ?_)
  refine lv_iload_n hx hb dJ5_newCapacity_0f7a4_13 rfl (lv_at hl 0 rfl) ?_
  refine lv_iload_n hx hb dJ5_newCapacity_0f7a4_14 rfl (lv_at hl 1 rfl) ?_
  refine lv_isub hx hb dJ5_newCapacity_0f7a4_15 ?_
  refine lv_topi (fun yn2 eyn2 => ?_)
  obtain rfl : yn2 = (nI (q9 - cp)) := eyn2.trans (nI_sub (a := q9) (b := cp) (by omega))
  refine lv_istore (lv' := [(4, .int (nI (q9 - cp))), (3, .int (nI q9)), (2, .int (nI cp)), (0, .ref o0), (1, .int (nI q9))]) hx hb dJ5_newCapacity_0f7a4_16 hl (by decide) rfl (fun ls hl => ?_)
  refine lv_iload_n hx hb dJ5_newCapacity_0f7a4_18 rfl (lv_at hl 2 rfl) ?_
  refine lv_iload hx hb dJ5_newCapacity_0f7a4_19 (lv_at hl 0 rfl) ?_
  refine lv_iload_n hx hb dJ5_newCapacity_0f7a4_21 rfl (lv_at hl 2 rfl) ?_
  refine lv_iconst (v := 2) hx hb dJ5_newCapacity_0f7a4_22 (by decide) ?_
  refine lv_aload_n hx hb dJ5_newCapacity_0f7a4_23 rfl (lv_at hl 3 rfl) ?_
  refine va_get (D := D) (ci := 1) (v := .int 0) (C := RJ4) (T := TJ4) (N := 4) hx hb hts inJ4 hown hK hP 0 rfl rfl 1 (by decide) (hts (.fieldLink RJ5 22 "java/lang/AbstractStringBuilder" "coder" "B") (by decide +kernel)) (fun _ h9 => h9) rfl dJ5_newCapacity_0f7a4_24 ?_
  refine lv_ishl hx hb dJ5_newCapacity_0f7a4_27 ?_
  refine lv_topi (fun yn3 eyn3 => ?_)
  obtain rfl : yn3 = 2 := eyn3.trans (by first | rfl | decide +kernel)
  refine lv_iadd hx hb dJ5_newCapacity_0f7a4_28 ?_
  refine lv_topi (fun yn4 eyn4 => ?_)
  obtain rfl : yn4 = (nI (cp + 2)) := eyn4.trans (nI_add cp 2)
  obtain ⟨hPc, hDc, hFc⟩ := PDq.cut (wc := []) hP hD hS hA [] (by decide) rfl
  refine va_calli (va_runS (As := [.int (nI cp), .int (nI (q9 - cp)), .int (nI (cp + 2))]) (rest := []) ⟨hx, hb, hml, hown, hts⟩ (j_newLength l D cA sa cp (q9 - cp) (cp + 2) s.heap.size (by omega) (by omega) (by omega) (by omega)) (va_cwS 3 hts gJ5_newCapacity_0f7a4_J8_newLength_cabcc rfl rfl rfl (by decide +kernel) ⟨(Nat.le_of_ble_eq_true rfl), (Nat.le_of_ble_eq_true rfl)⟩) ⟨Wd.blind, fun U hU hW => ⟨rfl, Wd.call hPc hDc hK hC hZ hS hFc U hU hW⟩⟩ rfl rfl hl.1 rfl (lv_room (Nat.le_of_ble_eq_true rfl)) dJ5_newCapacity_0f7a4_29 ⟨(Nat.le_of_ble_eq_true rfl), (Nat.le_of_ble_eq_true rfl)⟩) hS (fun q _ h => hFc q h) hFc (fun rn5 u t H1 locs ht hvm hw hB hz1 hk1 hS => ?_)
  obtain ⟨hP1, hD1⟩ := hB
  rw [ht] at hP1
  obtain ⟨hP, hD⟩ := PDq.join (w := [(oJ4 o0 o1 0 mb (nI ct)), (o1, .inl (cA 3, cp, .inl fy))]) 2 hP hD [] [0, 1] rfl rfl (by decide) (by decide) hk1 hFc hP1 hD1 rfl
  generalize H1 = H at hP hS ⊢
  obtain rfl : rn5 = (nI (cp + max (q9 - cp) (cp + 2))) := hw
  refine lv_istore (lv' := [(5, .int (nI (cp + max (q9 - cp) (cp + 2)))), (4, .int (nI (q9 - cp))), (3, .int (nI q9)), (2, .int (nI cp)), (0, .ref o0), (1, .int (nI q9))]) hx hb dJ5_newCapacity_0f7a4_32 hl (by decide) rfl (fun ls hl => ?_)
  refine lv_iload hx hb dJ5_newCapacity_0f7a4_34 (lv_at hl 0 rfl) ?_
  refine lv_ldc (v := 2147483647) hx hb hown (hts (.constant RJ5 39 2147483647) (by decide +kernel)) dJ5_newCapacity_0f7a4_36 ?_
  refine lv_icmp_ne (tgt := 51) hx hb dJ5_newCapacity_0f7a4_38 (by decide) (fun c6 => ?_) (fun c9 => absurd c9 ((fun e9 => absurd ((nI_eq (a := (cp + max (q9 - cp) (cp + 2))) (b := 2147483647) (by omega) (by omega)).mp e9) (by omega))))
  refine lv_iload hx hb dJ5_newCapacity_0f7a4_51 (lv_at hl 0 rfl) ?_
  refine lv_aload_n hx hb dJ5_newCapacity_0f7a4_53 rfl (lv_at hl 4 rfl) ?_
  refine va_get (D := D) (ci := 1) (v := .int 0) (C := RJ4) (T := TJ4) (N := 4) hx hb hts inJ4 hown hK hP 0 rfl rfl 1 (by decide) (hts (.fieldLink RJ5 22 "java/lang/AbstractStringBuilder" "coder" "B") (by decide +kernel)) (fun _ h9 => h9) rfl dJ5_newCapacity_0f7a4_54 ?_
  refine lv_ishr hx hb dJ5_newCapacity_0f7a4_57 ?_
  refine lv_topi (fun yn7 eyn7 => ?_)
  obtain rfl : yn7 = (nI (cp + max (q9 - cp) (cp + 2))) := eyn7.trans (sb_shr0 _)
  obtain ⟨hP9, hD9⟩ := PDq.sub (ws' := [(oJ4 o0 o1 0 mb (nI ct)), (o1, .inl (cA 3, cp, .inl fy))]) hP hD [0, 1] (by decide) rfl
  refine W.widen (k := 0) (n := 0) (Nat.le_of_ble_eq_true rfl) (Nat.le_of_ble_eq_true rfl) ?_
  exact (W.iret (v := (nI (cp + max (q9 - cp) (cp + 2)))) hx hb hr (fun t ht hW => ⟨⟨(nI (cp + max (q9 - cp) (cp + 2))), (), rfl, rfl, by rw [ht]; exact hP9, hD9⟩, hS.F ht⟩) hS.2.2 dJ5_newCapacity_0f7a4_58)

set_option maxHeartbeats 4000000 in
set_option maxRecDepth 100000 in
/-- Arrays.copyOf -/
theorem j_copyOf (l : Launch) (D : va_G) (cA : Nat → ClassId) (sa : Nat → Nat) (o1 : Nat) (cp : Nat) (fy : Nat → Int32) (q9 : Nat) (sz : Nat) (hcp : cp ≤ 126) (hfit : sb_Fit fy) (hq1 : cp < q9) (hq2 : q9 ≤ 260) : Met l yJ7_copyOf_9075b wsJ7_copyOf_9075b ({ frames := 1, cells := 1, slots := 260, locals := 60 }) (va_Pc [.ref o1, .int (nI q9)] (Wd D cA sa [(o1, .inl (cA 3, cp, .inl fy))] sz)) (va_Qr (fun _ : Unit => True) (fun (_ : Unit) (a9 : Nat) t => ∃ zy : Nat → Int32, sb_Fit zy ∧ Wq D (va_A [(o1, .inl (cA 3, cp, .inl fy))] sz) [(a9, .inl (cA 3, q9, .inl zy))] t) (va_A [(o1, .inl (cA 3, cp, .inl fy))] sz)) 1 260 (va_A [(o1, .inl (cA 3, cp, .inl fy))] sz) := by
  refine Met.ofW (cc := cJ7_copyOf_9075b) (maxL := 3) (ret := (some (.array .byte))) (by decide) rfl ?_
  intro p e s m args below meth c s₁ B hml hv
  obtain ⟨rfl, hsz, hP, hK, hD0, hC, hZ⟩ := hv
  have hx := B.exec
  have hb := B.bytes
  have hr := B.returns
  have hts := atoms_spec (ws := wsJ7_copyOf_9075b) B.pre
  have hown : s.vm.findClass RJ7 = some m.cls := findClass_of_methodNamed B.named
  have hlocks := B.notSynchronized
  subst hsz
  have hD := hD0.self (sz := s.heap.size)
  generalize hAe : va_A [(o1, .inl (cA 3, cp, .inl fy))] s.heap.size = A at hD hZ ⊢
  have hA : ∀ q : Nat, s.heap.size ≤ q → A q := fun q h => by rw [← hAe]; exact Or.inr h
  have hS : va_S A s.heap s.heap [] := va_S.rf
  have hP : va_P D vwCl [(o1, .inl (cA 3, cp, .inl fy))] s.heap := hP
  have hl := lv_entry ([.ref o1, .int (nI q9)]) (n := 3) (Nat.le_of_ble_eq_true rfl)
  rw [lg_entry_eq]
  generalize (lg_sl ([.ref o1, .int (nI q9)]) ++ List.replicate (3 - (lg_sl ([.ref o1, .int (nI q9)])).length) Slot.unset).toArray = ls at hl ⊢
  have hl : lv_has ls 3 [(0, .ref o1), (1, .int (nI q9))] := hl
  refine lv_iload_n hx hb dJ7_copyOf_9075b_0 rfl (lv_at hl 1 rfl) ?_
  refine lv_aload_n hx hb dJ7_copyOf_9075b_1 rfl (lv_at hl 0 rfl) ?_
  refine va_alen (v := (nI cp)) hx hb hK hP 0 3 rfl rfl rfl dJ7_copyOf_9075b_2 ?_
  refine lv_icmp_ne (tgt := 14) hx hb dJ7_copyOf_9075b_3 (by decide) (fun c1 => ?_) (fun c9 => absurd c9 ((fun e9 => absurd ((nI_eq (a := q9) (b := cp) (by omega) (by omega)).mp e9) (by omega))))
  refine lv_iload_n hx hb dJ7_copyOf_9075b_14 rfl (lv_at hl 1 rfl) ?_
  refine va_newa (atype := .byte) (ty := .byte) (N' := q9) (a0 := (q9, .inl (fun _ => 0))) hx hb (hts (.arrayClass .byte) (by decide +kernel)) rfl hK hP hD hS hA (fun _ => rfl) (nI_pos (by omega)) (nI_clamp (by omega)) (by show q9 * 1 ≤ 536870912; omega) (Nat.le_of_ble_eq_true rfl) (by show 0 + q9 ≤ 260; omega) dJ7_copyOf_9075b_15 (fun qn2 c9 H hK9 hP hD hS => ?_)
  obtain rfl : c9 = cA 3 := ty_one hK9 3 rfl
  refine W.widen (k := 1) (n := 260) (Nat.le_refl _) (by omega) ?_
  obtain ⟨hP, hD⟩ : PDq D A [(o1, .inl (cA 3, cp, .inl fy)), (qn2, .inl (cA 3, q9, .inl (fun _ => 0)))] H := ⟨hP, hD⟩
  refine lv_astore_n (lv' := [(2, .ref qn2), (0, .ref o1), (1, .int (nI q9))]) hx hb dJ7_copyOf_9075b_17 rfl hl (by decide) rfl (fun ls hl => ?_)
  refine lv_aload_n hx hb dJ7_copyOf_9075b_18 rfl (lv_at hl 1 rfl) ?_
  refine lv_iconst (v := 0) hx hb dJ7_copyOf_9075b_19 (by decide) ?_
  refine lv_aload_n hx hb dJ7_copyOf_9075b_20 rfl (lv_at hl 0 rfl) ?_
  refine lv_iconst (v := 0) hx hb dJ7_copyOf_9075b_21 (by decide) ?_
  refine lv_aload_n hx hb dJ7_copyOf_9075b_22 rfl (lv_at hl 1 rfl) ?_
  refine va_alen (v := (nI cp)) hx hb hK hP 0 3 rfl rfl rfl dJ7_copyOf_9075b_23 ?_
  refine lv_iload_n hx hb dJ7_copyOf_9075b_24 rfl (lv_at hl 2 rfl) ?_
  refine va_mmin hx hb (by rw [hml]; exact hl.1.symm) hown (hts (.methodLink RJ7 304 Lib.Math.min.name) (by decide +kernel)) (hts (.static Lib.Math.min.name) (by decide +kernel)) (hts (.initialized "java/lang/Math") (by decide +kernel)) (hts (.code Lib.Math.min.name Lib.Math.min.code 2 (some .int)) (by decide +kernel)) (Nat.le_of_ble_eq_true rfl) (Nat.le_of_ble_eq_true rfl) (Nat.le_of_ble_eq_true rfl) (Nat.le_of_ble_eq_true rfl) dJ7_copyOf_9075b_25 ?_
  refine lv_topi (fun yn3 eyn3 => ?_)
  obtain rfl : yn3 = (nI (min cp q9)) := eyn3.trans (nI_min (a := cp) (b := q9) (by omega) (by omega))
  refine va_copyi hx hb (by rw [hml]; exact hl.1.symm) hown (hts (.methodLink RJ7 150 arraycopyName) (by decide +kernel)) (hts (.native arraycopyName) (by decide +kernel)) (hts (.static arraycopyName) (by decide +kernel)) (hts (.initialized "java/lang/System") (by decide +kernel)) hK hP hD hS 0 1 3 3 rfl rfl rfl rfl rfl (by decide) (by decide) (nI_pos (by omega)) (by rw [(show (0 : Int32).toNatClampNeg = 0 from by decide), (show ((nI (min cp q9)) : Int32).toNatClampNeg = (min cp q9) from nI_clamp (by omega))]; omega) (by rw [(show (0 : Int32).toNatClampNeg = 0 from by decide), (show ((nI (min cp q9)) : Int32).toNatClampNeg = (min cp q9) from nI_clamp (by omega))]; omega) (fun i9 _ => hfit _) (Nat.le_of_ble_eq_true rfl) (Nat.le_of_ble_eq_true rfl) dJ7_copyOf_9075b_28 (fun H locs hP hD hS => ?_)
  obtain ⟨hP, hD⟩ : PDq D A [(o1, .inl (cA 3, cp, .inl fy)), (qn2, .inl (cA 3, q9, .inl (va_cpy fy (fun _ => 0) 0 0 (((nI (min cp q9))).toNatClampNeg))))] H := ⟨hP, hD⟩
  have hn5 : sb_Fit (va_cpy fy (fun _ => 0) 0 0 (((nI (min cp q9))).toNatClampNeg)) := sb_fitC hfit sb_fit0
  generalize (va_cpy fy (fun _ => 0) 0 0 (((nI (min cp q9))).toNatClampNeg)) = fn4 at hP hD hn5
  obtain ⟨hP, hD⟩ : PDq D A [(o1, .inl (cA 3, cp, .inl fy)), (qn2, .inl (cA 3, q9, .inl fn4))] H := ⟨hP, hD⟩
  refine lv_aload_n hx hb dJ7_copyOf_9075b_31 rfl (lv_at hl 0 rfl) ?_
  obtain ⟨hP9, hD9⟩ := PDq.sub (ws' := [(qn2, .inl (cA 3, q9, .inl fn4))]) hP hD [1] (by decide) rfl
  refine W.widen (k := 1) (n := 260) (Nat.le_of_ble_eq_true rfl) (Nat.le_of_ble_eq_true rfl) ?_
  exact (W.aret (v := .ref qn2) hx hb hr (Or.inr ⟨_, rfl⟩) (Or.inr ⟨_, rfl⟩) (fun t ht hW => ⟨⟨(), qn2, rfl, trivial, fn4, hn5, by rw [ht]; exact hP9, hD9⟩, hS.F ht⟩) hS.2.2 dJ7_copyOf_9075b_32)

set_option maxHeartbeats 4000000 in
set_option maxRecDepth 100000 in
/-- ensureCapacityInternal -/
theorem j_ensure (l : Launch) (D : va_G) (cA : Nat → ClassId) (sa : Nat → Nat) (o0 : Nat) (o1 : Nat) (ct : Nat) (cp : Nat) (mb : Int32) (fy : Nat → Int32) (q9 : Nat) (sz : Nat) (hct : ct ≤ cp) (hcp : cp ≤ 126) (hfit : sb_Fit fy) (hq2 : q9 ≤ 62) : Met l yJ5_ensureCapacityInternal_d00df wsJ5_ensureCapacityInternal_d00df ({ frames := 3, cells := 1, slots := 260, locals := 82 }) (va_Pc [.ref o0, .int (nI q9)] (Wd D cA sa [(oJ4 o0 o1 0 mb (nI ct)), (o1, .inl (cA 3, cp, .inl fy))] sz)) (va_Qv (fun _ : Unit => True) (fun (_ : Unit) t => ∃ z1 : Nat, ∃ cp2 : Nat, ∃ zy : Nat → Int32, q9 ≤ cp2 ∧ cp ≤ cp2 ∧ cp2 ≤ 126 ∧ sb_Fit zy ∧ Wq D (va_A [(oJ4 o0 o1 0 mb (nI ct)), (o1, .inl (cA 3, cp, .inl fy))] sz) [(oJ4 o0 z1 0 mb (nI ct)), (z1, .inl (cA 3, cp2, .inl zy))] t) (va_A [(oJ4 o0 o1 0 mb (nI ct)), (o1, .inl (cA 3, cp, .inl fy))] sz)) 1 260 (va_A [(oJ4 o0 o1 0 mb (nI ct)), (o1, .inl (cA 3, cp, .inl fy))] sz) := by
  refine Met.ofW (cc := cJ5_ensureCapacityInternal_d00df) (maxL := 3) (ret := none) (by decide) rfl ?_
  intro p e s m args below meth c s₁ B hml hv
  obtain ⟨rfl, hsz, hP, hK, hD0, hC, hZ⟩ := hv
  have hx := B.exec
  have hb := B.bytes
  have hr := B.returns
  have hts := atoms_spec (ws := wsJ5_ensureCapacityInternal_d00df) B.pre
  have hown : s.vm.findClass RJ5 = some m.cls := findClass_of_methodNamed B.named
  have hlocks := B.notSynchronized
  subst hsz
  have hD := hD0.self (sz := s.heap.size)
  generalize hAe : va_A [(oJ4 o0 o1 0 mb (nI ct)), (o1, .inl (cA 3, cp, .inl fy))] s.heap.size = A at hD hZ ⊢
  have hA : ∀ q : Nat, s.heap.size ≤ q → A q := fun q h => by rw [← hAe]; exact Or.inr h
  have hS : va_S A s.heap s.heap [] := va_S.rf
  have hP : va_P D vwCl [(oJ4 o0 o1 0 mb (nI ct)), (o1, .inl (cA 3, cp, .inl fy))] s.heap := hP
  have hl := lv_entry ([.ref o0, .int (nI q9)]) (n := 3) (Nat.le_of_ble_eq_true rfl)
  rw [lg_entry_eq]
  generalize (lg_sl ([.ref o0, .int (nI q9)]) ++ List.replicate (3 - (lg_sl ([.ref o0, .int (nI q9)])).length) Slot.unset).toArray = ls at hl ⊢
  have hl : lv_has ls 3 [(0, .ref o0), (1, .int (nI q9))] := hl
  have inJ4 : ∀ w ∈ u_ws RJ4 TJ4 4, w ∈ wsJ5_ensureCapacityInternal_d00df := by decide +kernel
  refine lv_aload_n hx hb dJ5_ensureCapacityInternal_d00df_0 rfl (lv_at hl 0 rfl) ?_
  refine va_get (D := D) (ci := 1) (v := .ref o1) (C := RJ4) (T := TJ4) (N := 4) hx hb hts inJ4 hown hK hP 0 rfl rfl 0 (by decide) (hts (.fieldLink RJ5 15 "java/lang/AbstractStringBuilder" "value" "[B") (by decide +kernel)) (fun _ h9 => h9) rfl dJ5_ensureCapacityInternal_d00df_1 ?_
  refine va_alen (v := (nI cp)) hx hb hK hP 1 3 rfl rfl rfl dJ5_ensureCapacityInternal_d00df_4 ?_
  refine lv_aload_n hx hb dJ5_ensureCapacityInternal_d00df_5 rfl (lv_at hl 0 rfl) ?_
  refine va_get (D := D) (ci := 1) (v := .int 0) (C := RJ4) (T := TJ4) (N := 4) hx hb hts inJ4 hown hK hP 0 rfl rfl 1 (by decide) (hts (.fieldLink RJ5 22 "java/lang/AbstractStringBuilder" "coder" "B") (by decide +kernel)) (fun _ h9 => h9) rfl dJ5_ensureCapacityInternal_d00df_6 ?_
  refine lv_ishr hx hb dJ5_ensureCapacityInternal_d00df_9 ?_
  refine lv_topi (fun yn1 eyn1 => ?_)
  obtain rfl : yn1 = (nI cp) := eyn1.trans (sb_shr0 _)
  refine lv_istore_n (lv' := [(2, .int (nI cp)), (0, .ref o0), (1, .int (nI q9))]) hx hb dJ5_ensureCapacityInternal_d00df_10 rfl hl (by decide) rfl (fun ls hl => ?_)
  refine lv_iload_n hx hb dJ5_ensureCapacityInternal_d00df_11 rfl (lv_at hl 2 rfl) ?_
  refine lv_iload_n hx hb dJ5_ensureCapacityInternal_d00df_12 rfl (lv_at hl 0 rfl) ?_
  rcases Nat.lt_or_ge cp q9 with hn2 | hn2
  · skip
    refine lv_isub hx hb dJ5_ensureCapacityInternal_d00df_13 ?_
    refine lv_topi (fun yn3 eyn3 => ?_)
    obtain rfl : yn3 = (nI (q9 - cp)) := eyn3.trans (nI_sub (a := q9) (b := cp) (by omega))
    refine lv_if_le (tgt := 38) hx hb dJ5_ensureCapacityInternal_d00df_14 (by decide) (fun c9 => absurd c9 (nI_ge (a := 0) (b := (q9 - cp)) (show 0 < (q9 - cp) by omega) (by omega))) (fun c4 => ?_)
    refine lv_aload_n hx hb dJ5_ensureCapacityInternal_d00df_17 rfl (lv_at hl 1 rfl) ?_
    refine lv_aload_n hx hb dJ5_ensureCapacityInternal_d00df_18 rfl (lv_at hl 1 rfl) ?_
    refine va_get (D := D) (ci := 1) (v := .ref o1) (C := RJ4) (T := TJ4) (N := 4) hx hb hts inJ4 hown hK hP 0 rfl rfl 0 (by decide) (hts (.fieldLink RJ5 15 "java/lang/AbstractStringBuilder" "value" "[B") (by decide +kernel)) (fun _ h9 => h9) rfl dJ5_ensureCapacityInternal_d00df_19 ?_
    refine lv_aload_n hx hb dJ5_ensureCapacityInternal_d00df_22 rfl (lv_at hl 1 rfl) ?_
    refine lv_iload_n hx hb dJ5_ensureCapacityInternal_d00df_23 rfl (lv_at hl 2 rfl) ?_
    obtain ⟨hPc, hDc, hFc⟩ := PDq.cut (wc := [(oJ4 o0 o1 0 mb (nI ct)), (o1, .inl (cA 3, cp, .inl fy))]) hP hD hS hA [0, 1] (by decide) rfl
    refine va_calli (va_runU (As := [.int (nI q9)]) (rest := [.ref o1, .ref o0]) ⟨hx, hb, hml, hown, hts⟩ (j_newCapacity l D cA sa o0 o1 ct cp mb fy q9 s.heap.size hct hcp hfit hn2 (by omega)) (va_cwU 1 hts gJ5_ensureCapacityInternal_d00df_J5_newCapacity_0f7a4_u104J4 rfl rfl rfl rfl (by decide +kernel) ⟨(Nat.le_of_ble_eq_true rfl), (Nat.le_of_ble_eq_true rfl)⟩) ⟨Wd.blind, va_recv hK hPc (ci := 1) (q0 := 0) rfl rfl, fun U hU hW => ⟨rfl, Wd.call hPc hDc hK hC hZ hS hFc U hU hW⟩⟩ rfl rfl hl.1 rfl (lv_room (Nat.le_of_ble_eq_true rfl)) dJ5_ensureCapacityInternal_d00df_24 ⟨(Nat.le_of_ble_eq_true rfl), (Nat.le_of_ble_eq_true rfl)⟩) hS (fun q _ h => hFc q h) hFc (fun rn5 u t H1 locs ht hvm hw hB hz1 hk1 hS => ?_)
    obtain ⟨hP1, hD1⟩ := hB
    rw [ht] at hP1
    obtain ⟨hP, hD⟩ := PDq.join (w := [(oJ4 o0 o1 0 mb (nI ct)), (o1, .inl (cA 3, cp, .inl fy))]) 0 hP hD [0, 1] [] rfl rfl (by decide) (by decide) hk1 hFc hP1 hD1 rfl
    generalize H1 = H at hP hS ⊢
    obtain rfl : rn5 = (nI (cp + max (q9 - cp) (cp + 2))) := hw
    refine lv_aload_n hx hb dJ5_ensureCapacityInternal_d00df_27 rfl (lv_at hl 1 rfl) ?_
    refine va_get (D := D) (ci := 1) (v := .int 0) (C := RJ4) (T := TJ4) (N := 4) hx hb hts inJ4 hown hK hP 0 rfl rfl 1 (by decide) (hts (.fieldLink RJ5 22 "java/lang/AbstractStringBuilder" "coder" "B") (by decide +kernel)) (fun _ h9 => h9) rfl dJ5_ensureCapacityInternal_d00df_28 ?_
    refine lv_ishl hx hb dJ5_ensureCapacityInternal_d00df_31 ?_
    refine lv_topi (fun yn6 eyn6 => ?_)
    obtain rfl : yn6 = (nI (cp + max (q9 - cp) (cp + 2))) := eyn6.trans (sb_shl0 _)
    obtain ⟨hPc, hDc, hFc⟩ := PDq.cut (wc := [(o1, .inl (cA 3, cp, .inl fy))]) hP hD hS hA [1] (by decide) rfl
    refine va_callr (va_runS (As := [.ref o1, .int (nI (cp + max (q9 - cp) (cp + 2)))]) (rest := [.ref o0]) ⟨hx, hb, hml, hown, hts⟩ (j_copyOf l D cA sa o1 cp fy (cp + max (q9 - cp) (cp + 2)) H.size hcp hfit (by omega) (by omega)) (va_cwS 2 hts gJ5_ensureCapacityInternal_d00df_J7_copyOf_9075b rfl rfl rfl (by decide +kernel) ⟨(Nat.le_of_ble_eq_true rfl), (Nat.le_of_ble_eq_true rfl)⟩) ⟨Wd.blind, fun U hU hW => ⟨rfl, Wd.call hPc hDc hK hC hZ hS hFc U hU hW⟩⟩ rfl rfl hl.1 rfl (lv_room (Nat.le_of_ble_eq_true rfl)) dJ5_ensureCapacityInternal_d00df_32 ⟨(Nat.le_of_ble_eq_true rfl), (Nat.le_of_ble_eq_true rfl)⟩) hS (fun q _ h => hFc q h) hFc (fun u qn7 t H1 locs ht hvm hw hB hz1 hk1 hS => ?_)
    obtain ⟨fn8, hn9, hP1, hD1⟩ := hB
    rw [ht] at hP1
    obtain ⟨hP, hD⟩ := PDq.join (w := [(oJ4 o0 o1 0 mb (nI ct)), (qn7, .inl (cA 3, (cp + max (q9 - cp) (cp + 2)), .inl fn8))]) 1 hP hD [1] [0] rfl rfl (by decide) (by decide) hk1 hFc hP1 hD1 rfl
    generalize H1 = H at hP hS ⊢
    refine va_put (D := D) (ci := 1) (v := .ref qn7) (ty := (.array .byte)) (C := RJ4) (T := TJ4) (N := 4) hx hb hts inJ4 tyJ4 tyJ4_ok nmJ4 hown hK hP hD hS 0 rfl rfl 0 (by decide) (hts (.fieldLink RJ5 15 "java/lang/AbstractStringBuilder" "value" "[B") (by decide +kernel)) (fun _ h9 => h9) rfl (by decide +kernel) rfl rfl (Nat.le_of_ble_eq_true rfl) dJ5_ensureCapacityInternal_d00df_35 (fun H locs hP hD hS => ?_)
    obtain ⟨hP, hD⟩ : PDq D A [(oJ4 o0 qn7 0 mb (nI ct)), (qn7, .inl (cA 3, (cp + max (q9 - cp) (cp + 2)), .inl fn8))] H := ⟨hP, hD⟩
    obtain ⟨hP9, hD9⟩ := PDq.sub (ws' := [(oJ4 o0 qn7 0 mb (nI ct)), (qn7, .inl (cA 3, (cp + max (q9 - cp) (cp + 2)), .inl fn8))]) hP hD [0, 1] (by decide) rfl
    refine W.widen (k := 1) (n := 260) (Nat.le_of_ble_eq_true rfl) (Nat.le_of_ble_eq_true rfl) ?_
    exact (W.vret hx hb hr (fun t ht hW => ⟨⟨(), rfl, trivial, qn7, (cp + max (q9 - cp) (cp + 2)), fn8, (by omega), (by omega), (by omega), hn9, by rw [ht]; exact hP9, hD9⟩, hS.F ht⟩) hS.2.2 dJ5_ensureCapacityInternal_d00df_38)
  · skip
    refine lv_isub hx hb dJ5_ensureCapacityInternal_d00df_13 ?_
    refine lv_topi (fun yn10 eyn10 => ?_)
    refine lv_if_le (tgt := 38) hx hb dJ5_ensureCapacityInternal_d00df_14 (by decide) (fun c11 => ?_) (fun c9 => absurd c9 (fun h9 => h9 (by rw [eyn10]; exact nI_subneg hn2 (by omega))))
    obtain ⟨hP9, hD9⟩ := PDq.sub (ws' := [(oJ4 o0 o1 0 mb (nI ct)), (o1, .inl (cA 3, cp, .inl fy))]) hP hD [0, 1] (by decide) rfl
    refine W.widen (k := 1) (n := 260) (Nat.le_of_ble_eq_true rfl) (Nat.le_of_ble_eq_true rfl) ?_
    exact (W.vret hx hb hr (fun t ht hW => ⟨⟨(), rfl, trivial, o1, cp, fy, hn2, (by omega), hcp, hfit, by rw [ht]; exact hP9, hD9⟩, hS.F ht⟩) hS.2.2 dJ5_ensureCapacityInternal_d00df_38)

set_option maxHeartbeats 4000000 in
set_option maxRecDepth 100000 in
/-- append(char) -/
theorem j_appendC5 (l : Launch) (D : va_G) (cA : Nat → ClassId) (sa : Nat → Nat) (o0 : Nat) (o1 : Nat) (ct : Nat) (cp : Nat) (mb : Int32) (fy : Nat → Int32) (ch : Nat) (sz : Nat) (hct : ct ≤ cp) (hcp : cp ≤ 126) (hfit : sb_Fit fy) (hch : ch < 256) (hc1 : ct + 1 ≤ 62) : Met l yJ5_append_3fe6f wsJ5_append_3fe6f ({ frames := 4, cells := 1, slots := 260, locals := 104 }) (va_Pc [.ref o0, .int (nI ch)] (Wd D cA sa [(oJ4 o0 o1 0 mb (nI ct)), (o1, .inl (cA 3, cp, .inl fy))] sz)) (va_Qr (fun _ : Unit => True) (fun (_ : Unit) (a9 : Nat) t => a9 = o0 ∧ ∃ z1 : Nat, ∃ cp2 : Nat, ∃ zy : Nat → Int32, ct + 1 ≤ cp2 ∧ cp2 ≤ 126 ∧ sb_Fit zy ∧ Wq D (va_A [(oJ4 o0 o1 0 mb (nI ct)), (o1, .inl (cA 3, cp, .inl fy))] sz) [(oJ4 o0 z1 0 mb (nI (ct + 1))), (z1, .inl (cA 3, cp2, .inl zy))] t) (va_A [(oJ4 o0 o1 0 mb (nI ct)), (o1, .inl (cA 3, cp, .inl fy))] sz)) 1 260 (va_A [(oJ4 o0 o1 0 mb (nI ct)), (o1, .inl (cA 3, cp, .inl fy))] sz) := by
  refine Met.ofW (cc := cJ5_append_3fe6f) (maxL := 2) (ret := (some (.object "java/lang/AbstractStringBuilder"))) (by decide) rfl ?_
  intro p e s m args below meth c s₁ B hml hv
  obtain ⟨rfl, hsz, hP, hK, hD0, hC, hZ⟩ := hv
  have hx := B.exec
  have hb := B.bytes
  have hr := B.returns
  have hts := atoms_spec (ws := wsJ5_append_3fe6f) B.pre
  have hown : s.vm.findClass RJ5 = some m.cls := findClass_of_methodNamed B.named
  have hlocks := B.notSynchronized
  subst hsz
  have hD := hD0.self (sz := s.heap.size)
  generalize hAe : va_A [(oJ4 o0 o1 0 mb (nI ct)), (o1, .inl (cA 3, cp, .inl fy))] s.heap.size = A at hD hZ ⊢
  have hA : ∀ q : Nat, s.heap.size ≤ q → A q := fun q h => by rw [← hAe]; exact Or.inr h
  have hS : va_S A s.heap s.heap [] := va_S.rf
  have hP : va_P D vwCl [(oJ4 o0 o1 0 mb (nI ct)), (o1, .inl (cA 3, cp, .inl fy))] s.heap := hP
  have hl := lv_entry ([.ref o0, .int (nI ch)]) (n := 2) (Nat.le_of_ble_eq_true rfl)
  rw [lg_entry_eq]
  generalize (lg_sl ([.ref o0, .int (nI ch)]) ++ List.replicate (2 - (lg_sl ([.ref o0, .int (nI ch)])).length) Slot.unset).toArray = ls at hl ⊢
  have hl : lv_has ls 2 [(0, .ref o0), (1, .int (nI ch))] := hl
  have inJ4 : ∀ w ∈ u_ws RJ4 TJ4 4, w ∈ wsJ5_append_3fe6f := by decide +kernel
  refine lv_aload_n hx hb dJ5_append_3fe6f_0 rfl (lv_at hl 0 rfl) ?_
  refine lv_aload_n hx hb dJ5_append_3fe6f_1 rfl (lv_at hl 0 rfl) ?_
  refine va_get (D := D) (ci := 1) (v := .int (nI ct)) (C := RJ4) (T := TJ4) (N := 4) hx hb hts inJ4 hown hK hP 0 rfl rfl 3 (by decide) (hts (.fieldLink RJ5 79 "java/lang/AbstractStringBuilder" "count" "I") (by decide +kernel)) (fun _ h9 => h9) rfl dJ5_append_3fe6f_2 ?_
  refine lv_iconst (v := 1) hx hb dJ5_append_3fe6f_5 (by decide) ?_
  refine lv_iadd hx hb dJ5_append_3fe6f_6 ?_
  refine lv_topi (fun yn1 eyn1 => ?_)
  obtain rfl : yn1 = (nI (ct + 1)) := eyn1.trans (nI_add ct 1)
  obtain ⟨hPc, hDc, hFc⟩ := PDq.cut (wc := [(oJ4 o0 o1 0 mb (nI ct)), (o1, .inl (cA 3, cp, .inl fy))]) hP hD hS hA [0, 1] (by decide) rfl
  refine va_callv (va_runU (As := [.int (nI (ct + 1))]) (rest := []) ⟨hx, hb, hml, hown, hts⟩ (j_ensure l D cA sa o0 o1 ct cp mb fy (ct + 1) s.heap.size hct hcp hfit (by omega)) (va_cwU 1 hts gJ5_append_3fe6f_J5_ensureCapacityInternal_d00df_u100J4 rfl rfl rfl rfl (by decide +kernel) ⟨(Nat.le_of_ble_eq_true rfl), (Nat.le_of_ble_eq_true rfl)⟩) ⟨Wd.blind, va_recv hK hPc (ci := 1) (q0 := 0) rfl rfl, fun U hU hW => ⟨rfl, Wd.call hPc hDc hK hC hZ hS hFc U hU hW⟩⟩ rfl rfl hl.1 rfl (lv_room (Nat.le_of_ble_eq_true rfl)) dJ5_append_3fe6f_7 ⟨(Nat.le_of_ble_eq_true rfl), (Nat.le_of_ble_eq_true rfl)⟩) hS (fun q _ h => hFc q h) hFc (fun u t H1 locs ht hvm hw hB hz1 hk1 hS => ?_)
  obtain ⟨qn2, qn3, fn4, hn5, hn6, hn7, hn8, hP1, hD1⟩ := hB
  rw [ht] at hP1
  obtain ⟨hP, hD⟩ := PDq.join (w := [(oJ4 o0 qn2 0 mb (nI ct)), (qn2, .inl (cA 3, qn3, .inl fn4))]) 0 hP hD [0, 1] [] rfl rfl (by decide) (by decide) hk1 hFc hP1 hD1 rfl
  generalize H1 = H at hP hS ⊢
  refine lv_aload_n hx hb dJ5_append_3fe6f_10 rfl (lv_at hl 0 rfl) ?_
  obtain ⟨hPc, hDc, hFc⟩ := PDq.cut (wc := [(oJ4 o0 qn2 0 mb (nI ct))]) hP hD hS hA [0] (by decide) rfl
  refine va_calli (va_runU (As := []) (rest := []) ⟨hx, hb, hml, hown, hts⟩ (j_isLatin1 l D cA sa o0 qn2 ct mb H.size) (va_cwU 0 hts gJ5_append_3fe6f_J5_isLatin1_aae02_u83J4 rfl rfl rfl rfl (by decide +kernel) ⟨(Nat.le_of_ble_eq_true rfl), (Nat.le_of_ble_eq_true rfl)⟩) ⟨Wd.blind, va_recv hK hPc (ci := 1) (q0 := 0) rfl rfl, fun U hU hW => ⟨rfl, Wd.call hPc hDc hK hC hZ hS hFc U hU hW⟩⟩ rfl rfl hl.1 rfl (lv_room (Nat.le_of_ble_eq_true rfl)) dJ5_append_3fe6f_11 ⟨(Nat.le_of_ble_eq_true rfl), (Nat.le_of_ble_eq_true rfl)⟩) hS (fun q _ h => hFc q h) hFc (fun rn9 u t H1 locs ht hvm hw hB hz1 hk1 hS => ?_)
  obtain ⟨hP1, hD1⟩ := hB
  rw [ht] at hP1
  obtain ⟨hP, hD⟩ := PDq.join (w := [(qn2, .inl (cA 3, qn3, .inl fn4)), (oJ4 o0 qn2 0 mb (nI ct))]) 1 hP hD [0] [1] rfl rfl (by decide) (by decide) hk1 hFc hP1 hD1 rfl
  generalize H1 = H at hP hS ⊢
  obtain rfl : rn9 = 1 := hw
  refine lv_if_eq (tgt := 45) hx hb dJ5_append_3fe6f_14 (by decide) (fun c9 => absurd c9 (by decide)) (fun c10 => ?_)
  refine lv_iload_n hx hb dJ5_append_3fe6f_17 rfl (lv_at hl 1 rfl) ?_
  obtain ⟨hPc, hDc, hFc⟩ := PDq.cut (wc := []) hP hD hS hA [] (by decide) rfl
  refine va_calli (va_runS (As := [.int (nI ch)]) (rest := []) ⟨hx, hb, hml, hown, hts⟩ (j_canEncode l D cA sa ch H.size hch) (va_cwS 1 hts gJ5_append_3fe6f_J1_canEncode_fc78d rfl rfl rfl (by decide +kernel) ⟨(Nat.le_of_ble_eq_true rfl), (Nat.le_of_ble_eq_true rfl)⟩) ⟨Wd.blind, fun U hU hW => ⟨rfl, Wd.call hPc hDc hK hC hZ hS hFc U hU hW⟩⟩ rfl rfl hl.1 rfl (lv_room (Nat.le_of_ble_eq_true rfl)) dJ5_append_3fe6f_18 ⟨(Nat.le_of_ble_eq_true rfl), (Nat.le_of_ble_eq_true rfl)⟩) hS (fun q _ h => hFc q h) hFc (fun rn11 u t H1 locs ht hvm hw hB hz1 hk1 hS => ?_)
  obtain ⟨hP1, hD1⟩ := hB
  rw [ht] at hP1
  obtain ⟨hP, hD⟩ := PDq.join (w := [(qn2, .inl (cA 3, qn3, .inl fn4)), (oJ4 o0 qn2 0 mb (nI ct))]) 2 hP hD [] [0, 1] rfl rfl (by decide) (by decide) hk1 hFc hP1 hD1 rfl
  generalize H1 = H at hP hS ⊢
  obtain rfl : rn11 = 1 := hw
  refine lv_if_eq (tgt := 45) hx hb dJ5_append_3fe6f_21 (by decide) (fun c9 => absurd c9 (by decide)) (fun c12 => ?_)
  refine lv_aload_n hx hb dJ5_append_3fe6f_24 rfl (lv_at hl 0 rfl) ?_
  refine va_get (D := D) (ci := 1) (v := .ref qn2) (C := RJ4) (T := TJ4) (N := 4) hx hb hts inJ4 hown hK hP 1 rfl rfl 0 (by decide) (hts (.fieldLink RJ5 15 "java/lang/AbstractStringBuilder" "value" "[B") (by decide +kernel)) (fun _ h9 => h9) rfl dJ5_append_3fe6f_25 ?_
  refine lv_aload_n hx hb dJ5_append_3fe6f_28 rfl (lv_at hl 0 rfl) ?_
  refine lv_dup hx hb dJ5_append_3fe6f_29 rfl ?_
  refine va_get (D := D) (ci := 1) (v := .int (nI ct)) (C := RJ4) (T := TJ4) (N := 4) hx hb hts inJ4 hown hK hP 1 rfl rfl 3 (by decide) (hts (.fieldLink RJ5 79 "java/lang/AbstractStringBuilder" "count" "I") (by decide +kernel)) (fun _ h9 => h9) rfl dJ5_append_3fe6f_30 ?_
  refine lv_dup_x1 hx hb dJ5_append_3fe6f_33 rfl rfl ?_
  refine lv_iconst (v := 1) hx hb dJ5_append_3fe6f_34 (by decide) ?_
  refine lv_iadd hx hb dJ5_append_3fe6f_35 ?_
  refine lv_topi (fun yn13 eyn13 => ?_)
  obtain rfl : yn13 = (nI (ct + 1)) := eyn13.trans (nI_add ct 1)
  refine va_put (D := D) (ci := 1) (v := .int (nI (ct + 1))) (ty := .int) (C := RJ4) (T := TJ4) (N := 4) hx hb hts inJ4 tyJ4 tyJ4_ok nmJ4 hown hK hP hD hS 1 rfl rfl 3 (by decide) (hts (.fieldLink RJ5 79 "java/lang/AbstractStringBuilder" "count" "I") (by decide +kernel)) (fun _ h9 => h9) rfl (by decide +kernel) rfl rfl (Nat.le_of_ble_eq_true rfl) dJ5_append_3fe6f_36 (fun H locs hP hD hS => ?_)
  obtain ⟨hP, hD⟩ : PDq D A [(qn2, .inl (cA 3, qn3, .inl fn4)), (oJ4 o0 qn2 0 mb (nI (ct + 1)))] H := ⟨hP, hD⟩
  refine lv_iload_n hx hb dJ5_append_3fe6f_39 rfl (lv_at hl 1 rfl) ?_
  refine lv_i2b hx hb dJ5_append_3fe6f_40 rfl ?_
  refine lv_topi (fun yn14 eyn14 => ?_)
  refine va_bast hx hb hK hP hD hS 0 3 rfl rfl (vp_in_nI (n := ct) (N := qn3) (show ct < qn3 by omega) (by omega)) dJ5_append_3fe6f_41 (fun H locs hP hD hS => ?_)
  obtain ⟨hP, hD⟩ : PDq D A [(qn2, .inl (cA 3, qn3, .inl (upd fn4 (((nI ct)).toNatClampNeg) (vp_nar .byte yn14)))), (oJ4 o0 qn2 0 mb (nI (ct + 1)))] H := ⟨hP, hD⟩
  have hn16 : sb_Fit (upd fn4 (((nI ct)).toNatClampNeg) (vp_nar .byte yn14)) := (sb_fitU hn8 (pk_fb _))
  generalize (upd fn4 (((nI ct)).toNatClampNeg) (vp_nar .byte yn14)) = fn15 at hP hD hn16
  obtain ⟨hP, hD⟩ : PDq D A [(qn2, .inl (cA 3, qn3, .inl fn15)), (oJ4 o0 qn2 0 mb (nI (ct + 1)))] H := ⟨hP, hD⟩
  refine lv_goto (tgt := 75) hx hb dJ5_append_3fe6f_42 (by decide) ?_
  refine lv_aload_n hx hb dJ5_append_3fe6f_75 rfl (lv_at hl 0 rfl) ?_
  obtain ⟨hP9, hD9⟩ := PDq.sub (ws' := [(oJ4 o0 qn2 0 mb (nI (ct + 1))), (qn2, .inl (cA 3, qn3, .inl fn15))]) hP hD [1, 0] (by decide) rfl
  refine W.widen (k := 1) (n := 260) (Nat.le_of_ble_eq_true rfl) (Nat.le_of_ble_eq_true rfl) ?_
  exact (W.aret (v := .ref o0) hx hb hr (Or.inl ⟨_, rfl⟩) (Or.inr ⟨_, rfl⟩) (fun t ht hW => ⟨⟨(), o0, rfl, trivial, rfl, qn2, qn3, fn15, (by omega), hn7, hn16, by rw [ht]; exact hP9, hD9⟩, hS.F ht⟩) hS.2.2 dJ5_append_3fe6f_76)

set_option maxHeartbeats 4000000 in
set_option maxRecDepth 100000 in
/-- append(char) -/
theorem j_appendC (l : Launch) (D : va_G) (cA : Nat → ClassId) (sa : Nat → Nat) (o0 : Nat) (o1 : Nat) (ct : Nat) (cp : Nat) (mb : Int32) (fy : Nat → Int32) (ch : Nat) (sz : Nat) (hct : ct ≤ cp) (hcp : cp ≤ 126) (hfit : sb_Fit fy) (hch : ch < 256) (hc1 : ct + 1 ≤ 62) : Met l yJ4_append_cf468 wsJ4_append_cf468 ({ frames := 5, cells := 1, slots := 260, locals := 125 }) (va_Pc [.ref o0, .int (nI ch)] (Wd D cA sa [(oJ4 o0 o1 0 mb (nI ct)), (o1, .inl (cA 3, cp, .inl fy))] sz)) (va_Qr (fun _ : Unit => True) (fun (_ : Unit) (a9 : Nat) t => a9 = o0 ∧ ∃ z1 : Nat, ∃ cp2 : Nat, ∃ zy : Nat → Int32, ct + 1 ≤ cp2 ∧ cp2 ≤ 126 ∧ sb_Fit zy ∧ Wq D (va_A [(oJ4 o0 o1 0 mb (nI ct)), (o1, .inl (cA 3, cp, .inl fy))] sz) [(oJ4 o0 z1 0 mb (nI (ct + 1))), (z1, .inl (cA 3, cp2, .inl zy))] t) (va_A [(oJ4 o0 o1 0 mb (nI ct)), (o1, .inl (cA 3, cp, .inl fy))] sz)) 1 260 (va_A [(oJ4 o0 o1 0 mb (nI ct)), (o1, .inl (cA 3, cp, .inl fy))] sz) := by
  refine Met.ofW (cc := cJ4_append_cf468) (maxL := 2) (ret := (some (.object "java/lang/StringBuilder"))) (by decide) rfl ?_
  intro p e s m args below meth c s₁ B hml hv
  obtain ⟨rfl, hsz, hP, hK, hD0, hC, hZ⟩ := hv
  have hx := B.exec
  have hb := B.bytes
  have hr := B.returns
  have hts := atoms_spec (ws := wsJ4_append_cf468) B.pre
  have hown : s.vm.findClass RJ4 = some m.cls := findClass_of_methodNamed B.named
  have hlocks := B.notSynchronized
  subst hsz
  have hD := hD0.self (sz := s.heap.size)
  generalize hAe : va_A [(oJ4 o0 o1 0 mb (nI ct)), (o1, .inl (cA 3, cp, .inl fy))] s.heap.size = A at hD hZ ⊢
  have hA : ∀ q : Nat, s.heap.size ≤ q → A q := fun q h => by rw [← hAe]; exact Or.inr h
  have hS : va_S A s.heap s.heap [] := va_S.rf
  have hP : va_P D vwCl [(oJ4 o0 o1 0 mb (nI ct)), (o1, .inl (cA 3, cp, .inl fy))] s.heap := hP
  have hl := lv_entry ([.ref o0, .int (nI ch)]) (n := 2) (Nat.le_of_ble_eq_true rfl)
  rw [lg_entry_eq]
  generalize (lg_sl ([.ref o0, .int (nI ch)]) ++ List.replicate (2 - (lg_sl ([.ref o0, .int (nI ch)])).length) Slot.unset).toArray = ls at hl ⊢
  have hl : lv_has ls 2 [(0, .ref o0), (1, .int (nI ch))] := hl
  refine lv_aload_n hx hb dJ4_append_cf468_0 rfl (lv_at hl 0 rfl) ?_
  refine lv_iload_n hx hb dJ4_append_cf468_1 rfl (lv_at hl 1 rfl) ?_
  obtain ⟨hPc, hDc, hFc⟩ := PDq.cut (wc := [(oJ4 o0 o1 0 mb (nI ct)), (o1, .inl (cA 3, cp, .inl fy))]) hP hD hS hA [0, 1] (by decide) rfl
  refine va_callr (va_runSU (As := [.int (nI ch)]) (rest := []) (hK.1 1 _ rfl).2 ⟨hx, hb, hml, hown, hts⟩ (j_appendC5 l D cA sa o0 o1 ct cp mb fy ch s.heap.size hct hcp hfit hch hc1) (va_cwSU 1 hts gJ4_append_cf468_J5_append_3fe6f_s50 rfl rfl rfl (by decide +kernel) ⟨(Nat.le_of_ble_eq_true rfl), (Nat.le_of_ble_eq_true rfl)⟩) ⟨Wd.blind, va_recv hK hPc (ci := 1) (q0 := 0) rfl rfl, fun U hU hW => ⟨rfl, Wd.call hPc hDc hK hC hZ hS hFc U hU hW⟩⟩ rfl rfl hl.1 rfl (lv_room (Nat.le_of_ble_eq_true rfl)) dJ4_append_cf468_2 ⟨(Nat.le_of_ble_eq_true rfl), (Nat.le_of_ble_eq_true rfl)⟩) hS (fun q _ h => hFc q h) hFc (fun u ra t H1 locs ht hvm hw hB hz1 hk1 hS => ?_)
  obtain ⟨hra, qn1, qn2, fn3, hn4, hn5, hn6, hP1, hD1⟩ := hB
  obtain rfl := hra.symm
  rw [ht] at hP1
  obtain ⟨hP, hD⟩ := PDq.join (w := [(oJ4 o0 qn1 0 mb (nI (ct + 1))), (qn1, .inl (cA 3, qn2, .inl fn3))]) 0 hP hD [0, 1] [] rfl rfl (by decide) (by decide) hk1 hFc hP1 hD1 rfl
  generalize H1 = H at hP hS ⊢
  refine lv_pop hx hb dJ4_append_cf468_5 rfl ?_
  refine lv_aload_n hx hb dJ4_append_cf468_6 rfl (lv_at hl 0 rfl) ?_
  obtain ⟨hP9, hD9⟩ := PDq.sub (ws' := [(oJ4 o0 qn1 0 mb (nI (ct + 1))), (qn1, .inl (cA 3, qn2, .inl fn3))]) hP hD [0, 1] (by decide) rfl
  refine W.widen (k := 1) (n := 260) (Nat.le_of_ble_eq_true rfl) (Nat.le_of_ble_eq_true rfl) ?_
  exact (W.aret (v := .ref o0) hx hb hr (Or.inl ⟨_, rfl⟩) (Or.inr ⟨_, rfl⟩) (fun t ht hW => ⟨⟨(), o0, rfl, trivial, rfl, qn1, qn2, fn3, hn4, hn5, hn6, by rw [ht]; exact hP9, hD9⟩, hS.F ht⟩) hS.2.2 dJ4_append_cf468_7)

set_option maxHeartbeats 4000000 in
set_option maxRecDepth 100000 in
/-- setLength(0) -/
theorem j_setLength5 (l : Launch) (D : va_G) (cA : Nat → ClassId) (sa : Nat → Nat) (o0 : Nat) (o1 : Nat) (ct : Nat) (cp : Nat) (mb : Int32) (fy : Nat → Int32) (sz : Nat) (hct : ct ≤ cp) (hcp : cp ≤ 126) (hfit : sb_Fit fy) : Met l yJ5_setLength_d00df wsJ5_setLength_d00df ({ frames := 4, cells := 1, slots := 260, locals := 104 }) (va_Pc [.ref o0, .int 0] (Wd D cA sa [(oJ4 o0 o1 0 mb (nI ct)), (o1, .inl (cA 3, cp, .inl fy))] sz)) (va_Qv (fun _ : Unit => True) (fun (_ : Unit) t => ∃ z1 : Nat, ∃ cp2 : Nat, ∃ zy : Nat → Int32, ∃ zm : Int32, cp2 ≤ 126 ∧ sb_Fit zy ∧ Wq D (va_A [(oJ4 o0 o1 0 mb (nI ct)), (o1, .inl (cA 3, cp, .inl fy))] sz) [(oJ4 o0 z1 0 zm 0), (z1, .inl (cA 3, cp2, .inl zy))] t) (va_A [(oJ4 o0 o1 0 mb (nI ct)), (o1, .inl (cA 3, cp, .inl fy))] sz)) 1 260 (va_A [(oJ4 o0 o1 0 mb (nI ct)), (o1, .inl (cA 3, cp, .inl fy))] sz) := by
  refine Met.ofW (cc := cJ5_setLength_d00df) (maxL := 2) (ret := none) (by decide) rfl ?_
  intro p e s m args below meth c s₁ B hml hv
  obtain ⟨rfl, hsz, hP, hK, hD0, hC, hZ⟩ := hv
  have hx := B.exec
  have hb := B.bytes
  have hr := B.returns
  have hts := atoms_spec (ws := wsJ5_setLength_d00df) B.pre
  have hown : s.vm.findClass RJ5 = some m.cls := findClass_of_methodNamed B.named
  have hlocks := B.notSynchronized
  subst hsz
  have hD := hD0.self (sz := s.heap.size)
  generalize hAe : va_A [(oJ4 o0 o1 0 mb (nI ct)), (o1, .inl (cA 3, cp, .inl fy))] s.heap.size = A at hD hZ ⊢
  have hA : ∀ q : Nat, s.heap.size ≤ q → A q := fun q h => by rw [← hAe]; exact Or.inr h
  have hS : va_S A s.heap s.heap [] := va_S.rf
  have hP : va_P D vwCl [(oJ4 o0 o1 0 mb (nI ct)), (o1, .inl (cA 3, cp, .inl fy))] s.heap := hP
  have hl := lv_entry ([.ref o0, .int 0]) (n := 2) (Nat.le_of_ble_eq_true rfl)
  rw [lg_entry_eq]
  generalize (lg_sl ([.ref o0, .int 0]) ++ List.replicate (2 - (lg_sl ([.ref o0, .int 0])).length) Slot.unset).toArray = ls at hl ⊢
  have hl : lv_has ls 2 [(0, .ref o0), (1, .int 0)] := hl
  have inJ4 : ∀ w ∈ u_ws RJ4 TJ4 4, w ∈ wsJ5_setLength_d00df := by decide +kernel
  refine lv_iload_n hx hb dJ5_setLength_d00df_0 rfl (lv_at hl 1 rfl) ?_
  refine lv_if_ge (tgt := 13) hx hb dJ5_setLength_d00df_1 (by decide) (fun c1 => ?_) (fun c9 => absurd c9 (by decide))
  refine lv_aload_n hx hb dJ5_setLength_d00df_13 rfl (lv_at hl 0 rfl) ?_
  refine lv_iload_n hx hb dJ5_setLength_d00df_14 rfl (lv_at hl 1 rfl) ?_
  obtain ⟨hPc, hDc, hFc⟩ := PDq.cut (wc := [(oJ4 o0 o1 0 mb (nI ct)), (o1, .inl (cA 3, cp, .inl fy))]) hP hD hS hA [0, 1] (by decide) rfl
  refine va_callv (va_runU (As := [.int 0]) (rest := []) ⟨hx, hb, hml, hown, hts⟩ (j_ensure l D cA sa o0 o1 ct cp mb fy 0 s.heap.size hct hcp hfit (by omega)) (va_cwU 1 hts gJ5_setLength_d00df_J5_ensureCapacityInternal_d00df_u100J4 rfl rfl rfl rfl (by decide +kernel) ⟨(Nat.le_of_ble_eq_true rfl), (Nat.le_of_ble_eq_true rfl)⟩) ⟨Wd.blind, va_recv hK hPc (ci := 1) (q0 := 0) rfl rfl, fun U hU hW => ⟨rfl, Wd.call hPc hDc hK hC hZ hS hFc U hU hW⟩⟩ rfl rfl hl.1 rfl (lv_room (Nat.le_of_ble_eq_true rfl)) dJ5_setLength_d00df_15 ⟨(Nat.le_of_ble_eq_true rfl), (Nat.le_of_ble_eq_true rfl)⟩) hS (fun q _ h => hFc q h) hFc (fun u t H1 locs ht hvm hw hB hz1 hk1 hS => ?_)
  obtain ⟨qn2, qn3, fn4, hn5, hn6, hn7, hn8, hP1, hD1⟩ := hB
  rw [ht] at hP1
  obtain ⟨hP, hD⟩ := PDq.join (w := [(oJ4 o0 qn2 0 mb (nI ct)), (qn2, .inl (cA 3, qn3, .inl fn4))]) 0 hP hD [0, 1] [] rfl rfl (by decide) (by decide) hk1 hFc hP1 hD1 rfl
  generalize H1 = H at hP hS ⊢
  refine lv_aload_n hx hb dJ5_setLength_d00df_18 rfl (lv_at hl 0 rfl) ?_
  refine va_get (D := D) (ci := 1) (v := .int (nI ct)) (C := RJ4) (T := TJ4) (N := 4) hx hb hts inJ4 hown hK hP 0 rfl rfl 3 (by decide) (hts (.fieldLink RJ5 79 "java/lang/AbstractStringBuilder" "count" "I") (by decide +kernel)) (fun _ h9 => h9) rfl dJ5_setLength_d00df_19 ?_
  refine lv_iload_n hx hb dJ5_setLength_d00df_22 rfl (lv_at hl 1 rfl) ?_
  refine lv_icmp_ge (tgt := 63) hx hb dJ5_setLength_d00df_23 (by decide) (fun c9 => ?_) (fun c9 => absurd (nI_le (a := 0) (b := ct) (show 0 ≤ ct by omega) (by omega)) c9)
  refine lv_aload_n hx hb dJ5_setLength_d00df_63 rfl (lv_at hl 0 rfl) ?_
  refine va_get (D := D) (ci := 1) (v := .int (nI ct)) (C := RJ4) (T := TJ4) (N := 4) hx hb hts inJ4 hown hK hP 0 rfl rfl 3 (by decide) (hts (.fieldLink RJ5 79 "java/lang/AbstractStringBuilder" "count" "I") (by decide +kernel)) (fun _ h9 => h9) rfl dJ5_setLength_d00df_64 ?_
  refine lv_iload_n hx hb dJ5_setLength_d00df_67 rfl (lv_at hl 1 rfl) ?_
  refine lv_icmp_le (tgt := 76) hx hb dJ5_setLength_d00df_68 (by decide) (fun c10 => ?_) (fun c10 => ?_)
  · skip
    have hn11 : ct ≤ 0 := (nI_leI (a := ct) (b := 0) (by omega) (by omega)).mp c10
    refine lv_aload_n hx hb dJ5_setLength_d00df_76 rfl (lv_at hl 0 rfl) ?_
    refine lv_iload_n hx hb dJ5_setLength_d00df_77 rfl (lv_at hl 1 rfl) ?_
    refine va_put (D := D) (ci := 1) (v := .int 0) (ty := .int) (C := RJ4) (T := TJ4) (N := 4) hx hb hts inJ4 tyJ4 tyJ4_ok nmJ4 hown hK hP hD hS 0 rfl rfl 3 (by decide) (hts (.fieldLink RJ5 79 "java/lang/AbstractStringBuilder" "count" "I") (by decide +kernel)) (fun _ h9 => h9) rfl (by decide +kernel) rfl rfl (Nat.le_of_ble_eq_true rfl) dJ5_setLength_d00df_78 (fun H locs hP hD hS => ?_)
    obtain ⟨hP, hD⟩ : PDq D A [(oJ4 o0 qn2 0 mb 0), (qn2, .inl (cA 3, qn3, .inl fn4))] H := ⟨hP, hD⟩
    obtain ⟨hP9, hD9⟩ := PDq.sub (ws' := [(oJ4 o0 qn2 0 mb 0), (qn2, .inl (cA 3, qn3, .inl fn4))]) hP hD [0, 1] (by decide) rfl
    refine W.widen (k := 1) (n := 260) (Nat.le_of_ble_eq_true rfl) (Nat.le_of_ble_eq_true rfl) ?_
    exact (W.vret hx hb hr (fun t ht hW => ⟨⟨(), rfl, trivial, qn2, qn3, fn4, mb, hn7, hn8, by rw [ht]; exact hP9, hD9⟩, hS.F ht⟩) hS.2.2 dJ5_setLength_d00df_81)
  · skip
    have hn12 : 0 < ct := Nat.lt_of_not_le (fun h9 => c10 (nI_le (a := ct) (b := 0) h9 (by omega)))
    refine lv_aload_n hx hb dJ5_setLength_d00df_71 rfl (lv_at hl 0 rfl) ?_
    refine lv_iconst (v := 1) hx hb dJ5_setLength_d00df_72 (by decide) ?_
    refine va_put (D := D) (ci := 1) (v := .int 1) (ty := .boolean) (C := RJ4) (T := TJ4) (N := 4) hx hb hts inJ4 tyJ4 tyJ4_ok nmJ4 hown hK hP hD hS 0 rfl rfl 2 (by decide) (hts (.fieldLink RJ5 73 "java/lang/AbstractStringBuilder" "maybeLatin1" "Z") (by decide +kernel)) (fun _ h9 => h9) rfl (by decide +kernel) rfl rfl (Nat.le_of_ble_eq_true rfl) dJ5_setLength_d00df_73 (fun H locs hP hD hS => ?_)
    obtain ⟨hP, hD⟩ : PDq D A [(oJ4 o0 qn2 0 1 (nI ct)), (qn2, .inl (cA 3, qn3, .inl fn4))] H := ⟨hP, hD⟩
    refine lv_aload_n hx hb dJ5_setLength_d00df_76 rfl (lv_at hl 0 rfl) ?_
    refine lv_iload_n hx hb dJ5_setLength_d00df_77 rfl (lv_at hl 1 rfl) ?_
    refine va_put (D := D) (ci := 1) (v := .int 0) (ty := .int) (C := RJ4) (T := TJ4) (N := 4) hx hb hts inJ4 tyJ4 tyJ4_ok nmJ4 hown hK hP hD hS 0 rfl rfl 3 (by decide) (hts (.fieldLink RJ5 79 "java/lang/AbstractStringBuilder" "count" "I") (by decide +kernel)) (fun _ h9 => h9) rfl (by decide +kernel) rfl rfl (Nat.le_of_ble_eq_true rfl) dJ5_setLength_d00df_78 (fun H locs hP hD hS => ?_)
    obtain ⟨hP, hD⟩ : PDq D A [(oJ4 o0 qn2 0 1 0), (qn2, .inl (cA 3, qn3, .inl fn4))] H := ⟨hP, hD⟩
    obtain ⟨hP9, hD9⟩ := PDq.sub (ws' := [(oJ4 o0 qn2 0 1 0), (qn2, .inl (cA 3, qn3, .inl fn4))]) hP hD [0, 1] (by decide) rfl
    refine W.widen (k := 1) (n := 260) (Nat.le_of_ble_eq_true rfl) (Nat.le_of_ble_eq_true rfl) ?_
    exact (W.vret hx hb hr (fun t ht hW => ⟨⟨(), rfl, trivial, qn2, qn3, fn4, 1, hn7, hn8, by rw [ht]; exact hP9, hD9⟩, hS.F ht⟩) hS.2.2 dJ5_setLength_d00df_81)

set_option maxHeartbeats 4000000 in
set_option maxRecDepth 100000 in
/-- setLength(0) -/
theorem j_setLength (l : Launch) (D : va_G) (cA : Nat → ClassId) (sa : Nat → Nat) (o0 : Nat) (o1 : Nat) (ct : Nat) (cp : Nat) (mb : Int32) (fy : Nat → Int32) (sz : Nat) (hct : ct ≤ cp) (hcp : cp ≤ 126) (hfit : sb_Fit fy) : Met l yJ4_setLength_d00df wsJ4_setLength_d00df ({ frames := 5, cells := 1, slots := 260, locals := 125 }) (va_Pc [.ref o0, .int 0] (Wd D cA sa [(oJ4 o0 o1 0 mb (nI ct)), (o1, .inl (cA 3, cp, .inl fy))] sz)) (va_Qv (fun _ : Unit => True) (fun (_ : Unit) t => ∃ z1 : Nat, ∃ cp2 : Nat, ∃ zy : Nat → Int32, ∃ zm : Int32, cp2 ≤ 126 ∧ sb_Fit zy ∧ Wq D (va_A [(oJ4 o0 o1 0 mb (nI ct)), (o1, .inl (cA 3, cp, .inl fy))] sz) [(oJ4 o0 z1 0 zm 0), (z1, .inl (cA 3, cp2, .inl zy))] t) (va_A [(oJ4 o0 o1 0 mb (nI ct)), (o1, .inl (cA 3, cp, .inl fy))] sz)) 1 260 (va_A [(oJ4 o0 o1 0 mb (nI ct)), (o1, .inl (cA 3, cp, .inl fy))] sz) := by
  refine Met.ofW (cc := cJ4_setLength_d00df) (maxL := 2) (ret := none) (by decide) rfl ?_
  intro p e s m args below meth c s₁ B hml hv
  obtain ⟨rfl, hsz, hP, hK, hD0, hC, hZ⟩ := hv
  have hx := B.exec
  have hb := B.bytes
  have hr := B.returns
  have hts := atoms_spec (ws := wsJ4_setLength_d00df) B.pre
  have hown : s.vm.findClass RJ4 = some m.cls := findClass_of_methodNamed B.named
  have hlocks := B.notSynchronized
  subst hsz
  have hD := hD0.self (sz := s.heap.size)
  generalize hAe : va_A [(oJ4 o0 o1 0 mb (nI ct)), (o1, .inl (cA 3, cp, .inl fy))] s.heap.size = A at hD hZ ⊢
  have hA : ∀ q : Nat, s.heap.size ≤ q → A q := fun q h => by rw [← hAe]; exact Or.inr h
  have hS : va_S A s.heap s.heap [] := va_S.rf
  have hP : va_P D vwCl [(oJ4 o0 o1 0 mb (nI ct)), (o1, .inl (cA 3, cp, .inl fy))] s.heap := hP
  have hl := lv_entry ([.ref o0, .int 0]) (n := 2) (Nat.le_of_ble_eq_true rfl)
  rw [lg_entry_eq]
  generalize (lg_sl ([.ref o0, .int 0]) ++ List.replicate (2 - (lg_sl ([.ref o0, .int 0])).length) Slot.unset).toArray = ls at hl ⊢
  have hl : lv_has ls 2 [(0, .ref o0), (1, .int 0)] := hl
  refine lv_aload_n hx hb dJ4_setLength_d00df_0 rfl (lv_at hl 0 rfl) ?_
  refine lv_iload_n hx hb dJ4_setLength_d00df_1 rfl (lv_at hl 1 rfl) ?_
  obtain ⟨hPc, hDc, hFc⟩ := PDq.cut (wc := [(oJ4 o0 o1 0 mb (nI ct)), (o1, .inl (cA 3, cp, .inl fy))]) hP hD hS hA [0, 1] (by decide) rfl
  refine va_callv (va_runSU (As := [.int 0]) (rest := []) (hK.1 1 _ rfl).2 ⟨hx, hb, hml, hown, hts⟩ (j_setLength5 l D cA sa o0 o1 ct cp mb fy s.heap.size hct hcp hfit) (va_cwSU 1 hts gJ4_setLength_d00df_J5_setLength_d00df_s333 rfl rfl rfl (by decide +kernel) ⟨(Nat.le_of_ble_eq_true rfl), (Nat.le_of_ble_eq_true rfl)⟩) ⟨Wd.blind, va_recv hK hPc (ci := 1) (q0 := 0) rfl rfl, fun U hU hW => ⟨rfl, Wd.call hPc hDc hK hC hZ hS hFc U hU hW⟩⟩ rfl rfl hl.1 rfl (lv_room (Nat.le_of_ble_eq_true rfl)) dJ4_setLength_d00df_2 ⟨(Nat.le_of_ble_eq_true rfl), (Nat.le_of_ble_eq_true rfl)⟩) hS (fun q _ h => hFc q h) hFc (fun u t H1 locs ht hvm hw hB hz1 hk1 hS => ?_)
  obtain ⟨qn1, qn2, fn3, zn4, hn5, hn6, hP1, hD1⟩ := hB
  rw [ht] at hP1
  obtain ⟨hP, hD⟩ := PDq.join (w := [(oJ4 o0 qn1 0 zn4 0), (qn1, .inl (cA 3, qn2, .inl fn3))]) 0 hP hD [0, 1] [] rfl rfl (by decide) (by decide) hk1 hFc hP1 hD1 rfl
  generalize H1 = H at hP hS ⊢
  obtain ⟨hP9, hD9⟩ := PDq.sub (ws' := [(oJ4 o0 qn1 0 zn4 0), (qn1, .inl (cA 3, qn2, .inl fn3))]) hP hD [0, 1] (by decide) rfl
  refine W.widen (k := 1) (n := 260) (Nat.le_of_ble_eq_true rfl) (Nat.le_of_ble_eq_true rfl) ?_
  exact (W.vret hx hb hr (fun t ht hW => ⟨⟨(), rfl, trivial, qn1, qn2, fn3, zn4, hn5, hn6, by rw [ht]; exact hP9, hD9⟩, hS.F ht⟩) hS.2.2 dJ4_setLength_d00df_5)

set_option maxHeartbeats 4000000 in
set_option maxRecDepth 100000 in
/-- inflateIfNeededFor -/
theorem j_inflateIf (l : Launch) (D : va_G) (cA : Nat → ClassId) (sa : Nat → Nat) (o0 : Nat) (o1 : Nat) (ct : Nat) (mb : Int32) (k : Nat) (bs : List Int32) (sz : Nat) (hq : (k, bs) ∈ sbL) : Met l yJ5_inflateIfNeededFor_a7421 wsJ5_inflateIfNeededFor_a7421 ({ frames := 1, cells := 0, slots := 0, locals := 20 }) (va_Pc [.ref o0, .ref (sa k)] (Wd D cA sa [(oJ4 o0 o1 0 mb (nI ct))] sz)) (va_Qv (fun _ : Unit => True) (fun (_ : Unit) t => Wq D (va_A [(oJ4 o0 o1 0 mb (nI ct))] sz) [(oJ4 o0 o1 0 mb (nI ct))] t) (va_A [(oJ4 o0 o1 0 mb (nI ct))] sz)) 0 0 (va_A [(oJ4 o0 o1 0 mb (nI ct))] sz) := by
  refine Met.ofW (cc := cJ5_inflateIfNeededFor_a7421) (maxL := 2) (ret := none) (by decide) rfl ?_
  intro p e s m args below meth c s₁ B hml hv
  obtain ⟨rfl, hsz, hP, hK, hD0, hC, hZ⟩ := hv
  have hx := B.exec
  have hb := B.bytes
  have hr := B.returns
  have hts := atoms_spec (ws := wsJ5_inflateIfNeededFor_a7421) B.pre
  have hown : s.vm.findClass RJ5 = some m.cls := findClass_of_methodNamed B.named
  have hlocks := B.notSynchronized
  subst hsz
  have hD := hD0.self (sz := s.heap.size)
  generalize hAe : va_A [(oJ4 o0 o1 0 mb (nI ct))] s.heap.size = A at hD hZ ⊢
  have hA : ∀ q : Nat, s.heap.size ≤ q → A q := fun q h => by rw [← hAe]; exact Or.inr h
  have hS : va_S A s.heap s.heap [] := va_S.rf
  have hP : va_P D vwCl [(oJ4 o0 o1 0 mb (nI ct))] s.heap := hP
  have hl := lv_entry ([.ref o0, .ref (sa k)]) (n := 2) (Nat.le_of_ble_eq_true rfl)
  rw [lg_entry_eq]
  generalize (lg_sl ([.ref o0, .ref (sa k)]) ++ List.replicate (2 - (lg_sl ([.ref o0, .ref (sa k)])).length) Slot.unset).toArray = ls at hl ⊢
  have hl : lv_has ls 2 [(0, .ref o0), (1, .ref (sa k))] := hl
  have inJ4 : ∀ w ∈ u_ws RJ4 TJ4 4, w ∈ wsJ5_inflateIfNeededFor_a7421 := by decide +kernel
  have hso := hZ.2.2.2.2 (k, bs) hq
  have hsC : va_OF "java/lang/String" "coder" "B" (.int 0) (sa k) A s s.heap := hso.2.1
  have hsV : va_OF "java/lang/String" "value" "[B" (.ref (sa (1000 + k))) (sa k) A s s.heap := hso.2.2.1
  have hsT : va_T .byte (sa (1000 + k)) bs.length (fun j => .int (bs.getD j 0)) A s s.heap := hso.2.2.2
  refine va_gets hx hb hZ.2.2.1 hS hown (hts (.fieldLink RJ5 18 "java/lang/String" "COMPACT_STRINGS" "Z") (by decide +kernel)) (fun _ h9 => h9) dJ5_inflateIfNeededFor_a7421_0 ?_
  refine lv_if_eq (tgt := 21) hx hb dJ5_inflateIfNeededFor_a7421_3 (by decide) (fun c9 => absurd c9 (by decide)) (fun c1 => ?_)
  refine lv_aload_n hx hb dJ5_inflateIfNeededFor_a7421_6 rfl (lv_at hl 0 rfl) ?_
  refine va_get (D := D) (ci := 1) (v := .int 0) (C := RJ4) (T := TJ4) (N := 4) hx hb hts inJ4 hown hK hP 0 rfl rfl 1 (by decide) (hts (.fieldLink RJ5 22 "java/lang/AbstractStringBuilder" "coder" "B") (by decide +kernel)) (fun _ h9 => h9) rfl dJ5_inflateIfNeededFor_a7421_7 ?_
  refine lv_aload_n hx hb dJ5_inflateIfNeededFor_a7421_10 rfl (lv_at hl 1 rfl) ?_
  obtain ⟨hPc, hDc, hFc⟩ := PDq.cut (wc := []) hP hD hS hA [] (by decide) rfl
  refine va_calli (va_runV (As := []) (rest := [.int 0]) ⟨hx, hb, hml, hown, hts⟩ (c_coder l D cA sa k bs s.heap.size hq) (cwV 0 hts gJ5_inflateIfNeededFor_a7421_J0_coder_7d493 rfl rfl rfl (by decide +kernel) ⟨(Nat.le_of_ble_eq_true rfl), (Nat.le_of_ble_eq_true rfl)⟩) ⟨Wd.blind, SO.recv hso hS, fun U hU hW => ⟨rfl, Wd.call hPc hDc hK hC hZ hS hFc U hU hW⟩⟩ rfl rfl hl.1 rfl (lv_room (Nat.le_of_ble_eq_true rfl)) dJ5_inflateIfNeededFor_a7421_11 ⟨(Nat.le_of_ble_eq_true rfl), (Nat.le_of_ble_eq_true rfl)⟩) hS (fun q _ h => hFc q h) hFc (fun rn2 u t H1 locs ht hvm hw hB hz1 hk1 hS => ?_)
  obtain ⟨hP1, hD1⟩ := hB
  rw [ht] at hP1
  obtain ⟨hP, hD⟩ := PDq.join (w := [(oJ4 o0 o1 0 mb (nI ct))]) 1 hP hD [] [0] rfl rfl (by decide) (by decide) hk1 hFc hP1 hD1 rfl
  generalize H1 = H at hP hS ⊢
  obtain rfl : rn2 = 0 := hw
  refine lv_icmp_eq (tgt := 21) hx hb dJ5_inflateIfNeededFor_a7421_14 (by decide) (fun c3 => ?_) (fun c9 => absurd c9 (by decide))
  obtain ⟨hP9, hD9⟩ := PDq.sub (ws' := [(oJ4 o0 o1 0 mb (nI ct))]) hP hD [0] (by decide) rfl
  refine W.widen (k := 0) (n := 0) (Nat.le_of_ble_eq_true rfl) (Nat.le_of_ble_eq_true rfl) ?_
  exact (W.vret hx hb hr (fun t ht hW => ⟨⟨(), rfl, trivial, by rw [ht]; exact hP9, hD9⟩, hS.F ht⟩) hS.2.2 dJ5_inflateIfNeededFor_a7421_21)

set_option maxHeartbeats 4000000 in
set_option maxRecDepth 100000 in
/-- String.getBytes -/
theorem j_getBytes (l : Launch) (D : va_G) (cA : Nat → ClassId) (sa : Nat → Nat) (o1 : Nat) (cp : Nat) (fy : Nat → Int32) (k : Nat) (bs : List Int32) (dp9 : Nat) (sz : Nat) (hq : (k, bs) ∈ sbL) (hcp : cp ≤ 126) (hfit : sb_Fit fy) (hdp : dp9 + bs.length ≤ cp) : Met l yJ0_getBytes_840e7 wsJ0_getBytes_840e7 ({ frames := 1, cells := 0, slots := 0, locals := 60 }) (va_Pc [.ref (sa k), .ref o1, .int (nI dp9), .int 0] (Wd D cA sa [(o1, .inl (cA 3, cp, .inl fy))] sz)) (va_Qv (fun _ : Unit => True) (fun (_ : Unit) t => ∃ zy : Nat → Int32, sb_Fit zy ∧ Wq D (va_A [(o1, .inl (cA 3, cp, .inl fy))] sz) [(o1, .inl (cA 3, cp, .inl zy))] t) (va_A [(o1, .inl (cA 3, cp, .inl fy))] sz)) 0 0 (va_A [(o1, .inl (cA 3, cp, .inl fy))] sz) := by
  refine Met.ofW (cc := cJ0_getBytes_840e7) (maxL := 4) (ret := none) (by decide) rfl ?_
  intro p e s m args below meth c s₁ B hml hv
  obtain ⟨rfl, hsz, hP, hK, hD0, hC, hZ⟩ := hv
  have hx := B.exec
  have hb := B.bytes
  have hr := B.returns
  have hts := atoms_spec (ws := wsJ0_getBytes_840e7) B.pre
  have hown : s.vm.findClass RJ0 = some m.cls := findClass_of_methodNamed B.named
  have hlocks := B.notSynchronized
  subst hsz
  have hD := hD0.self (sz := s.heap.size)
  generalize hAe : va_A [(o1, .inl (cA 3, cp, .inl fy))] s.heap.size = A at hD hZ ⊢
  have hA : ∀ q : Nat, s.heap.size ≤ q → A q := fun q h => by rw [← hAe]; exact Or.inr h
  have hS : va_S A s.heap s.heap [] := va_S.rf
  have hP : va_P D vwCl [(o1, .inl (cA 3, cp, .inl fy))] s.heap := hP
  have hl := lv_entry ([.ref (sa k), .ref o1, .int (nI dp9), .int 0]) (n := 4) (Nat.le_of_ble_eq_true rfl)
  rw [lg_entry_eq]
  generalize (lg_sl ([.ref (sa k), .ref o1, .int (nI dp9), .int 0]) ++ List.replicate (4 - (lg_sl ([.ref (sa k), .ref o1, .int (nI dp9), .int 0])).length) Slot.unset).toArray = ls at hl ⊢
  have hl : lv_has ls 4 [(0, .ref (sa k)), (1, .ref o1), (2, .int (nI dp9)), (3, .int 0)] := hl
  have hso := hZ.2.2.2.2 (k, bs) hq
  have hsC : va_OF "java/lang/String" "coder" "B" (.int 0) (sa k) A s s.heap := hso.2.1
  have hsV : va_OF "java/lang/String" "value" "[B" (.ref (sa (1000 + k))) (sa k) A s s.heap := hso.2.2.1
  have hsT : va_T .byte (sa (1000 + k)) bs.length (fun j => .int (bs.getD j 0)) A s s.heap := hso.2.2.2
  refine lv_aload_n hx hb dJ0_getBytes_840e7_0 rfl (lv_at hl 0 rfl) ?_
  obtain ⟨hPc, hDc, hFc⟩ := PDq.cut (wc := []) hP hD hS hA [] (by decide) rfl
  refine va_calli (va_runV (As := []) (rest := []) ⟨hx, hb, hml, hown, hts⟩ (c_coder l D cA sa k bs s.heap.size hq) (cwV 0 hts gJ0_getBytes_840e7_J0_coder_7d493 rfl rfl rfl (by decide +kernel) ⟨(Nat.le_of_ble_eq_true rfl), (Nat.le_of_ble_eq_true rfl)⟩) ⟨Wd.blind, SO.recv hso hS, fun U hU hW => ⟨rfl, Wd.call hPc hDc hK hC hZ hS hFc U hU hW⟩⟩ rfl rfl hl.1 rfl (lv_room (Nat.le_of_ble_eq_true rfl)) dJ0_getBytes_840e7_1 ⟨(Nat.le_of_ble_eq_true rfl), (Nat.le_of_ble_eq_true rfl)⟩) hS (fun q _ h => hFc q h) hFc (fun rn1 u t H1 locs ht hvm hw hB hz1 hk1 hS => ?_)
  obtain ⟨hP1, hD1⟩ := hB
  rw [ht] at hP1
  obtain ⟨hP, hD⟩ := PDq.join (w := [(o1, .inl (cA 3, cp, .inl fy))]) 1 hP hD [] [0] rfl rfl (by decide) (by decide) hk1 hFc hP1 hD1 rfl
  generalize H1 = H at hP hS ⊢
  obtain rfl : rn1 = 0 := hw
  refine lv_iload_n hx hb dJ0_getBytes_840e7_4 rfl (lv_at hl 3 rfl) ?_
  refine lv_icmp_ne (tgt := 28) hx hb dJ0_getBytes_840e7_5 (by decide) (fun c9 => absurd c9 (by decide)) (fun c2 => ?_)
  refine lv_aload_n hx hb dJ0_getBytes_840e7_8 rfl (lv_at hl 0 rfl) ?_
  refine vk_getf hx hb hsV hS hown (hts (.fieldLink RJ0 9 "java/lang/String" "value" "[B") (by decide +kernel)) (fun _ h9 => h9) dJ0_getBytes_840e7_9 ?_
  refine lv_iconst (v := 0) hx hb dJ0_getBytes_840e7_12 (by decide) ?_
  refine lv_aload_n hx hb dJ0_getBytes_840e7_13 rfl (lv_at hl 1 rfl) ?_
  refine lv_iload_n hx hb dJ0_getBytes_840e7_14 rfl (lv_at hl 2 rfl) ?_
  refine lv_iload_n hx hb dJ0_getBytes_840e7_15 rfl (lv_at hl 3 rfl) ?_
  refine lv_ishl hx hb dJ0_getBytes_840e7_16 ?_
  refine lv_topi (fun yn3 eyn3 => ?_)
  obtain rfl : yn3 = (nI dp9) := eyn3.trans (sb_shl0 _)
  refine lv_aload_n hx hb dJ0_getBytes_840e7_17 rfl (lv_at hl 0 rfl) ?_
  refine vk_getf hx hb hsV hS hown (hts (.fieldLink RJ0 9 "java/lang/String" "value" "[B") (by decide +kernel)) (fun _ h9 => h9) dJ0_getBytes_840e7_18 ?_
  refine va_tlen (v := nI bs.length) hx hb hsT hS rfl dJ0_getBytes_840e7_21 ?_
  refine va_copyT hx hb (by rw [hml]; exact hl.1.symm) hown (hts (.methodLink RJ0 212 arraycopyName) (by decide +kernel)) (hts (.native arraycopyName) (by decide +kernel)) (hts (.static arraycopyName) (by decide +kernel)) (hts (.initialized "java/lang/System") (by decide +kernel)) hK hP hD hS hsT 0 3 rfl rfl (by decide) (nI_pos (by omega)) (nI_pos (by omega)) (by rw [(show (0 : Int32).toNatClampNeg = 0 from by decide), (show ((nI bs.length) : Int32).toNatClampNeg = bs.length from nI_clamp (by omega))]; omega) (by rw [(show ((nI dp9) : Int32).toNatClampNeg = dp9 from nI_clamp (by omega)), (show ((nI bs.length) : Int32).toNatClampNeg = bs.length from nI_clamp (by omega))]; omega) (fun i9 hi9 => by rw [(show ((nI bs.length) : Int32).toNatClampNeg = bs.length from nI_clamp (by omega))] at hi9; rw [(show (0 : Int32).toNatClampNeg = 0 from by decide), Nat.zero_add]; exact sb_fitL hq i9 hi9) (Nat.le_of_ble_eq_true rfl) (Nat.le_of_ble_eq_true rfl) dJ0_getBytes_840e7_22 (fun H locs hP hD hS => ?_)
  obtain ⟨hP, hD⟩ : PDq D A [(o1, .inl (cA 3, cp, .inl (va_cpy (fun j => bs.getD j 0) fy 0 (((nI dp9)).toNatClampNeg) (((nI bs.length)).toNatClampNeg))))] H := ⟨hP, hD⟩
  have hn5 : sb_Fit (va_cpy (fun j => bs.getD j 0) fy 0 (((nI dp9)).toNatClampNeg) (((nI bs.length)).toNatClampNeg)) := sb_fitC (fun j => sb_fitA hq j) hfit
  generalize (va_cpy (fun j => bs.getD j 0) fy 0 (((nI dp9)).toNatClampNeg) (((nI bs.length)).toNatClampNeg)) = fn4 at hP hD hn5
  obtain ⟨hP, hD⟩ : PDq D A [(o1, .inl (cA 3, cp, .inl fn4))] H := ⟨hP, hD⟩
  refine lv_goto (tgt := 43) hx hb dJ0_getBytes_840e7_25 (by decide) ?_
  obtain ⟨hP9, hD9⟩ := PDq.sub (ws' := [(o1, .inl (cA 3, cp, .inl fn4))]) hP hD [0] (by decide) rfl
  refine W.widen (k := 0) (n := 0) (Nat.le_of_ble_eq_true rfl) (Nat.le_of_ble_eq_true rfl) ?_
  exact (W.vret hx hb hr (fun t ht hW => ⟨⟨(), rfl, trivial, fn4, hn5, by rw [ht]; exact hP9, hD9⟩, hS.F ht⟩) hS.2.2 dJ0_getBytes_840e7_43)

set_option maxHeartbeats 4000000 in
set_option maxRecDepth 100000 in
/-- putStringAt -/
theorem j_putStringAt (l : Launch) (D : va_G) (cA : Nat → ClassId) (sa : Nat → Nat) (o0 : Nat) (o1 : Nat) (ct : Nat) (cp : Nat) (mb : Int32) (fy : Nat → Int32) (k : Nat) (bs : List Int32) (dp9 : Nat) (sz : Nat) (hq : (k, bs) ∈ sbL) (hcp : cp ≤ 126) (hfit : sb_Fit fy) (hdp : dp9 + bs.length ≤ cp) : Met l yJ5_putStringAt_47b60 wsJ5_putStringAt_47b60 ({ frames := 2, cells := 0, slots := 0, locals := 83 }) (va_Pc [.ref o0, .int (nI dp9), .ref (sa k)] (Wd D cA sa [(oJ4 o0 o1 0 mb (nI ct)), (o1, .inl (cA 3, cp, .inl fy))] sz)) (va_Qv (fun _ : Unit => True) (fun (_ : Unit) t => ∃ zy : Nat → Int32, sb_Fit zy ∧ Wq D (va_A [(oJ4 o0 o1 0 mb (nI ct)), (o1, .inl (cA 3, cp, .inl fy))] sz) [(oJ4 o0 o1 0 mb (nI ct)), (o1, .inl (cA 3, cp, .inl zy))] t) (va_A [(oJ4 o0 o1 0 mb (nI ct)), (o1, .inl (cA 3, cp, .inl fy))] sz)) 0 0 (va_A [(oJ4 o0 o1 0 mb (nI ct)), (o1, .inl (cA 3, cp, .inl fy))] sz) := by
  refine Met.ofW (cc := cJ5_putStringAt_47b60) (maxL := 3) (ret := none) (by decide) rfl ?_
  intro p e s m args below meth c s₁ B hml hv
  obtain ⟨rfl, hsz, hP, hK, hD0, hC, hZ⟩ := hv
  have hx := B.exec
  have hb := B.bytes
  have hr := B.returns
  have hts := atoms_spec (ws := wsJ5_putStringAt_47b60) B.pre
  have hown : s.vm.findClass RJ5 = some m.cls := findClass_of_methodNamed B.named
  have hlocks := B.notSynchronized
  subst hsz
  have hD := hD0.self (sz := s.heap.size)
  generalize hAe : va_A [(oJ4 o0 o1 0 mb (nI ct)), (o1, .inl (cA 3, cp, .inl fy))] s.heap.size = A at hD hZ ⊢
  have hA : ∀ q : Nat, s.heap.size ≤ q → A q := fun q h => by rw [← hAe]; exact Or.inr h
  have hS : va_S A s.heap s.heap [] := va_S.rf
  have hP : va_P D vwCl [(oJ4 o0 o1 0 mb (nI ct)), (o1, .inl (cA 3, cp, .inl fy))] s.heap := hP
  have hl := lv_entry ([.ref o0, .int (nI dp9), .ref (sa k)]) (n := 3) (Nat.le_of_ble_eq_true rfl)
  rw [lg_entry_eq]
  generalize (lg_sl ([.ref o0, .int (nI dp9), .ref (sa k)]) ++ List.replicate (3 - (lg_sl ([.ref o0, .int (nI dp9), .ref (sa k)])).length) Slot.unset).toArray = ls at hl ⊢
  have hl : lv_has ls 3 [(0, .ref o0), (1, .int (nI dp9)), (2, .ref (sa k))] := hl
  have inJ4 : ∀ w ∈ u_ws RJ4 TJ4 4, w ∈ wsJ5_putStringAt_47b60 := by decide +kernel
  have hso := hZ.2.2.2.2 (k, bs) hq
  have hsC : va_OF "java/lang/String" "coder" "B" (.int 0) (sa k) A s s.heap := hso.2.1
  have hsV : va_OF "java/lang/String" "value" "[B" (.ref (sa (1000 + k))) (sa k) A s s.heap := hso.2.2.1
  have hsT : va_T .byte (sa (1000 + k)) bs.length (fun j => .int (bs.getD j 0)) A s s.heap := hso.2.2.2
  refine lv_aload_n hx hb dJ5_putStringAt_47b60_0 rfl (lv_at hl 0 rfl) ?_
  refine lv_aload_n hx hb dJ5_putStringAt_47b60_1 rfl (lv_at hl 2 rfl) ?_
  obtain ⟨hPc, hDc, hFc⟩ := PDq.cut (wc := [(oJ4 o0 o1 0 mb (nI ct))]) hP hD hS hA [0] (by decide) rfl
  refine va_callv (va_runU (As := [.ref (sa k)]) (rest := []) ⟨hx, hb, hml, hown, hts⟩ (j_inflateIf l D cA sa o0 o1 ct mb k bs s.heap.size hq) (va_cwU 1 hts gJ5_putStringAt_47b60_J5_inflateIfNeededFor_a7421_u397J4 rfl rfl rfl rfl (by decide +kernel) ⟨(Nat.le_of_ble_eq_true rfl), (Nat.le_of_ble_eq_true rfl)⟩) ⟨Wd.blind, va_recv hK hPc (ci := 1) (q0 := 0) rfl rfl, fun U hU hW => ⟨rfl, Wd.call hPc hDc hK hC hZ hS hFc U hU hW⟩⟩ rfl rfl hl.1 rfl (lv_room (Nat.le_of_ble_eq_true rfl)) dJ5_putStringAt_47b60_2 ⟨(Nat.le_of_ble_eq_true rfl), (Nat.le_of_ble_eq_true rfl)⟩) hS (fun q _ h => hFc q h) hFc (fun u t H1 locs ht hvm hw hB hz1 hk1 hS => ?_)
  obtain ⟨hP1, hD1⟩ := hB
  rw [ht] at hP1
  obtain ⟨hP, hD⟩ := PDq.join (w := [(o1, .inl (cA 3, cp, .inl fy)), (oJ4 o0 o1 0 mb (nI ct))]) 1 hP hD [0] [1] rfl rfl (by decide) (by decide) hk1 hFc hP1 hD1 rfl
  generalize H1 = H at hP hS ⊢
  refine lv_aload_n hx hb dJ5_putStringAt_47b60_5 rfl (lv_at hl 2 rfl) ?_
  refine lv_aload_n hx hb dJ5_putStringAt_47b60_6 rfl (lv_at hl 0 rfl) ?_
  refine va_get (D := D) (ci := 1) (v := .ref o1) (C := RJ4) (T := TJ4) (N := 4) hx hb hts inJ4 hown hK hP 1 rfl rfl 0 (by decide) (hts (.fieldLink RJ5 15 "java/lang/AbstractStringBuilder" "value" "[B") (by decide +kernel)) (fun _ h9 => h9) rfl dJ5_putStringAt_47b60_7 ?_
  refine lv_iload_n hx hb dJ5_putStringAt_47b60_10 rfl (lv_at hl 1 rfl) ?_
  refine lv_aload_n hx hb dJ5_putStringAt_47b60_11 rfl (lv_at hl 0 rfl) ?_
  refine va_get (D := D) (ci := 1) (v := .int 0) (C := RJ4) (T := TJ4) (N := 4) hx hb hts inJ4 hown hK hP 1 rfl rfl 1 (by decide) (hts (.fieldLink RJ5 22 "java/lang/AbstractStringBuilder" "coder" "B") (by decide +kernel)) (fun _ h9 => h9) rfl dJ5_putStringAt_47b60_12 ?_
  obtain ⟨hPc, hDc, hFc⟩ := PDq.cut (wc := [(o1, .inl (cA 3, cp, .inl fy))]) hP hD hS hA [0] (by decide) rfl
  refine va_callv (va_runV (As := [.ref o1, .int (nI dp9), .int 0]) (rest := []) ⟨hx, hb, hml, hown, hts⟩ (j_getBytes l D cA sa o1 cp fy k bs dp9 H.size hq hcp hfit hdp) (cwV 3 hts gJ5_putStringAt_47b60_J0_getBytes_840e7 rfl rfl rfl (by decide +kernel) ⟨(Nat.le_of_ble_eq_true rfl), (Nat.le_of_ble_eq_true rfl)⟩) ⟨Wd.blind, SO.recv hso hS, fun U hU hW => ⟨rfl, Wd.call hPc hDc hK hC hZ hS hFc U hU hW⟩⟩ rfl rfl hl.1 rfl (lv_room (Nat.le_of_ble_eq_true rfl)) dJ5_putStringAt_47b60_15 ⟨(Nat.le_of_ble_eq_true rfl), (Nat.le_of_ble_eq_true rfl)⟩) hS (fun q _ h => hFc q h) hFc (fun u t H1 locs ht hvm hw hB hz1 hk1 hS => ?_)
  obtain ⟨fn1, hn2, hP1, hD1⟩ := hB
  rw [ht] at hP1
  obtain ⟨hP, hD⟩ := PDq.join (w := [(oJ4 o0 o1 0 mb (nI ct)), (o1, .inl (cA 3, cp, .inl fn1))]) 1 hP hD [0] [1] rfl rfl (by decide) (by decide) hk1 hFc hP1 hD1 rfl
  generalize H1 = H at hP hS ⊢
  obtain ⟨hP9, hD9⟩ := PDq.sub (ws' := [(oJ4 o0 o1 0 mb (nI ct)), (o1, .inl (cA 3, cp, .inl fn1))]) hP hD [0, 1] (by decide) rfl
  refine W.widen (k := 0) (n := 0) (Nat.le_of_ble_eq_true rfl) (Nat.le_of_ble_eq_true rfl) ?_
  exact (W.vret hx hb hr (fun t ht hW => ⟨⟨(), rfl, trivial, fn1, hn2, by rw [ht]; exact hP9, hD9⟩, hS.F ht⟩) hS.2.2 dJ5_putStringAt_47b60_18)

set_option maxHeartbeats 4000000 in
set_option maxRecDepth 100000 in
/-- append(String) -/
theorem j_appendS5 (l : Launch) (D : va_G) (cA : Nat → ClassId) (sa : Nat → Nat) (o0 : Nat) (o1 : Nat) (ct : Nat) (cp : Nat) (mb : Int32) (fy : Nat → Int32) (k : Nat) (bs : List Int32) (sz : Nat) (hq : (k, bs) ∈ sbL) (hct : ct ≤ cp) (hcp : cp ≤ 126) (hfit : sb_Fit fy) (hc1 : ct + bs.length ≤ 62) : Met l yJ5_append_cf1ce wsJ5_append_cf1ce ({ frames := 4, cells := 1, slots := 260, locals := 105 }) (va_Pc [.ref o0, .ref (sa k)] (Wd D cA sa [(oJ4 o0 o1 0 mb (nI ct)), (o1, .inl (cA 3, cp, .inl fy))] sz)) (va_Qr (fun _ : Unit => True) (fun (_ : Unit) (a9 : Nat) t => a9 = o0 ∧ ∃ z1 : Nat, ∃ cp2 : Nat, ∃ zy : Nat → Int32, ct + bs.length ≤ cp2 ∧ cp2 ≤ 126 ∧ sb_Fit zy ∧ Wq D (va_A [(oJ4 o0 o1 0 mb (nI ct)), (o1, .inl (cA 3, cp, .inl fy))] sz) [(oJ4 o0 z1 0 mb (nI (ct + bs.length))), (z1, .inl (cA 3, cp2, .inl zy))] t) (va_A [(oJ4 o0 o1 0 mb (nI ct)), (o1, .inl (cA 3, cp, .inl fy))] sz)) 1 260 (va_A [(oJ4 o0 o1 0 mb (nI ct)), (o1, .inl (cA 3, cp, .inl fy))] sz) := by
  refine Met.ofW (cc := cJ5_append_cf1ce) (maxL := 3) (ret := (some (.object "java/lang/AbstractStringBuilder"))) (by decide) rfl ?_
  intro p e s m args below meth c s₁ B hml hv
  obtain ⟨rfl, hsz, hP, hK, hD0, hC, hZ⟩ := hv
  have hx := B.exec
  have hb := B.bytes
  have hr := B.returns
  have hts := atoms_spec (ws := wsJ5_append_cf1ce) B.pre
  have hown : s.vm.findClass RJ5 = some m.cls := findClass_of_methodNamed B.named
  have hlocks := B.notSynchronized
  subst hsz
  have hD := hD0.self (sz := s.heap.size)
  generalize hAe : va_A [(oJ4 o0 o1 0 mb (nI ct)), (o1, .inl (cA 3, cp, .inl fy))] s.heap.size = A at hD hZ ⊢
  have hA : ∀ q : Nat, s.heap.size ≤ q → A q := fun q h => by rw [← hAe]; exact Or.inr h
  have hS : va_S A s.heap s.heap [] := va_S.rf
  have hP : va_P D vwCl [(oJ4 o0 o1 0 mb (nI ct)), (o1, .inl (cA 3, cp, .inl fy))] s.heap := hP
  have hl := lv_entry ([.ref o0, .ref (sa k)]) (n := 3) (Nat.le_of_ble_eq_true rfl)
  rw [lg_entry_eq]
  generalize (lg_sl ([.ref o0, .ref (sa k)]) ++ List.replicate (3 - (lg_sl ([.ref o0, .ref (sa k)])).length) Slot.unset).toArray = ls at hl ⊢
  have hl : lv_has ls 3 [(0, .ref o0), (1, .ref (sa k))] := hl
  have inJ4 : ∀ w ∈ u_ws RJ4 TJ4 4, w ∈ wsJ5_append_cf1ce := by decide +kernel
  have hso := hZ.2.2.2.2 (k, bs) hq
  have hsC : va_OF "java/lang/String" "coder" "B" (.int 0) (sa k) A s s.heap := hso.2.1
  have hsV : va_OF "java/lang/String" "value" "[B" (.ref (sa (1000 + k))) (sa k) A s s.heap := hso.2.2.1
  have hsT : va_T .byte (sa (1000 + k)) bs.length (fun j => .int (bs.getD j 0)) A s s.heap := hso.2.2.2
  refine lv_aload_n hx hb dJ5_append_cf1ce_0 rfl (lv_at hl 1 rfl) ?_
  refine lv_ifnonnull (tgt := 9) hx hb dJ5_append_cf1ce_1 (by decide) ?_
  refine lv_aload_n hx hb dJ5_append_cf1ce_9 rfl (lv_at hl 1 rfl) ?_
  obtain ⟨hPc, hDc, hFc⟩ := PDq.cut (wc := []) hP hD hS hA [] (by decide) rfl
  refine va_calli (va_runV (As := []) (rest := []) ⟨hx, hb, hml, hown, hts⟩ (c_slength l D cA sa k bs s.heap.size hq) (cwV 0 hts gJ5_append_cf1ce_J0_length_8abf5 rfl rfl rfl (by decide +kernel) ⟨(Nat.le_of_ble_eq_true rfl), (Nat.le_of_ble_eq_true rfl)⟩) ⟨Wd.blind, SO.recv hso hS, fun U hU hW => ⟨rfl, Wd.call hPc hDc hK hC hZ hS hFc U hU hW⟩⟩ rfl rfl hl.1 rfl (lv_room (Nat.le_of_ble_eq_true rfl)) dJ5_append_cf1ce_10 ⟨(Nat.le_of_ble_eq_true rfl), (Nat.le_of_ble_eq_true rfl)⟩) hS (fun q _ h => hFc q h) hFc (fun rn1 u t H1 locs ht hvm hw hB hz1 hk1 hS => ?_)
  obtain ⟨hP1, hD1⟩ := hB
  rw [ht] at hP1
  obtain ⟨hP, hD⟩ := PDq.join (w := [(oJ4 o0 o1 0 mb (nI ct)), (o1, .inl (cA 3, cp, .inl fy))]) 2 hP hD [] [0, 1] rfl rfl (by decide) (by decide) hk1 hFc hP1 hD1 rfl
  generalize H1 = H at hP hS ⊢
  obtain rfl : rn1 = (nI bs.length) := hw
  refine lv_istore_n (lv' := [(2, .int (nI bs.length)), (0, .ref o0), (1, .ref (sa k))]) hx hb dJ5_append_cf1ce_13 rfl hl (by decide) rfl (fun ls hl => ?_)
  refine lv_aload_n hx hb dJ5_append_cf1ce_14 rfl (lv_at hl 1 rfl) ?_
  refine lv_aload_n hx hb dJ5_append_cf1ce_15 rfl (lv_at hl 1 rfl) ?_
  refine va_get (D := D) (ci := 1) (v := .int (nI ct)) (C := RJ4) (T := TJ4) (N := 4) hx hb hts inJ4 hown hK hP 0 rfl rfl 3 (by decide) (hts (.fieldLink RJ5 79 "java/lang/AbstractStringBuilder" "count" "I") (by decide +kernel)) (fun _ h9 => h9) rfl dJ5_append_cf1ce_16 ?_
  refine lv_iload_n hx hb dJ5_append_cf1ce_19 rfl (lv_at hl 0 rfl) ?_
  refine lv_iadd hx hb dJ5_append_cf1ce_20 ?_
  refine lv_topi (fun yn2 eyn2 => ?_)
  obtain rfl : yn2 = (nI (ct + bs.length)) := eyn2.trans (nI_add ct bs.length)
  obtain ⟨hPc, hDc, hFc⟩ := PDq.cut (wc := [(oJ4 o0 o1 0 mb (nI ct)), (o1, .inl (cA 3, cp, .inl fy))]) hP hD hS hA [0, 1] (by decide) rfl
  refine va_callv (va_runU (As := [.int (nI (ct + bs.length))]) (rest := []) ⟨hx, hb, hml, hown, hts⟩ (j_ensure l D cA sa o0 o1 ct cp mb fy (ct + bs.length) H.size hct hcp hfit (by omega)) (va_cwU 1 hts gJ5_append_cf1ce_J5_ensureCapacityInternal_d00df_u100J4 rfl rfl rfl rfl (by decide +kernel) ⟨(Nat.le_of_ble_eq_true rfl), (Nat.le_of_ble_eq_true rfl)⟩) ⟨Wd.blind, va_recv hK hPc (ci := 1) (q0 := 0) rfl rfl, fun U hU hW => ⟨rfl, Wd.call hPc hDc hK hC hZ hS hFc U hU hW⟩⟩ rfl rfl hl.1 rfl (lv_room (Nat.le_of_ble_eq_true rfl)) dJ5_append_cf1ce_21 ⟨(Nat.le_of_ble_eq_true rfl), (Nat.le_of_ble_eq_true rfl)⟩) hS (fun q _ h => hFc q h) hFc (fun u t H1 locs ht hvm hw hB hz1 hk1 hS => ?_)
  obtain ⟨qn3, qn4, fn5, hn6, hn7, hn8, hn9, hP1, hD1⟩ := hB
  rw [ht] at hP1
  obtain ⟨hP, hD⟩ := PDq.join (w := [(oJ4 o0 qn3 0 mb (nI ct)), (qn3, .inl (cA 3, qn4, .inl fn5))]) 0 hP hD [0, 1] [] rfl rfl (by decide) (by decide) hk1 hFc hP1 hD1 rfl
  generalize H1 = H at hP hS ⊢
  refine lv_aload_n hx hb dJ5_append_cf1ce_24 rfl (lv_at hl 1 rfl) ?_
  refine lv_aload_n hx hb dJ5_append_cf1ce_25 rfl (lv_at hl 1 rfl) ?_
  refine va_get (D := D) (ci := 1) (v := .int (nI ct)) (C := RJ4) (T := TJ4) (N := 4) hx hb hts inJ4 hown hK hP 0 rfl rfl 3 (by decide) (hts (.fieldLink RJ5 79 "java/lang/AbstractStringBuilder" "count" "I") (by decide +kernel)) (fun _ h9 => h9) rfl dJ5_append_cf1ce_26 ?_
  refine lv_aload_n hx hb dJ5_append_cf1ce_29 rfl (lv_at hl 2 rfl) ?_
  obtain ⟨hPc, hDc, hFc⟩ := PDq.cut (wc := [(oJ4 o0 qn3 0 mb (nI ct)), (qn3, .inl (cA 3, qn4, .inl fn5))]) hP hD hS hA [0, 1] (by decide) rfl
  refine va_callv (va_runU (As := [.int (nI ct), .ref (sa k)]) (rest := []) ⟨hx, hb, hml, hown, hts⟩ (j_putStringAt l D cA sa o0 qn3 ct qn4 mb fn5 k bs ct H.size hq hn8 hn9 (by omega)) (va_cwU 2 hts gJ5_append_cf1ce_J5_putStringAt_47b60_u208J4 rfl rfl rfl rfl (by decide +kernel) ⟨(Nat.le_of_ble_eq_true rfl), (Nat.le_of_ble_eq_true rfl)⟩) ⟨Wd.blind, va_recv hK hPc (ci := 1) (q0 := 0) rfl rfl, fun U hU hW => ⟨rfl, Wd.call hPc hDc hK hC hZ hS hFc U hU hW⟩⟩ rfl rfl hl.1 rfl (lv_room (Nat.le_of_ble_eq_true rfl)) dJ5_append_cf1ce_30 ⟨(Nat.le_of_ble_eq_true rfl), (Nat.le_of_ble_eq_true rfl)⟩) hS (fun q _ h => hFc q h) hFc (fun u t H1 locs ht hvm hw hB hz1 hk1 hS => ?_)
  obtain ⟨fn10, hn11, hP1, hD1⟩ := hB
  rw [ht] at hP1
  obtain ⟨hP, hD⟩ := PDq.join (w := [(oJ4 o0 qn3 0 mb (nI ct)), (qn3, .inl (cA 3, qn4, .inl fn10))]) 0 hP hD [0, 1] [] rfl rfl (by decide) (by decide) hk1 hFc hP1 hD1 rfl
  generalize H1 = H at hP hS ⊢
  refine lv_aload_n hx hb dJ5_append_cf1ce_33 rfl (lv_at hl 1 rfl) ?_
  refine lv_dup hx hb dJ5_append_cf1ce_34 rfl ?_
  refine va_get (D := D) (ci := 1) (v := .int (nI ct)) (C := RJ4) (T := TJ4) (N := 4) hx hb hts inJ4 hown hK hP 0 rfl rfl 3 (by decide) (hts (.fieldLink RJ5 79 "java/lang/AbstractStringBuilder" "count" "I") (by decide +kernel)) (fun _ h9 => h9) rfl dJ5_append_cf1ce_35 ?_
  refine lv_iload_n hx hb dJ5_append_cf1ce_38 rfl (lv_at hl 0 rfl) ?_
  refine lv_iadd hx hb dJ5_append_cf1ce_39 ?_
  refine lv_topi (fun yn12 eyn12 => ?_)
  obtain rfl : yn12 = (nI (ct + bs.length)) := eyn12.trans (nI_add ct bs.length)
  refine va_put (D := D) (ci := 1) (v := .int (nI (ct + bs.length))) (ty := .int) (C := RJ4) (T := TJ4) (N := 4) hx hb hts inJ4 tyJ4 tyJ4_ok nmJ4 hown hK hP hD hS 0 rfl rfl 3 (by decide) (hts (.fieldLink RJ5 79 "java/lang/AbstractStringBuilder" "count" "I") (by decide +kernel)) (fun _ h9 => h9) rfl (by decide +kernel) rfl rfl (Nat.le_of_ble_eq_true rfl) dJ5_append_cf1ce_40 (fun H locs hP hD hS => ?_)
  obtain ⟨hP, hD⟩ : PDq D A [(oJ4 o0 qn3 0 mb (nI (ct + bs.length))), (qn3, .inl (cA 3, qn4, .inl fn10))] H := ⟨hP, hD⟩
  refine lv_aload_n hx hb dJ5_append_cf1ce_43 rfl (lv_at hl 1 rfl) ?_
  obtain ⟨hP9, hD9⟩ := PDq.sub (ws' := [(oJ4 o0 qn3 0 mb (nI (ct + bs.length))), (qn3, .inl (cA 3, qn4, .inl fn10))]) hP hD [0, 1] (by decide) rfl
  refine W.widen (k := 1) (n := 260) (Nat.le_of_ble_eq_true rfl) (Nat.le_of_ble_eq_true rfl) ?_
  exact (W.aret (v := .ref o0) hx hb hr (Or.inl ⟨_, rfl⟩) (Or.inr ⟨_, rfl⟩) (fun t ht hW => ⟨⟨(), o0, rfl, trivial, rfl, qn3, qn4, fn10, (by omega), hn8, hn11, by rw [ht]; exact hP9, hD9⟩, hS.F ht⟩) hS.2.2 dJ5_append_cf1ce_44)

set_option maxHeartbeats 4000000 in
set_option maxRecDepth 100000 in
/-- append(String) -/
theorem j_appendS (l : Launch) (D : va_G) (cA : Nat → ClassId) (sa : Nat → Nat) (o0 : Nat) (o1 : Nat) (ct : Nat) (cp : Nat) (mb : Int32) (fy : Nat → Int32) (k : Nat) (bs : List Int32) (bl : Nat) (sz : Nat) (hq : (k, bs) ∈ sbL) (hct : ct ≤ cp) (hcp : cp ≤ 126) (hfit : sb_Fit fy) (hbl : bs.length = bl) (hc1 : ct + bl ≤ 62) : Met l yJ4_append_15ec4 wsJ4_append_15ec4 ({ frames := 5, cells := 1, slots := 260, locals := 127 }) (va_Pc [.ref o0, .ref (sa k)] (Wd D cA sa [(oJ4 o0 o1 0 mb (nI ct)), (o1, .inl (cA 3, cp, .inl fy))] sz)) (va_Qr (fun _ : Unit => True) (fun (_ : Unit) (a9 : Nat) t => a9 = o0 ∧ ∃ z1 : Nat, ∃ cp2 : Nat, ∃ zy : Nat → Int32, ∃ ct2 : Nat, ct2 = ct + bl ∧ ct2 ≤ cp2 ∧ cp2 ≤ 126 ∧ sb_Fit zy ∧ Wq D (va_A [(oJ4 o0 o1 0 mb (nI ct)), (o1, .inl (cA 3, cp, .inl fy))] sz) [(oJ4 o0 z1 0 mb (nI ct2)), (z1, .inl (cA 3, cp2, .inl zy))] t) (va_A [(oJ4 o0 o1 0 mb (nI ct)), (o1, .inl (cA 3, cp, .inl fy))] sz)) 1 260 (va_A [(oJ4 o0 o1 0 mb (nI ct)), (o1, .inl (cA 3, cp, .inl fy))] sz) := by
  refine Met.ofW (cc := cJ4_append_15ec4) (maxL := 2) (ret := (some (.object "java/lang/StringBuilder"))) (by decide) rfl ?_
  intro p e s m args below meth c s₁ B hml hv
  obtain ⟨rfl, hsz, hP, hK, hD0, hC, hZ⟩ := hv
  have hx := B.exec
  have hb := B.bytes
  have hr := B.returns
  have hts := atoms_spec (ws := wsJ4_append_15ec4) B.pre
  have hown : s.vm.findClass RJ4 = some m.cls := findClass_of_methodNamed B.named
  have hlocks := B.notSynchronized
  subst hsz
  have hD := hD0.self (sz := s.heap.size)
  generalize hAe : va_A [(oJ4 o0 o1 0 mb (nI ct)), (o1, .inl (cA 3, cp, .inl fy))] s.heap.size = A at hD hZ ⊢
  have hA : ∀ q : Nat, s.heap.size ≤ q → A q := fun q h => by rw [← hAe]; exact Or.inr h
  have hS : va_S A s.heap s.heap [] := va_S.rf
  have hP : va_P D vwCl [(oJ4 o0 o1 0 mb (nI ct)), (o1, .inl (cA 3, cp, .inl fy))] s.heap := hP
  have hl := lv_entry ([.ref o0, .ref (sa k)]) (n := 2) (Nat.le_of_ble_eq_true rfl)
  rw [lg_entry_eq]
  generalize (lg_sl ([.ref o0, .ref (sa k)]) ++ List.replicate (2 - (lg_sl ([.ref o0, .ref (sa k)])).length) Slot.unset).toArray = ls at hl ⊢
  have hl : lv_has ls 2 [(0, .ref o0), (1, .ref (sa k))] := hl
  have hso := hZ.2.2.2.2 (k, bs) hq
  have hsC : va_OF "java/lang/String" "coder" "B" (.int 0) (sa k) A s s.heap := hso.2.1
  have hsV : va_OF "java/lang/String" "value" "[B" (.ref (sa (1000 + k))) (sa k) A s s.heap := hso.2.2.1
  have hsT : va_T .byte (sa (1000 + k)) bs.length (fun j => .int (bs.getD j 0)) A s s.heap := hso.2.2.2
  refine lv_aload_n hx hb dJ4_append_15ec4_0 rfl (lv_at hl 0 rfl) ?_
  refine lv_aload_n hx hb dJ4_append_15ec4_1 rfl (lv_at hl 1 rfl) ?_
  obtain ⟨hPc, hDc, hFc⟩ := PDq.cut (wc := [(oJ4 o0 o1 0 mb (nI ct)), (o1, .inl (cA 3, cp, .inl fy))]) hP hD hS hA [0, 1] (by decide) rfl
  refine va_callr (va_runSU (As := [.ref (sa k)]) (rest := []) (hK.1 1 _ rfl).2 ⟨hx, hb, hml, hown, hts⟩ (j_appendS5 l D cA sa o0 o1 ct cp mb fy k bs s.heap.size hq hct hcp hfit (by omega)) (va_cwSU 1 hts gJ4_append_15ec4_J5_append_cf1ce_s29 rfl rfl rfl (by decide +kernel) ⟨(Nat.le_of_ble_eq_true rfl), (Nat.le_of_ble_eq_true rfl)⟩) ⟨Wd.blind, va_recv hK hPc (ci := 1) (q0 := 0) rfl rfl, fun U hU hW => ⟨rfl, Wd.call hPc hDc hK hC hZ hS hFc U hU hW⟩⟩ rfl rfl hl.1 rfl (lv_room (Nat.le_of_ble_eq_true rfl)) dJ4_append_15ec4_2 ⟨(Nat.le_of_ble_eq_true rfl), (Nat.le_of_ble_eq_true rfl)⟩) hS (fun q _ h => hFc q h) hFc (fun u ra t H1 locs ht hvm hw hB hz1 hk1 hS => ?_)
  obtain ⟨hra, qn1, qn2, fn3, hn4, hn5, hn6, hP1, hD1⟩ := hB
  obtain rfl := hra.symm
  rw [ht] at hP1
  obtain ⟨hP, hD⟩ := PDq.join (w := [(oJ4 o0 qn1 0 mb (nI (ct + bs.length))), (qn1, .inl (cA 3, qn2, .inl fn3))]) 0 hP hD [0, 1] [] rfl rfl (by decide) (by decide) hk1 hFc hP1 hD1 rfl
  generalize H1 = H at hP hS ⊢
  refine lv_pop hx hb dJ4_append_15ec4_5 rfl ?_
  refine lv_aload_n hx hb dJ4_append_15ec4_6 rfl (lv_at hl 0 rfl) ?_
  obtain ⟨hP9, hD9⟩ := PDq.sub (ws' := [(oJ4 o0 qn1 0 mb (nI (ct + bs.length))), (qn1, .inl (cA 3, qn2, .inl fn3))]) hP hD [0, 1] (by decide) rfl
  refine W.widen (k := 1) (n := 260) (Nat.le_of_ble_eq_true rfl) (Nat.le_of_ble_eq_true rfl) ?_
  exact (W.aret (v := .ref o0) hx hb hr (Or.inl ⟨_, rfl⟩) (Or.inr ⟨_, rfl⟩) (fun t ht hW => ⟨⟨(), o0, rfl, trivial, rfl, qn1, qn2, fn3, (ct + bs.length), (by omega), (by omega), hn5, hn6, by rw [ht]; exact hP9, hD9⟩, hS.F ht⟩) hS.2.2 dJ4_append_15ec4_7)

set_option maxHeartbeats 4000000 in
set_option maxRecDepth 100000 in
/-- stringSize -/
theorem j_stringSize (l : Launch) (D : va_G) (cA : Nat → ClassId) (sa : Nat → Nat) (a : Int32) (sz : Nat) : Met l yJ6_stringSize_0f7a4 wsJ6_stringSize_0f7a4 ({ frames := 0, cells := 0, slots := 0, locals := 0 }) (va_Pc [.int a] (Wd D cA sa [] sz)) (va_Qi (fun (r : Int32) (_ : Unit) => ∃ n, n ≤ 11 ∧ r = nI n ∧ SZ a n) (fun (_ : Unit) t => Wq D (va_A [] sz) [] t) (va_A [] sz)) 0 0 (va_A [] sz) := by
  refine Met.ofW (cc := cJ6_stringSize_0f7a4) (maxL := 4) (ret := (some .int)) (by decide) rfl ?_
  intro p e s m args below meth c s₁ B hml hv
  obtain ⟨rfl, hsz, hP, hK, hD0, hC, hZ⟩ := hv
  have hx := B.exec
  have hb := B.bytes
  have hr := B.returns
  have hts := atoms_spec (ws := wsJ6_stringSize_0f7a4) B.pre
  have hown : s.vm.findClass RJ6 = some m.cls := findClass_of_methodNamed B.named
  have hlocks := B.notSynchronized
  subst hsz
  have hD := hD0.self (sz := s.heap.size)
  generalize hAe : va_A [] s.heap.size = A at hD hZ ⊢
  have hA : ∀ q : Nat, s.heap.size ≤ q → A q := fun q h => by rw [← hAe]; exact Or.inr h
  have hS : va_S A s.heap s.heap [] := va_S.rf
  have hP : va_P D vwCl [] s.heap := hP
  have hl := lv_entry ([.int a]) (n := 4) (Nat.le_of_ble_eq_true rfl)
  rw [lg_entry_eq]
  generalize (lg_sl ([.int a]) ++ List.replicate (4 - (lg_sl ([.int a])).length) Slot.unset).toArray = ls at hl ⊢
  have hl : lv_has ls 4 [(0, .int a)] := hl
  refine lv_iconst (v := 1) hx hb dJ6_stringSize_0f7a4_0 (by decide) ?_
  refine lv_istore_n (lv' := [(1, .int 1), (0, .int a)]) hx hb dJ6_stringSize_0f7a4_1 rfl hl (by decide) rfl (fun ls hl => ?_)
  refine lv_iload_n hx hb dJ6_stringSize_0f7a4_2 rfl (lv_at hl 1 rfl) ?_
  refine lv_if_lt (tgt := 11) hx hb dJ6_stringSize_0f7a4_3 (by decide) (fun c1 => ?_) (fun c1 => ?_)
  · skip
    obtain ⟨w9, hw9, ew9⟩ := ng_of (Int32.le_of_lt c1)
    refine lv_bipush (v := (-10)) hx hb dJ6_stringSize_0f7a4_11 (by decide) ?_
    refine lv_istore_n (lv' := [(2, .int (-10)), (1, .int 1), (0, .int a)]) hx hb dJ6_stringSize_0f7a4_13 rfl hl (by decide) rfl (fun ls hl => ?_)
    refine lv_iconst (v := 1) hx hb dJ6_stringSize_0f7a4_14 (by decide) ?_
    refine lv_istore_n (lv' := [(3, .int 1), (2, .int (-10)), (1, .int 1), (0, .int a)]) hx hb dJ6_stringSize_0f7a4_15 rfl hl (by decide) rfl (fun ls hl => ?_)
    refine lv_iload_n hx hb dJ6_stringSize_0f7a4_16 rfl (lv_at hl 0 rfl) ?_
    refine lv_bipush (v := 10) hx hb dJ6_stringSize_0f7a4_17 (by decide) ?_
    refine lv_icmp_ge (tgt := 42) hx hb dJ6_stringSize_0f7a4_19 (by decide) (fun c9 => absurd c9 (by decide)) (fun c2 => ?_)
    refine lv_iload_n hx hb dJ6_stringSize_0f7a4_22 rfl (lv_at hl 3 rfl) ?_
    refine lv_iload_n hx hb dJ6_stringSize_0f7a4_23 rfl (lv_at hl 1 rfl) ?_
    refine lv_icmp_le (tgt := 31) hx hb dJ6_stringSize_0f7a4_24 (by decide) (fun c3 => ?_) (fun c3 => ?_)
    · skip
      refine lv_bipush (v := 10) hx hb dJ6_stringSize_0f7a4_31 (by decide) ?_
      refine lv_iload_n hx hb dJ6_stringSize_0f7a4_33 rfl (lv_at hl 1 rfl) ?_
      refine lv_imul hx hb dJ6_stringSize_0f7a4_34 ?_
      refine lv_topi (fun yn4 eyn4 => ?_)
      obtain rfl : yn4 = (-100) := eyn4.trans (by first | rfl | decide +kernel)
      refine lv_istore_n (lv' := [(2, .int (-100)), (3, .int 1), (1, .int 1), (0, .int a)]) hx hb dJ6_stringSize_0f7a4_35 rfl hl (by decide) rfl (fun ls hl => ?_)
      refine lv_iinc (v := 2) (lv' := [(3, .int 2), (2, .int (-100)), (1, .int 1), (0, .int a)]) hx hb dJ6_stringSize_0f7a4_36 hl (k := 1) rfl (by first | rfl | decide +kernel) (by decide) rfl (fun ls hl => ?_)
      refine lv_goto (tgt := 16) hx hb dJ6_stringSize_0f7a4_39 (by decide) ?_
      refine lv_iload_n hx hb dJ6_stringSize_0f7a4_16 rfl (lv_at hl 0 rfl) ?_
      refine lv_bipush (v := 10) hx hb dJ6_stringSize_0f7a4_17 (by decide) ?_
      refine lv_icmp_ge (tgt := 42) hx hb dJ6_stringSize_0f7a4_19 (by decide) (fun c9 => absurd c9 (by decide)) (fun c5 => ?_)
      refine lv_iload_n hx hb dJ6_stringSize_0f7a4_22 rfl (lv_at hl 3 rfl) ?_
      refine lv_iload_n hx hb dJ6_stringSize_0f7a4_23 rfl (lv_at hl 1 rfl) ?_
      refine lv_icmp_le (tgt := 31) hx hb dJ6_stringSize_0f7a4_24 (by decide) (fun c6 => ?_) (fun c6 => ?_)
      · skip
        refine lv_bipush (v := 10) hx hb dJ6_stringSize_0f7a4_31 (by decide) ?_
        refine lv_iload_n hx hb dJ6_stringSize_0f7a4_33 rfl (lv_at hl 1 rfl) ?_
        refine lv_imul hx hb dJ6_stringSize_0f7a4_34 ?_
        refine lv_topi (fun yn7 eyn7 => ?_)
        obtain rfl : yn7 = (-1000) := eyn7.trans (by first | rfl | decide +kernel)
        refine lv_istore_n (lv' := [(2, .int (-1000)), (3, .int 2), (1, .int 1), (0, .int a)]) hx hb dJ6_stringSize_0f7a4_35 rfl hl (by decide) rfl (fun ls hl => ?_)
        refine lv_iinc (v := 3) (lv' := [(3, .int 3), (2, .int (-1000)), (1, .int 1), (0, .int a)]) hx hb dJ6_stringSize_0f7a4_36 hl (k := 1) rfl (by first | rfl | decide +kernel) (by decide) rfl (fun ls hl => ?_)
        refine lv_goto (tgt := 16) hx hb dJ6_stringSize_0f7a4_39 (by decide) ?_
        refine lv_iload_n hx hb dJ6_stringSize_0f7a4_16 rfl (lv_at hl 0 rfl) ?_
        refine lv_bipush (v := 10) hx hb dJ6_stringSize_0f7a4_17 (by decide) ?_
        refine lv_icmp_ge (tgt := 42) hx hb dJ6_stringSize_0f7a4_19 (by decide) (fun c9 => absurd c9 (by decide)) (fun c8 => ?_)
        refine lv_iload_n hx hb dJ6_stringSize_0f7a4_22 rfl (lv_at hl 3 rfl) ?_
        refine lv_iload_n hx hb dJ6_stringSize_0f7a4_23 rfl (lv_at hl 1 rfl) ?_
        refine lv_icmp_le (tgt := 31) hx hb dJ6_stringSize_0f7a4_24 (by decide) (fun c9 => ?_) (fun c9 => ?_)
        · skip
          refine lv_bipush (v := 10) hx hb dJ6_stringSize_0f7a4_31 (by decide) ?_
          refine lv_iload_n hx hb dJ6_stringSize_0f7a4_33 rfl (lv_at hl 1 rfl) ?_
          refine lv_imul hx hb dJ6_stringSize_0f7a4_34 ?_
          refine lv_topi (fun yn10 eyn10 => ?_)
          obtain rfl : yn10 = (-10000) := eyn10.trans (by first | rfl | decide +kernel)
          refine lv_istore_n (lv' := [(2, .int (-10000)), (3, .int 3), (1, .int 1), (0, .int a)]) hx hb dJ6_stringSize_0f7a4_35 rfl hl (by decide) rfl (fun ls hl => ?_)
          refine lv_iinc (v := 4) (lv' := [(3, .int 4), (2, .int (-10000)), (1, .int 1), (0, .int a)]) hx hb dJ6_stringSize_0f7a4_36 hl (k := 1) rfl (by first | rfl | decide +kernel) (by decide) rfl (fun ls hl => ?_)
          refine lv_goto (tgt := 16) hx hb dJ6_stringSize_0f7a4_39 (by decide) ?_
          refine lv_iload_n hx hb dJ6_stringSize_0f7a4_16 rfl (lv_at hl 0 rfl) ?_
          refine lv_bipush (v := 10) hx hb dJ6_stringSize_0f7a4_17 (by decide) ?_
          refine lv_icmp_ge (tgt := 42) hx hb dJ6_stringSize_0f7a4_19 (by decide) (fun c9 => absurd c9 (by decide)) (fun c11 => ?_)
          refine lv_iload_n hx hb dJ6_stringSize_0f7a4_22 rfl (lv_at hl 3 rfl) ?_
          refine lv_iload_n hx hb dJ6_stringSize_0f7a4_23 rfl (lv_at hl 1 rfl) ?_
          refine lv_icmp_le (tgt := 31) hx hb dJ6_stringSize_0f7a4_24 (by decide) (fun c12 => ?_) (fun c12 => ?_)
          · skip
            refine lv_bipush (v := 10) hx hb dJ6_stringSize_0f7a4_31 (by decide) ?_
            refine lv_iload_n hx hb dJ6_stringSize_0f7a4_33 rfl (lv_at hl 1 rfl) ?_
            refine lv_imul hx hb dJ6_stringSize_0f7a4_34 ?_
            refine lv_topi (fun yn13 eyn13 => ?_)
            obtain rfl : yn13 = (-100000) := eyn13.trans (by first | rfl | decide +kernel)
            refine lv_istore_n (lv' := [(2, .int (-100000)), (3, .int 4), (1, .int 1), (0, .int a)]) hx hb dJ6_stringSize_0f7a4_35 rfl hl (by decide) rfl (fun ls hl => ?_)
            refine lv_iinc (v := 5) (lv' := [(3, .int 5), (2, .int (-100000)), (1, .int 1), (0, .int a)]) hx hb dJ6_stringSize_0f7a4_36 hl (k := 1) rfl (by first | rfl | decide +kernel) (by decide) rfl (fun ls hl => ?_)
            refine lv_goto (tgt := 16) hx hb dJ6_stringSize_0f7a4_39 (by decide) ?_
            refine lv_iload_n hx hb dJ6_stringSize_0f7a4_16 rfl (lv_at hl 0 rfl) ?_
            refine lv_bipush (v := 10) hx hb dJ6_stringSize_0f7a4_17 (by decide) ?_
            refine lv_icmp_ge (tgt := 42) hx hb dJ6_stringSize_0f7a4_19 (by decide) (fun c9 => absurd c9 (by decide)) (fun c14 => ?_)
            refine lv_iload_n hx hb dJ6_stringSize_0f7a4_22 rfl (lv_at hl 3 rfl) ?_
            refine lv_iload_n hx hb dJ6_stringSize_0f7a4_23 rfl (lv_at hl 1 rfl) ?_
            refine lv_icmp_le (tgt := 31) hx hb dJ6_stringSize_0f7a4_24 (by decide) (fun c15 => ?_) (fun c15 => ?_)
            · skip
              refine lv_bipush (v := 10) hx hb dJ6_stringSize_0f7a4_31 (by decide) ?_
              refine lv_iload_n hx hb dJ6_stringSize_0f7a4_33 rfl (lv_at hl 1 rfl) ?_
              refine lv_imul hx hb dJ6_stringSize_0f7a4_34 ?_
              refine lv_topi (fun yn16 eyn16 => ?_)
              obtain rfl : yn16 = (-1000000) := eyn16.trans (by first | rfl | decide +kernel)
              refine lv_istore_n (lv' := [(2, .int (-1000000)), (3, .int 5), (1, .int 1), (0, .int a)]) hx hb dJ6_stringSize_0f7a4_35 rfl hl (by decide) rfl (fun ls hl => ?_)
              refine lv_iinc (v := 6) (lv' := [(3, .int 6), (2, .int (-1000000)), (1, .int 1), (0, .int a)]) hx hb dJ6_stringSize_0f7a4_36 hl (k := 1) rfl (by first | rfl | decide +kernel) (by decide) rfl (fun ls hl => ?_)
              refine lv_goto (tgt := 16) hx hb dJ6_stringSize_0f7a4_39 (by decide) ?_
              refine lv_iload_n hx hb dJ6_stringSize_0f7a4_16 rfl (lv_at hl 0 rfl) ?_
              refine lv_bipush (v := 10) hx hb dJ6_stringSize_0f7a4_17 (by decide) ?_
              refine lv_icmp_ge (tgt := 42) hx hb dJ6_stringSize_0f7a4_19 (by decide) (fun c9 => absurd c9 (by decide)) (fun c17 => ?_)
              refine lv_iload_n hx hb dJ6_stringSize_0f7a4_22 rfl (lv_at hl 3 rfl) ?_
              refine lv_iload_n hx hb dJ6_stringSize_0f7a4_23 rfl (lv_at hl 1 rfl) ?_
              refine lv_icmp_le (tgt := 31) hx hb dJ6_stringSize_0f7a4_24 (by decide) (fun c18 => ?_) (fun c18 => ?_)
              · skip
                refine lv_bipush (v := 10) hx hb dJ6_stringSize_0f7a4_31 (by decide) ?_
                refine lv_iload_n hx hb dJ6_stringSize_0f7a4_33 rfl (lv_at hl 1 rfl) ?_
                refine lv_imul hx hb dJ6_stringSize_0f7a4_34 ?_
                refine lv_topi (fun yn19 eyn19 => ?_)
                obtain rfl : yn19 = (-10000000) := eyn19.trans (by first | rfl | decide +kernel)
                refine lv_istore_n (lv' := [(2, .int (-10000000)), (3, .int 6), (1, .int 1), (0, .int a)]) hx hb dJ6_stringSize_0f7a4_35 rfl hl (by decide) rfl (fun ls hl => ?_)
                refine lv_iinc (v := 7) (lv' := [(3, .int 7), (2, .int (-10000000)), (1, .int 1), (0, .int a)]) hx hb dJ6_stringSize_0f7a4_36 hl (k := 1) rfl (by first | rfl | decide +kernel) (by decide) rfl (fun ls hl => ?_)
                refine lv_goto (tgt := 16) hx hb dJ6_stringSize_0f7a4_39 (by decide) ?_
                refine lv_iload_n hx hb dJ6_stringSize_0f7a4_16 rfl (lv_at hl 0 rfl) ?_
                refine lv_bipush (v := 10) hx hb dJ6_stringSize_0f7a4_17 (by decide) ?_
                refine lv_icmp_ge (tgt := 42) hx hb dJ6_stringSize_0f7a4_19 (by decide) (fun c9 => absurd c9 (by decide)) (fun c20 => ?_)
                refine lv_iload_n hx hb dJ6_stringSize_0f7a4_22 rfl (lv_at hl 3 rfl) ?_
                refine lv_iload_n hx hb dJ6_stringSize_0f7a4_23 rfl (lv_at hl 1 rfl) ?_
                refine lv_icmp_le (tgt := 31) hx hb dJ6_stringSize_0f7a4_24 (by decide) (fun c21 => ?_) (fun c21 => ?_)
                · skip
                  refine lv_bipush (v := 10) hx hb dJ6_stringSize_0f7a4_31 (by decide) ?_
                  refine lv_iload_n hx hb dJ6_stringSize_0f7a4_33 rfl (lv_at hl 1 rfl) ?_
                  refine lv_imul hx hb dJ6_stringSize_0f7a4_34 ?_
                  refine lv_topi (fun yn22 eyn22 => ?_)
                  obtain rfl : yn22 = (-100000000) := eyn22.trans (by first | rfl | decide +kernel)
                  refine lv_istore_n (lv' := [(2, .int (-100000000)), (3, .int 7), (1, .int 1), (0, .int a)]) hx hb dJ6_stringSize_0f7a4_35 rfl hl (by decide) rfl (fun ls hl => ?_)
                  refine lv_iinc (v := 8) (lv' := [(3, .int 8), (2, .int (-100000000)), (1, .int 1), (0, .int a)]) hx hb dJ6_stringSize_0f7a4_36 hl (k := 1) rfl (by first | rfl | decide +kernel) (by decide) rfl (fun ls hl => ?_)
                  refine lv_goto (tgt := 16) hx hb dJ6_stringSize_0f7a4_39 (by decide) ?_
                  refine lv_iload_n hx hb dJ6_stringSize_0f7a4_16 rfl (lv_at hl 0 rfl) ?_
                  refine lv_bipush (v := 10) hx hb dJ6_stringSize_0f7a4_17 (by decide) ?_
                  refine lv_icmp_ge (tgt := 42) hx hb dJ6_stringSize_0f7a4_19 (by decide) (fun c9 => absurd c9 (by decide)) (fun c23 => ?_)
                  refine lv_iload_n hx hb dJ6_stringSize_0f7a4_22 rfl (lv_at hl 3 rfl) ?_
                  refine lv_iload_n hx hb dJ6_stringSize_0f7a4_23 rfl (lv_at hl 1 rfl) ?_
                  refine lv_icmp_le (tgt := 31) hx hb dJ6_stringSize_0f7a4_24 (by decide) (fun c24 => ?_) (fun c24 => ?_)
                  · skip
                    refine lv_bipush (v := 10) hx hb dJ6_stringSize_0f7a4_31 (by decide) ?_
                    refine lv_iload_n hx hb dJ6_stringSize_0f7a4_33 rfl (lv_at hl 1 rfl) ?_
                    refine lv_imul hx hb dJ6_stringSize_0f7a4_34 ?_
                    refine lv_topi (fun yn25 eyn25 => ?_)
                    obtain rfl : yn25 = (-1000000000) := eyn25.trans (by first | rfl | decide +kernel)
                    refine lv_istore_n (lv' := [(2, .int (-1000000000)), (3, .int 8), (1, .int 1), (0, .int a)]) hx hb dJ6_stringSize_0f7a4_35 rfl hl (by decide) rfl (fun ls hl => ?_)
                    refine lv_iinc (v := 9) (lv' := [(3, .int 9), (2, .int (-1000000000)), (1, .int 1), (0, .int a)]) hx hb dJ6_stringSize_0f7a4_36 hl (k := 1) rfl (by first | rfl | decide +kernel) (by decide) rfl (fun ls hl => ?_)
                    refine lv_goto (tgt := 16) hx hb dJ6_stringSize_0f7a4_39 (by decide) ?_
                    refine lv_iload_n hx hb dJ6_stringSize_0f7a4_16 rfl (lv_at hl 0 rfl) ?_
                    refine lv_bipush (v := 10) hx hb dJ6_stringSize_0f7a4_17 (by decide) ?_
                    refine lv_icmp_ge (tgt := 42) hx hb dJ6_stringSize_0f7a4_19 (by decide) (fun c9 => absurd c9 (by decide)) (fun c26 => ?_)
                    refine lv_iload_n hx hb dJ6_stringSize_0f7a4_22 rfl (lv_at hl 3 rfl) ?_
                    refine lv_iload_n hx hb dJ6_stringSize_0f7a4_23 rfl (lv_at hl 1 rfl) ?_
                    refine lv_icmp_le (tgt := 31) hx hb dJ6_stringSize_0f7a4_24 (by decide) (fun c27 => ?_) (fun c27 => ?_)
                    · skip
                      refine lv_bipush (v := 10) hx hb dJ6_stringSize_0f7a4_31 (by decide) ?_
                      refine lv_iload_n hx hb dJ6_stringSize_0f7a4_33 rfl (lv_at hl 1 rfl) ?_
                      refine lv_imul hx hb dJ6_stringSize_0f7a4_34 ?_
                      refine lv_topi (fun yn28 eyn28 => ?_)
                      obtain rfl : yn28 = (-1410065408) := eyn28.trans (by first | rfl | decide +kernel)
                      refine lv_istore_n (lv' := [(2, .int (-1410065408)), (3, .int 9), (1, .int 1), (0, .int a)]) hx hb dJ6_stringSize_0f7a4_35 rfl hl (by decide) rfl (fun ls hl => ?_)
                      refine lv_iinc (v := 10) (lv' := [(3, .int 10), (2, .int (-1410065408)), (1, .int 1), (0, .int a)]) hx hb dJ6_stringSize_0f7a4_36 hl (k := 1) rfl (by first | rfl | decide +kernel) (by decide) rfl (fun ls hl => ?_)
                      refine lv_goto (tgt := 16) hx hb dJ6_stringSize_0f7a4_39 (by decide) ?_
                      refine lv_iload_n hx hb dJ6_stringSize_0f7a4_16 rfl (lv_at hl 0 rfl) ?_
                      refine lv_bipush (v := 10) hx hb dJ6_stringSize_0f7a4_17 (by decide) ?_
                      refine lv_icmp_ge (tgt := 42) hx hb dJ6_stringSize_0f7a4_19 (by decide) (fun c29 => ?_) (fun c9 => absurd c9 (by decide))
                      refine lv_bipush (v := 10) hx hb dJ6_stringSize_0f7a4_42 (by decide) ?_
                      refine lv_iload_n hx hb dJ6_stringSize_0f7a4_44 rfl (lv_at hl 2 rfl) ?_
                      refine lv_iadd hx hb dJ6_stringSize_0f7a4_45 ?_
                      refine lv_topi (fun yn30 eyn30 => ?_)
                      obtain rfl : yn30 = 11 := eyn30.trans (by first | rfl | decide +kernel)
                      obtain ⟨hP9, hD9⟩ := PDq.sub (ws' := []) hP hD [] (by decide) rfl
                      refine W.widen (k := 0) (n := 0) (Nat.le_of_ble_eq_true rfl) (Nat.le_of_ble_eq_true rfl) ?_
                      exact (W.iret (v := 11) hx hb hr (fun t ht hW => ⟨⟨11, (), rfl, ⟨11, by omega, rfl, w9, hw9, Or.inl ⟨c1, ew9, by rw [sz_end hw9 ew9 c27 (by decide)]⟩⟩, by rw [ht]; exact hP9, hD9⟩, hS.F ht⟩) hS.2.2 dJ6_stringSize_0f7a4_46)
                    · skip
                      refine lv_iload_n hx hb dJ6_stringSize_0f7a4_27 rfl (lv_at hl 0 rfl) ?_
                      refine lv_iload_n hx hb dJ6_stringSize_0f7a4_28 rfl (lv_at hl 2 rfl) ?_
                      refine lv_iadd hx hb dJ6_stringSize_0f7a4_29 ?_
                      refine lv_topi (fun yn31 eyn31 => ?_)
                      obtain rfl : yn31 = 10 := eyn31.trans (by first | rfl | decide +kernel)
                      obtain ⟨hP9, hD9⟩ := PDq.sub (ws' := []) hP hD [] (by decide) rfl
                      refine W.widen (k := 0) (n := 0) (Nat.le_of_ble_eq_true rfl) (Nat.le_of_ble_eq_true rfl) ?_
                      exact (W.iret (v := 10) hx hb hr (fun t ht hW => ⟨⟨10, (), rfl, ⟨10, by omega, rfl, w9, hw9, Or.inl ⟨c1, ew9, by rw [sz_mid hw9 ew9 (i := 9) (by decide) (by decide) (Or.inr ⟨c24, by decide⟩) c27 (by decide)]⟩⟩, by rw [ht]; exact hP9, hD9⟩, hS.F ht⟩) hS.2.2 dJ6_stringSize_0f7a4_30)
                  · skip
                    refine lv_iload_n hx hb dJ6_stringSize_0f7a4_27 rfl (lv_at hl 0 rfl) ?_
                    refine lv_iload_n hx hb dJ6_stringSize_0f7a4_28 rfl (lv_at hl 2 rfl) ?_
                    refine lv_iadd hx hb dJ6_stringSize_0f7a4_29 ?_
                    refine lv_topi (fun yn32 eyn32 => ?_)
                    obtain rfl : yn32 = 9 := eyn32.trans (by first | rfl | decide +kernel)
                    obtain ⟨hP9, hD9⟩ := PDq.sub (ws' := []) hP hD [] (by decide) rfl
                    refine W.widen (k := 0) (n := 0) (Nat.le_of_ble_eq_true rfl) (Nat.le_of_ble_eq_true rfl) ?_
                    exact (W.iret (v := 9) hx hb hr (fun t ht hW => ⟨⟨9, (), rfl, ⟨9, by omega, rfl, w9, hw9, Or.inl ⟨c1, ew9, by rw [sz_mid hw9 ew9 (i := 8) (by decide) (by decide) (Or.inr ⟨c21, by decide⟩) c24 (by decide)]⟩⟩, by rw [ht]; exact hP9, hD9⟩, hS.F ht⟩) hS.2.2 dJ6_stringSize_0f7a4_30)
                · skip
                  refine lv_iload_n hx hb dJ6_stringSize_0f7a4_27 rfl (lv_at hl 0 rfl) ?_
                  refine lv_iload_n hx hb dJ6_stringSize_0f7a4_28 rfl (lv_at hl 2 rfl) ?_
                  refine lv_iadd hx hb dJ6_stringSize_0f7a4_29 ?_
                  refine lv_topi (fun yn33 eyn33 => ?_)
                  obtain rfl : yn33 = 8 := eyn33.trans (by first | rfl | decide +kernel)
                  obtain ⟨hP9, hD9⟩ := PDq.sub (ws' := []) hP hD [] (by decide) rfl
                  refine W.widen (k := 0) (n := 0) (Nat.le_of_ble_eq_true rfl) (Nat.le_of_ble_eq_true rfl) ?_
                  exact (W.iret (v := 8) hx hb hr (fun t ht hW => ⟨⟨8, (), rfl, ⟨8, by omega, rfl, w9, hw9, Or.inl ⟨c1, ew9, by rw [sz_mid hw9 ew9 (i := 7) (by decide) (by decide) (Or.inr ⟨c18, by decide⟩) c21 (by decide)]⟩⟩, by rw [ht]; exact hP9, hD9⟩, hS.F ht⟩) hS.2.2 dJ6_stringSize_0f7a4_30)
              · skip
                refine lv_iload_n hx hb dJ6_stringSize_0f7a4_27 rfl (lv_at hl 0 rfl) ?_
                refine lv_iload_n hx hb dJ6_stringSize_0f7a4_28 rfl (lv_at hl 2 rfl) ?_
                refine lv_iadd hx hb dJ6_stringSize_0f7a4_29 ?_
                refine lv_topi (fun yn34 eyn34 => ?_)
                obtain rfl : yn34 = 7 := eyn34.trans (by first | rfl | decide +kernel)
                obtain ⟨hP9, hD9⟩ := PDq.sub (ws' := []) hP hD [] (by decide) rfl
                refine W.widen (k := 0) (n := 0) (Nat.le_of_ble_eq_true rfl) (Nat.le_of_ble_eq_true rfl) ?_
                exact (W.iret (v := 7) hx hb hr (fun t ht hW => ⟨⟨7, (), rfl, ⟨7, by omega, rfl, w9, hw9, Or.inl ⟨c1, ew9, by rw [sz_mid hw9 ew9 (i := 6) (by decide) (by decide) (Or.inr ⟨c15, by decide⟩) c18 (by decide)]⟩⟩, by rw [ht]; exact hP9, hD9⟩, hS.F ht⟩) hS.2.2 dJ6_stringSize_0f7a4_30)
            · skip
              refine lv_iload_n hx hb dJ6_stringSize_0f7a4_27 rfl (lv_at hl 0 rfl) ?_
              refine lv_iload_n hx hb dJ6_stringSize_0f7a4_28 rfl (lv_at hl 2 rfl) ?_
              refine lv_iadd hx hb dJ6_stringSize_0f7a4_29 ?_
              refine lv_topi (fun yn35 eyn35 => ?_)
              obtain rfl : yn35 = 6 := eyn35.trans (by first | rfl | decide +kernel)
              obtain ⟨hP9, hD9⟩ := PDq.sub (ws' := []) hP hD [] (by decide) rfl
              refine W.widen (k := 0) (n := 0) (Nat.le_of_ble_eq_true rfl) (Nat.le_of_ble_eq_true rfl) ?_
              exact (W.iret (v := 6) hx hb hr (fun t ht hW => ⟨⟨6, (), rfl, ⟨6, by omega, rfl, w9, hw9, Or.inl ⟨c1, ew9, by rw [sz_mid hw9 ew9 (i := 5) (by decide) (by decide) (Or.inr ⟨c12, by decide⟩) c15 (by decide)]⟩⟩, by rw [ht]; exact hP9, hD9⟩, hS.F ht⟩) hS.2.2 dJ6_stringSize_0f7a4_30)
          · skip
            refine lv_iload_n hx hb dJ6_stringSize_0f7a4_27 rfl (lv_at hl 0 rfl) ?_
            refine lv_iload_n hx hb dJ6_stringSize_0f7a4_28 rfl (lv_at hl 2 rfl) ?_
            refine lv_iadd hx hb dJ6_stringSize_0f7a4_29 ?_
            refine lv_topi (fun yn36 eyn36 => ?_)
            obtain rfl : yn36 = 5 := eyn36.trans (by first | rfl | decide +kernel)
            obtain ⟨hP9, hD9⟩ := PDq.sub (ws' := []) hP hD [] (by decide) rfl
            refine W.widen (k := 0) (n := 0) (Nat.le_of_ble_eq_true rfl) (Nat.le_of_ble_eq_true rfl) ?_
            exact (W.iret (v := 5) hx hb hr (fun t ht hW => ⟨⟨5, (), rfl, ⟨5, by omega, rfl, w9, hw9, Or.inl ⟨c1, ew9, by rw [sz_mid hw9 ew9 (i := 4) (by decide) (by decide) (Or.inr ⟨c9, by decide⟩) c12 (by decide)]⟩⟩, by rw [ht]; exact hP9, hD9⟩, hS.F ht⟩) hS.2.2 dJ6_stringSize_0f7a4_30)
        · skip
          refine lv_iload_n hx hb dJ6_stringSize_0f7a4_27 rfl (lv_at hl 0 rfl) ?_
          refine lv_iload_n hx hb dJ6_stringSize_0f7a4_28 rfl (lv_at hl 2 rfl) ?_
          refine lv_iadd hx hb dJ6_stringSize_0f7a4_29 ?_
          refine lv_topi (fun yn37 eyn37 => ?_)
          obtain rfl : yn37 = 4 := eyn37.trans (by first | rfl | decide +kernel)
          obtain ⟨hP9, hD9⟩ := PDq.sub (ws' := []) hP hD [] (by decide) rfl
          refine W.widen (k := 0) (n := 0) (Nat.le_of_ble_eq_true rfl) (Nat.le_of_ble_eq_true rfl) ?_
          exact (W.iret (v := 4) hx hb hr (fun t ht hW => ⟨⟨4, (), rfl, ⟨4, by omega, rfl, w9, hw9, Or.inl ⟨c1, ew9, by rw [sz_mid hw9 ew9 (i := 3) (by decide) (by decide) (Or.inr ⟨c6, by decide⟩) c9 (by decide)]⟩⟩, by rw [ht]; exact hP9, hD9⟩, hS.F ht⟩) hS.2.2 dJ6_stringSize_0f7a4_30)
      · skip
        refine lv_iload_n hx hb dJ6_stringSize_0f7a4_27 rfl (lv_at hl 0 rfl) ?_
        refine lv_iload_n hx hb dJ6_stringSize_0f7a4_28 rfl (lv_at hl 2 rfl) ?_
        refine lv_iadd hx hb dJ6_stringSize_0f7a4_29 ?_
        refine lv_topi (fun yn38 eyn38 => ?_)
        obtain rfl : yn38 = 3 := eyn38.trans (by first | rfl | decide +kernel)
        obtain ⟨hP9, hD9⟩ := PDq.sub (ws' := []) hP hD [] (by decide) rfl
        refine W.widen (k := 0) (n := 0) (Nat.le_of_ble_eq_true rfl) (Nat.le_of_ble_eq_true rfl) ?_
        exact (W.iret (v := 3) hx hb hr (fun t ht hW => ⟨⟨3, (), rfl, ⟨3, by omega, rfl, w9, hw9, Or.inl ⟨c1, ew9, by rw [sz_mid hw9 ew9 (i := 2) (by decide) (by decide) (Or.inr ⟨c3, by decide⟩) c6 (by decide)]⟩⟩, by rw [ht]; exact hP9, hD9⟩, hS.F ht⟩) hS.2.2 dJ6_stringSize_0f7a4_30)
    · skip
      refine lv_iload_n hx hb dJ6_stringSize_0f7a4_27 rfl (lv_at hl 0 rfl) ?_
      refine lv_iload_n hx hb dJ6_stringSize_0f7a4_28 rfl (lv_at hl 2 rfl) ?_
      refine lv_iadd hx hb dJ6_stringSize_0f7a4_29 ?_
      refine lv_topi (fun yn39 eyn39 => ?_)
      obtain rfl : yn39 = 2 := eyn39.trans (by first | rfl | decide +kernel)
      obtain ⟨hP9, hD9⟩ := PDq.sub (ws' := []) hP hD [] (by decide) rfl
      refine W.widen (k := 0) (n := 0) (Nat.le_of_ble_eq_true rfl) (Nat.le_of_ble_eq_true rfl) ?_
      exact (W.iret (v := 2) hx hb hr (fun t ht hW => ⟨⟨2, (), rfl, ⟨2, by omega, rfl, w9, hw9, Or.inl ⟨c1, ew9, by rw [sz_mid (p1 := 0) hw9 ew9 (i := 1) (by decide) (by decide) (Or.inl rfl) c3 (by decide)]⟩⟩, by rw [ht]; exact hP9, hD9⟩, hS.F ht⟩) hS.2.2 dJ6_stringSize_0f7a4_30)
  · skip
    obtain ⟨w9, hw9, ew9⟩ := ng_of (ng_neg c1)
    refine lv_iconst (v := 0) hx hb dJ6_stringSize_0f7a4_6 (by decide) ?_
    refine lv_istore_n (lv' := [(1, .int 0), (0, .int a)]) hx hb dJ6_stringSize_0f7a4_7 rfl hl (by decide) rfl (fun ls hl => ?_)
    refine lv_iload_n hx hb dJ6_stringSize_0f7a4_8 rfl (lv_at hl 1 rfl) ?_
    refine lv_ineg hx hb dJ6_stringSize_0f7a4_9 ?_
    refine lv_topi (fun yn40 eyn40 => ?_)
    have ew8 : yn40 = ngI w9 := eyn40.trans ew9
    refine lv_istore_n (lv' := [(0, .int yn40), (1, .int 0)]) hx hb dJ6_stringSize_0f7a4_10 rfl hl (by decide) rfl (fun ls hl => ?_)
    refine lv_bipush (v := (-10)) hx hb dJ6_stringSize_0f7a4_11 (by decide) ?_
    refine lv_istore_n (lv' := [(2, .int (-10)), (0, .int yn40), (1, .int 0)]) hx hb dJ6_stringSize_0f7a4_13 rfl hl (by decide) rfl (fun ls hl => ?_)
    refine lv_iconst (v := 1) hx hb dJ6_stringSize_0f7a4_14 (by decide) ?_
    refine lv_istore_n (lv' := [(3, .int 1), (2, .int (-10)), (0, .int yn40), (1, .int 0)]) hx hb dJ6_stringSize_0f7a4_15 rfl hl (by decide) rfl (fun ls hl => ?_)
    refine lv_iload_n hx hb dJ6_stringSize_0f7a4_16 rfl (lv_at hl 0 rfl) ?_
    refine lv_bipush (v := 10) hx hb dJ6_stringSize_0f7a4_17 (by decide) ?_
    refine lv_icmp_ge (tgt := 42) hx hb dJ6_stringSize_0f7a4_19 (by decide) (fun c9 => absurd c9 (by decide)) (fun c41 => ?_)
    refine lv_iload_n hx hb dJ6_stringSize_0f7a4_22 rfl (lv_at hl 2 rfl) ?_
    refine lv_iload_n hx hb dJ6_stringSize_0f7a4_23 rfl (lv_at hl 1 rfl) ?_
    refine lv_icmp_le (tgt := 31) hx hb dJ6_stringSize_0f7a4_24 (by decide) (fun c42 => ?_) (fun c42 => ?_)
    · skip
      refine lv_bipush (v := 10) hx hb dJ6_stringSize_0f7a4_31 (by decide) ?_
      refine lv_iload_n hx hb dJ6_stringSize_0f7a4_33 rfl (lv_at hl 1 rfl) ?_
      refine lv_imul hx hb dJ6_stringSize_0f7a4_34 ?_
      refine lv_topi (fun yn43 eyn43 => ?_)
      obtain rfl : yn43 = (-100) := eyn43.trans (by first | rfl | decide +kernel)
      refine lv_istore_n (lv' := [(2, .int (-100)), (3, .int 1), (0, .int yn40), (1, .int 0)]) hx hb dJ6_stringSize_0f7a4_35 rfl hl (by decide) rfl (fun ls hl => ?_)
      refine lv_iinc (v := 2) (lv' := [(3, .int 2), (2, .int (-100)), (0, .int yn40), (1, .int 0)]) hx hb dJ6_stringSize_0f7a4_36 hl (k := 1) rfl (by first | rfl | decide +kernel) (by decide) rfl (fun ls hl => ?_)
      refine lv_goto (tgt := 16) hx hb dJ6_stringSize_0f7a4_39 (by decide) ?_
      refine lv_iload_n hx hb dJ6_stringSize_0f7a4_16 rfl (lv_at hl 0 rfl) ?_
      refine lv_bipush (v := 10) hx hb dJ6_stringSize_0f7a4_17 (by decide) ?_
      refine lv_icmp_ge (tgt := 42) hx hb dJ6_stringSize_0f7a4_19 (by decide) (fun c9 => absurd c9 (by decide)) (fun c44 => ?_)
      refine lv_iload_n hx hb dJ6_stringSize_0f7a4_22 rfl (lv_at hl 2 rfl) ?_
      refine lv_iload_n hx hb dJ6_stringSize_0f7a4_23 rfl (lv_at hl 1 rfl) ?_
      refine lv_icmp_le (tgt := 31) hx hb dJ6_stringSize_0f7a4_24 (by decide) (fun c45 => ?_) (fun c45 => ?_)
      · skip
        refine lv_bipush (v := 10) hx hb dJ6_stringSize_0f7a4_31 (by decide) ?_
        refine lv_iload_n hx hb dJ6_stringSize_0f7a4_33 rfl (lv_at hl 1 rfl) ?_
        refine lv_imul hx hb dJ6_stringSize_0f7a4_34 ?_
        refine lv_topi (fun yn46 eyn46 => ?_)
        obtain rfl : yn46 = (-1000) := eyn46.trans (by first | rfl | decide +kernel)
        refine lv_istore_n (lv' := [(2, .int (-1000)), (3, .int 2), (0, .int yn40), (1, .int 0)]) hx hb dJ6_stringSize_0f7a4_35 rfl hl (by decide) rfl (fun ls hl => ?_)
        refine lv_iinc (v := 3) (lv' := [(3, .int 3), (2, .int (-1000)), (0, .int yn40), (1, .int 0)]) hx hb dJ6_stringSize_0f7a4_36 hl (k := 1) rfl (by first | rfl | decide +kernel) (by decide) rfl (fun ls hl => ?_)
        refine lv_goto (tgt := 16) hx hb dJ6_stringSize_0f7a4_39 (by decide) ?_
        refine lv_iload_n hx hb dJ6_stringSize_0f7a4_16 rfl (lv_at hl 0 rfl) ?_
        refine lv_bipush (v := 10) hx hb dJ6_stringSize_0f7a4_17 (by decide) ?_
        refine lv_icmp_ge (tgt := 42) hx hb dJ6_stringSize_0f7a4_19 (by decide) (fun c9 => absurd c9 (by decide)) (fun c47 => ?_)
        refine lv_iload_n hx hb dJ6_stringSize_0f7a4_22 rfl (lv_at hl 2 rfl) ?_
        refine lv_iload_n hx hb dJ6_stringSize_0f7a4_23 rfl (lv_at hl 1 rfl) ?_
        refine lv_icmp_le (tgt := 31) hx hb dJ6_stringSize_0f7a4_24 (by decide) (fun c48 => ?_) (fun c48 => ?_)
        · skip
          refine lv_bipush (v := 10) hx hb dJ6_stringSize_0f7a4_31 (by decide) ?_
          refine lv_iload_n hx hb dJ6_stringSize_0f7a4_33 rfl (lv_at hl 1 rfl) ?_
          refine lv_imul hx hb dJ6_stringSize_0f7a4_34 ?_
          refine lv_topi (fun yn49 eyn49 => ?_)
          obtain rfl : yn49 = (-10000) := eyn49.trans (by first | rfl | decide +kernel)
          refine lv_istore_n (lv' := [(2, .int (-10000)), (3, .int 3), (0, .int yn40), (1, .int 0)]) hx hb dJ6_stringSize_0f7a4_35 rfl hl (by decide) rfl (fun ls hl => ?_)
          refine lv_iinc (v := 4) (lv' := [(3, .int 4), (2, .int (-10000)), (0, .int yn40), (1, .int 0)]) hx hb dJ6_stringSize_0f7a4_36 hl (k := 1) rfl (by first | rfl | decide +kernel) (by decide) rfl (fun ls hl => ?_)
          refine lv_goto (tgt := 16) hx hb dJ6_stringSize_0f7a4_39 (by decide) ?_
          refine lv_iload_n hx hb dJ6_stringSize_0f7a4_16 rfl (lv_at hl 0 rfl) ?_
          refine lv_bipush (v := 10) hx hb dJ6_stringSize_0f7a4_17 (by decide) ?_
          refine lv_icmp_ge (tgt := 42) hx hb dJ6_stringSize_0f7a4_19 (by decide) (fun c9 => absurd c9 (by decide)) (fun c50 => ?_)
          refine lv_iload_n hx hb dJ6_stringSize_0f7a4_22 rfl (lv_at hl 2 rfl) ?_
          refine lv_iload_n hx hb dJ6_stringSize_0f7a4_23 rfl (lv_at hl 1 rfl) ?_
          refine lv_icmp_le (tgt := 31) hx hb dJ6_stringSize_0f7a4_24 (by decide) (fun c51 => ?_) (fun c51 => ?_)
          · skip
            refine lv_bipush (v := 10) hx hb dJ6_stringSize_0f7a4_31 (by decide) ?_
            refine lv_iload_n hx hb dJ6_stringSize_0f7a4_33 rfl (lv_at hl 1 rfl) ?_
            refine lv_imul hx hb dJ6_stringSize_0f7a4_34 ?_
            refine lv_topi (fun yn52 eyn52 => ?_)
            obtain rfl : yn52 = (-100000) := eyn52.trans (by first | rfl | decide +kernel)
            refine lv_istore_n (lv' := [(2, .int (-100000)), (3, .int 4), (0, .int yn40), (1, .int 0)]) hx hb dJ6_stringSize_0f7a4_35 rfl hl (by decide) rfl (fun ls hl => ?_)
            refine lv_iinc (v := 5) (lv' := [(3, .int 5), (2, .int (-100000)), (0, .int yn40), (1, .int 0)]) hx hb dJ6_stringSize_0f7a4_36 hl (k := 1) rfl (by first | rfl | decide +kernel) (by decide) rfl (fun ls hl => ?_)
            refine lv_goto (tgt := 16) hx hb dJ6_stringSize_0f7a4_39 (by decide) ?_
            refine lv_iload_n hx hb dJ6_stringSize_0f7a4_16 rfl (lv_at hl 0 rfl) ?_
            refine lv_bipush (v := 10) hx hb dJ6_stringSize_0f7a4_17 (by decide) ?_
            refine lv_icmp_ge (tgt := 42) hx hb dJ6_stringSize_0f7a4_19 (by decide) (fun c9 => absurd c9 (by decide)) (fun c53 => ?_)
            refine lv_iload_n hx hb dJ6_stringSize_0f7a4_22 rfl (lv_at hl 2 rfl) ?_
            refine lv_iload_n hx hb dJ6_stringSize_0f7a4_23 rfl (lv_at hl 1 rfl) ?_
            refine lv_icmp_le (tgt := 31) hx hb dJ6_stringSize_0f7a4_24 (by decide) (fun c54 => ?_) (fun c54 => ?_)
            · skip
              refine lv_bipush (v := 10) hx hb dJ6_stringSize_0f7a4_31 (by decide) ?_
              refine lv_iload_n hx hb dJ6_stringSize_0f7a4_33 rfl (lv_at hl 1 rfl) ?_
              refine lv_imul hx hb dJ6_stringSize_0f7a4_34 ?_
              refine lv_topi (fun yn55 eyn55 => ?_)
              obtain rfl : yn55 = (-1000000) := eyn55.trans (by first | rfl | decide +kernel)
              refine lv_istore_n (lv' := [(2, .int (-1000000)), (3, .int 5), (0, .int yn40), (1, .int 0)]) hx hb dJ6_stringSize_0f7a4_35 rfl hl (by decide) rfl (fun ls hl => ?_)
              refine lv_iinc (v := 6) (lv' := [(3, .int 6), (2, .int (-1000000)), (0, .int yn40), (1, .int 0)]) hx hb dJ6_stringSize_0f7a4_36 hl (k := 1) rfl (by first | rfl | decide +kernel) (by decide) rfl (fun ls hl => ?_)
              refine lv_goto (tgt := 16) hx hb dJ6_stringSize_0f7a4_39 (by decide) ?_
              refine lv_iload_n hx hb dJ6_stringSize_0f7a4_16 rfl (lv_at hl 0 rfl) ?_
              refine lv_bipush (v := 10) hx hb dJ6_stringSize_0f7a4_17 (by decide) ?_
              refine lv_icmp_ge (tgt := 42) hx hb dJ6_stringSize_0f7a4_19 (by decide) (fun c9 => absurd c9 (by decide)) (fun c56 => ?_)
              refine lv_iload_n hx hb dJ6_stringSize_0f7a4_22 rfl (lv_at hl 2 rfl) ?_
              refine lv_iload_n hx hb dJ6_stringSize_0f7a4_23 rfl (lv_at hl 1 rfl) ?_
              refine lv_icmp_le (tgt := 31) hx hb dJ6_stringSize_0f7a4_24 (by decide) (fun c57 => ?_) (fun c57 => ?_)
              · skip
                refine lv_bipush (v := 10) hx hb dJ6_stringSize_0f7a4_31 (by decide) ?_
                refine lv_iload_n hx hb dJ6_stringSize_0f7a4_33 rfl (lv_at hl 1 rfl) ?_
                refine lv_imul hx hb dJ6_stringSize_0f7a4_34 ?_
                refine lv_topi (fun yn58 eyn58 => ?_)
                obtain rfl : yn58 = (-10000000) := eyn58.trans (by first | rfl | decide +kernel)
                refine lv_istore_n (lv' := [(2, .int (-10000000)), (3, .int 6), (0, .int yn40), (1, .int 0)]) hx hb dJ6_stringSize_0f7a4_35 rfl hl (by decide) rfl (fun ls hl => ?_)
                refine lv_iinc (v := 7) (lv' := [(3, .int 7), (2, .int (-10000000)), (0, .int yn40), (1, .int 0)]) hx hb dJ6_stringSize_0f7a4_36 hl (k := 1) rfl (by first | rfl | decide +kernel) (by decide) rfl (fun ls hl => ?_)
                refine lv_goto (tgt := 16) hx hb dJ6_stringSize_0f7a4_39 (by decide) ?_
                refine lv_iload_n hx hb dJ6_stringSize_0f7a4_16 rfl (lv_at hl 0 rfl) ?_
                refine lv_bipush (v := 10) hx hb dJ6_stringSize_0f7a4_17 (by decide) ?_
                refine lv_icmp_ge (tgt := 42) hx hb dJ6_stringSize_0f7a4_19 (by decide) (fun c9 => absurd c9 (by decide)) (fun c59 => ?_)
                refine lv_iload_n hx hb dJ6_stringSize_0f7a4_22 rfl (lv_at hl 2 rfl) ?_
                refine lv_iload_n hx hb dJ6_stringSize_0f7a4_23 rfl (lv_at hl 1 rfl) ?_
                refine lv_icmp_le (tgt := 31) hx hb dJ6_stringSize_0f7a4_24 (by decide) (fun c60 => ?_) (fun c60 => ?_)
                · skip
                  refine lv_bipush (v := 10) hx hb dJ6_stringSize_0f7a4_31 (by decide) ?_
                  refine lv_iload_n hx hb dJ6_stringSize_0f7a4_33 rfl (lv_at hl 1 rfl) ?_
                  refine lv_imul hx hb dJ6_stringSize_0f7a4_34 ?_
                  refine lv_topi (fun yn61 eyn61 => ?_)
                  obtain rfl : yn61 = (-100000000) := eyn61.trans (by first | rfl | decide +kernel)
                  refine lv_istore_n (lv' := [(2, .int (-100000000)), (3, .int 7), (0, .int yn40), (1, .int 0)]) hx hb dJ6_stringSize_0f7a4_35 rfl hl (by decide) rfl (fun ls hl => ?_)
                  refine lv_iinc (v := 8) (lv' := [(3, .int 8), (2, .int (-100000000)), (0, .int yn40), (1, .int 0)]) hx hb dJ6_stringSize_0f7a4_36 hl (k := 1) rfl (by first | rfl | decide +kernel) (by decide) rfl (fun ls hl => ?_)
                  refine lv_goto (tgt := 16) hx hb dJ6_stringSize_0f7a4_39 (by decide) ?_
                  refine lv_iload_n hx hb dJ6_stringSize_0f7a4_16 rfl (lv_at hl 0 rfl) ?_
                  refine lv_bipush (v := 10) hx hb dJ6_stringSize_0f7a4_17 (by decide) ?_
                  refine lv_icmp_ge (tgt := 42) hx hb dJ6_stringSize_0f7a4_19 (by decide) (fun c9 => absurd c9 (by decide)) (fun c62 => ?_)
                  refine lv_iload_n hx hb dJ6_stringSize_0f7a4_22 rfl (lv_at hl 2 rfl) ?_
                  refine lv_iload_n hx hb dJ6_stringSize_0f7a4_23 rfl (lv_at hl 1 rfl) ?_
                  refine lv_icmp_le (tgt := 31) hx hb dJ6_stringSize_0f7a4_24 (by decide) (fun c63 => ?_) (fun c63 => ?_)
                  · skip
                    refine lv_bipush (v := 10) hx hb dJ6_stringSize_0f7a4_31 (by decide) ?_
                    refine lv_iload_n hx hb dJ6_stringSize_0f7a4_33 rfl (lv_at hl 1 rfl) ?_
                    refine lv_imul hx hb dJ6_stringSize_0f7a4_34 ?_
                    refine lv_topi (fun yn64 eyn64 => ?_)
                    obtain rfl : yn64 = (-1000000000) := eyn64.trans (by first | rfl | decide +kernel)
                    refine lv_istore_n (lv' := [(2, .int (-1000000000)), (3, .int 8), (0, .int yn40), (1, .int 0)]) hx hb dJ6_stringSize_0f7a4_35 rfl hl (by decide) rfl (fun ls hl => ?_)
                    refine lv_iinc (v := 9) (lv' := [(3, .int 9), (2, .int (-1000000000)), (0, .int yn40), (1, .int 0)]) hx hb dJ6_stringSize_0f7a4_36 hl (k := 1) rfl (by first | rfl | decide +kernel) (by decide) rfl (fun ls hl => ?_)
                    refine lv_goto (tgt := 16) hx hb dJ6_stringSize_0f7a4_39 (by decide) ?_
                    refine lv_iload_n hx hb dJ6_stringSize_0f7a4_16 rfl (lv_at hl 0 rfl) ?_
                    refine lv_bipush (v := 10) hx hb dJ6_stringSize_0f7a4_17 (by decide) ?_
                    refine lv_icmp_ge (tgt := 42) hx hb dJ6_stringSize_0f7a4_19 (by decide) (fun c9 => absurd c9 (by decide)) (fun c65 => ?_)
                    refine lv_iload_n hx hb dJ6_stringSize_0f7a4_22 rfl (lv_at hl 2 rfl) ?_
                    refine lv_iload_n hx hb dJ6_stringSize_0f7a4_23 rfl (lv_at hl 1 rfl) ?_
                    refine lv_icmp_le (tgt := 31) hx hb dJ6_stringSize_0f7a4_24 (by decide) (fun c66 => ?_) (fun c66 => ?_)
                    · skip
                      refine lv_bipush (v := 10) hx hb dJ6_stringSize_0f7a4_31 (by decide) ?_
                      refine lv_iload_n hx hb dJ6_stringSize_0f7a4_33 rfl (lv_at hl 1 rfl) ?_
                      refine lv_imul hx hb dJ6_stringSize_0f7a4_34 ?_
                      refine lv_topi (fun yn67 eyn67 => ?_)
                      obtain rfl : yn67 = (-1410065408) := eyn67.trans (by first | rfl | decide +kernel)
                      refine lv_istore_n (lv' := [(2, .int (-1410065408)), (3, .int 9), (0, .int yn40), (1, .int 0)]) hx hb dJ6_stringSize_0f7a4_35 rfl hl (by decide) rfl (fun ls hl => ?_)
                      refine lv_iinc (v := 10) (lv' := [(3, .int 10), (2, .int (-1410065408)), (0, .int yn40), (1, .int 0)]) hx hb dJ6_stringSize_0f7a4_36 hl (k := 1) rfl (by first | rfl | decide +kernel) (by decide) rfl (fun ls hl => ?_)
                      refine lv_goto (tgt := 16) hx hb dJ6_stringSize_0f7a4_39 (by decide) ?_
                      refine lv_iload_n hx hb dJ6_stringSize_0f7a4_16 rfl (lv_at hl 0 rfl) ?_
                      refine lv_bipush (v := 10) hx hb dJ6_stringSize_0f7a4_17 (by decide) ?_
                      refine lv_icmp_ge (tgt := 42) hx hb dJ6_stringSize_0f7a4_19 (by decide) (fun c68 => ?_) (fun c9 => absurd c9 (by decide))
                      refine lv_bipush (v := 10) hx hb dJ6_stringSize_0f7a4_42 (by decide) ?_
                      refine lv_iload_n hx hb dJ6_stringSize_0f7a4_44 rfl (lv_at hl 3 rfl) ?_
                      refine lv_iadd hx hb dJ6_stringSize_0f7a4_45 ?_
                      refine lv_topi (fun yn69 eyn69 => ?_)
                      obtain rfl : yn69 = 10 := eyn69.trans (by first | rfl | decide +kernel)
                      obtain ⟨hP9, hD9⟩ := PDq.sub (ws' := []) hP hD [] (by decide) rfl
                      refine W.widen (k := 0) (n := 0) (Nat.le_of_ble_eq_true rfl) (Nat.le_of_ble_eq_true rfl) ?_
                      exact (W.iret (v := 10) hx hb hr (fun t ht hW => ⟨⟨10, (), rfl, ⟨10, by omega, rfl, w9, hw9, Or.inr ⟨c1, ew9, (sz_end hw9 ew8 c66 (by decide)).symm⟩⟩, by rw [ht]; exact hP9, hD9⟩, hS.F ht⟩) hS.2.2 dJ6_stringSize_0f7a4_46)
                    · skip
                      refine lv_iload_n hx hb dJ6_stringSize_0f7a4_27 rfl (lv_at hl 0 rfl) ?_
                      refine lv_iload_n hx hb dJ6_stringSize_0f7a4_28 rfl (lv_at hl 3 rfl) ?_
                      refine lv_iadd hx hb dJ6_stringSize_0f7a4_29 ?_
                      refine lv_topi (fun yn70 eyn70 => ?_)
                      obtain rfl : yn70 = 9 := eyn70.trans (by first | rfl | decide +kernel)
                      obtain ⟨hP9, hD9⟩ := PDq.sub (ws' := []) hP hD [] (by decide) rfl
                      refine W.widen (k := 0) (n := 0) (Nat.le_of_ble_eq_true rfl) (Nat.le_of_ble_eq_true rfl) ?_
                      exact (W.iret (v := 9) hx hb hr (fun t ht hW => ⟨⟨9, (), rfl, ⟨9, by omega, rfl, w9, hw9, Or.inr ⟨c1, ew9, (sz_mid hw9 ew8 (i := 9) (by decide) (by decide) (Or.inr ⟨c63, by decide⟩) c66 (by decide)).symm⟩⟩, by rw [ht]; exact hP9, hD9⟩, hS.F ht⟩) hS.2.2 dJ6_stringSize_0f7a4_30)
                  · skip
                    refine lv_iload_n hx hb dJ6_stringSize_0f7a4_27 rfl (lv_at hl 0 rfl) ?_
                    refine lv_iload_n hx hb dJ6_stringSize_0f7a4_28 rfl (lv_at hl 3 rfl) ?_
                    refine lv_iadd hx hb dJ6_stringSize_0f7a4_29 ?_
                    refine lv_topi (fun yn71 eyn71 => ?_)
                    obtain rfl : yn71 = 8 := eyn71.trans (by first | rfl | decide +kernel)
                    obtain ⟨hP9, hD9⟩ := PDq.sub (ws' := []) hP hD [] (by decide) rfl
                    refine W.widen (k := 0) (n := 0) (Nat.le_of_ble_eq_true rfl) (Nat.le_of_ble_eq_true rfl) ?_
                    exact (W.iret (v := 8) hx hb hr (fun t ht hW => ⟨⟨8, (), rfl, ⟨8, by omega, rfl, w9, hw9, Or.inr ⟨c1, ew9, (sz_mid hw9 ew8 (i := 8) (by decide) (by decide) (Or.inr ⟨c60, by decide⟩) c63 (by decide)).symm⟩⟩, by rw [ht]; exact hP9, hD9⟩, hS.F ht⟩) hS.2.2 dJ6_stringSize_0f7a4_30)
                · skip
                  refine lv_iload_n hx hb dJ6_stringSize_0f7a4_27 rfl (lv_at hl 0 rfl) ?_
                  refine lv_iload_n hx hb dJ6_stringSize_0f7a4_28 rfl (lv_at hl 3 rfl) ?_
                  refine lv_iadd hx hb dJ6_stringSize_0f7a4_29 ?_
                  refine lv_topi (fun yn72 eyn72 => ?_)
                  obtain rfl : yn72 = 7 := eyn72.trans (by first | rfl | decide +kernel)
                  obtain ⟨hP9, hD9⟩ := PDq.sub (ws' := []) hP hD [] (by decide) rfl
                  refine W.widen (k := 0) (n := 0) (Nat.le_of_ble_eq_true rfl) (Nat.le_of_ble_eq_true rfl) ?_
                  exact (W.iret (v := 7) hx hb hr (fun t ht hW => ⟨⟨7, (), rfl, ⟨7, by omega, rfl, w9, hw9, Or.inr ⟨c1, ew9, (sz_mid hw9 ew8 (i := 7) (by decide) (by decide) (Or.inr ⟨c57, by decide⟩) c60 (by decide)).symm⟩⟩, by rw [ht]; exact hP9, hD9⟩, hS.F ht⟩) hS.2.2 dJ6_stringSize_0f7a4_30)
              · skip
                refine lv_iload_n hx hb dJ6_stringSize_0f7a4_27 rfl (lv_at hl 0 rfl) ?_
                refine lv_iload_n hx hb dJ6_stringSize_0f7a4_28 rfl (lv_at hl 3 rfl) ?_
                refine lv_iadd hx hb dJ6_stringSize_0f7a4_29 ?_
                refine lv_topi (fun yn73 eyn73 => ?_)
                obtain rfl : yn73 = 6 := eyn73.trans (by first | rfl | decide +kernel)
                obtain ⟨hP9, hD9⟩ := PDq.sub (ws' := []) hP hD [] (by decide) rfl
                refine W.widen (k := 0) (n := 0) (Nat.le_of_ble_eq_true rfl) (Nat.le_of_ble_eq_true rfl) ?_
                exact (W.iret (v := 6) hx hb hr (fun t ht hW => ⟨⟨6, (), rfl, ⟨6, by omega, rfl, w9, hw9, Or.inr ⟨c1, ew9, (sz_mid hw9 ew8 (i := 6) (by decide) (by decide) (Or.inr ⟨c54, by decide⟩) c57 (by decide)).symm⟩⟩, by rw [ht]; exact hP9, hD9⟩, hS.F ht⟩) hS.2.2 dJ6_stringSize_0f7a4_30)
            · skip
              refine lv_iload_n hx hb dJ6_stringSize_0f7a4_27 rfl (lv_at hl 0 rfl) ?_
              refine lv_iload_n hx hb dJ6_stringSize_0f7a4_28 rfl (lv_at hl 3 rfl) ?_
              refine lv_iadd hx hb dJ6_stringSize_0f7a4_29 ?_
              refine lv_topi (fun yn74 eyn74 => ?_)
              obtain rfl : yn74 = 5 := eyn74.trans (by first | rfl | decide +kernel)
              obtain ⟨hP9, hD9⟩ := PDq.sub (ws' := []) hP hD [] (by decide) rfl
              refine W.widen (k := 0) (n := 0) (Nat.le_of_ble_eq_true rfl) (Nat.le_of_ble_eq_true rfl) ?_
              exact (W.iret (v := 5) hx hb hr (fun t ht hW => ⟨⟨5, (), rfl, ⟨5, by omega, rfl, w9, hw9, Or.inr ⟨c1, ew9, (sz_mid hw9 ew8 (i := 5) (by decide) (by decide) (Or.inr ⟨c51, by decide⟩) c54 (by decide)).symm⟩⟩, by rw [ht]; exact hP9, hD9⟩, hS.F ht⟩) hS.2.2 dJ6_stringSize_0f7a4_30)
          · skip
            refine lv_iload_n hx hb dJ6_stringSize_0f7a4_27 rfl (lv_at hl 0 rfl) ?_
            refine lv_iload_n hx hb dJ6_stringSize_0f7a4_28 rfl (lv_at hl 3 rfl) ?_
            refine lv_iadd hx hb dJ6_stringSize_0f7a4_29 ?_
            refine lv_topi (fun yn75 eyn75 => ?_)
            obtain rfl : yn75 = 4 := eyn75.trans (by first | rfl | decide +kernel)
            obtain ⟨hP9, hD9⟩ := PDq.sub (ws' := []) hP hD [] (by decide) rfl
            refine W.widen (k := 0) (n := 0) (Nat.le_of_ble_eq_true rfl) (Nat.le_of_ble_eq_true rfl) ?_
            exact (W.iret (v := 4) hx hb hr (fun t ht hW => ⟨⟨4, (), rfl, ⟨4, by omega, rfl, w9, hw9, Or.inr ⟨c1, ew9, (sz_mid hw9 ew8 (i := 4) (by decide) (by decide) (Or.inr ⟨c48, by decide⟩) c51 (by decide)).symm⟩⟩, by rw [ht]; exact hP9, hD9⟩, hS.F ht⟩) hS.2.2 dJ6_stringSize_0f7a4_30)
        · skip
          refine lv_iload_n hx hb dJ6_stringSize_0f7a4_27 rfl (lv_at hl 0 rfl) ?_
          refine lv_iload_n hx hb dJ6_stringSize_0f7a4_28 rfl (lv_at hl 3 rfl) ?_
          refine lv_iadd hx hb dJ6_stringSize_0f7a4_29 ?_
          refine lv_topi (fun yn76 eyn76 => ?_)
          obtain rfl : yn76 = 3 := eyn76.trans (by first | rfl | decide +kernel)
          obtain ⟨hP9, hD9⟩ := PDq.sub (ws' := []) hP hD [] (by decide) rfl
          refine W.widen (k := 0) (n := 0) (Nat.le_of_ble_eq_true rfl) (Nat.le_of_ble_eq_true rfl) ?_
          exact (W.iret (v := 3) hx hb hr (fun t ht hW => ⟨⟨3, (), rfl, ⟨3, by omega, rfl, w9, hw9, Or.inr ⟨c1, ew9, (sz_mid hw9 ew8 (i := 3) (by decide) (by decide) (Or.inr ⟨c45, by decide⟩) c48 (by decide)).symm⟩⟩, by rw [ht]; exact hP9, hD9⟩, hS.F ht⟩) hS.2.2 dJ6_stringSize_0f7a4_30)
      · skip
        refine lv_iload_n hx hb dJ6_stringSize_0f7a4_27 rfl (lv_at hl 0 rfl) ?_
        refine lv_iload_n hx hb dJ6_stringSize_0f7a4_28 rfl (lv_at hl 3 rfl) ?_
        refine lv_iadd hx hb dJ6_stringSize_0f7a4_29 ?_
        refine lv_topi (fun yn77 eyn77 => ?_)
        obtain rfl : yn77 = 2 := eyn77.trans (by first | rfl | decide +kernel)
        obtain ⟨hP9, hD9⟩ := PDq.sub (ws' := []) hP hD [] (by decide) rfl
        refine W.widen (k := 0) (n := 0) (Nat.le_of_ble_eq_true rfl) (Nat.le_of_ble_eq_true rfl) ?_
        exact (W.iret (v := 2) hx hb hr (fun t ht hW => ⟨⟨2, (), rfl, ⟨2, by omega, rfl, w9, hw9, Or.inr ⟨c1, ew9, (sz_mid hw9 ew8 (i := 2) (by decide) (by decide) (Or.inr ⟨c42, by decide⟩) c45 (by decide)).symm⟩⟩, by rw [ht]; exact hP9, hD9⟩, hS.F ht⟩) hS.2.2 dJ6_stringSize_0f7a4_30)
    · skip
      refine lv_iload_n hx hb dJ6_stringSize_0f7a4_27 rfl (lv_at hl 0 rfl) ?_
      refine lv_iload_n hx hb dJ6_stringSize_0f7a4_28 rfl (lv_at hl 3 rfl) ?_
      refine lv_iadd hx hb dJ6_stringSize_0f7a4_29 ?_
      refine lv_topi (fun yn78 eyn78 => ?_)
      obtain rfl : yn78 = 1 := eyn78.trans (by first | rfl | decide +kernel)
      obtain ⟨hP9, hD9⟩ := PDq.sub (ws' := []) hP hD [] (by decide) rfl
      refine W.widen (k := 0) (n := 0) (Nat.le_of_ble_eq_true rfl) (Nat.le_of_ble_eq_true rfl) ?_
      exact (W.iret (v := 1) hx hb hr (fun t ht hW => ⟨⟨1, (), rfl, ⟨1, by omega, rfl, w9, hw9, Or.inr ⟨c1, ew9, (sz_mid (p1 := 0) hw9 ew8 (i := 1) (by decide) (by decide) (Or.inl rfl) c42 (by decide)).symm⟩⟩, by rw [ht]; exact hP9, hD9⟩, hS.F ht⟩) hS.2.2 dJ6_stringSize_0f7a4_30)

set_option maxHeartbeats 4000000 in
set_option maxRecDepth 100000 in
/-- getChars -/
theorem j_getChars (l : Launch) (D : va_G) (cA : Nat → ClassId) (sa : Nat → Nat) (o1 : Nat) (cp : Nat) (fy : Nat → Int32) (a : Int32) (ix : Nat) (n9 : Nat) (b9 : Nat) (sz : Nat) (hcp : cp ≤ 126) (hfit : sb_Fit fy) (hsz : SZ a n9) (hix : ix = b9 + n9) (hix2 : ix ≤ cp) : Met l yJ6_getChars_ba4f3 wsJ6_getChars_ba4f3 ({ frames := 0, cells := 0, slots := 0, locals := 0 }) (va_Pc [.int a, .int (nI ix), .ref o1] (Wd2 D cA sa [(o1, .inl (cA 3, cp, .inl fy))] sz)) (va_Qi (fun (r : Int32) (_ : Unit) => True) (fun (_ : Unit) t => ∃ zy : Nat → Int32, sb_Fit zy ∧ Wq D (va_A [(o1, .inl (cA 3, cp, .inl fy))] sz) [(o1, .inl (cA 3, cp, .inl zy))] t) (va_A [(o1, .inl (cA 3, cp, .inl fy))] sz)) 0 0 (va_A [(o1, .inl (cA 3, cp, .inl fy))] sz) := by
  refine Met.ofW (cc := cJ6_getChars_ba4f3) (maxL := 7) (ret := (some .int)) (by decide) rfl ?_
  intro p e s m args below meth c s₁ B hml hv
  obtain ⟨rfl, ⟨hsz, hP, hK, hD0, hC, hZ⟩, hG⟩ := hv
  have hx := B.exec
  have hb := B.bytes
  have hr := B.returns
  have hts := atoms_spec (ws := wsJ6_getChars_ba4f3) B.pre
  have hown : s.vm.findClass RJ6 = some m.cls := findClass_of_methodNamed B.named
  have hlocks := B.notSynchronized
  subst hsz
  have hD := hD0.self (sz := s.heap.size)
  generalize hAe : va_A [(o1, .inl (cA 3, cp, .inl fy))] s.heap.size = A at hD hZ hG ⊢
  have hA : ∀ q : Nat, s.heap.size ≤ q → A q := fun q h => by rw [← hAe]; exact Or.inr h
  have hS : va_S A s.heap s.heap [] := va_S.rf
  have hP : va_P D vwCl [(o1, .inl (cA 3, cp, .inl fy))] s.heap := hP
  have hl := lv_entry ([.int a, .int (nI ix), .ref o1]) (n := 7) (Nat.le_of_ble_eq_true rfl)
  rw [lg_entry_eq]
  generalize (lg_sl ([.int a, .int (nI ix), .ref o1]) ++ List.replicate (7 - (lg_sl ([.int a, .int (nI ix), .ref o1])).length) Slot.unset).toArray = ls at hl ⊢
  have hl : lv_has ls 7 [(0, .int a), (1, .int (nI ix)), (2, .ref o1)] := hl
  obtain ⟨⟨d1, d2, f1, f2, hd1, hd2, ht1, ht2⟩, -⟩ := hG
  obtain ⟨w9, hw9, hcs⟩ := hsz
  rcases hcs with ⟨hn1, hn2, hn3⟩ | ⟨hn1, hn2, hn3⟩
  · skip
    refine lv_iload_n hx hb dJ6_getChars_ba4f3_0 rfl (lv_at hl 1 rfl) ?_
    refine lv_istore (lv' := [(5, .int (nI ix)), (0, .int a), (1, .int (nI ix)), (2, .ref o1)]) hx hb dJ6_getChars_ba4f3_1 hl (by decide) rfl (fun ls hl => ?_)
    refine lv_iload_n hx hb dJ6_getChars_ba4f3_3 rfl (lv_at hl 1 rfl) ?_
    refine lv_if_ge (tgt := 11) hx hb dJ6_getChars_ba4f3_4 (by decide) (fun c9 => absurd c9 (Int32.not_le.mpr hn1)) (fun c1 => ?_)
    refine lv_iconst (v := 1) hx hb dJ6_getChars_ba4f3_7 (by decide) ?_
    refine lv_goto (tgt := 12) hx hb dJ6_getChars_ba4f3_8 (by decide) ?_
    refine lv_istore (lv' := [(6, .int 1), (5, .int (nI ix)), (0, .int a), (1, .int (nI ix)), (2, .ref o1)]) hx hb dJ6_getChars_ba4f3_12 hl (by decide) rfl (fun ls hl => ?_)
    refine lv_iload hx hb dJ6_getChars_ba4f3_14 (lv_at hl 0 rfl) ?_
    refine lv_if_ne (tgt := 22) hx hb dJ6_getChars_ba4f3_16 (by decide) (fun c2 => ?_) (fun c9 => absurd c9 (by decide))
    rw [hn2] at hl
    have hl : lv_has ls 7 [(6, .int 1), (5, .int (nI ix)), (0, .int (ngI w9)), (1, .int (nI ix)), (2, .ref o1)] := hl
    have hqhn3 := dg_pos w9
    rcases Nat.lt_or_ge w9 100 with hn3 | hn3
    · skip
      refine lv_iload_n hx hb dJ6_getChars_ba4f3_22 rfl (lv_at hl 2 rfl) ?_
      refine lv_bipush (v := (-100)) hx hb dJ6_getChars_ba4f3_23 (by decide) ?_
      refine lv_icmp_gt (tgt := 72) hx hb dJ6_getChars_ba4f3_25 (by decide) (fun c4 => ?_) (fun c9 => absurd c9 (fun h9 => h9 (ng_gt hn3)))
      refine lv_aload_n hx hb dJ6_getChars_ba4f3_72 rfl (lv_at hl 4 rfl) ?_
      refine lv_iinc (v := (nI (ix - 1))) (lv' := [(5, .int (nI (ix - 1))), (6, .int 1), (0, .int (ngI w9)), (1, .int (nI ix)), (2, .ref o1)]) hx hb dJ6_getChars_ba4f3_73 hl (k := 1) rfl (nI_dec (a := ix) (b := (ix - 1)) (by omega)) (by decide) rfl (fun ls hl => ?_)
      refine lv_iload hx hb dJ6_getChars_ba4f3_76 (lv_at hl 0 rfl) ?_
      refine va_gets hx hb hd1 hS hown (hts (.fieldLink RJ6 83 "java/lang/Integer" "DigitOnes" "[B") (by decide +kernel)) (fun _ h9 => h9) dJ6_getChars_ba4f3_78 ?_
      refine lv_iload_n hx hb dJ6_getChars_ba4f3_81 rfl (lv_at hl 2 rfl) ?_
      refine lv_ineg hx hb dJ6_getChars_ba4f3_82 ?_
      refine lv_topi (fun yn5 eyn5 => ?_)
      obtain rfl : yn5 = (nI w9) := eyn5.trans (ng_opp)
      refine va_tb (v := .int (f1 ((nI w9)).toNatClampNeg)) hx hb ht1 hS (vp_in_nI (n := w9) (N := 100) (show w9 < 100 by omega) (by decide)) rfl dJ6_getChars_ba4f3_83 ?_
      refine lv_topi (fun yn6 eyn6 => ?_)
      refine va_bast hx hb hK hP hD hS 0 3 rfl rfl (vp_in_nI (n := (ix - 1)) (N := cp) (show (ix - 1) < cp by omega) (by omega)) dJ6_getChars_ba4f3_84 (fun H locs hP hD hS => ?_)
      obtain ⟨hP, hD⟩ : PDq D A [(o1, .inl (cA 3, cp, .inl (upd fy (((nI (ix - 1))).toNatClampNeg) (vp_nar .byte yn6))))] H := ⟨hP, hD⟩
      have hn8 : sb_Fit (upd fy (((nI (ix - 1))).toNatClampNeg) (vp_nar .byte yn6)) := (sb_fitU hfit (pk_fb _))
      generalize (upd fy (((nI (ix - 1))).toNatClampNeg) (vp_nar .byte yn6)) = fn7 at hP hD hn8
      obtain ⟨hP, hD⟩ : PDq D A [(o1, .inl (cA 3, cp, .inl fn7))] H := ⟨hP, hD⟩
      rcases Nat.lt_or_ge w9 10 with hn9 | hn9
      · skip
        refine lv_iload_n hx hb dJ6_getChars_ba4f3_85 rfl (lv_at hl 2 rfl) ?_
        refine lv_bipush (v := (-9)) hx hb dJ6_getChars_ba4f3_86 (by decide) ?_
        refine lv_icmp_ge (tgt := 104) hx hb dJ6_getChars_ba4f3_88 (by decide) (fun c10 => ?_) (fun c9 => absurd c9 (fun h9 => h9 (ng_ge9 hn9)))
        refine lv_iload hx hb dJ6_getChars_ba4f3_104 (lv_at hl 1 rfl) ?_
        refine lv_if_eq (tgt := 118) hx hb dJ6_getChars_ba4f3_106 (by decide) (fun c9 => absurd c9 (by decide)) (fun c11 => ?_)
        refine lv_aload_n hx hb dJ6_getChars_ba4f3_109 rfl (lv_at hl 4 rfl) ?_
        refine lv_iinc (v := (nI ((ix - 1) - 1))) (lv' := [(5, .int (nI ((ix - 1) - 1))), (6, .int 1), (0, .int (ngI w9)), (1, .int (nI ix)), (2, .ref o1)]) hx hb dJ6_getChars_ba4f3_110 hl (k := 0) rfl (nI_dec (a := (ix - 1)) (b := ((ix - 1) - 1)) (by omega)) (by decide) rfl (fun ls hl => ?_)
        refine lv_iload hx hb dJ6_getChars_ba4f3_113 (lv_at hl 0 rfl) ?_
        refine lv_bipush (v := 45) hx hb dJ6_getChars_ba4f3_115 (by decide) ?_
        refine va_bast hx hb hK hP hD hS 0 3 rfl rfl (vp_in_nI (n := ((ix - 1) - 1)) (N := cp) (show ((ix - 1) - 1) < cp by omega) (by omega)) dJ6_getChars_ba4f3_117 (fun H locs hP hD hS => ?_)
        obtain ⟨hP, hD⟩ : PDq D A [(o1, .inl (cA 3, cp, .inl (upd fn7 (((nI ((ix - 1) - 1))).toNatClampNeg) (vp_nar .byte 45))))] H := ⟨hP, hD⟩
        have hn13 : sb_Fit (upd fn7 (((nI ((ix - 1) - 1))).toNatClampNeg) (vp_nar .byte 45)) := (sb_fitU hn8 (pk_fb _))
        generalize (upd fn7 (((nI ((ix - 1) - 1))).toNatClampNeg) (vp_nar .byte 45)) = fn12 at hP hD hn13
        obtain ⟨hP, hD⟩ : PDq D A [(o1, .inl (cA 3, cp, .inl fn12))] H := ⟨hP, hD⟩
        refine lv_iload hx hb dJ6_getChars_ba4f3_118 (lv_at hl 0 rfl) ?_
        obtain ⟨hP9, hD9⟩ := PDq.sub (ws' := [(o1, .inl (cA 3, cp, .inl fn12))]) hP hD [0] (by decide) rfl
        refine W.widen (k := 0) (n := 0) (Nat.le_of_ble_eq_true rfl) (Nat.le_of_ble_eq_true rfl) ?_
        exact (W.iret (v := (nI ((ix - 1) - 1))) hx hb hr (fun t ht hW => ⟨⟨(nI ((ix - 1) - 1)), (), rfl, trivial, fn12, hn13, by rw [ht]; exact hP9, hD9⟩, hS.F ht⟩) hS.2.2 dJ6_getChars_ba4f3_120)
      · skip
        have hqhn9 := dg_2 hn9 (by omega)
        refine lv_iload_n hx hb dJ6_getChars_ba4f3_85 rfl (lv_at hl 2 rfl) ?_
        refine lv_bipush (v := (-9)) hx hb dJ6_getChars_ba4f3_86 (by decide) ?_
        refine lv_icmp_ge (tgt := 104) hx hb dJ6_getChars_ba4f3_88 (by decide) (fun c9 => absurd c9 (ng_nge9 hn9 (by omega))) (fun c14 => ?_)
        refine lv_aload_n hx hb dJ6_getChars_ba4f3_91 rfl (lv_at hl 4 rfl) ?_
        refine lv_iinc (v := (nI ((ix - 1) - 1))) (lv' := [(5, .int (nI ((ix - 1) - 1))), (6, .int 1), (0, .int (ngI w9)), (1, .int (nI ix)), (2, .ref o1)]) hx hb dJ6_getChars_ba4f3_92 hl (k := 0) rfl (nI_dec (a := (ix - 1)) (b := ((ix - 1) - 1)) (by omega)) (by decide) rfl (fun ls hl => ?_)
        refine lv_iload hx hb dJ6_getChars_ba4f3_95 (lv_at hl 0 rfl) ?_
        refine va_gets hx hb hd2 hS hown (hts (.fieldLink RJ6 87 "java/lang/Integer" "DigitTens" "[B") (by decide +kernel)) (fun _ h9 => h9) dJ6_getChars_ba4f3_97 ?_
        refine lv_iload_n hx hb dJ6_getChars_ba4f3_100 rfl (lv_at hl 2 rfl) ?_
        refine lv_ineg hx hb dJ6_getChars_ba4f3_101 ?_
        refine lv_topi (fun yn15 eyn15 => ?_)
        obtain rfl : yn15 = (nI w9) := eyn15.trans (ng_opp)
        refine va_tb (v := .int (f2 ((nI w9)).toNatClampNeg)) hx hb ht2 hS (vp_in_nI (n := w9) (N := 100) (show w9 < 100 by omega) (by decide)) rfl dJ6_getChars_ba4f3_102 ?_
        refine lv_topi (fun yn16 eyn16 => ?_)
        refine va_bast hx hb hK hP hD hS 0 3 rfl rfl (vp_in_nI (n := ((ix - 1) - 1)) (N := cp) (show ((ix - 1) - 1) < cp by omega) (by omega)) dJ6_getChars_ba4f3_103 (fun H locs hP hD hS => ?_)
        obtain ⟨hP, hD⟩ : PDq D A [(o1, .inl (cA 3, cp, .inl (upd fn7 (((nI ((ix - 1) - 1))).toNatClampNeg) (vp_nar .byte yn16))))] H := ⟨hP, hD⟩
        have hn18 : sb_Fit (upd fn7 (((nI ((ix - 1) - 1))).toNatClampNeg) (vp_nar .byte yn16)) := (sb_fitU hn8 (pk_fb _))
        generalize (upd fn7 (((nI ((ix - 1) - 1))).toNatClampNeg) (vp_nar .byte yn16)) = fn17 at hP hD hn18
        obtain ⟨hP, hD⟩ : PDq D A [(o1, .inl (cA 3, cp, .inl fn17))] H := ⟨hP, hD⟩
        refine lv_iload hx hb dJ6_getChars_ba4f3_104 (lv_at hl 1 rfl) ?_
        refine lv_if_eq (tgt := 118) hx hb dJ6_getChars_ba4f3_106 (by decide) (fun c9 => absurd c9 (by decide)) (fun c19 => ?_)
        refine lv_aload_n hx hb dJ6_getChars_ba4f3_109 rfl (lv_at hl 4 rfl) ?_
        refine lv_iinc (v := (nI (((ix - 1) - 1) - 1))) (lv' := [(5, .int (nI (((ix - 1) - 1) - 1))), (6, .int 1), (0, .int (ngI w9)), (1, .int (nI ix)), (2, .ref o1)]) hx hb dJ6_getChars_ba4f3_110 hl (k := 0) rfl (nI_dec (a := ((ix - 1) - 1)) (b := (((ix - 1) - 1) - 1)) (by omega)) (by decide) rfl (fun ls hl => ?_)
        refine lv_iload hx hb dJ6_getChars_ba4f3_113 (lv_at hl 0 rfl) ?_
        refine lv_bipush (v := 45) hx hb dJ6_getChars_ba4f3_115 (by decide) ?_
        refine va_bast hx hb hK hP hD hS 0 3 rfl rfl (vp_in_nI (n := (((ix - 1) - 1) - 1)) (N := cp) (show (((ix - 1) - 1) - 1) < cp by omega) (by omega)) dJ6_getChars_ba4f3_117 (fun H locs hP hD hS => ?_)
        obtain ⟨hP, hD⟩ : PDq D A [(o1, .inl (cA 3, cp, .inl (upd fn17 (((nI (((ix - 1) - 1) - 1))).toNatClampNeg) (vp_nar .byte 45))))] H := ⟨hP, hD⟩
        have hn21 : sb_Fit (upd fn17 (((nI (((ix - 1) - 1) - 1))).toNatClampNeg) (vp_nar .byte 45)) := (sb_fitU hn18 (pk_fb _))
        generalize (upd fn17 (((nI (((ix - 1) - 1) - 1))).toNatClampNeg) (vp_nar .byte 45)) = fn20 at hP hD hn21
        obtain ⟨hP, hD⟩ : PDq D A [(o1, .inl (cA 3, cp, .inl fn20))] H := ⟨hP, hD⟩
        refine lv_iload hx hb dJ6_getChars_ba4f3_118 (lv_at hl 0 rfl) ?_
        obtain ⟨hP9, hD9⟩ := PDq.sub (ws' := [(o1, .inl (cA 3, cp, .inl fn20))]) hP hD [0] (by decide) rfl
        refine W.widen (k := 0) (n := 0) (Nat.le_of_ble_eq_true rfl) (Nat.le_of_ble_eq_true rfl) ?_
        exact (W.iret (v := (nI (((ix - 1) - 1) - 1))) hx hb hr (fun t ht hW => ⟨⟨(nI (((ix - 1) - 1) - 1)), (), rfl, trivial, fn20, hn21, by rw [ht]; exact hP9, hD9⟩, hS.F ht⟩) hS.2.2 dJ6_getChars_ba4f3_120)
    · skip
      refine lv_iload_n hx hb dJ6_getChars_ba4f3_22 rfl (lv_at hl 2 rfl) ?_
      refine lv_bipush (v := (-100)) hx hb dJ6_getChars_ba4f3_23 (by decide) ?_
      refine lv_icmp_gt (tgt := 72) hx hb dJ6_getChars_ba4f3_25 (by decide) (fun c9 => absurd c9 (ng_ngt hn3 (by omega))) (fun c22 => ?_)
      refine lv_iload_n hx hb dJ6_getChars_ba4f3_28 rfl (lv_at hl 2 rfl) ?_
      refine lv_bipush (v := 100) hx hb dJ6_getChars_ba4f3_29 (by decide) ?_
      obtain ⟨w0x, hw0x⟩ : ∃ x9, x9 = w9 / 100 := ⟨_, rfl⟩
      have hdw0x : dg w9 = dg w0x + 2 := by rw [hw0x]; exact dg_100 (by omega) hn3
      have hpw0x := dg_pos w0x
      refine lv_idiv hx hb dJ6_getChars_ba4f3_31 (by decide) ?_
      refine lv_topi (fun yn23 eyn23 => ?_)
      obtain rfl : yn23 = (ngI w0x) := eyn23.trans (by rw [ng_div (by omega), ← hw0x])
      refine lv_istore_n (lv' := [(3, .int (ngI w0x)), (6, .int 1), (5, .int (nI ix)), (0, .int (ngI w9)), (1, .int (nI ix)), (2, .ref o1)]) hx hb dJ6_getChars_ba4f3_32 rfl hl (by decide) rfl (fun ls hl => ?_)
      refine lv_iload_n hx hb dJ6_getChars_ba4f3_33 rfl (lv_at hl 0 rfl) ?_
      refine lv_bipush (v := 100) hx hb dJ6_getChars_ba4f3_34 (by decide) ?_
      refine lv_imul hx hb dJ6_getChars_ba4f3_36 ?_
      refine lv_topi (fun yn24 eyn24 => ?_)
      refine lv_iload_n hx hb dJ6_getChars_ba4f3_37 rfl (lv_at hl 3 rfl) ?_
      refine lv_isub hx hb dJ6_getChars_ba4f3_38 ?_
      refine lv_topi (fun yn27 eyn27 => ?_)
      obtain rfl : yn27 = (nI (w9 % 100)) := eyn27.trans (by rw [eyn24, hw0x]; exact ng_rem (by omega))
      refine lv_istore (lv' := [(4, .int (nI (w9 % 100))), (3, .int (ngI w0x)), (6, .int 1), (5, .int (nI ix)), (0, .int (ngI w9)), (1, .int (nI ix)), (2, .ref o1)]) hx hb dJ6_getChars_ba4f3_39 hl (by decide) rfl (fun ls hl => ?_)
      refine lv_iload_n hx hb dJ6_getChars_ba4f3_41 rfl (lv_at hl 1 rfl) ?_
      refine lv_istore_n (lv' := [(0, .int (ngI w0x)), (4, .int (nI (w9 % 100))), (3, .int (ngI w0x)), (6, .int 1), (5, .int (nI ix)), (1, .int (nI ix)), (2, .ref o1)]) hx hb dJ6_getChars_ba4f3_42 rfl hl (by decide) rfl (fun ls hl => ?_)
      refine lv_aload_n hx hb dJ6_getChars_ba4f3_43 rfl (lv_at hl 6 rfl) ?_
      refine lv_iinc (v := (nI (ix - 1))) (lv' := [(5, .int (nI (ix - 1))), (0, .int (ngI w0x)), (4, .int (nI (w9 % 100))), (3, .int (ngI w0x)), (6, .int 1), (1, .int (nI ix)), (2, .ref o1)]) hx hb dJ6_getChars_ba4f3_44 hl (k := 4) rfl (nI_dec (a := ix) (b := (ix - 1)) (by omega)) (by decide) rfl (fun ls hl => ?_)
      refine lv_iload hx hb dJ6_getChars_ba4f3_47 (lv_at hl 0 rfl) ?_
      refine va_gets hx hb hd1 hS hown (hts (.fieldLink RJ6 83 "java/lang/Integer" "DigitOnes" "[B") (by decide +kernel)) (fun _ h9 => h9) dJ6_getChars_ba4f3_49 ?_
      refine lv_iload hx hb dJ6_getChars_ba4f3_52 (lv_at hl 2 rfl) ?_
      refine va_tb (v := .int (f1 ((nI (w9 % 100))).toNatClampNeg)) hx hb ht1 hS (vp_in_nI (n := (w9 % 100)) (N := 100) (show (w9 % 100) < 100 by omega) (by decide)) rfl dJ6_getChars_ba4f3_54 ?_
      refine lv_topi (fun yn28 eyn28 => ?_)
      refine va_bast hx hb hK hP hD hS 0 3 rfl rfl (vp_in_nI (n := (ix - 1)) (N := cp) (show (ix - 1) < cp by omega) (by omega)) dJ6_getChars_ba4f3_55 (fun H locs hP hD hS => ?_)
      obtain ⟨hP, hD⟩ : PDq D A [(o1, .inl (cA 3, cp, .inl (upd fy (((nI (ix - 1))).toNatClampNeg) (vp_nar .byte yn28))))] H := ⟨hP, hD⟩
      have hn30 : sb_Fit (upd fy (((nI (ix - 1))).toNatClampNeg) (vp_nar .byte yn28)) := (sb_fitU hfit (pk_fb _))
      generalize (upd fy (((nI (ix - 1))).toNatClampNeg) (vp_nar .byte yn28)) = fn29 at hP hD hn30
      obtain ⟨hP, hD⟩ : PDq D A [(o1, .inl (cA 3, cp, .inl fn29))] H := ⟨hP, hD⟩
      refine lv_aload_n hx hb dJ6_getChars_ba4f3_56 rfl (lv_at hl 6 rfl) ?_
      refine lv_iinc (v := (nI ((ix - 1) - 1))) (lv' := [(5, .int (nI ((ix - 1) - 1))), (0, .int (ngI w0x)), (4, .int (nI (w9 % 100))), (3, .int (ngI w0x)), (6, .int 1), (1, .int (nI ix)), (2, .ref o1)]) hx hb dJ6_getChars_ba4f3_57 hl (k := 0) rfl (nI_dec (a := (ix - 1)) (b := ((ix - 1) - 1)) (by omega)) (by decide) rfl (fun ls hl => ?_)
      refine lv_iload hx hb dJ6_getChars_ba4f3_60 (lv_at hl 0 rfl) ?_
      refine va_gets hx hb hd2 hS hown (hts (.fieldLink RJ6 87 "java/lang/Integer" "DigitTens" "[B") (by decide +kernel)) (fun _ h9 => h9) dJ6_getChars_ba4f3_62 ?_
      refine lv_iload hx hb dJ6_getChars_ba4f3_65 (lv_at hl 2 rfl) ?_
      refine va_tb (v := .int (f2 ((nI (w9 % 100))).toNatClampNeg)) hx hb ht2 hS (vp_in_nI (n := (w9 % 100)) (N := 100) (show (w9 % 100) < 100 by omega) (by decide)) rfl dJ6_getChars_ba4f3_67 ?_
      refine lv_topi (fun yn31 eyn31 => ?_)
      refine va_bast hx hb hK hP hD hS 0 3 rfl rfl (vp_in_nI (n := ((ix - 1) - 1)) (N := cp) (show ((ix - 1) - 1) < cp by omega) (by omega)) dJ6_getChars_ba4f3_68 (fun H locs hP hD hS => ?_)
      obtain ⟨hP, hD⟩ : PDq D A [(o1, .inl (cA 3, cp, .inl (upd fn29 (((nI ((ix - 1) - 1))).toNatClampNeg) (vp_nar .byte yn31))))] H := ⟨hP, hD⟩
      have hn33 : sb_Fit (upd fn29 (((nI ((ix - 1) - 1))).toNatClampNeg) (vp_nar .byte yn31)) := (sb_fitU hn30 (pk_fb _))
      generalize (upd fn29 (((nI ((ix - 1) - 1))).toNatClampNeg) (vp_nar .byte yn31)) = fn32 at hP hD hn33
      obtain ⟨hP, hD⟩ : PDq D A [(o1, .inl (cA 3, cp, .inl fn32))] H := ⟨hP, hD⟩
      refine lv_goto (tgt := 22) hx hb dJ6_getChars_ba4f3_69 (by decide) ?_
      have hqhn34 := dg_pos w0x
      rcases Nat.lt_or_ge w0x 100 with hn34 | hn34
      · skip
        refine lv_iload_n hx hb dJ6_getChars_ba4f3_22 rfl (lv_at hl 1 rfl) ?_
        refine lv_bipush (v := (-100)) hx hb dJ6_getChars_ba4f3_23 (by decide) ?_
        refine lv_icmp_gt (tgt := 72) hx hb dJ6_getChars_ba4f3_25 (by decide) (fun c35 => ?_) (fun c9 => absurd c9 (fun h9 => h9 (ng_gt hn34)))
        refine lv_aload_n hx hb dJ6_getChars_ba4f3_72 rfl (lv_at hl 6 rfl) ?_
        refine lv_iinc (v := (nI (((ix - 1) - 1) - 1))) (lv' := [(5, .int (nI (((ix - 1) - 1) - 1))), (0, .int (ngI w0x)), (4, .int (nI (w9 % 100))), (3, .int (ngI w0x)), (6, .int 1), (1, .int (nI ix)), (2, .ref o1)]) hx hb dJ6_getChars_ba4f3_73 hl (k := 0) rfl (nI_dec (a := ((ix - 1) - 1)) (b := (((ix - 1) - 1) - 1)) (by omega)) (by decide) rfl (fun ls hl => ?_)
        refine lv_iload hx hb dJ6_getChars_ba4f3_76 (lv_at hl 0 rfl) ?_
        refine va_gets hx hb hd1 hS hown (hts (.fieldLink RJ6 83 "java/lang/Integer" "DigitOnes" "[B") (by decide +kernel)) (fun _ h9 => h9) dJ6_getChars_ba4f3_78 ?_
        refine lv_iload_n hx hb dJ6_getChars_ba4f3_81 rfl (lv_at hl 1 rfl) ?_
        refine lv_ineg hx hb dJ6_getChars_ba4f3_82 ?_
        refine lv_topi (fun yn36 eyn36 => ?_)
        obtain rfl : yn36 = (nI w0x) := eyn36.trans (ng_opp)
        refine va_tb (v := .int (f1 ((nI w0x)).toNatClampNeg)) hx hb ht1 hS (vp_in_nI (n := w0x) (N := 100) (show w0x < 100 by omega) (by decide)) rfl dJ6_getChars_ba4f3_83 ?_
        refine lv_topi (fun yn37 eyn37 => ?_)
        refine va_bast hx hb hK hP hD hS 0 3 rfl rfl (vp_in_nI (n := (((ix - 1) - 1) - 1)) (N := cp) (show (((ix - 1) - 1) - 1) < cp by omega) (by omega)) dJ6_getChars_ba4f3_84 (fun H locs hP hD hS => ?_)
        obtain ⟨hP, hD⟩ : PDq D A [(o1, .inl (cA 3, cp, .inl (upd fn32 (((nI (((ix - 1) - 1) - 1))).toNatClampNeg) (vp_nar .byte yn37))))] H := ⟨hP, hD⟩
        have hn39 : sb_Fit (upd fn32 (((nI (((ix - 1) - 1) - 1))).toNatClampNeg) (vp_nar .byte yn37)) := (sb_fitU hn33 (pk_fb _))
        generalize (upd fn32 (((nI (((ix - 1) - 1) - 1))).toNatClampNeg) (vp_nar .byte yn37)) = fn38 at hP hD hn39
        obtain ⟨hP, hD⟩ : PDq D A [(o1, .inl (cA 3, cp, .inl fn38))] H := ⟨hP, hD⟩
        rcases Nat.lt_or_ge w0x 10 with hn40 | hn40
        · skip
          refine lv_iload_n hx hb dJ6_getChars_ba4f3_85 rfl (lv_at hl 1 rfl) ?_
          refine lv_bipush (v := (-9)) hx hb dJ6_getChars_ba4f3_86 (by decide) ?_
          refine lv_icmp_ge (tgt := 104) hx hb dJ6_getChars_ba4f3_88 (by decide) (fun c41 => ?_) (fun c9 => absurd c9 (fun h9 => h9 (ng_ge9 hn40)))
          refine lv_iload hx hb dJ6_getChars_ba4f3_104 (lv_at hl 4 rfl) ?_
          refine lv_if_eq (tgt := 118) hx hb dJ6_getChars_ba4f3_106 (by decide) (fun c9 => absurd c9 (by decide)) (fun c42 => ?_)
          refine lv_aload_n hx hb dJ6_getChars_ba4f3_109 rfl (lv_at hl 6 rfl) ?_
          refine lv_iinc (v := (nI ((((ix - 1) - 1) - 1) - 1))) (lv' := [(5, .int (nI ((((ix - 1) - 1) - 1) - 1))), (0, .int (ngI w0x)), (4, .int (nI (w9 % 100))), (3, .int (ngI w0x)), (6, .int 1), (1, .int (nI ix)), (2, .ref o1)]) hx hb dJ6_getChars_ba4f3_110 hl (k := 0) rfl (nI_dec (a := (((ix - 1) - 1) - 1)) (b := ((((ix - 1) - 1) - 1) - 1)) (by omega)) (by decide) rfl (fun ls hl => ?_)
          refine lv_iload hx hb dJ6_getChars_ba4f3_113 (lv_at hl 0 rfl) ?_
          refine lv_bipush (v := 45) hx hb dJ6_getChars_ba4f3_115 (by decide) ?_
          refine va_bast hx hb hK hP hD hS 0 3 rfl rfl (vp_in_nI (n := ((((ix - 1) - 1) - 1) - 1)) (N := cp) (show ((((ix - 1) - 1) - 1) - 1) < cp by omega) (by omega)) dJ6_getChars_ba4f3_117 (fun H locs hP hD hS => ?_)
          obtain ⟨hP, hD⟩ : PDq D A [(o1, .inl (cA 3, cp, .inl (upd fn38 (((nI ((((ix - 1) - 1) - 1) - 1))).toNatClampNeg) (vp_nar .byte 45))))] H := ⟨hP, hD⟩
          have hn44 : sb_Fit (upd fn38 (((nI ((((ix - 1) - 1) - 1) - 1))).toNatClampNeg) (vp_nar .byte 45)) := (sb_fitU hn39 (pk_fb _))
          generalize (upd fn38 (((nI ((((ix - 1) - 1) - 1) - 1))).toNatClampNeg) (vp_nar .byte 45)) = fn43 at hP hD hn44
          obtain ⟨hP, hD⟩ : PDq D A [(o1, .inl (cA 3, cp, .inl fn43))] H := ⟨hP, hD⟩
          refine lv_iload hx hb dJ6_getChars_ba4f3_118 (lv_at hl 0 rfl) ?_
          obtain ⟨hP9, hD9⟩ := PDq.sub (ws' := [(o1, .inl (cA 3, cp, .inl fn43))]) hP hD [0] (by decide) rfl
          refine W.widen (k := 0) (n := 0) (Nat.le_of_ble_eq_true rfl) (Nat.le_of_ble_eq_true rfl) ?_
          exact (W.iret (v := (nI ((((ix - 1) - 1) - 1) - 1))) hx hb hr (fun t ht hW => ⟨⟨(nI ((((ix - 1) - 1) - 1) - 1)), (), rfl, trivial, fn43, hn44, by rw [ht]; exact hP9, hD9⟩, hS.F ht⟩) hS.2.2 dJ6_getChars_ba4f3_120)
        · skip
          have hqhn40 := dg_2 hn40 (by omega)
          refine lv_iload_n hx hb dJ6_getChars_ba4f3_85 rfl (lv_at hl 1 rfl) ?_
          refine lv_bipush (v := (-9)) hx hb dJ6_getChars_ba4f3_86 (by decide) ?_
          refine lv_icmp_ge (tgt := 104) hx hb dJ6_getChars_ba4f3_88 (by decide) (fun c9 => absurd c9 (ng_nge9 hn40 (by omega))) (fun c45 => ?_)
          refine lv_aload_n hx hb dJ6_getChars_ba4f3_91 rfl (lv_at hl 6 rfl) ?_
          refine lv_iinc (v := (nI ((((ix - 1) - 1) - 1) - 1))) (lv' := [(5, .int (nI ((((ix - 1) - 1) - 1) - 1))), (0, .int (ngI w0x)), (4, .int (nI (w9 % 100))), (3, .int (ngI w0x)), (6, .int 1), (1, .int (nI ix)), (2, .ref o1)]) hx hb dJ6_getChars_ba4f3_92 hl (k := 0) rfl (nI_dec (a := (((ix - 1) - 1) - 1)) (b := ((((ix - 1) - 1) - 1) - 1)) (by omega)) (by decide) rfl (fun ls hl => ?_)
          refine lv_iload hx hb dJ6_getChars_ba4f3_95 (lv_at hl 0 rfl) ?_
          refine va_gets hx hb hd2 hS hown (hts (.fieldLink RJ6 87 "java/lang/Integer" "DigitTens" "[B") (by decide +kernel)) (fun _ h9 => h9) dJ6_getChars_ba4f3_97 ?_
          refine lv_iload_n hx hb dJ6_getChars_ba4f3_100 rfl (lv_at hl 1 rfl) ?_
          refine lv_ineg hx hb dJ6_getChars_ba4f3_101 ?_
          refine lv_topi (fun yn46 eyn46 => ?_)
          obtain rfl : yn46 = (nI w0x) := eyn46.trans (ng_opp)
          refine va_tb (v := .int (f2 ((nI w0x)).toNatClampNeg)) hx hb ht2 hS (vp_in_nI (n := w0x) (N := 100) (show w0x < 100 by omega) (by decide)) rfl dJ6_getChars_ba4f3_102 ?_
          refine lv_topi (fun yn47 eyn47 => ?_)
          refine va_bast hx hb hK hP hD hS 0 3 rfl rfl (vp_in_nI (n := ((((ix - 1) - 1) - 1) - 1)) (N := cp) (show ((((ix - 1) - 1) - 1) - 1) < cp by omega) (by omega)) dJ6_getChars_ba4f3_103 (fun H locs hP hD hS => ?_)
          obtain ⟨hP, hD⟩ : PDq D A [(o1, .inl (cA 3, cp, .inl (upd fn38 (((nI ((((ix - 1) - 1) - 1) - 1))).toNatClampNeg) (vp_nar .byte yn47))))] H := ⟨hP, hD⟩
          have hn49 : sb_Fit (upd fn38 (((nI ((((ix - 1) - 1) - 1) - 1))).toNatClampNeg) (vp_nar .byte yn47)) := (sb_fitU hn39 (pk_fb _))
          generalize (upd fn38 (((nI ((((ix - 1) - 1) - 1) - 1))).toNatClampNeg) (vp_nar .byte yn47)) = fn48 at hP hD hn49
          obtain ⟨hP, hD⟩ : PDq D A [(o1, .inl (cA 3, cp, .inl fn48))] H := ⟨hP, hD⟩
          refine lv_iload hx hb dJ6_getChars_ba4f3_104 (lv_at hl 4 rfl) ?_
          refine lv_if_eq (tgt := 118) hx hb dJ6_getChars_ba4f3_106 (by decide) (fun c9 => absurd c9 (by decide)) (fun c50 => ?_)
          refine lv_aload_n hx hb dJ6_getChars_ba4f3_109 rfl (lv_at hl 6 rfl) ?_
          refine lv_iinc (v := (nI (((((ix - 1) - 1) - 1) - 1) - 1))) (lv' := [(5, .int (nI (((((ix - 1) - 1) - 1) - 1) - 1))), (0, .int (ngI w0x)), (4, .int (nI (w9 % 100))), (3, .int (ngI w0x)), (6, .int 1), (1, .int (nI ix)), (2, .ref o1)]) hx hb dJ6_getChars_ba4f3_110 hl (k := 0) rfl (nI_dec (a := ((((ix - 1) - 1) - 1) - 1)) (b := (((((ix - 1) - 1) - 1) - 1) - 1)) (by omega)) (by decide) rfl (fun ls hl => ?_)
          refine lv_iload hx hb dJ6_getChars_ba4f3_113 (lv_at hl 0 rfl) ?_
          refine lv_bipush (v := 45) hx hb dJ6_getChars_ba4f3_115 (by decide) ?_
          refine va_bast hx hb hK hP hD hS 0 3 rfl rfl (vp_in_nI (n := (((((ix - 1) - 1) - 1) - 1) - 1)) (N := cp) (show (((((ix - 1) - 1) - 1) - 1) - 1) < cp by omega) (by omega)) dJ6_getChars_ba4f3_117 (fun H locs hP hD hS => ?_)
          obtain ⟨hP, hD⟩ : PDq D A [(o1, .inl (cA 3, cp, .inl (upd fn48 (((nI (((((ix - 1) - 1) - 1) - 1) - 1))).toNatClampNeg) (vp_nar .byte 45))))] H := ⟨hP, hD⟩
          have hn52 : sb_Fit (upd fn48 (((nI (((((ix - 1) - 1) - 1) - 1) - 1))).toNatClampNeg) (vp_nar .byte 45)) := (sb_fitU hn49 (pk_fb _))
          generalize (upd fn48 (((nI (((((ix - 1) - 1) - 1) - 1) - 1))).toNatClampNeg) (vp_nar .byte 45)) = fn51 at hP hD hn52
          obtain ⟨hP, hD⟩ : PDq D A [(o1, .inl (cA 3, cp, .inl fn51))] H := ⟨hP, hD⟩
          refine lv_iload hx hb dJ6_getChars_ba4f3_118 (lv_at hl 0 rfl) ?_
          obtain ⟨hP9, hD9⟩ := PDq.sub (ws' := [(o1, .inl (cA 3, cp, .inl fn51))]) hP hD [0] (by decide) rfl
          refine W.widen (k := 0) (n := 0) (Nat.le_of_ble_eq_true rfl) (Nat.le_of_ble_eq_true rfl) ?_
          exact (W.iret (v := (nI (((((ix - 1) - 1) - 1) - 1) - 1))) hx hb hr (fun t ht hW => ⟨⟨(nI (((((ix - 1) - 1) - 1) - 1) - 1)), (), rfl, trivial, fn51, hn52, by rw [ht]; exact hP9, hD9⟩, hS.F ht⟩) hS.2.2 dJ6_getChars_ba4f3_120)
      · skip
        refine lv_iload_n hx hb dJ6_getChars_ba4f3_22 rfl (lv_at hl 1 rfl) ?_
        refine lv_bipush (v := (-100)) hx hb dJ6_getChars_ba4f3_23 (by decide) ?_
        refine lv_icmp_gt (tgt := 72) hx hb dJ6_getChars_ba4f3_25 (by decide) (fun c9 => absurd c9 (ng_ngt hn34 (by omega))) (fun c53 => ?_)
        refine lv_iload_n hx hb dJ6_getChars_ba4f3_28 rfl (lv_at hl 1 rfl) ?_
        refine lv_bipush (v := 100) hx hb dJ6_getChars_ba4f3_29 (by decide) ?_
        obtain ⟨w1x, hw1x⟩ : ∃ x9, x9 = w0x / 100 := ⟨_, rfl⟩
        have hdw1x : dg w0x = dg w1x + 2 := by rw [hw1x]; exact dg_100 (by omega) hn34
        have hpw1x := dg_pos w1x
        refine lv_idiv hx hb dJ6_getChars_ba4f3_31 (by decide) ?_
        refine lv_topi (fun yn54 eyn54 => ?_)
        obtain rfl : yn54 = (ngI w1x) := eyn54.trans (by rw [ng_div (by omega), ← hw1x])
        refine lv_istore_n (lv' := [(3, .int (ngI w1x)), (5, .int (nI ((ix - 1) - 1))), (0, .int (ngI w0x)), (4, .int (nI (w9 % 100))), (6, .int 1), (1, .int (nI ix)), (2, .ref o1)]) hx hb dJ6_getChars_ba4f3_32 rfl hl (by decide) rfl (fun ls hl => ?_)
        refine lv_iload_n hx hb dJ6_getChars_ba4f3_33 rfl (lv_at hl 0 rfl) ?_
        refine lv_bipush (v := 100) hx hb dJ6_getChars_ba4f3_34 (by decide) ?_
        refine lv_imul hx hb dJ6_getChars_ba4f3_36 ?_
        refine lv_topi (fun yn55 eyn55 => ?_)
        refine lv_iload_n hx hb dJ6_getChars_ba4f3_37 rfl (lv_at hl 2 rfl) ?_
        refine lv_isub hx hb dJ6_getChars_ba4f3_38 ?_
        refine lv_topi (fun yn58 eyn58 => ?_)
        obtain rfl : yn58 = (nI (w0x % 100)) := eyn58.trans (by rw [eyn55, hw1x]; exact ng_rem (by omega))
        refine lv_istore (lv' := [(4, .int (nI (w0x % 100))), (3, .int (ngI w1x)), (5, .int (nI ((ix - 1) - 1))), (0, .int (ngI w0x)), (6, .int 1), (1, .int (nI ix)), (2, .ref o1)]) hx hb dJ6_getChars_ba4f3_39 hl (by decide) rfl (fun ls hl => ?_)
        refine lv_iload_n hx hb dJ6_getChars_ba4f3_41 rfl (lv_at hl 1 rfl) ?_
        refine lv_istore_n (lv' := [(0, .int (ngI w1x)), (4, .int (nI (w0x % 100))), (3, .int (ngI w1x)), (5, .int (nI ((ix - 1) - 1))), (6, .int 1), (1, .int (nI ix)), (2, .ref o1)]) hx hb dJ6_getChars_ba4f3_42 rfl hl (by decide) rfl (fun ls hl => ?_)
        refine lv_aload_n hx hb dJ6_getChars_ba4f3_43 rfl (lv_at hl 6 rfl) ?_
        refine lv_iinc (v := (nI (((ix - 1) - 1) - 1))) (lv' := [(5, .int (nI (((ix - 1) - 1) - 1))), (0, .int (ngI w1x)), (4, .int (nI (w0x % 100))), (3, .int (ngI w1x)), (6, .int 1), (1, .int (nI ix)), (2, .ref o1)]) hx hb dJ6_getChars_ba4f3_44 hl (k := 3) rfl (nI_dec (a := ((ix - 1) - 1)) (b := (((ix - 1) - 1) - 1)) (by omega)) (by decide) rfl (fun ls hl => ?_)
        refine lv_iload hx hb dJ6_getChars_ba4f3_47 (lv_at hl 0 rfl) ?_
        refine va_gets hx hb hd1 hS hown (hts (.fieldLink RJ6 83 "java/lang/Integer" "DigitOnes" "[B") (by decide +kernel)) (fun _ h9 => h9) dJ6_getChars_ba4f3_49 ?_
        refine lv_iload hx hb dJ6_getChars_ba4f3_52 (lv_at hl 2 rfl) ?_
        refine va_tb (v := .int (f1 ((nI (w0x % 100))).toNatClampNeg)) hx hb ht1 hS (vp_in_nI (n := (w0x % 100)) (N := 100) (show (w0x % 100) < 100 by omega) (by decide)) rfl dJ6_getChars_ba4f3_54 ?_
        refine lv_topi (fun yn59 eyn59 => ?_)
        refine va_bast hx hb hK hP hD hS 0 3 rfl rfl (vp_in_nI (n := (((ix - 1) - 1) - 1)) (N := cp) (show (((ix - 1) - 1) - 1) < cp by omega) (by omega)) dJ6_getChars_ba4f3_55 (fun H locs hP hD hS => ?_)
        obtain ⟨hP, hD⟩ : PDq D A [(o1, .inl (cA 3, cp, .inl (upd fn32 (((nI (((ix - 1) - 1) - 1))).toNatClampNeg) (vp_nar .byte yn59))))] H := ⟨hP, hD⟩
        have hn61 : sb_Fit (upd fn32 (((nI (((ix - 1) - 1) - 1))).toNatClampNeg) (vp_nar .byte yn59)) := (sb_fitU hn33 (pk_fb _))
        generalize (upd fn32 (((nI (((ix - 1) - 1) - 1))).toNatClampNeg) (vp_nar .byte yn59)) = fn60 at hP hD hn61
        obtain ⟨hP, hD⟩ : PDq D A [(o1, .inl (cA 3, cp, .inl fn60))] H := ⟨hP, hD⟩
        refine lv_aload_n hx hb dJ6_getChars_ba4f3_56 rfl (lv_at hl 6 rfl) ?_
        refine lv_iinc (v := (nI ((((ix - 1) - 1) - 1) - 1))) (lv' := [(5, .int (nI ((((ix - 1) - 1) - 1) - 1))), (0, .int (ngI w1x)), (4, .int (nI (w0x % 100))), (3, .int (ngI w1x)), (6, .int 1), (1, .int (nI ix)), (2, .ref o1)]) hx hb dJ6_getChars_ba4f3_57 hl (k := 0) rfl (nI_dec (a := (((ix - 1) - 1) - 1)) (b := ((((ix - 1) - 1) - 1) - 1)) (by omega)) (by decide) rfl (fun ls hl => ?_)
        refine lv_iload hx hb dJ6_getChars_ba4f3_60 (lv_at hl 0 rfl) ?_
        refine va_gets hx hb hd2 hS hown (hts (.fieldLink RJ6 87 "java/lang/Integer" "DigitTens" "[B") (by decide +kernel)) (fun _ h9 => h9) dJ6_getChars_ba4f3_62 ?_
        refine lv_iload hx hb dJ6_getChars_ba4f3_65 (lv_at hl 2 rfl) ?_
        refine va_tb (v := .int (f2 ((nI (w0x % 100))).toNatClampNeg)) hx hb ht2 hS (vp_in_nI (n := (w0x % 100)) (N := 100) (show (w0x % 100) < 100 by omega) (by decide)) rfl dJ6_getChars_ba4f3_67 ?_
        refine lv_topi (fun yn62 eyn62 => ?_)
        refine va_bast hx hb hK hP hD hS 0 3 rfl rfl (vp_in_nI (n := ((((ix - 1) - 1) - 1) - 1)) (N := cp) (show ((((ix - 1) - 1) - 1) - 1) < cp by omega) (by omega)) dJ6_getChars_ba4f3_68 (fun H locs hP hD hS => ?_)
        obtain ⟨hP, hD⟩ : PDq D A [(o1, .inl (cA 3, cp, .inl (upd fn60 (((nI ((((ix - 1) - 1) - 1) - 1))).toNatClampNeg) (vp_nar .byte yn62))))] H := ⟨hP, hD⟩
        have hn64 : sb_Fit (upd fn60 (((nI ((((ix - 1) - 1) - 1) - 1))).toNatClampNeg) (vp_nar .byte yn62)) := (sb_fitU hn61 (pk_fb _))
        generalize (upd fn60 (((nI ((((ix - 1) - 1) - 1) - 1))).toNatClampNeg) (vp_nar .byte yn62)) = fn63 at hP hD hn64
        obtain ⟨hP, hD⟩ : PDq D A [(o1, .inl (cA 3, cp, .inl fn63))] H := ⟨hP, hD⟩
        refine lv_goto (tgt := 22) hx hb dJ6_getChars_ba4f3_69 (by decide) ?_
        have hqhn65 := dg_pos w1x
        rcases Nat.lt_or_ge w1x 100 with hn65 | hn65
        · skip
          refine lv_iload_n hx hb dJ6_getChars_ba4f3_22 rfl (lv_at hl 1 rfl) ?_
          refine lv_bipush (v := (-100)) hx hb dJ6_getChars_ba4f3_23 (by decide) ?_
          refine lv_icmp_gt (tgt := 72) hx hb dJ6_getChars_ba4f3_25 (by decide) (fun c66 => ?_) (fun c9 => absurd c9 (fun h9 => h9 (ng_gt hn65)))
          refine lv_aload_n hx hb dJ6_getChars_ba4f3_72 rfl (lv_at hl 6 rfl) ?_
          refine lv_iinc (v := (nI (((((ix - 1) - 1) - 1) - 1) - 1))) (lv' := [(5, .int (nI (((((ix - 1) - 1) - 1) - 1) - 1))), (0, .int (ngI w1x)), (4, .int (nI (w0x % 100))), (3, .int (ngI w1x)), (6, .int 1), (1, .int (nI ix)), (2, .ref o1)]) hx hb dJ6_getChars_ba4f3_73 hl (k := 0) rfl (nI_dec (a := ((((ix - 1) - 1) - 1) - 1)) (b := (((((ix - 1) - 1) - 1) - 1) - 1)) (by omega)) (by decide) rfl (fun ls hl => ?_)
          refine lv_iload hx hb dJ6_getChars_ba4f3_76 (lv_at hl 0 rfl) ?_
          refine va_gets hx hb hd1 hS hown (hts (.fieldLink RJ6 83 "java/lang/Integer" "DigitOnes" "[B") (by decide +kernel)) (fun _ h9 => h9) dJ6_getChars_ba4f3_78 ?_
          refine lv_iload_n hx hb dJ6_getChars_ba4f3_81 rfl (lv_at hl 1 rfl) ?_
          refine lv_ineg hx hb dJ6_getChars_ba4f3_82 ?_
          refine lv_topi (fun yn67 eyn67 => ?_)
          obtain rfl : yn67 = (nI w1x) := eyn67.trans (ng_opp)
          refine va_tb (v := .int (f1 ((nI w1x)).toNatClampNeg)) hx hb ht1 hS (vp_in_nI (n := w1x) (N := 100) (show w1x < 100 by omega) (by decide)) rfl dJ6_getChars_ba4f3_83 ?_
          refine lv_topi (fun yn68 eyn68 => ?_)
          refine va_bast hx hb hK hP hD hS 0 3 rfl rfl (vp_in_nI (n := (((((ix - 1) - 1) - 1) - 1) - 1)) (N := cp) (show (((((ix - 1) - 1) - 1) - 1) - 1) < cp by omega) (by omega)) dJ6_getChars_ba4f3_84 (fun H locs hP hD hS => ?_)
          obtain ⟨hP, hD⟩ : PDq D A [(o1, .inl (cA 3, cp, .inl (upd fn63 (((nI (((((ix - 1) - 1) - 1) - 1) - 1))).toNatClampNeg) (vp_nar .byte yn68))))] H := ⟨hP, hD⟩
          have hn70 : sb_Fit (upd fn63 (((nI (((((ix - 1) - 1) - 1) - 1) - 1))).toNatClampNeg) (vp_nar .byte yn68)) := (sb_fitU hn64 (pk_fb _))
          generalize (upd fn63 (((nI (((((ix - 1) - 1) - 1) - 1) - 1))).toNatClampNeg) (vp_nar .byte yn68)) = fn69 at hP hD hn70
          obtain ⟨hP, hD⟩ : PDq D A [(o1, .inl (cA 3, cp, .inl fn69))] H := ⟨hP, hD⟩
          rcases Nat.lt_or_ge w1x 10 with hn71 | hn71
          · skip
            refine lv_iload_n hx hb dJ6_getChars_ba4f3_85 rfl (lv_at hl 1 rfl) ?_
            refine lv_bipush (v := (-9)) hx hb dJ6_getChars_ba4f3_86 (by decide) ?_
            refine lv_icmp_ge (tgt := 104) hx hb dJ6_getChars_ba4f3_88 (by decide) (fun c72 => ?_) (fun c9 => absurd c9 (fun h9 => h9 (ng_ge9 hn71)))
            refine lv_iload hx hb dJ6_getChars_ba4f3_104 (lv_at hl 4 rfl) ?_
            refine lv_if_eq (tgt := 118) hx hb dJ6_getChars_ba4f3_106 (by decide) (fun c9 => absurd c9 (by decide)) (fun c73 => ?_)
            refine lv_aload_n hx hb dJ6_getChars_ba4f3_109 rfl (lv_at hl 6 rfl) ?_
            refine lv_iinc (v := (nI ((((((ix - 1) - 1) - 1) - 1) - 1) - 1))) (lv' := [(5, .int (nI ((((((ix - 1) - 1) - 1) - 1) - 1) - 1))), (0, .int (ngI w1x)), (4, .int (nI (w0x % 100))), (3, .int (ngI w1x)), (6, .int 1), (1, .int (nI ix)), (2, .ref o1)]) hx hb dJ6_getChars_ba4f3_110 hl (k := 0) rfl (nI_dec (a := (((((ix - 1) - 1) - 1) - 1) - 1)) (b := ((((((ix - 1) - 1) - 1) - 1) - 1) - 1)) (by omega)) (by decide) rfl (fun ls hl => ?_)
            refine lv_iload hx hb dJ6_getChars_ba4f3_113 (lv_at hl 0 rfl) ?_
            refine lv_bipush (v := 45) hx hb dJ6_getChars_ba4f3_115 (by decide) ?_
            refine va_bast hx hb hK hP hD hS 0 3 rfl rfl (vp_in_nI (n := ((((((ix - 1) - 1) - 1) - 1) - 1) - 1)) (N := cp) (show ((((((ix - 1) - 1) - 1) - 1) - 1) - 1) < cp by omega) (by omega)) dJ6_getChars_ba4f3_117 (fun H locs hP hD hS => ?_)
            obtain ⟨hP, hD⟩ : PDq D A [(o1, .inl (cA 3, cp, .inl (upd fn69 (((nI ((((((ix - 1) - 1) - 1) - 1) - 1) - 1))).toNatClampNeg) (vp_nar .byte 45))))] H := ⟨hP, hD⟩
            have hn75 : sb_Fit (upd fn69 (((nI ((((((ix - 1) - 1) - 1) - 1) - 1) - 1))).toNatClampNeg) (vp_nar .byte 45)) := (sb_fitU hn70 (pk_fb _))
            generalize (upd fn69 (((nI ((((((ix - 1) - 1) - 1) - 1) - 1) - 1))).toNatClampNeg) (vp_nar .byte 45)) = fn74 at hP hD hn75
            obtain ⟨hP, hD⟩ : PDq D A [(o1, .inl (cA 3, cp, .inl fn74))] H := ⟨hP, hD⟩
            refine lv_iload hx hb dJ6_getChars_ba4f3_118 (lv_at hl 0 rfl) ?_
            obtain ⟨hP9, hD9⟩ := PDq.sub (ws' := [(o1, .inl (cA 3, cp, .inl fn74))]) hP hD [0] (by decide) rfl
            refine W.widen (k := 0) (n := 0) (Nat.le_of_ble_eq_true rfl) (Nat.le_of_ble_eq_true rfl) ?_
            exact (W.iret (v := (nI ((((((ix - 1) - 1) - 1) - 1) - 1) - 1))) hx hb hr (fun t ht hW => ⟨⟨(nI ((((((ix - 1) - 1) - 1) - 1) - 1) - 1)), (), rfl, trivial, fn74, hn75, by rw [ht]; exact hP9, hD9⟩, hS.F ht⟩) hS.2.2 dJ6_getChars_ba4f3_120)
          · skip
            have hqhn71 := dg_2 hn71 (by omega)
            refine lv_iload_n hx hb dJ6_getChars_ba4f3_85 rfl (lv_at hl 1 rfl) ?_
            refine lv_bipush (v := (-9)) hx hb dJ6_getChars_ba4f3_86 (by decide) ?_
            refine lv_icmp_ge (tgt := 104) hx hb dJ6_getChars_ba4f3_88 (by decide) (fun c9 => absurd c9 (ng_nge9 hn71 (by omega))) (fun c76 => ?_)
            refine lv_aload_n hx hb dJ6_getChars_ba4f3_91 rfl (lv_at hl 6 rfl) ?_
            refine lv_iinc (v := (nI ((((((ix - 1) - 1) - 1) - 1) - 1) - 1))) (lv' := [(5, .int (nI ((((((ix - 1) - 1) - 1) - 1) - 1) - 1))), (0, .int (ngI w1x)), (4, .int (nI (w0x % 100))), (3, .int (ngI w1x)), (6, .int 1), (1, .int (nI ix)), (2, .ref o1)]) hx hb dJ6_getChars_ba4f3_92 hl (k := 0) rfl (nI_dec (a := (((((ix - 1) - 1) - 1) - 1) - 1)) (b := ((((((ix - 1) - 1) - 1) - 1) - 1) - 1)) (by omega)) (by decide) rfl (fun ls hl => ?_)
            refine lv_iload hx hb dJ6_getChars_ba4f3_95 (lv_at hl 0 rfl) ?_
            refine va_gets hx hb hd2 hS hown (hts (.fieldLink RJ6 87 "java/lang/Integer" "DigitTens" "[B") (by decide +kernel)) (fun _ h9 => h9) dJ6_getChars_ba4f3_97 ?_
            refine lv_iload_n hx hb dJ6_getChars_ba4f3_100 rfl (lv_at hl 1 rfl) ?_
            refine lv_ineg hx hb dJ6_getChars_ba4f3_101 ?_
            refine lv_topi (fun yn77 eyn77 => ?_)
            obtain rfl : yn77 = (nI w1x) := eyn77.trans (ng_opp)
            refine va_tb (v := .int (f2 ((nI w1x)).toNatClampNeg)) hx hb ht2 hS (vp_in_nI (n := w1x) (N := 100) (show w1x < 100 by omega) (by decide)) rfl dJ6_getChars_ba4f3_102 ?_
            refine lv_topi (fun yn78 eyn78 => ?_)
            refine va_bast hx hb hK hP hD hS 0 3 rfl rfl (vp_in_nI (n := ((((((ix - 1) - 1) - 1) - 1) - 1) - 1)) (N := cp) (show ((((((ix - 1) - 1) - 1) - 1) - 1) - 1) < cp by omega) (by omega)) dJ6_getChars_ba4f3_103 (fun H locs hP hD hS => ?_)
            obtain ⟨hP, hD⟩ : PDq D A [(o1, .inl (cA 3, cp, .inl (upd fn69 (((nI ((((((ix - 1) - 1) - 1) - 1) - 1) - 1))).toNatClampNeg) (vp_nar .byte yn78))))] H := ⟨hP, hD⟩
            have hn80 : sb_Fit (upd fn69 (((nI ((((((ix - 1) - 1) - 1) - 1) - 1) - 1))).toNatClampNeg) (vp_nar .byte yn78)) := (sb_fitU hn70 (pk_fb _))
            generalize (upd fn69 (((nI ((((((ix - 1) - 1) - 1) - 1) - 1) - 1))).toNatClampNeg) (vp_nar .byte yn78)) = fn79 at hP hD hn80
            obtain ⟨hP, hD⟩ : PDq D A [(o1, .inl (cA 3, cp, .inl fn79))] H := ⟨hP, hD⟩
            refine lv_iload hx hb dJ6_getChars_ba4f3_104 (lv_at hl 4 rfl) ?_
            refine lv_if_eq (tgt := 118) hx hb dJ6_getChars_ba4f3_106 (by decide) (fun c9 => absurd c9 (by decide)) (fun c81 => ?_)
            refine lv_aload_n hx hb dJ6_getChars_ba4f3_109 rfl (lv_at hl 6 rfl) ?_
            refine lv_iinc (v := (nI (((((((ix - 1) - 1) - 1) - 1) - 1) - 1) - 1))) (lv' := [(5, .int (nI (((((((ix - 1) - 1) - 1) - 1) - 1) - 1) - 1))), (0, .int (ngI w1x)), (4, .int (nI (w0x % 100))), (3, .int (ngI w1x)), (6, .int 1), (1, .int (nI ix)), (2, .ref o1)]) hx hb dJ6_getChars_ba4f3_110 hl (k := 0) rfl (nI_dec (a := ((((((ix - 1) - 1) - 1) - 1) - 1) - 1)) (b := (((((((ix - 1) - 1) - 1) - 1) - 1) - 1) - 1)) (by omega)) (by decide) rfl (fun ls hl => ?_)
            refine lv_iload hx hb dJ6_getChars_ba4f3_113 (lv_at hl 0 rfl) ?_
            refine lv_bipush (v := 45) hx hb dJ6_getChars_ba4f3_115 (by decide) ?_
            refine va_bast hx hb hK hP hD hS 0 3 rfl rfl (vp_in_nI (n := (((((((ix - 1) - 1) - 1) - 1) - 1) - 1) - 1)) (N := cp) (show (((((((ix - 1) - 1) - 1) - 1) - 1) - 1) - 1) < cp by omega) (by omega)) dJ6_getChars_ba4f3_117 (fun H locs hP hD hS => ?_)
            obtain ⟨hP, hD⟩ : PDq D A [(o1, .inl (cA 3, cp, .inl (upd fn79 (((nI (((((((ix - 1) - 1) - 1) - 1) - 1) - 1) - 1))).toNatClampNeg) (vp_nar .byte 45))))] H := ⟨hP, hD⟩
            have hn83 : sb_Fit (upd fn79 (((nI (((((((ix - 1) - 1) - 1) - 1) - 1) - 1) - 1))).toNatClampNeg) (vp_nar .byte 45)) := (sb_fitU hn80 (pk_fb _))
            generalize (upd fn79 (((nI (((((((ix - 1) - 1) - 1) - 1) - 1) - 1) - 1))).toNatClampNeg) (vp_nar .byte 45)) = fn82 at hP hD hn83
            obtain ⟨hP, hD⟩ : PDq D A [(o1, .inl (cA 3, cp, .inl fn82))] H := ⟨hP, hD⟩
            refine lv_iload hx hb dJ6_getChars_ba4f3_118 (lv_at hl 0 rfl) ?_
            obtain ⟨hP9, hD9⟩ := PDq.sub (ws' := [(o1, .inl (cA 3, cp, .inl fn82))]) hP hD [0] (by decide) rfl
            refine W.widen (k := 0) (n := 0) (Nat.le_of_ble_eq_true rfl) (Nat.le_of_ble_eq_true rfl) ?_
            exact (W.iret (v := (nI (((((((ix - 1) - 1) - 1) - 1) - 1) - 1) - 1))) hx hb hr (fun t ht hW => ⟨⟨(nI (((((((ix - 1) - 1) - 1) - 1) - 1) - 1) - 1)), (), rfl, trivial, fn82, hn83, by rw [ht]; exact hP9, hD9⟩, hS.F ht⟩) hS.2.2 dJ6_getChars_ba4f3_120)
        · skip
          refine lv_iload_n hx hb dJ6_getChars_ba4f3_22 rfl (lv_at hl 1 rfl) ?_
          refine lv_bipush (v := (-100)) hx hb dJ6_getChars_ba4f3_23 (by decide) ?_
          refine lv_icmp_gt (tgt := 72) hx hb dJ6_getChars_ba4f3_25 (by decide) (fun c9 => absurd c9 (ng_ngt hn65 (by omega))) (fun c84 => ?_)
          refine lv_iload_n hx hb dJ6_getChars_ba4f3_28 rfl (lv_at hl 1 rfl) ?_
          refine lv_bipush (v := 100) hx hb dJ6_getChars_ba4f3_29 (by decide) ?_
          obtain ⟨w2x, hw2x⟩ : ∃ x9, x9 = w1x / 100 := ⟨_, rfl⟩
          have hdw2x : dg w1x = dg w2x + 2 := by rw [hw2x]; exact dg_100 (by omega) hn65
          have hpw2x := dg_pos w2x
          refine lv_idiv hx hb dJ6_getChars_ba4f3_31 (by decide) ?_
          refine lv_topi (fun yn85 eyn85 => ?_)
          obtain rfl : yn85 = (ngI w2x) := eyn85.trans (by rw [ng_div (by omega), ← hw2x])
          refine lv_istore_n (lv' := [(3, .int (ngI w2x)), (5, .int (nI ((((ix - 1) - 1) - 1) - 1))), (0, .int (ngI w1x)), (4, .int (nI (w0x % 100))), (6, .int 1), (1, .int (nI ix)), (2, .ref o1)]) hx hb dJ6_getChars_ba4f3_32 rfl hl (by decide) rfl (fun ls hl => ?_)
          refine lv_iload_n hx hb dJ6_getChars_ba4f3_33 rfl (lv_at hl 0 rfl) ?_
          refine lv_bipush (v := 100) hx hb dJ6_getChars_ba4f3_34 (by decide) ?_
          refine lv_imul hx hb dJ6_getChars_ba4f3_36 ?_
          refine lv_topi (fun yn86 eyn86 => ?_)
          refine lv_iload_n hx hb dJ6_getChars_ba4f3_37 rfl (lv_at hl 2 rfl) ?_
          refine lv_isub hx hb dJ6_getChars_ba4f3_38 ?_
          refine lv_topi (fun yn89 eyn89 => ?_)
          obtain rfl : yn89 = (nI (w1x % 100)) := eyn89.trans (by rw [eyn86, hw2x]; exact ng_rem (by omega))
          refine lv_istore (lv' := [(4, .int (nI (w1x % 100))), (3, .int (ngI w2x)), (5, .int (nI ((((ix - 1) - 1) - 1) - 1))), (0, .int (ngI w1x)), (6, .int 1), (1, .int (nI ix)), (2, .ref o1)]) hx hb dJ6_getChars_ba4f3_39 hl (by decide) rfl (fun ls hl => ?_)
          refine lv_iload_n hx hb dJ6_getChars_ba4f3_41 rfl (lv_at hl 1 rfl) ?_
          refine lv_istore_n (lv' := [(0, .int (ngI w2x)), (4, .int (nI (w1x % 100))), (3, .int (ngI w2x)), (5, .int (nI ((((ix - 1) - 1) - 1) - 1))), (6, .int 1), (1, .int (nI ix)), (2, .ref o1)]) hx hb dJ6_getChars_ba4f3_42 rfl hl (by decide) rfl (fun ls hl => ?_)
          refine lv_aload_n hx hb dJ6_getChars_ba4f3_43 rfl (lv_at hl 6 rfl) ?_
          refine lv_iinc (v := (nI (((((ix - 1) - 1) - 1) - 1) - 1))) (lv' := [(5, .int (nI (((((ix - 1) - 1) - 1) - 1) - 1))), (0, .int (ngI w2x)), (4, .int (nI (w1x % 100))), (3, .int (ngI w2x)), (6, .int 1), (1, .int (nI ix)), (2, .ref o1)]) hx hb dJ6_getChars_ba4f3_44 hl (k := 3) rfl (nI_dec (a := ((((ix - 1) - 1) - 1) - 1)) (b := (((((ix - 1) - 1) - 1) - 1) - 1)) (by omega)) (by decide) rfl (fun ls hl => ?_)
          refine lv_iload hx hb dJ6_getChars_ba4f3_47 (lv_at hl 0 rfl) ?_
          refine va_gets hx hb hd1 hS hown (hts (.fieldLink RJ6 83 "java/lang/Integer" "DigitOnes" "[B") (by decide +kernel)) (fun _ h9 => h9) dJ6_getChars_ba4f3_49 ?_
          refine lv_iload hx hb dJ6_getChars_ba4f3_52 (lv_at hl 2 rfl) ?_
          refine va_tb (v := .int (f1 ((nI (w1x % 100))).toNatClampNeg)) hx hb ht1 hS (vp_in_nI (n := (w1x % 100)) (N := 100) (show (w1x % 100) < 100 by omega) (by decide)) rfl dJ6_getChars_ba4f3_54 ?_
          refine lv_topi (fun yn90 eyn90 => ?_)
          refine va_bast hx hb hK hP hD hS 0 3 rfl rfl (vp_in_nI (n := (((((ix - 1) - 1) - 1) - 1) - 1)) (N := cp) (show (((((ix - 1) - 1) - 1) - 1) - 1) < cp by omega) (by omega)) dJ6_getChars_ba4f3_55 (fun H locs hP hD hS => ?_)
          obtain ⟨hP, hD⟩ : PDq D A [(o1, .inl (cA 3, cp, .inl (upd fn63 (((nI (((((ix - 1) - 1) - 1) - 1) - 1))).toNatClampNeg) (vp_nar .byte yn90))))] H := ⟨hP, hD⟩
          have hn92 : sb_Fit (upd fn63 (((nI (((((ix - 1) - 1) - 1) - 1) - 1))).toNatClampNeg) (vp_nar .byte yn90)) := (sb_fitU hn64 (pk_fb _))
          generalize (upd fn63 (((nI (((((ix - 1) - 1) - 1) - 1) - 1))).toNatClampNeg) (vp_nar .byte yn90)) = fn91 at hP hD hn92
          obtain ⟨hP, hD⟩ : PDq D A [(o1, .inl (cA 3, cp, .inl fn91))] H := ⟨hP, hD⟩
          refine lv_aload_n hx hb dJ6_getChars_ba4f3_56 rfl (lv_at hl 6 rfl) ?_
          refine lv_iinc (v := (nI ((((((ix - 1) - 1) - 1) - 1) - 1) - 1))) (lv' := [(5, .int (nI ((((((ix - 1) - 1) - 1) - 1) - 1) - 1))), (0, .int (ngI w2x)), (4, .int (nI (w1x % 100))), (3, .int (ngI w2x)), (6, .int 1), (1, .int (nI ix)), (2, .ref o1)]) hx hb dJ6_getChars_ba4f3_57 hl (k := 0) rfl (nI_dec (a := (((((ix - 1) - 1) - 1) - 1) - 1)) (b := ((((((ix - 1) - 1) - 1) - 1) - 1) - 1)) (by omega)) (by decide) rfl (fun ls hl => ?_)
          refine lv_iload hx hb dJ6_getChars_ba4f3_60 (lv_at hl 0 rfl) ?_
          refine va_gets hx hb hd2 hS hown (hts (.fieldLink RJ6 87 "java/lang/Integer" "DigitTens" "[B") (by decide +kernel)) (fun _ h9 => h9) dJ6_getChars_ba4f3_62 ?_
          refine lv_iload hx hb dJ6_getChars_ba4f3_65 (lv_at hl 2 rfl) ?_
          refine va_tb (v := .int (f2 ((nI (w1x % 100))).toNatClampNeg)) hx hb ht2 hS (vp_in_nI (n := (w1x % 100)) (N := 100) (show (w1x % 100) < 100 by omega) (by decide)) rfl dJ6_getChars_ba4f3_67 ?_
          refine lv_topi (fun yn93 eyn93 => ?_)
          refine va_bast hx hb hK hP hD hS 0 3 rfl rfl (vp_in_nI (n := ((((((ix - 1) - 1) - 1) - 1) - 1) - 1)) (N := cp) (show ((((((ix - 1) - 1) - 1) - 1) - 1) - 1) < cp by omega) (by omega)) dJ6_getChars_ba4f3_68 (fun H locs hP hD hS => ?_)
          obtain ⟨hP, hD⟩ : PDq D A [(o1, .inl (cA 3, cp, .inl (upd fn91 (((nI ((((((ix - 1) - 1) - 1) - 1) - 1) - 1))).toNatClampNeg) (vp_nar .byte yn93))))] H := ⟨hP, hD⟩
          have hn95 : sb_Fit (upd fn91 (((nI ((((((ix - 1) - 1) - 1) - 1) - 1) - 1))).toNatClampNeg) (vp_nar .byte yn93)) := (sb_fitU hn92 (pk_fb _))
          generalize (upd fn91 (((nI ((((((ix - 1) - 1) - 1) - 1) - 1) - 1))).toNatClampNeg) (vp_nar .byte yn93)) = fn94 at hP hD hn95
          obtain ⟨hP, hD⟩ : PDq D A [(o1, .inl (cA 3, cp, .inl fn94))] H := ⟨hP, hD⟩
          refine lv_goto (tgt := 22) hx hb dJ6_getChars_ba4f3_69 (by decide) ?_
          have hqhn96 := dg_pos w2x
          rcases Nat.lt_or_ge w2x 100 with hn96 | hn96
          · skip
            refine lv_iload_n hx hb dJ6_getChars_ba4f3_22 rfl (lv_at hl 1 rfl) ?_
            refine lv_bipush (v := (-100)) hx hb dJ6_getChars_ba4f3_23 (by decide) ?_
            refine lv_icmp_gt (tgt := 72) hx hb dJ6_getChars_ba4f3_25 (by decide) (fun c97 => ?_) (fun c9 => absurd c9 (fun h9 => h9 (ng_gt hn96)))
            refine lv_aload_n hx hb dJ6_getChars_ba4f3_72 rfl (lv_at hl 6 rfl) ?_
            refine lv_iinc (v := (nI (((((((ix - 1) - 1) - 1) - 1) - 1) - 1) - 1))) (lv' := [(5, .int (nI (((((((ix - 1) - 1) - 1) - 1) - 1) - 1) - 1))), (0, .int (ngI w2x)), (4, .int (nI (w1x % 100))), (3, .int (ngI w2x)), (6, .int 1), (1, .int (nI ix)), (2, .ref o1)]) hx hb dJ6_getChars_ba4f3_73 hl (k := 0) rfl (nI_dec (a := ((((((ix - 1) - 1) - 1) - 1) - 1) - 1)) (b := (((((((ix - 1) - 1) - 1) - 1) - 1) - 1) - 1)) (by omega)) (by decide) rfl (fun ls hl => ?_)
            refine lv_iload hx hb dJ6_getChars_ba4f3_76 (lv_at hl 0 rfl) ?_
            refine va_gets hx hb hd1 hS hown (hts (.fieldLink RJ6 83 "java/lang/Integer" "DigitOnes" "[B") (by decide +kernel)) (fun _ h9 => h9) dJ6_getChars_ba4f3_78 ?_
            refine lv_iload_n hx hb dJ6_getChars_ba4f3_81 rfl (lv_at hl 1 rfl) ?_
            refine lv_ineg hx hb dJ6_getChars_ba4f3_82 ?_
            refine lv_topi (fun yn98 eyn98 => ?_)
            obtain rfl : yn98 = (nI w2x) := eyn98.trans (ng_opp)
            refine va_tb (v := .int (f1 ((nI w2x)).toNatClampNeg)) hx hb ht1 hS (vp_in_nI (n := w2x) (N := 100) (show w2x < 100 by omega) (by decide)) rfl dJ6_getChars_ba4f3_83 ?_
            refine lv_topi (fun yn99 eyn99 => ?_)
            refine va_bast hx hb hK hP hD hS 0 3 rfl rfl (vp_in_nI (n := (((((((ix - 1) - 1) - 1) - 1) - 1) - 1) - 1)) (N := cp) (show (((((((ix - 1) - 1) - 1) - 1) - 1) - 1) - 1) < cp by omega) (by omega)) dJ6_getChars_ba4f3_84 (fun H locs hP hD hS => ?_)
            obtain ⟨hP, hD⟩ : PDq D A [(o1, .inl (cA 3, cp, .inl (upd fn94 (((nI (((((((ix - 1) - 1) - 1) - 1) - 1) - 1) - 1))).toNatClampNeg) (vp_nar .byte yn99))))] H := ⟨hP, hD⟩
            have hn101 : sb_Fit (upd fn94 (((nI (((((((ix - 1) - 1) - 1) - 1) - 1) - 1) - 1))).toNatClampNeg) (vp_nar .byte yn99)) := (sb_fitU hn95 (pk_fb _))
            generalize (upd fn94 (((nI (((((((ix - 1) - 1) - 1) - 1) - 1) - 1) - 1))).toNatClampNeg) (vp_nar .byte yn99)) = fn100 at hP hD hn101
            obtain ⟨hP, hD⟩ : PDq D A [(o1, .inl (cA 3, cp, .inl fn100))] H := ⟨hP, hD⟩
            rcases Nat.lt_or_ge w2x 10 with hn102 | hn102
            · skip
              refine lv_iload_n hx hb dJ6_getChars_ba4f3_85 rfl (lv_at hl 1 rfl) ?_
              refine lv_bipush (v := (-9)) hx hb dJ6_getChars_ba4f3_86 (by decide) ?_
              refine lv_icmp_ge (tgt := 104) hx hb dJ6_getChars_ba4f3_88 (by decide) (fun c103 => ?_) (fun c9 => absurd c9 (fun h9 => h9 (ng_ge9 hn102)))
              refine lv_iload hx hb dJ6_getChars_ba4f3_104 (lv_at hl 4 rfl) ?_
              refine lv_if_eq (tgt := 118) hx hb dJ6_getChars_ba4f3_106 (by decide) (fun c9 => absurd c9 (by decide)) (fun c104 => ?_)
              refine lv_aload_n hx hb dJ6_getChars_ba4f3_109 rfl (lv_at hl 6 rfl) ?_
              refine lv_iinc (v := (nI ((((((((ix - 1) - 1) - 1) - 1) - 1) - 1) - 1) - 1))) (lv' := [(5, .int (nI ((((((((ix - 1) - 1) - 1) - 1) - 1) - 1) - 1) - 1))), (0, .int (ngI w2x)), (4, .int (nI (w1x % 100))), (3, .int (ngI w2x)), (6, .int 1), (1, .int (nI ix)), (2, .ref o1)]) hx hb dJ6_getChars_ba4f3_110 hl (k := 0) rfl (nI_dec (a := (((((((ix - 1) - 1) - 1) - 1) - 1) - 1) - 1)) (b := ((((((((ix - 1) - 1) - 1) - 1) - 1) - 1) - 1) - 1)) (by omega)) (by decide) rfl (fun ls hl => ?_)
              refine lv_iload hx hb dJ6_getChars_ba4f3_113 (lv_at hl 0 rfl) ?_
              refine lv_bipush (v := 45) hx hb dJ6_getChars_ba4f3_115 (by decide) ?_
              refine va_bast hx hb hK hP hD hS 0 3 rfl rfl (vp_in_nI (n := ((((((((ix - 1) - 1) - 1) - 1) - 1) - 1) - 1) - 1)) (N := cp) (show ((((((((ix - 1) - 1) - 1) - 1) - 1) - 1) - 1) - 1) < cp by omega) (by omega)) dJ6_getChars_ba4f3_117 (fun H locs hP hD hS => ?_)
              obtain ⟨hP, hD⟩ : PDq D A [(o1, .inl (cA 3, cp, .inl (upd fn100 (((nI ((((((((ix - 1) - 1) - 1) - 1) - 1) - 1) - 1) - 1))).toNatClampNeg) (vp_nar .byte 45))))] H := ⟨hP, hD⟩
              have hn106 : sb_Fit (upd fn100 (((nI ((((((((ix - 1) - 1) - 1) - 1) - 1) - 1) - 1) - 1))).toNatClampNeg) (vp_nar .byte 45)) := (sb_fitU hn101 (pk_fb _))
              generalize (upd fn100 (((nI ((((((((ix - 1) - 1) - 1) - 1) - 1) - 1) - 1) - 1))).toNatClampNeg) (vp_nar .byte 45)) = fn105 at hP hD hn106
              obtain ⟨hP, hD⟩ : PDq D A [(o1, .inl (cA 3, cp, .inl fn105))] H := ⟨hP, hD⟩
              refine lv_iload hx hb dJ6_getChars_ba4f3_118 (lv_at hl 0 rfl) ?_
              obtain ⟨hP9, hD9⟩ := PDq.sub (ws' := [(o1, .inl (cA 3, cp, .inl fn105))]) hP hD [0] (by decide) rfl
              refine W.widen (k := 0) (n := 0) (Nat.le_of_ble_eq_true rfl) (Nat.le_of_ble_eq_true rfl) ?_
              exact (W.iret (v := (nI ((((((((ix - 1) - 1) - 1) - 1) - 1) - 1) - 1) - 1))) hx hb hr (fun t ht hW => ⟨⟨(nI ((((((((ix - 1) - 1) - 1) - 1) - 1) - 1) - 1) - 1)), (), rfl, trivial, fn105, hn106, by rw [ht]; exact hP9, hD9⟩, hS.F ht⟩) hS.2.2 dJ6_getChars_ba4f3_120)
            · skip
              have hqhn102 := dg_2 hn102 (by omega)
              refine lv_iload_n hx hb dJ6_getChars_ba4f3_85 rfl (lv_at hl 1 rfl) ?_
              refine lv_bipush (v := (-9)) hx hb dJ6_getChars_ba4f3_86 (by decide) ?_
              refine lv_icmp_ge (tgt := 104) hx hb dJ6_getChars_ba4f3_88 (by decide) (fun c9 => absurd c9 (ng_nge9 hn102 (by omega))) (fun c107 => ?_)
              refine lv_aload_n hx hb dJ6_getChars_ba4f3_91 rfl (lv_at hl 6 rfl) ?_
              refine lv_iinc (v := (nI ((((((((ix - 1) - 1) - 1) - 1) - 1) - 1) - 1) - 1))) (lv' := [(5, .int (nI ((((((((ix - 1) - 1) - 1) - 1) - 1) - 1) - 1) - 1))), (0, .int (ngI w2x)), (4, .int (nI (w1x % 100))), (3, .int (ngI w2x)), (6, .int 1), (1, .int (nI ix)), (2, .ref o1)]) hx hb dJ6_getChars_ba4f3_92 hl (k := 0) rfl (nI_dec (a := (((((((ix - 1) - 1) - 1) - 1) - 1) - 1) - 1)) (b := ((((((((ix - 1) - 1) - 1) - 1) - 1) - 1) - 1) - 1)) (by omega)) (by decide) rfl (fun ls hl => ?_)
              refine lv_iload hx hb dJ6_getChars_ba4f3_95 (lv_at hl 0 rfl) ?_
              refine va_gets hx hb hd2 hS hown (hts (.fieldLink RJ6 87 "java/lang/Integer" "DigitTens" "[B") (by decide +kernel)) (fun _ h9 => h9) dJ6_getChars_ba4f3_97 ?_
              refine lv_iload_n hx hb dJ6_getChars_ba4f3_100 rfl (lv_at hl 1 rfl) ?_
              refine lv_ineg hx hb dJ6_getChars_ba4f3_101 ?_
              refine lv_topi (fun yn108 eyn108 => ?_)
              obtain rfl : yn108 = (nI w2x) := eyn108.trans (ng_opp)
              refine va_tb (v := .int (f2 ((nI w2x)).toNatClampNeg)) hx hb ht2 hS (vp_in_nI (n := w2x) (N := 100) (show w2x < 100 by omega) (by decide)) rfl dJ6_getChars_ba4f3_102 ?_
              refine lv_topi (fun yn109 eyn109 => ?_)
              refine va_bast hx hb hK hP hD hS 0 3 rfl rfl (vp_in_nI (n := ((((((((ix - 1) - 1) - 1) - 1) - 1) - 1) - 1) - 1)) (N := cp) (show ((((((((ix - 1) - 1) - 1) - 1) - 1) - 1) - 1) - 1) < cp by omega) (by omega)) dJ6_getChars_ba4f3_103 (fun H locs hP hD hS => ?_)
              obtain ⟨hP, hD⟩ : PDq D A [(o1, .inl (cA 3, cp, .inl (upd fn100 (((nI ((((((((ix - 1) - 1) - 1) - 1) - 1) - 1) - 1) - 1))).toNatClampNeg) (vp_nar .byte yn109))))] H := ⟨hP, hD⟩
              have hn111 : sb_Fit (upd fn100 (((nI ((((((((ix - 1) - 1) - 1) - 1) - 1) - 1) - 1) - 1))).toNatClampNeg) (vp_nar .byte yn109)) := (sb_fitU hn101 (pk_fb _))
              generalize (upd fn100 (((nI ((((((((ix - 1) - 1) - 1) - 1) - 1) - 1) - 1) - 1))).toNatClampNeg) (vp_nar .byte yn109)) = fn110 at hP hD hn111
              obtain ⟨hP, hD⟩ : PDq D A [(o1, .inl (cA 3, cp, .inl fn110))] H := ⟨hP, hD⟩
              refine lv_iload hx hb dJ6_getChars_ba4f3_104 (lv_at hl 4 rfl) ?_
              refine lv_if_eq (tgt := 118) hx hb dJ6_getChars_ba4f3_106 (by decide) (fun c9 => absurd c9 (by decide)) (fun c112 => ?_)
              refine lv_aload_n hx hb dJ6_getChars_ba4f3_109 rfl (lv_at hl 6 rfl) ?_
              refine lv_iinc (v := (nI (((((((((ix - 1) - 1) - 1) - 1) - 1) - 1) - 1) - 1) - 1))) (lv' := [(5, .int (nI (((((((((ix - 1) - 1) - 1) - 1) - 1) - 1) - 1) - 1) - 1))), (0, .int (ngI w2x)), (4, .int (nI (w1x % 100))), (3, .int (ngI w2x)), (6, .int 1), (1, .int (nI ix)), (2, .ref o1)]) hx hb dJ6_getChars_ba4f3_110 hl (k := 0) rfl (nI_dec (a := ((((((((ix - 1) - 1) - 1) - 1) - 1) - 1) - 1) - 1)) (b := (((((((((ix - 1) - 1) - 1) - 1) - 1) - 1) - 1) - 1) - 1)) (by omega)) (by decide) rfl (fun ls hl => ?_)
              refine lv_iload hx hb dJ6_getChars_ba4f3_113 (lv_at hl 0 rfl) ?_
              refine lv_bipush (v := 45) hx hb dJ6_getChars_ba4f3_115 (by decide) ?_
              refine va_bast hx hb hK hP hD hS 0 3 rfl rfl (vp_in_nI (n := (((((((((ix - 1) - 1) - 1) - 1) - 1) - 1) - 1) - 1) - 1)) (N := cp) (show (((((((((ix - 1) - 1) - 1) - 1) - 1) - 1) - 1) - 1) - 1) < cp by omega) (by omega)) dJ6_getChars_ba4f3_117 (fun H locs hP hD hS => ?_)
              obtain ⟨hP, hD⟩ : PDq D A [(o1, .inl (cA 3, cp, .inl (upd fn110 (((nI (((((((((ix - 1) - 1) - 1) - 1) - 1) - 1) - 1) - 1) - 1))).toNatClampNeg) (vp_nar .byte 45))))] H := ⟨hP, hD⟩
              have hn114 : sb_Fit (upd fn110 (((nI (((((((((ix - 1) - 1) - 1) - 1) - 1) - 1) - 1) - 1) - 1))).toNatClampNeg) (vp_nar .byte 45)) := (sb_fitU hn111 (pk_fb _))
              generalize (upd fn110 (((nI (((((((((ix - 1) - 1) - 1) - 1) - 1) - 1) - 1) - 1) - 1))).toNatClampNeg) (vp_nar .byte 45)) = fn113 at hP hD hn114
              obtain ⟨hP, hD⟩ : PDq D A [(o1, .inl (cA 3, cp, .inl fn113))] H := ⟨hP, hD⟩
              refine lv_iload hx hb dJ6_getChars_ba4f3_118 (lv_at hl 0 rfl) ?_
              obtain ⟨hP9, hD9⟩ := PDq.sub (ws' := [(o1, .inl (cA 3, cp, .inl fn113))]) hP hD [0] (by decide) rfl
              refine W.widen (k := 0) (n := 0) (Nat.le_of_ble_eq_true rfl) (Nat.le_of_ble_eq_true rfl) ?_
              exact (W.iret (v := (nI (((((((((ix - 1) - 1) - 1) - 1) - 1) - 1) - 1) - 1) - 1))) hx hb hr (fun t ht hW => ⟨⟨(nI (((((((((ix - 1) - 1) - 1) - 1) - 1) - 1) - 1) - 1) - 1)), (), rfl, trivial, fn113, hn114, by rw [ht]; exact hP9, hD9⟩, hS.F ht⟩) hS.2.2 dJ6_getChars_ba4f3_120)
          · skip
            refine lv_iload_n hx hb dJ6_getChars_ba4f3_22 rfl (lv_at hl 1 rfl) ?_
            refine lv_bipush (v := (-100)) hx hb dJ6_getChars_ba4f3_23 (by decide) ?_
            refine lv_icmp_gt (tgt := 72) hx hb dJ6_getChars_ba4f3_25 (by decide) (fun c9 => absurd c9 (ng_ngt hn96 (by omega))) (fun c115 => ?_)
            refine lv_iload_n hx hb dJ6_getChars_ba4f3_28 rfl (lv_at hl 1 rfl) ?_
            refine lv_bipush (v := 100) hx hb dJ6_getChars_ba4f3_29 (by decide) ?_
            obtain ⟨w3x, hw3x⟩ : ∃ x9, x9 = w2x / 100 := ⟨_, rfl⟩
            have hdw3x : dg w2x = dg w3x + 2 := by rw [hw3x]; exact dg_100 (by omega) hn96
            have hpw3x := dg_pos w3x
            refine lv_idiv hx hb dJ6_getChars_ba4f3_31 (by decide) ?_
            refine lv_topi (fun yn116 eyn116 => ?_)
            obtain rfl : yn116 = (ngI w3x) := eyn116.trans (by rw [ng_div (by omega), ← hw3x])
            refine lv_istore_n (lv' := [(3, .int (ngI w3x)), (5, .int (nI ((((((ix - 1) - 1) - 1) - 1) - 1) - 1))), (0, .int (ngI w2x)), (4, .int (nI (w1x % 100))), (6, .int 1), (1, .int (nI ix)), (2, .ref o1)]) hx hb dJ6_getChars_ba4f3_32 rfl hl (by decide) rfl (fun ls hl => ?_)
            refine lv_iload_n hx hb dJ6_getChars_ba4f3_33 rfl (lv_at hl 0 rfl) ?_
            refine lv_bipush (v := 100) hx hb dJ6_getChars_ba4f3_34 (by decide) ?_
            refine lv_imul hx hb dJ6_getChars_ba4f3_36 ?_
            refine lv_topi (fun yn117 eyn117 => ?_)
            refine lv_iload_n hx hb dJ6_getChars_ba4f3_37 rfl (lv_at hl 2 rfl) ?_
            refine lv_isub hx hb dJ6_getChars_ba4f3_38 ?_
            refine lv_topi (fun yn120 eyn120 => ?_)
            obtain rfl : yn120 = (nI (w2x % 100)) := eyn120.trans (by rw [eyn117, hw3x]; exact ng_rem (by omega))
            refine lv_istore (lv' := [(4, .int (nI (w2x % 100))), (3, .int (ngI w3x)), (5, .int (nI ((((((ix - 1) - 1) - 1) - 1) - 1) - 1))), (0, .int (ngI w2x)), (6, .int 1), (1, .int (nI ix)), (2, .ref o1)]) hx hb dJ6_getChars_ba4f3_39 hl (by decide) rfl (fun ls hl => ?_)
            refine lv_iload_n hx hb dJ6_getChars_ba4f3_41 rfl (lv_at hl 1 rfl) ?_
            refine lv_istore_n (lv' := [(0, .int (ngI w3x)), (4, .int (nI (w2x % 100))), (3, .int (ngI w3x)), (5, .int (nI ((((((ix - 1) - 1) - 1) - 1) - 1) - 1))), (6, .int 1), (1, .int (nI ix)), (2, .ref o1)]) hx hb dJ6_getChars_ba4f3_42 rfl hl (by decide) rfl (fun ls hl => ?_)
            refine lv_aload_n hx hb dJ6_getChars_ba4f3_43 rfl (lv_at hl 6 rfl) ?_
            refine lv_iinc (v := (nI (((((((ix - 1) - 1) - 1) - 1) - 1) - 1) - 1))) (lv' := [(5, .int (nI (((((((ix - 1) - 1) - 1) - 1) - 1) - 1) - 1))), (0, .int (ngI w3x)), (4, .int (nI (w2x % 100))), (3, .int (ngI w3x)), (6, .int 1), (1, .int (nI ix)), (2, .ref o1)]) hx hb dJ6_getChars_ba4f3_44 hl (k := 3) rfl (nI_dec (a := ((((((ix - 1) - 1) - 1) - 1) - 1) - 1)) (b := (((((((ix - 1) - 1) - 1) - 1) - 1) - 1) - 1)) (by omega)) (by decide) rfl (fun ls hl => ?_)
            refine lv_iload hx hb dJ6_getChars_ba4f3_47 (lv_at hl 0 rfl) ?_
            refine va_gets hx hb hd1 hS hown (hts (.fieldLink RJ6 83 "java/lang/Integer" "DigitOnes" "[B") (by decide +kernel)) (fun _ h9 => h9) dJ6_getChars_ba4f3_49 ?_
            refine lv_iload hx hb dJ6_getChars_ba4f3_52 (lv_at hl 2 rfl) ?_
            refine va_tb (v := .int (f1 ((nI (w2x % 100))).toNatClampNeg)) hx hb ht1 hS (vp_in_nI (n := (w2x % 100)) (N := 100) (show (w2x % 100) < 100 by omega) (by decide)) rfl dJ6_getChars_ba4f3_54 ?_
            refine lv_topi (fun yn121 eyn121 => ?_)
            refine va_bast hx hb hK hP hD hS 0 3 rfl rfl (vp_in_nI (n := (((((((ix - 1) - 1) - 1) - 1) - 1) - 1) - 1)) (N := cp) (show (((((((ix - 1) - 1) - 1) - 1) - 1) - 1) - 1) < cp by omega) (by omega)) dJ6_getChars_ba4f3_55 (fun H locs hP hD hS => ?_)
            obtain ⟨hP, hD⟩ : PDq D A [(o1, .inl (cA 3, cp, .inl (upd fn94 (((nI (((((((ix - 1) - 1) - 1) - 1) - 1) - 1) - 1))).toNatClampNeg) (vp_nar .byte yn121))))] H := ⟨hP, hD⟩
            have hn123 : sb_Fit (upd fn94 (((nI (((((((ix - 1) - 1) - 1) - 1) - 1) - 1) - 1))).toNatClampNeg) (vp_nar .byte yn121)) := (sb_fitU hn95 (pk_fb _))
            generalize (upd fn94 (((nI (((((((ix - 1) - 1) - 1) - 1) - 1) - 1) - 1))).toNatClampNeg) (vp_nar .byte yn121)) = fn122 at hP hD hn123
            obtain ⟨hP, hD⟩ : PDq D A [(o1, .inl (cA 3, cp, .inl fn122))] H := ⟨hP, hD⟩
            refine lv_aload_n hx hb dJ6_getChars_ba4f3_56 rfl (lv_at hl 6 rfl) ?_
            refine lv_iinc (v := (nI ((((((((ix - 1) - 1) - 1) - 1) - 1) - 1) - 1) - 1))) (lv' := [(5, .int (nI ((((((((ix - 1) - 1) - 1) - 1) - 1) - 1) - 1) - 1))), (0, .int (ngI w3x)), (4, .int (nI (w2x % 100))), (3, .int (ngI w3x)), (6, .int 1), (1, .int (nI ix)), (2, .ref o1)]) hx hb dJ6_getChars_ba4f3_57 hl (k := 0) rfl (nI_dec (a := (((((((ix - 1) - 1) - 1) - 1) - 1) - 1) - 1)) (b := ((((((((ix - 1) - 1) - 1) - 1) - 1) - 1) - 1) - 1)) (by omega)) (by decide) rfl (fun ls hl => ?_)
            refine lv_iload hx hb dJ6_getChars_ba4f3_60 (lv_at hl 0 rfl) ?_
            refine va_gets hx hb hd2 hS hown (hts (.fieldLink RJ6 87 "java/lang/Integer" "DigitTens" "[B") (by decide +kernel)) (fun _ h9 => h9) dJ6_getChars_ba4f3_62 ?_
            refine lv_iload hx hb dJ6_getChars_ba4f3_65 (lv_at hl 2 rfl) ?_
            refine va_tb (v := .int (f2 ((nI (w2x % 100))).toNatClampNeg)) hx hb ht2 hS (vp_in_nI (n := (w2x % 100)) (N := 100) (show (w2x % 100) < 100 by omega) (by decide)) rfl dJ6_getChars_ba4f3_67 ?_
            refine lv_topi (fun yn124 eyn124 => ?_)
            refine va_bast hx hb hK hP hD hS 0 3 rfl rfl (vp_in_nI (n := ((((((((ix - 1) - 1) - 1) - 1) - 1) - 1) - 1) - 1)) (N := cp) (show ((((((((ix - 1) - 1) - 1) - 1) - 1) - 1) - 1) - 1) < cp by omega) (by omega)) dJ6_getChars_ba4f3_68 (fun H locs hP hD hS => ?_)
            obtain ⟨hP, hD⟩ : PDq D A [(o1, .inl (cA 3, cp, .inl (upd fn122 (((nI ((((((((ix - 1) - 1) - 1) - 1) - 1) - 1) - 1) - 1))).toNatClampNeg) (vp_nar .byte yn124))))] H := ⟨hP, hD⟩
            have hn126 : sb_Fit (upd fn122 (((nI ((((((((ix - 1) - 1) - 1) - 1) - 1) - 1) - 1) - 1))).toNatClampNeg) (vp_nar .byte yn124)) := (sb_fitU hn123 (pk_fb _))
            generalize (upd fn122 (((nI ((((((((ix - 1) - 1) - 1) - 1) - 1) - 1) - 1) - 1))).toNatClampNeg) (vp_nar .byte yn124)) = fn125 at hP hD hn126
            obtain ⟨hP, hD⟩ : PDq D A [(o1, .inl (cA 3, cp, .inl fn125))] H := ⟨hP, hD⟩
            refine lv_goto (tgt := 22) hx hb dJ6_getChars_ba4f3_69 (by decide) ?_
            have hqhn127 := dg_pos w3x
            have hn127 : w3x < 100 := by omega
            refine lv_iload_n hx hb dJ6_getChars_ba4f3_22 rfl (lv_at hl 1 rfl) ?_
            refine lv_bipush (v := (-100)) hx hb dJ6_getChars_ba4f3_23 (by decide) ?_
            refine lv_icmp_gt (tgt := 72) hx hb dJ6_getChars_ba4f3_25 (by decide) (fun c128 => ?_) (fun c9 => absurd c9 (fun h9 => h9 (ng_gt hn127)))
            refine lv_aload_n hx hb dJ6_getChars_ba4f3_72 rfl (lv_at hl 6 rfl) ?_
            refine lv_iinc (v := (nI (((((((((ix - 1) - 1) - 1) - 1) - 1) - 1) - 1) - 1) - 1))) (lv' := [(5, .int (nI (((((((((ix - 1) - 1) - 1) - 1) - 1) - 1) - 1) - 1) - 1))), (0, .int (ngI w3x)), (4, .int (nI (w2x % 100))), (3, .int (ngI w3x)), (6, .int 1), (1, .int (nI ix)), (2, .ref o1)]) hx hb dJ6_getChars_ba4f3_73 hl (k := 0) rfl (nI_dec (a := ((((((((ix - 1) - 1) - 1) - 1) - 1) - 1) - 1) - 1)) (b := (((((((((ix - 1) - 1) - 1) - 1) - 1) - 1) - 1) - 1) - 1)) (by omega)) (by decide) rfl (fun ls hl => ?_)
            refine lv_iload hx hb dJ6_getChars_ba4f3_76 (lv_at hl 0 rfl) ?_
            refine va_gets hx hb hd1 hS hown (hts (.fieldLink RJ6 83 "java/lang/Integer" "DigitOnes" "[B") (by decide +kernel)) (fun _ h9 => h9) dJ6_getChars_ba4f3_78 ?_
            refine lv_iload_n hx hb dJ6_getChars_ba4f3_81 rfl (lv_at hl 1 rfl) ?_
            refine lv_ineg hx hb dJ6_getChars_ba4f3_82 ?_
            refine lv_topi (fun yn129 eyn129 => ?_)
            obtain rfl : yn129 = (nI w3x) := eyn129.trans (ng_opp)
            refine va_tb (v := .int (f1 ((nI w3x)).toNatClampNeg)) hx hb ht1 hS (vp_in_nI (n := w3x) (N := 100) (show w3x < 100 by omega) (by decide)) rfl dJ6_getChars_ba4f3_83 ?_
            refine lv_topi (fun yn130 eyn130 => ?_)
            refine va_bast hx hb hK hP hD hS 0 3 rfl rfl (vp_in_nI (n := (((((((((ix - 1) - 1) - 1) - 1) - 1) - 1) - 1) - 1) - 1)) (N := cp) (show (((((((((ix - 1) - 1) - 1) - 1) - 1) - 1) - 1) - 1) - 1) < cp by omega) (by omega)) dJ6_getChars_ba4f3_84 (fun H locs hP hD hS => ?_)
            obtain ⟨hP, hD⟩ : PDq D A [(o1, .inl (cA 3, cp, .inl (upd fn125 (((nI (((((((((ix - 1) - 1) - 1) - 1) - 1) - 1) - 1) - 1) - 1))).toNatClampNeg) (vp_nar .byte yn130))))] H := ⟨hP, hD⟩
            have hn132 : sb_Fit (upd fn125 (((nI (((((((((ix - 1) - 1) - 1) - 1) - 1) - 1) - 1) - 1) - 1))).toNatClampNeg) (vp_nar .byte yn130)) := (sb_fitU hn126 (pk_fb _))
            generalize (upd fn125 (((nI (((((((((ix - 1) - 1) - 1) - 1) - 1) - 1) - 1) - 1) - 1))).toNatClampNeg) (vp_nar .byte yn130)) = fn131 at hP hD hn132
            obtain ⟨hP, hD⟩ : PDq D A [(o1, .inl (cA 3, cp, .inl fn131))] H := ⟨hP, hD⟩
            rcases Nat.lt_or_ge w3x 10 with hn133 | hn133
            · skip
              refine lv_iload_n hx hb dJ6_getChars_ba4f3_85 rfl (lv_at hl 1 rfl) ?_
              refine lv_bipush (v := (-9)) hx hb dJ6_getChars_ba4f3_86 (by decide) ?_
              refine lv_icmp_ge (tgt := 104) hx hb dJ6_getChars_ba4f3_88 (by decide) (fun c134 => ?_) (fun c9 => absurd c9 (fun h9 => h9 (ng_ge9 hn133)))
              refine lv_iload hx hb dJ6_getChars_ba4f3_104 (lv_at hl 4 rfl) ?_
              refine lv_if_eq (tgt := 118) hx hb dJ6_getChars_ba4f3_106 (by decide) (fun c9 => absurd c9 (by decide)) (fun c135 => ?_)
              refine lv_aload_n hx hb dJ6_getChars_ba4f3_109 rfl (lv_at hl 6 rfl) ?_
              refine lv_iinc (v := (nI ((((((((((ix - 1) - 1) - 1) - 1) - 1) - 1) - 1) - 1) - 1) - 1))) (lv' := [(5, .int (nI ((((((((((ix - 1) - 1) - 1) - 1) - 1) - 1) - 1) - 1) - 1) - 1))), (0, .int (ngI w3x)), (4, .int (nI (w2x % 100))), (3, .int (ngI w3x)), (6, .int 1), (1, .int (nI ix)), (2, .ref o1)]) hx hb dJ6_getChars_ba4f3_110 hl (k := 0) rfl (nI_dec (a := (((((((((ix - 1) - 1) - 1) - 1) - 1) - 1) - 1) - 1) - 1)) (b := ((((((((((ix - 1) - 1) - 1) - 1) - 1) - 1) - 1) - 1) - 1) - 1)) (by omega)) (by decide) rfl (fun ls hl => ?_)
              refine lv_iload hx hb dJ6_getChars_ba4f3_113 (lv_at hl 0 rfl) ?_
              refine lv_bipush (v := 45) hx hb dJ6_getChars_ba4f3_115 (by decide) ?_
              refine va_bast hx hb hK hP hD hS 0 3 rfl rfl (vp_in_nI (n := ((((((((((ix - 1) - 1) - 1) - 1) - 1) - 1) - 1) - 1) - 1) - 1)) (N := cp) (show ((((((((((ix - 1) - 1) - 1) - 1) - 1) - 1) - 1) - 1) - 1) - 1) < cp by omega) (by omega)) dJ6_getChars_ba4f3_117 (fun H locs hP hD hS => ?_)
              obtain ⟨hP, hD⟩ : PDq D A [(o1, .inl (cA 3, cp, .inl (upd fn131 (((nI ((((((((((ix - 1) - 1) - 1) - 1) - 1) - 1) - 1) - 1) - 1) - 1))).toNatClampNeg) (vp_nar .byte 45))))] H := ⟨hP, hD⟩
              have hn137 : sb_Fit (upd fn131 (((nI ((((((((((ix - 1) - 1) - 1) - 1) - 1) - 1) - 1) - 1) - 1) - 1))).toNatClampNeg) (vp_nar .byte 45)) := (sb_fitU hn132 (pk_fb _))
              generalize (upd fn131 (((nI ((((((((((ix - 1) - 1) - 1) - 1) - 1) - 1) - 1) - 1) - 1) - 1))).toNatClampNeg) (vp_nar .byte 45)) = fn136 at hP hD hn137
              obtain ⟨hP, hD⟩ : PDq D A [(o1, .inl (cA 3, cp, .inl fn136))] H := ⟨hP, hD⟩
              refine lv_iload hx hb dJ6_getChars_ba4f3_118 (lv_at hl 0 rfl) ?_
              obtain ⟨hP9, hD9⟩ := PDq.sub (ws' := [(o1, .inl (cA 3, cp, .inl fn136))]) hP hD [0] (by decide) rfl
              refine W.widen (k := 0) (n := 0) (Nat.le_of_ble_eq_true rfl) (Nat.le_of_ble_eq_true rfl) ?_
              exact (W.iret (v := (nI ((((((((((ix - 1) - 1) - 1) - 1) - 1) - 1) - 1) - 1) - 1) - 1))) hx hb hr (fun t ht hW => ⟨⟨(nI ((((((((((ix - 1) - 1) - 1) - 1) - 1) - 1) - 1) - 1) - 1) - 1)), (), rfl, trivial, fn136, hn137, by rw [ht]; exact hP9, hD9⟩, hS.F ht⟩) hS.2.2 dJ6_getChars_ba4f3_120)
            · skip
              have hqhn133 := dg_2 hn133 (by omega)
              refine lv_iload_n hx hb dJ6_getChars_ba4f3_85 rfl (lv_at hl 1 rfl) ?_
              refine lv_bipush (v := (-9)) hx hb dJ6_getChars_ba4f3_86 (by decide) ?_
              refine lv_icmp_ge (tgt := 104) hx hb dJ6_getChars_ba4f3_88 (by decide) (fun c9 => absurd c9 (ng_nge9 hn133 (by omega))) (fun c138 => ?_)
              refine lv_aload_n hx hb dJ6_getChars_ba4f3_91 rfl (lv_at hl 6 rfl) ?_
              refine lv_iinc (v := (nI ((((((((((ix - 1) - 1) - 1) - 1) - 1) - 1) - 1) - 1) - 1) - 1))) (lv' := [(5, .int (nI ((((((((((ix - 1) - 1) - 1) - 1) - 1) - 1) - 1) - 1) - 1) - 1))), (0, .int (ngI w3x)), (4, .int (nI (w2x % 100))), (3, .int (ngI w3x)), (6, .int 1), (1, .int (nI ix)), (2, .ref o1)]) hx hb dJ6_getChars_ba4f3_92 hl (k := 0) rfl (nI_dec (a := (((((((((ix - 1) - 1) - 1) - 1) - 1) - 1) - 1) - 1) - 1)) (b := ((((((((((ix - 1) - 1) - 1) - 1) - 1) - 1) - 1) - 1) - 1) - 1)) (by omega)) (by decide) rfl (fun ls hl => ?_)
              refine lv_iload hx hb dJ6_getChars_ba4f3_95 (lv_at hl 0 rfl) ?_
              refine va_gets hx hb hd2 hS hown (hts (.fieldLink RJ6 87 "java/lang/Integer" "DigitTens" "[B") (by decide +kernel)) (fun _ h9 => h9) dJ6_getChars_ba4f3_97 ?_
              refine lv_iload_n hx hb dJ6_getChars_ba4f3_100 rfl (lv_at hl 1 rfl) ?_
              refine lv_ineg hx hb dJ6_getChars_ba4f3_101 ?_
              refine lv_topi (fun yn139 eyn139 => ?_)
              obtain rfl : yn139 = (nI w3x) := eyn139.trans (ng_opp)
              refine va_tb (v := .int (f2 ((nI w3x)).toNatClampNeg)) hx hb ht2 hS (vp_in_nI (n := w3x) (N := 100) (show w3x < 100 by omega) (by decide)) rfl dJ6_getChars_ba4f3_102 ?_
              refine lv_topi (fun yn140 eyn140 => ?_)
              refine va_bast hx hb hK hP hD hS 0 3 rfl rfl (vp_in_nI (n := ((((((((((ix - 1) - 1) - 1) - 1) - 1) - 1) - 1) - 1) - 1) - 1)) (N := cp) (show ((((((((((ix - 1) - 1) - 1) - 1) - 1) - 1) - 1) - 1) - 1) - 1) < cp by omega) (by omega)) dJ6_getChars_ba4f3_103 (fun H locs hP hD hS => ?_)
              obtain ⟨hP, hD⟩ : PDq D A [(o1, .inl (cA 3, cp, .inl (upd fn131 (((nI ((((((((((ix - 1) - 1) - 1) - 1) - 1) - 1) - 1) - 1) - 1) - 1))).toNatClampNeg) (vp_nar .byte yn140))))] H := ⟨hP, hD⟩
              have hn142 : sb_Fit (upd fn131 (((nI ((((((((((ix - 1) - 1) - 1) - 1) - 1) - 1) - 1) - 1) - 1) - 1))).toNatClampNeg) (vp_nar .byte yn140)) := (sb_fitU hn132 (pk_fb _))
              generalize (upd fn131 (((nI ((((((((((ix - 1) - 1) - 1) - 1) - 1) - 1) - 1) - 1) - 1) - 1))).toNatClampNeg) (vp_nar .byte yn140)) = fn141 at hP hD hn142
              obtain ⟨hP, hD⟩ : PDq D A [(o1, .inl (cA 3, cp, .inl fn141))] H := ⟨hP, hD⟩
              refine lv_iload hx hb dJ6_getChars_ba4f3_104 (lv_at hl 4 rfl) ?_
              refine lv_if_eq (tgt := 118) hx hb dJ6_getChars_ba4f3_106 (by decide) (fun c9 => absurd c9 (by decide)) (fun c143 => ?_)
              refine lv_aload_n hx hb dJ6_getChars_ba4f3_109 rfl (lv_at hl 6 rfl) ?_
              refine lv_iinc (v := (nI (((((((((((ix - 1) - 1) - 1) - 1) - 1) - 1) - 1) - 1) - 1) - 1) - 1))) (lv' := [(5, .int (nI (((((((((((ix - 1) - 1) - 1) - 1) - 1) - 1) - 1) - 1) - 1) - 1) - 1))), (0, .int (ngI w3x)), (4, .int (nI (w2x % 100))), (3, .int (ngI w3x)), (6, .int 1), (1, .int (nI ix)), (2, .ref o1)]) hx hb dJ6_getChars_ba4f3_110 hl (k := 0) rfl (nI_dec (a := ((((((((((ix - 1) - 1) - 1) - 1) - 1) - 1) - 1) - 1) - 1) - 1)) (b := (((((((((((ix - 1) - 1) - 1) - 1) - 1) - 1) - 1) - 1) - 1) - 1) - 1)) (by omega)) (by decide) rfl (fun ls hl => ?_)
              refine lv_iload hx hb dJ6_getChars_ba4f3_113 (lv_at hl 0 rfl) ?_
              refine lv_bipush (v := 45) hx hb dJ6_getChars_ba4f3_115 (by decide) ?_
              refine va_bast hx hb hK hP hD hS 0 3 rfl rfl (vp_in_nI (n := (((((((((((ix - 1) - 1) - 1) - 1) - 1) - 1) - 1) - 1) - 1) - 1) - 1)) (N := cp) (show (((((((((((ix - 1) - 1) - 1) - 1) - 1) - 1) - 1) - 1) - 1) - 1) - 1) < cp by omega) (by omega)) dJ6_getChars_ba4f3_117 (fun H locs hP hD hS => ?_)
              obtain ⟨hP, hD⟩ : PDq D A [(o1, .inl (cA 3, cp, .inl (upd fn141 (((nI (((((((((((ix - 1) - 1) - 1) - 1) - 1) - 1) - 1) - 1) - 1) - 1) - 1))).toNatClampNeg) (vp_nar .byte 45))))] H := ⟨hP, hD⟩
              have hn145 : sb_Fit (upd fn141 (((nI (((((((((((ix - 1) - 1) - 1) - 1) - 1) - 1) - 1) - 1) - 1) - 1) - 1))).toNatClampNeg) (vp_nar .byte 45)) := (sb_fitU hn142 (pk_fb _))
              generalize (upd fn141 (((nI (((((((((((ix - 1) - 1) - 1) - 1) - 1) - 1) - 1) - 1) - 1) - 1) - 1))).toNatClampNeg) (vp_nar .byte 45)) = fn144 at hP hD hn145
              obtain ⟨hP, hD⟩ : PDq D A [(o1, .inl (cA 3, cp, .inl fn144))] H := ⟨hP, hD⟩
              refine lv_iload hx hb dJ6_getChars_ba4f3_118 (lv_at hl 0 rfl) ?_
              obtain ⟨hP9, hD9⟩ := PDq.sub (ws' := [(o1, .inl (cA 3, cp, .inl fn144))]) hP hD [0] (by decide) rfl
              refine W.widen (k := 0) (n := 0) (Nat.le_of_ble_eq_true rfl) (Nat.le_of_ble_eq_true rfl) ?_
              exact (W.iret (v := (nI (((((((((((ix - 1) - 1) - 1) - 1) - 1) - 1) - 1) - 1) - 1) - 1) - 1))) hx hb hr (fun t ht hW => ⟨⟨(nI (((((((((((ix - 1) - 1) - 1) - 1) - 1) - 1) - 1) - 1) - 1) - 1) - 1)), (), rfl, trivial, fn144, hn145, by rw [ht]; exact hP9, hD9⟩, hS.F ht⟩) hS.2.2 dJ6_getChars_ba4f3_120)
  · skip
    refine lv_iload_n hx hb dJ6_getChars_ba4f3_0 rfl (lv_at hl 1 rfl) ?_
    refine lv_istore (lv' := [(5, .int (nI ix)), (0, .int a), (1, .int (nI ix)), (2, .ref o1)]) hx hb dJ6_getChars_ba4f3_1 hl (by decide) rfl (fun ls hl => ?_)
    refine lv_iload_n hx hb dJ6_getChars_ba4f3_3 rfl (lv_at hl 1 rfl) ?_
    refine lv_if_ge (tgt := 11) hx hb dJ6_getChars_ba4f3_4 (by decide) (fun c146 => ?_) (fun c9 => absurd c9 (fun h9 => h9 (Int32.not_lt.mp hn1)))
    refine lv_iconst (v := 0) hx hb dJ6_getChars_ba4f3_11 (by decide) ?_
    refine lv_istore (lv' := [(6, .int 0), (5, .int (nI ix)), (0, .int a), (1, .int (nI ix)), (2, .ref o1)]) hx hb dJ6_getChars_ba4f3_12 hl (by decide) rfl (fun ls hl => ?_)
    refine lv_iload hx hb dJ6_getChars_ba4f3_14 (lv_at hl 0 rfl) ?_
    refine lv_if_ne (tgt := 22) hx hb dJ6_getChars_ba4f3_16 (by decide) (fun c9 => absurd c9 (by decide)) (fun c147 => ?_)
    refine lv_iload_n hx hb dJ6_getChars_ba4f3_19 rfl (lv_at hl 2 rfl) ?_
    refine lv_ineg hx hb dJ6_getChars_ba4f3_20 ?_
    refine lv_topi (fun yn148 eyn148 => ?_)
    obtain rfl : yn148 = (ngI w9) := eyn148.trans hn2
    refine lv_istore_n (lv' := [(0, .int (ngI w9)), (6, .int 0), (5, .int (nI ix)), (1, .int (nI ix)), (2, .ref o1)]) hx hb dJ6_getChars_ba4f3_21 rfl hl (by decide) rfl (fun ls hl => ?_)
    have hqhn149 := dg_pos w9
    rcases Nat.lt_or_ge w9 100 with hn149 | hn149
    · skip
      refine lv_iload_n hx hb dJ6_getChars_ba4f3_22 rfl (lv_at hl 0 rfl) ?_
      refine lv_bipush (v := (-100)) hx hb dJ6_getChars_ba4f3_23 (by decide) ?_
      refine lv_icmp_gt (tgt := 72) hx hb dJ6_getChars_ba4f3_25 (by decide) (fun c150 => ?_) (fun c9 => absurd c9 (fun h9 => h9 (ng_gt hn149)))
      refine lv_aload_n hx hb dJ6_getChars_ba4f3_72 rfl (lv_at hl 4 rfl) ?_
      refine lv_iinc (v := (nI (ix - 1))) (lv' := [(5, .int (nI (ix - 1))), (0, .int (ngI w9)), (6, .int 0), (1, .int (nI ix)), (2, .ref o1)]) hx hb dJ6_getChars_ba4f3_73 hl (k := 2) rfl (nI_dec (a := ix) (b := (ix - 1)) (by omega)) (by decide) rfl (fun ls hl => ?_)
      refine lv_iload hx hb dJ6_getChars_ba4f3_76 (lv_at hl 0 rfl) ?_
      refine va_gets hx hb hd1 hS hown (hts (.fieldLink RJ6 83 "java/lang/Integer" "DigitOnes" "[B") (by decide +kernel)) (fun _ h9 => h9) dJ6_getChars_ba4f3_78 ?_
      refine lv_iload_n hx hb dJ6_getChars_ba4f3_81 rfl (lv_at hl 1 rfl) ?_
      refine lv_ineg hx hb dJ6_getChars_ba4f3_82 ?_
      refine lv_topi (fun yn151 eyn151 => ?_)
      obtain rfl : yn151 = (nI w9) := eyn151.trans (ng_opp)
      refine va_tb (v := .int (f1 ((nI w9)).toNatClampNeg)) hx hb ht1 hS (vp_in_nI (n := w9) (N := 100) (show w9 < 100 by omega) (by decide)) rfl dJ6_getChars_ba4f3_83 ?_
      refine lv_topi (fun yn152 eyn152 => ?_)
      refine va_bast hx hb hK hP hD hS 0 3 rfl rfl (vp_in_nI (n := (ix - 1)) (N := cp) (show (ix - 1) < cp by omega) (by omega)) dJ6_getChars_ba4f3_84 (fun H locs hP hD hS => ?_)
      obtain ⟨hP, hD⟩ : PDq D A [(o1, .inl (cA 3, cp, .inl (upd fy (((nI (ix - 1))).toNatClampNeg) (vp_nar .byte yn152))))] H := ⟨hP, hD⟩
      have hn154 : sb_Fit (upd fy (((nI (ix - 1))).toNatClampNeg) (vp_nar .byte yn152)) := (sb_fitU hfit (pk_fb _))
      generalize (upd fy (((nI (ix - 1))).toNatClampNeg) (vp_nar .byte yn152)) = fn153 at hP hD hn154
      obtain ⟨hP, hD⟩ : PDq D A [(o1, .inl (cA 3, cp, .inl fn153))] H := ⟨hP, hD⟩
      rcases Nat.lt_or_ge w9 10 with hn155 | hn155
      · skip
        refine lv_iload_n hx hb dJ6_getChars_ba4f3_85 rfl (lv_at hl 1 rfl) ?_
        refine lv_bipush (v := (-9)) hx hb dJ6_getChars_ba4f3_86 (by decide) ?_
        refine lv_icmp_ge (tgt := 104) hx hb dJ6_getChars_ba4f3_88 (by decide) (fun c156 => ?_) (fun c9 => absurd c9 (fun h9 => h9 (ng_ge9 hn155)))
        refine lv_iload hx hb dJ6_getChars_ba4f3_104 (lv_at hl 2 rfl) ?_
        refine lv_if_eq (tgt := 118) hx hb dJ6_getChars_ba4f3_106 (by decide) (fun c157 => ?_) (fun c9 => absurd c9 (by decide))
        refine lv_iload hx hb dJ6_getChars_ba4f3_118 (lv_at hl 0 rfl) ?_
        obtain ⟨hP9, hD9⟩ := PDq.sub (ws' := [(o1, .inl (cA 3, cp, .inl fn153))]) hP hD [0] (by decide) rfl
        refine W.widen (k := 0) (n := 0) (Nat.le_of_ble_eq_true rfl) (Nat.le_of_ble_eq_true rfl) ?_
        exact (W.iret (v := (nI (ix - 1))) hx hb hr (fun t ht hW => ⟨⟨(nI (ix - 1)), (), rfl, trivial, fn153, hn154, by rw [ht]; exact hP9, hD9⟩, hS.F ht⟩) hS.2.2 dJ6_getChars_ba4f3_120)
      · skip
        have hqhn155 := dg_2 hn155 (by omega)
        refine lv_iload_n hx hb dJ6_getChars_ba4f3_85 rfl (lv_at hl 1 rfl) ?_
        refine lv_bipush (v := (-9)) hx hb dJ6_getChars_ba4f3_86 (by decide) ?_
        refine lv_icmp_ge (tgt := 104) hx hb dJ6_getChars_ba4f3_88 (by decide) (fun c9 => absurd c9 (ng_nge9 hn155 (by omega))) (fun c158 => ?_)
        refine lv_aload_n hx hb dJ6_getChars_ba4f3_91 rfl (lv_at hl 4 rfl) ?_
        refine lv_iinc (v := (nI ((ix - 1) - 1))) (lv' := [(5, .int (nI ((ix - 1) - 1))), (0, .int (ngI w9)), (6, .int 0), (1, .int (nI ix)), (2, .ref o1)]) hx hb dJ6_getChars_ba4f3_92 hl (k := 0) rfl (nI_dec (a := (ix - 1)) (b := ((ix - 1) - 1)) (by omega)) (by decide) rfl (fun ls hl => ?_)
        refine lv_iload hx hb dJ6_getChars_ba4f3_95 (lv_at hl 0 rfl) ?_
        refine va_gets hx hb hd2 hS hown (hts (.fieldLink RJ6 87 "java/lang/Integer" "DigitTens" "[B") (by decide +kernel)) (fun _ h9 => h9) dJ6_getChars_ba4f3_97 ?_
        refine lv_iload_n hx hb dJ6_getChars_ba4f3_100 rfl (lv_at hl 1 rfl) ?_
        refine lv_ineg hx hb dJ6_getChars_ba4f3_101 ?_
        refine lv_topi (fun yn159 eyn159 => ?_)
        obtain rfl : yn159 = (nI w9) := eyn159.trans (ng_opp)
        refine va_tb (v := .int (f2 ((nI w9)).toNatClampNeg)) hx hb ht2 hS (vp_in_nI (n := w9) (N := 100) (show w9 < 100 by omega) (by decide)) rfl dJ6_getChars_ba4f3_102 ?_
        refine lv_topi (fun yn160 eyn160 => ?_)
        refine va_bast hx hb hK hP hD hS 0 3 rfl rfl (vp_in_nI (n := ((ix - 1) - 1)) (N := cp) (show ((ix - 1) - 1) < cp by omega) (by omega)) dJ6_getChars_ba4f3_103 (fun H locs hP hD hS => ?_)
        obtain ⟨hP, hD⟩ : PDq D A [(o1, .inl (cA 3, cp, .inl (upd fn153 (((nI ((ix - 1) - 1))).toNatClampNeg) (vp_nar .byte yn160))))] H := ⟨hP, hD⟩
        have hn162 : sb_Fit (upd fn153 (((nI ((ix - 1) - 1))).toNatClampNeg) (vp_nar .byte yn160)) := (sb_fitU hn154 (pk_fb _))
        generalize (upd fn153 (((nI ((ix - 1) - 1))).toNatClampNeg) (vp_nar .byte yn160)) = fn161 at hP hD hn162
        obtain ⟨hP, hD⟩ : PDq D A [(o1, .inl (cA 3, cp, .inl fn161))] H := ⟨hP, hD⟩
        refine lv_iload hx hb dJ6_getChars_ba4f3_104 (lv_at hl 2 rfl) ?_
        refine lv_if_eq (tgt := 118) hx hb dJ6_getChars_ba4f3_106 (by decide) (fun c163 => ?_) (fun c9 => absurd c9 (by decide))
        refine lv_iload hx hb dJ6_getChars_ba4f3_118 (lv_at hl 0 rfl) ?_
        obtain ⟨hP9, hD9⟩ := PDq.sub (ws' := [(o1, .inl (cA 3, cp, .inl fn161))]) hP hD [0] (by decide) rfl
        refine W.widen (k := 0) (n := 0) (Nat.le_of_ble_eq_true rfl) (Nat.le_of_ble_eq_true rfl) ?_
        exact (W.iret (v := (nI ((ix - 1) - 1))) hx hb hr (fun t ht hW => ⟨⟨(nI ((ix - 1) - 1)), (), rfl, trivial, fn161, hn162, by rw [ht]; exact hP9, hD9⟩, hS.F ht⟩) hS.2.2 dJ6_getChars_ba4f3_120)
    · skip
      refine lv_iload_n hx hb dJ6_getChars_ba4f3_22 rfl (lv_at hl 0 rfl) ?_
      refine lv_bipush (v := (-100)) hx hb dJ6_getChars_ba4f3_23 (by decide) ?_
      refine lv_icmp_gt (tgt := 72) hx hb dJ6_getChars_ba4f3_25 (by decide) (fun c9 => absurd c9 (ng_ngt hn149 (by omega))) (fun c164 => ?_)
      refine lv_iload_n hx hb dJ6_getChars_ba4f3_28 rfl (lv_at hl 0 rfl) ?_
      refine lv_bipush (v := 100) hx hb dJ6_getChars_ba4f3_29 (by decide) ?_
      obtain ⟨w0x, hw0x⟩ : ∃ x9, x9 = w9 / 100 := ⟨_, rfl⟩
      have hdw0x : dg w9 = dg w0x + 2 := by rw [hw0x]; exact dg_100 (by omega) hn149
      have hpw0x := dg_pos w0x
      refine lv_idiv hx hb dJ6_getChars_ba4f3_31 (by decide) ?_
      refine lv_topi (fun yn165 eyn165 => ?_)
      obtain rfl : yn165 = (ngI w0x) := eyn165.trans (by rw [ng_div (by omega), ← hw0x])
      refine lv_istore_n (lv' := [(3, .int (ngI w0x)), (0, .int (ngI w9)), (6, .int 0), (5, .int (nI ix)), (1, .int (nI ix)), (2, .ref o1)]) hx hb dJ6_getChars_ba4f3_32 rfl hl (by decide) rfl (fun ls hl => ?_)
      refine lv_iload_n hx hb dJ6_getChars_ba4f3_33 rfl (lv_at hl 0 rfl) ?_
      refine lv_bipush (v := 100) hx hb dJ6_getChars_ba4f3_34 (by decide) ?_
      refine lv_imul hx hb dJ6_getChars_ba4f3_36 ?_
      refine lv_topi (fun yn166 eyn166 => ?_)
      refine lv_iload_n hx hb dJ6_getChars_ba4f3_37 rfl (lv_at hl 1 rfl) ?_
      refine lv_isub hx hb dJ6_getChars_ba4f3_38 ?_
      refine lv_topi (fun yn169 eyn169 => ?_)
      obtain rfl : yn169 = (nI (w9 % 100)) := eyn169.trans (by rw [eyn166, hw0x]; exact ng_rem (by omega))
      refine lv_istore (lv' := [(4, .int (nI (w9 % 100))), (3, .int (ngI w0x)), (0, .int (ngI w9)), (6, .int 0), (5, .int (nI ix)), (1, .int (nI ix)), (2, .ref o1)]) hx hb dJ6_getChars_ba4f3_39 hl (by decide) rfl (fun ls hl => ?_)
      refine lv_iload_n hx hb dJ6_getChars_ba4f3_41 rfl (lv_at hl 1 rfl) ?_
      refine lv_istore_n (lv' := [(0, .int (ngI w0x)), (4, .int (nI (w9 % 100))), (3, .int (ngI w0x)), (6, .int 0), (5, .int (nI ix)), (1, .int (nI ix)), (2, .ref o1)]) hx hb dJ6_getChars_ba4f3_42 rfl hl (by decide) rfl (fun ls hl => ?_)
      refine lv_aload_n hx hb dJ6_getChars_ba4f3_43 rfl (lv_at hl 6 rfl) ?_
      refine lv_iinc (v := (nI (ix - 1))) (lv' := [(5, .int (nI (ix - 1))), (0, .int (ngI w0x)), (4, .int (nI (w9 % 100))), (3, .int (ngI w0x)), (6, .int 0), (1, .int (nI ix)), (2, .ref o1)]) hx hb dJ6_getChars_ba4f3_44 hl (k := 4) rfl (nI_dec (a := ix) (b := (ix - 1)) (by omega)) (by decide) rfl (fun ls hl => ?_)
      refine lv_iload hx hb dJ6_getChars_ba4f3_47 (lv_at hl 0 rfl) ?_
      refine va_gets hx hb hd1 hS hown (hts (.fieldLink RJ6 83 "java/lang/Integer" "DigitOnes" "[B") (by decide +kernel)) (fun _ h9 => h9) dJ6_getChars_ba4f3_49 ?_
      refine lv_iload hx hb dJ6_getChars_ba4f3_52 (lv_at hl 2 rfl) ?_
      refine va_tb (v := .int (f1 ((nI (w9 % 100))).toNatClampNeg)) hx hb ht1 hS (vp_in_nI (n := (w9 % 100)) (N := 100) (show (w9 % 100) < 100 by omega) (by decide)) rfl dJ6_getChars_ba4f3_54 ?_
      refine lv_topi (fun yn170 eyn170 => ?_)
      refine va_bast hx hb hK hP hD hS 0 3 rfl rfl (vp_in_nI (n := (ix - 1)) (N := cp) (show (ix - 1) < cp by omega) (by omega)) dJ6_getChars_ba4f3_55 (fun H locs hP hD hS => ?_)
      obtain ⟨hP, hD⟩ : PDq D A [(o1, .inl (cA 3, cp, .inl (upd fy (((nI (ix - 1))).toNatClampNeg) (vp_nar .byte yn170))))] H := ⟨hP, hD⟩
      have hn172 : sb_Fit (upd fy (((nI (ix - 1))).toNatClampNeg) (vp_nar .byte yn170)) := (sb_fitU hfit (pk_fb _))
      generalize (upd fy (((nI (ix - 1))).toNatClampNeg) (vp_nar .byte yn170)) = fn171 at hP hD hn172
      obtain ⟨hP, hD⟩ : PDq D A [(o1, .inl (cA 3, cp, .inl fn171))] H := ⟨hP, hD⟩
      refine lv_aload_n hx hb dJ6_getChars_ba4f3_56 rfl (lv_at hl 6 rfl) ?_
      refine lv_iinc (v := (nI ((ix - 1) - 1))) (lv' := [(5, .int (nI ((ix - 1) - 1))), (0, .int (ngI w0x)), (4, .int (nI (w9 % 100))), (3, .int (ngI w0x)), (6, .int 0), (1, .int (nI ix)), (2, .ref o1)]) hx hb dJ6_getChars_ba4f3_57 hl (k := 0) rfl (nI_dec (a := (ix - 1)) (b := ((ix - 1) - 1)) (by omega)) (by decide) rfl (fun ls hl => ?_)
      refine lv_iload hx hb dJ6_getChars_ba4f3_60 (lv_at hl 0 rfl) ?_
      refine va_gets hx hb hd2 hS hown (hts (.fieldLink RJ6 87 "java/lang/Integer" "DigitTens" "[B") (by decide +kernel)) (fun _ h9 => h9) dJ6_getChars_ba4f3_62 ?_
      refine lv_iload hx hb dJ6_getChars_ba4f3_65 (lv_at hl 2 rfl) ?_
      refine va_tb (v := .int (f2 ((nI (w9 % 100))).toNatClampNeg)) hx hb ht2 hS (vp_in_nI (n := (w9 % 100)) (N := 100) (show (w9 % 100) < 100 by omega) (by decide)) rfl dJ6_getChars_ba4f3_67 ?_
      refine lv_topi (fun yn173 eyn173 => ?_)
      refine va_bast hx hb hK hP hD hS 0 3 rfl rfl (vp_in_nI (n := ((ix - 1) - 1)) (N := cp) (show ((ix - 1) - 1) < cp by omega) (by omega)) dJ6_getChars_ba4f3_68 (fun H locs hP hD hS => ?_)
      obtain ⟨hP, hD⟩ : PDq D A [(o1, .inl (cA 3, cp, .inl (upd fn171 (((nI ((ix - 1) - 1))).toNatClampNeg) (vp_nar .byte yn173))))] H := ⟨hP, hD⟩
      have hn175 : sb_Fit (upd fn171 (((nI ((ix - 1) - 1))).toNatClampNeg) (vp_nar .byte yn173)) := (sb_fitU hn172 (pk_fb _))
      generalize (upd fn171 (((nI ((ix - 1) - 1))).toNatClampNeg) (vp_nar .byte yn173)) = fn174 at hP hD hn175
      obtain ⟨hP, hD⟩ : PDq D A [(o1, .inl (cA 3, cp, .inl fn174))] H := ⟨hP, hD⟩
      refine lv_goto (tgt := 22) hx hb dJ6_getChars_ba4f3_69 (by decide) ?_
      have hqhn176 := dg_pos w0x
      rcases Nat.lt_or_ge w0x 100 with hn176 | hn176
      · skip
        refine lv_iload_n hx hb dJ6_getChars_ba4f3_22 rfl (lv_at hl 1 rfl) ?_
        refine lv_bipush (v := (-100)) hx hb dJ6_getChars_ba4f3_23 (by decide) ?_
        refine lv_icmp_gt (tgt := 72) hx hb dJ6_getChars_ba4f3_25 (by decide) (fun c177 => ?_) (fun c9 => absurd c9 (fun h9 => h9 (ng_gt hn176)))
        refine lv_aload_n hx hb dJ6_getChars_ba4f3_72 rfl (lv_at hl 6 rfl) ?_
        refine lv_iinc (v := (nI (((ix - 1) - 1) - 1))) (lv' := [(5, .int (nI (((ix - 1) - 1) - 1))), (0, .int (ngI w0x)), (4, .int (nI (w9 % 100))), (3, .int (ngI w0x)), (6, .int 0), (1, .int (nI ix)), (2, .ref o1)]) hx hb dJ6_getChars_ba4f3_73 hl (k := 0) rfl (nI_dec (a := ((ix - 1) - 1)) (b := (((ix - 1) - 1) - 1)) (by omega)) (by decide) rfl (fun ls hl => ?_)
        refine lv_iload hx hb dJ6_getChars_ba4f3_76 (lv_at hl 0 rfl) ?_
        refine va_gets hx hb hd1 hS hown (hts (.fieldLink RJ6 83 "java/lang/Integer" "DigitOnes" "[B") (by decide +kernel)) (fun _ h9 => h9) dJ6_getChars_ba4f3_78 ?_
        refine lv_iload_n hx hb dJ6_getChars_ba4f3_81 rfl (lv_at hl 1 rfl) ?_
        refine lv_ineg hx hb dJ6_getChars_ba4f3_82 ?_
        refine lv_topi (fun yn178 eyn178 => ?_)
        obtain rfl : yn178 = (nI w0x) := eyn178.trans (ng_opp)
        refine va_tb (v := .int (f1 ((nI w0x)).toNatClampNeg)) hx hb ht1 hS (vp_in_nI (n := w0x) (N := 100) (show w0x < 100 by omega) (by decide)) rfl dJ6_getChars_ba4f3_83 ?_
        refine lv_topi (fun yn179 eyn179 => ?_)
        refine va_bast hx hb hK hP hD hS 0 3 rfl rfl (vp_in_nI (n := (((ix - 1) - 1) - 1)) (N := cp) (show (((ix - 1) - 1) - 1) < cp by omega) (by omega)) dJ6_getChars_ba4f3_84 (fun H locs hP hD hS => ?_)
        obtain ⟨hP, hD⟩ : PDq D A [(o1, .inl (cA 3, cp, .inl (upd fn174 (((nI (((ix - 1) - 1) - 1))).toNatClampNeg) (vp_nar .byte yn179))))] H := ⟨hP, hD⟩
        have hn181 : sb_Fit (upd fn174 (((nI (((ix - 1) - 1) - 1))).toNatClampNeg) (vp_nar .byte yn179)) := (sb_fitU hn175 (pk_fb _))
        generalize (upd fn174 (((nI (((ix - 1) - 1) - 1))).toNatClampNeg) (vp_nar .byte yn179)) = fn180 at hP hD hn181
        obtain ⟨hP, hD⟩ : PDq D A [(o1, .inl (cA 3, cp, .inl fn180))] H := ⟨hP, hD⟩
        rcases Nat.lt_or_ge w0x 10 with hn182 | hn182
        · skip
          refine lv_iload_n hx hb dJ6_getChars_ba4f3_85 rfl (lv_at hl 1 rfl) ?_
          refine lv_bipush (v := (-9)) hx hb dJ6_getChars_ba4f3_86 (by decide) ?_
          refine lv_icmp_ge (tgt := 104) hx hb dJ6_getChars_ba4f3_88 (by decide) (fun c183 => ?_) (fun c9 => absurd c9 (fun h9 => h9 (ng_ge9 hn182)))
          refine lv_iload hx hb dJ6_getChars_ba4f3_104 (lv_at hl 4 rfl) ?_
          refine lv_if_eq (tgt := 118) hx hb dJ6_getChars_ba4f3_106 (by decide) (fun c184 => ?_) (fun c9 => absurd c9 (by decide))
          refine lv_iload hx hb dJ6_getChars_ba4f3_118 (lv_at hl 0 rfl) ?_
          obtain ⟨hP9, hD9⟩ := PDq.sub (ws' := [(o1, .inl (cA 3, cp, .inl fn180))]) hP hD [0] (by decide) rfl
          refine W.widen (k := 0) (n := 0) (Nat.le_of_ble_eq_true rfl) (Nat.le_of_ble_eq_true rfl) ?_
          exact (W.iret (v := (nI (((ix - 1) - 1) - 1))) hx hb hr (fun t ht hW => ⟨⟨(nI (((ix - 1) - 1) - 1)), (), rfl, trivial, fn180, hn181, by rw [ht]; exact hP9, hD9⟩, hS.F ht⟩) hS.2.2 dJ6_getChars_ba4f3_120)
        · skip
          have hqhn182 := dg_2 hn182 (by omega)
          refine lv_iload_n hx hb dJ6_getChars_ba4f3_85 rfl (lv_at hl 1 rfl) ?_
          refine lv_bipush (v := (-9)) hx hb dJ6_getChars_ba4f3_86 (by decide) ?_
          refine lv_icmp_ge (tgt := 104) hx hb dJ6_getChars_ba4f3_88 (by decide) (fun c9 => absurd c9 (ng_nge9 hn182 (by omega))) (fun c185 => ?_)
          refine lv_aload_n hx hb dJ6_getChars_ba4f3_91 rfl (lv_at hl 6 rfl) ?_
          refine lv_iinc (v := (nI ((((ix - 1) - 1) - 1) - 1))) (lv' := [(5, .int (nI ((((ix - 1) - 1) - 1) - 1))), (0, .int (ngI w0x)), (4, .int (nI (w9 % 100))), (3, .int (ngI w0x)), (6, .int 0), (1, .int (nI ix)), (2, .ref o1)]) hx hb dJ6_getChars_ba4f3_92 hl (k := 0) rfl (nI_dec (a := (((ix - 1) - 1) - 1)) (b := ((((ix - 1) - 1) - 1) - 1)) (by omega)) (by decide) rfl (fun ls hl => ?_)
          refine lv_iload hx hb dJ6_getChars_ba4f3_95 (lv_at hl 0 rfl) ?_
          refine va_gets hx hb hd2 hS hown (hts (.fieldLink RJ6 87 "java/lang/Integer" "DigitTens" "[B") (by decide +kernel)) (fun _ h9 => h9) dJ6_getChars_ba4f3_97 ?_
          refine lv_iload_n hx hb dJ6_getChars_ba4f3_100 rfl (lv_at hl 1 rfl) ?_
          refine lv_ineg hx hb dJ6_getChars_ba4f3_101 ?_
          refine lv_topi (fun yn186 eyn186 => ?_)
          obtain rfl : yn186 = (nI w0x) := eyn186.trans (ng_opp)
          refine va_tb (v := .int (f2 ((nI w0x)).toNatClampNeg)) hx hb ht2 hS (vp_in_nI (n := w0x) (N := 100) (show w0x < 100 by omega) (by decide)) rfl dJ6_getChars_ba4f3_102 ?_
          refine lv_topi (fun yn187 eyn187 => ?_)
          refine va_bast hx hb hK hP hD hS 0 3 rfl rfl (vp_in_nI (n := ((((ix - 1) - 1) - 1) - 1)) (N := cp) (show ((((ix - 1) - 1) - 1) - 1) < cp by omega) (by omega)) dJ6_getChars_ba4f3_103 (fun H locs hP hD hS => ?_)
          obtain ⟨hP, hD⟩ : PDq D A [(o1, .inl (cA 3, cp, .inl (upd fn180 (((nI ((((ix - 1) - 1) - 1) - 1))).toNatClampNeg) (vp_nar .byte yn187))))] H := ⟨hP, hD⟩
          have hn189 : sb_Fit (upd fn180 (((nI ((((ix - 1) - 1) - 1) - 1))).toNatClampNeg) (vp_nar .byte yn187)) := (sb_fitU hn181 (pk_fb _))
          generalize (upd fn180 (((nI ((((ix - 1) - 1) - 1) - 1))).toNatClampNeg) (vp_nar .byte yn187)) = fn188 at hP hD hn189
          obtain ⟨hP, hD⟩ : PDq D A [(o1, .inl (cA 3, cp, .inl fn188))] H := ⟨hP, hD⟩
          refine lv_iload hx hb dJ6_getChars_ba4f3_104 (lv_at hl 4 rfl) ?_
          refine lv_if_eq (tgt := 118) hx hb dJ6_getChars_ba4f3_106 (by decide) (fun c190 => ?_) (fun c9 => absurd c9 (by decide))
          refine lv_iload hx hb dJ6_getChars_ba4f3_118 (lv_at hl 0 rfl) ?_
          obtain ⟨hP9, hD9⟩ := PDq.sub (ws' := [(o1, .inl (cA 3, cp, .inl fn188))]) hP hD [0] (by decide) rfl
          refine W.widen (k := 0) (n := 0) (Nat.le_of_ble_eq_true rfl) (Nat.le_of_ble_eq_true rfl) ?_
          exact (W.iret (v := (nI ((((ix - 1) - 1) - 1) - 1))) hx hb hr (fun t ht hW => ⟨⟨(nI ((((ix - 1) - 1) - 1) - 1)), (), rfl, trivial, fn188, hn189, by rw [ht]; exact hP9, hD9⟩, hS.F ht⟩) hS.2.2 dJ6_getChars_ba4f3_120)
      · skip
        refine lv_iload_n hx hb dJ6_getChars_ba4f3_22 rfl (lv_at hl 1 rfl) ?_
        refine lv_bipush (v := (-100)) hx hb dJ6_getChars_ba4f3_23 (by decide) ?_
        refine lv_icmp_gt (tgt := 72) hx hb dJ6_getChars_ba4f3_25 (by decide) (fun c9 => absurd c9 (ng_ngt hn176 (by omega))) (fun c191 => ?_)
        refine lv_iload_n hx hb dJ6_getChars_ba4f3_28 rfl (lv_at hl 1 rfl) ?_
        refine lv_bipush (v := 100) hx hb dJ6_getChars_ba4f3_29 (by decide) ?_
        obtain ⟨w1x, hw1x⟩ : ∃ x9, x9 = w0x / 100 := ⟨_, rfl⟩
        have hdw1x : dg w0x = dg w1x + 2 := by rw [hw1x]; exact dg_100 (by omega) hn176
        have hpw1x := dg_pos w1x
        refine lv_idiv hx hb dJ6_getChars_ba4f3_31 (by decide) ?_
        refine lv_topi (fun yn192 eyn192 => ?_)
        obtain rfl : yn192 = (ngI w1x) := eyn192.trans (by rw [ng_div (by omega), ← hw1x])
        refine lv_istore_n (lv' := [(3, .int (ngI w1x)), (5, .int (nI ((ix - 1) - 1))), (0, .int (ngI w0x)), (4, .int (nI (w9 % 100))), (6, .int 0), (1, .int (nI ix)), (2, .ref o1)]) hx hb dJ6_getChars_ba4f3_32 rfl hl (by decide) rfl (fun ls hl => ?_)
        refine lv_iload_n hx hb dJ6_getChars_ba4f3_33 rfl (lv_at hl 0 rfl) ?_
        refine lv_bipush (v := 100) hx hb dJ6_getChars_ba4f3_34 (by decide) ?_
        refine lv_imul hx hb dJ6_getChars_ba4f3_36 ?_
        refine lv_topi (fun yn193 eyn193 => ?_)
        refine lv_iload_n hx hb dJ6_getChars_ba4f3_37 rfl (lv_at hl 2 rfl) ?_
        refine lv_isub hx hb dJ6_getChars_ba4f3_38 ?_
        refine lv_topi (fun yn196 eyn196 => ?_)
        obtain rfl : yn196 = (nI (w0x % 100)) := eyn196.trans (by rw [eyn193, hw1x]; exact ng_rem (by omega))
        refine lv_istore (lv' := [(4, .int (nI (w0x % 100))), (3, .int (ngI w1x)), (5, .int (nI ((ix - 1) - 1))), (0, .int (ngI w0x)), (6, .int 0), (1, .int (nI ix)), (2, .ref o1)]) hx hb dJ6_getChars_ba4f3_39 hl (by decide) rfl (fun ls hl => ?_)
        refine lv_iload_n hx hb dJ6_getChars_ba4f3_41 rfl (lv_at hl 1 rfl) ?_
        refine lv_istore_n (lv' := [(0, .int (ngI w1x)), (4, .int (nI (w0x % 100))), (3, .int (ngI w1x)), (5, .int (nI ((ix - 1) - 1))), (6, .int 0), (1, .int (nI ix)), (2, .ref o1)]) hx hb dJ6_getChars_ba4f3_42 rfl hl (by decide) rfl (fun ls hl => ?_)
        refine lv_aload_n hx hb dJ6_getChars_ba4f3_43 rfl (lv_at hl 6 rfl) ?_
        refine lv_iinc (v := (nI (((ix - 1) - 1) - 1))) (lv' := [(5, .int (nI (((ix - 1) - 1) - 1))), (0, .int (ngI w1x)), (4, .int (nI (w0x % 100))), (3, .int (ngI w1x)), (6, .int 0), (1, .int (nI ix)), (2, .ref o1)]) hx hb dJ6_getChars_ba4f3_44 hl (k := 3) rfl (nI_dec (a := ((ix - 1) - 1)) (b := (((ix - 1) - 1) - 1)) (by omega)) (by decide) rfl (fun ls hl => ?_)
        refine lv_iload hx hb dJ6_getChars_ba4f3_47 (lv_at hl 0 rfl) ?_
        refine va_gets hx hb hd1 hS hown (hts (.fieldLink RJ6 83 "java/lang/Integer" "DigitOnes" "[B") (by decide +kernel)) (fun _ h9 => h9) dJ6_getChars_ba4f3_49 ?_
        refine lv_iload hx hb dJ6_getChars_ba4f3_52 (lv_at hl 2 rfl) ?_
        refine va_tb (v := .int (f1 ((nI (w0x % 100))).toNatClampNeg)) hx hb ht1 hS (vp_in_nI (n := (w0x % 100)) (N := 100) (show (w0x % 100) < 100 by omega) (by decide)) rfl dJ6_getChars_ba4f3_54 ?_
        refine lv_topi (fun yn197 eyn197 => ?_)
        refine va_bast hx hb hK hP hD hS 0 3 rfl rfl (vp_in_nI (n := (((ix - 1) - 1) - 1)) (N := cp) (show (((ix - 1) - 1) - 1) < cp by omega) (by omega)) dJ6_getChars_ba4f3_55 (fun H locs hP hD hS => ?_)
        obtain ⟨hP, hD⟩ : PDq D A [(o1, .inl (cA 3, cp, .inl (upd fn174 (((nI (((ix - 1) - 1) - 1))).toNatClampNeg) (vp_nar .byte yn197))))] H := ⟨hP, hD⟩
        have hn199 : sb_Fit (upd fn174 (((nI (((ix - 1) - 1) - 1))).toNatClampNeg) (vp_nar .byte yn197)) := (sb_fitU hn175 (pk_fb _))
        generalize (upd fn174 (((nI (((ix - 1) - 1) - 1))).toNatClampNeg) (vp_nar .byte yn197)) = fn198 at hP hD hn199
        obtain ⟨hP, hD⟩ : PDq D A [(o1, .inl (cA 3, cp, .inl fn198))] H := ⟨hP, hD⟩
        refine lv_aload_n hx hb dJ6_getChars_ba4f3_56 rfl (lv_at hl 6 rfl) ?_
        refine lv_iinc (v := (nI ((((ix - 1) - 1) - 1) - 1))) (lv' := [(5, .int (nI ((((ix - 1) - 1) - 1) - 1))), (0, .int (ngI w1x)), (4, .int (nI (w0x % 100))), (3, .int (ngI w1x)), (6, .int 0), (1, .int (nI ix)), (2, .ref o1)]) hx hb dJ6_getChars_ba4f3_57 hl (k := 0) rfl (nI_dec (a := (((ix - 1) - 1) - 1)) (b := ((((ix - 1) - 1) - 1) - 1)) (by omega)) (by decide) rfl (fun ls hl => ?_)
        refine lv_iload hx hb dJ6_getChars_ba4f3_60 (lv_at hl 0 rfl) ?_
        refine va_gets hx hb hd2 hS hown (hts (.fieldLink RJ6 87 "java/lang/Integer" "DigitTens" "[B") (by decide +kernel)) (fun _ h9 => h9) dJ6_getChars_ba4f3_62 ?_
        refine lv_iload hx hb dJ6_getChars_ba4f3_65 (lv_at hl 2 rfl) ?_
        refine va_tb (v := .int (f2 ((nI (w0x % 100))).toNatClampNeg)) hx hb ht2 hS (vp_in_nI (n := (w0x % 100)) (N := 100) (show (w0x % 100) < 100 by omega) (by decide)) rfl dJ6_getChars_ba4f3_67 ?_
        refine lv_topi (fun yn200 eyn200 => ?_)
        refine va_bast hx hb hK hP hD hS 0 3 rfl rfl (vp_in_nI (n := ((((ix - 1) - 1) - 1) - 1)) (N := cp) (show ((((ix - 1) - 1) - 1) - 1) < cp by omega) (by omega)) dJ6_getChars_ba4f3_68 (fun H locs hP hD hS => ?_)
        obtain ⟨hP, hD⟩ : PDq D A [(o1, .inl (cA 3, cp, .inl (upd fn198 (((nI ((((ix - 1) - 1) - 1) - 1))).toNatClampNeg) (vp_nar .byte yn200))))] H := ⟨hP, hD⟩
        have hn202 : sb_Fit (upd fn198 (((nI ((((ix - 1) - 1) - 1) - 1))).toNatClampNeg) (vp_nar .byte yn200)) := (sb_fitU hn199 (pk_fb _))
        generalize (upd fn198 (((nI ((((ix - 1) - 1) - 1) - 1))).toNatClampNeg) (vp_nar .byte yn200)) = fn201 at hP hD hn202
        obtain ⟨hP, hD⟩ : PDq D A [(o1, .inl (cA 3, cp, .inl fn201))] H := ⟨hP, hD⟩
        refine lv_goto (tgt := 22) hx hb dJ6_getChars_ba4f3_69 (by decide) ?_
        have hqhn203 := dg_pos w1x
        rcases Nat.lt_or_ge w1x 100 with hn203 | hn203
        · skip
          refine lv_iload_n hx hb dJ6_getChars_ba4f3_22 rfl (lv_at hl 1 rfl) ?_
          refine lv_bipush (v := (-100)) hx hb dJ6_getChars_ba4f3_23 (by decide) ?_
          refine lv_icmp_gt (tgt := 72) hx hb dJ6_getChars_ba4f3_25 (by decide) (fun c204 => ?_) (fun c9 => absurd c9 (fun h9 => h9 (ng_gt hn203)))
          refine lv_aload_n hx hb dJ6_getChars_ba4f3_72 rfl (lv_at hl 6 rfl) ?_
          refine lv_iinc (v := (nI (((((ix - 1) - 1) - 1) - 1) - 1))) (lv' := [(5, .int (nI (((((ix - 1) - 1) - 1) - 1) - 1))), (0, .int (ngI w1x)), (4, .int (nI (w0x % 100))), (3, .int (ngI w1x)), (6, .int 0), (1, .int (nI ix)), (2, .ref o1)]) hx hb dJ6_getChars_ba4f3_73 hl (k := 0) rfl (nI_dec (a := ((((ix - 1) - 1) - 1) - 1)) (b := (((((ix - 1) - 1) - 1) - 1) - 1)) (by omega)) (by decide) rfl (fun ls hl => ?_)
          refine lv_iload hx hb dJ6_getChars_ba4f3_76 (lv_at hl 0 rfl) ?_
          refine va_gets hx hb hd1 hS hown (hts (.fieldLink RJ6 83 "java/lang/Integer" "DigitOnes" "[B") (by decide +kernel)) (fun _ h9 => h9) dJ6_getChars_ba4f3_78 ?_
          refine lv_iload_n hx hb dJ6_getChars_ba4f3_81 rfl (lv_at hl 1 rfl) ?_
          refine lv_ineg hx hb dJ6_getChars_ba4f3_82 ?_
          refine lv_topi (fun yn205 eyn205 => ?_)
          obtain rfl : yn205 = (nI w1x) := eyn205.trans (ng_opp)
          refine va_tb (v := .int (f1 ((nI w1x)).toNatClampNeg)) hx hb ht1 hS (vp_in_nI (n := w1x) (N := 100) (show w1x < 100 by omega) (by decide)) rfl dJ6_getChars_ba4f3_83 ?_
          refine lv_topi (fun yn206 eyn206 => ?_)
          refine va_bast hx hb hK hP hD hS 0 3 rfl rfl (vp_in_nI (n := (((((ix - 1) - 1) - 1) - 1) - 1)) (N := cp) (show (((((ix - 1) - 1) - 1) - 1) - 1) < cp by omega) (by omega)) dJ6_getChars_ba4f3_84 (fun H locs hP hD hS => ?_)
          obtain ⟨hP, hD⟩ : PDq D A [(o1, .inl (cA 3, cp, .inl (upd fn201 (((nI (((((ix - 1) - 1) - 1) - 1) - 1))).toNatClampNeg) (vp_nar .byte yn206))))] H := ⟨hP, hD⟩
          have hn208 : sb_Fit (upd fn201 (((nI (((((ix - 1) - 1) - 1) - 1) - 1))).toNatClampNeg) (vp_nar .byte yn206)) := (sb_fitU hn202 (pk_fb _))
          generalize (upd fn201 (((nI (((((ix - 1) - 1) - 1) - 1) - 1))).toNatClampNeg) (vp_nar .byte yn206)) = fn207 at hP hD hn208
          obtain ⟨hP, hD⟩ : PDq D A [(o1, .inl (cA 3, cp, .inl fn207))] H := ⟨hP, hD⟩
          rcases Nat.lt_or_ge w1x 10 with hn209 | hn209
          · skip
            refine lv_iload_n hx hb dJ6_getChars_ba4f3_85 rfl (lv_at hl 1 rfl) ?_
            refine lv_bipush (v := (-9)) hx hb dJ6_getChars_ba4f3_86 (by decide) ?_
            refine lv_icmp_ge (tgt := 104) hx hb dJ6_getChars_ba4f3_88 (by decide) (fun c210 => ?_) (fun c9 => absurd c9 (fun h9 => h9 (ng_ge9 hn209)))
            refine lv_iload hx hb dJ6_getChars_ba4f3_104 (lv_at hl 4 rfl) ?_
            refine lv_if_eq (tgt := 118) hx hb dJ6_getChars_ba4f3_106 (by decide) (fun c211 => ?_) (fun c9 => absurd c9 (by decide))
            refine lv_iload hx hb dJ6_getChars_ba4f3_118 (lv_at hl 0 rfl) ?_
            obtain ⟨hP9, hD9⟩ := PDq.sub (ws' := [(o1, .inl (cA 3, cp, .inl fn207))]) hP hD [0] (by decide) rfl
            refine W.widen (k := 0) (n := 0) (Nat.le_of_ble_eq_true rfl) (Nat.le_of_ble_eq_true rfl) ?_
            exact (W.iret (v := (nI (((((ix - 1) - 1) - 1) - 1) - 1))) hx hb hr (fun t ht hW => ⟨⟨(nI (((((ix - 1) - 1) - 1) - 1) - 1)), (), rfl, trivial, fn207, hn208, by rw [ht]; exact hP9, hD9⟩, hS.F ht⟩) hS.2.2 dJ6_getChars_ba4f3_120)
          · skip
            have hqhn209 := dg_2 hn209 (by omega)
            refine lv_iload_n hx hb dJ6_getChars_ba4f3_85 rfl (lv_at hl 1 rfl) ?_
            refine lv_bipush (v := (-9)) hx hb dJ6_getChars_ba4f3_86 (by decide) ?_
            refine lv_icmp_ge (tgt := 104) hx hb dJ6_getChars_ba4f3_88 (by decide) (fun c9 => absurd c9 (ng_nge9 hn209 (by omega))) (fun c212 => ?_)
            refine lv_aload_n hx hb dJ6_getChars_ba4f3_91 rfl (lv_at hl 6 rfl) ?_
            refine lv_iinc (v := (nI ((((((ix - 1) - 1) - 1) - 1) - 1) - 1))) (lv' := [(5, .int (nI ((((((ix - 1) - 1) - 1) - 1) - 1) - 1))), (0, .int (ngI w1x)), (4, .int (nI (w0x % 100))), (3, .int (ngI w1x)), (6, .int 0), (1, .int (nI ix)), (2, .ref o1)]) hx hb dJ6_getChars_ba4f3_92 hl (k := 0) rfl (nI_dec (a := (((((ix - 1) - 1) - 1) - 1) - 1)) (b := ((((((ix - 1) - 1) - 1) - 1) - 1) - 1)) (by omega)) (by decide) rfl (fun ls hl => ?_)
            refine lv_iload hx hb dJ6_getChars_ba4f3_95 (lv_at hl 0 rfl) ?_
            refine va_gets hx hb hd2 hS hown (hts (.fieldLink RJ6 87 "java/lang/Integer" "DigitTens" "[B") (by decide +kernel)) (fun _ h9 => h9) dJ6_getChars_ba4f3_97 ?_
            refine lv_iload_n hx hb dJ6_getChars_ba4f3_100 rfl (lv_at hl 1 rfl) ?_
            refine lv_ineg hx hb dJ6_getChars_ba4f3_101 ?_
            refine lv_topi (fun yn213 eyn213 => ?_)
            obtain rfl : yn213 = (nI w1x) := eyn213.trans (ng_opp)
            refine va_tb (v := .int (f2 ((nI w1x)).toNatClampNeg)) hx hb ht2 hS (vp_in_nI (n := w1x) (N := 100) (show w1x < 100 by omega) (by decide)) rfl dJ6_getChars_ba4f3_102 ?_
            refine lv_topi (fun yn214 eyn214 => ?_)
            refine va_bast hx hb hK hP hD hS 0 3 rfl rfl (vp_in_nI (n := ((((((ix - 1) - 1) - 1) - 1) - 1) - 1)) (N := cp) (show ((((((ix - 1) - 1) - 1) - 1) - 1) - 1) < cp by omega) (by omega)) dJ6_getChars_ba4f3_103 (fun H locs hP hD hS => ?_)
            obtain ⟨hP, hD⟩ : PDq D A [(o1, .inl (cA 3, cp, .inl (upd fn207 (((nI ((((((ix - 1) - 1) - 1) - 1) - 1) - 1))).toNatClampNeg) (vp_nar .byte yn214))))] H := ⟨hP, hD⟩
            have hn216 : sb_Fit (upd fn207 (((nI ((((((ix - 1) - 1) - 1) - 1) - 1) - 1))).toNatClampNeg) (vp_nar .byte yn214)) := (sb_fitU hn208 (pk_fb _))
            generalize (upd fn207 (((nI ((((((ix - 1) - 1) - 1) - 1) - 1) - 1))).toNatClampNeg) (vp_nar .byte yn214)) = fn215 at hP hD hn216
            obtain ⟨hP, hD⟩ : PDq D A [(o1, .inl (cA 3, cp, .inl fn215))] H := ⟨hP, hD⟩
            refine lv_iload hx hb dJ6_getChars_ba4f3_104 (lv_at hl 4 rfl) ?_
            refine lv_if_eq (tgt := 118) hx hb dJ6_getChars_ba4f3_106 (by decide) (fun c217 => ?_) (fun c9 => absurd c9 (by decide))
            refine lv_iload hx hb dJ6_getChars_ba4f3_118 (lv_at hl 0 rfl) ?_
            obtain ⟨hP9, hD9⟩ := PDq.sub (ws' := [(o1, .inl (cA 3, cp, .inl fn215))]) hP hD [0] (by decide) rfl
            refine W.widen (k := 0) (n := 0) (Nat.le_of_ble_eq_true rfl) (Nat.le_of_ble_eq_true rfl) ?_
            exact (W.iret (v := (nI ((((((ix - 1) - 1) - 1) - 1) - 1) - 1))) hx hb hr (fun t ht hW => ⟨⟨(nI ((((((ix - 1) - 1) - 1) - 1) - 1) - 1)), (), rfl, trivial, fn215, hn216, by rw [ht]; exact hP9, hD9⟩, hS.F ht⟩) hS.2.2 dJ6_getChars_ba4f3_120)
        · skip
          refine lv_iload_n hx hb dJ6_getChars_ba4f3_22 rfl (lv_at hl 1 rfl) ?_
          refine lv_bipush (v := (-100)) hx hb dJ6_getChars_ba4f3_23 (by decide) ?_
          refine lv_icmp_gt (tgt := 72) hx hb dJ6_getChars_ba4f3_25 (by decide) (fun c9 => absurd c9 (ng_ngt hn203 (by omega))) (fun c218 => ?_)
          refine lv_iload_n hx hb dJ6_getChars_ba4f3_28 rfl (lv_at hl 1 rfl) ?_
          refine lv_bipush (v := 100) hx hb dJ6_getChars_ba4f3_29 (by decide) ?_
          obtain ⟨w2x, hw2x⟩ : ∃ x9, x9 = w1x / 100 := ⟨_, rfl⟩
          have hdw2x : dg w1x = dg w2x + 2 := by rw [hw2x]; exact dg_100 (by omega) hn203
          have hpw2x := dg_pos w2x
          refine lv_idiv hx hb dJ6_getChars_ba4f3_31 (by decide) ?_
          refine lv_topi (fun yn219 eyn219 => ?_)
          obtain rfl : yn219 = (ngI w2x) := eyn219.trans (by rw [ng_div (by omega), ← hw2x])
          refine lv_istore_n (lv' := [(3, .int (ngI w2x)), (5, .int (nI ((((ix - 1) - 1) - 1) - 1))), (0, .int (ngI w1x)), (4, .int (nI (w0x % 100))), (6, .int 0), (1, .int (nI ix)), (2, .ref o1)]) hx hb dJ6_getChars_ba4f3_32 rfl hl (by decide) rfl (fun ls hl => ?_)
          refine lv_iload_n hx hb dJ6_getChars_ba4f3_33 rfl (lv_at hl 0 rfl) ?_
          refine lv_bipush (v := 100) hx hb dJ6_getChars_ba4f3_34 (by decide) ?_
          refine lv_imul hx hb dJ6_getChars_ba4f3_36 ?_
          refine lv_topi (fun yn220 eyn220 => ?_)
          refine lv_iload_n hx hb dJ6_getChars_ba4f3_37 rfl (lv_at hl 2 rfl) ?_
          refine lv_isub hx hb dJ6_getChars_ba4f3_38 ?_
          refine lv_topi (fun yn223 eyn223 => ?_)
          obtain rfl : yn223 = (nI (w1x % 100)) := eyn223.trans (by rw [eyn220, hw2x]; exact ng_rem (by omega))
          refine lv_istore (lv' := [(4, .int (nI (w1x % 100))), (3, .int (ngI w2x)), (5, .int (nI ((((ix - 1) - 1) - 1) - 1))), (0, .int (ngI w1x)), (6, .int 0), (1, .int (nI ix)), (2, .ref o1)]) hx hb dJ6_getChars_ba4f3_39 hl (by decide) rfl (fun ls hl => ?_)
          refine lv_iload_n hx hb dJ6_getChars_ba4f3_41 rfl (lv_at hl 1 rfl) ?_
          refine lv_istore_n (lv' := [(0, .int (ngI w2x)), (4, .int (nI (w1x % 100))), (3, .int (ngI w2x)), (5, .int (nI ((((ix - 1) - 1) - 1) - 1))), (6, .int 0), (1, .int (nI ix)), (2, .ref o1)]) hx hb dJ6_getChars_ba4f3_42 rfl hl (by decide) rfl (fun ls hl => ?_)
          refine lv_aload_n hx hb dJ6_getChars_ba4f3_43 rfl (lv_at hl 6 rfl) ?_
          refine lv_iinc (v := (nI (((((ix - 1) - 1) - 1) - 1) - 1))) (lv' := [(5, .int (nI (((((ix - 1) - 1) - 1) - 1) - 1))), (0, .int (ngI w2x)), (4, .int (nI (w1x % 100))), (3, .int (ngI w2x)), (6, .int 0), (1, .int (nI ix)), (2, .ref o1)]) hx hb dJ6_getChars_ba4f3_44 hl (k := 3) rfl (nI_dec (a := ((((ix - 1) - 1) - 1) - 1)) (b := (((((ix - 1) - 1) - 1) - 1) - 1)) (by omega)) (by decide) rfl (fun ls hl => ?_)
          refine lv_iload hx hb dJ6_getChars_ba4f3_47 (lv_at hl 0 rfl) ?_
          refine va_gets hx hb hd1 hS hown (hts (.fieldLink RJ6 83 "java/lang/Integer" "DigitOnes" "[B") (by decide +kernel)) (fun _ h9 => h9) dJ6_getChars_ba4f3_49 ?_
          refine lv_iload hx hb dJ6_getChars_ba4f3_52 (lv_at hl 2 rfl) ?_
          refine va_tb (v := .int (f1 ((nI (w1x % 100))).toNatClampNeg)) hx hb ht1 hS (vp_in_nI (n := (w1x % 100)) (N := 100) (show (w1x % 100) < 100 by omega) (by decide)) rfl dJ6_getChars_ba4f3_54 ?_
          refine lv_topi (fun yn224 eyn224 => ?_)
          refine va_bast hx hb hK hP hD hS 0 3 rfl rfl (vp_in_nI (n := (((((ix - 1) - 1) - 1) - 1) - 1)) (N := cp) (show (((((ix - 1) - 1) - 1) - 1) - 1) < cp by omega) (by omega)) dJ6_getChars_ba4f3_55 (fun H locs hP hD hS => ?_)
          obtain ⟨hP, hD⟩ : PDq D A [(o1, .inl (cA 3, cp, .inl (upd fn201 (((nI (((((ix - 1) - 1) - 1) - 1) - 1))).toNatClampNeg) (vp_nar .byte yn224))))] H := ⟨hP, hD⟩
          have hn226 : sb_Fit (upd fn201 (((nI (((((ix - 1) - 1) - 1) - 1) - 1))).toNatClampNeg) (vp_nar .byte yn224)) := (sb_fitU hn202 (pk_fb _))
          generalize (upd fn201 (((nI (((((ix - 1) - 1) - 1) - 1) - 1))).toNatClampNeg) (vp_nar .byte yn224)) = fn225 at hP hD hn226
          obtain ⟨hP, hD⟩ : PDq D A [(o1, .inl (cA 3, cp, .inl fn225))] H := ⟨hP, hD⟩
          refine lv_aload_n hx hb dJ6_getChars_ba4f3_56 rfl (lv_at hl 6 rfl) ?_
          refine lv_iinc (v := (nI ((((((ix - 1) - 1) - 1) - 1) - 1) - 1))) (lv' := [(5, .int (nI ((((((ix - 1) - 1) - 1) - 1) - 1) - 1))), (0, .int (ngI w2x)), (4, .int (nI (w1x % 100))), (3, .int (ngI w2x)), (6, .int 0), (1, .int (nI ix)), (2, .ref o1)]) hx hb dJ6_getChars_ba4f3_57 hl (k := 0) rfl (nI_dec (a := (((((ix - 1) - 1) - 1) - 1) - 1)) (b := ((((((ix - 1) - 1) - 1) - 1) - 1) - 1)) (by omega)) (by decide) rfl (fun ls hl => ?_)
          refine lv_iload hx hb dJ6_getChars_ba4f3_60 (lv_at hl 0 rfl) ?_
          refine va_gets hx hb hd2 hS hown (hts (.fieldLink RJ6 87 "java/lang/Integer" "DigitTens" "[B") (by decide +kernel)) (fun _ h9 => h9) dJ6_getChars_ba4f3_62 ?_
          refine lv_iload hx hb dJ6_getChars_ba4f3_65 (lv_at hl 2 rfl) ?_
          refine va_tb (v := .int (f2 ((nI (w1x % 100))).toNatClampNeg)) hx hb ht2 hS (vp_in_nI (n := (w1x % 100)) (N := 100) (show (w1x % 100) < 100 by omega) (by decide)) rfl dJ6_getChars_ba4f3_67 ?_
          refine lv_topi (fun yn227 eyn227 => ?_)
          refine va_bast hx hb hK hP hD hS 0 3 rfl rfl (vp_in_nI (n := ((((((ix - 1) - 1) - 1) - 1) - 1) - 1)) (N := cp) (show ((((((ix - 1) - 1) - 1) - 1) - 1) - 1) < cp by omega) (by omega)) dJ6_getChars_ba4f3_68 (fun H locs hP hD hS => ?_)
          obtain ⟨hP, hD⟩ : PDq D A [(o1, .inl (cA 3, cp, .inl (upd fn225 (((nI ((((((ix - 1) - 1) - 1) - 1) - 1) - 1))).toNatClampNeg) (vp_nar .byte yn227))))] H := ⟨hP, hD⟩
          have hn229 : sb_Fit (upd fn225 (((nI ((((((ix - 1) - 1) - 1) - 1) - 1) - 1))).toNatClampNeg) (vp_nar .byte yn227)) := (sb_fitU hn226 (pk_fb _))
          generalize (upd fn225 (((nI ((((((ix - 1) - 1) - 1) - 1) - 1) - 1))).toNatClampNeg) (vp_nar .byte yn227)) = fn228 at hP hD hn229
          obtain ⟨hP, hD⟩ : PDq D A [(o1, .inl (cA 3, cp, .inl fn228))] H := ⟨hP, hD⟩
          refine lv_goto (tgt := 22) hx hb dJ6_getChars_ba4f3_69 (by decide) ?_
          have hqhn230 := dg_pos w2x
          rcases Nat.lt_or_ge w2x 100 with hn230 | hn230
          · skip
            refine lv_iload_n hx hb dJ6_getChars_ba4f3_22 rfl (lv_at hl 1 rfl) ?_
            refine lv_bipush (v := (-100)) hx hb dJ6_getChars_ba4f3_23 (by decide) ?_
            refine lv_icmp_gt (tgt := 72) hx hb dJ6_getChars_ba4f3_25 (by decide) (fun c231 => ?_) (fun c9 => absurd c9 (fun h9 => h9 (ng_gt hn230)))
            refine lv_aload_n hx hb dJ6_getChars_ba4f3_72 rfl (lv_at hl 6 rfl) ?_
            refine lv_iinc (v := (nI (((((((ix - 1) - 1) - 1) - 1) - 1) - 1) - 1))) (lv' := [(5, .int (nI (((((((ix - 1) - 1) - 1) - 1) - 1) - 1) - 1))), (0, .int (ngI w2x)), (4, .int (nI (w1x % 100))), (3, .int (ngI w2x)), (6, .int 0), (1, .int (nI ix)), (2, .ref o1)]) hx hb dJ6_getChars_ba4f3_73 hl (k := 0) rfl (nI_dec (a := ((((((ix - 1) - 1) - 1) - 1) - 1) - 1)) (b := (((((((ix - 1) - 1) - 1) - 1) - 1) - 1) - 1)) (by omega)) (by decide) rfl (fun ls hl => ?_)
            refine lv_iload hx hb dJ6_getChars_ba4f3_76 (lv_at hl 0 rfl) ?_
            refine va_gets hx hb hd1 hS hown (hts (.fieldLink RJ6 83 "java/lang/Integer" "DigitOnes" "[B") (by decide +kernel)) (fun _ h9 => h9) dJ6_getChars_ba4f3_78 ?_
            refine lv_iload_n hx hb dJ6_getChars_ba4f3_81 rfl (lv_at hl 1 rfl) ?_
            refine lv_ineg hx hb dJ6_getChars_ba4f3_82 ?_
            refine lv_topi (fun yn232 eyn232 => ?_)
            obtain rfl : yn232 = (nI w2x) := eyn232.trans (ng_opp)
            refine va_tb (v := .int (f1 ((nI w2x)).toNatClampNeg)) hx hb ht1 hS (vp_in_nI (n := w2x) (N := 100) (show w2x < 100 by omega) (by decide)) rfl dJ6_getChars_ba4f3_83 ?_
            refine lv_topi (fun yn233 eyn233 => ?_)
            refine va_bast hx hb hK hP hD hS 0 3 rfl rfl (vp_in_nI (n := (((((((ix - 1) - 1) - 1) - 1) - 1) - 1) - 1)) (N := cp) (show (((((((ix - 1) - 1) - 1) - 1) - 1) - 1) - 1) < cp by omega) (by omega)) dJ6_getChars_ba4f3_84 (fun H locs hP hD hS => ?_)
            obtain ⟨hP, hD⟩ : PDq D A [(o1, .inl (cA 3, cp, .inl (upd fn228 (((nI (((((((ix - 1) - 1) - 1) - 1) - 1) - 1) - 1))).toNatClampNeg) (vp_nar .byte yn233))))] H := ⟨hP, hD⟩
            have hn235 : sb_Fit (upd fn228 (((nI (((((((ix - 1) - 1) - 1) - 1) - 1) - 1) - 1))).toNatClampNeg) (vp_nar .byte yn233)) := (sb_fitU hn229 (pk_fb _))
            generalize (upd fn228 (((nI (((((((ix - 1) - 1) - 1) - 1) - 1) - 1) - 1))).toNatClampNeg) (vp_nar .byte yn233)) = fn234 at hP hD hn235
            obtain ⟨hP, hD⟩ : PDq D A [(o1, .inl (cA 3, cp, .inl fn234))] H := ⟨hP, hD⟩
            rcases Nat.lt_or_ge w2x 10 with hn236 | hn236
            · skip
              refine lv_iload_n hx hb dJ6_getChars_ba4f3_85 rfl (lv_at hl 1 rfl) ?_
              refine lv_bipush (v := (-9)) hx hb dJ6_getChars_ba4f3_86 (by decide) ?_
              refine lv_icmp_ge (tgt := 104) hx hb dJ6_getChars_ba4f3_88 (by decide) (fun c237 => ?_) (fun c9 => absurd c9 (fun h9 => h9 (ng_ge9 hn236)))
              refine lv_iload hx hb dJ6_getChars_ba4f3_104 (lv_at hl 4 rfl) ?_
              refine lv_if_eq (tgt := 118) hx hb dJ6_getChars_ba4f3_106 (by decide) (fun c238 => ?_) (fun c9 => absurd c9 (by decide))
              refine lv_iload hx hb dJ6_getChars_ba4f3_118 (lv_at hl 0 rfl) ?_
              obtain ⟨hP9, hD9⟩ := PDq.sub (ws' := [(o1, .inl (cA 3, cp, .inl fn234))]) hP hD [0] (by decide) rfl
              refine W.widen (k := 0) (n := 0) (Nat.le_of_ble_eq_true rfl) (Nat.le_of_ble_eq_true rfl) ?_
              exact (W.iret (v := (nI (((((((ix - 1) - 1) - 1) - 1) - 1) - 1) - 1))) hx hb hr (fun t ht hW => ⟨⟨(nI (((((((ix - 1) - 1) - 1) - 1) - 1) - 1) - 1)), (), rfl, trivial, fn234, hn235, by rw [ht]; exact hP9, hD9⟩, hS.F ht⟩) hS.2.2 dJ6_getChars_ba4f3_120)
            · skip
              have hqhn236 := dg_2 hn236 (by omega)
              refine lv_iload_n hx hb dJ6_getChars_ba4f3_85 rfl (lv_at hl 1 rfl) ?_
              refine lv_bipush (v := (-9)) hx hb dJ6_getChars_ba4f3_86 (by decide) ?_
              refine lv_icmp_ge (tgt := 104) hx hb dJ6_getChars_ba4f3_88 (by decide) (fun c9 => absurd c9 (ng_nge9 hn236 (by omega))) (fun c239 => ?_)
              refine lv_aload_n hx hb dJ6_getChars_ba4f3_91 rfl (lv_at hl 6 rfl) ?_
              refine lv_iinc (v := (nI ((((((((ix - 1) - 1) - 1) - 1) - 1) - 1) - 1) - 1))) (lv' := [(5, .int (nI ((((((((ix - 1) - 1) - 1) - 1) - 1) - 1) - 1) - 1))), (0, .int (ngI w2x)), (4, .int (nI (w1x % 100))), (3, .int (ngI w2x)), (6, .int 0), (1, .int (nI ix)), (2, .ref o1)]) hx hb dJ6_getChars_ba4f3_92 hl (k := 0) rfl (nI_dec (a := (((((((ix - 1) - 1) - 1) - 1) - 1) - 1) - 1)) (b := ((((((((ix - 1) - 1) - 1) - 1) - 1) - 1) - 1) - 1)) (by omega)) (by decide) rfl (fun ls hl => ?_)
              refine lv_iload hx hb dJ6_getChars_ba4f3_95 (lv_at hl 0 rfl) ?_
              refine va_gets hx hb hd2 hS hown (hts (.fieldLink RJ6 87 "java/lang/Integer" "DigitTens" "[B") (by decide +kernel)) (fun _ h9 => h9) dJ6_getChars_ba4f3_97 ?_
              refine lv_iload_n hx hb dJ6_getChars_ba4f3_100 rfl (lv_at hl 1 rfl) ?_
              refine lv_ineg hx hb dJ6_getChars_ba4f3_101 ?_
              refine lv_topi (fun yn240 eyn240 => ?_)
              obtain rfl : yn240 = (nI w2x) := eyn240.trans (ng_opp)
              refine va_tb (v := .int (f2 ((nI w2x)).toNatClampNeg)) hx hb ht2 hS (vp_in_nI (n := w2x) (N := 100) (show w2x < 100 by omega) (by decide)) rfl dJ6_getChars_ba4f3_102 ?_
              refine lv_topi (fun yn241 eyn241 => ?_)
              refine va_bast hx hb hK hP hD hS 0 3 rfl rfl (vp_in_nI (n := ((((((((ix - 1) - 1) - 1) - 1) - 1) - 1) - 1) - 1)) (N := cp) (show ((((((((ix - 1) - 1) - 1) - 1) - 1) - 1) - 1) - 1) < cp by omega) (by omega)) dJ6_getChars_ba4f3_103 (fun H locs hP hD hS => ?_)
              obtain ⟨hP, hD⟩ : PDq D A [(o1, .inl (cA 3, cp, .inl (upd fn234 (((nI ((((((((ix - 1) - 1) - 1) - 1) - 1) - 1) - 1) - 1))).toNatClampNeg) (vp_nar .byte yn241))))] H := ⟨hP, hD⟩
              have hn243 : sb_Fit (upd fn234 (((nI ((((((((ix - 1) - 1) - 1) - 1) - 1) - 1) - 1) - 1))).toNatClampNeg) (vp_nar .byte yn241)) := (sb_fitU hn235 (pk_fb _))
              generalize (upd fn234 (((nI ((((((((ix - 1) - 1) - 1) - 1) - 1) - 1) - 1) - 1))).toNatClampNeg) (vp_nar .byte yn241)) = fn242 at hP hD hn243
              obtain ⟨hP, hD⟩ : PDq D A [(o1, .inl (cA 3, cp, .inl fn242))] H := ⟨hP, hD⟩
              refine lv_iload hx hb dJ6_getChars_ba4f3_104 (lv_at hl 4 rfl) ?_
              refine lv_if_eq (tgt := 118) hx hb dJ6_getChars_ba4f3_106 (by decide) (fun c244 => ?_) (fun c9 => absurd c9 (by decide))
              refine lv_iload hx hb dJ6_getChars_ba4f3_118 (lv_at hl 0 rfl) ?_
              obtain ⟨hP9, hD9⟩ := PDq.sub (ws' := [(o1, .inl (cA 3, cp, .inl fn242))]) hP hD [0] (by decide) rfl
              refine W.widen (k := 0) (n := 0) (Nat.le_of_ble_eq_true rfl) (Nat.le_of_ble_eq_true rfl) ?_
              exact (W.iret (v := (nI ((((((((ix - 1) - 1) - 1) - 1) - 1) - 1) - 1) - 1))) hx hb hr (fun t ht hW => ⟨⟨(nI ((((((((ix - 1) - 1) - 1) - 1) - 1) - 1) - 1) - 1)), (), rfl, trivial, fn242, hn243, by rw [ht]; exact hP9, hD9⟩, hS.F ht⟩) hS.2.2 dJ6_getChars_ba4f3_120)
          · skip
            refine lv_iload_n hx hb dJ6_getChars_ba4f3_22 rfl (lv_at hl 1 rfl) ?_
            refine lv_bipush (v := (-100)) hx hb dJ6_getChars_ba4f3_23 (by decide) ?_
            refine lv_icmp_gt (tgt := 72) hx hb dJ6_getChars_ba4f3_25 (by decide) (fun c9 => absurd c9 (ng_ngt hn230 (by omega))) (fun c245 => ?_)
            refine lv_iload_n hx hb dJ6_getChars_ba4f3_28 rfl (lv_at hl 1 rfl) ?_
            refine lv_bipush (v := 100) hx hb dJ6_getChars_ba4f3_29 (by decide) ?_
            obtain ⟨w3x, hw3x⟩ : ∃ x9, x9 = w2x / 100 := ⟨_, rfl⟩
            have hdw3x : dg w2x = dg w3x + 2 := by rw [hw3x]; exact dg_100 (by omega) hn230
            have hpw3x := dg_pos w3x
            refine lv_idiv hx hb dJ6_getChars_ba4f3_31 (by decide) ?_
            refine lv_topi (fun yn246 eyn246 => ?_)
            obtain rfl : yn246 = (ngI w3x) := eyn246.trans (by rw [ng_div (by omega), ← hw3x])
            refine lv_istore_n (lv' := [(3, .int (ngI w3x)), (5, .int (nI ((((((ix - 1) - 1) - 1) - 1) - 1) - 1))), (0, .int (ngI w2x)), (4, .int (nI (w1x % 100))), (6, .int 0), (1, .int (nI ix)), (2, .ref o1)]) hx hb dJ6_getChars_ba4f3_32 rfl hl (by decide) rfl (fun ls hl => ?_)
            refine lv_iload_n hx hb dJ6_getChars_ba4f3_33 rfl (lv_at hl 0 rfl) ?_
            refine lv_bipush (v := 100) hx hb dJ6_getChars_ba4f3_34 (by decide) ?_
            refine lv_imul hx hb dJ6_getChars_ba4f3_36 ?_
            refine lv_topi (fun yn247 eyn247 => ?_)
            refine lv_iload_n hx hb dJ6_getChars_ba4f3_37 rfl (lv_at hl 2 rfl) ?_
            refine lv_isub hx hb dJ6_getChars_ba4f3_38 ?_
            refine lv_topi (fun yn250 eyn250 => ?_)
            obtain rfl : yn250 = (nI (w2x % 100)) := eyn250.trans (by rw [eyn247, hw3x]; exact ng_rem (by omega))
            refine lv_istore (lv' := [(4, .int (nI (w2x % 100))), (3, .int (ngI w3x)), (5, .int (nI ((((((ix - 1) - 1) - 1) - 1) - 1) - 1))), (0, .int (ngI w2x)), (6, .int 0), (1, .int (nI ix)), (2, .ref o1)]) hx hb dJ6_getChars_ba4f3_39 hl (by decide) rfl (fun ls hl => ?_)
            refine lv_iload_n hx hb dJ6_getChars_ba4f3_41 rfl (lv_at hl 1 rfl) ?_
            refine lv_istore_n (lv' := [(0, .int (ngI w3x)), (4, .int (nI (w2x % 100))), (3, .int (ngI w3x)), (5, .int (nI ((((((ix - 1) - 1) - 1) - 1) - 1) - 1))), (6, .int 0), (1, .int (nI ix)), (2, .ref o1)]) hx hb dJ6_getChars_ba4f3_42 rfl hl (by decide) rfl (fun ls hl => ?_)
            refine lv_aload_n hx hb dJ6_getChars_ba4f3_43 rfl (lv_at hl 6 rfl) ?_
            refine lv_iinc (v := (nI (((((((ix - 1) - 1) - 1) - 1) - 1) - 1) - 1))) (lv' := [(5, .int (nI (((((((ix - 1) - 1) - 1) - 1) - 1) - 1) - 1))), (0, .int (ngI w3x)), (4, .int (nI (w2x % 100))), (3, .int (ngI w3x)), (6, .int 0), (1, .int (nI ix)), (2, .ref o1)]) hx hb dJ6_getChars_ba4f3_44 hl (k := 3) rfl (nI_dec (a := ((((((ix - 1) - 1) - 1) - 1) - 1) - 1)) (b := (((((((ix - 1) - 1) - 1) - 1) - 1) - 1) - 1)) (by omega)) (by decide) rfl (fun ls hl => ?_)
            refine lv_iload hx hb dJ6_getChars_ba4f3_47 (lv_at hl 0 rfl) ?_
            refine va_gets hx hb hd1 hS hown (hts (.fieldLink RJ6 83 "java/lang/Integer" "DigitOnes" "[B") (by decide +kernel)) (fun _ h9 => h9) dJ6_getChars_ba4f3_49 ?_
            refine lv_iload hx hb dJ6_getChars_ba4f3_52 (lv_at hl 2 rfl) ?_
            refine va_tb (v := .int (f1 ((nI (w2x % 100))).toNatClampNeg)) hx hb ht1 hS (vp_in_nI (n := (w2x % 100)) (N := 100) (show (w2x % 100) < 100 by omega) (by decide)) rfl dJ6_getChars_ba4f3_54 ?_
            refine lv_topi (fun yn251 eyn251 => ?_)
            refine va_bast hx hb hK hP hD hS 0 3 rfl rfl (vp_in_nI (n := (((((((ix - 1) - 1) - 1) - 1) - 1) - 1) - 1)) (N := cp) (show (((((((ix - 1) - 1) - 1) - 1) - 1) - 1) - 1) < cp by omega) (by omega)) dJ6_getChars_ba4f3_55 (fun H locs hP hD hS => ?_)
            obtain ⟨hP, hD⟩ : PDq D A [(o1, .inl (cA 3, cp, .inl (upd fn228 (((nI (((((((ix - 1) - 1) - 1) - 1) - 1) - 1) - 1))).toNatClampNeg) (vp_nar .byte yn251))))] H := ⟨hP, hD⟩
            have hn253 : sb_Fit (upd fn228 (((nI (((((((ix - 1) - 1) - 1) - 1) - 1) - 1) - 1))).toNatClampNeg) (vp_nar .byte yn251)) := (sb_fitU hn229 (pk_fb _))
            generalize (upd fn228 (((nI (((((((ix - 1) - 1) - 1) - 1) - 1) - 1) - 1))).toNatClampNeg) (vp_nar .byte yn251)) = fn252 at hP hD hn253
            obtain ⟨hP, hD⟩ : PDq D A [(o1, .inl (cA 3, cp, .inl fn252))] H := ⟨hP, hD⟩
            refine lv_aload_n hx hb dJ6_getChars_ba4f3_56 rfl (lv_at hl 6 rfl) ?_
            refine lv_iinc (v := (nI ((((((((ix - 1) - 1) - 1) - 1) - 1) - 1) - 1) - 1))) (lv' := [(5, .int (nI ((((((((ix - 1) - 1) - 1) - 1) - 1) - 1) - 1) - 1))), (0, .int (ngI w3x)), (4, .int (nI (w2x % 100))), (3, .int (ngI w3x)), (6, .int 0), (1, .int (nI ix)), (2, .ref o1)]) hx hb dJ6_getChars_ba4f3_57 hl (k := 0) rfl (nI_dec (a := (((((((ix - 1) - 1) - 1) - 1) - 1) - 1) - 1)) (b := ((((((((ix - 1) - 1) - 1) - 1) - 1) - 1) - 1) - 1)) (by omega)) (by decide) rfl (fun ls hl => ?_)
            refine lv_iload hx hb dJ6_getChars_ba4f3_60 (lv_at hl 0 rfl) ?_
            refine va_gets hx hb hd2 hS hown (hts (.fieldLink RJ6 87 "java/lang/Integer" "DigitTens" "[B") (by decide +kernel)) (fun _ h9 => h9) dJ6_getChars_ba4f3_62 ?_
            refine lv_iload hx hb dJ6_getChars_ba4f3_65 (lv_at hl 2 rfl) ?_
            refine va_tb (v := .int (f2 ((nI (w2x % 100))).toNatClampNeg)) hx hb ht2 hS (vp_in_nI (n := (w2x % 100)) (N := 100) (show (w2x % 100) < 100 by omega) (by decide)) rfl dJ6_getChars_ba4f3_67 ?_
            refine lv_topi (fun yn254 eyn254 => ?_)
            refine va_bast hx hb hK hP hD hS 0 3 rfl rfl (vp_in_nI (n := ((((((((ix - 1) - 1) - 1) - 1) - 1) - 1) - 1) - 1)) (N := cp) (show ((((((((ix - 1) - 1) - 1) - 1) - 1) - 1) - 1) - 1) < cp by omega) (by omega)) dJ6_getChars_ba4f3_68 (fun H locs hP hD hS => ?_)
            obtain ⟨hP, hD⟩ : PDq D A [(o1, .inl (cA 3, cp, .inl (upd fn252 (((nI ((((((((ix - 1) - 1) - 1) - 1) - 1) - 1) - 1) - 1))).toNatClampNeg) (vp_nar .byte yn254))))] H := ⟨hP, hD⟩
            have hn256 : sb_Fit (upd fn252 (((nI ((((((((ix - 1) - 1) - 1) - 1) - 1) - 1) - 1) - 1))).toNatClampNeg) (vp_nar .byte yn254)) := (sb_fitU hn253 (pk_fb _))
            generalize (upd fn252 (((nI ((((((((ix - 1) - 1) - 1) - 1) - 1) - 1) - 1) - 1))).toNatClampNeg) (vp_nar .byte yn254)) = fn255 at hP hD hn256
            obtain ⟨hP, hD⟩ : PDq D A [(o1, .inl (cA 3, cp, .inl fn255))] H := ⟨hP, hD⟩
            refine lv_goto (tgt := 22) hx hb dJ6_getChars_ba4f3_69 (by decide) ?_
            have hqhn257 := dg_pos w3x
            have hn257 : w3x < 100 := by omega
            refine lv_iload_n hx hb dJ6_getChars_ba4f3_22 rfl (lv_at hl 1 rfl) ?_
            refine lv_bipush (v := (-100)) hx hb dJ6_getChars_ba4f3_23 (by decide) ?_
            refine lv_icmp_gt (tgt := 72) hx hb dJ6_getChars_ba4f3_25 (by decide) (fun c258 => ?_) (fun c9 => absurd c9 (fun h9 => h9 (ng_gt hn257)))
            refine lv_aload_n hx hb dJ6_getChars_ba4f3_72 rfl (lv_at hl 6 rfl) ?_
            refine lv_iinc (v := (nI (((((((((ix - 1) - 1) - 1) - 1) - 1) - 1) - 1) - 1) - 1))) (lv' := [(5, .int (nI (((((((((ix - 1) - 1) - 1) - 1) - 1) - 1) - 1) - 1) - 1))), (0, .int (ngI w3x)), (4, .int (nI (w2x % 100))), (3, .int (ngI w3x)), (6, .int 0), (1, .int (nI ix)), (2, .ref o1)]) hx hb dJ6_getChars_ba4f3_73 hl (k := 0) rfl (nI_dec (a := ((((((((ix - 1) - 1) - 1) - 1) - 1) - 1) - 1) - 1)) (b := (((((((((ix - 1) - 1) - 1) - 1) - 1) - 1) - 1) - 1) - 1)) (by omega)) (by decide) rfl (fun ls hl => ?_)
            refine lv_iload hx hb dJ6_getChars_ba4f3_76 (lv_at hl 0 rfl) ?_
            refine va_gets hx hb hd1 hS hown (hts (.fieldLink RJ6 83 "java/lang/Integer" "DigitOnes" "[B") (by decide +kernel)) (fun _ h9 => h9) dJ6_getChars_ba4f3_78 ?_
            refine lv_iload_n hx hb dJ6_getChars_ba4f3_81 rfl (lv_at hl 1 rfl) ?_
            refine lv_ineg hx hb dJ6_getChars_ba4f3_82 ?_
            refine lv_topi (fun yn259 eyn259 => ?_)
            obtain rfl : yn259 = (nI w3x) := eyn259.trans (ng_opp)
            refine va_tb (v := .int (f1 ((nI w3x)).toNatClampNeg)) hx hb ht1 hS (vp_in_nI (n := w3x) (N := 100) (show w3x < 100 by omega) (by decide)) rfl dJ6_getChars_ba4f3_83 ?_
            refine lv_topi (fun yn260 eyn260 => ?_)
            refine va_bast hx hb hK hP hD hS 0 3 rfl rfl (vp_in_nI (n := (((((((((ix - 1) - 1) - 1) - 1) - 1) - 1) - 1) - 1) - 1)) (N := cp) (show (((((((((ix - 1) - 1) - 1) - 1) - 1) - 1) - 1) - 1) - 1) < cp by omega) (by omega)) dJ6_getChars_ba4f3_84 (fun H locs hP hD hS => ?_)
            obtain ⟨hP, hD⟩ : PDq D A [(o1, .inl (cA 3, cp, .inl (upd fn255 (((nI (((((((((ix - 1) - 1) - 1) - 1) - 1) - 1) - 1) - 1) - 1))).toNatClampNeg) (vp_nar .byte yn260))))] H := ⟨hP, hD⟩
            have hn262 : sb_Fit (upd fn255 (((nI (((((((((ix - 1) - 1) - 1) - 1) - 1) - 1) - 1) - 1) - 1))).toNatClampNeg) (vp_nar .byte yn260)) := (sb_fitU hn256 (pk_fb _))
            generalize (upd fn255 (((nI (((((((((ix - 1) - 1) - 1) - 1) - 1) - 1) - 1) - 1) - 1))).toNatClampNeg) (vp_nar .byte yn260)) = fn261 at hP hD hn262
            obtain ⟨hP, hD⟩ : PDq D A [(o1, .inl (cA 3, cp, .inl fn261))] H := ⟨hP, hD⟩
            rcases Nat.lt_or_ge w3x 10 with hn263 | hn263
            · skip
              refine lv_iload_n hx hb dJ6_getChars_ba4f3_85 rfl (lv_at hl 1 rfl) ?_
              refine lv_bipush (v := (-9)) hx hb dJ6_getChars_ba4f3_86 (by decide) ?_
              refine lv_icmp_ge (tgt := 104) hx hb dJ6_getChars_ba4f3_88 (by decide) (fun c264 => ?_) (fun c9 => absurd c9 (fun h9 => h9 (ng_ge9 hn263)))
              refine lv_iload hx hb dJ6_getChars_ba4f3_104 (lv_at hl 4 rfl) ?_
              refine lv_if_eq (tgt := 118) hx hb dJ6_getChars_ba4f3_106 (by decide) (fun c265 => ?_) (fun c9 => absurd c9 (by decide))
              refine lv_iload hx hb dJ6_getChars_ba4f3_118 (lv_at hl 0 rfl) ?_
              obtain ⟨hP9, hD9⟩ := PDq.sub (ws' := [(o1, .inl (cA 3, cp, .inl fn261))]) hP hD [0] (by decide) rfl
              refine W.widen (k := 0) (n := 0) (Nat.le_of_ble_eq_true rfl) (Nat.le_of_ble_eq_true rfl) ?_
              exact (W.iret (v := (nI (((((((((ix - 1) - 1) - 1) - 1) - 1) - 1) - 1) - 1) - 1))) hx hb hr (fun t ht hW => ⟨⟨(nI (((((((((ix - 1) - 1) - 1) - 1) - 1) - 1) - 1) - 1) - 1)), (), rfl, trivial, fn261, hn262, by rw [ht]; exact hP9, hD9⟩, hS.F ht⟩) hS.2.2 dJ6_getChars_ba4f3_120)
            · skip
              have hqhn263 := dg_2 hn263 (by omega)
              refine lv_iload_n hx hb dJ6_getChars_ba4f3_85 rfl (lv_at hl 1 rfl) ?_
              refine lv_bipush (v := (-9)) hx hb dJ6_getChars_ba4f3_86 (by decide) ?_
              refine lv_icmp_ge (tgt := 104) hx hb dJ6_getChars_ba4f3_88 (by decide) (fun c9 => absurd c9 (ng_nge9 hn263 (by omega))) (fun c266 => ?_)
              refine lv_aload_n hx hb dJ6_getChars_ba4f3_91 rfl (lv_at hl 6 rfl) ?_
              refine lv_iinc (v := (nI ((((((((((ix - 1) - 1) - 1) - 1) - 1) - 1) - 1) - 1) - 1) - 1))) (lv' := [(5, .int (nI ((((((((((ix - 1) - 1) - 1) - 1) - 1) - 1) - 1) - 1) - 1) - 1))), (0, .int (ngI w3x)), (4, .int (nI (w2x % 100))), (3, .int (ngI w3x)), (6, .int 0), (1, .int (nI ix)), (2, .ref o1)]) hx hb dJ6_getChars_ba4f3_92 hl (k := 0) rfl (nI_dec (a := (((((((((ix - 1) - 1) - 1) - 1) - 1) - 1) - 1) - 1) - 1)) (b := ((((((((((ix - 1) - 1) - 1) - 1) - 1) - 1) - 1) - 1) - 1) - 1)) (by omega)) (by decide) rfl (fun ls hl => ?_)
              refine lv_iload hx hb dJ6_getChars_ba4f3_95 (lv_at hl 0 rfl) ?_
              refine va_gets hx hb hd2 hS hown (hts (.fieldLink RJ6 87 "java/lang/Integer" "DigitTens" "[B") (by decide +kernel)) (fun _ h9 => h9) dJ6_getChars_ba4f3_97 ?_
              refine lv_iload_n hx hb dJ6_getChars_ba4f3_100 rfl (lv_at hl 1 rfl) ?_
              refine lv_ineg hx hb dJ6_getChars_ba4f3_101 ?_
              refine lv_topi (fun yn267 eyn267 => ?_)
              obtain rfl : yn267 = (nI w3x) := eyn267.trans (ng_opp)
              refine va_tb (v := .int (f2 ((nI w3x)).toNatClampNeg)) hx hb ht2 hS (vp_in_nI (n := w3x) (N := 100) (show w3x < 100 by omega) (by decide)) rfl dJ6_getChars_ba4f3_102 ?_
              refine lv_topi (fun yn268 eyn268 => ?_)
              refine va_bast hx hb hK hP hD hS 0 3 rfl rfl (vp_in_nI (n := ((((((((((ix - 1) - 1) - 1) - 1) - 1) - 1) - 1) - 1) - 1) - 1)) (N := cp) (show ((((((((((ix - 1) - 1) - 1) - 1) - 1) - 1) - 1) - 1) - 1) - 1) < cp by omega) (by omega)) dJ6_getChars_ba4f3_103 (fun H locs hP hD hS => ?_)
              obtain ⟨hP, hD⟩ : PDq D A [(o1, .inl (cA 3, cp, .inl (upd fn261 (((nI ((((((((((ix - 1) - 1) - 1) - 1) - 1) - 1) - 1) - 1) - 1) - 1))).toNatClampNeg) (vp_nar .byte yn268))))] H := ⟨hP, hD⟩
              have hn270 : sb_Fit (upd fn261 (((nI ((((((((((ix - 1) - 1) - 1) - 1) - 1) - 1) - 1) - 1) - 1) - 1))).toNatClampNeg) (vp_nar .byte yn268)) := (sb_fitU hn262 (pk_fb _))
              generalize (upd fn261 (((nI ((((((((((ix - 1) - 1) - 1) - 1) - 1) - 1) - 1) - 1) - 1) - 1))).toNatClampNeg) (vp_nar .byte yn268)) = fn269 at hP hD hn270
              obtain ⟨hP, hD⟩ : PDq D A [(o1, .inl (cA 3, cp, .inl fn269))] H := ⟨hP, hD⟩
              refine lv_iload hx hb dJ6_getChars_ba4f3_104 (lv_at hl 4 rfl) ?_
              refine lv_if_eq (tgt := 118) hx hb dJ6_getChars_ba4f3_106 (by decide) (fun c271 => ?_) (fun c9 => absurd c9 (by decide))
              refine lv_iload hx hb dJ6_getChars_ba4f3_118 (lv_at hl 0 rfl) ?_
              obtain ⟨hP9, hD9⟩ := PDq.sub (ws' := [(o1, .inl (cA 3, cp, .inl fn269))]) hP hD [0] (by decide) rfl
              refine W.widen (k := 0) (n := 0) (Nat.le_of_ble_eq_true rfl) (Nat.le_of_ble_eq_true rfl) ?_
              exact (W.iret (v := (nI ((((((((((ix - 1) - 1) - 1) - 1) - 1) - 1) - 1) - 1) - 1) - 1))) hx hb hr (fun t ht hW => ⟨⟨(nI ((((((((((ix - 1) - 1) - 1) - 1) - 1) - 1) - 1) - 1) - 1) - 1)), (), rfl, trivial, fn269, hn270, by rw [ht]; exact hP9, hD9⟩, hS.F ht⟩) hS.2.2 dJ6_getChars_ba4f3_120)

set_option maxHeartbeats 4000000 in
set_option maxRecDepth 100000 in
/-- append(int) -/
theorem j_appendI5 (l : Launch) (D : va_G) (cA : Nat → ClassId) (sa : Nat → Nat) (o0 : Nat) (o1 : Nat) (ct : Nat) (cp : Nat) (mb : Int32) (fy : Nat → Int32) (a : Int32) (sz : Nat) (hct : ct ≤ cp) (hcp : cp ≤ 126) (hfit : sb_Fit fy) (hc1 : ct + 11 ≤ 62) : Met l yJ5_append_c97b9 wsJ5_append_c97b9 ({ frames := 4, cells := 1, slots := 260, locals := 104 }) (va_Pc [.ref o0, .int a] (Wd2 D cA sa [(oJ4 o0 o1 0 mb (nI ct)), (o1, .inl (cA 3, cp, .inl fy))] sz)) (va_Qr (fun _ : Unit => True) (fun (_ : Unit) (a9 : Nat) t => a9 = o0 ∧ ∃ z1 : Nat, ∃ cp2 : Nat, ∃ zy : Nat → Int32, ∃ ct2 : Nat, ct2 ≤ ct + 11 ∧ ct2 ≤ cp2 ∧ cp2 ≤ 126 ∧ sb_Fit zy ∧ Wq D (va_A [(oJ4 o0 o1 0 mb (nI ct)), (o1, .inl (cA 3, cp, .inl fy))] sz) [(oJ4 o0 z1 0 mb (nI ct2)), (z1, .inl (cA 3, cp2, .inl zy))] t) (va_A [(oJ4 o0 o1 0 mb (nI ct)), (o1, .inl (cA 3, cp, .inl fy))] sz)) 1 260 (va_A [(oJ4 o0 o1 0 mb (nI ct)), (o1, .inl (cA 3, cp, .inl fy))] sz) := by
  refine Met.ofW (cc := cJ5_append_c97b9) (maxL := 4) (ret := (some (.object "java/lang/AbstractStringBuilder"))) (by decide) rfl ?_
  intro p e s m args below meth c s₁ B hml hv
  obtain ⟨rfl, ⟨hsz, hP, hK, hD0, hC, hZ⟩, hG⟩ := hv
  have hx := B.exec
  have hb := B.bytes
  have hr := B.returns
  have hts := atoms_spec (ws := wsJ5_append_c97b9) B.pre
  have hown : s.vm.findClass RJ5 = some m.cls := findClass_of_methodNamed B.named
  have hlocks := B.notSynchronized
  subst hsz
  have hD := hD0.self (sz := s.heap.size)
  generalize hAe : va_A [(oJ4 o0 o1 0 mb (nI ct)), (o1, .inl (cA 3, cp, .inl fy))] s.heap.size = A at hD hZ hG ⊢
  have hA : ∀ q : Nat, s.heap.size ≤ q → A q := fun q h => by rw [← hAe]; exact Or.inr h
  have hS : va_S A s.heap s.heap [] := va_S.rf
  have hP : va_P D vwCl [(oJ4 o0 o1 0 mb (nI ct)), (o1, .inl (cA 3, cp, .inl fy))] s.heap := hP
  have hl := lv_entry ([.ref o0, .int a]) (n := 4) (Nat.le_of_ble_eq_true rfl)
  rw [lg_entry_eq]
  generalize (lg_sl ([.ref o0, .int a]) ++ List.replicate (4 - (lg_sl ([.ref o0, .int a])).length) Slot.unset).toArray = ls at hl ⊢
  have hl : lv_has ls 4 [(0, .ref o0), (1, .int a)] := hl
  have inJ4 : ∀ w ∈ u_ws RJ4 TJ4 4, w ∈ wsJ5_append_c97b9 := by decide +kernel
  refine lv_aload_n hx hb dJ5_append_c97b9_0 rfl (lv_at hl 0 rfl) ?_
  refine va_get (D := D) (ci := 1) (v := .int (nI ct)) (C := RJ4) (T := TJ4) (N := 4) hx hb hts inJ4 hown hK hP 0 rfl rfl 3 (by decide) (hts (.fieldLink RJ5 79 "java/lang/AbstractStringBuilder" "count" "I") (by decide +kernel)) (fun _ h9 => h9) rfl dJ5_append_c97b9_1 ?_
  refine lv_istore_n (lv' := [(2, .int (nI ct)), (0, .ref o0), (1, .int a)]) hx hb dJ5_append_c97b9_4 rfl hl (by decide) rfl (fun ls hl => ?_)
  refine lv_iload_n hx hb dJ5_append_c97b9_5 rfl (lv_at hl 0 rfl) ?_
  refine lv_iload_n hx hb dJ5_append_c97b9_6 rfl (lv_at hl 2 rfl) ?_
  obtain ⟨hPc, hDc, hFc⟩ := PDq.cut (wc := []) hP hD hS hA [] (by decide) rfl
  refine va_calli (va_runS (As := [.int a]) (rest := [.int (nI ct)]) ⟨hx, hb, hml, hown, hts⟩ (j_stringSize l D cA sa a s.heap.size) (va_cwS 1 hts gJ5_append_c97b9_J6_stringSize_0f7a4 rfl rfl rfl (by decide +kernel) ⟨(Nat.le_of_ble_eq_true rfl), (Nat.le_of_ble_eq_true rfl)⟩) ⟨Wd.blind, fun U hU hW => ⟨rfl, Wd.call hPc hDc hK hC hZ hS hFc U hU hW⟩⟩ rfl rfl hl.1 rfl (lv_room (Nat.le_of_ble_eq_true rfl)) dJ5_append_c97b9_7 ⟨(Nat.le_of_ble_eq_true rfl), (Nat.le_of_ble_eq_true rfl)⟩) hS (fun q _ h => hFc q h) hFc (fun rn1 u t H1 locs ht hvm hw hB hz1 hk1 hS => ?_)
  obtain ⟨hP1, hD1⟩ := hB
  rw [ht] at hP1
  obtain ⟨hP, hD⟩ := PDq.join (w := [(oJ4 o0 o1 0 mb (nI ct)), (o1, .inl (cA 3, cp, .inl fy))]) 2 hP hD [] [0, 1] rfl rfl (by decide) (by decide) hk1 hFc hP1 hD1 rfl
  generalize H1 = H at hP hS ⊢
  obtain ⟨kn2, hn3, hr9, hn4⟩ := hw
  subst hr9
  refine lv_iadd hx hb dJ5_append_c97b9_10 ?_
  refine lv_topi (fun yn5 eyn5 => ?_)
  obtain rfl : yn5 = (nI (ct + kn2)) := eyn5.trans (nI_add ct kn2)
  refine lv_istore_n (lv' := [(3, .int (nI (ct + kn2))), (2, .int (nI ct)), (0, .ref o0), (1, .int a)]) hx hb dJ5_append_c97b9_11 rfl hl (by decide) rfl (fun ls hl => ?_)
  refine lv_aload_n hx hb dJ5_append_c97b9_12 rfl (lv_at hl 2 rfl) ?_
  refine lv_iload_n hx hb dJ5_append_c97b9_13 rfl (lv_at hl 0 rfl) ?_
  obtain ⟨hPc, hDc, hFc⟩ := PDq.cut (wc := [(oJ4 o0 o1 0 mb (nI ct)), (o1, .inl (cA 3, cp, .inl fy))]) hP hD hS hA [0, 1] (by decide) rfl
  refine va_callv (va_runU (As := [.int (nI (ct + kn2))]) (rest := []) ⟨hx, hb, hml, hown, hts⟩ (j_ensure l D cA sa o0 o1 ct cp mb fy (ct + kn2) H.size hct hcp hfit (by omega)) (va_cwU 1 hts gJ5_append_c97b9_J5_ensureCapacityInternal_d00df_u100J4 rfl rfl rfl rfl (by decide +kernel) ⟨(Nat.le_of_ble_eq_true rfl), (Nat.le_of_ble_eq_true rfl)⟩) ⟨Wd.blind, va_recv hK hPc (ci := 1) (q0 := 0) rfl rfl, fun U hU hW => ⟨rfl, Wd.call hPc hDc hK hC hZ hS hFc U hU hW⟩⟩ rfl rfl hl.1 rfl (lv_room (Nat.le_of_ble_eq_true rfl)) dJ5_append_c97b9_14 ⟨(Nat.le_of_ble_eq_true rfl), (Nat.le_of_ble_eq_true rfl)⟩) hS (fun q _ h => hFc q h) hFc (fun u t H1 locs ht hvm hw hB hz1 hk1 hS => ?_)
  obtain ⟨qn6, qn7, fn8, hn9, hn10, hn11, hn12, hP1, hD1⟩ := hB
  rw [ht] at hP1
  obtain ⟨hP, hD⟩ := PDq.join (w := [(oJ4 o0 qn6 0 mb (nI ct)), (qn6, .inl (cA 3, qn7, .inl fn8))]) 0 hP hD [0, 1] [] rfl rfl (by decide) (by decide) hk1 hFc hP1 hD1 rfl
  generalize H1 = H at hP hS ⊢
  refine lv_aload_n hx hb dJ5_append_c97b9_17 rfl (lv_at hl 2 rfl) ?_
  obtain ⟨hPc, hDc, hFc⟩ := PDq.cut (wc := [(oJ4 o0 qn6 0 mb (nI ct))]) hP hD hS hA [0] (by decide) rfl
  refine va_calli (va_runU (As := []) (rest := []) ⟨hx, hb, hml, hown, hts⟩ (j_isLatin1 l D cA sa o0 qn6 ct mb H.size) (va_cwU 0 hts gJ5_append_c97b9_J5_isLatin1_aae02_u83J4 rfl rfl rfl rfl (by decide +kernel) ⟨(Nat.le_of_ble_eq_true rfl), (Nat.le_of_ble_eq_true rfl)⟩) ⟨Wd.blind, va_recv hK hPc (ci := 1) (q0 := 0) rfl rfl, fun U hU hW => ⟨rfl, Wd.call hPc hDc hK hC hZ hS hFc U hU hW⟩⟩ rfl rfl hl.1 rfl (lv_room (Nat.le_of_ble_eq_true rfl)) dJ5_append_c97b9_18 ⟨(Nat.le_of_ble_eq_true rfl), (Nat.le_of_ble_eq_true rfl)⟩) hS (fun q _ h => hFc q h) hFc (fun rn13 u t H1 locs ht hvm hw hB hz1 hk1 hS => ?_)
  obtain ⟨hP1, hD1⟩ := hB
  rw [ht] at hP1
  obtain ⟨hP, hD⟩ := PDq.join (w := [(qn6, .inl (cA 3, qn7, .inl fn8)), (oJ4 o0 qn6 0 mb (nI ct))]) 1 hP hD [0] [1] rfl rfl (by decide) (by decide) hk1 hFc hP1 hD1 rfl
  generalize H1 = H at hP hS ⊢
  obtain rfl : rn13 = 1 := hw
  refine lv_if_eq (tgt := 37) hx hb dJ5_append_c97b9_21 (by decide) (fun c9 => absurd c9 (by decide)) (fun c14 => ?_)
  refine lv_iload_n hx hb dJ5_append_c97b9_24 rfl (lv_at hl 3 rfl) ?_
  refine lv_iload_n hx hb dJ5_append_c97b9_25 rfl (lv_at hl 0 rfl) ?_
  refine lv_aload_n hx hb dJ5_append_c97b9_26 rfl (lv_at hl 2 rfl) ?_
  refine va_get (D := D) (ci := 1) (v := .ref qn6) (C := RJ4) (T := TJ4) (N := 4) hx hb hts inJ4 hown hK hP 1 rfl rfl 0 (by decide) (hts (.fieldLink RJ5 15 "java/lang/AbstractStringBuilder" "value" "[B") (by decide +kernel)) (fun _ h9 => h9) rfl dJ5_append_c97b9_27 ?_
  obtain ⟨hPc, hDc, hFc⟩ := PDq.cut (wc := [(qn6, .inl (cA 3, qn7, .inl fn8))]) hP hD hS hA [0] (by decide) rfl
  refine va_calli (va_runS (As := [.int a, .int (nI (ct + kn2)), .ref qn6]) (rest := []) ⟨hx, hb, hml, hown, hts⟩ (j_getChars l D cA sa qn6 qn7 fn8 a (ct + kn2) kn2 ct H.size hn11 hn12 hn4 (by omega) hn9) (va_cwS 3 hts gJ5_append_c97b9_J6_getChars_ba4f3 rfl rfl rfl (by decide +kernel) ⟨(Nat.le_of_ble_eq_true rfl), (Nat.le_of_ble_eq_true rfl)⟩) ⟨Wd2.blind, fun U hU hW => ⟨rfl, Wd2.call (Wd.call hPc hDc hK hC hZ hS hFc U hU hW) hG hS hFc hU hW⟩⟩ rfl rfl hl.1 rfl (lv_room (Nat.le_of_ble_eq_true rfl)) dJ5_append_c97b9_30 ⟨(Nat.le_of_ble_eq_true rfl), (Nat.le_of_ble_eq_true rfl)⟩) hS (fun q _ h => hFc q h) hFc (fun rn15 u t H1 locs ht hvm hw hB hz1 hk1 hS => ?_)
  obtain ⟨fn16, hn17, hP1, hD1⟩ := hB
  rw [ht] at hP1
  obtain ⟨hP, hD⟩ := PDq.join (w := [(oJ4 o0 qn6 0 mb (nI ct)), (qn6, .inl (cA 3, qn7, .inl fn16))]) 1 hP hD [0] [1] rfl rfl (by decide) (by decide) hk1 hFc hP1 hD1 rfl
  generalize H1 = H at hP hS ⊢
  refine lv_pop hx hb dJ5_append_c97b9_33 rfl ?_
  refine lv_goto (tgt := 48) hx hb dJ5_append_c97b9_34 (by decide) ?_
  refine lv_aload_n hx hb dJ5_append_c97b9_48 rfl (lv_at hl 2 rfl) ?_
  refine lv_iload_n hx hb dJ5_append_c97b9_49 rfl (lv_at hl 0 rfl) ?_
  refine va_put (D := D) (ci := 1) (v := .int (nI (ct + kn2))) (ty := .int) (C := RJ4) (T := TJ4) (N := 4) hx hb hts inJ4 tyJ4 tyJ4_ok nmJ4 hown hK hP hD hS 0 rfl rfl 3 (by decide) (hts (.fieldLink RJ5 79 "java/lang/AbstractStringBuilder" "count" "I") (by decide +kernel)) (fun _ h9 => h9) rfl (by decide +kernel) rfl rfl (Nat.le_of_ble_eq_true rfl) dJ5_append_c97b9_50 (fun H locs hP hD hS => ?_)
  obtain ⟨hP, hD⟩ : PDq D A [(oJ4 o0 qn6 0 mb (nI (ct + kn2))), (qn6, .inl (cA 3, qn7, .inl fn16))] H := ⟨hP, hD⟩
  refine lv_aload_n hx hb dJ5_append_c97b9_53 rfl (lv_at hl 2 rfl) ?_
  obtain ⟨hP9, hD9⟩ := PDq.sub (ws' := [(oJ4 o0 qn6 0 mb (nI (ct + kn2))), (qn6, .inl (cA 3, qn7, .inl fn16))]) hP hD [0, 1] (by decide) rfl
  refine W.widen (k := 1) (n := 260) (Nat.le_of_ble_eq_true rfl) (Nat.le_of_ble_eq_true rfl) ?_
  exact (W.aret (v := .ref o0) hx hb hr (Or.inl ⟨_, rfl⟩) (Or.inr ⟨_, rfl⟩) (fun t ht hW => ⟨⟨(), o0, rfl, trivial, rfl, qn6, qn7, fn16, (ct + kn2), (by omega), hn9, hn11, hn17, by rw [ht]; exact hP9, hD9⟩, hS.F ht⟩) hS.2.2 dJ5_append_c97b9_54)

set_option maxHeartbeats 4000000 in
set_option maxRecDepth 100000 in
/-- append(int) -/
theorem j_appendI (l : Launch) (D : va_G) (cA : Nat → ClassId) (sa : Nat → Nat) (o0 : Nat) (o1 : Nat) (ct : Nat) (cp : Nat) (mb : Int32) (fy : Nat → Int32) (a : Int32) (sz : Nat) (hct : ct ≤ cp) (hcp : cp ≤ 126) (hfit : sb_Fit fy) (hc1 : ct + 11 ≤ 62) : Met l yJ4_append_bf812 wsJ4_append_bf812 ({ frames := 5, cells := 1, slots := 260, locals := 127 }) (va_Pc [.ref o0, .int a] (Wd2 D cA sa [(oJ4 o0 o1 0 mb (nI ct)), (o1, .inl (cA 3, cp, .inl fy))] sz)) (va_Qr (fun _ : Unit => True) (fun (_ : Unit) (a9 : Nat) t => a9 = o0 ∧ ∃ z1 : Nat, ∃ cp2 : Nat, ∃ zy : Nat → Int32, ∃ ct2 : Nat, ct2 ≤ ct + 11 ∧ ct2 ≤ cp2 ∧ cp2 ≤ 126 ∧ sb_Fit zy ∧ Wq D (va_A [(oJ4 o0 o1 0 mb (nI ct)), (o1, .inl (cA 3, cp, .inl fy))] sz) [(oJ4 o0 z1 0 mb (nI ct2)), (z1, .inl (cA 3, cp2, .inl zy))] t) (va_A [(oJ4 o0 o1 0 mb (nI ct)), (o1, .inl (cA 3, cp, .inl fy))] sz)) 1 260 (va_A [(oJ4 o0 o1 0 mb (nI ct)), (o1, .inl (cA 3, cp, .inl fy))] sz) := by
  refine Met.ofW (cc := cJ4_append_bf812) (maxL := 2) (ret := (some (.object "java/lang/StringBuilder"))) (by decide) rfl ?_
  intro p e s m args below meth c s₁ B hml hv
  obtain ⟨rfl, ⟨hsz, hP, hK, hD0, hC, hZ⟩, hG⟩ := hv
  have hx := B.exec
  have hb := B.bytes
  have hr := B.returns
  have hts := atoms_spec (ws := wsJ4_append_bf812) B.pre
  have hown : s.vm.findClass RJ4 = some m.cls := findClass_of_methodNamed B.named
  have hlocks := B.notSynchronized
  subst hsz
  have hD := hD0.self (sz := s.heap.size)
  generalize hAe : va_A [(oJ4 o0 o1 0 mb (nI ct)), (o1, .inl (cA 3, cp, .inl fy))] s.heap.size = A at hD hZ hG ⊢
  have hA : ∀ q : Nat, s.heap.size ≤ q → A q := fun q h => by rw [← hAe]; exact Or.inr h
  have hS : va_S A s.heap s.heap [] := va_S.rf
  have hP : va_P D vwCl [(oJ4 o0 o1 0 mb (nI ct)), (o1, .inl (cA 3, cp, .inl fy))] s.heap := hP
  have hl := lv_entry ([.ref o0, .int a]) (n := 2) (Nat.le_of_ble_eq_true rfl)
  rw [lg_entry_eq]
  generalize (lg_sl ([.ref o0, .int a]) ++ List.replicate (2 - (lg_sl ([.ref o0, .int a])).length) Slot.unset).toArray = ls at hl ⊢
  have hl : lv_has ls 2 [(0, .ref o0), (1, .int a)] := hl
  refine lv_aload_n hx hb dJ4_append_bf812_0 rfl (lv_at hl 0 rfl) ?_
  refine lv_iload_n hx hb dJ4_append_bf812_1 rfl (lv_at hl 1 rfl) ?_
  obtain ⟨hPc, hDc, hFc⟩ := PDq.cut (wc := [(oJ4 o0 o1 0 mb (nI ct)), (o1, .inl (cA 3, cp, .inl fy))]) hP hD hS hA [0, 1] (by decide) rfl
  refine va_callr (va_runSU (As := [.int a]) (rest := []) (hK.1 1 _ rfl).2 ⟨hx, hb, hml, hown, hts⟩ (j_appendI5 l D cA sa o0 o1 ct cp mb fy a s.heap.size hct hcp hfit hc1) (va_cwSU 1 hts gJ4_append_bf812_J5_append_c97b9_s53 rfl rfl rfl (by decide +kernel) ⟨(Nat.le_of_ble_eq_true rfl), (Nat.le_of_ble_eq_true rfl)⟩) ⟨Wd2.blind, va_recv hK hPc (ci := 1) (q0 := 0) rfl rfl, fun U hU hW => ⟨rfl, Wd2.call (Wd.call hPc hDc hK hC hZ hS hFc U hU hW) hG hS hFc hU hW⟩⟩ rfl rfl hl.1 rfl (lv_room (Nat.le_of_ble_eq_true rfl)) dJ4_append_bf812_2 ⟨(Nat.le_of_ble_eq_true rfl), (Nat.le_of_ble_eq_true rfl)⟩) hS (fun q _ h => hFc q h) hFc (fun u ra t H1 locs ht hvm hw hB hz1 hk1 hS => ?_)
  obtain ⟨hra, qn1, qn2, fn3, qn4, hn5, hn6, hn7, hn8, hP1, hD1⟩ := hB
  obtain rfl := hra.symm
  rw [ht] at hP1
  obtain ⟨hP, hD⟩ := PDq.join (w := [(oJ4 o0 qn1 0 mb (nI qn4)), (qn1, .inl (cA 3, qn2, .inl fn3))]) 0 hP hD [0, 1] [] rfl rfl (by decide) (by decide) hk1 hFc hP1 hD1 rfl
  generalize H1 = H at hP hS ⊢
  refine lv_pop hx hb dJ4_append_bf812_5 rfl ?_
  refine lv_aload_n hx hb dJ4_append_bf812_6 rfl (lv_at hl 0 rfl) ?_
  obtain ⟨hP9, hD9⟩ := PDq.sub (ws' := [(oJ4 o0 qn1 0 mb (nI qn4)), (qn1, .inl (cA 3, qn2, .inl fn3))]) hP hD [0, 1] (by decide) rfl
  refine W.widen (k := 1) (n := 260) (Nat.le_of_ble_eq_true rfl) (Nat.le_of_ble_eq_true rfl) ?_
  exact (W.aret (v := .ref o0) hx hb hr (Or.inl ⟨_, rfl⟩) (Or.inr ⟨_, rfl⟩) (fun t ht hW => ⟨⟨(), o0, rfl, trivial, rfl, qn1, qn2, fn3, qn4, hn5, hn6, hn7, hn8, by rw [ht]; exact hP9, hD9⟩, hS.F ht⟩) hS.2.2 dJ4_append_bf812_7)

set_option maxHeartbeats 4000000 in
set_option maxRecDepth 100000 in
/-- charAt -/
theorem j_charAt5 (l : Launch) (D : va_G) (cA : Nat → ClassId) (sa : Nat → Nat) (o0 : Nat) (o1 : Nat) (ct : Nat) (cp : Nat) (mb : Int32) (fy : Nat → Int32) (ix : Nat) (sz : Nat) (hct : ct ≤ cp) (hcp : cp ≤ 126) (hfit : sb_Fit fy) (hix : ix < ct) : Met l yJ5_charAt_5068e wsJ5_charAt_5068e ({ frames := 2, cells := 0, slots := 0, locals := 43 }) (va_Pc [.ref o0, .int (nI ix)] (Wd D cA sa [(oJ4 o0 o1 0 mb (nI ct)), (o1, .inl (cA 3, cp, .inl fy))] sz)) (va_Qi (fun (r : Int32) (_ : Unit) => NC r) (fun (_ : Unit) t => Wq D (va_A [(oJ4 o0 o1 0 mb (nI ct)), (o1, .inl (cA 3, cp, .inl fy))] sz) [(oJ4 o0 o1 0 mb (nI ct)), (o1, .inl (cA 3, cp, .inl fy))] t) (va_A [(oJ4 o0 o1 0 mb (nI ct)), (o1, .inl (cA 3, cp, .inl fy))] sz)) 0 0 (va_A [(oJ4 o0 o1 0 mb (nI ct)), (o1, .inl (cA 3, cp, .inl fy))] sz) := by
  refine Met.ofW (cc := cJ5_charAt_5068e) (maxL := 5) (ret := (some .char)) (by decide) rfl ?_
  intro p e s m args below meth c s₁ B hml hv
  obtain ⟨rfl, hsz, hP, hK, hD0, hC, hZ⟩ := hv
  have hx := B.exec
  have hb := B.bytes
  have hr := B.returns
  have hts := atoms_spec (ws := wsJ5_charAt_5068e) B.pre
  have hown : s.vm.findClass RJ5 = some m.cls := findClass_of_methodNamed B.named
  have hlocks := B.notSynchronized
  subst hsz
  have hD := hD0.self (sz := s.heap.size)
  generalize hAe : va_A [(oJ4 o0 o1 0 mb (nI ct)), (o1, .inl (cA 3, cp, .inl fy))] s.heap.size = A at hD hZ ⊢
  have hA : ∀ q : Nat, s.heap.size ≤ q → A q := fun q h => by rw [← hAe]; exact Or.inr h
  have hS : va_S A s.heap s.heap [] := va_S.rf
  have hP : va_P D vwCl [(oJ4 o0 o1 0 mb (nI ct)), (o1, .inl (cA 3, cp, .inl fy))] s.heap := hP
  have hl := lv_entry ([.ref o0, .int (nI ix)]) (n := 5) (Nat.le_of_ble_eq_true rfl)
  rw [lg_entry_eq]
  generalize (lg_sl ([.ref o0, .int (nI ix)]) ++ List.replicate (5 - (lg_sl ([.ref o0, .int (nI ix)])).length) Slot.unset).toArray = ls at hl ⊢
  have hl : lv_has ls 5 [(0, .ref o0), (1, .int (nI ix))] := hl
  have inJ4 : ∀ w ∈ u_ws RJ4 TJ4 4, w ∈ wsJ5_charAt_5068e := by decide +kernel
  refine lv_aload_n hx hb dJ5_charAt_5068e_0 rfl (lv_at hl 0 rfl) ?_
  refine va_get (D := D) (ci := 1) (v := .int 0) (C := RJ4) (T := TJ4) (N := 4) hx hb hts inJ4 hown hK hP 0 rfl rfl 1 (by decide) (hts (.fieldLink RJ5 22 "java/lang/AbstractStringBuilder" "coder" "B") (by decide +kernel)) (fun _ h9 => h9) rfl dJ5_charAt_5068e_1 ?_
  refine lv_istore_n (lv' := [(2, .int 0), (0, .ref o0), (1, .int (nI ix))]) hx hb dJ5_charAt_5068e_4 rfl hl (by decide) rfl (fun ls hl => ?_)
  refine lv_aload_n hx hb dJ5_charAt_5068e_5 rfl (lv_at hl 1 rfl) ?_
  refine va_get (D := D) (ci := 1) (v := .ref o1) (C := RJ4) (T := TJ4) (N := 4) hx hb hts inJ4 hown hK hP 0 rfl rfl 0 (by decide) (hts (.fieldLink RJ5 15 "java/lang/AbstractStringBuilder" "value" "[B") (by decide +kernel)) (fun _ h9 => h9) rfl dJ5_charAt_5068e_6 ?_
  refine lv_astore_n (lv' := [(3, .ref o1), (2, .int 0), (0, .ref o0), (1, .int (nI ix))]) hx hb dJ5_charAt_5068e_9 rfl hl (by decide) rfl (fun ls hl => ?_)
  refine lv_aload_n hx hb dJ5_charAt_5068e_10 rfl (lv_at hl 2 rfl) ?_
  refine va_get (D := D) (ci := 1) (v := .int (nI ct)) (C := RJ4) (T := TJ4) (N := 4) hx hb hts inJ4 hown hK hP 0 rfl rfl 3 (by decide) (hts (.fieldLink RJ5 79 "java/lang/AbstractStringBuilder" "count" "I") (by decide +kernel)) (fun _ h9 => h9) rfl dJ5_charAt_5068e_11 ?_
  refine lv_aload_n hx hb dJ5_charAt_5068e_14 rfl (lv_at hl 0 rfl) ?_
  refine va_alen (v := (nI cp)) hx hb hK hP 1 3 rfl rfl rfl dJ5_charAt_5068e_15 ?_
  refine lv_iload_n hx hb dJ5_charAt_5068e_16 rfl (lv_at hl 1 rfl) ?_
  refine lv_ishr hx hb dJ5_charAt_5068e_17 ?_
  refine lv_topi (fun yn1 eyn1 => ?_)
  obtain rfl : yn1 = (nI cp) := eyn1.trans (sb_shr0 _)
  refine va_mmin hx hb (by rw [hml]; exact hl.1.symm) hown (hts (.methodLink RJ5 138 Lib.Math.min.name) (by decide +kernel)) (hts (.static Lib.Math.min.name) (by decide +kernel)) (hts (.initialized "java/lang/Math") (by decide +kernel)) (hts (.code Lib.Math.min.name Lib.Math.min.code 2 (some .int)) (by decide +kernel)) (Nat.le_of_ble_eq_true rfl) (Nat.le_of_ble_eq_true rfl) (Nat.le_of_ble_eq_true rfl) (Nat.le_of_ble_eq_true rfl) dJ5_charAt_5068e_18 ?_
  refine lv_topi (fun yn2 eyn2 => ?_)
  obtain rfl : yn2 = (nI (min ct cp)) := eyn2.trans (nI_min (a := ct) (b := cp) (by omega) (by omega))
  refine lv_istore (lv' := [(4, .int (nI (min ct cp))), (3, .ref o1), (2, .int 0), (0, .ref o0), (1, .int (nI ix))]) hx hb dJ5_charAt_5068e_21 hl (by decide) rfl (fun ls hl => ?_)
  refine lv_iload_n hx hb dJ5_charAt_5068e_23 rfl (lv_at hl 4 rfl) ?_
  refine lv_iload hx hb dJ5_charAt_5068e_24 (lv_at hl 0 rfl) ?_
  obtain ⟨hPc, hDc, hFc⟩ := PDq.cut (wc := []) hP hD hS hA [] (by decide) rfl
  refine va_callv (va_runS (As := [.int (nI ix), .int (nI (min ct cp))]) (rest := []) ⟨hx, hb, hml, hown, hts⟩ (c_schk l D cA sa ix (min ct cp) s.heap.size (by omega) (by omega)) (va_cwS 2 hts gJ5_charAt_5068e_J0_checkIndex_df160 rfl rfl rfl (by decide +kernel) ⟨(Nat.le_of_ble_eq_true rfl), (Nat.le_of_ble_eq_true rfl)⟩) ⟨Wd.blind, fun U hU hW => ⟨rfl, Wd.call hPc hDc hK hC hZ hS hFc U hU hW⟩⟩ rfl rfl hl.1 rfl (lv_room (Nat.le_of_ble_eq_true rfl)) dJ5_charAt_5068e_26 ⟨(Nat.le_of_ble_eq_true rfl), (Nat.le_of_ble_eq_true rfl)⟩) hS (fun q _ h => hFc q h) hFc (fun u t H1 locs ht hvm hw hB hz1 hk1 hS => ?_)
  obtain ⟨hP1, hD1⟩ := hB
  rw [ht] at hP1
  obtain ⟨hP, hD⟩ := PDq.join (w := [(oJ4 o0 o1 0 mb (nI ct)), (o1, .inl (cA 3, cp, .inl fy))]) 2 hP hD [] [0, 1] rfl rfl (by decide) (by decide) hk1 hFc hP1 hD1 rfl
  generalize H1 = H at hP hS ⊢
  refine lv_iload_n hx hb dJ5_charAt_5068e_29 rfl (lv_at hl 2 rfl) ?_
  refine lv_if_ne (tgt := 42) hx hb dJ5_charAt_5068e_30 (by decide) (fun c9 => absurd c9 (by decide)) (fun c3 => ?_)
  refine lv_aload_n hx hb dJ5_charAt_5068e_33 rfl (lv_at hl 1 rfl) ?_
  refine lv_iload_n hx hb dJ5_charAt_5068e_34 rfl (lv_at hl 4 rfl) ?_
  refine va_bald hx hb hK hP 1 3 rfl rfl (vp_in_nI (n := ix) (N := cp) (show ix < cp by omega) (by omega)) dJ5_charAt_5068e_35 ?_
  refine lv_topi (fun yn4 eyn4 => ?_)
  refine lv_sipush (v := 255) hx hb dJ5_charAt_5068e_36 (by decide) ?_
  refine lv_iand hx hb dJ5_charAt_5068e_39 ?_
  refine lv_topi (fun yn5 eyn5 => ?_)
  refine lv_i2c hx hb dJ5_charAt_5068e_40 rfl ?_
  refine lv_topi (fun yn6 eyn6 => ?_)
  obtain ⟨hP9, hD9⟩ := PDq.sub (ws' := [(oJ4 o0 o1 0 mb (nI ct)), (o1, .inl (cA 3, cp, .inl fy))]) hP hD [0, 1] (by decide) rfl
  refine W.widen (k := 0) (n := 0) (Nat.le_of_ble_eq_true rfl) (Nat.le_of_ble_eq_true rfl) ?_
  exact (W.zret (v := yn6) hx hb hr (nar_i2c eyn6) (fun t ht hW => ⟨⟨yn6, (), rfl, (nar_i2c eyn6), by rw [ht]; exact hP9, hD9⟩, hS.F ht⟩) hS.2.2 dJ5_charAt_5068e_41)

set_option maxHeartbeats 4000000 in
set_option maxRecDepth 100000 in
/-- charAt -/
theorem j_charAt (l : Launch) (D : va_G) (cA : Nat → ClassId) (sa : Nat → Nat) (o0 : Nat) (o1 : Nat) (ct : Nat) (cp : Nat) (mb : Int32) (fy : Nat → Int32) (ix : Nat) (sz : Nat) (hct : ct ≤ cp) (hcp : cp ≤ 126) (hfit : sb_Fit fy) (hix : ix < ct) : Met l yJ4_charAt_5068e wsJ4_charAt_5068e ({ frames := 3, cells := 0, slots := 0, locals := 67 }) (va_Pc [.ref o0, .int (nI ix)] (Wd D cA sa [(oJ4 o0 o1 0 mb (nI ct)), (o1, .inl (cA 3, cp, .inl fy))] sz)) (va_Qi (fun (r : Int32) (_ : Unit) => NC r) (fun (_ : Unit) t => Wq D (va_A [(oJ4 o0 o1 0 mb (nI ct)), (o1, .inl (cA 3, cp, .inl fy))] sz) [(oJ4 o0 o1 0 mb (nI ct)), (o1, .inl (cA 3, cp, .inl fy))] t) (va_A [(oJ4 o0 o1 0 mb (nI ct)), (o1, .inl (cA 3, cp, .inl fy))] sz)) 0 0 (va_A [(oJ4 o0 o1 0 mb (nI ct)), (o1, .inl (cA 3, cp, .inl fy))] sz) := by
  refine Met.ofW (cc := cJ4_charAt_5068e) (maxL := 2) (ret := (some .char)) (by decide) rfl ?_
  intro p e s m args below meth c s₁ B hml hv
  obtain ⟨rfl, hsz, hP, hK, hD0, hC, hZ⟩ := hv
  have hx := B.exec
  have hb := B.bytes
  have hr := B.returns
  have hts := atoms_spec (ws := wsJ4_charAt_5068e) B.pre
  have hown : s.vm.findClass RJ4 = some m.cls := findClass_of_methodNamed B.named
  have hlocks := B.notSynchronized
  subst hsz
  have hD := hD0.self (sz := s.heap.size)
  generalize hAe : va_A [(oJ4 o0 o1 0 mb (nI ct)), (o1, .inl (cA 3, cp, .inl fy))] s.heap.size = A at hD hZ ⊢
  have hA : ∀ q : Nat, s.heap.size ≤ q → A q := fun q h => by rw [← hAe]; exact Or.inr h
  have hS : va_S A s.heap s.heap [] := va_S.rf
  have hP : va_P D vwCl [(oJ4 o0 o1 0 mb (nI ct)), (o1, .inl (cA 3, cp, .inl fy))] s.heap := hP
  have hl := lv_entry ([.ref o0, .int (nI ix)]) (n := 2) (Nat.le_of_ble_eq_true rfl)
  rw [lg_entry_eq]
  generalize (lg_sl ([.ref o0, .int (nI ix)]) ++ List.replicate (2 - (lg_sl ([.ref o0, .int (nI ix)])).length) Slot.unset).toArray = ls at hl ⊢
  have hl : lv_has ls 2 [(0, .ref o0), (1, .int (nI ix))] := hl
  refine lv_aload_n hx hb dJ4_charAt_5068e_0 rfl (lv_at hl 0 rfl) ?_
  refine lv_iload_n hx hb dJ4_charAt_5068e_1 rfl (lv_at hl 1 rfl) ?_
  obtain ⟨hPc, hDc, hFc⟩ := PDq.cut (wc := [(oJ4 o0 o1 0 mb (nI ct)), (o1, .inl (cA 3, cp, .inl fy))]) hP hD hS hA [0, 1] (by decide) rfl
  refine va_calli (va_runSU (As := [.int (nI ix)]) (rest := []) (hK.1 1 _ rfl).2 ⟨hx, hb, hml, hown, hts⟩ (j_charAt5 l D cA sa o0 o1 ct cp mb fy ix s.heap.size hct hcp hfit hix) (va_cwSU 1 hts gJ4_charAt_5068e_J5_charAt_5068e_s329 rfl rfl rfl (by decide +kernel) ⟨(Nat.le_of_ble_eq_true rfl), (Nat.le_of_ble_eq_true rfl)⟩) ⟨Wd.blind, va_recv hK hPc (ci := 1) (q0 := 0) rfl rfl, fun U hU hW => ⟨rfl, Wd.call hPc hDc hK hC hZ hS hFc U hU hW⟩⟩ rfl rfl hl.1 rfl (lv_room (Nat.le_of_ble_eq_true rfl)) dJ4_charAt_5068e_2 ⟨(Nat.le_of_ble_eq_true rfl), (Nat.le_of_ble_eq_true rfl)⟩) hS (fun q _ h => hFc q h) hFc (fun rn1 u t H1 locs ht hvm hw hB hz1 hk1 hS => ?_)
  obtain ⟨hP1, hD1⟩ := hB
  rw [ht] at hP1
  obtain ⟨hP, hD⟩ := PDq.join (w := [(oJ4 o0 o1 0 mb (nI ct)), (o1, .inl (cA 3, cp, .inl fy))]) 0 hP hD [0, 1] [] rfl rfl (by decide) (by decide) hk1 hFc hP1 hD1 rfl
  generalize H1 = H at hP hS ⊢
  have hn2 := hw
  obtain ⟨hP9, hD9⟩ := PDq.sub (ws' := [(oJ4 o0 o1 0 mb (nI ct)), (o1, .inl (cA 3, cp, .inl fy))]) hP hD [0, 1] (by decide) rfl
  refine W.widen (k := 0) (n := 0) (Nat.le_of_ble_eq_true rfl) (Nat.le_of_ble_eq_true rfl) ?_
  exact (W.zret (v := rn1) hx hb hr hn2 (fun t ht hW => ⟨⟨rn1, (), rfl, hn2, by rw [ht]; exact hP9, hD9⟩, hS.F ht⟩) hS.2.2 dJ4_charAt_5068e_5)

set_option maxHeartbeats 4000000 in
set_option maxRecDepth 100000 in
/-- letterAt -/
theorem s_letterAt (l : Launch) (D : va_G) (cA : Nat → ClassId) (sa : Nat → Nat) (w : Int64) (k : Int32) (sz : Nat) : Met l yX8_letterAt wsX8_letterAt ({ frames := 1, cells := 0, slots := 0, locals := 22 }) (va_Pc [.long w, .int k] (Wd D cA sa [] sz)) (va_Qi (fun (r : Int32) (_ : Unit) => ∃ n, n < 256 ∧ r = nI n) (fun (_ : Unit) t => Wq D (va_A [] sz) [] t) (va_A [] sz)) 0 0 (va_A [] sz) := by
  refine Met.ofW (cc := cX8_letterAt) (maxL := 4) (ret := (some .char)) (by decide) rfl ?_
  intro p e s m args below meth c s₁ B hml hv
  obtain ⟨rfl, hsz, hP, hK, hD0, hC, hZ⟩ := hv
  have hx := B.exec
  have hb := B.bytes
  have hr := B.returns
  have hts := atoms_spec (ws := wsX8_letterAt) B.pre
  have hown : s.vm.findClass RX8 = some m.cls := findClass_of_methodNamed B.named
  have hlocks := B.notSynchronized
  subst hsz
  have hD := hD0.self (sz := s.heap.size)
  generalize hAe : va_A [] s.heap.size = A at hD hZ ⊢
  have hA : ∀ q : Nat, s.heap.size ≤ q → A q := fun q h => by rw [← hAe]; exact Or.inr h
  have hS : va_S A s.heap s.heap [] := va_S.rf
  have hP : va_P D vwCl [] s.heap := hP
  have hl := lv_entry ([.long w, .int k]) (n := 4) (Nat.le_of_ble_eq_true rfl)
  rw [lg_entry_eq]
  generalize (lg_sl ([.long w, .int k]) ++ List.replicate (4 - (lg_sl ([.long w, .int k])).length) Slot.unset).toArray = ls at hl ⊢
  have hl : lv_has ls 4 [(0, .long w), (2, .int k)] := hl
  refine lv_iconst (v := 5) hx hb dX8_letterAt_0 (by decide) ?_
  refine lv_lload_n hx hb dX8_letterAt_1 rfl (lv_at hl 0 rfl) ?_
  obtain ⟨hPc, hDc, hFc⟩ := PDq.cut (wc := []) hP hD hS hA [] (by decide) rfl
  refine va_calli (va_runS (As := [.long w]) (rest := [.int 5]) ⟨hx, hb, hml, hown, hts⟩ (s_letterCount l D cA sa w s.heap.size) (va_cwS 1 hts gX8_letterAt_X8_letterCount rfl rfl rfl (by decide +kernel) ⟨(Nat.le_of_ble_eq_true rfl), (Nat.le_of_ble_eq_true rfl)⟩) ⟨Wd.blind, fun U hU hW => ⟨rfl, Wd.call hPc hDc hK hC hZ hS hFc U hU hW⟩⟩ rfl rfl hl.1 rfl (lv_room (Nat.le_of_ble_eq_true rfl)) dX8_letterAt_2 ⟨(Nat.le_of_ble_eq_true rfl), (Nat.le_of_ble_eq_true rfl)⟩) hS (fun q _ h => hFc q h) hFc (fun rn1 u t H1 locs ht hvm hw hB hz1 hk1 hS => ?_)
  obtain ⟨hP1, hD1⟩ := hB
  rw [ht] at hP1
  obtain ⟨hP, hD⟩ := PDq.join (w := []) 0 hP hD [] [] rfl rfl (by decide) (by decide) hk1 hFc hP1 hD1 rfl
  generalize H1 = H at hP hS ⊢
  obtain ⟨kn2, hn3, hr9⟩ := hw
  subst hr9
  refine lv_iconst (v := 1) hx hb dX8_letterAt_5 (by decide) ?_
  refine lv_isub hx hb dX8_letterAt_6 ?_
  refine lv_topi (fun yn4 eyn4 => ?_)
  refine lv_iload_n hx hb dX8_letterAt_7 rfl (lv_at hl 1 rfl) ?_
  refine lv_isub hx hb dX8_letterAt_8 ?_
  refine lv_topi (fun yn5 eyn5 => ?_)
  refine lv_imul hx hb dX8_letterAt_9 ?_
  refine lv_topi (fun yn6 eyn6 => ?_)
  refine lv_istore_n (lv' := [(3, .int yn6), (0, .long w), (2, .int k)]) hx hb dX8_letterAt_10 rfl hl (by decide) rfl (fun ls hl => ?_)
  refine lv_ldc2 (v := 96) hx hb hown (hts (.constantLong RX8 27 96) (by decide +kernel)) dX8_letterAt_11 ?_
  refine lv_lload_n hx hb dX8_letterAt_14 rfl (lv_at hl 1 rfl) ?_
  refine lv_iload_n hx hb dX8_letterAt_15 rfl (lv_at hl 0 rfl) ?_
  refine lv_lushr hx hb dX8_letterAt_16 rfl ?_
  refine lv_topl (fun yn7 eyn7 => ?_)
  refine lv_ldc2 (v := 31) hx hb hown (hts (.constantLong RX8 29 31) (by decide +kernel)) dX8_letterAt_17 ?_
  refine lv_land hx hb dX8_letterAt_20 ?_
  refine lv_topl (fun yn8 eyn8 => ?_)
  refine lv_ladd hx hb dX8_letterAt_21 ?_
  refine lv_topl (fun yn9 eyn9 => ?_)
  refine lv_l2i (v := yn9.toInt32) hx hb dX8_letterAt_22 rfl ?_
  refine lv_topi (fun yn10 eyn10 => ?_)
  refine lv_i2c hx hb dX8_letterAt_23 rfl ?_
  refine lv_topi (fun yn11 eyn11 => ?_)
  obtain ⟨hP9, hD9⟩ := PDq.sub (ws' := []) hP hD [] (by decide) rfl
  refine W.widen (k := 0) (n := 0) (Nat.le_of_ble_eq_true rfl) (Nat.le_of_ble_eq_true rfl) ?_
  exact (W.zret (v := yn11) hx hb hr (nar_i2c eyn11) (fun t ht hW => ⟨⟨yn11, (), rfl, (lat_n eyn8 eyn9 eyn10 eyn11), by rw [ht]; exact hP9, hD9⟩, hS.F ht⟩) hS.2.2 dX8_letterAt_24)

set_option maxHeartbeats 4000000 in
set_option maxRecDepth 100000 in
/-- appendTo -/
theorem s_appendTo (l : Launch) (D : va_G) (cA : Nat → ClassId) (sa : Nat → Nat) (o0 : Nat) (o1 : Nat) (ct : Nat) (cp : Nat) (mb : Int32) (fy : Nat → Int32) (w : Int64) (sz : Nat) (hct : ct ≤ cp) (hcp : cp ≤ 126) (hfit : sb_Fit fy) (hc1 : ct + 9 ≤ 62) : Met l yX8_appendTo wsX8_appendTo ({ frames := 6, cells := 9, slots := 2340, locals := 146 }) (va_Pc [.ref o0, .long w] (Wd D cA sa [(oJ4 o0 o1 0 mb (nI ct)), (o1, .inl (cA 3, cp, .inl fy))] sz)) (va_Qv (fun _ : Unit => True) (fun (_ : Unit) t => ∃ z1 : Nat, ∃ cp2 : Nat, ∃ zy : Nat → Int32, ∃ ct2 : Nat, ct2 ≤ ct + 9 ∧ ct2 ≤ cp2 ∧ cp2 ≤ 126 ∧ sb_Fit zy ∧ Wq D (va_A [(oJ4 o0 o1 0 mb (nI ct)), (o1, .inl (cA 3, cp, .inl fy))] sz) [(oJ4 o0 z1 0 mb (nI ct2)), (z1, .inl (cA 3, cp2, .inl zy))] t) (va_A [(oJ4 o0 o1 0 mb (nI ct)), (o1, .inl (cA 3, cp, .inl fy))] sz)) 9 2340 (va_A [(oJ4 o0 o1 0 mb (nI ct)), (o1, .inl (cA 3, cp, .inl fy))] sz) := by
  refine Met.ofW (cc := cX8_appendTo) (maxL := 5) (ret := none) (by decide) rfl ?_
  intro p e s m args below meth c s₁ B hml hv
  obtain ⟨rfl, hsz, hP, hK, hD0, hC, hZ⟩ := hv
  have hx := B.exec
  have hb := B.bytes
  have hr := B.returns
  have hts := atoms_spec (ws := wsX8_appendTo) B.pre
  have hown : s.vm.findClass RX8 = some m.cls := findClass_of_methodNamed B.named
  have hlocks := B.notSynchronized
  subst hsz
  have hD := hD0.self (sz := s.heap.size)
  generalize hAe : va_A [(oJ4 o0 o1 0 mb (nI ct)), (o1, .inl (cA 3, cp, .inl fy))] s.heap.size = A at hD hZ ⊢
  have hA : ∀ q : Nat, s.heap.size ≤ q → A q := fun q h => by rw [← hAe]; exact Or.inr h
  have hS : va_S A s.heap s.heap [] := va_S.rf
  have hP : va_P D vwCl [(oJ4 o0 o1 0 mb (nI ct)), (o1, .inl (cA 3, cp, .inl fy))] s.heap := hP
  have hl := lv_entry ([.ref o0, .long w]) (n := 5) (Nat.le_of_ble_eq_true rfl)
  rw [lg_entry_eq]
  generalize (lg_sl ([.ref o0, .long w]) ++ List.replicate (5 - (lg_sl ([.ref o0, .long w])).length) Slot.unset).toArray = ls at hl ⊢
  have hl : lv_has ls 5 [(0, .ref o0), (1, .long w)] := hl
  refine lv_lload_n hx hb dX8_appendTo_0 rfl (lv_at hl 1 rfl) ?_
  obtain ⟨hPc, hDc, hFc⟩ := PDq.cut (wc := []) hP hD hS hA [] (by decide) rfl
  refine va_calli (va_runS (As := [.long w]) (rest := []) ⟨hx, hb, hml, hown, hts⟩ (s_letterCount l D cA sa w s.heap.size) (va_cwS 1 hts gX8_appendTo_X8_letterCount rfl rfl rfl (by decide +kernel) ⟨(Nat.le_of_ble_eq_true rfl), (Nat.le_of_ble_eq_true rfl)⟩) ⟨Wd.blind, fun U hU hW => ⟨rfl, Wd.call hPc hDc hK hC hZ hS hFc U hU hW⟩⟩ rfl rfl hl.1 rfl (lv_room (Nat.le_of_ble_eq_true rfl)) dX8_appendTo_1 ⟨(Nat.le_of_ble_eq_true rfl), (Nat.le_of_ble_eq_true rfl)⟩) hS (fun q _ h => hFc q h) hFc (fun rn1 u t H1 locs ht hvm hw hB hz1 hk1 hS => ?_)
  obtain ⟨hP1, hD1⟩ := hB
  rw [ht] at hP1
  obtain ⟨hP, hD⟩ := PDq.join (w := [(oJ4 o0 o1 0 mb (nI ct)), (o1, .inl (cA 3, cp, .inl fy))]) 2 hP hD [] [0, 1] rfl rfl (by decide) (by decide) hk1 hFc hP1 hD1 rfl
  generalize H1 = H at hP hS ⊢
  obtain ⟨kn2, hn3, hr9⟩ := hw
  subst hr9
  refine lv_istore_n (lv' := [(3, .int (nI kn2)), (0, .ref o0), (1, .long w)]) hx hb dX8_appendTo_4 rfl hl (by decide) rfl (fun ls hl => ?_)
  refine lv_iconst (v := 0) hx hb dX8_appendTo_5 (by decide) ?_
  refine lv_istore (lv' := [(4, .int 0), (3, .int (nI kn2)), (0, .ref o0), (1, .long w)]) hx hb dX8_appendTo_6 hl (by decide) rfl (fun ls hl => ?_)
  refine lv_iload hx hb dX8_appendTo_8 (lv_at hl 0 rfl) ?_
  refine lv_iload_n hx hb dX8_appendTo_10 rfl (lv_at hl 1 rfl) ?_
  refine lv_icmp_ge (tgt := 31) hx hb dX8_appendTo_11 (by decide) (fun c4 => ?_) (fun c4 => ?_)
  · skip
    have hn5 : kn2 ≤ 0 := (nI_leI (a := kn2) (b := 0) (by omega) (by omega)).mp c4
    obtain ⟨hP9, hD9⟩ := PDq.sub (ws' := [(oJ4 o0 o1 0 mb (nI ct)), (o1, .inl (cA 3, cp, .inl fy))]) hP hD [0, 1] (by decide) rfl
    refine W.widen (k := 9) (n := 2340) (Nat.le_of_ble_eq_true rfl) (Nat.le_of_ble_eq_true rfl) ?_
    exact (W.vret hx hb hr (fun t ht hW => ⟨⟨(), rfl, trivial, o1, cp, fy, ct, (by omega), hct, hcp, hfit, by rw [ht]; exact hP9, hD9⟩, hS.F ht⟩) hS.2.2 dX8_appendTo_31)
  · skip
    have hn6 : 0 < kn2 := Nat.lt_of_not_le (fun h9 => c4 (nI_le (a := kn2) (b := 0) h9 (by omega)))
    refine lv_aload_n hx hb dX8_appendTo_14 rfl (lv_at hl 2 rfl) ?_
    refine lv_lload_n hx hb dX8_appendTo_15 rfl (lv_at hl 3 rfl) ?_
    refine lv_iload hx hb dX8_appendTo_16 (lv_at hl 0 rfl) ?_
    obtain ⟨hPc, hDc, hFc⟩ := PDq.cut (wc := []) hP hD hS hA [] (by decide) rfl
    refine va_calli (va_runS (As := [.long w, .int 0]) (rest := [.ref o0]) ⟨hx, hb, hml, hown, hts⟩ (s_letterAt l D cA sa w 0 H.size) (va_cwS 2 hts gX8_appendTo_X8_letterAt rfl rfl rfl (by decide +kernel) ⟨(Nat.le_of_ble_eq_true rfl), (Nat.le_of_ble_eq_true rfl)⟩) ⟨Wd.blind, fun U hU hW => ⟨rfl, Wd.call hPc hDc hK hC hZ hS hFc U hU hW⟩⟩ rfl rfl hl.1 rfl (lv_room (Nat.le_of_ble_eq_true rfl)) dX8_appendTo_18 ⟨(Nat.le_of_ble_eq_true rfl), (Nat.le_of_ble_eq_true rfl)⟩) hS (fun q _ h => hFc q h) hFc (fun rn7 u t H1 locs ht hvm hw hB hz1 hk1 hS => ?_)
    obtain ⟨hP1, hD1⟩ := hB
    rw [ht] at hP1
    obtain ⟨hP, hD⟩ := PDq.join (w := [(oJ4 o0 o1 0 mb (nI ct)), (o1, .inl (cA 3, cp, .inl fy))]) 2 hP hD [] [0, 1] rfl rfl (by decide) (by decide) hk1 hFc hP1 hD1 rfl
    generalize H1 = H at hP hS ⊢
    obtain ⟨kn8, hn9, hr9⟩ := hw
    subst hr9
    obtain ⟨hPc, hDc, hFc⟩ := PDq.cut (wc := [(oJ4 o0 o1 0 mb (nI ct)), (o1, .inl (cA 3, cp, .inl fy))]) hP hD hS hA [0, 1] (by decide) rfl
    refine va_callr (va_runV (As := [.int (nI kn8)]) (rest := []) ⟨hx, hb, hml, hown, hts⟩ (j_appendC l D cA sa o0 o1 ct cp mb fy kn8 H.size hct hcp hfit hn9 (by omega)) (cwV 1 hts gX8_appendTo_J4_append_cf468 rfl rfl rfl (by decide +kernel) ⟨(Nat.le_of_ble_eq_true rfl), (Nat.le_of_ble_eq_true rfl)⟩) ⟨Wd.blind, va_recv hK hPc (ci := 1) (q0 := 0) rfl rfl, fun U hU hW => ⟨rfl, Wd.call hPc hDc hK hC hZ hS hFc U hU hW⟩⟩ rfl rfl hl.1 rfl (lv_room (Nat.le_of_ble_eq_true rfl)) dX8_appendTo_21 ⟨(Nat.le_of_ble_eq_true rfl), (Nat.le_of_ble_eq_true rfl)⟩) hS (fun q _ h => hFc q h) hFc (fun u ra t H1 locs ht hvm hw hB hz1 hk1 hS => ?_)
    obtain ⟨hra, qn10, qn11, fn12, hn13, hn14, hn15, hP1, hD1⟩ := hB
    obtain rfl := hra.symm
    rw [ht] at hP1
    obtain ⟨hP, hD⟩ := PDq.join (w := [(oJ4 o0 qn10 0 mb (nI (ct + 1))), (qn10, .inl (cA 3, qn11, .inl fn12))]) 0 hP hD [0, 1] [] rfl rfl (by decide) (by decide) hk1 hFc hP1 hD1 rfl
    generalize H1 = H at hP hS ⊢
    refine lv_pop hx hb dX8_appendTo_24 rfl ?_
    refine lv_iinc (v := 1) (lv' := [(4, .int 1), (3, .int (nI kn2)), (0, .ref o0), (1, .long w)]) hx hb dX8_appendTo_25 hl (k := 0) rfl (by first | rfl | decide +kernel) (by decide) rfl (fun ls hl => ?_)
    refine lv_goto (tgt := 8) hx hb dX8_appendTo_28 (by decide) ?_
    refine lv_iload hx hb dX8_appendTo_8 (lv_at hl 0 rfl) ?_
    refine lv_iload_n hx hb dX8_appendTo_10 rfl (lv_at hl 1 rfl) ?_
    refine lv_icmp_ge (tgt := 31) hx hb dX8_appendTo_11 (by decide) (fun c16 => ?_) (fun c16 => ?_)
    · skip
      have hn17 : kn2 ≤ 1 := (nI_leI (a := kn2) (b := 1) (by omega) (by omega)).mp c16
      obtain ⟨hP9, hD9⟩ := PDq.sub (ws' := [(oJ4 o0 qn10 0 mb (nI (ct + 1))), (qn10, .inl (cA 3, qn11, .inl fn12))]) hP hD [0, 1] (by decide) rfl
      refine W.widen (k := 9) (n := 2340) (Nat.le_of_ble_eq_true rfl) (Nat.le_of_ble_eq_true rfl) ?_
      exact (W.vret hx hb hr (fun t ht hW => ⟨⟨(), rfl, trivial, qn10, qn11, fn12, (ct + 1), (by omega), (by omega), hn14, hn15, by rw [ht]; exact hP9, hD9⟩, hS.F ht⟩) hS.2.2 dX8_appendTo_31)
    · skip
      have hn18 : 1 < kn2 := Nat.lt_of_not_le (fun h9 => c16 (nI_le (a := kn2) (b := 1) h9 (by omega)))
      refine lv_aload_n hx hb dX8_appendTo_14 rfl (lv_at hl 2 rfl) ?_
      refine lv_lload_n hx hb dX8_appendTo_15 rfl (lv_at hl 3 rfl) ?_
      refine lv_iload hx hb dX8_appendTo_16 (lv_at hl 0 rfl) ?_
      obtain ⟨hPc, hDc, hFc⟩ := PDq.cut (wc := []) hP hD hS hA [] (by decide) rfl
      refine va_calli (va_runS (As := [.long w, .int 1]) (rest := [.ref o0]) ⟨hx, hb, hml, hown, hts⟩ (s_letterAt l D cA sa w 1 H.size) (va_cwS 2 hts gX8_appendTo_X8_letterAt rfl rfl rfl (by decide +kernel) ⟨(Nat.le_of_ble_eq_true rfl), (Nat.le_of_ble_eq_true rfl)⟩) ⟨Wd.blind, fun U hU hW => ⟨rfl, Wd.call hPc hDc hK hC hZ hS hFc U hU hW⟩⟩ rfl rfl hl.1 rfl (lv_room (Nat.le_of_ble_eq_true rfl)) dX8_appendTo_18 ⟨(Nat.le_of_ble_eq_true rfl), (Nat.le_of_ble_eq_true rfl)⟩) hS (fun q _ h => hFc q h) hFc (fun rn19 u t H1 locs ht hvm hw hB hz1 hk1 hS => ?_)
      obtain ⟨hP1, hD1⟩ := hB
      rw [ht] at hP1
      obtain ⟨hP, hD⟩ := PDq.join (w := [(oJ4 o0 qn10 0 mb (nI (ct + 1))), (qn10, .inl (cA 3, qn11, .inl fn12))]) 2 hP hD [] [0, 1] rfl rfl (by decide) (by decide) hk1 hFc hP1 hD1 rfl
      generalize H1 = H at hP hS ⊢
      obtain ⟨kn20, hn21, hr9⟩ := hw
      subst hr9
      obtain ⟨hPc, hDc, hFc⟩ := PDq.cut (wc := [(oJ4 o0 qn10 0 mb (nI (ct + 1))), (qn10, .inl (cA 3, qn11, .inl fn12))]) hP hD hS hA [0, 1] (by decide) rfl
      refine va_callr (va_runV (As := [.int (nI kn20)]) (rest := []) ⟨hx, hb, hml, hown, hts⟩ (j_appendC l D cA sa o0 qn10 (ct + 1) qn11 mb fn12 kn20 H.size (by omega) hn14 hn15 hn21 (by omega)) (cwV 1 hts gX8_appendTo_J4_append_cf468 rfl rfl rfl (by decide +kernel) ⟨(Nat.le_of_ble_eq_true rfl), (Nat.le_of_ble_eq_true rfl)⟩) ⟨Wd.blind, va_recv hK hPc (ci := 1) (q0 := 0) rfl rfl, fun U hU hW => ⟨rfl, Wd.call hPc hDc hK hC hZ hS hFc U hU hW⟩⟩ rfl rfl hl.1 rfl (lv_room (Nat.le_of_ble_eq_true rfl)) dX8_appendTo_21 ⟨(Nat.le_of_ble_eq_true rfl), (Nat.le_of_ble_eq_true rfl)⟩) hS (fun q _ h => hFc q h) hFc (fun u ra t H1 locs ht hvm hw hB hz1 hk1 hS => ?_)
      obtain ⟨hra, qn22, qn23, fn24, hn25, hn26, hn27, hP1, hD1⟩ := hB
      obtain rfl := hra.symm
      rw [ht] at hP1
      obtain ⟨hP, hD⟩ := PDq.join (w := [(oJ4 o0 qn22 0 mb (nI ((ct + 1) + 1))), (qn22, .inl (cA 3, qn23, .inl fn24))]) 0 hP hD [0, 1] [] rfl rfl (by decide) (by decide) hk1 hFc hP1 hD1 rfl
      generalize H1 = H at hP hS ⊢
      refine lv_pop hx hb dX8_appendTo_24 rfl ?_
      refine lv_iinc (v := 2) (lv' := [(4, .int 2), (3, .int (nI kn2)), (0, .ref o0), (1, .long w)]) hx hb dX8_appendTo_25 hl (k := 0) rfl (by first | rfl | decide +kernel) (by decide) rfl (fun ls hl => ?_)
      refine lv_goto (tgt := 8) hx hb dX8_appendTo_28 (by decide) ?_
      refine lv_iload hx hb dX8_appendTo_8 (lv_at hl 0 rfl) ?_
      refine lv_iload_n hx hb dX8_appendTo_10 rfl (lv_at hl 1 rfl) ?_
      refine lv_icmp_ge (tgt := 31) hx hb dX8_appendTo_11 (by decide) (fun c28 => ?_) (fun c28 => ?_)
      · skip
        have hn29 : kn2 ≤ 2 := (nI_leI (a := kn2) (b := 2) (by omega) (by omega)).mp c28
        obtain ⟨hP9, hD9⟩ := PDq.sub (ws' := [(oJ4 o0 qn22 0 mb (nI ((ct + 1) + 1))), (qn22, .inl (cA 3, qn23, .inl fn24))]) hP hD [0, 1] (by decide) rfl
        refine W.widen (k := 9) (n := 2340) (Nat.le_of_ble_eq_true rfl) (Nat.le_of_ble_eq_true rfl) ?_
        exact (W.vret hx hb hr (fun t ht hW => ⟨⟨(), rfl, trivial, qn22, qn23, fn24, ((ct + 1) + 1), (by omega), (by omega), hn26, hn27, by rw [ht]; exact hP9, hD9⟩, hS.F ht⟩) hS.2.2 dX8_appendTo_31)
      · skip
        have hn30 : 2 < kn2 := Nat.lt_of_not_le (fun h9 => c28 (nI_le (a := kn2) (b := 2) h9 (by omega)))
        refine lv_aload_n hx hb dX8_appendTo_14 rfl (lv_at hl 2 rfl) ?_
        refine lv_lload_n hx hb dX8_appendTo_15 rfl (lv_at hl 3 rfl) ?_
        refine lv_iload hx hb dX8_appendTo_16 (lv_at hl 0 rfl) ?_
        obtain ⟨hPc, hDc, hFc⟩ := PDq.cut (wc := []) hP hD hS hA [] (by decide) rfl
        refine va_calli (va_runS (As := [.long w, .int 2]) (rest := [.ref o0]) ⟨hx, hb, hml, hown, hts⟩ (s_letterAt l D cA sa w 2 H.size) (va_cwS 2 hts gX8_appendTo_X8_letterAt rfl rfl rfl (by decide +kernel) ⟨(Nat.le_of_ble_eq_true rfl), (Nat.le_of_ble_eq_true rfl)⟩) ⟨Wd.blind, fun U hU hW => ⟨rfl, Wd.call hPc hDc hK hC hZ hS hFc U hU hW⟩⟩ rfl rfl hl.1 rfl (lv_room (Nat.le_of_ble_eq_true rfl)) dX8_appendTo_18 ⟨(Nat.le_of_ble_eq_true rfl), (Nat.le_of_ble_eq_true rfl)⟩) hS (fun q _ h => hFc q h) hFc (fun rn31 u t H1 locs ht hvm hw hB hz1 hk1 hS => ?_)
        obtain ⟨hP1, hD1⟩ := hB
        rw [ht] at hP1
        obtain ⟨hP, hD⟩ := PDq.join (w := [(oJ4 o0 qn22 0 mb (nI ((ct + 1) + 1))), (qn22, .inl (cA 3, qn23, .inl fn24))]) 2 hP hD [] [0, 1] rfl rfl (by decide) (by decide) hk1 hFc hP1 hD1 rfl
        generalize H1 = H at hP hS ⊢
        obtain ⟨kn32, hn33, hr9⟩ := hw
        subst hr9
        obtain ⟨hPc, hDc, hFc⟩ := PDq.cut (wc := [(oJ4 o0 qn22 0 mb (nI ((ct + 1) + 1))), (qn22, .inl (cA 3, qn23, .inl fn24))]) hP hD hS hA [0, 1] (by decide) rfl
        refine va_callr (va_runV (As := [.int (nI kn32)]) (rest := []) ⟨hx, hb, hml, hown, hts⟩ (j_appendC l D cA sa o0 qn22 ((ct + 1) + 1) qn23 mb fn24 kn32 H.size (by omega) hn26 hn27 hn33 (by omega)) (cwV 1 hts gX8_appendTo_J4_append_cf468 rfl rfl rfl (by decide +kernel) ⟨(Nat.le_of_ble_eq_true rfl), (Nat.le_of_ble_eq_true rfl)⟩) ⟨Wd.blind, va_recv hK hPc (ci := 1) (q0 := 0) rfl rfl, fun U hU hW => ⟨rfl, Wd.call hPc hDc hK hC hZ hS hFc U hU hW⟩⟩ rfl rfl hl.1 rfl (lv_room (Nat.le_of_ble_eq_true rfl)) dX8_appendTo_21 ⟨(Nat.le_of_ble_eq_true rfl), (Nat.le_of_ble_eq_true rfl)⟩) hS (fun q _ h => hFc q h) hFc (fun u ra t H1 locs ht hvm hw hB hz1 hk1 hS => ?_)
        obtain ⟨hra, qn34, qn35, fn36, hn37, hn38, hn39, hP1, hD1⟩ := hB
        obtain rfl := hra.symm
        rw [ht] at hP1
        obtain ⟨hP, hD⟩ := PDq.join (w := [(oJ4 o0 qn34 0 mb (nI (((ct + 1) + 1) + 1))), (qn34, .inl (cA 3, qn35, .inl fn36))]) 0 hP hD [0, 1] [] rfl rfl (by decide) (by decide) hk1 hFc hP1 hD1 rfl
        generalize H1 = H at hP hS ⊢
        refine lv_pop hx hb dX8_appendTo_24 rfl ?_
        refine lv_iinc (v := 3) (lv' := [(4, .int 3), (3, .int (nI kn2)), (0, .ref o0), (1, .long w)]) hx hb dX8_appendTo_25 hl (k := 0) rfl (by first | rfl | decide +kernel) (by decide) rfl (fun ls hl => ?_)
        refine lv_goto (tgt := 8) hx hb dX8_appendTo_28 (by decide) ?_
        refine lv_iload hx hb dX8_appendTo_8 (lv_at hl 0 rfl) ?_
        refine lv_iload_n hx hb dX8_appendTo_10 rfl (lv_at hl 1 rfl) ?_
        refine lv_icmp_ge (tgt := 31) hx hb dX8_appendTo_11 (by decide) (fun c40 => ?_) (fun c40 => ?_)
        · skip
          have hn41 : kn2 ≤ 3 := (nI_leI (a := kn2) (b := 3) (by omega) (by omega)).mp c40
          obtain ⟨hP9, hD9⟩ := PDq.sub (ws' := [(oJ4 o0 qn34 0 mb (nI (((ct + 1) + 1) + 1))), (qn34, .inl (cA 3, qn35, .inl fn36))]) hP hD [0, 1] (by decide) rfl
          refine W.widen (k := 9) (n := 2340) (Nat.le_of_ble_eq_true rfl) (Nat.le_of_ble_eq_true rfl) ?_
          exact (W.vret hx hb hr (fun t ht hW => ⟨⟨(), rfl, trivial, qn34, qn35, fn36, (((ct + 1) + 1) + 1), (by omega), (by omega), hn38, hn39, by rw [ht]; exact hP9, hD9⟩, hS.F ht⟩) hS.2.2 dX8_appendTo_31)
        · skip
          have hn42 : 3 < kn2 := Nat.lt_of_not_le (fun h9 => c40 (nI_le (a := kn2) (b := 3) h9 (by omega)))
          refine lv_aload_n hx hb dX8_appendTo_14 rfl (lv_at hl 2 rfl) ?_
          refine lv_lload_n hx hb dX8_appendTo_15 rfl (lv_at hl 3 rfl) ?_
          refine lv_iload hx hb dX8_appendTo_16 (lv_at hl 0 rfl) ?_
          obtain ⟨hPc, hDc, hFc⟩ := PDq.cut (wc := []) hP hD hS hA [] (by decide) rfl
          refine va_calli (va_runS (As := [.long w, .int 3]) (rest := [.ref o0]) ⟨hx, hb, hml, hown, hts⟩ (s_letterAt l D cA sa w 3 H.size) (va_cwS 2 hts gX8_appendTo_X8_letterAt rfl rfl rfl (by decide +kernel) ⟨(Nat.le_of_ble_eq_true rfl), (Nat.le_of_ble_eq_true rfl)⟩) ⟨Wd.blind, fun U hU hW => ⟨rfl, Wd.call hPc hDc hK hC hZ hS hFc U hU hW⟩⟩ rfl rfl hl.1 rfl (lv_room (Nat.le_of_ble_eq_true rfl)) dX8_appendTo_18 ⟨(Nat.le_of_ble_eq_true rfl), (Nat.le_of_ble_eq_true rfl)⟩) hS (fun q _ h => hFc q h) hFc (fun rn43 u t H1 locs ht hvm hw hB hz1 hk1 hS => ?_)
          obtain ⟨hP1, hD1⟩ := hB
          rw [ht] at hP1
          obtain ⟨hP, hD⟩ := PDq.join (w := [(oJ4 o0 qn34 0 mb (nI (((ct + 1) + 1) + 1))), (qn34, .inl (cA 3, qn35, .inl fn36))]) 2 hP hD [] [0, 1] rfl rfl (by decide) (by decide) hk1 hFc hP1 hD1 rfl
          generalize H1 = H at hP hS ⊢
          obtain ⟨kn44, hn45, hr9⟩ := hw
          subst hr9
          obtain ⟨hPc, hDc, hFc⟩ := PDq.cut (wc := [(oJ4 o0 qn34 0 mb (nI (((ct + 1) + 1) + 1))), (qn34, .inl (cA 3, qn35, .inl fn36))]) hP hD hS hA [0, 1] (by decide) rfl
          refine va_callr (va_runV (As := [.int (nI kn44)]) (rest := []) ⟨hx, hb, hml, hown, hts⟩ (j_appendC l D cA sa o0 qn34 (((ct + 1) + 1) + 1) qn35 mb fn36 kn44 H.size (by omega) hn38 hn39 hn45 (by omega)) (cwV 1 hts gX8_appendTo_J4_append_cf468 rfl rfl rfl (by decide +kernel) ⟨(Nat.le_of_ble_eq_true rfl), (Nat.le_of_ble_eq_true rfl)⟩) ⟨Wd.blind, va_recv hK hPc (ci := 1) (q0 := 0) rfl rfl, fun U hU hW => ⟨rfl, Wd.call hPc hDc hK hC hZ hS hFc U hU hW⟩⟩ rfl rfl hl.1 rfl (lv_room (Nat.le_of_ble_eq_true rfl)) dX8_appendTo_21 ⟨(Nat.le_of_ble_eq_true rfl), (Nat.le_of_ble_eq_true rfl)⟩) hS (fun q _ h => hFc q h) hFc (fun u ra t H1 locs ht hvm hw hB hz1 hk1 hS => ?_)
          obtain ⟨hra, qn46, qn47, fn48, hn49, hn50, hn51, hP1, hD1⟩ := hB
          obtain rfl := hra.symm
          rw [ht] at hP1
          obtain ⟨hP, hD⟩ := PDq.join (w := [(oJ4 o0 qn46 0 mb (nI ((((ct + 1) + 1) + 1) + 1))), (qn46, .inl (cA 3, qn47, .inl fn48))]) 0 hP hD [0, 1] [] rfl rfl (by decide) (by decide) hk1 hFc hP1 hD1 rfl
          generalize H1 = H at hP hS ⊢
          refine lv_pop hx hb dX8_appendTo_24 rfl ?_
          refine lv_iinc (v := 4) (lv' := [(4, .int 4), (3, .int (nI kn2)), (0, .ref o0), (1, .long w)]) hx hb dX8_appendTo_25 hl (k := 0) rfl (by first | rfl | decide +kernel) (by decide) rfl (fun ls hl => ?_)
          refine lv_goto (tgt := 8) hx hb dX8_appendTo_28 (by decide) ?_
          refine lv_iload hx hb dX8_appendTo_8 (lv_at hl 0 rfl) ?_
          refine lv_iload_n hx hb dX8_appendTo_10 rfl (lv_at hl 1 rfl) ?_
          refine lv_icmp_ge (tgt := 31) hx hb dX8_appendTo_11 (by decide) (fun c52 => ?_) (fun c52 => ?_)
          · skip
            have hn53 : kn2 ≤ 4 := (nI_leI (a := kn2) (b := 4) (by omega) (by omega)).mp c52
            obtain ⟨hP9, hD9⟩ := PDq.sub (ws' := [(oJ4 o0 qn46 0 mb (nI ((((ct + 1) + 1) + 1) + 1))), (qn46, .inl (cA 3, qn47, .inl fn48))]) hP hD [0, 1] (by decide) rfl
            refine W.widen (k := 9) (n := 2340) (Nat.le_of_ble_eq_true rfl) (Nat.le_of_ble_eq_true rfl) ?_
            exact (W.vret hx hb hr (fun t ht hW => ⟨⟨(), rfl, trivial, qn46, qn47, fn48, ((((ct + 1) + 1) + 1) + 1), (by omega), (by omega), hn50, hn51, by rw [ht]; exact hP9, hD9⟩, hS.F ht⟩) hS.2.2 dX8_appendTo_31)
          · skip
            have hn54 : 4 < kn2 := Nat.lt_of_not_le (fun h9 => c52 (nI_le (a := kn2) (b := 4) h9 (by omega)))
            refine lv_aload_n hx hb dX8_appendTo_14 rfl (lv_at hl 2 rfl) ?_
            refine lv_lload_n hx hb dX8_appendTo_15 rfl (lv_at hl 3 rfl) ?_
            refine lv_iload hx hb dX8_appendTo_16 (lv_at hl 0 rfl) ?_
            obtain ⟨hPc, hDc, hFc⟩ := PDq.cut (wc := []) hP hD hS hA [] (by decide) rfl
            refine va_calli (va_runS (As := [.long w, .int 4]) (rest := [.ref o0]) ⟨hx, hb, hml, hown, hts⟩ (s_letterAt l D cA sa w 4 H.size) (va_cwS 2 hts gX8_appendTo_X8_letterAt rfl rfl rfl (by decide +kernel) ⟨(Nat.le_of_ble_eq_true rfl), (Nat.le_of_ble_eq_true rfl)⟩) ⟨Wd.blind, fun U hU hW => ⟨rfl, Wd.call hPc hDc hK hC hZ hS hFc U hU hW⟩⟩ rfl rfl hl.1 rfl (lv_room (Nat.le_of_ble_eq_true rfl)) dX8_appendTo_18 ⟨(Nat.le_of_ble_eq_true rfl), (Nat.le_of_ble_eq_true rfl)⟩) hS (fun q _ h => hFc q h) hFc (fun rn55 u t H1 locs ht hvm hw hB hz1 hk1 hS => ?_)
            obtain ⟨hP1, hD1⟩ := hB
            rw [ht] at hP1
            obtain ⟨hP, hD⟩ := PDq.join (w := [(oJ4 o0 qn46 0 mb (nI ((((ct + 1) + 1) + 1) + 1))), (qn46, .inl (cA 3, qn47, .inl fn48))]) 2 hP hD [] [0, 1] rfl rfl (by decide) (by decide) hk1 hFc hP1 hD1 rfl
            generalize H1 = H at hP hS ⊢
            obtain ⟨kn56, hn57, hr9⟩ := hw
            subst hr9
            obtain ⟨hPc, hDc, hFc⟩ := PDq.cut (wc := [(oJ4 o0 qn46 0 mb (nI ((((ct + 1) + 1) + 1) + 1))), (qn46, .inl (cA 3, qn47, .inl fn48))]) hP hD hS hA [0, 1] (by decide) rfl
            refine va_callr (va_runV (As := [.int (nI kn56)]) (rest := []) ⟨hx, hb, hml, hown, hts⟩ (j_appendC l D cA sa o0 qn46 ((((ct + 1) + 1) + 1) + 1) qn47 mb fn48 kn56 H.size (by omega) hn50 hn51 hn57 (by omega)) (cwV 1 hts gX8_appendTo_J4_append_cf468 rfl rfl rfl (by decide +kernel) ⟨(Nat.le_of_ble_eq_true rfl), (Nat.le_of_ble_eq_true rfl)⟩) ⟨Wd.blind, va_recv hK hPc (ci := 1) (q0 := 0) rfl rfl, fun U hU hW => ⟨rfl, Wd.call hPc hDc hK hC hZ hS hFc U hU hW⟩⟩ rfl rfl hl.1 rfl (lv_room (Nat.le_of_ble_eq_true rfl)) dX8_appendTo_21 ⟨(Nat.le_of_ble_eq_true rfl), (Nat.le_of_ble_eq_true rfl)⟩) hS (fun q _ h => hFc q h) hFc (fun u ra t H1 locs ht hvm hw hB hz1 hk1 hS => ?_)
            obtain ⟨hra, qn58, qn59, fn60, hn61, hn62, hn63, hP1, hD1⟩ := hB
            obtain rfl := hra.symm
            rw [ht] at hP1
            obtain ⟨hP, hD⟩ := PDq.join (w := [(oJ4 o0 qn58 0 mb (nI (((((ct + 1) + 1) + 1) + 1) + 1))), (qn58, .inl (cA 3, qn59, .inl fn60))]) 0 hP hD [0, 1] [] rfl rfl (by decide) (by decide) hk1 hFc hP1 hD1 rfl
            generalize H1 = H at hP hS ⊢
            refine lv_pop hx hb dX8_appendTo_24 rfl ?_
            refine lv_iinc (v := 5) (lv' := [(4, .int 5), (3, .int (nI kn2)), (0, .ref o0), (1, .long w)]) hx hb dX8_appendTo_25 hl (k := 0) rfl (by first | rfl | decide +kernel) (by decide) rfl (fun ls hl => ?_)
            refine lv_goto (tgt := 8) hx hb dX8_appendTo_28 (by decide) ?_
            refine lv_iload hx hb dX8_appendTo_8 (lv_at hl 0 rfl) ?_
            refine lv_iload_n hx hb dX8_appendTo_10 rfl (lv_at hl 1 rfl) ?_
            refine lv_icmp_ge (tgt := 31) hx hb dX8_appendTo_11 (by decide) (fun c64 => ?_) (fun c64 => ?_)
            · skip
              have hn65 : kn2 ≤ 5 := (nI_leI (a := kn2) (b := 5) (by omega) (by omega)).mp c64
              obtain ⟨hP9, hD9⟩ := PDq.sub (ws' := [(oJ4 o0 qn58 0 mb (nI (((((ct + 1) + 1) + 1) + 1) + 1))), (qn58, .inl (cA 3, qn59, .inl fn60))]) hP hD [0, 1] (by decide) rfl
              refine W.widen (k := 9) (n := 2340) (Nat.le_of_ble_eq_true rfl) (Nat.le_of_ble_eq_true rfl) ?_
              exact (W.vret hx hb hr (fun t ht hW => ⟨⟨(), rfl, trivial, qn58, qn59, fn60, (((((ct + 1) + 1) + 1) + 1) + 1), (by omega), (by omega), hn62, hn63, by rw [ht]; exact hP9, hD9⟩, hS.F ht⟩) hS.2.2 dX8_appendTo_31)
            · skip
              have hn66 : 5 < kn2 := Nat.lt_of_not_le (fun h9 => c64 (nI_le (a := kn2) (b := 5) h9 (by omega)))
              refine lv_aload_n hx hb dX8_appendTo_14 rfl (lv_at hl 2 rfl) ?_
              refine lv_lload_n hx hb dX8_appendTo_15 rfl (lv_at hl 3 rfl) ?_
              refine lv_iload hx hb dX8_appendTo_16 (lv_at hl 0 rfl) ?_
              obtain ⟨hPc, hDc, hFc⟩ := PDq.cut (wc := []) hP hD hS hA [] (by decide) rfl
              refine va_calli (va_runS (As := [.long w, .int 5]) (rest := [.ref o0]) ⟨hx, hb, hml, hown, hts⟩ (s_letterAt l D cA sa w 5 H.size) (va_cwS 2 hts gX8_appendTo_X8_letterAt rfl rfl rfl (by decide +kernel) ⟨(Nat.le_of_ble_eq_true rfl), (Nat.le_of_ble_eq_true rfl)⟩) ⟨Wd.blind, fun U hU hW => ⟨rfl, Wd.call hPc hDc hK hC hZ hS hFc U hU hW⟩⟩ rfl rfl hl.1 rfl (lv_room (Nat.le_of_ble_eq_true rfl)) dX8_appendTo_18 ⟨(Nat.le_of_ble_eq_true rfl), (Nat.le_of_ble_eq_true rfl)⟩) hS (fun q _ h => hFc q h) hFc (fun rn67 u t H1 locs ht hvm hw hB hz1 hk1 hS => ?_)
              obtain ⟨hP1, hD1⟩ := hB
              rw [ht] at hP1
              obtain ⟨hP, hD⟩ := PDq.join (w := [(oJ4 o0 qn58 0 mb (nI (((((ct + 1) + 1) + 1) + 1) + 1))), (qn58, .inl (cA 3, qn59, .inl fn60))]) 2 hP hD [] [0, 1] rfl rfl (by decide) (by decide) hk1 hFc hP1 hD1 rfl
              generalize H1 = H at hP hS ⊢
              obtain ⟨kn68, hn69, hr9⟩ := hw
              subst hr9
              obtain ⟨hPc, hDc, hFc⟩ := PDq.cut (wc := [(oJ4 o0 qn58 0 mb (nI (((((ct + 1) + 1) + 1) + 1) + 1))), (qn58, .inl (cA 3, qn59, .inl fn60))]) hP hD hS hA [0, 1] (by decide) rfl
              refine va_callr (va_runV (As := [.int (nI kn68)]) (rest := []) ⟨hx, hb, hml, hown, hts⟩ (j_appendC l D cA sa o0 qn58 (((((ct + 1) + 1) + 1) + 1) + 1) qn59 mb fn60 kn68 H.size (by omega) hn62 hn63 hn69 (by omega)) (cwV 1 hts gX8_appendTo_J4_append_cf468 rfl rfl rfl (by decide +kernel) ⟨(Nat.le_of_ble_eq_true rfl), (Nat.le_of_ble_eq_true rfl)⟩) ⟨Wd.blind, va_recv hK hPc (ci := 1) (q0 := 0) rfl rfl, fun U hU hW => ⟨rfl, Wd.call hPc hDc hK hC hZ hS hFc U hU hW⟩⟩ rfl rfl hl.1 rfl (lv_room (Nat.le_of_ble_eq_true rfl)) dX8_appendTo_21 ⟨(Nat.le_of_ble_eq_true rfl), (Nat.le_of_ble_eq_true rfl)⟩) hS (fun q _ h => hFc q h) hFc (fun u ra t H1 locs ht hvm hw hB hz1 hk1 hS => ?_)
              obtain ⟨hra, qn70, qn71, fn72, hn73, hn74, hn75, hP1, hD1⟩ := hB
              obtain rfl := hra.symm
              rw [ht] at hP1
              obtain ⟨hP, hD⟩ := PDq.join (w := [(oJ4 o0 qn70 0 mb (nI ((((((ct + 1) + 1) + 1) + 1) + 1) + 1))), (qn70, .inl (cA 3, qn71, .inl fn72))]) 0 hP hD [0, 1] [] rfl rfl (by decide) (by decide) hk1 hFc hP1 hD1 rfl
              generalize H1 = H at hP hS ⊢
              refine lv_pop hx hb dX8_appendTo_24 rfl ?_
              refine lv_iinc (v := 6) (lv' := [(4, .int 6), (3, .int (nI kn2)), (0, .ref o0), (1, .long w)]) hx hb dX8_appendTo_25 hl (k := 0) rfl (by first | rfl | decide +kernel) (by decide) rfl (fun ls hl => ?_)
              refine lv_goto (tgt := 8) hx hb dX8_appendTo_28 (by decide) ?_
              refine lv_iload hx hb dX8_appendTo_8 (lv_at hl 0 rfl) ?_
              refine lv_iload_n hx hb dX8_appendTo_10 rfl (lv_at hl 1 rfl) ?_
              refine lv_icmp_ge (tgt := 31) hx hb dX8_appendTo_11 (by decide) (fun c76 => ?_) (fun c76 => ?_)
              · skip
                have hn77 : kn2 ≤ 6 := (nI_leI (a := kn2) (b := 6) (by omega) (by omega)).mp c76
                obtain ⟨hP9, hD9⟩ := PDq.sub (ws' := [(oJ4 o0 qn70 0 mb (nI ((((((ct + 1) + 1) + 1) + 1) + 1) + 1))), (qn70, .inl (cA 3, qn71, .inl fn72))]) hP hD [0, 1] (by decide) rfl
                refine W.widen (k := 9) (n := 2340) (Nat.le_of_ble_eq_true rfl) (Nat.le_of_ble_eq_true rfl) ?_
                exact (W.vret hx hb hr (fun t ht hW => ⟨⟨(), rfl, trivial, qn70, qn71, fn72, ((((((ct + 1) + 1) + 1) + 1) + 1) + 1), (by omega), (by omega), hn74, hn75, by rw [ht]; exact hP9, hD9⟩, hS.F ht⟩) hS.2.2 dX8_appendTo_31)
              · skip
                have hn78 : 6 < kn2 := Nat.lt_of_not_le (fun h9 => c76 (nI_le (a := kn2) (b := 6) h9 (by omega)))
                refine lv_aload_n hx hb dX8_appendTo_14 rfl (lv_at hl 2 rfl) ?_
                refine lv_lload_n hx hb dX8_appendTo_15 rfl (lv_at hl 3 rfl) ?_
                refine lv_iload hx hb dX8_appendTo_16 (lv_at hl 0 rfl) ?_
                obtain ⟨hPc, hDc, hFc⟩ := PDq.cut (wc := []) hP hD hS hA [] (by decide) rfl
                refine va_calli (va_runS (As := [.long w, .int 6]) (rest := [.ref o0]) ⟨hx, hb, hml, hown, hts⟩ (s_letterAt l D cA sa w 6 H.size) (va_cwS 2 hts gX8_appendTo_X8_letterAt rfl rfl rfl (by decide +kernel) ⟨(Nat.le_of_ble_eq_true rfl), (Nat.le_of_ble_eq_true rfl)⟩) ⟨Wd.blind, fun U hU hW => ⟨rfl, Wd.call hPc hDc hK hC hZ hS hFc U hU hW⟩⟩ rfl rfl hl.1 rfl (lv_room (Nat.le_of_ble_eq_true rfl)) dX8_appendTo_18 ⟨(Nat.le_of_ble_eq_true rfl), (Nat.le_of_ble_eq_true rfl)⟩) hS (fun q _ h => hFc q h) hFc (fun rn79 u t H1 locs ht hvm hw hB hz1 hk1 hS => ?_)
                obtain ⟨hP1, hD1⟩ := hB
                rw [ht] at hP1
                obtain ⟨hP, hD⟩ := PDq.join (w := [(oJ4 o0 qn70 0 mb (nI ((((((ct + 1) + 1) + 1) + 1) + 1) + 1))), (qn70, .inl (cA 3, qn71, .inl fn72))]) 2 hP hD [] [0, 1] rfl rfl (by decide) (by decide) hk1 hFc hP1 hD1 rfl
                generalize H1 = H at hP hS ⊢
                obtain ⟨kn80, hn81, hr9⟩ := hw
                subst hr9
                obtain ⟨hPc, hDc, hFc⟩ := PDq.cut (wc := [(oJ4 o0 qn70 0 mb (nI ((((((ct + 1) + 1) + 1) + 1) + 1) + 1))), (qn70, .inl (cA 3, qn71, .inl fn72))]) hP hD hS hA [0, 1] (by decide) rfl
                refine va_callr (va_runV (As := [.int (nI kn80)]) (rest := []) ⟨hx, hb, hml, hown, hts⟩ (j_appendC l D cA sa o0 qn70 ((((((ct + 1) + 1) + 1) + 1) + 1) + 1) qn71 mb fn72 kn80 H.size (by omega) hn74 hn75 hn81 (by omega)) (cwV 1 hts gX8_appendTo_J4_append_cf468 rfl rfl rfl (by decide +kernel) ⟨(Nat.le_of_ble_eq_true rfl), (Nat.le_of_ble_eq_true rfl)⟩) ⟨Wd.blind, va_recv hK hPc (ci := 1) (q0 := 0) rfl rfl, fun U hU hW => ⟨rfl, Wd.call hPc hDc hK hC hZ hS hFc U hU hW⟩⟩ rfl rfl hl.1 rfl (lv_room (Nat.le_of_ble_eq_true rfl)) dX8_appendTo_21 ⟨(Nat.le_of_ble_eq_true rfl), (Nat.le_of_ble_eq_true rfl)⟩) hS (fun q _ h => hFc q h) hFc (fun u ra t H1 locs ht hvm hw hB hz1 hk1 hS => ?_)
                obtain ⟨hra, qn82, qn83, fn84, hn85, hn86, hn87, hP1, hD1⟩ := hB
                obtain rfl := hra.symm
                rw [ht] at hP1
                obtain ⟨hP, hD⟩ := PDq.join (w := [(oJ4 o0 qn82 0 mb (nI (((((((ct + 1) + 1) + 1) + 1) + 1) + 1) + 1))), (qn82, .inl (cA 3, qn83, .inl fn84))]) 0 hP hD [0, 1] [] rfl rfl (by decide) (by decide) hk1 hFc hP1 hD1 rfl
                generalize H1 = H at hP hS ⊢
                refine lv_pop hx hb dX8_appendTo_24 rfl ?_
                refine lv_iinc (v := 7) (lv' := [(4, .int 7), (3, .int (nI kn2)), (0, .ref o0), (1, .long w)]) hx hb dX8_appendTo_25 hl (k := 0) rfl (by first | rfl | decide +kernel) (by decide) rfl (fun ls hl => ?_)
                refine lv_goto (tgt := 8) hx hb dX8_appendTo_28 (by decide) ?_
                refine lv_iload hx hb dX8_appendTo_8 (lv_at hl 0 rfl) ?_
                refine lv_iload_n hx hb dX8_appendTo_10 rfl (lv_at hl 1 rfl) ?_
                refine lv_icmp_ge (tgt := 31) hx hb dX8_appendTo_11 (by decide) (fun c88 => ?_) (fun c88 => ?_)
                · skip
                  have hn89 : kn2 ≤ 7 := (nI_leI (a := kn2) (b := 7) (by omega) (by omega)).mp c88
                  obtain ⟨hP9, hD9⟩ := PDq.sub (ws' := [(oJ4 o0 qn82 0 mb (nI (((((((ct + 1) + 1) + 1) + 1) + 1) + 1) + 1))), (qn82, .inl (cA 3, qn83, .inl fn84))]) hP hD [0, 1] (by decide) rfl
                  refine W.widen (k := 9) (n := 2340) (Nat.le_of_ble_eq_true rfl) (Nat.le_of_ble_eq_true rfl) ?_
                  exact (W.vret hx hb hr (fun t ht hW => ⟨⟨(), rfl, trivial, qn82, qn83, fn84, (((((((ct + 1) + 1) + 1) + 1) + 1) + 1) + 1), (by omega), (by omega), hn86, hn87, by rw [ht]; exact hP9, hD9⟩, hS.F ht⟩) hS.2.2 dX8_appendTo_31)
                · skip
                  have hn90 : 7 < kn2 := Nat.lt_of_not_le (fun h9 => c88 (nI_le (a := kn2) (b := 7) h9 (by omega)))
                  refine lv_aload_n hx hb dX8_appendTo_14 rfl (lv_at hl 2 rfl) ?_
                  refine lv_lload_n hx hb dX8_appendTo_15 rfl (lv_at hl 3 rfl) ?_
                  refine lv_iload hx hb dX8_appendTo_16 (lv_at hl 0 rfl) ?_
                  obtain ⟨hPc, hDc, hFc⟩ := PDq.cut (wc := []) hP hD hS hA [] (by decide) rfl
                  refine va_calli (va_runS (As := [.long w, .int 7]) (rest := [.ref o0]) ⟨hx, hb, hml, hown, hts⟩ (s_letterAt l D cA sa w 7 H.size) (va_cwS 2 hts gX8_appendTo_X8_letterAt rfl rfl rfl (by decide +kernel) ⟨(Nat.le_of_ble_eq_true rfl), (Nat.le_of_ble_eq_true rfl)⟩) ⟨Wd.blind, fun U hU hW => ⟨rfl, Wd.call hPc hDc hK hC hZ hS hFc U hU hW⟩⟩ rfl rfl hl.1 rfl (lv_room (Nat.le_of_ble_eq_true rfl)) dX8_appendTo_18 ⟨(Nat.le_of_ble_eq_true rfl), (Nat.le_of_ble_eq_true rfl)⟩) hS (fun q _ h => hFc q h) hFc (fun rn91 u t H1 locs ht hvm hw hB hz1 hk1 hS => ?_)
                  obtain ⟨hP1, hD1⟩ := hB
                  rw [ht] at hP1
                  obtain ⟨hP, hD⟩ := PDq.join (w := [(oJ4 o0 qn82 0 mb (nI (((((((ct + 1) + 1) + 1) + 1) + 1) + 1) + 1))), (qn82, .inl (cA 3, qn83, .inl fn84))]) 2 hP hD [] [0, 1] rfl rfl (by decide) (by decide) hk1 hFc hP1 hD1 rfl
                  generalize H1 = H at hP hS ⊢
                  obtain ⟨kn92, hn93, hr9⟩ := hw
                  subst hr9
                  obtain ⟨hPc, hDc, hFc⟩ := PDq.cut (wc := [(oJ4 o0 qn82 0 mb (nI (((((((ct + 1) + 1) + 1) + 1) + 1) + 1) + 1))), (qn82, .inl (cA 3, qn83, .inl fn84))]) hP hD hS hA [0, 1] (by decide) rfl
                  refine va_callr (va_runV (As := [.int (nI kn92)]) (rest := []) ⟨hx, hb, hml, hown, hts⟩ (j_appendC l D cA sa o0 qn82 (((((((ct + 1) + 1) + 1) + 1) + 1) + 1) + 1) qn83 mb fn84 kn92 H.size (by omega) hn86 hn87 hn93 (by omega)) (cwV 1 hts gX8_appendTo_J4_append_cf468 rfl rfl rfl (by decide +kernel) ⟨(Nat.le_of_ble_eq_true rfl), (Nat.le_of_ble_eq_true rfl)⟩) ⟨Wd.blind, va_recv hK hPc (ci := 1) (q0 := 0) rfl rfl, fun U hU hW => ⟨rfl, Wd.call hPc hDc hK hC hZ hS hFc U hU hW⟩⟩ rfl rfl hl.1 rfl (lv_room (Nat.le_of_ble_eq_true rfl)) dX8_appendTo_21 ⟨(Nat.le_of_ble_eq_true rfl), (Nat.le_of_ble_eq_true rfl)⟩) hS (fun q _ h => hFc q h) hFc (fun u ra t H1 locs ht hvm hw hB hz1 hk1 hS => ?_)
                  obtain ⟨hra, qn94, qn95, fn96, hn97, hn98, hn99, hP1, hD1⟩ := hB
                  obtain rfl := hra.symm
                  rw [ht] at hP1
                  obtain ⟨hP, hD⟩ := PDq.join (w := [(oJ4 o0 qn94 0 mb (nI ((((((((ct + 1) + 1) + 1) + 1) + 1) + 1) + 1) + 1))), (qn94, .inl (cA 3, qn95, .inl fn96))]) 0 hP hD [0, 1] [] rfl rfl (by decide) (by decide) hk1 hFc hP1 hD1 rfl
                  generalize H1 = H at hP hS ⊢
                  refine lv_pop hx hb dX8_appendTo_24 rfl ?_
                  refine lv_iinc (v := 8) (lv' := [(4, .int 8), (3, .int (nI kn2)), (0, .ref o0), (1, .long w)]) hx hb dX8_appendTo_25 hl (k := 0) rfl (by first | rfl | decide +kernel) (by decide) rfl (fun ls hl => ?_)
                  refine lv_goto (tgt := 8) hx hb dX8_appendTo_28 (by decide) ?_
                  refine lv_iload hx hb dX8_appendTo_8 (lv_at hl 0 rfl) ?_
                  refine lv_iload_n hx hb dX8_appendTo_10 rfl (lv_at hl 1 rfl) ?_
                  refine lv_icmp_ge (tgt := 31) hx hb dX8_appendTo_11 (by decide) (fun c100 => ?_) (fun c100 => ?_)
                  · skip
                    have hn101 : kn2 ≤ 8 := (nI_leI (a := kn2) (b := 8) (by omega) (by omega)).mp c100
                    obtain ⟨hP9, hD9⟩ := PDq.sub (ws' := [(oJ4 o0 qn94 0 mb (nI ((((((((ct + 1) + 1) + 1) + 1) + 1) + 1) + 1) + 1))), (qn94, .inl (cA 3, qn95, .inl fn96))]) hP hD [0, 1] (by decide) rfl
                    refine W.widen (k := 9) (n := 2340) (Nat.le_of_ble_eq_true rfl) (Nat.le_of_ble_eq_true rfl) ?_
                    exact (W.vret hx hb hr (fun t ht hW => ⟨⟨(), rfl, trivial, qn94, qn95, fn96, ((((((((ct + 1) + 1) + 1) + 1) + 1) + 1) + 1) + 1), (by omega), (by omega), hn98, hn99, by rw [ht]; exact hP9, hD9⟩, hS.F ht⟩) hS.2.2 dX8_appendTo_31)
                  · skip
                    have hn102 : 8 < kn2 := Nat.lt_of_not_le (fun h9 => c100 (nI_le (a := kn2) (b := 8) h9 (by omega)))
                    refine lv_aload_n hx hb dX8_appendTo_14 rfl (lv_at hl 2 rfl) ?_
                    refine lv_lload_n hx hb dX8_appendTo_15 rfl (lv_at hl 3 rfl) ?_
                    refine lv_iload hx hb dX8_appendTo_16 (lv_at hl 0 rfl) ?_
                    obtain ⟨hPc, hDc, hFc⟩ := PDq.cut (wc := []) hP hD hS hA [] (by decide) rfl
                    refine va_calli (va_runS (As := [.long w, .int 8]) (rest := [.ref o0]) ⟨hx, hb, hml, hown, hts⟩ (s_letterAt l D cA sa w 8 H.size) (va_cwS 2 hts gX8_appendTo_X8_letterAt rfl rfl rfl (by decide +kernel) ⟨(Nat.le_of_ble_eq_true rfl), (Nat.le_of_ble_eq_true rfl)⟩) ⟨Wd.blind, fun U hU hW => ⟨rfl, Wd.call hPc hDc hK hC hZ hS hFc U hU hW⟩⟩ rfl rfl hl.1 rfl (lv_room (Nat.le_of_ble_eq_true rfl)) dX8_appendTo_18 ⟨(Nat.le_of_ble_eq_true rfl), (Nat.le_of_ble_eq_true rfl)⟩) hS (fun q _ h => hFc q h) hFc (fun rn103 u t H1 locs ht hvm hw hB hz1 hk1 hS => ?_)
                    obtain ⟨hP1, hD1⟩ := hB
                    rw [ht] at hP1
                    obtain ⟨hP, hD⟩ := PDq.join (w := [(oJ4 o0 qn94 0 mb (nI ((((((((ct + 1) + 1) + 1) + 1) + 1) + 1) + 1) + 1))), (qn94, .inl (cA 3, qn95, .inl fn96))]) 2 hP hD [] [0, 1] rfl rfl (by decide) (by decide) hk1 hFc hP1 hD1 rfl
                    generalize H1 = H at hP hS ⊢
                    obtain ⟨kn104, hn105, hr9⟩ := hw
                    subst hr9
                    obtain ⟨hPc, hDc, hFc⟩ := PDq.cut (wc := [(oJ4 o0 qn94 0 mb (nI ((((((((ct + 1) + 1) + 1) + 1) + 1) + 1) + 1) + 1))), (qn94, .inl (cA 3, qn95, .inl fn96))]) hP hD hS hA [0, 1] (by decide) rfl
                    refine va_callr (va_runV (As := [.int (nI kn104)]) (rest := []) ⟨hx, hb, hml, hown, hts⟩ (j_appendC l D cA sa o0 qn94 ((((((((ct + 1) + 1) + 1) + 1) + 1) + 1) + 1) + 1) qn95 mb fn96 kn104 H.size (by omega) hn98 hn99 hn105 (by omega)) (cwV 1 hts gX8_appendTo_J4_append_cf468 rfl rfl rfl (by decide +kernel) ⟨(Nat.le_of_ble_eq_true rfl), (Nat.le_of_ble_eq_true rfl)⟩) ⟨Wd.blind, va_recv hK hPc (ci := 1) (q0 := 0) rfl rfl, fun U hU hW => ⟨rfl, Wd.call hPc hDc hK hC hZ hS hFc U hU hW⟩⟩ rfl rfl hl.1 rfl (lv_room (Nat.le_of_ble_eq_true rfl)) dX8_appendTo_21 ⟨(Nat.le_of_ble_eq_true rfl), (Nat.le_of_ble_eq_true rfl)⟩) hS (fun q _ h => hFc q h) hFc (fun u ra t H1 locs ht hvm hw hB hz1 hk1 hS => ?_)
                    obtain ⟨hra, qn106, qn107, fn108, hn109, hn110, hn111, hP1, hD1⟩ := hB
                    obtain rfl := hra.symm
                    rw [ht] at hP1
                    obtain ⟨hP, hD⟩ := PDq.join (w := [(oJ4 o0 qn106 0 mb (nI (((((((((ct + 1) + 1) + 1) + 1) + 1) + 1) + 1) + 1) + 1))), (qn106, .inl (cA 3, qn107, .inl fn108))]) 0 hP hD [0, 1] [] rfl rfl (by decide) (by decide) hk1 hFc hP1 hD1 rfl
                    generalize H1 = H at hP hS ⊢
                    refine lv_pop hx hb dX8_appendTo_24 rfl ?_
                    refine lv_iinc (v := 9) (lv' := [(4, .int 9), (3, .int (nI kn2)), (0, .ref o0), (1, .long w)]) hx hb dX8_appendTo_25 hl (k := 0) rfl (by first | rfl | decide +kernel) (by decide) rfl (fun ls hl => ?_)
                    refine lv_goto (tgt := 8) hx hb dX8_appendTo_28 (by decide) ?_
                    refine lv_iload hx hb dX8_appendTo_8 (lv_at hl 0 rfl) ?_
                    refine lv_iload_n hx hb dX8_appendTo_10 rfl (lv_at hl 1 rfl) ?_
                    refine lv_icmp_ge (tgt := 31) hx hb dX8_appendTo_11 (by decide) (fun c112 => ?_) (fun c9 => absurd (nI_le (a := kn2) (b := 9) (show kn2 ≤ 9 by omega) (by omega)) c9)
                    obtain ⟨hP9, hD9⟩ := PDq.sub (ws' := [(oJ4 o0 qn106 0 mb (nI (((((((((ct + 1) + 1) + 1) + 1) + 1) + 1) + 1) + 1) + 1))), (qn106, .inl (cA 3, qn107, .inl fn108))]) hP hD [0, 1] (by decide) rfl
                    refine W.widen (k := 9) (n := 2340) (Nat.le_of_ble_eq_true rfl) (Nat.le_of_ble_eq_true rfl) ?_
                    exact (W.vret hx hb hr (fun t ht hW => ⟨⟨(), rfl, trivial, qn106, qn107, fn108, (((((((((ct + 1) + 1) + 1) + 1) + 1) + 1) + 1) + 1) + 1), (by omega), (by omega), hn110, hn111, by rw [ht]; exact hP9, hD9⟩, hS.F ht⟩) hS.2.2 dX8_appendTo_31)

set_option maxHeartbeats 4000000 in
set_option maxRecDepth 100000 in
/-- State.spelling(0) -/
theorem s_spell0 (l : Launch) (D : va_G) (cA : Nat → ClassId) (sa : Nat → Nat)  (sz : Nat) : Met l yX6_spelling wsX6_spelling ({ frames := 0, cells := 0, slots := 0, locals := 0 }) (va_Pc [.int 0] (Wd D cA sa [] sz)) (va_Qr (fun _ : Unit => True) (fun (_ : Unit) (a9 : Nat) t => a9 = (sa 33) ∧ Wq D (va_A [] sz) [] t) (va_A [] sz)) 0 0 (va_A [] sz) := by
  refine Met.ofW (cc := cX6_spelling) (maxL := 1) (ret := (some (.object "java/lang/String"))) (by decide) rfl ?_
  intro p e s m args below meth c s₁ B hml hv
  obtain ⟨rfl, hsz, hP, hK, hD0, hC, hZ⟩ := hv
  have hx := B.exec
  have hb := B.bytes
  have hr := B.returns
  have hts := atoms_spec (ws := wsX6_spelling) B.pre
  have hown : s.vm.findClass RX6 = some m.cls := findClass_of_methodNamed B.named
  have hlocks := B.notSynchronized
  subst hsz
  have hD := hD0.self (sz := s.heap.size)
  generalize hAe : va_A [] s.heap.size = A at hD hZ ⊢
  have hA : ∀ q : Nat, s.heap.size ≤ q → A q := fun q h => by rw [← hAe]; exact Or.inr h
  have hS : va_S A s.heap s.heap [] := va_S.rf
  have hP : va_P D vwCl [] s.heap := hP
  have hl := lv_entry ([.int 0]) (n := 1) (Nat.le_of_ble_eq_true rfl)
  rw [lg_entry_eq]
  generalize (lg_sl ([.int 0]) ++ List.replicate (1 - (lg_sl ([.int 0])).length) Slot.unset).toArray = ls at hl ⊢
  have hl : lv_has ls 1 [(0, .int 0)] := hl
  refine lv_iload_n hx hb dX6_spelling_0 rfl (lv_at hl 0 rfl) ?_
  refine lv_tableIn (off := 35) (tgt := 36) hx hb dX6_spelling_1 (by decide) (by decide) (by decide) (by decide) ?_
  refine va_ldcS hx hb hown (hC.str 33 rfl) dX6_spelling_36 ?_
  obtain ⟨hP9, hD9⟩ := PDq.sub (ws' := []) hP hD [] (by decide) rfl
  refine W.widen (k := 0) (n := 0) (Nat.le_of_ble_eq_true rfl) (Nat.le_of_ble_eq_true rfl) ?_
  exact (W.aret (v := .ref (sa 33)) hx hb hr (Or.inl ⟨_, rfl⟩) (Or.inr ⟨_, rfl⟩) (fun t ht hW => ⟨⟨(), (sa 33), rfl, trivial, rfl, by rw [ht]; exact hP9, hD9⟩, hS.F ht⟩) hS.2.2 dX6_spelling_38)

set_option maxHeartbeats 4000000 in
set_option maxRecDepth 100000 in
/-- State.spelling(1) -/
theorem s_spell1 (l : Launch) (D : va_G) (cA : Nat → ClassId) (sa : Nat → Nat)  (sz : Nat) : Met l yX6_spelling wsX6_spelling ({ frames := 0, cells := 0, slots := 0, locals := 0 }) (va_Pc [.int 1] (Wd D cA sa [] sz)) (va_Qr (fun _ : Unit => True) (fun (_ : Unit) (a9 : Nat) t => a9 = (sa 34) ∧ Wq D (va_A [] sz) [] t) (va_A [] sz)) 0 0 (va_A [] sz) := by
  refine Met.ofW (cc := cX6_spelling) (maxL := 1) (ret := (some (.object "java/lang/String"))) (by decide) rfl ?_
  intro p e s m args below meth c s₁ B hml hv
  obtain ⟨rfl, hsz, hP, hK, hD0, hC, hZ⟩ := hv
  have hx := B.exec
  have hb := B.bytes
  have hr := B.returns
  have hts := atoms_spec (ws := wsX6_spelling) B.pre
  have hown : s.vm.findClass RX6 = some m.cls := findClass_of_methodNamed B.named
  have hlocks := B.notSynchronized
  subst hsz
  have hD := hD0.self (sz := s.heap.size)
  generalize hAe : va_A [] s.heap.size = A at hD hZ ⊢
  have hA : ∀ q : Nat, s.heap.size ≤ q → A q := fun q h => by rw [← hAe]; exact Or.inr h
  have hS : va_S A s.heap s.heap [] := va_S.rf
  have hP : va_P D vwCl [] s.heap := hP
  have hl := lv_entry ([.int 1]) (n := 1) (Nat.le_of_ble_eq_true rfl)
  rw [lg_entry_eq]
  generalize (lg_sl ([.int 1]) ++ List.replicate (1 - (lg_sl ([.int 1])).length) Slot.unset).toArray = ls at hl ⊢
  have hl : lv_has ls 1 [(0, .int 1)] := hl
  refine lv_iload_n hx hb dX6_spelling_0 rfl (lv_at hl 0 rfl) ?_
  refine lv_tableIn (off := 38) (tgt := 39) hx hb dX6_spelling_1 (by decide) (by decide) (by decide) (by decide) ?_
  refine va_ldcS hx hb hown (hC.str 34 rfl) dX6_spelling_39 ?_
  obtain ⟨hP9, hD9⟩ := PDq.sub (ws' := []) hP hD [] (by decide) rfl
  refine W.widen (k := 0) (n := 0) (Nat.le_of_ble_eq_true rfl) (Nat.le_of_ble_eq_true rfl) ?_
  exact (W.aret (v := .ref (sa 34)) hx hb hr (Or.inl ⟨_, rfl⟩) (Or.inr ⟨_, rfl⟩) (fun t ht hW => ⟨⟨(), (sa 34), rfl, trivial, rfl, by rw [ht]; exact hP9, hD9⟩, hS.F ht⟩) hS.2.2 dX6_spelling_41)

set_option maxHeartbeats 4000000 in
set_option maxRecDepth 100000 in
/-- State.spelling(2) -/
theorem s_spell2 (l : Launch) (D : va_G) (cA : Nat → ClassId) (sa : Nat → Nat)  (sz : Nat) : Met l yX6_spelling wsX6_spelling ({ frames := 0, cells := 0, slots := 0, locals := 0 }) (va_Pc [.int 2] (Wd D cA sa [] sz)) (va_Qr (fun _ : Unit => True) (fun (_ : Unit) (a9 : Nat) t => a9 = (sa 35) ∧ Wq D (va_A [] sz) [] t) (va_A [] sz)) 0 0 (va_A [] sz) := by
  refine Met.ofW (cc := cX6_spelling) (maxL := 1) (ret := (some (.object "java/lang/String"))) (by decide) rfl ?_
  intro p e s m args below meth c s₁ B hml hv
  obtain ⟨rfl, hsz, hP, hK, hD0, hC, hZ⟩ := hv
  have hx := B.exec
  have hb := B.bytes
  have hr := B.returns
  have hts := atoms_spec (ws := wsX6_spelling) B.pre
  have hown : s.vm.findClass RX6 = some m.cls := findClass_of_methodNamed B.named
  have hlocks := B.notSynchronized
  subst hsz
  have hD := hD0.self (sz := s.heap.size)
  generalize hAe : va_A [] s.heap.size = A at hD hZ ⊢
  have hA : ∀ q : Nat, s.heap.size ≤ q → A q := fun q h => by rw [← hAe]; exact Or.inr h
  have hS : va_S A s.heap s.heap [] := va_S.rf
  have hP : va_P D vwCl [] s.heap := hP
  have hl := lv_entry ([.int 2]) (n := 1) (Nat.le_of_ble_eq_true rfl)
  rw [lg_entry_eq]
  generalize (lg_sl ([.int 2]) ++ List.replicate (1 - (lg_sl ([.int 2])).length) Slot.unset).toArray = ls at hl ⊢
  have hl : lv_has ls 1 [(0, .int 2)] := hl
  refine lv_iload_n hx hb dX6_spelling_0 rfl (lv_at hl 0 rfl) ?_
  refine lv_tableIn (off := 41) (tgt := 42) hx hb dX6_spelling_1 (by decide) (by decide) (by decide) (by decide) ?_
  refine va_ldcS hx hb hown (hC.str 35 rfl) dX6_spelling_42 ?_
  obtain ⟨hP9, hD9⟩ := PDq.sub (ws' := []) hP hD [] (by decide) rfl
  refine W.widen (k := 0) (n := 0) (Nat.le_of_ble_eq_true rfl) (Nat.le_of_ble_eq_true rfl) ?_
  exact (W.aret (v := .ref (sa 35)) hx hb hr (Or.inl ⟨_, rfl⟩) (Or.inr ⟨_, rfl⟩) (fun t ht hW => ⟨⟨(), (sa 35), rfl, trivial, rfl, by rw [ht]; exact hP9, hD9⟩, hS.F ht⟩) hS.2.2 dX6_spelling_44)

set_option maxHeartbeats 4000000 in
set_option maxRecDepth 100000 in
/-- State.spelling(3) -/
theorem s_spell3 (l : Launch) (D : va_G) (cA : Nat → ClassId) (sa : Nat → Nat)  (sz : Nat) : Met l yX6_spelling wsX6_spelling ({ frames := 0, cells := 0, slots := 0, locals := 0 }) (va_Pc [.int 3] (Wd D cA sa [] sz)) (va_Qr (fun _ : Unit => True) (fun (_ : Unit) (a9 : Nat) t => a9 = (sa 36) ∧ Wq D (va_A [] sz) [] t) (va_A [] sz)) 0 0 (va_A [] sz) := by
  refine Met.ofW (cc := cX6_spelling) (maxL := 1) (ret := (some (.object "java/lang/String"))) (by decide) rfl ?_
  intro p e s m args below meth c s₁ B hml hv
  obtain ⟨rfl, hsz, hP, hK, hD0, hC, hZ⟩ := hv
  have hx := B.exec
  have hb := B.bytes
  have hr := B.returns
  have hts := atoms_spec (ws := wsX6_spelling) B.pre
  have hown : s.vm.findClass RX6 = some m.cls := findClass_of_methodNamed B.named
  have hlocks := B.notSynchronized
  subst hsz
  have hD := hD0.self (sz := s.heap.size)
  generalize hAe : va_A [] s.heap.size = A at hD hZ ⊢
  have hA : ∀ q : Nat, s.heap.size ≤ q → A q := fun q h => by rw [← hAe]; exact Or.inr h
  have hS : va_S A s.heap s.heap [] := va_S.rf
  have hP : va_P D vwCl [] s.heap := hP
  have hl := lv_entry ([.int 3]) (n := 1) (Nat.le_of_ble_eq_true rfl)
  rw [lg_entry_eq]
  generalize (lg_sl ([.int 3]) ++ List.replicate (1 - (lg_sl ([.int 3])).length) Slot.unset).toArray = ls at hl ⊢
  have hl : lv_has ls 1 [(0, .int 3)] := hl
  refine lv_iload_n hx hb dX6_spelling_0 rfl (lv_at hl 0 rfl) ?_
  refine lv_tableIn (off := 44) (tgt := 45) hx hb dX6_spelling_1 (by decide) (by decide) (by decide) (by decide) ?_
  refine va_ldcS hx hb hown (hC.str 36 rfl) dX6_spelling_45 ?_
  obtain ⟨hP9, hD9⟩ := PDq.sub (ws' := []) hP hD [] (by decide) rfl
  refine W.widen (k := 0) (n := 0) (Nat.le_of_ble_eq_true rfl) (Nat.le_of_ble_eq_true rfl) ?_
  exact (W.aret (v := .ref (sa 36)) hx hb hr (Or.inl ⟨_, rfl⟩) (Or.inr ⟨_, rfl⟩) (fun t ht hW => ⟨⟨(), (sa 36), rfl, trivial, rfl, by rw [ht]; exact hP9, hD9⟩, hS.F ht⟩) hS.2.2 dX6_spelling_47)

set_option maxHeartbeats 4000000 in
set_option maxRecDepth 100000 in
/-- State.spelling(4) -/
theorem s_spell4 (l : Launch) (D : va_G) (cA : Nat → ClassId) (sa : Nat → Nat)  (sz : Nat) : Met l yX6_spelling wsX6_spelling ({ frames := 0, cells := 0, slots := 0, locals := 0 }) (va_Pc [.int 4] (Wd D cA sa [] sz)) (va_Qr (fun _ : Unit => True) (fun (_ : Unit) (a9 : Nat) t => a9 = (sa 37) ∧ Wq D (va_A [] sz) [] t) (va_A [] sz)) 0 0 (va_A [] sz) := by
  refine Met.ofW (cc := cX6_spelling) (maxL := 1) (ret := (some (.object "java/lang/String"))) (by decide) rfl ?_
  intro p e s m args below meth c s₁ B hml hv
  obtain ⟨rfl, hsz, hP, hK, hD0, hC, hZ⟩ := hv
  have hx := B.exec
  have hb := B.bytes
  have hr := B.returns
  have hts := atoms_spec (ws := wsX6_spelling) B.pre
  have hown : s.vm.findClass RX6 = some m.cls := findClass_of_methodNamed B.named
  have hlocks := B.notSynchronized
  subst hsz
  have hD := hD0.self (sz := s.heap.size)
  generalize hAe : va_A [] s.heap.size = A at hD hZ ⊢
  have hA : ∀ q : Nat, s.heap.size ≤ q → A q := fun q h => by rw [← hAe]; exact Or.inr h
  have hS : va_S A s.heap s.heap [] := va_S.rf
  have hP : va_P D vwCl [] s.heap := hP
  have hl := lv_entry ([.int 4]) (n := 1) (Nat.le_of_ble_eq_true rfl)
  rw [lg_entry_eq]
  generalize (lg_sl ([.int 4]) ++ List.replicate (1 - (lg_sl ([.int 4])).length) Slot.unset).toArray = ls at hl ⊢
  have hl : lv_has ls 1 [(0, .int 4)] := hl
  refine lv_iload_n hx hb dX6_spelling_0 rfl (lv_at hl 0 rfl) ?_
  refine lv_tableIn (off := 47) (tgt := 48) hx hb dX6_spelling_1 (by decide) (by decide) (by decide) (by decide) ?_
  refine va_ldcS hx hb hown (hC.str 37 rfl) dX6_spelling_48 ?_
  obtain ⟨hP9, hD9⟩ := PDq.sub (ws' := []) hP hD [] (by decide) rfl
  refine W.widen (k := 0) (n := 0) (Nat.le_of_ble_eq_true rfl) (Nat.le_of_ble_eq_true rfl) ?_
  exact (W.aret (v := .ref (sa 37)) hx hb hr (Or.inl ⟨_, rfl⟩) (Or.inr ⟨_, rfl⟩) (fun t ht hW => ⟨⟨(), (sa 37), rfl, trivial, rfl, by rw [ht]; exact hP9, hD9⟩, hS.F ht⟩) hS.2.2 dX6_spelling_50)

set_option maxHeartbeats 4000000 in
set_option maxRecDepth 100000 in
/-- State.spelling, else -/
theorem s_spellX (l : Launch) (D : va_G) (cA : Nat → ClassId) (sa : Nat → Nat) (a : Int32) (sz : Nat) (h09 : ¬ a = 0) (h19 : ¬ a = 1) (h29 : ¬ a = 2) (h39 : ¬ a = 3) (h49 : ¬ a = 4) : Met l yX6_spelling wsX6_spelling ({ frames := 0, cells := 0, slots := 0, locals := 0 }) (va_Pc [.int a] (Wd D cA sa [] sz)) (va_Qr (fun _ : Unit => True) (fun (_ : Unit) (a9 : Nat) t => a9 = (sa 38) ∧ Wq D (va_A [] sz) [] t) (va_A [] sz)) 0 0 (va_A [] sz) := by
  refine Met.ofW (cc := cX6_spelling) (maxL := 1) (ret := (some (.object "java/lang/String"))) (by decide) rfl ?_
  intro p e s m args below meth c s₁ B hml hv
  obtain ⟨rfl, hsz, hP, hK, hD0, hC, hZ⟩ := hv
  have hx := B.exec
  have hb := B.bytes
  have hr := B.returns
  have hts := atoms_spec (ws := wsX6_spelling) B.pre
  have hown : s.vm.findClass RX6 = some m.cls := findClass_of_methodNamed B.named
  have hlocks := B.notSynchronized
  subst hsz
  have hD := hD0.self (sz := s.heap.size)
  generalize hAe : va_A [] s.heap.size = A at hD hZ ⊢
  have hA : ∀ q : Nat, s.heap.size ≤ q → A q := fun q h => by rw [← hAe]; exact Or.inr h
  have hS : va_S A s.heap s.heap [] := va_S.rf
  have hP : va_P D vwCl [] s.heap := hP
  have hl := lv_entry ([.int a]) (n := 1) (Nat.le_of_ble_eq_true rfl)
  rw [lg_entry_eq]
  generalize (lg_sl ([.int a]) ++ List.replicate (1 - (lg_sl ([.int a])).length) Slot.unset).toArray = ls at hl ⊢
  have hl : lv_has ls 1 [(0, .int a)] := hl
  refine lv_iload_n hx hb dX6_spelling_0 rfl (lv_at hl 0 rfl) ?_
  refine lv_tableOut (tgt := 51) hx hb dX6_spelling_1 (by have q0 : ¬ (a).toInt = 0 := fun e9 => h09 (Int32.toInt_inj.mp (e9.trans (by decide))); have q1 : ¬ (a).toInt = 1 := fun e9 => h19 (Int32.toInt_inj.mp (e9.trans (by decide))); have q2 : ¬ (a).toInt = 2 := fun e9 => h29 (Int32.toInt_inj.mp (e9.trans (by decide))); have q3 : ¬ (a).toInt = 3 := fun e9 => h39 (Int32.toInt_inj.mp (e9.trans (by decide))); have q4 : ¬ (a).toInt = 4 := fun e9 => h49 (Int32.toInt_inj.mp (e9.trans (by decide))); omega) (by decide) ?_
  refine va_ldcS hx hb hown (hC.str 38 rfl) dX6_spelling_51 ?_
  obtain ⟨hP9, hD9⟩ := PDq.sub (ws' := []) hP hD [] (by decide) rfl
  refine W.widen (k := 0) (n := 0) (Nat.le_of_ble_eq_true rfl) (Nat.le_of_ble_eq_true rfl) ?_
  exact (W.aret (v := .ref (sa 38)) hx hb hr (Or.inl ⟨_, rfl⟩) (Or.inr ⟨_, rfl⟩) (fun t ht hW => ⟨⟨(), (sa 38), rfl, trivial, rfl, by rw [ht]; exact hP9, hD9⟩, hS.F ht⟩) hS.2.2 dX6_spelling_53)

set_option maxHeartbeats 4000000 in
set_option maxRecDepth 100000 in
/-- write -/
theorem s_write (l : Launch) (D : va_G) (cA : Nat → ClassId) (sa : Nat → Nat) (h0 : Nat) (b0 : Nat) (nb : Nat) (p0 : Nat) (u0 : Nat) (r0 : Nat) (a0 : Nat) (t0 : Nat) (s0 : Nat) (o0 : Nat) (a1 : Nat) (a3 : Nat) (a4 : Nat) (a5 : Nat) (a6 : Nat) (i6 : Int32) (i7 : Int32) (i8 : Int32) (i12 : Int32) (i13 : Int32) (i14 : Int32) (i15 : Int32) (i16 : Int32) (i17 : Int32) (i18 : Int32) (i19 : Int32) (i9 : Int64) (i10 : Int64) (i11 : Int64) (p1 : Nat) (p2 : Nat) (p3 : Nat) (p4 : Nat) (p5 : Nat) (p6 : Nat) (p7 : Nat) (p8 : Nat) (p9 : Nat) (cn : Nat) (pq : Nat) (nd : Nat) (sc : Nat) (pr : Int32) (pb : Int32) (pe : Int32) (pg : Int32) (fs : Nat → Int32) (fp : Nat → Int32) (ff : Nat → Int32) (fd : Nat → Int32) (fam : Nat → Int32) (fna : Nat → Int64) (o1 : Nat) (ct : Nat) (cp : Nat) (mb : Int32) (fy : Nat → Int32) (i : Int32) (sz : Nat) (hl9 : l.stackTraces = false) (hcn : cn ≤ 10) (hpq : pq ≤ 8) (hnd : nd ≤ 6) (hsc : sc ≤ 350) (hct : ct ≤ cp) (hcp : cp ≤ 126) (hfit : sb_Fit fy) : vx_Met l yX9_write wsX9_write ({ frames := 8, cells := 19, slots := 4686, locals := 170 }) (va_Pc [.ref h0, .int i] (Wd2 D cA sa [(oX9 h0 b0 (nI nb) p0 u0 r0 a0 t0 s0 o0), (oX0 a0 p0 a1 a3 a4 a5 a6 i6 i7 i8 i9 i10 i11 i12 i13 i14 i15 i16 i17 i18 i19), (a3, .inl (cA 0, 10, .inl fs)), (a4, .inl (cA 0, 10, .inl fp)), (a5, .inl (cA 0, 10, .inl ff)), (a6, .inl (cA 0, 10, .inl fd)), (oX3 p0 pr pb pe pg p1 (nI nd) p2 p3 p4 p5 (nI cn) p6 (nI pq) p7 p8 p9 (nI sc)), (p2, .inl (cA 1, 10, .inr (.inl fna))), (p3, .inl (cA 0, 10, .inl fam)), (oJ4 o0 o1 0 mb (nI ct)), (o1, .inl (cA 3, cp, .inl fy))] sz)) (va_Qi (fun (r : Int32) (_ : Unit) => True) (fun (_ : Unit) t => ∃ z1 : Nat, ∃ cp2 : Nat, ∃ zy : Nat → Int32, ∃ ct2 : Nat, ∃ zm : Int32, ct2 ≤ cp2 ∧ ct2 ≤ 62 ∧ cp2 ≤ 126 ∧ sb_Fit zy ∧ Wq D (va_A [(oX9 h0 b0 (nI nb) p0 u0 r0 a0 t0 s0 o0), (oX0 a0 p0 a1 a3 a4 a5 a6 i6 i7 i8 i9 i10 i11 i12 i13 i14 i15 i16 i17 i18 i19), (a3, .inl (cA 0, 10, .inl fs)), (a4, .inl (cA 0, 10, .inl fp)), (a5, .inl (cA 0, 10, .inl ff)), (a6, .inl (cA 0, 10, .inl fd)), (oX3 p0 pr pb pe pg p1 (nI nd) p2 p3 p4 p5 (nI cn) p6 (nI pq) p7 p8 p9 (nI sc)), (p2, .inl (cA 1, 10, .inr (.inl fna))), (p3, .inl (cA 0, 10, .inl fam)), (oJ4 o0 o1 0 mb (nI ct)), (o1, .inl (cA 3, cp, .inl fy))] sz) [(oX9 h0 b0 (nI nb) p0 u0 r0 a0 t0 s0 o0), (oX0 a0 p0 a1 a3 a4 a5 a6 i6 i7 i8 i9 i10 i11 i12 i13 i14 i15 i16 i17 i18 i19), (a3, .inl (cA 0, 10, .inl fs)), (a4, .inl (cA 0, 10, .inl fp)), (a5, .inl (cA 0, 10, .inl ff)), (a6, .inl (cA 0, 10, .inl fd)), (oX3 p0 pr pb pe pg p1 (nI nd) p2 p3 p4 p5 (nI cn) p6 (nI pq) p7 p8 p9 (nI sc)), (p2, .inl (cA 1, 10, .inr (.inl fna))), (p3, .inl (cA 0, 10, .inl fam)), (oJ4 o0 z1 0 zm (nI ct2)), (z1, .inl (cA 3, cp2, .inl zy))] t) (va_A [(oX9 h0 b0 (nI nb) p0 u0 r0 a0 t0 s0 o0), (oX0 a0 p0 a1 a3 a4 a5 a6 i6 i7 i8 i9 i10 i11 i12 i13 i14 i15 i16 i17 i18 i19), (a3, .inl (cA 0, 10, .inl fs)), (a4, .inl (cA 0, 10, .inl fp)), (a5, .inl (cA 0, 10, .inl ff)), (a6, .inl (cA 0, 10, .inl fd)), (oX3 p0 pr pb pe pg p1 (nI nd) p2 p3 p4 p5 (nI cn) p6 (nI pq) p7 p8 p9 (nI sc)), (p2, .inl (cA 1, 10, .inr (.inl fna))), (p3, .inl (cA 0, 10, .inl fam)), (oJ4 o0 o1 0 mb (nI ct)), (o1, .inl (cA 3, cp, .inl fy))] sz)) (vx_X (fun _ : Unit => True) (fun E _ t => (E = "java/lang/IndexOutOfBoundsException") ∧ Wq D (va_A [(oX9 h0 b0 (nI nb) p0 u0 r0 a0 t0 s0 o0), (oX0 a0 p0 a1 a3 a4 a5 a6 i6 i7 i8 i9 i10 i11 i12 i13 i14 i15 i16 i17 i18 i19), (a3, .inl (cA 0, 10, .inl fs)), (a4, .inl (cA 0, 10, .inl fp)), (a5, .inl (cA 0, 10, .inl ff)), (a6, .inl (cA 0, 10, .inl fd)), (oX3 p0 pr pb pe pg p1 (nI nd) p2 p3 p4 p5 (nI cn) p6 (nI pq) p7 p8 p9 (nI sc)), (p2, .inl (cA 1, 10, .inr (.inl fna))), (p3, .inl (cA 0, 10, .inl fam)), (oJ4 o0 o1 0 mb (nI ct)), (o1, .inl (cA 3, cp, .inl fy))] sz) [(oX9 h0 b0 (nI nb) p0 u0 r0 a0 t0 s0 o0), (oX0 a0 p0 a1 a3 a4 a5 a6 i6 i7 i8 i9 i10 i11 i12 i13 i14 i15 i16 i17 i18 i19), (a3, .inl (cA 0, 10, .inl fs)), (a4, .inl (cA 0, 10, .inl fp)), (a5, .inl (cA 0, 10, .inl ff)), (a6, .inl (cA 0, 10, .inl fd)), (oX3 p0 pr pb pe pg p1 (nI nd) p2 p3 p4 p5 (nI cn) p6 (nI pq) p7 p8 p9 (nI sc)), (p2, .inl (cA 1, 10, .inr (.inl fna))), (p3, .inl (cA 0, 10, .inl fam)), (oJ4 o0 o1 0 mb (nI ct)), (o1, .inl (cA 3, cp, .inl fy))] t) (va_A [(oX9 h0 b0 (nI nb) p0 u0 r0 a0 t0 s0 o0), (oX0 a0 p0 a1 a3 a4 a5 a6 i6 i7 i8 i9 i10 i11 i12 i13 i14 i15 i16 i17 i18 i19), (a3, .inl (cA 0, 10, .inl fs)), (a4, .inl (cA 0, 10, .inl fp)), (a5, .inl (cA 0, 10, .inl ff)), (a6, .inl (cA 0, 10, .inl fd)), (oX3 p0 pr pb pe pg p1 (nI nd) p2 p3 p4 p5 (nI cn) p6 (nI pq) p7 p8 p9 (nI sc)), (p2, .inl (cA 1, 10, .inr (.inl fna))), (p3, .inl (cA 0, 10, .inl fam)), (oJ4 o0 o1 0 mb (nI ct)), (o1, .inl (cA 3, cp, .inl fy))] sz)) 19 4686 (va_A [(oX9 h0 b0 (nI nb) p0 u0 r0 a0 t0 s0 o0), (oX0 a0 p0 a1 a3 a4 a5 a6 i6 i7 i8 i9 i10 i11 i12 i13 i14 i15 i16 i17 i18 i19), (a3, .inl (cA 0, 10, .inl fs)), (a4, .inl (cA 0, 10, .inl fp)), (a5, .inl (cA 0, 10, .inl ff)), (a6, .inl (cA 0, 10, .inl fd)), (oX3 p0 pr pb pe pg p1 (nI nd) p2 p3 p4 p5 (nI cn) p6 (nI pq) p7 p8 p9 (nI sc)), (p2, .inl (cA 1, 10, .inr (.inl fna))), (p3, .inl (cA 0, 10, .inl fam)), (oJ4 o0 o1 0 mb (nI ct)), (o1, .inl (cA 3, cp, .inl fy))] sz) := by
  refine vx_ofW (cc := cX9_write) (maxL := 3) (ret := (some .int)) (by decide) rfl ?_
  intro p e s m args below meth c s₁ B hml hno hv
  obtain ⟨rfl, ⟨hsz, hP, hK, hD0, hC, hZ⟩, hG⟩ := hv
  have hx := B.exec
  have hb := B.bytes
  have hr := B.returns
  have hts := atoms_spec (ws := wsX9_write) B.pre
  have hown : s.vm.findClass RX9 = some m.cls := findClass_of_methodNamed B.named
  have hlocks := B.notSynchronized
  subst hsz
  have hD := hD0.self (sz := s.heap.size)
  generalize hAe : va_A [(oX9 h0 b0 (nI nb) p0 u0 r0 a0 t0 s0 o0), (oX0 a0 p0 a1 a3 a4 a5 a6 i6 i7 i8 i9 i10 i11 i12 i13 i14 i15 i16 i17 i18 i19), (a3, .inl (cA 0, 10, .inl fs)), (a4, .inl (cA 0, 10, .inl fp)), (a5, .inl (cA 0, 10, .inl ff)), (a6, .inl (cA 0, 10, .inl fd)), (oX3 p0 pr pb pe pg p1 (nI nd) p2 p3 p4 p5 (nI cn) p6 (nI pq) p7 p8 p9 (nI sc)), (p2, .inl (cA 1, 10, .inr (.inl fna))), (p3, .inl (cA 0, 10, .inl fam)), (oJ4 o0 o1 0 mb (nI ct)), (o1, .inl (cA 3, cp, .inl fy))] s.heap.size = A at hD hZ hG ⊢
  have hA : ∀ q : Nat, s.heap.size ≤ q → A q := fun q h => by rw [← hAe]; exact Or.inr h
  have hS : va_S A s.heap s.heap [] := va_S.rf
  have hP : va_P D vwCl [(oX9 h0 b0 (nI nb) p0 u0 r0 a0 t0 s0 o0), (oX0 a0 p0 a1 a3 a4 a5 a6 i6 i7 i8 i9 i10 i11 i12 i13 i14 i15 i16 i17 i18 i19), (a3, .inl (cA 0, 10, .inl fs)), (a4, .inl (cA 0, 10, .inl fp)), (a5, .inl (cA 0, 10, .inl ff)), (a6, .inl (cA 0, 10, .inl fd)), (oX3 p0 pr pb pe pg p1 (nI nd) p2 p3 p4 p5 (nI cn) p6 (nI pq) p7 p8 p9 (nI sc)), (p2, .inl (cA 1, 10, .inr (.inl fna))), (p3, .inl (cA 0, 10, .inl fam)), (oJ4 o0 o1 0 mb (nI ct)), (o1, .inl (cA 3, cp, .inl fy))] s.heap := hP
  have hl := lv_entry ([.ref h0, .int i]) (n := 3) (Nat.le_of_ble_eq_true rfl)
  rw [lg_entry_eq]
  generalize (lg_sl ([.ref h0, .int i]) ++ List.replicate (3 - (lg_sl ([.ref h0, .int i])).length) Slot.unset).toArray = ls at hl ⊢
  have hl : lv_has ls 3 [(0, .ref h0), (1, .int i)] := hl
  have inX0 : ∀ w ∈ u_ws RX0 TX0 20, w ∈ wsX9_write := by decide +kernel
  have inX3 : ∀ w ∈ u_ws RX3 TX3 17, w ∈ wsX9_write := by decide +kernel
  have inX9 : ∀ w ∈ u_ws RX9 TX9 9, w ∈ wsX9_write := by decide +kernel
  refine lv_aload_n hx hb dX9_write_0 rfl (lv_at hl 0 rfl) ?_
  refine lv_iload_n hx hb dX9_write_1 rfl (lv_at hl 1 rfl) ?_
  obtain ⟨hPc, hDc, hFc⟩ := PDq.cut (wc := [(oX9 h0 b0 (nI nb) p0 u0 r0 a0 t0 s0 o0), (oX3 p0 pr pb pe pg p1 (nI nd) p2 p3 p4 p5 (nI cn) p6 (nI pq) p7 p8 p9 (nI sc))]) hP hD hS hA [0, 6] (by decide) rfl
  refine vx_callv (vx_runV (As := [.int i]) (rest := []) ⟨hx, hb, hml, hown, hts⟩ (s_needMilestone l D cA sa h0 b0 nb p0 u0 r0 a0 t0 s0 o0 p1 p2 p3 p4 p5 p6 p7 p8 p9 cn pq nd sc pr pb pe pg i s.heap.size hl9 hcn hpq hnd hsc) (cwV 1 hts gX9_write_X9_needMilestone rfl rfl rfl (by decide +kernel) ⟨(Nat.le_of_ble_eq_true rfl), (Nat.le_of_ble_eq_true rfl)⟩) ⟨Wd.blind, va_recv hK hPc (ci := 10) (q0 := 0) rfl rfl, fun U hU hW => ⟨rfl, Wd.call hPc hDc hK hC hZ hS hFc U hU hW⟩⟩ rfl rfl hl.1 rfl (lv_room (Nat.le_of_ble_eq_true rfl)) dX9_write_2 ⟨(Nat.le_of_ble_eq_true rfl), (Nat.le_of_ble_eq_true rfl)⟩) hS (fun q _ h => hFc q h) hFc (fun q _ h => hFc q h) (fun E ce q9 u t H1 locs ht hvm hpx hE hz1 hk1 hS hcell hv9 hcl => ?_) (fun u t H1 locs ht hvm hw hB hz1 hk1 hS => ?_)
  · skip
    obtain ⟨hE, hP1, hD1⟩ := hE
    rw [ht] at hP1
    obtain ⟨hP, hD⟩ := PDq.join (w := [(oX0 a0 p0 a1 a3 a4 a5 a6 i6 i7 i8 i9 i10 i11 i12 i13 i14 i15 i16 i17 i18 i19), (a3, .inl (cA 0, 10, .inl fs)), (a4, .inl (cA 0, 10, .inl fp)), (a5, .inl (cA 0, 10, .inl ff)), (a6, .inl (cA 0, 10, .inl fd)), (p2, .inl (cA 1, 10, .inr (.inl fna))), (p3, .inl (cA 0, 10, .inl fam)), (oJ4 o0 o1 0 mb (nI ct)), (o1, .inl (cA 3, cp, .inl fy)), (oX9 h0 b0 (nI nb) p0 u0 r0 a0 t0 s0 o0), (oX3 p0 pr pb pe pg p1 (nI nd) p2 p3 p4 p5 (nI cn) p6 (nI pq) p7 p8 p9 (nI sc))]) 9 hP hD [0, 6] [1, 2, 3, 4, 5, 7, 8, 9, 10] rfl rfl (by decide +kernel) (by decide +kernel) hk1 hFc hP1 hD1 rfl
    generalize H1 = H at hP hS hcell ⊢
    obtain ⟨hP9, hD9⟩ := PDq.sub (ws' := [(oX9 h0 b0 (nI nb) p0 u0 r0 a0 t0 s0 o0), (oX0 a0 p0 a1 a3 a4 a5 a6 i6 i7 i8 i9 i10 i11 i12 i13 i14 i15 i16 i17 i18 i19), (a3, .inl (cA 0, 10, .inl fs)), (a4, .inl (cA 0, 10, .inl fp)), (a5, .inl (cA 0, 10, .inl ff)), (a6, .inl (cA 0, 10, .inl fd)), (oX3 p0 pr pb pe pg p1 (nI nd) p2 p3 p4 p5 (nI cn) p6 (nI pq) p7 p8 p9 (nI sc)), (p2, .inl (cA 1, 10, .inr (.inl fna))), (p3, .inl (cA 0, 10, .inl fam)), (oJ4 o0 o1 0 mb (nI ct)), (o1, .inl (cA 3, cp, .inl fy))]) hP hD [9, 0, 1, 2, 3, 4, 10, 5, 6, 7, 8] (by decide +kernel) rfl
    exact vx_out (fun x h => (hno x h).elim) hlocks hcell hv9 hcl (fun t ht hvm => ⟨(), trivial, ⟨hE, by rw [ht]; exact hP9, hD9⟩, hS.F ht⟩) hS.2.2 (Nat.le_of_ble_eq_true rfl) (Nat.le_of_ble_eq_true rfl)
  · skip
    obtain ⟨qn1, hn2, hn3, hP1, hD1⟩ := hB
    rw [ht] at hP1
    obtain ⟨hP, hD⟩ := PDq.join (w := [(oX0 a0 p0 a1 a3 a4 a5 a6 i6 i7 i8 i9 i10 i11 i12 i13 i14 i15 i16 i17 i18 i19), (a3, .inl (cA 0, 10, .inl fs)), (a4, .inl (cA 0, 10, .inl fp)), (a5, .inl (cA 0, 10, .inl ff)), (a6, .inl (cA 0, 10, .inl fd)), (p2, .inl (cA 1, 10, .inr (.inl fna))), (p3, .inl (cA 0, 10, .inl fam)), (oJ4 o0 o1 0 mb (nI ct)), (o1, .inl (cA 3, cp, .inl fy)), (oX9 h0 b0 (nI nb) p0 u0 r0 a0 t0 s0 o0), (oX3 p0 pr pb pe pg p1 (nI nd) p2 p3 p4 p5 (nI cn) p6 (nI pq) p7 p8 p9 (nI sc))]) 9 hP hD [0, 6] [1, 2, 3, 4, 5, 7, 8, 9, 10] rfl rfl (by decide +kernel) (by decide +kernel) hk1 hFc hP1 hD1 rfl
    generalize H1 = H at hP hS ⊢
    rw [hn3] at hl
    have hl : lv_has ls 3 [(0, .ref h0), (1, .int (nI qn1))] := hl
    refine lv_aload_n hx hb dX9_write_5 rfl (lv_at hl 0 rfl) ?_
    refine va_get (D := D) (ci := 10) (v := .ref a0) (C := RX9) (T := TX9) (N := 9) hx hb hts inX9 hown hK hP 9 rfl rfl 5 (by decide) (hts (.fieldLink RX9 35 "EscrowDesk" "account" "LEscrowDesk$Account;") (by decide +kernel)) (fun _ h9 => h9) rfl dX9_write_6 ?_
    refine va_getN (D := D) (ci := 4) (v := .ref a3) (C := RX0) (T := TX0) (N := 20) hx hb hts inX0 hown hK hP 0 rfl rfl 2 (by decide) (hC.f (A := _) (a := RX9) (i := 122) (b := "EscrowDesk$Account") (n := "state") (d := "[I") (x := "EscrowDesk") (by decide +kernel)) (fun _ h9 => h9) rfl dX9_write_9 ?_
    refine lv_iload_n hx hb dX9_write_12 rfl (lv_at hl 1 rfl) ?_
    refine va_iald hx hb hK hP 1 0 rfl rfl (vp_in_nI (n := qn1) (N := 10) (show qn1 < 10 by omega) (by decide)) dX9_write_13 ?_
    refine lv_topi (fun yn4 eyn4 => ?_)
    refine lv_istore_n (lv' := [(2, .int yn4), (0, .ref h0), (1, .int (nI qn1))]) hx hb dX9_write_14 rfl hl (by decide) rfl (fun ls hl => ?_)
    refine lv_aload_n hx hb dX9_write_15 rfl (lv_at hl 1 rfl) ?_
    refine va_get (D := D) (ci := 10) (v := .ref o0) (C := RX9) (T := TX9) (N := 9) hx hb hts inX9 hown hK hP 9 rfl rfl 8 (by decide) (hts (.fieldLink RX9 52 "EscrowDesk" "output" "Ljava/lang/StringBuilder;") (by decide +kernel)) (fun _ h9 => h9) rfl dX9_write_16 ?_
    refine lv_iconst (v := 0) hx hb dX9_write_19 (by decide) ?_
    obtain ⟨hPc, hDc, hFc⟩ := PDq.cut (wc := [(oJ4 o0 o1 0 mb (nI ct)), (o1, .inl (cA 3, cp, .inl fy))]) hP hD hS hA [7, 8] (by decide) rfl
    refine va_callv (va_runV (As := [.int 0]) (rest := []) ⟨hx, hb, hml, hown, hts⟩ (j_setLength l D cA sa o0 o1 ct cp mb fy H.size hct hcp hfit) (cwV 1 hts gX9_write_J4_setLength_d00df rfl rfl rfl (by decide +kernel) ⟨(Nat.le_of_ble_eq_true rfl), (Nat.le_of_ble_eq_true rfl)⟩) ⟨Wd.blind, va_recv hK hPc (ci := 1) (q0 := 0) rfl rfl, fun U hU hW => ⟨rfl, Wd.call hPc hDc hK hC hZ hS hFc U hU hW⟩⟩ rfl rfl hl.1 rfl (lv_room (Nat.le_of_ble_eq_true rfl)) dX9_write_20 ⟨(Nat.le_of_ble_eq_true rfl), (Nat.le_of_ble_eq_true rfl)⟩) hS (fun q _ h => hFc q h) hFc (fun u t H1 locs ht hvm hw hB hz1 hk1 hS => ?_)
    obtain ⟨qn5, qn6, fn7, zn8, hn9, hn10, hP1, hD1⟩ := hB
    rw [ht] at hP1
    obtain ⟨hP, hD⟩ := PDq.join (w := [(oX0 a0 p0 a1 a3 a4 a5 a6 i6 i7 i8 i9 i10 i11 i12 i13 i14 i15 i16 i17 i18 i19), (a3, .inl (cA 0, 10, .inl fs)), (a4, .inl (cA 0, 10, .inl fp)), (a5, .inl (cA 0, 10, .inl ff)), (a6, .inl (cA 0, 10, .inl fd)), (p2, .inl (cA 1, 10, .inr (.inl fna))), (p3, .inl (cA 0, 10, .inl fam)), (oX9 h0 b0 (nI nb) p0 u0 r0 a0 t0 s0 o0), (oX3 p0 pr pb pe pg p1 (nI nd) p2 p3 p4 p5 (nI cn) p6 (nI pq) p7 p8 p9 (nI sc)), (oJ4 o0 qn5 0 zn8 0), (qn5, .inl (cA 3, qn6, .inl fn7))]) 9 hP hD [7, 8] [0, 1, 2, 3, 4, 5, 6, 9, 10] rfl rfl (by decide +kernel) (by decide +kernel) hk1 hFc hP1 hD1 rfl
    generalize H1 = H at hP hS ⊢
    refine lv_aload_n hx hb dX9_write_23 rfl (lv_at hl 1 rfl) ?_
    refine va_get (D := D) (ci := 10) (v := .ref o0) (C := RX9) (T := TX9) (N := 9) hx hb hts inX9 hown hK hP 7 rfl rfl 8 (by decide) (hts (.fieldLink RX9 52 "EscrowDesk" "output" "Ljava/lang/StringBuilder;") (by decide +kernel)) (fun _ h9 => h9) rfl dX9_write_24 ?_
    refine lv_aload_n hx hb dX9_write_27 rfl (lv_at hl 1 rfl) ?_
    refine va_get (D := D) (ci := 10) (v := .ref p0) (C := RX9) (T := TX9) (N := 9) hx hb hts inX9 hown hK hP 7 rfl rfl 2 (by decide) (hts (.fieldLink RX9 16 "EscrowDesk" "plan" "LEscrowDesk$Plan;") (by decide +kernel)) (fun _ h9 => h9) rfl dX9_write_28 ?_
    refine va_getN (D := D) (ci := 7) (v := .ref p2) (C := RX3) (T := TX3) (N := 17) hx hb hts inX3 hown hK hP 8 rfl rfl 6 (by decide) (hC.f (A := _) (a := RX9) (i := 315) (b := "EscrowDesk$Plan") (n := "names") (d := "[J") (x := "EscrowDesk") (by decide +kernel)) (fun _ h9 => h9) rfl dX9_write_31 ?_
    refine lv_iload_n hx hb dX9_write_34 rfl (lv_at hl 2 rfl) ?_
    refine va_lald hx hb hK hP 5 1 rfl rfl (vp_in_nI (n := qn1) (N := 10) (show qn1 < 10 by omega) (by decide)) dX9_write_35 ?_
    refine lv_topl (fun yn11 eyn11 => ?_)
    obtain ⟨hPc, hDc, hFc⟩ := PDq.cut (wc := [(oJ4 o0 qn5 0 zn8 0), (qn5, .inl (cA 3, qn6, .inl fn7))]) hP hD hS hA [9, 10] (by decide) rfl
    refine va_callv (va_runS (As := [.ref o0, .long yn11]) (rest := []) ⟨hx, hb, hml, hown, hts⟩ (s_appendTo l D cA sa o0 qn5 0 qn6 zn8 fn7 yn11 H.size (by omega) hn9 hn10 (by omega)) (va_cwS 2 hts gX9_write_X8_appendTo rfl rfl rfl (by decide +kernel) ⟨(Nat.le_of_ble_eq_true rfl), (Nat.le_of_ble_eq_true rfl)⟩) ⟨Wd.blind, fun U hU hW => ⟨rfl, Wd.call hPc hDc hK hC hZ hS hFc U hU hW⟩⟩ rfl rfl hl.1 rfl (lv_room (Nat.le_of_ble_eq_true rfl)) dX9_write_36 ⟨(Nat.le_of_ble_eq_true rfl), (Nat.le_of_ble_eq_true rfl)⟩) hS (fun q _ h => hFc q h) hFc (fun u t H1 locs ht hvm hw hB hz1 hk1 hS => ?_)
    obtain ⟨qn12, qn13, fn14, qn15, hn16, hn17, hn18, hn19, hP1, hD1⟩ := hB
    rw [ht] at hP1
    obtain ⟨hP, hD⟩ := PDq.join (w := [(oX0 a0 p0 a1 a3 a4 a5 a6 i6 i7 i8 i9 i10 i11 i12 i13 i14 i15 i16 i17 i18 i19), (a3, .inl (cA 0, 10, .inl fs)), (a4, .inl (cA 0, 10, .inl fp)), (a5, .inl (cA 0, 10, .inl ff)), (a6, .inl (cA 0, 10, .inl fd)), (p2, .inl (cA 1, 10, .inr (.inl fna))), (p3, .inl (cA 0, 10, .inl fam)), (oX9 h0 b0 (nI nb) p0 u0 r0 a0 t0 s0 o0), (oX3 p0 pr pb pe pg p1 (nI nd) p2 p3 p4 p5 (nI cn) p6 (nI pq) p7 p8 p9 (nI sc)), (oJ4 o0 qn12 0 zn8 (nI qn15)), (qn12, .inl (cA 3, qn13, .inl fn14))]) 9 hP hD [9, 10] [0, 1, 2, 3, 4, 5, 6, 7, 8] rfl rfl (by decide +kernel) (by decide +kernel) hk1 hFc hP1 hD1 rfl
    generalize H1 = H at hP hS ⊢
    refine lv_aload_n hx hb dX9_write_39 rfl (lv_at hl 1 rfl) ?_
    refine va_get (D := D) (ci := 10) (v := .ref o0) (C := RX9) (T := TX9) (N := 9) hx hb hts inX9 hown hK hP 7 rfl rfl 8 (by decide) (hts (.fieldLink RX9 52 "EscrowDesk" "output" "Ljava/lang/StringBuilder;") (by decide +kernel)) (fun _ h9 => h9) rfl dX9_write_40 ?_
    refine lv_bipush (v := 32) hx hb dX9_write_43 (by decide) ?_
    obtain ⟨hPc, hDc, hFc⟩ := PDq.cut (wc := [(oJ4 o0 qn12 0 zn8 (nI qn15)), (qn12, .inl (cA 3, qn13, .inl fn14))]) hP hD hS hA [9, 10] (by decide) rfl
    refine va_callr (va_runV (As := [.int 32]) (rest := []) ⟨hx, hb, hml, hown, hts⟩ (j_appendC l D cA sa o0 qn12 qn15 qn13 zn8 fn14 32 H.size hn17 hn18 hn19 (by omega) (by omega)) (cwV 1 hts gX9_write_J4_append_cf468 rfl rfl rfl (by decide +kernel) ⟨(Nat.le_of_ble_eq_true rfl), (Nat.le_of_ble_eq_true rfl)⟩) ⟨Wd.blind, va_recv hK hPc (ci := 1) (q0 := 0) rfl rfl, fun U hU hW => ⟨rfl, Wd.call hPc hDc hK hC hZ hS hFc U hU hW⟩⟩ rfl rfl hl.1 rfl (lv_room (Nat.le_of_ble_eq_true rfl)) dX9_write_45 ⟨(Nat.le_of_ble_eq_true rfl), (Nat.le_of_ble_eq_true rfl)⟩) hS (fun q _ h => hFc q h) hFc (fun u ra t H1 locs ht hvm hw hB hz1 hk1 hS => ?_)
    obtain ⟨hra, qn20, qn21, fn22, hn23, hn24, hn25, hP1, hD1⟩ := hB
    obtain rfl := hra.symm
    rw [ht] at hP1
    obtain ⟨hP, hD⟩ := PDq.join (w := [(oX0 a0 p0 a1 a3 a4 a5 a6 i6 i7 i8 i9 i10 i11 i12 i13 i14 i15 i16 i17 i18 i19), (a3, .inl (cA 0, 10, .inl fs)), (a4, .inl (cA 0, 10, .inl fp)), (a5, .inl (cA 0, 10, .inl ff)), (a6, .inl (cA 0, 10, .inl fd)), (p2, .inl (cA 1, 10, .inr (.inl fna))), (p3, .inl (cA 0, 10, .inl fam)), (oX9 h0 b0 (nI nb) p0 u0 r0 a0 t0 s0 o0), (oX3 p0 pr pb pe pg p1 (nI nd) p2 p3 p4 p5 (nI cn) p6 (nI pq) p7 p8 p9 (nI sc)), (oJ4 o0 qn20 0 zn8 (nI (qn15 + 1))), (qn20, .inl (cA 3, qn21, .inl fn22))]) 9 hP hD [9, 10] [0, 1, 2, 3, 4, 5, 6, 7, 8] rfl rfl (by decide +kernel) (by decide +kernel) hk1 hFc hP1 hD1 rfl
    generalize H1 = H at hP hS ⊢
    refine lv_pop hx hb dX9_write_48 rfl ?_
    refine lv_aload_n hx hb dX9_write_49 rfl (lv_at hl 1 rfl) ?_
    refine va_get (D := D) (ci := 10) (v := .ref o0) (C := RX9) (T := TX9) (N := 9) hx hb hts inX9 hown hK hP 7 rfl rfl 8 (by decide) (hts (.fieldLink RX9 52 "EscrowDesk" "output" "Ljava/lang/StringBuilder;") (by decide +kernel)) (fun _ h9 => h9) rfl dX9_write_50 ?_
    refine lv_iload_n hx hb dX9_write_53 rfl (lv_at hl 0 rfl) ?_
    by_cases hn26 : yn4 = 0
    · skip
      rw [hn26] at hl
      have hl : lv_has ls 3 [(2, .int 0), (0, .ref h0), (1, .int (nI qn1))] := hl
      refine W.eq (g2 := F0 m 54 ls [.int 0, .ref o0]) (by rw [hn26]) ?_
      obtain ⟨hPc, hDc, hFc⟩ := PDq.cut (wc := []) hP hD hS hA [] (by decide) rfl
      refine va_callr (va_runS (As := [.int 0]) (rest := [.ref o0]) ⟨hx, hb, hml, hown, hts⟩ (s_spell0 l D cA sa  H.size) (va_cwS 1 hts gX9_write_X6_spelling rfl rfl rfl (by decide +kernel) ⟨(Nat.le_of_ble_eq_true rfl), (Nat.le_of_ble_eq_true rfl)⟩) ⟨Wd.blind, fun U hU hW => ⟨rfl, Wd.call hPc hDc hK hC hZ hS hFc U hU hW⟩⟩ rfl rfl hl.1 rfl (lv_room (Nat.le_of_ble_eq_true rfl)) dX9_write_54 ⟨(Nat.le_of_ble_eq_true rfl), (Nat.le_of_ble_eq_true rfl)⟩) hS (fun q _ h => hFc q h) hFc (fun u ra t H1 locs ht hvm hw hB hz1 hk1 hS => ?_)
      obtain ⟨hra, hP1, hD1⟩ := hB
      obtain rfl := hra.symm
      rw [ht] at hP1
      obtain ⟨hP, hD⟩ := PDq.join (w := [(oX0 a0 p0 a1 a3 a4 a5 a6 i6 i7 i8 i9 i10 i11 i12 i13 i14 i15 i16 i17 i18 i19), (a3, .inl (cA 0, 10, .inl fs)), (a4, .inl (cA 0, 10, .inl fp)), (a5, .inl (cA 0, 10, .inl ff)), (a6, .inl (cA 0, 10, .inl fd)), (p2, .inl (cA 1, 10, .inr (.inl fna))), (p3, .inl (cA 0, 10, .inl fam)), (oX9 h0 b0 (nI nb) p0 u0 r0 a0 t0 s0 o0), (oX3 p0 pr pb pe pg p1 (nI nd) p2 p3 p4 p5 (nI cn) p6 (nI pq) p7 p8 p9 (nI sc)), (oJ4 o0 qn20 0 zn8 (nI (qn15 + 1))), (qn20, .inl (cA 3, qn21, .inl fn22))]) 11 hP hD [] [0, 1, 2, 3, 4, 5, 6, 7, 8, 9, 10] rfl rfl (by decide +kernel) (by decide +kernel) hk1 hFc hP1 hD1 rfl
      generalize H1 = H at hP hS ⊢
      obtain ⟨hPc, hDc, hFc⟩ := PDq.cut (wc := [(oJ4 o0 qn20 0 zn8 (nI (qn15 + 1))), (qn20, .inl (cA 3, qn21, .inl fn22))]) hP hD hS hA [9, 10] (by decide) rfl
      refine va_callr (va_runV (As := [.ref (sa 33)]) (rest := []) ⟨hx, hb, hml, hown, hts⟩ (j_appendS l D cA sa o0 qn20 (qn15 + 1) qn21 zn8 fn22 33 ([111, 112, 101, 110]) 4 H.size (by decide +kernel) (by omega) hn24 hn25 rfl (by omega)) (cwV 1 hts gX9_write_J4_append_15ec4 rfl rfl rfl (by decide +kernel) ⟨(Nat.le_of_ble_eq_true rfl), (Nat.le_of_ble_eq_true rfl)⟩) ⟨Wd.blind, va_recv hK hPc (ci := 1) (q0 := 0) rfl rfl, fun U hU hW => ⟨rfl, Wd.call hPc hDc hK hC hZ hS hFc U hU hW⟩⟩ rfl rfl hl.1 rfl (lv_room (Nat.le_of_ble_eq_true rfl)) dX9_write_57 ⟨(Nat.le_of_ble_eq_true rfl), (Nat.le_of_ble_eq_true rfl)⟩) hS (fun q _ h => hFc q h) hFc (fun u ra t H1 locs ht hvm hw hB hz1 hk1 hS => ?_)
      obtain ⟨hra, qn27, qn28, fn29, qn30, hn31, hn32, hn33, hn34, hP1, hD1⟩ := hB
      obtain rfl := hra.symm
      rw [ht] at hP1
      obtain ⟨hP, hD⟩ := PDq.join (w := [(oX0 a0 p0 a1 a3 a4 a5 a6 i6 i7 i8 i9 i10 i11 i12 i13 i14 i15 i16 i17 i18 i19), (a3, .inl (cA 0, 10, .inl fs)), (a4, .inl (cA 0, 10, .inl fp)), (a5, .inl (cA 0, 10, .inl ff)), (a6, .inl (cA 0, 10, .inl fd)), (p2, .inl (cA 1, 10, .inr (.inl fna))), (p3, .inl (cA 0, 10, .inl fam)), (oX9 h0 b0 (nI nb) p0 u0 r0 a0 t0 s0 o0), (oX3 p0 pr pb pe pg p1 (nI nd) p2 p3 p4 p5 (nI cn) p6 (nI pq) p7 p8 p9 (nI sc)), (oJ4 o0 qn27 0 zn8 (nI qn30)), (qn27, .inl (cA 3, qn28, .inl fn29))]) 9 hP hD [9, 10] [0, 1, 2, 3, 4, 5, 6, 7, 8] rfl rfl (by decide +kernel) (by decide +kernel) hk1 hFc hP1 hD1 rfl
      generalize H1 = H at hP hS ⊢
      refine lv_pop hx hb dX9_write_60 rfl ?_
      refine lv_aload_n hx hb dX9_write_61 rfl (lv_at hl 1 rfl) ?_
      refine va_get (D := D) (ci := 10) (v := .ref o0) (C := RX9) (T := TX9) (N := 9) hx hb hts inX9 hown hK hP 7 rfl rfl 8 (by decide) (hts (.fieldLink RX9 52 "EscrowDesk" "output" "Ljava/lang/StringBuilder;") (by decide +kernel)) (fun _ h9 => h9) rfl dX9_write_62 ?_
      refine lv_bipush (v := 32) hx hb dX9_write_65 (by decide) ?_
      obtain ⟨hPc, hDc, hFc⟩ := PDq.cut (wc := [(oJ4 o0 qn27 0 zn8 (nI qn30)), (qn27, .inl (cA 3, qn28, .inl fn29))]) hP hD hS hA [9, 10] (by decide) rfl
      refine va_callr (va_runV (As := [.int 32]) (rest := []) ⟨hx, hb, hml, hown, hts⟩ (j_appendC l D cA sa o0 qn27 qn30 qn28 zn8 fn29 32 H.size hn32 hn33 hn34 (by omega) (by omega)) (cwV 1 hts gX9_write_J4_append_cf468 rfl rfl rfl (by decide +kernel) ⟨(Nat.le_of_ble_eq_true rfl), (Nat.le_of_ble_eq_true rfl)⟩) ⟨Wd.blind, va_recv hK hPc (ci := 1) (q0 := 0) rfl rfl, fun U hU hW => ⟨rfl, Wd.call hPc hDc hK hC hZ hS hFc U hU hW⟩⟩ rfl rfl hl.1 rfl (lv_room (Nat.le_of_ble_eq_true rfl)) dX9_write_67 ⟨(Nat.le_of_ble_eq_true rfl), (Nat.le_of_ble_eq_true rfl)⟩) hS (fun q _ h => hFc q h) hFc (fun u ra t H1 locs ht hvm hw hB hz1 hk1 hS => ?_)
      obtain ⟨hra, qn35, qn36, fn37, hn38, hn39, hn40, hP1, hD1⟩ := hB
      obtain rfl := hra.symm
      rw [ht] at hP1
      obtain ⟨hP, hD⟩ := PDq.join (w := [(oX0 a0 p0 a1 a3 a4 a5 a6 i6 i7 i8 i9 i10 i11 i12 i13 i14 i15 i16 i17 i18 i19), (a3, .inl (cA 0, 10, .inl fs)), (a4, .inl (cA 0, 10, .inl fp)), (a5, .inl (cA 0, 10, .inl ff)), (a6, .inl (cA 0, 10, .inl fd)), (p2, .inl (cA 1, 10, .inr (.inl fna))), (p3, .inl (cA 0, 10, .inl fam)), (oX9 h0 b0 (nI nb) p0 u0 r0 a0 t0 s0 o0), (oX3 p0 pr pb pe pg p1 (nI nd) p2 p3 p4 p5 (nI cn) p6 (nI pq) p7 p8 p9 (nI sc)), (oJ4 o0 qn35 0 zn8 (nI (qn30 + 1))), (qn35, .inl (cA 3, qn36, .inl fn37))]) 9 hP hD [9, 10] [0, 1, 2, 3, 4, 5, 6, 7, 8] rfl rfl (by decide +kernel) (by decide +kernel) hk1 hFc hP1 hD1 rfl
      generalize H1 = H at hP hS ⊢
      refine lv_pop hx hb dX9_write_70 rfl ?_
      refine lv_aload_n hx hb dX9_write_71 rfl (lv_at hl 1 rfl) ?_
      refine va_get (D := D) (ci := 10) (v := .ref o0) (C := RX9) (T := TX9) (N := 9) hx hb hts inX9 hown hK hP 7 rfl rfl 8 (by decide) (hts (.fieldLink RX9 52 "EscrowDesk" "output" "Ljava/lang/StringBuilder;") (by decide +kernel)) (fun _ h9 => h9) rfl dX9_write_72 ?_
      refine lv_aload_n hx hb dX9_write_75 rfl (lv_at hl 1 rfl) ?_
      refine va_get (D := D) (ci := 10) (v := .ref a0) (C := RX9) (T := TX9) (N := 9) hx hb hts inX9 hown hK hP 7 rfl rfl 5 (by decide) (hts (.fieldLink RX9 35 "EscrowDesk" "account" "LEscrowDesk$Account;") (by decide +kernel)) (fun _ h9 => h9) rfl dX9_write_76 ?_
      refine va_getN (D := D) (ci := 4) (v := .ref a4) (C := RX0) (T := TX0) (N := 20) hx hb hts inX0 hown hK hP 0 rfl rfl 3 (by decide) (hC.f (A := _) (a := RX9) (i := 126) (b := "EscrowDesk$Account") (n := "paid") (d := "[I") (x := "EscrowDesk") (by decide +kernel)) (fun _ h9 => h9) rfl dX9_write_79 ?_
      refine lv_iload_n hx hb dX9_write_82 rfl (lv_at hl 2 rfl) ?_
      refine va_iald hx hb hK hP 2 0 rfl rfl (vp_in_nI (n := qn1) (N := 10) (show qn1 < 10 by omega) (by decide)) dX9_write_83 ?_
      refine lv_topi (fun yn41 eyn41 => ?_)
      obtain ⟨hPc, hDc, hFc⟩ := PDq.cut (wc := [(oJ4 o0 qn35 0 zn8 (nI (qn30 + 1))), (qn35, .inl (cA 3, qn36, .inl fn37))]) hP hD hS hA [9, 10] (by decide) rfl
      refine va_callr (va_runV (As := [.int yn41]) (rest := []) ⟨hx, hb, hml, hown, hts⟩ (j_appendI l D cA sa o0 qn35 (qn30 + 1) qn36 zn8 fn37 yn41 H.size (by omega) hn39 hn40 (by omega)) (cwV 1 hts gX9_write_J4_append_bf812 rfl rfl rfl (by decide +kernel) ⟨(Nat.le_of_ble_eq_true rfl), (Nat.le_of_ble_eq_true rfl)⟩) ⟨Wd2.blind, va_recv hK hPc (ci := 1) (q0 := 0) rfl rfl, fun U hU hW => ⟨rfl, Wd2.call (Wd.call hPc hDc hK hC hZ hS hFc U hU hW) hG hS hFc hU hW⟩⟩ rfl rfl hl.1 rfl (lv_room (Nat.le_of_ble_eq_true rfl)) dX9_write_84 ⟨(Nat.le_of_ble_eq_true rfl), (Nat.le_of_ble_eq_true rfl)⟩) hS (fun q _ h => hFc q h) hFc (fun u ra t H1 locs ht hvm hw hB hz1 hk1 hS => ?_)
      obtain ⟨hra, qn42, qn43, fn44, qn45, hn46, hn47, hn48, hn49, hP1, hD1⟩ := hB
      obtain rfl := hra.symm
      rw [ht] at hP1
      obtain ⟨hP, hD⟩ := PDq.join (w := [(oX0 a0 p0 a1 a3 a4 a5 a6 i6 i7 i8 i9 i10 i11 i12 i13 i14 i15 i16 i17 i18 i19), (a3, .inl (cA 0, 10, .inl fs)), (a4, .inl (cA 0, 10, .inl fp)), (a5, .inl (cA 0, 10, .inl ff)), (a6, .inl (cA 0, 10, .inl fd)), (p2, .inl (cA 1, 10, .inr (.inl fna))), (p3, .inl (cA 0, 10, .inl fam)), (oX9 h0 b0 (nI nb) p0 u0 r0 a0 t0 s0 o0), (oX3 p0 pr pb pe pg p1 (nI nd) p2 p3 p4 p5 (nI cn) p6 (nI pq) p7 p8 p9 (nI sc)), (oJ4 o0 qn42 0 zn8 (nI qn45)), (qn42, .inl (cA 3, qn43, .inl fn44))]) 9 hP hD [9, 10] [0, 1, 2, 3, 4, 5, 6, 7, 8] rfl rfl (by decide +kernel) (by decide +kernel) hk1 hFc hP1 hD1 rfl
      generalize H1 = H at hP hS ⊢
      refine lv_pop hx hb dX9_write_87 rfl ?_
      refine lv_aload_n hx hb dX9_write_88 rfl (lv_at hl 1 rfl) ?_
      refine va_get (D := D) (ci := 10) (v := .ref o0) (C := RX9) (T := TX9) (N := 9) hx hb hts inX9 hown hK hP 7 rfl rfl 8 (by decide) (hts (.fieldLink RX9 52 "EscrowDesk" "output" "Ljava/lang/StringBuilder;") (by decide +kernel)) (fun _ h9 => h9) rfl dX9_write_89 ?_
      refine lv_bipush (v := 47) hx hb dX9_write_92 (by decide) ?_
      obtain ⟨hPc, hDc, hFc⟩ := PDq.cut (wc := [(oJ4 o0 qn42 0 zn8 (nI qn45)), (qn42, .inl (cA 3, qn43, .inl fn44))]) hP hD hS hA [9, 10] (by decide) rfl
      refine va_callr (va_runV (As := [.int 47]) (rest := []) ⟨hx, hb, hml, hown, hts⟩ (j_appendC l D cA sa o0 qn42 qn45 qn43 zn8 fn44 47 H.size hn47 hn48 hn49 (by omega) (by omega)) (cwV 1 hts gX9_write_J4_append_cf468 rfl rfl rfl (by decide +kernel) ⟨(Nat.le_of_ble_eq_true rfl), (Nat.le_of_ble_eq_true rfl)⟩) ⟨Wd.blind, va_recv hK hPc (ci := 1) (q0 := 0) rfl rfl, fun U hU hW => ⟨rfl, Wd.call hPc hDc hK hC hZ hS hFc U hU hW⟩⟩ rfl rfl hl.1 rfl (lv_room (Nat.le_of_ble_eq_true rfl)) dX9_write_94 ⟨(Nat.le_of_ble_eq_true rfl), (Nat.le_of_ble_eq_true rfl)⟩) hS (fun q _ h => hFc q h) hFc (fun u ra t H1 locs ht hvm hw hB hz1 hk1 hS => ?_)
      obtain ⟨hra, qn50, qn51, fn52, hn53, hn54, hn55, hP1, hD1⟩ := hB
      obtain rfl := hra.symm
      rw [ht] at hP1
      obtain ⟨hP, hD⟩ := PDq.join (w := [(oX0 a0 p0 a1 a3 a4 a5 a6 i6 i7 i8 i9 i10 i11 i12 i13 i14 i15 i16 i17 i18 i19), (a3, .inl (cA 0, 10, .inl fs)), (a4, .inl (cA 0, 10, .inl fp)), (a5, .inl (cA 0, 10, .inl ff)), (a6, .inl (cA 0, 10, .inl fd)), (p2, .inl (cA 1, 10, .inr (.inl fna))), (p3, .inl (cA 0, 10, .inl fam)), (oX9 h0 b0 (nI nb) p0 u0 r0 a0 t0 s0 o0), (oX3 p0 pr pb pe pg p1 (nI nd) p2 p3 p4 p5 (nI cn) p6 (nI pq) p7 p8 p9 (nI sc)), (oJ4 o0 qn50 0 zn8 (nI (qn45 + 1))), (qn50, .inl (cA 3, qn51, .inl fn52))]) 9 hP hD [9, 10] [0, 1, 2, 3, 4, 5, 6, 7, 8] rfl rfl (by decide +kernel) (by decide +kernel) hk1 hFc hP1 hD1 rfl
      generalize H1 = H at hP hS ⊢
      refine lv_pop hx hb dX9_write_97 rfl ?_
      refine lv_aload_n hx hb dX9_write_98 rfl (lv_at hl 1 rfl) ?_
      refine va_get (D := D) (ci := 10) (v := .ref o0) (C := RX9) (T := TX9) (N := 9) hx hb hts inX9 hown hK hP 7 rfl rfl 8 (by decide) (hts (.fieldLink RX9 52 "EscrowDesk" "output" "Ljava/lang/StringBuilder;") (by decide +kernel)) (fun _ h9 => h9) rfl dX9_write_99 ?_
      refine lv_aload_n hx hb dX9_write_102 rfl (lv_at hl 1 rfl) ?_
      refine va_get (D := D) (ci := 10) (v := .ref p0) (C := RX9) (T := TX9) (N := 9) hx hb hts inX9 hown hK hP 7 rfl rfl 2 (by decide) (hts (.fieldLink RX9 16 "EscrowDesk" "plan" "LEscrowDesk$Plan;") (by decide +kernel)) (fun _ h9 => h9) rfl dX9_write_103 ?_
      refine va_getN (D := D) (ci := 7) (v := .ref p3) (C := RX3) (T := TX3) (N := 17) hx hb hts inX3 hown hK hP 8 rfl rfl 7 (by decide) (hC.f (A := _) (a := RX9) (i := 165) (b := "EscrowDesk$Plan") (n := "amounts") (d := "[I") (x := "EscrowDesk") (by decide +kernel)) (fun _ h9 => h9) rfl dX9_write_106 ?_
      refine lv_iload_n hx hb dX9_write_109 rfl (lv_at hl 2 rfl) ?_
      refine va_iald hx hb hK hP 6 0 rfl rfl (vp_in_nI (n := qn1) (N := 10) (show qn1 < 10 by omega) (by decide)) dX9_write_110 ?_
      refine lv_topi (fun yn56 eyn56 => ?_)
      obtain ⟨hPc, hDc, hFc⟩ := PDq.cut (wc := [(oJ4 o0 qn50 0 zn8 (nI (qn45 + 1))), (qn50, .inl (cA 3, qn51, .inl fn52))]) hP hD hS hA [9, 10] (by decide) rfl
      refine va_callr (va_runV (As := [.int yn56]) (rest := []) ⟨hx, hb, hml, hown, hts⟩ (j_appendI l D cA sa o0 qn50 (qn45 + 1) qn51 zn8 fn52 yn56 H.size (by omega) hn54 hn55 (by omega)) (cwV 1 hts gX9_write_J4_append_bf812 rfl rfl rfl (by decide +kernel) ⟨(Nat.le_of_ble_eq_true rfl), (Nat.le_of_ble_eq_true rfl)⟩) ⟨Wd2.blind, va_recv hK hPc (ci := 1) (q0 := 0) rfl rfl, fun U hU hW => ⟨rfl, Wd2.call (Wd.call hPc hDc hK hC hZ hS hFc U hU hW) hG hS hFc hU hW⟩⟩ rfl rfl hl.1 rfl (lv_room (Nat.le_of_ble_eq_true rfl)) dX9_write_111 ⟨(Nat.le_of_ble_eq_true rfl), (Nat.le_of_ble_eq_true rfl)⟩) hS (fun q _ h => hFc q h) hFc (fun u ra t H1 locs ht hvm hw hB hz1 hk1 hS => ?_)
      obtain ⟨hra, qn57, qn58, fn59, qn60, hn61, hn62, hn63, hn64, hP1, hD1⟩ := hB
      obtain rfl := hra.symm
      rw [ht] at hP1
      obtain ⟨hP, hD⟩ := PDq.join (w := [(oX0 a0 p0 a1 a3 a4 a5 a6 i6 i7 i8 i9 i10 i11 i12 i13 i14 i15 i16 i17 i18 i19), (a3, .inl (cA 0, 10, .inl fs)), (a4, .inl (cA 0, 10, .inl fp)), (a5, .inl (cA 0, 10, .inl ff)), (a6, .inl (cA 0, 10, .inl fd)), (p2, .inl (cA 1, 10, .inr (.inl fna))), (p3, .inl (cA 0, 10, .inl fam)), (oX9 h0 b0 (nI nb) p0 u0 r0 a0 t0 s0 o0), (oX3 p0 pr pb pe pg p1 (nI nd) p2 p3 p4 p5 (nI cn) p6 (nI pq) p7 p8 p9 (nI sc)), (oJ4 o0 qn57 0 zn8 (nI qn60)), (qn57, .inl (cA 3, qn58, .inl fn59))]) 9 hP hD [9, 10] [0, 1, 2, 3, 4, 5, 6, 7, 8] rfl rfl (by decide +kernel) (by decide +kernel) hk1 hFc hP1 hD1 rfl
      generalize H1 = H at hP hS ⊢
      refine lv_pop hx hb dX9_write_114 rfl ?_
      refine lv_iload_n hx hb dX9_write_115 rfl (lv_at hl 0 rfl) ?_
      refine lv_iconst (v := 1) hx hb dX9_write_116 (by decide) ?_
      refine lv_icmp_ne (tgt := 148) hx hb dX9_write_117 (by decide) (fun c65 => ?_) (fun c9 => absurd c9 (by decide))
      refine lv_iload_n hx hb dX9_write_148 rfl (lv_at hl 0 rfl) ?_
      refine lv_iconst (v := 2) hx hb dX9_write_149 (by decide) ?_
      refine lv_icmp_ne (tgt := 181) hx hb dX9_write_150 (by decide) (fun c66 => ?_) (fun c9 => absurd c9 (by decide))
      refine lv_aload_n hx hb dX9_write_181 rfl (lv_at hl 1 rfl) ?_
      refine va_get (D := D) (ci := 10) (v := .ref o0) (C := RX9) (T := TX9) (N := 9) hx hb hts inX9 hown hK hP 7 rfl rfl 8 (by decide) (hts (.fieldLink RX9 52 "EscrowDesk" "output" "Ljava/lang/StringBuilder;") (by decide +kernel)) (fun _ h9 => h9) rfl dX9_write_182 ?_
      obtain ⟨hPc, hDc, hFc⟩ := PDq.cut (wc := [(oJ4 o0 qn57 0 zn8 (nI qn60))]) hP hD hS hA [9] (by decide) rfl
      refine va_calli (va_runV (As := []) (rest := []) ⟨hx, hb, hml, hown, hts⟩ (j_length l D cA sa o0 qn57 qn60 zn8 H.size) (cwV 0 hts gX9_write_J4_length_8abf5 rfl rfl rfl (by decide +kernel) ⟨(Nat.le_of_ble_eq_true rfl), (Nat.le_of_ble_eq_true rfl)⟩) ⟨Wd.blind, va_recv hK hPc (ci := 1) (q0 := 0) rfl rfl, fun U hU hW => ⟨rfl, Wd.call hPc hDc hK hC hZ hS hFc U hU hW⟩⟩ rfl rfl hl.1 rfl (lv_room (Nat.le_of_ble_eq_true rfl)) dX9_write_185 ⟨(Nat.le_of_ble_eq_true rfl), (Nat.le_of_ble_eq_true rfl)⟩) hS (fun q _ h => hFc q h) hFc (fun rn67 u t H1 locs ht hvm hw hB hz1 hk1 hS => ?_)
      obtain ⟨hP1, hD1⟩ := hB
      rw [ht] at hP1
      obtain ⟨hP, hD⟩ := PDq.join (w := [(oX0 a0 p0 a1 a3 a4 a5 a6 i6 i7 i8 i9 i10 i11 i12 i13 i14 i15 i16 i17 i18 i19), (a3, .inl (cA 0, 10, .inl fs)), (a4, .inl (cA 0, 10, .inl fp)), (a5, .inl (cA 0, 10, .inl ff)), (a6, .inl (cA 0, 10, .inl fd)), (p2, .inl (cA 1, 10, .inr (.inl fna))), (p3, .inl (cA 0, 10, .inl fam)), (oX9 h0 b0 (nI nb) p0 u0 r0 a0 t0 s0 o0), (oX3 p0 pr pb pe pg p1 (nI nd) p2 p3 p4 p5 (nI cn) p6 (nI pq) p7 p8 p9 (nI sc)), (qn57, .inl (cA 3, qn58, .inl fn59)), (oJ4 o0 qn57 0 zn8 (nI qn60))]) 10 hP hD [9] [0, 1, 2, 3, 4, 5, 6, 7, 8, 10] rfl rfl (by decide +kernel) (by decide +kernel) hk1 hFc hP1 hD1 rfl
      generalize H1 = H at hP hS ⊢
      obtain rfl : rn67 = (nI qn60) := hw
      obtain ⟨hP9, hD9⟩ := PDq.sub (ws' := [(oX9 h0 b0 (nI nb) p0 u0 r0 a0 t0 s0 o0), (oX0 a0 p0 a1 a3 a4 a5 a6 i6 i7 i8 i9 i10 i11 i12 i13 i14 i15 i16 i17 i18 i19), (a3, .inl (cA 0, 10, .inl fs)), (a4, .inl (cA 0, 10, .inl fp)), (a5, .inl (cA 0, 10, .inl ff)), (a6, .inl (cA 0, 10, .inl fd)), (oX3 p0 pr pb pe pg p1 (nI nd) p2 p3 p4 p5 (nI cn) p6 (nI pq) p7 p8 p9 (nI sc)), (p2, .inl (cA 1, 10, .inr (.inl fna))), (p3, .inl (cA 0, 10, .inl fam)), (oJ4 o0 qn57 0 zn8 (nI qn60)), (qn57, .inl (cA 3, qn58, .inl fn59))]) hP hD [7, 0, 1, 2, 3, 4, 8, 5, 6, 10, 9] (by decide +kernel) rfl
      refine W.widen (k := 19) (n := 4686) (Nat.le_of_ble_eq_true rfl) (Nat.le_of_ble_eq_true rfl) ?_
      exact vx_ret (W.iret (v := (nI qn60)) hx hb hr (fun t ht hW => ⟨⟨(nI qn60), (), rfl, trivial, qn57, qn58, fn59, qn60, zn8, hn62, (by omega), hn63, hn64, by rw [ht]; exact hP9, hD9⟩, hS.F ht⟩) hS.2.2 dX9_write_188)
    · skip
      by_cases hn68 : yn4 = 1
      · skip
        rw [hn68] at hl
        have hl : lv_has ls 3 [(2, .int 1), (0, .ref h0), (1, .int (nI qn1))] := hl
        refine W.eq (g2 := F0 m 54 ls [.int 1, .ref o0]) (by rw [hn68]) ?_
        obtain ⟨hPc, hDc, hFc⟩ := PDq.cut (wc := []) hP hD hS hA [] (by decide) rfl
        refine va_callr (va_runS (As := [.int 1]) (rest := [.ref o0]) ⟨hx, hb, hml, hown, hts⟩ (s_spell1 l D cA sa  H.size) (va_cwS 1 hts gX9_write_X6_spelling rfl rfl rfl (by decide +kernel) ⟨(Nat.le_of_ble_eq_true rfl), (Nat.le_of_ble_eq_true rfl)⟩) ⟨Wd.blind, fun U hU hW => ⟨rfl, Wd.call hPc hDc hK hC hZ hS hFc U hU hW⟩⟩ rfl rfl hl.1 rfl (lv_room (Nat.le_of_ble_eq_true rfl)) dX9_write_54 ⟨(Nat.le_of_ble_eq_true rfl), (Nat.le_of_ble_eq_true rfl)⟩) hS (fun q _ h => hFc q h) hFc (fun u ra t H1 locs ht hvm hw hB hz1 hk1 hS => ?_)
        obtain ⟨hra, hP1, hD1⟩ := hB
        obtain rfl := hra.symm
        rw [ht] at hP1
        obtain ⟨hP, hD⟩ := PDq.join (w := [(oX0 a0 p0 a1 a3 a4 a5 a6 i6 i7 i8 i9 i10 i11 i12 i13 i14 i15 i16 i17 i18 i19), (a3, .inl (cA 0, 10, .inl fs)), (a4, .inl (cA 0, 10, .inl fp)), (a5, .inl (cA 0, 10, .inl ff)), (a6, .inl (cA 0, 10, .inl fd)), (p2, .inl (cA 1, 10, .inr (.inl fna))), (p3, .inl (cA 0, 10, .inl fam)), (oX9 h0 b0 (nI nb) p0 u0 r0 a0 t0 s0 o0), (oX3 p0 pr pb pe pg p1 (nI nd) p2 p3 p4 p5 (nI cn) p6 (nI pq) p7 p8 p9 (nI sc)), (oJ4 o0 qn20 0 zn8 (nI (qn15 + 1))), (qn20, .inl (cA 3, qn21, .inl fn22))]) 11 hP hD [] [0, 1, 2, 3, 4, 5, 6, 7, 8, 9, 10] rfl rfl (by decide +kernel) (by decide +kernel) hk1 hFc hP1 hD1 rfl
        generalize H1 = H at hP hS ⊢
        obtain ⟨hPc, hDc, hFc⟩ := PDq.cut (wc := [(oJ4 o0 qn20 0 zn8 (nI (qn15 + 1))), (qn20, .inl (cA 3, qn21, .inl fn22))]) hP hD hS hA [9, 10] (by decide) rfl
        refine va_callr (va_runV (As := [.ref (sa 34)]) (rest := []) ⟨hx, hb, hml, hown, hts⟩ (j_appendS l D cA sa o0 qn20 (qn15 + 1) qn21 zn8 fn22 34 ([100, 117, 101]) 3 H.size (by decide +kernel) (by omega) hn24 hn25 rfl (by omega)) (cwV 1 hts gX9_write_J4_append_15ec4 rfl rfl rfl (by decide +kernel) ⟨(Nat.le_of_ble_eq_true rfl), (Nat.le_of_ble_eq_true rfl)⟩) ⟨Wd.blind, va_recv hK hPc (ci := 1) (q0 := 0) rfl rfl, fun U hU hW => ⟨rfl, Wd.call hPc hDc hK hC hZ hS hFc U hU hW⟩⟩ rfl rfl hl.1 rfl (lv_room (Nat.le_of_ble_eq_true rfl)) dX9_write_57 ⟨(Nat.le_of_ble_eq_true rfl), (Nat.le_of_ble_eq_true rfl)⟩) hS (fun q _ h => hFc q h) hFc (fun u ra t H1 locs ht hvm hw hB hz1 hk1 hS => ?_)
        obtain ⟨hra, qn69, qn70, fn71, qn72, hn73, hn74, hn75, hn76, hP1, hD1⟩ := hB
        obtain rfl := hra.symm
        rw [ht] at hP1
        obtain ⟨hP, hD⟩ := PDq.join (w := [(oX0 a0 p0 a1 a3 a4 a5 a6 i6 i7 i8 i9 i10 i11 i12 i13 i14 i15 i16 i17 i18 i19), (a3, .inl (cA 0, 10, .inl fs)), (a4, .inl (cA 0, 10, .inl fp)), (a5, .inl (cA 0, 10, .inl ff)), (a6, .inl (cA 0, 10, .inl fd)), (p2, .inl (cA 1, 10, .inr (.inl fna))), (p3, .inl (cA 0, 10, .inl fam)), (oX9 h0 b0 (nI nb) p0 u0 r0 a0 t0 s0 o0), (oX3 p0 pr pb pe pg p1 (nI nd) p2 p3 p4 p5 (nI cn) p6 (nI pq) p7 p8 p9 (nI sc)), (oJ4 o0 qn69 0 zn8 (nI qn72)), (qn69, .inl (cA 3, qn70, .inl fn71))]) 9 hP hD [9, 10] [0, 1, 2, 3, 4, 5, 6, 7, 8] rfl rfl (by decide +kernel) (by decide +kernel) hk1 hFc hP1 hD1 rfl
        generalize H1 = H at hP hS ⊢
        refine lv_pop hx hb dX9_write_60 rfl ?_
        refine lv_aload_n hx hb dX9_write_61 rfl (lv_at hl 1 rfl) ?_
        refine va_get (D := D) (ci := 10) (v := .ref o0) (C := RX9) (T := TX9) (N := 9) hx hb hts inX9 hown hK hP 7 rfl rfl 8 (by decide) (hts (.fieldLink RX9 52 "EscrowDesk" "output" "Ljava/lang/StringBuilder;") (by decide +kernel)) (fun _ h9 => h9) rfl dX9_write_62 ?_
        refine lv_bipush (v := 32) hx hb dX9_write_65 (by decide) ?_
        obtain ⟨hPc, hDc, hFc⟩ := PDq.cut (wc := [(oJ4 o0 qn69 0 zn8 (nI qn72)), (qn69, .inl (cA 3, qn70, .inl fn71))]) hP hD hS hA [9, 10] (by decide) rfl
        refine va_callr (va_runV (As := [.int 32]) (rest := []) ⟨hx, hb, hml, hown, hts⟩ (j_appendC l D cA sa o0 qn69 qn72 qn70 zn8 fn71 32 H.size hn74 hn75 hn76 (by omega) (by omega)) (cwV 1 hts gX9_write_J4_append_cf468 rfl rfl rfl (by decide +kernel) ⟨(Nat.le_of_ble_eq_true rfl), (Nat.le_of_ble_eq_true rfl)⟩) ⟨Wd.blind, va_recv hK hPc (ci := 1) (q0 := 0) rfl rfl, fun U hU hW => ⟨rfl, Wd.call hPc hDc hK hC hZ hS hFc U hU hW⟩⟩ rfl rfl hl.1 rfl (lv_room (Nat.le_of_ble_eq_true rfl)) dX9_write_67 ⟨(Nat.le_of_ble_eq_true rfl), (Nat.le_of_ble_eq_true rfl)⟩) hS (fun q _ h => hFc q h) hFc (fun u ra t H1 locs ht hvm hw hB hz1 hk1 hS => ?_)
        obtain ⟨hra, qn77, qn78, fn79, hn80, hn81, hn82, hP1, hD1⟩ := hB
        obtain rfl := hra.symm
        rw [ht] at hP1
        obtain ⟨hP, hD⟩ := PDq.join (w := [(oX0 a0 p0 a1 a3 a4 a5 a6 i6 i7 i8 i9 i10 i11 i12 i13 i14 i15 i16 i17 i18 i19), (a3, .inl (cA 0, 10, .inl fs)), (a4, .inl (cA 0, 10, .inl fp)), (a5, .inl (cA 0, 10, .inl ff)), (a6, .inl (cA 0, 10, .inl fd)), (p2, .inl (cA 1, 10, .inr (.inl fna))), (p3, .inl (cA 0, 10, .inl fam)), (oX9 h0 b0 (nI nb) p0 u0 r0 a0 t0 s0 o0), (oX3 p0 pr pb pe pg p1 (nI nd) p2 p3 p4 p5 (nI cn) p6 (nI pq) p7 p8 p9 (nI sc)), (oJ4 o0 qn77 0 zn8 (nI (qn72 + 1))), (qn77, .inl (cA 3, qn78, .inl fn79))]) 9 hP hD [9, 10] [0, 1, 2, 3, 4, 5, 6, 7, 8] rfl rfl (by decide +kernel) (by decide +kernel) hk1 hFc hP1 hD1 rfl
        generalize H1 = H at hP hS ⊢
        refine lv_pop hx hb dX9_write_70 rfl ?_
        refine lv_aload_n hx hb dX9_write_71 rfl (lv_at hl 1 rfl) ?_
        refine va_get (D := D) (ci := 10) (v := .ref o0) (C := RX9) (T := TX9) (N := 9) hx hb hts inX9 hown hK hP 7 rfl rfl 8 (by decide) (hts (.fieldLink RX9 52 "EscrowDesk" "output" "Ljava/lang/StringBuilder;") (by decide +kernel)) (fun _ h9 => h9) rfl dX9_write_72 ?_
        refine lv_aload_n hx hb dX9_write_75 rfl (lv_at hl 1 rfl) ?_
        refine va_get (D := D) (ci := 10) (v := .ref a0) (C := RX9) (T := TX9) (N := 9) hx hb hts inX9 hown hK hP 7 rfl rfl 5 (by decide) (hts (.fieldLink RX9 35 "EscrowDesk" "account" "LEscrowDesk$Account;") (by decide +kernel)) (fun _ h9 => h9) rfl dX9_write_76 ?_
        refine va_getN (D := D) (ci := 4) (v := .ref a4) (C := RX0) (T := TX0) (N := 20) hx hb hts inX0 hown hK hP 0 rfl rfl 3 (by decide) (hC.f (A := _) (a := RX9) (i := 126) (b := "EscrowDesk$Account") (n := "paid") (d := "[I") (x := "EscrowDesk") (by decide +kernel)) (fun _ h9 => h9) rfl dX9_write_79 ?_
        refine lv_iload_n hx hb dX9_write_82 rfl (lv_at hl 2 rfl) ?_
        refine va_iald hx hb hK hP 2 0 rfl rfl (vp_in_nI (n := qn1) (N := 10) (show qn1 < 10 by omega) (by decide)) dX9_write_83 ?_
        refine lv_topi (fun yn83 eyn83 => ?_)
        obtain ⟨hPc, hDc, hFc⟩ := PDq.cut (wc := [(oJ4 o0 qn77 0 zn8 (nI (qn72 + 1))), (qn77, .inl (cA 3, qn78, .inl fn79))]) hP hD hS hA [9, 10] (by decide) rfl
        refine va_callr (va_runV (As := [.int yn83]) (rest := []) ⟨hx, hb, hml, hown, hts⟩ (j_appendI l D cA sa o0 qn77 (qn72 + 1) qn78 zn8 fn79 yn83 H.size (by omega) hn81 hn82 (by omega)) (cwV 1 hts gX9_write_J4_append_bf812 rfl rfl rfl (by decide +kernel) ⟨(Nat.le_of_ble_eq_true rfl), (Nat.le_of_ble_eq_true rfl)⟩) ⟨Wd2.blind, va_recv hK hPc (ci := 1) (q0 := 0) rfl rfl, fun U hU hW => ⟨rfl, Wd2.call (Wd.call hPc hDc hK hC hZ hS hFc U hU hW) hG hS hFc hU hW⟩⟩ rfl rfl hl.1 rfl (lv_room (Nat.le_of_ble_eq_true rfl)) dX9_write_84 ⟨(Nat.le_of_ble_eq_true rfl), (Nat.le_of_ble_eq_true rfl)⟩) hS (fun q _ h => hFc q h) hFc (fun u ra t H1 locs ht hvm hw hB hz1 hk1 hS => ?_)
        obtain ⟨hra, qn84, qn85, fn86, qn87, hn88, hn89, hn90, hn91, hP1, hD1⟩ := hB
        obtain rfl := hra.symm
        rw [ht] at hP1
        obtain ⟨hP, hD⟩ := PDq.join (w := [(oX0 a0 p0 a1 a3 a4 a5 a6 i6 i7 i8 i9 i10 i11 i12 i13 i14 i15 i16 i17 i18 i19), (a3, .inl (cA 0, 10, .inl fs)), (a4, .inl (cA 0, 10, .inl fp)), (a5, .inl (cA 0, 10, .inl ff)), (a6, .inl (cA 0, 10, .inl fd)), (p2, .inl (cA 1, 10, .inr (.inl fna))), (p3, .inl (cA 0, 10, .inl fam)), (oX9 h0 b0 (nI nb) p0 u0 r0 a0 t0 s0 o0), (oX3 p0 pr pb pe pg p1 (nI nd) p2 p3 p4 p5 (nI cn) p6 (nI pq) p7 p8 p9 (nI sc)), (oJ4 o0 qn84 0 zn8 (nI qn87)), (qn84, .inl (cA 3, qn85, .inl fn86))]) 9 hP hD [9, 10] [0, 1, 2, 3, 4, 5, 6, 7, 8] rfl rfl (by decide +kernel) (by decide +kernel) hk1 hFc hP1 hD1 rfl
        generalize H1 = H at hP hS ⊢
        refine lv_pop hx hb dX9_write_87 rfl ?_
        refine lv_aload_n hx hb dX9_write_88 rfl (lv_at hl 1 rfl) ?_
        refine va_get (D := D) (ci := 10) (v := .ref o0) (C := RX9) (T := TX9) (N := 9) hx hb hts inX9 hown hK hP 7 rfl rfl 8 (by decide) (hts (.fieldLink RX9 52 "EscrowDesk" "output" "Ljava/lang/StringBuilder;") (by decide +kernel)) (fun _ h9 => h9) rfl dX9_write_89 ?_
        refine lv_bipush (v := 47) hx hb dX9_write_92 (by decide) ?_
        obtain ⟨hPc, hDc, hFc⟩ := PDq.cut (wc := [(oJ4 o0 qn84 0 zn8 (nI qn87)), (qn84, .inl (cA 3, qn85, .inl fn86))]) hP hD hS hA [9, 10] (by decide) rfl
        refine va_callr (va_runV (As := [.int 47]) (rest := []) ⟨hx, hb, hml, hown, hts⟩ (j_appendC l D cA sa o0 qn84 qn87 qn85 zn8 fn86 47 H.size hn89 hn90 hn91 (by omega) (by omega)) (cwV 1 hts gX9_write_J4_append_cf468 rfl rfl rfl (by decide +kernel) ⟨(Nat.le_of_ble_eq_true rfl), (Nat.le_of_ble_eq_true rfl)⟩) ⟨Wd.blind, va_recv hK hPc (ci := 1) (q0 := 0) rfl rfl, fun U hU hW => ⟨rfl, Wd.call hPc hDc hK hC hZ hS hFc U hU hW⟩⟩ rfl rfl hl.1 rfl (lv_room (Nat.le_of_ble_eq_true rfl)) dX9_write_94 ⟨(Nat.le_of_ble_eq_true rfl), (Nat.le_of_ble_eq_true rfl)⟩) hS (fun q _ h => hFc q h) hFc (fun u ra t H1 locs ht hvm hw hB hz1 hk1 hS => ?_)
        obtain ⟨hra, qn92, qn93, fn94, hn95, hn96, hn97, hP1, hD1⟩ := hB
        obtain rfl := hra.symm
        rw [ht] at hP1
        obtain ⟨hP, hD⟩ := PDq.join (w := [(oX0 a0 p0 a1 a3 a4 a5 a6 i6 i7 i8 i9 i10 i11 i12 i13 i14 i15 i16 i17 i18 i19), (a3, .inl (cA 0, 10, .inl fs)), (a4, .inl (cA 0, 10, .inl fp)), (a5, .inl (cA 0, 10, .inl ff)), (a6, .inl (cA 0, 10, .inl fd)), (p2, .inl (cA 1, 10, .inr (.inl fna))), (p3, .inl (cA 0, 10, .inl fam)), (oX9 h0 b0 (nI nb) p0 u0 r0 a0 t0 s0 o0), (oX3 p0 pr pb pe pg p1 (nI nd) p2 p3 p4 p5 (nI cn) p6 (nI pq) p7 p8 p9 (nI sc)), (oJ4 o0 qn92 0 zn8 (nI (qn87 + 1))), (qn92, .inl (cA 3, qn93, .inl fn94))]) 9 hP hD [9, 10] [0, 1, 2, 3, 4, 5, 6, 7, 8] rfl rfl (by decide +kernel) (by decide +kernel) hk1 hFc hP1 hD1 rfl
        generalize H1 = H at hP hS ⊢
        refine lv_pop hx hb dX9_write_97 rfl ?_
        refine lv_aload_n hx hb dX9_write_98 rfl (lv_at hl 1 rfl) ?_
        refine va_get (D := D) (ci := 10) (v := .ref o0) (C := RX9) (T := TX9) (N := 9) hx hb hts inX9 hown hK hP 7 rfl rfl 8 (by decide) (hts (.fieldLink RX9 52 "EscrowDesk" "output" "Ljava/lang/StringBuilder;") (by decide +kernel)) (fun _ h9 => h9) rfl dX9_write_99 ?_
        refine lv_aload_n hx hb dX9_write_102 rfl (lv_at hl 1 rfl) ?_
        refine va_get (D := D) (ci := 10) (v := .ref p0) (C := RX9) (T := TX9) (N := 9) hx hb hts inX9 hown hK hP 7 rfl rfl 2 (by decide) (hts (.fieldLink RX9 16 "EscrowDesk" "plan" "LEscrowDesk$Plan;") (by decide +kernel)) (fun _ h9 => h9) rfl dX9_write_103 ?_
        refine va_getN (D := D) (ci := 7) (v := .ref p3) (C := RX3) (T := TX3) (N := 17) hx hb hts inX3 hown hK hP 8 rfl rfl 7 (by decide) (hC.f (A := _) (a := RX9) (i := 165) (b := "EscrowDesk$Plan") (n := "amounts") (d := "[I") (x := "EscrowDesk") (by decide +kernel)) (fun _ h9 => h9) rfl dX9_write_106 ?_
        refine lv_iload_n hx hb dX9_write_109 rfl (lv_at hl 2 rfl) ?_
        refine va_iald hx hb hK hP 6 0 rfl rfl (vp_in_nI (n := qn1) (N := 10) (show qn1 < 10 by omega) (by decide)) dX9_write_110 ?_
        refine lv_topi (fun yn98 eyn98 => ?_)
        obtain ⟨hPc, hDc, hFc⟩ := PDq.cut (wc := [(oJ4 o0 qn92 0 zn8 (nI (qn87 + 1))), (qn92, .inl (cA 3, qn93, .inl fn94))]) hP hD hS hA [9, 10] (by decide) rfl
        refine va_callr (va_runV (As := [.int yn98]) (rest := []) ⟨hx, hb, hml, hown, hts⟩ (j_appendI l D cA sa o0 qn92 (qn87 + 1) qn93 zn8 fn94 yn98 H.size (by omega) hn96 hn97 (by omega)) (cwV 1 hts gX9_write_J4_append_bf812 rfl rfl rfl (by decide +kernel) ⟨(Nat.le_of_ble_eq_true rfl), (Nat.le_of_ble_eq_true rfl)⟩) ⟨Wd2.blind, va_recv hK hPc (ci := 1) (q0 := 0) rfl rfl, fun U hU hW => ⟨rfl, Wd2.call (Wd.call hPc hDc hK hC hZ hS hFc U hU hW) hG hS hFc hU hW⟩⟩ rfl rfl hl.1 rfl (lv_room (Nat.le_of_ble_eq_true rfl)) dX9_write_111 ⟨(Nat.le_of_ble_eq_true rfl), (Nat.le_of_ble_eq_true rfl)⟩) hS (fun q _ h => hFc q h) hFc (fun u ra t H1 locs ht hvm hw hB hz1 hk1 hS => ?_)
        obtain ⟨hra, qn99, qn100, fn101, qn102, hn103, hn104, hn105, hn106, hP1, hD1⟩ := hB
        obtain rfl := hra.symm
        rw [ht] at hP1
        obtain ⟨hP, hD⟩ := PDq.join (w := [(oX0 a0 p0 a1 a3 a4 a5 a6 i6 i7 i8 i9 i10 i11 i12 i13 i14 i15 i16 i17 i18 i19), (a3, .inl (cA 0, 10, .inl fs)), (a4, .inl (cA 0, 10, .inl fp)), (a5, .inl (cA 0, 10, .inl ff)), (a6, .inl (cA 0, 10, .inl fd)), (p2, .inl (cA 1, 10, .inr (.inl fna))), (p3, .inl (cA 0, 10, .inl fam)), (oX9 h0 b0 (nI nb) p0 u0 r0 a0 t0 s0 o0), (oX3 p0 pr pb pe pg p1 (nI nd) p2 p3 p4 p5 (nI cn) p6 (nI pq) p7 p8 p9 (nI sc)), (oJ4 o0 qn99 0 zn8 (nI qn102)), (qn99, .inl (cA 3, qn100, .inl fn101))]) 9 hP hD [9, 10] [0, 1, 2, 3, 4, 5, 6, 7, 8] rfl rfl (by decide +kernel) (by decide +kernel) hk1 hFc hP1 hD1 rfl
        generalize H1 = H at hP hS ⊢
        refine lv_pop hx hb dX9_write_114 rfl ?_
        refine lv_iload_n hx hb dX9_write_115 rfl (lv_at hl 0 rfl) ?_
        refine lv_iconst (v := 1) hx hb dX9_write_116 (by decide) ?_
        refine lv_icmp_ne (tgt := 148) hx hb dX9_write_117 (by decide) (fun c9 => absurd c9 (by decide)) (fun c107 => ?_)
        refine lv_aload_n hx hb dX9_write_120 rfl (lv_at hl 1 rfl) ?_
        refine va_get (D := D) (ci := 10) (v := .ref o0) (C := RX9) (T := TX9) (N := 9) hx hb hts inX9 hown hK hP 7 rfl rfl 8 (by decide) (hts (.fieldLink RX9 52 "EscrowDesk" "output" "Ljava/lang/StringBuilder;") (by decide +kernel)) (fun _ h9 => h9) rfl dX9_write_121 ?_
        refine va_ldcwS hx hb hown (hC.str 22 rfl) dX9_write_124 ?_
        obtain ⟨hPc, hDc, hFc⟩ := PDq.cut (wc := [(oJ4 o0 qn99 0 zn8 (nI qn102)), (qn99, .inl (cA 3, qn100, .inl fn101))]) hP hD hS hA [9, 10] (by decide) rfl
        refine va_callr (va_runV (As := [.ref (sa 22)]) (rest := []) ⟨hx, hb, hml, hown, hts⟩ (j_appendS l D cA sa o0 qn99 qn102 qn100 zn8 fn101 22 ([32, 115, 105, 110, 99, 101, 32]) 7 H.size (by decide +kernel) hn104 hn105 hn106 rfl (by omega)) (cwV 1 hts gX9_write_J4_append_15ec4 rfl rfl rfl (by decide +kernel) ⟨(Nat.le_of_ble_eq_true rfl), (Nat.le_of_ble_eq_true rfl)⟩) ⟨Wd.blind, va_recv hK hPc (ci := 1) (q0 := 0) rfl rfl, fun U hU hW => ⟨rfl, Wd.call hPc hDc hK hC hZ hS hFc U hU hW⟩⟩ rfl rfl hl.1 rfl (lv_room (Nat.le_of_ble_eq_true rfl)) dX9_write_127 ⟨(Nat.le_of_ble_eq_true rfl), (Nat.le_of_ble_eq_true rfl)⟩) hS (fun q _ h => hFc q h) hFc (fun u ra t H1 locs ht hvm hw hB hz1 hk1 hS => ?_)
        obtain ⟨hra, qn108, qn109, fn110, qn111, hn112, hn113, hn114, hn115, hP1, hD1⟩ := hB
        obtain rfl := hra.symm
        rw [ht] at hP1
        obtain ⟨hP, hD⟩ := PDq.join (w := [(oX0 a0 p0 a1 a3 a4 a5 a6 i6 i7 i8 i9 i10 i11 i12 i13 i14 i15 i16 i17 i18 i19), (a3, .inl (cA 0, 10, .inl fs)), (a4, .inl (cA 0, 10, .inl fp)), (a5, .inl (cA 0, 10, .inl ff)), (a6, .inl (cA 0, 10, .inl fd)), (p2, .inl (cA 1, 10, .inr (.inl fna))), (p3, .inl (cA 0, 10, .inl fam)), (oX9 h0 b0 (nI nb) p0 u0 r0 a0 t0 s0 o0), (oX3 p0 pr pb pe pg p1 (nI nd) p2 p3 p4 p5 (nI cn) p6 (nI pq) p7 p8 p9 (nI sc)), (oJ4 o0 qn108 0 zn8 (nI qn111)), (qn108, .inl (cA 3, qn109, .inl fn110))]) 9 hP hD [9, 10] [0, 1, 2, 3, 4, 5, 6, 7, 8] rfl rfl (by decide +kernel) (by decide +kernel) hk1 hFc hP1 hD1 rfl
        generalize H1 = H at hP hS ⊢
        refine lv_pop hx hb dX9_write_130 rfl ?_
        refine lv_aload_n hx hb dX9_write_131 rfl (lv_at hl 1 rfl) ?_
        refine va_get (D := D) (ci := 10) (v := .ref o0) (C := RX9) (T := TX9) (N := 9) hx hb hts inX9 hown hK hP 7 rfl rfl 8 (by decide) (hts (.fieldLink RX9 52 "EscrowDesk" "output" "Ljava/lang/StringBuilder;") (by decide +kernel)) (fun _ h9 => h9) rfl dX9_write_132 ?_
        refine lv_aload_n hx hb dX9_write_135 rfl (lv_at hl 1 rfl) ?_
        refine va_get (D := D) (ci := 10) (v := .ref a0) (C := RX9) (T := TX9) (N := 9) hx hb hts inX9 hown hK hP 7 rfl rfl 5 (by decide) (hts (.fieldLink RX9 35 "EscrowDesk" "account" "LEscrowDesk$Account;") (by decide +kernel)) (fun _ h9 => h9) rfl dX9_write_136 ?_
        refine va_getN (D := D) (ci := 4) (v := .ref a6) (C := RX0) (T := TX0) (N := 20) hx hb hts inX0 hown hK hP 0 rfl rfl 5 (by decide) (hC.f (A := _) (a := RX9) (i := 136) (b := "EscrowDesk$Account") (n := "dueDay") (d := "[I") (x := "EscrowDesk") (by decide +kernel)) (fun _ h9 => h9) rfl dX9_write_139 ?_
        refine lv_iload_n hx hb dX9_write_142 rfl (lv_at hl 2 rfl) ?_
        refine va_iald hx hb hK hP 4 0 rfl rfl (vp_in_nI (n := qn1) (N := 10) (show qn1 < 10 by omega) (by decide)) dX9_write_143 ?_
        refine lv_topi (fun yn116 eyn116 => ?_)
        obtain ⟨hPc, hDc, hFc⟩ := PDq.cut (wc := [(oJ4 o0 qn108 0 zn8 (nI qn111)), (qn108, .inl (cA 3, qn109, .inl fn110))]) hP hD hS hA [9, 10] (by decide) rfl
        refine va_callr (va_runV (As := [.int yn116]) (rest := []) ⟨hx, hb, hml, hown, hts⟩ (j_appendI l D cA sa o0 qn108 qn111 qn109 zn8 fn110 yn116 H.size hn113 hn114 hn115 (by omega)) (cwV 1 hts gX9_write_J4_append_bf812 rfl rfl rfl (by decide +kernel) ⟨(Nat.le_of_ble_eq_true rfl), (Nat.le_of_ble_eq_true rfl)⟩) ⟨Wd2.blind, va_recv hK hPc (ci := 1) (q0 := 0) rfl rfl, fun U hU hW => ⟨rfl, Wd2.call (Wd.call hPc hDc hK hC hZ hS hFc U hU hW) hG hS hFc hU hW⟩⟩ rfl rfl hl.1 rfl (lv_room (Nat.le_of_ble_eq_true rfl)) dX9_write_144 ⟨(Nat.le_of_ble_eq_true rfl), (Nat.le_of_ble_eq_true rfl)⟩) hS (fun q _ h => hFc q h) hFc (fun u ra t H1 locs ht hvm hw hB hz1 hk1 hS => ?_)
        obtain ⟨hra, qn117, qn118, fn119, qn120, hn121, hn122, hn123, hn124, hP1, hD1⟩ := hB
        obtain rfl := hra.symm
        rw [ht] at hP1
        obtain ⟨hP, hD⟩ := PDq.join (w := [(oX0 a0 p0 a1 a3 a4 a5 a6 i6 i7 i8 i9 i10 i11 i12 i13 i14 i15 i16 i17 i18 i19), (a3, .inl (cA 0, 10, .inl fs)), (a4, .inl (cA 0, 10, .inl fp)), (a5, .inl (cA 0, 10, .inl ff)), (a6, .inl (cA 0, 10, .inl fd)), (p2, .inl (cA 1, 10, .inr (.inl fna))), (p3, .inl (cA 0, 10, .inl fam)), (oX9 h0 b0 (nI nb) p0 u0 r0 a0 t0 s0 o0), (oX3 p0 pr pb pe pg p1 (nI nd) p2 p3 p4 p5 (nI cn) p6 (nI pq) p7 p8 p9 (nI sc)), (oJ4 o0 qn117 0 zn8 (nI qn120)), (qn117, .inl (cA 3, qn118, .inl fn119))]) 9 hP hD [9, 10] [0, 1, 2, 3, 4, 5, 6, 7, 8] rfl rfl (by decide +kernel) (by decide +kernel) hk1 hFc hP1 hD1 rfl
        generalize H1 = H at hP hS ⊢
        refine lv_pop hx hb dX9_write_147 rfl ?_
        refine lv_iload_n hx hb dX9_write_148 rfl (lv_at hl 0 rfl) ?_
        refine lv_iconst (v := 2) hx hb dX9_write_149 (by decide) ?_
        refine lv_icmp_ne (tgt := 181) hx hb dX9_write_150 (by decide) (fun c125 => ?_) (fun c9 => absurd c9 (by decide))
        refine lv_aload_n hx hb dX9_write_181 rfl (lv_at hl 1 rfl) ?_
        refine va_get (D := D) (ci := 10) (v := .ref o0) (C := RX9) (T := TX9) (N := 9) hx hb hts inX9 hown hK hP 7 rfl rfl 8 (by decide) (hts (.fieldLink RX9 52 "EscrowDesk" "output" "Ljava/lang/StringBuilder;") (by decide +kernel)) (fun _ h9 => h9) rfl dX9_write_182 ?_
        obtain ⟨hPc, hDc, hFc⟩ := PDq.cut (wc := [(oJ4 o0 qn117 0 zn8 (nI qn120))]) hP hD hS hA [9] (by decide) rfl
        refine va_calli (va_runV (As := []) (rest := []) ⟨hx, hb, hml, hown, hts⟩ (j_length l D cA sa o0 qn117 qn120 zn8 H.size) (cwV 0 hts gX9_write_J4_length_8abf5 rfl rfl rfl (by decide +kernel) ⟨(Nat.le_of_ble_eq_true rfl), (Nat.le_of_ble_eq_true rfl)⟩) ⟨Wd.blind, va_recv hK hPc (ci := 1) (q0 := 0) rfl rfl, fun U hU hW => ⟨rfl, Wd.call hPc hDc hK hC hZ hS hFc U hU hW⟩⟩ rfl rfl hl.1 rfl (lv_room (Nat.le_of_ble_eq_true rfl)) dX9_write_185 ⟨(Nat.le_of_ble_eq_true rfl), (Nat.le_of_ble_eq_true rfl)⟩) hS (fun q _ h => hFc q h) hFc (fun rn126 u t H1 locs ht hvm hw hB hz1 hk1 hS => ?_)
        obtain ⟨hP1, hD1⟩ := hB
        rw [ht] at hP1
        obtain ⟨hP, hD⟩ := PDq.join (w := [(oX0 a0 p0 a1 a3 a4 a5 a6 i6 i7 i8 i9 i10 i11 i12 i13 i14 i15 i16 i17 i18 i19), (a3, .inl (cA 0, 10, .inl fs)), (a4, .inl (cA 0, 10, .inl fp)), (a5, .inl (cA 0, 10, .inl ff)), (a6, .inl (cA 0, 10, .inl fd)), (p2, .inl (cA 1, 10, .inr (.inl fna))), (p3, .inl (cA 0, 10, .inl fam)), (oX9 h0 b0 (nI nb) p0 u0 r0 a0 t0 s0 o0), (oX3 p0 pr pb pe pg p1 (nI nd) p2 p3 p4 p5 (nI cn) p6 (nI pq) p7 p8 p9 (nI sc)), (qn117, .inl (cA 3, qn118, .inl fn119)), (oJ4 o0 qn117 0 zn8 (nI qn120))]) 10 hP hD [9] [0, 1, 2, 3, 4, 5, 6, 7, 8, 10] rfl rfl (by decide +kernel) (by decide +kernel) hk1 hFc hP1 hD1 rfl
        generalize H1 = H at hP hS ⊢
        obtain rfl : rn126 = (nI qn120) := hw
        obtain ⟨hP9, hD9⟩ := PDq.sub (ws' := [(oX9 h0 b0 (nI nb) p0 u0 r0 a0 t0 s0 o0), (oX0 a0 p0 a1 a3 a4 a5 a6 i6 i7 i8 i9 i10 i11 i12 i13 i14 i15 i16 i17 i18 i19), (a3, .inl (cA 0, 10, .inl fs)), (a4, .inl (cA 0, 10, .inl fp)), (a5, .inl (cA 0, 10, .inl ff)), (a6, .inl (cA 0, 10, .inl fd)), (oX3 p0 pr pb pe pg p1 (nI nd) p2 p3 p4 p5 (nI cn) p6 (nI pq) p7 p8 p9 (nI sc)), (p2, .inl (cA 1, 10, .inr (.inl fna))), (p3, .inl (cA 0, 10, .inl fam)), (oJ4 o0 qn117 0 zn8 (nI qn120)), (qn117, .inl (cA 3, qn118, .inl fn119))]) hP hD [7, 0, 1, 2, 3, 4, 8, 5, 6, 10, 9] (by decide +kernel) rfl
        refine W.widen (k := 19) (n := 4686) (Nat.le_of_ble_eq_true rfl) (Nat.le_of_ble_eq_true rfl) ?_
        exact vx_ret (W.iret (v := (nI qn120)) hx hb hr (fun t ht hW => ⟨⟨(nI qn120), (), rfl, trivial, qn117, qn118, fn119, qn120, zn8, hn122, (by omega), hn123, hn124, by rw [ht]; exact hP9, hD9⟩, hS.F ht⟩) hS.2.2 dX9_write_188)
      · skip
        by_cases hn127 : yn4 = 2
        · skip
          rw [hn127] at hl
          have hl : lv_has ls 3 [(2, .int 2), (0, .ref h0), (1, .int (nI qn1))] := hl
          refine W.eq (g2 := F0 m 54 ls [.int 2, .ref o0]) (by rw [hn127]) ?_
          obtain ⟨hPc, hDc, hFc⟩ := PDq.cut (wc := []) hP hD hS hA [] (by decide) rfl
          refine va_callr (va_runS (As := [.int 2]) (rest := [.ref o0]) ⟨hx, hb, hml, hown, hts⟩ (s_spell2 l D cA sa  H.size) (va_cwS 1 hts gX9_write_X6_spelling rfl rfl rfl (by decide +kernel) ⟨(Nat.le_of_ble_eq_true rfl), (Nat.le_of_ble_eq_true rfl)⟩) ⟨Wd.blind, fun U hU hW => ⟨rfl, Wd.call hPc hDc hK hC hZ hS hFc U hU hW⟩⟩ rfl rfl hl.1 rfl (lv_room (Nat.le_of_ble_eq_true rfl)) dX9_write_54 ⟨(Nat.le_of_ble_eq_true rfl), (Nat.le_of_ble_eq_true rfl)⟩) hS (fun q _ h => hFc q h) hFc (fun u ra t H1 locs ht hvm hw hB hz1 hk1 hS => ?_)
          obtain ⟨hra, hP1, hD1⟩ := hB
          obtain rfl := hra.symm
          rw [ht] at hP1
          obtain ⟨hP, hD⟩ := PDq.join (w := [(oX0 a0 p0 a1 a3 a4 a5 a6 i6 i7 i8 i9 i10 i11 i12 i13 i14 i15 i16 i17 i18 i19), (a3, .inl (cA 0, 10, .inl fs)), (a4, .inl (cA 0, 10, .inl fp)), (a5, .inl (cA 0, 10, .inl ff)), (a6, .inl (cA 0, 10, .inl fd)), (p2, .inl (cA 1, 10, .inr (.inl fna))), (p3, .inl (cA 0, 10, .inl fam)), (oX9 h0 b0 (nI nb) p0 u0 r0 a0 t0 s0 o0), (oX3 p0 pr pb pe pg p1 (nI nd) p2 p3 p4 p5 (nI cn) p6 (nI pq) p7 p8 p9 (nI sc)), (oJ4 o0 qn20 0 zn8 (nI (qn15 + 1))), (qn20, .inl (cA 3, qn21, .inl fn22))]) 11 hP hD [] [0, 1, 2, 3, 4, 5, 6, 7, 8, 9, 10] rfl rfl (by decide +kernel) (by decide +kernel) hk1 hFc hP1 hD1 rfl
          generalize H1 = H at hP hS ⊢
          obtain ⟨hPc, hDc, hFc⟩ := PDq.cut (wc := [(oJ4 o0 qn20 0 zn8 (nI (qn15 + 1))), (qn20, .inl (cA 3, qn21, .inl fn22))]) hP hD hS hA [9, 10] (by decide) rfl
          refine va_callr (va_runV (As := [.ref (sa 35)]) (rest := []) ⟨hx, hb, hml, hown, hts⟩ (j_appendS l D cA sa o0 qn20 (qn15 + 1) qn21 zn8 fn22 35 ([100, 105, 115, 112, 117, 116, 101, 100]) 8 H.size (by decide +kernel) (by omega) hn24 hn25 rfl (by omega)) (cwV 1 hts gX9_write_J4_append_15ec4 rfl rfl rfl (by decide +kernel) ⟨(Nat.le_of_ble_eq_true rfl), (Nat.le_of_ble_eq_true rfl)⟩) ⟨Wd.blind, va_recv hK hPc (ci := 1) (q0 := 0) rfl rfl, fun U hU hW => ⟨rfl, Wd.call hPc hDc hK hC hZ hS hFc U hU hW⟩⟩ rfl rfl hl.1 rfl (lv_room (Nat.le_of_ble_eq_true rfl)) dX9_write_57 ⟨(Nat.le_of_ble_eq_true rfl), (Nat.le_of_ble_eq_true rfl)⟩) hS (fun q _ h => hFc q h) hFc (fun u ra t H1 locs ht hvm hw hB hz1 hk1 hS => ?_)
          obtain ⟨hra, qn128, qn129, fn130, qn131, hn132, hn133, hn134, hn135, hP1, hD1⟩ := hB
          obtain rfl := hra.symm
          rw [ht] at hP1
          obtain ⟨hP, hD⟩ := PDq.join (w := [(oX0 a0 p0 a1 a3 a4 a5 a6 i6 i7 i8 i9 i10 i11 i12 i13 i14 i15 i16 i17 i18 i19), (a3, .inl (cA 0, 10, .inl fs)), (a4, .inl (cA 0, 10, .inl fp)), (a5, .inl (cA 0, 10, .inl ff)), (a6, .inl (cA 0, 10, .inl fd)), (p2, .inl (cA 1, 10, .inr (.inl fna))), (p3, .inl (cA 0, 10, .inl fam)), (oX9 h0 b0 (nI nb) p0 u0 r0 a0 t0 s0 o0), (oX3 p0 pr pb pe pg p1 (nI nd) p2 p3 p4 p5 (nI cn) p6 (nI pq) p7 p8 p9 (nI sc)), (oJ4 o0 qn128 0 zn8 (nI qn131)), (qn128, .inl (cA 3, qn129, .inl fn130))]) 9 hP hD [9, 10] [0, 1, 2, 3, 4, 5, 6, 7, 8] rfl rfl (by decide +kernel) (by decide +kernel) hk1 hFc hP1 hD1 rfl
          generalize H1 = H at hP hS ⊢
          refine lv_pop hx hb dX9_write_60 rfl ?_
          refine lv_aload_n hx hb dX9_write_61 rfl (lv_at hl 1 rfl) ?_
          refine va_get (D := D) (ci := 10) (v := .ref o0) (C := RX9) (T := TX9) (N := 9) hx hb hts inX9 hown hK hP 7 rfl rfl 8 (by decide) (hts (.fieldLink RX9 52 "EscrowDesk" "output" "Ljava/lang/StringBuilder;") (by decide +kernel)) (fun _ h9 => h9) rfl dX9_write_62 ?_
          refine lv_bipush (v := 32) hx hb dX9_write_65 (by decide) ?_
          obtain ⟨hPc, hDc, hFc⟩ := PDq.cut (wc := [(oJ4 o0 qn128 0 zn8 (nI qn131)), (qn128, .inl (cA 3, qn129, .inl fn130))]) hP hD hS hA [9, 10] (by decide) rfl
          refine va_callr (va_runV (As := [.int 32]) (rest := []) ⟨hx, hb, hml, hown, hts⟩ (j_appendC l D cA sa o0 qn128 qn131 qn129 zn8 fn130 32 H.size hn133 hn134 hn135 (by omega) (by omega)) (cwV 1 hts gX9_write_J4_append_cf468 rfl rfl rfl (by decide +kernel) ⟨(Nat.le_of_ble_eq_true rfl), (Nat.le_of_ble_eq_true rfl)⟩) ⟨Wd.blind, va_recv hK hPc (ci := 1) (q0 := 0) rfl rfl, fun U hU hW => ⟨rfl, Wd.call hPc hDc hK hC hZ hS hFc U hU hW⟩⟩ rfl rfl hl.1 rfl (lv_room (Nat.le_of_ble_eq_true rfl)) dX9_write_67 ⟨(Nat.le_of_ble_eq_true rfl), (Nat.le_of_ble_eq_true rfl)⟩) hS (fun q _ h => hFc q h) hFc (fun u ra t H1 locs ht hvm hw hB hz1 hk1 hS => ?_)
          obtain ⟨hra, qn136, qn137, fn138, hn139, hn140, hn141, hP1, hD1⟩ := hB
          obtain rfl := hra.symm
          rw [ht] at hP1
          obtain ⟨hP, hD⟩ := PDq.join (w := [(oX0 a0 p0 a1 a3 a4 a5 a6 i6 i7 i8 i9 i10 i11 i12 i13 i14 i15 i16 i17 i18 i19), (a3, .inl (cA 0, 10, .inl fs)), (a4, .inl (cA 0, 10, .inl fp)), (a5, .inl (cA 0, 10, .inl ff)), (a6, .inl (cA 0, 10, .inl fd)), (p2, .inl (cA 1, 10, .inr (.inl fna))), (p3, .inl (cA 0, 10, .inl fam)), (oX9 h0 b0 (nI nb) p0 u0 r0 a0 t0 s0 o0), (oX3 p0 pr pb pe pg p1 (nI nd) p2 p3 p4 p5 (nI cn) p6 (nI pq) p7 p8 p9 (nI sc)), (oJ4 o0 qn136 0 zn8 (nI (qn131 + 1))), (qn136, .inl (cA 3, qn137, .inl fn138))]) 9 hP hD [9, 10] [0, 1, 2, 3, 4, 5, 6, 7, 8] rfl rfl (by decide +kernel) (by decide +kernel) hk1 hFc hP1 hD1 rfl
          generalize H1 = H at hP hS ⊢
          refine lv_pop hx hb dX9_write_70 rfl ?_
          refine lv_aload_n hx hb dX9_write_71 rfl (lv_at hl 1 rfl) ?_
          refine va_get (D := D) (ci := 10) (v := .ref o0) (C := RX9) (T := TX9) (N := 9) hx hb hts inX9 hown hK hP 7 rfl rfl 8 (by decide) (hts (.fieldLink RX9 52 "EscrowDesk" "output" "Ljava/lang/StringBuilder;") (by decide +kernel)) (fun _ h9 => h9) rfl dX9_write_72 ?_
          refine lv_aload_n hx hb dX9_write_75 rfl (lv_at hl 1 rfl) ?_
          refine va_get (D := D) (ci := 10) (v := .ref a0) (C := RX9) (T := TX9) (N := 9) hx hb hts inX9 hown hK hP 7 rfl rfl 5 (by decide) (hts (.fieldLink RX9 35 "EscrowDesk" "account" "LEscrowDesk$Account;") (by decide +kernel)) (fun _ h9 => h9) rfl dX9_write_76 ?_
          refine va_getN (D := D) (ci := 4) (v := .ref a4) (C := RX0) (T := TX0) (N := 20) hx hb hts inX0 hown hK hP 0 rfl rfl 3 (by decide) (hC.f (A := _) (a := RX9) (i := 126) (b := "EscrowDesk$Account") (n := "paid") (d := "[I") (x := "EscrowDesk") (by decide +kernel)) (fun _ h9 => h9) rfl dX9_write_79 ?_
          refine lv_iload_n hx hb dX9_write_82 rfl (lv_at hl 2 rfl) ?_
          refine va_iald hx hb hK hP 2 0 rfl rfl (vp_in_nI (n := qn1) (N := 10) (show qn1 < 10 by omega) (by decide)) dX9_write_83 ?_
          refine lv_topi (fun yn142 eyn142 => ?_)
          obtain ⟨hPc, hDc, hFc⟩ := PDq.cut (wc := [(oJ4 o0 qn136 0 zn8 (nI (qn131 + 1))), (qn136, .inl (cA 3, qn137, .inl fn138))]) hP hD hS hA [9, 10] (by decide) rfl
          refine va_callr (va_runV (As := [.int yn142]) (rest := []) ⟨hx, hb, hml, hown, hts⟩ (j_appendI l D cA sa o0 qn136 (qn131 + 1) qn137 zn8 fn138 yn142 H.size (by omega) hn140 hn141 (by omega)) (cwV 1 hts gX9_write_J4_append_bf812 rfl rfl rfl (by decide +kernel) ⟨(Nat.le_of_ble_eq_true rfl), (Nat.le_of_ble_eq_true rfl)⟩) ⟨Wd2.blind, va_recv hK hPc (ci := 1) (q0 := 0) rfl rfl, fun U hU hW => ⟨rfl, Wd2.call (Wd.call hPc hDc hK hC hZ hS hFc U hU hW) hG hS hFc hU hW⟩⟩ rfl rfl hl.1 rfl (lv_room (Nat.le_of_ble_eq_true rfl)) dX9_write_84 ⟨(Nat.le_of_ble_eq_true rfl), (Nat.le_of_ble_eq_true rfl)⟩) hS (fun q _ h => hFc q h) hFc (fun u ra t H1 locs ht hvm hw hB hz1 hk1 hS => ?_)
          obtain ⟨hra, qn143, qn144, fn145, qn146, hn147, hn148, hn149, hn150, hP1, hD1⟩ := hB
          obtain rfl := hra.symm
          rw [ht] at hP1
          obtain ⟨hP, hD⟩ := PDq.join (w := [(oX0 a0 p0 a1 a3 a4 a5 a6 i6 i7 i8 i9 i10 i11 i12 i13 i14 i15 i16 i17 i18 i19), (a3, .inl (cA 0, 10, .inl fs)), (a4, .inl (cA 0, 10, .inl fp)), (a5, .inl (cA 0, 10, .inl ff)), (a6, .inl (cA 0, 10, .inl fd)), (p2, .inl (cA 1, 10, .inr (.inl fna))), (p3, .inl (cA 0, 10, .inl fam)), (oX9 h0 b0 (nI nb) p0 u0 r0 a0 t0 s0 o0), (oX3 p0 pr pb pe pg p1 (nI nd) p2 p3 p4 p5 (nI cn) p6 (nI pq) p7 p8 p9 (nI sc)), (oJ4 o0 qn143 0 zn8 (nI qn146)), (qn143, .inl (cA 3, qn144, .inl fn145))]) 9 hP hD [9, 10] [0, 1, 2, 3, 4, 5, 6, 7, 8] rfl rfl (by decide +kernel) (by decide +kernel) hk1 hFc hP1 hD1 rfl
          generalize H1 = H at hP hS ⊢
          refine lv_pop hx hb dX9_write_87 rfl ?_
          refine lv_aload_n hx hb dX9_write_88 rfl (lv_at hl 1 rfl) ?_
          refine va_get (D := D) (ci := 10) (v := .ref o0) (C := RX9) (T := TX9) (N := 9) hx hb hts inX9 hown hK hP 7 rfl rfl 8 (by decide) (hts (.fieldLink RX9 52 "EscrowDesk" "output" "Ljava/lang/StringBuilder;") (by decide +kernel)) (fun _ h9 => h9) rfl dX9_write_89 ?_
          refine lv_bipush (v := 47) hx hb dX9_write_92 (by decide) ?_
          obtain ⟨hPc, hDc, hFc⟩ := PDq.cut (wc := [(oJ4 o0 qn143 0 zn8 (nI qn146)), (qn143, .inl (cA 3, qn144, .inl fn145))]) hP hD hS hA [9, 10] (by decide) rfl
          refine va_callr (va_runV (As := [.int 47]) (rest := []) ⟨hx, hb, hml, hown, hts⟩ (j_appendC l D cA sa o0 qn143 qn146 qn144 zn8 fn145 47 H.size hn148 hn149 hn150 (by omega) (by omega)) (cwV 1 hts gX9_write_J4_append_cf468 rfl rfl rfl (by decide +kernel) ⟨(Nat.le_of_ble_eq_true rfl), (Nat.le_of_ble_eq_true rfl)⟩) ⟨Wd.blind, va_recv hK hPc (ci := 1) (q0 := 0) rfl rfl, fun U hU hW => ⟨rfl, Wd.call hPc hDc hK hC hZ hS hFc U hU hW⟩⟩ rfl rfl hl.1 rfl (lv_room (Nat.le_of_ble_eq_true rfl)) dX9_write_94 ⟨(Nat.le_of_ble_eq_true rfl), (Nat.le_of_ble_eq_true rfl)⟩) hS (fun q _ h => hFc q h) hFc (fun u ra t H1 locs ht hvm hw hB hz1 hk1 hS => ?_)
          obtain ⟨hra, qn151, qn152, fn153, hn154, hn155, hn156, hP1, hD1⟩ := hB
          obtain rfl := hra.symm
          rw [ht] at hP1
          obtain ⟨hP, hD⟩ := PDq.join (w := [(oX0 a0 p0 a1 a3 a4 a5 a6 i6 i7 i8 i9 i10 i11 i12 i13 i14 i15 i16 i17 i18 i19), (a3, .inl (cA 0, 10, .inl fs)), (a4, .inl (cA 0, 10, .inl fp)), (a5, .inl (cA 0, 10, .inl ff)), (a6, .inl (cA 0, 10, .inl fd)), (p2, .inl (cA 1, 10, .inr (.inl fna))), (p3, .inl (cA 0, 10, .inl fam)), (oX9 h0 b0 (nI nb) p0 u0 r0 a0 t0 s0 o0), (oX3 p0 pr pb pe pg p1 (nI nd) p2 p3 p4 p5 (nI cn) p6 (nI pq) p7 p8 p9 (nI sc)), (oJ4 o0 qn151 0 zn8 (nI (qn146 + 1))), (qn151, .inl (cA 3, qn152, .inl fn153))]) 9 hP hD [9, 10] [0, 1, 2, 3, 4, 5, 6, 7, 8] rfl rfl (by decide +kernel) (by decide +kernel) hk1 hFc hP1 hD1 rfl
          generalize H1 = H at hP hS ⊢
          refine lv_pop hx hb dX9_write_97 rfl ?_
          refine lv_aload_n hx hb dX9_write_98 rfl (lv_at hl 1 rfl) ?_
          refine va_get (D := D) (ci := 10) (v := .ref o0) (C := RX9) (T := TX9) (N := 9) hx hb hts inX9 hown hK hP 7 rfl rfl 8 (by decide) (hts (.fieldLink RX9 52 "EscrowDesk" "output" "Ljava/lang/StringBuilder;") (by decide +kernel)) (fun _ h9 => h9) rfl dX9_write_99 ?_
          refine lv_aload_n hx hb dX9_write_102 rfl (lv_at hl 1 rfl) ?_
          refine va_get (D := D) (ci := 10) (v := .ref p0) (C := RX9) (T := TX9) (N := 9) hx hb hts inX9 hown hK hP 7 rfl rfl 2 (by decide) (hts (.fieldLink RX9 16 "EscrowDesk" "plan" "LEscrowDesk$Plan;") (by decide +kernel)) (fun _ h9 => h9) rfl dX9_write_103 ?_
          refine va_getN (D := D) (ci := 7) (v := .ref p3) (C := RX3) (T := TX3) (N := 17) hx hb hts inX3 hown hK hP 8 rfl rfl 7 (by decide) (hC.f (A := _) (a := RX9) (i := 165) (b := "EscrowDesk$Plan") (n := "amounts") (d := "[I") (x := "EscrowDesk") (by decide +kernel)) (fun _ h9 => h9) rfl dX9_write_106 ?_
          refine lv_iload_n hx hb dX9_write_109 rfl (lv_at hl 2 rfl) ?_
          refine va_iald hx hb hK hP 6 0 rfl rfl (vp_in_nI (n := qn1) (N := 10) (show qn1 < 10 by omega) (by decide)) dX9_write_110 ?_
          refine lv_topi (fun yn157 eyn157 => ?_)
          obtain ⟨hPc, hDc, hFc⟩ := PDq.cut (wc := [(oJ4 o0 qn151 0 zn8 (nI (qn146 + 1))), (qn151, .inl (cA 3, qn152, .inl fn153))]) hP hD hS hA [9, 10] (by decide) rfl
          refine va_callr (va_runV (As := [.int yn157]) (rest := []) ⟨hx, hb, hml, hown, hts⟩ (j_appendI l D cA sa o0 qn151 (qn146 + 1) qn152 zn8 fn153 yn157 H.size (by omega) hn155 hn156 (by omega)) (cwV 1 hts gX9_write_J4_append_bf812 rfl rfl rfl (by decide +kernel) ⟨(Nat.le_of_ble_eq_true rfl), (Nat.le_of_ble_eq_true rfl)⟩) ⟨Wd2.blind, va_recv hK hPc (ci := 1) (q0 := 0) rfl rfl, fun U hU hW => ⟨rfl, Wd2.call (Wd.call hPc hDc hK hC hZ hS hFc U hU hW) hG hS hFc hU hW⟩⟩ rfl rfl hl.1 rfl (lv_room (Nat.le_of_ble_eq_true rfl)) dX9_write_111 ⟨(Nat.le_of_ble_eq_true rfl), (Nat.le_of_ble_eq_true rfl)⟩) hS (fun q _ h => hFc q h) hFc (fun u ra t H1 locs ht hvm hw hB hz1 hk1 hS => ?_)
          obtain ⟨hra, qn158, qn159, fn160, qn161, hn162, hn163, hn164, hn165, hP1, hD1⟩ := hB
          obtain rfl := hra.symm
          rw [ht] at hP1
          obtain ⟨hP, hD⟩ := PDq.join (w := [(oX0 a0 p0 a1 a3 a4 a5 a6 i6 i7 i8 i9 i10 i11 i12 i13 i14 i15 i16 i17 i18 i19), (a3, .inl (cA 0, 10, .inl fs)), (a4, .inl (cA 0, 10, .inl fp)), (a5, .inl (cA 0, 10, .inl ff)), (a6, .inl (cA 0, 10, .inl fd)), (p2, .inl (cA 1, 10, .inr (.inl fna))), (p3, .inl (cA 0, 10, .inl fam)), (oX9 h0 b0 (nI nb) p0 u0 r0 a0 t0 s0 o0), (oX3 p0 pr pb pe pg p1 (nI nd) p2 p3 p4 p5 (nI cn) p6 (nI pq) p7 p8 p9 (nI sc)), (oJ4 o0 qn158 0 zn8 (nI qn161)), (qn158, .inl (cA 3, qn159, .inl fn160))]) 9 hP hD [9, 10] [0, 1, 2, 3, 4, 5, 6, 7, 8] rfl rfl (by decide +kernel) (by decide +kernel) hk1 hFc hP1 hD1 rfl
          generalize H1 = H at hP hS ⊢
          refine lv_pop hx hb dX9_write_114 rfl ?_
          refine lv_iload_n hx hb dX9_write_115 rfl (lv_at hl 0 rfl) ?_
          refine lv_iconst (v := 1) hx hb dX9_write_116 (by decide) ?_
          refine lv_icmp_ne (tgt := 148) hx hb dX9_write_117 (by decide) (fun c166 => ?_) (fun c9 => absurd c9 (by decide))
          refine lv_iload_n hx hb dX9_write_148 rfl (lv_at hl 0 rfl) ?_
          refine lv_iconst (v := 2) hx hb dX9_write_149 (by decide) ?_
          refine lv_icmp_ne (tgt := 181) hx hb dX9_write_150 (by decide) (fun c9 => absurd c9 (by decide)) (fun c167 => ?_)
          refine lv_aload_n hx hb dX9_write_153 rfl (lv_at hl 1 rfl) ?_
          refine va_get (D := D) (ci := 10) (v := .ref o0) (C := RX9) (T := TX9) (N := 9) hx hb hts inX9 hown hK hP 7 rfl rfl 8 (by decide) (hts (.fieldLink RX9 52 "EscrowDesk" "output" "Ljava/lang/StringBuilder;") (by decide +kernel)) (fun _ h9 => h9) rfl dX9_write_154 ?_
          refine va_ldcwS hx hb hown (hC.str 23 rfl) dX9_write_157 ?_
          obtain ⟨hPc, hDc, hFc⟩ := PDq.cut (wc := [(oJ4 o0 qn158 0 zn8 (nI qn161)), (qn158, .inl (cA 3, qn159, .inl fn160))]) hP hD hS hA [9, 10] (by decide) rfl
          refine va_callr (va_runV (As := [.ref (sa 23)]) (rest := []) ⟨hx, hb, hml, hown, hts⟩ (j_appendS l D cA sa o0 qn158 qn161 qn159 zn8 fn160 23 ([32, 102, 114, 111, 122, 101, 110, 32]) 8 H.size (by decide +kernel) hn163 hn164 hn165 rfl (by omega)) (cwV 1 hts gX9_write_J4_append_15ec4 rfl rfl rfl (by decide +kernel) ⟨(Nat.le_of_ble_eq_true rfl), (Nat.le_of_ble_eq_true rfl)⟩) ⟨Wd.blind, va_recv hK hPc (ci := 1) (q0 := 0) rfl rfl, fun U hU hW => ⟨rfl, Wd.call hPc hDc hK hC hZ hS hFc U hU hW⟩⟩ rfl rfl hl.1 rfl (lv_room (Nat.le_of_ble_eq_true rfl)) dX9_write_160 ⟨(Nat.le_of_ble_eq_true rfl), (Nat.le_of_ble_eq_true rfl)⟩) hS (fun q _ h => hFc q h) hFc (fun u ra t H1 locs ht hvm hw hB hz1 hk1 hS => ?_)
          obtain ⟨hra, qn168, qn169, fn170, qn171, hn172, hn173, hn174, hn175, hP1, hD1⟩ := hB
          obtain rfl := hra.symm
          rw [ht] at hP1
          obtain ⟨hP, hD⟩ := PDq.join (w := [(oX0 a0 p0 a1 a3 a4 a5 a6 i6 i7 i8 i9 i10 i11 i12 i13 i14 i15 i16 i17 i18 i19), (a3, .inl (cA 0, 10, .inl fs)), (a4, .inl (cA 0, 10, .inl fp)), (a5, .inl (cA 0, 10, .inl ff)), (a6, .inl (cA 0, 10, .inl fd)), (p2, .inl (cA 1, 10, .inr (.inl fna))), (p3, .inl (cA 0, 10, .inl fam)), (oX9 h0 b0 (nI nb) p0 u0 r0 a0 t0 s0 o0), (oX3 p0 pr pb pe pg p1 (nI nd) p2 p3 p4 p5 (nI cn) p6 (nI pq) p7 p8 p9 (nI sc)), (oJ4 o0 qn168 0 zn8 (nI qn171)), (qn168, .inl (cA 3, qn169, .inl fn170))]) 9 hP hD [9, 10] [0, 1, 2, 3, 4, 5, 6, 7, 8] rfl rfl (by decide +kernel) (by decide +kernel) hk1 hFc hP1 hD1 rfl
          generalize H1 = H at hP hS ⊢
          refine lv_pop hx hb dX9_write_163 rfl ?_
          refine lv_aload_n hx hb dX9_write_164 rfl (lv_at hl 1 rfl) ?_
          refine va_get (D := D) (ci := 10) (v := .ref o0) (C := RX9) (T := TX9) (N := 9) hx hb hts inX9 hown hK hP 7 rfl rfl 8 (by decide) (hts (.fieldLink RX9 52 "EscrowDesk" "output" "Ljava/lang/StringBuilder;") (by decide +kernel)) (fun _ h9 => h9) rfl dX9_write_165 ?_
          refine lv_aload_n hx hb dX9_write_168 rfl (lv_at hl 1 rfl) ?_
          refine va_get (D := D) (ci := 10) (v := .ref a0) (C := RX9) (T := TX9) (N := 9) hx hb hts inX9 hown hK hP 7 rfl rfl 5 (by decide) (hts (.fieldLink RX9 35 "EscrowDesk" "account" "LEscrowDesk$Account;") (by decide +kernel)) (fun _ h9 => h9) rfl dX9_write_169 ?_
          refine va_getN (D := D) (ci := 4) (v := .ref a5) (C := RX0) (T := TX0) (N := 20) hx hb hts inX0 hown hK hP 0 rfl rfl 4 (by decide) (hC.f (A := _) (a := RX9) (i := 133) (b := "EscrowDesk$Account") (n := "frozen") (d := "[I") (x := "EscrowDesk") (by decide +kernel)) (fun _ h9 => h9) rfl dX9_write_172 ?_
          refine lv_iload_n hx hb dX9_write_175 rfl (lv_at hl 2 rfl) ?_
          refine va_iald hx hb hK hP 3 0 rfl rfl (vp_in_nI (n := qn1) (N := 10) (show qn1 < 10 by omega) (by decide)) dX9_write_176 ?_
          refine lv_topi (fun yn176 eyn176 => ?_)
          obtain ⟨hPc, hDc, hFc⟩ := PDq.cut (wc := [(oJ4 o0 qn168 0 zn8 (nI qn171)), (qn168, .inl (cA 3, qn169, .inl fn170))]) hP hD hS hA [9, 10] (by decide) rfl
          refine va_callr (va_runV (As := [.int yn176]) (rest := []) ⟨hx, hb, hml, hown, hts⟩ (j_appendI l D cA sa o0 qn168 qn171 qn169 zn8 fn170 yn176 H.size hn173 hn174 hn175 (by omega)) (cwV 1 hts gX9_write_J4_append_bf812 rfl rfl rfl (by decide +kernel) ⟨(Nat.le_of_ble_eq_true rfl), (Nat.le_of_ble_eq_true rfl)⟩) ⟨Wd2.blind, va_recv hK hPc (ci := 1) (q0 := 0) rfl rfl, fun U hU hW => ⟨rfl, Wd2.call (Wd.call hPc hDc hK hC hZ hS hFc U hU hW) hG hS hFc hU hW⟩⟩ rfl rfl hl.1 rfl (lv_room (Nat.le_of_ble_eq_true rfl)) dX9_write_177 ⟨(Nat.le_of_ble_eq_true rfl), (Nat.le_of_ble_eq_true rfl)⟩) hS (fun q _ h => hFc q h) hFc (fun u ra t H1 locs ht hvm hw hB hz1 hk1 hS => ?_)
          obtain ⟨hra, qn177, qn178, fn179, qn180, hn181, hn182, hn183, hn184, hP1, hD1⟩ := hB
          obtain rfl := hra.symm
          rw [ht] at hP1
          obtain ⟨hP, hD⟩ := PDq.join (w := [(oX0 a0 p0 a1 a3 a4 a5 a6 i6 i7 i8 i9 i10 i11 i12 i13 i14 i15 i16 i17 i18 i19), (a3, .inl (cA 0, 10, .inl fs)), (a4, .inl (cA 0, 10, .inl fp)), (a5, .inl (cA 0, 10, .inl ff)), (a6, .inl (cA 0, 10, .inl fd)), (p2, .inl (cA 1, 10, .inr (.inl fna))), (p3, .inl (cA 0, 10, .inl fam)), (oX9 h0 b0 (nI nb) p0 u0 r0 a0 t0 s0 o0), (oX3 p0 pr pb pe pg p1 (nI nd) p2 p3 p4 p5 (nI cn) p6 (nI pq) p7 p8 p9 (nI sc)), (oJ4 o0 qn177 0 zn8 (nI qn180)), (qn177, .inl (cA 3, qn178, .inl fn179))]) 9 hP hD [9, 10] [0, 1, 2, 3, 4, 5, 6, 7, 8] rfl rfl (by decide +kernel) (by decide +kernel) hk1 hFc hP1 hD1 rfl
          generalize H1 = H at hP hS ⊢
          refine lv_pop hx hb dX9_write_180 rfl ?_
          refine lv_aload_n hx hb dX9_write_181 rfl (lv_at hl 1 rfl) ?_
          refine va_get (D := D) (ci := 10) (v := .ref o0) (C := RX9) (T := TX9) (N := 9) hx hb hts inX9 hown hK hP 7 rfl rfl 8 (by decide) (hts (.fieldLink RX9 52 "EscrowDesk" "output" "Ljava/lang/StringBuilder;") (by decide +kernel)) (fun _ h9 => h9) rfl dX9_write_182 ?_
          obtain ⟨hPc, hDc, hFc⟩ := PDq.cut (wc := [(oJ4 o0 qn177 0 zn8 (nI qn180))]) hP hD hS hA [9] (by decide) rfl
          refine va_calli (va_runV (As := []) (rest := []) ⟨hx, hb, hml, hown, hts⟩ (j_length l D cA sa o0 qn177 qn180 zn8 H.size) (cwV 0 hts gX9_write_J4_length_8abf5 rfl rfl rfl (by decide +kernel) ⟨(Nat.le_of_ble_eq_true rfl), (Nat.le_of_ble_eq_true rfl)⟩) ⟨Wd.blind, va_recv hK hPc (ci := 1) (q0 := 0) rfl rfl, fun U hU hW => ⟨rfl, Wd.call hPc hDc hK hC hZ hS hFc U hU hW⟩⟩ rfl rfl hl.1 rfl (lv_room (Nat.le_of_ble_eq_true rfl)) dX9_write_185 ⟨(Nat.le_of_ble_eq_true rfl), (Nat.le_of_ble_eq_true rfl)⟩) hS (fun q _ h => hFc q h) hFc (fun rn185 u t H1 locs ht hvm hw hB hz1 hk1 hS => ?_)
          obtain ⟨hP1, hD1⟩ := hB
          rw [ht] at hP1
          obtain ⟨hP, hD⟩ := PDq.join (w := [(oX0 a0 p0 a1 a3 a4 a5 a6 i6 i7 i8 i9 i10 i11 i12 i13 i14 i15 i16 i17 i18 i19), (a3, .inl (cA 0, 10, .inl fs)), (a4, .inl (cA 0, 10, .inl fp)), (a5, .inl (cA 0, 10, .inl ff)), (a6, .inl (cA 0, 10, .inl fd)), (p2, .inl (cA 1, 10, .inr (.inl fna))), (p3, .inl (cA 0, 10, .inl fam)), (oX9 h0 b0 (nI nb) p0 u0 r0 a0 t0 s0 o0), (oX3 p0 pr pb pe pg p1 (nI nd) p2 p3 p4 p5 (nI cn) p6 (nI pq) p7 p8 p9 (nI sc)), (qn177, .inl (cA 3, qn178, .inl fn179)), (oJ4 o0 qn177 0 zn8 (nI qn180))]) 10 hP hD [9] [0, 1, 2, 3, 4, 5, 6, 7, 8, 10] rfl rfl (by decide +kernel) (by decide +kernel) hk1 hFc hP1 hD1 rfl
          generalize H1 = H at hP hS ⊢
          obtain rfl : rn185 = (nI qn180) := hw
          obtain ⟨hP9, hD9⟩ := PDq.sub (ws' := [(oX9 h0 b0 (nI nb) p0 u0 r0 a0 t0 s0 o0), (oX0 a0 p0 a1 a3 a4 a5 a6 i6 i7 i8 i9 i10 i11 i12 i13 i14 i15 i16 i17 i18 i19), (a3, .inl (cA 0, 10, .inl fs)), (a4, .inl (cA 0, 10, .inl fp)), (a5, .inl (cA 0, 10, .inl ff)), (a6, .inl (cA 0, 10, .inl fd)), (oX3 p0 pr pb pe pg p1 (nI nd) p2 p3 p4 p5 (nI cn) p6 (nI pq) p7 p8 p9 (nI sc)), (p2, .inl (cA 1, 10, .inr (.inl fna))), (p3, .inl (cA 0, 10, .inl fam)), (oJ4 o0 qn177 0 zn8 (nI qn180)), (qn177, .inl (cA 3, qn178, .inl fn179))]) hP hD [7, 0, 1, 2, 3, 4, 8, 5, 6, 10, 9] (by decide +kernel) rfl
          refine W.widen (k := 19) (n := 4686) (Nat.le_of_ble_eq_true rfl) (Nat.le_of_ble_eq_true rfl) ?_
          exact vx_ret (W.iret (v := (nI qn180)) hx hb hr (fun t ht hW => ⟨⟨(nI qn180), (), rfl, trivial, qn177, qn178, fn179, qn180, zn8, hn182, (by omega), hn183, hn184, by rw [ht]; exact hP9, hD9⟩, hS.F ht⟩) hS.2.2 dX9_write_188)
        · skip
          by_cases hn186 : yn4 = 3
          · skip
            rw [hn186] at hl
            have hl : lv_has ls 3 [(2, .int 3), (0, .ref h0), (1, .int (nI qn1))] := hl
            refine W.eq (g2 := F0 m 54 ls [.int 3, .ref o0]) (by rw [hn186]) ?_
            obtain ⟨hPc, hDc, hFc⟩ := PDq.cut (wc := []) hP hD hS hA [] (by decide) rfl
            refine va_callr (va_runS (As := [.int 3]) (rest := [.ref o0]) ⟨hx, hb, hml, hown, hts⟩ (s_spell3 l D cA sa  H.size) (va_cwS 1 hts gX9_write_X6_spelling rfl rfl rfl (by decide +kernel) ⟨(Nat.le_of_ble_eq_true rfl), (Nat.le_of_ble_eq_true rfl)⟩) ⟨Wd.blind, fun U hU hW => ⟨rfl, Wd.call hPc hDc hK hC hZ hS hFc U hU hW⟩⟩ rfl rfl hl.1 rfl (lv_room (Nat.le_of_ble_eq_true rfl)) dX9_write_54 ⟨(Nat.le_of_ble_eq_true rfl), (Nat.le_of_ble_eq_true rfl)⟩) hS (fun q _ h => hFc q h) hFc (fun u ra t H1 locs ht hvm hw hB hz1 hk1 hS => ?_)
            obtain ⟨hra, hP1, hD1⟩ := hB
            obtain rfl := hra.symm
            rw [ht] at hP1
            obtain ⟨hP, hD⟩ := PDq.join (w := [(oX0 a0 p0 a1 a3 a4 a5 a6 i6 i7 i8 i9 i10 i11 i12 i13 i14 i15 i16 i17 i18 i19), (a3, .inl (cA 0, 10, .inl fs)), (a4, .inl (cA 0, 10, .inl fp)), (a5, .inl (cA 0, 10, .inl ff)), (a6, .inl (cA 0, 10, .inl fd)), (p2, .inl (cA 1, 10, .inr (.inl fna))), (p3, .inl (cA 0, 10, .inl fam)), (oX9 h0 b0 (nI nb) p0 u0 r0 a0 t0 s0 o0), (oX3 p0 pr pb pe pg p1 (nI nd) p2 p3 p4 p5 (nI cn) p6 (nI pq) p7 p8 p9 (nI sc)), (oJ4 o0 qn20 0 zn8 (nI (qn15 + 1))), (qn20, .inl (cA 3, qn21, .inl fn22))]) 11 hP hD [] [0, 1, 2, 3, 4, 5, 6, 7, 8, 9, 10] rfl rfl (by decide +kernel) (by decide +kernel) hk1 hFc hP1 hD1 rfl
            generalize H1 = H at hP hS ⊢
            obtain ⟨hPc, hDc, hFc⟩ := PDq.cut (wc := [(oJ4 o0 qn20 0 zn8 (nI (qn15 + 1))), (qn20, .inl (cA 3, qn21, .inl fn22))]) hP hD hS hA [9, 10] (by decide) rfl
            refine va_callr (va_runV (As := [.ref (sa 36)]) (rest := []) ⟨hx, hb, hml, hown, hts⟩ (j_appendS l D cA sa o0 qn20 (qn15 + 1) qn21 zn8 fn22 36 ([112, 97, 105, 100]) 4 H.size (by decide +kernel) (by omega) hn24 hn25 rfl (by omega)) (cwV 1 hts gX9_write_J4_append_15ec4 rfl rfl rfl (by decide +kernel) ⟨(Nat.le_of_ble_eq_true rfl), (Nat.le_of_ble_eq_true rfl)⟩) ⟨Wd.blind, va_recv hK hPc (ci := 1) (q0 := 0) rfl rfl, fun U hU hW => ⟨rfl, Wd.call hPc hDc hK hC hZ hS hFc U hU hW⟩⟩ rfl rfl hl.1 rfl (lv_room (Nat.le_of_ble_eq_true rfl)) dX9_write_57 ⟨(Nat.le_of_ble_eq_true rfl), (Nat.le_of_ble_eq_true rfl)⟩) hS (fun q _ h => hFc q h) hFc (fun u ra t H1 locs ht hvm hw hB hz1 hk1 hS => ?_)
            obtain ⟨hra, qn187, qn188, fn189, qn190, hn191, hn192, hn193, hn194, hP1, hD1⟩ := hB
            obtain rfl := hra.symm
            rw [ht] at hP1
            obtain ⟨hP, hD⟩ := PDq.join (w := [(oX0 a0 p0 a1 a3 a4 a5 a6 i6 i7 i8 i9 i10 i11 i12 i13 i14 i15 i16 i17 i18 i19), (a3, .inl (cA 0, 10, .inl fs)), (a4, .inl (cA 0, 10, .inl fp)), (a5, .inl (cA 0, 10, .inl ff)), (a6, .inl (cA 0, 10, .inl fd)), (p2, .inl (cA 1, 10, .inr (.inl fna))), (p3, .inl (cA 0, 10, .inl fam)), (oX9 h0 b0 (nI nb) p0 u0 r0 a0 t0 s0 o0), (oX3 p0 pr pb pe pg p1 (nI nd) p2 p3 p4 p5 (nI cn) p6 (nI pq) p7 p8 p9 (nI sc)), (oJ4 o0 qn187 0 zn8 (nI qn190)), (qn187, .inl (cA 3, qn188, .inl fn189))]) 9 hP hD [9, 10] [0, 1, 2, 3, 4, 5, 6, 7, 8] rfl rfl (by decide +kernel) (by decide +kernel) hk1 hFc hP1 hD1 rfl
            generalize H1 = H at hP hS ⊢
            refine lv_pop hx hb dX9_write_60 rfl ?_
            refine lv_aload_n hx hb dX9_write_61 rfl (lv_at hl 1 rfl) ?_
            refine va_get (D := D) (ci := 10) (v := .ref o0) (C := RX9) (T := TX9) (N := 9) hx hb hts inX9 hown hK hP 7 rfl rfl 8 (by decide) (hts (.fieldLink RX9 52 "EscrowDesk" "output" "Ljava/lang/StringBuilder;") (by decide +kernel)) (fun _ h9 => h9) rfl dX9_write_62 ?_
            refine lv_bipush (v := 32) hx hb dX9_write_65 (by decide) ?_
            obtain ⟨hPc, hDc, hFc⟩ := PDq.cut (wc := [(oJ4 o0 qn187 0 zn8 (nI qn190)), (qn187, .inl (cA 3, qn188, .inl fn189))]) hP hD hS hA [9, 10] (by decide) rfl
            refine va_callr (va_runV (As := [.int 32]) (rest := []) ⟨hx, hb, hml, hown, hts⟩ (j_appendC l D cA sa o0 qn187 qn190 qn188 zn8 fn189 32 H.size hn192 hn193 hn194 (by omega) (by omega)) (cwV 1 hts gX9_write_J4_append_cf468 rfl rfl rfl (by decide +kernel) ⟨(Nat.le_of_ble_eq_true rfl), (Nat.le_of_ble_eq_true rfl)⟩) ⟨Wd.blind, va_recv hK hPc (ci := 1) (q0 := 0) rfl rfl, fun U hU hW => ⟨rfl, Wd.call hPc hDc hK hC hZ hS hFc U hU hW⟩⟩ rfl rfl hl.1 rfl (lv_room (Nat.le_of_ble_eq_true rfl)) dX9_write_67 ⟨(Nat.le_of_ble_eq_true rfl), (Nat.le_of_ble_eq_true rfl)⟩) hS (fun q _ h => hFc q h) hFc (fun u ra t H1 locs ht hvm hw hB hz1 hk1 hS => ?_)
            obtain ⟨hra, qn195, qn196, fn197, hn198, hn199, hn200, hP1, hD1⟩ := hB
            obtain rfl := hra.symm
            rw [ht] at hP1
            obtain ⟨hP, hD⟩ := PDq.join (w := [(oX0 a0 p0 a1 a3 a4 a5 a6 i6 i7 i8 i9 i10 i11 i12 i13 i14 i15 i16 i17 i18 i19), (a3, .inl (cA 0, 10, .inl fs)), (a4, .inl (cA 0, 10, .inl fp)), (a5, .inl (cA 0, 10, .inl ff)), (a6, .inl (cA 0, 10, .inl fd)), (p2, .inl (cA 1, 10, .inr (.inl fna))), (p3, .inl (cA 0, 10, .inl fam)), (oX9 h0 b0 (nI nb) p0 u0 r0 a0 t0 s0 o0), (oX3 p0 pr pb pe pg p1 (nI nd) p2 p3 p4 p5 (nI cn) p6 (nI pq) p7 p8 p9 (nI sc)), (oJ4 o0 qn195 0 zn8 (nI (qn190 + 1))), (qn195, .inl (cA 3, qn196, .inl fn197))]) 9 hP hD [9, 10] [0, 1, 2, 3, 4, 5, 6, 7, 8] rfl rfl (by decide +kernel) (by decide +kernel) hk1 hFc hP1 hD1 rfl
            generalize H1 = H at hP hS ⊢
            refine lv_pop hx hb dX9_write_70 rfl ?_
            refine lv_aload_n hx hb dX9_write_71 rfl (lv_at hl 1 rfl) ?_
            refine va_get (D := D) (ci := 10) (v := .ref o0) (C := RX9) (T := TX9) (N := 9) hx hb hts inX9 hown hK hP 7 rfl rfl 8 (by decide) (hts (.fieldLink RX9 52 "EscrowDesk" "output" "Ljava/lang/StringBuilder;") (by decide +kernel)) (fun _ h9 => h9) rfl dX9_write_72 ?_
            refine lv_aload_n hx hb dX9_write_75 rfl (lv_at hl 1 rfl) ?_
            refine va_get (D := D) (ci := 10) (v := .ref a0) (C := RX9) (T := TX9) (N := 9) hx hb hts inX9 hown hK hP 7 rfl rfl 5 (by decide) (hts (.fieldLink RX9 35 "EscrowDesk" "account" "LEscrowDesk$Account;") (by decide +kernel)) (fun _ h9 => h9) rfl dX9_write_76 ?_
            refine va_getN (D := D) (ci := 4) (v := .ref a4) (C := RX0) (T := TX0) (N := 20) hx hb hts inX0 hown hK hP 0 rfl rfl 3 (by decide) (hC.f (A := _) (a := RX9) (i := 126) (b := "EscrowDesk$Account") (n := "paid") (d := "[I") (x := "EscrowDesk") (by decide +kernel)) (fun _ h9 => h9) rfl dX9_write_79 ?_
            refine lv_iload_n hx hb dX9_write_82 rfl (lv_at hl 2 rfl) ?_
            refine va_iald hx hb hK hP 2 0 rfl rfl (vp_in_nI (n := qn1) (N := 10) (show qn1 < 10 by omega) (by decide)) dX9_write_83 ?_
            refine lv_topi (fun yn201 eyn201 => ?_)
            obtain ⟨hPc, hDc, hFc⟩ := PDq.cut (wc := [(oJ4 o0 qn195 0 zn8 (nI (qn190 + 1))), (qn195, .inl (cA 3, qn196, .inl fn197))]) hP hD hS hA [9, 10] (by decide) rfl
            refine va_callr (va_runV (As := [.int yn201]) (rest := []) ⟨hx, hb, hml, hown, hts⟩ (j_appendI l D cA sa o0 qn195 (qn190 + 1) qn196 zn8 fn197 yn201 H.size (by omega) hn199 hn200 (by omega)) (cwV 1 hts gX9_write_J4_append_bf812 rfl rfl rfl (by decide +kernel) ⟨(Nat.le_of_ble_eq_true rfl), (Nat.le_of_ble_eq_true rfl)⟩) ⟨Wd2.blind, va_recv hK hPc (ci := 1) (q0 := 0) rfl rfl, fun U hU hW => ⟨rfl, Wd2.call (Wd.call hPc hDc hK hC hZ hS hFc U hU hW) hG hS hFc hU hW⟩⟩ rfl rfl hl.1 rfl (lv_room (Nat.le_of_ble_eq_true rfl)) dX9_write_84 ⟨(Nat.le_of_ble_eq_true rfl), (Nat.le_of_ble_eq_true rfl)⟩) hS (fun q _ h => hFc q h) hFc (fun u ra t H1 locs ht hvm hw hB hz1 hk1 hS => ?_)
            obtain ⟨hra, qn202, qn203, fn204, qn205, hn206, hn207, hn208, hn209, hP1, hD1⟩ := hB
            obtain rfl := hra.symm
            rw [ht] at hP1
            obtain ⟨hP, hD⟩ := PDq.join (w := [(oX0 a0 p0 a1 a3 a4 a5 a6 i6 i7 i8 i9 i10 i11 i12 i13 i14 i15 i16 i17 i18 i19), (a3, .inl (cA 0, 10, .inl fs)), (a4, .inl (cA 0, 10, .inl fp)), (a5, .inl (cA 0, 10, .inl ff)), (a6, .inl (cA 0, 10, .inl fd)), (p2, .inl (cA 1, 10, .inr (.inl fna))), (p3, .inl (cA 0, 10, .inl fam)), (oX9 h0 b0 (nI nb) p0 u0 r0 a0 t0 s0 o0), (oX3 p0 pr pb pe pg p1 (nI nd) p2 p3 p4 p5 (nI cn) p6 (nI pq) p7 p8 p9 (nI sc)), (oJ4 o0 qn202 0 zn8 (nI qn205)), (qn202, .inl (cA 3, qn203, .inl fn204))]) 9 hP hD [9, 10] [0, 1, 2, 3, 4, 5, 6, 7, 8] rfl rfl (by decide +kernel) (by decide +kernel) hk1 hFc hP1 hD1 rfl
            generalize H1 = H at hP hS ⊢
            refine lv_pop hx hb dX9_write_87 rfl ?_
            refine lv_aload_n hx hb dX9_write_88 rfl (lv_at hl 1 rfl) ?_
            refine va_get (D := D) (ci := 10) (v := .ref o0) (C := RX9) (T := TX9) (N := 9) hx hb hts inX9 hown hK hP 7 rfl rfl 8 (by decide) (hts (.fieldLink RX9 52 "EscrowDesk" "output" "Ljava/lang/StringBuilder;") (by decide +kernel)) (fun _ h9 => h9) rfl dX9_write_89 ?_
            refine lv_bipush (v := 47) hx hb dX9_write_92 (by decide) ?_
            obtain ⟨hPc, hDc, hFc⟩ := PDq.cut (wc := [(oJ4 o0 qn202 0 zn8 (nI qn205)), (qn202, .inl (cA 3, qn203, .inl fn204))]) hP hD hS hA [9, 10] (by decide) rfl
            refine va_callr (va_runV (As := [.int 47]) (rest := []) ⟨hx, hb, hml, hown, hts⟩ (j_appendC l D cA sa o0 qn202 qn205 qn203 zn8 fn204 47 H.size hn207 hn208 hn209 (by omega) (by omega)) (cwV 1 hts gX9_write_J4_append_cf468 rfl rfl rfl (by decide +kernel) ⟨(Nat.le_of_ble_eq_true rfl), (Nat.le_of_ble_eq_true rfl)⟩) ⟨Wd.blind, va_recv hK hPc (ci := 1) (q0 := 0) rfl rfl, fun U hU hW => ⟨rfl, Wd.call hPc hDc hK hC hZ hS hFc U hU hW⟩⟩ rfl rfl hl.1 rfl (lv_room (Nat.le_of_ble_eq_true rfl)) dX9_write_94 ⟨(Nat.le_of_ble_eq_true rfl), (Nat.le_of_ble_eq_true rfl)⟩) hS (fun q _ h => hFc q h) hFc (fun u ra t H1 locs ht hvm hw hB hz1 hk1 hS => ?_)
            obtain ⟨hra, qn210, qn211, fn212, hn213, hn214, hn215, hP1, hD1⟩ := hB
            obtain rfl := hra.symm
            rw [ht] at hP1
            obtain ⟨hP, hD⟩ := PDq.join (w := [(oX0 a0 p0 a1 a3 a4 a5 a6 i6 i7 i8 i9 i10 i11 i12 i13 i14 i15 i16 i17 i18 i19), (a3, .inl (cA 0, 10, .inl fs)), (a4, .inl (cA 0, 10, .inl fp)), (a5, .inl (cA 0, 10, .inl ff)), (a6, .inl (cA 0, 10, .inl fd)), (p2, .inl (cA 1, 10, .inr (.inl fna))), (p3, .inl (cA 0, 10, .inl fam)), (oX9 h0 b0 (nI nb) p0 u0 r0 a0 t0 s0 o0), (oX3 p0 pr pb pe pg p1 (nI nd) p2 p3 p4 p5 (nI cn) p6 (nI pq) p7 p8 p9 (nI sc)), (oJ4 o0 qn210 0 zn8 (nI (qn205 + 1))), (qn210, .inl (cA 3, qn211, .inl fn212))]) 9 hP hD [9, 10] [0, 1, 2, 3, 4, 5, 6, 7, 8] rfl rfl (by decide +kernel) (by decide +kernel) hk1 hFc hP1 hD1 rfl
            generalize H1 = H at hP hS ⊢
            refine lv_pop hx hb dX9_write_97 rfl ?_
            refine lv_aload_n hx hb dX9_write_98 rfl (lv_at hl 1 rfl) ?_
            refine va_get (D := D) (ci := 10) (v := .ref o0) (C := RX9) (T := TX9) (N := 9) hx hb hts inX9 hown hK hP 7 rfl rfl 8 (by decide) (hts (.fieldLink RX9 52 "EscrowDesk" "output" "Ljava/lang/StringBuilder;") (by decide +kernel)) (fun _ h9 => h9) rfl dX9_write_99 ?_
            refine lv_aload_n hx hb dX9_write_102 rfl (lv_at hl 1 rfl) ?_
            refine va_get (D := D) (ci := 10) (v := .ref p0) (C := RX9) (T := TX9) (N := 9) hx hb hts inX9 hown hK hP 7 rfl rfl 2 (by decide) (hts (.fieldLink RX9 16 "EscrowDesk" "plan" "LEscrowDesk$Plan;") (by decide +kernel)) (fun _ h9 => h9) rfl dX9_write_103 ?_
            refine va_getN (D := D) (ci := 7) (v := .ref p3) (C := RX3) (T := TX3) (N := 17) hx hb hts inX3 hown hK hP 8 rfl rfl 7 (by decide) (hC.f (A := _) (a := RX9) (i := 165) (b := "EscrowDesk$Plan") (n := "amounts") (d := "[I") (x := "EscrowDesk") (by decide +kernel)) (fun _ h9 => h9) rfl dX9_write_106 ?_
            refine lv_iload_n hx hb dX9_write_109 rfl (lv_at hl 2 rfl) ?_
            refine va_iald hx hb hK hP 6 0 rfl rfl (vp_in_nI (n := qn1) (N := 10) (show qn1 < 10 by omega) (by decide)) dX9_write_110 ?_
            refine lv_topi (fun yn216 eyn216 => ?_)
            obtain ⟨hPc, hDc, hFc⟩ := PDq.cut (wc := [(oJ4 o0 qn210 0 zn8 (nI (qn205 + 1))), (qn210, .inl (cA 3, qn211, .inl fn212))]) hP hD hS hA [9, 10] (by decide) rfl
            refine va_callr (va_runV (As := [.int yn216]) (rest := []) ⟨hx, hb, hml, hown, hts⟩ (j_appendI l D cA sa o0 qn210 (qn205 + 1) qn211 zn8 fn212 yn216 H.size (by omega) hn214 hn215 (by omega)) (cwV 1 hts gX9_write_J4_append_bf812 rfl rfl rfl (by decide +kernel) ⟨(Nat.le_of_ble_eq_true rfl), (Nat.le_of_ble_eq_true rfl)⟩) ⟨Wd2.blind, va_recv hK hPc (ci := 1) (q0 := 0) rfl rfl, fun U hU hW => ⟨rfl, Wd2.call (Wd.call hPc hDc hK hC hZ hS hFc U hU hW) hG hS hFc hU hW⟩⟩ rfl rfl hl.1 rfl (lv_room (Nat.le_of_ble_eq_true rfl)) dX9_write_111 ⟨(Nat.le_of_ble_eq_true rfl), (Nat.le_of_ble_eq_true rfl)⟩) hS (fun q _ h => hFc q h) hFc (fun u ra t H1 locs ht hvm hw hB hz1 hk1 hS => ?_)
            obtain ⟨hra, qn217, qn218, fn219, qn220, hn221, hn222, hn223, hn224, hP1, hD1⟩ := hB
            obtain rfl := hra.symm
            rw [ht] at hP1
            obtain ⟨hP, hD⟩ := PDq.join (w := [(oX0 a0 p0 a1 a3 a4 a5 a6 i6 i7 i8 i9 i10 i11 i12 i13 i14 i15 i16 i17 i18 i19), (a3, .inl (cA 0, 10, .inl fs)), (a4, .inl (cA 0, 10, .inl fp)), (a5, .inl (cA 0, 10, .inl ff)), (a6, .inl (cA 0, 10, .inl fd)), (p2, .inl (cA 1, 10, .inr (.inl fna))), (p3, .inl (cA 0, 10, .inl fam)), (oX9 h0 b0 (nI nb) p0 u0 r0 a0 t0 s0 o0), (oX3 p0 pr pb pe pg p1 (nI nd) p2 p3 p4 p5 (nI cn) p6 (nI pq) p7 p8 p9 (nI sc)), (oJ4 o0 qn217 0 zn8 (nI qn220)), (qn217, .inl (cA 3, qn218, .inl fn219))]) 9 hP hD [9, 10] [0, 1, 2, 3, 4, 5, 6, 7, 8] rfl rfl (by decide +kernel) (by decide +kernel) hk1 hFc hP1 hD1 rfl
            generalize H1 = H at hP hS ⊢
            refine lv_pop hx hb dX9_write_114 rfl ?_
            refine lv_iload_n hx hb dX9_write_115 rfl (lv_at hl 0 rfl) ?_
            refine lv_iconst (v := 1) hx hb dX9_write_116 (by decide) ?_
            refine lv_icmp_ne (tgt := 148) hx hb dX9_write_117 (by decide) (fun c225 => ?_) (fun c9 => absurd c9 (by decide))
            refine lv_iload_n hx hb dX9_write_148 rfl (lv_at hl 0 rfl) ?_
            refine lv_iconst (v := 2) hx hb dX9_write_149 (by decide) ?_
            refine lv_icmp_ne (tgt := 181) hx hb dX9_write_150 (by decide) (fun c226 => ?_) (fun c9 => absurd c9 (by decide))
            refine lv_aload_n hx hb dX9_write_181 rfl (lv_at hl 1 rfl) ?_
            refine va_get (D := D) (ci := 10) (v := .ref o0) (C := RX9) (T := TX9) (N := 9) hx hb hts inX9 hown hK hP 7 rfl rfl 8 (by decide) (hts (.fieldLink RX9 52 "EscrowDesk" "output" "Ljava/lang/StringBuilder;") (by decide +kernel)) (fun _ h9 => h9) rfl dX9_write_182 ?_
            obtain ⟨hPc, hDc, hFc⟩ := PDq.cut (wc := [(oJ4 o0 qn217 0 zn8 (nI qn220))]) hP hD hS hA [9] (by decide) rfl
            refine va_calli (va_runV (As := []) (rest := []) ⟨hx, hb, hml, hown, hts⟩ (j_length l D cA sa o0 qn217 qn220 zn8 H.size) (cwV 0 hts gX9_write_J4_length_8abf5 rfl rfl rfl (by decide +kernel) ⟨(Nat.le_of_ble_eq_true rfl), (Nat.le_of_ble_eq_true rfl)⟩) ⟨Wd.blind, va_recv hK hPc (ci := 1) (q0 := 0) rfl rfl, fun U hU hW => ⟨rfl, Wd.call hPc hDc hK hC hZ hS hFc U hU hW⟩⟩ rfl rfl hl.1 rfl (lv_room (Nat.le_of_ble_eq_true rfl)) dX9_write_185 ⟨(Nat.le_of_ble_eq_true rfl), (Nat.le_of_ble_eq_true rfl)⟩) hS (fun q _ h => hFc q h) hFc (fun rn227 u t H1 locs ht hvm hw hB hz1 hk1 hS => ?_)
            obtain ⟨hP1, hD1⟩ := hB
            rw [ht] at hP1
            obtain ⟨hP, hD⟩ := PDq.join (w := [(oX0 a0 p0 a1 a3 a4 a5 a6 i6 i7 i8 i9 i10 i11 i12 i13 i14 i15 i16 i17 i18 i19), (a3, .inl (cA 0, 10, .inl fs)), (a4, .inl (cA 0, 10, .inl fp)), (a5, .inl (cA 0, 10, .inl ff)), (a6, .inl (cA 0, 10, .inl fd)), (p2, .inl (cA 1, 10, .inr (.inl fna))), (p3, .inl (cA 0, 10, .inl fam)), (oX9 h0 b0 (nI nb) p0 u0 r0 a0 t0 s0 o0), (oX3 p0 pr pb pe pg p1 (nI nd) p2 p3 p4 p5 (nI cn) p6 (nI pq) p7 p8 p9 (nI sc)), (qn217, .inl (cA 3, qn218, .inl fn219)), (oJ4 o0 qn217 0 zn8 (nI qn220))]) 10 hP hD [9] [0, 1, 2, 3, 4, 5, 6, 7, 8, 10] rfl rfl (by decide +kernel) (by decide +kernel) hk1 hFc hP1 hD1 rfl
            generalize H1 = H at hP hS ⊢
            obtain rfl : rn227 = (nI qn220) := hw
            obtain ⟨hP9, hD9⟩ := PDq.sub (ws' := [(oX9 h0 b0 (nI nb) p0 u0 r0 a0 t0 s0 o0), (oX0 a0 p0 a1 a3 a4 a5 a6 i6 i7 i8 i9 i10 i11 i12 i13 i14 i15 i16 i17 i18 i19), (a3, .inl (cA 0, 10, .inl fs)), (a4, .inl (cA 0, 10, .inl fp)), (a5, .inl (cA 0, 10, .inl ff)), (a6, .inl (cA 0, 10, .inl fd)), (oX3 p0 pr pb pe pg p1 (nI nd) p2 p3 p4 p5 (nI cn) p6 (nI pq) p7 p8 p9 (nI sc)), (p2, .inl (cA 1, 10, .inr (.inl fna))), (p3, .inl (cA 0, 10, .inl fam)), (oJ4 o0 qn217 0 zn8 (nI qn220)), (qn217, .inl (cA 3, qn218, .inl fn219))]) hP hD [7, 0, 1, 2, 3, 4, 8, 5, 6, 10, 9] (by decide +kernel) rfl
            refine W.widen (k := 19) (n := 4686) (Nat.le_of_ble_eq_true rfl) (Nat.le_of_ble_eq_true rfl) ?_
            exact vx_ret (W.iret (v := (nI qn220)) hx hb hr (fun t ht hW => ⟨⟨(nI qn220), (), rfl, trivial, qn217, qn218, fn219, qn220, zn8, hn222, (by omega), hn223, hn224, by rw [ht]; exact hP9, hD9⟩, hS.F ht⟩) hS.2.2 dX9_write_188)
          · skip
            by_cases hn228 : yn4 = 4
            · skip
              rw [hn228] at hl
              have hl : lv_has ls 3 [(2, .int 4), (0, .ref h0), (1, .int (nI qn1))] := hl
              refine W.eq (g2 := F0 m 54 ls [.int 4, .ref o0]) (by rw [hn228]) ?_
              obtain ⟨hPc, hDc, hFc⟩ := PDq.cut (wc := []) hP hD hS hA [] (by decide) rfl
              refine va_callr (va_runS (As := [.int 4]) (rest := [.ref o0]) ⟨hx, hb, hml, hown, hts⟩ (s_spell4 l D cA sa  H.size) (va_cwS 1 hts gX9_write_X6_spelling rfl rfl rfl (by decide +kernel) ⟨(Nat.le_of_ble_eq_true rfl), (Nat.le_of_ble_eq_true rfl)⟩) ⟨Wd.blind, fun U hU hW => ⟨rfl, Wd.call hPc hDc hK hC hZ hS hFc U hU hW⟩⟩ rfl rfl hl.1 rfl (lv_room (Nat.le_of_ble_eq_true rfl)) dX9_write_54 ⟨(Nat.le_of_ble_eq_true rfl), (Nat.le_of_ble_eq_true rfl)⟩) hS (fun q _ h => hFc q h) hFc (fun u ra t H1 locs ht hvm hw hB hz1 hk1 hS => ?_)
              obtain ⟨hra, hP1, hD1⟩ := hB
              obtain rfl := hra.symm
              rw [ht] at hP1
              obtain ⟨hP, hD⟩ := PDq.join (w := [(oX0 a0 p0 a1 a3 a4 a5 a6 i6 i7 i8 i9 i10 i11 i12 i13 i14 i15 i16 i17 i18 i19), (a3, .inl (cA 0, 10, .inl fs)), (a4, .inl (cA 0, 10, .inl fp)), (a5, .inl (cA 0, 10, .inl ff)), (a6, .inl (cA 0, 10, .inl fd)), (p2, .inl (cA 1, 10, .inr (.inl fna))), (p3, .inl (cA 0, 10, .inl fam)), (oX9 h0 b0 (nI nb) p0 u0 r0 a0 t0 s0 o0), (oX3 p0 pr pb pe pg p1 (nI nd) p2 p3 p4 p5 (nI cn) p6 (nI pq) p7 p8 p9 (nI sc)), (oJ4 o0 qn20 0 zn8 (nI (qn15 + 1))), (qn20, .inl (cA 3, qn21, .inl fn22))]) 11 hP hD [] [0, 1, 2, 3, 4, 5, 6, 7, 8, 9, 10] rfl rfl (by decide +kernel) (by decide +kernel) hk1 hFc hP1 hD1 rfl
              generalize H1 = H at hP hS ⊢
              obtain ⟨hPc, hDc, hFc⟩ := PDq.cut (wc := [(oJ4 o0 qn20 0 zn8 (nI (qn15 + 1))), (qn20, .inl (cA 3, qn21, .inl fn22))]) hP hD hS hA [9, 10] (by decide) rfl
              refine va_callr (va_runV (As := [.ref (sa 37)]) (rest := []) ⟨hx, hb, hml, hown, hts⟩ (j_appendS l D cA sa o0 qn20 (qn15 + 1) qn21 zn8 fn22 37 ([115, 101, 116, 116, 108, 101, 100]) 7 H.size (by decide +kernel) (by omega) hn24 hn25 rfl (by omega)) (cwV 1 hts gX9_write_J4_append_15ec4 rfl rfl rfl (by decide +kernel) ⟨(Nat.le_of_ble_eq_true rfl), (Nat.le_of_ble_eq_true rfl)⟩) ⟨Wd.blind, va_recv hK hPc (ci := 1) (q0 := 0) rfl rfl, fun U hU hW => ⟨rfl, Wd.call hPc hDc hK hC hZ hS hFc U hU hW⟩⟩ rfl rfl hl.1 rfl (lv_room (Nat.le_of_ble_eq_true rfl)) dX9_write_57 ⟨(Nat.le_of_ble_eq_true rfl), (Nat.le_of_ble_eq_true rfl)⟩) hS (fun q _ h => hFc q h) hFc (fun u ra t H1 locs ht hvm hw hB hz1 hk1 hS => ?_)
              obtain ⟨hra, qn229, qn230, fn231, qn232, hn233, hn234, hn235, hn236, hP1, hD1⟩ := hB
              obtain rfl := hra.symm
              rw [ht] at hP1
              obtain ⟨hP, hD⟩ := PDq.join (w := [(oX0 a0 p0 a1 a3 a4 a5 a6 i6 i7 i8 i9 i10 i11 i12 i13 i14 i15 i16 i17 i18 i19), (a3, .inl (cA 0, 10, .inl fs)), (a4, .inl (cA 0, 10, .inl fp)), (a5, .inl (cA 0, 10, .inl ff)), (a6, .inl (cA 0, 10, .inl fd)), (p2, .inl (cA 1, 10, .inr (.inl fna))), (p3, .inl (cA 0, 10, .inl fam)), (oX9 h0 b0 (nI nb) p0 u0 r0 a0 t0 s0 o0), (oX3 p0 pr pb pe pg p1 (nI nd) p2 p3 p4 p5 (nI cn) p6 (nI pq) p7 p8 p9 (nI sc)), (oJ4 o0 qn229 0 zn8 (nI qn232)), (qn229, .inl (cA 3, qn230, .inl fn231))]) 9 hP hD [9, 10] [0, 1, 2, 3, 4, 5, 6, 7, 8] rfl rfl (by decide +kernel) (by decide +kernel) hk1 hFc hP1 hD1 rfl
              generalize H1 = H at hP hS ⊢
              refine lv_pop hx hb dX9_write_60 rfl ?_
              refine lv_aload_n hx hb dX9_write_61 rfl (lv_at hl 1 rfl) ?_
              refine va_get (D := D) (ci := 10) (v := .ref o0) (C := RX9) (T := TX9) (N := 9) hx hb hts inX9 hown hK hP 7 rfl rfl 8 (by decide) (hts (.fieldLink RX9 52 "EscrowDesk" "output" "Ljava/lang/StringBuilder;") (by decide +kernel)) (fun _ h9 => h9) rfl dX9_write_62 ?_
              refine lv_bipush (v := 32) hx hb dX9_write_65 (by decide) ?_
              obtain ⟨hPc, hDc, hFc⟩ := PDq.cut (wc := [(oJ4 o0 qn229 0 zn8 (nI qn232)), (qn229, .inl (cA 3, qn230, .inl fn231))]) hP hD hS hA [9, 10] (by decide) rfl
              refine va_callr (va_runV (As := [.int 32]) (rest := []) ⟨hx, hb, hml, hown, hts⟩ (j_appendC l D cA sa o0 qn229 qn232 qn230 zn8 fn231 32 H.size hn234 hn235 hn236 (by omega) (by omega)) (cwV 1 hts gX9_write_J4_append_cf468 rfl rfl rfl (by decide +kernel) ⟨(Nat.le_of_ble_eq_true rfl), (Nat.le_of_ble_eq_true rfl)⟩) ⟨Wd.blind, va_recv hK hPc (ci := 1) (q0 := 0) rfl rfl, fun U hU hW => ⟨rfl, Wd.call hPc hDc hK hC hZ hS hFc U hU hW⟩⟩ rfl rfl hl.1 rfl (lv_room (Nat.le_of_ble_eq_true rfl)) dX9_write_67 ⟨(Nat.le_of_ble_eq_true rfl), (Nat.le_of_ble_eq_true rfl)⟩) hS (fun q _ h => hFc q h) hFc (fun u ra t H1 locs ht hvm hw hB hz1 hk1 hS => ?_)
              obtain ⟨hra, qn237, qn238, fn239, hn240, hn241, hn242, hP1, hD1⟩ := hB
              obtain rfl := hra.symm
              rw [ht] at hP1
              obtain ⟨hP, hD⟩ := PDq.join (w := [(oX0 a0 p0 a1 a3 a4 a5 a6 i6 i7 i8 i9 i10 i11 i12 i13 i14 i15 i16 i17 i18 i19), (a3, .inl (cA 0, 10, .inl fs)), (a4, .inl (cA 0, 10, .inl fp)), (a5, .inl (cA 0, 10, .inl ff)), (a6, .inl (cA 0, 10, .inl fd)), (p2, .inl (cA 1, 10, .inr (.inl fna))), (p3, .inl (cA 0, 10, .inl fam)), (oX9 h0 b0 (nI nb) p0 u0 r0 a0 t0 s0 o0), (oX3 p0 pr pb pe pg p1 (nI nd) p2 p3 p4 p5 (nI cn) p6 (nI pq) p7 p8 p9 (nI sc)), (oJ4 o0 qn237 0 zn8 (nI (qn232 + 1))), (qn237, .inl (cA 3, qn238, .inl fn239))]) 9 hP hD [9, 10] [0, 1, 2, 3, 4, 5, 6, 7, 8] rfl rfl (by decide +kernel) (by decide +kernel) hk1 hFc hP1 hD1 rfl
              generalize H1 = H at hP hS ⊢
              refine lv_pop hx hb dX9_write_70 rfl ?_
              refine lv_aload_n hx hb dX9_write_71 rfl (lv_at hl 1 rfl) ?_
              refine va_get (D := D) (ci := 10) (v := .ref o0) (C := RX9) (T := TX9) (N := 9) hx hb hts inX9 hown hK hP 7 rfl rfl 8 (by decide) (hts (.fieldLink RX9 52 "EscrowDesk" "output" "Ljava/lang/StringBuilder;") (by decide +kernel)) (fun _ h9 => h9) rfl dX9_write_72 ?_
              refine lv_aload_n hx hb dX9_write_75 rfl (lv_at hl 1 rfl) ?_
              refine va_get (D := D) (ci := 10) (v := .ref a0) (C := RX9) (T := TX9) (N := 9) hx hb hts inX9 hown hK hP 7 rfl rfl 5 (by decide) (hts (.fieldLink RX9 35 "EscrowDesk" "account" "LEscrowDesk$Account;") (by decide +kernel)) (fun _ h9 => h9) rfl dX9_write_76 ?_
              refine va_getN (D := D) (ci := 4) (v := .ref a4) (C := RX0) (T := TX0) (N := 20) hx hb hts inX0 hown hK hP 0 rfl rfl 3 (by decide) (hC.f (A := _) (a := RX9) (i := 126) (b := "EscrowDesk$Account") (n := "paid") (d := "[I") (x := "EscrowDesk") (by decide +kernel)) (fun _ h9 => h9) rfl dX9_write_79 ?_
              refine lv_iload_n hx hb dX9_write_82 rfl (lv_at hl 2 rfl) ?_
              refine va_iald hx hb hK hP 2 0 rfl rfl (vp_in_nI (n := qn1) (N := 10) (show qn1 < 10 by omega) (by decide)) dX9_write_83 ?_
              refine lv_topi (fun yn243 eyn243 => ?_)
              obtain ⟨hPc, hDc, hFc⟩ := PDq.cut (wc := [(oJ4 o0 qn237 0 zn8 (nI (qn232 + 1))), (qn237, .inl (cA 3, qn238, .inl fn239))]) hP hD hS hA [9, 10] (by decide) rfl
              refine va_callr (va_runV (As := [.int yn243]) (rest := []) ⟨hx, hb, hml, hown, hts⟩ (j_appendI l D cA sa o0 qn237 (qn232 + 1) qn238 zn8 fn239 yn243 H.size (by omega) hn241 hn242 (by omega)) (cwV 1 hts gX9_write_J4_append_bf812 rfl rfl rfl (by decide +kernel) ⟨(Nat.le_of_ble_eq_true rfl), (Nat.le_of_ble_eq_true rfl)⟩) ⟨Wd2.blind, va_recv hK hPc (ci := 1) (q0 := 0) rfl rfl, fun U hU hW => ⟨rfl, Wd2.call (Wd.call hPc hDc hK hC hZ hS hFc U hU hW) hG hS hFc hU hW⟩⟩ rfl rfl hl.1 rfl (lv_room (Nat.le_of_ble_eq_true rfl)) dX9_write_84 ⟨(Nat.le_of_ble_eq_true rfl), (Nat.le_of_ble_eq_true rfl)⟩) hS (fun q _ h => hFc q h) hFc (fun u ra t H1 locs ht hvm hw hB hz1 hk1 hS => ?_)
              obtain ⟨hra, qn244, qn245, fn246, qn247, hn248, hn249, hn250, hn251, hP1, hD1⟩ := hB
              obtain rfl := hra.symm
              rw [ht] at hP1
              obtain ⟨hP, hD⟩ := PDq.join (w := [(oX0 a0 p0 a1 a3 a4 a5 a6 i6 i7 i8 i9 i10 i11 i12 i13 i14 i15 i16 i17 i18 i19), (a3, .inl (cA 0, 10, .inl fs)), (a4, .inl (cA 0, 10, .inl fp)), (a5, .inl (cA 0, 10, .inl ff)), (a6, .inl (cA 0, 10, .inl fd)), (p2, .inl (cA 1, 10, .inr (.inl fna))), (p3, .inl (cA 0, 10, .inl fam)), (oX9 h0 b0 (nI nb) p0 u0 r0 a0 t0 s0 o0), (oX3 p0 pr pb pe pg p1 (nI nd) p2 p3 p4 p5 (nI cn) p6 (nI pq) p7 p8 p9 (nI sc)), (oJ4 o0 qn244 0 zn8 (nI qn247)), (qn244, .inl (cA 3, qn245, .inl fn246))]) 9 hP hD [9, 10] [0, 1, 2, 3, 4, 5, 6, 7, 8] rfl rfl (by decide +kernel) (by decide +kernel) hk1 hFc hP1 hD1 rfl
              generalize H1 = H at hP hS ⊢
              refine lv_pop hx hb dX9_write_87 rfl ?_
              refine lv_aload_n hx hb dX9_write_88 rfl (lv_at hl 1 rfl) ?_
              refine va_get (D := D) (ci := 10) (v := .ref o0) (C := RX9) (T := TX9) (N := 9) hx hb hts inX9 hown hK hP 7 rfl rfl 8 (by decide) (hts (.fieldLink RX9 52 "EscrowDesk" "output" "Ljava/lang/StringBuilder;") (by decide +kernel)) (fun _ h9 => h9) rfl dX9_write_89 ?_
              refine lv_bipush (v := 47) hx hb dX9_write_92 (by decide) ?_
              obtain ⟨hPc, hDc, hFc⟩ := PDq.cut (wc := [(oJ4 o0 qn244 0 zn8 (nI qn247)), (qn244, .inl (cA 3, qn245, .inl fn246))]) hP hD hS hA [9, 10] (by decide) rfl
              refine va_callr (va_runV (As := [.int 47]) (rest := []) ⟨hx, hb, hml, hown, hts⟩ (j_appendC l D cA sa o0 qn244 qn247 qn245 zn8 fn246 47 H.size hn249 hn250 hn251 (by omega) (by omega)) (cwV 1 hts gX9_write_J4_append_cf468 rfl rfl rfl (by decide +kernel) ⟨(Nat.le_of_ble_eq_true rfl), (Nat.le_of_ble_eq_true rfl)⟩) ⟨Wd.blind, va_recv hK hPc (ci := 1) (q0 := 0) rfl rfl, fun U hU hW => ⟨rfl, Wd.call hPc hDc hK hC hZ hS hFc U hU hW⟩⟩ rfl rfl hl.1 rfl (lv_room (Nat.le_of_ble_eq_true rfl)) dX9_write_94 ⟨(Nat.le_of_ble_eq_true rfl), (Nat.le_of_ble_eq_true rfl)⟩) hS (fun q _ h => hFc q h) hFc (fun u ra t H1 locs ht hvm hw hB hz1 hk1 hS => ?_)
              obtain ⟨hra, qn252, qn253, fn254, hn255, hn256, hn257, hP1, hD1⟩ := hB
              obtain rfl := hra.symm
              rw [ht] at hP1
              obtain ⟨hP, hD⟩ := PDq.join (w := [(oX0 a0 p0 a1 a3 a4 a5 a6 i6 i7 i8 i9 i10 i11 i12 i13 i14 i15 i16 i17 i18 i19), (a3, .inl (cA 0, 10, .inl fs)), (a4, .inl (cA 0, 10, .inl fp)), (a5, .inl (cA 0, 10, .inl ff)), (a6, .inl (cA 0, 10, .inl fd)), (p2, .inl (cA 1, 10, .inr (.inl fna))), (p3, .inl (cA 0, 10, .inl fam)), (oX9 h0 b0 (nI nb) p0 u0 r0 a0 t0 s0 o0), (oX3 p0 pr pb pe pg p1 (nI nd) p2 p3 p4 p5 (nI cn) p6 (nI pq) p7 p8 p9 (nI sc)), (oJ4 o0 qn252 0 zn8 (nI (qn247 + 1))), (qn252, .inl (cA 3, qn253, .inl fn254))]) 9 hP hD [9, 10] [0, 1, 2, 3, 4, 5, 6, 7, 8] rfl rfl (by decide +kernel) (by decide +kernel) hk1 hFc hP1 hD1 rfl
              generalize H1 = H at hP hS ⊢
              refine lv_pop hx hb dX9_write_97 rfl ?_
              refine lv_aload_n hx hb dX9_write_98 rfl (lv_at hl 1 rfl) ?_
              refine va_get (D := D) (ci := 10) (v := .ref o0) (C := RX9) (T := TX9) (N := 9) hx hb hts inX9 hown hK hP 7 rfl rfl 8 (by decide) (hts (.fieldLink RX9 52 "EscrowDesk" "output" "Ljava/lang/StringBuilder;") (by decide +kernel)) (fun _ h9 => h9) rfl dX9_write_99 ?_
              refine lv_aload_n hx hb dX9_write_102 rfl (lv_at hl 1 rfl) ?_
              refine va_get (D := D) (ci := 10) (v := .ref p0) (C := RX9) (T := TX9) (N := 9) hx hb hts inX9 hown hK hP 7 rfl rfl 2 (by decide) (hts (.fieldLink RX9 16 "EscrowDesk" "plan" "LEscrowDesk$Plan;") (by decide +kernel)) (fun _ h9 => h9) rfl dX9_write_103 ?_
              refine va_getN (D := D) (ci := 7) (v := .ref p3) (C := RX3) (T := TX3) (N := 17) hx hb hts inX3 hown hK hP 8 rfl rfl 7 (by decide) (hC.f (A := _) (a := RX9) (i := 165) (b := "EscrowDesk$Plan") (n := "amounts") (d := "[I") (x := "EscrowDesk") (by decide +kernel)) (fun _ h9 => h9) rfl dX9_write_106 ?_
              refine lv_iload_n hx hb dX9_write_109 rfl (lv_at hl 2 rfl) ?_
              refine va_iald hx hb hK hP 6 0 rfl rfl (vp_in_nI (n := qn1) (N := 10) (show qn1 < 10 by omega) (by decide)) dX9_write_110 ?_
              refine lv_topi (fun yn258 eyn258 => ?_)
              obtain ⟨hPc, hDc, hFc⟩ := PDq.cut (wc := [(oJ4 o0 qn252 0 zn8 (nI (qn247 + 1))), (qn252, .inl (cA 3, qn253, .inl fn254))]) hP hD hS hA [9, 10] (by decide) rfl
              refine va_callr (va_runV (As := [.int yn258]) (rest := []) ⟨hx, hb, hml, hown, hts⟩ (j_appendI l D cA sa o0 qn252 (qn247 + 1) qn253 zn8 fn254 yn258 H.size (by omega) hn256 hn257 (by omega)) (cwV 1 hts gX9_write_J4_append_bf812 rfl rfl rfl (by decide +kernel) ⟨(Nat.le_of_ble_eq_true rfl), (Nat.le_of_ble_eq_true rfl)⟩) ⟨Wd2.blind, va_recv hK hPc (ci := 1) (q0 := 0) rfl rfl, fun U hU hW => ⟨rfl, Wd2.call (Wd.call hPc hDc hK hC hZ hS hFc U hU hW) hG hS hFc hU hW⟩⟩ rfl rfl hl.1 rfl (lv_room (Nat.le_of_ble_eq_true rfl)) dX9_write_111 ⟨(Nat.le_of_ble_eq_true rfl), (Nat.le_of_ble_eq_true rfl)⟩) hS (fun q _ h => hFc q h) hFc (fun u ra t H1 locs ht hvm hw hB hz1 hk1 hS => ?_)
              obtain ⟨hra, qn259, qn260, fn261, qn262, hn263, hn264, hn265, hn266, hP1, hD1⟩ := hB
              obtain rfl := hra.symm
              rw [ht] at hP1
              obtain ⟨hP, hD⟩ := PDq.join (w := [(oX0 a0 p0 a1 a3 a4 a5 a6 i6 i7 i8 i9 i10 i11 i12 i13 i14 i15 i16 i17 i18 i19), (a3, .inl (cA 0, 10, .inl fs)), (a4, .inl (cA 0, 10, .inl fp)), (a5, .inl (cA 0, 10, .inl ff)), (a6, .inl (cA 0, 10, .inl fd)), (p2, .inl (cA 1, 10, .inr (.inl fna))), (p3, .inl (cA 0, 10, .inl fam)), (oX9 h0 b0 (nI nb) p0 u0 r0 a0 t0 s0 o0), (oX3 p0 pr pb pe pg p1 (nI nd) p2 p3 p4 p5 (nI cn) p6 (nI pq) p7 p8 p9 (nI sc)), (oJ4 o0 qn259 0 zn8 (nI qn262)), (qn259, .inl (cA 3, qn260, .inl fn261))]) 9 hP hD [9, 10] [0, 1, 2, 3, 4, 5, 6, 7, 8] rfl rfl (by decide +kernel) (by decide +kernel) hk1 hFc hP1 hD1 rfl
              generalize H1 = H at hP hS ⊢
              refine lv_pop hx hb dX9_write_114 rfl ?_
              refine lv_iload_n hx hb dX9_write_115 rfl (lv_at hl 0 rfl) ?_
              refine lv_iconst (v := 1) hx hb dX9_write_116 (by decide) ?_
              refine lv_icmp_ne (tgt := 148) hx hb dX9_write_117 (by decide) (fun c267 => ?_) (fun c9 => absurd c9 (by decide))
              refine lv_iload_n hx hb dX9_write_148 rfl (lv_at hl 0 rfl) ?_
              refine lv_iconst (v := 2) hx hb dX9_write_149 (by decide) ?_
              refine lv_icmp_ne (tgt := 181) hx hb dX9_write_150 (by decide) (fun c268 => ?_) (fun c9 => absurd c9 (by decide))
              refine lv_aload_n hx hb dX9_write_181 rfl (lv_at hl 1 rfl) ?_
              refine va_get (D := D) (ci := 10) (v := .ref o0) (C := RX9) (T := TX9) (N := 9) hx hb hts inX9 hown hK hP 7 rfl rfl 8 (by decide) (hts (.fieldLink RX9 52 "EscrowDesk" "output" "Ljava/lang/StringBuilder;") (by decide +kernel)) (fun _ h9 => h9) rfl dX9_write_182 ?_
              obtain ⟨hPc, hDc, hFc⟩ := PDq.cut (wc := [(oJ4 o0 qn259 0 zn8 (nI qn262))]) hP hD hS hA [9] (by decide) rfl
              refine va_calli (va_runV (As := []) (rest := []) ⟨hx, hb, hml, hown, hts⟩ (j_length l D cA sa o0 qn259 qn262 zn8 H.size) (cwV 0 hts gX9_write_J4_length_8abf5 rfl rfl rfl (by decide +kernel) ⟨(Nat.le_of_ble_eq_true rfl), (Nat.le_of_ble_eq_true rfl)⟩) ⟨Wd.blind, va_recv hK hPc (ci := 1) (q0 := 0) rfl rfl, fun U hU hW => ⟨rfl, Wd.call hPc hDc hK hC hZ hS hFc U hU hW⟩⟩ rfl rfl hl.1 rfl (lv_room (Nat.le_of_ble_eq_true rfl)) dX9_write_185 ⟨(Nat.le_of_ble_eq_true rfl), (Nat.le_of_ble_eq_true rfl)⟩) hS (fun q _ h => hFc q h) hFc (fun rn269 u t H1 locs ht hvm hw hB hz1 hk1 hS => ?_)
              obtain ⟨hP1, hD1⟩ := hB
              rw [ht] at hP1
              obtain ⟨hP, hD⟩ := PDq.join (w := [(oX0 a0 p0 a1 a3 a4 a5 a6 i6 i7 i8 i9 i10 i11 i12 i13 i14 i15 i16 i17 i18 i19), (a3, .inl (cA 0, 10, .inl fs)), (a4, .inl (cA 0, 10, .inl fp)), (a5, .inl (cA 0, 10, .inl ff)), (a6, .inl (cA 0, 10, .inl fd)), (p2, .inl (cA 1, 10, .inr (.inl fna))), (p3, .inl (cA 0, 10, .inl fam)), (oX9 h0 b0 (nI nb) p0 u0 r0 a0 t0 s0 o0), (oX3 p0 pr pb pe pg p1 (nI nd) p2 p3 p4 p5 (nI cn) p6 (nI pq) p7 p8 p9 (nI sc)), (qn259, .inl (cA 3, qn260, .inl fn261)), (oJ4 o0 qn259 0 zn8 (nI qn262))]) 10 hP hD [9] [0, 1, 2, 3, 4, 5, 6, 7, 8, 10] rfl rfl (by decide +kernel) (by decide +kernel) hk1 hFc hP1 hD1 rfl
              generalize H1 = H at hP hS ⊢
              obtain rfl : rn269 = (nI qn262) := hw
              obtain ⟨hP9, hD9⟩ := PDq.sub (ws' := [(oX9 h0 b0 (nI nb) p0 u0 r0 a0 t0 s0 o0), (oX0 a0 p0 a1 a3 a4 a5 a6 i6 i7 i8 i9 i10 i11 i12 i13 i14 i15 i16 i17 i18 i19), (a3, .inl (cA 0, 10, .inl fs)), (a4, .inl (cA 0, 10, .inl fp)), (a5, .inl (cA 0, 10, .inl ff)), (a6, .inl (cA 0, 10, .inl fd)), (oX3 p0 pr pb pe pg p1 (nI nd) p2 p3 p4 p5 (nI cn) p6 (nI pq) p7 p8 p9 (nI sc)), (p2, .inl (cA 1, 10, .inr (.inl fna))), (p3, .inl (cA 0, 10, .inl fam)), (oJ4 o0 qn259 0 zn8 (nI qn262)), (qn259, .inl (cA 3, qn260, .inl fn261))]) hP hD [7, 0, 1, 2, 3, 4, 8, 5, 6, 10, 9] (by decide +kernel) rfl
              refine W.widen (k := 19) (n := 4686) (Nat.le_of_ble_eq_true rfl) (Nat.le_of_ble_eq_true rfl) ?_
              exact vx_ret (W.iret (v := (nI qn262)) hx hb hr (fun t ht hW => ⟨⟨(nI qn262), (), rfl, trivial, qn259, qn260, fn261, qn262, zn8, hn264, (by omega), hn265, hn266, by rw [ht]; exact hP9, hD9⟩, hS.F ht⟩) hS.2.2 dX9_write_188)
            · skip
              obtain ⟨hPc, hDc, hFc⟩ := PDq.cut (wc := []) hP hD hS hA [] (by decide) rfl
              refine va_callr (va_runS (As := [.int yn4]) (rest := [.ref o0]) ⟨hx, hb, hml, hown, hts⟩ (s_spellX l D cA sa yn4 H.size hn26 hn68 hn127 hn186 hn228) (va_cwS 1 hts gX9_write_X6_spelling rfl rfl rfl (by decide +kernel) ⟨(Nat.le_of_ble_eq_true rfl), (Nat.le_of_ble_eq_true rfl)⟩) ⟨Wd.blind, fun U hU hW => ⟨rfl, Wd.call hPc hDc hK hC hZ hS hFc U hU hW⟩⟩ rfl rfl hl.1 rfl (lv_room (Nat.le_of_ble_eq_true rfl)) dX9_write_54 ⟨(Nat.le_of_ble_eq_true rfl), (Nat.le_of_ble_eq_true rfl)⟩) hS (fun q _ h => hFc q h) hFc (fun u ra t H1 locs ht hvm hw hB hz1 hk1 hS => ?_)
              obtain ⟨hra, hP1, hD1⟩ := hB
              obtain rfl := hra.symm
              rw [ht] at hP1
              obtain ⟨hP, hD⟩ := PDq.join (w := [(oX0 a0 p0 a1 a3 a4 a5 a6 i6 i7 i8 i9 i10 i11 i12 i13 i14 i15 i16 i17 i18 i19), (a3, .inl (cA 0, 10, .inl fs)), (a4, .inl (cA 0, 10, .inl fp)), (a5, .inl (cA 0, 10, .inl ff)), (a6, .inl (cA 0, 10, .inl fd)), (p2, .inl (cA 1, 10, .inr (.inl fna))), (p3, .inl (cA 0, 10, .inl fam)), (oX9 h0 b0 (nI nb) p0 u0 r0 a0 t0 s0 o0), (oX3 p0 pr pb pe pg p1 (nI nd) p2 p3 p4 p5 (nI cn) p6 (nI pq) p7 p8 p9 (nI sc)), (oJ4 o0 qn20 0 zn8 (nI (qn15 + 1))), (qn20, .inl (cA 3, qn21, .inl fn22))]) 11 hP hD [] [0, 1, 2, 3, 4, 5, 6, 7, 8, 9, 10] rfl rfl (by decide +kernel) (by decide +kernel) hk1 hFc hP1 hD1 rfl
              generalize H1 = H at hP hS ⊢
              obtain ⟨hPc, hDc, hFc⟩ := PDq.cut (wc := [(oJ4 o0 qn20 0 zn8 (nI (qn15 + 1))), (qn20, .inl (cA 3, qn21, .inl fn22))]) hP hD hS hA [9, 10] (by decide) rfl
              refine va_callr (va_runV (As := [.ref (sa 38)]) (rest := []) ⟨hx, hb, hml, hown, hts⟩ (j_appendS l D cA sa o0 qn20 (qn15 + 1) qn21 zn8 fn22 38 ([99, 97, 110, 99, 101, 108, 108, 101, 100]) 9 H.size (by decide +kernel) (by omega) hn24 hn25 rfl (by omega)) (cwV 1 hts gX9_write_J4_append_15ec4 rfl rfl rfl (by decide +kernel) ⟨(Nat.le_of_ble_eq_true rfl), (Nat.le_of_ble_eq_true rfl)⟩) ⟨Wd.blind, va_recv hK hPc (ci := 1) (q0 := 0) rfl rfl, fun U hU hW => ⟨rfl, Wd.call hPc hDc hK hC hZ hS hFc U hU hW⟩⟩ rfl rfl hl.1 rfl (lv_room (Nat.le_of_ble_eq_true rfl)) dX9_write_57 ⟨(Nat.le_of_ble_eq_true rfl), (Nat.le_of_ble_eq_true rfl)⟩) hS (fun q _ h => hFc q h) hFc (fun u ra t H1 locs ht hvm hw hB hz1 hk1 hS => ?_)
              obtain ⟨hra, qn270, qn271, fn272, qn273, hn274, hn275, hn276, hn277, hP1, hD1⟩ := hB
              obtain rfl := hra.symm
              rw [ht] at hP1
              obtain ⟨hP, hD⟩ := PDq.join (w := [(oX0 a0 p0 a1 a3 a4 a5 a6 i6 i7 i8 i9 i10 i11 i12 i13 i14 i15 i16 i17 i18 i19), (a3, .inl (cA 0, 10, .inl fs)), (a4, .inl (cA 0, 10, .inl fp)), (a5, .inl (cA 0, 10, .inl ff)), (a6, .inl (cA 0, 10, .inl fd)), (p2, .inl (cA 1, 10, .inr (.inl fna))), (p3, .inl (cA 0, 10, .inl fam)), (oX9 h0 b0 (nI nb) p0 u0 r0 a0 t0 s0 o0), (oX3 p0 pr pb pe pg p1 (nI nd) p2 p3 p4 p5 (nI cn) p6 (nI pq) p7 p8 p9 (nI sc)), (oJ4 o0 qn270 0 zn8 (nI qn273)), (qn270, .inl (cA 3, qn271, .inl fn272))]) 9 hP hD [9, 10] [0, 1, 2, 3, 4, 5, 6, 7, 8] rfl rfl (by decide +kernel) (by decide +kernel) hk1 hFc hP1 hD1 rfl
              generalize H1 = H at hP hS ⊢
              refine lv_pop hx hb dX9_write_60 rfl ?_
              refine lv_aload_n hx hb dX9_write_61 rfl (lv_at hl 1 rfl) ?_
              refine va_get (D := D) (ci := 10) (v := .ref o0) (C := RX9) (T := TX9) (N := 9) hx hb hts inX9 hown hK hP 7 rfl rfl 8 (by decide) (hts (.fieldLink RX9 52 "EscrowDesk" "output" "Ljava/lang/StringBuilder;") (by decide +kernel)) (fun _ h9 => h9) rfl dX9_write_62 ?_
              refine lv_bipush (v := 32) hx hb dX9_write_65 (by decide) ?_
              obtain ⟨hPc, hDc, hFc⟩ := PDq.cut (wc := [(oJ4 o0 qn270 0 zn8 (nI qn273)), (qn270, .inl (cA 3, qn271, .inl fn272))]) hP hD hS hA [9, 10] (by decide) rfl
              refine va_callr (va_runV (As := [.int 32]) (rest := []) ⟨hx, hb, hml, hown, hts⟩ (j_appendC l D cA sa o0 qn270 qn273 qn271 zn8 fn272 32 H.size hn275 hn276 hn277 (by omega) (by omega)) (cwV 1 hts gX9_write_J4_append_cf468 rfl rfl rfl (by decide +kernel) ⟨(Nat.le_of_ble_eq_true rfl), (Nat.le_of_ble_eq_true rfl)⟩) ⟨Wd.blind, va_recv hK hPc (ci := 1) (q0 := 0) rfl rfl, fun U hU hW => ⟨rfl, Wd.call hPc hDc hK hC hZ hS hFc U hU hW⟩⟩ rfl rfl hl.1 rfl (lv_room (Nat.le_of_ble_eq_true rfl)) dX9_write_67 ⟨(Nat.le_of_ble_eq_true rfl), (Nat.le_of_ble_eq_true rfl)⟩) hS (fun q _ h => hFc q h) hFc (fun u ra t H1 locs ht hvm hw hB hz1 hk1 hS => ?_)
              obtain ⟨hra, qn278, qn279, fn280, hn281, hn282, hn283, hP1, hD1⟩ := hB
              obtain rfl := hra.symm
              rw [ht] at hP1
              obtain ⟨hP, hD⟩ := PDq.join (w := [(oX0 a0 p0 a1 a3 a4 a5 a6 i6 i7 i8 i9 i10 i11 i12 i13 i14 i15 i16 i17 i18 i19), (a3, .inl (cA 0, 10, .inl fs)), (a4, .inl (cA 0, 10, .inl fp)), (a5, .inl (cA 0, 10, .inl ff)), (a6, .inl (cA 0, 10, .inl fd)), (p2, .inl (cA 1, 10, .inr (.inl fna))), (p3, .inl (cA 0, 10, .inl fam)), (oX9 h0 b0 (nI nb) p0 u0 r0 a0 t0 s0 o0), (oX3 p0 pr pb pe pg p1 (nI nd) p2 p3 p4 p5 (nI cn) p6 (nI pq) p7 p8 p9 (nI sc)), (oJ4 o0 qn278 0 zn8 (nI (qn273 + 1))), (qn278, .inl (cA 3, qn279, .inl fn280))]) 9 hP hD [9, 10] [0, 1, 2, 3, 4, 5, 6, 7, 8] rfl rfl (by decide +kernel) (by decide +kernel) hk1 hFc hP1 hD1 rfl
              generalize H1 = H at hP hS ⊢
              refine lv_pop hx hb dX9_write_70 rfl ?_
              refine lv_aload_n hx hb dX9_write_71 rfl (lv_at hl 1 rfl) ?_
              refine va_get (D := D) (ci := 10) (v := .ref o0) (C := RX9) (T := TX9) (N := 9) hx hb hts inX9 hown hK hP 7 rfl rfl 8 (by decide) (hts (.fieldLink RX9 52 "EscrowDesk" "output" "Ljava/lang/StringBuilder;") (by decide +kernel)) (fun _ h9 => h9) rfl dX9_write_72 ?_
              refine lv_aload_n hx hb dX9_write_75 rfl (lv_at hl 1 rfl) ?_
              refine va_get (D := D) (ci := 10) (v := .ref a0) (C := RX9) (T := TX9) (N := 9) hx hb hts inX9 hown hK hP 7 rfl rfl 5 (by decide) (hts (.fieldLink RX9 35 "EscrowDesk" "account" "LEscrowDesk$Account;") (by decide +kernel)) (fun _ h9 => h9) rfl dX9_write_76 ?_
              refine va_getN (D := D) (ci := 4) (v := .ref a4) (C := RX0) (T := TX0) (N := 20) hx hb hts inX0 hown hK hP 0 rfl rfl 3 (by decide) (hC.f (A := _) (a := RX9) (i := 126) (b := "EscrowDesk$Account") (n := "paid") (d := "[I") (x := "EscrowDesk") (by decide +kernel)) (fun _ h9 => h9) rfl dX9_write_79 ?_
              refine lv_iload_n hx hb dX9_write_82 rfl (lv_at hl 2 rfl) ?_
              refine va_iald hx hb hK hP 2 0 rfl rfl (vp_in_nI (n := qn1) (N := 10) (show qn1 < 10 by omega) (by decide)) dX9_write_83 ?_
              refine lv_topi (fun yn284 eyn284 => ?_)
              obtain ⟨hPc, hDc, hFc⟩ := PDq.cut (wc := [(oJ4 o0 qn278 0 zn8 (nI (qn273 + 1))), (qn278, .inl (cA 3, qn279, .inl fn280))]) hP hD hS hA [9, 10] (by decide) rfl
              refine va_callr (va_runV (As := [.int yn284]) (rest := []) ⟨hx, hb, hml, hown, hts⟩ (j_appendI l D cA sa o0 qn278 (qn273 + 1) qn279 zn8 fn280 yn284 H.size (by omega) hn282 hn283 (by omega)) (cwV 1 hts gX9_write_J4_append_bf812 rfl rfl rfl (by decide +kernel) ⟨(Nat.le_of_ble_eq_true rfl), (Nat.le_of_ble_eq_true rfl)⟩) ⟨Wd2.blind, va_recv hK hPc (ci := 1) (q0 := 0) rfl rfl, fun U hU hW => ⟨rfl, Wd2.call (Wd.call hPc hDc hK hC hZ hS hFc U hU hW) hG hS hFc hU hW⟩⟩ rfl rfl hl.1 rfl (lv_room (Nat.le_of_ble_eq_true rfl)) dX9_write_84 ⟨(Nat.le_of_ble_eq_true rfl), (Nat.le_of_ble_eq_true rfl)⟩) hS (fun q _ h => hFc q h) hFc (fun u ra t H1 locs ht hvm hw hB hz1 hk1 hS => ?_)
              obtain ⟨hra, qn285, qn286, fn287, qn288, hn289, hn290, hn291, hn292, hP1, hD1⟩ := hB
              obtain rfl := hra.symm
              rw [ht] at hP1
              obtain ⟨hP, hD⟩ := PDq.join (w := [(oX0 a0 p0 a1 a3 a4 a5 a6 i6 i7 i8 i9 i10 i11 i12 i13 i14 i15 i16 i17 i18 i19), (a3, .inl (cA 0, 10, .inl fs)), (a4, .inl (cA 0, 10, .inl fp)), (a5, .inl (cA 0, 10, .inl ff)), (a6, .inl (cA 0, 10, .inl fd)), (p2, .inl (cA 1, 10, .inr (.inl fna))), (p3, .inl (cA 0, 10, .inl fam)), (oX9 h0 b0 (nI nb) p0 u0 r0 a0 t0 s0 o0), (oX3 p0 pr pb pe pg p1 (nI nd) p2 p3 p4 p5 (nI cn) p6 (nI pq) p7 p8 p9 (nI sc)), (oJ4 o0 qn285 0 zn8 (nI qn288)), (qn285, .inl (cA 3, qn286, .inl fn287))]) 9 hP hD [9, 10] [0, 1, 2, 3, 4, 5, 6, 7, 8] rfl rfl (by decide +kernel) (by decide +kernel) hk1 hFc hP1 hD1 rfl
              generalize H1 = H at hP hS ⊢
              refine lv_pop hx hb dX9_write_87 rfl ?_
              refine lv_aload_n hx hb dX9_write_88 rfl (lv_at hl 1 rfl) ?_
              refine va_get (D := D) (ci := 10) (v := .ref o0) (C := RX9) (T := TX9) (N := 9) hx hb hts inX9 hown hK hP 7 rfl rfl 8 (by decide) (hts (.fieldLink RX9 52 "EscrowDesk" "output" "Ljava/lang/StringBuilder;") (by decide +kernel)) (fun _ h9 => h9) rfl dX9_write_89 ?_
              refine lv_bipush (v := 47) hx hb dX9_write_92 (by decide) ?_
              obtain ⟨hPc, hDc, hFc⟩ := PDq.cut (wc := [(oJ4 o0 qn285 0 zn8 (nI qn288)), (qn285, .inl (cA 3, qn286, .inl fn287))]) hP hD hS hA [9, 10] (by decide) rfl
              refine va_callr (va_runV (As := [.int 47]) (rest := []) ⟨hx, hb, hml, hown, hts⟩ (j_appendC l D cA sa o0 qn285 qn288 qn286 zn8 fn287 47 H.size hn290 hn291 hn292 (by omega) (by omega)) (cwV 1 hts gX9_write_J4_append_cf468 rfl rfl rfl (by decide +kernel) ⟨(Nat.le_of_ble_eq_true rfl), (Nat.le_of_ble_eq_true rfl)⟩) ⟨Wd.blind, va_recv hK hPc (ci := 1) (q0 := 0) rfl rfl, fun U hU hW => ⟨rfl, Wd.call hPc hDc hK hC hZ hS hFc U hU hW⟩⟩ rfl rfl hl.1 rfl (lv_room (Nat.le_of_ble_eq_true rfl)) dX9_write_94 ⟨(Nat.le_of_ble_eq_true rfl), (Nat.le_of_ble_eq_true rfl)⟩) hS (fun q _ h => hFc q h) hFc (fun u ra t H1 locs ht hvm hw hB hz1 hk1 hS => ?_)
              obtain ⟨hra, qn293, qn294, fn295, hn296, hn297, hn298, hP1, hD1⟩ := hB
              obtain rfl := hra.symm
              rw [ht] at hP1
              obtain ⟨hP, hD⟩ := PDq.join (w := [(oX0 a0 p0 a1 a3 a4 a5 a6 i6 i7 i8 i9 i10 i11 i12 i13 i14 i15 i16 i17 i18 i19), (a3, .inl (cA 0, 10, .inl fs)), (a4, .inl (cA 0, 10, .inl fp)), (a5, .inl (cA 0, 10, .inl ff)), (a6, .inl (cA 0, 10, .inl fd)), (p2, .inl (cA 1, 10, .inr (.inl fna))), (p3, .inl (cA 0, 10, .inl fam)), (oX9 h0 b0 (nI nb) p0 u0 r0 a0 t0 s0 o0), (oX3 p0 pr pb pe pg p1 (nI nd) p2 p3 p4 p5 (nI cn) p6 (nI pq) p7 p8 p9 (nI sc)), (oJ4 o0 qn293 0 zn8 (nI (qn288 + 1))), (qn293, .inl (cA 3, qn294, .inl fn295))]) 9 hP hD [9, 10] [0, 1, 2, 3, 4, 5, 6, 7, 8] rfl rfl (by decide +kernel) (by decide +kernel) hk1 hFc hP1 hD1 rfl
              generalize H1 = H at hP hS ⊢
              refine lv_pop hx hb dX9_write_97 rfl ?_
              refine lv_aload_n hx hb dX9_write_98 rfl (lv_at hl 1 rfl) ?_
              refine va_get (D := D) (ci := 10) (v := .ref o0) (C := RX9) (T := TX9) (N := 9) hx hb hts inX9 hown hK hP 7 rfl rfl 8 (by decide) (hts (.fieldLink RX9 52 "EscrowDesk" "output" "Ljava/lang/StringBuilder;") (by decide +kernel)) (fun _ h9 => h9) rfl dX9_write_99 ?_
              refine lv_aload_n hx hb dX9_write_102 rfl (lv_at hl 1 rfl) ?_
              refine va_get (D := D) (ci := 10) (v := .ref p0) (C := RX9) (T := TX9) (N := 9) hx hb hts inX9 hown hK hP 7 rfl rfl 2 (by decide) (hts (.fieldLink RX9 16 "EscrowDesk" "plan" "LEscrowDesk$Plan;") (by decide +kernel)) (fun _ h9 => h9) rfl dX9_write_103 ?_
              refine va_getN (D := D) (ci := 7) (v := .ref p3) (C := RX3) (T := TX3) (N := 17) hx hb hts inX3 hown hK hP 8 rfl rfl 7 (by decide) (hC.f (A := _) (a := RX9) (i := 165) (b := "EscrowDesk$Plan") (n := "amounts") (d := "[I") (x := "EscrowDesk") (by decide +kernel)) (fun _ h9 => h9) rfl dX9_write_106 ?_
              refine lv_iload_n hx hb dX9_write_109 rfl (lv_at hl 2 rfl) ?_
              refine va_iald hx hb hK hP 6 0 rfl rfl (vp_in_nI (n := qn1) (N := 10) (show qn1 < 10 by omega) (by decide)) dX9_write_110 ?_
              refine lv_topi (fun yn299 eyn299 => ?_)
              obtain ⟨hPc, hDc, hFc⟩ := PDq.cut (wc := [(oJ4 o0 qn293 0 zn8 (nI (qn288 + 1))), (qn293, .inl (cA 3, qn294, .inl fn295))]) hP hD hS hA [9, 10] (by decide) rfl
              refine va_callr (va_runV (As := [.int yn299]) (rest := []) ⟨hx, hb, hml, hown, hts⟩ (j_appendI l D cA sa o0 qn293 (qn288 + 1) qn294 zn8 fn295 yn299 H.size (by omega) hn297 hn298 (by omega)) (cwV 1 hts gX9_write_J4_append_bf812 rfl rfl rfl (by decide +kernel) ⟨(Nat.le_of_ble_eq_true rfl), (Nat.le_of_ble_eq_true rfl)⟩) ⟨Wd2.blind, va_recv hK hPc (ci := 1) (q0 := 0) rfl rfl, fun U hU hW => ⟨rfl, Wd2.call (Wd.call hPc hDc hK hC hZ hS hFc U hU hW) hG hS hFc hU hW⟩⟩ rfl rfl hl.1 rfl (lv_room (Nat.le_of_ble_eq_true rfl)) dX9_write_111 ⟨(Nat.le_of_ble_eq_true rfl), (Nat.le_of_ble_eq_true rfl)⟩) hS (fun q _ h => hFc q h) hFc (fun u ra t H1 locs ht hvm hw hB hz1 hk1 hS => ?_)
              obtain ⟨hra, qn300, qn301, fn302, qn303, hn304, hn305, hn306, hn307, hP1, hD1⟩ := hB
              obtain rfl := hra.symm
              rw [ht] at hP1
              obtain ⟨hP, hD⟩ := PDq.join (w := [(oX0 a0 p0 a1 a3 a4 a5 a6 i6 i7 i8 i9 i10 i11 i12 i13 i14 i15 i16 i17 i18 i19), (a3, .inl (cA 0, 10, .inl fs)), (a4, .inl (cA 0, 10, .inl fp)), (a5, .inl (cA 0, 10, .inl ff)), (a6, .inl (cA 0, 10, .inl fd)), (p2, .inl (cA 1, 10, .inr (.inl fna))), (p3, .inl (cA 0, 10, .inl fam)), (oX9 h0 b0 (nI nb) p0 u0 r0 a0 t0 s0 o0), (oX3 p0 pr pb pe pg p1 (nI nd) p2 p3 p4 p5 (nI cn) p6 (nI pq) p7 p8 p9 (nI sc)), (oJ4 o0 qn300 0 zn8 (nI qn303)), (qn300, .inl (cA 3, qn301, .inl fn302))]) 9 hP hD [9, 10] [0, 1, 2, 3, 4, 5, 6, 7, 8] rfl rfl (by decide +kernel) (by decide +kernel) hk1 hFc hP1 hD1 rfl
              generalize H1 = H at hP hS ⊢
              refine lv_pop hx hb dX9_write_114 rfl ?_
              refine lv_iload_n hx hb dX9_write_115 rfl (lv_at hl 0 rfl) ?_
              refine lv_iconst (v := 1) hx hb dX9_write_116 (by decide) ?_
              refine lv_icmp_ne (tgt := 148) hx hb dX9_write_117 (by decide) (fun c308 => ?_) (fun c9 => absurd c9 hn68)
              refine lv_iload_n hx hb dX9_write_148 rfl (lv_at hl 0 rfl) ?_
              refine lv_iconst (v := 2) hx hb dX9_write_149 (by decide) ?_
              refine lv_icmp_ne (tgt := 181) hx hb dX9_write_150 (by decide) (fun c309 => ?_) (fun c9 => absurd c9 hn127)
              refine lv_aload_n hx hb dX9_write_181 rfl (lv_at hl 1 rfl) ?_
              refine va_get (D := D) (ci := 10) (v := .ref o0) (C := RX9) (T := TX9) (N := 9) hx hb hts inX9 hown hK hP 7 rfl rfl 8 (by decide) (hts (.fieldLink RX9 52 "EscrowDesk" "output" "Ljava/lang/StringBuilder;") (by decide +kernel)) (fun _ h9 => h9) rfl dX9_write_182 ?_
              obtain ⟨hPc, hDc, hFc⟩ := PDq.cut (wc := [(oJ4 o0 qn300 0 zn8 (nI qn303))]) hP hD hS hA [9] (by decide) rfl
              refine va_calli (va_runV (As := []) (rest := []) ⟨hx, hb, hml, hown, hts⟩ (j_length l D cA sa o0 qn300 qn303 zn8 H.size) (cwV 0 hts gX9_write_J4_length_8abf5 rfl rfl rfl (by decide +kernel) ⟨(Nat.le_of_ble_eq_true rfl), (Nat.le_of_ble_eq_true rfl)⟩) ⟨Wd.blind, va_recv hK hPc (ci := 1) (q0 := 0) rfl rfl, fun U hU hW => ⟨rfl, Wd.call hPc hDc hK hC hZ hS hFc U hU hW⟩⟩ rfl rfl hl.1 rfl (lv_room (Nat.le_of_ble_eq_true rfl)) dX9_write_185 ⟨(Nat.le_of_ble_eq_true rfl), (Nat.le_of_ble_eq_true rfl)⟩) hS (fun q _ h => hFc q h) hFc (fun rn310 u t H1 locs ht hvm hw hB hz1 hk1 hS => ?_)
              obtain ⟨hP1, hD1⟩ := hB
              rw [ht] at hP1
              obtain ⟨hP, hD⟩ := PDq.join (w := [(oX0 a0 p0 a1 a3 a4 a5 a6 i6 i7 i8 i9 i10 i11 i12 i13 i14 i15 i16 i17 i18 i19), (a3, .inl (cA 0, 10, .inl fs)), (a4, .inl (cA 0, 10, .inl fp)), (a5, .inl (cA 0, 10, .inl ff)), (a6, .inl (cA 0, 10, .inl fd)), (p2, .inl (cA 1, 10, .inr (.inl fna))), (p3, .inl (cA 0, 10, .inl fam)), (oX9 h0 b0 (nI nb) p0 u0 r0 a0 t0 s0 o0), (oX3 p0 pr pb pe pg p1 (nI nd) p2 p3 p4 p5 (nI cn) p6 (nI pq) p7 p8 p9 (nI sc)), (qn300, .inl (cA 3, qn301, .inl fn302)), (oJ4 o0 qn300 0 zn8 (nI qn303))]) 10 hP hD [9] [0, 1, 2, 3, 4, 5, 6, 7, 8, 10] rfl rfl (by decide +kernel) (by decide +kernel) hk1 hFc hP1 hD1 rfl
              generalize H1 = H at hP hS ⊢
              obtain rfl : rn310 = (nI qn303) := hw
              obtain ⟨hP9, hD9⟩ := PDq.sub (ws' := [(oX9 h0 b0 (nI nb) p0 u0 r0 a0 t0 s0 o0), (oX0 a0 p0 a1 a3 a4 a5 a6 i6 i7 i8 i9 i10 i11 i12 i13 i14 i15 i16 i17 i18 i19), (a3, .inl (cA 0, 10, .inl fs)), (a4, .inl (cA 0, 10, .inl fp)), (a5, .inl (cA 0, 10, .inl ff)), (a6, .inl (cA 0, 10, .inl fd)), (oX3 p0 pr pb pe pg p1 (nI nd) p2 p3 p4 p5 (nI cn) p6 (nI pq) p7 p8 p9 (nI sc)), (p2, .inl (cA 1, 10, .inr (.inl fna))), (p3, .inl (cA 0, 10, .inl fam)), (oJ4 o0 qn300 0 zn8 (nI qn303)), (qn300, .inl (cA 3, qn301, .inl fn302))]) hP hD [7, 0, 1, 2, 3, 4, 8, 5, 6, 10, 9] (by decide +kernel) rfl
              refine W.widen (k := 19) (n := 4686) (Nat.le_of_ble_eq_true rfl) (Nat.le_of_ble_eq_true rfl) ?_
              exact vx_ret (W.iret (v := (nI qn303)) hx hb hr (fun t ht hW => ⟨⟨(nI qn303), (), rfl, trivial, qn300, qn301, fn302, qn303, zn8, hn305, (by omega), hn306, hn307, by rw [ht]; exact hP9, hD9⟩, hS.F ht⟩) hS.2.2 dX9_write_188)

set_option maxHeartbeats 4000000 in
set_option maxRecDepth 100000 in
/-- written -/
theorem s_written (l : Launch) (D : va_G) (cA : Nat → ClassId) (sa : Nat → Nat) (h0 : Nat) (b0 : Nat) (nb : Nat) (p0 : Nat) (u0 : Nat) (r0 : Nat) (a0 : Nat) (t0 : Nat) (s0 : Nat) (o0 : Nat) (o1 : Nat) (ct : Nat) (cp : Nat) (mb : Int32) (fy : Nat → Int32) (i : Int32) (sz : Nat) (hl9 : l.stackTraces = false) (hct : ct ≤ cp) (hcp : cp ≤ 126) (hfit : sb_Fit fy) : vx_Met l yX9_written wsX9_written ({ frames := 7, cells := 1, slots := 6, locals := 111 }) (va_Pc [.ref h0, .int i] (Wd D cA sa [(oX9 h0 b0 (nI nb) p0 u0 r0 a0 t0 s0 o0), (oJ4 o0 o1 0 mb (nI ct)), (o1, .inl (cA 3, cp, .inl fy))] sz)) (va_Qi (fun (r : Int32) (_ : Unit) => NC r) (fun (_ : Unit) t => Wq D (va_A [(oX9 h0 b0 (nI nb) p0 u0 r0 a0 t0 s0 o0), (oJ4 o0 o1 0 mb (nI ct)), (o1, .inl (cA 3, cp, .inl fy))] sz) [(oX9 h0 b0 (nI nb) p0 u0 r0 a0 t0 s0 o0), (oJ4 o0 o1 0 mb (nI ct)), (o1, .inl (cA 3, cp, .inl fy))] t) (va_A [(oX9 h0 b0 (nI nb) p0 u0 r0 a0 t0 s0 o0), (oJ4 o0 o1 0 mb (nI ct)), (o1, .inl (cA 3, cp, .inl fy))] sz)) (vx_X (fun _ : Unit => True) (fun E _ t => (E = "java/lang/IndexOutOfBoundsException") ∧ Wq D (va_A [(oX9 h0 b0 (nI nb) p0 u0 r0 a0 t0 s0 o0), (oJ4 o0 o1 0 mb (nI ct)), (o1, .inl (cA 3, cp, .inl fy))] sz) [(oX9 h0 b0 (nI nb) p0 u0 r0 a0 t0 s0 o0), (oJ4 o0 o1 0 mb (nI ct)), (o1, .inl (cA 3, cp, .inl fy))] t) (va_A [(oX9 h0 b0 (nI nb) p0 u0 r0 a0 t0 s0 o0), (oJ4 o0 o1 0 mb (nI ct)), (o1, .inl (cA 3, cp, .inl fy))] sz)) 1 6 (va_A [(oX9 h0 b0 (nI nb) p0 u0 r0 a0 t0 s0 o0), (oJ4 o0 o1 0 mb (nI ct)), (o1, .inl (cA 3, cp, .inl fy))] sz) := by
  refine vx_ofW (cc := cX9_written) (maxL := 2) (ret := (some .char)) (by decide) rfl ?_
  intro p e s m args below meth c s₁ B hml hno hv
  obtain ⟨rfl, hsz, hP, hK, hD0, hC, hZ⟩ := hv
  have hx := B.exec
  have hb := B.bytes
  have hr := B.returns
  have hts := atoms_spec (ws := wsX9_written) B.pre
  have hown : s.vm.findClass RX9 = some m.cls := findClass_of_methodNamed B.named
  have hlocks := B.notSynchronized
  subst hsz
  have hD := hD0.self (sz := s.heap.size)
  generalize hAe : va_A [(oX9 h0 b0 (nI nb) p0 u0 r0 a0 t0 s0 o0), (oJ4 o0 o1 0 mb (nI ct)), (o1, .inl (cA 3, cp, .inl fy))] s.heap.size = A at hD hZ ⊢
  have hA : ∀ q : Nat, s.heap.size ≤ q → A q := fun q h => by rw [← hAe]; exact Or.inr h
  have hS : va_S A s.heap s.heap [] := va_S.rf
  have hP : va_P D vwCl [(oX9 h0 b0 (nI nb) p0 u0 r0 a0 t0 s0 o0), (oJ4 o0 o1 0 mb (nI ct)), (o1, .inl (cA 3, cp, .inl fy))] s.heap := hP
  have hl := lv_entry ([.ref h0, .int i]) (n := 2) (Nat.le_of_ble_eq_true rfl)
  rw [lg_entry_eq]
  generalize (lg_sl ([.ref h0, .int i]) ++ List.replicate (2 - (lg_sl ([.ref h0, .int i])).length) Slot.unset).toArray = ls at hl ⊢
  have hl : lv_has ls 2 [(0, .ref h0), (1, .int i)] := hl
  have inX9 : ∀ w ∈ u_ws RX9 TX9 9, w ∈ wsX9_written := by decide +kernel
  refine lv_iload_n hx hb dX9_written_0 rfl (lv_at hl 1 rfl) ?_
  refine lv_aload_n hx hb dX9_written_1 rfl (lv_at hl 0 rfl) ?_
  refine va_get (D := D) (ci := 10) (v := .ref o0) (C := RX9) (T := TX9) (N := 9) hx hb hts inX9 hown hK hP 0 rfl rfl 8 (by decide) (hts (.fieldLink RX9 52 "EscrowDesk" "output" "Ljava/lang/StringBuilder;") (by decide +kernel)) (fun _ h9 => h9) rfl dX9_written_2 ?_
  obtain ⟨hPc, hDc, hFc⟩ := PDq.cut (wc := [(oJ4 o0 o1 0 mb (nI ct))]) hP hD hS hA [1] (by decide) rfl
  refine va_calli (va_runV (As := []) (rest := [.int i]) ⟨hx, hb, hml, hown, hts⟩ (j_length l D cA sa o0 o1 ct mb s.heap.size) (cwV 0 hts gX9_written_J4_length_8abf5 rfl rfl rfl (by decide +kernel) ⟨(Nat.le_of_ble_eq_true rfl), (Nat.le_of_ble_eq_true rfl)⟩) ⟨Wd.blind, va_recv hK hPc (ci := 1) (q0 := 0) rfl rfl, fun U hU hW => ⟨rfl, Wd.call hPc hDc hK hC hZ hS hFc U hU hW⟩⟩ rfl rfl hl.1 rfl (lv_room (Nat.le_of_ble_eq_true rfl)) dX9_written_5 ⟨(Nat.le_of_ble_eq_true rfl), (Nat.le_of_ble_eq_true rfl)⟩) hS (fun q _ h => hFc q h) hFc (fun rn1 u t H1 locs ht hvm hw hB hz1 hk1 hS => ?_)
  obtain ⟨hP1, hD1⟩ := hB
  rw [ht] at hP1
  obtain ⟨hP, hD⟩ := PDq.join (w := [(oX9 h0 b0 (nI nb) p0 u0 r0 a0 t0 s0 o0), (o1, .inl (cA 3, cp, .inl fy)), (oJ4 o0 o1 0 mb (nI ct))]) 2 hP hD [1] [0, 2] rfl rfl (by decide) (by decide) hk1 hFc hP1 hD1 rfl
  generalize H1 = H at hP hS ⊢
  obtain rfl : rn1 = (nI ct) := hw
  obtain ⟨hPc, hDc, hFc⟩ := PDq.cut (wc := []) hP hD hS hA [] (by decide) rfl
  refine vx_callv (vx_runS (As := [.int i, .int (nI ct)]) (rest := []) ⟨hx, hb, hml, hown, hts⟩ (s_needIndex l D cA sa i ct H.size hl9 (by omega)) (va_cwS 2 hts gX9_written_X9_needIndex rfl rfl rfl (by decide +kernel) ⟨(Nat.le_of_ble_eq_true rfl), (Nat.le_of_ble_eq_true rfl)⟩) ⟨Wd.blind, fun U hU hW => ⟨rfl, Wd.call hPc hDc hK hC hZ hS hFc U hU hW⟩⟩ rfl rfl hl.1 rfl (lv_room (Nat.le_of_ble_eq_true rfl)) dX9_written_8 ⟨(Nat.le_of_ble_eq_true rfl), (Nat.le_of_ble_eq_true rfl)⟩) hS (fun q _ h => hFc q h) hFc (fun q _ h => hFc q h) (fun E ce q9 u t H1 locs ht hvm hpx hE hz1 hk1 hS hcell hv9 hcl => ?_) (fun u t H1 locs ht hvm hw hB hz1 hk1 hS => ?_)
  · skip
    obtain ⟨hE, hP1, hD1⟩ := hE
    rw [ht] at hP1
    obtain ⟨hP, hD⟩ := PDq.join (w := [(oX9 h0 b0 (nI nb) p0 u0 r0 a0 t0 s0 o0), (o1, .inl (cA 3, cp, .inl fy)), (oJ4 o0 o1 0 mb (nI ct))]) 3 hP hD [] [0, 1, 2] rfl rfl (by decide) (by decide) hk1 hFc hP1 hD1 rfl
    generalize H1 = H at hP hS hcell ⊢
    obtain ⟨hP9, hD9⟩ := PDq.sub (ws' := [(oX9 h0 b0 (nI nb) p0 u0 r0 a0 t0 s0 o0), (oJ4 o0 o1 0 mb (nI ct)), (o1, .inl (cA 3, cp, .inl fy))]) hP hD [0, 2, 1] (by decide) rfl
    exact vx_out (fun x h => (hno x h).elim) hlocks hcell hv9 hcl (fun t ht hvm => ⟨(), trivial, ⟨hE, by rw [ht]; exact hP9, hD9⟩, hS.F ht⟩) hS.2.2 (Nat.le_of_ble_eq_true rfl) (Nat.le_of_ble_eq_true rfl)
  · skip
    obtain ⟨qn2, hn3, hn4, hP1, hD1⟩ := hB
    rw [ht] at hP1
    obtain ⟨hP, hD⟩ := PDq.join (w := [(oX9 h0 b0 (nI nb) p0 u0 r0 a0 t0 s0 o0), (o1, .inl (cA 3, cp, .inl fy)), (oJ4 o0 o1 0 mb (nI ct))]) 3 hP hD [] [0, 1, 2] rfl rfl (by decide) (by decide) hk1 hFc hP1 hD1 rfl
    generalize H1 = H at hP hS ⊢
    rw [hn4] at hl
    have hl : lv_has ls 2 [(0, .ref h0), (1, .int (nI qn2))] := hl
    refine lv_aload_n hx hb dX9_written_11 rfl (lv_at hl 0 rfl) ?_
    refine va_get (D := D) (ci := 10) (v := .ref o0) (C := RX9) (T := TX9) (N := 9) hx hb hts inX9 hown hK hP 0 rfl rfl 8 (by decide) (hts (.fieldLink RX9 52 "EscrowDesk" "output" "Ljava/lang/StringBuilder;") (by decide +kernel)) (fun _ h9 => h9) rfl dX9_written_12 ?_
    refine lv_iload_n hx hb dX9_written_15 rfl (lv_at hl 1 rfl) ?_
    obtain ⟨hPc, hDc, hFc⟩ := PDq.cut (wc := [(oJ4 o0 o1 0 mb (nI ct)), (o1, .inl (cA 3, cp, .inl fy))]) hP hD hS hA [2, 1] (by decide) rfl
    refine va_calli (va_runV (As := [.int (nI qn2)]) (rest := []) ⟨hx, hb, hml, hown, hts⟩ (j_charAt l D cA sa o0 o1 ct cp mb fy qn2 H.size hct hcp hfit hn3) (cwV 1 hts gX9_written_J4_charAt_5068e rfl rfl rfl (by decide +kernel) ⟨(Nat.le_of_ble_eq_true rfl), (Nat.le_of_ble_eq_true rfl)⟩) ⟨Wd.blind, va_recv hK hPc (ci := 1) (q0 := 0) rfl rfl, fun U hU hW => ⟨rfl, Wd.call hPc hDc hK hC hZ hS hFc U hU hW⟩⟩ rfl rfl hl.1 rfl (lv_room (Nat.le_of_ble_eq_true rfl)) dX9_written_16 ⟨(Nat.le_of_ble_eq_true rfl), (Nat.le_of_ble_eq_true rfl)⟩) hS (fun q _ h => hFc q h) hFc (fun rn5 u t H1 locs ht hvm hw hB hz1 hk1 hS => ?_)
    obtain ⟨hP1, hD1⟩ := hB
    rw [ht] at hP1
    obtain ⟨hP, hD⟩ := PDq.join (w := [(oX9 h0 b0 (nI nb) p0 u0 r0 a0 t0 s0 o0), (oJ4 o0 o1 0 mb (nI ct)), (o1, .inl (cA 3, cp, .inl fy))]) 1 hP hD [2, 1] [0] rfl rfl (by decide) (by decide) hk1 hFc hP1 hD1 rfl
    generalize H1 = H at hP hS ⊢
    have hn6 := hw
    obtain ⟨hP9, hD9⟩ := PDq.sub (ws' := [(oX9 h0 b0 (nI nb) p0 u0 r0 a0 t0 s0 o0), (oJ4 o0 o1 0 mb (nI ct)), (o1, .inl (cA 3, cp, .inl fy))]) hP hD [0, 1, 2] (by decide) rfl
    refine W.widen (k := 1) (n := 6) (Nat.le_of_ble_eq_true rfl) (Nat.le_of_ble_eq_true rfl) ?_
    exact vx_ret (W.zret (v := rn5) hx hb hr hn6 (fun t ht hW => ⟨⟨rn5, (), rfl, hn6, by rw [ht]; exact hP9, hD9⟩, hS.F ht⟩) hS.2.2 dX9_written_19)

set_option maxHeartbeats 4000000 in
set_option maxRecDepth 100000 in
/-- proofCharacter -/
theorem s_proofCharacter (l : Launch) (D : va_G) (cA : Nat → ClassId) (sa : Nat → Nat) (h0 : Nat) (b0 : Nat) (nb : Nat) (p0 : Nat) (u0 : Nat) (r0 : Nat) (a0 : Nat) (t0 : Nat) (s0 : Nat) (o0 : Nat) (p1 : Nat) (p2 : Nat) (p3 : Nat) (p4 : Nat) (p5 : Nat) (p6 : Nat) (p7 : Nat) (p8 : Nat) (p9 : Nat) (cn : Nat) (pq : Nat) (nd : Nat) (sc : Nat) (pr : Int32) (pb : Int32) (pe : Int32) (pg : Int32) (i : Int32) (j : Int32) (fpn : Nat → Int64) (sz : Nat) (hl9 : l.stackTraces = false) (hcn : cn ≤ 10) (hpq : pq ≤ 8) (hnd : nd ≤ 6) (hsc : sc ≤ 350) : vx_Met l yX9_proofCharacter wsX9_proofCharacter ({ frames := 8, cells := 2, slots := 12, locals := 132 }) (va_Pc [.ref h0, .int i, .int j] (Wd D cA sa [(oX9 h0 b0 (nI nb) p0 u0 r0 a0 t0 s0 o0), (oX3 p0 pr pb pe pg p1 (nI nd) p2 p3 p4 p5 (nI cn) p6 (nI pq) p7 p8 p9 (nI sc)), (p6, .inl (cA 1, 8, .inr (.inl fpn)))] sz)) (va_Qi (fun (r : Int32) (_ : Unit) => True) (fun (_ : Unit) t => Wq D (va_A [(oX9 h0 b0 (nI nb) p0 u0 r0 a0 t0 s0 o0), (oX3 p0 pr pb pe pg p1 (nI nd) p2 p3 p4 p5 (nI cn) p6 (nI pq) p7 p8 p9 (nI sc)), (p6, .inl (cA 1, 8, .inr (.inl fpn)))] sz) [(oX9 h0 b0 (nI nb) p0 u0 r0 a0 t0 s0 o0), (oX3 p0 pr pb pe pg p1 (nI nd) p2 p3 p4 p5 (nI cn) p6 (nI pq) p7 p8 p9 (nI sc)), (p6, .inl (cA 1, 8, .inr (.inl fpn)))] t) (va_A [(oX9 h0 b0 (nI nb) p0 u0 r0 a0 t0 s0 o0), (oX3 p0 pr pb pe pg p1 (nI nd) p2 p3 p4 p5 (nI cn) p6 (nI pq) p7 p8 p9 (nI sc)), (p6, .inl (cA 1, 8, .inr (.inl fpn)))] sz)) (vx_X (fun _ : Unit => True) (fun E _ t => (E = "java/lang/IndexOutOfBoundsException") ∧ Wq D (va_A [(oX9 h0 b0 (nI nb) p0 u0 r0 a0 t0 s0 o0), (oX3 p0 pr pb pe pg p1 (nI nd) p2 p3 p4 p5 (nI cn) p6 (nI pq) p7 p8 p9 (nI sc)), (p6, .inl (cA 1, 8, .inr (.inl fpn)))] sz) [(oX9 h0 b0 (nI nb) p0 u0 r0 a0 t0 s0 o0), (oX3 p0 pr pb pe pg p1 (nI nd) p2 p3 p4 p5 (nI cn) p6 (nI pq) p7 p8 p9 (nI sc)), (p6, .inl (cA 1, 8, .inr (.inl fpn)))] t) (va_A [(oX9 h0 b0 (nI nb) p0 u0 r0 a0 t0 s0 o0), (oX3 p0 pr pb pe pg p1 (nI nd) p2 p3 p4 p5 (nI cn) p6 (nI pq) p7 p8 p9 (nI sc)), (p6, .inl (cA 1, 8, .inr (.inl fpn)))] sz)) 2 12 (va_A [(oX9 h0 b0 (nI nb) p0 u0 r0 a0 t0 s0 o0), (oX3 p0 pr pb pe pg p1 (nI nd) p2 p3 p4 p5 (nI cn) p6 (nI pq) p7 p8 p9 (nI sc)), (p6, .inl (cA 1, 8, .inr (.inl fpn)))] sz) := by
  refine vx_ofW (cc := cX9_proofCharacter) (maxL := 5) (ret := (some .char)) (by decide) rfl ?_
  intro p e s m args below meth c s₁ B hml hno hv
  obtain ⟨rfl, hsz, hP, hK, hD0, hC, hZ⟩ := hv
  have hx := B.exec
  have hb := B.bytes
  have hr := B.returns
  have hts := atoms_spec (ws := wsX9_proofCharacter) B.pre
  have hown : s.vm.findClass RX9 = some m.cls := findClass_of_methodNamed B.named
  have hlocks := B.notSynchronized
  subst hsz
  have hD := hD0.self (sz := s.heap.size)
  generalize hAe : va_A [(oX9 h0 b0 (nI nb) p0 u0 r0 a0 t0 s0 o0), (oX3 p0 pr pb pe pg p1 (nI nd) p2 p3 p4 p5 (nI cn) p6 (nI pq) p7 p8 p9 (nI sc)), (p6, .inl (cA 1, 8, .inr (.inl fpn)))] s.heap.size = A at hD hZ ⊢
  have hA : ∀ q : Nat, s.heap.size ≤ q → A q := fun q h => by rw [← hAe]; exact Or.inr h
  have hS : va_S A s.heap s.heap [] := va_S.rf
  have hP : va_P D vwCl [(oX9 h0 b0 (nI nb) p0 u0 r0 a0 t0 s0 o0), (oX3 p0 pr pb pe pg p1 (nI nd) p2 p3 p4 p5 (nI cn) p6 (nI pq) p7 p8 p9 (nI sc)), (p6, .inl (cA 1, 8, .inr (.inl fpn)))] s.heap := hP
  have hl := lv_entry ([.ref h0, .int i, .int j]) (n := 5) (Nat.le_of_ble_eq_true rfl)
  rw [lg_entry_eq]
  generalize (lg_sl ([.ref h0, .int i, .int j]) ++ List.replicate (5 - (lg_sl ([.ref h0, .int i, .int j])).length) Slot.unset).toArray = ls at hl ⊢
  have hl : lv_has ls 5 [(0, .ref h0), (1, .int i), (2, .int j)] := hl
  have inX3 : ∀ w ∈ u_ws RX3 TX3 17, w ∈ wsX9_proofCharacter := by decide +kernel
  have inX9 : ∀ w ∈ u_ws RX9 TX9 9, w ∈ wsX9_proofCharacter := by decide +kernel
  refine lv_aload_n hx hb dX9_proofCharacter_0 rfl (lv_at hl 0 rfl) ?_
  refine lv_iload_n hx hb dX9_proofCharacter_1 rfl (lv_at hl 1 rfl) ?_
  obtain ⟨hPc, hDc, hFc⟩ := PDq.cut (wc := [(oX9 h0 b0 (nI nb) p0 u0 r0 a0 t0 s0 o0), (oX3 p0 pr pb pe pg p1 (nI nd) p2 p3 p4 p5 (nI cn) p6 (nI pq) p7 p8 p9 (nI sc))]) hP hD hS hA [0, 1] (by decide) rfl
  refine vx_callv (vx_runV (As := [.int i]) (rest := []) ⟨hx, hb, hml, hown, hts⟩ (s_needProof l D cA sa h0 b0 nb p0 u0 r0 a0 t0 s0 o0 p1 p2 p3 p4 p5 p6 p7 p8 p9 cn pq nd sc pr pb pe pg i s.heap.size hl9 hcn hpq hnd hsc) (cwV 1 hts gX9_proofCharacter_X9_needProof rfl rfl rfl (by decide +kernel) ⟨(Nat.le_of_ble_eq_true rfl), (Nat.le_of_ble_eq_true rfl)⟩) ⟨Wd.blind, va_recv hK hPc (ci := 10) (q0 := 0) rfl rfl, fun U hU hW => ⟨rfl, Wd.call hPc hDc hK hC hZ hS hFc U hU hW⟩⟩ rfl rfl hl.1 rfl (lv_room (Nat.le_of_ble_eq_true rfl)) dX9_proofCharacter_2 ⟨(Nat.le_of_ble_eq_true rfl), (Nat.le_of_ble_eq_true rfl)⟩) hS (fun q _ h => hFc q h) hFc (fun q _ h => hFc q h) (fun E ce q9 u t H1 locs ht hvm hpx hE hz1 hk1 hS hcell hv9 hcl => ?_) (fun u t H1 locs ht hvm hw hB hz1 hk1 hS => ?_)
  · skip
    obtain ⟨hE, hP1, hD1⟩ := hE
    rw [ht] at hP1
    obtain ⟨hP, hD⟩ := PDq.join (w := [(p6, .inl (cA 1, 8, .inr (.inl fpn))), (oX9 h0 b0 (nI nb) p0 u0 r0 a0 t0 s0 o0), (oX3 p0 pr pb pe pg p1 (nI nd) p2 p3 p4 p5 (nI cn) p6 (nI pq) p7 p8 p9 (nI sc))]) 1 hP hD [0, 1] [2] rfl rfl (by decide) (by decide) hk1 hFc hP1 hD1 rfl
    generalize H1 = H at hP hS hcell ⊢
    obtain ⟨hP9, hD9⟩ := PDq.sub (ws' := [(oX9 h0 b0 (nI nb) p0 u0 r0 a0 t0 s0 o0), (oX3 p0 pr pb pe pg p1 (nI nd) p2 p3 p4 p5 (nI cn) p6 (nI pq) p7 p8 p9 (nI sc)), (p6, .inl (cA 1, 8, .inr (.inl fpn)))]) hP hD [1, 2, 0] (by decide) rfl
    exact vx_out (fun x h => (hno x h).elim) hlocks hcell hv9 hcl (fun t ht hvm => ⟨(), trivial, ⟨hE, by rw [ht]; exact hP9, hD9⟩, hS.F ht⟩) hS.2.2 (Nat.le_of_ble_eq_true rfl) (Nat.le_of_ble_eq_true rfl)
  · skip
    obtain ⟨qn1, hn2, hn3, hP1, hD1⟩ := hB
    rw [ht] at hP1
    obtain ⟨hP, hD⟩ := PDq.join (w := [(p6, .inl (cA 1, 8, .inr (.inl fpn))), (oX9 h0 b0 (nI nb) p0 u0 r0 a0 t0 s0 o0), (oX3 p0 pr pb pe pg p1 (nI nd) p2 p3 p4 p5 (nI cn) p6 (nI pq) p7 p8 p9 (nI sc))]) 1 hP hD [0, 1] [2] rfl rfl (by decide) (by decide) hk1 hFc hP1 hD1 rfl
    generalize H1 = H at hP hS ⊢
    rw [hn3] at hl
    have hl : lv_has ls 5 [(0, .ref h0), (1, .int (nI qn1)), (2, .int j)] := hl
    refine lv_aload_n hx hb dX9_proofCharacter_5 rfl (lv_at hl 0 rfl) ?_
    refine va_get (D := D) (ci := 10) (v := .ref p0) (C := RX9) (T := TX9) (N := 9) hx hb hts inX9 hown hK hP 1 rfl rfl 2 (by decide) (hts (.fieldLink RX9 16 "EscrowDesk" "plan" "LEscrowDesk$Plan;") (by decide +kernel)) (fun _ h9 => h9) rfl dX9_proofCharacter_6 ?_
    refine va_getN (D := D) (ci := 7) (v := .ref p6) (C := RX3) (T := TX3) (N := 17) hx hb hts inX3 hown hK hP 2 rfl rfl 11 (by decide) (hC.f (A := _) (a := RX9) (i := 186) (b := "EscrowDesk$Plan") (n := "proofNames") (d := "[J") (x := "EscrowDesk") (by decide +kernel)) (fun _ h9 => h9) rfl dX9_proofCharacter_9 ?_
    refine lv_iload_n hx hb dX9_proofCharacter_12 rfl (lv_at hl 1 rfl) ?_
    refine va_lald hx hb hK hP 0 1 rfl rfl (vp_in_nI (n := qn1) (N := 8) (show qn1 < 8 by omega) (by decide)) dX9_proofCharacter_13 ?_
    refine lv_topl (fun yn4 eyn4 => ?_)
    refine lv_lstore_n (lv' := [(3, .long yn4), (0, .ref h0), (1, .int (nI qn1)), (2, .int j)]) hx hb dX9_proofCharacter_14 rfl hl (by decide) rfl (fun ls hl => ?_)
    refine lv_iload_n hx hb dX9_proofCharacter_15 rfl (lv_at hl 3 rfl) ?_
    refine lv_lload_n hx hb dX9_proofCharacter_16 rfl (lv_at hl 0 rfl) ?_
    obtain ⟨hPc, hDc, hFc⟩ := PDq.cut (wc := []) hP hD hS hA [] (by decide) rfl
    refine va_calli (va_runS (As := [.long yn4]) (rest := [.int j]) ⟨hx, hb, hml, hown, hts⟩ (s_letterCount l D cA sa yn4 H.size) (va_cwS 1 hts gX9_proofCharacter_X8_letterCount rfl rfl rfl (by decide +kernel) ⟨(Nat.le_of_ble_eq_true rfl), (Nat.le_of_ble_eq_true rfl)⟩) ⟨Wd.blind, fun U hU hW => ⟨rfl, Wd.call hPc hDc hK hC hZ hS hFc U hU hW⟩⟩ rfl rfl hl.1 rfl (lv_room (Nat.le_of_ble_eq_true rfl)) dX9_proofCharacter_17 ⟨(Nat.le_of_ble_eq_true rfl), (Nat.le_of_ble_eq_true rfl)⟩) hS (fun q _ h => hFc q h) hFc (fun rn5 u t H1 locs ht hvm hw hB hz1 hk1 hS => ?_)
    obtain ⟨hP1, hD1⟩ := hB
    rw [ht] at hP1
    obtain ⟨hP, hD⟩ := PDq.join (w := [(p6, .inl (cA 1, 8, .inr (.inl fpn))), (oX9 h0 b0 (nI nb) p0 u0 r0 a0 t0 s0 o0), (oX3 p0 pr pb pe pg p1 (nI nd) p2 p3 p4 p5 (nI cn) p6 (nI pq) p7 p8 p9 (nI sc))]) 3 hP hD [] [0, 1, 2] rfl rfl (by decide) (by decide) hk1 hFc hP1 hD1 rfl
    generalize H1 = H at hP hS ⊢
    obtain ⟨kn6, hn7, hr9⟩ := hw
    subst hr9
    obtain ⟨hPc, hDc, hFc⟩ := PDq.cut (wc := []) hP hD hS hA [] (by decide) rfl
    refine vx_callv (vx_runS (As := [.int j, .int (nI kn6)]) (rest := []) ⟨hx, hb, hml, hown, hts⟩ (s_needIndex l D cA sa j kn6 H.size hl9 (by omega)) (va_cwS 2 hts gX9_proofCharacter_X9_needIndex rfl rfl rfl (by decide +kernel) ⟨(Nat.le_of_ble_eq_true rfl), (Nat.le_of_ble_eq_true rfl)⟩) ⟨Wd.blind, fun U hU hW => ⟨rfl, Wd.call hPc hDc hK hC hZ hS hFc U hU hW⟩⟩ rfl rfl hl.1 rfl (lv_room (Nat.le_of_ble_eq_true rfl)) dX9_proofCharacter_20 ⟨(Nat.le_of_ble_eq_true rfl), (Nat.le_of_ble_eq_true rfl)⟩) hS (fun q _ h => hFc q h) hFc (fun q _ h => hFc q h) (fun E ce q9 u t H1 locs ht hvm hpx hE hz1 hk1 hS hcell hv9 hcl => ?_) (fun u t H1 locs ht hvm hw hB hz1 hk1 hS => ?_)
    · skip
      obtain ⟨hE, hP1, hD1⟩ := hE
      rw [ht] at hP1
      obtain ⟨hP, hD⟩ := PDq.join (w := [(p6, .inl (cA 1, 8, .inr (.inl fpn))), (oX9 h0 b0 (nI nb) p0 u0 r0 a0 t0 s0 o0), (oX3 p0 pr pb pe pg p1 (nI nd) p2 p3 p4 p5 (nI cn) p6 (nI pq) p7 p8 p9 (nI sc))]) 3 hP hD [] [0, 1, 2] rfl rfl (by decide) (by decide) hk1 hFc hP1 hD1 rfl
      generalize H1 = H at hP hS hcell ⊢
      obtain ⟨hP9, hD9⟩ := PDq.sub (ws' := [(oX9 h0 b0 (nI nb) p0 u0 r0 a0 t0 s0 o0), (oX3 p0 pr pb pe pg p1 (nI nd) p2 p3 p4 p5 (nI cn) p6 (nI pq) p7 p8 p9 (nI sc)), (p6, .inl (cA 1, 8, .inr (.inl fpn)))]) hP hD [1, 2, 0] (by decide) rfl
      exact vx_out (fun x h => (hno x h).elim) hlocks hcell hv9 hcl (fun t ht hvm => ⟨(), trivial, ⟨hE, by rw [ht]; exact hP9, hD9⟩, hS.F ht⟩) hS.2.2 (Nat.le_of_ble_eq_true rfl) (Nat.le_of_ble_eq_true rfl)
    · skip
      obtain ⟨qn8, hn9, hn10, hP1, hD1⟩ := hB
      rw [ht] at hP1
      obtain ⟨hP, hD⟩ := PDq.join (w := [(p6, .inl (cA 1, 8, .inr (.inl fpn))), (oX9 h0 b0 (nI nb) p0 u0 r0 a0 t0 s0 o0), (oX3 p0 pr pb pe pg p1 (nI nd) p2 p3 p4 p5 (nI cn) p6 (nI pq) p7 p8 p9 (nI sc))]) 3 hP hD [] [0, 1, 2] rfl rfl (by decide) (by decide) hk1 hFc hP1 hD1 rfl
      generalize H1 = H at hP hS ⊢
      rw [hn10] at hl
      have hl : lv_has ls 5 [(3, .long yn4), (0, .ref h0), (1, .int (nI qn1)), (2, .int (nI qn8))] := hl
      refine lv_lload_n hx hb dX9_proofCharacter_23 rfl (lv_at hl 0 rfl) ?_
      refine lv_iload_n hx hb dX9_proofCharacter_24 rfl (lv_at hl 3 rfl) ?_
      obtain ⟨hPc, hDc, hFc⟩ := PDq.cut (wc := []) hP hD hS hA [] (by decide) rfl
      refine va_calli (va_runS (As := [.long yn4, .int (nI qn8)]) (rest := []) ⟨hx, hb, hml, hown, hts⟩ (s_letterAt l D cA sa yn4 (nI qn8) H.size) (va_cwS 2 hts gX9_proofCharacter_X8_letterAt rfl rfl rfl (by decide +kernel) ⟨(Nat.le_of_ble_eq_true rfl), (Nat.le_of_ble_eq_true rfl)⟩) ⟨Wd.blind, fun U hU hW => ⟨rfl, Wd.call hPc hDc hK hC hZ hS hFc U hU hW⟩⟩ rfl rfl hl.1 rfl (lv_room (Nat.le_of_ble_eq_true rfl)) dX9_proofCharacter_25 ⟨(Nat.le_of_ble_eq_true rfl), (Nat.le_of_ble_eq_true rfl)⟩) hS (fun q _ h => hFc q h) hFc (fun rn11 u t H1 locs ht hvm hw hB hz1 hk1 hS => ?_)
      obtain ⟨hP1, hD1⟩ := hB
      rw [ht] at hP1
      obtain ⟨hP, hD⟩ := PDq.join (w := [(p6, .inl (cA 1, 8, .inr (.inl fpn))), (oX9 h0 b0 (nI nb) p0 u0 r0 a0 t0 s0 o0), (oX3 p0 pr pb pe pg p1 (nI nd) p2 p3 p4 p5 (nI cn) p6 (nI pq) p7 p8 p9 (nI sc))]) 3 hP hD [] [0, 1, 2] rfl rfl (by decide) (by decide) hk1 hFc hP1 hD1 rfl
      generalize H1 = H at hP hS ⊢
      obtain ⟨kn12, hn13, hr9⟩ := hw
      subst hr9
      obtain ⟨hP9, hD9⟩ := PDq.sub (ws' := [(oX9 h0 b0 (nI nb) p0 u0 r0 a0 t0 s0 o0), (oX3 p0 pr pb pe pg p1 (nI nd) p2 p3 p4 p5 (nI cn) p6 (nI pq) p7 p8 p9 (nI sc)), (p6, .inl (cA 1, 8, .inr (.inl fpn)))]) hP hD [1, 2, 0] (by decide) rfl
      refine W.widen (k := 2) (n := 12) (Nat.le_of_ble_eq_true rfl) (Nat.le_of_ble_eq_true rfl) ?_
      exact vx_ret (W.zret (v := (nI kn12)) hx hb hr (pk_charN (q := kn12) (by omega)).1 (fun t ht hW => ⟨⟨(nI kn12), (), rfl, trivial, by rw [ht]; exact hP9, hD9⟩, hS.F ht⟩) hS.2.2 dX9_proofCharacter_28)

set_option maxHeartbeats 4000000 in
set_option maxRecDepth 100000 in
/-- reference, exactly: of -/
theorem e_of (l : Launch) (D : va_G) (cA : Nat → ClassId) (sa : Nat → Nat) (w0 : Nat) (ed : Nat) (nb : Nat) (ol : Nat) (v0 : Nat) (v1 : Nat) (v2 : Nat) (v3 : Nat) (v4 : Nat) (v9 : Nat) (v13 : Nat) (v27 : Nat) (v28 : Nat) (v29 : Nat) (v30 : Nat) (v31 : Nat) (v32 : Nat) (v33 : Nat) (v34 : Nat) (v35 : Nat) (v36 : Nat) (v37 : Nat) (g8 : Int32) (g11 : Int32) (g12 : Int32) (g14 : Int32) (g15 : Int32) (g16 : Int32) (g17 : Int32) (g18 : Int32) (g19 : Int32) (g20 : Int32) (g21 : Int32) (g22 : Int32) (g23 : Int32) (g24 : Int32) (g26 : Int32) (g5 : Int64) (g6 : Int64) (g25 : Int64) (ra : Nat → Int32) (fs : Nat → Int32) (mi : Nat) (w : Nat) (sz : Nat) (hAb : Ab ra fs) (hmi : mi < 10) (hw7 : w < 7) : Met l yX10_of wsX10_of ({ frames := 0, cells := 0, slots := 0, locals := 0 }) (va_Pc [.ref w0, .int (nI mi), .int (nI w)] (Wd D cA sa [(oX10 w0 v0 v1 v2 v3 v4 g5 g6 (nI ed) g8 v9 (nI nb) g11 g12 v13 g14 g15 g16 g17 g18 g19 g20 g21 g22 g23 g24 g25 g26 v27 v28 v29 v30 v31 v32 v33 v34 v35 v36 v37 (nI ol)), (v0, .inl (cA 0, 326, .inl fs))] sz)) (va_Qi (fun (r : Int32) (_ : Unit) => r = ra (16 + 7 * mi + w)) (fun (_ : Unit) t => Wq D (va_A [(oX10 w0 v0 v1 v2 v3 v4 g5 g6 (nI ed) g8 v9 (nI nb) g11 g12 v13 g14 g15 g16 g17 g18 g19 g20 g21 g22 g23 g24 g25 g26 v27 v28 v29 v30 v31 v32 v33 v34 v35 v36 v37 (nI ol)), (v0, .inl (cA 0, 326, .inl fs))] sz) [(oX10 w0 v0 v1 v2 v3 v4 g5 g6 (nI ed) g8 v9 (nI nb) g11 g12 v13 g14 g15 g16 g17 g18 g19 g20 g21 g22 g23 g24 g25 g26 v27 v28 v29 v30 v31 v32 v33 v34 v35 v36 v37 (nI ol)), (v0, .inl (cA 0, 326, .inl fs))] t) (va_A [(oX10 w0 v0 v1 v2 v3 v4 g5 g6 (nI ed) g8 v9 (nI nb) g11 g12 v13 g14 g15 g16 g17 g18 g19 g20 g21 g22 g23 g24 g25 g26 v27 v28 v29 v30 v31 v32 v33 v34 v35 v36 v37 (nI ol)), (v0, .inl (cA 0, 326, .inl fs))] sz)) 0 0 (va_A [(oX10 w0 v0 v1 v2 v3 v4 g5 g6 (nI ed) g8 v9 (nI nb) g11 g12 v13 g14 g15 g16 g17 g18 g19 g20 g21 g22 g23 g24 g25 g26 v27 v28 v29 v30 v31 v32 v33 v34 v35 v36 v37 (nI ol)), (v0, .inl (cA 0, 326, .inl fs))] sz) := by
  refine Met.ofW (cc := cX10_of) (maxL := 3) (ret := (some .int)) (by decide) rfl ?_
  intro p e s m args below meth c s₁ B hml hv
  obtain ⟨rfl, hsz, hP, hK, hD0, hC, hZ⟩ := hv
  have hx := B.exec
  have hb := B.bytes
  have hr := B.returns
  have hts := atoms_spec (ws := wsX10_of) B.pre
  have hown : s.vm.findClass RX10 = some m.cls := findClass_of_methodNamed B.named
  have hlocks := B.notSynchronized
  subst hsz
  have hD := hD0.self (sz := s.heap.size)
  generalize hAe : va_A [(oX10 w0 v0 v1 v2 v3 v4 g5 g6 (nI ed) g8 v9 (nI nb) g11 g12 v13 g14 g15 g16 g17 g18 g19 g20 g21 g22 g23 g24 g25 g26 v27 v28 v29 v30 v31 v32 v33 v34 v35 v36 v37 (nI ol)), (v0, .inl (cA 0, 326, .inl fs))] s.heap.size = A at hD hZ ⊢
  have hA : ∀ q : Nat, s.heap.size ≤ q → A q := fun q h => by rw [← hAe]; exact Or.inr h
  have hS : va_S A s.heap s.heap [] := va_S.rf
  have hP : va_P D vwCl [(oX10 w0 v0 v1 v2 v3 v4 g5 g6 (nI ed) g8 v9 (nI nb) g11 g12 v13 g14 g15 g16 g17 g18 g19 g20 g21 g22 g23 g24 g25 g26 v27 v28 v29 v30 v31 v32 v33 v34 v35 v36 v37 (nI ol)), (v0, .inl (cA 0, 326, .inl fs))] s.heap := hP
  have hl := lv_entry ([.ref w0, .int (nI mi), .int (nI w)]) (n := 3) (Nat.le_of_ble_eq_true rfl)
  rw [lg_entry_eq]
  generalize (lg_sl ([.ref w0, .int (nI mi), .int (nI w)]) ++ List.replicate (3 - (lg_sl ([.ref w0, .int (nI mi), .int (nI w)])).length) Slot.unset).toArray = ls at hl ⊢
  have hl : lv_has ls 3 [(0, .ref w0), (1, .int (nI mi)), (2, .int (nI w))] := hl
  have inX10 : ∀ w ∈ u_ws RX10 TX10 39, w ∈ wsX10_of := by decide +kernel
  refine lv_aload_n hx hb dX10_of_0 rfl (lv_at hl 0 rfl) ?_
  refine va_get (D := D) (ci := 11) (v := .ref v0) (C := RX10) (T := TX10) (N := 39) hx hb hts inX10 hown hK hP 0 rfl rfl 0 (by decide) (hts (.fieldLink RX10 7 "EscrowDeskModel" "s" "[I") (by decide +kernel)) (fun _ h9 => h9) rfl dX10_of_1 ?_
  refine lv_bipush (v := 16) hx hb dX10_of_4 (by decide) ?_
  refine lv_bipush (v := 7) hx hb dX10_of_6 (by decide) ?_
  refine lv_iload_n hx hb dX10_of_8 rfl (lv_at hl 1 rfl) ?_
  refine lv_imul hx hb dX10_of_9 ?_
  refine lv_topi (fun yn1 eyn1 => ?_)
  obtain rfl : yn1 = (nI (7 * mi)) := eyn1.trans (nI_mul 7 mi)
  refine lv_iadd hx hb dX10_of_10 ?_
  refine lv_topi (fun yn2 eyn2 => ?_)
  obtain rfl : yn2 = (nI (16 + (7 * mi))) := eyn2.trans (nI_add 16 (7 * mi))
  refine lv_iload_n hx hb dX10_of_11 rfl (lv_at hl 2 rfl) ?_
  refine lv_iadd hx hb dX10_of_12 ?_
  refine lv_topi (fun yn3 eyn3 => ?_)
  obtain rfl : yn3 = (nI ((16 + (7 * mi)) + w)) := eyn3.trans (nI_add (16 + (7 * mi)) w)
  refine va_iald hx hb hK hP 1 0 rfl rfl (vp_in_nI (n := ((16 + (7 * mi)) + w)) (N := 326) (show ((16 + (7 * mi)) + w) < 326 by omega) (by decide)) dX10_of_13 ?_
  refine lv_topi (fun yn4 eyn4 => ?_)
  obtain rfl : yn4 = (ra (16 + 7 * mi + w)) := eyn4.trans ((Ab.getI hAb (j := 16 + 7 * mi + w) (by omega) (by omega)).trans rfl)
  obtain ⟨hP9, hD9⟩ := PDq.sub (ws' := [(oX10 w0 v0 v1 v2 v3 v4 g5 g6 (nI ed) g8 v9 (nI nb) g11 g12 v13 g14 g15 g16 g17 g18 g19 g20 g21 g22 g23 g24 g25 g26 v27 v28 v29 v30 v31 v32 v33 v34 v35 v36 v37 (nI ol)), (v0, .inl (cA 0, 326, .inl fs))]) hP hD [0, 1] (by decide) rfl
  refine W.widen (k := 0) (n := 0) (Nat.le_of_ble_eq_true rfl) (Nat.le_of_ble_eq_true rfl) ?_
  exact (W.iret (v := (ra (16 + 7 * mi + w))) hx hb hr (fun t ht hW => ⟨⟨(ra (16 + 7 * mi + w)), (), rfl, rfl, by rw [ht]; exact hP9, hD9⟩, hS.F ht⟩) hS.2.2 dX10_of_14)

set_option maxHeartbeats 4000000 in
set_option maxRecDepth 100000 in
/-- reference, exactly: set -/
theorem e_set (l : Launch) (D : va_G) (cA : Nat → ClassId) (sa : Nat → Nat) (w0 : Nat) (ed : Nat) (nb : Nat) (ol : Nat) (v0 : Nat) (v1 : Nat) (v2 : Nat) (v3 : Nat) (v4 : Nat) (v9 : Nat) (v13 : Nat) (v27 : Nat) (v28 : Nat) (v29 : Nat) (v30 : Nat) (v31 : Nat) (v32 : Nat) (v33 : Nat) (v34 : Nat) (v35 : Nat) (v36 : Nat) (v37 : Nat) (g8 : Int32) (g11 : Int32) (g12 : Int32) (g14 : Int32) (g15 : Int32) (g16 : Int32) (g17 : Int32) (g18 : Int32) (g19 : Int32) (g20 : Int32) (g21 : Int32) (g22 : Int32) (g23 : Int32) (g24 : Int32) (g26 : Int32) (g5 : Int64) (g6 : Int64) (g25 : Int64) (cn : Nat) (pq : Nat) (en : Nat) (dy : Nat) (fs : Nat → Int32) (ra : Nat → Int32) (mi : Nat) (w : Nat) (a : Int32) (sz : Nat) (hAb : Ab ra fs) (hcn : cn ≤ 10) (hpq : pq ≤ 8) (hen : en ≤ 60) (hdy : dy ≤ 20000) (hri : RI cn pq en dy fs) (hmi : mi < 10) (hw7 : w < 7) : Met l yX10_set wsX10_set ({ frames := 0, cells := 0, slots := 0, locals := 0 }) (va_Pc [.ref w0, .int (nI mi), .int (nI w), .int a] (Wd D cA sa [(oX10 w0 v0 v1 v2 v3 v4 g5 g6 (nI ed) g8 v9 (nI nb) g11 g12 v13 g14 g15 g16 g17 g18 g19 g20 g21 g22 g23 g24 g25 g26 v27 v28 v29 v30 v31 v32 v33 v34 v35 v36 v37 (nI ol)), (v0, .inl (cA 0, 326, .inl fs))] sz)) (va_Qv (fun _ : Unit => True) (fun (_ : Unit) t => ∃ zs : Nat → Int32, RI cn pq en dy zs ∧ Ab (upd ra (16 + 7 * mi + w) a) zs ∧ Wq D (va_A [(oX10 w0 v0 v1 v2 v3 v4 g5 g6 (nI ed) g8 v9 (nI nb) g11 g12 v13 g14 g15 g16 g17 g18 g19 g20 g21 g22 g23 g24 g25 g26 v27 v28 v29 v30 v31 v32 v33 v34 v35 v36 v37 (nI ol)), (v0, .inl (cA 0, 326, .inl fs))] sz) [(oX10 w0 v0 v1 v2 v3 v4 g5 g6 (nI ed) g8 v9 (nI nb) g11 g12 v13 g14 g15 g16 g17 g18 g19 g20 g21 g22 g23 g24 g25 g26 v27 v28 v29 v30 v31 v32 v33 v34 v35 v36 v37 (nI ol)), (v0, .inl (cA 0, 326, .inl zs))] t) (va_A [(oX10 w0 v0 v1 v2 v3 v4 g5 g6 (nI ed) g8 v9 (nI nb) g11 g12 v13 g14 g15 g16 g17 g18 g19 g20 g21 g22 g23 g24 g25 g26 v27 v28 v29 v30 v31 v32 v33 v34 v35 v36 v37 (nI ol)), (v0, .inl (cA 0, 326, .inl fs))] sz)) 0 0 (va_A [(oX10 w0 v0 v1 v2 v3 v4 g5 g6 (nI ed) g8 v9 (nI nb) g11 g12 v13 g14 g15 g16 g17 g18 g19 g20 g21 g22 g23 g24 g25 g26 v27 v28 v29 v30 v31 v32 v33 v34 v35 v36 v37 (nI ol)), (v0, .inl (cA 0, 326, .inl fs))] sz) := by
  refine Met.ofW (cc := cX10_set) (maxL := 4) (ret := none) (by decide) rfl ?_
  intro p e s m args below meth c s₁ B hml hv
  obtain ⟨rfl, hsz, hP, hK, hD0, hC, hZ⟩ := hv
  have hx := B.exec
  have hb := B.bytes
  have hr := B.returns
  have hts := atoms_spec (ws := wsX10_set) B.pre
  have hown : s.vm.findClass RX10 = some m.cls := findClass_of_methodNamed B.named
  have hlocks := B.notSynchronized
  subst hsz
  have hD := hD0.self (sz := s.heap.size)
  generalize hAe : va_A [(oX10 w0 v0 v1 v2 v3 v4 g5 g6 (nI ed) g8 v9 (nI nb) g11 g12 v13 g14 g15 g16 g17 g18 g19 g20 g21 g22 g23 g24 g25 g26 v27 v28 v29 v30 v31 v32 v33 v34 v35 v36 v37 (nI ol)), (v0, .inl (cA 0, 326, .inl fs))] s.heap.size = A at hD hZ ⊢
  have hA : ∀ q : Nat, s.heap.size ≤ q → A q := fun q h => by rw [← hAe]; exact Or.inr h
  have hS : va_S A s.heap s.heap [] := va_S.rf
  have hP : va_P D vwCl [(oX10 w0 v0 v1 v2 v3 v4 g5 g6 (nI ed) g8 v9 (nI nb) g11 g12 v13 g14 g15 g16 g17 g18 g19 g20 g21 g22 g23 g24 g25 g26 v27 v28 v29 v30 v31 v32 v33 v34 v35 v36 v37 (nI ol)), (v0, .inl (cA 0, 326, .inl fs))] s.heap := hP
  have hl := lv_entry ([.ref w0, .int (nI mi), .int (nI w), .int a]) (n := 4) (Nat.le_of_ble_eq_true rfl)
  rw [lg_entry_eq]
  generalize (lg_sl ([.ref w0, .int (nI mi), .int (nI w), .int a]) ++ List.replicate (4 - (lg_sl ([.ref w0, .int (nI mi), .int (nI w), .int a])).length) Slot.unset).toArray = ls at hl ⊢
  have hl : lv_has ls 4 [(0, .ref w0), (1, .int (nI mi)), (2, .int (nI w)), (3, .int a)] := hl
  have inX10 : ∀ w ∈ u_ws RX10 TX10 39, w ∈ wsX10_set := by decide +kernel
  refine lv_aload_n hx hb dX10_set_0 rfl (lv_at hl 0 rfl) ?_
  refine va_get (D := D) (ci := 11) (v := .ref v0) (C := RX10) (T := TX10) (N := 39) hx hb hts inX10 hown hK hP 0 rfl rfl 0 (by decide) (hts (.fieldLink RX10 7 "EscrowDeskModel" "s" "[I") (by decide +kernel)) (fun _ h9 => h9) rfl dX10_set_1 ?_
  refine lv_bipush (v := 16) hx hb dX10_set_4 (by decide) ?_
  refine lv_bipush (v := 7) hx hb dX10_set_6 (by decide) ?_
  refine lv_iload_n hx hb dX10_set_8 rfl (lv_at hl 1 rfl) ?_
  refine lv_imul hx hb dX10_set_9 ?_
  refine lv_topi (fun yn1 eyn1 => ?_)
  obtain rfl : yn1 = (nI (7 * mi)) := eyn1.trans (nI_mul 7 mi)
  refine lv_iadd hx hb dX10_set_10 ?_
  refine lv_topi (fun yn2 eyn2 => ?_)
  obtain rfl : yn2 = (nI (16 + (7 * mi))) := eyn2.trans (nI_add 16 (7 * mi))
  refine lv_iload_n hx hb dX10_set_11 rfl (lv_at hl 2 rfl) ?_
  refine lv_iadd hx hb dX10_set_12 ?_
  refine lv_topi (fun yn3 eyn3 => ?_)
  obtain rfl : yn3 = (nI ((16 + (7 * mi)) + w)) := eyn3.trans (nI_add (16 + (7 * mi)) w)
  refine lv_iload_n hx hb dX10_set_13 rfl (lv_at hl 3 rfl) ?_
  refine va_iast hx hb hK hP hD hS 1 0 rfl rfl (vp_in_nI (n := ((16 + (7 * mi)) + w)) (N := 326) (show ((16 + (7 * mi)) + w) < 326 by omega) (by decide)) dX10_set_14 (fun H locs hP hD hS => ?_)
  obtain ⟨hP, hD⟩ : PDq D A [(oX10 w0 v0 v1 v2 v3 v4 g5 g6 (nI ed) g8 v9 (nI nb) g11 g12 v13 g14 g15 g16 g17 g18 g19 g20 g21 g22 g23 g24 g25 g26 v27 v28 v29 v30 v31 v32 v33 v34 v35 v36 v37 (nI ol)), (v0, .inl (cA 0, 326, .inl (upd fs (((nI ((16 + (7 * mi)) + w))).toNatClampNeg) a)))] H := ⟨hP, hD⟩
  have hn5 : Ab (upd ra (16 + 7 * mi + w) a) (upd fs (((nI ((16 + (7 * mi)) + w))).toNatClampNeg) a) := (Ab.putI hAb (k := 16 + 7 * mi + w) (by omega) a)
  have hn6 : RI cn pq en dy (upd fs (((nI ((16 + (7 * mi)) + w))).toNatClampNeg) a) := RI.putI hri ((16 + (7 * mi)) + w) a (by omega) (by omega)
  generalize (upd fs (((nI ((16 + (7 * mi)) + w))).toNatClampNeg) a) = fn4 at hP hD hn5 hn6
  obtain ⟨hP, hD⟩ : PDq D A [(oX10 w0 v0 v1 v2 v3 v4 g5 g6 (nI ed) g8 v9 (nI nb) g11 g12 v13 g14 g15 g16 g17 g18 g19 g20 g21 g22 g23 g24 g25 g26 v27 v28 v29 v30 v31 v32 v33 v34 v35 v36 v37 (nI ol)), (v0, .inl (cA 0, 326, .inl fn4))] H := ⟨hP, hD⟩
  obtain ⟨hP9, hD9⟩ := PDq.sub (ws' := [(oX10 w0 v0 v1 v2 v3 v4 g5 g6 (nI ed) g8 v9 (nI nb) g11 g12 v13 g14 g15 g16 g17 g18 g19 g20 g21 g22 g23 g24 g25 g26 v27 v28 v29 v30 v31 v32 v33 v34 v35 v36 v37 (nI ol)), (v0, .inl (cA 0, 326, .inl fn4))]) hP hD [0, 1] (by decide) rfl
  refine W.widen (k := 0) (n := 0) (Nat.le_of_ble_eq_true rfl) (Nat.le_of_ble_eq_true rfl) ?_
  exact (W.vret hx hb hr (fun t ht hW => ⟨⟨(), rfl, trivial, fn4, hn6, hn5, by rw [ht]; exact hP9, hD9⟩, hS.F ht⟩) hS.2.2 dX10_set_15)

set_option maxHeartbeats 4000000 in
set_option maxRecDepth 100000 in
/-- reference, exactly: isClosed -/
theorem e_isClosed (l : Launch) (D : va_G) (cA : Nat → ClassId) (sa : Nat → Nat) (w0 : Nat) (ed : Nat) (nb : Nat) (ol : Nat) (v0 : Nat) (v1 : Nat) (v2 : Nat) (v3 : Nat) (v4 : Nat) (v9 : Nat) (v13 : Nat) (v27 : Nat) (v28 : Nat) (v29 : Nat) (v30 : Nat) (v31 : Nat) (v32 : Nat) (v33 : Nat) (v34 : Nat) (v35 : Nat) (v36 : Nat) (v37 : Nat) (g8 : Int32) (g11 : Int32) (g12 : Int32) (g14 : Int32) (g15 : Int32) (g16 : Int32) (g17 : Int32) (g18 : Int32) (g19 : Int32) (g20 : Int32) (g21 : Int32) (g22 : Int32) (g23 : Int32) (g24 : Int32) (g26 : Int32) (g5 : Int64) (g6 : Int64) (g25 : Int64) (ra : Nat → Int32) (fs : Nat → Int32) (mi : Nat) (sz : Nat) (hAb : Ab ra fs) (hmi : mi < 10) : Met l yX10_isClosed wsX10_isClosed ({ frames := 1, cells := 0, slots := 0, locals := 22 }) (va_Pc [.ref w0, .int (nI mi)] (Wd D cA sa [(oX10 w0 v0 v1 v2 v3 v4 g5 g6 (nI ed) g8 v9 (nI nb) g11 g12 v13 g14 g15 g16 g17 g18 g19 g20 g21 g22 g23 g24 g25 g26 v27 v28 v29 v30 v31 v32 v33 v34 v35 v36 v37 (nI ol)), (v0, .inl (cA 0, 326, .inl fs))] sz)) (va_Qi (fun (r : Int32) (_ : Unit) => (r = 1 ∧ (3 ≤ ra (16 + 7 * mi + 2))) ∨ (r = 0 ∧ ¬ (3 ≤ ra (16 + 7 * mi + 2)))) (fun (_ : Unit) t => Wq D (va_A [(oX10 w0 v0 v1 v2 v3 v4 g5 g6 (nI ed) g8 v9 (nI nb) g11 g12 v13 g14 g15 g16 g17 g18 g19 g20 g21 g22 g23 g24 g25 g26 v27 v28 v29 v30 v31 v32 v33 v34 v35 v36 v37 (nI ol)), (v0, .inl (cA 0, 326, .inl fs))] sz) [(oX10 w0 v0 v1 v2 v3 v4 g5 g6 (nI ed) g8 v9 (nI nb) g11 g12 v13 g14 g15 g16 g17 g18 g19 g20 g21 g22 g23 g24 g25 g26 v27 v28 v29 v30 v31 v32 v33 v34 v35 v36 v37 (nI ol)), (v0, .inl (cA 0, 326, .inl fs))] t) (va_A [(oX10 w0 v0 v1 v2 v3 v4 g5 g6 (nI ed) g8 v9 (nI nb) g11 g12 v13 g14 g15 g16 g17 g18 g19 g20 g21 g22 g23 g24 g25 g26 v27 v28 v29 v30 v31 v32 v33 v34 v35 v36 v37 (nI ol)), (v0, .inl (cA 0, 326, .inl fs))] sz)) 0 0 (va_A [(oX10 w0 v0 v1 v2 v3 v4 g5 g6 (nI ed) g8 v9 (nI nb) g11 g12 v13 g14 g15 g16 g17 g18 g19 g20 g21 g22 g23 g24 g25 g26 v27 v28 v29 v30 v31 v32 v33 v34 v35 v36 v37 (nI ol)), (v0, .inl (cA 0, 326, .inl fs))] sz) := by
  refine Met.ofW (cc := cX10_isClosed) (maxL := 2) (ret := (some .boolean)) (by decide) rfl ?_
  intro p e s m args below meth c s₁ B hml hv
  obtain ⟨rfl, hsz, hP, hK, hD0, hC, hZ⟩ := hv
  have hx := B.exec
  have hb := B.bytes
  have hr := B.returns
  have hts := atoms_spec (ws := wsX10_isClosed) B.pre
  have hown : s.vm.findClass RX10 = some m.cls := findClass_of_methodNamed B.named
  have hlocks := B.notSynchronized
  subst hsz
  have hD := hD0.self (sz := s.heap.size)
  generalize hAe : va_A [(oX10 w0 v0 v1 v2 v3 v4 g5 g6 (nI ed) g8 v9 (nI nb) g11 g12 v13 g14 g15 g16 g17 g18 g19 g20 g21 g22 g23 g24 g25 g26 v27 v28 v29 v30 v31 v32 v33 v34 v35 v36 v37 (nI ol)), (v0, .inl (cA 0, 326, .inl fs))] s.heap.size = A at hD hZ ⊢
  have hA : ∀ q : Nat, s.heap.size ≤ q → A q := fun q h => by rw [← hAe]; exact Or.inr h
  have hS : va_S A s.heap s.heap [] := va_S.rf
  have hP : va_P D vwCl [(oX10 w0 v0 v1 v2 v3 v4 g5 g6 (nI ed) g8 v9 (nI nb) g11 g12 v13 g14 g15 g16 g17 g18 g19 g20 g21 g22 g23 g24 g25 g26 v27 v28 v29 v30 v31 v32 v33 v34 v35 v36 v37 (nI ol)), (v0, .inl (cA 0, 326, .inl fs))] s.heap := hP
  have hl := lv_entry ([.ref w0, .int (nI mi)]) (n := 2) (Nat.le_of_ble_eq_true rfl)
  rw [lg_entry_eq]
  generalize (lg_sl ([.ref w0, .int (nI mi)]) ++ List.replicate (2 - (lg_sl ([.ref w0, .int (nI mi)])).length) Slot.unset).toArray = ls at hl ⊢
  have hl : lv_has ls 2 [(0, .ref w0), (1, .int (nI mi))] := hl
  refine lv_aload_n hx hb dX10_isClosed_0 rfl (lv_at hl 0 rfl) ?_
  refine lv_iload_n hx hb dX10_isClosed_1 rfl (lv_at hl 1 rfl) ?_
  refine lv_iconst (v := 2) hx hb dX10_isClosed_2 (by decide) ?_
  obtain ⟨hPc, hDc, hFc⟩ := PDq.cut (wc := [(oX10 w0 v0 v1 v2 v3 v4 g5 g6 (nI ed) g8 v9 (nI nb) g11 g12 v13 g14 g15 g16 g17 g18 g19 g20 g21 g22 g23 g24 g25 g26 v27 v28 v29 v30 v31 v32 v33 v34 v35 v36 v37 (nI ol)), (v0, .inl (cA 0, 326, .inl fs))]) hP hD hS hA [0, 1] (by decide) rfl
  refine va_calli (va_runV (As := [.int (nI mi), .int 2]) (rest := []) ⟨hx, hb, hml, hown, hts⟩ (e_of l D cA sa w0 ed nb ol v0 v1 v2 v3 v4 v9 v13 v27 v28 v29 v30 v31 v32 v33 v34 v35 v36 v37 g8 g11 g12 g14 g15 g16 g17 g18 g19 g20 g21 g22 g23 g24 g26 g5 g6 g25 ra fs mi 2 s.heap.size hAb hmi (by omega)) (cwV 2 hts gX10_isClosed_X10_of rfl rfl rfl (by decide +kernel) ⟨(Nat.le_of_ble_eq_true rfl), (Nat.le_of_ble_eq_true rfl)⟩) ⟨Wd.blind, va_recv hK hPc (ci := 11) (q0 := 0) rfl rfl, fun U hU hW => ⟨rfl, Wd.call hPc hDc hK hC hZ hS hFc U hU hW⟩⟩ rfl rfl hl.1 rfl (lv_room (Nat.le_of_ble_eq_true rfl)) dX10_isClosed_3 ⟨(Nat.le_of_ble_eq_true rfl), (Nat.le_of_ble_eq_true rfl)⟩) hS (fun q _ h => hFc q h) hFc (fun rn1 u t H1 locs ht hvm hw hB hz1 hk1 hS => ?_)
  obtain ⟨hP1, hD1⟩ := hB
  rw [ht] at hP1
  obtain ⟨hP, hD⟩ := PDq.join (w := [(oX10 w0 v0 v1 v2 v3 v4 g5 g6 (nI ed) g8 v9 (nI nb) g11 g12 v13 g14 g15 g16 g17 g18 g19 g20 g21 g22 g23 g24 g25 g26 v27 v28 v29 v30 v31 v32 v33 v34 v35 v36 v37 (nI ol)), (v0, .inl (cA 0, 326, .inl fs))]) 0 hP hD [0, 1] [] rfl rfl (by decide) (by decide) hk1 hFc hP1 hD1 rfl
  generalize H1 = H at hP hS ⊢
  obtain rfl : rn1 = (ra (16 + 7 * mi + 2)) := hw.trans rfl
  refine lv_iconst (v := 3) hx hb dX10_isClosed_6 (by decide) ?_
  refine lv_icmp_lt (tgt := 14) hx hb dX10_isClosed_7 (by decide) (fun c2 => ?_) (fun c2 => ?_)
  · skip
    refine lv_iconst (v := 0) hx hb dX10_isClosed_14 (by decide) ?_
    obtain ⟨hP9, hD9⟩ := PDq.sub (ws' := [(oX10 w0 v0 v1 v2 v3 v4 g5 g6 (nI ed) g8 v9 (nI nb) g11 g12 v13 g14 g15 g16 g17 g18 g19 g20 g21 g22 g23 g24 g25 g26 v27 v28 v29 v30 v31 v32 v33 v34 v35 v36 v37 (nI ol)), (v0, .inl (cA 0, 326, .inl fs))]) hP hD [0, 1] (by decide) rfl
    refine W.widen (k := 0) (n := 0) (Nat.le_of_ble_eq_true rfl) (Nat.le_of_ble_eq_true rfl) ?_
    exact (W.zret (v := 0) hx hb hr (by first | rfl | decide) (fun t ht hW => ⟨⟨0, (), rfl, (Or.inr ⟨rfl, (fun q9 => absurd c2 (Int32.not_lt.mpr q9))⟩), by rw [ht]; exact hP9, hD9⟩, hS.F ht⟩) hS.2.2 dX10_isClosed_15)
  · skip
    refine lv_iconst (v := 1) hx hb dX10_isClosed_10 (by decide) ?_
    refine lv_goto (tgt := 15) hx hb dX10_isClosed_11 (by decide) ?_
    obtain ⟨hP9, hD9⟩ := PDq.sub (ws' := [(oX10 w0 v0 v1 v2 v3 v4 g5 g6 (nI ed) g8 v9 (nI nb) g11 g12 v13 g14 g15 g16 g17 g18 g19 g20 g21 g22 g23 g24 g25 g26 v27 v28 v29 v30 v31 v32 v33 v34 v35 v36 v37 (nI ol)), (v0, .inl (cA 0, 326, .inl fs))]) hP hD [0, 1] (by decide) rfl
    refine W.widen (k := 0) (n := 0) (Nat.le_of_ble_eq_true rfl) (Nat.le_of_ble_eq_true rfl) ?_
    exact (W.zret (v := 1) hx hb hr (by first | rfl | decide) (fun t ht hW => ⟨⟨1, (), rfl, (Or.inl ⟨rfl, (Int32.not_lt.mp c2)⟩), by rw [ht]; exact hP9, hD9⟩, hS.F ht⟩) hS.2.2 dX10_isClosed_15)

set_option maxHeartbeats 4000000 in
set_option maxRecDepth 100000 in
/-- reference, exactly: isOpenOrDue -/
theorem e_isOpenOrDue (l : Launch) (D : va_G) (cA : Nat → ClassId) (sa : Nat → Nat) (w0 : Nat) (ed : Nat) (nb : Nat) (ol : Nat) (v0 : Nat) (v1 : Nat) (v2 : Nat) (v3 : Nat) (v4 : Nat) (v9 : Nat) (v13 : Nat) (v27 : Nat) (v28 : Nat) (v29 : Nat) (v30 : Nat) (v31 : Nat) (v32 : Nat) (v33 : Nat) (v34 : Nat) (v35 : Nat) (v36 : Nat) (v37 : Nat) (g8 : Int32) (g11 : Int32) (g12 : Int32) (g14 : Int32) (g15 : Int32) (g16 : Int32) (g17 : Int32) (g18 : Int32) (g19 : Int32) (g20 : Int32) (g21 : Int32) (g22 : Int32) (g23 : Int32) (g24 : Int32) (g26 : Int32) (g5 : Int64) (g6 : Int64) (g25 : Int64) (ra : Nat → Int32) (fs : Nat → Int32) (mi : Nat) (sz : Nat) (hAb : Ab ra fs) (hmi : mi < 10) : Met l yX10_isOpenOrDue wsX10_isOpenOrDue ({ frames := 1, cells := 0, slots := 0, locals := 22 }) (va_Pc [.ref w0, .int (nI mi)] (Wd D cA sa [(oX10 w0 v0 v1 v2 v3 v4 g5 g6 (nI ed) g8 v9 (nI nb) g11 g12 v13 g14 g15 g16 g17 g18 g19 g20 g21 g22 g23 g24 g25 g26 v27 v28 v29 v30 v31 v32 v33 v34 v35 v36 v37 (nI ol)), (v0, .inl (cA 0, 326, .inl fs))] sz)) (va_Qi (fun (r : Int32) (_ : Unit) => (r = 1 ∧ (ra (16 + 7 * mi + 2) ≤ 1)) ∨ (r = 0 ∧ ¬ (ra (16 + 7 * mi + 2) ≤ 1))) (fun (_ : Unit) t => Wq D (va_A [(oX10 w0 v0 v1 v2 v3 v4 g5 g6 (nI ed) g8 v9 (nI nb) g11 g12 v13 g14 g15 g16 g17 g18 g19 g20 g21 g22 g23 g24 g25 g26 v27 v28 v29 v30 v31 v32 v33 v34 v35 v36 v37 (nI ol)), (v0, .inl (cA 0, 326, .inl fs))] sz) [(oX10 w0 v0 v1 v2 v3 v4 g5 g6 (nI ed) g8 v9 (nI nb) g11 g12 v13 g14 g15 g16 g17 g18 g19 g20 g21 g22 g23 g24 g25 g26 v27 v28 v29 v30 v31 v32 v33 v34 v35 v36 v37 (nI ol)), (v0, .inl (cA 0, 326, .inl fs))] t) (va_A [(oX10 w0 v0 v1 v2 v3 v4 g5 g6 (nI ed) g8 v9 (nI nb) g11 g12 v13 g14 g15 g16 g17 g18 g19 g20 g21 g22 g23 g24 g25 g26 v27 v28 v29 v30 v31 v32 v33 v34 v35 v36 v37 (nI ol)), (v0, .inl (cA 0, 326, .inl fs))] sz)) 0 0 (va_A [(oX10 w0 v0 v1 v2 v3 v4 g5 g6 (nI ed) g8 v9 (nI nb) g11 g12 v13 g14 g15 g16 g17 g18 g19 g20 g21 g22 g23 g24 g25 g26 v27 v28 v29 v30 v31 v32 v33 v34 v35 v36 v37 (nI ol)), (v0, .inl (cA 0, 326, .inl fs))] sz) := by
  refine Met.ofW (cc := cX10_isOpenOrDue) (maxL := 2) (ret := (some .boolean)) (by decide) rfl ?_
  intro p e s m args below meth c s₁ B hml hv
  obtain ⟨rfl, hsz, hP, hK, hD0, hC, hZ⟩ := hv
  have hx := B.exec
  have hb := B.bytes
  have hr := B.returns
  have hts := atoms_spec (ws := wsX10_isOpenOrDue) B.pre
  have hown : s.vm.findClass RX10 = some m.cls := findClass_of_methodNamed B.named
  have hlocks := B.notSynchronized
  subst hsz
  have hD := hD0.self (sz := s.heap.size)
  generalize hAe : va_A [(oX10 w0 v0 v1 v2 v3 v4 g5 g6 (nI ed) g8 v9 (nI nb) g11 g12 v13 g14 g15 g16 g17 g18 g19 g20 g21 g22 g23 g24 g25 g26 v27 v28 v29 v30 v31 v32 v33 v34 v35 v36 v37 (nI ol)), (v0, .inl (cA 0, 326, .inl fs))] s.heap.size = A at hD hZ ⊢
  have hA : ∀ q : Nat, s.heap.size ≤ q → A q := fun q h => by rw [← hAe]; exact Or.inr h
  have hS : va_S A s.heap s.heap [] := va_S.rf
  have hP : va_P D vwCl [(oX10 w0 v0 v1 v2 v3 v4 g5 g6 (nI ed) g8 v9 (nI nb) g11 g12 v13 g14 g15 g16 g17 g18 g19 g20 g21 g22 g23 g24 g25 g26 v27 v28 v29 v30 v31 v32 v33 v34 v35 v36 v37 (nI ol)), (v0, .inl (cA 0, 326, .inl fs))] s.heap := hP
  have hl := lv_entry ([.ref w0, .int (nI mi)]) (n := 2) (Nat.le_of_ble_eq_true rfl)
  rw [lg_entry_eq]
  generalize (lg_sl ([.ref w0, .int (nI mi)]) ++ List.replicate (2 - (lg_sl ([.ref w0, .int (nI mi)])).length) Slot.unset).toArray = ls at hl ⊢
  have hl : lv_has ls 2 [(0, .ref w0), (1, .int (nI mi))] := hl
  refine lv_aload_n hx hb dX10_isOpenOrDue_0 rfl (lv_at hl 0 rfl) ?_
  refine lv_iload_n hx hb dX10_isOpenOrDue_1 rfl (lv_at hl 1 rfl) ?_
  refine lv_iconst (v := 2) hx hb dX10_isOpenOrDue_2 (by decide) ?_
  obtain ⟨hPc, hDc, hFc⟩ := PDq.cut (wc := [(oX10 w0 v0 v1 v2 v3 v4 g5 g6 (nI ed) g8 v9 (nI nb) g11 g12 v13 g14 g15 g16 g17 g18 g19 g20 g21 g22 g23 g24 g25 g26 v27 v28 v29 v30 v31 v32 v33 v34 v35 v36 v37 (nI ol)), (v0, .inl (cA 0, 326, .inl fs))]) hP hD hS hA [0, 1] (by decide) rfl
  refine va_calli (va_runV (As := [.int (nI mi), .int 2]) (rest := []) ⟨hx, hb, hml, hown, hts⟩ (e_of l D cA sa w0 ed nb ol v0 v1 v2 v3 v4 v9 v13 v27 v28 v29 v30 v31 v32 v33 v34 v35 v36 v37 g8 g11 g12 g14 g15 g16 g17 g18 g19 g20 g21 g22 g23 g24 g26 g5 g6 g25 ra fs mi 2 s.heap.size hAb hmi (by omega)) (cwV 2 hts gX10_isOpenOrDue_X10_of rfl rfl rfl (by decide +kernel) ⟨(Nat.le_of_ble_eq_true rfl), (Nat.le_of_ble_eq_true rfl)⟩) ⟨Wd.blind, va_recv hK hPc (ci := 11) (q0 := 0) rfl rfl, fun U hU hW => ⟨rfl, Wd.call hPc hDc hK hC hZ hS hFc U hU hW⟩⟩ rfl rfl hl.1 rfl (lv_room (Nat.le_of_ble_eq_true rfl)) dX10_isOpenOrDue_3 ⟨(Nat.le_of_ble_eq_true rfl), (Nat.le_of_ble_eq_true rfl)⟩) hS (fun q _ h => hFc q h) hFc (fun rn1 u t H1 locs ht hvm hw hB hz1 hk1 hS => ?_)
  obtain ⟨hP1, hD1⟩ := hB
  rw [ht] at hP1
  obtain ⟨hP, hD⟩ := PDq.join (w := [(oX10 w0 v0 v1 v2 v3 v4 g5 g6 (nI ed) g8 v9 (nI nb) g11 g12 v13 g14 g15 g16 g17 g18 g19 g20 g21 g22 g23 g24 g25 g26 v27 v28 v29 v30 v31 v32 v33 v34 v35 v36 v37 (nI ol)), (v0, .inl (cA 0, 326, .inl fs))]) 0 hP hD [0, 1] [] rfl rfl (by decide) (by decide) hk1 hFc hP1 hD1 rfl
  generalize H1 = H at hP hS ⊢
  obtain rfl : rn1 = (ra (16 + 7 * mi + 2)) := hw.trans rfl
  refine lv_iconst (v := 1) hx hb dX10_isOpenOrDue_6 (by decide) ?_
  refine lv_icmp_gt (tgt := 14) hx hb dX10_isOpenOrDue_7 (by decide) (fun c2 => ?_) (fun c2 => ?_)
  · skip
    refine lv_iconst (v := 0) hx hb dX10_isOpenOrDue_14 (by decide) ?_
    obtain ⟨hP9, hD9⟩ := PDq.sub (ws' := [(oX10 w0 v0 v1 v2 v3 v4 g5 g6 (nI ed) g8 v9 (nI nb) g11 g12 v13 g14 g15 g16 g17 g18 g19 g20 g21 g22 g23 g24 g25 g26 v27 v28 v29 v30 v31 v32 v33 v34 v35 v36 v37 (nI ol)), (v0, .inl (cA 0, 326, .inl fs))]) hP hD [0, 1] (by decide) rfl
    refine W.widen (k := 0) (n := 0) (Nat.le_of_ble_eq_true rfl) (Nat.le_of_ble_eq_true rfl) ?_
    exact (W.zret (v := 0) hx hb hr (by first | rfl | decide) (fun t ht hW => ⟨⟨0, (), rfl, (Or.inr ⟨rfl, (fun q9 => absurd c2 (Int32.not_lt.mpr q9))⟩), by rw [ht]; exact hP9, hD9⟩, hS.F ht⟩) hS.2.2 dX10_isOpenOrDue_15)
  · skip
    refine lv_iconst (v := 1) hx hb dX10_isOpenOrDue_10 (by decide) ?_
    refine lv_goto (tgt := 15) hx hb dX10_isOpenOrDue_11 (by decide) ?_
    obtain ⟨hP9, hD9⟩ := PDq.sub (ws' := [(oX10 w0 v0 v1 v2 v3 v4 g5 g6 (nI ed) g8 v9 (nI nb) g11 g12 v13 g14 g15 g16 g17 g18 g19 g20 g21 g22 g23 g24 g25 g26 v27 v28 v29 v30 v31 v32 v33 v34 v35 v36 v37 (nI ol)), (v0, .inl (cA 0, 326, .inl fs))]) hP hD [0, 1] (by decide) rfl
    refine W.widen (k := 0) (n := 0) (Nat.le_of_ble_eq_true rfl) (Nat.le_of_ble_eq_true rfl) ?_
    exact (W.zret (v := 1) hx hb hr (by first | rfl | decide) (fun t ht hW => ⟨⟨1, (), rfl, (Or.inl ⟨rfl, (Int32.not_lt.mp c2)⟩), by rw [ht]; exact hP9, hD9⟩, hS.F ht⟩) hS.2.2 dX10_isOpenOrDue_15)

set_option maxHeartbeats 4000000 in
set_option maxRecDepth 100000 in
/-- reference, exactly: remainingOf -/
theorem e_remainingOf (l : Launch) (D : va_G) (cA : Nat → ClassId) (sa : Nat → Nat) (w0 : Nat) (ed : Nat) (nb : Nat) (ol : Nat) (v0 : Nat) (v1 : Nat) (v2 : Nat) (v3 : Nat) (v4 : Nat) (v9 : Nat) (v13 : Nat) (v27 : Nat) (v28 : Nat) (v29 : Nat) (v30 : Nat) (v31 : Nat) (v32 : Nat) (v33 : Nat) (v34 : Nat) (v35 : Nat) (v36 : Nat) (v37 : Nat) (g8 : Int32) (g11 : Int32) (g12 : Int32) (g14 : Int32) (g15 : Int32) (g16 : Int32) (g17 : Int32) (g18 : Int32) (g19 : Int32) (g20 : Int32) (g21 : Int32) (g22 : Int32) (g23 : Int32) (g24 : Int32) (g26 : Int32) (g5 : Int64) (g6 : Int64) (g25 : Int64) (ra : Nat → Int32) (fs : Nat → Int32) (mi : Nat) (sz : Nat) (hAb : Ab ra fs) (hmi : mi < 10) : Met l yX10_remainingOf wsX10_remainingOf ({ frames := 2, cells := 0, slots := 0, locals := 43 }) (va_Pc [.ref w0, .int (nI mi)] (Wd D cA sa [(oX10 w0 v0 v1 v2 v3 v4 g5 g6 (nI ed) g8 v9 (nI nb) g11 g12 v13 g14 g15 g16 g17 g18 g19 g20 g21 g22 g23 g24 g25 g26 v27 v28 v29 v30 v31 v32 v33 v34 v35 v36 v37 (nI ol)), (v0, .inl (cA 0, 326, .inl fs))] sz)) (va_Qi (fun (r : Int32) (_ : Unit) => r = remR ra mi) (fun (_ : Unit) t => Wq D (va_A [(oX10 w0 v0 v1 v2 v3 v4 g5 g6 (nI ed) g8 v9 (nI nb) g11 g12 v13 g14 g15 g16 g17 g18 g19 g20 g21 g22 g23 g24 g25 g26 v27 v28 v29 v30 v31 v32 v33 v34 v35 v36 v37 (nI ol)), (v0, .inl (cA 0, 326, .inl fs))] sz) [(oX10 w0 v0 v1 v2 v3 v4 g5 g6 (nI ed) g8 v9 (nI nb) g11 g12 v13 g14 g15 g16 g17 g18 g19 g20 g21 g22 g23 g24 g25 g26 v27 v28 v29 v30 v31 v32 v33 v34 v35 v36 v37 (nI ol)), (v0, .inl (cA 0, 326, .inl fs))] t) (va_A [(oX10 w0 v0 v1 v2 v3 v4 g5 g6 (nI ed) g8 v9 (nI nb) g11 g12 v13 g14 g15 g16 g17 g18 g19 g20 g21 g22 g23 g24 g25 g26 v27 v28 v29 v30 v31 v32 v33 v34 v35 v36 v37 (nI ol)), (v0, .inl (cA 0, 326, .inl fs))] sz)) 0 0 (va_A [(oX10 w0 v0 v1 v2 v3 v4 g5 g6 (nI ed) g8 v9 (nI nb) g11 g12 v13 g14 g15 g16 g17 g18 g19 g20 g21 g22 g23 g24 g25 g26 v27 v28 v29 v30 v31 v32 v33 v34 v35 v36 v37 (nI ol)), (v0, .inl (cA 0, 326, .inl fs))] sz) := by
  refine Met.ofW (cc := cX10_remainingOf) (maxL := 2) (ret := (some .int)) (by decide) rfl ?_
  intro p e s m args below meth c s₁ B hml hv
  obtain ⟨rfl, hsz, hP, hK, hD0, hC, hZ⟩ := hv
  have hx := B.exec
  have hb := B.bytes
  have hr := B.returns
  have hts := atoms_spec (ws := wsX10_remainingOf) B.pre
  have hown : s.vm.findClass RX10 = some m.cls := findClass_of_methodNamed B.named
  have hlocks := B.notSynchronized
  subst hsz
  have hD := hD0.self (sz := s.heap.size)
  generalize hAe : va_A [(oX10 w0 v0 v1 v2 v3 v4 g5 g6 (nI ed) g8 v9 (nI nb) g11 g12 v13 g14 g15 g16 g17 g18 g19 g20 g21 g22 g23 g24 g25 g26 v27 v28 v29 v30 v31 v32 v33 v34 v35 v36 v37 (nI ol)), (v0, .inl (cA 0, 326, .inl fs))] s.heap.size = A at hD hZ ⊢
  have hA : ∀ q : Nat, s.heap.size ≤ q → A q := fun q h => by rw [← hAe]; exact Or.inr h
  have hS : va_S A s.heap s.heap [] := va_S.rf
  have hP : va_P D vwCl [(oX10 w0 v0 v1 v2 v3 v4 g5 g6 (nI ed) g8 v9 (nI nb) g11 g12 v13 g14 g15 g16 g17 g18 g19 g20 g21 g22 g23 g24 g25 g26 v27 v28 v29 v30 v31 v32 v33 v34 v35 v36 v37 (nI ol)), (v0, .inl (cA 0, 326, .inl fs))] s.heap := hP
  have hl := lv_entry ([.ref w0, .int (nI mi)]) (n := 2) (Nat.le_of_ble_eq_true rfl)
  rw [lg_entry_eq]
  generalize (lg_sl ([.ref w0, .int (nI mi)]) ++ List.replicate (2 - (lg_sl ([.ref w0, .int (nI mi)])).length) Slot.unset).toArray = ls at hl ⊢
  have hl : lv_has ls 2 [(0, .ref w0), (1, .int (nI mi))] := hl
  refine lv_aload_n hx hb dX10_remainingOf_0 rfl (lv_at hl 0 rfl) ?_
  refine lv_iload_n hx hb dX10_remainingOf_1 rfl (lv_at hl 1 rfl) ?_
  obtain ⟨hPc, hDc, hFc⟩ := PDq.cut (wc := [(oX10 w0 v0 v1 v2 v3 v4 g5 g6 (nI ed) g8 v9 (nI nb) g11 g12 v13 g14 g15 g16 g17 g18 g19 g20 g21 g22 g23 g24 g25 g26 v27 v28 v29 v30 v31 v32 v33 v34 v35 v36 v37 (nI ol)), (v0, .inl (cA 0, 326, .inl fs))]) hP hD hS hA [0, 1] (by decide) rfl
  refine va_calli (va_runV (As := [.int (nI mi)]) (rest := []) ⟨hx, hb, hml, hown, hts⟩ (e_isClosed l D cA sa w0 ed nb ol v0 v1 v2 v3 v4 v9 v13 v27 v28 v29 v30 v31 v32 v33 v34 v35 v36 v37 g8 g11 g12 g14 g15 g16 g17 g18 g19 g20 g21 g22 g23 g24 g26 g5 g6 g25 ra fs mi s.heap.size hAb hmi) (cwV 1 hts gX10_remainingOf_X10_isClosed rfl rfl rfl (by decide +kernel) ⟨(Nat.le_of_ble_eq_true rfl), (Nat.le_of_ble_eq_true rfl)⟩) ⟨Wd.blind, va_recv hK hPc (ci := 11) (q0 := 0) rfl rfl, fun U hU hW => ⟨rfl, Wd.call hPc hDc hK hC hZ hS hFc U hU hW⟩⟩ rfl rfl hl.1 rfl (lv_room (Nat.le_of_ble_eq_true rfl)) dX10_remainingOf_2 ⟨(Nat.le_of_ble_eq_true rfl), (Nat.le_of_ble_eq_true rfl)⟩) hS (fun q _ h => hFc q h) hFc (fun rn1 u t H1 locs ht hvm hw hB hz1 hk1 hS => ?_)
  obtain ⟨hP1, hD1⟩ := hB
  rw [ht] at hP1
  obtain ⟨hP, hD⟩ := PDq.join (w := [(oX10 w0 v0 v1 v2 v3 v4 g5 g6 (nI ed) g8 v9 (nI nb) g11 g12 v13 g14 g15 g16 g17 g18 g19 g20 g21 g22 g23 g24 g25 g26 v27 v28 v29 v30 v31 v32 v33 v34 v35 v36 v37 (nI ol)), (v0, .inl (cA 0, 326, .inl fs))]) 0 hP hD [0, 1] [] rfl rfl (by decide) (by decide) hk1 hFc hP1 hD1 rfl
  generalize H1 = H at hP hS ⊢
  rcases hw with ⟨hr9, hn2⟩ | ⟨hr9, hn2⟩
  · skip
    subst hr9
    refine lv_if_eq (tgt := 12) hx hb dX10_remainingOf_5 (by decide) (fun c9 => absurd c9 (by decide)) (fun c3 => ?_)
    refine lv_iconst (v := 0) hx hb dX10_remainingOf_8 (by decide) ?_
    refine lv_goto (tgt := 25) hx hb dX10_remainingOf_9 (by decide) ?_
    obtain ⟨hP9, hD9⟩ := PDq.sub (ws' := [(oX10 w0 v0 v1 v2 v3 v4 g5 g6 (nI ed) g8 v9 (nI nb) g11 g12 v13 g14 g15 g16 g17 g18 g19 g20 g21 g22 g23 g24 g25 g26 v27 v28 v29 v30 v31 v32 v33 v34 v35 v36 v37 (nI ol)), (v0, .inl (cA 0, 326, .inl fs))]) hP hD [0, 1] (by decide) rfl
    refine W.widen (k := 0) (n := 0) (Nat.le_of_ble_eq_true rfl) (Nat.le_of_ble_eq_true rfl) ?_
    exact (W.iret (v := 0) hx hb hr (fun t ht hW => ⟨⟨0, (), rfl, (remR_0 hn2).symm, by rw [ht]; exact hP9, hD9⟩, hS.F ht⟩) hS.2.2 dX10_remainingOf_25)
  · skip
    subst hr9
    refine lv_if_eq (tgt := 12) hx hb dX10_remainingOf_5 (by decide) (fun c4 => ?_) (fun c9 => absurd c9 (by decide))
    refine lv_aload_n hx hb dX10_remainingOf_12 rfl (lv_at hl 0 rfl) ?_
    refine lv_iload_n hx hb dX10_remainingOf_13 rfl (lv_at hl 1 rfl) ?_
    refine lv_iconst (v := 0) hx hb dX10_remainingOf_14 (by decide) ?_
    obtain ⟨hPc, hDc, hFc⟩ := PDq.cut (wc := [(oX10 w0 v0 v1 v2 v3 v4 g5 g6 (nI ed) g8 v9 (nI nb) g11 g12 v13 g14 g15 g16 g17 g18 g19 g20 g21 g22 g23 g24 g25 g26 v27 v28 v29 v30 v31 v32 v33 v34 v35 v36 v37 (nI ol)), (v0, .inl (cA 0, 326, .inl fs))]) hP hD hS hA [0, 1] (by decide) rfl
    refine va_calli (va_runV (As := [.int (nI mi), .int 0]) (rest := []) ⟨hx, hb, hml, hown, hts⟩ (e_of l D cA sa w0 ed nb ol v0 v1 v2 v3 v4 v9 v13 v27 v28 v29 v30 v31 v32 v33 v34 v35 v36 v37 g8 g11 g12 g14 g15 g16 g17 g18 g19 g20 g21 g22 g23 g24 g26 g5 g6 g25 ra fs mi 0 H.size hAb hmi (by omega)) (cwV 2 hts gX10_remainingOf_X10_of rfl rfl rfl (by decide +kernel) ⟨(Nat.le_of_ble_eq_true rfl), (Nat.le_of_ble_eq_true rfl)⟩) ⟨Wd.blind, va_recv hK hPc (ci := 11) (q0 := 0) rfl rfl, fun U hU hW => ⟨rfl, Wd.call hPc hDc hK hC hZ hS hFc U hU hW⟩⟩ rfl rfl hl.1 rfl (lv_room (Nat.le_of_ble_eq_true rfl)) dX10_remainingOf_15 ⟨(Nat.le_of_ble_eq_true rfl), (Nat.le_of_ble_eq_true rfl)⟩) hS (fun q _ h => hFc q h) hFc (fun rn5 u t H1 locs ht hvm hw hB hz1 hk1 hS => ?_)
    obtain ⟨hP1, hD1⟩ := hB
    rw [ht] at hP1
    obtain ⟨hP, hD⟩ := PDq.join (w := [(oX10 w0 v0 v1 v2 v3 v4 g5 g6 (nI ed) g8 v9 (nI nb) g11 g12 v13 g14 g15 g16 g17 g18 g19 g20 g21 g22 g23 g24 g25 g26 v27 v28 v29 v30 v31 v32 v33 v34 v35 v36 v37 (nI ol)), (v0, .inl (cA 0, 326, .inl fs))]) 0 hP hD [0, 1] [] rfl rfl (by decide) (by decide) hk1 hFc hP1 hD1 rfl
    generalize H1 = H at hP hS ⊢
    obtain rfl : rn5 = (ra (16 + 7 * mi + 0)) := hw.trans rfl
    refine lv_aload_n hx hb dX10_remainingOf_18 rfl (lv_at hl 0 rfl) ?_
    refine lv_iload_n hx hb dX10_remainingOf_19 rfl (lv_at hl 1 rfl) ?_
    refine lv_iconst (v := 1) hx hb dX10_remainingOf_20 (by decide) ?_
    obtain ⟨hPc, hDc, hFc⟩ := PDq.cut (wc := [(oX10 w0 v0 v1 v2 v3 v4 g5 g6 (nI ed) g8 v9 (nI nb) g11 g12 v13 g14 g15 g16 g17 g18 g19 g20 g21 g22 g23 g24 g25 g26 v27 v28 v29 v30 v31 v32 v33 v34 v35 v36 v37 (nI ol)), (v0, .inl (cA 0, 326, .inl fs))]) hP hD hS hA [0, 1] (by decide) rfl
    refine va_calli (va_runV (As := [.int (nI mi), .int 1]) (rest := [.int (ra (16 + 7 * mi + 0))]) ⟨hx, hb, hml, hown, hts⟩ (e_of l D cA sa w0 ed nb ol v0 v1 v2 v3 v4 v9 v13 v27 v28 v29 v30 v31 v32 v33 v34 v35 v36 v37 g8 g11 g12 g14 g15 g16 g17 g18 g19 g20 g21 g22 g23 g24 g26 g5 g6 g25 ra fs mi 1 H.size hAb hmi (by omega)) (cwV 2 hts gX10_remainingOf_X10_of rfl rfl rfl (by decide +kernel) ⟨(Nat.le_of_ble_eq_true rfl), (Nat.le_of_ble_eq_true rfl)⟩) ⟨Wd.blind, va_recv hK hPc (ci := 11) (q0 := 0) rfl rfl, fun U hU hW => ⟨rfl, Wd.call hPc hDc hK hC hZ hS hFc U hU hW⟩⟩ rfl rfl hl.1 rfl (lv_room (Nat.le_of_ble_eq_true rfl)) dX10_remainingOf_21 ⟨(Nat.le_of_ble_eq_true rfl), (Nat.le_of_ble_eq_true rfl)⟩) hS (fun q _ h => hFc q h) hFc (fun rn6 u t H1 locs ht hvm hw hB hz1 hk1 hS => ?_)
    obtain ⟨hP1, hD1⟩ := hB
    rw [ht] at hP1
    obtain ⟨hP, hD⟩ := PDq.join (w := [(oX10 w0 v0 v1 v2 v3 v4 g5 g6 (nI ed) g8 v9 (nI nb) g11 g12 v13 g14 g15 g16 g17 g18 g19 g20 g21 g22 g23 g24 g25 g26 v27 v28 v29 v30 v31 v32 v33 v34 v35 v36 v37 (nI ol)), (v0, .inl (cA 0, 326, .inl fs))]) 0 hP hD [0, 1] [] rfl rfl (by decide) (by decide) hk1 hFc hP1 hD1 rfl
    generalize H1 = H at hP hS ⊢
    obtain rfl : rn6 = (ra (16 + 7 * mi + 1)) := hw.trans rfl
    refine lv_isub hx hb dX10_remainingOf_24 ?_
    refine lv_topi (fun yn7 eyn7 => ?_)
    obtain rfl : yn7 = ((ra (16 + 7 * mi + 0)) - (ra (16 + 7 * mi + 1))) := eyn7
    obtain ⟨hP9, hD9⟩ := PDq.sub (ws' := [(oX10 w0 v0 v1 v2 v3 v4 g5 g6 (nI ed) g8 v9 (nI nb) g11 g12 v13 g14 g15 g16 g17 g18 g19 g20 g21 g22 g23 g24 g25 g26 v27 v28 v29 v30 v31 v32 v33 v34 v35 v36 v37 (nI ol)), (v0, .inl (cA 0, 326, .inl fs))]) hP hD [0, 1] (by decide) rfl
    refine W.widen (k := 0) (n := 0) (Nat.le_of_ble_eq_true rfl) (Nat.le_of_ble_eq_true rfl) ?_
    exact (W.iret (v := ((ra (16 + 7 * mi + 0)) - (ra (16 + 7 * mi + 1)))) hx hb hr (fun t ht hW => ⟨⟨((ra (16 + 7 * mi + 0)) - (ra (16 + 7 * mi + 1))), (), rfl, (remR_1 hn2).symm, by rw [ht]; exact hP9, hD9⟩, hS.F ht⟩) hS.2.2 dX10_remainingOf_25)

set_option maxHeartbeats 4000000 in
set_option maxRecDepth 100000 in
/-- reference, exactly: availableNow -/
theorem e_availableNow (l : Launch) (D : va_G) (cA : Nat → ClassId) (sa : Nat → Nat) (w0 : Nat) (ed : Nat) (nb : Nat) (ol : Nat) (v0 : Nat) (v1 : Nat) (v2 : Nat) (v3 : Nat) (v4 : Nat) (v9 : Nat) (v13 : Nat) (v27 : Nat) (v28 : Nat) (v29 : Nat) (v30 : Nat) (v31 : Nat) (v32 : Nat) (v33 : Nat) (v34 : Nat) (v35 : Nat) (v36 : Nat) (v37 : Nat) (g8 : Int32) (g11 : Int32) (g12 : Int32) (g14 : Int32) (g15 : Int32) (g16 : Int32) (g17 : Int32) (g18 : Int32) (g19 : Int32) (g20 : Int32) (g21 : Int32) (g22 : Int32) (g23 : Int32) (g24 : Int32) (g26 : Int32) (g5 : Int64) (g6 : Int64) (g25 : Int64) (cn : Nat) (pq : Nat) (en : Nat) (dy : Nat) (fs : Nat → Int32) (ra : Nat → Int32) (sz : Nat) (hAb : Ab ra fs) (hcn : cn ≤ 10) (hpq : pq ≤ 8) (hen : en ≤ 60) (hdy : dy ≤ 20000) (hri : RI cn pq en dy fs) : Met l yX10_availableNow wsX10_availableNow ({ frames := 1, cells := 0, slots := 0, locals := 22 }) (va_Pc [.ref w0] (Wd D cA sa [(oX10 w0 v0 v1 v2 v3 v4 g5 g6 (nI ed) g8 v9 (nI nb) g11 g12 v13 g14 g15 g16 g17 g18 g19 g20 g21 g22 g23 g24 g25 g26 v27 v28 v29 v30 v31 v32 v33 v34 v35 v36 v37 (nI ol)), (v0, .inl (cA 0, 326, .inl fs))] sz)) (va_Qi (fun (r : Int32) (_ : Unit) => r = avR ra cn) (fun (_ : Unit) t => Wq D (va_A [(oX10 w0 v0 v1 v2 v3 v4 g5 g6 (nI ed) g8 v9 (nI nb) g11 g12 v13 g14 g15 g16 g17 g18 g19 g20 g21 g22 g23 g24 g25 g26 v27 v28 v29 v30 v31 v32 v33 v34 v35 v36 v37 (nI ol)), (v0, .inl (cA 0, 326, .inl fs))] sz) [(oX10 w0 v0 v1 v2 v3 v4 g5 g6 (nI ed) g8 v9 (nI nb) g11 g12 v13 g14 g15 g16 g17 g18 g19 g20 g21 g22 g23 g24 g25 g26 v27 v28 v29 v30 v31 v32 v33 v34 v35 v36 v37 (nI ol)), (v0, .inl (cA 0, 326, .inl fs))] t) (va_A [(oX10 w0 v0 v1 v2 v3 v4 g5 g6 (nI ed) g8 v9 (nI nb) g11 g12 v13 g14 g15 g16 g17 g18 g19 g20 g21 g22 g23 g24 g25 g26 v27 v28 v29 v30 v31 v32 v33 v34 v35 v36 v37 (nI ol)), (v0, .inl (cA 0, 326, .inl fs))] sz)) 0 0 (va_A [(oX10 w0 v0 v1 v2 v3 v4 g5 g6 (nI ed) g8 v9 (nI nb) g11 g12 v13 g14 g15 g16 g17 g18 g19 g20 g21 g22 g23 g24 g25 g26 v27 v28 v29 v30 v31 v32 v33 v34 v35 v36 v37 (nI ol)), (v0, .inl (cA 0, 326, .inl fs))] sz) := by
  refine Met.ofW (cc := cX10_availableNow) (maxL := 3) (ret := (some .int)) (by decide) rfl ?_
  intro p e s m args below meth c s₁ B hml hv
  obtain ⟨rfl, hsz, hP, hK, hD0, hC, hZ⟩ := hv
  have hx := B.exec
  have hb := B.bytes
  have hr := B.returns
  have hts := atoms_spec (ws := wsX10_availableNow) B.pre
  have hown : s.vm.findClass RX10 = some m.cls := findClass_of_methodNamed B.named
  have hlocks := B.notSynchronized
  subst hsz
  have hD := hD0.self (sz := s.heap.size)
  generalize hAe : va_A [(oX10 w0 v0 v1 v2 v3 v4 g5 g6 (nI ed) g8 v9 (nI nb) g11 g12 v13 g14 g15 g16 g17 g18 g19 g20 g21 g22 g23 g24 g25 g26 v27 v28 v29 v30 v31 v32 v33 v34 v35 v36 v37 (nI ol)), (v0, .inl (cA 0, 326, .inl fs))] s.heap.size = A at hD hZ ⊢
  have hA : ∀ q : Nat, s.heap.size ≤ q → A q := fun q h => by rw [← hAe]; exact Or.inr h
  have hS : va_S A s.heap s.heap [] := va_S.rf
  have hP : va_P D vwCl [(oX10 w0 v0 v1 v2 v3 v4 g5 g6 (nI ed) g8 v9 (nI nb) g11 g12 v13 g14 g15 g16 g17 g18 g19 g20 g21 g22 g23 g24 g25 g26 v27 v28 v29 v30 v31 v32 v33 v34 v35 v36 v37 (nI ol)), (v0, .inl (cA 0, 326, .inl fs))] s.heap := hP
  have hl := lv_entry ([.ref w0]) (n := 3) (Nat.le_of_ble_eq_true rfl)
  rw [lg_entry_eq]
  generalize (lg_sl ([.ref w0]) ++ List.replicate (3 - (lg_sl ([.ref w0])).length) Slot.unset).toArray = ls at hl ⊢
  have hl : lv_has ls 3 [(0, .ref w0)] := hl
  have inX10 : ∀ w ∈ u_ws RX10 TX10 39, w ∈ wsX10_availableNow := by decide +kernel
  refine lv_aload_n hx hb dX10_availableNow_0 rfl (lv_at hl 0 rfl) ?_
  refine va_get (D := D) (ci := 11) (v := .ref v0) (C := RX10) (T := TX10) (N := 39) hx hb hts inX10 hown hK hP 0 rfl rfl 0 (by decide) (hts (.fieldLink RX10 7 "EscrowDeskModel" "s" "[I") (by decide +kernel)) (fun _ h9 => h9) rfl dX10_availableNow_1 ?_
  refine lv_bipush (v := 6) hx hb dX10_availableNow_4 (by decide) ?_
  refine va_iald hx hb hK hP 1 0 rfl rfl (vp_in_iff.mpr (by decide)) dX10_availableNow_6 ?_
  refine lv_topi (fun yn1 eyn1 => ?_)
  obtain rfl : yn1 = (ra 6) := eyn1.trans ((Ab.get hAb (j := 6) (by omega) (by omega)).trans rfl)
  refine lv_istore_n (lv' := [(1, .int (ra 6)), (0, .ref w0)]) hx hb dX10_availableNow_7 rfl hl (by decide) rfl (fun ls hl => ?_)
  refine lv_iconst (v := 0) hx hb dX10_availableNow_8 (by decide) ?_
  refine lv_istore_n (lv' := [(2, .int 0), (1, .int (ra 6)), (0, .ref w0)]) hx hb dX10_availableNow_9 rfl hl (by decide) rfl (fun ls hl => ?_)
  have loop1 : ∀ (n1 i1 : Nat) (x1_1 : Int32) (H : Heap) (locs : List Loc) (ls : Array Slot), i1 + n1 = cn → Avq ra i1 x1_1 → va_P D vwCl [(oX10 w0 v0 v1 v2 v3 v4 g5 g6 (nI ed) g8 v9 (nI nb) g11 g12 v13 g14 g15 g16 g17 g18 g19 g20 g21 g22 g23 g24 g25 g26 v27 v28 v29 v30 v31 v32 v33 v34 v35 v36 v37 (nI ol)), (v0, .inl (cA 0, 326, .inl fs))] H → va_D A [(oX10 w0 v0 v1 v2 v3 v4 g5 g6 (nI ed) g8 v9 (nI nb) g11 g12 v13 g14 g15 g16 g17 g18 g19 g20 g21 g22 g23 g24 g25 g26 v27 v28 v29 v30 v31 v32 v33 v34 v35 v36 v37 (nI ol)), (v0, .inl (cA 0, 326, .inl fs))] → va_S A s.heap H locs → lv_has ls 3 [(2, .int (nI i1)), (1, .int x1_1), (0, .ref w0)] → W p l e (headSpec wsX10_availableNow ({ frames := 1, cells := 0, slots := 0, locals := 22 } : Room)).room s m ([.ref w0] : List Value).toArray below meth c H locs 0 0 (MQ below (va_Qi (fun (r : Int32) (_ : Unit) => r = avR ra cn) (fun (_ : Unit) t => Wq D A [(oX10 w0 v0 v1 v2 v3 v4 g5 g6 (nI ed) g8 v9 (nI nb) g11 g12 v13 g14 g15 g16 g17 g18 g19 g20 g21 g22 g23 g24 g25 g26 v27 v28 v29 v30 v31 v32 v33 v34 v35 v36 v37 (nI ol)), (v0, .inl (cA 0, 326, .inl fs))] t) A) ([.ref w0] : List Value).toArray s 0 0 A) (F0 m 10 ls []) := by
    intro n1
    induction n1 with
    | zero =>
      intro i1 x1_1 H locs ls hi1 hv0_1 hP hD hS hl
      obtain rfl : cn = i1 := by omega
      refine lv_iload_n hx hb dX10_availableNow_10 rfl (lv_at hl 0 rfl) ?_
      refine lv_aload_n hx hb dX10_availableNow_11 rfl (lv_at hl 2 rfl) ?_
      refine va_get (D := D) (ci := 11) (v := .ref v0) (C := RX10) (T := TX10) (N := 39) hx hb hts inX10 hown hK hP 0 rfl rfl 0 (by decide) (hts (.fieldLink RX10 7 "EscrowDeskModel" "s" "[I") (by decide +kernel)) (fun _ h9 => h9) rfl dX10_availableNow_12 ?_
      refine lv_bipush (v := 13) hx hb dX10_availableNow_15 (by decide) ?_
      refine va_iald hx hb hK hP 1 0 rfl rfl (vp_in_iff.mpr (by decide)) dX10_availableNow_17 ?_
      refine lv_topi (fun yn2 eyn2 => ?_)
      obtain rfl : yn2 = (nI cn) := eyn2.trans hri.1
      refine lv_icmp_ge (tgt := 36) hx hb dX10_availableNow_18 (by decide) (fun c3 => ?_) (fun c9 => absurd (nI_le (a := cn) (b := cn) (show cn ≤ cn by omega) (by omega)) c9)
      refine lv_iload_n hx hb dX10_availableNow_36 rfl (lv_at hl 1 rfl) ?_
      obtain ⟨hP9, hD9⟩ := PDq.sub (ws' := [(oX10 w0 v0 v1 v2 v3 v4 g5 g6 (nI ed) g8 v9 (nI nb) g11 g12 v13 g14 g15 g16 g17 g18 g19 g20 g21 g22 g23 g24 g25 g26 v27 v28 v29 v30 v31 v32 v33 v34 v35 v36 v37 (nI ol)), (v0, .inl (cA 0, 326, .inl fs))]) hP hD [0, 1] (by decide) rfl
      refine W.widen (k := 0) (n := 0) (Nat.le_of_ble_eq_true rfl) (Nat.le_of_ble_eq_true rfl) ?_
      exact (W.iret (v := x1_1) hx hb hr (fun t ht hW => ⟨⟨x1_1, (), rfl, hv0_1, by rw [ht]; exact hP9, hD9⟩, hS.F ht⟩) hS.2.2 dX10_availableNow_37)
    | succ n1 ih1 =>
      intro i1 x1_1 H locs ls hi1 hv0_1 hP hD hS hl
      refine lv_iload_n hx hb dX10_availableNow_10 rfl (lv_at hl 0 rfl) ?_
      refine lv_aload_n hx hb dX10_availableNow_11 rfl (lv_at hl 2 rfl) ?_
      refine va_get (D := D) (ci := 11) (v := .ref v0) (C := RX10) (T := TX10) (N := 39) hx hb hts inX10 hown hK hP 0 rfl rfl 0 (by decide) (hts (.fieldLink RX10 7 "EscrowDeskModel" "s" "[I") (by decide +kernel)) (fun _ h9 => h9) rfl dX10_availableNow_12 ?_
      refine lv_bipush (v := 13) hx hb dX10_availableNow_15 (by decide) ?_
      refine va_iald hx hb hK hP 1 0 rfl rfl (vp_in_iff.mpr (by decide)) dX10_availableNow_17 ?_
      refine lv_topi (fun yn4 eyn4 => ?_)
      obtain rfl : yn4 = (nI cn) := eyn4.trans hri.1
      refine lv_icmp_ge (tgt := 36) hx hb dX10_availableNow_18 (by decide) (fun c9 => absurd c9 (nI_ge (a := i1) (b := cn) (show i1 < cn by omega) (by omega))) (fun c5 => ?_)
      refine lv_iload_n hx hb dX10_availableNow_21 rfl (lv_at hl 1 rfl) ?_
      refine lv_aload_n hx hb dX10_availableNow_22 rfl (lv_at hl 2 rfl) ?_
      refine lv_iload_n hx hb dX10_availableNow_23 rfl (lv_at hl 0 rfl) ?_
      refine lv_iconst (v := 3) hx hb dX10_availableNow_24 (by decide) ?_
      obtain ⟨hPc, hDc, hFc⟩ := PDq.cut (wc := [(oX10 w0 v0 v1 v2 v3 v4 g5 g6 (nI ed) g8 v9 (nI nb) g11 g12 v13 g14 g15 g16 g17 g18 g19 g20 g21 g22 g23 g24 g25 g26 v27 v28 v29 v30 v31 v32 v33 v34 v35 v36 v37 (nI ol)), (v0, .inl (cA 0, 326, .inl fs))]) hP hD hS hA [0, 1] (by decide) rfl
      refine va_calli (va_runV (As := [.int (nI i1), .int 3]) (rest := [.int x1_1]) ⟨hx, hb, hml, hown, hts⟩ (e_of l D cA sa w0 ed nb ol v0 v1 v2 v3 v4 v9 v13 v27 v28 v29 v30 v31 v32 v33 v34 v35 v36 v37 g8 g11 g12 g14 g15 g16 g17 g18 g19 g20 g21 g22 g23 g24 g26 g5 g6 g25 ra fs i1 3 H.size hAb (by omega) (by omega)) (cwV 2 hts gX10_availableNow_X10_of rfl rfl rfl (by decide +kernel) ⟨(Nat.le_of_ble_eq_true rfl), (Nat.le_of_ble_eq_true rfl)⟩) ⟨Wd.blind, va_recv hK hPc (ci := 11) (q0 := 0) rfl rfl, fun U hU hW => ⟨rfl, Wd.call hPc hDc hK hC hZ hS hFc U hU hW⟩⟩ rfl rfl hl.1 rfl (lv_room (Nat.le_of_ble_eq_true rfl)) dX10_availableNow_25 ⟨(Nat.le_of_ble_eq_true rfl), (Nat.le_of_ble_eq_true rfl)⟩) hS (fun q _ h => hFc q h) hFc (fun rn6 u t H1 locs ht hvm hw hB hz1 hk1 hS => ?_)
      obtain ⟨hP1, hD1⟩ := hB
      rw [ht] at hP1
      obtain ⟨hP, hD⟩ := PDq.join (w := [(oX10 w0 v0 v1 v2 v3 v4 g5 g6 (nI ed) g8 v9 (nI nb) g11 g12 v13 g14 g15 g16 g17 g18 g19 g20 g21 g22 g23 g24 g25 g26 v27 v28 v29 v30 v31 v32 v33 v34 v35 v36 v37 (nI ol)), (v0, .inl (cA 0, 326, .inl fs))]) 0 hP hD [0, 1] [] rfl rfl (by decide) (by decide) hk1 hFc hP1 hD1 rfl
      generalize H1 = H at hP hS ⊢
      obtain rfl : rn6 = (ra (16 + 7 * i1 + 3)) := hw.trans rfl
      refine lv_isub hx hb dX10_availableNow_28 ?_
      refine lv_topi (fun yn7 eyn7 => ?_)
      obtain rfl : yn7 = (x1_1 - (ra (16 + 7 * i1 + 3))) := eyn7
      refine lv_istore_n (lv' := [(1, .int (x1_1 - (ra (16 + 7 * i1 + 3)))), (2, .int (nI i1)), (0, .ref w0)]) hx hb dX10_availableNow_29 rfl hl (by decide) rfl (fun ls hl => ?_)
      refine lv_iinc (v := (nI (i1 + 1))) (lv' := [(2, .int (nI (i1 + 1))), (1, .int (x1_1 - (ra (16 + 7 * i1 + 3)))), (0, .ref w0)]) hx hb dX10_availableNow_30 hl (k := 1) rfl (nI_1 _) (by decide) rfl (fun ls hl => ?_)
      refine lv_goto (tgt := 10) hx hb dX10_availableNow_33 (by decide) ?_
      obtain ⟨hP9, hD9⟩ := PDq.sub (ws' := [(oX10 w0 v0 v1 v2 v3 v4 g5 g6 (nI ed) g8 v9 (nI nb) g11 g12 v13 g14 g15 g16 g17 g18 g19 g20 g21 g22 g23 g24 g25 g26 v27 v28 v29 v30 v31 v32 v33 v34 v35 v36 v37 (nI ol)), (v0, .inl (cA 0, 326, .inl fs))]) hP hD [0, 1] (by decide) rfl
      exact ih1 (i1 + 1) (x1_1 - (ra (16 + 7 * i1 + 3))) H _ ls (by omega) (Avq.step hv0_1) hP9 hD9 hS (lv_sub hl [0, 1, 2] rfl)
  obtain ⟨hP9, hD9⟩ := PDq.sub (ws' := [(oX10 w0 v0 v1 v2 v3 v4 g5 g6 (nI ed) g8 v9 (nI nb) g11 g12 v13 g14 g15 g16 g17 g18 g19 g20 g21 g22 g23 g24 g25 g26 v27 v28 v29 v30 v31 v32 v33 v34 v35 v36 v37 (nI ol)), (v0, .inl (cA 0, 326, .inl fs))]) hP hD [0, 1] (by decide) rfl
  exact loop1 (cn - 0) 0 (ra 6) _ _ ls (by omega) (Avq.zero ra) hP9 hD9 hS (lv_sub hl [0, 1, 2] rfl)

set_option maxHeartbeats 4000000 in
set_option maxRecDepth 100000 in
/-- reference, exactly: doneSet -/
theorem e_doneSet (l : Launch) (D : va_G) (cA : Nat → ClassId) (sa : Nat → Nat) (w0 : Nat) (ed : Nat) (nb : Nat) (ol : Nat) (v0 : Nat) (v1 : Nat) (v2 : Nat) (v3 : Nat) (v4 : Nat) (v9 : Nat) (v13 : Nat) (v27 : Nat) (v28 : Nat) (v29 : Nat) (v30 : Nat) (v31 : Nat) (v32 : Nat) (v33 : Nat) (v34 : Nat) (v35 : Nat) (v36 : Nat) (v37 : Nat) (g8 : Int32) (g11 : Int32) (g12 : Int32) (g14 : Int32) (g15 : Int32) (g16 : Int32) (g17 : Int32) (g18 : Int32) (g19 : Int32) (g20 : Int32) (g21 : Int32) (g22 : Int32) (g23 : Int32) (g24 : Int32) (g26 : Int32) (g5 : Int64) (g6 : Int64) (g25 : Int64) (cn : Nat) (pq : Nat) (en : Nat) (dy : Nat) (fs : Nat → Int32) (ra : Nat → Int32) (sz : Nat) (hAb : Ab ra fs) (hcn : cn ≤ 10) (hpq : pq ≤ 8) (hen : en ≤ 60) (hdy : dy ≤ 20000) (hri : RI cn pq en dy fs) : Met l yX10_doneSet wsX10_doneSet ({ frames := 1, cells := 0, slots := 0, locals := 22 }) (va_Pc [.ref w0] (Wd D cA sa [(oX10 w0 v0 v1 v2 v3 v4 g5 g6 (nI ed) g8 v9 (nI nb) g11 g12 v13 g14 g15 g16 g17 g18 g19 g20 g21 g22 g23 g24 g25 g26 v27 v28 v29 v30 v31 v32 v33 v34 v35 v36 v37 (nI ol)), (v0, .inl (cA 0, 326, .inl fs))] sz)) (va_Qi (fun (r : Int32) (_ : Unit) => r = doR ra cn) (fun (_ : Unit) t => Wq D (va_A [(oX10 w0 v0 v1 v2 v3 v4 g5 g6 (nI ed) g8 v9 (nI nb) g11 g12 v13 g14 g15 g16 g17 g18 g19 g20 g21 g22 g23 g24 g25 g26 v27 v28 v29 v30 v31 v32 v33 v34 v35 v36 v37 (nI ol)), (v0, .inl (cA 0, 326, .inl fs))] sz) [(oX10 w0 v0 v1 v2 v3 v4 g5 g6 (nI ed) g8 v9 (nI nb) g11 g12 v13 g14 g15 g16 g17 g18 g19 g20 g21 g22 g23 g24 g25 g26 v27 v28 v29 v30 v31 v32 v33 v34 v35 v36 v37 (nI ol)), (v0, .inl (cA 0, 326, .inl fs))] t) (va_A [(oX10 w0 v0 v1 v2 v3 v4 g5 g6 (nI ed) g8 v9 (nI nb) g11 g12 v13 g14 g15 g16 g17 g18 g19 g20 g21 g22 g23 g24 g25 g26 v27 v28 v29 v30 v31 v32 v33 v34 v35 v36 v37 (nI ol)), (v0, .inl (cA 0, 326, .inl fs))] sz)) 0 0 (va_A [(oX10 w0 v0 v1 v2 v3 v4 g5 g6 (nI ed) g8 v9 (nI nb) g11 g12 v13 g14 g15 g16 g17 g18 g19 g20 g21 g22 g23 g24 g25 g26 v27 v28 v29 v30 v31 v32 v33 v34 v35 v36 v37 (nI ol)), (v0, .inl (cA 0, 326, .inl fs))] sz) := by
  refine Met.ofW (cc := cX10_doneSet) (maxL := 3) (ret := (some .int)) (by decide) rfl ?_
  intro p e s m args below meth c s₁ B hml hv
  obtain ⟨rfl, hsz, hP, hK, hD0, hC, hZ⟩ := hv
  have hx := B.exec
  have hb := B.bytes
  have hr := B.returns
  have hts := atoms_spec (ws := wsX10_doneSet) B.pre
  have hown : s.vm.findClass RX10 = some m.cls := findClass_of_methodNamed B.named
  have hlocks := B.notSynchronized
  subst hsz
  have hD := hD0.self (sz := s.heap.size)
  generalize hAe : va_A [(oX10 w0 v0 v1 v2 v3 v4 g5 g6 (nI ed) g8 v9 (nI nb) g11 g12 v13 g14 g15 g16 g17 g18 g19 g20 g21 g22 g23 g24 g25 g26 v27 v28 v29 v30 v31 v32 v33 v34 v35 v36 v37 (nI ol)), (v0, .inl (cA 0, 326, .inl fs))] s.heap.size = A at hD hZ ⊢
  have hA : ∀ q : Nat, s.heap.size ≤ q → A q := fun q h => by rw [← hAe]; exact Or.inr h
  have hS : va_S A s.heap s.heap [] := va_S.rf
  have hP : va_P D vwCl [(oX10 w0 v0 v1 v2 v3 v4 g5 g6 (nI ed) g8 v9 (nI nb) g11 g12 v13 g14 g15 g16 g17 g18 g19 g20 g21 g22 g23 g24 g25 g26 v27 v28 v29 v30 v31 v32 v33 v34 v35 v36 v37 (nI ol)), (v0, .inl (cA 0, 326, .inl fs))] s.heap := hP
  have hl := lv_entry ([.ref w0]) (n := 3) (Nat.le_of_ble_eq_true rfl)
  rw [lg_entry_eq]
  generalize (lg_sl ([.ref w0]) ++ List.replicate (3 - (lg_sl ([.ref w0])).length) Slot.unset).toArray = ls at hl ⊢
  have hl : lv_has ls 3 [(0, .ref w0)] := hl
  have inX10 : ∀ w ∈ u_ws RX10 TX10 39, w ∈ wsX10_doneSet := by decide +kernel
  refine lv_iconst (v := 0) hx hb dX10_doneSet_0 (by decide) ?_
  refine lv_istore_n (lv' := [(1, .int 0), (0, .ref w0)]) hx hb dX10_doneSet_1 rfl hl (by decide) rfl (fun ls hl => ?_)
  refine lv_iconst (v := 0) hx hb dX10_doneSet_2 (by decide) ?_
  refine lv_istore_n (lv' := [(2, .int 0), (1, .int 0), (0, .ref w0)]) hx hb dX10_doneSet_3 rfl hl (by decide) rfl (fun ls hl => ?_)
  have loop1 : ∀ (n1 i1 : Nat) (x1_1 : Int32) (H : Heap) (locs : List Loc) (ls : Array Slot), i1 + n1 = cn → Doq ra i1 x1_1 → va_P D vwCl [(oX10 w0 v0 v1 v2 v3 v4 g5 g6 (nI ed) g8 v9 (nI nb) g11 g12 v13 g14 g15 g16 g17 g18 g19 g20 g21 g22 g23 g24 g25 g26 v27 v28 v29 v30 v31 v32 v33 v34 v35 v36 v37 (nI ol)), (v0, .inl (cA 0, 326, .inl fs))] H → va_D A [(oX10 w0 v0 v1 v2 v3 v4 g5 g6 (nI ed) g8 v9 (nI nb) g11 g12 v13 g14 g15 g16 g17 g18 g19 g20 g21 g22 g23 g24 g25 g26 v27 v28 v29 v30 v31 v32 v33 v34 v35 v36 v37 (nI ol)), (v0, .inl (cA 0, 326, .inl fs))] → va_S A s.heap H locs → lv_has ls 3 [(2, .int (nI i1)), (1, .int x1_1), (0, .ref w0)] → W p l e (headSpec wsX10_doneSet ({ frames := 1, cells := 0, slots := 0, locals := 22 } : Room)).room s m ([.ref w0] : List Value).toArray below meth c H locs 0 0 (MQ below (va_Qi (fun (r : Int32) (_ : Unit) => r = doR ra cn) (fun (_ : Unit) t => Wq D A [(oX10 w0 v0 v1 v2 v3 v4 g5 g6 (nI ed) g8 v9 (nI nb) g11 g12 v13 g14 g15 g16 g17 g18 g19 g20 g21 g22 g23 g24 g25 g26 v27 v28 v29 v30 v31 v32 v33 v34 v35 v36 v37 (nI ol)), (v0, .inl (cA 0, 326, .inl fs))] t) A) ([.ref w0] : List Value).toArray s 0 0 A) (F0 m 4 ls []) := by
    intro n1
    induction n1 with
    | zero =>
      intro i1 x1_1 H locs ls hi1 hv0_1 hP hD hS hl
      obtain rfl : cn = i1 := by omega
      refine lv_iload_n hx hb dX10_doneSet_4 rfl (lv_at hl 0 rfl) ?_
      refine lv_aload_n hx hb dX10_doneSet_5 rfl (lv_at hl 2 rfl) ?_
      refine va_get (D := D) (ci := 11) (v := .ref v0) (C := RX10) (T := TX10) (N := 39) hx hb hts inX10 hown hK hP 0 rfl rfl 0 (by decide) (hts (.fieldLink RX10 7 "EscrowDeskModel" "s" "[I") (by decide +kernel)) (fun _ h9 => h9) rfl dX10_doneSet_6 ?_
      refine lv_bipush (v := 13) hx hb dX10_doneSet_9 (by decide) ?_
      refine va_iald hx hb hK hP 1 0 rfl rfl (vp_in_iff.mpr (by decide)) dX10_doneSet_11 ?_
      refine lv_topi (fun yn1 eyn1 => ?_)
      obtain rfl : yn1 = (nI cn) := eyn1.trans hri.1
      refine lv_icmp_ge (tgt := 51) hx hb dX10_doneSet_12 (by decide) (fun c2 => ?_) (fun c9 => absurd (nI_le (a := cn) (b := cn) (show cn ≤ cn by omega) (by omega)) c9)
      refine lv_iload_n hx hb dX10_doneSet_51 rfl (lv_at hl 1 rfl) ?_
      obtain ⟨hP9, hD9⟩ := PDq.sub (ws' := [(oX10 w0 v0 v1 v2 v3 v4 g5 g6 (nI ed) g8 v9 (nI nb) g11 g12 v13 g14 g15 g16 g17 g18 g19 g20 g21 g22 g23 g24 g25 g26 v27 v28 v29 v30 v31 v32 v33 v34 v35 v36 v37 (nI ol)), (v0, .inl (cA 0, 326, .inl fs))]) hP hD [0, 1] (by decide) rfl
      refine W.widen (k := 0) (n := 0) (Nat.le_of_ble_eq_true rfl) (Nat.le_of_ble_eq_true rfl) ?_
      exact (W.iret (v := x1_1) hx hb hr (fun t ht hW => ⟨⟨x1_1, (), rfl, hv0_1, by rw [ht]; exact hP9, hD9⟩, hS.F ht⟩) hS.2.2 dX10_doneSet_52)
    | succ n1 ih1 =>
      intro i1 x1_1 H locs ls hi1 hv0_1 hP hD hS hl
      refine lv_iload_n hx hb dX10_doneSet_4 rfl (lv_at hl 0 rfl) ?_
      refine lv_aload_n hx hb dX10_doneSet_5 rfl (lv_at hl 2 rfl) ?_
      refine va_get (D := D) (ci := 11) (v := .ref v0) (C := RX10) (T := TX10) (N := 39) hx hb hts inX10 hown hK hP 0 rfl rfl 0 (by decide) (hts (.fieldLink RX10 7 "EscrowDeskModel" "s" "[I") (by decide +kernel)) (fun _ h9 => h9) rfl dX10_doneSet_6 ?_
      refine lv_bipush (v := 13) hx hb dX10_doneSet_9 (by decide) ?_
      refine va_iald hx hb hK hP 1 0 rfl rfl (vp_in_iff.mpr (by decide)) dX10_doneSet_11 ?_
      refine lv_topi (fun yn3 eyn3 => ?_)
      obtain rfl : yn3 = (nI cn) := eyn3.trans hri.1
      refine lv_icmp_ge (tgt := 51) hx hb dX10_doneSet_12 (by decide) (fun c9 => absurd c9 (nI_ge (a := i1) (b := cn) (show i1 < cn by omega) (by omega))) (fun c4 => ?_)
      refine lv_iload_n hx hb dX10_doneSet_15 rfl (lv_at hl 1 rfl) ?_
      refine lv_aload_n hx hb dX10_doneSet_16 rfl (lv_at hl 2 rfl) ?_
      refine lv_iload_n hx hb dX10_doneSet_17 rfl (lv_at hl 0 rfl) ?_
      refine lv_iconst (v := 2) hx hb dX10_doneSet_18 (by decide) ?_
      obtain ⟨hPc, hDc, hFc⟩ := PDq.cut (wc := [(oX10 w0 v0 v1 v2 v3 v4 g5 g6 (nI ed) g8 v9 (nI nb) g11 g12 v13 g14 g15 g16 g17 g18 g19 g20 g21 g22 g23 g24 g25 g26 v27 v28 v29 v30 v31 v32 v33 v34 v35 v36 v37 (nI ol)), (v0, .inl (cA 0, 326, .inl fs))]) hP hD hS hA [0, 1] (by decide) rfl
      refine va_calli (va_runV (As := [.int (nI i1), .int 2]) (rest := [.int x1_1]) ⟨hx, hb, hml, hown, hts⟩ (e_of l D cA sa w0 ed nb ol v0 v1 v2 v3 v4 v9 v13 v27 v28 v29 v30 v31 v32 v33 v34 v35 v36 v37 g8 g11 g12 g14 g15 g16 g17 g18 g19 g20 g21 g22 g23 g24 g26 g5 g6 g25 ra fs i1 2 H.size hAb (by omega) (by omega)) (cwV 2 hts gX10_doneSet_X10_of rfl rfl rfl (by decide +kernel) ⟨(Nat.le_of_ble_eq_true rfl), (Nat.le_of_ble_eq_true rfl)⟩) ⟨Wd.blind, va_recv hK hPc (ci := 11) (q0 := 0) rfl rfl, fun U hU hW => ⟨rfl, Wd.call hPc hDc hK hC hZ hS hFc U hU hW⟩⟩ rfl rfl hl.1 rfl (lv_room (Nat.le_of_ble_eq_true rfl)) dX10_doneSet_19 ⟨(Nat.le_of_ble_eq_true rfl), (Nat.le_of_ble_eq_true rfl)⟩) hS (fun q _ h => hFc q h) hFc (fun rn5 u t H1 locs ht hvm hw hB hz1 hk1 hS => ?_)
      obtain ⟨hP1, hD1⟩ := hB
      rw [ht] at hP1
      obtain ⟨hP, hD⟩ := PDq.join (w := [(oX10 w0 v0 v1 v2 v3 v4 g5 g6 (nI ed) g8 v9 (nI nb) g11 g12 v13 g14 g15 g16 g17 g18 g19 g20 g21 g22 g23 g24 g25 g26 v27 v28 v29 v30 v31 v32 v33 v34 v35 v36 v37 (nI ol)), (v0, .inl (cA 0, 326, .inl fs))]) 0 hP hD [0, 1] [] rfl rfl (by decide) (by decide) hk1 hFc hP1 hD1 rfl
      generalize H1 = H at hP hS ⊢
      obtain rfl : rn5 = (ra (16 + 7 * i1 + 2)) := hw.trans rfl
      refine lv_iconst (v := 3) hx hb dX10_doneSet_22 (by decide) ?_
      refine lv_icmp_eq (tgt := 36) hx hb dX10_doneSet_23 (by decide) (fun c6 => ?_) (fun c6 => ?_)
      · skip
        refine lv_iconst (v := 1) hx hb dX10_doneSet_36 (by decide) ?_
        refine lv_iload_n hx hb dX10_doneSet_37 rfl (lv_at hl 0 rfl) ?_
        refine lv_ishl hx hb dX10_doneSet_38 ?_
        refine lv_topi (fun yn7 eyn7 => ?_)
        obtain rfl : yn7 = ((1 : Int32) <<< ((nI i1) &&& 31)) := eyn7
        refine lv_goto (tgt := 43) hx hb dX10_doneSet_39 (by decide) ?_
        refine lv_ior hx hb dX10_doneSet_43 ?_
        refine lv_topi (fun yn8 eyn8 => ?_)
        obtain rfl : yn8 = (x1_1 ||| ((1 : Int32) <<< ((nI i1) &&& 31))) := eyn8
        refine lv_istore_n (lv' := [(1, .int (x1_1 ||| ((1 : Int32) <<< ((nI i1) &&& 31)))), (2, .int (nI i1)), (0, .ref w0)]) hx hb dX10_doneSet_44 rfl hl (by decide) rfl (fun ls hl => ?_)
        refine lv_iinc (v := (nI (i1 + 1))) (lv' := [(2, .int (nI (i1 + 1))), (1, .int (x1_1 ||| ((1 : Int32) <<< ((nI i1) &&& 31)))), (0, .ref w0)]) hx hb dX10_doneSet_45 hl (k := 1) rfl (nI_1 _) (by decide) rfl (fun ls hl => ?_)
        refine lv_goto (tgt := 4) hx hb dX10_doneSet_48 (by decide) ?_
        obtain ⟨hP9, hD9⟩ := PDq.sub (ws' := [(oX10 w0 v0 v1 v2 v3 v4 g5 g6 (nI ed) g8 v9 (nI nb) g11 g12 v13 g14 g15 g16 g17 g18 g19 g20 g21 g22 g23 g24 g25 g26 v27 v28 v29 v30 v31 v32 v33 v34 v35 v36 v37 (nI ol)), (v0, .inl (cA 0, 326, .inl fs))]) hP hD [0, 1] (by decide) rfl
        exact ih1 (i1 + 1) (x1_1 ||| ((1 : Int32) <<< ((nI i1) &&& 31))) H _ ls (by omega) (Doq.yes hv0_1 (Or.inl c6)) hP9 hD9 hS (lv_sub hl [0, 1, 2] rfl)
      · skip
        refine lv_aload_n hx hb dX10_doneSet_26 rfl (lv_at hl 2 rfl) ?_
        refine lv_iload_n hx hb dX10_doneSet_27 rfl (lv_at hl 0 rfl) ?_
        refine lv_iconst (v := 2) hx hb dX10_doneSet_28 (by decide) ?_
        obtain ⟨hPc, hDc, hFc⟩ := PDq.cut (wc := [(oX10 w0 v0 v1 v2 v3 v4 g5 g6 (nI ed) g8 v9 (nI nb) g11 g12 v13 g14 g15 g16 g17 g18 g19 g20 g21 g22 g23 g24 g25 g26 v27 v28 v29 v30 v31 v32 v33 v34 v35 v36 v37 (nI ol)), (v0, .inl (cA 0, 326, .inl fs))]) hP hD hS hA [0, 1] (by decide) rfl
        refine va_calli (va_runV (As := [.int (nI i1), .int 2]) (rest := [.int x1_1]) ⟨hx, hb, hml, hown, hts⟩ (e_of l D cA sa w0 ed nb ol v0 v1 v2 v3 v4 v9 v13 v27 v28 v29 v30 v31 v32 v33 v34 v35 v36 v37 g8 g11 g12 g14 g15 g16 g17 g18 g19 g20 g21 g22 g23 g24 g26 g5 g6 g25 ra fs i1 2 H.size hAb (by omega) (by omega)) (cwV 2 hts gX10_doneSet_X10_of rfl rfl rfl (by decide +kernel) ⟨(Nat.le_of_ble_eq_true rfl), (Nat.le_of_ble_eq_true rfl)⟩) ⟨Wd.blind, va_recv hK hPc (ci := 11) (q0 := 0) rfl rfl, fun U hU hW => ⟨rfl, Wd.call hPc hDc hK hC hZ hS hFc U hU hW⟩⟩ rfl rfl hl.1 rfl (lv_room (Nat.le_of_ble_eq_true rfl)) dX10_doneSet_29 ⟨(Nat.le_of_ble_eq_true rfl), (Nat.le_of_ble_eq_true rfl)⟩) hS (fun q _ h => hFc q h) hFc (fun rn9 u t H1 locs ht hvm hw hB hz1 hk1 hS => ?_)
        obtain ⟨hP1, hD1⟩ := hB
        rw [ht] at hP1
        obtain ⟨hP, hD⟩ := PDq.join (w := [(oX10 w0 v0 v1 v2 v3 v4 g5 g6 (nI ed) g8 v9 (nI nb) g11 g12 v13 g14 g15 g16 g17 g18 g19 g20 g21 g22 g23 g24 g25 g26 v27 v28 v29 v30 v31 v32 v33 v34 v35 v36 v37 (nI ol)), (v0, .inl (cA 0, 326, .inl fs))]) 0 hP hD [0, 1] [] rfl rfl (by decide) (by decide) hk1 hFc hP1 hD1 rfl
        generalize H1 = H at hP hS ⊢
        obtain rfl : rn9 = (ra (16 + 7 * i1 + 2)) := hw.trans rfl
        refine lv_iconst (v := 4) hx hb dX10_doneSet_32 (by decide) ?_
        refine lv_icmp_ne (tgt := 42) hx hb dX10_doneSet_33 (by decide) (fun c10 => ?_) (fun c10 => ?_)
        · skip
          refine lv_iconst (v := 0) hx hb dX10_doneSet_42 (by decide) ?_
          refine lv_ior hx hb dX10_doneSet_43 ?_
          refine lv_topi (fun yn11 eyn11 => ?_)
          obtain rfl : yn11 = (x1_1 ||| 0) := eyn11
          refine lv_istore_n (lv' := [(1, .int (x1_1 ||| 0)), (2, .int (nI i1)), (0, .ref w0)]) hx hb dX10_doneSet_44 rfl hl (by decide) rfl (fun ls hl => ?_)
          refine lv_iinc (v := (nI (i1 + 1))) (lv' := [(2, .int (nI (i1 + 1))), (1, .int (x1_1 ||| 0)), (0, .ref w0)]) hx hb dX10_doneSet_45 hl (k := 1) rfl (nI_1 _) (by decide) rfl (fun ls hl => ?_)
          refine lv_goto (tgt := 4) hx hb dX10_doneSet_48 (by decide) ?_
          obtain ⟨hP9, hD9⟩ := PDq.sub (ws' := [(oX10 w0 v0 v1 v2 v3 v4 g5 g6 (nI ed) g8 v9 (nI nb) g11 g12 v13 g14 g15 g16 g17 g18 g19 g20 g21 g22 g23 g24 g25 g26 v27 v28 v29 v30 v31 v32 v33 v34 v35 v36 v37 (nI ol)), (v0, .inl (cA 0, 326, .inl fs))]) hP hD [0, 1] (by decide) rfl
          exact ih1 (i1 + 1) (x1_1 ||| 0) H _ ls (by omega) (Doq.no hv0_1 (fun q9 => q9.elim c6 c10)) hP9 hD9 hS (lv_sub hl [0, 1, 2] rfl)
        · skip
          refine lv_iconst (v := 1) hx hb dX10_doneSet_36 (by decide) ?_
          refine lv_iload_n hx hb dX10_doneSet_37 rfl (lv_at hl 0 rfl) ?_
          refine lv_ishl hx hb dX10_doneSet_38 ?_
          refine lv_topi (fun yn12 eyn12 => ?_)
          obtain rfl : yn12 = ((1 : Int32) <<< ((nI i1) &&& 31)) := eyn12
          refine lv_goto (tgt := 43) hx hb dX10_doneSet_39 (by decide) ?_
          refine lv_ior hx hb dX10_doneSet_43 ?_
          refine lv_topi (fun yn13 eyn13 => ?_)
          obtain rfl : yn13 = (x1_1 ||| ((1 : Int32) <<< ((nI i1) &&& 31))) := eyn13
          refine lv_istore_n (lv' := [(1, .int (x1_1 ||| ((1 : Int32) <<< ((nI i1) &&& 31)))), (2, .int (nI i1)), (0, .ref w0)]) hx hb dX10_doneSet_44 rfl hl (by decide) rfl (fun ls hl => ?_)
          refine lv_iinc (v := (nI (i1 + 1))) (lv' := [(2, .int (nI (i1 + 1))), (1, .int (x1_1 ||| ((1 : Int32) <<< ((nI i1) &&& 31)))), (0, .ref w0)]) hx hb dX10_doneSet_45 hl (k := 1) rfl (nI_1 _) (by decide) rfl (fun ls hl => ?_)
          refine lv_goto (tgt := 4) hx hb dX10_doneSet_48 (by decide) ?_
          obtain ⟨hP9, hD9⟩ := PDq.sub (ws' := [(oX10 w0 v0 v1 v2 v3 v4 g5 g6 (nI ed) g8 v9 (nI nb) g11 g12 v13 g14 g15 g16 g17 g18 g19 g20 g21 g22 g23 g24 g25 g26 v27 v28 v29 v30 v31 v32 v33 v34 v35 v36 v37 (nI ol)), (v0, .inl (cA 0, 326, .inl fs))]) hP hD [0, 1] (by decide) rfl
          exact ih1 (i1 + 1) (x1_1 ||| ((1 : Int32) <<< ((nI i1) &&& 31))) H _ ls (by omega) (Doq.yes hv0_1 (Or.inr c10)) hP9 hD9 hS (lv_sub hl [0, 1, 2] rfl)
  obtain ⟨hP9, hD9⟩ := PDq.sub (ws' := [(oX10 w0 v0 v1 v2 v3 v4 g5 g6 (nI ed) g8 v9 (nI nb) g11 g12 v13 g14 g15 g16 g17 g18 g19 g20 g21 g22 g23 g24 g25 g26 v27 v28 v29 v30 v31 v32 v33 v34 v35 v36 v37 (nI ol)), (v0, .inl (cA 0, 326, .inl fs))]) hP hD [0, 1] (by decide) rfl
  exact loop1 (cn - 0) 0 0 _ _ ls (by omega) (Doq.zero ra) hP9 hD9 hS (lv_sub hl [0, 1, 2] rfl)

set_option maxHeartbeats 4000000 in
set_option maxRecDepth 100000 in
/-- reference, exactly: enter -/
theorem e_enter (l : Launch) (D : va_G) (cA : Nat → ClassId) (sa : Nat → Nat) (h0 : Nat) (cn : Nat) (pq : Nat) (en : Nat) (dy : Nat) (fs : Nat → Int32) (ra : Nat → Int32) (k : Int32) (a : Int32) (j : Int32) (sz : Nat) (hAb : Ab ra fs) (hcn : cn ≤ 10) (hpq : pq ≤ 8) (hen : en ≤ 60) (hdy : dy ≤ 20000) (hri : RI cn pq en dy fs) : Met l yX10_enter wsX10_enter ({ frames := 0, cells := 0, slots := 0, locals := 0 }) (va_Pc [.ref h0, .int k, .int a, .int j] (Wd D cA sa [(h0, .inl (cA 0, 326, .inl fs))] sz)) (va_Qv (fun _ : Unit => True) (fun (_ : Unit) t => ∃ e2 : Nat, ∃ zs : Nat → Int32, e2 ≤ 60 ∧ RI cn pq e2 dy zs ∧ Ab (entR a ra) zs ∧ e2 = entN en a ∧ Wq D (va_A [(h0, .inl (cA 0, 326, .inl fs))] sz) [(h0, .inl (cA 0, 326, .inl zs))] t) (va_A [(h0, .inl (cA 0, 326, .inl fs))] sz)) 0 0 (va_A [(h0, .inl (cA 0, 326, .inl fs))] sz) := by
  refine Met.ofW (cc := cX10_enter) (maxL := 5) (ret := none) (by decide) rfl ?_
  intro p e s m args below meth c s₁ B hml hv
  obtain ⟨rfl, hsz, hP, hK, hD0, hC, hZ⟩ := hv
  have hx := B.exec
  have hb := B.bytes
  have hr := B.returns
  have hts := atoms_spec (ws := wsX10_enter) B.pre
  have hown : s.vm.findClass RX10 = some m.cls := findClass_of_methodNamed B.named
  have hlocks := B.notSynchronized
  subst hsz
  have hD := hD0.self (sz := s.heap.size)
  generalize hAe : va_A [(h0, .inl (cA 0, 326, .inl fs))] s.heap.size = A at hD hZ ⊢
  have hA : ∀ q : Nat, s.heap.size ≤ q → A q := fun q h => by rw [← hAe]; exact Or.inr h
  have hS : va_S A s.heap s.heap [] := va_S.rf
  have hP : va_P D vwCl [(h0, .inl (cA 0, 326, .inl fs))] s.heap := hP
  have hl := lv_entry ([.ref h0, .int k, .int a, .int j]) (n := 5) (Nat.le_of_ble_eq_true rfl)
  rw [lg_entry_eq]
  generalize (lg_sl ([.ref h0, .int k, .int a, .int j]) ++ List.replicate (5 - (lg_sl ([.ref h0, .int k, .int a, .int j])).length) Slot.unset).toArray = ls at hl ⊢
  have hl : lv_has ls 5 [(0, .ref h0), (1, .int k), (2, .int a), (3, .int j)] := hl
  refine lv_iload_n hx hb dX10_enter_0 rfl (lv_at hl 2 rfl) ?_
  refine lv_if_ne (tgt := 5) hx hb dX10_enter_1 (by decide) (fun c1 => ?_) (fun c1 => ?_)
  · skip
    refine lv_aload_n hx hb dX10_enter_5 rfl (lv_at hl 0 rfl) ?_
    refine lv_bipush (v := 15) hx hb dX10_enter_6 (by decide) ?_
    refine va_iald hx hb hK hP 0 0 rfl rfl (vp_in_iff.mpr (by decide)) dX10_enter_8 ?_
    refine lv_topi (fun yn2 eyn2 => ?_)
    obtain rfl : yn2 = (nI en) := eyn2.trans hri.2.2.1
    refine lv_bipush (v := 60) hx hb dX10_enter_9 (by decide) ?_
    refine lv_icmp_ne (tgt := 50) hx hb dX10_enter_11 (by decide) (fun c3 => ?_) (fun c3 => ?_)
    · skip
      have hn4 : ¬ en = 60 := fun h9 => c3 ((nI_eq (a := en) (b := 60) (by omega) (by omega)).mpr h9)
      refine lv_bipush (v := 86) hx hb dX10_enter_50 (by decide) ?_
      refine lv_iconst (v := 4) hx hb dX10_enter_52 (by decide) ?_
      refine lv_aload_n hx hb dX10_enter_53 rfl (lv_at hl 0 rfl) ?_
      refine lv_bipush (v := 15) hx hb dX10_enter_54 (by decide) ?_
      refine va_iald hx hb hK hP 0 0 rfl rfl (vp_in_iff.mpr (by decide)) dX10_enter_56 ?_
      refine lv_topi (fun yn5 eyn5 => ?_)
      obtain rfl : yn5 = (nI en) := eyn5.trans hri.2.2.1
      refine lv_imul hx hb dX10_enter_57 ?_
      refine lv_topi (fun yn6 eyn6 => ?_)
      obtain rfl : yn6 = (nI (4 * en)) := eyn6.trans (nI_mul 4 en)
      refine lv_iadd hx hb dX10_enter_58 ?_
      refine lv_topi (fun yn7 eyn7 => ?_)
      obtain rfl : yn7 = (nI (86 + (4 * en))) := eyn7.trans (nI_add 86 (4 * en))
      refine lv_istore (lv' := [(4, .int (nI (86 + (4 * en)))), (0, .ref h0), (1, .int k), (2, .int a), (3, .int j)]) hx hb dX10_enter_59 hl (by decide) rfl (fun ls hl => ?_)
      refine lv_aload_n hx hb dX10_enter_61 rfl (lv_at hl 1 rfl) ?_
      refine lv_iload hx hb dX10_enter_62 (lv_at hl 0 rfl) ?_
      refine lv_iload_n hx hb dX10_enter_64 rfl (lv_at hl 2 rfl) ?_
      refine va_iast hx hb hK hP hD hS 0 0 rfl rfl (vp_in_nI (n := (86 + (4 * en))) (N := 326) (show (86 + (4 * en)) < 326 by omega) (by decide)) dX10_enter_65 (fun H locs hP hD hS => ?_)
      obtain ⟨hP, hD⟩ : PDq D A [(h0, .inl (cA 0, 326, .inl (upd fs (((nI (86 + (4 * en)))).toNatClampNeg) k)))] H := ⟨hP, hD⟩
      have hn9 : Ab ra (upd fs (((nI (86 + (4 * en)))).toNatClampNeg) k) := (Ab.far hAb (by omega) _ (by omega))
      have hn10 : RI cn pq en dy (upd fs (((nI (86 + (4 * en)))).toNatClampNeg) k) := RI.putI hri (86 + (4 * en)) k (by omega) (by omega)
      generalize (upd fs (((nI (86 + (4 * en)))).toNatClampNeg) k) = fn8 at hP hD hn9 hn10
      obtain ⟨hP, hD⟩ : PDq D A [(h0, .inl (cA 0, 326, .inl fn8))] H := ⟨hP, hD⟩
      refine lv_aload_n hx hb dX10_enter_66 rfl (lv_at hl 1 rfl) ?_
      refine lv_iload hx hb dX10_enter_67 (lv_at hl 0 rfl) ?_
      refine lv_iconst (v := 1) hx hb dX10_enter_69 (by decide) ?_
      refine lv_iadd hx hb dX10_enter_70 ?_
      refine lv_topi (fun yn11 eyn11 => ?_)
      obtain rfl : yn11 = (nI ((86 + (4 * en)) + 1)) := eyn11.trans (nI_add (86 + (4 * en)) 1)
      refine lv_aload_n hx hb dX10_enter_71 rfl (lv_at hl 1 rfl) ?_
      refine lv_iconst (v := 4) hx hb dX10_enter_72 (by decide) ?_
      refine va_iald hx hb hK hP 0 0 rfl rfl (vp_in_iff.mpr (by decide)) dX10_enter_73 ?_
      refine lv_topi (fun yn12 eyn12 => ?_)
      obtain rfl : yn12 = (ra 4) := eyn12.trans ((Ab.get hn9 (j := 4) (by omega) (by omega)).trans rfl)
      refine va_iast hx hb hK hP hD hS 0 0 rfl rfl (vp_in_nI (n := ((86 + (4 * en)) + 1)) (N := 326) (show ((86 + (4 * en)) + 1) < 326 by omega) (by decide)) dX10_enter_74 (fun H locs hP hD hS => ?_)
      obtain ⟨hP, hD⟩ : PDq D A [(h0, .inl (cA 0, 326, .inl (upd fn8 (((nI ((86 + (4 * en)) + 1))).toNatClampNeg) (ra 4))))] H := ⟨hP, hD⟩
      have hn14 : Ab ra (upd fn8 (((nI ((86 + (4 * en)) + 1))).toNatClampNeg) (ra 4)) := (Ab.far hn9 (by omega) _ (by omega))
      have hn15 : RI cn pq en dy (upd fn8 (((nI ((86 + (4 * en)) + 1))).toNatClampNeg) (ra 4)) := RI.putI hn10 ((86 + (4 * en)) + 1) (ra 4) (by omega) (by omega)
      generalize (upd fn8 (((nI ((86 + (4 * en)) + 1))).toNatClampNeg) (ra 4)) = fn13 at hP hD hn14 hn15
      obtain ⟨hP, hD⟩ : PDq D A [(h0, .inl (cA 0, 326, .inl fn13))] H := ⟨hP, hD⟩
      refine lv_aload_n hx hb dX10_enter_75 rfl (lv_at hl 1 rfl) ?_
      refine lv_iload hx hb dX10_enter_76 (lv_at hl 0 rfl) ?_
      refine lv_iconst (v := 2) hx hb dX10_enter_78 (by decide) ?_
      refine lv_iadd hx hb dX10_enter_79 ?_
      refine lv_topi (fun yn16 eyn16 => ?_)
      obtain rfl : yn16 = (nI ((86 + (4 * en)) + 2)) := eyn16.trans (nI_add (86 + (4 * en)) 2)
      refine lv_iload_n hx hb dX10_enter_80 rfl (lv_at hl 3 rfl) ?_
      refine va_iast hx hb hK hP hD hS 0 0 rfl rfl (vp_in_nI (n := ((86 + (4 * en)) + 2)) (N := 326) (show ((86 + (4 * en)) + 2) < 326 by omega) (by decide)) dX10_enter_81 (fun H locs hP hD hS => ?_)
      obtain ⟨hP, hD⟩ : PDq D A [(h0, .inl (cA 0, 326, .inl (upd fn13 (((nI ((86 + (4 * en)) + 2))).toNatClampNeg) a)))] H := ⟨hP, hD⟩
      have hn18 : Ab ra (upd fn13 (((nI ((86 + (4 * en)) + 2))).toNatClampNeg) a) := (Ab.far hn14 (by omega) _ (by omega))
      have hn19 : RI cn pq en dy (upd fn13 (((nI ((86 + (4 * en)) + 2))).toNatClampNeg) a) := RI.putI hn15 ((86 + (4 * en)) + 2) a (by omega) (by omega)
      generalize (upd fn13 (((nI ((86 + (4 * en)) + 2))).toNatClampNeg) a) = fn17 at hP hD hn18 hn19
      obtain ⟨hP, hD⟩ : PDq D A [(h0, .inl (cA 0, 326, .inl fn17))] H := ⟨hP, hD⟩
      refine lv_aload_n hx hb dX10_enter_82 rfl (lv_at hl 1 rfl) ?_
      refine lv_iload hx hb dX10_enter_83 (lv_at hl 0 rfl) ?_
      refine lv_iconst (v := 3) hx hb dX10_enter_85 (by decide) ?_
      refine lv_iadd hx hb dX10_enter_86 ?_
      refine lv_topi (fun yn20 eyn20 => ?_)
      obtain rfl : yn20 = (nI ((86 + (4 * en)) + 3)) := eyn20.trans (nI_add (86 + (4 * en)) 3)
      refine lv_iload_n hx hb dX10_enter_87 rfl (lv_at hl 4 rfl) ?_
      refine va_iast hx hb hK hP hD hS 0 0 rfl rfl (vp_in_nI (n := ((86 + (4 * en)) + 3)) (N := 326) (show ((86 + (4 * en)) + 3) < 326 by omega) (by decide)) dX10_enter_88 (fun H locs hP hD hS => ?_)
      obtain ⟨hP, hD⟩ : PDq D A [(h0, .inl (cA 0, 326, .inl (upd fn17 (((nI ((86 + (4 * en)) + 3))).toNatClampNeg) j)))] H := ⟨hP, hD⟩
      have hn22 : Ab ra (upd fn17 (((nI ((86 + (4 * en)) + 3))).toNatClampNeg) j) := (Ab.far hn18 (by omega) _ (by omega))
      have hn23 : RI cn pq en dy (upd fn17 (((nI ((86 + (4 * en)) + 3))).toNatClampNeg) j) := RI.putI hn19 ((86 + (4 * en)) + 3) j (by omega) (by omega)
      generalize (upd fn17 (((nI ((86 + (4 * en)) + 3))).toNatClampNeg) j) = fn21 at hP hD hn22 hn23
      obtain ⟨hP, hD⟩ : PDq D A [(h0, .inl (cA 0, 326, .inl fn21))] H := ⟨hP, hD⟩
      refine lv_aload_n hx hb dX10_enter_89 rfl (lv_at hl 1 rfl) ?_
      refine lv_bipush (v := 15) hx hb dX10_enter_90 (by decide) ?_
      refine lv_dup2_11 hx hb dX10_enter_92 rfl rfl ?_
      refine va_iald hx hb hK hP 0 0 rfl rfl (vp_in_iff.mpr (by decide)) dX10_enter_93 ?_
      refine lv_topi (fun yn24 eyn24 => ?_)
      obtain rfl : yn24 = (nI en) := eyn24.trans hn23.2.2.1
      refine lv_iconst (v := 1) hx hb dX10_enter_94 (by decide) ?_
      refine lv_iadd hx hb dX10_enter_95 ?_
      refine lv_topi (fun yn25 eyn25 => ?_)
      obtain rfl : yn25 = (nI (en + 1)) := eyn25.trans (nI_add en 1)
      refine va_iast hx hb hK hP hD hS 0 0 rfl rfl (vp_in_iff.mpr (by decide)) dX10_enter_96 (fun H locs hP hD hS => ?_)
      obtain ⟨hP, hD⟩ : PDq D A [(h0, .inl (cA 0, 326, .inl (upd fn21 15 (nI (en + 1)))))] H := ⟨hP, hD⟩
      have hn27 : Ab (upd ra 15 (nI (en + 1))) (upd fn21 15 (nI (en + 1))) := (Ab.put hn22 15 (nI (en + 1)))
      have hn28 : RI cn pq (en + 1) dy (upd fn21 15 (nI (en + 1))) := RI.ent hn23 (en + 1)
      generalize (upd fn21 15 (nI (en + 1))) = fn26 at hP hD hn27 hn28
      obtain ⟨hP, hD⟩ : PDq D A [(h0, .inl (cA 0, 326, .inl fn26))] H := ⟨hP, hD⟩
      obtain ⟨hP9, hD9⟩ := PDq.sub (ws' := [(h0, .inl (cA 0, 326, .inl fn26))]) hP hD [0] (by decide) rfl
      refine W.widen (k := 0) (n := 0) (Nat.le_of_ble_eq_true rfl) (Nat.le_of_ble_eq_true rfl) ?_
      exact (W.vret hx hb hr (fun t ht hW => ⟨⟨(), rfl, trivial, (en + 1), fn26, (by omega), hn28, (entR_1 c1 ((hAb 15 (by decide) (by decide)).symm.trans hri.2.2.1) hen (by have q9 := hn27; rw [show en + 1 = min (en + 1) 60 by omega] at q9; exact q9)), (by unfold entN; rw [if_neg c1]; omega), by rw [ht]; exact hP9, hD9⟩, hS.F ht⟩) hS.2.2 dX10_enter_97)
    · skip
      have hn29 : en = 60 := (nI_eq (a := en) (b := 60) (by omega) (by omega)).mp c3
      refine lv_bipush (v := 90) hx hb dX10_enter_14 (by decide) ?_
      refine lv_istore (lv' := [(4, .int 90), (0, .ref h0), (1, .int k), (2, .int a), (3, .int j)]) hx hb dX10_enter_16 hl (by decide) rfl (fun ls hl => ?_)
      have loop1 : ∀ (n1 i1 : Nat) (f0_1 : Nat → Int32) (H : Heap) (locs : List Loc) (ls : Array Slot), i1 + n1 = 326 → Ab ra f0_1 → RI cn pq en dy f0_1 → 90 ≤ i1 → va_P D vwCl [(h0, .inl (cA 0, 326, .inl f0_1))] H → va_D A [(h0, .inl (cA 0, 326, .inl f0_1))] → va_S A s.heap H locs → lv_has ls 5 [(4, .int (nI i1)), (0, .ref h0), (1, .int k), (2, .int a), (3, .int j)] → W p l e (headSpec wsX10_enter ({ frames := 0, cells := 0, slots := 0, locals := 0 } : Room)).room s m ([.ref h0, .int k, .int a, .int j] : List Value).toArray below meth c H locs 0 0 (MQ below (va_Qv (fun _ : Unit => True) (fun (_ : Unit) t => ∃ e2 : Nat, ∃ zs : Nat → Int32, e2 ≤ 60 ∧ RI cn pq e2 dy zs ∧ Ab (entR a ra) zs ∧ e2 = entN en a ∧ Wq D A [(h0, .inl (cA 0, 326, .inl zs))] t) A) ([.ref h0, .int k, .int a, .int j] : List Value).toArray s 0 0 A) (F0 m 18 ls []) := by
        intro n1
        induction n1 with
        | zero =>
          intro i1 f0_1 H locs ls hi1 hf0_1 hf1_1 hv0_1 hP hD hS hl
          obtain rfl : 326 = i1 := by omega
          refine lv_iload hx hb dX10_enter_18 (lv_at hl 0 rfl) ?_
          refine lv_sipush (v := 326) hx hb dX10_enter_20 (by decide) ?_
          refine lv_icmp_ge (tgt := 42) hx hb dX10_enter_23 (by decide) (fun c30 => ?_) (fun c9 => absurd (nI_le (a := 326) (b := 326) (show 326 ≤ 326 by omega) (by omega)) c9)
          refine lv_aload_n hx hb dX10_enter_42 rfl (lv_at hl 1 rfl) ?_
          refine lv_bipush (v := 15) hx hb dX10_enter_43 (by decide) ?_
          refine lv_dup2_11 hx hb dX10_enter_45 rfl rfl ?_
          refine va_iald hx hb hK hP 0 0 rfl rfl (vp_in_iff.mpr (by decide)) dX10_enter_46 ?_
          refine lv_topi (fun yn31 eyn31 => ?_)
          obtain rfl : yn31 = (nI en) := eyn31.trans hf1_1.2.2.1
          refine lv_iconst (v := 1) hx hb dX10_enter_47 (by decide) ?_
          refine lv_isub hx hb dX10_enter_48 ?_
          refine lv_topi (fun yn32 eyn32 => ?_)
          obtain rfl : yn32 = (nI (en - 1)) := eyn32.trans (nI_sub (a := en) (b := 1) (by omega))
          refine va_iast hx hb hK hP hD hS 0 0 rfl rfl (vp_in_iff.mpr (by decide)) dX10_enter_49 (fun H locs hP hD hS => ?_)
          obtain ⟨hP, hD⟩ : PDq D A [(h0, .inl (cA 0, 326, .inl (upd f0_1 15 (nI (en - 1)))))] H := ⟨hP, hD⟩
          have hn34 : Ab (upd ra 15 (nI (en - 1))) (upd f0_1 15 (nI (en - 1))) := (Ab.put hf0_1 15 (nI (en - 1)))
          have hn35 : RI cn pq (en - 1) dy (upd f0_1 15 (nI (en - 1))) := RI.ent hf1_1 (en - 1)
          generalize (upd f0_1 15 (nI (en - 1))) = fn33 at hP hD hn34 hn35
          obtain ⟨hP, hD⟩ : PDq D A [(h0, .inl (cA 0, 326, .inl fn33))] H := ⟨hP, hD⟩
          refine lv_bipush (v := 86) hx hb dX10_enter_50 (by decide) ?_
          refine lv_iconst (v := 4) hx hb dX10_enter_52 (by decide) ?_
          refine lv_aload_n hx hb dX10_enter_53 rfl (lv_at hl 1 rfl) ?_
          refine lv_bipush (v := 15) hx hb dX10_enter_54 (by decide) ?_
          refine va_iald hx hb hK hP 0 0 rfl rfl (vp_in_iff.mpr (by decide)) dX10_enter_56 ?_
          refine lv_topi (fun yn36 eyn36 => ?_)
          obtain rfl : yn36 = (nI (en - 1)) := eyn36.trans hn35.2.2.1
          refine lv_imul hx hb dX10_enter_57 ?_
          refine lv_topi (fun yn37 eyn37 => ?_)
          obtain rfl : yn37 = (nI (4 * (en - 1))) := eyn37.trans (nI_mul 4 (en - 1))
          refine lv_iadd hx hb dX10_enter_58 ?_
          refine lv_topi (fun yn38 eyn38 => ?_)
          obtain rfl : yn38 = (nI (86 + (4 * (en - 1)))) := eyn38.trans (nI_add 86 (4 * (en - 1)))
          refine lv_istore (lv' := [(4, .int (nI (86 + (4 * (en - 1))))), (0, .ref h0), (1, .int k), (2, .int a), (3, .int j)]) hx hb dX10_enter_59 hl (by decide) rfl (fun ls hl => ?_)
          refine lv_aload_n hx hb dX10_enter_61 rfl (lv_at hl 1 rfl) ?_
          refine lv_iload hx hb dX10_enter_62 (lv_at hl 0 rfl) ?_
          refine lv_iload_n hx hb dX10_enter_64 rfl (lv_at hl 2 rfl) ?_
          refine va_iast hx hb hK hP hD hS 0 0 rfl rfl (vp_in_nI (n := (86 + (4 * (en - 1)))) (N := 326) (show (86 + (4 * (en - 1))) < 326 by omega) (by decide)) dX10_enter_65 (fun H locs hP hD hS => ?_)
          obtain ⟨hP, hD⟩ : PDq D A [(h0, .inl (cA 0, 326, .inl (upd fn33 (((nI (86 + (4 * (en - 1))))).toNatClampNeg) k)))] H := ⟨hP, hD⟩
          have hn40 : Ab (upd ra 15 (nI (en - 1))) (upd fn33 (((nI (86 + (4 * (en - 1))))).toNatClampNeg) k) := (Ab.far hn34 (by omega) _ (by omega))
          have hn41 : RI cn pq (en - 1) dy (upd fn33 (((nI (86 + (4 * (en - 1))))).toNatClampNeg) k) := RI.putI hn35 (86 + (4 * (en - 1))) k (by omega) (by omega)
          generalize (upd fn33 (((nI (86 + (4 * (en - 1))))).toNatClampNeg) k) = fn39 at hP hD hn40 hn41
          obtain ⟨hP, hD⟩ : PDq D A [(h0, .inl (cA 0, 326, .inl fn39))] H := ⟨hP, hD⟩
          refine lv_aload_n hx hb dX10_enter_66 rfl (lv_at hl 1 rfl) ?_
          refine lv_iload hx hb dX10_enter_67 (lv_at hl 0 rfl) ?_
          refine lv_iconst (v := 1) hx hb dX10_enter_69 (by decide) ?_
          refine lv_iadd hx hb dX10_enter_70 ?_
          refine lv_topi (fun yn42 eyn42 => ?_)
          obtain rfl : yn42 = (nI ((86 + (4 * (en - 1))) + 1)) := eyn42.trans (nI_add (86 + (4 * (en - 1))) 1)
          refine lv_aload_n hx hb dX10_enter_71 rfl (lv_at hl 1 rfl) ?_
          refine lv_iconst (v := 4) hx hb dX10_enter_72 (by decide) ?_
          refine va_iald hx hb hK hP 0 0 rfl rfl (vp_in_iff.mpr (by decide)) dX10_enter_73 ?_
          refine lv_topi (fun yn43 eyn43 => ?_)
          obtain rfl : yn43 = (ra 4) := eyn43.trans ((Ab.get hn40 (j := 4) (by omega) (by omega)).trans ((pk_un (by omega)).trans rfl))
          refine va_iast hx hb hK hP hD hS 0 0 rfl rfl (vp_in_nI (n := ((86 + (4 * (en - 1))) + 1)) (N := 326) (show ((86 + (4 * (en - 1))) + 1) < 326 by omega) (by decide)) dX10_enter_74 (fun H locs hP hD hS => ?_)
          obtain ⟨hP, hD⟩ : PDq D A [(h0, .inl (cA 0, 326, .inl (upd fn39 (((nI ((86 + (4 * (en - 1))) + 1))).toNatClampNeg) (ra 4))))] H := ⟨hP, hD⟩
          have hn45 : Ab (upd ra 15 (nI (en - 1))) (upd fn39 (((nI ((86 + (4 * (en - 1))) + 1))).toNatClampNeg) (ra 4)) := (Ab.far hn40 (by omega) _ (by omega))
          have hn46 : RI cn pq (en - 1) dy (upd fn39 (((nI ((86 + (4 * (en - 1))) + 1))).toNatClampNeg) (ra 4)) := RI.putI hn41 ((86 + (4 * (en - 1))) + 1) (ra 4) (by omega) (by omega)
          generalize (upd fn39 (((nI ((86 + (4 * (en - 1))) + 1))).toNatClampNeg) (ra 4)) = fn44 at hP hD hn45 hn46
          obtain ⟨hP, hD⟩ : PDq D A [(h0, .inl (cA 0, 326, .inl fn44))] H := ⟨hP, hD⟩
          refine lv_aload_n hx hb dX10_enter_75 rfl (lv_at hl 1 rfl) ?_
          refine lv_iload hx hb dX10_enter_76 (lv_at hl 0 rfl) ?_
          refine lv_iconst (v := 2) hx hb dX10_enter_78 (by decide) ?_
          refine lv_iadd hx hb dX10_enter_79 ?_
          refine lv_topi (fun yn47 eyn47 => ?_)
          obtain rfl : yn47 = (nI ((86 + (4 * (en - 1))) + 2)) := eyn47.trans (nI_add (86 + (4 * (en - 1))) 2)
          refine lv_iload_n hx hb dX10_enter_80 rfl (lv_at hl 3 rfl) ?_
          refine va_iast hx hb hK hP hD hS 0 0 rfl rfl (vp_in_nI (n := ((86 + (4 * (en - 1))) + 2)) (N := 326) (show ((86 + (4 * (en - 1))) + 2) < 326 by omega) (by decide)) dX10_enter_81 (fun H locs hP hD hS => ?_)
          obtain ⟨hP, hD⟩ : PDq D A [(h0, .inl (cA 0, 326, .inl (upd fn44 (((nI ((86 + (4 * (en - 1))) + 2))).toNatClampNeg) a)))] H := ⟨hP, hD⟩
          have hn49 : Ab (upd ra 15 (nI (en - 1))) (upd fn44 (((nI ((86 + (4 * (en - 1))) + 2))).toNatClampNeg) a) := (Ab.far hn45 (by omega) _ (by omega))
          have hn50 : RI cn pq (en - 1) dy (upd fn44 (((nI ((86 + (4 * (en - 1))) + 2))).toNatClampNeg) a) := RI.putI hn46 ((86 + (4 * (en - 1))) + 2) a (by omega) (by omega)
          generalize (upd fn44 (((nI ((86 + (4 * (en - 1))) + 2))).toNatClampNeg) a) = fn48 at hP hD hn49 hn50
          obtain ⟨hP, hD⟩ : PDq D A [(h0, .inl (cA 0, 326, .inl fn48))] H := ⟨hP, hD⟩
          refine lv_aload_n hx hb dX10_enter_82 rfl (lv_at hl 1 rfl) ?_
          refine lv_iload hx hb dX10_enter_83 (lv_at hl 0 rfl) ?_
          refine lv_iconst (v := 3) hx hb dX10_enter_85 (by decide) ?_
          refine lv_iadd hx hb dX10_enter_86 ?_
          refine lv_topi (fun yn51 eyn51 => ?_)
          obtain rfl : yn51 = (nI ((86 + (4 * (en - 1))) + 3)) := eyn51.trans (nI_add (86 + (4 * (en - 1))) 3)
          refine lv_iload_n hx hb dX10_enter_87 rfl (lv_at hl 4 rfl) ?_
          refine va_iast hx hb hK hP hD hS 0 0 rfl rfl (vp_in_nI (n := ((86 + (4 * (en - 1))) + 3)) (N := 326) (show ((86 + (4 * (en - 1))) + 3) < 326 by omega) (by decide)) dX10_enter_88 (fun H locs hP hD hS => ?_)
          obtain ⟨hP, hD⟩ : PDq D A [(h0, .inl (cA 0, 326, .inl (upd fn48 (((nI ((86 + (4 * (en - 1))) + 3))).toNatClampNeg) j)))] H := ⟨hP, hD⟩
          have hn53 : Ab (upd ra 15 (nI (en - 1))) (upd fn48 (((nI ((86 + (4 * (en - 1))) + 3))).toNatClampNeg) j) := (Ab.far hn49 (by omega) _ (by omega))
          have hn54 : RI cn pq (en - 1) dy (upd fn48 (((nI ((86 + (4 * (en - 1))) + 3))).toNatClampNeg) j) := RI.putI hn50 ((86 + (4 * (en - 1))) + 3) j (by omega) (by omega)
          generalize (upd fn48 (((nI ((86 + (4 * (en - 1))) + 3))).toNatClampNeg) j) = fn52 at hP hD hn53 hn54
          obtain ⟨hP, hD⟩ : PDq D A [(h0, .inl (cA 0, 326, .inl fn52))] H := ⟨hP, hD⟩
          refine lv_aload_n hx hb dX10_enter_89 rfl (lv_at hl 1 rfl) ?_
          refine lv_bipush (v := 15) hx hb dX10_enter_90 (by decide) ?_
          refine lv_dup2_11 hx hb dX10_enter_92 rfl rfl ?_
          refine va_iald hx hb hK hP 0 0 rfl rfl (vp_in_iff.mpr (by decide)) dX10_enter_93 ?_
          refine lv_topi (fun yn55 eyn55 => ?_)
          obtain rfl : yn55 = (nI (en - 1)) := eyn55.trans hn54.2.2.1
          refine lv_iconst (v := 1) hx hb dX10_enter_94 (by decide) ?_
          refine lv_iadd hx hb dX10_enter_95 ?_
          refine lv_topi (fun yn56 eyn56 => ?_)
          obtain rfl : yn56 = (nI ((en - 1) + 1)) := eyn56.trans (nI_add (en - 1) 1)
          refine va_iast hx hb hK hP hD hS 0 0 rfl rfl (vp_in_iff.mpr (by decide)) dX10_enter_96 (fun H locs hP hD hS => ?_)
          obtain ⟨hP, hD⟩ : PDq D A [(h0, .inl (cA 0, 326, .inl (upd fn52 15 (nI ((en - 1) + 1)))))] H := ⟨hP, hD⟩
          have hn58 : Ab (upd (upd ra 15 (nI (en - 1))) 15 (nI ((en - 1) + 1))) (upd fn52 15 (nI ((en - 1) + 1))) := (Ab.put hn53 15 (nI ((en - 1) + 1)))
          have hn59 : RI cn pq ((en - 1) + 1) dy (upd fn52 15 (nI ((en - 1) + 1))) := RI.ent hn54 ((en - 1) + 1)
          generalize (upd fn52 15 (nI ((en - 1) + 1))) = fn57 at hP hD hn58 hn59
          obtain ⟨hP, hD⟩ : PDq D A [(h0, .inl (cA 0, 326, .inl fn57))] H := ⟨hP, hD⟩
          obtain ⟨hP9, hD9⟩ := PDq.sub (ws' := [(h0, .inl (cA 0, 326, .inl fn57))]) hP hD [0] (by decide) rfl
          refine W.widen (k := 0) (n := 0) (Nat.le_of_ble_eq_true rfl) (Nat.le_of_ble_eq_true rfl) ?_
          exact (W.vret hx hb hr (fun t ht hW => ⟨⟨(), rfl, trivial, ((en - 1) + 1), fn57, (by omega), hn59, (entR_1 c1 ((hAb 15 (by decide) (by decide)).symm.trans hri.2.2.1) hen (by have q9 := (Ab.tw hn58); rw [show (en - 1) + 1 = min (en + 1) 60 by omega] at q9; exact q9)), (by unfold entN; rw [if_neg c1]; omega), by rw [ht]; exact hP9, hD9⟩, hS.F ht⟩) hS.2.2 dX10_enter_97)
        | succ n1 ih1 =>
          intro i1 f0_1 H locs ls hi1 hf0_1 hf1_1 hv0_1 hP hD hS hl
          refine lv_iload hx hb dX10_enter_18 (lv_at hl 0 rfl) ?_
          refine lv_sipush (v := 326) hx hb dX10_enter_20 (by decide) ?_
          refine lv_icmp_ge (tgt := 42) hx hb dX10_enter_23 (by decide) (fun c9 => absurd c9 (nI_ge (a := i1) (b := 326) (show i1 < 326 by omega) (by omega))) (fun c60 => ?_)
          refine lv_aload_n hx hb dX10_enter_26 rfl (lv_at hl 1 rfl) ?_
          refine lv_iload hx hb dX10_enter_27 (lv_at hl 0 rfl) ?_
          refine lv_iconst (v := 4) hx hb dX10_enter_29 (by decide) ?_
          refine lv_isub hx hb dX10_enter_30 ?_
          refine lv_topi (fun yn61 eyn61 => ?_)
          obtain rfl : yn61 = (nI (i1 - 4)) := eyn61.trans (nI_sub (a := i1) (b := 4) (by omega))
          refine lv_aload_n hx hb dX10_enter_31 rfl (lv_at hl 1 rfl) ?_
          refine lv_iload hx hb dX10_enter_32 (lv_at hl 0 rfl) ?_
          refine va_iald hx hb hK hP 0 0 rfl rfl (vp_in_nI (n := i1) (N := 326) (show i1 < 326 by omega) (by decide)) dX10_enter_34 ?_
          refine lv_topi (fun yn62 eyn62 => ?_)
          refine va_iast hx hb hK hP hD hS 0 0 rfl rfl (vp_in_nI (n := (i1 - 4)) (N := 326) (show (i1 - 4) < 326 by omega) (by decide)) dX10_enter_35 (fun H locs hP hD hS => ?_)
          obtain ⟨hP, hD⟩ : PDq D A [(h0, .inl (cA 0, 326, .inl (upd f0_1 (((nI (i1 - 4))).toNatClampNeg) yn62)))] H := ⟨hP, hD⟩
          have hn64 : Ab ra (upd f0_1 (((nI (i1 - 4))).toNatClampNeg) yn62) := (Ab.far hf0_1 (by omega) _ (by omega))
          have hn65 : RI cn pq en dy (upd f0_1 (((nI (i1 - 4))).toNatClampNeg) yn62) := RI.putI hf1_1 (i1 - 4) yn62 (by omega) (by omega)
          generalize (upd f0_1 (((nI (i1 - 4))).toNatClampNeg) yn62) = fn63 at hP hD hn64 hn65
          obtain ⟨hP, hD⟩ : PDq D A [(h0, .inl (cA 0, 326, .inl fn63))] H := ⟨hP, hD⟩
          refine lv_iinc (v := (nI (i1 + 1))) (lv' := [(4, .int (nI (i1 + 1))), (0, .ref h0), (1, .int k), (2, .int a), (3, .int j)]) hx hb dX10_enter_36 hl (k := 0) rfl (nI_1 _) (by decide) rfl (fun ls hl => ?_)
          refine lv_goto (tgt := 18) hx hb dX10_enter_39 (by decide) ?_
          obtain ⟨hP9, hD9⟩ := PDq.sub (ws' := [(h0, .inl (cA 0, 326, .inl fn63))]) hP hD [0] (by decide) rfl
          exact ih1 (i1 + 1) fn63 H _ ls (by omega) hn64 hn65 (by omega) hP9 hD9 hS (lv_sub hl [0, 1, 2, 3, 4] rfl)
      obtain ⟨hP9, hD9⟩ := PDq.sub (ws' := [(h0, .inl (cA 0, 326, .inl fs))]) hP hD [0] (by decide) rfl
      exact loop1 (326 - 90) 90 fs _ _ ls (by omega) hAb hri (by omega) hP9 hD9 hS (lv_sub hl [0, 1, 2, 3, 4] rfl)
  · skip
    rw [c1] at hl
    have hl : lv_has ls 5 [(0, .ref h0), (1, .int k), (2, .int 0), (3, .int j)] := hl
    obtain ⟨hP9, hD9⟩ := PDq.sub (ws' := [(h0, .inl (cA 0, 326, .inl fs))]) hP hD [0] (by decide) rfl
    refine W.widen (k := 0) (n := 0) (Nat.le_of_ble_eq_true rfl) (Nat.le_of_ble_eq_true rfl) ?_
    exact (W.vret hx hb hr (fun t ht hW => ⟨⟨(), rfl, trivial, en, fs, hen, hri, (by rw [c1]; exact entR_0 hAb), (by unfold entN; rw [if_pos c1]), by rw [ht]; exact hP9, hD9⟩, hS.F ht⟩) hS.2.2 dX10_enter_4)

