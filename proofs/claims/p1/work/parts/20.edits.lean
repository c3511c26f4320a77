set_option maxHeartbeats 4000000 in
set_option maxRecDepth 100000 in
/-- remember: the first edit; the account stays -/
theorem c_remember (l : Launch) (D : va_G) (cA : Nat → ClassId) (sa : Nat → Nat) (s0 s1 m0 m1 m2 m3 m4 m5 m6 a0 a1 a2 a3 a4 a5 a6 p0 : Nat) (x0 x6 x7 x8 x9 x10 x11 x12 x13 x14 x15 x16 x17 x18 x19 : Value) (n2 k2 : Int32) (q2 q3 q4 q5 q6 e2 e3 e4 e5 e6 : Nat → Int32) (FR : Nat → Option Nat) (sz : Nat) (hF : FR 0 = some m0) : Met l yX1_remember wsX1_remember ({ frames := 3, cells := 0, slots := 0, locals := 102 }) (va_Pc [.ref s0, .ref a0] (Wd D cA sa [(s0, .inr (5, [.ref s1, .int 0, .int 0])), (s1, .inl (cA 5, 10, .inr (.inr (.inr (.inr FR))))), (m0, .inr (4, [x0, .ref m1, .ref m3, .ref m4, .ref m5, .ref m6, x6, x7, x8, x9, x10, x11, x12, x13, x14, x15, x16, x17, x18, x19])), (m1, .inr (6, [.ref m2, .int n2, .int k2])), (m2, .inl (cA 0, 240, .inl q2)), (m3, .inl (cA 0, 10, .inl q3)), (m4, .inl (cA 0, 10, .inl q4)), (m5, .inl (cA 0, 10, .inl q5)), (m6, .inl (cA 0, 10, .inl q6)), (a0, .inr (4, [.ref p0, .ref a1, .ref a3, .ref a4, .ref a5, .ref a6, .int 0, .int 0, .int 0, .long 0, .long 0, .long 0, .int 0, .int 0, .int 0, .int 0, .int 365, .int 0, .int 0, .int 0])), (a1, .inr (6, [.ref a2, .int 0, .int 0])), (a2, .inl (cA 0, 240, .inl e2)), (a3, .inl (cA 0, 10, .inl e3)), (a4, .inl (cA 0, 10, .inl e4)), (a5, .inl (cA 0, 10, .inl e5)), (a6, .inl (cA 0, 10, .inl e6))] sz)) (va_Qv (fun _ : Unit => True) (fun (_ : Unit) t => Wq D (va_A [(s0, .inr (5, [.ref s1, .int 0, .int 0])), (s1, .inl (cA 5, 10, .inr (.inr (.inr (.inr FR))))), (m0, .inr (4, [x0, .ref m1, .ref m3, .ref m4, .ref m5, .ref m6, x6, x7, x8, x9, x10, x11, x12, x13, x14, x15, x16, x17, x18, x19])), (m1, .inr (6, [.ref m2, .int n2, .int k2])), (m2, .inl (cA 0, 240, .inl q2)), (m3, .inl (cA 0, 10, .inl q3)), (m4, .inl (cA 0, 10, .inl q4)), (m5, .inl (cA 0, 10, .inl q5)), (m6, .inl (cA 0, 10, .inl q6)), (a0, .inr (4, [.ref p0, .ref a1, .ref a3, .ref a4, .ref a5, .ref a6, .int 0, .int 0, .int 0, .long 0, .long 0, .long 0, .int 0, .int 0, .int 0, .int 0, .int 365, .int 0, .int 0, .int 0])), (a1, .inr (6, [.ref a2, .int 0, .int 0])), (a2, .inl (cA 0, 240, .inl e2)), (a3, .inl (cA 0, 10, .inl e3)), (a4, .inl (cA 0, 10, .inl e4)), (a5, .inl (cA 0, 10, .inl e5)), (a6, .inl (cA 0, 10, .inl e6))] sz) [(a0, .inr (4, [.ref p0, .ref a1, .ref a3, .ref a4, .ref a5, .ref a6, .int 0, .int 0, .int 0, .long 0, .long 0, .long 0, .int 0, .int 0, .int 0, .int 0, .int 365, .int 0, .int 0, .int 0])), (a1, .inr (6, [.ref a2, .int 0, .int 0])), (a2, .inl (cA 0, 240, .inl e2)), (a3, .inl (cA 0, 10, .inl e3)), (a4, .inl (cA 0, 10, .inl e4)), (a5, .inl (cA 0, 10, .inl e5)), (a6, .inl (cA 0, 10, .inl e6))] t) (va_A [(s0, .inr (5, [.ref s1, .int 0, .int 0])), (s1, .inl (cA 5, 10, .inr (.inr (.inr (.inr FR))))), (m0, .inr (4, [x0, .ref m1, .ref m3, .ref m4, .ref m5, .ref m6, x6, x7, x8, x9, x10, x11, x12, x13, x14, x15, x16, x17, x18, x19])), (m1, .inr (6, [.ref m2, .int n2, .int k2])), (m2, .inl (cA 0, 240, .inl q2)), (m3, .inl (cA 0, 10, .inl q3)), (m4, .inl (cA 0, 10, .inl q4)), (m5, .inl (cA 0, 10, .inl q5)), (m6, .inl (cA 0, 10, .inl q6)), (a0, .inr (4, [.ref p0, .ref a1, .ref a3, .ref a4, .ref a5, .ref a6, .int 0, .int 0, .int 0, .long 0, .long 0, .long 0, .int 0, .int 0, .int 0, .int 0, .int 365, .int 0, .int 0, .int 0])), (a1, .inr (6, [.ref a2, .int 0, .int 0])), (a2, .inl (cA 0, 240, .inl e2)), (a3, .inl (cA 0, 10, .inl e3)), (a4, .inl (cA 0, 10, .inl e4)), (a5, .inl (cA 0, 10, .inl e5)), (a6, .inl (cA 0, 10, .inl e6))] sz)) 0 0 (va_A [(s0, .inr (5, [.ref s1, .int 0, .int 0])), (s1, .inl (cA 5, 10, .inr (.inr (.inr (.inr FR))))), (m0, .inr (4, [x0, .ref m1, .ref m3, .ref m4, .ref m5, .ref m6, x6, x7, x8, x9, x10, x11, x12, x13, x14, x15, x16, x17, x18, x19])), (m1, .inr (6, [.ref m2, .int n2, .int k2])), (m2, .inl (cA 0, 240, .inl q2)), (m3, .inl (cA 0, 10, .inl q3)), (m4, .inl (cA 0, 10, .inl q4)), (m5, .inl (cA 0, 10, .inl q5)), (m6, .inl (cA 0, 10, .inl q6)), (a0, .inr (4, [.ref p0, .ref a1, .ref a3, .ref a4, .ref a5, .ref a6, .int 0, .int 0, .int 0, .long 0, .long 0, .long 0, .int 0, .int 0, .int 0, .int 0, .int 365, .int 0, .int 0, .int 0])), (a1, .inr (6, [.ref a2, .int 0, .int 0])), (a2, .inl (cA 0, 240, .inl e2)), (a3, .inl (cA 0, 10, .inl e3)), (a4, .inl (cA 0, 10, .inl e4)), (a5, .inl (cA 0, 10, .inl e5)), (a6, .inl (cA 0, 10, .inl e6))] sz) := by
  refine Met.ofW (cc := cX1_remember) (maxL := 2) (ret := none) (by decide) rfl ?_
  intro p e s m args below meth c s₁ B hml hv
  obtain ⟨rfl, hsz, hP, hK, hD0, hC, hZ⟩ := hv
  have hx := B.exec
  have hb := B.bytes
  have hr := B.returns
  have hts := atoms_spec (ws := wsX1_remember) B.pre
  have hown : s.vm.findClass RX1 = some m.cls := findClass_of_methodNamed B.named
  have hlocks := B.notSynchronized
  subst hsz
  have hD := hD0.self (sz := s.heap.size)
  generalize hAe : va_A [(s0, .inr (5, [.ref s1, .int 0, .int 0])), (s1, .inl (cA 5, 10, .inr (.inr (.inr (.inr FR))))), (m0, .inr (4, [x0, .ref m1, .ref m3, .ref m4, .ref m5, .ref m6, x6, x7, x8, x9, x10, x11, x12, x13, x14, x15, x16, x17, x18, x19])), (m1, .inr (6, [.ref m2, .int n2, .int k2])), (m2, .inl (cA 0, 240, .inl q2)), (m3, .inl (cA 0, 10, .inl q3)), (m4, .inl (cA 0, 10, .inl q4)), (m5, .inl (cA 0, 10, .inl q5)), (m6, .inl (cA 0, 10, .inl q6)), (a0, .inr (4, [.ref p0, .ref a1, .ref a3, .ref a4, .ref a5, .ref a6, .int 0, .int 0, .int 0, .long 0, .long 0, .long 0, .int 0, .int 0, .int 0, .int 0, .int 365, .int 0, .int 0, .int 0])), (a1, .inr (6, [.ref a2, .int 0, .int 0])), (a2, .inl (cA 0, 240, .inl e2)), (a3, .inl (cA 0, 10, .inl e3)), (a4, .inl (cA 0, 10, .inl e4)), (a5, .inl (cA 0, 10, .inl e5)), (a6, .inl (cA 0, 10, .inl e6))] s.heap.size = A at hD hZ ⊢
  have hA : ∀ q : Nat, s.heap.size ≤ q → A q := fun q h => by rw [← hAe]; exact Or.inr h
  have hS : va_S A s.heap s.heap [] := va_S.rf
  have hP : va_P D vwCl [(s0, .inr (5, [.ref s1, .int 0, .int 0])), (s1, .inl (cA 5, 10, .inr (.inr (.inr (.inr FR))))), (m0, .inr (4, [x0, .ref m1, .ref m3, .ref m4, .ref m5, .ref m6, x6, x7, x8, x9, x10, x11, x12, x13, x14, x15, x16, x17, x18, x19])), (m1, .inr (6, [.ref m2, .int n2, .int k2])), (m2, .inl (cA 0, 240, .inl q2)), (m3, .inl (cA 0, 10, .inl q3)), (m4, .inl (cA 0, 10, .inl q4)), (m5, .inl (cA 0, 10, .inl q5)), (m6, .inl (cA 0, 10, .inl q6)), (a0, .inr (4, [.ref p0, .ref a1, .ref a3, .ref a4, .ref a5, .ref a6, .int 0, .int 0, .int 0, .long 0, .long 0, .long 0, .int 0, .int 0, .int 0, .int 0, .int 365, .int 0, .int 0, .int 0])), (a1, .inr (6, [.ref a2, .int 0, .int 0])), (a2, .inl (cA 0, 240, .inl e2)), (a3, .inl (cA 0, 10, .inl e3)), (a4, .inl (cA 0, 10, .inl e4)), (a5, .inl (cA 0, 10, .inl e5)), (a6, .inl (cA 0, 10, .inl e6))] s.heap := hP
  have hl := lv_entry ([.ref s0, .ref a0]) (n := 2) (Nat.le_of_ble_eq_true rfl)
  rw [lg_entry_eq]
  generalize (lg_sl ([.ref s0, .ref a0]) ++ List.replicate (2 - (lg_sl ([.ref s0, .ref a0])).length) Slot.unset).toArray = ls at hl ⊢
  have hl : lv_has ls 2 [(0, .ref s0), (1, .ref a0)] := hl
  have inX1 : ∀ w ∈ u_ws RX1 TX1 3, w ∈ wsX1_remember := by decide +kernel
  refine lv_aload_n hx hb dX1_remember_0 rfl (lv_at hl 0 rfl) ?_
  refine va_get (D := D) (ci := 5) (v := .ref s1) (C := RX1) (T := TX1) (N := 3) hx hb hts inX1 hown hK hP 0 rfl rfl 0 (by decide) (hts (.fieldLink RX1 13 "EscrowDesk$History" "remembered" "[LEscrowDesk$Account;") (by decide +kernel)) (fun _ h9 => h9) rfl dX1_remember_1 ?_
  refine lv_aload_n hx hb dX1_remember_4 rfl (lv_at hl 0 rfl) ?_
  refine va_get (D := D) (ci := 5) (v := .int 0) (C := RX1) (T := TX1) (N := 3) hx hb hts inX1 hown hK hP 0 rfl rfl 1 (by decide) (hts (.fieldLink RX1 20 "EscrowDesk$History" "next" "I") (by decide +kernel)) (fun _ h9 => h9) rfl dX1_remember_5 ?_
  refine va_aldq hx hb hK hP 1 5 rfl rfl (vp_in_iff.mpr (by decide)) dX1_remember_8 ?_
  refine W.eq (g2 := F0 m 9 ls [.ref m0]) (by show F0 m 9 ls (va_rf (FR 0) :: _) = _; rw [hF]; rfl) ?_
  refine lv_aload_n hx hb dX1_remember_9 rfl (lv_at hl 1 rfl) ?_
  have hPc := hP.sub (ws' := [(m0, .inr (4, [x0, .ref m1, .ref m3, .ref m4, .ref m5, .ref m6, x6, x7, x8, x9, x10, x11, x12, x13, x14, x15, x16, x17, x18, x19])), (m1, .inr (6, [.ref m2, .int n2, .int k2])), (m2, .inl (cA 0, 240, .inl q2)), (m3, .inl (cA 0, 10, .inl q3)), (m4, .inl (cA 0, 10, .inl q4)), (m5, .inl (cA 0, 10, .inl q5)), (m6, .inl (cA 0, 10, .inl q6)), (a0, .inr (4, [.ref p0, .ref a1, .ref a3, .ref a4, .ref a5, .ref a6, .int 0, .int 0, .int 0, .long 0, .long 0, .long 0, .int 0, .int 0, .int 0, .int 0, .int 365, .int 0, .int 0, .int 0])), (a1, .inr (6, [.ref a2, .int 0, .int 0])), (a2, .inl (cA 0, 240, .inl e2)), (a3, .inl (cA 0, 10, .inl e3)), (a4, .inl (cA 0, 10, .inl e4)), (a5, .inl (cA 0, 10, .inl e5)), (a6, .inl (cA 0, 10, .inl e6))]) [2, 3, 4, 5, 6, 7, 8, 9, 10, 11, 12, 13, 14, 15] rfl
  have hDc := hD.sub (ws' := [(m0, .inr (4, [x0, .ref m1, .ref m3, .ref m4, .ref m5, .ref m6, x6, x7, x8, x9, x10, x11, x12, x13, x14, x15, x16, x17, x18, x19])), (m1, .inr (6, [.ref m2, .int n2, .int k2])), (m2, .inl (cA 0, 240, .inl q2)), (m3, .inl (cA 0, 10, .inl q3)), (m4, .inl (cA 0, 10, .inl q4)), (m5, .inl (cA 0, 10, .inl q5)), (m6, .inl (cA 0, 10, .inl q6)), (a0, .inr (4, [.ref p0, .ref a1, .ref a3, .ref a4, .ref a5, .ref a6, .int 0, .int 0, .int 0, .long 0, .long 0, .long 0, .int 0, .int 0, .int 0, .int 0, .int 365, .int 0, .int 0, .int 0])), (a1, .inr (6, [.ref a2, .int 0, .int 0])), (a2, .inl (cA 0, 240, .inl e2)), (a3, .inl (cA 0, 10, .inl e3)), (a4, .inl (cA 0, 10, .inl e4)), (a5, .inl (cA 0, 10, .inl e5)), (a6, .inl (cA 0, 10, .inl e6))]) [2, 3, 4, 5, 6, 7, 8, 9, 10, 11, 12, 13, 14, 15] (by decide) rfl
  have hFc := va_free (wc := [(m0, .inr (4, [x0, .ref m1, .ref m3, .ref m4, .ref m5, .ref m6, x6, x7, x8, x9, x10, x11, x12, x13, x14, x15, x16, x17, x18, x19])), (m1, .inr (6, [.ref m2, .int n2, .int k2])), (m2, .inl (cA 0, 240, .inl q2)), (m3, .inl (cA 0, 10, .inl q3)), (m4, .inl (cA 0, 10, .inl q4)), (m5, .inl (cA 0, 10, .inl q5)), (m6, .inl (cA 0, 10, .inl q6)), (a0, .inr (4, [.ref p0, .ref a1, .ref a3, .ref a4, .ref a5, .ref a6, .int 0, .int 0, .int 0, .long 0, .long 0, .long 0, .int 0, .int 0, .int 0, .int 0, .int 365, .int 0, .int 0, .int 0])), (a1, .inr (6, [.ref a2, .int 0, .int 0])), (a2, .inl (cA 0, 240, .inl e2)), (a3, .inl (cA 0, 10, .inl e3)), (a4, .inl (cA 0, 10, .inl e4)), (a5, .inl (cA 0, 10, .inl e5)), (a6, .inl (cA 0, 10, .inl e6))]) hD hS hA [2, 3, 4, 5, 6, 7, 8, 9, 10, 11, 12, 13, 14, 15] rfl
  refine va_callv (va_runV (As := [.ref a0]) (rest := []) ⟨hx, hb, hml, hown, hts⟩ (c_X0_copyFrom l D cA sa m0 m1 m2 m3 m4 m5 m6 a0 a1 a2 a3 a4 a5 a6 p0 x0 x6 x7 x8 x9 x10 x11 x12 x13 x14 x15 x16 x17 x18 x19 n2 k2 0 0 0 0 0 0 0 0 0 365 0 0 0 0 0 0 q2 q3 q4 q5 q6 e2 e3 e4 e5 e6 s.heap.size) (cwV 1 hts gX1_remember_X0_copyFrom rfl rfl rfl (by decide +kernel) ⟨(Nat.le_of_ble_eq_true rfl), (Nat.le_of_ble_eq_true rfl)⟩) ⟨Wd.blind, va_recv hK hPc (ci := 4) (q0 := 0) rfl rfl, fun U hU hW => ⟨rfl, Wd.call hPc hDc hK hC hZ hS hFc U hU hW⟩⟩ rfl rfl hl.1 rfl (lv_room (Nat.le_of_ble_eq_true rfl)) dX1_remember_10 ⟨(Nat.le_of_ble_eq_true rfl), (Nat.le_of_ble_eq_true rfl)⟩) hS (fun q _ h => hFc q h) hFc (fun u t H1 locs ht hvm hw hB hz1 hk1 hS => ?_)
  obtain ⟨fn1, fn2, fn3, fn4, fn5, hP1, hD1⟩ := hB
  rw [ht] at hP1
  obtain ⟨hP, hD⟩ := va_join (wr := [(s0, .inr (5, [.ref s1, .int 0, .int 0])), (s1, .inl (cA 5, 10, .inr (.inr (.inr (.inr FR)))))]) (w1 := [(m0, .inr (4, [.ref p0, .ref m1, .ref m3, .ref m4, .ref m5, .ref m6, .int 0, .int 0, .int 0, .long 0, .long 0, .long 0, .int 0, .int 0, .int 0, .int 0, .int 365, .int 0, .int 0, .int 0])), (m1, .inr (6, [.ref m2, .int 0, .int 0])), (m2, .inl (cA 0, 240, .inl fn1)), (m3, .inl (cA 0, 10, .inl fn2)), (m4, .inl (cA 0, 10, .inl fn3)), (m5, .inl (cA 0, 10, .inl fn4)), (m6, .inl (cA 0, 10, .inl fn5)), (a0, .inr (4, [.ref p0, .ref a1, .ref a3, .ref a4, .ref a5, .ref a6, .int 0, .int 0, .int 0, .long 0, .long 0, .long 0, .int 0, .int 0, .int 0, .int 0, .int 365, .int 0, .int 0, .int 0])), (a1, .inr (6, [.ref a2, .int 0, .int 0])), (a2, .inl (cA 0, 240, .inl e2)), (a3, .inl (cA 0, 10, .inl e3)), (a4, .inl (cA 0, 10, .inl e4)), (a5, .inl (cA 0, 10, .inl e5)), (a6, .inl (cA 0, 10, .inl e6))]) hP hD [2, 3, 4, 5, 6, 7, 8, 9, 10, 11, 12, 13, 14, 15] [0, 1] rfl rfl (by decide) (by decide) hk1 hFc hP1 hD1
  generalize H1 = H at hP hS ⊢
  have hP : va_P D vwCl [(s0, .inr (5, [.ref s1, .int 0, .int 0])), (s1, .inl (cA 5, 10, .inr (.inr (.inr (.inr FR))))), (m0, .inr (4, [.ref p0, .ref m1, .ref m3, .ref m4, .ref m5, .ref m6, .int 0, .int 0, .int 0, .long 0, .long 0, .long 0, .int 0, .int 0, .int 0, .int 0, .int 365, .int 0, .int 0, .int 0])), (m1, .inr (6, [.ref m2, .int 0, .int 0])), (m2, .inl (cA 0, 240, .inl fn1)), (m3, .inl (cA 0, 10, .inl fn2)), (m4, .inl (cA 0, 10, .inl fn3)), (m5, .inl (cA 0, 10, .inl fn4)), (m6, .inl (cA 0, 10, .inl fn5)), (a0, .inr (4, [.ref p0, .ref a1, .ref a3, .ref a4, .ref a5, .ref a6, .int 0, .int 0, .int 0, .long 0, .long 0, .long 0, .int 0, .int 0, .int 0, .int 0, .int 365, .int 0, .int 0, .int 0])), (a1, .inr (6, [.ref a2, .int 0, .int 0])), (a2, .inl (cA 0, 240, .inl e2)), (a3, .inl (cA 0, 10, .inl e3)), (a4, .inl (cA 0, 10, .inl e4)), (a5, .inl (cA 0, 10, .inl e5)), (a6, .inl (cA 0, 10, .inl e6))] H := hP
  have hD : va_D A [(s0, .inr (5, [.ref s1, .int 0, .int 0])), (s1, .inl (cA 5, 10, .inr (.inr (.inr (.inr FR))))), (m0, .inr (4, [.ref p0, .ref m1, .ref m3, .ref m4, .ref m5, .ref m6, .int 0, .int 0, .int 0, .long 0, .long 0, .long 0, .int 0, .int 0, .int 0, .int 0, .int 365, .int 0, .int 0, .int 0])), (m1, .inr (6, [.ref m2, .int 0, .int 0])), (m2, .inl (cA 0, 240, .inl fn1)), (m3, .inl (cA 0, 10, .inl fn2)), (m4, .inl (cA 0, 10, .inl fn3)), (m5, .inl (cA 0, 10, .inl fn4)), (m6, .inl (cA 0, 10, .inl fn5)), (a0, .inr (4, [.ref p0, .ref a1, .ref a3, .ref a4, .ref a5, .ref a6, .int 0, .int 0, .int 0, .long 0, .long 0, .long 0, .int 0, .int 0, .int 0, .int 0, .int 365, .int 0, .int 0, .int 0])), (a1, .inr (6, [.ref a2, .int 0, .int 0])), (a2, .inl (cA 0, 240, .inl e2)), (a3, .inl (cA 0, 10, .inl e3)), (a4, .inl (cA 0, 10, .inl e4)), (a5, .inl (cA 0, 10, .inl e5)), (a6, .inl (cA 0, 10, .inl e6))] := hD
  refine lv_aload_n hx hb dX1_remember_13 rfl (lv_at hl 0 rfl) ?_
  refine lv_aload_n hx hb dX1_remember_14 rfl (lv_at hl 0 rfl) ?_
  refine va_get (D := D) (ci := 5) (v := .int 0) (C := RX1) (T := TX1) (N := 3) hx hb hts inX1 hown hK hP 0 rfl rfl 1 (by decide) (hts (.fieldLink RX1 20 "EscrowDesk$History" "next" "I") (by decide +kernel)) (fun _ h9 => h9) rfl dX1_remember_15 ?_
  refine lv_iconst (v := 1) hx hb dX1_remember_18 (by decide) ?_
  refine lv_iadd hx hb dX1_remember_19 ?_
  refine lv_topi (fun yn6 eyn6 => ?_)
  obtain rfl : yn6 = 1 := eyn6.trans (by first | rfl | decide +kernel)
  refine lv_bipush (v := 10) hx hb dX1_remember_20 (by decide) ?_
  refine lv_irem hx hb dX1_remember_22 (by decide) ?_
  refine lv_topi (fun yn7 eyn7 => ?_)
  obtain rfl : yn7 = 1 := eyn7.trans (by first | rfl | decide +kernel)
  refine va_put (D := D) (ci := 5) (v := .int 1) (ty := .int) (C := RX1) (T := TX1) (N := 3) hx hb hts inX1 tyX1 tyX1_ok nmX1 hown hK hP hD hS 0 rfl rfl 1 (by decide) (hts (.fieldLink RX1 20 "EscrowDesk$History" "next" "I") (by decide +kernel)) (fun _ h9 => h9) rfl (by decide +kernel) rfl rfl (Nat.le_of_ble_eq_true rfl) dX1_remember_23 (fun H locs hP hD hS => ?_)
  have hP : va_P D vwCl [(s0, .inr (5, [.ref s1, .int 1, .int 0])), (s1, .inl (cA 5, 10, .inr (.inr (.inr (.inr FR))))), (m0, .inr (4, [.ref p0, .ref m1, .ref m3, .ref m4, .ref m5, .ref m6, .int 0, .int 0, .int 0, .long 0, .long 0, .long 0, .int 0, .int 0, .int 0, .int 0, .int 365, .int 0, .int 0, .int 0])), (m1, .inr (6, [.ref m2, .int 0, .int 0])), (m2, .inl (cA 0, 240, .inl fn1)), (m3, .inl (cA 0, 10, .inl fn2)), (m4, .inl (cA 0, 10, .inl fn3)), (m5, .inl (cA 0, 10, .inl fn4)), (m6, .inl (cA 0, 10, .inl fn5)), (a0, .inr (4, [.ref p0, .ref a1, .ref a3, .ref a4, .ref a5, .ref a6, .int 0, .int 0, .int 0, .long 0, .long 0, .long 0, .int 0, .int 0, .int 0, .int 0, .int 365, .int 0, .int 0, .int 0])), (a1, .inr (6, [.ref a2, .int 0, .int 0])), (a2, .inl (cA 0, 240, .inl e2)), (a3, .inl (cA 0, 10, .inl e3)), (a4, .inl (cA 0, 10, .inl e4)), (a5, .inl (cA 0, 10, .inl e5)), (a6, .inl (cA 0, 10, .inl e6))] H := hP
  have hD : va_D A [(s0, .inr (5, [.ref s1, .int 1, .int 0])), (s1, .inl (cA 5, 10, .inr (.inr (.inr (.inr FR))))), (m0, .inr (4, [.ref p0, .ref m1, .ref m3, .ref m4, .ref m5, .ref m6, .int 0, .int 0, .int 0, .long 0, .long 0, .long 0, .int 0, .int 0, .int 0, .int 0, .int 365, .int 0, .int 0, .int 0])), (m1, .inr (6, [.ref m2, .int 0, .int 0])), (m2, .inl (cA 0, 240, .inl fn1)), (m3, .inl (cA 0, 10, .inl fn2)), (m4, .inl (cA 0, 10, .inl fn3)), (m5, .inl (cA 0, 10, .inl fn4)), (m6, .inl (cA 0, 10, .inl fn5)), (a0, .inr (4, [.ref p0, .ref a1, .ref a3, .ref a4, .ref a5, .ref a6, .int 0, .int 0, .int 0, .long 0, .long 0, .long 0, .int 0, .int 0, .int 0, .int 0, .int 365, .int 0, .int 0, .int 0])), (a1, .inr (6, [.ref a2, .int 0, .int 0])), (a2, .inl (cA 0, 240, .inl e2)), (a3, .inl (cA 0, 10, .inl e3)), (a4, .inl (cA 0, 10, .inl e4)), (a5, .inl (cA 0, 10, .inl e5)), (a6, .inl (cA 0, 10, .inl e6))] := hD
  refine lv_aload_n hx hb dX1_remember_26 rfl (lv_at hl 0 rfl) ?_
  refine lv_aload_n hx hb dX1_remember_27 rfl (lv_at hl 0 rfl) ?_
  refine va_get (D := D) (ci := 5) (v := .int 0) (C := RX1) (T := TX1) (N := 3) hx hb hts inX1 hown hK hP 0 rfl rfl 2 (by decide) (hts (.fieldLink RX1 28 "EscrowDesk$History" "count" "I") (by decide +kernel)) (fun _ h9 => h9) rfl dX1_remember_28 ?_
  refine lv_iconst (v := 1) hx hb dX1_remember_31 (by decide) ?_
  refine lv_iadd hx hb dX1_remember_32 ?_
  refine lv_topi (fun yn8 eyn8 => ?_)
  obtain rfl : yn8 = 1 := eyn8.trans (by first | rfl | decide +kernel)
  refine lv_bipush (v := 10) hx hb dX1_remember_33 (by decide) ?_
  refine va_mmin hx hb (by rw [hml]; exact hl.1.symm) hown (hts (.methodLink RX1 31 Lib.Math.min.name) (by decide +kernel)) (hts (.static Lib.Math.min.name) (by decide +kernel)) (hts (.initialized "java/lang/Math") (by decide +kernel)) (hts (.code Lib.Math.min.name Lib.Math.min.code 2 (some .int)) (by decide +kernel)) (Nat.le_of_ble_eq_true rfl) (Nat.le_of_ble_eq_true rfl) (Nat.le_of_ble_eq_true rfl) (Nat.le_of_ble_eq_true rfl) dX1_remember_35 ?_
  refine lv_topi (fun yn9 eyn9 => ?_)
  obtain rfl : yn9 = 1 := eyn9.trans (by first | rfl | decide +kernel)
  refine va_put (D := D) (ci := 5) (v := .int 1) (ty := .int) (C := RX1) (T := TX1) (N := 3) hx hb hts inX1 tyX1 tyX1_ok nmX1 hown hK hP hD hS 0 rfl rfl 2 (by decide) (hts (.fieldLink RX1 28 "EscrowDesk$History" "count" "I") (by decide +kernel)) (fun _ h9 => h9) rfl (by decide +kernel) rfl rfl (Nat.le_of_ble_eq_true rfl) dX1_remember_38 (fun H locs hP hD hS => ?_)
  have hP : va_P D vwCl [(s0, .inr (5, [.ref s1, .int 1, .int 1])), (s1, .inl (cA 5, 10, .inr (.inr (.inr (.inr FR))))), (m0, .inr (4, [.ref p0, .ref m1, .ref m3, .ref m4, .ref m5, .ref m6, .int 0, .int 0, .int 0, .long 0, .long 0, .long 0, .int 0, .int 0, .int 0, .int 0, .int 365, .int 0, .int 0, .int 0])), (m1, .inr (6, [.ref m2, .int 0, .int 0])), (m2, .inl (cA 0, 240, .inl fn1)), (m3, .inl (cA 0, 10, .inl fn2)), (m4, .inl (cA 0, 10, .inl fn3)), (m5, .inl (cA 0, 10, .inl fn4)), (m6, .inl (cA 0, 10, .inl fn5)), (a0, .inr (4, [.ref p0, .ref a1, .ref a3, .ref a4, .ref a5, .ref a6, .int 0, .int 0, .int 0, .long 0, .long 0, .long 0, .int 0, .int 0, .int 0, .int 0, .int 365, .int 0, .int 0, .int 0])), (a1, .inr (6, [.ref a2, .int 0, .int 0])), (a2, .inl (cA 0, 240, .inl e2)), (a3, .inl (cA 0, 10, .inl e3)), (a4, .inl (cA 0, 10, .inl e4)), (a5, .inl (cA 0, 10, .inl e5)), (a6, .inl (cA 0, 10, .inl e6))] H := hP
  have hD : va_D A [(s0, .inr (5, [.ref s1, .int 1, .int 1])), (s1, .inl (cA 5, 10, .inr (.inr (.inr (.inr FR))))), (m0, .inr (4, [.ref p0, .ref m1, .ref m3, .ref m4, .ref m5, .ref m6, .int 0, .int 0, .int 0, .long 0, .long 0, .long 0, .int 0, .int 0, .int 0, .int 0, .int 365, .int 0, .int 0, .int 0])), (m1, .inr (6, [.ref m2, .int 0, .int 0])), (m2, .inl (cA 0, 240, .inl fn1)), (m3, .inl (cA 0, 10, .inl fn2)), (m4, .inl (cA 0, 10, .inl fn3)), (m5, .inl (cA 0, 10, .inl fn4)), (m6, .inl (cA 0, 10, .inl fn5)), (a0, .inr (4, [.ref p0, .ref a1, .ref a3, .ref a4, .ref a5, .ref a6, .int 0, .int 0, .int 0, .long 0, .long 0, .long 0, .int 0, .int 0, .int 0, .int 0, .int 365, .int 0, .int 0, .int 0])), (a1, .inr (6, [.ref a2, .int 0, .int 0])), (a2, .inl (cA 0, 240, .inl e2)), (a3, .inl (cA 0, 10, .inl e3)), (a4, .inl (cA 0, 10, .inl e4)), (a5, .inl (cA 0, 10, .inl e5)), (a6, .inl (cA 0, 10, .inl e6))] := hD
  have hP9 := hP.sub (ws' := [(a0, .inr (4, [.ref p0, .ref a1, .ref a3, .ref a4, .ref a5, .ref a6, .int 0, .int 0, .int 0, .long 0, .long 0, .long 0, .int 0, .int 0, .int 0, .int 0, .int 365, .int 0, .int 0, .int 0])), (a1, .inr (6, [.ref a2, .int 0, .int 0])), (a2, .inl (cA 0, 240, .inl e2)), (a3, .inl (cA 0, 10, .inl e3)), (a4, .inl (cA 0, 10, .inl e4)), (a5, .inl (cA 0, 10, .inl e5)), (a6, .inl (cA 0, 10, .inl e6))]) [9, 10, 11, 12, 13, 14, 15] rfl
  have hD9 := hD.sub (ws' := [(a0, .inr (4, [.ref p0, .ref a1, .ref a3, .ref a4, .ref a5, .ref a6, .int 0, .int 0, .int 0, .long 0, .long 0, .long 0, .int 0, .int 0, .int 0, .int 0, .int 365, .int 0, .int 0, .int 0])), (a1, .inr (6, [.ref a2, .int 0, .int 0])), (a2, .inl (cA 0, 240, .inl e2)), (a3, .inl (cA 0, 10, .inl e3)), (a4, .inl (cA 0, 10, .inl e4)), (a5, .inl (cA 0, 10, .inl e5)), (a6, .inl (cA 0, 10, .inl e6))]) [9, 10, 11, 12, 13, 14, 15] (by decide) rfl
  refine W.widen (k := 0) (n := 0) (Nat.le_of_ble_eq_true rfl) (Nat.le_of_ble_eq_true rfl) ?_
  exact W.vret hx hb hr (fun t ht hW => ⟨⟨(), rfl, trivial, by rw [ht]; exact hP9, hD9⟩, hS.F ht⟩) hS.2.2 dX1_remember_41

set_option maxHeartbeats 4000000 in
set_option maxRecDepth 100000 in
/-- takeDeposit(a) -/
theorem c_takeDeposit (l : Launch) (D : va_G) (cA : Nat → ClassId) (sa : Nat → Nat) (a0 p0 a1 a3 a4 a5 a6 a2 : Nat) (a : Int32) (e2 : Nat → Int32) (sz : Nat) (h : 0 < a) : Met l yX0_takeDeposit wsX0_takeDeposit ({ frames := 2, cells := 0, slots := 0, locals := 46 }) (va_Pc [.ref a0, .int a] (Wd D cA sa [(a0, .inr (4, [.ref p0, .ref a1, .ref a3, .ref a4, .ref a5, .ref a6, .int 0, .int 0, .int 0, .long 0, .long 0, .long 0, .int 0, .int 0, .int 0, .int 0, .int 365, .int 0, .int 0, .int 0])), (a1, .inr (6, [.ref a2, .int 0, .int 0])), (a2, .inl (cA 0, 240, .inl e2))] sz)) (va_Qv (fun _ : Unit => True) (fun (_ : Unit) t => ∃ fn3 : Nat → Int32, Wq D (va_A [(a0, .inr (4, [.ref p0, .ref a1, .ref a3, .ref a4, .ref a5, .ref a6, .int 0, .int 0, .int 0, .long 0, .long 0, .long 0, .int 0, .int 0, .int 0, .int 0, .int 365, .int 0, .int 0, .int 0])), (a1, .inr (6, [.ref a2, .int 0, .int 0])), (a2, .inl (cA 0, 240, .inl e2))] sz) [(a0, .inr (4, [.ref p0, .ref a1, .ref a3, .ref a4, .ref a5, .ref a6, .int 0, .int (0 + a), .int (0 + a), .long 0, .long 0, .long 0, .int 0, .int 0, .int 0, .int 0, .int 365, .int 0, .int 0, .int 0])), (a1, .inr (6, [.ref a2, .int 1, .int 1])), (a2, .inl (cA 0, 240, .inl fn3))] t) (va_A [(a0, .inr (4, [.ref p0, .ref a1, .ref a3, .ref a4, .ref a5, .ref a6, .int 0, .int 0, .int 0, .long 0, .long 0, .long 0, .int 0, .int 0, .int 0, .int 0, .int 365, .int 0, .int 0, .int 0])), (a1, .inr (6, [.ref a2, .int 0, .int 0])), (a2, .inl (cA 0, 240, .inl e2))] sz)) 0 0 (va_A [(a0, .inr (4, [.ref p0, .ref a1, .ref a3, .ref a4, .ref a5, .ref a6, .int 0, .int 0, .int 0, .long 0, .long 0, .long 0, .int 0, .int 0, .int 0, .int 0, .int 365, .int 0, .int 0, .int 0])), (a1, .inr (6, [.ref a2, .int 0, .int 0])), (a2, .inl (cA 0, 240, .inl e2))] sz) := by
  refine Met.ofW (cc := cX0_takeDeposit) (maxL := 2) (ret := none) (by decide) rfl ?_
  intro p e s m args below meth c s₁ B hml hv
  obtain ⟨rfl, hsz, hP, hK, hD0, hC, hZ⟩ := hv
  have hx := B.exec
  have hb := B.bytes
  have hr := B.returns
  have hts := atoms_spec (ws := wsX0_takeDeposit) B.pre
  have hown : s.vm.findClass RX0 = some m.cls := findClass_of_methodNamed B.named
  have hlocks := B.notSynchronized
  subst hsz
  have hD := hD0.self (sz := s.heap.size)
  generalize hAe : va_A [(a0, .inr (4, [.ref p0, .ref a1, .ref a3, .ref a4, .ref a5, .ref a6, .int 0, .int 0, .int 0, .long 0, .long 0, .long 0, .int 0, .int 0, .int 0, .int 0, .int 365, .int 0, .int 0, .int 0])), (a1, .inr (6, [.ref a2, .int 0, .int 0])), (a2, .inl (cA 0, 240, .inl e2))] s.heap.size = A at hD hZ ⊢
  have hA : ∀ q : Nat, s.heap.size ≤ q → A q := fun q h => by rw [← hAe]; exact Or.inr h
  have hS : va_S A s.heap s.heap [] := va_S.rf
  have hP : va_P D vwCl [(a0, .inr (4, [.ref p0, .ref a1, .ref a3, .ref a4, .ref a5, .ref a6, .int 0, .int 0, .int 0, .long 0, .long 0, .long 0, .int 0, .int 0, .int 0, .int 0, .int 365, .int 0, .int 0, .int 0])), (a1, .inr (6, [.ref a2, .int 0, .int 0])), (a2, .inl (cA 0, 240, .inl e2))] s.heap := hP
  have hl := lv_entry ([.ref a0, .int a]) (n := 2) (Nat.le_of_ble_eq_true rfl)
  rw [lg_entry_eq]
  generalize (lg_sl ([.ref a0, .int a]) ++ List.replicate (2 - (lg_sl ([.ref a0, .int a])).length) Slot.unset).toArray = ls at hl ⊢
  have hl : lv_has ls 2 [(0, .ref a0), (1, .int a)] := hl
  have inX0 : ∀ w ∈ u_ws RX0 TX0 20, w ∈ wsX0_takeDeposit := by decide +kernel
  refine lv_aload_n hx hb dX0_takeDeposit_0 rfl (lv_at hl 0 rfl) ?_
  refine lv_dup hx hb dX0_takeDeposit_1 rfl ?_
  refine va_get (D := D) (ci := 4) (v := .int 0) (C := RX0) (T := TX0) (N := 20) hx hb hts inX0 hown hK hP 0 rfl rfl 7 (by decide) (hts (.fieldLink RX0 44 "EscrowDesk$Account" "deposited" "I") (by decide +kernel)) (fun _ h9 => h9) rfl dX0_takeDeposit_2 ?_
  refine lv_iload_n hx hb dX0_takeDeposit_5 rfl (lv_at hl 1 rfl) ?_
  refine lv_iadd hx hb dX0_takeDeposit_6 ?_
  refine va_put (D := D) (ci := 4) (v := .int (0 + a)) (ty := .int) (C := RX0) (T := TX0) (N := 20) hx hb hts inX0 tyX0 tyX0_ok nmX0 hown hK hP hD hS 0 rfl rfl 7 (by decide) (hts (.fieldLink RX0 44 "EscrowDesk$Account" "deposited" "I") (by decide +kernel)) (fun _ h9 => h9) rfl (by decide +kernel) rfl rfl (Nat.le_of_ble_eq_true rfl) dX0_takeDeposit_7 (fun H locs hP hD hS => ?_)
  have hP : va_P D vwCl [(a0, .inr (4, [.ref p0, .ref a1, .ref a3, .ref a4, .ref a5, .ref a6, .int 0, .int (0 + a), .int 0, .long 0, .long 0, .long 0, .int 0, .int 0, .int 0, .int 0, .int 365, .int 0, .int 0, .int 0])), (a1, .inr (6, [.ref a2, .int 0, .int 0])), (a2, .inl (cA 0, 240, .inl e2))] H := hP
  have hD : va_D A [(a0, .inr (4, [.ref p0, .ref a1, .ref a3, .ref a4, .ref a5, .ref a6, .int 0, .int (0 + a), .int 0, .long 0, .long 0, .long 0, .int 0, .int 0, .int 0, .int 0, .int 365, .int 0, .int 0, .int 0])), (a1, .inr (6, [.ref a2, .int 0, .int 0])), (a2, .inl (cA 0, 240, .inl e2))] := hD
  refine lv_aload_n hx hb dX0_takeDeposit_10 rfl (lv_at hl 0 rfl) ?_
  refine lv_dup hx hb dX0_takeDeposit_11 rfl ?_
  refine va_get (D := D) (ci := 4) (v := .int 0) (C := RX0) (T := TX0) (N := 20) hx hb hts inX0 hown hK hP 0 rfl rfl 8 (by decide) (hts (.fieldLink RX0 47 "EscrowDesk$Account" "principal" "I") (by decide +kernel)) (fun _ h9 => h9) rfl dX0_takeDeposit_12 ?_
  refine lv_iload_n hx hb dX0_takeDeposit_15 rfl (lv_at hl 1 rfl) ?_
  refine lv_iadd hx hb dX0_takeDeposit_16 ?_
  refine va_put (D := D) (ci := 4) (v := .int (0 + a)) (ty := .int) (C := RX0) (T := TX0) (N := 20) hx hb hts inX0 tyX0 tyX0_ok nmX0 hown hK hP hD hS 0 rfl rfl 8 (by decide) (hts (.fieldLink RX0 47 "EscrowDesk$Account" "principal" "I") (by decide +kernel)) (fun _ h9 => h9) rfl (by decide +kernel) rfl rfl (Nat.le_of_ble_eq_true rfl) dX0_takeDeposit_17 (fun H locs hP hD hS => ?_)
  have hP : va_P D vwCl [(a0, .inr (4, [.ref p0, .ref a1, .ref a3, .ref a4, .ref a5, .ref a6, .int 0, .int (0 + a), .int (0 + a), .long 0, .long 0, .long 0, .int 0, .int 0, .int 0, .int 0, .int 365, .int 0, .int 0, .int 0])), (a1, .inr (6, [.ref a2, .int 0, .int 0])), (a2, .inl (cA 0, 240, .inl e2))] H := hP
  have hD : va_D A [(a0, .inr (4, [.ref p0, .ref a1, .ref a3, .ref a4, .ref a5, .ref a6, .int 0, .int (0 + a), .int (0 + a), .long 0, .long 0, .long 0, .int 0, .int 0, .int 0, .int 0, .int 365, .int 0, .int 0, .int 0])), (a1, .inr (6, [.ref a2, .int 0, .int 0])), (a2, .inl (cA 0, 240, .inl e2))] := hD
  refine lv_aload_n hx hb dX0_takeDeposit_20 rfl (lv_at hl 0 rfl) ?_
  refine va_get (D := D) (ci := 4) (v := .ref a1) (C := RX0) (T := TX0) (N := 20) hx hb hts inX0 hown hK hP 0 rfl rfl 1 (by decide) (hts (.fieldLink RX0 12 "EscrowDesk$Account" "ledger" "LEscrowDesk$Ledger;") (by decide +kernel)) (fun _ h9 => h9) rfl dX0_takeDeposit_21 ?_
  refine lv_iconst (v := 0) hx hb dX0_takeDeposit_24 (by decide) ?_
  refine lv_aload_n hx hb dX0_takeDeposit_25 rfl (lv_at hl 0 rfl) ?_
  refine va_get (D := D) (ci := 4) (v := .int 0) (C := RX0) (T := TX0) (N := 20) hx hb hts inX0 hown hK hP 0 rfl rfl 6 (by decide) (hts (.fieldLink RX0 40 "EscrowDesk$Account" "day" "I") (by decide +kernel)) (fun _ h9 => h9) rfl dX0_takeDeposit_26 ?_
  refine lv_iload_n hx hb dX0_takeDeposit_29 rfl (lv_at hl 1 rfl) ?_
  refine lv_iconst (v := (-1)) hx hb dX0_takeDeposit_30 (by decide) ?_
  have hPc := hP.sub (ws' := [(a1, .inr (6, [.ref a2, .int 0, .int 0])), (a2, .inl (cA 0, 240, .inl e2))]) [1, 2] rfl
  have hDc := hD.sub (ws' := [(a1, .inr (6, [.ref a2, .int 0, .int 0])), (a2, .inl (cA 0, 240, .inl e2))]) [1, 2] (by decide) rfl
  have hFc := va_free (wc := [(a1, .inr (6, [.ref a2, .int 0, .int 0])), (a2, .inl (cA 0, 240, .inl e2))]) hD hS hA [1, 2] rfl
  refine va_callv (va_runV (As := [.int 0, .int 0, .int a, .int (-1)]) (rest := []) ⟨hx, hb, hml, hown, hts⟩ (c_enter1 l D cA sa a1 a2 0 0 a (-1) e2 H.size h) (cwV 4 hts gX0_takeDeposit_X2_enter rfl rfl rfl (by decide +kernel) ⟨(Nat.le_of_ble_eq_true rfl), (Nat.le_of_ble_eq_true rfl)⟩) ⟨Wd.blind, va_recv hK hPc (ci := 6) (q0 := 0) rfl rfl, fun U hU hW => ⟨rfl, Wd.call hPc hDc hK hC hZ hS hFc U hU hW⟩⟩ rfl rfl hl.1 rfl (lv_room (Nat.le_of_ble_eq_true rfl)) dX0_takeDeposit_31 ⟨(Nat.le_of_ble_eq_true rfl), (Nat.le_of_ble_eq_true rfl)⟩) hS (fun q _ h => hFc q h) hFc (fun u t H1 locs ht hvm hw hB hz1 hk1 hS => ?_)
  obtain ⟨fn3, hP1, hD1⟩ := hB
  rw [ht] at hP1
  obtain ⟨hP, hD⟩ := va_join (wr := [(a0, .inr (4, [.ref p0, .ref a1, .ref a3, .ref a4, .ref a5, .ref a6, .int 0, .int (0 + a), .int (0 + a), .long 0, .long 0, .long 0, .int 0, .int 0, .int 0, .int 0, .int 365, .int 0, .int 0, .int 0]))]) (w1 := [(a1, .inr (6, [.ref a2, .int 1, .int 1])), (a2, .inl (cA 0, 240, .inl fn3))]) hP hD [1, 2] [0] rfl rfl (by decide) (by decide) hk1 hFc hP1 hD1
  generalize H1 = H at hP hS ⊢
  have hP : va_P D vwCl [(a0, .inr (4, [.ref p0, .ref a1, .ref a3, .ref a4, .ref a5, .ref a6, .int 0, .int (0 + a), .int (0 + a), .long 0, .long 0, .long 0, .int 0, .int 0, .int 0, .int 0, .int 365, .int 0, .int 0, .int 0])), (a1, .inr (6, [.ref a2, .int 1, .int 1])), (a2, .inl (cA 0, 240, .inl fn3))] H := hP
  have hD : va_D A [(a0, .inr (4, [.ref p0, .ref a1, .ref a3, .ref a4, .ref a5, .ref a6, .int 0, .int (0 + a), .int (0 + a), .long 0, .long 0, .long 0, .int 0, .int 0, .int 0, .int 0, .int 365, .int 0, .int 0, .int 0])), (a1, .inr (6, [.ref a2, .int 1, .int 1])), (a2, .inl (cA 0, 240, .inl fn3))] := hD
  have hP9 := hP.sub (ws' := [(a0, .inr (4, [.ref p0, .ref a1, .ref a3, .ref a4, .ref a5, .ref a6, .int 0, .int (0 + a), .int (0 + a), .long 0, .long 0, .long 0, .int 0, .int 0, .int 0, .int 0, .int 365, .int 0, .int 0, .int 0])), (a1, .inr (6, [.ref a2, .int 1, .int 1])), (a2, .inl (cA 0, 240, .inl fn3))]) [0, 1, 2] rfl
  have hD9 := hD.sub (ws' := [(a0, .inr (4, [.ref p0, .ref a1, .ref a3, .ref a4, .ref a5, .ref a6, .int 0, .int (0 + a), .int (0 + a), .long 0, .long 0, .long 0, .int 0, .int 0, .int 0, .int 0, .int 365, .int 0, .int 0, .int 0])), (a1, .inr (6, [.ref a2, .int 1, .int 1])), (a2, .inl (cA 0, 240, .inl fn3))]) [0, 1, 2] (by decide) rfl
  refine W.widen (k := 0) (n := 0) (Nat.le_of_ble_eq_true rfl) (Nat.le_of_ble_eq_true rfl) ?_
  exact W.vret hx hb hr (fun t ht hW => ⟨⟨(), rfl, trivial, fn3, by rw [ht]; exact hP9, hD9⟩, hS.F ht⟩) hS.2.2 dX0_takeDeposit_34

set_option maxHeartbeats 4000000 in
set_option maxRecDepth 100000 in
/-- deposit within -/
theorem c_deposit_ret (l : Launch) (D : va_G) (cA : Nat → ClassId) (sa : Nat → Nat) (h0 b0 p0 u0 r0 a0 t0 s0 o0 s1 m0 m1 m2 m3 m4 m5 m6 a1 a2 a3 a4 a5 a6 p1 p2 p3 p4 p5 p6 p7 p8 p9 : Nat) (x0 x6 x7 x8 x9 x10 x11 x12 x13 x14 x15 x16 x17 x18 x19 : Value) (n2 k2 : Int32) (q2 q3 q4 q5 q6 e2 e3 e4 e5 e6 : Nat → Int32) (FR : Nat → Option Nat) (a : Int32) (sz : Nat) (hF : FR 0 = some m0) (h1 : ¬ a < 1) (h2 : ¬ 99999 < a) : Met l yX9_deposit wsX9_deposit ({ frames := 4, cells := 0, slots := 0, locals := 123 }) (va_Pc [.ref h0, .int a] (Wd D cA sa [(h0, .inr (10, [.ref b0, .int 0, .ref p0, .ref u0, .ref r0, .ref a0, .ref t0, .ref s0, .ref o0])), (s0, .inr (5, [.ref s1, .int 0, .int 0])), (s1, .inl (cA 5, 10, .inr (.inr (.inr (.inr FR))))), (m0, .inr (4, [x0, .ref m1, .ref m3, .ref m4, .ref m5, .ref m6, x6, x7, x8, x9, x10, x11, x12, x13, x14, x15, x16, x17, x18, x19])), (m1, .inr (6, [.ref m2, .int n2, .int k2])), (m2, .inl (cA 0, 240, .inl q2)), (m3, .inl (cA 0, 10, .inl q3)), (m4, .inl (cA 0, 10, .inl q4)), (m5, .inl (cA 0, 10, .inl q5)), (m6, .inl (cA 0, 10, .inl q6)), (a0, .inr (4, [.ref p0, .ref a1, .ref a3, .ref a4, .ref a5, .ref a6, .int 0, .int 0, .int 0, .long 0, .long 0, .long 0, .int 0, .int 0, .int 0, .int 0, .int 365, .int 0, .int 0, .int 0])), (a1, .inr (6, [.ref a2, .int 0, .int 0])), (a2, .inl (cA 0, 240, .inl e2)), (a3, .inl (cA 0, 10, .inl e3)), (a4, .inl (cA 0, 10, .inl e4)), (a5, .inl (cA 0, 10, .inl e5)), (a6, .inl (cA 0, 10, .inl e6)), (p0, .inr (7, [.int 0, .int 365, .int 0, .int 0, .ref p1, .int 0, .ref p2, .ref p3, .ref p4, .ref p5, .int 0, .ref p6, .int 0, .ref p7, .ref p8, .ref p9, .int 0]))] sz)) (va_Qi (fun (r : Int32) (_ : Unit) => r = (0 + a)) (fun (_ : Unit) t => Wq D (va_A [(h0, .inr (10, [.ref b0, .int 0, .ref p0, .ref u0, .ref r0, .ref a0, .ref t0, .ref s0, .ref o0])), (s0, .inr (5, [.ref s1, .int 0, .int 0])), (s1, .inl (cA 5, 10, .inr (.inr (.inr (.inr FR))))), (m0, .inr (4, [x0, .ref m1, .ref m3, .ref m4, .ref m5, .ref m6, x6, x7, x8, x9, x10, x11, x12, x13, x14, x15, x16, x17, x18, x19])), (m1, .inr (6, [.ref m2, .int n2, .int k2])), (m2, .inl (cA 0, 240, .inl q2)), (m3, .inl (cA 0, 10, .inl q3)), (m4, .inl (cA 0, 10, .inl q4)), (m5, .inl (cA 0, 10, .inl q5)), (m6, .inl (cA 0, 10, .inl q6)), (a0, .inr (4, [.ref p0, .ref a1, .ref a3, .ref a4, .ref a5, .ref a6, .int 0, .int 0, .int 0, .long 0, .long 0, .long 0, .int 0, .int 0, .int 0, .int 0, .int 365, .int 0, .int 0, .int 0])), (a1, .inr (6, [.ref a2, .int 0, .int 0])), (a2, .inl (cA 0, 240, .inl e2)), (a3, .inl (cA 0, 10, .inl e3)), (a4, .inl (cA 0, 10, .inl e4)), (a5, .inl (cA 0, 10, .inl e5)), (a6, .inl (cA 0, 10, .inl e6)), (p0, .inr (7, [.int 0, .int 365, .int 0, .int 0, .ref p1, .int 0, .ref p2, .ref p3, .ref p4, .ref p5, .int 0, .ref p6, .int 0, .ref p7, .ref p8, .ref p9, .int 0]))] sz) [] t) (va_A [(h0, .inr (10, [.ref b0, .int 0, .ref p0, .ref u0, .ref r0, .ref a0, .ref t0, .ref s0, .ref o0])), (s0, .inr (5, [.ref s1, .int 0, .int 0])), (s1, .inl (cA 5, 10, .inr (.inr (.inr (.inr FR))))), (m0, .inr (4, [x0, .ref m1, .ref m3, .ref m4, .ref m5, .ref m6, x6, x7, x8, x9, x10, x11, x12, x13, x14, x15, x16, x17, x18, x19])), (m1, .inr (6, [.ref m2, .int n2, .int k2])), (m2, .inl (cA 0, 240, .inl q2)), (m3, .inl (cA 0, 10, .inl q3)), (m4, .inl (cA 0, 10, .inl q4)), (m5, .inl (cA 0, 10, .inl q5)), (m6, .inl (cA 0, 10, .inl q6)), (a0, .inr (4, [.ref p0, .ref a1, .ref a3, .ref a4, .ref a5, .ref a6, .int 0, .int 0, .int 0, .long 0, .long 0, .long 0, .int 0, .int 0, .int 0, .int 0, .int 365, .int 0, .int 0, .int 0])), (a1, .inr (6, [.ref a2, .int 0, .int 0])), (a2, .inl (cA 0, 240, .inl e2)), (a3, .inl (cA 0, 10, .inl e3)), (a4, .inl (cA 0, 10, .inl e4)), (a5, .inl (cA 0, 10, .inl e5)), (a6, .inl (cA 0, 10, .inl e6)), (p0, .inr (7, [.int 0, .int 365, .int 0, .int 0, .ref p1, .int 0, .ref p2, .ref p3, .ref p4, .ref p5, .int 0, .ref p6, .int 0, .ref p7, .ref p8, .ref p9, .int 0]))] sz)) 0 0 (va_A [(h0, .inr (10, [.ref b0, .int 0, .ref p0, .ref u0, .ref r0, .ref a0, .ref t0, .ref s0, .ref o0])), (s0, .inr (5, [.ref s1, .int 0, .int 0])), (s1, .inl (cA 5, 10, .inr (.inr (.inr (.inr FR))))), (m0, .inr (4, [x0, .ref m1, .ref m3, .ref m4, .ref m5, .ref m6, x6, x7, x8, x9, x10, x11, x12, x13, x14, x15, x16, x17, x18, x19])), (m1, .inr (6, [.ref m2, .int n2, .int k2])), (m2, .inl (cA 0, 240, .inl q2)), (m3, .inl (cA 0, 10, .inl q3)), (m4, .inl (cA 0, 10, .inl q4)), (m5, .inl (cA 0, 10, .inl q5)), (m6, .inl (cA 0, 10, .inl q6)), (a0, .inr (4, [.ref p0, .ref a1, .ref a3, .ref a4, .ref a5, .ref a6, .int 0, .int 0, .int 0, .long 0, .long 0, .long 0, .int 0, .int 0, .int 0, .int 0, .int 365, .int 0, .int 0, .int 0])), (a1, .inr (6, [.ref a2, .int 0, .int 0])), (a2, .inl (cA 0, 240, .inl e2)), (a3, .inl (cA 0, 10, .inl e3)), (a4, .inl (cA 0, 10, .inl e4)), (a5, .inl (cA 0, 10, .inl e5)), (a6, .inl (cA 0, 10, .inl e6)), (p0, .inr (7, [.int 0, .int 365, .int 0, .int 0, .ref p1, .int 0, .ref p2, .ref p3, .ref p4, .ref p5, .int 0, .ref p6, .int 0, .ref p7, .ref p8, .ref p9, .int 0]))] sz) := by
  refine Met.ofW (cc := cX9_deposit) (maxL := 2) (ret := (some .int)) (by decide) rfl ?_
  intro p e s m args below meth c s₁ B hml hv
  obtain ⟨rfl, hsz, hP, hK, hD0, hC, hZ⟩ := hv
  have hx := B.exec
  have hb := B.bytes
  have hr := B.returns
  have hts := atoms_spec (ws := wsX9_deposit) B.pre
  have hown : s.vm.findClass RX9 = some m.cls := findClass_of_methodNamed B.named
  have hlocks := B.notSynchronized
  subst hsz
  have hD := hD0.self (sz := s.heap.size)
  generalize hAe : va_A [(h0, .inr (10, [.ref b0, .int 0, .ref p0, .ref u0, .ref r0, .ref a0, .ref t0, .ref s0, .ref o0])), (s0, .inr (5, [.ref s1, .int 0, .int 0])), (s1, .inl (cA 5, 10, .inr (.inr (.inr (.inr FR))))), (m0, .inr (4, [x0, .ref m1, .ref m3, .ref m4, .ref m5, .ref m6, x6, x7, x8, x9, x10, x11, x12, x13, x14, x15, x16, x17, x18, x19])), (m1, .inr (6, [.ref m2, .int n2, .int k2])), (m2, .inl (cA 0, 240, .inl q2)), (m3, .inl (cA 0, 10, .inl q3)), (m4, .inl (cA 0, 10, .inl q4)), (m5, .inl (cA 0, 10, .inl q5)), (m6, .inl (cA 0, 10, .inl q6)), (a0, .inr (4, [.ref p0, .ref a1, .ref a3, .ref a4, .ref a5, .ref a6, .int 0, .int 0, .int 0, .long 0, .long 0, .long 0, .int 0, .int 0, .int 0, .int 0, .int 365, .int 0, .int 0, .int 0])), (a1, .inr (6, [.ref a2, .int 0, .int 0])), (a2, .inl (cA 0, 240, .inl e2)), (a3, .inl (cA 0, 10, .inl e3)), (a4, .inl (cA 0, 10, .inl e4)), (a5, .inl (cA 0, 10, .inl e5)), (a6, .inl (cA 0, 10, .inl e6)), (p0, .inr (7, [.int 0, .int 365, .int 0, .int 0, .ref p1, .int 0, .ref p2, .ref p3, .ref p4, .ref p5, .int 0, .ref p6, .int 0, .ref p7, .ref p8, .ref p9, .int 0]))] s.heap.size = A at hD hZ ⊢
  have hA : ∀ q : Nat, s.heap.size ≤ q → A q := fun q h => by rw [← hAe]; exact Or.inr h
  have hS : va_S A s.heap s.heap [] := va_S.rf
  have hP : va_P D vwCl [(h0, .inr (10, [.ref b0, .int 0, .ref p0, .ref u0, .ref r0, .ref a0, .ref t0, .ref s0, .ref o0])), (s0, .inr (5, [.ref s1, .int 0, .int 0])), (s1, .inl (cA 5, 10, .inr (.inr (.inr (.inr FR))))), (m0, .inr (4, [x0, .ref m1, .ref m3, .ref m4, .ref m5, .ref m6, x6, x7, x8, x9, x10, x11, x12, x13, x14, x15, x16, x17, x18, x19])), (m1, .inr (6, [.ref m2, .int n2, .int k2])), (m2, .inl (cA 0, 240, .inl q2)), (m3, .inl (cA 0, 10, .inl q3)), (m4, .inl (cA 0, 10, .inl q4)), (m5, .inl (cA 0, 10, .inl q5)), (m6, .inl (cA 0, 10, .inl q6)), (a0, .inr (4, [.ref p0, .ref a1, .ref a3, .ref a4, .ref a5, .ref a6, .int 0, .int 0, .int 0, .long 0, .long 0, .long 0, .int 0, .int 0, .int 0, .int 0, .int 365, .int 0, .int 0, .int 0])), (a1, .inr (6, [.ref a2, .int 0, .int 0])), (a2, .inl (cA 0, 240, .inl e2)), (a3, .inl (cA 0, 10, .inl e3)), (a4, .inl (cA 0, 10, .inl e4)), (a5, .inl (cA 0, 10, .inl e5)), (a6, .inl (cA 0, 10, .inl e6)), (p0, .inr (7, [.int 0, .int 365, .int 0, .int 0, .ref p1, .int 0, .ref p2, .ref p3, .ref p4, .ref p5, .int 0, .ref p6, .int 0, .ref p7, .ref p8, .ref p9, .int 0]))] s.heap := hP
  have hl := lv_entry ([.ref h0, .int a]) (n := 2) (Nat.le_of_ble_eq_true rfl)
  rw [lg_entry_eq]
  generalize (lg_sl ([.ref h0, .int a]) ++ List.replicate (2 - (lg_sl ([.ref h0, .int a])).length) Slot.unset).toArray = ls at hl ⊢
  have hl : lv_has ls 2 [(0, .ref h0), (1, .int a)] := hl
  have inX0 : ∀ w ∈ u_ws RX0 TX0 20, w ∈ wsX9_deposit := by decide +kernel
  have inX9 : ∀ w ∈ u_ws RX9 TX9 9, w ∈ wsX9_deposit := by decide +kernel
  refine lv_iload_n hx hb dX9_deposit_0 rfl (lv_at hl 1 rfl) ?_
  refine lv_iconst (v := 1) hx hb dX9_deposit_1 (by decide) ?_
  refine lv_ldc (v := 99999) hx hb hown (hts (.constant RX9 239 99999) (by decide +kernel)) dX9_deposit_2 ?_
  have hPc := hP.sub (ws' := []) [] rfl
  have hDc := hD.sub (ws' := []) [] (by decide) rfl
  have hFc := va_free (wc := []) hD hS hA [] rfl
  refine va_callv (va_runS (As := [.int a, .int 1, .int 99999]) (rest := []) ⟨hx, hb, hml, hown, hts⟩ (c_needRange_ret l D cA sa a 1 99999 s.heap.size h1 h2) (va_cwS 3 hts gX9_deposit_X9_needRange rfl rfl rfl (by decide +kernel) ⟨(Nat.le_of_ble_eq_true rfl), (Nat.le_of_ble_eq_true rfl)⟩) ⟨Wd.blind, fun U hU hW => ⟨rfl, Wd.call hPc hDc hK hC hZ hS hFc U hU hW⟩⟩ rfl rfl hl.1 rfl (lv_room (Nat.le_of_ble_eq_true rfl)) dX9_deposit_4 ⟨(Nat.le_of_ble_eq_true rfl), (Nat.le_of_ble_eq_true rfl)⟩) hS (fun q _ h => hFc q h) hFc (fun u t H1 locs ht hvm hw hB hz1 hk1 hS => ?_)
  obtain ⟨hP1, hD1⟩ := hB
  rw [ht] at hP1
  obtain ⟨hP, hD⟩ := va_join (wr := [(h0, .inr (10, [.ref b0, .int 0, .ref p0, .ref u0, .ref r0, .ref a0, .ref t0, .ref s0, .ref o0])), (s0, .inr (5, [.ref s1, .int 0, .int 0])), (s1, .inl (cA 5, 10, .inr (.inr (.inr (.inr FR))))), (m0, .inr (4, [x0, .ref m1, .ref m3, .ref m4, .ref m5, .ref m6, x6, x7, x8, x9, x10, x11, x12, x13, x14, x15, x16, x17, x18, x19])), (m1, .inr (6, [.ref m2, .int n2, .int k2])), (m2, .inl (cA 0, 240, .inl q2)), (m3, .inl (cA 0, 10, .inl q3)), (m4, .inl (cA 0, 10, .inl q4)), (m5, .inl (cA 0, 10, .inl q5)), (m6, .inl (cA 0, 10, .inl q6)), (a0, .inr (4, [.ref p0, .ref a1, .ref a3, .ref a4, .ref a5, .ref a6, .int 0, .int 0, .int 0, .long 0, .long 0, .long 0, .int 0, .int 0, .int 0, .int 0, .int 365, .int 0, .int 0, .int 0])), (a1, .inr (6, [.ref a2, .int 0, .int 0])), (a2, .inl (cA 0, 240, .inl e2)), (a3, .inl (cA 0, 10, .inl e3)), (a4, .inl (cA 0, 10, .inl e4)), (a5, .inl (cA 0, 10, .inl e5)), (a6, .inl (cA 0, 10, .inl e6)), (p0, .inr (7, [.int 0, .int 365, .int 0, .int 0, .ref p1, .int 0, .ref p2, .ref p3, .ref p4, .ref p5, .int 0, .ref p6, .int 0, .ref p7, .ref p8, .ref p9, .int 0]))]) (w1 := []) hP hD [] [0, 1, 2, 3, 4, 5, 6, 7, 8, 9, 10, 11, 12, 13, 14, 15, 16, 17] rfl rfl (by decide) (by decide) hk1 hFc hP1 hD1
  generalize H1 = H at hP hS ⊢
  have hP : va_P D vwCl [(h0, .inr (10, [.ref b0, .int 0, .ref p0, .ref u0, .ref r0, .ref a0, .ref t0, .ref s0, .ref o0])), (s0, .inr (5, [.ref s1, .int 0, .int 0])), (s1, .inl (cA 5, 10, .inr (.inr (.inr (.inr FR))))), (m0, .inr (4, [x0, .ref m1, .ref m3, .ref m4, .ref m5, .ref m6, x6, x7, x8, x9, x10, x11, x12, x13, x14, x15, x16, x17, x18, x19])), (m1, .inr (6, [.ref m2, .int n2, .int k2])), (m2, .inl (cA 0, 240, .inl q2)), (m3, .inl (cA 0, 10, .inl q3)), (m4, .inl (cA 0, 10, .inl q4)), (m5, .inl (cA 0, 10, .inl q5)), (m6, .inl (cA 0, 10, .inl q6)), (a0, .inr (4, [.ref p0, .ref a1, .ref a3, .ref a4, .ref a5, .ref a6, .int 0, .int 0, .int 0, .long 0, .long 0, .long 0, .int 0, .int 0, .int 0, .int 0, .int 365, .int 0, .int 0, .int 0])), (a1, .inr (6, [.ref a2, .int 0, .int 0])), (a2, .inl (cA 0, 240, .inl e2)), (a3, .inl (cA 0, 10, .inl e3)), (a4, .inl (cA 0, 10, .inl e4)), (a5, .inl (cA 0, 10, .inl e5)), (a6, .inl (cA 0, 10, .inl e6)), (p0, .inr (7, [.int 0, .int 365, .int 0, .int 0, .ref p1, .int 0, .ref p2, .ref p3, .ref p4, .ref p5, .int 0, .ref p6, .int 0, .ref p7, .ref p8, .ref p9, .int 0]))] H := hP
  have hD : va_D A [(h0, .inr (10, [.ref b0, .int 0, .ref p0, .ref u0, .ref r0, .ref a0, .ref t0, .ref s0, .ref o0])), (s0, .inr (5, [.ref s1, .int 0, .int 0])), (s1, .inl (cA 5, 10, .inr (.inr (.inr (.inr FR))))), (m0, .inr (4, [x0, .ref m1, .ref m3, .ref m4, .ref m5, .ref m6, x6, x7, x8, x9, x10, x11, x12, x13, x14, x15, x16, x17, x18, x19])), (m1, .inr (6, [.ref m2, .int n2, .int k2])), (m2, .inl (cA 0, 240, .inl q2)), (m3, .inl (cA 0, 10, .inl q3)), (m4, .inl (cA 0, 10, .inl q4)), (m5, .inl (cA 0, 10, .inl q5)), (m6, .inl (cA 0, 10, .inl q6)), (a0, .inr (4, [.ref p0, .ref a1, .ref a3, .ref a4, .ref a5, .ref a6, .int 0, .int 0, .int 0, .long 0, .long 0, .long 0, .int 0, .int 0, .int 0, .int 0, .int 365, .int 0, .int 0, .int 0])), (a1, .inr (6, [.ref a2, .int 0, .int 0])), (a2, .inl (cA 0, 240, .inl e2)), (a3, .inl (cA 0, 10, .inl e3)), (a4, .inl (cA 0, 10, .inl e4)), (a5, .inl (cA 0, 10, .inl e5)), (a6, .inl (cA 0, 10, .inl e6)), (p0, .inr (7, [.int 0, .int 365, .int 0, .int 0, .ref p1, .int 0, .ref p2, .ref p3, .ref p4, .ref p5, .int 0, .ref p6, .int 0, .ref p7, .ref p8, .ref p9, .int 0]))] := hD
  refine lv_aload_n hx hb dX9_deposit_7 rfl (lv_at hl 0 rfl) ?_
  refine va_get (D := D) (ci := 10) (v := .ref a0) (C := RX9) (T := TX9) (N := 9) hx hb hts inX9 hown hK hP 0 rfl rfl 5 (by decide) (hts (.fieldLink RX9 35 "EscrowDesk" "account" "LEscrowDesk$Account;") (by decide +kernel)) (fun _ h9 => h9) rfl dX9_deposit_8 ?_
  refine va_getN (D := D) (ci := 4) (v := .int 0) (C := RX0) (T := TX0) (N := 20) hx hb hts inX0 hown hK hP 10 rfl rfl 7 (by decide) (hC.f (A := _) (a := RX9) (i := 90) (b := "EscrowDesk$Account") (n := "deposited") (d := "I") (x := "EscrowDesk") (by decide +kernel)) (fun _ h9 => h9) rfl dX9_deposit_11 ?_
  refine lv_iload_n hx hb dX9_deposit_14 rfl (lv_at hl 1 rfl) ?_
  refine lv_iadd hx hb dX9_deposit_15 ?_
  refine lv_ldc (v := 9999999) hx hb hown (hts (.constant RX9 250 9999999) (by decide +kernel)) dX9_deposit_16 ?_
  refine lv_icmp_gt (tgt := 25) hx hb dX9_deposit_18 (by decide) (fun c9 => absurd c9 (fun h3 => dep_le h2 h3)) (fun c2 => ?_)
  refine lv_iconst (v := 1) hx hb dX9_deposit_21 (by decide) ?_
  refine lv_goto (tgt := 26) hx hb dX9_deposit_22 (by decide) ?_
  have hPc := hP.sub (ws' := []) [] rfl
  have hDc := hD.sub (ws' := []) [] (by decide) rfl
  have hFc := va_free (wc := []) hD hS hA [] rfl
  refine va_callv (va_runS (As := [.int 1]) (rest := []) ⟨hx, hb, hml, hown, hts⟩ (c_needPossible l D cA sa  H.size) (va_cwS 1 hts gX9_deposit_X9_needPossible rfl rfl rfl (by decide +kernel) ⟨(Nat.le_of_ble_eq_true rfl), (Nat.le_of_ble_eq_true rfl)⟩) ⟨Wd.blind, fun U hU hW => ⟨rfl, Wd.call hPc hDc hK hC hZ hS hFc U hU hW⟩⟩ rfl rfl hl.1 rfl (lv_room (Nat.le_of_ble_eq_true rfl)) dX9_deposit_26 ⟨(Nat.le_of_ble_eq_true rfl), (Nat.le_of_ble_eq_true rfl)⟩) hS (fun q _ h => hFc q h) hFc (fun u t H1 locs ht hvm hw hB hz1 hk1 hS => ?_)
  obtain ⟨hP1, hD1⟩ := hB
  rw [ht] at hP1
  obtain ⟨hP, hD⟩ := va_join (wr := [(h0, .inr (10, [.ref b0, .int 0, .ref p0, .ref u0, .ref r0, .ref a0, .ref t0, .ref s0, .ref o0])), (s0, .inr (5, [.ref s1, .int 0, .int 0])), (s1, .inl (cA 5, 10, .inr (.inr (.inr (.inr FR))))), (m0, .inr (4, [x0, .ref m1, .ref m3, .ref m4, .ref m5, .ref m6, x6, x7, x8, x9, x10, x11, x12, x13, x14, x15, x16, x17, x18, x19])), (m1, .inr (6, [.ref m2, .int n2, .int k2])), (m2, .inl (cA 0, 240, .inl q2)), (m3, .inl (cA 0, 10, .inl q3)), (m4, .inl (cA 0, 10, .inl q4)), (m5, .inl (cA 0, 10, .inl q5)), (m6, .inl (cA 0, 10, .inl q6)), (a0, .inr (4, [.ref p0, .ref a1, .ref a3, .ref a4, .ref a5, .ref a6, .int 0, .int 0, .int 0, .long 0, .long 0, .long 0, .int 0, .int 0, .int 0, .int 0, .int 365, .int 0, .int 0, .int 0])), (a1, .inr (6, [.ref a2, .int 0, .int 0])), (a2, .inl (cA 0, 240, .inl e2)), (a3, .inl (cA 0, 10, .inl e3)), (a4, .inl (cA 0, 10, .inl e4)), (a5, .inl (cA 0, 10, .inl e5)), (a6, .inl (cA 0, 10, .inl e6)), (p0, .inr (7, [.int 0, .int 365, .int 0, .int 0, .ref p1, .int 0, .ref p2, .ref p3, .ref p4, .ref p5, .int 0, .ref p6, .int 0, .ref p7, .ref p8, .ref p9, .int 0]))]) (w1 := []) hP hD [] [0, 1, 2, 3, 4, 5, 6, 7, 8, 9, 10, 11, 12, 13, 14, 15, 16, 17] rfl rfl (by decide) (by decide) hk1 hFc hP1 hD1
  generalize H1 = H at hP hS ⊢
  have hP : va_P D vwCl [(h0, .inr (10, [.ref b0, .int 0, .ref p0, .ref u0, .ref r0, .ref a0, .ref t0, .ref s0, .ref o0])), (s0, .inr (5, [.ref s1, .int 0, .int 0])), (s1, .inl (cA 5, 10, .inr (.inr (.inr (.inr FR))))), (m0, .inr (4, [x0, .ref m1, .ref m3, .ref m4, .ref m5, .ref m6, x6, x7, x8, x9, x10, x11, x12, x13, x14, x15, x16, x17, x18, x19])), (m1, .inr (6, [.ref m2, .int n2, .int k2])), (m2, .inl (cA 0, 240, .inl q2)), (m3, .inl (cA 0, 10, .inl q3)), (m4, .inl (cA 0, 10, .inl q4)), (m5, .inl (cA 0, 10, .inl q5)), (m6, .inl (cA 0, 10, .inl q6)), (a0, .inr (4, [.ref p0, .ref a1, .ref a3, .ref a4, .ref a5, .ref a6, .int 0, .int 0, .int 0, .long 0, .long 0, .long 0, .int 0, .int 0, .int 0, .int 0, .int 365, .int 0, .int 0, .int 0])), (a1, .inr (6, [.ref a2, .int 0, .int 0])), (a2, .inl (cA 0, 240, .inl e2)), (a3, .inl (cA 0, 10, .inl e3)), (a4, .inl (cA 0, 10, .inl e4)), (a5, .inl (cA 0, 10, .inl e5)), (a6, .inl (cA 0, 10, .inl e6)), (p0, .inr (7, [.int 0, .int 365, .int 0, .int 0, .ref p1, .int 0, .ref p2, .ref p3, .ref p4, .ref p5, .int 0, .ref p6, .int 0, .ref p7, .ref p8, .ref p9, .int 0]))] H := hP
  have hD : va_D A [(h0, .inr (10, [.ref b0, .int 0, .ref p0, .ref u0, .ref r0, .ref a0, .ref t0, .ref s0, .ref o0])), (s0, .inr (5, [.ref s1, .int 0, .int 0])), (s1, .inl (cA 5, 10, .inr (.inr (.inr (.inr FR))))), (m0, .inr (4, [x0, .ref m1, .ref m3, .ref m4, .ref m5, .ref m6, x6, x7, x8, x9, x10, x11, x12, x13, x14, x15, x16, x17, x18, x19])), (m1, .inr (6, [.ref m2, .int n2, .int k2])), (m2, .inl (cA 0, 240, .inl q2)), (m3, .inl (cA 0, 10, .inl q3)), (m4, .inl (cA 0, 10, .inl q4)), (m5, .inl (cA 0, 10, .inl q5)), (m6, .inl (cA 0, 10, .inl q6)), (a0, .inr (4, [.ref p0, .ref a1, .ref a3, .ref a4, .ref a5, .ref a6, .int 0, .int 0, .int 0, .long 0, .long 0, .long 0, .int 0, .int 0, .int 0, .int 0, .int 365, .int 0, .int 0, .int 0])), (a1, .inr (6, [.ref a2, .int 0, .int 0])), (a2, .inl (cA 0, 240, .inl e2)), (a3, .inl (cA 0, 10, .inl e3)), (a4, .inl (cA 0, 10, .inl e4)), (a5, .inl (cA 0, 10, .inl e5)), (a6, .inl (cA 0, 10, .inl e6)), (p0, .inr (7, [.int 0, .int 365, .int 0, .int 0, .ref p1, .int 0, .ref p2, .ref p3, .ref p4, .ref p5, .int 0, .ref p6, .int 0, .ref p7, .ref p8, .ref p9, .int 0]))] := hD
  refine lv_aload_n hx hb dX9_deposit_29 rfl (lv_at hl 0 rfl) ?_
  refine va_get (D := D) (ci := 10) (v := .ref s0) (C := RX9) (T := TX9) (N := 9) hx hb hts inX9 hown hK hP 0 rfl rfl 7 (by decide) (hts (.fieldLink RX9 45 "EscrowDesk" "history" "LEscrowDesk$History;") (by decide +kernel)) (fun _ h9 => h9) rfl dX9_deposit_30 ?_
  refine lv_aload_n hx hb dX9_deposit_33 rfl (lv_at hl 0 rfl) ?_
  refine va_get (D := D) (ci := 10) (v := .ref a0) (C := RX9) (T := TX9) (N := 9) hx hb hts inX9 hown hK hP 0 rfl rfl 5 (by decide) (hts (.fieldLink RX9 35 "EscrowDesk" "account" "LEscrowDesk$Account;") (by decide +kernel)) (fun _ h9 => h9) rfl dX9_deposit_34 ?_
  have hPc := hP.sub (ws' := [(s0, .inr (5, [.ref s1, .int 0, .int 0])), (s1, .inl (cA 5, 10, .inr (.inr (.inr (.inr FR))))), (m0, .inr (4, [x0, .ref m1, .ref m3, .ref m4, .ref m5, .ref m6, x6, x7, x8, x9, x10, x11, x12, x13, x14, x15, x16, x17, x18, x19])), (m1, .inr (6, [.ref m2, .int n2, .int k2])), (m2, .inl (cA 0, 240, .inl q2)), (m3, .inl (cA 0, 10, .inl q3)), (m4, .inl (cA 0, 10, .inl q4)), (m5, .inl (cA 0, 10, .inl q5)), (m6, .inl (cA 0, 10, .inl q6)), (a0, .inr (4, [.ref p0, .ref a1, .ref a3, .ref a4, .ref a5, .ref a6, .int 0, .int 0, .int 0, .long 0, .long 0, .long 0, .int 0, .int 0, .int 0, .int 0, .int 365, .int 0, .int 0, .int 0])), (a1, .inr (6, [.ref a2, .int 0, .int 0])), (a2, .inl (cA 0, 240, .inl e2)), (a3, .inl (cA 0, 10, .inl e3)), (a4, .inl (cA 0, 10, .inl e4)), (a5, .inl (cA 0, 10, .inl e5)), (a6, .inl (cA 0, 10, .inl e6))]) [1, 2, 3, 4, 5, 6, 7, 8, 9, 10, 11, 12, 13, 14, 15, 16] rfl
  have hDc := hD.sub (ws' := [(s0, .inr (5, [.ref s1, .int 0, .int 0])), (s1, .inl (cA 5, 10, .inr (.inr (.inr (.inr FR))))), (m0, .inr (4, [x0, .ref m1, .ref m3, .ref m4, .ref m5, .ref m6, x6, x7, x8, x9, x10, x11, x12, x13, x14, x15, x16, x17, x18, x19])), (m1, .inr (6, [.ref m2, .int n2, .int k2])), (m2, .inl (cA 0, 240, .inl q2)), (m3, .inl (cA 0, 10, .inl q3)), (m4, .inl (cA 0, 10, .inl q4)), (m5, .inl (cA 0, 10, .inl q5)), (m6, .inl (cA 0, 10, .inl q6)), (a0, .inr (4, [.ref p0, .ref a1, .ref a3, .ref a4, .ref a5, .ref a6, .int 0, .int 0, .int 0, .long 0, .long 0, .long 0, .int 0, .int 0, .int 0, .int 0, .int 365, .int 0, .int 0, .int 0])), (a1, .inr (6, [.ref a2, .int 0, .int 0])), (a2, .inl (cA 0, 240, .inl e2)), (a3, .inl (cA 0, 10, .inl e3)), (a4, .inl (cA 0, 10, .inl e4)), (a5, .inl (cA 0, 10, .inl e5)), (a6, .inl (cA 0, 10, .inl e6))]) [1, 2, 3, 4, 5, 6, 7, 8, 9, 10, 11, 12, 13, 14, 15, 16] (by decide) rfl
  have hFc := va_free (wc := [(s0, .inr (5, [.ref s1, .int 0, .int 0])), (s1, .inl (cA 5, 10, .inr (.inr (.inr (.inr FR))))), (m0, .inr (4, [x0, .ref m1, .ref m3, .ref m4, .ref m5, .ref m6, x6, x7, x8, x9, x10, x11, x12, x13, x14, x15, x16, x17, x18, x19])), (m1, .inr (6, [.ref m2, .int n2, .int k2])), (m2, .inl (cA 0, 240, .inl q2)), (m3, .inl (cA 0, 10, .inl q3)), (m4, .inl (cA 0, 10, .inl q4)), (m5, .inl (cA 0, 10, .inl q5)), (m6, .inl (cA 0, 10, .inl q6)), (a0, .inr (4, [.ref p0, .ref a1, .ref a3, .ref a4, .ref a5, .ref a6, .int 0, .int 0, .int 0, .long 0, .long 0, .long 0, .int 0, .int 0, .int 0, .int 0, .int 365, .int 0, .int 0, .int 0])), (a1, .inr (6, [.ref a2, .int 0, .int 0])), (a2, .inl (cA 0, 240, .inl e2)), (a3, .inl (cA 0, 10, .inl e3)), (a4, .inl (cA 0, 10, .inl e4)), (a5, .inl (cA 0, 10, .inl e5)), (a6, .inl (cA 0, 10, .inl e6))]) hD hS hA [1, 2, 3, 4, 5, 6, 7, 8, 9, 10, 11, 12, 13, 14, 15, 16] rfl
  refine va_callv (va_runV (As := [.ref a0]) (rest := []) ⟨hx, hb, hml, hown, hts⟩ (c_remember l D cA sa s0 s1 m0 m1 m2 m3 m4 m5 m6 a0 a1 a2 a3 a4 a5 a6 p0 x0 x6 x7 x8 x9 x10 x11 x12 x13 x14 x15 x16 x17 x18 x19 n2 k2 q2 q3 q4 q5 q6 e2 e3 e4 e5 e6 FR H.size hF) (cwV 1 hts gX9_deposit_X1_remember rfl rfl rfl (by decide +kernel) ⟨(Nat.le_of_ble_eq_true rfl), (Nat.le_of_ble_eq_true rfl)⟩) ⟨Wd.blind, va_recv hK hPc (ci := 5) (q0 := 0) rfl rfl, fun U hU hW => ⟨rfl, Wd.call hPc hDc hK hC hZ hS hFc U hU hW⟩⟩ rfl rfl hl.1 rfl (lv_room (Nat.le_of_ble_eq_true rfl)) dX9_deposit_37 ⟨(Nat.le_of_ble_eq_true rfl), (Nat.le_of_ble_eq_true rfl)⟩) hS (fun q _ h => hFc q h) hFc (fun u t H1 locs ht hvm hw hB hz1 hk1 hS => ?_)
  obtain ⟨hP1, hD1⟩ := hB
  rw [ht] at hP1
  obtain ⟨hP, hD⟩ := va_join (wr := [(h0, .inr (10, [.ref b0, .int 0, .ref p0, .ref u0, .ref r0, .ref a0, .ref t0, .ref s0, .ref o0])), (p0, .inr (7, [.int 0, .int 365, .int 0, .int 0, .ref p1, .int 0, .ref p2, .ref p3, .ref p4, .ref p5, .int 0, .ref p6, .int 0, .ref p7, .ref p8, .ref p9, .int 0]))]) (w1 := [(a0, .inr (4, [.ref p0, .ref a1, .ref a3, .ref a4, .ref a5, .ref a6, .int 0, .int 0, .int 0, .long 0, .long 0, .long 0, .int 0, .int 0, .int 0, .int 0, .int 365, .int 0, .int 0, .int 0])), (a1, .inr (6, [.ref a2, .int 0, .int 0])), (a2, .inl (cA 0, 240, .inl e2)), (a3, .inl (cA 0, 10, .inl e3)), (a4, .inl (cA 0, 10, .inl e4)), (a5, .inl (cA 0, 10, .inl e5)), (a6, .inl (cA 0, 10, .inl e6))]) hP hD [1, 2, 3, 4, 5, 6, 7, 8, 9, 10, 11, 12, 13, 14, 15, 16] [0, 17] rfl rfl (by decide) (by decide) hk1 hFc hP1 hD1
  generalize H1 = H at hP hS ⊢
  have hP : va_P D vwCl [(h0, .inr (10, [.ref b0, .int 0, .ref p0, .ref u0, .ref r0, .ref a0, .ref t0, .ref s0, .ref o0])), (p0, .inr (7, [.int 0, .int 365, .int 0, .int 0, .ref p1, .int 0, .ref p2, .ref p3, .ref p4, .ref p5, .int 0, .ref p6, .int 0, .ref p7, .ref p8, .ref p9, .int 0])), (a0, .inr (4, [.ref p0, .ref a1, .ref a3, .ref a4, .ref a5, .ref a6, .int 0, .int 0, .int 0, .long 0, .long 0, .long 0, .int 0, .int 0, .int 0, .int 0, .int 365, .int 0, .int 0, .int 0])), (a1, .inr (6, [.ref a2, .int 0, .int 0])), (a2, .inl (cA 0, 240, .inl e2)), (a3, .inl (cA 0, 10, .inl e3)), (a4, .inl (cA 0, 10, .inl e4)), (a5, .inl (cA 0, 10, .inl e5)), (a6, .inl (cA 0, 10, .inl e6))] H := hP
  have hD : va_D A [(h0, .inr (10, [.ref b0, .int 0, .ref p0, .ref u0, .ref r0, .ref a0, .ref t0, .ref s0, .ref o0])), (p0, .inr (7, [.int 0, .int 365, .int 0, .int 0, .ref p1, .int 0, .ref p2, .ref p3, .ref p4, .ref p5, .int 0, .ref p6, .int 0, .ref p7, .ref p8, .ref p9, .int 0])), (a0, .inr (4, [.ref p0, .ref a1, .ref a3, .ref a4, .ref a5, .ref a6, .int 0, .int 0, .int 0, .long 0, .long 0, .long 0, .int 0, .int 0, .int 0, .int 0, .int 365, .int 0, .int 0, .int 0])), (a1, .inr (6, [.ref a2, .int 0, .int 0])), (a2, .inl (cA 0, 240, .inl e2)), (a3, .inl (cA 0, 10, .inl e3)), (a4, .inl (cA 0, 10, .inl e4)), (a5, .inl (cA 0, 10, .inl e5)), (a6, .inl (cA 0, 10, .inl e6))] := hD
  refine lv_aload_n hx hb dX9_deposit_40 rfl (lv_at hl 0 rfl) ?_
  refine va_get (D := D) (ci := 10) (v := .ref a0) (C := RX9) (T := TX9) (N := 9) hx hb hts inX9 hown hK hP 0 rfl rfl 5 (by decide) (hts (.fieldLink RX9 35 "EscrowDesk" "account" "LEscrowDesk$Account;") (by decide +kernel)) (fun _ h9 => h9) rfl dX9_deposit_41 ?_
  refine lv_iload_n hx hb dX9_deposit_44 rfl (lv_at hl 1 rfl) ?_
  have hPc := hP.sub (ws' := [(a0, .inr (4, [.ref p0, .ref a1, .ref a3, .ref a4, .ref a5, .ref a6, .int 0, .int 0, .int 0, .long 0, .long 0, .long 0, .int 0, .int 0, .int 0, .int 0, .int 365, .int 0, .int 0, .int 0])), (a1, .inr (6, [.ref a2, .int 0, .int 0])), (a2, .inl (cA 0, 240, .inl e2))]) [2, 3, 4] rfl
  have hDc := hD.sub (ws' := [(a0, .inr (4, [.ref p0, .ref a1, .ref a3, .ref a4, .ref a5, .ref a6, .int 0, .int 0, .int 0, .long 0, .long 0, .long 0, .int 0, .int 0, .int 0, .int 0, .int 365, .int 0, .int 0, .int 0])), (a1, .inr (6, [.ref a2, .int 0, .int 0])), (a2, .inl (cA 0, 240, .inl e2))]) [2, 3, 4] (by decide) rfl
  have hFc := va_free (wc := [(a0, .inr (4, [.ref p0, .ref a1, .ref a3, .ref a4, .ref a5, .ref a6, .int 0, .int 0, .int 0, .long 0, .long 0, .long 0, .int 0, .int 0, .int 0, .int 0, .int 365, .int 0, .int 0, .int 0])), (a1, .inr (6, [.ref a2, .int 0, .int 0])), (a2, .inl (cA 0, 240, .inl e2))]) hD hS hA [2, 3, 4] rfl
  refine va_callv (va_runV (As := [.int a]) (rest := []) ⟨hx, hb, hml, hown, hts⟩ (c_takeDeposit l D cA sa a0 p0 a1 a3 a4 a5 a6 a2 a e2 H.size (dep_pos h1)) (cwV 1 hts gX9_deposit_X0_takeDeposit rfl rfl rfl (by decide +kernel) ⟨(Nat.le_of_ble_eq_true rfl), (Nat.le_of_ble_eq_true rfl)⟩) ⟨Wd.blind, va_recv hK hPc (ci := 4) (q0 := 0) rfl rfl, fun U hU hW => ⟨rfl, Wd.call hPc hDc hK hC hZ hS hFc U hU hW⟩⟩ rfl rfl hl.1 rfl (lv_room (Nat.le_of_ble_eq_true rfl)) dX9_deposit_45 ⟨(Nat.le_of_ble_eq_true rfl), (Nat.le_of_ble_eq_true rfl)⟩) hS (fun q _ h => hFc q h) hFc (fun u t H1 locs ht hvm hw hB hz1 hk1 hS => ?_)
  obtain ⟨fn3, hP1, hD1⟩ := hB
  rw [ht] at hP1
  obtain ⟨hP, hD⟩ := va_join (wr := [(h0, .inr (10, [.ref b0, .int 0, .ref p0, .ref u0, .ref r0, .ref a0, .ref t0, .ref s0, .ref o0])), (p0, .inr (7, [.int 0, .int 365, .int 0, .int 0, .ref p1, .int 0, .ref p2, .ref p3, .ref p4, .ref p5, .int 0, .ref p6, .int 0, .ref p7, .ref p8, .ref p9, .int 0])), (a3, .inl (cA 0, 10, .inl e3)), (a4, .inl (cA 0, 10, .inl e4)), (a5, .inl (cA 0, 10, .inl e5)), (a6, .inl (cA 0, 10, .inl e6))]) (w1 := [(a0, .inr (4, [.ref p0, .ref a1, .ref a3, .ref a4, .ref a5, .ref a6, .int 0, .int (0 + a), .int (0 + a), .long 0, .long 0, .long 0, .int 0, .int 0, .int 0, .int 0, .int 365, .int 0, .int 0, .int 0])), (a1, .inr (6, [.ref a2, .int 1, .int 1])), (a2, .inl (cA 0, 240, .inl fn3))]) hP hD [2, 3, 4] [0, 1, 5, 6, 7, 8] rfl rfl (by decide) (by decide) hk1 hFc hP1 hD1
  generalize H1 = H at hP hS ⊢
  have hP : va_P D vwCl [(h0, .inr (10, [.ref b0, .int 0, .ref p0, .ref u0, .ref r0, .ref a0, .ref t0, .ref s0, .ref o0])), (p0, .inr (7, [.int 0, .int 365, .int 0, .int 0, .ref p1, .int 0, .ref p2, .ref p3, .ref p4, .ref p5, .int 0, .ref p6, .int 0, .ref p7, .ref p8, .ref p9, .int 0])), (a3, .inl (cA 0, 10, .inl e3)), (a4, .inl (cA 0, 10, .inl e4)), (a5, .inl (cA 0, 10, .inl e5)), (a6, .inl (cA 0, 10, .inl e6)), (a0, .inr (4, [.ref p0, .ref a1, .ref a3, .ref a4, .ref a5, .ref a6, .int 0, .int (0 + a), .int (0 + a), .long 0, .long 0, .long 0, .int 0, .int 0, .int 0, .int 0, .int 365, .int 0, .int 0, .int 0])), (a1, .inr (6, [.ref a2, .int 1, .int 1])), (a2, .inl (cA 0, 240, .inl fn3))] H := hP
  have hD : va_D A [(h0, .inr (10, [.ref b0, .int 0, .ref p0, .ref u0, .ref r0, .ref a0, .ref t0, .ref s0, .ref o0])), (p0, .inr (7, [.int 0, .int 365, .int 0, .int 0, .ref p1, .int 0, .ref p2, .ref p3, .ref p4, .ref p5, .int 0, .ref p6, .int 0, .ref p7, .ref p8, .ref p9, .int 0])), (a3, .inl (cA 0, 10, .inl e3)), (a4, .inl (cA 0, 10, .inl e4)), (a5, .inl (cA 0, 10, .inl e5)), (a6, .inl (cA 0, 10, .inl e6)), (a0, .inr (4, [.ref p0, .ref a1, .ref a3, .ref a4, .ref a5, .ref a6, .int 0, .int (0 + a), .int (0 + a), .long 0, .long 0, .long 0, .int 0, .int 0, .int 0, .int 0, .int 365, .int 0, .int 0, .int 0])), (a1, .inr (6, [.ref a2, .int 1, .int 1])), (a2, .inl (cA 0, 240, .inl fn3))] := hD
  refine lv_aload_n hx hb dX9_deposit_48 rfl (lv_at hl 0 rfl) ?_
  refine va_get (D := D) (ci := 10) (v := .ref a0) (C := RX9) (T := TX9) (N := 9) hx hb hts inX9 hown hK hP 0 rfl rfl 5 (by decide) (hts (.fieldLink RX9 35 "EscrowDesk" "account" "LEscrowDesk$Account;") (by decide +kernel)) (fun _ h9 => h9) rfl dX9_deposit_49 ?_
  refine va_getN (D := D) (ci := 4) (v := .int (0 + a)) (C := RX0) (T := TX0) (N := 20) hx hb hts inX0 hown hK hP 6 rfl rfl 8 (by decide) (hC.f (A := _) (a := RX9) (i := 93) (b := "EscrowDesk$Account") (n := "principal") (d := "I") (x := "EscrowDesk") (by decide +kernel)) (fun _ h9 => h9) rfl dX9_deposit_52 ?_
  have hP9 := hP.sub (ws' := []) [] rfl
  have hD9 := hD.sub (ws' := []) [] (by decide) rfl
  refine W.widen (k := 0) (n := 0) (Nat.le_of_ble_eq_true rfl) (Nat.le_of_ble_eq_true rfl) ?_
  exact W.iret (v := (0 + a)) hx hb hr (fun t ht hW => ⟨⟨(0 + a), (), rfl, rfl, by rw [ht]; exact hP9, hD9⟩, hS.F ht⟩) hS.2.2 dX9_deposit_55

set_option maxHeartbeats 4000000 in
set_option maxRecDepth 100000 in
/-- deposit outside -/
theorem c_deposit_thr (l : Launch) (D : va_G) (cA : Nat → ClassId) (sa : Nat → Nat) (h0 b0 p0 u0 r0 a0 t0 s0 o0 p1 p2 p3 p4 p5 p6 p7 p8 p9 a1 a3 a4 a5 a6 : Nat) (a : Int32) (sz : Nat) (hl9 : l.stackTraces = false) (h : a < 1 ∨ 99999 < a) : vx_Met l yX9_deposit wsX9_deposit ({ frames := 7, cells := 1, slots := 6, locals := 112 }) (va_Pc [.ref h0, .int a] (Wd D cA sa [(h0, .inr (10, [.ref b0, .int 0, .ref p0, .ref u0, .ref r0, .ref a0, .ref t0, .ref s0, .ref o0])), (a0, .inr (4, [.ref p0, .ref a1, .ref a3, .ref a4, .ref a5, .ref a6, .int 0, .int 0, .int 0, .long 0, .long 0, .long 0, .int 0, .int 0, .int 0, .int 0, .int 365, .int 0, .int 0, .int 0])), (p0, .inr (7, [.int 0, .int 365, .int 0, .int 0, .ref p1, .int 0, .ref p2, .ref p3, .ref p4, .ref p5, .int 0, .ref p6, .int 0, .ref p7, .ref p8, .ref p9, .int 0]))] sz)) (va_Qi (fun (_ : Int32) (_ : Unit) => False) (fun (_ : Unit) _ => True) (va_A [(h0, .inr (10, [.ref b0, .int 0, .ref p0, .ref u0, .ref r0, .ref a0, .ref t0, .ref s0, .ref o0])), (a0, .inr (4, [.ref p0, .ref a1, .ref a3, .ref a4, .ref a5, .ref a6, .int 0, .int 0, .int 0, .long 0, .long 0, .long 0, .int 0, .int 0, .int 0, .int 0, .int 365, .int 0, .int 0, .int 0])), (p0, .inr (7, [.int 0, .int 365, .int 0, .int 0, .ref p1, .int 0, .ref p2, .ref p3, .ref p4, .ref p5, .int 0, .ref p6, .int 0, .ref p7, .ref p8, .ref p9, .int 0]))] sz)) (vx_X (fun _ : Unit => True) (fun E _ _ => E = "java/lang/IllegalArgumentException") (va_A [(h0, .inr (10, [.ref b0, .int 0, .ref p0, .ref u0, .ref r0, .ref a0, .ref t0, .ref s0, .ref o0])), (a0, .inr (4, [.ref p0, .ref a1, .ref a3, .ref a4, .ref a5, .ref a6, .int 0, .int 0, .int 0, .long 0, .long 0, .long 0, .int 0, .int 0, .int 0, .int 0, .int 365, .int 0, .int 0, .int 0])), (p0, .inr (7, [.int 0, .int 365, .int 0, .int 0, .ref p1, .int 0, .ref p2, .ref p3, .ref p4, .ref p5, .int 0, .ref p6, .int 0, .ref p7, .ref p8, .ref p9, .int 0]))] sz)) 1 6 (va_A [(h0, .inr (10, [.ref b0, .int 0, .ref p0, .ref u0, .ref r0, .ref a0, .ref t0, .ref s0, .ref o0])), (a0, .inr (4, [.ref p0, .ref a1, .ref a3, .ref a4, .ref a5, .ref a6, .int 0, .int 0, .int 0, .long 0, .long 0, .long 0, .int 0, .int 0, .int 0, .int 0, .int 365, .int 0, .int 0, .int 0])), (p0, .inr (7, [.int 0, .int 365, .int 0, .int 0, .ref p1, .int 0, .ref p2, .ref p3, .ref p4, .ref p5, .int 0, .ref p6, .int 0, .ref p7, .ref p8, .ref p9, .int 0]))] sz) := by
  refine vx_ofW (cc := cX9_deposit) (maxL := 2) (ret := (some .int)) (by decide) rfl ?_
  intro p e s m args below meth c s₁ B hml hno hv
  obtain ⟨rfl, hsz, hP, hK, hD0, hC, hZ⟩ := hv
  have hx := B.exec
  have hb := B.bytes
  have hr := B.returns
  have hts := atoms_spec (ws := wsX9_deposit) B.pre
  have hown : s.vm.findClass RX9 = some m.cls := findClass_of_methodNamed B.named
  have hlocks := B.notSynchronized
  subst hsz
  have hD := hD0.self (sz := s.heap.size)
  generalize hAe : va_A [(h0, .inr (10, [.ref b0, .int 0, .ref p0, .ref u0, .ref r0, .ref a0, .ref t0, .ref s0, .ref o0])), (a0, .inr (4, [.ref p0, .ref a1, .ref a3, .ref a4, .ref a5, .ref a6, .int 0, .int 0, .int 0, .long 0, .long 0, .long 0, .int 0, .int 0, .int 0, .int 0, .int 365, .int 0, .int 0, .int 0])), (p0, .inr (7, [.int 0, .int 365, .int 0, .int 0, .ref p1, .int 0, .ref p2, .ref p3, .ref p4, .ref p5, .int 0, .ref p6, .int 0, .ref p7, .ref p8, .ref p9, .int 0]))] s.heap.size = A at hD hZ ⊢
  have hA : ∀ q : Nat, s.heap.size ≤ q → A q := fun q h => by rw [← hAe]; exact Or.inr h
  have hS : va_S A s.heap s.heap [] := va_S.rf
  have hP : va_P D vwCl [(h0, .inr (10, [.ref b0, .int 0, .ref p0, .ref u0, .ref r0, .ref a0, .ref t0, .ref s0, .ref o0])), (a0, .inr (4, [.ref p0, .ref a1, .ref a3, .ref a4, .ref a5, .ref a6, .int 0, .int 0, .int 0, .long 0, .long 0, .long 0, .int 0, .int 0, .int 0, .int 0, .int 365, .int 0, .int 0, .int 0])), (p0, .inr (7, [.int 0, .int 365, .int 0, .int 0, .ref p1, .int 0, .ref p2, .ref p3, .ref p4, .ref p5, .int 0, .ref p6, .int 0, .ref p7, .ref p8, .ref p9, .int 0]))] s.heap := hP
  have hl := lv_entry ([.ref h0, .int a]) (n := 2) (Nat.le_of_ble_eq_true rfl)
  rw [lg_entry_eq]
  generalize (lg_sl ([.ref h0, .int a]) ++ List.replicate (2 - (lg_sl ([.ref h0, .int a])).length) Slot.unset).toArray = ls at hl ⊢
  have hl : lv_has ls 2 [(0, .ref h0), (1, .int a)] := hl
  refine lv_iload_n hx hb dX9_deposit_0 rfl (lv_at hl 1 rfl) ?_
  refine lv_iconst (v := 1) hx hb dX9_deposit_1 (by decide) ?_
  refine lv_ldc (v := 99999) hx hb hown (hts (.constant RX9 239 99999) (by decide +kernel)) dX9_deposit_2 ?_
  have hPc := hP.sub (ws' := []) [] rfl
  have hDc := hD.sub (ws' := []) [] (by decide) rfl
  have hFc := va_free (wc := []) hD hS hA [] rfl
  refine vx_callv (vx_runS (As := [.int a, .int 1, .int 99999]) (rest := []) ⟨hx, hb, hml, hown, hts⟩ (c_needRange_thr l D cA sa a 1 99999 s.heap.size hl9 h) (va_cwS 3 hts gX9_deposit_X9_needRange rfl rfl rfl (by decide +kernel) ⟨(Nat.le_of_ble_eq_true rfl), (Nat.le_of_ble_eq_true rfl)⟩) ⟨Wd.blind, fun U hU hW => ⟨rfl, Wd.call hPc hDc hK hC hZ hS hFc U hU hW⟩⟩ rfl rfl hl.1 rfl (lv_room (Nat.le_of_ble_eq_true rfl)) dX9_deposit_4 ⟨(Nat.le_of_ble_eq_true rfl), (Nat.le_of_ble_eq_true rfl)⟩) hS (fun q _ h => hFc q h) hFc (fun q _ h => hFc q h) (fun E ce q9 u t H1 locs ht hvm hpx hE hz1 hk1 hS hcell hv9 hcl => ?_) (fun u t H1 locs ht hvm hw hB hz1 hk1 hS => hw.elim)
  exact vx_out (fun x h => (hno x h).elim) hlocks hcell hv9 hcl (fun t ht hvm => ⟨(), trivial, hE, hS.F ht⟩) hS.2.2 (Nat.le_of_ble_eq_true rfl) (Nat.le_of_ble_eq_true rfl)

set_option maxHeartbeats 4000000 in
set_option maxRecDepth 100000 in
/-- setGrace within -/
theorem c_setGrace_ret (l : Launch) (D : va_G) (cA : Nat → ClassId) (sa : Nat → Nat) (h0 b0 p0 u0 r0 a0 t0 s0 o0 s1 m0 m1 m2 m3 m4 m5 m6 a1 a2 a3 a4 a5 a6 p1 p2 p3 p4 p5 p6 p7 p8 p9 : Nat) (x0 x6 x7 x8 x9 x10 x11 x12 x13 x14 x15 x16 x17 x18 x19 : Value) (n2 k2 : Int32) (q2 q3 q4 q5 q6 e2 e3 e4 e5 e6 : Nat → Int32) (FR : Nat → Option Nat) (a : Int32) (sz : Nat) (hF : FR 0 = some m0) (h1 : ¬ a < 0) (h2 : ¬ 60 < a) : Met l yX9_setGrace wsX9_setGrace ({ frames := 4, cells := 0, slots := 0, locals := 123 }) (va_Pc [.ref h0, .int a] (Wd D cA sa [(h0, .inr (10, [.ref b0, .int 0, .ref p0, .ref u0, .ref r0, .ref a0, .ref t0, .ref s0, .ref o0])), (s0, .inr (5, [.ref s1, .int 0, .int 0])), (s1, .inl (cA 5, 10, .inr (.inr (.inr (.inr FR))))), (m0, .inr (4, [x0, .ref m1, .ref m3, .ref m4, .ref m5, .ref m6, x6, x7, x8, x9, x10, x11, x12, x13, x14, x15, x16, x17, x18, x19])), (m1, .inr (6, [.ref m2, .int n2, .int k2])), (m2, .inl (cA 0, 240, .inl q2)), (m3, .inl (cA 0, 10, .inl q3)), (m4, .inl (cA 0, 10, .inl q4)), (m5, .inl (cA 0, 10, .inl q5)), (m6, .inl (cA 0, 10, .inl q6)), (a0, .inr (4, [.ref p0, .ref a1, .ref a3, .ref a4, .ref a5, .ref a6, .int 0, .int 0, .int 0, .long 0, .long 0, .long 0, .int 0, .int 0, .int 0, .int 0, .int 365, .int 0, .int 0, .int 0])), (a1, .inr (6, [.ref a2, .int 0, .int 0])), (a2, .inl (cA 0, 240, .inl e2)), (a3, .inl (cA 0, 10, .inl e3)), (a4, .inl (cA 0, 10, .inl e4)), (a5, .inl (cA 0, 10, .inl e5)), (a6, .inl (cA 0, 10, .inl e6)), (p0, .inr (7, [.int 0, .int 365, .int 0, .int 0, .ref p1, .int 0, .ref p2, .ref p3, .ref p4, .ref p5, .int 0, .ref p6, .int 0, .ref p7, .ref p8, .ref p9, .int 0]))] sz)) (va_Qi (fun (r : Int32) (_ : Unit) => r = 0) (fun (_ : Unit) t => Wq D (va_A [(h0, .inr (10, [.ref b0, .int 0, .ref p0, .ref u0, .ref r0, .ref a0, .ref t0, .ref s0, .ref o0])), (s0, .inr (5, [.ref s1, .int 0, .int 0])), (s1, .inl (cA 5, 10, .inr (.inr (.inr (.inr FR))))), (m0, .inr (4, [x0, .ref m1, .ref m3, .ref m4, .ref m5, .ref m6, x6, x7, x8, x9, x10, x11, x12, x13, x14, x15, x16, x17, x18, x19])), (m1, .inr (6, [.ref m2, .int n2, .int k2])), (m2, .inl (cA 0, 240, .inl q2)), (m3, .inl (cA 0, 10, .inl q3)), (m4, .inl (cA 0, 10, .inl q4)), (m5, .inl (cA 0, 10, .inl q5)), (m6, .inl (cA 0, 10, .inl q6)), (a0, .inr (4, [.ref p0, .ref a1, .ref a3, .ref a4, .ref a5, .ref a6, .int 0, .int 0, .int 0, .long 0, .long 0, .long 0, .int 0, .int 0, .int 0, .int 0, .int 365, .int 0, .int 0, .int 0])), (a1, .inr (6, [.ref a2, .int 0, .int 0])), (a2, .inl (cA 0, 240, .inl e2)), (a3, .inl (cA 0, 10, .inl e3)), (a4, .inl (cA 0, 10, .inl e4)), (a5, .inl (cA 0, 10, .inl e5)), (a6, .inl (cA 0, 10, .inl e6)), (p0, .inr (7, [.int 0, .int 365, .int 0, .int 0, .ref p1, .int 0, .ref p2, .ref p3, .ref p4, .ref p5, .int 0, .ref p6, .int 0, .ref p7, .ref p8, .ref p9, .int 0]))] sz) [] t) (va_A [(h0, .inr (10, [.ref b0, .int 0, .ref p0, .ref u0, .ref r0, .ref a0, .ref t0, .ref s0, .ref o0])), (s0, .inr (5, [.ref s1, .int 0, .int 0])), (s1, .inl (cA 5, 10, .inr (.inr (.inr (.inr FR))))), (m0, .inr (4, [x0, .ref m1, .ref m3, .ref m4, .ref m5, .ref m6, x6, x7, x8, x9, x10, x11, x12, x13, x14, x15, x16, x17, x18, x19])), (m1, .inr (6, [.ref m2, .int n2, .int k2])), (m2, .inl (cA 0, 240, .inl q2)), (m3, .inl (cA 0, 10, .inl q3)), (m4, .inl (cA 0, 10, .inl q4)), (m5, .inl (cA 0, 10, .inl q5)), (m6, .inl (cA 0, 10, .inl q6)), (a0, .inr (4, [.ref p0, .ref a1, .ref a3, .ref a4, .ref a5, .ref a6, .int 0, .int 0, .int 0, .long 0, .long 0, .long 0, .int 0, .int 0, .int 0, .int 0, .int 365, .int 0, .int 0, .int 0])), (a1, .inr (6, [.ref a2, .int 0, .int 0])), (a2, .inl (cA 0, 240, .inl e2)), (a3, .inl (cA 0, 10, .inl e3)), (a4, .inl (cA 0, 10, .inl e4)), (a5, .inl (cA 0, 10, .inl e5)), (a6, .inl (cA 0, 10, .inl e6)), (p0, .inr (7, [.int 0, .int 365, .int 0, .int 0, .ref p1, .int 0, .ref p2, .ref p3, .ref p4, .ref p5, .int 0, .ref p6, .int 0, .ref p7, .ref p8, .ref p9, .int 0]))] sz)) 0 0 (va_A [(h0, .inr (10, [.ref b0, .int 0, .ref p0, .ref u0, .ref r0, .ref a0, .ref t0, .ref s0, .ref o0])), (s0, .inr (5, [.ref s1, .int 0, .int 0])), (s1, .inl (cA 5, 10, .inr (.inr (.inr (.inr FR))))), (m0, .inr (4, [x0, .ref m1, .ref m3, .ref m4, .ref m5, .ref m6, x6, x7, x8, x9, x10, x11, x12, x13, x14, x15, x16, x17, x18, x19])), (m1, .inr (6, [.ref m2, .int n2, .int k2])), (m2, .inl (cA 0, 240, .inl q2)), (m3, .inl (cA 0, 10, .inl q3)), (m4, .inl (cA 0, 10, .inl q4)), (m5, .inl (cA 0, 10, .inl q5)), (m6, .inl (cA 0, 10, .inl q6)), (a0, .inr (4, [.ref p0, .ref a1, .ref a3, .ref a4, .ref a5, .ref a6, .int 0, .int 0, .int 0, .long 0, .long 0, .long 0, .int 0, .int 0, .int 0, .int 0, .int 365, .int 0, .int 0, .int 0])), (a1, .inr (6, [.ref a2, .int 0, .int 0])), (a2, .inl (cA 0, 240, .inl e2)), (a3, .inl (cA 0, 10, .inl e3)), (a4, .inl (cA 0, 10, .inl e4)), (a5, .inl (cA 0, 10, .inl e5)), (a6, .inl (cA 0, 10, .inl e6)), (p0, .inr (7, [.int 0, .int 365, .int 0, .int 0, .ref p1, .int 0, .ref p2, .ref p3, .ref p4, .ref p5, .int 0, .ref p6, .int 0, .ref p7, .ref p8, .ref p9, .int 0]))] sz) := by
  refine Met.ofW (cc := cX9_setGrace) (maxL := 3) (ret := (some .int)) (by decide) rfl ?_
  intro p e s m args below meth c s₁ B hml hv
  obtain ⟨rfl, hsz, hP, hK, hD0, hC, hZ⟩ := hv
  have hx := B.exec
  have hb := B.bytes
  have hr := B.returns
  have hts := atoms_spec (ws := wsX9_setGrace) B.pre
  have hown : s.vm.findClass RX9 = some m.cls := findClass_of_methodNamed B.named
  have hlocks := B.notSynchronized
  subst hsz
  have hD := hD0.self (sz := s.heap.size)
  generalize hAe : va_A [(h0, .inr (10, [.ref b0, .int 0, .ref p0, .ref u0, .ref r0, .ref a0, .ref t0, .ref s0, .ref o0])), (s0, .inr (5, [.ref s1, .int 0, .int 0])), (s1, .inl (cA 5, 10, .inr (.inr (.inr (.inr FR))))), (m0, .inr (4, [x0, .ref m1, .ref m3, .ref m4, .ref m5, .ref m6, x6, x7, x8, x9, x10, x11, x12, x13, x14, x15, x16, x17, x18, x19])), (m1, .inr (6, [.ref m2, .int n2, .int k2])), (m2, .inl (cA 0, 240, .inl q2)), (m3, .inl (cA 0, 10, .inl q3)), (m4, .inl (cA 0, 10, .inl q4)), (m5, .inl (cA 0, 10, .inl q5)), (m6, .inl (cA 0, 10, .inl q6)), (a0, .inr (4, [.ref p0, .ref a1, .ref a3, .ref a4, .ref a5, .ref a6, .int 0, .int 0, .int 0, .long 0, .long 0, .long 0, .int 0, .int 0, .int 0, .int 0, .int 365, .int 0, .int 0, .int 0])), (a1, .inr (6, [.ref a2, .int 0, .int 0])), (a2, .inl (cA 0, 240, .inl e2)), (a3, .inl (cA 0, 10, .inl e3)), (a4, .inl (cA 0, 10, .inl e4)), (a5, .inl (cA 0, 10, .inl e5)), (a6, .inl (cA 0, 10, .inl e6)), (p0, .inr (7, [.int 0, .int 365, .int 0, .int 0, .ref p1, .int 0, .ref p2, .ref p3, .ref p4, .ref p5, .int 0, .ref p6, .int 0, .ref p7, .ref p8, .ref p9, .int 0]))] s.heap.size = A at hD hZ ⊢
  have hA : ∀ q : Nat, s.heap.size ≤ q → A q := fun q h => by rw [← hAe]; exact Or.inr h
  have hS : va_S A s.heap s.heap [] := va_S.rf
  have hP : va_P D vwCl [(h0, .inr (10, [.ref b0, .int 0, .ref p0, .ref u0, .ref r0, .ref a0, .ref t0, .ref s0, .ref o0])), (s0, .inr (5, [.ref s1, .int 0, .int 0])), (s1, .inl (cA 5, 10, .inr (.inr (.inr (.inr FR))))), (m0, .inr (4, [x0, .ref m1, .ref m3, .ref m4, .ref m5, .ref m6, x6, x7, x8, x9, x10, x11, x12, x13, x14, x15, x16, x17, x18, x19])), (m1, .inr (6, [.ref m2, .int n2, .int k2])), (m2, .inl (cA 0, 240, .inl q2)), (m3, .inl (cA 0, 10, .inl q3)), (m4, .inl (cA 0, 10, .inl q4)), (m5, .inl (cA 0, 10, .inl q5)), (m6, .inl (cA 0, 10, .inl q6)), (a0, .inr (4, [.ref p0, .ref a1, .ref a3, .ref a4, .ref a5, .ref a6, .int 0, .int 0, .int 0, .long 0, .long 0, .long 0, .int 0, .int 0, .int 0, .int 0, .int 365, .int 0, .int 0, .int 0])), (a1, .inr (6, [.ref a2, .int 0, .int 0])), (a2, .inl (cA 0, 240, .inl e2)), (a3, .inl (cA 0, 10, .inl e3)), (a4, .inl (cA 0, 10, .inl e4)), (a5, .inl (cA 0, 10, .inl e5)), (a6, .inl (cA 0, 10, .inl e6)), (p0, .inr (7, [.int 0, .int 365, .int 0, .int 0, .ref p1, .int 0, .ref p2, .ref p3, .ref p4, .ref p5, .int 0, .ref p6, .int 0, .ref p7, .ref p8, .ref p9, .int 0]))] s.heap := hP
  have hl := lv_entry ([.ref h0, .int a]) (n := 3) (Nat.le_of_ble_eq_true rfl)
  rw [lg_entry_eq]
  generalize (lg_sl ([.ref h0, .int a]) ++ List.replicate (3 - (lg_sl ([.ref h0, .int a])).length) Slot.unset).toArray = ls at hl ⊢
  have hl : lv_has ls 3 [(0, .ref h0), (1, .int a)] := hl
  have inX0 : ∀ w ∈ u_ws RX0 TX0 20, w ∈ wsX9_setGrace := by decide +kernel
  have inX9 : ∀ w ∈ u_ws RX9 TX9 9, w ∈ wsX9_setGrace := by decide +kernel
  refine lv_iload_n hx hb dX9_setGrace_0 rfl (lv_at hl 1 rfl) ?_
  refine lv_iconst (v := 0) hx hb dX9_setGrace_1 (by decide) ?_
  refine lv_bipush (v := 60) hx hb dX9_setGrace_2 (by decide) ?_
  have hPc := hP.sub (ws' := []) [] rfl
  have hDc := hD.sub (ws' := []) [] (by decide) rfl
  have hFc := va_free (wc := []) hD hS hA [] rfl
  refine va_callv (va_runS (As := [.int a, .int 0, .int 60]) (rest := []) ⟨hx, hb, hml, hown, hts⟩ (c_needRange_ret l D cA sa a 0 60 s.heap.size h1 h2) (va_cwS 3 hts gX9_setGrace_X9_needRange rfl rfl rfl (by decide +kernel) ⟨(Nat.le_of_ble_eq_true rfl), (Nat.le_of_ble_eq_true rfl)⟩) ⟨Wd.blind, fun U hU hW => ⟨rfl, Wd.call hPc hDc hK hC hZ hS hFc U hU hW⟩⟩ rfl rfl hl.1 rfl (lv_room (Nat.le_of_ble_eq_true rfl)) dX9_setGrace_4 ⟨(Nat.le_of_ble_eq_true rfl), (Nat.le_of_ble_eq_true rfl)⟩) hS (fun q _ h => hFc q h) hFc (fun u t H1 locs ht hvm hw hB hz1 hk1 hS => ?_)
  obtain ⟨hP1, hD1⟩ := hB
  rw [ht] at hP1
  obtain ⟨hP, hD⟩ := va_join (wr := [(h0, .inr (10, [.ref b0, .int 0, .ref p0, .ref u0, .ref r0, .ref a0, .ref t0, .ref s0, .ref o0])), (s0, .inr (5, [.ref s1, .int 0, .int 0])), (s1, .inl (cA 5, 10, .inr (.inr (.inr (.inr FR))))), (m0, .inr (4, [x0, .ref m1, .ref m3, .ref m4, .ref m5, .ref m6, x6, x7, x8, x9, x10, x11, x12, x13, x14, x15, x16, x17, x18, x19])), (m1, .inr (6, [.ref m2, .int n2, .int k2])), (m2, .inl (cA 0, 240, .inl q2)), (m3, .inl (cA 0, 10, .inl q3)), (m4, .inl (cA 0, 10, .inl q4)), (m5, .inl (cA 0, 10, .inl q5)), (m6, .inl (cA 0, 10, .inl q6)), (a0, .inr (4, [.ref p0, .ref a1, .ref a3, .ref a4, .ref a5, .ref a6, .int 0, .int 0, .int 0, .long 0, .long 0, .long 0, .int 0, .int 0, .int 0, .int 0, .int 365, .int 0, .int 0, .int 0])), (a1, .inr (6, [.ref a2, .int 0, .int 0])), (a2, .inl (cA 0, 240, .inl e2)), (a3, .inl (cA 0, 10, .inl e3)), (a4, .inl (cA 0, 10, .inl e4)), (a5, .inl (cA 0, 10, .inl e5)), (a6, .inl (cA 0, 10, .inl e6)), (p0, .inr (7, [.int 0, .int 365, .int 0, .int 0, .ref p1, .int 0, .ref p2, .ref p3, .ref p4, .ref p5, .int 0, .ref p6, .int 0, .ref p7, .ref p8, .ref p9, .int 0]))]) (w1 := []) hP hD [] [0, 1, 2, 3, 4, 5, 6, 7, 8, 9, 10, 11, 12, 13, 14, 15, 16, 17] rfl rfl (by decide) (by decide) hk1 hFc hP1 hD1
  generalize H1 = H at hP hS ⊢
  have hP : va_P D vwCl [(h0, .inr (10, [.ref b0, .int 0, .ref p0, .ref u0, .ref r0, .ref a0, .ref t0, .ref s0, .ref o0])), (s0, .inr (5, [.ref s1, .int 0, .int 0])), (s1, .inl (cA 5, 10, .inr (.inr (.inr (.inr FR))))), (m0, .inr (4, [x0, .ref m1, .ref m3, .ref m4, .ref m5, .ref m6, x6, x7, x8, x9, x10, x11, x12, x13, x14, x15, x16, x17, x18, x19])), (m1, .inr (6, [.ref m2, .int n2, .int k2])), (m2, .inl (cA 0, 240, .inl q2)), (m3, .inl (cA 0, 10, .inl q3)), (m4, .inl (cA 0, 10, .inl q4)), (m5, .inl (cA 0, 10, .inl q5)), (m6, .inl (cA 0, 10, .inl q6)), (a0, .inr (4, [.ref p0, .ref a1, .ref a3, .ref a4, .ref a5, .ref a6, .int 0, .int 0, .int 0, .long 0, .long 0, .long 0, .int 0, .int 0, .int 0, .int 0, .int 365, .int 0, .int 0, .int 0])), (a1, .inr (6, [.ref a2, .int 0, .int 0])), (a2, .inl (cA 0, 240, .inl e2)), (a3, .inl (cA 0, 10, .inl e3)), (a4, .inl (cA 0, 10, .inl e4)), (a5, .inl (cA 0, 10, .inl e5)), (a6, .inl (cA 0, 10, .inl e6)), (p0, .inr (7, [.int 0, .int 365, .int 0, .int 0, .ref p1, .int 0, .ref p2, .ref p3, .ref p4, .ref p5, .int 0, .ref p6, .int 0, .ref p7, .ref p8, .ref p9, .int 0]))] H := hP
  have hD : va_D A [(h0, .inr (10, [.ref b0, .int 0, .ref p0, .ref u0, .ref r0, .ref a0, .ref t0, .ref s0, .ref o0])), (s0, .inr (5, [.ref s1, .int 0, .int 0])), (s1, .inl (cA 5, 10, .inr (.inr (.inr (.inr FR))))), (m0, .inr (4, [x0, .ref m1, .ref m3, .ref m4, .ref m5, .ref m6, x6, x7, x8, x9, x10, x11, x12, x13, x14, x15, x16, x17, x18, x19])), (m1, .inr (6, [.ref m2, .int n2, .int k2])), (m2, .inl (cA 0, 240, .inl q2)), (m3, .inl (cA 0, 10, .inl q3)), (m4, .inl (cA 0, 10, .inl q4)), (m5, .inl (cA 0, 10, .inl q5)), (m6, .inl (cA 0, 10, .inl q6)), (a0, .inr (4, [.ref p0, .ref a1, .ref a3, .ref a4, .ref a5, .ref a6, .int 0, .int 0, .int 0, .long 0, .long 0, .long 0, .int 0, .int 0, .int 0, .int 0, .int 365, .int 0, .int 0, .int 0])), (a1, .inr (6, [.ref a2, .int 0, .int 0])), (a2, .inl (cA 0, 240, .inl e2)), (a3, .inl (cA 0, 10, .inl e3)), (a4, .inl (cA 0, 10, .inl e4)), (a5, .inl (cA 0, 10, .inl e5)), (a6, .inl (cA 0, 10, .inl e6)), (p0, .inr (7, [.int 0, .int 365, .int 0, .int 0, .ref p1, .int 0, .ref p2, .ref p3, .ref p4, .ref p5, .int 0, .ref p6, .int 0, .ref p7, .ref p8, .ref p9, .int 0]))] := hD
  refine lv_aload_n hx hb dX9_setGrace_7 rfl (lv_at hl 0 rfl) ?_
  refine va_get (D := D) (ci := 10) (v := .ref s0) (C := RX9) (T := TX9) (N := 9) hx hb hts inX9 hown hK hP 0 rfl rfl 7 (by decide) (hts (.fieldLink RX9 45 "EscrowDesk" "history" "LEscrowDesk$History;") (by decide +kernel)) (fun _ h9 => h9) rfl dX9_setGrace_8 ?_
  refine lv_aload_n hx hb dX9_setGrace_11 rfl (lv_at hl 0 rfl) ?_
  refine va_get (D := D) (ci := 10) (v := .ref a0) (C := RX9) (T := TX9) (N := 9) hx hb hts inX9 hown hK hP 0 rfl rfl 5 (by decide) (hts (.fieldLink RX9 35 "EscrowDesk" "account" "LEscrowDesk$Account;") (by decide +kernel)) (fun _ h9 => h9) rfl dX9_setGrace_12 ?_
  have hPc := hP.sub (ws' := [(s0, .inr (5, [.ref s1, .int 0, .int 0])), (s1, .inl (cA 5, 10, .inr (.inr (.inr (.inr FR))))), (m0, .inr (4, [x0, .ref m1, .ref m3, .ref m4, .ref m5, .ref m6, x6, x7, x8, x9, x10, x11, x12, x13, x14, x15, x16, x17, x18, x19])), (m1, .inr (6, [.ref m2, .int n2, .int k2])), (m2, .inl (cA 0, 240, .inl q2)), (m3, .inl (cA 0, 10, .inl q3)), (m4, .inl (cA 0, 10, .inl q4)), (m5, .inl (cA 0, 10, .inl q5)), (m6, .inl (cA 0, 10, .inl q6)), (a0, .inr (4, [.ref p0, .ref a1, .ref a3, .ref a4, .ref a5, .ref a6, .int 0, .int 0, .int 0, .long 0, .long 0, .long 0, .int 0, .int 0, .int 0, .int 0, .int 365, .int 0, .int 0, .int 0])), (a1, .inr (6, [.ref a2, .int 0, .int 0])), (a2, .inl (cA 0, 240, .inl e2)), (a3, .inl (cA 0, 10, .inl e3)), (a4, .inl (cA 0, 10, .inl e4)), (a5, .inl (cA 0, 10, .inl e5)), (a6, .inl (cA 0, 10, .inl e6))]) [1, 2, 3, 4, 5, 6, 7, 8, 9, 10, 11, 12, 13, 14, 15, 16] rfl
  have hDc := hD.sub (ws' := [(s0, .inr (5, [.ref s1, .int 0, .int 0])), (s1, .inl (cA 5, 10, .inr (.inr (.inr (.inr FR))))), (m0, .inr (4, [x0, .ref m1, .ref m3, .ref m4, .ref m5, .ref m6, x6, x7, x8, x9, x10, x11, x12, x13, x14, x15, x16, x17, x18, x19])), (m1, .inr (6, [.ref m2, .int n2, .int k2])), (m2, .inl (cA 0, 240, .inl q2)), (m3, .inl (cA 0, 10, .inl q3)), (m4, .inl (cA 0, 10, .inl q4)), (m5, .inl (cA 0, 10, .inl q5)), (m6, .inl (cA 0, 10, .inl q6)), (a0, .inr (4, [.ref p0, .ref a1, .ref a3, .ref a4, .ref a5, .ref a6, .int 0, .int 0, .int 0, .long 0, .long 0, .long 0, .int 0, .int 0, .int 0, .int 0, .int 365, .int 0, .int 0, .int 0])), (a1, .inr (6, [.ref a2, .int 0, .int 0])), (a2, .inl (cA 0, 240, .inl e2)), (a3, .inl (cA 0, 10, .inl e3)), (a4, .inl (cA 0, 10, .inl e4)), (a5, .inl (cA 0, 10, .inl e5)), (a6, .inl (cA 0, 10, .inl e6))]) [1, 2, 3, 4, 5, 6, 7, 8, 9, 10, 11, 12, 13, 14, 15, 16] (by decide) rfl
  have hFc := va_free (wc := [(s0, .inr (5, [.ref s1, .int 0, .int 0])), (s1, .inl (cA 5, 10, .inr (.inr (.inr (.inr FR))))), (m0, .inr (4, [x0, .ref m1, .ref m3, .ref m4, .ref m5, .ref m6, x6, x7, x8, x9, x10, x11, x12, x13, x14, x15, x16, x17, x18, x19])), (m1, .inr (6, [.ref m2, .int n2, .int k2])), (m2, .inl (cA 0, 240, .inl q2)), (m3, .inl (cA 0, 10, .inl q3)), (m4, .inl (cA 0, 10, .inl q4)), (m5, .inl (cA 0, 10, .inl q5)), (m6, .inl (cA 0, 10, .inl q6)), (a0, .inr (4, [.ref p0, .ref a1, .ref a3, .ref a4, .ref a5, .ref a6, .int 0, .int 0, .int 0, .long 0, .long 0, .long 0, .int 0, .int 0, .int 0, .int 0, .int 365, .int 0, .int 0, .int 0])), (a1, .inr (6, [.ref a2, .int 0, .int 0])), (a2, .inl (cA 0, 240, .inl e2)), (a3, .inl (cA 0, 10, .inl e3)), (a4, .inl (cA 0, 10, .inl e4)), (a5, .inl (cA 0, 10, .inl e5)), (a6, .inl (cA 0, 10, .inl e6))]) hD hS hA [1, 2, 3, 4, 5, 6, 7, 8, 9, 10, 11, 12, 13, 14, 15, 16] rfl
  refine va_callv (va_runV (As := [.ref a0]) (rest := []) ⟨hx, hb, hml, hown, hts⟩ (c_remember l D cA sa s0 s1 m0 m1 m2 m3 m4 m5 m6 a0 a1 a2 a3 a4 a5 a6 p0 x0 x6 x7 x8 x9 x10 x11 x12 x13 x14 x15 x16 x17 x18 x19 n2 k2 q2 q3 q4 q5 q6 e2 e3 e4 e5 e6 FR H.size hF) (cwV 1 hts gX9_setGrace_X1_remember rfl rfl rfl (by decide +kernel) ⟨(Nat.le_of_ble_eq_true rfl), (Nat.le_of_ble_eq_true rfl)⟩) ⟨Wd.blind, va_recv hK hPc (ci := 5) (q0 := 0) rfl rfl, fun U hU hW => ⟨rfl, Wd.call hPc hDc hK hC hZ hS hFc U hU hW⟩⟩ rfl rfl hl.1 rfl (lv_room (Nat.le_of_ble_eq_true rfl)) dX9_setGrace_15 ⟨(Nat.le_of_ble_eq_true rfl), (Nat.le_of_ble_eq_true rfl)⟩) hS (fun q _ h => hFc q h) hFc (fun u t H1 locs ht hvm hw hB hz1 hk1 hS => ?_)
  obtain ⟨hP1, hD1⟩ := hB
  rw [ht] at hP1
  obtain ⟨hP, hD⟩ := va_join (wr := [(h0, .inr (10, [.ref b0, .int 0, .ref p0, .ref u0, .ref r0, .ref a0, .ref t0, .ref s0, .ref o0])), (p0, .inr (7, [.int 0, .int 365, .int 0, .int 0, .ref p1, .int 0, .ref p2, .ref p3, .ref p4, .ref p5, .int 0, .ref p6, .int 0, .ref p7, .ref p8, .ref p9, .int 0]))]) (w1 := [(a0, .inr (4, [.ref p0, .ref a1, .ref a3, .ref a4, .ref a5, .ref a6, .int 0, .int 0, .int 0, .long 0, .long 0, .long 0, .int 0, .int 0, .int 0, .int 0, .int 365, .int 0, .int 0, .int 0])), (a1, .inr (6, [.ref a2, .int 0, .int 0])), (a2, .inl (cA 0, 240, .inl e2)), (a3, .inl (cA 0, 10, .inl e3)), (a4, .inl (cA 0, 10, .inl e4)), (a5, .inl (cA 0, 10, .inl e5)), (a6, .inl (cA 0, 10, .inl e6))]) hP hD [1, 2, 3, 4, 5, 6, 7, 8, 9, 10, 11, 12, 13, 14, 15, 16] [0, 17] rfl rfl (by decide) (by decide) hk1 hFc hP1 hD1
  generalize H1 = H at hP hS ⊢
  have hP : va_P D vwCl [(h0, .inr (10, [.ref b0, .int 0, .ref p0, .ref u0, .ref r0, .ref a0, .ref t0, .ref s0, .ref o0])), (p0, .inr (7, [.int 0, .int 365, .int 0, .int 0, .ref p1, .int 0, .ref p2, .ref p3, .ref p4, .ref p5, .int 0, .ref p6, .int 0, .ref p7, .ref p8, .ref p9, .int 0])), (a0, .inr (4, [.ref p0, .ref a1, .ref a3, .ref a4, .ref a5, .ref a6, .int 0, .int 0, .int 0, .long 0, .long 0, .long 0, .int 0, .int 0, .int 0, .int 0, .int 365, .int 0, .int 0, .int 0])), (a1, .inr (6, [.ref a2, .int 0, .int 0])), (a2, .inl (cA 0, 240, .inl e2)), (a3, .inl (cA 0, 10, .inl e3)), (a4, .inl (cA 0, 10, .inl e4)), (a5, .inl (cA 0, 10, .inl e5)), (a6, .inl (cA 0, 10, .inl e6))] H := hP
  have hD : va_D A [(h0, .inr (10, [.ref b0, .int 0, .ref p0, .ref u0, .ref r0, .ref a0, .ref t0, .ref s0, .ref o0])), (p0, .inr (7, [.int 0, .int 365, .int 0, .int 0, .ref p1, .int 0, .ref p2, .ref p3, .ref p4, .ref p5, .int 0, .ref p6, .int 0, .ref p7, .ref p8, .ref p9, .int 0])), (a0, .inr (4, [.ref p0, .ref a1, .ref a3, .ref a4, .ref a5, .ref a6, .int 0, .int 0, .int 0, .long 0, .long 0, .long 0, .int 0, .int 0, .int 0, .int 0, .int 365, .int 0, .int 0, .int 0])), (a1, .inr (6, [.ref a2, .int 0, .int 0])), (a2, .inl (cA 0, 240, .inl e2)), (a3, .inl (cA 0, 10, .inl e3)), (a4, .inl (cA 0, 10, .inl e4)), (a5, .inl (cA 0, 10, .inl e5)), (a6, .inl (cA 0, 10, .inl e6))] := hD
  refine lv_aload_n hx hb dX9_setGrace_18 rfl (lv_at hl 0 rfl) ?_
  refine va_get (D := D) (ci := 10) (v := .ref a0) (C := RX9) (T := TX9) (N := 9) hx hb hts inX9 hown hK hP 0 rfl rfl 5 (by decide) (hts (.fieldLink RX9 35 "EscrowDesk" "account" "LEscrowDesk$Account;") (by decide +kernel)) (fun _ h9 => h9) rfl dX9_setGrace_19 ?_
  refine va_getN (D := D) (ci := 4) (v := .int 0) (C := RX0) (T := TX0) (N := 20) hx hb hts inX0 hown hK hP 2 rfl rfl 17 (by decide) (hC.f (A := _) (a := RX9) (i := 305) (b := "EscrowDesk$Account") (n := "grace") (d := "I") (x := "EscrowDesk") (by decide +kernel)) (fun _ h9 => h9) rfl dX9_setGrace_22 ?_
  refine lv_istore_n (lv' := [(2, .int 0), (0, .ref h0), (1, .int a)]) hx hb dX9_setGrace_25 rfl hl (by decide) rfl (fun ls hl => ?_)
  refine lv_aload_n hx hb dX9_setGrace_26 rfl (lv_at hl 1 rfl) ?_
  refine va_get (D := D) (ci := 10) (v := .ref a0) (C := RX9) (T := TX9) (N := 9) hx hb hts inX9 hown hK hP 0 rfl rfl 5 (by decide) (hts (.fieldLink RX9 35 "EscrowDesk" "account" "LEscrowDesk$Account;") (by decide +kernel)) (fun _ h9 => h9) rfl dX9_setGrace_27 ?_
  refine lv_iload_n hx hb dX9_setGrace_30 rfl (lv_at hl 2 rfl) ?_
  refine va_putN (D := D) (ci := 4) (v := .int a) (ty := .int) (C := RX0) (T := TX0) (N := 20) hx hb hts inX0 tyX0 tyX0_ok nmX0 hown hK hP hD hS 2 rfl rfl 17 (by decide) (hC.f (A := _) (a := RX9) (i := 305) (b := "EscrowDesk$Account") (n := "grace") (d := "I") (x := "EscrowDesk") (by decide +kernel)) (fun _ h9 => h9) rfl (by decide +kernel) rfl rfl (Nat.le_of_ble_eq_true rfl) dX9_setGrace_31 (fun H locs hP hD hS => ?_)
  have hP : va_P D vwCl [(h0, .inr (10, [.ref b0, .int 0, .ref p0, .ref u0, .ref r0, .ref a0, .ref t0, .ref s0, .ref o0])), (p0, .inr (7, [.int 0, .int 365, .int 0, .int 0, .ref p1, .int 0, .ref p2, .ref p3, .ref p4, .ref p5, .int 0, .ref p6, .int 0, .ref p7, .ref p8, .ref p9, .int 0])), (a0, .inr (4, [.ref p0, .ref a1, .ref a3, .ref a4, .ref a5, .ref a6, .int 0, .int 0, .int 0, .long 0, .long 0, .long 0, .int 0, .int 0, .int 0, .int 0, .int 365, .int a, .int 0, .int 0])), (a1, .inr (6, [.ref a2, .int 0, .int 0])), (a2, .inl (cA 0, 240, .inl e2)), (a3, .inl (cA 0, 10, .inl e3)), (a4, .inl (cA 0, 10, .inl e4)), (a5, .inl (cA 0, 10, .inl e5)), (a6, .inl (cA 0, 10, .inl e6))] H := hP
  have hD : va_D A [(h0, .inr (10, [.ref b0, .int 0, .ref p0, .ref u0, .ref r0, .ref a0, .ref t0, .ref s0, .ref o0])), (p0, .inr (7, [.int 0, .int 365, .int 0, .int 0, .ref p1, .int 0, .ref p2, .ref p3, .ref p4, .ref p5, .int 0, .ref p6, .int 0, .ref p7, .ref p8, .ref p9, .int 0])), (a0, .inr (4, [.ref p0, .ref a1, .ref a3, .ref a4, .ref a5, .ref a6, .int 0, .int 0, .int 0, .long 0, .long 0, .long 0, .int 0, .int 0, .int 0, .int 0, .int 365, .int a, .int 0, .int 0])), (a1, .inr (6, [.ref a2, .int 0, .int 0])), (a2, .inl (cA 0, 240, .inl e2)), (a3, .inl (cA 0, 10, .inl e3)), (a4, .inl (cA 0, 10, .inl e4)), (a5, .inl (cA 0, 10, .inl e5)), (a6, .inl (cA 0, 10, .inl e6))] := hD
  refine lv_iload_n hx hb dX9_setGrace_34 rfl (lv_at hl 0 rfl) ?_
  have hP9 := hP.sub (ws' := []) [] rfl
  have hD9 := hD.sub (ws' := []) [] (by decide) rfl
  refine W.widen (k := 0) (n := 0) (Nat.le_of_ble_eq_true rfl) (Nat.le_of_ble_eq_true rfl) ?_
  exact W.iret (v := 0) hx hb hr (fun t ht hW => ⟨⟨0, (), rfl, rfl, by rw [ht]; exact hP9, hD9⟩, hS.F ht⟩) hS.2.2 dX9_setGrace_35

set_option maxHeartbeats 4000000 in
set_option maxRecDepth 100000 in
/-- setGrace outside -/
theorem c_setGrace_thr (l : Launch) (D : va_G) (cA : Nat → ClassId) (sa : Nat → Nat) (h0 b0 p0 u0 r0 a0 t0 s0 o0 : Nat) (a : Int32) (sz : Nat) (hl9 : l.stackTraces = false) (h : a < 0 ∨ 60 < a) : vx_Met l yX9_setGrace wsX9_setGrace ({ frames := 7, cells := 1, slots := 6, locals := 112 }) (va_Pc [.ref h0, .int a] (Wd D cA sa [(h0, .inr (10, [.ref b0, .int 0, .ref p0, .ref u0, .ref r0, .ref a0, .ref t0, .ref s0, .ref o0]))] sz)) (va_Qi (fun (_ : Int32) (_ : Unit) => False) (fun (_ : Unit) _ => True) (va_A [(h0, .inr (10, [.ref b0, .int 0, .ref p0, .ref u0, .ref r0, .ref a0, .ref t0, .ref s0, .ref o0]))] sz)) (vx_X (fun _ : Unit => True) (fun E _ _ => E = "java/lang/IllegalArgumentException") (va_A [(h0, .inr (10, [.ref b0, .int 0, .ref p0, .ref u0, .ref r0, .ref a0, .ref t0, .ref s0, .ref o0]))] sz)) 1 6 (va_A [(h0, .inr (10, [.ref b0, .int 0, .ref p0, .ref u0, .ref r0, .ref a0, .ref t0, .ref s0, .ref o0]))] sz) := by
  refine vx_ofW (cc := cX9_setGrace) (maxL := 3) (ret := (some .int)) (by decide) rfl ?_
  intro p e s m args below meth c s₁ B hml hno hv
  obtain ⟨rfl, hsz, hP, hK, hD0, hC, hZ⟩ := hv
  have hx := B.exec
  have hb := B.bytes
  have hr := B.returns
  have hts := atoms_spec (ws := wsX9_setGrace) B.pre
  have hown : s.vm.findClass RX9 = some m.cls := findClass_of_methodNamed B.named
  have hlocks := B.notSynchronized
  subst hsz
  have hD := hD0.self (sz := s.heap.size)
  generalize hAe : va_A [(h0, .inr (10, [.ref b0, .int 0, .ref p0, .ref u0, .ref r0, .ref a0, .ref t0, .ref s0, .ref o0]))] s.heap.size = A at hD hZ ⊢
  have hA : ∀ q : Nat, s.heap.size ≤ q → A q := fun q h => by rw [← hAe]; exact Or.inr h
  have hS : va_S A s.heap s.heap [] := va_S.rf
  have hP : va_P D vwCl [(h0, .inr (10, [.ref b0, .int 0, .ref p0, .ref u0, .ref r0, .ref a0, .ref t0, .ref s0, .ref o0]))] s.heap := hP
  have hl := lv_entry ([.ref h0, .int a]) (n := 3) (Nat.le_of_ble_eq_true rfl)
  rw [lg_entry_eq]
  generalize (lg_sl ([.ref h0, .int a]) ++ List.replicate (3 - (lg_sl ([.ref h0, .int a])).length) Slot.unset).toArray = ls at hl ⊢
  have hl : lv_has ls 3 [(0, .ref h0), (1, .int a)] := hl
  refine lv_iload_n hx hb dX9_setGrace_0 rfl (lv_at hl 1 rfl) ?_
  refine lv_iconst (v := 0) hx hb dX9_setGrace_1 (by decide) ?_
  refine lv_bipush (v := 60) hx hb dX9_setGrace_2 (by decide) ?_
  have hPc := hP.sub (ws' := []) [] rfl
  have hDc := hD.sub (ws' := []) [] (by decide) rfl
  have hFc := va_free (wc := []) hD hS hA [] rfl
  refine vx_callv (vx_runS (As := [.int a, .int 0, .int 60]) (rest := []) ⟨hx, hb, hml, hown, hts⟩ (c_needRange_thr l D cA sa a 0 60 s.heap.size hl9 h) (va_cwS 3 hts gX9_setGrace_X9_needRange rfl rfl rfl (by decide +kernel) ⟨(Nat.le_of_ble_eq_true rfl), (Nat.le_of_ble_eq_true rfl)⟩) ⟨Wd.blind, fun U hU hW => ⟨rfl, Wd.call hPc hDc hK hC hZ hS hFc U hU hW⟩⟩ rfl rfl hl.1 rfl (lv_room (Nat.le_of_ble_eq_true rfl)) dX9_setGrace_4 ⟨(Nat.le_of_ble_eq_true rfl), (Nat.le_of_ble_eq_true rfl)⟩) hS (fun q _ h => hFc q h) hFc (fun q _ h => hFc q h) (fun E ce q9 u t H1 locs ht hvm hpx hE hz1 hk1 hS hcell hv9 hcl => ?_) (fun u t H1 locs ht hvm hw hB hz1 hk1 hS => hw.elim)
  exact vx_out (fun x h => (hno x h).elim) hlocks hcell hv9 hcl (fun t ht hvm => ⟨(), trivial, hE, hS.F ht⟩) hS.2.2 (Nat.le_of_ble_eq_true rfl) (Nat.le_of_ble_eq_true rfl)

set_option maxHeartbeats 4000000 in
set_option maxRecDepth 100000 in
/-- isBasis(360) -/
theorem c_isBasis_360 (l : Launch) (D : va_G) (cA : Nat → ClassId) (sa : Nat → Nat)  (sz : Nat) : Met l yX9_isBasis wsX9_isBasis ({ frames := 0, cells := 0, slots := 0, locals := 0 }) (va_Pc [.long 360] (Wd D cA sa [] sz)) (va_Qi (fun (r : Int32) (_ : Unit) => r = 1) (fun (_ : Unit) t => Wq D (va_A [] sz) [] t) (va_A [] sz)) 0 0 (va_A [] sz) := by
  refine Met.ofW (cc := cX9_isBasis) (maxL := 2) (ret := (some .boolean)) (by decide) rfl ?_
  intro p e s m args below meth c s₁ B hml hv
  obtain ⟨rfl, hsz, hP, hK, hD0, hC, hZ⟩ := hv
  have hx := B.exec
  have hb := B.bytes
  have hr := B.returns
  have hts := atoms_spec (ws := wsX9_isBasis) B.pre
  have hown : s.vm.findClass RX9 = some m.cls := findClass_of_methodNamed B.named
  have hlocks := B.notSynchronized
  subst hsz
  have hD := hD0.self (sz := s.heap.size)
  generalize hAe : va_A [] s.heap.size = A at hD hZ ⊢
  have hA : ∀ q : Nat, s.heap.size ≤ q → A q := fun q h => by rw [← hAe]; exact Or.inr h
  have hS : va_S A s.heap s.heap [] := va_S.rf
  have hP : va_P D vwCl [] s.heap := hP
  have hl := lv_entry ([.long 360]) (n := 2) (Nat.le_of_ble_eq_true rfl)
  rw [lg_entry_eq]
  generalize (lg_sl ([.long 360]) ++ List.replicate (2 - (lg_sl ([.long 360])).length) Slot.unset).toArray = ls at hl ⊢
  have hl : lv_has ls 2 [(0, .long 360)] := hl
  refine lv_lload_n hx hb dX9_isBasis_0 rfl (lv_at hl 0 rfl) ?_
  refine lv_ldc2 (v := 360) hx hb hown (hts (.constantLong RX9 374 360) (by decide +kernel)) dX9_isBasis_1 ?_
  refine W.lcmp hx hb dX9_isBasis_4 ?_
  refine lv_topi (fun yn1 eyn1 => ?_)
  obtain rfl : yn1 = 0 := eyn1.trans (by first | rfl | decide +kernel)
  refine lv_if_eq (tgt := 16) hx hb dX9_isBasis_5 (by decide) (fun c2 => ?_) (fun c9 => absurd c9 (by decide))
  refine lv_iconst (v := 1) hx hb dX9_isBasis_16 (by decide) ?_
  refine lv_goto (tgt := 21) hx hb dX9_isBasis_17 (by decide) ?_
  have hP9 := hP.sub (ws' := []) [] rfl
  have hD9 := hD.sub (ws' := []) [] (by decide) rfl
  refine W.widen (k := 0) (n := 0) (Nat.le_of_ble_eq_true rfl) (Nat.le_of_ble_eq_true rfl) ?_
  exact W.zret (v := 1) hx hb hr (by first | rfl | decide) (fun t ht hW => ⟨⟨1, (), rfl, rfl, by rw [ht]; exact hP9, hD9⟩, hS.F ht⟩) hS.2.2 dX9_isBasis_21

set_option maxHeartbeats 4000000 in
set_option maxRecDepth 100000 in
/-- isBasis(365) -/
theorem c_isBasis_365 (l : Launch) (D : va_G) (cA : Nat → ClassId) (sa : Nat → Nat)  (sz : Nat) : Met l yX9_isBasis wsX9_isBasis ({ frames := 0, cells := 0, slots := 0, locals := 0 }) (va_Pc [.long 365] (Wd D cA sa [] sz)) (va_Qi (fun (r : Int32) (_ : Unit) => r = 1) (fun (_ : Unit) t => Wq D (va_A [] sz) [] t) (va_A [] sz)) 0 0 (va_A [] sz) := by
  refine Met.ofW (cc := cX9_isBasis) (maxL := 2) (ret := (some .boolean)) (by decide) rfl ?_
  intro p e s m args below meth c s₁ B hml hv
  obtain ⟨rfl, hsz, hP, hK, hD0, hC, hZ⟩ := hv
  have hx := B.exec
  have hb := B.bytes
  have hr := B.returns
  have hts := atoms_spec (ws := wsX9_isBasis) B.pre
  have hown : s.vm.findClass RX9 = some m.cls := findClass_of_methodNamed B.named
  have hlocks := B.notSynchronized
  subst hsz
  have hD := hD0.self (sz := s.heap.size)
  generalize hAe : va_A [] s.heap.size = A at hD hZ ⊢
  have hA : ∀ q : Nat, s.heap.size ≤ q → A q := fun q h => by rw [← hAe]; exact Or.inr h
  have hS : va_S A s.heap s.heap [] := va_S.rf
  have hP : va_P D vwCl [] s.heap := hP
  have hl := lv_entry ([.long 365]) (n := 2) (Nat.le_of_ble_eq_true rfl)
  rw [lg_entry_eq]
  generalize (lg_sl ([.long 365]) ++ List.replicate (2 - (lg_sl ([.long 365])).length) Slot.unset).toArray = ls at hl ⊢
  have hl : lv_has ls 2 [(0, .long 365)] := hl
  refine lv_lload_n hx hb dX9_isBasis_0 rfl (lv_at hl 0 rfl) ?_
  refine lv_ldc2 (v := 360) hx hb hown (hts (.constantLong RX9 374 360) (by decide +kernel)) dX9_isBasis_1 ?_
  refine W.lcmp hx hb dX9_isBasis_4 ?_
  refine lv_topi (fun yn1 eyn1 => ?_)
  obtain rfl : yn1 = 1 := eyn1.trans (by first | rfl | decide +kernel)
  refine lv_if_eq (tgt := 16) hx hb dX9_isBasis_5 (by decide) (fun c9 => absurd c9 (by decide)) (fun c2 => ?_)
  refine lv_lload_n hx hb dX9_isBasis_8 rfl (lv_at hl 0 rfl) ?_
  refine lv_ldc2 (v := 365) hx hb hown (hts (.constantLong RX9 376 365) (by decide +kernel)) dX9_isBasis_9 ?_
  refine W.lcmp hx hb dX9_isBasis_12 ?_
  refine lv_topi (fun yn3 eyn3 => ?_)
  obtain rfl : yn3 = 0 := eyn3.trans (by first | rfl | decide +kernel)
  refine lv_if_ne (tgt := 20) hx hb dX9_isBasis_13 (by decide) (fun c9 => absurd c9 (by decide)) (fun c4 => ?_)
  refine lv_iconst (v := 1) hx hb dX9_isBasis_16 (by decide) ?_
  refine lv_goto (tgt := 21) hx hb dX9_isBasis_17 (by decide) ?_
  have hP9 := hP.sub (ws' := []) [] rfl
  have hD9 := hD.sub (ws' := []) [] (by decide) rfl
  refine W.widen (k := 0) (n := 0) (Nat.le_of_ble_eq_true rfl) (Nat.le_of_ble_eq_true rfl) ?_
  exact W.zret (v := 1) hx hb hr (by first | rfl | decide) (fun t ht hW => ⟨⟨1, (), rfl, rfl, by rw [ht]; exact hP9, hD9⟩, hS.F ht⟩) hS.2.2 dX9_isBasis_21

set_option maxHeartbeats 4000000 in
set_option maxRecDepth 100000 in
/-- isBasis: no -/
theorem c_isBasis_f (l : Launch) (D : va_G) (cA : Nat → ClassId) (sa : Nat → Nat) (b : Int64) (sz : Nat) (h1 : ¬ b = 360) (h2 : ¬ b = 365) : Met l yX9_isBasis wsX9_isBasis ({ frames := 0, cells := 0, slots := 0, locals := 0 }) (va_Pc [.long b] (Wd D cA sa [] sz)) (va_Qi (fun (r : Int32) (_ : Unit) => r = 0) (fun (_ : Unit) t => Wq D (va_A [] sz) [] t) (va_A [] sz)) 0 0 (va_A [] sz) := by
  refine Met.ofW (cc := cX9_isBasis) (maxL := 2) (ret := (some .boolean)) (by decide) rfl ?_
  intro p e s m args below meth c s₁ B hml hv
  obtain ⟨rfl, hsz, hP, hK, hD0, hC, hZ⟩ := hv
  have hx := B.exec
  have hb := B.bytes
  have hr := B.returns
  have hts := atoms_spec (ws := wsX9_isBasis) B.pre
  have hown : s.vm.findClass RX9 = some m.cls := findClass_of_methodNamed B.named
  have hlocks := B.notSynchronized
  subst hsz
  have hD := hD0.self (sz := s.heap.size)
  generalize hAe : va_A [] s.heap.size = A at hD hZ ⊢
  have hA : ∀ q : Nat, s.heap.size ≤ q → A q := fun q h => by rw [← hAe]; exact Or.inr h
  have hS : va_S A s.heap s.heap [] := va_S.rf
  have hP : va_P D vwCl [] s.heap := hP
  have hl := lv_entry ([.long b]) (n := 2) (Nat.le_of_ble_eq_true rfl)
  rw [lg_entry_eq]
  generalize (lg_sl ([.long b]) ++ List.replicate (2 - (lg_sl ([.long b])).length) Slot.unset).toArray = ls at hl ⊢
  have hl : lv_has ls 2 [(0, .long b)] := hl
  refine lv_lload_n hx hb dX9_isBasis_0 rfl (lv_at hl 0 rfl) ?_
  refine lv_ldc2 (v := 360) hx hb hown (hts (.constantLong RX9 374 360) (by decide +kernel)) dX9_isBasis_1 ?_
  refine W.lcmp hx hb dX9_isBasis_4 ?_
  refine lv_if_eq (tgt := 16) hx hb dX9_isBasis_5 (by decide) (fun c9 => absurd c9 (fun h3 => h1 (lg_eq h3))) (fun c2 => ?_)
  refine lv_lload_n hx hb dX9_isBasis_8 rfl (lv_at hl 0 rfl) ?_
  refine lv_ldc2 (v := 365) hx hb hown (hts (.constantLong RX9 376 365) (by decide +kernel)) dX9_isBasis_9 ?_
  refine W.lcmp hx hb dX9_isBasis_12 ?_
  refine lv_if_ne (tgt := 20) hx hb dX9_isBasis_13 (by decide) (fun c4 => ?_) (fun c9 => absurd c9 (fun h3 => h2 (lg_eq h3)))
  refine lv_iconst (v := 0) hx hb dX9_isBasis_20 (by decide) ?_
  have hP9 := hP.sub (ws' := []) [] rfl
  have hD9 := hD.sub (ws' := []) [] (by decide) rfl
  refine W.widen (k := 0) (n := 0) (Nat.le_of_ble_eq_true rfl) (Nat.le_of_ble_eq_true rfl) ?_
  exact W.zret (v := 0) hx hb hr (by first | rfl | decide) (fun t ht hW => ⟨⟨0, (), rfl, rfl, by rw [ht]; exact hP9, hD9⟩, hS.F ht⟩) hS.2.2 dX9_isBasis_21

set_option maxHeartbeats 4000000 in
set_option maxRecDepth 100000 in
/-- setRate within -/
theorem c_setRate_360 (l : Launch) (D : va_G) (cA : Nat → ClassId) (sa : Nat → Nat) (h0 b0 p0 u0 r0 a0 t0 s0 o0 s1 m0 m1 m2 m3 m4 m5 m6 a1 a2 a3 a4 a5 a6 p1 p2 p3 p4 p5 p6 p7 p8 p9 : Nat) (x0 x6 x7 x8 x9 x10 x11 x12 x13 x14 x15 x16 x17 x18 x19 : Value) (n2 k2 : Int32) (q2 q3 q4 q5 q6 e2 e3 e4 e5 e6 : Nat → Int32) (FR : Nat → Option Nat) (a : Int32) (sz : Nat) (hF : FR 0 = some m0) (h1 : ¬ a < 0) (h2 : ¬ 3000 < a) : Met l yX9_setRate wsX9_setRate ({ frames := 4, cells := 0, slots := 0, locals := 123 }) (va_Pc [.ref h0, .int a, .int 360] (Wd D cA sa [(h0, .inr (10, [.ref b0, .int 0, .ref p0, .ref u0, .ref r0, .ref a0, .ref t0, .ref s0, .ref o0])), (s0, .inr (5, [.ref s1, .int 0, .int 0])), (s1, .inl (cA 5, 10, .inr (.inr (.inr (.inr FR))))), (m0, .inr (4, [x0, .ref m1, .ref m3, .ref m4, .ref m5, .ref m6, x6, x7, x8, x9, x10, x11, x12, x13, x14, x15, x16, x17, x18, x19])), (m1, .inr (6, [.ref m2, .int n2, .int k2])), (m2, .inl (cA 0, 240, .inl q2)), (m3, .inl (cA 0, 10, .inl q3)), (m4, .inl (cA 0, 10, .inl q4)), (m5, .inl (cA 0, 10, .inl q5)), (m6, .inl (cA 0, 10, .inl q6)), (a0, .inr (4, [.ref p0, .ref a1, .ref a3, .ref a4, .ref a5, .ref a6, .int 0, .int 0, .int 0, .long 0, .long 0, .long 0, .int 0, .int 0, .int 0, .int 0, .int 365, .int 0, .int 0, .int 0])), (a1, .inr (6, [.ref a2, .int 0, .int 0])), (a2, .inl (cA 0, 240, .inl e2)), (a3, .inl (cA 0, 10, .inl e3)), (a4, .inl (cA 0, 10, .inl e4)), (a5, .inl (cA 0, 10, .inl e5)), (a6, .inl (cA 0, 10, .inl e6)), (p0, .inr (7, [.int 0, .int 365, .int 0, .int 0, .ref p1, .int 0, .ref p2, .ref p3, .ref p4, .ref p5, .int 0, .ref p6, .int 0, .ref p7, .ref p8, .ref p9, .int 0]))] sz)) (va_Qi (fun (r : Int32) (_ : Unit) => r = 0) (fun (_ : Unit) t => Wq D (va_A [(h0, .inr (10, [.ref b0, .int 0, .ref p0, .ref u0, .ref r0, .ref a0, .ref t0, .ref s0, .ref o0])), (s0, .inr (5, [.ref s1, .int 0, .int 0])), (s1, .inl (cA 5, 10, .inr (.inr (.inr (.inr FR))))), (m0, .inr (4, [x0, .ref m1, .ref m3, .ref m4, .ref m5, .ref m6, x6, x7, x8, x9, x10, x11, x12, x13, x14, x15, x16, x17, x18, x19])), (m1, .inr (6, [.ref m2, .int n2, .int k2])), (m2, .inl (cA 0, 240, .inl q2)), (m3, .inl (cA 0, 10, .inl q3)), (m4, .inl (cA 0, 10, .inl q4)), (m5, .inl (cA 0, 10, .inl q5)), (m6, .inl (cA 0, 10, .inl q6)), (a0, .inr (4, [.ref p0, .ref a1, .ref a3, .ref a4, .ref a5, .ref a6, .int 0, .int 0, .int 0, .long 0, .long 0, .long 0, .int 0, .int 0, .int 0, .int 0, .int 365, .int 0, .int 0, .int 0])), (a1, .inr (6, [.ref a2, .int 0, .int 0])), (a2, .inl (cA 0, 240, .inl e2)), (a3, .inl (cA 0, 10, .inl e3)), (a4, .inl (cA 0, 10, .inl e4)), (a5, .inl (cA 0, 10, .inl e5)), (a6, .inl (cA 0, 10, .inl e6)), (p0, .inr (7, [.int 0, .int 365, .int 0, .int 0, .ref p1, .int 0, .ref p2, .ref p3, .ref p4, .ref p5, .int 0, .ref p6, .int 0, .ref p7, .ref p8, .ref p9, .int 0]))] sz) [] t) (va_A [(h0, .inr (10, [.ref b0, .int 0, .ref p0, .ref u0, .ref r0, .ref a0, .ref t0, .ref s0, .ref o0])), (s0, .inr (5, [.ref s1, .int 0, .int 0])), (s1, .inl (cA 5, 10, .inr (.inr (.inr (.inr FR))))), (m0, .inr (4, [x0, .ref m1, .ref m3, .ref m4, .ref m5, .ref m6, x6, x7, x8, x9, x10, x11, x12, x13, x14, x15, x16, x17, x18, x19])), (m1, .inr (6, [.ref m2, .int n2, .int k2])), (m2, .inl (cA 0, 240, .inl q2)), (m3, .inl (cA 0, 10, .inl q3)), (m4, .inl (cA 0, 10, .inl q4)), (m5, .inl (cA 0, 10, .inl q5)), (m6, .inl (cA 0, 10, .inl q6)), (a0, .inr (4, [.ref p0, .ref a1, .ref a3, .ref a4, .ref a5, .ref a6, .int 0, .int 0, .int 0, .long 0, .long 0, .long 0, .int 0, .int 0, .int 0, .int 0, .int 365, .int 0, .int 0, .int 0])), (a1, .inr (6, [.ref a2, .int 0, .int 0])), (a2, .inl (cA 0, 240, .inl e2)), (a3, .inl (cA 0, 10, .inl e3)), (a4, .inl (cA 0, 10, .inl e4)), (a5, .inl (cA 0, 10, .inl e5)), (a6, .inl (cA 0, 10, .inl e6)), (p0, .inr (7, [.int 0, .int 365, .int 0, .int 0, .ref p1, .int 0, .ref p2, .ref p3, .ref p4, .ref p5, .int 0, .ref p6, .int 0, .ref p7, .ref p8, .ref p9, .int 0]))] sz)) 0 0 (va_A [(h0, .inr (10, [.ref b0, .int 0, .ref p0, .ref u0, .ref r0, .ref a0, .ref t0, .ref s0, .ref o0])), (s0, .inr (5, [.ref s1, .int 0, .int 0])), (s1, .inl (cA 5, 10, .inr (.inr (.inr (.inr FR))))), (m0, .inr (4, [x0, .ref m1, .ref m3, .ref m4, .ref m5, .ref m6, x6, x7, x8, x9, x10, x11, x12, x13, x14, x15, x16, x17, x18, x19])), (m1, .inr (6, [.ref m2, .int n2, .int k2])), (m2, .inl (cA 0, 240, .inl q2)), (m3, .inl (cA 0, 10, .inl q3)), (m4, .inl (cA 0, 10, .inl q4)), (m5, .inl (cA 0, 10, .inl q5)), (m6, .inl (cA 0, 10, .inl q6)), (a0, .inr (4, [.ref p0, .ref a1, .ref a3, .ref a4, .ref a5, .ref a6, .int 0, .int 0, .int 0, .long 0, .long 0, .long 0, .int 0, .int 0, .int 0, .int 0, .int 365, .int 0, .int 0, .int 0])), (a1, .inr (6, [.ref a2, .int 0, .int 0])), (a2, .inl (cA 0, 240, .inl e2)), (a3, .inl (cA 0, 10, .inl e3)), (a4, .inl (cA 0, 10, .inl e4)), (a5, .inl (cA 0, 10, .inl e5)), (a6, .inl (cA 0, 10, .inl e6)), (p0, .inr (7, [.int 0, .int 365, .int 0, .int 0, .ref p1, .int 0, .ref p2, .ref p3, .ref p4, .ref p5, .int 0, .ref p6, .int 0, .ref p7, .ref p8, .ref p9, .int 0]))] sz) := by
  refine Met.ofW (cc := cX9_setRate) (maxL := 4) (ret := (some .int)) (by decide) rfl ?_
  intro p e s m args below meth c s₁ B hml hv
  obtain ⟨rfl, hsz, hP, hK, hD0, hC, hZ⟩ := hv
  have hx := B.exec
  have hb := B.bytes
  have hr := B.returns
  have hts := atoms_spec (ws := wsX9_setRate) B.pre
  have hown : s.vm.findClass RX9 = some m.cls := findClass_of_methodNamed B.named
  have hlocks := B.notSynchronized
  subst hsz
  have hD := hD0.self (sz := s.heap.size)
  generalize hAe : va_A [(h0, .inr (10, [.ref b0, .int 0, .ref p0, .ref u0, .ref r0, .ref a0, .ref t0, .ref s0, .ref o0])), (s0, .inr (5, [.ref s1, .int 0, .int 0])), (s1, .inl (cA 5, 10, .inr (.inr (.inr (.inr FR))))), (m0, .inr (4, [x0, .ref m1, .ref m3, .ref m4, .ref m5, .ref m6, x6, x7, x8, x9, x10, x11, x12, x13, x14, x15, x16, x17, x18, x19])), (m1, .inr (6, [.ref m2, .int n2, .int k2])), (m2, .inl (cA 0, 240, .inl q2)), (m3, .inl (cA 0, 10, .inl q3)), (m4, .inl (cA 0, 10, .inl q4)), (m5, .inl (cA 0, 10, .inl q5)), (m6, .inl (cA 0, 10, .inl q6)), (a0, .inr (4, [.ref p0, .ref a1, .ref a3, .ref a4, .ref a5, .ref a6, .int 0, .int 0, .int 0, .long 0, .long 0, .long 0, .int 0, .int 0, .int 0, .int 0, .int 365, .int 0, .int 0, .int 0])), (a1, .inr (6, [.ref a2, .int 0, .int 0])), (a2, .inl (cA 0, 240, .inl e2)), (a3, .inl (cA 0, 10, .inl e3)), (a4, .inl (cA 0, 10, .inl e4)), (a5, .inl (cA 0, 10, .inl e5)), (a6, .inl (cA 0, 10, .inl e6)), (p0, .inr (7, [.int 0, .int 365, .int 0, .int 0, .ref p1, .int 0, .ref p2, .ref p3, .ref p4, .ref p5, .int 0, .ref p6, .int 0, .ref p7, .ref p8, .ref p9, .int 0]))] s.heap.size = A at hD hZ ⊢
  have hA : ∀ q : Nat, s.heap.size ≤ q → A q := fun q h => by rw [← hAe]; exact Or.inr h
  have hS : va_S A s.heap s.heap [] := va_S.rf
  have hP : va_P D vwCl [(h0, .inr (10, [.ref b0, .int 0, .ref p0, .ref u0, .ref r0, .ref a0, .ref t0, .ref s0, .ref o0])), (s0, .inr (5, [.ref s1, .int 0, .int 0])), (s1, .inl (cA 5, 10, .inr (.inr (.inr (.inr FR))))), (m0, .inr (4, [x0, .ref m1, .ref m3, .ref m4, .ref m5, .ref m6, x6, x7, x8, x9, x10, x11, x12, x13, x14, x15, x16, x17, x18, x19])), (m1, .inr (6, [.ref m2, .int n2, .int k2])), (m2, .inl (cA 0, 240, .inl q2)), (m3, .inl (cA 0, 10, .inl q3)), (m4, .inl (cA 0, 10, .inl q4)), (m5, .inl (cA 0, 10, .inl q5)), (m6, .inl (cA 0, 10, .inl q6)), (a0, .inr (4, [.ref p0, .ref a1, .ref a3, .ref a4, .ref a5, .ref a6, .int 0, .int 0, .int 0, .long 0, .long 0, .long 0, .int 0, .int 0, .int 0, .int 0, .int 365, .int 0, .int 0, .int 0])), (a1, .inr (6, [.ref a2, .int 0, .int 0])), (a2, .inl (cA 0, 240, .inl e2)), (a3, .inl (cA 0, 10, .inl e3)), (a4, .inl (cA 0, 10, .inl e4)), (a5, .inl (cA 0, 10, .inl e5)), (a6, .inl (cA 0, 10, .inl e6)), (p0, .inr (7, [.int 0, .int 365, .int 0, .int 0, .ref p1, .int 0, .ref p2, .ref p3, .ref p4, .ref p5, .int 0, .ref p6, .int 0, .ref p7, .ref p8, .ref p9, .int 0]))] s.heap := hP
  have hl := lv_entry ([.ref h0, .int a, .int 360]) (n := 4) (Nat.le_of_ble_eq_true rfl)
  rw [lg_entry_eq]
  generalize (lg_sl ([.ref h0, .int a, .int 360]) ++ List.replicate (4 - (lg_sl ([.ref h0, .int a, .int 360])).length) Slot.unset).toArray = ls at hl ⊢
  have hl : lv_has ls 4 [(0, .ref h0), (1, .int a), (2, .int 360)] := hl
  have inX0 : ∀ w ∈ u_ws RX0 TX0 20, w ∈ wsX9_setRate := by decide +kernel
  have inX9 : ∀ w ∈ u_ws RX9 TX9 9, w ∈ wsX9_setRate := by decide +kernel
  refine lv_iload_n hx hb dX9_setRate_0 rfl (lv_at hl 1 rfl) ?_
  refine lv_iconst (v := 0) hx hb dX9_setRate_1 (by decide) ?_
  refine lv_sipush (v := 3000) hx hb dX9_setRate_2 (by decide) ?_
  have hPc := hP.sub (ws' := []) [] rfl
  have hDc := hD.sub (ws' := []) [] (by decide) rfl
  have hFc := va_free (wc := []) hD hS hA [] rfl
  refine va_callv (va_runS (As := [.int a, .int 0, .int 3000]) (rest := []) ⟨hx, hb, hml, hown, hts⟩ (c_needRange_ret l D cA sa a 0 3000 s.heap.size h1 h2) (va_cwS 3 hts gX9_setRate_X9_needRange rfl rfl rfl (by decide +kernel) ⟨(Nat.le_of_ble_eq_true rfl), (Nat.le_of_ble_eq_true rfl)⟩) ⟨Wd.blind, fun U hU hW => ⟨rfl, Wd.call hPc hDc hK hC hZ hS hFc U hU hW⟩⟩ rfl rfl hl.1 rfl (lv_room (Nat.le_of_ble_eq_true rfl)) dX9_setRate_5 ⟨(Nat.le_of_ble_eq_true rfl), (Nat.le_of_ble_eq_true rfl)⟩) hS (fun q _ h => hFc q h) hFc (fun u t H1 locs ht hvm hw hB hz1 hk1 hS => ?_)
  obtain ⟨hP1, hD1⟩ := hB
  rw [ht] at hP1
  obtain ⟨hP, hD⟩ := va_join (wr := [(h0, .inr (10, [.ref b0, .int 0, .ref p0, .ref u0, .ref r0, .ref a0, .ref t0, .ref s0, .ref o0])), (s0, .inr (5, [.ref s1, .int 0, .int 0])), (s1, .inl (cA 5, 10, .inr (.inr (.inr (.inr FR))))), (m0, .inr (4, [x0, .ref m1, .ref m3, .ref m4, .ref m5, .ref m6, x6, x7, x8, x9, x10, x11, x12, x13, x14, x15, x16, x17, x18, x19])), (m1, .inr (6, [.ref m2, .int n2, .int k2])), (m2, .inl (cA 0, 240, .inl q2)), (m3, .inl (cA 0, 10, .inl q3)), (m4, .inl (cA 0, 10, .inl q4)), (m5, .inl (cA 0, 10, .inl q5)), (m6, .inl (cA 0, 10, .inl q6)), (a0, .inr (4, [.ref p0, .ref a1, .ref a3, .ref a4, .ref a5, .ref a6, .int 0, .int 0, .int 0, .long 0, .long 0, .long 0, .int 0, .int 0, .int 0, .int 0, .int 365, .int 0, .int 0, .int 0])), (a1, .inr (6, [.ref a2, .int 0, .int 0])), (a2, .inl (cA 0, 240, .inl e2)), (a3, .inl (cA 0, 10, .inl e3)), (a4, .inl (cA 0, 10, .inl e4)), (a5, .inl (cA 0, 10, .inl e5)), (a6, .inl (cA 0, 10, .inl e6)), (p0, .inr (7, [.int 0, .int 365, .int 0, .int 0, .ref p1, .int 0, .ref p2, .ref p3, .ref p4, .ref p5, .int 0, .ref p6, .int 0, .ref p7, .ref p8, .ref p9, .int 0]))]) (w1 := []) hP hD [] [0, 1, 2, 3, 4, 5, 6, 7, 8, 9, 10, 11, 12, 13, 14, 15, 16, 17] rfl rfl (by decide) (by decide) hk1 hFc hP1 hD1
  generalize H1 = H at hP hS ⊢
  have hP : va_P D vwCl [(h0, .inr (10, [.ref b0, .int 0, .ref p0, .ref u0, .ref r0, .ref a0, .ref t0, .ref s0, .ref o0])), (s0, .inr (5, [.ref s1, .int 0, .int 0])), (s1, .inl (cA 5, 10, .inr (.inr (.inr (.inr FR))))), (m0, .inr (4, [x0, .ref m1, .ref m3, .ref m4, .ref m5, .ref m6, x6, x7, x8, x9, x10, x11, x12, x13, x14, x15, x16, x17, x18, x19])), (m1, .inr (6, [.ref m2, .int n2, .int k2])), (m2, .inl (cA 0, 240, .inl q2)), (m3, .inl (cA 0, 10, .inl q3)), (m4, .inl (cA 0, 10, .inl q4)), (m5, .inl (cA 0, 10, .inl q5)), (m6, .inl (cA 0, 10, .inl q6)), (a0, .inr (4, [.ref p0, .ref a1, .ref a3, .ref a4, .ref a5, .ref a6, .int 0, .int 0, .int 0, .long 0, .long 0, .long 0, .int 0, .int 0, .int 0, .int 0, .int 365, .int 0, .int 0, .int 0])), (a1, .inr (6, [.ref a2, .int 0, .int 0])), (a2, .inl (cA 0, 240, .inl e2)), (a3, .inl (cA 0, 10, .inl e3)), (a4, .inl (cA 0, 10, .inl e4)), (a5, .inl (cA 0, 10, .inl e5)), (a6, .inl (cA 0, 10, .inl e6)), (p0, .inr (7, [.int 0, .int 365, .int 0, .int 0, .ref p1, .int 0, .ref p2, .ref p3, .ref p4, .ref p5, .int 0, .ref p6, .int 0, .ref p7, .ref p8, .ref p9, .int 0]))] H := hP
  have hD : va_D A [(h0, .inr (10, [.ref b0, .int 0, .ref p0, .ref u0, .ref r0, .ref a0, .ref t0, .ref s0, .ref o0])), (s0, .inr (5, [.ref s1, .int 0, .int 0])), (s1, .inl (cA 5, 10, .inr (.inr (.inr (.inr FR))))), (m0, .inr (4, [x0, .ref m1, .ref m3, .ref m4, .ref m5, .ref m6, x6, x7, x8, x9, x10, x11, x12, x13, x14, x15, x16, x17, x18, x19])), (m1, .inr (6, [.ref m2, .int n2, .int k2])), (m2, .inl (cA 0, 240, .inl q2)), (m3, .inl (cA 0, 10, .inl q3)), (m4, .inl (cA 0, 10, .inl q4)), (m5, .inl (cA 0, 10, .inl q5)), (m6, .inl (cA 0, 10, .inl q6)), (a0, .inr (4, [.ref p0, .ref a1, .ref a3, .ref a4, .ref a5, .ref a6, .int 0, .int 0, .int 0, .long 0, .long 0, .long 0, .int 0, .int 0, .int 0, .int 0, .int 365, .int 0, .int 0, .int 0])), (a1, .inr (6, [.ref a2, .int 0, .int 0])), (a2, .inl (cA 0, 240, .inl e2)), (a3, .inl (cA 0, 10, .inl e3)), (a4, .inl (cA 0, 10, .inl e4)), (a5, .inl (cA 0, 10, .inl e5)), (a6, .inl (cA 0, 10, .inl e6)), (p0, .inr (7, [.int 0, .int 365, .int 0, .int 0, .ref p1, .int 0, .ref p2, .ref p3, .ref p4, .ref p5, .int 0, .ref p6, .int 0, .ref p7, .ref p8, .ref p9, .int 0]))] := hD
  refine lv_iload_n hx hb dX9_setRate_8 rfl (lv_at hl 2 rfl) ?_
  refine lv_i2l (v := 360) hx hb dX9_setRate_9 (by decide) ?_
  have hPc := hP.sub (ws' := []) [] rfl
  have hDc := hD.sub (ws' := []) [] (by decide) rfl
  have hFc := va_free (wc := []) hD hS hA [] rfl
  refine va_calli (va_runS (As := [.long 360]) (rest := []) ⟨hx, hb, hml, hown, hts⟩ (c_isBasis_360 l D cA sa  H.size) (va_cwS 1 hts gX9_setRate_X9_isBasis rfl rfl rfl (by decide +kernel) ⟨(Nat.le_of_ble_eq_true rfl), (Nat.le_of_ble_eq_true rfl)⟩) ⟨Wd.blind, fun U hU hW => ⟨rfl, Wd.call hPc hDc hK hC hZ hS hFc U hU hW⟩⟩ rfl rfl hl.1 rfl (lv_room (Nat.le_of_ble_eq_true rfl)) dX9_setRate_10 ⟨(Nat.le_of_ble_eq_true rfl), (Nat.le_of_ble_eq_true rfl)⟩) hS (fun q _ h => hFc q h) hFc (fun rn1 u t H1 locs ht hvm hw hB hz1 hk1 hS => ?_)
  obtain ⟨hP1, hD1⟩ := hB
  rw [ht] at hP1
  obtain ⟨hP, hD⟩ := va_join (wr := [(h0, .inr (10, [.ref b0, .int 0, .ref p0, .ref u0, .ref r0, .ref a0, .ref t0, .ref s0, .ref o0])), (s0, .inr (5, [.ref s1, .int 0, .int 0])), (s1, .inl (cA 5, 10, .inr (.inr (.inr (.inr FR))))), (m0, .inr (4, [x0, .ref m1, .ref m3, .ref m4, .ref m5, .ref m6, x6, x7, x8, x9, x10, x11, x12, x13, x14, x15, x16, x17, x18, x19])), (m1, .inr (6, [.ref m2, .int n2, .int k2])), (m2, .inl (cA 0, 240, .inl q2)), (m3, .inl (cA 0, 10, .inl q3)), (m4, .inl (cA 0, 10, .inl q4)), (m5, .inl (cA 0, 10, .inl q5)), (m6, .inl (cA 0, 10, .inl q6)), (a0, .inr (4, [.ref p0, .ref a1, .ref a3, .ref a4, .ref a5, .ref a6, .int 0, .int 0, .int 0, .long 0, .long 0, .long 0, .int 0, .int 0, .int 0, .int 0, .int 365, .int 0, .int 0, .int 0])), (a1, .inr (6, [.ref a2, .int 0, .int 0])), (a2, .inl (cA 0, 240, .inl e2)), (a3, .inl (cA 0, 10, .inl e3)), (a4, .inl (cA 0, 10, .inl e4)), (a5, .inl (cA 0, 10, .inl e5)), (a6, .inl (cA 0, 10, .inl e6)), (p0, .inr (7, [.int 0, .int 365, .int 0, .int 0, .ref p1, .int 0, .ref p2, .ref p3, .ref p4, .ref p5, .int 0, .ref p6, .int 0, .ref p7, .ref p8, .ref p9, .int 0]))]) (w1 := []) hP hD [] [0, 1, 2, 3, 4, 5, 6, 7, 8, 9, 10, 11, 12, 13, 14, 15, 16, 17] rfl rfl (by decide) (by decide) hk1 hFc hP1 hD1
  generalize H1 = H at hP hS ⊢
  have hP : va_P D vwCl [(h0, .inr (10, [.ref b0, .int 0, .ref p0, .ref u0, .ref r0, .ref a0, .ref t0, .ref s0, .ref o0])), (s0, .inr (5, [.ref s1, .int 0, .int 0])), (s1, .inl (cA 5, 10, .inr (.inr (.inr (.inr FR))))), (m0, .inr (4, [x0, .ref m1, .ref m3, .ref m4, .ref m5, .ref m6, x6, x7, x8, x9, x10, x11, x12, x13, x14, x15, x16, x17, x18, x19])), (m1, .inr (6, [.ref m2, .int n2, .int k2])), (m2, .inl (cA 0, 240, .inl q2)), (m3, .inl (cA 0, 10, .inl q3)), (m4, .inl (cA 0, 10, .inl q4)), (m5, .inl (cA 0, 10, .inl q5)), (m6, .inl (cA 0, 10, .inl q6)), (a0, .inr (4, [.ref p0, .ref a1, .ref a3, .ref a4, .ref a5, .ref a6, .int 0, .int 0, .int 0, .long 0, .long 0, .long 0, .int 0, .int 0, .int 0, .int 0, .int 365, .int 0, .int 0, .int 0])), (a1, .inr (6, [.ref a2, .int 0, .int 0])), (a2, .inl (cA 0, 240, .inl e2)), (a3, .inl (cA 0, 10, .inl e3)), (a4, .inl (cA 0, 10, .inl e4)), (a5, .inl (cA 0, 10, .inl e5)), (a6, .inl (cA 0, 10, .inl e6)), (p0, .inr (7, [.int 0, .int 365, .int 0, .int 0, .ref p1, .int 0, .ref p2, .ref p3, .ref p4, .ref p5, .int 0, .ref p6, .int 0, .ref p7, .ref p8, .ref p9, .int 0]))] H := hP
  have hD : va_D A [(h0, .inr (10, [.ref b0, .int 0, .ref p0, .ref u0, .ref r0, .ref a0, .ref t0, .ref s0, .ref o0])), (s0, .inr (5, [.ref s1, .int 0, .int 0])), (s1, .inl (cA 5, 10, .inr (.inr (.inr (.inr FR))))), (m0, .inr (4, [x0, .ref m1, .ref m3, .ref m4, .ref m5, .ref m6, x6, x7, x8, x9, x10, x11, x12, x13, x14, x15, x16, x17, x18, x19])), (m1, .inr (6, [.ref m2, .int n2, .int k2])), (m2, .inl (cA 0, 240, .inl q2)), (m3, .inl (cA 0, 10, .inl q3)), (m4, .inl (cA 0, 10, .inl q4)), (m5, .inl (cA 0, 10, .inl q5)), (m6, .inl (cA 0, 10, .inl q6)), (a0, .inr (4, [.ref p0, .ref a1, .ref a3, .ref a4, .ref a5, .ref a6, .int 0, .int 0, .int 0, .long 0, .long 0, .long 0, .int 0, .int 0, .int 0, .int 0, .int 365, .int 0, .int 0, .int 0])), (a1, .inr (6, [.ref a2, .int 0, .int 0])), (a2, .inl (cA 0, 240, .inl e2)), (a3, .inl (cA 0, 10, .inl e3)), (a4, .inl (cA 0, 10, .inl e4)), (a5, .inl (cA 0, 10, .inl e5)), (a6, .inl (cA 0, 10, .inl e6)), (p0, .inr (7, [.int 0, .int 365, .int 0, .int 0, .ref p1, .int 0, .ref p2, .ref p3, .ref p4, .ref p5, .int 0, .ref p6, .int 0, .ref p7, .ref p8, .ref p9, .int 0]))] := hD
  obtain rfl : rn1 = 1 := hw
  refine lv_if_ne (tgt := 27) hx hb dX9_setRate_13 (by decide) (fun c2 => ?_) (fun c9 => absurd c9 (by decide))
  refine lv_aload_n hx hb dX9_setRate_27 rfl (lv_at hl 0 rfl) ?_
  refine va_get (D := D) (ci := 10) (v := .ref s0) (C := RX9) (T := TX9) (N := 9) hx hb hts inX9 hown hK hP 0 rfl rfl 7 (by decide) (hts (.fieldLink RX9 45 "EscrowDesk" "history" "LEscrowDesk$History;") (by decide +kernel)) (fun _ h9 => h9) rfl dX9_setRate_28 ?_
  refine lv_aload_n hx hb dX9_setRate_31 rfl (lv_at hl 0 rfl) ?_
  refine va_get (D := D) (ci := 10) (v := .ref a0) (C := RX9) (T := TX9) (N := 9) hx hb hts inX9 hown hK hP 0 rfl rfl 5 (by decide) (hts (.fieldLink RX9 35 "EscrowDesk" "account" "LEscrowDesk$Account;") (by decide +kernel)) (fun _ h9 => h9) rfl dX9_setRate_32 ?_
  have hPc := hP.sub (ws' := [(s0, .inr (5, [.ref s1, .int 0, .int 0])), (s1, .inl (cA 5, 10, .inr (.inr (.inr (.inr FR))))), (m0, .inr (4, [x0, .ref m1, .ref m3, .ref m4, .ref m5, .ref m6, x6, x7, x8, x9, x10, x11, x12, x13, x14, x15, x16, x17, x18, x19])), (m1, .inr (6, [.ref m2, .int n2, .int k2])), (m2, .inl (cA 0, 240, .inl q2)), (m3, .inl (cA 0, 10, .inl q3)), (m4, .inl (cA 0, 10, .inl q4)), (m5, .inl (cA 0, 10, .inl q5)), (m6, .inl (cA 0, 10, .inl q6)), (a0, .inr (4, [.ref p0, .ref a1, .ref a3, .ref a4, .ref a5, .ref a6, .int 0, .int 0, .int 0, .long 0, .long 0, .long 0, .int 0, .int 0, .int 0, .int 0, .int 365, .int 0, .int 0, .int 0])), (a1, .inr (6, [.ref a2, .int 0, .int 0])), (a2, .inl (cA 0, 240, .inl e2)), (a3, .inl (cA 0, 10, .inl e3)), (a4, .inl (cA 0, 10, .inl e4)), (a5, .inl (cA 0, 10, .inl e5)), (a6, .inl (cA 0, 10, .inl e6))]) [1, 2, 3, 4, 5, 6, 7, 8, 9, 10, 11, 12, 13, 14, 15, 16] rfl
  have hDc := hD.sub (ws' := [(s0, .inr (5, [.ref s1, .int 0, .int 0])), (s1, .inl (cA 5, 10, .inr (.inr (.inr (.inr FR))))), (m0, .inr (4, [x0, .ref m1, .ref m3, .ref m4, .ref m5, .ref m6, x6, x7, x8, x9, x10, x11, x12, x13, x14, x15, x16, x17, x18, x19])), (m1, .inr (6, [.ref m2, .int n2, .int k2])), (m2, .inl (cA 0, 240, .inl q2)), (m3, .inl (cA 0, 10, .inl q3)), (m4, .inl (cA 0, 10, .inl q4)), (m5, .inl (cA 0, 10, .inl q5)), (m6, .inl (cA 0, 10, .inl q6)), (a0, .inr (4, [.ref p0, .ref a1, .ref a3, .ref a4, .ref a5, .ref a6, .int 0, .int 0, .int 0, .long 0, .long 0, .long 0, .int 0, .int 0, .int 0, .int 0, .int 365, .int 0, .int 0, .int 0])), (a1, .inr (6, [.ref a2, .int 0, .int 0])), (a2, .inl (cA 0, 240, .inl e2)), (a3, .inl (cA 0, 10, .inl e3)), (a4, .inl (cA 0, 10, .inl e4)), (a5, .inl (cA 0, 10, .inl e5)), (a6, .inl (cA 0, 10, .inl e6))]) [1, 2, 3, 4, 5, 6, 7, 8, 9, 10, 11, 12, 13, 14, 15, 16] (by decide) rfl
  have hFc := va_free (wc := [(s0, .inr (5, [.ref s1, .int 0, .int 0])), (s1, .inl (cA 5, 10, .inr (.inr (.inr (.inr FR))))), (m0, .inr (4, [x0, .ref m1, .ref m3, .ref m4, .ref m5, .ref m6, x6, x7, x8, x9, x10, x11, x12, x13, x14, x15, x16, x17, x18, x19])), (m1, .inr (6, [.ref m2, .int n2, .int k2])), (m2, .inl (cA 0, 240, .inl q2)), (m3, .inl (cA 0, 10, .inl q3)), (m4, .inl (cA 0, 10, .inl q4)), (m5, .inl (cA 0, 10, .inl q5)), (m6, .inl (cA 0, 10, .inl q6)), (a0, .inr (4, [.ref p0, .ref a1, .ref a3, .ref a4, .ref a5, .ref a6, .int 0, .int 0, .int 0, .long 0, .long 0, .long 0, .int 0, .int 0, .int 0, .int 0, .int 365, .int 0, .int 0, .int 0])), (a1, .inr (6, [.ref a2, .int 0, .int 0])), (a2, .inl (cA 0, 240, .inl e2)), (a3, .inl (cA 0, 10, .inl e3)), (a4, .inl (cA 0, 10, .inl e4)), (a5, .inl (cA 0, 10, .inl e5)), (a6, .inl (cA 0, 10, .inl e6))]) hD hS hA [1, 2, 3, 4, 5, 6, 7, 8, 9, 10, 11, 12, 13, 14, 15, 16] rfl
  refine va_callv (va_runV (As := [.ref a0]) (rest := []) ⟨hx, hb, hml, hown, hts⟩ (c_remember l D cA sa s0 s1 m0 m1 m2 m3 m4 m5 m6 a0 a1 a2 a3 a4 a5 a6 p0 x0 x6 x7 x8 x9 x10 x11 x12 x13 x14 x15 x16 x17 x18 x19 n2 k2 q2 q3 q4 q5 q6 e2 e3 e4 e5 e6 FR H.size hF) (cwV 1 hts gX9_setRate_X1_remember rfl rfl rfl (by decide +kernel) ⟨(Nat.le_of_ble_eq_true rfl), (Nat.le_of_ble_eq_true rfl)⟩) ⟨Wd.blind, va_recv hK hPc (ci := 5) (q0 := 0) rfl rfl, fun U hU hW => ⟨rfl, Wd.call hPc hDc hK hC hZ hS hFc U hU hW⟩⟩ rfl rfl hl.1 rfl (lv_room (Nat.le_of_ble_eq_true rfl)) dX9_setRate_35 ⟨(Nat.le_of_ble_eq_true rfl), (Nat.le_of_ble_eq_true rfl)⟩) hS (fun q _ h => hFc q h) hFc (fun u t H1 locs ht hvm hw hB hz1 hk1 hS => ?_)
  obtain ⟨hP1, hD1⟩ := hB
  rw [ht] at hP1
  obtain ⟨hP, hD⟩ := va_join (wr := [(h0, .inr (10, [.ref b0, .int 0, .ref p0, .ref u0, .ref r0, .ref a0, .ref t0, .ref s0, .ref o0])), (p0, .inr (7, [.int 0, .int 365, .int 0, .int 0, .ref p1, .int 0, .ref p2, .ref p3, .ref p4, .ref p5, .int 0, .ref p6, .int 0, .ref p7, .ref p8, .ref p9, .int 0]))]) (w1 := [(a0, .inr (4, [.ref p0, .ref a1, .ref a3, .ref a4, .ref a5, .ref a6, .int 0, .int 0, .int 0, .long 0, .long 0, .long 0, .int 0, .int 0, .int 0, .int 0, .int 365, .int 0, .int 0, .int 0])), (a1, .inr (6, [.ref a2, .int 0, .int 0])), (a2, .inl (cA 0, 240, .inl e2)), (a3, .inl (cA 0, 10, .inl e3)), (a4, .inl (cA 0, 10, .inl e4)), (a5, .inl (cA 0, 10, .inl e5)), (a6, .inl (cA 0, 10, .inl e6))]) hP hD [1, 2, 3, 4, 5, 6, 7, 8, 9, 10, 11, 12, 13, 14, 15, 16] [0, 17] rfl rfl (by decide) (by decide) hk1 hFc hP1 hD1
  generalize H1 = H at hP hS ⊢
  have hP : va_P D vwCl [(h0, .inr (10, [.ref b0, .int 0, .ref p0, .ref u0, .ref r0, .ref a0, .ref t0, .ref s0, .ref o0])), (p0, .inr (7, [.int 0, .int 365, .int 0, .int 0, .ref p1, .int 0, .ref p2, .ref p3, .ref p4, .ref p5, .int 0, .ref p6, .int 0, .ref p7, .ref p8, .ref p9, .int 0])), (a0, .inr (4, [.ref p0, .ref a1, .ref a3, .ref a4, .ref a5, .ref a6, .int 0, .int 0, .int 0, .long 0, .long 0, .long 0, .int 0, .int 0, .int 0, .int 0, .int 365, .int 0, .int 0, .int 0])), (a1, .inr (6, [.ref a2, .int 0, .int 0])), (a2, .inl (cA 0, 240, .inl e2)), (a3, .inl (cA 0, 10, .inl e3)), (a4, .inl (cA 0, 10, .inl e4)), (a5, .inl (cA 0, 10, .inl e5)), (a6, .inl (cA 0, 10, .inl e6))] H := hP
  have hD : va_D A [(h0, .inr (10, [.ref b0, .int 0, .ref p0, .ref u0, .ref r0, .ref a0, .ref t0, .ref s0, .ref o0])), (p0, .inr (7, [.int 0, .int 365, .int 0, .int 0, .ref p1, .int 0, .ref p2, .ref p3, .ref p4, .ref p5, .int 0, .ref p6, .int 0, .ref p7, .ref p8, .ref p9, .int 0])), (a0, .inr (4, [.ref p0, .ref a1, .ref a3, .ref a4, .ref a5, .ref a6, .int 0, .int 0, .int 0, .long 0, .long 0, .long 0, .int 0, .int 0, .int 0, .int 0, .int 365, .int 0, .int 0, .int 0])), (a1, .inr (6, [.ref a2, .int 0, .int 0])), (a2, .inl (cA 0, 240, .inl e2)), (a3, .inl (cA 0, 10, .inl e3)), (a4, .inl (cA 0, 10, .inl e4)), (a5, .inl (cA 0, 10, .inl e5)), (a6, .inl (cA 0, 10, .inl e6))] := hD
  refine lv_aload_n hx hb dX9_setRate_38 rfl (lv_at hl 0 rfl) ?_
  refine va_get (D := D) (ci := 10) (v := .ref a0) (C := RX9) (T := TX9) (N := 9) hx hb hts inX9 hown hK hP 0 rfl rfl 5 (by decide) (hts (.fieldLink RX9 35 "EscrowDesk" "account" "LEscrowDesk$Account;") (by decide +kernel)) (fun _ h9 => h9) rfl dX9_setRate_39 ?_
  refine va_getN (D := D) (ci := 4) (v := .int 0) (C := RX0) (T := TX0) (N := 20) hx hb hts inX0 hown hK hP 2 rfl rfl 15 (by decide) (hC.f (A := _) (a := RX9) (i := 299) (b := "EscrowDesk$Account") (n := "rate") (d := "I") (x := "EscrowDesk") (by decide +kernel)) (fun _ h9 => h9) rfl dX9_setRate_42 ?_
  refine lv_istore_n (lv' := [(3, .int 0), (0, .ref h0), (1, .int a), (2, .int 360)]) hx hb dX9_setRate_45 rfl hl (by decide) rfl (fun ls hl => ?_)
  refine lv_aload_n hx hb dX9_setRate_46 rfl (lv_at hl 1 rfl) ?_
  refine va_get (D := D) (ci := 10) (v := .ref a0) (C := RX9) (T := TX9) (N := 9) hx hb hts inX9 hown hK hP 0 rfl rfl 5 (by decide) (hts (.fieldLink RX9 35 "EscrowDesk" "account" "LEscrowDesk$Account;") (by decide +kernel)) (fun _ h9 => h9) rfl dX9_setRate_47 ?_
  refine lv_iload_n hx hb dX9_setRate_50 rfl (lv_at hl 2 rfl) ?_
  refine va_putN (D := D) (ci := 4) (v := .int a) (ty := .int) (C := RX0) (T := TX0) (N := 20) hx hb hts inX0 tyX0 tyX0_ok nmX0 hown hK hP hD hS 2 rfl rfl 15 (by decide) (hC.f (A := _) (a := RX9) (i := 299) (b := "EscrowDesk$Account") (n := "rate") (d := "I") (x := "EscrowDesk") (by decide +kernel)) (fun _ h9 => h9) rfl (by decide +kernel) rfl rfl (Nat.le_of_ble_eq_true rfl) dX9_setRate_51 (fun H locs hP hD hS => ?_)
  have hP : va_P D vwCl [(h0, .inr (10, [.ref b0, .int 0, .ref p0, .ref u0, .ref r0, .ref a0, .ref t0, .ref s0, .ref o0])), (p0, .inr (7, [.int 0, .int 365, .int 0, .int 0, .ref p1, .int 0, .ref p2, .ref p3, .ref p4, .ref p5, .int 0, .ref p6, .int 0, .ref p7, .ref p8, .ref p9, .int 0])), (a0, .inr (4, [.ref p0, .ref a1, .ref a3, .ref a4, .ref a5, .ref a6, .int 0, .int 0, .int 0, .long 0, .long 0, .long 0, .int 0, .int 0, .int 0, .int a, .int 365, .int 0, .int 0, .int 0])), (a1, .inr (6, [.ref a2, .int 0, .int 0])), (a2, .inl (cA 0, 240, .inl e2)), (a3, .inl (cA 0, 10, .inl e3)), (a4, .inl (cA 0, 10, .inl e4)), (a5, .inl (cA 0, 10, .inl e5)), (a6, .inl (cA 0, 10, .inl e6))] H := hP
  have hD : va_D A [(h0, .inr (10, [.ref b0, .int 0, .ref p0, .ref u0, .ref r0, .ref a0, .ref t0, .ref s0, .ref o0])), (p0, .inr (7, [.int 0, .int 365, .int 0, .int 0, .ref p1, .int 0, .ref p2, .ref p3, .ref p4, .ref p5, .int 0, .ref p6, .int 0, .ref p7, .ref p8, .ref p9, .int 0])), (a0, .inr (4, [.ref p0, .ref a1, .ref a3, .ref a4, .ref a5, .ref a6, .int 0, .int 0, .int 0, .long 0, .long 0, .long 0, .int 0, .int 0, .int 0, .int a, .int 365, .int 0, .int 0, .int 0])), (a1, .inr (6, [.ref a2, .int 0, .int 0])), (a2, .inl (cA 0, 240, .inl e2)), (a3, .inl (cA 0, 10, .inl e3)), (a4, .inl (cA 0, 10, .inl e4)), (a5, .inl (cA 0, 10, .inl e5)), (a6, .inl (cA 0, 10, .inl e6))] := hD
  refine lv_aload_n hx hb dX9_setRate_54 rfl (lv_at hl 1 rfl) ?_
  refine va_get (D := D) (ci := 10) (v := .ref a0) (C := RX9) (T := TX9) (N := 9) hx hb hts inX9 hown hK hP 0 rfl rfl 5 (by decide) (hts (.fieldLink RX9 35 "EscrowDesk" "account" "LEscrowDesk$Account;") (by decide +kernel)) (fun _ h9 => h9) rfl dX9_setRate_55 ?_
  refine lv_iload_n hx hb dX9_setRate_58 rfl (lv_at hl 3 rfl) ?_
  refine va_putN (D := D) (ci := 4) (v := .int 360) (ty := .int) (C := RX0) (T := TX0) (N := 20) hx hb hts inX0 tyX0 tyX0_ok nmX0 hown hK hP hD hS 2 rfl rfl 16 (by decide) (hC.f (A := _) (a := RX9) (i := 302) (b := "EscrowDesk$Account") (n := "basis") (d := "I") (x := "EscrowDesk") (by decide +kernel)) (fun _ h9 => h9) rfl (by decide +kernel) rfl rfl (Nat.le_of_ble_eq_true rfl) dX9_setRate_59 (fun H locs hP hD hS => ?_)
  have hP : va_P D vwCl [(h0, .inr (10, [.ref b0, .int 0, .ref p0, .ref u0, .ref r0, .ref a0, .ref t0, .ref s0, .ref o0])), (p0, .inr (7, [.int 0, .int 365, .int 0, .int 0, .ref p1, .int 0, .ref p2, .ref p3, .ref p4, .ref p5, .int 0, .ref p6, .int 0, .ref p7, .ref p8, .ref p9, .int 0])), (a0, .inr (4, [.ref p0, .ref a1, .ref a3, .ref a4, .ref a5, .ref a6, .int 0, .int 0, .int 0, .long 0, .long 0, .long 0, .int 0, .int 0, .int 0, .int a, .int 360, .int 0, .int 0, .int 0])), (a1, .inr (6, [.ref a2, .int 0, .int 0])), (a2, .inl (cA 0, 240, .inl e2)), (a3, .inl (cA 0, 10, .inl e3)), (a4, .inl (cA 0, 10, .inl e4)), (a5, .inl (cA 0, 10, .inl e5)), (a6, .inl (cA 0, 10, .inl e6))] H := hP
  have hD : va_D A [(h0, .inr (10, [.ref b0, .int 0, .ref p0, .ref u0, .ref r0, .ref a0, .ref t0, .ref s0, .ref o0])), (p0, .inr (7, [.int 0, .int 365, .int 0, .int 0, .ref p1, .int 0, .ref p2, .ref p3, .ref p4, .ref p5, .int 0, .ref p6, .int 0, .ref p7, .ref p8, .ref p9, .int 0])), (a0, .inr (4, [.ref p0, .ref a1, .ref a3, .ref a4, .ref a5, .ref a6, .int 0, .int 0, .int 0, .long 0, .long 0, .long 0, .int 0, .int 0, .int 0, .int a, .int 360, .int 0, .int 0, .int 0])), (a1, .inr (6, [.ref a2, .int 0, .int 0])), (a2, .inl (cA 0, 240, .inl e2)), (a3, .inl (cA 0, 10, .inl e3)), (a4, .inl (cA 0, 10, .inl e4)), (a5, .inl (cA 0, 10, .inl e5)), (a6, .inl (cA 0, 10, .inl e6))] := hD
  refine lv_iload_n hx hb dX9_setRate_62 rfl (lv_at hl 0 rfl) ?_
  have hP9 := hP.sub (ws' := []) [] rfl
  have hD9 := hD.sub (ws' := []) [] (by decide) rfl
  refine W.widen (k := 0) (n := 0) (Nat.le_of_ble_eq_true rfl) (Nat.le_of_ble_eq_true rfl) ?_
  exact W.iret (v := 0) hx hb hr (fun t ht hW => ⟨⟨0, (), rfl, rfl, by rw [ht]; exact hP9, hD9⟩, hS.F ht⟩) hS.2.2 dX9_setRate_63

set_option maxHeartbeats 4000000 in
set_option maxRecDepth 100000 in
/-- setRate within -/
theorem c_setRate_365 (l : Launch) (D : va_G) (cA : Nat → ClassId) (sa : Nat → Nat) (h0 b0 p0 u0 r0 a0 t0 s0 o0 s1 m0 m1 m2 m3 m4 m5 m6 a1 a2 a3 a4 a5 a6 p1 p2 p3 p4 p5 p6 p7 p8 p9 : Nat) (x0 x6 x7 x8 x9 x10 x11 x12 x13 x14 x15 x16 x17 x18 x19 : Value) (n2 k2 : Int32) (q2 q3 q4 q5 q6 e2 e3 e4 e5 e6 : Nat → Int32) (FR : Nat → Option Nat) (a : Int32) (sz : Nat) (hF : FR 0 = some m0) (h1 : ¬ a < 0) (h2 : ¬ 3000 < a) : Met l yX9_setRate wsX9_setRate ({ frames := 4, cells := 0, slots := 0, locals := 123 }) (va_Pc [.ref h0, .int a, .int 365] (Wd D cA sa [(h0, .inr (10, [.ref b0, .int 0, .ref p0, .ref u0, .ref r0, .ref a0, .ref t0, .ref s0, .ref o0])), (s0, .inr (5, [.ref s1, .int 0, .int 0])), (s1, .inl (cA 5, 10, .inr (.inr (.inr (.inr FR))))), (m0, .inr (4, [x0, .ref m1, .ref m3, .ref m4, .ref m5, .ref m6, x6, x7, x8, x9, x10, x11, x12, x13, x14, x15, x16, x17, x18, x19])), (m1, .inr (6, [.ref m2, .int n2, .int k2])), (m2, .inl (cA 0, 240, .inl q2)), (m3, .inl (cA 0, 10, .inl q3)), (m4, .inl (cA 0, 10, .inl q4)), (m5, .inl (cA 0, 10, .inl q5)), (m6, .inl (cA 0, 10, .inl q6)), (a0, .inr (4, [.ref p0, .ref a1, .ref a3, .ref a4, .ref a5, .ref a6, .int 0, .int 0, .int 0, .long 0, .long 0, .long 0, .int 0, .int 0, .int 0, .int 0, .int 365, .int 0, .int 0, .int 0])), (a1, .inr (6, [.ref a2, .int 0, .int 0])), (a2, .inl (cA 0, 240, .inl e2)), (a3, .inl (cA 0, 10, .inl e3)), (a4, .inl (cA 0, 10, .inl e4)), (a5, .inl (cA 0, 10, .inl e5)), (a6, .inl (cA 0, 10, .inl e6)), (p0, .inr (7, [.int 0, .int 365, .int 0, .int 0, .ref p1, .int 0, .ref p2, .ref p3, .ref p4, .ref p5, .int 0, .ref p6, .int 0, .ref p7, .ref p8, .ref p9, .int 0]))] sz)) (va_Qi (fun (r : Int32) (_ : Unit) => r = 0) (fun (_ : Unit) t => Wq D (va_A [(h0, .inr (10, [.ref b0, .int 0, .ref p0, .ref u0, .ref r0, .ref a0, .ref t0, .ref s0, .ref o0])), (s0, .inr (5, [.ref s1, .int 0, .int 0])), (s1, .inl (cA 5, 10, .inr (.inr (.inr (.inr FR))))), (m0, .inr (4, [x0, .ref m1, .ref m3, .ref m4, .ref m5, .ref m6, x6, x7, x8, x9, x10, x11, x12, x13, x14, x15, x16, x17, x18, x19])), (m1, .inr (6, [.ref m2, .int n2, .int k2])), (m2, .inl (cA 0, 240, .inl q2)), (m3, .inl (cA 0, 10, .inl q3)), (m4, .inl (cA 0, 10, .inl q4)), (m5, .inl (cA 0, 10, .inl q5)), (m6, .inl (cA 0, 10, .inl q6)), (a0, .inr (4, [.ref p0, .ref a1, .ref a3, .ref a4, .ref a5, .ref a6, .int 0, .int 0, .int 0, .long 0, .long 0, .long 0, .int 0, .int 0, .int 0, .int 0, .int 365, .int 0, .int 0, .int 0])), (a1, .inr (6, [.ref a2, .int 0, .int 0])), (a2, .inl (cA 0, 240, .inl e2)), (a3, .inl (cA 0, 10, .inl e3)), (a4, .inl (cA 0, 10, .inl e4)), (a5, .inl (cA 0, 10, .inl e5)), (a6, .inl (cA 0, 10, .inl e6)), (p0, .inr (7, [.int 0, .int 365, .int 0, .int 0, .ref p1, .int 0, .ref p2, .ref p3, .ref p4, .ref p5, .int 0, .ref p6, .int 0, .ref p7, .ref p8, .ref p9, .int 0]))] sz) [] t) (va_A [(h0, .inr (10, [.ref b0, .int 0, .ref p0, .ref u0, .ref r0, .ref a0, .ref t0, .ref s0, .ref o0])), (s0, .inr (5, [.ref s1, .int 0, .int 0])), (s1, .inl (cA 5, 10, .inr (.inr (.inr (.inr FR))))), (m0, .inr (4, [x0, .ref m1, .ref m3, .ref m4, .ref m5, .ref m6, x6, x7, x8, x9, x10, x11, x12, x13, x14, x15, x16, x17, x18, x19])), (m1, .inr (6, [.ref m2, .int n2, .int k2])), (m2, .inl (cA 0, 240, .inl q2)), (m3, .inl (cA 0, 10, .inl q3)), (m4, .inl (cA 0, 10, .inl q4)), (m5, .inl (cA 0, 10, .inl q5)), (m6, .inl (cA 0, 10, .inl q6)), (a0, .inr (4, [.ref p0, .ref a1, .ref a3, .ref a4, .ref a5, .ref a6, .int 0, .int 0, .int 0, .long 0, .long 0, .long 0, .int 0, .int 0, .int 0, .int 0, .int 365, .int 0, .int 0, .int 0])), (a1, .inr (6, [.ref a2, .int 0, .int 0])), (a2, .inl (cA 0, 240, .inl e2)), (a3, .inl (cA 0, 10, .inl e3)), (a4, .inl (cA 0, 10, .inl e4)), (a5, .inl (cA 0, 10, .inl e5)), (a6, .inl (cA 0, 10, .inl e6)), (p0, .inr (7, [.int 0, .int 365, .int 0, .int 0, .ref p1, .int 0, .ref p2, .ref p3, .ref p4, .ref p5, .int 0, .ref p6, .int 0, .ref p7, .ref p8, .ref p9, .int 0]))] sz)) 0 0 (va_A [(h0, .inr (10, [.ref b0, .int 0, .ref p0, .ref u0, .ref r0, .ref a0, .ref t0, .ref s0, .ref o0])), (s0, .inr (5, [.ref s1, .int 0, .int 0])), (s1, .inl (cA 5, 10, .inr (.inr (.inr (.inr FR))))), (m0, .inr (4, [x0, .ref m1, .ref m3, .ref m4, .ref m5, .ref m6, x6, x7, x8, x9, x10, x11, x12, x13, x14, x15, x16, x17, x18, x19])), (m1, .inr (6, [.ref m2, .int n2, .int k2])), (m2, .inl (cA 0, 240, .inl q2)), (m3, .inl (cA 0, 10, .inl q3)), (m4, .inl (cA 0, 10, .inl q4)), (m5, .inl (cA 0, 10, .inl q5)), (m6, .inl (cA 0, 10, .inl q6)), (a0, .inr (4, [.ref p0, .ref a1, .ref a3, .ref a4, .ref a5, .ref a6, .int 0, .int 0, .int 0, .long 0, .long 0, .long 0, .int 0, .int 0, .int 0, .int 0, .int 365, .int 0, .int 0, .int 0])), (a1, .inr (6, [.ref a2, .int 0, .int 0])), (a2, .inl (cA 0, 240, .inl e2)), (a3, .inl (cA 0, 10, .inl e3)), (a4, .inl (cA 0, 10, .inl e4)), (a5, .inl (cA 0, 10, .inl e5)), (a6, .inl (cA 0, 10, .inl e6)), (p0, .inr (7, [.int 0, .int 365, .int 0, .int 0, .ref p1, .int 0, .ref p2, .ref p3, .ref p4, .ref p5, .int 0, .ref p6, .int 0, .ref p7, .ref p8, .ref p9, .int 0]))] sz) := by
  refine Met.ofW (cc := cX9_setRate) (maxL := 4) (ret := (some .int)) (by decide) rfl ?_
  intro p e s m args below meth c s₁ B hml hv
  obtain ⟨rfl, hsz, hP, hK, hD0, hC, hZ⟩ := hv
  have hx := B.exec
  have hb := B.bytes
  have hr := B.returns
  have hts := atoms_spec (ws := wsX9_setRate) B.pre
  have hown : s.vm.findClass RX9 = some m.cls := findClass_of_methodNamed B.named
  have hlocks := B.notSynchronized
  subst hsz
  have hD := hD0.self (sz := s.heap.size)
  generalize hAe : va_A [(h0, .inr (10, [.ref b0, .int 0, .ref p0, .ref u0, .ref r0, .ref a0, .ref t0, .ref s0, .ref o0])), (s0, .inr (5, [.ref s1, .int 0, .int 0])), (s1, .inl (cA 5, 10, .inr (.inr (.inr (.inr FR))))), (m0, .inr (4, [x0, .ref m1, .ref m3, .ref m4, .ref m5, .ref m6, x6, x7, x8, x9, x10, x11, x12, x13, x14, x15, x16, x17, x18, x19])), (m1, .inr (6, [.ref m2, .int n2, .int k2])), (m2, .inl (cA 0, 240, .inl q2)), (m3, .inl (cA 0, 10, .inl q3)), (m4, .inl (cA 0, 10, .inl q4)), (m5, .inl (cA 0, 10, .inl q5)), (m6, .inl (cA 0, 10, .inl q6)), (a0, .inr (4, [.ref p0, .ref a1, .ref a3, .ref a4, .ref a5, .ref a6, .int 0, .int 0, .int 0, .long 0, .long 0, .long 0, .int 0, .int 0, .int 0, .int 0, .int 365, .int 0, .int 0, .int 0])), (a1, .inr (6, [.ref a2, .int 0, .int 0])), (a2, .inl (cA 0, 240, .inl e2)), (a3, .inl (cA 0, 10, .inl e3)), (a4, .inl (cA 0, 10, .inl e4)), (a5, .inl (cA 0, 10, .inl e5)), (a6, .inl (cA 0, 10, .inl e6)), (p0, .inr (7, [.int 0, .int 365, .int 0, .int 0, .ref p1, .int 0, .ref p2, .ref p3, .ref p4, .ref p5, .int 0, .ref p6, .int 0, .ref p7, .ref p8, .ref p9, .int 0]))] s.heap.size = A at hD hZ ⊢
  have hA : ∀ q : Nat, s.heap.size ≤ q → A q := fun q h => by rw [← hAe]; exact Or.inr h
  have hS : va_S A s.heap s.heap [] := va_S.rf
  have hP : va_P D vwCl [(h0, .inr (10, [.ref b0, .int 0, .ref p0, .ref u0, .ref r0, .ref a0, .ref t0, .ref s0, .ref o0])), (s0, .inr (5, [.ref s1, .int 0, .int 0])), (s1, .inl (cA 5, 10, .inr (.inr (.inr (.inr FR))))), (m0, .inr (4, [x0, .ref m1, .ref m3, .ref m4, .ref m5, .ref m6, x6, x7, x8, x9, x10, x11, x12, x13, x14, x15, x16, x17, x18, x19])), (m1, .inr (6, [.ref m2, .int n2, .int k2])), (m2, .inl (cA 0, 240, .inl q2)), (m3, .inl (cA 0, 10, .inl q3)), (m4, .inl (cA 0, 10, .inl q4)), (m5, .inl (cA 0, 10, .inl q5)), (m6, .inl (cA 0, 10, .inl q6)), (a0, .inr (4, [.ref p0, .ref a1, .ref a3, .ref a4, .ref a5, .ref a6, .int 0, .int 0, .int 0, .long 0, .long 0, .long 0, .int 0, .int 0, .int 0, .int 0, .int 365, .int 0, .int 0, .int 0])), (a1, .inr (6, [.ref a2, .int 0, .int 0])), (a2, .inl (cA 0, 240, .inl e2)), (a3, .inl (cA 0, 10, .inl e3)), (a4, .inl (cA 0, 10, .inl e4)), (a5, .inl (cA 0, 10, .inl e5)), (a6, .inl (cA 0, 10, .inl e6)), (p0, .inr (7, [.int 0, .int 365, .int 0, .int 0, .ref p1, .int 0, .ref p2, .ref p3, .ref p4, .ref p5, .int 0, .ref p6, .int 0, .ref p7, .ref p8, .ref p9, .int 0]))] s.heap := hP
  have hl := lv_entry ([.ref h0, .int a, .int 365]) (n := 4) (Nat.le_of_ble_eq_true rfl)
  rw [lg_entry_eq]
  generalize (lg_sl ([.ref h0, .int a, .int 365]) ++ List.replicate (4 - (lg_sl ([.ref h0, .int a, .int 365])).length) Slot.unset).toArray = ls at hl ⊢
  have hl : lv_has ls 4 [(0, .ref h0), (1, .int a), (2, .int 365)] := hl
  have inX0 : ∀ w ∈ u_ws RX0 TX0 20, w ∈ wsX9_setRate := by decide +kernel
  have inX9 : ∀ w ∈ u_ws RX9 TX9 9, w ∈ wsX9_setRate := by decide +kernel
  refine lv_iload_n hx hb dX9_setRate_0 rfl (lv_at hl 1 rfl) ?_
  refine lv_iconst (v := 0) hx hb dX9_setRate_1 (by decide) ?_
  refine lv_sipush (v := 3000) hx hb dX9_setRate_2 (by decide) ?_
  have hPc := hP.sub (ws' := []) [] rfl
  have hDc := hD.sub (ws' := []) [] (by decide) rfl
  have hFc := va_free (wc := []) hD hS hA [] rfl
  refine va_callv (va_runS (As := [.int a, .int 0, .int 3000]) (rest := []) ⟨hx, hb, hml, hown, hts⟩ (c_needRange_ret l D cA sa a 0 3000 s.heap.size h1 h2) (va_cwS 3 hts gX9_setRate_X9_needRange rfl rfl rfl (by decide +kernel) ⟨(Nat.le_of_ble_eq_true rfl), (Nat.le_of_ble_eq_true rfl)⟩) ⟨Wd.blind, fun U hU hW => ⟨rfl, Wd.call hPc hDc hK hC hZ hS hFc U hU hW⟩⟩ rfl rfl hl.1 rfl (lv_room (Nat.le_of_ble_eq_true rfl)) dX9_setRate_5 ⟨(Nat.le_of_ble_eq_true rfl), (Nat.le_of_ble_eq_true rfl)⟩) hS (fun q _ h => hFc q h) hFc (fun u t H1 locs ht hvm hw hB hz1 hk1 hS => ?_)
  obtain ⟨hP1, hD1⟩ := hB
  rw [ht] at hP1
  obtain ⟨hP, hD⟩ := va_join (wr := [(h0, .inr (10, [.ref b0, .int 0, .ref p0, .ref u0, .ref r0, .ref a0, .ref t0, .ref s0, .ref o0])), (s0, .inr (5, [.ref s1, .int 0, .int 0])), (s1, .inl (cA 5, 10, .inr (.inr (.inr (.inr FR))))), (m0, .inr (4, [x0, .ref m1, .ref m3, .ref m4, .ref m5, .ref m6, x6, x7, x8, x9, x10, x11, x12, x13, x14, x15, x16, x17, x18, x19])), (m1, .inr (6, [.ref m2, .int n2, .int k2])), (m2, .inl (cA 0, 240, .inl q2)), (m3, .inl (cA 0, 10, .inl q3)), (m4, .inl (cA 0, 10, .inl q4)), (m5, .inl (cA 0, 10, .inl q5)), (m6, .inl (cA 0, 10, .inl q6)), (a0, .inr (4, [.ref p0, .ref a1, .ref a3, .ref a4, .ref a5, .ref a6, .int 0, .int 0, .int 0, .long 0, .long 0, .long 0, .int 0, .int 0, .int 0, .int 0, .int 365, .int 0, .int 0, .int 0])), (a1, .inr (6, [.ref a2, .int 0, .int 0])), (a2, .inl (cA 0, 240, .inl e2)), (a3, .inl (cA 0, 10, .inl e3)), (a4, .inl (cA 0, 10, .inl e4)), (a5, .inl (cA 0, 10, .inl e5)), (a6, .inl (cA 0, 10, .inl e6)), (p0, .inr (7, [.int 0, .int 365, .int 0, .int 0, .ref p1, .int 0, .ref p2, .ref p3, .ref p4, .ref p5, .int 0, .ref p6, .int 0, .ref p7, .ref p8, .ref p9, .int 0]))]) (w1 := []) hP hD [] [0, 1, 2, 3, 4, 5, 6, 7, 8, 9, 10, 11, 12, 13, 14, 15, 16, 17] rfl rfl (by decide) (by decide) hk1 hFc hP1 hD1
  generalize H1 = H at hP hS ⊢
  have hP : va_P D vwCl [(h0, .inr (10, [.ref b0, .int 0, .ref p0, .ref u0, .ref r0, .ref a0, .ref t0, .ref s0, .ref o0])), (s0, .inr (5, [.ref s1, .int 0, .int 0])), (s1, .inl (cA 5, 10, .inr (.inr (.inr (.inr FR))))), (m0, .inr (4, [x0, .ref m1, .ref m3, .ref m4, .ref m5, .ref m6, x6, x7, x8, x9, x10, x11, x12, x13, x14, x15, x16, x17, x18, x19])), (m1, .inr (6, [.ref m2, .int n2, .int k2])), (m2, .inl (cA 0, 240, .inl q2)), (m3, .inl (cA 0, 10, .inl q3)), (m4, .inl (cA 0, 10, .inl q4)), (m5, .inl (cA 0, 10, .inl q5)), (m6, .inl (cA 0, 10, .inl q6)), (a0, .inr (4, [.ref p0, .ref a1, .ref a3, .ref a4, .ref a5, .ref a6, .int 0, .int 0, .int 0, .long 0, .long 0, .long 0, .int 0, .int 0, .int 0, .int 0, .int 365, .int 0, .int 0, .int 0])), (a1, .inr (6, [.ref a2, .int 0, .int 0])), (a2, .inl (cA 0, 240, .inl e2)), (a3, .inl (cA 0, 10, .inl e3)), (a4, .inl (cA 0, 10, .inl e4)), (a5, .inl (cA 0, 10, .inl e5)), (a6, .inl (cA 0, 10, .inl e6)), (p0, .inr (7, [.int 0, .int 365, .int 0, .int 0, .ref p1, .int 0, .ref p2, .ref p3, .ref p4, .ref p5, .int 0, .ref p6, .int 0, .ref p7, .ref p8, .ref p9, .int 0]))] H := hP
  have hD : va_D A [(h0, .inr (10, [.ref b0, .int 0, .ref p0, .ref u0, .ref r0, .ref a0, .ref t0, .ref s0, .ref o0])), (s0, .inr (5, [.ref s1, .int 0, .int 0])), (s1, .inl (cA 5, 10, .inr (.inr (.inr (.inr FR))))), (m0, .inr (4, [x0, .ref m1, .ref m3, .ref m4, .ref m5, .ref m6, x6, x7, x8, x9, x10, x11, x12, x13, x14, x15, x16, x17, x18, x19])), (m1, .inr (6, [.ref m2, .int n2, .int k2])), (m2, .inl (cA 0, 240, .inl q2)), (m3, .inl (cA 0, 10, .inl q3)), (m4, .inl (cA 0, 10, .inl q4)), (m5, .inl (cA 0, 10, .inl q5)), (m6, .inl (cA 0, 10, .inl q6)), (a0, .inr (4, [.ref p0, .ref a1, .ref a3, .ref a4, .ref a5, .ref a6, .int 0, .int 0, .int 0, .long 0, .long 0, .long 0, .int 0, .int 0, .int 0, .int 0, .int 365, .int 0, .int 0, .int 0])), (a1, .inr (6, [.ref a2, .int 0, .int 0])), (a2, .inl (cA 0, 240, .inl e2)), (a3, .inl (cA 0, 10, .inl e3)), (a4, .inl (cA 0, 10, .inl e4)), (a5, .inl (cA 0, 10, .inl e5)), (a6, .inl (cA 0, 10, .inl e6)), (p0, .inr (7, [.int 0, .int 365, .int 0, .int 0, .ref p1, .int 0, .ref p2, .ref p3, .ref p4, .ref p5, .int 0, .ref p6, .int 0, .ref p7, .ref p8, .ref p9, .int 0]))] := hD
  refine lv_iload_n hx hb dX9_setRate_8 rfl (lv_at hl 2 rfl) ?_
  refine lv_i2l (v := 365) hx hb dX9_setRate_9 (by decide) ?_
  have hPc := hP.sub (ws' := []) [] rfl
  have hDc := hD.sub (ws' := []) [] (by decide) rfl
  have hFc := va_free (wc := []) hD hS hA [] rfl
  refine va_calli (va_runS (As := [.long 365]) (rest := []) ⟨hx, hb, hml, hown, hts⟩ (c_isBasis_365 l D cA sa  H.size) (va_cwS 1 hts gX9_setRate_X9_isBasis rfl rfl rfl (by decide +kernel) ⟨(Nat.le_of_ble_eq_true rfl), (Nat.le_of_ble_eq_true rfl)⟩) ⟨Wd.blind, fun U hU hW => ⟨rfl, Wd.call hPc hDc hK hC hZ hS hFc U hU hW⟩⟩ rfl rfl hl.1 rfl (lv_room (Nat.le_of_ble_eq_true rfl)) dX9_setRate_10 ⟨(Nat.le_of_ble_eq_true rfl), (Nat.le_of_ble_eq_true rfl)⟩) hS (fun q _ h => hFc q h) hFc (fun rn1 u t H1 locs ht hvm hw hB hz1 hk1 hS => ?_)
  obtain ⟨hP1, hD1⟩ := hB
  rw [ht] at hP1
  obtain ⟨hP, hD⟩ := va_join (wr := [(h0, .inr (10, [.ref b0, .int 0, .ref p0, .ref u0, .ref r0, .ref a0, .ref t0, .ref s0, .ref o0])), (s0, .inr (5, [.ref s1, .int 0, .int 0])), (s1, .inl (cA 5, 10, .inr (.inr (.inr (.inr FR))))), (m0, .inr (4, [x0, .ref m1, .ref m3, .ref m4, .ref m5, .ref m6, x6, x7, x8, x9, x10, x11, x12, x13, x14, x15, x16, x17, x18, x19])), (m1, .inr (6, [.ref m2, .int n2, .int k2])), (m2, .inl (cA 0, 240, .inl q2)), (m3, .inl (cA 0, 10, .inl q3)), (m4, .inl (cA 0, 10, .inl q4)), (m5, .inl (cA 0, 10, .inl q5)), (m6, .inl (cA 0, 10, .inl q6)), (a0, .inr (4, [.ref p0, .ref a1, .ref a3, .ref a4, .ref a5, .ref a6, .int 0, .int 0, .int 0, .long 0, .long 0, .long 0, .int 0, .int 0, .int 0, .int 0, .int 365, .int 0, .int 0, .int 0])), (a1, .inr (6, [.ref a2, .int 0, .int 0])), (a2, .inl (cA 0, 240, .inl e2)), (a3, .inl (cA 0, 10, .inl e3)), (a4, .inl (cA 0, 10, .inl e4)), (a5, .inl (cA 0, 10, .inl e5)), (a6, .inl (cA 0, 10, .inl e6)), (p0, .inr (7, [.int 0, .int 365, .int 0, .int 0, .ref p1, .int 0, .ref p2, .ref p3, .ref p4, .ref p5, .int 0, .ref p6, .int 0, .ref p7, .ref p8, .ref p9, .int 0]))]) (w1 := []) hP hD [] [0, 1, 2, 3, 4, 5, 6, 7, 8, 9, 10, 11, 12, 13, 14, 15, 16, 17] rfl rfl (by decide) (by decide) hk1 hFc hP1 hD1
  generalize H1 = H at hP hS ⊢
  have hP : va_P D vwCl [(h0, .inr (10, [.ref b0, .int 0, .ref p0, .ref u0, .ref r0, .ref a0, .ref t0, .ref s0, .ref o0])), (s0, .inr (5, [.ref s1, .int 0, .int 0])), (s1, .inl (cA 5, 10, .inr (.inr (.inr (.inr FR))))), (m0, .inr (4, [x0, .ref m1, .ref m3, .ref m4, .ref m5, .ref m6, x6, x7, x8, x9, x10, x11, x12, x13, x14, x15, x16, x17, x18, x19])), (m1, .inr (6, [.ref m2, .int n2, .int k2])), (m2, .inl (cA 0, 240, .inl q2)), (m3, .inl (cA 0, 10, .inl q3)), (m4, .inl (cA 0, 10, .inl q4)), (m5, .inl (cA 0, 10, .inl q5)), (m6, .inl (cA 0, 10, .inl q6)), (a0, .inr (4, [.ref p0, .ref a1, .ref a3, .ref a4, .ref a5, .ref a6, .int 0, .int 0, .int 0, .long 0, .long 0, .long 0, .int 0, .int 0, .int 0, .int 0, .int 365, .int 0, .int 0, .int 0])), (a1, .inr (6, [.ref a2, .int 0, .int 0])), (a2, .inl (cA 0, 240, .inl e2)), (a3, .inl (cA 0, 10, .inl e3)), (a4, .inl (cA 0, 10, .inl e4)), (a5, .inl (cA 0, 10, .inl e5)), (a6, .inl (cA 0, 10, .inl e6)), (p0, .inr (7, [.int 0, .int 365, .int 0, .int 0, .ref p1, .int 0, .ref p2, .ref p3, .ref p4, .ref p5, .int 0, .ref p6, .int 0, .ref p7, .ref p8, .ref p9, .int 0]))] H := hP
  have hD : va_D A [(h0, .inr (10, [.ref b0, .int 0, .ref p0, .ref u0, .ref r0, .ref a0, .ref t0, .ref s0, .ref o0])), (s0, .inr (5, [.ref s1, .int 0, .int 0])), (s1, .inl (cA 5, 10, .inr (.inr (.inr (.inr FR))))), (m0, .inr (4, [x0, .ref m1, .ref m3, .ref m4, .ref m5, .ref m6, x6, x7, x8, x9, x10, x11, x12, x13, x14, x15, x16, x17, x18, x19])), (m1, .inr (6, [.ref m2, .int n2, .int k2])), (m2, .inl (cA 0, 240, .inl q2)), (m3, .inl (cA 0, 10, .inl q3)), (m4, .inl (cA 0, 10, .inl q4)), (m5, .inl (cA 0, 10, .inl q5)), (m6, .inl (cA 0, 10, .inl q6)), (a0, .inr (4, [.ref p0, .ref a1, .ref a3, .ref a4, .ref a5, .ref a6, .int 0, .int 0, .int 0, .long 0, .long 0, .long 0, .int 0, .int 0, .int 0, .int 0, .int 365, .int 0, .int 0, .int 0])), (a1, .inr (6, [.ref a2, .int 0, .int 0])), (a2, .inl (cA 0, 240, .inl e2)), (a3, .inl (cA 0, 10, .inl e3)), (a4, .inl (cA 0, 10, .inl e4)), (a5, .inl (cA 0, 10, .inl e5)), (a6, .inl (cA 0, 10, .inl e6)), (p0, .inr (7, [.int 0, .int 365, .int 0, .int 0, .ref p1, .int 0, .ref p2, .ref p3, .ref p4, .ref p5, .int 0, .ref p6, .int 0, .ref p7, .ref p8, .ref p9, .int 0]))] := hD
  obtain rfl : rn1 = 1 := hw
  refine lv_if_ne (tgt := 27) hx hb dX9_setRate_13 (by decide) (fun c2 => ?_) (fun c9 => absurd c9 (by decide))
  refine lv_aload_n hx hb dX9_setRate_27 rfl (lv_at hl 0 rfl) ?_
  refine va_get (D := D) (ci := 10) (v := .ref s0) (C := RX9) (T := TX9) (N := 9) hx hb hts inX9 hown hK hP 0 rfl rfl 7 (by decide) (hts (.fieldLink RX9 45 "EscrowDesk" "history" "LEscrowDesk$History;") (by decide +kernel)) (fun _ h9 => h9) rfl dX9_setRate_28 ?_
  refine lv_aload_n hx hb dX9_setRate_31 rfl (lv_at hl 0 rfl) ?_
  refine va_get (D := D) (ci := 10) (v := .ref a0) (C := RX9) (T := TX9) (N := 9) hx hb hts inX9 hown hK hP 0 rfl rfl 5 (by decide) (hts (.fieldLink RX9 35 "EscrowDesk" "account" "LEscrowDesk$Account;") (by decide +kernel)) (fun _ h9 => h9) rfl dX9_setRate_32 ?_
  have hPc := hP.sub (ws' := [(s0, .inr (5, [.ref s1, .int 0, .int 0])), (s1, .inl (cA 5, 10, .inr (.inr (.inr (.inr FR))))), (m0, .inr (4, [x0, .ref m1, .ref m3, .ref m4, .ref m5, .ref m6, x6, x7, x8, x9, x10, x11, x12, x13, x14, x15, x16, x17, x18, x19])), (m1, .inr (6, [.ref m2, .int n2, .int k2])), (m2, .inl (cA 0, 240, .inl q2)), (m3, .inl (cA 0, 10, .inl q3)), (m4, .inl (cA 0, 10, .inl q4)), (m5, .inl (cA 0, 10, .inl q5)), (m6, .inl (cA 0, 10, .inl q6)), (a0, .inr (4, [.ref p0, .ref a1, .ref a3, .ref a4, .ref a5, .ref a6, .int 0, .int 0, .int 0, .long 0, .long 0, .long 0, .int 0, .int 0, .int 0, .int 0, .int 365, .int 0, .int 0, .int 0])), (a1, .inr (6, [.ref a2, .int 0, .int 0])), (a2, .inl (cA 0, 240, .inl e2)), (a3, .inl (cA 0, 10, .inl e3)), (a4, .inl (cA 0, 10, .inl e4)), (a5, .inl (cA 0, 10, .inl e5)), (a6, .inl (cA 0, 10, .inl e6))]) [1, 2, 3, 4, 5, 6, 7, 8, 9, 10, 11, 12, 13, 14, 15, 16] rfl
  have hDc := hD.sub (ws' := [(s0, .inr (5, [.ref s1, .int 0, .int 0])), (s1, .inl (cA 5, 10, .inr (.inr (.inr (.inr FR))))), (m0, .inr (4, [x0, .ref m1, .ref m3, .ref m4, .ref m5, .ref m6, x6, x7, x8, x9, x10, x11, x12, x13, x14, x15, x16, x17, x18, x19])), (m1, .inr (6, [.ref m2, .int n2, .int k2])), (m2, .inl (cA 0, 240, .inl q2)), (m3, .inl (cA 0, 10, .inl q3)), (m4, .inl (cA 0, 10, .inl q4)), (m5, .inl (cA 0, 10, .inl q5)), (m6, .inl (cA 0, 10, .inl q6)), (a0, .inr (4, [.ref p0, .ref a1, .ref a3, .ref a4, .ref a5, .ref a6, .int 0, .int 0, .int 0, .long 0, .long 0, .long 0, .int 0, .int 0, .int 0, .int 0, .int 365, .int 0, .int 0, .int 0])), (a1, .inr (6, [.ref a2, .int 0, .int 0])), (a2, .inl (cA 0, 240, .inl e2)), (a3, .inl (cA 0, 10, .inl e3)), (a4, .inl (cA 0, 10, .inl e4)), (a5, .inl (cA 0, 10, .inl e5)), (a6, .inl (cA 0, 10, .inl e6))]) [1, 2, 3, 4, 5, 6, 7, 8, 9, 10, 11, 12, 13, 14, 15, 16] (by decide) rfl
  have hFc := va_free (wc := [(s0, .inr (5, [.ref s1, .int 0, .int 0])), (s1, .inl (cA 5, 10, .inr (.inr (.inr (.inr FR))))), (m0, .inr (4, [x0, .ref m1, .ref m3, .ref m4, .ref m5, .ref m6, x6, x7, x8, x9, x10, x11, x12, x13, x14, x15, x16, x17, x18, x19])), (m1, .inr (6, [.ref m2, .int n2, .int k2])), (m2, .inl (cA 0, 240, .inl q2)), (m3, .inl (cA 0, 10, .inl q3)), (m4, .inl (cA 0, 10, .inl q4)), (m5, .inl (cA 0, 10, .inl q5)), (m6, .inl (cA 0, 10, .inl q6)), (a0, .inr (4, [.ref p0, .ref a1, .ref a3, .ref a4, .ref a5, .ref a6, .int 0, .int 0, .int 0, .long 0, .long 0, .long 0, .int 0, .int 0, .int 0, .int 0, .int 365, .int 0, .int 0, .int 0])), (a1, .inr (6, [.ref a2, .int 0, .int 0])), (a2, .inl (cA 0, 240, .inl e2)), (a3, .inl (cA 0, 10, .inl e3)), (a4, .inl (cA 0, 10, .inl e4)), (a5, .inl (cA 0, 10, .inl e5)), (a6, .inl (cA 0, 10, .inl e6))]) hD hS hA [1, 2, 3, 4, 5, 6, 7, 8, 9, 10, 11, 12, 13, 14, 15, 16] rfl
  refine va_callv (va_runV (As := [.ref a0]) (rest := []) ⟨hx, hb, hml, hown, hts⟩ (c_remember l D cA sa s0 s1 m0 m1 m2 m3 m4 m5 m6 a0 a1 a2 a3 a4 a5 a6 p0 x0 x6 x7 x8 x9 x10 x11 x12 x13 x14 x15 x16 x17 x18 x19 n2 k2 q2 q3 q4 q5 q6 e2 e3 e4 e5 e6 FR H.size hF) (cwV 1 hts gX9_setRate_X1_remember rfl rfl rfl (by decide +kernel) ⟨(Nat.le_of_ble_eq_true rfl), (Nat.le_of_ble_eq_true rfl)⟩) ⟨Wd.blind, va_recv hK hPc (ci := 5) (q0 := 0) rfl rfl, fun U hU hW => ⟨rfl, Wd.call hPc hDc hK hC hZ hS hFc U hU hW⟩⟩ rfl rfl hl.1 rfl (lv_room (Nat.le_of_ble_eq_true rfl)) dX9_setRate_35 ⟨(Nat.le_of_ble_eq_true rfl), (Nat.le_of_ble_eq_true rfl)⟩) hS (fun q _ h => hFc q h) hFc (fun u t H1 locs ht hvm hw hB hz1 hk1 hS => ?_)
  obtain ⟨hP1, hD1⟩ := hB
  rw [ht] at hP1
  obtain ⟨hP, hD⟩ := va_join (wr := [(h0, .inr (10, [.ref b0, .int 0, .ref p0, .ref u0, .ref r0, .ref a0, .ref t0, .ref s0, .ref o0])), (p0, .inr (7, [.int 0, .int 365, .int 0, .int 0, .ref p1, .int 0, .ref p2, .ref p3, .ref p4, .ref p5, .int 0, .ref p6, .int 0, .ref p7, .ref p8, .ref p9, .int 0]))]) (w1 := [(a0, .inr (4, [.ref p0, .ref a1, .ref a3, .ref a4, .ref a5, .ref a6, .int 0, .int 0, .int 0, .long 0, .long 0, .long 0, .int 0, .int 0, .int 0, .int 0, .int 365, .int 0, .int 0, .int 0])), (a1, .inr (6, [.ref a2, .int 0, .int 0])), (a2, .inl (cA 0, 240, .inl e2)), (a3, .inl (cA 0, 10, .inl e3)), (a4, .inl (cA 0, 10, .inl e4)), (a5, .inl (cA 0, 10, .inl e5)), (a6, .inl (cA 0, 10, .inl e6))]) hP hD [1, 2, 3, 4, 5, 6, 7, 8, 9, 10, 11, 12, 13, 14, 15, 16] [0, 17] rfl rfl (by decide) (by decide) hk1 hFc hP1 hD1
  generalize H1 = H at hP hS ⊢
  have hP : va_P D vwCl [(h0, .inr (10, [.ref b0, .int 0, .ref p0, .ref u0, .ref r0, .ref a0, .ref t0, .ref s0, .ref o0])), (p0, .inr (7, [.int 0, .int 365, .int 0, .int 0, .ref p1, .int 0, .ref p2, .ref p3, .ref p4, .ref p5, .int 0, .ref p6, .int 0, .ref p7, .ref p8, .ref p9, .int 0])), (a0, .inr (4, [.ref p0, .ref a1, .ref a3, .ref a4, .ref a5, .ref a6, .int 0, .int 0, .int 0, .long 0, .long 0, .long 0, .int 0, .int 0, .int 0, .int 0, .int 365, .int 0, .int 0, .int 0])), (a1, .inr (6, [.ref a2, .int 0, .int 0])), (a2, .inl (cA 0, 240, .inl e2)), (a3, .inl (cA 0, 10, .inl e3)), (a4, .inl (cA 0, 10, .inl e4)), (a5, .inl (cA 0, 10, .inl e5)), (a6, .inl (cA 0, 10, .inl e6))] H := hP
  have hD : va_D A [(h0, .inr (10, [.ref b0, .int 0, .ref p0, .ref u0, .ref r0, .ref a0, .ref t0, .ref s0, .ref o0])), (p0, .inr (7, [.int 0, .int 365, .int 0, .int 0, .ref p1, .int 0, .ref p2, .ref p3, .ref p4, .ref p5, .int 0, .ref p6, .int 0, .ref p7, .ref p8, .ref p9, .int 0])), (a0, .inr (4, [.ref p0, .ref a1, .ref a3, .ref a4, .ref a5, .ref a6, .int 0, .int 0, .int 0, .long 0, .long 0, .long 0, .int 0, .int 0, .int 0, .int 0, .int 365, .int 0, .int 0, .int 0])), (a1, .inr (6, [.ref a2, .int 0, .int 0])), (a2, .inl (cA 0, 240, .inl e2)), (a3, .inl (cA 0, 10, .inl e3)), (a4, .inl (cA 0, 10, .inl e4)), (a5, .inl (cA 0, 10, .inl e5)), (a6, .inl (cA 0, 10, .inl e6))] := hD
  refine lv_aload_n hx hb dX9_setRate_38 rfl (lv_at hl 0 rfl) ?_
  refine va_get (D := D) (ci := 10) (v := .ref a0) (C := RX9) (T := TX9) (N := 9) hx hb hts inX9 hown hK hP 0 rfl rfl 5 (by decide) (hts (.fieldLink RX9 35 "EscrowDesk" "account" "LEscrowDesk$Account;") (by decide +kernel)) (fun _ h9 => h9) rfl dX9_setRate_39 ?_
  refine va_getN (D := D) (ci := 4) (v := .int 0) (C := RX0) (T := TX0) (N := 20) hx hb hts inX0 hown hK hP 2 rfl rfl 15 (by decide) (hC.f (A := _) (a := RX9) (i := 299) (b := "EscrowDesk$Account") (n := "rate") (d := "I") (x := "EscrowDesk") (by decide +kernel)) (fun _ h9 => h9) rfl dX9_setRate_42 ?_
  refine lv_istore_n (lv' := [(3, .int 0), (0, .ref h0), (1, .int a), (2, .int 365)]) hx hb dX9_setRate_45 rfl hl (by decide) rfl (fun ls hl => ?_)
  refine lv_aload_n hx hb dX9_setRate_46 rfl (lv_at hl 1 rfl) ?_
  refine va_get (D := D) (ci := 10) (v := .ref a0) (C := RX9) (T := TX9) (N := 9) hx hb hts inX9 hown hK hP 0 rfl rfl 5 (by decide) (hts (.fieldLink RX9 35 "EscrowDesk" "account" "LEscrowDesk$Account;") (by decide +kernel)) (fun _ h9 => h9) rfl dX9_setRate_47 ?_
  refine lv_iload_n hx hb dX9_setRate_50 rfl (lv_at hl 2 rfl) ?_
  refine va_putN (D := D) (ci := 4) (v := .int a) (ty := .int) (C := RX0) (T := TX0) (N := 20) hx hb hts inX0 tyX0 tyX0_ok nmX0 hown hK hP hD hS 2 rfl rfl 15 (by decide) (hC.f (A := _) (a := RX9) (i := 299) (b := "EscrowDesk$Account") (n := "rate") (d := "I") (x := "EscrowDesk") (by decide +kernel)) (fun _ h9 => h9) rfl (by decide +kernel) rfl rfl (Nat.le_of_ble_eq_true rfl) dX9_setRate_51 (fun H locs hP hD hS => ?_)
  have hP : va_P D vwCl [(h0, .inr (10, [.ref b0, .int 0, .ref p0, .ref u0, .ref r0, .ref a0, .ref t0, .ref s0, .ref o0])), (p0, .inr (7, [.int 0, .int 365, .int 0, .int 0, .ref p1, .int 0, .ref p2, .ref p3, .ref p4, .ref p5, .int 0, .ref p6, .int 0, .ref p7, .ref p8, .ref p9, .int 0])), (a0, .inr (4, [.ref p0, .ref a1, .ref a3, .ref a4, .ref a5, .ref a6, .int 0, .int 0, .int 0, .long 0, .long 0, .long 0, .int 0, .int 0, .int 0, .int a, .int 365, .int 0, .int 0, .int 0])), (a1, .inr (6, [.ref a2, .int 0, .int 0])), (a2, .inl (cA 0, 240, .inl e2)), (a3, .inl (cA 0, 10, .inl e3)), (a4, .inl (cA 0, 10, .inl e4)), (a5, .inl (cA 0, 10, .inl e5)), (a6, .inl (cA 0, 10, .inl e6))] H := hP
  have hD : va_D A [(h0, .inr (10, [.ref b0, .int 0, .ref p0, .ref u0, .ref r0, .ref a0, .ref t0, .ref s0, .ref o0])), (p0, .inr (7, [.int 0, .int 365, .int 0, .int 0, .ref p1, .int 0, .ref p2, .ref p3, .ref p4, .ref p5, .int 0, .ref p6, .int 0, .ref p7, .ref p8, .ref p9, .int 0])), (a0, .inr (4, [.ref p0, .ref a1, .ref a3, .ref a4, .ref a5, .ref a6, .int 0, .int 0, .int 0, .long 0, .long 0, .long 0, .int 0, .int 0, .int 0, .int a, .int 365, .int 0, .int 0, .int 0])), (a1, .inr (6, [.ref a2, .int 0, .int 0])), (a2, .inl (cA 0, 240, .inl e2)), (a3, .inl (cA 0, 10, .inl e3)), (a4, .inl (cA 0, 10, .inl e4)), (a5, .inl (cA 0, 10, .inl e5)), (a6, .inl (cA 0, 10, .inl e6))] := hD
  refine lv_aload_n hx hb dX9_setRate_54 rfl (lv_at hl 1 rfl) ?_
  refine va_get (D := D) (ci := 10) (v := .ref a0) (C := RX9) (T := TX9) (N := 9) hx hb hts inX9 hown hK hP 0 rfl rfl 5 (by decide) (hts (.fieldLink RX9 35 "EscrowDesk" "account" "LEscrowDesk$Account;") (by decide +kernel)) (fun _ h9 => h9) rfl dX9_setRate_55 ?_
  refine lv_iload_n hx hb dX9_setRate_58 rfl (lv_at hl 3 rfl) ?_
  refine va_putN (D := D) (ci := 4) (v := .int 365) (ty := .int) (C := RX0) (T := TX0) (N := 20) hx hb hts inX0 tyX0 tyX0_ok nmX0 hown hK hP hD hS 2 rfl rfl 16 (by decide) (hC.f (A := _) (a := RX9) (i := 302) (b := "EscrowDesk$Account") (n := "basis") (d := "I") (x := "EscrowDesk") (by decide +kernel)) (fun _ h9 => h9) rfl (by decide +kernel) rfl rfl (Nat.le_of_ble_eq_true rfl) dX9_setRate_59 (fun H locs hP hD hS => ?_)
  have hP : va_P D vwCl [(h0, .inr (10, [.ref b0, .int 0, .ref p0, .ref u0, .ref r0, .ref a0, .ref t0, .ref s0, .ref o0])), (p0, .inr (7, [.int 0, .int 365, .int 0, .int 0, .ref p1, .int 0, .ref p2, .ref p3, .ref p4, .ref p5, .int 0, .ref p6, .int 0, .ref p7, .ref p8, .ref p9, .int 0])), (a0, .inr (4, [.ref p0, .ref a1, .ref a3, .ref a4, .ref a5, .ref a6, .int 0, .int 0, .int 0, .long 0, .long 0, .long 0, .int 0, .int 0, .int 0, .int a, .int 365, .int 0, .int 0, .int 0])), (a1, .inr (6, [.ref a2, .int 0, .int 0])), (a2, .inl (cA 0, 240, .inl e2)), (a3, .inl (cA 0, 10, .inl e3)), (a4, .inl (cA 0, 10, .inl e4)), (a5, .inl (cA 0, 10, .inl e5)), (a6, .inl (cA 0, 10, .inl e6))] H := hP
  have hD : va_D A [(h0, .inr (10, [.ref b0, .int 0, .ref p0, .ref u0, .ref r0, .ref a0, .ref t0, .ref s0, .ref o0])), (p0, .inr (7, [.int 0, .int 365, .int 0, .int 0, .ref p1, .int 0, .ref p2, .ref p3, .ref p4, .ref p5, .int 0, .ref p6, .int 0, .ref p7, .ref p8, .ref p9, .int 0])), (a0, .inr (4, [.ref p0, .ref a1, .ref a3, .ref a4, .ref a5, .ref a6, .int 0, .int 0, .int 0, .long 0, .long 0, .long 0, .int 0, .int 0, .int 0, .int a, .int 365, .int 0, .int 0, .int 0])), (a1, .inr (6, [.ref a2, .int 0, .int 0])), (a2, .inl (cA 0, 240, .inl e2)), (a3, .inl (cA 0, 10, .inl e3)), (a4, .inl (cA 0, 10, .inl e4)), (a5, .inl (cA 0, 10, .inl e5)), (a6, .inl (cA 0, 10, .inl e6))] := hD
  refine lv_iload_n hx hb dX9_setRate_62 rfl (lv_at hl 0 rfl) ?_
  have hP9 := hP.sub (ws' := []) [] rfl
  have hD9 := hD.sub (ws' := []) [] (by decide) rfl
  refine W.widen (k := 0) (n := 0) (Nat.le_of_ble_eq_true rfl) (Nat.le_of_ble_eq_true rfl) ?_
  exact W.iret (v := 0) hx hb hr (fun t ht hW => ⟨⟨0, (), rfl, rfl, by rw [ht]; exact hP9, hD9⟩, hS.F ht⟩) hS.2.2 dX9_setRate_63

set_option maxHeartbeats 4000000 in
set_option maxRecDepth 100000 in
/-- setRate: rate outside -/
theorem c_setRate_thr1 (l : Launch) (D : va_G) (cA : Nat → ClassId) (sa : Nat → Nat) (h0 b0 p0 u0 r0 a0 t0 s0 o0 : Nat) (a b : Int32) (sz : Nat) (hl9 : l.stackTraces = false) (h : a < 0 ∨ 3000 < a) : vx_Met l yX9_setRate wsX9_setRate ({ frames := 7, cells := 1, slots := 6, locals := 112 }) (va_Pc [.ref h0, .int a, .int b] (Wd D cA sa [(h0, .inr (10, [.ref b0, .int 0, .ref p0, .ref u0, .ref r0, .ref a0, .ref t0, .ref s0, .ref o0]))] sz)) (va_Qi (fun (_ : Int32) (_ : Unit) => False) (fun (_ : Unit) _ => True) (va_A [(h0, .inr (10, [.ref b0, .int 0, .ref p0, .ref u0, .ref r0, .ref a0, .ref t0, .ref s0, .ref o0]))] sz)) (vx_X (fun _ : Unit => True) (fun E _ _ => E = "java/lang/IllegalArgumentException") (va_A [(h0, .inr (10, [.ref b0, .int 0, .ref p0, .ref u0, .ref r0, .ref a0, .ref t0, .ref s0, .ref o0]))] sz)) 1 6 (va_A [(h0, .inr (10, [.ref b0, .int 0, .ref p0, .ref u0, .ref r0, .ref a0, .ref t0, .ref s0, .ref o0]))] sz) := by
  refine vx_ofW (cc := cX9_setRate) (maxL := 4) (ret := (some .int)) (by decide) rfl ?_
  intro p e s m args below meth c s₁ B hml hno hv
  obtain ⟨rfl, hsz, hP, hK, hD0, hC, hZ⟩ := hv
  have hx := B.exec
  have hb := B.bytes
  have hr := B.returns
  have hts := atoms_spec (ws := wsX9_setRate) B.pre
  have hown : s.vm.findClass RX9 = some m.cls := findClass_of_methodNamed B.named
  have hlocks := B.notSynchronized
  subst hsz
  have hD := hD0.self (sz := s.heap.size)
  generalize hAe : va_A [(h0, .inr (10, [.ref b0, .int 0, .ref p0, .ref u0, .ref r0, .ref a0, .ref t0, .ref s0, .ref o0]))] s.heap.size = A at hD hZ ⊢
  have hA : ∀ q : Nat, s.heap.size ≤ q → A q := fun q h => by rw [← hAe]; exact Or.inr h
  have hS : va_S A s.heap s.heap [] := va_S.rf
  have hP : va_P D vwCl [(h0, .inr (10, [.ref b0, .int 0, .ref p0, .ref u0, .ref r0, .ref a0, .ref t0, .ref s0, .ref o0]))] s.heap := hP
  have hl := lv_entry ([.ref h0, .int a, .int b]) (n := 4) (Nat.le_of_ble_eq_true rfl)
  rw [lg_entry_eq]
  generalize (lg_sl ([.ref h0, .int a, .int b]) ++ List.replicate (4 - (lg_sl ([.ref h0, .int a, .int b])).length) Slot.unset).toArray = ls at hl ⊢
  have hl : lv_has ls 4 [(0, .ref h0), (1, .int a), (2, .int b)] := hl
  refine lv_iload_n hx hb dX9_setRate_0 rfl (lv_at hl 1 rfl) ?_
  refine lv_iconst (v := 0) hx hb dX9_setRate_1 (by decide) ?_
  refine lv_sipush (v := 3000) hx hb dX9_setRate_2 (by decide) ?_
  have hPc := hP.sub (ws' := []) [] rfl
  have hDc := hD.sub (ws' := []) [] (by decide) rfl
  have hFc := va_free (wc := []) hD hS hA [] rfl
  refine vx_callv (vx_runS (As := [.int a, .int 0, .int 3000]) (rest := []) ⟨hx, hb, hml, hown, hts⟩ (c_needRange_thr l D cA sa a 0 3000 s.heap.size hl9 h) (va_cwS 3 hts gX9_setRate_X9_needRange rfl rfl rfl (by decide +kernel) ⟨(Nat.le_of_ble_eq_true rfl), (Nat.le_of_ble_eq_true rfl)⟩) ⟨Wd.blind, fun U hU hW => ⟨rfl, Wd.call hPc hDc hK hC hZ hS hFc U hU hW⟩⟩ rfl rfl hl.1 rfl (lv_room (Nat.le_of_ble_eq_true rfl)) dX9_setRate_5 ⟨(Nat.le_of_ble_eq_true rfl), (Nat.le_of_ble_eq_true rfl)⟩) hS (fun q _ h => hFc q h) hFc (fun q _ h => hFc q h) (fun E ce q9 u t H1 locs ht hvm hpx hE hz1 hk1 hS hcell hv9 hcl => ?_) (fun u t H1 locs ht hvm hw hB hz1 hk1 hS => hw.elim)
  exact vx_out (fun x h => (hno x h).elim) hlocks hcell hv9 hcl (fun t ht hvm => ⟨(), trivial, hE, hS.F ht⟩) hS.2.2 (Nat.le_of_ble_eq_true rfl) (Nat.le_of_ble_eq_true rfl)

set_option maxHeartbeats 4000000 in
set_option maxRecDepth 100000 in
/-- setRate: basis outside -/
theorem c_setRate_thr2 (l : Launch) (D : va_G) (cA : Nat → ClassId) (sa : Nat → Nat) (h0 b0 p0 u0 r0 a0 t0 s0 o0 : Nat) (a b : Int32) (sz : Nat) (hl9 : l.stackTraces = false) (h1 : ¬ a < 0) (h2 : ¬ 3000 < a) (h3 : ¬ b.toInt64 = 360) (h4 : ¬ b.toInt64 = 365) : vx_Met l yX9_setRate wsX9_setRate ({ frames := 6, cells := 1, slots := 6, locals := 90 }) (va_Pc [.ref h0, .int a, .int b] (Wd D cA sa [(h0, .inr (10, [.ref b0, .int 0, .ref p0, .ref u0, .ref r0, .ref a0, .ref t0, .ref s0, .ref o0]))] sz)) (va_Qi (fun (_ : Int32) (_ : Unit) => False) (fun (_ : Unit) _ => True) (va_A [(h0, .inr (10, [.ref b0, .int 0, .ref p0, .ref u0, .ref r0, .ref a0, .ref t0, .ref s0, .ref o0]))] sz)) (vx_X (fun _ : Unit => True) (fun E _ _ => E = "java/lang/IllegalArgumentException") (va_A [(h0, .inr (10, [.ref b0, .int 0, .ref p0, .ref u0, .ref r0, .ref a0, .ref t0, .ref s0, .ref o0]))] sz)) 1 6 (va_A [(h0, .inr (10, [.ref b0, .int 0, .ref p0, .ref u0, .ref r0, .ref a0, .ref t0, .ref s0, .ref o0]))] sz) := by
  refine vx_ofW (cc := cX9_setRate) (maxL := 4) (ret := (some .int)) (by decide) rfl ?_
  intro p e s m args below meth c s₁ B hml hno hv
  obtain ⟨rfl, hsz, hP, hK, hD0, hC, hZ⟩ := hv
  have hx := B.exec
  have hb := B.bytes
  have hr := B.returns
  have hts := atoms_spec (ws := wsX9_setRate) B.pre
  have hown : s.vm.findClass RX9 = some m.cls := findClass_of_methodNamed B.named
  have hlocks := B.notSynchronized
  subst hsz
  have hD := hD0.self (sz := s.heap.size)
  generalize hAe : va_A [(h0, .inr (10, [.ref b0, .int 0, .ref p0, .ref u0, .ref r0, .ref a0, .ref t0, .ref s0, .ref o0]))] s.heap.size = A at hD hZ ⊢
  have hA : ∀ q : Nat, s.heap.size ≤ q → A q := fun q h => by rw [← hAe]; exact Or.inr h
  have hS : va_S A s.heap s.heap [] := va_S.rf
  have hP : va_P D vwCl [(h0, .inr (10, [.ref b0, .int 0, .ref p0, .ref u0, .ref r0, .ref a0, .ref t0, .ref s0, .ref o0]))] s.heap := hP
  have hl := lv_entry ([.ref h0, .int a, .int b]) (n := 4) (Nat.le_of_ble_eq_true rfl)
  rw [lg_entry_eq]
  generalize (lg_sl ([.ref h0, .int a, .int b]) ++ List.replicate (4 - (lg_sl ([.ref h0, .int a, .int b])).length) Slot.unset).toArray = ls at hl ⊢
  have hl : lv_has ls 4 [(0, .ref h0), (1, .int a), (2, .int b)] := hl
  refine lv_iload_n hx hb dX9_setRate_0 rfl (lv_at hl 1 rfl) ?_
  refine lv_iconst (v := 0) hx hb dX9_setRate_1 (by decide) ?_
  refine lv_sipush (v := 3000) hx hb dX9_setRate_2 (by decide) ?_
  have hPc := hP.sub (ws' := []) [] rfl
  have hDc := hD.sub (ws' := []) [] (by decide) rfl
  have hFc := va_free (wc := []) hD hS hA [] rfl
  refine va_callv (va_runS (As := [.int a, .int 0, .int 3000]) (rest := []) ⟨hx, hb, hml, hown, hts⟩ (c_needRange_ret l D cA sa a 0 3000 s.heap.size h1 h2) (va_cwS 3 hts gX9_setRate_X9_needRange rfl rfl rfl (by decide +kernel) ⟨(Nat.le_of_ble_eq_true rfl), (Nat.le_of_ble_eq_true rfl)⟩) ⟨Wd.blind, fun U hU hW => ⟨rfl, Wd.call hPc hDc hK hC hZ hS hFc U hU hW⟩⟩ rfl rfl hl.1 rfl (lv_room (Nat.le_of_ble_eq_true rfl)) dX9_setRate_5 ⟨(Nat.le_of_ble_eq_true rfl), (Nat.le_of_ble_eq_true rfl)⟩) hS (fun q _ h => hFc q h) hFc (fun u t H1 locs ht hvm hw hB hz1 hk1 hS => ?_)
  obtain ⟨hP1, hD1⟩ := hB
  rw [ht] at hP1
  obtain ⟨hP, hD⟩ := va_join (wr := [(h0, .inr (10, [.ref b0, .int 0, .ref p0, .ref u0, .ref r0, .ref a0, .ref t0, .ref s0, .ref o0]))]) (w1 := []) hP hD [] [0] rfl rfl (by decide) (by decide) hk1 hFc hP1 hD1
  generalize H1 = H at hP hS ⊢
  have hP : va_P D vwCl [(h0, .inr (10, [.ref b0, .int 0, .ref p0, .ref u0, .ref r0, .ref a0, .ref t0, .ref s0, .ref o0]))] H := hP
  have hD : va_D A [(h0, .inr (10, [.ref b0, .int 0, .ref p0, .ref u0, .ref r0, .ref a0, .ref t0, .ref s0, .ref o0]))] := hD
  refine lv_iload_n hx hb dX9_setRate_8 rfl (lv_at hl 2 rfl) ?_
  refine lv_i2l (v := (b.toInt64)) hx hb dX9_setRate_9 rfl ?_
  have hPc := hP.sub (ws' := []) [] rfl
  have hDc := hD.sub (ws' := []) [] (by decide) rfl
  have hFc := va_free (wc := []) hD hS hA [] rfl
  refine va_calli (va_runS (As := [.long (b.toInt64)]) (rest := []) ⟨hx, hb, hml, hown, hts⟩ (c_isBasis_f l D cA sa (b.toInt64) H.size h3 h4) (va_cwS 1 hts gX9_setRate_X9_isBasis rfl rfl rfl (by decide +kernel) ⟨(Nat.le_of_ble_eq_true rfl), (Nat.le_of_ble_eq_true rfl)⟩) ⟨Wd.blind, fun U hU hW => ⟨rfl, Wd.call hPc hDc hK hC hZ hS hFc U hU hW⟩⟩ rfl rfl hl.1 rfl (lv_room (Nat.le_of_ble_eq_true rfl)) dX9_setRate_10 ⟨(Nat.le_of_ble_eq_true rfl), (Nat.le_of_ble_eq_true rfl)⟩) hS (fun q _ h => hFc q h) hFc (fun rn1 u t H1 locs ht hvm hw hB hz1 hk1 hS => ?_)
  obtain ⟨hP1, hD1⟩ := hB
  rw [ht] at hP1
  obtain ⟨hP, hD⟩ := va_join (wr := [(h0, .inr (10, [.ref b0, .int 0, .ref p0, .ref u0, .ref r0, .ref a0, .ref t0, .ref s0, .ref o0]))]) (w1 := []) hP hD [] [0] rfl rfl (by decide) (by decide) hk1 hFc hP1 hD1
  generalize H1 = H at hP hS ⊢
  have hP : va_P D vwCl [(h0, .inr (10, [.ref b0, .int 0, .ref p0, .ref u0, .ref r0, .ref a0, .ref t0, .ref s0, .ref o0]))] H := hP
  have hD : va_D A [(h0, .inr (10, [.ref b0, .int 0, .ref p0, .ref u0, .ref r0, .ref a0, .ref t0, .ref s0, .ref o0]))] := hD
  obtain rfl : rn1 = 0 := hw
  refine lv_if_ne (tgt := 27) hx hb dX9_setRate_13 (by decide) (fun c9 => absurd c9 (by decide)) (fun c2 => ?_)
  exact vx_throwSW (text := "no such basis") (names := ["java/lang/RuntimeException", "java/lang/Exception"]) (A := A) hx hb hl9 hown (by decide +kernel) (by decide +kernel) (hts (.classLink RX9 279 "java/lang/IllegalArgumentException") (by decide +kernel)) (hts (.initialized "java/lang/IllegalArgumentException") (by decide +kernel)) (hC.str 21 rfl) (vx_hat (B := [.castable "java/lang/IllegalArgumentException" "java/lang/IllegalArgumentException", .declares (Bundle.initS "java/lang/RuntimeException"), .declares (Bundle.initS "java/lang/Exception"), .declares (Bundle.initS "java/lang/Throwable")]) (fun w h => hts w (by first | exact (List.mem_cons_of_mem _ (List.mem_append_right _ h)) | (revert w; decide +kernel))) (by decide +kernel) (vx_c (hC.c (by decide +kernel)) (vx_c (hC.d (by decide +kernel)) (vx_c (hC.d (by decide +kernel)) (vx_c (hC.d (by decide +kernel)) vx_n))))) (by decide +kernel) hZ.1 hZ.2.1 hS (by rw [hml]; exact hl.1) dX9_setRate_16 dX9_setRate_19 dX9_setRate_20 dX9_setRate_23 dX9_setRate_26 (fun x h => (hno x h).elim) (Nat.le_of_ble_eq_true rfl) (Nat.le_of_ble_eq_true rfl) (Nat.le_of_ble_eq_true rfl) (Nat.le_of_ble_eq_true rfl) hlocks (fun t ht h1 h2 => ⟨(), trivial, rfl, F_of hS h1 h2⟩) hS.2.2 (Nat.le_of_ble_eq_true rfl) (Nat.le_of_ble_eq_true rfl)

set_option maxHeartbeats 4000000 in
set_option maxRecDepth 100000 in
/-- refund(0) -/
theorem c_refund0 (l : Launch) (D : va_G) (cA : Nat → ClassId) (sa : Nat → Nat) (a0 p0 a1 a3 a4 a5 a6 a2 : Nat) (sz : Nat) : Met l yX0_refund wsX0_refund ({ frames := 1, cells := 0, slots := 0, locals := 25 }) (va_Pc [.ref a0, .int 0, .int (-1)] (Wd D cA sa [(a0, .inr (4, [.ref p0, .ref a1, .ref a3, .ref a4, .ref a5, .ref a6, .int 0, .int 0, .int 0, .long 0, .long 0, .long 0, .int 0, .int 0, .int 0, .int 0, .int 365, .int 0, .int 0, .int 0])), (a1, .inr (6, [.ref a2, .int 0, .int 0]))] sz)) (va_Qv (fun _ : Unit => True) (fun (_ : Unit) t => Wq D (va_A [(a0, .inr (4, [.ref p0, .ref a1, .ref a3, .ref a4, .ref a5, .ref a6, .int 0, .int 0, .int 0, .long 0, .long 0, .long 0, .int 0, .int 0, .int 0, .int 0, .int 365, .int 0, .int 0, .int 0])), (a1, .inr (6, [.ref a2, .int 0, .int 0]))] sz) [(a0, .inr (4, [.ref p0, .ref a1, .ref a3, .ref a4, .ref a5, .ref a6, .int 0, .int 0, .int 0, .long 0, .long 0, .long 0, .int 0, .int 0, .int 0, .int 0, .int 365, .int 0, .int 0, .int 0])), (a1, .inr (6, [.ref a2, .int 0, .int 0]))] t) (va_A [(a0, .inr (4, [.ref p0, .ref a1, .ref a3, .ref a4, .ref a5, .ref a6, .int 0, .int 0, .int 0, .long 0, .long 0, .long 0, .int 0, .int 0, .int 0, .int 0, .int 365, .int 0, .int 0, .int 0])), (a1, .inr (6, [.ref a2, .int 0, .int 0]))] sz)) 0 0 (va_A [(a0, .inr (4, [.ref p0, .ref a1, .ref a3, .ref a4, .ref a5, .ref a6, .int 0, .int 0, .int 0, .long 0, .long 0, .long 0, .int 0, .int 0, .int 0, .int 0, .int 365, .int 0, .int 0, .int 0])), (a1, .inr (6, [.ref a2, .int 0, .int 0]))] sz) := by
  refine Met.ofW (cc := cX0_refund) (maxL := 3) (ret := none) (by decide) rfl ?_
  intro p e s m args below meth c s₁ B hml hv
  obtain ⟨rfl, hsz, hP, hK, hD0, hC, hZ⟩ := hv
  have hx := B.exec
  have hb := B.bytes
  have hr := B.returns
  have hts := atoms_spec (ws := wsX0_refund) B.pre
  have hown : s.vm.findClass RX0 = some m.cls := findClass_of_methodNamed B.named
  have hlocks := B.notSynchronized
  subst hsz
  have hD := hD0.self (sz := s.heap.size)
  generalize hAe : va_A [(a0, .inr (4, [.ref p0, .ref a1, .ref a3, .ref a4, .ref a5, .ref a6, .int 0, .int 0, .int 0, .long 0, .long 0, .long 0, .int 0, .int 0, .int 0, .int 0, .int 365, .int 0, .int 0, .int 0])), (a1, .inr (6, [.ref a2, .int 0, .int 0]))] s.heap.size = A at hD hZ ⊢
  have hA : ∀ q : Nat, s.heap.size ≤ q → A q := fun q h => by rw [← hAe]; exact Or.inr h
  have hS : va_S A s.heap s.heap [] := va_S.rf
  have hP : va_P D vwCl [(a0, .inr (4, [.ref p0, .ref a1, .ref a3, .ref a4, .ref a5, .ref a6, .int 0, .int 0, .int 0, .long 0, .long 0, .long 0, .int 0, .int 0, .int 0, .int 0, .int 365, .int 0, .int 0, .int 0])), (a1, .inr (6, [.ref a2, .int 0, .int 0]))] s.heap := hP
  have hl := lv_entry ([.ref a0, .int 0, .int (-1)]) (n := 3) (Nat.le_of_ble_eq_true rfl)
  rw [lg_entry_eq]
  generalize (lg_sl ([.ref a0, .int 0, .int (-1)]) ++ List.replicate (3 - (lg_sl ([.ref a0, .int 0, .int (-1)])).length) Slot.unset).toArray = ls at hl ⊢
  have hl : lv_has ls 3 [(0, .ref a0), (1, .int 0), (2, .int (-1))] := hl
  have inX0 : ∀ w ∈ u_ws RX0 TX0 20, w ∈ wsX0_refund := by decide +kernel
  refine lv_aload_n hx hb dX0_refund_0 rfl (lv_at hl 0 rfl) ?_
  refine lv_dup hx hb dX0_refund_1 rfl ?_
  refine va_get (D := D) (ci := 4) (v := .int 0) (C := RX0) (T := TX0) (N := 20) hx hb hts inX0 hown hK hP 0 rfl rfl 8 (by decide) (hts (.fieldLink RX0 47 "EscrowDesk$Account" "principal" "I") (by decide +kernel)) (fun _ h9 => h9) rfl dX0_refund_2 ?_
  refine lv_iload_n hx hb dX0_refund_5 rfl (lv_at hl 1 rfl) ?_
  refine lv_isub hx hb dX0_refund_6 ?_
  refine lv_topi (fun yn1 eyn1 => ?_)
  obtain rfl : yn1 = 0 := eyn1.trans (by first | rfl | decide +kernel)
  refine va_put (D := D) (ci := 4) (v := .int 0) (ty := .int) (C := RX0) (T := TX0) (N := 20) hx hb hts inX0 tyX0 tyX0_ok nmX0 hown hK hP hD hS 0 rfl rfl 8 (by decide) (hts (.fieldLink RX0 47 "EscrowDesk$Account" "principal" "I") (by decide +kernel)) (fun _ h9 => h9) rfl (by decide +kernel) rfl rfl (Nat.le_of_ble_eq_true rfl) dX0_refund_7 (fun H locs hP hD hS => ?_)
  have hP : va_P D vwCl [(a0, .inr (4, [.ref p0, .ref a1, .ref a3, .ref a4, .ref a5, .ref a6, .int 0, .int 0, .int 0, .long 0, .long 0, .long 0, .int 0, .int 0, .int 0, .int 0, .int 365, .int 0, .int 0, .int 0])), (a1, .inr (6, [.ref a2, .int 0, .int 0]))] H := hP
  have hD : va_D A [(a0, .inr (4, [.ref p0, .ref a1, .ref a3, .ref a4, .ref a5, .ref a6, .int 0, .int 0, .int 0, .long 0, .long 0, .long 0, .int 0, .int 0, .int 0, .int 0, .int 365, .int 0, .int 0, .int 0])), (a1, .inr (6, [.ref a2, .int 0, .int 0]))] := hD
  refine lv_aload_n hx hb dX0_refund_10 rfl (lv_at hl 0 rfl) ?_
  refine lv_dup hx hb dX0_refund_11 rfl ?_
  refine va_get (D := D) (ci := 4) (v := .int 0) (C := RX0) (T := TX0) (N := 20) hx hb hts inX0 hown hK hP 0 rfl rfl 14 (by decide) (hts (.fieldLink RX0 66 "EscrowDesk$Account" "refunded" "I") (by decide +kernel)) (fun _ h9 => h9) rfl dX0_refund_12 ?_
  refine lv_iload_n hx hb dX0_refund_15 rfl (lv_at hl 1 rfl) ?_
  refine lv_iadd hx hb dX0_refund_16 ?_
  refine lv_topi (fun yn2 eyn2 => ?_)
  obtain rfl : yn2 = 0 := eyn2.trans (by first | rfl | decide +kernel)
  refine va_put (D := D) (ci := 4) (v := .int 0) (ty := .int) (C := RX0) (T := TX0) (N := 20) hx hb hts inX0 tyX0 tyX0_ok nmX0 hown hK hP hD hS 0 rfl rfl 14 (by decide) (hts (.fieldLink RX0 66 "EscrowDesk$Account" "refunded" "I") (by decide +kernel)) (fun _ h9 => h9) rfl (by decide +kernel) rfl rfl (Nat.le_of_ble_eq_true rfl) dX0_refund_17 (fun H locs hP hD hS => ?_)
  have hP : va_P D vwCl [(a0, .inr (4, [.ref p0, .ref a1, .ref a3, .ref a4, .ref a5, .ref a6, .int 0, .int 0, .int 0, .long 0, .long 0, .long 0, .int 0, .int 0, .int 0, .int 0, .int 365, .int 0, .int 0, .int 0])), (a1, .inr (6, [.ref a2, .int 0, .int 0]))] H := hP
  have hD : va_D A [(a0, .inr (4, [.ref p0, .ref a1, .ref a3, .ref a4, .ref a5, .ref a6, .int 0, .int 0, .int 0, .long 0, .long 0, .long 0, .int 0, .int 0, .int 0, .int 0, .int 365, .int 0, .int 0, .int 0])), (a1, .inr (6, [.ref a2, .int 0, .int 0]))] := hD
  refine lv_aload_n hx hb dX0_refund_20 rfl (lv_at hl 0 rfl) ?_
  refine va_get (D := D) (ci := 4) (v := .ref a1) (C := RX0) (T := TX0) (N := 20) hx hb hts inX0 hown hK hP 0 rfl rfl 1 (by decide) (hts (.fieldLink RX0 12 "EscrowDesk$Account" "ledger" "LEscrowDesk$Ledger;") (by decide +kernel)) (fun _ h9 => h9) rfl dX0_refund_21 ?_
  refine lv_iconst (v := 2) hx hb dX0_refund_24 (by decide) ?_
  refine lv_aload_n hx hb dX0_refund_25 rfl (lv_at hl 0 rfl) ?_
  refine va_get (D := D) (ci := 4) (v := .int 0) (C := RX0) (T := TX0) (N := 20) hx hb hts inX0 hown hK hP 0 rfl rfl 6 (by decide) (hts (.fieldLink RX0 40 "EscrowDesk$Account" "day" "I") (by decide +kernel)) (fun _ h9 => h9) rfl dX0_refund_26 ?_
  refine lv_iload_n hx hb dX0_refund_29 rfl (lv_at hl 1 rfl) ?_
  refine lv_iload_n hx hb dX0_refund_30 rfl (lv_at hl 2 rfl) ?_
  have hPc := hP.sub (ws' := [(a1, .inr (6, [.ref a2, .int 0, .int 0]))]) [1] rfl
  have hDc := hD.sub (ws' := [(a1, .inr (6, [.ref a2, .int 0, .int 0]))]) [1] (by decide) rfl
  have hFc := va_free (wc := [(a1, .inr (6, [.ref a2, .int 0, .int 0]))]) hD hS hA [1] rfl
  refine va_callv (va_runV (As := [.int 2, .int 0, .int 0, .int (-1)]) (rest := []) ⟨hx, hb, hml, hown, hts⟩ (c_enter0 l D cA sa a1 a2 2 0 (-1) 0 0 H.size) (cwV 4 hts gX0_refund_X2_enter rfl rfl rfl (by decide +kernel) ⟨(Nat.le_of_ble_eq_true rfl), (Nat.le_of_ble_eq_true rfl)⟩) ⟨Wd.blind, va_recv hK hPc (ci := 6) (q0 := 0) rfl rfl, fun U hU hW => ⟨rfl, Wd.call hPc hDc hK hC hZ hS hFc U hU hW⟩⟩ rfl rfl hl.1 rfl (lv_room (Nat.le_of_ble_eq_true rfl)) dX0_refund_31 ⟨(Nat.le_of_ble_eq_true rfl), (Nat.le_of_ble_eq_true rfl)⟩) hS (fun q _ h => hFc q h) hFc (fun u t H1 locs ht hvm hw hB hz1 hk1 hS => ?_)
  obtain ⟨hP1, hD1⟩ := hB
  rw [ht] at hP1
  obtain ⟨hP, hD⟩ := va_join (wr := [(a0, .inr (4, [.ref p0, .ref a1, .ref a3, .ref a4, .ref a5, .ref a6, .int 0, .int 0, .int 0, .long 0, .long 0, .long 0, .int 0, .int 0, .int 0, .int 0, .int 365, .int 0, .int 0, .int 0]))]) (w1 := [(a1, .inr (6, [.ref a2, .int 0, .int 0]))]) hP hD [1] [0] rfl rfl (by decide) (by decide) hk1 hFc hP1 hD1
  generalize H1 = H at hP hS ⊢
  have hP : va_P D vwCl [(a0, .inr (4, [.ref p0, .ref a1, .ref a3, .ref a4, .ref a5, .ref a6, .int 0, .int 0, .int 0, .long 0, .long 0, .long 0, .int 0, .int 0, .int 0, .int 0, .int 365, .int 0, .int 0, .int 0])), (a1, .inr (6, [.ref a2, .int 0, .int 0]))] H := hP
  have hD : va_D A [(a0, .inr (4, [.ref p0, .ref a1, .ref a3, .ref a4, .ref a5, .ref a6, .int 0, .int 0, .int 0, .long 0, .long 0, .long 0, .int 0, .int 0, .int 0, .int 0, .int 365, .int 0, .int 0, .int 0])), (a1, .inr (6, [.ref a2, .int 0, .int 0]))] := hD
  have hP9 := hP.sub (ws' := [(a0, .inr (4, [.ref p0, .ref a1, .ref a3, .ref a4, .ref a5, .ref a6, .int 0, .int 0, .int 0, .long 0, .long 0, .long 0, .int 0, .int 0, .int 0, .int 0, .int 365, .int 0, .int 0, .int 0])), (a1, .inr (6, [.ref a2, .int 0, .int 0]))]) [0, 1] rfl
  have hD9 := hD.sub (ws' := [(a0, .inr (4, [.ref p0, .ref a1, .ref a3, .ref a4, .ref a5, .ref a6, .int 0, .int 0, .int 0, .long 0, .long 0, .long 0, .int 0, .int 0, .int 0, .int 0, .int 365, .int 0, .int 0, .int 0])), (a1, .inr (6, [.ref a2, .int 0, .int 0]))]) [0, 1] (by decide) rfl
  refine W.widen (k := 0) (n := 0) (Nat.le_of_ble_eq_true rfl) (Nat.le_of_ble_eq_true rfl) ?_
  exact W.vret hx hb hr (fun t ht hW => ⟨⟨(), rfl, trivial, by rw [ht]; exact hP9, hD9⟩, hS.F ht⟩) hS.2.2 dX0_refund_34

set_option maxHeartbeats 4000000 in
set_option maxRecDepth 100000 in
/-- close -/
theorem c_close_ret (l : Launch) (D : va_G) (cA : Nat → ClassId) (sa : Nat → Nat) (h0 b0 p0 u0 r0 a0 t0 s0 o0 s1 m0 m1 m2 m3 m4 m5 m6 a1 a2 a3 a4 a5 a6 p1 p2 p3 p4 p5 p6 p7 p8 p9 : Nat) (x0 x6 x7 x8 x9 x10 x11 x12 x13 x14 x15 x16 x17 x18 x19 : Value) (n2 k2 : Int32) (q2 q3 q4 q5 q6 e2 e3 e4 e5 e6 : Nat → Int32) (FR : Nat → Option Nat) (sz : Nat) (hF : FR 0 = some m0) : Met l yX9_close wsX9_close ({ frames := 4, cells := 0, slots := 0, locals := 123 }) (va_Pc [.ref h0] (Wd D cA sa [(h0, .inr (10, [.ref b0, .int 0, .ref p0, .ref u0, .ref r0, .ref a0, .ref t0, .ref s0, .ref o0])), (s0, .inr (5, [.ref s1, .int 0, .int 0])), (s1, .inl (cA 5, 10, .inr (.inr (.inr (.inr FR))))), (m0, .inr (4, [x0, .ref m1, .ref m3, .ref m4, .ref m5, .ref m6, x6, x7, x8, x9, x10, x11, x12, x13, x14, x15, x16, x17, x18, x19])), (m1, .inr (6, [.ref m2, .int n2, .int k2])), (m2, .inl (cA 0, 240, .inl q2)), (m3, .inl (cA 0, 10, .inl q3)), (m4, .inl (cA 0, 10, .inl q4)), (m5, .inl (cA 0, 10, .inl q5)), (m6, .inl (cA 0, 10, .inl q6)), (a0, .inr (4, [.ref p0, .ref a1, .ref a3, .ref a4, .ref a5, .ref a6, .int 0, .int 0, .int 0, .long 0, .long 0, .long 0, .int 0, .int 0, .int 0, .int 0, .int 365, .int 0, .int 0, .int 0])), (a1, .inr (6, [.ref a2, .int 0, .int 0])), (a2, .inl (cA 0, 240, .inl e2)), (a3, .inl (cA 0, 10, .inl e3)), (a4, .inl (cA 0, 10, .inl e4)), (a5, .inl (cA 0, 10, .inl e5)), (a6, .inl (cA 0, 10, .inl e6)), (p0, .inr (7, [.int 0, .int 365, .int 0, .int 0, .ref p1, .int 0, .ref p2, .ref p3, .ref p4, .ref p5, .int 0, .ref p6, .int 0, .ref p7, .ref p8, .ref p9, .int 0]))] sz)) (va_Qi (fun (r : Int32) (_ : Unit) => r = 0) (fun (_ : Unit) t => Wq D (va_A [(h0, .inr (10, [.ref b0, .int 0, .ref p0, .ref u0, .ref r0, .ref a0, .ref t0, .ref s0, .ref o0])), (s0, .inr (5, [.ref s1, .int 0, .int 0])), (s1, .inl (cA 5, 10, .inr (.inr (.inr (.inr FR))))), (m0, .inr (4, [x0, .ref m1, .ref m3, .ref m4, .ref m5, .ref m6, x6, x7, x8, x9, x10, x11, x12, x13, x14, x15, x16, x17, x18, x19])), (m1, .inr (6, [.ref m2, .int n2, .int k2])), (m2, .inl (cA 0, 240, .inl q2)), (m3, .inl (cA 0, 10, .inl q3)), (m4, .inl (cA 0, 10, .inl q4)), (m5, .inl (cA 0, 10, .inl q5)), (m6, .inl (cA 0, 10, .inl q6)), (a0, .inr (4, [.ref p0, .ref a1, .ref a3, .ref a4, .ref a5, .ref a6, .int 0, .int 0, .int 0, .long 0, .long 0, .long 0, .int 0, .int 0, .int 0, .int 0, .int 365, .int 0, .int 0, .int 0])), (a1, .inr (6, [.ref a2, .int 0, .int 0])), (a2, .inl (cA 0, 240, .inl e2)), (a3, .inl (cA 0, 10, .inl e3)), (a4, .inl (cA 0, 10, .inl e4)), (a5, .inl (cA 0, 10, .inl e5)), (a6, .inl (cA 0, 10, .inl e6)), (p0, .inr (7, [.int 0, .int 365, .int 0, .int 0, .ref p1, .int 0, .ref p2, .ref p3, .ref p4, .ref p5, .int 0, .ref p6, .int 0, .ref p7, .ref p8, .ref p9, .int 0]))] sz) [] t) (va_A [(h0, .inr (10, [.ref b0, .int 0, .ref p0, .ref u0, .ref r0, .ref a0, .ref t0, .ref s0, .ref o0])), (s0, .inr (5, [.ref s1, .int 0, .int 0])), (s1, .inl (cA 5, 10, .inr (.inr (.inr (.inr FR))))), (m0, .inr (4, [x0, .ref m1, .ref m3, .ref m4, .ref m5, .ref m6, x6, x7, x8, x9, x10, x11, x12, x13, x14, x15, x16, x17, x18, x19])), (m1, .inr (6, [.ref m2, .int n2, .int k2])), (m2, .inl (cA 0, 240, .inl q2)), (m3, .inl (cA 0, 10, .inl q3)), (m4, .inl (cA 0, 10, .inl q4)), (m5, .inl (cA 0, 10, .inl q5)), (m6, .inl (cA 0, 10, .inl q6)), (a0, .inr (4, [.ref p0, .ref a1, .ref a3, .ref a4, .ref a5, .ref a6, .int 0, .int 0, .int 0, .long 0, .long 0, .long 0, .int 0, .int 0, .int 0, .int 0, .int 365, .int 0, .int 0, .int 0])), (a1, .inr (6, [.ref a2, .int 0, .int 0])), (a2, .inl (cA 0, 240, .inl e2)), (a3, .inl (cA 0, 10, .inl e3)), (a4, .inl (cA 0, 10, .inl e4)), (a5, .inl (cA 0, 10, .inl e5)), (a6, .inl (cA 0, 10, .inl e6)), (p0, .inr (7, [.int 0, .int 365, .int 0, .int 0, .ref p1, .int 0, .ref p2, .ref p3, .ref p4, .ref p5, .int 0, .ref p6, .int 0, .ref p7, .ref p8, .ref p9, .int 0]))] sz)) 0 0 (va_A [(h0, .inr (10, [.ref b0, .int 0, .ref p0, .ref u0, .ref r0, .ref a0, .ref t0, .ref s0, .ref o0])), (s0, .inr (5, [.ref s1, .int 0, .int 0])), (s1, .inl (cA 5, 10, .inr (.inr (.inr (.inr FR))))), (m0, .inr (4, [x0, .ref m1, .ref m3, .ref m4, .ref m5, .ref m6, x6, x7, x8, x9, x10, x11, x12, x13, x14, x15, x16, x17, x18, x19])), (m1, .inr (6, [.ref m2, .int n2, .int k2])), (m2, .inl (cA 0, 240, .inl q2)), (m3, .inl (cA 0, 10, .inl q3)), (m4, .inl (cA 0, 10, .inl q4)), (m5, .inl (cA 0, 10, .inl q5)), (m6, .inl (cA 0, 10, .inl q6)), (a0, .inr (4, [.ref p0, .ref a1, .ref a3, .ref a4, .ref a5, .ref a6, .int 0, .int 0, .int 0, .long 0, .long 0, .long 0, .int 0, .int 0, .int 0, .int 0, .int 365, .int 0, .int 0, .int 0])), (a1, .inr (6, [.ref a2, .int 0, .int 0])), (a2, .inl (cA 0, 240, .inl e2)), (a3, .inl (cA 0, 10, .inl e3)), (a4, .inl (cA 0, 10, .inl e4)), (a5, .inl (cA 0, 10, .inl e5)), (a6, .inl (cA 0, 10, .inl e6)), (p0, .inr (7, [.int 0, .int 365, .int 0, .int 0, .ref p1, .int 0, .ref p2, .ref p3, .ref p4, .ref p5, .int 0, .ref p6, .int 0, .ref p7, .ref p8, .ref p9, .int 0]))] sz) := by
  refine Met.ofW (cc := cX9_close) (maxL := 2) (ret := (some .int)) (by decide) rfl ?_
  intro p e s m args below meth c s₁ B hml hv
  obtain ⟨rfl, hsz, hP, hK, hD0, hC, hZ⟩ := hv
  have hx := B.exec
  have hb := B.bytes
  have hr := B.returns
  have hts := atoms_spec (ws := wsX9_close) B.pre
  have hown : s.vm.findClass RX9 = some m.cls := findClass_of_methodNamed B.named
  have hlocks := B.notSynchronized
  subst hsz
  have hD := hD0.self (sz := s.heap.size)
  generalize hAe : va_A [(h0, .inr (10, [.ref b0, .int 0, .ref p0, .ref u0, .ref r0, .ref a0, .ref t0, .ref s0, .ref o0])), (s0, .inr (5, [.ref s1, .int 0, .int 0])), (s1, .inl (cA 5, 10, .inr (.inr (.inr (.inr FR))))), (m0, .inr (4, [x0, .ref m1, .ref m3, .ref m4, .ref m5, .ref m6, x6, x7, x8, x9, x10, x11, x12, x13, x14, x15, x16, x17, x18, x19])), (m1, .inr (6, [.ref m2, .int n2, .int k2])), (m2, .inl (cA 0, 240, .inl q2)), (m3, .inl (cA 0, 10, .inl q3)), (m4, .inl (cA 0, 10, .inl q4)), (m5, .inl (cA 0, 10, .inl q5)), (m6, .inl (cA 0, 10, .inl q6)), (a0, .inr (4, [.ref p0, .ref a1, .ref a3, .ref a4, .ref a5, .ref a6, .int 0, .int 0, .int 0, .long 0, .long 0, .long 0, .int 0, .int 0, .int 0, .int 0, .int 365, .int 0, .int 0, .int 0])), (a1, .inr (6, [.ref a2, .int 0, .int 0])), (a2, .inl (cA 0, 240, .inl e2)), (a3, .inl (cA 0, 10, .inl e3)), (a4, .inl (cA 0, 10, .inl e4)), (a5, .inl (cA 0, 10, .inl e5)), (a6, .inl (cA 0, 10, .inl e6)), (p0, .inr (7, [.int 0, .int 365, .int 0, .int 0, .ref p1, .int 0, .ref p2, .ref p3, .ref p4, .ref p5, .int 0, .ref p6, .int 0, .ref p7, .ref p8, .ref p9, .int 0]))] s.heap.size = A at hD hZ ⊢
  have hA : ∀ q : Nat, s.heap.size ≤ q → A q := fun q h => by rw [← hAe]; exact Or.inr h
  have hS : va_S A s.heap s.heap [] := va_S.rf
  have hP : va_P D vwCl [(h0, .inr (10, [.ref b0, .int 0, .ref p0, .ref u0, .ref r0, .ref a0, .ref t0, .ref s0, .ref o0])), (s0, .inr (5, [.ref s1, .int 0, .int 0])), (s1, .inl (cA 5, 10, .inr (.inr (.inr (.inr FR))))), (m0, .inr (4, [x0, .ref m1, .ref m3, .ref m4, .ref m5, .ref m6, x6, x7, x8, x9, x10, x11, x12, x13, x14, x15, x16, x17, x18, x19])), (m1, .inr (6, [.ref m2, .int n2, .int k2])), (m2, .inl (cA 0, 240, .inl q2)), (m3, .inl (cA 0, 10, .inl q3)), (m4, .inl (cA 0, 10, .inl q4)), (m5, .inl (cA 0, 10, .inl q5)), (m6, .inl (cA 0, 10, .inl q6)), (a0, .inr (4, [.ref p0, .ref a1, .ref a3, .ref a4, .ref a5, .ref a6, .int 0, .int 0, .int 0, .long 0, .long 0, .long 0, .int 0, .int 0, .int 0, .int 0, .int 365, .int 0, .int 0, .int 0])), (a1, .inr (6, [.ref a2, .int 0, .int 0])), (a2, .inl (cA 0, 240, .inl e2)), (a3, .inl (cA 0, 10, .inl e3)), (a4, .inl (cA 0, 10, .inl e4)), (a5, .inl (cA 0, 10, .inl e5)), (a6, .inl (cA 0, 10, .inl e6)), (p0, .inr (7, [.int 0, .int 365, .int 0, .int 0, .ref p1, .int 0, .ref p2, .ref p3, .ref p4, .ref p5, .int 0, .ref p6, .int 0, .ref p7, .ref p8, .ref p9, .int 0]))] s.heap := hP
  have hl := lv_entry ([.ref h0]) (n := 2) (Nat.le_of_ble_eq_true rfl)
  rw [lg_entry_eq]
  generalize (lg_sl ([.ref h0]) ++ List.replicate (2 - (lg_sl ([.ref h0])).length) Slot.unset).toArray = ls at hl ⊢
  have hl : lv_has ls 2 [(0, .ref h0)] := hl
  have inX0 : ∀ w ∈ u_ws RX0 TX0 20, w ∈ wsX9_close := by decide +kernel
  have inX3 : ∀ w ∈ u_ws RX3 TX3 17, w ∈ wsX9_close := by decide +kernel
  have inX9 : ∀ w ∈ u_ws RX9 TX9 9, w ∈ wsX9_close := by decide +kernel
  refine lv_aload_n hx hb dX9_close_0 rfl (lv_at hl 0 rfl) ?_
  have hPc := hP.sub (ws' := [(h0, .inr (10, [.ref b0, .int 0, .ref p0, .ref u0, .ref r0, .ref a0, .ref t0, .ref s0, .ref o0])), (p0, .inr (7, [.int 0, .int 365, .int 0, .int 0, .ref p1, .int 0, .ref p2, .ref p3, .ref p4, .ref p5, .int 0, .ref p6, .int 0, .ref p7, .ref p8, .ref p9, .int 0]))]) [0, 17] rfl
  have hDc := hD.sub (ws' := [(h0, .inr (10, [.ref b0, .int 0, .ref p0, .ref u0, .ref r0, .ref a0, .ref t0, .ref s0, .ref o0])), (p0, .inr (7, [.int 0, .int 365, .int 0, .int 0, .ref p1, .int 0, .ref p2, .ref p3, .ref p4, .ref p5, .int 0, .ref p6, .int 0, .ref p7, .ref p8, .ref p9, .int 0]))]) [0, 17] (by decide) rfl
  have hFc := va_free (wc := [(h0, .inr (10, [.ref b0, .int 0, .ref p0, .ref u0, .ref r0, .ref a0, .ref t0, .ref s0, .ref o0])), (p0, .inr (7, [.int 0, .int 365, .int 0, .int 0, .ref p1, .int 0, .ref p2, .ref p3, .ref p4, .ref p5, .int 0, .ref p6, .int 0, .ref p7, .ref p8, .ref p9, .int 0]))]) hD hS hA [0, 17] rfl
  refine va_calli (va_runV (As := []) (rest := []) ⟨hx, hb, hml, hown, hts⟩ (c_closedCount l D cA sa h0 b0 p0 u0 r0 a0 t0 s0 o0 p1 p2 p3 p4 p5 p6 p7 p8 p9 s.heap.size) (cwV 0 hts gX9_close_X9_closedCount rfl rfl rfl (by decide +kernel) ⟨(Nat.le_of_ble_eq_true rfl), (Nat.le_of_ble_eq_true rfl)⟩) ⟨Wd.blind, va_recv hK hPc (ci := 10) (q0 := 0) rfl rfl, fun U hU hW => ⟨rfl, Wd.call hPc hDc hK hC hZ hS hFc U hU hW⟩⟩ rfl rfl hl.1 rfl (lv_room (Nat.le_of_ble_eq_true rfl)) dX9_close_1 ⟨(Nat.le_of_ble_eq_true rfl), (Nat.le_of_ble_eq_true rfl)⟩) hS (fun q _ h => hFc q h) hFc (fun rn1 u t H1 locs ht hvm hw hB hz1 hk1 hS => ?_)
  obtain ⟨hP1, hD1⟩ := hB
  rw [ht] at hP1
  obtain ⟨hP, hD⟩ := va_join (wr := [(s0, .inr (5, [.ref s1, .int 0, .int 0])), (s1, .inl (cA 5, 10, .inr (.inr (.inr (.inr FR))))), (m0, .inr (4, [x0, .ref m1, .ref m3, .ref m4, .ref m5, .ref m6, x6, x7, x8, x9, x10, x11, x12, x13, x14, x15, x16, x17, x18, x19])), (m1, .inr (6, [.ref m2, .int n2, .int k2])), (m2, .inl (cA 0, 240, .inl q2)), (m3, .inl (cA 0, 10, .inl q3)), (m4, .inl (cA 0, 10, .inl q4)), (m5, .inl (cA 0, 10, .inl q5)), (m6, .inl (cA 0, 10, .inl q6)), (a0, .inr (4, [.ref p0, .ref a1, .ref a3, .ref a4, .ref a5, .ref a6, .int 0, .int 0, .int 0, .long 0, .long 0, .long 0, .int 0, .int 0, .int 0, .int 0, .int 365, .int 0, .int 0, .int 0])), (a1, .inr (6, [.ref a2, .int 0, .int 0])), (a2, .inl (cA 0, 240, .inl e2)), (a3, .inl (cA 0, 10, .inl e3)), (a4, .inl (cA 0, 10, .inl e4)), (a5, .inl (cA 0, 10, .inl e5)), (a6, .inl (cA 0, 10, .inl e6))]) (w1 := [(h0, .inr (10, [.ref b0, .int 0, .ref p0, .ref u0, .ref r0, .ref a0, .ref t0, .ref s0, .ref o0])), (p0, .inr (7, [.int 0, .int 365, .int 0, .int 0, .ref p1, .int 0, .ref p2, .ref p3, .ref p4, .ref p5, .int 0, .ref p6, .int 0, .ref p7, .ref p8, .ref p9, .int 0]))]) hP hD [0, 17] [1, 2, 3, 4, 5, 6, 7, 8, 9, 10, 11, 12, 13, 14, 15, 16] rfl rfl (by decide) (by decide) hk1 hFc hP1 hD1
  generalize H1 = H at hP hS ⊢
  have hP : va_P D vwCl [(s0, .inr (5, [.ref s1, .int 0, .int 0])), (s1, .inl (cA 5, 10, .inr (.inr (.inr (.inr FR))))), (m0, .inr (4, [x0, .ref m1, .ref m3, .ref m4, .ref m5, .ref m6, x6, x7, x8, x9, x10, x11, x12, x13, x14, x15, x16, x17, x18, x19])), (m1, .inr (6, [.ref m2, .int n2, .int k2])), (m2, .inl (cA 0, 240, .inl q2)), (m3, .inl (cA 0, 10, .inl q3)), (m4, .inl (cA 0, 10, .inl q4)), (m5, .inl (cA 0, 10, .inl q5)), (m6, .inl (cA 0, 10, .inl q6)), (a0, .inr (4, [.ref p0, .ref a1, .ref a3, .ref a4, .ref a5, .ref a6, .int 0, .int 0, .int 0, .long 0, .long 0, .long 0, .int 0, .int 0, .int 0, .int 0, .int 365, .int 0, .int 0, .int 0])), (a1, .inr (6, [.ref a2, .int 0, .int 0])), (a2, .inl (cA 0, 240, .inl e2)), (a3, .inl (cA 0, 10, .inl e3)), (a4, .inl (cA 0, 10, .inl e4)), (a5, .inl (cA 0, 10, .inl e5)), (a6, .inl (cA 0, 10, .inl e6)), (h0, .inr (10, [.ref b0, .int 0, .ref p0, .ref u0, .ref r0, .ref a0, .ref t0, .ref s0, .ref o0])), (p0, .inr (7, [.int 0, .int 365, .int 0, .int 0, .ref p1, .int 0, .ref p2, .ref p3, .ref p4, .ref p5, .int 0, .ref p6, .int 0, .ref p7, .ref p8, .ref p9, .int 0]))] H := hP
  have hD : va_D A [(s0, .inr (5, [.ref s1, .int 0, .int 0])), (s1, .inl (cA 5, 10, .inr (.inr (.inr (.inr FR))))), (m0, .inr (4, [x0, .ref m1, .ref m3, .ref m4, .ref m5, .ref m6, x6, x7, x8, x9, x10, x11, x12, x13, x14, x15, x16, x17, x18, x19])), (m1, .inr (6, [.ref m2, .int n2, .int k2])), (m2, .inl (cA 0, 240, .inl q2)), (m3, .inl (cA 0, 10, .inl q3)), (m4, .inl (cA 0, 10, .inl q4)), (m5, .inl (cA 0, 10, .inl q5)), (m6, .inl (cA 0, 10, .inl q6)), (a0, .inr (4, [.ref p0, .ref a1, .ref a3, .ref a4, .ref a5, .ref a6, .int 0, .int 0, .int 0, .long 0, .long 0, .long 0, .int 0, .int 0, .int 0, .int 0, .int 365, .int 0, .int 0, .int 0])), (a1, .inr (6, [.ref a2, .int 0, .int 0])), (a2, .inl (cA 0, 240, .inl e2)), (a3, .inl (cA 0, 10, .inl e3)), (a4, .inl (cA 0, 10, .inl e4)), (a5, .inl (cA 0, 10, .inl e5)), (a6, .inl (cA 0, 10, .inl e6)), (h0, .inr (10, [.ref b0, .int 0, .ref p0, .ref u0, .ref r0, .ref a0, .ref t0, .ref s0, .ref o0])), (p0, .inr (7, [.int 0, .int 365, .int 0, .int 0, .ref p1, .int 0, .ref p2, .ref p3, .ref p4, .ref p5, .int 0, .ref p6, .int 0, .ref p7, .ref p8, .ref p9, .int 0]))] := hD
  obtain rfl : rn1 = 0 := hw
  refine lv_aload_n hx hb dX9_close_4 rfl (lv_at hl 0 rfl) ?_
  refine va_get (D := D) (ci := 10) (v := .ref p0) (C := RX9) (T := TX9) (N := 9) hx hb hts inX9 hown hK hP 16 rfl rfl 2 (by decide) (hts (.fieldLink RX9 16 "EscrowDesk" "plan" "LEscrowDesk$Plan;") (by decide +kernel)) (fun _ h9 => h9) rfl dX9_close_5 ?_
  refine va_getN (D := D) (ci := 7) (v := .int 0) (C := RX3) (T := TX3) (N := 17) hx hb hts inX3 hown hK hP 17 rfl rfl 10 (by decide) (hC.f (A := _) (a := RX9) (i := 78) (b := "EscrowDesk$Plan") (n := "milestoneCount") (d := "I") (x := "EscrowDesk") (by decide +kernel)) (fun _ h9 => h9) rfl dX9_close_8 ?_
  refine lv_icmp_ne (tgt := 18) hx hb dX9_close_11 (by decide) (fun c9 => absurd c9 (by decide)) (fun c2 => ?_)
  refine lv_iconst (v := 1) hx hb dX9_close_14 (by decide) ?_
  refine lv_goto (tgt := 19) hx hb dX9_close_15 (by decide) ?_
  have hPc := hP.sub (ws' := []) [] rfl
  have hDc := hD.sub (ws' := []) [] (by decide) rfl
  have hFc := va_free (wc := []) hD hS hA [] rfl
  refine va_callv (va_runS (As := [.int 1]) (rest := []) ⟨hx, hb, hml, hown, hts⟩ (c_needPossible l D cA sa  H.size) (va_cwS 1 hts gX9_close_X9_needPossible rfl rfl rfl (by decide +kernel) ⟨(Nat.le_of_ble_eq_true rfl), (Nat.le_of_ble_eq_true rfl)⟩) ⟨Wd.blind, fun U hU hW => ⟨rfl, Wd.call hPc hDc hK hC hZ hS hFc U hU hW⟩⟩ rfl rfl hl.1 rfl (lv_room (Nat.le_of_ble_eq_true rfl)) dX9_close_19 ⟨(Nat.le_of_ble_eq_true rfl), (Nat.le_of_ble_eq_true rfl)⟩) hS (fun q _ h => hFc q h) hFc (fun u t H1 locs ht hvm hw hB hz1 hk1 hS => ?_)
  obtain ⟨hP1, hD1⟩ := hB
  rw [ht] at hP1
  obtain ⟨hP, hD⟩ := va_join (wr := [(s0, .inr (5, [.ref s1, .int 0, .int 0])), (s1, .inl (cA 5, 10, .inr (.inr (.inr (.inr FR))))), (m0, .inr (4, [x0, .ref m1, .ref m3, .ref m4, .ref m5, .ref m6, x6, x7, x8, x9, x10, x11, x12, x13, x14, x15, x16, x17, x18, x19])), (m1, .inr (6, [.ref m2, .int n2, .int k2])), (m2, .inl (cA 0, 240, .inl q2)), (m3, .inl (cA 0, 10, .inl q3)), (m4, .inl (cA 0, 10, .inl q4)), (m5, .inl (cA 0, 10, .inl q5)), (m6, .inl (cA 0, 10, .inl q6)), (a0, .inr (4, [.ref p0, .ref a1, .ref a3, .ref a4, .ref a5, .ref a6, .int 0, .int 0, .int 0, .long 0, .long 0, .long 0, .int 0, .int 0, .int 0, .int 0, .int 365, .int 0, .int 0, .int 0])), (a1, .inr (6, [.ref a2, .int 0, .int 0])), (a2, .inl (cA 0, 240, .inl e2)), (a3, .inl (cA 0, 10, .inl e3)), (a4, .inl (cA 0, 10, .inl e4)), (a5, .inl (cA 0, 10, .inl e5)), (a6, .inl (cA 0, 10, .inl e6)), (h0, .inr (10, [.ref b0, .int 0, .ref p0, .ref u0, .ref r0, .ref a0, .ref t0, .ref s0, .ref o0])), (p0, .inr (7, [.int 0, .int 365, .int 0, .int 0, .ref p1, .int 0, .ref p2, .ref p3, .ref p4, .ref p5, .int 0, .ref p6, .int 0, .ref p7, .ref p8, .ref p9, .int 0]))]) (w1 := []) hP hD [] [0, 1, 2, 3, 4, 5, 6, 7, 8, 9, 10, 11, 12, 13, 14, 15, 16, 17] rfl rfl (by decide) (by decide) hk1 hFc hP1 hD1
  generalize H1 = H at hP hS ⊢
  have hP : va_P D vwCl [(s0, .inr (5, [.ref s1, .int 0, .int 0])), (s1, .inl (cA 5, 10, .inr (.inr (.inr (.inr FR))))), (m0, .inr (4, [x0, .ref m1, .ref m3, .ref m4, .ref m5, .ref m6, x6, x7, x8, x9, x10, x11, x12, x13, x14, x15, x16, x17, x18, x19])), (m1, .inr (6, [.ref m2, .int n2, .int k2])), (m2, .inl (cA 0, 240, .inl q2)), (m3, .inl (cA 0, 10, .inl q3)), (m4, .inl (cA 0, 10, .inl q4)), (m5, .inl (cA 0, 10, .inl q5)), (m6, .inl (cA 0, 10, .inl q6)), (a0, .inr (4, [.ref p0, .ref a1, .ref a3, .ref a4, .ref a5, .ref a6, .int 0, .int 0, .int 0, .long 0, .long 0, .long 0, .int 0, .int 0, .int 0, .int 0, .int 365, .int 0, .int 0, .int 0])), (a1, .inr (6, [.ref a2, .int 0, .int 0])), (a2, .inl (cA 0, 240, .inl e2)), (a3, .inl (cA 0, 10, .inl e3)), (a4, .inl (cA 0, 10, .inl e4)), (a5, .inl (cA 0, 10, .inl e5)), (a6, .inl (cA 0, 10, .inl e6)), (h0, .inr (10, [.ref b0, .int 0, .ref p0, .ref u0, .ref r0, .ref a0, .ref t0, .ref s0, .ref o0])), (p0, .inr (7, [.int 0, .int 365, .int 0, .int 0, .ref p1, .int 0, .ref p2, .ref p3, .ref p4, .ref p5, .int 0, .ref p6, .int 0, .ref p7, .ref p8, .ref p9, .int 0]))] H := hP
  have hD : va_D A [(s0, .inr (5, [.ref s1, .int 0, .int 0])), (s1, .inl (cA 5, 10, .inr (.inr (.inr (.inr FR))))), (m0, .inr (4, [x0, .ref m1, .ref m3, .ref m4, .ref m5, .ref m6, x6, x7, x8, x9, x10, x11, x12, x13, x14, x15, x16, x17, x18, x19])), (m1, .inr (6, [.ref m2, .int n2, .int k2])), (m2, .inl (cA 0, 240, .inl q2)), (m3, .inl (cA 0, 10, .inl q3)), (m4, .inl (cA 0, 10, .inl q4)), (m5, .inl (cA 0, 10, .inl q5)), (m6, .inl (cA 0, 10, .inl q6)), (a0, .inr (4, [.ref p0, .ref a1, .ref a3, .ref a4, .ref a5, .ref a6, .int 0, .int 0, .int 0, .long 0, .long 0, .long 0, .int 0, .int 0, .int 0, .int 0, .int 365, .int 0, .int 0, .int 0])), (a1, .inr (6, [.ref a2, .int 0, .int 0])), (a2, .inl (cA 0, 240, .inl e2)), (a3, .inl (cA 0, 10, .inl e3)), (a4, .inl (cA 0, 10, .inl e4)), (a5, .inl (cA 0, 10, .inl e5)), (a6, .inl (cA 0, 10, .inl e6)), (h0, .inr (10, [.ref b0, .int 0, .ref p0, .ref u0, .ref r0, .ref a0, .ref t0, .ref s0, .ref o0])), (p0, .inr (7, [.int 0, .int 365, .int 0, .int 0, .ref p1, .int 0, .ref p2, .ref p3, .ref p4, .ref p5, .int 0, .ref p6, .int 0, .ref p7, .ref p8, .ref p9, .int 0]))] := hD
  refine lv_aload_n hx hb dX9_close_22 rfl (lv_at hl 0 rfl) ?_
  refine va_get (D := D) (ci := 10) (v := .ref s0) (C := RX9) (T := TX9) (N := 9) hx hb hts inX9 hown hK hP 16 rfl rfl 7 (by decide) (hts (.fieldLink RX9 45 "EscrowDesk" "history" "LEscrowDesk$History;") (by decide +kernel)) (fun _ h9 => h9) rfl dX9_close_23 ?_
  refine lv_aload_n hx hb dX9_close_26 rfl (lv_at hl 0 rfl) ?_
  refine va_get (D := D) (ci := 10) (v := .ref a0) (C := RX9) (T := TX9) (N := 9) hx hb hts inX9 hown hK hP 16 rfl rfl 5 (by decide) (hts (.fieldLink RX9 35 "EscrowDesk" "account" "LEscrowDesk$Account;") (by decide +kernel)) (fun _ h9 => h9) rfl dX9_close_27 ?_
  have hPc := hP.sub (ws' := [(s0, .inr (5, [.ref s1, .int 0, .int 0])), (s1, .inl (cA 5, 10, .inr (.inr (.inr (.inr FR))))), (m0, .inr (4, [x0, .ref m1, .ref m3, .ref m4, .ref m5, .ref m6, x6, x7, x8, x9, x10, x11, x12, x13, x14, x15, x16, x17, x18, x19])), (m1, .inr (6, [.ref m2, .int n2, .int k2])), (m2, .inl (cA 0, 240, .inl q2)), (m3, .inl (cA 0, 10, .inl q3)), (m4, .inl (cA 0, 10, .inl q4)), (m5, .inl (cA 0, 10, .inl q5)), (m6, .inl (cA 0, 10, .inl q6)), (a0, .inr (4, [.ref p0, .ref a1, .ref a3, .ref a4, .ref a5, .ref a6, .int 0, .int 0, .int 0, .long 0, .long 0, .long 0, .int 0, .int 0, .int 0, .int 0, .int 365, .int 0, .int 0, .int 0])), (a1, .inr (6, [.ref a2, .int 0, .int 0])), (a2, .inl (cA 0, 240, .inl e2)), (a3, .inl (cA 0, 10, .inl e3)), (a4, .inl (cA 0, 10, .inl e4)), (a5, .inl (cA 0, 10, .inl e5)), (a6, .inl (cA 0, 10, .inl e6))]) [0, 1, 2, 3, 4, 5, 6, 7, 8, 9, 10, 11, 12, 13, 14, 15] rfl
  have hDc := hD.sub (ws' := [(s0, .inr (5, [.ref s1, .int 0, .int 0])), (s1, .inl (cA 5, 10, .inr (.inr (.inr (.inr FR))))), (m0, .inr (4, [x0, .ref m1, .ref m3, .ref m4, .ref m5, .ref m6, x6, x7, x8, x9, x10, x11, x12, x13, x14, x15, x16, x17, x18, x19])), (m1, .inr (6, [.ref m2, .int n2, .int k2])), (m2, .inl (cA 0, 240, .inl q2)), (m3, .inl (cA 0, 10, .inl q3)), (m4, .inl (cA 0, 10, .inl q4)), (m5, .inl (cA 0, 10, .inl q5)), (m6, .inl (cA 0, 10, .inl q6)), (a0, .inr (4, [.ref p0, .ref a1, .ref a3, .ref a4, .ref a5, .ref a6, .int 0, .int 0, .int 0, .long 0, .long 0, .long 0, .int 0, .int 0, .int 0, .int 0, .int 365, .int 0, .int 0, .int 0])), (a1, .inr (6, [.ref a2, .int 0, .int 0])), (a2, .inl (cA 0, 240, .inl e2)), (a3, .inl (cA 0, 10, .inl e3)), (a4, .inl (cA 0, 10, .inl e4)), (a5, .inl (cA 0, 10, .inl e5)), (a6, .inl (cA 0, 10, .inl e6))]) [0, 1, 2, 3, 4, 5, 6, 7, 8, 9, 10, 11, 12, 13, 14, 15] (by decide) rfl
  have hFc := va_free (wc := [(s0, .inr (5, [.ref s1, .int 0, .int 0])), (s1, .inl (cA 5, 10, .inr (.inr (.inr (.inr FR))))), (m0, .inr (4, [x0, .ref m1, .ref m3, .ref m4, .ref m5, .ref m6, x6, x7, x8, x9, x10, x11, x12, x13, x14, x15, x16, x17, x18, x19])), (m1, .inr (6, [.ref m2, .int n2, .int k2])), (m2, .inl (cA 0, 240, .inl q2)), (m3, .inl (cA 0, 10, .inl q3)), (m4, .inl (cA 0, 10, .inl q4)), (m5, .inl (cA 0, 10, .inl q5)), (m6, .inl (cA 0, 10, .inl q6)), (a0, .inr (4, [.ref p0, .ref a1, .ref a3, .ref a4, .ref a5, .ref a6, .int 0, .int 0, .int 0, .long 0, .long 0, .long 0, .int 0, .int 0, .int 0, .int 0, .int 365, .int 0, .int 0, .int 0])), (a1, .inr (6, [.ref a2, .int 0, .int 0])), (a2, .inl (cA 0, 240, .inl e2)), (a3, .inl (cA 0, 10, .inl e3)), (a4, .inl (cA 0, 10, .inl e4)), (a5, .inl (cA 0, 10, .inl e5)), (a6, .inl (cA 0, 10, .inl e6))]) hD hS hA [0, 1, 2, 3, 4, 5, 6, 7, 8, 9, 10, 11, 12, 13, 14, 15] rfl
  refine va_callv (va_runV (As := [.ref a0]) (rest := []) ⟨hx, hb, hml, hown, hts⟩ (c_remember l D cA sa s0 s1 m0 m1 m2 m3 m4 m5 m6 a0 a1 a2 a3 a4 a5 a6 p0 x0 x6 x7 x8 x9 x10 x11 x12 x13 x14 x15 x16 x17 x18 x19 n2 k2 q2 q3 q4 q5 q6 e2 e3 e4 e5 e6 FR H.size hF) (cwV 1 hts gX9_close_X1_remember rfl rfl rfl (by decide +kernel) ⟨(Nat.le_of_ble_eq_true rfl), (Nat.le_of_ble_eq_true rfl)⟩) ⟨Wd.blind, va_recv hK hPc (ci := 5) (q0 := 0) rfl rfl, fun U hU hW => ⟨rfl, Wd.call hPc hDc hK hC hZ hS hFc U hU hW⟩⟩ rfl rfl hl.1 rfl (lv_room (Nat.le_of_ble_eq_true rfl)) dX9_close_30 ⟨(Nat.le_of_ble_eq_true rfl), (Nat.le_of_ble_eq_true rfl)⟩) hS (fun q _ h => hFc q h) hFc (fun u t H1 locs ht hvm hw hB hz1 hk1 hS => ?_)
  obtain ⟨hP1, hD1⟩ := hB
  rw [ht] at hP1
  obtain ⟨hP, hD⟩ := va_join (wr := [(h0, .inr (10, [.ref b0, .int 0, .ref p0, .ref u0, .ref r0, .ref a0, .ref t0, .ref s0, .ref o0])), (p0, .inr (7, [.int 0, .int 365, .int 0, .int 0, .ref p1, .int 0, .ref p2, .ref p3, .ref p4, .ref p5, .int 0, .ref p6, .int 0, .ref p7, .ref p8, .ref p9, .int 0]))]) (w1 := [(a0, .inr (4, [.ref p0, .ref a1, .ref a3, .ref a4, .ref a5, .ref a6, .int 0, .int 0, .int 0, .long 0, .long 0, .long 0, .int 0, .int 0, .int 0, .int 0, .int 365, .int 0, .int 0, .int 0])), (a1, .inr (6, [.ref a2, .int 0, .int 0])), (a2, .inl (cA 0, 240, .inl e2)), (a3, .inl (cA 0, 10, .inl e3)), (a4, .inl (cA 0, 10, .inl e4)), (a5, .inl (cA 0, 10, .inl e5)), (a6, .inl (cA 0, 10, .inl e6))]) hP hD [0, 1, 2, 3, 4, 5, 6, 7, 8, 9, 10, 11, 12, 13, 14, 15] [16, 17] rfl rfl (by decide) (by decide) hk1 hFc hP1 hD1
  generalize H1 = H at hP hS ⊢
  have hP : va_P D vwCl [(h0, .inr (10, [.ref b0, .int 0, .ref p0, .ref u0, .ref r0, .ref a0, .ref t0, .ref s0, .ref o0])), (p0, .inr (7, [.int 0, .int 365, .int 0, .int 0, .ref p1, .int 0, .ref p2, .ref p3, .ref p4, .ref p5, .int 0, .ref p6, .int 0, .ref p7, .ref p8, .ref p9, .int 0])), (a0, .inr (4, [.ref p0, .ref a1, .ref a3, .ref a4, .ref a5, .ref a6, .int 0, .int 0, .int 0, .long 0, .long 0, .long 0, .int 0, .int 0, .int 0, .int 0, .int 365, .int 0, .int 0, .int 0])), (a1, .inr (6, [.ref a2, .int 0, .int 0])), (a2, .inl (cA 0, 240, .inl e2)), (a3, .inl (cA 0, 10, .inl e3)), (a4, .inl (cA 0, 10, .inl e4)), (a5, .inl (cA 0, 10, .inl e5)), (a6, .inl (cA 0, 10, .inl e6))] H := hP
  have hD : va_D A [(h0, .inr (10, [.ref b0, .int 0, .ref p0, .ref u0, .ref r0, .ref a0, .ref t0, .ref s0, .ref o0])), (p0, .inr (7, [.int 0, .int 365, .int 0, .int 0, .ref p1, .int 0, .ref p2, .ref p3, .ref p4, .ref p5, .int 0, .ref p6, .int 0, .ref p7, .ref p8, .ref p9, .int 0])), (a0, .inr (4, [.ref p0, .ref a1, .ref a3, .ref a4, .ref a5, .ref a6, .int 0, .int 0, .int 0, .long 0, .long 0, .long 0, .int 0, .int 0, .int 0, .int 0, .int 365, .int 0, .int 0, .int 0])), (a1, .inr (6, [.ref a2, .int 0, .int 0])), (a2, .inl (cA 0, 240, .inl e2)), (a3, .inl (cA 0, 10, .inl e3)), (a4, .inl (cA 0, 10, .inl e4)), (a5, .inl (cA 0, 10, .inl e5)), (a6, .inl (cA 0, 10, .inl e6))] := hD
  refine lv_aload_n hx hb dX9_close_33 rfl (lv_at hl 0 rfl) ?_
  refine va_get (D := D) (ci := 10) (v := .ref a0) (C := RX9) (T := TX9) (N := 9) hx hb hts inX9 hown hK hP 0 rfl rfl 5 (by decide) (hts (.fieldLink RX9 35 "EscrowDesk" "account" "LEscrowDesk$Account;") (by decide +kernel)) (fun _ h9 => h9) rfl dX9_close_34 ?_
  refine va_getN (D := D) (ci := 4) (v := .int 0) (C := RX0) (T := TX0) (N := 20) hx hb hts inX0 hown hK hP 2 rfl rfl 8 (by decide) (hC.f (A := _) (a := RX9) (i := 93) (b := "EscrowDesk$Account") (n := "principal") (d := "I") (x := "EscrowDesk") (by decide +kernel)) (fun _ h9 => h9) rfl dX9_close_37 ?_
  refine lv_istore_n (lv' := [(1, .int 0), (0, .ref h0)]) hx hb dX9_close_40 rfl hl (by decide) rfl (fun ls hl => ?_)
  refine lv_aload_n hx hb dX9_close_41 rfl (lv_at hl 1 rfl) ?_
  refine va_get (D := D) (ci := 10) (v := .ref a0) (C := RX9) (T := TX9) (N := 9) hx hb hts inX9 hown hK hP 0 rfl rfl 5 (by decide) (hts (.fieldLink RX9 35 "EscrowDesk" "account" "LEscrowDesk$Account;") (by decide +kernel)) (fun _ h9 => h9) rfl dX9_close_42 ?_
  refine lv_iload_n hx hb dX9_close_45 rfl (lv_at hl 0 rfl) ?_
  refine lv_iconst (v := (-1)) hx hb dX9_close_46 (by decide) ?_
  have hPc := hP.sub (ws' := [(a0, .inr (4, [.ref p0, .ref a1, .ref a3, .ref a4, .ref a5, .ref a6, .int 0, .int 0, .int 0, .long 0, .long 0, .long 0, .int 0, .int 0, .int 0, .int 0, .int 365, .int 0, .int 0, .int 0])), (a1, .inr (6, [.ref a2, .int 0, .int 0]))]) [2, 3] rfl
  have hDc := hD.sub (ws' := [(a0, .inr (4, [.ref p0, .ref a1, .ref a3, .ref a4, .ref a5, .ref a6, .int 0, .int 0, .int 0, .long 0, .long 0, .long 0, .int 0, .int 0, .int 0, .int 0, .int 365, .int 0, .int 0, .int 0])), (a1, .inr (6, [.ref a2, .int 0, .int 0]))]) [2, 3] (by decide) rfl
  have hFc := va_free (wc := [(a0, .inr (4, [.ref p0, .ref a1, .ref a3, .ref a4, .ref a5, .ref a6, .int 0, .int 0, .int 0, .long 0, .long 0, .long 0, .int 0, .int 0, .int 0, .int 0, .int 365, .int 0, .int 0, .int 0])), (a1, .inr (6, [.ref a2, .int 0, .int 0]))]) hD hS hA [2, 3] rfl
  refine va_callv (va_runV (As := [.int 0, .int (-1)]) (rest := []) ⟨hx, hb, hml, hown, hts⟩ (c_refund0 l D cA sa a0 p0 a1 a3 a4 a5 a6 a2 H.size) (cwV 2 hts gX9_close_X0_refund rfl rfl rfl (by decide +kernel) ⟨(Nat.le_of_ble_eq_true rfl), (Nat.le_of_ble_eq_true rfl)⟩) ⟨Wd.blind, va_recv hK hPc (ci := 4) (q0 := 0) rfl rfl, fun U hU hW => ⟨rfl, Wd.call hPc hDc hK hC hZ hS hFc U hU hW⟩⟩ rfl rfl hl.1 rfl (lv_room (Nat.le_of_ble_eq_true rfl)) dX9_close_47 ⟨(Nat.le_of_ble_eq_true rfl), (Nat.le_of_ble_eq_true rfl)⟩) hS (fun q _ h => hFc q h) hFc (fun u t H1 locs ht hvm hw hB hz1 hk1 hS => ?_)
  obtain ⟨hP1, hD1⟩ := hB
  rw [ht] at hP1
  obtain ⟨hP, hD⟩ := va_join (wr := [(h0, .inr (10, [.ref b0, .int 0, .ref p0, .ref u0, .ref r0, .ref a0, .ref t0, .ref s0, .ref o0])), (p0, .inr (7, [.int 0, .int 365, .int 0, .int 0, .ref p1, .int 0, .ref p2, .ref p3, .ref p4, .ref p5, .int 0, .ref p6, .int 0, .ref p7, .ref p8, .ref p9, .int 0])), (a2, .inl (cA 0, 240, .inl e2)), (a3, .inl (cA 0, 10, .inl e3)), (a4, .inl (cA 0, 10, .inl e4)), (a5, .inl (cA 0, 10, .inl e5)), (a6, .inl (cA 0, 10, .inl e6))]) (w1 := [(a0, .inr (4, [.ref p0, .ref a1, .ref a3, .ref a4, .ref a5, .ref a6, .int 0, .int 0, .int 0, .long 0, .long 0, .long 0, .int 0, .int 0, .int 0, .int 0, .int 365, .int 0, .int 0, .int 0])), (a1, .inr (6, [.ref a2, .int 0, .int 0]))]) hP hD [2, 3] [0, 1, 4, 5, 6, 7, 8] rfl rfl (by decide) (by decide) hk1 hFc hP1 hD1
  generalize H1 = H at hP hS ⊢
  have hP : va_P D vwCl [(h0, .inr (10, [.ref b0, .int 0, .ref p0, .ref u0, .ref r0, .ref a0, .ref t0, .ref s0, .ref o0])), (p0, .inr (7, [.int 0, .int 365, .int 0, .int 0, .ref p1, .int 0, .ref p2, .ref p3, .ref p4, .ref p5, .int 0, .ref p6, .int 0, .ref p7, .ref p8, .ref p9, .int 0])), (a2, .inl (cA 0, 240, .inl e2)), (a3, .inl (cA 0, 10, .inl e3)), (a4, .inl (cA 0, 10, .inl e4)), (a5, .inl (cA 0, 10, .inl e5)), (a6, .inl (cA 0, 10, .inl e6)), (a0, .inr (4, [.ref p0, .ref a1, .ref a3, .ref a4, .ref a5, .ref a6, .int 0, .int 0, .int 0, .long 0, .long 0, .long 0, .int 0, .int 0, .int 0, .int 0, .int 365, .int 0, .int 0, .int 0])), (a1, .inr (6, [.ref a2, .int 0, .int 0]))] H := hP
  have hD : va_D A [(h0, .inr (10, [.ref b0, .int 0, .ref p0, .ref u0, .ref r0, .ref a0, .ref t0, .ref s0, .ref o0])), (p0, .inr (7, [.int 0, .int 365, .int 0, .int 0, .ref p1, .int 0, .ref p2, .ref p3, .ref p4, .ref p5, .int 0, .ref p6, .int 0, .ref p7, .ref p8, .ref p9, .int 0])), (a2, .inl (cA 0, 240, .inl e2)), (a3, .inl (cA 0, 10, .inl e3)), (a4, .inl (cA 0, 10, .inl e4)), (a5, .inl (cA 0, 10, .inl e5)), (a6, .inl (cA 0, 10, .inl e6)), (a0, .inr (4, [.ref p0, .ref a1, .ref a3, .ref a4, .ref a5, .ref a6, .int 0, .int 0, .int 0, .long 0, .long 0, .long 0, .int 0, .int 0, .int 0, .int 0, .int 365, .int 0, .int 0, .int 0])), (a1, .inr (6, [.ref a2, .int 0, .int 0]))] := hD
  refine lv_iload_n hx hb dX9_close_50 rfl (lv_at hl 0 rfl) ?_
  have hP9 := hP.sub (ws' := []) [] rfl
  have hD9 := hD.sub (ws' := []) [] (by decide) rfl
  refine W.widen (k := 0) (n := 0) (Nat.le_of_ble_eq_true rfl) (Nat.le_of_ble_eq_true rfl) ?_
  exact W.iret (v := 0) hx hb hr (fun t ht hW => ⟨⟨0, (), rfl, rfl, by rw [ht]; exact hP9, hD9⟩, hS.F ht⟩) hS.2.2 dX9_close_51

set_option maxHeartbeats 4000000 in
set_option maxRecDepth 100000 in
/-- payInterest: the pot is empty -/
theorem c_payInterest_thr (l : Launch) (D : va_G) (cA : Nat → ClassId) (sa : Nat → Nat) (h0 b0 p0 u0 r0 a0 t0 s0 o0 a1 a3 a4 a5 a6 : Nat) (a : Int32) (sz : Nat) (hl9 : l.stackTraces = false) : vx_Met l yX9_payInterest wsX9_payInterest ({ frames := 6, cells := 1, slots := 6, locals := 90 }) (va_Pc [.ref h0, .int a] (Wd D cA sa [(h0, .inr (10, [.ref b0, .int 0, .ref p0, .ref u0, .ref r0, .ref a0, .ref t0, .ref s0, .ref o0])), (a0, .inr (4, [.ref p0, .ref a1, .ref a3, .ref a4, .ref a5, .ref a6, .int 0, .int 0, .int 0, .long 0, .long 0, .long 0, .int 0, .int 0, .int 0, .int 0, .int 365, .int 0, .int 0, .int 0]))] sz)) (va_Qi (fun (_ : Int32) (_ : Unit) => False) (fun (_ : Unit) _ => True) (va_A [(h0, .inr (10, [.ref b0, .int 0, .ref p0, .ref u0, .ref r0, .ref a0, .ref t0, .ref s0, .ref o0])), (a0, .inr (4, [.ref p0, .ref a1, .ref a3, .ref a4, .ref a5, .ref a6, .int 0, .int 0, .int 0, .long 0, .long 0, .long 0, .int 0, .int 0, .int 0, .int 0, .int 365, .int 0, .int 0, .int 0]))] sz)) (vx_X (fun _ : Unit => True) (fun E _ _ => E = "java/lang/IllegalArgumentException") (va_A [(h0, .inr (10, [.ref b0, .int 0, .ref p0, .ref u0, .ref r0, .ref a0, .ref t0, .ref s0, .ref o0])), (a0, .inr (4, [.ref p0, .ref a1, .ref a3, .ref a4, .ref a5, .ref a6, .int 0, .int 0, .int 0, .long 0, .long 0, .long 0, .int 0, .int 0, .int 0, .int 0, .int 365, .int 0, .int 0, .int 0]))] sz)) 1 6 (va_A [(h0, .inr (10, [.ref b0, .int 0, .ref p0, .ref u0, .ref r0, .ref a0, .ref t0, .ref s0, .ref o0])), (a0, .inr (4, [.ref p0, .ref a1, .ref a3, .ref a4, .ref a5, .ref a6, .int 0, .int 0, .int 0, .long 0, .long 0, .long 0, .int 0, .int 0, .int 0, .int 0, .int 365, .int 0, .int 0, .int 0]))] sz) := by
  refine vx_ofW (cc := cX9_payInterest) (maxL := 2) (ret := (some .int)) (by decide) rfl ?_
  intro p e s m args below meth c s₁ B hml hno hv
  obtain ⟨rfl, hsz, hP, hK, hD0, hC, hZ⟩ := hv
  have hx := B.exec
  have hb := B.bytes
  have hr := B.returns
  have hts := atoms_spec (ws := wsX9_payInterest) B.pre
  have hown : s.vm.findClass RX9 = some m.cls := findClass_of_methodNamed B.named
  have hlocks := B.notSynchronized
  subst hsz
  have hD := hD0.self (sz := s.heap.size)
  generalize hAe : va_A [(h0, .inr (10, [.ref b0, .int 0, .ref p0, .ref u0, .ref r0, .ref a0, .ref t0, .ref s0, .ref o0])), (a0, .inr (4, [.ref p0, .ref a1, .ref a3, .ref a4, .ref a5, .ref a6, .int 0, .int 0, .int 0, .long 0, .long 0, .long 0, .int 0, .int 0, .int 0, .int 0, .int 365, .int 0, .int 0, .int 0]))] s.heap.size = A at hD hZ ⊢
  have hA : ∀ q : Nat, s.heap.size ≤ q → A q := fun q h => by rw [← hAe]; exact Or.inr h
  have hS : va_S A s.heap s.heap [] := va_S.rf
  have hP : va_P D vwCl [(h0, .inr (10, [.ref b0, .int 0, .ref p0, .ref u0, .ref r0, .ref a0, .ref t0, .ref s0, .ref o0])), (a0, .inr (4, [.ref p0, .ref a1, .ref a3, .ref a4, .ref a5, .ref a6, .int 0, .int 0, .int 0, .long 0, .long 0, .long 0, .int 0, .int 0, .int 0, .int 0, .int 365, .int 0, .int 0, .int 0]))] s.heap := hP
  have hl := lv_entry ([.ref h0, .int a]) (n := 2) (Nat.le_of_ble_eq_true rfl)
  rw [lg_entry_eq]
  generalize (lg_sl ([.ref h0, .int a]) ++ List.replicate (2 - (lg_sl ([.ref h0, .int a])).length) Slot.unset).toArray = ls at hl ⊢
  have hl : lv_has ls 2 [(0, .ref h0), (1, .int a)] := hl
  have inX0 : ∀ w ∈ u_ws RX0 TX0 20, w ∈ wsX9_payInterest := by decide +kernel
  have inX9 : ∀ w ∈ u_ws RX9 TX9 9, w ∈ wsX9_payInterest := by decide +kernel
  refine lv_iload_n hx hb dX9_payInterest_0 rfl (lv_at hl 1 rfl) ?_
  refine lv_iconst (v := 1) hx hb dX9_payInterest_1 (by decide) ?_
  refine lv_icmp_lt (tgt := 18) hx hb dX9_payInterest_2 (by decide) (fun c1 => ?_) (fun c1 => ?_)
  · skip
    exact vx_throwSW (text := "the interest pot does not hold such an amount") (names := ["java/lang/RuntimeException", "java/lang/Exception"]) (A := A) hx hb hl9 hown (by decide +kernel) (by decide +kernel) (hts (.classLink RX9 279 "java/lang/IllegalArgumentException") (by decide +kernel)) (hts (.initialized "java/lang/IllegalArgumentException") (by decide +kernel)) (hC.str 20 rfl) (vx_hat (B := [.castable "java/lang/IllegalArgumentException" "java/lang/IllegalArgumentException", .declares (Bundle.initS "java/lang/RuntimeException"), .declares (Bundle.initS "java/lang/Exception"), .declares (Bundle.initS "java/lang/Throwable")]) (fun w h => hts w (by first | exact (List.mem_cons_of_mem _ (List.mem_append_right _ h)) | (revert w; decide +kernel))) (by decide +kernel) (vx_c (hC.c (by decide +kernel)) (vx_c (hC.d (by decide +kernel)) (vx_c (hC.d (by decide +kernel)) (vx_c (hC.d (by decide +kernel)) vx_n))))) (by decide +kernel) hZ.1 hZ.2.1 hS (by rw [hml]; exact hl.1) dX9_payInterest_18 dX9_payInterest_21 dX9_payInterest_22 dX9_payInterest_25 dX9_payInterest_28 (fun x h => (hno x h).elim) (Nat.le_of_ble_eq_true rfl) (Nat.le_of_ble_eq_true rfl) (Nat.le_of_ble_eq_true rfl) (Nat.le_of_ble_eq_true rfl) hlocks (fun t ht h1 h2 => ⟨(), trivial, rfl, F_of hS h1 h2⟩) hS.2.2 (Nat.le_of_ble_eq_true rfl) (Nat.le_of_ble_eq_true rfl)
  · skip
    refine lv_iload_n hx hb dX9_payInterest_5 rfl (lv_at hl 1 rfl) ?_
    refine lv_i2l (v := (a.toInt64)) hx hb dX9_payInterest_6 rfl ?_
    refine lv_aload_n hx hb dX9_payInterest_7 rfl (lv_at hl 0 rfl) ?_
    refine va_get (D := D) (ci := 10) (v := .ref a0) (C := RX9) (T := TX9) (N := 9) hx hb hts inX9 hown hK hP 0 rfl rfl 5 (by decide) (hts (.fieldLink RX9 35 "EscrowDesk" "account" "LEscrowDesk$Account;") (by decide +kernel)) (fun _ h9 => h9) rfl dX9_payInterest_8 ?_
    refine va_getN (D := D) (ci := 4) (v := .long 0) (C := RX0) (T := TX0) (N := 20) hx hb hts inX0 hown hK hP 1 rfl rfl 9 (by decide) (hC.f (A := _) (a := RX9) (i := 100) (b := "EscrowDesk$Account") (n := "interestPot") (d := "J") (x := "EscrowDesk") (by decide +kernel)) (fun _ h9 => h9) rfl dX9_payInterest_11 ?_
    refine W.lcmp hx hb dX9_payInterest_14 ?_
    refine lv_if_le (tgt := 29) hx hb dX9_payInterest_15 (by decide) (fun c9 => absurd c9 (lcmp_pos c1)) (fun c3 => ?_)
    exact vx_throwSW (text := "the interest pot does not hold such an amount") (names := ["java/lang/RuntimeException", "java/lang/Exception"]) (A := A) hx hb hl9 hown (by decide +kernel) (by decide +kernel) (hts (.classLink RX9 279 "java/lang/IllegalArgumentException") (by decide +kernel)) (hts (.initialized "java/lang/IllegalArgumentException") (by decide +kernel)) (hC.str 20 rfl) (vx_hat (B := [.castable "java/lang/IllegalArgumentException" "java/lang/IllegalArgumentException", .declares (Bundle.initS "java/lang/RuntimeException"), .declares (Bundle.initS "java/lang/Exception"), .declares (Bundle.initS "java/lang/Throwable")]) (fun w h => hts w (by first | exact (List.mem_cons_of_mem _ (List.mem_append_right _ h)) | (revert w; decide +kernel))) (by decide +kernel) (vx_c (hC.c (by decide +kernel)) (vx_c (hC.d (by decide +kernel)) (vx_c (hC.d (by decide +kernel)) (vx_c (hC.d (by decide +kernel)) vx_n))))) (by decide +kernel) hZ.1 hZ.2.1 hS (by rw [hml]; exact hl.1) dX9_payInterest_18 dX9_payInterest_21 dX9_payInterest_22 dX9_payInterest_25 dX9_payInterest_28 (fun x h => (hno x h).elim) (Nat.le_of_ble_eq_true rfl) (Nat.le_of_ble_eq_true rfl) (Nat.le_of_ble_eq_true rfl) (Nat.le_of_ble_eq_true rfl) hlocks (fun t ht h1 h2 => ⟨(), trivial, rfl, F_of hS h1 h2⟩) hS.2.2 (Nat.le_of_ble_eq_true rfl) (Nat.le_of_ble_eq_true rfl)

set_option maxHeartbeats 4000000 in
set_option maxRecDepth 100000 in
/-- pass within -/
theorem c_pass_ret (l : Launch) (D : va_G) (cA : Nat → ClassId) (sa : Nat → Nat) (h0 b0 p0 u0 r0 a0 t0 s0 o0 s1 m0 m1 m2 m3 m4 m5 m6 a1 a2 a3 a4 a5 a6 p1 p2 p3 p4 p5 p6 p7 p8 p9 : Nat) (x0 x6 x7 x8 x9 x10 x11 x12 x13 x14 x15 x16 x17 x18 x19 : Value) (n2 k2 : Int32) (q2 q3 q4 q5 q6 e2 e3 e4 e5 e6 : Nat → Int32) (FR : Nat → Option Nat) (N : Nat) (sz : Nat) (hF : FR 0 = some m0) (hN1 : 1 ≤ N) (hN : N ≤ 120) : Met l yX9_pass wsX9_pass ({ frames := 4, cells := 0, slots := 0, locals := 123 }) (va_Pc [.ref h0, .int (nI N)] (Wd D cA sa [(h0, .inr (10, [.ref b0, .int 0, .ref p0, .ref u0, .ref r0, .ref a0, .ref t0, .ref s0, .ref o0])), (s0, .inr (5, [.ref s1, .int 0, .int 0])), (s1, .inl (cA 5, 10, .inr (.inr (.inr (.inr FR))))), (m0, .inr (4, [x0, .ref m1, .ref m3, .ref m4, .ref m5, .ref m6, x6, x7, x8, x9, x10, x11, x12, x13, x14, x15, x16, x17, x18, x19])), (m1, .inr (6, [.ref m2, .int n2, .int k2])), (m2, .inl (cA 0, 240, .inl q2)), (m3, .inl (cA 0, 10, .inl q3)), (m4, .inl (cA 0, 10, .inl q4)), (m5, .inl (cA 0, 10, .inl q5)), (m6, .inl (cA 0, 10, .inl q6)), (a0, .inr (4, [.ref p0, .ref a1, .ref a3, .ref a4, .ref a5, .ref a6, .int 0, .int 0, .int 0, .long 0, .long 0, .long 0, .int 0, .int 0, .int 0, .int 0, .int 365, .int 0, .int 0, .int 0])), (a1, .inr (6, [.ref a2, .int 0, .int 0])), (a2, .inl (cA 0, 240, .inl e2)), (a3, .inl (cA 0, 10, .inl e3)), (a4, .inl (cA 0, 10, .inl e4)), (a5, .inl (cA 0, 10, .inl e5)), (a6, .inl (cA 0, 10, .inl e6)), (p0, .inr (7, [.int 0, .int 365, .int 0, .int 0, .ref p1, .int 0, .ref p2, .ref p3, .ref p4, .ref p5, .int 0, .ref p6, .int 0, .ref p7, .ref p8, .ref p9, .int 0]))] sz)) (va_Qi (fun (r : Int32) (_ : Unit) => r = 0) (fun (_ : Unit) t => Wq D (va_A [(h0, .inr (10, [.ref b0, .int 0, .ref p0, .ref u0, .ref r0, .ref a0, .ref t0, .ref s0, .ref o0])), (s0, .inr (5, [.ref s1, .int 0, .int 0])), (s1, .inl (cA 5, 10, .inr (.inr (.inr (.inr FR))))), (m0, .inr (4, [x0, .ref m1, .ref m3, .ref m4, .ref m5, .ref m6, x6, x7, x8, x9, x10, x11, x12, x13, x14, x15, x16, x17, x18, x19])), (m1, .inr (6, [.ref m2, .int n2, .int k2])), (m2, .inl (cA 0, 240, .inl q2)), (m3, .inl (cA 0, 10, .inl q3)), (m4, .inl (cA 0, 10, .inl q4)), (m5, .inl (cA 0, 10, .inl q5)), (m6, .inl (cA 0, 10, .inl q6)), (a0, .inr (4, [.ref p0, .ref a1, .ref a3, .ref a4, .ref a5, .ref a6, .int 0, .int 0, .int 0, .long 0, .long 0, .long 0, .int 0, .int 0, .int 0, .int 0, .int 365, .int 0, .int 0, .int 0])), (a1, .inr (6, [.ref a2, .int 0, .int 0])), (a2, .inl (cA 0, 240, .inl e2)), (a3, .inl (cA 0, 10, .inl e3)), (a4, .inl (cA 0, 10, .inl e4)), (a5, .inl (cA 0, 10, .inl e5)), (a6, .inl (cA 0, 10, .inl e6)), (p0, .inr (7, [.int 0, .int 365, .int 0, .int 0, .ref p1, .int 0, .ref p2, .ref p3, .ref p4, .ref p5, .int 0, .ref p6, .int 0, .ref p7, .ref p8, .ref p9, .int 0]))] sz) [] t) (va_A [(h0, .inr (10, [.ref b0, .int 0, .ref p0, .ref u0, .ref r0, .ref a0, .ref t0, .ref s0, .ref o0])), (s0, .inr (5, [.ref s1, .int 0, .int 0])), (s1, .inl (cA 5, 10, .inr (.inr (.inr (.inr FR))))), (m0, .inr (4, [x0, .ref m1, .ref m3, .ref m4, .ref m5, .ref m6, x6, x7, x8, x9, x10, x11, x12, x13, x14, x15, x16, x17, x18, x19])), (m1, .inr (6, [.ref m2, .int n2, .int k2])), (m2, .inl (cA 0, 240, .inl q2)), (m3, .inl (cA 0, 10, .inl q3)), (m4, .inl (cA 0, 10, .inl q4)), (m5, .inl (cA 0, 10, .inl q5)), (m6, .inl (cA 0, 10, .inl q6)), (a0, .inr (4, [.ref p0, .ref a1, .ref a3, .ref a4, .ref a5, .ref a6, .int 0, .int 0, .int 0, .long 0, .long 0, .long 0, .int 0, .int 0, .int 0, .int 0, .int 365, .int 0, .int 0, .int 0])), (a1, .inr (6, [.ref a2, .int 0, .int 0])), (a2, .inl (cA 0, 240, .inl e2)), (a3, .inl (cA 0, 10, .inl e3)), (a4, .inl (cA 0, 10, .inl e4)), (a5, .inl (cA 0, 10, .inl e5)), (a6, .inl (cA 0, 10, .inl e6)), (p0, .inr (7, [.int 0, .int 365, .int 0, .int 0, .ref p1, .int 0, .ref p2, .ref p3, .ref p4, .ref p5, .int 0, .ref p6, .int 0, .ref p7, .ref p8, .ref p9, .int 0]))] sz)) 0 0 (va_A [(h0, .inr (10, [.ref b0, .int 0, .ref p0, .ref u0, .ref r0, .ref a0, .ref t0, .ref s0, .ref o0])), (s0, .inr (5, [.ref s1, .int 0, .int 0])), (s1, .inl (cA 5, 10, .inr (.inr (.inr (.inr FR))))), (m0, .inr (4, [x0, .ref m1, .ref m3, .ref m4, .ref m5, .ref m6, x6, x7, x8, x9, x10, x11, x12, x13, x14, x15, x16, x17, x18, x19])), (m1, .inr (6, [.ref m2, .int n2, .int k2])), (m2, .inl (cA 0, 240, .inl q2)), (m3, .inl (cA 0, 10, .inl q3)), (m4, .inl (cA 0, 10, .inl q4)), (m5, .inl (cA 0, 10, .inl q5)), (m6, .inl (cA 0, 10, .inl q6)), (a0, .inr (4, [.ref p0, .ref a1, .ref a3, .ref a4, .ref a5, .ref a6, .int 0, .int 0, .int 0, .long 0, .long 0, .long 0, .int 0, .int 0, .int 0, .int 0, .int 365, .int 0, .int 0, .int 0])), (a1, .inr (6, [.ref a2, .int 0, .int 0])), (a2, .inl (cA 0, 240, .inl e2)), (a3, .inl (cA 0, 10, .inl e3)), (a4, .inl (cA 0, 10, .inl e4)), (a5, .inl (cA 0, 10, .inl e5)), (a6, .inl (cA 0, 10, .inl e6)), (p0, .inr (7, [.int 0, .int 365, .int 0, .int 0, .ref p1, .int 0, .ref p2, .ref p3, .ref p4, .ref p5, .int 0, .ref p6, .int 0, .ref p7, .ref p8, .ref p9, .int 0]))] sz) := by
  refine Met.ofW (cc := cX9_pass) (maxL := 3) (ret := (some .int)) (by decide) rfl ?_
  intro p e s m args below meth c s₁ B hml hv
  obtain ⟨rfl, hsz, hP, hK, hD0, hC, hZ⟩ := hv
  have hx := B.exec
  have hb := B.bytes
  have hr := B.returns
  have hts := atoms_spec (ws := wsX9_pass) B.pre
  have hown : s.vm.findClass RX9 = some m.cls := findClass_of_methodNamed B.named
  have hlocks := B.notSynchronized
  subst hsz
  have hD := hD0.self (sz := s.heap.size)
  generalize hAe : va_A [(h0, .inr (10, [.ref b0, .int 0, .ref p0, .ref u0, .ref r0, .ref a0, .ref t0, .ref s0, .ref o0])), (s0, .inr (5, [.ref s1, .int 0, .int 0])), (s1, .inl (cA 5, 10, .inr (.inr (.inr (.inr FR))))), (m0, .inr (4, [x0, .ref m1, .ref m3, .ref m4, .ref m5, .ref m6, x6, x7, x8, x9, x10, x11, x12, x13, x14, x15, x16, x17, x18, x19])), (m1, .inr (6, [.ref m2, .int n2, .int k2])), (m2, .inl (cA 0, 240, .inl q2)), (m3, .inl (cA 0, 10, .inl q3)), (m4, .inl (cA 0, 10, .inl q4)), (m5, .inl (cA 0, 10, .inl q5)), (m6, .inl (cA 0, 10, .inl q6)), (a0, .inr (4, [.ref p0, .ref a1, .ref a3, .ref a4, .ref a5, .ref a6, .int 0, .int 0, .int 0, .long 0, .long 0, .long 0, .int 0, .int 0, .int 0, .int 0, .int 365, .int 0, .int 0, .int 0])), (a1, .inr (6, [.ref a2, .int 0, .int 0])), (a2, .inl (cA 0, 240, .inl e2)), (a3, .inl (cA 0, 10, .inl e3)), (a4, .inl (cA 0, 10, .inl e4)), (a5, .inl (cA 0, 10, .inl e5)), (a6, .inl (cA 0, 10, .inl e6)), (p0, .inr (7, [.int 0, .int 365, .int 0, .int 0, .ref p1, .int 0, .ref p2, .ref p3, .ref p4, .ref p5, .int 0, .ref p6, .int 0, .ref p7, .ref p8, .ref p9, .int 0]))] s.heap.size = A at hD hZ ⊢
  have hA : ∀ q : Nat, s.heap.size ≤ q → A q := fun q h => by rw [← hAe]; exact Or.inr h
  have hS : va_S A s.heap s.heap [] := va_S.rf
  have hP : va_P D vwCl [(h0, .inr (10, [.ref b0, .int 0, .ref p0, .ref u0, .ref r0, .ref a0, .ref t0, .ref s0, .ref o0])), (s0, .inr (5, [.ref s1, .int 0, .int 0])), (s1, .inl (cA 5, 10, .inr (.inr (.inr (.inr FR))))), (m0, .inr (4, [x0, .ref m1, .ref m3, .ref m4, .ref m5, .ref m6, x6, x7, x8, x9, x10, x11, x12, x13, x14, x15, x16, x17, x18, x19])), (m1, .inr (6, [.ref m2, .int n2, .int k2])), (m2, .inl (cA 0, 240, .inl q2)), (m3, .inl (cA 0, 10, .inl q3)), (m4, .inl (cA 0, 10, .inl q4)), (m5, .inl (cA 0, 10, .inl q5)), (m6, .inl (cA 0, 10, .inl q6)), (a0, .inr (4, [.ref p0, .ref a1, .ref a3, .ref a4, .ref a5, .ref a6, .int 0, .int 0, .int 0, .long 0, .long 0, .long 0, .int 0, .int 0, .int 0, .int 0, .int 365, .int 0, .int 0, .int 0])), (a1, .inr (6, [.ref a2, .int 0, .int 0])), (a2, .inl (cA 0, 240, .inl e2)), (a3, .inl (cA 0, 10, .inl e3)), (a4, .inl (cA 0, 10, .inl e4)), (a5, .inl (cA 0, 10, .inl e5)), (a6, .inl (cA 0, 10, .inl e6)), (p0, .inr (7, [.int 0, .int 365, .int 0, .int 0, .ref p1, .int 0, .ref p2, .ref p3, .ref p4, .ref p5, .int 0, .ref p6, .int 0, .ref p7, .ref p8, .ref p9, .int 0]))] s.heap := hP
  have hl := lv_entry ([.ref h0, .int (nI N)]) (n := 3) (Nat.le_of_ble_eq_true rfl)
  rw [lg_entry_eq]
  generalize (lg_sl ([.ref h0, .int (nI N)]) ++ List.replicate (3 - (lg_sl ([.ref h0, .int (nI N)])).length) Slot.unset).toArray = ls at hl ⊢
  have hl : lv_has ls 3 [(0, .ref h0), (1, .int (nI N))] := hl
  have inX0 : ∀ w ∈ u_ws RX0 TX0 20, w ∈ wsX9_pass := by decide +kernel
  have inX9 : ∀ w ∈ u_ws RX9 TX9 9, w ∈ wsX9_pass := by decide +kernel
  refine lv_iload_n hx hb dX9_pass_0 rfl (lv_at hl 1 rfl) ?_
  refine lv_iconst (v := 1) hx hb dX9_pass_1 (by decide) ?_
  refine lv_bipush (v := 120) hx hb dX9_pass_2 (by decide) ?_
  have hPc := hP.sub (ws' := []) [] rfl
  have hDc := hD.sub (ws' := []) [] (by decide) rfl
  have hFc := va_free (wc := []) hD hS hA [] rfl
  refine va_callv (va_runS (As := [.int (nI N), .int 1, .int 120]) (rest := []) ⟨hx, hb, hml, hown, hts⟩ (c_needRange_ret l D cA sa (nI N) 1 120 s.heap.size (nI_nlt (b := 1) hN1 (by omega)) (nI_nlt (a := 120) hN (by decide))) (va_cwS 3 hts gX9_pass_X9_needRange rfl rfl rfl (by decide +kernel) ⟨(Nat.le_of_ble_eq_true rfl), (Nat.le_of_ble_eq_true rfl)⟩) ⟨Wd.blind, fun U hU hW => ⟨rfl, Wd.call hPc hDc hK hC hZ hS hFc U hU hW⟩⟩ rfl rfl hl.1 rfl (lv_room (Nat.le_of_ble_eq_true rfl)) dX9_pass_4 ⟨(Nat.le_of_ble_eq_true rfl), (Nat.le_of_ble_eq_true rfl)⟩) hS (fun q _ h => hFc q h) hFc (fun u t H1 locs ht hvm hw hB hz1 hk1 hS => ?_)
  obtain ⟨hP1, hD1⟩ := hB
  rw [ht] at hP1
  obtain ⟨hP, hD⟩ := va_join (wr := [(h0, .inr (10, [.ref b0, .int 0, .ref p0, .ref u0, .ref r0, .ref a0, .ref t0, .ref s0, .ref o0])), (s0, .inr (5, [.ref s1, .int 0, .int 0])), (s1, .inl (cA 5, 10, .inr (.inr (.inr (.inr FR))))), (m0, .inr (4, [x0, .ref m1, .ref m3, .ref m4, .ref m5, .ref m6, x6, x7, x8, x9, x10, x11, x12, x13, x14, x15, x16, x17, x18, x19])), (m1, .inr (6, [.ref m2, .int n2, .int k2])), (m2, .inl (cA 0, 240, .inl q2)), (m3, .inl (cA 0, 10, .inl q3)), (m4, .inl (cA 0, 10, .inl q4)), (m5, .inl (cA 0, 10, .inl q5)), (m6, .inl (cA 0, 10, .inl q6)), (a0, .inr (4, [.ref p0, .ref a1, .ref a3, .ref a4, .ref a5, .ref a6, .int 0, .int 0, .int 0, .long 0, .long 0, .long 0, .int 0, .int 0, .int 0, .int 0, .int 365, .int 0, .int 0, .int 0])), (a1, .inr (6, [.ref a2, .int 0, .int 0])), (a2, .inl (cA 0, 240, .inl e2)), (a3, .inl (cA 0, 10, .inl e3)), (a4, .inl (cA 0, 10, .inl e4)), (a5, .inl (cA 0, 10, .inl e5)), (a6, .inl (cA 0, 10, .inl e6)), (p0, .inr (7, [.int 0, .int 365, .int 0, .int 0, .ref p1, .int 0, .ref p2, .ref p3, .ref p4, .ref p5, .int 0, .ref p6, .int 0, .ref p7, .ref p8, .ref p9, .int 0]))]) (w1 := []) hP hD [] [0, 1, 2, 3, 4, 5, 6, 7, 8, 9, 10, 11, 12, 13, 14, 15, 16, 17] rfl rfl (by decide) (by decide) hk1 hFc hP1 hD1
  generalize H1 = H at hP hS ⊢
  have hP : va_P D vwCl [(h0, .inr (10, [.ref b0, .int 0, .ref p0, .ref u0, .ref r0, .ref a0, .ref t0, .ref s0, .ref o0])), (s0, .inr (5, [.ref s1, .int 0, .int 0])), (s1, .inl (cA 5, 10, .inr (.inr (.inr (.inr FR))))), (m0, .inr (4, [x0, .ref m1, .ref m3, .ref m4, .ref m5, .ref m6, x6, x7, x8, x9, x10, x11, x12, x13, x14, x15, x16, x17, x18, x19])), (m1, .inr (6, [.ref m2, .int n2, .int k2])), (m2, .inl (cA 0, 240, .inl q2)), (m3, .inl (cA 0, 10, .inl q3)), (m4, .inl (cA 0, 10, .inl q4)), (m5, .inl (cA 0, 10, .inl q5)), (m6, .inl (cA 0, 10, .inl q6)), (a0, .inr (4, [.ref p0, .ref a1, .ref a3, .ref a4, .ref a5, .ref a6, .int 0, .int 0, .int 0, .long 0, .long 0, .long 0, .int 0, .int 0, .int 0, .int 0, .int 365, .int 0, .int 0, .int 0])), (a1, .inr (6, [.ref a2, .int 0, .int 0])), (a2, .inl (cA 0, 240, .inl e2)), (a3, .inl (cA 0, 10, .inl e3)), (a4, .inl (cA 0, 10, .inl e4)), (a5, .inl (cA 0, 10, .inl e5)), (a6, .inl (cA 0, 10, .inl e6)), (p0, .inr (7, [.int 0, .int 365, .int 0, .int 0, .ref p1, .int 0, .ref p2, .ref p3, .ref p4, .ref p5, .int 0, .ref p6, .int 0, .ref p7, .ref p8, .ref p9, .int 0]))] H := hP
  have hD : va_D A [(h0, .inr (10, [.ref b0, .int 0, .ref p0, .ref u0, .ref r0, .ref a0, .ref t0, .ref s0, .ref o0])), (s0, .inr (5, [.ref s1, .int 0, .int 0])), (s1, .inl (cA 5, 10, .inr (.inr (.inr (.inr FR))))), (m0, .inr (4, [x0, .ref m1, .ref m3, .ref m4, .ref m5, .ref m6, x6, x7, x8, x9, x10, x11, x12, x13, x14, x15, x16, x17, x18, x19])), (m1, .inr (6, [.ref m2, .int n2, .int k2])), (m2, .inl (cA 0, 240, .inl q2)), (m3, .inl (cA 0, 10, .inl q3)), (m4, .inl (cA 0, 10, .inl q4)), (m5, .inl (cA 0, 10, .inl q5)), (m6, .inl (cA 0, 10, .inl q6)), (a0, .inr (4, [.ref p0, .ref a1, .ref a3, .ref a4, .ref a5, .ref a6, .int 0, .int 0, .int 0, .long 0, .long 0, .long 0, .int 0, .int 0, .int 0, .int 0, .int 365, .int 0, .int 0, .int 0])), (a1, .inr (6, [.ref a2, .int 0, .int 0])), (a2, .inl (cA 0, 240, .inl e2)), (a3, .inl (cA 0, 10, .inl e3)), (a4, .inl (cA 0, 10, .inl e4)), (a5, .inl (cA 0, 10, .inl e5)), (a6, .inl (cA 0, 10, .inl e6)), (p0, .inr (7, [.int 0, .int 365, .int 0, .int 0, .ref p1, .int 0, .ref p2, .ref p3, .ref p4, .ref p5, .int 0, .ref p6, .int 0, .ref p7, .ref p8, .ref p9, .int 0]))] := hD
  refine lv_aload_n hx hb dX9_pass_7 rfl (lv_at hl 0 rfl) ?_
  refine va_get (D := D) (ci := 10) (v := .ref a0) (C := RX9) (T := TX9) (N := 9) hx hb hts inX9 hown hK hP 0 rfl rfl 5 (by decide) (hts (.fieldLink RX9 35 "EscrowDesk" "account" "LEscrowDesk$Account;") (by decide +kernel)) (fun _ h9 => h9) rfl dX9_pass_8 ?_
  refine va_getN (D := D) (ci := 4) (v := .int 0) (C := RX0) (T := TX0) (N := 20) hx hb hts inX0 hown hK hP 10 rfl rfl 6 (by decide) (hC.f (A := _) (a := RX9) (i := 87) (b := "EscrowDesk$Account") (n := "day") (d := "I") (x := "EscrowDesk") (by decide +kernel)) (fun _ h9 => h9) rfl dX9_pass_11 ?_
  refine lv_iload_n hx hb dX9_pass_14 rfl (lv_at hl 1 rfl) ?_
  refine lv_iadd hx hb dX9_pass_15 ?_
  refine lv_sipush (v := 9999) hx hb dX9_pass_16 (by decide) ?_
  refine lv_icmp_gt (tgt := 26) hx hb dX9_pass_19 (by decide) (fun c9 => absurd c9 (pass_le hN)) (fun c2 => ?_)
  refine lv_iconst (v := 1) hx hb dX9_pass_22 (by decide) ?_
  refine lv_goto (tgt := 27) hx hb dX9_pass_23 (by decide) ?_
  have hPc := hP.sub (ws' := []) [] rfl
  have hDc := hD.sub (ws' := []) [] (by decide) rfl
  have hFc := va_free (wc := []) hD hS hA [] rfl
  refine va_callv (va_runS (As := [.int 1]) (rest := []) ⟨hx, hb, hml, hown, hts⟩ (c_needPossible l D cA sa  H.size) (va_cwS 1 hts gX9_pass_X9_needPossible rfl rfl rfl (by decide +kernel) ⟨(Nat.le_of_ble_eq_true rfl), (Nat.le_of_ble_eq_true rfl)⟩) ⟨Wd.blind, fun U hU hW => ⟨rfl, Wd.call hPc hDc hK hC hZ hS hFc U hU hW⟩⟩ rfl rfl hl.1 rfl (lv_room (Nat.le_of_ble_eq_true rfl)) dX9_pass_27 ⟨(Nat.le_of_ble_eq_true rfl), (Nat.le_of_ble_eq_true rfl)⟩) hS (fun q _ h => hFc q h) hFc (fun u t H1 locs ht hvm hw hB hz1 hk1 hS => ?_)
  obtain ⟨hP1, hD1⟩ := hB
  rw [ht] at hP1
  obtain ⟨hP, hD⟩ := va_join (wr := [(h0, .inr (10, [.ref b0, .int 0, .ref p0, .ref u0, .ref r0, .ref a0, .ref t0, .ref s0, .ref o0])), (s0, .inr (5, [.ref s1, .int 0, .int 0])), (s1, .inl (cA 5, 10, .inr (.inr (.inr (.inr FR))))), (m0, .inr (4, [x0, .ref m1, .ref m3, .ref m4, .ref m5, .ref m6, x6, x7, x8, x9, x10, x11, x12, x13, x14, x15, x16, x17, x18, x19])), (m1, .inr (6, [.ref m2, .int n2, .int k2])), (m2, .inl (cA 0, 240, .inl q2)), (m3, .inl (cA 0, 10, .inl q3)), (m4, .inl (cA 0, 10, .inl q4)), (m5, .inl (cA 0, 10, .inl q5)), (m6, .inl (cA 0, 10, .inl q6)), (a0, .inr (4, [.ref p0, .ref a1, .ref a3, .ref a4, .ref a5, .ref a6, .int 0, .int 0, .int 0, .long 0, .long 0, .long 0, .int 0, .int 0, .int 0, .int 0, .int 365, .int 0, .int 0, .int 0])), (a1, .inr (6, [.ref a2, .int 0, .int 0])), (a2, .inl (cA 0, 240, .inl e2)), (a3, .inl (cA 0, 10, .inl e3)), (a4, .inl (cA 0, 10, .inl e4)), (a5, .inl (cA 0, 10, .inl e5)), (a6, .inl (cA 0, 10, .inl e6)), (p0, .inr (7, [.int 0, .int 365, .int 0, .int 0, .ref p1, .int 0, .ref p2, .ref p3, .ref p4, .ref p5, .int 0, .ref p6, .int 0, .ref p7, .ref p8, .ref p9, .int 0]))]) (w1 := []) hP hD [] [0, 1, 2, 3, 4, 5, 6, 7, 8, 9, 10, 11, 12, 13, 14, 15, 16, 17] rfl rfl (by decide) (by decide) hk1 hFc hP1 hD1
  generalize H1 = H at hP hS ⊢
  have hP : va_P D vwCl [(h0, .inr (10, [.ref b0, .int 0, .ref p0, .ref u0, .ref r0, .ref a0, .ref t0, .ref s0, .ref o0])), (s0, .inr (5, [.ref s1, .int 0, .int 0])), (s1, .inl (cA 5, 10, .inr (.inr (.inr (.inr FR))))), (m0, .inr (4, [x0, .ref m1, .ref m3, .ref m4, .ref m5, .ref m6, x6, x7, x8, x9, x10, x11, x12, x13, x14, x15, x16, x17, x18, x19])), (m1, .inr (6, [.ref m2, .int n2, .int k2])), (m2, .inl (cA 0, 240, .inl q2)), (m3, .inl (cA 0, 10, .inl q3)), (m4, .inl (cA 0, 10, .inl q4)), (m5, .inl (cA 0, 10, .inl q5)), (m6, .inl (cA 0, 10, .inl q6)), (a0, .inr (4, [.ref p0, .ref a1, .ref a3, .ref a4, .ref a5, .ref a6, .int 0, .int 0, .int 0, .long 0, .long 0, .long 0, .int 0, .int 0, .int 0, .int 0, .int 365, .int 0, .int 0, .int 0])), (a1, .inr (6, [.ref a2, .int 0, .int 0])), (a2, .inl (cA 0, 240, .inl e2)), (a3, .inl (cA 0, 10, .inl e3)), (a4, .inl (cA 0, 10, .inl e4)), (a5, .inl (cA 0, 10, .inl e5)), (a6, .inl (cA 0, 10, .inl e6)), (p0, .inr (7, [.int 0, .int 365, .int 0, .int 0, .ref p1, .int 0, .ref p2, .ref p3, .ref p4, .ref p5, .int 0, .ref p6, .int 0, .ref p7, .ref p8, .ref p9, .int 0]))] H := hP
  have hD : va_D A [(h0, .inr (10, [.ref b0, .int 0, .ref p0, .ref u0, .ref r0, .ref a0, .ref t0, .ref s0, .ref o0])), (s0, .inr (5, [.ref s1, .int 0, .int 0])), (s1, .inl (cA 5, 10, .inr (.inr (.inr (.inr FR))))), (m0, .inr (4, [x0, .ref m1, .ref m3, .ref m4, .ref m5, .ref m6, x6, x7, x8, x9, x10, x11, x12, x13, x14, x15, x16, x17, x18, x19])), (m1, .inr (6, [.ref m2, .int n2, .int k2])), (m2, .inl (cA 0, 240, .inl q2)), (m3, .inl (cA 0, 10, .inl q3)), (m4, .inl (cA 0, 10, .inl q4)), (m5, .inl (cA 0, 10, .inl q5)), (m6, .inl (cA 0, 10, .inl q6)), (a0, .inr (4, [.ref p0, .ref a1, .ref a3, .ref a4, .ref a5, .ref a6, .int 0, .int 0, .int 0, .long 0, .long 0, .long 0, .int 0, .int 0, .int 0, .int 0, .int 365, .int 0, .int 0, .int 0])), (a1, .inr (6, [.ref a2, .int 0, .int 0])), (a2, .inl (cA 0, 240, .inl e2)), (a3, .inl (cA 0, 10, .inl e3)), (a4, .inl (cA 0, 10, .inl e4)), (a5, .inl (cA 0, 10, .inl e5)), (a6, .inl (cA 0, 10, .inl e6)), (p0, .inr (7, [.int 0, .int 365, .int 0, .int 0, .ref p1, .int 0, .ref p2, .ref p3, .ref p4, .ref p5, .int 0, .ref p6, .int 0, .ref p7, .ref p8, .ref p9, .int 0]))] := hD
  refine lv_aload_n hx hb dX9_pass_30 rfl (lv_at hl 0 rfl) ?_
  refine va_get (D := D) (ci := 10) (v := .ref s0) (C := RX9) (T := TX9) (N := 9) hx hb hts inX9 hown hK hP 0 rfl rfl 7 (by decide) (hts (.fieldLink RX9 45 "EscrowDesk" "history" "LEscrowDesk$History;") (by decide +kernel)) (fun _ h9 => h9) rfl dX9_pass_31 ?_
  refine lv_aload_n hx hb dX9_pass_34 rfl (lv_at hl 0 rfl) ?_
  refine va_get (D := D) (ci := 10) (v := .ref a0) (C := RX9) (T := TX9) (N := 9) hx hb hts inX9 hown hK hP 0 rfl rfl 5 (by decide) (hts (.fieldLink RX9 35 "EscrowDesk" "account" "LEscrowDesk$Account;") (by decide +kernel)) (fun _ h9 => h9) rfl dX9_pass_35 ?_
  have hPc := hP.sub (ws' := [(s0, .inr (5, [.ref s1, .int 0, .int 0])), (s1, .inl (cA 5, 10, .inr (.inr (.inr (.inr FR))))), (m0, .inr (4, [x0, .ref m1, .ref m3, .ref m4, .ref m5, .ref m6, x6, x7, x8, x9, x10, x11, x12, x13, x14, x15, x16, x17, x18, x19])), (m1, .inr (6, [.ref m2, .int n2, .int k2])), (m2, .inl (cA 0, 240, .inl q2)), (m3, .inl (cA 0, 10, .inl q3)), (m4, .inl (cA 0, 10, .inl q4)), (m5, .inl (cA 0, 10, .inl q5)), (m6, .inl (cA 0, 10, .inl q6)), (a0, .inr (4, [.ref p0, .ref a1, .ref a3, .ref a4, .ref a5, .ref a6, .int 0, .int 0, .int 0, .long 0, .long 0, .long 0, .int 0, .int 0, .int 0, .int 0, .int 365, .int 0, .int 0, .int 0])), (a1, .inr (6, [.ref a2, .int 0, .int 0])), (a2, .inl (cA 0, 240, .inl e2)), (a3, .inl (cA 0, 10, .inl e3)), (a4, .inl (cA 0, 10, .inl e4)), (a5, .inl (cA 0, 10, .inl e5)), (a6, .inl (cA 0, 10, .inl e6))]) [1, 2, 3, 4, 5, 6, 7, 8, 9, 10, 11, 12, 13, 14, 15, 16] rfl
  have hDc := hD.sub (ws' := [(s0, .inr (5, [.ref s1, .int 0, .int 0])), (s1, .inl (cA 5, 10, .inr (.inr (.inr (.inr FR))))), (m0, .inr (4, [x0, .ref m1, .ref m3, .ref m4, .ref m5, .ref m6, x6, x7, x8, x9, x10, x11, x12, x13, x14, x15, x16, x17, x18, x19])), (m1, .inr (6, [.ref m2, .int n2, .int k2])), (m2, .inl (cA 0, 240, .inl q2)), (m3, .inl (cA 0, 10, .inl q3)), (m4, .inl (cA 0, 10, .inl q4)), (m5, .inl (cA 0, 10, .inl q5)), (m6, .inl (cA 0, 10, .inl q6)), (a0, .inr (4, [.ref p0, .ref a1, .ref a3, .ref a4, .ref a5, .ref a6, .int 0, .int 0, .int 0, .long 0, .long 0, .long 0, .int 0, .int 0, .int 0, .int 0, .int 365, .int 0, .int 0, .int 0])), (a1, .inr (6, [.ref a2, .int 0, .int 0])), (a2, .inl (cA 0, 240, .inl e2)), (a3, .inl (cA 0, 10, .inl e3)), (a4, .inl (cA 0, 10, .inl e4)), (a5, .inl (cA 0, 10, .inl e5)), (a6, .inl (cA 0, 10, .inl e6))]) [1, 2, 3, 4, 5, 6, 7, 8, 9, 10, 11, 12, 13, 14, 15, 16] (by decide) rfl
  have hFc := va_free (wc := [(s0, .inr (5, [.ref s1, .int 0, .int 0])), (s1, .inl (cA 5, 10, .inr (.inr (.inr (.inr FR))))), (m0, .inr (4, [x0, .ref m1, .ref m3, .ref m4, .ref m5, .ref m6, x6, x7, x8, x9, x10, x11, x12, x13, x14, x15, x16, x17, x18, x19])), (m1, .inr (6, [.ref m2, .int n2, .int k2])), (m2, .inl (cA 0, 240, .inl q2)), (m3, .inl (cA 0, 10, .inl q3)), (m4, .inl (cA 0, 10, .inl q4)), (m5, .inl (cA 0, 10, .inl q5)), (m6, .inl (cA 0, 10, .inl q6)), (a0, .inr (4, [.ref p0, .ref a1, .ref a3, .ref a4, .ref a5, .ref a6, .int 0, .int 0, .int 0, .long 0, .long 0, .long 0, .int 0, .int 0, .int 0, .int 0, .int 365, .int 0, .int 0, .int 0])), (a1, .inr (6, [.ref a2, .int 0, .int 0])), (a2, .inl (cA 0, 240, .inl e2)), (a3, .inl (cA 0, 10, .inl e3)), (a4, .inl (cA 0, 10, .inl e4)), (a5, .inl (cA 0, 10, .inl e5)), (a6, .inl (cA 0, 10, .inl e6))]) hD hS hA [1, 2, 3, 4, 5, 6, 7, 8, 9, 10, 11, 12, 13, 14, 15, 16] rfl
  refine va_callv (va_runV (As := [.ref a0]) (rest := []) ⟨hx, hb, hml, hown, hts⟩ (c_remember l D cA sa s0 s1 m0 m1 m2 m3 m4 m5 m6 a0 a1 a2 a3 a4 a5 a6 p0 x0 x6 x7 x8 x9 x10 x11 x12 x13 x14 x15 x16 x17 x18 x19 n2 k2 q2 q3 q4 q5 q6 e2 e3 e4 e5 e6 FR H.size hF) (cwV 1 hts gX9_pass_X1_remember rfl rfl rfl (by decide +kernel) ⟨(Nat.le_of_ble_eq_true rfl), (Nat.le_of_ble_eq_true rfl)⟩) ⟨Wd.blind, va_recv hK hPc (ci := 5) (q0 := 0) rfl rfl, fun U hU hW => ⟨rfl, Wd.call hPc hDc hK hC hZ hS hFc U hU hW⟩⟩ rfl rfl hl.1 rfl (lv_room (Nat.le_of_ble_eq_true rfl)) dX9_pass_38 ⟨(Nat.le_of_ble_eq_true rfl), (Nat.le_of_ble_eq_true rfl)⟩) hS (fun q _ h => hFc q h) hFc (fun u t H1 locs ht hvm hw hB hz1 hk1 hS => ?_)
  obtain ⟨hP1, hD1⟩ := hB
  rw [ht] at hP1
  obtain ⟨hP, hD⟩ := va_join (wr := [(h0, .inr (10, [.ref b0, .int 0, .ref p0, .ref u0, .ref r0, .ref a0, .ref t0, .ref s0, .ref o0])), (p0, .inr (7, [.int 0, .int 365, .int 0, .int 0, .ref p1, .int 0, .ref p2, .ref p3, .ref p4, .ref p5, .int 0, .ref p6, .int 0, .ref p7, .ref p8, .ref p9, .int 0]))]) (w1 := [(a0, .inr (4, [.ref p0, .ref a1, .ref a3, .ref a4, .ref a5, .ref a6, .int 0, .int 0, .int 0, .long 0, .long 0, .long 0, .int 0, .int 0, .int 0, .int 0, .int 365, .int 0, .int 0, .int 0])), (a1, .inr (6, [.ref a2, .int 0, .int 0])), (a2, .inl (cA 0, 240, .inl e2)), (a3, .inl (cA 0, 10, .inl e3)), (a4, .inl (cA 0, 10, .inl e4)), (a5, .inl (cA 0, 10, .inl e5)), (a6, .inl (cA 0, 10, .inl e6))]) hP hD [1, 2, 3, 4, 5, 6, 7, 8, 9, 10, 11, 12, 13, 14, 15, 16] [0, 17] rfl rfl (by decide) (by decide) hk1 hFc hP1 hD1
  generalize H1 = H at hP hS ⊢
  have hP : va_P D vwCl [(h0, .inr (10, [.ref b0, .int 0, .ref p0, .ref u0, .ref r0, .ref a0, .ref t0, .ref s0, .ref o0])), (p0, .inr (7, [.int 0, .int 365, .int 0, .int 0, .ref p1, .int 0, .ref p2, .ref p3, .ref p4, .ref p5, .int 0, .ref p6, .int 0, .ref p7, .ref p8, .ref p9, .int 0])), (a0, .inr (4, [.ref p0, .ref a1, .ref a3, .ref a4, .ref a5, .ref a6, .int 0, .int 0, .int 0, .long 0, .long 0, .long 0, .int 0, .int 0, .int 0, .int 0, .int 365, .int 0, .int 0, .int 0])), (a1, .inr (6, [.ref a2, .int 0, .int 0])), (a2, .inl (cA 0, 240, .inl e2)), (a3, .inl (cA 0, 10, .inl e3)), (a4, .inl (cA 0, 10, .inl e4)), (a5, .inl (cA 0, 10, .inl e5)), (a6, .inl (cA 0, 10, .inl e6))] H := hP
  have hD : va_D A [(h0, .inr (10, [.ref b0, .int 0, .ref p0, .ref u0, .ref r0, .ref a0, .ref t0, .ref s0, .ref o0])), (p0, .inr (7, [.int 0, .int 365, .int 0, .int 0, .ref p1, .int 0, .ref p2, .ref p3, .ref p4, .ref p5, .int 0, .ref p6, .int 0, .ref p7, .ref p8, .ref p9, .int 0])), (a0, .inr (4, [.ref p0, .ref a1, .ref a3, .ref a4, .ref a5, .ref a6, .int 0, .int 0, .int 0, .long 0, .long 0, .long 0, .int 0, .int 0, .int 0, .int 0, .int 365, .int 0, .int 0, .int 0])), (a1, .inr (6, [.ref a2, .int 0, .int 0])), (a2, .inl (cA 0, 240, .inl e2)), (a3, .inl (cA 0, 10, .inl e3)), (a4, .inl (cA 0, 10, .inl e4)), (a5, .inl (cA 0, 10, .inl e5)), (a6, .inl (cA 0, 10, .inl e6))] := hD
  refine lv_aload_n hx hb dX9_pass_41 rfl (lv_at hl 0 rfl) ?_
  refine va_get (D := D) (ci := 10) (v := .ref a0) (C := RX9) (T := TX9) (N := 9) hx hb hts inX9 hown hK hP 0 rfl rfl 5 (by decide) (hts (.fieldLink RX9 35 "EscrowDesk" "account" "LEscrowDesk$Account;") (by decide +kernel)) (fun _ h9 => h9) rfl dX9_pass_42 ?_
  have hPc := hP.sub (ws' := [(a0, .inr (4, [.ref p0, .ref a1, .ref a3, .ref a4, .ref a5, .ref a6, .int 0, .int 0, .int 0, .long 0, .long 0, .long 0, .int 0, .int 0, .int 0, .int 0, .int 365, .int 0, .int 0, .int 0]))]) [2] rfl
  have hDc := hD.sub (ws' := [(a0, .inr (4, [.ref p0, .ref a1, .ref a3, .ref a4, .ref a5, .ref a6, .int 0, .int 0, .int 0, .long 0, .long 0, .long 0, .int 0, .int 0, .int 0, .int 0, .int 365, .int 0, .int 0, .int 0]))]) [2] (by decide) rfl
  have hFc := va_free (wc := [(a0, .inr (4, [.ref p0, .ref a1, .ref a3, .ref a4, .ref a5, .ref a6, .int 0, .int 0, .int 0, .long 0, .long 0, .long 0, .int 0, .int 0, .int 0, .int 0, .int 365, .int 0, .int 0, .int 0]))]) hD hS hA [2] rfl
  refine va_calli (va_runV (As := []) (rest := []) ⟨hx, hb, hml, hown, hts⟩ (c_payments l D cA sa a0 p0 a1 a3 a4 a5 a6 0 H.size) (cwV 0 hts gX9_pass_X0_payments rfl rfl rfl (by decide +kernel) ⟨(Nat.le_of_ble_eq_true rfl), (Nat.le_of_ble_eq_true rfl)⟩) ⟨Wd.blind, va_recv hK hPc (ci := 4) (q0 := 0) rfl rfl, fun U hU hW => ⟨rfl, Wd.call hPc hDc hK hC hZ hS hFc U hU hW⟩⟩ rfl rfl hl.1 rfl (lv_room (Nat.le_of_ble_eq_true rfl)) dX9_pass_45 ⟨(Nat.le_of_ble_eq_true rfl), (Nat.le_of_ble_eq_true rfl)⟩) hS (fun q _ h => hFc q h) hFc (fun rn3 u t H1 locs ht hvm hw hB hz1 hk1 hS => ?_)
  obtain ⟨hP1, hD1⟩ := hB
  rw [ht] at hP1
  obtain ⟨hP, hD⟩ := va_join (wr := [(h0, .inr (10, [.ref b0, .int 0, .ref p0, .ref u0, .ref r0, .ref a0, .ref t0, .ref s0, .ref o0])), (p0, .inr (7, [.int 0, .int 365, .int 0, .int 0, .ref p1, .int 0, .ref p2, .ref p3, .ref p4, .ref p5, .int 0, .ref p6, .int 0, .ref p7, .ref p8, .ref p9, .int 0])), (a1, .inr (6, [.ref a2, .int 0, .int 0])), (a2, .inl (cA 0, 240, .inl e2)), (a3, .inl (cA 0, 10, .inl e3)), (a4, .inl (cA 0, 10, .inl e4)), (a5, .inl (cA 0, 10, .inl e5)), (a6, .inl (cA 0, 10, .inl e6))]) (w1 := [(a0, .inr (4, [.ref p0, .ref a1, .ref a3, .ref a4, .ref a5, .ref a6, .int 0, .int 0, .int 0, .long 0, .long 0, .long 0, .int 0, .int 0, .int 0, .int 0, .int 365, .int 0, .int 0, .int 0]))]) hP hD [2] [0, 1, 3, 4, 5, 6, 7, 8] rfl rfl (by decide) (by decide) hk1 hFc hP1 hD1
  generalize H1 = H at hP hS ⊢
  have hP : va_P D vwCl [(h0, .inr (10, [.ref b0, .int 0, .ref p0, .ref u0, .ref r0, .ref a0, .ref t0, .ref s0, .ref o0])), (p0, .inr (7, [.int 0, .int 365, .int 0, .int 0, .ref p1, .int 0, .ref p2, .ref p3, .ref p4, .ref p5, .int 0, .ref p6, .int 0, .ref p7, .ref p8, .ref p9, .int 0])), (a1, .inr (6, [.ref a2, .int 0, .int 0])), (a2, .inl (cA 0, 240, .inl e2)), (a3, .inl (cA 0, 10, .inl e3)), (a4, .inl (cA 0, 10, .inl e4)), (a5, .inl (cA 0, 10, .inl e5)), (a6, .inl (cA 0, 10, .inl e6)), (a0, .inr (4, [.ref p0, .ref a1, .ref a3, .ref a4, .ref a5, .ref a6, .int 0, .int 0, .int 0, .long 0, .long 0, .long 0, .int 0, .int 0, .int 0, .int 0, .int 365, .int 0, .int 0, .int 0]))] H := hP
  have hD : va_D A [(h0, .inr (10, [.ref b0, .int 0, .ref p0, .ref u0, .ref r0, .ref a0, .ref t0, .ref s0, .ref o0])), (p0, .inr (7, [.int 0, .int 365, .int 0, .int 0, .ref p1, .int 0, .ref p2, .ref p3, .ref p4, .ref p5, .int 0, .ref p6, .int 0, .ref p7, .ref p8, .ref p9, .int 0])), (a1, .inr (6, [.ref a2, .int 0, .int 0])), (a2, .inl (cA 0, 240, .inl e2)), (a3, .inl (cA 0, 10, .inl e3)), (a4, .inl (cA 0, 10, .inl e4)), (a5, .inl (cA 0, 10, .inl e5)), (a6, .inl (cA 0, 10, .inl e6)), (a0, .inr (4, [.ref p0, .ref a1, .ref a3, .ref a4, .ref a5, .ref a6, .int 0, .int 0, .int 0, .long 0, .long 0, .long 0, .int 0, .int 0, .int 0, .int 0, .int 365, .int 0, .int 0, .int 0]))] := hD
  obtain rfl : rn3 = 0 := hw
  refine lv_istore_n (lv' := [(2, .int 0), (0, .ref h0), (1, .int (nI N))]) hx hb dX9_pass_48 rfl hl (by decide) rfl (fun ls hl => ?_)
  refine lv_aload_n hx hb dX9_pass_49 rfl (lv_at hl 1 rfl) ?_
  refine va_get (D := D) (ci := 10) (v := .ref a0) (C := RX9) (T := TX9) (N := 9) hx hb hts inX9 hown hK hP 0 rfl rfl 5 (by decide) (hts (.fieldLink RX9 35 "EscrowDesk" "account" "LEscrowDesk$Account;") (by decide +kernel)) (fun _ h9 => h9) rfl dX9_pass_50 ?_
  refine lv_iload_n hx hb dX9_pass_53 rfl (lv_at hl 2 rfl) ?_
  have hPc := hP.sub (ws' := [(a0, .inr (4, [.ref p0, .ref a1, .ref a3, .ref a4, .ref a5, .ref a6, .int 0, .int 0, .int 0, .long 0, .long 0, .long 0, .int 0, .int 0, .int 0, .int 0, .int 365, .int 0, .int 0, .int 0])), (p0, .inr (7, [.int 0, .int 365, .int 0, .int 0, .ref p1, .int 0, .ref p2, .ref p3, .ref p4, .ref p5, .int 0, .ref p6, .int 0, .ref p7, .ref p8, .ref p9, .int 0])), (a1, .inr (6, [.ref a2, .int 0, .int 0]))]) [8, 1, 2] rfl
  have hDc := hD.sub (ws' := [(a0, .inr (4, [.ref p0, .ref a1, .ref a3, .ref a4, .ref a5, .ref a6, .int 0, .int 0, .int 0, .long 0, .long 0, .long 0, .int 0, .int 0, .int 0, .int 0, .int 365, .int 0, .int 0, .int 0])), (p0, .inr (7, [.int 0, .int 365, .int 0, .int 0, .ref p1, .int 0, .ref p2, .ref p3, .ref p4, .ref p5, .int 0, .ref p6, .int 0, .ref p7, .ref p8, .ref p9, .int 0])), (a1, .inr (6, [.ref a2, .int 0, .int 0]))]) [8, 1, 2] (by decide) rfl
  have hFc := va_free (wc := [(a0, .inr (4, [.ref p0, .ref a1, .ref a3, .ref a4, .ref a5, .ref a6, .int 0, .int 0, .int 0, .long 0, .long 0, .long 0, .int 0, .int 0, .int 0, .int 0, .int 365, .int 0, .int 0, .int 0])), (p0, .inr (7, [.int 0, .int 365, .int 0, .int 0, .ref p1, .int 0, .ref p2, .ref p3, .ref p4, .ref p5, .int 0, .ref p6, .int 0, .ref p7, .ref p8, .ref p9, .int 0])), (a1, .inr (6, [.ref a2, .int 0, .int 0]))]) hD hS hA [8, 1, 2] rfl
  refine va_callv (va_runV (As := [.int (nI N)]) (rest := []) ⟨hx, hb, hml, hown, hts⟩ (c_liveDays l D cA sa a0 p0 a1 a3 a4 a5 a6 p1 p2 p3 p4 p5 p6 p7 p8 p9 a2 N 0 0 0 H.size hN) (cwV 1 hts gX9_pass_X0_liveDays rfl rfl rfl (by decide +kernel) ⟨(Nat.le_of_ble_eq_true rfl), (Nat.le_of_ble_eq_true rfl)⟩) ⟨Wd.blind, va_recv hK hPc (ci := 4) (q0 := 0) rfl rfl, fun U hU hW => ⟨rfl, Wd.call hPc hDc hK hC hZ hS hFc U hU hW⟩⟩ rfl rfl hl.1 rfl (lv_room (Nat.le_of_ble_eq_true rfl)) dX9_pass_54 ⟨(Nat.le_of_ble_eq_true rfl), (Nat.le_of_ble_eq_true rfl)⟩) hS (fun q _ h => hFc q h) hFc (fun u t H1 locs ht hvm hw hB hz1 hk1 hS => ?_)
  obtain ⟨zn4, hP1, hD1⟩ := hB
  rw [ht] at hP1
  obtain ⟨hP, hD⟩ := va_join (wr := [(h0, .inr (10, [.ref b0, .int 0, .ref p0, .ref u0, .ref r0, .ref a0, .ref t0, .ref s0, .ref o0])), (a2, .inl (cA 0, 240, .inl e2)), (a3, .inl (cA 0, 10, .inl e3)), (a4, .inl (cA 0, 10, .inl e4)), (a5, .inl (cA 0, 10, .inl e5)), (a6, .inl (cA 0, 10, .inl e6))]) (w1 := [(a0, .inr (4, [.ref p0, .ref a1, .ref a3, .ref a4, .ref a5, .ref a6, .int zn4, .int 0, .int 0, .long 0, .long 0, .long 0, .int 0, .int 0, .int 0, .int 0, .int 365, .int 0, .int 0, .int 0])), (p0, .inr (7, [.int 0, .int 365, .int 0, .int 0, .ref p1, .int 0, .ref p2, .ref p3, .ref p4, .ref p5, .int 0, .ref p6, .int 0, .ref p7, .ref p8, .ref p9, .int 0])), (a1, .inr (6, [.ref a2, .int 0, .int 0]))]) hP hD [8, 1, 2] [0, 3, 4, 5, 6, 7] rfl rfl (by decide) (by decide) hk1 hFc hP1 hD1
  generalize H1 = H at hP hS ⊢
  have hP : va_P D vwCl [(h0, .inr (10, [.ref b0, .int 0, .ref p0, .ref u0, .ref r0, .ref a0, .ref t0, .ref s0, .ref o0])), (a2, .inl (cA 0, 240, .inl e2)), (a3, .inl (cA 0, 10, .inl e3)), (a4, .inl (cA 0, 10, .inl e4)), (a5, .inl (cA 0, 10, .inl e5)), (a6, .inl (cA 0, 10, .inl e6)), (a0, .inr (4, [.ref p0, .ref a1, .ref a3, .ref a4, .ref a5, .ref a6, .int zn4, .int 0, .int 0, .long 0, .long 0, .long 0, .int 0, .int 0, .int 0, .int 0, .int 365, .int 0, .int 0, .int 0])), (p0, .inr (7, [.int 0, .int 365, .int 0, .int 0, .ref p1, .int 0, .ref p2, .ref p3, .ref p4, .ref p5, .int 0, .ref p6, .int 0, .ref p7, .ref p8, .ref p9, .int 0])), (a1, .inr (6, [.ref a2, .int 0, .int 0]))] H := hP
  have hD : va_D A [(h0, .inr (10, [.ref b0, .int 0, .ref p0, .ref u0, .ref r0, .ref a0, .ref t0, .ref s0, .ref o0])), (a2, .inl (cA 0, 240, .inl e2)), (a3, .inl (cA 0, 10, .inl e3)), (a4, .inl (cA 0, 10, .inl e4)), (a5, .inl (cA 0, 10, .inl e5)), (a6, .inl (cA 0, 10, .inl e6)), (a0, .inr (4, [.ref p0, .ref a1, .ref a3, .ref a4, .ref a5, .ref a6, .int zn4, .int 0, .int 0, .long 0, .long 0, .long 0, .int 0, .int 0, .int 0, .int 0, .int 365, .int 0, .int 0, .int 0])), (p0, .inr (7, [.int 0, .int 365, .int 0, .int 0, .ref p1, .int 0, .ref p2, .ref p3, .ref p4, .ref p5, .int 0, .ref p6, .int 0, .ref p7, .ref p8, .ref p9, .int 0])), (a1, .inr (6, [.ref a2, .int 0, .int 0]))] := hD
  refine lv_aload_n hx hb dX9_pass_57 rfl (lv_at hl 1 rfl) ?_
  refine va_get (D := D) (ci := 10) (v := .ref a0) (C := RX9) (T := TX9) (N := 9) hx hb hts inX9 hown hK hP 0 rfl rfl 5 (by decide) (hts (.fieldLink RX9 35 "EscrowDesk" "account" "LEscrowDesk$Account;") (by decide +kernel)) (fun _ h9 => h9) rfl dX9_pass_58 ?_
  have hPc := hP.sub (ws' := [(a0, .inr (4, [.ref p0, .ref a1, .ref a3, .ref a4, .ref a5, .ref a6, .int zn4, .int 0, .int 0, .long 0, .long 0, .long 0, .int 0, .int 0, .int 0, .int 0, .int 365, .int 0, .int 0, .int 0]))]) [6] rfl
  have hDc := hD.sub (ws' := [(a0, .inr (4, [.ref p0, .ref a1, .ref a3, .ref a4, .ref a5, .ref a6, .int zn4, .int 0, .int 0, .long 0, .long 0, .long 0, .int 0, .int 0, .int 0, .int 0, .int 365, .int 0, .int 0, .int 0]))]) [6] (by decide) rfl
  have hFc := va_free (wc := [(a0, .inr (4, [.ref p0, .ref a1, .ref a3, .ref a4, .ref a5, .ref a6, .int zn4, .int 0, .int 0, .long 0, .long 0, .long 0, .int 0, .int 0, .int 0, .int 0, .int 365, .int 0, .int 0, .int 0]))]) hD hS hA [6] rfl
  refine va_calli (va_runV (As := []) (rest := []) ⟨hx, hb, hml, hown, hts⟩ (c_payments l D cA sa a0 p0 a1 a3 a4 a5 a6 zn4 H.size) (cwV 0 hts gX9_pass_X0_payments rfl rfl rfl (by decide +kernel) ⟨(Nat.le_of_ble_eq_true rfl), (Nat.le_of_ble_eq_true rfl)⟩) ⟨Wd.blind, va_recv hK hPc (ci := 4) (q0 := 0) rfl rfl, fun U hU hW => ⟨rfl, Wd.call hPc hDc hK hC hZ hS hFc U hU hW⟩⟩ rfl rfl hl.1 rfl (lv_room (Nat.le_of_ble_eq_true rfl)) dX9_pass_61 ⟨(Nat.le_of_ble_eq_true rfl), (Nat.le_of_ble_eq_true rfl)⟩) hS (fun q _ h => hFc q h) hFc (fun rn5 u t H1 locs ht hvm hw hB hz1 hk1 hS => ?_)
  obtain ⟨hP1, hD1⟩ := hB
  rw [ht] at hP1
  obtain ⟨hP, hD⟩ := va_join (wr := [(h0, .inr (10, [.ref b0, .int 0, .ref p0, .ref u0, .ref r0, .ref a0, .ref t0, .ref s0, .ref o0])), (a2, .inl (cA 0, 240, .inl e2)), (a3, .inl (cA 0, 10, .inl e3)), (a4, .inl (cA 0, 10, .inl e4)), (a5, .inl (cA 0, 10, .inl e5)), (a6, .inl (cA 0, 10, .inl e6)), (p0, .inr (7, [.int 0, .int 365, .int 0, .int 0, .ref p1, .int 0, .ref p2, .ref p3, .ref p4, .ref p5, .int 0, .ref p6, .int 0, .ref p7, .ref p8, .ref p9, .int 0])), (a1, .inr (6, [.ref a2, .int 0, .int 0]))]) (w1 := [(a0, .inr (4, [.ref p0, .ref a1, .ref a3, .ref a4, .ref a5, .ref a6, .int zn4, .int 0, .int 0, .long 0, .long 0, .long 0, .int 0, .int 0, .int 0, .int 0, .int 365, .int 0, .int 0, .int 0]))]) hP hD [6] [0, 1, 2, 3, 4, 5, 7, 8] rfl rfl (by decide) (by decide) hk1 hFc hP1 hD1
  generalize H1 = H at hP hS ⊢
  have hP : va_P D vwCl [(h0, .inr (10, [.ref b0, .int 0, .ref p0, .ref u0, .ref r0, .ref a0, .ref t0, .ref s0, .ref o0])), (a2, .inl (cA 0, 240, .inl e2)), (a3, .inl (cA 0, 10, .inl e3)), (a4, .inl (cA 0, 10, .inl e4)), (a5, .inl (cA 0, 10, .inl e5)), (a6, .inl (cA 0, 10, .inl e6)), (p0, .inr (7, [.int 0, .int 365, .int 0, .int 0, .ref p1, .int 0, .ref p2, .ref p3, .ref p4, .ref p5, .int 0, .ref p6, .int 0, .ref p7, .ref p8, .ref p9, .int 0])), (a1, .inr (6, [.ref a2, .int 0, .int 0])), (a0, .inr (4, [.ref p0, .ref a1, .ref a3, .ref a4, .ref a5, .ref a6, .int zn4, .int 0, .int 0, .long 0, .long 0, .long 0, .int 0, .int 0, .int 0, .int 0, .int 365, .int 0, .int 0, .int 0]))] H := hP
  have hD : va_D A [(h0, .inr (10, [.ref b0, .int 0, .ref p0, .ref u0, .ref r0, .ref a0, .ref t0, .ref s0, .ref o0])), (a2, .inl (cA 0, 240, .inl e2)), (a3, .inl (cA 0, 10, .inl e3)), (a4, .inl (cA 0, 10, .inl e4)), (a5, .inl (cA 0, 10, .inl e5)), (a6, .inl (cA 0, 10, .inl e6)), (p0, .inr (7, [.int 0, .int 365, .int 0, .int 0, .ref p1, .int 0, .ref p2, .ref p3, .ref p4, .ref p5, .int 0, .ref p6, .int 0, .ref p7, .ref p8, .ref p9, .int 0])), (a1, .inr (6, [.ref a2, .int 0, .int 0])), (a0, .inr (4, [.ref p0, .ref a1, .ref a3, .ref a4, .ref a5, .ref a6, .int zn4, .int 0, .int 0, .long 0, .long 0, .long 0, .int 0, .int 0, .int 0, .int 0, .int 365, .int 0, .int 0, .int 0]))] := hD
  obtain rfl : rn5 = 0 := hw
  refine lv_iload_n hx hb dX9_pass_64 rfl (lv_at hl 0 rfl) ?_
  refine lv_isub hx hb dX9_pass_65 ?_
  refine lv_topi (fun yn6 eyn6 => ?_)
  obtain rfl : yn6 = 0 := eyn6.trans (by first | rfl | decide +kernel)
  have hP9 := hP.sub (ws' := []) [] rfl
  have hD9 := hD.sub (ws' := []) [] (by decide) rfl
  refine W.widen (k := 0) (n := 0) (Nat.le_of_ble_eq_true rfl) (Nat.le_of_ble_eq_true rfl) ?_
  exact W.iret (v := 0) hx hb hr (fun t ht hW => ⟨⟨0, (), rfl, rfl, by rw [ht]; exact hP9, hD9⟩, hS.F ht⟩) hS.2.2 dX9_pass_66

set_option maxHeartbeats 4000000 in
set_option maxRecDepth 100000 in
/-- pass outside -/
theorem c_pass_thr (l : Launch) (D : va_G) (cA : Nat → ClassId) (sa : Nat → Nat) (h0 b0 p0 u0 r0 a0 t0 s0 o0 : Nat) (a : Int32) (sz : Nat) (hl9 : l.stackTraces = false) (h : a < 1 ∨ 120 < a) : vx_Met l yX9_pass wsX9_pass ({ frames := 7, cells := 1, slots := 6, locals := 112 }) (va_Pc [.ref h0, .int a] (Wd D cA sa [(h0, .inr (10, [.ref b0, .int 0, .ref p0, .ref u0, .ref r0, .ref a0, .ref t0, .ref s0, .ref o0]))] sz)) (va_Qi (fun (_ : Int32) (_ : Unit) => False) (fun (_ : Unit) _ => True) (va_A [(h0, .inr (10, [.ref b0, .int 0, .ref p0, .ref u0, .ref r0, .ref a0, .ref t0, .ref s0, .ref o0]))] sz)) (vx_X (fun _ : Unit => True) (fun E _ _ => E = "java/lang/IllegalArgumentException") (va_A [(h0, .inr (10, [.ref b0, .int 0, .ref p0, .ref u0, .ref r0, .ref a0, .ref t0, .ref s0, .ref o0]))] sz)) 1 6 (va_A [(h0, .inr (10, [.ref b0, .int 0, .ref p0, .ref u0, .ref r0, .ref a0, .ref t0, .ref s0, .ref o0]))] sz) := by
  refine vx_ofW (cc := cX9_pass) (maxL := 3) (ret := (some .int)) (by decide) rfl ?_
  intro p e s m args below meth c s₁ B hml hno hv
  obtain ⟨rfl, hsz, hP, hK, hD0, hC, hZ⟩ := hv
  have hx := B.exec
  have hb := B.bytes
  have hr := B.returns
  have hts := atoms_spec (ws := wsX9_pass) B.pre
  have hown : s.vm.findClass RX9 = some m.cls := findClass_of_methodNamed B.named
  have hlocks := B.notSynchronized
  subst hsz
  have hD := hD0.self (sz := s.heap.size)
  generalize hAe : va_A [(h0, .inr (10, [.ref b0, .int 0, .ref p0, .ref u0, .ref r0, .ref a0, .ref t0, .ref s0, .ref o0]))] s.heap.size = A at hD hZ ⊢
  have hA : ∀ q : Nat, s.heap.size ≤ q → A q := fun q h => by rw [← hAe]; exact Or.inr h
  have hS : va_S A s.heap s.heap [] := va_S.rf
  have hP : va_P D vwCl [(h0, .inr (10, [.ref b0, .int 0, .ref p0, .ref u0, .ref r0, .ref a0, .ref t0, .ref s0, .ref o0]))] s.heap := hP
  have hl := lv_entry ([.ref h0, .int a]) (n := 3) (Nat.le_of_ble_eq_true rfl)
  rw [lg_entry_eq]
  generalize (lg_sl ([.ref h0, .int a]) ++ List.replicate (3 - (lg_sl ([.ref h0, .int a])).length) Slot.unset).toArray = ls at hl ⊢
  have hl : lv_has ls 3 [(0, .ref h0), (1, .int a)] := hl
  refine lv_iload_n hx hb dX9_pass_0 rfl (lv_at hl 1 rfl) ?_
  refine lv_iconst (v := 1) hx hb dX9_pass_1 (by decide) ?_
  refine lv_bipush (v := 120) hx hb dX9_pass_2 (by decide) ?_
  have hPc := hP.sub (ws' := []) [] rfl
  have hDc := hD.sub (ws' := []) [] (by decide) rfl
  have hFc := va_free (wc := []) hD hS hA [] rfl
  refine vx_callv (vx_runS (As := [.int a, .int 1, .int 120]) (rest := []) ⟨hx, hb, hml, hown, hts⟩ (c_needRange_thr l D cA sa a 1 120 s.heap.size hl9 h) (va_cwS 3 hts gX9_pass_X9_needRange rfl rfl rfl (by decide +kernel) ⟨(Nat.le_of_ble_eq_true rfl), (Nat.le_of_ble_eq_true rfl)⟩) ⟨Wd.blind, fun U hU hW => ⟨rfl, Wd.call hPc hDc hK hC hZ hS hFc U hU hW⟩⟩ rfl rfl hl.1 rfl (lv_room (Nat.le_of_ble_eq_true rfl)) dX9_pass_4 ⟨(Nat.le_of_ble_eq_true rfl), (Nat.le_of_ble_eq_true rfl)⟩) hS (fun q _ h => hFc q h) hFc (fun q _ h => hFc q h) (fun E ce q9 u t H1 locs ht hvm hpx hE hz1 hk1 hS hcell hv9 hcl => ?_) (fun u t H1 locs ht hvm hw hB hz1 hk1 hS => hw.elim)
  exact vx_out (fun x h => (hno x h).elim) hlocks hcell hv9 hcl (fun t ht hvm => ⟨(), trivial, hE, hS.F ht⟩) hS.2.2 (Nat.le_of_ble_eq_true rfl) (Nat.le_of_ble_eq_true rfl)

set_option maxHeartbeats 4000000 in
set_option maxRecDepth 100000 in
/-- paymentsAfter outside -/
theorem c_paymentsAfter_thr (l : Launch) (D : va_G) (cA : Nat → ClassId) (sa : Nat → Nat) (h0 b0 p0 u0 r0 a0 t0 s0 o0 : Nat) (a : Int32) (sz : Nat) (hl9 : l.stackTraces = false) (h : a < 1 ∨ 120 < a) : vx_Met l yX9_paymentsAfter wsX9_paymentsAfter ({ frames := 7, cells := 1, slots := 6, locals := 112 }) (va_Pc [.ref h0, .int a] (Wd D cA sa [(h0, .inr (10, [.ref b0, .int 0, .ref p0, .ref u0, .ref r0, .ref a0, .ref t0, .ref s0, .ref o0]))] sz)) (va_Qi (fun (_ : Int32) (_ : Unit) => False) (fun (_ : Unit) _ => True) (va_A [(h0, .inr (10, [.ref b0, .int 0, .ref p0, .ref u0, .ref r0, .ref a0, .ref t0, .ref s0, .ref o0]))] sz)) (vx_X (fun _ : Unit => True) (fun E _ _ => E = "java/lang/IllegalArgumentException") (va_A [(h0, .inr (10, [.ref b0, .int 0, .ref p0, .ref u0, .ref r0, .ref a0, .ref t0, .ref s0, .ref o0]))] sz)) 1 6 (va_A [(h0, .inr (10, [.ref b0, .int 0, .ref p0, .ref u0, .ref r0, .ref a0, .ref t0, .ref s0, .ref o0]))] sz) := by
  refine vx_ofW (cc := cX9_paymentsAfter) (maxL := 2) (ret := (some .int)) (by decide) rfl ?_
  intro p e s m args below meth c s₁ B hml hno hv
  obtain ⟨rfl, hsz, hP, hK, hD0, hC, hZ⟩ := hv
  have hx := B.exec
  have hb := B.bytes
  have hr := B.returns
  have hts := atoms_spec (ws := wsX9_paymentsAfter) B.pre
  have hown : s.vm.findClass RX9 = some m.cls := findClass_of_methodNamed B.named
  have hlocks := B.notSynchronized
  subst hsz
  have hD := hD0.self (sz := s.heap.size)
  generalize hAe : va_A [(h0, .inr (10, [.ref b0, .int 0, .ref p0, .ref u0, .ref r0, .ref a0, .ref t0, .ref s0, .ref o0]))] s.heap.size = A at hD hZ ⊢
  have hA : ∀ q : Nat, s.heap.size ≤ q → A q := fun q h => by rw [← hAe]; exact Or.inr h
  have hS : va_S A s.heap s.heap [] := va_S.rf
  have hP : va_P D vwCl [(h0, .inr (10, [.ref b0, .int 0, .ref p0, .ref u0, .ref r0, .ref a0, .ref t0, .ref s0, .ref o0]))] s.heap := hP
  have hl := lv_entry ([.ref h0, .int a]) (n := 2) (Nat.le_of_ble_eq_true rfl)
  rw [lg_entry_eq]
  generalize (lg_sl ([.ref h0, .int a]) ++ List.replicate (2 - (lg_sl ([.ref h0, .int a])).length) Slot.unset).toArray = ls at hl ⊢
  have hl : lv_has ls 2 [(0, .ref h0), (1, .int a)] := hl
  refine lv_iload_n hx hb dX9_paymentsAfter_0 rfl (lv_at hl 1 rfl) ?_
  refine lv_iconst (v := 1) hx hb dX9_paymentsAfter_1 (by decide) ?_
  refine lv_bipush (v := 120) hx hb dX9_paymentsAfter_2 (by decide) ?_
  have hPc := hP.sub (ws' := []) [] rfl
  have hDc := hD.sub (ws' := []) [] (by decide) rfl
  have hFc := va_free (wc := []) hD hS hA [] rfl
  refine vx_callv (vx_runS (As := [.int a, .int 1, .int 120]) (rest := []) ⟨hx, hb, hml, hown, hts⟩ (c_needRange_thr l D cA sa a 1 120 s.heap.size hl9 h) (va_cwS 3 hts gX9_paymentsAfter_X9_needRange rfl rfl rfl (by decide +kernel) ⟨(Nat.le_of_ble_eq_true rfl), (Nat.le_of_ble_eq_true rfl)⟩) ⟨Wd.blind, fun U hU hW => ⟨rfl, Wd.call hPc hDc hK hC hZ hS hFc U hU hW⟩⟩ rfl rfl hl.1 rfl (lv_room (Nat.le_of_ble_eq_true rfl)) dX9_paymentsAfter_4 ⟨(Nat.le_of_ble_eq_true rfl), (Nat.le_of_ble_eq_true rfl)⟩) hS (fun q _ h => hFc q h) hFc (fun q _ h => hFc q h) (fun E ce q9 u t H1 locs ht hvm hpx hE hz1 hk1 hS hcell hv9 hcl => ?_) (fun u t H1 locs ht hvm hw hB hz1 hk1 hS => hw.elim)
  exact vx_out (fun x h => (hno x h).elim) hlocks hcell hv9 hcl (fun t ht hvm => ⟨(), trivial, hE, hS.F ht⟩) hS.2.2 (Nat.le_of_ble_eq_true rfl) (Nat.le_of_ble_eq_true rfl)

set_option maxHeartbeats 4000000 in
set_option maxRecDepth 100000 in
/-- creditedAfter outside -/
theorem c_creditedAfter_thr (l : Launch) (D : va_G) (cA : Nat → ClassId) (sa : Nat → Nat) (h0 b0 p0 u0 r0 a0 t0 s0 o0 : Nat) (a : Int32) (sz : Nat) (hl9 : l.stackTraces = false) (h : a < 1 ∨ 120 < a) : vx_Met l yX9_creditedAfter wsX9_creditedAfter ({ frames := 7, cells := 1, slots := 6, locals := 112 }) (va_Pc [.ref h0, .int a] (Wd D cA sa [(h0, .inr (10, [.ref b0, .int 0, .ref p0, .ref u0, .ref r0, .ref a0, .ref t0, .ref s0, .ref o0]))] sz)) (va_Qi (fun (_ : Int32) (_ : Unit) => False) (fun (_ : Unit) _ => True) (va_A [(h0, .inr (10, [.ref b0, .int 0, .ref p0, .ref u0, .ref r0, .ref a0, .ref t0, .ref s0, .ref o0]))] sz)) (vx_X (fun _ : Unit => True) (fun E _ _ => E = "java/lang/IllegalArgumentException") (va_A [(h0, .inr (10, [.ref b0, .int 0, .ref p0, .ref u0, .ref r0, .ref a0, .ref t0, .ref s0, .ref o0]))] sz)) 1 6 (va_A [(h0, .inr (10, [.ref b0, .int 0, .ref p0, .ref u0, .ref r0, .ref a0, .ref t0, .ref s0, .ref o0]))] sz) := by
  refine vx_ofW (cc := cX9_creditedAfter) (maxL := 2) (ret := (some .int)) (by decide) rfl ?_
  intro p e s m args below meth c s₁ B hml hno hv
  obtain ⟨rfl, hsz, hP, hK, hD0, hC, hZ⟩ := hv
  have hx := B.exec
  have hb := B.bytes
  have hr := B.returns
  have hts := atoms_spec (ws := wsX9_creditedAfter) B.pre
  have hown : s.vm.findClass RX9 = some m.cls := findClass_of_methodNamed B.named
  have hlocks := B.notSynchronized
  subst hsz
  have hD := hD0.self (sz := s.heap.size)
  generalize hAe : va_A [(h0, .inr (10, [.ref b0, .int 0, .ref p0, .ref u0, .ref r0, .ref a0, .ref t0, .ref s0, .ref o0]))] s.heap.size = A at hD hZ ⊢
  have hA : ∀ q : Nat, s.heap.size ≤ q → A q := fun q h => by rw [← hAe]; exact Or.inr h
  have hS : va_S A s.heap s.heap [] := va_S.rf
  have hP : va_P D vwCl [(h0, .inr (10, [.ref b0, .int 0, .ref p0, .ref u0, .ref r0, .ref a0, .ref t0, .ref s0, .ref o0]))] s.heap := hP
  have hl := lv_entry ([.ref h0, .int a]) (n := 2) (Nat.le_of_ble_eq_true rfl)
  rw [lg_entry_eq]
  generalize (lg_sl ([.ref h0, .int a]) ++ List.replicate (2 - (lg_sl ([.ref h0, .int a])).length) Slot.unset).toArray = ls at hl ⊢
  have hl : lv_has ls 2 [(0, .ref h0), (1, .int a)] := hl
  refine lv_iload_n hx hb dX9_creditedAfter_0 rfl (lv_at hl 1 rfl) ?_
  refine lv_iconst (v := 1) hx hb dX9_creditedAfter_1 (by decide) ?_
  refine lv_bipush (v := 120) hx hb dX9_creditedAfter_2 (by decide) ?_
  have hPc := hP.sub (ws' := []) [] rfl
  have hDc := hD.sub (ws' := []) [] (by decide) rfl
  have hFc := va_free (wc := []) hD hS hA [] rfl
  refine vx_callv (vx_runS (As := [.int a, .int 1, .int 120]) (rest := []) ⟨hx, hb, hml, hown, hts⟩ (c_needRange_thr l D cA sa a 1 120 s.heap.size hl9 h) (va_cwS 3 hts gX9_creditedAfter_X9_needRange rfl rfl rfl (by decide +kernel) ⟨(Nat.le_of_ble_eq_true rfl), (Nat.le_of_ble_eq_true rfl)⟩) ⟨Wd.blind, fun U hU hW => ⟨rfl, Wd.call hPc hDc hK hC hZ hS hFc U hU hW⟩⟩ rfl rfl hl.1 rfl (lv_room (Nat.le_of_ble_eq_true rfl)) dX9_creditedAfter_4 ⟨(Nat.le_of_ble_eq_true rfl), (Nat.le_of_ble_eq_true rfl)⟩) hS (fun q _ h => hFc q h) hFc (fun q _ h => hFc q h) (fun E ce q9 u t H1 locs ht hvm hpx hE hz1 hk1 hS hcell hv9 hcl => ?_) (fun u t H1 locs ht hvm hw hB hz1 hk1 hS => hw.elim)
  exact vx_out (fun x h => (hno x h).elim) hlocks hcell hv9 hcl (fun t ht hvm => ⟨(), trivial, hE, hS.F ht⟩) hS.2.2 (Nat.le_of_ble_eq_true rfl) (Nat.le_of_ble_eq_true rfl)

set_option maxHeartbeats 4000000 in
set_option maxRecDepth 100000 in
/-- shortDay outside -/
theorem c_shortDay_thr (l : Launch) (D : va_G) (cA : Nat → ClassId) (sa : Nat → Nat) (h0 b0 p0 u0 r0 a0 t0 s0 o0 : Nat) (a : Int32) (sz : Nat) (hl9 : l.stackTraces = false) (h : a < 1 ∨ 120 < a) : vx_Met l yX9_shortDay wsX9_shortDay ({ frames := 7, cells := 1, slots := 6, locals := 112 }) (va_Pc [.ref h0, .int a] (Wd D cA sa [(h0, .inr (10, [.ref b0, .int 0, .ref p0, .ref u0, .ref r0, .ref a0, .ref t0, .ref s0, .ref o0]))] sz)) (va_Qi (fun (_ : Int32) (_ : Unit) => False) (fun (_ : Unit) _ => True) (va_A [(h0, .inr (10, [.ref b0, .int 0, .ref p0, .ref u0, .ref r0, .ref a0, .ref t0, .ref s0, .ref o0]))] sz)) (vx_X (fun _ : Unit => True) (fun E _ _ => E = "java/lang/IllegalArgumentException") (va_A [(h0, .inr (10, [.ref b0, .int 0, .ref p0, .ref u0, .ref r0, .ref a0, .ref t0, .ref s0, .ref o0]))] sz)) 1 6 (va_A [(h0, .inr (10, [.ref b0, .int 0, .ref p0, .ref u0, .ref r0, .ref a0, .ref t0, .ref s0, .ref o0]))] sz) := by
  refine vx_ofW (cc := cX9_shortDay) (maxL := 3) (ret := (some .int)) (by decide) rfl ?_
  intro p e s m args below meth c s₁ B hml hno hv
  obtain ⟨rfl, hsz, hP, hK, hD0, hC, hZ⟩ := hv
  have hx := B.exec
  have hb := B.bytes
  have hr := B.returns
  have hts := atoms_spec (ws := wsX9_shortDay) B.pre
  have hown : s.vm.findClass RX9 = some m.cls := findClass_of_methodNamed B.named
  have hlocks := B.notSynchronized
  subst hsz
  have hD := hD0.self (sz := s.heap.size)
  generalize hAe : va_A [(h0, .inr (10, [.ref b0, .int 0, .ref p0, .ref u0, .ref r0, .ref a0, .ref t0, .ref s0, .ref o0]))] s.heap.size = A at hD hZ ⊢
  have hA : ∀ q : Nat, s.heap.size ≤ q → A q := fun q h => by rw [← hAe]; exact Or.inr h
  have hS : va_S A s.heap s.heap [] := va_S.rf
  have hP : va_P D vwCl [(h0, .inr (10, [.ref b0, .int 0, .ref p0, .ref u0, .ref r0, .ref a0, .ref t0, .ref s0, .ref o0]))] s.heap := hP
  have hl := lv_entry ([.ref h0, .int a]) (n := 3) (Nat.le_of_ble_eq_true rfl)
  rw [lg_entry_eq]
  generalize (lg_sl ([.ref h0, .int a]) ++ List.replicate (3 - (lg_sl ([.ref h0, .int a])).length) Slot.unset).toArray = ls at hl ⊢
  have hl : lv_has ls 3 [(0, .ref h0), (1, .int a)] := hl
  refine lv_iload_n hx hb dX9_shortDay_0 rfl (lv_at hl 1 rfl) ?_
  refine lv_iconst (v := 1) hx hb dX9_shortDay_1 (by decide) ?_
  refine lv_bipush (v := 120) hx hb dX9_shortDay_2 (by decide) ?_
  have hPc := hP.sub (ws' := []) [] rfl
  have hDc := hD.sub (ws' := []) [] (by decide) rfl
  have hFc := va_free (wc := []) hD hS hA [] rfl
  refine vx_callv (vx_runS (As := [.int a, .int 1, .int 120]) (rest := []) ⟨hx, hb, hml, hown, hts⟩ (c_needRange_thr l D cA sa a 1 120 s.heap.size hl9 h) (va_cwS 3 hts gX9_shortDay_X9_needRange rfl rfl rfl (by decide +kernel) ⟨(Nat.le_of_ble_eq_true rfl), (Nat.le_of_ble_eq_true rfl)⟩) ⟨Wd.blind, fun U hU hW => ⟨rfl, Wd.call hPc hDc hK hC hZ hS hFc U hU hW⟩⟩ rfl rfl hl.1 rfl (lv_room (Nat.le_of_ble_eq_true rfl)) dX9_shortDay_4 ⟨(Nat.le_of_ble_eq_true rfl), (Nat.le_of_ble_eq_true rfl)⟩) hS (fun q _ h => hFc q h) hFc (fun q _ h => hFc q h) (fun E ce q9 u t H1 locs ht hvm hpx hE hz1 hk1 hS hcell hv9 hcl => ?_) (fun u t H1 locs ht hvm hw hB hz1 hk1 hS => hw.elim)
  exact vx_out (fun x h => (hno x h).elim) hlocks hcell hv9 hcl (fun t ht hvm => ⟨(), trivial, hE, hS.F ht⟩) hS.2.2 (Nat.le_of_ble_eq_true rfl) (Nat.le_of_ble_eq_true rfl)

set_option maxHeartbeats 4000000 in
set_option maxRecDepth 100000 in
/-- tryDays -/
theorem c_tryDays (l : Launch) (D : va_G) (cA : Nat → ClassId) (sa : Nat → Nat) (h0 b0 p0 u0 r0 a0 t0 s0 o0 t1 t2 t3 t4 t5 t6 a1 a2 a3 a4 a5 a6 p1 p2 p3 p4 p5 p6 p7 p8 p9 : Nat) (x0 x6 x7 x8 x9 x10 x11 x12 x13 x14 x15 x16 x17 x18 x19 : Value) (n2 k2 : Int32) (q2 q3 q4 q5 q6 e2 e3 e4 e5 e6 : Nat → Int32) (N : Nat) (sz : Nat) (hN : N ≤ 120) : Met l yX9_tryDays wsX9_tryDays ({ frames := 4, cells := 0, slots := 0, locals := 102 }) (va_Pc [.ref h0, .int (nI N)] (Wd D cA sa [(h0, .inr (10, [.ref b0, .int 0, .ref p0, .ref u0, .ref r0, .ref a0, .ref t0, .ref s0, .ref o0])), (t0, .inr (4, [x0, .ref t1, .ref t3, .ref t4, .ref t5, .ref t6, x6, x7, x8, x9, x10, x11, x12, x13, x14, x15, x16, x17, x18, x19])), (t1, .inr (6, [.ref t2, .int n2, .int k2])), (t2, .inl (cA 0, 240, .inl q2)), (t3, .inl (cA 0, 10, .inl q3)), (t4, .inl (cA 0, 10, .inl q4)), (t5, .inl (cA 0, 10, .inl q5)), (t6, .inl (cA 0, 10, .inl q6)), (a0, .inr (4, [.ref p0, .ref a1, .ref a3, .ref a4, .ref a5, .ref a6, .int 0, .int 0, .int 0, .long 0, .long 0, .long 0, .int 0, .int 0, .int 0, .int 0, .int 365, .int 0, .int 0, .int 0])), (a1, .inr (6, [.ref a2, .int 0, .int 0])), (a2, .inl (cA 0, 240, .inl e2)), (a3, .inl (cA 0, 10, .inl e3)), (a4, .inl (cA 0, 10, .inl e4)), (a5, .inl (cA 0, 10, .inl e5)), (a6, .inl (cA 0, 10, .inl e6)), (p0, .inr (7, [.int 0, .int 365, .int 0, .int 0, .ref p1, .int 0, .ref p2, .ref p3, .ref p4, .ref p5, .int 0, .ref p6, .int 0, .ref p7, .ref p8, .ref p9, .int 0]))] sz)) (va_Qv (fun _ : Unit => True) (fun (_ : Unit) t => ∃ zn6 : Int32, Wq D (va_A [(h0, .inr (10, [.ref b0, .int 0, .ref p0, .ref u0, .ref r0, .ref a0, .ref t0, .ref s0, .ref o0])), (t0, .inr (4, [x0, .ref t1, .ref t3, .ref t4, .ref t5, .ref t6, x6, x7, x8, x9, x10, x11, x12, x13, x14, x15, x16, x17, x18, x19])), (t1, .inr (6, [.ref t2, .int n2, .int k2])), (t2, .inl (cA 0, 240, .inl q2)), (t3, .inl (cA 0, 10, .inl q3)), (t4, .inl (cA 0, 10, .inl q4)), (t5, .inl (cA 0, 10, .inl q5)), (t6, .inl (cA 0, 10, .inl q6)), (a0, .inr (4, [.ref p0, .ref a1, .ref a3, .ref a4, .ref a5, .ref a6, .int 0, .int 0, .int 0, .long 0, .long 0, .long 0, .int 0, .int 0, .int 0, .int 0, .int 365, .int 0, .int 0, .int 0])), (a1, .inr (6, [.ref a2, .int 0, .int 0])), (a2, .inl (cA 0, 240, .inl e2)), (a3, .inl (cA 0, 10, .inl e3)), (a4, .inl (cA 0, 10, .inl e4)), (a5, .inl (cA 0, 10, .inl e5)), (a6, .inl (cA 0, 10, .inl e6)), (p0, .inr (7, [.int 0, .int 365, .int 0, .int 0, .ref p1, .int 0, .ref p2, .ref p3, .ref p4, .ref p5, .int 0, .ref p6, .int 0, .ref p7, .ref p8, .ref p9, .int 0]))] sz) [(h0, .inr (10, [.ref b0, .int 0, .ref p0, .ref u0, .ref r0, .ref a0, .ref t0, .ref s0, .ref o0])), (t0, .inr (4, [.ref p0, .ref t1, .ref t3, .ref t4, .ref t5, .ref t6, .int zn6, .int 0, .int 0, .long 0, .long 0, .long 0, .int 0, .int 0, .int 0, .int 0, .int 365, .int 0, .int 0, .int 0]))] t) (va_A [(h0, .inr (10, [.ref b0, .int 0, .ref p0, .ref u0, .ref r0, .ref a0, .ref t0, .ref s0, .ref o0])), (t0, .inr (4, [x0, .ref t1, .ref t3, .ref t4, .ref t5, .ref t6, x6, x7, x8, x9, x10, x11, x12, x13, x14, x15, x16, x17, x18, x19])), (t1, .inr (6, [.ref t2, .int n2, .int k2])), (t2, .inl (cA 0, 240, .inl q2)), (t3, .inl (cA 0, 10, .inl q3)), (t4, .inl (cA 0, 10, .inl q4)), (t5, .inl (cA 0, 10, .inl q5)), (t6, .inl (cA 0, 10, .inl q6)), (a0, .inr (4, [.ref p0, .ref a1, .ref a3, .ref a4, .ref a5, .ref a6, .int 0, .int 0, .int 0, .long 0, .long 0, .long 0, .int 0, .int 0, .int 0, .int 0, .int 365, .int 0, .int 0, .int 0])), (a1, .inr (6, [.ref a2, .int 0, .int 0])), (a2, .inl (cA 0, 240, .inl e2)), (a3, .inl (cA 0, 10, .inl e3)), (a4, .inl (cA 0, 10, .inl e4)), (a5, .inl (cA 0, 10, .inl e5)), (a6, .inl (cA 0, 10, .inl e6)), (p0, .inr (7, [.int 0, .int 365, .int 0, .int 0, .ref p1, .int 0, .ref p2, .ref p3, .ref p4, .ref p5, .int 0, .ref p6, .int 0, .ref p7, .ref p8, .ref p9, .int 0]))] sz)) 0 0 (va_A [(h0, .inr (10, [.ref b0, .int 0, .ref p0, .ref u0, .ref r0, .ref a0, .ref t0, .ref s0, .ref o0])), (t0, .inr (4, [x0, .ref t1, .ref t3, .ref t4, .ref t5, .ref t6, x6, x7, x8, x9, x10, x11, x12, x13, x14, x15, x16, x17, x18, x19])), (t1, .inr (6, [.ref t2, .int n2, .int k2])), (t2, .inl (cA 0, 240, .inl q2)), (t3, .inl (cA 0, 10, .inl q3)), (t4, .inl (cA 0, 10, .inl q4)), (t5, .inl (cA 0, 10, .inl q5)), (t6, .inl (cA 0, 10, .inl q6)), (a0, .inr (4, [.ref p0, .ref a1, .ref a3, .ref a4, .ref a5, .ref a6, .int 0, .int 0, .int 0, .long 0, .long 0, .long 0, .int 0, .int 0, .int 0, .int 0, .int 365, .int 0, .int 0, .int 0])), (a1, .inr (6, [.ref a2, .int 0, .int 0])), (a2, .inl (cA 0, 240, .inl e2)), (a3, .inl (cA 0, 10, .inl e3)), (a4, .inl (cA 0, 10, .inl e4)), (a5, .inl (cA 0, 10, .inl e5)), (a6, .inl (cA 0, 10, .inl e6)), (p0, .inr (7, [.int 0, .int 365, .int 0, .int 0, .ref p1, .int 0, .ref p2, .ref p3, .ref p4, .ref p5, .int 0, .ref p6, .int 0, .ref p7, .ref p8, .ref p9, .int 0]))] sz) := by
  refine Met.ofW (cc := cX9_tryDays) (maxL := 2) (ret := none) (by decide) rfl ?_
  intro p e s m args below meth c s₁ B hml hv
  obtain ⟨rfl, hsz, hP, hK, hD0, hC, hZ⟩ := hv
  have hx := B.exec
  have hb := B.bytes
  have hr := B.returns
  have hts := atoms_spec (ws := wsX9_tryDays) B.pre
  have hown : s.vm.findClass RX9 = some m.cls := findClass_of_methodNamed B.named
  have hlocks := B.notSynchronized
  subst hsz
  have hD := hD0.self (sz := s.heap.size)
  generalize hAe : va_A [(h0, .inr (10, [.ref b0, .int 0, .ref p0, .ref u0, .ref r0, .ref a0, .ref t0, .ref s0, .ref o0])), (t0, .inr (4, [x0, .ref t1, .ref t3, .ref t4, .ref t5, .ref t6, x6, x7, x8, x9, x10, x11, x12, x13, x14, x15, x16, x17, x18, x19])), (t1, .inr (6, [.ref t2, .int n2, .int k2])), (t2, .inl (cA 0, 240, .inl q2)), (t3, .inl (cA 0, 10, .inl q3)), (t4, .inl (cA 0, 10, .inl q4)), (t5, .inl (cA 0, 10, .inl q5)), (t6, .inl (cA 0, 10, .inl q6)), (a0, .inr (4, [.ref p0, .ref a1, .ref a3, .ref a4, .ref a5, .ref a6, .int 0, .int 0, .int 0, .long 0, .long 0, .long 0, .int 0, .int 0, .int 0, .int 0, .int 365, .int 0, .int 0, .int 0])), (a1, .inr (6, [.ref a2, .int 0, .int 0])), (a2, .inl (cA 0, 240, .inl e2)), (a3, .inl (cA 0, 10, .inl e3)), (a4, .inl (cA 0, 10, .inl e4)), (a5, .inl (cA 0, 10, .inl e5)), (a6, .inl (cA 0, 10, .inl e6)), (p0, .inr (7, [.int 0, .int 365, .int 0, .int 0, .ref p1, .int 0, .ref p2, .ref p3, .ref p4, .ref p5, .int 0, .ref p6, .int 0, .ref p7, .ref p8, .ref p9, .int 0]))] s.heap.size = A at hD hZ ⊢
  have hA : ∀ q : Nat, s.heap.size ≤ q → A q := fun q h => by rw [← hAe]; exact Or.inr h
  have hS : va_S A s.heap s.heap [] := va_S.rf
  have hP : va_P D vwCl [(h0, .inr (10, [.ref b0, .int 0, .ref p0, .ref u0, .ref r0, .ref a0, .ref t0, .ref s0, .ref o0])), (t0, .inr (4, [x0, .ref t1, .ref t3, .ref t4, .ref t5, .ref t6, x6, x7, x8, x9, x10, x11, x12, x13, x14, x15, x16, x17, x18, x19])), (t1, .inr (6, [.ref t2, .int n2, .int k2])), (t2, .inl (cA 0, 240, .inl q2)), (t3, .inl (cA 0, 10, .inl q3)), (t4, .inl (cA 0, 10, .inl q4)), (t5, .inl (cA 0, 10, .inl q5)), (t6, .inl (cA 0, 10, .inl q6)), (a0, .inr (4, [.ref p0, .ref a1, .ref a3, .ref a4, .ref a5, .ref a6, .int 0, .int 0, .int 0, .long 0, .long 0, .long 0, .int 0, .int 0, .int 0, .int 0, .int 365, .int 0, .int 0, .int 0])), (a1, .inr (6, [.ref a2, .int 0, .int 0])), (a2, .inl (cA 0, 240, .inl e2)), (a3, .inl (cA 0, 10, .inl e3)), (a4, .inl (cA 0, 10, .inl e4)), (a5, .inl (cA 0, 10, .inl e5)), (a6, .inl (cA 0, 10, .inl e6)), (p0, .inr (7, [.int 0, .int 365, .int 0, .int 0, .ref p1, .int 0, .ref p2, .ref p3, .ref p4, .ref p5, .int 0, .ref p6, .int 0, .ref p7, .ref p8, .ref p9, .int 0]))] s.heap := hP
  have hl := lv_entry ([.ref h0, .int (nI N)]) (n := 2) (Nat.le_of_ble_eq_true rfl)
  rw [lg_entry_eq]
  generalize (lg_sl ([.ref h0, .int (nI N)]) ++ List.replicate (2 - (lg_sl ([.ref h0, .int (nI N)])).length) Slot.unset).toArray = ls at hl ⊢
  have hl : lv_has ls 2 [(0, .ref h0), (1, .int (nI N))] := hl
  have inX9 : ∀ w ∈ u_ws RX9 TX9 9, w ∈ wsX9_tryDays := by decide +kernel
  refine lv_aload_n hx hb dX9_tryDays_0 rfl (lv_at hl 0 rfl) ?_
  refine va_get (D := D) (ci := 10) (v := .ref t0) (C := RX9) (T := TX9) (N := 9) hx hb hts inX9 hown hK hP 0 rfl rfl 6 (by decide) (hts (.fieldLink RX9 39 "EscrowDesk" "trial" "LEscrowDesk$Account;") (by decide +kernel)) (fun _ h9 => h9) rfl dX9_tryDays_1 ?_
  refine lv_aload_n hx hb dX9_tryDays_4 rfl (lv_at hl 0 rfl) ?_
  refine va_get (D := D) (ci := 10) (v := .ref a0) (C := RX9) (T := TX9) (N := 9) hx hb hts inX9 hown hK hP 0 rfl rfl 5 (by decide) (hts (.fieldLink RX9 35 "EscrowDesk" "account" "LEscrowDesk$Account;") (by decide +kernel)) (fun _ h9 => h9) rfl dX9_tryDays_5 ?_
  have hPc := hP.sub (ws' := [(t0, .inr (4, [x0, .ref t1, .ref t3, .ref t4, .ref t5, .ref t6, x6, x7, x8, x9, x10, x11, x12, x13, x14, x15, x16, x17, x18, x19])), (t1, .inr (6, [.ref t2, .int n2, .int k2])), (t2, .inl (cA 0, 240, .inl q2)), (t3, .inl (cA 0, 10, .inl q3)), (t4, .inl (cA 0, 10, .inl q4)), (t5, .inl (cA 0, 10, .inl q5)), (t6, .inl (cA 0, 10, .inl q6)), (a0, .inr (4, [.ref p0, .ref a1, .ref a3, .ref a4, .ref a5, .ref a6, .int 0, .int 0, .int 0, .long 0, .long 0, .long 0, .int 0, .int 0, .int 0, .int 0, .int 365, .int 0, .int 0, .int 0])), (a1, .inr (6, [.ref a2, .int 0, .int 0])), (a2, .inl (cA 0, 240, .inl e2)), (a3, .inl (cA 0, 10, .inl e3)), (a4, .inl (cA 0, 10, .inl e4)), (a5, .inl (cA 0, 10, .inl e5)), (a6, .inl (cA 0, 10, .inl e6))]) [1, 2, 3, 4, 5, 6, 7, 8, 9, 10, 11, 12, 13, 14] rfl
  have hDc := hD.sub (ws' := [(t0, .inr (4, [x0, .ref t1, .ref t3, .ref t4, .ref t5, .ref t6, x6, x7, x8, x9, x10, x11, x12, x13, x14, x15, x16, x17, x18, x19])), (t1, .inr (6, [.ref t2, .int n2, .int k2])), (t2, .inl (cA 0, 240, .inl q2)), (t3, .inl (cA 0, 10, .inl q3)), (t4, .inl (cA 0, 10, .inl q4)), (t5, .inl (cA 0, 10, .inl q5)), (t6, .inl (cA 0, 10, .inl q6)), (a0, .inr (4, [.ref p0, .ref a1, .ref a3, .ref a4, .ref a5, .ref a6, .int 0, .int 0, .int 0, .long 0, .long 0, .long 0, .int 0, .int 0, .int 0, .int 0, .int 365, .int 0, .int 0, .int 0])), (a1, .inr (6, [.ref a2, .int 0, .int 0])), (a2, .inl (cA 0, 240, .inl e2)), (a3, .inl (cA 0, 10, .inl e3)), (a4, .inl (cA 0, 10, .inl e4)), (a5, .inl (cA 0, 10, .inl e5)), (a6, .inl (cA 0, 10, .inl e6))]) [1, 2, 3, 4, 5, 6, 7, 8, 9, 10, 11, 12, 13, 14] (by decide) rfl
  have hFc := va_free (wc := [(t0, .inr (4, [x0, .ref t1, .ref t3, .ref t4, .ref t5, .ref t6, x6, x7, x8, x9, x10, x11, x12, x13, x14, x15, x16, x17, x18, x19])), (t1, .inr (6, [.ref t2, .int n2, .int k2])), (t2, .inl (cA 0, 240, .inl q2)), (t3, .inl (cA 0, 10, .inl q3)), (t4, .inl (cA 0, 10, .inl q4)), (t5, .inl (cA 0, 10, .inl q5)), (t6, .inl (cA 0, 10, .inl q6)), (a0, .inr (4, [.ref p0, .ref a1, .ref a3, .ref a4, .ref a5, .ref a6, .int 0, .int 0, .int 0, .long 0, .long 0, .long 0, .int 0, .int 0, .int 0, .int 0, .int 365, .int 0, .int 0, .int 0])), (a1, .inr (6, [.ref a2, .int 0, .int 0])), (a2, .inl (cA 0, 240, .inl e2)), (a3, .inl (cA 0, 10, .inl e3)), (a4, .inl (cA 0, 10, .inl e4)), (a5, .inl (cA 0, 10, .inl e5)), (a6, .inl (cA 0, 10, .inl e6))]) hD hS hA [1, 2, 3, 4, 5, 6, 7, 8, 9, 10, 11, 12, 13, 14] rfl
  refine va_callv (va_runV (As := [.ref a0]) (rest := []) ⟨hx, hb, hml, hown, hts⟩ (c_X0_copyFrom l D cA sa t0 t1 t2 t3 t4 t5 t6 a0 a1 a2 a3 a4 a5 a6 p0 x0 x6 x7 x8 x9 x10 x11 x12 x13 x14 x15 x16 x17 x18 x19 n2 k2 0 0 0 0 0 0 0 0 0 365 0 0 0 0 0 0 q2 q3 q4 q5 q6 e2 e3 e4 e5 e6 s.heap.size) (cwV 1 hts gX9_tryDays_X0_copyFrom rfl rfl rfl (by decide +kernel) ⟨(Nat.le_of_ble_eq_true rfl), (Nat.le_of_ble_eq_true rfl)⟩) ⟨Wd.blind, va_recv hK hPc (ci := 4) (q0 := 0) rfl rfl, fun U hU hW => ⟨rfl, Wd.call hPc hDc hK hC hZ hS hFc U hU hW⟩⟩ rfl rfl hl.1 rfl (lv_room (Nat.le_of_ble_eq_true rfl)) dX9_tryDays_8 ⟨(Nat.le_of_ble_eq_true rfl), (Nat.le_of_ble_eq_true rfl)⟩) hS (fun q _ h => hFc q h) hFc (fun u t H1 locs ht hvm hw hB hz1 hk1 hS => ?_)
  obtain ⟨fn1, fn2, fn3, fn4, fn5, hP1, hD1⟩ := hB
  rw [ht] at hP1
  obtain ⟨hP, hD⟩ := va_join (wr := [(h0, .inr (10, [.ref b0, .int 0, .ref p0, .ref u0, .ref r0, .ref a0, .ref t0, .ref s0, .ref o0])), (p0, .inr (7, [.int 0, .int 365, .int 0, .int 0, .ref p1, .int 0, .ref p2, .ref p3, .ref p4, .ref p5, .int 0, .ref p6, .int 0, .ref p7, .ref p8, .ref p9, .int 0]))]) (w1 := [(t0, .inr (4, [.ref p0, .ref t1, .ref t3, .ref t4, .ref t5, .ref t6, .int 0, .int 0, .int 0, .long 0, .long 0, .long 0, .int 0, .int 0, .int 0, .int 0, .int 365, .int 0, .int 0, .int 0])), (t1, .inr (6, [.ref t2, .int 0, .int 0])), (t2, .inl (cA 0, 240, .inl fn1)), (t3, .inl (cA 0, 10, .inl fn2)), (t4, .inl (cA 0, 10, .inl fn3)), (t5, .inl (cA 0, 10, .inl fn4)), (t6, .inl (cA 0, 10, .inl fn5)), (a0, .inr (4, [.ref p0, .ref a1, .ref a3, .ref a4, .ref a5, .ref a6, .int 0, .int 0, .int 0, .long 0, .long 0, .long 0, .int 0, .int 0, .int 0, .int 0, .int 365, .int 0, .int 0, .int 0])), (a1, .inr (6, [.ref a2, .int 0, .int 0])), (a2, .inl (cA 0, 240, .inl e2)), (a3, .inl (cA 0, 10, .inl e3)), (a4, .inl (cA 0, 10, .inl e4)), (a5, .inl (cA 0, 10, .inl e5)), (a6, .inl (cA 0, 10, .inl e6))]) hP hD [1, 2, 3, 4, 5, 6, 7, 8, 9, 10, 11, 12, 13, 14] [0, 15] rfl rfl (by decide) (by decide) hk1 hFc hP1 hD1
  generalize H1 = H at hP hS ⊢
  have hP : va_P D vwCl [(h0, .inr (10, [.ref b0, .int 0, .ref p0, .ref u0, .ref r0, .ref a0, .ref t0, .ref s0, .ref o0])), (p0, .inr (7, [.int 0, .int 365, .int 0, .int 0, .ref p1, .int 0, .ref p2, .ref p3, .ref p4, .ref p5, .int 0, .ref p6, .int 0, .ref p7, .ref p8, .ref p9, .int 0])), (t0, .inr (4, [.ref p0, .ref t1, .ref t3, .ref t4, .ref t5, .ref t6, .int 0, .int 0, .int 0, .long 0, .long 0, .long 0, .int 0, .int 0, .int 0, .int 0, .int 365, .int 0, .int 0, .int 0])), (t1, .inr (6, [.ref t2, .int 0, .int 0])), (t2, .inl (cA 0, 240, .inl fn1)), (t3, .inl (cA 0, 10, .inl fn2)), (t4, .inl (cA 0, 10, .inl fn3)), (t5, .inl (cA 0, 10, .inl fn4)), (t6, .inl (cA 0, 10, .inl fn5)), (a0, .inr (4, [.ref p0, .ref a1, .ref a3, .ref a4, .ref a5, .ref a6, .int 0, .int 0, .int 0, .long 0, .long 0, .long 0, .int 0, .int 0, .int 0, .int 0, .int 365, .int 0, .int 0, .int 0])), (a1, .inr (6, [.ref a2, .int 0, .int 0])), (a2, .inl (cA 0, 240, .inl e2)), (a3, .inl (cA 0, 10, .inl e3)), (a4, .inl (cA 0, 10, .inl e4)), (a5, .inl (cA 0, 10, .inl e5)), (a6, .inl (cA 0, 10, .inl e6))] H := hP
  have hD : va_D A [(h0, .inr (10, [.ref b0, .int 0, .ref p0, .ref u0, .ref r0, .ref a0, .ref t0, .ref s0, .ref o0])), (p0, .inr (7, [.int 0, .int 365, .int 0, .int 0, .ref p1, .int 0, .ref p2, .ref p3, .ref p4, .ref p5, .int 0, .ref p6, .int 0, .ref p7, .ref p8, .ref p9, .int 0])), (t0, .inr (4, [.ref p0, .ref t1, .ref t3, .ref t4, .ref t5, .ref t6, .int 0, .int 0, .int 0, .long 0, .long 0, .long 0, .int 0, .int 0, .int 0, .int 0, .int 365, .int 0, .int 0, .int 0])), (t1, .inr (6, [.ref t2, .int 0, .int 0])), (t2, .inl (cA 0, 240, .inl fn1)), (t3, .inl (cA 0, 10, .inl fn2)), (t4, .inl (cA 0, 10, .inl fn3)), (t5, .inl (cA 0, 10, .inl fn4)), (t6, .inl (cA 0, 10, .inl fn5)), (a0, .inr (4, [.ref p0, .ref a1, .ref a3, .ref a4, .ref a5, .ref a6, .int 0, .int 0, .int 0, .long 0, .long 0, .long 0, .int 0, .int 0, .int 0, .int 0, .int 365, .int 0, .int 0, .int 0])), (a1, .inr (6, [.ref a2, .int 0, .int 0])), (a2, .inl (cA 0, 240, .inl e2)), (a3, .inl (cA 0, 10, .inl e3)), (a4, .inl (cA 0, 10, .inl e4)), (a5, .inl (cA 0, 10, .inl e5)), (a6, .inl (cA 0, 10, .inl e6))] := hD
  refine lv_aload_n hx hb dX9_tryDays_11 rfl (lv_at hl 0 rfl) ?_
  refine va_get (D := D) (ci := 10) (v := .ref t0) (C := RX9) (T := TX9) (N := 9) hx hb hts inX9 hown hK hP 0 rfl rfl 6 (by decide) (hts (.fieldLink RX9 39 "EscrowDesk" "trial" "LEscrowDesk$Account;") (by decide +kernel)) (fun _ h9 => h9) rfl dX9_tryDays_12 ?_
  refine lv_iload_n hx hb dX9_tryDays_15 rfl (lv_at hl 1 rfl) ?_
  have hPc := hP.sub (ws' := [(t0, .inr (4, [.ref p0, .ref t1, .ref t3, .ref t4, .ref t5, .ref t6, .int 0, .int 0, .int 0, .long 0, .long 0, .long 0, .int 0, .int 0, .int 0, .int 0, .int 365, .int 0, .int 0, .int 0])), (p0, .inr (7, [.int 0, .int 365, .int 0, .int 0, .ref p1, .int 0, .ref p2, .ref p3, .ref p4, .ref p5, .int 0, .ref p6, .int 0, .ref p7, .ref p8, .ref p9, .int 0])), (t1, .inr (6, [.ref t2, .int 0, .int 0]))]) [2, 1, 3] rfl
  have hDc := hD.sub (ws' := [(t0, .inr (4, [.ref p0, .ref t1, .ref t3, .ref t4, .ref t5, .ref t6, .int 0, .int 0, .int 0, .long 0, .long 0, .long 0, .int 0, .int 0, .int 0, .int 0, .int 365, .int 0, .int 0, .int 0])), (p0, .inr (7, [.int 0, .int 365, .int 0, .int 0, .ref p1, .int 0, .ref p2, .ref p3, .ref p4, .ref p5, .int 0, .ref p6, .int 0, .ref p7, .ref p8, .ref p9, .int 0])), (t1, .inr (6, [.ref t2, .int 0, .int 0]))]) [2, 1, 3] (by decide) rfl
  have hFc := va_free (wc := [(t0, .inr (4, [.ref p0, .ref t1, .ref t3, .ref t4, .ref t5, .ref t6, .int 0, .int 0, .int 0, .long 0, .long 0, .long 0, .int 0, .int 0, .int 0, .int 0, .int 365, .int 0, .int 0, .int 0])), (p0, .inr (7, [.int 0, .int 365, .int 0, .int 0, .ref p1, .int 0, .ref p2, .ref p3, .ref p4, .ref p5, .int 0, .ref p6, .int 0, .ref p7, .ref p8, .ref p9, .int 0])), (t1, .inr (6, [.ref t2, .int 0, .int 0]))]) hD hS hA [2, 1, 3] rfl
  refine va_callv (va_runV (As := [.int (nI N)]) (rest := []) ⟨hx, hb, hml, hown, hts⟩ (c_liveDays l D cA sa t0 p0 t1 t3 t4 t5 t6 p1 p2 p3 p4 p5 p6 p7 p8 p9 t2 N 0 0 0 H.size hN) (cwV 1 hts gX9_tryDays_X0_liveDays rfl rfl rfl (by decide +kernel) ⟨(Nat.le_of_ble_eq_true rfl), (Nat.le_of_ble_eq_true rfl)⟩) ⟨Wd.blind, va_recv hK hPc (ci := 4) (q0 := 0) rfl rfl, fun U hU hW => ⟨rfl, Wd.call hPc hDc hK hC hZ hS hFc U hU hW⟩⟩ rfl rfl hl.1 rfl (lv_room (Nat.le_of_ble_eq_true rfl)) dX9_tryDays_16 ⟨(Nat.le_of_ble_eq_true rfl), (Nat.le_of_ble_eq_true rfl)⟩) hS (fun q _ h => hFc q h) hFc (fun u t H1 locs ht hvm hw hB hz1 hk1 hS => ?_)
  obtain ⟨zn6, hP1, hD1⟩ := hB
  rw [ht] at hP1
  obtain ⟨hP, hD⟩ := va_join (wr := [(h0, .inr (10, [.ref b0, .int 0, .ref p0, .ref u0, .ref r0, .ref a0, .ref t0, .ref s0, .ref o0])), (t2, .inl (cA 0, 240, .inl fn1)), (t3, .inl (cA 0, 10, .inl fn2)), (t4, .inl (cA 0, 10, .inl fn3)), (t5, .inl (cA 0, 10, .inl fn4)), (t6, .inl (cA 0, 10, .inl fn5)), (a0, .inr (4, [.ref p0, .ref a1, .ref a3, .ref a4, .ref a5, .ref a6, .int 0, .int 0, .int 0, .long 0, .long 0, .long 0, .int 0, .int 0, .int 0, .int 0, .int 365, .int 0, .int 0, .int 0])), (a1, .inr (6, [.ref a2, .int 0, .int 0])), (a2, .inl (cA 0, 240, .inl e2)), (a3, .inl (cA 0, 10, .inl e3)), (a4, .inl (cA 0, 10, .inl e4)), (a5, .inl (cA 0, 10, .inl e5)), (a6, .inl (cA 0, 10, .inl e6))]) (w1 := [(t0, .inr (4, [.ref p0, .ref t1, .ref t3, .ref t4, .ref t5, .ref t6, .int zn6, .int 0, .int 0, .long 0, .long 0, .long 0, .int 0, .int 0, .int 0, .int 0, .int 365, .int 0, .int 0, .int 0])), (p0, .inr (7, [.int 0, .int 365, .int 0, .int 0, .ref p1, .int 0, .ref p2, .ref p3, .ref p4, .ref p5, .int 0, .ref p6, .int 0, .ref p7, .ref p8, .ref p9, .int 0])), (t1, .inr (6, [.ref t2, .int 0, .int 0]))]) hP hD [2, 1, 3] [0, 4, 5, 6, 7, 8, 9, 10, 11, 12, 13, 14, 15] rfl rfl (by decide) (by decide) hk1 hFc hP1 hD1
  generalize H1 = H at hP hS ⊢
  have hP : va_P D vwCl [(h0, .inr (10, [.ref b0, .int 0, .ref p0, .ref u0, .ref r0, .ref a0, .ref t0, .ref s0, .ref o0])), (t2, .inl (cA 0, 240, .inl fn1)), (t3, .inl (cA 0, 10, .inl fn2)), (t4, .inl (cA 0, 10, .inl fn3)), (t5, .inl (cA 0, 10, .inl fn4)), (t6, .inl (cA 0, 10, .inl fn5)), (a0, .inr (4, [.ref p0, .ref a1, .ref a3, .ref a4, .ref a5, .ref a6, .int 0, .int 0, .int 0, .long 0, .long 0, .long 0, .int 0, .int 0, .int 0, .int 0, .int 365, .int 0, .int 0, .int 0])), (a1, .inr (6, [.ref a2, .int 0, .int 0])), (a2, .inl (cA 0, 240, .inl e2)), (a3, .inl (cA 0, 10, .inl e3)), (a4, .inl (cA 0, 10, .inl e4)), (a5, .inl (cA 0, 10, .inl e5)), (a6, .inl (cA 0, 10, .inl e6)), (t0, .inr (4, [.ref p0, .ref t1, .ref t3, .ref t4, .ref t5, .ref t6, .int zn6, .int 0, .int 0, .long 0, .long 0, .long 0, .int 0, .int 0, .int 0, .int 0, .int 365, .int 0, .int 0, .int 0])), (p0, .inr (7, [.int 0, .int 365, .int 0, .int 0, .ref p1, .int 0, .ref p2, .ref p3, .ref p4, .ref p5, .int 0, .ref p6, .int 0, .ref p7, .ref p8, .ref p9, .int 0])), (t1, .inr (6, [.ref t2, .int 0, .int 0]))] H := hP
  have hD : va_D A [(h0, .inr (10, [.ref b0, .int 0, .ref p0, .ref u0, .ref r0, .ref a0, .ref t0, .ref s0, .ref o0])), (t2, .inl (cA 0, 240, .inl fn1)), (t3, .inl (cA 0, 10, .inl fn2)), (t4, .inl (cA 0, 10, .inl fn3)), (t5, .inl (cA 0, 10, .inl fn4)), (t6, .inl (cA 0, 10, .inl fn5)), (a0, .inr (4, [.ref p0, .ref a1, .ref a3, .ref a4, .ref a5, .ref a6, .int 0, .int 0, .int 0, .long 0, .long 0, .long 0, .int 0, .int 0, .int 0, .int 0, .int 365, .int 0, .int 0, .int 0])), (a1, .inr (6, [.ref a2, .int 0, .int 0])), (a2, .inl (cA 0, 240, .inl e2)), (a3, .inl (cA 0, 10, .inl e3)), (a4, .inl (cA 0, 10, .inl e4)), (a5, .inl (cA 0, 10, .inl e5)), (a6, .inl (cA 0, 10, .inl e6)), (t0, .inr (4, [.ref p0, .ref t1, .ref t3, .ref t4, .ref t5, .ref t6, .int zn6, .int 0, .int 0, .long 0, .long 0, .long 0, .int 0, .int 0, .int 0, .int 0, .int 365, .int 0, .int 0, .int 0])), (p0, .inr (7, [.int 0, .int 365, .int 0, .int 0, .ref p1, .int 0, .ref p2, .ref p3, .ref p4, .ref p5, .int 0, .ref p6, .int 0, .ref p7, .ref p8, .ref p9, .int 0])), (t1, .inr (6, [.ref t2, .int 0, .int 0]))] := hD
  have hP9 := hP.sub (ws' := [(h0, .inr (10, [.ref b0, .int 0, .ref p0, .ref u0, .ref r0, .ref a0, .ref t0, .ref s0, .ref o0])), (t0, .inr (4, [.ref p0, .ref t1, .ref t3, .ref t4, .ref t5, .ref t6, .int zn6, .int 0, .int 0, .long 0, .long 0, .long 0, .int 0, .int 0, .int 0, .int 0, .int 365, .int 0, .int 0, .int 0]))]) [0, 13] rfl
  have hD9 := hD.sub (ws' := [(h0, .inr (10, [.ref b0, .int 0, .ref p0, .ref u0, .ref r0, .ref a0, .ref t0, .ref s0, .ref o0])), (t0, .inr (4, [.ref p0, .ref t1, .ref t3, .ref t4, .ref t5, .ref t6, .int zn6, .int 0, .int 0, .long 0, .long 0, .long 0, .int 0, .int 0, .int 0, .int 0, .int 365, .int 0, .int 0, .int 0]))]) [0, 13] (by decide) rfl
  refine W.widen (k := 0) (n := 0) (Nat.le_of_ble_eq_true rfl) (Nat.le_of_ble_eq_true rfl) ?_
  exact W.vret hx hb hr (fun t ht hW => ⟨⟨(), rfl, trivial, zn6, by rw [ht]; exact hP9, hD9⟩, hS.F ht⟩) hS.2.2 dX9_tryDays_19

set_option maxHeartbeats 4000000 in
set_option maxRecDepth 100000 in
/-- paymentsAfter within -/
theorem c_paymentsAfter_ret (l : Launch) (D : va_G) (cA : Nat → ClassId) (sa : Nat → Nat) (h0 b0 p0 u0 r0 a0 t0 s0 o0 t1 t2 t3 t4 t5 t6 a1 a2 a3 a4 a5 a6 p1 p2 p3 p4 p5 p6 p7 p8 p9 : Nat) (x0 x6 x7 x8 x9 x10 x11 x12 x13 x14 x15 x16 x17 x18 x19 : Value) (n2 k2 : Int32) (q2 q3 q4 q5 q6 e2 e3 e4 e5 e6 : Nat → Int32) (N : Nat) (sz : Nat) (hN1 : 1 ≤ N) (hN : N ≤ 120) : Met l yX9_paymentsAfter wsX9_paymentsAfter ({ frames := 5, cells := 0, slots := 0, locals := 123 }) (va_Pc [.ref h0, .int (nI N)] (Wd D cA sa [(h0, .inr (10, [.ref b0, .int 0, .ref p0, .ref u0, .ref r0, .ref a0, .ref t0, .ref s0, .ref o0])), (t0, .inr (4, [x0, .ref t1, .ref t3, .ref t4, .ref t5, .ref t6, x6, x7, x8, x9, x10, x11, x12, x13, x14, x15, x16, x17, x18, x19])), (t1, .inr (6, [.ref t2, .int n2, .int k2])), (t2, .inl (cA 0, 240, .inl q2)), (t3, .inl (cA 0, 10, .inl q3)), (t4, .inl (cA 0, 10, .inl q4)), (t5, .inl (cA 0, 10, .inl q5)), (t6, .inl (cA 0, 10, .inl q6)), (a0, .inr (4, [.ref p0, .ref a1, .ref a3, .ref a4, .ref a5, .ref a6, .int 0, .int 0, .int 0, .long 0, .long 0, .long 0, .int 0, .int 0, .int 0, .int 0, .int 365, .int 0, .int 0, .int 0])), (a1, .inr (6, [.ref a2, .int 0, .int 0])), (a2, .inl (cA 0, 240, .inl e2)), (a3, .inl (cA 0, 10, .inl e3)), (a4, .inl (cA 0, 10, .inl e4)), (a5, .inl (cA 0, 10, .inl e5)), (a6, .inl (cA 0, 10, .inl e6)), (p0, .inr (7, [.int 0, .int 365, .int 0, .int 0, .ref p1, .int 0, .ref p2, .ref p3, .ref p4, .ref p5, .int 0, .ref p6, .int 0, .ref p7, .ref p8, .ref p9, .int 0]))] sz)) (va_Qi (fun (r : Int32) (_ : Unit) => r = 0) (fun (_ : Unit) t => Wq D (va_A [(h0, .inr (10, [.ref b0, .int 0, .ref p0, .ref u0, .ref r0, .ref a0, .ref t0, .ref s0, .ref o0])), (t0, .inr (4, [x0, .ref t1, .ref t3, .ref t4, .ref t5, .ref t6, x6, x7, x8, x9, x10, x11, x12, x13, x14, x15, x16, x17, x18, x19])), (t1, .inr (6, [.ref t2, .int n2, .int k2])), (t2, .inl (cA 0, 240, .inl q2)), (t3, .inl (cA 0, 10, .inl q3)), (t4, .inl (cA 0, 10, .inl q4)), (t5, .inl (cA 0, 10, .inl q5)), (t6, .inl (cA 0, 10, .inl q6)), (a0, .inr (4, [.ref p0, .ref a1, .ref a3, .ref a4, .ref a5, .ref a6, .int 0, .int 0, .int 0, .long 0, .long 0, .long 0, .int 0, .int 0, .int 0, .int 0, .int 365, .int 0, .int 0, .int 0])), (a1, .inr (6, [.ref a2, .int 0, .int 0])), (a2, .inl (cA 0, 240, .inl e2)), (a3, .inl (cA 0, 10, .inl e3)), (a4, .inl (cA 0, 10, .inl e4)), (a5, .inl (cA 0, 10, .inl e5)), (a6, .inl (cA 0, 10, .inl e6)), (p0, .inr (7, [.int 0, .int 365, .int 0, .int 0, .ref p1, .int 0, .ref p2, .ref p3, .ref p4, .ref p5, .int 0, .ref p6, .int 0, .ref p7, .ref p8, .ref p9, .int 0]))] sz) [] t) (va_A [(h0, .inr (10, [.ref b0, .int 0, .ref p0, .ref u0, .ref r0, .ref a0, .ref t0, .ref s0, .ref o0])), (t0, .inr (4, [x0, .ref t1, .ref t3, .ref t4, .ref t5, .ref t6, x6, x7, x8, x9, x10, x11, x12, x13, x14, x15, x16, x17, x18, x19])), (t1, .inr (6, [.ref t2, .int n2, .int k2])), (t2, .inl (cA 0, 240, .inl q2)), (t3, .inl (cA 0, 10, .inl q3)), (t4, .inl (cA 0, 10, .inl q4)), (t5, .inl (cA 0, 10, .inl q5)), (t6, .inl (cA 0, 10, .inl q6)), (a0, .inr (4, [.ref p0, .ref a1, .ref a3, .ref a4, .ref a5, .ref a6, .int 0, .int 0, .int 0, .long 0, .long 0, .long 0, .int 0, .int 0, .int 0, .int 0, .int 365, .int 0, .int 0, .int 0])), (a1, .inr (6, [.ref a2, .int 0, .int 0])), (a2, .inl (cA 0, 240, .inl e2)), (a3, .inl (cA 0, 10, .inl e3)), (a4, .inl (cA 0, 10, .inl e4)), (a5, .inl (cA 0, 10, .inl e5)), (a6, .inl (cA 0, 10, .inl e6)), (p0, .inr (7, [.int 0, .int 365, .int 0, .int 0, .ref p1, .int 0, .ref p2, .ref p3, .ref p4, .ref p5, .int 0, .ref p6, .int 0, .ref p7, .ref p8, .ref p9, .int 0]))] sz)) 0 0 (va_A [(h0, .inr (10, [.ref b0, .int 0, .ref p0, .ref u0, .ref r0, .ref a0, .ref t0, .ref s0, .ref o0])), (t0, .inr (4, [x0, .ref t1, .ref t3, .ref t4, .ref t5, .ref t6, x6, x7, x8, x9, x10, x11, x12, x13, x14, x15, x16, x17, x18, x19])), (t1, .inr (6, [.ref t2, .int n2, .int k2])), (t2, .inl (cA 0, 240, .inl q2)), (t3, .inl (cA 0, 10, .inl q3)), (t4, .inl (cA 0, 10, .inl q4)), (t5, .inl (cA 0, 10, .inl q5)), (t6, .inl (cA 0, 10, .inl q6)), (a0, .inr (4, [.ref p0, .ref a1, .ref a3, .ref a4, .ref a5, .ref a6, .int 0, .int 0, .int 0, .long 0, .long 0, .long 0, .int 0, .int 0, .int 0, .int 0, .int 365, .int 0, .int 0, .int 0])), (a1, .inr (6, [.ref a2, .int 0, .int 0])), (a2, .inl (cA 0, 240, .inl e2)), (a3, .inl (cA 0, 10, .inl e3)), (a4, .inl (cA 0, 10, .inl e4)), (a5, .inl (cA 0, 10, .inl e5)), (a6, .inl (cA 0, 10, .inl e6)), (p0, .inr (7, [.int 0, .int 365, .int 0, .int 0, .ref p1, .int 0, .ref p2, .ref p3, .ref p4, .ref p5, .int 0, .ref p6, .int 0, .ref p7, .ref p8, .ref p9, .int 0]))] sz) := by
  refine Met.ofW (cc := cX9_paymentsAfter) (maxL := 2) (ret := (some .int)) (by decide) rfl ?_
  intro p e s m args below meth c s₁ B hml hv
  obtain ⟨rfl, hsz, hP, hK, hD0, hC, hZ⟩ := hv
  have hx := B.exec
  have hb := B.bytes
  have hr := B.returns
  have hts := atoms_spec (ws := wsX9_paymentsAfter) B.pre
  have hown : s.vm.findClass RX9 = some m.cls := findClass_of_methodNamed B.named
  have hlocks := B.notSynchronized
  subst hsz
  have hD := hD0.self (sz := s.heap.size)
  generalize hAe : va_A [(h0, .inr (10, [.ref b0, .int 0, .ref p0, .ref u0, .ref r0, .ref a0, .ref t0, .ref s0, .ref o0])), (t0, .inr (4, [x0, .ref t1, .ref t3, .ref t4, .ref t5, .ref t6, x6, x7, x8, x9, x10, x11, x12, x13, x14, x15, x16, x17, x18, x19])), (t1, .inr (6, [.ref t2, .int n2, .int k2])), (t2, .inl (cA 0, 240, .inl q2)), (t3, .inl (cA 0, 10, .inl q3)), (t4, .inl (cA 0, 10, .inl q4)), (t5, .inl (cA 0, 10, .inl q5)), (t6, .inl (cA 0, 10, .inl q6)), (a0, .inr (4, [.ref p0, .ref a1, .ref a3, .ref a4, .ref a5, .ref a6, .int 0, .int 0, .int 0, .long 0, .long 0, .long 0, .int 0, .int 0, .int 0, .int 0, .int 365, .int 0, .int 0, .int 0])), (a1, .inr (6, [.ref a2, .int 0, .int 0])), (a2, .inl (cA 0, 240, .inl e2)), (a3, .inl (cA 0, 10, .inl e3)), (a4, .inl (cA 0, 10, .inl e4)), (a5, .inl (cA 0, 10, .inl e5)), (a6, .inl (cA 0, 10, .inl e6)), (p0, .inr (7, [.int 0, .int 365, .int 0, .int 0, .ref p1, .int 0, .ref p2, .ref p3, .ref p4, .ref p5, .int 0, .ref p6, .int 0, .ref p7, .ref p8, .ref p9, .int 0]))] s.heap.size = A at hD hZ ⊢
  have hA : ∀ q : Nat, s.heap.size ≤ q → A q := fun q h => by rw [← hAe]; exact Or.inr h
  have hS : va_S A s.heap s.heap [] := va_S.rf
  have hP : va_P D vwCl [(h0, .inr (10, [.ref b0, .int 0, .ref p0, .ref u0, .ref r0, .ref a0, .ref t0, .ref s0, .ref o0])), (t0, .inr (4, [x0, .ref t1, .ref t3, .ref t4, .ref t5, .ref t6, x6, x7, x8, x9, x10, x11, x12, x13, x14, x15, x16, x17, x18, x19])), (t1, .inr (6, [.ref t2, .int n2, .int k2])), (t2, .inl (cA 0, 240, .inl q2)), (t3, .inl (cA 0, 10, .inl q3)), (t4, .inl (cA 0, 10, .inl q4)), (t5, .inl (cA 0, 10, .inl q5)), (t6, .inl (cA 0, 10, .inl q6)), (a0, .inr (4, [.ref p0, .ref a1, .ref a3, .ref a4, .ref a5, .ref a6, .int 0, .int 0, .int 0, .long 0, .long 0, .long 0, .int 0, .int 0, .int 0, .int 0, .int 365, .int 0, .int 0, .int 0])), (a1, .inr (6, [.ref a2, .int 0, .int 0])), (a2, .inl (cA 0, 240, .inl e2)), (a3, .inl (cA 0, 10, .inl e3)), (a4, .inl (cA 0, 10, .inl e4)), (a5, .inl (cA 0, 10, .inl e5)), (a6, .inl (cA 0, 10, .inl e6)), (p0, .inr (7, [.int 0, .int 365, .int 0, .int 0, .ref p1, .int 0, .ref p2, .ref p3, .ref p4, .ref p5, .int 0, .ref p6, .int 0, .ref p7, .ref p8, .ref p9, .int 0]))] s.heap := hP
  have hl := lv_entry ([.ref h0, .int (nI N)]) (n := 2) (Nat.le_of_ble_eq_true rfl)
  rw [lg_entry_eq]
  generalize (lg_sl ([.ref h0, .int (nI N)]) ++ List.replicate (2 - (lg_sl ([.ref h0, .int (nI N)])).length) Slot.unset).toArray = ls at hl ⊢
  have hl : lv_has ls 2 [(0, .ref h0), (1, .int (nI N))] := hl
  have inX9 : ∀ w ∈ u_ws RX9 TX9 9, w ∈ wsX9_paymentsAfter := by decide +kernel
  refine lv_iload_n hx hb dX9_paymentsAfter_0 rfl (lv_at hl 1 rfl) ?_
  refine lv_iconst (v := 1) hx hb dX9_paymentsAfter_1 (by decide) ?_
  refine lv_bipush (v := 120) hx hb dX9_paymentsAfter_2 (by decide) ?_
  have hPc := hP.sub (ws' := []) [] rfl
  have hDc := hD.sub (ws' := []) [] (by decide) rfl
  have hFc := va_free (wc := []) hD hS hA [] rfl
  refine va_callv (va_runS (As := [.int (nI N), .int 1, .int 120]) (rest := []) ⟨hx, hb, hml, hown, hts⟩ (c_needRange_ret l D cA sa (nI N) 1 120 s.heap.size (nI_nlt (b := 1) hN1 (by omega)) (nI_nlt (a := 120) hN (by decide))) (va_cwS 3 hts gX9_paymentsAfter_X9_needRange rfl rfl rfl (by decide +kernel) ⟨(Nat.le_of_ble_eq_true rfl), (Nat.le_of_ble_eq_true rfl)⟩) ⟨Wd.blind, fun U hU hW => ⟨rfl, Wd.call hPc hDc hK hC hZ hS hFc U hU hW⟩⟩ rfl rfl hl.1 rfl (lv_room (Nat.le_of_ble_eq_true rfl)) dX9_paymentsAfter_4 ⟨(Nat.le_of_ble_eq_true rfl), (Nat.le_of_ble_eq_true rfl)⟩) hS (fun q _ h => hFc q h) hFc (fun u t H1 locs ht hvm hw hB hz1 hk1 hS => ?_)
  obtain ⟨hP1, hD1⟩ := hB
  rw [ht] at hP1
  obtain ⟨hP, hD⟩ := va_join (wr := [(h0, .inr (10, [.ref b0, .int 0, .ref p0, .ref u0, .ref r0, .ref a0, .ref t0, .ref s0, .ref o0])), (t0, .inr (4, [x0, .ref t1, .ref t3, .ref t4, .ref t5, .ref t6, x6, x7, x8, x9, x10, x11, x12, x13, x14, x15, x16, x17, x18, x19])), (t1, .inr (6, [.ref t2, .int n2, .int k2])), (t2, .inl (cA 0, 240, .inl q2)), (t3, .inl (cA 0, 10, .inl q3)), (t4, .inl (cA 0, 10, .inl q4)), (t5, .inl (cA 0, 10, .inl q5)), (t6, .inl (cA 0, 10, .inl q6)), (a0, .inr (4, [.ref p0, .ref a1, .ref a3, .ref a4, .ref a5, .ref a6, .int 0, .int 0, .int 0, .long 0, .long 0, .long 0, .int 0, .int 0, .int 0, .int 0, .int 365, .int 0, .int 0, .int 0])), (a1, .inr (6, [.ref a2, .int 0, .int 0])), (a2, .inl (cA 0, 240, .inl e2)), (a3, .inl (cA 0, 10, .inl e3)), (a4, .inl (cA 0, 10, .inl e4)), (a5, .inl (cA 0, 10, .inl e5)), (a6, .inl (cA 0, 10, .inl e6)), (p0, .inr (7, [.int 0, .int 365, .int 0, .int 0, .ref p1, .int 0, .ref p2, .ref p3, .ref p4, .ref p5, .int 0, .ref p6, .int 0, .ref p7, .ref p8, .ref p9, .int 0]))]) (w1 := []) hP hD [] [0, 1, 2, 3, 4, 5, 6, 7, 8, 9, 10, 11, 12, 13, 14, 15] rfl rfl (by decide) (by decide) hk1 hFc hP1 hD1
  generalize H1 = H at hP hS ⊢
  have hP : va_P D vwCl [(h0, .inr (10, [.ref b0, .int 0, .ref p0, .ref u0, .ref r0, .ref a0, .ref t0, .ref s0, .ref o0])), (t0, .inr (4, [x0, .ref t1, .ref t3, .ref t4, .ref t5, .ref t6, x6, x7, x8, x9, x10, x11, x12, x13, x14, x15, x16, x17, x18, x19])), (t1, .inr (6, [.ref t2, .int n2, .int k2])), (t2, .inl (cA 0, 240, .inl q2)), (t3, .inl (cA 0, 10, .inl q3)), (t4, .inl (cA 0, 10, .inl q4)), (t5, .inl (cA 0, 10, .inl q5)), (t6, .inl (cA 0, 10, .inl q6)), (a0, .inr (4, [.ref p0, .ref a1, .ref a3, .ref a4, .ref a5, .ref a6, .int 0, .int 0, .int 0, .long 0, .long 0, .long 0, .int 0, .int 0, .int 0, .int 0, .int 365, .int 0, .int 0, .int 0])), (a1, .inr (6, [.ref a2, .int 0, .int 0])), (a2, .inl (cA 0, 240, .inl e2)), (a3, .inl (cA 0, 10, .inl e3)), (a4, .inl (cA 0, 10, .inl e4)), (a5, .inl (cA 0, 10, .inl e5)), (a6, .inl (cA 0, 10, .inl e6)), (p0, .inr (7, [.int 0, .int 365, .int 0, .int 0, .ref p1, .int 0, .ref p2, .ref p3, .ref p4, .ref p5, .int 0, .ref p6, .int 0, .ref p7, .ref p8, .ref p9, .int 0]))] H := hP
  have hD : va_D A [(h0, .inr (10, [.ref b0, .int 0, .ref p0, .ref u0, .ref r0, .ref a0, .ref t0, .ref s0, .ref o0])), (t0, .inr (4, [x0, .ref t1, .ref t3, .ref t4, .ref t5, .ref t6, x6, x7, x8, x9, x10, x11, x12, x13, x14, x15, x16, x17, x18, x19])), (t1, .inr (6, [.ref t2, .int n2, .int k2])), (t2, .inl (cA 0, 240, .inl q2)), (t3, .inl (cA 0, 10, .inl q3)), (t4, .inl (cA 0, 10, .inl q4)), (t5, .inl (cA 0, 10, .inl q5)), (t6, .inl (cA 0, 10, .inl q6)), (a0, .inr (4, [.ref p0, .ref a1, .ref a3, .ref a4, .ref a5, .ref a6, .int 0, .int 0, .int 0, .long 0, .long 0, .long 0, .int 0, .int 0, .int 0, .int 0, .int 365, .int 0, .int 0, .int 0])), (a1, .inr (6, [.ref a2, .int 0, .int 0])), (a2, .inl (cA 0, 240, .inl e2)), (a3, .inl (cA 0, 10, .inl e3)), (a4, .inl (cA 0, 10, .inl e4)), (a5, .inl (cA 0, 10, .inl e5)), (a6, .inl (cA 0, 10, .inl e6)), (p0, .inr (7, [.int 0, .int 365, .int 0, .int 0, .ref p1, .int 0, .ref p2, .ref p3, .ref p4, .ref p5, .int 0, .ref p6, .int 0, .ref p7, .ref p8, .ref p9, .int 0]))] := hD
  refine lv_aload_n hx hb dX9_paymentsAfter_7 rfl (lv_at hl 0 rfl) ?_
  refine lv_iload_n hx hb dX9_paymentsAfter_8 rfl (lv_at hl 1 rfl) ?_
  have hPc := hP.sub (ws' := [(h0, .inr (10, [.ref b0, .int 0, .ref p0, .ref u0, .ref r0, .ref a0, .ref t0, .ref s0, .ref o0])), (t0, .inr (4, [x0, .ref t1, .ref t3, .ref t4, .ref t5, .ref t6, x6, x7, x8, x9, x10, x11, x12, x13, x14, x15, x16, x17, x18, x19])), (t1, .inr (6, [.ref t2, .int n2, .int k2])), (t2, .inl (cA 0, 240, .inl q2)), (t3, .inl (cA 0, 10, .inl q3)), (t4, .inl (cA 0, 10, .inl q4)), (t5, .inl (cA 0, 10, .inl q5)), (t6, .inl (cA 0, 10, .inl q6)), (a0, .inr (4, [.ref p0, .ref a1, .ref a3, .ref a4, .ref a5, .ref a6, .int 0, .int 0, .int 0, .long 0, .long 0, .long 0, .int 0, .int 0, .int 0, .int 0, .int 365, .int 0, .int 0, .int 0])), (a1, .inr (6, [.ref a2, .int 0, .int 0])), (a2, .inl (cA 0, 240, .inl e2)), (a3, .inl (cA 0, 10, .inl e3)), (a4, .inl (cA 0, 10, .inl e4)), (a5, .inl (cA 0, 10, .inl e5)), (a6, .inl (cA 0, 10, .inl e6)), (p0, .inr (7, [.int 0, .int 365, .int 0, .int 0, .ref p1, .int 0, .ref p2, .ref p3, .ref p4, .ref p5, .int 0, .ref p6, .int 0, .ref p7, .ref p8, .ref p9, .int 0]))]) [0, 1, 2, 3, 4, 5, 6, 7, 8, 9, 10, 11, 12, 13, 14, 15] rfl
  have hDc := hD.sub (ws' := [(h0, .inr (10, [.ref b0, .int 0, .ref p0, .ref u0, .ref r0, .ref a0, .ref t0, .ref s0, .ref o0])), (t0, .inr (4, [x0, .ref t1, .ref t3, .ref t4, .ref t5, .ref t6, x6, x7, x8, x9, x10, x11, x12, x13, x14, x15, x16, x17, x18, x19])), (t1, .inr (6, [.ref t2, .int n2, .int k2])), (t2, .inl (cA 0, 240, .inl q2)), (t3, .inl (cA 0, 10, .inl q3)), (t4, .inl (cA 0, 10, .inl q4)), (t5, .inl (cA 0, 10, .inl q5)), (t6, .inl (cA 0, 10, .inl q6)), (a0, .inr (4, [.ref p0, .ref a1, .ref a3, .ref a4, .ref a5, .ref a6, .int 0, .int 0, .int 0, .long 0, .long 0, .long 0, .int 0, .int 0, .int 0, .int 0, .int 365, .int 0, .int 0, .int 0])), (a1, .inr (6, [.ref a2, .int 0, .int 0])), (a2, .inl (cA 0, 240, .inl e2)), (a3, .inl (cA 0, 10, .inl e3)), (a4, .inl (cA 0, 10, .inl e4)), (a5, .inl (cA 0, 10, .inl e5)), (a6, .inl (cA 0, 10, .inl e6)), (p0, .inr (7, [.int 0, .int 365, .int 0, .int 0, .ref p1, .int 0, .ref p2, .ref p3, .ref p4, .ref p5, .int 0, .ref p6, .int 0, .ref p7, .ref p8, .ref p9, .int 0]))]) [0, 1, 2, 3, 4, 5, 6, 7, 8, 9, 10, 11, 12, 13, 14, 15] (by decide) rfl
  have hFc := va_free (wc := [(h0, .inr (10, [.ref b0, .int 0, .ref p0, .ref u0, .ref r0, .ref a0, .ref t0, .ref s0, .ref o0])), (t0, .inr (4, [x0, .ref t1, .ref t3, .ref t4, .ref t5, .ref t6, x6, x7, x8, x9, x10, x11, x12, x13, x14, x15, x16, x17, x18, x19])), (t1, .inr (6, [.ref t2, .int n2, .int k2])), (t2, .inl (cA 0, 240, .inl q2)), (t3, .inl (cA 0, 10, .inl q3)), (t4, .inl (cA 0, 10, .inl q4)), (t5, .inl (cA 0, 10, .inl q5)), (t6, .inl (cA 0, 10, .inl q6)), (a0, .inr (4, [.ref p0, .ref a1, .ref a3, .ref a4, .ref a5, .ref a6, .int 0, .int 0, .int 0, .long 0, .long 0, .long 0, .int 0, .int 0, .int 0, .int 0, .int 365, .int 0, .int 0, .int 0])), (a1, .inr (6, [.ref a2, .int 0, .int 0])), (a2, .inl (cA 0, 240, .inl e2)), (a3, .inl (cA 0, 10, .inl e3)), (a4, .inl (cA 0, 10, .inl e4)), (a5, .inl (cA 0, 10, .inl e5)), (a6, .inl (cA 0, 10, .inl e6)), (p0, .inr (7, [.int 0, .int 365, .int 0, .int 0, .ref p1, .int 0, .ref p2, .ref p3, .ref p4, .ref p5, .int 0, .ref p6, .int 0, .ref p7, .ref p8, .ref p9, .int 0]))]) hD hS hA [0, 1, 2, 3, 4, 5, 6, 7, 8, 9, 10, 11, 12, 13, 14, 15] rfl
  refine va_callv (va_runV (As := [.int (nI N)]) (rest := []) ⟨hx, hb, hml, hown, hts⟩ (c_tryDays l D cA sa h0 b0 p0 u0 r0 a0 t0 s0 o0 t1 t2 t3 t4 t5 t6 a1 a2 a3 a4 a5 a6 p1 p2 p3 p4 p5 p6 p7 p8 p9 x0 x6 x7 x8 x9 x10 x11 x12 x13 x14 x15 x16 x17 x18 x19 n2 k2 q2 q3 q4 q5 q6 e2 e3 e4 e5 e6 N H.size hN) (cwV 1 hts gX9_paymentsAfter_X9_tryDays rfl rfl rfl (by decide +kernel) ⟨(Nat.le_of_ble_eq_true rfl), (Nat.le_of_ble_eq_true rfl)⟩) ⟨Wd.blind, va_recv hK hPc (ci := 10) (q0 := 0) rfl rfl, fun U hU hW => ⟨rfl, Wd.call hPc hDc hK hC hZ hS hFc U hU hW⟩⟩ rfl rfl hl.1 rfl (lv_room (Nat.le_of_ble_eq_true rfl)) dX9_paymentsAfter_9 ⟨(Nat.le_of_ble_eq_true rfl), (Nat.le_of_ble_eq_true rfl)⟩) hS (fun q _ h => hFc q h) hFc (fun u t H1 locs ht hvm hw hB hz1 hk1 hS => ?_)
  obtain ⟨zn1, hP1, hD1⟩ := hB
  rw [ht] at hP1
  obtain ⟨hP, hD⟩ := va_join (wr := []) (w1 := [(h0, .inr (10, [.ref b0, .int 0, .ref p0, .ref u0, .ref r0, .ref a0, .ref t0, .ref s0, .ref o0])), (t0, .inr (4, [.ref p0, .ref t1, .ref t3, .ref t4, .ref t5, .ref t6, .int zn1, .int 0, .int 0, .long 0, .long 0, .long 0, .int 0, .int 0, .int 0, .int 0, .int 365, .int 0, .int 0, .int 0]))]) hP hD [0, 1, 2, 3, 4, 5, 6, 7, 8, 9, 10, 11, 12, 13, 14, 15] [] rfl rfl (by decide) (by decide) hk1 hFc hP1 hD1
  generalize H1 = H at hP hS ⊢
  have hP : va_P D vwCl [(h0, .inr (10, [.ref b0, .int 0, .ref p0, .ref u0, .ref r0, .ref a0, .ref t0, .ref s0, .ref o0])), (t0, .inr (4, [.ref p0, .ref t1, .ref t3, .ref t4, .ref t5, .ref t6, .int zn1, .int 0, .int 0, .long 0, .long 0, .long 0, .int 0, .int 0, .int 0, .int 0, .int 365, .int 0, .int 0, .int 0]))] H := hP
  have hD : va_D A [(h0, .inr (10, [.ref b0, .int 0, .ref p0, .ref u0, .ref r0, .ref a0, .ref t0, .ref s0, .ref o0])), (t0, .inr (4, [.ref p0, .ref t1, .ref t3, .ref t4, .ref t5, .ref t6, .int zn1, .int 0, .int 0, .long 0, .long 0, .long 0, .int 0, .int 0, .int 0, .int 0, .int 365, .int 0, .int 0, .int 0]))] := hD
  refine lv_aload_n hx hb dX9_paymentsAfter_12 rfl (lv_at hl 0 rfl) ?_
  refine va_get (D := D) (ci := 10) (v := .ref t0) (C := RX9) (T := TX9) (N := 9) hx hb hts inX9 hown hK hP 0 rfl rfl 6 (by decide) (hts (.fieldLink RX9 39 "EscrowDesk" "trial" "LEscrowDesk$Account;") (by decide +kernel)) (fun _ h9 => h9) rfl dX9_paymentsAfter_13 ?_
  have hPc := hP.sub (ws' := [(t0, .inr (4, [.ref p0, .ref t1, .ref t3, .ref t4, .ref t5, .ref t6, .int zn1, .int 0, .int 0, .long 0, .long 0, .long 0, .int 0, .int 0, .int 0, .int 0, .int 365, .int 0, .int 0, .int 0]))]) [1] rfl
  have hDc := hD.sub (ws' := [(t0, .inr (4, [.ref p0, .ref t1, .ref t3, .ref t4, .ref t5, .ref t6, .int zn1, .int 0, .int 0, .long 0, .long 0, .long 0, .int 0, .int 0, .int 0, .int 0, .int 365, .int 0, .int 0, .int 0]))]) [1] (by decide) rfl
  have hFc := va_free (wc := [(t0, .inr (4, [.ref p0, .ref t1, .ref t3, .ref t4, .ref t5, .ref t6, .int zn1, .int 0, .int 0, .long 0, .long 0, .long 0, .int 0, .int 0, .int 0, .int 0, .int 365, .int 0, .int 0, .int 0]))]) hD hS hA [1] rfl
  refine va_calli (va_runV (As := []) (rest := []) ⟨hx, hb, hml, hown, hts⟩ (c_payments l D cA sa t0 p0 t1 t3 t4 t5 t6 zn1 H.size) (cwV 0 hts gX9_paymentsAfter_X0_payments rfl rfl rfl (by decide +kernel) ⟨(Nat.le_of_ble_eq_true rfl), (Nat.le_of_ble_eq_true rfl)⟩) ⟨Wd.blind, va_recv hK hPc (ci := 4) (q0 := 0) rfl rfl, fun U hU hW => ⟨rfl, Wd.call hPc hDc hK hC hZ hS hFc U hU hW⟩⟩ rfl rfl hl.1 rfl (lv_room (Nat.le_of_ble_eq_true rfl)) dX9_paymentsAfter_16 ⟨(Nat.le_of_ble_eq_true rfl), (Nat.le_of_ble_eq_true rfl)⟩) hS (fun q _ h => hFc q h) hFc (fun rn2 u t H1 locs ht hvm hw hB hz1 hk1 hS => ?_)
  obtain ⟨hP1, hD1⟩ := hB
  rw [ht] at hP1
  obtain ⟨hP, hD⟩ := va_join (wr := [(h0, .inr (10, [.ref b0, .int 0, .ref p0, .ref u0, .ref r0, .ref a0, .ref t0, .ref s0, .ref o0]))]) (w1 := [(t0, .inr (4, [.ref p0, .ref t1, .ref t3, .ref t4, .ref t5, .ref t6, .int zn1, .int 0, .int 0, .long 0, .long 0, .long 0, .int 0, .int 0, .int 0, .int 0, .int 365, .int 0, .int 0, .int 0]))]) hP hD [1] [0] rfl rfl (by decide) (by decide) hk1 hFc hP1 hD1
  generalize H1 = H at hP hS ⊢
  have hP : va_P D vwCl [(h0, .inr (10, [.ref b0, .int 0, .ref p0, .ref u0, .ref r0, .ref a0, .ref t0, .ref s0, .ref o0])), (t0, .inr (4, [.ref p0, .ref t1, .ref t3, .ref t4, .ref t5, .ref t6, .int zn1, .int 0, .int 0, .long 0, .long 0, .long 0, .int 0, .int 0, .int 0, .int 0, .int 365, .int 0, .int 0, .int 0]))] H := hP
  have hD : va_D A [(h0, .inr (10, [.ref b0, .int 0, .ref p0, .ref u0, .ref r0, .ref a0, .ref t0, .ref s0, .ref o0])), (t0, .inr (4, [.ref p0, .ref t1, .ref t3, .ref t4, .ref t5, .ref t6, .int zn1, .int 0, .int 0, .long 0, .long 0, .long 0, .int 0, .int 0, .int 0, .int 0, .int 365, .int 0, .int 0, .int 0]))] := hD
  obtain rfl : rn2 = 0 := hw
  have hP9 := hP.sub (ws' := []) [] rfl
  have hD9 := hD.sub (ws' := []) [] (by decide) rfl
  refine W.widen (k := 0) (n := 0) (Nat.le_of_ble_eq_true rfl) (Nat.le_of_ble_eq_true rfl) ?_
  exact W.iret (v := 0) hx hb hr (fun t ht hW => ⟨⟨0, (), rfl, rfl, by rw [ht]; exact hP9, hD9⟩, hS.F ht⟩) hS.2.2 dX9_paymentsAfter_19

set_option maxHeartbeats 4000000 in
set_option maxRecDepth 100000 in
/-- creditedAfter within -/
theorem c_creditedAfter_ret (l : Launch) (D : va_G) (cA : Nat → ClassId) (sa : Nat → Nat) (h0 b0 p0 u0 r0 a0 t0 s0 o0 t1 t2 t3 t4 t5 t6 a1 a2 a3 a4 a5 a6 p1 p2 p3 p4 p5 p6 p7 p8 p9 : Nat) (x0 x6 x7 x8 x9 x10 x11 x12 x13 x14 x15 x16 x17 x18 x19 : Value) (n2 k2 : Int32) (q2 q3 q4 q5 q6 e2 e3 e4 e5 e6 : Nat → Int32) (N : Nat) (sz : Nat) (hN1 : 1 ≤ N) (hN : N ≤ 120) : Met l yX9_creditedAfter wsX9_creditedAfter ({ frames := 5, cells := 0, slots := 0, locals := 123 }) (va_Pc [.ref h0, .int (nI N)] (Wd D cA sa [(h0, .inr (10, [.ref b0, .int 0, .ref p0, .ref u0, .ref r0, .ref a0, .ref t0, .ref s0, .ref o0])), (t0, .inr (4, [x0, .ref t1, .ref t3, .ref t4, .ref t5, .ref t6, x6, x7, x8, x9, x10, x11, x12, x13, x14, x15, x16, x17, x18, x19])), (t1, .inr (6, [.ref t2, .int n2, .int k2])), (t2, .inl (cA 0, 240, .inl q2)), (t3, .inl (cA 0, 10, .inl q3)), (t4, .inl (cA 0, 10, .inl q4)), (t5, .inl (cA 0, 10, .inl q5)), (t6, .inl (cA 0, 10, .inl q6)), (a0, .inr (4, [.ref p0, .ref a1, .ref a3, .ref a4, .ref a5, .ref a6, .int 0, .int 0, .int 0, .long 0, .long 0, .long 0, .int 0, .int 0, .int 0, .int 0, .int 365, .int 0, .int 0, .int 0])), (a1, .inr (6, [.ref a2, .int 0, .int 0])), (a2, .inl (cA 0, 240, .inl e2)), (a3, .inl (cA 0, 10, .inl e3)), (a4, .inl (cA 0, 10, .inl e4)), (a5, .inl (cA 0, 10, .inl e5)), (a6, .inl (cA 0, 10, .inl e6)), (p0, .inr (7, [.int 0, .int 365, .int 0, .int 0, .ref p1, .int 0, .ref p2, .ref p3, .ref p4, .ref p5, .int 0, .ref p6, .int 0, .ref p7, .ref p8, .ref p9, .int 0]))] sz)) (va_Qi (fun (r : Int32) (_ : Unit) => r = 0) (fun (_ : Unit) t => Wq D (va_A [(h0, .inr (10, [.ref b0, .int 0, .ref p0, .ref u0, .ref r0, .ref a0, .ref t0, .ref s0, .ref o0])), (t0, .inr (4, [x0, .ref t1, .ref t3, .ref t4, .ref t5, .ref t6, x6, x7, x8, x9, x10, x11, x12, x13, x14, x15, x16, x17, x18, x19])), (t1, .inr (6, [.ref t2, .int n2, .int k2])), (t2, .inl (cA 0, 240, .inl q2)), (t3, .inl (cA 0, 10, .inl q3)), (t4, .inl (cA 0, 10, .inl q4)), (t5, .inl (cA 0, 10, .inl q5)), (t6, .inl (cA 0, 10, .inl q6)), (a0, .inr (4, [.ref p0, .ref a1, .ref a3, .ref a4, .ref a5, .ref a6, .int 0, .int 0, .int 0, .long 0, .long 0, .long 0, .int 0, .int 0, .int 0, .int 0, .int 365, .int 0, .int 0, .int 0])), (a1, .inr (6, [.ref a2, .int 0, .int 0])), (a2, .inl (cA 0, 240, .inl e2)), (a3, .inl (cA 0, 10, .inl e3)), (a4, .inl (cA 0, 10, .inl e4)), (a5, .inl (cA 0, 10, .inl e5)), (a6, .inl (cA 0, 10, .inl e6)), (p0, .inr (7, [.int 0, .int 365, .int 0, .int 0, .ref p1, .int 0, .ref p2, .ref p3, .ref p4, .ref p5, .int 0, .ref p6, .int 0, .ref p7, .ref p8, .ref p9, .int 0]))] sz) [] t) (va_A [(h0, .inr (10, [.ref b0, .int 0, .ref p0, .ref u0, .ref r0, .ref a0, .ref t0, .ref s0, .ref o0])), (t0, .inr (4, [x0, .ref t1, .ref t3, .ref t4, .ref t5, .ref t6, x6, x7, x8, x9, x10, x11, x12, x13, x14, x15, x16, x17, x18, x19])), (t1, .inr (6, [.ref t2, .int n2, .int k2])), (t2, .inl (cA 0, 240, .inl q2)), (t3, .inl (cA 0, 10, .inl q3)), (t4, .inl (cA 0, 10, .inl q4)), (t5, .inl (cA 0, 10, .inl q5)), (t6, .inl (cA 0, 10, .inl q6)), (a0, .inr (4, [.ref p0, .ref a1, .ref a3, .ref a4, .ref a5, .ref a6, .int 0, .int 0, .int 0, .long 0, .long 0, .long 0, .int 0, .int 0, .int 0, .int 0, .int 365, .int 0, .int 0, .int 0])), (a1, .inr (6, [.ref a2, .int 0, .int 0])), (a2, .inl (cA 0, 240, .inl e2)), (a3, .inl (cA 0, 10, .inl e3)), (a4, .inl (cA 0, 10, .inl e4)), (a5, .inl (cA 0, 10, .inl e5)), (a6, .inl (cA 0, 10, .inl e6)), (p0, .inr (7, [.int 0, .int 365, .int 0, .int 0, .ref p1, .int 0, .ref p2, .ref p3, .ref p4, .ref p5, .int 0, .ref p6, .int 0, .ref p7, .ref p8, .ref p9, .int 0]))] sz)) 0 0 (va_A [(h0, .inr (10, [.ref b0, .int 0, .ref p0, .ref u0, .ref r0, .ref a0, .ref t0, .ref s0, .ref o0])), (t0, .inr (4, [x0, .ref t1, .ref t3, .ref t4, .ref t5, .ref t6, x6, x7, x8, x9, x10, x11, x12, x13, x14, x15, x16, x17, x18, x19])), (t1, .inr (6, [.ref t2, .int n2, .int k2])), (t2, .inl (cA 0, 240, .inl q2)), (t3, .inl (cA 0, 10, .inl q3)), (t4, .inl (cA 0, 10, .inl q4)), (t5, .inl (cA 0, 10, .inl q5)), (t6, .inl (cA 0, 10, .inl q6)), (a0, .inr (4, [.ref p0, .ref a1, .ref a3, .ref a4, .ref a5, .ref a6, .int 0, .int 0, .int 0, .long 0, .long 0, .long 0, .int 0, .int 0, .int 0, .int 0, .int 365, .int 0, .int 0, .int 0])), (a1, .inr (6, [.ref a2, .int 0, .int 0])), (a2, .inl (cA 0, 240, .inl e2)), (a3, .inl (cA 0, 10, .inl e3)), (a4, .inl (cA 0, 10, .inl e4)), (a5, .inl (cA 0, 10, .inl e5)), (a6, .inl (cA 0, 10, .inl e6)), (p0, .inr (7, [.int 0, .int 365, .int 0, .int 0, .ref p1, .int 0, .ref p2, .ref p3, .ref p4, .ref p5, .int 0, .ref p6, .int 0, .ref p7, .ref p8, .ref p9, .int 0]))] sz) := by
  refine Met.ofW (cc := cX9_creditedAfter) (maxL := 2) (ret := (some .int)) (by decide) rfl ?_
  intro p e s m args below meth c s₁ B hml hv
  obtain ⟨rfl, hsz, hP, hK, hD0, hC, hZ⟩ := hv
  have hx := B.exec
  have hb := B.bytes
  have hr := B.returns
  have hts := atoms_spec (ws := wsX9_creditedAfter) B.pre
  have hown : s.vm.findClass RX9 = some m.cls := findClass_of_methodNamed B.named
  have hlocks := B.notSynchronized
  subst hsz
  have hD := hD0.self (sz := s.heap.size)
  generalize hAe : va_A [(h0, .inr (10, [.ref b0, .int 0, .ref p0, .ref u0, .ref r0, .ref a0, .ref t0, .ref s0, .ref o0])), (t0, .inr (4, [x0, .ref t1, .ref t3, .ref t4, .ref t5, .ref t6, x6, x7, x8, x9, x10, x11, x12, x13, x14, x15, x16, x17, x18, x19])), (t1, .inr (6, [.ref t2, .int n2, .int k2])), (t2, .inl (cA 0, 240, .inl q2)), (t3, .inl (cA 0, 10, .inl q3)), (t4, .inl (cA 0, 10, .inl q4)), (t5, .inl (cA 0, 10, .inl q5)), (t6, .inl (cA 0, 10, .inl q6)), (a0, .inr (4, [.ref p0, .ref a1, .ref a3, .ref a4, .ref a5, .ref a6, .int 0, .int 0, .int 0, .long 0, .long 0, .long 0, .int 0, .int 0, .int 0, .int 0, .int 365, .int 0, .int 0, .int 0])), (a1, .inr (6, [.ref a2, .int 0, .int 0])), (a2, .inl (cA 0, 240, .inl e2)), (a3, .inl (cA 0, 10, .inl e3)), (a4, .inl (cA 0, 10, .inl e4)), (a5, .inl (cA 0, 10, .inl e5)), (a6, .inl (cA 0, 10, .inl e6)), (p0, .inr (7, [.int 0, .int 365, .int 0, .int 0, .ref p1, .int 0, .ref p2, .ref p3, .ref p4, .ref p5, .int 0, .ref p6, .int 0, .ref p7, .ref p8, .ref p9, .int 0]))] s.heap.size = A at hD hZ ⊢
  have hA : ∀ q : Nat, s.heap.size ≤ q → A q := fun q h => by rw [← hAe]; exact Or.inr h
  have hS : va_S A s.heap s.heap [] := va_S.rf
  have hP : va_P D vwCl [(h0, .inr (10, [.ref b0, .int 0, .ref p0, .ref u0, .ref r0, .ref a0, .ref t0, .ref s0, .ref o0])), (t0, .inr (4, [x0, .ref t1, .ref t3, .ref t4, .ref t5, .ref t6, x6, x7, x8, x9, x10, x11, x12, x13, x14, x15, x16, x17, x18, x19])), (t1, .inr (6, [.ref t2, .int n2, .int k2])), (t2, .inl (cA 0, 240, .inl q2)), (t3, .inl (cA 0, 10, .inl q3)), (t4, .inl (cA 0, 10, .inl q4)), (t5, .inl (cA 0, 10, .inl q5)), (t6, .inl (cA 0, 10, .inl q6)), (a0, .inr (4, [.ref p0, .ref a1, .ref a3, .ref a4, .ref a5, .ref a6, .int 0, .int 0, .int 0, .long 0, .long 0, .long 0, .int 0, .int 0, .int 0, .int 0, .int 365, .int 0, .int 0, .int 0])), (a1, .inr (6, [.ref a2, .int 0, .int 0])), (a2, .inl (cA 0, 240, .inl e2)), (a3, .inl (cA 0, 10, .inl e3)), (a4, .inl (cA 0, 10, .inl e4)), (a5, .inl (cA 0, 10, .inl e5)), (a6, .inl (cA 0, 10, .inl e6)), (p0, .inr (7, [.int 0, .int 365, .int 0, .int 0, .ref p1, .int 0, .ref p2, .ref p3, .ref p4, .ref p5, .int 0, .ref p6, .int 0, .ref p7, .ref p8, .ref p9, .int 0]))] s.heap := hP
  have hl := lv_entry ([.ref h0, .int (nI N)]) (n := 2) (Nat.le_of_ble_eq_true rfl)
  rw [lg_entry_eq]
  generalize (lg_sl ([.ref h0, .int (nI N)]) ++ List.replicate (2 - (lg_sl ([.ref h0, .int (nI N)])).length) Slot.unset).toArray = ls at hl ⊢
  have hl : lv_has ls 2 [(0, .ref h0), (1, .int (nI N))] := hl
  have inX0 : ∀ w ∈ u_ws RX0 TX0 20, w ∈ wsX9_creditedAfter := by decide +kernel
  have inX9 : ∀ w ∈ u_ws RX9 TX9 9, w ∈ wsX9_creditedAfter := by decide +kernel
  refine lv_iload_n hx hb dX9_creditedAfter_0 rfl (lv_at hl 1 rfl) ?_
  refine lv_iconst (v := 1) hx hb dX9_creditedAfter_1 (by decide) ?_
  refine lv_bipush (v := 120) hx hb dX9_creditedAfter_2 (by decide) ?_
  have hPc := hP.sub (ws' := []) [] rfl
  have hDc := hD.sub (ws' := []) [] (by decide) rfl
  have hFc := va_free (wc := []) hD hS hA [] rfl
  refine va_callv (va_runS (As := [.int (nI N), .int 1, .int 120]) (rest := []) ⟨hx, hb, hml, hown, hts⟩ (c_needRange_ret l D cA sa (nI N) 1 120 s.heap.size (nI_nlt (b := 1) hN1 (by omega)) (nI_nlt (a := 120) hN (by decide))) (va_cwS 3 hts gX9_creditedAfter_X9_needRange rfl rfl rfl (by decide +kernel) ⟨(Nat.le_of_ble_eq_true rfl), (Nat.le_of_ble_eq_true rfl)⟩) ⟨Wd.blind, fun U hU hW => ⟨rfl, Wd.call hPc hDc hK hC hZ hS hFc U hU hW⟩⟩ rfl rfl hl.1 rfl (lv_room (Nat.le_of_ble_eq_true rfl)) dX9_creditedAfter_4 ⟨(Nat.le_of_ble_eq_true rfl), (Nat.le_of_ble_eq_true rfl)⟩) hS (fun q _ h => hFc q h) hFc (fun u t H1 locs ht hvm hw hB hz1 hk1 hS => ?_)
  obtain ⟨hP1, hD1⟩ := hB
  rw [ht] at hP1
  obtain ⟨hP, hD⟩ := va_join (wr := [(h0, .inr (10, [.ref b0, .int 0, .ref p0, .ref u0, .ref r0, .ref a0, .ref t0, .ref s0, .ref o0])), (t0, .inr (4, [x0, .ref t1, .ref t3, .ref t4, .ref t5, .ref t6, x6, x7, x8, x9, x10, x11, x12, x13, x14, x15, x16, x17, x18, x19])), (t1, .inr (6, [.ref t2, .int n2, .int k2])), (t2, .inl (cA 0, 240, .inl q2)), (t3, .inl (cA 0, 10, .inl q3)), (t4, .inl (cA 0, 10, .inl q4)), (t5, .inl (cA 0, 10, .inl q5)), (t6, .inl (cA 0, 10, .inl q6)), (a0, .inr (4, [.ref p0, .ref a1, .ref a3, .ref a4, .ref a5, .ref a6, .int 0, .int 0, .int 0, .long 0, .long 0, .long 0, .int 0, .int 0, .int 0, .int 0, .int 365, .int 0, .int 0, .int 0])), (a1, .inr (6, [.ref a2, .int 0, .int 0])), (a2, .inl (cA 0, 240, .inl e2)), (a3, .inl (cA 0, 10, .inl e3)), (a4, .inl (cA 0, 10, .inl e4)), (a5, .inl (cA 0, 10, .inl e5)), (a6, .inl (cA 0, 10, .inl e6)), (p0, .inr (7, [.int 0, .int 365, .int 0, .int 0, .ref p1, .int 0, .ref p2, .ref p3, .ref p4, .ref p5, .int 0, .ref p6, .int 0, .ref p7, .ref p8, .ref p9, .int 0]))]) (w1 := []) hP hD [] [0, 1, 2, 3, 4, 5, 6, 7, 8, 9, 10, 11, 12, 13, 14, 15] rfl rfl (by decide) (by decide) hk1 hFc hP1 hD1
  generalize H1 = H at hP hS ⊢
  have hP : va_P D vwCl [(h0, .inr (10, [.ref b0, .int 0, .ref p0, .ref u0, .ref r0, .ref a0, .ref t0, .ref s0, .ref o0])), (t0, .inr (4, [x0, .ref t1, .ref t3, .ref t4, .ref t5, .ref t6, x6, x7, x8, x9, x10, x11, x12, x13, x14, x15, x16, x17, x18, x19])), (t1, .inr (6, [.ref t2, .int n2, .int k2])), (t2, .inl (cA 0, 240, .inl q2)), (t3, .inl (cA 0, 10, .inl q3)), (t4, .inl (cA 0, 10, .inl q4)), (t5, .inl (cA 0, 10, .inl q5)), (t6, .inl (cA 0, 10, .inl q6)), (a0, .inr (4, [.ref p0, .ref a1, .ref a3, .ref a4, .ref a5, .ref a6, .int 0, .int 0, .int 0, .long 0, .long 0, .long 0, .int 0, .int 0, .int 0, .int 0, .int 365, .int 0, .int 0, .int 0])), (a1, .inr (6, [.ref a2, .int 0, .int 0])), (a2, .inl (cA 0, 240, .inl e2)), (a3, .inl (cA 0, 10, .inl e3)), (a4, .inl (cA 0, 10, .inl e4)), (a5, .inl (cA 0, 10, .inl e5)), (a6, .inl (cA 0, 10, .inl e6)), (p0, .inr (7, [.int 0, .int 365, .int 0, .int 0, .ref p1, .int 0, .ref p2, .ref p3, .ref p4, .ref p5, .int 0, .ref p6, .int 0, .ref p7, .ref p8, .ref p9, .int 0]))] H := hP
  have hD : va_D A [(h0, .inr (10, [.ref b0, .int 0, .ref p0, .ref u0, .ref r0, .ref a0, .ref t0, .ref s0, .ref o0])), (t0, .inr (4, [x0, .ref t1, .ref t3, .ref t4, .ref t5, .ref t6, x6, x7, x8, x9, x10, x11, x12, x13, x14, x15, x16, x17, x18, x19])), (t1, .inr (6, [.ref t2, .int n2, .int k2])), (t2, .inl (cA 0, 240, .inl q2)), (t3, .inl (cA 0, 10, .inl q3)), (t4, .inl (cA 0, 10, .inl q4)), (t5, .inl (cA 0, 10, .inl q5)), (t6, .inl (cA 0, 10, .inl q6)), (a0, .inr (4, [.ref p0, .ref a1, .ref a3, .ref a4, .ref a5, .ref a6, .int 0, .int 0, .int 0, .long 0, .long 0, .long 0, .int 0, .int 0, .int 0, .int 0, .int 365, .int 0, .int 0, .int 0])), (a1, .inr (6, [.ref a2, .int 0, .int 0])), (a2, .inl (cA 0, 240, .inl e2)), (a3, .inl (cA 0, 10, .inl e3)), (a4, .inl (cA 0, 10, .inl e4)), (a5, .inl (cA 0, 10, .inl e5)), (a6, .inl (cA 0, 10, .inl e6)), (p0, .inr (7, [.int 0, .int 365, .int 0, .int 0, .ref p1, .int 0, .ref p2, .ref p3, .ref p4, .ref p5, .int 0, .ref p6, .int 0, .ref p7, .ref p8, .ref p9, .int 0]))] := hD
  refine lv_aload_n hx hb dX9_creditedAfter_7 rfl (lv_at hl 0 rfl) ?_
  refine lv_iload_n hx hb dX9_creditedAfter_8 rfl (lv_at hl 1 rfl) ?_
  have hPc := hP.sub (ws' := [(h0, .inr (10, [.ref b0, .int 0, .ref p0, .ref u0, .ref r0, .ref a0, .ref t0, .ref s0, .ref o0])), (t0, .inr (4, [x0, .ref t1, .ref t3, .ref t4, .ref t5, .ref t6, x6, x7, x8, x9, x10, x11, x12, x13, x14, x15, x16, x17, x18, x19])), (t1, .inr (6, [.ref t2, .int n2, .int k2])), (t2, .inl (cA 0, 240, .inl q2)), (t3, .inl (cA 0, 10, .inl q3)), (t4, .inl (cA 0, 10, .inl q4)), (t5, .inl (cA 0, 10, .inl q5)), (t6, .inl (cA 0, 10, .inl q6)), (a0, .inr (4, [.ref p0, .ref a1, .ref a3, .ref a4, .ref a5, .ref a6, .int 0, .int 0, .int 0, .long 0, .long 0, .long 0, .int 0, .int 0, .int 0, .int 0, .int 365, .int 0, .int 0, .int 0])), (a1, .inr (6, [.ref a2, .int 0, .int 0])), (a2, .inl (cA 0, 240, .inl e2)), (a3, .inl (cA 0, 10, .inl e3)), (a4, .inl (cA 0, 10, .inl e4)), (a5, .inl (cA 0, 10, .inl e5)), (a6, .inl (cA 0, 10, .inl e6)), (p0, .inr (7, [.int 0, .int 365, .int 0, .int 0, .ref p1, .int 0, .ref p2, .ref p3, .ref p4, .ref p5, .int 0, .ref p6, .int 0, .ref p7, .ref p8, .ref p9, .int 0]))]) [0, 1, 2, 3, 4, 5, 6, 7, 8, 9, 10, 11, 12, 13, 14, 15] rfl
  have hDc := hD.sub (ws' := [(h0, .inr (10, [.ref b0, .int 0, .ref p0, .ref u0, .ref r0, .ref a0, .ref t0, .ref s0, .ref o0])), (t0, .inr (4, [x0, .ref t1, .ref t3, .ref t4, .ref t5, .ref t6, x6, x7, x8, x9, x10, x11, x12, x13, x14, x15, x16, x17, x18, x19])), (t1, .inr (6, [.ref t2, .int n2, .int k2])), (t2, .inl (cA 0, 240, .inl q2)), (t3, .inl (cA 0, 10, .inl q3)), (t4, .inl (cA 0, 10, .inl q4)), (t5, .inl (cA 0, 10, .inl q5)), (t6, .inl (cA 0, 10, .inl q6)), (a0, .inr (4, [.ref p0, .ref a1, .ref a3, .ref a4, .ref a5, .ref a6, .int 0, .int 0, .int 0, .long 0, .long 0, .long 0, .int 0, .int 0, .int 0, .int 0, .int 365, .int 0, .int 0, .int 0])), (a1, .inr (6, [.ref a2, .int 0, .int 0])), (a2, .inl (cA 0, 240, .inl e2)), (a3, .inl (cA 0, 10, .inl e3)), (a4, .inl (cA 0, 10, .inl e4)), (a5, .inl (cA 0, 10, .inl e5)), (a6, .inl (cA 0, 10, .inl e6)), (p0, .inr (7, [.int 0, .int 365, .int 0, .int 0, .ref p1, .int 0, .ref p2, .ref p3, .ref p4, .ref p5, .int 0, .ref p6, .int 0, .ref p7, .ref p8, .ref p9, .int 0]))]) [0, 1, 2, 3, 4, 5, 6, 7, 8, 9, 10, 11, 12, 13, 14, 15] (by decide) rfl
  have hFc := va_free (wc := [(h0, .inr (10, [.ref b0, .int 0, .ref p0, .ref u0, .ref r0, .ref a0, .ref t0, .ref s0, .ref o0])), (t0, .inr (4, [x0, .ref t1, .ref t3, .ref t4, .ref t5, .ref t6, x6, x7, x8, x9, x10, x11, x12, x13, x14, x15, x16, x17, x18, x19])), (t1, .inr (6, [.ref t2, .int n2, .int k2])), (t2, .inl (cA 0, 240, .inl q2)), (t3, .inl (cA 0, 10, .inl q3)), (t4, .inl (cA 0, 10, .inl q4)), (t5, .inl (cA 0, 10, .inl q5)), (t6, .inl (cA 0, 10, .inl q6)), (a0, .inr (4, [.ref p0, .ref a1, .ref a3, .ref a4, .ref a5, .ref a6, .int 0, .int 0, .int 0, .long 0, .long 0, .long 0, .int 0, .int 0, .int 0, .int 0, .int 365, .int 0, .int 0, .int 0])), (a1, .inr (6, [.ref a2, .int 0, .int 0])), (a2, .inl (cA 0, 240, .inl e2)), (a3, .inl (cA 0, 10, .inl e3)), (a4, .inl (cA 0, 10, .inl e4)), (a5, .inl (cA 0, 10, .inl e5)), (a6, .inl (cA 0, 10, .inl e6)), (p0, .inr (7, [.int 0, .int 365, .int 0, .int 0, .ref p1, .int 0, .ref p2, .ref p3, .ref p4, .ref p5, .int 0, .ref p6, .int 0, .ref p7, .ref p8, .ref p9, .int 0]))]) hD hS hA [0, 1, 2, 3, 4, 5, 6, 7, 8, 9, 10, 11, 12, 13, 14, 15] rfl
  refine va_callv (va_runV (As := [.int (nI N)]) (rest := []) ⟨hx, hb, hml, hown, hts⟩ (c_tryDays l D cA sa h0 b0 p0 u0 r0 a0 t0 s0 o0 t1 t2 t3 t4 t5 t6 a1 a2 a3 a4 a5 a6 p1 p2 p3 p4 p5 p6 p7 p8 p9 x0 x6 x7 x8 x9 x10 x11 x12 x13 x14 x15 x16 x17 x18 x19 n2 k2 q2 q3 q4 q5 q6 e2 e3 e4 e5 e6 N H.size hN) (cwV 1 hts gX9_creditedAfter_X9_tryDays rfl rfl rfl (by decide +kernel) ⟨(Nat.le_of_ble_eq_true rfl), (Nat.le_of_ble_eq_true rfl)⟩) ⟨Wd.blind, va_recv hK hPc (ci := 10) (q0 := 0) rfl rfl, fun U hU hW => ⟨rfl, Wd.call hPc hDc hK hC hZ hS hFc U hU hW⟩⟩ rfl rfl hl.1 rfl (lv_room (Nat.le_of_ble_eq_true rfl)) dX9_creditedAfter_9 ⟨(Nat.le_of_ble_eq_true rfl), (Nat.le_of_ble_eq_true rfl)⟩) hS (fun q _ h => hFc q h) hFc (fun u t H1 locs ht hvm hw hB hz1 hk1 hS => ?_)
  obtain ⟨zn1, hP1, hD1⟩ := hB
  rw [ht] at hP1
  obtain ⟨hP, hD⟩ := va_join (wr := []) (w1 := [(h0, .inr (10, [.ref b0, .int 0, .ref p0, .ref u0, .ref r0, .ref a0, .ref t0, .ref s0, .ref o0])), (t0, .inr (4, [.ref p0, .ref t1, .ref t3, .ref t4, .ref t5, .ref t6, .int zn1, .int 0, .int 0, .long 0, .long 0, .long 0, .int 0, .int 0, .int 0, .int 0, .int 365, .int 0, .int 0, .int 0]))]) hP hD [0, 1, 2, 3, 4, 5, 6, 7, 8, 9, 10, 11, 12, 13, 14, 15] [] rfl rfl (by decide) (by decide) hk1 hFc hP1 hD1
  generalize H1 = H at hP hS ⊢
  have hP : va_P D vwCl [(h0, .inr (10, [.ref b0, .int 0, .ref p0, .ref u0, .ref r0, .ref a0, .ref t0, .ref s0, .ref o0])), (t0, .inr (4, [.ref p0, .ref t1, .ref t3, .ref t4, .ref t5, .ref t6, .int zn1, .int 0, .int 0, .long 0, .long 0, .long 0, .int 0, .int 0, .int 0, .int 0, .int 365, .int 0, .int 0, .int 0]))] H := hP
  have hD : va_D A [(h0, .inr (10, [.ref b0, .int 0, .ref p0, .ref u0, .ref r0, .ref a0, .ref t0, .ref s0, .ref o0])), (t0, .inr (4, [.ref p0, .ref t1, .ref t3, .ref t4, .ref t5, .ref t6, .int zn1, .int 0, .int 0, .long 0, .long 0, .long 0, .int 0, .int 0, .int 0, .int 0, .int 365, .int 0, .int 0, .int 0]))] := hD
  refine lv_aload_n hx hb dX9_creditedAfter_12 rfl (lv_at hl 0 rfl) ?_
  refine va_get (D := D) (ci := 10) (v := .ref t0) (C := RX9) (T := TX9) (N := 9) hx hb hts inX9 hown hK hP 0 rfl rfl 6 (by decide) (hts (.fieldLink RX9 39 "EscrowDesk" "trial" "LEscrowDesk$Account;") (by decide +kernel)) (fun _ h9 => h9) rfl dX9_creditedAfter_13 ?_
  refine va_getN (D := D) (ci := 4) (v := .long 0) (C := RX0) (T := TX0) (N := 20) hx hb hts inX0 hown hK hP 1 rfl rfl 10 (by decide) (hC.f (A := _) (a := RX9) (i := 104) (b := "EscrowDesk$Account") (n := "credited") (d := "J") (x := "EscrowDesk") (by decide +kernel)) (fun _ h9 => h9) rfl dX9_creditedAfter_16 ?_
  refine lv_l2i (v := 0) hx hb dX9_creditedAfter_19 (by decide) ?_
  have hP9 := hP.sub (ws' := []) [] rfl
  have hD9 := hD.sub (ws' := []) [] (by decide) rfl
  refine W.widen (k := 0) (n := 0) (Nat.le_of_ble_eq_true rfl) (Nat.le_of_ble_eq_true rfl) ?_
  exact W.iret (v := 0) hx hb hr (fun t ht hW => ⟨⟨0, (), rfl, rfl, by rw [ht]; exact hP9, hD9⟩, hS.F ht⟩) hS.2.2 dX9_creditedAfter_20

set_option maxHeartbeats 4000000 in
set_option maxRecDepth 100000 in
/-- shortDay within -/
theorem c_shortDay_ret (l : Launch) (D : va_G) (cA : Nat → ClassId) (sa : Nat → Nat) (h0 b0 p0 u0 r0 a0 t0 s0 o0 t1 t2 t3 t4 t5 t6 a1 a2 a3 a4 a5 a6 p1 p2 p3 p4 p5 p6 p7 p8 p9 : Nat) (x0 x6 x7 x8 x9 x10 x11 x12 x13 x14 x15 x16 x17 x18 x19 : Value) (n2 k2 : Int32) (q2 q3 q4 q5 q6 e2 e3 e4 e5 e6 : Nat → Int32) (N : Nat) (sz : Nat) (hN1 : 1 ≤ N) (hN : N ≤ 120) : Met l yX9_shortDay wsX9_shortDay ({ frames := 3, cells := 0, slots := 0, locals := 102 }) (va_Pc [.ref h0, .int (nI N)] (Wd D cA sa [(h0, .inr (10, [.ref b0, .int 0, .ref p0, .ref u0, .ref r0, .ref a0, .ref t0, .ref s0, .ref o0])), (t0, .inr (4, [x0, .ref t1, .ref t3, .ref t4, .ref t5, .ref t6, x6, x7, x8, x9, x10, x11, x12, x13, x14, x15, x16, x17, x18, x19])), (t1, .inr (6, [.ref t2, .int n2, .int k2])), (t2, .inl (cA 0, 240, .inl q2)), (t3, .inl (cA 0, 10, .inl q3)), (t4, .inl (cA 0, 10, .inl q4)), (t5, .inl (cA 0, 10, .inl q5)), (t6, .inl (cA 0, 10, .inl q6)), (a0, .inr (4, [.ref p0, .ref a1, .ref a3, .ref a4, .ref a5, .ref a6, .int 0, .int 0, .int 0, .long 0, .long 0, .long 0, .int 0, .int 0, .int 0, .int 0, .int 365, .int 0, .int 0, .int 0])), (a1, .inr (6, [.ref a2, .int 0, .int 0])), (a2, .inl (cA 0, 240, .inl e2)), (a3, .inl (cA 0, 10, .inl e3)), (a4, .inl (cA 0, 10, .inl e4)), (a5, .inl (cA 0, 10, .inl e5)), (a6, .inl (cA 0, 10, .inl e6)), (p0, .inr (7, [.int 0, .int 365, .int 0, .int 0, .ref p1, .int 0, .ref p2, .ref p3, .ref p4, .ref p5, .int 0, .ref p6, .int 0, .ref p7, .ref p8, .ref p9, .int 0]))] sz)) (va_Qi (fun (r : Int32) (_ : Unit) => r = (-1)) (fun (_ : Unit) t => Wq D (va_A [(h0, .inr (10, [.ref b0, .int 0, .ref p0, .ref u0, .ref r0, .ref a0, .ref t0, .ref s0, .ref o0])), (t0, .inr (4, [x0, .ref t1, .ref t3, .ref t4, .ref t5, .ref t6, x6, x7, x8, x9, x10, x11, x12, x13, x14, x15, x16, x17, x18, x19])), (t1, .inr (6, [.ref t2, .int n2, .int k2])), (t2, .inl (cA 0, 240, .inl q2)), (t3, .inl (cA 0, 10, .inl q3)), (t4, .inl (cA 0, 10, .inl q4)), (t5, .inl (cA 0, 10, .inl q5)), (t6, .inl (cA 0, 10, .inl q6)), (a0, .inr (4, [.ref p0, .ref a1, .ref a3, .ref a4, .ref a5, .ref a6, .int 0, .int 0, .int 0, .long 0, .long 0, .long 0, .int 0, .int 0, .int 0, .int 0, .int 365, .int 0, .int 0, .int 0])), (a1, .inr (6, [.ref a2, .int 0, .int 0])), (a2, .inl (cA 0, 240, .inl e2)), (a3, .inl (cA 0, 10, .inl e3)), (a4, .inl (cA 0, 10, .inl e4)), (a5, .inl (cA 0, 10, .inl e5)), (a6, .inl (cA 0, 10, .inl e6)), (p0, .inr (7, [.int 0, .int 365, .int 0, .int 0, .ref p1, .int 0, .ref p2, .ref p3, .ref p4, .ref p5, .int 0, .ref p6, .int 0, .ref p7, .ref p8, .ref p9, .int 0]))] sz) [] t) (va_A [(h0, .inr (10, [.ref b0, .int 0, .ref p0, .ref u0, .ref r0, .ref a0, .ref t0, .ref s0, .ref o0])), (t0, .inr (4, [x0, .ref t1, .ref t3, .ref t4, .ref t5, .ref t6, x6, x7, x8, x9, x10, x11, x12, x13, x14, x15, x16, x17, x18, x19])), (t1, .inr (6, [.ref t2, .int n2, .int k2])), (t2, .inl (cA 0, 240, .inl q2)), (t3, .inl (cA 0, 10, .inl q3)), (t4, .inl (cA 0, 10, .inl q4)), (t5, .inl (cA 0, 10, .inl q5)), (t6, .inl (cA 0, 10, .inl q6)), (a0, .inr (4, [.ref p0, .ref a1, .ref a3, .ref a4, .ref a5, .ref a6, .int 0, .int 0, .int 0, .long 0, .long 0, .long 0, .int 0, .int 0, .int 0, .int 0, .int 365, .int 0, .int 0, .int 0])), (a1, .inr (6, [.ref a2, .int 0, .int 0])), (a2, .inl (cA 0, 240, .inl e2)), (a3, .inl (cA 0, 10, .inl e3)), (a4, .inl (cA 0, 10, .inl e4)), (a5, .inl (cA 0, 10, .inl e5)), (a6, .inl (cA 0, 10, .inl e6)), (p0, .inr (7, [.int 0, .int 365, .int 0, .int 0, .ref p1, .int 0, .ref p2, .ref p3, .ref p4, .ref p5, .int 0, .ref p6, .int 0, .ref p7, .ref p8, .ref p9, .int 0]))] sz)) 0 0 (va_A [(h0, .inr (10, [.ref b0, .int 0, .ref p0, .ref u0, .ref r0, .ref a0, .ref t0, .ref s0, .ref o0])), (t0, .inr (4, [x0, .ref t1, .ref t3, .ref t4, .ref t5, .ref t6, x6, x7, x8, x9, x10, x11, x12, x13, x14, x15, x16, x17, x18, x19])), (t1, .inr (6, [.ref t2, .int n2, .int k2])), (t2, .inl (cA 0, 240, .inl q2)), (t3, .inl (cA 0, 10, .inl q3)), (t4, .inl (cA 0, 10, .inl q4)), (t5, .inl (cA 0, 10, .inl q5)), (t6, .inl (cA 0, 10, .inl q6)), (a0, .inr (4, [.ref p0, .ref a1, .ref a3, .ref a4, .ref a5, .ref a6, .int 0, .int 0, .int 0, .long 0, .long 0, .long 0, .int 0, .int 0, .int 0, .int 0, .int 365, .int 0, .int 0, .int 0])), (a1, .inr (6, [.ref a2, .int 0, .int 0])), (a2, .inl (cA 0, 240, .inl e2)), (a3, .inl (cA 0, 10, .inl e3)), (a4, .inl (cA 0, 10, .inl e4)), (a5, .inl (cA 0, 10, .inl e5)), (a6, .inl (cA 0, 10, .inl e6)), (p0, .inr (7, [.int 0, .int 365, .int 0, .int 0, .ref p1, .int 0, .ref p2, .ref p3, .ref p4, .ref p5, .int 0, .ref p6, .int 0, .ref p7, .ref p8, .ref p9, .int 0]))] sz) := by
  refine Met.ofW (cc := cX9_shortDay) (maxL := 3) (ret := (some .int)) (by decide) rfl ?_
  intro p e s m args below meth c s₁ B hml hv
  obtain ⟨rfl, hsz, hP, hK, hD0, hC, hZ⟩ := hv
  have hx := B.exec
  have hb := B.bytes
  have hr := B.returns
  have hts := atoms_spec (ws := wsX9_shortDay) B.pre
  have hown : s.vm.findClass RX9 = some m.cls := findClass_of_methodNamed B.named
  have hlocks := B.notSynchronized
  subst hsz
  have hD := hD0.self (sz := s.heap.size)
  generalize hAe : va_A [(h0, .inr (10, [.ref b0, .int 0, .ref p0, .ref u0, .ref r0, .ref a0, .ref t0, .ref s0, .ref o0])), (t0, .inr (4, [x0, .ref t1, .ref t3, .ref t4, .ref t5, .ref t6, x6, x7, x8, x9, x10, x11, x12, x13, x14, x15, x16, x17, x18, x19])), (t1, .inr (6, [.ref t2, .int n2, .int k2])), (t2, .inl (cA 0, 240, .inl q2)), (t3, .inl (cA 0, 10, .inl q3)), (t4, .inl (cA 0, 10, .inl q4)), (t5, .inl (cA 0, 10, .inl q5)), (t6, .inl (cA 0, 10, .inl q6)), (a0, .inr (4, [.ref p0, .ref a1, .ref a3, .ref a4, .ref a5, .ref a6, .int 0, .int 0, .int 0, .long 0, .long 0, .long 0, .int 0, .int 0, .int 0, .int 0, .int 365, .int 0, .int 0, .int 0])), (a1, .inr (6, [.ref a2, .int 0, .int 0])), (a2, .inl (cA 0, 240, .inl e2)), (a3, .inl (cA 0, 10, .inl e3)), (a4, .inl (cA 0, 10, .inl e4)), (a5, .inl (cA 0, 10, .inl e5)), (a6, .inl (cA 0, 10, .inl e6)), (p0, .inr (7, [.int 0, .int 365, .int 0, .int 0, .ref p1, .int 0, .ref p2, .ref p3, .ref p4, .ref p5, .int 0, .ref p6, .int 0, .ref p7, .ref p8, .ref p9, .int 0]))] s.heap.size = A at hD hZ ⊢
  have hA : ∀ q : Nat, s.heap.size ≤ q → A q := fun q h => by rw [← hAe]; exact Or.inr h
  have hS : va_S A s.heap s.heap [] := va_S.rf
  have hP : va_P D vwCl [(h0, .inr (10, [.ref b0, .int 0, .ref p0, .ref u0, .ref r0, .ref a0, .ref t0, .ref s0, .ref o0])), (t0, .inr (4, [x0, .ref t1, .ref t3, .ref t4, .ref t5, .ref t6, x6, x7, x8, x9, x10, x11, x12, x13, x14, x15, x16, x17, x18, x19])), (t1, .inr (6, [.ref t2, .int n2, .int k2])), (t2, .inl (cA 0, 240, .inl q2)), (t3, .inl (cA 0, 10, .inl q3)), (t4, .inl (cA 0, 10, .inl q4)), (t5, .inl (cA 0, 10, .inl q5)), (t6, .inl (cA 0, 10, .inl q6)), (a0, .inr (4, [.ref p0, .ref a1, .ref a3, .ref a4, .ref a5, .ref a6, .int 0, .int 0, .int 0, .long 0, .long 0, .long 0, .int 0, .int 0, .int 0, .int 0, .int 365, .int 0, .int 0, .int 0])), (a1, .inr (6, [.ref a2, .int 0, .int 0])), (a2, .inl (cA 0, 240, .inl e2)), (a3, .inl (cA 0, 10, .inl e3)), (a4, .inl (cA 0, 10, .inl e4)), (a5, .inl (cA 0, 10, .inl e5)), (a6, .inl (cA 0, 10, .inl e6)), (p0, .inr (7, [.int 0, .int 365, .int 0, .int 0, .ref p1, .int 0, .ref p2, .ref p3, .ref p4, .ref p5, .int 0, .ref p6, .int 0, .ref p7, .ref p8, .ref p9, .int 0]))] s.heap := hP
  have hl := lv_entry ([.ref h0, .int (nI N)]) (n := 3) (Nat.le_of_ble_eq_true rfl)
  rw [lg_entry_eq]
  generalize (lg_sl ([.ref h0, .int (nI N)]) ++ List.replicate (3 - (lg_sl ([.ref h0, .int (nI N)])).length) Slot.unset).toArray = ls at hl ⊢
  have hl : lv_has ls 3 [(0, .ref h0), (1, .int (nI N))] := hl
  have inX9 : ∀ w ∈ u_ws RX9 TX9 9, w ∈ wsX9_shortDay := by decide +kernel
  refine lv_iload_n hx hb dX9_shortDay_0 rfl (lv_at hl 1 rfl) ?_
  refine lv_iconst (v := 1) hx hb dX9_shortDay_1 (by decide) ?_
  refine lv_bipush (v := 120) hx hb dX9_shortDay_2 (by decide) ?_
  have hPc := hP.sub (ws' := []) [] rfl
  have hDc := hD.sub (ws' := []) [] (by decide) rfl
  have hFc := va_free (wc := []) hD hS hA [] rfl
  refine va_callv (va_runS (As := [.int (nI N), .int 1, .int 120]) (rest := []) ⟨hx, hb, hml, hown, hts⟩ (c_needRange_ret l D cA sa (nI N) 1 120 s.heap.size (nI_nlt (b := 1) hN1 (by omega)) (nI_nlt (a := 120) hN (by decide))) (va_cwS 3 hts gX9_shortDay_X9_needRange rfl rfl rfl (by decide +kernel) ⟨(Nat.le_of_ble_eq_true rfl), (Nat.le_of_ble_eq_true rfl)⟩) ⟨Wd.blind, fun U hU hW => ⟨rfl, Wd.call hPc hDc hK hC hZ hS hFc U hU hW⟩⟩ rfl rfl hl.1 rfl (lv_room (Nat.le_of_ble_eq_true rfl)) dX9_shortDay_4 ⟨(Nat.le_of_ble_eq_true rfl), (Nat.le_of_ble_eq_true rfl)⟩) hS (fun q _ h => hFc q h) hFc (fun u t H1 locs ht hvm hw hB hz1 hk1 hS => ?_)
  obtain ⟨hP1, hD1⟩ := hB
  rw [ht] at hP1
  obtain ⟨hP, hD⟩ := va_join (wr := [(h0, .inr (10, [.ref b0, .int 0, .ref p0, .ref u0, .ref r0, .ref a0, .ref t0, .ref s0, .ref o0])), (t0, .inr (4, [x0, .ref t1, .ref t3, .ref t4, .ref t5, .ref t6, x6, x7, x8, x9, x10, x11, x12, x13, x14, x15, x16, x17, x18, x19])), (t1, .inr (6, [.ref t2, .int n2, .int k2])), (t2, .inl (cA 0, 240, .inl q2)), (t3, .inl (cA 0, 10, .inl q3)), (t4, .inl (cA 0, 10, .inl q4)), (t5, .inl (cA 0, 10, .inl q5)), (t6, .inl (cA 0, 10, .inl q6)), (a0, .inr (4, [.ref p0, .ref a1, .ref a3, .ref a4, .ref a5, .ref a6, .int 0, .int 0, .int 0, .long 0, .long 0, .long 0, .int 0, .int 0, .int 0, .int 0, .int 365, .int 0, .int 0, .int 0])), (a1, .inr (6, [.ref a2, .int 0, .int 0])), (a2, .inl (cA 0, 240, .inl e2)), (a3, .inl (cA 0, 10, .inl e3)), (a4, .inl (cA 0, 10, .inl e4)), (a5, .inl (cA 0, 10, .inl e5)), (a6, .inl (cA 0, 10, .inl e6)), (p0, .inr (7, [.int 0, .int 365, .int 0, .int 0, .ref p1, .int 0, .ref p2, .ref p3, .ref p4, .ref p5, .int 0, .ref p6, .int 0, .ref p7, .ref p8, .ref p9, .int 0]))]) (w1 := []) hP hD [] [0, 1, 2, 3, 4, 5, 6, 7, 8, 9, 10, 11, 12, 13, 14, 15] rfl rfl (by decide) (by decide) hk1 hFc hP1 hD1
  generalize H1 = H at hP hS ⊢
  have hP : va_P D vwCl [(h0, .inr (10, [.ref b0, .int 0, .ref p0, .ref u0, .ref r0, .ref a0, .ref t0, .ref s0, .ref o0])), (t0, .inr (4, [x0, .ref t1, .ref t3, .ref t4, .ref t5, .ref t6, x6, x7, x8, x9, x10, x11, x12, x13, x14, x15, x16, x17, x18, x19])), (t1, .inr (6, [.ref t2, .int n2, .int k2])), (t2, .inl (cA 0, 240, .inl q2)), (t3, .inl (cA 0, 10, .inl q3)), (t4, .inl (cA 0, 10, .inl q4)), (t5, .inl (cA 0, 10, .inl q5)), (t6, .inl (cA 0, 10, .inl q6)), (a0, .inr (4, [.ref p0, .ref a1, .ref a3, .ref a4, .ref a5, .ref a6, .int 0, .int 0, .int 0, .long 0, .long 0, .long 0, .int 0, .int 0, .int 0, .int 0, .int 365, .int 0, .int 0, .int 0])), (a1, .inr (6, [.ref a2, .int 0, .int 0])), (a2, .inl (cA 0, 240, .inl e2)), (a3, .inl (cA 0, 10, .inl e3)), (a4, .inl (cA 0, 10, .inl e4)), (a5, .inl (cA 0, 10, .inl e5)), (a6, .inl (cA 0, 10, .inl e6)), (p0, .inr (7, [.int 0, .int 365, .int 0, .int 0, .ref p1, .int 0, .ref p2, .ref p3, .ref p4, .ref p5, .int 0, .ref p6, .int 0, .ref p7, .ref p8, .ref p9, .int 0]))] H := hP
  have hD : va_D A [(h0, .inr (10, [.ref b0, .int 0, .ref p0, .ref u0, .ref r0, .ref a0, .ref t0, .ref s0, .ref o0])), (t0, .inr (4, [x0, .ref t1, .ref t3, .ref t4, .ref t5, .ref t6, x6, x7, x8, x9, x10, x11, x12, x13, x14, x15, x16, x17, x18, x19])), (t1, .inr (6, [.ref t2, .int n2, .int k2])), (t2, .inl (cA 0, 240, .inl q2)), (t3, .inl (cA 0, 10, .inl q3)), (t4, .inl (cA 0, 10, .inl q4)), (t5, .inl (cA 0, 10, .inl q5)), (t6, .inl (cA 0, 10, .inl q6)), (a0, .inr (4, [.ref p0, .ref a1, .ref a3, .ref a4, .ref a5, .ref a6, .int 0, .int 0, .int 0, .long 0, .long 0, .long 0, .int 0, .int 0, .int 0, .int 0, .int 365, .int 0, .int 0, .int 0])), (a1, .inr (6, [.ref a2, .int 0, .int 0])), (a2, .inl (cA 0, 240, .inl e2)), (a3, .inl (cA 0, 10, .inl e3)), (a4, .inl (cA 0, 10, .inl e4)), (a5, .inl (cA 0, 10, .inl e5)), (a6, .inl (cA 0, 10, .inl e6)), (p0, .inr (7, [.int 0, .int 365, .int 0, .int 0, .ref p1, .int 0, .ref p2, .ref p3, .ref p4, .ref p5, .int 0, .ref p6, .int 0, .ref p7, .ref p8, .ref p9, .int 0]))] := hD
  refine lv_aload_n hx hb dX9_shortDay_7 rfl (lv_at hl 0 rfl) ?_
  refine va_get (D := D) (ci := 10) (v := .ref t0) (C := RX9) (T := TX9) (N := 9) hx hb hts inX9 hown hK hP 0 rfl rfl 6 (by decide) (hts (.fieldLink RX9 39 "EscrowDesk" "trial" "LEscrowDesk$Account;") (by decide +kernel)) (fun _ h9 => h9) rfl dX9_shortDay_8 ?_
  refine lv_aload_n hx hb dX9_shortDay_11 rfl (lv_at hl 0 rfl) ?_
  refine va_get (D := D) (ci := 10) (v := .ref a0) (C := RX9) (T := TX9) (N := 9) hx hb hts inX9 hown hK hP 0 rfl rfl 5 (by decide) (hts (.fieldLink RX9 35 "EscrowDesk" "account" "LEscrowDesk$Account;") (by decide +kernel)) (fun _ h9 => h9) rfl dX9_shortDay_12 ?_
  have hPc := hP.sub (ws' := [(t0, .inr (4, [x0, .ref t1, .ref t3, .ref t4, .ref t5, .ref t6, x6, x7, x8, x9, x10, x11, x12, x13, x14, x15, x16, x17, x18, x19])), (t1, .inr (6, [.ref t2, .int n2, .int k2])), (t2, .inl (cA 0, 240, .inl q2)), (t3, .inl (cA 0, 10, .inl q3)), (t4, .inl (cA 0, 10, .inl q4)), (t5, .inl (cA 0, 10, .inl q5)), (t6, .inl (cA 0, 10, .inl q6)), (a0, .inr (4, [.ref p0, .ref a1, .ref a3, .ref a4, .ref a5, .ref a6, .int 0, .int 0, .int 0, .long 0, .long 0, .long 0, .int 0, .int 0, .int 0, .int 0, .int 365, .int 0, .int 0, .int 0])), (a1, .inr (6, [.ref a2, .int 0, .int 0])), (a2, .inl (cA 0, 240, .inl e2)), (a3, .inl (cA 0, 10, .inl e3)), (a4, .inl (cA 0, 10, .inl e4)), (a5, .inl (cA 0, 10, .inl e5)), (a6, .inl (cA 0, 10, .inl e6))]) [1, 2, 3, 4, 5, 6, 7, 8, 9, 10, 11, 12, 13, 14] rfl
  have hDc := hD.sub (ws' := [(t0, .inr (4, [x0, .ref t1, .ref t3, .ref t4, .ref t5, .ref t6, x6, x7, x8, x9, x10, x11, x12, x13, x14, x15, x16, x17, x18, x19])), (t1, .inr (6, [.ref t2, .int n2, .int k2])), (t2, .inl (cA 0, 240, .inl q2)), (t3, .inl (cA 0, 10, .inl q3)), (t4, .inl (cA 0, 10, .inl q4)), (t5, .inl (cA 0, 10, .inl q5)), (t6, .inl (cA 0, 10, .inl q6)), (a0, .inr (4, [.ref p0, .ref a1, .ref a3, .ref a4, .ref a5, .ref a6, .int 0, .int 0, .int 0, .long 0, .long 0, .long 0, .int 0, .int 0, .int 0, .int 0, .int 365, .int 0, .int 0, .int 0])), (a1, .inr (6, [.ref a2, .int 0, .int 0])), (a2, .inl (cA 0, 240, .inl e2)), (a3, .inl (cA 0, 10, .inl e3)), (a4, .inl (cA 0, 10, .inl e4)), (a5, .inl (cA 0, 10, .inl e5)), (a6, .inl (cA 0, 10, .inl e6))]) [1, 2, 3, 4, 5, 6, 7, 8, 9, 10, 11, 12, 13, 14] (by decide) rfl
  have hFc := va_free (wc := [(t0, .inr (4, [x0, .ref t1, .ref t3, .ref t4, .ref t5, .ref t6, x6, x7, x8, x9, x10, x11, x12, x13, x14, x15, x16, x17, x18, x19])), (t1, .inr (6, [.ref t2, .int n2, .int k2])), (t2, .inl (cA 0, 240, .inl q2)), (t3, .inl (cA 0, 10, .inl q3)), (t4, .inl (cA 0, 10, .inl q4)), (t5, .inl (cA 0, 10, .inl q5)), (t6, .inl (cA 0, 10, .inl q6)), (a0, .inr (4, [.ref p0, .ref a1, .ref a3, .ref a4, .ref a5, .ref a6, .int 0, .int 0, .int 0, .long 0, .long 0, .long 0, .int 0, .int 0, .int 0, .int 0, .int 365, .int 0, .int 0, .int 0])), (a1, .inr (6, [.ref a2, .int 0, .int 0])), (a2, .inl (cA 0, 240, .inl e2)), (a3, .inl (cA 0, 10, .inl e3)), (a4, .inl (cA 0, 10, .inl e4)), (a5, .inl (cA 0, 10, .inl e5)), (a6, .inl (cA 0, 10, .inl e6))]) hD hS hA [1, 2, 3, 4, 5, 6, 7, 8, 9, 10, 11, 12, 13, 14] rfl
  refine va_callv (va_runV (As := [.ref a0]) (rest := []) ⟨hx, hb, hml, hown, hts⟩ (c_X0_copyFrom l D cA sa t0 t1 t2 t3 t4 t5 t6 a0 a1 a2 a3 a4 a5 a6 p0 x0 x6 x7 x8 x9 x10 x11 x12 x13 x14 x15 x16 x17 x18 x19 n2 k2 0 0 0 0 0 0 0 0 0 365 0 0 0 0 0 0 q2 q3 q4 q5 q6 e2 e3 e4 e5 e6 H.size) (cwV 1 hts gX9_shortDay_X0_copyFrom rfl rfl rfl (by decide +kernel) ⟨(Nat.le_of_ble_eq_true rfl), (Nat.le_of_ble_eq_true rfl)⟩) ⟨Wd.blind, va_recv hK hPc (ci := 4) (q0 := 0) rfl rfl, fun U hU hW => ⟨rfl, Wd.call hPc hDc hK hC hZ hS hFc U hU hW⟩⟩ rfl rfl hl.1 rfl (lv_room (Nat.le_of_ble_eq_true rfl)) dX9_shortDay_15 ⟨(Nat.le_of_ble_eq_true rfl), (Nat.le_of_ble_eq_true rfl)⟩) hS (fun q _ h => hFc q h) hFc (fun u t H1 locs ht hvm hw hB hz1 hk1 hS => ?_)
  obtain ⟨fn1, fn2, fn3, fn4, fn5, hP1, hD1⟩ := hB
  rw [ht] at hP1
  obtain ⟨hP, hD⟩ := va_join (wr := [(h0, .inr (10, [.ref b0, .int 0, .ref p0, .ref u0, .ref r0, .ref a0, .ref t0, .ref s0, .ref o0])), (p0, .inr (7, [.int 0, .int 365, .int 0, .int 0, .ref p1, .int 0, .ref p2, .ref p3, .ref p4, .ref p5, .int 0, .ref p6, .int 0, .ref p7, .ref p8, .ref p9, .int 0]))]) (w1 := [(t0, .inr (4, [.ref p0, .ref t1, .ref t3, .ref t4, .ref t5, .ref t6, .int 0, .int 0, .int 0, .long 0, .long 0, .long 0, .int 0, .int 0, .int 0, .int 0, .int 365, .int 0, .int 0, .int 0])), (t1, .inr (6, [.ref t2, .int 0, .int 0])), (t2, .inl (cA 0, 240, .inl fn1)), (t3, .inl (cA 0, 10, .inl fn2)), (t4, .inl (cA 0, 10, .inl fn3)), (t5, .inl (cA 0, 10, .inl fn4)), (t6, .inl (cA 0, 10, .inl fn5)), (a0, .inr (4, [.ref p0, .ref a1, .ref a3, .ref a4, .ref a5, .ref a6, .int 0, .int 0, .int 0, .long 0, .long 0, .long 0, .int 0, .int 0, .int 0, .int 0, .int 365, .int 0, .int 0, .int 0])), (a1, .inr (6, [.ref a2, .int 0, .int 0])), (a2, .inl (cA 0, 240, .inl e2)), (a3, .inl (cA 0, 10, .inl e3)), (a4, .inl (cA 0, 10, .inl e4)), (a5, .inl (cA 0, 10, .inl e5)), (a6, .inl (cA 0, 10, .inl e6))]) hP hD [1, 2, 3, 4, 5, 6, 7, 8, 9, 10, 11, 12, 13, 14] [0, 15] rfl rfl (by decide) (by decide) hk1 hFc hP1 hD1
  generalize H1 = H at hP hS ⊢
  have hP : va_P D vwCl [(h0, .inr (10, [.ref b0, .int 0, .ref p0, .ref u0, .ref r0, .ref a0, .ref t0, .ref s0, .ref o0])), (p0, .inr (7, [.int 0, .int 365, .int 0, .int 0, .ref p1, .int 0, .ref p2, .ref p3, .ref p4, .ref p5, .int 0, .ref p6, .int 0, .ref p7, .ref p8, .ref p9, .int 0])), (t0, .inr (4, [.ref p0, .ref t1, .ref t3, .ref t4, .ref t5, .ref t6, .int 0, .int 0, .int 0, .long 0, .long 0, .long 0, .int 0, .int 0, .int 0, .int 0, .int 365, .int 0, .int 0, .int 0])), (t1, .inr (6, [.ref t2, .int 0, .int 0])), (t2, .inl (cA 0, 240, .inl fn1)), (t3, .inl (cA 0, 10, .inl fn2)), (t4, .inl (cA 0, 10, .inl fn3)), (t5, .inl (cA 0, 10, .inl fn4)), (t6, .inl (cA 0, 10, .inl fn5)), (a0, .inr (4, [.ref p0, .ref a1, .ref a3, .ref a4, .ref a5, .ref a6, .int 0, .int 0, .int 0, .long 0, .long 0, .long 0, .int 0, .int 0, .int 0, .int 0, .int 365, .int 0, .int 0, .int 0])), (a1, .inr (6, [.ref a2, .int 0, .int 0])), (a2, .inl (cA 0, 240, .inl e2)), (a3, .inl (cA 0, 10, .inl e3)), (a4, .inl (cA 0, 10, .inl e4)), (a5, .inl (cA 0, 10, .inl e5)), (a6, .inl (cA 0, 10, .inl e6))] H := hP
  have hD : va_D A [(h0, .inr (10, [.ref b0, .int 0, .ref p0, .ref u0, .ref r0, .ref a0, .ref t0, .ref s0, .ref o0])), (p0, .inr (7, [.int 0, .int 365, .int 0, .int 0, .ref p1, .int 0, .ref p2, .ref p3, .ref p4, .ref p5, .int 0, .ref p6, .int 0, .ref p7, .ref p8, .ref p9, .int 0])), (t0, .inr (4, [.ref p0, .ref t1, .ref t3, .ref t4, .ref t5, .ref t6, .int 0, .int 0, .int 0, .long 0, .long 0, .long 0, .int 0, .int 0, .int 0, .int 0, .int 365, .int 0, .int 0, .int 0])), (t1, .inr (6, [.ref t2, .int 0, .int 0])), (t2, .inl (cA 0, 240, .inl fn1)), (t3, .inl (cA 0, 10, .inl fn2)), (t4, .inl (cA 0, 10, .inl fn3)), (t5, .inl (cA 0, 10, .inl fn4)), (t6, .inl (cA 0, 10, .inl fn5)), (a0, .inr (4, [.ref p0, .ref a1, .ref a3, .ref a4, .ref a5, .ref a6, .int 0, .int 0, .int 0, .long 0, .long 0, .long 0, .int 0, .int 0, .int 0, .int 0, .int 365, .int 0, .int 0, .int 0])), (a1, .inr (6, [.ref a2, .int 0, .int 0])), (a2, .inl (cA 0, 240, .inl e2)), (a3, .inl (cA 0, 10, .inl e3)), (a4, .inl (cA 0, 10, .inl e4)), (a5, .inl (cA 0, 10, .inl e5)), (a6, .inl (cA 0, 10, .inl e6))] := hD
  refine lv_iconst (v := 0) hx hb dX9_shortDay_18 (by decide) ?_
  refine lv_istore_n (lv' := [(2, .int 0), (0, .ref h0), (1, .int (nI N))]) hx hb dX9_shortDay_19 rfl hl (by decide) rfl (fun ls hl => ?_)
  have loop : ∀ (n i : Nat) (d : Int32) (H : Heap) (locs : List Loc) (ls : Array Slot), i + n = N → va_P D vwCl [(h0, .inr (10, [.ref b0, .int 0, .ref p0, .ref u0, .ref r0, .ref a0, .ref t0, .ref s0, .ref o0])), (t0, .inr (4, [.ref p0, .ref t1, .ref t3, .ref t4, .ref t5, .ref t6, .int d, .int 0, .int 0, .long 0, .long 0, .long 0, .int 0, .int 0, .int 0, .int 0, .int 365, .int 0, .int 0, .int 0])), (t1, .inr (6, [.ref t2, .int 0, .int 0])), (p0, .inr (7, [.int 0, .int 365, .int 0, .int 0, .ref p1, .int 0, .ref p2, .ref p3, .ref p4, .ref p5, .int 0, .ref p6, .int 0, .ref p7, .ref p8, .ref p9, .int 0]))] H → va_D A [(h0, .inr (10, [.ref b0, .int 0, .ref p0, .ref u0, .ref r0, .ref a0, .ref t0, .ref s0, .ref o0])), (t0, .inr (4, [.ref p0, .ref t1, .ref t3, .ref t4, .ref t5, .ref t6, .int d, .int 0, .int 0, .long 0, .long 0, .long 0, .int 0, .int 0, .int 0, .int 0, .int 365, .int 0, .int 0, .int 0])), (t1, .inr (6, [.ref t2, .int 0, .int 0])), (p0, .inr (7, [.int 0, .int 365, .int 0, .int 0, .ref p1, .int 0, .ref p2, .ref p3, .ref p4, .ref p5, .int 0, .ref p6, .int 0, .ref p7, .ref p8, .ref p9, .int 0]))] → va_S A s.heap H locs → lv_has ls 3 [(2, .int (nI i)), (0, .ref h0), (1, .int (nI N))] → W p l e (headSpec wsX9_shortDay ({ frames := 3, cells := 0, slots := 0, locals := 102 } : Room)).room s m ([.ref h0, .int (nI N)] : List Value).toArray below meth c H locs 0 0 (MQ below (va_Qi (fun (r : Int32) (_ : Unit) => r = (-1)) (fun (_ : Unit) t => Wq D A [] t) A) ([.ref h0, .int (nI N)] : List Value).toArray s 0 0 A) (F0 m 20 ls []) := by
    intro n
    induction n with
    | zero =>
      intro i d H locs ls hi hP hD hS hl
      obtain rfl : N = i := by omega
      refine lv_iload_n hx hb dX9_shortDay_20 rfl (lv_at hl 0 rfl) ?_
      refine lv_iload_n hx hb dX9_shortDay_21 rfl (lv_at hl 2 rfl) ?_
      refine lv_icmp_ge (tgt := 56) hx hb dX9_shortDay_22 (by decide) (fun c6 => ?_) (fun c9 => absurd c9 (fun h3 => h3 (nI_le (Nat.le_refl N) (by omega))))
      refine lv_iconst (v := (-1)) hx hb dX9_shortDay_56 (by decide) ?_
      have hP9 := hP.sub (ws' := []) [] rfl
      have hD9 := hD.sub (ws' := []) [] (by decide) rfl
      refine W.widen (k := 0) (n := 0) (Nat.le_of_ble_eq_true rfl) (Nat.le_of_ble_eq_true rfl) ?_
      exact W.iret (v := (-1)) hx hb hr (fun t ht hW => ⟨⟨(-1), (), rfl, rfl, by rw [ht]; exact hP9, hD9⟩, hS.F ht⟩) hS.2.2 dX9_shortDay_57
    | succ n ih =>
      intro i d H locs ls hi hP hD hS hl
      refine lv_iload_n hx hb dX9_shortDay_20 rfl (lv_at hl 0 rfl) ?_
      refine lv_iload_n hx hb dX9_shortDay_21 rfl (lv_at hl 2 rfl) ?_
      refine lv_icmp_ge (tgt := 56) hx hb dX9_shortDay_22 (by decide) (fun c9 => absurd c9 (nI_ge (show i < N by omega) (by omega))) (fun c7 => ?_)
      refine lv_aload_n hx hb dX9_shortDay_25 rfl (lv_at hl 1 rfl) ?_
      refine va_get (D := D) (ci := 10) (v := .ref t0) (C := RX9) (T := TX9) (N := 9) hx hb hts inX9 hown hK hP 0 rfl rfl 6 (by decide) (hts (.fieldLink RX9 39 "EscrowDesk" "trial" "LEscrowDesk$Account;") (by decide +kernel)) (fun _ h9 => h9) rfl dX9_shortDay_26 ?_
      have hPc := hP.sub (ws' := [(t0, .inr (4, [.ref p0, .ref t1, .ref t3, .ref t4, .ref t5, .ref t6, .int d, .int 0, .int 0, .long 0, .long 0, .long 0, .int 0, .int 0, .int 0, .int 0, .int 365, .int 0, .int 0, .int 0])), (p0, .inr (7, [.int 0, .int 365, .int 0, .int 0, .ref p1, .int 0, .ref p2, .ref p3, .ref p4, .ref p5, .int 0, .ref p6, .int 0, .ref p7, .ref p8, .ref p9, .int 0])), (t1, .inr (6, [.ref t2, .int 0, .int 0]))]) [1, 3, 2] rfl
      have hDc := hD.sub (ws' := [(t0, .inr (4, [.ref p0, .ref t1, .ref t3, .ref t4, .ref t5, .ref t6, .int d, .int 0, .int 0, .long 0, .long 0, .long 0, .int 0, .int 0, .int 0, .int 0, .int 365, .int 0, .int 0, .int 0])), (p0, .inr (7, [.int 0, .int 365, .int 0, .int 0, .ref p1, .int 0, .ref p2, .ref p3, .ref p4, .ref p5, .int 0, .ref p6, .int 0, .ref p7, .ref p8, .ref p9, .int 0])), (t1, .inr (6, [.ref t2, .int 0, .int 0]))]) [1, 3, 2] (by decide) rfl
      have hFc := va_free (wc := [(t0, .inr (4, [.ref p0, .ref t1, .ref t3, .ref t4, .ref t5, .ref t6, .int d, .int 0, .int 0, .long 0, .long 0, .long 0, .int 0, .int 0, .int 0, .int 0, .int 365, .int 0, .int 0, .int 0])), (p0, .inr (7, [.int 0, .int 365, .int 0, .int 0, .ref p1, .int 0, .ref p2, .ref p3, .ref p4, .ref p5, .int 0, .ref p6, .int 0, .ref p7, .ref p8, .ref p9, .int 0])), (t1, .inr (6, [.ref t2, .int 0, .int 0]))]) hD hS hA [1, 3, 2] rfl
      refine va_callv (va_runV (As := []) (rest := []) ⟨hx, hb, hml, hown, hts⟩ (c_liveDay l D cA sa t0 p0 t1 t3 t4 t5 t6 p1 p2 p3 p4 p5 p6 p7 p8 p9 t2 d 0 0 H.size) (cwV 0 hts gX9_shortDay_X0_liveDay rfl rfl rfl (by decide +kernel) ⟨(Nat.le_of_ble_eq_true rfl), (Nat.le_of_ble_eq_true rfl)⟩) ⟨Wd.blind, va_recv hK hPc (ci := 4) (q0 := 0) rfl rfl, fun U hU hW => ⟨rfl, Wd.call hPc hDc hK hC hZ hS hFc U hU hW⟩⟩ rfl rfl hl.1 rfl (lv_room (Nat.le_of_ble_eq_true rfl)) dX9_shortDay_29 ⟨(Nat.le_of_ble_eq_true rfl), (Nat.le_of_ble_eq_true rfl)⟩) hS (fun q _ h => hFc q h) hFc (fun u t H1 locs ht hvm hw hB hz1 hk1 hS => ?_)
      obtain ⟨hP1, hD1⟩ := hB
      rw [ht] at hP1
      obtain ⟨hP, hD⟩ := va_join (wr := [(h0, .inr (10, [.ref b0, .int 0, .ref p0, .ref u0, .ref r0, .ref a0, .ref t0, .ref s0, .ref o0]))]) (w1 := [(t0, .inr (4, [.ref p0, .ref t1, .ref t3, .ref t4, .ref t5, .ref t6, .int (d + 1), .int 0, .int 0, .long 0, .long 0, .long 0, .int 0, .int 0, .int 0, .int 0, .int 365, .int 0, .int 0, .int 0])), (p0, .inr (7, [.int 0, .int 365, .int 0, .int 0, .ref p1, .int 0, .ref p2, .ref p3, .ref p4, .ref p5, .int 0, .ref p6, .int 0, .ref p7, .ref p8, .ref p9, .int 0])), (t1, .inr (6, [.ref t2, .int 0, .int 0]))]) hP hD [1, 3, 2] [0] rfl rfl (by decide) (by decide) hk1 hFc hP1 hD1
      generalize H1 = H at hP hS ⊢
      have hP : va_P D vwCl [(h0, .inr (10, [.ref b0, .int 0, .ref p0, .ref u0, .ref r0, .ref a0, .ref t0, .ref s0, .ref o0])), (t0, .inr (4, [.ref p0, .ref t1, .ref t3, .ref t4, .ref t5, .ref t6, .int (d + 1), .int 0, .int 0, .long 0, .long 0, .long 0, .int 0, .int 0, .int 0, .int 0, .int 365, .int 0, .int 0, .int 0])), (p0, .inr (7, [.int 0, .int 365, .int 0, .int 0, .ref p1, .int 0, .ref p2, .ref p3, .ref p4, .ref p5, .int 0, .ref p6, .int 0, .ref p7, .ref p8, .ref p9, .int 0])), (t1, .inr (6, [.ref t2, .int 0, .int 0]))] H := hP
      have hD : va_D A [(h0, .inr (10, [.ref b0, .int 0, .ref p0, .ref u0, .ref r0, .ref a0, .ref t0, .ref s0, .ref o0])), (t0, .inr (4, [.ref p0, .ref t1, .ref t3, .ref t4, .ref t5, .ref t6, .int (d + 1), .int 0, .int 0, .long 0, .long 0, .long 0, .int 0, .int 0, .int 0, .int 0, .int 365, .int 0, .int 0, .int 0])), (p0, .inr (7, [.int 0, .int 365, .int 0, .int 0, .ref p1, .int 0, .ref p2, .ref p3, .ref p4, .ref p5, .int 0, .ref p6, .int 0, .ref p7, .ref p8, .ref p9, .int 0])), (t1, .inr (6, [.ref t2, .int 0, .int 0]))] := hD
      refine lv_aload_n hx hb dX9_shortDay_32 rfl (lv_at hl 1 rfl) ?_
      refine va_get (D := D) (ci := 10) (v := .ref t0) (C := RX9) (T := TX9) (N := 9) hx hb hts inX9 hown hK hP 0 rfl rfl 6 (by decide) (hts (.fieldLink RX9 39 "EscrowDesk" "trial" "LEscrowDesk$Account;") (by decide +kernel)) (fun _ h9 => h9) rfl dX9_shortDay_33 ?_
      have hPc := hP.sub (ws' := [(t0, .inr (4, [.ref p0, .ref t1, .ref t3, .ref t4, .ref t5, .ref t6, .int (d + 1), .int 0, .int 0, .long 0, .long 0, .long 0, .int 0, .int 0, .int 0, .int 0, .int 365, .int 0, .int 0, .int 0])), (p0, .inr (7, [.int 0, .int 365, .int 0, .int 0, .ref p1, .int 0, .ref p2, .ref p3, .ref p4, .ref p5, .int 0, .ref p6, .int 0, .ref p7, .ref p8, .ref p9, .int 0]))]) [1, 2] rfl
      have hDc := hD.sub (ws' := [(t0, .inr (4, [.ref p0, .ref t1, .ref t3, .ref t4, .ref t5, .ref t6, .int (d + 1), .int 0, .int 0, .long 0, .long 0, .long 0, .int 0, .int 0, .int 0, .int 0, .int 365, .int 0, .int 0, .int 0])), (p0, .inr (7, [.int 0, .int 365, .int 0, .int 0, .ref p1, .int 0, .ref p2, .ref p3, .ref p4, .ref p5, .int 0, .ref p6, .int 0, .ref p7, .ref p8, .ref p9, .int 0]))]) [1, 2] (by decide) rfl
      have hFc := va_free (wc := [(t0, .inr (4, [.ref p0, .ref t1, .ref t3, .ref t4, .ref t5, .ref t6, .int (d + 1), .int 0, .int 0, .long 0, .long 0, .long 0, .int 0, .int 0, .int 0, .int 0, .int 365, .int 0, .int 0, .int 0])), (p0, .inr (7, [.int 0, .int 365, .int 0, .int 0, .ref p1, .int 0, .ref p2, .ref p3, .ref p4, .ref p5, .int 0, .ref p6, .int 0, .ref p7, .ref p8, .ref p9, .int 0]))]) hD hS hA [1, 2] rfl
      refine va_calli (va_runV (As := []) (rest := []) ⟨hx, hb, hml, hown, hts⟩ (c_isShort l D cA sa t0 p0 t1 t3 t4 t5 t6 p1 p2 p3 p4 p5 p6 p7 p8 p9 (d + 1) H.size) (cwV 0 hts gX9_shortDay_X0_isShort rfl rfl rfl (by decide +kernel) ⟨(Nat.le_of_ble_eq_true rfl), (Nat.le_of_ble_eq_true rfl)⟩) ⟨Wd.blind, va_recv hK hPc (ci := 4) (q0 := 0) rfl rfl, fun U hU hW => ⟨rfl, Wd.call hPc hDc hK hC hZ hS hFc U hU hW⟩⟩ rfl rfl hl.1 rfl (lv_room (Nat.le_of_ble_eq_true rfl)) dX9_shortDay_36 ⟨(Nat.le_of_ble_eq_true rfl), (Nat.le_of_ble_eq_true rfl)⟩) hS (fun q _ h => hFc q h) hFc (fun rn8 u t H1 locs ht hvm hw hB hz1 hk1 hS => ?_)
      obtain ⟨hP1, hD1⟩ := hB
      rw [ht] at hP1
      obtain ⟨hP, hD⟩ := va_join (wr := [(h0, .inr (10, [.ref b0, .int 0, .ref p0, .ref u0, .ref r0, .ref a0, .ref t0, .ref s0, .ref o0])), (t1, .inr (6, [.ref t2, .int 0, .int 0]))]) (w1 := [(t0, .inr (4, [.ref p0, .ref t1, .ref t3, .ref t4, .ref t5, .ref t6, .int (d + 1), .int 0, .int 0, .long 0, .long 0, .long 0, .int 0, .int 0, .int 0, .int 0, .int 365, .int 0, .int 0, .int 0])), (p0, .inr (7, [.int 0, .int 365, .int 0, .int 0, .ref p1, .int 0, .ref p2, .ref p3, .ref p4, .ref p5, .int 0, .ref p6, .int 0, .ref p7, .ref p8, .ref p9, .int 0]))]) hP hD [1, 2] [0, 3] rfl rfl (by decide) (by decide) hk1 hFc hP1 hD1
      generalize H1 = H at hP hS ⊢
      have hP : va_P D vwCl [(h0, .inr (10, [.ref b0, .int 0, .ref p0, .ref u0, .ref r0, .ref a0, .ref t0, .ref s0, .ref o0])), (t1, .inr (6, [.ref t2, .int 0, .int 0])), (t0, .inr (4, [.ref p0, .ref t1, .ref t3, .ref t4, .ref t5, .ref t6, .int (d + 1), .int 0, .int 0, .long 0, .long 0, .long 0, .int 0, .int 0, .int 0, .int 0, .int 365, .int 0, .int 0, .int 0])), (p0, .inr (7, [.int 0, .int 365, .int 0, .int 0, .ref p1, .int 0, .ref p2, .ref p3, .ref p4, .ref p5, .int 0, .ref p6, .int 0, .ref p7, .ref p8, .ref p9, .int 0]))] H := hP
      have hD : va_D A [(h0, .inr (10, [.ref b0, .int 0, .ref p0, .ref u0, .ref r0, .ref a0, .ref t0, .ref s0, .ref o0])), (t1, .inr (6, [.ref t2, .int 0, .int 0])), (t0, .inr (4, [.ref p0, .ref t1, .ref t3, .ref t4, .ref t5, .ref t6, .int (d + 1), .int 0, .int 0, .long 0, .long 0, .long 0, .int 0, .int 0, .int 0, .int 0, .int 365, .int 0, .int 0, .int 0])), (p0, .inr (7, [.int 0, .int 365, .int 0, .int 0, .ref p1, .int 0, .ref p2, .ref p3, .ref p4, .ref p5, .int 0, .ref p6, .int 0, .ref p7, .ref p8, .ref p9, .int 0]))] := hD
      obtain rfl : rn8 = 0 := hw
      refine lv_if_eq (tgt := 50) hx hb dX9_shortDay_39 (by decide) (fun c9 => ?_) (fun c9 => absurd c9 (by decide))
      refine lv_iinc (v := (nI (i + 1))) (lv' := [(2, .int (nI (i + 1))), (0, .ref h0), (1, .int (nI N))]) hx hb dX9_shortDay_50 hl (k := 0) rfl (nI_1 _) (by decide) rfl (fun ls hl => ?_)
      refine lv_goto (tgt := 20) hx hb dX9_shortDay_53 (by decide) ?_
      exact ih (i + 1) (d + 1) H _ ls (by omega) (hP.sub [0, 2, 1, 3] rfl) (hD.sub [0, 2, 1, 3] (by decide) rfl) hS (lv_sub hl [0, 1, 2] rfl)
  exact loop N 0 0 _ _ ls (by omega) (hP.sub [0, 2, 3, 1] rfl) (hD.sub [0, 2, 3, 1] (by decide) rfl) hS (lv_sub hl [0, 1, 2] rfl)

set_option maxHeartbeats 4000000 in
set_option maxRecDepth 100000 in
/-- appendBytes at 0 -/
theorem c_appendBytes_0 (l : Launch) (D : va_G) (cA : Nat → ClassId) (sa : Nat → Nat) (h0 b0 p0 u0 r0 a0 t0 s0 o0 : Nat) (w : Int32) (fb : Nat → Int32) (sz : Nat) : Met l yX9_appendBytes wsX9_appendBytes ({ frames := 0, cells := 0, slots := 0, locals := 0 }) (va_Pc [.ref h0, .int w] (Wd D cA sa [(h0, .inr (10, [.ref b0, .int 0, .ref p0, .ref u0, .ref r0, .ref a0, .ref t0, .ref s0, .ref o0])), (b0, .inl (cA 2, 700, .inl fb))] sz)) (va_Qv (fun _ : Unit => True) (fun (_ : Unit) t => ∃ fn27 : Nat → Int32, Wq D (va_A [(h0, .inr (10, [.ref b0, .int 0, .ref p0, .ref u0, .ref r0, .ref a0, .ref t0, .ref s0, .ref o0])), (b0, .inl (cA 2, 700, .inl fb))] sz) [(h0, .inr (10, [.ref b0, .int 4, .ref p0, .ref u0, .ref r0, .ref a0, .ref t0, .ref s0, .ref o0])), (b0, .inl (cA 2, 700, .inl fn27))] t) (va_A [(h0, .inr (10, [.ref b0, .int 0, .ref p0, .ref u0, .ref r0, .ref a0, .ref t0, .ref s0, .ref o0])), (b0, .inl (cA 2, 700, .inl fb))] sz)) 0 0 (va_A [(h0, .inr (10, [.ref b0, .int 0, .ref p0, .ref u0, .ref r0, .ref a0, .ref t0, .ref s0, .ref o0])), (b0, .inl (cA 2, 700, .inl fb))] sz) := by
  refine Met.ofW (cc := cX9_appendBytes) (maxL := 3) (ret := none) (by decide) rfl ?_
  intro p e s m args below meth c s₁ B hml hv
  obtain ⟨rfl, hsz, hP, hK, hD0, hC, hZ⟩ := hv
  have hx := B.exec
  have hb := B.bytes
  have hr := B.returns
  have hts := atoms_spec (ws := wsX9_appendBytes) B.pre
  have hown : s.vm.findClass RX9 = some m.cls := findClass_of_methodNamed B.named
  have hlocks := B.notSynchronized
  subst hsz
  have hD := hD0.self (sz := s.heap.size)
  generalize hAe : va_A [(h0, .inr (10, [.ref b0, .int 0, .ref p0, .ref u0, .ref r0, .ref a0, .ref t0, .ref s0, .ref o0])), (b0, .inl (cA 2, 700, .inl fb))] s.heap.size = A at hD hZ ⊢
  have hA : ∀ q : Nat, s.heap.size ≤ q → A q := fun q h => by rw [← hAe]; exact Or.inr h
  have hS : va_S A s.heap s.heap [] := va_S.rf
  have hP : va_P D vwCl [(h0, .inr (10, [.ref b0, .int 0, .ref p0, .ref u0, .ref r0, .ref a0, .ref t0, .ref s0, .ref o0])), (b0, .inl (cA 2, 700, .inl fb))] s.heap := hP
  have hl := lv_entry ([.ref h0, .int w]) (n := 3) (Nat.le_of_ble_eq_true rfl)
  rw [lg_entry_eq]
  generalize (lg_sl ([.ref h0, .int w]) ++ List.replicate (3 - (lg_sl ([.ref h0, .int w])).length) Slot.unset).toArray = ls at hl ⊢
  have hl : lv_has ls 3 [(0, .ref h0), (1, .int w)] := hl
  have inX9 : ∀ w ∈ u_ws RX9 TX9 9, w ∈ wsX9_appendBytes := by decide +kernel
  refine lv_bipush (v := 24) hx hb dX9_appendBytes_0 (by decide) ?_
  refine lv_istore_n (lv' := [(2, .int 24), (0, .ref h0), (1, .int w)]) hx hb dX9_appendBytes_2 rfl hl (by decide) rfl (fun ls hl => ?_)
  refine lv_iload_n hx hb dX9_appendBytes_3 rfl (lv_at hl 0 rfl) ?_
  refine lv_if_lt (tgt := 52) hx hb dX9_appendBytes_4 (by decide) (fun c9 => absurd c9 (by decide)) (fun c1 => ?_)
  refine lv_aload_n hx hb dX9_appendBytes_7 rfl (lv_at hl 1 rfl) ?_
  refine va_get (D := D) (ci := 10) (v := .int 0) (C := RX9) (T := TX9) (N := 9) hx hb hts inX9 hown hK hP 0 rfl rfl 1 (by decide) (hts (.fieldLink RX9 59 "EscrowDesk" "buffered" "I") (by decide +kernel)) (fun _ h9 => h9) rfl dX9_appendBytes_8 ?_
  refine lv_aload_n hx hb dX9_appendBytes_11 rfl (lv_at hl 1 rfl) ?_
  refine va_get (D := D) (ci := 10) (v := .ref b0) (C := RX9) (T := TX9) (N := 9) hx hb hts inX9 hown hK hP 0 rfl rfl 0 (by decide) (hts (.fieldLink RX9 9 "EscrowDesk" "buffer" "[C") (by decide +kernel)) (fun _ h9 => h9) rfl dX9_appendBytes_12 ?_
  refine va_alen (v := 700) hx hb hK hP 1 2 rfl rfl rfl dX9_appendBytes_15 ?_
  refine lv_icmp_ge (tgt := 46) hx hb dX9_appendBytes_16 (by decide) (fun c9 => absurd c9 (by decide)) (fun c2 => ?_)
  refine lv_aload_n hx hb dX9_appendBytes_19 rfl (lv_at hl 1 rfl) ?_
  refine va_get (D := D) (ci := 10) (v := .ref b0) (C := RX9) (T := TX9) (N := 9) hx hb hts inX9 hown hK hP 0 rfl rfl 0 (by decide) (hts (.fieldLink RX9 9 "EscrowDesk" "buffer" "[C") (by decide +kernel)) (fun _ h9 => h9) rfl dX9_appendBytes_20 ?_
  refine lv_aload_n hx hb dX9_appendBytes_23 rfl (lv_at hl 1 rfl) ?_
  refine va_get (D := D) (ci := 10) (v := .int 0) (C := RX9) (T := TX9) (N := 9) hx hb hts inX9 hown hK hP 0 rfl rfl 1 (by decide) (hts (.fieldLink RX9 59 "EscrowDesk" "buffered" "I") (by decide +kernel)) (fun _ h9 => h9) rfl dX9_appendBytes_24 ?_
  refine lv_iload_n hx hb dX9_appendBytes_27 rfl (lv_at hl 2 rfl) ?_
  refine lv_iload_n hx hb dX9_appendBytes_28 rfl (lv_at hl 0 rfl) ?_
  refine lv_iushr hx hb dX9_appendBytes_29 rfl ?_
  refine lv_topi (fun yn3 _ => ?_)
  refine lv_sipush (v := 255) hx hb dX9_appendBytes_30 (by decide) ?_
  refine lv_iand hx hb dX9_appendBytes_33 ?_
  refine lv_i2c hx hb dX9_appendBytes_34 rfl ?_
  refine lv_topi (fun yn5 _ => ?_)
  refine va_cast hx hb hK hP hD hS 1 2 rfl rfl (vp_in_iff.mpr (by decide)) dX9_appendBytes_35 (fun H locs hP hD hS => ?_)
  have hP : va_P D vwCl [(h0, .inr (10, [.ref b0, .int 0, .ref p0, .ref u0, .ref r0, .ref a0, .ref t0, .ref s0, .ref o0])), (b0, .inl (cA 2, 700, .inl (upd fb 0 (vp_nar .char yn5))))] H := hP
  have hD : va_D A [(h0, .inr (10, [.ref b0, .int 0, .ref p0, .ref u0, .ref r0, .ref a0, .ref t0, .ref s0, .ref o0])), (b0, .inl (cA 2, 700, .inl (upd fb 0 (vp_nar .char yn5))))] := hD
  generalize (upd fb 0 (vp_nar .char yn5)) = fn6 at hP hD
  have hP : va_P D vwCl [(h0, .inr (10, [.ref b0, .int 0, .ref p0, .ref u0, .ref r0, .ref a0, .ref t0, .ref s0, .ref o0])), (b0, .inl (cA 2, 700, .inl fn6))] H := hP
  have hD : va_D A [(h0, .inr (10, [.ref b0, .int 0, .ref p0, .ref u0, .ref r0, .ref a0, .ref t0, .ref s0, .ref o0])), (b0, .inl (cA 2, 700, .inl fn6))] := hD
  refine lv_aload_n hx hb dX9_appendBytes_36 rfl (lv_at hl 1 rfl) ?_
  refine lv_dup hx hb dX9_appendBytes_37 rfl ?_
  refine va_get (D := D) (ci := 10) (v := .int 0) (C := RX9) (T := TX9) (N := 9) hx hb hts inX9 hown hK hP 0 rfl rfl 1 (by decide) (hts (.fieldLink RX9 59 "EscrowDesk" "buffered" "I") (by decide +kernel)) (fun _ h9 => h9) rfl dX9_appendBytes_38 ?_
  refine lv_iconst (v := 1) hx hb dX9_appendBytes_41 (by decide) ?_
  refine lv_iadd hx hb dX9_appendBytes_42 ?_
  refine lv_topi (fun yn7 eyn7 => ?_)
  obtain rfl : yn7 = 1 := eyn7.trans (by first | rfl | decide +kernel)
  refine va_put (D := D) (ci := 10) (v := .int 1) (ty := .int) (C := RX9) (T := TX9) (N := 9) hx hb hts inX9 tyX9 tyX9_ok nmX9 hown hK hP hD hS 0 rfl rfl 1 (by decide) (hts (.fieldLink RX9 59 "EscrowDesk" "buffered" "I") (by decide +kernel)) (fun _ h9 => h9) rfl (by decide +kernel) rfl rfl (Nat.le_of_ble_eq_true rfl) dX9_appendBytes_43 (fun H locs hP hD hS => ?_)
  have hP : va_P D vwCl [(h0, .inr (10, [.ref b0, .int 1, .ref p0, .ref u0, .ref r0, .ref a0, .ref t0, .ref s0, .ref o0])), (b0, .inl (cA 2, 700, .inl fn6))] H := hP
  have hD : va_D A [(h0, .inr (10, [.ref b0, .int 1, .ref p0, .ref u0, .ref r0, .ref a0, .ref t0, .ref s0, .ref o0])), (b0, .inl (cA 2, 700, .inl fn6))] := hD
  refine lv_iinc (v := 16) (lv' := [(2, .int 16), (0, .ref h0), (1, .int w)]) hx hb dX9_appendBytes_46 hl (k := 0) rfl (by first | rfl | decide +kernel) (by decide) rfl (fun ls hl => ?_)
  refine lv_goto (tgt := 3) hx hb dX9_appendBytes_49 (by decide) ?_
  refine lv_iload_n hx hb dX9_appendBytes_3 rfl (lv_at hl 0 rfl) ?_
  refine lv_if_lt (tgt := 52) hx hb dX9_appendBytes_4 (by decide) (fun c9 => absurd c9 (by decide)) (fun c8 => ?_)
  refine lv_aload_n hx hb dX9_appendBytes_7 rfl (lv_at hl 1 rfl) ?_
  refine va_get (D := D) (ci := 10) (v := .int 1) (C := RX9) (T := TX9) (N := 9) hx hb hts inX9 hown hK hP 0 rfl rfl 1 (by decide) (hts (.fieldLink RX9 59 "EscrowDesk" "buffered" "I") (by decide +kernel)) (fun _ h9 => h9) rfl dX9_appendBytes_8 ?_
  refine lv_aload_n hx hb dX9_appendBytes_11 rfl (lv_at hl 1 rfl) ?_
  refine va_get (D := D) (ci := 10) (v := .ref b0) (C := RX9) (T := TX9) (N := 9) hx hb hts inX9 hown hK hP 0 rfl rfl 0 (by decide) (hts (.fieldLink RX9 9 "EscrowDesk" "buffer" "[C") (by decide +kernel)) (fun _ h9 => h9) rfl dX9_appendBytes_12 ?_
  refine va_alen (v := 700) hx hb hK hP 1 2 rfl rfl rfl dX9_appendBytes_15 ?_
  refine lv_icmp_ge (tgt := 46) hx hb dX9_appendBytes_16 (by decide) (fun c9 => absurd c9 (by decide)) (fun c9 => ?_)
  refine lv_aload_n hx hb dX9_appendBytes_19 rfl (lv_at hl 1 rfl) ?_
  refine va_get (D := D) (ci := 10) (v := .ref b0) (C := RX9) (T := TX9) (N := 9) hx hb hts inX9 hown hK hP 0 rfl rfl 0 (by decide) (hts (.fieldLink RX9 9 "EscrowDesk" "buffer" "[C") (by decide +kernel)) (fun _ h9 => h9) rfl dX9_appendBytes_20 ?_
  refine lv_aload_n hx hb dX9_appendBytes_23 rfl (lv_at hl 1 rfl) ?_
  refine va_get (D := D) (ci := 10) (v := .int 1) (C := RX9) (T := TX9) (N := 9) hx hb hts inX9 hown hK hP 0 rfl rfl 1 (by decide) (hts (.fieldLink RX9 59 "EscrowDesk" "buffered" "I") (by decide +kernel)) (fun _ h9 => h9) rfl dX9_appendBytes_24 ?_
  refine lv_iload_n hx hb dX9_appendBytes_27 rfl (lv_at hl 2 rfl) ?_
  refine lv_iload_n hx hb dX9_appendBytes_28 rfl (lv_at hl 0 rfl) ?_
  refine lv_iushr hx hb dX9_appendBytes_29 rfl ?_
  refine lv_topi (fun yn10 _ => ?_)
  refine lv_sipush (v := 255) hx hb dX9_appendBytes_30 (by decide) ?_
  refine lv_iand hx hb dX9_appendBytes_33 ?_
  refine lv_i2c hx hb dX9_appendBytes_34 rfl ?_
  refine lv_topi (fun yn12 _ => ?_)
  refine va_cast hx hb hK hP hD hS 1 2 rfl rfl (vp_in_iff.mpr (by decide)) dX9_appendBytes_35 (fun H locs hP hD hS => ?_)
  have hP : va_P D vwCl [(h0, .inr (10, [.ref b0, .int 1, .ref p0, .ref u0, .ref r0, .ref a0, .ref t0, .ref s0, .ref o0])), (b0, .inl (cA 2, 700, .inl (upd fn6 1 (vp_nar .char yn12))))] H := hP
  have hD : va_D A [(h0, .inr (10, [.ref b0, .int 1, .ref p0, .ref u0, .ref r0, .ref a0, .ref t0, .ref s0, .ref o0])), (b0, .inl (cA 2, 700, .inl (upd fn6 1 (vp_nar .char yn12))))] := hD
  generalize (upd fn6 1 (vp_nar .char yn12)) = fn13 at hP hD
  have hP : va_P D vwCl [(h0, .inr (10, [.ref b0, .int 1, .ref p0, .ref u0, .ref r0, .ref a0, .ref t0, .ref s0, .ref o0])), (b0, .inl (cA 2, 700, .inl fn13))] H := hP
  have hD : va_D A [(h0, .inr (10, [.ref b0, .int 1, .ref p0, .ref u0, .ref r0, .ref a0, .ref t0, .ref s0, .ref o0])), (b0, .inl (cA 2, 700, .inl fn13))] := hD
  refine lv_aload_n hx hb dX9_appendBytes_36 rfl (lv_at hl 1 rfl) ?_
  refine lv_dup hx hb dX9_appendBytes_37 rfl ?_
  refine va_get (D := D) (ci := 10) (v := .int 1) (C := RX9) (T := TX9) (N := 9) hx hb hts inX9 hown hK hP 0 rfl rfl 1 (by decide) (hts (.fieldLink RX9 59 "EscrowDesk" "buffered" "I") (by decide +kernel)) (fun _ h9 => h9) rfl dX9_appendBytes_38 ?_
  refine lv_iconst (v := 1) hx hb dX9_appendBytes_41 (by decide) ?_
  refine lv_iadd hx hb dX9_appendBytes_42 ?_
  refine lv_topi (fun yn14 eyn14 => ?_)
  obtain rfl : yn14 = 2 := eyn14.trans (by first | rfl | decide +kernel)
  refine va_put (D := D) (ci := 10) (v := .int 2) (ty := .int) (C := RX9) (T := TX9) (N := 9) hx hb hts inX9 tyX9 tyX9_ok nmX9 hown hK hP hD hS 0 rfl rfl 1 (by decide) (hts (.fieldLink RX9 59 "EscrowDesk" "buffered" "I") (by decide +kernel)) (fun _ h9 => h9) rfl (by decide +kernel) rfl rfl (Nat.le_of_ble_eq_true rfl) dX9_appendBytes_43 (fun H locs hP hD hS => ?_)
  have hP : va_P D vwCl [(h0, .inr (10, [.ref b0, .int 2, .ref p0, .ref u0, .ref r0, .ref a0, .ref t0, .ref s0, .ref o0])), (b0, .inl (cA 2, 700, .inl fn13))] H := hP
  have hD : va_D A [(h0, .inr (10, [.ref b0, .int 2, .ref p0, .ref u0, .ref r0, .ref a0, .ref t0, .ref s0, .ref o0])), (b0, .inl (cA 2, 700, .inl fn13))] := hD
  refine lv_iinc (v := 8) (lv' := [(2, .int 8), (0, .ref h0), (1, .int w)]) hx hb dX9_appendBytes_46 hl (k := 0) rfl (by first | rfl | decide +kernel) (by decide) rfl (fun ls hl => ?_)
  refine lv_goto (tgt := 3) hx hb dX9_appendBytes_49 (by decide) ?_
  refine lv_iload_n hx hb dX9_appendBytes_3 rfl (lv_at hl 0 rfl) ?_
  refine lv_if_lt (tgt := 52) hx hb dX9_appendBytes_4 (by decide) (fun c9 => absurd c9 (by decide)) (fun c15 => ?_)
  refine lv_aload_n hx hb dX9_appendBytes_7 rfl (lv_at hl 1 rfl) ?_
  refine va_get (D := D) (ci := 10) (v := .int 2) (C := RX9) (T := TX9) (N := 9) hx hb hts inX9 hown hK hP 0 rfl rfl 1 (by decide) (hts (.fieldLink RX9 59 "EscrowDesk" "buffered" "I") (by decide +kernel)) (fun _ h9 => h9) rfl dX9_appendBytes_8 ?_
  refine lv_aload_n hx hb dX9_appendBytes_11 rfl (lv_at hl 1 rfl) ?_
  refine va_get (D := D) (ci := 10) (v := .ref b0) (C := RX9) (T := TX9) (N := 9) hx hb hts inX9 hown hK hP 0 rfl rfl 0 (by decide) (hts (.fieldLink RX9 9 "EscrowDesk" "buffer" "[C") (by decide +kernel)) (fun _ h9 => h9) rfl dX9_appendBytes_12 ?_
  refine va_alen (v := 700) hx hb hK hP 1 2 rfl rfl rfl dX9_appendBytes_15 ?_
  refine lv_icmp_ge (tgt := 46) hx hb dX9_appendBytes_16 (by decide) (fun c9 => absurd c9 (by decide)) (fun c16 => ?_)
  refine lv_aload_n hx hb dX9_appendBytes_19 rfl (lv_at hl 1 rfl) ?_
  refine va_get (D := D) (ci := 10) (v := .ref b0) (C := RX9) (T := TX9) (N := 9) hx hb hts inX9 hown hK hP 0 rfl rfl 0 (by decide) (hts (.fieldLink RX9 9 "EscrowDesk" "buffer" "[C") (by decide +kernel)) (fun _ h9 => h9) rfl dX9_appendBytes_20 ?_
  refine lv_aload_n hx hb dX9_appendBytes_23 rfl (lv_at hl 1 rfl) ?_
  refine va_get (D := D) (ci := 10) (v := .int 2) (C := RX9) (T := TX9) (N := 9) hx hb hts inX9 hown hK hP 0 rfl rfl 1 (by decide) (hts (.fieldLink RX9 59 "EscrowDesk" "buffered" "I") (by decide +kernel)) (fun _ h9 => h9) rfl dX9_appendBytes_24 ?_
  refine lv_iload_n hx hb dX9_appendBytes_27 rfl (lv_at hl 2 rfl) ?_
  refine lv_iload_n hx hb dX9_appendBytes_28 rfl (lv_at hl 0 rfl) ?_
  refine lv_iushr hx hb dX9_appendBytes_29 rfl ?_
  refine lv_topi (fun yn17 _ => ?_)
  refine lv_sipush (v := 255) hx hb dX9_appendBytes_30 (by decide) ?_
  refine lv_iand hx hb dX9_appendBytes_33 ?_
  refine lv_i2c hx hb dX9_appendBytes_34 rfl ?_
  refine lv_topi (fun yn19 _ => ?_)
  refine va_cast hx hb hK hP hD hS 1 2 rfl rfl (vp_in_iff.mpr (by decide)) dX9_appendBytes_35 (fun H locs hP hD hS => ?_)
  have hP : va_P D vwCl [(h0, .inr (10, [.ref b0, .int 2, .ref p0, .ref u0, .ref r0, .ref a0, .ref t0, .ref s0, .ref o0])), (b0, .inl (cA 2, 700, .inl (upd fn13 2 (vp_nar .char yn19))))] H := hP
  have hD : va_D A [(h0, .inr (10, [.ref b0, .int 2, .ref p0, .ref u0, .ref r0, .ref a0, .ref t0, .ref s0, .ref o0])), (b0, .inl (cA 2, 700, .inl (upd fn13 2 (vp_nar .char yn19))))] := hD
  generalize (upd fn13 2 (vp_nar .char yn19)) = fn20 at hP hD
  have hP : va_P D vwCl [(h0, .inr (10, [.ref b0, .int 2, .ref p0, .ref u0, .ref r0, .ref a0, .ref t0, .ref s0, .ref o0])), (b0, .inl (cA 2, 700, .inl fn20))] H := hP
  have hD : va_D A [(h0, .inr (10, [.ref b0, .int 2, .ref p0, .ref u0, .ref r0, .ref a0, .ref t0, .ref s0, .ref o0])), (b0, .inl (cA 2, 700, .inl fn20))] := hD
  refine lv_aload_n hx hb dX9_appendBytes_36 rfl (lv_at hl 1 rfl) ?_
  refine lv_dup hx hb dX9_appendBytes_37 rfl ?_
  refine va_get (D := D) (ci := 10) (v := .int 2) (C := RX9) (T := TX9) (N := 9) hx hb hts inX9 hown hK hP 0 rfl rfl 1 (by decide) (hts (.fieldLink RX9 59 "EscrowDesk" "buffered" "I") (by decide +kernel)) (fun _ h9 => h9) rfl dX9_appendBytes_38 ?_
  refine lv_iconst (v := 1) hx hb dX9_appendBytes_41 (by decide) ?_
  refine lv_iadd hx hb dX9_appendBytes_42 ?_
  refine lv_topi (fun yn21 eyn21 => ?_)
  obtain rfl : yn21 = 3 := eyn21.trans (by first | rfl | decide +kernel)
  refine va_put (D := D) (ci := 10) (v := .int 3) (ty := .int) (C := RX9) (T := TX9) (N := 9) hx hb hts inX9 tyX9 tyX9_ok nmX9 hown hK hP hD hS 0 rfl rfl 1 (by decide) (hts (.fieldLink RX9 59 "EscrowDesk" "buffered" "I") (by decide +kernel)) (fun _ h9 => h9) rfl (by decide +kernel) rfl rfl (Nat.le_of_ble_eq_true rfl) dX9_appendBytes_43 (fun H locs hP hD hS => ?_)
  have hP : va_P D vwCl [(h0, .inr (10, [.ref b0, .int 3, .ref p0, .ref u0, .ref r0, .ref a0, .ref t0, .ref s0, .ref o0])), (b0, .inl (cA 2, 700, .inl fn20))] H := hP
  have hD : va_D A [(h0, .inr (10, [.ref b0, .int 3, .ref p0, .ref u0, .ref r0, .ref a0, .ref t0, .ref s0, .ref o0])), (b0, .inl (cA 2, 700, .inl fn20))] := hD
  refine lv_iinc (v := 0) (lv' := [(2, .int 0), (0, .ref h0), (1, .int w)]) hx hb dX9_appendBytes_46 hl (k := 0) rfl (by first | rfl | decide +kernel) (by decide) rfl (fun ls hl => ?_)
  refine lv_goto (tgt := 3) hx hb dX9_appendBytes_49 (by decide) ?_
  refine lv_iload_n hx hb dX9_appendBytes_3 rfl (lv_at hl 0 rfl) ?_
  refine lv_if_lt (tgt := 52) hx hb dX9_appendBytes_4 (by decide) (fun c9 => absurd c9 (by decide)) (fun c22 => ?_)
  refine lv_aload_n hx hb dX9_appendBytes_7 rfl (lv_at hl 1 rfl) ?_
  refine va_get (D := D) (ci := 10) (v := .int 3) (C := RX9) (T := TX9) (N := 9) hx hb hts inX9 hown hK hP 0 rfl rfl 1 (by decide) (hts (.fieldLink RX9 59 "EscrowDesk" "buffered" "I") (by decide +kernel)) (fun _ h9 => h9) rfl dX9_appendBytes_8 ?_
  refine lv_aload_n hx hb dX9_appendBytes_11 rfl (lv_at hl 1 rfl) ?_
  refine va_get (D := D) (ci := 10) (v := .ref b0) (C := RX9) (T := TX9) (N := 9) hx hb hts inX9 hown hK hP 0 rfl rfl 0 (by decide) (hts (.fieldLink RX9 9 "EscrowDesk" "buffer" "[C") (by decide +kernel)) (fun _ h9 => h9) rfl dX9_appendBytes_12 ?_
  refine va_alen (v := 700) hx hb hK hP 1 2 rfl rfl rfl dX9_appendBytes_15 ?_
  refine lv_icmp_ge (tgt := 46) hx hb dX9_appendBytes_16 (by decide) (fun c9 => absurd c9 (by decide)) (fun c23 => ?_)
  refine lv_aload_n hx hb dX9_appendBytes_19 rfl (lv_at hl 1 rfl) ?_
  refine va_get (D := D) (ci := 10) (v := .ref b0) (C := RX9) (T := TX9) (N := 9) hx hb hts inX9 hown hK hP 0 rfl rfl 0 (by decide) (hts (.fieldLink RX9 9 "EscrowDesk" "buffer" "[C") (by decide +kernel)) (fun _ h9 => h9) rfl dX9_appendBytes_20 ?_
  refine lv_aload_n hx hb dX9_appendBytes_23 rfl (lv_at hl 1 rfl) ?_
  refine va_get (D := D) (ci := 10) (v := .int 3) (C := RX9) (T := TX9) (N := 9) hx hb hts inX9 hown hK hP 0 rfl rfl 1 (by decide) (hts (.fieldLink RX9 59 "EscrowDesk" "buffered" "I") (by decide +kernel)) (fun _ h9 => h9) rfl dX9_appendBytes_24 ?_
  refine lv_iload_n hx hb dX9_appendBytes_27 rfl (lv_at hl 2 rfl) ?_
  refine lv_iload_n hx hb dX9_appendBytes_28 rfl (lv_at hl 0 rfl) ?_
  refine lv_iushr hx hb dX9_appendBytes_29 rfl ?_
  refine lv_topi (fun yn24 _ => ?_)
  refine lv_sipush (v := 255) hx hb dX9_appendBytes_30 (by decide) ?_
  refine lv_iand hx hb dX9_appendBytes_33 ?_
  refine lv_i2c hx hb dX9_appendBytes_34 rfl ?_
  refine lv_topi (fun yn26 _ => ?_)
  refine va_cast hx hb hK hP hD hS 1 2 rfl rfl (vp_in_iff.mpr (by decide)) dX9_appendBytes_35 (fun H locs hP hD hS => ?_)
  have hP : va_P D vwCl [(h0, .inr (10, [.ref b0, .int 3, .ref p0, .ref u0, .ref r0, .ref a0, .ref t0, .ref s0, .ref o0])), (b0, .inl (cA 2, 700, .inl (upd fn20 3 (vp_nar .char yn26))))] H := hP
  have hD : va_D A [(h0, .inr (10, [.ref b0, .int 3, .ref p0, .ref u0, .ref r0, .ref a0, .ref t0, .ref s0, .ref o0])), (b0, .inl (cA 2, 700, .inl (upd fn20 3 (vp_nar .char yn26))))] := hD
  generalize (upd fn20 3 (vp_nar .char yn26)) = fn27 at hP hD
  have hP : va_P D vwCl [(h0, .inr (10, [.ref b0, .int 3, .ref p0, .ref u0, .ref r0, .ref a0, .ref t0, .ref s0, .ref o0])), (b0, .inl (cA 2, 700, .inl fn27))] H := hP
  have hD : va_D A [(h0, .inr (10, [.ref b0, .int 3, .ref p0, .ref u0, .ref r0, .ref a0, .ref t0, .ref s0, .ref o0])), (b0, .inl (cA 2, 700, .inl fn27))] := hD
  refine lv_aload_n hx hb dX9_appendBytes_36 rfl (lv_at hl 1 rfl) ?_
  refine lv_dup hx hb dX9_appendBytes_37 rfl ?_
  refine va_get (D := D) (ci := 10) (v := .int 3) (C := RX9) (T := TX9) (N := 9) hx hb hts inX9 hown hK hP 0 rfl rfl 1 (by decide) (hts (.fieldLink RX9 59 "EscrowDesk" "buffered" "I") (by decide +kernel)) (fun _ h9 => h9) rfl dX9_appendBytes_38 ?_
  refine lv_iconst (v := 1) hx hb dX9_appendBytes_41 (by decide) ?_
  refine lv_iadd hx hb dX9_appendBytes_42 ?_
  refine lv_topi (fun yn28 eyn28 => ?_)
  obtain rfl : yn28 = 4 := eyn28.trans (by first | rfl | decide +kernel)
  refine va_put (D := D) (ci := 10) (v := .int 4) (ty := .int) (C := RX9) (T := TX9) (N := 9) hx hb hts inX9 tyX9 tyX9_ok nmX9 hown hK hP hD hS 0 rfl rfl 1 (by decide) (hts (.fieldLink RX9 59 "EscrowDesk" "buffered" "I") (by decide +kernel)) (fun _ h9 => h9) rfl (by decide +kernel) rfl rfl (Nat.le_of_ble_eq_true rfl) dX9_appendBytes_43 (fun H locs hP hD hS => ?_)
  have hP : va_P D vwCl [(h0, .inr (10, [.ref b0, .int 4, .ref p0, .ref u0, .ref r0, .ref a0, .ref t0, .ref s0, .ref o0])), (b0, .inl (cA 2, 700, .inl fn27))] H := hP
  have hD : va_D A [(h0, .inr (10, [.ref b0, .int 4, .ref p0, .ref u0, .ref r0, .ref a0, .ref t0, .ref s0, .ref o0])), (b0, .inl (cA 2, 700, .inl fn27))] := hD
  refine lv_iinc (v := (-8)) (lv' := [(2, .int (-8)), (0, .ref h0), (1, .int w)]) hx hb dX9_appendBytes_46 hl (k := 0) rfl (by first | rfl | decide +kernel) (by decide) rfl (fun ls hl => ?_)
  refine lv_goto (tgt := 3) hx hb dX9_appendBytes_49 (by decide) ?_
  refine lv_iload_n hx hb dX9_appendBytes_3 rfl (lv_at hl 0 rfl) ?_
  refine lv_if_lt (tgt := 52) hx hb dX9_appendBytes_4 (by decide) (fun c29 => ?_) (fun c9 => absurd c9 (by decide))
  have hP9 := hP.sub (ws' := [(h0, .inr (10, [.ref b0, .int 4, .ref p0, .ref u0, .ref r0, .ref a0, .ref t0, .ref s0, .ref o0])), (b0, .inl (cA 2, 700, .inl fn27))]) [0, 1] rfl
  have hD9 := hD.sub (ws' := [(h0, .inr (10, [.ref b0, .int 4, .ref p0, .ref u0, .ref r0, .ref a0, .ref t0, .ref s0, .ref o0])), (b0, .inl (cA 2, 700, .inl fn27))]) [0, 1] (by decide) rfl
  refine W.widen (k := 0) (n := 0) (Nat.le_of_ble_eq_true rfl) (Nat.le_of_ble_eq_true rfl) ?_
  exact W.vret hx hb hr (fun t ht hW => ⟨⟨(), rfl, trivial, fn27, by rw [ht]; exact hP9, hD9⟩, hS.F ht⟩) hS.2.2 dX9_appendBytes_52

set_option maxHeartbeats 4000000 in
set_option maxRecDepth 100000 in
/-- appendBytes at 4 -/
theorem c_appendBytes_4 (l : Launch) (D : va_G) (cA : Nat → ClassId) (sa : Nat → Nat) (h0 b0 p0 u0 r0 a0 t0 s0 o0 : Nat) (w : Int32) (fb : Nat → Int32) (sz : Nat) : Met l yX9_appendBytes wsX9_appendBytes ({ frames := 0, cells := 0, slots := 0, locals := 0 }) (va_Pc [.ref h0, .int w] (Wd D cA sa [(h0, .inr (10, [.ref b0, .int 4, .ref p0, .ref u0, .ref r0, .ref a0, .ref t0, .ref s0, .ref o0])), (b0, .inl (cA 2, 700, .inl fb))] sz)) (va_Qv (fun _ : Unit => True) (fun (_ : Unit) t => ∃ fn27 : Nat → Int32, Wq D (va_A [(h0, .inr (10, [.ref b0, .int 4, .ref p0, .ref u0, .ref r0, .ref a0, .ref t0, .ref s0, .ref o0])), (b0, .inl (cA 2, 700, .inl fb))] sz) [(h0, .inr (10, [.ref b0, .int 8, .ref p0, .ref u0, .ref r0, .ref a0, .ref t0, .ref s0, .ref o0])), (b0, .inl (cA 2, 700, .inl fn27))] t) (va_A [(h0, .inr (10, [.ref b0, .int 4, .ref p0, .ref u0, .ref r0, .ref a0, .ref t0, .ref s0, .ref o0])), (b0, .inl (cA 2, 700, .inl fb))] sz)) 0 0 (va_A [(h0, .inr (10, [.ref b0, .int 4, .ref p0, .ref u0, .ref r0, .ref a0, .ref t0, .ref s0, .ref o0])), (b0, .inl (cA 2, 700, .inl fb))] sz) := by
  refine Met.ofW (cc := cX9_appendBytes) (maxL := 3) (ret := none) (by decide) rfl ?_
  intro p e s m args below meth c s₁ B hml hv
  obtain ⟨rfl, hsz, hP, hK, hD0, hC, hZ⟩ := hv
  have hx := B.exec
  have hb := B.bytes
  have hr := B.returns
  have hts := atoms_spec (ws := wsX9_appendBytes) B.pre
  have hown : s.vm.findClass RX9 = some m.cls := findClass_of_methodNamed B.named
  have hlocks := B.notSynchronized
  subst hsz
  have hD := hD0.self (sz := s.heap.size)
  generalize hAe : va_A [(h0, .inr (10, [.ref b0, .int 4, .ref p0, .ref u0, .ref r0, .ref a0, .ref t0, .ref s0, .ref o0])), (b0, .inl (cA 2, 700, .inl fb))] s.heap.size = A at hD hZ ⊢
  have hA : ∀ q : Nat, s.heap.size ≤ q → A q := fun q h => by rw [← hAe]; exact Or.inr h
  have hS : va_S A s.heap s.heap [] := va_S.rf
  have hP : va_P D vwCl [(h0, .inr (10, [.ref b0, .int 4, .ref p0, .ref u0, .ref r0, .ref a0, .ref t0, .ref s0, .ref o0])), (b0, .inl (cA 2, 700, .inl fb))] s.heap := hP
  have hl := lv_entry ([.ref h0, .int w]) (n := 3) (Nat.le_of_ble_eq_true rfl)
  rw [lg_entry_eq]
  generalize (lg_sl ([.ref h0, .int w]) ++ List.replicate (3 - (lg_sl ([.ref h0, .int w])).length) Slot.unset).toArray = ls at hl ⊢
  have hl : lv_has ls 3 [(0, .ref h0), (1, .int w)] := hl
  have inX9 : ∀ w ∈ u_ws RX9 TX9 9, w ∈ wsX9_appendBytes := by decide +kernel
  refine lv_bipush (v := 24) hx hb dX9_appendBytes_0 (by decide) ?_
  refine lv_istore_n (lv' := [(2, .int 24), (0, .ref h0), (1, .int w)]) hx hb dX9_appendBytes_2 rfl hl (by decide) rfl (fun ls hl => ?_)
  refine lv_iload_n hx hb dX9_appendBytes_3 rfl (lv_at hl 0 rfl) ?_
  refine lv_if_lt (tgt := 52) hx hb dX9_appendBytes_4 (by decide) (fun c9 => absurd c9 (by decide)) (fun c1 => ?_)
  refine lv_aload_n hx hb dX9_appendBytes_7 rfl (lv_at hl 1 rfl) ?_
  refine va_get (D := D) (ci := 10) (v := .int 4) (C := RX9) (T := TX9) (N := 9) hx hb hts inX9 hown hK hP 0 rfl rfl 1 (by decide) (hts (.fieldLink RX9 59 "EscrowDesk" "buffered" "I") (by decide +kernel)) (fun _ h9 => h9) rfl dX9_appendBytes_8 ?_
  refine lv_aload_n hx hb dX9_appendBytes_11 rfl (lv_at hl 1 rfl) ?_
  refine va_get (D := D) (ci := 10) (v := .ref b0) (C := RX9) (T := TX9) (N := 9) hx hb hts inX9 hown hK hP 0 rfl rfl 0 (by decide) (hts (.fieldLink RX9 9 "EscrowDesk" "buffer" "[C") (by decide +kernel)) (fun _ h9 => h9) rfl dX9_appendBytes_12 ?_
  refine va_alen (v := 700) hx hb hK hP 1 2 rfl rfl rfl dX9_appendBytes_15 ?_
  refine lv_icmp_ge (tgt := 46) hx hb dX9_appendBytes_16 (by decide) (fun c9 => absurd c9 (by decide)) (fun c2 => ?_)
  refine lv_aload_n hx hb dX9_appendBytes_19 rfl (lv_at hl 1 rfl) ?_
  refine va_get (D := D) (ci := 10) (v := .ref b0) (C := RX9) (T := TX9) (N := 9) hx hb hts inX9 hown hK hP 0 rfl rfl 0 (by decide) (hts (.fieldLink RX9 9 "EscrowDesk" "buffer" "[C") (by decide +kernel)) (fun _ h9 => h9) rfl dX9_appendBytes_20 ?_
  refine lv_aload_n hx hb dX9_appendBytes_23 rfl (lv_at hl 1 rfl) ?_
  refine va_get (D := D) (ci := 10) (v := .int 4) (C := RX9) (T := TX9) (N := 9) hx hb hts inX9 hown hK hP 0 rfl rfl 1 (by decide) (hts (.fieldLink RX9 59 "EscrowDesk" "buffered" "I") (by decide +kernel)) (fun _ h9 => h9) rfl dX9_appendBytes_24 ?_
  refine lv_iload_n hx hb dX9_appendBytes_27 rfl (lv_at hl 2 rfl) ?_
  refine lv_iload_n hx hb dX9_appendBytes_28 rfl (lv_at hl 0 rfl) ?_
  refine lv_iushr hx hb dX9_appendBytes_29 rfl ?_
  refine lv_topi (fun yn3 _ => ?_)
  refine lv_sipush (v := 255) hx hb dX9_appendBytes_30 (by decide) ?_
  refine lv_iand hx hb dX9_appendBytes_33 ?_
  refine lv_i2c hx hb dX9_appendBytes_34 rfl ?_
  refine lv_topi (fun yn5 _ => ?_)
  refine va_cast hx hb hK hP hD hS 1 2 rfl rfl (vp_in_iff.mpr (by decide)) dX9_appendBytes_35 (fun H locs hP hD hS => ?_)
  have hP : va_P D vwCl [(h0, .inr (10, [.ref b0, .int 4, .ref p0, .ref u0, .ref r0, .ref a0, .ref t0, .ref s0, .ref o0])), (b0, .inl (cA 2, 700, .inl (upd fb 4 (vp_nar .char yn5))))] H := hP
  have hD : va_D A [(h0, .inr (10, [.ref b0, .int 4, .ref p0, .ref u0, .ref r0, .ref a0, .ref t0, .ref s0, .ref o0])), (b0, .inl (cA 2, 700, .inl (upd fb 4 (vp_nar .char yn5))))] := hD
  generalize (upd fb 4 (vp_nar .char yn5)) = fn6 at hP hD
  have hP : va_P D vwCl [(h0, .inr (10, [.ref b0, .int 4, .ref p0, .ref u0, .ref r0, .ref a0, .ref t0, .ref s0, .ref o0])), (b0, .inl (cA 2, 700, .inl fn6))] H := hP
  have hD : va_D A [(h0, .inr (10, [.ref b0, .int 4, .ref p0, .ref u0, .ref r0, .ref a0, .ref t0, .ref s0, .ref o0])), (b0, .inl (cA 2, 700, .inl fn6))] := hD
  refine lv_aload_n hx hb dX9_appendBytes_36 rfl (lv_at hl 1 rfl) ?_
  refine lv_dup hx hb dX9_appendBytes_37 rfl ?_
  refine va_get (D := D) (ci := 10) (v := .int 4) (C := RX9) (T := TX9) (N := 9) hx hb hts inX9 hown hK hP 0 rfl rfl 1 (by decide) (hts (.fieldLink RX9 59 "EscrowDesk" "buffered" "I") (by decide +kernel)) (fun _ h9 => h9) rfl dX9_appendBytes_38 ?_
  refine lv_iconst (v := 1) hx hb dX9_appendBytes_41 (by decide) ?_
  refine lv_iadd hx hb dX9_appendBytes_42 ?_
  refine lv_topi (fun yn7 eyn7 => ?_)
  obtain rfl : yn7 = 5 := eyn7.trans (by first | rfl | decide +kernel)
  refine va_put (D := D) (ci := 10) (v := .int 5) (ty := .int) (C := RX9) (T := TX9) (N := 9) hx hb hts inX9 tyX9 tyX9_ok nmX9 hown hK hP hD hS 0 rfl rfl 1 (by decide) (hts (.fieldLink RX9 59 "EscrowDesk" "buffered" "I") (by decide +kernel)) (fun _ h9 => h9) rfl (by decide +kernel) rfl rfl (Nat.le_of_ble_eq_true rfl) dX9_appendBytes_43 (fun H locs hP hD hS => ?_)
  have hP : va_P D vwCl [(h0, .inr (10, [.ref b0, .int 5, .ref p0, .ref u0, .ref r0, .ref a0, .ref t0, .ref s0, .ref o0])), (b0, .inl (cA 2, 700, .inl fn6))] H := hP
  have hD : va_D A [(h0, .inr (10, [.ref b0, .int 5, .ref p0, .ref u0, .ref r0, .ref a0, .ref t0, .ref s0, .ref o0])), (b0, .inl (cA 2, 700, .inl fn6))] := hD
  refine lv_iinc (v := 16) (lv' := [(2, .int 16), (0, .ref h0), (1, .int w)]) hx hb dX9_appendBytes_46 hl (k := 0) rfl (by first | rfl | decide +kernel) (by decide) rfl (fun ls hl => ?_)
  refine lv_goto (tgt := 3) hx hb dX9_appendBytes_49 (by decide) ?_
  refine lv_iload_n hx hb dX9_appendBytes_3 rfl (lv_at hl 0 rfl) ?_
  refine lv_if_lt (tgt := 52) hx hb dX9_appendBytes_4 (by decide) (fun c9 => absurd c9 (by decide)) (fun c8 => ?_)
  refine lv_aload_n hx hb dX9_appendBytes_7 rfl (lv_at hl 1 rfl) ?_
  refine va_get (D := D) (ci := 10) (v := .int 5) (C := RX9) (T := TX9) (N := 9) hx hb hts inX9 hown hK hP 0 rfl rfl 1 (by decide) (hts (.fieldLink RX9 59 "EscrowDesk" "buffered" "I") (by decide +kernel)) (fun _ h9 => h9) rfl dX9_appendBytes_8 ?_
  refine lv_aload_n hx hb dX9_appendBytes_11 rfl (lv_at hl 1 rfl) ?_
  refine va_get (D := D) (ci := 10) (v := .ref b0) (C := RX9) (T := TX9) (N := 9) hx hb hts inX9 hown hK hP 0 rfl rfl 0 (by decide) (hts (.fieldLink RX9 9 "EscrowDesk" "buffer" "[C") (by decide +kernel)) (fun _ h9 => h9) rfl dX9_appendBytes_12 ?_
  refine va_alen (v := 700) hx hb hK hP 1 2 rfl rfl rfl dX9_appendBytes_15 ?_
  refine lv_icmp_ge (tgt := 46) hx hb dX9_appendBytes_16 (by decide) (fun c9 => absurd c9 (by decide)) (fun c9 => ?_)
  refine lv_aload_n hx hb dX9_appendBytes_19 rfl (lv_at hl 1 rfl) ?_
  refine va_get (D := D) (ci := 10) (v := .ref b0) (C := RX9) (T := TX9) (N := 9) hx hb hts inX9 hown hK hP 0 rfl rfl 0 (by decide) (hts (.fieldLink RX9 9 "EscrowDesk" "buffer" "[C") (by decide +kernel)) (fun _ h9 => h9) rfl dX9_appendBytes_20 ?_
  refine lv_aload_n hx hb dX9_appendBytes_23 rfl (lv_at hl 1 rfl) ?_
  refine va_get (D := D) (ci := 10) (v := .int 5) (C := RX9) (T := TX9) (N := 9) hx hb hts inX9 hown hK hP 0 rfl rfl 1 (by decide) (hts (.fieldLink RX9 59 "EscrowDesk" "buffered" "I") (by decide +kernel)) (fun _ h9 => h9) rfl dX9_appendBytes_24 ?_
  refine lv_iload_n hx hb dX9_appendBytes_27 rfl (lv_at hl 2 rfl) ?_
  refine lv_iload_n hx hb dX9_appendBytes_28 rfl (lv_at hl 0 rfl) ?_
  refine lv_iushr hx hb dX9_appendBytes_29 rfl ?_
  refine lv_topi (fun yn10 _ => ?_)
  refine lv_sipush (v := 255) hx hb dX9_appendBytes_30 (by decide) ?_
  refine lv_iand hx hb dX9_appendBytes_33 ?_
  refine lv_i2c hx hb dX9_appendBytes_34 rfl ?_
  refine lv_topi (fun yn12 _ => ?_)
  refine va_cast hx hb hK hP hD hS 1 2 rfl rfl (vp_in_iff.mpr (by decide)) dX9_appendBytes_35 (fun H locs hP hD hS => ?_)
  have hP : va_P D vwCl [(h0, .inr (10, [.ref b0, .int 5, .ref p0, .ref u0, .ref r0, .ref a0, .ref t0, .ref s0, .ref o0])), (b0, .inl (cA 2, 700, .inl (upd fn6 5 (vp_nar .char yn12))))] H := hP
  have hD : va_D A [(h0, .inr (10, [.ref b0, .int 5, .ref p0, .ref u0, .ref r0, .ref a0, .ref t0, .ref s0, .ref o0])), (b0, .inl (cA 2, 700, .inl (upd fn6 5 (vp_nar .char yn12))))] := hD
  generalize (upd fn6 5 (vp_nar .char yn12)) = fn13 at hP hD
  have hP : va_P D vwCl [(h0, .inr (10, [.ref b0, .int 5, .ref p0, .ref u0, .ref r0, .ref a0, .ref t0, .ref s0, .ref o0])), (b0, .inl (cA 2, 700, .inl fn13))] H := hP
  have hD : va_D A [(h0, .inr (10, [.ref b0, .int 5, .ref p0, .ref u0, .ref r0, .ref a0, .ref t0, .ref s0, .ref o0])), (b0, .inl (cA 2, 700, .inl fn13))] := hD
  refine lv_aload_n hx hb dX9_appendBytes_36 rfl (lv_at hl 1 rfl) ?_
  refine lv_dup hx hb dX9_appendBytes_37 rfl ?_
  refine va_get (D := D) (ci := 10) (v := .int 5) (C := RX9) (T := TX9) (N := 9) hx hb hts inX9 hown hK hP 0 rfl rfl 1 (by decide) (hts (.fieldLink RX9 59 "EscrowDesk" "buffered" "I") (by decide +kernel)) (fun _ h9 => h9) rfl dX9_appendBytes_38 ?_
  refine lv_iconst (v := 1) hx hb dX9_appendBytes_41 (by decide) ?_
  refine lv_iadd hx hb dX9_appendBytes_42 ?_
  refine lv_topi (fun yn14 eyn14 => ?_)
  obtain rfl : yn14 = 6 := eyn14.trans (by first | rfl | decide +kernel)
  refine va_put (D := D) (ci := 10) (v := .int 6) (ty := .int) (C := RX9) (T := TX9) (N := 9) hx hb hts inX9 tyX9 tyX9_ok nmX9 hown hK hP hD hS 0 rfl rfl 1 (by decide) (hts (.fieldLink RX9 59 "EscrowDesk" "buffered" "I") (by decide +kernel)) (fun _ h9 => h9) rfl (by decide +kernel) rfl rfl (Nat.le_of_ble_eq_true rfl) dX9_appendBytes_43 (fun H locs hP hD hS => ?_)
  have hP : va_P D vwCl [(h0, .inr (10, [.ref b0, .int 6, .ref p0, .ref u0, .ref r0, .ref a0, .ref t0, .ref s0, .ref o0])), (b0, .inl (cA 2, 700, .inl fn13))] H := hP
  have hD : va_D A [(h0, .inr (10, [.ref b0, .int 6, .ref p0, .ref u0, .ref r0, .ref a0, .ref t0, .ref s0, .ref o0])), (b0, .inl (cA 2, 700, .inl fn13))] := hD
  refine lv_iinc (v := 8) (lv' := [(2, .int 8), (0, .ref h0), (1, .int w)]) hx hb dX9_appendBytes_46 hl (k := 0) rfl (by first | rfl | decide +kernel) (by decide) rfl (fun ls hl => ?_)
  refine lv_goto (tgt := 3) hx hb dX9_appendBytes_49 (by decide) ?_
  refine lv_iload_n hx hb dX9_appendBytes_3 rfl (lv_at hl 0 rfl) ?_
  refine lv_if_lt (tgt := 52) hx hb dX9_appendBytes_4 (by decide) (fun c9 => absurd c9 (by decide)) (fun c15 => ?_)
  refine lv_aload_n hx hb dX9_appendBytes_7 rfl (lv_at hl 1 rfl) ?_
  refine va_get (D := D) (ci := 10) (v := .int 6) (C := RX9) (T := TX9) (N := 9) hx hb hts inX9 hown hK hP 0 rfl rfl 1 (by decide) (hts (.fieldLink RX9 59 "EscrowDesk" "buffered" "I") (by decide +kernel)) (fun _ h9 => h9) rfl dX9_appendBytes_8 ?_
  refine lv_aload_n hx hb dX9_appendBytes_11 rfl (lv_at hl 1 rfl) ?_
  refine va_get (D := D) (ci := 10) (v := .ref b0) (C := RX9) (T := TX9) (N := 9) hx hb hts inX9 hown hK hP 0 rfl rfl 0 (by decide) (hts (.fieldLink RX9 9 "EscrowDesk" "buffer" "[C") (by decide +kernel)) (fun _ h9 => h9) rfl dX9_appendBytes_12 ?_
  refine va_alen (v := 700) hx hb hK hP 1 2 rfl rfl rfl dX9_appendBytes_15 ?_
  refine lv_icmp_ge (tgt := 46) hx hb dX9_appendBytes_16 (by decide) (fun c9 => absurd c9 (by decide)) (fun c16 => ?_)
  refine lv_aload_n hx hb dX9_appendBytes_19 rfl (lv_at hl 1 rfl) ?_
  refine va_get (D := D) (ci := 10) (v := .ref b0) (C := RX9) (T := TX9) (N := 9) hx hb hts inX9 hown hK hP 0 rfl rfl 0 (by decide) (hts (.fieldLink RX9 9 "EscrowDesk" "buffer" "[C") (by decide +kernel)) (fun _ h9 => h9) rfl dX9_appendBytes_20 ?_
  refine lv_aload_n hx hb dX9_appendBytes_23 rfl (lv_at hl 1 rfl) ?_
  refine va_get (D := D) (ci := 10) (v := .int 6) (C := RX9) (T := TX9) (N := 9) hx hb hts inX9 hown hK hP 0 rfl rfl 1 (by decide) (hts (.fieldLink RX9 59 "EscrowDesk" "buffered" "I") (by decide +kernel)) (fun _ h9 => h9) rfl dX9_appendBytes_24 ?_
  refine lv_iload_n hx hb dX9_appendBytes_27 rfl (lv_at hl 2 rfl) ?_
  refine lv_iload_n hx hb dX9_appendBytes_28 rfl (lv_at hl 0 rfl) ?_
  refine lv_iushr hx hb dX9_appendBytes_29 rfl ?_
  refine lv_topi (fun yn17 _ => ?_)
  refine lv_sipush (v := 255) hx hb dX9_appendBytes_30 (by decide) ?_
  refine lv_iand hx hb dX9_appendBytes_33 ?_
  refine lv_i2c hx hb dX9_appendBytes_34 rfl ?_
  refine lv_topi (fun yn19 _ => ?_)
  refine va_cast hx hb hK hP hD hS 1 2 rfl rfl (vp_in_iff.mpr (by decide)) dX9_appendBytes_35 (fun H locs hP hD hS => ?_)
  have hP : va_P D vwCl [(h0, .inr (10, [.ref b0, .int 6, .ref p0, .ref u0, .ref r0, .ref a0, .ref t0, .ref s0, .ref o0])), (b0, .inl (cA 2, 700, .inl (upd fn13 6 (vp_nar .char yn19))))] H := hP
  have hD : va_D A [(h0, .inr (10, [.ref b0, .int 6, .ref p0, .ref u0, .ref r0, .ref a0, .ref t0, .ref s0, .ref o0])), (b0, .inl (cA 2, 700, .inl (upd fn13 6 (vp_nar .char yn19))))] := hD
  generalize (upd fn13 6 (vp_nar .char yn19)) = fn20 at hP hD
  have hP : va_P D vwCl [(h0, .inr (10, [.ref b0, .int 6, .ref p0, .ref u0, .ref r0, .ref a0, .ref t0, .ref s0, .ref o0])), (b0, .inl (cA 2, 700, .inl fn20))] H := hP
  have hD : va_D A [(h0, .inr (10, [.ref b0, .int 6, .ref p0, .ref u0, .ref r0, .ref a0, .ref t0, .ref s0, .ref o0])), (b0, .inl (cA 2, 700, .inl fn20))] := hD
  refine lv_aload_n hx hb dX9_appendBytes_36 rfl (lv_at hl 1 rfl) ?_
  refine lv_dup hx hb dX9_appendBytes_37 rfl ?_
  refine va_get (D := D) (ci := 10) (v := .int 6) (C := RX9) (T := TX9) (N := 9) hx hb hts inX9 hown hK hP 0 rfl rfl 1 (by decide) (hts (.fieldLink RX9 59 "EscrowDesk" "buffered" "I") (by decide +kernel)) (fun _ h9 => h9) rfl dX9_appendBytes_38 ?_
  refine lv_iconst (v := 1) hx hb dX9_appendBytes_41 (by decide) ?_
  refine lv_iadd hx hb dX9_appendBytes_42 ?_
  refine lv_topi (fun yn21 eyn21 => ?_)
  obtain rfl : yn21 = 7 := eyn21.trans (by first | rfl | decide +kernel)
  refine va_put (D := D) (ci := 10) (v := .int 7) (ty := .int) (C := RX9) (T := TX9) (N := 9) hx hb hts inX9 tyX9 tyX9_ok nmX9 hown hK hP hD hS 0 rfl rfl 1 (by decide) (hts (.fieldLink RX9 59 "EscrowDesk" "buffered" "I") (by decide +kernel)) (fun _ h9 => h9) rfl (by decide +kernel) rfl rfl (Nat.le_of_ble_eq_true rfl) dX9_appendBytes_43 (fun H locs hP hD hS => ?_)
  have hP : va_P D vwCl [(h0, .inr (10, [.ref b0, .int 7, .ref p0, .ref u0, .ref r0, .ref a0, .ref t0, .ref s0, .ref o0])), (b0, .inl (cA 2, 700, .inl fn20))] H := hP
  have hD : va_D A [(h0, .inr (10, [.ref b0, .int 7, .ref p0, .ref u0, .ref r0, .ref a0, .ref t0, .ref s0, .ref o0])), (b0, .inl (cA 2, 700, .inl fn20))] := hD
  refine lv_iinc (v := 0) (lv' := [(2, .int 0), (0, .ref h0), (1, .int w)]) hx hb dX9_appendBytes_46 hl (k := 0) rfl (by first | rfl | decide +kernel) (by decide) rfl (fun ls hl => ?_)
  refine lv_goto (tgt := 3) hx hb dX9_appendBytes_49 (by decide) ?_
  refine lv_iload_n hx hb dX9_appendBytes_3 rfl (lv_at hl 0 rfl) ?_
  refine lv_if_lt (tgt := 52) hx hb dX9_appendBytes_4 (by decide) (fun c9 => absurd c9 (by decide)) (fun c22 => ?_)
  refine lv_aload_n hx hb dX9_appendBytes_7 rfl (lv_at hl 1 rfl) ?_
  refine va_get (D := D) (ci := 10) (v := .int 7) (C := RX9) (T := TX9) (N := 9) hx hb hts inX9 hown hK hP 0 rfl rfl 1 (by decide) (hts (.fieldLink RX9 59 "EscrowDesk" "buffered" "I") (by decide +kernel)) (fun _ h9 => h9) rfl dX9_appendBytes_8 ?_
  refine lv_aload_n hx hb dX9_appendBytes_11 rfl (lv_at hl 1 rfl) ?_
  refine va_get (D := D) (ci := 10) (v := .ref b0) (C := RX9) (T := TX9) (N := 9) hx hb hts inX9 hown hK hP 0 rfl rfl 0 (by decide) (hts (.fieldLink RX9 9 "EscrowDesk" "buffer" "[C") (by decide +kernel)) (fun _ h9 => h9) rfl dX9_appendBytes_12 ?_
  refine va_alen (v := 700) hx hb hK hP 1 2 rfl rfl rfl dX9_appendBytes_15 ?_
  refine lv_icmp_ge (tgt := 46) hx hb dX9_appendBytes_16 (by decide) (fun c9 => absurd c9 (by decide)) (fun c23 => ?_)
  refine lv_aload_n hx hb dX9_appendBytes_19 rfl (lv_at hl 1 rfl) ?_
  refine va_get (D := D) (ci := 10) (v := .ref b0) (C := RX9) (T := TX9) (N := 9) hx hb hts inX9 hown hK hP 0 rfl rfl 0 (by decide) (hts (.fieldLink RX9 9 "EscrowDesk" "buffer" "[C") (by decide +kernel)) (fun _ h9 => h9) rfl dX9_appendBytes_20 ?_
  refine lv_aload_n hx hb dX9_appendBytes_23 rfl (lv_at hl 1 rfl) ?_
  refine va_get (D := D) (ci := 10) (v := .int 7) (C := RX9) (T := TX9) (N := 9) hx hb hts inX9 hown hK hP 0 rfl rfl 1 (by decide) (hts (.fieldLink RX9 59 "EscrowDesk" "buffered" "I") (by decide +kernel)) (fun _ h9 => h9) rfl dX9_appendBytes_24 ?_
  refine lv_iload_n hx hb dX9_appendBytes_27 rfl (lv_at hl 2 rfl) ?_
  refine lv_iload_n hx hb dX9_appendBytes_28 rfl (lv_at hl 0 rfl) ?_
  refine lv_iushr hx hb dX9_appendBytes_29 rfl ?_
  refine lv_topi (fun yn24 _ => ?_)
  refine lv_sipush (v := 255) hx hb dX9_appendBytes_30 (by decide) ?_
  refine lv_iand hx hb dX9_appendBytes_33 ?_
  refine lv_i2c hx hb dX9_appendBytes_34 rfl ?_
  refine lv_topi (fun yn26 _ => ?_)
  refine va_cast hx hb hK hP hD hS 1 2 rfl rfl (vp_in_iff.mpr (by decide)) dX9_appendBytes_35 (fun H locs hP hD hS => ?_)
  have hP : va_P D vwCl [(h0, .inr (10, [.ref b0, .int 7, .ref p0, .ref u0, .ref r0, .ref a0, .ref t0, .ref s0, .ref o0])), (b0, .inl (cA 2, 700, .inl (upd fn20 7 (vp_nar .char yn26))))] H := hP
  have hD : va_D A [(h0, .inr (10, [.ref b0, .int 7, .ref p0, .ref u0, .ref r0, .ref a0, .ref t0, .ref s0, .ref o0])), (b0, .inl (cA 2, 700, .inl (upd fn20 7 (vp_nar .char yn26))))] := hD
  generalize (upd fn20 7 (vp_nar .char yn26)) = fn27 at hP hD
  have hP : va_P D vwCl [(h0, .inr (10, [.ref b0, .int 7, .ref p0, .ref u0, .ref r0, .ref a0, .ref t0, .ref s0, .ref o0])), (b0, .inl (cA 2, 700, .inl fn27))] H := hP
  have hD : va_D A [(h0, .inr (10, [.ref b0, .int 7, .ref p0, .ref u0, .ref r0, .ref a0, .ref t0, .ref s0, .ref o0])), (b0, .inl (cA 2, 700, .inl fn27))] := hD
  refine lv_aload_n hx hb dX9_appendBytes_36 rfl (lv_at hl 1 rfl) ?_
  refine lv_dup hx hb dX9_appendBytes_37 rfl ?_
  refine va_get (D := D) (ci := 10) (v := .int 7) (C := RX9) (T := TX9) (N := 9) hx hb hts inX9 hown hK hP 0 rfl rfl 1 (by decide) (hts (.fieldLink RX9 59 "EscrowDesk" "buffered" "I") (by decide +kernel)) (fun _ h9 => h9) rfl dX9_appendBytes_38 ?_
  refine lv_iconst (v := 1) hx hb dX9_appendBytes_41 (by decide) ?_
  refine lv_iadd hx hb dX9_appendBytes_42 ?_
  refine lv_topi (fun yn28 eyn28 => ?_)
  obtain rfl : yn28 = 8 := eyn28.trans (by first | rfl | decide +kernel)
  refine va_put (D := D) (ci := 10) (v := .int 8) (ty := .int) (C := RX9) (T := TX9) (N := 9) hx hb hts inX9 tyX9 tyX9_ok nmX9 hown hK hP hD hS 0 rfl rfl 1 (by decide) (hts (.fieldLink RX9 59 "EscrowDesk" "buffered" "I") (by decide +kernel)) (fun _ h9 => h9) rfl (by decide +kernel) rfl rfl (Nat.le_of_ble_eq_true rfl) dX9_appendBytes_43 (fun H locs hP hD hS => ?_)
  have hP : va_P D vwCl [(h0, .inr (10, [.ref b0, .int 8, .ref p0, .ref u0, .ref r0, .ref a0, .ref t0, .ref s0, .ref o0])), (b0, .inl (cA 2, 700, .inl fn27))] H := hP
  have hD : va_D A [(h0, .inr (10, [.ref b0, .int 8, .ref p0, .ref u0, .ref r0, .ref a0, .ref t0, .ref s0, .ref o0])), (b0, .inl (cA 2, 700, .inl fn27))] := hD
  refine lv_iinc (v := (-8)) (lv' := [(2, .int (-8)), (0, .ref h0), (1, .int w)]) hx hb dX9_appendBytes_46 hl (k := 0) rfl (by first | rfl | decide +kernel) (by decide) rfl (fun ls hl => ?_)
  refine lv_goto (tgt := 3) hx hb dX9_appendBytes_49 (by decide) ?_
  refine lv_iload_n hx hb dX9_appendBytes_3 rfl (lv_at hl 0 rfl) ?_
  refine lv_if_lt (tgt := 52) hx hb dX9_appendBytes_4 (by decide) (fun c29 => ?_) (fun c9 => absurd c9 (by decide))
  have hP9 := hP.sub (ws' := [(h0, .inr (10, [.ref b0, .int 8, .ref p0, .ref u0, .ref r0, .ref a0, .ref t0, .ref s0, .ref o0])), (b0, .inl (cA 2, 700, .inl fn27))]) [0, 1] rfl
  have hD9 := hD.sub (ws' := [(h0, .inr (10, [.ref b0, .int 8, .ref p0, .ref u0, .ref r0, .ref a0, .ref t0, .ref s0, .ref o0])), (b0, .inl (cA 2, 700, .inl fn27))]) [0, 1] (by decide) rfl
  refine W.widen (k := 0) (n := 0) (Nat.le_of_ble_eq_true rfl) (Nat.le_of_ble_eq_true rfl) ?_
  exact W.vret hx hb hr (fun t ht hW => ⟨⟨(), rfl, trivial, fn27, by rw [ht]; exact hP9, hD9⟩, hS.F ht⟩) hS.2.2 dX9_appendBytes_52

set_option maxHeartbeats 4000000 in
set_option maxRecDepth 100000 in
/-- appendBytes at 8 -/
theorem c_appendBytes_8 (l : Launch) (D : va_G) (cA : Nat → ClassId) (sa : Nat → Nat) (h0 b0 p0 u0 r0 a0 t0 s0 o0 : Nat) (w : Int32) (fb : Nat → Int32) (sz : Nat) : Met l yX9_appendBytes wsX9_appendBytes ({ frames := 0, cells := 0, slots := 0, locals := 0 }) (va_Pc [.ref h0, .int w] (Wd D cA sa [(h0, .inr (10, [.ref b0, .int 8, .ref p0, .ref u0, .ref r0, .ref a0, .ref t0, .ref s0, .ref o0])), (b0, .inl (cA 2, 700, .inl fb))] sz)) (va_Qv (fun _ : Unit => True) (fun (_ : Unit) t => ∃ fn27 : Nat → Int32, Wq D (va_A [(h0, .inr (10, [.ref b0, .int 8, .ref p0, .ref u0, .ref r0, .ref a0, .ref t0, .ref s0, .ref o0])), (b0, .inl (cA 2, 700, .inl fb))] sz) [(h0, .inr (10, [.ref b0, .int 12, .ref p0, .ref u0, .ref r0, .ref a0, .ref t0, .ref s0, .ref o0])), (b0, .inl (cA 2, 700, .inl fn27))] t) (va_A [(h0, .inr (10, [.ref b0, .int 8, .ref p0, .ref u0, .ref r0, .ref a0, .ref t0, .ref s0, .ref o0])), (b0, .inl (cA 2, 700, .inl fb))] sz)) 0 0 (va_A [(h0, .inr (10, [.ref b0, .int 8, .ref p0, .ref u0, .ref r0, .ref a0, .ref t0, .ref s0, .ref o0])), (b0, .inl (cA 2, 700, .inl fb))] sz) := by
  refine Met.ofW (cc := cX9_appendBytes) (maxL := 3) (ret := none) (by decide) rfl ?_
  intro p e s m args below meth c s₁ B hml hv
  obtain ⟨rfl, hsz, hP, hK, hD0, hC, hZ⟩ := hv
  have hx := B.exec
  have hb := B.bytes
  have hr := B.returns
  have hts := atoms_spec (ws := wsX9_appendBytes) B.pre
  have hown : s.vm.findClass RX9 = some m.cls := findClass_of_methodNamed B.named
  have hlocks := B.notSynchronized
  subst hsz
  have hD := hD0.self (sz := s.heap.size)
  generalize hAe : va_A [(h0, .inr (10, [.ref b0, .int 8, .ref p0, .ref u0, .ref r0, .ref a0, .ref t0, .ref s0, .ref o0])), (b0, .inl (cA 2, 700, .inl fb))] s.heap.size = A at hD hZ ⊢
  have hA : ∀ q : Nat, s.heap.size ≤ q → A q := fun q h => by rw [← hAe]; exact Or.inr h
  have hS : va_S A s.heap s.heap [] := va_S.rf
  have hP : va_P D vwCl [(h0, .inr (10, [.ref b0, .int 8, .ref p0, .ref u0, .ref r0, .ref a0, .ref t0, .ref s0, .ref o0])), (b0, .inl (cA 2, 700, .inl fb))] s.heap := hP
  have hl := lv_entry ([.ref h0, .int w]) (n := 3) (Nat.le_of_ble_eq_true rfl)
  rw [lg_entry_eq]
  generalize (lg_sl ([.ref h0, .int w]) ++ List.replicate (3 - (lg_sl ([.ref h0, .int w])).length) Slot.unset).toArray = ls at hl ⊢
  have hl : lv_has ls 3 [(0, .ref h0), (1, .int w)] := hl
  have inX9 : ∀ w ∈ u_ws RX9 TX9 9, w ∈ wsX9_appendBytes := by decide +kernel
  refine lv_bipush (v := 24) hx hb dX9_appendBytes_0 (by decide) ?_
  refine lv_istore_n (lv' := [(2, .int 24), (0, .ref h0), (1, .int w)]) hx hb dX9_appendBytes_2 rfl hl (by decide) rfl (fun ls hl => ?_)
  refine lv_iload_n hx hb dX9_appendBytes_3 rfl (lv_at hl 0 rfl) ?_
  refine lv_if_lt (tgt := 52) hx hb dX9_appendBytes_4 (by decide) (fun c9 => absurd c9 (by decide)) (fun c1 => ?_)
  refine lv_aload_n hx hb dX9_appendBytes_7 rfl (lv_at hl 1 rfl) ?_
  refine va_get (D := D) (ci := 10) (v := .int 8) (C := RX9) (T := TX9) (N := 9) hx hb hts inX9 hown hK hP 0 rfl rfl 1 (by decide) (hts (.fieldLink RX9 59 "EscrowDesk" "buffered" "I") (by decide +kernel)) (fun _ h9 => h9) rfl dX9_appendBytes_8 ?_
  refine lv_aload_n hx hb dX9_appendBytes_11 rfl (lv_at hl 1 rfl) ?_
  refine va_get (D := D) (ci := 10) (v := .ref b0) (C := RX9) (T := TX9) (N := 9) hx hb hts inX9 hown hK hP 0 rfl rfl 0 (by decide) (hts (.fieldLink RX9 9 "EscrowDesk" "buffer" "[C") (by decide +kernel)) (fun _ h9 => h9) rfl dX9_appendBytes_12 ?_
  refine va_alen (v := 700) hx hb hK hP 1 2 rfl rfl rfl dX9_appendBytes_15 ?_
  refine lv_icmp_ge (tgt := 46) hx hb dX9_appendBytes_16 (by decide) (fun c9 => absurd c9 (by decide)) (fun c2 => ?_)
  refine lv_aload_n hx hb dX9_appendBytes_19 rfl (lv_at hl 1 rfl) ?_
  refine va_get (D := D) (ci := 10) (v := .ref b0) (C := RX9) (T := TX9) (N := 9) hx hb hts inX9 hown hK hP 0 rfl rfl 0 (by decide) (hts (.fieldLink RX9 9 "EscrowDesk" "buffer" "[C") (by decide +kernel)) (fun _ h9 => h9) rfl dX9_appendBytes_20 ?_
  refine lv_aload_n hx hb dX9_appendBytes_23 rfl (lv_at hl 1 rfl) ?_
  refine va_get (D := D) (ci := 10) (v := .int 8) (C := RX9) (T := TX9) (N := 9) hx hb hts inX9 hown hK hP 0 rfl rfl 1 (by decide) (hts (.fieldLink RX9 59 "EscrowDesk" "buffered" "I") (by decide +kernel)) (fun _ h9 => h9) rfl dX9_appendBytes_24 ?_
  refine lv_iload_n hx hb dX9_appendBytes_27 rfl (lv_at hl 2 rfl) ?_
  refine lv_iload_n hx hb dX9_appendBytes_28 rfl (lv_at hl 0 rfl) ?_
  refine lv_iushr hx hb dX9_appendBytes_29 rfl ?_
  refine lv_topi (fun yn3 _ => ?_)
  refine lv_sipush (v := 255) hx hb dX9_appendBytes_30 (by decide) ?_
  refine lv_iand hx hb dX9_appendBytes_33 ?_
  refine lv_i2c hx hb dX9_appendBytes_34 rfl ?_
  refine lv_topi (fun yn5 _ => ?_)
  refine va_cast hx hb hK hP hD hS 1 2 rfl rfl (vp_in_iff.mpr (by decide)) dX9_appendBytes_35 (fun H locs hP hD hS => ?_)
  have hP : va_P D vwCl [(h0, .inr (10, [.ref b0, .int 8, .ref p0, .ref u0, .ref r0, .ref a0, .ref t0, .ref s0, .ref o0])), (b0, .inl (cA 2, 700, .inl (upd fb 8 (vp_nar .char yn5))))] H := hP
  have hD : va_D A [(h0, .inr (10, [.ref b0, .int 8, .ref p0, .ref u0, .ref r0, .ref a0, .ref t0, .ref s0, .ref o0])), (b0, .inl (cA 2, 700, .inl (upd fb 8 (vp_nar .char yn5))))] := hD
  generalize (upd fb 8 (vp_nar .char yn5)) = fn6 at hP hD
  have hP : va_P D vwCl [(h0, .inr (10, [.ref b0, .int 8, .ref p0, .ref u0, .ref r0, .ref a0, .ref t0, .ref s0, .ref o0])), (b0, .inl (cA 2, 700, .inl fn6))] H := hP
  have hD : va_D A [(h0, .inr (10, [.ref b0, .int 8, .ref p0, .ref u0, .ref r0, .ref a0, .ref t0, .ref s0, .ref o0])), (b0, .inl (cA 2, 700, .inl fn6))] := hD
  refine lv_aload_n hx hb dX9_appendBytes_36 rfl (lv_at hl 1 rfl) ?_
  refine lv_dup hx hb dX9_appendBytes_37 rfl ?_
  refine va_get (D := D) (ci := 10) (v := .int 8) (C := RX9) (T := TX9) (N := 9) hx hb hts inX9 hown hK hP 0 rfl rfl 1 (by decide) (hts (.fieldLink RX9 59 "EscrowDesk" "buffered" "I") (by decide +kernel)) (fun _ h9 => h9) rfl dX9_appendBytes_38 ?_
  refine lv_iconst (v := 1) hx hb dX9_appendBytes_41 (by decide) ?_
  refine lv_iadd hx hb dX9_appendBytes_42 ?_
  refine lv_topi (fun yn7 eyn7 => ?_)
  obtain rfl : yn7 = 9 := eyn7.trans (by first | rfl | decide +kernel)
  refine va_put (D := D) (ci := 10) (v := .int 9) (ty := .int) (C := RX9) (T := TX9) (N := 9) hx hb hts inX9 tyX9 tyX9_ok nmX9 hown hK hP hD hS 0 rfl rfl 1 (by decide) (hts (.fieldLink RX9 59 "EscrowDesk" "buffered" "I") (by decide +kernel)) (fun _ h9 => h9) rfl (by decide +kernel) rfl rfl (Nat.le_of_ble_eq_true rfl) dX9_appendBytes_43 (fun H locs hP hD hS => ?_)
  have hP : va_P D vwCl [(h0, .inr (10, [.ref b0, .int 9, .ref p0, .ref u0, .ref r0, .ref a0, .ref t0, .ref s0, .ref o0])), (b0, .inl (cA 2, 700, .inl fn6))] H := hP
  have hD : va_D A [(h0, .inr (10, [.ref b0, .int 9, .ref p0, .ref u0, .ref r0, .ref a0, .ref t0, .ref s0, .ref o0])), (b0, .inl (cA 2, 700, .inl fn6))] := hD
  refine lv_iinc (v := 16) (lv' := [(2, .int 16), (0, .ref h0), (1, .int w)]) hx hb dX9_appendBytes_46 hl (k := 0) rfl (by first | rfl | decide +kernel) (by decide) rfl (fun ls hl => ?_)
  refine lv_goto (tgt := 3) hx hb dX9_appendBytes_49 (by decide) ?_
  refine lv_iload_n hx hb dX9_appendBytes_3 rfl (lv_at hl 0 rfl) ?_
  refine lv_if_lt (tgt := 52) hx hb dX9_appendBytes_4 (by decide) (fun c9 => absurd c9 (by decide)) (fun c8 => ?_)
  refine lv_aload_n hx hb dX9_appendBytes_7 rfl (lv_at hl 1 rfl) ?_
  refine va_get (D := D) (ci := 10) (v := .int 9) (C := RX9) (T := TX9) (N := 9) hx hb hts inX9 hown hK hP 0 rfl rfl 1 (by decide) (hts (.fieldLink RX9 59 "EscrowDesk" "buffered" "I") (by decide +kernel)) (fun _ h9 => h9) rfl dX9_appendBytes_8 ?_
  refine lv_aload_n hx hb dX9_appendBytes_11 rfl (lv_at hl 1 rfl) ?_
  refine va_get (D := D) (ci := 10) (v := .ref b0) (C := RX9) (T := TX9) (N := 9) hx hb hts inX9 hown hK hP 0 rfl rfl 0 (by decide) (hts (.fieldLink RX9 9 "EscrowDesk" "buffer" "[C") (by decide +kernel)) (fun _ h9 => h9) rfl dX9_appendBytes_12 ?_
  refine va_alen (v := 700) hx hb hK hP 1 2 rfl rfl rfl dX9_appendBytes_15 ?_
  refine lv_icmp_ge (tgt := 46) hx hb dX9_appendBytes_16 (by decide) (fun c9 => absurd c9 (by decide)) (fun c9 => ?_)
  refine lv_aload_n hx hb dX9_appendBytes_19 rfl (lv_at hl 1 rfl) ?_
  refine va_get (D := D) (ci := 10) (v := .ref b0) (C := RX9) (T := TX9) (N := 9) hx hb hts inX9 hown hK hP 0 rfl rfl 0 (by decide) (hts (.fieldLink RX9 9 "EscrowDesk" "buffer" "[C") (by decide +kernel)) (fun _ h9 => h9) rfl dX9_appendBytes_20 ?_
  refine lv_aload_n hx hb dX9_appendBytes_23 rfl (lv_at hl 1 rfl) ?_
  refine va_get (D := D) (ci := 10) (v := .int 9) (C := RX9) (T := TX9) (N := 9) hx hb hts inX9 hown hK hP 0 rfl rfl 1 (by decide) (hts (.fieldLink RX9 59 "EscrowDesk" "buffered" "I") (by decide +kernel)) (fun _ h9 => h9) rfl dX9_appendBytes_24 ?_
  refine lv_iload_n hx hb dX9_appendBytes_27 rfl (lv_at hl 2 rfl) ?_
  refine lv_iload_n hx hb dX9_appendBytes_28 rfl (lv_at hl 0 rfl) ?_
  refine lv_iushr hx hb dX9_appendBytes_29 rfl ?_
  refine lv_topi (fun yn10 _ => ?_)
  refine lv_sipush (v := 255) hx hb dX9_appendBytes_30 (by decide) ?_
  refine lv_iand hx hb dX9_appendBytes_33 ?_
  refine lv_i2c hx hb dX9_appendBytes_34 rfl ?_
  refine lv_topi (fun yn12 _ => ?_)
  refine va_cast hx hb hK hP hD hS 1 2 rfl rfl (vp_in_iff.mpr (by decide)) dX9_appendBytes_35 (fun H locs hP hD hS => ?_)
  have hP : va_P D vwCl [(h0, .inr (10, [.ref b0, .int 9, .ref p0, .ref u0, .ref r0, .ref a0, .ref t0, .ref s0, .ref o0])), (b0, .inl (cA 2, 700, .inl (upd fn6 9 (vp_nar .char yn12))))] H := hP
  have hD : va_D A [(h0, .inr (10, [.ref b0, .int 9, .ref p0, .ref u0, .ref r0, .ref a0, .ref t0, .ref s0, .ref o0])), (b0, .inl (cA 2, 700, .inl (upd fn6 9 (vp_nar .char yn12))))] := hD
  generalize (upd fn6 9 (vp_nar .char yn12)) = fn13 at hP hD
  have hP : va_P D vwCl [(h0, .inr (10, [.ref b0, .int 9, .ref p0, .ref u0, .ref r0, .ref a0, .ref t0, .ref s0, .ref o0])), (b0, .inl (cA 2, 700, .inl fn13))] H := hP
  have hD : va_D A [(h0, .inr (10, [.ref b0, .int 9, .ref p0, .ref u0, .ref r0, .ref a0, .ref t0, .ref s0, .ref o0])), (b0, .inl (cA 2, 700, .inl fn13))] := hD
  refine lv_aload_n hx hb dX9_appendBytes_36 rfl (lv_at hl 1 rfl) ?_
  refine lv_dup hx hb dX9_appendBytes_37 rfl ?_
  refine va_get (D := D) (ci := 10) (v := .int 9) (C := RX9) (T := TX9) (N := 9) hx hb hts inX9 hown hK hP 0 rfl rfl 1 (by decide) (hts (.fieldLink RX9 59 "EscrowDesk" "buffered" "I") (by decide +kernel)) (fun _ h9 => h9) rfl dX9_appendBytes_38 ?_
  refine lv_iconst (v := 1) hx hb dX9_appendBytes_41 (by decide) ?_
  refine lv_iadd hx hb dX9_appendBytes_42 ?_
  refine lv_topi (fun yn14 eyn14 => ?_)
  obtain rfl : yn14 = 10 := eyn14.trans (by first | rfl | decide +kernel)
  refine va_put (D := D) (ci := 10) (v := .int 10) (ty := .int) (C := RX9) (T := TX9) (N := 9) hx hb hts inX9 tyX9 tyX9_ok nmX9 hown hK hP hD hS 0 rfl rfl 1 (by decide) (hts (.fieldLink RX9 59 "EscrowDesk" "buffered" "I") (by decide +kernel)) (fun _ h9 => h9) rfl (by decide +kernel) rfl rfl (Nat.le_of_ble_eq_true rfl) dX9_appendBytes_43 (fun H locs hP hD hS => ?_)
  have hP : va_P D vwCl [(h0, .inr (10, [.ref b0, .int 10, .ref p0, .ref u0, .ref r0, .ref a0, .ref t0, .ref s0, .ref o0])), (b0, .inl (cA 2, 700, .inl fn13))] H := hP
  have hD : va_D A [(h0, .inr (10, [.ref b0, .int 10, .ref p0, .ref u0, .ref r0, .ref a0, .ref t0, .ref s0, .ref o0])), (b0, .inl (cA 2, 700, .inl fn13))] := hD
  refine lv_iinc (v := 8) (lv' := [(2, .int 8), (0, .ref h0), (1, .int w)]) hx hb dX9_appendBytes_46 hl (k := 0) rfl (by first | rfl | decide +kernel) (by decide) rfl (fun ls hl => ?_)
  refine lv_goto (tgt := 3) hx hb dX9_appendBytes_49 (by decide) ?_
  refine lv_iload_n hx hb dX9_appendBytes_3 rfl (lv_at hl 0 rfl) ?_
  refine lv_if_lt (tgt := 52) hx hb dX9_appendBytes_4 (by decide) (fun c9 => absurd c9 (by decide)) (fun c15 => ?_)
  refine lv_aload_n hx hb dX9_appendBytes_7 rfl (lv_at hl 1 rfl) ?_
  refine va_get (D := D) (ci := 10) (v := .int 10) (C := RX9) (T := TX9) (N := 9) hx hb hts inX9 hown hK hP 0 rfl rfl 1 (by decide) (hts (.fieldLink RX9 59 "EscrowDesk" "buffered" "I") (by decide +kernel)) (fun _ h9 => h9) rfl dX9_appendBytes_8 ?_
  refine lv_aload_n hx hb dX9_appendBytes_11 rfl (lv_at hl 1 rfl) ?_
  refine va_get (D := D) (ci := 10) (v := .ref b0) (C := RX9) (T := TX9) (N := 9) hx hb hts inX9 hown hK hP 0 rfl rfl 0 (by decide) (hts (.fieldLink RX9 9 "EscrowDesk" "buffer" "[C") (by decide +kernel)) (fun _ h9 => h9) rfl dX9_appendBytes_12 ?_
  refine va_alen (v := 700) hx hb hK hP 1 2 rfl rfl rfl dX9_appendBytes_15 ?_
  refine lv_icmp_ge (tgt := 46) hx hb dX9_appendBytes_16 (by decide) (fun c9 => absurd c9 (by decide)) (fun c16 => ?_)
  refine lv_aload_n hx hb dX9_appendBytes_19 rfl (lv_at hl 1 rfl) ?_
  refine va_get (D := D) (ci := 10) (v := .ref b0) (C := RX9) (T := TX9) (N := 9) hx hb hts inX9 hown hK hP 0 rfl rfl 0 (by decide) (hts (.fieldLink RX9 9 "EscrowDesk" "buffer" "[C") (by decide +kernel)) (fun _ h9 => h9) rfl dX9_appendBytes_20 ?_
  refine lv_aload_n hx hb dX9_appendBytes_23 rfl (lv_at hl 1 rfl) ?_
  refine va_get (D := D) (ci := 10) (v := .int 10) (C := RX9) (T := TX9) (N := 9) hx hb hts inX9 hown hK hP 0 rfl rfl 1 (by decide) (hts (.fieldLink RX9 59 "EscrowDesk" "buffered" "I") (by decide +kernel)) (fun _ h9 => h9) rfl dX9_appendBytes_24 ?_
  refine lv_iload_n hx hb dX9_appendBytes_27 rfl (lv_at hl 2 rfl) ?_
  refine lv_iload_n hx hb dX9_appendBytes_28 rfl (lv_at hl 0 rfl) ?_
  refine lv_iushr hx hb dX9_appendBytes_29 rfl ?_
  refine lv_topi (fun yn17 _ => ?_)
  refine lv_sipush (v := 255) hx hb dX9_appendBytes_30 (by decide) ?_
  refine lv_iand hx hb dX9_appendBytes_33 ?_
  refine lv_i2c hx hb dX9_appendBytes_34 rfl ?_
  refine lv_topi (fun yn19 _ => ?_)
  refine va_cast hx hb hK hP hD hS 1 2 rfl rfl (vp_in_iff.mpr (by decide)) dX9_appendBytes_35 (fun H locs hP hD hS => ?_)
  have hP : va_P D vwCl [(h0, .inr (10, [.ref b0, .int 10, .ref p0, .ref u0, .ref r0, .ref a0, .ref t0, .ref s0, .ref o0])), (b0, .inl (cA 2, 700, .inl (upd fn13 10 (vp_nar .char yn19))))] H := hP
  have hD : va_D A [(h0, .inr (10, [.ref b0, .int 10, .ref p0, .ref u0, .ref r0, .ref a0, .ref t0, .ref s0, .ref o0])), (b0, .inl (cA 2, 700, .inl (upd fn13 10 (vp_nar .char yn19))))] := hD
  generalize (upd fn13 10 (vp_nar .char yn19)) = fn20 at hP hD
  have hP : va_P D vwCl [(h0, .inr (10, [.ref b0, .int 10, .ref p0, .ref u0, .ref r0, .ref a0, .ref t0, .ref s0, .ref o0])), (b0, .inl (cA 2, 700, .inl fn20))] H := hP
  have hD : va_D A [(h0, .inr (10, [.ref b0, .int 10, .ref p0, .ref u0, .ref r0, .ref a0, .ref t0, .ref s0, .ref o0])), (b0, .inl (cA 2, 700, .inl fn20))] := hD
  refine lv_aload_n hx hb dX9_appendBytes_36 rfl (lv_at hl 1 rfl) ?_
  refine lv_dup hx hb dX9_appendBytes_37 rfl ?_
  refine va_get (D := D) (ci := 10) (v := .int 10) (C := RX9) (T := TX9) (N := 9) hx hb hts inX9 hown hK hP 0 rfl rfl 1 (by decide) (hts (.fieldLink RX9 59 "EscrowDesk" "buffered" "I") (by decide +kernel)) (fun _ h9 => h9) rfl dX9_appendBytes_38 ?_
  refine lv_iconst (v := 1) hx hb dX9_appendBytes_41 (by decide) ?_
  refine lv_iadd hx hb dX9_appendBytes_42 ?_
  refine lv_topi (fun yn21 eyn21 => ?_)
  obtain rfl : yn21 = 11 := eyn21.trans (by first | rfl | decide +kernel)
  refine va_put (D := D) (ci := 10) (v := .int 11) (ty := .int) (C := RX9) (T := TX9) (N := 9) hx hb hts inX9 tyX9 tyX9_ok nmX9 hown hK hP hD hS 0 rfl rfl 1 (by decide) (hts (.fieldLink RX9 59 "EscrowDesk" "buffered" "I") (by decide +kernel)) (fun _ h9 => h9) rfl (by decide +kernel) rfl rfl (Nat.le_of_ble_eq_true rfl) dX9_appendBytes_43 (fun H locs hP hD hS => ?_)
  have hP : va_P D vwCl [(h0, .inr (10, [.ref b0, .int 11, .ref p0, .ref u0, .ref r0, .ref a0, .ref t0, .ref s0, .ref o0])), (b0, .inl (cA 2, 700, .inl fn20))] H := hP
  have hD : va_D A [(h0, .inr (10, [.ref b0, .int 11, .ref p0, .ref u0, .ref r0, .ref a0, .ref t0, .ref s0, .ref o0])), (b0, .inl (cA 2, 700, .inl fn20))] := hD
  refine lv_iinc (v := 0) (lv' := [(2, .int 0), (0, .ref h0), (1, .int w)]) hx hb dX9_appendBytes_46 hl (k := 0) rfl (by first | rfl | decide +kernel) (by decide) rfl (fun ls hl => ?_)
  refine lv_goto (tgt := 3) hx hb dX9_appendBytes_49 (by decide) ?_
  refine lv_iload_n hx hb dX9_appendBytes_3 rfl (lv_at hl 0 rfl) ?_
  refine lv_if_lt (tgt := 52) hx hb dX9_appendBytes_4 (by decide) (fun c9 => absurd c9 (by decide)) (fun c22 => ?_)
  refine lv_aload_n hx hb dX9_appendBytes_7 rfl (lv_at hl 1 rfl) ?_
  refine va_get (D := D) (ci := 10) (v := .int 11) (C := RX9) (T := TX9) (N := 9) hx hb hts inX9 hown hK hP 0 rfl rfl 1 (by decide) (hts (.fieldLink RX9 59 "EscrowDesk" "buffered" "I") (by decide +kernel)) (fun _ h9 => h9) rfl dX9_appendBytes_8 ?_
  refine lv_aload_n hx hb dX9_appendBytes_11 rfl (lv_at hl 1 rfl) ?_
  refine va_get (D := D) (ci := 10) (v := .ref b0) (C := RX9) (T := TX9) (N := 9) hx hb hts inX9 hown hK hP 0 rfl rfl 0 (by decide) (hts (.fieldLink RX9 9 "EscrowDesk" "buffer" "[C") (by decide +kernel)) (fun _ h9 => h9) rfl dX9_appendBytes_12 ?_
  refine va_alen (v := 700) hx hb hK hP 1 2 rfl rfl rfl dX9_appendBytes_15 ?_
  refine lv_icmp_ge (tgt := 46) hx hb dX9_appendBytes_16 (by decide) (fun c9 => absurd c9 (by decide)) (fun c23 => ?_)
  refine lv_aload_n hx hb dX9_appendBytes_19 rfl (lv_at hl 1 rfl) ?_
  refine va_get (D := D) (ci := 10) (v := .ref b0) (C := RX9) (T := TX9) (N := 9) hx hb hts inX9 hown hK hP 0 rfl rfl 0 (by decide) (hts (.fieldLink RX9 9 "EscrowDesk" "buffer" "[C") (by decide +kernel)) (fun _ h9 => h9) rfl dX9_appendBytes_20 ?_
  refine lv_aload_n hx hb dX9_appendBytes_23 rfl (lv_at hl 1 rfl) ?_
  refine va_get (D := D) (ci := 10) (v := .int 11) (C := RX9) (T := TX9) (N := 9) hx hb hts inX9 hown hK hP 0 rfl rfl 1 (by decide) (hts (.fieldLink RX9 59 "EscrowDesk" "buffered" "I") (by decide +kernel)) (fun _ h9 => h9) rfl dX9_appendBytes_24 ?_
  refine lv_iload_n hx hb dX9_appendBytes_27 rfl (lv_at hl 2 rfl) ?_
  refine lv_iload_n hx hb dX9_appendBytes_28 rfl (lv_at hl 0 rfl) ?_
  refine lv_iushr hx hb dX9_appendBytes_29 rfl ?_
  refine lv_topi (fun yn24 _ => ?_)
  refine lv_sipush (v := 255) hx hb dX9_appendBytes_30 (by decide) ?_
  refine lv_iand hx hb dX9_appendBytes_33 ?_
  refine lv_i2c hx hb dX9_appendBytes_34 rfl ?_
  refine lv_topi (fun yn26 _ => ?_)
  refine va_cast hx hb hK hP hD hS 1 2 rfl rfl (vp_in_iff.mpr (by decide)) dX9_appendBytes_35 (fun H locs hP hD hS => ?_)
  have hP : va_P D vwCl [(h0, .inr (10, [.ref b0, .int 11, .ref p0, .ref u0, .ref r0, .ref a0, .ref t0, .ref s0, .ref o0])), (b0, .inl (cA 2, 700, .inl (upd fn20 11 (vp_nar .char yn26))))] H := hP
  have hD : va_D A [(h0, .inr (10, [.ref b0, .int 11, .ref p0, .ref u0, .ref r0, .ref a0, .ref t0, .ref s0, .ref o0])), (b0, .inl (cA 2, 700, .inl (upd fn20 11 (vp_nar .char yn26))))] := hD
  generalize (upd fn20 11 (vp_nar .char yn26)) = fn27 at hP hD
  have hP : va_P D vwCl [(h0, .inr (10, [.ref b0, .int 11, .ref p0, .ref u0, .ref r0, .ref a0, .ref t0, .ref s0, .ref o0])), (b0, .inl (cA 2, 700, .inl fn27))] H := hP
  have hD : va_D A [(h0, .inr (10, [.ref b0, .int 11, .ref p0, .ref u0, .ref r0, .ref a0, .ref t0, .ref s0, .ref o0])), (b0, .inl (cA 2, 700, .inl fn27))] := hD
  refine lv_aload_n hx hb dX9_appendBytes_36 rfl (lv_at hl 1 rfl) ?_
  refine lv_dup hx hb dX9_appendBytes_37 rfl ?_
  refine va_get (D := D) (ci := 10) (v := .int 11) (C := RX9) (T := TX9) (N := 9) hx hb hts inX9 hown hK hP 0 rfl rfl 1 (by decide) (hts (.fieldLink RX9 59 "EscrowDesk" "buffered" "I") (by decide +kernel)) (fun _ h9 => h9) rfl dX9_appendBytes_38 ?_
  refine lv_iconst (v := 1) hx hb dX9_appendBytes_41 (by decide) ?_
  refine lv_iadd hx hb dX9_appendBytes_42 ?_
  refine lv_topi (fun yn28 eyn28 => ?_)
  obtain rfl : yn28 = 12 := eyn28.trans (by first | rfl | decide +kernel)
  refine va_put (D := D) (ci := 10) (v := .int 12) (ty := .int) (C := RX9) (T := TX9) (N := 9) hx hb hts inX9 tyX9 tyX9_ok nmX9 hown hK hP hD hS 0 rfl rfl 1 (by decide) (hts (.fieldLink RX9 59 "EscrowDesk" "buffered" "I") (by decide +kernel)) (fun _ h9 => h9) rfl (by decide +kernel) rfl rfl (Nat.le_of_ble_eq_true rfl) dX9_appendBytes_43 (fun H locs hP hD hS => ?_)
  have hP : va_P D vwCl [(h0, .inr (10, [.ref b0, .int 12, .ref p0, .ref u0, .ref r0, .ref a0, .ref t0, .ref s0, .ref o0])), (b0, .inl (cA 2, 700, .inl fn27))] H := hP
  have hD : va_D A [(h0, .inr (10, [.ref b0, .int 12, .ref p0, .ref u0, .ref r0, .ref a0, .ref t0, .ref s0, .ref o0])), (b0, .inl (cA 2, 700, .inl fn27))] := hD
  refine lv_iinc (v := (-8)) (lv' := [(2, .int (-8)), (0, .ref h0), (1, .int w)]) hx hb dX9_appendBytes_46 hl (k := 0) rfl (by first | rfl | decide +kernel) (by decide) rfl (fun ls hl => ?_)
  refine lv_goto (tgt := 3) hx hb dX9_appendBytes_49 (by decide) ?_
  refine lv_iload_n hx hb dX9_appendBytes_3 rfl (lv_at hl 0 rfl) ?_
  refine lv_if_lt (tgt := 52) hx hb dX9_appendBytes_4 (by decide) (fun c29 => ?_) (fun c9 => absurd c9 (by decide))
  have hP9 := hP.sub (ws' := [(h0, .inr (10, [.ref b0, .int 12, .ref p0, .ref u0, .ref r0, .ref a0, .ref t0, .ref s0, .ref o0])), (b0, .inl (cA 2, 700, .inl fn27))]) [0, 1] rfl
  have hD9 := hD.sub (ws' := [(h0, .inr (10, [.ref b0, .int 12, .ref p0, .ref u0, .ref r0, .ref a0, .ref t0, .ref s0, .ref o0])), (b0, .inl (cA 2, 700, .inl fn27))]) [0, 1] (by decide) rfl
  refine W.widen (k := 0) (n := 0) (Nat.le_of_ble_eq_true rfl) (Nat.le_of_ble_eq_true rfl) ?_
  exact W.vret hx hb hr (fun t ht hW => ⟨⟨(), rfl, trivial, fn27, by rw [ht]; exact hP9, hD9⟩, hS.F ht⟩) hS.2.2 dX9_appendBytes_52

set_option maxHeartbeats 4000000 in
set_option maxRecDepth 100000 in
/-- appendBytes at 12 -/
theorem c_appendBytes_12 (l : Launch) (D : va_G) (cA : Nat → ClassId) (sa : Nat → Nat) (h0 b0 p0 u0 r0 a0 t0 s0 o0 : Nat) (w : Int32) (fb : Nat → Int32) (sz : Nat) : Met l yX9_appendBytes wsX9_appendBytes ({ frames := 0, cells := 0, slots := 0, locals := 0 }) (va_Pc [.ref h0, .int w] (Wd D cA sa [(h0, .inr (10, [.ref b0, .int 12, .ref p0, .ref u0, .ref r0, .ref a0, .ref t0, .ref s0, .ref o0])), (b0, .inl (cA 2, 700, .inl fb))] sz)) (va_Qv (fun _ : Unit => True) (fun (_ : Unit) t => ∃ fn27 : Nat → Int32, Wq D (va_A [(h0, .inr (10, [.ref b0, .int 12, .ref p0, .ref u0, .ref r0, .ref a0, .ref t0, .ref s0, .ref o0])), (b0, .inl (cA 2, 700, .inl fb))] sz) [(h0, .inr (10, [.ref b0, .int 16, .ref p0, .ref u0, .ref r0, .ref a0, .ref t0, .ref s0, .ref o0])), (b0, .inl (cA 2, 700, .inl fn27))] t) (va_A [(h0, .inr (10, [.ref b0, .int 12, .ref p0, .ref u0, .ref r0, .ref a0, .ref t0, .ref s0, .ref o0])), (b0, .inl (cA 2, 700, .inl fb))] sz)) 0 0 (va_A [(h0, .inr (10, [.ref b0, .int 12, .ref p0, .ref u0, .ref r0, .ref a0, .ref t0, .ref s0, .ref o0])), (b0, .inl (cA 2, 700, .inl fb))] sz) := by
  refine Met.ofW (cc := cX9_appendBytes) (maxL := 3) (ret := none) (by decide) rfl ?_
  intro p e s m args below meth c s₁ B hml hv
  obtain ⟨rfl, hsz, hP, hK, hD0, hC, hZ⟩ := hv
  have hx := B.exec
  have hb := B.bytes
  have hr := B.returns
  have hts := atoms_spec (ws := wsX9_appendBytes) B.pre
  have hown : s.vm.findClass RX9 = some m.cls := findClass_of_methodNamed B.named
  have hlocks := B.notSynchronized
  subst hsz
  have hD := hD0.self (sz := s.heap.size)
  generalize hAe : va_A [(h0, .inr (10, [.ref b0, .int 12, .ref p0, .ref u0, .ref r0, .ref a0, .ref t0, .ref s0, .ref o0])), (b0, .inl (cA 2, 700, .inl fb))] s.heap.size = A at hD hZ ⊢
  have hA : ∀ q : Nat, s.heap.size ≤ q → A q := fun q h => by rw [← hAe]; exact Or.inr h
  have hS : va_S A s.heap s.heap [] := va_S.rf
  have hP : va_P D vwCl [(h0, .inr (10, [.ref b0, .int 12, .ref p0, .ref u0, .ref r0, .ref a0, .ref t0, .ref s0, .ref o0])), (b0, .inl (cA 2, 700, .inl fb))] s.heap := hP
  have hl := lv_entry ([.ref h0, .int w]) (n := 3) (Nat.le_of_ble_eq_true rfl)
  rw [lg_entry_eq]
  generalize (lg_sl ([.ref h0, .int w]) ++ List.replicate (3 - (lg_sl ([.ref h0, .int w])).length) Slot.unset).toArray = ls at hl ⊢
  have hl : lv_has ls 3 [(0, .ref h0), (1, .int w)] := hl
  have inX9 : ∀ w ∈ u_ws RX9 TX9 9, w ∈ wsX9_appendBytes := by decide +kernel
  refine lv_bipush (v := 24) hx hb dX9_appendBytes_0 (by decide) ?_
  refine lv_istore_n (lv' := [(2, .int 24), (0, .ref h0), (1, .int w)]) hx hb dX9_appendBytes_2 rfl hl (by decide) rfl (fun ls hl => ?_)
  refine lv_iload_n hx hb dX9_appendBytes_3 rfl (lv_at hl 0 rfl) ?_
  refine lv_if_lt (tgt := 52) hx hb dX9_appendBytes_4 (by decide) (fun c9 => absurd c9 (by decide)) (fun c1 => ?_)
  refine lv_aload_n hx hb dX9_appendBytes_7 rfl (lv_at hl 1 rfl) ?_
  refine va_get (D := D) (ci := 10) (v := .int 12) (C := RX9) (T := TX9) (N := 9) hx hb hts inX9 hown hK hP 0 rfl rfl 1 (by decide) (hts (.fieldLink RX9 59 "EscrowDesk" "buffered" "I") (by decide +kernel)) (fun _ h9 => h9) rfl dX9_appendBytes_8 ?_
  refine lv_aload_n hx hb dX9_appendBytes_11 rfl (lv_at hl 1 rfl) ?_
  refine va_get (D := D) (ci := 10) (v := .ref b0) (C := RX9) (T := TX9) (N := 9) hx hb hts inX9 hown hK hP 0 rfl rfl 0 (by decide) (hts (.fieldLink RX9 9 "EscrowDesk" "buffer" "[C") (by decide +kernel)) (fun _ h9 => h9) rfl dX9_appendBytes_12 ?_
  refine va_alen (v := 700) hx hb hK hP 1 2 rfl rfl rfl dX9_appendBytes_15 ?_
  refine lv_icmp_ge (tgt := 46) hx hb dX9_appendBytes_16 (by decide) (fun c9 => absurd c9 (by decide)) (fun c2 => ?_)
  refine lv_aload_n hx hb dX9_appendBytes_19 rfl (lv_at hl 1 rfl) ?_
  refine va_get (D := D) (ci := 10) (v := .ref b0) (C := RX9) (T := TX9) (N := 9) hx hb hts inX9 hown hK hP 0 rfl rfl 0 (by decide) (hts (.fieldLink RX9 9 "EscrowDesk" "buffer" "[C") (by decide +kernel)) (fun _ h9 => h9) rfl dX9_appendBytes_20 ?_
  refine lv_aload_n hx hb dX9_appendBytes_23 rfl (lv_at hl 1 rfl) ?_
  refine va_get (D := D) (ci := 10) (v := .int 12) (C := RX9) (T := TX9) (N := 9) hx hb hts inX9 hown hK hP 0 rfl rfl 1 (by decide) (hts (.fieldLink RX9 59 "EscrowDesk" "buffered" "I") (by decide +kernel)) (fun _ h9 => h9) rfl dX9_appendBytes_24 ?_
  refine lv_iload_n hx hb dX9_appendBytes_27 rfl (lv_at hl 2 rfl) ?_
  refine lv_iload_n hx hb dX9_appendBytes_28 rfl (lv_at hl 0 rfl) ?_
  refine lv_iushr hx hb dX9_appendBytes_29 rfl ?_
  refine lv_topi (fun yn3 _ => ?_)
  refine lv_sipush (v := 255) hx hb dX9_appendBytes_30 (by decide) ?_
  refine lv_iand hx hb dX9_appendBytes_33 ?_
  refine lv_i2c hx hb dX9_appendBytes_34 rfl ?_
  refine lv_topi (fun yn5 _ => ?_)
  refine va_cast hx hb hK hP hD hS 1 2 rfl rfl (vp_in_iff.mpr (by decide)) dX9_appendBytes_35 (fun H locs hP hD hS => ?_)
  have hP : va_P D vwCl [(h0, .inr (10, [.ref b0, .int 12, .ref p0, .ref u0, .ref r0, .ref a0, .ref t0, .ref s0, .ref o0])), (b0, .inl (cA 2, 700, .inl (upd fb 12 (vp_nar .char yn5))))] H := hP
  have hD : va_D A [(h0, .inr (10, [.ref b0, .int 12, .ref p0, .ref u0, .ref r0, .ref a0, .ref t0, .ref s0, .ref o0])), (b0, .inl (cA 2, 700, .inl (upd fb 12 (vp_nar .char yn5))))] := hD
  generalize (upd fb 12 (vp_nar .char yn5)) = fn6 at hP hD
  have hP : va_P D vwCl [(h0, .inr (10, [.ref b0, .int 12, .ref p0, .ref u0, .ref r0, .ref a0, .ref t0, .ref s0, .ref o0])), (b0, .inl (cA 2, 700, .inl fn6))] H := hP
  have hD : va_D A [(h0, .inr (10, [.ref b0, .int 12, .ref p0, .ref u0, .ref r0, .ref a0, .ref t0, .ref s0, .ref o0])), (b0, .inl (cA 2, 700, .inl fn6))] := hD
  refine lv_aload_n hx hb dX9_appendBytes_36 rfl (lv_at hl 1 rfl) ?_
  refine lv_dup hx hb dX9_appendBytes_37 rfl ?_
  refine va_get (D := D) (ci := 10) (v := .int 12) (C := RX9) (T := TX9) (N := 9) hx hb hts inX9 hown hK hP 0 rfl rfl 1 (by decide) (hts (.fieldLink RX9 59 "EscrowDesk" "buffered" "I") (by decide +kernel)) (fun _ h9 => h9) rfl dX9_appendBytes_38 ?_
  refine lv_iconst (v := 1) hx hb dX9_appendBytes_41 (by decide) ?_
  refine lv_iadd hx hb dX9_appendBytes_42 ?_
  refine lv_topi (fun yn7 eyn7 => ?_)
  obtain rfl : yn7 = 13 := eyn7.trans (by first | rfl | decide +kernel)
  refine va_put (D := D) (ci := 10) (v := .int 13) (ty := .int) (C := RX9) (T := TX9) (N := 9) hx hb hts inX9 tyX9 tyX9_ok nmX9 hown hK hP hD hS 0 rfl rfl 1 (by decide) (hts (.fieldLink RX9 59 "EscrowDesk" "buffered" "I") (by decide +kernel)) (fun _ h9 => h9) rfl (by decide +kernel) rfl rfl (Nat.le_of_ble_eq_true rfl) dX9_appendBytes_43 (fun H locs hP hD hS => ?_)
  have hP : va_P D vwCl [(h0, .inr (10, [.ref b0, .int 13, .ref p0, .ref u0, .ref r0, .ref a0, .ref t0, .ref s0, .ref o0])), (b0, .inl (cA 2, 700, .inl fn6))] H := hP
  have hD : va_D A [(h0, .inr (10, [.ref b0, .int 13, .ref p0, .ref u0, .ref r0, .ref a0, .ref t0, .ref s0, .ref o0])), (b0, .inl (cA 2, 700, .inl fn6))] := hD
  refine lv_iinc (v := 16) (lv' := [(2, .int 16), (0, .ref h0), (1, .int w)]) hx hb dX9_appendBytes_46 hl (k := 0) rfl (by first | rfl | decide +kernel) (by decide) rfl (fun ls hl => ?_)
  refine lv_goto (tgt := 3) hx hb dX9_appendBytes_49 (by decide) ?_
  refine lv_iload_n hx hb dX9_appendBytes_3 rfl (lv_at hl 0 rfl) ?_
  refine lv_if_lt (tgt := 52) hx hb dX9_appendBytes_4 (by decide) (fun c9 => absurd c9 (by decide)) (fun c8 => ?_)
  refine lv_aload_n hx hb dX9_appendBytes_7 rfl (lv_at hl 1 rfl) ?_
  refine va_get (D := D) (ci := 10) (v := .int 13) (C := RX9) (T := TX9) (N := 9) hx hb hts inX9 hown hK hP 0 rfl rfl 1 (by decide) (hts (.fieldLink RX9 59 "EscrowDesk" "buffered" "I") (by decide +kernel)) (fun _ h9 => h9) rfl dX9_appendBytes_8 ?_
  refine lv_aload_n hx hb dX9_appendBytes_11 rfl (lv_at hl 1 rfl) ?_
  refine va_get (D := D) (ci := 10) (v := .ref b0) (C := RX9) (T := TX9) (N := 9) hx hb hts inX9 hown hK hP 0 rfl rfl 0 (by decide) (hts (.fieldLink RX9 9 "EscrowDesk" "buffer" "[C") (by decide +kernel)) (fun _ h9 => h9) rfl dX9_appendBytes_12 ?_
  refine va_alen (v := 700) hx hb hK hP 1 2 rfl rfl rfl dX9_appendBytes_15 ?_
  refine lv_icmp_ge (tgt := 46) hx hb dX9_appendBytes_16 (by decide) (fun c9 => absurd c9 (by decide)) (fun c9 => ?_)
  refine lv_aload_n hx hb dX9_appendBytes_19 rfl (lv_at hl 1 rfl) ?_
  refine va_get (D := D) (ci := 10) (v := .ref b0) (C := RX9) (T := TX9) (N := 9) hx hb hts inX9 hown hK hP 0 rfl rfl 0 (by decide) (hts (.fieldLink RX9 9 "EscrowDesk" "buffer" "[C") (by decide +kernel)) (fun _ h9 => h9) rfl dX9_appendBytes_20 ?_
  refine lv_aload_n hx hb dX9_appendBytes_23 rfl (lv_at hl 1 rfl) ?_
  refine va_get (D := D) (ci := 10) (v := .int 13) (C := RX9) (T := TX9) (N := 9) hx hb hts inX9 hown hK hP 0 rfl rfl 1 (by decide) (hts (.fieldLink RX9 59 "EscrowDesk" "buffered" "I") (by decide +kernel)) (fun _ h9 => h9) rfl dX9_appendBytes_24 ?_
  refine lv_iload_n hx hb dX9_appendBytes_27 rfl (lv_at hl 2 rfl) ?_
  refine lv_iload_n hx hb dX9_appendBytes_28 rfl (lv_at hl 0 rfl) ?_
  refine lv_iushr hx hb dX9_appendBytes_29 rfl ?_
  refine lv_topi (fun yn10 _ => ?_)
  refine lv_sipush (v := 255) hx hb dX9_appendBytes_30 (by decide) ?_
  refine lv_iand hx hb dX9_appendBytes_33 ?_
  refine lv_i2c hx hb dX9_appendBytes_34 rfl ?_
  refine lv_topi (fun yn12 _ => ?_)
  refine va_cast hx hb hK hP hD hS 1 2 rfl rfl (vp_in_iff.mpr (by decide)) dX9_appendBytes_35 (fun H locs hP hD hS => ?_)
  have hP : va_P D vwCl [(h0, .inr (10, [.ref b0, .int 13, .ref p0, .ref u0, .ref r0, .ref a0, .ref t0, .ref s0, .ref o0])), (b0, .inl (cA 2, 700, .inl (upd fn6 13 (vp_nar .char yn12))))] H := hP
  have hD : va_D A [(h0, .inr (10, [.ref b0, .int 13, .ref p0, .ref u0, .ref r0, .ref a0, .ref t0, .ref s0, .ref o0])), (b0, .inl (cA 2, 700, .inl (upd fn6 13 (vp_nar .char yn12))))] := hD
  generalize (upd fn6 13 (vp_nar .char yn12)) = fn13 at hP hD
  have hP : va_P D vwCl [(h0, .inr (10, [.ref b0, .int 13, .ref p0, .ref u0, .ref r0, .ref a0, .ref t0, .ref s0, .ref o0])), (b0, .inl (cA 2, 700, .inl fn13))] H := hP
  have hD : va_D A [(h0, .inr (10, [.ref b0, .int 13, .ref p0, .ref u0, .ref r0, .ref a0, .ref t0, .ref s0, .ref o0])), (b0, .inl (cA 2, 700, .inl fn13))] := hD
  refine lv_aload_n hx hb dX9_appendBytes_36 rfl (lv_at hl 1 rfl) ?_
  refine lv_dup hx hb dX9_appendBytes_37 rfl ?_
  refine va_get (D := D) (ci := 10) (v := .int 13) (C := RX9) (T := TX9) (N := 9) hx hb hts inX9 hown hK hP 0 rfl rfl 1 (by decide) (hts (.fieldLink RX9 59 "EscrowDesk" "buffered" "I") (by decide +kernel)) (fun _ h9 => h9) rfl dX9_appendBytes_38 ?_
  refine lv_iconst (v := 1) hx hb dX9_appendBytes_41 (by decide) ?_
  refine lv_iadd hx hb dX9_appendBytes_42 ?_
  refine lv_topi (fun yn14 eyn14 => ?_)
  obtain rfl : yn14 = 14 := eyn14.trans (by first | rfl | decide +kernel)
  refine va_put (D := D) (ci := 10) (v := .int 14) (ty := .int) (C := RX9) (T := TX9) (N := 9) hx hb hts inX9 tyX9 tyX9_ok nmX9 hown hK hP hD hS 0 rfl rfl 1 (by decide) (hts (.fieldLink RX9 59 "EscrowDesk" "buffered" "I") (by decide +kernel)) (fun _ h9 => h9) rfl (by decide +kernel) rfl rfl (Nat.le_of_ble_eq_true rfl) dX9_appendBytes_43 (fun H locs hP hD hS => ?_)
  have hP : va_P D vwCl [(h0, .inr (10, [.ref b0, .int 14, .ref p0, .ref u0, .ref r0, .ref a0, .ref t0, .ref s0, .ref o0])), (b0, .inl (cA 2, 700, .inl fn13))] H := hP
  have hD : va_D A [(h0, .inr (10, [.ref b0, .int 14, .ref p0, .ref u0, .ref r0, .ref a0, .ref t0, .ref s0, .ref o0])), (b0, .inl (cA 2, 700, .inl fn13))] := hD
  refine lv_iinc (v := 8) (lv' := [(2, .int 8), (0, .ref h0), (1, .int w)]) hx hb dX9_appendBytes_46 hl (k := 0) rfl (by first | rfl | decide +kernel) (by decide) rfl (fun ls hl => ?_)
  refine lv_goto (tgt := 3) hx hb dX9_appendBytes_49 (by decide) ?_
  refine lv_iload_n hx hb dX9_appendBytes_3 rfl (lv_at hl 0 rfl) ?_
  refine lv_if_lt (tgt := 52) hx hb dX9_appendBytes_4 (by decide) (fun c9 => absurd c9 (by decide)) (fun c15 => ?_)
  refine lv_aload_n hx hb dX9_appendBytes_7 rfl (lv_at hl 1 rfl) ?_
  refine va_get (D := D) (ci := 10) (v := .int 14) (C := RX9) (T := TX9) (N := 9) hx hb hts inX9 hown hK hP 0 rfl rfl 1 (by decide) (hts (.fieldLink RX9 59 "EscrowDesk" "buffered" "I") (by decide +kernel)) (fun _ h9 => h9) rfl dX9_appendBytes_8 ?_
  refine lv_aload_n hx hb dX9_appendBytes_11 rfl (lv_at hl 1 rfl) ?_
  refine va_get (D := D) (ci := 10) (v := .ref b0) (C := RX9) (T := TX9) (N := 9) hx hb hts inX9 hown hK hP 0 rfl rfl 0 (by decide) (hts (.fieldLink RX9 9 "EscrowDesk" "buffer" "[C") (by decide +kernel)) (fun _ h9 => h9) rfl dX9_appendBytes_12 ?_
  refine va_alen (v := 700) hx hb hK hP 1 2 rfl rfl rfl dX9_appendBytes_15 ?_
  refine lv_icmp_ge (tgt := 46) hx hb dX9_appendBytes_16 (by decide) (fun c9 => absurd c9 (by decide)) (fun c16 => ?_)
  refine lv_aload_n hx hb dX9_appendBytes_19 rfl (lv_at hl 1 rfl) ?_
  refine va_get (D := D) (ci := 10) (v := .ref b0) (C := RX9) (T := TX9) (N := 9) hx hb hts inX9 hown hK hP 0 rfl rfl 0 (by decide) (hts (.fieldLink RX9 9 "EscrowDesk" "buffer" "[C") (by decide +kernel)) (fun _ h9 => h9) rfl dX9_appendBytes_20 ?_
  refine lv_aload_n hx hb dX9_appendBytes_23 rfl (lv_at hl 1 rfl) ?_
  refine va_get (D := D) (ci := 10) (v := .int 14) (C := RX9) (T := TX9) (N := 9) hx hb hts inX9 hown hK hP 0 rfl rfl 1 (by decide) (hts (.fieldLink RX9 59 "EscrowDesk" "buffered" "I") (by decide +kernel)) (fun _ h9 => h9) rfl dX9_appendBytes_24 ?_
  refine lv_iload_n hx hb dX9_appendBytes_27 rfl (lv_at hl 2 rfl) ?_
  refine lv_iload_n hx hb dX9_appendBytes_28 rfl (lv_at hl 0 rfl) ?_
  refine lv_iushr hx hb dX9_appendBytes_29 rfl ?_
  refine lv_topi (fun yn17 _ => ?_)
  refine lv_sipush (v := 255) hx hb dX9_appendBytes_30 (by decide) ?_
  refine lv_iand hx hb dX9_appendBytes_33 ?_
  refine lv_i2c hx hb dX9_appendBytes_34 rfl ?_
  refine lv_topi (fun yn19 _ => ?_)
  refine va_cast hx hb hK hP hD hS 1 2 rfl rfl (vp_in_iff.mpr (by decide)) dX9_appendBytes_35 (fun H locs hP hD hS => ?_)
  have hP : va_P D vwCl [(h0, .inr (10, [.ref b0, .int 14, .ref p0, .ref u0, .ref r0, .ref a0, .ref t0, .ref s0, .ref o0])), (b0, .inl (cA 2, 700, .inl (upd fn13 14 (vp_nar .char yn19))))] H := hP
  have hD : va_D A [(h0, .inr (10, [.ref b0, .int 14, .ref p0, .ref u0, .ref r0, .ref a0, .ref t0, .ref s0, .ref o0])), (b0, .inl (cA 2, 700, .inl (upd fn13 14 (vp_nar .char yn19))))] := hD
  generalize (upd fn13 14 (vp_nar .char yn19)) = fn20 at hP hD
  have hP : va_P D vwCl [(h0, .inr (10, [.ref b0, .int 14, .ref p0, .ref u0, .ref r0, .ref a0, .ref t0, .ref s0, .ref o0])), (b0, .inl (cA 2, 700, .inl fn20))] H := hP
  have hD : va_D A [(h0, .inr (10, [.ref b0, .int 14, .ref p0, .ref u0, .ref r0, .ref a0, .ref t0, .ref s0, .ref o0])), (b0, .inl (cA 2, 700, .inl fn20))] := hD
  refine lv_aload_n hx hb dX9_appendBytes_36 rfl (lv_at hl 1 rfl) ?_
  refine lv_dup hx hb dX9_appendBytes_37 rfl ?_
  refine va_get (D := D) (ci := 10) (v := .int 14) (C := RX9) (T := TX9) (N := 9) hx hb hts inX9 hown hK hP 0 rfl rfl 1 (by decide) (hts (.fieldLink RX9 59 "EscrowDesk" "buffered" "I") (by decide +kernel)) (fun _ h9 => h9) rfl dX9_appendBytes_38 ?_
  refine lv_iconst (v := 1) hx hb dX9_appendBytes_41 (by decide) ?_
  refine lv_iadd hx hb dX9_appendBytes_42 ?_
  refine lv_topi (fun yn21 eyn21 => ?_)
  obtain rfl : yn21 = 15 := eyn21.trans (by first | rfl | decide +kernel)
  refine va_put (D := D) (ci := 10) (v := .int 15) (ty := .int) (C := RX9) (T := TX9) (N := 9) hx hb hts inX9 tyX9 tyX9_ok nmX9 hown hK hP hD hS 0 rfl rfl 1 (by decide) (hts (.fieldLink RX9 59 "EscrowDesk" "buffered" "I") (by decide +kernel)) (fun _ h9 => h9) rfl (by decide +kernel) rfl rfl (Nat.le_of_ble_eq_true rfl) dX9_appendBytes_43 (fun H locs hP hD hS => ?_)
  have hP : va_P D vwCl [(h0, .inr (10, [.ref b0, .int 15, .ref p0, .ref u0, .ref r0, .ref a0, .ref t0, .ref s0, .ref o0])), (b0, .inl (cA 2, 700, .inl fn20))] H := hP
  have hD : va_D A [(h0, .inr (10, [.ref b0, .int 15, .ref p0, .ref u0, .ref r0, .ref a0, .ref t0, .ref s0, .ref o0])), (b0, .inl (cA 2, 700, .inl fn20))] := hD
  refine lv_iinc (v := 0) (lv' := [(2, .int 0), (0, .ref h0), (1, .int w)]) hx hb dX9_appendBytes_46 hl (k := 0) rfl (by first | rfl | decide +kernel) (by decide) rfl (fun ls hl => ?_)
  refine lv_goto (tgt := 3) hx hb dX9_appendBytes_49 (by decide) ?_
  refine lv_iload_n hx hb dX9_appendBytes_3 rfl (lv_at hl 0 rfl) ?_
  refine lv_if_lt (tgt := 52) hx hb dX9_appendBytes_4 (by decide) (fun c9 => absurd c9 (by decide)) (fun c22 => ?_)
  refine lv_aload_n hx hb dX9_appendBytes_7 rfl (lv_at hl 1 rfl) ?_
  refine va_get (D := D) (ci := 10) (v := .int 15) (C := RX9) (T := TX9) (N := 9) hx hb hts inX9 hown hK hP 0 rfl rfl 1 (by decide) (hts (.fieldLink RX9 59 "EscrowDesk" "buffered" "I") (by decide +kernel)) (fun _ h9 => h9) rfl dX9_appendBytes_8 ?_
  refine lv_aload_n hx hb dX9_appendBytes_11 rfl (lv_at hl 1 rfl) ?_
  refine va_get (D := D) (ci := 10) (v := .ref b0) (C := RX9) (T := TX9) (N := 9) hx hb hts inX9 hown hK hP 0 rfl rfl 0 (by decide) (hts (.fieldLink RX9 9 "EscrowDesk" "buffer" "[C") (by decide +kernel)) (fun _ h9 => h9) rfl dX9_appendBytes_12 ?_
  refine va_alen (v := 700) hx hb hK hP 1 2 rfl rfl rfl dX9_appendBytes_15 ?_
  refine lv_icmp_ge (tgt := 46) hx hb dX9_appendBytes_16 (by decide) (fun c9 => absurd c9 (by decide)) (fun c23 => ?_)
  refine lv_aload_n hx hb dX9_appendBytes_19 rfl (lv_at hl 1 rfl) ?_
  refine va_get (D := D) (ci := 10) (v := .ref b0) (C := RX9) (T := TX9) (N := 9) hx hb hts inX9 hown hK hP 0 rfl rfl 0 (by decide) (hts (.fieldLink RX9 9 "EscrowDesk" "buffer" "[C") (by decide +kernel)) (fun _ h9 => h9) rfl dX9_appendBytes_20 ?_
  refine lv_aload_n hx hb dX9_appendBytes_23 rfl (lv_at hl 1 rfl) ?_
  refine va_get (D := D) (ci := 10) (v := .int 15) (C := RX9) (T := TX9) (N := 9) hx hb hts inX9 hown hK hP 0 rfl rfl 1 (by decide) (hts (.fieldLink RX9 59 "EscrowDesk" "buffered" "I") (by decide +kernel)) (fun _ h9 => h9) rfl dX9_appendBytes_24 ?_
  refine lv_iload_n hx hb dX9_appendBytes_27 rfl (lv_at hl 2 rfl) ?_
  refine lv_iload_n hx hb dX9_appendBytes_28 rfl (lv_at hl 0 rfl) ?_
  refine lv_iushr hx hb dX9_appendBytes_29 rfl ?_
  refine lv_topi (fun yn24 _ => ?_)
  refine lv_sipush (v := 255) hx hb dX9_appendBytes_30 (by decide) ?_
  refine lv_iand hx hb dX9_appendBytes_33 ?_
  refine lv_i2c hx hb dX9_appendBytes_34 rfl ?_
  refine lv_topi (fun yn26 _ => ?_)
  refine va_cast hx hb hK hP hD hS 1 2 rfl rfl (vp_in_iff.mpr (by decide)) dX9_appendBytes_35 (fun H locs hP hD hS => ?_)
  have hP : va_P D vwCl [(h0, .inr (10, [.ref b0, .int 15, .ref p0, .ref u0, .ref r0, .ref a0, .ref t0, .ref s0, .ref o0])), (b0, .inl (cA 2, 700, .inl (upd fn20 15 (vp_nar .char yn26))))] H := hP
  have hD : va_D A [(h0, .inr (10, [.ref b0, .int 15, .ref p0, .ref u0, .ref r0, .ref a0, .ref t0, .ref s0, .ref o0])), (b0, .inl (cA 2, 700, .inl (upd fn20 15 (vp_nar .char yn26))))] := hD
  generalize (upd fn20 15 (vp_nar .char yn26)) = fn27 at hP hD
  have hP : va_P D vwCl [(h0, .inr (10, [.ref b0, .int 15, .ref p0, .ref u0, .ref r0, .ref a0, .ref t0, .ref s0, .ref o0])), (b0, .inl (cA 2, 700, .inl fn27))] H := hP
  have hD : va_D A [(h0, .inr (10, [.ref b0, .int 15, .ref p0, .ref u0, .ref r0, .ref a0, .ref t0, .ref s0, .ref o0])), (b0, .inl (cA 2, 700, .inl fn27))] := hD
  refine lv_aload_n hx hb dX9_appendBytes_36 rfl (lv_at hl 1 rfl) ?_
  refine lv_dup hx hb dX9_appendBytes_37 rfl ?_
  refine va_get (D := D) (ci := 10) (v := .int 15) (C := RX9) (T := TX9) (N := 9) hx hb hts inX9 hown hK hP 0 rfl rfl 1 (by decide) (hts (.fieldLink RX9 59 "EscrowDesk" "buffered" "I") (by decide +kernel)) (fun _ h9 => h9) rfl dX9_appendBytes_38 ?_
  refine lv_iconst (v := 1) hx hb dX9_appendBytes_41 (by decide) ?_
  refine lv_iadd hx hb dX9_appendBytes_42 ?_
  refine lv_topi (fun yn28 eyn28 => ?_)
  obtain rfl : yn28 = 16 := eyn28.trans (by first | rfl | decide +kernel)
  refine va_put (D := D) (ci := 10) (v := .int 16) (ty := .int) (C := RX9) (T := TX9) (N := 9) hx hb hts inX9 tyX9 tyX9_ok nmX9 hown hK hP hD hS 0 rfl rfl 1 (by decide) (hts (.fieldLink RX9 59 "EscrowDesk" "buffered" "I") (by decide +kernel)) (fun _ h9 => h9) rfl (by decide +kernel) rfl rfl (Nat.le_of_ble_eq_true rfl) dX9_appendBytes_43 (fun H locs hP hD hS => ?_)
  have hP : va_P D vwCl [(h0, .inr (10, [.ref b0, .int 16, .ref p0, .ref u0, .ref r0, .ref a0, .ref t0, .ref s0, .ref o0])), (b0, .inl (cA 2, 700, .inl fn27))] H := hP
  have hD : va_D A [(h0, .inr (10, [.ref b0, .int 16, .ref p0, .ref u0, .ref r0, .ref a0, .ref t0, .ref s0, .ref o0])), (b0, .inl (cA 2, 700, .inl fn27))] := hD
  refine lv_iinc (v := (-8)) (lv' := [(2, .int (-8)), (0, .ref h0), (1, .int w)]) hx hb dX9_appendBytes_46 hl (k := 0) rfl (by first | rfl | decide +kernel) (by decide) rfl (fun ls hl => ?_)
  refine lv_goto (tgt := 3) hx hb dX9_appendBytes_49 (by decide) ?_
  refine lv_iload_n hx hb dX9_appendBytes_3 rfl (lv_at hl 0 rfl) ?_
  refine lv_if_lt (tgt := 52) hx hb dX9_appendBytes_4 (by decide) (fun c29 => ?_) (fun c9 => absurd c9 (by decide))
  have hP9 := hP.sub (ws' := [(h0, .inr (10, [.ref b0, .int 16, .ref p0, .ref u0, .ref r0, .ref a0, .ref t0, .ref s0, .ref o0])), (b0, .inl (cA 2, 700, .inl fn27))]) [0, 1] rfl
  have hD9 := hD.sub (ws' := [(h0, .inr (10, [.ref b0, .int 16, .ref p0, .ref u0, .ref r0, .ref a0, .ref t0, .ref s0, .ref o0])), (b0, .inl (cA 2, 700, .inl fn27))]) [0, 1] (by decide) rfl
  refine W.widen (k := 0) (n := 0) (Nat.le_of_ble_eq_true rfl) (Nat.le_of_ble_eq_true rfl) ?_
  exact W.vret hx hb hr (fun t ht hW => ⟨⟨(), rfl, trivial, fn27, by rw [ht]; exact hP9, hD9⟩, hS.F ht⟩) hS.2.2 dX9_appendBytes_52

set_option maxHeartbeats 4000000 in
set_option maxRecDepth 100000 in
/-- appendBytes at 16 -/
theorem c_appendBytes_16 (l : Launch) (D : va_G) (cA : Nat → ClassId) (sa : Nat → Nat) (h0 b0 p0 u0 r0 a0 t0 s0 o0 : Nat) (w : Int32) (fb : Nat → Int32) (sz : Nat) : Met l yX9_appendBytes wsX9_appendBytes ({ frames := 0, cells := 0, slots := 0, locals := 0 }) (va_Pc [.ref h0, .int w] (Wd D cA sa [(h0, .inr (10, [.ref b0, .int 16, .ref p0, .ref u0, .ref r0, .ref a0, .ref t0, .ref s0, .ref o0])), (b0, .inl (cA 2, 700, .inl fb))] sz)) (va_Qv (fun _ : Unit => True) (fun (_ : Unit) t => ∃ fn27 : Nat → Int32, Wq D (va_A [(h0, .inr (10, [.ref b0, .int 16, .ref p0, .ref u0, .ref r0, .ref a0, .ref t0, .ref s0, .ref o0])), (b0, .inl (cA 2, 700, .inl fb))] sz) [(h0, .inr (10, [.ref b0, .int 20, .ref p0, .ref u0, .ref r0, .ref a0, .ref t0, .ref s0, .ref o0])), (b0, .inl (cA 2, 700, .inl fn27))] t) (va_A [(h0, .inr (10, [.ref b0, .int 16, .ref p0, .ref u0, .ref r0, .ref a0, .ref t0, .ref s0, .ref o0])), (b0, .inl (cA 2, 700, .inl fb))] sz)) 0 0 (va_A [(h0, .inr (10, [.ref b0, .int 16, .ref p0, .ref u0, .ref r0, .ref a0, .ref t0, .ref s0, .ref o0])), (b0, .inl (cA 2, 700, .inl fb))] sz) := by
  refine Met.ofW (cc := cX9_appendBytes) (maxL := 3) (ret := none) (by decide) rfl ?_
  intro p e s m args below meth c s₁ B hml hv
  obtain ⟨rfl, hsz, hP, hK, hD0, hC, hZ⟩ := hv
  have hx := B.exec
  have hb := B.bytes
  have hr := B.returns
  have hts := atoms_spec (ws := wsX9_appendBytes) B.pre
  have hown : s.vm.findClass RX9 = some m.cls := findClass_of_methodNamed B.named
  have hlocks := B.notSynchronized
  subst hsz
  have hD := hD0.self (sz := s.heap.size)
  generalize hAe : va_A [(h0, .inr (10, [.ref b0, .int 16, .ref p0, .ref u0, .ref r0, .ref a0, .ref t0, .ref s0, .ref o0])), (b0, .inl (cA 2, 700, .inl fb))] s.heap.size = A at hD hZ ⊢
  have hA : ∀ q : Nat, s.heap.size ≤ q → A q := fun q h => by rw [← hAe]; exact Or.inr h
  have hS : va_S A s.heap s.heap [] := va_S.rf
  have hP : va_P D vwCl [(h0, .inr (10, [.ref b0, .int 16, .ref p0, .ref u0, .ref r0, .ref a0, .ref t0, .ref s0, .ref o0])), (b0, .inl (cA 2, 700, .inl fb))] s.heap := hP
  have hl := lv_entry ([.ref h0, .int w]) (n := 3) (Nat.le_of_ble_eq_true rfl)
  rw [lg_entry_eq]
  generalize (lg_sl ([.ref h0, .int w]) ++ List.replicate (3 - (lg_sl ([.ref h0, .int w])).length) Slot.unset).toArray = ls at hl ⊢
  have hl : lv_has ls 3 [(0, .ref h0), (1, .int w)] := hl
  have inX9 : ∀ w ∈ u_ws RX9 TX9 9, w ∈ wsX9_appendBytes := by decide +kernel
  refine lv_bipush (v := 24) hx hb dX9_appendBytes_0 (by decide) ?_
  refine lv_istore_n (lv' := [(2, .int 24), (0, .ref h0), (1, .int w)]) hx hb dX9_appendBytes_2 rfl hl (by decide) rfl (fun ls hl => ?_)
  refine lv_iload_n hx hb dX9_appendBytes_3 rfl (lv_at hl 0 rfl) ?_
  refine lv_if_lt (tgt := 52) hx hb dX9_appendBytes_4 (by decide) (fun c9 => absurd c9 (by decide)) (fun c1 => ?_)
  refine lv_aload_n hx hb dX9_appendBytes_7 rfl (lv_at hl 1 rfl) ?_
  refine va_get (D := D) (ci := 10) (v := .int 16) (C := RX9) (T := TX9) (N := 9) hx hb hts inX9 hown hK hP 0 rfl rfl 1 (by decide) (hts (.fieldLink RX9 59 "EscrowDesk" "buffered" "I") (by decide +kernel)) (fun _ h9 => h9) rfl dX9_appendBytes_8 ?_
  refine lv_aload_n hx hb dX9_appendBytes_11 rfl (lv_at hl 1 rfl) ?_
  refine va_get (D := D) (ci := 10) (v := .ref b0) (C := RX9) (T := TX9) (N := 9) hx hb hts inX9 hown hK hP 0 rfl rfl 0 (by decide) (hts (.fieldLink RX9 9 "EscrowDesk" "buffer" "[C") (by decide +kernel)) (fun _ h9 => h9) rfl dX9_appendBytes_12 ?_
  refine va_alen (v := 700) hx hb hK hP 1 2 rfl rfl rfl dX9_appendBytes_15 ?_
  refine lv_icmp_ge (tgt := 46) hx hb dX9_appendBytes_16 (by decide) (fun c9 => absurd c9 (by decide)) (fun c2 => ?_)
  refine lv_aload_n hx hb dX9_appendBytes_19 rfl (lv_at hl 1 rfl) ?_
  refine va_get (D := D) (ci := 10) (v := .ref b0) (C := RX9) (T := TX9) (N := 9) hx hb hts inX9 hown hK hP 0 rfl rfl 0 (by decide) (hts (.fieldLink RX9 9 "EscrowDesk" "buffer" "[C") (by decide +kernel)) (fun _ h9 => h9) rfl dX9_appendBytes_20 ?_
  refine lv_aload_n hx hb dX9_appendBytes_23 rfl (lv_at hl 1 rfl) ?_
  refine va_get (D := D) (ci := 10) (v := .int 16) (C := RX9) (T := TX9) (N := 9) hx hb hts inX9 hown hK hP 0 rfl rfl 1 (by decide) (hts (.fieldLink RX9 59 "EscrowDesk" "buffered" "I") (by decide +kernel)) (fun _ h9 => h9) rfl dX9_appendBytes_24 ?_
  refine lv_iload_n hx hb dX9_appendBytes_27 rfl (lv_at hl 2 rfl) ?_
  refine lv_iload_n hx hb dX9_appendBytes_28 rfl (lv_at hl 0 rfl) ?_
  refine lv_iushr hx hb dX9_appendBytes_29 rfl ?_
  refine lv_topi (fun yn3 _ => ?_)
  refine lv_sipush (v := 255) hx hb dX9_appendBytes_30 (by decide) ?_
  refine lv_iand hx hb dX9_appendBytes_33 ?_
  refine lv_i2c hx hb dX9_appendBytes_34 rfl ?_
  refine lv_topi (fun yn5 _ => ?_)
  refine va_cast hx hb hK hP hD hS 1 2 rfl rfl (vp_in_iff.mpr (by decide)) dX9_appendBytes_35 (fun H locs hP hD hS => ?_)
  have hP : va_P D vwCl [(h0, .inr (10, [.ref b0, .int 16, .ref p0, .ref u0, .ref r0, .ref a0, .ref t0, .ref s0, .ref o0])), (b0, .inl (cA 2, 700, .inl (upd fb 16 (vp_nar .char yn5))))] H := hP
  have hD : va_D A [(h0, .inr (10, [.ref b0, .int 16, .ref p0, .ref u0, .ref r0, .ref a0, .ref t0, .ref s0, .ref o0])), (b0, .inl (cA 2, 700, .inl (upd fb 16 (vp_nar .char yn5))))] := hD
  generalize (upd fb 16 (vp_nar .char yn5)) = fn6 at hP hD
  have hP : va_P D vwCl [(h0, .inr (10, [.ref b0, .int 16, .ref p0, .ref u0, .ref r0, .ref a0, .ref t0, .ref s0, .ref o0])), (b0, .inl (cA 2, 700, .inl fn6))] H := hP
  have hD : va_D A [(h0, .inr (10, [.ref b0, .int 16, .ref p0, .ref u0, .ref r0, .ref a0, .ref t0, .ref s0, .ref o0])), (b0, .inl (cA 2, 700, .inl fn6))] := hD
  refine lv_aload_n hx hb dX9_appendBytes_36 rfl (lv_at hl 1 rfl) ?_
  refine lv_dup hx hb dX9_appendBytes_37 rfl ?_
  refine va_get (D := D) (ci := 10) (v := .int 16) (C := RX9) (T := TX9) (N := 9) hx hb hts inX9 hown hK hP 0 rfl rfl 1 (by decide) (hts (.fieldLink RX9 59 "EscrowDesk" "buffered" "I") (by decide +kernel)) (fun _ h9 => h9) rfl dX9_appendBytes_38 ?_
  refine lv_iconst (v := 1) hx hb dX9_appendBytes_41 (by decide) ?_
  refine lv_iadd hx hb dX9_appendBytes_42 ?_
  refine lv_topi (fun yn7 eyn7 => ?_)
  obtain rfl : yn7 = 17 := eyn7.trans (by first | rfl | decide +kernel)
  refine va_put (D := D) (ci := 10) (v := .int 17) (ty := .int) (C := RX9) (T := TX9) (N := 9) hx hb hts inX9 tyX9 tyX9_ok nmX9 hown hK hP hD hS 0 rfl rfl 1 (by decide) (hts (.fieldLink RX9 59 "EscrowDesk" "buffered" "I") (by decide +kernel)) (fun _ h9 => h9) rfl (by decide +kernel) rfl rfl (Nat.le_of_ble_eq_true rfl) dX9_appendBytes_43 (fun H locs hP hD hS => ?_)
  have hP : va_P D vwCl [(h0, .inr (10, [.ref b0, .int 17, .ref p0, .ref u0, .ref r0, .ref a0, .ref t0, .ref s0, .ref o0])), (b0, .inl (cA 2, 700, .inl fn6))] H := hP
  have hD : va_D A [(h0, .inr (10, [.ref b0, .int 17, .ref p0, .ref u0, .ref r0, .ref a0, .ref t0, .ref s0, .ref o0])), (b0, .inl (cA 2, 700, .inl fn6))] := hD
  refine lv_iinc (v := 16) (lv' := [(2, .int 16), (0, .ref h0), (1, .int w)]) hx hb dX9_appendBytes_46 hl (k := 0) rfl (by first | rfl | decide +kernel) (by decide) rfl (fun ls hl => ?_)
  refine lv_goto (tgt := 3) hx hb dX9_appendBytes_49 (by decide) ?_
  refine lv_iload_n hx hb dX9_appendBytes_3 rfl (lv_at hl 0 rfl) ?_
  refine lv_if_lt (tgt := 52) hx hb dX9_appendBytes_4 (by decide) (fun c9 => absurd c9 (by decide)) (fun c8 => ?_)
  refine lv_aload_n hx hb dX9_appendBytes_7 rfl (lv_at hl 1 rfl) ?_
  refine va_get (D := D) (ci := 10) (v := .int 17) (C := RX9) (T := TX9) (N := 9) hx hb hts inX9 hown hK hP 0 rfl rfl 1 (by decide) (hts (.fieldLink RX9 59 "EscrowDesk" "buffered" "I") (by decide +kernel)) (fun _ h9 => h9) rfl dX9_appendBytes_8 ?_
  refine lv_aload_n hx hb dX9_appendBytes_11 rfl (lv_at hl 1 rfl) ?_
  refine va_get (D := D) (ci := 10) (v := .ref b0) (C := RX9) (T := TX9) (N := 9) hx hb hts inX9 hown hK hP 0 rfl rfl 0 (by decide) (hts (.fieldLink RX9 9 "EscrowDesk" "buffer" "[C") (by decide +kernel)) (fun _ h9 => h9) rfl dX9_appendBytes_12 ?_
  refine va_alen (v := 700) hx hb hK hP 1 2 rfl rfl rfl dX9_appendBytes_15 ?_
  refine lv_icmp_ge (tgt := 46) hx hb dX9_appendBytes_16 (by decide) (fun c9 => absurd c9 (by decide)) (fun c9 => ?_)
  refine lv_aload_n hx hb dX9_appendBytes_19 rfl (lv_at hl 1 rfl) ?_
  refine va_get (D := D) (ci := 10) (v := .ref b0) (C := RX9) (T := TX9) (N := 9) hx hb hts inX9 hown hK hP 0 rfl rfl 0 (by decide) (hts (.fieldLink RX9 9 "EscrowDesk" "buffer" "[C") (by decide +kernel)) (fun _ h9 => h9) rfl dX9_appendBytes_20 ?_
  refine lv_aload_n hx hb dX9_appendBytes_23 rfl (lv_at hl 1 rfl) ?_
  refine va_get (D := D) (ci := 10) (v := .int 17) (C := RX9) (T := TX9) (N := 9) hx hb hts inX9 hown hK hP 0 rfl rfl 1 (by decide) (hts (.fieldLink RX9 59 "EscrowDesk" "buffered" "I") (by decide +kernel)) (fun _ h9 => h9) rfl dX9_appendBytes_24 ?_
  refine lv_iload_n hx hb dX9_appendBytes_27 rfl (lv_at hl 2 rfl) ?_
  refine lv_iload_n hx hb dX9_appendBytes_28 rfl (lv_at hl 0 rfl) ?_
  refine lv_iushr hx hb dX9_appendBytes_29 rfl ?_
  refine lv_topi (fun yn10 _ => ?_)
  refine lv_sipush (v := 255) hx hb dX9_appendBytes_30 (by decide) ?_
  refine lv_iand hx hb dX9_appendBytes_33 ?_
  refine lv_i2c hx hb dX9_appendBytes_34 rfl ?_
  refine lv_topi (fun yn12 _ => ?_)
  refine va_cast hx hb hK hP hD hS 1 2 rfl rfl (vp_in_iff.mpr (by decide)) dX9_appendBytes_35 (fun H locs hP hD hS => ?_)
  have hP : va_P D vwCl [(h0, .inr (10, [.ref b0, .int 17, .ref p0, .ref u0, .ref r0, .ref a0, .ref t0, .ref s0, .ref o0])), (b0, .inl (cA 2, 700, .inl (upd fn6 17 (vp_nar .char yn12))))] H := hP
  have hD : va_D A [(h0, .inr (10, [.ref b0, .int 17, .ref p0, .ref u0, .ref r0, .ref a0, .ref t0, .ref s0, .ref o0])), (b0, .inl (cA 2, 700, .inl (upd fn6 17 (vp_nar .char yn12))))] := hD
  generalize (upd fn6 17 (vp_nar .char yn12)) = fn13 at hP hD
  have hP : va_P D vwCl [(h0, .inr (10, [.ref b0, .int 17, .ref p0, .ref u0, .ref r0, .ref a0, .ref t0, .ref s0, .ref o0])), (b0, .inl (cA 2, 700, .inl fn13))] H := hP
  have hD : va_D A [(h0, .inr (10, [.ref b0, .int 17, .ref p0, .ref u0, .ref r0, .ref a0, .ref t0, .ref s0, .ref o0])), (b0, .inl (cA 2, 700, .inl fn13))] := hD
  refine lv_aload_n hx hb dX9_appendBytes_36 rfl (lv_at hl 1 rfl) ?_
  refine lv_dup hx hb dX9_appendBytes_37 rfl ?_
  refine va_get (D := D) (ci := 10) (v := .int 17) (C := RX9) (T := TX9) (N := 9) hx hb hts inX9 hown hK hP 0 rfl rfl 1 (by decide) (hts (.fieldLink RX9 59 "EscrowDesk" "buffered" "I") (by decide +kernel)) (fun _ h9 => h9) rfl dX9_appendBytes_38 ?_
  refine lv_iconst (v := 1) hx hb dX9_appendBytes_41 (by decide) ?_
  refine lv_iadd hx hb dX9_appendBytes_42 ?_
  refine lv_topi (fun yn14 eyn14 => ?_)
  obtain rfl : yn14 = 18 := eyn14.trans (by first | rfl | decide +kernel)
  refine va_put (D := D) (ci := 10) (v := .int 18) (ty := .int) (C := RX9) (T := TX9) (N := 9) hx hb hts inX9 tyX9 tyX9_ok nmX9 hown hK hP hD hS 0 rfl rfl 1 (by decide) (hts (.fieldLink RX9 59 "EscrowDesk" "buffered" "I") (by decide +kernel)) (fun _ h9 => h9) rfl (by decide +kernel) rfl rfl (Nat.le_of_ble_eq_true rfl) dX9_appendBytes_43 (fun H locs hP hD hS => ?_)
  have hP : va_P D vwCl [(h0, .inr (10, [.ref b0, .int 18, .ref p0, .ref u0, .ref r0, .ref a0, .ref t0, .ref s0, .ref o0])), (b0, .inl (cA 2, 700, .inl fn13))] H := hP
  have hD : va_D A [(h0, .inr (10, [.ref b0, .int 18, .ref p0, .ref u0, .ref r0, .ref a0, .ref t0, .ref s0, .ref o0])), (b0, .inl (cA 2, 700, .inl fn13))] := hD
  refine lv_iinc (v := 8) (lv' := [(2, .int 8), (0, .ref h0), (1, .int w)]) hx hb dX9_appendBytes_46 hl (k := 0) rfl (by first | rfl | decide +kernel) (by decide) rfl (fun ls hl => ?_)
  refine lv_goto (tgt := 3) hx hb dX9_appendBytes_49 (by decide) ?_
  refine lv_iload_n hx hb dX9_appendBytes_3 rfl (lv_at hl 0 rfl) ?_
  refine lv_if_lt (tgt := 52) hx hb dX9_appendBytes_4 (by decide) (fun c9 => absurd c9 (by decide)) (fun c15 => ?_)
  refine lv_aload_n hx hb dX9_appendBytes_7 rfl (lv_at hl 1 rfl) ?_
  refine va_get (D := D) (ci := 10) (v := .int 18) (C := RX9) (T := TX9) (N := 9) hx hb hts inX9 hown hK hP 0 rfl rfl 1 (by decide) (hts (.fieldLink RX9 59 "EscrowDesk" "buffered" "I") (by decide +kernel)) (fun _ h9 => h9) rfl dX9_appendBytes_8 ?_
  refine lv_aload_n hx hb dX9_appendBytes_11 rfl (lv_at hl 1 rfl) ?_
  refine va_get (D := D) (ci := 10) (v := .ref b0) (C := RX9) (T := TX9) (N := 9) hx hb hts inX9 hown hK hP 0 rfl rfl 0 (by decide) (hts (.fieldLink RX9 9 "EscrowDesk" "buffer" "[C") (by decide +kernel)) (fun _ h9 => h9) rfl dX9_appendBytes_12 ?_
  refine va_alen (v := 700) hx hb hK hP 1 2 rfl rfl rfl dX9_appendBytes_15 ?_
  refine lv_icmp_ge (tgt := 46) hx hb dX9_appendBytes_16 (by decide) (fun c9 => absurd c9 (by decide)) (fun c16 => ?_)
  refine lv_aload_n hx hb dX9_appendBytes_19 rfl (lv_at hl 1 rfl) ?_
  refine va_get (D := D) (ci := 10) (v := .ref b0) (C := RX9) (T := TX9) (N := 9) hx hb hts inX9 hown hK hP 0 rfl rfl 0 (by decide) (hts (.fieldLink RX9 9 "EscrowDesk" "buffer" "[C") (by decide +kernel)) (fun _ h9 => h9) rfl dX9_appendBytes_20 ?_
  refine lv_aload_n hx hb dX9_appendBytes_23 rfl (lv_at hl 1 rfl) ?_
  refine va_get (D := D) (ci := 10) (v := .int 18) (C := RX9) (T := TX9) (N := 9) hx hb hts inX9 hown hK hP 0 rfl rfl 1 (by decide) (hts (.fieldLink RX9 59 "EscrowDesk" "buffered" "I") (by decide +kernel)) (fun _ h9 => h9) rfl dX9_appendBytes_24 ?_
  refine lv_iload_n hx hb dX9_appendBytes_27 rfl (lv_at hl 2 rfl) ?_
  refine lv_iload_n hx hb dX9_appendBytes_28 rfl (lv_at hl 0 rfl) ?_
  refine lv_iushr hx hb dX9_appendBytes_29 rfl ?_
  refine lv_topi (fun yn17 _ => ?_)
  refine lv_sipush (v := 255) hx hb dX9_appendBytes_30 (by decide) ?_
  refine lv_iand hx hb dX9_appendBytes_33 ?_
  refine lv_i2c hx hb dX9_appendBytes_34 rfl ?_
  refine lv_topi (fun yn19 _ => ?_)
  refine va_cast hx hb hK hP hD hS 1 2 rfl rfl (vp_in_iff.mpr (by decide)) dX9_appendBytes_35 (fun H locs hP hD hS => ?_)
  have hP : va_P D vwCl [(h0, .inr (10, [.ref b0, .int 18, .ref p0, .ref u0, .ref r0, .ref a0, .ref t0, .ref s0, .ref o0])), (b0, .inl (cA 2, 700, .inl (upd fn13 18 (vp_nar .char yn19))))] H := hP
  have hD : va_D A [(h0, .inr (10, [.ref b0, .int 18, .ref p0, .ref u0, .ref r0, .ref a0, .ref t0, .ref s0, .ref o0])), (b0, .inl (cA 2, 700, .inl (upd fn13 18 (vp_nar .char yn19))))] := hD
  generalize (upd fn13 18 (vp_nar .char yn19)) = fn20 at hP hD
  have hP : va_P D vwCl [(h0, .inr (10, [.ref b0, .int 18, .ref p0, .ref u0, .ref r0, .ref a0, .ref t0, .ref s0, .ref o0])), (b0, .inl (cA 2, 700, .inl fn20))] H := hP
  have hD : va_D A [(h0, .inr (10, [.ref b0, .int 18, .ref p0, .ref u0, .ref r0, .ref a0, .ref t0, .ref s0, .ref o0])), (b0, .inl (cA 2, 700, .inl fn20))] := hD
  refine lv_aload_n hx hb dX9_appendBytes_36 rfl (lv_at hl 1 rfl) ?_
  refine lv_dup hx hb dX9_appendBytes_37 rfl ?_
  refine va_get (D := D) (ci := 10) (v := .int 18) (C := RX9) (T := TX9) (N := 9) hx hb hts inX9 hown hK hP 0 rfl rfl 1 (by decide) (hts (.fieldLink RX9 59 "EscrowDesk" "buffered" "I") (by decide +kernel)) (fun _ h9 => h9) rfl dX9_appendBytes_38 ?_
  refine lv_iconst (v := 1) hx hb dX9_appendBytes_41 (by decide) ?_
  refine lv_iadd hx hb dX9_appendBytes_42 ?_
  refine lv_topi (fun yn21 eyn21 => ?_)
  obtain rfl : yn21 = 19 := eyn21.trans (by first | rfl | decide +kernel)
  refine va_put (D := D) (ci := 10) (v := .int 19) (ty := .int) (C := RX9) (T := TX9) (N := 9) hx hb hts inX9 tyX9 tyX9_ok nmX9 hown hK hP hD hS 0 rfl rfl 1 (by decide) (hts (.fieldLink RX9 59 "EscrowDesk" "buffered" "I") (by decide +kernel)) (fun _ h9 => h9) rfl (by decide +kernel) rfl rfl (Nat.le_of_ble_eq_true rfl) dX9_appendBytes_43 (fun H locs hP hD hS => ?_)
  have hP : va_P D vwCl [(h0, .inr (10, [.ref b0, .int 19, .ref p0, .ref u0, .ref r0, .ref a0, .ref t0, .ref s0, .ref o0])), (b0, .inl (cA 2, 700, .inl fn20))] H := hP
  have hD : va_D A [(h0, .inr (10, [.ref b0, .int 19, .ref p0, .ref u0, .ref r0, .ref a0, .ref t0, .ref s0, .ref o0])), (b0, .inl (cA 2, 700, .inl fn20))] := hD
  refine lv_iinc (v := 0) (lv' := [(2, .int 0), (0, .ref h0), (1, .int w)]) hx hb dX9_appendBytes_46 hl (k := 0) rfl (by first | rfl | decide +kernel) (by decide) rfl (fun ls hl => ?_)
  refine lv_goto (tgt := 3) hx hb dX9_appendBytes_49 (by decide) ?_
  refine lv_iload_n hx hb dX9_appendBytes_3 rfl (lv_at hl 0 rfl) ?_
  refine lv_if_lt (tgt := 52) hx hb dX9_appendBytes_4 (by decide) (fun c9 => absurd c9 (by decide)) (fun c22 => ?_)
  refine lv_aload_n hx hb dX9_appendBytes_7 rfl (lv_at hl 1 rfl) ?_
  refine va_get (D := D) (ci := 10) (v := .int 19) (C := RX9) (T := TX9) (N := 9) hx hb hts inX9 hown hK hP 0 rfl rfl 1 (by decide) (hts (.fieldLink RX9 59 "EscrowDesk" "buffered" "I") (by decide +kernel)) (fun _ h9 => h9) rfl dX9_appendBytes_8 ?_
  refine lv_aload_n hx hb dX9_appendBytes_11 rfl (lv_at hl 1 rfl) ?_
  refine va_get (D := D) (ci := 10) (v := .ref b0) (C := RX9) (T := TX9) (N := 9) hx hb hts inX9 hown hK hP 0 rfl rfl 0 (by decide) (hts (.fieldLink RX9 9 "EscrowDesk" "buffer" "[C") (by decide +kernel)) (fun _ h9 => h9) rfl dX9_appendBytes_12 ?_
  refine va_alen (v := 700) hx hb hK hP 1 2 rfl rfl rfl dX9_appendBytes_15 ?_
  refine lv_icmp_ge (tgt := 46) hx hb dX9_appendBytes_16 (by decide) (fun c9 => absurd c9 (by decide)) (fun c23 => ?_)
  refine lv_aload_n hx hb dX9_appendBytes_19 rfl (lv_at hl 1 rfl) ?_
  refine va_get (D := D) (ci := 10) (v := .ref b0) (C := RX9) (T := TX9) (N := 9) hx hb hts inX9 hown hK hP 0 rfl rfl 0 (by decide) (hts (.fieldLink RX9 9 "EscrowDesk" "buffer" "[C") (by decide +kernel)) (fun _ h9 => h9) rfl dX9_appendBytes_20 ?_
  refine lv_aload_n hx hb dX9_appendBytes_23 rfl (lv_at hl 1 rfl) ?_
  refine va_get (D := D) (ci := 10) (v := .int 19) (C := RX9) (T := TX9) (N := 9) hx hb hts inX9 hown hK hP 0 rfl rfl 1 (by decide) (hts (.fieldLink RX9 59 "EscrowDesk" "buffered" "I") (by decide +kernel)) (fun _ h9 => h9) rfl dX9_appendBytes_24 ?_
  refine lv_iload_n hx hb dX9_appendBytes_27 rfl (lv_at hl 2 rfl) ?_
  refine lv_iload_n hx hb dX9_appendBytes_28 rfl (lv_at hl 0 rfl) ?_
  refine lv_iushr hx hb dX9_appendBytes_29 rfl ?_
  refine lv_topi (fun yn24 _ => ?_)
  refine lv_sipush (v := 255) hx hb dX9_appendBytes_30 (by decide) ?_
  refine lv_iand hx hb dX9_appendBytes_33 ?_
  refine lv_i2c hx hb dX9_appendBytes_34 rfl ?_
  refine lv_topi (fun yn26 _ => ?_)
  refine va_cast hx hb hK hP hD hS 1 2 rfl rfl (vp_in_iff.mpr (by decide)) dX9_appendBytes_35 (fun H locs hP hD hS => ?_)
  have hP : va_P D vwCl [(h0, .inr (10, [.ref b0, .int 19, .ref p0, .ref u0, .ref r0, .ref a0, .ref t0, .ref s0, .ref o0])), (b0, .inl (cA 2, 700, .inl (upd fn20 19 (vp_nar .char yn26))))] H := hP
  have hD : va_D A [(h0, .inr (10, [.ref b0, .int 19, .ref p0, .ref u0, .ref r0, .ref a0, .ref t0, .ref s0, .ref o0])), (b0, .inl (cA 2, 700, .inl (upd fn20 19 (vp_nar .char yn26))))] := hD
  generalize (upd fn20 19 (vp_nar .char yn26)) = fn27 at hP hD
  have hP : va_P D vwCl [(h0, .inr (10, [.ref b0, .int 19, .ref p0, .ref u0, .ref r0, .ref a0, .ref t0, .ref s0, .ref o0])), (b0, .inl (cA 2, 700, .inl fn27))] H := hP
  have hD : va_D A [(h0, .inr (10, [.ref b0, .int 19, .ref p0, .ref u0, .ref r0, .ref a0, .ref t0, .ref s0, .ref o0])), (b0, .inl (cA 2, 700, .inl fn27))] := hD
  refine lv_aload_n hx hb dX9_appendBytes_36 rfl (lv_at hl 1 rfl) ?_
  refine lv_dup hx hb dX9_appendBytes_37 rfl ?_
  refine va_get (D := D) (ci := 10) (v := .int 19) (C := RX9) (T := TX9) (N := 9) hx hb hts inX9 hown hK hP 0 rfl rfl 1 (by decide) (hts (.fieldLink RX9 59 "EscrowDesk" "buffered" "I") (by decide +kernel)) (fun _ h9 => h9) rfl dX9_appendBytes_38 ?_
  refine lv_iconst (v := 1) hx hb dX9_appendBytes_41 (by decide) ?_
  refine lv_iadd hx hb dX9_appendBytes_42 ?_
  refine lv_topi (fun yn28 eyn28 => ?_)
  obtain rfl : yn28 = 20 := eyn28.trans (by first | rfl | decide +kernel)
  refine va_put (D := D) (ci := 10) (v := .int 20) (ty := .int) (C := RX9) (T := TX9) (N := 9) hx hb hts inX9 tyX9 tyX9_ok nmX9 hown hK hP hD hS 0 rfl rfl 1 (by decide) (hts (.fieldLink RX9 59 "EscrowDesk" "buffered" "I") (by decide +kernel)) (fun _ h9 => h9) rfl (by decide +kernel) rfl rfl (Nat.le_of_ble_eq_true rfl) dX9_appendBytes_43 (fun H locs hP hD hS => ?_)
  have hP : va_P D vwCl [(h0, .inr (10, [.ref b0, .int 20, .ref p0, .ref u0, .ref r0, .ref a0, .ref t0, .ref s0, .ref o0])), (b0, .inl (cA 2, 700, .inl fn27))] H := hP
  have hD : va_D A [(h0, .inr (10, [.ref b0, .int 20, .ref p0, .ref u0, .ref r0, .ref a0, .ref t0, .ref s0, .ref o0])), (b0, .inl (cA 2, 700, .inl fn27))] := hD
  refine lv_iinc (v := (-8)) (lv' := [(2, .int (-8)), (0, .ref h0), (1, .int w)]) hx hb dX9_appendBytes_46 hl (k := 0) rfl (by first | rfl | decide +kernel) (by decide) rfl (fun ls hl => ?_)
  refine lv_goto (tgt := 3) hx hb dX9_appendBytes_49 (by decide) ?_
  refine lv_iload_n hx hb dX9_appendBytes_3 rfl (lv_at hl 0 rfl) ?_
  refine lv_if_lt (tgt := 52) hx hb dX9_appendBytes_4 (by decide) (fun c29 => ?_) (fun c9 => absurd c9 (by decide))
  have hP9 := hP.sub (ws' := [(h0, .inr (10, [.ref b0, .int 20, .ref p0, .ref u0, .ref r0, .ref a0, .ref t0, .ref s0, .ref o0])), (b0, .inl (cA 2, 700, .inl fn27))]) [0, 1] rfl
  have hD9 := hD.sub (ws' := [(h0, .inr (10, [.ref b0, .int 20, .ref p0, .ref u0, .ref r0, .ref a0, .ref t0, .ref s0, .ref o0])), (b0, .inl (cA 2, 700, .inl fn27))]) [0, 1] (by decide) rfl
  refine W.widen (k := 0) (n := 0) (Nat.le_of_ble_eq_true rfl) (Nat.le_of_ble_eq_true rfl) ?_
  exact W.vret hx hb hr (fun t ht hW => ⟨⟨(), rfl, trivial, fn27, by rw [ht]; exact hP9, hD9⟩, hS.F ht⟩) hS.2.2 dX9_appendBytes_52

set_option maxHeartbeats 4000000 in
set_option maxRecDepth 100000 in
/-- feed -/
theorem c_feed (l : Launch) (D : va_G) (cA : Nat → ClassId) (sa : Nat → Nat) (h0 b0 p0 u0 r0 a0 t0 s0 o0 : Nat) (w1 w2 w3 w4 w5 : Int32) (fb : Nat → Int32) (sz : Nat) : Met l yX9_feed wsX9_feed ({ frames := 1, cells := 0, slots := 0, locals := 22 }) (va_Pc [.ref h0, .int w1, .int w2, .int w3, .int w4, .int w5] (Wd D cA sa [(h0, .inr (10, [.ref b0, .int 0, .ref p0, .ref u0, .ref r0, .ref a0, .ref t0, .ref s0, .ref o0])), (b0, .inl (cA 2, 700, .inl fb))] sz)) (va_Qi (fun (r : Int32) (_ : Unit) => r = 20) (fun (_ : Unit) t => Wq D (va_A [(h0, .inr (10, [.ref b0, .int 0, .ref p0, .ref u0, .ref r0, .ref a0, .ref t0, .ref s0, .ref o0])), (b0, .inl (cA 2, 700, .inl fb))] sz) [] t) (va_A [(h0, .inr (10, [.ref b0, .int 0, .ref p0, .ref u0, .ref r0, .ref a0, .ref t0, .ref s0, .ref o0])), (b0, .inl (cA 2, 700, .inl fb))] sz)) 0 0 (va_A [(h0, .inr (10, [.ref b0, .int 0, .ref p0, .ref u0, .ref r0, .ref a0, .ref t0, .ref s0, .ref o0])), (b0, .inl (cA 2, 700, .inl fb))] sz) := by
  refine Met.ofW (cc := cX9_feed) (maxL := 6) (ret := (some .int)) (by decide) rfl ?_
  intro p e s m args below meth c s₁ B hml hv
  obtain ⟨rfl, hsz, hP, hK, hD0, hC, hZ⟩ := hv
  have hx := B.exec
  have hb := B.bytes
  have hr := B.returns
  have hts := atoms_spec (ws := wsX9_feed) B.pre
  have hown : s.vm.findClass RX9 = some m.cls := findClass_of_methodNamed B.named
  have hlocks := B.notSynchronized
  subst hsz
  have hD := hD0.self (sz := s.heap.size)
  generalize hAe : va_A [(h0, .inr (10, [.ref b0, .int 0, .ref p0, .ref u0, .ref r0, .ref a0, .ref t0, .ref s0, .ref o0])), (b0, .inl (cA 2, 700, .inl fb))] s.heap.size = A at hD hZ ⊢
  have hA : ∀ q : Nat, s.heap.size ≤ q → A q := fun q h => by rw [← hAe]; exact Or.inr h
  have hS : va_S A s.heap s.heap [] := va_S.rf
  have hP : va_P D vwCl [(h0, .inr (10, [.ref b0, .int 0, .ref p0, .ref u0, .ref r0, .ref a0, .ref t0, .ref s0, .ref o0])), (b0, .inl (cA 2, 700, .inl fb))] s.heap := hP
  have hl := lv_entry ([.ref h0, .int w1, .int w2, .int w3, .int w4, .int w5]) (n := 6) (Nat.le_of_ble_eq_true rfl)
  rw [lg_entry_eq]
  generalize (lg_sl ([.ref h0, .int w1, .int w2, .int w3, .int w4, .int w5]) ++ List.replicate (6 - (lg_sl ([.ref h0, .int w1, .int w2, .int w3, .int w4, .int w5])).length) Slot.unset).toArray = ls at hl ⊢
  have hl : lv_has ls 6 [(0, .ref h0), (1, .int w1), (2, .int w2), (3, .int w3), (4, .int w4), (5, .int w5)] := hl
  have inX9 : ∀ w ∈ u_ws RX9 TX9 9, w ∈ wsX9_feed := by decide +kernel
  refine lv_aload_n hx hb dX9_feed_0 rfl (lv_at hl 0 rfl) ?_
  refine va_get (D := D) (ci := 10) (v := .int 0) (C := RX9) (T := TX9) (N := 9) hx hb hts inX9 hown hK hP 0 rfl rfl 1 (by decide) (hts (.fieldLink RX9 59 "EscrowDesk" "buffered" "I") (by decide +kernel)) (fun _ h9 => h9) rfl dX9_feed_1 ?_
  refine lv_bipush (v := 20) hx hb dX9_feed_4 (by decide) ?_
  refine lv_iadd hx hb dX9_feed_6 ?_
  refine lv_topi (fun yn1 eyn1 => ?_)
  obtain rfl : yn1 = 20 := eyn1.trans (by first | rfl | decide +kernel)
  refine lv_sipush (v := 700) hx hb dX9_feed_7 (by decide) ?_
  refine lv_icmp_le (tgt := 16) hx hb dX9_feed_10 (by decide) (fun c2 => ?_) (fun c9 => absurd c9 (by decide))
  refine lv_aload_n hx hb dX9_feed_16 rfl (lv_at hl 0 rfl) ?_
  refine lv_iload_n hx hb dX9_feed_17 rfl (lv_at hl 1 rfl) ?_
  have hPc := hP.sub (ws' := [(h0, .inr (10, [.ref b0, .int 0, .ref p0, .ref u0, .ref r0, .ref a0, .ref t0, .ref s0, .ref o0])), (b0, .inl (cA 2, 700, .inl fb))]) [0, 1] rfl
  have hDc := hD.sub (ws' := [(h0, .inr (10, [.ref b0, .int 0, .ref p0, .ref u0, .ref r0, .ref a0, .ref t0, .ref s0, .ref o0])), (b0, .inl (cA 2, 700, .inl fb))]) [0, 1] (by decide) rfl
  have hFc := va_free (wc := [(h0, .inr (10, [.ref b0, .int 0, .ref p0, .ref u0, .ref r0, .ref a0, .ref t0, .ref s0, .ref o0])), (b0, .inl (cA 2, 700, .inl fb))]) hD hS hA [0, 1] rfl
  refine va_callv (va_runV (As := [.int w1]) (rest := []) ⟨hx, hb, hml, hown, hts⟩ (c_appendBytes_0 l D cA sa h0 b0 p0 u0 r0 a0 t0 s0 o0 w1 fb s.heap.size) (cwV 1 hts gX9_feed_X9_appendBytes rfl rfl rfl (by decide +kernel) ⟨(Nat.le_of_ble_eq_true rfl), (Nat.le_of_ble_eq_true rfl)⟩) ⟨Wd.blind, va_recv hK hPc (ci := 10) (q0 := 0) rfl rfl, fun U hU hW => ⟨rfl, Wd.call hPc hDc hK hC hZ hS hFc U hU hW⟩⟩ rfl rfl hl.1 rfl (lv_room (Nat.le_of_ble_eq_true rfl)) dX9_feed_18 ⟨(Nat.le_of_ble_eq_true rfl), (Nat.le_of_ble_eq_true rfl)⟩) hS (fun q _ h => hFc q h) hFc (fun u t H1 locs ht hvm hw hB hz1 hk1 hS => ?_)
  obtain ⟨fn3, hP1, hD1⟩ := hB
  rw [ht] at hP1
  obtain ⟨hP, hD⟩ := va_join (wr := []) (w1 := [(h0, .inr (10, [.ref b0, .int 4, .ref p0, .ref u0, .ref r0, .ref a0, .ref t0, .ref s0, .ref o0])), (b0, .inl (cA 2, 700, .inl fn3))]) hP hD [0, 1] [] rfl rfl (by decide) (by decide) hk1 hFc hP1 hD1
  generalize H1 = H at hP hS ⊢
  have hP : va_P D vwCl [(h0, .inr (10, [.ref b0, .int 4, .ref p0, .ref u0, .ref r0, .ref a0, .ref t0, .ref s0, .ref o0])), (b0, .inl (cA 2, 700, .inl fn3))] H := hP
  have hD : va_D A [(h0, .inr (10, [.ref b0, .int 4, .ref p0, .ref u0, .ref r0, .ref a0, .ref t0, .ref s0, .ref o0])), (b0, .inl (cA 2, 700, .inl fn3))] := hD
  refine lv_aload_n hx hb dX9_feed_21 rfl (lv_at hl 0 rfl) ?_
  refine lv_iload_n hx hb dX9_feed_22 rfl (lv_at hl 2 rfl) ?_
  have hPc := hP.sub (ws' := [(h0, .inr (10, [.ref b0, .int 4, .ref p0, .ref u0, .ref r0, .ref a0, .ref t0, .ref s0, .ref o0])), (b0, .inl (cA 2, 700, .inl fn3))]) [0, 1] rfl
  have hDc := hD.sub (ws' := [(h0, .inr (10, [.ref b0, .int 4, .ref p0, .ref u0, .ref r0, .ref a0, .ref t0, .ref s0, .ref o0])), (b0, .inl (cA 2, 700, .inl fn3))]) [0, 1] (by decide) rfl
  have hFc := va_free (wc := [(h0, .inr (10, [.ref b0, .int 4, .ref p0, .ref u0, .ref r0, .ref a0, .ref t0, .ref s0, .ref o0])), (b0, .inl (cA 2, 700, .inl fn3))]) hD hS hA [0, 1] rfl
  refine va_callv (va_runV (As := [.int w2]) (rest := []) ⟨hx, hb, hml, hown, hts⟩ (c_appendBytes_4 l D cA sa h0 b0 p0 u0 r0 a0 t0 s0 o0 w2 fn3 H.size) (cwV 1 hts gX9_feed_X9_appendBytes rfl rfl rfl (by decide +kernel) ⟨(Nat.le_of_ble_eq_true rfl), (Nat.le_of_ble_eq_true rfl)⟩) ⟨Wd.blind, va_recv hK hPc (ci := 10) (q0 := 0) rfl rfl, fun U hU hW => ⟨rfl, Wd.call hPc hDc hK hC hZ hS hFc U hU hW⟩⟩ rfl rfl hl.1 rfl (lv_room (Nat.le_of_ble_eq_true rfl)) dX9_feed_23 ⟨(Nat.le_of_ble_eq_true rfl), (Nat.le_of_ble_eq_true rfl)⟩) hS (fun q _ h => hFc q h) hFc (fun u t H1 locs ht hvm hw hB hz1 hk1 hS => ?_)
  obtain ⟨fn4, hP1, hD1⟩ := hB
  rw [ht] at hP1
  obtain ⟨hP, hD⟩ := va_join (wr := []) (w1 := [(h0, .inr (10, [.ref b0, .int 8, .ref p0, .ref u0, .ref r0, .ref a0, .ref t0, .ref s0, .ref o0])), (b0, .inl (cA 2, 700, .inl fn4))]) hP hD [0, 1] [] rfl rfl (by decide) (by decide) hk1 hFc hP1 hD1
  generalize H1 = H at hP hS ⊢
  have hP : va_P D vwCl [(h0, .inr (10, [.ref b0, .int 8, .ref p0, .ref u0, .ref r0, .ref a0, .ref t0, .ref s0, .ref o0])), (b0, .inl (cA 2, 700, .inl fn4))] H := hP
  have hD : va_D A [(h0, .inr (10, [.ref b0, .int 8, .ref p0, .ref u0, .ref r0, .ref a0, .ref t0, .ref s0, .ref o0])), (b0, .inl (cA 2, 700, .inl fn4))] := hD
  refine lv_aload_n hx hb dX9_feed_26 rfl (lv_at hl 0 rfl) ?_
  refine lv_iload_n hx hb dX9_feed_27 rfl (lv_at hl 3 rfl) ?_
  have hPc := hP.sub (ws' := [(h0, .inr (10, [.ref b0, .int 8, .ref p0, .ref u0, .ref r0, .ref a0, .ref t0, .ref s0, .ref o0])), (b0, .inl (cA 2, 700, .inl fn4))]) [0, 1] rfl
  have hDc := hD.sub (ws' := [(h0, .inr (10, [.ref b0, .int 8, .ref p0, .ref u0, .ref r0, .ref a0, .ref t0, .ref s0, .ref o0])), (b0, .inl (cA 2, 700, .inl fn4))]) [0, 1] (by decide) rfl
  have hFc := va_free (wc := [(h0, .inr (10, [.ref b0, .int 8, .ref p0, .ref u0, .ref r0, .ref a0, .ref t0, .ref s0, .ref o0])), (b0, .inl (cA 2, 700, .inl fn4))]) hD hS hA [0, 1] rfl
  refine va_callv (va_runV (As := [.int w3]) (rest := []) ⟨hx, hb, hml, hown, hts⟩ (c_appendBytes_8 l D cA sa h0 b0 p0 u0 r0 a0 t0 s0 o0 w3 fn4 H.size) (cwV 1 hts gX9_feed_X9_appendBytes rfl rfl rfl (by decide +kernel) ⟨(Nat.le_of_ble_eq_true rfl), (Nat.le_of_ble_eq_true rfl)⟩) ⟨Wd.blind, va_recv hK hPc (ci := 10) (q0 := 0) rfl rfl, fun U hU hW => ⟨rfl, Wd.call hPc hDc hK hC hZ hS hFc U hU hW⟩⟩ rfl rfl hl.1 rfl (lv_room (Nat.le_of_ble_eq_true rfl)) dX9_feed_28 ⟨(Nat.le_of_ble_eq_true rfl), (Nat.le_of_ble_eq_true rfl)⟩) hS (fun q _ h => hFc q h) hFc (fun u t H1 locs ht hvm hw hB hz1 hk1 hS => ?_)
  obtain ⟨fn5, hP1, hD1⟩ := hB
  rw [ht] at hP1
  obtain ⟨hP, hD⟩ := va_join (wr := []) (w1 := [(h0, .inr (10, [.ref b0, .int 12, .ref p0, .ref u0, .ref r0, .ref a0, .ref t0, .ref s0, .ref o0])), (b0, .inl (cA 2, 700, .inl fn5))]) hP hD [0, 1] [] rfl rfl (by decide) (by decide) hk1 hFc hP1 hD1
  generalize H1 = H at hP hS ⊢
  have hP : va_P D vwCl [(h0, .inr (10, [.ref b0, .int 12, .ref p0, .ref u0, .ref r0, .ref a0, .ref t0, .ref s0, .ref o0])), (b0, .inl (cA 2, 700, .inl fn5))] H := hP
  have hD : va_D A [(h0, .inr (10, [.ref b0, .int 12, .ref p0, .ref u0, .ref r0, .ref a0, .ref t0, .ref s0, .ref o0])), (b0, .inl (cA 2, 700, .inl fn5))] := hD
  refine lv_aload_n hx hb dX9_feed_31 rfl (lv_at hl 0 rfl) ?_
  refine lv_iload hx hb dX9_feed_32 (lv_at hl 4 rfl) ?_
  have hPc := hP.sub (ws' := [(h0, .inr (10, [.ref b0, .int 12, .ref p0, .ref u0, .ref r0, .ref a0, .ref t0, .ref s0, .ref o0])), (b0, .inl (cA 2, 700, .inl fn5))]) [0, 1] rfl
  have hDc := hD.sub (ws' := [(h0, .inr (10, [.ref b0, .int 12, .ref p0, .ref u0, .ref r0, .ref a0, .ref t0, .ref s0, .ref o0])), (b0, .inl (cA 2, 700, .inl fn5))]) [0, 1] (by decide) rfl
  have hFc := va_free (wc := [(h0, .inr (10, [.ref b0, .int 12, .ref p0, .ref u0, .ref r0, .ref a0, .ref t0, .ref s0, .ref o0])), (b0, .inl (cA 2, 700, .inl fn5))]) hD hS hA [0, 1] rfl
  refine va_callv (va_runV (As := [.int w4]) (rest := []) ⟨hx, hb, hml, hown, hts⟩ (c_appendBytes_12 l D cA sa h0 b0 p0 u0 r0 a0 t0 s0 o0 w4 fn5 H.size) (cwV 1 hts gX9_feed_X9_appendBytes rfl rfl rfl (by decide +kernel) ⟨(Nat.le_of_ble_eq_true rfl), (Nat.le_of_ble_eq_true rfl)⟩) ⟨Wd.blind, va_recv hK hPc (ci := 10) (q0 := 0) rfl rfl, fun U hU hW => ⟨rfl, Wd.call hPc hDc hK hC hZ hS hFc U hU hW⟩⟩ rfl rfl hl.1 rfl (lv_room (Nat.le_of_ble_eq_true rfl)) dX9_feed_34 ⟨(Nat.le_of_ble_eq_true rfl), (Nat.le_of_ble_eq_true rfl)⟩) hS (fun q _ h => hFc q h) hFc (fun u t H1 locs ht hvm hw hB hz1 hk1 hS => ?_)
  obtain ⟨fn6, hP1, hD1⟩ := hB
  rw [ht] at hP1
  obtain ⟨hP, hD⟩ := va_join (wr := []) (w1 := [(h0, .inr (10, [.ref b0, .int 16, .ref p0, .ref u0, .ref r0, .ref a0, .ref t0, .ref s0, .ref o0])), (b0, .inl (cA 2, 700, .inl fn6))]) hP hD [0, 1] [] rfl rfl (by decide) (by decide) hk1 hFc hP1 hD1
  generalize H1 = H at hP hS ⊢
  have hP : va_P D vwCl [(h0, .inr (10, [.ref b0, .int 16, .ref p0, .ref u0, .ref r0, .ref a0, .ref t0, .ref s0, .ref o0])), (b0, .inl (cA 2, 700, .inl fn6))] H := hP
  have hD : va_D A [(h0, .inr (10, [.ref b0, .int 16, .ref p0, .ref u0, .ref r0, .ref a0, .ref t0, .ref s0, .ref o0])), (b0, .inl (cA 2, 700, .inl fn6))] := hD
  refine lv_aload_n hx hb dX9_feed_37 rfl (lv_at hl 0 rfl) ?_
  refine lv_iload hx hb dX9_feed_38 (lv_at hl 5 rfl) ?_
  have hPc := hP.sub (ws' := [(h0, .inr (10, [.ref b0, .int 16, .ref p0, .ref u0, .ref r0, .ref a0, .ref t0, .ref s0, .ref o0])), (b0, .inl (cA 2, 700, .inl fn6))]) [0, 1] rfl
  have hDc := hD.sub (ws' := [(h0, .inr (10, [.ref b0, .int 16, .ref p0, .ref u0, .ref r0, .ref a0, .ref t0, .ref s0, .ref o0])), (b0, .inl (cA 2, 700, .inl fn6))]) [0, 1] (by decide) rfl
  have hFc := va_free (wc := [(h0, .inr (10, [.ref b0, .int 16, .ref p0, .ref u0, .ref r0, .ref a0, .ref t0, .ref s0, .ref o0])), (b0, .inl (cA 2, 700, .inl fn6))]) hD hS hA [0, 1] rfl
  refine va_callv (va_runV (As := [.int w5]) (rest := []) ⟨hx, hb, hml, hown, hts⟩ (c_appendBytes_16 l D cA sa h0 b0 p0 u0 r0 a0 t0 s0 o0 w5 fn6 H.size) (cwV 1 hts gX9_feed_X9_appendBytes rfl rfl rfl (by decide +kernel) ⟨(Nat.le_of_ble_eq_true rfl), (Nat.le_of_ble_eq_true rfl)⟩) ⟨Wd.blind, va_recv hK hPc (ci := 10) (q0 := 0) rfl rfl, fun U hU hW => ⟨rfl, Wd.call hPc hDc hK hC hZ hS hFc U hU hW⟩⟩ rfl rfl hl.1 rfl (lv_room (Nat.le_of_ble_eq_true rfl)) dX9_feed_40 ⟨(Nat.le_of_ble_eq_true rfl), (Nat.le_of_ble_eq_true rfl)⟩) hS (fun q _ h => hFc q h) hFc (fun u t H1 locs ht hvm hw hB hz1 hk1 hS => ?_)
  obtain ⟨fn7, hP1, hD1⟩ := hB
  rw [ht] at hP1
  obtain ⟨hP, hD⟩ := va_join (wr := []) (w1 := [(h0, .inr (10, [.ref b0, .int 20, .ref p0, .ref u0, .ref r0, .ref a0, .ref t0, .ref s0, .ref o0])), (b0, .inl (cA 2, 700, .inl fn7))]) hP hD [0, 1] [] rfl rfl (by decide) (by decide) hk1 hFc hP1 hD1
  generalize H1 = H at hP hS ⊢
  have hP : va_P D vwCl [(h0, .inr (10, [.ref b0, .int 20, .ref p0, .ref u0, .ref r0, .ref a0, .ref t0, .ref s0, .ref o0])), (b0, .inl (cA 2, 700, .inl fn7))] H := hP
  have hD : va_D A [(h0, .inr (10, [.ref b0, .int 20, .ref p0, .ref u0, .ref r0, .ref a0, .ref t0, .ref s0, .ref o0])), (b0, .inl (cA 2, 700, .inl fn7))] := hD
  refine lv_aload_n hx hb dX9_feed_43 rfl (lv_at hl 0 rfl) ?_
  refine va_get (D := D) (ci := 10) (v := .int 20) (C := RX9) (T := TX9) (N := 9) hx hb hts inX9 hown hK hP 0 rfl rfl 1 (by decide) (hts (.fieldLink RX9 59 "EscrowDesk" "buffered" "I") (by decide +kernel)) (fun _ h9 => h9) rfl dX9_feed_44 ?_
  have hP9 := hP.sub (ws' := []) [] rfl
  have hD9 := hD.sub (ws' := []) [] (by decide) rfl
  refine W.widen (k := 0) (n := 0) (Nat.le_of_ble_eq_true rfl) (Nat.le_of_ble_eq_true rfl) ?_
  exact W.iret (v := 20) hx hb hr (fun t ht hW => ⟨⟨20, (), rfl, rfl, by rw [ht]; exact hP9, hD9⟩, hS.F ht⟩) hS.2.2 dX9_feed_47
