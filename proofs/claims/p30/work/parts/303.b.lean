set_option maxHeartbeats 4000000 in
set_option maxRecDepth 100000 in
/-- setRate -/
theorem s_setRate (l : Launch) (D : va_G) (cA : Nat → ClassId) (sa : Nat → Nat) (h0 : Nat) (b0 : Nat) (nb : Nat) (p0 : Nat) (u0 : Nat) (r0 : Nat) (a0 : Nat) (t0 : Nat) (s0 : Nat) (o0 : Nat) (s1 : Nat) (wn : Nat) (wc : Nat) (FR : Nat → Option Nat) (q : Nat → Nat → Nat) (mp : Nat → Nat) (mi : Nat → Nat → Int32) (ml : Nat → Nat → Int64) (mn : Nat → Nat) (mk : Nat → Nat) (mf : Nat → Nat → Nat → Int32) (a1 : Nat) (a2 : Nat) (a3 : Nat) (a4 : Nat) (a5 : Nat) (a6 : Nat) (i6 : Int32) (i7 : Int32) (i8 : Int32) (i12 : Int32) (i13 : Int32) (i14 : Int32) (i15 : Int32) (i16 : Int32) (i17 : Int32) (i18 : Int32) (i19 : Int32) (i9 : Int64) (i10 : Int64) (i11 : Int64) (nx : Nat) (kp : Nat) (fr : Nat → Int32) (fs : Nat → Int32) (fp : Nat → Int32) (ff : Nat → Int32) (fd : Nat → Int32) (i : Int32) (j : Int32) (sz : Nat) (hl9 : l.stackTraces = false) (hnx : nx < 60) (hkp : kp ≤ 60) (hwn : wn < 10) (hwc : wc ≤ 10) (hFR : FRq q FR) (hMB : MB mn mk) (hWin : Win p0 wn wc mp) : vx_Met l yX9_setRate wsX9_setRate ({ frames := 7, cells := 2, slots := 12, locals := 123 }) (va_Pc [.ref h0, .int i, .int j] (Wd D cA sa (([(oX9 h0 b0 (nI nb) p0 u0 r0 a0 t0 s0 o0), (s0, .inr (5, [.ref s1, .int (nI wn), .int (nI wc)])), (s1, .inl (cA 5, 10, .inr (.inr (.inr (.inr FR))))), (oX0 a0 p0 a1 a3 a4 a5 a6 i6 i7 i8 i9 i10 i11 i12 i13 i14 i15 i16 i17 i18 i19), (a1, .inr (6, [.ref a2, .int (nI nx), .int (nI kp)])), (a2, .inl (cA 0, 240, .inl fr)), (a3, .inl (cA 0, 10, .inl fs)), (a4, .inl (cA 0, 10, .inl fp)), (a5, .inl (cA 0, 10, .inl ff)), (a6, .inl (cA 0, 10, .inl fd))] : va_W) ++ memW cA q mp mi ml mn mk mf) sz)) (va_Qi (fun (r : Int32) (_ : Unit) => True) (fun (_ : Unit) t => ∃ wn2 : Nat, ∃ wc2 : Nat, ∃ mp2 : Nat → Nat, ∃ mi2 : Nat → Nat → Int32, ∃ ml2 : Nat → Nat → Int64, ∃ mn2 : Nat → Nat, ∃ mk2 : Nat → Nat, ∃ mf2 : Nat → Nat → Nat → Int32, ∃ z6 : Int32, ∃ z7 : Int32, ∃ z8 : Int32, ∃ z12 : Int32, ∃ z13 : Int32, ∃ z14 : Int32, ∃ z15 : Int32, ∃ z16 : Int32, ∃ z17 : Int32, ∃ z18 : Int32, ∃ z19 : Int32, ∃ z9 : Int64, ∃ z10 : Int64, ∃ z11 : Int64, ∃ ny : Nat, ∃ ky : Nat, ∃ zr : Nat → Int32, ∃ zs : Nat → Int32, ∃ zp : Nat → Int32, ∃ zf : Nat → Int32, ∃ zd : Nat → Int32, wn2 < 10 ∧ wc2 ≤ 10 ∧ MB mn2 mk2 ∧ Win p0 wn2 wc2 mp2 ∧ ny < 60 ∧ ky ≤ 60 ∧ Wq D (va_A (([(oX9 h0 b0 (nI nb) p0 u0 r0 a0 t0 s0 o0), (s0, .inr (5, [.ref s1, .int (nI wn), .int (nI wc)])), (s1, .inl (cA 5, 10, .inr (.inr (.inr (.inr FR))))), (oX0 a0 p0 a1 a3 a4 a5 a6 i6 i7 i8 i9 i10 i11 i12 i13 i14 i15 i16 i17 i18 i19), (a1, .inr (6, [.ref a2, .int (nI nx), .int (nI kp)])), (a2, .inl (cA 0, 240, .inl fr)), (a3, .inl (cA 0, 10, .inl fs)), (a4, .inl (cA 0, 10, .inl fp)), (a5, .inl (cA 0, 10, .inl ff)), (a6, .inl (cA 0, 10, .inl fd))] : va_W) ++ memW cA q mp mi ml mn mk mf) sz) (([(oX9 h0 b0 (nI nb) p0 u0 r0 a0 t0 s0 o0), (s0, .inr (5, [.ref s1, .int (nI wn2), .int (nI wc2)])), (s1, .inl (cA 5, 10, .inr (.inr (.inr (.inr FR))))), (oX0 a0 p0 a1 a3 a4 a5 a6 z6 z7 z8 z9 z10 z11 z12 z13 z14 z15 z16 z17 z18 z19), (a1, .inr (6, [.ref a2, .int (nI ny), .int (nI ky)])), (a2, .inl (cA 0, 240, .inl zr)), (a3, .inl (cA 0, 10, .inl zs)), (a4, .inl (cA 0, 10, .inl zp)), (a5, .inl (cA 0, 10, .inl zf)), (a6, .inl (cA 0, 10, .inl zd))] : va_W) ++ memW cA q mp2 mi2 ml2 mn2 mk2 mf2) t) (va_A (([(oX9 h0 b0 (nI nb) p0 u0 r0 a0 t0 s0 o0), (s0, .inr (5, [.ref s1, .int (nI wn), .int (nI wc)])), (s1, .inl (cA 5, 10, .inr (.inr (.inr (.inr FR))))), (oX0 a0 p0 a1 a3 a4 a5 a6 i6 i7 i8 i9 i10 i11 i12 i13 i14 i15 i16 i17 i18 i19), (a1, .inr (6, [.ref a2, .int (nI nx), .int (nI kp)])), (a2, .inl (cA 0, 240, .inl fr)), (a3, .inl (cA 0, 10, .inl fs)), (a4, .inl (cA 0, 10, .inl fp)), (a5, .inl (cA 0, 10, .inl ff)), (a6, .inl (cA 0, 10, .inl fd))] : va_W) ++ memW cA q mp mi ml mn mk mf) sz)) (vx_X (fun _ : Unit => True) (fun E _ t => (E = "java/lang/IllegalArgumentException") ∧ Wq D (va_A (([(oX9 h0 b0 (nI nb) p0 u0 r0 a0 t0 s0 o0), (s0, .inr (5, [.ref s1, .int (nI wn), .int (nI wc)])), (s1, .inl (cA 5, 10, .inr (.inr (.inr (.inr FR))))), (oX0 a0 p0 a1 a3 a4 a5 a6 i6 i7 i8 i9 i10 i11 i12 i13 i14 i15 i16 i17 i18 i19), (a1, .inr (6, [.ref a2, .int (nI nx), .int (nI kp)])), (a2, .inl (cA 0, 240, .inl fr)), (a3, .inl (cA 0, 10, .inl fs)), (a4, .inl (cA 0, 10, .inl fp)), (a5, .inl (cA 0, 10, .inl ff)), (a6, .inl (cA 0, 10, .inl fd))] : va_W) ++ memW cA q mp mi ml mn mk mf) sz) (([(oX9 h0 b0 (nI nb) p0 u0 r0 a0 t0 s0 o0), (s0, .inr (5, [.ref s1, .int (nI wn), .int (nI wc)])), (s1, .inl (cA 5, 10, .inr (.inr (.inr (.inr FR))))), (oX0 a0 p0 a1 a3 a4 a5 a6 i6 i7 i8 i9 i10 i11 i12 i13 i14 i15 i16 i17 i18 i19), (a1, .inr (6, [.ref a2, .int (nI nx), .int (nI kp)])), (a2, .inl (cA 0, 240, .inl fr)), (a3, .inl (cA 0, 10, .inl fs)), (a4, .inl (cA 0, 10, .inl fp)), (a5, .inl (cA 0, 10, .inl ff)), (a6, .inl (cA 0, 10, .inl fd))] : va_W) ++ memW cA q mp mi ml mn mk mf) t) (va_A (([(oX9 h0 b0 (nI nb) p0 u0 r0 a0 t0 s0 o0), (s0, .inr (5, [.ref s1, .int (nI wn), .int (nI wc)])), (s1, .inl (cA 5, 10, .inr (.inr (.inr (.inr FR))))), (oX0 a0 p0 a1 a3 a4 a5 a6 i6 i7 i8 i9 i10 i11 i12 i13 i14 i15 i16 i17 i18 i19), (a1, .inr (6, [.ref a2, .int (nI nx), .int (nI kp)])), (a2, .inl (cA 0, 240, .inl fr)), (a3, .inl (cA 0, 10, .inl fs)), (a4, .inl (cA 0, 10, .inl fp)), (a5, .inl (cA 0, 10, .inl ff)), (a6, .inl (cA 0, 10, .inl fd))] : va_W) ++ memW cA q mp mi ml mn mk mf) sz)) 2 12 (va_A (([(oX9 h0 b0 (nI nb) p0 u0 r0 a0 t0 s0 o0), (s0, .inr (5, [.ref s1, .int (nI wn), .int (nI wc)])), (s1, .inl (cA 5, 10, .inr (.inr (.inr (.inr FR))))), (oX0 a0 p0 a1 a3 a4 a5 a6 i6 i7 i8 i9 i10 i11 i12 i13 i14 i15 i16 i17 i18 i19), (a1, .inr (6, [.ref a2, .int (nI nx), .int (nI kp)])), (a2, .inl (cA 0, 240, .inl fr)), (a3, .inl (cA 0, 10, .inl fs)), (a4, .inl (cA 0, 10, .inl fp)), (a5, .inl (cA 0, 10, .inl ff)), (a6, .inl (cA 0, 10, .inl fd))] : va_W) ++ memW cA q mp mi ml mn mk mf) sz) := by
  refine vx_ofW (cc := cX9_setRate) (maxL := 4) (ret := (some .int)) (by decide) rfl ?_
  intro p e s m args below meth c s₁ B hml hno hv
  obtain ⟨rfl, hsz, hP, hK, hD0, hC, hZ⟩ := hv
  have hx := B.exec
  have hb := B.bytes
  have hr := B.returns
  have hts := atoms_spec (ws := wsX9_setRate) B.pre
  have hown : s.vm.findClass RX9 = some m.cls := findClass_of_methodNamed B.named
  have hlocks := B.notSynchronized
  subst hsz
  have hD := hD0.self (sz := s.heap.size)
  generalize hAe : va_A (([(oX9 h0 b0 (nI nb) p0 u0 r0 a0 t0 s0 o0), (s0, .inr (5, [.ref s1, .int (nI wn), .int (nI wc)])), (s1, .inl (cA 5, 10, .inr (.inr (.inr (.inr FR))))), (oX0 a0 p0 a1 a3 a4 a5 a6 i6 i7 i8 i9 i10 i11 i12 i13 i14 i15 i16 i17 i18 i19), (a1, .inr (6, [.ref a2, .int (nI nx), .int (nI kp)])), (a2, .inl (cA 0, 240, .inl fr)), (a3, .inl (cA 0, 10, .inl fs)), (a4, .inl (cA 0, 10, .inl fp)), (a5, .inl (cA 0, 10, .inl ff)), (a6, .inl (cA 0, 10, .inl fd))] : va_W) ++ memW cA q mp mi ml mn mk mf) s.heap.size = A at hD hZ ⊢
  have hA : ∀ q : Nat, s.heap.size ≤ q → A q := fun q h => by rw [← hAe]; exact Or.inr h
  have hS : va_S A s.heap s.heap [] := va_S.rf
  have hP : va_P D vwCl (([(oX9 h0 b0 (nI nb) p0 u0 r0 a0 t0 s0 o0), (s0, .inr (5, [.ref s1, .int (nI wn), .int (nI wc)])), (s1, .inl (cA 5, 10, .inr (.inr (.inr (.inr FR))))), (oX0 a0 p0 a1 a3 a4 a5 a6 i6 i7 i8 i9 i10 i11 i12 i13 i14 i15 i16 i17 i18 i19), (a1, .inr (6, [.ref a2, .int (nI nx), .int (nI kp)])), (a2, .inl (cA 0, 240, .inl fr)), (a3, .inl (cA 0, 10, .inl fs)), (a4, .inl (cA 0, 10, .inl fp)), (a5, .inl (cA 0, 10, .inl ff)), (a6, .inl (cA 0, 10, .inl fd))] : va_W) ++ memW cA q mp mi ml mn mk mf) s.heap := hP
  have hl := lv_entry ([.ref h0, .int i, .int j]) (n := 4) (Nat.le_of_ble_eq_true rfl)
  rw [lg_entry_eq]
  generalize (lg_sl ([.ref h0, .int i, .int j]) ++ List.replicate (4 - (lg_sl ([.ref h0, .int i, .int j])).length) Slot.unset).toArray = ls at hl ⊢
  have hl : lv_has ls 4 [(0, .ref h0), (1, .int i), (2, .int j)] := hl
  have inX0 : ∀ w ∈ u_ws RX0 TX0 20, w ∈ wsX9_setRate := by decide +kernel
  have inX9 : ∀ w ∈ u_ws RX9 TX9 9, w ∈ wsX9_setRate := by decide +kernel
  refine lv_iload_n hx hb dX9_setRate_0 rfl (lv_at hl 1 rfl) ?_
  refine lv_iconst (v := 0) hx hb dX9_setRate_1 (by decide) ?_
  refine lv_sipush (v := 3000) hx hb dX9_setRate_2 (by decide) ?_
  obtain ⟨hPc, hDc, hFc⟩ := PDq.cut (wc := []) (cq_P hP) (cq_D hD) hS hA [] (by decide) rfl
  refine vx_callv (vx_runS (As := [.int i, .int 0, .int 3000]) (rest := []) ⟨hx, hb, hml, hown, hts⟩ (s_needRange l D cA sa i 0 3000 s.heap.size hl9) (va_cwS 3 hts gX9_setRate_X9_needRange rfl rfl rfl (by decide +kernel) ⟨(Nat.le_of_ble_eq_true rfl), (Nat.le_of_ble_eq_true rfl)⟩) ⟨Wd.blind, fun U hU hW => ⟨rfl, Wd.call hPc hDc hK hC hZ hS hFc U hU hW⟩⟩ rfl rfl hl.1 rfl (lv_room (Nat.le_of_ble_eq_true rfl)) dX9_setRate_5 ⟨(Nat.le_of_ble_eq_true rfl), (Nat.le_of_ble_eq_true rfl)⟩) hS (fun q _ h => hFc q h) hFc (fun q _ h => hFc q h) (fun E ce q9 u t H1 locs ht hvm hpx hE hz1 hk1 hS hcell hv9 hcl => ?_) (fun u t H1 locs ht hvm hw hB hz1 hk1 hS => ?_)
  · skip
    obtain ⟨hE, hP1, hD1⟩ := hE
    rw [ht] at hP1
    obtain ⟨hP, hD⟩ := PDq.joinQ (w := [(oX9 h0 b0 (nI nb) p0 u0 r0 a0 t0 s0 o0), (s0, .inr (5, [.ref s1, .int (nI wn), .int (nI wc)])), (s1, .inl (cA 5, 10, .inr (.inr (.inr (.inr FR))))), (oX0 a0 p0 a1 a3 a4 a5 a6 i6 i7 i8 i9 i10 i11 i12 i13 i14 i15 i16 i17 i18 i19), (a1, .inr (6, [.ref a2, .int (nI nx), .int (nI kp)])), (a2, .inl (cA 0, 240, .inl fr)), (a3, .inl (cA 0, 10, .inl fs)), (a4, .inl (cA 0, 10, .inl fp)), (a5, .inl (cA 0, 10, .inl ff)), (a6, .inl (cA 0, 10, .inl fd))]) 10 hP hD [] [0, 1, 2, 3, 4, 5, 6, 7, 8, 9] rfl rfl (by decide +kernel) (by decide +kernel) hk1 hFc hP1 hD1 rfl
    generalize H1 = H at hP hS hcell ⊢
    have hP9 := hP.by (ws' := (([(oX9 h0 b0 (nI nb) p0 u0 r0 a0 t0 s0 o0), (s0, .inr (5, [.ref s1, .int (nI wn), .int (nI wc)])), (s1, .inl (cA 5, 10, .inr (.inr (.inr (.inr FR))))), (oX0 a0 p0 a1 a3 a4 a5 a6 i6 i7 i8 i9 i10 i11 i12 i13 i14 i15 i16 i17 i18 i19), (a1, .inr (6, [.ref a2, .int (nI nx), .int (nI kp)])), (a2, .inl (cA 0, 240, .inl fr)), (a3, .inl (cA 0, 10, .inl fs)), (a4, .inl (cA 0, 10, .inl fp)), (a5, .inl (cA 0, 10, .inl ff)), (a6, .inl (cA 0, 10, .inl fd))] : va_W) ++ memW cA q mp mi ml mn mk mf)) _ (va_part [0, 1, 2, 3, 4, 5, 6, 7, 8, 9] rfl)
    have hD9 := va_D_part (cx := [(oX9 h0 b0 (nI nb) p0 u0 r0 a0 t0 s0 o0), (s0, .inr (5, [.ref s1, .int (nI wn), .int (nI wc)])), (s1, .inl (cA 5, 10, .inr (.inr (.inr (.inr FR))))), (oX0 a0 p0 a1 a3 a4 a5 a6 i6 i7 i8 i9 i10 i11 i12 i13 i14 i15 i16 i17 i18 i19), (a1, .inr (6, [.ref a2, .int (nI nx), .int (nI kp)])), (a2, .inl (cA 0, 240, .inl fr)), (a3, .inl (cA 0, 10, .inl fs)), (a4, .inl (cA 0, 10, .inl fp)), (a5, .inl (cA 0, 10, .inl ff)), (a6, .inl (cA 0, 10, .inl fd))]) hD [0, 1, 2, 3, 4, 5, 6, 7, 8, 9] (by decide +kernel) rfl
    exact vx_out (fun x h => (hno x h).elim) hlocks hcell hv9 hcl (fun t ht hvm => ⟨(), trivial, ⟨hE, by rw [ht]; exact hP9, hD9⟩, hS.F ht⟩) hS.2.2 (Nat.le_of_ble_eq_true rfl) (Nat.le_of_ble_eq_true rfl)
  · skip
    obtain ⟨hP1, hD1⟩ := hB
    rw [ht] at hP1
    obtain ⟨hP, hD⟩ := PDq.joinQ (w := [(oX9 h0 b0 (nI nb) p0 u0 r0 a0 t0 s0 o0), (s0, .inr (5, [.ref s1, .int (nI wn), .int (nI wc)])), (s1, .inl (cA 5, 10, .inr (.inr (.inr (.inr FR))))), (oX0 a0 p0 a1 a3 a4 a5 a6 i6 i7 i8 i9 i10 i11 i12 i13 i14 i15 i16 i17 i18 i19), (a1, .inr (6, [.ref a2, .int (nI nx), .int (nI kp)])), (a2, .inl (cA 0, 240, .inl fr)), (a3, .inl (cA 0, 10, .inl fs)), (a4, .inl (cA 0, 10, .inl fp)), (a5, .inl (cA 0, 10, .inl ff)), (a6, .inl (cA 0, 10, .inl fd))]) 10 hP hD [] [0, 1, 2, 3, 4, 5, 6, 7, 8, 9] rfl rfl (by decide +kernel) (by decide +kernel) hk1 hFc hP1 hD1 rfl
    generalize H1 = H at hP hS ⊢
    refine lv_iload_n hx hb dX9_setRate_8 rfl (lv_at hl 2 rfl) ?_
    refine lv_i2l (v := (j.toInt64)) hx hb dX9_setRate_9 rfl ?_
    obtain ⟨hPc, hDc, hFc⟩ := PDq.cut (wc := []) (cq_P hP) (cq_D hD) hS hA [] (by decide) rfl
    refine va_calli (va_runS (As := [.long (j.toInt64)]) (rest := []) ⟨hx, hb, hml, hown, hts⟩ (s_isBasis l D cA sa (j.toInt64) H.size) (va_cwS 1 hts gX9_setRate_X9_isBasis rfl rfl rfl (by decide +kernel) ⟨(Nat.le_of_ble_eq_true rfl), (Nat.le_of_ble_eq_true rfl)⟩) ⟨Wd.blind, fun U hU hW => ⟨rfl, Wd.call hPc hDc hK hC hZ hS hFc U hU hW⟩⟩ rfl rfl hl.1 rfl (lv_room (Nat.le_of_ble_eq_true rfl)) dX9_setRate_10 ⟨(Nat.le_of_ble_eq_true rfl), (Nat.le_of_ble_eq_true rfl)⟩) hS (fun q _ h => hFc q h) hFc (fun rn1 u t H1 locs ht hvm hw hB hz1 hk1 hS => ?_)
    obtain ⟨hP1, hD1⟩ := hB
    rw [ht] at hP1
    obtain ⟨hP, hD⟩ := PDq.joinQ (w := [(oX9 h0 b0 (nI nb) p0 u0 r0 a0 t0 s0 o0), (s0, .inr (5, [.ref s1, .int (nI wn), .int (nI wc)])), (s1, .inl (cA 5, 10, .inr (.inr (.inr (.inr FR))))), (oX0 a0 p0 a1 a3 a4 a5 a6 i6 i7 i8 i9 i10 i11 i12 i13 i14 i15 i16 i17 i18 i19), (a1, .inr (6, [.ref a2, .int (nI nx), .int (nI kp)])), (a2, .inl (cA 0, 240, .inl fr)), (a3, .inl (cA 0, 10, .inl fs)), (a4, .inl (cA 0, 10, .inl fp)), (a5, .inl (cA 0, 10, .inl ff)), (a6, .inl (cA 0, 10, .inl fd))]) 10 hP hD [] [0, 1, 2, 3, 4, 5, 6, 7, 8, 9] rfl rfl (by decide +kernel) (by decide +kernel) hk1 hFc hP1 hD1 rfl
    generalize H1 = H at hP hS ⊢
    have hn2 := hw
    refine lv_if_ne (tgt := 27) hx hb dX9_setRate_13 (by decide) (fun c3 => ?_) (fun c3 => ?_)
    · skip
      refine lv_aload_n hx hb dX9_setRate_27 rfl (lv_at hl 0 rfl) ?_
      refine va_get (D := D) (ci := 10) (v := .ref s0) (C := RX9) (T := TX9) (N := 9) hx hb hts inX9 hown hK hP 0 rfl rfl 7 (by decide) (hts (.fieldLink RX9 45 "EscrowDesk" "history" "LEscrowDesk$History;") (by decide +kernel)) (fun _ h9 => h9) rfl dX9_setRate_28 ?_
      refine lv_aload_n hx hb dX9_setRate_31 rfl (lv_at hl 0 rfl) ?_
      refine va_get (D := D) (ci := 10) (v := .ref a0) (C := RX9) (T := TX9) (N := 9) hx hb hts inX9 hown hK hP 0 rfl rfl 5 (by decide) (hts (.fieldLink RX9 35 "EscrowDesk" "account" "LEscrowDesk$Account;") (by decide +kernel)) (fun _ h9 => h9) rfl dX9_setRate_32 ?_
      have hPc := hP.by (ws' := (([(s0, .inr (5, [.ref s1, .int (nI wn), .int (nI wc)])), (s1, .inl (cA 5, 10, .inr (.inr (.inr (.inr FR))))), (oX0 a0 p0 a1 a3 a4 a5 a6 i6 i7 i8 i9 i10 i11 i12 i13 i14 i15 i16 i17 i18 i19), (a1, .inr (6, [.ref a2, .int (nI nx), .int (nI kp)])), (a2, .inl (cA 0, 240, .inl fr)), (a3, .inl (cA 0, 10, .inl fs)), (a4, .inl (cA 0, 10, .inl fp)), (a5, .inl (cA 0, 10, .inl ff)), (a6, .inl (cA 0, 10, .inl fd))] : va_W) ++ memW cA q mp mi ml mn mk mf)) _ (va_part [1, 2, 3, 4, 5, 6, 7, 8, 9] rfl)
      have hDc := va_D_part (cx := [(s0, .inr (5, [.ref s1, .int (nI wn), .int (nI wc)])), (s1, .inl (cA 5, 10, .inr (.inr (.inr (.inr FR))))), (oX0 a0 p0 a1 a3 a4 a5 a6 i6 i7 i8 i9 i10 i11 i12 i13 i14 i15 i16 i17 i18 i19), (a1, .inr (6, [.ref a2, .int (nI nx), .int (nI kp)])), (a2, .inl (cA 0, 240, .inl fr)), (a3, .inl (cA 0, 10, .inl fs)), (a4, .inl (cA 0, 10, .inl fp)), (a5, .inl (cA 0, 10, .inl ff)), (a6, .inl (cA 0, 10, .inl fd))]) hD [1, 2, 3, 4, 5, 6, 7, 8, 9] (by decide +kernel) rfl
      have hFc := va_freeP (cx := [(s0, .inr (5, [.ref s1, .int (nI wn), .int (nI wc)])), (s1, .inl (cA 5, 10, .inr (.inr (.inr (.inr FR))))), (oX0 a0 p0 a1 a3 a4 a5 a6 i6 i7 i8 i9 i10 i11 i12 i13 i14 i15 i16 i17 i18 i19), (a1, .inr (6, [.ref a2, .int (nI nx), .int (nI kp)])), (a2, .inl (cA 0, 240, .inl fr)), (a3, .inl (cA 0, 10, .inl fs)), (a4, .inl (cA 0, 10, .inl fp)), (a5, .inl (cA 0, 10, .inl ff)), (a6, .inl (cA 0, 10, .inl fd))]) hD hS hA [1, 2, 3, 4, 5, 6, 7, 8, 9] rfl
      refine va_callv (va_runV (As := [.ref a0]) (rest := []) ⟨hx, hb, hml, hown, hts⟩ (s_remember l D cA sa s0 s1 wn wc FR q mp mi ml mn mk mf a0 a1 a2 a3 a4 a5 a6 p0 i6 i7 i8 i12 i13 i14 i15 i16 i17 i18 i19 i9 i10 i11 nx kp fr fs fp ff fd H.size hnx hkp hwn hwc hFR hMB hWin) (cwV 1 hts gX9_setRate_X1_remember rfl rfl rfl (by decide +kernel) ⟨(Nat.le_of_ble_eq_true rfl), (Nat.le_of_ble_eq_true rfl)⟩) ⟨Wd.blind, va_recv hK hPc (ci := 5) (q0 := 0) rfl rfl, fun U hU hW => ⟨rfl, Wd.call hPc hDc hK hC hZ hS hFc U hU hW⟩⟩ rfl rfl hl.1 rfl (lv_room (Nat.le_of_ble_eq_true rfl)) dX9_setRate_35 ⟨(Nat.le_of_ble_eq_true rfl), (Nat.le_of_ble_eq_true rfl)⟩) hS (fun q _ h => hFc q h) hFc (fun u t H1 locs ht hvm hw hB hz1 hk1 hS => ?_)
      obtain ⟨qn4, qn5, fn6, fn7, fn8, fn9, fn10, fn11, hn12, hn13, hn14, hn15, hP1, hD1⟩ := hB
      rw [ht] at hP1
      obtain ⟨hP, hD⟩ := va_joinP (wr := [(oX9 h0 b0 (nI nb) p0 u0 r0 a0 t0 s0 o0)]) (rx := [(s0, .inr (5, [.ref s1, .int (nI qn4), .int (nI qn5)])), (s1, .inl (cA 5, 10, .inr (.inr (.inr (.inr FR))))), (oX0 a0 p0 a1 a3 a4 a5 a6 i6 i7 i8 i9 i10 i11 i12 i13 i14 i15 i16 i17 i18 i19), (a1, .inr (6, [.ref a2, .int (nI nx), .int (nI kp)])), (a2, .inl (cA 0, 240, .inl fr)), (a3, .inl (cA 0, 10, .inl fs)), (a4, .inl (cA 0, 10, .inl fp)), (a5, .inl (cA 0, 10, .inl ff)), (a6, .inl (cA 0, 10, .inl fd))]) (pl1 := memW cA q fn6 fn7 fn8 fn9 fn10 fn11) hP hD [1, 2, 3, 4, 5, 6, 7, 8, 9] [0] rfl rfl (by decide) (by decide +kernel) hk1 hFc hP1 hD1
      generalize H1 = H at hP hS ⊢
      obtain ⟨hP, hD⟩ : PDq D A (([(oX9 h0 b0 (nI nb) p0 u0 r0 a0 t0 s0 o0), (s0, .inr (5, [.ref s1, .int (nI qn4), .int (nI qn5)])), (s1, .inl (cA 5, 10, .inr (.inr (.inr (.inr FR))))), (oX0 a0 p0 a1 a3 a4 a5 a6 i6 i7 i8 i9 i10 i11 i12 i13 i14 i15 i16 i17 i18 i19), (a1, .inr (6, [.ref a2, .int (nI nx), .int (nI kp)])), (a2, .inl (cA 0, 240, .inl fr)), (a3, .inl (cA 0, 10, .inl fs)), (a4, .inl (cA 0, 10, .inl fp)), (a5, .inl (cA 0, 10, .inl ff)), (a6, .inl (cA 0, 10, .inl fd))] : va_W) ++ memW cA q fn6 fn7 fn8 fn9 fn10 fn11) H := ⟨hP, hD⟩
      refine lv_aload_n hx hb dX9_setRate_38 rfl (lv_at hl 0 rfl) ?_
      refine va_get (D := D) (ci := 10) (v := .ref a0) (C := RX9) (T := TX9) (N := 9) hx hb hts inX9 hown hK hP 0 rfl rfl 5 (by decide) (hts (.fieldLink RX9 35 "EscrowDesk" "account" "LEscrowDesk$Account;") (by decide +kernel)) (fun _ h9 => h9) rfl dX9_setRate_39 ?_
      refine va_getN (D := D) (ci := 4) (v := .int i15) (C := RX0) (T := TX0) (N := 20) hx hb hts inX0 hown hK hP 3 rfl rfl 15 (by decide) (hC.f (A := _) (a := RX9) (i := 299) (b := "EscrowDesk$Account") (n := "rate") (d := "I") (x := "EscrowDesk") (by decide +kernel)) (fun _ h9 => h9) rfl dX9_setRate_42 ?_
      refine lv_istore_n (lv' := [(3, .int i15), (0, .ref h0), (1, .int i), (2, .int j)]) hx hb dX9_setRate_45 rfl hl (by decide) rfl (fun ls hl => ?_)
      refine lv_aload_n hx hb dX9_setRate_46 rfl (lv_at hl 1 rfl) ?_
      refine va_get (D := D) (ci := 10) (v := .ref a0) (C := RX9) (T := TX9) (N := 9) hx hb hts inX9 hown hK hP 0 rfl rfl 5 (by decide) (hts (.fieldLink RX9 35 "EscrowDesk" "account" "LEscrowDesk$Account;") (by decide +kernel)) (fun _ h9 => h9) rfl dX9_setRate_47 ?_
      refine lv_iload_n hx hb dX9_setRate_50 rfl (lv_at hl 2 rfl) ?_
      refine va_putN (D := D) (ci := 4) (v := .int i) (ty := .int) (C := RX0) (T := TX0) (N := 20) hx hb hts inX0 tyX0 tyX0_ok nmX0 hown hK hP hD hS 3 rfl rfl 15 (by decide) (hC.f (A := _) (a := RX9) (i := 299) (b := "EscrowDesk$Account") (n := "rate") (d := "I") (x := "EscrowDesk") (by decide +kernel)) (fun _ h9 => h9) rfl (by decide +kernel) rfl rfl (Nat.le_of_ble_eq_true rfl) dX9_setRate_51 (fun H locs hP hD hS => ?_)
      obtain ⟨hP, hD⟩ : PDq D A (([(oX9 h0 b0 (nI nb) p0 u0 r0 a0 t0 s0 o0), (s0, .inr (5, [.ref s1, .int (nI qn4), .int (nI qn5)])), (s1, .inl (cA 5, 10, .inr (.inr (.inr (.inr FR))))), (oX0 a0 p0 a1 a3 a4 a5 a6 i6 i7 i8 i9 i10 i11 i12 i13 i14 i i16 i17 i18 i19), (a1, .inr (6, [.ref a2, .int (nI nx), .int (nI kp)])), (a2, .inl (cA 0, 240, .inl fr)), (a3, .inl (cA 0, 10, .inl fs)), (a4, .inl (cA 0, 10, .inl fp)), (a5, .inl (cA 0, 10, .inl ff)), (a6, .inl (cA 0, 10, .inl fd))] : va_W) ++ memW cA q fn6 fn7 fn8 fn9 fn10 fn11) H := ⟨hP, hD⟩
      refine lv_aload_n hx hb dX9_setRate_54 rfl (lv_at hl 1 rfl) ?_
      refine va_get (D := D) (ci := 10) (v := .ref a0) (C := RX9) (T := TX9) (N := 9) hx hb hts inX9 hown hK hP 0 rfl rfl 5 (by decide) (hts (.fieldLink RX9 35 "EscrowDesk" "account" "LEscrowDesk$Account;") (by decide +kernel)) (fun _ h9 => h9) rfl dX9_setRate_55 ?_
      refine lv_iload_n hx hb dX9_setRate_58 rfl (lv_at hl 3 rfl) ?_
      refine va_putN (D := D) (ci := 4) (v := .int j) (ty := .int) (C := RX0) (T := TX0) (N := 20) hx hb hts inX0 tyX0 tyX0_ok nmX0 hown hK hP hD hS 3 rfl rfl 16 (by decide) (hC.f (A := _) (a := RX9) (i := 302) (b := "EscrowDesk$Account") (n := "basis") (d := "I") (x := "EscrowDesk") (by decide +kernel)) (fun _ h9 => h9) rfl (by decide +kernel) rfl rfl (Nat.le_of_ble_eq_true rfl) dX9_setRate_59 (fun H locs hP hD hS => ?_)
      obtain ⟨hP, hD⟩ : PDq D A (([(oX9 h0 b0 (nI nb) p0 u0 r0 a0 t0 s0 o0), (s0, .inr (5, [.ref s1, .int (nI qn4), .int (nI qn5)])), (s1, .inl (cA 5, 10, .inr (.inr (.inr (.inr FR))))), (oX0 a0 p0 a1 a3 a4 a5 a6 i6 i7 i8 i9 i10 i11 i12 i13 i14 i j i17 i18 i19), (a1, .inr (6, [.ref a2, .int (nI nx), .int (nI kp)])), (a2, .inl (cA 0, 240, .inl fr)), (a3, .inl (cA 0, 10, .inl fs)), (a4, .inl (cA 0, 10, .inl fp)), (a5, .inl (cA 0, 10, .inl ff)), (a6, .inl (cA 0, 10, .inl fd))] : va_W) ++ memW cA q fn6 fn7 fn8 fn9 fn10 fn11) H := ⟨hP, hD⟩
      refine lv_iload_n hx hb dX9_setRate_62 rfl (lv_at hl 0 rfl) ?_
      have hP9 := hP.by (ws' := (([(oX9 h0 b0 (nI nb) p0 u0 r0 a0 t0 s0 o0), (s0, .inr (5, [.ref s1, .int (nI qn4), .int (nI qn5)])), (s1, .inl (cA 5, 10, .inr (.inr (.inr (.inr FR))))), (oX0 a0 p0 a1 a3 a4 a5 a6 i6 i7 i8 i9 i10 i11 i12 i13 i14 i j i17 i18 i19), (a1, .inr (6, [.ref a2, .int (nI nx), .int (nI kp)])), (a2, .inl (cA 0, 240, .inl fr)), (a3, .inl (cA 0, 10, .inl fs)), (a4, .inl (cA 0, 10, .inl fp)), (a5, .inl (cA 0, 10, .inl ff)), (a6, .inl (cA 0, 10, .inl fd))] : va_W) ++ memW cA q fn6 fn7 fn8 fn9 fn10 fn11)) _ (va_part [0, 1, 2, 3, 4, 5, 6, 7, 8, 9] rfl)
      have hD9 := va_D_part (cx := [(oX9 h0 b0 (nI nb) p0 u0 r0 a0 t0 s0 o0), (s0, .inr (5, [.ref s1, .int (nI qn4), .int (nI qn5)])), (s1, .inl (cA 5, 10, .inr (.inr (.inr (.inr FR))))), (oX0 a0 p0 a1 a3 a4 a5 a6 i6 i7 i8 i9 i10 i11 i12 i13 i14 i j i17 i18 i19), (a1, .inr (6, [.ref a2, .int (nI nx), .int (nI kp)])), (a2, .inl (cA 0, 240, .inl fr)), (a3, .inl (cA 0, 10, .inl fs)), (a4, .inl (cA 0, 10, .inl fp)), (a5, .inl (cA 0, 10, .inl ff)), (a6, .inl (cA 0, 10, .inl fd))]) hD [0, 1, 2, 3, 4, 5, 6, 7, 8, 9] (by decide +kernel) rfl
      refine W.widen (k := 2) (n := 12) (Nat.le_of_ble_eq_true rfl) (Nat.le_of_ble_eq_true rfl) ?_
      exact vx_ret (W.iret (v := i15) hx hb hr (fun t ht hW => ⟨⟨i15, (), rfl, trivial, qn4, qn5, fn6, fn7, fn8, fn9, fn10, fn11, i6, i7, i8, i12, i13, i14, i, j, i17, i18, i19, i9, i10, i11, nx, kp, fr, fs, fp, ff, fd, hn12, hn13, hn14, hn15, hnx, hkp, by rw [ht]; exact hP9, hD9⟩, hS.F ht⟩) hS.2.2 dX9_setRate_63)
    · skip
      have hP9 := hP.by (ws' := (([(oX9 h0 b0 (nI nb) p0 u0 r0 a0 t0 s0 o0), (s0, .inr (5, [.ref s1, .int (nI wn), .int (nI wc)])), (s1, .inl (cA 5, 10, .inr (.inr (.inr (.inr FR))))), (oX0 a0 p0 a1 a3 a4 a5 a6 i6 i7 i8 i9 i10 i11 i12 i13 i14 i15 i16 i17 i18 i19), (a1, .inr (6, [.ref a2, .int (nI nx), .int (nI kp)])), (a2, .inl (cA 0, 240, .inl fr)), (a3, .inl (cA 0, 10, .inl fs)), (a4, .inl (cA 0, 10, .inl fp)), (a5, .inl (cA 0, 10, .inl ff)), (a6, .inl (cA 0, 10, .inl fd))] : va_W) ++ memW cA q mp mi ml mn mk mf)) _ (va_part [0, 1, 2, 3, 4, 5, 6, 7, 8, 9] rfl)
      have hD9 := va_D_part (cx := [(oX9 h0 b0 (nI nb) p0 u0 r0 a0 t0 s0 o0), (s0, .inr (5, [.ref s1, .int (nI wn), .int (nI wc)])), (s1, .inl (cA 5, 10, .inr (.inr (.inr (.inr FR))))), (oX0 a0 p0 a1 a3 a4 a5 a6 i6 i7 i8 i9 i10 i11 i12 i13 i14 i15 i16 i17 i18 i19), (a1, .inr (6, [.ref a2, .int (nI nx), .int (nI kp)])), (a2, .inl (cA 0, 240, .inl fr)), (a3, .inl (cA 0, 10, .inl fs)), (a4, .inl (cA 0, 10, .inl fp)), (a5, .inl (cA 0, 10, .inl ff)), (a6, .inl (cA 0, 10, .inl fd))]) hD [0, 1, 2, 3, 4, 5, 6, 7, 8, 9] (by decide +kernel) rfl
      exact vx_throwSW (text := "no such basis") (names := ["java/lang/RuntimeException", "java/lang/Exception"]) (A := A) hx hb hl9 hown (by decide +kernel) (by decide +kernel) (hts (.classLink RX9 279 "java/lang/IllegalArgumentException") (by decide +kernel)) (hts (.initialized "java/lang/IllegalArgumentException") (by decide +kernel)) (hC.str 21 rfl) (vx_hat (B := [.castable "java/lang/IllegalArgumentException" "java/lang/IllegalArgumentException", .declares (Bundle.initS "java/lang/RuntimeException"), .declares (Bundle.initS "java/lang/Exception"), .declares (Bundle.initS "java/lang/Throwable")]) (fun w h => hts w (by first | exact (List.mem_cons_of_mem _ (List.mem_append_right _ h)) | (revert w; decide +kernel))) (by decide +kernel) (vx_c (hC.c (by decide +kernel)) (vx_c (hC.d (by decide +kernel)) (vx_c (hC.d (by decide +kernel)) (vx_c (hC.d (by decide +kernel)) vx_n))))) (by decide +kernel) hZ.1 hZ.2.1 hS (by rw [hml]; exact hl.1) dX9_setRate_16 dX9_setRate_19 dX9_setRate_20 dX9_setRate_23 dX9_setRate_26 (fun x h => (hno x h).elim) (Nat.le_of_ble_eq_true rfl) (Nat.le_of_ble_eq_true rfl) (Nat.le_of_ble_eq_true rfl) (Nat.le_of_ble_eq_true rfl) hlocks (fun t _ h1 h2 => ⟨(), trivial, ⟨rfl, hP9.kept (fun k q hq => h2 q.1 (hP9 k q hq).lt), hD9⟩, F_of hS h1 h2⟩) hS.2.2 (Nat.le_of_ble_eq_true rfl) (Nat.le_of_ble_eq_true rfl)

set_option maxHeartbeats 4000000 in
set_option maxRecDepth 100000 in
/-- payInterest -/
theorem s_payInterest (l : Launch) (D : va_G) (cA : Nat → ClassId) (sa : Nat → Nat) (h0 : Nat) (b0 : Nat) (nb : Nat) (p0 : Nat) (u0 : Nat) (r0 : Nat) (a0 : Nat) (t0 : Nat) (s0 : Nat) (o0 : Nat) (s1 : Nat) (wn : Nat) (wc : Nat) (FR : Nat → Option Nat) (q : Nat → Nat → Nat) (mp : Nat → Nat) (mi : Nat → Nat → Int32) (ml : Nat → Nat → Int64) (mn : Nat → Nat) (mk : Nat → Nat) (mf : Nat → Nat → Nat → Int32) (a1 : Nat) (a2 : Nat) (a3 : Nat) (a4 : Nat) (a5 : Nat) (a6 : Nat) (i6 : Int32) (i7 : Int32) (i8 : Int32) (i12 : Int32) (i13 : Int32) (i14 : Int32) (i15 : Int32) (i16 : Int32) (i17 : Int32) (i18 : Int32) (i19 : Int32) (i9 : Int64) (i10 : Int64) (i11 : Int64) (nx : Nat) (kp : Nat) (fr : Nat → Int32) (fs : Nat → Int32) (fp : Nat → Int32) (ff : Nat → Int32) (fd : Nat → Int32) (i : Int32) (sz : Nat) (hl9 : l.stackTraces = false) (hnx : nx < 60) (hkp : kp ≤ 60) (hwn : wn < 10) (hwc : wc ≤ 10) (hFR : FRq q FR) (hMB : MB mn mk) (hWin : Win p0 wn wc mp) : vx_Met l yX9_payInterest wsX9_payInterest ({ frames := 6, cells := 1, slots := 6, locals := 123 }) (va_Pc [.ref h0, .int i] (Wd D cA sa (([(oX9 h0 b0 (nI nb) p0 u0 r0 a0 t0 s0 o0), (s0, .inr (5, [.ref s1, .int (nI wn), .int (nI wc)])), (s1, .inl (cA 5, 10, .inr (.inr (.inr (.inr FR))))), (oX0 a0 p0 a1 a3 a4 a5 a6 i6 i7 i8 i9 i10 i11 i12 i13 i14 i15 i16 i17 i18 i19), (a1, .inr (6, [.ref a2, .int (nI nx), .int (nI kp)])), (a2, .inl (cA 0, 240, .inl fr)), (a3, .inl (cA 0, 10, .inl fs)), (a4, .inl (cA 0, 10, .inl fp)), (a5, .inl (cA 0, 10, .inl ff)), (a6, .inl (cA 0, 10, .inl fd))] : va_W) ++ memW cA q mp mi ml mn mk mf) sz)) (va_Qi (fun (r : Int32) (_ : Unit) => True) (fun (_ : Unit) t => ∃ wn2 : Nat, ∃ wc2 : Nat, ∃ mp2 : Nat → Nat, ∃ mi2 : Nat → Nat → Int32, ∃ ml2 : Nat → Nat → Int64, ∃ mn2 : Nat → Nat, ∃ mk2 : Nat → Nat, ∃ mf2 : Nat → Nat → Nat → Int32, ∃ z6 : Int32, ∃ z7 : Int32, ∃ z8 : Int32, ∃ z12 : Int32, ∃ z13 : Int32, ∃ z14 : Int32, ∃ z15 : Int32, ∃ z16 : Int32, ∃ z17 : Int32, ∃ z18 : Int32, ∃ z19 : Int32, ∃ z9 : Int64, ∃ z10 : Int64, ∃ z11 : Int64, ∃ ny : Nat, ∃ ky : Nat, ∃ zr : Nat → Int32, ∃ zs : Nat → Int32, ∃ zp : Nat → Int32, ∃ zf : Nat → Int32, ∃ zd : Nat → Int32, wn2 < 10 ∧ wc2 ≤ 10 ∧ MB mn2 mk2 ∧ Win p0 wn2 wc2 mp2 ∧ ny < 60 ∧ ky ≤ 60 ∧ Wq D (va_A (([(oX9 h0 b0 (nI nb) p0 u0 r0 a0 t0 s0 o0), (s0, .inr (5, [.ref s1, .int (nI wn), .int (nI wc)])), (s1, .inl (cA 5, 10, .inr (.inr (.inr (.inr FR))))), (oX0 a0 p0 a1 a3 a4 a5 a6 i6 i7 i8 i9 i10 i11 i12 i13 i14 i15 i16 i17 i18 i19), (a1, .inr (6, [.ref a2, .int (nI nx), .int (nI kp)])), (a2, .inl (cA 0, 240, .inl fr)), (a3, .inl (cA 0, 10, .inl fs)), (a4, .inl (cA 0, 10, .inl fp)), (a5, .inl (cA 0, 10, .inl ff)), (a6, .inl (cA 0, 10, .inl fd))] : va_W) ++ memW cA q mp mi ml mn mk mf) sz) (([(oX9 h0 b0 (nI nb) p0 u0 r0 a0 t0 s0 o0), (s0, .inr (5, [.ref s1, .int (nI wn2), .int (nI wc2)])), (s1, .inl (cA 5, 10, .inr (.inr (.inr (.inr FR))))), (oX0 a0 p0 a1 a3 a4 a5 a6 z6 z7 z8 z9 z10 z11 z12 z13 z14 z15 z16 z17 z18 z19), (a1, .inr (6, [.ref a2, .int (nI ny), .int (nI ky)])), (a2, .inl (cA 0, 240, .inl zr)), (a3, .inl (cA 0, 10, .inl zs)), (a4, .inl (cA 0, 10, .inl zp)), (a5, .inl (cA 0, 10, .inl zf)), (a6, .inl (cA 0, 10, .inl zd))] : va_W) ++ memW cA q mp2 mi2 ml2 mn2 mk2 mf2) t) (va_A (([(oX9 h0 b0 (nI nb) p0 u0 r0 a0 t0 s0 o0), (s0, .inr (5, [.ref s1, .int (nI wn), .int (nI wc)])), (s1, .inl (cA 5, 10, .inr (.inr (.inr (.inr FR))))), (oX0 a0 p0 a1 a3 a4 a5 a6 i6 i7 i8 i9 i10 i11 i12 i13 i14 i15 i16 i17 i18 i19), (a1, .inr (6, [.ref a2, .int (nI nx), .int (nI kp)])), (a2, .inl (cA 0, 240, .inl fr)), (a3, .inl (cA 0, 10, .inl fs)), (a4, .inl (cA 0, 10, .inl fp)), (a5, .inl (cA 0, 10, .inl ff)), (a6, .inl (cA 0, 10, .inl fd))] : va_W) ++ memW cA q mp mi ml mn mk mf) sz)) (vx_X (fun _ : Unit => True) (fun E _ t => (E = "java/lang/IllegalArgumentException") ∧ Wq D (va_A (([(oX9 h0 b0 (nI nb) p0 u0 r0 a0 t0 s0 o0), (s0, .inr (5, [.ref s1, .int (nI wn), .int (nI wc)])), (s1, .inl (cA 5, 10, .inr (.inr (.inr (.inr FR))))), (oX0 a0 p0 a1 a3 a4 a5 a6 i6 i7 i8 i9 i10 i11 i12 i13 i14 i15 i16 i17 i18 i19), (a1, .inr (6, [.ref a2, .int (nI nx), .int (nI kp)])), (a2, .inl (cA 0, 240, .inl fr)), (a3, .inl (cA 0, 10, .inl fs)), (a4, .inl (cA 0, 10, .inl fp)), (a5, .inl (cA 0, 10, .inl ff)), (a6, .inl (cA 0, 10, .inl fd))] : va_W) ++ memW cA q mp mi ml mn mk mf) sz) (([(oX9 h0 b0 (nI nb) p0 u0 r0 a0 t0 s0 o0), (s0, .inr (5, [.ref s1, .int (nI wn), .int (nI wc)])), (s1, .inl (cA 5, 10, .inr (.inr (.inr (.inr FR))))), (oX0 a0 p0 a1 a3 a4 a5 a6 i6 i7 i8 i9 i10 i11 i12 i13 i14 i15 i16 i17 i18 i19), (a1, .inr (6, [.ref a2, .int (nI nx), .int (nI kp)])), (a2, .inl (cA 0, 240, .inl fr)), (a3, .inl (cA 0, 10, .inl fs)), (a4, .inl (cA 0, 10, .inl fp)), (a5, .inl (cA 0, 10, .inl ff)), (a6, .inl (cA 0, 10, .inl fd))] : va_W) ++ memW cA q mp mi ml mn mk mf) t) (va_A (([(oX9 h0 b0 (nI nb) p0 u0 r0 a0 t0 s0 o0), (s0, .inr (5, [.ref s1, .int (nI wn), .int (nI wc)])), (s1, .inl (cA 5, 10, .inr (.inr (.inr (.inr FR))))), (oX0 a0 p0 a1 a3 a4 a5 a6 i6 i7 i8 i9 i10 i11 i12 i13 i14 i15 i16 i17 i18 i19), (a1, .inr (6, [.ref a2, .int (nI nx), .int (nI kp)])), (a2, .inl (cA 0, 240, .inl fr)), (a3, .inl (cA 0, 10, .inl fs)), (a4, .inl (cA 0, 10, .inl fp)), (a5, .inl (cA 0, 10, .inl ff)), (a6, .inl (cA 0, 10, .inl fd))] : va_W) ++ memW cA q mp mi ml mn mk mf) sz)) 1 6 (va_A (([(oX9 h0 b0 (nI nb) p0 u0 r0 a0 t0 s0 o0), (s0, .inr (5, [.ref s1, .int (nI wn), .int (nI wc)])), (s1, .inl (cA 5, 10, .inr (.inr (.inr (.inr FR))))), (oX0 a0 p0 a1 a3 a4 a5 a6 i6 i7 i8 i9 i10 i11 i12 i13 i14 i15 i16 i17 i18 i19), (a1, .inr (6, [.ref a2, .int (nI nx), .int (nI kp)])), (a2, .inl (cA 0, 240, .inl fr)), (a3, .inl (cA 0, 10, .inl fs)), (a4, .inl (cA 0, 10, .inl fp)), (a5, .inl (cA 0, 10, .inl ff)), (a6, .inl (cA 0, 10, .inl fd))] : va_W) ++ memW cA q mp mi ml mn mk mf) sz) := by
  refine vx_ofW (cc := cX9_payInterest) (maxL := 2) (ret := (some .int)) (by decide) rfl ?_
  intro p e s m args below meth c s₁ B hml hno hv
  obtain ⟨rfl, hsz, hP, hK, hD0, hC, hZ⟩ := hv
  have hx := B.exec
  have hb := B.bytes
  have hr := B.returns
  have hts := atoms_spec (ws := wsX9_payInterest) B.pre
  have hown : s.vm.findClass RX9 = some m.cls := findClass_of_methodNamed B.named
  have hlocks := B.notSynchronized
  subst hsz
  have hD := hD0.self (sz := s.heap.size)
  generalize hAe : va_A (([(oX9 h0 b0 (nI nb) p0 u0 r0 a0 t0 s0 o0), (s0, .inr (5, [.ref s1, .int (nI wn), .int (nI wc)])), (s1, .inl (cA 5, 10, .inr (.inr (.inr (.inr FR))))), (oX0 a0 p0 a1 a3 a4 a5 a6 i6 i7 i8 i9 i10 i11 i12 i13 i14 i15 i16 i17 i18 i19), (a1, .inr (6, [.ref a2, .int (nI nx), .int (nI kp)])), (a2, .inl (cA 0, 240, .inl fr)), (a3, .inl (cA 0, 10, .inl fs)), (a4, .inl (cA 0, 10, .inl fp)), (a5, .inl (cA 0, 10, .inl ff)), (a6, .inl (cA 0, 10, .inl fd))] : va_W) ++ memW cA q mp mi ml mn mk mf) s.heap.size = A at hD hZ ⊢
  have hA : ∀ q : Nat, s.heap.size ≤ q → A q := fun q h => by rw [← hAe]; exact Or.inr h
  have hS : va_S A s.heap s.heap [] := va_S.rf
  have hP : va_P D vwCl (([(oX9 h0 b0 (nI nb) p0 u0 r0 a0 t0 s0 o0), (s0, .inr (5, [.ref s1, .int (nI wn), .int (nI wc)])), (s1, .inl (cA 5, 10, .inr (.inr (.inr (.inr FR))))), (oX0 a0 p0 a1 a3 a4 a5 a6 i6 i7 i8 i9 i10 i11 i12 i13 i14 i15 i16 i17 i18 i19), (a1, .inr (6, [.ref a2, .int (nI nx), .int (nI kp)])), (a2, .inl (cA 0, 240, .inl fr)), (a3, .inl (cA 0, 10, .inl fs)), (a4, .inl (cA 0, 10, .inl fp)), (a5, .inl (cA 0, 10, .inl ff)), (a6, .inl (cA 0, 10, .inl fd))] : va_W) ++ memW cA q mp mi ml mn mk mf) s.heap := hP
  have hl := lv_entry ([.ref h0, .int i]) (n := 2) (Nat.le_of_ble_eq_true rfl)
  rw [lg_entry_eq]
  generalize (lg_sl ([.ref h0, .int i]) ++ List.replicate (2 - (lg_sl ([.ref h0, .int i])).length) Slot.unset).toArray = ls at hl ⊢
  have hl : lv_has ls 2 [(0, .ref h0), (1, .int i)] := hl
  have inX0 : ∀ w ∈ u_ws RX0 TX0 20, w ∈ wsX9_payInterest := by decide +kernel
  have inX9 : ∀ w ∈ u_ws RX9 TX9 9, w ∈ wsX9_payInterest := by decide +kernel
  refine lv_iload_n hx hb dX9_payInterest_0 rfl (lv_at hl 1 rfl) ?_
  refine lv_iconst (v := 1) hx hb dX9_payInterest_1 (by decide) ?_
  refine lv_icmp_lt (tgt := 18) hx hb dX9_payInterest_2 (by decide) (fun c1 => ?_) (fun c1 => ?_)
  · skip
    have hP9 := hP.by (ws' := (([(oX9 h0 b0 (nI nb) p0 u0 r0 a0 t0 s0 o0), (s0, .inr (5, [.ref s1, .int (nI wn), .int (nI wc)])), (s1, .inl (cA 5, 10, .inr (.inr (.inr (.inr FR))))), (oX0 a0 p0 a1 a3 a4 a5 a6 i6 i7 i8 i9 i10 i11 i12 i13 i14 i15 i16 i17 i18 i19), (a1, .inr (6, [.ref a2, .int (nI nx), .int (nI kp)])), (a2, .inl (cA 0, 240, .inl fr)), (a3, .inl (cA 0, 10, .inl fs)), (a4, .inl (cA 0, 10, .inl fp)), (a5, .inl (cA 0, 10, .inl ff)), (a6, .inl (cA 0, 10, .inl fd))] : va_W) ++ memW cA q mp mi ml mn mk mf)) _ (va_part [0, 1, 2, 3, 4, 5, 6, 7, 8, 9] rfl)
    have hD9 := va_D_part (cx := [(oX9 h0 b0 (nI nb) p0 u0 r0 a0 t0 s0 o0), (s0, .inr (5, [.ref s1, .int (nI wn), .int (nI wc)])), (s1, .inl (cA 5, 10, .inr (.inr (.inr (.inr FR))))), (oX0 a0 p0 a1 a3 a4 a5 a6 i6 i7 i8 i9 i10 i11 i12 i13 i14 i15 i16 i17 i18 i19), (a1, .inr (6, [.ref a2, .int (nI nx), .int (nI kp)])), (a2, .inl (cA 0, 240, .inl fr)), (a3, .inl (cA 0, 10, .inl fs)), (a4, .inl (cA 0, 10, .inl fp)), (a5, .inl (cA 0, 10, .inl ff)), (a6, .inl (cA 0, 10, .inl fd))]) hD [0, 1, 2, 3, 4, 5, 6, 7, 8, 9] (by decide +kernel) rfl
    exact vx_throwSW (text := "the interest pot does not hold such an amount") (names := ["java/lang/RuntimeException", "java/lang/Exception"]) (A := A) hx hb hl9 hown (by decide +kernel) (by decide +kernel) (hts (.classLink RX9 279 "java/lang/IllegalArgumentException") (by decide +kernel)) (hts (.initialized "java/lang/IllegalArgumentException") (by decide +kernel)) (hC.str 20 rfl) (vx_hat (B := [.castable "java/lang/IllegalArgumentException" "java/lang/IllegalArgumentException", .declares (Bundle.initS "java/lang/RuntimeException"), .declares (Bundle.initS "java/lang/Exception"), .declares (Bundle.initS "java/lang/Throwable")]) (fun w h => hts w (by first | exact (List.mem_cons_of_mem _ (List.mem_append_right _ h)) | (revert w; decide +kernel))) (by decide +kernel) (vx_c (hC.c (by decide +kernel)) (vx_c (hC.d (by decide +kernel)) (vx_c (hC.d (by decide +kernel)) (vx_c (hC.d (by decide +kernel)) vx_n))))) (by decide +kernel) hZ.1 hZ.2.1 hS (by rw [hml]; exact hl.1) dX9_payInterest_18 dX9_payInterest_21 dX9_payInterest_22 dX9_payInterest_25 dX9_payInterest_28 (fun x h => (hno x h).elim) (Nat.le_of_ble_eq_true rfl) (Nat.le_of_ble_eq_true rfl) (Nat.le_of_ble_eq_true rfl) (Nat.le_of_ble_eq_true rfl) hlocks (fun t _ h1 h2 => ⟨(), trivial, ⟨rfl, hP9.kept (fun k q hq => h2 q.1 (hP9 k q hq).lt), hD9⟩, F_of hS h1 h2⟩) hS.2.2 (Nat.le_of_ble_eq_true rfl) (Nat.le_of_ble_eq_true rfl)
  · skip
    refine lv_iload_n hx hb dX9_payInterest_5 rfl (lv_at hl 1 rfl) ?_
    refine lv_i2l (v := (i.toInt64)) hx hb dX9_payInterest_6 rfl ?_
    refine lv_aload_n hx hb dX9_payInterest_7 rfl (lv_at hl 0 rfl) ?_
    refine va_get (D := D) (ci := 10) (v := .ref a0) (C := RX9) (T := TX9) (N := 9) hx hb hts inX9 hown hK hP 0 rfl rfl 5 (by decide) (hts (.fieldLink RX9 35 "EscrowDesk" "account" "LEscrowDesk$Account;") (by decide +kernel)) (fun _ h9 => h9) rfl dX9_payInterest_8 ?_
    refine va_getN (D := D) (ci := 4) (v := .long i9) (C := RX0) (T := TX0) (N := 20) hx hb hts inX0 hown hK hP 3 rfl rfl 9 (by decide) (hC.f (A := _) (a := RX9) (i := 100) (b := "EscrowDesk$Account") (n := "interestPot") (d := "J") (x := "EscrowDesk") (by decide +kernel)) (fun _ h9 => h9) rfl dX9_payInterest_11 ?_
    refine W.lcmp hx hb dX9_payInterest_14 ?_
    refine lv_if_le (tgt := 29) hx hb dX9_payInterest_15 (by decide) (fun c2 => ?_) (fun c2 => ?_)
    · skip
      refine lv_aload_n hx hb dX9_payInterest_29 rfl (lv_at hl 0 rfl) ?_
      refine va_get (D := D) (ci := 10) (v := .ref s0) (C := RX9) (T := TX9) (N := 9) hx hb hts inX9 hown hK hP 0 rfl rfl 7 (by decide) (hts (.fieldLink RX9 45 "EscrowDesk" "history" "LEscrowDesk$History;") (by decide +kernel)) (fun _ h9 => h9) rfl dX9_payInterest_30 ?_
      refine lv_aload_n hx hb dX9_payInterest_33 rfl (lv_at hl 0 rfl) ?_
      refine va_get (D := D) (ci := 10) (v := .ref a0) (C := RX9) (T := TX9) (N := 9) hx hb hts inX9 hown hK hP 0 rfl rfl 5 (by decide) (hts (.fieldLink RX9 35 "EscrowDesk" "account" "LEscrowDesk$Account;") (by decide +kernel)) (fun _ h9 => h9) rfl dX9_payInterest_34 ?_
      have hPc := hP.by (ws' := (([(s0, .inr (5, [.ref s1, .int (nI wn), .int (nI wc)])), (s1, .inl (cA 5, 10, .inr (.inr (.inr (.inr FR))))), (oX0 a0 p0 a1 a3 a4 a5 a6 i6 i7 i8 i9 i10 i11 i12 i13 i14 i15 i16 i17 i18 i19), (a1, .inr (6, [.ref a2, .int (nI nx), .int (nI kp)])), (a2, .inl (cA 0, 240, .inl fr)), (a3, .inl (cA 0, 10, .inl fs)), (a4, .inl (cA 0, 10, .inl fp)), (a5, .inl (cA 0, 10, .inl ff)), (a6, .inl (cA 0, 10, .inl fd))] : va_W) ++ memW cA q mp mi ml mn mk mf)) _ (va_part [1, 2, 3, 4, 5, 6, 7, 8, 9] rfl)
      have hDc := va_D_part (cx := [(s0, .inr (5, [.ref s1, .int (nI wn), .int (nI wc)])), (s1, .inl (cA 5, 10, .inr (.inr (.inr (.inr FR))))), (oX0 a0 p0 a1 a3 a4 a5 a6 i6 i7 i8 i9 i10 i11 i12 i13 i14 i15 i16 i17 i18 i19), (a1, .inr (6, [.ref a2, .int (nI nx), .int (nI kp)])), (a2, .inl (cA 0, 240, .inl fr)), (a3, .inl (cA 0, 10, .inl fs)), (a4, .inl (cA 0, 10, .inl fp)), (a5, .inl (cA 0, 10, .inl ff)), (a6, .inl (cA 0, 10, .inl fd))]) hD [1, 2, 3, 4, 5, 6, 7, 8, 9] (by decide +kernel) rfl
      have hFc := va_freeP (cx := [(s0, .inr (5, [.ref s1, .int (nI wn), .int (nI wc)])), (s1, .inl (cA 5, 10, .inr (.inr (.inr (.inr FR))))), (oX0 a0 p0 a1 a3 a4 a5 a6 i6 i7 i8 i9 i10 i11 i12 i13 i14 i15 i16 i17 i18 i19), (a1, .inr (6, [.ref a2, .int (nI nx), .int (nI kp)])), (a2, .inl (cA 0, 240, .inl fr)), (a3, .inl (cA 0, 10, .inl fs)), (a4, .inl (cA 0, 10, .inl fp)), (a5, .inl (cA 0, 10, .inl ff)), (a6, .inl (cA 0, 10, .inl fd))]) hD hS hA [1, 2, 3, 4, 5, 6, 7, 8, 9] rfl
      refine va_callv (va_runV (As := [.ref a0]) (rest := []) ⟨hx, hb, hml, hown, hts⟩ (s_remember l D cA sa s0 s1 wn wc FR q mp mi ml mn mk mf a0 a1 a2 a3 a4 a5 a6 p0 i6 i7 i8 i12 i13 i14 i15 i16 i17 i18 i19 i9 i10 i11 nx kp fr fs fp ff fd s.heap.size hnx hkp hwn hwc hFR hMB hWin) (cwV 1 hts gX9_payInterest_X1_remember rfl rfl rfl (by decide +kernel) ⟨(Nat.le_of_ble_eq_true rfl), (Nat.le_of_ble_eq_true rfl)⟩) ⟨Wd.blind, va_recv hK hPc (ci := 5) (q0 := 0) rfl rfl, fun U hU hW => ⟨rfl, Wd.call hPc hDc hK hC hZ hS hFc U hU hW⟩⟩ rfl rfl hl.1 rfl (lv_room (Nat.le_of_ble_eq_true rfl)) dX9_payInterest_37 ⟨(Nat.le_of_ble_eq_true rfl), (Nat.le_of_ble_eq_true rfl)⟩) hS (fun q _ h => hFc q h) hFc (fun u t H1 locs ht hvm hw hB hz1 hk1 hS => ?_)
      obtain ⟨qn3, qn4, fn5, fn6, fn7, fn8, fn9, fn10, hn11, hn12, hn13, hn14, hP1, hD1⟩ := hB
      rw [ht] at hP1
      obtain ⟨hP, hD⟩ := va_joinP (wr := [(oX9 h0 b0 (nI nb) p0 u0 r0 a0 t0 s0 o0)]) (rx := [(s0, .inr (5, [.ref s1, .int (nI qn3), .int (nI qn4)])), (s1, .inl (cA 5, 10, .inr (.inr (.inr (.inr FR))))), (oX0 a0 p0 a1 a3 a4 a5 a6 i6 i7 i8 i9 i10 i11 i12 i13 i14 i15 i16 i17 i18 i19), (a1, .inr (6, [.ref a2, .int (nI nx), .int (nI kp)])), (a2, .inl (cA 0, 240, .inl fr)), (a3, .inl (cA 0, 10, .inl fs)), (a4, .inl (cA 0, 10, .inl fp)), (a5, .inl (cA 0, 10, .inl ff)), (a6, .inl (cA 0, 10, .inl fd))]) (pl1 := memW cA q fn5 fn6 fn7 fn8 fn9 fn10) hP hD [1, 2, 3, 4, 5, 6, 7, 8, 9] [0] rfl rfl (by decide) (by decide +kernel) hk1 hFc hP1 hD1
      generalize H1 = H at hP hS ⊢
      obtain ⟨hP, hD⟩ : PDq D A (([(oX9 h0 b0 (nI nb) p0 u0 r0 a0 t0 s0 o0), (s0, .inr (5, [.ref s1, .int (nI qn3), .int (nI qn4)])), (s1, .inl (cA 5, 10, .inr (.inr (.inr (.inr FR))))), (oX0 a0 p0 a1 a3 a4 a5 a6 i6 i7 i8 i9 i10 i11 i12 i13 i14 i15 i16 i17 i18 i19), (a1, .inr (6, [.ref a2, .int (nI nx), .int (nI kp)])), (a2, .inl (cA 0, 240, .inl fr)), (a3, .inl (cA 0, 10, .inl fs)), (a4, .inl (cA 0, 10, .inl fp)), (a5, .inl (cA 0, 10, .inl ff)), (a6, .inl (cA 0, 10, .inl fd))] : va_W) ++ memW cA q fn5 fn6 fn7 fn8 fn9 fn10) H := ⟨hP, hD⟩
      refine lv_aload_n hx hb dX9_payInterest_40 rfl (lv_at hl 0 rfl) ?_
      refine va_get (D := D) (ci := 10) (v := .ref a0) (C := RX9) (T := TX9) (N := 9) hx hb hts inX9 hown hK hP 0 rfl rfl 5 (by decide) (hts (.fieldLink RX9 35 "EscrowDesk" "account" "LEscrowDesk$Account;") (by decide +kernel)) (fun _ h9 => h9) rfl dX9_payInterest_41 ?_
      refine lv_iload_n hx hb dX9_payInterest_44 rfl (lv_at hl 1 rfl) ?_
      obtain ⟨hPc, hDc, hFc⟩ := PDq.cut (wc := [(oX0 a0 p0 a1 a3 a4 a5 a6 i6 i7 i8 i9 i10 i11 i12 i13 i14 i15 i16 i17 i18 i19), (a1, .inr (6, [.ref a2, .int (nI nx), .int (nI kp)])), (a2, .inl (cA 0, 240, .inl fr))]) (cq_P hP) (cq_D hD) hS hA [3, 4, 5] (by decide) rfl
      refine va_callv (va_runV (As := [.int i]) (rest := []) ⟨hx, hb, hml, hown, hts⟩ (s_payOut l D cA sa a0 a1 a2 a3 a4 a5 a6 p0 i6 i7 i8 i12 i13 i14 i15 i16 i17 i18 i19 i9 i10 i11 nx kp fr i H.size hnx hkp) (cwV 1 hts gX9_payInterest_X0_payOutInterest rfl rfl rfl (by decide +kernel) ⟨(Nat.le_of_ble_eq_true rfl), (Nat.le_of_ble_eq_true rfl)⟩) ⟨Wd.blind, va_recv hK hPc (ci := 4) (q0 := 0) rfl rfl, fun U hU hW => ⟨rfl, Wd.call hPc hDc hK hC hZ hS hFc U hU hW⟩⟩ rfl rfl hl.1 rfl (lv_room (Nat.le_of_ble_eq_true rfl)) dX9_payInterest_45 ⟨(Nat.le_of_ble_eq_true rfl), (Nat.le_of_ble_eq_true rfl)⟩) hS (fun q _ h => hFc q h) hFc (fun u t H1 locs ht hvm hw hB hz1 hk1 hS => ?_)
      obtain ⟨zn15, zn16, zn17, zn18, zn19, zn20, zn21, zn22, zn23, zn24, zn25, zn26, zn27, zn28, qn29, qn30, fn31, hn32, hn33, hP1, hD1⟩ := hB
      rw [ht] at hP1
      obtain ⟨hP, hD⟩ := PDq.joinQ (w := [(oX9 h0 b0 (nI nb) p0 u0 r0 a0 t0 s0 o0), (s0, .inr (5, [.ref s1, .int (nI qn3), .int (nI qn4)])), (s1, .inl (cA 5, 10, .inr (.inr (.inr (.inr FR))))), (a3, .inl (cA 0, 10, .inl fs)), (a4, .inl (cA 0, 10, .inl fp)), (a5, .inl (cA 0, 10, .inl ff)), (a6, .inl (cA 0, 10, .inl fd)), (oX0 a0 p0 a1 a3 a4 a5 a6 zn15 zn16 zn17 zn26 zn27 zn28 zn18 zn19 zn20 zn21 zn22 zn23 zn24 zn25), (a1, .inr (6, [.ref a2, .int (nI qn29), .int (nI qn30)])), (a2, .inl (cA 0, 240, .inl fn31))]) 7 hP hD [3, 4, 5] [0, 1, 2, 6, 7, 8, 9] rfl rfl (by decide) (by decide +kernel) hk1 hFc hP1 hD1 rfl
      generalize H1 = H at hP hS ⊢
      refine lv_aload_n hx hb dX9_payInterest_48 rfl (lv_at hl 0 rfl) ?_
      refine va_get (D := D) (ci := 10) (v := .ref a0) (C := RX9) (T := TX9) (N := 9) hx hb hts inX9 hown hK hP 0 rfl rfl 5 (by decide) (hts (.fieldLink RX9 35 "EscrowDesk" "account" "LEscrowDesk$Account;") (by decide +kernel)) (fun _ h9 => h9) rfl dX9_payInterest_49 ?_
      refine va_getN (D := D) (ci := 4) (v := .long zn26) (C := RX0) (T := TX0) (N := 20) hx hb hts inX0 hown hK hP 7 rfl rfl 9 (by decide) (hC.f (A := _) (a := RX9) (i := 100) (b := "EscrowDesk$Account") (n := "interestPot") (d := "J") (x := "EscrowDesk") (by decide +kernel)) (fun _ h9 => h9) rfl dX9_payInterest_52 ?_
      refine lv_l2i (v := zn26.toInt32) hx hb dX9_payInterest_55 rfl ?_
      refine lv_topi (fun yn34 eyn34 => ?_)
      have hP9 := hP.by (ws' := (([(oX9 h0 b0 (nI nb) p0 u0 r0 a0 t0 s0 o0), (s0, .inr (5, [.ref s1, .int (nI qn3), .int (nI qn4)])), (s1, .inl (cA 5, 10, .inr (.inr (.inr (.inr FR))))), (oX0 a0 p0 a1 a3 a4 a5 a6 zn15 zn16 zn17 zn26 zn27 zn28 zn18 zn19 zn20 zn21 zn22 zn23 zn24 zn25), (a1, .inr (6, [.ref a2, .int (nI qn29), .int (nI qn30)])), (a2, .inl (cA 0, 240, .inl fn31)), (a3, .inl (cA 0, 10, .inl fs)), (a4, .inl (cA 0, 10, .inl fp)), (a5, .inl (cA 0, 10, .inl ff)), (a6, .inl (cA 0, 10, .inl fd))] : va_W) ++ memW cA q fn5 fn6 fn7 fn8 fn9 fn10)) _ (va_part [0, 1, 2, 7, 8, 9, 3, 4, 5, 6] rfl)
      have hD9 := va_D_part (cx := [(oX9 h0 b0 (nI nb) p0 u0 r0 a0 t0 s0 o0), (s0, .inr (5, [.ref s1, .int (nI qn3), .int (nI qn4)])), (s1, .inl (cA 5, 10, .inr (.inr (.inr (.inr FR))))), (oX0 a0 p0 a1 a3 a4 a5 a6 zn15 zn16 zn17 zn26 zn27 zn28 zn18 zn19 zn20 zn21 zn22 zn23 zn24 zn25), (a1, .inr (6, [.ref a2, .int (nI qn29), .int (nI qn30)])), (a2, .inl (cA 0, 240, .inl fn31)), (a3, .inl (cA 0, 10, .inl fs)), (a4, .inl (cA 0, 10, .inl fp)), (a5, .inl (cA 0, 10, .inl ff)), (a6, .inl (cA 0, 10, .inl fd))]) hD [0, 1, 2, 7, 8, 9, 3, 4, 5, 6] (by decide +kernel) rfl
      refine W.widen (k := 1) (n := 6) (Nat.le_of_ble_eq_true rfl) (Nat.le_of_ble_eq_true rfl) ?_
      exact vx_ret (W.iret (v := yn34) hx hb hr (fun t ht hW => ⟨⟨yn34, (), rfl, trivial, qn3, qn4, fn5, fn6, fn7, fn8, fn9, fn10, zn15, zn16, zn17, zn18, zn19, zn20, zn21, zn22, zn23, zn24, zn25, zn26, zn27, zn28, qn29, qn30, fn31, fs, fp, ff, fd, hn11, hn12, hn13, hn14, hn32, hn33, by rw [ht]; exact hP9, hD9⟩, hS.F ht⟩) hS.2.2 dX9_payInterest_56)
    · skip
      have hP9 := hP.by (ws' := (([(oX9 h0 b0 (nI nb) p0 u0 r0 a0 t0 s0 o0), (s0, .inr (5, [.ref s1, .int (nI wn), .int (nI wc)])), (s1, .inl (cA 5, 10, .inr (.inr (.inr (.inr FR))))), (oX0 a0 p0 a1 a3 a4 a5 a6 i6 i7 i8 i9 i10 i11 i12 i13 i14 i15 i16 i17 i18 i19), (a1, .inr (6, [.ref a2, .int (nI nx), .int (nI kp)])), (a2, .inl (cA 0, 240, .inl fr)), (a3, .inl (cA 0, 10, .inl fs)), (a4, .inl (cA 0, 10, .inl fp)), (a5, .inl (cA 0, 10, .inl ff)), (a6, .inl (cA 0, 10, .inl fd))] : va_W) ++ memW cA q mp mi ml mn mk mf)) _ (va_part [0, 1, 2, 3, 4, 5, 6, 7, 8, 9] rfl)
      have hD9 := va_D_part (cx := [(oX9 h0 b0 (nI nb) p0 u0 r0 a0 t0 s0 o0), (s0, .inr (5, [.ref s1, .int (nI wn), .int (nI wc)])), (s1, .inl (cA 5, 10, .inr (.inr (.inr (.inr FR))))), (oX0 a0 p0 a1 a3 a4 a5 a6 i6 i7 i8 i9 i10 i11 i12 i13 i14 i15 i16 i17 i18 i19), (a1, .inr (6, [.ref a2, .int (nI nx), .int (nI kp)])), (a2, .inl (cA 0, 240, .inl fr)), (a3, .inl (cA 0, 10, .inl fs)), (a4, .inl (cA 0, 10, .inl fp)), (a5, .inl (cA 0, 10, .inl ff)), (a6, .inl (cA 0, 10, .inl fd))]) hD [0, 1, 2, 3, 4, 5, 6, 7, 8, 9] (by decide +kernel) rfl
      exact vx_throwSW (text := "the interest pot does not hold such an amount") (names := ["java/lang/RuntimeException", "java/lang/Exception"]) (A := A) hx hb hl9 hown (by decide +kernel) (by decide +kernel) (hts (.classLink RX9 279 "java/lang/IllegalArgumentException") (by decide +kernel)) (hts (.initialized "java/lang/IllegalArgumentException") (by decide +kernel)) (hC.str 20 rfl) (vx_hat (B := [.castable "java/lang/IllegalArgumentException" "java/lang/IllegalArgumentException", .declares (Bundle.initS "java/lang/RuntimeException"), .declares (Bundle.initS "java/lang/Exception"), .declares (Bundle.initS "java/lang/Throwable")]) (fun w h => hts w (by first | exact (List.mem_cons_of_mem _ (List.mem_append_right _ h)) | (revert w; decide +kernel))) (by decide +kernel) (vx_c (hC.c (by decide +kernel)) (vx_c (hC.d (by decide +kernel)) (vx_c (hC.d (by decide +kernel)) (vx_c (hC.d (by decide +kernel)) vx_n))))) (by decide +kernel) hZ.1 hZ.2.1 hS (by rw [hml]; exact hl.1) dX9_payInterest_18 dX9_payInterest_21 dX9_payInterest_22 dX9_payInterest_25 dX9_payInterest_28 (fun x h => (hno x h).elim) (Nat.le_of_ble_eq_true rfl) (Nat.le_of_ble_eq_true rfl) (Nat.le_of_ble_eq_true rfl) (Nat.le_of_ble_eq_true rfl) hlocks (fun t _ h1 h2 => ⟨(), trivial, ⟨rfl, hP9.kept (fun k q hq => h2 q.1 (hP9 k q hq).lt), hD9⟩, F_of hS h1 h2⟩) hS.2.2 (Nat.le_of_ble_eq_true rfl) (Nat.le_of_ble_eq_true rfl)

set_option maxHeartbeats 4000000 in
set_option maxRecDepth 100000 in
/-- close -/
theorem s_close (l : Launch) (D : va_G) (cA : Nat → ClassId) (sa : Nat → Nat) (h0 : Nat) (b0 : Nat) (nb : Nat) (p0 : Nat) (u0 : Nat) (r0 : Nat) (a0 : Nat) (t0 : Nat) (s0 : Nat) (o0 : Nat) (s1 : Nat) (wn : Nat) (wc : Nat) (FR : Nat → Option Nat) (q : Nat → Nat → Nat) (mp : Nat → Nat) (mi : Nat → Nat → Int32) (ml : Nat → Nat → Int64) (mn : Nat → Nat) (mk : Nat → Nat) (mf : Nat → Nat → Nat → Int32) (a1 : Nat) (a2 : Nat) (a3 : Nat) (a4 : Nat) (a5 : Nat) (a6 : Nat) (i6 : Int32) (i7 : Int32) (i8 : Int32) (i12 : Int32) (i13 : Int32) (i14 : Int32) (i15 : Int32) (i16 : Int32) (i17 : Int32) (i18 : Int32) (i19 : Int32) (i9 : Int64) (i10 : Int64) (i11 : Int64) (nx : Nat) (kp : Nat) (fr : Nat → Int32) (fs : Nat → Int32) (fp : Nat → Int32) (ff : Nat → Int32) (fd : Nat → Int32) (p1 : Nat) (p2 : Nat) (p3 : Nat) (p4 : Nat) (p5 : Nat) (p6 : Nat) (p7 : Nat) (p8 : Nat) (p9 : Nat) (cn : Nat) (pq : Nat) (nd : Nat) (sc : Nat) (pr : Int32) (pb : Int32) (pe : Int32) (pg : Int32) (sz : Nat) (hl9 : l.stackTraces = false) (hnx : nx < 60) (hkp : kp ≤ 60) (hwn : wn < 10) (hwc : wc ≤ 10) (hFR : FRq q FR) (hMB : MB mn mk) (hWin : Win p0 wn wc mp) (hcn : cn ≤ 10) (hpq : pq ≤ 8) (hnd : nd ≤ 6) (hsc : sc ≤ 350) : vx_Met l yX9_close wsX9_close ({ frames := 7, cells := 1, slots := 6, locals := 123 }) (va_Pc [.ref h0] (Wd D cA sa (([(oX9 h0 b0 (nI nb) p0 u0 r0 a0 t0 s0 o0), (s0, .inr (5, [.ref s1, .int (nI wn), .int (nI wc)])), (s1, .inl (cA 5, 10, .inr (.inr (.inr (.inr FR))))), (oX0 a0 p0 a1 a3 a4 a5 a6 i6 i7 i8 i9 i10 i11 i12 i13 i14 i15 i16 i17 i18 i19), (a1, .inr (6, [.ref a2, .int (nI nx), .int (nI kp)])), (a2, .inl (cA 0, 240, .inl fr)), (a3, .inl (cA 0, 10, .inl fs)), (a4, .inl (cA 0, 10, .inl fp)), (a5, .inl (cA 0, 10, .inl ff)), (a6, .inl (cA 0, 10, .inl fd)), (oX3 p0 pr pb pe pg p1 (nI nd) p2 p3 p4 p5 (nI cn) p6 (nI pq) p7 p8 p9 (nI sc))] : va_W) ++ memW cA q mp mi ml mn mk mf) sz)) (va_Qi (fun (r : Int32) (_ : Unit) => True) (fun (_ : Unit) t => ∃ wn2 : Nat, ∃ wc2 : Nat, ∃ mp2 : Nat → Nat, ∃ mi2 : Nat → Nat → Int32, ∃ ml2 : Nat → Nat → Int64, ∃ mn2 : Nat → Nat, ∃ mk2 : Nat → Nat, ∃ mf2 : Nat → Nat → Nat → Int32, ∃ z6 : Int32, ∃ z7 : Int32, ∃ z8 : Int32, ∃ z12 : Int32, ∃ z13 : Int32, ∃ z14 : Int32, ∃ z15 : Int32, ∃ z16 : Int32, ∃ z17 : Int32, ∃ z18 : Int32, ∃ z19 : Int32, ∃ z9 : Int64, ∃ z10 : Int64, ∃ z11 : Int64, ∃ ny : Nat, ∃ ky : Nat, ∃ zr : Nat → Int32, ∃ zs : Nat → Int32, ∃ zp : Nat → Int32, ∃ zf : Nat → Int32, ∃ zd : Nat → Int32, wn2 < 10 ∧ wc2 ≤ 10 ∧ MB mn2 mk2 ∧ Win p0 wn2 wc2 mp2 ∧ ny < 60 ∧ ky ≤ 60 ∧ Wq D (va_A (([(oX9 h0 b0 (nI nb) p0 u0 r0 a0 t0 s0 o0), (s0, .inr (5, [.ref s1, .int (nI wn), .int (nI wc)])), (s1, .inl (cA 5, 10, .inr (.inr (.inr (.inr FR))))), (oX0 a0 p0 a1 a3 a4 a5 a6 i6 i7 i8 i9 i10 i11 i12 i13 i14 i15 i16 i17 i18 i19), (a1, .inr (6, [.ref a2, .int (nI nx), .int (nI kp)])), (a2, .inl (cA 0, 240, .inl fr)), (a3, .inl (cA 0, 10, .inl fs)), (a4, .inl (cA 0, 10, .inl fp)), (a5, .inl (cA 0, 10, .inl ff)), (a6, .inl (cA 0, 10, .inl fd)), (oX3 p0 pr pb pe pg p1 (nI nd) p2 p3 p4 p5 (nI cn) p6 (nI pq) p7 p8 p9 (nI sc))] : va_W) ++ memW cA q mp mi ml mn mk mf) sz) (([(oX9 h0 b0 (nI nb) p0 u0 r0 a0 t0 s0 o0), (s0, .inr (5, [.ref s1, .int (nI wn2), .int (nI wc2)])), (s1, .inl (cA 5, 10, .inr (.inr (.inr (.inr FR))))), (oX0 a0 p0 a1 a3 a4 a5 a6 z6 z7 z8 z9 z10 z11 z12 z13 z14 z15 z16 z17 z18 z19), (a1, .inr (6, [.ref a2, .int (nI ny), .int (nI ky)])), (a2, .inl (cA 0, 240, .inl zr)), (a3, .inl (cA 0, 10, .inl zs)), (a4, .inl (cA 0, 10, .inl zp)), (a5, .inl (cA 0, 10, .inl zf)), (a6, .inl (cA 0, 10, .inl zd)), (oX3 p0 pr pb pe pg p1 (nI nd) p2 p3 p4 p5 (nI cn) p6 (nI pq) p7 p8 p9 (nI sc))] : va_W) ++ memW cA q mp2 mi2 ml2 mn2 mk2 mf2) t) (va_A (([(oX9 h0 b0 (nI nb) p0 u0 r0 a0 t0 s0 o0), (s0, .inr (5, [.ref s1, .int (nI wn), .int (nI wc)])), (s1, .inl (cA 5, 10, .inr (.inr (.inr (.inr FR))))), (oX0 a0 p0 a1 a3 a4 a5 a6 i6 i7 i8 i9 i10 i11 i12 i13 i14 i15 i16 i17 i18 i19), (a1, .inr (6, [.ref a2, .int (nI nx), .int (nI kp)])), (a2, .inl (cA 0, 240, .inl fr)), (a3, .inl (cA 0, 10, .inl fs)), (a4, .inl (cA 0, 10, .inl fp)), (a5, .inl (cA 0, 10, .inl ff)), (a6, .inl (cA 0, 10, .inl fd)), (oX3 p0 pr pb pe pg p1 (nI nd) p2 p3 p4 p5 (nI cn) p6 (nI pq) p7 p8 p9 (nI sc))] : va_W) ++ memW cA q mp mi ml mn mk mf) sz)) (vx_X (fun _ : Unit => True) (fun E _ t => (E = "java/lang/IllegalStateException") ∧ Wq D (va_A (([(oX9 h0 b0 (nI nb) p0 u0 r0 a0 t0 s0 o0), (s0, .inr (5, [.ref s1, .int (nI wn), .int (nI wc)])), (s1, .inl (cA 5, 10, .inr (.inr (.inr (.inr FR))))), (oX0 a0 p0 a1 a3 a4 a5 a6 i6 i7 i8 i9 i10 i11 i12 i13 i14 i15 i16 i17 i18 i19), (a1, .inr (6, [.ref a2, .int (nI nx), .int (nI kp)])), (a2, .inl (cA 0, 240, .inl fr)), (a3, .inl (cA 0, 10, .inl fs)), (a4, .inl (cA 0, 10, .inl fp)), (a5, .inl (cA 0, 10, .inl ff)), (a6, .inl (cA 0, 10, .inl fd)), (oX3 p0 pr pb pe pg p1 (nI nd) p2 p3 p4 p5 (nI cn) p6 (nI pq) p7 p8 p9 (nI sc))] : va_W) ++ memW cA q mp mi ml mn mk mf) sz) (([(oX9 h0 b0 (nI nb) p0 u0 r0 a0 t0 s0 o0), (s0, .inr (5, [.ref s1, .int (nI wn), .int (nI wc)])), (s1, .inl (cA 5, 10, .inr (.inr (.inr (.inr FR))))), (oX0 a0 p0 a1 a3 a4 a5 a6 i6 i7 i8 i9 i10 i11 i12 i13 i14 i15 i16 i17 i18 i19), (a1, .inr (6, [.ref a2, .int (nI nx), .int (nI kp)])), (a2, .inl (cA 0, 240, .inl fr)), (a3, .inl (cA 0, 10, .inl fs)), (a4, .inl (cA 0, 10, .inl fp)), (a5, .inl (cA 0, 10, .inl ff)), (a6, .inl (cA 0, 10, .inl fd)), (oX3 p0 pr pb pe pg p1 (nI nd) p2 p3 p4 p5 (nI cn) p6 (nI pq) p7 p8 p9 (nI sc))] : va_W) ++ memW cA q mp mi ml mn mk mf) t) (va_A (([(oX9 h0 b0 (nI nb) p0 u0 r0 a0 t0 s0 o0), (s0, .inr (5, [.ref s1, .int (nI wn), .int (nI wc)])), (s1, .inl (cA 5, 10, .inr (.inr (.inr (.inr FR))))), (oX0 a0 p0 a1 a3 a4 a5 a6 i6 i7 i8 i9 i10 i11 i12 i13 i14 i15 i16 i17 i18 i19), (a1, .inr (6, [.ref a2, .int (nI nx), .int (nI kp)])), (a2, .inl (cA 0, 240, .inl fr)), (a3, .inl (cA 0, 10, .inl fs)), (a4, .inl (cA 0, 10, .inl fp)), (a5, .inl (cA 0, 10, .inl ff)), (a6, .inl (cA 0, 10, .inl fd)), (oX3 p0 pr pb pe pg p1 (nI nd) p2 p3 p4 p5 (nI cn) p6 (nI pq) p7 p8 p9 (nI sc))] : va_W) ++ memW cA q mp mi ml mn mk mf) sz)) 1 6 (va_A (([(oX9 h0 b0 (nI nb) p0 u0 r0 a0 t0 s0 o0), (s0, .inr (5, [.ref s1, .int (nI wn), .int (nI wc)])), (s1, .inl (cA 5, 10, .inr (.inr (.inr (.inr FR))))), (oX0 a0 p0 a1 a3 a4 a5 a6 i6 i7 i8 i9 i10 i11 i12 i13 i14 i15 i16 i17 i18 i19), (a1, .inr (6, [.ref a2, .int (nI nx), .int (nI kp)])), (a2, .inl (cA 0, 240, .inl fr)), (a3, .inl (cA 0, 10, .inl fs)), (a4, .inl (cA 0, 10, .inl fp)), (a5, .inl (cA 0, 10, .inl ff)), (a6, .inl (cA 0, 10, .inl fd)), (oX3 p0 pr pb pe pg p1 (nI nd) p2 p3 p4 p5 (nI cn) p6 (nI pq) p7 p8 p9 (nI sc))] : va_W) ++ memW cA q mp mi ml mn mk mf) sz) := by
  refine vx_ofW (cc := cX9_close) (maxL := 2) (ret := (some .int)) (by decide) rfl ?_
  intro p e s m args below meth c s₁ B hml hno hv
  obtain ⟨rfl, hsz, hP, hK, hD0, hC, hZ⟩ := hv
  have hx := B.exec
  have hb := B.bytes
  have hr := B.returns
  have hts := atoms_spec (ws := wsX9_close) B.pre
  have hown : s.vm.findClass RX9 = some m.cls := findClass_of_methodNamed B.named
  have hlocks := B.notSynchronized
  subst hsz
  have hD := hD0.self (sz := s.heap.size)
  generalize hAe : va_A (([(oX9 h0 b0 (nI nb) p0 u0 r0 a0 t0 s0 o0), (s0, .inr (5, [.ref s1, .int (nI wn), .int (nI wc)])), (s1, .inl (cA 5, 10, .inr (.inr (.inr (.inr FR))))), (oX0 a0 p0 a1 a3 a4 a5 a6 i6 i7 i8 i9 i10 i11 i12 i13 i14 i15 i16 i17 i18 i19), (a1, .inr (6, [.ref a2, .int (nI nx), .int (nI kp)])), (a2, .inl (cA 0, 240, .inl fr)), (a3, .inl (cA 0, 10, .inl fs)), (a4, .inl (cA 0, 10, .inl fp)), (a5, .inl (cA 0, 10, .inl ff)), (a6, .inl (cA 0, 10, .inl fd)), (oX3 p0 pr pb pe pg p1 (nI nd) p2 p3 p4 p5 (nI cn) p6 (nI pq) p7 p8 p9 (nI sc))] : va_W) ++ memW cA q mp mi ml mn mk mf) s.heap.size = A at hD hZ ⊢
  have hA : ∀ q : Nat, s.heap.size ≤ q → A q := fun q h => by rw [← hAe]; exact Or.inr h
  have hS : va_S A s.heap s.heap [] := va_S.rf
  have hP : va_P D vwCl (([(oX9 h0 b0 (nI nb) p0 u0 r0 a0 t0 s0 o0), (s0, .inr (5, [.ref s1, .int (nI wn), .int (nI wc)])), (s1, .inl (cA 5, 10, .inr (.inr (.inr (.inr FR))))), (oX0 a0 p0 a1 a3 a4 a5 a6 i6 i7 i8 i9 i10 i11 i12 i13 i14 i15 i16 i17 i18 i19), (a1, .inr (6, [.ref a2, .int (nI nx), .int (nI kp)])), (a2, .inl (cA 0, 240, .inl fr)), (a3, .inl (cA 0, 10, .inl fs)), (a4, .inl (cA 0, 10, .inl fp)), (a5, .inl (cA 0, 10, .inl ff)), (a6, .inl (cA 0, 10, .inl fd)), (oX3 p0 pr pb pe pg p1 (nI nd) p2 p3 p4 p5 (nI cn) p6 (nI pq) p7 p8 p9 (nI sc))] : va_W) ++ memW cA q mp mi ml mn mk mf) s.heap := hP
  have hl := lv_entry ([.ref h0]) (n := 2) (Nat.le_of_ble_eq_true rfl)
  rw [lg_entry_eq]
  generalize (lg_sl ([.ref h0]) ++ List.replicate (2 - (lg_sl ([.ref h0])).length) Slot.unset).toArray = ls at hl ⊢
  have hl : lv_has ls 2 [(0, .ref h0)] := hl
  have inX0 : ∀ w ∈ u_ws RX0 TX0 20, w ∈ wsX9_close := by decide +kernel
  have inX3 : ∀ w ∈ u_ws RX3 TX3 17, w ∈ wsX9_close := by decide +kernel
  have inX9 : ∀ w ∈ u_ws RX9 TX9 9, w ∈ wsX9_close := by decide +kernel
  refine lv_aload_n hx hb dX9_close_0 rfl (lv_at hl 0 rfl) ?_
  obtain ⟨hPc, hDc, hFc⟩ := PDq.cut (wc := [(oX9 h0 b0 (nI nb) p0 u0 r0 a0 t0 s0 o0), (oX0 a0 p0 a1 a3 a4 a5 a6 i6 i7 i8 i9 i10 i11 i12 i13 i14 i15 i16 i17 i18 i19), (oX3 p0 pr pb pe pg p1 (nI nd) p2 p3 p4 p5 (nI cn) p6 (nI pq) p7 p8 p9 (nI sc)), (a3, .inl (cA 0, 10, .inl fs))]) (cq_P hP) (cq_D hD) hS hA [0, 3, 10, 6] (by decide) rfl
  refine va_calli (va_runV (As := []) (rest := []) ⟨hx, hb, hml, hown, hts⟩ (s_closedCount l D cA sa h0 b0 nb p0 u0 r0 a0 t0 s0 o0 a1 a3 a4 a5 a6 i6 i7 i8 i12 i13 i14 i15 i16 i17 i18 i19 i9 i10 i11 p1 p2 p3 p4 p5 p6 p7 p8 p9 cn pq nd sc pr pb pe pg fs s.heap.size hcn hpq hnd hsc) (cwV 0 hts gX9_close_X9_closedCount rfl rfl rfl (by decide +kernel) ⟨(Nat.le_of_ble_eq_true rfl), (Nat.le_of_ble_eq_true rfl)⟩) ⟨Wd.blind, va_recv hK hPc (ci := 10) (q0 := 0) rfl rfl, fun U hU hW => ⟨rfl, Wd.call hPc hDc hK hC hZ hS hFc U hU hW⟩⟩ rfl rfl hl.1 rfl (lv_room (Nat.le_of_ble_eq_true rfl)) dX9_close_1 ⟨(Nat.le_of_ble_eq_true rfl), (Nat.le_of_ble_eq_true rfl)⟩) hS (fun q _ h => hFc q h) hFc (fun rn1 u t H1 locs ht hvm hw hB hz1 hk1 hS => ?_)
  obtain ⟨hP1, hD1⟩ := hB
  rw [ht] at hP1
  obtain ⟨hP, hD⟩ := PDq.joinQ (w := [(s0, .inr (5, [.ref s1, .int (nI wn), .int (nI wc)])), (s1, .inl (cA 5, 10, .inr (.inr (.inr (.inr FR))))), (a1, .inr (6, [.ref a2, .int (nI nx), .int (nI kp)])), (a2, .inl (cA 0, 240, .inl fr)), (a4, .inl (cA 0, 10, .inl fp)), (a5, .inl (cA 0, 10, .inl ff)), (a6, .inl (cA 0, 10, .inl fd)), (oX9 h0 b0 (nI nb) p0 u0 r0 a0 t0 s0 o0), (oX0 a0 p0 a1 a3 a4 a5 a6 i6 i7 i8 i9 i10 i11 i12 i13 i14 i15 i16 i17 i18 i19), (oX3 p0 pr pb pe pg p1 (nI nd) p2 p3 p4 p5 (nI cn) p6 (nI pq) p7 p8 p9 (nI sc)), (a3, .inl (cA 0, 10, .inl fs))]) 7 hP hD [0, 3, 10, 6] [1, 2, 4, 5, 7, 8, 9] rfl rfl (by decide) (by decide +kernel) hk1 hFc hP1 hD1 rfl
  generalize H1 = H at hP hS ⊢
  refine lv_aload_n hx hb dX9_close_4 rfl (lv_at hl 0 rfl) ?_
  refine va_get (D := D) (ci := 10) (v := .ref p0) (C := RX9) (T := TX9) (N := 9) hx hb hts inX9 hown hK hP 7 rfl rfl 2 (by decide) (hts (.fieldLink RX9 16 "EscrowDesk" "plan" "LEscrowDesk$Plan;") (by decide +kernel)) (fun _ h9 => h9) rfl dX9_close_5 ?_
  refine va_getN (D := D) (ci := 7) (v := .int (nI cn)) (C := RX3) (T := TX3) (N := 17) hx hb hts inX3 hown hK hP 9 rfl rfl 10 (by decide) (hC.f (A := _) (a := RX9) (i := 78) (b := "EscrowDesk$Plan") (n := "milestoneCount") (d := "I") (x := "EscrowDesk") (by decide +kernel)) (fun _ h9 => h9) rfl dX9_close_8 ?_
  refine lv_icmp_ne (tgt := 18) hx hb dX9_close_11 (by decide) (fun c2 => ?_) (fun c2 => ?_)
  · skip
    refine lv_iconst (v := 0) hx hb dX9_close_18 (by decide) ?_
    obtain ⟨hPc, hDc, hFc⟩ := PDq.cut (wc := []) (cq_P hP) (cq_D hD) hS hA [] (by decide) rfl
    refine vx_callv (vx_runS (As := [.int 0]) (rest := []) ⟨hx, hb, hml, hown, hts⟩ (s_needPossible0 l D cA sa  H.size hl9) (va_cwS 1 hts gX9_close_X9_needPossible rfl rfl rfl (by decide +kernel) ⟨(Nat.le_of_ble_eq_true rfl), (Nat.le_of_ble_eq_true rfl)⟩) ⟨Wd.blind, fun U hU hW => ⟨rfl, Wd.call hPc hDc hK hC hZ hS hFc U hU hW⟩⟩ rfl rfl hl.1 rfl (lv_room (Nat.le_of_ble_eq_true rfl)) dX9_close_19 ⟨(Nat.le_of_ble_eq_true rfl), (Nat.le_of_ble_eq_true rfl)⟩) hS (fun q _ h => hFc q h) hFc (fun q _ h => hFc q h) (fun E ce q9 u t H1 locs ht hvm hpx hE hz1 hk1 hS hcell hv9 hcl => ?_) (fun u t H1 locs ht hvm hw hB hz1 hk1 hS => ?_)
    · skip
      obtain ⟨hE, hP1, hD1⟩ := hE
      rw [ht] at hP1
      obtain ⟨hP, hD⟩ := PDq.joinQ (w := [(s0, .inr (5, [.ref s1, .int (nI wn), .int (nI wc)])), (s1, .inl (cA 5, 10, .inr (.inr (.inr (.inr FR))))), (a1, .inr (6, [.ref a2, .int (nI nx), .int (nI kp)])), (a2, .inl (cA 0, 240, .inl fr)), (a4, .inl (cA 0, 10, .inl fp)), (a5, .inl (cA 0, 10, .inl ff)), (a6, .inl (cA 0, 10, .inl fd)), (oX9 h0 b0 (nI nb) p0 u0 r0 a0 t0 s0 o0), (oX0 a0 p0 a1 a3 a4 a5 a6 i6 i7 i8 i9 i10 i11 i12 i13 i14 i15 i16 i17 i18 i19), (oX3 p0 pr pb pe pg p1 (nI nd) p2 p3 p4 p5 (nI cn) p6 (nI pq) p7 p8 p9 (nI sc)), (a3, .inl (cA 0, 10, .inl fs))]) 11 hP hD [] [0, 1, 2, 3, 4, 5, 6, 7, 8, 9, 10] rfl rfl (by decide +kernel) (by decide +kernel) hk1 hFc hP1 hD1 rfl
      generalize H1 = H at hP hS hcell ⊢
      have hP9 := hP.by (ws' := (([(oX9 h0 b0 (nI nb) p0 u0 r0 a0 t0 s0 o0), (s0, .inr (5, [.ref s1, .int (nI wn), .int (nI wc)])), (s1, .inl (cA 5, 10, .inr (.inr (.inr (.inr FR))))), (oX0 a0 p0 a1 a3 a4 a5 a6 i6 i7 i8 i9 i10 i11 i12 i13 i14 i15 i16 i17 i18 i19), (a1, .inr (6, [.ref a2, .int (nI nx), .int (nI kp)])), (a2, .inl (cA 0, 240, .inl fr)), (a3, .inl (cA 0, 10, .inl fs)), (a4, .inl (cA 0, 10, .inl fp)), (a5, .inl (cA 0, 10, .inl ff)), (a6, .inl (cA 0, 10, .inl fd)), (oX3 p0 pr pb pe pg p1 (nI nd) p2 p3 p4 p5 (nI cn) p6 (nI pq) p7 p8 p9 (nI sc))] : va_W) ++ memW cA q mp mi ml mn mk mf)) _ (va_part [7, 0, 1, 8, 2, 3, 10, 4, 5, 6, 9] rfl)
      have hD9 := va_D_part (cx := [(oX9 h0 b0 (nI nb) p0 u0 r0 a0 t0 s0 o0), (s0, .inr (5, [.ref s1, .int (nI wn), .int (nI wc)])), (s1, .inl (cA 5, 10, .inr (.inr (.inr (.inr FR))))), (oX0 a0 p0 a1 a3 a4 a5 a6 i6 i7 i8 i9 i10 i11 i12 i13 i14 i15 i16 i17 i18 i19), (a1, .inr (6, [.ref a2, .int (nI nx), .int (nI kp)])), (a2, .inl (cA 0, 240, .inl fr)), (a3, .inl (cA 0, 10, .inl fs)), (a4, .inl (cA 0, 10, .inl fp)), (a5, .inl (cA 0, 10, .inl ff)), (a6, .inl (cA 0, 10, .inl fd)), (oX3 p0 pr pb pe pg p1 (nI nd) p2 p3 p4 p5 (nI cn) p6 (nI pq) p7 p8 p9 (nI sc))]) hD [7, 0, 1, 8, 2, 3, 10, 4, 5, 6, 9] (by decide +kernel) rfl
      exact vx_out (fun x h => (hno x h).elim) hlocks hcell hv9 hcl (fun t ht hvm => ⟨(), trivial, ⟨hE, by rw [ht]; exact hP9, hD9⟩, hS.F ht⟩) hS.2.2 (Nat.le_of_ble_eq_true rfl) (Nat.le_of_ble_eq_true rfl)
    · skip
      exact hw.elim
  · skip
    refine lv_iconst (v := 1) hx hb dX9_close_14 (by decide) ?_
    refine lv_goto (tgt := 19) hx hb dX9_close_15 (by decide) ?_
    obtain ⟨hPc, hDc, hFc⟩ := PDq.cut (wc := []) (cq_P hP) (cq_D hD) hS hA [] (by decide) rfl
    refine va_callv (va_runS (As := [.int 1]) (rest := []) ⟨hx, hb, hml, hown, hts⟩ (s_needPossible1 l D cA sa  H.size) (va_cwS 1 hts gX9_close_X9_needPossible rfl rfl rfl (by decide +kernel) ⟨(Nat.le_of_ble_eq_true rfl), (Nat.le_of_ble_eq_true rfl)⟩) ⟨Wd.blind, fun U hU hW => ⟨rfl, Wd.call hPc hDc hK hC hZ hS hFc U hU hW⟩⟩ rfl rfl hl.1 rfl (lv_room (Nat.le_of_ble_eq_true rfl)) dX9_close_19 ⟨(Nat.le_of_ble_eq_true rfl), (Nat.le_of_ble_eq_true rfl)⟩) hS (fun q _ h => hFc q h) hFc (fun u t H1 locs ht hvm hw hB hz1 hk1 hS => ?_)
    obtain ⟨hP1, hD1⟩ := hB
    rw [ht] at hP1
    obtain ⟨hP, hD⟩ := PDq.joinQ (w := [(s0, .inr (5, [.ref s1, .int (nI wn), .int (nI wc)])), (s1, .inl (cA 5, 10, .inr (.inr (.inr (.inr FR))))), (a1, .inr (6, [.ref a2, .int (nI nx), .int (nI kp)])), (a2, .inl (cA 0, 240, .inl fr)), (a4, .inl (cA 0, 10, .inl fp)), (a5, .inl (cA 0, 10, .inl ff)), (a6, .inl (cA 0, 10, .inl fd)), (oX9 h0 b0 (nI nb) p0 u0 r0 a0 t0 s0 o0), (oX0 a0 p0 a1 a3 a4 a5 a6 i6 i7 i8 i9 i10 i11 i12 i13 i14 i15 i16 i17 i18 i19), (oX3 p0 pr pb pe pg p1 (nI nd) p2 p3 p4 p5 (nI cn) p6 (nI pq) p7 p8 p9 (nI sc)), (a3, .inl (cA 0, 10, .inl fs))]) 11 hP hD [] [0, 1, 2, 3, 4, 5, 6, 7, 8, 9, 10] rfl rfl (by decide +kernel) (by decide +kernel) hk1 hFc hP1 hD1 rfl
    generalize H1 = H at hP hS ⊢
    refine lv_aload_n hx hb dX9_close_22 rfl (lv_at hl 0 rfl) ?_
    refine va_get (D := D) (ci := 10) (v := .ref s0) (C := RX9) (T := TX9) (N := 9) hx hb hts inX9 hown hK hP 7 rfl rfl 7 (by decide) (hts (.fieldLink RX9 45 "EscrowDesk" "history" "LEscrowDesk$History;") (by decide +kernel)) (fun _ h9 => h9) rfl dX9_close_23 ?_
    refine lv_aload_n hx hb dX9_close_26 rfl (lv_at hl 0 rfl) ?_
    refine va_get (D := D) (ci := 10) (v := .ref a0) (C := RX9) (T := TX9) (N := 9) hx hb hts inX9 hown hK hP 7 rfl rfl 5 (by decide) (hts (.fieldLink RX9 35 "EscrowDesk" "account" "LEscrowDesk$Account;") (by decide +kernel)) (fun _ h9 => h9) rfl dX9_close_27 ?_
    have hPc := hP.by (ws' := (([(s0, .inr (5, [.ref s1, .int (nI wn), .int (nI wc)])), (s1, .inl (cA 5, 10, .inr (.inr (.inr (.inr FR))))), (oX0 a0 p0 a1 a3 a4 a5 a6 i6 i7 i8 i9 i10 i11 i12 i13 i14 i15 i16 i17 i18 i19), (a1, .inr (6, [.ref a2, .int (nI nx), .int (nI kp)])), (a2, .inl (cA 0, 240, .inl fr)), (a3, .inl (cA 0, 10, .inl fs)), (a4, .inl (cA 0, 10, .inl fp)), (a5, .inl (cA 0, 10, .inl ff)), (a6, .inl (cA 0, 10, .inl fd))] : va_W) ++ memW cA q mp mi ml mn mk mf)) _ (va_part [0, 1, 8, 2, 3, 10, 4, 5, 6] rfl)
    have hDc := va_D_part (cx := [(s0, .inr (5, [.ref s1, .int (nI wn), .int (nI wc)])), (s1, .inl (cA 5, 10, .inr (.inr (.inr (.inr FR))))), (oX0 a0 p0 a1 a3 a4 a5 a6 i6 i7 i8 i9 i10 i11 i12 i13 i14 i15 i16 i17 i18 i19), (a1, .inr (6, [.ref a2, .int (nI nx), .int (nI kp)])), (a2, .inl (cA 0, 240, .inl fr)), (a3, .inl (cA 0, 10, .inl fs)), (a4, .inl (cA 0, 10, .inl fp)), (a5, .inl (cA 0, 10, .inl ff)), (a6, .inl (cA 0, 10, .inl fd))]) hD [0, 1, 8, 2, 3, 10, 4, 5, 6] (by decide +kernel) rfl
    have hFc := va_freeP (cx := [(s0, .inr (5, [.ref s1, .int (nI wn), .int (nI wc)])), (s1, .inl (cA 5, 10, .inr (.inr (.inr (.inr FR))))), (oX0 a0 p0 a1 a3 a4 a5 a6 i6 i7 i8 i9 i10 i11 i12 i13 i14 i15 i16 i17 i18 i19), (a1, .inr (6, [.ref a2, .int (nI nx), .int (nI kp)])), (a2, .inl (cA 0, 240, .inl fr)), (a3, .inl (cA 0, 10, .inl fs)), (a4, .inl (cA 0, 10, .inl fp)), (a5, .inl (cA 0, 10, .inl ff)), (a6, .inl (cA 0, 10, .inl fd))]) hD hS hA [0, 1, 8, 2, 3, 10, 4, 5, 6] rfl
    refine va_callv (va_runV (As := [.ref a0]) (rest := []) ⟨hx, hb, hml, hown, hts⟩ (s_remember l D cA sa s0 s1 wn wc FR q mp mi ml mn mk mf a0 a1 a2 a3 a4 a5 a6 p0 i6 i7 i8 i12 i13 i14 i15 i16 i17 i18 i19 i9 i10 i11 nx kp fr fs fp ff fd H.size hnx hkp hwn hwc hFR hMB hWin) (cwV 1 hts gX9_close_X1_remember rfl rfl rfl (by decide +kernel) ⟨(Nat.le_of_ble_eq_true rfl), (Nat.le_of_ble_eq_true rfl)⟩) ⟨Wd.blind, va_recv hK hPc (ci := 5) (q0 := 0) rfl rfl, fun U hU hW => ⟨rfl, Wd.call hPc hDc hK hC hZ hS hFc U hU hW⟩⟩ rfl rfl hl.1 rfl (lv_room (Nat.le_of_ble_eq_true rfl)) dX9_close_30 ⟨(Nat.le_of_ble_eq_true rfl), (Nat.le_of_ble_eq_true rfl)⟩) hS (fun q _ h => hFc q h) hFc (fun u t H1 locs ht hvm hw hB hz1 hk1 hS => ?_)
    obtain ⟨qn3, qn4, fn5, fn6, fn7, fn8, fn9, fn10, hn11, hn12, hn13, hn14, hP1, hD1⟩ := hB
    rw [ht] at hP1
    obtain ⟨hP, hD⟩ := va_joinP (wr := [(oX9 h0 b0 (nI nb) p0 u0 r0 a0 t0 s0 o0), (oX3 p0 pr pb pe pg p1 (nI nd) p2 p3 p4 p5 (nI cn) p6 (nI pq) p7 p8 p9 (nI sc))]) (rx := [(s0, .inr (5, [.ref s1, .int (nI qn3), .int (nI qn4)])), (s1, .inl (cA 5, 10, .inr (.inr (.inr (.inr FR))))), (oX0 a0 p0 a1 a3 a4 a5 a6 i6 i7 i8 i9 i10 i11 i12 i13 i14 i15 i16 i17 i18 i19), (a1, .inr (6, [.ref a2, .int (nI nx), .int (nI kp)])), (a2, .inl (cA 0, 240, .inl fr)), (a3, .inl (cA 0, 10, .inl fs)), (a4, .inl (cA 0, 10, .inl fp)), (a5, .inl (cA 0, 10, .inl ff)), (a6, .inl (cA 0, 10, .inl fd))]) (pl1 := memW cA q fn5 fn6 fn7 fn8 fn9 fn10) hP hD [0, 1, 8, 2, 3, 10, 4, 5, 6] [7, 9] rfl rfl (by decide) (by decide +kernel) hk1 hFc hP1 hD1
    generalize H1 = H at hP hS ⊢
    obtain ⟨hP, hD⟩ : PDq D A (([(oX9 h0 b0 (nI nb) p0 u0 r0 a0 t0 s0 o0), (oX3 p0 pr pb pe pg p1 (nI nd) p2 p3 p4 p5 (nI cn) p6 (nI pq) p7 p8 p9 (nI sc)), (s0, .inr (5, [.ref s1, .int (nI qn3), .int (nI qn4)])), (s1, .inl (cA 5, 10, .inr (.inr (.inr (.inr FR))))), (oX0 a0 p0 a1 a3 a4 a5 a6 i6 i7 i8 i9 i10 i11 i12 i13 i14 i15 i16 i17 i18 i19), (a1, .inr (6, [.ref a2, .int (nI nx), .int (nI kp)])), (a2, .inl (cA 0, 240, .inl fr)), (a3, .inl (cA 0, 10, .inl fs)), (a4, .inl (cA 0, 10, .inl fp)), (a5, .inl (cA 0, 10, .inl ff)), (a6, .inl (cA 0, 10, .inl fd))] : va_W) ++ memW cA q fn5 fn6 fn7 fn8 fn9 fn10) H := ⟨hP, hD⟩
    refine lv_aload_n hx hb dX9_close_33 rfl (lv_at hl 0 rfl) ?_
    refine va_get (D := D) (ci := 10) (v := .ref a0) (C := RX9) (T := TX9) (N := 9) hx hb hts inX9 hown hK hP 0 rfl rfl 5 (by decide) (hts (.fieldLink RX9 35 "EscrowDesk" "account" "LEscrowDesk$Account;") (by decide +kernel)) (fun _ h9 => h9) rfl dX9_close_34 ?_
    refine va_getN (D := D) (ci := 4) (v := .int i8) (C := RX0) (T := TX0) (N := 20) hx hb hts inX0 hown hK hP 4 rfl rfl 8 (by decide) (hC.f (A := _) (a := RX9) (i := 93) (b := "EscrowDesk$Account") (n := "principal") (d := "I") (x := "EscrowDesk") (by decide +kernel)) (fun _ h9 => h9) rfl dX9_close_37 ?_
    refine lv_istore_n (lv' := [(1, .int i8), (0, .ref h0)]) hx hb dX9_close_40 rfl hl (by decide) rfl (fun ls hl => ?_)
    refine lv_aload_n hx hb dX9_close_41 rfl (lv_at hl 1 rfl) ?_
    refine va_get (D := D) (ci := 10) (v := .ref a0) (C := RX9) (T := TX9) (N := 9) hx hb hts inX9 hown hK hP 0 rfl rfl 5 (by decide) (hts (.fieldLink RX9 35 "EscrowDesk" "account" "LEscrowDesk$Account;") (by decide +kernel)) (fun _ h9 => h9) rfl dX9_close_42 ?_
    refine lv_iload_n hx hb dX9_close_45 rfl (lv_at hl 0 rfl) ?_
    refine lv_iconst (v := (-1)) hx hb dX9_close_46 (by decide) ?_
    obtain ⟨hPc, hDc, hFc⟩ := PDq.cut (wc := [(oX0 a0 p0 a1 a3 a4 a5 a6 i6 i7 i8 i9 i10 i11 i12 i13 i14 i15 i16 i17 i18 i19), (a1, .inr (6, [.ref a2, .int (nI nx), .int (nI kp)])), (a2, .inl (cA 0, 240, .inl fr))]) (cq_P hP) (cq_D hD) hS hA [4, 5, 6] (by decide) rfl
    refine va_callv (va_runV (As := [.int i8, .int (-1)]) (rest := []) ⟨hx, hb, hml, hown, hts⟩ (s_refund l D cA sa a0 a1 a2 a3 a4 a5 a6 p0 i6 i7 i8 i12 i13 i14 i15 i16 i17 i18 i19 i9 i10 i11 nx kp fr i8 (-1) H.size hnx hkp) (cwV 2 hts gX9_close_X0_refund rfl rfl rfl (by decide +kernel) ⟨(Nat.le_of_ble_eq_true rfl), (Nat.le_of_ble_eq_true rfl)⟩) ⟨Wd.blind, va_recv hK hPc (ci := 4) (q0 := 0) rfl rfl, fun U hU hW => ⟨rfl, Wd.call hPc hDc hK hC hZ hS hFc U hU hW⟩⟩ rfl rfl hl.1 rfl (lv_room (Nat.le_of_ble_eq_true rfl)) dX9_close_47 ⟨(Nat.le_of_ble_eq_true rfl), (Nat.le_of_ble_eq_true rfl)⟩) hS (fun q _ h => hFc q h) hFc (fun u t H1 locs ht hvm hw hB hz1 hk1 hS => ?_)
    obtain ⟨zn15, zn16, zn17, zn18, zn19, zn20, zn21, zn22, zn23, zn24, zn25, zn26, zn27, zn28, qn29, qn30, fn31, hn32, hn33, hP1, hD1⟩ := hB
    rw [ht] at hP1
    obtain ⟨hP, hD⟩ := PDq.joinQ (w := [(oX9 h0 b0 (nI nb) p0 u0 r0 a0 t0 s0 o0), (oX3 p0 pr pb pe pg p1 (nI nd) p2 p3 p4 p5 (nI cn) p6 (nI pq) p7 p8 p9 (nI sc)), (s0, .inr (5, [.ref s1, .int (nI qn3), .int (nI qn4)])), (s1, .inl (cA 5, 10, .inr (.inr (.inr (.inr FR))))), (a3, .inl (cA 0, 10, .inl fs)), (a4, .inl (cA 0, 10, .inl fp)), (a5, .inl (cA 0, 10, .inl ff)), (a6, .inl (cA 0, 10, .inl fd)), (oX0 a0 p0 a1 a3 a4 a5 a6 zn15 zn16 zn17 zn26 zn27 zn28 zn18 zn19 zn20 zn21 zn22 zn23 zn24 zn25), (a1, .inr (6, [.ref a2, .int (nI qn29), .int (nI qn30)])), (a2, .inl (cA 0, 240, .inl fn31))]) 8 hP hD [4, 5, 6] [0, 1, 2, 3, 7, 8, 9, 10] rfl rfl (by decide) (by decide +kernel) hk1 hFc hP1 hD1 rfl
    generalize H1 = H at hP hS ⊢
    refine lv_iload_n hx hb dX9_close_50 rfl (lv_at hl 0 rfl) ?_
    have hP9 := hP.by (ws' := (([(oX9 h0 b0 (nI nb) p0 u0 r0 a0 t0 s0 o0), (s0, .inr (5, [.ref s1, .int (nI qn3), .int (nI qn4)])), (s1, .inl (cA 5, 10, .inr (.inr (.inr (.inr FR))))), (oX0 a0 p0 a1 a3 a4 a5 a6 zn15 zn16 zn17 zn26 zn27 zn28 zn18 zn19 zn20 zn21 zn22 zn23 zn24 zn25), (a1, .inr (6, [.ref a2, .int (nI qn29), .int (nI qn30)])), (a2, .inl (cA 0, 240, .inl fn31)), (a3, .inl (cA 0, 10, .inl fs)), (a4, .inl (cA 0, 10, .inl fp)), (a5, .inl (cA 0, 10, .inl ff)), (a6, .inl (cA 0, 10, .inl fd)), (oX3 p0 pr pb pe pg p1 (nI nd) p2 p3 p4 p5 (nI cn) p6 (nI pq) p7 p8 p9 (nI sc))] : va_W) ++ memW cA q fn5 fn6 fn7 fn8 fn9 fn10)) _ (va_part [0, 2, 3, 8, 9, 10, 4, 5, 6, 7, 1] rfl)
    have hD9 := va_D_part (cx := [(oX9 h0 b0 (nI nb) p0 u0 r0 a0 t0 s0 o0), (s0, .inr (5, [.ref s1, .int (nI qn3), .int (nI qn4)])), (s1, .inl (cA 5, 10, .inr (.inr (.inr (.inr FR))))), (oX0 a0 p0 a1 a3 a4 a5 a6 zn15 zn16 zn17 zn26 zn27 zn28 zn18 zn19 zn20 zn21 zn22 zn23 zn24 zn25), (a1, .inr (6, [.ref a2, .int (nI qn29), .int (nI qn30)])), (a2, .inl (cA 0, 240, .inl fn31)), (a3, .inl (cA 0, 10, .inl fs)), (a4, .inl (cA 0, 10, .inl fp)), (a5, .inl (cA 0, 10, .inl ff)), (a6, .inl (cA 0, 10, .inl fd)), (oX3 p0 pr pb pe pg p1 (nI nd) p2 p3 p4 p5 (nI cn) p6 (nI pq) p7 p8 p9 (nI sc))]) hD [0, 2, 3, 8, 9, 10, 4, 5, 6, 7, 1] (by decide +kernel) rfl
    refine W.widen (k := 1) (n := 6) (Nat.le_of_ble_eq_true rfl) (Nat.le_of_ble_eq_true rfl) ?_
    exact vx_ret (W.iret (v := i8) hx hb hr (fun t ht hW => ⟨⟨i8, (), rfl, trivial, qn3, qn4, fn5, fn6, fn7, fn8, fn9, fn10, zn15, zn16, zn17, zn18, zn19, zn20, zn21, zn22, zn23, zn24, zn25, zn26, zn27, zn28, qn29, qn30, fn31, fs, fp, ff, fd, hn11, hn12, hn13, hn14, hn32, hn33, by rw [ht]; exact hP9, hD9⟩, hS.F ht⟩) hS.2.2 dX9_close_51)

set_option maxHeartbeats 4000000 in
set_option maxRecDepth 100000 in
/-- submit -/
theorem s_submit (l : Launch) (D : va_G) (cA : Nat → ClassId) (sa : Nat → Nat) (h0 : Nat) (b0 : Nat) (nb : Nat) (p0 : Nat) (u0 : Nat) (r0 : Nat) (a0 : Nat) (t0 : Nat) (s0 : Nat) (o0 : Nat) (s1 : Nat) (wn : Nat) (wc : Nat) (FR : Nat → Option Nat) (q : Nat → Nat → Nat) (mp : Nat → Nat) (mi : Nat → Nat → Int32) (ml : Nat → Nat → Int64) (mn : Nat → Nat) (mk : Nat → Nat) (mf : Nat → Nat → Nat → Int32) (a1 : Nat) (a2 : Nat) (a3 : Nat) (a4 : Nat) (a5 : Nat) (a6 : Nat) (i6 : Int32) (i7 : Int32) (i8 : Int32) (i12 : Int32) (i13 : Int32) (i14 : Int32) (i15 : Int32) (i16 : Int32) (i17 : Int32) (i18 : Int32) (i19 : Int32) (i9 : Int64) (i10 : Int64) (i11 : Int64) (nx : Nat) (kp : Nat) (fr : Nat → Int32) (fs : Nat → Int32) (fp : Nat → Int32) (ff : Nat → Int32) (fd : Nat → Int32) (p1 : Nat) (p2 : Nat) (p3 : Nat) (p4 : Nat) (p5 : Nat) (p6 : Nat) (p7 : Nat) (p8 : Nat) (p9 : Nat) (cn : Nat) (pq : Nat) (nd : Nat) (sc : Nat) (pr : Int32) (pb : Int32) (pe : Int32) (pg : Int32) (i : Int32) (sz : Nat) (hl9 : l.stackTraces = false) (hnx : nx < 60) (hkp : kp ≤ 60) (hwn : wn < 10) (hwc : wc ≤ 10) (hFR : FRq q FR) (hMB : MB mn mk) (hWin : Win p0 wn wc mp) (hcn : cn ≤ 10) (hpq : pq ≤ 8) (hnd : nd ≤ 6) (hsc : sc ≤ 350) : vx_Met l yX9_submit wsX9_submit ({ frames := 8, cells := 1, slots := 6, locals := 132 }) (va_Pc [.ref h0, .int i] (Wd D cA sa (([(oX9 h0 b0 (nI nb) p0 u0 r0 a0 t0 s0 o0), (s0, .inr (5, [.ref s1, .int (nI wn), .int (nI wc)])), (s1, .inl (cA 5, 10, .inr (.inr (.inr (.inr FR))))), (oX0 a0 p0 a1 a3 a4 a5 a6 i6 i7 i8 i9 i10 i11 i12 i13 i14 i15 i16 i17 i18 i19), (a1, .inr (6, [.ref a2, .int (nI nx), .int (nI kp)])), (a2, .inl (cA 0, 240, .inl fr)), (a3, .inl (cA 0, 10, .inl fs)), (a4, .inl (cA 0, 10, .inl fp)), (a5, .inl (cA 0, 10, .inl ff)), (a6, .inl (cA 0, 10, .inl fd)), (oX3 p0 pr pb pe pg p1 (nI nd) p2 p3 p4 p5 (nI cn) p6 (nI pq) p7 p8 p9 (nI sc))] : va_W) ++ memW cA q mp mi ml mn mk mf) sz)) (va_Qi (fun (r : Int32) (_ : Unit) => r = 0 ∨ r = 1) (fun (_ : Unit) t => ∃ wn2 : Nat, ∃ wc2 : Nat, ∃ mp2 : Nat → Nat, ∃ mi2 : Nat → Nat → Int32, ∃ ml2 : Nat → Nat → Int64, ∃ mn2 : Nat → Nat, ∃ mk2 : Nat → Nat, ∃ mf2 : Nat → Nat → Nat → Int32, ∃ z6 : Int32, ∃ z7 : Int32, ∃ z8 : Int32, ∃ z12 : Int32, ∃ z13 : Int32, ∃ z14 : Int32, ∃ z15 : Int32, ∃ z16 : Int32, ∃ z17 : Int32, ∃ z18 : Int32, ∃ z19 : Int32, ∃ z9 : Int64, ∃ z10 : Int64, ∃ z11 : Int64, ∃ ny : Nat, ∃ ky : Nat, ∃ zr : Nat → Int32, ∃ zs : Nat → Int32, ∃ zp : Nat → Int32, ∃ zf : Nat → Int32, ∃ zd : Nat → Int32, wn2 < 10 ∧ wc2 ≤ 10 ∧ MB mn2 mk2 ∧ Win p0 wn2 wc2 mp2 ∧ ny < 60 ∧ ky ≤ 60 ∧ Wq D (va_A (([(oX9 h0 b0 (nI nb) p0 u0 r0 a0 t0 s0 o0), (s0, .inr (5, [.ref s1, .int (nI wn), .int (nI wc)])), (s1, .inl (cA 5, 10, .inr (.inr (.inr (.inr FR))))), (oX0 a0 p0 a1 a3 a4 a5 a6 i6 i7 i8 i9 i10 i11 i12 i13 i14 i15 i16 i17 i18 i19), (a1, .inr (6, [.ref a2, .int (nI nx), .int (nI kp)])), (a2, .inl (cA 0, 240, .inl fr)), (a3, .inl (cA 0, 10, .inl fs)), (a4, .inl (cA 0, 10, .inl fp)), (a5, .inl (cA 0, 10, .inl ff)), (a6, .inl (cA 0, 10, .inl fd)), (oX3 p0 pr pb pe pg p1 (nI nd) p2 p3 p4 p5 (nI cn) p6 (nI pq) p7 p8 p9 (nI sc))] : va_W) ++ memW cA q mp mi ml mn mk mf) sz) (([(oX9 h0 b0 (nI nb) p0 u0 r0 a0 t0 s0 o0), (s0, .inr (5, [.ref s1, .int (nI wn2), .int (nI wc2)])), (s1, .inl (cA 5, 10, .inr (.inr (.inr (.inr FR))))), (oX0 a0 p0 a1 a3 a4 a5 a6 z6 z7 z8 z9 z10 z11 z12 z13 z14 z15 z16 z17 z18 z19), (a1, .inr (6, [.ref a2, .int (nI ny), .int (nI ky)])), (a2, .inl (cA 0, 240, .inl zr)), (a3, .inl (cA 0, 10, .inl zs)), (a4, .inl (cA 0, 10, .inl zp)), (a5, .inl (cA 0, 10, .inl zf)), (a6, .inl (cA 0, 10, .inl zd)), (oX3 p0 pr pb pe pg p1 (nI nd) p2 p3 p4 p5 (nI cn) p6 (nI pq) p7 p8 p9 (nI sc))] : va_W) ++ memW cA q mp2 mi2 ml2 mn2 mk2 mf2) t) (va_A (([(oX9 h0 b0 (nI nb) p0 u0 r0 a0 t0 s0 o0), (s0, .inr (5, [.ref s1, .int (nI wn), .int (nI wc)])), (s1, .inl (cA 5, 10, .inr (.inr (.inr (.inr FR))))), (oX0 a0 p0 a1 a3 a4 a5 a6 i6 i7 i8 i9 i10 i11 i12 i13 i14 i15 i16 i17 i18 i19), (a1, .inr (6, [.ref a2, .int (nI nx), .int (nI kp)])), (a2, .inl (cA 0, 240, .inl fr)), (a3, .inl (cA 0, 10, .inl fs)), (a4, .inl (cA 0, 10, .inl fp)), (a5, .inl (cA 0, 10, .inl ff)), (a6, .inl (cA 0, 10, .inl fd)), (oX3 p0 pr pb pe pg p1 (nI nd) p2 p3 p4 p5 (nI cn) p6 (nI pq) p7 p8 p9 (nI sc))] : va_W) ++ memW cA q mp mi ml mn mk mf) sz)) (vx_X (fun _ : Unit => True) (fun E _ t => (E = "java/lang/IndexOutOfBoundsException") ∧ Wq D (va_A (([(oX9 h0 b0 (nI nb) p0 u0 r0 a0 t0 s0 o0), (s0, .inr (5, [.ref s1, .int (nI wn), .int (nI wc)])), (s1, .inl (cA 5, 10, .inr (.inr (.inr (.inr FR))))), (oX0 a0 p0 a1 a3 a4 a5 a6 i6 i7 i8 i9 i10 i11 i12 i13 i14 i15 i16 i17 i18 i19), (a1, .inr (6, [.ref a2, .int (nI nx), .int (nI kp)])), (a2, .inl (cA 0, 240, .inl fr)), (a3, .inl (cA 0, 10, .inl fs)), (a4, .inl (cA 0, 10, .inl fp)), (a5, .inl (cA 0, 10, .inl ff)), (a6, .inl (cA 0, 10, .inl fd)), (oX3 p0 pr pb pe pg p1 (nI nd) p2 p3 p4 p5 (nI cn) p6 (nI pq) p7 p8 p9 (nI sc))] : va_W) ++ memW cA q mp mi ml mn mk mf) sz) (([(oX9 h0 b0 (nI nb) p0 u0 r0 a0 t0 s0 o0), (s0, .inr (5, [.ref s1, .int (nI wn), .int (nI wc)])), (s1, .inl (cA 5, 10, .inr (.inr (.inr (.inr FR))))), (oX0 a0 p0 a1 a3 a4 a5 a6 i6 i7 i8 i9 i10 i11 i12 i13 i14 i15 i16 i17 i18 i19), (a1, .inr (6, [.ref a2, .int (nI nx), .int (nI kp)])), (a2, .inl (cA 0, 240, .inl fr)), (a3, .inl (cA 0, 10, .inl fs)), (a4, .inl (cA 0, 10, .inl fp)), (a5, .inl (cA 0, 10, .inl ff)), (a6, .inl (cA 0, 10, .inl fd)), (oX3 p0 pr pb pe pg p1 (nI nd) p2 p3 p4 p5 (nI cn) p6 (nI pq) p7 p8 p9 (nI sc))] : va_W) ++ memW cA q mp mi ml mn mk mf) t) (va_A (([(oX9 h0 b0 (nI nb) p0 u0 r0 a0 t0 s0 o0), (s0, .inr (5, [.ref s1, .int (nI wn), .int (nI wc)])), (s1, .inl (cA 5, 10, .inr (.inr (.inr (.inr FR))))), (oX0 a0 p0 a1 a3 a4 a5 a6 i6 i7 i8 i9 i10 i11 i12 i13 i14 i15 i16 i17 i18 i19), (a1, .inr (6, [.ref a2, .int (nI nx), .int (nI kp)])), (a2, .inl (cA 0, 240, .inl fr)), (a3, .inl (cA 0, 10, .inl fs)), (a4, .inl (cA 0, 10, .inl fp)), (a5, .inl (cA 0, 10, .inl ff)), (a6, .inl (cA 0, 10, .inl fd)), (oX3 p0 pr pb pe pg p1 (nI nd) p2 p3 p4 p5 (nI cn) p6 (nI pq) p7 p8 p9 (nI sc))] : va_W) ++ memW cA q mp mi ml mn mk mf) sz)) 1 6 (va_A (([(oX9 h0 b0 (nI nb) p0 u0 r0 a0 t0 s0 o0), (s0, .inr (5, [.ref s1, .int (nI wn), .int (nI wc)])), (s1, .inl (cA 5, 10, .inr (.inr (.inr (.inr FR))))), (oX0 a0 p0 a1 a3 a4 a5 a6 i6 i7 i8 i9 i10 i11 i12 i13 i14 i15 i16 i17 i18 i19), (a1, .inr (6, [.ref a2, .int (nI nx), .int (nI kp)])), (a2, .inl (cA 0, 240, .inl fr)), (a3, .inl (cA 0, 10, .inl fs)), (a4, .inl (cA 0, 10, .inl fp)), (a5, .inl (cA 0, 10, .inl ff)), (a6, .inl (cA 0, 10, .inl fd)), (oX3 p0 pr pb pe pg p1 (nI nd) p2 p3 p4 p5 (nI cn) p6 (nI pq) p7 p8 p9 (nI sc))] : va_W) ++ memW cA q mp mi ml mn mk mf) sz) := by
  refine vx_ofW (cc := cX9_submit) (maxL := 3) (ret := (some .boolean)) (by decide) rfl ?_
  intro p e s m args below meth c s₁ B hml hno hv
  obtain ⟨rfl, hsz, hP, hK, hD0, hC, hZ⟩ := hv
  have hx := B.exec
  have hb := B.bytes
  have hr := B.returns
  have hts := atoms_spec (ws := wsX9_submit) B.pre
  have hown : s.vm.findClass RX9 = some m.cls := findClass_of_methodNamed B.named
  have hlocks := B.notSynchronized
  subst hsz
  have hD := hD0.self (sz := s.heap.size)
  generalize hAe : va_A (([(oX9 h0 b0 (nI nb) p0 u0 r0 a0 t0 s0 o0), (s0, .inr (5, [.ref s1, .int (nI wn), .int (nI wc)])), (s1, .inl (cA 5, 10, .inr (.inr (.inr (.inr FR))))), (oX0 a0 p0 a1 a3 a4 a5 a6 i6 i7 i8 i9 i10 i11 i12 i13 i14 i15 i16 i17 i18 i19), (a1, .inr (6, [.ref a2, .int (nI nx), .int (nI kp)])), (a2, .inl (cA 0, 240, .inl fr)), (a3, .inl (cA 0, 10, .inl fs)), (a4, .inl (cA 0, 10, .inl fp)), (a5, .inl (cA 0, 10, .inl ff)), (a6, .inl (cA 0, 10, .inl fd)), (oX3 p0 pr pb pe pg p1 (nI nd) p2 p3 p4 p5 (nI cn) p6 (nI pq) p7 p8 p9 (nI sc))] : va_W) ++ memW cA q mp mi ml mn mk mf) s.heap.size = A at hD hZ ⊢
  have hA : ∀ q : Nat, s.heap.size ≤ q → A q := fun q h => by rw [← hAe]; exact Or.inr h
  have hS : va_S A s.heap s.heap [] := va_S.rf
  have hP : va_P D vwCl (([(oX9 h0 b0 (nI nb) p0 u0 r0 a0 t0 s0 o0), (s0, .inr (5, [.ref s1, .int (nI wn), .int (nI wc)])), (s1, .inl (cA 5, 10, .inr (.inr (.inr (.inr FR))))), (oX0 a0 p0 a1 a3 a4 a5 a6 i6 i7 i8 i9 i10 i11 i12 i13 i14 i15 i16 i17 i18 i19), (a1, .inr (6, [.ref a2, .int (nI nx), .int (nI kp)])), (a2, .inl (cA 0, 240, .inl fr)), (a3, .inl (cA 0, 10, .inl fs)), (a4, .inl (cA 0, 10, .inl fp)), (a5, .inl (cA 0, 10, .inl ff)), (a6, .inl (cA 0, 10, .inl fd)), (oX3 p0 pr pb pe pg p1 (nI nd) p2 p3 p4 p5 (nI cn) p6 (nI pq) p7 p8 p9 (nI sc))] : va_W) ++ memW cA q mp mi ml mn mk mf) s.heap := hP
  have hl := lv_entry ([.ref h0, .int i]) (n := 3) (Nat.le_of_ble_eq_true rfl)
  rw [lg_entry_eq]
  generalize (lg_sl ([.ref h0, .int i]) ++ List.replicate (3 - (lg_sl ([.ref h0, .int i])).length) Slot.unset).toArray = ls at hl ⊢
  have hl : lv_has ls 3 [(0, .ref h0), (1, .int i)] := hl
  have inX0 : ∀ w ∈ u_ws RX0 TX0 20, w ∈ wsX9_submit := by decide +kernel
  have inX9 : ∀ w ∈ u_ws RX9 TX9 9, w ∈ wsX9_submit := by decide +kernel
  refine lv_aload_n hx hb dX9_submit_0 rfl (lv_at hl 0 rfl) ?_
  refine lv_iload_n hx hb dX9_submit_1 rfl (lv_at hl 1 rfl) ?_
  obtain ⟨hPc, hDc, hFc⟩ := PDq.cut (wc := [(oX9 h0 b0 (nI nb) p0 u0 r0 a0 t0 s0 o0), (oX3 p0 pr pb pe pg p1 (nI nd) p2 p3 p4 p5 (nI cn) p6 (nI pq) p7 p8 p9 (nI sc))]) (cq_P hP) (cq_D hD) hS hA [0, 10] (by decide) rfl
  refine vx_callv (vx_runV (As := [.int i]) (rest := []) ⟨hx, hb, hml, hown, hts⟩ (s_needProof l D cA sa h0 b0 nb p0 u0 r0 a0 t0 s0 o0 p1 p2 p3 p4 p5 p6 p7 p8 p9 cn pq nd sc pr pb pe pg i s.heap.size hl9 hcn hpq hnd hsc) (cwV 1 hts gX9_submit_X9_needProof rfl rfl rfl (by decide +kernel) ⟨(Nat.le_of_ble_eq_true rfl), (Nat.le_of_ble_eq_true rfl)⟩) ⟨Wd.blind, va_recv hK hPc (ci := 10) (q0 := 0) rfl rfl, fun U hU hW => ⟨rfl, Wd.call hPc hDc hK hC hZ hS hFc U hU hW⟩⟩ rfl rfl hl.1 rfl (lv_room (Nat.le_of_ble_eq_true rfl)) dX9_submit_2 ⟨(Nat.le_of_ble_eq_true rfl), (Nat.le_of_ble_eq_true rfl)⟩) hS (fun q _ h => hFc q h) hFc (fun q _ h => hFc q h) (fun E ce q9 u t H1 locs ht hvm hpx hE hz1 hk1 hS hcell hv9 hcl => ?_) (fun u t H1 locs ht hvm hw hB hz1 hk1 hS => ?_)
  · skip
    obtain ⟨hE, hP1, hD1⟩ := hE
    rw [ht] at hP1
    obtain ⟨hP, hD⟩ := PDq.joinQ (w := [(s0, .inr (5, [.ref s1, .int (nI wn), .int (nI wc)])), (s1, .inl (cA 5, 10, .inr (.inr (.inr (.inr FR))))), (oX0 a0 p0 a1 a3 a4 a5 a6 i6 i7 i8 i9 i10 i11 i12 i13 i14 i15 i16 i17 i18 i19), (a1, .inr (6, [.ref a2, .int (nI nx), .int (nI kp)])), (a2, .inl (cA 0, 240, .inl fr)), (a3, .inl (cA 0, 10, .inl fs)), (a4, .inl (cA 0, 10, .inl fp)), (a5, .inl (cA 0, 10, .inl ff)), (a6, .inl (cA 0, 10, .inl fd)), (oX9 h0 b0 (nI nb) p0 u0 r0 a0 t0 s0 o0), (oX3 p0 pr pb pe pg p1 (nI nd) p2 p3 p4 p5 (nI cn) p6 (nI pq) p7 p8 p9 (nI sc))]) 9 hP hD [0, 10] [1, 2, 3, 4, 5, 6, 7, 8, 9] rfl rfl (by decide +kernel) (by decide +kernel) hk1 hFc hP1 hD1 rfl
    generalize H1 = H at hP hS hcell ⊢
    have hP9 := hP.by (ws' := (([(oX9 h0 b0 (nI nb) p0 u0 r0 a0 t0 s0 o0), (s0, .inr (5, [.ref s1, .int (nI wn), .int (nI wc)])), (s1, .inl (cA 5, 10, .inr (.inr (.inr (.inr FR))))), (oX0 a0 p0 a1 a3 a4 a5 a6 i6 i7 i8 i9 i10 i11 i12 i13 i14 i15 i16 i17 i18 i19), (a1, .inr (6, [.ref a2, .int (nI nx), .int (nI kp)])), (a2, .inl (cA 0, 240, .inl fr)), (a3, .inl (cA 0, 10, .inl fs)), (a4, .inl (cA 0, 10, .inl fp)), (a5, .inl (cA 0, 10, .inl ff)), (a6, .inl (cA 0, 10, .inl fd)), (oX3 p0 pr pb pe pg p1 (nI nd) p2 p3 p4 p5 (nI cn) p6 (nI pq) p7 p8 p9 (nI sc))] : va_W) ++ memW cA q mp mi ml mn mk mf)) _ (va_part [9, 0, 1, 2, 3, 4, 5, 6, 7, 8, 10] rfl)
    have hD9 := va_D_part (cx := [(oX9 h0 b0 (nI nb) p0 u0 r0 a0 t0 s0 o0), (s0, .inr (5, [.ref s1, .int (nI wn), .int (nI wc)])), (s1, .inl (cA 5, 10, .inr (.inr (.inr (.inr FR))))), (oX0 a0 p0 a1 a3 a4 a5 a6 i6 i7 i8 i9 i10 i11 i12 i13 i14 i15 i16 i17 i18 i19), (a1, .inr (6, [.ref a2, .int (nI nx), .int (nI kp)])), (a2, .inl (cA 0, 240, .inl fr)), (a3, .inl (cA 0, 10, .inl fs)), (a4, .inl (cA 0, 10, .inl fp)), (a5, .inl (cA 0, 10, .inl ff)), (a6, .inl (cA 0, 10, .inl fd)), (oX3 p0 pr pb pe pg p1 (nI nd) p2 p3 p4 p5 (nI cn) p6 (nI pq) p7 p8 p9 (nI sc))]) hD [9, 0, 1, 2, 3, 4, 5, 6, 7, 8, 10] (by decide +kernel) rfl
    exact vx_out (fun x h => (hno x h).elim) hlocks hcell hv9 hcl (fun t ht hvm => ⟨(), trivial, ⟨hE, by rw [ht]; exact hP9, hD9⟩, hS.F ht⟩) hS.2.2 (Nat.le_of_ble_eq_true rfl) (Nat.le_of_ble_eq_true rfl)
  · skip
    obtain ⟨qn1, hn2, hn3, hP1, hD1⟩ := hB
    rw [ht] at hP1
    obtain ⟨hP, hD⟩ := PDq.joinQ (w := [(s0, .inr (5, [.ref s1, .int (nI wn), .int (nI wc)])), (s1, .inl (cA 5, 10, .inr (.inr (.inr (.inr FR))))), (oX0 a0 p0 a1 a3 a4 a5 a6 i6 i7 i8 i9 i10 i11 i12 i13 i14 i15 i16 i17 i18 i19), (a1, .inr (6, [.ref a2, .int (nI nx), .int (nI kp)])), (a2, .inl (cA 0, 240, .inl fr)), (a3, .inl (cA 0, 10, .inl fs)), (a4, .inl (cA 0, 10, .inl fp)), (a5, .inl (cA 0, 10, .inl ff)), (a6, .inl (cA 0, 10, .inl fd)), (oX9 h0 b0 (nI nb) p0 u0 r0 a0 t0 s0 o0), (oX3 p0 pr pb pe pg p1 (nI nd) p2 p3 p4 p5 (nI cn) p6 (nI pq) p7 p8 p9 (nI sc))]) 9 hP hD [0, 10] [1, 2, 3, 4, 5, 6, 7, 8, 9] rfl rfl (by decide +kernel) (by decide +kernel) hk1 hFc hP1 hD1 rfl
    generalize H1 = H at hP hS ⊢
    rw [hn3] at hl
    have hl : lv_has ls 3 [(0, .ref h0), (1, .int (nI qn1))] := hl
    refine lv_aload_n hx hb dX9_submit_5 rfl (lv_at hl 0 rfl) ?_
    refine va_get (D := D) (ci := 10) (v := .ref a0) (C := RX9) (T := TX9) (N := 9) hx hb hts inX9 hown hK hP 9 rfl rfl 5 (by decide) (hts (.fieldLink RX9 35 "EscrowDesk" "account" "LEscrowDesk$Account;") (by decide +kernel)) (fun _ h9 => h9) rfl dX9_submit_6 ?_
    refine lv_iload_n hx hb dX9_submit_9 rfl (lv_at hl 1 rfl) ?_
    obtain ⟨hPc, hDc, hFc⟩ := PDq.cut (wc := [(oX0 a0 p0 a1 a3 a4 a5 a6 i6 i7 i8 i9 i10 i11 i12 i13 i14 i15 i16 i17 i18 i19)]) (cq_P hP) (cq_D hD) hS hA [2] (by decide) rfl
    refine va_calli (va_runV (As := [.int (nI qn1)]) (rest := []) ⟨hx, hb, hml, hown, hts⟩ (s_hasProof l D cA sa a0 a1 a3 a4 a5 a6 p0 i6 i7 i8 i12 i13 i14 i15 i16 i17 i18 i19 i9 i10 i11 (nI qn1) H.size) (cwV 1 hts gX9_submit_X0_hasProof rfl rfl rfl (by decide +kernel) ⟨(Nat.le_of_ble_eq_true rfl), (Nat.le_of_ble_eq_true rfl)⟩) ⟨Wd.blind, va_recv hK hPc (ci := 4) (q0 := 0) rfl rfl, fun U hU hW => ⟨rfl, Wd.call hPc hDc hK hC hZ hS hFc U hU hW⟩⟩ rfl rfl hl.1 rfl (lv_room (Nat.le_of_ble_eq_true rfl)) dX9_submit_10 ⟨(Nat.le_of_ble_eq_true rfl), (Nat.le_of_ble_eq_true rfl)⟩) hS (fun q _ h => hFc q h) hFc (fun rn4 u t H1 locs ht hvm hw hB hz1 hk1 hS => ?_)
    obtain ⟨hP1, hD1⟩ := hB
    rw [ht] at hP1
    obtain ⟨hP, hD⟩ := PDq.joinQ (w := [(s0, .inr (5, [.ref s1, .int (nI wn), .int (nI wc)])), (s1, .inl (cA 5, 10, .inr (.inr (.inr (.inr FR))))), (a1, .inr (6, [.ref a2, .int (nI nx), .int (nI kp)])), (a2, .inl (cA 0, 240, .inl fr)), (a3, .inl (cA 0, 10, .inl fs)), (a4, .inl (cA 0, 10, .inl fp)), (a5, .inl (cA 0, 10, .inl ff)), (a6, .inl (cA 0, 10, .inl fd)), (oX9 h0 b0 (nI nb) p0 u0 r0 a0 t0 s0 o0), (oX3 p0 pr pb pe pg p1 (nI nd) p2 p3 p4 p5 (nI cn) p6 (nI pq) p7 p8 p9 (nI sc)), (oX0 a0 p0 a1 a3 a4 a5 a6 i6 i7 i8 i9 i10 i11 i12 i13 i14 i15 i16 i17 i18 i19)]) 10 hP hD [2] [0, 1, 3, 4, 5, 6, 7, 8, 9, 10] rfl rfl (by decide +kernel) (by decide +kernel) hk1 hFc hP1 hD1 rfl
    generalize H1 = H at hP hS ⊢
    have hn5 := hw
    refine lv_if_ne (tgt := 20) hx hb dX9_submit_13 (by decide) (fun c6 => ?_) (fun c6 => ?_)
    · skip
      refine lv_iconst (v := 0) hx hb dX9_submit_20 (by decide) ?_
      refine lv_istore_n (lv' := [(2, .int 0), (0, .ref h0), (1, .int (nI qn1))]) hx hb dX9_submit_21 rfl hl (by decide) rfl (fun ls hl => ?_)
      refine lv_aload_n hx hb dX9_submit_22 rfl (lv_at hl 1 rfl) ?_
      refine va_get (D := D) (ci := 10) (v := .ref s0) (C := RX9) (T := TX9) (N := 9) hx hb hts inX9 hown hK hP 8 rfl rfl 7 (by decide) (hts (.fieldLink RX9 45 "EscrowDesk" "history" "LEscrowDesk$History;") (by decide +kernel)) (fun _ h9 => h9) rfl dX9_submit_23 ?_
      refine lv_aload_n hx hb dX9_submit_26 rfl (lv_at hl 1 rfl) ?_
      refine va_get (D := D) (ci := 10) (v := .ref a0) (C := RX9) (T := TX9) (N := 9) hx hb hts inX9 hown hK hP 8 rfl rfl 5 (by decide) (hts (.fieldLink RX9 35 "EscrowDesk" "account" "LEscrowDesk$Account;") (by decide +kernel)) (fun _ h9 => h9) rfl dX9_submit_27 ?_
      have hPc := hP.by (ws' := (([(s0, .inr (5, [.ref s1, .int (nI wn), .int (nI wc)])), (s1, .inl (cA 5, 10, .inr (.inr (.inr (.inr FR))))), (oX0 a0 p0 a1 a3 a4 a5 a6 i6 i7 i8 i9 i10 i11 i12 i13 i14 i15 i16 i17 i18 i19), (a1, .inr (6, [.ref a2, .int (nI nx), .int (nI kp)])), (a2, .inl (cA 0, 240, .inl fr)), (a3, .inl (cA 0, 10, .inl fs)), (a4, .inl (cA 0, 10, .inl fp)), (a5, .inl (cA 0, 10, .inl ff)), (a6, .inl (cA 0, 10, .inl fd))] : va_W) ++ memW cA q mp mi ml mn mk mf)) _ (va_part [0, 1, 10, 2, 3, 4, 5, 6, 7] rfl)
      have hDc := va_D_part (cx := [(s0, .inr (5, [.ref s1, .int (nI wn), .int (nI wc)])), (s1, .inl (cA 5, 10, .inr (.inr (.inr (.inr FR))))), (oX0 a0 p0 a1 a3 a4 a5 a6 i6 i7 i8 i9 i10 i11 i12 i13 i14 i15 i16 i17 i18 i19), (a1, .inr (6, [.ref a2, .int (nI nx), .int (nI kp)])), (a2, .inl (cA 0, 240, .inl fr)), (a3, .inl (cA 0, 10, .inl fs)), (a4, .inl (cA 0, 10, .inl fp)), (a5, .inl (cA 0, 10, .inl ff)), (a6, .inl (cA 0, 10, .inl fd))]) hD [0, 1, 10, 2, 3, 4, 5, 6, 7] (by decide +kernel) rfl
      have hFc := va_freeP (cx := [(s0, .inr (5, [.ref s1, .int (nI wn), .int (nI wc)])), (s1, .inl (cA 5, 10, .inr (.inr (.inr (.inr FR))))), (oX0 a0 p0 a1 a3 a4 a5 a6 i6 i7 i8 i9 i10 i11 i12 i13 i14 i15 i16 i17 i18 i19), (a1, .inr (6, [.ref a2, .int (nI nx), .int (nI kp)])), (a2, .inl (cA 0, 240, .inl fr)), (a3, .inl (cA 0, 10, .inl fs)), (a4, .inl (cA 0, 10, .inl fp)), (a5, .inl (cA 0, 10, .inl ff)), (a6, .inl (cA 0, 10, .inl fd))]) hD hS hA [0, 1, 10, 2, 3, 4, 5, 6, 7] rfl
      refine va_callv (va_runV (As := [.ref a0]) (rest := []) ⟨hx, hb, hml, hown, hts⟩ (s_remember l D cA sa s0 s1 wn wc FR q mp mi ml mn mk mf a0 a1 a2 a3 a4 a5 a6 p0 i6 i7 i8 i12 i13 i14 i15 i16 i17 i18 i19 i9 i10 i11 nx kp fr fs fp ff fd H.size hnx hkp hwn hwc hFR hMB hWin) (cwV 1 hts gX9_submit_X1_remember rfl rfl rfl (by decide +kernel) ⟨(Nat.le_of_ble_eq_true rfl), (Nat.le_of_ble_eq_true rfl)⟩) ⟨Wd.blind, va_recv hK hPc (ci := 5) (q0 := 0) rfl rfl, fun U hU hW => ⟨rfl, Wd.call hPc hDc hK hC hZ hS hFc U hU hW⟩⟩ rfl rfl hl.1 rfl (lv_room (Nat.le_of_ble_eq_true rfl)) dX9_submit_30 ⟨(Nat.le_of_ble_eq_true rfl), (Nat.le_of_ble_eq_true rfl)⟩) hS (fun q _ h => hFc q h) hFc (fun u t H1 locs ht hvm hw hB hz1 hk1 hS => ?_)
      obtain ⟨qn7, qn8, fn9, fn10, fn11, fn12, fn13, fn14, hn15, hn16, hn17, hn18, hP1, hD1⟩ := hB
      rw [ht] at hP1
      obtain ⟨hP, hD⟩ := va_joinP (wr := [(oX9 h0 b0 (nI nb) p0 u0 r0 a0 t0 s0 o0), (oX3 p0 pr pb pe pg p1 (nI nd) p2 p3 p4 p5 (nI cn) p6 (nI pq) p7 p8 p9 (nI sc))]) (rx := [(s0, .inr (5, [.ref s1, .int (nI qn7), .int (nI qn8)])), (s1, .inl (cA 5, 10, .inr (.inr (.inr (.inr FR))))), (oX0 a0 p0 a1 a3 a4 a5 a6 i6 i7 i8 i9 i10 i11 i12 i13 i14 i15 i16 i17 i18 i19), (a1, .inr (6, [.ref a2, .int (nI nx), .int (nI kp)])), (a2, .inl (cA 0, 240, .inl fr)), (a3, .inl (cA 0, 10, .inl fs)), (a4, .inl (cA 0, 10, .inl fp)), (a5, .inl (cA 0, 10, .inl ff)), (a6, .inl (cA 0, 10, .inl fd))]) (pl1 := memW cA q fn9 fn10 fn11 fn12 fn13 fn14) hP hD [0, 1, 10, 2, 3, 4, 5, 6, 7] [8, 9] rfl rfl (by decide) (by decide +kernel) hk1 hFc hP1 hD1
      generalize H1 = H at hP hS ⊢
      obtain ⟨hP, hD⟩ : PDq D A (([(oX9 h0 b0 (nI nb) p0 u0 r0 a0 t0 s0 o0), (oX3 p0 pr pb pe pg p1 (nI nd) p2 p3 p4 p5 (nI cn) p6 (nI pq) p7 p8 p9 (nI sc)), (s0, .inr (5, [.ref s1, .int (nI qn7), .int (nI qn8)])), (s1, .inl (cA 5, 10, .inr (.inr (.inr (.inr FR))))), (oX0 a0 p0 a1 a3 a4 a5 a6 i6 i7 i8 i9 i10 i11 i12 i13 i14 i15 i16 i17 i18 i19), (a1, .inr (6, [.ref a2, .int (nI nx), .int (nI kp)])), (a2, .inl (cA 0, 240, .inl fr)), (a3, .inl (cA 0, 10, .inl fs)), (a4, .inl (cA 0, 10, .inl fp)), (a5, .inl (cA 0, 10, .inl ff)), (a6, .inl (cA 0, 10, .inl fd))] : va_W) ++ memW cA q fn9 fn10 fn11 fn12 fn13 fn14) H := ⟨hP, hD⟩
      refine lv_aload_n hx hb dX9_submit_33 rfl (lv_at hl 1 rfl) ?_
      refine va_get (D := D) (ci := 10) (v := .ref a0) (C := RX9) (T := TX9) (N := 9) hx hb hts inX9 hown hK hP 0 rfl rfl 5 (by decide) (hts (.fieldLink RX9 35 "EscrowDesk" "account" "LEscrowDesk$Account;") (by decide +kernel)) (fun _ h9 => h9) rfl dX9_submit_34 ?_
      refine lv_dup hx hb dX9_submit_37 rfl ?_
      refine va_getN (D := D) (ci := 4) (v := .int i18) (C := RX0) (T := TX0) (N := 20) hx hb hts inX0 hown hK hP 4 rfl rfl 18 (by decide) (hC.f (A := _) (a := RX9) (i := 150) (b := "EscrowDesk$Account") (n := "submittedSet") (d := "I") (x := "EscrowDesk") (by decide +kernel)) (fun _ h9 => h9) rfl dX9_submit_38 ?_
      refine lv_iconst (v := 1) hx hb dX9_submit_41 (by decide) ?_
      refine lv_iload_n hx hb dX9_submit_42 rfl (lv_at hl 2 rfl) ?_
      refine lv_ishl hx hb dX9_submit_43 ?_
      refine lv_topi (fun yn19 eyn19 => ?_)
      refine lv_ior hx hb dX9_submit_44 ?_
      refine lv_topi (fun yn20 eyn20 => ?_)
      refine va_putN (D := D) (ci := 4) (v := .int yn20) (ty := .int) (C := RX0) (T := TX0) (N := 20) hx hb hts inX0 tyX0 tyX0_ok nmX0 hown hK hP hD hS 4 rfl rfl 18 (by decide) (hC.f (A := _) (a := RX9) (i := 150) (b := "EscrowDesk$Account") (n := "submittedSet") (d := "I") (x := "EscrowDesk") (by decide +kernel)) (fun _ h9 => h9) rfl (by decide +kernel) rfl rfl (Nat.le_of_ble_eq_true rfl) dX9_submit_45 (fun H locs hP hD hS => ?_)
      obtain ⟨hP, hD⟩ : PDq D A (([(oX9 h0 b0 (nI nb) p0 u0 r0 a0 t0 s0 o0), (oX3 p0 pr pb pe pg p1 (nI nd) p2 p3 p4 p5 (nI cn) p6 (nI pq) p7 p8 p9 (nI sc)), (s0, .inr (5, [.ref s1, .int (nI qn7), .int (nI qn8)])), (s1, .inl (cA 5, 10, .inr (.inr (.inr (.inr FR))))), (oX0 a0 p0 a1 a3 a4 a5 a6 i6 i7 i8 i9 i10 i11 i12 i13 i14 i15 i16 i17 yn20 i19), (a1, .inr (6, [.ref a2, .int (nI nx), .int (nI kp)])), (a2, .inl (cA 0, 240, .inl fr)), (a3, .inl (cA 0, 10, .inl fs)), (a4, .inl (cA 0, 10, .inl fp)), (a5, .inl (cA 0, 10, .inl ff)), (a6, .inl (cA 0, 10, .inl fd))] : va_W) ++ memW cA q fn9 fn10 fn11 fn12 fn13 fn14) H := ⟨hP, hD⟩
      refine lv_iload_n hx hb dX9_submit_48 rfl (lv_at hl 0 rfl) ?_
      have hP9 := hP.by (ws' := (([(oX9 h0 b0 (nI nb) p0 u0 r0 a0 t0 s0 o0), (s0, .inr (5, [.ref s1, .int (nI qn7), .int (nI qn8)])), (s1, .inl (cA 5, 10, .inr (.inr (.inr (.inr FR))))), (oX0 a0 p0 a1 a3 a4 a5 a6 i6 i7 i8 i9 i10 i11 i12 i13 i14 i15 i16 i17 yn20 i19), (a1, .inr (6, [.ref a2, .int (nI nx), .int (nI kp)])), (a2, .inl (cA 0, 240, .inl fr)), (a3, .inl (cA 0, 10, .inl fs)), (a4, .inl (cA 0, 10, .inl fp)), (a5, .inl (cA 0, 10, .inl ff)), (a6, .inl (cA 0, 10, .inl fd)), (oX3 p0 pr pb pe pg p1 (nI nd) p2 p3 p4 p5 (nI cn) p6 (nI pq) p7 p8 p9 (nI sc))] : va_W) ++ memW cA q fn9 fn10 fn11 fn12 fn13 fn14)) _ (va_part [0, 2, 3, 4, 5, 6, 7, 8, 9, 10, 1] rfl)
      have hD9 := va_D_part (cx := [(oX9 h0 b0 (nI nb) p0 u0 r0 a0 t0 s0 o0), (s0, .inr (5, [.ref s1, .int (nI qn7), .int (nI qn8)])), (s1, .inl (cA 5, 10, .inr (.inr (.inr (.inr FR))))), (oX0 a0 p0 a1 a3 a4 a5 a6 i6 i7 i8 i9 i10 i11 i12 i13 i14 i15 i16 i17 yn20 i19), (a1, .inr (6, [.ref a2, .int (nI nx), .int (nI kp)])), (a2, .inl (cA 0, 240, .inl fr)), (a3, .inl (cA 0, 10, .inl fs)), (a4, .inl (cA 0, 10, .inl fp)), (a5, .inl (cA 0, 10, .inl ff)), (a6, .inl (cA 0, 10, .inl fd)), (oX3 p0 pr pb pe pg p1 (nI nd) p2 p3 p4 p5 (nI cn) p6 (nI pq) p7 p8 p9 (nI sc))]) hD [0, 2, 3, 4, 5, 6, 7, 8, 9, 10, 1] (by decide +kernel) rfl
      refine W.widen (k := 1) (n := 6) (Nat.le_of_ble_eq_true rfl) (Nat.le_of_ble_eq_true rfl) ?_
      exact vx_ret (W.zret (v := 0) hx hb hr (by first | rfl | decide) (fun t ht hW => ⟨⟨0, (), rfl, (by first | exact Or.inl rfl | exact Or.inr rfl), qn7, qn8, fn9, fn10, fn11, fn12, fn13, fn14, i6, i7, i8, i12, i13, i14, i15, i16, i17, yn20, i19, i9, i10, i11, nx, kp, fr, fs, fp, ff, fd, hn15, hn16, hn17, hn18, hnx, hkp, by rw [ht]; exact hP9, hD9⟩, hS.F ht⟩) hS.2.2 dX9_submit_49)
    · skip
      refine lv_iconst (v := 1) hx hb dX9_submit_16 (by decide) ?_
      refine lv_goto (tgt := 21) hx hb dX9_submit_17 (by decide) ?_
      refine lv_istore_n (lv' := [(2, .int 1), (0, .ref h0), (1, .int (nI qn1))]) hx hb dX9_submit_21 rfl hl (by decide) rfl (fun ls hl => ?_)
      refine lv_aload_n hx hb dX9_submit_22 rfl (lv_at hl 1 rfl) ?_
      refine va_get (D := D) (ci := 10) (v := .ref s0) (C := RX9) (T := TX9) (N := 9) hx hb hts inX9 hown hK hP 8 rfl rfl 7 (by decide) (hts (.fieldLink RX9 45 "EscrowDesk" "history" "LEscrowDesk$History;") (by decide +kernel)) (fun _ h9 => h9) rfl dX9_submit_23 ?_
      refine lv_aload_n hx hb dX9_submit_26 rfl (lv_at hl 1 rfl) ?_
      refine va_get (D := D) (ci := 10) (v := .ref a0) (C := RX9) (T := TX9) (N := 9) hx hb hts inX9 hown hK hP 8 rfl rfl 5 (by decide) (hts (.fieldLink RX9 35 "EscrowDesk" "account" "LEscrowDesk$Account;") (by decide +kernel)) (fun _ h9 => h9) rfl dX9_submit_27 ?_
      have hPc := hP.by (ws' := (([(s0, .inr (5, [.ref s1, .int (nI wn), .int (nI wc)])), (s1, .inl (cA 5, 10, .inr (.inr (.inr (.inr FR))))), (oX0 a0 p0 a1 a3 a4 a5 a6 i6 i7 i8 i9 i10 i11 i12 i13 i14 i15 i16 i17 i18 i19), (a1, .inr (6, [.ref a2, .int (nI nx), .int (nI kp)])), (a2, .inl (cA 0, 240, .inl fr)), (a3, .inl (cA 0, 10, .inl fs)), (a4, .inl (cA 0, 10, .inl fp)), (a5, .inl (cA 0, 10, .inl ff)), (a6, .inl (cA 0, 10, .inl fd))] : va_W) ++ memW cA q mp mi ml mn mk mf)) _ (va_part [0, 1, 10, 2, 3, 4, 5, 6, 7] rfl)
      have hDc := va_D_part (cx := [(s0, .inr (5, [.ref s1, .int (nI wn), .int (nI wc)])), (s1, .inl (cA 5, 10, .inr (.inr (.inr (.inr FR))))), (oX0 a0 p0 a1 a3 a4 a5 a6 i6 i7 i8 i9 i10 i11 i12 i13 i14 i15 i16 i17 i18 i19), (a1, .inr (6, [.ref a2, .int (nI nx), .int (nI kp)])), (a2, .inl (cA 0, 240, .inl fr)), (a3, .inl (cA 0, 10, .inl fs)), (a4, .inl (cA 0, 10, .inl fp)), (a5, .inl (cA 0, 10, .inl ff)), (a6, .inl (cA 0, 10, .inl fd))]) hD [0, 1, 10, 2, 3, 4, 5, 6, 7] (by decide +kernel) rfl
      have hFc := va_freeP (cx := [(s0, .inr (5, [.ref s1, .int (nI wn), .int (nI wc)])), (s1, .inl (cA 5, 10, .inr (.inr (.inr (.inr FR))))), (oX0 a0 p0 a1 a3 a4 a5 a6 i6 i7 i8 i9 i10 i11 i12 i13 i14 i15 i16 i17 i18 i19), (a1, .inr (6, [.ref a2, .int (nI nx), .int (nI kp)])), (a2, .inl (cA 0, 240, .inl fr)), (a3, .inl (cA 0, 10, .inl fs)), (a4, .inl (cA 0, 10, .inl fp)), (a5, .inl (cA 0, 10, .inl ff)), (a6, .inl (cA 0, 10, .inl fd))]) hD hS hA [0, 1, 10, 2, 3, 4, 5, 6, 7] rfl
      refine va_callv (va_runV (As := [.ref a0]) (rest := []) ⟨hx, hb, hml, hown, hts⟩ (s_remember l D cA sa s0 s1 wn wc FR q mp mi ml mn mk mf a0 a1 a2 a3 a4 a5 a6 p0 i6 i7 i8 i12 i13 i14 i15 i16 i17 i18 i19 i9 i10 i11 nx kp fr fs fp ff fd H.size hnx hkp hwn hwc hFR hMB hWin) (cwV 1 hts gX9_submit_X1_remember rfl rfl rfl (by decide +kernel) ⟨(Nat.le_of_ble_eq_true rfl), (Nat.le_of_ble_eq_true rfl)⟩) ⟨Wd.blind, va_recv hK hPc (ci := 5) (q0 := 0) rfl rfl, fun U hU hW => ⟨rfl, Wd.call hPc hDc hK hC hZ hS hFc U hU hW⟩⟩ rfl rfl hl.1 rfl (lv_room (Nat.le_of_ble_eq_true rfl)) dX9_submit_30 ⟨(Nat.le_of_ble_eq_true rfl), (Nat.le_of_ble_eq_true rfl)⟩) hS (fun q _ h => hFc q h) hFc (fun u t H1 locs ht hvm hw hB hz1 hk1 hS => ?_)
      obtain ⟨qn21, qn22, fn23, fn24, fn25, fn26, fn27, fn28, hn29, hn30, hn31, hn32, hP1, hD1⟩ := hB
      rw [ht] at hP1
      obtain ⟨hP, hD⟩ := va_joinP (wr := [(oX9 h0 b0 (nI nb) p0 u0 r0 a0 t0 s0 o0), (oX3 p0 pr pb pe pg p1 (nI nd) p2 p3 p4 p5 (nI cn) p6 (nI pq) p7 p8 p9 (nI sc))]) (rx := [(s0, .inr (5, [.ref s1, .int (nI qn21), .int (nI qn22)])), (s1, .inl (cA 5, 10, .inr (.inr (.inr (.inr FR))))), (oX0 a0 p0 a1 a3 a4 a5 a6 i6 i7 i8 i9 i10 i11 i12 i13 i14 i15 i16 i17 i18 i19), (a1, .inr (6, [.ref a2, .int (nI nx), .int (nI kp)])), (a2, .inl (cA 0, 240, .inl fr)), (a3, .inl (cA 0, 10, .inl fs)), (a4, .inl (cA 0, 10, .inl fp)), (a5, .inl (cA 0, 10, .inl ff)), (a6, .inl (cA 0, 10, .inl fd))]) (pl1 := memW cA q fn23 fn24 fn25 fn26 fn27 fn28) hP hD [0, 1, 10, 2, 3, 4, 5, 6, 7] [8, 9] rfl rfl (by decide) (by decide +kernel) hk1 hFc hP1 hD1
      generalize H1 = H at hP hS ⊢
      obtain ⟨hP, hD⟩ : PDq D A (([(oX9 h0 b0 (nI nb) p0 u0 r0 a0 t0 s0 o0), (oX3 p0 pr pb pe pg p1 (nI nd) p2 p3 p4 p5 (nI cn) p6 (nI pq) p7 p8 p9 (nI sc)), (s0, .inr (5, [.ref s1, .int (nI qn21), .int (nI qn22)])), (s1, .inl (cA 5, 10, .inr (.inr (.inr (.inr FR))))), (oX0 a0 p0 a1 a3 a4 a5 a6 i6 i7 i8 i9 i10 i11 i12 i13 i14 i15 i16 i17 i18 i19), (a1, .inr (6, [.ref a2, .int (nI nx), .int (nI kp)])), (a2, .inl (cA 0, 240, .inl fr)), (a3, .inl (cA 0, 10, .inl fs)), (a4, .inl (cA 0, 10, .inl fp)), (a5, .inl (cA 0, 10, .inl ff)), (a6, .inl (cA 0, 10, .inl fd))] : va_W) ++ memW cA q fn23 fn24 fn25 fn26 fn27 fn28) H := ⟨hP, hD⟩
      refine lv_aload_n hx hb dX9_submit_33 rfl (lv_at hl 1 rfl) ?_
      refine va_get (D := D) (ci := 10) (v := .ref a0) (C := RX9) (T := TX9) (N := 9) hx hb hts inX9 hown hK hP 0 rfl rfl 5 (by decide) (hts (.fieldLink RX9 35 "EscrowDesk" "account" "LEscrowDesk$Account;") (by decide +kernel)) (fun _ h9 => h9) rfl dX9_submit_34 ?_
      refine lv_dup hx hb dX9_submit_37 rfl ?_
      refine va_getN (D := D) (ci := 4) (v := .int i18) (C := RX0) (T := TX0) (N := 20) hx hb hts inX0 hown hK hP 4 rfl rfl 18 (by decide) (hC.f (A := _) (a := RX9) (i := 150) (b := "EscrowDesk$Account") (n := "submittedSet") (d := "I") (x := "EscrowDesk") (by decide +kernel)) (fun _ h9 => h9) rfl dX9_submit_38 ?_
      refine lv_iconst (v := 1) hx hb dX9_submit_41 (by decide) ?_
      refine lv_iload_n hx hb dX9_submit_42 rfl (lv_at hl 2 rfl) ?_
      refine lv_ishl hx hb dX9_submit_43 ?_
      refine lv_topi (fun yn33 eyn33 => ?_)
      refine lv_ior hx hb dX9_submit_44 ?_
      refine lv_topi (fun yn34 eyn34 => ?_)
      refine va_putN (D := D) (ci := 4) (v := .int yn34) (ty := .int) (C := RX0) (T := TX0) (N := 20) hx hb hts inX0 tyX0 tyX0_ok nmX0 hown hK hP hD hS 4 rfl rfl 18 (by decide) (hC.f (A := _) (a := RX9) (i := 150) (b := "EscrowDesk$Account") (n := "submittedSet") (d := "I") (x := "EscrowDesk") (by decide +kernel)) (fun _ h9 => h9) rfl (by decide +kernel) rfl rfl (Nat.le_of_ble_eq_true rfl) dX9_submit_45 (fun H locs hP hD hS => ?_)
      obtain ⟨hP, hD⟩ : PDq D A (([(oX9 h0 b0 (nI nb) p0 u0 r0 a0 t0 s0 o0), (oX3 p0 pr pb pe pg p1 (nI nd) p2 p3 p4 p5 (nI cn) p6 (nI pq) p7 p8 p9 (nI sc)), (s0, .inr (5, [.ref s1, .int (nI qn21), .int (nI qn22)])), (s1, .inl (cA 5, 10, .inr (.inr (.inr (.inr FR))))), (oX0 a0 p0 a1 a3 a4 a5 a6 i6 i7 i8 i9 i10 i11 i12 i13 i14 i15 i16 i17 yn34 i19), (a1, .inr (6, [.ref a2, .int (nI nx), .int (nI kp)])), (a2, .inl (cA 0, 240, .inl fr)), (a3, .inl (cA 0, 10, .inl fs)), (a4, .inl (cA 0, 10, .inl fp)), (a5, .inl (cA 0, 10, .inl ff)), (a6, .inl (cA 0, 10, .inl fd))] : va_W) ++ memW cA q fn23 fn24 fn25 fn26 fn27 fn28) H := ⟨hP, hD⟩
      refine lv_iload_n hx hb dX9_submit_48 rfl (lv_at hl 0 rfl) ?_
      have hP9 := hP.by (ws' := (([(oX9 h0 b0 (nI nb) p0 u0 r0 a0 t0 s0 o0), (s0, .inr (5, [.ref s1, .int (nI qn21), .int (nI qn22)])), (s1, .inl (cA 5, 10, .inr (.inr (.inr (.inr FR))))), (oX0 a0 p0 a1 a3 a4 a5 a6 i6 i7 i8 i9 i10 i11 i12 i13 i14 i15 i16 i17 yn34 i19), (a1, .inr (6, [.ref a2, .int (nI nx), .int (nI kp)])), (a2, .inl (cA 0, 240, .inl fr)), (a3, .inl (cA 0, 10, .inl fs)), (a4, .inl (cA 0, 10, .inl fp)), (a5, .inl (cA 0, 10, .inl ff)), (a6, .inl (cA 0, 10, .inl fd)), (oX3 p0 pr pb pe pg p1 (nI nd) p2 p3 p4 p5 (nI cn) p6 (nI pq) p7 p8 p9 (nI sc))] : va_W) ++ memW cA q fn23 fn24 fn25 fn26 fn27 fn28)) _ (va_part [0, 2, 3, 4, 5, 6, 7, 8, 9, 10, 1] rfl)
      have hD9 := va_D_part (cx := [(oX9 h0 b0 (nI nb) p0 u0 r0 a0 t0 s0 o0), (s0, .inr (5, [.ref s1, .int (nI qn21), .int (nI qn22)])), (s1, .inl (cA 5, 10, .inr (.inr (.inr (.inr FR))))), (oX0 a0 p0 a1 a3 a4 a5 a6 i6 i7 i8 i9 i10 i11 i12 i13 i14 i15 i16 i17 yn34 i19), (a1, .inr (6, [.ref a2, .int (nI nx), .int (nI kp)])), (a2, .inl (cA 0, 240, .inl fr)), (a3, .inl (cA 0, 10, .inl fs)), (a4, .inl (cA 0, 10, .inl fp)), (a5, .inl (cA 0, 10, .inl ff)), (a6, .inl (cA 0, 10, .inl fd)), (oX3 p0 pr pb pe pg p1 (nI nd) p2 p3 p4 p5 (nI cn) p6 (nI pq) p7 p8 p9 (nI sc))]) hD [0, 2, 3, 4, 5, 6, 7, 8, 9, 10, 1] (by decide +kernel) rfl
      refine W.widen (k := 1) (n := 6) (Nat.le_of_ble_eq_true rfl) (Nat.le_of_ble_eq_true rfl) ?_
      exact vx_ret (W.zret (v := 1) hx hb hr (by first | rfl | decide) (fun t ht hW => ⟨⟨1, (), rfl, (by first | exact Or.inl rfl | exact Or.inr rfl), qn21, qn22, fn23, fn24, fn25, fn26, fn27, fn28, i6, i7, i8, i12, i13, i14, i15, i16, i17, yn34, i19, i9, i10, i11, nx, kp, fr, fs, fp, ff, fd, hn29, hn30, hn31, hn32, hnx, hkp, by rw [ht]; exact hP9, hD9⟩, hS.F ht⟩) hS.2.2 dX9_submit_49)

set_option maxHeartbeats 4000000 in
set_option maxRecDepth 100000 in
/-- approve -/
theorem s_approve (l : Launch) (D : va_G) (cA : Nat → ClassId) (sa : Nat → Nat) (h0 : Nat) (b0 : Nat) (nb : Nat) (p0 : Nat) (u0 : Nat) (r0 : Nat) (a0 : Nat) (t0 : Nat) (s0 : Nat) (o0 : Nat) (s1 : Nat) (wn : Nat) (wc : Nat) (FR : Nat → Option Nat) (q : Nat → Nat → Nat) (mp : Nat → Nat) (mi : Nat → Nat → Int32) (ml : Nat → Nat → Int64) (mn : Nat → Nat) (mk : Nat → Nat) (mf : Nat → Nat → Nat → Int32) (a1 : Nat) (a2 : Nat) (a3 : Nat) (a4 : Nat) (a5 : Nat) (a6 : Nat) (i6 : Int32) (i7 : Int32) (i8 : Int32) (i12 : Int32) (i13 : Int32) (i14 : Int32) (i15 : Int32) (i16 : Int32) (i17 : Int32) (i18 : Int32) (i19 : Int32) (i9 : Int64) (i10 : Int64) (i11 : Int64) (nx : Nat) (kp : Nat) (fr : Nat → Int32) (fs : Nat → Int32) (fp : Nat → Int32) (ff : Nat → Int32) (fd : Nat → Int32) (p1 : Nat) (p2 : Nat) (p3 : Nat) (p4 : Nat) (p5 : Nat) (p6 : Nat) (p7 : Nat) (p8 : Nat) (p9 : Nat) (cn : Nat) (pq : Nat) (nd : Nat) (sc : Nat) (pr : Int32) (pb : Int32) (pe : Int32) (pg : Int32) (fen : Nat → Int32) (fst : Nat → Int32) (fop : Nat → Int32) (i : Int32) (sz : Nat) (hl9 : l.stackTraces = false) (hnx : nx < 60) (hkp : kp ≤ 60) (hwn : wn < 10) (hwc : wc ≤ 10) (hFR : FRq q FR) (hMB : MB mn mk) (hWin : Win p0 wn wc mp) (hcn : cn ≤ 10) (hpq : pq ≤ 8) (hnd : nd ≤ 6) (hsc : sc ≤ 350) (hen : Rng 10 351 fen) : vx_Met l yX9_approve wsX9_approve ({ frames := 8, cells := 2, slots := 12, locals := 132 }) (va_Pc [.ref h0, .int i] (Wd D cA sa (([(oX9 h0 b0 (nI nb) p0 u0 r0 a0 t0 s0 o0), (s0, .inr (5, [.ref s1, .int (nI wn), .int (nI wc)])), (s1, .inl (cA 5, 10, .inr (.inr (.inr (.inr FR))))), (oX0 a0 p0 a1 a3 a4 a5 a6 i6 i7 i8 i9 i10 i11 i12 i13 i14 i15 i16 i17 i18 i19), (a1, .inr (6, [.ref a2, .int (nI nx), .int (nI kp)])), (a2, .inl (cA 0, 240, .inl fr)), (a3, .inl (cA 0, 10, .inl fs)), (a4, .inl (cA 0, 10, .inl fp)), (a5, .inl (cA 0, 10, .inl ff)), (a6, .inl (cA 0, 10, .inl fd)), (oX3 p0 pr pb pe pg p1 (nI nd) p2 p3 p4 p5 (nI cn) p6 (nI pq) p7 p8 p9 (nI sc)), (p9, .inl (cA 0, 10, .inl fen)), (p7, .inl (cA 0, 350, .inl fst)), (p8, .inl (cA 0, 350, .inl fop))] : va_W) ++ memW cA q mp mi ml mn mk mf) sz)) (va_Qi (fun (r : Int32) (_ : Unit) => r = 0 ∨ r = 1) (fun (_ : Unit) t => ∃ wn2 : Nat, ∃ wc2 : Nat, ∃ mp2 : Nat → Nat, ∃ mi2 : Nat → Nat → Int32, ∃ ml2 : Nat → Nat → Int64, ∃ mn2 : Nat → Nat, ∃ mk2 : Nat → Nat, ∃ mf2 : Nat → Nat → Nat → Int32, ∃ z6 : Int32, ∃ z7 : Int32, ∃ z8 : Int32, ∃ z12 : Int32, ∃ z13 : Int32, ∃ z14 : Int32, ∃ z15 : Int32, ∃ z16 : Int32, ∃ z17 : Int32, ∃ z18 : Int32, ∃ z19 : Int32, ∃ z9 : Int64, ∃ z10 : Int64, ∃ z11 : Int64, ∃ ny : Nat, ∃ ky : Nat, ∃ zr : Nat → Int32, ∃ zs : Nat → Int32, ∃ zp : Nat → Int32, ∃ zf : Nat → Int32, ∃ zd : Nat → Int32, wn2 < 10 ∧ wc2 ≤ 10 ∧ MB mn2 mk2 ∧ Win p0 wn2 wc2 mp2 ∧ ny < 60 ∧ ky ≤ 60 ∧ Wq D (va_A (([(oX9 h0 b0 (nI nb) p0 u0 r0 a0 t0 s0 o0), (s0, .inr (5, [.ref s1, .int (nI wn), .int (nI wc)])), (s1, .inl (cA 5, 10, .inr (.inr (.inr (.inr FR))))), (oX0 a0 p0 a1 a3 a4 a5 a6 i6 i7 i8 i9 i10 i11 i12 i13 i14 i15 i16 i17 i18 i19), (a1, .inr (6, [.ref a2, .int (nI nx), .int (nI kp)])), (a2, .inl (cA 0, 240, .inl fr)), (a3, .inl (cA 0, 10, .inl fs)), (a4, .inl (cA 0, 10, .inl fp)), (a5, .inl (cA 0, 10, .inl ff)), (a6, .inl (cA 0, 10, .inl fd)), (oX3 p0 pr pb pe pg p1 (nI nd) p2 p3 p4 p5 (nI cn) p6 (nI pq) p7 p8 p9 (nI sc)), (p9, .inl (cA 0, 10, .inl fen)), (p7, .inl (cA 0, 350, .inl fst)), (p8, .inl (cA 0, 350, .inl fop))] : va_W) ++ memW cA q mp mi ml mn mk mf) sz) (([(oX9 h0 b0 (nI nb) p0 u0 r0 a0 t0 s0 o0), (s0, .inr (5, [.ref s1, .int (nI wn2), .int (nI wc2)])), (s1, .inl (cA 5, 10, .inr (.inr (.inr (.inr FR))))), (oX0 a0 p0 a1 a3 a4 a5 a6 z6 z7 z8 z9 z10 z11 z12 z13 z14 z15 z16 z17 z18 z19), (a1, .inr (6, [.ref a2, .int (nI ny), .int (nI ky)])), (a2, .inl (cA 0, 240, .inl zr)), (a3, .inl (cA 0, 10, .inl zs)), (a4, .inl (cA 0, 10, .inl zp)), (a5, .inl (cA 0, 10, .inl zf)), (a6, .inl (cA 0, 10, .inl zd)), (oX3 p0 pr pb pe pg p1 (nI nd) p2 p3 p4 p5 (nI cn) p6 (nI pq) p7 p8 p9 (nI sc)), (p9, .inl (cA 0, 10, .inl fen)), (p7, .inl (cA 0, 350, .inl fst)), (p8, .inl (cA 0, 350, .inl fop))] : va_W) ++ memW cA q mp2 mi2 ml2 mn2 mk2 mf2) t) (va_A (([(oX9 h0 b0 (nI nb) p0 u0 r0 a0 t0 s0 o0), (s0, .inr (5, [.ref s1, .int (nI wn), .int (nI wc)])), (s1, .inl (cA 5, 10, .inr (.inr (.inr (.inr FR))))), (oX0 a0 p0 a1 a3 a4 a5 a6 i6 i7 i8 i9 i10 i11 i12 i13 i14 i15 i16 i17 i18 i19), (a1, .inr (6, [.ref a2, .int (nI nx), .int (nI kp)])), (a2, .inl (cA 0, 240, .inl fr)), (a3, .inl (cA 0, 10, .inl fs)), (a4, .inl (cA 0, 10, .inl fp)), (a5, .inl (cA 0, 10, .inl ff)), (a6, .inl (cA 0, 10, .inl fd)), (oX3 p0 pr pb pe pg p1 (nI nd) p2 p3 p4 p5 (nI cn) p6 (nI pq) p7 p8 p9 (nI sc)), (p9, .inl (cA 0, 10, .inl fen)), (p7, .inl (cA 0, 350, .inl fst)), (p8, .inl (cA 0, 350, .inl fop))] : va_W) ++ memW cA q mp mi ml mn mk mf) sz)) (vx_X (fun _ : Unit => True) (fun E _ t => (E = "java/lang/IndexOutOfBoundsException" ∨ E = "java/lang/IllegalStateException") ∧ Wq D (va_A (([(oX9 h0 b0 (nI nb) p0 u0 r0 a0 t0 s0 o0), (s0, .inr (5, [.ref s1, .int (nI wn), .int (nI wc)])), (s1, .inl (cA 5, 10, .inr (.inr (.inr (.inr FR))))), (oX0 a0 p0 a1 a3 a4 a5 a6 i6 i7 i8 i9 i10 i11 i12 i13 i14 i15 i16 i17 i18 i19), (a1, .inr (6, [.ref a2, .int (nI nx), .int (nI kp)])), (a2, .inl (cA 0, 240, .inl fr)), (a3, .inl (cA 0, 10, .inl fs)), (a4, .inl (cA 0, 10, .inl fp)), (a5, .inl (cA 0, 10, .inl ff)), (a6, .inl (cA 0, 10, .inl fd)), (oX3 p0 pr pb pe pg p1 (nI nd) p2 p3 p4 p5 (nI cn) p6 (nI pq) p7 p8 p9 (nI sc)), (p9, .inl (cA 0, 10, .inl fen)), (p7, .inl (cA 0, 350, .inl fst)), (p8, .inl (cA 0, 350, .inl fop))] : va_W) ++ memW cA q mp mi ml mn mk mf) sz) (([(oX9 h0 b0 (nI nb) p0 u0 r0 a0 t0 s0 o0), (s0, .inr (5, [.ref s1, .int (nI wn), .int (nI wc)])), (s1, .inl (cA 5, 10, .inr (.inr (.inr (.inr FR))))), (oX0 a0 p0 a1 a3 a4 a5 a6 i6 i7 i8 i9 i10 i11 i12 i13 i14 i15 i16 i17 i18 i19), (a1, .inr (6, [.ref a2, .int (nI nx), .int (nI kp)])), (a2, .inl (cA 0, 240, .inl fr)), (a3, .inl (cA 0, 10, .inl fs)), (a4, .inl (cA 0, 10, .inl fp)), (a5, .inl (cA 0, 10, .inl ff)), (a6, .inl (cA 0, 10, .inl fd)), (oX3 p0 pr pb pe pg p1 (nI nd) p2 p3 p4 p5 (nI cn) p6 (nI pq) p7 p8 p9 (nI sc)), (p9, .inl (cA 0, 10, .inl fen)), (p7, .inl (cA 0, 350, .inl fst)), (p8, .inl (cA 0, 350, .inl fop))] : va_W) ++ memW cA q mp mi ml mn mk mf) t) (va_A (([(oX9 h0 b0 (nI nb) p0 u0 r0 a0 t0 s0 o0), (s0, .inr (5, [.ref s1, .int (nI wn), .int (nI wc)])), (s1, .inl (cA 5, 10, .inr (.inr (.inr (.inr FR))))), (oX0 a0 p0 a1 a3 a4 a5 a6 i6 i7 i8 i9 i10 i11 i12 i13 i14 i15 i16 i17 i18 i19), (a1, .inr (6, [.ref a2, .int (nI nx), .int (nI kp)])), (a2, .inl (cA 0, 240, .inl fr)), (a3, .inl (cA 0, 10, .inl fs)), (a4, .inl (cA 0, 10, .inl fp)), (a5, .inl (cA 0, 10, .inl ff)), (a6, .inl (cA 0, 10, .inl fd)), (oX3 p0 pr pb pe pg p1 (nI nd) p2 p3 p4 p5 (nI cn) p6 (nI pq) p7 p8 p9 (nI sc)), (p9, .inl (cA 0, 10, .inl fen)), (p7, .inl (cA 0, 350, .inl fst)), (p8, .inl (cA 0, 350, .inl fop))] : va_W) ++ memW cA q mp mi ml mn mk mf) sz)) 2 12 (va_A (([(oX9 h0 b0 (nI nb) p0 u0 r0 a0 t0 s0 o0), (s0, .inr (5, [.ref s1, .int (nI wn), .int (nI wc)])), (s1, .inl (cA 5, 10, .inr (.inr (.inr (.inr FR))))), (oX0 a0 p0 a1 a3 a4 a5 a6 i6 i7 i8 i9 i10 i11 i12 i13 i14 i15 i16 i17 i18 i19), (a1, .inr (6, [.ref a2, .int (nI nx), .int (nI kp)])), (a2, .inl (cA 0, 240, .inl fr)), (a3, .inl (cA 0, 10, .inl fs)), (a4, .inl (cA 0, 10, .inl fp)), (a5, .inl (cA 0, 10, .inl ff)), (a6, .inl (cA 0, 10, .inl fd)), (oX3 p0 pr pb pe pg p1 (nI nd) p2 p3 p4 p5 (nI cn) p6 (nI pq) p7 p8 p9 (nI sc)), (p9, .inl (cA 0, 10, .inl fen)), (p7, .inl (cA 0, 350, .inl fst)), (p8, .inl (cA 0, 350, .inl fop))] : va_W) ++ memW cA q mp mi ml mn mk mf) sz) := by
  refine vx_ofW (cc := cX9_approve) (maxL := 2) (ret := (some .boolean)) (by decide) rfl ?_
  intro p e s m args below meth c s₁ B hml hno hv
  obtain ⟨rfl, hsz, hP, hK, hD0, hC, hZ⟩ := hv
  have hx := B.exec
  have hb := B.bytes
  have hr := B.returns
  have hts := atoms_spec (ws := wsX9_approve) B.pre
  have hown : s.vm.findClass RX9 = some m.cls := findClass_of_methodNamed B.named
  have hlocks := B.notSynchronized
  subst hsz
  have hD := hD0.self (sz := s.heap.size)
  generalize hAe : va_A (([(oX9 h0 b0 (nI nb) p0 u0 r0 a0 t0 s0 o0), (s0, .inr (5, [.ref s1, .int (nI wn), .int (nI wc)])), (s1, .inl (cA 5, 10, .inr (.inr (.inr (.inr FR))))), (oX0 a0 p0 a1 a3 a4 a5 a6 i6 i7 i8 i9 i10 i11 i12 i13 i14 i15 i16 i17 i18 i19), (a1, .inr (6, [.ref a2, .int (nI nx), .int (nI kp)])), (a2, .inl (cA 0, 240, .inl fr)), (a3, .inl (cA 0, 10, .inl fs)), (a4, .inl (cA 0, 10, .inl fp)), (a5, .inl (cA 0, 10, .inl ff)), (a6, .inl (cA 0, 10, .inl fd)), (oX3 p0 pr pb pe pg p1 (nI nd) p2 p3 p4 p5 (nI cn) p6 (nI pq) p7 p8 p9 (nI sc)), (p9, .inl (cA 0, 10, .inl fen)), (p7, .inl (cA 0, 350, .inl fst)), (p8, .inl (cA 0, 350, .inl fop))] : va_W) ++ memW cA q mp mi ml mn mk mf) s.heap.size = A at hD hZ ⊢
  have hA : ∀ q : Nat, s.heap.size ≤ q → A q := fun q h => by rw [← hAe]; exact Or.inr h
  have hS : va_S A s.heap s.heap [] := va_S.rf
  have hP : va_P D vwCl (([(oX9 h0 b0 (nI nb) p0 u0 r0 a0 t0 s0 o0), (s0, .inr (5, [.ref s1, .int (nI wn), .int (nI wc)])), (s1, .inl (cA 5, 10, .inr (.inr (.inr (.inr FR))))), (oX0 a0 p0 a1 a3 a4 a5 a6 i6 i7 i8 i9 i10 i11 i12 i13 i14 i15 i16 i17 i18 i19), (a1, .inr (6, [.ref a2, .int (nI nx), .int (nI kp)])), (a2, .inl (cA 0, 240, .inl fr)), (a3, .inl (cA 0, 10, .inl fs)), (a4, .inl (cA 0, 10, .inl fp)), (a5, .inl (cA 0, 10, .inl ff)), (a6, .inl (cA 0, 10, .inl fd)), (oX3 p0 pr pb pe pg p1 (nI nd) p2 p3 p4 p5 (nI cn) p6 (nI pq) p7 p8 p9 (nI sc)), (p9, .inl (cA 0, 10, .inl fen)), (p7, .inl (cA 0, 350, .inl fst)), (p8, .inl (cA 0, 350, .inl fop))] : va_W) ++ memW cA q mp mi ml mn mk mf) s.heap := hP
  have hl := lv_entry ([.ref h0, .int i]) (n := 2) (Nat.le_of_ble_eq_true rfl)
  rw [lg_entry_eq]
  generalize (lg_sl ([.ref h0, .int i]) ++ List.replicate (2 - (lg_sl ([.ref h0, .int i])).length) Slot.unset).toArray = ls at hl ⊢
  have hl : lv_has ls 2 [(0, .ref h0), (1, .int i)] := hl
  have inX0 : ∀ w ∈ u_ws RX0 TX0 20, w ∈ wsX9_approve := by decide +kernel
  have inX9 : ∀ w ∈ u_ws RX9 TX9 9, w ∈ wsX9_approve := by decide +kernel
  refine lv_aload_n hx hb dX9_approve_0 rfl (lv_at hl 0 rfl) ?_
  refine lv_iload_n hx hb dX9_approve_1 rfl (lv_at hl 1 rfl) ?_
  obtain ⟨hPc, hDc, hFc⟩ := PDq.cut (wc := [(oX9 h0 b0 (nI nb) p0 u0 r0 a0 t0 s0 o0), (oX3 p0 pr pb pe pg p1 (nI nd) p2 p3 p4 p5 (nI cn) p6 (nI pq) p7 p8 p9 (nI sc))]) (cq_P hP) (cq_D hD) hS hA [0, 10] (by decide) rfl
  refine vx_callv (vx_runV (As := [.int i]) (rest := []) ⟨hx, hb, hml, hown, hts⟩ (s_needMilestone l D cA sa h0 b0 nb p0 u0 r0 a0 t0 s0 o0 p1 p2 p3 p4 p5 p6 p7 p8 p9 cn pq nd sc pr pb pe pg i s.heap.size hl9 hcn hpq hnd hsc) (cwV 1 hts gX9_approve_X9_needMilestone rfl rfl rfl (by decide +kernel) ⟨(Nat.le_of_ble_eq_true rfl), (Nat.le_of_ble_eq_true rfl)⟩) ⟨Wd.blind, va_recv hK hPc (ci := 10) (q0 := 0) rfl rfl, fun U hU hW => ⟨rfl, Wd.call hPc hDc hK hC hZ hS hFc U hU hW⟩⟩ rfl rfl hl.1 rfl (lv_room (Nat.le_of_ble_eq_true rfl)) dX9_approve_2 ⟨(Nat.le_of_ble_eq_true rfl), (Nat.le_of_ble_eq_true rfl)⟩) hS (fun q _ h => hFc q h) hFc (fun q _ h => hFc q h) (fun E ce q9 u t H1 locs ht hvm hpx hE hz1 hk1 hS hcell hv9 hcl => ?_) (fun u t H1 locs ht hvm hw hB hz1 hk1 hS => ?_)
  · skip
    obtain ⟨hE, hP1, hD1⟩ := hE
    rw [ht] at hP1
    obtain ⟨hP, hD⟩ := PDq.joinQ (w := [(s0, .inr (5, [.ref s1, .int (nI wn), .int (nI wc)])), (s1, .inl (cA 5, 10, .inr (.inr (.inr (.inr FR))))), (oX0 a0 p0 a1 a3 a4 a5 a6 i6 i7 i8 i9 i10 i11 i12 i13 i14 i15 i16 i17 i18 i19), (a1, .inr (6, [.ref a2, .int (nI nx), .int (nI kp)])), (a2, .inl (cA 0, 240, .inl fr)), (a3, .inl (cA 0, 10, .inl fs)), (a4, .inl (cA 0, 10, .inl fp)), (a5, .inl (cA 0, 10, .inl ff)), (a6, .inl (cA 0, 10, .inl fd)), (p9, .inl (cA 0, 10, .inl fen)), (p7, .inl (cA 0, 350, .inl fst)), (p8, .inl (cA 0, 350, .inl fop)), (oX9 h0 b0 (nI nb) p0 u0 r0 a0 t0 s0 o0), (oX3 p0 pr pb pe pg p1 (nI nd) p2 p3 p4 p5 (nI cn) p6 (nI pq) p7 p8 p9 (nI sc))]) 12 hP hD [0, 10] [1, 2, 3, 4, 5, 6, 7, 8, 9, 11, 12, 13] rfl rfl (by decide +kernel) (by decide +kernel) hk1 hFc hP1 hD1 rfl
    generalize H1 = H at hP hS hcell ⊢
    have hP9 := hP.by (ws' := (([(oX9 h0 b0 (nI nb) p0 u0 r0 a0 t0 s0 o0), (s0, .inr (5, [.ref s1, .int (nI wn), .int (nI wc)])), (s1, .inl (cA 5, 10, .inr (.inr (.inr (.inr FR))))), (oX0 a0 p0 a1 a3 a4 a5 a6 i6 i7 i8 i9 i10 i11 i12 i13 i14 i15 i16 i17 i18 i19), (a1, .inr (6, [.ref a2, .int (nI nx), .int (nI kp)])), (a2, .inl (cA 0, 240, .inl fr)), (a3, .inl (cA 0, 10, .inl fs)), (a4, .inl (cA 0, 10, .inl fp)), (a5, .inl (cA 0, 10, .inl ff)), (a6, .inl (cA 0, 10, .inl fd)), (oX3 p0 pr pb pe pg p1 (nI nd) p2 p3 p4 p5 (nI cn) p6 (nI pq) p7 p8 p9 (nI sc)), (p9, .inl (cA 0, 10, .inl fen)), (p7, .inl (cA 0, 350, .inl fst)), (p8, .inl (cA 0, 350, .inl fop))] : va_W) ++ memW cA q mp mi ml mn mk mf)) _ (va_part [12, 0, 1, 2, 3, 4, 5, 6, 7, 8, 13, 9, 10, 11] rfl)
    have hD9 := va_D_part (cx := [(oX9 h0 b0 (nI nb) p0 u0 r0 a0 t0 s0 o0), (s0, .inr (5, [.ref s1, .int (nI wn), .int (nI wc)])), (s1, .inl (cA 5, 10, .inr (.inr (.inr (.inr FR))))), (oX0 a0 p0 a1 a3 a4 a5 a6 i6 i7 i8 i9 i10 i11 i12 i13 i14 i15 i16 i17 i18 i19), (a1, .inr (6, [.ref a2, .int (nI nx), .int (nI kp)])), (a2, .inl (cA 0, 240, .inl fr)), (a3, .inl (cA 0, 10, .inl fs)), (a4, .inl (cA 0, 10, .inl fp)), (a5, .inl (cA 0, 10, .inl ff)), (a6, .inl (cA 0, 10, .inl fd)), (oX3 p0 pr pb pe pg p1 (nI nd) p2 p3 p4 p5 (nI cn) p6 (nI pq) p7 p8 p9 (nI sc)), (p9, .inl (cA 0, 10, .inl fen)), (p7, .inl (cA 0, 350, .inl fst)), (p8, .inl (cA 0, 350, .inl fop))]) hD [12, 0, 1, 2, 3, 4, 5, 6, 7, 8, 13, 9, 10, 11] (by decide +kernel) rfl
    exact vx_out (fun x h => (hno x h).elim) hlocks hcell hv9 hcl (fun t ht hvm => ⟨(), trivial, ⟨(by rw [hE]; simp), by rw [ht]; exact hP9, hD9⟩, hS.F ht⟩) hS.2.2 (Nat.le_of_ble_eq_true rfl) (Nat.le_of_ble_eq_true rfl)
  · skip
    obtain ⟨qn1, hn2, hn3, hP1, hD1⟩ := hB
    rw [ht] at hP1
    obtain ⟨hP, hD⟩ := PDq.joinQ (w := [(s0, .inr (5, [.ref s1, .int (nI wn), .int (nI wc)])), (s1, .inl (cA 5, 10, .inr (.inr (.inr (.inr FR))))), (oX0 a0 p0 a1 a3 a4 a5 a6 i6 i7 i8 i9 i10 i11 i12 i13 i14 i15 i16 i17 i18 i19), (a1, .inr (6, [.ref a2, .int (nI nx), .int (nI kp)])), (a2, .inl (cA 0, 240, .inl fr)), (a3, .inl (cA 0, 10, .inl fs)), (a4, .inl (cA 0, 10, .inl fp)), (a5, .inl (cA 0, 10, .inl ff)), (a6, .inl (cA 0, 10, .inl fd)), (p9, .inl (cA 0, 10, .inl fen)), (p7, .inl (cA 0, 350, .inl fst)), (p8, .inl (cA 0, 350, .inl fop)), (oX9 h0 b0 (nI nb) p0 u0 r0 a0 t0 s0 o0), (oX3 p0 pr pb pe pg p1 (nI nd) p2 p3 p4 p5 (nI cn) p6 (nI pq) p7 p8 p9 (nI sc))]) 12 hP hD [0, 10] [1, 2, 3, 4, 5, 6, 7, 8, 9, 11, 12, 13] rfl rfl (by decide +kernel) (by decide +kernel) hk1 hFc hP1 hD1 rfl
    generalize H1 = H at hP hS ⊢
    rw [hn3] at hl
    have hl : lv_has ls 2 [(0, .ref h0), (1, .int (nI qn1))] := hl
    refine lv_aload_n hx hb dX9_approve_5 rfl (lv_at hl 0 rfl) ?_
    refine va_get (D := D) (ci := 10) (v := .ref a0) (C := RX9) (T := TX9) (N := 9) hx hb hts inX9 hown hK hP 12 rfl rfl 5 (by decide) (hts (.fieldLink RX9 35 "EscrowDesk" "account" "LEscrowDesk$Account;") (by decide +kernel)) (fun _ h9 => h9) rfl dX9_approve_6 ?_
    refine lv_iload_n hx hb dX9_approve_9 rfl (lv_at hl 1 rfl) ?_
    obtain ⟨hPc, hDc, hFc⟩ := PDq.cut (wc := [(oX0 a0 p0 a1 a3 a4 a5 a6 i6 i7 i8 i9 i10 i11 i12 i13 i14 i15 i16 i17 i18 i19), (a3, .inl (cA 0, 10, .inl fs))]) (cq_P hP) (cq_D hD) hS hA [2, 5] (by decide) rfl
    refine va_calli (va_runV (As := [.int (nI qn1)]) (rest := []) ⟨hx, hb, hml, hown, hts⟩ (s_isClosed l D cA sa a0 a1 a3 a4 a5 a6 p0 i6 i7 i8 i12 i13 i14 i15 i16 i17 i18 i19 i9 i10 i11 qn1 fs H.size (by omega)) (cwV 1 hts gX9_approve_X0_isClosed rfl rfl rfl (by decide +kernel) ⟨(Nat.le_of_ble_eq_true rfl), (Nat.le_of_ble_eq_true rfl)⟩) ⟨Wd.blind, va_recv hK hPc (ci := 4) (q0 := 0) rfl rfl, fun U hU hW => ⟨rfl, Wd.call hPc hDc hK hC hZ hS hFc U hU hW⟩⟩ rfl rfl hl.1 rfl (lv_room (Nat.le_of_ble_eq_true rfl)) dX9_approve_10 ⟨(Nat.le_of_ble_eq_true rfl), (Nat.le_of_ble_eq_true rfl)⟩) hS (fun q _ h => hFc q h) hFc (fun rn4 u t H1 locs ht hvm hw hB hz1 hk1 hS => ?_)
    obtain ⟨hP1, hD1⟩ := hB
    rw [ht] at hP1
    obtain ⟨hP, hD⟩ := PDq.joinQ (w := [(s0, .inr (5, [.ref s1, .int (nI wn), .int (nI wc)])), (s1, .inl (cA 5, 10, .inr (.inr (.inr (.inr FR))))), (a1, .inr (6, [.ref a2, .int (nI nx), .int (nI kp)])), (a2, .inl (cA 0, 240, .inl fr)), (a4, .inl (cA 0, 10, .inl fp)), (a5, .inl (cA 0, 10, .inl ff)), (a6, .inl (cA 0, 10, .inl fd)), (p9, .inl (cA 0, 10, .inl fen)), (p7, .inl (cA 0, 350, .inl fst)), (p8, .inl (cA 0, 350, .inl fop)), (oX9 h0 b0 (nI nb) p0 u0 r0 a0 t0 s0 o0), (oX3 p0 pr pb pe pg p1 (nI nd) p2 p3 p4 p5 (nI cn) p6 (nI pq) p7 p8 p9 (nI sc)), (oX0 a0 p0 a1 a3 a4 a5 a6 i6 i7 i8 i9 i10 i11 i12 i13 i14 i15 i16 i17 i18 i19), (a3, .inl (cA 0, 10, .inl fs))]) 12 hP hD [2, 5] [0, 1, 3, 4, 6, 7, 8, 9, 10, 11, 12, 13] rfl rfl (by decide +kernel) (by decide +kernel) hk1 hFc hP1 hD1 rfl
    generalize H1 = H at hP hS ⊢
    have hn5 := hw
    refine lv_if_ne (tgt := 20) hx hb dX9_approve_13 (by decide) (fun c6 => ?_) (fun c6 => ?_)
    · skip
      refine lv_iconst (v := 0) hx hb dX9_approve_20 (by decide) ?_
      obtain ⟨hPc, hDc, hFc⟩ := PDq.cut (wc := []) (cq_P hP) (cq_D hD) hS hA [] (by decide) rfl
      refine vx_callv (vx_runS (As := [.int 0]) (rest := []) ⟨hx, hb, hml, hown, hts⟩ (s_needPossible0 l D cA sa  H.size hl9) (va_cwS 1 hts gX9_approve_X9_needPossible rfl rfl rfl (by decide +kernel) ⟨(Nat.le_of_ble_eq_true rfl), (Nat.le_of_ble_eq_true rfl)⟩) ⟨Wd.blind, fun U hU hW => ⟨rfl, Wd.call hPc hDc hK hC hZ hS hFc U hU hW⟩⟩ rfl rfl hl.1 rfl (lv_room (Nat.le_of_ble_eq_true rfl)) dX9_approve_21 ⟨(Nat.le_of_ble_eq_true rfl), (Nat.le_of_ble_eq_true rfl)⟩) hS (fun q _ h => hFc q h) hFc (fun q _ h => hFc q h) (fun E ce q9 u t H1 locs ht hvm hpx hE hz1 hk1 hS hcell hv9 hcl => ?_) (fun u t H1 locs ht hvm hw hB hz1 hk1 hS => ?_)
      · skip
        obtain ⟨hE, hP1, hD1⟩ := hE
        rw [ht] at hP1
        obtain ⟨hP, hD⟩ := PDq.joinQ (w := [(s0, .inr (5, [.ref s1, .int (nI wn), .int (nI wc)])), (s1, .inl (cA 5, 10, .inr (.inr (.inr (.inr FR))))), (a1, .inr (6, [.ref a2, .int (nI nx), .int (nI kp)])), (a2, .inl (cA 0, 240, .inl fr)), (a4, .inl (cA 0, 10, .inl fp)), (a5, .inl (cA 0, 10, .inl ff)), (a6, .inl (cA 0, 10, .inl fd)), (p9, .inl (cA 0, 10, .inl fen)), (p7, .inl (cA 0, 350, .inl fst)), (p8, .inl (cA 0, 350, .inl fop)), (oX9 h0 b0 (nI nb) p0 u0 r0 a0 t0 s0 o0), (oX3 p0 pr pb pe pg p1 (nI nd) p2 p3 p4 p5 (nI cn) p6 (nI pq) p7 p8 p9 (nI sc)), (oX0 a0 p0 a1 a3 a4 a5 a6 i6 i7 i8 i9 i10 i11 i12 i13 i14 i15 i16 i17 i18 i19), (a3, .inl (cA 0, 10, .inl fs))]) 14 hP hD [] [0, 1, 2, 3, 4, 5, 6, 7, 8, 9, 10, 11, 12, 13] rfl rfl (by decide +kernel) (by decide +kernel) hk1 hFc hP1 hD1 rfl
        generalize H1 = H at hP hS hcell ⊢
        have hP9 := hP.by (ws' := (([(oX9 h0 b0 (nI nb) p0 u0 r0 a0 t0 s0 o0), (s0, .inr (5, [.ref s1, .int (nI wn), .int (nI wc)])), (s1, .inl (cA 5, 10, .inr (.inr (.inr (.inr FR))))), (oX0 a0 p0 a1 a3 a4 a5 a6 i6 i7 i8 i9 i10 i11 i12 i13 i14 i15 i16 i17 i18 i19), (a1, .inr (6, [.ref a2, .int (nI nx), .int (nI kp)])), (a2, .inl (cA 0, 240, .inl fr)), (a3, .inl (cA 0, 10, .inl fs)), (a4, .inl (cA 0, 10, .inl fp)), (a5, .inl (cA 0, 10, .inl ff)), (a6, .inl (cA 0, 10, .inl fd)), (oX3 p0 pr pb pe pg p1 (nI nd) p2 p3 p4 p5 (nI cn) p6 (nI pq) p7 p8 p9 (nI sc)), (p9, .inl (cA 0, 10, .inl fen)), (p7, .inl (cA 0, 350, .inl fst)), (p8, .inl (cA 0, 350, .inl fop))] : va_W) ++ memW cA q mp mi ml mn mk mf)) _ (va_part [10, 0, 1, 12, 2, 3, 13, 4, 5, 6, 11, 7, 8, 9] rfl)
        have hD9 := va_D_part (cx := [(oX9 h0 b0 (nI nb) p0 u0 r0 a0 t0 s0 o0), (s0, .inr (5, [.ref s1, .int (nI wn), .int (nI wc)])), (s1, .inl (cA 5, 10, .inr (.inr (.inr (.inr FR))))), (oX0 a0 p0 a1 a3 a4 a5 a6 i6 i7 i8 i9 i10 i11 i12 i13 i14 i15 i16 i17 i18 i19), (a1, .inr (6, [.ref a2, .int (nI nx), .int (nI kp)])), (a2, .inl (cA 0, 240, .inl fr)), (a3, .inl (cA 0, 10, .inl fs)), (a4, .inl (cA 0, 10, .inl fp)), (a5, .inl (cA 0, 10, .inl ff)), (a6, .inl (cA 0, 10, .inl fd)), (oX3 p0 pr pb pe pg p1 (nI nd) p2 p3 p4 p5 (nI cn) p6 (nI pq) p7 p8 p9 (nI sc)), (p9, .inl (cA 0, 10, .inl fen)), (p7, .inl (cA 0, 350, .inl fst)), (p8, .inl (cA 0, 350, .inl fop))]) hD [10, 0, 1, 12, 2, 3, 13, 4, 5, 6, 11, 7, 8, 9] (by decide +kernel) rfl
        exact vx_out (fun x h => (hno x h).elim) hlocks hcell hv9 hcl (fun t ht hvm => ⟨(), trivial, ⟨(by rw [hE]; simp), by rw [ht]; exact hP9, hD9⟩, hS.F ht⟩) hS.2.2 (Nat.le_of_ble_eq_true rfl) (Nat.le_of_ble_eq_true rfl)
      · skip
        exact hw.elim
    · skip
      refine lv_iconst (v := 1) hx hb dX9_approve_16 (by decide) ?_
      refine lv_goto (tgt := 21) hx hb dX9_approve_17 (by decide) ?_
      obtain ⟨hPc, hDc, hFc⟩ := PDq.cut (wc := []) (cq_P hP) (cq_D hD) hS hA [] (by decide) rfl
      refine va_callv (va_runS (As := [.int 1]) (rest := []) ⟨hx, hb, hml, hown, hts⟩ (s_needPossible1 l D cA sa  H.size) (va_cwS 1 hts gX9_approve_X9_needPossible rfl rfl rfl (by decide +kernel) ⟨(Nat.le_of_ble_eq_true rfl), (Nat.le_of_ble_eq_true rfl)⟩) ⟨Wd.blind, fun U hU hW => ⟨rfl, Wd.call hPc hDc hK hC hZ hS hFc U hU hW⟩⟩ rfl rfl hl.1 rfl (lv_room (Nat.le_of_ble_eq_true rfl)) dX9_approve_21 ⟨(Nat.le_of_ble_eq_true rfl), (Nat.le_of_ble_eq_true rfl)⟩) hS (fun q _ h => hFc q h) hFc (fun u t H1 locs ht hvm hw hB hz1 hk1 hS => ?_)
      obtain ⟨hP1, hD1⟩ := hB
      rw [ht] at hP1
      obtain ⟨hP, hD⟩ := PDq.joinQ (w := [(s0, .inr (5, [.ref s1, .int (nI wn), .int (nI wc)])), (s1, .inl (cA 5, 10, .inr (.inr (.inr (.inr FR))))), (a1, .inr (6, [.ref a2, .int (nI nx), .int (nI kp)])), (a2, .inl (cA 0, 240, .inl fr)), (a4, .inl (cA 0, 10, .inl fp)), (a5, .inl (cA 0, 10, .inl ff)), (a6, .inl (cA 0, 10, .inl fd)), (p9, .inl (cA 0, 10, .inl fen)), (p7, .inl (cA 0, 350, .inl fst)), (p8, .inl (cA 0, 350, .inl fop)), (oX9 h0 b0 (nI nb) p0 u0 r0 a0 t0 s0 o0), (oX3 p0 pr pb pe pg p1 (nI nd) p2 p3 p4 p5 (nI cn) p6 (nI pq) p7 p8 p9 (nI sc)), (oX0 a0 p0 a1 a3 a4 a5 a6 i6 i7 i8 i9 i10 i11 i12 i13 i14 i15 i16 i17 i18 i19), (a3, .inl (cA 0, 10, .inl fs))]) 14 hP hD [] [0, 1, 2, 3, 4, 5, 6, 7, 8, 9, 10, 11, 12, 13] rfl rfl (by decide +kernel) (by decide +kernel) hk1 hFc hP1 hD1 rfl
      generalize H1 = H at hP hS ⊢
      refine lv_aload_n hx hb dX9_approve_24 rfl (lv_at hl 0 rfl) ?_
      refine va_get (D := D) (ci := 10) (v := .ref s0) (C := RX9) (T := TX9) (N := 9) hx hb hts inX9 hown hK hP 10 rfl rfl 7 (by decide) (hts (.fieldLink RX9 45 "EscrowDesk" "history" "LEscrowDesk$History;") (by decide +kernel)) (fun _ h9 => h9) rfl dX9_approve_25 ?_
      refine lv_aload_n hx hb dX9_approve_28 rfl (lv_at hl 0 rfl) ?_
      refine va_get (D := D) (ci := 10) (v := .ref a0) (C := RX9) (T := TX9) (N := 9) hx hb hts inX9 hown hK hP 10 rfl rfl 5 (by decide) (hts (.fieldLink RX9 35 "EscrowDesk" "account" "LEscrowDesk$Account;") (by decide +kernel)) (fun _ h9 => h9) rfl dX9_approve_29 ?_
      have hPc := hP.by (ws' := (([(s0, .inr (5, [.ref s1, .int (nI wn), .int (nI wc)])), (s1, .inl (cA 5, 10, .inr (.inr (.inr (.inr FR))))), (oX0 a0 p0 a1 a3 a4 a5 a6 i6 i7 i8 i9 i10 i11 i12 i13 i14 i15 i16 i17 i18 i19), (a1, .inr (6, [.ref a2, .int (nI nx), .int (nI kp)])), (a2, .inl (cA 0, 240, .inl fr)), (a3, .inl (cA 0, 10, .inl fs)), (a4, .inl (cA 0, 10, .inl fp)), (a5, .inl (cA 0, 10, .inl ff)), (a6, .inl (cA 0, 10, .inl fd))] : va_W) ++ memW cA q mp mi ml mn mk mf)) _ (va_part [0, 1, 12, 2, 3, 13, 4, 5, 6] rfl)
      have hDc := va_D_part (cx := [(s0, .inr (5, [.ref s1, .int (nI wn), .int (nI wc)])), (s1, .inl (cA 5, 10, .inr (.inr (.inr (.inr FR))))), (oX0 a0 p0 a1 a3 a4 a5 a6 i6 i7 i8 i9 i10 i11 i12 i13 i14 i15 i16 i17 i18 i19), (a1, .inr (6, [.ref a2, .int (nI nx), .int (nI kp)])), (a2, .inl (cA 0, 240, .inl fr)), (a3, .inl (cA 0, 10, .inl fs)), (a4, .inl (cA 0, 10, .inl fp)), (a5, .inl (cA 0, 10, .inl ff)), (a6, .inl (cA 0, 10, .inl fd))]) hD [0, 1, 12, 2, 3, 13, 4, 5, 6] (by decide +kernel) rfl
      have hFc := va_freeP (cx := [(s0, .inr (5, [.ref s1, .int (nI wn), .int (nI wc)])), (s1, .inl (cA 5, 10, .inr (.inr (.inr (.inr FR))))), (oX0 a0 p0 a1 a3 a4 a5 a6 i6 i7 i8 i9 i10 i11 i12 i13 i14 i15 i16 i17 i18 i19), (a1, .inr (6, [.ref a2, .int (nI nx), .int (nI kp)])), (a2, .inl (cA 0, 240, .inl fr)), (a3, .inl (cA 0, 10, .inl fs)), (a4, .inl (cA 0, 10, .inl fp)), (a5, .inl (cA 0, 10, .inl ff)), (a6, .inl (cA 0, 10, .inl fd))]) hD hS hA [0, 1, 12, 2, 3, 13, 4, 5, 6] rfl
      refine va_callv (va_runV (As := [.ref a0]) (rest := []) ⟨hx, hb, hml, hown, hts⟩ (s_remember l D cA sa s0 s1 wn wc FR q mp mi ml mn mk mf a0 a1 a2 a3 a4 a5 a6 p0 i6 i7 i8 i12 i13 i14 i15 i16 i17 i18 i19 i9 i10 i11 nx kp fr fs fp ff fd H.size hnx hkp hwn hwc hFR hMB hWin) (cwV 1 hts gX9_approve_X1_remember rfl rfl rfl (by decide +kernel) ⟨(Nat.le_of_ble_eq_true rfl), (Nat.le_of_ble_eq_true rfl)⟩) ⟨Wd.blind, va_recv hK hPc (ci := 5) (q0 := 0) rfl rfl, fun U hU hW => ⟨rfl, Wd.call hPc hDc hK hC hZ hS hFc U hU hW⟩⟩ rfl rfl hl.1 rfl (lv_room (Nat.le_of_ble_eq_true rfl)) dX9_approve_32 ⟨(Nat.le_of_ble_eq_true rfl), (Nat.le_of_ble_eq_true rfl)⟩) hS (fun q _ h => hFc q h) hFc (fun u t H1 locs ht hvm hw hB hz1 hk1 hS => ?_)
      obtain ⟨qn7, qn8, fn9, fn10, fn11, fn12, fn13, fn14, hn15, hn16, hn17, hn18, hP1, hD1⟩ := hB
      rw [ht] at hP1
      obtain ⟨hP, hD⟩ := va_joinP (wr := [(p9, .inl (cA 0, 10, .inl fen)), (p7, .inl (cA 0, 350, .inl fst)), (p8, .inl (cA 0, 350, .inl fop)), (oX9 h0 b0 (nI nb) p0 u0 r0 a0 t0 s0 o0), (oX3 p0 pr pb pe pg p1 (nI nd) p2 p3 p4 p5 (nI cn) p6 (nI pq) p7 p8 p9 (nI sc))]) (rx := [(s0, .inr (5, [.ref s1, .int (nI qn7), .int (nI qn8)])), (s1, .inl (cA 5, 10, .inr (.inr (.inr (.inr FR))))), (oX0 a0 p0 a1 a3 a4 a5 a6 i6 i7 i8 i9 i10 i11 i12 i13 i14 i15 i16 i17 i18 i19), (a1, .inr (6, [.ref a2, .int (nI nx), .int (nI kp)])), (a2, .inl (cA 0, 240, .inl fr)), (a3, .inl (cA 0, 10, .inl fs)), (a4, .inl (cA 0, 10, .inl fp)), (a5, .inl (cA 0, 10, .inl ff)), (a6, .inl (cA 0, 10, .inl fd))]) (pl1 := memW cA q fn9 fn10 fn11 fn12 fn13 fn14) hP hD [0, 1, 12, 2, 3, 13, 4, 5, 6] [7, 8, 9, 10, 11] rfl rfl (by decide) (by decide +kernel) hk1 hFc hP1 hD1
      generalize H1 = H at hP hS ⊢
      obtain ⟨hP, hD⟩ : PDq D A (([(p9, .inl (cA 0, 10, .inl fen)), (p7, .inl (cA 0, 350, .inl fst)), (p8, .inl (cA 0, 350, .inl fop)), (oX9 h0 b0 (nI nb) p0 u0 r0 a0 t0 s0 o0), (oX3 p0 pr pb pe pg p1 (nI nd) p2 p3 p4 p5 (nI cn) p6 (nI pq) p7 p8 p9 (nI sc)), (s0, .inr (5, [.ref s1, .int (nI qn7), .int (nI qn8)])), (s1, .inl (cA 5, 10, .inr (.inr (.inr (.inr FR))))), (oX0 a0 p0 a1 a3 a4 a5 a6 i6 i7 i8 i9 i10 i11 i12 i13 i14 i15 i16 i17 i18 i19), (a1, .inr (6, [.ref a2, .int (nI nx), .int (nI kp)])), (a2, .inl (cA 0, 240, .inl fr)), (a3, .inl (cA 0, 10, .inl fs)), (a4, .inl (cA 0, 10, .inl fp)), (a5, .inl (cA 0, 10, .inl ff)), (a6, .inl (cA 0, 10, .inl fd))] : va_W) ++ memW cA q fn9 fn10 fn11 fn12 fn13 fn14) H := ⟨hP, hD⟩
      refine lv_aload_n hx hb dX9_approve_35 rfl (lv_at hl 0 rfl) ?_
      refine va_get (D := D) (ci := 10) (v := .ref a0) (C := RX9) (T := TX9) (N := 9) hx hb hts inX9 hown hK hP 3 rfl rfl 5 (by decide) (hts (.fieldLink RX9 35 "EscrowDesk" "account" "LEscrowDesk$Account;") (by decide +kernel)) (fun _ h9 => h9) rfl dX9_approve_36 ?_
      refine lv_dup hx hb dX9_approve_39 rfl ?_
      refine va_getN (D := D) (ci := 4) (v := .int i19) (C := RX0) (T := TX0) (N := 20) hx hb hts inX0 hown hK hP 7 rfl rfl 19 (by decide) (hC.f (A := _) (a := RX9) (i := 261) (b := "EscrowDesk$Account") (n := "approvedSet") (d := "I") (x := "EscrowDesk") (by decide +kernel)) (fun _ h9 => h9) rfl dX9_approve_40 ?_
      refine lv_iconst (v := 1) hx hb dX9_approve_43 (by decide) ?_
      refine lv_iload_n hx hb dX9_approve_44 rfl (lv_at hl 1 rfl) ?_
      refine lv_ishl hx hb dX9_approve_45 ?_
      refine lv_topi (fun yn19 eyn19 => ?_)
      refine lv_ior hx hb dX9_approve_46 ?_
      refine lv_topi (fun yn20 eyn20 => ?_)
      refine va_putN (D := D) (ci := 4) (v := .int yn20) (ty := .int) (C := RX0) (T := TX0) (N := 20) hx hb hts inX0 tyX0 tyX0_ok nmX0 hown hK hP hD hS 7 rfl rfl 19 (by decide) (hC.f (A := _) (a := RX9) (i := 261) (b := "EscrowDesk$Account") (n := "approvedSet") (d := "I") (x := "EscrowDesk") (by decide +kernel)) (fun _ h9 => h9) rfl (by decide +kernel) rfl rfl (Nat.le_of_ble_eq_true rfl) dX9_approve_47 (fun H locs hP hD hS => ?_)
      obtain ⟨hP, hD⟩ : PDq D A (([(p9, .inl (cA 0, 10, .inl fen)), (p7, .inl (cA 0, 350, .inl fst)), (p8, .inl (cA 0, 350, .inl fop)), (oX9 h0 b0 (nI nb) p0 u0 r0 a0 t0 s0 o0), (oX3 p0 pr pb pe pg p1 (nI nd) p2 p3 p4 p5 (nI cn) p6 (nI pq) p7 p8 p9 (nI sc)), (s0, .inr (5, [.ref s1, .int (nI qn7), .int (nI qn8)])), (s1, .inl (cA 5, 10, .inr (.inr (.inr (.inr FR))))), (oX0 a0 p0 a1 a3 a4 a5 a6 i6 i7 i8 i9 i10 i11 i12 i13 i14 i15 i16 i17 i18 yn20), (a1, .inr (6, [.ref a2, .int (nI nx), .int (nI kp)])), (a2, .inl (cA 0, 240, .inl fr)), (a3, .inl (cA 0, 10, .inl fs)), (a4, .inl (cA 0, 10, .inl fp)), (a5, .inl (cA 0, 10, .inl ff)), (a6, .inl (cA 0, 10, .inl fd))] : va_W) ++ memW cA q fn9 fn10 fn11 fn12 fn13 fn14) H := ⟨hP, hD⟩
      refine lv_aload_n hx hb dX9_approve_50 rfl (lv_at hl 0 rfl) ?_
      refine va_get (D := D) (ci := 10) (v := .ref a0) (C := RX9) (T := TX9) (N := 9) hx hb hts inX9 hown hK hP 3 rfl rfl 5 (by decide) (hts (.fieldLink RX9 35 "EscrowDesk" "account" "LEscrowDesk$Account;") (by decide +kernel)) (fun _ h9 => h9) rfl dX9_approve_51 ?_
      refine lv_iload_n hx hb dX9_approve_54 rfl (lv_at hl 1 rfl) ?_
      refine lv_aload_n hx hb dX9_approve_55 rfl (lv_at hl 0 rfl) ?_
      refine va_get (D := D) (ci := 10) (v := .ref a0) (C := RX9) (T := TX9) (N := 9) hx hb hts inX9 hown hK hP 3 rfl rfl 5 (by decide) (hts (.fieldLink RX9 35 "EscrowDesk" "account" "LEscrowDesk$Account;") (by decide +kernel)) (fun _ h9 => h9) rfl dX9_approve_56 ?_
      refine va_getN (D := D) (ci := 4) (v := .int i6) (C := RX0) (T := TX0) (N := 20) hx hb hts inX0 hown hK hP 7 rfl rfl 6 (by decide) (hC.f (A := _) (a := RX9) (i := 87) (b := "EscrowDesk$Account") (n := "day") (d := "I") (x := "EscrowDesk") (by decide +kernel)) (fun _ h9 => h9) rfl dX9_approve_59 ?_
      obtain ⟨hPc, hDc, hFc⟩ := PDq.cut (wc := [(oX0 a0 p0 a1 a3 a4 a5 a6 i6 i7 i8 i9 i10 i11 i12 i13 i14 i15 i16 i17 i18 yn20), (oX3 p0 pr pb pe pg p1 (nI nd) p2 p3 p4 p5 (nI cn) p6 (nI pq) p7 p8 p9 (nI sc)), (p9, .inl (cA 0, 10, .inl fen)), (p7, .inl (cA 0, 350, .inl fst)), (p8, .inl (cA 0, 350, .inl fop)), (a3, .inl (cA 0, 10, .inl fs))]) (cq_P hP) (cq_D hD) hS hA [7, 4, 0, 1, 2, 10] (by decide) rfl
      refine va_calli (va_runV (As := [.int (nI qn1), .int i6]) (rest := []) ⟨hx, hb, hml, hown, hts⟩ (s_holdsOn l D cA sa a0 a1 a3 a4 a5 a6 p0 i6 i7 i8 i12 i13 i14 i15 i16 i17 i18 yn20 i9 i10 i11 p1 p2 p3 p4 p5 p6 p7 p8 p9 cn pq nd sc pr pb pe pg qn1 fen fst fop i6 fs H.size hcn hpq hnd hsc hen (by omega)) (cwV 2 hts gX9_approve_X0_holdsOn rfl rfl rfl (by decide +kernel) ⟨(Nat.le_of_ble_eq_true rfl), (Nat.le_of_ble_eq_true rfl)⟩) ⟨Wd.blind, va_recv hK hPc (ci := 4) (q0 := 0) rfl rfl, fun U hU hW => ⟨rfl, Wd.call hPc hDc hK hC hZ hS hFc U hU hW⟩⟩ rfl rfl hl.1 rfl (lv_room (Nat.le_of_ble_eq_true rfl)) dX9_approve_62 ⟨(Nat.le_of_ble_eq_true rfl), (Nat.le_of_ble_eq_true rfl)⟩) hS (fun q _ h => hFc q h) hFc (fun rn21 u t H1 locs ht hvm hw hB hz1 hk1 hS => ?_)
      obtain ⟨hP1, hD1⟩ := hB
      rw [ht] at hP1
      obtain ⟨hP, hD⟩ := PDq.joinQ (w := [(oX9 h0 b0 (nI nb) p0 u0 r0 a0 t0 s0 o0), (s0, .inr (5, [.ref s1, .int (nI qn7), .int (nI qn8)])), (s1, .inl (cA 5, 10, .inr (.inr (.inr (.inr FR))))), (a1, .inr (6, [.ref a2, .int (nI nx), .int (nI kp)])), (a2, .inl (cA 0, 240, .inl fr)), (a4, .inl (cA 0, 10, .inl fp)), (a5, .inl (cA 0, 10, .inl ff)), (a6, .inl (cA 0, 10, .inl fd)), (oX0 a0 p0 a1 a3 a4 a5 a6 i6 i7 i8 i9 i10 i11 i12 i13 i14 i15 i16 i17 i18 yn20), (oX3 p0 pr pb pe pg p1 (nI nd) p2 p3 p4 p5 (nI cn) p6 (nI pq) p7 p8 p9 (nI sc)), (p9, .inl (cA 0, 10, .inl fen)), (p7, .inl (cA 0, 350, .inl fst)), (p8, .inl (cA 0, 350, .inl fop)), (a3, .inl (cA 0, 10, .inl fs))]) 8 hP hD [7, 4, 0, 1, 2, 10] [3, 5, 6, 8, 9, 11, 12, 13] rfl rfl (by decide) (by decide +kernel) hk1 hFc hP1 hD1 rfl
      generalize H1 = H at hP hS ⊢
      have hn22 := hw
      have hP9 := hP.by (ws' := (([(oX9 h0 b0 (nI nb) p0 u0 r0 a0 t0 s0 o0), (s0, .inr (5, [.ref s1, .int (nI qn7), .int (nI qn8)])), (s1, .inl (cA 5, 10, .inr (.inr (.inr (.inr FR))))), (oX0 a0 p0 a1 a3 a4 a5 a6 i6 i7 i8 i9 i10 i11 i12 i13 i14 i15 i16 i17 i18 yn20), (a1, .inr (6, [.ref a2, .int (nI nx), .int (nI kp)])), (a2, .inl (cA 0, 240, .inl fr)), (a3, .inl (cA 0, 10, .inl fs)), (a4, .inl (cA 0, 10, .inl fp)), (a5, .inl (cA 0, 10, .inl ff)), (a6, .inl (cA 0, 10, .inl fd)), (oX3 p0 pr pb pe pg p1 (nI nd) p2 p3 p4 p5 (nI cn) p6 (nI pq) p7 p8 p9 (nI sc)), (p9, .inl (cA 0, 10, .inl fen)), (p7, .inl (cA 0, 350, .inl fst)), (p8, .inl (cA 0, 350, .inl fop))] : va_W) ++ memW cA q fn9 fn10 fn11 fn12 fn13 fn14)) _ (va_part [0, 1, 2, 8, 3, 4, 13, 5, 6, 7, 9, 10, 11, 12] rfl)
      have hD9 := va_D_part (cx := [(oX9 h0 b0 (nI nb) p0 u0 r0 a0 t0 s0 o0), (s0, .inr (5, [.ref s1, .int (nI qn7), .int (nI qn8)])), (s1, .inl (cA 5, 10, .inr (.inr (.inr (.inr FR))))), (oX0 a0 p0 a1 a3 a4 a5 a6 i6 i7 i8 i9 i10 i11 i12 i13 i14 i15 i16 i17 i18 yn20), (a1, .inr (6, [.ref a2, .int (nI nx), .int (nI kp)])), (a2, .inl (cA 0, 240, .inl fr)), (a3, .inl (cA 0, 10, .inl fs)), (a4, .inl (cA 0, 10, .inl fp)), (a5, .inl (cA 0, 10, .inl ff)), (a6, .inl (cA 0, 10, .inl fd)), (oX3 p0 pr pb pe pg p1 (nI nd) p2 p3 p4 p5 (nI cn) p6 (nI pq) p7 p8 p9 (nI sc)), (p9, .inl (cA 0, 10, .inl fen)), (p7, .inl (cA 0, 350, .inl fst)), (p8, .inl (cA 0, 350, .inl fop))]) hD [0, 1, 2, 8, 3, 4, 13, 5, 6, 7, 9, 10, 11, 12] (by decide +kernel) rfl
      refine W.widen (k := 2) (n := 12) (Nat.le_of_ble_eq_true rfl) (Nat.le_of_ble_eq_true rfl) ?_
      exact vx_ret (W.zret (v := rn21) hx hb hr (by rcases hn22 with h9 | h9 <;> rw [h9] <;> rfl) (fun t ht hW => ⟨⟨rn21, (), rfl, hn22, qn7, qn8, fn9, fn10, fn11, fn12, fn13, fn14, i6, i7, i8, i12, i13, i14, i15, i16, i17, i18, yn20, i9, i10, i11, nx, kp, fr, fs, fp, ff, fd, hn15, hn16, hn17, hn18, hnx, hkp, by rw [ht]; exact hP9, hD9⟩, hS.F ht⟩) hS.2.2 dX9_approve_65)

set_option maxHeartbeats 4000000 in
set_option maxRecDepth 100000 in
/-- pay -/
theorem s_pay (l : Launch) (D : va_G) (cA : Nat → ClassId) (sa : Nat → Nat) (h0 : Nat) (b0 : Nat) (nb : Nat) (p0 : Nat) (u0 : Nat) (r0 : Nat) (a0 : Nat) (t0 : Nat) (s0 : Nat) (o0 : Nat) (s1 : Nat) (wn : Nat) (wc : Nat) (FR : Nat → Option Nat) (q : Nat → Nat → Nat) (mp : Nat → Nat) (mi : Nat → Nat → Int32) (ml : Nat → Nat → Int64) (mn : Nat → Nat) (mk : Nat → Nat) (mf : Nat → Nat → Nat → Int32) (a1 : Nat) (a2 : Nat) (a3 : Nat) (a4 : Nat) (a5 : Nat) (a6 : Nat) (i6 : Int32) (i7 : Int32) (i8 : Int32) (i12 : Int32) (i13 : Int32) (i14 : Int32) (i15 : Int32) (i16 : Int32) (i17 : Int32) (i18 : Int32) (i19 : Int32) (i9 : Int64) (i10 : Int64) (i11 : Int64) (nx : Nat) (kp : Nat) (fr : Nat → Int32) (fs : Nat → Int32) (fp : Nat → Int32) (ff : Nat → Int32) (fd : Nat → Int32) (p1 : Nat) (p2 : Nat) (p3 : Nat) (p4 : Nat) (p5 : Nat) (p6 : Nat) (p7 : Nat) (p8 : Nat) (p9 : Nat) (cn : Nat) (pq : Nat) (nd : Nat) (sc : Nat) (pr : Int32) (pb : Int32) (pe : Int32) (pg : Int32) (fam : Nat → Int32) (i : Int32) (j : Int32) (sz : Nat) (hl9 : l.stackTraces = false) (hnx : nx < 60) (hkp : kp ≤ 60) (hwn : wn < 10) (hwc : wc ≤ 10) (hFR : FRq q FR) (hMB : MB mn mk) (hWin : Win p0 wn wc mp) (hcn : cn ≤ 10) (hpq : pq ≤ 8) (hnd : nd ≤ 6) (hsc : sc ≤ 350) : vx_Met l yX9_pay wsX9_pay ({ frames := 8, cells := 3, slots := 18, locals := 132 }) (va_Pc [.ref h0, .int i, .int j] (Wd D cA sa (([(oX9 h0 b0 (nI nb) p0 u0 r0 a0 t0 s0 o0), (s0, .inr (5, [.ref s1, .int (nI wn), .int (nI wc)])), (s1, .inl (cA 5, 10, .inr (.inr (.inr (.inr FR))))), (oX0 a0 p0 a1 a3 a4 a5 a6 i6 i7 i8 i9 i10 i11 i12 i13 i14 i15 i16 i17 i18 i19), (a1, .inr (6, [.ref a2, .int (nI nx), .int (nI kp)])), (a2, .inl (cA 0, 240, .inl fr)), (a3, .inl (cA 0, 10, .inl fs)), (a4, .inl (cA 0, 10, .inl fp)), (a5, .inl (cA 0, 10, .inl ff)), (a6, .inl (cA 0, 10, .inl fd)), (oX3 p0 pr pb pe pg p1 (nI nd) p2 p3 p4 p5 (nI cn) p6 (nI pq) p7 p8 p9 (nI sc)), (p3, .inl (cA 0, 10, .inl fam))] : va_W) ++ memW cA q mp mi ml mn mk mf) sz)) (va_Qi (fun (r : Int32) (_ : Unit) => True) (fun (_ : Unit) t => ∃ wn2 : Nat, ∃ wc2 : Nat, ∃ mp2 : Nat → Nat, ∃ mi2 : Nat → Nat → Int32, ∃ ml2 : Nat → Nat → Int64, ∃ mn2 : Nat → Nat, ∃ mk2 : Nat → Nat, ∃ mf2 : Nat → Nat → Nat → Int32, ∃ z6 : Int32, ∃ z7 : Int32, ∃ z8 : Int32, ∃ z12 : Int32, ∃ z13 : Int32, ∃ z14 : Int32, ∃ z15 : Int32, ∃ z16 : Int32, ∃ z17 : Int32, ∃ z18 : Int32, ∃ z19 : Int32, ∃ z9 : Int64, ∃ z10 : Int64, ∃ z11 : Int64, ∃ ny : Nat, ∃ ky : Nat, ∃ zr : Nat → Int32, ∃ zs : Nat → Int32, ∃ zp : Nat → Int32, ∃ zf : Nat → Int32, ∃ zd : Nat → Int32, wn2 < 10 ∧ wc2 ≤ 10 ∧ MB mn2 mk2 ∧ Win p0 wn2 wc2 mp2 ∧ ny < 60 ∧ ky ≤ 60 ∧ Wq D (va_A (([(oX9 h0 b0 (nI nb) p0 u0 r0 a0 t0 s0 o0), (s0, .inr (5, [.ref s1, .int (nI wn), .int (nI wc)])), (s1, .inl (cA 5, 10, .inr (.inr (.inr (.inr FR))))), (oX0 a0 p0 a1 a3 a4 a5 a6 i6 i7 i8 i9 i10 i11 i12 i13 i14 i15 i16 i17 i18 i19), (a1, .inr (6, [.ref a2, .int (nI nx), .int (nI kp)])), (a2, .inl (cA 0, 240, .inl fr)), (a3, .inl (cA 0, 10, .inl fs)), (a4, .inl (cA 0, 10, .inl fp)), (a5, .inl (cA 0, 10, .inl ff)), (a6, .inl (cA 0, 10, .inl fd)), (oX3 p0 pr pb pe pg p1 (nI nd) p2 p3 p4 p5 (nI cn) p6 (nI pq) p7 p8 p9 (nI sc)), (p3, .inl (cA 0, 10, .inl fam))] : va_W) ++ memW cA q mp mi ml mn mk mf) sz) (([(oX9 h0 b0 (nI nb) p0 u0 r0 a0 t0 s0 o0), (s0, .inr (5, [.ref s1, .int (nI wn2), .int (nI wc2)])), (s1, .inl (cA 5, 10, .inr (.inr (.inr (.inr FR))))), (oX0 a0 p0 a1 a3 a4 a5 a6 z6 z7 z8 z9 z10 z11 z12 z13 z14 z15 z16 z17 z18 z19), (a1, .inr (6, [.ref a2, .int (nI ny), .int (nI ky)])), (a2, .inl (cA 0, 240, .inl zr)), (a3, .inl (cA 0, 10, .inl zs)), (a4, .inl (cA 0, 10, .inl zp)), (a5, .inl (cA 0, 10, .inl zf)), (a6, .inl (cA 0, 10, .inl zd)), (oX3 p0 pr pb pe pg p1 (nI nd) p2 p3 p4 p5 (nI cn) p6 (nI pq) p7 p8 p9 (nI sc)), (p3, .inl (cA 0, 10, .inl fam))] : va_W) ++ memW cA q mp2 mi2 ml2 mn2 mk2 mf2) t) (va_A (([(oX9 h0 b0 (nI nb) p0 u0 r0 a0 t0 s0 o0), (s0, .inr (5, [.ref s1, .int (nI wn), .int (nI wc)])), (s1, .inl (cA 5, 10, .inr (.inr (.inr (.inr FR))))), (oX0 a0 p0 a1 a3 a4 a5 a6 i6 i7 i8 i9 i10 i11 i12 i13 i14 i15 i16 i17 i18 i19), (a1, .inr (6, [.ref a2, .int (nI nx), .int (nI kp)])), (a2, .inl (cA 0, 240, .inl fr)), (a3, .inl (cA 0, 10, .inl fs)), (a4, .inl (cA 0, 10, .inl fp)), (a5, .inl (cA 0, 10, .inl ff)), (a6, .inl (cA 0, 10, .inl fd)), (oX3 p0 pr pb pe pg p1 (nI nd) p2 p3 p4 p5 (nI cn) p6 (nI pq) p7 p8 p9 (nI sc)), (p3, .inl (cA 0, 10, .inl fam))] : va_W) ++ memW cA q mp mi ml mn mk mf) sz)) (vx_X (fun _ : Unit => True) (fun E _ t => (E = "java/lang/IndexOutOfBoundsException" ∨ E = "java/lang/IllegalArgumentException" ∨ E = "java/lang/IllegalStateException") ∧ Wq D (va_A (([(oX9 h0 b0 (nI nb) p0 u0 r0 a0 t0 s0 o0), (s0, .inr (5, [.ref s1, .int (nI wn), .int (nI wc)])), (s1, .inl (cA 5, 10, .inr (.inr (.inr (.inr FR))))), (oX0 a0 p0 a1 a3 a4 a5 a6 i6 i7 i8 i9 i10 i11 i12 i13 i14 i15 i16 i17 i18 i19), (a1, .inr (6, [.ref a2, .int (nI nx), .int (nI kp)])), (a2, .inl (cA 0, 240, .inl fr)), (a3, .inl (cA 0, 10, .inl fs)), (a4, .inl (cA 0, 10, .inl fp)), (a5, .inl (cA 0, 10, .inl ff)), (a6, .inl (cA 0, 10, .inl fd)), (oX3 p0 pr pb pe pg p1 (nI nd) p2 p3 p4 p5 (nI cn) p6 (nI pq) p7 p8 p9 (nI sc)), (p3, .inl (cA 0, 10, .inl fam))] : va_W) ++ memW cA q mp mi ml mn mk mf) sz) (([(oX9 h0 b0 (nI nb) p0 u0 r0 a0 t0 s0 o0), (s0, .inr (5, [.ref s1, .int (nI wn), .int (nI wc)])), (s1, .inl (cA 5, 10, .inr (.inr (.inr (.inr FR))))), (oX0 a0 p0 a1 a3 a4 a5 a6 i6 i7 i8 i9 i10 i11 i12 i13 i14 i15 i16 i17 i18 i19), (a1, .inr (6, [.ref a2, .int (nI nx), .int (nI kp)])), (a2, .inl (cA 0, 240, .inl fr)), (a3, .inl (cA 0, 10, .inl fs)), (a4, .inl (cA 0, 10, .inl fp)), (a5, .inl (cA 0, 10, .inl ff)), (a6, .inl (cA 0, 10, .inl fd)), (oX3 p0 pr pb pe pg p1 (nI nd) p2 p3 p4 p5 (nI cn) p6 (nI pq) p7 p8 p9 (nI sc)), (p3, .inl (cA 0, 10, .inl fam))] : va_W) ++ memW cA q mp mi ml mn mk mf) t) (va_A (([(oX9 h0 b0 (nI nb) p0 u0 r0 a0 t0 s0 o0), (s0, .inr (5, [.ref s1, .int (nI wn), .int (nI wc)])), (s1, .inl (cA 5, 10, .inr (.inr (.inr (.inr FR))))), (oX0 a0 p0 a1 a3 a4 a5 a6 i6 i7 i8 i9 i10 i11 i12 i13 i14 i15 i16 i17 i18 i19), (a1, .inr (6, [.ref a2, .int (nI nx), .int (nI kp)])), (a2, .inl (cA 0, 240, .inl fr)), (a3, .inl (cA 0, 10, .inl fs)), (a4, .inl (cA 0, 10, .inl fp)), (a5, .inl (cA 0, 10, .inl ff)), (a6, .inl (cA 0, 10, .inl fd)), (oX3 p0 pr pb pe pg p1 (nI nd) p2 p3 p4 p5 (nI cn) p6 (nI pq) p7 p8 p9 (nI sc)), (p3, .inl (cA 0, 10, .inl fam))] : va_W) ++ memW cA q mp mi ml mn mk mf) sz)) 3 18 (va_A (([(oX9 h0 b0 (nI nb) p0 u0 r0 a0 t0 s0 o0), (s0, .inr (5, [.ref s1, .int (nI wn), .int (nI wc)])), (s1, .inl (cA 5, 10, .inr (.inr (.inr (.inr FR))))), (oX0 a0 p0 a1 a3 a4 a5 a6 i6 i7 i8 i9 i10 i11 i12 i13 i14 i15 i16 i17 i18 i19), (a1, .inr (6, [.ref a2, .int (nI nx), .int (nI kp)])), (a2, .inl (cA 0, 240, .inl fr)), (a3, .inl (cA 0, 10, .inl fs)), (a4, .inl (cA 0, 10, .inl fp)), (a5, .inl (cA 0, 10, .inl ff)), (a6, .inl (cA 0, 10, .inl fd)), (oX3 p0 pr pb pe pg p1 (nI nd) p2 p3 p4 p5 (nI cn) p6 (nI pq) p7 p8 p9 (nI sc)), (p3, .inl (cA 0, 10, .inl fam))] : va_W) ++ memW cA q mp mi ml mn mk mf) sz) := by
  refine vx_ofW (cc := cX9_pay) (maxL := 3) (ret := (some .int)) (by decide) rfl ?_
  intro p e s m args below meth c s₁ B hml hno hv
  obtain ⟨rfl, hsz, hP, hK, hD0, hC, hZ⟩ := hv
  have hx := B.exec
  have hb := B.bytes
  have hr := B.returns
  have hts := atoms_spec (ws := wsX9_pay) B.pre
  have hown : s.vm.findClass RX9 = some m.cls := findClass_of_methodNamed B.named
  have hlocks := B.notSynchronized
  subst hsz
  have hD := hD0.self (sz := s.heap.size)
  generalize hAe : va_A (([(oX9 h0 b0 (nI nb) p0 u0 r0 a0 t0 s0 o0), (s0, .inr (5, [.ref s1, .int (nI wn), .int (nI wc)])), (s1, .inl (cA 5, 10, .inr (.inr (.inr (.inr FR))))), (oX0 a0 p0 a1 a3 a4 a5 a6 i6 i7 i8 i9 i10 i11 i12 i13 i14 i15 i16 i17 i18 i19), (a1, .inr (6, [.ref a2, .int (nI nx), .int (nI kp)])), (a2, .inl (cA 0, 240, .inl fr)), (a3, .inl (cA 0, 10, .inl fs)), (a4, .inl (cA 0, 10, .inl fp)), (a5, .inl (cA 0, 10, .inl ff)), (a6, .inl (cA 0, 10, .inl fd)), (oX3 p0 pr pb pe pg p1 (nI nd) p2 p3 p4 p5 (nI cn) p6 (nI pq) p7 p8 p9 (nI sc)), (p3, .inl (cA 0, 10, .inl fam))] : va_W) ++ memW cA q mp mi ml mn mk mf) s.heap.size = A at hD hZ ⊢
  have hA : ∀ q : Nat, s.heap.size ≤ q → A q := fun q h => by rw [← hAe]; exact Or.inr h
  have hS : va_S A s.heap s.heap [] := va_S.rf
  have hP : va_P D vwCl (([(oX9 h0 b0 (nI nb) p0 u0 r0 a0 t0 s0 o0), (s0, .inr (5, [.ref s1, .int (nI wn), .int (nI wc)])), (s1, .inl (cA 5, 10, .inr (.inr (.inr (.inr FR))))), (oX0 a0 p0 a1 a3 a4 a5 a6 i6 i7 i8 i9 i10 i11 i12 i13 i14 i15 i16 i17 i18 i19), (a1, .inr (6, [.ref a2, .int (nI nx), .int (nI kp)])), (a2, .inl (cA 0, 240, .inl fr)), (a3, .inl (cA 0, 10, .inl fs)), (a4, .inl (cA 0, 10, .inl fp)), (a5, .inl (cA 0, 10, .inl ff)), (a6, .inl (cA 0, 10, .inl fd)), (oX3 p0 pr pb pe pg p1 (nI nd) p2 p3 p4 p5 (nI cn) p6 (nI pq) p7 p8 p9 (nI sc)), (p3, .inl (cA 0, 10, .inl fam))] : va_W) ++ memW cA q mp mi ml mn mk mf) s.heap := hP
  have hl := lv_entry ([.ref h0, .int i, .int j]) (n := 3) (Nat.le_of_ble_eq_true rfl)
  rw [lg_entry_eq]
  generalize (lg_sl ([.ref h0, .int i, .int j]) ++ List.replicate (3 - (lg_sl ([.ref h0, .int i, .int j])).length) Slot.unset).toArray = ls at hl ⊢
  have hl : lv_has ls 3 [(0, .ref h0), (1, .int i), (2, .int j)] := hl
  have inX9 : ∀ w ∈ u_ws RX9 TX9 9, w ∈ wsX9_pay := by decide +kernel
  refine lv_aload_n hx hb dX9_pay_0 rfl (lv_at hl 0 rfl) ?_
  refine lv_iload_n hx hb dX9_pay_1 rfl (lv_at hl 1 rfl) ?_
  obtain ⟨hPc, hDc, hFc⟩ := PDq.cut (wc := [(oX9 h0 b0 (nI nb) p0 u0 r0 a0 t0 s0 o0), (oX3 p0 pr pb pe pg p1 (nI nd) p2 p3 p4 p5 (nI cn) p6 (nI pq) p7 p8 p9 (nI sc))]) (cq_P hP) (cq_D hD) hS hA [0, 10] (by decide) rfl
  refine vx_callv (vx_runV (As := [.int i]) (rest := []) ⟨hx, hb, hml, hown, hts⟩ (s_needMilestone l D cA sa h0 b0 nb p0 u0 r0 a0 t0 s0 o0 p1 p2 p3 p4 p5 p6 p7 p8 p9 cn pq nd sc pr pb pe pg i s.heap.size hl9 hcn hpq hnd hsc) (cwV 1 hts gX9_pay_X9_needMilestone rfl rfl rfl (by decide +kernel) ⟨(Nat.le_of_ble_eq_true rfl), (Nat.le_of_ble_eq_true rfl)⟩) ⟨Wd.blind, va_recv hK hPc (ci := 10) (q0 := 0) rfl rfl, fun U hU hW => ⟨rfl, Wd.call hPc hDc hK hC hZ hS hFc U hU hW⟩⟩ rfl rfl hl.1 rfl (lv_room (Nat.le_of_ble_eq_true rfl)) dX9_pay_2 ⟨(Nat.le_of_ble_eq_true rfl), (Nat.le_of_ble_eq_true rfl)⟩) hS (fun q _ h => hFc q h) hFc (fun q _ h => hFc q h) (fun E ce q9 u t H1 locs ht hvm hpx hE hz1 hk1 hS hcell hv9 hcl => ?_) (fun u t H1 locs ht hvm hw hB hz1 hk1 hS => ?_)
  · skip
    obtain ⟨hE, hP1, hD1⟩ := hE
    rw [ht] at hP1
    obtain ⟨hP, hD⟩ := PDq.joinQ (w := [(s0, .inr (5, [.ref s1, .int (nI wn), .int (nI wc)])), (s1, .inl (cA 5, 10, .inr (.inr (.inr (.inr FR))))), (oX0 a0 p0 a1 a3 a4 a5 a6 i6 i7 i8 i9 i10 i11 i12 i13 i14 i15 i16 i17 i18 i19), (a1, .inr (6, [.ref a2, .int (nI nx), .int (nI kp)])), (a2, .inl (cA 0, 240, .inl fr)), (a3, .inl (cA 0, 10, .inl fs)), (a4, .inl (cA 0, 10, .inl fp)), (a5, .inl (cA 0, 10, .inl ff)), (a6, .inl (cA 0, 10, .inl fd)), (p3, .inl (cA 0, 10, .inl fam)), (oX9 h0 b0 (nI nb) p0 u0 r0 a0 t0 s0 o0), (oX3 p0 pr pb pe pg p1 (nI nd) p2 p3 p4 p5 (nI cn) p6 (nI pq) p7 p8 p9 (nI sc))]) 10 hP hD [0, 10] [1, 2, 3, 4, 5, 6, 7, 8, 9, 11] rfl rfl (by decide +kernel) (by decide +kernel) hk1 hFc hP1 hD1 rfl
    generalize H1 = H at hP hS hcell ⊢
    have hP9 := hP.by (ws' := (([(oX9 h0 b0 (nI nb) p0 u0 r0 a0 t0 s0 o0), (s0, .inr (5, [.ref s1, .int (nI wn), .int (nI wc)])), (s1, .inl (cA 5, 10, .inr (.inr (.inr (.inr FR))))), (oX0 a0 p0 a1 a3 a4 a5 a6 i6 i7 i8 i9 i10 i11 i12 i13 i14 i15 i16 i17 i18 i19), (a1, .inr (6, [.ref a2, .int (nI nx), .int (nI kp)])), (a2, .inl (cA 0, 240, .inl fr)), (a3, .inl (cA 0, 10, .inl fs)), (a4, .inl (cA 0, 10, .inl fp)), (a5, .inl (cA 0, 10, .inl ff)), (a6, .inl (cA 0, 10, .inl fd)), (oX3 p0 pr pb pe pg p1 (nI nd) p2 p3 p4 p5 (nI cn) p6 (nI pq) p7 p8 p9 (nI sc)), (p3, .inl (cA 0, 10, .inl fam))] : va_W) ++ memW cA q mp mi ml mn mk mf)) _ (va_part [10, 0, 1, 2, 3, 4, 5, 6, 7, 8, 11, 9] rfl)
    have hD9 := va_D_part (cx := [(oX9 h0 b0 (nI nb) p0 u0 r0 a0 t0 s0 o0), (s0, .inr (5, [.ref s1, .int (nI wn), .int (nI wc)])), (s1, .inl (cA 5, 10, .inr (.inr (.inr (.inr FR))))), (oX0 a0 p0 a1 a3 a4 a5 a6 i6 i7 i8 i9 i10 i11 i12 i13 i14 i15 i16 i17 i18 i19), (a1, .inr (6, [.ref a2, .int (nI nx), .int (nI kp)])), (a2, .inl (cA 0, 240, .inl fr)), (a3, .inl (cA 0, 10, .inl fs)), (a4, .inl (cA 0, 10, .inl fp)), (a5, .inl (cA 0, 10, .inl ff)), (a6, .inl (cA 0, 10, .inl fd)), (oX3 p0 pr pb pe pg p1 (nI nd) p2 p3 p4 p5 (nI cn) p6 (nI pq) p7 p8 p9 (nI sc)), (p3, .inl (cA 0, 10, .inl fam))]) hD [10, 0, 1, 2, 3, 4, 5, 6, 7, 8, 11, 9] (by decide +kernel) rfl
    exact vx_out (fun x h => (hno x h).elim) hlocks hcell hv9 hcl (fun t ht hvm => ⟨(), trivial, ⟨(by rw [hE]; simp), by rw [ht]; exact hP9, hD9⟩, hS.F ht⟩) hS.2.2 (Nat.le_of_ble_eq_true rfl) (Nat.le_of_ble_eq_true rfl)
  · skip
    obtain ⟨qn1, hn2, hn3, hP1, hD1⟩ := hB
    rw [ht] at hP1
    obtain ⟨hP, hD⟩ := PDq.joinQ (w := [(s0, .inr (5, [.ref s1, .int (nI wn), .int (nI wc)])), (s1, .inl (cA 5, 10, .inr (.inr (.inr (.inr FR))))), (oX0 a0 p0 a1 a3 a4 a5 a6 i6 i7 i8 i9 i10 i11 i12 i13 i14 i15 i16 i17 i18 i19), (a1, .inr (6, [.ref a2, .int (nI nx), .int (nI kp)])), (a2, .inl (cA 0, 240, .inl fr)), (a3, .inl (cA 0, 10, .inl fs)), (a4, .inl (cA 0, 10, .inl fp)), (a5, .inl (cA 0, 10, .inl ff)), (a6, .inl (cA 0, 10, .inl fd)), (p3, .inl (cA 0, 10, .inl fam)), (oX9 h0 b0 (nI nb) p0 u0 r0 a0 t0 s0 o0), (oX3 p0 pr pb pe pg p1 (nI nd) p2 p3 p4 p5 (nI cn) p6 (nI pq) p7 p8 p9 (nI sc))]) 10 hP hD [0, 10] [1, 2, 3, 4, 5, 6, 7, 8, 9, 11] rfl rfl (by decide +kernel) (by decide +kernel) hk1 hFc hP1 hD1 rfl
    generalize H1 = H at hP hS ⊢
    rw [hn3] at hl
    have hl : lv_has ls 3 [(0, .ref h0), (1, .int (nI qn1)), (2, .int j)] := hl
    refine lv_iload_n hx hb dX9_pay_5 rfl (lv_at hl 2 rfl) ?_
    refine lv_iconst (v := 1) hx hb dX9_pay_6 (by decide) ?_
    refine lv_aload_n hx hb dX9_pay_7 rfl (lv_at hl 0 rfl) ?_
    refine va_get (D := D) (ci := 10) (v := .ref a0) (C := RX9) (T := TX9) (N := 9) hx hb hts inX9 hown hK hP 10 rfl rfl 5 (by decide) (hts (.fieldLink RX9 35 "EscrowDesk" "account" "LEscrowDesk$Account;") (by decide +kernel)) (fun _ h9 => h9) rfl dX9_pay_8 ?_
    refine lv_iload_n hx hb dX9_pay_11 rfl (lv_at hl 1 rfl) ?_
    obtain ⟨hPc, hDc, hFc⟩ := PDq.cut (wc := [(oX0 a0 p0 a1 a3 a4 a5 a6 i6 i7 i8 i9 i10 i11 i12 i13 i14 i15 i16 i17 i18 i19), (oX3 p0 pr pb pe pg p1 (nI nd) p2 p3 p4 p5 (nI cn) p6 (nI pq) p7 p8 p9 (nI sc)), (a3, .inl (cA 0, 10, .inl fs)), (a4, .inl (cA 0, 10, .inl fp)), (p3, .inl (cA 0, 10, .inl fam))]) (cq_P hP) (cq_D hD) hS hA [2, 11, 5, 6, 9] (by decide) rfl
    refine va_calli (va_runV (As := [.int (nI qn1)]) (rest := [.int 1, .int j]) ⟨hx, hb, hml, hown, hts⟩ (s_remainingOf l D cA sa a0 a1 a3 a4 a5 a6 p0 i6 i7 i8 i12 i13 i14 i15 i16 i17 i18 i19 i9 i10 i11 p1 p2 p3 p4 p5 p6 p7 p8 p9 cn pq nd sc pr pb pe pg qn1 fs fp fam H.size (by omega)) (cwV 1 hts gX9_pay_X0_remainingOf rfl rfl rfl (by decide +kernel) ⟨(Nat.le_of_ble_eq_true rfl), (Nat.le_of_ble_eq_true rfl)⟩) ⟨Wd.blind, va_recv hK hPc (ci := 4) (q0 := 0) rfl rfl, fun U hU hW => ⟨rfl, Wd.call hPc hDc hK hC hZ hS hFc U hU hW⟩⟩ rfl rfl hl.1 rfl (lv_room (Nat.le_of_ble_eq_true rfl)) dX9_pay_12 ⟨(Nat.le_of_ble_eq_true rfl), (Nat.le_of_ble_eq_true rfl)⟩) hS (fun q _ h => hFc q h) hFc (fun rn4 u t H1 locs ht hvm hw hB hz1 hk1 hS => ?_)
    obtain ⟨hP1, hD1⟩ := hB
    rw [ht] at hP1
    obtain ⟨hP, hD⟩ := PDq.joinQ (w := [(s0, .inr (5, [.ref s1, .int (nI wn), .int (nI wc)])), (s1, .inl (cA 5, 10, .inr (.inr (.inr (.inr FR))))), (a1, .inr (6, [.ref a2, .int (nI nx), .int (nI kp)])), (a2, .inl (cA 0, 240, .inl fr)), (a5, .inl (cA 0, 10, .inl ff)), (a6, .inl (cA 0, 10, .inl fd)), (oX9 h0 b0 (nI nb) p0 u0 r0 a0 t0 s0 o0), (oX0 a0 p0 a1 a3 a4 a5 a6 i6 i7 i8 i9 i10 i11 i12 i13 i14 i15 i16 i17 i18 i19), (oX3 p0 pr pb pe pg p1 (nI nd) p2 p3 p4 p5 (nI cn) p6 (nI pq) p7 p8 p9 (nI sc)), (a3, .inl (cA 0, 10, .inl fs)), (a4, .inl (cA 0, 10, .inl fp)), (p3, .inl (cA 0, 10, .inl fam))]) 7 hP hD [2, 11, 5, 6, 9] [0, 1, 3, 4, 7, 8, 10] rfl rfl (by decide) (by decide +kernel) hk1 hFc hP1 hD1 rfl
    generalize H1 = H at hP hS ⊢
    obtain ⟨hPc, hDc, hFc⟩ := PDq.cut (wc := []) (cq_P hP) (cq_D hD) hS hA [] (by decide) rfl
    refine vx_callv (vx_runS (As := [.int j, .int 1, .int rn4]) (rest := []) ⟨hx, hb, hml, hown, hts⟩ (s_needRange l D cA sa j 1 rn4 H.size hl9) (va_cwS 3 hts gX9_pay_X9_needRange rfl rfl rfl (by decide +kernel) ⟨(Nat.le_of_ble_eq_true rfl), (Nat.le_of_ble_eq_true rfl)⟩) ⟨Wd.blind, fun U hU hW => ⟨rfl, Wd.call hPc hDc hK hC hZ hS hFc U hU hW⟩⟩ rfl rfl hl.1 rfl (lv_room (Nat.le_of_ble_eq_true rfl)) dX9_pay_15 ⟨(Nat.le_of_ble_eq_true rfl), (Nat.le_of_ble_eq_true rfl)⟩) hS (fun q _ h => hFc q h) hFc (fun q _ h => hFc q h) (fun E ce q9 u t H1 locs ht hvm hpx hE hz1 hk1 hS hcell hv9 hcl => ?_) (fun u t H1 locs ht hvm hw hB hz1 hk1 hS => ?_)
    · skip
      obtain ⟨hE, hP1, hD1⟩ := hE
      rw [ht] at hP1
      obtain ⟨hP, hD⟩ := PDq.joinQ (w := [(s0, .inr (5, [.ref s1, .int (nI wn), .int (nI wc)])), (s1, .inl (cA 5, 10, .inr (.inr (.inr (.inr FR))))), (a1, .inr (6, [.ref a2, .int (nI nx), .int (nI kp)])), (a2, .inl (cA 0, 240, .inl fr)), (a5, .inl (cA 0, 10, .inl ff)), (a6, .inl (cA 0, 10, .inl fd)), (oX9 h0 b0 (nI nb) p0 u0 r0 a0 t0 s0 o0), (oX0 a0 p0 a1 a3 a4 a5 a6 i6 i7 i8 i9 i10 i11 i12 i13 i14 i15 i16 i17 i18 i19), (oX3 p0 pr pb pe pg p1 (nI nd) p2 p3 p4 p5 (nI cn) p6 (nI pq) p7 p8 p9 (nI sc)), (a3, .inl (cA 0, 10, .inl fs)), (a4, .inl (cA 0, 10, .inl fp)), (p3, .inl (cA 0, 10, .inl fam))]) 12 hP hD [] [0, 1, 2, 3, 4, 5, 6, 7, 8, 9, 10, 11] rfl rfl (by decide +kernel) (by decide +kernel) hk1 hFc hP1 hD1 rfl
      generalize H1 = H at hP hS hcell ⊢
      have hP9 := hP.by (ws' := (([(oX9 h0 b0 (nI nb) p0 u0 r0 a0 t0 s0 o0), (s0, .inr (5, [.ref s1, .int (nI wn), .int (nI wc)])), (s1, .inl (cA 5, 10, .inr (.inr (.inr (.inr FR))))), (oX0 a0 p0 a1 a3 a4 a5 a6 i6 i7 i8 i9 i10 i11 i12 i13 i14 i15 i16 i17 i18 i19), (a1, .inr (6, [.ref a2, .int (nI nx), .int (nI kp)])), (a2, .inl (cA 0, 240, .inl fr)), (a3, .inl (cA 0, 10, .inl fs)), (a4, .inl (cA 0, 10, .inl fp)), (a5, .inl (cA 0, 10, .inl ff)), (a6, .inl (cA 0, 10, .inl fd)), (oX3 p0 pr pb pe pg p1 (nI nd) p2 p3 p4 p5 (nI cn) p6 (nI pq) p7 p8 p9 (nI sc)), (p3, .inl (cA 0, 10, .inl fam))] : va_W) ++ memW cA q mp mi ml mn mk mf)) _ (va_part [6, 0, 1, 7, 2, 3, 9, 10, 4, 5, 8, 11] rfl)
      have hD9 := va_D_part (cx := [(oX9 h0 b0 (nI nb) p0 u0 r0 a0 t0 s0 o0), (s0, .inr (5, [.ref s1, .int (nI wn), .int (nI wc)])), (s1, .inl (cA 5, 10, .inr (.inr (.inr (.inr FR))))), (oX0 a0 p0 a1 a3 a4 a5 a6 i6 i7 i8 i9 i10 i11 i12 i13 i14 i15 i16 i17 i18 i19), (a1, .inr (6, [.ref a2, .int (nI nx), .int (nI kp)])), (a2, .inl (cA 0, 240, .inl fr)), (a3, .inl (cA 0, 10, .inl fs)), (a4, .inl (cA 0, 10, .inl fp)), (a5, .inl (cA 0, 10, .inl ff)), (a6, .inl (cA 0, 10, .inl fd)), (oX3 p0 pr pb pe pg p1 (nI nd) p2 p3 p4 p5 (nI cn) p6 (nI pq) p7 p8 p9 (nI sc)), (p3, .inl (cA 0, 10, .inl fam))]) hD [6, 0, 1, 7, 2, 3, 9, 10, 4, 5, 8, 11] (by decide +kernel) rfl
      exact vx_out (fun x h => (hno x h).elim) hlocks hcell hv9 hcl (fun t ht hvm => ⟨(), trivial, ⟨(by rw [hE]; simp), by rw [ht]; exact hP9, hD9⟩, hS.F ht⟩) hS.2.2 (Nat.le_of_ble_eq_true rfl) (Nat.le_of_ble_eq_true rfl)
    · skip
      obtain ⟨hP1, hD1⟩ := hB
      rw [ht] at hP1
      obtain ⟨hP, hD⟩ := PDq.joinQ (w := [(s0, .inr (5, [.ref s1, .int (nI wn), .int (nI wc)])), (s1, .inl (cA 5, 10, .inr (.inr (.inr (.inr FR))))), (a1, .inr (6, [.ref a2, .int (nI nx), .int (nI kp)])), (a2, .inl (cA 0, 240, .inl fr)), (a5, .inl (cA 0, 10, .inl ff)), (a6, .inl (cA 0, 10, .inl fd)), (oX9 h0 b0 (nI nb) p0 u0 r0 a0 t0 s0 o0), (oX0 a0 p0 a1 a3 a4 a5 a6 i6 i7 i8 i9 i10 i11 i12 i13 i14 i15 i16 i17 i18 i19), (oX3 p0 pr pb pe pg p1 (nI nd) p2 p3 p4 p5 (nI cn) p6 (nI pq) p7 p8 p9 (nI sc)), (a3, .inl (cA 0, 10, .inl fs)), (a4, .inl (cA 0, 10, .inl fp)), (p3, .inl (cA 0, 10, .inl fam))]) 12 hP hD [] [0, 1, 2, 3, 4, 5, 6, 7, 8, 9, 10, 11] rfl rfl (by decide +kernel) (by decide +kernel) hk1 hFc hP1 hD1 rfl
      generalize H1 = H at hP hS ⊢
      refine lv_aload_n hx hb dX9_pay_18 rfl (lv_at hl 0 rfl) ?_
      refine va_get (D := D) (ci := 10) (v := .ref a0) (C := RX9) (T := TX9) (N := 9) hx hb hts inX9 hown hK hP 6 rfl rfl 5 (by decide) (hts (.fieldLink RX9 35 "EscrowDesk" "account" "LEscrowDesk$Account;") (by decide +kernel)) (fun _ h9 => h9) rfl dX9_pay_19 ?_
      refine lv_iload_n hx hb dX9_pay_22 rfl (lv_at hl 1 rfl) ?_
      obtain ⟨hPc, hDc, hFc⟩ := PDq.cut (wc := [(oX0 a0 p0 a1 a3 a4 a5 a6 i6 i7 i8 i9 i10 i11 i12 i13 i14 i15 i16 i17 i18 i19), (a3, .inl (cA 0, 10, .inl fs))]) (cq_P hP) (cq_D hD) hS hA [7, 9] (by decide) rfl
      refine va_calli (va_runV (As := [.int (nI qn1)]) (rest := []) ⟨hx, hb, hml, hown, hts⟩ (s_isOpenOrDue l D cA sa a0 a1 a3 a4 a5 a6 p0 i6 i7 i8 i12 i13 i14 i15 i16 i17 i18 i19 i9 i10 i11 qn1 fs H.size (by omega)) (cwV 1 hts gX9_pay_X0_isOpenOrDue rfl rfl rfl (by decide +kernel) ⟨(Nat.le_of_ble_eq_true rfl), (Nat.le_of_ble_eq_true rfl)⟩) ⟨Wd.blind, va_recv hK hPc (ci := 4) (q0 := 0) rfl rfl, fun U hU hW => ⟨rfl, Wd.call hPc hDc hK hC hZ hS hFc U hU hW⟩⟩ rfl rfl hl.1 rfl (lv_room (Nat.le_of_ble_eq_true rfl)) dX9_pay_23 ⟨(Nat.le_of_ble_eq_true rfl), (Nat.le_of_ble_eq_true rfl)⟩) hS (fun q _ h => hFc q h) hFc (fun rn5 u t H1 locs ht hvm hw hB hz1 hk1 hS => ?_)
      obtain ⟨hP1, hD1⟩ := hB
      rw [ht] at hP1
      obtain ⟨hP, hD⟩ := PDq.joinQ (w := [(s0, .inr (5, [.ref s1, .int (nI wn), .int (nI wc)])), (s1, .inl (cA 5, 10, .inr (.inr (.inr (.inr FR))))), (a1, .inr (6, [.ref a2, .int (nI nx), .int (nI kp)])), (a2, .inl (cA 0, 240, .inl fr)), (a5, .inl (cA 0, 10, .inl ff)), (a6, .inl (cA 0, 10, .inl fd)), (oX9 h0 b0 (nI nb) p0 u0 r0 a0 t0 s0 o0), (oX3 p0 pr pb pe pg p1 (nI nd) p2 p3 p4 p5 (nI cn) p6 (nI pq) p7 p8 p9 (nI sc)), (a4, .inl (cA 0, 10, .inl fp)), (p3, .inl (cA 0, 10, .inl fam)), (oX0 a0 p0 a1 a3 a4 a5 a6 i6 i7 i8 i9 i10 i11 i12 i13 i14 i15 i16 i17 i18 i19), (a3, .inl (cA 0, 10, .inl fs))]) 10 hP hD [7, 9] [0, 1, 2, 3, 4, 5, 6, 8, 10, 11] rfl rfl (by decide +kernel) (by decide +kernel) hk1 hFc hP1 hD1 rfl
      generalize H1 = H at hP hS ⊢
      have hn6 := hw
      refine lv_if_eq (tgt := 44) hx hb dX9_pay_26 (by decide) (fun c7 => ?_) (fun c7 => ?_)
      · skip
        refine lv_iconst (v := 0) hx hb dX9_pay_44 (by decide) ?_
        obtain ⟨hPc, hDc, hFc⟩ := PDq.cut (wc := []) (cq_P hP) (cq_D hD) hS hA [] (by decide) rfl
        refine vx_callv (vx_runS (As := [.int 0]) (rest := []) ⟨hx, hb, hml, hown, hts⟩ (s_needPossible0 l D cA sa  H.size hl9) (va_cwS 1 hts gX9_pay_X9_needPossible rfl rfl rfl (by decide +kernel) ⟨(Nat.le_of_ble_eq_true rfl), (Nat.le_of_ble_eq_true rfl)⟩) ⟨Wd.blind, fun U hU hW => ⟨rfl, Wd.call hPc hDc hK hC hZ hS hFc U hU hW⟩⟩ rfl rfl hl.1 rfl (lv_room (Nat.le_of_ble_eq_true rfl)) dX9_pay_45 ⟨(Nat.le_of_ble_eq_true rfl), (Nat.le_of_ble_eq_true rfl)⟩) hS (fun q _ h => hFc q h) hFc (fun q _ h => hFc q h) (fun E ce q9 u t H1 locs ht hvm hpx hE hz1 hk1 hS hcell hv9 hcl => ?_) (fun u t H1 locs ht hvm hw hB hz1 hk1 hS => ?_)
        · skip
          obtain ⟨hE, hP1, hD1⟩ := hE
          rw [ht] at hP1
          obtain ⟨hP, hD⟩ := PDq.joinQ (w := [(s0, .inr (5, [.ref s1, .int (nI wn), .int (nI wc)])), (s1, .inl (cA 5, 10, .inr (.inr (.inr (.inr FR))))), (a1, .inr (6, [.ref a2, .int (nI nx), .int (nI kp)])), (a2, .inl (cA 0, 240, .inl fr)), (a5, .inl (cA 0, 10, .inl ff)), (a6, .inl (cA 0, 10, .inl fd)), (oX9 h0 b0 (nI nb) p0 u0 r0 a0 t0 s0 o0), (oX3 p0 pr pb pe pg p1 (nI nd) p2 p3 p4 p5 (nI cn) p6 (nI pq) p7 p8 p9 (nI sc)), (a4, .inl (cA 0, 10, .inl fp)), (p3, .inl (cA 0, 10, .inl fam)), (oX0 a0 p0 a1 a3 a4 a5 a6 i6 i7 i8 i9 i10 i11 i12 i13 i14 i15 i16 i17 i18 i19), (a3, .inl (cA 0, 10, .inl fs))]) 12 hP hD [] [0, 1, 2, 3, 4, 5, 6, 7, 8, 9, 10, 11] rfl rfl (by decide +kernel) (by decide +kernel) hk1 hFc hP1 hD1 rfl
          generalize H1 = H at hP hS hcell ⊢
          have hP9 := hP.by (ws' := (([(oX9 h0 b0 (nI nb) p0 u0 r0 a0 t0 s0 o0), (s0, .inr (5, [.ref s1, .int (nI wn), .int (nI wc)])), (s1, .inl (cA 5, 10, .inr (.inr (.inr (.inr FR))))), (oX0 a0 p0 a1 a3 a4 a5 a6 i6 i7 i8 i9 i10 i11 i12 i13 i14 i15 i16 i17 i18 i19), (a1, .inr (6, [.ref a2, .int (nI nx), .int (nI kp)])), (a2, .inl (cA 0, 240, .inl fr)), (a3, .inl (cA 0, 10, .inl fs)), (a4, .inl (cA 0, 10, .inl fp)), (a5, .inl (cA 0, 10, .inl ff)), (a6, .inl (cA 0, 10, .inl fd)), (oX3 p0 pr pb pe pg p1 (nI nd) p2 p3 p4 p5 (nI cn) p6 (nI pq) p7 p8 p9 (nI sc)), (p3, .inl (cA 0, 10, .inl fam))] : va_W) ++ memW cA q mp mi ml mn mk mf)) _ (va_part [6, 0, 1, 10, 2, 3, 11, 8, 4, 5, 7, 9] rfl)
          have hD9 := va_D_part (cx := [(oX9 h0 b0 (nI nb) p0 u0 r0 a0 t0 s0 o0), (s0, .inr (5, [.ref s1, .int (nI wn), .int (nI wc)])), (s1, .inl (cA 5, 10, .inr (.inr (.inr (.inr FR))))), (oX0 a0 p0 a1 a3 a4 a5 a6 i6 i7 i8 i9 i10 i11 i12 i13 i14 i15 i16 i17 i18 i19), (a1, .inr (6, [.ref a2, .int (nI nx), .int (nI kp)])), (a2, .inl (cA 0, 240, .inl fr)), (a3, .inl (cA 0, 10, .inl fs)), (a4, .inl (cA 0, 10, .inl fp)), (a5, .inl (cA 0, 10, .inl ff)), (a6, .inl (cA 0, 10, .inl fd)), (oX3 p0 pr pb pe pg p1 (nI nd) p2 p3 p4 p5 (nI cn) p6 (nI pq) p7 p8 p9 (nI sc)), (p3, .inl (cA 0, 10, .inl fam))]) hD [6, 0, 1, 10, 2, 3, 11, 8, 4, 5, 7, 9] (by decide +kernel) rfl
          exact vx_out (fun x h => (hno x h).elim) hlocks hcell hv9 hcl (fun t ht hvm => ⟨(), trivial, ⟨(by rw [hE]; simp), by rw [ht]; exact hP9, hD9⟩, hS.F ht⟩) hS.2.2 (Nat.le_of_ble_eq_true rfl) (Nat.le_of_ble_eq_true rfl)
        · skip
          exact hw.elim
      · skip
        refine lv_iload_n hx hb dX9_pay_29 rfl (lv_at hl 2 rfl) ?_
        refine lv_aload_n hx hb dX9_pay_30 rfl (lv_at hl 0 rfl) ?_
        refine va_get (D := D) (ci := 10) (v := .ref a0) (C := RX9) (T := TX9) (N := 9) hx hb hts inX9 hown hK hP 6 rfl rfl 5 (by decide) (hts (.fieldLink RX9 35 "EscrowDesk" "account" "LEscrowDesk$Account;") (by decide +kernel)) (fun _ h9 => h9) rfl dX9_pay_31 ?_
        obtain ⟨hPc, hDc, hFc⟩ := PDq.cut (wc := [(oX0 a0 p0 a1 a3 a4 a5 a6 i6 i7 i8 i9 i10 i11 i12 i13 i14 i15 i16 i17 i18 i19), (oX3 p0 pr pb pe pg p1 (nI nd) p2 p3 p4 p5 (nI cn) p6 (nI pq) p7 p8 p9 (nI sc)), (a5, .inl (cA 0, 10, .inl ff))]) (cq_P hP) (cq_D hD) hS hA [10, 7, 4] (by decide) rfl
        refine va_calli (va_runV (As := []) (rest := [.int j]) ⟨hx, hb, hml, hown, hts⟩ (s_availMoney l D cA sa a0 a1 a3 a4 a5 a6 p0 i6 i7 i8 i12 i13 i14 i15 i16 i17 i18 i19 i9 i10 i11 p1 p2 p3 p4 p5 p6 p7 p8 p9 cn pq nd sc pr pb pe pg ff H.size hcn hpq hnd hsc) (cwV 0 hts gX9_pay_X0_availableMoney rfl rfl rfl (by decide +kernel) ⟨(Nat.le_of_ble_eq_true rfl), (Nat.le_of_ble_eq_true rfl)⟩) ⟨Wd.blind, va_recv hK hPc (ci := 4) (q0 := 0) rfl rfl, fun U hU hW => ⟨rfl, Wd.call hPc hDc hK hC hZ hS hFc U hU hW⟩⟩ rfl rfl hl.1 rfl (lv_room (Nat.le_of_ble_eq_true rfl)) dX9_pay_34 ⟨(Nat.le_of_ble_eq_true rfl), (Nat.le_of_ble_eq_true rfl)⟩) hS (fun q _ h => hFc q h) hFc (fun rn8 u t H1 locs ht hvm hw hB hz1 hk1 hS => ?_)
        obtain ⟨hP1, hD1⟩ := hB
        rw [ht] at hP1
        obtain ⟨hP, hD⟩ := PDq.joinQ (w := [(s0, .inr (5, [.ref s1, .int (nI wn), .int (nI wc)])), (s1, .inl (cA 5, 10, .inr (.inr (.inr (.inr FR))))), (a1, .inr (6, [.ref a2, .int (nI nx), .int (nI kp)])), (a2, .inl (cA 0, 240, .inl fr)), (a6, .inl (cA 0, 10, .inl fd)), (oX9 h0 b0 (nI nb) p0 u0 r0 a0 t0 s0 o0), (a4, .inl (cA 0, 10, .inl fp)), (p3, .inl (cA 0, 10, .inl fam)), (a3, .inl (cA 0, 10, .inl fs)), (oX0 a0 p0 a1 a3 a4 a5 a6 i6 i7 i8 i9 i10 i11 i12 i13 i14 i15 i16 i17 i18 i19), (oX3 p0 pr pb pe pg p1 (nI nd) p2 p3 p4 p5 (nI cn) p6 (nI pq) p7 p8 p9 (nI sc)), (a5, .inl (cA 0, 10, .inl ff))]) 9 hP hD [10, 7, 4] [0, 1, 2, 3, 5, 6, 8, 9, 11] rfl rfl (by decide +kernel) (by decide +kernel) hk1 hFc hP1 hD1 rfl
        generalize H1 = H at hP hS ⊢
        refine lv_icmp_gt (tgt := 44) hx hb dX9_pay_37 (by decide) (fun c9 => ?_) (fun c9 => ?_)
        · skip
          refine lv_iconst (v := 0) hx hb dX9_pay_44 (by decide) ?_
          obtain ⟨hPc, hDc, hFc⟩ := PDq.cut (wc := []) (cq_P hP) (cq_D hD) hS hA [] (by decide) rfl
          refine vx_callv (vx_runS (As := [.int 0]) (rest := []) ⟨hx, hb, hml, hown, hts⟩ (s_needPossible0 l D cA sa  H.size hl9) (va_cwS 1 hts gX9_pay_X9_needPossible rfl rfl rfl (by decide +kernel) ⟨(Nat.le_of_ble_eq_true rfl), (Nat.le_of_ble_eq_true rfl)⟩) ⟨Wd.blind, fun U hU hW => ⟨rfl, Wd.call hPc hDc hK hC hZ hS hFc U hU hW⟩⟩ rfl rfl hl.1 rfl (lv_room (Nat.le_of_ble_eq_true rfl)) dX9_pay_45 ⟨(Nat.le_of_ble_eq_true rfl), (Nat.le_of_ble_eq_true rfl)⟩) hS (fun q _ h => hFc q h) hFc (fun q _ h => hFc q h) (fun E ce q9 u t H1 locs ht hvm hpx hE hz1 hk1 hS hcell hv9 hcl => ?_) (fun u t H1 locs ht hvm hw hB hz1 hk1 hS => ?_)
          · skip
            obtain ⟨hE, hP1, hD1⟩ := hE
            rw [ht] at hP1
            obtain ⟨hP, hD⟩ := PDq.joinQ (w := [(s0, .inr (5, [.ref s1, .int (nI wn), .int (nI wc)])), (s1, .inl (cA 5, 10, .inr (.inr (.inr (.inr FR))))), (a1, .inr (6, [.ref a2, .int (nI nx), .int (nI kp)])), (a2, .inl (cA 0, 240, .inl fr)), (a6, .inl (cA 0, 10, .inl fd)), (oX9 h0 b0 (nI nb) p0 u0 r0 a0 t0 s0 o0), (a4, .inl (cA 0, 10, .inl fp)), (p3, .inl (cA 0, 10, .inl fam)), (a3, .inl (cA 0, 10, .inl fs)), (oX0 a0 p0 a1 a3 a4 a5 a6 i6 i7 i8 i9 i10 i11 i12 i13 i14 i15 i16 i17 i18 i19), (oX3 p0 pr pb pe pg p1 (nI nd) p2 p3 p4 p5 (nI cn) p6 (nI pq) p7 p8 p9 (nI sc)), (a5, .inl (cA 0, 10, .inl ff))]) 12 hP hD [] [0, 1, 2, 3, 4, 5, 6, 7, 8, 9, 10, 11] rfl rfl (by decide +kernel) (by decide +kernel) hk1 hFc hP1 hD1 rfl
            generalize H1 = H at hP hS hcell ⊢
            have hP9 := hP.by (ws' := (([(oX9 h0 b0 (nI nb) p0 u0 r0 a0 t0 s0 o0), (s0, .inr (5, [.ref s1, .int (nI wn), .int (nI wc)])), (s1, .inl (cA 5, 10, .inr (.inr (.inr (.inr FR))))), (oX0 a0 p0 a1 a3 a4 a5 a6 i6 i7 i8 i9 i10 i11 i12 i13 i14 i15 i16 i17 i18 i19), (a1, .inr (6, [.ref a2, .int (nI nx), .int (nI kp)])), (a2, .inl (cA 0, 240, .inl fr)), (a3, .inl (cA 0, 10, .inl fs)), (a4, .inl (cA 0, 10, .inl fp)), (a5, .inl (cA 0, 10, .inl ff)), (a6, .inl (cA 0, 10, .inl fd)), (oX3 p0 pr pb pe pg p1 (nI nd) p2 p3 p4 p5 (nI cn) p6 (nI pq) p7 p8 p9 (nI sc)), (p3, .inl (cA 0, 10, .inl fam))] : va_W) ++ memW cA q mp mi ml mn mk mf)) _ (va_part [5, 0, 1, 9, 2, 3, 8, 6, 11, 4, 10, 7] rfl)
            have hD9 := va_D_part (cx := [(oX9 h0 b0 (nI nb) p0 u0 r0 a0 t0 s0 o0), (s0, .inr (5, [.ref s1, .int (nI wn), .int (nI wc)])), (s1, .inl (cA 5, 10, .inr (.inr (.inr (.inr FR))))), (oX0 a0 p0 a1 a3 a4 a5 a6 i6 i7 i8 i9 i10 i11 i12 i13 i14 i15 i16 i17 i18 i19), (a1, .inr (6, [.ref a2, .int (nI nx), .int (nI kp)])), (a2, .inl (cA 0, 240, .inl fr)), (a3, .inl (cA 0, 10, .inl fs)), (a4, .inl (cA 0, 10, .inl fp)), (a5, .inl (cA 0, 10, .inl ff)), (a6, .inl (cA 0, 10, .inl fd)), (oX3 p0 pr pb pe pg p1 (nI nd) p2 p3 p4 p5 (nI cn) p6 (nI pq) p7 p8 p9 (nI sc)), (p3, .inl (cA 0, 10, .inl fam))]) hD [5, 0, 1, 9, 2, 3, 8, 6, 11, 4, 10, 7] (by decide +kernel) rfl
            exact vx_out (fun x h => (hno x h).elim) hlocks hcell hv9 hcl (fun t ht hvm => ⟨(), trivial, ⟨(by rw [hE]; simp), by rw [ht]; exact hP9, hD9⟩, hS.F ht⟩) hS.2.2 (Nat.le_of_ble_eq_true rfl) (Nat.le_of_ble_eq_true rfl)
          · skip
            exact hw.elim
        · skip
          refine lv_iconst (v := 1) hx hb dX9_pay_40 (by decide) ?_
          refine lv_goto (tgt := 45) hx hb dX9_pay_41 (by decide) ?_
          obtain ⟨hPc, hDc, hFc⟩ := PDq.cut (wc := []) (cq_P hP) (cq_D hD) hS hA [] (by decide) rfl
          refine va_callv (va_runS (As := [.int 1]) (rest := []) ⟨hx, hb, hml, hown, hts⟩ (s_needPossible1 l D cA sa  H.size) (va_cwS 1 hts gX9_pay_X9_needPossible rfl rfl rfl (by decide +kernel) ⟨(Nat.le_of_ble_eq_true rfl), (Nat.le_of_ble_eq_true rfl)⟩) ⟨Wd.blind, fun U hU hW => ⟨rfl, Wd.call hPc hDc hK hC hZ hS hFc U hU hW⟩⟩ rfl rfl hl.1 rfl (lv_room (Nat.le_of_ble_eq_true rfl)) dX9_pay_45 ⟨(Nat.le_of_ble_eq_true rfl), (Nat.le_of_ble_eq_true rfl)⟩) hS (fun q _ h => hFc q h) hFc (fun u t H1 locs ht hvm hw hB hz1 hk1 hS => ?_)
          obtain ⟨hP1, hD1⟩ := hB
          rw [ht] at hP1
          obtain ⟨hP, hD⟩ := PDq.joinQ (w := [(s0, .inr (5, [.ref s1, .int (nI wn), .int (nI wc)])), (s1, .inl (cA 5, 10, .inr (.inr (.inr (.inr FR))))), (a1, .inr (6, [.ref a2, .int (nI nx), .int (nI kp)])), (a2, .inl (cA 0, 240, .inl fr)), (a6, .inl (cA 0, 10, .inl fd)), (oX9 h0 b0 (nI nb) p0 u0 r0 a0 t0 s0 o0), (a4, .inl (cA 0, 10, .inl fp)), (p3, .inl (cA 0, 10, .inl fam)), (a3, .inl (cA 0, 10, .inl fs)), (oX0 a0 p0 a1 a3 a4 a5 a6 i6 i7 i8 i9 i10 i11 i12 i13 i14 i15 i16 i17 i18 i19), (oX3 p0 pr pb pe pg p1 (nI nd) p2 p3 p4 p5 (nI cn) p6 (nI pq) p7 p8 p9 (nI sc)), (a5, .inl (cA 0, 10, .inl ff))]) 12 hP hD [] [0, 1, 2, 3, 4, 5, 6, 7, 8, 9, 10, 11] rfl rfl (by decide +kernel) (by decide +kernel) hk1 hFc hP1 hD1 rfl
          generalize H1 = H at hP hS ⊢
          refine lv_aload_n hx hb dX9_pay_48 rfl (lv_at hl 0 rfl) ?_
          refine va_get (D := D) (ci := 10) (v := .ref s0) (C := RX9) (T := TX9) (N := 9) hx hb hts inX9 hown hK hP 5 rfl rfl 7 (by decide) (hts (.fieldLink RX9 45 "EscrowDesk" "history" "LEscrowDesk$History;") (by decide +kernel)) (fun _ h9 => h9) rfl dX9_pay_49 ?_
          refine lv_aload_n hx hb dX9_pay_52 rfl (lv_at hl 0 rfl) ?_
          refine va_get (D := D) (ci := 10) (v := .ref a0) (C := RX9) (T := TX9) (N := 9) hx hb hts inX9 hown hK hP 5 rfl rfl 5 (by decide) (hts (.fieldLink RX9 35 "EscrowDesk" "account" "LEscrowDesk$Account;") (by decide +kernel)) (fun _ h9 => h9) rfl dX9_pay_53 ?_
          have hPc := hP.by (ws' := (([(s0, .inr (5, [.ref s1, .int (nI wn), .int (nI wc)])), (s1, .inl (cA 5, 10, .inr (.inr (.inr (.inr FR))))), (oX0 a0 p0 a1 a3 a4 a5 a6 i6 i7 i8 i9 i10 i11 i12 i13 i14 i15 i16 i17 i18 i19), (a1, .inr (6, [.ref a2, .int (nI nx), .int (nI kp)])), (a2, .inl (cA 0, 240, .inl fr)), (a3, .inl (cA 0, 10, .inl fs)), (a4, .inl (cA 0, 10, .inl fp)), (a5, .inl (cA 0, 10, .inl ff)), (a6, .inl (cA 0, 10, .inl fd))] : va_W) ++ memW cA q mp mi ml mn mk mf)) _ (va_part [0, 1, 9, 2, 3, 8, 6, 11, 4] rfl)
          have hDc := va_D_part (cx := [(s0, .inr (5, [.ref s1, .int (nI wn), .int (nI wc)])), (s1, .inl (cA 5, 10, .inr (.inr (.inr (.inr FR))))), (oX0 a0 p0 a1 a3 a4 a5 a6 i6 i7 i8 i9 i10 i11 i12 i13 i14 i15 i16 i17 i18 i19), (a1, .inr (6, [.ref a2, .int (nI nx), .int (nI kp)])), (a2, .inl (cA 0, 240, .inl fr)), (a3, .inl (cA 0, 10, .inl fs)), (a4, .inl (cA 0, 10, .inl fp)), (a5, .inl (cA 0, 10, .inl ff)), (a6, .inl (cA 0, 10, .inl fd))]) hD [0, 1, 9, 2, 3, 8, 6, 11, 4] (by decide +kernel) rfl
          have hFc := va_freeP (cx := [(s0, .inr (5, [.ref s1, .int (nI wn), .int (nI wc)])), (s1, .inl (cA 5, 10, .inr (.inr (.inr (.inr FR))))), (oX0 a0 p0 a1 a3 a4 a5 a6 i6 i7 i8 i9 i10 i11 i12 i13 i14 i15 i16 i17 i18 i19), (a1, .inr (6, [.ref a2, .int (nI nx), .int (nI kp)])), (a2, .inl (cA 0, 240, .inl fr)), (a3, .inl (cA 0, 10, .inl fs)), (a4, .inl (cA 0, 10, .inl fp)), (a5, .inl (cA 0, 10, .inl ff)), (a6, .inl (cA 0, 10, .inl fd))]) hD hS hA [0, 1, 9, 2, 3, 8, 6, 11, 4] rfl
          refine va_callv (va_runV (As := [.ref a0]) (rest := []) ⟨hx, hb, hml, hown, hts⟩ (s_remember l D cA sa s0 s1 wn wc FR q mp mi ml mn mk mf a0 a1 a2 a3 a4 a5 a6 p0 i6 i7 i8 i12 i13 i14 i15 i16 i17 i18 i19 i9 i10 i11 nx kp fr fs fp ff fd H.size hnx hkp hwn hwc hFR hMB hWin) (cwV 1 hts gX9_pay_X1_remember rfl rfl rfl (by decide +kernel) ⟨(Nat.le_of_ble_eq_true rfl), (Nat.le_of_ble_eq_true rfl)⟩) ⟨Wd.blind, va_recv hK hPc (ci := 5) (q0 := 0) rfl rfl, fun U hU hW => ⟨rfl, Wd.call hPc hDc hK hC hZ hS hFc U hU hW⟩⟩ rfl rfl hl.1 rfl (lv_room (Nat.le_of_ble_eq_true rfl)) dX9_pay_56 ⟨(Nat.le_of_ble_eq_true rfl), (Nat.le_of_ble_eq_true rfl)⟩) hS (fun q _ h => hFc q h) hFc (fun u t H1 locs ht hvm hw hB hz1 hk1 hS => ?_)
          obtain ⟨qn10, qn11, fn12, fn13, fn14, fn15, fn16, fn17, hn18, hn19, hn20, hn21, hP1, hD1⟩ := hB
          rw [ht] at hP1
          obtain ⟨hP, hD⟩ := va_joinP (wr := [(oX9 h0 b0 (nI nb) p0 u0 r0 a0 t0 s0 o0), (p3, .inl (cA 0, 10, .inl fam)), (oX3 p0 pr pb pe pg p1 (nI nd) p2 p3 p4 p5 (nI cn) p6 (nI pq) p7 p8 p9 (nI sc))]) (rx := [(s0, .inr (5, [.ref s1, .int (nI qn10), .int (nI qn11)])), (s1, .inl (cA 5, 10, .inr (.inr (.inr (.inr FR))))), (oX0 a0 p0 a1 a3 a4 a5 a6 i6 i7 i8 i9 i10 i11 i12 i13 i14 i15 i16 i17 i18 i19), (a1, .inr (6, [.ref a2, .int (nI nx), .int (nI kp)])), (a2, .inl (cA 0, 240, .inl fr)), (a3, .inl (cA 0, 10, .inl fs)), (a4, .inl (cA 0, 10, .inl fp)), (a5, .inl (cA 0, 10, .inl ff)), (a6, .inl (cA 0, 10, .inl fd))]) (pl1 := memW cA q fn12 fn13 fn14 fn15 fn16 fn17) hP hD [0, 1, 9, 2, 3, 8, 6, 11, 4] [5, 7, 10] rfl rfl (by decide) (by decide +kernel) hk1 hFc hP1 hD1
          generalize H1 = H at hP hS ⊢
          obtain ⟨hP, hD⟩ : PDq D A (([(oX9 h0 b0 (nI nb) p0 u0 r0 a0 t0 s0 o0), (p3, .inl (cA 0, 10, .inl fam)), (oX3 p0 pr pb pe pg p1 (nI nd) p2 p3 p4 p5 (nI cn) p6 (nI pq) p7 p8 p9 (nI sc)), (s0, .inr (5, [.ref s1, .int (nI qn10), .int (nI qn11)])), (s1, .inl (cA 5, 10, .inr (.inr (.inr (.inr FR))))), (oX0 a0 p0 a1 a3 a4 a5 a6 i6 i7 i8 i9 i10 i11 i12 i13 i14 i15 i16 i17 i18 i19), (a1, .inr (6, [.ref a2, .int (nI nx), .int (nI kp)])), (a2, .inl (cA 0, 240, .inl fr)), (a3, .inl (cA 0, 10, .inl fs)), (a4, .inl (cA 0, 10, .inl fp)), (a5, .inl (cA 0, 10, .inl ff)), (a6, .inl (cA 0, 10, .inl fd))] : va_W) ++ memW cA q fn12 fn13 fn14 fn15 fn16 fn17) H := ⟨hP, hD⟩
          refine lv_aload_n hx hb dX9_pay_59 rfl (lv_at hl 0 rfl) ?_
          refine va_get (D := D) (ci := 10) (v := .ref a0) (C := RX9) (T := TX9) (N := 9) hx hb hts inX9 hown hK hP 0 rfl rfl 5 (by decide) (hts (.fieldLink RX9 35 "EscrowDesk" "account" "LEscrowDesk$Account;") (by decide +kernel)) (fun _ h9 => h9) rfl dX9_pay_60 ?_
          refine lv_iload_n hx hb dX9_pay_63 rfl (lv_at hl 1 rfl) ?_
          refine lv_iload_n hx hb dX9_pay_64 rfl (lv_at hl 2 rfl) ?_
          obtain ⟨hPc, hDc, hFc⟩ := PDq.cut (wc := [(oX0 a0 p0 a1 a3 a4 a5 a6 i6 i7 i8 i9 i10 i11 i12 i13 i14 i15 i16 i17 i18 i19), (a1, .inr (6, [.ref a2, .int (nI nx), .int (nI kp)])), (a2, .inl (cA 0, 240, .inl fr)), (a3, .inl (cA 0, 10, .inl fs)), (a4, .inl (cA 0, 10, .inl fp)), (oX3 p0 pr pb pe pg p1 (nI nd) p2 p3 p4 p5 (nI cn) p6 (nI pq) p7 p8 p9 (nI sc)), (p3, .inl (cA 0, 10, .inl fam))]) (cq_P hP) (cq_D hD) hS hA [5, 6, 7, 8, 9, 2, 1] (by decide) rfl
          refine va_calli (va_runV (As := [.int (nI qn1), .int j]) (rest := []) ⟨hx, hb, hml, hown, hts⟩ (s_makePayment l D cA sa a0 a1 a2 a3 a4 a5 a6 p0 i6 i7 i8 i12 i13 i14 i15 i16 i17 i18 i19 i9 i10 i11 nx kp fr p1 p2 p3 p4 p5 p6 p7 p8 p9 cn pq nd sc pr pb pe pg fs fp fam qn1 j H.size hnx hkp (by omega)) (cwV 2 hts gX9_pay_X0_makePayment rfl rfl rfl (by decide +kernel) ⟨(Nat.le_of_ble_eq_true rfl), (Nat.le_of_ble_eq_true rfl)⟩) ⟨Wd.blind, va_recv hK hPc (ci := 4) (q0 := 0) rfl rfl, fun U hU hW => ⟨rfl, Wd.call hPc hDc hK hC hZ hS hFc U hU hW⟩⟩ rfl rfl hl.1 rfl (lv_room (Nat.le_of_ble_eq_true rfl)) dX9_pay_65 ⟨(Nat.le_of_ble_eq_true rfl), (Nat.le_of_ble_eq_true rfl)⟩) hS (fun q _ h => hFc q h) hFc (fun rn22 u t H1 locs ht hvm hw hB hz1 hk1 hS => ?_)
          obtain ⟨zn23, zn24, zn25, zn26, zn27, zn28, zn29, zn30, zn31, zn32, zn33, zn34, zn35, zn36, qn37, qn38, fn39, fn40, fn41, hn42, hn43, hP1, hD1⟩ := hB
          rw [ht] at hP1
          obtain ⟨hP, hD⟩ := PDq.joinQ (w := [(oX9 h0 b0 (nI nb) p0 u0 r0 a0 t0 s0 o0), (s0, .inr (5, [.ref s1, .int (nI qn10), .int (nI qn11)])), (s1, .inl (cA 5, 10, .inr (.inr (.inr (.inr FR))))), (a5, .inl (cA 0, 10, .inl ff)), (a6, .inl (cA 0, 10, .inl fd)), (oX0 a0 p0 a1 a3 a4 a5 a6 zn23 zn24 zn25 zn34 zn35 zn36 zn26 zn27 zn28 zn29 zn30 zn31 zn32 zn33), (a1, .inr (6, [.ref a2, .int (nI qn37), .int (nI qn38)])), (a2, .inl (cA 0, 240, .inl fn39)), (a3, .inl (cA 0, 10, .inl fn40)), (a4, .inl (cA 0, 10, .inl fn41)), (oX3 p0 pr pb pe pg p1 (nI nd) p2 p3 p4 p5 (nI cn) p6 (nI pq) p7 p8 p9 (nI sc)), (p3, .inl (cA 0, 10, .inl fam))]) 5 hP hD [5, 6, 7, 8, 9, 2, 1] [0, 3, 4, 10, 11] rfl rfl (by decide) (by decide +kernel) hk1 hFc hP1 hD1 rfl
          generalize H1 = H at hP hS ⊢
          have hP9 := hP.by (ws' := (([(oX9 h0 b0 (nI nb) p0 u0 r0 a0 t0 s0 o0), (s0, .inr (5, [.ref s1, .int (nI qn10), .int (nI qn11)])), (s1, .inl (cA 5, 10, .inr (.inr (.inr (.inr FR))))), (oX0 a0 p0 a1 a3 a4 a5 a6 zn23 zn24 zn25 zn34 zn35 zn36 zn26 zn27 zn28 zn29 zn30 zn31 zn32 zn33), (a1, .inr (6, [.ref a2, .int (nI qn37), .int (nI qn38)])), (a2, .inl (cA 0, 240, .inl fn39)), (a3, .inl (cA 0, 10, .inl fn40)), (a4, .inl (cA 0, 10, .inl fn41)), (a5, .inl (cA 0, 10, .inl ff)), (a6, .inl (cA 0, 10, .inl fd)), (oX3 p0 pr pb pe pg p1 (nI nd) p2 p3 p4 p5 (nI cn) p6 (nI pq) p7 p8 p9 (nI sc)), (p3, .inl (cA 0, 10, .inl fam))] : va_W) ++ memW cA q fn12 fn13 fn14 fn15 fn16 fn17)) _ (va_part [0, 1, 2, 5, 6, 7, 8, 9, 3, 4, 10, 11] rfl)
          have hD9 := va_D_part (cx := [(oX9 h0 b0 (nI nb) p0 u0 r0 a0 t0 s0 o0), (s0, .inr (5, [.ref s1, .int (nI qn10), .int (nI qn11)])), (s1, .inl (cA 5, 10, .inr (.inr (.inr (.inr FR))))), (oX0 a0 p0 a1 a3 a4 a5 a6 zn23 zn24 zn25 zn34 zn35 zn36 zn26 zn27 zn28 zn29 zn30 zn31 zn32 zn33), (a1, .inr (6, [.ref a2, .int (nI qn37), .int (nI qn38)])), (a2, .inl (cA 0, 240, .inl fn39)), (a3, .inl (cA 0, 10, .inl fn40)), (a4, .inl (cA 0, 10, .inl fn41)), (a5, .inl (cA 0, 10, .inl ff)), (a6, .inl (cA 0, 10, .inl fd)), (oX3 p0 pr pb pe pg p1 (nI nd) p2 p3 p4 p5 (nI cn) p6 (nI pq) p7 p8 p9 (nI sc)), (p3, .inl (cA 0, 10, .inl fam))]) hD [0, 1, 2, 5, 6, 7, 8, 9, 3, 4, 10, 11] (by decide +kernel) rfl
          refine W.widen (k := 3) (n := 18) (Nat.le_of_ble_eq_true rfl) (Nat.le_of_ble_eq_true rfl) ?_
          exact vx_ret (W.iret (v := rn22) hx hb hr (fun t ht hW => ⟨⟨rn22, (), rfl, trivial, qn10, qn11, fn12, fn13, fn14, fn15, fn16, fn17, zn23, zn24, zn25, zn26, zn27, zn28, zn29, zn30, zn31, zn32, zn33, zn34, zn35, zn36, qn37, qn38, fn39, fn40, fn41, ff, fd, hn18, hn19, hn20, hn21, hn42, hn43, by rw [ht]; exact hP9, hD9⟩, hS.F ht⟩) hS.2.2 dX9_pay_68)

set_option maxHeartbeats 4000000 in
set_option maxRecDepth 100000 in
/-- dispute -/
theorem s_dispute (l : Launch) (D : va_G) (cA : Nat → ClassId) (sa : Nat → Nat) (h0 : Nat) (b0 : Nat) (nb : Nat) (p0 : Nat) (u0 : Nat) (r0 : Nat) (a0 : Nat) (t0 : Nat) (s0 : Nat) (o0 : Nat) (s1 : Nat) (wn : Nat) (wc : Nat) (FR : Nat → Option Nat) (q : Nat → Nat → Nat) (mp : Nat → Nat) (mi : Nat → Nat → Int32) (ml : Nat → Nat → Int64) (mn : Nat → Nat) (mk : Nat → Nat) (mf : Nat → Nat → Nat → Int32) (a1 : Nat) (a2 : Nat) (a3 : Nat) (a4 : Nat) (a5 : Nat) (a6 : Nat) (i6 : Int32) (i7 : Int32) (i8 : Int32) (i12 : Int32) (i13 : Int32) (i14 : Int32) (i15 : Int32) (i16 : Int32) (i17 : Int32) (i18 : Int32) (i19 : Int32) (i9 : Int64) (i10 : Int64) (i11 : Int64) (nx : Nat) (kp : Nat) (fr : Nat → Int32) (fs : Nat → Int32) (fp : Nat → Int32) (ff : Nat → Int32) (fd : Nat → Int32) (p1 : Nat) (p2 : Nat) (p3 : Nat) (p4 : Nat) (p5 : Nat) (p6 : Nat) (p7 : Nat) (p8 : Nat) (p9 : Nat) (cn : Nat) (pq : Nat) (nd : Nat) (sc : Nat) (pr : Int32) (pb : Int32) (pe : Int32) (pg : Int32) (fam : Nat → Int32) (i : Int32) (sz : Nat) (hl9 : l.stackTraces = false) (hnx : nx < 60) (hkp : kp ≤ 60) (hwn : wn < 10) (hwc : wc ≤ 10) (hFR : FRq q FR) (hMB : MB mn mk) (hWin : Win p0 wn wc mp) (hcn : cn ≤ 10) (hpq : pq ≤ 8) (hnd : nd ≤ 6) (hsc : sc ≤ 350) : vx_Met l yX9_dispute wsX9_dispute ({ frames := 8, cells := 2, slots := 12, locals := 132 }) (va_Pc [.ref h0, .int i] (Wd D cA sa (([(oX9 h0 b0 (nI nb) p0 u0 r0 a0 t0 s0 o0), (s0, .inr (5, [.ref s1, .int (nI wn), .int (nI wc)])), (s1, .inl (cA 5, 10, .inr (.inr (.inr (.inr FR))))), (oX0 a0 p0 a1 a3 a4 a5 a6 i6 i7 i8 i9 i10 i11 i12 i13 i14 i15 i16 i17 i18 i19), (a1, .inr (6, [.ref a2, .int (nI nx), .int (nI kp)])), (a2, .inl (cA 0, 240, .inl fr)), (a3, .inl (cA 0, 10, .inl fs)), (a4, .inl (cA 0, 10, .inl fp)), (a5, .inl (cA 0, 10, .inl ff)), (a6, .inl (cA 0, 10, .inl fd)), (oX3 p0 pr pb pe pg p1 (nI nd) p2 p3 p4 p5 (nI cn) p6 (nI pq) p7 p8 p9 (nI sc)), (p3, .inl (cA 0, 10, .inl fam))] : va_W) ++ memW cA q mp mi ml mn mk mf) sz)) (va_Qi (fun (r : Int32) (_ : Unit) => True) (fun (_ : Unit) t => ∃ wn2 : Nat, ∃ wc2 : Nat, ∃ mp2 : Nat → Nat, ∃ mi2 : Nat → Nat → Int32, ∃ ml2 : Nat → Nat → Int64, ∃ mn2 : Nat → Nat, ∃ mk2 : Nat → Nat, ∃ mf2 : Nat → Nat → Nat → Int32, ∃ z6 : Int32, ∃ z7 : Int32, ∃ z8 : Int32, ∃ z12 : Int32, ∃ z13 : Int32, ∃ z14 : Int32, ∃ z15 : Int32, ∃ z16 : Int32, ∃ z17 : Int32, ∃ z18 : Int32, ∃ z19 : Int32, ∃ z9 : Int64, ∃ z10 : Int64, ∃ z11 : Int64, ∃ ny : Nat, ∃ ky : Nat, ∃ zr : Nat → Int32, ∃ zs : Nat → Int32, ∃ zp : Nat → Int32, ∃ zf : Nat → Int32, ∃ zd : Nat → Int32, wn2 < 10 ∧ wc2 ≤ 10 ∧ MB mn2 mk2 ∧ Win p0 wn2 wc2 mp2 ∧ ny < 60 ∧ ky ≤ 60 ∧ Wq D (va_A (([(oX9 h0 b0 (nI nb) p0 u0 r0 a0 t0 s0 o0), (s0, .inr (5, [.ref s1, .int (nI wn), .int (nI wc)])), (s1, .inl (cA 5, 10, .inr (.inr (.inr (.inr FR))))), (oX0 a0 p0 a1 a3 a4 a5 a6 i6 i7 i8 i9 i10 i11 i12 i13 i14 i15 i16 i17 i18 i19), (a1, .inr (6, [.ref a2, .int (nI nx), .int (nI kp)])), (a2, .inl (cA 0, 240, .inl fr)), (a3, .inl (cA 0, 10, .inl fs)), (a4, .inl (cA 0, 10, .inl fp)), (a5, .inl (cA 0, 10, .inl ff)), (a6, .inl (cA 0, 10, .inl fd)), (oX3 p0 pr pb pe pg p1 (nI nd) p2 p3 p4 p5 (nI cn) p6 (nI pq) p7 p8 p9 (nI sc)), (p3, .inl (cA 0, 10, .inl fam))] : va_W) ++ memW cA q mp mi ml mn mk mf) sz) (([(oX9 h0 b0 (nI nb) p0 u0 r0 a0 t0 s0 o0), (s0, .inr (5, [.ref s1, .int (nI wn2), .int (nI wc2)])), (s1, .inl (cA 5, 10, .inr (.inr (.inr (.inr FR))))), (oX0 a0 p0 a1 a3 a4 a5 a6 z6 z7 z8 z9 z10 z11 z12 z13 z14 z15 z16 z17 z18 z19), (a1, .inr (6, [.ref a2, .int (nI ny), .int (nI ky)])), (a2, .inl (cA 0, 240, .inl zr)), (a3, .inl (cA 0, 10, .inl zs)), (a4, .inl (cA 0, 10, .inl zp)), (a5, .inl (cA 0, 10, .inl zf)), (a6, .inl (cA 0, 10, .inl zd)), (oX3 p0 pr pb pe pg p1 (nI nd) p2 p3 p4 p5 (nI cn) p6 (nI pq) p7 p8 p9 (nI sc)), (p3, .inl (cA 0, 10, .inl fam))] : va_W) ++ memW cA q mp2 mi2 ml2 mn2 mk2 mf2) t) (va_A (([(oX9 h0 b0 (nI nb) p0 u0 r0 a0 t0 s0 o0), (s0, .inr (5, [.ref s1, .int (nI wn), .int (nI wc)])), (s1, .inl (cA 5, 10, .inr (.inr (.inr (.inr FR))))), (oX0 a0 p0 a1 a3 a4 a5 a6 i6 i7 i8 i9 i10 i11 i12 i13 i14 i15 i16 i17 i18 i19), (a1, .inr (6, [.ref a2, .int (nI nx), .int (nI kp)])), (a2, .inl (cA 0, 240, .inl fr)), (a3, .inl (cA 0, 10, .inl fs)), (a4, .inl (cA 0, 10, .inl fp)), (a5, .inl (cA 0, 10, .inl ff)), (a6, .inl (cA 0, 10, .inl fd)), (oX3 p0 pr pb pe pg p1 (nI nd) p2 p3 p4 p5 (nI cn) p6 (nI pq) p7 p8 p9 (nI sc)), (p3, .inl (cA 0, 10, .inl fam))] : va_W) ++ memW cA q mp mi ml mn mk mf) sz)) (vx_X (fun _ : Unit => True) (fun E _ t => (E = "java/lang/IndexOutOfBoundsException" ∨ E = "java/lang/IllegalStateException") ∧ Wq D (va_A (([(oX9 h0 b0 (nI nb) p0 u0 r0 a0 t0 s0 o0), (s0, .inr (5, [.ref s1, .int (nI wn), .int (nI wc)])), (s1, .inl (cA 5, 10, .inr (.inr (.inr (.inr FR))))), (oX0 a0 p0 a1 a3 a4 a5 a6 i6 i7 i8 i9 i10 i11 i12 i13 i14 i15 i16 i17 i18 i19), (a1, .inr (6, [.ref a2, .int (nI nx), .int (nI kp)])), (a2, .inl (cA 0, 240, .inl fr)), (a3, .inl (cA 0, 10, .inl fs)), (a4, .inl (cA 0, 10, .inl fp)), (a5, .inl (cA 0, 10, .inl ff)), (a6, .inl (cA 0, 10, .inl fd)), (oX3 p0 pr pb pe pg p1 (nI nd) p2 p3 p4 p5 (nI cn) p6 (nI pq) p7 p8 p9 (nI sc)), (p3, .inl (cA 0, 10, .inl fam))] : va_W) ++ memW cA q mp mi ml mn mk mf) sz) (([(oX9 h0 b0 (nI nb) p0 u0 r0 a0 t0 s0 o0), (s0, .inr (5, [.ref s1, .int (nI wn), .int (nI wc)])), (s1, .inl (cA 5, 10, .inr (.inr (.inr (.inr FR))))), (oX0 a0 p0 a1 a3 a4 a5 a6 i6 i7 i8 i9 i10 i11 i12 i13 i14 i15 i16 i17 i18 i19), (a1, .inr (6, [.ref a2, .int (nI nx), .int (nI kp)])), (a2, .inl (cA 0, 240, .inl fr)), (a3, .inl (cA 0, 10, .inl fs)), (a4, .inl (cA 0, 10, .inl fp)), (a5, .inl (cA 0, 10, .inl ff)), (a6, .inl (cA 0, 10, .inl fd)), (oX3 p0 pr pb pe pg p1 (nI nd) p2 p3 p4 p5 (nI cn) p6 (nI pq) p7 p8 p9 (nI sc)), (p3, .inl (cA 0, 10, .inl fam))] : va_W) ++ memW cA q mp mi ml mn mk mf) t) (va_A (([(oX9 h0 b0 (nI nb) p0 u0 r0 a0 t0 s0 o0), (s0, .inr (5, [.ref s1, .int (nI wn), .int (nI wc)])), (s1, .inl (cA 5, 10, .inr (.inr (.inr (.inr FR))))), (oX0 a0 p0 a1 a3 a4 a5 a6 i6 i7 i8 i9 i10 i11 i12 i13 i14 i15 i16 i17 i18 i19), (a1, .inr (6, [.ref a2, .int (nI nx), .int (nI kp)])), (a2, .inl (cA 0, 240, .inl fr)), (a3, .inl (cA 0, 10, .inl fs)), (a4, .inl (cA 0, 10, .inl fp)), (a5, .inl (cA 0, 10, .inl ff)), (a6, .inl (cA 0, 10, .inl fd)), (oX3 p0 pr pb pe pg p1 (nI nd) p2 p3 p4 p5 (nI cn) p6 (nI pq) p7 p8 p9 (nI sc)), (p3, .inl (cA 0, 10, .inl fam))] : va_W) ++ memW cA q mp mi ml mn mk mf) sz)) 2 12 (va_A (([(oX9 h0 b0 (nI nb) p0 u0 r0 a0 t0 s0 o0), (s0, .inr (5, [.ref s1, .int (nI wn), .int (nI wc)])), (s1, .inl (cA 5, 10, .inr (.inr (.inr (.inr FR))))), (oX0 a0 p0 a1 a3 a4 a5 a6 i6 i7 i8 i9 i10 i11 i12 i13 i14 i15 i16 i17 i18 i19), (a1, .inr (6, [.ref a2, .int (nI nx), .int (nI kp)])), (a2, .inl (cA 0, 240, .inl fr)), (a3, .inl (cA 0, 10, .inl fs)), (a4, .inl (cA 0, 10, .inl fp)), (a5, .inl (cA 0, 10, .inl ff)), (a6, .inl (cA 0, 10, .inl fd)), (oX3 p0 pr pb pe pg p1 (nI nd) p2 p3 p4 p5 (nI cn) p6 (nI pq) p7 p8 p9 (nI sc)), (p3, .inl (cA 0, 10, .inl fam))] : va_W) ++ memW cA q mp mi ml mn mk mf) sz) := by
  refine vx_ofW (cc := cX9_dispute) (maxL := 2) (ret := (some .int)) (by decide) rfl ?_
  intro p e s m args below meth c s₁ B hml hno hv
  obtain ⟨rfl, hsz, hP, hK, hD0, hC, hZ⟩ := hv
  have hx := B.exec
  have hb := B.bytes
  have hr := B.returns
  have hts := atoms_spec (ws := wsX9_dispute) B.pre
  have hown : s.vm.findClass RX9 = some m.cls := findClass_of_methodNamed B.named
  have hlocks := B.notSynchronized
  subst hsz
  have hD := hD0.self (sz := s.heap.size)
  generalize hAe : va_A (([(oX9 h0 b0 (nI nb) p0 u0 r0 a0 t0 s0 o0), (s0, .inr (5, [.ref s1, .int (nI wn), .int (nI wc)])), (s1, .inl (cA 5, 10, .inr (.inr (.inr (.inr FR))))), (oX0 a0 p0 a1 a3 a4 a5 a6 i6 i7 i8 i9 i10 i11 i12 i13 i14 i15 i16 i17 i18 i19), (a1, .inr (6, [.ref a2, .int (nI nx), .int (nI kp)])), (a2, .inl (cA 0, 240, .inl fr)), (a3, .inl (cA 0, 10, .inl fs)), (a4, .inl (cA 0, 10, .inl fp)), (a5, .inl (cA 0, 10, .inl ff)), (a6, .inl (cA 0, 10, .inl fd)), (oX3 p0 pr pb pe pg p1 (nI nd) p2 p3 p4 p5 (nI cn) p6 (nI pq) p7 p8 p9 (nI sc)), (p3, .inl (cA 0, 10, .inl fam))] : va_W) ++ memW cA q mp mi ml mn mk mf) s.heap.size = A at hD hZ ⊢
  have hA : ∀ q : Nat, s.heap.size ≤ q → A q := fun q h => by rw [← hAe]; exact Or.inr h
  have hS : va_S A s.heap s.heap [] := va_S.rf
  have hP : va_P D vwCl (([(oX9 h0 b0 (nI nb) p0 u0 r0 a0 t0 s0 o0), (s0, .inr (5, [.ref s1, .int (nI wn), .int (nI wc)])), (s1, .inl (cA 5, 10, .inr (.inr (.inr (.inr FR))))), (oX0 a0 p0 a1 a3 a4 a5 a6 i6 i7 i8 i9 i10 i11 i12 i13 i14 i15 i16 i17 i18 i19), (a1, .inr (6, [.ref a2, .int (nI nx), .int (nI kp)])), (a2, .inl (cA 0, 240, .inl fr)), (a3, .inl (cA 0, 10, .inl fs)), (a4, .inl (cA 0, 10, .inl fp)), (a5, .inl (cA 0, 10, .inl ff)), (a6, .inl (cA 0, 10, .inl fd)), (oX3 p0 pr pb pe pg p1 (nI nd) p2 p3 p4 p5 (nI cn) p6 (nI pq) p7 p8 p9 (nI sc)), (p3, .inl (cA 0, 10, .inl fam))] : va_W) ++ memW cA q mp mi ml mn mk mf) s.heap := hP
  have hl := lv_entry ([.ref h0, .int i]) (n := 2) (Nat.le_of_ble_eq_true rfl)
  rw [lg_entry_eq]
  generalize (lg_sl ([.ref h0, .int i]) ++ List.replicate (2 - (lg_sl ([.ref h0, .int i])).length) Slot.unset).toArray = ls at hl ⊢
  have hl : lv_has ls 2 [(0, .ref h0), (1, .int i)] := hl
  have inX9 : ∀ w ∈ u_ws RX9 TX9 9, w ∈ wsX9_dispute := by decide +kernel
  refine lv_aload_n hx hb dX9_dispute_0 rfl (lv_at hl 0 rfl) ?_
  refine lv_iload_n hx hb dX9_dispute_1 rfl (lv_at hl 1 rfl) ?_
  obtain ⟨hPc, hDc, hFc⟩ := PDq.cut (wc := [(oX9 h0 b0 (nI nb) p0 u0 r0 a0 t0 s0 o0), (oX3 p0 pr pb pe pg p1 (nI nd) p2 p3 p4 p5 (nI cn) p6 (nI pq) p7 p8 p9 (nI sc))]) (cq_P hP) (cq_D hD) hS hA [0, 10] (by decide) rfl
  refine vx_callv (vx_runV (As := [.int i]) (rest := []) ⟨hx, hb, hml, hown, hts⟩ (s_needMilestone l D cA sa h0 b0 nb p0 u0 r0 a0 t0 s0 o0 p1 p2 p3 p4 p5 p6 p7 p8 p9 cn pq nd sc pr pb pe pg i s.heap.size hl9 hcn hpq hnd hsc) (cwV 1 hts gX9_dispute_X9_needMilestone rfl rfl rfl (by decide +kernel) ⟨(Nat.le_of_ble_eq_true rfl), (Nat.le_of_ble_eq_true rfl)⟩) ⟨Wd.blind, va_recv hK hPc (ci := 10) (q0 := 0) rfl rfl, fun U hU hW => ⟨rfl, Wd.call hPc hDc hK hC hZ hS hFc U hU hW⟩⟩ rfl rfl hl.1 rfl (lv_room (Nat.le_of_ble_eq_true rfl)) dX9_dispute_2 ⟨(Nat.le_of_ble_eq_true rfl), (Nat.le_of_ble_eq_true rfl)⟩) hS (fun q _ h => hFc q h) hFc (fun q _ h => hFc q h) (fun E ce q9 u t H1 locs ht hvm hpx hE hz1 hk1 hS hcell hv9 hcl => ?_) (fun u t H1 locs ht hvm hw hB hz1 hk1 hS => ?_)
  · skip
    obtain ⟨hE, hP1, hD1⟩ := hE
    rw [ht] at hP1
    obtain ⟨hP, hD⟩ := PDq.joinQ (w := [(s0, .inr (5, [.ref s1, .int (nI wn), .int (nI wc)])), (s1, .inl (cA 5, 10, .inr (.inr (.inr (.inr FR))))), (oX0 a0 p0 a1 a3 a4 a5 a6 i6 i7 i8 i9 i10 i11 i12 i13 i14 i15 i16 i17 i18 i19), (a1, .inr (6, [.ref a2, .int (nI nx), .int (nI kp)])), (a2, .inl (cA 0, 240, .inl fr)), (a3, .inl (cA 0, 10, .inl fs)), (a4, .inl (cA 0, 10, .inl fp)), (a5, .inl (cA 0, 10, .inl ff)), (a6, .inl (cA 0, 10, .inl fd)), (p3, .inl (cA 0, 10, .inl fam)), (oX9 h0 b0 (nI nb) p0 u0 r0 a0 t0 s0 o0), (oX3 p0 pr pb pe pg p1 (nI nd) p2 p3 p4 p5 (nI cn) p6 (nI pq) p7 p8 p9 (nI sc))]) 10 hP hD [0, 10] [1, 2, 3, 4, 5, 6, 7, 8, 9, 11] rfl rfl (by decide +kernel) (by decide +kernel) hk1 hFc hP1 hD1 rfl
    generalize H1 = H at hP hS hcell ⊢
    have hP9 := hP.by (ws' := (([(oX9 h0 b0 (nI nb) p0 u0 r0 a0 t0 s0 o0), (s0, .inr (5, [.ref s1, .int (nI wn), .int (nI wc)])), (s1, .inl (cA 5, 10, .inr (.inr (.inr (.inr FR))))), (oX0 a0 p0 a1 a3 a4 a5 a6 i6 i7 i8 i9 i10 i11 i12 i13 i14 i15 i16 i17 i18 i19), (a1, .inr (6, [.ref a2, .int (nI nx), .int (nI kp)])), (a2, .inl (cA 0, 240, .inl fr)), (a3, .inl (cA 0, 10, .inl fs)), (a4, .inl (cA 0, 10, .inl fp)), (a5, .inl (cA 0, 10, .inl ff)), (a6, .inl (cA 0, 10, .inl fd)), (oX3 p0 pr pb pe pg p1 (nI nd) p2 p3 p4 p5 (nI cn) p6 (nI pq) p7 p8 p9 (nI sc)), (p3, .inl (cA 0, 10, .inl fam))] : va_W) ++ memW cA q mp mi ml mn mk mf)) _ (va_part [10, 0, 1, 2, 3, 4, 5, 6, 7, 8, 11, 9] rfl)
    have hD9 := va_D_part (cx := [(oX9 h0 b0 (nI nb) p0 u0 r0 a0 t0 s0 o0), (s0, .inr (5, [.ref s1, .int (nI wn), .int (nI wc)])), (s1, .inl (cA 5, 10, .inr (.inr (.inr (.inr FR))))), (oX0 a0 p0 a1 a3 a4 a5 a6 i6 i7 i8 i9 i10 i11 i12 i13 i14 i15 i16 i17 i18 i19), (a1, .inr (6, [.ref a2, .int (nI nx), .int (nI kp)])), (a2, .inl (cA 0, 240, .inl fr)), (a3, .inl (cA 0, 10, .inl fs)), (a4, .inl (cA 0, 10, .inl fp)), (a5, .inl (cA 0, 10, .inl ff)), (a6, .inl (cA 0, 10, .inl fd)), (oX3 p0 pr pb pe pg p1 (nI nd) p2 p3 p4 p5 (nI cn) p6 (nI pq) p7 p8 p9 (nI sc)), (p3, .inl (cA 0, 10, .inl fam))]) hD [10, 0, 1, 2, 3, 4, 5, 6, 7, 8, 11, 9] (by decide +kernel) rfl
    exact vx_out (fun x h => (hno x h).elim) hlocks hcell hv9 hcl (fun t ht hvm => ⟨(), trivial, ⟨(by rw [hE]; simp), by rw [ht]; exact hP9, hD9⟩, hS.F ht⟩) hS.2.2 (Nat.le_of_ble_eq_true rfl) (Nat.le_of_ble_eq_true rfl)
  · skip
    obtain ⟨qn1, hn2, hn3, hP1, hD1⟩ := hB
    rw [ht] at hP1
    obtain ⟨hP, hD⟩ := PDq.joinQ (w := [(s0, .inr (5, [.ref s1, .int (nI wn), .int (nI wc)])), (s1, .inl (cA 5, 10, .inr (.inr (.inr (.inr FR))))), (oX0 a0 p0 a1 a3 a4 a5 a6 i6 i7 i8 i9 i10 i11 i12 i13 i14 i15 i16 i17 i18 i19), (a1, .inr (6, [.ref a2, .int (nI nx), .int (nI kp)])), (a2, .inl (cA 0, 240, .inl fr)), (a3, .inl (cA 0, 10, .inl fs)), (a4, .inl (cA 0, 10, .inl fp)), (a5, .inl (cA 0, 10, .inl ff)), (a6, .inl (cA 0, 10, .inl fd)), (p3, .inl (cA 0, 10, .inl fam)), (oX9 h0 b0 (nI nb) p0 u0 r0 a0 t0 s0 o0), (oX3 p0 pr pb pe pg p1 (nI nd) p2 p3 p4 p5 (nI cn) p6 (nI pq) p7 p8 p9 (nI sc))]) 10 hP hD [0, 10] [1, 2, 3, 4, 5, 6, 7, 8, 9, 11] rfl rfl (by decide +kernel) (by decide +kernel) hk1 hFc hP1 hD1 rfl
    generalize H1 = H at hP hS ⊢
    rw [hn3] at hl
    have hl : lv_has ls 2 [(0, .ref h0), (1, .int (nI qn1))] := hl
    refine lv_aload_n hx hb dX9_dispute_5 rfl (lv_at hl 0 rfl) ?_
    refine va_get (D := D) (ci := 10) (v := .ref a0) (C := RX9) (T := TX9) (N := 9) hx hb hts inX9 hown hK hP 10 rfl rfl 5 (by decide) (hts (.fieldLink RX9 35 "EscrowDesk" "account" "LEscrowDesk$Account;") (by decide +kernel)) (fun _ h9 => h9) rfl dX9_dispute_6 ?_
    refine lv_iload_n hx hb dX9_dispute_9 rfl (lv_at hl 1 rfl) ?_
    obtain ⟨hPc, hDc, hFc⟩ := PDq.cut (wc := [(oX0 a0 p0 a1 a3 a4 a5 a6 i6 i7 i8 i9 i10 i11 i12 i13 i14 i15 i16 i17 i18 i19), (a3, .inl (cA 0, 10, .inl fs))]) (cq_P hP) (cq_D hD) hS hA [2, 5] (by decide) rfl
    refine va_calli (va_runV (As := [.int (nI qn1)]) (rest := []) ⟨hx, hb, hml, hown, hts⟩ (s_isOpenOrDue l D cA sa a0 a1 a3 a4 a5 a6 p0 i6 i7 i8 i12 i13 i14 i15 i16 i17 i18 i19 i9 i10 i11 qn1 fs H.size (by omega)) (cwV 1 hts gX9_dispute_X0_isOpenOrDue rfl rfl rfl (by decide +kernel) ⟨(Nat.le_of_ble_eq_true rfl), (Nat.le_of_ble_eq_true rfl)⟩) ⟨Wd.blind, va_recv hK hPc (ci := 4) (q0 := 0) rfl rfl, fun U hU hW => ⟨rfl, Wd.call hPc hDc hK hC hZ hS hFc U hU hW⟩⟩ rfl rfl hl.1 rfl (lv_room (Nat.le_of_ble_eq_true rfl)) dX9_dispute_10 ⟨(Nat.le_of_ble_eq_true rfl), (Nat.le_of_ble_eq_true rfl)⟩) hS (fun q _ h => hFc q h) hFc (fun rn4 u t H1 locs ht hvm hw hB hz1 hk1 hS => ?_)
    obtain ⟨hP1, hD1⟩ := hB
    rw [ht] at hP1
    obtain ⟨hP, hD⟩ := PDq.joinQ (w := [(s0, .inr (5, [.ref s1, .int (nI wn), .int (nI wc)])), (s1, .inl (cA 5, 10, .inr (.inr (.inr (.inr FR))))), (a1, .inr (6, [.ref a2, .int (nI nx), .int (nI kp)])), (a2, .inl (cA 0, 240, .inl fr)), (a4, .inl (cA 0, 10, .inl fp)), (a5, .inl (cA 0, 10, .inl ff)), (a6, .inl (cA 0, 10, .inl fd)), (p3, .inl (cA 0, 10, .inl fam)), (oX9 h0 b0 (nI nb) p0 u0 r0 a0 t0 s0 o0), (oX3 p0 pr pb pe pg p1 (nI nd) p2 p3 p4 p5 (nI cn) p6 (nI pq) p7 p8 p9 (nI sc)), (oX0 a0 p0 a1 a3 a4 a5 a6 i6 i7 i8 i9 i10 i11 i12 i13 i14 i15 i16 i17 i18 i19), (a3, .inl (cA 0, 10, .inl fs))]) 10 hP hD [2, 5] [0, 1, 3, 4, 6, 7, 8, 9, 10, 11] rfl rfl (by decide +kernel) (by decide +kernel) hk1 hFc hP1 hD1 rfl
    generalize H1 = H at hP hS ⊢
    have hn5 := hw
    obtain ⟨hPc, hDc, hFc⟩ := PDq.cut (wc := []) (cq_P hP) (cq_D hD) hS hA [] (by decide) rfl
    refine vx_callv (vx_runS (As := [.int rn4]) (rest := []) ⟨hx, hb, hml, hown, hts⟩ (s_needPossible l D cA sa rn4 H.size hl9) (va_cwS 1 hts gX9_dispute_X9_needPossible rfl rfl rfl (by decide +kernel) ⟨(Nat.le_of_ble_eq_true rfl), (Nat.le_of_ble_eq_true rfl)⟩) ⟨Wd.blind, fun U hU hW => ⟨rfl, Wd.call hPc hDc hK hC hZ hS hFc U hU hW⟩⟩ rfl rfl hl.1 rfl (lv_room (Nat.le_of_ble_eq_true rfl)) dX9_dispute_13 ⟨(Nat.le_of_ble_eq_true rfl), (Nat.le_of_ble_eq_true rfl)⟩) hS (fun q _ h => hFc q h) hFc (fun q _ h => hFc q h) (fun E ce q9 u t H1 locs ht hvm hpx hE hz1 hk1 hS hcell hv9 hcl => ?_) (fun u t H1 locs ht hvm hw hB hz1 hk1 hS => ?_)
    · skip
      obtain ⟨hE, hP1, hD1⟩ := hE
      rw [ht] at hP1
      obtain ⟨hP, hD⟩ := PDq.joinQ (w := [(s0, .inr (5, [.ref s1, .int (nI wn), .int (nI wc)])), (s1, .inl (cA 5, 10, .inr (.inr (.inr (.inr FR))))), (a1, .inr (6, [.ref a2, .int (nI nx), .int (nI kp)])), (a2, .inl (cA 0, 240, .inl fr)), (a4, .inl (cA 0, 10, .inl fp)), (a5, .inl (cA 0, 10, .inl ff)), (a6, .inl (cA 0, 10, .inl fd)), (p3, .inl (cA 0, 10, .inl fam)), (oX9 h0 b0 (nI nb) p0 u0 r0 a0 t0 s0 o0), (oX3 p0 pr pb pe pg p1 (nI nd) p2 p3 p4 p5 (nI cn) p6 (nI pq) p7 p8 p9 (nI sc)), (oX0 a0 p0 a1 a3 a4 a5 a6 i6 i7 i8 i9 i10 i11 i12 i13 i14 i15 i16 i17 i18 i19), (a3, .inl (cA 0, 10, .inl fs))]) 12 hP hD [] [0, 1, 2, 3, 4, 5, 6, 7, 8, 9, 10, 11] rfl rfl (by decide +kernel) (by decide +kernel) hk1 hFc hP1 hD1 rfl
      generalize H1 = H at hP hS hcell ⊢
      have hP9 := hP.by (ws' := (([(oX9 h0 b0 (nI nb) p0 u0 r0 a0 t0 s0 o0), (s0, .inr (5, [.ref s1, .int (nI wn), .int (nI wc)])), (s1, .inl (cA 5, 10, .inr (.inr (.inr (.inr FR))))), (oX0 a0 p0 a1 a3 a4 a5 a6 i6 i7 i8 i9 i10 i11 i12 i13 i14 i15 i16 i17 i18 i19), (a1, .inr (6, [.ref a2, .int (nI nx), .int (nI kp)])), (a2, .inl (cA 0, 240, .inl fr)), (a3, .inl (cA 0, 10, .inl fs)), (a4, .inl (cA 0, 10, .inl fp)), (a5, .inl (cA 0, 10, .inl ff)), (a6, .inl (cA 0, 10, .inl fd)), (oX3 p0 pr pb pe pg p1 (nI nd) p2 p3 p4 p5 (nI cn) p6 (nI pq) p7 p8 p9 (nI sc)), (p3, .inl (cA 0, 10, .inl fam))] : va_W) ++ memW cA q mp mi ml mn mk mf)) _ (va_part [8, 0, 1, 10, 2, 3, 11, 4, 5, 6, 9, 7] rfl)
      have hD9 := va_D_part (cx := [(oX9 h0 b0 (nI nb) p0 u0 r0 a0 t0 s0 o0), (s0, .inr (5, [.ref s1, .int (nI wn), .int (nI wc)])), (s1, .inl (cA 5, 10, .inr (.inr (.inr (.inr FR))))), (oX0 a0 p0 a1 a3 a4 a5 a6 i6 i7 i8 i9 i10 i11 i12 i13 i14 i15 i16 i17 i18 i19), (a1, .inr (6, [.ref a2, .int (nI nx), .int (nI kp)])), (a2, .inl (cA 0, 240, .inl fr)), (a3, .inl (cA 0, 10, .inl fs)), (a4, .inl (cA 0, 10, .inl fp)), (a5, .inl (cA 0, 10, .inl ff)), (a6, .inl (cA 0, 10, .inl fd)), (oX3 p0 pr pb pe pg p1 (nI nd) p2 p3 p4 p5 (nI cn) p6 (nI pq) p7 p8 p9 (nI sc)), (p3, .inl (cA 0, 10, .inl fam))]) hD [8, 0, 1, 10, 2, 3, 11, 4, 5, 6, 9, 7] (by decide +kernel) rfl
      exact vx_out (fun x h => (hno x h).elim) hlocks hcell hv9 hcl (fun t ht hvm => ⟨(), trivial, ⟨(by rw [hE]; simp), by rw [ht]; exact hP9, hD9⟩, hS.F ht⟩) hS.2.2 (Nat.le_of_ble_eq_true rfl) (Nat.le_of_ble_eq_true rfl)
    · skip
      obtain ⟨hP1, hD1⟩ := hB
      rw [ht] at hP1
      obtain ⟨hP, hD⟩ := PDq.joinQ (w := [(s0, .inr (5, [.ref s1, .int (nI wn), .int (nI wc)])), (s1, .inl (cA 5, 10, .inr (.inr (.inr (.inr FR))))), (a1, .inr (6, [.ref a2, .int (nI nx), .int (nI kp)])), (a2, .inl (cA 0, 240, .inl fr)), (a4, .inl (cA 0, 10, .inl fp)), (a5, .inl (cA 0, 10, .inl ff)), (a6, .inl (cA 0, 10, .inl fd)), (p3, .inl (cA 0, 10, .inl fam)), (oX9 h0 b0 (nI nb) p0 u0 r0 a0 t0 s0 o0), (oX3 p0 pr pb pe pg p1 (nI nd) p2 p3 p4 p5 (nI cn) p6 (nI pq) p7 p8 p9 (nI sc)), (oX0 a0 p0 a1 a3 a4 a5 a6 i6 i7 i8 i9 i10 i11 i12 i13 i14 i15 i16 i17 i18 i19), (a3, .inl (cA 0, 10, .inl fs))]) 12 hP hD [] [0, 1, 2, 3, 4, 5, 6, 7, 8, 9, 10, 11] rfl rfl (by decide +kernel) (by decide +kernel) hk1 hFc hP1 hD1 rfl
      generalize H1 = H at hP hS ⊢
      refine lv_aload_n hx hb dX9_dispute_16 rfl (lv_at hl 0 rfl) ?_
      refine va_get (D := D) (ci := 10) (v := .ref s0) (C := RX9) (T := TX9) (N := 9) hx hb hts inX9 hown hK hP 8 rfl rfl 7 (by decide) (hts (.fieldLink RX9 45 "EscrowDesk" "history" "LEscrowDesk$History;") (by decide +kernel)) (fun _ h9 => h9) rfl dX9_dispute_17 ?_
      refine lv_aload_n hx hb dX9_dispute_20 rfl (lv_at hl 0 rfl) ?_
      refine va_get (D := D) (ci := 10) (v := .ref a0) (C := RX9) (T := TX9) (N := 9) hx hb hts inX9 hown hK hP 8 rfl rfl 5 (by decide) (hts (.fieldLink RX9 35 "EscrowDesk" "account" "LEscrowDesk$Account;") (by decide +kernel)) (fun _ h9 => h9) rfl dX9_dispute_21 ?_
      have hPc := hP.by (ws' := (([(s0, .inr (5, [.ref s1, .int (nI wn), .int (nI wc)])), (s1, .inl (cA 5, 10, .inr (.inr (.inr (.inr FR))))), (oX0 a0 p0 a1 a3 a4 a5 a6 i6 i7 i8 i9 i10 i11 i12 i13 i14 i15 i16 i17 i18 i19), (a1, .inr (6, [.ref a2, .int (nI nx), .int (nI kp)])), (a2, .inl (cA 0, 240, .inl fr)), (a3, .inl (cA 0, 10, .inl fs)), (a4, .inl (cA 0, 10, .inl fp)), (a5, .inl (cA 0, 10, .inl ff)), (a6, .inl (cA 0, 10, .inl fd))] : va_W) ++ memW cA q mp mi ml mn mk mf)) _ (va_part [0, 1, 10, 2, 3, 11, 4, 5, 6] rfl)
      have hDc := va_D_part (cx := [(s0, .inr (5, [.ref s1, .int (nI wn), .int (nI wc)])), (s1, .inl (cA 5, 10, .inr (.inr (.inr (.inr FR))))), (oX0 a0 p0 a1 a3 a4 a5 a6 i6 i7 i8 i9 i10 i11 i12 i13 i14 i15 i16 i17 i18 i19), (a1, .inr (6, [.ref a2, .int (nI nx), .int (nI kp)])), (a2, .inl (cA 0, 240, .inl fr)), (a3, .inl (cA 0, 10, .inl fs)), (a4, .inl (cA 0, 10, .inl fp)), (a5, .inl (cA 0, 10, .inl ff)), (a6, .inl (cA 0, 10, .inl fd))]) hD [0, 1, 10, 2, 3, 11, 4, 5, 6] (by decide +kernel) rfl
      have hFc := va_freeP (cx := [(s0, .inr (5, [.ref s1, .int (nI wn), .int (nI wc)])), (s1, .inl (cA 5, 10, .inr (.inr (.inr (.inr FR))))), (oX0 a0 p0 a1 a3 a4 a5 a6 i6 i7 i8 i9 i10 i11 i12 i13 i14 i15 i16 i17 i18 i19), (a1, .inr (6, [.ref a2, .int (nI nx), .int (nI kp)])), (a2, .inl (cA 0, 240, .inl fr)), (a3, .inl (cA 0, 10, .inl fs)), (a4, .inl (cA 0, 10, .inl fp)), (a5, .inl (cA 0, 10, .inl ff)), (a6, .inl (cA 0, 10, .inl fd))]) hD hS hA [0, 1, 10, 2, 3, 11, 4, 5, 6] rfl
      refine va_callv (va_runV (As := [.ref a0]) (rest := []) ⟨hx, hb, hml, hown, hts⟩ (s_remember l D cA sa s0 s1 wn wc FR q mp mi ml mn mk mf a0 a1 a2 a3 a4 a5 a6 p0 i6 i7 i8 i12 i13 i14 i15 i16 i17 i18 i19 i9 i10 i11 nx kp fr fs fp ff fd H.size hnx hkp hwn hwc hFR hMB hWin) (cwV 1 hts gX9_dispute_X1_remember rfl rfl rfl (by decide +kernel) ⟨(Nat.le_of_ble_eq_true rfl), (Nat.le_of_ble_eq_true rfl)⟩) ⟨Wd.blind, va_recv hK hPc (ci := 5) (q0 := 0) rfl rfl, fun U hU hW => ⟨rfl, Wd.call hPc hDc hK hC hZ hS hFc U hU hW⟩⟩ rfl rfl hl.1 rfl (lv_room (Nat.le_of_ble_eq_true rfl)) dX9_dispute_24 ⟨(Nat.le_of_ble_eq_true rfl), (Nat.le_of_ble_eq_true rfl)⟩) hS (fun q _ h => hFc q h) hFc (fun u t H1 locs ht hvm hw hB hz1 hk1 hS => ?_)
      obtain ⟨qn6, qn7, fn8, fn9, fn10, fn11, fn12, fn13, hn14, hn15, hn16, hn17, hP1, hD1⟩ := hB
      rw [ht] at hP1
      obtain ⟨hP, hD⟩ := va_joinP (wr := [(p3, .inl (cA 0, 10, .inl fam)), (oX9 h0 b0 (nI nb) p0 u0 r0 a0 t0 s0 o0), (oX3 p0 pr pb pe pg p1 (nI nd) p2 p3 p4 p5 (nI cn) p6 (nI pq) p7 p8 p9 (nI sc))]) (rx := [(s0, .inr (5, [.ref s1, .int (nI qn6), .int (nI qn7)])), (s1, .inl (cA 5, 10, .inr (.inr (.inr (.inr FR))))), (oX0 a0 p0 a1 a3 a4 a5 a6 i6 i7 i8 i9 i10 i11 i12 i13 i14 i15 i16 i17 i18 i19), (a1, .inr (6, [.ref a2, .int (nI nx), .int (nI kp)])), (a2, .inl (cA 0, 240, .inl fr)), (a3, .inl (cA 0, 10, .inl fs)), (a4, .inl (cA 0, 10, .inl fp)), (a5, .inl (cA 0, 10, .inl ff)), (a6, .inl (cA 0, 10, .inl fd))]) (pl1 := memW cA q fn8 fn9 fn10 fn11 fn12 fn13) hP hD [0, 1, 10, 2, 3, 11, 4, 5, 6] [7, 8, 9] rfl rfl (by decide) (by decide +kernel) hk1 hFc hP1 hD1
      generalize H1 = H at hP hS ⊢
      obtain ⟨hP, hD⟩ : PDq D A (([(p3, .inl (cA 0, 10, .inl fam)), (oX9 h0 b0 (nI nb) p0 u0 r0 a0 t0 s0 o0), (oX3 p0 pr pb pe pg p1 (nI nd) p2 p3 p4 p5 (nI cn) p6 (nI pq) p7 p8 p9 (nI sc)), (s0, .inr (5, [.ref s1, .int (nI qn6), .int (nI qn7)])), (s1, .inl (cA 5, 10, .inr (.inr (.inr (.inr FR))))), (oX0 a0 p0 a1 a3 a4 a5 a6 i6 i7 i8 i9 i10 i11 i12 i13 i14 i15 i16 i17 i18 i19), (a1, .inr (6, [.ref a2, .int (nI nx), .int (nI kp)])), (a2, .inl (cA 0, 240, .inl fr)), (a3, .inl (cA 0, 10, .inl fs)), (a4, .inl (cA 0, 10, .inl fp)), (a5, .inl (cA 0, 10, .inl ff)), (a6, .inl (cA 0, 10, .inl fd))] : va_W) ++ memW cA q fn8 fn9 fn10 fn11 fn12 fn13) H := ⟨hP, hD⟩
      refine lv_aload_n hx hb dX9_dispute_27 rfl (lv_at hl 0 rfl) ?_
      refine va_get (D := D) (ci := 10) (v := .ref a0) (C := RX9) (T := TX9) (N := 9) hx hb hts inX9 hown hK hP 1 rfl rfl 5 (by decide) (hts (.fieldLink RX9 35 "EscrowDesk" "account" "LEscrowDesk$Account;") (by decide +kernel)) (fun _ h9 => h9) rfl dX9_dispute_28 ?_
      refine lv_iload_n hx hb dX9_dispute_31 rfl (lv_at hl 1 rfl) ?_
      obtain ⟨hPc, hDc, hFc⟩ := PDq.cut (wc := [(oX0 a0 p0 a1 a3 a4 a5 a6 i6 i7 i8 i9 i10 i11 i12 i13 i14 i15 i16 i17 i18 i19), (oX3 p0 pr pb pe pg p1 (nI nd) p2 p3 p4 p5 (nI cn) p6 (nI pq) p7 p8 p9 (nI sc)), (a3, .inl (cA 0, 10, .inl fs)), (a4, .inl (cA 0, 10, .inl fp)), (p3, .inl (cA 0, 10, .inl fam)), (a5, .inl (cA 0, 10, .inl ff))]) (cq_P hP) (cq_D hD) hS hA [5, 2, 8, 9, 0, 10] (by decide) rfl
      refine va_calli (va_runV (As := [.int (nI qn1)]) (rest := []) ⟨hx, hb, hml, hown, hts⟩ (s_freeze l D cA sa a0 a1 a3 a4 a5 a6 p0 i6 i7 i8 i12 i13 i14 i15 i16 i17 i18 i19 i9 i10 i11 p1 p2 p3 p4 p5 p6 p7 p8 p9 cn pq nd sc pr pb pe pg qn1 fs fp ff fam H.size hcn hpq hnd hsc (by omega)) (cwV 1 hts gX9_dispute_X0_freeze rfl rfl rfl (by decide +kernel) ⟨(Nat.le_of_ble_eq_true rfl), (Nat.le_of_ble_eq_true rfl)⟩) ⟨Wd.blind, va_recv hK hPc (ci := 4) (q0 := 0) rfl rfl, fun U hU hW => ⟨rfl, Wd.call hPc hDc hK hC hZ hS hFc U hU hW⟩⟩ rfl rfl hl.1 rfl (lv_room (Nat.le_of_ble_eq_true rfl)) dX9_dispute_32 ⟨(Nat.le_of_ble_eq_true rfl), (Nat.le_of_ble_eq_true rfl)⟩) hS (fun q _ h => hFc q h) hFc (fun rn18 u t H1 locs ht hvm hw hB hz1 hk1 hS => ?_)
      obtain ⟨zn19, zn20, zn21, zn22, zn23, zn24, zn25, zn26, zn27, zn28, zn29, zn30, zn31, zn32, fn33, fn34, fn35, hP1, hD1⟩ := hB
      rw [ht] at hP1
      obtain ⟨hP, hD⟩ := PDq.joinQ (w := [(oX9 h0 b0 (nI nb) p0 u0 r0 a0 t0 s0 o0), (s0, .inr (5, [.ref s1, .int (nI qn6), .int (nI qn7)])), (s1, .inl (cA 5, 10, .inr (.inr (.inr (.inr FR))))), (a1, .inr (6, [.ref a2, .int (nI nx), .int (nI kp)])), (a2, .inl (cA 0, 240, .inl fr)), (a6, .inl (cA 0, 10, .inl fd)), (oX0 a0 p0 a1 a3 a4 a5 a6 zn19 zn20 zn21 zn30 zn31 zn32 zn22 zn23 zn24 zn25 zn26 zn27 zn28 zn29), (oX3 p0 pr pb pe pg p1 (nI nd) p2 p3 p4 p5 (nI cn) p6 (nI pq) p7 p8 p9 (nI sc)), (a3, .inl (cA 0, 10, .inl fn33)), (a4, .inl (cA 0, 10, .inl fn34)), (p3, .inl (cA 0, 10, .inl fam)), (a5, .inl (cA 0, 10, .inl fn35))]) 6 hP hD [5, 2, 8, 9, 0, 10] [1, 3, 4, 6, 7, 11] rfl rfl (by decide) (by decide +kernel) hk1 hFc hP1 hD1 rfl
      generalize H1 = H at hP hS ⊢
      have hP9 := hP.by (ws' := (([(oX9 h0 b0 (nI nb) p0 u0 r0 a0 t0 s0 o0), (s0, .inr (5, [.ref s1, .int (nI qn6), .int (nI qn7)])), (s1, .inl (cA 5, 10, .inr (.inr (.inr (.inr FR))))), (oX0 a0 p0 a1 a3 a4 a5 a6 zn19 zn20 zn21 zn30 zn31 zn32 zn22 zn23 zn24 zn25 zn26 zn27 zn28 zn29), (a1, .inr (6, [.ref a2, .int (nI nx), .int (nI kp)])), (a2, .inl (cA 0, 240, .inl fr)), (a3, .inl (cA 0, 10, .inl fn33)), (a4, .inl (cA 0, 10, .inl fn34)), (a5, .inl (cA 0, 10, .inl fn35)), (a6, .inl (cA 0, 10, .inl fd)), (oX3 p0 pr pb pe pg p1 (nI nd) p2 p3 p4 p5 (nI cn) p6 (nI pq) p7 p8 p9 (nI sc)), (p3, .inl (cA 0, 10, .inl fam))] : va_W) ++ memW cA q fn8 fn9 fn10 fn11 fn12 fn13)) _ (va_part [0, 1, 2, 6, 3, 4, 8, 9, 11, 5, 7, 10] rfl)
      have hD9 := va_D_part (cx := [(oX9 h0 b0 (nI nb) p0 u0 r0 a0 t0 s0 o0), (s0, .inr (5, [.ref s1, .int (nI qn6), .int (nI qn7)])), (s1, .inl (cA 5, 10, .inr (.inr (.inr (.inr FR))))), (oX0 a0 p0 a1 a3 a4 a5 a6 zn19 zn20 zn21 zn30 zn31 zn32 zn22 zn23 zn24 zn25 zn26 zn27 zn28 zn29), (a1, .inr (6, [.ref a2, .int (nI nx), .int (nI kp)])), (a2, .inl (cA 0, 240, .inl fr)), (a3, .inl (cA 0, 10, .inl fn33)), (a4, .inl (cA 0, 10, .inl fn34)), (a5, .inl (cA 0, 10, .inl fn35)), (a6, .inl (cA 0, 10, .inl fd)), (oX3 p0 pr pb pe pg p1 (nI nd) p2 p3 p4 p5 (nI cn) p6 (nI pq) p7 p8 p9 (nI sc)), (p3, .inl (cA 0, 10, .inl fam))]) hD [0, 1, 2, 6, 3, 4, 8, 9, 11, 5, 7, 10] (by decide +kernel) rfl
      refine W.widen (k := 2) (n := 12) (Nat.le_of_ble_eq_true rfl) (Nat.le_of_ble_eq_true rfl) ?_
      exact vx_ret (W.iret (v := rn18) hx hb hr (fun t ht hW => ⟨⟨rn18, (), rfl, trivial, qn6, qn7, fn8, fn9, fn10, fn11, fn12, fn13, zn19, zn20, zn21, zn22, zn23, zn24, zn25, zn26, zn27, zn28, zn29, zn30, zn31, zn32, nx, kp, fr, fn33, fn34, fn35, fd, hn14, hn15, hn16, hn17, hnx, hkp, by rw [ht]; exact hP9, hD9⟩, hS.F ht⟩) hS.2.2 dX9_dispute_35)

set_option maxHeartbeats 4000000 in
set_option maxRecDepth 100000 in
/-- cancel -/
theorem s_cancel (l : Launch) (D : va_G) (cA : Nat → ClassId) (sa : Nat → Nat) (h0 : Nat) (b0 : Nat) (nb : Nat) (p0 : Nat) (u0 : Nat) (r0 : Nat) (a0 : Nat) (t0 : Nat) (s0 : Nat) (o0 : Nat) (s1 : Nat) (wn : Nat) (wc : Nat) (FR : Nat → Option Nat) (q : Nat → Nat → Nat) (mp : Nat → Nat) (mi : Nat → Nat → Int32) (ml : Nat → Nat → Int64) (mn : Nat → Nat) (mk : Nat → Nat) (mf : Nat → Nat → Nat → Int32) (a1 : Nat) (a2 : Nat) (a3 : Nat) (a4 : Nat) (a5 : Nat) (a6 : Nat) (i6 : Int32) (i7 : Int32) (i8 : Int32) (i12 : Int32) (i13 : Int32) (i14 : Int32) (i15 : Int32) (i16 : Int32) (i17 : Int32) (i18 : Int32) (i19 : Int32) (i9 : Int64) (i10 : Int64) (i11 : Int64) (nx : Nat) (kp : Nat) (fr : Nat → Int32) (fs : Nat → Int32) (fp : Nat → Int32) (ff : Nat → Int32) (fd : Nat → Int32) (p1 : Nat) (p2 : Nat) (p3 : Nat) (p4 : Nat) (p5 : Nat) (p6 : Nat) (p7 : Nat) (p8 : Nat) (p9 : Nat) (cn : Nat) (pq : Nat) (nd : Nat) (sc : Nat) (pr : Int32) (pb : Int32) (pe : Int32) (pg : Int32) (fam : Nat → Int32) (i : Int32) (sz : Nat) (hl9 : l.stackTraces = false) (hnx : nx < 60) (hkp : kp ≤ 60) (hwn : wn < 10) (hwc : wc ≤ 10) (hFR : FRq q FR) (hMB : MB mn mk) (hWin : Win p0 wn wc mp) (hcn : cn ≤ 10) (hpq : pq ≤ 8) (hnd : nd ≤ 6) (hsc : sc ≤ 350) : vx_Met l yX9_cancel wsX9_cancel ({ frames := 8, cells := 2, slots := 12, locals := 132 }) (va_Pc [.ref h0, .int i] (Wd D cA sa (([(oX9 h0 b0 (nI nb) p0 u0 r0 a0 t0 s0 o0), (s0, .inr (5, [.ref s1, .int (nI wn), .int (nI wc)])), (s1, .inl (cA 5, 10, .inr (.inr (.inr (.inr FR))))), (oX0 a0 p0 a1 a3 a4 a5 a6 i6 i7 i8 i9 i10 i11 i12 i13 i14 i15 i16 i17 i18 i19), (a1, .inr (6, [.ref a2, .int (nI nx), .int (nI kp)])), (a2, .inl (cA 0, 240, .inl fr)), (a3, .inl (cA 0, 10, .inl fs)), (a4, .inl (cA 0, 10, .inl fp)), (a5, .inl (cA 0, 10, .inl ff)), (a6, .inl (cA 0, 10, .inl fd)), (oX3 p0 pr pb pe pg p1 (nI nd) p2 p3 p4 p5 (nI cn) p6 (nI pq) p7 p8 p9 (nI sc)), (p3, .inl (cA 0, 10, .inl fam))] : va_W) ++ memW cA q mp mi ml mn mk mf) sz)) (va_Qi (fun (r : Int32) (_ : Unit) => True) (fun (_ : Unit) t => ∃ wn2 : Nat, ∃ wc2 : Nat, ∃ mp2 : Nat → Nat, ∃ mi2 : Nat → Nat → Int32, ∃ ml2 : Nat → Nat → Int64, ∃ mn2 : Nat → Nat, ∃ mk2 : Nat → Nat, ∃ mf2 : Nat → Nat → Nat → Int32, ∃ z6 : Int32, ∃ z7 : Int32, ∃ z8 : Int32, ∃ z12 : Int32, ∃ z13 : Int32, ∃ z14 : Int32, ∃ z15 : Int32, ∃ z16 : Int32, ∃ z17 : Int32, ∃ z18 : Int32, ∃ z19 : Int32, ∃ z9 : Int64, ∃ z10 : Int64, ∃ z11 : Int64, ∃ ny : Nat, ∃ ky : Nat, ∃ zr : Nat → Int32, ∃ zs : Nat → Int32, ∃ zp : Nat → Int32, ∃ zf : Nat → Int32, ∃ zd : Nat → Int32, wn2 < 10 ∧ wc2 ≤ 10 ∧ MB mn2 mk2 ∧ Win p0 wn2 wc2 mp2 ∧ ny < 60 ∧ ky ≤ 60 ∧ Wq D (va_A (([(oX9 h0 b0 (nI nb) p0 u0 r0 a0 t0 s0 o0), (s0, .inr (5, [.ref s1, .int (nI wn), .int (nI wc)])), (s1, .inl (cA 5, 10, .inr (.inr (.inr (.inr FR))))), (oX0 a0 p0 a1 a3 a4 a5 a6 i6 i7 i8 i9 i10 i11 i12 i13 i14 i15 i16 i17 i18 i19), (a1, .inr (6, [.ref a2, .int (nI nx), .int (nI kp)])), (a2, .inl (cA 0, 240, .inl fr)), (a3, .inl (cA 0, 10, .inl fs)), (a4, .inl (cA 0, 10, .inl fp)), (a5, .inl (cA 0, 10, .inl ff)), (a6, .inl (cA 0, 10, .inl fd)), (oX3 p0 pr pb pe pg p1 (nI nd) p2 p3 p4 p5 (nI cn) p6 (nI pq) p7 p8 p9 (nI sc)), (p3, .inl (cA 0, 10, .inl fam))] : va_W) ++ memW cA q mp mi ml mn mk mf) sz) (([(oX9 h0 b0 (nI nb) p0 u0 r0 a0 t0 s0 o0), (s0, .inr (5, [.ref s1, .int (nI wn2), .int (nI wc2)])), (s1, .inl (cA 5, 10, .inr (.inr (.inr (.inr FR))))), (oX0 a0 p0 a1 a3 a4 a5 a6 z6 z7 z8 z9 z10 z11 z12 z13 z14 z15 z16 z17 z18 z19), (a1, .inr (6, [.ref a2, .int (nI ny), .int (nI ky)])), (a2, .inl (cA 0, 240, .inl zr)), (a3, .inl (cA 0, 10, .inl zs)), (a4, .inl (cA 0, 10, .inl zp)), (a5, .inl (cA 0, 10, .inl zf)), (a6, .inl (cA 0, 10, .inl zd)), (oX3 p0 pr pb pe pg p1 (nI nd) p2 p3 p4 p5 (nI cn) p6 (nI pq) p7 p8 p9 (nI sc)), (p3, .inl (cA 0, 10, .inl fam))] : va_W) ++ memW cA q mp2 mi2 ml2 mn2 mk2 mf2) t) (va_A (([(oX9 h0 b0 (nI nb) p0 u0 r0 a0 t0 s0 o0), (s0, .inr (5, [.ref s1, .int (nI wn), .int (nI wc)])), (s1, .inl (cA 5, 10, .inr (.inr (.inr (.inr FR))))), (oX0 a0 p0 a1 a3 a4 a5 a6 i6 i7 i8 i9 i10 i11 i12 i13 i14 i15 i16 i17 i18 i19), (a1, .inr (6, [.ref a2, .int (nI nx), .int (nI kp)])), (a2, .inl (cA 0, 240, .inl fr)), (a3, .inl (cA 0, 10, .inl fs)), (a4, .inl (cA 0, 10, .inl fp)), (a5, .inl (cA 0, 10, .inl ff)), (a6, .inl (cA 0, 10, .inl fd)), (oX3 p0 pr pb pe pg p1 (nI nd) p2 p3 p4 p5 (nI cn) p6 (nI pq) p7 p8 p9 (nI sc)), (p3, .inl (cA 0, 10, .inl fam))] : va_W) ++ memW cA q mp mi ml mn mk mf) sz)) (vx_X (fun _ : Unit => True) (fun E _ t => (E = "java/lang/IndexOutOfBoundsException" ∨ E = "java/lang/IllegalStateException") ∧ Wq D (va_A (([(oX9 h0 b0 (nI nb) p0 u0 r0 a0 t0 s0 o0), (s0, .inr (5, [.ref s1, .int (nI wn), .int (nI wc)])), (s1, .inl (cA 5, 10, .inr (.inr (.inr (.inr FR))))), (oX0 a0 p0 a1 a3 a4 a5 a6 i6 i7 i8 i9 i10 i11 i12 i13 i14 i15 i16 i17 i18 i19), (a1, .inr (6, [.ref a2, .int (nI nx), .int (nI kp)])), (a2, .inl (cA 0, 240, .inl fr)), (a3, .inl (cA 0, 10, .inl fs)), (a4, .inl (cA 0, 10, .inl fp)), (a5, .inl (cA 0, 10, .inl ff)), (a6, .inl (cA 0, 10, .inl fd)), (oX3 p0 pr pb pe pg p1 (nI nd) p2 p3 p4 p5 (nI cn) p6 (nI pq) p7 p8 p9 (nI sc)), (p3, .inl (cA 0, 10, .inl fam))] : va_W) ++ memW cA q mp mi ml mn mk mf) sz) (([(oX9 h0 b0 (nI nb) p0 u0 r0 a0 t0 s0 o0), (s0, .inr (5, [.ref s1, .int (nI wn), .int (nI wc)])), (s1, .inl (cA 5, 10, .inr (.inr (.inr (.inr FR))))), (oX0 a0 p0 a1 a3 a4 a5 a6 i6 i7 i8 i9 i10 i11 i12 i13 i14 i15 i16 i17 i18 i19), (a1, .inr (6, [.ref a2, .int (nI nx), .int (nI kp)])), (a2, .inl (cA 0, 240, .inl fr)), (a3, .inl (cA 0, 10, .inl fs)), (a4, .inl (cA 0, 10, .inl fp)), (a5, .inl (cA 0, 10, .inl ff)), (a6, .inl (cA 0, 10, .inl fd)), (oX3 p0 pr pb pe pg p1 (nI nd) p2 p3 p4 p5 (nI cn) p6 (nI pq) p7 p8 p9 (nI sc)), (p3, .inl (cA 0, 10, .inl fam))] : va_W) ++ memW cA q mp mi ml mn mk mf) t) (va_A (([(oX9 h0 b0 (nI nb) p0 u0 r0 a0 t0 s0 o0), (s0, .inr (5, [.ref s1, .int (nI wn), .int (nI wc)])), (s1, .inl (cA 5, 10, .inr (.inr (.inr (.inr FR))))), (oX0 a0 p0 a1 a3 a4 a5 a6 i6 i7 i8 i9 i10 i11 i12 i13 i14 i15 i16 i17 i18 i19), (a1, .inr (6, [.ref a2, .int (nI nx), .int (nI kp)])), (a2, .inl (cA 0, 240, .inl fr)), (a3, .inl (cA 0, 10, .inl fs)), (a4, .inl (cA 0, 10, .inl fp)), (a5, .inl (cA 0, 10, .inl ff)), (a6, .inl (cA 0, 10, .inl fd)), (oX3 p0 pr pb pe pg p1 (nI nd) p2 p3 p4 p5 (nI cn) p6 (nI pq) p7 p8 p9 (nI sc)), (p3, .inl (cA 0, 10, .inl fam))] : va_W) ++ memW cA q mp mi ml mn mk mf) sz)) 2 12 (va_A (([(oX9 h0 b0 (nI nb) p0 u0 r0 a0 t0 s0 o0), (s0, .inr (5, [.ref s1, .int (nI wn), .int (nI wc)])), (s1, .inl (cA 5, 10, .inr (.inr (.inr (.inr FR))))), (oX0 a0 p0 a1 a3 a4 a5 a6 i6 i7 i8 i9 i10 i11 i12 i13 i14 i15 i16 i17 i18 i19), (a1, .inr (6, [.ref a2, .int (nI nx), .int (nI kp)])), (a2, .inl (cA 0, 240, .inl fr)), (a3, .inl (cA 0, 10, .inl fs)), (a4, .inl (cA 0, 10, .inl fp)), (a5, .inl (cA 0, 10, .inl ff)), (a6, .inl (cA 0, 10, .inl fd)), (oX3 p0 pr pb pe pg p1 (nI nd) p2 p3 p4 p5 (nI cn) p6 (nI pq) p7 p8 p9 (nI sc)), (p3, .inl (cA 0, 10, .inl fam))] : va_W) ++ memW cA q mp mi ml mn mk mf) sz) := by
  refine vx_ofW (cc := cX9_cancel) (maxL := 3) (ret := (some .int)) (by decide) rfl ?_
  intro p e s m args below meth c s₁ B hml hno hv
  obtain ⟨rfl, hsz, hP, hK, hD0, hC, hZ⟩ := hv
  have hx := B.exec
  have hb := B.bytes
  have hr := B.returns
  have hts := atoms_spec (ws := wsX9_cancel) B.pre
  have hown : s.vm.findClass RX9 = some m.cls := findClass_of_methodNamed B.named
  have hlocks := B.notSynchronized
  subst hsz
  have hD := hD0.self (sz := s.heap.size)
  generalize hAe : va_A (([(oX9 h0 b0 (nI nb) p0 u0 r0 a0 t0 s0 o0), (s0, .inr (5, [.ref s1, .int (nI wn), .int (nI wc)])), (s1, .inl (cA 5, 10, .inr (.inr (.inr (.inr FR))))), (oX0 a0 p0 a1 a3 a4 a5 a6 i6 i7 i8 i9 i10 i11 i12 i13 i14 i15 i16 i17 i18 i19), (a1, .inr (6, [.ref a2, .int (nI nx), .int (nI kp)])), (a2, .inl (cA 0, 240, .inl fr)), (a3, .inl (cA 0, 10, .inl fs)), (a4, .inl (cA 0, 10, .inl fp)), (a5, .inl (cA 0, 10, .inl ff)), (a6, .inl (cA 0, 10, .inl fd)), (oX3 p0 pr pb pe pg p1 (nI nd) p2 p3 p4 p5 (nI cn) p6 (nI pq) p7 p8 p9 (nI sc)), (p3, .inl (cA 0, 10, .inl fam))] : va_W) ++ memW cA q mp mi ml mn mk mf) s.heap.size = A at hD hZ ⊢
  have hA : ∀ q : Nat, s.heap.size ≤ q → A q := fun q h => by rw [← hAe]; exact Or.inr h
  have hS : va_S A s.heap s.heap [] := va_S.rf
  have hP : va_P D vwCl (([(oX9 h0 b0 (nI nb) p0 u0 r0 a0 t0 s0 o0), (s0, .inr (5, [.ref s1, .int (nI wn), .int (nI wc)])), (s1, .inl (cA 5, 10, .inr (.inr (.inr (.inr FR))))), (oX0 a0 p0 a1 a3 a4 a5 a6 i6 i7 i8 i9 i10 i11 i12 i13 i14 i15 i16 i17 i18 i19), (a1, .inr (6, [.ref a2, .int (nI nx), .int (nI kp)])), (a2, .inl (cA 0, 240, .inl fr)), (a3, .inl (cA 0, 10, .inl fs)), (a4, .inl (cA 0, 10, .inl fp)), (a5, .inl (cA 0, 10, .inl ff)), (a6, .inl (cA 0, 10, .inl fd)), (oX3 p0 pr pb pe pg p1 (nI nd) p2 p3 p4 p5 (nI cn) p6 (nI pq) p7 p8 p9 (nI sc)), (p3, .inl (cA 0, 10, .inl fam))] : va_W) ++ memW cA q mp mi ml mn mk mf) s.heap := hP
  have hl := lv_entry ([.ref h0, .int i]) (n := 3) (Nat.le_of_ble_eq_true rfl)
  rw [lg_entry_eq]
  generalize (lg_sl ([.ref h0, .int i]) ++ List.replicate (3 - (lg_sl ([.ref h0, .int i])).length) Slot.unset).toArray = ls at hl ⊢
  have hl : lv_has ls 3 [(0, .ref h0), (1, .int i)] := hl
  have inX0 : ∀ w ∈ u_ws RX0 TX0 20, w ∈ wsX9_cancel := by decide +kernel
  have inX9 : ∀ w ∈ u_ws RX9 TX9 9, w ∈ wsX9_cancel := by decide +kernel
  refine lv_aload_n hx hb dX9_cancel_0 rfl (lv_at hl 0 rfl) ?_
  refine lv_iload_n hx hb dX9_cancel_1 rfl (lv_at hl 1 rfl) ?_
  obtain ⟨hPc, hDc, hFc⟩ := PDq.cut (wc := [(oX9 h0 b0 (nI nb) p0 u0 r0 a0 t0 s0 o0), (oX3 p0 pr pb pe pg p1 (nI nd) p2 p3 p4 p5 (nI cn) p6 (nI pq) p7 p8 p9 (nI sc))]) (cq_P hP) (cq_D hD) hS hA [0, 10] (by decide) rfl
  refine vx_callv (vx_runV (As := [.int i]) (rest := []) ⟨hx, hb, hml, hown, hts⟩ (s_needMilestone l D cA sa h0 b0 nb p0 u0 r0 a0 t0 s0 o0 p1 p2 p3 p4 p5 p6 p7 p8 p9 cn pq nd sc pr pb pe pg i s.heap.size hl9 hcn hpq hnd hsc) (cwV 1 hts gX9_cancel_X9_needMilestone rfl rfl rfl (by decide +kernel) ⟨(Nat.le_of_ble_eq_true rfl), (Nat.le_of_ble_eq_true rfl)⟩) ⟨Wd.blind, va_recv hK hPc (ci := 10) (q0 := 0) rfl rfl, fun U hU hW => ⟨rfl, Wd.call hPc hDc hK hC hZ hS hFc U hU hW⟩⟩ rfl rfl hl.1 rfl (lv_room (Nat.le_of_ble_eq_true rfl)) dX9_cancel_2 ⟨(Nat.le_of_ble_eq_true rfl), (Nat.le_of_ble_eq_true rfl)⟩) hS (fun q _ h => hFc q h) hFc (fun q _ h => hFc q h) (fun E ce q9 u t H1 locs ht hvm hpx hE hz1 hk1 hS hcell hv9 hcl => ?_) (fun u t H1 locs ht hvm hw hB hz1 hk1 hS => ?_)
  · skip
    obtain ⟨hE, hP1, hD1⟩ := hE
    rw [ht] at hP1
    obtain ⟨hP, hD⟩ := PDq.joinQ (w := [(s0, .inr (5, [.ref s1, .int (nI wn), .int (nI wc)])), (s1, .inl (cA 5, 10, .inr (.inr (.inr (.inr FR))))), (oX0 a0 p0 a1 a3 a4 a5 a6 i6 i7 i8 i9 i10 i11 i12 i13 i14 i15 i16 i17 i18 i19), (a1, .inr (6, [.ref a2, .int (nI nx), .int (nI kp)])), (a2, .inl (cA 0, 240, .inl fr)), (a3, .inl (cA 0, 10, .inl fs)), (a4, .inl (cA 0, 10, .inl fp)), (a5, .inl (cA 0, 10, .inl ff)), (a6, .inl (cA 0, 10, .inl fd)), (p3, .inl (cA 0, 10, .inl fam)), (oX9 h0 b0 (nI nb) p0 u0 r0 a0 t0 s0 o0), (oX3 p0 pr pb pe pg p1 (nI nd) p2 p3 p4 p5 (nI cn) p6 (nI pq) p7 p8 p9 (nI sc))]) 10 hP hD [0, 10] [1, 2, 3, 4, 5, 6, 7, 8, 9, 11] rfl rfl (by decide +kernel) (by decide +kernel) hk1 hFc hP1 hD1 rfl
    generalize H1 = H at hP hS hcell ⊢
    have hP9 := hP.by (ws' := (([(oX9 h0 b0 (nI nb) p0 u0 r0 a0 t0 s0 o0), (s0, .inr (5, [.ref s1, .int (nI wn), .int (nI wc)])), (s1, .inl (cA 5, 10, .inr (.inr (.inr (.inr FR))))), (oX0 a0 p0 a1 a3 a4 a5 a6 i6 i7 i8 i9 i10 i11 i12 i13 i14 i15 i16 i17 i18 i19), (a1, .inr (6, [.ref a2, .int (nI nx), .int (nI kp)])), (a2, .inl (cA 0, 240, .inl fr)), (a3, .inl (cA 0, 10, .inl fs)), (a4, .inl (cA 0, 10, .inl fp)), (a5, .inl (cA 0, 10, .inl ff)), (a6, .inl (cA 0, 10, .inl fd)), (oX3 p0 pr pb pe pg p1 (nI nd) p2 p3 p4 p5 (nI cn) p6 (nI pq) p7 p8 p9 (nI sc)), (p3, .inl (cA 0, 10, .inl fam))] : va_W) ++ memW cA q mp mi ml mn mk mf)) _ (va_part [10, 0, 1, 2, 3, 4, 5, 6, 7, 8, 11, 9] rfl)
    have hD9 := va_D_part (cx := [(oX9 h0 b0 (nI nb) p0 u0 r0 a0 t0 s0 o0), (s0, .inr (5, [.ref s1, .int (nI wn), .int (nI wc)])), (s1, .inl (cA 5, 10, .inr (.inr (.inr (.inr FR))))), (oX0 a0 p0 a1 a3 a4 a5 a6 i6 i7 i8 i9 i10 i11 i12 i13 i14 i15 i16 i17 i18 i19), (a1, .inr (6, [.ref a2, .int (nI nx), .int (nI kp)])), (a2, .inl (cA 0, 240, .inl fr)), (a3, .inl (cA 0, 10, .inl fs)), (a4, .inl (cA 0, 10, .inl fp)), (a5, .inl (cA 0, 10, .inl ff)), (a6, .inl (cA 0, 10, .inl fd)), (oX3 p0 pr pb pe pg p1 (nI nd) p2 p3 p4 p5 (nI cn) p6 (nI pq) p7 p8 p9 (nI sc)), (p3, .inl (cA 0, 10, .inl fam))]) hD [10, 0, 1, 2, 3, 4, 5, 6, 7, 8, 11, 9] (by decide +kernel) rfl
    exact vx_out (fun x h => (hno x h).elim) hlocks hcell hv9 hcl (fun t ht hvm => ⟨(), trivial, ⟨(by rw [hE]; simp), by rw [ht]; exact hP9, hD9⟩, hS.F ht⟩) hS.2.2 (Nat.le_of_ble_eq_true rfl) (Nat.le_of_ble_eq_true rfl)
  · skip
    obtain ⟨qn1, hn2, hn3, hP1, hD1⟩ := hB
    rw [ht] at hP1
    obtain ⟨hP, hD⟩ := PDq.joinQ (w := [(s0, .inr (5, [.ref s1, .int (nI wn), .int (nI wc)])), (s1, .inl (cA 5, 10, .inr (.inr (.inr (.inr FR))))), (oX0 a0 p0 a1 a3 a4 a5 a6 i6 i7 i8 i9 i10 i11 i12 i13 i14 i15 i16 i17 i18 i19), (a1, .inr (6, [.ref a2, .int (nI nx), .int (nI kp)])), (a2, .inl (cA 0, 240, .inl fr)), (a3, .inl (cA 0, 10, .inl fs)), (a4, .inl (cA 0, 10, .inl fp)), (a5, .inl (cA 0, 10, .inl ff)), (a6, .inl (cA 0, 10, .inl fd)), (p3, .inl (cA 0, 10, .inl fam)), (oX9 h0 b0 (nI nb) p0 u0 r0 a0 t0 s0 o0), (oX3 p0 pr pb pe pg p1 (nI nd) p2 p3 p4 p5 (nI cn) p6 (nI pq) p7 p8 p9 (nI sc))]) 10 hP hD [0, 10] [1, 2, 3, 4, 5, 6, 7, 8, 9, 11] rfl rfl (by decide +kernel) (by decide +kernel) hk1 hFc hP1 hD1 rfl
    generalize H1 = H at hP hS ⊢
    rw [hn3] at hl
    have hl : lv_has ls 3 [(0, .ref h0), (1, .int (nI qn1))] := hl
    refine lv_aload_n hx hb dX9_cancel_5 rfl (lv_at hl 0 rfl) ?_
    refine va_get (D := D) (ci := 10) (v := .ref a0) (C := RX9) (T := TX9) (N := 9) hx hb hts inX9 hown hK hP 10 rfl rfl 5 (by decide) (hts (.fieldLink RX9 35 "EscrowDesk" "account" "LEscrowDesk$Account;") (by decide +kernel)) (fun _ h9 => h9) rfl dX9_cancel_6 ?_
    refine lv_iload_n hx hb dX9_cancel_9 rfl (lv_at hl 1 rfl) ?_
    obtain ⟨hPc, hDc, hFc⟩ := PDq.cut (wc := [(oX0 a0 p0 a1 a3 a4 a5 a6 i6 i7 i8 i9 i10 i11 i12 i13 i14 i15 i16 i17 i18 i19), (a3, .inl (cA 0, 10, .inl fs))]) (cq_P hP) (cq_D hD) hS hA [2, 5] (by decide) rfl
    refine va_calli (va_runV (As := [.int (nI qn1)]) (rest := []) ⟨hx, hb, hml, hown, hts⟩ (s_isOpenOrDue l D cA sa a0 a1 a3 a4 a5 a6 p0 i6 i7 i8 i12 i13 i14 i15 i16 i17 i18 i19 i9 i10 i11 qn1 fs H.size (by omega)) (cwV 1 hts gX9_cancel_X0_isOpenOrDue rfl rfl rfl (by decide +kernel) ⟨(Nat.le_of_ble_eq_true rfl), (Nat.le_of_ble_eq_true rfl)⟩) ⟨Wd.blind, va_recv hK hPc (ci := 4) (q0 := 0) rfl rfl, fun U hU hW => ⟨rfl, Wd.call hPc hDc hK hC hZ hS hFc U hU hW⟩⟩ rfl rfl hl.1 rfl (lv_room (Nat.le_of_ble_eq_true rfl)) dX9_cancel_10 ⟨(Nat.le_of_ble_eq_true rfl), (Nat.le_of_ble_eq_true rfl)⟩) hS (fun q _ h => hFc q h) hFc (fun rn4 u t H1 locs ht hvm hw hB hz1 hk1 hS => ?_)
    obtain ⟨hP1, hD1⟩ := hB
    rw [ht] at hP1
    obtain ⟨hP, hD⟩ := PDq.joinQ (w := [(s0, .inr (5, [.ref s1, .int (nI wn), .int (nI wc)])), (s1, .inl (cA 5, 10, .inr (.inr (.inr (.inr FR))))), (a1, .inr (6, [.ref a2, .int (nI nx), .int (nI kp)])), (a2, .inl (cA 0, 240, .inl fr)), (a4, .inl (cA 0, 10, .inl fp)), (a5, .inl (cA 0, 10, .inl ff)), (a6, .inl (cA 0, 10, .inl fd)), (p3, .inl (cA 0, 10, .inl fam)), (oX9 h0 b0 (nI nb) p0 u0 r0 a0 t0 s0 o0), (oX3 p0 pr pb pe pg p1 (nI nd) p2 p3 p4 p5 (nI cn) p6 (nI pq) p7 p8 p9 (nI sc)), (oX0 a0 p0 a1 a3 a4 a5 a6 i6 i7 i8 i9 i10 i11 i12 i13 i14 i15 i16 i17 i18 i19), (a3, .inl (cA 0, 10, .inl fs))]) 10 hP hD [2, 5] [0, 1, 3, 4, 6, 7, 8, 9, 10, 11] rfl rfl (by decide +kernel) (by decide +kernel) hk1 hFc hP1 hD1 rfl
    generalize H1 = H at hP hS ⊢
    have hn5 := hw
    obtain ⟨hPc, hDc, hFc⟩ := PDq.cut (wc := []) (cq_P hP) (cq_D hD) hS hA [] (by decide) rfl
    refine vx_callv (vx_runS (As := [.int rn4]) (rest := []) ⟨hx, hb, hml, hown, hts⟩ (s_needPossible l D cA sa rn4 H.size hl9) (va_cwS 1 hts gX9_cancel_X9_needPossible rfl rfl rfl (by decide +kernel) ⟨(Nat.le_of_ble_eq_true rfl), (Nat.le_of_ble_eq_true rfl)⟩) ⟨Wd.blind, fun U hU hW => ⟨rfl, Wd.call hPc hDc hK hC hZ hS hFc U hU hW⟩⟩ rfl rfl hl.1 rfl (lv_room (Nat.le_of_ble_eq_true rfl)) dX9_cancel_13 ⟨(Nat.le_of_ble_eq_true rfl), (Nat.le_of_ble_eq_true rfl)⟩) hS (fun q _ h => hFc q h) hFc (fun q _ h => hFc q h) (fun E ce q9 u t H1 locs ht hvm hpx hE hz1 hk1 hS hcell hv9 hcl => ?_) (fun u t H1 locs ht hvm hw hB hz1 hk1 hS => ?_)
    · skip
      obtain ⟨hE, hP1, hD1⟩ := hE
      rw [ht] at hP1
      obtain ⟨hP, hD⟩ := PDq.joinQ (w := [(s0, .inr (5, [.ref s1, .int (nI wn), .int (nI wc)])), (s1, .inl (cA 5, 10, .inr (.inr (.inr (.inr FR))))), (a1, .inr (6, [.ref a2, .int (nI nx), .int (nI kp)])), (a2, .inl (cA 0, 240, .inl fr)), (a4, .inl (cA 0, 10, .inl fp)), (a5, .inl (cA 0, 10, .inl ff)), (a6, .inl (cA 0, 10, .inl fd)), (p3, .inl (cA 0, 10, .inl fam)), (oX9 h0 b0 (nI nb) p0 u0 r0 a0 t0 s0 o0), (oX3 p0 pr pb pe pg p1 (nI nd) p2 p3 p4 p5 (nI cn) p6 (nI pq) p7 p8 p9 (nI sc)), (oX0 a0 p0 a1 a3 a4 a5 a6 i6 i7 i8 i9 i10 i11 i12 i13 i14 i15 i16 i17 i18 i19), (a3, .inl (cA 0, 10, .inl fs))]) 12 hP hD [] [0, 1, 2, 3, 4, 5, 6, 7, 8, 9, 10, 11] rfl rfl (by decide +kernel) (by decide +kernel) hk1 hFc hP1 hD1 rfl
      generalize H1 = H at hP hS hcell ⊢
      have hP9 := hP.by (ws' := (([(oX9 h0 b0 (nI nb) p0 u0 r0 a0 t0 s0 o0), (s0, .inr (5, [.ref s1, .int (nI wn), .int (nI wc)])), (s1, .inl (cA 5, 10, .inr (.inr (.inr (.inr FR))))), (oX0 a0 p0 a1 a3 a4 a5 a6 i6 i7 i8 i9 i10 i11 i12 i13 i14 i15 i16 i17 i18 i19), (a1, .inr (6, [.ref a2, .int (nI nx), .int (nI kp)])), (a2, .inl (cA 0, 240, .inl fr)), (a3, .inl (cA 0, 10, .inl fs)), (a4, .inl (cA 0, 10, .inl fp)), (a5, .inl (cA 0, 10, .inl ff)), (a6, .inl (cA 0, 10, .inl fd)), (oX3 p0 pr pb pe pg p1 (nI nd) p2 p3 p4 p5 (nI cn) p6 (nI pq) p7 p8 p9 (nI sc)), (p3, .inl (cA 0, 10, .inl fam))] : va_W) ++ memW cA q mp mi ml mn mk mf)) _ (va_part [8, 0, 1, 10, 2, 3, 11, 4, 5, 6, 9, 7] rfl)
      have hD9 := va_D_part (cx := [(oX9 h0 b0 (nI nb) p0 u0 r0 a0 t0 s0 o0), (s0, .inr (5, [.ref s1, .int (nI wn), .int (nI wc)])), (s1, .inl (cA 5, 10, .inr (.inr (.inr (.inr FR))))), (oX0 a0 p0 a1 a3 a4 a5 a6 i6 i7 i8 i9 i10 i11 i12 i13 i14 i15 i16 i17 i18 i19), (a1, .inr (6, [.ref a2, .int (nI nx), .int (nI kp)])), (a2, .inl (cA 0, 240, .inl fr)), (a3, .inl (cA 0, 10, .inl fs)), (a4, .inl (cA 0, 10, .inl fp)), (a5, .inl (cA 0, 10, .inl ff)), (a6, .inl (cA 0, 10, .inl fd)), (oX3 p0 pr pb pe pg p1 (nI nd) p2 p3 p4 p5 (nI cn) p6 (nI pq) p7 p8 p9 (nI sc)), (p3, .inl (cA 0, 10, .inl fam))]) hD [8, 0, 1, 10, 2, 3, 11, 4, 5, 6, 9, 7] (by decide +kernel) rfl
      exact vx_out (fun x h => (hno x h).elim) hlocks hcell hv9 hcl (fun t ht hvm => ⟨(), trivial, ⟨(by rw [hE]; simp), by rw [ht]; exact hP9, hD9⟩, hS.F ht⟩) hS.2.2 (Nat.le_of_ble_eq_true rfl) (Nat.le_of_ble_eq_true rfl)
    · skip
      obtain ⟨hP1, hD1⟩ := hB
      rw [ht] at hP1
      obtain ⟨hP, hD⟩ := PDq.joinQ (w := [(s0, .inr (5, [.ref s1, .int (nI wn), .int (nI wc)])), (s1, .inl (cA 5, 10, .inr (.inr (.inr (.inr FR))))), (a1, .inr (6, [.ref a2, .int (nI nx), .int (nI kp)])), (a2, .inl (cA 0, 240, .inl fr)), (a4, .inl (cA 0, 10, .inl fp)), (a5, .inl (cA 0, 10, .inl ff)), (a6, .inl (cA 0, 10, .inl fd)), (p3, .inl (cA 0, 10, .inl fam)), (oX9 h0 b0 (nI nb) p0 u0 r0 a0 t0 s0 o0), (oX3 p0 pr pb pe pg p1 (nI nd) p2 p3 p4 p5 (nI cn) p6 (nI pq) p7 p8 p9 (nI sc)), (oX0 a0 p0 a1 a3 a4 a5 a6 i6 i7 i8 i9 i10 i11 i12 i13 i14 i15 i16 i17 i18 i19), (a3, .inl (cA 0, 10, .inl fs))]) 12 hP hD [] [0, 1, 2, 3, 4, 5, 6, 7, 8, 9, 10, 11] rfl rfl (by decide +kernel) (by decide +kernel) hk1 hFc hP1 hD1 rfl
      generalize H1 = H at hP hS ⊢
      refine lv_aload_n hx hb dX9_cancel_16 rfl (lv_at hl 0 rfl) ?_
      refine va_get (D := D) (ci := 10) (v := .ref s0) (C := RX9) (T := TX9) (N := 9) hx hb hts inX9 hown hK hP 8 rfl rfl 7 (by decide) (hts (.fieldLink RX9 45 "EscrowDesk" "history" "LEscrowDesk$History;") (by decide +kernel)) (fun _ h9 => h9) rfl dX9_cancel_17 ?_
      refine lv_aload_n hx hb dX9_cancel_20 rfl (lv_at hl 0 rfl) ?_
      refine va_get (D := D) (ci := 10) (v := .ref a0) (C := RX9) (T := TX9) (N := 9) hx hb hts inX9 hown hK hP 8 rfl rfl 5 (by decide) (hts (.fieldLink RX9 35 "EscrowDesk" "account" "LEscrowDesk$Account;") (by decide +kernel)) (fun _ h9 => h9) rfl dX9_cancel_21 ?_
      have hPc := hP.by (ws' := (([(s0, .inr (5, [.ref s1, .int (nI wn), .int (nI wc)])), (s1, .inl (cA 5, 10, .inr (.inr (.inr (.inr FR))))), (oX0 a0 p0 a1 a3 a4 a5 a6 i6 i7 i8 i9 i10 i11 i12 i13 i14 i15 i16 i17 i18 i19), (a1, .inr (6, [.ref a2, .int (nI nx), .int (nI kp)])), (a2, .inl (cA 0, 240, .inl fr)), (a3, .inl (cA 0, 10, .inl fs)), (a4, .inl (cA 0, 10, .inl fp)), (a5, .inl (cA 0, 10, .inl ff)), (a6, .inl (cA 0, 10, .inl fd))] : va_W) ++ memW cA q mp mi ml mn mk mf)) _ (va_part [0, 1, 10, 2, 3, 11, 4, 5, 6] rfl)
      have hDc := va_D_part (cx := [(s0, .inr (5, [.ref s1, .int (nI wn), .int (nI wc)])), (s1, .inl (cA 5, 10, .inr (.inr (.inr (.inr FR))))), (oX0 a0 p0 a1 a3 a4 a5 a6 i6 i7 i8 i9 i10 i11 i12 i13 i14 i15 i16 i17 i18 i19), (a1, .inr (6, [.ref a2, .int (nI nx), .int (nI kp)])), (a2, .inl (cA 0, 240, .inl fr)), (a3, .inl (cA 0, 10, .inl fs)), (a4, .inl (cA 0, 10, .inl fp)), (a5, .inl (cA 0, 10, .inl ff)), (a6, .inl (cA 0, 10, .inl fd))]) hD [0, 1, 10, 2, 3, 11, 4, 5, 6] (by decide +kernel) rfl
      have hFc := va_freeP (cx := [(s0, .inr (5, [.ref s1, .int (nI wn), .int (nI wc)])), (s1, .inl (cA 5, 10, .inr (.inr (.inr (.inr FR))))), (oX0 a0 p0 a1 a3 a4 a5 a6 i6 i7 i8 i9 i10 i11 i12 i13 i14 i15 i16 i17 i18 i19), (a1, .inr (6, [.ref a2, .int (nI nx), .int (nI kp)])), (a2, .inl (cA 0, 240, .inl fr)), (a3, .inl (cA 0, 10, .inl fs)), (a4, .inl (cA 0, 10, .inl fp)), (a5, .inl (cA 0, 10, .inl ff)), (a6, .inl (cA 0, 10, .inl fd))]) hD hS hA [0, 1, 10, 2, 3, 11, 4, 5, 6] rfl
      refine va_callv (va_runV (As := [.ref a0]) (rest := []) ⟨hx, hb, hml, hown, hts⟩ (s_remember l D cA sa s0 s1 wn wc FR q mp mi ml mn mk mf a0 a1 a2 a3 a4 a5 a6 p0 i6 i7 i8 i12 i13 i14 i15 i16 i17 i18 i19 i9 i10 i11 nx kp fr fs fp ff fd H.size hnx hkp hwn hwc hFR hMB hWin) (cwV 1 hts gX9_cancel_X1_remember rfl rfl rfl (by decide +kernel) ⟨(Nat.le_of_ble_eq_true rfl), (Nat.le_of_ble_eq_true rfl)⟩) ⟨Wd.blind, va_recv hK hPc (ci := 5) (q0 := 0) rfl rfl, fun U hU hW => ⟨rfl, Wd.call hPc hDc hK hC hZ hS hFc U hU hW⟩⟩ rfl rfl hl.1 rfl (lv_room (Nat.le_of_ble_eq_true rfl)) dX9_cancel_24 ⟨(Nat.le_of_ble_eq_true rfl), (Nat.le_of_ble_eq_true rfl)⟩) hS (fun q _ h => hFc q h) hFc (fun u t H1 locs ht hvm hw hB hz1 hk1 hS => ?_)
      obtain ⟨qn6, qn7, fn8, fn9, fn10, fn11, fn12, fn13, hn14, hn15, hn16, hn17, hP1, hD1⟩ := hB
      rw [ht] at hP1
      obtain ⟨hP, hD⟩ := va_joinP (wr := [(p3, .inl (cA 0, 10, .inl fam)), (oX9 h0 b0 (nI nb) p0 u0 r0 a0 t0 s0 o0), (oX3 p0 pr pb pe pg p1 (nI nd) p2 p3 p4 p5 (nI cn) p6 (nI pq) p7 p8 p9 (nI sc))]) (rx := [(s0, .inr (5, [.ref s1, .int (nI qn6), .int (nI qn7)])), (s1, .inl (cA 5, 10, .inr (.inr (.inr (.inr FR))))), (oX0 a0 p0 a1 a3 a4 a5 a6 i6 i7 i8 i9 i10 i11 i12 i13 i14 i15 i16 i17 i18 i19), (a1, .inr (6, [.ref a2, .int (nI nx), .int (nI kp)])), (a2, .inl (cA 0, 240, .inl fr)), (a3, .inl (cA 0, 10, .inl fs)), (a4, .inl (cA 0, 10, .inl fp)), (a5, .inl (cA 0, 10, .inl ff)), (a6, .inl (cA 0, 10, .inl fd))]) (pl1 := memW cA q fn8 fn9 fn10 fn11 fn12 fn13) hP hD [0, 1, 10, 2, 3, 11, 4, 5, 6] [7, 8, 9] rfl rfl (by decide) (by decide +kernel) hk1 hFc hP1 hD1
      generalize H1 = H at hP hS ⊢
      obtain ⟨hP, hD⟩ : PDq D A (([(p3, .inl (cA 0, 10, .inl fam)), (oX9 h0 b0 (nI nb) p0 u0 r0 a0 t0 s0 o0), (oX3 p0 pr pb pe pg p1 (nI nd) p2 p3 p4 p5 (nI cn) p6 (nI pq) p7 p8 p9 (nI sc)), (s0, .inr (5, [.ref s1, .int (nI qn6), .int (nI qn7)])), (s1, .inl (cA 5, 10, .inr (.inr (.inr (.inr FR))))), (oX0 a0 p0 a1 a3 a4 a5 a6 i6 i7 i8 i9 i10 i11 i12 i13 i14 i15 i16 i17 i18 i19), (a1, .inr (6, [.ref a2, .int (nI nx), .int (nI kp)])), (a2, .inl (cA 0, 240, .inl fr)), (a3, .inl (cA 0, 10, .inl fs)), (a4, .inl (cA 0, 10, .inl fp)), (a5, .inl (cA 0, 10, .inl ff)), (a6, .inl (cA 0, 10, .inl fd))] : va_W) ++ memW cA q fn8 fn9 fn10 fn11 fn12 fn13) H := ⟨hP, hD⟩
      refine lv_aload_n hx hb dX9_cancel_27 rfl (lv_at hl 0 rfl) ?_
      refine va_get (D := D) (ci := 10) (v := .ref a0) (C := RX9) (T := TX9) (N := 9) hx hb hts inX9 hown hK hP 1 rfl rfl 5 (by decide) (hts (.fieldLink RX9 35 "EscrowDesk" "account" "LEscrowDesk$Account;") (by decide +kernel)) (fun _ h9 => h9) rfl dX9_cancel_28 ?_
      refine lv_iload_n hx hb dX9_cancel_31 rfl (lv_at hl 1 rfl) ?_
      obtain ⟨hPc, hDc, hFc⟩ := PDq.cut (wc := [(oX0 a0 p0 a1 a3 a4 a5 a6 i6 i7 i8 i9 i10 i11 i12 i13 i14 i15 i16 i17 i18 i19), (oX3 p0 pr pb pe pg p1 (nI nd) p2 p3 p4 p5 (nI cn) p6 (nI pq) p7 p8 p9 (nI sc)), (a3, .inl (cA 0, 10, .inl fs)), (a4, .inl (cA 0, 10, .inl fp)), (p3, .inl (cA 0, 10, .inl fam))]) (cq_P hP) (cq_D hD) hS hA [5, 2, 8, 9, 0] (by decide) rfl
      refine va_calli (va_runV (As := [.int (nI qn1)]) (rest := []) ⟨hx, hb, hml, hown, hts⟩ (s_remainingOf l D cA sa a0 a1 a3 a4 a5 a6 p0 i6 i7 i8 i12 i13 i14 i15 i16 i17 i18 i19 i9 i10 i11 p1 p2 p3 p4 p5 p6 p7 p8 p9 cn pq nd sc pr pb pe pg qn1 fs fp fam H.size (by omega)) (cwV 1 hts gX9_cancel_X0_remainingOf rfl rfl rfl (by decide +kernel) ⟨(Nat.le_of_ble_eq_true rfl), (Nat.le_of_ble_eq_true rfl)⟩) ⟨Wd.blind, va_recv hK hPc (ci := 4) (q0 := 0) rfl rfl, fun U hU hW => ⟨rfl, Wd.call hPc hDc hK hC hZ hS hFc U hU hW⟩⟩ rfl rfl hl.1 rfl (lv_room (Nat.le_of_ble_eq_true rfl)) dX9_cancel_32 ⟨(Nat.le_of_ble_eq_true rfl), (Nat.le_of_ble_eq_true rfl)⟩) hS (fun q _ h => hFc q h) hFc (fun rn18 u t H1 locs ht hvm hw hB hz1 hk1 hS => ?_)
      obtain ⟨hP1, hD1⟩ := hB
      rw [ht] at hP1
      obtain ⟨hP, hD⟩ := PDq.joinQ (w := [(oX9 h0 b0 (nI nb) p0 u0 r0 a0 t0 s0 o0), (s0, .inr (5, [.ref s1, .int (nI qn6), .int (nI qn7)])), (s1, .inl (cA 5, 10, .inr (.inr (.inr (.inr FR))))), (a1, .inr (6, [.ref a2, .int (nI nx), .int (nI kp)])), (a2, .inl (cA 0, 240, .inl fr)), (a5, .inl (cA 0, 10, .inl ff)), (a6, .inl (cA 0, 10, .inl fd)), (oX0 a0 p0 a1 a3 a4 a5 a6 i6 i7 i8 i9 i10 i11 i12 i13 i14 i15 i16 i17 i18 i19), (oX3 p0 pr pb pe pg p1 (nI nd) p2 p3 p4 p5 (nI cn) p6 (nI pq) p7 p8 p9 (nI sc)), (a3, .inl (cA 0, 10, .inl fs)), (a4, .inl (cA 0, 10, .inl fp)), (p3, .inl (cA 0, 10, .inl fam))]) 7 hP hD [5, 2, 8, 9, 0] [1, 3, 4, 6, 7, 10, 11] rfl rfl (by decide) (by decide +kernel) hk1 hFc hP1 hD1 rfl
      generalize H1 = H at hP hS ⊢
      refine lv_istore_n (lv' := [(2, .int rn18), (0, .ref h0), (1, .int (nI qn1))]) hx hb dX9_cancel_35 rfl hl (by decide) rfl (fun ls hl => ?_)
      refine lv_aload_n hx hb dX9_cancel_36 rfl (lv_at hl 1 rfl) ?_
      refine va_get (D := D) (ci := 10) (v := .ref a0) (C := RX9) (T := TX9) (N := 9) hx hb hts inX9 hown hK hP 0 rfl rfl 5 (by decide) (hts (.fieldLink RX9 35 "EscrowDesk" "account" "LEscrowDesk$Account;") (by decide +kernel)) (fun _ h9 => h9) rfl dX9_cancel_37 ?_
      refine va_getN (D := D) (ci := 4) (v := .ref a3) (C := RX0) (T := TX0) (N := 20) hx hb hts inX0 hown hK hP 7 rfl rfl 2 (by decide) (hC.f (A := _) (a := RX9) (i := 122) (b := "EscrowDesk$Account") (n := "state") (d := "[I") (x := "EscrowDesk") (by decide +kernel)) (fun _ h9 => h9) rfl dX9_cancel_40 ?_
      refine lv_iload_n hx hb dX9_cancel_43 rfl (lv_at hl 2 rfl) ?_
      refine lv_iconst (v := 5) hx hb dX9_cancel_44 (by decide) ?_
      refine va_iast hx hb hK hP hD hS 9 0 rfl rfl (vp_in_nI (n := qn1) (N := 10) (show qn1 < 10 by omega) (by decide)) dX9_cancel_45 (fun H locs hP hD hS => ?_)
      obtain ⟨hP, hD⟩ : PDq D A (([(oX9 h0 b0 (nI nb) p0 u0 r0 a0 t0 s0 o0), (s0, .inr (5, [.ref s1, .int (nI qn6), .int (nI qn7)])), (s1, .inl (cA 5, 10, .inr (.inr (.inr (.inr FR))))), (a1, .inr (6, [.ref a2, .int (nI nx), .int (nI kp)])), (a2, .inl (cA 0, 240, .inl fr)), (a5, .inl (cA 0, 10, .inl ff)), (a6, .inl (cA 0, 10, .inl fd)), (oX0 a0 p0 a1 a3 a4 a5 a6 i6 i7 i8 i9 i10 i11 i12 i13 i14 i15 i16 i17 i18 i19), (oX3 p0 pr pb pe pg p1 (nI nd) p2 p3 p4 p5 (nI cn) p6 (nI pq) p7 p8 p9 (nI sc)), (a3, .inl (cA 0, 10, .inl (upd fs (((nI qn1)).toNatClampNeg) 5))), (a4, .inl (cA 0, 10, .inl fp)), (p3, .inl (cA 0, 10, .inl fam))] : va_W) ++ memW cA q fn8 fn9 fn10 fn11 fn12 fn13) H := ⟨hP, hD⟩
      generalize (upd fs (((nI qn1)).toNatClampNeg) 5) = fn19 at hP hD
      obtain ⟨hP, hD⟩ : PDq D A (([(oX9 h0 b0 (nI nb) p0 u0 r0 a0 t0 s0 o0), (s0, .inr (5, [.ref s1, .int (nI qn6), .int (nI qn7)])), (s1, .inl (cA 5, 10, .inr (.inr (.inr (.inr FR))))), (a1, .inr (6, [.ref a2, .int (nI nx), .int (nI kp)])), (a2, .inl (cA 0, 240, .inl fr)), (a5, .inl (cA 0, 10, .inl ff)), (a6, .inl (cA 0, 10, .inl fd)), (oX0 a0 p0 a1 a3 a4 a5 a6 i6 i7 i8 i9 i10 i11 i12 i13 i14 i15 i16 i17 i18 i19), (oX3 p0 pr pb pe pg p1 (nI nd) p2 p3 p4 p5 (nI cn) p6 (nI pq) p7 p8 p9 (nI sc)), (a3, .inl (cA 0, 10, .inl fn19)), (a4, .inl (cA 0, 10, .inl fp)), (p3, .inl (cA 0, 10, .inl fam))] : va_W) ++ memW cA q fn8 fn9 fn10 fn11 fn12 fn13) H := ⟨hP, hD⟩
      refine lv_iload_n hx hb dX9_cancel_46 rfl (lv_at hl 0 rfl) ?_
      have hP9 := hP.by (ws' := (([(oX9 h0 b0 (nI nb) p0 u0 r0 a0 t0 s0 o0), (s0, .inr (5, [.ref s1, .int (nI qn6), .int (nI qn7)])), (s1, .inl (cA 5, 10, .inr (.inr (.inr (.inr FR))))), (oX0 a0 p0 a1 a3 a4 a5 a6 i6 i7 i8 i9 i10 i11 i12 i13 i14 i15 i16 i17 i18 i19), (a1, .inr (6, [.ref a2, .int (nI nx), .int (nI kp)])), (a2, .inl (cA 0, 240, .inl fr)), (a3, .inl (cA 0, 10, .inl fn19)), (a4, .inl (cA 0, 10, .inl fp)), (a5, .inl (cA 0, 10, .inl ff)), (a6, .inl (cA 0, 10, .inl fd)), (oX3 p0 pr pb pe pg p1 (nI nd) p2 p3 p4 p5 (nI cn) p6 (nI pq) p7 p8 p9 (nI sc)), (p3, .inl (cA 0, 10, .inl fam))] : va_W) ++ memW cA q fn8 fn9 fn10 fn11 fn12 fn13)) _ (va_part [0, 1, 2, 7, 3, 4, 9, 10, 5, 6, 8, 11] rfl)
      have hD9 := va_D_part (cx := [(oX9 h0 b0 (nI nb) p0 u0 r0 a0 t0 s0 o0), (s0, .inr (5, [.ref s1, .int (nI qn6), .int (nI qn7)])), (s1, .inl (cA 5, 10, .inr (.inr (.inr (.inr FR))))), (oX0 a0 p0 a1 a3 a4 a5 a6 i6 i7 i8 i9 i10 i11 i12 i13 i14 i15 i16 i17 i18 i19), (a1, .inr (6, [.ref a2, .int (nI nx), .int (nI kp)])), (a2, .inl (cA 0, 240, .inl fr)), (a3, .inl (cA 0, 10, .inl fn19)), (a4, .inl (cA 0, 10, .inl fp)), (a5, .inl (cA 0, 10, .inl ff)), (a6, .inl (cA 0, 10, .inl fd)), (oX3 p0 pr pb pe pg p1 (nI nd) p2 p3 p4 p5 (nI cn) p6 (nI pq) p7 p8 p9 (nI sc)), (p3, .inl (cA 0, 10, .inl fam))]) hD [0, 1, 2, 7, 3, 4, 9, 10, 5, 6, 8, 11] (by decide +kernel) rfl
      refine W.widen (k := 2) (n := 12) (Nat.le_of_ble_eq_true rfl) (Nat.le_of_ble_eq_true rfl) ?_
      exact vx_ret (W.iret (v := rn18) hx hb hr (fun t ht hW => ⟨⟨rn18, (), rfl, trivial, qn6, qn7, fn8, fn9, fn10, fn11, fn12, fn13, i6, i7, i8, i12, i13, i14, i15, i16, i17, i18, i19, i9, i10, i11, nx, kp, fr, fn19, fp, ff, fd, hn14, hn15, hn16, hn17, hnx, hkp, by rw [ht]; exact hP9, hD9⟩, hS.F ht⟩) hS.2.2 dX9_cancel_47)

set_option maxHeartbeats 4000000 in
set_option maxRecDepth 100000 in
/-- withdraw -/
theorem s_withdraw (l : Launch) (D : va_G) (cA : Nat → ClassId) (sa : Nat → Nat) (h0 : Nat) (b0 : Nat) (nb : Nat) (p0 : Nat) (u0 : Nat) (r0 : Nat) (a0 : Nat) (t0 : Nat) (s0 : Nat) (o0 : Nat) (s1 : Nat) (wn : Nat) (wc : Nat) (FR : Nat → Option Nat) (q : Nat → Nat → Nat) (mp : Nat → Nat) (mi : Nat → Nat → Int32) (ml : Nat → Nat → Int64) (mn : Nat → Nat) (mk : Nat → Nat) (mf : Nat → Nat → Nat → Int32) (a1 : Nat) (a2 : Nat) (a3 : Nat) (a4 : Nat) (a5 : Nat) (a6 : Nat) (i6 : Int32) (i7 : Int32) (i8 : Int32) (i12 : Int32) (i13 : Int32) (i14 : Int32) (i15 : Int32) (i16 : Int32) (i17 : Int32) (i18 : Int32) (i19 : Int32) (i9 : Int64) (i10 : Int64) (i11 : Int64) (nx : Nat) (kp : Nat) (fr : Nat → Int32) (fs : Nat → Int32) (fp : Nat → Int32) (ff : Nat → Int32) (fd : Nat → Int32) (p1 : Nat) (p2 : Nat) (p3 : Nat) (p4 : Nat) (p5 : Nat) (p6 : Nat) (p7 : Nat) (p8 : Nat) (p9 : Nat) (cn : Nat) (pq : Nat) (nd : Nat) (sc : Nat) (pr : Int32) (pb : Int32) (pe : Int32) (pg : Int32) (i : Int32) (sz : Nat) (hl9 : l.stackTraces = false) (hnx : nx < 60) (hkp : kp ≤ 60) (hwn : wn < 10) (hwc : wc ≤ 10) (hFR : FRq q FR) (hMB : MB mn mk) (hWin : Win p0 wn wc mp) (hcn : cn ≤ 10) (hpq : pq ≤ 8) (hnd : nd ≤ 6) (hsc : sc ≤ 350) : vx_Met l yX9_withdraw wsX9_withdraw ({ frames := 8, cells := 2, slots := 12, locals := 132 }) (va_Pc [.ref h0, .int i] (Wd D cA sa (([(oX9 h0 b0 (nI nb) p0 u0 r0 a0 t0 s0 o0), (s0, .inr (5, [.ref s1, .int (nI wn), .int (nI wc)])), (s1, .inl (cA 5, 10, .inr (.inr (.inr (.inr FR))))), (oX0 a0 p0 a1 a3 a4 a5 a6 i6 i7 i8 i9 i10 i11 i12 i13 i14 i15 i16 i17 i18 i19), (a1, .inr (6, [.ref a2, .int (nI nx), .int (nI kp)])), (a2, .inl (cA 0, 240, .inl fr)), (a3, .inl (cA 0, 10, .inl fs)), (a4, .inl (cA 0, 10, .inl fp)), (a5, .inl (cA 0, 10, .inl ff)), (a6, .inl (cA 0, 10, .inl fd)), (oX3 p0 pr pb pe pg p1 (nI nd) p2 p3 p4 p5 (nI cn) p6 (nI pq) p7 p8 p9 (nI sc))] : va_W) ++ memW cA q mp mi ml mn mk mf) sz)) (va_Qi (fun (r : Int32) (_ : Unit) => True) (fun (_ : Unit) t => ∃ wn2 : Nat, ∃ wc2 : Nat, ∃ mp2 : Nat → Nat, ∃ mi2 : Nat → Nat → Int32, ∃ ml2 : Nat → Nat → Int64, ∃ mn2 : Nat → Nat, ∃ mk2 : Nat → Nat, ∃ mf2 : Nat → Nat → Nat → Int32, ∃ z6 : Int32, ∃ z7 : Int32, ∃ z8 : Int32, ∃ z12 : Int32, ∃ z13 : Int32, ∃ z14 : Int32, ∃ z15 : Int32, ∃ z16 : Int32, ∃ z17 : Int32, ∃ z18 : Int32, ∃ z19 : Int32, ∃ z9 : Int64, ∃ z10 : Int64, ∃ z11 : Int64, ∃ ny : Nat, ∃ ky : Nat, ∃ zr : Nat → Int32, ∃ zs : Nat → Int32, ∃ zp : Nat → Int32, ∃ zf : Nat → Int32, ∃ zd : Nat → Int32, wn2 < 10 ∧ wc2 ≤ 10 ∧ MB mn2 mk2 ∧ Win p0 wn2 wc2 mp2 ∧ ny < 60 ∧ ky ≤ 60 ∧ Wq D (va_A (([(oX9 h0 b0 (nI nb) p0 u0 r0 a0 t0 s0 o0), (s0, .inr (5, [.ref s1, .int (nI wn), .int (nI wc)])), (s1, .inl (cA 5, 10, .inr (.inr (.inr (.inr FR))))), (oX0 a0 p0 a1 a3 a4 a5 a6 i6 i7 i8 i9 i10 i11 i12 i13 i14 i15 i16 i17 i18 i19), (a1, .inr (6, [.ref a2, .int (nI nx), .int (nI kp)])), (a2, .inl (cA 0, 240, .inl fr)), (a3, .inl (cA 0, 10, .inl fs)), (a4, .inl (cA 0, 10, .inl fp)), (a5, .inl (cA 0, 10, .inl ff)), (a6, .inl (cA 0, 10, .inl fd)), (oX3 p0 pr pb pe pg p1 (nI nd) p2 p3 p4 p5 (nI cn) p6 (nI pq) p7 p8 p9 (nI sc))] : va_W) ++ memW cA q mp mi ml mn mk mf) sz) (([(oX9 h0 b0 (nI nb) p0 u0 r0 a0 t0 s0 o0), (s0, .inr (5, [.ref s1, .int (nI wn2), .int (nI wc2)])), (s1, .inl (cA 5, 10, .inr (.inr (.inr (.inr FR))))), (oX0 a0 p0 a1 a3 a4 a5 a6 z6 z7 z8 z9 z10 z11 z12 z13 z14 z15 z16 z17 z18 z19), (a1, .inr (6, [.ref a2, .int (nI ny), .int (nI ky)])), (a2, .inl (cA 0, 240, .inl zr)), (a3, .inl (cA 0, 10, .inl zs)), (a4, .inl (cA 0, 10, .inl zp)), (a5, .inl (cA 0, 10, .inl zf)), (a6, .inl (cA 0, 10, .inl zd)), (oX3 p0 pr pb pe pg p1 (nI nd) p2 p3 p4 p5 (nI cn) p6 (nI pq) p7 p8 p9 (nI sc))] : va_W) ++ memW cA q mp2 mi2 ml2 mn2 mk2 mf2) t) (va_A (([(oX9 h0 b0 (nI nb) p0 u0 r0 a0 t0 s0 o0), (s0, .inr (5, [.ref s1, .int (nI wn), .int (nI wc)])), (s1, .inl (cA 5, 10, .inr (.inr (.inr (.inr FR))))), (oX0 a0 p0 a1 a3 a4 a5 a6 i6 i7 i8 i9 i10 i11 i12 i13 i14 i15 i16 i17 i18 i19), (a1, .inr (6, [.ref a2, .int (nI nx), .int (nI kp)])), (a2, .inl (cA 0, 240, .inl fr)), (a3, .inl (cA 0, 10, .inl fs)), (a4, .inl (cA 0, 10, .inl fp)), (a5, .inl (cA 0, 10, .inl ff)), (a6, .inl (cA 0, 10, .inl fd)), (oX3 p0 pr pb pe pg p1 (nI nd) p2 p3 p4 p5 (nI cn) p6 (nI pq) p7 p8 p9 (nI sc))] : va_W) ++ memW cA q mp mi ml mn mk mf) sz)) (vx_X (fun _ : Unit => True) (fun E _ t => (E = "java/lang/IndexOutOfBoundsException" ∨ E = "java/lang/IllegalStateException") ∧ Wq D (va_A (([(oX9 h0 b0 (nI nb) p0 u0 r0 a0 t0 s0 o0), (s0, .inr (5, [.ref s1, .int (nI wn), .int (nI wc)])), (s1, .inl (cA 5, 10, .inr (.inr (.inr (.inr FR))))), (oX0 a0 p0 a1 a3 a4 a5 a6 i6 i7 i8 i9 i10 i11 i12 i13 i14 i15 i16 i17 i18 i19), (a1, .inr (6, [.ref a2, .int (nI nx), .int (nI kp)])), (a2, .inl (cA 0, 240, .inl fr)), (a3, .inl (cA 0, 10, .inl fs)), (a4, .inl (cA 0, 10, .inl fp)), (a5, .inl (cA 0, 10, .inl ff)), (a6, .inl (cA 0, 10, .inl fd)), (oX3 p0 pr pb pe pg p1 (nI nd) p2 p3 p4 p5 (nI cn) p6 (nI pq) p7 p8 p9 (nI sc))] : va_W) ++ memW cA q mp mi ml mn mk mf) sz) (([(oX9 h0 b0 (nI nb) p0 u0 r0 a0 t0 s0 o0), (s0, .inr (5, [.ref s1, .int (nI wn), .int (nI wc)])), (s1, .inl (cA 5, 10, .inr (.inr (.inr (.inr FR))))), (oX0 a0 p0 a1 a3 a4 a5 a6 i6 i7 i8 i9 i10 i11 i12 i13 i14 i15 i16 i17 i18 i19), (a1, .inr (6, [.ref a2, .int (nI nx), .int (nI kp)])), (a2, .inl (cA 0, 240, .inl fr)), (a3, .inl (cA 0, 10, .inl fs)), (a4, .inl (cA 0, 10, .inl fp)), (a5, .inl (cA 0, 10, .inl ff)), (a6, .inl (cA 0, 10, .inl fd)), (oX3 p0 pr pb pe pg p1 (nI nd) p2 p3 p4 p5 (nI cn) p6 (nI pq) p7 p8 p9 (nI sc))] : va_W) ++ memW cA q mp mi ml mn mk mf) t) (va_A (([(oX9 h0 b0 (nI nb) p0 u0 r0 a0 t0 s0 o0), (s0, .inr (5, [.ref s1, .int (nI wn), .int (nI wc)])), (s1, .inl (cA 5, 10, .inr (.inr (.inr (.inr FR))))), (oX0 a0 p0 a1 a3 a4 a5 a6 i6 i7 i8 i9 i10 i11 i12 i13 i14 i15 i16 i17 i18 i19), (a1, .inr (6, [.ref a2, .int (nI nx), .int (nI kp)])), (a2, .inl (cA 0, 240, .inl fr)), (a3, .inl (cA 0, 10, .inl fs)), (a4, .inl (cA 0, 10, .inl fp)), (a5, .inl (cA 0, 10, .inl ff)), (a6, .inl (cA 0, 10, .inl fd)), (oX3 p0 pr pb pe pg p1 (nI nd) p2 p3 p4 p5 (nI cn) p6 (nI pq) p7 p8 p9 (nI sc))] : va_W) ++ memW cA q mp mi ml mn mk mf) sz)) 2 12 (va_A (([(oX9 h0 b0 (nI nb) p0 u0 r0 a0 t0 s0 o0), (s0, .inr (5, [.ref s1, .int (nI wn), .int (nI wc)])), (s1, .inl (cA 5, 10, .inr (.inr (.inr (.inr FR))))), (oX0 a0 p0 a1 a3 a4 a5 a6 i6 i7 i8 i9 i10 i11 i12 i13 i14 i15 i16 i17 i18 i19), (a1, .inr (6, [.ref a2, .int (nI nx), .int (nI kp)])), (a2, .inl (cA 0, 240, .inl fr)), (a3, .inl (cA 0, 10, .inl fs)), (a4, .inl (cA 0, 10, .inl fp)), (a5, .inl (cA 0, 10, .inl ff)), (a6, .inl (cA 0, 10, .inl fd)), (oX3 p0 pr pb pe pg p1 (nI nd) p2 p3 p4 p5 (nI cn) p6 (nI pq) p7 p8 p9 (nI sc))] : va_W) ++ memW cA q mp mi ml mn mk mf) sz) := by
  refine vx_ofW (cc := cX9_withdraw) (maxL := 2) (ret := (some .int)) (by decide) rfl ?_
  intro p e s m args below meth c s₁ B hml hno hv
  obtain ⟨rfl, hsz, hP, hK, hD0, hC, hZ⟩ := hv
  have hx := B.exec
  have hb := B.bytes
  have hr := B.returns
  have hts := atoms_spec (ws := wsX9_withdraw) B.pre
  have hown : s.vm.findClass RX9 = some m.cls := findClass_of_methodNamed B.named
  have hlocks := B.notSynchronized
  subst hsz
  have hD := hD0.self (sz := s.heap.size)
  generalize hAe : va_A (([(oX9 h0 b0 (nI nb) p0 u0 r0 a0 t0 s0 o0), (s0, .inr (5, [.ref s1, .int (nI wn), .int (nI wc)])), (s1, .inl (cA 5, 10, .inr (.inr (.inr (.inr FR))))), (oX0 a0 p0 a1 a3 a4 a5 a6 i6 i7 i8 i9 i10 i11 i12 i13 i14 i15 i16 i17 i18 i19), (a1, .inr (6, [.ref a2, .int (nI nx), .int (nI kp)])), (a2, .inl (cA 0, 240, .inl fr)), (a3, .inl (cA 0, 10, .inl fs)), (a4, .inl (cA 0, 10, .inl fp)), (a5, .inl (cA 0, 10, .inl ff)), (a6, .inl (cA 0, 10, .inl fd)), (oX3 p0 pr pb pe pg p1 (nI nd) p2 p3 p4 p5 (nI cn) p6 (nI pq) p7 p8 p9 (nI sc))] : va_W) ++ memW cA q mp mi ml mn mk mf) s.heap.size = A at hD hZ ⊢
  have hA : ∀ q : Nat, s.heap.size ≤ q → A q := fun q h => by rw [← hAe]; exact Or.inr h
  have hS : va_S A s.heap s.heap [] := va_S.rf
  have hP : va_P D vwCl (([(oX9 h0 b0 (nI nb) p0 u0 r0 a0 t0 s0 o0), (s0, .inr (5, [.ref s1, .int (nI wn), .int (nI wc)])), (s1, .inl (cA 5, 10, .inr (.inr (.inr (.inr FR))))), (oX0 a0 p0 a1 a3 a4 a5 a6 i6 i7 i8 i9 i10 i11 i12 i13 i14 i15 i16 i17 i18 i19), (a1, .inr (6, [.ref a2, .int (nI nx), .int (nI kp)])), (a2, .inl (cA 0, 240, .inl fr)), (a3, .inl (cA 0, 10, .inl fs)), (a4, .inl (cA 0, 10, .inl fp)), (a5, .inl (cA 0, 10, .inl ff)), (a6, .inl (cA 0, 10, .inl fd)), (oX3 p0 pr pb pe pg p1 (nI nd) p2 p3 p4 p5 (nI cn) p6 (nI pq) p7 p8 p9 (nI sc))] : va_W) ++ memW cA q mp mi ml mn mk mf) s.heap := hP
  have hl := lv_entry ([.ref h0, .int i]) (n := 2) (Nat.le_of_ble_eq_true rfl)
  rw [lg_entry_eq]
  generalize (lg_sl ([.ref h0, .int i]) ++ List.replicate (2 - (lg_sl ([.ref h0, .int i])).length) Slot.unset).toArray = ls at hl ⊢
  have hl : lv_has ls 2 [(0, .ref h0), (1, .int i)] := hl
  have inX9 : ∀ w ∈ u_ws RX9 TX9 9, w ∈ wsX9_withdraw := by decide +kernel
  refine lv_aload_n hx hb dX9_withdraw_0 rfl (lv_at hl 0 rfl) ?_
  refine lv_iload_n hx hb dX9_withdraw_1 rfl (lv_at hl 1 rfl) ?_
  obtain ⟨hPc, hDc, hFc⟩ := PDq.cut (wc := [(oX9 h0 b0 (nI nb) p0 u0 r0 a0 t0 s0 o0), (oX3 p0 pr pb pe pg p1 (nI nd) p2 p3 p4 p5 (nI cn) p6 (nI pq) p7 p8 p9 (nI sc))]) (cq_P hP) (cq_D hD) hS hA [0, 10] (by decide) rfl
  refine vx_callv (vx_runV (As := [.int i]) (rest := []) ⟨hx, hb, hml, hown, hts⟩ (s_needMilestone l D cA sa h0 b0 nb p0 u0 r0 a0 t0 s0 o0 p1 p2 p3 p4 p5 p6 p7 p8 p9 cn pq nd sc pr pb pe pg i s.heap.size hl9 hcn hpq hnd hsc) (cwV 1 hts gX9_withdraw_X9_needMilestone rfl rfl rfl (by decide +kernel) ⟨(Nat.le_of_ble_eq_true rfl), (Nat.le_of_ble_eq_true rfl)⟩) ⟨Wd.blind, va_recv hK hPc (ci := 10) (q0 := 0) rfl rfl, fun U hU hW => ⟨rfl, Wd.call hPc hDc hK hC hZ hS hFc U hU hW⟩⟩ rfl rfl hl.1 rfl (lv_room (Nat.le_of_ble_eq_true rfl)) dX9_withdraw_2 ⟨(Nat.le_of_ble_eq_true rfl), (Nat.le_of_ble_eq_true rfl)⟩) hS (fun q _ h => hFc q h) hFc (fun q _ h => hFc q h) (fun E ce q9 u t H1 locs ht hvm hpx hE hz1 hk1 hS hcell hv9 hcl => ?_) (fun u t H1 locs ht hvm hw hB hz1 hk1 hS => ?_)
  · skip
    obtain ⟨hE, hP1, hD1⟩ := hE
    rw [ht] at hP1
    obtain ⟨hP, hD⟩ := PDq.joinQ (w := [(s0, .inr (5, [.ref s1, .int (nI wn), .int (nI wc)])), (s1, .inl (cA 5, 10, .inr (.inr (.inr (.inr FR))))), (oX0 a0 p0 a1 a3 a4 a5 a6 i6 i7 i8 i9 i10 i11 i12 i13 i14 i15 i16 i17 i18 i19), (a1, .inr (6, [.ref a2, .int (nI nx), .int (nI kp)])), (a2, .inl (cA 0, 240, .inl fr)), (a3, .inl (cA 0, 10, .inl fs)), (a4, .inl (cA 0, 10, .inl fp)), (a5, .inl (cA 0, 10, .inl ff)), (a6, .inl (cA 0, 10, .inl fd)), (oX9 h0 b0 (nI nb) p0 u0 r0 a0 t0 s0 o0), (oX3 p0 pr pb pe pg p1 (nI nd) p2 p3 p4 p5 (nI cn) p6 (nI pq) p7 p8 p9 (nI sc))]) 9 hP hD [0, 10] [1, 2, 3, 4, 5, 6, 7, 8, 9] rfl rfl (by decide +kernel) (by decide +kernel) hk1 hFc hP1 hD1 rfl
    generalize H1 = H at hP hS hcell ⊢
    have hP9 := hP.by (ws' := (([(oX9 h0 b0 (nI nb) p0 u0 r0 a0 t0 s0 o0), (s0, .inr (5, [.ref s1, .int (nI wn), .int (nI wc)])), (s1, .inl (cA 5, 10, .inr (.inr (.inr (.inr FR))))), (oX0 a0 p0 a1 a3 a4 a5 a6 i6 i7 i8 i9 i10 i11 i12 i13 i14 i15 i16 i17 i18 i19), (a1, .inr (6, [.ref a2, .int (nI nx), .int (nI kp)])), (a2, .inl (cA 0, 240, .inl fr)), (a3, .inl (cA 0, 10, .inl fs)), (a4, .inl (cA 0, 10, .inl fp)), (a5, .inl (cA 0, 10, .inl ff)), (a6, .inl (cA 0, 10, .inl fd)), (oX3 p0 pr pb pe pg p1 (nI nd) p2 p3 p4 p5 (nI cn) p6 (nI pq) p7 p8 p9 (nI sc))] : va_W) ++ memW cA q mp mi ml mn mk mf)) _ (va_part [9, 0, 1, 2, 3, 4, 5, 6, 7, 8, 10] rfl)
    have hD9 := va_D_part (cx := [(oX9 h0 b0 (nI nb) p0 u0 r0 a0 t0 s0 o0), (s0, .inr (5, [.ref s1, .int (nI wn), .int (nI wc)])), (s1, .inl (cA 5, 10, .inr (.inr (.inr (.inr FR))))), (oX0 a0 p0 a1 a3 a4 a5 a6 i6 i7 i8 i9 i10 i11 i12 i13 i14 i15 i16 i17 i18 i19), (a1, .inr (6, [.ref a2, .int (nI nx), .int (nI kp)])), (a2, .inl (cA 0, 240, .inl fr)), (a3, .inl (cA 0, 10, .inl fs)), (a4, .inl (cA 0, 10, .inl fp)), (a5, .inl (cA 0, 10, .inl ff)), (a6, .inl (cA 0, 10, .inl fd)), (oX3 p0 pr pb pe pg p1 (nI nd) p2 p3 p4 p5 (nI cn) p6 (nI pq) p7 p8 p9 (nI sc))]) hD [9, 0, 1, 2, 3, 4, 5, 6, 7, 8, 10] (by decide +kernel) rfl
    exact vx_out (fun x h => (hno x h).elim) hlocks hcell hv9 hcl (fun t ht hvm => ⟨(), trivial, ⟨(by rw [hE]; simp), by rw [ht]; exact hP9, hD9⟩, hS.F ht⟩) hS.2.2 (Nat.le_of_ble_eq_true rfl) (Nat.le_of_ble_eq_true rfl)
  · skip
    obtain ⟨qn1, hn2, hn3, hP1, hD1⟩ := hB
    rw [ht] at hP1
    obtain ⟨hP, hD⟩ := PDq.joinQ (w := [(s0, .inr (5, [.ref s1, .int (nI wn), .int (nI wc)])), (s1, .inl (cA 5, 10, .inr (.inr (.inr (.inr FR))))), (oX0 a0 p0 a1 a3 a4 a5 a6 i6 i7 i8 i9 i10 i11 i12 i13 i14 i15 i16 i17 i18 i19), (a1, .inr (6, [.ref a2, .int (nI nx), .int (nI kp)])), (a2, .inl (cA 0, 240, .inl fr)), (a3, .inl (cA 0, 10, .inl fs)), (a4, .inl (cA 0, 10, .inl fp)), (a5, .inl (cA 0, 10, .inl ff)), (a6, .inl (cA 0, 10, .inl fd)), (oX9 h0 b0 (nI nb) p0 u0 r0 a0 t0 s0 o0), (oX3 p0 pr pb pe pg p1 (nI nd) p2 p3 p4 p5 (nI cn) p6 (nI pq) p7 p8 p9 (nI sc))]) 9 hP hD [0, 10] [1, 2, 3, 4, 5, 6, 7, 8, 9] rfl rfl (by decide +kernel) (by decide +kernel) hk1 hFc hP1 hD1 rfl
    generalize H1 = H at hP hS ⊢
    rw [hn3] at hl
    have hl : lv_has ls 2 [(0, .ref h0), (1, .int (nI qn1))] := hl
    refine lv_aload_n hx hb dX9_withdraw_5 rfl (lv_at hl 0 rfl) ?_
    refine lv_iload_n hx hb dX9_withdraw_6 rfl (lv_at hl 1 rfl) ?_
    obtain ⟨hPc, hDc, hFc⟩ := PDq.cut (wc := [(oX9 h0 b0 (nI nb) p0 u0 r0 a0 t0 s0 o0), (oX0 a0 p0 a1 a3 a4 a5 a6 i6 i7 i8 i9 i10 i11 i12 i13 i14 i15 i16 i17 i18 i19), (a3, .inl (cA 0, 10, .inl fs))]) (cq_P hP) (cq_D hD) hS hA [9, 2, 5] (by decide) rfl
    refine vx_callv (vx_runV (As := [.int (nI qn1)]) (rest := []) ⟨hx, hb, hml, hown, hts⟩ (s_needDispute l D cA sa h0 b0 nb p0 u0 r0 a0 t0 s0 o0 a1 a3 a4 a5 a6 i6 i7 i8 i12 i13 i14 i15 i16 i17 i18 i19 i9 i10 i11 qn1 fs H.size hl9 (by omega)) (cwV 1 hts gX9_withdraw_X9_needDispute rfl rfl rfl (by decide +kernel) ⟨(Nat.le_of_ble_eq_true rfl), (Nat.le_of_ble_eq_true rfl)⟩) ⟨Wd.blind, va_recv hK hPc (ci := 10) (q0 := 0) rfl rfl, fun U hU hW => ⟨rfl, Wd.call hPc hDc hK hC hZ hS hFc U hU hW⟩⟩ rfl rfl hl.1 rfl (lv_room (Nat.le_of_ble_eq_true rfl)) dX9_withdraw_7 ⟨(Nat.le_of_ble_eq_true rfl), (Nat.le_of_ble_eq_true rfl)⟩) hS (fun q _ h => hFc q h) hFc (fun q _ h => hFc q h) (fun E ce q9 u t H1 locs ht hvm hpx hE hz1 hk1 hS hcell hv9 hcl => ?_) (fun u t H1 locs ht hvm hw hB hz1 hk1 hS => ?_)
    · skip
      obtain ⟨hE, hP1, hD1⟩ := hE
      rw [ht] at hP1
      obtain ⟨hP, hD⟩ := PDq.joinQ (w := [(s0, .inr (5, [.ref s1, .int (nI wn), .int (nI wc)])), (s1, .inl (cA 5, 10, .inr (.inr (.inr (.inr FR))))), (a1, .inr (6, [.ref a2, .int (nI nx), .int (nI kp)])), (a2, .inl (cA 0, 240, .inl fr)), (a4, .inl (cA 0, 10, .inl fp)), (a5, .inl (cA 0, 10, .inl ff)), (a6, .inl (cA 0, 10, .inl fd)), (oX3 p0 pr pb pe pg p1 (nI nd) p2 p3 p4 p5 (nI cn) p6 (nI pq) p7 p8 p9 (nI sc)), (oX9 h0 b0 (nI nb) p0 u0 r0 a0 t0 s0 o0), (oX0 a0 p0 a1 a3 a4 a5 a6 i6 i7 i8 i9 i10 i11 i12 i13 i14 i15 i16 i17 i18 i19), (a3, .inl (cA 0, 10, .inl fs))]) 8 hP hD [9, 2, 5] [0, 1, 3, 4, 6, 7, 8, 10] rfl rfl (by decide) (by decide +kernel) hk1 hFc hP1 hD1 rfl
      generalize H1 = H at hP hS hcell ⊢
      have hP9 := hP.by (ws' := (([(oX9 h0 b0 (nI nb) p0 u0 r0 a0 t0 s0 o0), (s0, .inr (5, [.ref s1, .int (nI wn), .int (nI wc)])), (s1, .inl (cA 5, 10, .inr (.inr (.inr (.inr FR))))), (oX0 a0 p0 a1 a3 a4 a5 a6 i6 i7 i8 i9 i10 i11 i12 i13 i14 i15 i16 i17 i18 i19), (a1, .inr (6, [.ref a2, .int (nI nx), .int (nI kp)])), (a2, .inl (cA 0, 240, .inl fr)), (a3, .inl (cA 0, 10, .inl fs)), (a4, .inl (cA 0, 10, .inl fp)), (a5, .inl (cA 0, 10, .inl ff)), (a6, .inl (cA 0, 10, .inl fd)), (oX3 p0 pr pb pe pg p1 (nI nd) p2 p3 p4 p5 (nI cn) p6 (nI pq) p7 p8 p9 (nI sc))] : va_W) ++ memW cA q mp mi ml mn mk mf)) _ (va_part [8, 0, 1, 9, 2, 3, 10, 4, 5, 6, 7] rfl)
      have hD9 := va_D_part (cx := [(oX9 h0 b0 (nI nb) p0 u0 r0 a0 t0 s0 o0), (s0, .inr (5, [.ref s1, .int (nI wn), .int (nI wc)])), (s1, .inl (cA 5, 10, .inr (.inr (.inr (.inr FR))))), (oX0 a0 p0 a1 a3 a4 a5 a6 i6 i7 i8 i9 i10 i11 i12 i13 i14 i15 i16 i17 i18 i19), (a1, .inr (6, [.ref a2, .int (nI nx), .int (nI kp)])), (a2, .inl (cA 0, 240, .inl fr)), (a3, .inl (cA 0, 10, .inl fs)), (a4, .inl (cA 0, 10, .inl fp)), (a5, .inl (cA 0, 10, .inl ff)), (a6, .inl (cA 0, 10, .inl fd)), (oX3 p0 pr pb pe pg p1 (nI nd) p2 p3 p4 p5 (nI cn) p6 (nI pq) p7 p8 p9 (nI sc))]) hD [8, 0, 1, 9, 2, 3, 10, 4, 5, 6, 7] (by decide +kernel) rfl
      exact vx_out (fun x h => (hno x h).elim) hlocks hcell hv9 hcl (fun t ht hvm => ⟨(), trivial, ⟨(by rw [hE]; simp), by rw [ht]; exact hP9, hD9⟩, hS.F ht⟩) hS.2.2 (Nat.le_of_ble_eq_true rfl) (Nat.le_of_ble_eq_true rfl)
    · skip
      obtain ⟨hP1, hD1⟩ := hB
      rw [ht] at hP1
      obtain ⟨hP, hD⟩ := PDq.joinQ (w := [(s0, .inr (5, [.ref s1, .int (nI wn), .int (nI wc)])), (s1, .inl (cA 5, 10, .inr (.inr (.inr (.inr FR))))), (a1, .inr (6, [.ref a2, .int (nI nx), .int (nI kp)])), (a2, .inl (cA 0, 240, .inl fr)), (a4, .inl (cA 0, 10, .inl fp)), (a5, .inl (cA 0, 10, .inl ff)), (a6, .inl (cA 0, 10, .inl fd)), (oX3 p0 pr pb pe pg p1 (nI nd) p2 p3 p4 p5 (nI cn) p6 (nI pq) p7 p8 p9 (nI sc)), (oX9 h0 b0 (nI nb) p0 u0 r0 a0 t0 s0 o0), (oX0 a0 p0 a1 a3 a4 a5 a6 i6 i7 i8 i9 i10 i11 i12 i13 i14 i15 i16 i17 i18 i19), (a3, .inl (cA 0, 10, .inl fs))]) 8 hP hD [9, 2, 5] [0, 1, 3, 4, 6, 7, 8, 10] rfl rfl (by decide) (by decide +kernel) hk1 hFc hP1 hD1 rfl
      generalize H1 = H at hP hS ⊢
      refine lv_aload_n hx hb dX9_withdraw_10 rfl (lv_at hl 0 rfl) ?_
      refine va_get (D := D) (ci := 10) (v := .ref s0) (C := RX9) (T := TX9) (N := 9) hx hb hts inX9 hown hK hP 8 rfl rfl 7 (by decide) (hts (.fieldLink RX9 45 "EscrowDesk" "history" "LEscrowDesk$History;") (by decide +kernel)) (fun _ h9 => h9) rfl dX9_withdraw_11 ?_
      refine lv_aload_n hx hb dX9_withdraw_14 rfl (lv_at hl 0 rfl) ?_
      refine va_get (D := D) (ci := 10) (v := .ref a0) (C := RX9) (T := TX9) (N := 9) hx hb hts inX9 hown hK hP 8 rfl rfl 5 (by decide) (hts (.fieldLink RX9 35 "EscrowDesk" "account" "LEscrowDesk$Account;") (by decide +kernel)) (fun _ h9 => h9) rfl dX9_withdraw_15 ?_
      have hPc := hP.by (ws' := (([(s0, .inr (5, [.ref s1, .int (nI wn), .int (nI wc)])), (s1, .inl (cA 5, 10, .inr (.inr (.inr (.inr FR))))), (oX0 a0 p0 a1 a3 a4 a5 a6 i6 i7 i8 i9 i10 i11 i12 i13 i14 i15 i16 i17 i18 i19), (a1, .inr (6, [.ref a2, .int (nI nx), .int (nI kp)])), (a2, .inl (cA 0, 240, .inl fr)), (a3, .inl (cA 0, 10, .inl fs)), (a4, .inl (cA 0, 10, .inl fp)), (a5, .inl (cA 0, 10, .inl ff)), (a6, .inl (cA 0, 10, .inl fd))] : va_W) ++ memW cA q mp mi ml mn mk mf)) _ (va_part [0, 1, 9, 2, 3, 10, 4, 5, 6] rfl)
      have hDc := va_D_part (cx := [(s0, .inr (5, [.ref s1, .int (nI wn), .int (nI wc)])), (s1, .inl (cA 5, 10, .inr (.inr (.inr (.inr FR))))), (oX0 a0 p0 a1 a3 a4 a5 a6 i6 i7 i8 i9 i10 i11 i12 i13 i14 i15 i16 i17 i18 i19), (a1, .inr (6, [.ref a2, .int (nI nx), .int (nI kp)])), (a2, .inl (cA 0, 240, .inl fr)), (a3, .inl (cA 0, 10, .inl fs)), (a4, .inl (cA 0, 10, .inl fp)), (a5, .inl (cA 0, 10, .inl ff)), (a6, .inl (cA 0, 10, .inl fd))]) hD [0, 1, 9, 2, 3, 10, 4, 5, 6] (by decide +kernel) rfl
      have hFc := va_freeP (cx := [(s0, .inr (5, [.ref s1, .int (nI wn), .int (nI wc)])), (s1, .inl (cA 5, 10, .inr (.inr (.inr (.inr FR))))), (oX0 a0 p0 a1 a3 a4 a5 a6 i6 i7 i8 i9 i10 i11 i12 i13 i14 i15 i16 i17 i18 i19), (a1, .inr (6, [.ref a2, .int (nI nx), .int (nI kp)])), (a2, .inl (cA 0, 240, .inl fr)), (a3, .inl (cA 0, 10, .inl fs)), (a4, .inl (cA 0, 10, .inl fp)), (a5, .inl (cA 0, 10, .inl ff)), (a6, .inl (cA 0, 10, .inl fd))]) hD hS hA [0, 1, 9, 2, 3, 10, 4, 5, 6] rfl
      refine va_callv (va_runV (As := [.ref a0]) (rest := []) ⟨hx, hb, hml, hown, hts⟩ (s_remember l D cA sa s0 s1 wn wc FR q mp mi ml mn mk mf a0 a1 a2 a3 a4 a5 a6 p0 i6 i7 i8 i12 i13 i14 i15 i16 i17 i18 i19 i9 i10 i11 nx kp fr fs fp ff fd H.size hnx hkp hwn hwc hFR hMB hWin) (cwV 1 hts gX9_withdraw_X1_remember rfl rfl rfl (by decide +kernel) ⟨(Nat.le_of_ble_eq_true rfl), (Nat.le_of_ble_eq_true rfl)⟩) ⟨Wd.blind, va_recv hK hPc (ci := 5) (q0 := 0) rfl rfl, fun U hU hW => ⟨rfl, Wd.call hPc hDc hK hC hZ hS hFc U hU hW⟩⟩ rfl rfl hl.1 rfl (lv_room (Nat.le_of_ble_eq_true rfl)) dX9_withdraw_18 ⟨(Nat.le_of_ble_eq_true rfl), (Nat.le_of_ble_eq_true rfl)⟩) hS (fun q _ h => hFc q h) hFc (fun u t H1 locs ht hvm hw hB hz1 hk1 hS => ?_)
      obtain ⟨qn4, qn5, fn6, fn7, fn8, fn9, fn10, fn11, hn12, hn13, hn14, hn15, hP1, hD1⟩ := hB
      rw [ht] at hP1
      obtain ⟨hP, hD⟩ := va_joinP (wr := [(oX3 p0 pr pb pe pg p1 (nI nd) p2 p3 p4 p5 (nI cn) p6 (nI pq) p7 p8 p9 (nI sc)), (oX9 h0 b0 (nI nb) p0 u0 r0 a0 t0 s0 o0)]) (rx := [(s0, .inr (5, [.ref s1, .int (nI qn4), .int (nI qn5)])), (s1, .inl (cA 5, 10, .inr (.inr (.inr (.inr FR))))), (oX0 a0 p0 a1 a3 a4 a5 a6 i6 i7 i8 i9 i10 i11 i12 i13 i14 i15 i16 i17 i18 i19), (a1, .inr (6, [.ref a2, .int (nI nx), .int (nI kp)])), (a2, .inl (cA 0, 240, .inl fr)), (a3, .inl (cA 0, 10, .inl fs)), (a4, .inl (cA 0, 10, .inl fp)), (a5, .inl (cA 0, 10, .inl ff)), (a6, .inl (cA 0, 10, .inl fd))]) (pl1 := memW cA q fn6 fn7 fn8 fn9 fn10 fn11) hP hD [0, 1, 9, 2, 3, 10, 4, 5, 6] [7, 8] rfl rfl (by decide) (by decide +kernel) hk1 hFc hP1 hD1
      generalize H1 = H at hP hS ⊢
      obtain ⟨hP, hD⟩ : PDq D A (([(oX3 p0 pr pb pe pg p1 (nI nd) p2 p3 p4 p5 (nI cn) p6 (nI pq) p7 p8 p9 (nI sc)), (oX9 h0 b0 (nI nb) p0 u0 r0 a0 t0 s0 o0), (s0, .inr (5, [.ref s1, .int (nI qn4), .int (nI qn5)])), (s1, .inl (cA 5, 10, .inr (.inr (.inr (.inr FR))))), (oX0 a0 p0 a1 a3 a4 a5 a6 i6 i7 i8 i9 i10 i11 i12 i13 i14 i15 i16 i17 i18 i19), (a1, .inr (6, [.ref a2, .int (nI nx), .int (nI kp)])), (a2, .inl (cA 0, 240, .inl fr)), (a3, .inl (cA 0, 10, .inl fs)), (a4, .inl (cA 0, 10, .inl fp)), (a5, .inl (cA 0, 10, .inl ff)), (a6, .inl (cA 0, 10, .inl fd))] : va_W) ++ memW cA q fn6 fn7 fn8 fn9 fn10 fn11) H := ⟨hP, hD⟩
      refine lv_aload_n hx hb dX9_withdraw_21 rfl (lv_at hl 0 rfl) ?_
      refine va_get (D := D) (ci := 10) (v := .ref a0) (C := RX9) (T := TX9) (N := 9) hx hb hts inX9 hown hK hP 1 rfl rfl 5 (by decide) (hts (.fieldLink RX9 35 "EscrowDesk" "account" "LEscrowDesk$Account;") (by decide +kernel)) (fun _ h9 => h9) rfl dX9_withdraw_22 ?_
      refine lv_iload_n hx hb dX9_withdraw_25 rfl (lv_at hl 1 rfl) ?_
      refine lv_iconst (v := 0) hx hb dX9_withdraw_26 (by decide) ?_
      obtain ⟨hPc, hDc, hFc⟩ := PDq.cut (wc := [(oX0 a0 p0 a1 a3 a4 a5 a6 i6 i7 i8 i9 i10 i11 i12 i13 i14 i15 i16 i17 i18 i19), (a3, .inl (cA 0, 10, .inl fs)), (a5, .inl (cA 0, 10, .inl ff))]) (cq_P hP) (cq_D hD) hS hA [4, 7, 9] (by decide) rfl
      refine va_callv (va_runV (As := [.int (nI qn1), .int 0]) (rest := []) ⟨hx, hb, hml, hown, hts⟩ (s_leaveDispute l D cA sa a0 a1 a3 a4 a5 a6 p0 i6 i7 i8 i12 i13 i14 i15 i16 i17 i18 i19 i9 i10 i11 qn1 0 fs ff H.size (by omega)) (cwV 2 hts gX9_withdraw_X0_leaveDispute rfl rfl rfl (by decide +kernel) ⟨(Nat.le_of_ble_eq_true rfl), (Nat.le_of_ble_eq_true rfl)⟩) ⟨Wd.blind, va_recv hK hPc (ci := 4) (q0 := 0) rfl rfl, fun U hU hW => ⟨rfl, Wd.call hPc hDc hK hC hZ hS hFc U hU hW⟩⟩ rfl rfl hl.1 rfl (lv_room (Nat.le_of_ble_eq_true rfl)) dX9_withdraw_27 ⟨(Nat.le_of_ble_eq_true rfl), (Nat.le_of_ble_eq_true rfl)⟩) hS (fun q _ h => hFc q h) hFc (fun u t H1 locs ht hvm hw hB hz1 hk1 hS => ?_)
      obtain ⟨zn16, zn17, zn18, zn19, zn20, zn21, zn22, zn23, zn24, zn25, zn26, zn27, zn28, zn29, fn30, fn31, hP1, hD1⟩ := hB
      rw [ht] at hP1
      obtain ⟨hP, hD⟩ := PDq.joinQ (w := [(oX3 p0 pr pb pe pg p1 (nI nd) p2 p3 p4 p5 (nI cn) p6 (nI pq) p7 p8 p9 (nI sc)), (oX9 h0 b0 (nI nb) p0 u0 r0 a0 t0 s0 o0), (s0, .inr (5, [.ref s1, .int (nI qn4), .int (nI qn5)])), (s1, .inl (cA 5, 10, .inr (.inr (.inr (.inr FR))))), (a1, .inr (6, [.ref a2, .int (nI nx), .int (nI kp)])), (a2, .inl (cA 0, 240, .inl fr)), (a4, .inl (cA 0, 10, .inl fp)), (a6, .inl (cA 0, 10, .inl fd)), (oX0 a0 p0 a1 a3 a4 a5 a6 zn16 zn17 zn18 zn27 zn28 zn29 zn19 zn20 zn21 zn22 zn23 zn24 zn25 zn26), (a3, .inl (cA 0, 10, .inl fn30)), (a5, .inl (cA 0, 10, .inl fn31))]) 8 hP hD [4, 7, 9] [0, 1, 2, 3, 5, 6, 8, 10] rfl rfl (by decide) (by decide +kernel) hk1 hFc hP1 hD1 rfl
      generalize H1 = H at hP hS ⊢
      refine lv_aload_n hx hb dX9_withdraw_30 rfl (lv_at hl 0 rfl) ?_
      refine va_get (D := D) (ci := 10) (v := .ref a0) (C := RX9) (T := TX9) (N := 9) hx hb hts inX9 hown hK hP 1 rfl rfl 5 (by decide) (hts (.fieldLink RX9 35 "EscrowDesk" "account" "LEscrowDesk$Account;") (by decide +kernel)) (fun _ h9 => h9) rfl dX9_withdraw_31 ?_
      obtain ⟨hPc, hDc, hFc⟩ := PDq.cut (wc := [(oX0 a0 p0 a1 a3 a4 a5 a6 zn16 zn17 zn18 zn27 zn28 zn29 zn19 zn20 zn21 zn22 zn23 zn24 zn25 zn26), (oX3 p0 pr pb pe pg p1 (nI nd) p2 p3 p4 p5 (nI cn) p6 (nI pq) p7 p8 p9 (nI sc)), (a5, .inl (cA 0, 10, .inl fn31))]) (cq_P hP) (cq_D hD) hS hA [8, 0, 10] (by decide) rfl
      refine va_calli (va_runV (As := []) (rest := []) ⟨hx, hb, hml, hown, hts⟩ (s_availMoney l D cA sa a0 a1 a3 a4 a5 a6 p0 zn16 zn17 zn18 zn19 zn20 zn21 zn22 zn23 zn24 zn25 zn26 zn27 zn28 zn29 p1 p2 p3 p4 p5 p6 p7 p8 p9 cn pq nd sc pr pb pe pg fn31 H.size hcn hpq hnd hsc) (cwV 0 hts gX9_withdraw_X0_availableMoney rfl rfl rfl (by decide +kernel) ⟨(Nat.le_of_ble_eq_true rfl), (Nat.le_of_ble_eq_true rfl)⟩) ⟨Wd.blind, va_recv hK hPc (ci := 4) (q0 := 0) rfl rfl, fun U hU hW => ⟨rfl, Wd.call hPc hDc hK hC hZ hS hFc U hU hW⟩⟩ rfl rfl hl.1 rfl (lv_room (Nat.le_of_ble_eq_true rfl)) dX9_withdraw_34 ⟨(Nat.le_of_ble_eq_true rfl), (Nat.le_of_ble_eq_true rfl)⟩) hS (fun q _ h => hFc q h) hFc (fun rn32 u t H1 locs ht hvm hw hB hz1 hk1 hS => ?_)
      obtain ⟨hP1, hD1⟩ := hB
      rw [ht] at hP1
      obtain ⟨hP, hD⟩ := PDq.joinQ (w := [(oX9 h0 b0 (nI nb) p0 u0 r0 a0 t0 s0 o0), (s0, .inr (5, [.ref s1, .int (nI qn4), .int (nI qn5)])), (s1, .inl (cA 5, 10, .inr (.inr (.inr (.inr FR))))), (a1, .inr (6, [.ref a2, .int (nI nx), .int (nI kp)])), (a2, .inl (cA 0, 240, .inl fr)), (a4, .inl (cA 0, 10, .inl fp)), (a6, .inl (cA 0, 10, .inl fd)), (a3, .inl (cA 0, 10, .inl fn30)), (oX0 a0 p0 a1 a3 a4 a5 a6 zn16 zn17 zn18 zn27 zn28 zn29 zn19 zn20 zn21 zn22 zn23 zn24 zn25 zn26), (oX3 p0 pr pb pe pg p1 (nI nd) p2 p3 p4 p5 (nI cn) p6 (nI pq) p7 p8 p9 (nI sc)), (a5, .inl (cA 0, 10, .inl fn31))]) 8 hP hD [8, 0, 10] [1, 2, 3, 4, 5, 6, 7, 9] rfl rfl (by decide) (by decide +kernel) hk1 hFc hP1 hD1 rfl
      generalize H1 = H at hP hS ⊢
      have hP9 := hP.by (ws' := (([(oX9 h0 b0 (nI nb) p0 u0 r0 a0 t0 s0 o0), (s0, .inr (5, [.ref s1, .int (nI qn4), .int (nI qn5)])), (s1, .inl (cA 5, 10, .inr (.inr (.inr (.inr FR))))), (oX0 a0 p0 a1 a3 a4 a5 a6 zn16 zn17 zn18 zn27 zn28 zn29 zn19 zn20 zn21 zn22 zn23 zn24 zn25 zn26), (a1, .inr (6, [.ref a2, .int (nI nx), .int (nI kp)])), (a2, .inl (cA 0, 240, .inl fr)), (a3, .inl (cA 0, 10, .inl fn30)), (a4, .inl (cA 0, 10, .inl fp)), (a5, .inl (cA 0, 10, .inl fn31)), (a6, .inl (cA 0, 10, .inl fd)), (oX3 p0 pr pb pe pg p1 (nI nd) p2 p3 p4 p5 (nI cn) p6 (nI pq) p7 p8 p9 (nI sc))] : va_W) ++ memW cA q fn6 fn7 fn8 fn9 fn10 fn11)) _ (va_part [0, 1, 2, 8, 3, 4, 7, 5, 10, 6, 9] rfl)
      have hD9 := va_D_part (cx := [(oX9 h0 b0 (nI nb) p0 u0 r0 a0 t0 s0 o0), (s0, .inr (5, [.ref s1, .int (nI qn4), .int (nI qn5)])), (s1, .inl (cA 5, 10, .inr (.inr (.inr (.inr FR))))), (oX0 a0 p0 a1 a3 a4 a5 a6 zn16 zn17 zn18 zn27 zn28 zn29 zn19 zn20 zn21 zn22 zn23 zn24 zn25 zn26), (a1, .inr (6, [.ref a2, .int (nI nx), .int (nI kp)])), (a2, .inl (cA 0, 240, .inl fr)), (a3, .inl (cA 0, 10, .inl fn30)), (a4, .inl (cA 0, 10, .inl fp)), (a5, .inl (cA 0, 10, .inl fn31)), (a6, .inl (cA 0, 10, .inl fd)), (oX3 p0 pr pb pe pg p1 (nI nd) p2 p3 p4 p5 (nI cn) p6 (nI pq) p7 p8 p9 (nI sc))]) hD [0, 1, 2, 8, 3, 4, 7, 5, 10, 6, 9] (by decide +kernel) rfl
      refine W.widen (k := 2) (n := 12) (Nat.le_of_ble_eq_true rfl) (Nat.le_of_ble_eq_true rfl) ?_
      exact vx_ret (W.iret (v := rn32) hx hb hr (fun t ht hW => ⟨⟨rn32, (), rfl, trivial, qn4, qn5, fn6, fn7, fn8, fn9, fn10, fn11, zn16, zn17, zn18, zn19, zn20, zn21, zn22, zn23, zn24, zn25, zn26, zn27, zn28, zn29, nx, kp, fr, fn30, fp, fn31, fd, hn12, hn13, hn14, hn15, hnx, hkp, by rw [ht]; exact hP9, hD9⟩, hS.F ht⟩) hS.2.2 dX9_withdraw_37)

set_option maxHeartbeats 4000000 in
set_option maxRecDepth 100000 in
/-- resolve -/
theorem s_resolve (l : Launch) (D : va_G) (cA : Nat → ClassId) (sa : Nat → Nat) (h0 : Nat) (b0 : Nat) (nb : Nat) (p0 : Nat) (u0 : Nat) (r0 : Nat) (a0 : Nat) (t0 : Nat) (s0 : Nat) (o0 : Nat) (s1 : Nat) (wn : Nat) (wc : Nat) (FR : Nat → Option Nat) (q : Nat → Nat → Nat) (mp : Nat → Nat) (mi : Nat → Nat → Int32) (ml : Nat → Nat → Int64) (mn : Nat → Nat) (mk : Nat → Nat) (mf : Nat → Nat → Nat → Int32) (a1 : Nat) (a2 : Nat) (a3 : Nat) (a4 : Nat) (a5 : Nat) (a6 : Nat) (i6 : Int32) (i7 : Int32) (i8 : Int32) (i12 : Int32) (i13 : Int32) (i14 : Int32) (i15 : Int32) (i16 : Int32) (i17 : Int32) (i18 : Int32) (i19 : Int32) (i9 : Int64) (i10 : Int64) (i11 : Int64) (nx : Nat) (kp : Nat) (fr : Nat → Int32) (fs : Nat → Int32) (fp : Nat → Int32) (ff : Nat → Int32) (fd : Nat → Int32) (p1 : Nat) (p2 : Nat) (p3 : Nat) (p4 : Nat) (p5 : Nat) (p6 : Nat) (p7 : Nat) (p8 : Nat) (p9 : Nat) (cn : Nat) (pq : Nat) (nd : Nat) (sc : Nat) (pr : Int32) (pb : Int32) (pe : Int32) (pg : Int32) (fam : Nat → Int32) (i : Int32) (j : Int32) (sz : Nat) (hl9 : l.stackTraces = false) (hnx : nx < 60) (hkp : kp ≤ 60) (hwn : wn < 10) (hwc : wc ≤ 10) (hFR : FRq q FR) (hMB : MB mn mk) (hWin : Win p0 wn wc mp) (hcn : cn ≤ 10) (hpq : pq ≤ 8) (hnd : nd ≤ 6) (hsc : sc ≤ 350) : vx_Met l yX9_resolve wsX9_resolve ({ frames := 8, cells := 3, slots := 18, locals := 132 }) (va_Pc [.ref h0, .int i, .int j] (Wd D cA sa (([(oX9 h0 b0 (nI nb) p0 u0 r0 a0 t0 s0 o0), (s0, .inr (5, [.ref s1, .int (nI wn), .int (nI wc)])), (s1, .inl (cA 5, 10, .inr (.inr (.inr (.inr FR))))), (oX0 a0 p0 a1 a3 a4 a5 a6 i6 i7 i8 i9 i10 i11 i12 i13 i14 i15 i16 i17 i18 i19), (a1, .inr (6, [.ref a2, .int (nI nx), .int (nI kp)])), (a2, .inl (cA 0, 240, .inl fr)), (a3, .inl (cA 0, 10, .inl fs)), (a4, .inl (cA 0, 10, .inl fp)), (a5, .inl (cA 0, 10, .inl ff)), (a6, .inl (cA 0, 10, .inl fd)), (oX3 p0 pr pb pe pg p1 (nI nd) p2 p3 p4 p5 (nI cn) p6 (nI pq) p7 p8 p9 (nI sc)), (p3, .inl (cA 0, 10, .inl fam))] : va_W) ++ memW cA q mp mi ml mn mk mf) sz)) (va_Qi (fun (r : Int32) (_ : Unit) => True) (fun (_ : Unit) t => ∃ wn2 : Nat, ∃ wc2 : Nat, ∃ mp2 : Nat → Nat, ∃ mi2 : Nat → Nat → Int32, ∃ ml2 : Nat → Nat → Int64, ∃ mn2 : Nat → Nat, ∃ mk2 : Nat → Nat, ∃ mf2 : Nat → Nat → Nat → Int32, ∃ z6 : Int32, ∃ z7 : Int32, ∃ z8 : Int32, ∃ z12 : Int32, ∃ z13 : Int32, ∃ z14 : Int32, ∃ z15 : Int32, ∃ z16 : Int32, ∃ z17 : Int32, ∃ z18 : Int32, ∃ z19 : Int32, ∃ z9 : Int64, ∃ z10 : Int64, ∃ z11 : Int64, ∃ ny : Nat, ∃ ky : Nat, ∃ zr : Nat → Int32, ∃ zs : Nat → Int32, ∃ zp : Nat → Int32, ∃ zf : Nat → Int32, ∃ zd : Nat → Int32, wn2 < 10 ∧ wc2 ≤ 10 ∧ MB mn2 mk2 ∧ Win p0 wn2 wc2 mp2 ∧ ny < 60 ∧ ky ≤ 60 ∧ Wq D (va_A (([(oX9 h0 b0 (nI nb) p0 u0 r0 a0 t0 s0 o0), (s0, .inr (5, [.ref s1, .int (nI wn), .int (nI wc)])), (s1, .inl (cA 5, 10, .inr (.inr (.inr (.inr FR))))), (oX0 a0 p0 a1 a3 a4 a5 a6 i6 i7 i8 i9 i10 i11 i12 i13 i14 i15 i16 i17 i18 i19), (a1, .inr (6, [.ref a2, .int (nI nx), .int (nI kp)])), (a2, .inl (cA 0, 240, .inl fr)), (a3, .inl (cA 0, 10, .inl fs)), (a4, .inl (cA 0, 10, .inl fp)), (a5, .inl (cA 0, 10, .inl ff)), (a6, .inl (cA 0, 10, .inl fd)), (oX3 p0 pr pb pe pg p1 (nI nd) p2 p3 p4 p5 (nI cn) p6 (nI pq) p7 p8 p9 (nI sc)), (p3, .inl (cA 0, 10, .inl fam))] : va_W) ++ memW cA q mp mi ml mn mk mf) sz) (([(oX9 h0 b0 (nI nb) p0 u0 r0 a0 t0 s0 o0), (s0, .inr (5, [.ref s1, .int (nI wn2), .int (nI wc2)])), (s1, .inl (cA 5, 10, .inr (.inr (.inr (.inr FR))))), (oX0 a0 p0 a1 a3 a4 a5 a6 z6 z7 z8 z9 z10 z11 z12 z13 z14 z15 z16 z17 z18 z19), (a1, .inr (6, [.ref a2, .int (nI ny), .int (nI ky)])), (a2, .inl (cA 0, 240, .inl zr)), (a3, .inl (cA 0, 10, .inl zs)), (a4, .inl (cA 0, 10, .inl zp)), (a5, .inl (cA 0, 10, .inl zf)), (a6, .inl (cA 0, 10, .inl zd)), (oX3 p0 pr pb pe pg p1 (nI nd) p2 p3 p4 p5 (nI cn) p6 (nI pq) p7 p8 p9 (nI sc)), (p3, .inl (cA 0, 10, .inl fam))] : va_W) ++ memW cA q mp2 mi2 ml2 mn2 mk2 mf2) t) (va_A (([(oX9 h0 b0 (nI nb) p0 u0 r0 a0 t0 s0 o0), (s0, .inr (5, [.ref s1, .int (nI wn), .int (nI wc)])), (s1, .inl (cA 5, 10, .inr (.inr (.inr (.inr FR))))), (oX0 a0 p0 a1 a3 a4 a5 a6 i6 i7 i8 i9 i10 i11 i12 i13 i14 i15 i16 i17 i18 i19), (a1, .inr (6, [.ref a2, .int (nI nx), .int (nI kp)])), (a2, .inl (cA 0, 240, .inl fr)), (a3, .inl (cA 0, 10, .inl fs)), (a4, .inl (cA 0, 10, .inl fp)), (a5, .inl (cA 0, 10, .inl ff)), (a6, .inl (cA 0, 10, .inl fd)), (oX3 p0 pr pb pe pg p1 (nI nd) p2 p3 p4 p5 (nI cn) p6 (nI pq) p7 p8 p9 (nI sc)), (p3, .inl (cA 0, 10, .inl fam))] : va_W) ++ memW cA q mp mi ml mn mk mf) sz)) (vx_X (fun _ : Unit => True) (fun E _ t => (E = "java/lang/IndexOutOfBoundsException" ∨ E = "java/lang/IllegalArgumentException" ∨ E = "java/lang/IllegalStateException") ∧ Wq D (va_A (([(oX9 h0 b0 (nI nb) p0 u0 r0 a0 t0 s0 o0), (s0, .inr (5, [.ref s1, .int (nI wn), .int (nI wc)])), (s1, .inl (cA 5, 10, .inr (.inr (.inr (.inr FR))))), (oX0 a0 p0 a1 a3 a4 a5 a6 i6 i7 i8 i9 i10 i11 i12 i13 i14 i15 i16 i17 i18 i19), (a1, .inr (6, [.ref a2, .int (nI nx), .int (nI kp)])), (a2, .inl (cA 0, 240, .inl fr)), (a3, .inl (cA 0, 10, .inl fs)), (a4, .inl (cA 0, 10, .inl fp)), (a5, .inl (cA 0, 10, .inl ff)), (a6, .inl (cA 0, 10, .inl fd)), (oX3 p0 pr pb pe pg p1 (nI nd) p2 p3 p4 p5 (nI cn) p6 (nI pq) p7 p8 p9 (nI sc)), (p3, .inl (cA 0, 10, .inl fam))] : va_W) ++ memW cA q mp mi ml mn mk mf) sz) (([(oX9 h0 b0 (nI nb) p0 u0 r0 a0 t0 s0 o0), (s0, .inr (5, [.ref s1, .int (nI wn), .int (nI wc)])), (s1, .inl (cA 5, 10, .inr (.inr (.inr (.inr FR))))), (oX0 a0 p0 a1 a3 a4 a5 a6 i6 i7 i8 i9 i10 i11 i12 i13 i14 i15 i16 i17 i18 i19), (a1, .inr (6, [.ref a2, .int (nI nx), .int (nI kp)])), (a2, .inl (cA 0, 240, .inl fr)), (a3, .inl (cA 0, 10, .inl fs)), (a4, .inl (cA 0, 10, .inl fp)), (a5, .inl (cA 0, 10, .inl ff)), (a6, .inl (cA 0, 10, .inl fd)), (oX3 p0 pr pb pe pg p1 (nI nd) p2 p3 p4 p5 (nI cn) p6 (nI pq) p7 p8 p9 (nI sc)), (p3, .inl (cA 0, 10, .inl fam))] : va_W) ++ memW cA q mp mi ml mn mk mf) t) (va_A (([(oX9 h0 b0 (nI nb) p0 u0 r0 a0 t0 s0 o0), (s0, .inr (5, [.ref s1, .int (nI wn), .int (nI wc)])), (s1, .inl (cA 5, 10, .inr (.inr (.inr (.inr FR))))), (oX0 a0 p0 a1 a3 a4 a5 a6 i6 i7 i8 i9 i10 i11 i12 i13 i14 i15 i16 i17 i18 i19), (a1, .inr (6, [.ref a2, .int (nI nx), .int (nI kp)])), (a2, .inl (cA 0, 240, .inl fr)), (a3, .inl (cA 0, 10, .inl fs)), (a4, .inl (cA 0, 10, .inl fp)), (a5, .inl (cA 0, 10, .inl ff)), (a6, .inl (cA 0, 10, .inl fd)), (oX3 p0 pr pb pe pg p1 (nI nd) p2 p3 p4 p5 (nI cn) p6 (nI pq) p7 p8 p9 (nI sc)), (p3, .inl (cA 0, 10, .inl fam))] : va_W) ++ memW cA q mp mi ml mn mk mf) sz)) 3 18 (va_A (([(oX9 h0 b0 (nI nb) p0 u0 r0 a0 t0 s0 o0), (s0, .inr (5, [.ref s1, .int (nI wn), .int (nI wc)])), (s1, .inl (cA 5, 10, .inr (.inr (.inr (.inr FR))))), (oX0 a0 p0 a1 a3 a4 a5 a6 i6 i7 i8 i9 i10 i11 i12 i13 i14 i15 i16 i17 i18 i19), (a1, .inr (6, [.ref a2, .int (nI nx), .int (nI kp)])), (a2, .inl (cA 0, 240, .inl fr)), (a3, .inl (cA 0, 10, .inl fs)), (a4, .inl (cA 0, 10, .inl fp)), (a5, .inl (cA 0, 10, .inl ff)), (a6, .inl (cA 0, 10, .inl fd)), (oX3 p0 pr pb pe pg p1 (nI nd) p2 p3 p4 p5 (nI cn) p6 (nI pq) p7 p8 p9 (nI sc)), (p3, .inl (cA 0, 10, .inl fam))] : va_W) ++ memW cA q mp mi ml mn mk mf) sz) := by
  refine vx_ofW (cc := cX9_resolve) (maxL := 3) (ret := (some .int)) (by decide) rfl ?_
  intro p e s m args below meth c s₁ B hml hno hv
  obtain ⟨rfl, hsz, hP, hK, hD0, hC, hZ⟩ := hv
  have hx := B.exec
  have hb := B.bytes
  have hr := B.returns
  have hts := atoms_spec (ws := wsX9_resolve) B.pre
  have hown : s.vm.findClass RX9 = some m.cls := findClass_of_methodNamed B.named
  have hlocks := B.notSynchronized
  subst hsz
  have hD := hD0.self (sz := s.heap.size)
  generalize hAe : va_A (([(oX9 h0 b0 (nI nb) p0 u0 r0 a0 t0 s0 o0), (s0, .inr (5, [.ref s1, .int (nI wn), .int (nI wc)])), (s1, .inl (cA 5, 10, .inr (.inr (.inr (.inr FR))))), (oX0 a0 p0 a1 a3 a4 a5 a6 i6 i7 i8 i9 i10 i11 i12 i13 i14 i15 i16 i17 i18 i19), (a1, .inr (6, [.ref a2, .int (nI nx), .int (nI kp)])), (a2, .inl (cA 0, 240, .inl fr)), (a3, .inl (cA 0, 10, .inl fs)), (a4, .inl (cA 0, 10, .inl fp)), (a5, .inl (cA 0, 10, .inl ff)), (a6, .inl (cA 0, 10, .inl fd)), (oX3 p0 pr pb pe pg p1 (nI nd) p2 p3 p4 p5 (nI cn) p6 (nI pq) p7 p8 p9 (nI sc)), (p3, .inl (cA 0, 10, .inl fam))] : va_W) ++ memW cA q mp mi ml mn mk mf) s.heap.size = A at hD hZ ⊢
  have hA : ∀ q : Nat, s.heap.size ≤ q → A q := fun q h => by rw [← hAe]; exact Or.inr h
  have hS : va_S A s.heap s.heap [] := va_S.rf
  have hP : va_P D vwCl (([(oX9 h0 b0 (nI nb) p0 u0 r0 a0 t0 s0 o0), (s0, .inr (5, [.ref s1, .int (nI wn), .int (nI wc)])), (s1, .inl (cA 5, 10, .inr (.inr (.inr (.inr FR))))), (oX0 a0 p0 a1 a3 a4 a5 a6 i6 i7 i8 i9 i10 i11 i12 i13 i14 i15 i16 i17 i18 i19), (a1, .inr (6, [.ref a2, .int (nI nx), .int (nI kp)])), (a2, .inl (cA 0, 240, .inl fr)), (a3, .inl (cA 0, 10, .inl fs)), (a4, .inl (cA 0, 10, .inl fp)), (a5, .inl (cA 0, 10, .inl ff)), (a6, .inl (cA 0, 10, .inl fd)), (oX3 p0 pr pb pe pg p1 (nI nd) p2 p3 p4 p5 (nI cn) p6 (nI pq) p7 p8 p9 (nI sc)), (p3, .inl (cA 0, 10, .inl fam))] : va_W) ++ memW cA q mp mi ml mn mk mf) s.heap := hP
  have hl := lv_entry ([.ref h0, .int i, .int j]) (n := 3) (Nat.le_of_ble_eq_true rfl)
  rw [lg_entry_eq]
  generalize (lg_sl ([.ref h0, .int i, .int j]) ++ List.replicate (3 - (lg_sl ([.ref h0, .int i, .int j])).length) Slot.unset).toArray = ls at hl ⊢
  have hl : lv_has ls 3 [(0, .ref h0), (1, .int i), (2, .int j)] := hl
  have inX9 : ∀ w ∈ u_ws RX9 TX9 9, w ∈ wsX9_resolve := by decide +kernel
  refine lv_aload_n hx hb dX9_resolve_0 rfl (lv_at hl 0 rfl) ?_
  refine lv_iload_n hx hb dX9_resolve_1 rfl (lv_at hl 1 rfl) ?_
  obtain ⟨hPc, hDc, hFc⟩ := PDq.cut (wc := [(oX9 h0 b0 (nI nb) p0 u0 r0 a0 t0 s0 o0), (oX3 p0 pr pb pe pg p1 (nI nd) p2 p3 p4 p5 (nI cn) p6 (nI pq) p7 p8 p9 (nI sc))]) (cq_P hP) (cq_D hD) hS hA [0, 10] (by decide) rfl
  refine vx_callv (vx_runV (As := [.int i]) (rest := []) ⟨hx, hb, hml, hown, hts⟩ (s_needMilestone l D cA sa h0 b0 nb p0 u0 r0 a0 t0 s0 o0 p1 p2 p3 p4 p5 p6 p7 p8 p9 cn pq nd sc pr pb pe pg i s.heap.size hl9 hcn hpq hnd hsc) (cwV 1 hts gX9_resolve_X9_needMilestone rfl rfl rfl (by decide +kernel) ⟨(Nat.le_of_ble_eq_true rfl), (Nat.le_of_ble_eq_true rfl)⟩) ⟨Wd.blind, va_recv hK hPc (ci := 10) (q0 := 0) rfl rfl, fun U hU hW => ⟨rfl, Wd.call hPc hDc hK hC hZ hS hFc U hU hW⟩⟩ rfl rfl hl.1 rfl (lv_room (Nat.le_of_ble_eq_true rfl)) dX9_resolve_2 ⟨(Nat.le_of_ble_eq_true rfl), (Nat.le_of_ble_eq_true rfl)⟩) hS (fun q _ h => hFc q h) hFc (fun q _ h => hFc q h) (fun E ce q9 u t H1 locs ht hvm hpx hE hz1 hk1 hS hcell hv9 hcl => ?_) (fun u t H1 locs ht hvm hw hB hz1 hk1 hS => ?_)
  · skip
    obtain ⟨hE, hP1, hD1⟩ := hE
    rw [ht] at hP1
    obtain ⟨hP, hD⟩ := PDq.joinQ (w := [(s0, .inr (5, [.ref s1, .int (nI wn), .int (nI wc)])), (s1, .inl (cA 5, 10, .inr (.inr (.inr (.inr FR))))), (oX0 a0 p0 a1 a3 a4 a5 a6 i6 i7 i8 i9 i10 i11 i12 i13 i14 i15 i16 i17 i18 i19), (a1, .inr (6, [.ref a2, .int (nI nx), .int (nI kp)])), (a2, .inl (cA 0, 240, .inl fr)), (a3, .inl (cA 0, 10, .inl fs)), (a4, .inl (cA 0, 10, .inl fp)), (a5, .inl (cA 0, 10, .inl ff)), (a6, .inl (cA 0, 10, .inl fd)), (p3, .inl (cA 0, 10, .inl fam)), (oX9 h0 b0 (nI nb) p0 u0 r0 a0 t0 s0 o0), (oX3 p0 pr pb pe pg p1 (nI nd) p2 p3 p4 p5 (nI cn) p6 (nI pq) p7 p8 p9 (nI sc))]) 10 hP hD [0, 10] [1, 2, 3, 4, 5, 6, 7, 8, 9, 11] rfl rfl (by decide +kernel) (by decide +kernel) hk1 hFc hP1 hD1 rfl
    generalize H1 = H at hP hS hcell ⊢
    have hP9 := hP.by (ws' := (([(oX9 h0 b0 (nI nb) p0 u0 r0 a0 t0 s0 o0), (s0, .inr (5, [.ref s1, .int (nI wn), .int (nI wc)])), (s1, .inl (cA 5, 10, .inr (.inr (.inr (.inr FR))))), (oX0 a0 p0 a1 a3 a4 a5 a6 i6 i7 i8 i9 i10 i11 i12 i13 i14 i15 i16 i17 i18 i19), (a1, .inr (6, [.ref a2, .int (nI nx), .int (nI kp)])), (a2, .inl (cA 0, 240, .inl fr)), (a3, .inl (cA 0, 10, .inl fs)), (a4, .inl (cA 0, 10, .inl fp)), (a5, .inl (cA 0, 10, .inl ff)), (a6, .inl (cA 0, 10, .inl fd)), (oX3 p0 pr pb pe pg p1 (nI nd) p2 p3 p4 p5 (nI cn) p6 (nI pq) p7 p8 p9 (nI sc)), (p3, .inl (cA 0, 10, .inl fam))] : va_W) ++ memW cA q mp mi ml mn mk mf)) _ (va_part [10, 0, 1, 2, 3, 4, 5, 6, 7, 8, 11, 9] rfl)
    have hD9 := va_D_part (cx := [(oX9 h0 b0 (nI nb) p0 u0 r0 a0 t0 s0 o0), (s0, .inr (5, [.ref s1, .int (nI wn), .int (nI wc)])), (s1, .inl (cA 5, 10, .inr (.inr (.inr (.inr FR))))), (oX0 a0 p0 a1 a3 a4 a5 a6 i6 i7 i8 i9 i10 i11 i12 i13 i14 i15 i16 i17 i18 i19), (a1, .inr (6, [.ref a2, .int (nI nx), .int (nI kp)])), (a2, .inl (cA 0, 240, .inl fr)), (a3, .inl (cA 0, 10, .inl fs)), (a4, .inl (cA 0, 10, .inl fp)), (a5, .inl (cA 0, 10, .inl ff)), (a6, .inl (cA 0, 10, .inl fd)), (oX3 p0 pr pb pe pg p1 (nI nd) p2 p3 p4 p5 (nI cn) p6 (nI pq) p7 p8 p9 (nI sc)), (p3, .inl (cA 0, 10, .inl fam))]) hD [10, 0, 1, 2, 3, 4, 5, 6, 7, 8, 11, 9] (by decide +kernel) rfl
    exact vx_out (fun x h => (hno x h).elim) hlocks hcell hv9 hcl (fun t ht hvm => ⟨(), trivial, ⟨(by rw [hE]; simp), by rw [ht]; exact hP9, hD9⟩, hS.F ht⟩) hS.2.2 (Nat.le_of_ble_eq_true rfl) (Nat.le_of_ble_eq_true rfl)
  · skip
    obtain ⟨qn1, hn2, hn3, hP1, hD1⟩ := hB
    rw [ht] at hP1
    obtain ⟨hP, hD⟩ := PDq.joinQ (w := [(s0, .inr (5, [.ref s1, .int (nI wn), .int (nI wc)])), (s1, .inl (cA 5, 10, .inr (.inr (.inr (.inr FR))))), (oX0 a0 p0 a1 a3 a4 a5 a6 i6 i7 i8 i9 i10 i11 i12 i13 i14 i15 i16 i17 i18 i19), (a1, .inr (6, [.ref a2, .int (nI nx), .int (nI kp)])), (a2, .inl (cA 0, 240, .inl fr)), (a3, .inl (cA 0, 10, .inl fs)), (a4, .inl (cA 0, 10, .inl fp)), (a5, .inl (cA 0, 10, .inl ff)), (a6, .inl (cA 0, 10, .inl fd)), (p3, .inl (cA 0, 10, .inl fam)), (oX9 h0 b0 (nI nb) p0 u0 r0 a0 t0 s0 o0), (oX3 p0 pr pb pe pg p1 (nI nd) p2 p3 p4 p5 (nI cn) p6 (nI pq) p7 p8 p9 (nI sc))]) 10 hP hD [0, 10] [1, 2, 3, 4, 5, 6, 7, 8, 9, 11] rfl rfl (by decide +kernel) (by decide +kernel) hk1 hFc hP1 hD1 rfl
    generalize H1 = H at hP hS ⊢
    rw [hn3] at hl
    have hl : lv_has ls 3 [(0, .ref h0), (1, .int (nI qn1)), (2, .int j)] := hl
    refine lv_iload_n hx hb dX9_resolve_5 rfl (lv_at hl 2 rfl) ?_
    refine lv_iconst (v := 0) hx hb dX9_resolve_6 (by decide) ?_
    refine lv_sipush (v := 1000) hx hb dX9_resolve_7 (by decide) ?_
    obtain ⟨hPc, hDc, hFc⟩ := PDq.cut (wc := []) (cq_P hP) (cq_D hD) hS hA [] (by decide) rfl
    refine vx_callv (vx_runS (As := [.int j, .int 0, .int 1000]) (rest := []) ⟨hx, hb, hml, hown, hts⟩ (s_needRange l D cA sa j 0 1000 H.size hl9) (va_cwS 3 hts gX9_resolve_X9_needRange rfl rfl rfl (by decide +kernel) ⟨(Nat.le_of_ble_eq_true rfl), (Nat.le_of_ble_eq_true rfl)⟩) ⟨Wd.blind, fun U hU hW => ⟨rfl, Wd.call hPc hDc hK hC hZ hS hFc U hU hW⟩⟩ rfl rfl hl.1 rfl (lv_room (Nat.le_of_ble_eq_true rfl)) dX9_resolve_10 ⟨(Nat.le_of_ble_eq_true rfl), (Nat.le_of_ble_eq_true rfl)⟩) hS (fun q _ h => hFc q h) hFc (fun q _ h => hFc q h) (fun E ce q9 u t H1 locs ht hvm hpx hE hz1 hk1 hS hcell hv9 hcl => ?_) (fun u t H1 locs ht hvm hw hB hz1 hk1 hS => ?_)
    · skip
      obtain ⟨hE, hP1, hD1⟩ := hE
      rw [ht] at hP1
      obtain ⟨hP, hD⟩ := PDq.joinQ (w := [(s0, .inr (5, [.ref s1, .int (nI wn), .int (nI wc)])), (s1, .inl (cA 5, 10, .inr (.inr (.inr (.inr FR))))), (oX0 a0 p0 a1 a3 a4 a5 a6 i6 i7 i8 i9 i10 i11 i12 i13 i14 i15 i16 i17 i18 i19), (a1, .inr (6, [.ref a2, .int (nI nx), .int (nI kp)])), (a2, .inl (cA 0, 240, .inl fr)), (a3, .inl (cA 0, 10, .inl fs)), (a4, .inl (cA 0, 10, .inl fp)), (a5, .inl (cA 0, 10, .inl ff)), (a6, .inl (cA 0, 10, .inl fd)), (p3, .inl (cA 0, 10, .inl fam)), (oX9 h0 b0 (nI nb) p0 u0 r0 a0 t0 s0 o0), (oX3 p0 pr pb pe pg p1 (nI nd) p2 p3 p4 p5 (nI cn) p6 (nI pq) p7 p8 p9 (nI sc))]) 12 hP hD [] [0, 1, 2, 3, 4, 5, 6, 7, 8, 9, 10, 11] rfl rfl (by decide +kernel) (by decide +kernel) hk1 hFc hP1 hD1 rfl
      generalize H1 = H at hP hS hcell ⊢
      have hP9 := hP.by (ws' := (([(oX9 h0 b0 (nI nb) p0 u0 r0 a0 t0 s0 o0), (s0, .inr (5, [.ref s1, .int (nI wn), .int (nI wc)])), (s1, .inl (cA 5, 10, .inr (.inr (.inr (.inr FR))))), (oX0 a0 p0 a1 a3 a4 a5 a6 i6 i7 i8 i9 i10 i11 i12 i13 i14 i15 i16 i17 i18 i19), (a1, .inr (6, [.ref a2, .int (nI nx), .int (nI kp)])), (a2, .inl (cA 0, 240, .inl fr)), (a3, .inl (cA 0, 10, .inl fs)), (a4, .inl (cA 0, 10, .inl fp)), (a5, .inl (cA 0, 10, .inl ff)), (a6, .inl (cA 0, 10, .inl fd)), (oX3 p0 pr pb pe pg p1 (nI nd) p2 p3 p4 p5 (nI cn) p6 (nI pq) p7 p8 p9 (nI sc)), (p3, .inl (cA 0, 10, .inl fam))] : va_W) ++ memW cA q mp mi ml mn mk mf)) _ (va_part [10, 0, 1, 2, 3, 4, 5, 6, 7, 8, 11, 9] rfl)
      have hD9 := va_D_part (cx := [(oX9 h0 b0 (nI nb) p0 u0 r0 a0 t0 s0 o0), (s0, .inr (5, [.ref s1, .int (nI wn), .int (nI wc)])), (s1, .inl (cA 5, 10, .inr (.inr (.inr (.inr FR))))), (oX0 a0 p0 a1 a3 a4 a5 a6 i6 i7 i8 i9 i10 i11 i12 i13 i14 i15 i16 i17 i18 i19), (a1, .inr (6, [.ref a2, .int (nI nx), .int (nI kp)])), (a2, .inl (cA 0, 240, .inl fr)), (a3, .inl (cA 0, 10, .inl fs)), (a4, .inl (cA 0, 10, .inl fp)), (a5, .inl (cA 0, 10, .inl ff)), (a6, .inl (cA 0, 10, .inl fd)), (oX3 p0 pr pb pe pg p1 (nI nd) p2 p3 p4 p5 (nI cn) p6 (nI pq) p7 p8 p9 (nI sc)), (p3, .inl (cA 0, 10, .inl fam))]) hD [10, 0, 1, 2, 3, 4, 5, 6, 7, 8, 11, 9] (by decide +kernel) rfl
      exact vx_out (fun x h => (hno x h).elim) hlocks hcell hv9 hcl (fun t ht hvm => ⟨(), trivial, ⟨(by rw [hE]; simp), by rw [ht]; exact hP9, hD9⟩, hS.F ht⟩) hS.2.2 (Nat.le_of_ble_eq_true rfl) (Nat.le_of_ble_eq_true rfl)
    · skip
      obtain ⟨hP1, hD1⟩ := hB
      rw [ht] at hP1
      obtain ⟨hP, hD⟩ := PDq.joinQ (w := [(s0, .inr (5, [.ref s1, .int (nI wn), .int (nI wc)])), (s1, .inl (cA 5, 10, .inr (.inr (.inr (.inr FR))))), (oX0 a0 p0 a1 a3 a4 a5 a6 i6 i7 i8 i9 i10 i11 i12 i13 i14 i15 i16 i17 i18 i19), (a1, .inr (6, [.ref a2, .int (nI nx), .int (nI kp)])), (a2, .inl (cA 0, 240, .inl fr)), (a3, .inl (cA 0, 10, .inl fs)), (a4, .inl (cA 0, 10, .inl fp)), (a5, .inl (cA 0, 10, .inl ff)), (a6, .inl (cA 0, 10, .inl fd)), (p3, .inl (cA 0, 10, .inl fam)), (oX9 h0 b0 (nI nb) p0 u0 r0 a0 t0 s0 o0), (oX3 p0 pr pb pe pg p1 (nI nd) p2 p3 p4 p5 (nI cn) p6 (nI pq) p7 p8 p9 (nI sc))]) 12 hP hD [] [0, 1, 2, 3, 4, 5, 6, 7, 8, 9, 10, 11] rfl rfl (by decide +kernel) (by decide +kernel) hk1 hFc hP1 hD1 rfl
      generalize H1 = H at hP hS ⊢
      refine lv_aload_n hx hb dX9_resolve_13 rfl (lv_at hl 0 rfl) ?_
      refine lv_iload_n hx hb dX9_resolve_14 rfl (lv_at hl 1 rfl) ?_
      obtain ⟨hPc, hDc, hFc⟩ := PDq.cut (wc := [(oX9 h0 b0 (nI nb) p0 u0 r0 a0 t0 s0 o0), (oX0 a0 p0 a1 a3 a4 a5 a6 i6 i7 i8 i9 i10 i11 i12 i13 i14 i15 i16 i17 i18 i19), (a3, .inl (cA 0, 10, .inl fs))]) (cq_P hP) (cq_D hD) hS hA [10, 2, 5] (by decide) rfl
      refine vx_callv (vx_runV (As := [.int (nI qn1)]) (rest := []) ⟨hx, hb, hml, hown, hts⟩ (s_needDispute l D cA sa h0 b0 nb p0 u0 r0 a0 t0 s0 o0 a1 a3 a4 a5 a6 i6 i7 i8 i12 i13 i14 i15 i16 i17 i18 i19 i9 i10 i11 qn1 fs H.size hl9 (by omega)) (cwV 1 hts gX9_resolve_X9_needDispute rfl rfl rfl (by decide +kernel) ⟨(Nat.le_of_ble_eq_true rfl), (Nat.le_of_ble_eq_true rfl)⟩) ⟨Wd.blind, va_recv hK hPc (ci := 10) (q0 := 0) rfl rfl, fun U hU hW => ⟨rfl, Wd.call hPc hDc hK hC hZ hS hFc U hU hW⟩⟩ rfl rfl hl.1 rfl (lv_room (Nat.le_of_ble_eq_true rfl)) dX9_resolve_15 ⟨(Nat.le_of_ble_eq_true rfl), (Nat.le_of_ble_eq_true rfl)⟩) hS (fun q _ h => hFc q h) hFc (fun q _ h => hFc q h) (fun E ce q9 u t H1 locs ht hvm hpx hE hz1 hk1 hS hcell hv9 hcl => ?_) (fun u t H1 locs ht hvm hw hB hz1 hk1 hS => ?_)
      · skip
        obtain ⟨hE, hP1, hD1⟩ := hE
        rw [ht] at hP1
        obtain ⟨hP, hD⟩ := PDq.joinQ (w := [(s0, .inr (5, [.ref s1, .int (nI wn), .int (nI wc)])), (s1, .inl (cA 5, 10, .inr (.inr (.inr (.inr FR))))), (a1, .inr (6, [.ref a2, .int (nI nx), .int (nI kp)])), (a2, .inl (cA 0, 240, .inl fr)), (a4, .inl (cA 0, 10, .inl fp)), (a5, .inl (cA 0, 10, .inl ff)), (a6, .inl (cA 0, 10, .inl fd)), (p3, .inl (cA 0, 10, .inl fam)), (oX3 p0 pr pb pe pg p1 (nI nd) p2 p3 p4 p5 (nI cn) p6 (nI pq) p7 p8 p9 (nI sc)), (oX9 h0 b0 (nI nb) p0 u0 r0 a0 t0 s0 o0), (oX0 a0 p0 a1 a3 a4 a5 a6 i6 i7 i8 i9 i10 i11 i12 i13 i14 i15 i16 i17 i18 i19), (a3, .inl (cA 0, 10, .inl fs))]) 9 hP hD [10, 2, 5] [0, 1, 3, 4, 6, 7, 8, 9, 11] rfl rfl (by decide +kernel) (by decide +kernel) hk1 hFc hP1 hD1 rfl
        generalize H1 = H at hP hS hcell ⊢
        have hP9 := hP.by (ws' := (([(oX9 h0 b0 (nI nb) p0 u0 r0 a0 t0 s0 o0), (s0, .inr (5, [.ref s1, .int (nI wn), .int (nI wc)])), (s1, .inl (cA 5, 10, .inr (.inr (.inr (.inr FR))))), (oX0 a0 p0 a1 a3 a4 a5 a6 i6 i7 i8 i9 i10 i11 i12 i13 i14 i15 i16 i17 i18 i19), (a1, .inr (6, [.ref a2, .int (nI nx), .int (nI kp)])), (a2, .inl (cA 0, 240, .inl fr)), (a3, .inl (cA 0, 10, .inl fs)), (a4, .inl (cA 0, 10, .inl fp)), (a5, .inl (cA 0, 10, .inl ff)), (a6, .inl (cA 0, 10, .inl fd)), (oX3 p0 pr pb pe pg p1 (nI nd) p2 p3 p4 p5 (nI cn) p6 (nI pq) p7 p8 p9 (nI sc)), (p3, .inl (cA 0, 10, .inl fam))] : va_W) ++ memW cA q mp mi ml mn mk mf)) _ (va_part [9, 0, 1, 10, 2, 3, 11, 4, 5, 6, 8, 7] rfl)
        have hD9 := va_D_part (cx := [(oX9 h0 b0 (nI nb) p0 u0 r0 a0 t0 s0 o0), (s0, .inr (5, [.ref s1, .int (nI wn), .int (nI wc)])), (s1, .inl (cA 5, 10, .inr (.inr (.inr (.inr FR))))), (oX0 a0 p0 a1 a3 a4 a5 a6 i6 i7 i8 i9 i10 i11 i12 i13 i14 i15 i16 i17 i18 i19), (a1, .inr (6, [.ref a2, .int (nI nx), .int (nI kp)])), (a2, .inl (cA 0, 240, .inl fr)), (a3, .inl (cA 0, 10, .inl fs)), (a4, .inl (cA 0, 10, .inl fp)), (a5, .inl (cA 0, 10, .inl ff)), (a6, .inl (cA 0, 10, .inl fd)), (oX3 p0 pr pb pe pg p1 (nI nd) p2 p3 p4 p5 (nI cn) p6 (nI pq) p7 p8 p9 (nI sc)), (p3, .inl (cA 0, 10, .inl fam))]) hD [9, 0, 1, 10, 2, 3, 11, 4, 5, 6, 8, 7] (by decide +kernel) rfl
        exact vx_out (fun x h => (hno x h).elim) hlocks hcell hv9 hcl (fun t ht hvm => ⟨(), trivial, ⟨(by rw [hE]; simp), by rw [ht]; exact hP9, hD9⟩, hS.F ht⟩) hS.2.2 (Nat.le_of_ble_eq_true rfl) (Nat.le_of_ble_eq_true rfl)
      · skip
        obtain ⟨hP1, hD1⟩ := hB
        rw [ht] at hP1
        obtain ⟨hP, hD⟩ := PDq.joinQ (w := [(s0, .inr (5, [.ref s1, .int (nI wn), .int (nI wc)])), (s1, .inl (cA 5, 10, .inr (.inr (.inr (.inr FR))))), (a1, .inr (6, [.ref a2, .int (nI nx), .int (nI kp)])), (a2, .inl (cA 0, 240, .inl fr)), (a4, .inl (cA 0, 10, .inl fp)), (a5, .inl (cA 0, 10, .inl ff)), (a6, .inl (cA 0, 10, .inl fd)), (p3, .inl (cA 0, 10, .inl fam)), (oX3 p0 pr pb pe pg p1 (nI nd) p2 p3 p4 p5 (nI cn) p6 (nI pq) p7 p8 p9 (nI sc)), (oX9 h0 b0 (nI nb) p0 u0 r0 a0 t0 s0 o0), (oX0 a0 p0 a1 a3 a4 a5 a6 i6 i7 i8 i9 i10 i11 i12 i13 i14 i15 i16 i17 i18 i19), (a3, .inl (cA 0, 10, .inl fs))]) 9 hP hD [10, 2, 5] [0, 1, 3, 4, 6, 7, 8, 9, 11] rfl rfl (by decide +kernel) (by decide +kernel) hk1 hFc hP1 hD1 rfl
        generalize H1 = H at hP hS ⊢
        refine lv_aload_n hx hb dX9_resolve_18 rfl (lv_at hl 0 rfl) ?_
        refine va_get (D := D) (ci := 10) (v := .ref s0) (C := RX9) (T := TX9) (N := 9) hx hb hts inX9 hown hK hP 9 rfl rfl 7 (by decide) (hts (.fieldLink RX9 45 "EscrowDesk" "history" "LEscrowDesk$History;") (by decide +kernel)) (fun _ h9 => h9) rfl dX9_resolve_19 ?_
        refine lv_aload_n hx hb dX9_resolve_22 rfl (lv_at hl 0 rfl) ?_
        refine va_get (D := D) (ci := 10) (v := .ref a0) (C := RX9) (T := TX9) (N := 9) hx hb hts inX9 hown hK hP 9 rfl rfl 5 (by decide) (hts (.fieldLink RX9 35 "EscrowDesk" "account" "LEscrowDesk$Account;") (by decide +kernel)) (fun _ h9 => h9) rfl dX9_resolve_23 ?_
        have hPc := hP.by (ws' := (([(s0, .inr (5, [.ref s1, .int (nI wn), .int (nI wc)])), (s1, .inl (cA 5, 10, .inr (.inr (.inr (.inr FR))))), (oX0 a0 p0 a1 a3 a4 a5 a6 i6 i7 i8 i9 i10 i11 i12 i13 i14 i15 i16 i17 i18 i19), (a1, .inr (6, [.ref a2, .int (nI nx), .int (nI kp)])), (a2, .inl (cA 0, 240, .inl fr)), (a3, .inl (cA 0, 10, .inl fs)), (a4, .inl (cA 0, 10, .inl fp)), (a5, .inl (cA 0, 10, .inl ff)), (a6, .inl (cA 0, 10, .inl fd))] : va_W) ++ memW cA q mp mi ml mn mk mf)) _ (va_part [0, 1, 10, 2, 3, 11, 4, 5, 6] rfl)
        have hDc := va_D_part (cx := [(s0, .inr (5, [.ref s1, .int (nI wn), .int (nI wc)])), (s1, .inl (cA 5, 10, .inr (.inr (.inr (.inr FR))))), (oX0 a0 p0 a1 a3 a4 a5 a6 i6 i7 i8 i9 i10 i11 i12 i13 i14 i15 i16 i17 i18 i19), (a1, .inr (6, [.ref a2, .int (nI nx), .int (nI kp)])), (a2, .inl (cA 0, 240, .inl fr)), (a3, .inl (cA 0, 10, .inl fs)), (a4, .inl (cA 0, 10, .inl fp)), (a5, .inl (cA 0, 10, .inl ff)), (a6, .inl (cA 0, 10, .inl fd))]) hD [0, 1, 10, 2, 3, 11, 4, 5, 6] (by decide +kernel) rfl
        have hFc := va_freeP (cx := [(s0, .inr (5, [.ref s1, .int (nI wn), .int (nI wc)])), (s1, .inl (cA 5, 10, .inr (.inr (.inr (.inr FR))))), (oX0 a0 p0 a1 a3 a4 a5 a6 i6 i7 i8 i9 i10 i11 i12 i13 i14 i15 i16 i17 i18 i19), (a1, .inr (6, [.ref a2, .int (nI nx), .int (nI kp)])), (a2, .inl (cA 0, 240, .inl fr)), (a3, .inl (cA 0, 10, .inl fs)), (a4, .inl (cA 0, 10, .inl fp)), (a5, .inl (cA 0, 10, .inl ff)), (a6, .inl (cA 0, 10, .inl fd))]) hD hS hA [0, 1, 10, 2, 3, 11, 4, 5, 6] rfl
        refine va_callv (va_runV (As := [.ref a0]) (rest := []) ⟨hx, hb, hml, hown, hts⟩ (s_remember l D cA sa s0 s1 wn wc FR q mp mi ml mn mk mf a0 a1 a2 a3 a4 a5 a6 p0 i6 i7 i8 i12 i13 i14 i15 i16 i17 i18 i19 i9 i10 i11 nx kp fr fs fp ff fd H.size hnx hkp hwn hwc hFR hMB hWin) (cwV 1 hts gX9_resolve_X1_remember rfl rfl rfl (by decide +kernel) ⟨(Nat.le_of_ble_eq_true rfl), (Nat.le_of_ble_eq_true rfl)⟩) ⟨Wd.blind, va_recv hK hPc (ci := 5) (q0 := 0) rfl rfl, fun U hU hW => ⟨rfl, Wd.call hPc hDc hK hC hZ hS hFc U hU hW⟩⟩ rfl rfl hl.1 rfl (lv_room (Nat.le_of_ble_eq_true rfl)) dX9_resolve_26 ⟨(Nat.le_of_ble_eq_true rfl), (Nat.le_of_ble_eq_true rfl)⟩) hS (fun q _ h => hFc q h) hFc (fun u t H1 locs ht hvm hw hB hz1 hk1 hS => ?_)
        obtain ⟨qn4, qn5, fn6, fn7, fn8, fn9, fn10, fn11, hn12, hn13, hn14, hn15, hP1, hD1⟩ := hB
        rw [ht] at hP1
        obtain ⟨hP, hD⟩ := va_joinP (wr := [(p3, .inl (cA 0, 10, .inl fam)), (oX3 p0 pr pb pe pg p1 (nI nd) p2 p3 p4 p5 (nI cn) p6 (nI pq) p7 p8 p9 (nI sc)), (oX9 h0 b0 (nI nb) p0 u0 r0 a0 t0 s0 o0)]) (rx := [(s0, .inr (5, [.ref s1, .int (nI qn4), .int (nI qn5)])), (s1, .inl (cA 5, 10, .inr (.inr (.inr (.inr FR))))), (oX0 a0 p0 a1 a3 a4 a5 a6 i6 i7 i8 i9 i10 i11 i12 i13 i14 i15 i16 i17 i18 i19), (a1, .inr (6, [.ref a2, .int (nI nx), .int (nI kp)])), (a2, .inl (cA 0, 240, .inl fr)), (a3, .inl (cA 0, 10, .inl fs)), (a4, .inl (cA 0, 10, .inl fp)), (a5, .inl (cA 0, 10, .inl ff)), (a6, .inl (cA 0, 10, .inl fd))]) (pl1 := memW cA q fn6 fn7 fn8 fn9 fn10 fn11) hP hD [0, 1, 10, 2, 3, 11, 4, 5, 6] [7, 8, 9] rfl rfl (by decide) (by decide +kernel) hk1 hFc hP1 hD1
        generalize H1 = H at hP hS ⊢
        obtain ⟨hP, hD⟩ : PDq D A (([(p3, .inl (cA 0, 10, .inl fam)), (oX3 p0 pr pb pe pg p1 (nI nd) p2 p3 p4 p5 (nI cn) p6 (nI pq) p7 p8 p9 (nI sc)), (oX9 h0 b0 (nI nb) p0 u0 r0 a0 t0 s0 o0), (s0, .inr (5, [.ref s1, .int (nI qn4), .int (nI qn5)])), (s1, .inl (cA 5, 10, .inr (.inr (.inr (.inr FR))))), (oX0 a0 p0 a1 a3 a4 a5 a6 i6 i7 i8 i9 i10 i11 i12 i13 i14 i15 i16 i17 i18 i19), (a1, .inr (6, [.ref a2, .int (nI nx), .int (nI kp)])), (a2, .inl (cA 0, 240, .inl fr)), (a3, .inl (cA 0, 10, .inl fs)), (a4, .inl (cA 0, 10, .inl fp)), (a5, .inl (cA 0, 10, .inl ff)), (a6, .inl (cA 0, 10, .inl fd))] : va_W) ++ memW cA q fn6 fn7 fn8 fn9 fn10 fn11) H := ⟨hP, hD⟩
        refine lv_aload_n hx hb dX9_resolve_29 rfl (lv_at hl 0 rfl) ?_
        refine va_get (D := D) (ci := 10) (v := .ref a0) (C := RX9) (T := TX9) (N := 9) hx hb hts inX9 hown hK hP 2 rfl rfl 5 (by decide) (hts (.fieldLink RX9 35 "EscrowDesk" "account" "LEscrowDesk$Account;") (by decide +kernel)) (fun _ h9 => h9) rfl dX9_resolve_30 ?_
        refine lv_iload_n hx hb dX9_resolve_33 rfl (lv_at hl 1 rfl) ?_
        refine lv_iload_n hx hb dX9_resolve_34 rfl (lv_at hl 2 rfl) ?_
        obtain ⟨hPc, hDc, hFc⟩ := PDq.cut (wc := [(oX0 a0 p0 a1 a3 a4 a5 a6 i6 i7 i8 i9 i10 i11 i12 i13 i14 i15 i16 i17 i18 i19), (a1, .inr (6, [.ref a2, .int (nI nx), .int (nI kp)])), (a2, .inl (cA 0, 240, .inl fr)), (a3, .inl (cA 0, 10, .inl fs)), (a4, .inl (cA 0, 10, .inl fp)), (oX3 p0 pr pb pe pg p1 (nI nd) p2 p3 p4 p5 (nI cn) p6 (nI pq) p7 p8 p9 (nI sc)), (p3, .inl (cA 0, 10, .inl fam)), (a5, .inl (cA 0, 10, .inl ff))]) (cq_P hP) (cq_D hD) hS hA [5, 6, 7, 8, 9, 1, 0, 10] (by decide) rfl
        refine va_calli (va_runV (As := [.int (nI qn1), .int j]) (rest := []) ⟨hx, hb, hml, hown, hts⟩ (s_settle l D cA sa a0 a1 a2 a3 a4 a5 a6 p0 i6 i7 i8 i12 i13 i14 i15 i16 i17 i18 i19 i9 i10 i11 nx kp fr p1 p2 p3 p4 p5 p6 p7 p8 p9 cn pq nd sc pr pb pe pg fs fp fam qn1 j ff H.size hnx hkp hcn hpq hnd hsc (by omega)) (cwV 2 hts gX9_resolve_X0_settle rfl rfl rfl (by decide +kernel) ⟨(Nat.le_of_ble_eq_true rfl), (Nat.le_of_ble_eq_true rfl)⟩) ⟨Wd.blind, va_recv hK hPc (ci := 4) (q0 := 0) rfl rfl, fun U hU hW => ⟨rfl, Wd.call hPc hDc hK hC hZ hS hFc U hU hW⟩⟩ rfl rfl hl.1 rfl (lv_room (Nat.le_of_ble_eq_true rfl)) dX9_resolve_35 ⟨(Nat.le_of_ble_eq_true rfl), (Nat.le_of_ble_eq_true rfl)⟩) hS (fun q _ h => hFc q h) hFc (fun rn16 u t H1 locs ht hvm hw hB hz1 hk1 hS => ?_)
        obtain ⟨zn17, zn18, zn19, zn20, zn21, zn22, zn23, zn24, zn25, zn26, zn27, zn28, zn29, zn30, qn31, qn32, fn33, fn34, fn35, fn36, hn37, hn38, hP1, hD1⟩ := hB
        rw [ht] at hP1
        obtain ⟨hP, hD⟩ := PDq.joinQ (w := [(oX9 h0 b0 (nI nb) p0 u0 r0 a0 t0 s0 o0), (s0, .inr (5, [.ref s1, .int (nI qn4), .int (nI qn5)])), (s1, .inl (cA 5, 10, .inr (.inr (.inr (.inr FR))))), (a6, .inl (cA 0, 10, .inl fd)), (oX0 a0 p0 a1 a3 a4 a5 a6 zn17 zn18 zn19 zn28 zn29 zn30 zn20 zn21 zn22 zn23 zn24 zn25 zn26 zn27), (a1, .inr (6, [.ref a2, .int (nI qn31), .int (nI qn32)])), (a2, .inl (cA 0, 240, .inl fn33)), (a3, .inl (cA 0, 10, .inl fn34)), (a4, .inl (cA 0, 10, .inl fn35)), (oX3 p0 pr pb pe pg p1 (nI nd) p2 p3 p4 p5 (nI cn) p6 (nI pq) p7 p8 p9 (nI sc)), (p3, .inl (cA 0, 10, .inl fam)), (a5, .inl (cA 0, 10, .inl fn36))]) 4 hP hD [5, 6, 7, 8, 9, 1, 0, 10] [2, 3, 4, 11] rfl rfl (by decide) (by decide +kernel) hk1 hFc hP1 hD1 rfl
        generalize H1 = H at hP hS ⊢
        have hP9 := hP.by (ws' := (([(oX9 h0 b0 (nI nb) p0 u0 r0 a0 t0 s0 o0), (s0, .inr (5, [.ref s1, .int (nI qn4), .int (nI qn5)])), (s1, .inl (cA 5, 10, .inr (.inr (.inr (.inr FR))))), (oX0 a0 p0 a1 a3 a4 a5 a6 zn17 zn18 zn19 zn28 zn29 zn30 zn20 zn21 zn22 zn23 zn24 zn25 zn26 zn27), (a1, .inr (6, [.ref a2, .int (nI qn31), .int (nI qn32)])), (a2, .inl (cA 0, 240, .inl fn33)), (a3, .inl (cA 0, 10, .inl fn34)), (a4, .inl (cA 0, 10, .inl fn35)), (a5, .inl (cA 0, 10, .inl fn36)), (a6, .inl (cA 0, 10, .inl fd)), (oX3 p0 pr pb pe pg p1 (nI nd) p2 p3 p4 p5 (nI cn) p6 (nI pq) p7 p8 p9 (nI sc)), (p3, .inl (cA 0, 10, .inl fam))] : va_W) ++ memW cA q fn6 fn7 fn8 fn9 fn10 fn11)) _ (va_part [0, 1, 2, 4, 5, 6, 7, 8, 11, 3, 9, 10] rfl)
        have hD9 := va_D_part (cx := [(oX9 h0 b0 (nI nb) p0 u0 r0 a0 t0 s0 o0), (s0, .inr (5, [.ref s1, .int (nI qn4), .int (nI qn5)])), (s1, .inl (cA 5, 10, .inr (.inr (.inr (.inr FR))))), (oX0 a0 p0 a1 a3 a4 a5 a6 zn17 zn18 zn19 zn28 zn29 zn30 zn20 zn21 zn22 zn23 zn24 zn25 zn26 zn27), (a1, .inr (6, [.ref a2, .int (nI qn31), .int (nI qn32)])), (a2, .inl (cA 0, 240, .inl fn33)), (a3, .inl (cA 0, 10, .inl fn34)), (a4, .inl (cA 0, 10, .inl fn35)), (a5, .inl (cA 0, 10, .inl fn36)), (a6, .inl (cA 0, 10, .inl fd)), (oX3 p0 pr pb pe pg p1 (nI nd) p2 p3 p4 p5 (nI cn) p6 (nI pq) p7 p8 p9 (nI sc)), (p3, .inl (cA 0, 10, .inl fam))]) hD [0, 1, 2, 4, 5, 6, 7, 8, 11, 3, 9, 10] (by decide +kernel) rfl
        refine W.widen (k := 3) (n := 18) (Nat.le_of_ble_eq_true rfl) (Nat.le_of_ble_eq_true rfl) ?_
        exact vx_ret (W.iret (v := rn16) hx hb hr (fun t ht hW => ⟨⟨rn16, (), rfl, trivial, qn4, qn5, fn6, fn7, fn8, fn9, fn10, fn11, zn17, zn18, zn19, zn20, zn21, zn22, zn23, zn24, zn25, zn26, zn27, zn28, zn29, zn30, qn31, qn32, fn33, fn34, fn35, fn36, fd, hn12, hn13, hn14, hn15, hn37, hn38, by rw [ht]; exact hP9, hD9⟩, hS.F ht⟩) hS.2.2 dX9_resolve_38)

set_option maxHeartbeats 4000000 in
set_option maxRecDepth 100000 in
/-- pass -/
theorem s_pass (l : Launch) (D : va_G) (cA : Nat → ClassId) (sa : Nat → Nat) (h0 : Nat) (b0 : Nat) (nb : Nat) (p0 : Nat) (u0 : Nat) (r0 : Nat) (a0 : Nat) (t0 : Nat) (s0 : Nat) (o0 : Nat) (s1 : Nat) (wn : Nat) (wc : Nat) (FR : Nat → Option Nat) (q : Nat → Nat → Nat) (mp : Nat → Nat) (mi : Nat → Nat → Int32) (ml : Nat → Nat → Int64) (mn : Nat → Nat) (mk : Nat → Nat) (mf : Nat → Nat → Nat → Int32) (a1 : Nat) (a2 : Nat) (a3 : Nat) (a4 : Nat) (a5 : Nat) (a6 : Nat) (i6 : Int32) (i7 : Int32) (i8 : Int32) (i12 : Int32) (i13 : Int32) (i14 : Int32) (i15 : Int32) (i16 : Int32) (i17 : Int32) (i18 : Int32) (i19 : Int32) (i9 : Int64) (i10 : Int64) (i11 : Int64) (nx : Nat) (kp : Nat) (fr : Nat → Int32) (fs : Nat → Int32) (fp : Nat → Int32) (ff : Nat → Int32) (fd : Nat → Int32) (p1 : Nat) (p2 : Nat) (p3 : Nat) (p4 : Nat) (p5 : Nat) (p6 : Nat) (p7 : Nat) (p8 : Nat) (p9 : Nat) (cn : Nat) (pq : Nat) (nd : Nat) (sc : Nat) (pr : Int32) (pb : Int32) (pe : Int32) (pg : Int32) (fam : Nat → Int32) (fby : Nat → Int32) (fen : Nat → Int32) (fst : Nat → Int32) (fop : Nat → Int32) (i : Int32) (sz : Nat) (hl9 : l.stackTraces = false) (hnx : nx < 60) (hkp : kp ≤ 60) (hwn : wn < 10) (hwc : wc ≤ 10) (hFR : FRq q FR) (hMB : MB mn mk) (hWin : Win p0 wn wc mp) (hcn : cn ≤ 10) (hpq : pq ≤ 8) (hnd : nd ≤ 6) (hsc : sc ≤ 350) (hby : Rng 10 10 fby) (hen : Rng 10 351 fen) : vx_Met l yX9_pass wsX9_pass ({ frames := 7, cells := 2, slots := 12, locals := 140 }) (va_Pc [.ref h0, .int i] (Wd D cA sa (([(oX9 h0 b0 (nI nb) p0 u0 r0 a0 t0 s0 o0), (s0, .inr (5, [.ref s1, .int (nI wn), .int (nI wc)])), (s1, .inl (cA 5, 10, .inr (.inr (.inr (.inr FR))))), (oX0 a0 p0 a1 a3 a4 a5 a6 i6 i7 i8 i9 i10 i11 i12 i13 i14 i15 i16 i17 i18 i19), (a1, .inr (6, [.ref a2, .int (nI nx), .int (nI kp)])), (a2, .inl (cA 0, 240, .inl fr)), (a3, .inl (cA 0, 10, .inl fs)), (a4, .inl (cA 0, 10, .inl fp)), (a5, .inl (cA 0, 10, .inl ff)), (a6, .inl (cA 0, 10, .inl fd)), (oX3 p0 pr pb pe pg p1 (nI nd) p2 p3 p4 p5 (nI cn) p6 (nI pq) p7 p8 p9 (nI sc)), (p3, .inl (cA 0, 10, .inl fam)), (p5, .inl (cA 0, 10, .inl fby)), (p9, .inl (cA 0, 10, .inl fen)), (p7, .inl (cA 0, 350, .inl fst)), (p8, .inl (cA 0, 350, .inl fop))] : va_W) ++ memW cA q mp mi ml mn mk mf) sz)) (va_Qi (fun (r : Int32) (_ : Unit) => True) (fun (_ : Unit) t => ∃ wn2 : Nat, ∃ wc2 : Nat, ∃ mp2 : Nat → Nat, ∃ mi2 : Nat → Nat → Int32, ∃ ml2 : Nat → Nat → Int64, ∃ mn2 : Nat → Nat, ∃ mk2 : Nat → Nat, ∃ mf2 : Nat → Nat → Nat → Int32, ∃ z6 : Int32, ∃ z7 : Int32, ∃ z8 : Int32, ∃ z12 : Int32, ∃ z13 : Int32, ∃ z14 : Int32, ∃ z15 : Int32, ∃ z16 : Int32, ∃ z17 : Int32, ∃ z18 : Int32, ∃ z19 : Int32, ∃ z9 : Int64, ∃ z10 : Int64, ∃ z11 : Int64, ∃ ny : Nat, ∃ ky : Nat, ∃ zr : Nat → Int32, ∃ zs : Nat → Int32, ∃ zp : Nat → Int32, ∃ zf : Nat → Int32, ∃ zd : Nat → Int32, wn2 < 10 ∧ wc2 ≤ 10 ∧ MB mn2 mk2 ∧ Win p0 wn2 wc2 mp2 ∧ ny < 60 ∧ ky ≤ 60 ∧ Wq D (va_A (([(oX9 h0 b0 (nI nb) p0 u0 r0 a0 t0 s0 o0), (s0, .inr (5, [.ref s1, .int (nI wn), .int (nI wc)])), (s1, .inl (cA 5, 10, .inr (.inr (.inr (.inr FR))))), (oX0 a0 p0 a1 a3 a4 a5 a6 i6 i7 i8 i9 i10 i11 i12 i13 i14 i15 i16 i17 i18 i19), (a1, .inr (6, [.ref a2, .int (nI nx), .int (nI kp)])), (a2, .inl (cA 0, 240, .inl fr)), (a3, .inl (cA 0, 10, .inl fs)), (a4, .inl (cA 0, 10, .inl fp)), (a5, .inl (cA 0, 10, .inl ff)), (a6, .inl (cA 0, 10, .inl fd)), (oX3 p0 pr pb pe pg p1 (nI nd) p2 p3 p4 p5 (nI cn) p6 (nI pq) p7 p8 p9 (nI sc)), (p3, .inl (cA 0, 10, .inl fam)), (p5, .inl (cA 0, 10, .inl fby)), (p9, .inl (cA 0, 10, .inl fen)), (p7, .inl (cA 0, 350, .inl fst)), (p8, .inl (cA 0, 350, .inl fop))] : va_W) ++ memW cA q mp mi ml mn mk mf) sz) (([(oX9 h0 b0 (nI nb) p0 u0 r0 a0 t0 s0 o0), (s0, .inr (5, [.ref s1, .int (nI wn2), .int (nI wc2)])), (s1, .inl (cA 5, 10, .inr (.inr (.inr (.inr FR))))), (oX0 a0 p0 a1 a3 a4 a5 a6 z6 z7 z8 z9 z10 z11 z12 z13 z14 z15 z16 z17 z18 z19), (a1, .inr (6, [.ref a2, .int (nI ny), .int (nI ky)])), (a2, .inl (cA 0, 240, .inl zr)), (a3, .inl (cA 0, 10, .inl zs)), (a4, .inl (cA 0, 10, .inl zp)), (a5, .inl (cA 0, 10, .inl zf)), (a6, .inl (cA 0, 10, .inl zd)), (oX3 p0 pr pb pe pg p1 (nI nd) p2 p3 p4 p5 (nI cn) p6 (nI pq) p7 p8 p9 (nI sc)), (p3, .inl (cA 0, 10, .inl fam)), (p5, .inl (cA 0, 10, .inl fby)), (p9, .inl (cA 0, 10, .inl fen)), (p7, .inl (cA 0, 350, .inl fst)), (p8, .inl (cA 0, 350, .inl fop))] : va_W) ++ memW cA q mp2 mi2 ml2 mn2 mk2 mf2) t) (va_A (([(oX9 h0 b0 (nI nb) p0 u0 r0 a0 t0 s0 o0), (s0, .inr (5, [.ref s1, .int (nI wn), .int (nI wc)])), (s1, .inl (cA 5, 10, .inr (.inr (.inr (.inr FR))))), (oX0 a0 p0 a1 a3 a4 a5 a6 i6 i7 i8 i9 i10 i11 i12 i13 i14 i15 i16 i17 i18 i19), (a1, .inr (6, [.ref a2, .int (nI nx), .int (nI kp)])), (a2, .inl (cA 0, 240, .inl fr)), (a3, .inl (cA 0, 10, .inl fs)), (a4, .inl (cA 0, 10, .inl fp)), (a5, .inl (cA 0, 10, .inl ff)), (a6, .inl (cA 0, 10, .inl fd)), (oX3 p0 pr pb pe pg p1 (nI nd) p2 p3 p4 p5 (nI cn) p6 (nI pq) p7 p8 p9 (nI sc)), (p3, .inl (cA 0, 10, .inl fam)), (p5, .inl (cA 0, 10, .inl fby)), (p9, .inl (cA 0, 10, .inl fen)), (p7, .inl (cA 0, 350, .inl fst)), (p8, .inl (cA 0, 350, .inl fop))] : va_W) ++ memW cA q mp mi ml mn mk mf) sz)) (vx_X (fun _ : Unit => True) (fun E _ t => (E = "java/lang/IllegalArgumentException" ∨ E = "java/lang/IllegalStateException") ∧ Wq D (va_A (([(oX9 h0 b0 (nI nb) p0 u0 r0 a0 t0 s0 o0), (s0, .inr (5, [.ref s1, .int (nI wn), .int (nI wc)])), (s1, .inl (cA 5, 10, .inr (.inr (.inr (.inr FR))))), (oX0 a0 p0 a1 a3 a4 a5 a6 i6 i7 i8 i9 i10 i11 i12 i13 i14 i15 i16 i17 i18 i19), (a1, .inr (6, [.ref a2, .int (nI nx), .int (nI kp)])), (a2, .inl (cA 0, 240, .inl fr)), (a3, .inl (cA 0, 10, .inl fs)), (a4, .inl (cA 0, 10, .inl fp)), (a5, .inl (cA 0, 10, .inl ff)), (a6, .inl (cA 0, 10, .inl fd)), (oX3 p0 pr pb pe pg p1 (nI nd) p2 p3 p4 p5 (nI cn) p6 (nI pq) p7 p8 p9 (nI sc)), (p3, .inl (cA 0, 10, .inl fam)), (p5, .inl (cA 0, 10, .inl fby)), (p9, .inl (cA 0, 10, .inl fen)), (p7, .inl (cA 0, 350, .inl fst)), (p8, .inl (cA 0, 350, .inl fop))] : va_W) ++ memW cA q mp mi ml mn mk mf) sz) (([(oX9 h0 b0 (nI nb) p0 u0 r0 a0 t0 s0 o0), (s0, .inr (5, [.ref s1, .int (nI wn), .int (nI wc)])), (s1, .inl (cA 5, 10, .inr (.inr (.inr (.inr FR))))), (oX0 a0 p0 a1 a3 a4 a5 a6 i6 i7 i8 i9 i10 i11 i12 i13 i14 i15 i16 i17 i18 i19), (a1, .inr (6, [.ref a2, .int (nI nx), .int (nI kp)])), (a2, .inl (cA 0, 240, .inl fr)), (a3, .inl (cA 0, 10, .inl fs)), (a4, .inl (cA 0, 10, .inl fp)), (a5, .inl (cA 0, 10, .inl ff)), (a6, .inl (cA 0, 10, .inl fd)), (oX3 p0 pr pb pe pg p1 (nI nd) p2 p3 p4 p5 (nI cn) p6 (nI pq) p7 p8 p9 (nI sc)), (p3, .inl (cA 0, 10, .inl fam)), (p5, .inl (cA 0, 10, .inl fby)), (p9, .inl (cA 0, 10, .inl fen)), (p7, .inl (cA 0, 350, .inl fst)), (p8, .inl (cA 0, 350, .inl fop))] : va_W) ++ memW cA q mp mi ml mn mk mf) t) (va_A (([(oX9 h0 b0 (nI nb) p0 u0 r0 a0 t0 s0 o0), (s0, .inr (5, [.ref s1, .int (nI wn), .int (nI wc)])), (s1, .inl (cA 5, 10, .inr (.inr (.inr (.inr FR))))), (oX0 a0 p0 a1 a3 a4 a5 a6 i6 i7 i8 i9 i10 i11 i12 i13 i14 i15 i16 i17 i18 i19), (a1, .inr (6, [.ref a2, .int (nI nx), .int (nI kp)])), (a2, .inl (cA 0, 240, .inl fr)), (a3, .inl (cA 0, 10, .inl fs)), (a4, .inl (cA 0, 10, .inl fp)), (a5, .inl (cA 0, 10, .inl ff)), (a6, .inl (cA 0, 10, .inl fd)), (oX3 p0 pr pb pe pg p1 (nI nd) p2 p3 p4 p5 (nI cn) p6 (nI pq) p7 p8 p9 (nI sc)), (p3, .inl (cA 0, 10, .inl fam)), (p5, .inl (cA 0, 10, .inl fby)), (p9, .inl (cA 0, 10, .inl fen)), (p7, .inl (cA 0, 350, .inl fst)), (p8, .inl (cA 0, 350, .inl fop))] : va_W) ++ memW cA q mp mi ml mn mk mf) sz)) 2 12 (va_A (([(oX9 h0 b0 (nI nb) p0 u0 r0 a0 t0 s0 o0), (s0, .inr (5, [.ref s1, .int (nI wn), .int (nI wc)])), (s1, .inl (cA 5, 10, .inr (.inr (.inr (.inr FR))))), (oX0 a0 p0 a1 a3 a4 a5 a6 i6 i7 i8 i9 i10 i11 i12 i13 i14 i15 i16 i17 i18 i19), (a1, .inr (6, [.ref a2, .int (nI nx), .int (nI kp)])), (a2, .inl (cA 0, 240, .inl fr)), (a3, .inl (cA 0, 10, .inl fs)), (a4, .inl (cA 0, 10, .inl fp)), (a5, .inl (cA 0, 10, .inl ff)), (a6, .inl (cA 0, 10, .inl fd)), (oX3 p0 pr pb pe pg p1 (nI nd) p2 p3 p4 p5 (nI cn) p6 (nI pq) p7 p8 p9 (nI sc)), (p3, .inl (cA 0, 10, .inl fam)), (p5, .inl (cA 0, 10, .inl fby)), (p9, .inl (cA 0, 10, .inl fen)), (p7, .inl (cA 0, 350, .inl fst)), (p8, .inl (cA 0, 350, .inl fop))] : va_W) ++ memW cA q mp mi ml mn mk mf) sz) := by
  refine vx_ofW (cc := cX9_pass) (maxL := 3) (ret := (some .int)) (by decide) rfl ?_
  intro p e s m args below meth c s₁ B hml hno hv
  obtain ⟨rfl, hsz, hP, hK, hD0, hC, hZ⟩ := hv
  have hx := B.exec
  have hb := B.bytes
  have hr := B.returns
  have hts := atoms_spec (ws := wsX9_pass) B.pre
  have hown : s.vm.findClass RX9 = some m.cls := findClass_of_methodNamed B.named
  have hlocks := B.notSynchronized
  subst hsz
  have hD := hD0.self (sz := s.heap.size)
  generalize hAe : va_A (([(oX9 h0 b0 (nI nb) p0 u0 r0 a0 t0 s0 o0), (s0, .inr (5, [.ref s1, .int (nI wn), .int (nI wc)])), (s1, .inl (cA 5, 10, .inr (.inr (.inr (.inr FR))))), (oX0 a0 p0 a1 a3 a4 a5 a6 i6 i7 i8 i9 i10 i11 i12 i13 i14 i15 i16 i17 i18 i19), (a1, .inr (6, [.ref a2, .int (nI nx), .int (nI kp)])), (a2, .inl (cA 0, 240, .inl fr)), (a3, .inl (cA 0, 10, .inl fs)), (a4, .inl (cA 0, 10, .inl fp)), (a5, .inl (cA 0, 10, .inl ff)), (a6, .inl (cA 0, 10, .inl fd)), (oX3 p0 pr pb pe pg p1 (nI nd) p2 p3 p4 p5 (nI cn) p6 (nI pq) p7 p8 p9 (nI sc)), (p3, .inl (cA 0, 10, .inl fam)), (p5, .inl (cA 0, 10, .inl fby)), (p9, .inl (cA 0, 10, .inl fen)), (p7, .inl (cA 0, 350, .inl fst)), (p8, .inl (cA 0, 350, .inl fop))] : va_W) ++ memW cA q mp mi ml mn mk mf) s.heap.size = A at hD hZ ⊢
  have hA : ∀ q : Nat, s.heap.size ≤ q → A q := fun q h => by rw [← hAe]; exact Or.inr h
  have hS : va_S A s.heap s.heap [] := va_S.rf
  have hP : va_P D vwCl (([(oX9 h0 b0 (nI nb) p0 u0 r0 a0 t0 s0 o0), (s0, .inr (5, [.ref s1, .int (nI wn), .int (nI wc)])), (s1, .inl (cA 5, 10, .inr (.inr (.inr (.inr FR))))), (oX0 a0 p0 a1 a3 a4 a5 a6 i6 i7 i8 i9 i10 i11 i12 i13 i14 i15 i16 i17 i18 i19), (a1, .inr (6, [.ref a2, .int (nI nx), .int (nI kp)])), (a2, .inl (cA 0, 240, .inl fr)), (a3, .inl (cA 0, 10, .inl fs)), (a4, .inl (cA 0, 10, .inl fp)), (a5, .inl (cA 0, 10, .inl ff)), (a6, .inl (cA 0, 10, .inl fd)), (oX3 p0 pr pb pe pg p1 (nI nd) p2 p3 p4 p5 (nI cn) p6 (nI pq) p7 p8 p9 (nI sc)), (p3, .inl (cA 0, 10, .inl fam)), (p5, .inl (cA 0, 10, .inl fby)), (p9, .inl (cA 0, 10, .inl fen)), (p7, .inl (cA 0, 350, .inl fst)), (p8, .inl (cA 0, 350, .inl fop))] : va_W) ++ memW cA q mp mi ml mn mk mf) s.heap := hP
  have hl := lv_entry ([.ref h0, .int i]) (n := 3) (Nat.le_of_ble_eq_true rfl)
  rw [lg_entry_eq]
  generalize (lg_sl ([.ref h0, .int i]) ++ List.replicate (3 - (lg_sl ([.ref h0, .int i])).length) Slot.unset).toArray = ls at hl ⊢
  have hl : lv_has ls 3 [(0, .ref h0), (1, .int i)] := hl
  have inX0 : ∀ w ∈ u_ws RX0 TX0 20, w ∈ wsX9_pass := by decide +kernel
  have inX9 : ∀ w ∈ u_ws RX9 TX9 9, w ∈ wsX9_pass := by decide +kernel
  refine lv_iload_n hx hb dX9_pass_0 rfl (lv_at hl 1 rfl) ?_
  refine lv_iconst (v := 1) hx hb dX9_pass_1 (by decide) ?_
  refine lv_bipush (v := 120) hx hb dX9_pass_2 (by decide) ?_
  obtain ⟨hPc, hDc, hFc⟩ := PDq.cut (wc := []) (cq_P hP) (cq_D hD) hS hA [] (by decide) rfl
  refine vx_callv (vx_runS (As := [.int i, .int 1, .int 120]) (rest := []) ⟨hx, hb, hml, hown, hts⟩ (s_needRangeN l D cA sa i 1 120 s.heap.size hl9 (by omega) (by omega)) (va_cwS 3 hts gX9_pass_X9_needRange rfl rfl rfl (by decide +kernel) ⟨(Nat.le_of_ble_eq_true rfl), (Nat.le_of_ble_eq_true rfl)⟩) ⟨Wd.blind, fun U hU hW => ⟨rfl, Wd.call hPc hDc hK hC hZ hS hFc U hU hW⟩⟩ rfl rfl hl.1 rfl (lv_room (Nat.le_of_ble_eq_true rfl)) dX9_pass_4 ⟨(Nat.le_of_ble_eq_true rfl), (Nat.le_of_ble_eq_true rfl)⟩) hS (fun q _ h => hFc q h) hFc (fun q _ h => hFc q h) (fun E ce q9 u t H1 locs ht hvm hpx hE hz1 hk1 hS hcell hv9 hcl => ?_) (fun u t H1 locs ht hvm hw hB hz1 hk1 hS => ?_)
  · skip
    obtain ⟨hE, hP1, hD1⟩ := hE
    rw [ht] at hP1
    obtain ⟨hP, hD⟩ := PDq.joinQ (w := [(oX9 h0 b0 (nI nb) p0 u0 r0 a0 t0 s0 o0), (s0, .inr (5, [.ref s1, .int (nI wn), .int (nI wc)])), (s1, .inl (cA 5, 10, .inr (.inr (.inr (.inr FR))))), (oX0 a0 p0 a1 a3 a4 a5 a6 i6 i7 i8 i9 i10 i11 i12 i13 i14 i15 i16 i17 i18 i19), (a1, .inr (6, [.ref a2, .int (nI nx), .int (nI kp)])), (a2, .inl (cA 0, 240, .inl fr)), (a3, .inl (cA 0, 10, .inl fs)), (a4, .inl (cA 0, 10, .inl fp)), (a5, .inl (cA 0, 10, .inl ff)), (a6, .inl (cA 0, 10, .inl fd)), (oX3 p0 pr pb pe pg p1 (nI nd) p2 p3 p4 p5 (nI cn) p6 (nI pq) p7 p8 p9 (nI sc)), (p3, .inl (cA 0, 10, .inl fam)), (p5, .inl (cA 0, 10, .inl fby)), (p9, .inl (cA 0, 10, .inl fen)), (p7, .inl (cA 0, 350, .inl fst)), (p8, .inl (cA 0, 350, .inl fop))]) 16 hP hD [] [0, 1, 2, 3, 4, 5, 6, 7, 8, 9, 10, 11, 12, 13, 14, 15] rfl rfl (by decide +kernel) (by decide +kernel) hk1 hFc hP1 hD1 rfl
    generalize H1 = H at hP hS hcell ⊢
    have hP9 := hP.by (ws' := (([(oX9 h0 b0 (nI nb) p0 u0 r0 a0 t0 s0 o0), (s0, .inr (5, [.ref s1, .int (nI wn), .int (nI wc)])), (s1, .inl (cA 5, 10, .inr (.inr (.inr (.inr FR))))), (oX0 a0 p0 a1 a3 a4 a5 a6 i6 i7 i8 i9 i10 i11 i12 i13 i14 i15 i16 i17 i18 i19), (a1, .inr (6, [.ref a2, .int (nI nx), .int (nI kp)])), (a2, .inl (cA 0, 240, .inl fr)), (a3, .inl (cA 0, 10, .inl fs)), (a4, .inl (cA 0, 10, .inl fp)), (a5, .inl (cA 0, 10, .inl ff)), (a6, .inl (cA 0, 10, .inl fd)), (oX3 p0 pr pb pe pg p1 (nI nd) p2 p3 p4 p5 (nI cn) p6 (nI pq) p7 p8 p9 (nI sc)), (p3, .inl (cA 0, 10, .inl fam)), (p5, .inl (cA 0, 10, .inl fby)), (p9, .inl (cA 0, 10, .inl fen)), (p7, .inl (cA 0, 350, .inl fst)), (p8, .inl (cA 0, 350, .inl fop))] : va_W) ++ memW cA q mp mi ml mn mk mf)) _ (va_part [0, 1, 2, 3, 4, 5, 6, 7, 8, 9, 10, 11, 12, 13, 14, 15] rfl)
    have hD9 := va_D_part (cx := [(oX9 h0 b0 (nI nb) p0 u0 r0 a0 t0 s0 o0), (s0, .inr (5, [.ref s1, .int (nI wn), .int (nI wc)])), (s1, .inl (cA 5, 10, .inr (.inr (.inr (.inr FR))))), (oX0 a0 p0 a1 a3 a4 a5 a6 i6 i7 i8 i9 i10 i11 i12 i13 i14 i15 i16 i17 i18 i19), (a1, .inr (6, [.ref a2, .int (nI nx), .int (nI kp)])), (a2, .inl (cA 0, 240, .inl fr)), (a3, .inl (cA 0, 10, .inl fs)), (a4, .inl (cA 0, 10, .inl fp)), (a5, .inl (cA 0, 10, .inl ff)), (a6, .inl (cA 0, 10, .inl fd)), (oX3 p0 pr pb pe pg p1 (nI nd) p2 p3 p4 p5 (nI cn) p6 (nI pq) p7 p8 p9 (nI sc)), (p3, .inl (cA 0, 10, .inl fam)), (p5, .inl (cA 0, 10, .inl fby)), (p9, .inl (cA 0, 10, .inl fen)), (p7, .inl (cA 0, 350, .inl fst)), (p8, .inl (cA 0, 350, .inl fop))]) hD [0, 1, 2, 3, 4, 5, 6, 7, 8, 9, 10, 11, 12, 13, 14, 15] (by decide +kernel) rfl
    exact vx_out (fun x h => (hno x h).elim) hlocks hcell hv9 hcl (fun t ht hvm => ⟨(), trivial, ⟨(by rw [hE]; simp), by rw [ht]; exact hP9, hD9⟩, hS.F ht⟩) hS.2.2 (Nat.le_of_ble_eq_true rfl) (Nat.le_of_ble_eq_true rfl)
  · skip
    obtain ⟨qn1, hn2, hn3, hn4, hP1, hD1⟩ := hB
    rw [ht] at hP1
    obtain ⟨hP, hD⟩ := PDq.joinQ (w := [(oX9 h0 b0 (nI nb) p0 u0 r0 a0 t0 s0 o0), (s0, .inr (5, [.ref s1, .int (nI wn), .int (nI wc)])), (s1, .inl (cA 5, 10, .inr (.inr (.inr (.inr FR))))), (oX0 a0 p0 a1 a3 a4 a5 a6 i6 i7 i8 i9 i10 i11 i12 i13 i14 i15 i16 i17 i18 i19), (a1, .inr (6, [.ref a2, .int (nI nx), .int (nI kp)])), (a2, .inl (cA 0, 240, .inl fr)), (a3, .inl (cA 0, 10, .inl fs)), (a4, .inl (cA 0, 10, .inl fp)), (a5, .inl (cA 0, 10, .inl ff)), (a6, .inl (cA 0, 10, .inl fd)), (oX3 p0 pr pb pe pg p1 (nI nd) p2 p3 p4 p5 (nI cn) p6 (nI pq) p7 p8 p9 (nI sc)), (p3, .inl (cA 0, 10, .inl fam)), (p5, .inl (cA 0, 10, .inl fby)), (p9, .inl (cA 0, 10, .inl fen)), (p7, .inl (cA 0, 350, .inl fst)), (p8, .inl (cA 0, 350, .inl fop))]) 16 hP hD [] [0, 1, 2, 3, 4, 5, 6, 7, 8, 9, 10, 11, 12, 13, 14, 15] rfl rfl (by decide +kernel) (by decide +kernel) hk1 hFc hP1 hD1 rfl
    generalize H1 = H at hP hS ⊢
    rw [hn4] at hl
    have hl : lv_has ls 3 [(0, .ref h0), (1, .int (nI qn1))] := hl
    refine lv_aload_n hx hb dX9_pass_7 rfl (lv_at hl 0 rfl) ?_
    refine va_get (D := D) (ci := 10) (v := .ref a0) (C := RX9) (T := TX9) (N := 9) hx hb hts inX9 hown hK hP 0 rfl rfl 5 (by decide) (hts (.fieldLink RX9 35 "EscrowDesk" "account" "LEscrowDesk$Account;") (by decide +kernel)) (fun _ h9 => h9) rfl dX9_pass_8 ?_
    refine va_getN (D := D) (ci := 4) (v := .int i6) (C := RX0) (T := TX0) (N := 20) hx hb hts inX0 hown hK hP 3 rfl rfl 6 (by decide) (hC.f (A := _) (a := RX9) (i := 87) (b := "EscrowDesk$Account") (n := "day") (d := "I") (x := "EscrowDesk") (by decide +kernel)) (fun _ h9 => h9) rfl dX9_pass_11 ?_
    refine lv_iload_n hx hb dX9_pass_14 rfl (lv_at hl 1 rfl) ?_
    refine lv_iadd hx hb dX9_pass_15 ?_
    refine lv_topi (fun yn5 eyn5 => ?_)
    refine lv_sipush (v := 9999) hx hb dX9_pass_16 (by decide) ?_
    refine lv_icmp_gt (tgt := 26) hx hb dX9_pass_19 (by decide) (fun c6 => ?_) (fun c6 => ?_)
    · skip
      refine lv_iconst (v := 0) hx hb dX9_pass_26 (by decide) ?_
      obtain ⟨hPc, hDc, hFc⟩ := PDq.cut (wc := []) (cq_P hP) (cq_D hD) hS hA [] (by decide) rfl
      refine vx_callv (vx_runS (As := [.int 0]) (rest := []) ⟨hx, hb, hml, hown, hts⟩ (s_needPossible0 l D cA sa  H.size hl9) (va_cwS 1 hts gX9_pass_X9_needPossible rfl rfl rfl (by decide +kernel) ⟨(Nat.le_of_ble_eq_true rfl), (Nat.le_of_ble_eq_true rfl)⟩) ⟨Wd.blind, fun U hU hW => ⟨rfl, Wd.call hPc hDc hK hC hZ hS hFc U hU hW⟩⟩ rfl rfl hl.1 rfl (lv_room (Nat.le_of_ble_eq_true rfl)) dX9_pass_27 ⟨(Nat.le_of_ble_eq_true rfl), (Nat.le_of_ble_eq_true rfl)⟩) hS (fun q _ h => hFc q h) hFc (fun q _ h => hFc q h) (fun E ce q9 u t H1 locs ht hvm hpx hE hz1 hk1 hS hcell hv9 hcl => ?_) (fun u t H1 locs ht hvm hw hB hz1 hk1 hS => ?_)
      · skip
        obtain ⟨hE, hP1, hD1⟩ := hE
        rw [ht] at hP1
        obtain ⟨hP, hD⟩ := PDq.joinQ (w := [(oX9 h0 b0 (nI nb) p0 u0 r0 a0 t0 s0 o0), (s0, .inr (5, [.ref s1, .int (nI wn), .int (nI wc)])), (s1, .inl (cA 5, 10, .inr (.inr (.inr (.inr FR))))), (oX0 a0 p0 a1 a3 a4 a5 a6 i6 i7 i8 i9 i10 i11 i12 i13 i14 i15 i16 i17 i18 i19), (a1, .inr (6, [.ref a2, .int (nI nx), .int (nI kp)])), (a2, .inl (cA 0, 240, .inl fr)), (a3, .inl (cA 0, 10, .inl fs)), (a4, .inl (cA 0, 10, .inl fp)), (a5, .inl (cA 0, 10, .inl ff)), (a6, .inl (cA 0, 10, .inl fd)), (oX3 p0 pr pb pe pg p1 (nI nd) p2 p3 p4 p5 (nI cn) p6 (nI pq) p7 p8 p9 (nI sc)), (p3, .inl (cA 0, 10, .inl fam)), (p5, .inl (cA 0, 10, .inl fby)), (p9, .inl (cA 0, 10, .inl fen)), (p7, .inl (cA 0, 350, .inl fst)), (p8, .inl (cA 0, 350, .inl fop))]) 16 hP hD [] [0, 1, 2, 3, 4, 5, 6, 7, 8, 9, 10, 11, 12, 13, 14, 15] rfl rfl (by decide +kernel) (by decide +kernel) hk1 hFc hP1 hD1 rfl
        generalize H1 = H at hP hS hcell ⊢
        have hP9 := hP.by (ws' := (([(oX9 h0 b0 (nI nb) p0 u0 r0 a0 t0 s0 o0), (s0, .inr (5, [.ref s1, .int (nI wn), .int (nI wc)])), (s1, .inl (cA 5, 10, .inr (.inr (.inr (.inr FR))))), (oX0 a0 p0 a1 a3 a4 a5 a6 i6 i7 i8 i9 i10 i11 i12 i13 i14 i15 i16 i17 i18 i19), (a1, .inr (6, [.ref a2, .int (nI nx), .int (nI kp)])), (a2, .inl (cA 0, 240, .inl fr)), (a3, .inl (cA 0, 10, .inl fs)), (a4, .inl (cA 0, 10, .inl fp)), (a5, .inl (cA 0, 10, .inl ff)), (a6, .inl (cA 0, 10, .inl fd)), (oX3 p0 pr pb pe pg p1 (nI nd) p2 p3 p4 p5 (nI cn) p6 (nI pq) p7 p8 p9 (nI sc)), (p3, .inl (cA 0, 10, .inl fam)), (p5, .inl (cA 0, 10, .inl fby)), (p9, .inl (cA 0, 10, .inl fen)), (p7, .inl (cA 0, 350, .inl fst)), (p8, .inl (cA 0, 350, .inl fop))] : va_W) ++ memW cA q mp mi ml mn mk mf)) _ (va_part [0, 1, 2, 3, 4, 5, 6, 7, 8, 9, 10, 11, 12, 13, 14, 15] rfl)
        have hD9 := va_D_part (cx := [(oX9 h0 b0 (nI nb) p0 u0 r0 a0 t0 s0 o0), (s0, .inr (5, [.ref s1, .int (nI wn), .int (nI wc)])), (s1, .inl (cA 5, 10, .inr (.inr (.inr (.inr FR))))), (oX0 a0 p0 a1 a3 a4 a5 a6 i6 i7 i8 i9 i10 i11 i12 i13 i14 i15 i16 i17 i18 i19), (a1, .inr (6, [.ref a2, .int (nI nx), .int (nI kp)])), (a2, .inl (cA 0, 240, .inl fr)), (a3, .inl (cA 0, 10, .inl fs)), (a4, .inl (cA 0, 10, .inl fp)), (a5, .inl (cA 0, 10, .inl ff)), (a6, .inl (cA 0, 10, .inl fd)), (oX3 p0 pr pb pe pg p1 (nI nd) p2 p3 p4 p5 (nI cn) p6 (nI pq) p7 p8 p9 (nI sc)), (p3, .inl (cA 0, 10, .inl fam)), (p5, .inl (cA 0, 10, .inl fby)), (p9, .inl (cA 0, 10, .inl fen)), (p7, .inl (cA 0, 350, .inl fst)), (p8, .inl (cA 0, 350, .inl fop))]) hD [0, 1, 2, 3, 4, 5, 6, 7, 8, 9, 10, 11, 12, 13, 14, 15] (by decide +kernel) rfl
        exact vx_out (fun x h => (hno x h).elim) hlocks hcell hv9 hcl (fun t ht hvm => ⟨(), trivial, ⟨(by rw [hE]; simp), by rw [ht]; exact hP9, hD9⟩, hS.F ht⟩) hS.2.2 (Nat.le_of_ble_eq_true rfl) (Nat.le_of_ble_eq_true rfl)
      · skip
        exact hw.elim
    · skip
      refine lv_iconst (v := 1) hx hb dX9_pass_22 (by decide) ?_
      refine lv_goto (tgt := 27) hx hb dX9_pass_23 (by decide) ?_
      obtain ⟨hPc, hDc, hFc⟩ := PDq.cut (wc := []) (cq_P hP) (cq_D hD) hS hA [] (by decide) rfl
      refine va_callv (va_runS (As := [.int 1]) (rest := []) ⟨hx, hb, hml, hown, hts⟩ (s_needPossible1 l D cA sa  H.size) (va_cwS 1 hts gX9_pass_X9_needPossible rfl rfl rfl (by decide +kernel) ⟨(Nat.le_of_ble_eq_true rfl), (Nat.le_of_ble_eq_true rfl)⟩) ⟨Wd.blind, fun U hU hW => ⟨rfl, Wd.call hPc hDc hK hC hZ hS hFc U hU hW⟩⟩ rfl rfl hl.1 rfl (lv_room (Nat.le_of_ble_eq_true rfl)) dX9_pass_27 ⟨(Nat.le_of_ble_eq_true rfl), (Nat.le_of_ble_eq_true rfl)⟩) hS (fun q _ h => hFc q h) hFc (fun u t H1 locs ht hvm hw hB hz1 hk1 hS => ?_)
      obtain ⟨hP1, hD1⟩ := hB
      rw [ht] at hP1
      obtain ⟨hP, hD⟩ := PDq.joinQ (w := [(oX9 h0 b0 (nI nb) p0 u0 r0 a0 t0 s0 o0), (s0, .inr (5, [.ref s1, .int (nI wn), .int (nI wc)])), (s1, .inl (cA 5, 10, .inr (.inr (.inr (.inr FR))))), (oX0 a0 p0 a1 a3 a4 a5 a6 i6 i7 i8 i9 i10 i11 i12 i13 i14 i15 i16 i17 i18 i19), (a1, .inr (6, [.ref a2, .int (nI nx), .int (nI kp)])), (a2, .inl (cA 0, 240, .inl fr)), (a3, .inl (cA 0, 10, .inl fs)), (a4, .inl (cA 0, 10, .inl fp)), (a5, .inl (cA 0, 10, .inl ff)), (a6, .inl (cA 0, 10, .inl fd)), (oX3 p0 pr pb pe pg p1 (nI nd) p2 p3 p4 p5 (nI cn) p6 (nI pq) p7 p8 p9 (nI sc)), (p3, .inl (cA 0, 10, .inl fam)), (p5, .inl (cA 0, 10, .inl fby)), (p9, .inl (cA 0, 10, .inl fen)), (p7, .inl (cA 0, 350, .inl fst)), (p8, .inl (cA 0, 350, .inl fop))]) 16 hP hD [] [0, 1, 2, 3, 4, 5, 6, 7, 8, 9, 10, 11, 12, 13, 14, 15] rfl rfl (by decide +kernel) (by decide +kernel) hk1 hFc hP1 hD1 rfl
      generalize H1 = H at hP hS ⊢
      refine lv_aload_n hx hb dX9_pass_30 rfl (lv_at hl 0 rfl) ?_
      refine va_get (D := D) (ci := 10) (v := .ref s0) (C := RX9) (T := TX9) (N := 9) hx hb hts inX9 hown hK hP 0 rfl rfl 7 (by decide) (hts (.fieldLink RX9 45 "EscrowDesk" "history" "LEscrowDesk$History;") (by decide +kernel)) (fun _ h9 => h9) rfl dX9_pass_31 ?_
      refine lv_aload_n hx hb dX9_pass_34 rfl (lv_at hl 0 rfl) ?_
      refine va_get (D := D) (ci := 10) (v := .ref a0) (C := RX9) (T := TX9) (N := 9) hx hb hts inX9 hown hK hP 0 rfl rfl 5 (by decide) (hts (.fieldLink RX9 35 "EscrowDesk" "account" "LEscrowDesk$Account;") (by decide +kernel)) (fun _ h9 => h9) rfl dX9_pass_35 ?_
      have hPc := hP.by (ws' := (([(s0, .inr (5, [.ref s1, .int (nI wn), .int (nI wc)])), (s1, .inl (cA 5, 10, .inr (.inr (.inr (.inr FR))))), (oX0 a0 p0 a1 a3 a4 a5 a6 i6 i7 i8 i9 i10 i11 i12 i13 i14 i15 i16 i17 i18 i19), (a1, .inr (6, [.ref a2, .int (nI nx), .int (nI kp)])), (a2, .inl (cA 0, 240, .inl fr)), (a3, .inl (cA 0, 10, .inl fs)), (a4, .inl (cA 0, 10, .inl fp)), (a5, .inl (cA 0, 10, .inl ff)), (a6, .inl (cA 0, 10, .inl fd))] : va_W) ++ memW cA q mp mi ml mn mk mf)) _ (va_part [1, 2, 3, 4, 5, 6, 7, 8, 9] rfl)
      have hDc := va_D_part (cx := [(s0, .inr (5, [.ref s1, .int (nI wn), .int (nI wc)])), (s1, .inl (cA 5, 10, .inr (.inr (.inr (.inr FR))))), (oX0 a0 p0 a1 a3 a4 a5 a6 i6 i7 i8 i9 i10 i11 i12 i13 i14 i15 i16 i17 i18 i19), (a1, .inr (6, [.ref a2, .int (nI nx), .int (nI kp)])), (a2, .inl (cA 0, 240, .inl fr)), (a3, .inl (cA 0, 10, .inl fs)), (a4, .inl (cA 0, 10, .inl fp)), (a5, .inl (cA 0, 10, .inl ff)), (a6, .inl (cA 0, 10, .inl fd))]) hD [1, 2, 3, 4, 5, 6, 7, 8, 9] (by decide +kernel) rfl
      have hFc := va_freeP (cx := [(s0, .inr (5, [.ref s1, .int (nI wn), .int (nI wc)])), (s1, .inl (cA 5, 10, .inr (.inr (.inr (.inr FR))))), (oX0 a0 p0 a1 a3 a4 a5 a6 i6 i7 i8 i9 i10 i11 i12 i13 i14 i15 i16 i17 i18 i19), (a1, .inr (6, [.ref a2, .int (nI nx), .int (nI kp)])), (a2, .inl (cA 0, 240, .inl fr)), (a3, .inl (cA 0, 10, .inl fs)), (a4, .inl (cA 0, 10, .inl fp)), (a5, .inl (cA 0, 10, .inl ff)), (a6, .inl (cA 0, 10, .inl fd))]) hD hS hA [1, 2, 3, 4, 5, 6, 7, 8, 9] rfl
      refine va_callv (va_runV (As := [.ref a0]) (rest := []) ⟨hx, hb, hml, hown, hts⟩ (s_remember l D cA sa s0 s1 wn wc FR q mp mi ml mn mk mf a0 a1 a2 a3 a4 a5 a6 p0 i6 i7 i8 i12 i13 i14 i15 i16 i17 i18 i19 i9 i10 i11 nx kp fr fs fp ff fd H.size hnx hkp hwn hwc hFR hMB hWin) (cwV 1 hts gX9_pass_X1_remember rfl rfl rfl (by decide +kernel) ⟨(Nat.le_of_ble_eq_true rfl), (Nat.le_of_ble_eq_true rfl)⟩) ⟨Wd.blind, va_recv hK hPc (ci := 5) (q0 := 0) rfl rfl, fun U hU hW => ⟨rfl, Wd.call hPc hDc hK hC hZ hS hFc U hU hW⟩⟩ rfl rfl hl.1 rfl (lv_room (Nat.le_of_ble_eq_true rfl)) dX9_pass_38 ⟨(Nat.le_of_ble_eq_true rfl), (Nat.le_of_ble_eq_true rfl)⟩) hS (fun q _ h => hFc q h) hFc (fun u t H1 locs ht hvm hw hB hz1 hk1 hS => ?_)
      obtain ⟨qn7, qn8, fn9, fn10, fn11, fn12, fn13, fn14, hn15, hn16, hn17, hn18, hP1, hD1⟩ := hB
      rw [ht] at hP1
      obtain ⟨hP, hD⟩ := va_joinP (wr := [(oX9 h0 b0 (nI nb) p0 u0 r0 a0 t0 s0 o0), (oX3 p0 pr pb pe pg p1 (nI nd) p2 p3 p4 p5 (nI cn) p6 (nI pq) p7 p8 p9 (nI sc)), (p3, .inl (cA 0, 10, .inl fam)), (p5, .inl (cA 0, 10, .inl fby)), (p9, .inl (cA 0, 10, .inl fen)), (p7, .inl (cA 0, 350, .inl fst)), (p8, .inl (cA 0, 350, .inl fop))]) (rx := [(s0, .inr (5, [.ref s1, .int (nI qn7), .int (nI qn8)])), (s1, .inl (cA 5, 10, .inr (.inr (.inr (.inr FR))))), (oX0 a0 p0 a1 a3 a4 a5 a6 i6 i7 i8 i9 i10 i11 i12 i13 i14 i15 i16 i17 i18 i19), (a1, .inr (6, [.ref a2, .int (nI nx), .int (nI kp)])), (a2, .inl (cA 0, 240, .inl fr)), (a3, .inl (cA 0, 10, .inl fs)), (a4, .inl (cA 0, 10, .inl fp)), (a5, .inl (cA 0, 10, .inl ff)), (a6, .inl (cA 0, 10, .inl fd))]) (pl1 := memW cA q fn9 fn10 fn11 fn12 fn13 fn14) hP hD [1, 2, 3, 4, 5, 6, 7, 8, 9] [0, 10, 11, 12, 13, 14, 15] rfl rfl (by decide) (by decide +kernel) hk1 hFc hP1 hD1
      generalize H1 = H at hP hS ⊢
      obtain ⟨hP, hD⟩ : PDq D A (([(oX9 h0 b0 (nI nb) p0 u0 r0 a0 t0 s0 o0), (oX3 p0 pr pb pe pg p1 (nI nd) p2 p3 p4 p5 (nI cn) p6 (nI pq) p7 p8 p9 (nI sc)), (p3, .inl (cA 0, 10, .inl fam)), (p5, .inl (cA 0, 10, .inl fby)), (p9, .inl (cA 0, 10, .inl fen)), (p7, .inl (cA 0, 350, .inl fst)), (p8, .inl (cA 0, 350, .inl fop)), (s0, .inr (5, [.ref s1, .int (nI qn7), .int (nI qn8)])), (s1, .inl (cA 5, 10, .inr (.inr (.inr (.inr FR))))), (oX0 a0 p0 a1 a3 a4 a5 a6 i6 i7 i8 i9 i10 i11 i12 i13 i14 i15 i16 i17 i18 i19), (a1, .inr (6, [.ref a2, .int (nI nx), .int (nI kp)])), (a2, .inl (cA 0, 240, .inl fr)), (a3, .inl (cA 0, 10, .inl fs)), (a4, .inl (cA 0, 10, .inl fp)), (a5, .inl (cA 0, 10, .inl ff)), (a6, .inl (cA 0, 10, .inl fd))] : va_W) ++ memW cA q fn9 fn10 fn11 fn12 fn13 fn14) H := ⟨hP, hD⟩
      refine lv_aload_n hx hb dX9_pass_41 rfl (lv_at hl 0 rfl) ?_
      refine va_get (D := D) (ci := 10) (v := .ref a0) (C := RX9) (T := TX9) (N := 9) hx hb hts inX9 hown hK hP 0 rfl rfl 5 (by decide) (hts (.fieldLink RX9 35 "EscrowDesk" "account" "LEscrowDesk$Account;") (by decide +kernel)) (fun _ h9 => h9) rfl dX9_pass_42 ?_
      obtain ⟨hPc, hDc, hFc⟩ := PDq.cut (wc := [(oX0 a0 p0 a1 a3 a4 a5 a6 i6 i7 i8 i9 i10 i11 i12 i13 i14 i15 i16 i17 i18 i19)]) (cq_P hP) (cq_D hD) hS hA [9] (by decide) rfl
      refine va_calli (va_runV (As := []) (rest := []) ⟨hx, hb, hml, hown, hts⟩ (s_payments l D cA sa a0 a1 a3 a4 a5 a6 p0 i6 i7 i8 i12 i13 i14 i15 i16 i17 i18 i19 i9 i10 i11 H.size) (cwV 0 hts gX9_pass_X0_payments rfl rfl rfl (by decide +kernel) ⟨(Nat.le_of_ble_eq_true rfl), (Nat.le_of_ble_eq_true rfl)⟩) ⟨Wd.blind, va_recv hK hPc (ci := 4) (q0 := 0) rfl rfl, fun U hU hW => ⟨rfl, Wd.call hPc hDc hK hC hZ hS hFc U hU hW⟩⟩ rfl rfl hl.1 rfl (lv_room (Nat.le_of_ble_eq_true rfl)) dX9_pass_45 ⟨(Nat.le_of_ble_eq_true rfl), (Nat.le_of_ble_eq_true rfl)⟩) hS (fun q _ h => hFc q h) hFc (fun rn19 u t H1 locs ht hvm hw hB hz1 hk1 hS => ?_)
      obtain ⟨hP1, hD1⟩ := hB
      rw [ht] at hP1
      obtain ⟨hP, hD⟩ := PDq.joinQ (w := [(oX9 h0 b0 (nI nb) p0 u0 r0 a0 t0 s0 o0), (oX3 p0 pr pb pe pg p1 (nI nd) p2 p3 p4 p5 (nI cn) p6 (nI pq) p7 p8 p9 (nI sc)), (p3, .inl (cA 0, 10, .inl fam)), (p5, .inl (cA 0, 10, .inl fby)), (p9, .inl (cA 0, 10, .inl fen)), (p7, .inl (cA 0, 350, .inl fst)), (p8, .inl (cA 0, 350, .inl fop)), (s0, .inr (5, [.ref s1, .int (nI qn7), .int (nI qn8)])), (s1, .inl (cA 5, 10, .inr (.inr (.inr (.inr FR))))), (a1, .inr (6, [.ref a2, .int (nI nx), .int (nI kp)])), (a2, .inl (cA 0, 240, .inl fr)), (a3, .inl (cA 0, 10, .inl fs)), (a4, .inl (cA 0, 10, .inl fp)), (a5, .inl (cA 0, 10, .inl ff)), (a6, .inl (cA 0, 10, .inl fd)), (oX0 a0 p0 a1 a3 a4 a5 a6 i6 i7 i8 i9 i10 i11 i12 i13 i14 i15 i16 i17 i18 i19)]) 15 hP hD [9] [0, 1, 2, 3, 4, 5, 6, 7, 8, 10, 11, 12, 13, 14, 15] rfl rfl (by decide +kernel) (by decide +kernel) hk1 hFc hP1 hD1 rfl
      generalize H1 = H at hP hS ⊢
      refine lv_istore_n (lv' := [(2, .int rn19), (0, .ref h0), (1, .int (nI qn1))]) hx hb dX9_pass_48 rfl hl (by decide) rfl (fun ls hl => ?_)
      refine lv_aload_n hx hb dX9_pass_49 rfl (lv_at hl 1 rfl) ?_
      refine va_get (D := D) (ci := 10) (v := .ref a0) (C := RX9) (T := TX9) (N := 9) hx hb hts inX9 hown hK hP 0 rfl rfl 5 (by decide) (hts (.fieldLink RX9 35 "EscrowDesk" "account" "LEscrowDesk$Account;") (by decide +kernel)) (fun _ h9 => h9) rfl dX9_pass_50 ?_
      refine lv_iload_n hx hb dX9_pass_53 rfl (lv_at hl 2 rfl) ?_
      obtain ⟨hPc, hDc, hFc⟩ := PDq.cut (wc := [(oX0 a0 p0 a1 a3 a4 a5 a6 i6 i7 i8 i9 i10 i11 i12 i13 i14 i15 i16 i17 i18 i19), (a1, .inr (6, [.ref a2, .int (nI nx), .int (nI kp)])), (a2, .inl (cA 0, 240, .inl fr)), (a3, .inl (cA 0, 10, .inl fs)), (a4, .inl (cA 0, 10, .inl fp)), (a5, .inl (cA 0, 10, .inl ff)), (a6, .inl (cA 0, 10, .inl fd)), (oX3 p0 pr pb pe pg p1 (nI nd) p2 p3 p4 p5 (nI cn) p6 (nI pq) p7 p8 p9 (nI sc)), (p3, .inl (cA 0, 10, .inl fam)), (p5, .inl (cA 0, 10, .inl fby)), (p9, .inl (cA 0, 10, .inl fen)), (p7, .inl (cA 0, 350, .inl fst)), (p8, .inl (cA 0, 350, .inl fop))]) (cq_P hP) (cq_D hD) hS hA [15, 9, 10, 11, 12, 13, 14, 1, 2, 3, 4, 5, 6] (by decide +kernel) rfl
      refine va_callv (va_runV (As := [.int (nI qn1)]) (rest := []) ⟨hx, hb, hml, hown, hts⟩ (s_liveDays l D cA sa a0 a1 a2 a3 a4 a5 a6 p0 i6 i7 i8 i12 i13 i14 i15 i16 i17 i18 i19 i9 i10 i11 nx kp fr p1 p2 p3 p4 p5 p6 p7 p8 p9 cn pq nd sc pr pb pe pg fs fp ff fd fam fby fen fst fop qn1 H.size hnx hkp hcn hpq hnd hsc hby hen hn3) (cwV 1 hts gX9_pass_X0_liveDays rfl rfl rfl (by decide +kernel) ⟨(Nat.le_of_ble_eq_true rfl), (Nat.le_of_ble_eq_true rfl)⟩) ⟨Wd.blind, va_recv hK hPc (ci := 4) (q0 := 0) rfl rfl, fun U hU hW => ⟨rfl, Wd.call hPc hDc hK hC hZ hS hFc U hU hW⟩⟩ rfl rfl hl.1 rfl (lv_room (Nat.le_of_ble_eq_true rfl)) dX9_pass_54 ⟨(Nat.le_of_ble_eq_true rfl), (Nat.le_of_ble_eq_true rfl)⟩) hS (fun q _ h => hFc q h) hFc (fun u t H1 locs ht hvm hw hB hz1 hk1 hS => ?_)
      obtain ⟨zn20, zn21, zn22, zn23, zn24, zn25, zn26, zn27, zn28, zn29, zn30, zn31, zn32, zn33, qn34, qn35, fn36, fn37, fn38, fn39, fn40, hn41, hn42, hP1, hD1⟩ := hB
      rw [ht] at hP1
      obtain ⟨hP, hD⟩ := PDq.joinQ (w := [(oX9 h0 b0 (nI nb) p0 u0 r0 a0 t0 s0 o0), (s0, .inr (5, [.ref s1, .int (nI qn7), .int (nI qn8)])), (s1, .inl (cA 5, 10, .inr (.inr (.inr (.inr FR))))), (oX0 a0 p0 a1 a3 a4 a5 a6 zn20 zn21 zn22 zn31 zn32 zn33 zn23 zn24 zn25 zn26 zn27 zn28 zn29 zn30), (a1, .inr (6, [.ref a2, .int (nI qn34), .int (nI qn35)])), (a2, .inl (cA 0, 240, .inl fn36)), (a3, .inl (cA 0, 10, .inl fn37)), (a4, .inl (cA 0, 10, .inl fn38)), (a5, .inl (cA 0, 10, .inl fn39)), (a6, .inl (cA 0, 10, .inl fn40)), (oX3 p0 pr pb pe pg p1 (nI nd) p2 p3 p4 p5 (nI cn) p6 (nI pq) p7 p8 p9 (nI sc)), (p3, .inl (cA 0, 10, .inl fam)), (p5, .inl (cA 0, 10, .inl fby)), (p9, .inl (cA 0, 10, .inl fen)), (p7, .inl (cA 0, 350, .inl fst)), (p8, .inl (cA 0, 350, .inl fop))]) 3 hP hD [15, 9, 10, 11, 12, 13, 14, 1, 2, 3, 4, 5, 6] [0, 7, 8] rfl rfl (by decide) (by decide +kernel) hk1 hFc hP1 hD1 rfl
      generalize H1 = H at hP hS ⊢
      refine lv_aload_n hx hb dX9_pass_57 rfl (lv_at hl 1 rfl) ?_
      refine va_get (D := D) (ci := 10) (v := .ref a0) (C := RX9) (T := TX9) (N := 9) hx hb hts inX9 hown hK hP 0 rfl rfl 5 (by decide) (hts (.fieldLink RX9 35 "EscrowDesk" "account" "LEscrowDesk$Account;") (by decide +kernel)) (fun _ h9 => h9) rfl dX9_pass_58 ?_
      obtain ⟨hPc, hDc, hFc⟩ := PDq.cut (wc := [(oX0 a0 p0 a1 a3 a4 a5 a6 zn20 zn21 zn22 zn31 zn32 zn33 zn23 zn24 zn25 zn26 zn27 zn28 zn29 zn30)]) (cq_P hP) (cq_D hD) hS hA [3] (by decide) rfl
      refine va_calli (va_runV (As := []) (rest := []) ⟨hx, hb, hml, hown, hts⟩ (s_payments l D cA sa a0 a1 a3 a4 a5 a6 p0 zn20 zn21 zn22 zn23 zn24 zn25 zn26 zn27 zn28 zn29 zn30 zn31 zn32 zn33 H.size) (cwV 0 hts gX9_pass_X0_payments rfl rfl rfl (by decide +kernel) ⟨(Nat.le_of_ble_eq_true rfl), (Nat.le_of_ble_eq_true rfl)⟩) ⟨Wd.blind, va_recv hK hPc (ci := 4) (q0 := 0) rfl rfl, fun U hU hW => ⟨rfl, Wd.call hPc hDc hK hC hZ hS hFc U hU hW⟩⟩ rfl rfl hl.1 rfl (lv_room (Nat.le_of_ble_eq_true rfl)) dX9_pass_61 ⟨(Nat.le_of_ble_eq_true rfl), (Nat.le_of_ble_eq_true rfl)⟩) hS (fun q _ h => hFc q h) hFc (fun rn43 u t H1 locs ht hvm hw hB hz1 hk1 hS => ?_)
      obtain ⟨hP1, hD1⟩ := hB
      rw [ht] at hP1
      obtain ⟨hP, hD⟩ := PDq.joinQ (w := [(oX9 h0 b0 (nI nb) p0 u0 r0 a0 t0 s0 o0), (s0, .inr (5, [.ref s1, .int (nI qn7), .int (nI qn8)])), (s1, .inl (cA 5, 10, .inr (.inr (.inr (.inr FR))))), (a1, .inr (6, [.ref a2, .int (nI qn34), .int (nI qn35)])), (a2, .inl (cA 0, 240, .inl fn36)), (a3, .inl (cA 0, 10, .inl fn37)), (a4, .inl (cA 0, 10, .inl fn38)), (a5, .inl (cA 0, 10, .inl fn39)), (a6, .inl (cA 0, 10, .inl fn40)), (oX3 p0 pr pb pe pg p1 (nI nd) p2 p3 p4 p5 (nI cn) p6 (nI pq) p7 p8 p9 (nI sc)), (p3, .inl (cA 0, 10, .inl fam)), (p5, .inl (cA 0, 10, .inl fby)), (p9, .inl (cA 0, 10, .inl fen)), (p7, .inl (cA 0, 350, .inl fst)), (p8, .inl (cA 0, 350, .inl fop)), (oX0 a0 p0 a1 a3 a4 a5 a6 zn20 zn21 zn22 zn31 zn32 zn33 zn23 zn24 zn25 zn26 zn27 zn28 zn29 zn30)]) 15 hP hD [3] [0, 1, 2, 4, 5, 6, 7, 8, 9, 10, 11, 12, 13, 14, 15] rfl rfl (by decide +kernel) (by decide +kernel) hk1 hFc hP1 hD1 rfl
      generalize H1 = H at hP hS ⊢
      refine lv_iload_n hx hb dX9_pass_64 rfl (lv_at hl 0 rfl) ?_
      refine lv_isub hx hb dX9_pass_65 ?_
      refine lv_topi (fun yn44 eyn44 => ?_)
      have hP9 := hP.by (ws' := (([(oX9 h0 b0 (nI nb) p0 u0 r0 a0 t0 s0 o0), (s0, .inr (5, [.ref s1, .int (nI qn7), .int (nI qn8)])), (s1, .inl (cA 5, 10, .inr (.inr (.inr (.inr FR))))), (oX0 a0 p0 a1 a3 a4 a5 a6 zn20 zn21 zn22 zn31 zn32 zn33 zn23 zn24 zn25 zn26 zn27 zn28 zn29 zn30), (a1, .inr (6, [.ref a2, .int (nI qn34), .int (nI qn35)])), (a2, .inl (cA 0, 240, .inl fn36)), (a3, .inl (cA 0, 10, .inl fn37)), (a4, .inl (cA 0, 10, .inl fn38)), (a5, .inl (cA 0, 10, .inl fn39)), (a6, .inl (cA 0, 10, .inl fn40)), (oX3 p0 pr pb pe pg p1 (nI nd) p2 p3 p4 p5 (nI cn) p6 (nI pq) p7 p8 p9 (nI sc)), (p3, .inl (cA 0, 10, .inl fam)), (p5, .inl (cA 0, 10, .inl fby)), (p9, .inl (cA 0, 10, .inl fen)), (p7, .inl (cA 0, 350, .inl fst)), (p8, .inl (cA 0, 350, .inl fop))] : va_W) ++ memW cA q fn9 fn10 fn11 fn12 fn13 fn14)) _ (va_part [0, 1, 2, 15, 3, 4, 5, 6, 7, 8, 9, 10, 11, 12, 13, 14] rfl)
      have hD9 := va_D_part (cx := [(oX9 h0 b0 (nI nb) p0 u0 r0 a0 t0 s0 o0), (s0, .inr (5, [.ref s1, .int (nI qn7), .int (nI qn8)])), (s1, .inl (cA 5, 10, .inr (.inr (.inr (.inr FR))))), (oX0 a0 p0 a1 a3 a4 a5 a6 zn20 zn21 zn22 zn31 zn32 zn33 zn23 zn24 zn25 zn26 zn27 zn28 zn29 zn30), (a1, .inr (6, [.ref a2, .int (nI qn34), .int (nI qn35)])), (a2, .inl (cA 0, 240, .inl fn36)), (a3, .inl (cA 0, 10, .inl fn37)), (a4, .inl (cA 0, 10, .inl fn38)), (a5, .inl (cA 0, 10, .inl fn39)), (a6, .inl (cA 0, 10, .inl fn40)), (oX3 p0 pr pb pe pg p1 (nI nd) p2 p3 p4 p5 (nI cn) p6 (nI pq) p7 p8 p9 (nI sc)), (p3, .inl (cA 0, 10, .inl fam)), (p5, .inl (cA 0, 10, .inl fby)), (p9, .inl (cA 0, 10, .inl fen)), (p7, .inl (cA 0, 350, .inl fst)), (p8, .inl (cA 0, 350, .inl fop))]) hD [0, 1, 2, 15, 3, 4, 5, 6, 7, 8, 9, 10, 11, 12, 13, 14] (by decide +kernel) rfl
      refine W.widen (k := 2) (n := 12) (Nat.le_of_ble_eq_true rfl) (Nat.le_of_ble_eq_true rfl) ?_
      exact vx_ret (W.iret (v := yn44) hx hb hr (fun t ht hW => ⟨⟨yn44, (), rfl, trivial, qn7, qn8, fn9, fn10, fn11, fn12, fn13, fn14, zn20, zn21, zn22, zn23, zn24, zn25, zn26, zn27, zn28, zn29, zn30, zn31, zn32, zn33, qn34, qn35, fn36, fn37, fn38, fn39, fn40, hn15, hn16, hn17, hn18, hn41, hn42, by rw [ht]; exact hP9, hD9⟩, hS.F ht⟩) hS.2.2 dX9_pass_66)

set_option maxHeartbeats 4000000 in
set_option maxRecDepth 100000 in
/-- undo -/
theorem s_undo (l : Launch) (D : va_G) (cA : Nat → ClassId) (sa : Nat → Nat) (h0 : Nat) (b0 : Nat) (nb : Nat) (p0 : Nat) (u0 : Nat) (r0 : Nat) (a0 : Nat) (t0 : Nat) (s0 : Nat) (o0 : Nat) (s1 : Nat) (wn : Nat) (wc : Nat) (FR : Nat → Option Nat) (q : Nat → Nat → Nat) (mp : Nat → Nat) (mi : Nat → Nat → Int32) (ml : Nat → Nat → Int64) (mn : Nat → Nat) (mk : Nat → Nat) (mf : Nat → Nat → Nat → Int32) (a1 : Nat) (a2 : Nat) (a3 : Nat) (a4 : Nat) (a5 : Nat) (a6 : Nat) (i6 : Int32) (i7 : Int32) (i8 : Int32) (i12 : Int32) (i13 : Int32) (i14 : Int32) (i15 : Int32) (i16 : Int32) (i17 : Int32) (i18 : Int32) (i19 : Int32) (i9 : Int64) (i10 : Int64) (i11 : Int64) (nx : Nat) (kp : Nat) (fr : Nat → Int32) (fs : Nat → Int32) (fp : Nat → Int32) (ff : Nat → Int32) (fd : Nat → Int32) (sz : Nat) (hnx : nx < 60) (hkp : kp ≤ 60) (hwn : wn < 10) (hwc : wc ≤ 10) (hFR : FRq q FR) (hMB : MB mn mk) (hWin : Win p0 wn wc mp) : Met l yX9_undo wsX9_undo ({ frames := 4, cells := 0, slots := 0, locals := 123 }) (va_Pc [.ref h0] (Wd D cA sa (([(oX9 h0 b0 (nI nb) p0 u0 r0 a0 t0 s0 o0), (s0, .inr (5, [.ref s1, .int (nI wn), .int (nI wc)])), (s1, .inl (cA 5, 10, .inr (.inr (.inr (.inr FR))))), (oX0 a0 p0 a1 a3 a4 a5 a6 i6 i7 i8 i9 i10 i11 i12 i13 i14 i15 i16 i17 i18 i19), (a1, .inr (6, [.ref a2, .int (nI nx), .int (nI kp)])), (a2, .inl (cA 0, 240, .inl fr)), (a3, .inl (cA 0, 10, .inl fs)), (a4, .inl (cA 0, 10, .inl fp)), (a5, .inl (cA 0, 10, .inl ff)), (a6, .inl (cA 0, 10, .inl fd))] : va_W) ++ memW cA q mp mi ml mn mk mf) sz)) (va_Qi (fun (r : Int32) (_ : Unit) => True) (fun (_ : Unit) t => ∃ wn2 : Nat, ∃ wc2 : Nat, ∃ z6 : Int32, ∃ z7 : Int32, ∃ z8 : Int32, ∃ z12 : Int32, ∃ z13 : Int32, ∃ z14 : Int32, ∃ z15 : Int32, ∃ z16 : Int32, ∃ z17 : Int32, ∃ z18 : Int32, ∃ z19 : Int32, ∃ z9 : Int64, ∃ z10 : Int64, ∃ z11 : Int64, ∃ ny : Nat, ∃ ky : Nat, ∃ zr : Nat → Int32, ∃ zs : Nat → Int32, ∃ zp : Nat → Int32, ∃ zf : Nat → Int32, ∃ zd : Nat → Int32, wn2 < 10 ∧ wc2 ≤ 10 ∧ Win p0 wn2 wc2 mp ∧ ny < 60 ∧ ky ≤ 60 ∧ Wq D (va_A (([(oX9 h0 b0 (nI nb) p0 u0 r0 a0 t0 s0 o0), (s0, .inr (5, [.ref s1, .int (nI wn), .int (nI wc)])), (s1, .inl (cA 5, 10, .inr (.inr (.inr (.inr FR))))), (oX0 a0 p0 a1 a3 a4 a5 a6 i6 i7 i8 i9 i10 i11 i12 i13 i14 i15 i16 i17 i18 i19), (a1, .inr (6, [.ref a2, .int (nI nx), .int (nI kp)])), (a2, .inl (cA 0, 240, .inl fr)), (a3, .inl (cA 0, 10, .inl fs)), (a4, .inl (cA 0, 10, .inl fp)), (a5, .inl (cA 0, 10, .inl ff)), (a6, .inl (cA 0, 10, .inl fd))] : va_W) ++ memW cA q mp mi ml mn mk mf) sz) (([(oX9 h0 b0 (nI nb) p0 u0 r0 a0 t0 s0 o0), (s0, .inr (5, [.ref s1, .int (nI wn2), .int (nI wc2)])), (s1, .inl (cA 5, 10, .inr (.inr (.inr (.inr FR))))), (oX0 a0 p0 a1 a3 a4 a5 a6 z6 z7 z8 z9 z10 z11 z12 z13 z14 z15 z16 z17 z18 z19), (a1, .inr (6, [.ref a2, .int (nI ny), .int (nI ky)])), (a2, .inl (cA 0, 240, .inl zr)), (a3, .inl (cA 0, 10, .inl zs)), (a4, .inl (cA 0, 10, .inl zp)), (a5, .inl (cA 0, 10, .inl zf)), (a6, .inl (cA 0, 10, .inl zd))] : va_W) ++ memW cA q mp mi ml mn mk mf) t) (va_A (([(oX9 h0 b0 (nI nb) p0 u0 r0 a0 t0 s0 o0), (s0, .inr (5, [.ref s1, .int (nI wn), .int (nI wc)])), (s1, .inl (cA 5, 10, .inr (.inr (.inr (.inr FR))))), (oX0 a0 p0 a1 a3 a4 a5 a6 i6 i7 i8 i9 i10 i11 i12 i13 i14 i15 i16 i17 i18 i19), (a1, .inr (6, [.ref a2, .int (nI nx), .int (nI kp)])), (a2, .inl (cA 0, 240, .inl fr)), (a3, .inl (cA 0, 10, .inl fs)), (a4, .inl (cA 0, 10, .inl fp)), (a5, .inl (cA 0, 10, .inl ff)), (a6, .inl (cA 0, 10, .inl fd))] : va_W) ++ memW cA q mp mi ml mn mk mf) sz)) 0 0 (va_A (([(oX9 h0 b0 (nI nb) p0 u0 r0 a0 t0 s0 o0), (s0, .inr (5, [.ref s1, .int (nI wn), .int (nI wc)])), (s1, .inl (cA 5, 10, .inr (.inr (.inr (.inr FR))))), (oX0 a0 p0 a1 a3 a4 a5 a6 i6 i7 i8 i9 i10 i11 i12 i13 i14 i15 i16 i17 i18 i19), (a1, .inr (6, [.ref a2, .int (nI nx), .int (nI kp)])), (a2, .inl (cA 0, 240, .inl fr)), (a3, .inl (cA 0, 10, .inl fs)), (a4, .inl (cA 0, 10, .inl fp)), (a5, .inl (cA 0, 10, .inl ff)), (a6, .inl (cA 0, 10, .inl fd))] : va_W) ++ memW cA q mp mi ml mn mk mf) sz) := by
  refine Met.ofW (cc := cX9_undo) (maxL := 1) (ret := (some .int)) (by decide) rfl ?_
  intro p e s m args below meth c s₁ B hml hv
  obtain ⟨rfl, hsz, hP, hK, hD0, hC, hZ⟩ := hv
  have hx := B.exec
  have hb := B.bytes
  have hr := B.returns
  have hts := atoms_spec (ws := wsX9_undo) B.pre
  have hown : s.vm.findClass RX9 = some m.cls := findClass_of_methodNamed B.named
  have hlocks := B.notSynchronized
  subst hsz
  have hD := hD0.self (sz := s.heap.size)
  generalize hAe : va_A (([(oX9 h0 b0 (nI nb) p0 u0 r0 a0 t0 s0 o0), (s0, .inr (5, [.ref s1, .int (nI wn), .int (nI wc)])), (s1, .inl (cA 5, 10, .inr (.inr (.inr (.inr FR))))), (oX0 a0 p0 a1 a3 a4 a5 a6 i6 i7 i8 i9 i10 i11 i12 i13 i14 i15 i16 i17 i18 i19), (a1, .inr (6, [.ref a2, .int (nI nx), .int (nI kp)])), (a2, .inl (cA 0, 240, .inl fr)), (a3, .inl (cA 0, 10, .inl fs)), (a4, .inl (cA 0, 10, .inl fp)), (a5, .inl (cA 0, 10, .inl ff)), (a6, .inl (cA 0, 10, .inl fd))] : va_W) ++ memW cA q mp mi ml mn mk mf) s.heap.size = A at hD hZ ⊢
  have hA : ∀ q : Nat, s.heap.size ≤ q → A q := fun q h => by rw [← hAe]; exact Or.inr h
  have hS : va_S A s.heap s.heap [] := va_S.rf
  have hP : va_P D vwCl (([(oX9 h0 b0 (nI nb) p0 u0 r0 a0 t0 s0 o0), (s0, .inr (5, [.ref s1, .int (nI wn), .int (nI wc)])), (s1, .inl (cA 5, 10, .inr (.inr (.inr (.inr FR))))), (oX0 a0 p0 a1 a3 a4 a5 a6 i6 i7 i8 i9 i10 i11 i12 i13 i14 i15 i16 i17 i18 i19), (a1, .inr (6, [.ref a2, .int (nI nx), .int (nI kp)])), (a2, .inl (cA 0, 240, .inl fr)), (a3, .inl (cA 0, 10, .inl fs)), (a4, .inl (cA 0, 10, .inl fp)), (a5, .inl (cA 0, 10, .inl ff)), (a6, .inl (cA 0, 10, .inl fd))] : va_W) ++ memW cA q mp mi ml mn mk mf) s.heap := hP
  have hl := lv_entry ([.ref h0]) (n := 1) (Nat.le_of_ble_eq_true rfl)
  rw [lg_entry_eq]
  generalize (lg_sl ([.ref h0]) ++ List.replicate (1 - (lg_sl ([.ref h0])).length) Slot.unset).toArray = ls at hl ⊢
  have hl : lv_has ls 1 [(0, .ref h0)] := hl
  have inX9 : ∀ w ∈ u_ws RX9 TX9 9, w ∈ wsX9_undo := by decide +kernel
  refine lv_aload_n hx hb dX9_undo_0 rfl (lv_at hl 0 rfl) ?_
  refine va_get (D := D) (ci := 10) (v := .ref s0) (C := RX9) (T := TX9) (N := 9) hx hb hts inX9 hown hK hP 0 rfl rfl 7 (by decide) (hts (.fieldLink RX9 45 "EscrowDesk" "history" "LEscrowDesk$History;") (by decide +kernel)) (fun _ h9 => h9) rfl dX9_undo_1 ?_
  refine lv_aload_n hx hb dX9_undo_4 rfl (lv_at hl 0 rfl) ?_
  refine va_get (D := D) (ci := 10) (v := .ref a0) (C := RX9) (T := TX9) (N := 9) hx hb hts inX9 hown hK hP 0 rfl rfl 5 (by decide) (hts (.fieldLink RX9 35 "EscrowDesk" "account" "LEscrowDesk$Account;") (by decide +kernel)) (fun _ h9 => h9) rfl dX9_undo_5 ?_
  have hPc := hP.by (ws' := (([(s0, .inr (5, [.ref s1, .int (nI wn), .int (nI wc)])), (s1, .inl (cA 5, 10, .inr (.inr (.inr (.inr FR))))), (oX0 a0 p0 a1 a3 a4 a5 a6 i6 i7 i8 i9 i10 i11 i12 i13 i14 i15 i16 i17 i18 i19), (a1, .inr (6, [.ref a2, .int (nI nx), .int (nI kp)])), (a2, .inl (cA 0, 240, .inl fr)), (a3, .inl (cA 0, 10, .inl fs)), (a4, .inl (cA 0, 10, .inl fp)), (a5, .inl (cA 0, 10, .inl ff)), (a6, .inl (cA 0, 10, .inl fd))] : va_W) ++ memW cA q mp mi ml mn mk mf)) _ (va_part [1, 2, 3, 4, 5, 6, 7, 8, 9] rfl)
  have hDc := va_D_part (cx := [(s0, .inr (5, [.ref s1, .int (nI wn), .int (nI wc)])), (s1, .inl (cA 5, 10, .inr (.inr (.inr (.inr FR))))), (oX0 a0 p0 a1 a3 a4 a5 a6 i6 i7 i8 i9 i10 i11 i12 i13 i14 i15 i16 i17 i18 i19), (a1, .inr (6, [.ref a2, .int (nI nx), .int (nI kp)])), (a2, .inl (cA 0, 240, .inl fr)), (a3, .inl (cA 0, 10, .inl fs)), (a4, .inl (cA 0, 10, .inl fp)), (a5, .inl (cA 0, 10, .inl ff)), (a6, .inl (cA 0, 10, .inl fd))]) hD [1, 2, 3, 4, 5, 6, 7, 8, 9] (by decide +kernel) rfl
  have hFc := va_freeP (cx := [(s0, .inr (5, [.ref s1, .int (nI wn), .int (nI wc)])), (s1, .inl (cA 5, 10, .inr (.inr (.inr (.inr FR))))), (oX0 a0 p0 a1 a3 a4 a5 a6 i6 i7 i8 i9 i10 i11 i12 i13 i14 i15 i16 i17 i18 i19), (a1, .inr (6, [.ref a2, .int (nI nx), .int (nI kp)])), (a2, .inl (cA 0, 240, .inl fr)), (a3, .inl (cA 0, 10, .inl fs)), (a4, .inl (cA 0, 10, .inl fp)), (a5, .inl (cA 0, 10, .inl ff)), (a6, .inl (cA 0, 10, .inl fd))]) hD hS hA [1, 2, 3, 4, 5, 6, 7, 8, 9] rfl
  refine va_calli (va_runV (As := [.ref a0]) (rest := []) ⟨hx, hb, hml, hown, hts⟩ (s_restore l D cA sa s0 s1 wn wc FR q mp mi ml mn mk mf a0 a1 a2 a3 a4 a5 a6 p0 i6 i7 i8 i12 i13 i14 i15 i16 i17 i18 i19 i9 i10 i11 nx kp fr fs fp ff fd s.heap.size hnx hkp hwn hwc hFR hMB hWin) (cwV 1 hts gX9_undo_X1_restore rfl rfl rfl (by decide +kernel) ⟨(Nat.le_of_ble_eq_true rfl), (Nat.le_of_ble_eq_true rfl)⟩) ⟨Wd.blind, va_recv hK hPc (ci := 5) (q0 := 0) rfl rfl, fun U hU hW => ⟨rfl, Wd.call hPc hDc hK hC hZ hS hFc U hU hW⟩⟩ rfl rfl hl.1 rfl (lv_room (Nat.le_of_ble_eq_true rfl)) dX9_undo_8 ⟨(Nat.le_of_ble_eq_true rfl), (Nat.le_of_ble_eq_true rfl)⟩) hS (fun q _ h => hFc q h) hFc (fun rn1 u t H1 locs ht hvm hw hB hz1 hk1 hS => ?_)
  obtain ⟨qn2, qn3, zn4, zn5, zn6, zn7, zn8, zn9, zn10, zn11, zn12, zn13, zn14, zn15, zn16, zn17, qn18, qn19, fn20, fn21, fn22, fn23, fn24, hn25, hn26, hn27, hn28, hn29, hP1, hD1⟩ := hB
  rw [ht] at hP1
  obtain ⟨hP, hD⟩ := va_joinP (wr := [(oX9 h0 b0 (nI nb) p0 u0 r0 a0 t0 s0 o0)]) (rx := [(s0, .inr (5, [.ref s1, .int (nI qn2), .int (nI qn3)])), (s1, .inl (cA 5, 10, .inr (.inr (.inr (.inr FR))))), (oX0 a0 p0 a1 a3 a4 a5 a6 zn4 zn5 zn6 zn15 zn16 zn17 zn7 zn8 zn9 zn10 zn11 zn12 zn13 zn14), (a1, .inr (6, [.ref a2, .int (nI qn18), .int (nI qn19)])), (a2, .inl (cA 0, 240, .inl fn20)), (a3, .inl (cA 0, 10, .inl fn21)), (a4, .inl (cA 0, 10, .inl fn22)), (a5, .inl (cA 0, 10, .inl fn23)), (a6, .inl (cA 0, 10, .inl fn24))]) (pl1 := memW cA q mp mi ml mn mk mf) hP hD [1, 2, 3, 4, 5, 6, 7, 8, 9] [0] rfl rfl (by decide) (by decide +kernel) hk1 hFc hP1 hD1
  generalize H1 = H at hP hS ⊢
  obtain ⟨hP, hD⟩ : PDq D A (([(oX9 h0 b0 (nI nb) p0 u0 r0 a0 t0 s0 o0), (s0, .inr (5, [.ref s1, .int (nI qn2), .int (nI qn3)])), (s1, .inl (cA 5, 10, .inr (.inr (.inr (.inr FR))))), (oX0 a0 p0 a1 a3 a4 a5 a6 zn4 zn5 zn6 zn15 zn16 zn17 zn7 zn8 zn9 zn10 zn11 zn12 zn13 zn14), (a1, .inr (6, [.ref a2, .int (nI qn18), .int (nI qn19)])), (a2, .inl (cA 0, 240, .inl fn20)), (a3, .inl (cA 0, 10, .inl fn21)), (a4, .inl (cA 0, 10, .inl fn22)), (a5, .inl (cA 0, 10, .inl fn23)), (a6, .inl (cA 0, 10, .inl fn24))] : va_W) ++ memW cA q mp mi ml mn mk mf) H := ⟨hP, hD⟩
  have hP9 := hP.by (ws' := (([(oX9 h0 b0 (nI nb) p0 u0 r0 a0 t0 s0 o0), (s0, .inr (5, [.ref s1, .int (nI qn2), .int (nI qn3)])), (s1, .inl (cA 5, 10, .inr (.inr (.inr (.inr FR))))), (oX0 a0 p0 a1 a3 a4 a5 a6 zn4 zn5 zn6 zn15 zn16 zn17 zn7 zn8 zn9 zn10 zn11 zn12 zn13 zn14), (a1, .inr (6, [.ref a2, .int (nI qn18), .int (nI qn19)])), (a2, .inl (cA 0, 240, .inl fn20)), (a3, .inl (cA 0, 10, .inl fn21)), (a4, .inl (cA 0, 10, .inl fn22)), (a5, .inl (cA 0, 10, .inl fn23)), (a6, .inl (cA 0, 10, .inl fn24))] : va_W) ++ memW cA q mp mi ml mn mk mf)) _ (va_part [0, 1, 2, 3, 4, 5, 6, 7, 8, 9] rfl)
  have hD9 := va_D_part (cx := [(oX9 h0 b0 (nI nb) p0 u0 r0 a0 t0 s0 o0), (s0, .inr (5, [.ref s1, .int (nI qn2), .int (nI qn3)])), (s1, .inl (cA 5, 10, .inr (.inr (.inr (.inr FR))))), (oX0 a0 p0 a1 a3 a4 a5 a6 zn4 zn5 zn6 zn15 zn16 zn17 zn7 zn8 zn9 zn10 zn11 zn12 zn13 zn14), (a1, .inr (6, [.ref a2, .int (nI qn18), .int (nI qn19)])), (a2, .inl (cA 0, 240, .inl fn20)), (a3, .inl (cA 0, 10, .inl fn21)), (a4, .inl (cA 0, 10, .inl fn22)), (a5, .inl (cA 0, 10, .inl fn23)), (a6, .inl (cA 0, 10, .inl fn24))]) hD [0, 1, 2, 3, 4, 5, 6, 7, 8, 9] (by decide +kernel) rfl
  refine W.widen (k := 0) (n := 0) (Nat.le_of_ble_eq_true rfl) (Nat.le_of_ble_eq_true rfl) ?_
  exact (W.iret (v := rn1) hx hb hr (fun t ht hW => ⟨⟨rn1, (), rfl, trivial, qn2, qn3, zn4, zn5, zn6, zn7, zn8, zn9, zn10, zn11, zn12, zn13, zn14, zn15, zn16, zn17, qn18, qn19, fn20, fn21, fn22, fn23, fn24, hn25, hn26, hn27, hn28, hn29, by rw [ht]; exact hP9, hD9⟩, hS.F ht⟩) hS.2.2 dX9_undo_11)

set_option maxHeartbeats 4000000 in
set_option maxRecDepth 100000 in
/-- needRange: within -/
theorem s_needRangeIn (l : Launch) (D : va_G) (cA : Nat → ClassId) (sa : Nat → Nat) (v : Nat) (lo : Nat) (hi : Nat) (sz : Nat) (hhi : hi < 2147483648) (hlv : lo ≤ v) (hvh : v ≤ hi) : Met l yX9_needRange wsX9_needRange ({ frames := 0, cells := 0, slots := 0, locals := 0 }) (va_Pc [.int (nI v), .int (nI lo), .int (nI hi)] (Wd D cA sa [] sz)) (va_Qv (fun _ : Unit => True) (fun (_ : Unit) t => Wq D (va_A [] sz) [] t) (va_A [] sz)) 0 0 (va_A [] sz) := by
  refine Met.ofW (cc := cX9_needRange) (maxL := 3) (ret := none) (by decide) rfl ?_
  intro p e s m args below meth c s₁ B hml hv
  obtain ⟨rfl, hsz, hP, hK, hD0, hC, hZ⟩ := hv
  have hx := B.exec
  have hb := B.bytes
  have hr := B.returns
  have hts := atoms_spec (ws := wsX9_needRange) B.pre
  have hown : s.vm.findClass RX9 = some m.cls := findClass_of_methodNamed B.named
  have hlocks := B.notSynchronized
  subst hsz
  have hD := hD0.self (sz := s.heap.size)
  generalize hAe : va_A [] s.heap.size = A at hD hZ ⊢
  have hA : ∀ q : Nat, s.heap.size ≤ q → A q := fun q h => by rw [← hAe]; exact Or.inr h
  have hS : va_S A s.heap s.heap [] := va_S.rf
  have hP : va_P D vwCl [] s.heap := hP
  have hl := lv_entry ([.int (nI v), .int (nI lo), .int (nI hi)]) (n := 3) (Nat.le_of_ble_eq_true rfl)
  rw [lg_entry_eq]
  generalize (lg_sl ([.int (nI v), .int (nI lo), .int (nI hi)]) ++ List.replicate (3 - (lg_sl ([.int (nI v), .int (nI lo), .int (nI hi)])).length) Slot.unset).toArray = ls at hl ⊢
  have hl : lv_has ls 3 [(0, .int (nI v)), (1, .int (nI lo)), (2, .int (nI hi))] := hl
  refine lv_iload_n hx hb dX9_needRange_0 rfl (lv_at hl 0 rfl) ?_
  refine lv_iload_n hx hb dX9_needRange_1 rfl (lv_at hl 1 rfl) ?_
  refine lv_icmp_lt (tgt := 10) hx hb dX9_needRange_2 (by decide) (fun c9 => absurd c9 (nI_nlt (a := v) (b := lo) (show lo ≤ v by omega) (by omega))) (fun c1 => ?_)
  refine lv_iload_n hx hb dX9_needRange_5 rfl (lv_at hl 0 rfl) ?_
  refine lv_iload_n hx hb dX9_needRange_6 rfl (lv_at hl 2 rfl) ?_
  refine lv_icmp_le (tgt := 21) hx hb dX9_needRange_7 (by decide) (fun c2 => ?_) (fun c9 => absurd (nI_le (a := v) (b := hi) (show v ≤ hi by omega) (by omega)) c9)
  obtain ⟨hP9, hD9⟩ := PDq.sub (ws' := []) hP hD [] (by decide) rfl
  refine W.widen (k := 0) (n := 0) (Nat.le_of_ble_eq_true rfl) (Nat.le_of_ble_eq_true rfl) ?_
  exact (W.vret hx hb hr (fun t ht hW => ⟨⟨(), rfl, trivial, by rw [ht]; exact hP9, hD9⟩, hS.F ht⟩) hS.2.2 dX9_needRange_21)

set_option maxHeartbeats 4000000 in
set_option maxRecDepth 100000 in
/-- needRange: outside -/
theorem s_needRangeOut (l : Launch) (D : va_G) (cA : Nat → ClassId) (sa : Nat → Nat) (v : Int32) (hi : Nat) (sz : Nat) (hl9 : l.stackTraces = false) (hout : v < 0 ∨ nI hi < v) : vx_Met l yX9_needRange wsX9_needRange ({ frames := 6, cells := 1, slots := 6, locals := 90 }) (va_Pc [.int v, .int 0, .int (nI hi)] (Wd D cA sa [] sz)) (va_Qv (fun _ : Unit => False) (fun (_ : Unit) t => Wq D (va_A [] sz) [] t) (va_A [] sz)) (vx_X (fun _ : Unit => True) (fun E _ t => (E = "java/lang/IllegalArgumentException") ∧ Wq D (va_A [] sz) [] t) (va_A [] sz)) 1 6 (va_A [] sz) := by
  refine vx_ofW (cc := cX9_needRange) (maxL := 3) (ret := none) (by decide) rfl ?_
  intro p e s m args below meth c s₁ B hml hno hv
  obtain ⟨rfl, hsz, hP, hK, hD0, hC, hZ⟩ := hv
  have hx := B.exec
  have hb := B.bytes
  have hr := B.returns
  have hts := atoms_spec (ws := wsX9_needRange) B.pre
  have hown : s.vm.findClass RX9 = some m.cls := findClass_of_methodNamed B.named
  have hlocks := B.notSynchronized
  subst hsz
  have hD := hD0.self (sz := s.heap.size)
  generalize hAe : va_A [] s.heap.size = A at hD hZ ⊢
  have hA : ∀ q : Nat, s.heap.size ≤ q → A q := fun q h => by rw [← hAe]; exact Or.inr h
  have hS : va_S A s.heap s.heap [] := va_S.rf
  have hP : va_P D vwCl [] s.heap := hP
  have hl := lv_entry ([.int v, .int 0, .int (nI hi)]) (n := 3) (Nat.le_of_ble_eq_true rfl)
  rw [lg_entry_eq]
  generalize (lg_sl ([.int v, .int 0, .int (nI hi)]) ++ List.replicate (3 - (lg_sl ([.int v, .int 0, .int (nI hi)])).length) Slot.unset).toArray = ls at hl ⊢
  have hl : lv_has ls 3 [(0, .int v), (1, .int 0), (2, .int (nI hi))] := hl
  refine lv_iload_n hx hb dX9_needRange_0 rfl (lv_at hl 0 rfl) ?_
  refine lv_iload_n hx hb dX9_needRange_1 rfl (lv_at hl 1 rfl) ?_
  refine lv_icmp_lt (tgt := 10) hx hb dX9_needRange_2 (by decide) (fun c1 => ?_) (fun c1 => ?_)
  · skip
    obtain ⟨hP9, hD9⟩ := PDq.sub (ws' := []) hP hD [] (by decide) rfl
    exact vx_throwSW (text := "out of range") (names := ["java/lang/RuntimeException", "java/lang/Exception"]) (A := A) hx hb hl9 hown (by decide +kernel) (by decide +kernel) (hts (.classLink RX9 279 "java/lang/IllegalArgumentException") (by decide +kernel)) (hts (.initialized "java/lang/IllegalArgumentException") (by decide +kernel)) (hC.str 0 rfl) (vx_hat (B := [.castable "java/lang/IllegalArgumentException" "java/lang/IllegalArgumentException", .declares (Bundle.initS "java/lang/RuntimeException"), .declares (Bundle.initS "java/lang/Exception"), .declares (Bundle.initS "java/lang/Throwable")]) (fun w h => hts w (by first | exact (List.mem_cons_of_mem _ (List.mem_append_right _ h)) | (revert w; decide +kernel))) (by decide +kernel) (vx_c (hC.c (by decide +kernel)) (vx_c (hC.d (by decide +kernel)) (vx_c (hC.d (by decide +kernel)) (vx_c (hC.d (by decide +kernel)) vx_n))))) (by decide +kernel) hZ.1 hZ.2.1 hS (by rw [hml]; exact hl.1) dX9_needRange_10 dX9_needRange_13 dX9_needRange_14 dX9_needRange_17 dX9_needRange_20 (fun x h => (hno x h).elim) (Nat.le_of_ble_eq_true rfl) (Nat.le_of_ble_eq_true rfl) (Nat.le_of_ble_eq_true rfl) (Nat.le_of_ble_eq_true rfl) hlocks (fun t _ h1 h2 => ⟨(), trivial, ⟨rfl, hP9.kept (fun k q hq => h2 q.1 (hP9 k q hq).lt), hD9⟩, F_of hS h1 h2⟩) hS.2.2 (Nat.le_of_ble_eq_true rfl) (Nat.le_of_ble_eq_true rfl)
  · skip
    refine lv_iload_n hx hb dX9_needRange_5 rfl (lv_at hl 0 rfl) ?_
    refine lv_iload_n hx hb dX9_needRange_6 rfl (lv_at hl 2 rfl) ?_
    refine lv_icmp_le (tgt := 21) hx hb dX9_needRange_7 (by decide) (fun c2 => ?_) (fun c2 => ?_)
    · skip
      exact absurd hout (fun h9 => h9.elim c1 (fun q9 => absurd c2 (Int32.not_le.mpr q9)))
    · skip
      obtain ⟨hP9, hD9⟩ := PDq.sub (ws' := []) hP hD [] (by decide) rfl
      exact vx_throwSW (text := "out of range") (names := ["java/lang/RuntimeException", "java/lang/Exception"]) (A := A) hx hb hl9 hown (by decide +kernel) (by decide +kernel) (hts (.classLink RX9 279 "java/lang/IllegalArgumentException") (by decide +kernel)) (hts (.initialized "java/lang/IllegalArgumentException") (by decide +kernel)) (hC.str 0 rfl) (vx_hat (B := [.castable "java/lang/IllegalArgumentException" "java/lang/IllegalArgumentException", .declares (Bundle.initS "java/lang/RuntimeException"), .declares (Bundle.initS "java/lang/Exception"), .declares (Bundle.initS "java/lang/Throwable")]) (fun w h => hts w (by first | exact (List.mem_cons_of_mem _ (List.mem_append_right _ h)) | (revert w; decide +kernel))) (by decide +kernel) (vx_c (hC.c (by decide +kernel)) (vx_c (hC.d (by decide +kernel)) (vx_c (hC.d (by decide +kernel)) (vx_c (hC.d (by decide +kernel)) vx_n))))) (by decide +kernel) hZ.1 hZ.2.1 hS (by rw [hml]; exact hl.1) dX9_needRange_10 dX9_needRange_13 dX9_needRange_14 dX9_needRange_17 dX9_needRange_20 (fun x h => (hno x h).elim) (Nat.le_of_ble_eq_true rfl) (Nat.le_of_ble_eq_true rfl) (Nat.le_of_ble_eq_true rfl) (Nat.le_of_ble_eq_true rfl) hlocks (fun t _ h1 h2 => ⟨(), trivial, ⟨rfl, hP9.kept (fun k q hq => h2 q.1 (hP9 k q hq).lt), hD9⟩, F_of hS h1 h2⟩) hS.2.2 (Nat.le_of_ble_eq_true rfl) (Nat.le_of_ble_eq_true rfl)

set_option maxHeartbeats 4000000 in
set_option maxRecDepth 100000 in
/-- load: outside -/
theorem s_loadOut (l : Launch) (D : va_G) (cA : Nat → ClassId) (sa : Nat → Nat) (h0 : Nat) (b0 : Nat) (nb : Nat) (p0 : Nat) (u0 : Nat) (r0 : Nat) (a0 : Nat) (t0 : Nat) (s0 : Nat) (o0 : Nat) (i : Int32) (sz : Nat) (hl9 : l.stackTraces = false) (hout : i < 0 ∨ nI nb < i) : vx_Met l yX9_load wsX9_load ({ frames := 7, cells := 1, slots := 6, locals := 112 }) (va_Pc [.ref h0, .int i] (Wd D cA sa [(oX9 h0 b0 (nI nb) p0 u0 r0 a0 t0 s0 o0)] sz)) (va_Qi (fun (_ : Int32) (_ : Unit) => False) (fun (_ : Unit) t => Wq D (va_A [(oX9 h0 b0 (nI nb) p0 u0 r0 a0 t0 s0 o0)] sz) [(oX9 h0 b0 (nI nb) p0 u0 r0 a0 t0 s0 o0)] t) (va_A [(oX9 h0 b0 (nI nb) p0 u0 r0 a0 t0 s0 o0)] sz)) (vx_X (fun _ : Unit => True) (fun E _ t => (E = "java/lang/IllegalArgumentException") ∧ Wq D (va_A [(oX9 h0 b0 (nI nb) p0 u0 r0 a0 t0 s0 o0)] sz) [(oX9 h0 b0 (nI nb) p0 u0 r0 a0 t0 s0 o0)] t) (va_A [(oX9 h0 b0 (nI nb) p0 u0 r0 a0 t0 s0 o0)] sz)) 1 6 (va_A [(oX9 h0 b0 (nI nb) p0 u0 r0 a0 t0 s0 o0)] sz) := by
  refine vx_ofW (cc := cX9_load) (maxL := 4) (ret := (some .int)) (by decide) rfl ?_
  intro p e s m args below meth c s₁ B hml hno hv
  obtain ⟨rfl, hsz, hP, hK, hD0, hC, hZ⟩ := hv
  have hx := B.exec
  have hb := B.bytes
  have hr := B.returns
  have hts := atoms_spec (ws := wsX9_load) B.pre
  have hown : s.vm.findClass RX9 = some m.cls := findClass_of_methodNamed B.named
  have hlocks := B.notSynchronized
  subst hsz
  have hD := hD0.self (sz := s.heap.size)
  generalize hAe : va_A [(oX9 h0 b0 (nI nb) p0 u0 r0 a0 t0 s0 o0)] s.heap.size = A at hD hZ ⊢
  have hA : ∀ q : Nat, s.heap.size ≤ q → A q := fun q h => by rw [← hAe]; exact Or.inr h
  have hS : va_S A s.heap s.heap [] := va_S.rf
  have hP : va_P D vwCl [(oX9 h0 b0 (nI nb) p0 u0 r0 a0 t0 s0 o0)] s.heap := hP
  have hl := lv_entry ([.ref h0, .int i]) (n := 4) (Nat.le_of_ble_eq_true rfl)
  rw [lg_entry_eq]
  generalize (lg_sl ([.ref h0, .int i]) ++ List.replicate (4 - (lg_sl ([.ref h0, .int i])).length) Slot.unset).toArray = ls at hl ⊢
  have hl : lv_has ls 4 [(0, .ref h0), (1, .int i)] := hl
  have inX9 : ∀ w ∈ u_ws RX9 TX9 9, w ∈ wsX9_load := by decide +kernel
  refine lv_iload_n hx hb dX9_load_0 rfl (lv_at hl 1 rfl) ?_
  refine lv_iconst (v := 0) hx hb dX9_load_1 (by decide) ?_
  refine lv_aload_n hx hb dX9_load_2 rfl (lv_at hl 0 rfl) ?_
  refine va_get (D := D) (ci := 10) (v := .int (nI nb)) (C := RX9) (T := TX9) (N := 9) hx hb hts inX9 hown hK hP 0 rfl rfl 1 (by decide) (hts (.fieldLink RX9 59 "EscrowDesk" "buffered" "I") (by decide +kernel)) (fun _ h9 => h9) rfl dX9_load_3 ?_
  obtain ⟨hPc, hDc, hFc⟩ := PDq.cut (wc := []) hP hD hS hA [] (by decide) rfl
  refine vx_callv (vx_runS (As := [.int i, .int 0, .int (nI nb)]) (rest := []) ⟨hx, hb, hml, hown, hts⟩ (s_needRangeOut l D cA sa i nb s.heap.size hl9 hout) (va_cwS 3 hts gX9_load_X9_needRange rfl rfl rfl (by decide +kernel) ⟨(Nat.le_of_ble_eq_true rfl), (Nat.le_of_ble_eq_true rfl)⟩) ⟨Wd.blind, fun U hU hW => ⟨rfl, Wd.call hPc hDc hK hC hZ hS hFc U hU hW⟩⟩ rfl rfl hl.1 rfl (lv_room (Nat.le_of_ble_eq_true rfl)) dX9_load_6 ⟨(Nat.le_of_ble_eq_true rfl), (Nat.le_of_ble_eq_true rfl)⟩) hS (fun q _ h => hFc q h) hFc (fun q _ h => hFc q h) (fun E ce q9 u t H1 locs ht hvm hpx hE hz1 hk1 hS hcell hv9 hcl => ?_) (fun u t H1 locs ht hvm hw hB hz1 hk1 hS => ?_)
  · skip
    obtain ⟨hE, hP1, hD1⟩ := hE
    rw [ht] at hP1
    obtain ⟨hP, hD⟩ := PDq.join (w := [(oX9 h0 b0 (nI nb) p0 u0 r0 a0 t0 s0 o0)]) 1 hP hD [] [0] rfl rfl (by decide) (by decide) hk1 hFc hP1 hD1 rfl
    generalize H1 = H at hP hS hcell ⊢
    obtain ⟨hP9, hD9⟩ := PDq.sub (ws' := [(oX9 h0 b0 (nI nb) p0 u0 r0 a0 t0 s0 o0)]) hP hD [0] (by decide) rfl
    exact vx_out (fun x h => (hno x h).elim) hlocks hcell hv9 hcl (fun t ht hvm => ⟨(), trivial, ⟨hE, by rw [ht]; exact hP9, hD9⟩, hS.F ht⟩) hS.2.2 (Nat.le_of_ble_eq_true rfl) (Nat.le_of_ble_eq_true rfl)
  · skip
    exact hw.elim

set_option maxHeartbeats 4000000 in
set_option maxRecDepth 100000 in
/-- feed: full -/
theorem s_feedFull (l : Launch) (D : va_G) (cA : Nat → ClassId) (sa : Nat → Nat) (h0 : Nat) (b0 : Nat) (nb : Nat) (p0 : Nat) (u0 : Nat) (r0 : Nat) (a0 : Nat) (t0 : Nat) (s0 : Nat) (o0 : Nat) (w1 : Int32) (w2 : Int32) (w3 : Int32) (w4 : Int32) (w5 : Int32) (sz : Nat) (hnb : 700 < nb + 20) (hnb2 : nb ≤ 700) : Met l yX9_feed wsX9_feed ({ frames := 0, cells := 0, slots := 0, locals := 0 }) (va_Pc [.ref h0, .int w1, .int w2, .int w3, .int w4, .int w5] (Wd D cA sa [(oX9 h0 b0 (nI nb) p0 u0 r0 a0 t0 s0 o0)] sz)) (va_Qi (fun (r : Int32) (_ : Unit) => r = (-2)) (fun (_ : Unit) t => Wq D (va_A [(oX9 h0 b0 (nI nb) p0 u0 r0 a0 t0 s0 o0)] sz) [(oX9 h0 b0 (nI nb) p0 u0 r0 a0 t0 s0 o0)] t) (va_A [(oX9 h0 b0 (nI nb) p0 u0 r0 a0 t0 s0 o0)] sz)) 0 0 (va_A [(oX9 h0 b0 (nI nb) p0 u0 r0 a0 t0 s0 o0)] sz) := by
  refine Met.ofW (cc := cX9_feed) (maxL := 6) (ret := (some .int)) (by decide) rfl ?_
  intro p e s m args below meth c s₁ B hml hv
  obtain ⟨rfl, hsz, hP, hK, hD0, hC, hZ⟩ := hv
  have hx := B.exec
  have hb := B.bytes
  have hr := B.returns
  have hts := atoms_spec (ws := wsX9_feed) B.pre
  have hown : s.vm.findClass RX9 = some m.cls := findClass_of_methodNamed B.named
  have hlocks := B.notSynchronized
  subst hsz
  have hD := hD0.self (sz := s.heap.size)
  generalize hAe : va_A [(oX9 h0 b0 (nI nb) p0 u0 r0 a0 t0 s0 o0)] s.heap.size = A at hD hZ ⊢
  have hA : ∀ q : Nat, s.heap.size ≤ q → A q := fun q h => by rw [← hAe]; exact Or.inr h
  have hS : va_S A s.heap s.heap [] := va_S.rf
  have hP : va_P D vwCl [(oX9 h0 b0 (nI nb) p0 u0 r0 a0 t0 s0 o0)] s.heap := hP
  have hl := lv_entry ([.ref h0, .int w1, .int w2, .int w3, .int w4, .int w5]) (n := 6) (Nat.le_of_ble_eq_true rfl)
  rw [lg_entry_eq]
  generalize (lg_sl ([.ref h0, .int w1, .int w2, .int w3, .int w4, .int w5]) ++ List.replicate (6 - (lg_sl ([.ref h0, .int w1, .int w2, .int w3, .int w4, .int w5])).length) Slot.unset).toArray = ls at hl ⊢
  have hl : lv_has ls 6 [(0, .ref h0), (1, .int w1), (2, .int w2), (3, .int w3), (4, .int w4), (5, .int w5)] := hl
  have inX9 : ∀ w ∈ u_ws RX9 TX9 9, w ∈ wsX9_feed := by decide +kernel
  refine lv_aload_n hx hb dX9_feed_0 rfl (lv_at hl 0 rfl) ?_
  refine va_get (D := D) (ci := 10) (v := .int (nI nb)) (C := RX9) (T := TX9) (N := 9) hx hb hts inX9 hown hK hP 0 rfl rfl 1 (by decide) (hts (.fieldLink RX9 59 "EscrowDesk" "buffered" "I") (by decide +kernel)) (fun _ h9 => h9) rfl dX9_feed_1 ?_
  refine lv_bipush (v := 20) hx hb dX9_feed_4 (by decide) ?_
  refine lv_iadd hx hb dX9_feed_6 ?_
  refine lv_topi (fun yn1 eyn1 => ?_)
  obtain rfl : yn1 = (nI (nb + 20)) := eyn1.trans (nI_add nb 20)
  refine lv_sipush (v := 700) hx hb dX9_feed_7 (by decide) ?_
  refine lv_icmp_le (tgt := 16) hx hb dX9_feed_10 (by decide) (fun c9 => absurd c9 (nI_ge (a := 700) (b := (nb + 20)) (show 700 < (nb + 20) by omega) (by omega))) (fun c2 => ?_)
  refine lv_bipush (v := (-2)) hx hb dX9_feed_13 (by decide) ?_
  obtain ⟨hP9, hD9⟩ := PDq.sub (ws' := [(oX9 h0 b0 (nI nb) p0 u0 r0 a0 t0 s0 o0)]) hP hD [0] (by decide) rfl
  refine W.widen (k := 0) (n := 0) (Nat.le_of_ble_eq_true rfl) (Nat.le_of_ble_eq_true rfl) ?_
  exact (W.iret (v := (-2)) hx hb hr (fun t ht hW => ⟨⟨(-2), (), rfl, rfl, by rw [ht]; exact hP9, hD9⟩, hS.F ht⟩) hS.2.2 dX9_feed_15)

set_option maxHeartbeats 4000000 in
set_option maxRecDepth 100000 in
/-- kindOf -/
theorem x_kindOf (l : Launch) (D : va_G) (cA : Nat → ClassId) (sa : Nat → Nat) (a : Int32) (sz : Nat) : Met l yX5_kindOf wsX5_kindOf ({ frames := 0, cells := 0, slots := 0, locals := 0 }) (va_Pc [.int a] (Wd D cA sa [] sz)) (va_Qi (fun (r : Int32) (_ : Unit) => r = ckd a) (fun (_ : Unit) t => Wq D (va_A [] sz) [] t) (va_A [] sz)) 0 0 (va_A [] sz) := by
  refine Met.ofW (cc := cX5_kindOf) (maxL := 1) (ret := (some .int)) (by decide) rfl ?_
  intro p e s m args below meth c s₁ B hml hv
  obtain ⟨rfl, hsz, hP, hK, hD0, hC, hZ⟩ := hv
  have hx := B.exec
  have hb := B.bytes
  have hr := B.returns
  have hts := atoms_spec (ws := wsX5_kindOf) B.pre
  have hown : s.vm.findClass RX5 = some m.cls := findClass_of_methodNamed B.named
  have hlocks := B.notSynchronized
  subst hsz
  have hD := hD0.self (sz := s.heap.size)
  generalize hAe : va_A [] s.heap.size = A at hD hZ ⊢
  have hA : ∀ q : Nat, s.heap.size ≤ q → A q := fun q h => by rw [← hAe]; exact Or.inr h
  have hS : va_S A s.heap s.heap [] := va_S.rf
  have hP : va_P D vwCl [] s.heap := hP
  have hl := lv_entry ([.int a]) (n := 1) (Nat.le_of_ble_eq_true rfl)
  rw [lg_entry_eq]
  generalize (lg_sl ([.int a]) ++ List.replicate (1 - (lg_sl ([.int a])).length) Slot.unset).toArray = ls at hl ⊢
  have hl : lv_has ls 1 [(0, .int a)] := hl
  refine lv_iload_n hx hb dX5_kindOf_0 rfl (lv_at hl 0 rfl) ?_
  refine lv_bipush (v := 97) hx hb dX5_kindOf_1 (by decide) ?_
  refine lv_icmp_lt (tgt := 14) hx hb dX5_kindOf_3 (by decide) (fun c1 => ?_) (fun c1 => ?_)
  · skip
    refine lv_iload_n hx hb dX5_kindOf_14 rfl (lv_at hl 0 rfl) ?_
    refine lv_bipush (v := 48) hx hb dX5_kindOf_15 (by decide) ?_
    refine lv_icmp_lt (tgt := 28) hx hb dX5_kindOf_17 (by decide) (fun c2 => ?_) (fun c2 => ?_)
    · skip
      refine lv_iload_n hx hb dX5_kindOf_28 rfl (lv_at hl 0 rfl) ?_
      refine lv_bipush (v := 32) hx hb dX5_kindOf_29 (by decide) ?_
      refine lv_icmp_eq (tgt := 40) hx hb dX5_kindOf_31 (by decide) (fun c3 => ?_) (fun c3 => ?_)
      · skip
        rw [c3] at hl
        have hl : lv_has ls 1 [(0, .int 32)] := hl
        refine lv_iconst (v := 0) hx hb dX5_kindOf_40 (by decide) ?_
        obtain ⟨hP9, hD9⟩ := PDq.sub (ws' := []) hP hD [] (by decide) rfl
        refine W.widen (k := 0) (n := 0) (Nat.le_of_ble_eq_true rfl) (Nat.le_of_ble_eq_true rfl) ?_
        exact (W.iret (v := 0) hx hb hr (fun t ht hW => ⟨⟨0, (), rfl, (by unfold ckd; rw [if_neg (fun q : 97 ≤ a ∧ a ≤ 122 => absurd q.1 (Int32.not_le.mpr c1)), if_neg (fun q : 48 ≤ a ∧ a ≤ 57 => absurd q.1 (Int32.not_le.mpr c2)), if_pos (Or.inl c3)]), by rw [ht]; exact hP9, hD9⟩, hS.F ht⟩) hS.2.2 dX5_kindOf_41)
      · skip
        refine lv_iload_n hx hb dX5_kindOf_34 rfl (lv_at hl 0 rfl) ?_
        refine lv_bipush (v := 10) hx hb dX5_kindOf_35 (by decide) ?_
        refine lv_icmp_ne (tgt := 42) hx hb dX5_kindOf_37 (by decide) (fun c4 => ?_) (fun c4 => ?_)
        · skip
          refine lv_iload_n hx hb dX5_kindOf_42 rfl (lv_at hl 0 rfl) ?_
          refine lv_bipush (v := 40) hx hb dX5_kindOf_43 (by decide) ?_
          refine lv_icmp_ne (tgt := 50) hx hb dX5_kindOf_45 (by decide) (fun c5 => ?_) (fun c5 => ?_)
          · skip
            refine lv_iload_n hx hb dX5_kindOf_50 rfl (lv_at hl 0 rfl) ?_
            refine lv_bipush (v := 41) hx hb dX5_kindOf_51 (by decide) ?_
            refine lv_icmp_ne (tgt := 59) hx hb dX5_kindOf_53 (by decide) (fun c6 => ?_) (fun c6 => ?_)
            · skip
              refine lv_iload_n hx hb dX5_kindOf_59 rfl (lv_at hl 0 rfl) ?_
              refine lv_bipush (v := 59) hx hb dX5_kindOf_60 (by decide) ?_
              refine lv_icmp_ne (tgt := 70) hx hb dX5_kindOf_62 (by decide) (fun c7 => ?_) (fun c7 => ?_)
              · skip
                refine lv_iconst (v := 2) hx hb dX5_kindOf_70 (by decide) ?_
                obtain ⟨hP9, hD9⟩ := PDq.sub (ws' := []) hP hD [] (by decide) rfl
                refine W.widen (k := 0) (n := 0) (Nat.le_of_ble_eq_true rfl) (Nat.le_of_ble_eq_true rfl) ?_
                exact (W.iret (v := 2) hx hb hr (fun t ht hW => ⟨⟨2, (), rfl, (by unfold ckd; rw [if_neg (fun q : 97 ≤ a ∧ a ≤ 122 => absurd q.1 (Int32.not_le.mpr c1)), if_neg (fun q : 48 ≤ a ∧ a ≤ 57 => absurd q.1 (Int32.not_le.mpr c2)), if_neg (fun q : a = 32 ∨ a = 10 => q.elim c3 c4), if_neg c5, if_neg c6, if_neg c7]), by rw [ht]; exact hP9, hD9⟩, hS.F ht⟩) hS.2.2 dX5_kindOf_71)
              · skip
                rw [c7] at hl
                have hl : lv_has ls 1 [(0, .int 59)] := hl
                refine lv_bipush (v := 7) hx hb dX5_kindOf_65 (by decide) ?_
                refine lv_goto (tgt := 71) hx hb dX5_kindOf_67 (by decide) ?_
                obtain ⟨hP9, hD9⟩ := PDq.sub (ws' := []) hP hD [] (by decide) rfl
                refine W.widen (k := 0) (n := 0) (Nat.le_of_ble_eq_true rfl) (Nat.le_of_ble_eq_true rfl) ?_
                exact (W.iret (v := 7) hx hb hr (fun t ht hW => ⟨⟨7, (), rfl, (by unfold ckd; rw [if_neg (fun q : 97 ≤ a ∧ a ≤ 122 => absurd q.1 (Int32.not_le.mpr c1)), if_neg (fun q : 48 ≤ a ∧ a ≤ 57 => absurd q.1 (Int32.not_le.mpr c2)), if_neg (fun q : a = 32 ∨ a = 10 => q.elim c3 c4), if_neg c5, if_neg c6, if_pos c7]), by rw [ht]; exact hP9, hD9⟩, hS.F ht⟩) hS.2.2 dX5_kindOf_71)
            · skip
              rw [c6] at hl
              have hl : lv_has ls 1 [(0, .int 41)] := hl
              refine lv_bipush (v := 6) hx hb dX5_kindOf_56 (by decide) ?_
              obtain ⟨hP9, hD9⟩ := PDq.sub (ws' := []) hP hD [] (by decide) rfl
              refine W.widen (k := 0) (n := 0) (Nat.le_of_ble_eq_true rfl) (Nat.le_of_ble_eq_true rfl) ?_
              exact (W.iret (v := 6) hx hb hr (fun t ht hW => ⟨⟨6, (), rfl, (by unfold ckd; rw [if_neg (fun q : 97 ≤ a ∧ a ≤ 122 => absurd q.1 (Int32.not_le.mpr c1)), if_neg (fun q : 48 ≤ a ∧ a ≤ 57 => absurd q.1 (Int32.not_le.mpr c2)), if_neg (fun q : a = 32 ∨ a = 10 => q.elim c3 c4), if_neg c5, if_pos c6]), by rw [ht]; exact hP9, hD9⟩, hS.F ht⟩) hS.2.2 dX5_kindOf_58)
          · skip
            rw [c5] at hl
            have hl : lv_has ls 1 [(0, .int 40)] := hl
            refine lv_iconst (v := 5) hx hb dX5_kindOf_48 (by decide) ?_
            obtain ⟨hP9, hD9⟩ := PDq.sub (ws' := []) hP hD [] (by decide) rfl
            refine W.widen (k := 0) (n := 0) (Nat.le_of_ble_eq_true rfl) (Nat.le_of_ble_eq_true rfl) ?_
            exact (W.iret (v := 5) hx hb hr (fun t ht hW => ⟨⟨5, (), rfl, (by unfold ckd; rw [if_neg (fun q : 97 ≤ a ∧ a ≤ 122 => absurd q.1 (Int32.not_le.mpr c1)), if_neg (fun q : 48 ≤ a ∧ a ≤ 57 => absurd q.1 (Int32.not_le.mpr c2)), if_neg (fun q : a = 32 ∨ a = 10 => q.elim c3 c4), if_pos c5]), by rw [ht]; exact hP9, hD9⟩, hS.F ht⟩) hS.2.2 dX5_kindOf_49)
        · skip
          rw [c4] at hl
          have hl : lv_has ls 1 [(0, .int 10)] := hl
          refine lv_iconst (v := 0) hx hb dX5_kindOf_40 (by decide) ?_
          obtain ⟨hP9, hD9⟩ := PDq.sub (ws' := []) hP hD [] (by decide) rfl
          refine W.widen (k := 0) (n := 0) (Nat.le_of_ble_eq_true rfl) (Nat.le_of_ble_eq_true rfl) ?_
          exact (W.iret (v := 0) hx hb hr (fun t ht hW => ⟨⟨0, (), rfl, (by unfold ckd; rw [if_neg (fun q : 97 ≤ a ∧ a ≤ 122 => absurd q.1 (Int32.not_le.mpr c1)), if_neg (fun q : 48 ≤ a ∧ a ≤ 57 => absurd q.1 (Int32.not_le.mpr c2)), if_pos (Or.inr c4)]), by rw [ht]; exact hP9, hD9⟩, hS.F ht⟩) hS.2.2 dX5_kindOf_41)
    · skip
      refine lv_iload_n hx hb dX5_kindOf_20 rfl (lv_at hl 0 rfl) ?_
      refine lv_bipush (v := 57) hx hb dX5_kindOf_21 (by decide) ?_
      refine lv_icmp_gt (tgt := 28) hx hb dX5_kindOf_23 (by decide) (fun c8 => ?_) (fun c8 => ?_)
      · skip
        refine lv_iload_n hx hb dX5_kindOf_28 rfl (lv_at hl 0 rfl) ?_
        refine lv_bipush (v := 32) hx hb dX5_kindOf_29 (by decide) ?_
        refine lv_icmp_eq (tgt := 40) hx hb dX5_kindOf_31 (by decide) (fun c9 => ?_) (fun c9 => ?_)
        · skip
          rw [c9] at hl
          have hl : lv_has ls 1 [(0, .int 32)] := hl
          refine lv_iconst (v := 0) hx hb dX5_kindOf_40 (by decide) ?_
          obtain ⟨hP9, hD9⟩ := PDq.sub (ws' := []) hP hD [] (by decide) rfl
          refine W.widen (k := 0) (n := 0) (Nat.le_of_ble_eq_true rfl) (Nat.le_of_ble_eq_true rfl) ?_
          exact (W.iret (v := 0) hx hb hr (fun t ht hW => ⟨⟨0, (), rfl, (by unfold ckd; rw [if_neg (fun q : 97 ≤ a ∧ a ≤ 122 => absurd q.1 (Int32.not_le.mpr c1)), if_neg (fun q : 48 ≤ a ∧ a ≤ 57 => absurd q.2 (Int32.not_le.mpr c8)), if_pos (Or.inl c9)]), by rw [ht]; exact hP9, hD9⟩, hS.F ht⟩) hS.2.2 dX5_kindOf_41)
        · skip
          refine lv_iload_n hx hb dX5_kindOf_34 rfl (lv_at hl 0 rfl) ?_
          refine lv_bipush (v := 10) hx hb dX5_kindOf_35 (by decide) ?_
          refine lv_icmp_ne (tgt := 42) hx hb dX5_kindOf_37 (by decide) (fun c10 => ?_) (fun c10 => ?_)
          · skip
            refine lv_iload_n hx hb dX5_kindOf_42 rfl (lv_at hl 0 rfl) ?_
            refine lv_bipush (v := 40) hx hb dX5_kindOf_43 (by decide) ?_
            refine lv_icmp_ne (tgt := 50) hx hb dX5_kindOf_45 (by decide) (fun c11 => ?_) (fun c11 => ?_)
            · skip
              refine lv_iload_n hx hb dX5_kindOf_50 rfl (lv_at hl 0 rfl) ?_
              refine lv_bipush (v := 41) hx hb dX5_kindOf_51 (by decide) ?_
              refine lv_icmp_ne (tgt := 59) hx hb dX5_kindOf_53 (by decide) (fun c12 => ?_) (fun c12 => ?_)
              · skip
                refine lv_iload_n hx hb dX5_kindOf_59 rfl (lv_at hl 0 rfl) ?_
                refine lv_bipush (v := 59) hx hb dX5_kindOf_60 (by decide) ?_
                refine lv_icmp_ne (tgt := 70) hx hb dX5_kindOf_62 (by decide) (fun c13 => ?_) (fun c13 => ?_)
                · skip
                  refine lv_iconst (v := 2) hx hb dX5_kindOf_70 (by decide) ?_
                  obtain ⟨hP9, hD9⟩ := PDq.sub (ws' := []) hP hD [] (by decide) rfl
                  refine W.widen (k := 0) (n := 0) (Nat.le_of_ble_eq_true rfl) (Nat.le_of_ble_eq_true rfl) ?_
                  exact (W.iret (v := 2) hx hb hr (fun t ht hW => ⟨⟨2, (), rfl, (by unfold ckd; rw [if_neg (fun q : 97 ≤ a ∧ a ≤ 122 => absurd q.1 (Int32.not_le.mpr c1)), if_neg (fun q : 48 ≤ a ∧ a ≤ 57 => absurd q.2 (Int32.not_le.mpr c8)), if_neg (fun q : a = 32 ∨ a = 10 => q.elim c9 c10), if_neg c11, if_neg c12, if_neg c13]), by rw [ht]; exact hP9, hD9⟩, hS.F ht⟩) hS.2.2 dX5_kindOf_71)
                · skip
                  rw [c13] at hl
                  have hl : lv_has ls 1 [(0, .int 59)] := hl
                  refine lv_bipush (v := 7) hx hb dX5_kindOf_65 (by decide) ?_
                  refine lv_goto (tgt := 71) hx hb dX5_kindOf_67 (by decide) ?_
                  obtain ⟨hP9, hD9⟩ := PDq.sub (ws' := []) hP hD [] (by decide) rfl
                  refine W.widen (k := 0) (n := 0) (Nat.le_of_ble_eq_true rfl) (Nat.le_of_ble_eq_true rfl) ?_
                  exact (W.iret (v := 7) hx hb hr (fun t ht hW => ⟨⟨7, (), rfl, (by unfold ckd; rw [if_neg (fun q : 97 ≤ a ∧ a ≤ 122 => absurd q.1 (Int32.not_le.mpr c1)), if_neg (fun q : 48 ≤ a ∧ a ≤ 57 => absurd q.2 (Int32.not_le.mpr c8)), if_neg (fun q : a = 32 ∨ a = 10 => q.elim c9 c10), if_neg c11, if_neg c12, if_pos c13]), by rw [ht]; exact hP9, hD9⟩, hS.F ht⟩) hS.2.2 dX5_kindOf_71)
              · skip
                rw [c12] at hl
                have hl : lv_has ls 1 [(0, .int 41)] := hl
                refine lv_bipush (v := 6) hx hb dX5_kindOf_56 (by decide) ?_
                obtain ⟨hP9, hD9⟩ := PDq.sub (ws' := []) hP hD [] (by decide) rfl
                refine W.widen (k := 0) (n := 0) (Nat.le_of_ble_eq_true rfl) (Nat.le_of_ble_eq_true rfl) ?_
                exact (W.iret (v := 6) hx hb hr (fun t ht hW => ⟨⟨6, (), rfl, (by unfold ckd; rw [if_neg (fun q : 97 ≤ a ∧ a ≤ 122 => absurd q.1 (Int32.not_le.mpr c1)), if_neg (fun q : 48 ≤ a ∧ a ≤ 57 => absurd q.2 (Int32.not_le.mpr c8)), if_neg (fun q : a = 32 ∨ a = 10 => q.elim c9 c10), if_neg c11, if_pos c12]), by rw [ht]; exact hP9, hD9⟩, hS.F ht⟩) hS.2.2 dX5_kindOf_58)
            · skip
              rw [c11] at hl
              have hl : lv_has ls 1 [(0, .int 40)] := hl
              refine lv_iconst (v := 5) hx hb dX5_kindOf_48 (by decide) ?_
              obtain ⟨hP9, hD9⟩ := PDq.sub (ws' := []) hP hD [] (by decide) rfl
              refine W.widen (k := 0) (n := 0) (Nat.le_of_ble_eq_true rfl) (Nat.le_of_ble_eq_true rfl) ?_
              exact (W.iret (v := 5) hx hb hr (fun t ht hW => ⟨⟨5, (), rfl, (by unfold ckd; rw [if_neg (fun q : 97 ≤ a ∧ a ≤ 122 => absurd q.1 (Int32.not_le.mpr c1)), if_neg (fun q : 48 ≤ a ∧ a ≤ 57 => absurd q.2 (Int32.not_le.mpr c8)), if_neg (fun q : a = 32 ∨ a = 10 => q.elim c9 c10), if_pos c11]), by rw [ht]; exact hP9, hD9⟩, hS.F ht⟩) hS.2.2 dX5_kindOf_49)
          · skip
            rw [c10] at hl
            have hl : lv_has ls 1 [(0, .int 10)] := hl
            refine lv_iconst (v := 0) hx hb dX5_kindOf_40 (by decide) ?_
            obtain ⟨hP9, hD9⟩ := PDq.sub (ws' := []) hP hD [] (by decide) rfl
            refine W.widen (k := 0) (n := 0) (Nat.le_of_ble_eq_true rfl) (Nat.le_of_ble_eq_true rfl) ?_
            exact (W.iret (v := 0) hx hb hr (fun t ht hW => ⟨⟨0, (), rfl, (by unfold ckd; rw [if_neg (fun q : 97 ≤ a ∧ a ≤ 122 => absurd q.1 (Int32.not_le.mpr c1)), if_neg (fun q : 48 ≤ a ∧ a ≤ 57 => absurd q.2 (Int32.not_le.mpr c8)), if_pos (Or.inr c10)]), by rw [ht]; exact hP9, hD9⟩, hS.F ht⟩) hS.2.2 dX5_kindOf_41)
      · skip
        refine lv_iconst (v := 3) hx hb dX5_kindOf_26 (by decide) ?_
        obtain ⟨hP9, hD9⟩ := PDq.sub (ws' := []) hP hD [] (by decide) rfl
        refine W.widen (k := 0) (n := 0) (Nat.le_of_ble_eq_true rfl) (Nat.le_of_ble_eq_true rfl) ?_
        exact (W.iret (v := 3) hx hb hr (fun t ht hW => ⟨⟨3, (), rfl, (by unfold ckd; rw [if_neg (fun q : 97 ≤ a ∧ a ≤ 122 => absurd q.1 (Int32.not_le.mpr c1)), if_pos (And.intro (Int32.not_lt.mp c2) (Int32.not_lt.mp c8))]), by rw [ht]; exact hP9, hD9⟩, hS.F ht⟩) hS.2.2 dX5_kindOf_27)
  · skip
    refine lv_iload_n hx hb dX5_kindOf_6 rfl (lv_at hl 0 rfl) ?_
    refine lv_bipush (v := 122) hx hb dX5_kindOf_7 (by decide) ?_
    refine lv_icmp_gt (tgt := 14) hx hb dX5_kindOf_9 (by decide) (fun c14 => ?_) (fun c14 => ?_)
    · skip
      refine lv_iload_n hx hb dX5_kindOf_14 rfl (lv_at hl 0 rfl) ?_
      refine lv_bipush (v := 48) hx hb dX5_kindOf_15 (by decide) ?_
      refine lv_icmp_lt (tgt := 28) hx hb dX5_kindOf_17 (by decide) (fun c15 => ?_) (fun c15 => ?_)
      · skip
        refine lv_iload_n hx hb dX5_kindOf_28 rfl (lv_at hl 0 rfl) ?_
        refine lv_bipush (v := 32) hx hb dX5_kindOf_29 (by decide) ?_
        refine lv_icmp_eq (tgt := 40) hx hb dX5_kindOf_31 (by decide) (fun c16 => ?_) (fun c16 => ?_)
        · skip
          rw [c16] at hl
          have hl : lv_has ls 1 [(0, .int 32)] := hl
          refine lv_iconst (v := 0) hx hb dX5_kindOf_40 (by decide) ?_
          obtain ⟨hP9, hD9⟩ := PDq.sub (ws' := []) hP hD [] (by decide) rfl
          refine W.widen (k := 0) (n := 0) (Nat.le_of_ble_eq_true rfl) (Nat.le_of_ble_eq_true rfl) ?_
          exact (W.iret (v := 0) hx hb hr (fun t ht hW => ⟨⟨0, (), rfl, (by unfold ckd; rw [if_neg (fun q : 97 ≤ a ∧ a ≤ 122 => absurd q.2 (Int32.not_le.mpr c14)), if_neg (fun q : 48 ≤ a ∧ a ≤ 57 => absurd q.1 (Int32.not_le.mpr c15)), if_pos (Or.inl c16)]), by rw [ht]; exact hP9, hD9⟩, hS.F ht⟩) hS.2.2 dX5_kindOf_41)
        · skip
          refine lv_iload_n hx hb dX5_kindOf_34 rfl (lv_at hl 0 rfl) ?_
          refine lv_bipush (v := 10) hx hb dX5_kindOf_35 (by decide) ?_
          refine lv_icmp_ne (tgt := 42) hx hb dX5_kindOf_37 (by decide) (fun c17 => ?_) (fun c17 => ?_)
          · skip
            refine lv_iload_n hx hb dX5_kindOf_42 rfl (lv_at hl 0 rfl) ?_
            refine lv_bipush (v := 40) hx hb dX5_kindOf_43 (by decide) ?_
            refine lv_icmp_ne (tgt := 50) hx hb dX5_kindOf_45 (by decide) (fun c18 => ?_) (fun c18 => ?_)
            · skip
              refine lv_iload_n hx hb dX5_kindOf_50 rfl (lv_at hl 0 rfl) ?_
              refine lv_bipush (v := 41) hx hb dX5_kindOf_51 (by decide) ?_
              refine lv_icmp_ne (tgt := 59) hx hb dX5_kindOf_53 (by decide) (fun c19 => ?_) (fun c19 => ?_)
              · skip
                refine lv_iload_n hx hb dX5_kindOf_59 rfl (lv_at hl 0 rfl) ?_
                refine lv_bipush (v := 59) hx hb dX5_kindOf_60 (by decide) ?_
                refine lv_icmp_ne (tgt := 70) hx hb dX5_kindOf_62 (by decide) (fun c20 => ?_) (fun c20 => ?_)
                · skip
                  refine lv_iconst (v := 2) hx hb dX5_kindOf_70 (by decide) ?_
                  obtain ⟨hP9, hD9⟩ := PDq.sub (ws' := []) hP hD [] (by decide) rfl
                  refine W.widen (k := 0) (n := 0) (Nat.le_of_ble_eq_true rfl) (Nat.le_of_ble_eq_true rfl) ?_
                  exact (W.iret (v := 2) hx hb hr (fun t ht hW => ⟨⟨2, (), rfl, (by unfold ckd; rw [if_neg (fun q : 97 ≤ a ∧ a ≤ 122 => absurd q.2 (Int32.not_le.mpr c14)), if_neg (fun q : 48 ≤ a ∧ a ≤ 57 => absurd q.1 (Int32.not_le.mpr c15)), if_neg (fun q : a = 32 ∨ a = 10 => q.elim c16 c17), if_neg c18, if_neg c19, if_neg c20]), by rw [ht]; exact hP9, hD9⟩, hS.F ht⟩) hS.2.2 dX5_kindOf_71)
                · skip
                  rw [c20] at hl
                  have hl : lv_has ls 1 [(0, .int 59)] := hl
                  refine lv_bipush (v := 7) hx hb dX5_kindOf_65 (by decide) ?_
                  refine lv_goto (tgt := 71) hx hb dX5_kindOf_67 (by decide) ?_
                  obtain ⟨hP9, hD9⟩ := PDq.sub (ws' := []) hP hD [] (by decide) rfl
                  refine W.widen (k := 0) (n := 0) (Nat.le_of_ble_eq_true rfl) (Nat.le_of_ble_eq_true rfl) ?_
                  exact (W.iret (v := 7) hx hb hr (fun t ht hW => ⟨⟨7, (), rfl, (by unfold ckd; rw [if_neg (fun q : 97 ≤ a ∧ a ≤ 122 => absurd q.2 (Int32.not_le.mpr c14)), if_neg (fun q : 48 ≤ a ∧ a ≤ 57 => absurd q.1 (Int32.not_le.mpr c15)), if_neg (fun q : a = 32 ∨ a = 10 => q.elim c16 c17), if_neg c18, if_neg c19, if_pos c20]), by rw [ht]; exact hP9, hD9⟩, hS.F ht⟩) hS.2.2 dX5_kindOf_71)
              · skip
                rw [c19] at hl
                have hl : lv_has ls 1 [(0, .int 41)] := hl
                refine lv_bipush (v := 6) hx hb dX5_kindOf_56 (by decide) ?_
                obtain ⟨hP9, hD9⟩ := PDq.sub (ws' := []) hP hD [] (by decide) rfl
                refine W.widen (k := 0) (n := 0) (Nat.le_of_ble_eq_true rfl) (Nat.le_of_ble_eq_true rfl) ?_
                exact (W.iret (v := 6) hx hb hr (fun t ht hW => ⟨⟨6, (), rfl, (by unfold ckd; rw [if_neg (fun q : 97 ≤ a ∧ a ≤ 122 => absurd q.2 (Int32.not_le.mpr c14)), if_neg (fun q : 48 ≤ a ∧ a ≤ 57 => absurd q.1 (Int32.not_le.mpr c15)), if_neg (fun q : a = 32 ∨ a = 10 => q.elim c16 c17), if_neg c18, if_pos c19]), by rw [ht]; exact hP9, hD9⟩, hS.F ht⟩) hS.2.2 dX5_kindOf_58)
            · skip
              rw [c18] at hl
              have hl : lv_has ls 1 [(0, .int 40)] := hl
              refine lv_iconst (v := 5) hx hb dX5_kindOf_48 (by decide) ?_
              obtain ⟨hP9, hD9⟩ := PDq.sub (ws' := []) hP hD [] (by decide) rfl
              refine W.widen (k := 0) (n := 0) (Nat.le_of_ble_eq_true rfl) (Nat.le_of_ble_eq_true rfl) ?_
              exact (W.iret (v := 5) hx hb hr (fun t ht hW => ⟨⟨5, (), rfl, (by unfold ckd; rw [if_neg (fun q : 97 ≤ a ∧ a ≤ 122 => absurd q.2 (Int32.not_le.mpr c14)), if_neg (fun q : 48 ≤ a ∧ a ≤ 57 => absurd q.1 (Int32.not_le.mpr c15)), if_neg (fun q : a = 32 ∨ a = 10 => q.elim c16 c17), if_pos c18]), by rw [ht]; exact hP9, hD9⟩, hS.F ht⟩) hS.2.2 dX5_kindOf_49)
          · skip
            rw [c17] at hl
            have hl : lv_has ls 1 [(0, .int 10)] := hl
            refine lv_iconst (v := 0) hx hb dX5_kindOf_40 (by decide) ?_
            obtain ⟨hP9, hD9⟩ := PDq.sub (ws' := []) hP hD [] (by decide) rfl
            refine W.widen (k := 0) (n := 0) (Nat.le_of_ble_eq_true rfl) (Nat.le_of_ble_eq_true rfl) ?_
            exact (W.iret (v := 0) hx hb hr (fun t ht hW => ⟨⟨0, (), rfl, (by unfold ckd; rw [if_neg (fun q : 97 ≤ a ∧ a ≤ 122 => absurd q.2 (Int32.not_le.mpr c14)), if_neg (fun q : 48 ≤ a ∧ a ≤ 57 => absurd q.1 (Int32.not_le.mpr c15)), if_pos (Or.inr c17)]), by rw [ht]; exact hP9, hD9⟩, hS.F ht⟩) hS.2.2 dX5_kindOf_41)
      · skip
        refine lv_iload_n hx hb dX5_kindOf_20 rfl (lv_at hl 0 rfl) ?_
        refine lv_bipush (v := 57) hx hb dX5_kindOf_21 (by decide) ?_
        refine lv_icmp_gt (tgt := 28) hx hb dX5_kindOf_23 (by decide) (fun c21 => ?_) (fun c21 => ?_)
        · skip
          refine lv_iload_n hx hb dX5_kindOf_28 rfl (lv_at hl 0 rfl) ?_
          refine lv_bipush (v := 32) hx hb dX5_kindOf_29 (by decide) ?_
          refine lv_icmp_eq (tgt := 40) hx hb dX5_kindOf_31 (by decide) (fun c22 => ?_) (fun c22 => ?_)
          · skip
            rw [c22] at hl
            have hl : lv_has ls 1 [(0, .int 32)] := hl
            refine lv_iconst (v := 0) hx hb dX5_kindOf_40 (by decide) ?_
            obtain ⟨hP9, hD9⟩ := PDq.sub (ws' := []) hP hD [] (by decide) rfl
            refine W.widen (k := 0) (n := 0) (Nat.le_of_ble_eq_true rfl) (Nat.le_of_ble_eq_true rfl) ?_
            exact (W.iret (v := 0) hx hb hr (fun t ht hW => ⟨⟨0, (), rfl, (by unfold ckd; rw [if_neg (fun q : 97 ≤ a ∧ a ≤ 122 => absurd q.2 (Int32.not_le.mpr c14)), if_neg (fun q : 48 ≤ a ∧ a ≤ 57 => absurd q.2 (Int32.not_le.mpr c21)), if_pos (Or.inl c22)]), by rw [ht]; exact hP9, hD9⟩, hS.F ht⟩) hS.2.2 dX5_kindOf_41)
          · skip
            refine lv_iload_n hx hb dX5_kindOf_34 rfl (lv_at hl 0 rfl) ?_
            refine lv_bipush (v := 10) hx hb dX5_kindOf_35 (by decide) ?_
            refine lv_icmp_ne (tgt := 42) hx hb dX5_kindOf_37 (by decide) (fun c23 => ?_) (fun c23 => ?_)
            · skip
              refine lv_iload_n hx hb dX5_kindOf_42 rfl (lv_at hl 0 rfl) ?_
              refine lv_bipush (v := 40) hx hb dX5_kindOf_43 (by decide) ?_
              refine lv_icmp_ne (tgt := 50) hx hb dX5_kindOf_45 (by decide) (fun c24 => ?_) (fun c24 => ?_)
              · skip
                refine lv_iload_n hx hb dX5_kindOf_50 rfl (lv_at hl 0 rfl) ?_
                refine lv_bipush (v := 41) hx hb dX5_kindOf_51 (by decide) ?_
                refine lv_icmp_ne (tgt := 59) hx hb dX5_kindOf_53 (by decide) (fun c25 => ?_) (fun c25 => ?_)
                · skip
                  refine lv_iload_n hx hb dX5_kindOf_59 rfl (lv_at hl 0 rfl) ?_
                  refine lv_bipush (v := 59) hx hb dX5_kindOf_60 (by decide) ?_
                  refine lv_icmp_ne (tgt := 70) hx hb dX5_kindOf_62 (by decide) (fun c26 => ?_) (fun c26 => ?_)
                  · skip
                    refine lv_iconst (v := 2) hx hb dX5_kindOf_70 (by decide) ?_
                    obtain ⟨hP9, hD9⟩ := PDq.sub (ws' := []) hP hD [] (by decide) rfl
                    refine W.widen (k := 0) (n := 0) (Nat.le_of_ble_eq_true rfl) (Nat.le_of_ble_eq_true rfl) ?_
                    exact (W.iret (v := 2) hx hb hr (fun t ht hW => ⟨⟨2, (), rfl, (by unfold ckd; rw [if_neg (fun q : 97 ≤ a ∧ a ≤ 122 => absurd q.2 (Int32.not_le.mpr c14)), if_neg (fun q : 48 ≤ a ∧ a ≤ 57 => absurd q.2 (Int32.not_le.mpr c21)), if_neg (fun q : a = 32 ∨ a = 10 => q.elim c22 c23), if_neg c24, if_neg c25, if_neg c26]), by rw [ht]; exact hP9, hD9⟩, hS.F ht⟩) hS.2.2 dX5_kindOf_71)
                  · skip
                    rw [c26] at hl
                    have hl : lv_has ls 1 [(0, .int 59)] := hl
                    refine lv_bipush (v := 7) hx hb dX5_kindOf_65 (by decide) ?_
                    refine lv_goto (tgt := 71) hx hb dX5_kindOf_67 (by decide) ?_
                    obtain ⟨hP9, hD9⟩ := PDq.sub (ws' := []) hP hD [] (by decide) rfl
                    refine W.widen (k := 0) (n := 0) (Nat.le_of_ble_eq_true rfl) (Nat.le_of_ble_eq_true rfl) ?_
                    exact (W.iret (v := 7) hx hb hr (fun t ht hW => ⟨⟨7, (), rfl, (by unfold ckd; rw [if_neg (fun q : 97 ≤ a ∧ a ≤ 122 => absurd q.2 (Int32.not_le.mpr c14)), if_neg (fun q : 48 ≤ a ∧ a ≤ 57 => absurd q.2 (Int32.not_le.mpr c21)), if_neg (fun q : a = 32 ∨ a = 10 => q.elim c22 c23), if_neg c24, if_neg c25, if_pos c26]), by rw [ht]; exact hP9, hD9⟩, hS.F ht⟩) hS.2.2 dX5_kindOf_71)
                · skip
                  rw [c25] at hl
                  have hl : lv_has ls 1 [(0, .int 41)] := hl
                  refine lv_bipush (v := 6) hx hb dX5_kindOf_56 (by decide) ?_
                  obtain ⟨hP9, hD9⟩ := PDq.sub (ws' := []) hP hD [] (by decide) rfl
                  refine W.widen (k := 0) (n := 0) (Nat.le_of_ble_eq_true rfl) (Nat.le_of_ble_eq_true rfl) ?_
                  exact (W.iret (v := 6) hx hb hr (fun t ht hW => ⟨⟨6, (), rfl, (by unfold ckd; rw [if_neg (fun q : 97 ≤ a ∧ a ≤ 122 => absurd q.2 (Int32.not_le.mpr c14)), if_neg (fun q : 48 ≤ a ∧ a ≤ 57 => absurd q.2 (Int32.not_le.mpr c21)), if_neg (fun q : a = 32 ∨ a = 10 => q.elim c22 c23), if_neg c24, if_pos c25]), by rw [ht]; exact hP9, hD9⟩, hS.F ht⟩) hS.2.2 dX5_kindOf_58)
              · skip
                rw [c24] at hl
                have hl : lv_has ls 1 [(0, .int 40)] := hl
                refine lv_iconst (v := 5) hx hb dX5_kindOf_48 (by decide) ?_
                obtain ⟨hP9, hD9⟩ := PDq.sub (ws' := []) hP hD [] (by decide) rfl
                refine W.widen (k := 0) (n := 0) (Nat.le_of_ble_eq_true rfl) (Nat.le_of_ble_eq_true rfl) ?_
                exact (W.iret (v := 5) hx hb hr (fun t ht hW => ⟨⟨5, (), rfl, (by unfold ckd; rw [if_neg (fun q : 97 ≤ a ∧ a ≤ 122 => absurd q.2 (Int32.not_le.mpr c14)), if_neg (fun q : 48 ≤ a ∧ a ≤ 57 => absurd q.2 (Int32.not_le.mpr c21)), if_neg (fun q : a = 32 ∨ a = 10 => q.elim c22 c23), if_pos c24]), by rw [ht]; exact hP9, hD9⟩, hS.F ht⟩) hS.2.2 dX5_kindOf_49)
            · skip
              rw [c23] at hl
              have hl : lv_has ls 1 [(0, .int 10)] := hl
              refine lv_iconst (v := 0) hx hb dX5_kindOf_40 (by decide) ?_
              obtain ⟨hP9, hD9⟩ := PDq.sub (ws' := []) hP hD [] (by decide) rfl
              refine W.widen (k := 0) (n := 0) (Nat.le_of_ble_eq_true rfl) (Nat.le_of_ble_eq_true rfl) ?_
              exact (W.iret (v := 0) hx hb hr (fun t ht hW => ⟨⟨0, (), rfl, (by unfold ckd; rw [if_neg (fun q : 97 ≤ a ∧ a ≤ 122 => absurd q.2 (Int32.not_le.mpr c14)), if_neg (fun q : 48 ≤ a ∧ a ≤ 57 => absurd q.2 (Int32.not_le.mpr c21)), if_pos (Or.inr c23)]), by rw [ht]; exact hP9, hD9⟩, hS.F ht⟩) hS.2.2 dX5_kindOf_41)
        · skip
          refine lv_iconst (v := 3) hx hb dX5_kindOf_26 (by decide) ?_
          obtain ⟨hP9, hD9⟩ := PDq.sub (ws' := []) hP hD [] (by decide) rfl
          refine W.widen (k := 0) (n := 0) (Nat.le_of_ble_eq_true rfl) (Nat.le_of_ble_eq_true rfl) ?_
          exact (W.iret (v := 3) hx hb hr (fun t ht hW => ⟨⟨3, (), rfl, (by unfold ckd; rw [if_neg (fun q : 97 ≤ a ∧ a ≤ 122 => absurd q.2 (Int32.not_le.mpr c14)), if_pos (And.intro (Int32.not_lt.mp c15) (Int32.not_lt.mp c21))]), by rw [ht]; exact hP9, hD9⟩, hS.F ht⟩) hS.2.2 dX5_kindOf_27)
    · skip
      refine lv_iconst (v := 4) hx hb dX5_kindOf_12 (by decide) ?_
      obtain ⟨hP9, hD9⟩ := PDq.sub (ws' := []) hP hD [] (by decide) rfl
      refine W.widen (k := 0) (n := 0) (Nat.le_of_ble_eq_true rfl) (Nat.le_of_ble_eq_true rfl) ?_
      exact (W.iret (v := 4) hx hb hr (fun t ht hW => ⟨⟨4, (), rfl, (by unfold ckd; rw [if_pos (And.intro (Int32.not_lt.mp c1) (Int32.not_lt.mp c14))]), by rw [ht]; exact hP9, hD9⟩, hS.F ht⟩) hS.2.2 dX5_kindOf_13)

set_option maxHeartbeats 4000000 in
set_option maxRecDepth 100000 in
/-- withLetter -/
theorem x_withLetter (l : Launch) (D : va_G) (cA : Nat → ClassId) (sa : Nat → Nat) (w : Int64) (a : Int32) (sz : Nat) (ha : ckd a = 4) : Met l yX8_withLetter wsX8_withLetter ({ frames := 0, cells := 0, slots := 0, locals := 0 }) (va_Pc [.long w, .int a] (Wd D cA sa [] sz)) (va_Ql (fun (r : Int64) (_ : Unit) => r = 32 * w + a.toInt64 - 96) (fun (_ : Unit) t => Wq D (va_A [] sz) [] t) (va_A [] sz)) 0 0 (va_A [] sz) := by
  refine Met.ofW (cc := cX8_withLetter) (maxL := 3) (ret := (some .long)) (by decide) rfl ?_
  intro p e s m args below meth c s₁ B hml hv
  obtain ⟨rfl, hsz, hP, hK, hD0, hC, hZ⟩ := hv
  have hx := B.exec
  have hb := B.bytes
  have hr := B.returns
  have hts := atoms_spec (ws := wsX8_withLetter) B.pre
  have hown : s.vm.findClass RX8 = some m.cls := findClass_of_methodNamed B.named
  have hlocks := B.notSynchronized
  subst hsz
  have hD := hD0.self (sz := s.heap.size)
  generalize hAe : va_A [] s.heap.size = A at hD hZ ⊢
  have hA : ∀ q : Nat, s.heap.size ≤ q → A q := fun q h => by rw [← hAe]; exact Or.inr h
  have hS : va_S A s.heap s.heap [] := va_S.rf
  have hP : va_P D vwCl [] s.heap := hP
  have hl := lv_entry ([.long w, .int a]) (n := 3) (Nat.le_of_ble_eq_true rfl)
  rw [lg_entry_eq]
  generalize (lg_sl ([.long w, .int a]) ++ List.replicate (3 - (lg_sl ([.long w, .int a])).length) Slot.unset).toArray = ls at hl ⊢
  have hl : lv_has ls 3 [(0, .long w), (2, .int a)] := hl
  refine lv_lload_n hx hb dX8_withLetter_0 rfl (lv_at hl 0 rfl) ?_
  refine lv_iconst (v := 5) hx hb dX8_withLetter_1 (by decide) ?_
  refine lv_lshl hx hb dX8_withLetter_2 rfl ?_
  refine lv_topl (fun yn1 eyn1 => ?_)
  refine lv_iload_n hx hb dX8_withLetter_3 rfl (lv_at hl 1 rfl) ?_
  refine lv_bipush (v := 97) hx hb dX8_withLetter_4 (by decide) ?_
  refine lv_isub hx hb dX8_withLetter_6 ?_
  refine lv_topi (fun yn2 eyn2 => ?_)
  refine lv_iconst (v := 1) hx hb dX8_withLetter_7 (by decide) ?_
  refine lv_iadd hx hb dX8_withLetter_8 ?_
  refine lv_topi (fun yn3 eyn3 => ?_)
  refine lv_i2l (v := (yn3.toInt64)) hx hb dX8_withLetter_9 rfl ?_
  refine lv_lor hx hb dX8_withLetter_10 ?_
  refine lv_topl (fun yn4 eyn4 => ?_)
  obtain ⟨hP9, hD9⟩ := PDq.sub (ws' := []) hP hD [] (by decide) rfl
  refine W.widen (k := 0) (n := 0) (Nat.le_of_ble_eq_true rfl) (Nat.le_of_ble_eq_true rfl) ?_
  exact (W.lret (v := yn4) hx hb hr (fun t ht hW => ⟨⟨yn4, (), rfl, (wl_let ha eyn1 eyn2 eyn3 eyn4), by rw [ht]; exact hP9, hD9⟩, hS.F ht⟩) hS.2.2 dX8_withLetter_11)

set_option maxHeartbeats 4000000 in
set_option maxRecDepth 100000 in
/-- extended -/
theorem x_extended (l : Launch) (D : va_G) (cA : Nat → ClassId) (sa : Nat → Nat) (w : Int64) (k : Int32) (a : Int32) (sz : Nat) (ha : k = 4 → ckd a = 4) : Met l yX5_extended wsX5_extended ({ frames := 1, cells := 0, slots := 0, locals := 22 }) (va_Pc [.int k, .long w, .int a] (Wd D cA sa [] sz)) (va_Ql (fun (r : Int64) (_ : Unit) => r = (if k = 4 then 32 * w + a.toInt64 - 96 else if k = 3 then w * 10 + (a - 48).toInt64 else 0)) (fun (_ : Unit) t => Wq D (va_A [] sz) [] t) (va_A [] sz)) 0 0 (va_A [] sz) := by
  refine Met.ofW (cc := cX5_extended) (maxL := 4) (ret := (some .long)) (by decide) rfl ?_
  intro p e s m args below meth c s₁ B hml hv
  obtain ⟨rfl, hsz, hP, hK, hD0, hC, hZ⟩ := hv
  have hx := B.exec
  have hb := B.bytes
  have hr := B.returns
  have hts := atoms_spec (ws := wsX5_extended) B.pre
  have hown : s.vm.findClass RX5 = some m.cls := findClass_of_methodNamed B.named
  have hlocks := B.notSynchronized
  subst hsz
  have hD := hD0.self (sz := s.heap.size)
  generalize hAe : va_A [] s.heap.size = A at hD hZ ⊢
  have hA : ∀ q : Nat, s.heap.size ≤ q → A q := fun q h => by rw [← hAe]; exact Or.inr h
  have hS : va_S A s.heap s.heap [] := va_S.rf
  have hP : va_P D vwCl [] s.heap := hP
  have hl := lv_entry ([.int k, .long w, .int a]) (n := 4) (Nat.le_of_ble_eq_true rfl)
  rw [lg_entry_eq]
  generalize (lg_sl ([.int k, .long w, .int a]) ++ List.replicate (4 - (lg_sl ([.int k, .long w, .int a])).length) Slot.unset).toArray = ls at hl ⊢
  have hl : lv_has ls 4 [(0, .int k), (1, .long w), (3, .int a)] := hl
  refine lv_iload_n hx hb dX5_extended_0 rfl (lv_at hl 0 rfl) ?_
  refine lv_iconst (v := 4) hx hb dX5_extended_1 (by decide) ?_
  refine lv_icmp_ne (tgt := 11) hx hb dX5_extended_2 (by decide) (fun c1 => ?_) (fun c1 => ?_)
  · skip
    refine lv_iload_n hx hb dX5_extended_11 rfl (lv_at hl 0 rfl) ?_
    refine lv_iconst (v := 3) hx hb dX5_extended_12 (by decide) ?_
    refine lv_icmp_ne (tgt := 30) hx hb dX5_extended_13 (by decide) (fun c2 => ?_) (fun c2 => ?_)
    · skip
      refine lv_lconst (v := 0) hx hb dX5_extended_30 (by decide) ?_
      obtain ⟨hP9, hD9⟩ := PDq.sub (ws' := []) hP hD [] (by decide) rfl
      refine W.widen (k := 0) (n := 0) (Nat.le_of_ble_eq_true rfl) (Nat.le_of_ble_eq_true rfl) ?_
      exact (W.lret (v := 0) hx hb hr (fun t ht hW => ⟨⟨0, (), rfl, (by rw [if_neg c1, if_neg c2]), by rw [ht]; exact hP9, hD9⟩, hS.F ht⟩) hS.2.2 dX5_extended_31)
    · skip
      rw [c2] at hl
      have hl : lv_has ls 4 [(0, .int 3), (1, .long w), (3, .int a)] := hl
      refine lv_lload_n hx hb dX5_extended_16 rfl (lv_at hl 1 rfl) ?_
      refine lv_ldc2 (v := 10) hx hb hown (hts (.constantLong RX5 53 10) (by decide +kernel)) dX5_extended_17 ?_
      refine lv_lmul hx hb dX5_extended_20 ?_
      refine lv_topl (fun yn3 eyn3 => ?_)
      refine lv_iload_n hx hb dX5_extended_21 rfl (lv_at hl 2 rfl) ?_
      refine lv_bipush (v := 48) hx hb dX5_extended_22 (by decide) ?_
      refine lv_isub hx hb dX5_extended_24 ?_
      refine lv_topi (fun yn4 eyn4 => ?_)
      refine lv_i2l (v := (yn4.toInt64)) hx hb dX5_extended_25 rfl ?_
      refine lv_ladd hx hb dX5_extended_26 ?_
      refine lv_topl (fun yn5 eyn5 => ?_)
      refine lv_goto (tgt := 31) hx hb dX5_extended_27 (by decide) ?_
      obtain ⟨hP9, hD9⟩ := PDq.sub (ws' := []) hP hD [] (by decide) rfl
      refine W.widen (k := 0) (n := 0) (Nat.le_of_ble_eq_true rfl) (Nat.le_of_ble_eq_true rfl) ?_
      exact (W.lret (v := yn5) hx hb hr (fun t ht hW => ⟨⟨yn5, (), rfl, (by rw [if_neg c1, if_pos c2, eyn5, eyn3, eyn4]), by rw [ht]; exact hP9, hD9⟩, hS.F ht⟩) hS.2.2 dX5_extended_31)
  · skip
    rw [c1] at hl
    have hl : lv_has ls 4 [(0, .int 4), (1, .long w), (3, .int a)] := hl
    refine lv_lload_n hx hb dX5_extended_5 rfl (lv_at hl 1 rfl) ?_
    refine lv_iload_n hx hb dX5_extended_6 rfl (lv_at hl 2 rfl) ?_
    obtain ⟨hPc, hDc, hFc⟩ := PDq.cut (wc := []) hP hD hS hA [] (by decide) rfl
    refine va_calll (va_runS (As := [.long w, .int a]) (rest := []) ⟨hx, hb, hml, hown, hts⟩ (x_withLetter l D cA sa w a s.heap.size (ha c1)) (va_cwS 2 hts gX5_extended_X8_withLetter rfl rfl rfl (by decide +kernel) ⟨(Nat.le_of_ble_eq_true rfl), (Nat.le_of_ble_eq_true rfl)⟩) ⟨Wd.blind, fun U hU hW => ⟨rfl, Wd.call hPc hDc hK hC hZ hS hFc U hU hW⟩⟩ rfl rfl hl.1 rfl (lv_room (Nat.le_of_ble_eq_true rfl)) dX5_extended_7 ⟨(Nat.le_of_ble_eq_true rfl), (Nat.le_of_ble_eq_true rfl)⟩) hS (fun q _ h => hFc q h) hFc (fun rn6 u t H1 locs ht hvm hw hB hz1 hk1 hS => ?_)
    obtain ⟨hP1, hD1⟩ := hB
    rw [ht] at hP1
    obtain ⟨hP, hD⟩ := PDq.join (w := []) 0 hP hD [] [] rfl rfl (by decide) (by decide) hk1 hFc hP1 hD1 rfl
    generalize H1 = H at hP hS ⊢
    obtain rfl : rn6 = (32 * w + a.toInt64 - 96) := hw
    obtain ⟨hP9, hD9⟩ := PDq.sub (ws' := []) hP hD [] (by decide) rfl
    refine W.widen (k := 0) (n := 0) (Nat.le_of_ble_eq_true rfl) (Nat.le_of_ble_eq_true rfl) ?_
    exact (W.lret (v := (32 * w + a.toInt64 - 96)) hx hb hr (fun t ht hW => ⟨⟨(32 * w + a.toInt64 - 96), (), rfl, (by rw [if_pos c1]), by rw [ht]; exact hP9, hD9⟩, hS.F ht⟩) hS.2.2 dX5_extended_10)

set_option maxHeartbeats 4000000 in
set_option maxRecDepth 100000 in
/-- add -/
theorem x_addTok (l : Launch) (D : va_G) (cA : Nat → ClassId) (sa : Nat → Nat) (r1 : Nat) (k1 : Nat) (k2 : Nat) (k3 : Nat) (ct : Nat) (fk : Nat → Int32) (ft : Nat → Int32) (fv : Nat → Int64) (k : Int32) (a : Int32) (w : Int64) (sz : Nat) (hct : ct < 701) : Met l yX5_add wsX5_add ({ frames := 0, cells := 0, slots := 0, locals := 0 }) (va_Pc [.ref r1, .int k, .int a, .long w] (Wd D cA sa [(oX5 r1 k1 k2 k3 (nI ct)), (k1, .inl (cA 0, 701, .inl fk)), (k2, .inl (cA 0, 701, .inl ft)), (k3, .inl (cA 1, 701, .inr (.inl fv)))] sz)) (va_Qv (fun _ : Unit => True) (fun (_ : Unit) t => ∃ zk : Nat → Int32, ∃ zt : Nat → Int32, ∃ zv : Nat → Int64, Upp ct k fk zk ∧ Upp ct a ft zt ∧ UppL ct w fv zv ∧ Wq D (va_A [(oX5 r1 k1 k2 k3 (nI ct)), (k1, .inl (cA 0, 701, .inl fk)), (k2, .inl (cA 0, 701, .inl ft)), (k3, .inl (cA 1, 701, .inr (.inl fv)))] sz) [(oX5 r1 k1 k2 k3 (nI (ct + 1))), (k1, .inl (cA 0, 701, .inl zk)), (k2, .inl (cA 0, 701, .inl zt)), (k3, .inl (cA 1, 701, .inr (.inl zv)))] t) (va_A [(oX5 r1 k1 k2 k3 (nI ct)), (k1, .inl (cA 0, 701, .inl fk)), (k2, .inl (cA 0, 701, .inl ft)), (k3, .inl (cA 1, 701, .inr (.inl fv)))] sz)) 0 0 (va_A [(oX5 r1 k1 k2 k3 (nI ct)), (k1, .inl (cA 0, 701, .inl fk)), (k2, .inl (cA 0, 701, .inl ft)), (k3, .inl (cA 1, 701, .inr (.inl fv)))] sz) := by
  refine Met.ofW (cc := cX5_add) (maxL := 5) (ret := none) (by decide) rfl ?_
  intro p e s m args below meth c s₁ B hml hv
  obtain ⟨rfl, hsz, hP, hK, hD0, hC, hZ⟩ := hv
  have hx := B.exec
  have hb := B.bytes
  have hr := B.returns
  have hts := atoms_spec (ws := wsX5_add) B.pre
  have hown : s.vm.findClass RX5 = some m.cls := findClass_of_methodNamed B.named
  have hlocks := B.notSynchronized
  subst hsz
  have hD := hD0.self (sz := s.heap.size)
  generalize hAe : va_A [(oX5 r1 k1 k2 k3 (nI ct)), (k1, .inl (cA 0, 701, .inl fk)), (k2, .inl (cA 0, 701, .inl ft)), (k3, .inl (cA 1, 701, .inr (.inl fv)))] s.heap.size = A at hD hZ ⊢
  have hA : ∀ q : Nat, s.heap.size ≤ q → A q := fun q h => by rw [← hAe]; exact Or.inr h
  have hS : va_S A s.heap s.heap [] := va_S.rf
  have hP : va_P D vwCl [(oX5 r1 k1 k2 k3 (nI ct)), (k1, .inl (cA 0, 701, .inl fk)), (k2, .inl (cA 0, 701, .inl ft)), (k3, .inl (cA 1, 701, .inr (.inl fv)))] s.heap := hP
  have hl := lv_entry ([.ref r1, .int k, .int a, .long w]) (n := 5) (Nat.le_of_ble_eq_true rfl)
  rw [lg_entry_eq]
  generalize (lg_sl ([.ref r1, .int k, .int a, .long w]) ++ List.replicate (5 - (lg_sl ([.ref r1, .int k, .int a, .long w])).length) Slot.unset).toArray = ls at hl ⊢
  have hl : lv_has ls 5 [(0, .ref r1), (1, .int k), (2, .int a), (3, .long w)] := hl
  have inX5 : ∀ w ∈ u_ws RX5 TX5 4, w ∈ wsX5_add := by decide +kernel
  refine lv_aload_n hx hb dX5_add_0 rfl (lv_at hl 0 rfl) ?_
  refine va_get (D := D) (ci := 9) (v := .int (nI ct)) (C := RX5) (T := TX5) (N := 4) hx hb hts inX5 hown hK hP 0 rfl rfl 3 (by decide) (hts (.fieldLink RX5 22 "EscrowDesk$Scanner" "count" "I") (by decide +kernel)) (fun _ h9 => h9) rfl dX5_add_1 ?_
  refine lv_aload_n hx hb dX5_add_4 rfl (lv_at hl 0 rfl) ?_
  refine va_get (D := D) (ci := 9) (v := .ref k1) (C := RX5) (T := TX5) (N := 4) hx hb hts inX5 hown hK hP 0 rfl rfl 0 (by decide) (hts (.fieldLink RX5 9 "EscrowDesk$Scanner" "kinds" "[I") (by decide +kernel)) (fun _ h9 => h9) rfl dX5_add_5 ?_
  refine va_alen (v := 701) hx hb hK hP 1 0 rfl rfl rfl dX5_add_8 ?_
  refine lv_icmp_ge (tgt := 52) hx hb dX5_add_9 (by decide) (fun c9 => absurd c9 (nI_ge (a := ct) (b := 701) (show ct < 701 by omega) (by omega))) (fun c1 => ?_)
  refine lv_aload_n hx hb dX5_add_12 rfl (lv_at hl 0 rfl) ?_
  refine va_get (D := D) (ci := 9) (v := .ref k1) (C := RX5) (T := TX5) (N := 4) hx hb hts inX5 hown hK hP 0 rfl rfl 0 (by decide) (hts (.fieldLink RX5 9 "EscrowDesk$Scanner" "kinds" "[I") (by decide +kernel)) (fun _ h9 => h9) rfl dX5_add_13 ?_
  refine lv_aload_n hx hb dX5_add_16 rfl (lv_at hl 0 rfl) ?_
  refine va_get (D := D) (ci := 9) (v := .int (nI ct)) (C := RX5) (T := TX5) (N := 4) hx hb hts inX5 hown hK hP 0 rfl rfl 3 (by decide) (hts (.fieldLink RX5 22 "EscrowDesk$Scanner" "count" "I") (by decide +kernel)) (fun _ h9 => h9) rfl dX5_add_17 ?_
  refine lv_iload_n hx hb dX5_add_20 rfl (lv_at hl 1 rfl) ?_
  refine va_iast hx hb hK hP hD hS 1 0 rfl rfl (vp_in_nI (n := ct) (N := 701) (show ct < 701 by omega) (by decide)) dX5_add_21 (fun H locs hP hD hS => ?_)
  obtain ⟨hP, hD⟩ : PDq D A [(oX5 r1 k1 k2 k3 (nI ct)), (k1, .inl (cA 0, 701, .inl (upd fk (((nI ct)).toNatClampNeg) k))), (k2, .inl (cA 0, 701, .inl ft)), (k3, .inl (cA 1, 701, .inr (.inl fv)))] H := ⟨hP, hD⟩
  have hn3 : Upp ct k fk (upd fk (((nI ct)).toNatClampNeg) k) := Upp.of (by omega)
  have hn4 : Rdd (upd fk (((nI ct)).toNatClampNeg) k) := rfl
  generalize (upd fk (((nI ct)).toNatClampNeg) k) = fn2 at hP hD hn3 hn4
  obtain ⟨hP, hD⟩ : PDq D A [(oX5 r1 k1 k2 k3 (nI ct)), (k1, .inl (cA 0, 701, .inl fn2)), (k2, .inl (cA 0, 701, .inl ft)), (k3, .inl (cA 1, 701, .inr (.inl fv)))] H := ⟨hP, hD⟩
  refine lv_aload_n hx hb dX5_add_22 rfl (lv_at hl 0 rfl) ?_
  refine va_get (D := D) (ci := 9) (v := .ref k2) (C := RX5) (T := TX5) (N := 4) hx hb hts inX5 hown hK hP 0 rfl rfl 1 (by decide) (hts (.fieldLink RX5 15 "EscrowDesk$Scanner" "starts" "[I") (by decide +kernel)) (fun _ h9 => h9) rfl dX5_add_23 ?_
  refine lv_aload_n hx hb dX5_add_26 rfl (lv_at hl 0 rfl) ?_
  refine va_get (D := D) (ci := 9) (v := .int (nI ct)) (C := RX5) (T := TX5) (N := 4) hx hb hts inX5 hown hK hP 0 rfl rfl 3 (by decide) (hts (.fieldLink RX5 22 "EscrowDesk$Scanner" "count" "I") (by decide +kernel)) (fun _ h9 => h9) rfl dX5_add_27 ?_
  refine lv_iload_n hx hb dX5_add_30 rfl (lv_at hl 2 rfl) ?_
  refine va_iast hx hb hK hP hD hS 2 0 rfl rfl (vp_in_nI (n := ct) (N := 701) (show ct < 701 by omega) (by decide)) dX5_add_31 (fun H locs hP hD hS => ?_)
  obtain ⟨hP, hD⟩ : PDq D A [(oX5 r1 k1 k2 k3 (nI ct)), (k1, .inl (cA 0, 701, .inl fn2)), (k2, .inl (cA 0, 701, .inl (upd ft (((nI ct)).toNatClampNeg) a))), (k3, .inl (cA 1, 701, .inr (.inl fv)))] H := ⟨hP, hD⟩
  have hn6 : Upp ct a ft (upd ft (((nI ct)).toNatClampNeg) a) := Upp.of (by omega)
  have hn7 : Rdd (upd ft (((nI ct)).toNatClampNeg) a) := rfl
  generalize (upd ft (((nI ct)).toNatClampNeg) a) = fn5 at hP hD hn6 hn7
  obtain ⟨hP, hD⟩ : PDq D A [(oX5 r1 k1 k2 k3 (nI ct)), (k1, .inl (cA 0, 701, .inl fn2)), (k2, .inl (cA 0, 701, .inl fn5)), (k3, .inl (cA 1, 701, .inr (.inl fv)))] H := ⟨hP, hD⟩
  refine lv_aload_n hx hb dX5_add_32 rfl (lv_at hl 0 rfl) ?_
  refine va_get (D := D) (ci := 9) (v := .ref k3) (C := RX5) (T := TX5) (N := 4) hx hb hts inX5 hown hK hP 0 rfl rfl 2 (by decide) (hts (.fieldLink RX5 18 "EscrowDesk$Scanner" "values" "[J") (by decide +kernel)) (fun _ h9 => h9) rfl dX5_add_33 ?_
  refine lv_aload_n hx hb dX5_add_36 rfl (lv_at hl 0 rfl) ?_
  refine va_get (D := D) (ci := 9) (v := .int (nI ct)) (C := RX5) (T := TX5) (N := 4) hx hb hts inX5 hown hK hP 0 rfl rfl 3 (by decide) (hts (.fieldLink RX5 22 "EscrowDesk$Scanner" "count" "I") (by decide +kernel)) (fun _ h9 => h9) rfl dX5_add_37 ?_
  refine lv_lload_n hx hb dX5_add_40 rfl (lv_at hl 3 rfl) ?_
  refine va_last hx hb hK hP hD hS 3 1 rfl rfl (vp_in_nI (n := ct) (N := 701) (show ct < 701 by omega) (by decide)) dX5_add_41 (fun H locs hP hD hS => ?_)
  obtain ⟨hP, hD⟩ : PDq D A [(oX5 r1 k1 k2 k3 (nI ct)), (k1, .inl (cA 0, 701, .inl fn2)), (k2, .inl (cA 0, 701, .inl fn5)), (k3, .inl (cA 1, 701, .inr (.inl (vp_updL fv (((nI ct)).toNatClampNeg) w))))] H := ⟨hP, hD⟩
  have hn9 : UppL ct w fv (vp_updL fv (((nI ct)).toNatClampNeg) w) := UppL.of (by omega)
  have hn10 : Rdd (vp_updL fv (((nI ct)).toNatClampNeg) w) := rfl
  generalize (vp_updL fv (((nI ct)).toNatClampNeg) w) = fn8 at hP hD hn9 hn10
  obtain ⟨hP, hD⟩ : PDq D A [(oX5 r1 k1 k2 k3 (nI ct)), (k1, .inl (cA 0, 701, .inl fn2)), (k2, .inl (cA 0, 701, .inl fn5)), (k3, .inl (cA 1, 701, .inr (.inl fn8)))] H := ⟨hP, hD⟩
  refine lv_aload_n hx hb dX5_add_42 rfl (lv_at hl 0 rfl) ?_
  refine lv_dup hx hb dX5_add_43 rfl ?_
  refine va_get (D := D) (ci := 9) (v := .int (nI ct)) (C := RX5) (T := TX5) (N := 4) hx hb hts inX5 hown hK hP 0 rfl rfl 3 (by decide) (hts (.fieldLink RX5 22 "EscrowDesk$Scanner" "count" "I") (by decide +kernel)) (fun _ h9 => h9) rfl dX5_add_44 ?_
  refine lv_iconst (v := 1) hx hb dX5_add_47 (by decide) ?_
  refine lv_iadd hx hb dX5_add_48 ?_
  refine lv_topi (fun yn11 eyn11 => ?_)
  obtain rfl : yn11 = (nI (ct + 1)) := eyn11.trans (nI_add ct 1)
  refine va_put (D := D) (ci := 9) (v := .int (nI (ct + 1))) (ty := .int) (C := RX5) (T := TX5) (N := 4) hx hb hts inX5 tyX5 tyX5_ok nmX5 hown hK hP hD hS 0 rfl rfl 3 (by decide) (hts (.fieldLink RX5 22 "EscrowDesk$Scanner" "count" "I") (by decide +kernel)) (fun _ h9 => h9) rfl (by decide +kernel) rfl rfl (Nat.le_of_ble_eq_true rfl) dX5_add_49 (fun H locs hP hD hS => ?_)
  obtain ⟨hP, hD⟩ : PDq D A [(oX5 r1 k1 k2 k3 (nI (ct + 1))), (k1, .inl (cA 0, 701, .inl fn2)), (k2, .inl (cA 0, 701, .inl fn5)), (k3, .inl (cA 1, 701, .inr (.inl fn8)))] H := ⟨hP, hD⟩
  obtain ⟨hP9, hD9⟩ := PDq.sub (ws' := [(oX5 r1 k1 k2 k3 (nI (ct + 1))), (k1, .inl (cA 0, 701, .inl fn2)), (k2, .inl (cA 0, 701, .inl fn5)), (k3, .inl (cA 1, 701, .inr (.inl fn8)))]) hP hD [0, 1, 2, 3] (by decide) rfl
  refine W.widen (k := 0) (n := 0) (Nat.le_of_ble_eq_true rfl) (Nat.le_of_ble_eq_true rfl) ?_
  exact (W.vret hx hb hr (fun t ht hW => ⟨⟨(), rfl, trivial, fn2, fn5, fn8, hn3, hn6, hn9, by rw [ht]; exact hP9, hD9⟩, hS.F ht⟩) hS.2.2 dX5_add_52)

set_option maxHeartbeats 4000000 in
set_option maxRecDepth 100000 in
/-- extendLast -/
theorem x_extendLast (l : Launch) (D : va_G) (cA : Nat → ClassId) (sa : Nat → Nat) (r1 : Nat) (k1 : Nat) (k2 : Nat) (k3 : Nat) (ct : Nat) (fk : Nat → Int32) (ft : Nat → Int32) (fv : Nat → Int64) (k : Int32) (a : Int32) (rn : Nat) (sz : Nat) (hct : ct ≤ 701) (h0 : 0 < ct) (ha : k = 4 → ckd a = 4) (hrn : rn ≤ 701) : Met l yX5_extendLast wsX5_extendLast ({ frames := 2, cells := 0, slots := 0, locals := 45 }) (va_Pc [.ref r1, .int k, .int a, .int (nI rn)] (Wd D cA sa [(oX5 r1 k1 k2 k3 (nI ct)), (k1, .inl (cA 0, 701, .inl fk)), (k2, .inl (cA 0, 701, .inl ft)), (k3, .inl (cA 1, 701, .inr (.inl fv)))] sz)) (va_Qv (fun _ : Unit => True) (fun (_ : Unit) t => ∃ zk : Nat → Int32, ∃ zv : Nat → Int64, UppL (ct - 1) (if k = 4 then 32 * (fv (ct - 1)) + a.toInt64 - 96 else if k = 3 then (fv (ct - 1)) * 10 + (a - 48).toInt64 else 0) fv zv ∧ ((rn ≤ (if k = 4 then 9 else 5) ∧ zk = fk) ∨ ((if k = 4 then 9 else 5) < rn ∧ zk = upd fk (ct - 1) 2)) ∧ Wq D (va_A [(oX5 r1 k1 k2 k3 (nI ct)), (k1, .inl (cA 0, 701, .inl fk)), (k2, .inl (cA 0, 701, .inl ft)), (k3, .inl (cA 1, 701, .inr (.inl fv)))] sz) [(oX5 r1 k1 k2 k3 (nI ct)), (k1, .inl (cA 0, 701, .inl zk)), (k2, .inl (cA 0, 701, .inl ft)), (k3, .inl (cA 1, 701, .inr (.inl zv)))] t) (va_A [(oX5 r1 k1 k2 k3 (nI ct)), (k1, .inl (cA 0, 701, .inl fk)), (k2, .inl (cA 0, 701, .inl ft)), (k3, .inl (cA 1, 701, .inr (.inl fv)))] sz)) 0 0 (va_A [(oX5 r1 k1 k2 k3 (nI ct)), (k1, .inl (cA 0, 701, .inl fk)), (k2, .inl (cA 0, 701, .inl ft)), (k3, .inl (cA 1, 701, .inr (.inl fv)))] sz) := by
  refine Met.ofW (cc := cX5_extendLast) (maxL := 5) (ret := none) (by decide) rfl ?_
  intro p e s m args below meth c s₁ B hml hv
  obtain ⟨rfl, hsz, hP, hK, hD0, hC, hZ⟩ := hv
  have hx := B.exec
  have hb := B.bytes
  have hr := B.returns
  have hts := atoms_spec (ws := wsX5_extendLast) B.pre
  have hown : s.vm.findClass RX5 = some m.cls := findClass_of_methodNamed B.named
  have hlocks := B.notSynchronized
  subst hsz
  have hD := hD0.self (sz := s.heap.size)
  generalize hAe : va_A [(oX5 r1 k1 k2 k3 (nI ct)), (k1, .inl (cA 0, 701, .inl fk)), (k2, .inl (cA 0, 701, .inl ft)), (k3, .inl (cA 1, 701, .inr (.inl fv)))] s.heap.size = A at hD hZ ⊢
  have hA : ∀ q : Nat, s.heap.size ≤ q → A q := fun q h => by rw [← hAe]; exact Or.inr h
  have hS : va_S A s.heap s.heap [] := va_S.rf
  have hP : va_P D vwCl [(oX5 r1 k1 k2 k3 (nI ct)), (k1, .inl (cA 0, 701, .inl fk)), (k2, .inl (cA 0, 701, .inl ft)), (k3, .inl (cA 1, 701, .inr (.inl fv)))] s.heap := hP
  have hl := lv_entry ([.ref r1, .int k, .int a, .int (nI rn)]) (n := 5) (Nat.le_of_ble_eq_true rfl)
  rw [lg_entry_eq]
  generalize (lg_sl ([.ref r1, .int k, .int a, .int (nI rn)]) ++ List.replicate (5 - (lg_sl ([.ref r1, .int k, .int a, .int (nI rn)])).length) Slot.unset).toArray = ls at hl ⊢
  have hl : lv_has ls 5 [(0, .ref r1), (1, .int k), (2, .int a), (3, .int (nI rn))] := hl
  have inX5 : ∀ w ∈ u_ws RX5 TX5 4, w ∈ wsX5_extendLast := by decide +kernel
  refine lv_aload_n hx hb dX5_extendLast_0 rfl (lv_at hl 0 rfl) ?_
  refine va_get (D := D) (ci := 9) (v := .int (nI ct)) (C := RX5) (T := TX5) (N := 4) hx hb hts inX5 hown hK hP 0 rfl rfl 3 (by decide) (hts (.fieldLink RX5 22 "EscrowDesk$Scanner" "count" "I") (by decide +kernel)) (fun _ h9 => h9) rfl dX5_extendLast_1 ?_
  refine lv_iconst (v := 1) hx hb dX5_extendLast_4 (by decide) ?_
  refine lv_isub hx hb dX5_extendLast_5 ?_
  refine lv_topi (fun yn1 eyn1 => ?_)
  obtain rfl : yn1 = (nI (ct - 1)) := eyn1.trans (nI_sub (a := ct) (b := 1) (by omega))
  refine lv_istore (lv' := [(4, .int (nI (ct - 1))), (0, .ref r1), (1, .int k), (2, .int a), (3, .int (nI rn))]) hx hb dX5_extendLast_6 hl (by decide) rfl (fun ls hl => ?_)
  refine lv_iload hx hb dX5_extendLast_8 (lv_at hl 0 rfl) ?_
  refine lv_if_ge (tgt := 14) hx hb dX5_extendLast_10 (by decide) (fun c2 => ?_) (fun c9 => absurd (nI_pos' (n := (ct - 1)) (by omega)) c9)
  refine lv_aload_n hx hb dX5_extendLast_14 rfl (lv_at hl 1 rfl) ?_
  refine va_get (D := D) (ci := 9) (v := .ref k3) (C := RX5) (T := TX5) (N := 4) hx hb hts inX5 hown hK hP 0 rfl rfl 2 (by decide) (hts (.fieldLink RX5 18 "EscrowDesk$Scanner" "values" "[J") (by decide +kernel)) (fun _ h9 => h9) rfl dX5_extendLast_15 ?_
  refine lv_iload hx hb dX5_extendLast_18 (lv_at hl 0 rfl) ?_
  refine lv_iload_n hx hb dX5_extendLast_20 rfl (lv_at hl 2 rfl) ?_
  refine lv_aload_n hx hb dX5_extendLast_21 rfl (lv_at hl 1 rfl) ?_
  refine va_get (D := D) (ci := 9) (v := .ref k3) (C := RX5) (T := TX5) (N := 4) hx hb hts inX5 hown hK hP 0 rfl rfl 2 (by decide) (hts (.fieldLink RX5 18 "EscrowDesk$Scanner" "values" "[J") (by decide +kernel)) (fun _ h9 => h9) rfl dX5_extendLast_22 ?_
  refine lv_iload hx hb dX5_extendLast_25 (lv_at hl 0 rfl) ?_
  refine va_lald hx hb hK hP 3 1 rfl rfl (vp_in_nI (n := (ct - 1)) (N := 701) (show (ct - 1) < 701 by omega) (by decide)) dX5_extendLast_27 ?_
  refine lv_topl (fun yn3 eyn3 => ?_)
  obtain rfl : yn3 = (fv (ct - 1)) := eyn3.trans (by rw [nI_clamp (by omega)])
  refine lv_iload_n hx hb dX5_extendLast_28 rfl (lv_at hl 3 rfl) ?_
  obtain ⟨hPc, hDc, hFc⟩ := PDq.cut (wc := []) hP hD hS hA [] (by decide) rfl
  refine va_calll (va_runS (As := [.int k, .long (fv (ct - 1)), .int a]) (rest := [.int (nI (ct - 1)), .ref k3]) ⟨hx, hb, hml, hown, hts⟩ (x_extended l D cA sa (fv (ct - 1)) k a s.heap.size ha) (va_cwS 3 hts gX5_extendLast_X5_extended rfl rfl rfl (by decide +kernel) ⟨(Nat.le_of_ble_eq_true rfl), (Nat.le_of_ble_eq_true rfl)⟩) ⟨Wd.blind, fun U hU hW => ⟨rfl, Wd.call hPc hDc hK hC hZ hS hFc U hU hW⟩⟩ rfl rfl hl.1 rfl (lv_room (Nat.le_of_ble_eq_true rfl)) dX5_extendLast_29 ⟨(Nat.le_of_ble_eq_true rfl), (Nat.le_of_ble_eq_true rfl)⟩) hS (fun q _ h => hFc q h) hFc (fun rn4 u t H1 locs ht hvm hw hB hz1 hk1 hS => ?_)
  obtain ⟨hP1, hD1⟩ := hB
  rw [ht] at hP1
  obtain ⟨hP, hD⟩ := PDq.join (w := [(oX5 r1 k1 k2 k3 (nI ct)), (k1, .inl (cA 0, 701, .inl fk)), (k2, .inl (cA 0, 701, .inl ft)), (k3, .inl (cA 1, 701, .inr (.inl fv)))]) 4 hP hD [] [0, 1, 2, 3] rfl rfl (by decide) (by decide) hk1 hFc hP1 hD1 rfl
  generalize H1 = H at hP hS ⊢
  obtain rfl : rn4 = (if k = 4 then 32 * (fv (ct - 1)) + a.toInt64 - 96 else if k = 3 then (fv (ct - 1)) * 10 + (a - 48).toInt64 else 0) := hw
  refine va_last hx hb hK hP hD hS 3 1 rfl rfl (vp_in_nI (n := (ct - 1)) (N := 701) (show (ct - 1) < 701 by omega) (by decide)) dX5_extendLast_32 (fun H locs hP hD hS => ?_)
  obtain ⟨hP, hD⟩ : PDq D A [(oX5 r1 k1 k2 k3 (nI ct)), (k1, .inl (cA 0, 701, .inl fk)), (k2, .inl (cA 0, 701, .inl ft)), (k3, .inl (cA 1, 701, .inr (.inl (vp_updL fv (((nI (ct - 1))).toNatClampNeg) (if k = 4 then 32 * (fv (ct - 1)) + a.toInt64 - 96 else if k = 3 then (fv (ct - 1)) * 10 + (a - 48).toInt64 else 0)))))] H := ⟨hP, hD⟩
  have hn6 : UppL (ct - 1) (if k = 4 then 32 * (fv (ct - 1)) + a.toInt64 - 96 else if k = 3 then (fv (ct - 1)) * 10 + (a - 48).toInt64 else 0) fv (vp_updL fv (((nI (ct - 1))).toNatClampNeg) (if k = 4 then 32 * (fv (ct - 1)) + a.toInt64 - 96 else if k = 3 then (fv (ct - 1)) * 10 + (a - 48).toInt64 else 0)) := UppL.of (by omega)
  have hn7 : Rdd (vp_updL fv (((nI (ct - 1))).toNatClampNeg) (if k = 4 then 32 * (fv (ct - 1)) + a.toInt64 - 96 else if k = 3 then (fv (ct - 1)) * 10 + (a - 48).toInt64 else 0)) := rfl
  generalize (vp_updL fv (((nI (ct - 1))).toNatClampNeg) (if k = 4 then 32 * (fv (ct - 1)) + a.toInt64 - 96 else if k = 3 then (fv (ct - 1)) * 10 + (a - 48).toInt64 else 0)) = fn5 at hP hD hn6 hn7
  obtain ⟨hP, hD⟩ : PDq D A [(oX5 r1 k1 k2 k3 (nI ct)), (k1, .inl (cA 0, 701, .inl fk)), (k2, .inl (cA 0, 701, .inl ft)), (k3, .inl (cA 1, 701, .inr (.inl fn5)))] H := ⟨hP, hD⟩
  refine lv_iload_n hx hb dX5_extendLast_33 rfl (lv_at hl 4 rfl) ?_
  refine lv_iload_n hx hb dX5_extendLast_34 rfl (lv_at hl 2 rfl) ?_
  refine lv_iconst (v := 4) hx hb dX5_extendLast_35 (by decide) ?_
  refine lv_icmp_ne (tgt := 44) hx hb dX5_extendLast_36 (by decide) (fun c8 => ?_) (fun c8 => ?_)
  · skip
    refine lv_iconst (v := 5) hx hb dX5_extendLast_44 (by decide) ?_
    refine lv_icmp_le (tgt := 56) hx hb dX5_extendLast_45 (by decide) (fun c9 => ?_) (fun c9 => ?_)
    · skip
      have hn10 : rn ≤ 5 := (nI_leI (a := rn) (b := 5) (by omega) (by omega)).mp c9
      obtain ⟨hP9, hD9⟩ := PDq.sub (ws' := [(oX5 r1 k1 k2 k3 (nI ct)), (k1, .inl (cA 0, 701, .inl fk)), (k2, .inl (cA 0, 701, .inl ft)), (k3, .inl (cA 1, 701, .inr (.inl fn5)))]) hP hD [0, 1, 2, 3] (by decide) rfl
      refine W.widen (k := 0) (n := 0) (Nat.le_of_ble_eq_true rfl) (Nat.le_of_ble_eq_true rfl) ?_
      exact (W.vret hx hb hr (fun t ht hW => ⟨⟨(), rfl, trivial, fk, fn5, hn6, (Or.inl ⟨by rw [if_neg c8]; omega, rfl⟩), by rw [ht]; exact hP9, hD9⟩, hS.F ht⟩) hS.2.2 dX5_extendLast_56)
    · skip
      have hn11 : 5 < rn := Nat.lt_of_not_le (fun h9 => c9 (nI_le (a := rn) (b := 5) h9 (by omega)))
      refine lv_aload_n hx hb dX5_extendLast_48 rfl (lv_at hl 1 rfl) ?_
      refine va_get (D := D) (ci := 9) (v := .ref k1) (C := RX5) (T := TX5) (N := 4) hx hb hts inX5 hown hK hP 0 rfl rfl 0 (by decide) (hts (.fieldLink RX5 9 "EscrowDesk$Scanner" "kinds" "[I") (by decide +kernel)) (fun _ h9 => h9) rfl dX5_extendLast_49 ?_
      refine lv_iload hx hb dX5_extendLast_52 (lv_at hl 0 rfl) ?_
      refine lv_iconst (v := 2) hx hb dX5_extendLast_54 (by decide) ?_
      refine va_iast hx hb hK hP hD hS 1 0 rfl rfl (vp_in_nI (n := (ct - 1)) (N := 701) (show (ct - 1) < 701 by omega) (by decide)) dX5_extendLast_55 (fun H locs hP hD hS => ?_)
      obtain ⟨hP, hD⟩ : PDq D A [(oX5 r1 k1 k2 k3 (nI ct)), (k1, .inl (cA 0, 701, .inl (upd fk (((nI (ct - 1))).toNatClampNeg) 2))), (k2, .inl (cA 0, 701, .inl ft)), (k3, .inl (cA 1, 701, .inr (.inl fn5)))] H := ⟨hP, hD⟩
      have hn13 : Upp (ct - 1) 2 fk (upd fk (((nI (ct - 1))).toNatClampNeg) 2) := Upp.of (by omega)
      have hn14 : Rdd (upd fk (((nI (ct - 1))).toNatClampNeg) 2) := rfl
      generalize (upd fk (((nI (ct - 1))).toNatClampNeg) 2) = fn12 at hP hD hn13 hn14
      obtain ⟨hP, hD⟩ : PDq D A [(oX5 r1 k1 k2 k3 (nI ct)), (k1, .inl (cA 0, 701, .inl fn12)), (k2, .inl (cA 0, 701, .inl ft)), (k3, .inl (cA 1, 701, .inr (.inl fn5)))] H := ⟨hP, hD⟩
      obtain ⟨hP9, hD9⟩ := PDq.sub (ws' := [(oX5 r1 k1 k2 k3 (nI ct)), (k1, .inl (cA 0, 701, .inl fn12)), (k2, .inl (cA 0, 701, .inl ft)), (k3, .inl (cA 1, 701, .inr (.inl fn5)))]) hP hD [0, 1, 2, 3] (by decide) rfl
      refine W.widen (k := 0) (n := 0) (Nat.le_of_ble_eq_true rfl) (Nat.le_of_ble_eq_true rfl) ?_
      exact (W.vret hx hb hr (fun t ht hW => ⟨⟨(), rfl, trivial, fn12, fn5, hn6, (Or.inr ⟨by rw [if_neg c8]; omega, hn13⟩), by rw [ht]; exact hP9, hD9⟩, hS.F ht⟩) hS.2.2 dX5_extendLast_56)
  · skip
    rw [c8] at hl
    have hl : lv_has ls 5 [(4, .int (nI (ct - 1))), (0, .ref r1), (1, .int 4), (2, .int a), (3, .int (nI rn))] := hl
    refine lv_bipush (v := 9) hx hb dX5_extendLast_39 (by decide) ?_
    refine lv_goto (tgt := 45) hx hb dX5_extendLast_41 (by decide) ?_
    refine lv_icmp_le (tgt := 56) hx hb dX5_extendLast_45 (by decide) (fun c15 => ?_) (fun c15 => ?_)
    · skip
      have hn16 : rn ≤ 9 := (nI_leI (a := rn) (b := 9) (by omega) (by omega)).mp c15
      obtain ⟨hP9, hD9⟩ := PDq.sub (ws' := [(oX5 r1 k1 k2 k3 (nI ct)), (k1, .inl (cA 0, 701, .inl fk)), (k2, .inl (cA 0, 701, .inl ft)), (k3, .inl (cA 1, 701, .inr (.inl fn5)))]) hP hD [0, 1, 2, 3] (by decide) rfl
      refine W.widen (k := 0) (n := 0) (Nat.le_of_ble_eq_true rfl) (Nat.le_of_ble_eq_true rfl) ?_
      exact (W.vret hx hb hr (fun t ht hW => ⟨⟨(), rfl, trivial, fk, fn5, hn6, (Or.inl ⟨by rw [if_pos c8]; omega, rfl⟩), by rw [ht]; exact hP9, hD9⟩, hS.F ht⟩) hS.2.2 dX5_extendLast_56)
    · skip
      have hn17 : 9 < rn := Nat.lt_of_not_le (fun h9 => c15 (nI_le (a := rn) (b := 9) h9 (by omega)))
      refine lv_aload_n hx hb dX5_extendLast_48 rfl (lv_at hl 1 rfl) ?_
      refine va_get (D := D) (ci := 9) (v := .ref k1) (C := RX5) (T := TX5) (N := 4) hx hb hts inX5 hown hK hP 0 rfl rfl 0 (by decide) (hts (.fieldLink RX5 9 "EscrowDesk$Scanner" "kinds" "[I") (by decide +kernel)) (fun _ h9 => h9) rfl dX5_extendLast_49 ?_
      refine lv_iload hx hb dX5_extendLast_52 (lv_at hl 0 rfl) ?_
      refine lv_iconst (v := 2) hx hb dX5_extendLast_54 (by decide) ?_
      refine va_iast hx hb hK hP hD hS 1 0 rfl rfl (vp_in_nI (n := (ct - 1)) (N := 701) (show (ct - 1) < 701 by omega) (by decide)) dX5_extendLast_55 (fun H locs hP hD hS => ?_)
      obtain ⟨hP, hD⟩ : PDq D A [(oX5 r1 k1 k2 k3 (nI ct)), (k1, .inl (cA 0, 701, .inl (upd fk (((nI (ct - 1))).toNatClampNeg) 2))), (k2, .inl (cA 0, 701, .inl ft)), (k3, .inl (cA 1, 701, .inr (.inl fn5)))] H := ⟨hP, hD⟩
      have hn19 : Upp (ct - 1) 2 fk (upd fk (((nI (ct - 1))).toNatClampNeg) 2) := Upp.of (by omega)
      have hn20 : Rdd (upd fk (((nI (ct - 1))).toNatClampNeg) 2) := rfl
      generalize (upd fk (((nI (ct - 1))).toNatClampNeg) 2) = fn18 at hP hD hn19 hn20
      obtain ⟨hP, hD⟩ : PDq D A [(oX5 r1 k1 k2 k3 (nI ct)), (k1, .inl (cA 0, 701, .inl fn18)), (k2, .inl (cA 0, 701, .inl ft)), (k3, .inl (cA 1, 701, .inr (.inl fn5)))] H := ⟨hP, hD⟩
      obtain ⟨hP9, hD9⟩ := PDq.sub (ws' := [(oX5 r1 k1 k2 k3 (nI ct)), (k1, .inl (cA 0, 701, .inl fn18)), (k2, .inl (cA 0, 701, .inl ft)), (k3, .inl (cA 1, 701, .inr (.inl fn5)))]) hP hD [0, 1, 2, 3] (by decide) rfl
      refine W.widen (k := 0) (n := 0) (Nat.le_of_ble_eq_true rfl) (Nat.le_of_ble_eq_true rfl) ?_
      exact (W.vret hx hb hr (fun t ht hW => ⟨⟨(), rfl, trivial, fn18, fn5, hn6, (Or.inr ⟨by rw [if_pos c8]; omega, hn19⟩), by rw [ht]; exact hP9, hD9⟩, hS.F ht⟩) hS.2.2 dX5_extendLast_56)

set_option maxHeartbeats 4000000 in
set_option maxRecDepth 100000 in
/-- packed -/
theorem x_packed (l : Launch) (D : va_G) (cA : Nat → ClassId) (sa : Nat → Nat) (k : Nat) (bs : List Int32) (sz : Nat) (hq : (k, bs) ∈ sbL) (hB : ∀ j, j < bs.length → ckd (bs.getD j 0) = 4) : Met l yX8_packed wsX8_packed ({ frames := 4, cells := 0, slots := 0, locals := 85 }) (va_Pc [.ref (sa k)] (Wd D cA sa [] sz)) (va_Ql (fun (r : Int64) (_ : Unit) => r = wf bs bs.length) (fun (_ : Unit) t => Wq D (va_A [] sz) [] t) (va_A [] sz)) 0 0 (va_A [] sz) := by
  refine Met.ofW (cc := cX8_packed) (maxL := 4) (ret := (some .long)) (by decide) rfl ?_
  intro p e s m args below meth c s₁ B hml hv
  obtain ⟨rfl, hsz, hP, hK, hD0, hC, hZ⟩ := hv
  have hx := B.exec
  have hb := B.bytes
  have hr := B.returns
  have hts := atoms_spec (ws := wsX8_packed) B.pre
  have hown : s.vm.findClass RX8 = some m.cls := findClass_of_methodNamed B.named
  have hlocks := B.notSynchronized
  subst hsz
  have hD := hD0.self (sz := s.heap.size)
  generalize hAe : va_A [] s.heap.size = A at hD hZ ⊢
  have hA : ∀ q : Nat, s.heap.size ≤ q → A q := fun q h => by rw [← hAe]; exact Or.inr h
  have hS : va_S A s.heap s.heap [] := va_S.rf
  have hP : va_P D vwCl [] s.heap := hP
  have hl := lv_entry ([.ref (sa k)]) (n := 4) (Nat.le_of_ble_eq_true rfl)
  rw [lg_entry_eq]
  generalize (lg_sl ([.ref (sa k)]) ++ List.replicate (4 - (lg_sl ([.ref (sa k)])).length) Slot.unset).toArray = ls at hl ⊢
  have hl : lv_has ls 4 [(0, .ref (sa k))] := hl
  have hso := hZ.2.2.2.2 (k, bs) hq
  have hsC : va_OF "java/lang/String" "coder" "B" (.int 0) (sa k) A s s.heap := hso.2.1
  have hsV : va_OF "java/lang/String" "value" "[B" (.ref (sa (1000 + k))) (sa k) A s s.heap := hso.2.2.1
  have hsT : va_T .byte (sa (1000 + k)) bs.length (fun j => .int (bs.getD j 0)) A s s.heap := hso.2.2.2
  have hL := sb_lt hq
  refine lv_lconst (v := 0) hx hb dX8_packed_0 (by decide) ?_
  refine lv_lstore_n (lv' := [(1, .long 0), (0, .ref (sa k))]) hx hb dX8_packed_1 rfl hl (by decide) rfl (fun ls hl => ?_)
  refine lv_iconst (v := 0) hx hb dX8_packed_2 (by decide) ?_
  refine lv_istore_n (lv' := [(3, .int 0), (1, .long 0), (0, .ref (sa k))]) hx hb dX8_packed_3 rfl hl (by decide) rfl (fun ls hl => ?_)
  have loop1 : ∀ (n1 i1 : Nat) (x1_1 : Int64) (H : Heap) (locs : List Loc) (ls : Array Slot), i1 + n1 = bs.length → WF bs i1 x1_1 → va_P D vwCl [] H → va_D A [] → va_S A s.heap H locs → lv_has ls 4 [(3, .int (nI i1)), (1, .long x1_1), (0, .ref (sa k))] → W p l e (headSpec wsX8_packed ({ frames := 4, cells := 0, slots := 0, locals := 85 } : Room)).room s m ([.ref (sa k)] : List Value).toArray below meth c H locs 0 0 (MQ below (va_Ql (fun (r : Int64) (_ : Unit) => r = wf bs bs.length) (fun (_ : Unit) t => Wq D A [] t) A) ([.ref (sa k)] : List Value).toArray s 0 0 A) (F0 m 4 ls []) := by
    intro n1
    induction n1 with
    | zero =>
      intro i1 x1_1 H locs ls hi1 hv0_1 hP hD hS hl
      obtain rfl : bs.length = i1 := by omega
      refine lv_iload_n hx hb dX8_packed_4 rfl (lv_at hl 0 rfl) ?_
      refine lv_aload_n hx hb dX8_packed_5 rfl (lv_at hl 2 rfl) ?_
      obtain ⟨hPc, hDc, hFc⟩ := PDq.cut (wc := []) hP hD hS hA [] (by decide) rfl
      refine va_calli (va_runV (As := []) (rest := [.int (nI bs.length)]) ⟨hx, hb, hml, hown, hts⟩ (c_slength l D cA sa k bs H.size hq) (cwV 0 hts gX8_packed_J0_length_8abf5 rfl rfl rfl (by decide +kernel) ⟨(Nat.le_of_ble_eq_true rfl), (Nat.le_of_ble_eq_true rfl)⟩) ⟨Wd.blind, SO.recv hso hS, fun U hU hW => ⟨rfl, Wd.call hPc hDc hK hC hZ hS hFc U hU hW⟩⟩ rfl rfl hl.1 rfl (lv_room (Nat.le_of_ble_eq_true rfl)) dX8_packed_6 ⟨(Nat.le_of_ble_eq_true rfl), (Nat.le_of_ble_eq_true rfl)⟩) hS (fun q _ h => hFc q h) hFc (fun rn1 u t H1 locs ht hvm hw hB hz1 hk1 hS => ?_)
      obtain ⟨hP1, hD1⟩ := hB
      rw [ht] at hP1
      obtain ⟨hP, hD⟩ := PDq.join (w := []) 0 hP hD [] [] rfl rfl (by decide) (by decide) hk1 hFc hP1 hD1 rfl
      generalize H1 = H at hP hS ⊢
      obtain rfl : rn1 = (nI bs.length) := hw
      refine lv_icmp_ge (tgt := 28) hx hb dX8_packed_9 (by decide) (fun c2 => ?_) (fun c9 => absurd (nI_le (a := bs.length) (b := bs.length) (show bs.length ≤ bs.length by omega) (by omega)) c9)
      refine lv_lload_n hx hb dX8_packed_28 rfl (lv_at hl 1 rfl) ?_
      obtain ⟨hP9, hD9⟩ := PDq.sub (ws' := []) hP hD [] (by decide) rfl
      refine W.widen (k := 0) (n := 0) (Nat.le_of_ble_eq_true rfl) (Nat.le_of_ble_eq_true rfl) ?_
      exact (W.lret (v := x1_1) hx hb hr (fun t ht hW => ⟨⟨x1_1, (), rfl, hv0_1, by rw [ht]; exact hP9, hD9⟩, hS.F ht⟩) hS.2.2 dX8_packed_29)
    | succ n1 ih1 =>
      intro i1 x1_1 H locs ls hi1 hv0_1 hP hD hS hl
      refine lv_iload_n hx hb dX8_packed_4 rfl (lv_at hl 0 rfl) ?_
      refine lv_aload_n hx hb dX8_packed_5 rfl (lv_at hl 2 rfl) ?_
      obtain ⟨hPc, hDc, hFc⟩ := PDq.cut (wc := []) hP hD hS hA [] (by decide) rfl
      refine va_calli (va_runV (As := []) (rest := [.int (nI i1)]) ⟨hx, hb, hml, hown, hts⟩ (c_slength l D cA sa k bs H.size hq) (cwV 0 hts gX8_packed_J0_length_8abf5 rfl rfl rfl (by decide +kernel) ⟨(Nat.le_of_ble_eq_true rfl), (Nat.le_of_ble_eq_true rfl)⟩) ⟨Wd.blind, SO.recv hso hS, fun U hU hW => ⟨rfl, Wd.call hPc hDc hK hC hZ hS hFc U hU hW⟩⟩ rfl rfl hl.1 rfl (lv_room (Nat.le_of_ble_eq_true rfl)) dX8_packed_6 ⟨(Nat.le_of_ble_eq_true rfl), (Nat.le_of_ble_eq_true rfl)⟩) hS (fun q _ h => hFc q h) hFc (fun rn3 u t H1 locs ht hvm hw hB hz1 hk1 hS => ?_)
      obtain ⟨hP1, hD1⟩ := hB
      rw [ht] at hP1
      obtain ⟨hP, hD⟩ := PDq.join (w := []) 0 hP hD [] [] rfl rfl (by decide) (by decide) hk1 hFc hP1 hD1 rfl
      generalize H1 = H at hP hS ⊢
      obtain rfl : rn3 = (nI bs.length) := hw
      refine lv_icmp_ge (tgt := 28) hx hb dX8_packed_9 (by decide) (fun c9 => absurd c9 (nI_ge (a := i1) (b := bs.length) (show i1 < bs.length by omega) (by omega))) (fun c4 => ?_)
      refine lv_lload_n hx hb dX8_packed_12 rfl (lv_at hl 1 rfl) ?_
      refine lv_aload_n hx hb dX8_packed_13 rfl (lv_at hl 2 rfl) ?_
      refine lv_iload_n hx hb dX8_packed_14 rfl (lv_at hl 0 rfl) ?_
      obtain ⟨hPc, hDc, hFc⟩ := PDq.cut (wc := []) hP hD hS hA [] (by decide) rfl
      refine va_calli (va_runV (As := [.int (nI i1)]) (rest := [.long x1_1]) ⟨hx, hb, hml, hown, hts⟩ (c_charAt l D cA sa k i1 bs H.size hq (by omega)) (cwV 1 hts gX8_packed_J0_charAt_5068e rfl rfl rfl (by decide +kernel) ⟨(Nat.le_of_ble_eq_true rfl), (Nat.le_of_ble_eq_true rfl)⟩) ⟨Wd.blind, SO.recv hso hS, fun U hU hW => ⟨rfl, Wd.call hPc hDc hK hC hZ hS hFc U hU hW⟩⟩ rfl rfl hl.1 rfl (lv_room (Nat.le_of_ble_eq_true rfl)) dX8_packed_15 ⟨(Nat.le_of_ble_eq_true rfl), (Nat.le_of_ble_eq_true rfl)⟩) hS (fun q _ h => hFc q h) hFc (fun rn5 u t H1 locs ht hvm hw hB hz1 hk1 hS => ?_)
      obtain ⟨hP1, hD1⟩ := hB
      rw [ht] at hP1
      obtain ⟨hP, hD⟩ := PDq.join (w := []) 0 hP hD [] [] rfl rfl (by decide) (by decide) hk1 hFc hP1 hD1 rfl
      generalize H1 = H at hP hS ⊢
      obtain rfl : rn5 = (bs.getD i1 0) := hw
      obtain ⟨hPc, hDc, hFc⟩ := PDq.cut (wc := []) hP hD hS hA [] (by decide) rfl
      refine va_calll (va_runS (As := [.long x1_1, .int (bs.getD i1 0)]) (rest := []) ⟨hx, hb, hml, hown, hts⟩ (x_withLetter l D cA sa x1_1 (bs.getD i1 0) H.size (hB i1 (by omega))) (va_cwS 2 hts gX8_packed_X8_withLetter rfl rfl rfl (by decide +kernel) ⟨(Nat.le_of_ble_eq_true rfl), (Nat.le_of_ble_eq_true rfl)⟩) ⟨Wd.blind, fun U hU hW => ⟨rfl, Wd.call hPc hDc hK hC hZ hS hFc U hU hW⟩⟩ rfl rfl hl.1 rfl (lv_room (Nat.le_of_ble_eq_true rfl)) dX8_packed_18 ⟨(Nat.le_of_ble_eq_true rfl), (Nat.le_of_ble_eq_true rfl)⟩) hS (fun q _ h => hFc q h) hFc (fun rn6 u t H1 locs ht hvm hw hB hz1 hk1 hS => ?_)
      obtain ⟨hP1, hD1⟩ := hB
      rw [ht] at hP1
      obtain ⟨hP, hD⟩ := PDq.join (w := []) 0 hP hD [] [] rfl rfl (by decide) (by decide) hk1 hFc hP1 hD1 rfl
      generalize H1 = H at hP hS ⊢
      obtain rfl : rn6 = (32 * x1_1 + (bs.getD i1 0).toInt64 - 96) := hw
      refine lv_lstore_n (lv' := [(1, .long (32 * x1_1 + (bs.getD i1 0).toInt64 - 96)), (3, .int (nI i1)), (0, .ref (sa k))]) hx hb dX8_packed_21 rfl hl (by decide) rfl (fun ls hl => ?_)
      refine lv_iinc (v := (nI (i1 + 1))) (lv' := [(3, .int (nI (i1 + 1))), (1, .long (32 * x1_1 + (bs.getD i1 0).toInt64 - 96)), (0, .ref (sa k))]) hx hb dX8_packed_22 hl (k := 1) rfl (nI_1 _) (by decide) rfl (fun ls hl => ?_)
      refine lv_goto (tgt := 4) hx hb dX8_packed_25 (by decide) ?_
      obtain ⟨hP9, hD9⟩ := PDq.sub (ws' := []) hP hD [] (by decide) rfl
      exact ih1 (i1 + 1) (32 * x1_1 + (bs.getD i1 0).toInt64 - 96) H _ ls (by omega) (WF.step hv0_1) hP9 hD9 hS (lv_sub hl [0, 1, 2] rfl)
  obtain ⟨hP9, hD9⟩ := PDq.sub (ws' := []) hP hD [] (by decide) rfl
  exact loop1 (bs.length - 0) 0 0 _ _ ls (by omega) rfl hP9 hD9 hS (lv_sub hl [0, 1, 2] rfl)

set_option maxHeartbeats 4000000 in
set_option maxRecDepth 100000 in
/-- markKeywords -/
theorem x_markKeywords (l : Launch) (D : va_G) (cA : Nat → ClassId) (sa : Nat → Nat) (r1 : Nat) (k1 : Nat) (k2 : Nat) (k3 : Nat) (ct : Nat) (fk : Nat → Int32) (ft : Nat → Int32) (fv : Nat → Int64) (sz : Nat) (hct : ct ≤ 701) : Met l yX5_markKeywords wsX5_markKeywords ({ frames := 5, cells := 0, slots := 0, locals := 108 }) (va_Pc [.ref r1] (Wd D cA sa [(oX5 r1 k1 k2 k3 (nI ct)), (k1, .inl (cA 0, 701, .inl fk)), (k2, .inl (cA 0, 701, .inl ft)), (k3, .inl (cA 1, 701, .inr (.inl fv)))] sz)) (va_Qv (fun _ : Unit => True) (fun (_ : Unit) t => ∃ zk : Nat → Int32, Mk 15 ct fk fv zk ∧ Wq D (va_A [(oX5 r1 k1 k2 k3 (nI ct)), (k1, .inl (cA 0, 701, .inl fk)), (k2, .inl (cA 0, 701, .inl ft)), (k3, .inl (cA 1, 701, .inr (.inl fv)))] sz) [(oX5 r1 k1 k2 k3 (nI ct)), (k1, .inl (cA 0, 701, .inl zk)), (k2, .inl (cA 0, 701, .inl ft)), (k3, .inl (cA 1, 701, .inr (.inl fv)))] t) (va_A [(oX5 r1 k1 k2 k3 (nI ct)), (k1, .inl (cA 0, 701, .inl fk)), (k2, .inl (cA 0, 701, .inl ft)), (k3, .inl (cA 1, 701, .inr (.inl fv)))] sz)) 0 0 (va_A [(oX5 r1 k1 k2 k3 (nI ct)), (k1, .inl (cA 0, 701, .inl fk)), (k2, .inl (cA 0, 701, .inl ft)), (k3, .inl (cA 1, 701, .inr (.inl fv)))] sz) := by
  refine Met.ofW (cc := cX5_markKeywords) (maxL := 5) (ret := none) (by decide) rfl ?_
  intro p e s m args below meth c s₁ B hml hv
  obtain ⟨rfl, hsz, hP, hK, hD0, hC, hZ⟩ := hv
  have hx := B.exec
  have hb := B.bytes
  have hr := B.returns
  have hts := atoms_spec (ws := wsX5_markKeywords) B.pre
  have hown : s.vm.findClass RX5 = some m.cls := findClass_of_methodNamed B.named
  have hlocks := B.notSynchronized
  subst hsz
  have hD := hD0.self (sz := s.heap.size)
  generalize hAe : va_A [(oX5 r1 k1 k2 k3 (nI ct)), (k1, .inl (cA 0, 701, .inl fk)), (k2, .inl (cA 0, 701, .inl ft)), (k3, .inl (cA 1, 701, .inr (.inl fv)))] s.heap.size = A at hD hZ ⊢
  have hA : ∀ q : Nat, s.heap.size ≤ q → A q := fun q h => by rw [← hAe]; exact Or.inr h
  have hS : va_S A s.heap s.heap [] := va_S.rf
  have hP : va_P D vwCl [(oX5 r1 k1 k2 k3 (nI ct)), (k1, .inl (cA 0, 701, .inl fk)), (k2, .inl (cA 0, 701, .inl ft)), (k3, .inl (cA 1, 701, .inr (.inl fv)))] s.heap := hP
  have hl := lv_entry ([.ref r1]) (n := 5) (Nat.le_of_ble_eq_true rfl)
  rw [lg_entry_eq]
  generalize (lg_sl ([.ref r1]) ++ List.replicate (5 - (lg_sl ([.ref r1])).length) Slot.unset).toArray = ls at hl ⊢
  have hl : lv_has ls 5 [(0, .ref r1)] := hl
  have inX5 : ∀ w ∈ u_ws RX5 TX5 4, w ∈ wsX5_markKeywords := by decide +kernel
  refine lv_bipush (v := 8) hx hb dX5_markKeywords_0 (by decide) ?_
  refine lv_istore_n (lv' := [(1, .int 8), (0, .ref r1)]) hx hb dX5_markKeywords_2 rfl hl (by decide) rfl (fun ls hl => ?_)
  refine lv_iload_n hx hb dX5_markKeywords_3 rfl (lv_at hl 0 rfl) ?_
  refine lv_bipush (v := 22) hx hb dX5_markKeywords_4 (by decide) ?_
  refine lv_icmp_gt (tgt := 72) hx hb dX5_markKeywords_6 (by decide) (fun c9 => absurd c9 (by decide)) (fun c1 => ?_)
  refine lv_iload_n hx hb dX5_markKeywords_9 rfl (lv_at hl 0 rfl) ?_
  obtain ⟨hPc, hDc, hFc⟩ := PDq.cut (wc := []) hP hD hS hA [] (by decide) rfl
  refine va_callr (va_runS (As := [.int 8]) (rest := []) ⟨hx, hb, hml, hown, hts⟩ (c_spell_8 l D cA sa  s.heap.size) (va_cwS 1 hts gX5_markKeywords_X7_spelling rfl rfl rfl (by decide +kernel) ⟨(Nat.le_of_ble_eq_true rfl), (Nat.le_of_ble_eq_true rfl)⟩) ⟨Wd.blind, fun U hU hW => ⟨rfl, Wd.call hPc hDc hK hC hZ hS hFc U hU hW⟩⟩ rfl rfl hl.1 rfl (lv_room (Nat.le_of_ble_eq_true rfl)) dX5_markKeywords_10 ⟨(Nat.le_of_ble_eq_true rfl), (Nat.le_of_ble_eq_true rfl)⟩) hS (fun q _ h => hFc q h) hFc (fun u ra t H1 locs ht hvm hw hB hz1 hk1 hS => ?_)
  obtain ⟨hra, hP1, hD1⟩ := hB
  obtain rfl := hra.symm
  rw [ht] at hP1
  obtain ⟨hP, hD⟩ := PDq.join (w := [(oX5 r1 k1 k2 k3 (nI ct)), (k1, .inl (cA 0, 701, .inl fk)), (k2, .inl (cA 0, 701, .inl ft)), (k3, .inl (cA 1, 701, .inr (.inl fv)))]) 4 hP hD [] [0, 1, 2, 3] rfl rfl (by decide) (by decide) hk1 hFc hP1 hD1 rfl
  generalize H1 = H at hP hS ⊢
  obtain ⟨hPc, hDc, hFc⟩ := PDq.cut (wc := []) hP hD hS hA [] (by decide) rfl
  refine va_calll (va_runS (As := [.ref (sa 1)]) (rest := []) ⟨hx, hb, hml, hown, hts⟩ (x_packed l D cA sa 1 ([114, 97, 116, 101]) H.size (by decide +kernel) (by decide +kernel)) (va_cwS 1 hts gX5_markKeywords_X8_packed rfl rfl rfl (by decide +kernel) ⟨(Nat.le_of_ble_eq_true rfl), (Nat.le_of_ble_eq_true rfl)⟩) ⟨Wd.blind, fun U hU hW => ⟨rfl, Wd.call hPc hDc hK hC hZ hS hFc U hU hW⟩⟩ rfl rfl hl.1 rfl (lv_room (Nat.le_of_ble_eq_true rfl)) dX5_markKeywords_13 ⟨(Nat.le_of_ble_eq_true rfl), (Nat.le_of_ble_eq_true rfl)⟩) hS (fun q _ h => hFc q h) hFc (fun rn2 u t H1 locs ht hvm hw hB hz1 hk1 hS => ?_)
  obtain ⟨hP1, hD1⟩ := hB
  rw [ht] at hP1
  obtain ⟨hP, hD⟩ := PDq.join (w := [(oX5 r1 k1 k2 k3 (nI ct)), (k1, .inl (cA 0, 701, .inl fk)), (k2, .inl (cA 0, 701, .inl ft)), (k3, .inl (cA 1, 701, .inr (.inl fv)))]) 4 hP hD [] [0, 1, 2, 3] rfl rfl (by decide) (by decide) hk1 hFc hP1 hD1 rfl
  generalize H1 = H at hP hS ⊢
  obtain rfl : rn2 = 591493 := hw.trans (by decide +kernel)
  refine lv_lstore_n (lv' := [(2, .long 591493), (1, .int 8), (0, .ref r1)]) hx hb dX5_markKeywords_16 rfl hl (by decide) rfl (fun ls hl => ?_)
  refine lv_iconst (v := 0) hx hb dX5_markKeywords_17 (by decide) ?_
  refine lv_istore (lv' := [(4, .int 0), (2, .long 591493), (1, .int 8), (0, .ref r1)]) hx hb dX5_markKeywords_18 hl (by decide) rfl (fun ls hl => ?_)
  have loop1 : ∀ (n1 i1 : Nat) (f1_1 : Nat → Int32) (H : Heap) (locs : List Loc) (ls : Array Slot), i1 + n1 = ct → Rdd f1_1 → Mi 0 ct i1 fk fv f1_1 → va_P D vwCl [(oX5 r1 k1 k2 k3 (nI ct)), (k1, .inl (cA 0, 701, .inl f1_1)), (k2, .inl (cA 0, 701, .inl ft)), (k3, .inl (cA 1, 701, .inr (.inl fv)))] H → va_D A [(oX5 r1 k1 k2 k3 (nI ct)), (k1, .inl (cA 0, 701, .inl f1_1)), (k2, .inl (cA 0, 701, .inl ft)), (k3, .inl (cA 1, 701, .inr (.inl fv)))] → va_S A s.heap H locs → lv_has ls 5 [(4, .int (nI i1)), (2, .long 591493), (1, .int 8), (0, .ref r1)] → W p l e (headSpec wsX5_markKeywords ({ frames := 5, cells := 0, slots := 0, locals := 108 } : Room)).room s m ([.ref r1] : List Value).toArray below meth c H locs 0 0 (MQ below (va_Qv (fun _ : Unit => True) (fun (_ : Unit) t => ∃ zk : Nat → Int32, Mk 15 ct fk fv zk ∧ Wq D A [(oX5 r1 k1 k2 k3 (nI ct)), (k1, .inl (cA 0, 701, .inl zk)), (k2, .inl (cA 0, 701, .inl ft)), (k3, .inl (cA 1, 701, .inr (.inl fv)))] t) A) ([.ref r1] : List Value).toArray s 0 0 A) (F0 m 20 ls []) := by
    intro n1
    induction n1 with
    | zero =>
      intro i1 f1_1 H locs ls hi1 hf0_1 hv0_1 hP hD hS hl
      obtain rfl : ct = i1 := by omega
      refine lv_iload hx hb dX5_markKeywords_20 (lv_at hl 0 rfl) ?_
      refine lv_aload_n hx hb dX5_markKeywords_22 rfl (lv_at hl 3 rfl) ?_
      refine va_get (D := D) (ci := 9) (v := .int (nI ct)) (C := RX5) (T := TX5) (N := 4) hx hb hts inX5 hown hK hP 0 rfl rfl 3 (by decide) (hts (.fieldLink RX5 22 "EscrowDesk$Scanner" "count" "I") (by decide +kernel)) (fun _ h9 => h9) rfl dX5_markKeywords_23 ?_
      refine lv_icmp_ge (tgt := 66) hx hb dX5_markKeywords_26 (by decide) (fun c3 => ?_) (fun c9 => absurd (nI_le (a := ct) (b := ct) (show ct ≤ ct by omega) (by omega)) c9)
      refine lv_iinc (v := 9) (lv' := [(1, .int 9), (4, .int (nI ct)), (2, .long 591493), (0, .ref r1)]) hx hb dX5_markKeywords_66 hl (k := 2) rfl (by first | rfl | decide +kernel) (by decide) rfl (fun ls hl => ?_)
      refine lv_goto (tgt := 3) hx hb dX5_markKeywords_69 (by decide) ?_
      refine lv_iload_n hx hb dX5_markKeywords_3 rfl (lv_at hl 0 rfl) ?_
      refine lv_bipush (v := 22) hx hb dX5_markKeywords_4 (by decide) ?_
      refine lv_icmp_gt (tgt := 72) hx hb dX5_markKeywords_6 (by decide) (fun c9 => absurd c9 (by decide)) (fun c4 => ?_)
      refine lv_iload_n hx hb dX5_markKeywords_9 rfl (lv_at hl 0 rfl) ?_
      obtain ⟨hPc, hDc, hFc⟩ := PDq.cut (wc := []) hP hD hS hA [] (by decide) rfl
      refine va_callr (va_runS (As := [.int 9]) (rest := []) ⟨hx, hb, hml, hown, hts⟩ (c_spell_9 l D cA sa  H.size) (va_cwS 1 hts gX5_markKeywords_X7_spelling rfl rfl rfl (by decide +kernel) ⟨(Nat.le_of_ble_eq_true rfl), (Nat.le_of_ble_eq_true rfl)⟩) ⟨Wd.blind, fun U hU hW => ⟨rfl, Wd.call hPc hDc hK hC hZ hS hFc U hU hW⟩⟩ rfl rfl hl.1 rfl (lv_room (Nat.le_of_ble_eq_true rfl)) dX5_markKeywords_10 ⟨(Nat.le_of_ble_eq_true rfl), (Nat.le_of_ble_eq_true rfl)⟩) hS (fun q _ h => hFc q h) hFc (fun u ra t H1 locs ht hvm hw hB hz1 hk1 hS => ?_)
      obtain ⟨hra, hP1, hD1⟩ := hB
      obtain rfl := hra.symm
      rw [ht] at hP1
      obtain ⟨hP, hD⟩ := PDq.join (w := [(oX5 r1 k1 k2 k3 (nI ct)), (k1, .inl (cA 0, 701, .inl f1_1)), (k2, .inl (cA 0, 701, .inl ft)), (k3, .inl (cA 1, 701, .inr (.inl fv)))]) 4 hP hD [] [0, 1, 2, 3] rfl rfl (by decide) (by decide) hk1 hFc hP1 hD1 rfl
      generalize H1 = H at hP hS ⊢
      obtain ⟨hPc, hDc, hFc⟩ := PDq.cut (wc := []) hP hD hS hA [] (by decide) rfl
      refine va_calll (va_runS (As := [.ref (sa 2)]) (rest := []) ⟨hx, hb, hml, hown, hts⟩ (x_packed l D cA sa 2 ([102, 101, 101]) H.size (by decide +kernel) (by decide +kernel)) (va_cwS 1 hts gX5_markKeywords_X8_packed rfl rfl rfl (by decide +kernel) ⟨(Nat.le_of_ble_eq_true rfl), (Nat.le_of_ble_eq_true rfl)⟩) ⟨Wd.blind, fun U hU hW => ⟨rfl, Wd.call hPc hDc hK hC hZ hS hFc U hU hW⟩⟩ rfl rfl hl.1 rfl (lv_room (Nat.le_of_ble_eq_true rfl)) dX5_markKeywords_13 ⟨(Nat.le_of_ble_eq_true rfl), (Nat.le_of_ble_eq_true rfl)⟩) hS (fun q _ h => hFc q h) hFc (fun rn5 u t H1 locs ht hvm hw hB hz1 hk1 hS => ?_)
      obtain ⟨hP1, hD1⟩ := hB
      rw [ht] at hP1
      obtain ⟨hP, hD⟩ := PDq.join (w := [(oX5 r1 k1 k2 k3 (nI ct)), (k1, .inl (cA 0, 701, .inl f1_1)), (k2, .inl (cA 0, 701, .inl ft)), (k3, .inl (cA 1, 701, .inr (.inl fv)))]) 4 hP hD [] [0, 1, 2, 3] rfl rfl (by decide) (by decide) hk1 hFc hP1 hD1 rfl
      generalize H1 = H at hP hS ⊢
      obtain rfl : rn5 = 6309 := hw.trans (by decide +kernel)
      refine lv_lstore_n (lv' := [(2, .long 6309), (1, .int 9), (4, .int (nI ct)), (0, .ref r1)]) hx hb dX5_markKeywords_16 rfl hl (by decide) rfl (fun ls hl => ?_)
      refine lv_iconst (v := 0) hx hb dX5_markKeywords_17 (by decide) ?_
      refine lv_istore (lv' := [(4, .int 0), (2, .long 6309), (1, .int 9), (0, .ref r1)]) hx hb dX5_markKeywords_18 hl (by decide) rfl (fun ls hl => ?_)
      have loop2 : ∀ (n2 i2 : Nat) (f1_2 : Nat → Int32) (H : Heap) (locs : List Loc) (ls : Array Slot), i2 + n2 = ct → Rdd f1_2 → Mi 1 ct i2 fk fv f1_2 → va_P D vwCl [(oX5 r1 k1 k2 k3 (nI ct)), (k1, .inl (cA 0, 701, .inl f1_2)), (k2, .inl (cA 0, 701, .inl ft)), (k3, .inl (cA 1, 701, .inr (.inl fv)))] H → va_D A [(oX5 r1 k1 k2 k3 (nI ct)), (k1, .inl (cA 0, 701, .inl f1_2)), (k2, .inl (cA 0, 701, .inl ft)), (k3, .inl (cA 1, 701, .inr (.inl fv)))] → va_S A s.heap H locs → lv_has ls 5 [(4, .int (nI i2)), (2, .long 6309), (1, .int 9), (0, .ref r1)] → W p l e (headSpec wsX5_markKeywords ({ frames := 5, cells := 0, slots := 0, locals := 108 } : Room)).room s m ([.ref r1] : List Value).toArray below meth c H locs 0 0 (MQ below (va_Qv (fun _ : Unit => True) (fun (_ : Unit) t => ∃ zk : Nat → Int32, Mk 15 ct fk fv zk ∧ Wq D A [(oX5 r1 k1 k2 k3 (nI ct)), (k1, .inl (cA 0, 701, .inl zk)), (k2, .inl (cA 0, 701, .inl ft)), (k3, .inl (cA 1, 701, .inr (.inl fv)))] t) A) ([.ref r1] : List Value).toArray s 0 0 A) (F0 m 20 ls []) := by
        intro n2
        induction n2 with
        | zero =>
          intro i2 f1_2 H locs ls hi2 hf0_2 hv0_2 hP hD hS hl
          obtain rfl : ct = i2 := by omega
          refine lv_iload hx hb dX5_markKeywords_20 (lv_at hl 0 rfl) ?_
          refine lv_aload_n hx hb dX5_markKeywords_22 rfl (lv_at hl 3 rfl) ?_
          refine va_get (D := D) (ci := 9) (v := .int (nI ct)) (C := RX5) (T := TX5) (N := 4) hx hb hts inX5 hown hK hP 0 rfl rfl 3 (by decide) (hts (.fieldLink RX5 22 "EscrowDesk$Scanner" "count" "I") (by decide +kernel)) (fun _ h9 => h9) rfl dX5_markKeywords_23 ?_
          refine lv_icmp_ge (tgt := 66) hx hb dX5_markKeywords_26 (by decide) (fun c6 => ?_) (fun c9 => absurd (nI_le (a := ct) (b := ct) (show ct ≤ ct by omega) (by omega)) c9)
          refine lv_iinc (v := 10) (lv' := [(1, .int 10), (4, .int (nI ct)), (2, .long 6309), (0, .ref r1)]) hx hb dX5_markKeywords_66 hl (k := 2) rfl (by first | rfl | decide +kernel) (by decide) rfl (fun ls hl => ?_)
          refine lv_goto (tgt := 3) hx hb dX5_markKeywords_69 (by decide) ?_
          refine lv_iload_n hx hb dX5_markKeywords_3 rfl (lv_at hl 0 rfl) ?_
          refine lv_bipush (v := 22) hx hb dX5_markKeywords_4 (by decide) ?_
          refine lv_icmp_gt (tgt := 72) hx hb dX5_markKeywords_6 (by decide) (fun c9 => absurd c9 (by decide)) (fun c7 => ?_)
          refine lv_iload_n hx hb dX5_markKeywords_9 rfl (lv_at hl 0 rfl) ?_
          obtain ⟨hPc, hDc, hFc⟩ := PDq.cut (wc := []) hP hD hS hA [] (by decide) rfl
          refine va_callr (va_runS (As := [.int 10]) (rest := []) ⟨hx, hb, hml, hown, hts⟩ (c_spell_10 l D cA sa  H.size) (va_cwS 1 hts gX5_markKeywords_X7_spelling rfl rfl rfl (by decide +kernel) ⟨(Nat.le_of_ble_eq_true rfl), (Nat.le_of_ble_eq_true rfl)⟩) ⟨Wd.blind, fun U hU hW => ⟨rfl, Wd.call hPc hDc hK hC hZ hS hFc U hU hW⟩⟩ rfl rfl hl.1 rfl (lv_room (Nat.le_of_ble_eq_true rfl)) dX5_markKeywords_10 ⟨(Nat.le_of_ble_eq_true rfl), (Nat.le_of_ble_eq_true rfl)⟩) hS (fun q _ h => hFc q h) hFc (fun u ra t H1 locs ht hvm hw hB hz1 hk1 hS => ?_)
          obtain ⟨hra, hP1, hD1⟩ := hB
          obtain rfl := hra.symm
          rw [ht] at hP1
          obtain ⟨hP, hD⟩ := PDq.join (w := [(oX5 r1 k1 k2 k3 (nI ct)), (k1, .inl (cA 0, 701, .inl f1_2)), (k2, .inl (cA 0, 701, .inl ft)), (k3, .inl (cA 1, 701, .inr (.inl fv)))]) 4 hP hD [] [0, 1, 2, 3] rfl rfl (by decide) (by decide) hk1 hFc hP1 hD1 rfl
          generalize H1 = H at hP hS ⊢
          obtain ⟨hPc, hDc, hFc⟩ := PDq.cut (wc := []) hP hD hS hA [] (by decide) rfl
          refine va_calll (va_runS (As := [.ref (sa 3)]) (rest := []) ⟨hx, hb, hml, hown, hts⟩ (x_packed l D cA sa 3 ([103, 114, 97, 99, 101]) H.size (by decide +kernel) (by decide +kernel)) (va_cwS 1 hts gX5_markKeywords_X8_packed rfl rfl rfl (by decide +kernel) ⟨(Nat.le_of_ble_eq_true rfl), (Nat.le_of_ble_eq_true rfl)⟩) ⟨Wd.blind, fun U hU hW => ⟨rfl, Wd.call hPc hDc hK hC hZ hS hFc U hU hW⟩⟩ rfl rfl hl.1 rfl (lv_room (Nat.le_of_ble_eq_true rfl)) dX5_markKeywords_13 ⟨(Nat.le_of_ble_eq_true rfl), (Nat.le_of_ble_eq_true rfl)⟩) hS (fun q _ h => hFc q h) hFc (fun rn8 u t H1 locs ht hvm hw hB hz1 hk1 hS => ?_)
          obtain ⟨hP1, hD1⟩ := hB
          rw [ht] at hP1
          obtain ⟨hP, hD⟩ := PDq.join (w := [(oX5 r1 k1 k2 k3 (nI ct)), (k1, .inl (cA 0, 701, .inl f1_2)), (k2, .inl (cA 0, 701, .inl ft)), (k3, .inl (cA 1, 701, .inr (.inl fv)))]) 4 hP hD [] [0, 1, 2, 3] rfl rfl (by decide) (by decide) hk1 hFc hP1 hD1 rfl
          generalize H1 = H at hP hS ⊢
          obtain rfl : rn8 = 7930981 := hw.trans (by decide +kernel)
          refine lv_lstore_n (lv' := [(2, .long 7930981), (1, .int 10), (4, .int (nI ct)), (0, .ref r1)]) hx hb dX5_markKeywords_16 rfl hl (by decide) rfl (fun ls hl => ?_)
          refine lv_iconst (v := 0) hx hb dX5_markKeywords_17 (by decide) ?_
          refine lv_istore (lv' := [(4, .int 0), (2, .long 7930981), (1, .int 10), (0, .ref r1)]) hx hb dX5_markKeywords_18 hl (by decide) rfl (fun ls hl => ?_)
          have loop3 : ∀ (n3 i3 : Nat) (f1_3 : Nat → Int32) (H : Heap) (locs : List Loc) (ls : Array Slot), i3 + n3 = ct → Rdd f1_3 → Mi 2 ct i3 fk fv f1_3 → va_P D vwCl [(oX5 r1 k1 k2 k3 (nI ct)), (k1, .inl (cA 0, 701, .inl f1_3)), (k2, .inl (cA 0, 701, .inl ft)), (k3, .inl (cA 1, 701, .inr (.inl fv)))] H → va_D A [(oX5 r1 k1 k2 k3 (nI ct)), (k1, .inl (cA 0, 701, .inl f1_3)), (k2, .inl (cA 0, 701, .inl ft)), (k3, .inl (cA 1, 701, .inr (.inl fv)))] → va_S A s.heap H locs → lv_has ls 5 [(4, .int (nI i3)), (2, .long 7930981), (1, .int 10), (0, .ref r1)] → W p l e (headSpec wsX5_markKeywords ({ frames := 5, cells := 0, slots := 0, locals := 108 } : Room)).room s m ([.ref r1] : List Value).toArray below meth c H locs 0 0 (MQ below (va_Qv (fun _ : Unit => True) (fun (_ : Unit) t => ∃ zk : Nat → Int32, Mk 15 ct fk fv zk ∧ Wq D A [(oX5 r1 k1 k2 k3 (nI ct)), (k1, .inl (cA 0, 701, .inl zk)), (k2, .inl (cA 0, 701, .inl ft)), (k3, .inl (cA 1, 701, .inr (.inl fv)))] t) A) ([.ref r1] : List Value).toArray s 0 0 A) (F0 m 20 ls []) := by
            intro n3
            induction n3 with
            | zero =>
              intro i3 f1_3 H locs ls hi3 hf0_3 hv0_3 hP hD hS hl
              obtain rfl : ct = i3 := by omega
              refine lv_iload hx hb dX5_markKeywords_20 (lv_at hl 0 rfl) ?_
              refine lv_aload_n hx hb dX5_markKeywords_22 rfl (lv_at hl 3 rfl) ?_
              refine va_get (D := D) (ci := 9) (v := .int (nI ct)) (C := RX5) (T := TX5) (N := 4) hx hb hts inX5 hown hK hP 0 rfl rfl 3 (by decide) (hts (.fieldLink RX5 22 "EscrowDesk$Scanner" "count" "I") (by decide +kernel)) (fun _ h9 => h9) rfl dX5_markKeywords_23 ?_
              refine lv_icmp_ge (tgt := 66) hx hb dX5_markKeywords_26 (by decide) (fun c9 => ?_) (fun c9 => absurd (nI_le (a := ct) (b := ct) (show ct ≤ ct by omega) (by omega)) c9)
              refine lv_iinc (v := 11) (lv' := [(1, .int 11), (4, .int (nI ct)), (2, .long 7930981), (0, .ref r1)]) hx hb dX5_markKeywords_66 hl (k := 2) rfl (by first | rfl | decide +kernel) (by decide) rfl (fun ls hl => ?_)
              refine lv_goto (tgt := 3) hx hb dX5_markKeywords_69 (by decide) ?_
              refine lv_iload_n hx hb dX5_markKeywords_3 rfl (lv_at hl 0 rfl) ?_
              refine lv_bipush (v := 22) hx hb dX5_markKeywords_4 (by decide) ?_
              refine lv_icmp_gt (tgt := 72) hx hb dX5_markKeywords_6 (by decide) (fun c9 => absurd c9 (by decide)) (fun c10 => ?_)
              refine lv_iload_n hx hb dX5_markKeywords_9 rfl (lv_at hl 0 rfl) ?_
              obtain ⟨hPc, hDc, hFc⟩ := PDq.cut (wc := []) hP hD hS hA [] (by decide) rfl
              refine va_callr (va_runS (As := [.int 11]) (rest := []) ⟨hx, hb, hml, hown, hts⟩ (c_spell_11 l D cA sa  H.size) (va_cwS 1 hts gX5_markKeywords_X7_spelling rfl rfl rfl (by decide +kernel) ⟨(Nat.le_of_ble_eq_true rfl), (Nat.le_of_ble_eq_true rfl)⟩) ⟨Wd.blind, fun U hU hW => ⟨rfl, Wd.call hPc hDc hK hC hZ hS hFc U hU hW⟩⟩ rfl rfl hl.1 rfl (lv_room (Nat.le_of_ble_eq_true rfl)) dX5_markKeywords_10 ⟨(Nat.le_of_ble_eq_true rfl), (Nat.le_of_ble_eq_true rfl)⟩) hS (fun q _ h => hFc q h) hFc (fun u ra t H1 locs ht hvm hw hB hz1 hk1 hS => ?_)
              obtain ⟨hra, hP1, hD1⟩ := hB
              obtain rfl := hra.symm
              rw [ht] at hP1
              obtain ⟨hP, hD⟩ := PDq.join (w := [(oX5 r1 k1 k2 k3 (nI ct)), (k1, .inl (cA 0, 701, .inl f1_3)), (k2, .inl (cA 0, 701, .inl ft)), (k3, .inl (cA 1, 701, .inr (.inl fv)))]) 4 hP hD [] [0, 1, 2, 3] rfl rfl (by decide) (by decide) hk1 hFc hP1 hD1 rfl
              generalize H1 = H at hP hS ⊢
              obtain ⟨hPc, hDc, hFc⟩ := PDq.cut (wc := []) hP hD hS hA [] (by decide) rfl
              refine va_calll (va_runS (As := [.ref (sa 4)]) (rest := []) ⟨hx, hb, hml, hown, hts⟩ (x_packed l D cA sa 4 ([100, 101, 112, 111, 115, 105, 116]) H.size (by decide +kernel) (by decide +kernel)) (va_cwS 1 hts gX5_markKeywords_X8_packed rfl rfl rfl (by decide +kernel) ⟨(Nat.le_of_ble_eq_true rfl), (Nat.le_of_ble_eq_true rfl)⟩) ⟨Wd.blind, fun U hU hW => ⟨rfl, Wd.call hPc hDc hK hC hZ hS hFc U hU hW⟩⟩ rfl rfl hl.1 rfl (lv_room (Nat.le_of_ble_eq_true rfl)) dX5_markKeywords_13 ⟨(Nat.le_of_ble_eq_true rfl), (Nat.le_of_ble_eq_true rfl)⟩) hS (fun q _ h => hFc q h) hFc (fun rn11 u t H1 locs ht hvm hw hB hz1 hk1 hS => ?_)
              obtain ⟨hP1, hD1⟩ := hB
              rw [ht] at hP1
              obtain ⟨hP, hD⟩ := PDq.join (w := [(oX5 r1 k1 k2 k3 (nI ct)), (k1, .inl (cA 0, 701, .inl f1_3)), (k2, .inl (cA 0, 701, .inl ft)), (k3, .inl (cA 1, 701, .inr (.inl fv)))]) 4 hP hD [] [0, 1, 2, 3] rfl rfl (by decide) (by decide) hk1 hFc hP1 hD1 rfl
              generalize H1 = H at hP hS ⊢
              obtain rfl : rn11 = 4480027956 := hw.trans (by decide +kernel)
              refine lv_lstore_n (lv' := [(2, .long 4480027956), (1, .int 11), (4, .int (nI ct)), (0, .ref r1)]) hx hb dX5_markKeywords_16 rfl hl (by decide) rfl (fun ls hl => ?_)
              refine lv_iconst (v := 0) hx hb dX5_markKeywords_17 (by decide) ?_
              refine lv_istore (lv' := [(4, .int 0), (2, .long 4480027956), (1, .int 11), (0, .ref r1)]) hx hb dX5_markKeywords_18 hl (by decide) rfl (fun ls hl => ?_)
              have loop4 : ∀ (n4 i4 : Nat) (f1_4 : Nat → Int32) (H : Heap) (locs : List Loc) (ls : Array Slot), i4 + n4 = ct → Rdd f1_4 → Mi 3 ct i4 fk fv f1_4 → va_P D vwCl [(oX5 r1 k1 k2 k3 (nI ct)), (k1, .inl (cA 0, 701, .inl f1_4)), (k2, .inl (cA 0, 701, .inl ft)), (k3, .inl (cA 1, 701, .inr (.inl fv)))] H → va_D A [(oX5 r1 k1 k2 k3 (nI ct)), (k1, .inl (cA 0, 701, .inl f1_4)), (k2, .inl (cA 0, 701, .inl ft)), (k3, .inl (cA 1, 701, .inr (.inl fv)))] → va_S A s.heap H locs → lv_has ls 5 [(4, .int (nI i4)), (2, .long 4480027956), (1, .int 11), (0, .ref r1)] → W p l e (headSpec wsX5_markKeywords ({ frames := 5, cells := 0, slots := 0, locals := 108 } : Room)).room s m ([.ref r1] : List Value).toArray below meth c H locs 0 0 (MQ below (va_Qv (fun _ : Unit => True) (fun (_ : Unit) t => ∃ zk : Nat → Int32, Mk 15 ct fk fv zk ∧ Wq D A [(oX5 r1 k1 k2 k3 (nI ct)), (k1, .inl (cA 0, 701, .inl zk)), (k2, .inl (cA 0, 701, .inl ft)), (k3, .inl (cA 1, 701, .inr (.inl fv)))] t) A) ([.ref r1] : List Value).toArray s 0 0 A) (F0 m 20 ls []) := by
                intro n4
                induction n4 with
                | zero =>
                  intro i4 f1_4 H locs ls hi4 hf0_4 hv0_4 hP hD hS hl
                  obtain rfl : ct = i4 := by omega
                  refine lv_iload hx hb dX5_markKeywords_20 (lv_at hl 0 rfl) ?_
                  refine lv_aload_n hx hb dX5_markKeywords_22 rfl (lv_at hl 3 rfl) ?_
                  refine va_get (D := D) (ci := 9) (v := .int (nI ct)) (C := RX5) (T := TX5) (N := 4) hx hb hts inX5 hown hK hP 0 rfl rfl 3 (by decide) (hts (.fieldLink RX5 22 "EscrowDesk$Scanner" "count" "I") (by decide +kernel)) (fun _ h9 => h9) rfl dX5_markKeywords_23 ?_
                  refine lv_icmp_ge (tgt := 66) hx hb dX5_markKeywords_26 (by decide) (fun c12 => ?_) (fun c9 => absurd (nI_le (a := ct) (b := ct) (show ct ≤ ct by omega) (by omega)) c9)
                  refine lv_iinc (v := 12) (lv' := [(1, .int 12), (4, .int (nI ct)), (2, .long 4480027956), (0, .ref r1)]) hx hb dX5_markKeywords_66 hl (k := 2) rfl (by first | rfl | decide +kernel) (by decide) rfl (fun ls hl => ?_)
                  refine lv_goto (tgt := 3) hx hb dX5_markKeywords_69 (by decide) ?_
                  refine lv_iload_n hx hb dX5_markKeywords_3 rfl (lv_at hl 0 rfl) ?_
                  refine lv_bipush (v := 22) hx hb dX5_markKeywords_4 (by decide) ?_
                  refine lv_icmp_gt (tgt := 72) hx hb dX5_markKeywords_6 (by decide) (fun c9 => absurd c9 (by decide)) (fun c13 => ?_)
                  refine lv_iload_n hx hb dX5_markKeywords_9 rfl (lv_at hl 0 rfl) ?_
                  obtain ⟨hPc, hDc, hFc⟩ := PDq.cut (wc := []) hP hD hS hA [] (by decide) rfl
                  refine va_callr (va_runS (As := [.int 12]) (rest := []) ⟨hx, hb, hml, hown, hts⟩ (c_spell_12 l D cA sa  H.size) (va_cwS 1 hts gX5_markKeywords_X7_spelling rfl rfl rfl (by decide +kernel) ⟨(Nat.le_of_ble_eq_true rfl), (Nat.le_of_ble_eq_true rfl)⟩) ⟨Wd.blind, fun U hU hW => ⟨rfl, Wd.call hPc hDc hK hC hZ hS hFc U hU hW⟩⟩ rfl rfl hl.1 rfl (lv_room (Nat.le_of_ble_eq_true rfl)) dX5_markKeywords_10 ⟨(Nat.le_of_ble_eq_true rfl), (Nat.le_of_ble_eq_true rfl)⟩) hS (fun q _ h => hFc q h) hFc (fun u ra t H1 locs ht hvm hw hB hz1 hk1 hS => ?_)
                  obtain ⟨hra, hP1, hD1⟩ := hB
                  obtain rfl := hra.symm
                  rw [ht] at hP1
                  obtain ⟨hP, hD⟩ := PDq.join (w := [(oX5 r1 k1 k2 k3 (nI ct)), (k1, .inl (cA 0, 701, .inl f1_4)), (k2, .inl (cA 0, 701, .inl ft)), (k3, .inl (cA 1, 701, .inr (.inl fv)))]) 4 hP hD [] [0, 1, 2, 3] rfl rfl (by decide) (by decide) hk1 hFc hP1 hD1 rfl
                  generalize H1 = H at hP hS ⊢
                  obtain ⟨hPc, hDc, hFc⟩ := PDq.cut (wc := []) hP hD hS hA [] (by decide) rfl
                  refine va_calll (va_runS (As := [.ref (sa 5)]) (rest := []) ⟨hx, hb, hml, hown, hts⟩ (x_packed l D cA sa 5 ([109, 105, 108, 101, 115, 116, 111, 110, 101]) H.size (by decide +kernel) (by decide +kernel)) (va_cwS 1 hts gX5_markKeywords_X8_packed rfl rfl rfl (by decide +kernel) ⟨(Nat.le_of_ble_eq_true rfl), (Nat.le_of_ble_eq_true rfl)⟩) ⟨Wd.blind, fun U hU hW => ⟨rfl, Wd.call hPc hDc hK hC hZ hS hFc U hU hW⟩⟩ rfl rfl hl.1 rfl (lv_room (Nat.le_of_ble_eq_true rfl)) dX5_markKeywords_13 ⟨(Nat.le_of_ble_eq_true rfl), (Nat.le_of_ble_eq_true rfl)⟩) hS (fun q _ h => hFc q h) hFc (fun rn14 u t H1 locs ht hvm hw hB hz1 hk1 hS => ?_)
                  obtain ⟨hP1, hD1⟩ := hB
                  rw [ht] at hP1
                  obtain ⟨hP, hD⟩ := PDq.join (w := [(oX5 r1 k1 k2 k3 (nI ct)), (k1, .inl (cA 0, 701, .inl f1_4)), (k2, .inl (cA 0, 701, .inl ft)), (k3, .inl (cA 1, 701, .inr (.inl fv)))]) 4 hP hD [] [0, 1, 2, 3] rfl rfl (by decide) (by decide) hk1 hFc hP1 hD1 rfl
                  generalize H1 = H at hP hS ⊢
                  obtain rfl : rn14 = 14615962074565 := hw.trans (by decide +kernel)
                  refine lv_lstore_n (lv' := [(2, .long 14615962074565), (1, .int 12), (4, .int (nI ct)), (0, .ref r1)]) hx hb dX5_markKeywords_16 rfl hl (by decide) rfl (fun ls hl => ?_)
                  refine lv_iconst (v := 0) hx hb dX5_markKeywords_17 (by decide) ?_
                  refine lv_istore (lv' := [(4, .int 0), (2, .long 14615962074565), (1, .int 12), (0, .ref r1)]) hx hb dX5_markKeywords_18 hl (by decide) rfl (fun ls hl => ?_)
                  have loop5 : ∀ (n5 i5 : Nat) (f1_5 : Nat → Int32) (H : Heap) (locs : List Loc) (ls : Array Slot), i5 + n5 = ct → Rdd f1_5 → Mi 4 ct i5 fk fv f1_5 → va_P D vwCl [(oX5 r1 k1 k2 k3 (nI ct)), (k1, .inl (cA 0, 701, .inl f1_5)), (k2, .inl (cA 0, 701, .inl ft)), (k3, .inl (cA 1, 701, .inr (.inl fv)))] H → va_D A [(oX5 r1 k1 k2 k3 (nI ct)), (k1, .inl (cA 0, 701, .inl f1_5)), (k2, .inl (cA 0, 701, .inl ft)), (k3, .inl (cA 1, 701, .inr (.inl fv)))] → va_S A s.heap H locs → lv_has ls 5 [(4, .int (nI i5)), (2, .long 14615962074565), (1, .int 12), (0, .ref r1)] → W p l e (headSpec wsX5_markKeywords ({ frames := 5, cells := 0, slots := 0, locals := 108 } : Room)).room s m ([.ref r1] : List Value).toArray below meth c H locs 0 0 (MQ below (va_Qv (fun _ : Unit => True) (fun (_ : Unit) t => ∃ zk : Nat → Int32, Mk 15 ct fk fv zk ∧ Wq D A [(oX5 r1 k1 k2 k3 (nI ct)), (k1, .inl (cA 0, 701, .inl zk)), (k2, .inl (cA 0, 701, .inl ft)), (k3, .inl (cA 1, 701, .inr (.inl fv)))] t) A) ([.ref r1] : List Value).toArray s 0 0 A) (F0 m 20 ls []) := by
                    intro n5
                    induction n5 with
                    | zero =>
                      intro i5 f1_5 H locs ls hi5 hf0_5 hv0_5 hP hD hS hl
                      obtain rfl : ct = i5 := by omega
                      refine lv_iload hx hb dX5_markKeywords_20 (lv_at hl 0 rfl) ?_
                      refine lv_aload_n hx hb dX5_markKeywords_22 rfl (lv_at hl 3 rfl) ?_
                      refine va_get (D := D) (ci := 9) (v := .int (nI ct)) (C := RX5) (T := TX5) (N := 4) hx hb hts inX5 hown hK hP 0 rfl rfl 3 (by decide) (hts (.fieldLink RX5 22 "EscrowDesk$Scanner" "count" "I") (by decide +kernel)) (fun _ h9 => h9) rfl dX5_markKeywords_23 ?_
                      refine lv_icmp_ge (tgt := 66) hx hb dX5_markKeywords_26 (by decide) (fun c15 => ?_) (fun c9 => absurd (nI_le (a := ct) (b := ct) (show ct ≤ ct by omega) (by omega)) c9)
                      refine lv_iinc (v := 13) (lv' := [(1, .int 13), (4, .int (nI ct)), (2, .long 14615962074565), (0, .ref r1)]) hx hb dX5_markKeywords_66 hl (k := 2) rfl (by first | rfl | decide +kernel) (by decide) rfl (fun ls hl => ?_)
                      refine lv_goto (tgt := 3) hx hb dX5_markKeywords_69 (by decide) ?_
                      refine lv_iload_n hx hb dX5_markKeywords_3 rfl (lv_at hl 0 rfl) ?_
                      refine lv_bipush (v := 22) hx hb dX5_markKeywords_4 (by decide) ?_
                      refine lv_icmp_gt (tgt := 72) hx hb dX5_markKeywords_6 (by decide) (fun c9 => absurd c9 (by decide)) (fun c16 => ?_)
                      refine lv_iload_n hx hb dX5_markKeywords_9 rfl (lv_at hl 0 rfl) ?_
                      obtain ⟨hPc, hDc, hFc⟩ := PDq.cut (wc := []) hP hD hS hA [] (by decide) rfl
                      refine va_callr (va_runS (As := [.int 13]) (rest := []) ⟨hx, hb, hml, hown, hts⟩ (c_spell_13 l D cA sa  H.size) (va_cwS 1 hts gX5_markKeywords_X7_spelling rfl rfl rfl (by decide +kernel) ⟨(Nat.le_of_ble_eq_true rfl), (Nat.le_of_ble_eq_true rfl)⟩) ⟨Wd.blind, fun U hU hW => ⟨rfl, Wd.call hPc hDc hK hC hZ hS hFc U hU hW⟩⟩ rfl rfl hl.1 rfl (lv_room (Nat.le_of_ble_eq_true rfl)) dX5_markKeywords_10 ⟨(Nat.le_of_ble_eq_true rfl), (Nat.le_of_ble_eq_true rfl)⟩) hS (fun q _ h => hFc q h) hFc (fun u ra t H1 locs ht hvm hw hB hz1 hk1 hS => ?_)
                      obtain ⟨hra, hP1, hD1⟩ := hB
                      obtain rfl := hra.symm
                      rw [ht] at hP1
                      obtain ⟨hP, hD⟩ := PDq.join (w := [(oX5 r1 k1 k2 k3 (nI ct)), (k1, .inl (cA 0, 701, .inl f1_5)), (k2, .inl (cA 0, 701, .inl ft)), (k3, .inl (cA 1, 701, .inr (.inl fv)))]) 4 hP hD [] [0, 1, 2, 3] rfl rfl (by decide) (by decide) hk1 hFc hP1 hD1 rfl
                      generalize H1 = H at hP hS ⊢
                      obtain ⟨hPc, hDc, hFc⟩ := PDq.cut (wc := []) hP hD hS hA [] (by decide) rfl
                      refine va_calll (va_runS (As := [.ref (sa 6)]) (rest := []) ⟨hx, hb, hml, hown, hts⟩ (x_packed l D cA sa 6 ([119, 104, 101, 110]) H.size (by decide +kernel) (by decide +kernel)) (va_cwS 1 hts gX5_markKeywords_X8_packed rfl rfl rfl (by decide +kernel) ⟨(Nat.le_of_ble_eq_true rfl), (Nat.le_of_ble_eq_true rfl)⟩) ⟨Wd.blind, fun U hU hW => ⟨rfl, Wd.call hPc hDc hK hC hZ hS hFc U hU hW⟩⟩ rfl rfl hl.1 rfl (lv_room (Nat.le_of_ble_eq_true rfl)) dX5_markKeywords_13 ⟨(Nat.le_of_ble_eq_true rfl), (Nat.le_of_ble_eq_true rfl)⟩) hS (fun q _ h => hFc q h) hFc (fun rn17 u t H1 locs ht hvm hw hB hz1 hk1 hS => ?_)
                      obtain ⟨hP1, hD1⟩ := hB
                      rw [ht] at hP1
                      obtain ⟨hP, hD⟩ := PDq.join (w := [(oX5 r1 k1 k2 k3 (nI ct)), (k1, .inl (cA 0, 701, .inl f1_5)), (k2, .inl (cA 0, 701, .inl ft)), (k3, .inl (cA 1, 701, .inr (.inl fv)))]) 4 hP hD [] [0, 1, 2, 3] rfl rfl (by decide) (by decide) hk1 hFc hP1 hD1 rfl
                      generalize H1 = H at hP hS ⊢
                      obtain rfl : rn17 = 762030 := hw.trans (by decide +kernel)
                      refine lv_lstore_n (lv' := [(2, .long 762030), (1, .int 13), (4, .int (nI ct)), (0, .ref r1)]) hx hb dX5_markKeywords_16 rfl hl (by decide) rfl (fun ls hl => ?_)
                      refine lv_iconst (v := 0) hx hb dX5_markKeywords_17 (by decide) ?_
                      refine lv_istore (lv' := [(4, .int 0), (2, .long 762030), (1, .int 13), (0, .ref r1)]) hx hb dX5_markKeywords_18 hl (by decide) rfl (fun ls hl => ?_)
                      have loop6 : ∀ (n6 i6 : Nat) (f1_6 : Nat → Int32) (H : Heap) (locs : List Loc) (ls : Array Slot), i6 + n6 = ct → Rdd f1_6 → Mi 5 ct i6 fk fv f1_6 → va_P D vwCl [(oX5 r1 k1 k2 k3 (nI ct)), (k1, .inl (cA 0, 701, .inl f1_6)), (k2, .inl (cA 0, 701, .inl ft)), (k3, .inl (cA 1, 701, .inr (.inl fv)))] H → va_D A [(oX5 r1 k1 k2 k3 (nI ct)), (k1, .inl (cA 0, 701, .inl f1_6)), (k2, .inl (cA 0, 701, .inl ft)), (k3, .inl (cA 1, 701, .inr (.inl fv)))] → va_S A s.heap H locs → lv_has ls 5 [(4, .int (nI i6)), (2, .long 762030), (1, .int 13), (0, .ref r1)] → W p l e (headSpec wsX5_markKeywords ({ frames := 5, cells := 0, slots := 0, locals := 108 } : Room)).room s m ([.ref r1] : List Value).toArray below meth c H locs 0 0 (MQ below (va_Qv (fun _ : Unit => True) (fun (_ : Unit) t => ∃ zk : Nat → Int32, Mk 15 ct fk fv zk ∧ Wq D A [(oX5 r1 k1 k2 k3 (nI ct)), (k1, .inl (cA 0, 701, .inl zk)), (k2, .inl (cA 0, 701, .inl ft)), (k3, .inl (cA 1, 701, .inr (.inl fv)))] t) A) ([.ref r1] : List Value).toArray s 0 0 A) (F0 m 20 ls []) := by
                        intro n6
                        induction n6 with
                        | zero =>
                          intro i6 f1_6 H locs ls hi6 hf0_6 hv0_6 hP hD hS hl
                          obtain rfl : ct = i6 := by omega
                          refine lv_iload hx hb dX5_markKeywords_20 (lv_at hl 0 rfl) ?_
                          refine lv_aload_n hx hb dX5_markKeywords_22 rfl (lv_at hl 3 rfl) ?_
                          refine va_get (D := D) (ci := 9) (v := .int (nI ct)) (C := RX5) (T := TX5) (N := 4) hx hb hts inX5 hown hK hP 0 rfl rfl 3 (by decide) (hts (.fieldLink RX5 22 "EscrowDesk$Scanner" "count" "I") (by decide +kernel)) (fun _ h9 => h9) rfl dX5_markKeywords_23 ?_
                          refine lv_icmp_ge (tgt := 66) hx hb dX5_markKeywords_26 (by decide) (fun c18 => ?_) (fun c9 => absurd (nI_le (a := ct) (b := ct) (show ct ≤ ct by omega) (by omega)) c9)
                          refine lv_iinc (v := 14) (lv' := [(1, .int 14), (4, .int (nI ct)), (2, .long 762030), (0, .ref r1)]) hx hb dX5_markKeywords_66 hl (k := 2) rfl (by first | rfl | decide +kernel) (by decide) rfl (fun ls hl => ?_)
                          refine lv_goto (tgt := 3) hx hb dX5_markKeywords_69 (by decide) ?_
                          refine lv_iload_n hx hb dX5_markKeywords_3 rfl (lv_at hl 0 rfl) ?_
                          refine lv_bipush (v := 22) hx hb dX5_markKeywords_4 (by decide) ?_
                          refine lv_icmp_gt (tgt := 72) hx hb dX5_markKeywords_6 (by decide) (fun c9 => absurd c9 (by decide)) (fun c19 => ?_)
                          refine lv_iload_n hx hb dX5_markKeywords_9 rfl (lv_at hl 0 rfl) ?_
                          obtain ⟨hPc, hDc, hFc⟩ := PDq.cut (wc := []) hP hD hS hA [] (by decide) rfl
                          refine va_callr (va_runS (As := [.int 14]) (rest := []) ⟨hx, hb, hml, hown, hts⟩ (c_spell_14 l D cA sa  H.size) (va_cwS 1 hts gX5_markKeywords_X7_spelling rfl rfl rfl (by decide +kernel) ⟨(Nat.le_of_ble_eq_true rfl), (Nat.le_of_ble_eq_true rfl)⟩) ⟨Wd.blind, fun U hU hW => ⟨rfl, Wd.call hPc hDc hK hC hZ hS hFc U hU hW⟩⟩ rfl rfl hl.1 rfl (lv_room (Nat.le_of_ble_eq_true rfl)) dX5_markKeywords_10 ⟨(Nat.le_of_ble_eq_true rfl), (Nat.le_of_ble_eq_true rfl)⟩) hS (fun q _ h => hFc q h) hFc (fun u ra t H1 locs ht hvm hw hB hz1 hk1 hS => ?_)
                          obtain ⟨hra, hP1, hD1⟩ := hB
                          obtain rfl := hra.symm
                          rw [ht] at hP1
                          obtain ⟨hP, hD⟩ := PDq.join (w := [(oX5 r1 k1 k2 k3 (nI ct)), (k1, .inl (cA 0, 701, .inl f1_6)), (k2, .inl (cA 0, 701, .inl ft)), (k3, .inl (cA 1, 701, .inr (.inl fv)))]) 4 hP hD [] [0, 1, 2, 3] rfl rfl (by decide) (by decide) hk1 hFc hP1 hD1 rfl
                          generalize H1 = H at hP hS ⊢
                          obtain ⟨hPc, hDc, hFc⟩ := PDq.cut (wc := []) hP hD hS hA [] (by decide) rfl
                          refine va_calll (va_runS (As := [.ref (sa 7)]) (rest := []) ⟨hx, hb, hml, hown, hts⟩ (x_packed l D cA sa 7 ([111, 114]) H.size (by decide +kernel) (by decide +kernel)) (va_cwS 1 hts gX5_markKeywords_X8_packed rfl rfl rfl (by decide +kernel) ⟨(Nat.le_of_ble_eq_true rfl), (Nat.le_of_ble_eq_true rfl)⟩) ⟨Wd.blind, fun U hU hW => ⟨rfl, Wd.call hPc hDc hK hC hZ hS hFc U hU hW⟩⟩ rfl rfl hl.1 rfl (lv_room (Nat.le_of_ble_eq_true rfl)) dX5_markKeywords_13 ⟨(Nat.le_of_ble_eq_true rfl), (Nat.le_of_ble_eq_true rfl)⟩) hS (fun q _ h => hFc q h) hFc (fun rn20 u t H1 locs ht hvm hw hB hz1 hk1 hS => ?_)
                          obtain ⟨hP1, hD1⟩ := hB
                          rw [ht] at hP1
                          obtain ⟨hP, hD⟩ := PDq.join (w := [(oX5 r1 k1 k2 k3 (nI ct)), (k1, .inl (cA 0, 701, .inl f1_6)), (k2, .inl (cA 0, 701, .inl ft)), (k3, .inl (cA 1, 701, .inr (.inl fv)))]) 4 hP hD [] [0, 1, 2, 3] rfl rfl (by decide) (by decide) hk1 hFc hP1 hD1 rfl
                          generalize H1 = H at hP hS ⊢
                          obtain rfl : rn20 = 498 := hw.trans (by decide +kernel)
                          refine lv_lstore_n (lv' := [(2, .long 498), (1, .int 14), (4, .int (nI ct)), (0, .ref r1)]) hx hb dX5_markKeywords_16 rfl hl (by decide) rfl (fun ls hl => ?_)
                          refine lv_iconst (v := 0) hx hb dX5_markKeywords_17 (by decide) ?_
                          refine lv_istore (lv' := [(4, .int 0), (2, .long 498), (1, .int 14), (0, .ref r1)]) hx hb dX5_markKeywords_18 hl (by decide) rfl (fun ls hl => ?_)
                          have loop7 : ∀ (n7 i7 : Nat) (f1_7 : Nat → Int32) (H : Heap) (locs : List Loc) (ls : Array Slot), i7 + n7 = ct → Rdd f1_7 → Mi 6 ct i7 fk fv f1_7 → va_P D vwCl [(oX5 r1 k1 k2 k3 (nI ct)), (k1, .inl (cA 0, 701, .inl f1_7)), (k2, .inl (cA 0, 701, .inl ft)), (k3, .inl (cA 1, 701, .inr (.inl fv)))] H → va_D A [(oX5 r1 k1 k2 k3 (nI ct)), (k1, .inl (cA 0, 701, .inl f1_7)), (k2, .inl (cA 0, 701, .inl ft)), (k3, .inl (cA 1, 701, .inr (.inl fv)))] → va_S A s.heap H locs → lv_has ls 5 [(4, .int (nI i7)), (2, .long 498), (1, .int 14), (0, .ref r1)] → W p l e (headSpec wsX5_markKeywords ({ frames := 5, cells := 0, slots := 0, locals := 108 } : Room)).room s m ([.ref r1] : List Value).toArray below meth c H locs 0 0 (MQ below (va_Qv (fun _ : Unit => True) (fun (_ : Unit) t => ∃ zk : Nat → Int32, Mk 15 ct fk fv zk ∧ Wq D A [(oX5 r1 k1 k2 k3 (nI ct)), (k1, .inl (cA 0, 701, .inl zk)), (k2, .inl (cA 0, 701, .inl ft)), (k3, .inl (cA 1, 701, .inr (.inl fv)))] t) A) ([.ref r1] : List Value).toArray s 0 0 A) (F0 m 20 ls []) := by
                            intro n7
                            induction n7 with
                            | zero =>
                              intro i7 f1_7 H locs ls hi7 hf0_7 hv0_7 hP hD hS hl
                              obtain rfl : ct = i7 := by omega
                              refine lv_iload hx hb dX5_markKeywords_20 (lv_at hl 0 rfl) ?_
                              refine lv_aload_n hx hb dX5_markKeywords_22 rfl (lv_at hl 3 rfl) ?_
                              refine va_get (D := D) (ci := 9) (v := .int (nI ct)) (C := RX5) (T := TX5) (N := 4) hx hb hts inX5 hown hK hP 0 rfl rfl 3 (by decide) (hts (.fieldLink RX5 22 "EscrowDesk$Scanner" "count" "I") (by decide +kernel)) (fun _ h9 => h9) rfl dX5_markKeywords_23 ?_
                              refine lv_icmp_ge (tgt := 66) hx hb dX5_markKeywords_26 (by decide) (fun c21 => ?_) (fun c9 => absurd (nI_le (a := ct) (b := ct) (show ct ≤ ct by omega) (by omega)) c9)
                              refine lv_iinc (v := 15) (lv' := [(1, .int 15), (4, .int (nI ct)), (2, .long 498), (0, .ref r1)]) hx hb dX5_markKeywords_66 hl (k := 2) rfl (by first | rfl | decide +kernel) (by decide) rfl (fun ls hl => ?_)
                              refine lv_goto (tgt := 3) hx hb dX5_markKeywords_69 (by decide) ?_
                              refine lv_iload_n hx hb dX5_markKeywords_3 rfl (lv_at hl 0 rfl) ?_
                              refine lv_bipush (v := 22) hx hb dX5_markKeywords_4 (by decide) ?_
                              refine lv_icmp_gt (tgt := 72) hx hb dX5_markKeywords_6 (by decide) (fun c9 => absurd c9 (by decide)) (fun c22 => ?_)
                              refine lv_iload_n hx hb dX5_markKeywords_9 rfl (lv_at hl 0 rfl) ?_
                              obtain ⟨hPc, hDc, hFc⟩ := PDq.cut (wc := []) hP hD hS hA [] (by decide) rfl
                              refine va_callr (va_runS (As := [.int 15]) (rest := []) ⟨hx, hb, hml, hown, hts⟩ (c_spell_15 l D cA sa  H.size) (va_cwS 1 hts gX5_markKeywords_X7_spelling rfl rfl rfl (by decide +kernel) ⟨(Nat.le_of_ble_eq_true rfl), (Nat.le_of_ble_eq_true rfl)⟩) ⟨Wd.blind, fun U hU hW => ⟨rfl, Wd.call hPc hDc hK hC hZ hS hFc U hU hW⟩⟩ rfl rfl hl.1 rfl (lv_room (Nat.le_of_ble_eq_true rfl)) dX5_markKeywords_10 ⟨(Nat.le_of_ble_eq_true rfl), (Nat.le_of_ble_eq_true rfl)⟩) hS (fun q _ h => hFc q h) hFc (fun u ra t H1 locs ht hvm hw hB hz1 hk1 hS => ?_)
                              obtain ⟨hra, hP1, hD1⟩ := hB
                              obtain rfl := hra.symm
                              rw [ht] at hP1
                              obtain ⟨hP, hD⟩ := PDq.join (w := [(oX5 r1 k1 k2 k3 (nI ct)), (k1, .inl (cA 0, 701, .inl f1_7)), (k2, .inl (cA 0, 701, .inl ft)), (k3, .inl (cA 1, 701, .inr (.inl fv)))]) 4 hP hD [] [0, 1, 2, 3] rfl rfl (by decide) (by decide) hk1 hFc hP1 hD1 rfl
                              generalize H1 = H at hP hS ⊢
                              obtain ⟨hPc, hDc, hFc⟩ := PDq.cut (wc := []) hP hD hS hA [] (by decide) rfl
                              refine va_calll (va_runS (As := [.ref (sa 8)]) (rest := []) ⟨hx, hb, hml, hown, hts⟩ (x_packed l D cA sa 8 ([97, 110, 100]) H.size (by decide +kernel) (by decide +kernel)) (va_cwS 1 hts gX5_markKeywords_X8_packed rfl rfl rfl (by decide +kernel) ⟨(Nat.le_of_ble_eq_true rfl), (Nat.le_of_ble_eq_true rfl)⟩) ⟨Wd.blind, fun U hU hW => ⟨rfl, Wd.call hPc hDc hK hC hZ hS hFc U hU hW⟩⟩ rfl rfl hl.1 rfl (lv_room (Nat.le_of_ble_eq_true rfl)) dX5_markKeywords_13 ⟨(Nat.le_of_ble_eq_true rfl), (Nat.le_of_ble_eq_true rfl)⟩) hS (fun q _ h => hFc q h) hFc (fun rn23 u t H1 locs ht hvm hw hB hz1 hk1 hS => ?_)
                              obtain ⟨hP1, hD1⟩ := hB
                              rw [ht] at hP1
                              obtain ⟨hP, hD⟩ := PDq.join (w := [(oX5 r1 k1 k2 k3 (nI ct)), (k1, .inl (cA 0, 701, .inl f1_7)), (k2, .inl (cA 0, 701, .inl ft)), (k3, .inl (cA 1, 701, .inr (.inl fv)))]) 4 hP hD [] [0, 1, 2, 3] rfl rfl (by decide) (by decide) hk1 hFc hP1 hD1 rfl
                              generalize H1 = H at hP hS ⊢
                              obtain rfl : rn23 = 1476 := hw.trans (by decide +kernel)
                              refine lv_lstore_n (lv' := [(2, .long 1476), (1, .int 15), (4, .int (nI ct)), (0, .ref r1)]) hx hb dX5_markKeywords_16 rfl hl (by decide) rfl (fun ls hl => ?_)
                              refine lv_iconst (v := 0) hx hb dX5_markKeywords_17 (by decide) ?_
                              refine lv_istore (lv' := [(4, .int 0), (2, .long 1476), (1, .int 15), (0, .ref r1)]) hx hb dX5_markKeywords_18 hl (by decide) rfl (fun ls hl => ?_)
                              have loop8 : ∀ (n8 i8 : Nat) (f1_8 : Nat → Int32) (H : Heap) (locs : List Loc) (ls : Array Slot), i8 + n8 = ct → Rdd f1_8 → Mi 7 ct i8 fk fv f1_8 → va_P D vwCl [(oX5 r1 k1 k2 k3 (nI ct)), (k1, .inl (cA 0, 701, .inl f1_8)), (k2, .inl (cA 0, 701, .inl ft)), (k3, .inl (cA 1, 701, .inr (.inl fv)))] H → va_D A [(oX5 r1 k1 k2 k3 (nI ct)), (k1, .inl (cA 0, 701, .inl f1_8)), (k2, .inl (cA 0, 701, .inl ft)), (k3, .inl (cA 1, 701, .inr (.inl fv)))] → va_S A s.heap H locs → lv_has ls 5 [(4, .int (nI i8)), (2, .long 1476), (1, .int 15), (0, .ref r1)] → W p l e (headSpec wsX5_markKeywords ({ frames := 5, cells := 0, slots := 0, locals := 108 } : Room)).room s m ([.ref r1] : List Value).toArray below meth c H locs 0 0 (MQ below (va_Qv (fun _ : Unit => True) (fun (_ : Unit) t => ∃ zk : Nat → Int32, Mk 15 ct fk fv zk ∧ Wq D A [(oX5 r1 k1 k2 k3 (nI ct)), (k1, .inl (cA 0, 701, .inl zk)), (k2, .inl (cA 0, 701, .inl ft)), (k3, .inl (cA 1, 701, .inr (.inl fv)))] t) A) ([.ref r1] : List Value).toArray s 0 0 A) (F0 m 20 ls []) := by
                                intro n8
                                induction n8 with
                                | zero =>
                                  intro i8 f1_8 H locs ls hi8 hf0_8 hv0_8 hP hD hS hl
                                  obtain rfl : ct = i8 := by omega
                                  refine lv_iload hx hb dX5_markKeywords_20 (lv_at hl 0 rfl) ?_
                                  refine lv_aload_n hx hb dX5_markKeywords_22 rfl (lv_at hl 3 rfl) ?_
                                  refine va_get (D := D) (ci := 9) (v := .int (nI ct)) (C := RX5) (T := TX5) (N := 4) hx hb hts inX5 hown hK hP 0 rfl rfl 3 (by decide) (hts (.fieldLink RX5 22 "EscrowDesk$Scanner" "count" "I") (by decide +kernel)) (fun _ h9 => h9) rfl dX5_markKeywords_23 ?_
                                  refine lv_icmp_ge (tgt := 66) hx hb dX5_markKeywords_26 (by decide) (fun c24 => ?_) (fun c9 => absurd (nI_le (a := ct) (b := ct) (show ct ≤ ct by omega) (by omega)) c9)
                                  refine lv_iinc (v := 16) (lv' := [(1, .int 16), (4, .int (nI ct)), (2, .long 1476), (0, .ref r1)]) hx hb dX5_markKeywords_66 hl (k := 2) rfl (by first | rfl | decide +kernel) (by decide) rfl (fun ls hl => ?_)
                                  refine lv_goto (tgt := 3) hx hb dX5_markKeywords_69 (by decide) ?_
                                  refine lv_iload_n hx hb dX5_markKeywords_3 rfl (lv_at hl 0 rfl) ?_
                                  refine lv_bipush (v := 22) hx hb dX5_markKeywords_4 (by decide) ?_
                                  refine lv_icmp_gt (tgt := 72) hx hb dX5_markKeywords_6 (by decide) (fun c9 => absurd c9 (by decide)) (fun c25 => ?_)
                                  refine lv_iload_n hx hb dX5_markKeywords_9 rfl (lv_at hl 0 rfl) ?_
                                  obtain ⟨hPc, hDc, hFc⟩ := PDq.cut (wc := []) hP hD hS hA [] (by decide) rfl
                                  refine va_callr (va_runS (As := [.int 16]) (rest := []) ⟨hx, hb, hml, hown, hts⟩ (c_spell_16 l D cA sa  H.size) (va_cwS 1 hts gX5_markKeywords_X7_spelling rfl rfl rfl (by decide +kernel) ⟨(Nat.le_of_ble_eq_true rfl), (Nat.le_of_ble_eq_true rfl)⟩) ⟨Wd.blind, fun U hU hW => ⟨rfl, Wd.call hPc hDc hK hC hZ hS hFc U hU hW⟩⟩ rfl rfl hl.1 rfl (lv_room (Nat.le_of_ble_eq_true rfl)) dX5_markKeywords_10 ⟨(Nat.le_of_ble_eq_true rfl), (Nat.le_of_ble_eq_true rfl)⟩) hS (fun q _ h => hFc q h) hFc (fun u ra t H1 locs ht hvm hw hB hz1 hk1 hS => ?_)
                                  obtain ⟨hra, hP1, hD1⟩ := hB
                                  obtain rfl := hra.symm
                                  rw [ht] at hP1
                                  obtain ⟨hP, hD⟩ := PDq.join (w := [(oX5 r1 k1 k2 k3 (nI ct)), (k1, .inl (cA 0, 701, .inl f1_8)), (k2, .inl (cA 0, 701, .inl ft)), (k3, .inl (cA 1, 701, .inr (.inl fv)))]) 4 hP hD [] [0, 1, 2, 3] rfl rfl (by decide) (by decide) hk1 hFc hP1 hD1 rfl
                                  generalize H1 = H at hP hS ⊢
                                  obtain ⟨hPc, hDc, hFc⟩ := PDq.cut (wc := []) hP hD hS hA [] (by decide) rfl
                                  refine va_calll (va_runS (As := [.ref (sa 9)]) (rest := []) ⟨hx, hb, hml, hown, hts⟩ (x_packed l D cA sa 9 ([110, 111, 116]) H.size (by decide +kernel) (by decide +kernel)) (va_cwS 1 hts gX5_markKeywords_X8_packed rfl rfl rfl (by decide +kernel) ⟨(Nat.le_of_ble_eq_true rfl), (Nat.le_of_ble_eq_true rfl)⟩) ⟨Wd.blind, fun U hU hW => ⟨rfl, Wd.call hPc hDc hK hC hZ hS hFc U hU hW⟩⟩ rfl rfl hl.1 rfl (lv_room (Nat.le_of_ble_eq_true rfl)) dX5_markKeywords_13 ⟨(Nat.le_of_ble_eq_true rfl), (Nat.le_of_ble_eq_true rfl)⟩) hS (fun q _ h => hFc q h) hFc (fun rn26 u t H1 locs ht hvm hw hB hz1 hk1 hS => ?_)
                                  obtain ⟨hP1, hD1⟩ := hB
                                  rw [ht] at hP1
                                  obtain ⟨hP, hD⟩ := PDq.join (w := [(oX5 r1 k1 k2 k3 (nI ct)), (k1, .inl (cA 0, 701, .inl f1_8)), (k2, .inl (cA 0, 701, .inl ft)), (k3, .inl (cA 1, 701, .inr (.inl fv)))]) 4 hP hD [] [0, 1, 2, 3] rfl rfl (by decide) (by decide) hk1 hFc hP1 hD1 rfl
                                  generalize H1 = H at hP hS ⊢
                                  obtain rfl : rn26 = 14836 := hw.trans (by decide +kernel)
                                  refine lv_lstore_n (lv' := [(2, .long 14836), (1, .int 16), (4, .int (nI ct)), (0, .ref r1)]) hx hb dX5_markKeywords_16 rfl hl (by decide) rfl (fun ls hl => ?_)
                                  refine lv_iconst (v := 0) hx hb dX5_markKeywords_17 (by decide) ?_
                                  refine lv_istore (lv' := [(4, .int 0), (2, .long 14836), (1, .int 16), (0, .ref r1)]) hx hb dX5_markKeywords_18 hl (by decide) rfl (fun ls hl => ?_)
                                  have loop9 : ∀ (n9 i9 : Nat) (f1_9 : Nat → Int32) (H : Heap) (locs : List Loc) (ls : Array Slot), i9 + n9 = ct → Rdd f1_9 → Mi 8 ct i9 fk fv f1_9 → va_P D vwCl [(oX5 r1 k1 k2 k3 (nI ct)), (k1, .inl (cA 0, 701, .inl f1_9)), (k2, .inl (cA 0, 701, .inl ft)), (k3, .inl (cA 1, 701, .inr (.inl fv)))] H → va_D A [(oX5 r1 k1 k2 k3 (nI ct)), (k1, .inl (cA 0, 701, .inl f1_9)), (k2, .inl (cA 0, 701, .inl ft)), (k3, .inl (cA 1, 701, .inr (.inl fv)))] → va_S A s.heap H locs → lv_has ls 5 [(4, .int (nI i9)), (2, .long 14836), (1, .int 16), (0, .ref r1)] → W p l e (headSpec wsX5_markKeywords ({ frames := 5, cells := 0, slots := 0, locals := 108 } : Room)).room s m ([.ref r1] : List Value).toArray below meth c H locs 0 0 (MQ below (va_Qv (fun _ : Unit => True) (fun (_ : Unit) t => ∃ zk : Nat → Int32, Mk 15 ct fk fv zk ∧ Wq D A [(oX5 r1 k1 k2 k3 (nI ct)), (k1, .inl (cA 0, 701, .inl zk)), (k2, .inl (cA 0, 701, .inl ft)), (k3, .inl (cA 1, 701, .inr (.inl fv)))] t) A) ([.ref r1] : List Value).toArray s 0 0 A) (F0 m 20 ls []) := by
                                    intro n9
                                    induction n9 with
                                    | zero =>
                                      intro i9 f1_9 H locs ls hi9 hf0_9 hv0_9 hP hD hS hl
                                      obtain rfl : ct = i9 := by omega
                                      refine lv_iload hx hb dX5_markKeywords_20 (lv_at hl 0 rfl) ?_
                                      refine lv_aload_n hx hb dX5_markKeywords_22 rfl (lv_at hl 3 rfl) ?_
                                      refine va_get (D := D) (ci := 9) (v := .int (nI ct)) (C := RX5) (T := TX5) (N := 4) hx hb hts inX5 hown hK hP 0 rfl rfl 3 (by decide) (hts (.fieldLink RX5 22 "EscrowDesk$Scanner" "count" "I") (by decide +kernel)) (fun _ h9 => h9) rfl dX5_markKeywords_23 ?_
                                      refine lv_icmp_ge (tgt := 66) hx hb dX5_markKeywords_26 (by decide) (fun c27 => ?_) (fun c9 => absurd (nI_le (a := ct) (b := ct) (show ct ≤ ct by omega) (by omega)) c9)
                                      refine lv_iinc (v := 17) (lv' := [(1, .int 17), (4, .int (nI ct)), (2, .long 14836), (0, .ref r1)]) hx hb dX5_markKeywords_66 hl (k := 2) rfl (by first | rfl | decide +kernel) (by decide) rfl (fun ls hl => ?_)
                                      refine lv_goto (tgt := 3) hx hb dX5_markKeywords_69 (by decide) ?_
                                      refine lv_iload_n hx hb dX5_markKeywords_3 rfl (lv_at hl 0 rfl) ?_
                                      refine lv_bipush (v := 22) hx hb dX5_markKeywords_4 (by decide) ?_
                                      refine lv_icmp_gt (tgt := 72) hx hb dX5_markKeywords_6 (by decide) (fun c9 => absurd c9 (by decide)) (fun c28 => ?_)
                                      refine lv_iload_n hx hb dX5_markKeywords_9 rfl (lv_at hl 0 rfl) ?_
                                      obtain ⟨hPc, hDc, hFc⟩ := PDq.cut (wc := []) hP hD hS hA [] (by decide) rfl
                                      refine va_callr (va_runS (As := [.int 17]) (rest := []) ⟨hx, hb, hml, hown, hts⟩ (c_spell_17 l D cA sa  H.size) (va_cwS 1 hts gX5_markKeywords_X7_spelling rfl rfl rfl (by decide +kernel) ⟨(Nat.le_of_ble_eq_true rfl), (Nat.le_of_ble_eq_true rfl)⟩) ⟨Wd.blind, fun U hU hW => ⟨rfl, Wd.call hPc hDc hK hC hZ hS hFc U hU hW⟩⟩ rfl rfl hl.1 rfl (lv_room (Nat.le_of_ble_eq_true rfl)) dX5_markKeywords_10 ⟨(Nat.le_of_ble_eq_true rfl), (Nat.le_of_ble_eq_true rfl)⟩) hS (fun q _ h => hFc q h) hFc (fun u ra t H1 locs ht hvm hw hB hz1 hk1 hS => ?_)
                                      obtain ⟨hra, hP1, hD1⟩ := hB
                                      obtain rfl := hra.symm
                                      rw [ht] at hP1
                                      obtain ⟨hP, hD⟩ := PDq.join (w := [(oX5 r1 k1 k2 k3 (nI ct)), (k1, .inl (cA 0, 701, .inl f1_9)), (k2, .inl (cA 0, 701, .inl ft)), (k3, .inl (cA 1, 701, .inr (.inl fv)))]) 4 hP hD [] [0, 1, 2, 3] rfl rfl (by decide) (by decide) hk1 hFc hP1 hD1 rfl
                                      generalize H1 = H at hP hS ⊢
                                      obtain ⟨hPc, hDc, hFc⟩ := PDq.cut (wc := []) hP hD hS hA [] (by decide) rfl
                                      refine va_calll (va_runS (As := [.ref (sa 10)]) (rest := []) ⟨hx, hb, hml, hown, hts⟩ (x_packed l D cA sa 10 ([100, 97, 121]) H.size (by decide +kernel) (by decide +kernel)) (va_cwS 1 hts gX5_markKeywords_X8_packed rfl rfl rfl (by decide +kernel) ⟨(Nat.le_of_ble_eq_true rfl), (Nat.le_of_ble_eq_true rfl)⟩) ⟨Wd.blind, fun U hU hW => ⟨rfl, Wd.call hPc hDc hK hC hZ hS hFc U hU hW⟩⟩ rfl rfl hl.1 rfl (lv_room (Nat.le_of_ble_eq_true rfl)) dX5_markKeywords_13 ⟨(Nat.le_of_ble_eq_true rfl), (Nat.le_of_ble_eq_true rfl)⟩) hS (fun q _ h => hFc q h) hFc (fun rn29 u t H1 locs ht hvm hw hB hz1 hk1 hS => ?_)
                                      obtain ⟨hP1, hD1⟩ := hB
                                      rw [ht] at hP1
                                      obtain ⟨hP, hD⟩ := PDq.join (w := [(oX5 r1 k1 k2 k3 (nI ct)), (k1, .inl (cA 0, 701, .inl f1_9)), (k2, .inl (cA 0, 701, .inl ft)), (k3, .inl (cA 1, 701, .inr (.inl fv)))]) 4 hP hD [] [0, 1, 2, 3] rfl rfl (by decide) (by decide) hk1 hFc hP1 hD1 rfl
                                      generalize H1 = H at hP hS ⊢
                                      obtain rfl : rn29 = 4153 := hw.trans (by decide +kernel)
                                      refine lv_lstore_n (lv' := [(2, .long 4153), (1, .int 17), (4, .int (nI ct)), (0, .ref r1)]) hx hb dX5_markKeywords_16 rfl hl (by decide) rfl (fun ls hl => ?_)
                                      refine lv_iconst (v := 0) hx hb dX5_markKeywords_17 (by decide) ?_
                                      refine lv_istore (lv' := [(4, .int 0), (2, .long 4153), (1, .int 17), (0, .ref r1)]) hx hb dX5_markKeywords_18 hl (by decide) rfl (fun ls hl => ?_)
                                      have loop10 : ∀ (n10 i10 : Nat) (f1_10 : Nat → Int32) (H : Heap) (locs : List Loc) (ls : Array Slot), i10 + n10 = ct → Rdd f1_10 → Mi 9 ct i10 fk fv f1_10 → va_P D vwCl [(oX5 r1 k1 k2 k3 (nI ct)), (k1, .inl (cA 0, 701, .inl f1_10)), (k2, .inl (cA 0, 701, .inl ft)), (k3, .inl (cA 1, 701, .inr (.inl fv)))] H → va_D A [(oX5 r1 k1 k2 k3 (nI ct)), (k1, .inl (cA 0, 701, .inl f1_10)), (k2, .inl (cA 0, 701, .inl ft)), (k3, .inl (cA 1, 701, .inr (.inl fv)))] → va_S A s.heap H locs → lv_has ls 5 [(4, .int (nI i10)), (2, .long 4153), (1, .int 17), (0, .ref r1)] → W p l e (headSpec wsX5_markKeywords ({ frames := 5, cells := 0, slots := 0, locals := 108 } : Room)).room s m ([.ref r1] : List Value).toArray below meth c H locs 0 0 (MQ below (va_Qv (fun _ : Unit => True) (fun (_ : Unit) t => ∃ zk : Nat → Int32, Mk 15 ct fk fv zk ∧ Wq D A [(oX5 r1 k1 k2 k3 (nI ct)), (k1, .inl (cA 0, 701, .inl zk)), (k2, .inl (cA 0, 701, .inl ft)), (k3, .inl (cA 1, 701, .inr (.inl fv)))] t) A) ([.ref r1] : List Value).toArray s 0 0 A) (F0 m 20 ls []) := by
                                        intro n10
                                        induction n10 with
                                        | zero =>
                                          intro i10 f1_10 H locs ls hi10 hf0_10 hv0_10 hP hD hS hl
                                          obtain rfl : ct = i10 := by omega
                                          refine lv_iload hx hb dX5_markKeywords_20 (lv_at hl 0 rfl) ?_
                                          refine lv_aload_n hx hb dX5_markKeywords_22 rfl (lv_at hl 3 rfl) ?_
                                          refine va_get (D := D) (ci := 9) (v := .int (nI ct)) (C := RX5) (T := TX5) (N := 4) hx hb hts inX5 hown hK hP 0 rfl rfl 3 (by decide) (hts (.fieldLink RX5 22 "EscrowDesk$Scanner" "count" "I") (by decide +kernel)) (fun _ h9 => h9) rfl dX5_markKeywords_23 ?_
                                          refine lv_icmp_ge (tgt := 66) hx hb dX5_markKeywords_26 (by decide) (fun c30 => ?_) (fun c9 => absurd (nI_le (a := ct) (b := ct) (show ct ≤ ct by omega) (by omega)) c9)
                                          refine lv_iinc (v := 18) (lv' := [(1, .int 18), (4, .int (nI ct)), (2, .long 4153), (0, .ref r1)]) hx hb dX5_markKeywords_66 hl (k := 2) rfl (by first | rfl | decide +kernel) (by decide) rfl (fun ls hl => ?_)
                                          refine lv_goto (tgt := 3) hx hb dX5_markKeywords_69 (by decide) ?_
                                          refine lv_iload_n hx hb dX5_markKeywords_3 rfl (lv_at hl 0 rfl) ?_
                                          refine lv_bipush (v := 22) hx hb dX5_markKeywords_4 (by decide) ?_
                                          refine lv_icmp_gt (tgt := 72) hx hb dX5_markKeywords_6 (by decide) (fun c9 => absurd c9 (by decide)) (fun c31 => ?_)
                                          refine lv_iload_n hx hb dX5_markKeywords_9 rfl (lv_at hl 0 rfl) ?_
                                          obtain ⟨hPc, hDc, hFc⟩ := PDq.cut (wc := []) hP hD hS hA [] (by decide) rfl
                                          refine va_callr (va_runS (As := [.int 18]) (rest := []) ⟨hx, hb, hml, hown, hts⟩ (c_spell_18 l D cA sa  H.size) (va_cwS 1 hts gX5_markKeywords_X7_spelling rfl rfl rfl (by decide +kernel) ⟨(Nat.le_of_ble_eq_true rfl), (Nat.le_of_ble_eq_true rfl)⟩) ⟨Wd.blind, fun U hU hW => ⟨rfl, Wd.call hPc hDc hK hC hZ hS hFc U hU hW⟩⟩ rfl rfl hl.1 rfl (lv_room (Nat.le_of_ble_eq_true rfl)) dX5_markKeywords_10 ⟨(Nat.le_of_ble_eq_true rfl), (Nat.le_of_ble_eq_true rfl)⟩) hS (fun q _ h => hFc q h) hFc (fun u ra t H1 locs ht hvm hw hB hz1 hk1 hS => ?_)
                                          obtain ⟨hra, hP1, hD1⟩ := hB
                                          obtain rfl := hra.symm
                                          rw [ht] at hP1
                                          obtain ⟨hP, hD⟩ := PDq.join (w := [(oX5 r1 k1 k2 k3 (nI ct)), (k1, .inl (cA 0, 701, .inl f1_10)), (k2, .inl (cA 0, 701, .inl ft)), (k3, .inl (cA 1, 701, .inr (.inl fv)))]) 4 hP hD [] [0, 1, 2, 3] rfl rfl (by decide) (by decide) hk1 hFc hP1 hD1 rfl
                                          generalize H1 = H at hP hS ⊢
                                          obtain ⟨hPc, hDc, hFc⟩ := PDq.cut (wc := []) hP hD hS hA [] (by decide) rfl
                                          refine va_calll (va_runS (As := [.ref (sa 11)]) (rest := []) ⟨hx, hb, hml, hown, hts⟩ (x_packed l D cA sa 11 ([112, 114, 111, 111, 102]) H.size (by decide +kernel) (by decide +kernel)) (va_cwS 1 hts gX5_markKeywords_X8_packed rfl rfl rfl (by decide +kernel) ⟨(Nat.le_of_ble_eq_true rfl), (Nat.le_of_ble_eq_true rfl)⟩) ⟨Wd.blind, fun U hU hW => ⟨rfl, Wd.call hPc hDc hK hC hZ hS hFc U hU hW⟩⟩ rfl rfl hl.1 rfl (lv_room (Nat.le_of_ble_eq_true rfl)) dX5_markKeywords_13 ⟨(Nat.le_of_ble_eq_true rfl), (Nat.le_of_ble_eq_true rfl)⟩) hS (fun q _ h => hFc q h) hFc (fun rn32 u t H1 locs ht hvm hw hB hz1 hk1 hS => ?_)
                                          obtain ⟨hP1, hD1⟩ := hB
                                          rw [ht] at hP1
                                          obtain ⟨hP, hD⟩ := PDq.join (w := [(oX5 r1 k1 k2 k3 (nI ct)), (k1, .inl (cA 0, 701, .inl f1_10)), (k2, .inl (cA 0, 701, .inl ft)), (k3, .inl (cA 1, 701, .inr (.inl fv)))]) 4 hP hD [] [0, 1, 2, 3] rfl rfl (by decide) (by decide) hk1 hFc hP1 hD1 rfl
                                          generalize H1 = H at hP hS ⊢
                                          obtain rfl : rn32 = 17382886 := hw.trans (by decide +kernel)
                                          refine lv_lstore_n (lv' := [(2, .long 17382886), (1, .int 18), (4, .int (nI ct)), (0, .ref r1)]) hx hb dX5_markKeywords_16 rfl hl (by decide) rfl (fun ls hl => ?_)
                                          refine lv_iconst (v := 0) hx hb dX5_markKeywords_17 (by decide) ?_
                                          refine lv_istore (lv' := [(4, .int 0), (2, .long 17382886), (1, .int 18), (0, .ref r1)]) hx hb dX5_markKeywords_18 hl (by decide) rfl (fun ls hl => ?_)
                                          have loop11 : ∀ (n11 i11 : Nat) (f1_11 : Nat → Int32) (H : Heap) (locs : List Loc) (ls : Array Slot), i11 + n11 = ct → Rdd f1_11 → Mi 10 ct i11 fk fv f1_11 → va_P D vwCl [(oX5 r1 k1 k2 k3 (nI ct)), (k1, .inl (cA 0, 701, .inl f1_11)), (k2, .inl (cA 0, 701, .inl ft)), (k3, .inl (cA 1, 701, .inr (.inl fv)))] H → va_D A [(oX5 r1 k1 k2 k3 (nI ct)), (k1, .inl (cA 0, 701, .inl f1_11)), (k2, .inl (cA 0, 701, .inl ft)), (k3, .inl (cA 1, 701, .inr (.inl fv)))] → va_S A s.heap H locs → lv_has ls 5 [(4, .int (nI i11)), (2, .long 17382886), (1, .int 18), (0, .ref r1)] → W p l e (headSpec wsX5_markKeywords ({ frames := 5, cells := 0, slots := 0, locals := 108 } : Room)).room s m ([.ref r1] : List Value).toArray below meth c H locs 0 0 (MQ below (va_Qv (fun _ : Unit => True) (fun (_ : Unit) t => ∃ zk : Nat → Int32, Mk 15 ct fk fv zk ∧ Wq D A [(oX5 r1 k1 k2 k3 (nI ct)), (k1, .inl (cA 0, 701, .inl zk)), (k2, .inl (cA 0, 701, .inl ft)), (k3, .inl (cA 1, 701, .inr (.inl fv)))] t) A) ([.ref r1] : List Value).toArray s 0 0 A) (F0 m 20 ls []) := by
                                            intro n11
                                            induction n11 with
                                            | zero =>
                                              intro i11 f1_11 H locs ls hi11 hf0_11 hv0_11 hP hD hS hl
                                              obtain rfl : ct = i11 := by omega
                                              refine lv_iload hx hb dX5_markKeywords_20 (lv_at hl 0 rfl) ?_
                                              refine lv_aload_n hx hb dX5_markKeywords_22 rfl (lv_at hl 3 rfl) ?_
                                              refine va_get (D := D) (ci := 9) (v := .int (nI ct)) (C := RX5) (T := TX5) (N := 4) hx hb hts inX5 hown hK hP 0 rfl rfl 3 (by decide) (hts (.fieldLink RX5 22 "EscrowDesk$Scanner" "count" "I") (by decide +kernel)) (fun _ h9 => h9) rfl dX5_markKeywords_23 ?_
                                              refine lv_icmp_ge (tgt := 66) hx hb dX5_markKeywords_26 (by decide) (fun c33 => ?_) (fun c9 => absurd (nI_le (a := ct) (b := ct) (show ct ≤ ct by omega) (by omega)) c9)
                                              refine lv_iinc (v := 19) (lv' := [(1, .int 19), (4, .int (nI ct)), (2, .long 17382886), (0, .ref r1)]) hx hb dX5_markKeywords_66 hl (k := 2) rfl (by first | rfl | decide +kernel) (by decide) rfl (fun ls hl => ?_)
                                              refine lv_goto (tgt := 3) hx hb dX5_markKeywords_69 (by decide) ?_
                                              refine lv_iload_n hx hb dX5_markKeywords_3 rfl (lv_at hl 0 rfl) ?_
                                              refine lv_bipush (v := 22) hx hb dX5_markKeywords_4 (by decide) ?_
                                              refine lv_icmp_gt (tgt := 72) hx hb dX5_markKeywords_6 (by decide) (fun c9 => absurd c9 (by decide)) (fun c34 => ?_)
                                              refine lv_iload_n hx hb dX5_markKeywords_9 rfl (lv_at hl 0 rfl) ?_
                                              obtain ⟨hPc, hDc, hFc⟩ := PDq.cut (wc := []) hP hD hS hA [] (by decide) rfl
                                              refine va_callr (va_runS (As := [.int 19]) (rest := []) ⟨hx, hb, hml, hown, hts⟩ (c_spell_19 l D cA sa  H.size) (va_cwS 1 hts gX5_markKeywords_X7_spelling rfl rfl rfl (by decide +kernel) ⟨(Nat.le_of_ble_eq_true rfl), (Nat.le_of_ble_eq_true rfl)⟩) ⟨Wd.blind, fun U hU hW => ⟨rfl, Wd.call hPc hDc hK hC hZ hS hFc U hU hW⟩⟩ rfl rfl hl.1 rfl (lv_room (Nat.le_of_ble_eq_true rfl)) dX5_markKeywords_10 ⟨(Nat.le_of_ble_eq_true rfl), (Nat.le_of_ble_eq_true rfl)⟩) hS (fun q _ h => hFc q h) hFc (fun u ra t H1 locs ht hvm hw hB hz1 hk1 hS => ?_)
                                              obtain ⟨hra, hP1, hD1⟩ := hB
                                              obtain rfl := hra.symm
                                              rw [ht] at hP1
                                              obtain ⟨hP, hD⟩ := PDq.join (w := [(oX5 r1 k1 k2 k3 (nI ct)), (k1, .inl (cA 0, 701, .inl f1_11)), (k2, .inl (cA 0, 701, .inl ft)), (k3, .inl (cA 1, 701, .inr (.inl fv)))]) 4 hP hD [] [0, 1, 2, 3] rfl rfl (by decide) (by decide) hk1 hFc hP1 hD1 rfl
                                              generalize H1 = H at hP hS ⊢
                                              obtain ⟨hPc, hDc, hFc⟩ := PDq.cut (wc := []) hP hD hS hA [] (by decide) rfl
                                              refine va_calll (va_runS (As := [.ref (sa 12)]) (rest := []) ⟨hx, hb, hml, hown, hts⟩ (x_packed l D cA sa 12 ([100, 111, 110, 101]) H.size (by decide +kernel) (by decide +kernel)) (va_cwS 1 hts gX5_markKeywords_X8_packed rfl rfl rfl (by decide +kernel) ⟨(Nat.le_of_ble_eq_true rfl), (Nat.le_of_ble_eq_true rfl)⟩) ⟨Wd.blind, fun U hU hW => ⟨rfl, Wd.call hPc hDc hK hC hZ hS hFc U hU hW⟩⟩ rfl rfl hl.1 rfl (lv_room (Nat.le_of_ble_eq_true rfl)) dX5_markKeywords_13 ⟨(Nat.le_of_ble_eq_true rfl), (Nat.le_of_ble_eq_true rfl)⟩) hS (fun q _ h => hFc q h) hFc (fun rn35 u t H1 locs ht hvm hw hB hz1 hk1 hS => ?_)
                                              obtain ⟨hP1, hD1⟩ := hB
                                              rw [ht] at hP1
                                              obtain ⟨hP, hD⟩ := PDq.join (w := [(oX5 r1 k1 k2 k3 (nI ct)), (k1, .inl (cA 0, 701, .inl f1_11)), (k2, .inl (cA 0, 701, .inl ft)), (k3, .inl (cA 1, 701, .inr (.inl fv)))]) 4 hP hD [] [0, 1, 2, 3] rfl rfl (by decide) (by decide) hk1 hFc hP1 hD1 rfl
                                              generalize H1 = H at hP hS ⊢
                                              obtain rfl : rn35 = 146885 := hw.trans (by decide +kernel)
                                              refine lv_lstore_n (lv' := [(2, .long 146885), (1, .int 19), (4, .int (nI ct)), (0, .ref r1)]) hx hb dX5_markKeywords_16 rfl hl (by decide) rfl (fun ls hl => ?_)
                                              refine lv_iconst (v := 0) hx hb dX5_markKeywords_17 (by decide) ?_
                                              refine lv_istore (lv' := [(4, .int 0), (2, .long 146885), (1, .int 19), (0, .ref r1)]) hx hb dX5_markKeywords_18 hl (by decide) rfl (fun ls hl => ?_)
                                              have loop12 : ∀ (n12 i12 : Nat) (f1_12 : Nat → Int32) (H : Heap) (locs : List Loc) (ls : Array Slot), i12 + n12 = ct → Rdd f1_12 → Mi 11 ct i12 fk fv f1_12 → va_P D vwCl [(oX5 r1 k1 k2 k3 (nI ct)), (k1, .inl (cA 0, 701, .inl f1_12)), (k2, .inl (cA 0, 701, .inl ft)), (k3, .inl (cA 1, 701, .inr (.inl fv)))] H → va_D A [(oX5 r1 k1 k2 k3 (nI ct)), (k1, .inl (cA 0, 701, .inl f1_12)), (k2, .inl (cA 0, 701, .inl ft)), (k3, .inl (cA 1, 701, .inr (.inl fv)))] → va_S A s.heap H locs → lv_has ls 5 [(4, .int (nI i12)), (2, .long 146885), (1, .int 19), (0, .ref r1)] → W p l e (headSpec wsX5_markKeywords ({ frames := 5, cells := 0, slots := 0, locals := 108 } : Room)).room s m ([.ref r1] : List Value).toArray below meth c H locs 0 0 (MQ below (va_Qv (fun _ : Unit => True) (fun (_ : Unit) t => ∃ zk : Nat → Int32, Mk 15 ct fk fv zk ∧ Wq D A [(oX5 r1 k1 k2 k3 (nI ct)), (k1, .inl (cA 0, 701, .inl zk)), (k2, .inl (cA 0, 701, .inl ft)), (k3, .inl (cA 1, 701, .inr (.inl fv)))] t) A) ([.ref r1] : List Value).toArray s 0 0 A) (F0 m 20 ls []) := by
                                                intro n12
                                                induction n12 with
                                                | zero =>
                                                  intro i12 f1_12 H locs ls hi12 hf0_12 hv0_12 hP hD hS hl
                                                  obtain rfl : ct = i12 := by omega
                                                  refine lv_iload hx hb dX5_markKeywords_20 (lv_at hl 0 rfl) ?_
                                                  refine lv_aload_n hx hb dX5_markKeywords_22 rfl (lv_at hl 3 rfl) ?_
                                                  refine va_get (D := D) (ci := 9) (v := .int (nI ct)) (C := RX5) (T := TX5) (N := 4) hx hb hts inX5 hown hK hP 0 rfl rfl 3 (by decide) (hts (.fieldLink RX5 22 "EscrowDesk$Scanner" "count" "I") (by decide +kernel)) (fun _ h9 => h9) rfl dX5_markKeywords_23 ?_
                                                  refine lv_icmp_ge (tgt := 66) hx hb dX5_markKeywords_26 (by decide) (fun c36 => ?_) (fun c9 => absurd (nI_le (a := ct) (b := ct) (show ct ≤ ct by omega) (by omega)) c9)
                                                  refine lv_iinc (v := 20) (lv' := [(1, .int 20), (4, .int (nI ct)), (2, .long 146885), (0, .ref r1)]) hx hb dX5_markKeywords_66 hl (k := 2) rfl (by first | rfl | decide +kernel) (by decide) rfl (fun ls hl => ?_)
                                                  refine lv_goto (tgt := 3) hx hb dX5_markKeywords_69 (by decide) ?_
                                                  refine lv_iload_n hx hb dX5_markKeywords_3 rfl (lv_at hl 0 rfl) ?_
                                                  refine lv_bipush (v := 22) hx hb dX5_markKeywords_4 (by decide) ?_
                                                  refine lv_icmp_gt (tgt := 72) hx hb dX5_markKeywords_6 (by decide) (fun c9 => absurd c9 (by decide)) (fun c37 => ?_)
                                                  refine lv_iload_n hx hb dX5_markKeywords_9 rfl (lv_at hl 0 rfl) ?_
                                                  obtain ⟨hPc, hDc, hFc⟩ := PDq.cut (wc := []) hP hD hS hA [] (by decide) rfl
                                                  refine va_callr (va_runS (As := [.int 20]) (rest := []) ⟨hx, hb, hml, hown, hts⟩ (c_spell_20 l D cA sa  H.size) (va_cwS 1 hts gX5_markKeywords_X7_spelling rfl rfl rfl (by decide +kernel) ⟨(Nat.le_of_ble_eq_true rfl), (Nat.le_of_ble_eq_true rfl)⟩) ⟨Wd.blind, fun U hU hW => ⟨rfl, Wd.call hPc hDc hK hC hZ hS hFc U hU hW⟩⟩ rfl rfl hl.1 rfl (lv_room (Nat.le_of_ble_eq_true rfl)) dX5_markKeywords_10 ⟨(Nat.le_of_ble_eq_true rfl), (Nat.le_of_ble_eq_true rfl)⟩) hS (fun q _ h => hFc q h) hFc (fun u ra t H1 locs ht hvm hw hB hz1 hk1 hS => ?_)
                                                  obtain ⟨hra, hP1, hD1⟩ := hB
                                                  obtain rfl := hra.symm
                                                  rw [ht] at hP1
                                                  obtain ⟨hP, hD⟩ := PDq.join (w := [(oX5 r1 k1 k2 k3 (nI ct)), (k1, .inl (cA 0, 701, .inl f1_12)), (k2, .inl (cA 0, 701, .inl ft)), (k3, .inl (cA 1, 701, .inr (.inl fv)))]) 4 hP hD [] [0, 1, 2, 3] rfl rfl (by decide) (by decide) hk1 hFc hP1 hD1 rfl
                                                  generalize H1 = H at hP hS ⊢
                                                  obtain ⟨hPc, hDc, hFc⟩ := PDq.cut (wc := []) hP hD hS hA [] (by decide) rfl
                                                  refine va_calll (va_runS (As := [.ref (sa 13)]) (rest := []) ⟨hx, hb, hml, hown, hts⟩ (x_packed l D cA sa 13 ([115, 117, 109]) H.size (by decide +kernel) (by decide +kernel)) (va_cwS 1 hts gX5_markKeywords_X8_packed rfl rfl rfl (by decide +kernel) ⟨(Nat.le_of_ble_eq_true rfl), (Nat.le_of_ble_eq_true rfl)⟩) ⟨Wd.blind, fun U hU hW => ⟨rfl, Wd.call hPc hDc hK hC hZ hS hFc U hU hW⟩⟩ rfl rfl hl.1 rfl (lv_room (Nat.le_of_ble_eq_true rfl)) dX5_markKeywords_13 ⟨(Nat.le_of_ble_eq_true rfl), (Nat.le_of_ble_eq_true rfl)⟩) hS (fun q _ h => hFc q h) hFc (fun rn38 u t H1 locs ht hvm hw hB hz1 hk1 hS => ?_)
                                                  obtain ⟨hP1, hD1⟩ := hB
                                                  rw [ht] at hP1
                                                  obtain ⟨hP, hD⟩ := PDq.join (w := [(oX5 r1 k1 k2 k3 (nI ct)), (k1, .inl (cA 0, 701, .inl f1_12)), (k2, .inl (cA 0, 701, .inl ft)), (k3, .inl (cA 1, 701, .inr (.inl fv)))]) 4 hP hD [] [0, 1, 2, 3] rfl rfl (by decide) (by decide) hk1 hFc hP1 hD1 rfl
                                                  generalize H1 = H at hP hS ⊢
                                                  obtain rfl : rn38 = 20141 := hw.trans (by decide +kernel)
                                                  refine lv_lstore_n (lv' := [(2, .long 20141), (1, .int 20), (4, .int (nI ct)), (0, .ref r1)]) hx hb dX5_markKeywords_16 rfl hl (by decide) rfl (fun ls hl => ?_)
                                                  refine lv_iconst (v := 0) hx hb dX5_markKeywords_17 (by decide) ?_
                                                  refine lv_istore (lv' := [(4, .int 0), (2, .long 20141), (1, .int 20), (0, .ref r1)]) hx hb dX5_markKeywords_18 hl (by decide) rfl (fun ls hl => ?_)
                                                  have loop13 : ∀ (n13 i13 : Nat) (f1_13 : Nat → Int32) (H : Heap) (locs : List Loc) (ls : Array Slot), i13 + n13 = ct → Rdd f1_13 → Mi 12 ct i13 fk fv f1_13 → va_P D vwCl [(oX5 r1 k1 k2 k3 (nI ct)), (k1, .inl (cA 0, 701, .inl f1_13)), (k2, .inl (cA 0, 701, .inl ft)), (k3, .inl (cA 1, 701, .inr (.inl fv)))] H → va_D A [(oX5 r1 k1 k2 k3 (nI ct)), (k1, .inl (cA 0, 701, .inl f1_13)), (k2, .inl (cA 0, 701, .inl ft)), (k3, .inl (cA 1, 701, .inr (.inl fv)))] → va_S A s.heap H locs → lv_has ls 5 [(4, .int (nI i13)), (2, .long 20141), (1, .int 20), (0, .ref r1)] → W p l e (headSpec wsX5_markKeywords ({ frames := 5, cells := 0, slots := 0, locals := 108 } : Room)).room s m ([.ref r1] : List Value).toArray below meth c H locs 0 0 (MQ below (va_Qv (fun _ : Unit => True) (fun (_ : Unit) t => ∃ zk : Nat → Int32, Mk 15 ct fk fv zk ∧ Wq D A [(oX5 r1 k1 k2 k3 (nI ct)), (k1, .inl (cA 0, 701, .inl zk)), (k2, .inl (cA 0, 701, .inl ft)), (k3, .inl (cA 1, 701, .inr (.inl fv)))] t) A) ([.ref r1] : List Value).toArray s 0 0 A) (F0 m 20 ls []) := by
                                                    intro n13
                                                    induction n13 with
                                                    | zero =>
                                                      intro i13 f1_13 H locs ls hi13 hf0_13 hv0_13 hP hD hS hl
                                                      obtain rfl : ct = i13 := by omega
                                                      refine lv_iload hx hb dX5_markKeywords_20 (lv_at hl 0 rfl) ?_
                                                      refine lv_aload_n hx hb dX5_markKeywords_22 rfl (lv_at hl 3 rfl) ?_
                                                      refine va_get (D := D) (ci := 9) (v := .int (nI ct)) (C := RX5) (T := TX5) (N := 4) hx hb hts inX5 hown hK hP 0 rfl rfl 3 (by decide) (hts (.fieldLink RX5 22 "EscrowDesk$Scanner" "count" "I") (by decide +kernel)) (fun _ h9 => h9) rfl dX5_markKeywords_23 ?_
                                                      refine lv_icmp_ge (tgt := 66) hx hb dX5_markKeywords_26 (by decide) (fun c39 => ?_) (fun c9 => absurd (nI_le (a := ct) (b := ct) (show ct ≤ ct by omega) (by omega)) c9)
                                                      refine lv_iinc (v := 21) (lv' := [(1, .int 21), (4, .int (nI ct)), (2, .long 20141), (0, .ref r1)]) hx hb dX5_markKeywords_66 hl (k := 2) rfl (by first | rfl | decide +kernel) (by decide) rfl (fun ls hl => ?_)
                                                      refine lv_goto (tgt := 3) hx hb dX5_markKeywords_69 (by decide) ?_
                                                      refine lv_iload_n hx hb dX5_markKeywords_3 rfl (lv_at hl 0 rfl) ?_
                                                      refine lv_bipush (v := 22) hx hb dX5_markKeywords_4 (by decide) ?_
                                                      refine lv_icmp_gt (tgt := 72) hx hb dX5_markKeywords_6 (by decide) (fun c9 => absurd c9 (by decide)) (fun c40 => ?_)
                                                      refine lv_iload_n hx hb dX5_markKeywords_9 rfl (lv_at hl 0 rfl) ?_
                                                      obtain ⟨hPc, hDc, hFc⟩ := PDq.cut (wc := []) hP hD hS hA [] (by decide) rfl
                                                      refine va_callr (va_runS (As := [.int 21]) (rest := []) ⟨hx, hb, hml, hown, hts⟩ (c_spell_21 l D cA sa  H.size) (va_cwS 1 hts gX5_markKeywords_X7_spelling rfl rfl rfl (by decide +kernel) ⟨(Nat.le_of_ble_eq_true rfl), (Nat.le_of_ble_eq_true rfl)⟩) ⟨Wd.blind, fun U hU hW => ⟨rfl, Wd.call hPc hDc hK hC hZ hS hFc U hU hW⟩⟩ rfl rfl hl.1 rfl (lv_room (Nat.le_of_ble_eq_true rfl)) dX5_markKeywords_10 ⟨(Nat.le_of_ble_eq_true rfl), (Nat.le_of_ble_eq_true rfl)⟩) hS (fun q _ h => hFc q h) hFc (fun u ra t H1 locs ht hvm hw hB hz1 hk1 hS => ?_)
                                                      obtain ⟨hra, hP1, hD1⟩ := hB
                                                      obtain rfl := hra.symm
                                                      rw [ht] at hP1
                                                      obtain ⟨hP, hD⟩ := PDq.join (w := [(oX5 r1 k1 k2 k3 (nI ct)), (k1, .inl (cA 0, 701, .inl f1_13)), (k2, .inl (cA 0, 701, .inl ft)), (k3, .inl (cA 1, 701, .inr (.inl fv)))]) 4 hP hD [] [0, 1, 2, 3] rfl rfl (by decide) (by decide) hk1 hFc hP1 hD1 rfl
                                                      generalize H1 = H at hP hS ⊢
                                                      obtain ⟨hPc, hDc, hFc⟩ := PDq.cut (wc := []) hP hD hS hA [] (by decide) rfl
                                                      refine va_calll (va_runS (As := [.ref (sa 14)]) (rest := []) ⟨hx, hb, hml, hown, hts⟩ (x_packed l D cA sa 14 ([97, 112, 112, 114, 111, 118, 101, 100]) H.size (by decide +kernel) (by decide +kernel)) (va_cwS 1 hts gX5_markKeywords_X8_packed rfl rfl rfl (by decide +kernel) ⟨(Nat.le_of_ble_eq_true rfl), (Nat.le_of_ble_eq_true rfl)⟩) ⟨Wd.blind, fun U hU hW => ⟨rfl, Wd.call hPc hDc hK hC hZ hS hFc U hU hW⟩⟩ rfl rfl hl.1 rfl (lv_room (Nat.le_of_ble_eq_true rfl)) dX5_markKeywords_13 ⟨(Nat.le_of_ble_eq_true rfl), (Nat.le_of_ble_eq_true rfl)⟩) hS (fun q _ h => hFc q h) hFc (fun rn41 u t H1 locs ht hvm hw hB hz1 hk1 hS => ?_)
                                                      obtain ⟨hP1, hD1⟩ := hB
                                                      rw [ht] at hP1
                                                      obtain ⟨hP, hD⟩ := PDq.join (w := [(oX5 r1 k1 k2 k3 (nI ct)), (k1, .inl (cA 0, 701, .inl f1_13)), (k2, .inl (cA 0, 701, .inl ft)), (k3, .inl (cA 1, 701, .inr (.inl fv)))]) 4 hP hD [] [0, 1, 2, 3] rfl rfl (by decide) (by decide) hk1 hFc hP1 hD1 rfl
                                                      generalize H1 = H at hP hS ⊢
                                                      obtain rfl : rn41 = 52095867044 := hw.trans (by decide +kernel)
                                                      refine lv_lstore_n (lv' := [(2, .long 52095867044), (1, .int 21), (4, .int (nI ct)), (0, .ref r1)]) hx hb dX5_markKeywords_16 rfl hl (by decide) rfl (fun ls hl => ?_)
                                                      refine lv_iconst (v := 0) hx hb dX5_markKeywords_17 (by decide) ?_
                                                      refine lv_istore (lv' := [(4, .int 0), (2, .long 52095867044), (1, .int 21), (0, .ref r1)]) hx hb dX5_markKeywords_18 hl (by decide) rfl (fun ls hl => ?_)
                                                      have loop14 : ∀ (n14 i14 : Nat) (f1_14 : Nat → Int32) (H : Heap) (locs : List Loc) (ls : Array Slot), i14 + n14 = ct → Rdd f1_14 → Mi 13 ct i14 fk fv f1_14 → va_P D vwCl [(oX5 r1 k1 k2 k3 (nI ct)), (k1, .inl (cA 0, 701, .inl f1_14)), (k2, .inl (cA 0, 701, .inl ft)), (k3, .inl (cA 1, 701, .inr (.inl fv)))] H → va_D A [(oX5 r1 k1 k2 k3 (nI ct)), (k1, .inl (cA 0, 701, .inl f1_14)), (k2, .inl (cA 0, 701, .inl ft)), (k3, .inl (cA 1, 701, .inr (.inl fv)))] → va_S A s.heap H locs → lv_has ls 5 [(4, .int (nI i14)), (2, .long 52095867044), (1, .int 21), (0, .ref r1)] → W p l e (headSpec wsX5_markKeywords ({ frames := 5, cells := 0, slots := 0, locals := 108 } : Room)).room s m ([.ref r1] : List Value).toArray below meth c H locs 0 0 (MQ below (va_Qv (fun _ : Unit => True) (fun (_ : Unit) t => ∃ zk : Nat → Int32, Mk 15 ct fk fv zk ∧ Wq D A [(oX5 r1 k1 k2 k3 (nI ct)), (k1, .inl (cA 0, 701, .inl zk)), (k2, .inl (cA 0, 701, .inl ft)), (k3, .inl (cA 1, 701, .inr (.inl fv)))] t) A) ([.ref r1] : List Value).toArray s 0 0 A) (F0 m 20 ls []) := by
                                                        intro n14
                                                        induction n14 with
                                                        | zero =>
                                                          intro i14 f1_14 H locs ls hi14 hf0_14 hv0_14 hP hD hS hl
                                                          obtain rfl : ct = i14 := by omega
                                                          refine lv_iload hx hb dX5_markKeywords_20 (lv_at hl 0 rfl) ?_
                                                          refine lv_aload_n hx hb dX5_markKeywords_22 rfl (lv_at hl 3 rfl) ?_
                                                          refine va_get (D := D) (ci := 9) (v := .int (nI ct)) (C := RX5) (T := TX5) (N := 4) hx hb hts inX5 hown hK hP 0 rfl rfl 3 (by decide) (hts (.fieldLink RX5 22 "EscrowDesk$Scanner" "count" "I") (by decide +kernel)) (fun _ h9 => h9) rfl dX5_markKeywords_23 ?_
                                                          refine lv_icmp_ge (tgt := 66) hx hb dX5_markKeywords_26 (by decide) (fun c42 => ?_) (fun c9 => absurd (nI_le (a := ct) (b := ct) (show ct ≤ ct by omega) (by omega)) c9)
                                                          refine lv_iinc (v := 22) (lv' := [(1, .int 22), (4, .int (nI ct)), (2, .long 52095867044), (0, .ref r1)]) hx hb dX5_markKeywords_66 hl (k := 2) rfl (by first | rfl | decide +kernel) (by decide) rfl (fun ls hl => ?_)
                                                          refine lv_goto (tgt := 3) hx hb dX5_markKeywords_69 (by decide) ?_
                                                          refine lv_iload_n hx hb dX5_markKeywords_3 rfl (lv_at hl 0 rfl) ?_
                                                          refine lv_bipush (v := 22) hx hb dX5_markKeywords_4 (by decide) ?_
                                                          refine lv_icmp_gt (tgt := 72) hx hb dX5_markKeywords_6 (by decide) (fun c9 => absurd c9 (by decide)) (fun c43 => ?_)
                                                          refine lv_iload_n hx hb dX5_markKeywords_9 rfl (lv_at hl 0 rfl) ?_
                                                          obtain ⟨hPc, hDc, hFc⟩ := PDq.cut (wc := []) hP hD hS hA [] (by decide) rfl
                                                          refine va_callr (va_runS (As := [.int 22]) (rest := []) ⟨hx, hb, hml, hown, hts⟩ (c_spell_22 l D cA sa  H.size) (va_cwS 1 hts gX5_markKeywords_X7_spelling rfl rfl rfl (by decide +kernel) ⟨(Nat.le_of_ble_eq_true rfl), (Nat.le_of_ble_eq_true rfl)⟩) ⟨Wd.blind, fun U hU hW => ⟨rfl, Wd.call hPc hDc hK hC hZ hS hFc U hU hW⟩⟩ rfl rfl hl.1 rfl (lv_room (Nat.le_of_ble_eq_true rfl)) dX5_markKeywords_10 ⟨(Nat.le_of_ble_eq_true rfl), (Nat.le_of_ble_eq_true rfl)⟩) hS (fun q _ h => hFc q h) hFc (fun u ra t H1 locs ht hvm hw hB hz1 hk1 hS => ?_)
                                                          obtain ⟨hra, hP1, hD1⟩ := hB
                                                          obtain rfl := hra.symm
                                                          rw [ht] at hP1
                                                          obtain ⟨hP, hD⟩ := PDq.join (w := [(oX5 r1 k1 k2 k3 (nI ct)), (k1, .inl (cA 0, 701, .inl f1_14)), (k2, .inl (cA 0, 701, .inl ft)), (k3, .inl (cA 1, 701, .inr (.inl fv)))]) 4 hP hD [] [0, 1, 2, 3] rfl rfl (by decide) (by decide) hk1 hFc hP1 hD1 rfl
                                                          generalize H1 = H at hP hS ⊢
                                                          obtain ⟨hPc, hDc, hFc⟩ := PDq.cut (wc := []) hP hD hS hA [] (by decide) rfl
                                                          refine va_calll (va_runS (As := [.ref (sa 15)]) (rest := []) ⟨hx, hb, hml, hown, hts⟩ (x_packed l D cA sa 15 ([97, 108, 119, 97, 121, 115]) H.size (by decide +kernel) (by decide +kernel)) (va_cwS 1 hts gX5_markKeywords_X8_packed rfl rfl rfl (by decide +kernel) ⟨(Nat.le_of_ble_eq_true rfl), (Nat.le_of_ble_eq_true rfl)⟩) ⟨Wd.blind, fun U hU hW => ⟨rfl, Wd.call hPc hDc hK hC hZ hS hFc U hU hW⟩⟩ rfl rfl hl.1 rfl (lv_room (Nat.le_of_ble_eq_true rfl)) dX5_markKeywords_13 ⟨(Nat.le_of_ble_eq_true rfl), (Nat.le_of_ble_eq_true rfl)⟩) hS (fun q _ h => hFc q h) hFc (fun rn44 u t H1 locs ht hvm hw hB hz1 hk1 hS => ?_)
                                                          obtain ⟨hP1, hD1⟩ := hB
                                                          rw [ht] at hP1
                                                          obtain ⟨hP, hD⟩ := PDq.join (w := [(oX5 r1 k1 k2 k3 (nI ct)), (k1, .inl (cA 0, 701, .inl f1_14)), (k2, .inl (cA 0, 701, .inl ft)), (k3, .inl (cA 1, 701, .inr (.inl fv)))]) 4 hP hD [] [0, 1, 2, 3] rfl rfl (by decide) (by decide) hk1 hFc hP1 hD1 rfl
                                                          generalize H1 = H at hP hS ⊢
                                                          obtain rfl : rn44 = 46892851 := hw.trans (by decide +kernel)
                                                          refine lv_lstore_n (lv' := [(2, .long 46892851), (1, .int 22), (4, .int (nI ct)), (0, .ref r1)]) hx hb dX5_markKeywords_16 rfl hl (by decide) rfl (fun ls hl => ?_)
                                                          refine lv_iconst (v := 0) hx hb dX5_markKeywords_17 (by decide) ?_
                                                          refine lv_istore (lv' := [(4, .int 0), (2, .long 46892851), (1, .int 22), (0, .ref r1)]) hx hb dX5_markKeywords_18 hl (by decide) rfl (fun ls hl => ?_)
                                                          have loop15 : ∀ (n15 i15 : Nat) (f1_15 : Nat → Int32) (H : Heap) (locs : List Loc) (ls : Array Slot), i15 + n15 = ct → Rdd f1_15 → Mi 14 ct i15 fk fv f1_15 → va_P D vwCl [(oX5 r1 k1 k2 k3 (nI ct)), (k1, .inl (cA 0, 701, .inl f1_15)), (k2, .inl (cA 0, 701, .inl ft)), (k3, .inl (cA 1, 701, .inr (.inl fv)))] H → va_D A [(oX5 r1 k1 k2 k3 (nI ct)), (k1, .inl (cA 0, 701, .inl f1_15)), (k2, .inl (cA 0, 701, .inl ft)), (k3, .inl (cA 1, 701, .inr (.inl fv)))] → va_S A s.heap H locs → lv_has ls 5 [(4, .int (nI i15)), (2, .long 46892851), (1, .int 22), (0, .ref r1)] → W p l e (headSpec wsX5_markKeywords ({ frames := 5, cells := 0, slots := 0, locals := 108 } : Room)).room s m ([.ref r1] : List Value).toArray below meth c H locs 0 0 (MQ below (va_Qv (fun _ : Unit => True) (fun (_ : Unit) t => ∃ zk : Nat → Int32, Mk 15 ct fk fv zk ∧ Wq D A [(oX5 r1 k1 k2 k3 (nI ct)), (k1, .inl (cA 0, 701, .inl zk)), (k2, .inl (cA 0, 701, .inl ft)), (k3, .inl (cA 1, 701, .inr (.inl fv)))] t) A) ([.ref r1] : List Value).toArray s 0 0 A) (F0 m 20 ls []) := by
                                                            intro n15
                                                            induction n15 with
                                                            | zero =>
                                                              intro i15 f1_15 H locs ls hi15 hf0_15 hv0_15 hP hD hS hl
                                                              obtain rfl : ct = i15 := by omega
                                                              refine lv_iload hx hb dX5_markKeywords_20 (lv_at hl 0 rfl) ?_
                                                              refine lv_aload_n hx hb dX5_markKeywords_22 rfl (lv_at hl 3 rfl) ?_
                                                              refine va_get (D := D) (ci := 9) (v := .int (nI ct)) (C := RX5) (T := TX5) (N := 4) hx hb hts inX5 hown hK hP 0 rfl rfl 3 (by decide) (hts (.fieldLink RX5 22 "EscrowDesk$Scanner" "count" "I") (by decide +kernel)) (fun _ h9 => h9) rfl dX5_markKeywords_23 ?_
                                                              refine lv_icmp_ge (tgt := 66) hx hb dX5_markKeywords_26 (by decide) (fun c45 => ?_) (fun c9 => absurd (nI_le (a := ct) (b := ct) (show ct ≤ ct by omega) (by omega)) c9)
                                                              refine lv_iinc (v := 23) (lv' := [(1, .int 23), (4, .int (nI ct)), (2, .long 46892851), (0, .ref r1)]) hx hb dX5_markKeywords_66 hl (k := 2) rfl (by first | rfl | decide +kernel) (by decide) rfl (fun ls hl => ?_)
                                                              refine lv_goto (tgt := 3) hx hb dX5_markKeywords_69 (by decide) ?_
                                                              refine lv_iload_n hx hb dX5_markKeywords_3 rfl (lv_at hl 0 rfl) ?_
                                                              refine lv_bipush (v := 22) hx hb dX5_markKeywords_4 (by decide) ?_
                                                              refine lv_icmp_gt (tgt := 72) hx hb dX5_markKeywords_6 (by decide) (fun c46 => ?_) (fun c9 => absurd c9 (by decide))
                                                              obtain ⟨hP9, hD9⟩ := PDq.sub (ws' := [(oX5 r1 k1 k2 k3 (nI ct)), (k1, .inl (cA 0, 701, .inl f1_15)), (k2, .inl (cA 0, 701, .inl ft)), (k3, .inl (cA 1, 701, .inr (.inl fv)))]) hP hD [0, 1, 2, 3] (by decide) rfl
                                                              refine W.widen (k := 0) (n := 0) (Nat.le_of_ble_eq_true rfl) (Nat.le_of_ble_eq_true rfl) ?_
                                                              exact (W.vret hx hb hr (fun t ht hW => ⟨⟨(), rfl, trivial, f1_15, (Mi.mk hv0_15), by rw [ht]; exact hP9, hD9⟩, hS.F ht⟩) hS.2.2 dX5_markKeywords_72)
                                                            | succ n15 ih15 =>
                                                              intro i15 f1_15 H locs ls hi15 hf0_15 hv0_15 hP hD hS hl
                                                              refine lv_iload hx hb dX5_markKeywords_20 (lv_at hl 0 rfl) ?_
                                                              refine lv_aload_n hx hb dX5_markKeywords_22 rfl (lv_at hl 3 rfl) ?_
                                                              refine va_get (D := D) (ci := 9) (v := .int (nI ct)) (C := RX5) (T := TX5) (N := 4) hx hb hts inX5 hown hK hP 0 rfl rfl 3 (by decide) (hts (.fieldLink RX5 22 "EscrowDesk$Scanner" "count" "I") (by decide +kernel)) (fun _ h9 => h9) rfl dX5_markKeywords_23 ?_
                                                              refine lv_icmp_ge (tgt := 66) hx hb dX5_markKeywords_26 (by decide) (fun c9 => absurd c9 (nI_ge (a := i15) (b := ct) (show i15 < ct by omega) (by omega))) (fun c47 => ?_)
                                                              refine lv_aload_n hx hb dX5_markKeywords_29 rfl (lv_at hl 3 rfl) ?_
                                                              refine va_get (D := D) (ci := 9) (v := .ref k1) (C := RX5) (T := TX5) (N := 4) hx hb hts inX5 hown hK hP 0 rfl rfl 0 (by decide) (hts (.fieldLink RX5 9 "EscrowDesk$Scanner" "kinds" "[I") (by decide +kernel)) (fun _ h9 => h9) rfl dX5_markKeywords_30 ?_
                                                              refine lv_iload hx hb dX5_markKeywords_33 (lv_at hl 0 rfl) ?_
                                                              refine va_iald hx hb hK hP 1 0 rfl rfl (vp_in_nI (n := i15) (N := 701) (show i15 < 701 by omega) (by decide)) dX5_markKeywords_35 ?_
                                                              refine lv_topi (fun yn48 eyn48 => ?_)
                                                              obtain rfl : yn48 = (f1_15 i15) := eyn48.trans (by rw [nI_clamp (by omega)])
                                                              refine lv_iconst (v := 4) hx hb dX5_markKeywords_36 (by decide) ?_
                                                              refine lv_icmp_ne (tgt := 60) hx hb dX5_markKeywords_37 (by decide) (fun c49 => ?_) (fun c49 => ?_)
                                                              · skip
                                                                refine lv_iinc (v := (nI (i15 + 1))) (lv' := [(4, .int (nI (i15 + 1))), (2, .long 46892851), (1, .int 22), (0, .ref r1)]) hx hb dX5_markKeywords_60 hl (k := 0) rfl (nI_1 _) (by decide) rfl (fun ls hl => ?_)
                                                                refine lv_goto (tgt := 20) hx hb dX5_markKeywords_63 (by decide) ?_
                                                                obtain ⟨hP9, hD9⟩ := PDq.sub (ws' := [(oX5 r1 k1 k2 k3 (nI ct)), (k1, .inl (cA 0, 701, .inl f1_15)), (k2, .inl (cA 0, 701, .inl ft)), (k3, .inl (cA 1, 701, .inr (.inl fv)))]) hP hD [0, 1, 2, 3] (by decide) rfl
                                                                exact ih15 (i15 + 1) f1_15 H _ ls (by omega) hf0_15 (Mi.no hv0_15 (by omega) (fun q => c49 q.1)) hP9 hD9 hS (lv_sub hl [0, 1, 2, 3] rfl)
                                                              · skip
                                                                refine lv_aload_n hx hb dX5_markKeywords_40 rfl (lv_at hl 3 rfl) ?_
                                                                refine va_get (D := D) (ci := 9) (v := .ref k3) (C := RX5) (T := TX5) (N := 4) hx hb hts inX5 hown hK hP 0 rfl rfl 2 (by decide) (hts (.fieldLink RX5 18 "EscrowDesk$Scanner" "values" "[J") (by decide +kernel)) (fun _ h9 => h9) rfl dX5_markKeywords_41 ?_
                                                                refine lv_iload hx hb dX5_markKeywords_44 (lv_at hl 0 rfl) ?_
                                                                refine va_lald hx hb hK hP 3 1 rfl rfl (vp_in_nI (n := i15) (N := 701) (show i15 < 701 by omega) (by decide)) dX5_markKeywords_46 ?_
                                                                refine lv_topl (fun yn50 eyn50 => ?_)
                                                                obtain rfl : yn50 = (fv i15) := eyn50.trans (by rw [nI_clamp (by omega)])
                                                                refine lv_lload_n hx hb dX5_markKeywords_47 rfl (lv_at hl 1 rfl) ?_
                                                                refine W.lcmp hx hb dX5_markKeywords_48 ?_
                                                                refine lv_if_ne (tgt := 60) hx hb dX5_markKeywords_49 (by decide) (fun c51 => ?_) (fun c51 => ?_)
                                                                · skip
                                                                  refine lv_iinc (v := (nI (i15 + 1))) (lv' := [(4, .int (nI (i15 + 1))), (2, .long 46892851), (1, .int 22), (0, .ref r1)]) hx hb dX5_markKeywords_60 hl (k := 0) rfl (nI_1 _) (by decide) rfl (fun ls hl => ?_)
                                                                  refine lv_goto (tgt := 20) hx hb dX5_markKeywords_63 (by decide) ?_
                                                                  obtain ⟨hP9, hD9⟩ := PDq.sub (ws' := [(oX5 r1 k1 k2 k3 (nI ct)), (k1, .inl (cA 0, 701, .inl f1_15)), (k2, .inl (cA 0, 701, .inl ft)), (k3, .inl (cA 1, 701, .inr (.inl fv)))]) hP hD [0, 1, 2, 3] (by decide) rfl
                                                                  exact ih15 (i15 + 1) f1_15 H _ ls (by omega) hf0_15 (Mi.nox hv0_15 (by omega) c51 (by decide)) hP9 hD9 hS (lv_sub hl [0, 1, 2, 3] rfl)
                                                                · skip
                                                                  refine lv_aload_n hx hb dX5_markKeywords_52 rfl (lv_at hl 3 rfl) ?_
                                                                  refine va_get (D := D) (ci := 9) (v := .ref k1) (C := RX5) (T := TX5) (N := 4) hx hb hts inX5 hown hK hP 0 rfl rfl 0 (by decide) (hts (.fieldLink RX5 9 "EscrowDesk$Scanner" "kinds" "[I") (by decide +kernel)) (fun _ h9 => h9) rfl dX5_markKeywords_53 ?_
                                                                  refine lv_iload hx hb dX5_markKeywords_56 (lv_at hl 0 rfl) ?_
                                                                  refine lv_iload_n hx hb dX5_markKeywords_58 rfl (lv_at hl 2 rfl) ?_
                                                                  refine va_iast hx hb hK hP hD hS 1 0 rfl rfl (vp_in_nI (n := i15) (N := 701) (show i15 < 701 by omega) (by decide)) dX5_markKeywords_59 (fun H locs hP hD hS => ?_)
                                                                  obtain ⟨hP, hD⟩ : PDq D A [(oX5 r1 k1 k2 k3 (nI ct)), (k1, .inl (cA 0, 701, .inl (upd f1_15 (((nI i15)).toNatClampNeg) 22))), (k2, .inl (cA 0, 701, .inl ft)), (k3, .inl (cA 1, 701, .inr (.inl fv)))] H := ⟨hP, hD⟩
                                                                  have hn53 : Upp i15 22 f1_15 (upd f1_15 (((nI i15)).toNatClampNeg) 22) := Upp.of (by omega)
                                                                  have hn54 : Rdd (upd f1_15 (((nI i15)).toNatClampNeg) 22) := rfl
                                                                  generalize (upd f1_15 (((nI i15)).toNatClampNeg) 22) = fn52 at hP hD hn53 hn54
                                                                  obtain ⟨hP, hD⟩ : PDq D A [(oX5 r1 k1 k2 k3 (nI ct)), (k1, .inl (cA 0, 701, .inl fn52)), (k2, .inl (cA 0, 701, .inl ft)), (k3, .inl (cA 1, 701, .inr (.inl fv)))] H := ⟨hP, hD⟩
                                                                  refine lv_iinc (v := (nI (i15 + 1))) (lv' := [(4, .int (nI (i15 + 1))), (2, .long 46892851), (1, .int 22), (0, .ref r1)]) hx hb dX5_markKeywords_60 hl (k := 0) rfl (nI_1 _) (by decide) rfl (fun ls hl => ?_)
                                                                  refine lv_goto (tgt := 20) hx hb dX5_markKeywords_63 (by decide) ?_
                                                                  obtain ⟨hP9, hD9⟩ := PDq.sub (ws' := [(oX5 r1 k1 k2 k3 (nI ct)), (k1, .inl (cA 0, 701, .inl fn52)), (k2, .inl (cA 0, 701, .inl ft)), (k3, .inl (cA 1, 701, .inr (.inl fv)))]) hP hD [0, 1, 2, 3] (by decide) rfl
                                                                  exact ih15 (i15 + 1) fn52 H _ ls (by omega) hn54 (Mi.yesx hv0_15 (by omega) c49 c51 (by decide) (by decide) hn53) hP9 hD9 hS (lv_sub hl [0, 1, 2, 3] rfl)
                                                          obtain ⟨hP9, hD9⟩ := PDq.sub (ws' := [(oX5 r1 k1 k2 k3 (nI ct)), (k1, .inl (cA 0, 701, .inl f1_14)), (k2, .inl (cA 0, 701, .inl ft)), (k3, .inl (cA 1, 701, .inr (.inl fv)))]) hP hD [0, 1, 2, 3] (by decide) rfl
                                                          exact loop15 (ct - 0) 0 f1_14 _ _ ls (by omega) hf0_14 (Mk.mi (Mi.mk hv0_14)) hP9 hD9 hS (lv_sub hl [0, 1, 2, 3] rfl)
                                                        | succ n14 ih14 =>
                                                          intro i14 f1_14 H locs ls hi14 hf0_14 hv0_14 hP hD hS hl
                                                          refine lv_iload hx hb dX5_markKeywords_20 (lv_at hl 0 rfl) ?_
                                                          refine lv_aload_n hx hb dX5_markKeywords_22 rfl (lv_at hl 3 rfl) ?_
                                                          refine va_get (D := D) (ci := 9) (v := .int (nI ct)) (C := RX5) (T := TX5) (N := 4) hx hb hts inX5 hown hK hP 0 rfl rfl 3 (by decide) (hts (.fieldLink RX5 22 "EscrowDesk$Scanner" "count" "I") (by decide +kernel)) (fun _ h9 => h9) rfl dX5_markKeywords_23 ?_
                                                          refine lv_icmp_ge (tgt := 66) hx hb dX5_markKeywords_26 (by decide) (fun c9 => absurd c9 (nI_ge (a := i14) (b := ct) (show i14 < ct by omega) (by omega))) (fun c55 => ?_)
                                                          refine lv_aload_n hx hb dX5_markKeywords_29 rfl (lv_at hl 3 rfl) ?_
                                                          refine va_get (D := D) (ci := 9) (v := .ref k1) (C := RX5) (T := TX5) (N := 4) hx hb hts inX5 hown hK hP 0 rfl rfl 0 (by decide) (hts (.fieldLink RX5 9 "EscrowDesk$Scanner" "kinds" "[I") (by decide +kernel)) (fun _ h9 => h9) rfl dX5_markKeywords_30 ?_
                                                          refine lv_iload hx hb dX5_markKeywords_33 (lv_at hl 0 rfl) ?_
                                                          refine va_iald hx hb hK hP 1 0 rfl rfl (vp_in_nI (n := i14) (N := 701) (show i14 < 701 by omega) (by decide)) dX5_markKeywords_35 ?_
                                                          refine lv_topi (fun yn56 eyn56 => ?_)
                                                          obtain rfl : yn56 = (f1_14 i14) := eyn56.trans (by rw [nI_clamp (by omega)])
                                                          refine lv_iconst (v := 4) hx hb dX5_markKeywords_36 (by decide) ?_
                                                          refine lv_icmp_ne (tgt := 60) hx hb dX5_markKeywords_37 (by decide) (fun c57 => ?_) (fun c57 => ?_)
                                                          · skip
                                                            refine lv_iinc (v := (nI (i14 + 1))) (lv' := [(4, .int (nI (i14 + 1))), (2, .long 52095867044), (1, .int 21), (0, .ref r1)]) hx hb dX5_markKeywords_60 hl (k := 0) rfl (nI_1 _) (by decide) rfl (fun ls hl => ?_)
                                                            refine lv_goto (tgt := 20) hx hb dX5_markKeywords_63 (by decide) ?_
                                                            obtain ⟨hP9, hD9⟩ := PDq.sub (ws' := [(oX5 r1 k1 k2 k3 (nI ct)), (k1, .inl (cA 0, 701, .inl f1_14)), (k2, .inl (cA 0, 701, .inl ft)), (k3, .inl (cA 1, 701, .inr (.inl fv)))]) hP hD [0, 1, 2, 3] (by decide) rfl
                                                            exact ih14 (i14 + 1) f1_14 H _ ls (by omega) hf0_14 (Mi.no hv0_14 (by omega) (fun q => c57 q.1)) hP9 hD9 hS (lv_sub hl [0, 1, 2, 3] rfl)
                                                          · skip
                                                            refine lv_aload_n hx hb dX5_markKeywords_40 rfl (lv_at hl 3 rfl) ?_
                                                            refine va_get (D := D) (ci := 9) (v := .ref k3) (C := RX5) (T := TX5) (N := 4) hx hb hts inX5 hown hK hP 0 rfl rfl 2 (by decide) (hts (.fieldLink RX5 18 "EscrowDesk$Scanner" "values" "[J") (by decide +kernel)) (fun _ h9 => h9) rfl dX5_markKeywords_41 ?_
                                                            refine lv_iload hx hb dX5_markKeywords_44 (lv_at hl 0 rfl) ?_
                                                            refine va_lald hx hb hK hP 3 1 rfl rfl (vp_in_nI (n := i14) (N := 701) (show i14 < 701 by omega) (by decide)) dX5_markKeywords_46 ?_
                                                            refine lv_topl (fun yn58 eyn58 => ?_)
                                                            obtain rfl : yn58 = (fv i14) := eyn58.trans (by rw [nI_clamp (by omega)])
                                                            refine lv_lload_n hx hb dX5_markKeywords_47 rfl (lv_at hl 1 rfl) ?_
                                                            refine W.lcmp hx hb dX5_markKeywords_48 ?_
                                                            refine lv_if_ne (tgt := 60) hx hb dX5_markKeywords_49 (by decide) (fun c59 => ?_) (fun c59 => ?_)
                                                            · skip
                                                              refine lv_iinc (v := (nI (i14 + 1))) (lv' := [(4, .int (nI (i14 + 1))), (2, .long 52095867044), (1, .int 21), (0, .ref r1)]) hx hb dX5_markKeywords_60 hl (k := 0) rfl (nI_1 _) (by decide) rfl (fun ls hl => ?_)
                                                              refine lv_goto (tgt := 20) hx hb dX5_markKeywords_63 (by decide) ?_
                                                              obtain ⟨hP9, hD9⟩ := PDq.sub (ws' := [(oX5 r1 k1 k2 k3 (nI ct)), (k1, .inl (cA 0, 701, .inl f1_14)), (k2, .inl (cA 0, 701, .inl ft)), (k3, .inl (cA 1, 701, .inr (.inl fv)))]) hP hD [0, 1, 2, 3] (by decide) rfl
                                                              exact ih14 (i14 + 1) f1_14 H _ ls (by omega) hf0_14 (Mi.nox hv0_14 (by omega) c59 (by decide)) hP9 hD9 hS (lv_sub hl [0, 1, 2, 3] rfl)
                                                            · skip
                                                              refine lv_aload_n hx hb dX5_markKeywords_52 rfl (lv_at hl 3 rfl) ?_
                                                              refine va_get (D := D) (ci := 9) (v := .ref k1) (C := RX5) (T := TX5) (N := 4) hx hb hts inX5 hown hK hP 0 rfl rfl 0 (by decide) (hts (.fieldLink RX5 9 "EscrowDesk$Scanner" "kinds" "[I") (by decide +kernel)) (fun _ h9 => h9) rfl dX5_markKeywords_53 ?_
                                                              refine lv_iload hx hb dX5_markKeywords_56 (lv_at hl 0 rfl) ?_
                                                              refine lv_iload_n hx hb dX5_markKeywords_58 rfl (lv_at hl 2 rfl) ?_
                                                              refine va_iast hx hb hK hP hD hS 1 0 rfl rfl (vp_in_nI (n := i14) (N := 701) (show i14 < 701 by omega) (by decide)) dX5_markKeywords_59 (fun H locs hP hD hS => ?_)
                                                              obtain ⟨hP, hD⟩ : PDq D A [(oX5 r1 k1 k2 k3 (nI ct)), (k1, .inl (cA 0, 701, .inl (upd f1_14 (((nI i14)).toNatClampNeg) 21))), (k2, .inl (cA 0, 701, .inl ft)), (k3, .inl (cA 1, 701, .inr (.inl fv)))] H := ⟨hP, hD⟩
                                                              have hn61 : Upp i14 21 f1_14 (upd f1_14 (((nI i14)).toNatClampNeg) 21) := Upp.of (by omega)
                                                              have hn62 : Rdd (upd f1_14 (((nI i14)).toNatClampNeg) 21) := rfl
                                                              generalize (upd f1_14 (((nI i14)).toNatClampNeg) 21) = fn60 at hP hD hn61 hn62
                                                              obtain ⟨hP, hD⟩ : PDq D A [(oX5 r1 k1 k2 k3 (nI ct)), (k1, .inl (cA 0, 701, .inl fn60)), (k2, .inl (cA 0, 701, .inl ft)), (k3, .inl (cA 1, 701, .inr (.inl fv)))] H := ⟨hP, hD⟩
                                                              refine lv_iinc (v := (nI (i14 + 1))) (lv' := [(4, .int (nI (i14 + 1))), (2, .long 52095867044), (1, .int 21), (0, .ref r1)]) hx hb dX5_markKeywords_60 hl (k := 0) rfl (nI_1 _) (by decide) rfl (fun ls hl => ?_)
                                                              refine lv_goto (tgt := 20) hx hb dX5_markKeywords_63 (by decide) ?_
                                                              obtain ⟨hP9, hD9⟩ := PDq.sub (ws' := [(oX5 r1 k1 k2 k3 (nI ct)), (k1, .inl (cA 0, 701, .inl fn60)), (k2, .inl (cA 0, 701, .inl ft)), (k3, .inl (cA 1, 701, .inr (.inl fv)))]) hP hD [0, 1, 2, 3] (by decide) rfl
                                                              exact ih14 (i14 + 1) fn60 H _ ls (by omega) hn62 (Mi.yesx hv0_14 (by omega) c57 c59 (by decide) (by decide) hn61) hP9 hD9 hS (lv_sub hl [0, 1, 2, 3] rfl)
                                                      obtain ⟨hP9, hD9⟩ := PDq.sub (ws' := [(oX5 r1 k1 k2 k3 (nI ct)), (k1, .inl (cA 0, 701, .inl f1_13)), (k2, .inl (cA 0, 701, .inl ft)), (k3, .inl (cA 1, 701, .inr (.inl fv)))]) hP hD [0, 1, 2, 3] (by decide) rfl
                                                      exact loop14 (ct - 0) 0 f1_13 _ _ ls (by omega) hf0_13 (Mk.mi (Mi.mk hv0_13)) hP9 hD9 hS (lv_sub hl [0, 1, 2, 3] rfl)
                                                    | succ n13 ih13 =>
                                                      intro i13 f1_13 H locs ls hi13 hf0_13 hv0_13 hP hD hS hl
                                                      refine lv_iload hx hb dX5_markKeywords_20 (lv_at hl 0 rfl) ?_
                                                      refine lv_aload_n hx hb dX5_markKeywords_22 rfl (lv_at hl 3 rfl) ?_
                                                      refine va_get (D := D) (ci := 9) (v := .int (nI ct)) (C := RX5) (T := TX5) (N := 4) hx hb hts inX5 hown hK hP 0 rfl rfl 3 (by decide) (hts (.fieldLink RX5 22 "EscrowDesk$Scanner" "count" "I") (by decide +kernel)) (fun _ h9 => h9) rfl dX5_markKeywords_23 ?_
                                                      refine lv_icmp_ge (tgt := 66) hx hb dX5_markKeywords_26 (by decide) (fun c9 => absurd c9 (nI_ge (a := i13) (b := ct) (show i13 < ct by omega) (by omega))) (fun c63 => ?_)
                                                      refine lv_aload_n hx hb dX5_markKeywords_29 rfl (lv_at hl 3 rfl) ?_
                                                      refine va_get (D := D) (ci := 9) (v := .ref k1) (C := RX5) (T := TX5) (N := 4) hx hb hts inX5 hown hK hP 0 rfl rfl 0 (by decide) (hts (.fieldLink RX5 9 "EscrowDesk$Scanner" "kinds" "[I") (by decide +kernel)) (fun _ h9 => h9) rfl dX5_markKeywords_30 ?_
                                                      refine lv_iload hx hb dX5_markKeywords_33 (lv_at hl 0 rfl) ?_
                                                      refine va_iald hx hb hK hP 1 0 rfl rfl (vp_in_nI (n := i13) (N := 701) (show i13 < 701 by omega) (by decide)) dX5_markKeywords_35 ?_
                                                      refine lv_topi (fun yn64 eyn64 => ?_)
                                                      obtain rfl : yn64 = (f1_13 i13) := eyn64.trans (by rw [nI_clamp (by omega)])
                                                      refine lv_iconst (v := 4) hx hb dX5_markKeywords_36 (by decide) ?_
                                                      refine lv_icmp_ne (tgt := 60) hx hb dX5_markKeywords_37 (by decide) (fun c65 => ?_) (fun c65 => ?_)
                                                      · skip
                                                        refine lv_iinc (v := (nI (i13 + 1))) (lv' := [(4, .int (nI (i13 + 1))), (2, .long 20141), (1, .int 20), (0, .ref r1)]) hx hb dX5_markKeywords_60 hl (k := 0) rfl (nI_1 _) (by decide) rfl (fun ls hl => ?_)
                                                        refine lv_goto (tgt := 20) hx hb dX5_markKeywords_63 (by decide) ?_
                                                        obtain ⟨hP9, hD9⟩ := PDq.sub (ws' := [(oX5 r1 k1 k2 k3 (nI ct)), (k1, .inl (cA 0, 701, .inl f1_13)), (k2, .inl (cA 0, 701, .inl ft)), (k3, .inl (cA 1, 701, .inr (.inl fv)))]) hP hD [0, 1, 2, 3] (by decide) rfl
                                                        exact ih13 (i13 + 1) f1_13 H _ ls (by omega) hf0_13 (Mi.no hv0_13 (by omega) (fun q => c65 q.1)) hP9 hD9 hS (lv_sub hl [0, 1, 2, 3] rfl)
                                                      · skip
                                                        refine lv_aload_n hx hb dX5_markKeywords_40 rfl (lv_at hl 3 rfl) ?_
                                                        refine va_get (D := D) (ci := 9) (v := .ref k3) (C := RX5) (T := TX5) (N := 4) hx hb hts inX5 hown hK hP 0 rfl rfl 2 (by decide) (hts (.fieldLink RX5 18 "EscrowDesk$Scanner" "values" "[J") (by decide +kernel)) (fun _ h9 => h9) rfl dX5_markKeywords_41 ?_
                                                        refine lv_iload hx hb dX5_markKeywords_44 (lv_at hl 0 rfl) ?_
                                                        refine va_lald hx hb hK hP 3 1 rfl rfl (vp_in_nI (n := i13) (N := 701) (show i13 < 701 by omega) (by decide)) dX5_markKeywords_46 ?_
                                                        refine lv_topl (fun yn66 eyn66 => ?_)
                                                        obtain rfl : yn66 = (fv i13) := eyn66.trans (by rw [nI_clamp (by omega)])
                                                        refine lv_lload_n hx hb dX5_markKeywords_47 rfl (lv_at hl 1 rfl) ?_
                                                        refine W.lcmp hx hb dX5_markKeywords_48 ?_
                                                        refine lv_if_ne (tgt := 60) hx hb dX5_markKeywords_49 (by decide) (fun c67 => ?_) (fun c67 => ?_)
                                                        · skip
                                                          refine lv_iinc (v := (nI (i13 + 1))) (lv' := [(4, .int (nI (i13 + 1))), (2, .long 20141), (1, .int 20), (0, .ref r1)]) hx hb dX5_markKeywords_60 hl (k := 0) rfl (nI_1 _) (by decide) rfl (fun ls hl => ?_)
                                                          refine lv_goto (tgt := 20) hx hb dX5_markKeywords_63 (by decide) ?_
                                                          obtain ⟨hP9, hD9⟩ := PDq.sub (ws' := [(oX5 r1 k1 k2 k3 (nI ct)), (k1, .inl (cA 0, 701, .inl f1_13)), (k2, .inl (cA 0, 701, .inl ft)), (k3, .inl (cA 1, 701, .inr (.inl fv)))]) hP hD [0, 1, 2, 3] (by decide) rfl
                                                          exact ih13 (i13 + 1) f1_13 H _ ls (by omega) hf0_13 (Mi.nox hv0_13 (by omega) c67 (by decide)) hP9 hD9 hS (lv_sub hl [0, 1, 2, 3] rfl)
                                                        · skip
                                                          refine lv_aload_n hx hb dX5_markKeywords_52 rfl (lv_at hl 3 rfl) ?_
                                                          refine va_get (D := D) (ci := 9) (v := .ref k1) (C := RX5) (T := TX5) (N := 4) hx hb hts inX5 hown hK hP 0 rfl rfl 0 (by decide) (hts (.fieldLink RX5 9 "EscrowDesk$Scanner" "kinds" "[I") (by decide +kernel)) (fun _ h9 => h9) rfl dX5_markKeywords_53 ?_
                                                          refine lv_iload hx hb dX5_markKeywords_56 (lv_at hl 0 rfl) ?_
                                                          refine lv_iload_n hx hb dX5_markKeywords_58 rfl (lv_at hl 2 rfl) ?_
                                                          refine va_iast hx hb hK hP hD hS 1 0 rfl rfl (vp_in_nI (n := i13) (N := 701) (show i13 < 701 by omega) (by decide)) dX5_markKeywords_59 (fun H locs hP hD hS => ?_)
                                                          obtain ⟨hP, hD⟩ : PDq D A [(oX5 r1 k1 k2 k3 (nI ct)), (k1, .inl (cA 0, 701, .inl (upd f1_13 (((nI i13)).toNatClampNeg) 20))), (k2, .inl (cA 0, 701, .inl ft)), (k3, .inl (cA 1, 701, .inr (.inl fv)))] H := ⟨hP, hD⟩
                                                          have hn69 : Upp i13 20 f1_13 (upd f1_13 (((nI i13)).toNatClampNeg) 20) := Upp.of (by omega)
                                                          have hn70 : Rdd (upd f1_13 (((nI i13)).toNatClampNeg) 20) := rfl
                                                          generalize (upd f1_13 (((nI i13)).toNatClampNeg) 20) = fn68 at hP hD hn69 hn70
                                                          obtain ⟨hP, hD⟩ : PDq D A [(oX5 r1 k1 k2 k3 (nI ct)), (k1, .inl (cA 0, 701, .inl fn68)), (k2, .inl (cA 0, 701, .inl ft)), (k3, .inl (cA 1, 701, .inr (.inl fv)))] H := ⟨hP, hD⟩
                                                          refine lv_iinc (v := (nI (i13 + 1))) (lv' := [(4, .int (nI (i13 + 1))), (2, .long 20141), (1, .int 20), (0, .ref r1)]) hx hb dX5_markKeywords_60 hl (k := 0) rfl (nI_1 _) (by decide) rfl (fun ls hl => ?_)
                                                          refine lv_goto (tgt := 20) hx hb dX5_markKeywords_63 (by decide) ?_
                                                          obtain ⟨hP9, hD9⟩ := PDq.sub (ws' := [(oX5 r1 k1 k2 k3 (nI ct)), (k1, .inl (cA 0, 701, .inl fn68)), (k2, .inl (cA 0, 701, .inl ft)), (k3, .inl (cA 1, 701, .inr (.inl fv)))]) hP hD [0, 1, 2, 3] (by decide) rfl
                                                          exact ih13 (i13 + 1) fn68 H _ ls (by omega) hn70 (Mi.yesx hv0_13 (by omega) c65 c67 (by decide) (by decide) hn69) hP9 hD9 hS (lv_sub hl [0, 1, 2, 3] rfl)
                                                  obtain ⟨hP9, hD9⟩ := PDq.sub (ws' := [(oX5 r1 k1 k2 k3 (nI ct)), (k1, .inl (cA 0, 701, .inl f1_12)), (k2, .inl (cA 0, 701, .inl ft)), (k3, .inl (cA 1, 701, .inr (.inl fv)))]) hP hD [0, 1, 2, 3] (by decide) rfl
                                                  exact loop13 (ct - 0) 0 f1_12 _ _ ls (by omega) hf0_12 (Mk.mi (Mi.mk hv0_12)) hP9 hD9 hS (lv_sub hl [0, 1, 2, 3] rfl)
                                                | succ n12 ih12 =>
                                                  intro i12 f1_12 H locs ls hi12 hf0_12 hv0_12 hP hD hS hl
                                                  refine lv_iload hx hb dX5_markKeywords_20 (lv_at hl 0 rfl) ?_
                                                  refine lv_aload_n hx hb dX5_markKeywords_22 rfl (lv_at hl 3 rfl) ?_
                                                  refine va_get (D := D) (ci := 9) (v := .int (nI ct)) (C := RX5) (T := TX5) (N := 4) hx hb hts inX5 hown hK hP 0 rfl rfl 3 (by decide) (hts (.fieldLink RX5 22 "EscrowDesk$Scanner" "count" "I") (by decide +kernel)) (fun _ h9 => h9) rfl dX5_markKeywords_23 ?_
                                                  refine lv_icmp_ge (tgt := 66) hx hb dX5_markKeywords_26 (by decide) (fun c9 => absurd c9 (nI_ge (a := i12) (b := ct) (show i12 < ct by omega) (by omega))) (fun c71 => ?_)
                                                  refine lv_aload_n hx hb dX5_markKeywords_29 rfl (lv_at hl 3 rfl) ?_
                                                  refine va_get (D := D) (ci := 9) (v := .ref k1) (C := RX5) (T := TX5) (N := 4) hx hb hts inX5 hown hK hP 0 rfl rfl 0 (by decide) (hts (.fieldLink RX5 9 "EscrowDesk$Scanner" "kinds" "[I") (by decide +kernel)) (fun _ h9 => h9) rfl dX5_markKeywords_30 ?_
                                                  refine lv_iload hx hb dX5_markKeywords_33 (lv_at hl 0 rfl) ?_
                                                  refine va_iald hx hb hK hP 1 0 rfl rfl (vp_in_nI (n := i12) (N := 701) (show i12 < 701 by omega) (by decide)) dX5_markKeywords_35 ?_
                                                  refine lv_topi (fun yn72 eyn72 => ?_)
                                                  obtain rfl : yn72 = (f1_12 i12) := eyn72.trans (by rw [nI_clamp (by omega)])
                                                  refine lv_iconst (v := 4) hx hb dX5_markKeywords_36 (by decide) ?_
                                                  refine lv_icmp_ne (tgt := 60) hx hb dX5_markKeywords_37 (by decide) (fun c73 => ?_) (fun c73 => ?_)
                                                  · skip
                                                    refine lv_iinc (v := (nI (i12 + 1))) (lv' := [(4, .int (nI (i12 + 1))), (2, .long 146885), (1, .int 19), (0, .ref r1)]) hx hb dX5_markKeywords_60 hl (k := 0) rfl (nI_1 _) (by decide) rfl (fun ls hl => ?_)
                                                    refine lv_goto (tgt := 20) hx hb dX5_markKeywords_63 (by decide) ?_
                                                    obtain ⟨hP9, hD9⟩ := PDq.sub (ws' := [(oX5 r1 k1 k2 k3 (nI ct)), (k1, .inl (cA 0, 701, .inl f1_12)), (k2, .inl (cA 0, 701, .inl ft)), (k3, .inl (cA 1, 701, .inr (.inl fv)))]) hP hD [0, 1, 2, 3] (by decide) rfl
                                                    exact ih12 (i12 + 1) f1_12 H _ ls (by omega) hf0_12 (Mi.no hv0_12 (by omega) (fun q => c73 q.1)) hP9 hD9 hS (lv_sub hl [0, 1, 2, 3] rfl)
                                                  · skip
                                                    refine lv_aload_n hx hb dX5_markKeywords_40 rfl (lv_at hl 3 rfl) ?_
                                                    refine va_get (D := D) (ci := 9) (v := .ref k3) (C := RX5) (T := TX5) (N := 4) hx hb hts inX5 hown hK hP 0 rfl rfl 2 (by decide) (hts (.fieldLink RX5 18 "EscrowDesk$Scanner" "values" "[J") (by decide +kernel)) (fun _ h9 => h9) rfl dX5_markKeywords_41 ?_
                                                    refine lv_iload hx hb dX5_markKeywords_44 (lv_at hl 0 rfl) ?_
                                                    refine va_lald hx hb hK hP 3 1 rfl rfl (vp_in_nI (n := i12) (N := 701) (show i12 < 701 by omega) (by decide)) dX5_markKeywords_46 ?_
                                                    refine lv_topl (fun yn74 eyn74 => ?_)
                                                    obtain rfl : yn74 = (fv i12) := eyn74.trans (by rw [nI_clamp (by omega)])
                                                    refine lv_lload_n hx hb dX5_markKeywords_47 rfl (lv_at hl 1 rfl) ?_
                                                    refine W.lcmp hx hb dX5_markKeywords_48 ?_
                                                    refine lv_if_ne (tgt := 60) hx hb dX5_markKeywords_49 (by decide) (fun c75 => ?_) (fun c75 => ?_)
                                                    · skip
                                                      refine lv_iinc (v := (nI (i12 + 1))) (lv' := [(4, .int (nI (i12 + 1))), (2, .long 146885), (1, .int 19), (0, .ref r1)]) hx hb dX5_markKeywords_60 hl (k := 0) rfl (nI_1 _) (by decide) rfl (fun ls hl => ?_)
                                                      refine lv_goto (tgt := 20) hx hb dX5_markKeywords_63 (by decide) ?_
                                                      obtain ⟨hP9, hD9⟩ := PDq.sub (ws' := [(oX5 r1 k1 k2 k3 (nI ct)), (k1, .inl (cA 0, 701, .inl f1_12)), (k2, .inl (cA 0, 701, .inl ft)), (k3, .inl (cA 1, 701, .inr (.inl fv)))]) hP hD [0, 1, 2, 3] (by decide) rfl
                                                      exact ih12 (i12 + 1) f1_12 H _ ls (by omega) hf0_12 (Mi.nox hv0_12 (by omega) c75 (by decide)) hP9 hD9 hS (lv_sub hl [0, 1, 2, 3] rfl)
                                                    · skip
                                                      refine lv_aload_n hx hb dX5_markKeywords_52 rfl (lv_at hl 3 rfl) ?_
                                                      refine va_get (D := D) (ci := 9) (v := .ref k1) (C := RX5) (T := TX5) (N := 4) hx hb hts inX5 hown hK hP 0 rfl rfl 0 (by decide) (hts (.fieldLink RX5 9 "EscrowDesk$Scanner" "kinds" "[I") (by decide +kernel)) (fun _ h9 => h9) rfl dX5_markKeywords_53 ?_
                                                      refine lv_iload hx hb dX5_markKeywords_56 (lv_at hl 0 rfl) ?_
                                                      refine lv_iload_n hx hb dX5_markKeywords_58 rfl (lv_at hl 2 rfl) ?_
                                                      refine va_iast hx hb hK hP hD hS 1 0 rfl rfl (vp_in_nI (n := i12) (N := 701) (show i12 < 701 by omega) (by decide)) dX5_markKeywords_59 (fun H locs hP hD hS => ?_)
                                                      obtain ⟨hP, hD⟩ : PDq D A [(oX5 r1 k1 k2 k3 (nI ct)), (k1, .inl (cA 0, 701, .inl (upd f1_12 (((nI i12)).toNatClampNeg) 19))), (k2, .inl (cA 0, 701, .inl ft)), (k3, .inl (cA 1, 701, .inr (.inl fv)))] H := ⟨hP, hD⟩
                                                      have hn77 : Upp i12 19 f1_12 (upd f1_12 (((nI i12)).toNatClampNeg) 19) := Upp.of (by omega)
                                                      have hn78 : Rdd (upd f1_12 (((nI i12)).toNatClampNeg) 19) := rfl
                                                      generalize (upd f1_12 (((nI i12)).toNatClampNeg) 19) = fn76 at hP hD hn77 hn78
                                                      obtain ⟨hP, hD⟩ : PDq D A [(oX5 r1 k1 k2 k3 (nI ct)), (k1, .inl (cA 0, 701, .inl fn76)), (k2, .inl (cA 0, 701, .inl ft)), (k3, .inl (cA 1, 701, .inr (.inl fv)))] H := ⟨hP, hD⟩
                                                      refine lv_iinc (v := (nI (i12 + 1))) (lv' := [(4, .int (nI (i12 + 1))), (2, .long 146885), (1, .int 19), (0, .ref r1)]) hx hb dX5_markKeywords_60 hl (k := 0) rfl (nI_1 _) (by decide) rfl (fun ls hl => ?_)
                                                      refine lv_goto (tgt := 20) hx hb dX5_markKeywords_63 (by decide) ?_
                                                      obtain ⟨hP9, hD9⟩ := PDq.sub (ws' := [(oX5 r1 k1 k2 k3 (nI ct)), (k1, .inl (cA 0, 701, .inl fn76)), (k2, .inl (cA 0, 701, .inl ft)), (k3, .inl (cA 1, 701, .inr (.inl fv)))]) hP hD [0, 1, 2, 3] (by decide) rfl
                                                      exact ih12 (i12 + 1) fn76 H _ ls (by omega) hn78 (Mi.yesx hv0_12 (by omega) c73 c75 (by decide) (by decide) hn77) hP9 hD9 hS (lv_sub hl [0, 1, 2, 3] rfl)
                                              obtain ⟨hP9, hD9⟩ := PDq.sub (ws' := [(oX5 r1 k1 k2 k3 (nI ct)), (k1, .inl (cA 0, 701, .inl f1_11)), (k2, .inl (cA 0, 701, .inl ft)), (k3, .inl (cA 1, 701, .inr (.inl fv)))]) hP hD [0, 1, 2, 3] (by decide) rfl
                                              exact loop12 (ct - 0) 0 f1_11 _ _ ls (by omega) hf0_11 (Mk.mi (Mi.mk hv0_11)) hP9 hD9 hS (lv_sub hl [0, 1, 2, 3] rfl)
                                            | succ n11 ih11 =>
                                              intro i11 f1_11 H locs ls hi11 hf0_11 hv0_11 hP hD hS hl
                                              refine lv_iload hx hb dX5_markKeywords_20 (lv_at hl 0 rfl) ?_
                                              refine lv_aload_n hx hb dX5_markKeywords_22 rfl (lv_at hl 3 rfl) ?_
                                              refine va_get (D := D) (ci := 9) (v := .int (nI ct)) (C := RX5) (T := TX5) (N := 4) hx hb hts inX5 hown hK hP 0 rfl rfl 3 (by decide) (hts (.fieldLink RX5 22 "EscrowDesk$Scanner" "count" "I") (by decide +kernel)) (fun _ h9 => h9) rfl dX5_markKeywords_23 ?_
                                              refine lv_icmp_ge (tgt := 66) hx hb dX5_markKeywords_26 (by decide) (fun c9 => absurd c9 (nI_ge (a := i11) (b := ct) (show i11 < ct by omega) (by omega))) (fun c79 => ?_)
                                              refine lv_aload_n hx hb dX5_markKeywords_29 rfl (lv_at hl 3 rfl) ?_
                                              refine va_get (D := D) (ci := 9) (v := .ref k1) (C := RX5) (T := TX5) (N := 4) hx hb hts inX5 hown hK hP 0 rfl rfl 0 (by decide) (hts (.fieldLink RX5 9 "EscrowDesk$Scanner" "kinds" "[I") (by decide +kernel)) (fun _ h9 => h9) rfl dX5_markKeywords_30 ?_
                                              refine lv_iload hx hb dX5_markKeywords_33 (lv_at hl 0 rfl) ?_
                                              refine va_iald hx hb hK hP 1 0 rfl rfl (vp_in_nI (n := i11) (N := 701) (show i11 < 701 by omega) (by decide)) dX5_markKeywords_35 ?_
                                              refine lv_topi (fun yn80 eyn80 => ?_)
                                              obtain rfl : yn80 = (f1_11 i11) := eyn80.trans (by rw [nI_clamp (by omega)])
                                              refine lv_iconst (v := 4) hx hb dX5_markKeywords_36 (by decide) ?_
                                              refine lv_icmp_ne (tgt := 60) hx hb dX5_markKeywords_37 (by decide) (fun c81 => ?_) (fun c81 => ?_)
                                              · skip
                                                refine lv_iinc (v := (nI (i11 + 1))) (lv' := [(4, .int (nI (i11 + 1))), (2, .long 17382886), (1, .int 18), (0, .ref r1)]) hx hb dX5_markKeywords_60 hl (k := 0) rfl (nI_1 _) (by decide) rfl (fun ls hl => ?_)
                                                refine lv_goto (tgt := 20) hx hb dX5_markKeywords_63 (by decide) ?_
                                                obtain ⟨hP9, hD9⟩ := PDq.sub (ws' := [(oX5 r1 k1 k2 k3 (nI ct)), (k1, .inl (cA 0, 701, .inl f1_11)), (k2, .inl (cA 0, 701, .inl ft)), (k3, .inl (cA 1, 701, .inr (.inl fv)))]) hP hD [0, 1, 2, 3] (by decide) rfl
                                                exact ih11 (i11 + 1) f1_11 H _ ls (by omega) hf0_11 (Mi.no hv0_11 (by omega) (fun q => c81 q.1)) hP9 hD9 hS (lv_sub hl [0, 1, 2, 3] rfl)
                                              · skip
                                                refine lv_aload_n hx hb dX5_markKeywords_40 rfl (lv_at hl 3 rfl) ?_
                                                refine va_get (D := D) (ci := 9) (v := .ref k3) (C := RX5) (T := TX5) (N := 4) hx hb hts inX5 hown hK hP 0 rfl rfl 2 (by decide) (hts (.fieldLink RX5 18 "EscrowDesk$Scanner" "values" "[J") (by decide +kernel)) (fun _ h9 => h9) rfl dX5_markKeywords_41 ?_
                                                refine lv_iload hx hb dX5_markKeywords_44 (lv_at hl 0 rfl) ?_
                                                refine va_lald hx hb hK hP 3 1 rfl rfl (vp_in_nI (n := i11) (N := 701) (show i11 < 701 by omega) (by decide)) dX5_markKeywords_46 ?_
                                                refine lv_topl (fun yn82 eyn82 => ?_)
                                                obtain rfl : yn82 = (fv i11) := eyn82.trans (by rw [nI_clamp (by omega)])
                                                refine lv_lload_n hx hb dX5_markKeywords_47 rfl (lv_at hl 1 rfl) ?_
                                                refine W.lcmp hx hb dX5_markKeywords_48 ?_
                                                refine lv_if_ne (tgt := 60) hx hb dX5_markKeywords_49 (by decide) (fun c83 => ?_) (fun c83 => ?_)
                                                · skip
                                                  refine lv_iinc (v := (nI (i11 + 1))) (lv' := [(4, .int (nI (i11 + 1))), (2, .long 17382886), (1, .int 18), (0, .ref r1)]) hx hb dX5_markKeywords_60 hl (k := 0) rfl (nI_1 _) (by decide) rfl (fun ls hl => ?_)
                                                  refine lv_goto (tgt := 20) hx hb dX5_markKeywords_63 (by decide) ?_
                                                  obtain ⟨hP9, hD9⟩ := PDq.sub (ws' := [(oX5 r1 k1 k2 k3 (nI ct)), (k1, .inl (cA 0, 701, .inl f1_11)), (k2, .inl (cA 0, 701, .inl ft)), (k3, .inl (cA 1, 701, .inr (.inl fv)))]) hP hD [0, 1, 2, 3] (by decide) rfl
                                                  exact ih11 (i11 + 1) f1_11 H _ ls (by omega) hf0_11 (Mi.nox hv0_11 (by omega) c83 (by decide)) hP9 hD9 hS (lv_sub hl [0, 1, 2, 3] rfl)
                                                · skip
                                                  refine lv_aload_n hx hb dX5_markKeywords_52 rfl (lv_at hl 3 rfl) ?_
                                                  refine va_get (D := D) (ci := 9) (v := .ref k1) (C := RX5) (T := TX5) (N := 4) hx hb hts inX5 hown hK hP 0 rfl rfl 0 (by decide) (hts (.fieldLink RX5 9 "EscrowDesk$Scanner" "kinds" "[I") (by decide +kernel)) (fun _ h9 => h9) rfl dX5_markKeywords_53 ?_
                                                  refine lv_iload hx hb dX5_markKeywords_56 (lv_at hl 0 rfl) ?_
                                                  refine lv_iload_n hx hb dX5_markKeywords_58 rfl (lv_at hl 2 rfl) ?_
                                                  refine va_iast hx hb hK hP hD hS 1 0 rfl rfl (vp_in_nI (n := i11) (N := 701) (show i11 < 701 by omega) (by decide)) dX5_markKeywords_59 (fun H locs hP hD hS => ?_)
                                                  obtain ⟨hP, hD⟩ : PDq D A [(oX5 r1 k1 k2 k3 (nI ct)), (k1, .inl (cA 0, 701, .inl (upd f1_11 (((nI i11)).toNatClampNeg) 18))), (k2, .inl (cA 0, 701, .inl ft)), (k3, .inl (cA 1, 701, .inr (.inl fv)))] H := ⟨hP, hD⟩
                                                  have hn85 : Upp i11 18 f1_11 (upd f1_11 (((nI i11)).toNatClampNeg) 18) := Upp.of (by omega)
                                                  have hn86 : Rdd (upd f1_11 (((nI i11)).toNatClampNeg) 18) := rfl
                                                  generalize (upd f1_11 (((nI i11)).toNatClampNeg) 18) = fn84 at hP hD hn85 hn86
                                                  obtain ⟨hP, hD⟩ : PDq D A [(oX5 r1 k1 k2 k3 (nI ct)), (k1, .inl (cA 0, 701, .inl fn84)), (k2, .inl (cA 0, 701, .inl ft)), (k3, .inl (cA 1, 701, .inr (.inl fv)))] H := ⟨hP, hD⟩
                                                  refine lv_iinc (v := (nI (i11 + 1))) (lv' := [(4, .int (nI (i11 + 1))), (2, .long 17382886), (1, .int 18), (0, .ref r1)]) hx hb dX5_markKeywords_60 hl (k := 0) rfl (nI_1 _) (by decide) rfl (fun ls hl => ?_)
                                                  refine lv_goto (tgt := 20) hx hb dX5_markKeywords_63 (by decide) ?_
                                                  obtain ⟨hP9, hD9⟩ := PDq.sub (ws' := [(oX5 r1 k1 k2 k3 (nI ct)), (k1, .inl (cA 0, 701, .inl fn84)), (k2, .inl (cA 0, 701, .inl ft)), (k3, .inl (cA 1, 701, .inr (.inl fv)))]) hP hD [0, 1, 2, 3] (by decide) rfl
                                                  exact ih11 (i11 + 1) fn84 H _ ls (by omega) hn86 (Mi.yesx hv0_11 (by omega) c81 c83 (by decide) (by decide) hn85) hP9 hD9 hS (lv_sub hl [0, 1, 2, 3] rfl)
                                          obtain ⟨hP9, hD9⟩ := PDq.sub (ws' := [(oX5 r1 k1 k2 k3 (nI ct)), (k1, .inl (cA 0, 701, .inl f1_10)), (k2, .inl (cA 0, 701, .inl ft)), (k3, .inl (cA 1, 701, .inr (.inl fv)))]) hP hD [0, 1, 2, 3] (by decide) rfl
                                          exact loop11 (ct - 0) 0 f1_10 _ _ ls (by omega) hf0_10 (Mk.mi (Mi.mk hv0_10)) hP9 hD9 hS (lv_sub hl [0, 1, 2, 3] rfl)
                                        | succ n10 ih10 =>
                                          intro i10 f1_10 H locs ls hi10 hf0_10 hv0_10 hP hD hS hl
                                          refine lv_iload hx hb dX5_markKeywords_20 (lv_at hl 0 rfl) ?_
                                          refine lv_aload_n hx hb dX5_markKeywords_22 rfl (lv_at hl 3 rfl) ?_
                                          refine va_get (D := D) (ci := 9) (v := .int (nI ct)) (C := RX5) (T := TX5) (N := 4) hx hb hts inX5 hown hK hP 0 rfl rfl 3 (by decide) (hts (.fieldLink RX5 22 "EscrowDesk$Scanner" "count" "I") (by decide +kernel)) (fun _ h9 => h9) rfl dX5_markKeywords_23 ?_
                                          refine lv_icmp_ge (tgt := 66) hx hb dX5_markKeywords_26 (by decide) (fun c9 => absurd c9 (nI_ge (a := i10) (b := ct) (show i10 < ct by omega) (by omega))) (fun c87 => ?_)
                                          refine lv_aload_n hx hb dX5_markKeywords_29 rfl (lv_at hl 3 rfl) ?_
                                          refine va_get (D := D) (ci := 9) (v := .ref k1) (C := RX5) (T := TX5) (N := 4) hx hb hts inX5 hown hK hP 0 rfl rfl 0 (by decide) (hts (.fieldLink RX5 9 "EscrowDesk$Scanner" "kinds" "[I") (by decide +kernel)) (fun _ h9 => h9) rfl dX5_markKeywords_30 ?_
                                          refine lv_iload hx hb dX5_markKeywords_33 (lv_at hl 0 rfl) ?_
                                          refine va_iald hx hb hK hP 1 0 rfl rfl (vp_in_nI (n := i10) (N := 701) (show i10 < 701 by omega) (by decide)) dX5_markKeywords_35 ?_
                                          refine lv_topi (fun yn88 eyn88 => ?_)
                                          obtain rfl : yn88 = (f1_10 i10) := eyn88.trans (by rw [nI_clamp (by omega)])
                                          refine lv_iconst (v := 4) hx hb dX5_markKeywords_36 (by decide) ?_
                                          refine lv_icmp_ne (tgt := 60) hx hb dX5_markKeywords_37 (by decide) (fun c89 => ?_) (fun c89 => ?_)
                                          · skip
                                            refine lv_iinc (v := (nI (i10 + 1))) (lv' := [(4, .int (nI (i10 + 1))), (2, .long 4153), (1, .int 17), (0, .ref r1)]) hx hb dX5_markKeywords_60 hl (k := 0) rfl (nI_1 _) (by decide) rfl (fun ls hl => ?_)
                                            refine lv_goto (tgt := 20) hx hb dX5_markKeywords_63 (by decide) ?_
                                            obtain ⟨hP9, hD9⟩ := PDq.sub (ws' := [(oX5 r1 k1 k2 k3 (nI ct)), (k1, .inl (cA 0, 701, .inl f1_10)), (k2, .inl (cA 0, 701, .inl ft)), (k3, .inl (cA 1, 701, .inr (.inl fv)))]) hP hD [0, 1, 2, 3] (by decide) rfl
                                            exact ih10 (i10 + 1) f1_10 H _ ls (by omega) hf0_10 (Mi.no hv0_10 (by omega) (fun q => c89 q.1)) hP9 hD9 hS (lv_sub hl [0, 1, 2, 3] rfl)
                                          · skip
                                            refine lv_aload_n hx hb dX5_markKeywords_40 rfl (lv_at hl 3 rfl) ?_
                                            refine va_get (D := D) (ci := 9) (v := .ref k3) (C := RX5) (T := TX5) (N := 4) hx hb hts inX5 hown hK hP 0 rfl rfl 2 (by decide) (hts (.fieldLink RX5 18 "EscrowDesk$Scanner" "values" "[J") (by decide +kernel)) (fun _ h9 => h9) rfl dX5_markKeywords_41 ?_
                                            refine lv_iload hx hb dX5_markKeywords_44 (lv_at hl 0 rfl) ?_
                                            refine va_lald hx hb hK hP 3 1 rfl rfl (vp_in_nI (n := i10) (N := 701) (show i10 < 701 by omega) (by decide)) dX5_markKeywords_46 ?_
                                            refine lv_topl (fun yn90 eyn90 => ?_)
                                            obtain rfl : yn90 = (fv i10) := eyn90.trans (by rw [nI_clamp (by omega)])
                                            refine lv_lload_n hx hb dX5_markKeywords_47 rfl (lv_at hl 1 rfl) ?_
                                            refine W.lcmp hx hb dX5_markKeywords_48 ?_
                                            refine lv_if_ne (tgt := 60) hx hb dX5_markKeywords_49 (by decide) (fun c91 => ?_) (fun c91 => ?_)
                                            · skip
                                              refine lv_iinc (v := (nI (i10 + 1))) (lv' := [(4, .int (nI (i10 + 1))), (2, .long 4153), (1, .int 17), (0, .ref r1)]) hx hb dX5_markKeywords_60 hl (k := 0) rfl (nI_1 _) (by decide) rfl (fun ls hl => ?_)
                                              refine lv_goto (tgt := 20) hx hb dX5_markKeywords_63 (by decide) ?_
                                              obtain ⟨hP9, hD9⟩ := PDq.sub (ws' := [(oX5 r1 k1 k2 k3 (nI ct)), (k1, .inl (cA 0, 701, .inl f1_10)), (k2, .inl (cA 0, 701, .inl ft)), (k3, .inl (cA 1, 701, .inr (.inl fv)))]) hP hD [0, 1, 2, 3] (by decide) rfl
                                              exact ih10 (i10 + 1) f1_10 H _ ls (by omega) hf0_10 (Mi.nox hv0_10 (by omega) c91 (by decide)) hP9 hD9 hS (lv_sub hl [0, 1, 2, 3] rfl)
                                            · skip
                                              refine lv_aload_n hx hb dX5_markKeywords_52 rfl (lv_at hl 3 rfl) ?_
                                              refine va_get (D := D) (ci := 9) (v := .ref k1) (C := RX5) (T := TX5) (N := 4) hx hb hts inX5 hown hK hP 0 rfl rfl 0 (by decide) (hts (.fieldLink RX5 9 "EscrowDesk$Scanner" "kinds" "[I") (by decide +kernel)) (fun _ h9 => h9) rfl dX5_markKeywords_53 ?_
                                              refine lv_iload hx hb dX5_markKeywords_56 (lv_at hl 0 rfl) ?_
                                              refine lv_iload_n hx hb dX5_markKeywords_58 rfl (lv_at hl 2 rfl) ?_
                                              refine va_iast hx hb hK hP hD hS 1 0 rfl rfl (vp_in_nI (n := i10) (N := 701) (show i10 < 701 by omega) (by decide)) dX5_markKeywords_59 (fun H locs hP hD hS => ?_)
                                              obtain ⟨hP, hD⟩ : PDq D A [(oX5 r1 k1 k2 k3 (nI ct)), (k1, .inl (cA 0, 701, .inl (upd f1_10 (((nI i10)).toNatClampNeg) 17))), (k2, .inl (cA 0, 701, .inl ft)), (k3, .inl (cA 1, 701, .inr (.inl fv)))] H := ⟨hP, hD⟩
                                              have hn93 : Upp i10 17 f1_10 (upd f1_10 (((nI i10)).toNatClampNeg) 17) := Upp.of (by omega)
                                              have hn94 : Rdd (upd f1_10 (((nI i10)).toNatClampNeg) 17) := rfl
                                              generalize (upd f1_10 (((nI i10)).toNatClampNeg) 17) = fn92 at hP hD hn93 hn94
                                              obtain ⟨hP, hD⟩ : PDq D A [(oX5 r1 k1 k2 k3 (nI ct)), (k1, .inl (cA 0, 701, .inl fn92)), (k2, .inl (cA 0, 701, .inl ft)), (k3, .inl (cA 1, 701, .inr (.inl fv)))] H := ⟨hP, hD⟩
                                              refine lv_iinc (v := (nI (i10 + 1))) (lv' := [(4, .int (nI (i10 + 1))), (2, .long 4153), (1, .int 17), (0, .ref r1)]) hx hb dX5_markKeywords_60 hl (k := 0) rfl (nI_1 _) (by decide) rfl (fun ls hl => ?_)
                                              refine lv_goto (tgt := 20) hx hb dX5_markKeywords_63 (by decide) ?_
                                              obtain ⟨hP9, hD9⟩ := PDq.sub (ws' := [(oX5 r1 k1 k2 k3 (nI ct)), (k1, .inl (cA 0, 701, .inl fn92)), (k2, .inl (cA 0, 701, .inl ft)), (k3, .inl (cA 1, 701, .inr (.inl fv)))]) hP hD [0, 1, 2, 3] (by decide) rfl
                                              exact ih10 (i10 + 1) fn92 H _ ls (by omega) hn94 (Mi.yesx hv0_10 (by omega) c89 c91 (by decide) (by decide) hn93) hP9 hD9 hS (lv_sub hl [0, 1, 2, 3] rfl)
                                      obtain ⟨hP9, hD9⟩ := PDq.sub (ws' := [(oX5 r1 k1 k2 k3 (nI ct)), (k1, .inl (cA 0, 701, .inl f1_9)), (k2, .inl (cA 0, 701, .inl ft)), (k3, .inl (cA 1, 701, .inr (.inl fv)))]) hP hD [0, 1, 2, 3] (by decide) rfl
                                      exact loop10 (ct - 0) 0 f1_9 _ _ ls (by omega) hf0_9 (Mk.mi (Mi.mk hv0_9)) hP9 hD9 hS (lv_sub hl [0, 1, 2, 3] rfl)
                                    | succ n9 ih9 =>
                                      intro i9 f1_9 H locs ls hi9 hf0_9 hv0_9 hP hD hS hl
                                      refine lv_iload hx hb dX5_markKeywords_20 (lv_at hl 0 rfl) ?_
                                      refine lv_aload_n hx hb dX5_markKeywords_22 rfl (lv_at hl 3 rfl) ?_
                                      refine va_get (D := D) (ci := 9) (v := .int (nI ct)) (C := RX5) (T := TX5) (N := 4) hx hb hts inX5 hown hK hP 0 rfl rfl 3 (by decide) (hts (.fieldLink RX5 22 "EscrowDesk$Scanner" "count" "I") (by decide +kernel)) (fun _ h9 => h9) rfl dX5_markKeywords_23 ?_
                                      refine lv_icmp_ge (tgt := 66) hx hb dX5_markKeywords_26 (by decide) (fun c9 => absurd c9 (nI_ge (a := i9) (b := ct) (show i9 < ct by omega) (by omega))) (fun c95 => ?_)
                                      refine lv_aload_n hx hb dX5_markKeywords_29 rfl (lv_at hl 3 rfl) ?_
                                      refine va_get (D := D) (ci := 9) (v := .ref k1) (C := RX5) (T := TX5) (N := 4) hx hb hts inX5 hown hK hP 0 rfl rfl 0 (by decide) (hts (.fieldLink RX5 9 "EscrowDesk$Scanner" "kinds" "[I") (by decide +kernel)) (fun _ h9 => h9) rfl dX5_markKeywords_30 ?_
                                      refine lv_iload hx hb dX5_markKeywords_33 (lv_at hl 0 rfl) ?_
                                      refine va_iald hx hb hK hP 1 0 rfl rfl (vp_in_nI (n := i9) (N := 701) (show i9 < 701 by omega) (by decide)) dX5_markKeywords_35 ?_
                                      refine lv_topi (fun yn96 eyn96 => ?_)
                                      obtain rfl : yn96 = (f1_9 i9) := eyn96.trans (by rw [nI_clamp (by omega)])
                                      refine lv_iconst (v := 4) hx hb dX5_markKeywords_36 (by decide) ?_
                                      refine lv_icmp_ne (tgt := 60) hx hb dX5_markKeywords_37 (by decide) (fun c97 => ?_) (fun c97 => ?_)
                                      · skip
                                        refine lv_iinc (v := (nI (i9 + 1))) (lv' := [(4, .int (nI (i9 + 1))), (2, .long 14836), (1, .int 16), (0, .ref r1)]) hx hb dX5_markKeywords_60 hl (k := 0) rfl (nI_1 _) (by decide) rfl (fun ls hl => ?_)
                                        refine lv_goto (tgt := 20) hx hb dX5_markKeywords_63 (by decide) ?_
                                        obtain ⟨hP9, hD9⟩ := PDq.sub (ws' := [(oX5 r1 k1 k2 k3 (nI ct)), (k1, .inl (cA 0, 701, .inl f1_9)), (k2, .inl (cA 0, 701, .inl ft)), (k3, .inl (cA 1, 701, .inr (.inl fv)))]) hP hD [0, 1, 2, 3] (by decide) rfl
                                        exact ih9 (i9 + 1) f1_9 H _ ls (by omega) hf0_9 (Mi.no hv0_9 (by omega) (fun q => c97 q.1)) hP9 hD9 hS (lv_sub hl [0, 1, 2, 3] rfl)
                                      · skip
                                        refine lv_aload_n hx hb dX5_markKeywords_40 rfl (lv_at hl 3 rfl) ?_
                                        refine va_get (D := D) (ci := 9) (v := .ref k3) (C := RX5) (T := TX5) (N := 4) hx hb hts inX5 hown hK hP 0 rfl rfl 2 (by decide) (hts (.fieldLink RX5 18 "EscrowDesk$Scanner" "values" "[J") (by decide +kernel)) (fun _ h9 => h9) rfl dX5_markKeywords_41 ?_
                                        refine lv_iload hx hb dX5_markKeywords_44 (lv_at hl 0 rfl) ?_
                                        refine va_lald hx hb hK hP 3 1 rfl rfl (vp_in_nI (n := i9) (N := 701) (show i9 < 701 by omega) (by decide)) dX5_markKeywords_46 ?_
                                        refine lv_topl (fun yn98 eyn98 => ?_)
                                        obtain rfl : yn98 = (fv i9) := eyn98.trans (by rw [nI_clamp (by omega)])
                                        refine lv_lload_n hx hb dX5_markKeywords_47 rfl (lv_at hl 1 rfl) ?_
                                        refine W.lcmp hx hb dX5_markKeywords_48 ?_
                                        refine lv_if_ne (tgt := 60) hx hb dX5_markKeywords_49 (by decide) (fun c99 => ?_) (fun c99 => ?_)
                                        · skip
                                          refine lv_iinc (v := (nI (i9 + 1))) (lv' := [(4, .int (nI (i9 + 1))), (2, .long 14836), (1, .int 16), (0, .ref r1)]) hx hb dX5_markKeywords_60 hl (k := 0) rfl (nI_1 _) (by decide) rfl (fun ls hl => ?_)
                                          refine lv_goto (tgt := 20) hx hb dX5_markKeywords_63 (by decide) ?_
                                          obtain ⟨hP9, hD9⟩ := PDq.sub (ws' := [(oX5 r1 k1 k2 k3 (nI ct)), (k1, .inl (cA 0, 701, .inl f1_9)), (k2, .inl (cA 0, 701, .inl ft)), (k3, .inl (cA 1, 701, .inr (.inl fv)))]) hP hD [0, 1, 2, 3] (by decide) rfl
                                          exact ih9 (i9 + 1) f1_9 H _ ls (by omega) hf0_9 (Mi.nox hv0_9 (by omega) c99 (by decide)) hP9 hD9 hS (lv_sub hl [0, 1, 2, 3] rfl)
                                        · skip
                                          refine lv_aload_n hx hb dX5_markKeywords_52 rfl (lv_at hl 3 rfl) ?_
                                          refine va_get (D := D) (ci := 9) (v := .ref k1) (C := RX5) (T := TX5) (N := 4) hx hb hts inX5 hown hK hP 0 rfl rfl 0 (by decide) (hts (.fieldLink RX5 9 "EscrowDesk$Scanner" "kinds" "[I") (by decide +kernel)) (fun _ h9 => h9) rfl dX5_markKeywords_53 ?_
                                          refine lv_iload hx hb dX5_markKeywords_56 (lv_at hl 0 rfl) ?_
                                          refine lv_iload_n hx hb dX5_markKeywords_58 rfl (lv_at hl 2 rfl) ?_
                                          refine va_iast hx hb hK hP hD hS 1 0 rfl rfl (vp_in_nI (n := i9) (N := 701) (show i9 < 701 by omega) (by decide)) dX5_markKeywords_59 (fun H locs hP hD hS => ?_)
                                          obtain ⟨hP, hD⟩ : PDq D A [(oX5 r1 k1 k2 k3 (nI ct)), (k1, .inl (cA 0, 701, .inl (upd f1_9 (((nI i9)).toNatClampNeg) 16))), (k2, .inl (cA 0, 701, .inl ft)), (k3, .inl (cA 1, 701, .inr (.inl fv)))] H := ⟨hP, hD⟩
                                          have hn101 : Upp i9 16 f1_9 (upd f1_9 (((nI i9)).toNatClampNeg) 16) := Upp.of (by omega)
                                          have hn102 : Rdd (upd f1_9 (((nI i9)).toNatClampNeg) 16) := rfl
                                          generalize (upd f1_9 (((nI i9)).toNatClampNeg) 16) = fn100 at hP hD hn101 hn102
                                          obtain ⟨hP, hD⟩ : PDq D A [(oX5 r1 k1 k2 k3 (nI ct)), (k1, .inl (cA 0, 701, .inl fn100)), (k2, .inl (cA 0, 701, .inl ft)), (k3, .inl (cA 1, 701, .inr (.inl fv)))] H := ⟨hP, hD⟩
                                          refine lv_iinc (v := (nI (i9 + 1))) (lv' := [(4, .int (nI (i9 + 1))), (2, .long 14836), (1, .int 16), (0, .ref r1)]) hx hb dX5_markKeywords_60 hl (k := 0) rfl (nI_1 _) (by decide) rfl (fun ls hl => ?_)
                                          refine lv_goto (tgt := 20) hx hb dX5_markKeywords_63 (by decide) ?_
                                          obtain ⟨hP9, hD9⟩ := PDq.sub (ws' := [(oX5 r1 k1 k2 k3 (nI ct)), (k1, .inl (cA 0, 701, .inl fn100)), (k2, .inl (cA 0, 701, .inl ft)), (k3, .inl (cA 1, 701, .inr (.inl fv)))]) hP hD [0, 1, 2, 3] (by decide) rfl
                                          exact ih9 (i9 + 1) fn100 H _ ls (by omega) hn102 (Mi.yesx hv0_9 (by omega) c97 c99 (by decide) (by decide) hn101) hP9 hD9 hS (lv_sub hl [0, 1, 2, 3] rfl)
                                  obtain ⟨hP9, hD9⟩ := PDq.sub (ws' := [(oX5 r1 k1 k2 k3 (nI ct)), (k1, .inl (cA 0, 701, .inl f1_8)), (k2, .inl (cA 0, 701, .inl ft)), (k3, .inl (cA 1, 701, .inr (.inl fv)))]) hP hD [0, 1, 2, 3] (by decide) rfl
                                  exact loop9 (ct - 0) 0 f1_8 _ _ ls (by omega) hf0_8 (Mk.mi (Mi.mk hv0_8)) hP9 hD9 hS (lv_sub hl [0, 1, 2, 3] rfl)
                                | succ n8 ih8 =>
                                  intro i8 f1_8 H locs ls hi8 hf0_8 hv0_8 hP hD hS hl
                                  refine lv_iload hx hb dX5_markKeywords_20 (lv_at hl 0 rfl) ?_
                                  refine lv_aload_n hx hb dX5_markKeywords_22 rfl (lv_at hl 3 rfl) ?_
                                  refine va_get (D := D) (ci := 9) (v := .int (nI ct)) (C := RX5) (T := TX5) (N := 4) hx hb hts inX5 hown hK hP 0 rfl rfl 3 (by decide) (hts (.fieldLink RX5 22 "EscrowDesk$Scanner" "count" "I") (by decide +kernel)) (fun _ h9 => h9) rfl dX5_markKeywords_23 ?_
                                  refine lv_icmp_ge (tgt := 66) hx hb dX5_markKeywords_26 (by decide) (fun c9 => absurd c9 (nI_ge (a := i8) (b := ct) (show i8 < ct by omega) (by omega))) (fun c103 => ?_)
                                  refine lv_aload_n hx hb dX5_markKeywords_29 rfl (lv_at hl 3 rfl) ?_
                                  refine va_get (D := D) (ci := 9) (v := .ref k1) (C := RX5) (T := TX5) (N := 4) hx hb hts inX5 hown hK hP 0 rfl rfl 0 (by decide) (hts (.fieldLink RX5 9 "EscrowDesk$Scanner" "kinds" "[I") (by decide +kernel)) (fun _ h9 => h9) rfl dX5_markKeywords_30 ?_
                                  refine lv_iload hx hb dX5_markKeywords_33 (lv_at hl 0 rfl) ?_
                                  refine va_iald hx hb hK hP 1 0 rfl rfl (vp_in_nI (n := i8) (N := 701) (show i8 < 701 by omega) (by decide)) dX5_markKeywords_35 ?_
                                  refine lv_topi (fun yn104 eyn104 => ?_)
                                  obtain rfl : yn104 = (f1_8 i8) := eyn104.trans (by rw [nI_clamp (by omega)])
                                  refine lv_iconst (v := 4) hx hb dX5_markKeywords_36 (by decide) ?_
                                  refine lv_icmp_ne (tgt := 60) hx hb dX5_markKeywords_37 (by decide) (fun c105 => ?_) (fun c105 => ?_)
                                  · skip
                                    refine lv_iinc (v := (nI (i8 + 1))) (lv' := [(4, .int (nI (i8 + 1))), (2, .long 1476), (1, .int 15), (0, .ref r1)]) hx hb dX5_markKeywords_60 hl (k := 0) rfl (nI_1 _) (by decide) rfl (fun ls hl => ?_)
                                    refine lv_goto (tgt := 20) hx hb dX5_markKeywords_63 (by decide) ?_
                                    obtain ⟨hP9, hD9⟩ := PDq.sub (ws' := [(oX5 r1 k1 k2 k3 (nI ct)), (k1, .inl (cA 0, 701, .inl f1_8)), (k2, .inl (cA 0, 701, .inl ft)), (k3, .inl (cA 1, 701, .inr (.inl fv)))]) hP hD [0, 1, 2, 3] (by decide) rfl
                                    exact ih8 (i8 + 1) f1_8 H _ ls (by omega) hf0_8 (Mi.no hv0_8 (by omega) (fun q => c105 q.1)) hP9 hD9 hS (lv_sub hl [0, 1, 2, 3] rfl)
                                  · skip
                                    refine lv_aload_n hx hb dX5_markKeywords_40 rfl (lv_at hl 3 rfl) ?_
                                    refine va_get (D := D) (ci := 9) (v := .ref k3) (C := RX5) (T := TX5) (N := 4) hx hb hts inX5 hown hK hP 0 rfl rfl 2 (by decide) (hts (.fieldLink RX5 18 "EscrowDesk$Scanner" "values" "[J") (by decide +kernel)) (fun _ h9 => h9) rfl dX5_markKeywords_41 ?_
                                    refine lv_iload hx hb dX5_markKeywords_44 (lv_at hl 0 rfl) ?_
                                    refine va_lald hx hb hK hP 3 1 rfl rfl (vp_in_nI (n := i8) (N := 701) (show i8 < 701 by omega) (by decide)) dX5_markKeywords_46 ?_
                                    refine lv_topl (fun yn106 eyn106 => ?_)
                                    obtain rfl : yn106 = (fv i8) := eyn106.trans (by rw [nI_clamp (by omega)])
                                    refine lv_lload_n hx hb dX5_markKeywords_47 rfl (lv_at hl 1 rfl) ?_
                                    refine W.lcmp hx hb dX5_markKeywords_48 ?_
                                    refine lv_if_ne (tgt := 60) hx hb dX5_markKeywords_49 (by decide) (fun c107 => ?_) (fun c107 => ?_)
                                    · skip
                                      refine lv_iinc (v := (nI (i8 + 1))) (lv' := [(4, .int (nI (i8 + 1))), (2, .long 1476), (1, .int 15), (0, .ref r1)]) hx hb dX5_markKeywords_60 hl (k := 0) rfl (nI_1 _) (by decide) rfl (fun ls hl => ?_)
                                      refine lv_goto (tgt := 20) hx hb dX5_markKeywords_63 (by decide) ?_
                                      obtain ⟨hP9, hD9⟩ := PDq.sub (ws' := [(oX5 r1 k1 k2 k3 (nI ct)), (k1, .inl (cA 0, 701, .inl f1_8)), (k2, .inl (cA 0, 701, .inl ft)), (k3, .inl (cA 1, 701, .inr (.inl fv)))]) hP hD [0, 1, 2, 3] (by decide) rfl
                                      exact ih8 (i8 + 1) f1_8 H _ ls (by omega) hf0_8 (Mi.nox hv0_8 (by omega) c107 (by decide)) hP9 hD9 hS (lv_sub hl [0, 1, 2, 3] rfl)
                                    · skip
                                      refine lv_aload_n hx hb dX5_markKeywords_52 rfl (lv_at hl 3 rfl) ?_
                                      refine va_get (D := D) (ci := 9) (v := .ref k1) (C := RX5) (T := TX5) (N := 4) hx hb hts inX5 hown hK hP 0 rfl rfl 0 (by decide) (hts (.fieldLink RX5 9 "EscrowDesk$Scanner" "kinds" "[I") (by decide +kernel)) (fun _ h9 => h9) rfl dX5_markKeywords_53 ?_
                                      refine lv_iload hx hb dX5_markKeywords_56 (lv_at hl 0 rfl) ?_
                                      refine lv_iload_n hx hb dX5_markKeywords_58 rfl (lv_at hl 2 rfl) ?_
                                      refine va_iast hx hb hK hP hD hS 1 0 rfl rfl (vp_in_nI (n := i8) (N := 701) (show i8 < 701 by omega) (by decide)) dX5_markKeywords_59 (fun H locs hP hD hS => ?_)
                                      obtain ⟨hP, hD⟩ : PDq D A [(oX5 r1 k1 k2 k3 (nI ct)), (k1, .inl (cA 0, 701, .inl (upd f1_8 (((nI i8)).toNatClampNeg) 15))), (k2, .inl (cA 0, 701, .inl ft)), (k3, .inl (cA 1, 701, .inr (.inl fv)))] H := ⟨hP, hD⟩
                                      have hn109 : Upp i8 15 f1_8 (upd f1_8 (((nI i8)).toNatClampNeg) 15) := Upp.of (by omega)
                                      have hn110 : Rdd (upd f1_8 (((nI i8)).toNatClampNeg) 15) := rfl
                                      generalize (upd f1_8 (((nI i8)).toNatClampNeg) 15) = fn108 at hP hD hn109 hn110
                                      obtain ⟨hP, hD⟩ : PDq D A [(oX5 r1 k1 k2 k3 (nI ct)), (k1, .inl (cA 0, 701, .inl fn108)), (k2, .inl (cA 0, 701, .inl ft)), (k3, .inl (cA 1, 701, .inr (.inl fv)))] H := ⟨hP, hD⟩
                                      refine lv_iinc (v := (nI (i8 + 1))) (lv' := [(4, .int (nI (i8 + 1))), (2, .long 1476), (1, .int 15), (0, .ref r1)]) hx hb dX5_markKeywords_60 hl (k := 0) rfl (nI_1 _) (by decide) rfl (fun ls hl => ?_)
                                      refine lv_goto (tgt := 20) hx hb dX5_markKeywords_63 (by decide) ?_
                                      obtain ⟨hP9, hD9⟩ := PDq.sub (ws' := [(oX5 r1 k1 k2 k3 (nI ct)), (k1, .inl (cA 0, 701, .inl fn108)), (k2, .inl (cA 0, 701, .inl ft)), (k3, .inl (cA 1, 701, .inr (.inl fv)))]) hP hD [0, 1, 2, 3] (by decide) rfl
                                      exact ih8 (i8 + 1) fn108 H _ ls (by omega) hn110 (Mi.yesx hv0_8 (by omega) c105 c107 (by decide) (by decide) hn109) hP9 hD9 hS (lv_sub hl [0, 1, 2, 3] rfl)
                              obtain ⟨hP9, hD9⟩ := PDq.sub (ws' := [(oX5 r1 k1 k2 k3 (nI ct)), (k1, .inl (cA 0, 701, .inl f1_7)), (k2, .inl (cA 0, 701, .inl ft)), (k3, .inl (cA 1, 701, .inr (.inl fv)))]) hP hD [0, 1, 2, 3] (by decide) rfl
                              exact loop8 (ct - 0) 0 f1_7 _ _ ls (by omega) hf0_7 (Mk.mi (Mi.mk hv0_7)) hP9 hD9 hS (lv_sub hl [0, 1, 2, 3] rfl)
                            | succ n7 ih7 =>
                              intro i7 f1_7 H locs ls hi7 hf0_7 hv0_7 hP hD hS hl
                              refine lv_iload hx hb dX5_markKeywords_20 (lv_at hl 0 rfl) ?_
                              refine lv_aload_n hx hb dX5_markKeywords_22 rfl (lv_at hl 3 rfl) ?_
                              refine va_get (D := D) (ci := 9) (v := .int (nI ct)) (C := RX5) (T := TX5) (N := 4) hx hb hts inX5 hown hK hP 0 rfl rfl 3 (by decide) (hts (.fieldLink RX5 22 "EscrowDesk$Scanner" "count" "I") (by decide +kernel)) (fun _ h9 => h9) rfl dX5_markKeywords_23 ?_
                              refine lv_icmp_ge (tgt := 66) hx hb dX5_markKeywords_26 (by decide) (fun c9 => absurd c9 (nI_ge (a := i7) (b := ct) (show i7 < ct by omega) (by omega))) (fun c111 => ?_)
                              refine lv_aload_n hx hb dX5_markKeywords_29 rfl (lv_at hl 3 rfl) ?_
                              refine va_get (D := D) (ci := 9) (v := .ref k1) (C := RX5) (T := TX5) (N := 4) hx hb hts inX5 hown hK hP 0 rfl rfl 0 (by decide) (hts (.fieldLink RX5 9 "EscrowDesk$Scanner" "kinds" "[I") (by decide +kernel)) (fun _ h9 => h9) rfl dX5_markKeywords_30 ?_
                              refine lv_iload hx hb dX5_markKeywords_33 (lv_at hl 0 rfl) ?_
                              refine va_iald hx hb hK hP 1 0 rfl rfl (vp_in_nI (n := i7) (N := 701) (show i7 < 701 by omega) (by decide)) dX5_markKeywords_35 ?_
                              refine lv_topi (fun yn112 eyn112 => ?_)
                              obtain rfl : yn112 = (f1_7 i7) := eyn112.trans (by rw [nI_clamp (by omega)])
                              refine lv_iconst (v := 4) hx hb dX5_markKeywords_36 (by decide) ?_
                              refine lv_icmp_ne (tgt := 60) hx hb dX5_markKeywords_37 (by decide) (fun c113 => ?_) (fun c113 => ?_)
                              · skip
                                refine lv_iinc (v := (nI (i7 + 1))) (lv' := [(4, .int (nI (i7 + 1))), (2, .long 498), (1, .int 14), (0, .ref r1)]) hx hb dX5_markKeywords_60 hl (k := 0) rfl (nI_1 _) (by decide) rfl (fun ls hl => ?_)
                                refine lv_goto (tgt := 20) hx hb dX5_markKeywords_63 (by decide) ?_
                                obtain ⟨hP9, hD9⟩ := PDq.sub (ws' := [(oX5 r1 k1 k2 k3 (nI ct)), (k1, .inl (cA 0, 701, .inl f1_7)), (k2, .inl (cA 0, 701, .inl ft)), (k3, .inl (cA 1, 701, .inr (.inl fv)))]) hP hD [0, 1, 2, 3] (by decide) rfl
                                exact ih7 (i7 + 1) f1_7 H _ ls (by omega) hf0_7 (Mi.no hv0_7 (by omega) (fun q => c113 q.1)) hP9 hD9 hS (lv_sub hl [0, 1, 2, 3] rfl)
                              · skip
                                refine lv_aload_n hx hb dX5_markKeywords_40 rfl (lv_at hl 3 rfl) ?_
                                refine va_get (D := D) (ci := 9) (v := .ref k3) (C := RX5) (T := TX5) (N := 4) hx hb hts inX5 hown hK hP 0 rfl rfl 2 (by decide) (hts (.fieldLink RX5 18 "EscrowDesk$Scanner" "values" "[J") (by decide +kernel)) (fun _ h9 => h9) rfl dX5_markKeywords_41 ?_
                                refine lv_iload hx hb dX5_markKeywords_44 (lv_at hl 0 rfl) ?_
                                refine va_lald hx hb hK hP 3 1 rfl rfl (vp_in_nI (n := i7) (N := 701) (show i7 < 701 by omega) (by decide)) dX5_markKeywords_46 ?_
                                refine lv_topl (fun yn114 eyn114 => ?_)
                                obtain rfl : yn114 = (fv i7) := eyn114.trans (by rw [nI_clamp (by omega)])
                                refine lv_lload_n hx hb dX5_markKeywords_47 rfl (lv_at hl 1 rfl) ?_
                                refine W.lcmp hx hb dX5_markKeywords_48 ?_
                                refine lv_if_ne (tgt := 60) hx hb dX5_markKeywords_49 (by decide) (fun c115 => ?_) (fun c115 => ?_)
                                · skip
                                  refine lv_iinc (v := (nI (i7 + 1))) (lv' := [(4, .int (nI (i7 + 1))), (2, .long 498), (1, .int 14), (0, .ref r1)]) hx hb dX5_markKeywords_60 hl (k := 0) rfl (nI_1 _) (by decide) rfl (fun ls hl => ?_)
                                  refine lv_goto (tgt := 20) hx hb dX5_markKeywords_63 (by decide) ?_
                                  obtain ⟨hP9, hD9⟩ := PDq.sub (ws' := [(oX5 r1 k1 k2 k3 (nI ct)), (k1, .inl (cA 0, 701, .inl f1_7)), (k2, .inl (cA 0, 701, .inl ft)), (k3, .inl (cA 1, 701, .inr (.inl fv)))]) hP hD [0, 1, 2, 3] (by decide) rfl
                                  exact ih7 (i7 + 1) f1_7 H _ ls (by omega) hf0_7 (Mi.nox hv0_7 (by omega) c115 (by decide)) hP9 hD9 hS (lv_sub hl [0, 1, 2, 3] rfl)
                                · skip
                                  refine lv_aload_n hx hb dX5_markKeywords_52 rfl (lv_at hl 3 rfl) ?_
                                  refine va_get (D := D) (ci := 9) (v := .ref k1) (C := RX5) (T := TX5) (N := 4) hx hb hts inX5 hown hK hP 0 rfl rfl 0 (by decide) (hts (.fieldLink RX5 9 "EscrowDesk$Scanner" "kinds" "[I") (by decide +kernel)) (fun _ h9 => h9) rfl dX5_markKeywords_53 ?_
                                  refine lv_iload hx hb dX5_markKeywords_56 (lv_at hl 0 rfl) ?_
                                  refine lv_iload_n hx hb dX5_markKeywords_58 rfl (lv_at hl 2 rfl) ?_
                                  refine va_iast hx hb hK hP hD hS 1 0 rfl rfl (vp_in_nI (n := i7) (N := 701) (show i7 < 701 by omega) (by decide)) dX5_markKeywords_59 (fun H locs hP hD hS => ?_)
                                  obtain ⟨hP, hD⟩ : PDq D A [(oX5 r1 k1 k2 k3 (nI ct)), (k1, .inl (cA 0, 701, .inl (upd f1_7 (((nI i7)).toNatClampNeg) 14))), (k2, .inl (cA 0, 701, .inl ft)), (k3, .inl (cA 1, 701, .inr (.inl fv)))] H := ⟨hP, hD⟩
                                  have hn117 : Upp i7 14 f1_7 (upd f1_7 (((nI i7)).toNatClampNeg) 14) := Upp.of (by omega)
                                  have hn118 : Rdd (upd f1_7 (((nI i7)).toNatClampNeg) 14) := rfl
                                  generalize (upd f1_7 (((nI i7)).toNatClampNeg) 14) = fn116 at hP hD hn117 hn118
                                  obtain ⟨hP, hD⟩ : PDq D A [(oX5 r1 k1 k2 k3 (nI ct)), (k1, .inl (cA 0, 701, .inl fn116)), (k2, .inl (cA 0, 701, .inl ft)), (k3, .inl (cA 1, 701, .inr (.inl fv)))] H := ⟨hP, hD⟩
                                  refine lv_iinc (v := (nI (i7 + 1))) (lv' := [(4, .int (nI (i7 + 1))), (2, .long 498), (1, .int 14), (0, .ref r1)]) hx hb dX5_markKeywords_60 hl (k := 0) rfl (nI_1 _) (by decide) rfl (fun ls hl => ?_)
                                  refine lv_goto (tgt := 20) hx hb dX5_markKeywords_63 (by decide) ?_
                                  obtain ⟨hP9, hD9⟩ := PDq.sub (ws' := [(oX5 r1 k1 k2 k3 (nI ct)), (k1, .inl (cA 0, 701, .inl fn116)), (k2, .inl (cA 0, 701, .inl ft)), (k3, .inl (cA 1, 701, .inr (.inl fv)))]) hP hD [0, 1, 2, 3] (by decide) rfl
                                  exact ih7 (i7 + 1) fn116 H _ ls (by omega) hn118 (Mi.yesx hv0_7 (by omega) c113 c115 (by decide) (by decide) hn117) hP9 hD9 hS (lv_sub hl [0, 1, 2, 3] rfl)
                          obtain ⟨hP9, hD9⟩ := PDq.sub (ws' := [(oX5 r1 k1 k2 k3 (nI ct)), (k1, .inl (cA 0, 701, .inl f1_6)), (k2, .inl (cA 0, 701, .inl ft)), (k3, .inl (cA 1, 701, .inr (.inl fv)))]) hP hD [0, 1, 2, 3] (by decide) rfl
                          exact loop7 (ct - 0) 0 f1_6 _ _ ls (by omega) hf0_6 (Mk.mi (Mi.mk hv0_6)) hP9 hD9 hS (lv_sub hl [0, 1, 2, 3] rfl)
                        | succ n6 ih6 =>
                          intro i6 f1_6 H locs ls hi6 hf0_6 hv0_6 hP hD hS hl
                          refine lv_iload hx hb dX5_markKeywords_20 (lv_at hl 0 rfl) ?_
                          refine lv_aload_n hx hb dX5_markKeywords_22 rfl (lv_at hl 3 rfl) ?_
                          refine va_get (D := D) (ci := 9) (v := .int (nI ct)) (C := RX5) (T := TX5) (N := 4) hx hb hts inX5 hown hK hP 0 rfl rfl 3 (by decide) (hts (.fieldLink RX5 22 "EscrowDesk$Scanner" "count" "I") (by decide +kernel)) (fun _ h9 => h9) rfl dX5_markKeywords_23 ?_
                          refine lv_icmp_ge (tgt := 66) hx hb dX5_markKeywords_26 (by decide) (fun c9 => absurd c9 (nI_ge (a := i6) (b := ct) (show i6 < ct by omega) (by omega))) (fun c119 => ?_)
                          refine lv_aload_n hx hb dX5_markKeywords_29 rfl (lv_at hl 3 rfl) ?_
                          refine va_get (D := D) (ci := 9) (v := .ref k1) (C := RX5) (T := TX5) (N := 4) hx hb hts inX5 hown hK hP 0 rfl rfl 0 (by decide) (hts (.fieldLink RX5 9 "EscrowDesk$Scanner" "kinds" "[I") (by decide +kernel)) (fun _ h9 => h9) rfl dX5_markKeywords_30 ?_
                          refine lv_iload hx hb dX5_markKeywords_33 (lv_at hl 0 rfl) ?_
                          refine va_iald hx hb hK hP 1 0 rfl rfl (vp_in_nI (n := i6) (N := 701) (show i6 < 701 by omega) (by decide)) dX5_markKeywords_35 ?_
                          refine lv_topi (fun yn120 eyn120 => ?_)
                          obtain rfl : yn120 = (f1_6 i6) := eyn120.trans (by rw [nI_clamp (by omega)])
                          refine lv_iconst (v := 4) hx hb dX5_markKeywords_36 (by decide) ?_
                          refine lv_icmp_ne (tgt := 60) hx hb dX5_markKeywords_37 (by decide) (fun c121 => ?_) (fun c121 => ?_)
                          · skip
                            refine lv_iinc (v := (nI (i6 + 1))) (lv' := [(4, .int (nI (i6 + 1))), (2, .long 762030), (1, .int 13), (0, .ref r1)]) hx hb dX5_markKeywords_60 hl (k := 0) rfl (nI_1 _) (by decide) rfl (fun ls hl => ?_)
                            refine lv_goto (tgt := 20) hx hb dX5_markKeywords_63 (by decide) ?_
                            obtain ⟨hP9, hD9⟩ := PDq.sub (ws' := [(oX5 r1 k1 k2 k3 (nI ct)), (k1, .inl (cA 0, 701, .inl f1_6)), (k2, .inl (cA 0, 701, .inl ft)), (k3, .inl (cA 1, 701, .inr (.inl fv)))]) hP hD [0, 1, 2, 3] (by decide) rfl
                            exact ih6 (i6 + 1) f1_6 H _ ls (by omega) hf0_6 (Mi.no hv0_6 (by omega) (fun q => c121 q.1)) hP9 hD9 hS (lv_sub hl [0, 1, 2, 3] rfl)
                          · skip
                            refine lv_aload_n hx hb dX5_markKeywords_40 rfl (lv_at hl 3 rfl) ?_
                            refine va_get (D := D) (ci := 9) (v := .ref k3) (C := RX5) (T := TX5) (N := 4) hx hb hts inX5 hown hK hP 0 rfl rfl 2 (by decide) (hts (.fieldLink RX5 18 "EscrowDesk$Scanner" "values" "[J") (by decide +kernel)) (fun _ h9 => h9) rfl dX5_markKeywords_41 ?_
                            refine lv_iload hx hb dX5_markKeywords_44 (lv_at hl 0 rfl) ?_
                            refine va_lald hx hb hK hP 3 1 rfl rfl (vp_in_nI (n := i6) (N := 701) (show i6 < 701 by omega) (by decide)) dX5_markKeywords_46 ?_
                            refine lv_topl (fun yn122 eyn122 => ?_)
                            obtain rfl : yn122 = (fv i6) := eyn122.trans (by rw [nI_clamp (by omega)])
                            refine lv_lload_n hx hb dX5_markKeywords_47 rfl (lv_at hl 1 rfl) ?_
                            refine W.lcmp hx hb dX5_markKeywords_48 ?_
                            refine lv_if_ne (tgt := 60) hx hb dX5_markKeywords_49 (by decide) (fun c123 => ?_) (fun c123 => ?_)
                            · skip
                              refine lv_iinc (v := (nI (i6 + 1))) (lv' := [(4, .int (nI (i6 + 1))), (2, .long 762030), (1, .int 13), (0, .ref r1)]) hx hb dX5_markKeywords_60 hl (k := 0) rfl (nI_1 _) (by decide) rfl (fun ls hl => ?_)
                              refine lv_goto (tgt := 20) hx hb dX5_markKeywords_63 (by decide) ?_
                              obtain ⟨hP9, hD9⟩ := PDq.sub (ws' := [(oX5 r1 k1 k2 k3 (nI ct)), (k1, .inl (cA 0, 701, .inl f1_6)), (k2, .inl (cA 0, 701, .inl ft)), (k3, .inl (cA 1, 701, .inr (.inl fv)))]) hP hD [0, 1, 2, 3] (by decide) rfl
                              exact ih6 (i6 + 1) f1_6 H _ ls (by omega) hf0_6 (Mi.nox hv0_6 (by omega) c123 (by decide)) hP9 hD9 hS (lv_sub hl [0, 1, 2, 3] rfl)
                            · skip
                              refine lv_aload_n hx hb dX5_markKeywords_52 rfl (lv_at hl 3 rfl) ?_
                              refine va_get (D := D) (ci := 9) (v := .ref k1) (C := RX5) (T := TX5) (N := 4) hx hb hts inX5 hown hK hP 0 rfl rfl 0 (by decide) (hts (.fieldLink RX5 9 "EscrowDesk$Scanner" "kinds" "[I") (by decide +kernel)) (fun _ h9 => h9) rfl dX5_markKeywords_53 ?_
                              refine lv_iload hx hb dX5_markKeywords_56 (lv_at hl 0 rfl) ?_
                              refine lv_iload_n hx hb dX5_markKeywords_58 rfl (lv_at hl 2 rfl) ?_
                              refine va_iast hx hb hK hP hD hS 1 0 rfl rfl (vp_in_nI (n := i6) (N := 701) (show i6 < 701 by omega) (by decide)) dX5_markKeywords_59 (fun H locs hP hD hS => ?_)
                              obtain ⟨hP, hD⟩ : PDq D A [(oX5 r1 k1 k2 k3 (nI ct)), (k1, .inl (cA 0, 701, .inl (upd f1_6 (((nI i6)).toNatClampNeg) 13))), (k2, .inl (cA 0, 701, .inl ft)), (k3, .inl (cA 1, 701, .inr (.inl fv)))] H := ⟨hP, hD⟩
                              have hn125 : Upp i6 13 f1_6 (upd f1_6 (((nI i6)).toNatClampNeg) 13) := Upp.of (by omega)
                              have hn126 : Rdd (upd f1_6 (((nI i6)).toNatClampNeg) 13) := rfl
                              generalize (upd f1_6 (((nI i6)).toNatClampNeg) 13) = fn124 at hP hD hn125 hn126
                              obtain ⟨hP, hD⟩ : PDq D A [(oX5 r1 k1 k2 k3 (nI ct)), (k1, .inl (cA 0, 701, .inl fn124)), (k2, .inl (cA 0, 701, .inl ft)), (k3, .inl (cA 1, 701, .inr (.inl fv)))] H := ⟨hP, hD⟩
                              refine lv_iinc (v := (nI (i6 + 1))) (lv' := [(4, .int (nI (i6 + 1))), (2, .long 762030), (1, .int 13), (0, .ref r1)]) hx hb dX5_markKeywords_60 hl (k := 0) rfl (nI_1 _) (by decide) rfl (fun ls hl => ?_)
                              refine lv_goto (tgt := 20) hx hb dX5_markKeywords_63 (by decide) ?_
                              obtain ⟨hP9, hD9⟩ := PDq.sub (ws' := [(oX5 r1 k1 k2 k3 (nI ct)), (k1, .inl (cA 0, 701, .inl fn124)), (k2, .inl (cA 0, 701, .inl ft)), (k3, .inl (cA 1, 701, .inr (.inl fv)))]) hP hD [0, 1, 2, 3] (by decide) rfl
                              exact ih6 (i6 + 1) fn124 H _ ls (by omega) hn126 (Mi.yesx hv0_6 (by omega) c121 c123 (by decide) (by decide) hn125) hP9 hD9 hS (lv_sub hl [0, 1, 2, 3] rfl)
                      obtain ⟨hP9, hD9⟩ := PDq.sub (ws' := [(oX5 r1 k1 k2 k3 (nI ct)), (k1, .inl (cA 0, 701, .inl f1_5)), (k2, .inl (cA 0, 701, .inl ft)), (k3, .inl (cA 1, 701, .inr (.inl fv)))]) hP hD [0, 1, 2, 3] (by decide) rfl
                      exact loop6 (ct - 0) 0 f1_5 _ _ ls (by omega) hf0_5 (Mk.mi (Mi.mk hv0_5)) hP9 hD9 hS (lv_sub hl [0, 1, 2, 3] rfl)
                    | succ n5 ih5 =>
                      intro i5 f1_5 H locs ls hi5 hf0_5 hv0_5 hP hD hS hl
                      refine lv_iload hx hb dX5_markKeywords_20 (lv_at hl 0 rfl) ?_
                      refine lv_aload_n hx hb dX5_markKeywords_22 rfl (lv_at hl 3 rfl) ?_
                      refine va_get (D := D) (ci := 9) (v := .int (nI ct)) (C := RX5) (T := TX5) (N := 4) hx hb hts inX5 hown hK hP 0 rfl rfl 3 (by decide) (hts (.fieldLink RX5 22 "EscrowDesk$Scanner" "count" "I") (by decide +kernel)) (fun _ h9 => h9) rfl dX5_markKeywords_23 ?_
                      refine lv_icmp_ge (tgt := 66) hx hb dX5_markKeywords_26 (by decide) (fun c9 => absurd c9 (nI_ge (a := i5) (b := ct) (show i5 < ct by omega) (by omega))) (fun c127 => ?_)
                      refine lv_aload_n hx hb dX5_markKeywords_29 rfl (lv_at hl 3 rfl) ?_
                      refine va_get (D := D) (ci := 9) (v := .ref k1) (C := RX5) (T := TX5) (N := 4) hx hb hts inX5 hown hK hP 0 rfl rfl 0 (by decide) (hts (.fieldLink RX5 9 "EscrowDesk$Scanner" "kinds" "[I") (by decide +kernel)) (fun _ h9 => h9) rfl dX5_markKeywords_30 ?_
                      refine lv_iload hx hb dX5_markKeywords_33 (lv_at hl 0 rfl) ?_
                      refine va_iald hx hb hK hP 1 0 rfl rfl (vp_in_nI (n := i5) (N := 701) (show i5 < 701 by omega) (by decide)) dX5_markKeywords_35 ?_
                      refine lv_topi (fun yn128 eyn128 => ?_)
                      obtain rfl : yn128 = (f1_5 i5) := eyn128.trans (by rw [nI_clamp (by omega)])
                      refine lv_iconst (v := 4) hx hb dX5_markKeywords_36 (by decide) ?_
                      refine lv_icmp_ne (tgt := 60) hx hb dX5_markKeywords_37 (by decide) (fun c129 => ?_) (fun c129 => ?_)
                      · skip
                        refine lv_iinc (v := (nI (i5 + 1))) (lv' := [(4, .int (nI (i5 + 1))), (2, .long 14615962074565), (1, .int 12), (0, .ref r1)]) hx hb dX5_markKeywords_60 hl (k := 0) rfl (nI_1 _) (by decide) rfl (fun ls hl => ?_)
                        refine lv_goto (tgt := 20) hx hb dX5_markKeywords_63 (by decide) ?_
                        obtain ⟨hP9, hD9⟩ := PDq.sub (ws' := [(oX5 r1 k1 k2 k3 (nI ct)), (k1, .inl (cA 0, 701, .inl f1_5)), (k2, .inl (cA 0, 701, .inl ft)), (k3, .inl (cA 1, 701, .inr (.inl fv)))]) hP hD [0, 1, 2, 3] (by decide) rfl
                        exact ih5 (i5 + 1) f1_5 H _ ls (by omega) hf0_5 (Mi.no hv0_5 (by omega) (fun q => c129 q.1)) hP9 hD9 hS (lv_sub hl [0, 1, 2, 3] rfl)
                      · skip
                        refine lv_aload_n hx hb dX5_markKeywords_40 rfl (lv_at hl 3 rfl) ?_
                        refine va_get (D := D) (ci := 9) (v := .ref k3) (C := RX5) (T := TX5) (N := 4) hx hb hts inX5 hown hK hP 0 rfl rfl 2 (by decide) (hts (.fieldLink RX5 18 "EscrowDesk$Scanner" "values" "[J") (by decide +kernel)) (fun _ h9 => h9) rfl dX5_markKeywords_41 ?_
                        refine lv_iload hx hb dX5_markKeywords_44 (lv_at hl 0 rfl) ?_
                        refine va_lald hx hb hK hP 3 1 rfl rfl (vp_in_nI (n := i5) (N := 701) (show i5 < 701 by omega) (by decide)) dX5_markKeywords_46 ?_
                        refine lv_topl (fun yn130 eyn130 => ?_)
                        obtain rfl : yn130 = (fv i5) := eyn130.trans (by rw [nI_clamp (by omega)])
                        refine lv_lload_n hx hb dX5_markKeywords_47 rfl (lv_at hl 1 rfl) ?_
                        refine W.lcmp hx hb dX5_markKeywords_48 ?_
                        refine lv_if_ne (tgt := 60) hx hb dX5_markKeywords_49 (by decide) (fun c131 => ?_) (fun c131 => ?_)
                        · skip
                          refine lv_iinc (v := (nI (i5 + 1))) (lv' := [(4, .int (nI (i5 + 1))), (2, .long 14615962074565), (1, .int 12), (0, .ref r1)]) hx hb dX5_markKeywords_60 hl (k := 0) rfl (nI_1 _) (by decide) rfl (fun ls hl => ?_)
                          refine lv_goto (tgt := 20) hx hb dX5_markKeywords_63 (by decide) ?_
                          obtain ⟨hP9, hD9⟩ := PDq.sub (ws' := [(oX5 r1 k1 k2 k3 (nI ct)), (k1, .inl (cA 0, 701, .inl f1_5)), (k2, .inl (cA 0, 701, .inl ft)), (k3, .inl (cA 1, 701, .inr (.inl fv)))]) hP hD [0, 1, 2, 3] (by decide) rfl
                          exact ih5 (i5 + 1) f1_5 H _ ls (by omega) hf0_5 (Mi.nox hv0_5 (by omega) c131 (by decide)) hP9 hD9 hS (lv_sub hl [0, 1, 2, 3] rfl)
                        · skip
                          refine lv_aload_n hx hb dX5_markKeywords_52 rfl (lv_at hl 3 rfl) ?_
                          refine va_get (D := D) (ci := 9) (v := .ref k1) (C := RX5) (T := TX5) (N := 4) hx hb hts inX5 hown hK hP 0 rfl rfl 0 (by decide) (hts (.fieldLink RX5 9 "EscrowDesk$Scanner" "kinds" "[I") (by decide +kernel)) (fun _ h9 => h9) rfl dX5_markKeywords_53 ?_
                          refine lv_iload hx hb dX5_markKeywords_56 (lv_at hl 0 rfl) ?_
                          refine lv_iload_n hx hb dX5_markKeywords_58 rfl (lv_at hl 2 rfl) ?_
                          refine va_iast hx hb hK hP hD hS 1 0 rfl rfl (vp_in_nI (n := i5) (N := 701) (show i5 < 701 by omega) (by decide)) dX5_markKeywords_59 (fun H locs hP hD hS => ?_)
                          obtain ⟨hP, hD⟩ : PDq D A [(oX5 r1 k1 k2 k3 (nI ct)), (k1, .inl (cA 0, 701, .inl (upd f1_5 (((nI i5)).toNatClampNeg) 12))), (k2, .inl (cA 0, 701, .inl ft)), (k3, .inl (cA 1, 701, .inr (.inl fv)))] H := ⟨hP, hD⟩
                          have hn133 : Upp i5 12 f1_5 (upd f1_5 (((nI i5)).toNatClampNeg) 12) := Upp.of (by omega)
                          have hn134 : Rdd (upd f1_5 (((nI i5)).toNatClampNeg) 12) := rfl
                          generalize (upd f1_5 (((nI i5)).toNatClampNeg) 12) = fn132 at hP hD hn133 hn134
                          obtain ⟨hP, hD⟩ : PDq D A [(oX5 r1 k1 k2 k3 (nI ct)), (k1, .inl (cA 0, 701, .inl fn132)), (k2, .inl (cA 0, 701, .inl ft)), (k3, .inl (cA 1, 701, .inr (.inl fv)))] H := ⟨hP, hD⟩
                          refine lv_iinc (v := (nI (i5 + 1))) (lv' := [(4, .int (nI (i5 + 1))), (2, .long 14615962074565), (1, .int 12), (0, .ref r1)]) hx hb dX5_markKeywords_60 hl (k := 0) rfl (nI_1 _) (by decide) rfl (fun ls hl => ?_)
                          refine lv_goto (tgt := 20) hx hb dX5_markKeywords_63 (by decide) ?_
                          obtain ⟨hP9, hD9⟩ := PDq.sub (ws' := [(oX5 r1 k1 k2 k3 (nI ct)), (k1, .inl (cA 0, 701, .inl fn132)), (k2, .inl (cA 0, 701, .inl ft)), (k3, .inl (cA 1, 701, .inr (.inl fv)))]) hP hD [0, 1, 2, 3] (by decide) rfl
                          exact ih5 (i5 + 1) fn132 H _ ls (by omega) hn134 (Mi.yesx hv0_5 (by omega) c129 c131 (by decide) (by decide) hn133) hP9 hD9 hS (lv_sub hl [0, 1, 2, 3] rfl)
                  obtain ⟨hP9, hD9⟩ := PDq.sub (ws' := [(oX5 r1 k1 k2 k3 (nI ct)), (k1, .inl (cA 0, 701, .inl f1_4)), (k2, .inl (cA 0, 701, .inl ft)), (k3, .inl (cA 1, 701, .inr (.inl fv)))]) hP hD [0, 1, 2, 3] (by decide) rfl
                  exact loop5 (ct - 0) 0 f1_4 _ _ ls (by omega) hf0_4 (Mk.mi (Mi.mk hv0_4)) hP9 hD9 hS (lv_sub hl [0, 1, 2, 3] rfl)
                | succ n4 ih4 =>
                  intro i4 f1_4 H locs ls hi4 hf0_4 hv0_4 hP hD hS hl
                  refine lv_iload hx hb dX5_markKeywords_20 (lv_at hl 0 rfl) ?_
                  refine lv_aload_n hx hb dX5_markKeywords_22 rfl (lv_at hl 3 rfl) ?_
                  refine va_get (D := D) (ci := 9) (v := .int (nI ct)) (C := RX5) (T := TX5) (N := 4) hx hb hts inX5 hown hK hP 0 rfl rfl 3 (by decide) (hts (.fieldLink RX5 22 "EscrowDesk$Scanner" "count" "I") (by decide +kernel)) (fun _ h9 => h9) rfl dX5_markKeywords_23 ?_
                  refine lv_icmp_ge (tgt := 66) hx hb dX5_markKeywords_26 (by decide) (fun c9 => absurd c9 (nI_ge (a := i4) (b := ct) (show i4 < ct by omega) (by omega))) (fun c135 => ?_)
                  refine lv_aload_n hx hb dX5_markKeywords_29 rfl (lv_at hl 3 rfl) ?_
                  refine va_get (D := D) (ci := 9) (v := .ref k1) (C := RX5) (T := TX5) (N := 4) hx hb hts inX5 hown hK hP 0 rfl rfl 0 (by decide) (hts (.fieldLink RX5 9 "EscrowDesk$Scanner" "kinds" "[I") (by decide +kernel)) (fun _ h9 => h9) rfl dX5_markKeywords_30 ?_
                  refine lv_iload hx hb dX5_markKeywords_33 (lv_at hl 0 rfl) ?_
                  refine va_iald hx hb hK hP 1 0 rfl rfl (vp_in_nI (n := i4) (N := 701) (show i4 < 701 by omega) (by decide)) dX5_markKeywords_35 ?_
                  refine lv_topi (fun yn136 eyn136 => ?_)
                  obtain rfl : yn136 = (f1_4 i4) := eyn136.trans (by rw [nI_clamp (by omega)])
                  refine lv_iconst (v := 4) hx hb dX5_markKeywords_36 (by decide) ?_
                  refine lv_icmp_ne (tgt := 60) hx hb dX5_markKeywords_37 (by decide) (fun c137 => ?_) (fun c137 => ?_)
                  · skip
                    refine lv_iinc (v := (nI (i4 + 1))) (lv' := [(4, .int (nI (i4 + 1))), (2, .long 4480027956), (1, .int 11), (0, .ref r1)]) hx hb dX5_markKeywords_60 hl (k := 0) rfl (nI_1 _) (by decide) rfl (fun ls hl => ?_)
                    refine lv_goto (tgt := 20) hx hb dX5_markKeywords_63 (by decide) ?_
                    obtain ⟨hP9, hD9⟩ := PDq.sub (ws' := [(oX5 r1 k1 k2 k3 (nI ct)), (k1, .inl (cA 0, 701, .inl f1_4)), (k2, .inl (cA 0, 701, .inl ft)), (k3, .inl (cA 1, 701, .inr (.inl fv)))]) hP hD [0, 1, 2, 3] (by decide) rfl
                    exact ih4 (i4 + 1) f1_4 H _ ls (by omega) hf0_4 (Mi.no hv0_4 (by omega) (fun q => c137 q.1)) hP9 hD9 hS (lv_sub hl [0, 1, 2, 3] rfl)
                  · skip
                    refine lv_aload_n hx hb dX5_markKeywords_40 rfl (lv_at hl 3 rfl) ?_
                    refine va_get (D := D) (ci := 9) (v := .ref k3) (C := RX5) (T := TX5) (N := 4) hx hb hts inX5 hown hK hP 0 rfl rfl 2 (by decide) (hts (.fieldLink RX5 18 "EscrowDesk$Scanner" "values" "[J") (by decide +kernel)) (fun _ h9 => h9) rfl dX5_markKeywords_41 ?_
                    refine lv_iload hx hb dX5_markKeywords_44 (lv_at hl 0 rfl) ?_
                    refine va_lald hx hb hK hP 3 1 rfl rfl (vp_in_nI (n := i4) (N := 701) (show i4 < 701 by omega) (by decide)) dX5_markKeywords_46 ?_
                    refine lv_topl (fun yn138 eyn138 => ?_)
                    obtain rfl : yn138 = (fv i4) := eyn138.trans (by rw [nI_clamp (by omega)])
                    refine lv_lload_n hx hb dX5_markKeywords_47 rfl (lv_at hl 1 rfl) ?_
                    refine W.lcmp hx hb dX5_markKeywords_48 ?_
                    refine lv_if_ne (tgt := 60) hx hb dX5_markKeywords_49 (by decide) (fun c139 => ?_) (fun c139 => ?_)
                    · skip
                      refine lv_iinc (v := (nI (i4 + 1))) (lv' := [(4, .int (nI (i4 + 1))), (2, .long 4480027956), (1, .int 11), (0, .ref r1)]) hx hb dX5_markKeywords_60 hl (k := 0) rfl (nI_1 _) (by decide) rfl (fun ls hl => ?_)
                      refine lv_goto (tgt := 20) hx hb dX5_markKeywords_63 (by decide) ?_
                      obtain ⟨hP9, hD9⟩ := PDq.sub (ws' := [(oX5 r1 k1 k2 k3 (nI ct)), (k1, .inl (cA 0, 701, .inl f1_4)), (k2, .inl (cA 0, 701, .inl ft)), (k3, .inl (cA 1, 701, .inr (.inl fv)))]) hP hD [0, 1, 2, 3] (by decide) rfl
                      exact ih4 (i4 + 1) f1_4 H _ ls (by omega) hf0_4 (Mi.nox hv0_4 (by omega) c139 (by decide)) hP9 hD9 hS (lv_sub hl [0, 1, 2, 3] rfl)
                    · skip
                      refine lv_aload_n hx hb dX5_markKeywords_52 rfl (lv_at hl 3 rfl) ?_
                      refine va_get (D := D) (ci := 9) (v := .ref k1) (C := RX5) (T := TX5) (N := 4) hx hb hts inX5 hown hK hP 0 rfl rfl 0 (by decide) (hts (.fieldLink RX5 9 "EscrowDesk$Scanner" "kinds" "[I") (by decide +kernel)) (fun _ h9 => h9) rfl dX5_markKeywords_53 ?_
                      refine lv_iload hx hb dX5_markKeywords_56 (lv_at hl 0 rfl) ?_
                      refine lv_iload_n hx hb dX5_markKeywords_58 rfl (lv_at hl 2 rfl) ?_
                      refine va_iast hx hb hK hP hD hS 1 0 rfl rfl (vp_in_nI (n := i4) (N := 701) (show i4 < 701 by omega) (by decide)) dX5_markKeywords_59 (fun H locs hP hD hS => ?_)
                      obtain ⟨hP, hD⟩ : PDq D A [(oX5 r1 k1 k2 k3 (nI ct)), (k1, .inl (cA 0, 701, .inl (upd f1_4 (((nI i4)).toNatClampNeg) 11))), (k2, .inl (cA 0, 701, .inl ft)), (k3, .inl (cA 1, 701, .inr (.inl fv)))] H := ⟨hP, hD⟩
                      have hn141 : Upp i4 11 f1_4 (upd f1_4 (((nI i4)).toNatClampNeg) 11) := Upp.of (by omega)
                      have hn142 : Rdd (upd f1_4 (((nI i4)).toNatClampNeg) 11) := rfl
                      generalize (upd f1_4 (((nI i4)).toNatClampNeg) 11) = fn140 at hP hD hn141 hn142
                      obtain ⟨hP, hD⟩ : PDq D A [(oX5 r1 k1 k2 k3 (nI ct)), (k1, .inl (cA 0, 701, .inl fn140)), (k2, .inl (cA 0, 701, .inl ft)), (k3, .inl (cA 1, 701, .inr (.inl fv)))] H := ⟨hP, hD⟩
                      refine lv_iinc (v := (nI (i4 + 1))) (lv' := [(4, .int (nI (i4 + 1))), (2, .long 4480027956), (1, .int 11), (0, .ref r1)]) hx hb dX5_markKeywords_60 hl (k := 0) rfl (nI_1 _) (by decide) rfl (fun ls hl => ?_)
                      refine lv_goto (tgt := 20) hx hb dX5_markKeywords_63 (by decide) ?_
                      obtain ⟨hP9, hD9⟩ := PDq.sub (ws' := [(oX5 r1 k1 k2 k3 (nI ct)), (k1, .inl (cA 0, 701, .inl fn140)), (k2, .inl (cA 0, 701, .inl ft)), (k3, .inl (cA 1, 701, .inr (.inl fv)))]) hP hD [0, 1, 2, 3] (by decide) rfl
                      exact ih4 (i4 + 1) fn140 H _ ls (by omega) hn142 (Mi.yesx hv0_4 (by omega) c137 c139 (by decide) (by decide) hn141) hP9 hD9 hS (lv_sub hl [0, 1, 2, 3] rfl)
              obtain ⟨hP9, hD9⟩ := PDq.sub (ws' := [(oX5 r1 k1 k2 k3 (nI ct)), (k1, .inl (cA 0, 701, .inl f1_3)), (k2, .inl (cA 0, 701, .inl ft)), (k3, .inl (cA 1, 701, .inr (.inl fv)))]) hP hD [0, 1, 2, 3] (by decide) rfl
              exact loop4 (ct - 0) 0 f1_3 _ _ ls (by omega) hf0_3 (Mk.mi (Mi.mk hv0_3)) hP9 hD9 hS (lv_sub hl [0, 1, 2, 3] rfl)
            | succ n3 ih3 =>
              intro i3 f1_3 H locs ls hi3 hf0_3 hv0_3 hP hD hS hl
              refine lv_iload hx hb dX5_markKeywords_20 (lv_at hl 0 rfl) ?_
              refine lv_aload_n hx hb dX5_markKeywords_22 rfl (lv_at hl 3 rfl) ?_
              refine va_get (D := D) (ci := 9) (v := .int (nI ct)) (C := RX5) (T := TX5) (N := 4) hx hb hts inX5 hown hK hP 0 rfl rfl 3 (by decide) (hts (.fieldLink RX5 22 "EscrowDesk$Scanner" "count" "I") (by decide +kernel)) (fun _ h9 => h9) rfl dX5_markKeywords_23 ?_
              refine lv_icmp_ge (tgt := 66) hx hb dX5_markKeywords_26 (by decide) (fun c9 => absurd c9 (nI_ge (a := i3) (b := ct) (show i3 < ct by omega) (by omega))) (fun c143 => ?_)
              refine lv_aload_n hx hb dX5_markKeywords_29 rfl (lv_at hl 3 rfl) ?_
              refine va_get (D := D) (ci := 9) (v := .ref k1) (C := RX5) (T := TX5) (N := 4) hx hb hts inX5 hown hK hP 0 rfl rfl 0 (by decide) (hts (.fieldLink RX5 9 "EscrowDesk$Scanner" "kinds" "[I") (by decide +kernel)) (fun _ h9 => h9) rfl dX5_markKeywords_30 ?_
              refine lv_iload hx hb dX5_markKeywords_33 (lv_at hl 0 rfl) ?_
              refine va_iald hx hb hK hP 1 0 rfl rfl (vp_in_nI (n := i3) (N := 701) (show i3 < 701 by omega) (by decide)) dX5_markKeywords_35 ?_
              refine lv_topi (fun yn144 eyn144 => ?_)
              obtain rfl : yn144 = (f1_3 i3) := eyn144.trans (by rw [nI_clamp (by omega)])
              refine lv_iconst (v := 4) hx hb dX5_markKeywords_36 (by decide) ?_
              refine lv_icmp_ne (tgt := 60) hx hb dX5_markKeywords_37 (by decide) (fun c145 => ?_) (fun c145 => ?_)
              · skip
                refine lv_iinc (v := (nI (i3 + 1))) (lv' := [(4, .int (nI (i3 + 1))), (2, .long 7930981), (1, .int 10), (0, .ref r1)]) hx hb dX5_markKeywords_60 hl (k := 0) rfl (nI_1 _) (by decide) rfl (fun ls hl => ?_)
                refine lv_goto (tgt := 20) hx hb dX5_markKeywords_63 (by decide) ?_
                obtain ⟨hP9, hD9⟩ := PDq.sub (ws' := [(oX5 r1 k1 k2 k3 (nI ct)), (k1, .inl (cA 0, 701, .inl f1_3)), (k2, .inl (cA 0, 701, .inl ft)), (k3, .inl (cA 1, 701, .inr (.inl fv)))]) hP hD [0, 1, 2, 3] (by decide) rfl
                exact ih3 (i3 + 1) f1_3 H _ ls (by omega) hf0_3 (Mi.no hv0_3 (by omega) (fun q => c145 q.1)) hP9 hD9 hS (lv_sub hl [0, 1, 2, 3] rfl)
              · skip
                refine lv_aload_n hx hb dX5_markKeywords_40 rfl (lv_at hl 3 rfl) ?_
                refine va_get (D := D) (ci := 9) (v := .ref k3) (C := RX5) (T := TX5) (N := 4) hx hb hts inX5 hown hK hP 0 rfl rfl 2 (by decide) (hts (.fieldLink RX5 18 "EscrowDesk$Scanner" "values" "[J") (by decide +kernel)) (fun _ h9 => h9) rfl dX5_markKeywords_41 ?_
                refine lv_iload hx hb dX5_markKeywords_44 (lv_at hl 0 rfl) ?_
                refine va_lald hx hb hK hP 3 1 rfl rfl (vp_in_nI (n := i3) (N := 701) (show i3 < 701 by omega) (by decide)) dX5_markKeywords_46 ?_
                refine lv_topl (fun yn146 eyn146 => ?_)
                obtain rfl : yn146 = (fv i3) := eyn146.trans (by rw [nI_clamp (by omega)])
                refine lv_lload_n hx hb dX5_markKeywords_47 rfl (lv_at hl 1 rfl) ?_
                refine W.lcmp hx hb dX5_markKeywords_48 ?_
                refine lv_if_ne (tgt := 60) hx hb dX5_markKeywords_49 (by decide) (fun c147 => ?_) (fun c147 => ?_)
                · skip
                  refine lv_iinc (v := (nI (i3 + 1))) (lv' := [(4, .int (nI (i3 + 1))), (2, .long 7930981), (1, .int 10), (0, .ref r1)]) hx hb dX5_markKeywords_60 hl (k := 0) rfl (nI_1 _) (by decide) rfl (fun ls hl => ?_)
                  refine lv_goto (tgt := 20) hx hb dX5_markKeywords_63 (by decide) ?_
                  obtain ⟨hP9, hD9⟩ := PDq.sub (ws' := [(oX5 r1 k1 k2 k3 (nI ct)), (k1, .inl (cA 0, 701, .inl f1_3)), (k2, .inl (cA 0, 701, .inl ft)), (k3, .inl (cA 1, 701, .inr (.inl fv)))]) hP hD [0, 1, 2, 3] (by decide) rfl
                  exact ih3 (i3 + 1) f1_3 H _ ls (by omega) hf0_3 (Mi.nox hv0_3 (by omega) c147 (by decide)) hP9 hD9 hS (lv_sub hl [0, 1, 2, 3] rfl)
                · skip
                  refine lv_aload_n hx hb dX5_markKeywords_52 rfl (lv_at hl 3 rfl) ?_
                  refine va_get (D := D) (ci := 9) (v := .ref k1) (C := RX5) (T := TX5) (N := 4) hx hb hts inX5 hown hK hP 0 rfl rfl 0 (by decide) (hts (.fieldLink RX5 9 "EscrowDesk$Scanner" "kinds" "[I") (by decide +kernel)) (fun _ h9 => h9) rfl dX5_markKeywords_53 ?_
                  refine lv_iload hx hb dX5_markKeywords_56 (lv_at hl 0 rfl) ?_
                  refine lv_iload_n hx hb dX5_markKeywords_58 rfl (lv_at hl 2 rfl) ?_
                  refine va_iast hx hb hK hP hD hS 1 0 rfl rfl (vp_in_nI (n := i3) (N := 701) (show i3 < 701 by omega) (by decide)) dX5_markKeywords_59 (fun H locs hP hD hS => ?_)
                  obtain ⟨hP, hD⟩ : PDq D A [(oX5 r1 k1 k2 k3 (nI ct)), (k1, .inl (cA 0, 701, .inl (upd f1_3 (((nI i3)).toNatClampNeg) 10))), (k2, .inl (cA 0, 701, .inl ft)), (k3, .inl (cA 1, 701, .inr (.inl fv)))] H := ⟨hP, hD⟩
                  have hn149 : Upp i3 10 f1_3 (upd f1_3 (((nI i3)).toNatClampNeg) 10) := Upp.of (by omega)
                  have hn150 : Rdd (upd f1_3 (((nI i3)).toNatClampNeg) 10) := rfl
                  generalize (upd f1_3 (((nI i3)).toNatClampNeg) 10) = fn148 at hP hD hn149 hn150
                  obtain ⟨hP, hD⟩ : PDq D A [(oX5 r1 k1 k2 k3 (nI ct)), (k1, .inl (cA 0, 701, .inl fn148)), (k2, .inl (cA 0, 701, .inl ft)), (k3, .inl (cA 1, 701, .inr (.inl fv)))] H := ⟨hP, hD⟩
                  refine lv_iinc (v := (nI (i3 + 1))) (lv' := [(4, .int (nI (i3 + 1))), (2, .long 7930981), (1, .int 10), (0, .ref r1)]) hx hb dX5_markKeywords_60 hl (k := 0) rfl (nI_1 _) (by decide) rfl (fun ls hl => ?_)
                  refine lv_goto (tgt := 20) hx hb dX5_markKeywords_63 (by decide) ?_
                  obtain ⟨hP9, hD9⟩ := PDq.sub (ws' := [(oX5 r1 k1 k2 k3 (nI ct)), (k1, .inl (cA 0, 701, .inl fn148)), (k2, .inl (cA 0, 701, .inl ft)), (k3, .inl (cA 1, 701, .inr (.inl fv)))]) hP hD [0, 1, 2, 3] (by decide) rfl
                  exact ih3 (i3 + 1) fn148 H _ ls (by omega) hn150 (Mi.yesx hv0_3 (by omega) c145 c147 (by decide) (by decide) hn149) hP9 hD9 hS (lv_sub hl [0, 1, 2, 3] rfl)
          obtain ⟨hP9, hD9⟩ := PDq.sub (ws' := [(oX5 r1 k1 k2 k3 (nI ct)), (k1, .inl (cA 0, 701, .inl f1_2)), (k2, .inl (cA 0, 701, .inl ft)), (k3, .inl (cA 1, 701, .inr (.inl fv)))]) hP hD [0, 1, 2, 3] (by decide) rfl
          exact loop3 (ct - 0) 0 f1_2 _ _ ls (by omega) hf0_2 (Mk.mi (Mi.mk hv0_2)) hP9 hD9 hS (lv_sub hl [0, 1, 2, 3] rfl)
        | succ n2 ih2 =>
          intro i2 f1_2 H locs ls hi2 hf0_2 hv0_2 hP hD hS hl
          refine lv_iload hx hb dX5_markKeywords_20 (lv_at hl 0 rfl) ?_
          refine lv_aload_n hx hb dX5_markKeywords_22 rfl (lv_at hl 3 rfl) ?_
          refine va_get (D := D) (ci := 9) (v := .int (nI ct)) (C := RX5) (T := TX5) (N := 4) hx hb hts inX5 hown hK hP 0 rfl rfl 3 (by decide) (hts (.fieldLink RX5 22 "EscrowDesk$Scanner" "count" "I") (by decide +kernel)) (fun _ h9 => h9) rfl dX5_markKeywords_23 ?_
          refine lv_icmp_ge (tgt := 66) hx hb dX5_markKeywords_26 (by decide) (fun c9 => absurd c9 (nI_ge (a := i2) (b := ct) (show i2 < ct by omega) (by omega))) (fun c151 => ?_)
          refine lv_aload_n hx hb dX5_markKeywords_29 rfl (lv_at hl 3 rfl) ?_
          refine va_get (D := D) (ci := 9) (v := .ref k1) (C := RX5) (T := TX5) (N := 4) hx hb hts inX5 hown hK hP 0 rfl rfl 0 (by decide) (hts (.fieldLink RX5 9 "EscrowDesk$Scanner" "kinds" "[I") (by decide +kernel)) (fun _ h9 => h9) rfl dX5_markKeywords_30 ?_
          refine lv_iload hx hb dX5_markKeywords_33 (lv_at hl 0 rfl) ?_
          refine va_iald hx hb hK hP 1 0 rfl rfl (vp_in_nI (n := i2) (N := 701) (show i2 < 701 by omega) (by decide)) dX5_markKeywords_35 ?_
          refine lv_topi (fun yn152 eyn152 => ?_)
          obtain rfl : yn152 = (f1_2 i2) := eyn152.trans (by rw [nI_clamp (by omega)])
          refine lv_iconst (v := 4) hx hb dX5_markKeywords_36 (by decide) ?_
          refine lv_icmp_ne (tgt := 60) hx hb dX5_markKeywords_37 (by decide) (fun c153 => ?_) (fun c153 => ?_)
          · skip
            refine lv_iinc (v := (nI (i2 + 1))) (lv' := [(4, .int (nI (i2 + 1))), (2, .long 6309), (1, .int 9), (0, .ref r1)]) hx hb dX5_markKeywords_60 hl (k := 0) rfl (nI_1 _) (by decide) rfl (fun ls hl => ?_)
            refine lv_goto (tgt := 20) hx hb dX5_markKeywords_63 (by decide) ?_
            obtain ⟨hP9, hD9⟩ := PDq.sub (ws' := [(oX5 r1 k1 k2 k3 (nI ct)), (k1, .inl (cA 0, 701, .inl f1_2)), (k2, .inl (cA 0, 701, .inl ft)), (k3, .inl (cA 1, 701, .inr (.inl fv)))]) hP hD [0, 1, 2, 3] (by decide) rfl
            exact ih2 (i2 + 1) f1_2 H _ ls (by omega) hf0_2 (Mi.no hv0_2 (by omega) (fun q => c153 q.1)) hP9 hD9 hS (lv_sub hl [0, 1, 2, 3] rfl)
          · skip
            refine lv_aload_n hx hb dX5_markKeywords_40 rfl (lv_at hl 3 rfl) ?_
            refine va_get (D := D) (ci := 9) (v := .ref k3) (C := RX5) (T := TX5) (N := 4) hx hb hts inX5 hown hK hP 0 rfl rfl 2 (by decide) (hts (.fieldLink RX5 18 "EscrowDesk$Scanner" "values" "[J") (by decide +kernel)) (fun _ h9 => h9) rfl dX5_markKeywords_41 ?_
            refine lv_iload hx hb dX5_markKeywords_44 (lv_at hl 0 rfl) ?_
            refine va_lald hx hb hK hP 3 1 rfl rfl (vp_in_nI (n := i2) (N := 701) (show i2 < 701 by omega) (by decide)) dX5_markKeywords_46 ?_
            refine lv_topl (fun yn154 eyn154 => ?_)
            obtain rfl : yn154 = (fv i2) := eyn154.trans (by rw [nI_clamp (by omega)])
            refine lv_lload_n hx hb dX5_markKeywords_47 rfl (lv_at hl 1 rfl) ?_
            refine W.lcmp hx hb dX5_markKeywords_48 ?_
            refine lv_if_ne (tgt := 60) hx hb dX5_markKeywords_49 (by decide) (fun c155 => ?_) (fun c155 => ?_)
            · skip
              refine lv_iinc (v := (nI (i2 + 1))) (lv' := [(4, .int (nI (i2 + 1))), (2, .long 6309), (1, .int 9), (0, .ref r1)]) hx hb dX5_markKeywords_60 hl (k := 0) rfl (nI_1 _) (by decide) rfl (fun ls hl => ?_)
              refine lv_goto (tgt := 20) hx hb dX5_markKeywords_63 (by decide) ?_
              obtain ⟨hP9, hD9⟩ := PDq.sub (ws' := [(oX5 r1 k1 k2 k3 (nI ct)), (k1, .inl (cA 0, 701, .inl f1_2)), (k2, .inl (cA 0, 701, .inl ft)), (k3, .inl (cA 1, 701, .inr (.inl fv)))]) hP hD [0, 1, 2, 3] (by decide) rfl
              exact ih2 (i2 + 1) f1_2 H _ ls (by omega) hf0_2 (Mi.nox hv0_2 (by omega) c155 (by decide)) hP9 hD9 hS (lv_sub hl [0, 1, 2, 3] rfl)
            · skip
              refine lv_aload_n hx hb dX5_markKeywords_52 rfl (lv_at hl 3 rfl) ?_
              refine va_get (D := D) (ci := 9) (v := .ref k1) (C := RX5) (T := TX5) (N := 4) hx hb hts inX5 hown hK hP 0 rfl rfl 0 (by decide) (hts (.fieldLink RX5 9 "EscrowDesk$Scanner" "kinds" "[I") (by decide +kernel)) (fun _ h9 => h9) rfl dX5_markKeywords_53 ?_
              refine lv_iload hx hb dX5_markKeywords_56 (lv_at hl 0 rfl) ?_
              refine lv_iload_n hx hb dX5_markKeywords_58 rfl (lv_at hl 2 rfl) ?_
              refine va_iast hx hb hK hP hD hS 1 0 rfl rfl (vp_in_nI (n := i2) (N := 701) (show i2 < 701 by omega) (by decide)) dX5_markKeywords_59 (fun H locs hP hD hS => ?_)
              obtain ⟨hP, hD⟩ : PDq D A [(oX5 r1 k1 k2 k3 (nI ct)), (k1, .inl (cA 0, 701, .inl (upd f1_2 (((nI i2)).toNatClampNeg) 9))), (k2, .inl (cA 0, 701, .inl ft)), (k3, .inl (cA 1, 701, .inr (.inl fv)))] H := ⟨hP, hD⟩
              have hn157 : Upp i2 9 f1_2 (upd f1_2 (((nI i2)).toNatClampNeg) 9) := Upp.of (by omega)
              have hn158 : Rdd (upd f1_2 (((nI i2)).toNatClampNeg) 9) := rfl
              generalize (upd f1_2 (((nI i2)).toNatClampNeg) 9) = fn156 at hP hD hn157 hn158
              obtain ⟨hP, hD⟩ : PDq D A [(oX5 r1 k1 k2 k3 (nI ct)), (k1, .inl (cA 0, 701, .inl fn156)), (k2, .inl (cA 0, 701, .inl ft)), (k3, .inl (cA 1, 701, .inr (.inl fv)))] H := ⟨hP, hD⟩
              refine lv_iinc (v := (nI (i2 + 1))) (lv' := [(4, .int (nI (i2 + 1))), (2, .long 6309), (1, .int 9), (0, .ref r1)]) hx hb dX5_markKeywords_60 hl (k := 0) rfl (nI_1 _) (by decide) rfl (fun ls hl => ?_)
              refine lv_goto (tgt := 20) hx hb dX5_markKeywords_63 (by decide) ?_
              obtain ⟨hP9, hD9⟩ := PDq.sub (ws' := [(oX5 r1 k1 k2 k3 (nI ct)), (k1, .inl (cA 0, 701, .inl fn156)), (k2, .inl (cA 0, 701, .inl ft)), (k3, .inl (cA 1, 701, .inr (.inl fv)))]) hP hD [0, 1, 2, 3] (by decide) rfl
              exact ih2 (i2 + 1) fn156 H _ ls (by omega) hn158 (Mi.yesx hv0_2 (by omega) c153 c155 (by decide) (by decide) hn157) hP9 hD9 hS (lv_sub hl [0, 1, 2, 3] rfl)
      obtain ⟨hP9, hD9⟩ := PDq.sub (ws' := [(oX5 r1 k1 k2 k3 (nI ct)), (k1, .inl (cA 0, 701, .inl f1_1)), (k2, .inl (cA 0, 701, .inl ft)), (k3, .inl (cA 1, 701, .inr (.inl fv)))]) hP hD [0, 1, 2, 3] (by decide) rfl
      exact loop2 (ct - 0) 0 f1_1 _ _ ls (by omega) hf0_1 (Mk.mi (Mi.mk hv0_1)) hP9 hD9 hS (lv_sub hl [0, 1, 2, 3] rfl)
    | succ n1 ih1 =>
      intro i1 f1_1 H locs ls hi1 hf0_1 hv0_1 hP hD hS hl
      refine lv_iload hx hb dX5_markKeywords_20 (lv_at hl 0 rfl) ?_
      refine lv_aload_n hx hb dX5_markKeywords_22 rfl (lv_at hl 3 rfl) ?_
      refine va_get (D := D) (ci := 9) (v := .int (nI ct)) (C := RX5) (T := TX5) (N := 4) hx hb hts inX5 hown hK hP 0 rfl rfl 3 (by decide) (hts (.fieldLink RX5 22 "EscrowDesk$Scanner" "count" "I") (by decide +kernel)) (fun _ h9 => h9) rfl dX5_markKeywords_23 ?_
      refine lv_icmp_ge (tgt := 66) hx hb dX5_markKeywords_26 (by decide) (fun c9 => absurd c9 (nI_ge (a := i1) (b := ct) (show i1 < ct by omega) (by omega))) (fun c159 => ?_)
      refine lv_aload_n hx hb dX5_markKeywords_29 rfl (lv_at hl 3 rfl) ?_
      refine va_get (D := D) (ci := 9) (v := .ref k1) (C := RX5) (T := TX5) (N := 4) hx hb hts inX5 hown hK hP 0 rfl rfl 0 (by decide) (hts (.fieldLink RX5 9 "EscrowDesk$Scanner" "kinds" "[I") (by decide +kernel)) (fun _ h9 => h9) rfl dX5_markKeywords_30 ?_
      refine lv_iload hx hb dX5_markKeywords_33 (lv_at hl 0 rfl) ?_
      refine va_iald hx hb hK hP 1 0 rfl rfl (vp_in_nI (n := i1) (N := 701) (show i1 < 701 by omega) (by decide)) dX5_markKeywords_35 ?_
      refine lv_topi (fun yn160 eyn160 => ?_)
      obtain rfl : yn160 = (f1_1 i1) := eyn160.trans (by rw [nI_clamp (by omega)])
      refine lv_iconst (v := 4) hx hb dX5_markKeywords_36 (by decide) ?_
      refine lv_icmp_ne (tgt := 60) hx hb dX5_markKeywords_37 (by decide) (fun c161 => ?_) (fun c161 => ?_)
      · skip
        refine lv_iinc (v := (nI (i1 + 1))) (lv' := [(4, .int (nI (i1 + 1))), (2, .long 591493), (1, .int 8), (0, .ref r1)]) hx hb dX5_markKeywords_60 hl (k := 0) rfl (nI_1 _) (by decide) rfl (fun ls hl => ?_)
        refine lv_goto (tgt := 20) hx hb dX5_markKeywords_63 (by decide) ?_
        obtain ⟨hP9, hD9⟩ := PDq.sub (ws' := [(oX5 r1 k1 k2 k3 (nI ct)), (k1, .inl (cA 0, 701, .inl f1_1)), (k2, .inl (cA 0, 701, .inl ft)), (k3, .inl (cA 1, 701, .inr (.inl fv)))]) hP hD [0, 1, 2, 3] (by decide) rfl
        exact ih1 (i1 + 1) f1_1 H _ ls (by omega) hf0_1 (Mi.no hv0_1 (by omega) (fun q => c161 q.1)) hP9 hD9 hS (lv_sub hl [0, 1, 2, 3] rfl)
      · skip
        refine lv_aload_n hx hb dX5_markKeywords_40 rfl (lv_at hl 3 rfl) ?_
        refine va_get (D := D) (ci := 9) (v := .ref k3) (C := RX5) (T := TX5) (N := 4) hx hb hts inX5 hown hK hP 0 rfl rfl 2 (by decide) (hts (.fieldLink RX5 18 "EscrowDesk$Scanner" "values" "[J") (by decide +kernel)) (fun _ h9 => h9) rfl dX5_markKeywords_41 ?_
        refine lv_iload hx hb dX5_markKeywords_44 (lv_at hl 0 rfl) ?_
        refine va_lald hx hb hK hP 3 1 rfl rfl (vp_in_nI (n := i1) (N := 701) (show i1 < 701 by omega) (by decide)) dX5_markKeywords_46 ?_
        refine lv_topl (fun yn162 eyn162 => ?_)
        obtain rfl : yn162 = (fv i1) := eyn162.trans (by rw [nI_clamp (by omega)])
        refine lv_lload_n hx hb dX5_markKeywords_47 rfl (lv_at hl 1 rfl) ?_
        refine W.lcmp hx hb dX5_markKeywords_48 ?_
        refine lv_if_ne (tgt := 60) hx hb dX5_markKeywords_49 (by decide) (fun c163 => ?_) (fun c163 => ?_)
        · skip
          refine lv_iinc (v := (nI (i1 + 1))) (lv' := [(4, .int (nI (i1 + 1))), (2, .long 591493), (1, .int 8), (0, .ref r1)]) hx hb dX5_markKeywords_60 hl (k := 0) rfl (nI_1 _) (by decide) rfl (fun ls hl => ?_)
          refine lv_goto (tgt := 20) hx hb dX5_markKeywords_63 (by decide) ?_
          obtain ⟨hP9, hD9⟩ := PDq.sub (ws' := [(oX5 r1 k1 k2 k3 (nI ct)), (k1, .inl (cA 0, 701, .inl f1_1)), (k2, .inl (cA 0, 701, .inl ft)), (k3, .inl (cA 1, 701, .inr (.inl fv)))]) hP hD [0, 1, 2, 3] (by decide) rfl
          exact ih1 (i1 + 1) f1_1 H _ ls (by omega) hf0_1 (Mi.nox hv0_1 (by omega) c163 (by decide)) hP9 hD9 hS (lv_sub hl [0, 1, 2, 3] rfl)
        · skip
          refine lv_aload_n hx hb dX5_markKeywords_52 rfl (lv_at hl 3 rfl) ?_
          refine va_get (D := D) (ci := 9) (v := .ref k1) (C := RX5) (T := TX5) (N := 4) hx hb hts inX5 hown hK hP 0 rfl rfl 0 (by decide) (hts (.fieldLink RX5 9 "EscrowDesk$Scanner" "kinds" "[I") (by decide +kernel)) (fun _ h9 => h9) rfl dX5_markKeywords_53 ?_
          refine lv_iload hx hb dX5_markKeywords_56 (lv_at hl 0 rfl) ?_
          refine lv_iload_n hx hb dX5_markKeywords_58 rfl (lv_at hl 2 rfl) ?_
          refine va_iast hx hb hK hP hD hS 1 0 rfl rfl (vp_in_nI (n := i1) (N := 701) (show i1 < 701 by omega) (by decide)) dX5_markKeywords_59 (fun H locs hP hD hS => ?_)
          obtain ⟨hP, hD⟩ : PDq D A [(oX5 r1 k1 k2 k3 (nI ct)), (k1, .inl (cA 0, 701, .inl (upd f1_1 (((nI i1)).toNatClampNeg) 8))), (k2, .inl (cA 0, 701, .inl ft)), (k3, .inl (cA 1, 701, .inr (.inl fv)))] H := ⟨hP, hD⟩
          have hn165 : Upp i1 8 f1_1 (upd f1_1 (((nI i1)).toNatClampNeg) 8) := Upp.of (by omega)
          have hn166 : Rdd (upd f1_1 (((nI i1)).toNatClampNeg) 8) := rfl
          generalize (upd f1_1 (((nI i1)).toNatClampNeg) 8) = fn164 at hP hD hn165 hn166
          obtain ⟨hP, hD⟩ : PDq D A [(oX5 r1 k1 k2 k3 (nI ct)), (k1, .inl (cA 0, 701, .inl fn164)), (k2, .inl (cA 0, 701, .inl ft)), (k3, .inl (cA 1, 701, .inr (.inl fv)))] H := ⟨hP, hD⟩
          refine lv_iinc (v := (nI (i1 + 1))) (lv' := [(4, .int (nI (i1 + 1))), (2, .long 591493), (1, .int 8), (0, .ref r1)]) hx hb dX5_markKeywords_60 hl (k := 0) rfl (nI_1 _) (by decide) rfl (fun ls hl => ?_)
          refine lv_goto (tgt := 20) hx hb dX5_markKeywords_63 (by decide) ?_
          obtain ⟨hP9, hD9⟩ := PDq.sub (ws' := [(oX5 r1 k1 k2 k3 (nI ct)), (k1, .inl (cA 0, 701, .inl fn164)), (k2, .inl (cA 0, 701, .inl ft)), (k3, .inl (cA 1, 701, .inr (.inl fv)))]) hP hD [0, 1, 2, 3] (by decide) rfl
          exact ih1 (i1 + 1) fn164 H _ ls (by omega) hn166 (Mi.yesx hv0_1 (by omega) c161 c163 (by decide) (by decide) hn165) hP9 hD9 hS (lv_sub hl [0, 1, 2, 3] rfl)
  obtain ⟨hP9, hD9⟩ := PDq.sub (ws' := [(oX5 r1 k1 k2 k3 (nI ct)), (k1, .inl (cA 0, 701, .inl fk)), (k2, .inl (cA 0, 701, .inl ft)), (k3, .inl (cA 1, 701, .inr (.inl fv)))]) hP hD [0, 1, 2, 3] (by decide) rfl
  exact loop1 (ct - 0) 0 fk _ _ ls (by omega) rfl (Mk.mi (Mk.zero ct fk fv)) hP9 hD9 hS (lv_sub hl [0, 1, 2, 3] rfl)

