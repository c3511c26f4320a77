set_option maxHeartbeats 4000000 in
set_option maxRecDepth 100000 in
/-- Integer.bitCount -/
theorem s_bitCount (l : Launch) (D : va_G) (cA : Nat → ClassId) (sa : Nat → Nat) (a : Int32) (sz : Nat) : Met l yJ6_bitCount_0f7a4 wsJ6_bitCount_0f7a4 ({ frames := 0, cells := 0, slots := 0, locals := 0 }) (va_Pc [.int a] (Wd D cA sa [] sz)) (va_Qi (fun (r : Int32) (_ : Unit) => True) (fun (_ : Unit) t => Wq D (va_A [] sz) [] t) (va_A [] sz)) 0 0 (va_A [] sz) := by
  refine Met.ofW (cc := cJ6_bitCount_0f7a4) (maxL := 1) (ret := (some .int)) (by decide) rfl ?_
  intro p e s m args below meth c s₁ B hml hv
  obtain ⟨rfl, hsz, hP, hK, hD0, hC, hZ⟩ := hv
  have hx := B.exec
  have hb := B.bytes
  have hr := B.returns
  have hts := atoms_spec (ws := wsJ6_bitCount_0f7a4) B.pre
  have hown : s.vm.findClass RJ6 = some m.cls := findClass_of_methodNamed B.named
  have hlocks := B.notSynchronized
  subst hsz
  have hD := hD0.self (sz := s.heap.size)
  generalize hAe : va_A [] s.heap.size = A at hD hZ ⊢
  have hA : ∀ q : Nat, s.heap.size ≤ q → A q := fun q h => by rw [← hAe]; exact Or.inr h
  have hS : va_S A s.heap s.heap [] := va_S.rf
  have hP : va_P D vwCl [] s.heap := hP
  have hl := lv_entry ([.int a]) (n := 1) (Nat.le_of_ble_eq_true rfl)
  rw [lg_entry_eq]
  generalize (lg_sl ([.int a]) ++ List.replicate (1 - (lg_sl ([.int a])).length) Slot.unset).toArray = ls at hl ⊢
  have hl : lv_has ls 1 [(0, .int a)] := hl
  refine lv_iload_n hx hb dJ6_bitCount_0f7a4_0 rfl (lv_at hl 0 rfl) ?_
  refine lv_iload_n hx hb dJ6_bitCount_0f7a4_1 rfl (lv_at hl 0 rfl) ?_
  refine lv_iconst (v := 1) hx hb dJ6_bitCount_0f7a4_2 (by decide) ?_
  refine lv_iushr hx hb dJ6_bitCount_0f7a4_3 rfl ?_
  refine lv_topi (fun yn1 eyn1 => ?_)
  refine lv_ldcw (v := 1431655765) hx hb hown (hts (.constant RJ6 265 1431655765) (by decide +kernel)) dJ6_bitCount_0f7a4_4 ?_
  refine lv_iand hx hb dJ6_bitCount_0f7a4_7 ?_
  refine lv_topi (fun yn2 eyn2 => ?_)
  refine lv_isub hx hb dJ6_bitCount_0f7a4_8 ?_
  refine lv_topi (fun yn3 eyn3 => ?_)
  refine lv_istore_n (lv' := [(0, .int yn3)]) hx hb dJ6_bitCount_0f7a4_9 rfl hl (by decide) rfl (fun ls hl => ?_)
  refine lv_iload_n hx hb dJ6_bitCount_0f7a4_10 rfl (lv_at hl 0 rfl) ?_
  refine lv_ldcw (v := 858993459) hx hb hown (hts (.constant RJ6 266 858993459) (by decide +kernel)) dJ6_bitCount_0f7a4_11 ?_
  refine lv_iand hx hb dJ6_bitCount_0f7a4_14 ?_
  refine lv_topi (fun yn4 eyn4 => ?_)
  refine lv_iload_n hx hb dJ6_bitCount_0f7a4_15 rfl (lv_at hl 0 rfl) ?_
  refine lv_iconst (v := 2) hx hb dJ6_bitCount_0f7a4_16 (by decide) ?_
  refine lv_iushr hx hb dJ6_bitCount_0f7a4_17 rfl ?_
  refine lv_topi (fun yn5 eyn5 => ?_)
  refine lv_ldcw (v := 858993459) hx hb hown (hts (.constant RJ6 266 858993459) (by decide +kernel)) dJ6_bitCount_0f7a4_18 ?_
  refine lv_iand hx hb dJ6_bitCount_0f7a4_21 ?_
  refine lv_topi (fun yn6 eyn6 => ?_)
  refine lv_iadd hx hb dJ6_bitCount_0f7a4_22 ?_
  refine lv_topi (fun yn7 eyn7 => ?_)
  refine lv_istore_n (lv' := [(0, .int yn7)]) hx hb dJ6_bitCount_0f7a4_23 rfl hl (by decide) rfl (fun ls hl => ?_)
  refine lv_iload_n hx hb dJ6_bitCount_0f7a4_24 rfl (lv_at hl 0 rfl) ?_
  refine lv_iload_n hx hb dJ6_bitCount_0f7a4_25 rfl (lv_at hl 0 rfl) ?_
  refine lv_iconst (v := 4) hx hb dJ6_bitCount_0f7a4_26 (by decide) ?_
  refine lv_iushr hx hb dJ6_bitCount_0f7a4_27 rfl ?_
  refine lv_topi (fun yn8 eyn8 => ?_)
  refine lv_iadd hx hb dJ6_bitCount_0f7a4_28 ?_
  refine lv_topi (fun yn9 eyn9 => ?_)
  refine lv_ldcw (v := 252645135) hx hb hown (hts (.constant RJ6 267 252645135) (by decide +kernel)) dJ6_bitCount_0f7a4_29 ?_
  refine lv_iand hx hb dJ6_bitCount_0f7a4_32 ?_
  refine lv_topi (fun yn10 eyn10 => ?_)
  refine lv_istore_n (lv' := [(0, .int yn10)]) hx hb dJ6_bitCount_0f7a4_33 rfl hl (by decide) rfl (fun ls hl => ?_)
  refine lv_iload_n hx hb dJ6_bitCount_0f7a4_34 rfl (lv_at hl 0 rfl) ?_
  refine lv_iload_n hx hb dJ6_bitCount_0f7a4_35 rfl (lv_at hl 0 rfl) ?_
  refine lv_bipush (v := 8) hx hb dJ6_bitCount_0f7a4_36 (by decide) ?_
  refine lv_iushr hx hb dJ6_bitCount_0f7a4_38 rfl ?_
  refine lv_topi (fun yn11 eyn11 => ?_)
  refine lv_iadd hx hb dJ6_bitCount_0f7a4_39 ?_
  refine lv_topi (fun yn12 eyn12 => ?_)
  refine lv_istore_n (lv' := [(0, .int yn12)]) hx hb dJ6_bitCount_0f7a4_40 rfl hl (by decide) rfl (fun ls hl => ?_)
  refine lv_iload_n hx hb dJ6_bitCount_0f7a4_41 rfl (lv_at hl 0 rfl) ?_
  refine lv_iload_n hx hb dJ6_bitCount_0f7a4_42 rfl (lv_at hl 0 rfl) ?_
  refine lv_bipush (v := 16) hx hb dJ6_bitCount_0f7a4_43 (by decide) ?_
  refine lv_iushr hx hb dJ6_bitCount_0f7a4_45 rfl ?_
  refine lv_topi (fun yn13 eyn13 => ?_)
  refine lv_iadd hx hb dJ6_bitCount_0f7a4_46 ?_
  refine lv_topi (fun yn14 eyn14 => ?_)
  refine lv_istore_n (lv' := [(0, .int yn14)]) hx hb dJ6_bitCount_0f7a4_47 rfl hl (by decide) rfl (fun ls hl => ?_)
  refine lv_iload_n hx hb dJ6_bitCount_0f7a4_48 rfl (lv_at hl 0 rfl) ?_
  refine lv_bipush (v := 63) hx hb dJ6_bitCount_0f7a4_49 (by decide) ?_
  refine lv_iand hx hb dJ6_bitCount_0f7a4_51 ?_
  refine lv_topi (fun yn15 eyn15 => ?_)
  obtain ⟨hP9, hD9⟩ := PDq.sub (ws' := []) hP hD [] (by decide) rfl
  refine W.widen (k := 0) (n := 0) (Nat.le_of_ble_eq_true rfl) (Nat.le_of_ble_eq_true rfl) ?_
  exact (W.iret (v := yn15) hx hb hr (fun t ht hW => ⟨⟨yn15, (), rfl, trivial, by rw [ht]; exact hP9, hD9⟩, hS.F ht⟩) hS.2.2 dJ6_bitCount_0f7a4_52)

set_option maxHeartbeats 4000000 in
set_option maxRecDepth 100000 in
/-- letterCount -/
theorem s_letterCount (l : Launch) (D : va_G) (cA : Nat → ClassId) (sa : Nat → Nat) (w : Int64) (sz : Nat) : Met l yX8_letterCount wsX8_letterCount ({ frames := 0, cells := 0, slots := 0, locals := 0 }) (va_Pc [.long w] (Wd D cA sa [] sz)) (va_Qi (fun (r : Int32) (_ : Unit) => ∃ n, n < 10 ∧ r = nI n) (fun (_ : Unit) t => Wq D (va_A [] sz) [] t) (va_A [] sz)) 0 0 (va_A [] sz) := by
  refine Met.ofW (cc := cX8_letterCount) (maxL := 3) (ret := (some .int)) (by decide) rfl ?_
  intro p e s m args below meth c s₁ B hml hv
  obtain ⟨rfl, hsz, hP, hK, hD0, hC, hZ⟩ := hv
  have hx := B.exec
  have hb := B.bytes
  have hr := B.returns
  have hts := atoms_spec (ws := wsX8_letterCount) B.pre
  have hown : s.vm.findClass RX8 = some m.cls := findClass_of_methodNamed B.named
  have hlocks := B.notSynchronized
  subst hsz
  have hD := hD0.self (sz := s.heap.size)
  generalize hAe : va_A [] s.heap.size = A at hD hZ ⊢
  have hA : ∀ q : Nat, s.heap.size ≤ q → A q := fun q h => by rw [← hAe]; exact Or.inr h
  have hS : va_S A s.heap s.heap [] := va_S.rf
  have hP : va_P D vwCl [] s.heap := hP
  have hl := lv_entry ([.long w]) (n := 3) (Nat.le_of_ble_eq_true rfl)
  rw [lg_entry_eq]
  generalize (lg_sl ([.long w]) ++ List.replicate (3 - (lg_sl ([.long w])).length) Slot.unset).toArray = ls at hl ⊢
  have hl : lv_has ls 3 [(0, .long w)] := hl
  refine lv_iconst (v := 0) hx hb dX8_letterCount_0 (by decide) ?_
  refine lv_istore_n (lv' := [(2, .int 0), (0, .long w)]) hx hb dX8_letterCount_1 rfl hl (by decide) rfl (fun ls hl => ?_)
  have loop1 : ∀ (n1 i1 : Nat) (H : Heap) (locs : List Loc) (ls : Array Slot), i1 + n1 = 9 → va_P D vwCl [] H → va_D A [] → va_S A s.heap H locs → lv_has ls 3 [(2, .int (nI i1)), (0, .long w)] → W p l e (headSpec wsX8_letterCount ({ frames := 0, cells := 0, slots := 0, locals := 0 } : Room)).room s m ([.long w] : List Value).toArray below meth c H locs 0 0 (MQ below (va_Qi (fun (r : Int32) (_ : Unit) => ∃ n, n < 10 ∧ r = nI n) (fun (_ : Unit) t => Wq D A [] t) A) ([.long w] : List Value).toArray s 0 0 A) (F0 m 2 ls []) := by
    intro n1
    induction n1 with
    | zero =>
      intro i1 H locs ls hi1 hP hD hS hl
      obtain rfl : 9 = i1 := by omega
      refine lv_iload_n hx hb dX8_letterCount_2 rfl (lv_at hl 0 rfl) ?_
      refine lv_bipush (v := 9) hx hb dX8_letterCount_3 (by decide) ?_
      refine lv_icmp_ge (tgt := 24) hx hb dX8_letterCount_5 (by decide) (fun c1 => ?_) (fun c9 => absurd (nI_le (a := 9) (b := 9) (show 9 ≤ 9 by omega) (by omega)) c9)
      refine lv_iload_n hx hb dX8_letterCount_24 rfl (lv_at hl 0 rfl) ?_
      obtain ⟨hP9, hD9⟩ := PDq.sub (ws' := []) hP hD [] (by decide) rfl
      refine W.widen (k := 0) (n := 0) (Nat.le_of_ble_eq_true rfl) (Nat.le_of_ble_eq_true rfl) ?_
      exact (W.iret (v := (nI 9)) hx hb hr (fun t ht hW => ⟨⟨(nI 9), (), rfl, ⟨9, by omega, rfl⟩, by rw [ht]; exact hP9, hD9⟩, hS.F ht⟩) hS.2.2 dX8_letterCount_25)
    | succ n1 ih1 =>
      intro i1 H locs ls hi1 hP hD hS hl
      refine lv_iload_n hx hb dX8_letterCount_2 rfl (lv_at hl 0 rfl) ?_
      refine lv_bipush (v := 9) hx hb dX8_letterCount_3 (by decide) ?_
      refine lv_icmp_ge (tgt := 24) hx hb dX8_letterCount_5 (by decide) (fun c9 => absurd c9 (nI_ge (a := i1) (b := 9) (show i1 < 9 by omega) (by omega))) (fun c2 => ?_)
      refine lv_lload_n hx hb dX8_letterCount_8 rfl (lv_at hl 1 rfl) ?_
      refine lv_iconst (v := 5) hx hb dX8_letterCount_9 (by decide) ?_
      refine lv_iload_n hx hb dX8_letterCount_10 rfl (lv_at hl 0 rfl) ?_
      refine lv_imul hx hb dX8_letterCount_11 ?_
      refine lv_topi (fun yn3 eyn3 => ?_)
      obtain rfl : yn3 = (nI (5 * i1)) := eyn3.trans (nI_mul 5 i1)
      refine lv_lushr hx hb dX8_letterCount_12 rfl ?_
      refine lv_topl (fun yn4 eyn4 => ?_)
      refine lv_lconst (v := 0) hx hb dX8_letterCount_13 (by decide) ?_
      refine W.lcmp hx hb dX8_letterCount_14 ?_
      refine lv_if_eq (tgt := 24) hx hb dX8_letterCount_15 (by decide) (fun c5 => ?_) (fun c5 => ?_)
      · skip
        refine lv_iload_n hx hb dX8_letterCount_24 rfl (lv_at hl 0 rfl) ?_
        obtain ⟨hP9, hD9⟩ := PDq.sub (ws' := []) hP hD [] (by decide) rfl
        refine W.widen (k := 0) (n := 0) (Nat.le_of_ble_eq_true rfl) (Nat.le_of_ble_eq_true rfl) ?_
        exact (W.iret (v := (nI i1)) hx hb hr (fun t ht hW => ⟨⟨(nI i1), (), rfl, ⟨i1, by omega, rfl⟩, by rw [ht]; exact hP9, hD9⟩, hS.F ht⟩) hS.2.2 dX8_letterCount_25)
      · skip
        refine lv_iinc (v := (nI (i1 + 1))) (lv' := [(2, .int (nI (i1 + 1))), (0, .long w)]) hx hb dX8_letterCount_18 hl (k := 0) rfl (nI_1 _) (by decide) rfl (fun ls hl => ?_)
        refine lv_goto (tgt := 2) hx hb dX8_letterCount_21 (by decide) ?_
        obtain ⟨hP9, hD9⟩ := PDq.sub (ws' := []) hP hD [] (by decide) rfl
        exact ih1 (i1 + 1)  H _ ls (by omega) hP9 hD9 hS (lv_sub hl [0, 1] rfl)
  obtain ⟨hP9, hD9⟩ := PDq.sub (ws' := []) hP hD [] (by decide) rfl
  exact loop1 (9 - 0) 0  _ _ ls (by omega) hP9 hD9 hS (lv_sub hl [0, 1] rfl)

set_option maxHeartbeats 4000000 in
set_option maxRecDepth 100000 in
/-- dayByClock -/
theorem s_dayByClock (l : Launch) (D : va_G) (cA : Nat → ClassId) (sa : Nat → Nat) (h0 : Nat) (b0 : Nat) (nb : Nat) (p0 : Nat) (u0 : Nat) (r0 : Nat) (a0 : Nat) (t0 : Nat) (s0 : Nat) (o0 : Nat) (a1 : Nat) (a3 : Nat) (a4 : Nat) (a5 : Nat) (a6 : Nat) (i6 : Int32) (i7 : Int32) (i8 : Int32) (i12 : Int32) (i13 : Int32) (i14 : Int32) (i15 : Int32) (i16 : Int32) (i17 : Int32) (i18 : Int32) (i19 : Int32) (i9 : Int64) (i10 : Int64) (i11 : Int64) (p1 : Nat) (p2 : Nat) (p3 : Nat) (p4 : Nat) (p5 : Nat) (p6 : Nat) (p7 : Nat) (p8 : Nat) (p9 : Nat) (cn : Nat) (pq : Nat) (nd : Nat) (sc : Nat) (pr : Int32) (pb : Int32) (pe : Int32) (pg : Int32) (fen : Nat → Int32) (fst : Nat → Int32) (fop : Nat → Int32) (fs : Nat → Int32) (i : Int32) (sz : Nat) (hl9 : l.stackTraces = false) (hcn : cn ≤ 10) (hpq : pq ≤ 8) (hnd : nd ≤ 6) (hsc : sc ≤ 350) (hen : Rng 10 351 fen) : vx_Met l yX9_dayByClock wsX9_dayByClock ({ frames := 8, cells := 1, slots := 6, locals := 132 }) (va_Pc [.ref h0, .int i] (Wd D cA sa [(oX9 h0 b0 (nI nb) p0 u0 r0 a0 t0 s0 o0), (oX0 a0 p0 a1 a3 a4 a5 a6 i6 i7 i8 i9 i10 i11 i12 i13 i14 i15 i16 i17 i18 i19), (oX3 p0 pr pb pe pg p1 (nI nd) p2 p3 p4 p5 (nI cn) p6 (nI pq) p7 p8 p9 (nI sc)), (p9, .inl (cA 0, 10, .inl fen)), (p7, .inl (cA 0, 350, .inl fst)), (p8, .inl (cA 0, 350, .inl fop)), (a3, .inl (cA 0, 10, .inl fs))] sz)) (va_Qi (fun (r : Int32) (_ : Unit) => True) (fun (_ : Unit) t => Wq D (va_A [(oX9 h0 b0 (nI nb) p0 u0 r0 a0 t0 s0 o0), (oX0 a0 p0 a1 a3 a4 a5 a6 i6 i7 i8 i9 i10 i11 i12 i13 i14 i15 i16 i17 i18 i19), (oX3 p0 pr pb pe pg p1 (nI nd) p2 p3 p4 p5 (nI cn) p6 (nI pq) p7 p8 p9 (nI sc)), (p9, .inl (cA 0, 10, .inl fen)), (p7, .inl (cA 0, 350, .inl fst)), (p8, .inl (cA 0, 350, .inl fop)), (a3, .inl (cA 0, 10, .inl fs))] sz) [(oX9 h0 b0 (nI nb) p0 u0 r0 a0 t0 s0 o0), (oX0 a0 p0 a1 a3 a4 a5 a6 i6 i7 i8 i9 i10 i11 i12 i13 i14 i15 i16 i17 i18 i19), (oX3 p0 pr pb pe pg p1 (nI nd) p2 p3 p4 p5 (nI cn) p6 (nI pq) p7 p8 p9 (nI sc)), (p9, .inl (cA 0, 10, .inl fen)), (p7, .inl (cA 0, 350, .inl fst)), (p8, .inl (cA 0, 350, .inl fop)), (a3, .inl (cA 0, 10, .inl fs))] t) (va_A [(oX9 h0 b0 (nI nb) p0 u0 r0 a0 t0 s0 o0), (oX0 a0 p0 a1 a3 a4 a5 a6 i6 i7 i8 i9 i10 i11 i12 i13 i14 i15 i16 i17 i18 i19), (oX3 p0 pr pb pe pg p1 (nI nd) p2 p3 p4 p5 (nI cn) p6 (nI pq) p7 p8 p9 (nI sc)), (p9, .inl (cA 0, 10, .inl fen)), (p7, .inl (cA 0, 350, .inl fst)), (p8, .inl (cA 0, 350, .inl fop)), (a3, .inl (cA 0, 10, .inl fs))] sz)) (vx_X (fun _ : Unit => True) (fun E _ t => (E = "java/lang/IndexOutOfBoundsException") ∧ Wq D (va_A [(oX9 h0 b0 (nI nb) p0 u0 r0 a0 t0 s0 o0), (oX0 a0 p0 a1 a3 a4 a5 a6 i6 i7 i8 i9 i10 i11 i12 i13 i14 i15 i16 i17 i18 i19), (oX3 p0 pr pb pe pg p1 (nI nd) p2 p3 p4 p5 (nI cn) p6 (nI pq) p7 p8 p9 (nI sc)), (p9, .inl (cA 0, 10, .inl fen)), (p7, .inl (cA 0, 350, .inl fst)), (p8, .inl (cA 0, 350, .inl fop)), (a3, .inl (cA 0, 10, .inl fs))] sz) [(oX9 h0 b0 (nI nb) p0 u0 r0 a0 t0 s0 o0), (oX0 a0 p0 a1 a3 a4 a5 a6 i6 i7 i8 i9 i10 i11 i12 i13 i14 i15 i16 i17 i18 i19), (oX3 p0 pr pb pe pg p1 (nI nd) p2 p3 p4 p5 (nI cn) p6 (nI pq) p7 p8 p9 (nI sc)), (p9, .inl (cA 0, 10, .inl fen)), (p7, .inl (cA 0, 350, .inl fst)), (p8, .inl (cA 0, 350, .inl fop)), (a3, .inl (cA 0, 10, .inl fs))] t) (va_A [(oX9 h0 b0 (nI nb) p0 u0 r0 a0 t0 s0 o0), (oX0 a0 p0 a1 a3 a4 a5 a6 i6 i7 i8 i9 i10 i11 i12 i13 i14 i15 i16 i17 i18 i19), (oX3 p0 pr pb pe pg p1 (nI nd) p2 p3 p4 p5 (nI cn) p6 (nI pq) p7 p8 p9 (nI sc)), (p9, .inl (cA 0, 10, .inl fen)), (p7, .inl (cA 0, 350, .inl fst)), (p8, .inl (cA 0, 350, .inl fop)), (a3, .inl (cA 0, 10, .inl fs))] sz)) 1 6 (va_A [(oX9 h0 b0 (nI nb) p0 u0 r0 a0 t0 s0 o0), (oX0 a0 p0 a1 a3 a4 a5 a6 i6 i7 i8 i9 i10 i11 i12 i13 i14 i15 i16 i17 i18 i19), (oX3 p0 pr pb pe pg p1 (nI nd) p2 p3 p4 p5 (nI cn) p6 (nI pq) p7 p8 p9 (nI sc)), (p9, .inl (cA 0, 10, .inl fen)), (p7, .inl (cA 0, 350, .inl fst)), (p8, .inl (cA 0, 350, .inl fop)), (a3, .inl (cA 0, 10, .inl fs))] sz) := by
  refine vx_ofW (cc := cX9_dayByClock) (maxL := 5) (ret := (some .int)) (by decide) rfl ?_
  intro p e s m args below meth c s₁ B hml hno hv
  obtain ⟨rfl, hsz, hP, hK, hD0, hC, hZ⟩ := hv
  have hx := B.exec
  have hb := B.bytes
  have hr := B.returns
  have hts := atoms_spec (ws := wsX9_dayByClock) B.pre
  have hown : s.vm.findClass RX9 = some m.cls := findClass_of_methodNamed B.named
  have hlocks := B.notSynchronized
  subst hsz
  have hD := hD0.self (sz := s.heap.size)
  generalize hAe : va_A [(oX9 h0 b0 (nI nb) p0 u0 r0 a0 t0 s0 o0), (oX0 a0 p0 a1 a3 a4 a5 a6 i6 i7 i8 i9 i10 i11 i12 i13 i14 i15 i16 i17 i18 i19), (oX3 p0 pr pb pe pg p1 (nI nd) p2 p3 p4 p5 (nI cn) p6 (nI pq) p7 p8 p9 (nI sc)), (p9, .inl (cA 0, 10, .inl fen)), (p7, .inl (cA 0, 350, .inl fst)), (p8, .inl (cA 0, 350, .inl fop)), (a3, .inl (cA 0, 10, .inl fs))] s.heap.size = A at hD hZ ⊢
  have hA : ∀ q : Nat, s.heap.size ≤ q → A q := fun q h => by rw [← hAe]; exact Or.inr h
  have hS : va_S A s.heap s.heap [] := va_S.rf
  have hP : va_P D vwCl [(oX9 h0 b0 (nI nb) p0 u0 r0 a0 t0 s0 o0), (oX0 a0 p0 a1 a3 a4 a5 a6 i6 i7 i8 i9 i10 i11 i12 i13 i14 i15 i16 i17 i18 i19), (oX3 p0 pr pb pe pg p1 (nI nd) p2 p3 p4 p5 (nI cn) p6 (nI pq) p7 p8 p9 (nI sc)), (p9, .inl (cA 0, 10, .inl fen)), (p7, .inl (cA 0, 350, .inl fst)), (p8, .inl (cA 0, 350, .inl fop)), (a3, .inl (cA 0, 10, .inl fs))] s.heap := hP
  have hl := lv_entry ([.ref h0, .int i]) (n := 5) (Nat.le_of_ble_eq_true rfl)
  rw [lg_entry_eq]
  generalize (lg_sl ([.ref h0, .int i]) ++ List.replicate (5 - (lg_sl ([.ref h0, .int i])).length) Slot.unset).toArray = ls at hl ⊢
  have hl : lv_has ls 5 [(0, .ref h0), (1, .int i)] := hl
  have inX0 : ∀ w ∈ u_ws RX0 TX0 20, w ∈ wsX9_dayByClock := by decide +kernel
  have inX9 : ∀ w ∈ u_ws RX9 TX9 9, w ∈ wsX9_dayByClock := by decide +kernel
  refine lv_aload_n hx hb dX9_dayByClock_0 rfl (lv_at hl 0 rfl) ?_
  refine lv_iload_n hx hb dX9_dayByClock_1 rfl (lv_at hl 1 rfl) ?_
  obtain ⟨hPc, hDc, hFc⟩ := PDq.cut (wc := [(oX9 h0 b0 (nI nb) p0 u0 r0 a0 t0 s0 o0), (oX3 p0 pr pb pe pg p1 (nI nd) p2 p3 p4 p5 (nI cn) p6 (nI pq) p7 p8 p9 (nI sc))]) hP hD hS hA [0, 2] (by decide) rfl
  refine vx_callv (vx_runV (As := [.int i]) (rest := []) ⟨hx, hb, hml, hown, hts⟩ (s_needMilestone l D cA sa h0 b0 nb p0 u0 r0 a0 t0 s0 o0 p1 p2 p3 p4 p5 p6 p7 p8 p9 cn pq nd sc pr pb pe pg i s.heap.size hl9 hcn hpq hnd hsc) (cwV 1 hts gX9_dayByClock_X9_needMilestone rfl rfl rfl (by decide +kernel) ⟨(Nat.le_of_ble_eq_true rfl), (Nat.le_of_ble_eq_true rfl)⟩) ⟨Wd.blind, va_recv hK hPc (ci := 10) (q0 := 0) rfl rfl, fun U hU hW => ⟨rfl, Wd.call hPc hDc hK hC hZ hS hFc U hU hW⟩⟩ rfl rfl hl.1 rfl (lv_room (Nat.le_of_ble_eq_true rfl)) dX9_dayByClock_2 ⟨(Nat.le_of_ble_eq_true rfl), (Nat.le_of_ble_eq_true rfl)⟩) hS (fun q _ h => hFc q h) hFc (fun q _ h => hFc q h) (fun E ce q9 u t H1 locs ht hvm hpx hE hz1 hk1 hS hcell hv9 hcl => ?_) (fun u t H1 locs ht hvm hw hB hz1 hk1 hS => ?_)
  · skip
    obtain ⟨hE, hP1, hD1⟩ := hE
    rw [ht] at hP1
    obtain ⟨hP, hD⟩ := PDq.join (w := [(oX0 a0 p0 a1 a3 a4 a5 a6 i6 i7 i8 i9 i10 i11 i12 i13 i14 i15 i16 i17 i18 i19), (p9, .inl (cA 0, 10, .inl fen)), (p7, .inl (cA 0, 350, .inl fst)), (p8, .inl (cA 0, 350, .inl fop)), (a3, .inl (cA 0, 10, .inl fs)), (oX9 h0 b0 (nI nb) p0 u0 r0 a0 t0 s0 o0), (oX3 p0 pr pb pe pg p1 (nI nd) p2 p3 p4 p5 (nI cn) p6 (nI pq) p7 p8 p9 (nI sc))]) 5 hP hD [0, 2] [1, 3, 4, 5, 6] rfl rfl (by decide) (by decide) hk1 hFc hP1 hD1 rfl
    generalize H1 = H at hP hS hcell ⊢
    obtain ⟨hP9, hD9⟩ := PDq.sub (ws' := [(oX9 h0 b0 (nI nb) p0 u0 r0 a0 t0 s0 o0), (oX0 a0 p0 a1 a3 a4 a5 a6 i6 i7 i8 i9 i10 i11 i12 i13 i14 i15 i16 i17 i18 i19), (oX3 p0 pr pb pe pg p1 (nI nd) p2 p3 p4 p5 (nI cn) p6 (nI pq) p7 p8 p9 (nI sc)), (p9, .inl (cA 0, 10, .inl fen)), (p7, .inl (cA 0, 350, .inl fst)), (p8, .inl (cA 0, 350, .inl fop)), (a3, .inl (cA 0, 10, .inl fs))]) hP hD [5, 0, 6, 1, 2, 3, 4] (by decide) rfl
    exact vx_out (fun x h => (hno x h).elim) hlocks hcell hv9 hcl (fun t ht hvm => ⟨(), trivial, ⟨hE, by rw [ht]; exact hP9, hD9⟩, hS.F ht⟩) hS.2.2 (Nat.le_of_ble_eq_true rfl) (Nat.le_of_ble_eq_true rfl)
  · skip
    obtain ⟨qn1, hn2, hn3, hP1, hD1⟩ := hB
    rw [ht] at hP1
    obtain ⟨hP, hD⟩ := PDq.join (w := [(oX0 a0 p0 a1 a3 a4 a5 a6 i6 i7 i8 i9 i10 i11 i12 i13 i14 i15 i16 i17 i18 i19), (p9, .inl (cA 0, 10, .inl fen)), (p7, .inl (cA 0, 350, .inl fst)), (p8, .inl (cA 0, 350, .inl fop)), (a3, .inl (cA 0, 10, .inl fs)), (oX9 h0 b0 (nI nb) p0 u0 r0 a0 t0 s0 o0), (oX3 p0 pr pb pe pg p1 (nI nd) p2 p3 p4 p5 (nI cn) p6 (nI pq) p7 p8 p9 (nI sc))]) 5 hP hD [0, 2] [1, 3, 4, 5, 6] rfl rfl (by decide) (by decide) hk1 hFc hP1 hD1 rfl
    generalize H1 = H at hP hS ⊢
    rw [hn3] at hl
    have hl : lv_has ls 5 [(0, .ref h0), (1, .int (nI qn1))] := hl
    refine lv_aload_n hx hb dX9_dayByClock_5 rfl (lv_at hl 0 rfl) ?_
    refine va_get (D := D) (ci := 10) (v := .ref a0) (C := RX9) (T := TX9) (N := 9) hx hb hts inX9 hown hK hP 5 rfl rfl 5 (by decide) (hts (.fieldLink RX9 35 "EscrowDesk" "account" "LEscrowDesk$Account;") (by decide +kernel)) (fun _ h9 => h9) rfl dX9_dayByClock_6 ?_
    refine va_getN (D := D) (ci := 4) (v := .int i6) (C := RX0) (T := TX0) (N := 20) hx hb hts inX0 hown hK hP 0 rfl rfl 6 (by decide) (hC.f (A := _) (a := RX9) (i := 87) (b := "EscrowDesk$Account") (n := "day") (d := "I") (x := "EscrowDesk") (by decide +kernel)) (fun _ h9 => h9) rfl dX9_dayByClock_9 ?_
    refine lv_sipush (v := 400) hx hb dX9_dayByClock_12 (by decide) ?_
    refine lv_iadd hx hb dX9_dayByClock_15 ?_
    refine lv_topi (fun yn4 eyn4 => ?_)
    refine lv_istore_n (lv' := [(2, .int yn4), (0, .ref h0), (1, .int (nI qn1))]) hx hb dX9_dayByClock_16 rfl hl (by decide) rfl (fun ls hl => ?_)
    refine lv_aload_n hx hb dX9_dayByClock_17 rfl (lv_at hl 1 rfl) ?_
    refine va_get (D := D) (ci := 10) (v := .ref a0) (C := RX9) (T := TX9) (N := 9) hx hb hts inX9 hown hK hP 5 rfl rfl 5 (by decide) (hts (.fieldLink RX9 35 "EscrowDesk" "account" "LEscrowDesk$Account;") (by decide +kernel)) (fun _ h9 => h9) rfl dX9_dayByClock_18 ?_
    refine va_getN (D := D) (ci := 4) (v := .int i6) (C := RX0) (T := TX0) (N := 20) hx hb hts inX0 hown hK hP 0 rfl rfl 6 (by decide) (hC.f (A := _) (a := RX9) (i := 87) (b := "EscrowDesk$Account") (n := "day") (d := "I") (x := "EscrowDesk") (by decide +kernel)) (fun _ h9 => h9) rfl dX9_dayByClock_21 ?_
    refine lv_istore_n (lv' := [(3, .int i6), (2, .int yn4), (0, .ref h0), (1, .int (nI qn1))]) hx hb dX9_dayByClock_24 rfl hl (by decide) rfl (fun ls hl => ?_)
    refine lv_iconst (v := 0) hx hb dX9_dayByClock_25 (by decide) ?_
    refine lv_istore (lv' := [(4, .int 0), (3, .int i6), (2, .int yn4), (0, .ref h0), (1, .int (nI qn1))]) hx hb dX9_dayByClock_26 hl (by decide) rfl (fun ls hl => ?_)
    have loop1 : ∀ (n1 i1 : Nat) (x3_1 : Int32) (H : Heap) (locs : List Loc) (ls : Array Slot), i1 + n1 = 401 → va_P D vwCl [(oX0 a0 p0 a1 a3 a4 a5 a6 i6 i7 i8 i9 i10 i11 i12 i13 i14 i15 i16 i17 i18 i19), (p9, .inl (cA 0, 10, .inl fen)), (p7, .inl (cA 0, 350, .inl fst)), (p8, .inl (cA 0, 350, .inl fop)), (a3, .inl (cA 0, 10, .inl fs)), (oX9 h0 b0 (nI nb) p0 u0 r0 a0 t0 s0 o0), (oX3 p0 pr pb pe pg p1 (nI nd) p2 p3 p4 p5 (nI cn) p6 (nI pq) p7 p8 p9 (nI sc))] H → va_D A [(oX0 a0 p0 a1 a3 a4 a5 a6 i6 i7 i8 i9 i10 i11 i12 i13 i14 i15 i16 i17 i18 i19), (p9, .inl (cA 0, 10, .inl fen)), (p7, .inl (cA 0, 350, .inl fst)), (p8, .inl (cA 0, 350, .inl fop)), (a3, .inl (cA 0, 10, .inl fs)), (oX9 h0 b0 (nI nb) p0 u0 r0 a0 t0 s0 o0), (oX3 p0 pr pb pe pg p1 (nI nd) p2 p3 p4 p5 (nI cn) p6 (nI pq) p7 p8 p9 (nI sc))] → va_S A s.heap H locs → lv_has ls 5 [(4, .int (nI i1)), (3, .int x3_1), (2, .int yn4), (0, .ref h0), (1, .int (nI qn1))] → W p l e (headSpec wsX9_dayByClock ({ frames := 8, cells := 1, slots := 6, locals := 132 } : Room)).room s m ([.ref h0, .int i] : List Value).toArray below meth c H locs 1 6 (vx_MQ below (va_Qi (fun (r : Int32) (_ : Unit) => True) (fun (_ : Unit) t => Wq D A [(oX9 h0 b0 (nI nb) p0 u0 r0 a0 t0 s0 o0), (oX0 a0 p0 a1 a3 a4 a5 a6 i6 i7 i8 i9 i10 i11 i12 i13 i14 i15 i16 i17 i18 i19), (oX3 p0 pr pb pe pg p1 (nI nd) p2 p3 p4 p5 (nI cn) p6 (nI pq) p7 p8 p9 (nI sc)), (p9, .inl (cA 0, 10, .inl fen)), (p7, .inl (cA 0, 350, .inl fst)), (p8, .inl (cA 0, 350, .inl fop)), (a3, .inl (cA 0, 10, .inl fs))] t) A) (vx_X (fun _ : Unit => True) (fun E _ t => (E = "java/lang/IndexOutOfBoundsException") ∧ Wq D A [(oX9 h0 b0 (nI nb) p0 u0 r0 a0 t0 s0 o0), (oX0 a0 p0 a1 a3 a4 a5 a6 i6 i7 i8 i9 i10 i11 i12 i13 i14 i15 i16 i17 i18 i19), (oX3 p0 pr pb pe pg p1 (nI nd) p2 p3 p4 p5 (nI cn) p6 (nI pq) p7 p8 p9 (nI sc)), (p9, .inl (cA 0, 10, .inl fen)), (p7, .inl (cA 0, 350, .inl fst)), (p8, .inl (cA 0, 350, .inl fop)), (a3, .inl (cA 0, 10, .inl fs))] t) A) ([.ref h0, .int i] : List Value).toArray s 1 6 A) (F0 m 28 ls []) := by
      intro n1
      induction n1 with
      | zero =>
        intro i1 x3_1 H locs ls hi1 hP hD hS hl
        obtain rfl : 401 = i1 := by omega
        refine lv_iload hx hb dX9_dayByClock_28 (lv_at hl 0 rfl) ?_
        refine lv_sipush (v := 400) hx hb dX9_dayByClock_30 (by decide) ?_
        refine lv_icmp_gt (tgt := 76) hx hb dX9_dayByClock_33 (by decide) (fun c5 => ?_) (fun c9 => absurd (nI_lt (a := 400) (b := 401) (show 400 < 401 by omega) (by omega)) c9)
        refine lv_iconst (v := (-1)) hx hb dX9_dayByClock_76 (by decide) ?_
        obtain ⟨hP9, hD9⟩ := PDq.sub (ws' := [(oX9 h0 b0 (nI nb) p0 u0 r0 a0 t0 s0 o0), (oX0 a0 p0 a1 a3 a4 a5 a6 i6 i7 i8 i9 i10 i11 i12 i13 i14 i15 i16 i17 i18 i19), (oX3 p0 pr pb pe pg p1 (nI nd) p2 p3 p4 p5 (nI cn) p6 (nI pq) p7 p8 p9 (nI sc)), (p9, .inl (cA 0, 10, .inl fen)), (p7, .inl (cA 0, 350, .inl fst)), (p8, .inl (cA 0, 350, .inl fop)), (a3, .inl (cA 0, 10, .inl fs))]) hP hD [5, 0, 6, 1, 2, 3, 4] (by decide) rfl
        refine W.widen (k := 1) (n := 6) (Nat.le_of_ble_eq_true rfl) (Nat.le_of_ble_eq_true rfl) ?_
        exact vx_ret (W.iret (v := (-1)) hx hb hr (fun t ht hW => ⟨⟨(-1), (), rfl, trivial, by rw [ht]; exact hP9, hD9⟩, hS.F ht⟩) hS.2.2 dX9_dayByClock_77)
      | succ n1 ih1 =>
        intro i1 x3_1 H locs ls hi1 hP hD hS hl
        refine lv_iload hx hb dX9_dayByClock_28 (lv_at hl 0 rfl) ?_
        refine lv_sipush (v := 400) hx hb dX9_dayByClock_30 (by decide) ?_
        refine lv_icmp_gt (tgt := 76) hx hb dX9_dayByClock_33 (by decide) (fun c9 => absurd c9 (nI_nlt (a := 400) (b := i1) (show i1 ≤ 400 by omega) (by omega))) (fun c6 => ?_)
        refine lv_iload_n hx hb dX9_dayByClock_36 rfl (lv_at hl 1 rfl) ?_
        refine lv_iconst (v := (-1)) hx hb dX9_dayByClock_37 (by decide) ?_
        refine lv_icmp_eq (tgt := 76) hx hb dX9_dayByClock_38 (by decide) (fun c7 => ?_) (fun c7 => ?_)
        · skip
          rw [c7] at hl
          have hl : lv_has ls 5 [(4, .int (nI i1)), (3, .int (-1)), (2, .int yn4), (0, .ref h0), (1, .int (nI qn1))] := hl
          refine lv_iconst (v := (-1)) hx hb dX9_dayByClock_76 (by decide) ?_
          obtain ⟨hP9, hD9⟩ := PDq.sub (ws' := [(oX9 h0 b0 (nI nb) p0 u0 r0 a0 t0 s0 o0), (oX0 a0 p0 a1 a3 a4 a5 a6 i6 i7 i8 i9 i10 i11 i12 i13 i14 i15 i16 i17 i18 i19), (oX3 p0 pr pb pe pg p1 (nI nd) p2 p3 p4 p5 (nI cn) p6 (nI pq) p7 p8 p9 (nI sc)), (p9, .inl (cA 0, 10, .inl fen)), (p7, .inl (cA 0, 350, .inl fst)), (p8, .inl (cA 0, 350, .inl fop)), (a3, .inl (cA 0, 10, .inl fs))]) hP hD [5, 0, 6, 1, 2, 3, 4] (by decide) rfl
          refine W.widen (k := 1) (n := 6) (Nat.le_of_ble_eq_true rfl) (Nat.le_of_ble_eq_true rfl) ?_
          exact vx_ret (W.iret (v := (-1)) hx hb hr (fun t ht hW => ⟨⟨(-1), (), rfl, trivial, by rw [ht]; exact hP9, hD9⟩, hS.F ht⟩) hS.2.2 dX9_dayByClock_77)
        · skip
          refine lv_iload_n hx hb dX9_dayByClock_41 rfl (lv_at hl 1 rfl) ?_
          refine lv_iload_n hx hb dX9_dayByClock_42 rfl (lv_at hl 2 rfl) ?_
          refine lv_icmp_gt (tgt := 76) hx hb dX9_dayByClock_43 (by decide) (fun c8 => ?_) (fun c8 => ?_)
          · skip
            refine lv_iconst (v := (-1)) hx hb dX9_dayByClock_76 (by decide) ?_
            obtain ⟨hP9, hD9⟩ := PDq.sub (ws' := [(oX9 h0 b0 (nI nb) p0 u0 r0 a0 t0 s0 o0), (oX0 a0 p0 a1 a3 a4 a5 a6 i6 i7 i8 i9 i10 i11 i12 i13 i14 i15 i16 i17 i18 i19), (oX3 p0 pr pb pe pg p1 (nI nd) p2 p3 p4 p5 (nI cn) p6 (nI pq) p7 p8 p9 (nI sc)), (p9, .inl (cA 0, 10, .inl fen)), (p7, .inl (cA 0, 350, .inl fst)), (p8, .inl (cA 0, 350, .inl fop)), (a3, .inl (cA 0, 10, .inl fs))]) hP hD [5, 0, 6, 1, 2, 3, 4] (by decide) rfl
            refine W.widen (k := 1) (n := 6) (Nat.le_of_ble_eq_true rfl) (Nat.le_of_ble_eq_true rfl) ?_
            exact vx_ret (W.iret (v := (-1)) hx hb hr (fun t ht hW => ⟨⟨(-1), (), rfl, trivial, by rw [ht]; exact hP9, hD9⟩, hS.F ht⟩) hS.2.2 dX9_dayByClock_77)
          · skip
            refine lv_aload_n hx hb dX9_dayByClock_46 rfl (lv_at hl 3 rfl) ?_
            refine va_get (D := D) (ci := 10) (v := .ref a0) (C := RX9) (T := TX9) (N := 9) hx hb hts inX9 hown hK hP 5 rfl rfl 5 (by decide) (hts (.fieldLink RX9 35 "EscrowDesk" "account" "LEscrowDesk$Account;") (by decide +kernel)) (fun _ h9 => h9) rfl dX9_dayByClock_47 ?_
            refine lv_iload_n hx hb dX9_dayByClock_50 rfl (lv_at hl 4 rfl) ?_
            refine lv_iload_n hx hb dX9_dayByClock_51 rfl (lv_at hl 1 rfl) ?_
            obtain ⟨hPc, hDc, hFc⟩ := PDq.cut (wc := [(oX0 a0 p0 a1 a3 a4 a5 a6 i6 i7 i8 i9 i10 i11 i12 i13 i14 i15 i16 i17 i18 i19), (oX3 p0 pr pb pe pg p1 (nI nd) p2 p3 p4 p5 (nI cn) p6 (nI pq) p7 p8 p9 (nI sc)), (p9, .inl (cA 0, 10, .inl fen)), (p7, .inl (cA 0, 350, .inl fst)), (p8, .inl (cA 0, 350, .inl fop)), (a3, .inl (cA 0, 10, .inl fs))]) hP hD hS hA [0, 6, 1, 2, 3, 4] (by decide) rfl
            refine va_calli (va_runV (As := [.int (nI qn1), .int x3_1]) (rest := []) ⟨hx, hb, hml, hown, hts⟩ (s_holdsOn l D cA sa a0 a1 a3 a4 a5 a6 p0 i6 i7 i8 i12 i13 i14 i15 i16 i17 i18 i19 i9 i10 i11 p1 p2 p3 p4 p5 p6 p7 p8 p9 cn pq nd sc pr pb pe pg qn1 fen fst fop x3_1 fs H.size hcn hpq hnd hsc hen (by omega)) (cwV 2 hts gX9_dayByClock_X0_holdsOn rfl rfl rfl (by decide +kernel) ⟨(Nat.le_of_ble_eq_true rfl), (Nat.le_of_ble_eq_true rfl)⟩) ⟨Wd.blind, va_recv hK hPc (ci := 4) (q0 := 0) rfl rfl, fun U hU hW => ⟨rfl, Wd.call hPc hDc hK hC hZ hS hFc U hU hW⟩⟩ rfl rfl hl.1 rfl (lv_room (Nat.le_of_ble_eq_true rfl)) dX9_dayByClock_52 ⟨(Nat.le_of_ble_eq_true rfl), (Nat.le_of_ble_eq_true rfl)⟩) hS (fun q _ h => hFc q h) hFc (fun rn9 u t H1 locs ht hvm hw hB hz1 hk1 hS => ?_)
            obtain ⟨hP1, hD1⟩ := hB
            rw [ht] at hP1
            obtain ⟨hP, hD⟩ := PDq.join (w := [(oX9 h0 b0 (nI nb) p0 u0 r0 a0 t0 s0 o0), (oX0 a0 p0 a1 a3 a4 a5 a6 i6 i7 i8 i9 i10 i11 i12 i13 i14 i15 i16 i17 i18 i19), (oX3 p0 pr pb pe pg p1 (nI nd) p2 p3 p4 p5 (nI cn) p6 (nI pq) p7 p8 p9 (nI sc)), (p9, .inl (cA 0, 10, .inl fen)), (p7, .inl (cA 0, 350, .inl fst)), (p8, .inl (cA 0, 350, .inl fop)), (a3, .inl (cA 0, 10, .inl fs))]) 1 hP hD [0, 6, 1, 2, 3, 4] [5] rfl rfl (by decide) (by decide) hk1 hFc hP1 hD1 rfl
            generalize H1 = H at hP hS ⊢
            have hn10 := hw
            refine lv_if_eq (tgt := 60) hx hb dX9_dayByClock_55 (by decide) (fun c11 => ?_) (fun c11 => ?_)
            · skip
              refine lv_aload_n hx hb dX9_dayByClock_60 rfl (lv_at hl 3 rfl) ?_
              refine va_get (D := D) (ci := 10) (v := .ref p0) (C := RX9) (T := TX9) (N := 9) hx hb hts inX9 hown hK hP 0 rfl rfl 2 (by decide) (hts (.fieldLink RX9 16 "EscrowDesk" "plan" "LEscrowDesk$Plan;") (by decide +kernel)) (fun _ h9 => h9) rfl dX9_dayByClock_61 ?_
              refine lv_iload_n hx hb dX9_dayByClock_64 rfl (lv_at hl 4 rfl) ?_
              refine lv_iload_n hx hb dX9_dayByClock_65 rfl (lv_at hl 1 rfl) ?_
              obtain ⟨hPc, hDc, hFc⟩ := PDq.cut (wc := [(oX3 p0 pr pb pe pg p1 (nI nd) p2 p3 p4 p5 (nI cn) p6 (nI pq) p7 p8 p9 (nI sc)), (p9, .inl (cA 0, 10, .inl fen)), (p7, .inl (cA 0, 350, .inl fst)), (p8, .inl (cA 0, 350, .inl fop))]) hP hD hS hA [2, 3, 4, 5] (by decide) rfl
              refine va_calli (va_runV (As := [.int (nI qn1), .int x3_1]) (rest := []) ⟨hx, hb, hml, hown, hts⟩ (s_nextNamedDay l D cA sa p0 p1 p2 p3 p4 p5 p6 p7 p8 p9 cn pq nd sc pr pb pe pg qn1 x3_1 fen fst fop H.size hcn hpq hnd hsc hen (by omega)) (cwV 2 hts gX9_dayByClock_X3_nextNamedDay rfl rfl rfl (by decide +kernel) ⟨(Nat.le_of_ble_eq_true rfl), (Nat.le_of_ble_eq_true rfl)⟩) ⟨Wd.blind, va_recv hK hPc (ci := 7) (q0 := 0) rfl rfl, fun U hU hW => ⟨rfl, Wd.call hPc hDc hK hC hZ hS hFc U hU hW⟩⟩ rfl rfl hl.1 rfl (lv_room (Nat.le_of_ble_eq_true rfl)) dX9_dayByClock_66 ⟨(Nat.le_of_ble_eq_true rfl), (Nat.le_of_ble_eq_true rfl)⟩) hS (fun q _ h => hFc q h) hFc (fun rn12 u t H1 locs ht hvm hw hB hz1 hk1 hS => ?_)
              obtain ⟨hP1, hD1⟩ := hB
              rw [ht] at hP1
              obtain ⟨hP, hD⟩ := PDq.join (w := [(oX9 h0 b0 (nI nb) p0 u0 r0 a0 t0 s0 o0), (oX0 a0 p0 a1 a3 a4 a5 a6 i6 i7 i8 i9 i10 i11 i12 i13 i14 i15 i16 i17 i18 i19), (a3, .inl (cA 0, 10, .inl fs)), (oX3 p0 pr pb pe pg p1 (nI nd) p2 p3 p4 p5 (nI cn) p6 (nI pq) p7 p8 p9 (nI sc)), (p9, .inl (cA 0, 10, .inl fen)), (p7, .inl (cA 0, 350, .inl fst)), (p8, .inl (cA 0, 350, .inl fop))]) 3 hP hD [2, 3, 4, 5] [0, 1, 6] rfl rfl (by decide) (by decide) hk1 hFc hP1 hD1 rfl
              generalize H1 = H at hP hS ⊢
              refine lv_istore_n (lv' := [(3, .int rn12), (4, .int (nI i1)), (2, .int yn4), (0, .ref h0), (1, .int (nI qn1))]) hx hb dX9_dayByClock_69 rfl hl (by decide) rfl (fun ls hl => ?_)
              refine lv_iinc (v := (nI (i1 + 1))) (lv' := [(4, .int (nI (i1 + 1))), (3, .int rn12), (2, .int yn4), (0, .ref h0), (1, .int (nI qn1))]) hx hb dX9_dayByClock_70 hl (k := 1) rfl (nI_1 _) (by decide) rfl (fun ls hl => ?_)
              refine lv_goto (tgt := 28) hx hb dX9_dayByClock_73 (by decide) ?_
              obtain ⟨hP9, hD9⟩ := PDq.sub (ws' := [(oX0 a0 p0 a1 a3 a4 a5 a6 i6 i7 i8 i9 i10 i11 i12 i13 i14 i15 i16 i17 i18 i19), (p9, .inl (cA 0, 10, .inl fen)), (p7, .inl (cA 0, 350, .inl fst)), (p8, .inl (cA 0, 350, .inl fop)), (a3, .inl (cA 0, 10, .inl fs)), (oX9 h0 b0 (nI nb) p0 u0 r0 a0 t0 s0 o0), (oX3 p0 pr pb pe pg p1 (nI nd) p2 p3 p4 p5 (nI cn) p6 (nI pq) p7 p8 p9 (nI sc))]) hP hD [1, 4, 5, 6, 2, 0, 3] (by decide) rfl
              exact ih1 (i1 + 1) rn12 H _ ls (by omega) hP9 hD9 hS (lv_sub hl [0, 1, 2, 3, 4] rfl)
            · skip
              refine lv_iload_n hx hb dX9_dayByClock_58 rfl (lv_at hl 1 rfl) ?_
              obtain ⟨hP9, hD9⟩ := PDq.sub (ws' := [(oX9 h0 b0 (nI nb) p0 u0 r0 a0 t0 s0 o0), (oX0 a0 p0 a1 a3 a4 a5 a6 i6 i7 i8 i9 i10 i11 i12 i13 i14 i15 i16 i17 i18 i19), (oX3 p0 pr pb pe pg p1 (nI nd) p2 p3 p4 p5 (nI cn) p6 (nI pq) p7 p8 p9 (nI sc)), (p9, .inl (cA 0, 10, .inl fen)), (p7, .inl (cA 0, 350, .inl fst)), (p8, .inl (cA 0, 350, .inl fop)), (a3, .inl (cA 0, 10, .inl fs))]) hP hD [0, 1, 2, 3, 4, 5, 6] (by decide) rfl
              refine W.widen (k := 1) (n := 6) (Nat.le_of_ble_eq_true rfl) (Nat.le_of_ble_eq_true rfl) ?_
              exact vx_ret (W.iret (v := x3_1) hx hb hr (fun t ht hW => ⟨⟨x3_1, (), rfl, trivial, by rw [ht]; exact hP9, hD9⟩, hS.F ht⟩) hS.2.2 dX9_dayByClock_59)
    obtain ⟨hP9, hD9⟩ := PDq.sub (ws' := [(oX0 a0 p0 a1 a3 a4 a5 a6 i6 i7 i8 i9 i10 i11 i12 i13 i14 i15 i16 i17 i18 i19), (p9, .inl (cA 0, 10, .inl fen)), (p7, .inl (cA 0, 350, .inl fst)), (p8, .inl (cA 0, 350, .inl fop)), (a3, .inl (cA 0, 10, .inl fs)), (oX9 h0 b0 (nI nb) p0 u0 r0 a0 t0 s0 o0), (oX3 p0 pr pb pe pg p1 (nI nd) p2 p3 p4 p5 (nI cn) p6 (nI pq) p7 p8 p9 (nI sc))]) hP hD [0, 1, 2, 3, 4, 5, 6] (by decide) rfl
    exact loop1 (401 - 0) 0 i6 _ _ ls (by omega) hP9 hD9 hS (lv_sub hl [0, 1, 2, 3, 4] rfl)

set_option maxHeartbeats 4000000 in
set_option maxRecDepth 100000 in
/-- missingProofs -/
theorem s_missingProofs (l : Launch) (D : va_G) (cA : Nat → ClassId) (sa : Nat → Nat) (h0 : Nat) (b0 : Nat) (nb : Nat) (p0 : Nat) (u0 : Nat) (r0 : Nat) (a0 : Nat) (t0 : Nat) (s0 : Nat) (o0 : Nat) (a1 : Nat) (a3 : Nat) (a4 : Nat) (a5 : Nat) (a6 : Nat) (i6 : Int32) (i7 : Int32) (i8 : Int32) (i12 : Int32) (i13 : Int32) (i14 : Int32) (i15 : Int32) (i16 : Int32) (i17 : Int32) (i18 : Int32) (i19 : Int32) (i9 : Int64) (i10 : Int64) (i11 : Int64) (p1 : Nat) (p2 : Nat) (p3 : Nat) (p4 : Nat) (p5 : Nat) (p6 : Nat) (p7 : Nat) (p8 : Nat) (p9 : Nat) (cn : Nat) (pq : Nat) (nd : Nat) (sc : Nat) (pr : Int32) (pb : Int32) (pe : Int32) (pg : Int32) (fen : Nat → Int32) (fst : Nat → Int32) (fop : Nat → Int32) (fs : Nat → Int32) (i : Int32) (sz : Nat) (hl9 : l.stackTraces = false) (hcn : cn ≤ 10) (hpq : pq ≤ 8) (hnd : nd ≤ 6) (hsc : sc ≤ 350) (hen : Rng 10 351 fen) : vx_Met l yX9_missingProofs wsX9_missingProofs ({ frames := 8, cells := 1, slots := 6, locals := 132 }) (va_Pc [.ref h0, .int i] (Wd D cA sa [(oX9 h0 b0 (nI nb) p0 u0 r0 a0 t0 s0 o0), (oX0 a0 p0 a1 a3 a4 a5 a6 i6 i7 i8 i9 i10 i11 i12 i13 i14 i15 i16 i17 i18 i19), (oX3 p0 pr pb pe pg p1 (nI nd) p2 p3 p4 p5 (nI cn) p6 (nI pq) p7 p8 p9 (nI sc)), (p9, .inl (cA 0, 10, .inl fen)), (p7, .inl (cA 0, 350, .inl fst)), (p8, .inl (cA 0, 350, .inl fop)), (a3, .inl (cA 0, 10, .inl fs))] sz)) (va_Qi (fun (r : Int32) (_ : Unit) => True) (fun (_ : Unit) t => Wq D (va_A [(oX9 h0 b0 (nI nb) p0 u0 r0 a0 t0 s0 o0), (oX0 a0 p0 a1 a3 a4 a5 a6 i6 i7 i8 i9 i10 i11 i12 i13 i14 i15 i16 i17 i18 i19), (oX3 p0 pr pb pe pg p1 (nI nd) p2 p3 p4 p5 (nI cn) p6 (nI pq) p7 p8 p9 (nI sc)), (p9, .inl (cA 0, 10, .inl fen)), (p7, .inl (cA 0, 350, .inl fst)), (p8, .inl (cA 0, 350, .inl fop)), (a3, .inl (cA 0, 10, .inl fs))] sz) [(oX9 h0 b0 (nI nb) p0 u0 r0 a0 t0 s0 o0), (oX0 a0 p0 a1 a3 a4 a5 a6 i6 i7 i8 i9 i10 i11 i12 i13 i14 i15 i16 i17 i18 i19), (oX3 p0 pr pb pe pg p1 (nI nd) p2 p3 p4 p5 (nI cn) p6 (nI pq) p7 p8 p9 (nI sc)), (p9, .inl (cA 0, 10, .inl fen)), (p7, .inl (cA 0, 350, .inl fst)), (p8, .inl (cA 0, 350, .inl fop)), (a3, .inl (cA 0, 10, .inl fs))] t) (va_A [(oX9 h0 b0 (nI nb) p0 u0 r0 a0 t0 s0 o0), (oX0 a0 p0 a1 a3 a4 a5 a6 i6 i7 i8 i9 i10 i11 i12 i13 i14 i15 i16 i17 i18 i19), (oX3 p0 pr pb pe pg p1 (nI nd) p2 p3 p4 p5 (nI cn) p6 (nI pq) p7 p8 p9 (nI sc)), (p9, .inl (cA 0, 10, .inl fen)), (p7, .inl (cA 0, 350, .inl fst)), (p8, .inl (cA 0, 350, .inl fop)), (a3, .inl (cA 0, 10, .inl fs))] sz)) (vx_X (fun _ : Unit => True) (fun E _ t => (E = "java/lang/IndexOutOfBoundsException") ∧ Wq D (va_A [(oX9 h0 b0 (nI nb) p0 u0 r0 a0 t0 s0 o0), (oX0 a0 p0 a1 a3 a4 a5 a6 i6 i7 i8 i9 i10 i11 i12 i13 i14 i15 i16 i17 i18 i19), (oX3 p0 pr pb pe pg p1 (nI nd) p2 p3 p4 p5 (nI cn) p6 (nI pq) p7 p8 p9 (nI sc)), (p9, .inl (cA 0, 10, .inl fen)), (p7, .inl (cA 0, 350, .inl fst)), (p8, .inl (cA 0, 350, .inl fop)), (a3, .inl (cA 0, 10, .inl fs))] sz) [(oX9 h0 b0 (nI nb) p0 u0 r0 a0 t0 s0 o0), (oX0 a0 p0 a1 a3 a4 a5 a6 i6 i7 i8 i9 i10 i11 i12 i13 i14 i15 i16 i17 i18 i19), (oX3 p0 pr pb pe pg p1 (nI nd) p2 p3 p4 p5 (nI cn) p6 (nI pq) p7 p8 p9 (nI sc)), (p9, .inl (cA 0, 10, .inl fen)), (p7, .inl (cA 0, 350, .inl fst)), (p8, .inl (cA 0, 350, .inl fop)), (a3, .inl (cA 0, 10, .inl fs))] t) (va_A [(oX9 h0 b0 (nI nb) p0 u0 r0 a0 t0 s0 o0), (oX0 a0 p0 a1 a3 a4 a5 a6 i6 i7 i8 i9 i10 i11 i12 i13 i14 i15 i16 i17 i18 i19), (oX3 p0 pr pb pe pg p1 (nI nd) p2 p3 p4 p5 (nI cn) p6 (nI pq) p7 p8 p9 (nI sc)), (p9, .inl (cA 0, 10, .inl fen)), (p7, .inl (cA 0, 350, .inl fst)), (p8, .inl (cA 0, 350, .inl fop)), (a3, .inl (cA 0, 10, .inl fs))] sz)) 1 6 (va_A [(oX9 h0 b0 (nI nb) p0 u0 r0 a0 t0 s0 o0), (oX0 a0 p0 a1 a3 a4 a5 a6 i6 i7 i8 i9 i10 i11 i12 i13 i14 i15 i16 i17 i18 i19), (oX3 p0 pr pb pe pg p1 (nI nd) p2 p3 p4 p5 (nI cn) p6 (nI pq) p7 p8 p9 (nI sc)), (p9, .inl (cA 0, 10, .inl fen)), (p7, .inl (cA 0, 350, .inl fst)), (p8, .inl (cA 0, 350, .inl fop)), (a3, .inl (cA 0, 10, .inl fs))] sz) := by
  refine vx_ofW (cc := cX9_missingProofs) (maxL := 7) (ret := (some .int)) (by decide) rfl ?_
  intro p e s m args below meth c s₁ B hml hno hv
  obtain ⟨rfl, hsz, hP, hK, hD0, hC, hZ⟩ := hv
  have hx := B.exec
  have hb := B.bytes
  have hr := B.returns
  have hts := atoms_spec (ws := wsX9_missingProofs) B.pre
  have hown : s.vm.findClass RX9 = some m.cls := findClass_of_methodNamed B.named
  have hlocks := B.notSynchronized
  subst hsz
  have hD := hD0.self (sz := s.heap.size)
  generalize hAe : va_A [(oX9 h0 b0 (nI nb) p0 u0 r0 a0 t0 s0 o0), (oX0 a0 p0 a1 a3 a4 a5 a6 i6 i7 i8 i9 i10 i11 i12 i13 i14 i15 i16 i17 i18 i19), (oX3 p0 pr pb pe pg p1 (nI nd) p2 p3 p4 p5 (nI cn) p6 (nI pq) p7 p8 p9 (nI sc)), (p9, .inl (cA 0, 10, .inl fen)), (p7, .inl (cA 0, 350, .inl fst)), (p8, .inl (cA 0, 350, .inl fop)), (a3, .inl (cA 0, 10, .inl fs))] s.heap.size = A at hD hZ ⊢
  have hA : ∀ q : Nat, s.heap.size ≤ q → A q := fun q h => by rw [← hAe]; exact Or.inr h
  have hS : va_S A s.heap s.heap [] := va_S.rf
  have hP : va_P D vwCl [(oX9 h0 b0 (nI nb) p0 u0 r0 a0 t0 s0 o0), (oX0 a0 p0 a1 a3 a4 a5 a6 i6 i7 i8 i9 i10 i11 i12 i13 i14 i15 i16 i17 i18 i19), (oX3 p0 pr pb pe pg p1 (nI nd) p2 p3 p4 p5 (nI cn) p6 (nI pq) p7 p8 p9 (nI sc)), (p9, .inl (cA 0, 10, .inl fen)), (p7, .inl (cA 0, 350, .inl fst)), (p8, .inl (cA 0, 350, .inl fop)), (a3, .inl (cA 0, 10, .inl fs))] s.heap := hP
  have hl := lv_entry ([.ref h0, .int i]) (n := 7) (Nat.le_of_ble_eq_true rfl)
  rw [lg_entry_eq]
  generalize (lg_sl ([.ref h0, .int i]) ++ List.replicate (7 - (lg_sl ([.ref h0, .int i])).length) Slot.unset).toArray = ls at hl ⊢
  have hl : lv_has ls 7 [(0, .ref h0), (1, .int i)] := hl
  have inX0 : ∀ w ∈ u_ws RX0 TX0 20, w ∈ wsX9_missingProofs := by decide +kernel
  have inX3 : ∀ w ∈ u_ws RX3 TX3 17, w ∈ wsX9_missingProofs := by decide +kernel
  have inX9 : ∀ w ∈ u_ws RX9 TX9 9, w ∈ wsX9_missingProofs := by decide +kernel
  refine lv_aload_n hx hb dX9_missingProofs_0 rfl (lv_at hl 0 rfl) ?_
  refine lv_iload_n hx hb dX9_missingProofs_1 rfl (lv_at hl 1 rfl) ?_
  obtain ⟨hPc, hDc, hFc⟩ := PDq.cut (wc := [(oX9 h0 b0 (nI nb) p0 u0 r0 a0 t0 s0 o0), (oX3 p0 pr pb pe pg p1 (nI nd) p2 p3 p4 p5 (nI cn) p6 (nI pq) p7 p8 p9 (nI sc))]) hP hD hS hA [0, 2] (by decide) rfl
  refine vx_callv (vx_runV (As := [.int i]) (rest := []) ⟨hx, hb, hml, hown, hts⟩ (s_needMilestone l D cA sa h0 b0 nb p0 u0 r0 a0 t0 s0 o0 p1 p2 p3 p4 p5 p6 p7 p8 p9 cn pq nd sc pr pb pe pg i s.heap.size hl9 hcn hpq hnd hsc) (cwV 1 hts gX9_missingProofs_X9_needMilestone rfl rfl rfl (by decide +kernel) ⟨(Nat.le_of_ble_eq_true rfl), (Nat.le_of_ble_eq_true rfl)⟩) ⟨Wd.blind, va_recv hK hPc (ci := 10) (q0 := 0) rfl rfl, fun U hU hW => ⟨rfl, Wd.call hPc hDc hK hC hZ hS hFc U hU hW⟩⟩ rfl rfl hl.1 rfl (lv_room (Nat.le_of_ble_eq_true rfl)) dX9_missingProofs_2 ⟨(Nat.le_of_ble_eq_true rfl), (Nat.le_of_ble_eq_true rfl)⟩) hS (fun q _ h => hFc q h) hFc (fun q _ h => hFc q h) (fun E ce q9 u t H1 locs ht hvm hpx hE hz1 hk1 hS hcell hv9 hcl => ?_) (fun u t H1 locs ht hvm hw hB hz1 hk1 hS => ?_)
  · skip
    obtain ⟨hE, hP1, hD1⟩ := hE
    rw [ht] at hP1
    obtain ⟨hP, hD⟩ := PDq.join (w := [(oX0 a0 p0 a1 a3 a4 a5 a6 i6 i7 i8 i9 i10 i11 i12 i13 i14 i15 i16 i17 i18 i19), (p9, .inl (cA 0, 10, .inl fen)), (p7, .inl (cA 0, 350, .inl fst)), (p8, .inl (cA 0, 350, .inl fop)), (a3, .inl (cA 0, 10, .inl fs)), (oX9 h0 b0 (nI nb) p0 u0 r0 a0 t0 s0 o0), (oX3 p0 pr pb pe pg p1 (nI nd) p2 p3 p4 p5 (nI cn) p6 (nI pq) p7 p8 p9 (nI sc))]) 5 hP hD [0, 2] [1, 3, 4, 5, 6] rfl rfl (by decide) (by decide) hk1 hFc hP1 hD1 rfl
    generalize H1 = H at hP hS hcell ⊢
    obtain ⟨hP9, hD9⟩ := PDq.sub (ws' := [(oX9 h0 b0 (nI nb) p0 u0 r0 a0 t0 s0 o0), (oX0 a0 p0 a1 a3 a4 a5 a6 i6 i7 i8 i9 i10 i11 i12 i13 i14 i15 i16 i17 i18 i19), (oX3 p0 pr pb pe pg p1 (nI nd) p2 p3 p4 p5 (nI cn) p6 (nI pq) p7 p8 p9 (nI sc)), (p9, .inl (cA 0, 10, .inl fen)), (p7, .inl (cA 0, 350, .inl fst)), (p8, .inl (cA 0, 350, .inl fop)), (a3, .inl (cA 0, 10, .inl fs))]) hP hD [5, 0, 6, 1, 2, 3, 4] (by decide) rfl
    exact vx_out (fun x h => (hno x h).elim) hlocks hcell hv9 hcl (fun t ht hvm => ⟨(), trivial, ⟨hE, by rw [ht]; exact hP9, hD9⟩, hS.F ht⟩) hS.2.2 (Nat.le_of_ble_eq_true rfl) (Nat.le_of_ble_eq_true rfl)
  · skip
    obtain ⟨qn1, hn2, hn3, hP1, hD1⟩ := hB
    rw [ht] at hP1
    obtain ⟨hP, hD⟩ := PDq.join (w := [(oX0 a0 p0 a1 a3 a4 a5 a6 i6 i7 i8 i9 i10 i11 i12 i13 i14 i15 i16 i17 i18 i19), (p9, .inl (cA 0, 10, .inl fen)), (p7, .inl (cA 0, 350, .inl fst)), (p8, .inl (cA 0, 350, .inl fop)), (a3, .inl (cA 0, 10, .inl fs)), (oX9 h0 b0 (nI nb) p0 u0 r0 a0 t0 s0 o0), (oX3 p0 pr pb pe pg p1 (nI nd) p2 p3 p4 p5 (nI cn) p6 (nI pq) p7 p8 p9 (nI sc))]) 5 hP hD [0, 2] [1, 3, 4, 5, 6] rfl rfl (by decide) (by decide) hk1 hFc hP1 hD1 rfl
    generalize H1 = H at hP hS ⊢
    rw [hn3] at hl
    have hl : lv_has ls 7 [(0, .ref h0), (1, .int (nI qn1))] := hl
    refine lv_iconst (v := (-1)) hx hb dX9_missingProofs_5 (by decide) ?_
    refine lv_istore_n (lv' := [(2, .int (-1)), (0, .ref h0), (1, .int (nI qn1))]) hx hb dX9_missingProofs_6 rfl hl (by decide) rfl (fun ls hl => ?_)
    refine lv_bipush (v := 9) hx hb dX9_missingProofs_7 (by decide) ?_
    refine lv_istore_n (lv' := [(3, .int 9), (2, .int (-1)), (0, .ref h0), (1, .int (nI qn1))]) hx hb dX9_missingProofs_9 rfl hl (by decide) rfl (fun ls hl => ?_)
    refine lv_iconst (v := 1) hx hb dX9_missingProofs_10 (by decide) ?_
    refine lv_aload_n hx hb dX9_missingProofs_11 rfl (lv_at hl 2 rfl) ?_
    refine va_get (D := D) (ci := 10) (v := .ref p0) (C := RX9) (T := TX9) (N := 9) hx hb hts inX9 hown hK hP 5 rfl rfl 2 (by decide) (hts (.fieldLink RX9 16 "EscrowDesk" "plan" "LEscrowDesk$Plan;") (by decide +kernel)) (fun _ h9 => h9) rfl dX9_missingProofs_12 ?_
    refine va_getN (D := D) (ci := 7) (v := .int (nI pq)) (C := RX3) (T := TX3) (N := 17) hx hb hts inX3 hown hK hP 6 rfl rfl 12 (by decide) (hC.f (A := _) (a := RX9) (i := 147) (b := "EscrowDesk$Plan") (n := "proofCount") (d := "I") (x := "EscrowDesk") (by decide +kernel)) (fun _ h9 => h9) rfl dX9_missingProofs_15 ?_
    obtain ⟨kn4, hn5, hn6⟩ := sh1 (q := pq) (by omega)
    refine lv_ishl hx hb dX9_missingProofs_18 ?_
    refine lv_topi (fun yn7 eyn7 => ?_)
    obtain rfl : yn7 = (nI kn4) := eyn7.trans hn6
    refine lv_istore (lv' := [(4, .int (nI kn4)), (3, .int 9), (2, .int (-1)), (0, .ref h0), (1, .int (nI qn1))]) hx hb dX9_missingProofs_19 hl (by decide) rfl (fun ls hl => ?_)
    refine lv_iconst (v := 0) hx hb dX9_missingProofs_21 (by decide) ?_
    refine lv_istore (lv' := [(5, .int 0), (4, .int (nI kn4)), (3, .int 9), (2, .int (-1)), (0, .ref h0), (1, .int (nI qn1))]) hx hb dX9_missingProofs_22 hl (by decide) rfl (fun ls hl => ?_)
    have loop1 : ∀ (n1 i1 : Nat) (x3_1 : Int32) (x2_1 : Int32) (H : Heap) (locs : List Loc) (ls : Array Slot), i1 + n1 = kn4 → va_P D vwCl [(oX0 a0 p0 a1 a3 a4 a5 a6 i6 i7 i8 i9 i10 i11 i12 i13 i14 i15 i16 i17 i18 i19), (p9, .inl (cA 0, 10, .inl fen)), (p7, .inl (cA 0, 350, .inl fst)), (p8, .inl (cA 0, 350, .inl fop)), (a3, .inl (cA 0, 10, .inl fs)), (oX9 h0 b0 (nI nb) p0 u0 r0 a0 t0 s0 o0), (oX3 p0 pr pb pe pg p1 (nI nd) p2 p3 p4 p5 (nI cn) p6 (nI pq) p7 p8 p9 (nI sc))] H → va_D A [(oX0 a0 p0 a1 a3 a4 a5 a6 i6 i7 i8 i9 i10 i11 i12 i13 i14 i15 i16 i17 i18 i19), (p9, .inl (cA 0, 10, .inl fen)), (p7, .inl (cA 0, 350, .inl fst)), (p8, .inl (cA 0, 350, .inl fop)), (a3, .inl (cA 0, 10, .inl fs)), (oX9 h0 b0 (nI nb) p0 u0 r0 a0 t0 s0 o0), (oX3 p0 pr pb pe pg p1 (nI nd) p2 p3 p4 p5 (nI cn) p6 (nI pq) p7 p8 p9 (nI sc))] → va_S A s.heap H locs → lv_has ls 7 [(5, .int (nI i1)), (4, .int (nI kn4)), (3, .int x3_1), (2, .int x2_1), (0, .ref h0), (1, .int (nI qn1))] → W p l e (headSpec wsX9_missingProofs ({ frames := 8, cells := 1, slots := 6, locals := 132 } : Room)).room s m ([.ref h0, .int i] : List Value).toArray below meth c H locs 1 6 (vx_MQ below (va_Qi (fun (r : Int32) (_ : Unit) => True) (fun (_ : Unit) t => Wq D A [(oX9 h0 b0 (nI nb) p0 u0 r0 a0 t0 s0 o0), (oX0 a0 p0 a1 a3 a4 a5 a6 i6 i7 i8 i9 i10 i11 i12 i13 i14 i15 i16 i17 i18 i19), (oX3 p0 pr pb pe pg p1 (nI nd) p2 p3 p4 p5 (nI cn) p6 (nI pq) p7 p8 p9 (nI sc)), (p9, .inl (cA 0, 10, .inl fen)), (p7, .inl (cA 0, 350, .inl fst)), (p8, .inl (cA 0, 350, .inl fop)), (a3, .inl (cA 0, 10, .inl fs))] t) A) (vx_X (fun _ : Unit => True) (fun E _ t => (E = "java/lang/IndexOutOfBoundsException") ∧ Wq D A [(oX9 h0 b0 (nI nb) p0 u0 r0 a0 t0 s0 o0), (oX0 a0 p0 a1 a3 a4 a5 a6 i6 i7 i8 i9 i10 i11 i12 i13 i14 i15 i16 i17 i18 i19), (oX3 p0 pr pb pe pg p1 (nI nd) p2 p3 p4 p5 (nI cn) p6 (nI pq) p7 p8 p9 (nI sc)), (p9, .inl (cA 0, 10, .inl fen)), (p7, .inl (cA 0, 350, .inl fst)), (p8, .inl (cA 0, 350, .inl fop)), (a3, .inl (cA 0, 10, .inl fs))] t) A) ([.ref h0, .int i] : List Value).toArray s 1 6 A) (F0 m 24 ls []) := by
      intro n1
      induction n1 with
      | zero =>
        intro i1 x3_1 x2_1 H locs ls hi1 hP hD hS hl
        obtain rfl : kn4 = i1 := by omega
        refine lv_iload hx hb dX9_missingProofs_24 (lv_at hl 0 rfl) ?_
        refine lv_iload hx hb dX9_missingProofs_26 (lv_at hl 1 rfl) ?_
        refine lv_icmp_ge (tgt := 93) hx hb dX9_missingProofs_28 (by decide) (fun c8 => ?_) (fun c9 => absurd (nI_le (a := kn4) (b := kn4) (show kn4 ≤ kn4 by omega) (by omega)) c9)
        refine lv_iload_n hx hb dX9_missingProofs_93 rfl (lv_at hl 3 rfl) ?_
        obtain ⟨hP9, hD9⟩ := PDq.sub (ws' := [(oX9 h0 b0 (nI nb) p0 u0 r0 a0 t0 s0 o0), (oX0 a0 p0 a1 a3 a4 a5 a6 i6 i7 i8 i9 i10 i11 i12 i13 i14 i15 i16 i17 i18 i19), (oX3 p0 pr pb pe pg p1 (nI nd) p2 p3 p4 p5 (nI cn) p6 (nI pq) p7 p8 p9 (nI sc)), (p9, .inl (cA 0, 10, .inl fen)), (p7, .inl (cA 0, 350, .inl fst)), (p8, .inl (cA 0, 350, .inl fop)), (a3, .inl (cA 0, 10, .inl fs))]) hP hD [5, 0, 6, 1, 2, 3, 4] (by decide) rfl
        refine W.widen (k := 1) (n := 6) (Nat.le_of_ble_eq_true rfl) (Nat.le_of_ble_eq_true rfl) ?_
        exact vx_ret (W.iret (v := x2_1) hx hb hr (fun t ht hW => ⟨⟨x2_1, (), rfl, trivial, by rw [ht]; exact hP9, hD9⟩, hS.F ht⟩) hS.2.2 dX9_missingProofs_94)
      | succ n1 ih1 =>
        intro i1 x3_1 x2_1 H locs ls hi1 hP hD hS hl
        refine lv_iload hx hb dX9_missingProofs_24 (lv_at hl 0 rfl) ?_
        refine lv_iload hx hb dX9_missingProofs_26 (lv_at hl 1 rfl) ?_
        refine lv_icmp_ge (tgt := 93) hx hb dX9_missingProofs_28 (by decide) (fun c9 => absurd c9 (nI_ge (a := i1) (b := kn4) (show i1 < kn4 by omega) (by omega))) (fun c9 => ?_)
        refine lv_iload hx hb dX9_missingProofs_31 (lv_at hl 0 rfl) ?_
        refine lv_aload_n hx hb dX9_missingProofs_33 rfl (lv_at hl 4 rfl) ?_
        refine va_get (D := D) (ci := 10) (v := .ref a0) (C := RX9) (T := TX9) (N := 9) hx hb hts inX9 hown hK hP 5 rfl rfl 5 (by decide) (hts (.fieldLink RX9 35 "EscrowDesk" "account" "LEscrowDesk$Account;") (by decide +kernel)) (fun _ h9 => h9) rfl dX9_missingProofs_34 ?_
        refine va_getN (D := D) (ci := 4) (v := .int i18) (C := RX0) (T := TX0) (N := 20) hx hb hts inX0 hown hK hP 0 rfl rfl 18 (by decide) (hC.f (A := _) (a := RX9) (i := 150) (b := "EscrowDesk$Account") (n := "submittedSet") (d := "I") (x := "EscrowDesk") (by decide +kernel)) (fun _ h9 => h9) rfl dX9_missingProofs_37 ?_
        refine lv_iand hx hb dX9_missingProofs_40 ?_
        refine lv_topi (fun yn10 eyn10 => ?_)
        refine lv_if_ne (tgt := 48) hx hb dX9_missingProofs_41 (by decide) (fun c11 => ?_) (fun c11 => ?_)
        · skip
          refine lv_iconst (v := 0) hx hb dX9_missingProofs_48 (by decide) ?_
          refine lv_istore (lv' := [(6, .int 0), (5, .int (nI i1)), (4, .int (nI kn4)), (3, .int x3_1), (2, .int x2_1), (0, .ref h0), (1, .int (nI qn1))]) hx hb dX9_missingProofs_49 hl (by decide) rfl (fun ls hl => ?_)
          refine lv_iload hx hb dX9_missingProofs_51 (lv_at hl 0 rfl) ?_
          refine lv_if_eq (tgt := 87) hx hb dX9_missingProofs_53 (by decide) (fun c12 => ?_) (fun c9 => absurd c9 (by decide))
          refine lv_iinc (v := (nI (i1 + 1))) (lv' := [(5, .int (nI (i1 + 1))), (6, .int 0), (4, .int (nI kn4)), (3, .int x3_1), (2, .int x2_1), (0, .ref h0), (1, .int (nI qn1))]) hx hb dX9_missingProofs_87 hl (k := 1) rfl (nI_1 _) (by decide) rfl (fun ls hl => ?_)
          refine lv_goto (tgt := 24) hx hb dX9_missingProofs_90 (by decide) ?_
          obtain ⟨hP9, hD9⟩ := PDq.sub (ws' := [(oX0 a0 p0 a1 a3 a4 a5 a6 i6 i7 i8 i9 i10 i11 i12 i13 i14 i15 i16 i17 i18 i19), (p9, .inl (cA 0, 10, .inl fen)), (p7, .inl (cA 0, 350, .inl fst)), (p8, .inl (cA 0, 350, .inl fop)), (a3, .inl (cA 0, 10, .inl fs)), (oX9 h0 b0 (nI nb) p0 u0 r0 a0 t0 s0 o0), (oX3 p0 pr pb pe pg p1 (nI nd) p2 p3 p4 p5 (nI cn) p6 (nI pq) p7 p8 p9 (nI sc))]) hP hD [0, 1, 2, 3, 4, 5, 6] (by decide) rfl
          exact ih1 (i1 + 1) x3_1 x2_1 H _ ls (by omega) hP9 hD9 hS (lv_sub hl [0, 2, 3, 4, 5, 6] rfl)
        · skip
          refine lv_iconst (v := 1) hx hb dX9_missingProofs_44 (by decide) ?_
          refine lv_goto (tgt := 49) hx hb dX9_missingProofs_45 (by decide) ?_
          refine lv_istore (lv' := [(6, .int 1), (5, .int (nI i1)), (4, .int (nI kn4)), (3, .int x3_1), (2, .int x2_1), (0, .ref h0), (1, .int (nI qn1))]) hx hb dX9_missingProofs_49 hl (by decide) rfl (fun ls hl => ?_)
          refine lv_iload hx hb dX9_missingProofs_51 (lv_at hl 0 rfl) ?_
          refine lv_if_eq (tgt := 87) hx hb dX9_missingProofs_53 (by decide) (fun c9 => absurd c9 (by decide)) (fun c13 => ?_)
          refine lv_iload hx hb dX9_missingProofs_56 (lv_at hl 1 rfl) ?_
          obtain ⟨hPc, hDc, hFc⟩ := PDq.cut (wc := []) hP hD hS hA [] (by decide) rfl
          refine va_calli (va_runS (As := [.int (nI i1)]) (rest := []) ⟨hx, hb, hml, hown, hts⟩ (s_bitCount l D cA sa (nI i1) H.size) (va_cwS 1 hts gX9_missingProofs_J6_bitCount_0f7a4 rfl rfl rfl (by decide +kernel) ⟨(Nat.le_of_ble_eq_true rfl), (Nat.le_of_ble_eq_true rfl)⟩) ⟨Wd.blind, fun U hU hW => ⟨rfl, Wd.call hPc hDc hK hC hZ hS hFc U hU hW⟩⟩ rfl rfl hl.1 rfl (lv_room (Nat.le_of_ble_eq_true rfl)) dX9_missingProofs_58 ⟨(Nat.le_of_ble_eq_true rfl), (Nat.le_of_ble_eq_true rfl)⟩) hS (fun q _ h => hFc q h) hFc (fun rn14 u t H1 locs ht hvm hw hB hz1 hk1 hS => ?_)
          obtain ⟨hP1, hD1⟩ := hB
          rw [ht] at hP1
          obtain ⟨hP, hD⟩ := PDq.join (w := [(oX0 a0 p0 a1 a3 a4 a5 a6 i6 i7 i8 i9 i10 i11 i12 i13 i14 i15 i16 i17 i18 i19), (p9, .inl (cA 0, 10, .inl fen)), (p7, .inl (cA 0, 350, .inl fst)), (p8, .inl (cA 0, 350, .inl fop)), (a3, .inl (cA 0, 10, .inl fs)), (oX9 h0 b0 (nI nb) p0 u0 r0 a0 t0 s0 o0), (oX3 p0 pr pb pe pg p1 (nI nd) p2 p3 p4 p5 (nI cn) p6 (nI pq) p7 p8 p9 (nI sc))]) 7 hP hD [] [0, 1, 2, 3, 4, 5, 6] rfl rfl (by decide) (by decide) hk1 hFc hP1 hD1 rfl
          generalize H1 = H at hP hS ⊢
          refine lv_iload_n hx hb dX9_missingProofs_61 rfl (lv_at hl 3 rfl) ?_
          refine lv_icmp_ge (tgt := 87) hx hb dX9_missingProofs_62 (by decide) (fun c15 => ?_) (fun c15 => ?_)
          · skip
            refine lv_iinc (v := (nI (i1 + 1))) (lv' := [(5, .int (nI (i1 + 1))), (6, .int 1), (4, .int (nI kn4)), (3, .int x3_1), (2, .int x2_1), (0, .ref h0), (1, .int (nI qn1))]) hx hb dX9_missingProofs_87 hl (k := 1) rfl (nI_1 _) (by decide) rfl (fun ls hl => ?_)
            refine lv_goto (tgt := 24) hx hb dX9_missingProofs_90 (by decide) ?_
            obtain ⟨hP9, hD9⟩ := PDq.sub (ws' := [(oX0 a0 p0 a1 a3 a4 a5 a6 i6 i7 i8 i9 i10 i11 i12 i13 i14 i15 i16 i17 i18 i19), (p9, .inl (cA 0, 10, .inl fen)), (p7, .inl (cA 0, 350, .inl fst)), (p8, .inl (cA 0, 350, .inl fop)), (a3, .inl (cA 0, 10, .inl fs)), (oX9 h0 b0 (nI nb) p0 u0 r0 a0 t0 s0 o0), (oX3 p0 pr pb pe pg p1 (nI nd) p2 p3 p4 p5 (nI cn) p6 (nI pq) p7 p8 p9 (nI sc))]) hP hD [0, 1, 2, 3, 4, 5, 6] (by decide) rfl
            exact ih1 (i1 + 1) x3_1 x2_1 H _ ls (by omega) hP9 hD9 hS (lv_sub hl [0, 2, 3, 4, 5, 6] rfl)
          · skip
            refine lv_aload_n hx hb dX9_missingProofs_65 rfl (lv_at hl 5 rfl) ?_
            refine va_get (D := D) (ci := 10) (v := .ref a0) (C := RX9) (T := TX9) (N := 9) hx hb hts inX9 hown hK hP 5 rfl rfl 5 (by decide) (hts (.fieldLink RX9 35 "EscrowDesk" "account" "LEscrowDesk$Account;") (by decide +kernel)) (fun _ h9 => h9) rfl dX9_missingProofs_66 ?_
            refine lv_iload_n hx hb dX9_missingProofs_69 rfl (lv_at hl 6 rfl) ?_
            refine lv_iload hx hb dX9_missingProofs_70 (lv_at hl 1 rfl) ?_
            obtain ⟨hPc, hDc, hFc⟩ := PDq.cut (wc := [(oX0 a0 p0 a1 a3 a4 a5 a6 i6 i7 i8 i9 i10 i11 i12 i13 i14 i15 i16 i17 i18 i19), (oX3 p0 pr pb pe pg p1 (nI nd) p2 p3 p4 p5 (nI cn) p6 (nI pq) p7 p8 p9 (nI sc)), (p9, .inl (cA 0, 10, .inl fen)), (p7, .inl (cA 0, 350, .inl fst)), (p8, .inl (cA 0, 350, .inl fop)), (a3, .inl (cA 0, 10, .inl fs))]) hP hD hS hA [0, 6, 1, 2, 3, 4] (by decide) rfl
            refine va_calli (va_runV (As := [.int (nI qn1), .int (nI i1)]) (rest := []) ⟨hx, hb, hml, hown, hts⟩ (s_holdsWithProofs l D cA sa a0 a1 a3 a4 a5 a6 p0 i6 i7 i8 i12 i13 i14 i15 i16 i17 i18 i19 i9 i10 i11 p1 p2 p3 p4 p5 p6 p7 p8 p9 cn pq nd sc pr pb pe pg qn1 fen fst fop (nI i1) fs H.size hcn hpq hnd hsc hen (by omega)) (cwV 2 hts gX9_missingProofs_X0_holdsWithProofs rfl rfl rfl (by decide +kernel) ⟨(Nat.le_of_ble_eq_true rfl), (Nat.le_of_ble_eq_true rfl)⟩) ⟨Wd.blind, va_recv hK hPc (ci := 4) (q0 := 0) rfl rfl, fun U hU hW => ⟨rfl, Wd.call hPc hDc hK hC hZ hS hFc U hU hW⟩⟩ rfl rfl hl.1 rfl (lv_room (Nat.le_of_ble_eq_true rfl)) dX9_missingProofs_72 ⟨(Nat.le_of_ble_eq_true rfl), (Nat.le_of_ble_eq_true rfl)⟩) hS (fun q _ h => hFc q h) hFc (fun rn16 u t H1 locs ht hvm hw hB hz1 hk1 hS => ?_)
            obtain ⟨hP1, hD1⟩ := hB
            rw [ht] at hP1
            obtain ⟨hP, hD⟩ := PDq.join (w := [(oX9 h0 b0 (nI nb) p0 u0 r0 a0 t0 s0 o0), (oX0 a0 p0 a1 a3 a4 a5 a6 i6 i7 i8 i9 i10 i11 i12 i13 i14 i15 i16 i17 i18 i19), (oX3 p0 pr pb pe pg p1 (nI nd) p2 p3 p4 p5 (nI cn) p6 (nI pq) p7 p8 p9 (nI sc)), (p9, .inl (cA 0, 10, .inl fen)), (p7, .inl (cA 0, 350, .inl fst)), (p8, .inl (cA 0, 350, .inl fop)), (a3, .inl (cA 0, 10, .inl fs))]) 1 hP hD [0, 6, 1, 2, 3, 4] [5] rfl rfl (by decide) (by decide) hk1 hFc hP1 hD1 rfl
            generalize H1 = H at hP hS ⊢
            have hn17 := hw
            refine lv_if_eq (tgt := 87) hx hb dX9_missingProofs_75 (by decide) (fun c18 => ?_) (fun c18 => ?_)
            · skip
              refine lv_iinc (v := (nI (i1 + 1))) (lv' := [(5, .int (nI (i1 + 1))), (6, .int 1), (4, .int (nI kn4)), (3, .int x3_1), (2, .int x2_1), (0, .ref h0), (1, .int (nI qn1))]) hx hb dX9_missingProofs_87 hl (k := 1) rfl (nI_1 _) (by decide) rfl (fun ls hl => ?_)
              refine lv_goto (tgt := 24) hx hb dX9_missingProofs_90 (by decide) ?_
              obtain ⟨hP9, hD9⟩ := PDq.sub (ws' := [(oX0 a0 p0 a1 a3 a4 a5 a6 i6 i7 i8 i9 i10 i11 i12 i13 i14 i15 i16 i17 i18 i19), (p9, .inl (cA 0, 10, .inl fen)), (p7, .inl (cA 0, 350, .inl fst)), (p8, .inl (cA 0, 350, .inl fop)), (a3, .inl (cA 0, 10, .inl fs)), (oX9 h0 b0 (nI nb) p0 u0 r0 a0 t0 s0 o0), (oX3 p0 pr pb pe pg p1 (nI nd) p2 p3 p4 p5 (nI cn) p6 (nI pq) p7 p8 p9 (nI sc))]) hP hD [1, 3, 4, 5, 6, 0, 2] (by decide) rfl
              exact ih1 (i1 + 1) x3_1 x2_1 H _ ls (by omega) hP9 hD9 hS (lv_sub hl [0, 2, 3, 4, 5, 6] rfl)
            · skip
              refine lv_iload hx hb dX9_missingProofs_78 (lv_at hl 1 rfl) ?_
              refine lv_istore_n (lv' := [(2, .int (nI i1)), (6, .int 1), (5, .int (nI i1)), (4, .int (nI kn4)), (3, .int x3_1), (0, .ref h0), (1, .int (nI qn1))]) hx hb dX9_missingProofs_80 rfl hl (by decide) rfl (fun ls hl => ?_)
              refine lv_iload hx hb dX9_missingProofs_81 (lv_at hl 2 rfl) ?_
              obtain ⟨hPc, hDc, hFc⟩ := PDq.cut (wc := []) hP hD hS hA [] (by decide) rfl
              refine va_calli (va_runS (As := [.int (nI i1)]) (rest := []) ⟨hx, hb, hml, hown, hts⟩ (s_bitCount l D cA sa (nI i1) H.size) (va_cwS 1 hts gX9_missingProofs_J6_bitCount_0f7a4 rfl rfl rfl (by decide +kernel) ⟨(Nat.le_of_ble_eq_true rfl), (Nat.le_of_ble_eq_true rfl)⟩) ⟨Wd.blind, fun U hU hW => ⟨rfl, Wd.call hPc hDc hK hC hZ hS hFc U hU hW⟩⟩ rfl rfl hl.1 rfl (lv_room (Nat.le_of_ble_eq_true rfl)) dX9_missingProofs_83 ⟨(Nat.le_of_ble_eq_true rfl), (Nat.le_of_ble_eq_true rfl)⟩) hS (fun q _ h => hFc q h) hFc (fun rn19 u t H1 locs ht hvm hw hB hz1 hk1 hS => ?_)
              obtain ⟨hP1, hD1⟩ := hB
              rw [ht] at hP1
              obtain ⟨hP, hD⟩ := PDq.join (w := [(oX9 h0 b0 (nI nb) p0 u0 r0 a0 t0 s0 o0), (oX0 a0 p0 a1 a3 a4 a5 a6 i6 i7 i8 i9 i10 i11 i12 i13 i14 i15 i16 i17 i18 i19), (oX3 p0 pr pb pe pg p1 (nI nd) p2 p3 p4 p5 (nI cn) p6 (nI pq) p7 p8 p9 (nI sc)), (p9, .inl (cA 0, 10, .inl fen)), (p7, .inl (cA 0, 350, .inl fst)), (p8, .inl (cA 0, 350, .inl fop)), (a3, .inl (cA 0, 10, .inl fs))]) 7 hP hD [] [0, 1, 2, 3, 4, 5, 6] rfl rfl (by decide) (by decide) hk1 hFc hP1 hD1 rfl
              generalize H1 = H at hP hS ⊢
              refine lv_istore_n (lv' := [(3, .int rn19), (2, .int (nI i1)), (6, .int 1), (5, .int (nI i1)), (4, .int (nI kn4)), (0, .ref h0), (1, .int (nI qn1))]) hx hb dX9_missingProofs_86 rfl hl (by decide) rfl (fun ls hl => ?_)
              refine lv_iinc (v := (nI (i1 + 1))) (lv' := [(5, .int (nI (i1 + 1))), (3, .int rn19), (2, .int (nI i1)), (6, .int 1), (4, .int (nI kn4)), (0, .ref h0), (1, .int (nI qn1))]) hx hb dX9_missingProofs_87 hl (k := 3) rfl (nI_1 _) (by decide) rfl (fun ls hl => ?_)
              refine lv_goto (tgt := 24) hx hb dX9_missingProofs_90 (by decide) ?_
              obtain ⟨hP9, hD9⟩ := PDq.sub (ws' := [(oX0 a0 p0 a1 a3 a4 a5 a6 i6 i7 i8 i9 i10 i11 i12 i13 i14 i15 i16 i17 i18 i19), (p9, .inl (cA 0, 10, .inl fen)), (p7, .inl (cA 0, 350, .inl fst)), (p8, .inl (cA 0, 350, .inl fop)), (a3, .inl (cA 0, 10, .inl fs)), (oX9 h0 b0 (nI nb) p0 u0 r0 a0 t0 s0 o0), (oX3 p0 pr pb pe pg p1 (nI nd) p2 p3 p4 p5 (nI cn) p6 (nI pq) p7 p8 p9 (nI sc))]) hP hD [1, 3, 4, 5, 6, 0, 2] (by decide) rfl
              exact ih1 (i1 + 1) rn19 (nI i1) H _ ls (by omega) hP9 hD9 hS (lv_sub hl [0, 4, 1, 2, 5, 6] rfl)
    obtain ⟨hP9, hD9⟩ := PDq.sub (ws' := [(oX0 a0 p0 a1 a3 a4 a5 a6 i6 i7 i8 i9 i10 i11 i12 i13 i14 i15 i16 i17 i18 i19), (p9, .inl (cA 0, 10, .inl fen)), (p7, .inl (cA 0, 350, .inl fst)), (p8, .inl (cA 0, 350, .inl fop)), (a3, .inl (cA 0, 10, .inl fs)), (oX9 h0 b0 (nI nb) p0 u0 r0 a0 t0 s0 o0), (oX3 p0 pr pb pe pg p1 (nI nd) p2 p3 p4 p5 (nI cn) p6 (nI pq) p7 p8 p9 (nI sc))]) hP hD [0, 1, 2, 3, 4, 5, 6] (by decide) rfl
    exact loop1 (kn4 - 0) 0 9 (-1) _ _ ls (by omega) hP9 hD9 hS (lv_sub hl [0, 1, 2, 3, 4, 5] rfl)

set_option maxHeartbeats 4000000 in
set_option maxRecDepth 100000 in
/-- progress -/
theorem s_progress (l : Launch) (D : va_G) (cA : Nat → ClassId) (sa : Nat → Nat) (h0 : Nat) (b0 : Nat) (nb : Nat) (p0 : Nat) (u0 : Nat) (r0 : Nat) (a0 : Nat) (t0 : Nat) (s0 : Nat) (o0 : Nat) (a1 : Nat) (a3 : Nat) (a4 : Nat) (a5 : Nat) (a6 : Nat) (i6 : Int32) (i7 : Int32) (i8 : Int32) (i12 : Int32) (i13 : Int32) (i14 : Int32) (i15 : Int32) (i16 : Int32) (i17 : Int32) (i18 : Int32) (i19 : Int32) (i9 : Int64) (i10 : Int64) (i11 : Int64) (p1 : Nat) (p2 : Nat) (p3 : Nat) (p4 : Nat) (p5 : Nat) (p6 : Nat) (p7 : Nat) (p8 : Nat) (p9 : Nat) (cn : Nat) (pq : Nat) (nd : Nat) (sc : Nat) (pr : Int32) (pb : Int32) (pe : Int32) (pg : Int32) (fp : Nat → Int32) (fam : Nat → Int32) (sz : Nat) (hcn : cn ≤ 10) (hpq : pq ≤ 8) (hnd : nd ≤ 6) (hsc : sc ≤ 350) : Met l yX9_progress wsX9_progress ({ frames := 0, cells := 0, slots := 0, locals := 0 }) (va_Pc [.ref h0] (Wd D cA sa [(oX9 h0 b0 (nI nb) p0 u0 r0 a0 t0 s0 o0), (oX0 a0 p0 a1 a3 a4 a5 a6 i6 i7 i8 i9 i10 i11 i12 i13 i14 i15 i16 i17 i18 i19), (oX3 p0 pr pb pe pg p1 (nI nd) p2 p3 p4 p5 (nI cn) p6 (nI pq) p7 p8 p9 (nI sc)), (a4, .inl (cA 0, 10, .inl fp)), (p3, .inl (cA 0, 10, .inl fam))] sz)) (va_Qi (fun (r : Int32) (_ : Unit) => True) (fun (_ : Unit) t => Wq D (va_A [(oX9 h0 b0 (nI nb) p0 u0 r0 a0 t0 s0 o0), (oX0 a0 p0 a1 a3 a4 a5 a6 i6 i7 i8 i9 i10 i11 i12 i13 i14 i15 i16 i17 i18 i19), (oX3 p0 pr pb pe pg p1 (nI nd) p2 p3 p4 p5 (nI cn) p6 (nI pq) p7 p8 p9 (nI sc)), (a4, .inl (cA 0, 10, .inl fp)), (p3, .inl (cA 0, 10, .inl fam))] sz) [(oX9 h0 b0 (nI nb) p0 u0 r0 a0 t0 s0 o0), (oX0 a0 p0 a1 a3 a4 a5 a6 i6 i7 i8 i9 i10 i11 i12 i13 i14 i15 i16 i17 i18 i19), (oX3 p0 pr pb pe pg p1 (nI nd) p2 p3 p4 p5 (nI cn) p6 (nI pq) p7 p8 p9 (nI sc)), (a4, .inl (cA 0, 10, .inl fp)), (p3, .inl (cA 0, 10, .inl fam))] t) (va_A [(oX9 h0 b0 (nI nb) p0 u0 r0 a0 t0 s0 o0), (oX0 a0 p0 a1 a3 a4 a5 a6 i6 i7 i8 i9 i10 i11 i12 i13 i14 i15 i16 i17 i18 i19), (oX3 p0 pr pb pe pg p1 (nI nd) p2 p3 p4 p5 (nI cn) p6 (nI pq) p7 p8 p9 (nI sc)), (a4, .inl (cA 0, 10, .inl fp)), (p3, .inl (cA 0, 10, .inl fam))] sz)) 0 0 (va_A [(oX9 h0 b0 (nI nb) p0 u0 r0 a0 t0 s0 o0), (oX0 a0 p0 a1 a3 a4 a5 a6 i6 i7 i8 i9 i10 i11 i12 i13 i14 i15 i16 i17 i18 i19), (oX3 p0 pr pb pe pg p1 (nI nd) p2 p3 p4 p5 (nI cn) p6 (nI pq) p7 p8 p9 (nI sc)), (a4, .inl (cA 0, 10, .inl fp)), (p3, .inl (cA 0, 10, .inl fam))] sz) := by
  refine Met.ofW (cc := cX9_progress) (maxL := 6) (ret := (some .int)) (by decide) rfl ?_
  intro p e s m args below meth c s₁ B hml hv
  obtain ⟨rfl, hsz, hP, hK, hD0, hC, hZ⟩ := hv
  have hx := B.exec
  have hb := B.bytes
  have hr := B.returns
  have hts := atoms_spec (ws := wsX9_progress) B.pre
  have hown : s.vm.findClass RX9 = some m.cls := findClass_of_methodNamed B.named
  have hlocks := B.notSynchronized
  subst hsz
  have hD := hD0.self (sz := s.heap.size)
  generalize hAe : va_A [(oX9 h0 b0 (nI nb) p0 u0 r0 a0 t0 s0 o0), (oX0 a0 p0 a1 a3 a4 a5 a6 i6 i7 i8 i9 i10 i11 i12 i13 i14 i15 i16 i17 i18 i19), (oX3 p0 pr pb pe pg p1 (nI nd) p2 p3 p4 p5 (nI cn) p6 (nI pq) p7 p8 p9 (nI sc)), (a4, .inl (cA 0, 10, .inl fp)), (p3, .inl (cA 0, 10, .inl fam))] s.heap.size = A at hD hZ ⊢
  have hA : ∀ q : Nat, s.heap.size ≤ q → A q := fun q h => by rw [← hAe]; exact Or.inr h
  have hS : va_S A s.heap s.heap [] := va_S.rf
  have hP : va_P D vwCl [(oX9 h0 b0 (nI nb) p0 u0 r0 a0 t0 s0 o0), (oX0 a0 p0 a1 a3 a4 a5 a6 i6 i7 i8 i9 i10 i11 i12 i13 i14 i15 i16 i17 i18 i19), (oX3 p0 pr pb pe pg p1 (nI nd) p2 p3 p4 p5 (nI cn) p6 (nI pq) p7 p8 p9 (nI sc)), (a4, .inl (cA 0, 10, .inl fp)), (p3, .inl (cA 0, 10, .inl fam))] s.heap := hP
  have hl := lv_entry ([.ref h0]) (n := 6) (Nat.le_of_ble_eq_true rfl)
  rw [lg_entry_eq]
  generalize (lg_sl ([.ref h0]) ++ List.replicate (6 - (lg_sl ([.ref h0])).length) Slot.unset).toArray = ls at hl ⊢
  have hl : lv_has ls 6 [(0, .ref h0)] := hl
  have inX0 : ∀ w ∈ u_ws RX0 TX0 20, w ∈ wsX9_progress := by decide +kernel
  have inX3 : ∀ w ∈ u_ws RX3 TX3 17, w ∈ wsX9_progress := by decide +kernel
  have inX9 : ∀ w ∈ u_ws RX9 TX9 9, w ∈ wsX9_progress := by decide +kernel
  refine lv_lconst (v := 0) hx hb dX9_progress_0 (by decide) ?_
  refine lv_lstore_n (lv' := [(1, .long 0), (0, .ref h0)]) hx hb dX9_progress_1 rfl hl (by decide) rfl (fun ls hl => ?_)
  refine lv_lconst (v := 0) hx hb dX9_progress_2 (by decide) ?_
  refine lv_lstore_n (lv' := [(3, .long 0), (1, .long 0), (0, .ref h0)]) hx hb dX9_progress_3 rfl hl (by decide) rfl (fun ls hl => ?_)
  refine lv_iconst (v := 0) hx hb dX9_progress_4 (by decide) ?_
  refine lv_istore (lv' := [(5, .int 0), (3, .long 0), (1, .long 0), (0, .ref h0)]) hx hb dX9_progress_5 hl (by decide) rfl (fun ls hl => ?_)
  have loop1 : ∀ (n1 i1 : Nat) (x3_1 : Int64) (x1_1 : Int64) (H : Heap) (locs : List Loc) (ls : Array Slot), i1 + n1 = cn → va_P D vwCl [(oX9 h0 b0 (nI nb) p0 u0 r0 a0 t0 s0 o0), (oX0 a0 p0 a1 a3 a4 a5 a6 i6 i7 i8 i9 i10 i11 i12 i13 i14 i15 i16 i17 i18 i19), (oX3 p0 pr pb pe pg p1 (nI nd) p2 p3 p4 p5 (nI cn) p6 (nI pq) p7 p8 p9 (nI sc)), (a4, .inl (cA 0, 10, .inl fp)), (p3, .inl (cA 0, 10, .inl fam))] H → va_D A [(oX9 h0 b0 (nI nb) p0 u0 r0 a0 t0 s0 o0), (oX0 a0 p0 a1 a3 a4 a5 a6 i6 i7 i8 i9 i10 i11 i12 i13 i14 i15 i16 i17 i18 i19), (oX3 p0 pr pb pe pg p1 (nI nd) p2 p3 p4 p5 (nI cn) p6 (nI pq) p7 p8 p9 (nI sc)), (a4, .inl (cA 0, 10, .inl fp)), (p3, .inl (cA 0, 10, .inl fam))] → va_S A s.heap H locs → lv_has ls 6 [(5, .int (nI i1)), (3, .long x3_1), (1, .long x1_1), (0, .ref h0)] → W p l e (headSpec wsX9_progress ({ frames := 0, cells := 0, slots := 0, locals := 0 } : Room)).room s m ([.ref h0] : List Value).toArray below meth c H locs 0 0 (MQ below (va_Qi (fun (r : Int32) (_ : Unit) => True) (fun (_ : Unit) t => Wq D A [(oX9 h0 b0 (nI nb) p0 u0 r0 a0 t0 s0 o0), (oX0 a0 p0 a1 a3 a4 a5 a6 i6 i7 i8 i9 i10 i11 i12 i13 i14 i15 i16 i17 i18 i19), (oX3 p0 pr pb pe pg p1 (nI nd) p2 p3 p4 p5 (nI cn) p6 (nI pq) p7 p8 p9 (nI sc)), (a4, .inl (cA 0, 10, .inl fp)), (p3, .inl (cA 0, 10, .inl fam))] t) A) ([.ref h0] : List Value).toArray s 0 0 A) (F0 m 7 ls []) := by
    intro n1
    induction n1 with
    | zero =>
      intro i1 x3_1 x1_1 H locs ls hi1 hP hD hS hl
      obtain rfl : cn = i1 := by omega
      refine lv_iload hx hb dX9_progress_7 (lv_at hl 0 rfl) ?_
      refine lv_aload_n hx hb dX9_progress_9 rfl (lv_at hl 3 rfl) ?_
      refine va_get (D := D) (ci := 10) (v := .ref p0) (C := RX9) (T := TX9) (N := 9) hx hb hts inX9 hown hK hP 0 rfl rfl 2 (by decide) (hts (.fieldLink RX9 16 "EscrowDesk" "plan" "LEscrowDesk$Plan;") (by decide +kernel)) (fun _ h9 => h9) rfl dX9_progress_10 ?_
      refine va_getN (D := D) (ci := 7) (v := .int (nI cn)) (C := RX3) (T := TX3) (N := 17) hx hb hts inX3 hown hK hP 2 rfl rfl 10 (by decide) (hC.f (A := _) (a := RX9) (i := 78) (b := "EscrowDesk$Plan") (n := "milestoneCount") (d := "I") (x := "EscrowDesk") (by decide +kernel)) (fun _ h9 => h9) rfl dX9_progress_13 ?_
      refine lv_icmp_ge (tgt := 53) hx hb dX9_progress_16 (by decide) (fun c1 => ?_) (fun c9 => absurd (nI_le (a := cn) (b := cn) (show cn ≤ cn by omega) (by omega)) c9)
      refine lv_lload_n hx hb dX9_progress_53 rfl (lv_at hl 1 rfl) ?_
      refine lv_lconst (v := 0) hx hb dX9_progress_54 (by decide) ?_
      refine W.lcmp hx hb dX9_progress_55 ?_
      refine lv_if_le (tgt := 70) hx hb dX9_progress_56 (by decide) (fun c2 => ?_) (fun c2 => ?_)
      · skip
        refine lv_iconst (v := 0) hx hb dX9_progress_70 (by decide) ?_
        obtain ⟨hP9, hD9⟩ := PDq.sub (ws' := [(oX9 h0 b0 (nI nb) p0 u0 r0 a0 t0 s0 o0), (oX0 a0 p0 a1 a3 a4 a5 a6 i6 i7 i8 i9 i10 i11 i12 i13 i14 i15 i16 i17 i18 i19), (oX3 p0 pr pb pe pg p1 (nI nd) p2 p3 p4 p5 (nI cn) p6 (nI pq) p7 p8 p9 (nI sc)), (a4, .inl (cA 0, 10, .inl fp)), (p3, .inl (cA 0, 10, .inl fam))]) hP hD [0, 1, 2, 3, 4] (by decide) rfl
        refine W.widen (k := 0) (n := 0) (Nat.le_of_ble_eq_true rfl) (Nat.le_of_ble_eq_true rfl) ?_
        exact (W.iret (v := 0) hx hb hr (fun t ht hW => ⟨⟨0, (), rfl, trivial, by rw [ht]; exact hP9, hD9⟩, hS.F ht⟩) hS.2.2 dX9_progress_71)
      · skip
        refine lv_lload_n hx hb dX9_progress_59 rfl (lv_at hl 2 rfl) ?_
        refine lv_ldc2 (v := 1000) hx hb hown (hts (.constantLong RX9 168 1000) (by decide +kernel)) dX9_progress_60 ?_
        refine lv_lmul hx hb dX9_progress_63 ?_
        refine lv_topl (fun yn3 eyn3 => ?_)
        refine lv_lload_n hx hb dX9_progress_64 rfl (lv_at hl 1 rfl) ?_
        refine lv_ldiv hx hb dX9_progress_65 (lg_ne2 c2) ?_
        refine lv_topl (fun yn4 eyn4 => ?_)
        refine lv_l2i (v := yn4.toInt32) hx hb dX9_progress_66 rfl ?_
        refine lv_topi (fun yn5 eyn5 => ?_)
        refine lv_goto (tgt := 71) hx hb dX9_progress_67 (by decide) ?_
        obtain ⟨hP9, hD9⟩ := PDq.sub (ws' := [(oX9 h0 b0 (nI nb) p0 u0 r0 a0 t0 s0 o0), (oX0 a0 p0 a1 a3 a4 a5 a6 i6 i7 i8 i9 i10 i11 i12 i13 i14 i15 i16 i17 i18 i19), (oX3 p0 pr pb pe pg p1 (nI nd) p2 p3 p4 p5 (nI cn) p6 (nI pq) p7 p8 p9 (nI sc)), (a4, .inl (cA 0, 10, .inl fp)), (p3, .inl (cA 0, 10, .inl fam))]) hP hD [0, 1, 2, 3, 4] (by decide) rfl
        refine W.widen (k := 0) (n := 0) (Nat.le_of_ble_eq_true rfl) (Nat.le_of_ble_eq_true rfl) ?_
        exact (W.iret (v := yn5) hx hb hr (fun t ht hW => ⟨⟨yn5, (), rfl, trivial, by rw [ht]; exact hP9, hD9⟩, hS.F ht⟩) hS.2.2 dX9_progress_71)
    | succ n1 ih1 =>
      intro i1 x3_1 x1_1 H locs ls hi1 hP hD hS hl
      refine lv_iload hx hb dX9_progress_7 (lv_at hl 0 rfl) ?_
      refine lv_aload_n hx hb dX9_progress_9 rfl (lv_at hl 3 rfl) ?_
      refine va_get (D := D) (ci := 10) (v := .ref p0) (C := RX9) (T := TX9) (N := 9) hx hb hts inX9 hown hK hP 0 rfl rfl 2 (by decide) (hts (.fieldLink RX9 16 "EscrowDesk" "plan" "LEscrowDesk$Plan;") (by decide +kernel)) (fun _ h9 => h9) rfl dX9_progress_10 ?_
      refine va_getN (D := D) (ci := 7) (v := .int (nI cn)) (C := RX3) (T := TX3) (N := 17) hx hb hts inX3 hown hK hP 2 rfl rfl 10 (by decide) (hC.f (A := _) (a := RX9) (i := 78) (b := "EscrowDesk$Plan") (n := "milestoneCount") (d := "I") (x := "EscrowDesk") (by decide +kernel)) (fun _ h9 => h9) rfl dX9_progress_13 ?_
      refine lv_icmp_ge (tgt := 53) hx hb dX9_progress_16 (by decide) (fun c9 => absurd c9 (nI_ge (a := i1) (b := cn) (show i1 < cn by omega) (by omega))) (fun c6 => ?_)
      refine lv_lload_n hx hb dX9_progress_19 rfl (lv_at hl 2 rfl) ?_
      refine lv_aload_n hx hb dX9_progress_20 rfl (lv_at hl 3 rfl) ?_
      refine va_get (D := D) (ci := 10) (v := .ref a0) (C := RX9) (T := TX9) (N := 9) hx hb hts inX9 hown hK hP 0 rfl rfl 5 (by decide) (hts (.fieldLink RX9 35 "EscrowDesk" "account" "LEscrowDesk$Account;") (by decide +kernel)) (fun _ h9 => h9) rfl dX9_progress_21 ?_
      refine va_getN (D := D) (ci := 4) (v := .ref a4) (C := RX0) (T := TX0) (N := 20) hx hb hts inX0 hown hK hP 1 rfl rfl 3 (by decide) (hC.f (A := _) (a := RX9) (i := 126) (b := "EscrowDesk$Account") (n := "paid") (d := "[I") (x := "EscrowDesk") (by decide +kernel)) (fun _ h9 => h9) rfl dX9_progress_24 ?_
      refine lv_iload hx hb dX9_progress_27 (lv_at hl 0 rfl) ?_
      refine va_iald hx hb hK hP 3 0 rfl rfl (vp_in_nI (n := i1) (N := 10) (show i1 < 10 by omega) (by decide)) dX9_progress_29 ?_
      refine lv_topi (fun yn7 eyn7 => ?_)
      refine lv_i2l (v := (yn7.toInt64)) hx hb dX9_progress_30 rfl ?_
      refine lv_ladd hx hb dX9_progress_31 ?_
      refine lv_topl (fun yn8 eyn8 => ?_)
      refine lv_lstore_n (lv' := [(1, .long yn8), (5, .int (nI i1)), (3, .long x3_1), (0, .ref h0)]) hx hb dX9_progress_32 rfl hl (by decide) rfl (fun ls hl => ?_)
      refine lv_lload_n hx hb dX9_progress_33 rfl (lv_at hl 2 rfl) ?_
      refine lv_aload_n hx hb dX9_progress_34 rfl (lv_at hl 3 rfl) ?_
      refine va_get (D := D) (ci := 10) (v := .ref p0) (C := RX9) (T := TX9) (N := 9) hx hb hts inX9 hown hK hP 0 rfl rfl 2 (by decide) (hts (.fieldLink RX9 16 "EscrowDesk" "plan" "LEscrowDesk$Plan;") (by decide +kernel)) (fun _ h9 => h9) rfl dX9_progress_35 ?_
      refine va_getN (D := D) (ci := 7) (v := .ref p3) (C := RX3) (T := TX3) (N := 17) hx hb hts inX3 hown hK hP 2 rfl rfl 7 (by decide) (hC.f (A := _) (a := RX9) (i := 165) (b := "EscrowDesk$Plan") (n := "amounts") (d := "[I") (x := "EscrowDesk") (by decide +kernel)) (fun _ h9 => h9) rfl dX9_progress_38 ?_
      refine lv_iload hx hb dX9_progress_41 (lv_at hl 1 rfl) ?_
      refine va_iald hx hb hK hP 4 0 rfl rfl (vp_in_nI (n := i1) (N := 10) (show i1 < 10 by omega) (by decide)) dX9_progress_43 ?_
      refine lv_topi (fun yn9 eyn9 => ?_)
      refine lv_i2l (v := (yn9.toInt64)) hx hb dX9_progress_44 rfl ?_
      refine lv_ladd hx hb dX9_progress_45 ?_
      refine lv_topl (fun yn10 eyn10 => ?_)
      refine lv_lstore_n (lv' := [(3, .long yn10), (1, .long yn8), (5, .int (nI i1)), (0, .ref h0)]) hx hb dX9_progress_46 rfl hl (by decide) rfl (fun ls hl => ?_)
      refine lv_iinc (v := (nI (i1 + 1))) (lv' := [(5, .int (nI (i1 + 1))), (3, .long yn10), (1, .long yn8), (0, .ref h0)]) hx hb dX9_progress_47 hl (k := 2) rfl (nI_1 _) (by decide) rfl (fun ls hl => ?_)
      refine lv_goto (tgt := 7) hx hb dX9_progress_50 (by decide) ?_
      obtain ⟨hP9, hD9⟩ := PDq.sub (ws' := [(oX9 h0 b0 (nI nb) p0 u0 r0 a0 t0 s0 o0), (oX0 a0 p0 a1 a3 a4 a5 a6 i6 i7 i8 i9 i10 i11 i12 i13 i14 i15 i16 i17 i18 i19), (oX3 p0 pr pb pe pg p1 (nI nd) p2 p3 p4 p5 (nI cn) p6 (nI pq) p7 p8 p9 (nI sc)), (a4, .inl (cA 0, 10, .inl fp)), (p3, .inl (cA 0, 10, .inl fam))]) hP hD [0, 1, 2, 3, 4] (by decide) rfl
      exact ih1 (i1 + 1) yn10 yn8 H _ ls (by omega) hP9 hD9 hS (lv_sub hl [0, 1, 2, 3] rfl)
  obtain ⟨hP9, hD9⟩ := PDq.sub (ws' := [(oX9 h0 b0 (nI nb) p0 u0 r0 a0 t0 s0 o0), (oX0 a0 p0 a1 a3 a4 a5 a6 i6 i7 i8 i9 i10 i11 i12 i13 i14 i15 i16 i17 i18 i19), (oX3 p0 pr pb pe pg p1 (nI nd) p2 p3 p4 p5 (nI cn) p6 (nI pq) p7 p8 p9 (nI sc)), (a4, .inl (cA 0, 10, .inl fp)), (p3, .inl (cA 0, 10, .inl fam))]) hP hD [0, 1, 2, 3, 4] (by decide) rfl
  exact loop1 (cn - 0) 0 0 0 _ _ ls (by omega) hP9 hD9 hS (lv_sub hl [0, 1, 2, 3] rfl)

set_option maxHeartbeats 4000000 in
set_option maxRecDepth 100000 in
/-- graceLeft -/
theorem s_graceLeft (l : Launch) (D : va_G) (cA : Nat → ClassId) (sa : Nat → Nat) (h0 : Nat) (b0 : Nat) (nb : Nat) (p0 : Nat) (u0 : Nat) (r0 : Nat) (a0 : Nat) (t0 : Nat) (s0 : Nat) (o0 : Nat) (a1 : Nat) (a3 : Nat) (a4 : Nat) (a5 : Nat) (a6 : Nat) (i6 : Int32) (i7 : Int32) (i8 : Int32) (i12 : Int32) (i13 : Int32) (i14 : Int32) (i15 : Int32) (i16 : Int32) (i17 : Int32) (i18 : Int32) (i19 : Int32) (i9 : Int64) (i10 : Int64) (i11 : Int64) (p1 : Nat) (p2 : Nat) (p3 : Nat) (p4 : Nat) (p5 : Nat) (p6 : Nat) (p7 : Nat) (p8 : Nat) (p9 : Nat) (cn : Nat) (pq : Nat) (nd : Nat) (sc : Nat) (pr : Int32) (pb : Int32) (pe : Int32) (pg : Int32) (i : Int32) (fs : Nat → Int32) (fd : Nat → Int32) (sz : Nat) (hl9 : l.stackTraces = false) (hcn : cn ≤ 10) (hpq : pq ≤ 8) (hnd : nd ≤ 6) (hsc : sc ≤ 350) : vx_Met l yX9_graceLeft wsX9_graceLeft ({ frames := 8, cells := 1, slots := 6, locals := 132 }) (va_Pc [.ref h0, .int i] (Wd D cA sa [(oX9 h0 b0 (nI nb) p0 u0 r0 a0 t0 s0 o0), (oX0 a0 p0 a1 a3 a4 a5 a6 i6 i7 i8 i9 i10 i11 i12 i13 i14 i15 i16 i17 i18 i19), (oX3 p0 pr pb pe pg p1 (nI nd) p2 p3 p4 p5 (nI cn) p6 (nI pq) p7 p8 p9 (nI sc)), (a3, .inl (cA 0, 10, .inl fs)), (a6, .inl (cA 0, 10, .inl fd))] sz)) (va_Qi (fun (r : Int32) (_ : Unit) => True) (fun (_ : Unit) t => Wq D (va_A [(oX9 h0 b0 (nI nb) p0 u0 r0 a0 t0 s0 o0), (oX0 a0 p0 a1 a3 a4 a5 a6 i6 i7 i8 i9 i10 i11 i12 i13 i14 i15 i16 i17 i18 i19), (oX3 p0 pr pb pe pg p1 (nI nd) p2 p3 p4 p5 (nI cn) p6 (nI pq) p7 p8 p9 (nI sc)), (a3, .inl (cA 0, 10, .inl fs)), (a6, .inl (cA 0, 10, .inl fd))] sz) [(oX9 h0 b0 (nI nb) p0 u0 r0 a0 t0 s0 o0), (oX0 a0 p0 a1 a3 a4 a5 a6 i6 i7 i8 i9 i10 i11 i12 i13 i14 i15 i16 i17 i18 i19), (oX3 p0 pr pb pe pg p1 (nI nd) p2 p3 p4 p5 (nI cn) p6 (nI pq) p7 p8 p9 (nI sc)), (a3, .inl (cA 0, 10, .inl fs)), (a6, .inl (cA 0, 10, .inl fd))] t) (va_A [(oX9 h0 b0 (nI nb) p0 u0 r0 a0 t0 s0 o0), (oX0 a0 p0 a1 a3 a4 a5 a6 i6 i7 i8 i9 i10 i11 i12 i13 i14 i15 i16 i17 i18 i19), (oX3 p0 pr pb pe pg p1 (nI nd) p2 p3 p4 p5 (nI cn) p6 (nI pq) p7 p8 p9 (nI sc)), (a3, .inl (cA 0, 10, .inl fs)), (a6, .inl (cA 0, 10, .inl fd))] sz)) (vx_X (fun _ : Unit => True) (fun E _ t => (E = "java/lang/IndexOutOfBoundsException") ∧ Wq D (va_A [(oX9 h0 b0 (nI nb) p0 u0 r0 a0 t0 s0 o0), (oX0 a0 p0 a1 a3 a4 a5 a6 i6 i7 i8 i9 i10 i11 i12 i13 i14 i15 i16 i17 i18 i19), (oX3 p0 pr pb pe pg p1 (nI nd) p2 p3 p4 p5 (nI cn) p6 (nI pq) p7 p8 p9 (nI sc)), (a3, .inl (cA 0, 10, .inl fs)), (a6, .inl (cA 0, 10, .inl fd))] sz) [(oX9 h0 b0 (nI nb) p0 u0 r0 a0 t0 s0 o0), (oX0 a0 p0 a1 a3 a4 a5 a6 i6 i7 i8 i9 i10 i11 i12 i13 i14 i15 i16 i17 i18 i19), (oX3 p0 pr pb pe pg p1 (nI nd) p2 p3 p4 p5 (nI cn) p6 (nI pq) p7 p8 p9 (nI sc)), (a3, .inl (cA 0, 10, .inl fs)), (a6, .inl (cA 0, 10, .inl fd))] t) (va_A [(oX9 h0 b0 (nI nb) p0 u0 r0 a0 t0 s0 o0), (oX0 a0 p0 a1 a3 a4 a5 a6 i6 i7 i8 i9 i10 i11 i12 i13 i14 i15 i16 i17 i18 i19), (oX3 p0 pr pb pe pg p1 (nI nd) p2 p3 p4 p5 (nI cn) p6 (nI pq) p7 p8 p9 (nI sc)), (a3, .inl (cA 0, 10, .inl fs)), (a6, .inl (cA 0, 10, .inl fd))] sz)) 1 6 (va_A [(oX9 h0 b0 (nI nb) p0 u0 r0 a0 t0 s0 o0), (oX0 a0 p0 a1 a3 a4 a5 a6 i6 i7 i8 i9 i10 i11 i12 i13 i14 i15 i16 i17 i18 i19), (oX3 p0 pr pb pe pg p1 (nI nd) p2 p3 p4 p5 (nI cn) p6 (nI pq) p7 p8 p9 (nI sc)), (a3, .inl (cA 0, 10, .inl fs)), (a6, .inl (cA 0, 10, .inl fd))] sz) := by
  refine vx_ofW (cc := cX9_graceLeft) (maxL := 2) (ret := (some .int)) (by decide) rfl ?_
  intro p e s m args below meth c s₁ B hml hno hv
  obtain ⟨rfl, hsz, hP, hK, hD0, hC, hZ⟩ := hv
  have hx := B.exec
  have hb := B.bytes
  have hr := B.returns
  have hts := atoms_spec (ws := wsX9_graceLeft) B.pre
  have hown : s.vm.findClass RX9 = some m.cls := findClass_of_methodNamed B.named
  have hlocks := B.notSynchronized
  subst hsz
  have hD := hD0.self (sz := s.heap.size)
  generalize hAe : va_A [(oX9 h0 b0 (nI nb) p0 u0 r0 a0 t0 s0 o0), (oX0 a0 p0 a1 a3 a4 a5 a6 i6 i7 i8 i9 i10 i11 i12 i13 i14 i15 i16 i17 i18 i19), (oX3 p0 pr pb pe pg p1 (nI nd) p2 p3 p4 p5 (nI cn) p6 (nI pq) p7 p8 p9 (nI sc)), (a3, .inl (cA 0, 10, .inl fs)), (a6, .inl (cA 0, 10, .inl fd))] s.heap.size = A at hD hZ ⊢
  have hA : ∀ q : Nat, s.heap.size ≤ q → A q := fun q h => by rw [← hAe]; exact Or.inr h
  have hS : va_S A s.heap s.heap [] := va_S.rf
  have hP : va_P D vwCl [(oX9 h0 b0 (nI nb) p0 u0 r0 a0 t0 s0 o0), (oX0 a0 p0 a1 a3 a4 a5 a6 i6 i7 i8 i9 i10 i11 i12 i13 i14 i15 i16 i17 i18 i19), (oX3 p0 pr pb pe pg p1 (nI nd) p2 p3 p4 p5 (nI cn) p6 (nI pq) p7 p8 p9 (nI sc)), (a3, .inl (cA 0, 10, .inl fs)), (a6, .inl (cA 0, 10, .inl fd))] s.heap := hP
  have hl := lv_entry ([.ref h0, .int i]) (n := 2) (Nat.le_of_ble_eq_true rfl)
  rw [lg_entry_eq]
  generalize (lg_sl ([.ref h0, .int i]) ++ List.replicate (2 - (lg_sl ([.ref h0, .int i])).length) Slot.unset).toArray = ls at hl ⊢
  have hl : lv_has ls 2 [(0, .ref h0), (1, .int i)] := hl
  have inX0 : ∀ w ∈ u_ws RX0 TX0 20, w ∈ wsX9_graceLeft := by decide +kernel
  have inX9 : ∀ w ∈ u_ws RX9 TX9 9, w ∈ wsX9_graceLeft := by decide +kernel
  refine lv_aload_n hx hb dX9_graceLeft_0 rfl (lv_at hl 0 rfl) ?_
  refine lv_iload_n hx hb dX9_graceLeft_1 rfl (lv_at hl 1 rfl) ?_
  obtain ⟨hPc, hDc, hFc⟩ := PDq.cut (wc := [(oX9 h0 b0 (nI nb) p0 u0 r0 a0 t0 s0 o0), (oX3 p0 pr pb pe pg p1 (nI nd) p2 p3 p4 p5 (nI cn) p6 (nI pq) p7 p8 p9 (nI sc))]) hP hD hS hA [0, 2] (by decide) rfl
  refine vx_callv (vx_runV (As := [.int i]) (rest := []) ⟨hx, hb, hml, hown, hts⟩ (s_needMilestone l D cA sa h0 b0 nb p0 u0 r0 a0 t0 s0 o0 p1 p2 p3 p4 p5 p6 p7 p8 p9 cn pq nd sc pr pb pe pg i s.heap.size hl9 hcn hpq hnd hsc) (cwV 1 hts gX9_graceLeft_X9_needMilestone rfl rfl rfl (by decide +kernel) ⟨(Nat.le_of_ble_eq_true rfl), (Nat.le_of_ble_eq_true rfl)⟩) ⟨Wd.blind, va_recv hK hPc (ci := 10) (q0 := 0) rfl rfl, fun U hU hW => ⟨rfl, Wd.call hPc hDc hK hC hZ hS hFc U hU hW⟩⟩ rfl rfl hl.1 rfl (lv_room (Nat.le_of_ble_eq_true rfl)) dX9_graceLeft_2 ⟨(Nat.le_of_ble_eq_true rfl), (Nat.le_of_ble_eq_true rfl)⟩) hS (fun q _ h => hFc q h) hFc (fun q _ h => hFc q h) (fun E ce q9 u t H1 locs ht hvm hpx hE hz1 hk1 hS hcell hv9 hcl => ?_) (fun u t H1 locs ht hvm hw hB hz1 hk1 hS => ?_)
  · skip
    obtain ⟨hE, hP1, hD1⟩ := hE
    rw [ht] at hP1
    obtain ⟨hP, hD⟩ := PDq.join (w := [(oX0 a0 p0 a1 a3 a4 a5 a6 i6 i7 i8 i9 i10 i11 i12 i13 i14 i15 i16 i17 i18 i19), (a3, .inl (cA 0, 10, .inl fs)), (a6, .inl (cA 0, 10, .inl fd)), (oX9 h0 b0 (nI nb) p0 u0 r0 a0 t0 s0 o0), (oX3 p0 pr pb pe pg p1 (nI nd) p2 p3 p4 p5 (nI cn) p6 (nI pq) p7 p8 p9 (nI sc))]) 3 hP hD [0, 2] [1, 3, 4] rfl rfl (by decide) (by decide) hk1 hFc hP1 hD1 rfl
    generalize H1 = H at hP hS hcell ⊢
    obtain ⟨hP9, hD9⟩ := PDq.sub (ws' := [(oX9 h0 b0 (nI nb) p0 u0 r0 a0 t0 s0 o0), (oX0 a0 p0 a1 a3 a4 a5 a6 i6 i7 i8 i9 i10 i11 i12 i13 i14 i15 i16 i17 i18 i19), (oX3 p0 pr pb pe pg p1 (nI nd) p2 p3 p4 p5 (nI cn) p6 (nI pq) p7 p8 p9 (nI sc)), (a3, .inl (cA 0, 10, .inl fs)), (a6, .inl (cA 0, 10, .inl fd))]) hP hD [3, 0, 4, 1, 2] (by decide) rfl
    exact vx_out (fun x h => (hno x h).elim) hlocks hcell hv9 hcl (fun t ht hvm => ⟨(), trivial, ⟨hE, by rw [ht]; exact hP9, hD9⟩, hS.F ht⟩) hS.2.2 (Nat.le_of_ble_eq_true rfl) (Nat.le_of_ble_eq_true rfl)
  · skip
    obtain ⟨qn1, hn2, hn3, hP1, hD1⟩ := hB
    rw [ht] at hP1
    obtain ⟨hP, hD⟩ := PDq.join (w := [(oX0 a0 p0 a1 a3 a4 a5 a6 i6 i7 i8 i9 i10 i11 i12 i13 i14 i15 i16 i17 i18 i19), (a3, .inl (cA 0, 10, .inl fs)), (a6, .inl (cA 0, 10, .inl fd)), (oX9 h0 b0 (nI nb) p0 u0 r0 a0 t0 s0 o0), (oX3 p0 pr pb pe pg p1 (nI nd) p2 p3 p4 p5 (nI cn) p6 (nI pq) p7 p8 p9 (nI sc))]) 3 hP hD [0, 2] [1, 3, 4] rfl rfl (by decide) (by decide) hk1 hFc hP1 hD1 rfl
    generalize H1 = H at hP hS ⊢
    rw [hn3] at hl
    have hl : lv_has ls 2 [(0, .ref h0), (1, .int (nI qn1))] := hl
    refine lv_aload_n hx hb dX9_graceLeft_5 rfl (lv_at hl 0 rfl) ?_
    refine va_get (D := D) (ci := 10) (v := .ref a0) (C := RX9) (T := TX9) (N := 9) hx hb hts inX9 hown hK hP 3 rfl rfl 5 (by decide) (hts (.fieldLink RX9 35 "EscrowDesk" "account" "LEscrowDesk$Account;") (by decide +kernel)) (fun _ h9 => h9) rfl dX9_graceLeft_6 ?_
    refine va_getN (D := D) (ci := 4) (v := .ref a3) (C := RX0) (T := TX0) (N := 20) hx hb hts inX0 hown hK hP 0 rfl rfl 2 (by decide) (hC.f (A := _) (a := RX9) (i := 122) (b := "EscrowDesk$Account") (n := "state") (d := "[I") (x := "EscrowDesk") (by decide +kernel)) (fun _ h9 => h9) rfl dX9_graceLeft_9 ?_
    refine lv_iload_n hx hb dX9_graceLeft_12 rfl (lv_at hl 1 rfl) ?_
    refine va_iald hx hb hK hP 1 0 rfl rfl (vp_in_nI (n := qn1) (N := 10) (show qn1 < 10 by omega) (by decide)) dX9_graceLeft_13 ?_
    refine lv_topi (fun yn4 eyn4 => ?_)
    refine lv_iconst (v := 1) hx hb dX9_graceLeft_14 (by decide) ?_
    refine lv_icmp_eq (tgt := 20) hx hb dX9_graceLeft_15 (by decide) (fun c5 => ?_) (fun c5 => ?_)
    · skip
      refine lv_aload_n hx hb dX9_graceLeft_20 rfl (lv_at hl 0 rfl) ?_
      refine va_get (D := D) (ci := 10) (v := .ref a0) (C := RX9) (T := TX9) (N := 9) hx hb hts inX9 hown hK hP 3 rfl rfl 5 (by decide) (hts (.fieldLink RX9 35 "EscrowDesk" "account" "LEscrowDesk$Account;") (by decide +kernel)) (fun _ h9 => h9) rfl dX9_graceLeft_21 ?_
      refine lv_iload_n hx hb dX9_graceLeft_24 rfl (lv_at hl 1 rfl) ?_
      obtain ⟨hPc, hDc, hFc⟩ := PDq.cut (wc := [(oX0 a0 p0 a1 a3 a4 a5 a6 i6 i7 i8 i9 i10 i11 i12 i13 i14 i15 i16 i17 i18 i19), (a6, .inl (cA 0, 10, .inl fd))]) hP hD hS hA [0, 2] (by decide) rfl
      refine va_calli (va_runV (As := [.int (nI qn1)]) (rest := []) ⟨hx, hb, hml, hown, hts⟩ (s_payDay l D cA sa a0 a1 a3 a4 a5 a6 p0 i6 i7 i8 i12 i13 i14 i15 i16 i17 i18 i19 i9 i10 i11 qn1 fd H.size (by omega)) (cwV 1 hts gX9_graceLeft_X0_payDay rfl rfl rfl (by decide +kernel) ⟨(Nat.le_of_ble_eq_true rfl), (Nat.le_of_ble_eq_true rfl)⟩) ⟨Wd.blind, va_recv hK hPc (ci := 4) (q0 := 0) rfl rfl, fun U hU hW => ⟨rfl, Wd.call hPc hDc hK hC hZ hS hFc U hU hW⟩⟩ rfl rfl hl.1 rfl (lv_room (Nat.le_of_ble_eq_true rfl)) dX9_graceLeft_25 ⟨(Nat.le_of_ble_eq_true rfl), (Nat.le_of_ble_eq_true rfl)⟩) hS (fun q _ h => hFc q h) hFc (fun rn6 u t H1 locs ht hvm hw hB hz1 hk1 hS => ?_)
      obtain ⟨hP1, hD1⟩ := hB
      rw [ht] at hP1
      obtain ⟨hP, hD⟩ := PDq.join (w := [(a3, .inl (cA 0, 10, .inl fs)), (oX9 h0 b0 (nI nb) p0 u0 r0 a0 t0 s0 o0), (oX3 p0 pr pb pe pg p1 (nI nd) p2 p3 p4 p5 (nI cn) p6 (nI pq) p7 p8 p9 (nI sc)), (oX0 a0 p0 a1 a3 a4 a5 a6 i6 i7 i8 i9 i10 i11 i12 i13 i14 i15 i16 i17 i18 i19), (a6, .inl (cA 0, 10, .inl fd))]) 3 hP hD [0, 2] [1, 3, 4] rfl rfl (by decide) (by decide) hk1 hFc hP1 hD1 rfl
      generalize H1 = H at hP hS ⊢
      refine lv_aload_n hx hb dX9_graceLeft_28 rfl (lv_at hl 0 rfl) ?_
      refine va_get (D := D) (ci := 10) (v := .ref a0) (C := RX9) (T := TX9) (N := 9) hx hb hts inX9 hown hK hP 1 rfl rfl 5 (by decide) (hts (.fieldLink RX9 35 "EscrowDesk" "account" "LEscrowDesk$Account;") (by decide +kernel)) (fun _ h9 => h9) rfl dX9_graceLeft_29 ?_
      refine va_getN (D := D) (ci := 4) (v := .int i6) (C := RX0) (T := TX0) (N := 20) hx hb hts inX0 hown hK hP 3 rfl rfl 6 (by decide) (hC.f (A := _) (a := RX9) (i := 87) (b := "EscrowDesk$Account") (n := "day") (d := "I") (x := "EscrowDesk") (by decide +kernel)) (fun _ h9 => h9) rfl dX9_graceLeft_32 ?_
      refine lv_isub hx hb dX9_graceLeft_35 ?_
      refine lv_topi (fun yn7 eyn7 => ?_)
      refine lv_iconst (v := 0) hx hb dX9_graceLeft_36 (by decide) ?_
      refine va_mmax hx hb (by rw [hml]; exact hl.1.symm) hown (hts (.methodLink RX9 175 Lib.Math.max.name) (by decide +kernel)) (hts (.static Lib.Math.max.name) (by decide +kernel)) (hts (.initialized "java/lang/Math") (by decide +kernel)) (hts (.code Lib.Math.max.name Lib.Math.max.code 2 (some .int)) (by decide +kernel)) (Nat.le_of_ble_eq_true rfl) (Nat.le_of_ble_eq_true rfl) (Nat.le_of_ble_eq_true rfl) (Nat.le_of_ble_eq_true rfl) dX9_graceLeft_37 ?_
      refine lv_topi (fun yn8 eyn8 => ?_)
      obtain ⟨hP9, hD9⟩ := PDq.sub (ws' := [(oX9 h0 b0 (nI nb) p0 u0 r0 a0 t0 s0 o0), (oX0 a0 p0 a1 a3 a4 a5 a6 i6 i7 i8 i9 i10 i11 i12 i13 i14 i15 i16 i17 i18 i19), (oX3 p0 pr pb pe pg p1 (nI nd) p2 p3 p4 p5 (nI cn) p6 (nI pq) p7 p8 p9 (nI sc)), (a3, .inl (cA 0, 10, .inl fs)), (a6, .inl (cA 0, 10, .inl fd))]) hP hD [1, 3, 2, 0, 4] (by decide) rfl
      refine W.widen (k := 1) (n := 6) (Nat.le_of_ble_eq_true rfl) (Nat.le_of_ble_eq_true rfl) ?_
      exact vx_ret (W.iret (v := yn8) hx hb hr (fun t ht hW => ⟨⟨yn8, (), rfl, trivial, by rw [ht]; exact hP9, hD9⟩, hS.F ht⟩) hS.2.2 dX9_graceLeft_40)
    · skip
      refine lv_iconst (v := (-1)) hx hb dX9_graceLeft_18 (by decide) ?_
      obtain ⟨hP9, hD9⟩ := PDq.sub (ws' := [(oX9 h0 b0 (nI nb) p0 u0 r0 a0 t0 s0 o0), (oX0 a0 p0 a1 a3 a4 a5 a6 i6 i7 i8 i9 i10 i11 i12 i13 i14 i15 i16 i17 i18 i19), (oX3 p0 pr pb pe pg p1 (nI nd) p2 p3 p4 p5 (nI cn) p6 (nI pq) p7 p8 p9 (nI sc)), (a3, .inl (cA 0, 10, .inl fs)), (a6, .inl (cA 0, 10, .inl fd))]) hP hD [3, 0, 4, 1, 2] (by decide) rfl
      refine W.widen (k := 1) (n := 6) (Nat.le_of_ble_eq_true rfl) (Nat.le_of_ble_eq_true rfl) ?_
      exact vx_ret (W.iret (v := (-1)) hx hb hr (fun t ht hW => ⟨⟨(-1), (), rfl, trivial, by rw [ht]; exact hP9, hD9⟩, hS.F ht⟩) hS.2.2 dX9_graceLeft_19)

set_option maxHeartbeats 4000000 in
set_option maxRecDepth 100000 in
/-- isSubmitted -/
theorem s_isSubmitted (l : Launch) (D : va_G) (cA : Nat → ClassId) (sa : Nat → Nat) (h0 : Nat) (b0 : Nat) (nb : Nat) (p0 : Nat) (u0 : Nat) (r0 : Nat) (a0 : Nat) (t0 : Nat) (s0 : Nat) (o0 : Nat) (a1 : Nat) (a3 : Nat) (a4 : Nat) (a5 : Nat) (a6 : Nat) (i6 : Int32) (i7 : Int32) (i8 : Int32) (i12 : Int32) (i13 : Int32) (i14 : Int32) (i15 : Int32) (i16 : Int32) (i17 : Int32) (i18 : Int32) (i19 : Int32) (i9 : Int64) (i10 : Int64) (i11 : Int64) (p1 : Nat) (p2 : Nat) (p3 : Nat) (p4 : Nat) (p5 : Nat) (p6 : Nat) (p7 : Nat) (p8 : Nat) (p9 : Nat) (cn : Nat) (pq : Nat) (nd : Nat) (sc : Nat) (pr : Int32) (pb : Int32) (pe : Int32) (pg : Int32) (i : Int32) (sz : Nat) (hl9 : l.stackTraces = false) (hcn : cn ≤ 10) (hpq : pq ≤ 8) (hnd : nd ≤ 6) (hsc : sc ≤ 350) : vx_Met l yX9_isSubmitted wsX9_isSubmitted ({ frames := 8, cells := 1, slots := 6, locals := 132 }) (va_Pc [.ref h0, .int i] (Wd D cA sa [(oX9 h0 b0 (nI nb) p0 u0 r0 a0 t0 s0 o0), (oX0 a0 p0 a1 a3 a4 a5 a6 i6 i7 i8 i9 i10 i11 i12 i13 i14 i15 i16 i17 i18 i19), (oX3 p0 pr pb pe pg p1 (nI nd) p2 p3 p4 p5 (nI cn) p6 (nI pq) p7 p8 p9 (nI sc))] sz)) (va_Qi (fun (r : Int32) (_ : Unit) => r = 0 ∨ r = 1) (fun (_ : Unit) t => Wq D (va_A [(oX9 h0 b0 (nI nb) p0 u0 r0 a0 t0 s0 o0), (oX0 a0 p0 a1 a3 a4 a5 a6 i6 i7 i8 i9 i10 i11 i12 i13 i14 i15 i16 i17 i18 i19), (oX3 p0 pr pb pe pg p1 (nI nd) p2 p3 p4 p5 (nI cn) p6 (nI pq) p7 p8 p9 (nI sc))] sz) [(oX9 h0 b0 (nI nb) p0 u0 r0 a0 t0 s0 o0), (oX0 a0 p0 a1 a3 a4 a5 a6 i6 i7 i8 i9 i10 i11 i12 i13 i14 i15 i16 i17 i18 i19), (oX3 p0 pr pb pe pg p1 (nI nd) p2 p3 p4 p5 (nI cn) p6 (nI pq) p7 p8 p9 (nI sc))] t) (va_A [(oX9 h0 b0 (nI nb) p0 u0 r0 a0 t0 s0 o0), (oX0 a0 p0 a1 a3 a4 a5 a6 i6 i7 i8 i9 i10 i11 i12 i13 i14 i15 i16 i17 i18 i19), (oX3 p0 pr pb pe pg p1 (nI nd) p2 p3 p4 p5 (nI cn) p6 (nI pq) p7 p8 p9 (nI sc))] sz)) (vx_X (fun _ : Unit => True) (fun E _ t => (E = "java/lang/IndexOutOfBoundsException") ∧ Wq D (va_A [(oX9 h0 b0 (nI nb) p0 u0 r0 a0 t0 s0 o0), (oX0 a0 p0 a1 a3 a4 a5 a6 i6 i7 i8 i9 i10 i11 i12 i13 i14 i15 i16 i17 i18 i19), (oX3 p0 pr pb pe pg p1 (nI nd) p2 p3 p4 p5 (nI cn) p6 (nI pq) p7 p8 p9 (nI sc))] sz) [(oX9 h0 b0 (nI nb) p0 u0 r0 a0 t0 s0 o0), (oX0 a0 p0 a1 a3 a4 a5 a6 i6 i7 i8 i9 i10 i11 i12 i13 i14 i15 i16 i17 i18 i19), (oX3 p0 pr pb pe pg p1 (nI nd) p2 p3 p4 p5 (nI cn) p6 (nI pq) p7 p8 p9 (nI sc))] t) (va_A [(oX9 h0 b0 (nI nb) p0 u0 r0 a0 t0 s0 o0), (oX0 a0 p0 a1 a3 a4 a5 a6 i6 i7 i8 i9 i10 i11 i12 i13 i14 i15 i16 i17 i18 i19), (oX3 p0 pr pb pe pg p1 (nI nd) p2 p3 p4 p5 (nI cn) p6 (nI pq) p7 p8 p9 (nI sc))] sz)) 1 6 (va_A [(oX9 h0 b0 (nI nb) p0 u0 r0 a0 t0 s0 o0), (oX0 a0 p0 a1 a3 a4 a5 a6 i6 i7 i8 i9 i10 i11 i12 i13 i14 i15 i16 i17 i18 i19), (oX3 p0 pr pb pe pg p1 (nI nd) p2 p3 p4 p5 (nI cn) p6 (nI pq) p7 p8 p9 (nI sc))] sz) := by
  refine vx_ofW (cc := cX9_isSubmitted) (maxL := 2) (ret := (some .boolean)) (by decide) rfl ?_
  intro p e s m args below meth c s₁ B hml hno hv
  obtain ⟨rfl, hsz, hP, hK, hD0, hC, hZ⟩ := hv
  have hx := B.exec
  have hb := B.bytes
  have hr := B.returns
  have hts := atoms_spec (ws := wsX9_isSubmitted) B.pre
  have hown : s.vm.findClass RX9 = some m.cls := findClass_of_methodNamed B.named
  have hlocks := B.notSynchronized
  subst hsz
  have hD := hD0.self (sz := s.heap.size)
  generalize hAe : va_A [(oX9 h0 b0 (nI nb) p0 u0 r0 a0 t0 s0 o0), (oX0 a0 p0 a1 a3 a4 a5 a6 i6 i7 i8 i9 i10 i11 i12 i13 i14 i15 i16 i17 i18 i19), (oX3 p0 pr pb pe pg p1 (nI nd) p2 p3 p4 p5 (nI cn) p6 (nI pq) p7 p8 p9 (nI sc))] s.heap.size = A at hD hZ ⊢
  have hA : ∀ q : Nat, s.heap.size ≤ q → A q := fun q h => by rw [← hAe]; exact Or.inr h
  have hS : va_S A s.heap s.heap [] := va_S.rf
  have hP : va_P D vwCl [(oX9 h0 b0 (nI nb) p0 u0 r0 a0 t0 s0 o0), (oX0 a0 p0 a1 a3 a4 a5 a6 i6 i7 i8 i9 i10 i11 i12 i13 i14 i15 i16 i17 i18 i19), (oX3 p0 pr pb pe pg p1 (nI nd) p2 p3 p4 p5 (nI cn) p6 (nI pq) p7 p8 p9 (nI sc))] s.heap := hP
  have hl := lv_entry ([.ref h0, .int i]) (n := 2) (Nat.le_of_ble_eq_true rfl)
  rw [lg_entry_eq]
  generalize (lg_sl ([.ref h0, .int i]) ++ List.replicate (2 - (lg_sl ([.ref h0, .int i])).length) Slot.unset).toArray = ls at hl ⊢
  have hl : lv_has ls 2 [(0, .ref h0), (1, .int i)] := hl
  have inX9 : ∀ w ∈ u_ws RX9 TX9 9, w ∈ wsX9_isSubmitted := by decide +kernel
  refine lv_aload_n hx hb dX9_isSubmitted_0 rfl (lv_at hl 0 rfl) ?_
  refine lv_iload_n hx hb dX9_isSubmitted_1 rfl (lv_at hl 1 rfl) ?_
  obtain ⟨hPc, hDc, hFc⟩ := PDq.cut (wc := [(oX9 h0 b0 (nI nb) p0 u0 r0 a0 t0 s0 o0), (oX3 p0 pr pb pe pg p1 (nI nd) p2 p3 p4 p5 (nI cn) p6 (nI pq) p7 p8 p9 (nI sc))]) hP hD hS hA [0, 2] (by decide) rfl
  refine vx_callv (vx_runV (As := [.int i]) (rest := []) ⟨hx, hb, hml, hown, hts⟩ (s_needProof l D cA sa h0 b0 nb p0 u0 r0 a0 t0 s0 o0 p1 p2 p3 p4 p5 p6 p7 p8 p9 cn pq nd sc pr pb pe pg i s.heap.size hl9 hcn hpq hnd hsc) (cwV 1 hts gX9_isSubmitted_X9_needProof rfl rfl rfl (by decide +kernel) ⟨(Nat.le_of_ble_eq_true rfl), (Nat.le_of_ble_eq_true rfl)⟩) ⟨Wd.blind, va_recv hK hPc (ci := 10) (q0 := 0) rfl rfl, fun U hU hW => ⟨rfl, Wd.call hPc hDc hK hC hZ hS hFc U hU hW⟩⟩ rfl rfl hl.1 rfl (lv_room (Nat.le_of_ble_eq_true rfl)) dX9_isSubmitted_2 ⟨(Nat.le_of_ble_eq_true rfl), (Nat.le_of_ble_eq_true rfl)⟩) hS (fun q _ h => hFc q h) hFc (fun q _ h => hFc q h) (fun E ce q9 u t H1 locs ht hvm hpx hE hz1 hk1 hS hcell hv9 hcl => ?_) (fun u t H1 locs ht hvm hw hB hz1 hk1 hS => ?_)
  · skip
    obtain ⟨hE, hP1, hD1⟩ := hE
    rw [ht] at hP1
    obtain ⟨hP, hD⟩ := PDq.join (w := [(oX0 a0 p0 a1 a3 a4 a5 a6 i6 i7 i8 i9 i10 i11 i12 i13 i14 i15 i16 i17 i18 i19), (oX9 h0 b0 (nI nb) p0 u0 r0 a0 t0 s0 o0), (oX3 p0 pr pb pe pg p1 (nI nd) p2 p3 p4 p5 (nI cn) p6 (nI pq) p7 p8 p9 (nI sc))]) 1 hP hD [0, 2] [1] rfl rfl (by decide) (by decide) hk1 hFc hP1 hD1 rfl
    generalize H1 = H at hP hS hcell ⊢
    obtain ⟨hP9, hD9⟩ := PDq.sub (ws' := [(oX9 h0 b0 (nI nb) p0 u0 r0 a0 t0 s0 o0), (oX0 a0 p0 a1 a3 a4 a5 a6 i6 i7 i8 i9 i10 i11 i12 i13 i14 i15 i16 i17 i18 i19), (oX3 p0 pr pb pe pg p1 (nI nd) p2 p3 p4 p5 (nI cn) p6 (nI pq) p7 p8 p9 (nI sc))]) hP hD [1, 0, 2] (by decide) rfl
    exact vx_out (fun x h => (hno x h).elim) hlocks hcell hv9 hcl (fun t ht hvm => ⟨(), trivial, ⟨hE, by rw [ht]; exact hP9, hD9⟩, hS.F ht⟩) hS.2.2 (Nat.le_of_ble_eq_true rfl) (Nat.le_of_ble_eq_true rfl)
  · skip
    obtain ⟨qn1, hn2, hn3, hP1, hD1⟩ := hB
    rw [ht] at hP1
    obtain ⟨hP, hD⟩ := PDq.join (w := [(oX0 a0 p0 a1 a3 a4 a5 a6 i6 i7 i8 i9 i10 i11 i12 i13 i14 i15 i16 i17 i18 i19), (oX9 h0 b0 (nI nb) p0 u0 r0 a0 t0 s0 o0), (oX3 p0 pr pb pe pg p1 (nI nd) p2 p3 p4 p5 (nI cn) p6 (nI pq) p7 p8 p9 (nI sc))]) 1 hP hD [0, 2] [1] rfl rfl (by decide) (by decide) hk1 hFc hP1 hD1 rfl
    generalize H1 = H at hP hS ⊢
    rw [hn3] at hl
    have hl : lv_has ls 2 [(0, .ref h0), (1, .int (nI qn1))] := hl
    refine lv_aload_n hx hb dX9_isSubmitted_5 rfl (lv_at hl 0 rfl) ?_
    refine va_get (D := D) (ci := 10) (v := .ref a0) (C := RX9) (T := TX9) (N := 9) hx hb hts inX9 hown hK hP 1 rfl rfl 5 (by decide) (hts (.fieldLink RX9 35 "EscrowDesk" "account" "LEscrowDesk$Account;") (by decide +kernel)) (fun _ h9 => h9) rfl dX9_isSubmitted_6 ?_
    refine lv_iload_n hx hb dX9_isSubmitted_9 rfl (lv_at hl 1 rfl) ?_
    obtain ⟨hPc, hDc, hFc⟩ := PDq.cut (wc := [(oX0 a0 p0 a1 a3 a4 a5 a6 i6 i7 i8 i9 i10 i11 i12 i13 i14 i15 i16 i17 i18 i19)]) hP hD hS hA [0] (by decide) rfl
    refine va_calli (va_runV (As := [.int (nI qn1)]) (rest := []) ⟨hx, hb, hml, hown, hts⟩ (s_hasProof l D cA sa a0 a1 a3 a4 a5 a6 p0 i6 i7 i8 i12 i13 i14 i15 i16 i17 i18 i19 i9 i10 i11 (nI qn1) H.size) (cwV 1 hts gX9_isSubmitted_X0_hasProof rfl rfl rfl (by decide +kernel) ⟨(Nat.le_of_ble_eq_true rfl), (Nat.le_of_ble_eq_true rfl)⟩) ⟨Wd.blind, va_recv hK hPc (ci := 4) (q0 := 0) rfl rfl, fun U hU hW => ⟨rfl, Wd.call hPc hDc hK hC hZ hS hFc U hU hW⟩⟩ rfl rfl hl.1 rfl (lv_room (Nat.le_of_ble_eq_true rfl)) dX9_isSubmitted_10 ⟨(Nat.le_of_ble_eq_true rfl), (Nat.le_of_ble_eq_true rfl)⟩) hS (fun q _ h => hFc q h) hFc (fun rn4 u t H1 locs ht hvm hw hB hz1 hk1 hS => ?_)
    obtain ⟨hP1, hD1⟩ := hB
    rw [ht] at hP1
    obtain ⟨hP, hD⟩ := PDq.join (w := [(oX9 h0 b0 (nI nb) p0 u0 r0 a0 t0 s0 o0), (oX3 p0 pr pb pe pg p1 (nI nd) p2 p3 p4 p5 (nI cn) p6 (nI pq) p7 p8 p9 (nI sc)), (oX0 a0 p0 a1 a3 a4 a5 a6 i6 i7 i8 i9 i10 i11 i12 i13 i14 i15 i16 i17 i18 i19)]) 2 hP hD [0] [1, 2] rfl rfl (by decide) (by decide) hk1 hFc hP1 hD1 rfl
    generalize H1 = H at hP hS ⊢
    have hn5 := hw
    obtain ⟨hP9, hD9⟩ := PDq.sub (ws' := [(oX9 h0 b0 (nI nb) p0 u0 r0 a0 t0 s0 o0), (oX0 a0 p0 a1 a3 a4 a5 a6 i6 i7 i8 i9 i10 i11 i12 i13 i14 i15 i16 i17 i18 i19), (oX3 p0 pr pb pe pg p1 (nI nd) p2 p3 p4 p5 (nI cn) p6 (nI pq) p7 p8 p9 (nI sc))]) hP hD [0, 2, 1] (by decide) rfl
    refine W.widen (k := 1) (n := 6) (Nat.le_of_ble_eq_true rfl) (Nat.le_of_ble_eq_true rfl) ?_
    exact vx_ret (W.zret (v := rn4) hx hb hr (by rcases hn5 with h9 | h9 <;> rw [h9] <;> rfl) (fun t ht hW => ⟨⟨rn4, (), rfl, hn5, by rw [ht]; exact hP9, hD9⟩, hS.F ht⟩) hS.2.2 dX9_isSubmitted_13)

set_option maxHeartbeats 4000000 in
set_option maxRecDepth 100000 in
/-- wouldHold -/
theorem s_wouldHold (l : Launch) (D : va_G) (cA : Nat → ClassId) (sa : Nat → Nat) (h0 : Nat) (b0 : Nat) (nb : Nat) (p0 : Nat) (u0 : Nat) (r0 : Nat) (a0 : Nat) (t0 : Nat) (s0 : Nat) (o0 : Nat) (a1 : Nat) (a3 : Nat) (a4 : Nat) (a5 : Nat) (a6 : Nat) (i6 : Int32) (i7 : Int32) (i8 : Int32) (i12 : Int32) (i13 : Int32) (i14 : Int32) (i15 : Int32) (i16 : Int32) (i17 : Int32) (i18 : Int32) (i19 : Int32) (i9 : Int64) (i10 : Int64) (i11 : Int64) (p1 : Nat) (p2 : Nat) (p3 : Nat) (p4 : Nat) (p5 : Nat) (p6 : Nat) (p7 : Nat) (p8 : Nat) (p9 : Nat) (cn : Nat) (pq : Nat) (nd : Nat) (sc : Nat) (pr : Int32) (pb : Int32) (pe : Int32) (pg : Int32) (fen : Nat → Int32) (fst : Nat → Int32) (fop : Nat → Int32) (fs : Nat → Int32) (i : Int32) (j : Int32) (sz : Nat) (hl9 : l.stackTraces = false) (hcn : cn ≤ 10) (hpq : pq ≤ 8) (hnd : nd ≤ 6) (hsc : sc ≤ 350) (hen : Rng 10 351 fen) : vx_Met l yX9_wouldHold wsX9_wouldHold ({ frames := 8, cells := 2, slots := 12, locals := 132 }) (va_Pc [.ref h0, .int i, .int j] (Wd D cA sa [(oX9 h0 b0 (nI nb) p0 u0 r0 a0 t0 s0 o0), (oX0 a0 p0 a1 a3 a4 a5 a6 i6 i7 i8 i9 i10 i11 i12 i13 i14 i15 i16 i17 i18 i19), (oX3 p0 pr pb pe pg p1 (nI nd) p2 p3 p4 p5 (nI cn) p6 (nI pq) p7 p8 p9 (nI sc)), (p9, .inl (cA 0, 10, .inl fen)), (p7, .inl (cA 0, 350, .inl fst)), (p8, .inl (cA 0, 350, .inl fop)), (a3, .inl (cA 0, 10, .inl fs))] sz)) (va_Qi (fun (r : Int32) (_ : Unit) => r = 0 ∨ r = 1) (fun (_ : Unit) t => Wq D (va_A [(oX9 h0 b0 (nI nb) p0 u0 r0 a0 t0 s0 o0), (oX0 a0 p0 a1 a3 a4 a5 a6 i6 i7 i8 i9 i10 i11 i12 i13 i14 i15 i16 i17 i18 i19), (oX3 p0 pr pb pe pg p1 (nI nd) p2 p3 p4 p5 (nI cn) p6 (nI pq) p7 p8 p9 (nI sc)), (p9, .inl (cA 0, 10, .inl fen)), (p7, .inl (cA 0, 350, .inl fst)), (p8, .inl (cA 0, 350, .inl fop)), (a3, .inl (cA 0, 10, .inl fs))] sz) [(oX9 h0 b0 (nI nb) p0 u0 r0 a0 t0 s0 o0), (oX0 a0 p0 a1 a3 a4 a5 a6 i6 i7 i8 i9 i10 i11 i12 i13 i14 i15 i16 i17 i18 i19), (oX3 p0 pr pb pe pg p1 (nI nd) p2 p3 p4 p5 (nI cn) p6 (nI pq) p7 p8 p9 (nI sc)), (p9, .inl (cA 0, 10, .inl fen)), (p7, .inl (cA 0, 350, .inl fst)), (p8, .inl (cA 0, 350, .inl fop)), (a3, .inl (cA 0, 10, .inl fs))] t) (va_A [(oX9 h0 b0 (nI nb) p0 u0 r0 a0 t0 s0 o0), (oX0 a0 p0 a1 a3 a4 a5 a6 i6 i7 i8 i9 i10 i11 i12 i13 i14 i15 i16 i17 i18 i19), (oX3 p0 pr pb pe pg p1 (nI nd) p2 p3 p4 p5 (nI cn) p6 (nI pq) p7 p8 p9 (nI sc)), (p9, .inl (cA 0, 10, .inl fen)), (p7, .inl (cA 0, 350, .inl fst)), (p8, .inl (cA 0, 350, .inl fop)), (a3, .inl (cA 0, 10, .inl fs))] sz)) (vx_X (fun _ : Unit => True) (fun E _ t => (E = "java/lang/IndexOutOfBoundsException" ∨ E = "java/lang/IllegalArgumentException") ∧ Wq D (va_A [(oX9 h0 b0 (nI nb) p0 u0 r0 a0 t0 s0 o0), (oX0 a0 p0 a1 a3 a4 a5 a6 i6 i7 i8 i9 i10 i11 i12 i13 i14 i15 i16 i17 i18 i19), (oX3 p0 pr pb pe pg p1 (nI nd) p2 p3 p4 p5 (nI cn) p6 (nI pq) p7 p8 p9 (nI sc)), (p9, .inl (cA 0, 10, .inl fen)), (p7, .inl (cA 0, 350, .inl fst)), (p8, .inl (cA 0, 350, .inl fop)), (a3, .inl (cA 0, 10, .inl fs))] sz) [(oX9 h0 b0 (nI nb) p0 u0 r0 a0 t0 s0 o0), (oX0 a0 p0 a1 a3 a4 a5 a6 i6 i7 i8 i9 i10 i11 i12 i13 i14 i15 i16 i17 i18 i19), (oX3 p0 pr pb pe pg p1 (nI nd) p2 p3 p4 p5 (nI cn) p6 (nI pq) p7 p8 p9 (nI sc)), (p9, .inl (cA 0, 10, .inl fen)), (p7, .inl (cA 0, 350, .inl fst)), (p8, .inl (cA 0, 350, .inl fop)), (a3, .inl (cA 0, 10, .inl fs))] t) (va_A [(oX9 h0 b0 (nI nb) p0 u0 r0 a0 t0 s0 o0), (oX0 a0 p0 a1 a3 a4 a5 a6 i6 i7 i8 i9 i10 i11 i12 i13 i14 i15 i16 i17 i18 i19), (oX3 p0 pr pb pe pg p1 (nI nd) p2 p3 p4 p5 (nI cn) p6 (nI pq) p7 p8 p9 (nI sc)), (p9, .inl (cA 0, 10, .inl fen)), (p7, .inl (cA 0, 350, .inl fst)), (p8, .inl (cA 0, 350, .inl fop)), (a3, .inl (cA 0, 10, .inl fs))] sz)) 2 12 (va_A [(oX9 h0 b0 (nI nb) p0 u0 r0 a0 t0 s0 o0), (oX0 a0 p0 a1 a3 a4 a5 a6 i6 i7 i8 i9 i10 i11 i12 i13 i14 i15 i16 i17 i18 i19), (oX3 p0 pr pb pe pg p1 (nI nd) p2 p3 p4 p5 (nI cn) p6 (nI pq) p7 p8 p9 (nI sc)), (p9, .inl (cA 0, 10, .inl fen)), (p7, .inl (cA 0, 350, .inl fst)), (p8, .inl (cA 0, 350, .inl fop)), (a3, .inl (cA 0, 10, .inl fs))] sz) := by
  refine vx_ofW (cc := cX9_wouldHold) (maxL := 3) (ret := (some .boolean)) (by decide) rfl ?_
  intro p e s m args below meth c s₁ B hml hno hv
  obtain ⟨rfl, hsz, hP, hK, hD0, hC, hZ⟩ := hv
  have hx := B.exec
  have hb := B.bytes
  have hr := B.returns
  have hts := atoms_spec (ws := wsX9_wouldHold) B.pre
  have hown : s.vm.findClass RX9 = some m.cls := findClass_of_methodNamed B.named
  have hlocks := B.notSynchronized
  subst hsz
  have hD := hD0.self (sz := s.heap.size)
  generalize hAe : va_A [(oX9 h0 b0 (nI nb) p0 u0 r0 a0 t0 s0 o0), (oX0 a0 p0 a1 a3 a4 a5 a6 i6 i7 i8 i9 i10 i11 i12 i13 i14 i15 i16 i17 i18 i19), (oX3 p0 pr pb pe pg p1 (nI nd) p2 p3 p4 p5 (nI cn) p6 (nI pq) p7 p8 p9 (nI sc)), (p9, .inl (cA 0, 10, .inl fen)), (p7, .inl (cA 0, 350, .inl fst)), (p8, .inl (cA 0, 350, .inl fop)), (a3, .inl (cA 0, 10, .inl fs))] s.heap.size = A at hD hZ ⊢
  have hA : ∀ q : Nat, s.heap.size ≤ q → A q := fun q h => by rw [← hAe]; exact Or.inr h
  have hS : va_S A s.heap s.heap [] := va_S.rf
  have hP : va_P D vwCl [(oX9 h0 b0 (nI nb) p0 u0 r0 a0 t0 s0 o0), (oX0 a0 p0 a1 a3 a4 a5 a6 i6 i7 i8 i9 i10 i11 i12 i13 i14 i15 i16 i17 i18 i19), (oX3 p0 pr pb pe pg p1 (nI nd) p2 p3 p4 p5 (nI cn) p6 (nI pq) p7 p8 p9 (nI sc)), (p9, .inl (cA 0, 10, .inl fen)), (p7, .inl (cA 0, 350, .inl fst)), (p8, .inl (cA 0, 350, .inl fop)), (a3, .inl (cA 0, 10, .inl fs))] s.heap := hP
  have hl := lv_entry ([.ref h0, .int i, .int j]) (n := 3) (Nat.le_of_ble_eq_true rfl)
  rw [lg_entry_eq]
  generalize (lg_sl ([.ref h0, .int i, .int j]) ++ List.replicate (3 - (lg_sl ([.ref h0, .int i, .int j])).length) Slot.unset).toArray = ls at hl ⊢
  have hl : lv_has ls 3 [(0, .ref h0), (1, .int i), (2, .int j)] := hl
  have inX3 : ∀ w ∈ u_ws RX3 TX3 17, w ∈ wsX9_wouldHold := by decide +kernel
  have inX9 : ∀ w ∈ u_ws RX9 TX9 9, w ∈ wsX9_wouldHold := by decide +kernel
  refine lv_aload_n hx hb dX9_wouldHold_0 rfl (lv_at hl 0 rfl) ?_
  refine lv_iload_n hx hb dX9_wouldHold_1 rfl (lv_at hl 1 rfl) ?_
  obtain ⟨hPc, hDc, hFc⟩ := PDq.cut (wc := [(oX9 h0 b0 (nI nb) p0 u0 r0 a0 t0 s0 o0), (oX3 p0 pr pb pe pg p1 (nI nd) p2 p3 p4 p5 (nI cn) p6 (nI pq) p7 p8 p9 (nI sc))]) hP hD hS hA [0, 2] (by decide) rfl
  refine vx_callv (vx_runV (As := [.int i]) (rest := []) ⟨hx, hb, hml, hown, hts⟩ (s_needMilestone l D cA sa h0 b0 nb p0 u0 r0 a0 t0 s0 o0 p1 p2 p3 p4 p5 p6 p7 p8 p9 cn pq nd sc pr pb pe pg i s.heap.size hl9 hcn hpq hnd hsc) (cwV 1 hts gX9_wouldHold_X9_needMilestone rfl rfl rfl (by decide +kernel) ⟨(Nat.le_of_ble_eq_true rfl), (Nat.le_of_ble_eq_true rfl)⟩) ⟨Wd.blind, va_recv hK hPc (ci := 10) (q0 := 0) rfl rfl, fun U hU hW => ⟨rfl, Wd.call hPc hDc hK hC hZ hS hFc U hU hW⟩⟩ rfl rfl hl.1 rfl (lv_room (Nat.le_of_ble_eq_true rfl)) dX9_wouldHold_2 ⟨(Nat.le_of_ble_eq_true rfl), (Nat.le_of_ble_eq_true rfl)⟩) hS (fun q _ h => hFc q h) hFc (fun q _ h => hFc q h) (fun E ce q9 u t H1 locs ht hvm hpx hE hz1 hk1 hS hcell hv9 hcl => ?_) (fun u t H1 locs ht hvm hw hB hz1 hk1 hS => ?_)
  · skip
    obtain ⟨hE, hP1, hD1⟩ := hE
    rw [ht] at hP1
    obtain ⟨hP, hD⟩ := PDq.join (w := [(oX0 a0 p0 a1 a3 a4 a5 a6 i6 i7 i8 i9 i10 i11 i12 i13 i14 i15 i16 i17 i18 i19), (p9, .inl (cA 0, 10, .inl fen)), (p7, .inl (cA 0, 350, .inl fst)), (p8, .inl (cA 0, 350, .inl fop)), (a3, .inl (cA 0, 10, .inl fs)), (oX9 h0 b0 (nI nb) p0 u0 r0 a0 t0 s0 o0), (oX3 p0 pr pb pe pg p1 (nI nd) p2 p3 p4 p5 (nI cn) p6 (nI pq) p7 p8 p9 (nI sc))]) 5 hP hD [0, 2] [1, 3, 4, 5, 6] rfl rfl (by decide) (by decide) hk1 hFc hP1 hD1 rfl
    generalize H1 = H at hP hS hcell ⊢
    obtain ⟨hP9, hD9⟩ := PDq.sub (ws' := [(oX9 h0 b0 (nI nb) p0 u0 r0 a0 t0 s0 o0), (oX0 a0 p0 a1 a3 a4 a5 a6 i6 i7 i8 i9 i10 i11 i12 i13 i14 i15 i16 i17 i18 i19), (oX3 p0 pr pb pe pg p1 (nI nd) p2 p3 p4 p5 (nI cn) p6 (nI pq) p7 p8 p9 (nI sc)), (p9, .inl (cA 0, 10, .inl fen)), (p7, .inl (cA 0, 350, .inl fst)), (p8, .inl (cA 0, 350, .inl fop)), (a3, .inl (cA 0, 10, .inl fs))]) hP hD [5, 0, 6, 1, 2, 3, 4] (by decide) rfl
    exact vx_out (fun x h => (hno x h).elim) hlocks hcell hv9 hcl (fun t ht hvm => ⟨(), trivial, ⟨(by rw [hE]; simp), by rw [ht]; exact hP9, hD9⟩, hS.F ht⟩) hS.2.2 (Nat.le_of_ble_eq_true rfl) (Nat.le_of_ble_eq_true rfl)
  · skip
    obtain ⟨qn1, hn2, hn3, hP1, hD1⟩ := hB
    rw [ht] at hP1
    obtain ⟨hP, hD⟩ := PDq.join (w := [(oX0 a0 p0 a1 a3 a4 a5 a6 i6 i7 i8 i9 i10 i11 i12 i13 i14 i15 i16 i17 i18 i19), (p9, .inl (cA 0, 10, .inl fen)), (p7, .inl (cA 0, 350, .inl fst)), (p8, .inl (cA 0, 350, .inl fop)), (a3, .inl (cA 0, 10, .inl fs)), (oX9 h0 b0 (nI nb) p0 u0 r0 a0 t0 s0 o0), (oX3 p0 pr pb pe pg p1 (nI nd) p2 p3 p4 p5 (nI cn) p6 (nI pq) p7 p8 p9 (nI sc))]) 5 hP hD [0, 2] [1, 3, 4, 5, 6] rfl rfl (by decide) (by decide) hk1 hFc hP1 hD1 rfl
    generalize H1 = H at hP hS ⊢
    rw [hn3] at hl
    have hl : lv_has ls 3 [(0, .ref h0), (1, .int (nI qn1)), (2, .int j)] := hl
    refine lv_iload_n hx hb dX9_wouldHold_5 rfl (lv_at hl 2 rfl) ?_
    refine lv_iconst (v := 0) hx hb dX9_wouldHold_6 (by decide) ?_
    refine lv_iconst (v := 1) hx hb dX9_wouldHold_7 (by decide) ?_
    refine lv_aload_n hx hb dX9_wouldHold_8 rfl (lv_at hl 0 rfl) ?_
    refine va_get (D := D) (ci := 10) (v := .ref p0) (C := RX9) (T := TX9) (N := 9) hx hb hts inX9 hown hK hP 5 rfl rfl 2 (by decide) (hts (.fieldLink RX9 16 "EscrowDesk" "plan" "LEscrowDesk$Plan;") (by decide +kernel)) (fun _ h9 => h9) rfl dX9_wouldHold_9 ?_
    refine va_getN (D := D) (ci := 7) (v := .int (nI cn)) (C := RX3) (T := TX3) (N := 17) hx hb hts inX3 hown hK hP 6 rfl rfl 10 (by decide) (hC.f (A := _) (a := RX9) (i := 78) (b := "EscrowDesk$Plan") (n := "milestoneCount") (d := "I") (x := "EscrowDesk") (by decide +kernel)) (fun _ h9 => h9) rfl dX9_wouldHold_12 ?_
    refine lv_ishl hx hb dX9_wouldHold_15 ?_
    refine lv_topi (fun yn4 eyn4 => ?_)
    refine lv_iconst (v := 1) hx hb dX9_wouldHold_16 (by decide) ?_
    refine lv_isub hx hb dX9_wouldHold_17 ?_
    refine lv_topi (fun yn5 eyn5 => ?_)
    obtain ⟨hPc, hDc, hFc⟩ := PDq.cut (wc := []) hP hD hS hA [] (by decide) rfl
    refine vx_callv (vx_runS (As := [.int j, .int 0, .int yn5]) (rest := []) ⟨hx, hb, hml, hown, hts⟩ (s_needRange l D cA sa j 0 yn5 H.size hl9) (va_cwS 3 hts gX9_wouldHold_X9_needRange rfl rfl rfl (by decide +kernel) ⟨(Nat.le_of_ble_eq_true rfl), (Nat.le_of_ble_eq_true rfl)⟩) ⟨Wd.blind, fun U hU hW => ⟨rfl, Wd.call hPc hDc hK hC hZ hS hFc U hU hW⟩⟩ rfl rfl hl.1 rfl (lv_room (Nat.le_of_ble_eq_true rfl)) dX9_wouldHold_18 ⟨(Nat.le_of_ble_eq_true rfl), (Nat.le_of_ble_eq_true rfl)⟩) hS (fun q _ h => hFc q h) hFc (fun q _ h => hFc q h) (fun E ce q9 u t H1 locs ht hvm hpx hE hz1 hk1 hS hcell hv9 hcl => ?_) (fun u t H1 locs ht hvm hw hB hz1 hk1 hS => ?_)
    · skip
      obtain ⟨hE, hP1, hD1⟩ := hE
      rw [ht] at hP1
      obtain ⟨hP, hD⟩ := PDq.join (w := [(oX0 a0 p0 a1 a3 a4 a5 a6 i6 i7 i8 i9 i10 i11 i12 i13 i14 i15 i16 i17 i18 i19), (p9, .inl (cA 0, 10, .inl fen)), (p7, .inl (cA 0, 350, .inl fst)), (p8, .inl (cA 0, 350, .inl fop)), (a3, .inl (cA 0, 10, .inl fs)), (oX9 h0 b0 (nI nb) p0 u0 r0 a0 t0 s0 o0), (oX3 p0 pr pb pe pg p1 (nI nd) p2 p3 p4 p5 (nI cn) p6 (nI pq) p7 p8 p9 (nI sc))]) 7 hP hD [] [0, 1, 2, 3, 4, 5, 6] rfl rfl (by decide) (by decide) hk1 hFc hP1 hD1 rfl
      generalize H1 = H at hP hS hcell ⊢
      obtain ⟨hP9, hD9⟩ := PDq.sub (ws' := [(oX9 h0 b0 (nI nb) p0 u0 r0 a0 t0 s0 o0), (oX0 a0 p0 a1 a3 a4 a5 a6 i6 i7 i8 i9 i10 i11 i12 i13 i14 i15 i16 i17 i18 i19), (oX3 p0 pr pb pe pg p1 (nI nd) p2 p3 p4 p5 (nI cn) p6 (nI pq) p7 p8 p9 (nI sc)), (p9, .inl (cA 0, 10, .inl fen)), (p7, .inl (cA 0, 350, .inl fst)), (p8, .inl (cA 0, 350, .inl fop)), (a3, .inl (cA 0, 10, .inl fs))]) hP hD [5, 0, 6, 1, 2, 3, 4] (by decide) rfl
      exact vx_out (fun x h => (hno x h).elim) hlocks hcell hv9 hcl (fun t ht hvm => ⟨(), trivial, ⟨(by rw [hE]; simp), by rw [ht]; exact hP9, hD9⟩, hS.F ht⟩) hS.2.2 (Nat.le_of_ble_eq_true rfl) (Nat.le_of_ble_eq_true rfl)
    · skip
      obtain ⟨hP1, hD1⟩ := hB
      rw [ht] at hP1
      obtain ⟨hP, hD⟩ := PDq.join (w := [(oX0 a0 p0 a1 a3 a4 a5 a6 i6 i7 i8 i9 i10 i11 i12 i13 i14 i15 i16 i17 i18 i19), (p9, .inl (cA 0, 10, .inl fen)), (p7, .inl (cA 0, 350, .inl fst)), (p8, .inl (cA 0, 350, .inl fop)), (a3, .inl (cA 0, 10, .inl fs)), (oX9 h0 b0 (nI nb) p0 u0 r0 a0 t0 s0 o0), (oX3 p0 pr pb pe pg p1 (nI nd) p2 p3 p4 p5 (nI cn) p6 (nI pq) p7 p8 p9 (nI sc))]) 7 hP hD [] [0, 1, 2, 3, 4, 5, 6] rfl rfl (by decide) (by decide) hk1 hFc hP1 hD1 rfl
      generalize H1 = H at hP hS ⊢
      refine lv_aload_n hx hb dX9_wouldHold_21 rfl (lv_at hl 0 rfl) ?_
      refine va_get (D := D) (ci := 10) (v := .ref a0) (C := RX9) (T := TX9) (N := 9) hx hb hts inX9 hown hK hP 5 rfl rfl 5 (by decide) (hts (.fieldLink RX9 35 "EscrowDesk" "account" "LEscrowDesk$Account;") (by decide +kernel)) (fun _ h9 => h9) rfl dX9_wouldHold_22 ?_
      refine lv_iload_n hx hb dX9_wouldHold_25 rfl (lv_at hl 1 rfl) ?_
      refine lv_iload_n hx hb dX9_wouldHold_26 rfl (lv_at hl 2 rfl) ?_
      obtain ⟨hPc, hDc, hFc⟩ := PDq.cut (wc := [(oX0 a0 p0 a1 a3 a4 a5 a6 i6 i7 i8 i9 i10 i11 i12 i13 i14 i15 i16 i17 i18 i19), (oX3 p0 pr pb pe pg p1 (nI nd) p2 p3 p4 p5 (nI cn) p6 (nI pq) p7 p8 p9 (nI sc)), (p9, .inl (cA 0, 10, .inl fen)), (p7, .inl (cA 0, 350, .inl fst)), (p8, .inl (cA 0, 350, .inl fop)), (a3, .inl (cA 0, 10, .inl fs))]) hP hD hS hA [0, 6, 1, 2, 3, 4] (by decide) rfl
      refine va_calli (va_runV (As := [.int (nI qn1), .int j]) (rest := []) ⟨hx, hb, hml, hown, hts⟩ (s_holdsWithDone l D cA sa a0 a1 a3 a4 a5 a6 p0 i6 i7 i8 i12 i13 i14 i15 i16 i17 i18 i19 i9 i10 i11 p1 p2 p3 p4 p5 p6 p7 p8 p9 cn pq nd sc pr pb pe pg qn1 fen fst fop j fs H.size hcn hpq hnd hsc hen (by omega)) (cwV 2 hts gX9_wouldHold_X0_holdsWithDone rfl rfl rfl (by decide +kernel) ⟨(Nat.le_of_ble_eq_true rfl), (Nat.le_of_ble_eq_true rfl)⟩) ⟨Wd.blind, va_recv hK hPc (ci := 4) (q0 := 0) rfl rfl, fun U hU hW => ⟨rfl, Wd.call hPc hDc hK hC hZ hS hFc U hU hW⟩⟩ rfl rfl hl.1 rfl (lv_room (Nat.le_of_ble_eq_true rfl)) dX9_wouldHold_27 ⟨(Nat.le_of_ble_eq_true rfl), (Nat.le_of_ble_eq_true rfl)⟩) hS (fun q _ h => hFc q h) hFc (fun rn6 u t H1 locs ht hvm hw hB hz1 hk1 hS => ?_)
      obtain ⟨hP1, hD1⟩ := hB
      rw [ht] at hP1
      obtain ⟨hP, hD⟩ := PDq.join (w := [(oX9 h0 b0 (nI nb) p0 u0 r0 a0 t0 s0 o0), (oX0 a0 p0 a1 a3 a4 a5 a6 i6 i7 i8 i9 i10 i11 i12 i13 i14 i15 i16 i17 i18 i19), (oX3 p0 pr pb pe pg p1 (nI nd) p2 p3 p4 p5 (nI cn) p6 (nI pq) p7 p8 p9 (nI sc)), (p9, .inl (cA 0, 10, .inl fen)), (p7, .inl (cA 0, 350, .inl fst)), (p8, .inl (cA 0, 350, .inl fop)), (a3, .inl (cA 0, 10, .inl fs))]) 1 hP hD [0, 6, 1, 2, 3, 4] [5] rfl rfl (by decide) (by decide) hk1 hFc hP1 hD1 rfl
      generalize H1 = H at hP hS ⊢
      have hn7 := hw
      obtain ⟨hP9, hD9⟩ := PDq.sub (ws' := [(oX9 h0 b0 (nI nb) p0 u0 r0 a0 t0 s0 o0), (oX0 a0 p0 a1 a3 a4 a5 a6 i6 i7 i8 i9 i10 i11 i12 i13 i14 i15 i16 i17 i18 i19), (oX3 p0 pr pb pe pg p1 (nI nd) p2 p3 p4 p5 (nI cn) p6 (nI pq) p7 p8 p9 (nI sc)), (p9, .inl (cA 0, 10, .inl fen)), (p7, .inl (cA 0, 350, .inl fst)), (p8, .inl (cA 0, 350, .inl fop)), (a3, .inl (cA 0, 10, .inl fs))]) hP hD [0, 1, 2, 3, 4, 5, 6] (by decide) rfl
      refine W.widen (k := 2) (n := 12) (Nat.le_of_ble_eq_true rfl) (Nat.le_of_ble_eq_true rfl) ?_
      exact vx_ret (W.zret (v := rn6) hx hb hr (by rcases hn7 with h9 | h9 <;> rw [h9] <;> rfl) (fun t ht hW => ⟨⟨rn6, (), rfl, hn7, by rw [ht]; exact hP9, hD9⟩, hS.F ht⟩) hS.2.2 dX9_wouldHold_30)

set_option maxHeartbeats 4000000 in
set_option maxRecDepth 100000 in
/-- dueAt -/
theorem s_dueAt (l : Launch) (D : va_G) (cA : Nat → ClassId) (sa : Nat → Nat) (h0 : Nat) (b0 : Nat) (nb : Nat) (p0 : Nat) (u0 : Nat) (r0 : Nat) (a0 : Nat) (t0 : Nat) (s0 : Nat) (o0 : Nat) (a1 : Nat) (a3 : Nat) (a4 : Nat) (a5 : Nat) (a6 : Nat) (i6 : Int32) (i7 : Int32) (i8 : Int32) (i12 : Int32) (i13 : Int32) (i14 : Int32) (i15 : Int32) (i16 : Int32) (i17 : Int32) (i18 : Int32) (i19 : Int32) (i9 : Int64) (i10 : Int64) (i11 : Int64) (p1 : Nat) (p2 : Nat) (p3 : Nat) (p4 : Nat) (p5 : Nat) (p6 : Nat) (p7 : Nat) (p8 : Nat) (p9 : Nat) (cn : Nat) (pq : Nat) (nd : Nat) (sc : Nat) (pr : Int32) (pb : Int32) (pe : Int32) (pg : Int32) (i : Int32) (fs : Nat → Int32) (fby : Nat → Int32) (sz : Nat) (hl9 : l.stackTraces = false) (hcn : cn ≤ 10) (hpq : pq ≤ 8) (hnd : nd ≤ 6) (hsc : sc ≤ 350) (hby : Rng 10 10 fby) : vx_Met l yX9_dueAt wsX9_dueAt ({ frames := 6, cells := 1, slots := 6, locals := 90 }) (va_Pc [.ref h0, .int i] (Wd D cA sa [(oX9 h0 b0 (nI nb) p0 u0 r0 a0 t0 s0 o0), (oX0 a0 p0 a1 a3 a4 a5 a6 i6 i7 i8 i9 i10 i11 i12 i13 i14 i15 i16 i17 i18 i19), (oX3 p0 pr pb pe pg p1 (nI nd) p2 p3 p4 p5 (nI cn) p6 (nI pq) p7 p8 p9 (nI sc)), (a3, .inl (cA 0, 10, .inl fs)), (p5, .inl (cA 0, 10, .inl fby))] sz)) (va_Qi (fun (r : Int32) (_ : Unit) => True) (fun (_ : Unit) t => Wq D (va_A [(oX9 h0 b0 (nI nb) p0 u0 r0 a0 t0 s0 o0), (oX0 a0 p0 a1 a3 a4 a5 a6 i6 i7 i8 i9 i10 i11 i12 i13 i14 i15 i16 i17 i18 i19), (oX3 p0 pr pb pe pg p1 (nI nd) p2 p3 p4 p5 (nI cn) p6 (nI pq) p7 p8 p9 (nI sc)), (a3, .inl (cA 0, 10, .inl fs)), (p5, .inl (cA 0, 10, .inl fby))] sz) [(oX9 h0 b0 (nI nb) p0 u0 r0 a0 t0 s0 o0), (oX0 a0 p0 a1 a3 a4 a5 a6 i6 i7 i8 i9 i10 i11 i12 i13 i14 i15 i16 i17 i18 i19), (oX3 p0 pr pb pe pg p1 (nI nd) p2 p3 p4 p5 (nI cn) p6 (nI pq) p7 p8 p9 (nI sc)), (a3, .inl (cA 0, 10, .inl fs)), (p5, .inl (cA 0, 10, .inl fby))] t) (va_A [(oX9 h0 b0 (nI nb) p0 u0 r0 a0 t0 s0 o0), (oX0 a0 p0 a1 a3 a4 a5 a6 i6 i7 i8 i9 i10 i11 i12 i13 i14 i15 i16 i17 i18 i19), (oX3 p0 pr pb pe pg p1 (nI nd) p2 p3 p4 p5 (nI cn) p6 (nI pq) p7 p8 p9 (nI sc)), (a3, .inl (cA 0, 10, .inl fs)), (p5, .inl (cA 0, 10, .inl fby))] sz)) (vx_X (fun _ : Unit => True) (fun E _ t => (E = "java/lang/IndexOutOfBoundsException") ∧ Wq D (va_A [(oX9 h0 b0 (nI nb) p0 u0 r0 a0 t0 s0 o0), (oX0 a0 p0 a1 a3 a4 a5 a6 i6 i7 i8 i9 i10 i11 i12 i13 i14 i15 i16 i17 i18 i19), (oX3 p0 pr pb pe pg p1 (nI nd) p2 p3 p4 p5 (nI cn) p6 (nI pq) p7 p8 p9 (nI sc)), (a3, .inl (cA 0, 10, .inl fs)), (p5, .inl (cA 0, 10, .inl fby))] sz) [(oX9 h0 b0 (nI nb) p0 u0 r0 a0 t0 s0 o0), (oX0 a0 p0 a1 a3 a4 a5 a6 i6 i7 i8 i9 i10 i11 i12 i13 i14 i15 i16 i17 i18 i19), (oX3 p0 pr pb pe pg p1 (nI nd) p2 p3 p4 p5 (nI cn) p6 (nI pq) p7 p8 p9 (nI sc)), (a3, .inl (cA 0, 10, .inl fs)), (p5, .inl (cA 0, 10, .inl fby))] t) (va_A [(oX9 h0 b0 (nI nb) p0 u0 r0 a0 t0 s0 o0), (oX0 a0 p0 a1 a3 a4 a5 a6 i6 i7 i8 i9 i10 i11 i12 i13 i14 i15 i16 i17 i18 i19), (oX3 p0 pr pb pe pg p1 (nI nd) p2 p3 p4 p5 (nI cn) p6 (nI pq) p7 p8 p9 (nI sc)), (a3, .inl (cA 0, 10, .inl fs)), (p5, .inl (cA 0, 10, .inl fby))] sz)) 1 6 (va_A [(oX9 h0 b0 (nI nb) p0 u0 r0 a0 t0 s0 o0), (oX0 a0 p0 a1 a3 a4 a5 a6 i6 i7 i8 i9 i10 i11 i12 i13 i14 i15 i16 i17 i18 i19), (oX3 p0 pr pb pe pg p1 (nI nd) p2 p3 p4 p5 (nI cn) p6 (nI pq) p7 p8 p9 (nI sc)), (a3, .inl (cA 0, 10, .inl fs)), (p5, .inl (cA 0, 10, .inl fby))] sz) := by
  refine vx_ofW (cc := cX9_dueAt) (maxL := 3) (ret := (some .int)) (by decide) rfl ?_
  intro p e s m args below meth c s₁ B hml hno hv
  obtain ⟨rfl, hsz, hP, hK, hD0, hC, hZ⟩ := hv
  have hx := B.exec
  have hb := B.bytes
  have hr := B.returns
  have hts := atoms_spec (ws := wsX9_dueAt) B.pre
  have hown : s.vm.findClass RX9 = some m.cls := findClass_of_methodNamed B.named
  have hlocks := B.notSynchronized
  subst hsz
  have hD := hD0.self (sz := s.heap.size)
  generalize hAe : va_A [(oX9 h0 b0 (nI nb) p0 u0 r0 a0 t0 s0 o0), (oX0 a0 p0 a1 a3 a4 a5 a6 i6 i7 i8 i9 i10 i11 i12 i13 i14 i15 i16 i17 i18 i19), (oX3 p0 pr pb pe pg p1 (nI nd) p2 p3 p4 p5 (nI cn) p6 (nI pq) p7 p8 p9 (nI sc)), (a3, .inl (cA 0, 10, .inl fs)), (p5, .inl (cA 0, 10, .inl fby))] s.heap.size = A at hD hZ ⊢
  have hA : ∀ q : Nat, s.heap.size ≤ q → A q := fun q h => by rw [← hAe]; exact Or.inr h
  have hS : va_S A s.heap s.heap [] := va_S.rf
  have hP : va_P D vwCl [(oX9 h0 b0 (nI nb) p0 u0 r0 a0 t0 s0 o0), (oX0 a0 p0 a1 a3 a4 a5 a6 i6 i7 i8 i9 i10 i11 i12 i13 i14 i15 i16 i17 i18 i19), (oX3 p0 pr pb pe pg p1 (nI nd) p2 p3 p4 p5 (nI cn) p6 (nI pq) p7 p8 p9 (nI sc)), (a3, .inl (cA 0, 10, .inl fs)), (p5, .inl (cA 0, 10, .inl fby))] s.heap := hP
  have hl := lv_entry ([.ref h0, .int i]) (n := 3) (Nat.le_of_ble_eq_true rfl)
  rw [lg_entry_eq]
  generalize (lg_sl ([.ref h0, .int i]) ++ List.replicate (3 - (lg_sl ([.ref h0, .int i])).length) Slot.unset).toArray = ls at hl ⊢
  have hl : lv_has ls 3 [(0, .ref h0), (1, .int i)] := hl
  have inX9 : ∀ w ∈ u_ws RX9 TX9 9, w ∈ wsX9_dueAt := by decide +kernel
  refine lv_aload_n hx hb dX9_dueAt_0 rfl (lv_at hl 0 rfl) ?_
  refine va_get (D := D) (ci := 10) (v := .ref a0) (C := RX9) (T := TX9) (N := 9) hx hb hts inX9 hown hK hP 0 rfl rfl 5 (by decide) (hts (.fieldLink RX9 35 "EscrowDesk" "account" "LEscrowDesk$Account;") (by decide +kernel)) (fun _ h9 => h9) rfl dX9_dueAt_1 ?_
  refine lv_iload_n hx hb dX9_dueAt_4 rfl (lv_at hl 1 rfl) ?_
  obtain ⟨hPc, hDc, hFc⟩ := PDq.cut (wc := [(oX0 a0 p0 a1 a3 a4 a5 a6 i6 i7 i8 i9 i10 i11 i12 i13 i14 i15 i16 i17 i18 i19), (oX3 p0 pr pb pe pg p1 (nI nd) p2 p3 p4 p5 (nI cn) p6 (nI pq) p7 p8 p9 (nI sc)), (a3, .inl (cA 0, 10, .inl fs)), (p5, .inl (cA 0, 10, .inl fby))]) hP hD hS hA [1, 2, 3, 4] (by decide) rfl
  refine va_calli (va_runV (As := [.int i]) (rest := []) ⟨hx, hb, hml, hown, hts⟩ (s_dueByRank l D cA sa a0 a1 a3 a4 a5 a6 p0 i6 i7 i8 i12 i13 i14 i15 i16 i17 i18 i19 i9 i10 i11 p1 p2 p3 p4 p5 p6 p7 p8 p9 cn pq nd sc pr pb pe pg i fs fby s.heap.size hcn hpq hnd hsc hby) (cwV 1 hts gX9_dueAt_X0_dueByRank rfl rfl rfl (by decide +kernel) ⟨(Nat.le_of_ble_eq_true rfl), (Nat.le_of_ble_eq_true rfl)⟩) ⟨Wd.blind, va_recv hK hPc (ci := 4) (q0 := 0) rfl rfl, fun U hU hW => ⟨rfl, Wd.call hPc hDc hK hC hZ hS hFc U hU hW⟩⟩ rfl rfl hl.1 rfl (lv_room (Nat.le_of_ble_eq_true rfl)) dX9_dueAt_5 ⟨(Nat.le_of_ble_eq_true rfl), (Nat.le_of_ble_eq_true rfl)⟩) hS (fun q _ h => hFc q h) hFc (fun rn1 u t H1 locs ht hvm hw hB hz1 hk1 hS => ?_)
  obtain ⟨hP1, hD1⟩ := hB
  rw [ht] at hP1
  obtain ⟨hP, hD⟩ := PDq.join (w := [(oX9 h0 b0 (nI nb) p0 u0 r0 a0 t0 s0 o0), (oX0 a0 p0 a1 a3 a4 a5 a6 i6 i7 i8 i9 i10 i11 i12 i13 i14 i15 i16 i17 i18 i19), (oX3 p0 pr pb pe pg p1 (nI nd) p2 p3 p4 p5 (nI cn) p6 (nI pq) p7 p8 p9 (nI sc)), (a3, .inl (cA 0, 10, .inl fs)), (p5, .inl (cA 0, 10, .inl fby))]) 1 hP hD [1, 2, 3, 4] [0] rfl rfl (by decide) (by decide) hk1 hFc hP1 hD1 rfl
  generalize H1 = H at hP hS ⊢
  rcases hw with hr9 | ⟨kn3, hn2, hr9⟩
  · skip
    subst hr9
    refine lv_istore_n (lv' := [(2, .int (-1)), (0, .ref h0), (1, .int i)]) hx hb dX9_dueAt_8 rfl hl (by decide) rfl (fun ls hl => ?_)
    refine lv_iload_n hx hb dX9_dueAt_9 rfl (lv_at hl 0 rfl) ?_
    refine lv_iconst (v := (-1)) hx hb dX9_dueAt_10 (by decide) ?_
    refine lv_icmp_ne (tgt := 24) hx hb dX9_dueAt_11 (by decide) (fun c9 => absurd c9 (by decide)) (fun c4 => ?_)
    obtain ⟨hP9, hD9⟩ := PDq.sub (ws' := [(oX9 h0 b0 (nI nb) p0 u0 r0 a0 t0 s0 o0), (oX0 a0 p0 a1 a3 a4 a5 a6 i6 i7 i8 i9 i10 i11 i12 i13 i14 i15 i16 i17 i18 i19), (oX3 p0 pr pb pe pg p1 (nI nd) p2 p3 p4 p5 (nI cn) p6 (nI pq) p7 p8 p9 (nI sc)), (a3, .inl (cA 0, 10, .inl fs)), (p5, .inl (cA 0, 10, .inl fby))]) hP hD [0, 1, 2, 3, 4] (by decide) rfl
    exact vx_throwS (text := "there are not so many due milestones") (names := ["java/lang/RuntimeException", "java/lang/Exception"]) (A := A) hx hb hl9 hown (by decide +kernel) (by decide +kernel) (hts (.classLink RX9 210 "java/lang/IndexOutOfBoundsException") (by decide +kernel)) (hts (.initialized "java/lang/IndexOutOfBoundsException") (by decide +kernel)) (hC.str 18 rfl) (vx_hat (B := [.castable "java/lang/IndexOutOfBoundsException" "java/lang/IndexOutOfBoundsException", .declares (Bundle.initS "java/lang/RuntimeException"), .declares (Bundle.initS "java/lang/Exception"), .declares (Bundle.initS "java/lang/Throwable")]) (fun w h => hts w (by first | exact (List.mem_cons_of_mem _ (List.mem_append_right _ h)) | (revert w; decide +kernel))) (by decide +kernel) (vx_c (hC.c (by decide +kernel)) (vx_c (hC.d (by decide +kernel)) (vx_c (hC.d (by decide +kernel)) (vx_c (hC.d (by decide +kernel)) vx_n))))) (by decide +kernel) hZ.1 hZ.2.1 hS (by rw [hml]; exact hl.1) dX9_dueAt_14 dX9_dueAt_17 dX9_dueAt_18 dX9_dueAt_20 dX9_dueAt_23 (fun x h => (hno x h).elim) (Nat.le_of_ble_eq_true rfl) (Nat.le_of_ble_eq_true rfl) (Nat.le_of_ble_eq_true rfl) (Nat.le_of_ble_eq_true rfl) hlocks (fun t _ h1 h2 => ⟨(), trivial, ⟨rfl, hP9.kept (fun k q hq => h2 q.1 (hP9 k q hq).lt), hD9⟩, F_of hS h1 h2⟩) hS.2.2 (Nat.le_of_ble_eq_true rfl) (Nat.le_of_ble_eq_true rfl)
  · skip
    subst hr9
    refine lv_istore_n (lv' := [(2, .int (nI kn3)), (0, .ref h0), (1, .int i)]) hx hb dX9_dueAt_8 rfl hl (by decide) rfl (fun ls hl => ?_)
    refine lv_iload_n hx hb dX9_dueAt_9 rfl (lv_at hl 0 rfl) ?_
    refine lv_iconst (v := (-1)) hx hb dX9_dueAt_10 (by decide) ?_
    refine lv_icmp_ne (tgt := 24) hx hb dX9_dueAt_11 (by decide) (fun c5 => ?_) (fun c9 => absurd c9 (nI_neg (n := kn3) (by omega) (by decide)))
    refine lv_iload_n hx hb dX9_dueAt_24 rfl (lv_at hl 0 rfl) ?_
    obtain ⟨hP9, hD9⟩ := PDq.sub (ws' := [(oX9 h0 b0 (nI nb) p0 u0 r0 a0 t0 s0 o0), (oX0 a0 p0 a1 a3 a4 a5 a6 i6 i7 i8 i9 i10 i11 i12 i13 i14 i15 i16 i17 i18 i19), (oX3 p0 pr pb pe pg p1 (nI nd) p2 p3 p4 p5 (nI cn) p6 (nI pq) p7 p8 p9 (nI sc)), (a3, .inl (cA 0, 10, .inl fs)), (p5, .inl (cA 0, 10, .inl fby))]) hP hD [0, 1, 2, 3, 4] (by decide) rfl
    refine W.widen (k := 1) (n := 6) (Nat.le_of_ble_eq_true rfl) (Nat.le_of_ble_eq_true rfl) ?_
    exact vx_ret (W.iret (v := (nI kn3)) hx hb hr (fun t ht hW => ⟨⟨(nI kn3), (), rfl, trivial, by rw [ht]; exact hP9, hD9⟩, hS.F ht⟩) hS.2.2 dX9_dueAt_25)

set_option maxHeartbeats 4000000 in
set_option maxRecDepth 100000 in
/-- nextDue -/
theorem s_nextDue (l : Launch) (D : va_G) (cA : Nat → ClassId) (sa : Nat → Nat) (h0 : Nat) (b0 : Nat) (nb : Nat) (p0 : Nat) (u0 : Nat) (r0 : Nat) (a0 : Nat) (t0 : Nat) (s0 : Nat) (o0 : Nat) (a1 : Nat) (a3 : Nat) (a4 : Nat) (a5 : Nat) (a6 : Nat) (i6 : Int32) (i7 : Int32) (i8 : Int32) (i12 : Int32) (i13 : Int32) (i14 : Int32) (i15 : Int32) (i16 : Int32) (i17 : Int32) (i18 : Int32) (i19 : Int32) (i9 : Int64) (i10 : Int64) (i11 : Int64) (p1 : Nat) (p2 : Nat) (p3 : Nat) (p4 : Nat) (p5 : Nat) (p6 : Nat) (p7 : Nat) (p8 : Nat) (p9 : Nat) (cn : Nat) (pq : Nat) (nd : Nat) (sc : Nat) (pr : Int32) (pb : Int32) (pe : Int32) (pg : Int32) (fs : Nat → Int32) (fby : Nat → Int32) (sz : Nat) (hcn : cn ≤ 10) (hpq : pq ≤ 8) (hnd : nd ≤ 6) (hsc : sc ≤ 350) (hby : Rng 10 10 fby) : Met l yX9_nextDue wsX9_nextDue ({ frames := 1, cells := 0, slots := 0, locals := 24 }) (va_Pc [.ref h0] (Wd D cA sa [(oX9 h0 b0 (nI nb) p0 u0 r0 a0 t0 s0 o0), (oX0 a0 p0 a1 a3 a4 a5 a6 i6 i7 i8 i9 i10 i11 i12 i13 i14 i15 i16 i17 i18 i19), (oX3 p0 pr pb pe pg p1 (nI nd) p2 p3 p4 p5 (nI cn) p6 (nI pq) p7 p8 p9 (nI sc)), (a3, .inl (cA 0, 10, .inl fs)), (p5, .inl (cA 0, 10, .inl fby))] sz)) (va_Qi (fun (r : Int32) (_ : Unit) => True) (fun (_ : Unit) t => Wq D (va_A [(oX9 h0 b0 (nI nb) p0 u0 r0 a0 t0 s0 o0), (oX0 a0 p0 a1 a3 a4 a5 a6 i6 i7 i8 i9 i10 i11 i12 i13 i14 i15 i16 i17 i18 i19), (oX3 p0 pr pb pe pg p1 (nI nd) p2 p3 p4 p5 (nI cn) p6 (nI pq) p7 p8 p9 (nI sc)), (a3, .inl (cA 0, 10, .inl fs)), (p5, .inl (cA 0, 10, .inl fby))] sz) [(oX9 h0 b0 (nI nb) p0 u0 r0 a0 t0 s0 o0), (oX0 a0 p0 a1 a3 a4 a5 a6 i6 i7 i8 i9 i10 i11 i12 i13 i14 i15 i16 i17 i18 i19), (oX3 p0 pr pb pe pg p1 (nI nd) p2 p3 p4 p5 (nI cn) p6 (nI pq) p7 p8 p9 (nI sc)), (a3, .inl (cA 0, 10, .inl fs)), (p5, .inl (cA 0, 10, .inl fby))] t) (va_A [(oX9 h0 b0 (nI nb) p0 u0 r0 a0 t0 s0 o0), (oX0 a0 p0 a1 a3 a4 a5 a6 i6 i7 i8 i9 i10 i11 i12 i13 i14 i15 i16 i17 i18 i19), (oX3 p0 pr pb pe pg p1 (nI nd) p2 p3 p4 p5 (nI cn) p6 (nI pq) p7 p8 p9 (nI sc)), (a3, .inl (cA 0, 10, .inl fs)), (p5, .inl (cA 0, 10, .inl fby))] sz)) 0 0 (va_A [(oX9 h0 b0 (nI nb) p0 u0 r0 a0 t0 s0 o0), (oX0 a0 p0 a1 a3 a4 a5 a6 i6 i7 i8 i9 i10 i11 i12 i13 i14 i15 i16 i17 i18 i19), (oX3 p0 pr pb pe pg p1 (nI nd) p2 p3 p4 p5 (nI cn) p6 (nI pq) p7 p8 p9 (nI sc)), (a3, .inl (cA 0, 10, .inl fs)), (p5, .inl (cA 0, 10, .inl fby))] sz) := by
  refine Met.ofW (cc := cX9_nextDue) (maxL := 1) (ret := (some .int)) (by decide) rfl ?_
  intro p e s m args below meth c s₁ B hml hv
  obtain ⟨rfl, hsz, hP, hK, hD0, hC, hZ⟩ := hv
  have hx := B.exec
  have hb := B.bytes
  have hr := B.returns
  have hts := atoms_spec (ws := wsX9_nextDue) B.pre
  have hown : s.vm.findClass RX9 = some m.cls := findClass_of_methodNamed B.named
  have hlocks := B.notSynchronized
  subst hsz
  have hD := hD0.self (sz := s.heap.size)
  generalize hAe : va_A [(oX9 h0 b0 (nI nb) p0 u0 r0 a0 t0 s0 o0), (oX0 a0 p0 a1 a3 a4 a5 a6 i6 i7 i8 i9 i10 i11 i12 i13 i14 i15 i16 i17 i18 i19), (oX3 p0 pr pb pe pg p1 (nI nd) p2 p3 p4 p5 (nI cn) p6 (nI pq) p7 p8 p9 (nI sc)), (a3, .inl (cA 0, 10, .inl fs)), (p5, .inl (cA 0, 10, .inl fby))] s.heap.size = A at hD hZ ⊢
  have hA : ∀ q : Nat, s.heap.size ≤ q → A q := fun q h => by rw [← hAe]; exact Or.inr h
  have hS : va_S A s.heap s.heap [] := va_S.rf
  have hP : va_P D vwCl [(oX9 h0 b0 (nI nb) p0 u0 r0 a0 t0 s0 o0), (oX0 a0 p0 a1 a3 a4 a5 a6 i6 i7 i8 i9 i10 i11 i12 i13 i14 i15 i16 i17 i18 i19), (oX3 p0 pr pb pe pg p1 (nI nd) p2 p3 p4 p5 (nI cn) p6 (nI pq) p7 p8 p9 (nI sc)), (a3, .inl (cA 0, 10, .inl fs)), (p5, .inl (cA 0, 10, .inl fby))] s.heap := hP
  have hl := lv_entry ([.ref h0]) (n := 1) (Nat.le_of_ble_eq_true rfl)
  rw [lg_entry_eq]
  generalize (lg_sl ([.ref h0]) ++ List.replicate (1 - (lg_sl ([.ref h0])).length) Slot.unset).toArray = ls at hl ⊢
  have hl : lv_has ls 1 [(0, .ref h0)] := hl
  have inX9 : ∀ w ∈ u_ws RX9 TX9 9, w ∈ wsX9_nextDue := by decide +kernel
  refine lv_aload_n hx hb dX9_nextDue_0 rfl (lv_at hl 0 rfl) ?_
  refine va_get (D := D) (ci := 10) (v := .ref a0) (C := RX9) (T := TX9) (N := 9) hx hb hts inX9 hown hK hP 0 rfl rfl 5 (by decide) (hts (.fieldLink RX9 35 "EscrowDesk" "account" "LEscrowDesk$Account;") (by decide +kernel)) (fun _ h9 => h9) rfl dX9_nextDue_1 ?_
  refine lv_iconst (v := 0) hx hb dX9_nextDue_4 (by decide) ?_
  obtain ⟨hPc, hDc, hFc⟩ := PDq.cut (wc := [(oX0 a0 p0 a1 a3 a4 a5 a6 i6 i7 i8 i9 i10 i11 i12 i13 i14 i15 i16 i17 i18 i19), (oX3 p0 pr pb pe pg p1 (nI nd) p2 p3 p4 p5 (nI cn) p6 (nI pq) p7 p8 p9 (nI sc)), (a3, .inl (cA 0, 10, .inl fs)), (p5, .inl (cA 0, 10, .inl fby))]) hP hD hS hA [1, 2, 3, 4] (by decide) rfl
  refine va_calli (va_runV (As := [.int 0]) (rest := []) ⟨hx, hb, hml, hown, hts⟩ (s_dueByRank l D cA sa a0 a1 a3 a4 a5 a6 p0 i6 i7 i8 i12 i13 i14 i15 i16 i17 i18 i19 i9 i10 i11 p1 p2 p3 p4 p5 p6 p7 p8 p9 cn pq nd sc pr pb pe pg 0 fs fby s.heap.size hcn hpq hnd hsc hby) (cwV 1 hts gX9_nextDue_X0_dueByRank rfl rfl rfl (by decide +kernel) ⟨(Nat.le_of_ble_eq_true rfl), (Nat.le_of_ble_eq_true rfl)⟩) ⟨Wd.blind, va_recv hK hPc (ci := 4) (q0 := 0) rfl rfl, fun U hU hW => ⟨rfl, Wd.call hPc hDc hK hC hZ hS hFc U hU hW⟩⟩ rfl rfl hl.1 rfl (lv_room (Nat.le_of_ble_eq_true rfl)) dX9_nextDue_5 ⟨(Nat.le_of_ble_eq_true rfl), (Nat.le_of_ble_eq_true rfl)⟩) hS (fun q _ h => hFc q h) hFc (fun rn1 u t H1 locs ht hvm hw hB hz1 hk1 hS => ?_)
  obtain ⟨hP1, hD1⟩ := hB
  rw [ht] at hP1
  obtain ⟨hP, hD⟩ := PDq.join (w := [(oX9 h0 b0 (nI nb) p0 u0 r0 a0 t0 s0 o0), (oX0 a0 p0 a1 a3 a4 a5 a6 i6 i7 i8 i9 i10 i11 i12 i13 i14 i15 i16 i17 i18 i19), (oX3 p0 pr pb pe pg p1 (nI nd) p2 p3 p4 p5 (nI cn) p6 (nI pq) p7 p8 p9 (nI sc)), (a3, .inl (cA 0, 10, .inl fs)), (p5, .inl (cA 0, 10, .inl fby))]) 1 hP hD [1, 2, 3, 4] [0] rfl rfl (by decide) (by decide) hk1 hFc hP1 hD1 rfl
  generalize H1 = H at hP hS ⊢
  rcases hw with hr9 | ⟨kn3, hn2, hr9⟩
  · skip
    subst hr9
    obtain ⟨hP9, hD9⟩ := PDq.sub (ws' := [(oX9 h0 b0 (nI nb) p0 u0 r0 a0 t0 s0 o0), (oX0 a0 p0 a1 a3 a4 a5 a6 i6 i7 i8 i9 i10 i11 i12 i13 i14 i15 i16 i17 i18 i19), (oX3 p0 pr pb pe pg p1 (nI nd) p2 p3 p4 p5 (nI cn) p6 (nI pq) p7 p8 p9 (nI sc)), (a3, .inl (cA 0, 10, .inl fs)), (p5, .inl (cA 0, 10, .inl fby))]) hP hD [0, 1, 2, 3, 4] (by decide) rfl
    refine W.widen (k := 0) (n := 0) (Nat.le_of_ble_eq_true rfl) (Nat.le_of_ble_eq_true rfl) ?_
    exact (W.iret (v := (-1)) hx hb hr (fun t ht hW => ⟨⟨(-1), (), rfl, trivial, by rw [ht]; exact hP9, hD9⟩, hS.F ht⟩) hS.2.2 dX9_nextDue_8)
  · skip
    subst hr9
    obtain ⟨hP9, hD9⟩ := PDq.sub (ws' := [(oX9 h0 b0 (nI nb) p0 u0 r0 a0 t0 s0 o0), (oX0 a0 p0 a1 a3 a4 a5 a6 i6 i7 i8 i9 i10 i11 i12 i13 i14 i15 i16 i17 i18 i19), (oX3 p0 pr pb pe pg p1 (nI nd) p2 p3 p4 p5 (nI cn) p6 (nI pq) p7 p8 p9 (nI sc)), (a3, .inl (cA 0, 10, .inl fs)), (p5, .inl (cA 0, 10, .inl fby))]) hP hD [0, 1, 2, 3, 4] (by decide) rfl
    refine W.widen (k := 0) (n := 0) (Nat.le_of_ble_eq_true rfl) (Nat.le_of_ble_eq_true rfl) ?_
    exact (W.iret (v := (nI kn3)) hx hb hr (fun t ht hW => ⟨⟨(nI kn3), (), rfl, trivial, by rw [ht]; exact hP9, hD9⟩, hS.F ht⟩) hS.2.2 dX9_nextDue_8)

set_option maxHeartbeats 4000000 in
set_option maxRecDepth 100000 in
/-- shortage -/
theorem s_shortage (l : Launch) (D : va_G) (cA : Nat → ClassId) (sa : Nat → Nat) (h0 : Nat) (b0 : Nat) (nb : Nat) (p0 : Nat) (u0 : Nat) (r0 : Nat) (a0 : Nat) (t0 : Nat) (s0 : Nat) (o0 : Nat) (a1 : Nat) (a3 : Nat) (a4 : Nat) (a5 : Nat) (a6 : Nat) (i6 : Int32) (i7 : Int32) (i8 : Int32) (i12 : Int32) (i13 : Int32) (i14 : Int32) (i15 : Int32) (i16 : Int32) (i17 : Int32) (i18 : Int32) (i19 : Int32) (i9 : Int64) (i10 : Int64) (i11 : Int64) (p1 : Nat) (p2 : Nat) (p3 : Nat) (p4 : Nat) (p5 : Nat) (p6 : Nat) (p7 : Nat) (p8 : Nat) (p9 : Nat) (cn : Nat) (pq : Nat) (nd : Nat) (sc : Nat) (pr : Int32) (pb : Int32) (pe : Int32) (pg : Int32) (fs : Nat → Int32) (fp : Nat → Int32) (fam : Nat → Int32) (sz : Nat) (hcn : cn ≤ 10) (hpq : pq ≤ 8) (hnd : nd ≤ 6) (hsc : sc ≤ 350) : Met l yX9_shortage wsX9_shortage ({ frames := 2, cells := 0, slots := 0, locals := 42 }) (va_Pc [.ref h0] (Wd D cA sa [(oX9 h0 b0 (nI nb) p0 u0 r0 a0 t0 s0 o0), (oX0 a0 p0 a1 a3 a4 a5 a6 i6 i7 i8 i9 i10 i11 i12 i13 i14 i15 i16 i17 i18 i19), (oX3 p0 pr pb pe pg p1 (nI nd) p2 p3 p4 p5 (nI cn) p6 (nI pq) p7 p8 p9 (nI sc)), (a3, .inl (cA 0, 10, .inl fs)), (a4, .inl (cA 0, 10, .inl fp)), (p3, .inl (cA 0, 10, .inl fam))] sz)) (va_Qi (fun (r : Int32) (_ : Unit) => True) (fun (_ : Unit) t => Wq D (va_A [(oX9 h0 b0 (nI nb) p0 u0 r0 a0 t0 s0 o0), (oX0 a0 p0 a1 a3 a4 a5 a6 i6 i7 i8 i9 i10 i11 i12 i13 i14 i15 i16 i17 i18 i19), (oX3 p0 pr pb pe pg p1 (nI nd) p2 p3 p4 p5 (nI cn) p6 (nI pq) p7 p8 p9 (nI sc)), (a3, .inl (cA 0, 10, .inl fs)), (a4, .inl (cA 0, 10, .inl fp)), (p3, .inl (cA 0, 10, .inl fam))] sz) [(oX9 h0 b0 (nI nb) p0 u0 r0 a0 t0 s0 o0), (oX0 a0 p0 a1 a3 a4 a5 a6 i6 i7 i8 i9 i10 i11 i12 i13 i14 i15 i16 i17 i18 i19), (oX3 p0 pr pb pe pg p1 (nI nd) p2 p3 p4 p5 (nI cn) p6 (nI pq) p7 p8 p9 (nI sc)), (a3, .inl (cA 0, 10, .inl fs)), (a4, .inl (cA 0, 10, .inl fp)), (p3, .inl (cA 0, 10, .inl fam))] t) (va_A [(oX9 h0 b0 (nI nb) p0 u0 r0 a0 t0 s0 o0), (oX0 a0 p0 a1 a3 a4 a5 a6 i6 i7 i8 i9 i10 i11 i12 i13 i14 i15 i16 i17 i18 i19), (oX3 p0 pr pb pe pg p1 (nI nd) p2 p3 p4 p5 (nI cn) p6 (nI pq) p7 p8 p9 (nI sc)), (a3, .inl (cA 0, 10, .inl fs)), (a4, .inl (cA 0, 10, .inl fp)), (p3, .inl (cA 0, 10, .inl fam))] sz)) 0 0 (va_A [(oX9 h0 b0 (nI nb) p0 u0 r0 a0 t0 s0 o0), (oX0 a0 p0 a1 a3 a4 a5 a6 i6 i7 i8 i9 i10 i11 i12 i13 i14 i15 i16 i17 i18 i19), (oX3 p0 pr pb pe pg p1 (nI nd) p2 p3 p4 p5 (nI cn) p6 (nI pq) p7 p8 p9 (nI sc)), (a3, .inl (cA 0, 10, .inl fs)), (a4, .inl (cA 0, 10, .inl fp)), (p3, .inl (cA 0, 10, .inl fam))] sz) := by
  refine Met.ofW (cc := cX9_shortage) (maxL := 3) (ret := (some .int)) (by decide) rfl ?_
  intro p e s m args below meth c s₁ B hml hv
  obtain ⟨rfl, hsz, hP, hK, hD0, hC, hZ⟩ := hv
  have hx := B.exec
  have hb := B.bytes
  have hr := B.returns
  have hts := atoms_spec (ws := wsX9_shortage) B.pre
  have hown : s.vm.findClass RX9 = some m.cls := findClass_of_methodNamed B.named
  have hlocks := B.notSynchronized
  subst hsz
  have hD := hD0.self (sz := s.heap.size)
  generalize hAe : va_A [(oX9 h0 b0 (nI nb) p0 u0 r0 a0 t0 s0 o0), (oX0 a0 p0 a1 a3 a4 a5 a6 i6 i7 i8 i9 i10 i11 i12 i13 i14 i15 i16 i17 i18 i19), (oX3 p0 pr pb pe pg p1 (nI nd) p2 p3 p4 p5 (nI cn) p6 (nI pq) p7 p8 p9 (nI sc)), (a3, .inl (cA 0, 10, .inl fs)), (a4, .inl (cA 0, 10, .inl fp)), (p3, .inl (cA 0, 10, .inl fam))] s.heap.size = A at hD hZ ⊢
  have hA : ∀ q : Nat, s.heap.size ≤ q → A q := fun q h => by rw [← hAe]; exact Or.inr h
  have hS : va_S A s.heap s.heap [] := va_S.rf
  have hP : va_P D vwCl [(oX9 h0 b0 (nI nb) p0 u0 r0 a0 t0 s0 o0), (oX0 a0 p0 a1 a3 a4 a5 a6 i6 i7 i8 i9 i10 i11 i12 i13 i14 i15 i16 i17 i18 i19), (oX3 p0 pr pb pe pg p1 (nI nd) p2 p3 p4 p5 (nI cn) p6 (nI pq) p7 p8 p9 (nI sc)), (a3, .inl (cA 0, 10, .inl fs)), (a4, .inl (cA 0, 10, .inl fp)), (p3, .inl (cA 0, 10, .inl fam))] s.heap := hP
  have hl := lv_entry ([.ref h0]) (n := 3) (Nat.le_of_ble_eq_true rfl)
  rw [lg_entry_eq]
  generalize (lg_sl ([.ref h0]) ++ List.replicate (3 - (lg_sl ([.ref h0])).length) Slot.unset).toArray = ls at hl ⊢
  have hl : lv_has ls 3 [(0, .ref h0)] := hl
  have inX0 : ∀ w ∈ u_ws RX0 TX0 20, w ∈ wsX9_shortage := by decide +kernel
  have inX3 : ∀ w ∈ u_ws RX3 TX3 17, w ∈ wsX9_shortage := by decide +kernel
  have inX9 : ∀ w ∈ u_ws RX9 TX9 9, w ∈ wsX9_shortage := by decide +kernel
  refine lv_iconst (v := 0) hx hb dX9_shortage_0 (by decide) ?_
  refine lv_istore_n (lv' := [(1, .int 0), (0, .ref h0)]) hx hb dX9_shortage_1 rfl hl (by decide) rfl (fun ls hl => ?_)
  refine lv_iconst (v := 0) hx hb dX9_shortage_2 (by decide) ?_
  refine lv_istore_n (lv' := [(2, .int 0), (1, .int 0), (0, .ref h0)]) hx hb dX9_shortage_3 rfl hl (by decide) rfl (fun ls hl => ?_)
  have loop1 : ∀ (n1 i1 : Nat) (x1_1 : Int32) (H : Heap) (locs : List Loc) (ls : Array Slot), i1 + n1 = cn → va_P D vwCl [(oX9 h0 b0 (nI nb) p0 u0 r0 a0 t0 s0 o0), (oX0 a0 p0 a1 a3 a4 a5 a6 i6 i7 i8 i9 i10 i11 i12 i13 i14 i15 i16 i17 i18 i19), (oX3 p0 pr pb pe pg p1 (nI nd) p2 p3 p4 p5 (nI cn) p6 (nI pq) p7 p8 p9 (nI sc)), (a3, .inl (cA 0, 10, .inl fs)), (a4, .inl (cA 0, 10, .inl fp)), (p3, .inl (cA 0, 10, .inl fam))] H → va_D A [(oX9 h0 b0 (nI nb) p0 u0 r0 a0 t0 s0 o0), (oX0 a0 p0 a1 a3 a4 a5 a6 i6 i7 i8 i9 i10 i11 i12 i13 i14 i15 i16 i17 i18 i19), (oX3 p0 pr pb pe pg p1 (nI nd) p2 p3 p4 p5 (nI cn) p6 (nI pq) p7 p8 p9 (nI sc)), (a3, .inl (cA 0, 10, .inl fs)), (a4, .inl (cA 0, 10, .inl fp)), (p3, .inl (cA 0, 10, .inl fam))] → va_S A s.heap H locs → lv_has ls 3 [(2, .int (nI i1)), (1, .int x1_1), (0, .ref h0)] → W p l e (headSpec wsX9_shortage ({ frames := 2, cells := 0, slots := 0, locals := 42 } : Room)).room s m ([.ref h0] : List Value).toArray below meth c H locs 0 0 (MQ below (va_Qi (fun (r : Int32) (_ : Unit) => True) (fun (_ : Unit) t => Wq D A [(oX9 h0 b0 (nI nb) p0 u0 r0 a0 t0 s0 o0), (oX0 a0 p0 a1 a3 a4 a5 a6 i6 i7 i8 i9 i10 i11 i12 i13 i14 i15 i16 i17 i18 i19), (oX3 p0 pr pb pe pg p1 (nI nd) p2 p3 p4 p5 (nI cn) p6 (nI pq) p7 p8 p9 (nI sc)), (a3, .inl (cA 0, 10, .inl fs)), (a4, .inl (cA 0, 10, .inl fp)), (p3, .inl (cA 0, 10, .inl fam))] t) A) ([.ref h0] : List Value).toArray s 0 0 A) (F0 m 4 ls []) := by
    intro n1
    induction n1 with
    | zero =>
      intro i1 x1_1 H locs ls hi1 hP hD hS hl
      obtain rfl : cn = i1 := by omega
      refine lv_iload_n hx hb dX9_shortage_4 rfl (lv_at hl 0 rfl) ?_
      refine lv_aload_n hx hb dX9_shortage_5 rfl (lv_at hl 2 rfl) ?_
      refine va_get (D := D) (ci := 10) (v := .ref p0) (C := RX9) (T := TX9) (N := 9) hx hb hts inX9 hown hK hP 0 rfl rfl 2 (by decide) (hts (.fieldLink RX9 16 "EscrowDesk" "plan" "LEscrowDesk$Plan;") (by decide +kernel)) (fun _ h9 => h9) rfl dX9_shortage_6 ?_
      refine va_getN (D := D) (ci := 7) (v := .int (nI cn)) (C := RX3) (T := TX3) (N := 17) hx hb hts inX3 hown hK hP 2 rfl rfl 10 (by decide) (hC.f (A := _) (a := RX9) (i := 78) (b := "EscrowDesk$Plan") (n := "milestoneCount") (d := "I") (x := "EscrowDesk") (by decide +kernel)) (fun _ h9 => h9) rfl dX9_shortage_9 ?_
      refine lv_icmp_ge (tgt := 32) hx hb dX9_shortage_12 (by decide) (fun c1 => ?_) (fun c9 => absurd (nI_le (a := cn) (b := cn) (show cn ≤ cn by omega) (by omega)) c9)
      refine lv_iload_n hx hb dX9_shortage_32 rfl (lv_at hl 1 rfl) ?_
      refine lv_aload_n hx hb dX9_shortage_33 rfl (lv_at hl 2 rfl) ?_
      refine va_get (D := D) (ci := 10) (v := .ref a0) (C := RX9) (T := TX9) (N := 9) hx hb hts inX9 hown hK hP 0 rfl rfl 5 (by decide) (hts (.fieldLink RX9 35 "EscrowDesk" "account" "LEscrowDesk$Account;") (by decide +kernel)) (fun _ h9 => h9) rfl dX9_shortage_34 ?_
      refine va_getN (D := D) (ci := 4) (v := .int i8) (C := RX0) (T := TX0) (N := 20) hx hb hts inX0 hown hK hP 1 rfl rfl 8 (by decide) (hC.f (A := _) (a := RX9) (i := 93) (b := "EscrowDesk$Account") (n := "principal") (d := "I") (x := "EscrowDesk") (by decide +kernel)) (fun _ h9 => h9) rfl dX9_shortage_37 ?_
      refine lv_isub hx hb dX9_shortage_40 ?_
      refine lv_topi (fun yn2 eyn2 => ?_)
      refine lv_iconst (v := 0) hx hb dX9_shortage_41 (by decide) ?_
      refine va_mmax hx hb (by rw [hml]; exact hl.1.symm) hown (hts (.methodLink RX9 175 Lib.Math.max.name) (by decide +kernel)) (hts (.static Lib.Math.max.name) (by decide +kernel)) (hts (.initialized "java/lang/Math") (by decide +kernel)) (hts (.code Lib.Math.max.name Lib.Math.max.code 2 (some .int)) (by decide +kernel)) (Nat.le_of_ble_eq_true rfl) (Nat.le_of_ble_eq_true rfl) (Nat.le_of_ble_eq_true rfl) (Nat.le_of_ble_eq_true rfl) dX9_shortage_42 ?_
      refine lv_topi (fun yn3 eyn3 => ?_)
      obtain ⟨hP9, hD9⟩ := PDq.sub (ws' := [(oX9 h0 b0 (nI nb) p0 u0 r0 a0 t0 s0 o0), (oX0 a0 p0 a1 a3 a4 a5 a6 i6 i7 i8 i9 i10 i11 i12 i13 i14 i15 i16 i17 i18 i19), (oX3 p0 pr pb pe pg p1 (nI nd) p2 p3 p4 p5 (nI cn) p6 (nI pq) p7 p8 p9 (nI sc)), (a3, .inl (cA 0, 10, .inl fs)), (a4, .inl (cA 0, 10, .inl fp)), (p3, .inl (cA 0, 10, .inl fam))]) hP hD [0, 1, 2, 3, 4, 5] (by decide) rfl
      refine W.widen (k := 0) (n := 0) (Nat.le_of_ble_eq_true rfl) (Nat.le_of_ble_eq_true rfl) ?_
      exact (W.iret (v := yn3) hx hb hr (fun t ht hW => ⟨⟨yn3, (), rfl, trivial, by rw [ht]; exact hP9, hD9⟩, hS.F ht⟩) hS.2.2 dX9_shortage_45)
    | succ n1 ih1 =>
      intro i1 x1_1 H locs ls hi1 hP hD hS hl
      refine lv_iload_n hx hb dX9_shortage_4 rfl (lv_at hl 0 rfl) ?_
      refine lv_aload_n hx hb dX9_shortage_5 rfl (lv_at hl 2 rfl) ?_
      refine va_get (D := D) (ci := 10) (v := .ref p0) (C := RX9) (T := TX9) (N := 9) hx hb hts inX9 hown hK hP 0 rfl rfl 2 (by decide) (hts (.fieldLink RX9 16 "EscrowDesk" "plan" "LEscrowDesk$Plan;") (by decide +kernel)) (fun _ h9 => h9) rfl dX9_shortage_6 ?_
      refine va_getN (D := D) (ci := 7) (v := .int (nI cn)) (C := RX3) (T := TX3) (N := 17) hx hb hts inX3 hown hK hP 2 rfl rfl 10 (by decide) (hC.f (A := _) (a := RX9) (i := 78) (b := "EscrowDesk$Plan") (n := "milestoneCount") (d := "I") (x := "EscrowDesk") (by decide +kernel)) (fun _ h9 => h9) rfl dX9_shortage_9 ?_
      refine lv_icmp_ge (tgt := 32) hx hb dX9_shortage_12 (by decide) (fun c9 => absurd c9 (nI_ge (a := i1) (b := cn) (show i1 < cn by omega) (by omega))) (fun c4 => ?_)
      refine lv_iload_n hx hb dX9_shortage_15 rfl (lv_at hl 1 rfl) ?_
      refine lv_aload_n hx hb dX9_shortage_16 rfl (lv_at hl 2 rfl) ?_
      refine va_get (D := D) (ci := 10) (v := .ref a0) (C := RX9) (T := TX9) (N := 9) hx hb hts inX9 hown hK hP 0 rfl rfl 5 (by decide) (hts (.fieldLink RX9 35 "EscrowDesk" "account" "LEscrowDesk$Account;") (by decide +kernel)) (fun _ h9 => h9) rfl dX9_shortage_17 ?_
      refine lv_iload_n hx hb dX9_shortage_20 rfl (lv_at hl 0 rfl) ?_
      obtain ⟨hPc, hDc, hFc⟩ := PDq.cut (wc := [(oX0 a0 p0 a1 a3 a4 a5 a6 i6 i7 i8 i9 i10 i11 i12 i13 i14 i15 i16 i17 i18 i19), (oX3 p0 pr pb pe pg p1 (nI nd) p2 p3 p4 p5 (nI cn) p6 (nI pq) p7 p8 p9 (nI sc)), (a3, .inl (cA 0, 10, .inl fs)), (a4, .inl (cA 0, 10, .inl fp)), (p3, .inl (cA 0, 10, .inl fam))]) hP hD hS hA [1, 2, 3, 4, 5] (by decide) rfl
      refine va_calli (va_runV (As := [.int (nI i1)]) (rest := [.int x1_1]) ⟨hx, hb, hml, hown, hts⟩ (s_remainingOf l D cA sa a0 a1 a3 a4 a5 a6 p0 i6 i7 i8 i12 i13 i14 i15 i16 i17 i18 i19 i9 i10 i11 p1 p2 p3 p4 p5 p6 p7 p8 p9 cn pq nd sc pr pb pe pg i1 fs fp fam H.size (by omega)) (cwV 1 hts gX9_shortage_X0_remainingOf rfl rfl rfl (by decide +kernel) ⟨(Nat.le_of_ble_eq_true rfl), (Nat.le_of_ble_eq_true rfl)⟩) ⟨Wd.blind, va_recv hK hPc (ci := 4) (q0 := 0) rfl rfl, fun U hU hW => ⟨rfl, Wd.call hPc hDc hK hC hZ hS hFc U hU hW⟩⟩ rfl rfl hl.1 rfl (lv_room (Nat.le_of_ble_eq_true rfl)) dX9_shortage_21 ⟨(Nat.le_of_ble_eq_true rfl), (Nat.le_of_ble_eq_true rfl)⟩) hS (fun q _ h => hFc q h) hFc (fun rn5 u t H1 locs ht hvm hw hB hz1 hk1 hS => ?_)
      obtain ⟨hP1, hD1⟩ := hB
      rw [ht] at hP1
      obtain ⟨hP, hD⟩ := PDq.join (w := [(oX9 h0 b0 (nI nb) p0 u0 r0 a0 t0 s0 o0), (oX0 a0 p0 a1 a3 a4 a5 a6 i6 i7 i8 i9 i10 i11 i12 i13 i14 i15 i16 i17 i18 i19), (oX3 p0 pr pb pe pg p1 (nI nd) p2 p3 p4 p5 (nI cn) p6 (nI pq) p7 p8 p9 (nI sc)), (a3, .inl (cA 0, 10, .inl fs)), (a4, .inl (cA 0, 10, .inl fp)), (p3, .inl (cA 0, 10, .inl fam))]) 1 hP hD [1, 2, 3, 4, 5] [0] rfl rfl (by decide) (by decide) hk1 hFc hP1 hD1 rfl
      generalize H1 = H at hP hS ⊢
      refine lv_iadd hx hb dX9_shortage_24 ?_
      refine lv_topi (fun yn6 eyn6 => ?_)
      refine lv_istore_n (lv' := [(1, .int yn6), (2, .int (nI i1)), (0, .ref h0)]) hx hb dX9_shortage_25 rfl hl (by decide) rfl (fun ls hl => ?_)
      refine lv_iinc (v := (nI (i1 + 1))) (lv' := [(2, .int (nI (i1 + 1))), (1, .int yn6), (0, .ref h0)]) hx hb dX9_shortage_26 hl (k := 1) rfl (nI_1 _) (by decide) rfl (fun ls hl => ?_)
      refine lv_goto (tgt := 4) hx hb dX9_shortage_29 (by decide) ?_
      obtain ⟨hP9, hD9⟩ := PDq.sub (ws' := [(oX9 h0 b0 (nI nb) p0 u0 r0 a0 t0 s0 o0), (oX0 a0 p0 a1 a3 a4 a5 a6 i6 i7 i8 i9 i10 i11 i12 i13 i14 i15 i16 i17 i18 i19), (oX3 p0 pr pb pe pg p1 (nI nd) p2 p3 p4 p5 (nI cn) p6 (nI pq) p7 p8 p9 (nI sc)), (a3, .inl (cA 0, 10, .inl fs)), (a4, .inl (cA 0, 10, .inl fp)), (p3, .inl (cA 0, 10, .inl fam))]) hP hD [0, 1, 2, 3, 4, 5] (by decide) rfl
      exact ih1 (i1 + 1) yn6 H _ ls (by omega) hP9 hD9 hS (lv_sub hl [0, 1, 2] rfl)
  obtain ⟨hP9, hD9⟩ := PDq.sub (ws' := [(oX9 h0 b0 (nI nb) p0 u0 r0 a0 t0 s0 o0), (oX0 a0 p0 a1 a3 a4 a5 a6 i6 i7 i8 i9 i10 i11 i12 i13 i14 i15 i16 i17 i18 i19), (oX3 p0 pr pb pe pg p1 (nI nd) p2 p3 p4 p5 (nI cn) p6 (nI pq) p7 p8 p9 (nI sc)), (a3, .inl (cA 0, 10, .inl fs)), (a4, .inl (cA 0, 10, .inl fp)), (p3, .inl (cA 0, 10, .inl fam))]) hP hD [0, 1, 2, 3, 4, 5] (by decide) rfl
  exact loop1 (cn - 0) 0 0 _ _ ls (by omega) hP9 hD9 hS (lv_sub hl [0, 1, 2] rfl)

set_option maxHeartbeats 4000000 in
set_option maxRecDepth 100000 in
/-- tryDays -/
theorem s_tryDays (l : Launch) (D : va_G) (cA : Nat → ClassId) (sa : Nat → Nat) (h0 : Nat) (b0 : Nat) (nb : Nat) (p0 : Nat) (u0 : Nat) (r0 : Nat) (a0 : Nat) (t0 : Nat) (s0 : Nat) (o0 : Nat) (a1 : Nat) (a2 : Nat) (a3 : Nat) (a4 : Nat) (a5 : Nat) (a6 : Nat) (i6 : Int32) (i7 : Int32) (i8 : Int32) (i12 : Int32) (i13 : Int32) (i14 : Int32) (i15 : Int32) (i16 : Int32) (i17 : Int32) (i18 : Int32) (i19 : Int32) (i9 : Int64) (i10 : Int64) (i11 : Int64) (nx : Nat) (kp : Nat) (fr : Nat → Int32) (fs : Nat → Int32) (fp : Nat → Int32) (ff : Nat → Int32) (fd : Nat → Int32) (p1 : Nat) (p2 : Nat) (p3 : Nat) (p4 : Nat) (p5 : Nat) (p6 : Nat) (p7 : Nat) (p8 : Nat) (p9 : Nat) (cn : Nat) (pq : Nat) (nd : Nat) (sc : Nat) (pr : Int32) (pb : Int32) (pe : Int32) (pg : Int32) (fam : Nat → Int32) (fby : Nat → Int32) (fen : Nat → Int32) (fst : Nat → Int32) (fop : Nat → Int32) (t1 : Nat) (t2 : Nat) (t3 : Nat) (t4 : Nat) (t5 : Nat) (t6 : Nat) (tp : Nat) (nt : Nat) (kt : Nat) (y6 : Int32) (y7 : Int32) (y8 : Int32) (y12 : Int32) (y13 : Int32) (y14 : Int32) (y15 : Int32) (y16 : Int32) (y17 : Int32) (y18 : Int32) (y19 : Int32) (y9 : Int64) (y10 : Int64) (y11 : Int64) (yr : Nat → Int32) (ys : Nat → Int32) (yp : Nat → Int32) (yf : Nat → Int32) (yd : Nat → Int32) (N : Nat) (sz : Nat) (hnx : nx < 60) (hkp : kp ≤ 60) (hnt : nt < 60) (hkt : kt ≤ 60) (hcn : cn ≤ 10) (hpq : pq ≤ 8) (hnd : nd ≤ 6) (hsc : sc ≤ 350) (hby : Rng 10 10 fby) (hen : Rng 10 351 fen) (hN : N ≤ 120) : Met l yX9_tryDays wsX9_tryDays ({ frames := 6, cells := 0, slots := 0, locals := 140 }) (va_Pc [.ref h0, .int (nI N)] (Wd D cA sa [(oX9 h0 b0 (nI nb) p0 u0 r0 a0 t0 s0 o0), (oX0 a0 p0 a1 a3 a4 a5 a6 i6 i7 i8 i9 i10 i11 i12 i13 i14 i15 i16 i17 i18 i19), (a1, .inr (6, [.ref a2, .int (nI nx), .int (nI kp)])), (a2, .inl (cA 0, 240, .inl fr)), (a3, .inl (cA 0, 10, .inl fs)), (a4, .inl (cA 0, 10, .inl fp)), (a5, .inl (cA 0, 10, .inl ff)), (a6, .inl (cA 0, 10, .inl fd)), (oX3 p0 pr pb pe pg p1 (nI nd) p2 p3 p4 p5 (nI cn) p6 (nI pq) p7 p8 p9 (nI sc)), (p3, .inl (cA 0, 10, .inl fam)), (p5, .inl (cA 0, 10, .inl fby)), (p9, .inl (cA 0, 10, .inl fen)), (p7, .inl (cA 0, 350, .inl fst)), (p8, .inl (cA 0, 350, .inl fop)), (oX0 t0 tp t1 t3 t4 t5 t6 y6 y7 y8 y9 y10 y11 y12 y13 y14 y15 y16 y17 y18 y19), (t1, .inr (6, [.ref t2, .int (nI nt), .int (nI kt)])), (t2, .inl (cA 0, 240, .inl yr)), (t3, .inl (cA 0, 10, .inl ys)), (t4, .inl (cA 0, 10, .inl yp)), (t5, .inl (cA 0, 10, .inl yf)), (t6, .inl (cA 0, 10, .inl yd))] sz)) (va_Qv (fun _ : Unit => True) (fun (_ : Unit) t => ∃ tq : Nat, ∃ ny : Nat, ∃ ky : Nat, ∃ z6 : Int32, ∃ z7 : Int32, ∃ z8 : Int32, ∃ z12 : Int32, ∃ z13 : Int32, ∃ z14 : Int32, ∃ z15 : Int32, ∃ z16 : Int32, ∃ z17 : Int32, ∃ z18 : Int32, ∃ z19 : Int32, ∃ z9 : Int64, ∃ z10 : Int64, ∃ z11 : Int64, ∃ zr : Nat → Int32, ∃ zs : Nat → Int32, ∃ zp : Nat → Int32, ∃ zf : Nat → Int32, ∃ zd : Nat → Int32, ny < 60 ∧ ky ≤ 60 ∧ Wq D (va_A [(oX9 h0 b0 (nI nb) p0 u0 r0 a0 t0 s0 o0), (oX0 a0 p0 a1 a3 a4 a5 a6 i6 i7 i8 i9 i10 i11 i12 i13 i14 i15 i16 i17 i18 i19), (a1, .inr (6, [.ref a2, .int (nI nx), .int (nI kp)])), (a2, .inl (cA 0, 240, .inl fr)), (a3, .inl (cA 0, 10, .inl fs)), (a4, .inl (cA 0, 10, .inl fp)), (a5, .inl (cA 0, 10, .inl ff)), (a6, .inl (cA 0, 10, .inl fd)), (oX3 p0 pr pb pe pg p1 (nI nd) p2 p3 p4 p5 (nI cn) p6 (nI pq) p7 p8 p9 (nI sc)), (p3, .inl (cA 0, 10, .inl fam)), (p5, .inl (cA 0, 10, .inl fby)), (p9, .inl (cA 0, 10, .inl fen)), (p7, .inl (cA 0, 350, .inl fst)), (p8, .inl (cA 0, 350, .inl fop)), (oX0 t0 tp t1 t3 t4 t5 t6 y6 y7 y8 y9 y10 y11 y12 y13 y14 y15 y16 y17 y18 y19), (t1, .inr (6, [.ref t2, .int (nI nt), .int (nI kt)])), (t2, .inl (cA 0, 240, .inl yr)), (t3, .inl (cA 0, 10, .inl ys)), (t4, .inl (cA 0, 10, .inl yp)), (t5, .inl (cA 0, 10, .inl yf)), (t6, .inl (cA 0, 10, .inl yd))] sz) [(oX9 h0 b0 (nI nb) p0 u0 r0 a0 t0 s0 o0), (oX0 a0 p0 a1 a3 a4 a5 a6 i6 i7 i8 i9 i10 i11 i12 i13 i14 i15 i16 i17 i18 i19), (a1, .inr (6, [.ref a2, .int (nI nx), .int (nI kp)])), (a2, .inl (cA 0, 240, .inl fr)), (a3, .inl (cA 0, 10, .inl fs)), (a4, .inl (cA 0, 10, .inl fp)), (a5, .inl (cA 0, 10, .inl ff)), (a6, .inl (cA 0, 10, .inl fd)), (oX3 p0 pr pb pe pg p1 (nI nd) p2 p3 p4 p5 (nI cn) p6 (nI pq) p7 p8 p9 (nI sc)), (p3, .inl (cA 0, 10, .inl fam)), (p5, .inl (cA 0, 10, .inl fby)), (p9, .inl (cA 0, 10, .inl fen)), (p7, .inl (cA 0, 350, .inl fst)), (p8, .inl (cA 0, 350, .inl fop)), (oX0 t0 tq t1 t3 t4 t5 t6 z6 z7 z8 z9 z10 z11 z12 z13 z14 z15 z16 z17 z18 z19), (t1, .inr (6, [.ref t2, .int (nI ny), .int (nI ky)])), (t2, .inl (cA 0, 240, .inl zr)), (t3, .inl (cA 0, 10, .inl zs)), (t4, .inl (cA 0, 10, .inl zp)), (t5, .inl (cA 0, 10, .inl zf)), (t6, .inl (cA 0, 10, .inl zd))] t) (va_A [(oX9 h0 b0 (nI nb) p0 u0 r0 a0 t0 s0 o0), (oX0 a0 p0 a1 a3 a4 a5 a6 i6 i7 i8 i9 i10 i11 i12 i13 i14 i15 i16 i17 i18 i19), (a1, .inr (6, [.ref a2, .int (nI nx), .int (nI kp)])), (a2, .inl (cA 0, 240, .inl fr)), (a3, .inl (cA 0, 10, .inl fs)), (a4, .inl (cA 0, 10, .inl fp)), (a5, .inl (cA 0, 10, .inl ff)), (a6, .inl (cA 0, 10, .inl fd)), (oX3 p0 pr pb pe pg p1 (nI nd) p2 p3 p4 p5 (nI cn) p6 (nI pq) p7 p8 p9 (nI sc)), (p3, .inl (cA 0, 10, .inl fam)), (p5, .inl (cA 0, 10, .inl fby)), (p9, .inl (cA 0, 10, .inl fen)), (p7, .inl (cA 0, 350, .inl fst)), (p8, .inl (cA 0, 350, .inl fop)), (oX0 t0 tp t1 t3 t4 t5 t6 y6 y7 y8 y9 y10 y11 y12 y13 y14 y15 y16 y17 y18 y19), (t1, .inr (6, [.ref t2, .int (nI nt), .int (nI kt)])), (t2, .inl (cA 0, 240, .inl yr)), (t3, .inl (cA 0, 10, .inl ys)), (t4, .inl (cA 0, 10, .inl yp)), (t5, .inl (cA 0, 10, .inl yf)), (t6, .inl (cA 0, 10, .inl yd))] sz)) 0 0 (va_A [(oX9 h0 b0 (nI nb) p0 u0 r0 a0 t0 s0 o0), (oX0 a0 p0 a1 a3 a4 a5 a6 i6 i7 i8 i9 i10 i11 i12 i13 i14 i15 i16 i17 i18 i19), (a1, .inr (6, [.ref a2, .int (nI nx), .int (nI kp)])), (a2, .inl (cA 0, 240, .inl fr)), (a3, .inl (cA 0, 10, .inl fs)), (a4, .inl (cA 0, 10, .inl fp)), (a5, .inl (cA 0, 10, .inl ff)), (a6, .inl (cA 0, 10, .inl fd)), (oX3 p0 pr pb pe pg p1 (nI nd) p2 p3 p4 p5 (nI cn) p6 (nI pq) p7 p8 p9 (nI sc)), (p3, .inl (cA 0, 10, .inl fam)), (p5, .inl (cA 0, 10, .inl fby)), (p9, .inl (cA 0, 10, .inl fen)), (p7, .inl (cA 0, 350, .inl fst)), (p8, .inl (cA 0, 350, .inl fop)), (oX0 t0 tp t1 t3 t4 t5 t6 y6 y7 y8 y9 y10 y11 y12 y13 y14 y15 y16 y17 y18 y19), (t1, .inr (6, [.ref t2, .int (nI nt), .int (nI kt)])), (t2, .inl (cA 0, 240, .inl yr)), (t3, .inl (cA 0, 10, .inl ys)), (t4, .inl (cA 0, 10, .inl yp)), (t5, .inl (cA 0, 10, .inl yf)), (t6, .inl (cA 0, 10, .inl yd))] sz) := by
  refine Met.ofW (cc := cX9_tryDays) (maxL := 2) (ret := none) (by decide) rfl ?_
  intro p e s m args below meth c s₁ B hml hv
  obtain ⟨rfl, hsz, hP, hK, hD0, hC, hZ⟩ := hv
  have hx := B.exec
  have hb := B.bytes
  have hr := B.returns
  have hts := atoms_spec (ws := wsX9_tryDays) B.pre
  have hown : s.vm.findClass RX9 = some m.cls := findClass_of_methodNamed B.named
  have hlocks := B.notSynchronized
  subst hsz
  have hD := hD0.self (sz := s.heap.size)
  generalize hAe : va_A [(oX9 h0 b0 (nI nb) p0 u0 r0 a0 t0 s0 o0), (oX0 a0 p0 a1 a3 a4 a5 a6 i6 i7 i8 i9 i10 i11 i12 i13 i14 i15 i16 i17 i18 i19), (a1, .inr (6, [.ref a2, .int (nI nx), .int (nI kp)])), (a2, .inl (cA 0, 240, .inl fr)), (a3, .inl (cA 0, 10, .inl fs)), (a4, .inl (cA 0, 10, .inl fp)), (a5, .inl (cA 0, 10, .inl ff)), (a6, .inl (cA 0, 10, .inl fd)), (oX3 p0 pr pb pe pg p1 (nI nd) p2 p3 p4 p5 (nI cn) p6 (nI pq) p7 p8 p9 (nI sc)), (p3, .inl (cA 0, 10, .inl fam)), (p5, .inl (cA 0, 10, .inl fby)), (p9, .inl (cA 0, 10, .inl fen)), (p7, .inl (cA 0, 350, .inl fst)), (p8, .inl (cA 0, 350, .inl fop)), (oX0 t0 tp t1 t3 t4 t5 t6 y6 y7 y8 y9 y10 y11 y12 y13 y14 y15 y16 y17 y18 y19), (t1, .inr (6, [.ref t2, .int (nI nt), .int (nI kt)])), (t2, .inl (cA 0, 240, .inl yr)), (t3, .inl (cA 0, 10, .inl ys)), (t4, .inl (cA 0, 10, .inl yp)), (t5, .inl (cA 0, 10, .inl yf)), (t6, .inl (cA 0, 10, .inl yd))] s.heap.size = A at hD hZ ⊢
  have hA : ∀ q : Nat, s.heap.size ≤ q → A q := fun q h => by rw [← hAe]; exact Or.inr h
  have hS : va_S A s.heap s.heap [] := va_S.rf
  have hP : va_P D vwCl [(oX9 h0 b0 (nI nb) p0 u0 r0 a0 t0 s0 o0), (oX0 a0 p0 a1 a3 a4 a5 a6 i6 i7 i8 i9 i10 i11 i12 i13 i14 i15 i16 i17 i18 i19), (a1, .inr (6, [.ref a2, .int (nI nx), .int (nI kp)])), (a2, .inl (cA 0, 240, .inl fr)), (a3, .inl (cA 0, 10, .inl fs)), (a4, .inl (cA 0, 10, .inl fp)), (a5, .inl (cA 0, 10, .inl ff)), (a6, .inl (cA 0, 10, .inl fd)), (oX3 p0 pr pb pe pg p1 (nI nd) p2 p3 p4 p5 (nI cn) p6 (nI pq) p7 p8 p9 (nI sc)), (p3, .inl (cA 0, 10, .inl fam)), (p5, .inl (cA 0, 10, .inl fby)), (p9, .inl (cA 0, 10, .inl fen)), (p7, .inl (cA 0, 350, .inl fst)), (p8, .inl (cA 0, 350, .inl fop)), (oX0 t0 tp t1 t3 t4 t5 t6 y6 y7 y8 y9 y10 y11 y12 y13 y14 y15 y16 y17 y18 y19), (t1, .inr (6, [.ref t2, .int (nI nt), .int (nI kt)])), (t2, .inl (cA 0, 240, .inl yr)), (t3, .inl (cA 0, 10, .inl ys)), (t4, .inl (cA 0, 10, .inl yp)), (t5, .inl (cA 0, 10, .inl yf)), (t6, .inl (cA 0, 10, .inl yd))] s.heap := hP
  have hl := lv_entry ([.ref h0, .int (nI N)]) (n := 2) (Nat.le_of_ble_eq_true rfl)
  rw [lg_entry_eq]
  generalize (lg_sl ([.ref h0, .int (nI N)]) ++ List.replicate (2 - (lg_sl ([.ref h0, .int (nI N)])).length) Slot.unset).toArray = ls at hl ⊢
  have hl : lv_has ls 2 [(0, .ref h0), (1, .int (nI N))] := hl
  have inX9 : ∀ w ∈ u_ws RX9 TX9 9, w ∈ wsX9_tryDays := by decide +kernel
  refine lv_aload_n hx hb dX9_tryDays_0 rfl (lv_at hl 0 rfl) ?_
  refine va_get (D := D) (ci := 10) (v := .ref t0) (C := RX9) (T := TX9) (N := 9) hx hb hts inX9 hown hK hP 0 rfl rfl 6 (by decide) (hts (.fieldLink RX9 39 "EscrowDesk" "trial" "LEscrowDesk$Account;") (by decide +kernel)) (fun _ h9 => h9) rfl dX9_tryDays_1 ?_
  refine lv_aload_n hx hb dX9_tryDays_4 rfl (lv_at hl 0 rfl) ?_
  refine va_get (D := D) (ci := 10) (v := .ref a0) (C := RX9) (T := TX9) (N := 9) hx hb hts inX9 hown hK hP 0 rfl rfl 5 (by decide) (hts (.fieldLink RX9 35 "EscrowDesk" "account" "LEscrowDesk$Account;") (by decide +kernel)) (fun _ h9 => h9) rfl dX9_tryDays_5 ?_
  obtain ⟨hPc, hDc, hFc⟩ := PDq.cut (wc := [(oX0 t0 tp t1 t3 t4 t5 t6 y6 y7 y8 y9 y10 y11 y12 y13 y14 y15 y16 y17 y18 y19), (t1, .inr (6, [.ref t2, .int (nI nt), .int (nI kt)])), (t2, .inl (cA 0, 240, .inl yr)), (t3, .inl (cA 0, 10, .inl ys)), (t4, .inl (cA 0, 10, .inl yp)), (t5, .inl (cA 0, 10, .inl yf)), (t6, .inl (cA 0, 10, .inl yd)), (oX0 a0 p0 a1 a3 a4 a5 a6 i6 i7 i8 i9 i10 i11 i12 i13 i14 i15 i16 i17 i18 i19), (a1, .inr (6, [.ref a2, .int (nI nx), .int (nI kp)])), (a2, .inl (cA 0, 240, .inl fr)), (a3, .inl (cA 0, 10, .inl fs)), (a4, .inl (cA 0, 10, .inl fp)), (a5, .inl (cA 0, 10, .inl ff)), (a6, .inl (cA 0, 10, .inl fd))]) hP hD hS hA [14, 15, 16, 17, 18, 19, 20, 1, 2, 3, 4, 5, 6, 7] (by decide +kernel) rfl
  refine va_callv (va_runV (As := [.ref a0]) (rest := []) ⟨hx, hb, hml, hown, hts⟩ (s_copyFrom l D cA sa t0 t1 t2 t3 t4 t5 t6 nt kt (.ref tp) (.int y6) (.int y7) (.int y8) (.long y9) (.long y10) (.long y11) (.int y12) (.int y13) (.int y14) (.int y15) (.int y16) (.int y17) (.int y18) (.int y19) ys yp yf yd yr a0 a1 a2 a3 a4 a5 a6 p0 i6 i7 i8 i12 i13 i14 i15 i16 i17 i18 i19 i9 i10 i11 nx kp fr fs fp ff fd s.heap.size) (cwV 1 hts gX9_tryDays_X0_copyFrom rfl rfl rfl (by decide +kernel) ⟨(Nat.le_of_ble_eq_true rfl), (Nat.le_of_ble_eq_true rfl)⟩) ⟨Wd.blind, va_recv hK hPc (ci := 4) (q0 := 0) rfl rfl, fun U hU hW => ⟨rfl, Wd.call hPc hDc hK hC hZ hS hFc U hU hW⟩⟩ rfl rfl hl.1 rfl (lv_room (Nat.le_of_ble_eq_true rfl)) dX9_tryDays_8 ⟨(Nat.le_of_ble_eq_true rfl), (Nat.le_of_ble_eq_true rfl)⟩) hS (fun q _ h => hFc q h) hFc (fun u t H1 locs ht hvm hw hB hz1 hk1 hS => ?_)
  obtain ⟨fn1, fn2, fn3, fn4, fn5, hP1, hD1⟩ := hB
  rw [ht] at hP1
  obtain ⟨hP, hD⟩ := PDq.join (w := [(oX9 h0 b0 (nI nb) p0 u0 r0 a0 t0 s0 o0), (oX3 p0 pr pb pe pg p1 (nI nd) p2 p3 p4 p5 (nI cn) p6 (nI pq) p7 p8 p9 (nI sc)), (p3, .inl (cA 0, 10, .inl fam)), (p5, .inl (cA 0, 10, .inl fby)), (p9, .inl (cA 0, 10, .inl fen)), (p7, .inl (cA 0, 350, .inl fst)), (p8, .inl (cA 0, 350, .inl fop)), (oX0 t0 p0 t1 t3 t4 t5 t6 i6 i7 i8 i9 i10 i11 i12 i13 i14 i15 i16 i17 i18 i19), (t1, .inr (6, [.ref t2, .int (nI nx), .int (nI kp)])), (t2, .inl (cA 0, 240, .inl fn5)), (t3, .inl (cA 0, 10, .inl fn1)), (t4, .inl (cA 0, 10, .inl fn2)), (t5, .inl (cA 0, 10, .inl fn3)), (t6, .inl (cA 0, 10, .inl fn4)), (oX0 a0 p0 a1 a3 a4 a5 a6 i6 i7 i8 i9 i10 i11 i12 i13 i14 i15 i16 i17 i18 i19), (a1, .inr (6, [.ref a2, .int (nI nx), .int (nI kp)])), (a2, .inl (cA 0, 240, .inl fr)), (a3, .inl (cA 0, 10, .inl fs)), (a4, .inl (cA 0, 10, .inl fp)), (a5, .inl (cA 0, 10, .inl ff)), (a6, .inl (cA 0, 10, .inl fd))]) 7 hP hD [14, 15, 16, 17, 18, 19, 20, 1, 2, 3, 4, 5, 6, 7] [0, 8, 9, 10, 11, 12, 13] rfl rfl (by decide) (by decide +kernel) hk1 hFc hP1 hD1 rfl
  generalize H1 = H at hP hS ⊢
  refine lv_aload_n hx hb dX9_tryDays_11 rfl (lv_at hl 0 rfl) ?_
  refine va_get (D := D) (ci := 10) (v := .ref t0) (C := RX9) (T := TX9) (N := 9) hx hb hts inX9 hown hK hP 0 rfl rfl 6 (by decide) (hts (.fieldLink RX9 39 "EscrowDesk" "trial" "LEscrowDesk$Account;") (by decide +kernel)) (fun _ h9 => h9) rfl dX9_tryDays_12 ?_
  refine lv_iload_n hx hb dX9_tryDays_15 rfl (lv_at hl 1 rfl) ?_
  obtain ⟨hPc, hDc, hFc⟩ := PDq.cut (wc := [(oX0 t0 p0 t1 t3 t4 t5 t6 i6 i7 i8 i9 i10 i11 i12 i13 i14 i15 i16 i17 i18 i19), (t1, .inr (6, [.ref t2, .int (nI nx), .int (nI kp)])), (t2, .inl (cA 0, 240, .inl fn5)), (t3, .inl (cA 0, 10, .inl fn1)), (t4, .inl (cA 0, 10, .inl fn2)), (t5, .inl (cA 0, 10, .inl fn3)), (t6, .inl (cA 0, 10, .inl fn4)), (oX3 p0 pr pb pe pg p1 (nI nd) p2 p3 p4 p5 (nI cn) p6 (nI pq) p7 p8 p9 (nI sc)), (p3, .inl (cA 0, 10, .inl fam)), (p5, .inl (cA 0, 10, .inl fby)), (p9, .inl (cA 0, 10, .inl fen)), (p7, .inl (cA 0, 350, .inl fst)), (p8, .inl (cA 0, 350, .inl fop))]) hP hD hS hA [7, 8, 9, 10, 11, 12, 13, 1, 2, 3, 4, 5, 6] (by decide +kernel) rfl
  refine va_callv (va_runV (As := [.int (nI N)]) (rest := []) ⟨hx, hb, hml, hown, hts⟩ (s_liveDays l D cA sa t0 t1 t2 t3 t4 t5 t6 p0 i6 i7 i8 i12 i13 i14 i15 i16 i17 i18 i19 i9 i10 i11 nx kp fn5 p1 p2 p3 p4 p5 p6 p7 p8 p9 cn pq nd sc pr pb pe pg fn1 fn2 fn3 fn4 fam fby fen fst fop N H.size hnx hkp hcn hpq hnd hsc hby hen hN) (cwV 1 hts gX9_tryDays_X0_liveDays rfl rfl rfl (by decide +kernel) ⟨(Nat.le_of_ble_eq_true rfl), (Nat.le_of_ble_eq_true rfl)⟩) ⟨Wd.blind, va_recv hK hPc (ci := 4) (q0 := 0) rfl rfl, fun U hU hW => ⟨rfl, Wd.call hPc hDc hK hC hZ hS hFc U hU hW⟩⟩ rfl rfl hl.1 rfl (lv_room (Nat.le_of_ble_eq_true rfl)) dX9_tryDays_16 ⟨(Nat.le_of_ble_eq_true rfl), (Nat.le_of_ble_eq_true rfl)⟩) hS (fun q _ h => hFc q h) hFc (fun u t H1 locs ht hvm hw hB hz1 hk1 hS => ?_)
  obtain ⟨zn6, zn7, zn8, zn9, zn10, zn11, zn12, zn13, zn14, zn15, zn16, zn17, zn18, zn19, qn20, qn21, fn22, fn23, fn24, fn25, fn26, hn27, hn28, hP1, hD1⟩ := hB
  rw [ht] at hP1
  obtain ⟨hP, hD⟩ := PDq.join (w := [(oX9 h0 b0 (nI nb) p0 u0 r0 a0 t0 s0 o0), (oX0 a0 p0 a1 a3 a4 a5 a6 i6 i7 i8 i9 i10 i11 i12 i13 i14 i15 i16 i17 i18 i19), (a1, .inr (6, [.ref a2, .int (nI nx), .int (nI kp)])), (a2, .inl (cA 0, 240, .inl fr)), (a3, .inl (cA 0, 10, .inl fs)), (a4, .inl (cA 0, 10, .inl fp)), (a5, .inl (cA 0, 10, .inl ff)), (a6, .inl (cA 0, 10, .inl fd)), (oX0 t0 p0 t1 t3 t4 t5 t6 zn6 zn7 zn8 zn17 zn18 zn19 zn9 zn10 zn11 zn12 zn13 zn14 zn15 zn16), (t1, .inr (6, [.ref t2, .int (nI qn20), .int (nI qn21)])), (t2, .inl (cA 0, 240, .inl fn22)), (t3, .inl (cA 0, 10, .inl fn23)), (t4, .inl (cA 0, 10, .inl fn24)), (t5, .inl (cA 0, 10, .inl fn25)), (t6, .inl (cA 0, 10, .inl fn26)), (oX3 p0 pr pb pe pg p1 (nI nd) p2 p3 p4 p5 (nI cn) p6 (nI pq) p7 p8 p9 (nI sc)), (p3, .inl (cA 0, 10, .inl fam)), (p5, .inl (cA 0, 10, .inl fby)), (p9, .inl (cA 0, 10, .inl fen)), (p7, .inl (cA 0, 350, .inl fst)), (p8, .inl (cA 0, 350, .inl fop))]) 8 hP hD [7, 8, 9, 10, 11, 12, 13, 1, 2, 3, 4, 5, 6] [0, 14, 15, 16, 17, 18, 19, 20] rfl rfl (by decide) (by decide +kernel) hk1 hFc hP1 hD1 rfl
  generalize H1 = H at hP hS ⊢
  obtain ⟨hP9, hD9⟩ := PDq.sub (ws' := [(oX9 h0 b0 (nI nb) p0 u0 r0 a0 t0 s0 o0), (oX0 a0 p0 a1 a3 a4 a5 a6 i6 i7 i8 i9 i10 i11 i12 i13 i14 i15 i16 i17 i18 i19), (a1, .inr (6, [.ref a2, .int (nI nx), .int (nI kp)])), (a2, .inl (cA 0, 240, .inl fr)), (a3, .inl (cA 0, 10, .inl fs)), (a4, .inl (cA 0, 10, .inl fp)), (a5, .inl (cA 0, 10, .inl ff)), (a6, .inl (cA 0, 10, .inl fd)), (oX3 p0 pr pb pe pg p1 (nI nd) p2 p3 p4 p5 (nI cn) p6 (nI pq) p7 p8 p9 (nI sc)), (p3, .inl (cA 0, 10, .inl fam)), (p5, .inl (cA 0, 10, .inl fby)), (p9, .inl (cA 0, 10, .inl fen)), (p7, .inl (cA 0, 350, .inl fst)), (p8, .inl (cA 0, 350, .inl fop)), (oX0 t0 p0 t1 t3 t4 t5 t6 zn6 zn7 zn8 zn17 zn18 zn19 zn9 zn10 zn11 zn12 zn13 zn14 zn15 zn16), (t1, .inr (6, [.ref t2, .int (nI qn20), .int (nI qn21)])), (t2, .inl (cA 0, 240, .inl fn22)), (t3, .inl (cA 0, 10, .inl fn23)), (t4, .inl (cA 0, 10, .inl fn24)), (t5, .inl (cA 0, 10, .inl fn25)), (t6, .inl (cA 0, 10, .inl fn26))]) hP hD [0, 1, 2, 3, 4, 5, 6, 7, 15, 16, 17, 18, 19, 20, 8, 9, 10, 11, 12, 13, 14] (by decide +kernel) rfl
  refine W.widen (k := 0) (n := 0) (Nat.le_of_ble_eq_true rfl) (Nat.le_of_ble_eq_true rfl) ?_
  exact (W.vret hx hb hr (fun t ht hW => ⟨⟨(), rfl, trivial, p0, qn20, qn21, zn6, zn7, zn8, zn9, zn10, zn11, zn12, zn13, zn14, zn15, zn16, zn17, zn18, zn19, fn22, fn23, fn24, fn25, fn26, hn27, hn28, by rw [ht]; exact hP9, hD9⟩, hS.F ht⟩) hS.2.2 dX9_tryDays_19)

set_option maxHeartbeats 4000000 in
set_option maxRecDepth 100000 in
/-- paymentsAfter -/
theorem s_paymentsAfter (l : Launch) (D : va_G) (cA : Nat → ClassId) (sa : Nat → Nat) (h0 : Nat) (b0 : Nat) (nb : Nat) (p0 : Nat) (u0 : Nat) (r0 : Nat) (a0 : Nat) (t0 : Nat) (s0 : Nat) (o0 : Nat) (a1 : Nat) (a2 : Nat) (a3 : Nat) (a4 : Nat) (a5 : Nat) (a6 : Nat) (i6 : Int32) (i7 : Int32) (i8 : Int32) (i12 : Int32) (i13 : Int32) (i14 : Int32) (i15 : Int32) (i16 : Int32) (i17 : Int32) (i18 : Int32) (i19 : Int32) (i9 : Int64) (i10 : Int64) (i11 : Int64) (nx : Nat) (kp : Nat) (fr : Nat → Int32) (fs : Nat → Int32) (fp : Nat → Int32) (ff : Nat → Int32) (fd : Nat → Int32) (p1 : Nat) (p2 : Nat) (p3 : Nat) (p4 : Nat) (p5 : Nat) (p6 : Nat) (p7 : Nat) (p8 : Nat) (p9 : Nat) (cn : Nat) (pq : Nat) (nd : Nat) (sc : Nat) (pr : Int32) (pb : Int32) (pe : Int32) (pg : Int32) (fam : Nat → Int32) (fby : Nat → Int32) (fen : Nat → Int32) (fst : Nat → Int32) (fop : Nat → Int32) (t1 : Nat) (t2 : Nat) (t3 : Nat) (t4 : Nat) (t5 : Nat) (t6 : Nat) (tp : Nat) (nt : Nat) (kt : Nat) (y6 : Int32) (y7 : Int32) (y8 : Int32) (y12 : Int32) (y13 : Int32) (y14 : Int32) (y15 : Int32) (y16 : Int32) (y17 : Int32) (y18 : Int32) (y19 : Int32) (y9 : Int64) (y10 : Int64) (y11 : Int64) (yr : Nat → Int32) (ys : Nat → Int32) (yp : Nat → Int32) (yf : Nat → Int32) (yd : Nat → Int32) (i : Int32) (sz : Nat) (hl9 : l.stackTraces = false) (hnx : nx < 60) (hkp : kp ≤ 60) (hnt : nt < 60) (hkt : kt ≤ 60) (hcn : cn ≤ 10) (hpq : pq ≤ 8) (hnd : nd ≤ 6) (hsc : sc ≤ 350) (hby : Rng 10 10 fby) (hen : Rng 10 351 fen) : vx_Met l yX9_paymentsAfter wsX9_paymentsAfter ({ frames := 7, cells := 1, slots := 6, locals := 161 }) (va_Pc [.ref h0, .int i] (Wd D cA sa [(oX9 h0 b0 (nI nb) p0 u0 r0 a0 t0 s0 o0), (oX0 a0 p0 a1 a3 a4 a5 a6 i6 i7 i8 i9 i10 i11 i12 i13 i14 i15 i16 i17 i18 i19), (a1, .inr (6, [.ref a2, .int (nI nx), .int (nI kp)])), (a2, .inl (cA 0, 240, .inl fr)), (a3, .inl (cA 0, 10, .inl fs)), (a4, .inl (cA 0, 10, .inl fp)), (a5, .inl (cA 0, 10, .inl ff)), (a6, .inl (cA 0, 10, .inl fd)), (oX3 p0 pr pb pe pg p1 (nI nd) p2 p3 p4 p5 (nI cn) p6 (nI pq) p7 p8 p9 (nI sc)), (p3, .inl (cA 0, 10, .inl fam)), (p5, .inl (cA 0, 10, .inl fby)), (p9, .inl (cA 0, 10, .inl fen)), (p7, .inl (cA 0, 350, .inl fst)), (p8, .inl (cA 0, 350, .inl fop)), (oX0 t0 tp t1 t3 t4 t5 t6 y6 y7 y8 y9 y10 y11 y12 y13 y14 y15 y16 y17 y18 y19), (t1, .inr (6, [.ref t2, .int (nI nt), .int (nI kt)])), (t2, .inl (cA 0, 240, .inl yr)), (t3, .inl (cA 0, 10, .inl ys)), (t4, .inl (cA 0, 10, .inl yp)), (t5, .inl (cA 0, 10, .inl yf)), (t6, .inl (cA 0, 10, .inl yd))] sz)) (va_Qi (fun (r : Int32) (_ : Unit) => True) (fun (_ : Unit) t => ∃ tq : Nat, ∃ ny : Nat, ∃ ky : Nat, ∃ z6 : Int32, ∃ z7 : Int32, ∃ z8 : Int32, ∃ z12 : Int32, ∃ z13 : Int32, ∃ z14 : Int32, ∃ z15 : Int32, ∃ z16 : Int32, ∃ z17 : Int32, ∃ z18 : Int32, ∃ z19 : Int32, ∃ z9 : Int64, ∃ z10 : Int64, ∃ z11 : Int64, ∃ zr : Nat → Int32, ∃ zs : Nat → Int32, ∃ zp : Nat → Int32, ∃ zf : Nat → Int32, ∃ zd : Nat → Int32, ny < 60 ∧ ky ≤ 60 ∧ Wq D (va_A [(oX9 h0 b0 (nI nb) p0 u0 r0 a0 t0 s0 o0), (oX0 a0 p0 a1 a3 a4 a5 a6 i6 i7 i8 i9 i10 i11 i12 i13 i14 i15 i16 i17 i18 i19), (a1, .inr (6, [.ref a2, .int (nI nx), .int (nI kp)])), (a2, .inl (cA 0, 240, .inl fr)), (a3, .inl (cA 0, 10, .inl fs)), (a4, .inl (cA 0, 10, .inl fp)), (a5, .inl (cA 0, 10, .inl ff)), (a6, .inl (cA 0, 10, .inl fd)), (oX3 p0 pr pb pe pg p1 (nI nd) p2 p3 p4 p5 (nI cn) p6 (nI pq) p7 p8 p9 (nI sc)), (p3, .inl (cA 0, 10, .inl fam)), (p5, .inl (cA 0, 10, .inl fby)), (p9, .inl (cA 0, 10, .inl fen)), (p7, .inl (cA 0, 350, .inl fst)), (p8, .inl (cA 0, 350, .inl fop)), (oX0 t0 tp t1 t3 t4 t5 t6 y6 y7 y8 y9 y10 y11 y12 y13 y14 y15 y16 y17 y18 y19), (t1, .inr (6, [.ref t2, .int (nI nt), .int (nI kt)])), (t2, .inl (cA 0, 240, .inl yr)), (t3, .inl (cA 0, 10, .inl ys)), (t4, .inl (cA 0, 10, .inl yp)), (t5, .inl (cA 0, 10, .inl yf)), (t6, .inl (cA 0, 10, .inl yd))] sz) [(oX9 h0 b0 (nI nb) p0 u0 r0 a0 t0 s0 o0), (oX0 a0 p0 a1 a3 a4 a5 a6 i6 i7 i8 i9 i10 i11 i12 i13 i14 i15 i16 i17 i18 i19), (a1, .inr (6, [.ref a2, .int (nI nx), .int (nI kp)])), (a2, .inl (cA 0, 240, .inl fr)), (a3, .inl (cA 0, 10, .inl fs)), (a4, .inl (cA 0, 10, .inl fp)), (a5, .inl (cA 0, 10, .inl ff)), (a6, .inl (cA 0, 10, .inl fd)), (oX3 p0 pr pb pe pg p1 (nI nd) p2 p3 p4 p5 (nI cn) p6 (nI pq) p7 p8 p9 (nI sc)), (p3, .inl (cA 0, 10, .inl fam)), (p5, .inl (cA 0, 10, .inl fby)), (p9, .inl (cA 0, 10, .inl fen)), (p7, .inl (cA 0, 350, .inl fst)), (p8, .inl (cA 0, 350, .inl fop)), (oX0 t0 tq t1 t3 t4 t5 t6 z6 z7 z8 z9 z10 z11 z12 z13 z14 z15 z16 z17 z18 z19), (t1, .inr (6, [.ref t2, .int (nI ny), .int (nI ky)])), (t2, .inl (cA 0, 240, .inl zr)), (t3, .inl (cA 0, 10, .inl zs)), (t4, .inl (cA 0, 10, .inl zp)), (t5, .inl (cA 0, 10, .inl zf)), (t6, .inl (cA 0, 10, .inl zd))] t) (va_A [(oX9 h0 b0 (nI nb) p0 u0 r0 a0 t0 s0 o0), (oX0 a0 p0 a1 a3 a4 a5 a6 i6 i7 i8 i9 i10 i11 i12 i13 i14 i15 i16 i17 i18 i19), (a1, .inr (6, [.ref a2, .int (nI nx), .int (nI kp)])), (a2, .inl (cA 0, 240, .inl fr)), (a3, .inl (cA 0, 10, .inl fs)), (a4, .inl (cA 0, 10, .inl fp)), (a5, .inl (cA 0, 10, .inl ff)), (a6, .inl (cA 0, 10, .inl fd)), (oX3 p0 pr pb pe pg p1 (nI nd) p2 p3 p4 p5 (nI cn) p6 (nI pq) p7 p8 p9 (nI sc)), (p3, .inl (cA 0, 10, .inl fam)), (p5, .inl (cA 0, 10, .inl fby)), (p9, .inl (cA 0, 10, .inl fen)), (p7, .inl (cA 0, 350, .inl fst)), (p8, .inl (cA 0, 350, .inl fop)), (oX0 t0 tp t1 t3 t4 t5 t6 y6 y7 y8 y9 y10 y11 y12 y13 y14 y15 y16 y17 y18 y19), (t1, .inr (6, [.ref t2, .int (nI nt), .int (nI kt)])), (t2, .inl (cA 0, 240, .inl yr)), (t3, .inl (cA 0, 10, .inl ys)), (t4, .inl (cA 0, 10, .inl yp)), (t5, .inl (cA 0, 10, .inl yf)), (t6, .inl (cA 0, 10, .inl yd))] sz)) (vx_X (fun _ : Unit => True) (fun E _ t => (E = "java/lang/IllegalArgumentException") ∧ Wq D (va_A [(oX9 h0 b0 (nI nb) p0 u0 r0 a0 t0 s0 o0), (oX0 a0 p0 a1 a3 a4 a5 a6 i6 i7 i8 i9 i10 i11 i12 i13 i14 i15 i16 i17 i18 i19), (a1, .inr (6, [.ref a2, .int (nI nx), .int (nI kp)])), (a2, .inl (cA 0, 240, .inl fr)), (a3, .inl (cA 0, 10, .inl fs)), (a4, .inl (cA 0, 10, .inl fp)), (a5, .inl (cA 0, 10, .inl ff)), (a6, .inl (cA 0, 10, .inl fd)), (oX3 p0 pr pb pe pg p1 (nI nd) p2 p3 p4 p5 (nI cn) p6 (nI pq) p7 p8 p9 (nI sc)), (p3, .inl (cA 0, 10, .inl fam)), (p5, .inl (cA 0, 10, .inl fby)), (p9, .inl (cA 0, 10, .inl fen)), (p7, .inl (cA 0, 350, .inl fst)), (p8, .inl (cA 0, 350, .inl fop)), (oX0 t0 tp t1 t3 t4 t5 t6 y6 y7 y8 y9 y10 y11 y12 y13 y14 y15 y16 y17 y18 y19), (t1, .inr (6, [.ref t2, .int (nI nt), .int (nI kt)])), (t2, .inl (cA 0, 240, .inl yr)), (t3, .inl (cA 0, 10, .inl ys)), (t4, .inl (cA 0, 10, .inl yp)), (t5, .inl (cA 0, 10, .inl yf)), (t6, .inl (cA 0, 10, .inl yd))] sz) [(oX9 h0 b0 (nI nb) p0 u0 r0 a0 t0 s0 o0), (oX0 a0 p0 a1 a3 a4 a5 a6 i6 i7 i8 i9 i10 i11 i12 i13 i14 i15 i16 i17 i18 i19), (a1, .inr (6, [.ref a2, .int (nI nx), .int (nI kp)])), (a2, .inl (cA 0, 240, .inl fr)), (a3, .inl (cA 0, 10, .inl fs)), (a4, .inl (cA 0, 10, .inl fp)), (a5, .inl (cA 0, 10, .inl ff)), (a6, .inl (cA 0, 10, .inl fd)), (oX3 p0 pr pb pe pg p1 (nI nd) p2 p3 p4 p5 (nI cn) p6 (nI pq) p7 p8 p9 (nI sc)), (p3, .inl (cA 0, 10, .inl fam)), (p5, .inl (cA 0, 10, .inl fby)), (p9, .inl (cA 0, 10, .inl fen)), (p7, .inl (cA 0, 350, .inl fst)), (p8, .inl (cA 0, 350, .inl fop)), (oX0 t0 tp t1 t3 t4 t5 t6 y6 y7 y8 y9 y10 y11 y12 y13 y14 y15 y16 y17 y18 y19), (t1, .inr (6, [.ref t2, .int (nI nt), .int (nI kt)])), (t2, .inl (cA 0, 240, .inl yr)), (t3, .inl (cA 0, 10, .inl ys)), (t4, .inl (cA 0, 10, .inl yp)), (t5, .inl (cA 0, 10, .inl yf)), (t6, .inl (cA 0, 10, .inl yd))] t) (va_A [(oX9 h0 b0 (nI nb) p0 u0 r0 a0 t0 s0 o0), (oX0 a0 p0 a1 a3 a4 a5 a6 i6 i7 i8 i9 i10 i11 i12 i13 i14 i15 i16 i17 i18 i19), (a1, .inr (6, [.ref a2, .int (nI nx), .int (nI kp)])), (a2, .inl (cA 0, 240, .inl fr)), (a3, .inl (cA 0, 10, .inl fs)), (a4, .inl (cA 0, 10, .inl fp)), (a5, .inl (cA 0, 10, .inl ff)), (a6, .inl (cA 0, 10, .inl fd)), (oX3 p0 pr pb pe pg p1 (nI nd) p2 p3 p4 p5 (nI cn) p6 (nI pq) p7 p8 p9 (nI sc)), (p3, .inl (cA 0, 10, .inl fam)), (p5, .inl (cA 0, 10, .inl fby)), (p9, .inl (cA 0, 10, .inl fen)), (p7, .inl (cA 0, 350, .inl fst)), (p8, .inl (cA 0, 350, .inl fop)), (oX0 t0 tp t1 t3 t4 t5 t6 y6 y7 y8 y9 y10 y11 y12 y13 y14 y15 y16 y17 y18 y19), (t1, .inr (6, [.ref t2, .int (nI nt), .int (nI kt)])), (t2, .inl (cA 0, 240, .inl yr)), (t3, .inl (cA 0, 10, .inl ys)), (t4, .inl (cA 0, 10, .inl yp)), (t5, .inl (cA 0, 10, .inl yf)), (t6, .inl (cA 0, 10, .inl yd))] sz)) 1 6 (va_A [(oX9 h0 b0 (nI nb) p0 u0 r0 a0 t0 s0 o0), (oX0 a0 p0 a1 a3 a4 a5 a6 i6 i7 i8 i9 i10 i11 i12 i13 i14 i15 i16 i17 i18 i19), (a1, .inr (6, [.ref a2, .int (nI nx), .int (nI kp)])), (a2, .inl (cA 0, 240, .inl fr)), (a3, .inl (cA 0, 10, .inl fs)), (a4, .inl (cA 0, 10, .inl fp)), (a5, .inl (cA 0, 10, .inl ff)), (a6, .inl (cA 0, 10, .inl fd)), (oX3 p0 pr pb pe pg p1 (nI nd) p2 p3 p4 p5 (nI cn) p6 (nI pq) p7 p8 p9 (nI sc)), (p3, .inl (cA 0, 10, .inl fam)), (p5, .inl (cA 0, 10, .inl fby)), (p9, .inl (cA 0, 10, .inl fen)), (p7, .inl (cA 0, 350, .inl fst)), (p8, .inl (cA 0, 350, .inl fop)), (oX0 t0 tp t1 t3 t4 t5 t6 y6 y7 y8 y9 y10 y11 y12 y13 y14 y15 y16 y17 y18 y19), (t1, .inr (6, [.ref t2, .int (nI nt), .int (nI kt)])), (t2, .inl (cA 0, 240, .inl yr)), (t3, .inl (cA 0, 10, .inl ys)), (t4, .inl (cA 0, 10, .inl yp)), (t5, .inl (cA 0, 10, .inl yf)), (t6, .inl (cA 0, 10, .inl yd))] sz) := by
  refine vx_ofW (cc := cX9_paymentsAfter) (maxL := 2) (ret := (some .int)) (by decide) rfl ?_
  intro p e s m args below meth c s₁ B hml hno hv
  obtain ⟨rfl, hsz, hP, hK, hD0, hC, hZ⟩ := hv
  have hx := B.exec
  have hb := B.bytes
  have hr := B.returns
  have hts := atoms_spec (ws := wsX9_paymentsAfter) B.pre
  have hown : s.vm.findClass RX9 = some m.cls := findClass_of_methodNamed B.named
  have hlocks := B.notSynchronized
  subst hsz
  have hD := hD0.self (sz := s.heap.size)
  generalize hAe : va_A [(oX9 h0 b0 (nI nb) p0 u0 r0 a0 t0 s0 o0), (oX0 a0 p0 a1 a3 a4 a5 a6 i6 i7 i8 i9 i10 i11 i12 i13 i14 i15 i16 i17 i18 i19), (a1, .inr (6, [.ref a2, .int (nI nx), .int (nI kp)])), (a2, .inl (cA 0, 240, .inl fr)), (a3, .inl (cA 0, 10, .inl fs)), (a4, .inl (cA 0, 10, .inl fp)), (a5, .inl (cA 0, 10, .inl ff)), (a6, .inl (cA 0, 10, .inl fd)), (oX3 p0 pr pb pe pg p1 (nI nd) p2 p3 p4 p5 (nI cn) p6 (nI pq) p7 p8 p9 (nI sc)), (p3, .inl (cA 0, 10, .inl fam)), (p5, .inl (cA 0, 10, .inl fby)), (p9, .inl (cA 0, 10, .inl fen)), (p7, .inl (cA 0, 350, .inl fst)), (p8, .inl (cA 0, 350, .inl fop)), (oX0 t0 tp t1 t3 t4 t5 t6 y6 y7 y8 y9 y10 y11 y12 y13 y14 y15 y16 y17 y18 y19), (t1, .inr (6, [.ref t2, .int (nI nt), .int (nI kt)])), (t2, .inl (cA 0, 240, .inl yr)), (t3, .inl (cA 0, 10, .inl ys)), (t4, .inl (cA 0, 10, .inl yp)), (t5, .inl (cA 0, 10, .inl yf)), (t6, .inl (cA 0, 10, .inl yd))] s.heap.size = A at hD hZ ⊢
  have hA : ∀ q : Nat, s.heap.size ≤ q → A q := fun q h => by rw [← hAe]; exact Or.inr h
  have hS : va_S A s.heap s.heap [] := va_S.rf
  have hP : va_P D vwCl [(oX9 h0 b0 (nI nb) p0 u0 r0 a0 t0 s0 o0), (oX0 a0 p0 a1 a3 a4 a5 a6 i6 i7 i8 i9 i10 i11 i12 i13 i14 i15 i16 i17 i18 i19), (a1, .inr (6, [.ref a2, .int (nI nx), .int (nI kp)])), (a2, .inl (cA 0, 240, .inl fr)), (a3, .inl (cA 0, 10, .inl fs)), (a4, .inl (cA 0, 10, .inl fp)), (a5, .inl (cA 0, 10, .inl ff)), (a6, .inl (cA 0, 10, .inl fd)), (oX3 p0 pr pb pe pg p1 (nI nd) p2 p3 p4 p5 (nI cn) p6 (nI pq) p7 p8 p9 (nI sc)), (p3, .inl (cA 0, 10, .inl fam)), (p5, .inl (cA 0, 10, .inl fby)), (p9, .inl (cA 0, 10, .inl fen)), (p7, .inl (cA 0, 350, .inl fst)), (p8, .inl (cA 0, 350, .inl fop)), (oX0 t0 tp t1 t3 t4 t5 t6 y6 y7 y8 y9 y10 y11 y12 y13 y14 y15 y16 y17 y18 y19), (t1, .inr (6, [.ref t2, .int (nI nt), .int (nI kt)])), (t2, .inl (cA 0, 240, .inl yr)), (t3, .inl (cA 0, 10, .inl ys)), (t4, .inl (cA 0, 10, .inl yp)), (t5, .inl (cA 0, 10, .inl yf)), (t6, .inl (cA 0, 10, .inl yd))] s.heap := hP
  have hl := lv_entry ([.ref h0, .int i]) (n := 2) (Nat.le_of_ble_eq_true rfl)
  rw [lg_entry_eq]
  generalize (lg_sl ([.ref h0, .int i]) ++ List.replicate (2 - (lg_sl ([.ref h0, .int i])).length) Slot.unset).toArray = ls at hl ⊢
  have hl : lv_has ls 2 [(0, .ref h0), (1, .int i)] := hl
  have inX9 : ∀ w ∈ u_ws RX9 TX9 9, w ∈ wsX9_paymentsAfter := by decide +kernel
  refine lv_iload_n hx hb dX9_paymentsAfter_0 rfl (lv_at hl 1 rfl) ?_
  refine lv_iconst (v := 1) hx hb dX9_paymentsAfter_1 (by decide) ?_
  refine lv_bipush (v := 120) hx hb dX9_paymentsAfter_2 (by decide) ?_
  obtain ⟨hPc, hDc, hFc⟩ := PDq.cut (wc := []) hP hD hS hA [] (by decide) rfl
  refine vx_callv (vx_runS (As := [.int i, .int 1, .int 120]) (rest := []) ⟨hx, hb, hml, hown, hts⟩ (s_needRangeN l D cA sa i 1 120 s.heap.size hl9 (by omega) (by omega)) (va_cwS 3 hts gX9_paymentsAfter_X9_needRange rfl rfl rfl (by decide +kernel) ⟨(Nat.le_of_ble_eq_true rfl), (Nat.le_of_ble_eq_true rfl)⟩) ⟨Wd.blind, fun U hU hW => ⟨rfl, Wd.call hPc hDc hK hC hZ hS hFc U hU hW⟩⟩ rfl rfl hl.1 rfl (lv_room (Nat.le_of_ble_eq_true rfl)) dX9_paymentsAfter_4 ⟨(Nat.le_of_ble_eq_true rfl), (Nat.le_of_ble_eq_true rfl)⟩) hS (fun q _ h => hFc q h) hFc (fun q _ h => hFc q h) (fun E ce q9 u t H1 locs ht hvm hpx hE hz1 hk1 hS hcell hv9 hcl => ?_) (fun u t H1 locs ht hvm hw hB hz1 hk1 hS => ?_)
  · skip
    obtain ⟨hE, hP1, hD1⟩ := hE
    rw [ht] at hP1
    obtain ⟨hP, hD⟩ := PDq.join (w := [(oX9 h0 b0 (nI nb) p0 u0 r0 a0 t0 s0 o0), (oX0 a0 p0 a1 a3 a4 a5 a6 i6 i7 i8 i9 i10 i11 i12 i13 i14 i15 i16 i17 i18 i19), (a1, .inr (6, [.ref a2, .int (nI nx), .int (nI kp)])), (a2, .inl (cA 0, 240, .inl fr)), (a3, .inl (cA 0, 10, .inl fs)), (a4, .inl (cA 0, 10, .inl fp)), (a5, .inl (cA 0, 10, .inl ff)), (a6, .inl (cA 0, 10, .inl fd)), (oX3 p0 pr pb pe pg p1 (nI nd) p2 p3 p4 p5 (nI cn) p6 (nI pq) p7 p8 p9 (nI sc)), (p3, .inl (cA 0, 10, .inl fam)), (p5, .inl (cA 0, 10, .inl fby)), (p9, .inl (cA 0, 10, .inl fen)), (p7, .inl (cA 0, 350, .inl fst)), (p8, .inl (cA 0, 350, .inl fop)), (oX0 t0 tp t1 t3 t4 t5 t6 y6 y7 y8 y9 y10 y11 y12 y13 y14 y15 y16 y17 y18 y19), (t1, .inr (6, [.ref t2, .int (nI nt), .int (nI kt)])), (t2, .inl (cA 0, 240, .inl yr)), (t3, .inl (cA 0, 10, .inl ys)), (t4, .inl (cA 0, 10, .inl yp)), (t5, .inl (cA 0, 10, .inl yf)), (t6, .inl (cA 0, 10, .inl yd))]) 21 hP hD [] [0, 1, 2, 3, 4, 5, 6, 7, 8, 9, 10, 11, 12, 13, 14, 15, 16, 17, 18, 19, 20] rfl rfl (by decide +kernel) (by decide +kernel) hk1 hFc hP1 hD1 rfl
    generalize H1 = H at hP hS hcell ⊢
    obtain ⟨hP9, hD9⟩ := PDq.sub (ws' := [(oX9 h0 b0 (nI nb) p0 u0 r0 a0 t0 s0 o0), (oX0 a0 p0 a1 a3 a4 a5 a6 i6 i7 i8 i9 i10 i11 i12 i13 i14 i15 i16 i17 i18 i19), (a1, .inr (6, [.ref a2, .int (nI nx), .int (nI kp)])), (a2, .inl (cA 0, 240, .inl fr)), (a3, .inl (cA 0, 10, .inl fs)), (a4, .inl (cA 0, 10, .inl fp)), (a5, .inl (cA 0, 10, .inl ff)), (a6, .inl (cA 0, 10, .inl fd)), (oX3 p0 pr pb pe pg p1 (nI nd) p2 p3 p4 p5 (nI cn) p6 (nI pq) p7 p8 p9 (nI sc)), (p3, .inl (cA 0, 10, .inl fam)), (p5, .inl (cA 0, 10, .inl fby)), (p9, .inl (cA 0, 10, .inl fen)), (p7, .inl (cA 0, 350, .inl fst)), (p8, .inl (cA 0, 350, .inl fop)), (oX0 t0 tp t1 t3 t4 t5 t6 y6 y7 y8 y9 y10 y11 y12 y13 y14 y15 y16 y17 y18 y19), (t1, .inr (6, [.ref t2, .int (nI nt), .int (nI kt)])), (t2, .inl (cA 0, 240, .inl yr)), (t3, .inl (cA 0, 10, .inl ys)), (t4, .inl (cA 0, 10, .inl yp)), (t5, .inl (cA 0, 10, .inl yf)), (t6, .inl (cA 0, 10, .inl yd))]) hP hD [0, 1, 2, 3, 4, 5, 6, 7, 8, 9, 10, 11, 12, 13, 14, 15, 16, 17, 18, 19, 20] (by decide +kernel) rfl
    exact vx_out (fun x h => (hno x h).elim) hlocks hcell hv9 hcl (fun t ht hvm => ⟨(), trivial, ⟨hE, by rw [ht]; exact hP9, hD9⟩, hS.F ht⟩) hS.2.2 (Nat.le_of_ble_eq_true rfl) (Nat.le_of_ble_eq_true rfl)
  · skip
    obtain ⟨qn1, hn2, hn3, hn4, hP1, hD1⟩ := hB
    rw [ht] at hP1
    obtain ⟨hP, hD⟩ := PDq.join (w := [(oX9 h0 b0 (nI nb) p0 u0 r0 a0 t0 s0 o0), (oX0 a0 p0 a1 a3 a4 a5 a6 i6 i7 i8 i9 i10 i11 i12 i13 i14 i15 i16 i17 i18 i19), (a1, .inr (6, [.ref a2, .int (nI nx), .int (nI kp)])), (a2, .inl (cA 0, 240, .inl fr)), (a3, .inl (cA 0, 10, .inl fs)), (a4, .inl (cA 0, 10, .inl fp)), (a5, .inl (cA 0, 10, .inl ff)), (a6, .inl (cA 0, 10, .inl fd)), (oX3 p0 pr pb pe pg p1 (nI nd) p2 p3 p4 p5 (nI cn) p6 (nI pq) p7 p8 p9 (nI sc)), (p3, .inl (cA 0, 10, .inl fam)), (p5, .inl (cA 0, 10, .inl fby)), (p9, .inl (cA 0, 10, .inl fen)), (p7, .inl (cA 0, 350, .inl fst)), (p8, .inl (cA 0, 350, .inl fop)), (oX0 t0 tp t1 t3 t4 t5 t6 y6 y7 y8 y9 y10 y11 y12 y13 y14 y15 y16 y17 y18 y19), (t1, .inr (6, [.ref t2, .int (nI nt), .int (nI kt)])), (t2, .inl (cA 0, 240, .inl yr)), (t3, .inl (cA 0, 10, .inl ys)), (t4, .inl (cA 0, 10, .inl yp)), (t5, .inl (cA 0, 10, .inl yf)), (t6, .inl (cA 0, 10, .inl yd))]) 21 hP hD [] [0, 1, 2, 3, 4, 5, 6, 7, 8, 9, 10, 11, 12, 13, 14, 15, 16, 17, 18, 19, 20] rfl rfl (by decide +kernel) (by decide +kernel) hk1 hFc hP1 hD1 rfl
    generalize H1 = H at hP hS ⊢
    rw [hn4] at hl
    have hl : lv_has ls 2 [(0, .ref h0), (1, .int (nI qn1))] := hl
    refine lv_aload_n hx hb dX9_paymentsAfter_7 rfl (lv_at hl 0 rfl) ?_
    refine lv_iload_n hx hb dX9_paymentsAfter_8 rfl (lv_at hl 1 rfl) ?_
    obtain ⟨hPc, hDc, hFc⟩ := PDq.cut (wc := [(oX9 h0 b0 (nI nb) p0 u0 r0 a0 t0 s0 o0), (oX0 a0 p0 a1 a3 a4 a5 a6 i6 i7 i8 i9 i10 i11 i12 i13 i14 i15 i16 i17 i18 i19), (a1, .inr (6, [.ref a2, .int (nI nx), .int (nI kp)])), (a2, .inl (cA 0, 240, .inl fr)), (a3, .inl (cA 0, 10, .inl fs)), (a4, .inl (cA 0, 10, .inl fp)), (a5, .inl (cA 0, 10, .inl ff)), (a6, .inl (cA 0, 10, .inl fd)), (oX3 p0 pr pb pe pg p1 (nI nd) p2 p3 p4 p5 (nI cn) p6 (nI pq) p7 p8 p9 (nI sc)), (p3, .inl (cA 0, 10, .inl fam)), (p5, .inl (cA 0, 10, .inl fby)), (p9, .inl (cA 0, 10, .inl fen)), (p7, .inl (cA 0, 350, .inl fst)), (p8, .inl (cA 0, 350, .inl fop)), (oX0 t0 tp t1 t3 t4 t5 t6 y6 y7 y8 y9 y10 y11 y12 y13 y14 y15 y16 y17 y18 y19), (t1, .inr (6, [.ref t2, .int (nI nt), .int (nI kt)])), (t2, .inl (cA 0, 240, .inl yr)), (t3, .inl (cA 0, 10, .inl ys)), (t4, .inl (cA 0, 10, .inl yp)), (t5, .inl (cA 0, 10, .inl yf)), (t6, .inl (cA 0, 10, .inl yd))]) hP hD hS hA [0, 1, 2, 3, 4, 5, 6, 7, 8, 9, 10, 11, 12, 13, 14, 15, 16, 17, 18, 19, 20] (by decide +kernel) rfl
    refine va_callv (va_runV (As := [.int (nI qn1)]) (rest := []) ⟨hx, hb, hml, hown, hts⟩ (s_tryDays l D cA sa h0 b0 nb p0 u0 r0 a0 t0 s0 o0 a1 a2 a3 a4 a5 a6 i6 i7 i8 i12 i13 i14 i15 i16 i17 i18 i19 i9 i10 i11 nx kp fr fs fp ff fd p1 p2 p3 p4 p5 p6 p7 p8 p9 cn pq nd sc pr pb pe pg fam fby fen fst fop t1 t2 t3 t4 t5 t6 tp nt kt y6 y7 y8 y12 y13 y14 y15 y16 y17 y18 y19 y9 y10 y11 yr ys yp yf yd qn1 H.size hnx hkp hnt hkt hcn hpq hnd hsc hby hen hn3) (cwV 1 hts gX9_paymentsAfter_X9_tryDays rfl rfl rfl (by decide +kernel) ⟨(Nat.le_of_ble_eq_true rfl), (Nat.le_of_ble_eq_true rfl)⟩) ⟨Wd.blind, va_recv hK hPc (ci := 10) (q0 := 0) rfl rfl, fun U hU hW => ⟨rfl, Wd.call hPc hDc hK hC hZ hS hFc U hU hW⟩⟩ rfl rfl hl.1 rfl (lv_room (Nat.le_of_ble_eq_true rfl)) dX9_paymentsAfter_9 ⟨(Nat.le_of_ble_eq_true rfl), (Nat.le_of_ble_eq_true rfl)⟩) hS (fun q _ h => hFc q h) hFc (fun u t H1 locs ht hvm hw hB hz1 hk1 hS => ?_)
    obtain ⟨qn5, qn6, qn7, zn8, zn9, zn10, zn11, zn12, zn13, zn14, zn15, zn16, zn17, zn18, zn19, zn20, zn21, fn22, fn23, fn24, fn25, fn26, hn27, hn28, hP1, hD1⟩ := hB
    rw [ht] at hP1
    obtain ⟨hP, hD⟩ := PDq.join (w := [(oX9 h0 b0 (nI nb) p0 u0 r0 a0 t0 s0 o0), (oX0 a0 p0 a1 a3 a4 a5 a6 i6 i7 i8 i9 i10 i11 i12 i13 i14 i15 i16 i17 i18 i19), (a1, .inr (6, [.ref a2, .int (nI nx), .int (nI kp)])), (a2, .inl (cA 0, 240, .inl fr)), (a3, .inl (cA 0, 10, .inl fs)), (a4, .inl (cA 0, 10, .inl fp)), (a5, .inl (cA 0, 10, .inl ff)), (a6, .inl (cA 0, 10, .inl fd)), (oX3 p0 pr pb pe pg p1 (nI nd) p2 p3 p4 p5 (nI cn) p6 (nI pq) p7 p8 p9 (nI sc)), (p3, .inl (cA 0, 10, .inl fam)), (p5, .inl (cA 0, 10, .inl fby)), (p9, .inl (cA 0, 10, .inl fen)), (p7, .inl (cA 0, 350, .inl fst)), (p8, .inl (cA 0, 350, .inl fop)), (oX0 t0 qn5 t1 t3 t4 t5 t6 zn8 zn9 zn10 zn19 zn20 zn21 zn11 zn12 zn13 zn14 zn15 zn16 zn17 zn18), (t1, .inr (6, [.ref t2, .int (nI qn6), .int (nI qn7)])), (t2, .inl (cA 0, 240, .inl fn22)), (t3, .inl (cA 0, 10, .inl fn23)), (t4, .inl (cA 0, 10, .inl fn24)), (t5, .inl (cA 0, 10, .inl fn25)), (t6, .inl (cA 0, 10, .inl fn26))]) 0 hP hD [0, 1, 2, 3, 4, 5, 6, 7, 8, 9, 10, 11, 12, 13, 14, 15, 16, 17, 18, 19, 20] [] rfl rfl (by decide) (by decide +kernel) hk1 hFc hP1 hD1 rfl
    generalize H1 = H at hP hS ⊢
    refine lv_aload_n hx hb dX9_paymentsAfter_12 rfl (lv_at hl 0 rfl) ?_
    refine va_get (D := D) (ci := 10) (v := .ref t0) (C := RX9) (T := TX9) (N := 9) hx hb hts inX9 hown hK hP 0 rfl rfl 6 (by decide) (hts (.fieldLink RX9 39 "EscrowDesk" "trial" "LEscrowDesk$Account;") (by decide +kernel)) (fun _ h9 => h9) rfl dX9_paymentsAfter_13 ?_
    obtain ⟨hPc, hDc, hFc⟩ := PDq.cut (wc := [(oX0 t0 qn5 t1 t3 t4 t5 t6 zn8 zn9 zn10 zn19 zn20 zn21 zn11 zn12 zn13 zn14 zn15 zn16 zn17 zn18)]) hP hD hS hA [14] (by decide) rfl
    refine va_calli (va_runV (As := []) (rest := []) ⟨hx, hb, hml, hown, hts⟩ (s_payments l D cA sa t0 t1 t3 t4 t5 t6 qn5 zn8 zn9 zn10 zn11 zn12 zn13 zn14 zn15 zn16 zn17 zn18 zn19 zn20 zn21 H.size) (cwV 0 hts gX9_paymentsAfter_X0_payments rfl rfl rfl (by decide +kernel) ⟨(Nat.le_of_ble_eq_true rfl), (Nat.le_of_ble_eq_true rfl)⟩) ⟨Wd.blind, va_recv hK hPc (ci := 4) (q0 := 0) rfl rfl, fun U hU hW => ⟨rfl, Wd.call hPc hDc hK hC hZ hS hFc U hU hW⟩⟩ rfl rfl hl.1 rfl (lv_room (Nat.le_of_ble_eq_true rfl)) dX9_paymentsAfter_16 ⟨(Nat.le_of_ble_eq_true rfl), (Nat.le_of_ble_eq_true rfl)⟩) hS (fun q _ h => hFc q h) hFc (fun rn29 u t H1 locs ht hvm hw hB hz1 hk1 hS => ?_)
    obtain ⟨hP1, hD1⟩ := hB
    rw [ht] at hP1
    obtain ⟨hP, hD⟩ := PDq.join (w := [(oX9 h0 b0 (nI nb) p0 u0 r0 a0 t0 s0 o0), (oX0 a0 p0 a1 a3 a4 a5 a6 i6 i7 i8 i9 i10 i11 i12 i13 i14 i15 i16 i17 i18 i19), (a1, .inr (6, [.ref a2, .int (nI nx), .int (nI kp)])), (a2, .inl (cA 0, 240, .inl fr)), (a3, .inl (cA 0, 10, .inl fs)), (a4, .inl (cA 0, 10, .inl fp)), (a5, .inl (cA 0, 10, .inl ff)), (a6, .inl (cA 0, 10, .inl fd)), (oX3 p0 pr pb pe pg p1 (nI nd) p2 p3 p4 p5 (nI cn) p6 (nI pq) p7 p8 p9 (nI sc)), (p3, .inl (cA 0, 10, .inl fam)), (p5, .inl (cA 0, 10, .inl fby)), (p9, .inl (cA 0, 10, .inl fen)), (p7, .inl (cA 0, 350, .inl fst)), (p8, .inl (cA 0, 350, .inl fop)), (t1, .inr (6, [.ref t2, .int (nI qn6), .int (nI qn7)])), (t2, .inl (cA 0, 240, .inl fn22)), (t3, .inl (cA 0, 10, .inl fn23)), (t4, .inl (cA 0, 10, .inl fn24)), (t5, .inl (cA 0, 10, .inl fn25)), (t6, .inl (cA 0, 10, .inl fn26)), (oX0 t0 qn5 t1 t3 t4 t5 t6 zn8 zn9 zn10 zn19 zn20 zn21 zn11 zn12 zn13 zn14 zn15 zn16 zn17 zn18)]) 20 hP hD [14] [0, 1, 2, 3, 4, 5, 6, 7, 8, 9, 10, 11, 12, 13, 15, 16, 17, 18, 19, 20] rfl rfl (by decide +kernel) (by decide +kernel) hk1 hFc hP1 hD1 rfl
    generalize H1 = H at hP hS ⊢
    obtain ⟨hP9, hD9⟩ := PDq.sub (ws' := [(oX9 h0 b0 (nI nb) p0 u0 r0 a0 t0 s0 o0), (oX0 a0 p0 a1 a3 a4 a5 a6 i6 i7 i8 i9 i10 i11 i12 i13 i14 i15 i16 i17 i18 i19), (a1, .inr (6, [.ref a2, .int (nI nx), .int (nI kp)])), (a2, .inl (cA 0, 240, .inl fr)), (a3, .inl (cA 0, 10, .inl fs)), (a4, .inl (cA 0, 10, .inl fp)), (a5, .inl (cA 0, 10, .inl ff)), (a6, .inl (cA 0, 10, .inl fd)), (oX3 p0 pr pb pe pg p1 (nI nd) p2 p3 p4 p5 (nI cn) p6 (nI pq) p7 p8 p9 (nI sc)), (p3, .inl (cA 0, 10, .inl fam)), (p5, .inl (cA 0, 10, .inl fby)), (p9, .inl (cA 0, 10, .inl fen)), (p7, .inl (cA 0, 350, .inl fst)), (p8, .inl (cA 0, 350, .inl fop)), (oX0 t0 qn5 t1 t3 t4 t5 t6 zn8 zn9 zn10 zn19 zn20 zn21 zn11 zn12 zn13 zn14 zn15 zn16 zn17 zn18), (t1, .inr (6, [.ref t2, .int (nI qn6), .int (nI qn7)])), (t2, .inl (cA 0, 240, .inl fn22)), (t3, .inl (cA 0, 10, .inl fn23)), (t4, .inl (cA 0, 10, .inl fn24)), (t5, .inl (cA 0, 10, .inl fn25)), (t6, .inl (cA 0, 10, .inl fn26))]) hP hD [0, 1, 2, 3, 4, 5, 6, 7, 8, 9, 10, 11, 12, 13, 20, 14, 15, 16, 17, 18, 19] (by decide +kernel) rfl
    refine W.widen (k := 1) (n := 6) (Nat.le_of_ble_eq_true rfl) (Nat.le_of_ble_eq_true rfl) ?_
    exact vx_ret (W.iret (v := rn29) hx hb hr (fun t ht hW => ⟨⟨rn29, (), rfl, trivial, qn5, qn6, qn7, zn8, zn9, zn10, zn11, zn12, zn13, zn14, zn15, zn16, zn17, zn18, zn19, zn20, zn21, fn22, fn23, fn24, fn25, fn26, hn27, hn28, by rw [ht]; exact hP9, hD9⟩, hS.F ht⟩) hS.2.2 dX9_paymentsAfter_19)

set_option maxHeartbeats 4000000 in
set_option maxRecDepth 100000 in
/-- creditedAfter -/
theorem s_creditedAfter (l : Launch) (D : va_G) (cA : Nat → ClassId) (sa : Nat → Nat) (h0 : Nat) (b0 : Nat) (nb : Nat) (p0 : Nat) (u0 : Nat) (r0 : Nat) (a0 : Nat) (t0 : Nat) (s0 : Nat) (o0 : Nat) (a1 : Nat) (a2 : Nat) (a3 : Nat) (a4 : Nat) (a5 : Nat) (a6 : Nat) (i6 : Int32) (i7 : Int32) (i8 : Int32) (i12 : Int32) (i13 : Int32) (i14 : Int32) (i15 : Int32) (i16 : Int32) (i17 : Int32) (i18 : Int32) (i19 : Int32) (i9 : Int64) (i10 : Int64) (i11 : Int64) (nx : Nat) (kp : Nat) (fr : Nat → Int32) (fs : Nat → Int32) (fp : Nat → Int32) (ff : Nat → Int32) (fd : Nat → Int32) (p1 : Nat) (p2 : Nat) (p3 : Nat) (p4 : Nat) (p5 : Nat) (p6 : Nat) (p7 : Nat) (p8 : Nat) (p9 : Nat) (cn : Nat) (pq : Nat) (nd : Nat) (sc : Nat) (pr : Int32) (pb : Int32) (pe : Int32) (pg : Int32) (fam : Nat → Int32) (fby : Nat → Int32) (fen : Nat → Int32) (fst : Nat → Int32) (fop : Nat → Int32) (t1 : Nat) (t2 : Nat) (t3 : Nat) (t4 : Nat) (t5 : Nat) (t6 : Nat) (tp : Nat) (nt : Nat) (kt : Nat) (y6 : Int32) (y7 : Int32) (y8 : Int32) (y12 : Int32) (y13 : Int32) (y14 : Int32) (y15 : Int32) (y16 : Int32) (y17 : Int32) (y18 : Int32) (y19 : Int32) (y9 : Int64) (y10 : Int64) (y11 : Int64) (yr : Nat → Int32) (ys : Nat → Int32) (yp : Nat → Int32) (yf : Nat → Int32) (yd : Nat → Int32) (i : Int32) (sz : Nat) (hl9 : l.stackTraces = false) (hnx : nx < 60) (hkp : kp ≤ 60) (hnt : nt < 60) (hkt : kt ≤ 60) (hcn : cn ≤ 10) (hpq : pq ≤ 8) (hnd : nd ≤ 6) (hsc : sc ≤ 350) (hby : Rng 10 10 fby) (hen : Rng 10 351 fen) : vx_Met l yX9_creditedAfter wsX9_creditedAfter ({ frames := 7, cells := 1, slots := 6, locals := 161 }) (va_Pc [.ref h0, .int i] (Wd D cA sa [(oX9 h0 b0 (nI nb) p0 u0 r0 a0 t0 s0 o0), (oX0 a0 p0 a1 a3 a4 a5 a6 i6 i7 i8 i9 i10 i11 i12 i13 i14 i15 i16 i17 i18 i19), (a1, .inr (6, [.ref a2, .int (nI nx), .int (nI kp)])), (a2, .inl (cA 0, 240, .inl fr)), (a3, .inl (cA 0, 10, .inl fs)), (a4, .inl (cA 0, 10, .inl fp)), (a5, .inl (cA 0, 10, .inl ff)), (a6, .inl (cA 0, 10, .inl fd)), (oX3 p0 pr pb pe pg p1 (nI nd) p2 p3 p4 p5 (nI cn) p6 (nI pq) p7 p8 p9 (nI sc)), (p3, .inl (cA 0, 10, .inl fam)), (p5, .inl (cA 0, 10, .inl fby)), (p9, .inl (cA 0, 10, .inl fen)), (p7, .inl (cA 0, 350, .inl fst)), (p8, .inl (cA 0, 350, .inl fop)), (oX0 t0 tp t1 t3 t4 t5 t6 y6 y7 y8 y9 y10 y11 y12 y13 y14 y15 y16 y17 y18 y19), (t1, .inr (6, [.ref t2, .int (nI nt), .int (nI kt)])), (t2, .inl (cA 0, 240, .inl yr)), (t3, .inl (cA 0, 10, .inl ys)), (t4, .inl (cA 0, 10, .inl yp)), (t5, .inl (cA 0, 10, .inl yf)), (t6, .inl (cA 0, 10, .inl yd))] sz)) (va_Qi (fun (r : Int32) (_ : Unit) => True) (fun (_ : Unit) t => ∃ tq : Nat, ∃ ny : Nat, ∃ ky : Nat, ∃ z6 : Int32, ∃ z7 : Int32, ∃ z8 : Int32, ∃ z12 : Int32, ∃ z13 : Int32, ∃ z14 : Int32, ∃ z15 : Int32, ∃ z16 : Int32, ∃ z17 : Int32, ∃ z18 : Int32, ∃ z19 : Int32, ∃ z9 : Int64, ∃ z10 : Int64, ∃ z11 : Int64, ∃ zr : Nat → Int32, ∃ zs : Nat → Int32, ∃ zp : Nat → Int32, ∃ zf : Nat → Int32, ∃ zd : Nat → Int32, ny < 60 ∧ ky ≤ 60 ∧ Wq D (va_A [(oX9 h0 b0 (nI nb) p0 u0 r0 a0 t0 s0 o0), (oX0 a0 p0 a1 a3 a4 a5 a6 i6 i7 i8 i9 i10 i11 i12 i13 i14 i15 i16 i17 i18 i19), (a1, .inr (6, [.ref a2, .int (nI nx), .int (nI kp)])), (a2, .inl (cA 0, 240, .inl fr)), (a3, .inl (cA 0, 10, .inl fs)), (a4, .inl (cA 0, 10, .inl fp)), (a5, .inl (cA 0, 10, .inl ff)), (a6, .inl (cA 0, 10, .inl fd)), (oX3 p0 pr pb pe pg p1 (nI nd) p2 p3 p4 p5 (nI cn) p6 (nI pq) p7 p8 p9 (nI sc)), (p3, .inl (cA 0, 10, .inl fam)), (p5, .inl (cA 0, 10, .inl fby)), (p9, .inl (cA 0, 10, .inl fen)), (p7, .inl (cA 0, 350, .inl fst)), (p8, .inl (cA 0, 350, .inl fop)), (oX0 t0 tp t1 t3 t4 t5 t6 y6 y7 y8 y9 y10 y11 y12 y13 y14 y15 y16 y17 y18 y19), (t1, .inr (6, [.ref t2, .int (nI nt), .int (nI kt)])), (t2, .inl (cA 0, 240, .inl yr)), (t3, .inl (cA 0, 10, .inl ys)), (t4, .inl (cA 0, 10, .inl yp)), (t5, .inl (cA 0, 10, .inl yf)), (t6, .inl (cA 0, 10, .inl yd))] sz) [(oX9 h0 b0 (nI nb) p0 u0 r0 a0 t0 s0 o0), (oX0 a0 p0 a1 a3 a4 a5 a6 i6 i7 i8 i9 i10 i11 i12 i13 i14 i15 i16 i17 i18 i19), (a1, .inr (6, [.ref a2, .int (nI nx), .int (nI kp)])), (a2, .inl (cA 0, 240, .inl fr)), (a3, .inl (cA 0, 10, .inl fs)), (a4, .inl (cA 0, 10, .inl fp)), (a5, .inl (cA 0, 10, .inl ff)), (a6, .inl (cA 0, 10, .inl fd)), (oX3 p0 pr pb pe pg p1 (nI nd) p2 p3 p4 p5 (nI cn) p6 (nI pq) p7 p8 p9 (nI sc)), (p3, .inl (cA 0, 10, .inl fam)), (p5, .inl (cA 0, 10, .inl fby)), (p9, .inl (cA 0, 10, .inl fen)), (p7, .inl (cA 0, 350, .inl fst)), (p8, .inl (cA 0, 350, .inl fop)), (oX0 t0 tq t1 t3 t4 t5 t6 z6 z7 z8 z9 z10 z11 z12 z13 z14 z15 z16 z17 z18 z19), (t1, .inr (6, [.ref t2, .int (nI ny), .int (nI ky)])), (t2, .inl (cA 0, 240, .inl zr)), (t3, .inl (cA 0, 10, .inl zs)), (t4, .inl (cA 0, 10, .inl zp)), (t5, .inl (cA 0, 10, .inl zf)), (t6, .inl (cA 0, 10, .inl zd))] t) (va_A [(oX9 h0 b0 (nI nb) p0 u0 r0 a0 t0 s0 o0), (oX0 a0 p0 a1 a3 a4 a5 a6 i6 i7 i8 i9 i10 i11 i12 i13 i14 i15 i16 i17 i18 i19), (a1, .inr (6, [.ref a2, .int (nI nx), .int (nI kp)])), (a2, .inl (cA 0, 240, .inl fr)), (a3, .inl (cA 0, 10, .inl fs)), (a4, .inl (cA 0, 10, .inl fp)), (a5, .inl (cA 0, 10, .inl ff)), (a6, .inl (cA 0, 10, .inl fd)), (oX3 p0 pr pb pe pg p1 (nI nd) p2 p3 p4 p5 (nI cn) p6 (nI pq) p7 p8 p9 (nI sc)), (p3, .inl (cA 0, 10, .inl fam)), (p5, .inl (cA 0, 10, .inl fby)), (p9, .inl (cA 0, 10, .inl fen)), (p7, .inl (cA 0, 350, .inl fst)), (p8, .inl (cA 0, 350, .inl fop)), (oX0 t0 tp t1 t3 t4 t5 t6 y6 y7 y8 y9 y10 y11 y12 y13 y14 y15 y16 y17 y18 y19), (t1, .inr (6, [.ref t2, .int (nI nt), .int (nI kt)])), (t2, .inl (cA 0, 240, .inl yr)), (t3, .inl (cA 0, 10, .inl ys)), (t4, .inl (cA 0, 10, .inl yp)), (t5, .inl (cA 0, 10, .inl yf)), (t6, .inl (cA 0, 10, .inl yd))] sz)) (vx_X (fun _ : Unit => True) (fun E _ t => (E = "java/lang/IllegalArgumentException") ∧ Wq D (va_A [(oX9 h0 b0 (nI nb) p0 u0 r0 a0 t0 s0 o0), (oX0 a0 p0 a1 a3 a4 a5 a6 i6 i7 i8 i9 i10 i11 i12 i13 i14 i15 i16 i17 i18 i19), (a1, .inr (6, [.ref a2, .int (nI nx), .int (nI kp)])), (a2, .inl (cA 0, 240, .inl fr)), (a3, .inl (cA 0, 10, .inl fs)), (a4, .inl (cA 0, 10, .inl fp)), (a5, .inl (cA 0, 10, .inl ff)), (a6, .inl (cA 0, 10, .inl fd)), (oX3 p0 pr pb pe pg p1 (nI nd) p2 p3 p4 p5 (nI cn) p6 (nI pq) p7 p8 p9 (nI sc)), (p3, .inl (cA 0, 10, .inl fam)), (p5, .inl (cA 0, 10, .inl fby)), (p9, .inl (cA 0, 10, .inl fen)), (p7, .inl (cA 0, 350, .inl fst)), (p8, .inl (cA 0, 350, .inl fop)), (oX0 t0 tp t1 t3 t4 t5 t6 y6 y7 y8 y9 y10 y11 y12 y13 y14 y15 y16 y17 y18 y19), (t1, .inr (6, [.ref t2, .int (nI nt), .int (nI kt)])), (t2, .inl (cA 0, 240, .inl yr)), (t3, .inl (cA 0, 10, .inl ys)), (t4, .inl (cA 0, 10, .inl yp)), (t5, .inl (cA 0, 10, .inl yf)), (t6, .inl (cA 0, 10, .inl yd))] sz) [(oX9 h0 b0 (nI nb) p0 u0 r0 a0 t0 s0 o0), (oX0 a0 p0 a1 a3 a4 a5 a6 i6 i7 i8 i9 i10 i11 i12 i13 i14 i15 i16 i17 i18 i19), (a1, .inr (6, [.ref a2, .int (nI nx), .int (nI kp)])), (a2, .inl (cA 0, 240, .inl fr)), (a3, .inl (cA 0, 10, .inl fs)), (a4, .inl (cA 0, 10, .inl fp)), (a5, .inl (cA 0, 10, .inl ff)), (a6, .inl (cA 0, 10, .inl fd)), (oX3 p0 pr pb pe pg p1 (nI nd) p2 p3 p4 p5 (nI cn) p6 (nI pq) p7 p8 p9 (nI sc)), (p3, .inl (cA 0, 10, .inl fam)), (p5, .inl (cA 0, 10, .inl fby)), (p9, .inl (cA 0, 10, .inl fen)), (p7, .inl (cA 0, 350, .inl fst)), (p8, .inl (cA 0, 350, .inl fop)), (oX0 t0 tp t1 t3 t4 t5 t6 y6 y7 y8 y9 y10 y11 y12 y13 y14 y15 y16 y17 y18 y19), (t1, .inr (6, [.ref t2, .int (nI nt), .int (nI kt)])), (t2, .inl (cA 0, 240, .inl yr)), (t3, .inl (cA 0, 10, .inl ys)), (t4, .inl (cA 0, 10, .inl yp)), (t5, .inl (cA 0, 10, .inl yf)), (t6, .inl (cA 0, 10, .inl yd))] t) (va_A [(oX9 h0 b0 (nI nb) p0 u0 r0 a0 t0 s0 o0), (oX0 a0 p0 a1 a3 a4 a5 a6 i6 i7 i8 i9 i10 i11 i12 i13 i14 i15 i16 i17 i18 i19), (a1, .inr (6, [.ref a2, .int (nI nx), .int (nI kp)])), (a2, .inl (cA 0, 240, .inl fr)), (a3, .inl (cA 0, 10, .inl fs)), (a4, .inl (cA 0, 10, .inl fp)), (a5, .inl (cA 0, 10, .inl ff)), (a6, .inl (cA 0, 10, .inl fd)), (oX3 p0 pr pb pe pg p1 (nI nd) p2 p3 p4 p5 (nI cn) p6 (nI pq) p7 p8 p9 (nI sc)), (p3, .inl (cA 0, 10, .inl fam)), (p5, .inl (cA 0, 10, .inl fby)), (p9, .inl (cA 0, 10, .inl fen)), (p7, .inl (cA 0, 350, .inl fst)), (p8, .inl (cA 0, 350, .inl fop)), (oX0 t0 tp t1 t3 t4 t5 t6 y6 y7 y8 y9 y10 y11 y12 y13 y14 y15 y16 y17 y18 y19), (t1, .inr (6, [.ref t2, .int (nI nt), .int (nI kt)])), (t2, .inl (cA 0, 240, .inl yr)), (t3, .inl (cA 0, 10, .inl ys)), (t4, .inl (cA 0, 10, .inl yp)), (t5, .inl (cA 0, 10, .inl yf)), (t6, .inl (cA 0, 10, .inl yd))] sz)) 1 6 (va_A [(oX9 h0 b0 (nI nb) p0 u0 r0 a0 t0 s0 o0), (oX0 a0 p0 a1 a3 a4 a5 a6 i6 i7 i8 i9 i10 i11 i12 i13 i14 i15 i16 i17 i18 i19), (a1, .inr (6, [.ref a2, .int (nI nx), .int (nI kp)])), (a2, .inl (cA 0, 240, .inl fr)), (a3, .inl (cA 0, 10, .inl fs)), (a4, .inl (cA 0, 10, .inl fp)), (a5, .inl (cA 0, 10, .inl ff)), (a6, .inl (cA 0, 10, .inl fd)), (oX3 p0 pr pb pe pg p1 (nI nd) p2 p3 p4 p5 (nI cn) p6 (nI pq) p7 p8 p9 (nI sc)), (p3, .inl (cA 0, 10, .inl fam)), (p5, .inl (cA 0, 10, .inl fby)), (p9, .inl (cA 0, 10, .inl fen)), (p7, .inl (cA 0, 350, .inl fst)), (p8, .inl (cA 0, 350, .inl fop)), (oX0 t0 tp t1 t3 t4 t5 t6 y6 y7 y8 y9 y10 y11 y12 y13 y14 y15 y16 y17 y18 y19), (t1, .inr (6, [.ref t2, .int (nI nt), .int (nI kt)])), (t2, .inl (cA 0, 240, .inl yr)), (t3, .inl (cA 0, 10, .inl ys)), (t4, .inl (cA 0, 10, .inl yp)), (t5, .inl (cA 0, 10, .inl yf)), (t6, .inl (cA 0, 10, .inl yd))] sz) := by
  refine vx_ofW (cc := cX9_creditedAfter) (maxL := 2) (ret := (some .int)) (by decide) rfl ?_
  intro p e s m args below meth c s₁ B hml hno hv
  obtain ⟨rfl, hsz, hP, hK, hD0, hC, hZ⟩ := hv
  have hx := B.exec
  have hb := B.bytes
  have hr := B.returns
  have hts := atoms_spec (ws := wsX9_creditedAfter) B.pre
  have hown : s.vm.findClass RX9 = some m.cls := findClass_of_methodNamed B.named
  have hlocks := B.notSynchronized
  subst hsz
  have hD := hD0.self (sz := s.heap.size)
  generalize hAe : va_A [(oX9 h0 b0 (nI nb) p0 u0 r0 a0 t0 s0 o0), (oX0 a0 p0 a1 a3 a4 a5 a6 i6 i7 i8 i9 i10 i11 i12 i13 i14 i15 i16 i17 i18 i19), (a1, .inr (6, [.ref a2, .int (nI nx), .int (nI kp)])), (a2, .inl (cA 0, 240, .inl fr)), (a3, .inl (cA 0, 10, .inl fs)), (a4, .inl (cA 0, 10, .inl fp)), (a5, .inl (cA 0, 10, .inl ff)), (a6, .inl (cA 0, 10, .inl fd)), (oX3 p0 pr pb pe pg p1 (nI nd) p2 p3 p4 p5 (nI cn) p6 (nI pq) p7 p8 p9 (nI sc)), (p3, .inl (cA 0, 10, .inl fam)), (p5, .inl (cA 0, 10, .inl fby)), (p9, .inl (cA 0, 10, .inl fen)), (p7, .inl (cA 0, 350, .inl fst)), (p8, .inl (cA 0, 350, .inl fop)), (oX0 t0 tp t1 t3 t4 t5 t6 y6 y7 y8 y9 y10 y11 y12 y13 y14 y15 y16 y17 y18 y19), (t1, .inr (6, [.ref t2, .int (nI nt), .int (nI kt)])), (t2, .inl (cA 0, 240, .inl yr)), (t3, .inl (cA 0, 10, .inl ys)), (t4, .inl (cA 0, 10, .inl yp)), (t5, .inl (cA 0, 10, .inl yf)), (t6, .inl (cA 0, 10, .inl yd))] s.heap.size = A at hD hZ ⊢
  have hA : ∀ q : Nat, s.heap.size ≤ q → A q := fun q h => by rw [← hAe]; exact Or.inr h
  have hS : va_S A s.heap s.heap [] := va_S.rf
  have hP : va_P D vwCl [(oX9 h0 b0 (nI nb) p0 u0 r0 a0 t0 s0 o0), (oX0 a0 p0 a1 a3 a4 a5 a6 i6 i7 i8 i9 i10 i11 i12 i13 i14 i15 i16 i17 i18 i19), (a1, .inr (6, [.ref a2, .int (nI nx), .int (nI kp)])), (a2, .inl (cA 0, 240, .inl fr)), (a3, .inl (cA 0, 10, .inl fs)), (a4, .inl (cA 0, 10, .inl fp)), (a5, .inl (cA 0, 10, .inl ff)), (a6, .inl (cA 0, 10, .inl fd)), (oX3 p0 pr pb pe pg p1 (nI nd) p2 p3 p4 p5 (nI cn) p6 (nI pq) p7 p8 p9 (nI sc)), (p3, .inl (cA 0, 10, .inl fam)), (p5, .inl (cA 0, 10, .inl fby)), (p9, .inl (cA 0, 10, .inl fen)), (p7, .inl (cA 0, 350, .inl fst)), (p8, .inl (cA 0, 350, .inl fop)), (oX0 t0 tp t1 t3 t4 t5 t6 y6 y7 y8 y9 y10 y11 y12 y13 y14 y15 y16 y17 y18 y19), (t1, .inr (6, [.ref t2, .int (nI nt), .int (nI kt)])), (t2, .inl (cA 0, 240, .inl yr)), (t3, .inl (cA 0, 10, .inl ys)), (t4, .inl (cA 0, 10, .inl yp)), (t5, .inl (cA 0, 10, .inl yf)), (t6, .inl (cA 0, 10, .inl yd))] s.heap := hP
  have hl := lv_entry ([.ref h0, .int i]) (n := 2) (Nat.le_of_ble_eq_true rfl)
  rw [lg_entry_eq]
  generalize (lg_sl ([.ref h0, .int i]) ++ List.replicate (2 - (lg_sl ([.ref h0, .int i])).length) Slot.unset).toArray = ls at hl ⊢
  have hl : lv_has ls 2 [(0, .ref h0), (1, .int i)] := hl
  have inX0 : ∀ w ∈ u_ws RX0 TX0 20, w ∈ wsX9_creditedAfter := by decide +kernel
  have inX9 : ∀ w ∈ u_ws RX9 TX9 9, w ∈ wsX9_creditedAfter := by decide +kernel
  refine lv_iload_n hx hb dX9_creditedAfter_0 rfl (lv_at hl 1 rfl) ?_
  refine lv_iconst (v := 1) hx hb dX9_creditedAfter_1 (by decide) ?_
  refine lv_bipush (v := 120) hx hb dX9_creditedAfter_2 (by decide) ?_
  obtain ⟨hPc, hDc, hFc⟩ := PDq.cut (wc := []) hP hD hS hA [] (by decide) rfl
  refine vx_callv (vx_runS (As := [.int i, .int 1, .int 120]) (rest := []) ⟨hx, hb, hml, hown, hts⟩ (s_needRangeN l D cA sa i 1 120 s.heap.size hl9 (by omega) (by omega)) (va_cwS 3 hts gX9_creditedAfter_X9_needRange rfl rfl rfl (by decide +kernel) ⟨(Nat.le_of_ble_eq_true rfl), (Nat.le_of_ble_eq_true rfl)⟩) ⟨Wd.blind, fun U hU hW => ⟨rfl, Wd.call hPc hDc hK hC hZ hS hFc U hU hW⟩⟩ rfl rfl hl.1 rfl (lv_room (Nat.le_of_ble_eq_true rfl)) dX9_creditedAfter_4 ⟨(Nat.le_of_ble_eq_true rfl), (Nat.le_of_ble_eq_true rfl)⟩) hS (fun q _ h => hFc q h) hFc (fun q _ h => hFc q h) (fun E ce q9 u t H1 locs ht hvm hpx hE hz1 hk1 hS hcell hv9 hcl => ?_) (fun u t H1 locs ht hvm hw hB hz1 hk1 hS => ?_)
  · skip
    obtain ⟨hE, hP1, hD1⟩ := hE
    rw [ht] at hP1
    obtain ⟨hP, hD⟩ := PDq.join (w := [(oX9 h0 b0 (nI nb) p0 u0 r0 a0 t0 s0 o0), (oX0 a0 p0 a1 a3 a4 a5 a6 i6 i7 i8 i9 i10 i11 i12 i13 i14 i15 i16 i17 i18 i19), (a1, .inr (6, [.ref a2, .int (nI nx), .int (nI kp)])), (a2, .inl (cA 0, 240, .inl fr)), (a3, .inl (cA 0, 10, .inl fs)), (a4, .inl (cA 0, 10, .inl fp)), (a5, .inl (cA 0, 10, .inl ff)), (a6, .inl (cA 0, 10, .inl fd)), (oX3 p0 pr pb pe pg p1 (nI nd) p2 p3 p4 p5 (nI cn) p6 (nI pq) p7 p8 p9 (nI sc)), (p3, .inl (cA 0, 10, .inl fam)), (p5, .inl (cA 0, 10, .inl fby)), (p9, .inl (cA 0, 10, .inl fen)), (p7, .inl (cA 0, 350, .inl fst)), (p8, .inl (cA 0, 350, .inl fop)), (oX0 t0 tp t1 t3 t4 t5 t6 y6 y7 y8 y9 y10 y11 y12 y13 y14 y15 y16 y17 y18 y19), (t1, .inr (6, [.ref t2, .int (nI nt), .int (nI kt)])), (t2, .inl (cA 0, 240, .inl yr)), (t3, .inl (cA 0, 10, .inl ys)), (t4, .inl (cA 0, 10, .inl yp)), (t5, .inl (cA 0, 10, .inl yf)), (t6, .inl (cA 0, 10, .inl yd))]) 21 hP hD [] [0, 1, 2, 3, 4, 5, 6, 7, 8, 9, 10, 11, 12, 13, 14, 15, 16, 17, 18, 19, 20] rfl rfl (by decide +kernel) (by decide +kernel) hk1 hFc hP1 hD1 rfl
    generalize H1 = H at hP hS hcell ⊢
    obtain ⟨hP9, hD9⟩ := PDq.sub (ws' := [(oX9 h0 b0 (nI nb) p0 u0 r0 a0 t0 s0 o0), (oX0 a0 p0 a1 a3 a4 a5 a6 i6 i7 i8 i9 i10 i11 i12 i13 i14 i15 i16 i17 i18 i19), (a1, .inr (6, [.ref a2, .int (nI nx), .int (nI kp)])), (a2, .inl (cA 0, 240, .inl fr)), (a3, .inl (cA 0, 10, .inl fs)), (a4, .inl (cA 0, 10, .inl fp)), (a5, .inl (cA 0, 10, .inl ff)), (a6, .inl (cA 0, 10, .inl fd)), (oX3 p0 pr pb pe pg p1 (nI nd) p2 p3 p4 p5 (nI cn) p6 (nI pq) p7 p8 p9 (nI sc)), (p3, .inl (cA 0, 10, .inl fam)), (p5, .inl (cA 0, 10, .inl fby)), (p9, .inl (cA 0, 10, .inl fen)), (p7, .inl (cA 0, 350, .inl fst)), (p8, .inl (cA 0, 350, .inl fop)), (oX0 t0 tp t1 t3 t4 t5 t6 y6 y7 y8 y9 y10 y11 y12 y13 y14 y15 y16 y17 y18 y19), (t1, .inr (6, [.ref t2, .int (nI nt), .int (nI kt)])), (t2, .inl (cA 0, 240, .inl yr)), (t3, .inl (cA 0, 10, .inl ys)), (t4, .inl (cA 0, 10, .inl yp)), (t5, .inl (cA 0, 10, .inl yf)), (t6, .inl (cA 0, 10, .inl yd))]) hP hD [0, 1, 2, 3, 4, 5, 6, 7, 8, 9, 10, 11, 12, 13, 14, 15, 16, 17, 18, 19, 20] (by decide +kernel) rfl
    exact vx_out (fun x h => (hno x h).elim) hlocks hcell hv9 hcl (fun t ht hvm => ⟨(), trivial, ⟨hE, by rw [ht]; exact hP9, hD9⟩, hS.F ht⟩) hS.2.2 (Nat.le_of_ble_eq_true rfl) (Nat.le_of_ble_eq_true rfl)
  · skip
    obtain ⟨qn1, hn2, hn3, hn4, hP1, hD1⟩ := hB
    rw [ht] at hP1
    obtain ⟨hP, hD⟩ := PDq.join (w := [(oX9 h0 b0 (nI nb) p0 u0 r0 a0 t0 s0 o0), (oX0 a0 p0 a1 a3 a4 a5 a6 i6 i7 i8 i9 i10 i11 i12 i13 i14 i15 i16 i17 i18 i19), (a1, .inr (6, [.ref a2, .int (nI nx), .int (nI kp)])), (a2, .inl (cA 0, 240, .inl fr)), (a3, .inl (cA 0, 10, .inl fs)), (a4, .inl (cA 0, 10, .inl fp)), (a5, .inl (cA 0, 10, .inl ff)), (a6, .inl (cA 0, 10, .inl fd)), (oX3 p0 pr pb pe pg p1 (nI nd) p2 p3 p4 p5 (nI cn) p6 (nI pq) p7 p8 p9 (nI sc)), (p3, .inl (cA 0, 10, .inl fam)), (p5, .inl (cA 0, 10, .inl fby)), (p9, .inl (cA 0, 10, .inl fen)), (p7, .inl (cA 0, 350, .inl fst)), (p8, .inl (cA 0, 350, .inl fop)), (oX0 t0 tp t1 t3 t4 t5 t6 y6 y7 y8 y9 y10 y11 y12 y13 y14 y15 y16 y17 y18 y19), (t1, .inr (6, [.ref t2, .int (nI nt), .int (nI kt)])), (t2, .inl (cA 0, 240, .inl yr)), (t3, .inl (cA 0, 10, .inl ys)), (t4, .inl (cA 0, 10, .inl yp)), (t5, .inl (cA 0, 10, .inl yf)), (t6, .inl (cA 0, 10, .inl yd))]) 21 hP hD [] [0, 1, 2, 3, 4, 5, 6, 7, 8, 9, 10, 11, 12, 13, 14, 15, 16, 17, 18, 19, 20] rfl rfl (by decide +kernel) (by decide +kernel) hk1 hFc hP1 hD1 rfl
    generalize H1 = H at hP hS ⊢
    rw [hn4] at hl
    have hl : lv_has ls 2 [(0, .ref h0), (1, .int (nI qn1))] := hl
    refine lv_aload_n hx hb dX9_creditedAfter_7 rfl (lv_at hl 0 rfl) ?_
    refine lv_iload_n hx hb dX9_creditedAfter_8 rfl (lv_at hl 1 rfl) ?_
    obtain ⟨hPc, hDc, hFc⟩ := PDq.cut (wc := [(oX9 h0 b0 (nI nb) p0 u0 r0 a0 t0 s0 o0), (oX0 a0 p0 a1 a3 a4 a5 a6 i6 i7 i8 i9 i10 i11 i12 i13 i14 i15 i16 i17 i18 i19), (a1, .inr (6, [.ref a2, .int (nI nx), .int (nI kp)])), (a2, .inl (cA 0, 240, .inl fr)), (a3, .inl (cA 0, 10, .inl fs)), (a4, .inl (cA 0, 10, .inl fp)), (a5, .inl (cA 0, 10, .inl ff)), (a6, .inl (cA 0, 10, .inl fd)), (oX3 p0 pr pb pe pg p1 (nI nd) p2 p3 p4 p5 (nI cn) p6 (nI pq) p7 p8 p9 (nI sc)), (p3, .inl (cA 0, 10, .inl fam)), (p5, .inl (cA 0, 10, .inl fby)), (p9, .inl (cA 0, 10, .inl fen)), (p7, .inl (cA 0, 350, .inl fst)), (p8, .inl (cA 0, 350, .inl fop)), (oX0 t0 tp t1 t3 t4 t5 t6 y6 y7 y8 y9 y10 y11 y12 y13 y14 y15 y16 y17 y18 y19), (t1, .inr (6, [.ref t2, .int (nI nt), .int (nI kt)])), (t2, .inl (cA 0, 240, .inl yr)), (t3, .inl (cA 0, 10, .inl ys)), (t4, .inl (cA 0, 10, .inl yp)), (t5, .inl (cA 0, 10, .inl yf)), (t6, .inl (cA 0, 10, .inl yd))]) hP hD hS hA [0, 1, 2, 3, 4, 5, 6, 7, 8, 9, 10, 11, 12, 13, 14, 15, 16, 17, 18, 19, 20] (by decide +kernel) rfl
    refine va_callv (va_runV (As := [.int (nI qn1)]) (rest := []) ⟨hx, hb, hml, hown, hts⟩ (s_tryDays l D cA sa h0 b0 nb p0 u0 r0 a0 t0 s0 o0 a1 a2 a3 a4 a5 a6 i6 i7 i8 i12 i13 i14 i15 i16 i17 i18 i19 i9 i10 i11 nx kp fr fs fp ff fd p1 p2 p3 p4 p5 p6 p7 p8 p9 cn pq nd sc pr pb pe pg fam fby fen fst fop t1 t2 t3 t4 t5 t6 tp nt kt y6 y7 y8 y12 y13 y14 y15 y16 y17 y18 y19 y9 y10 y11 yr ys yp yf yd qn1 H.size hnx hkp hnt hkt hcn hpq hnd hsc hby hen hn3) (cwV 1 hts gX9_creditedAfter_X9_tryDays rfl rfl rfl (by decide +kernel) ⟨(Nat.le_of_ble_eq_true rfl), (Nat.le_of_ble_eq_true rfl)⟩) ⟨Wd.blind, va_recv hK hPc (ci := 10) (q0 := 0) rfl rfl, fun U hU hW => ⟨rfl, Wd.call hPc hDc hK hC hZ hS hFc U hU hW⟩⟩ rfl rfl hl.1 rfl (lv_room (Nat.le_of_ble_eq_true rfl)) dX9_creditedAfter_9 ⟨(Nat.le_of_ble_eq_true rfl), (Nat.le_of_ble_eq_true rfl)⟩) hS (fun q _ h => hFc q h) hFc (fun u t H1 locs ht hvm hw hB hz1 hk1 hS => ?_)
    obtain ⟨qn5, qn6, qn7, zn8, zn9, zn10, zn11, zn12, zn13, zn14, zn15, zn16, zn17, zn18, zn19, zn20, zn21, fn22, fn23, fn24, fn25, fn26, hn27, hn28, hP1, hD1⟩ := hB
    rw [ht] at hP1
    obtain ⟨hP, hD⟩ := PDq.join (w := [(oX9 h0 b0 (nI nb) p0 u0 r0 a0 t0 s0 o0), (oX0 a0 p0 a1 a3 a4 a5 a6 i6 i7 i8 i9 i10 i11 i12 i13 i14 i15 i16 i17 i18 i19), (a1, .inr (6, [.ref a2, .int (nI nx), .int (nI kp)])), (a2, .inl (cA 0, 240, .inl fr)), (a3, .inl (cA 0, 10, .inl fs)), (a4, .inl (cA 0, 10, .inl fp)), (a5, .inl (cA 0, 10, .inl ff)), (a6, .inl (cA 0, 10, .inl fd)), (oX3 p0 pr pb pe pg p1 (nI nd) p2 p3 p4 p5 (nI cn) p6 (nI pq) p7 p8 p9 (nI sc)), (p3, .inl (cA 0, 10, .inl fam)), (p5, .inl (cA 0, 10, .inl fby)), (p9, .inl (cA 0, 10, .inl fen)), (p7, .inl (cA 0, 350, .inl fst)), (p8, .inl (cA 0, 350, .inl fop)), (oX0 t0 qn5 t1 t3 t4 t5 t6 zn8 zn9 zn10 zn19 zn20 zn21 zn11 zn12 zn13 zn14 zn15 zn16 zn17 zn18), (t1, .inr (6, [.ref t2, .int (nI qn6), .int (nI qn7)])), (t2, .inl (cA 0, 240, .inl fn22)), (t3, .inl (cA 0, 10, .inl fn23)), (t4, .inl (cA 0, 10, .inl fn24)), (t5, .inl (cA 0, 10, .inl fn25)), (t6, .inl (cA 0, 10, .inl fn26))]) 0 hP hD [0, 1, 2, 3, 4, 5, 6, 7, 8, 9, 10, 11, 12, 13, 14, 15, 16, 17, 18, 19, 20] [] rfl rfl (by decide) (by decide +kernel) hk1 hFc hP1 hD1 rfl
    generalize H1 = H at hP hS ⊢
    refine lv_aload_n hx hb dX9_creditedAfter_12 rfl (lv_at hl 0 rfl) ?_
    refine va_get (D := D) (ci := 10) (v := .ref t0) (C := RX9) (T := TX9) (N := 9) hx hb hts inX9 hown hK hP 0 rfl rfl 6 (by decide) (hts (.fieldLink RX9 39 "EscrowDesk" "trial" "LEscrowDesk$Account;") (by decide +kernel)) (fun _ h9 => h9) rfl dX9_creditedAfter_13 ?_
    refine va_getN (D := D) (ci := 4) (v := .long zn20) (C := RX0) (T := TX0) (N := 20) hx hb hts inX0 hown hK hP 14 rfl rfl 10 (by decide) (hC.f (A := _) (a := RX9) (i := 104) (b := "EscrowDesk$Account") (n := "credited") (d := "J") (x := "EscrowDesk") (by decide +kernel)) (fun _ h9 => h9) rfl dX9_creditedAfter_16 ?_
    refine lv_l2i (v := zn20.toInt32) hx hb dX9_creditedAfter_19 rfl ?_
    refine lv_topi (fun yn29 eyn29 => ?_)
    obtain ⟨hP9, hD9⟩ := PDq.sub (ws' := [(oX9 h0 b0 (nI nb) p0 u0 r0 a0 t0 s0 o0), (oX0 a0 p0 a1 a3 a4 a5 a6 i6 i7 i8 i9 i10 i11 i12 i13 i14 i15 i16 i17 i18 i19), (a1, .inr (6, [.ref a2, .int (nI nx), .int (nI kp)])), (a2, .inl (cA 0, 240, .inl fr)), (a3, .inl (cA 0, 10, .inl fs)), (a4, .inl (cA 0, 10, .inl fp)), (a5, .inl (cA 0, 10, .inl ff)), (a6, .inl (cA 0, 10, .inl fd)), (oX3 p0 pr pb pe pg p1 (nI nd) p2 p3 p4 p5 (nI cn) p6 (nI pq) p7 p8 p9 (nI sc)), (p3, .inl (cA 0, 10, .inl fam)), (p5, .inl (cA 0, 10, .inl fby)), (p9, .inl (cA 0, 10, .inl fen)), (p7, .inl (cA 0, 350, .inl fst)), (p8, .inl (cA 0, 350, .inl fop)), (oX0 t0 qn5 t1 t3 t4 t5 t6 zn8 zn9 zn10 zn19 zn20 zn21 zn11 zn12 zn13 zn14 zn15 zn16 zn17 zn18), (t1, .inr (6, [.ref t2, .int (nI qn6), .int (nI qn7)])), (t2, .inl (cA 0, 240, .inl fn22)), (t3, .inl (cA 0, 10, .inl fn23)), (t4, .inl (cA 0, 10, .inl fn24)), (t5, .inl (cA 0, 10, .inl fn25)), (t6, .inl (cA 0, 10, .inl fn26))]) hP hD [0, 1, 2, 3, 4, 5, 6, 7, 8, 9, 10, 11, 12, 13, 14, 15, 16, 17, 18, 19, 20] (by decide +kernel) rfl
    refine W.widen (k := 1) (n := 6) (Nat.le_of_ble_eq_true rfl) (Nat.le_of_ble_eq_true rfl) ?_
    exact vx_ret (W.iret (v := yn29) hx hb hr (fun t ht hW => ⟨⟨yn29, (), rfl, trivial, qn5, qn6, qn7, zn8, zn9, zn10, zn11, zn12, zn13, zn14, zn15, zn16, zn17, zn18, zn19, zn20, zn21, fn22, fn23, fn24, fn25, fn26, hn27, hn28, by rw [ht]; exact hP9, hD9⟩, hS.F ht⟩) hS.2.2 dX9_creditedAfter_20)

set_option maxHeartbeats 4000000 in
set_option maxRecDepth 100000 in
/-- paidAfter -/
theorem s_paidAfter (l : Launch) (D : va_G) (cA : Nat → ClassId) (sa : Nat → Nat) (h0 : Nat) (b0 : Nat) (nb : Nat) (p0 : Nat) (u0 : Nat) (r0 : Nat) (a0 : Nat) (t0 : Nat) (s0 : Nat) (o0 : Nat) (a1 : Nat) (a2 : Nat) (a3 : Nat) (a4 : Nat) (a5 : Nat) (a6 : Nat) (i6 : Int32) (i7 : Int32) (i8 : Int32) (i12 : Int32) (i13 : Int32) (i14 : Int32) (i15 : Int32) (i16 : Int32) (i17 : Int32) (i18 : Int32) (i19 : Int32) (i9 : Int64) (i10 : Int64) (i11 : Int64) (nx : Nat) (kp : Nat) (fr : Nat → Int32) (fs : Nat → Int32) (fp : Nat → Int32) (ff : Nat → Int32) (fd : Nat → Int32) (p1 : Nat) (p2 : Nat) (p3 : Nat) (p4 : Nat) (p5 : Nat) (p6 : Nat) (p7 : Nat) (p8 : Nat) (p9 : Nat) (cn : Nat) (pq : Nat) (nd : Nat) (sc : Nat) (pr : Int32) (pb : Int32) (pe : Int32) (pg : Int32) (fam : Nat → Int32) (fby : Nat → Int32) (fen : Nat → Int32) (fst : Nat → Int32) (fop : Nat → Int32) (t1 : Nat) (t2 : Nat) (t3 : Nat) (t4 : Nat) (t5 : Nat) (t6 : Nat) (tp : Nat) (nt : Nat) (kt : Nat) (y6 : Int32) (y7 : Int32) (y8 : Int32) (y12 : Int32) (y13 : Int32) (y14 : Int32) (y15 : Int32) (y16 : Int32) (y17 : Int32) (y18 : Int32) (y19 : Int32) (y9 : Int64) (y10 : Int64) (y11 : Int64) (yr : Nat → Int32) (ys : Nat → Int32) (yp : Nat → Int32) (yf : Nat → Int32) (yd : Nat → Int32) (i : Int32) (j : Int32) (sz : Nat) (hl9 : l.stackTraces = false) (hnx : nx < 60) (hkp : kp ≤ 60) (hnt : nt < 60) (hkt : kt ≤ 60) (hcn : cn ≤ 10) (hpq : pq ≤ 8) (hnd : nd ≤ 6) (hsc : sc ≤ 350) (hby : Rng 10 10 fby) (hen : Rng 10 351 fen) : vx_Met l yX9_paidAfter wsX9_paidAfter ({ frames := 8, cells := 2, slots := 12, locals := 161 }) (va_Pc [.ref h0, .int i, .int j] (Wd D cA sa [(oX9 h0 b0 (nI nb) p0 u0 r0 a0 t0 s0 o0), (oX0 a0 p0 a1 a3 a4 a5 a6 i6 i7 i8 i9 i10 i11 i12 i13 i14 i15 i16 i17 i18 i19), (a1, .inr (6, [.ref a2, .int (nI nx), .int (nI kp)])), (a2, .inl (cA 0, 240, .inl fr)), (a3, .inl (cA 0, 10, .inl fs)), (a4, .inl (cA 0, 10, .inl fp)), (a5, .inl (cA 0, 10, .inl ff)), (a6, .inl (cA 0, 10, .inl fd)), (oX3 p0 pr pb pe pg p1 (nI nd) p2 p3 p4 p5 (nI cn) p6 (nI pq) p7 p8 p9 (nI sc)), (p3, .inl (cA 0, 10, .inl fam)), (p5, .inl (cA 0, 10, .inl fby)), (p9, .inl (cA 0, 10, .inl fen)), (p7, .inl (cA 0, 350, .inl fst)), (p8, .inl (cA 0, 350, .inl fop)), (oX0 t0 tp t1 t3 t4 t5 t6 y6 y7 y8 y9 y10 y11 y12 y13 y14 y15 y16 y17 y18 y19), (t1, .inr (6, [.ref t2, .int (nI nt), .int (nI kt)])), (t2, .inl (cA 0, 240, .inl yr)), (t3, .inl (cA 0, 10, .inl ys)), (t4, .inl (cA 0, 10, .inl yp)), (t5, .inl (cA 0, 10, .inl yf)), (t6, .inl (cA 0, 10, .inl yd))] sz)) (va_Qi (fun (r : Int32) (_ : Unit) => True) (fun (_ : Unit) t => ∃ tq : Nat, ∃ ny : Nat, ∃ ky : Nat, ∃ z6 : Int32, ∃ z7 : Int32, ∃ z8 : Int32, ∃ z12 : Int32, ∃ z13 : Int32, ∃ z14 : Int32, ∃ z15 : Int32, ∃ z16 : Int32, ∃ z17 : Int32, ∃ z18 : Int32, ∃ z19 : Int32, ∃ z9 : Int64, ∃ z10 : Int64, ∃ z11 : Int64, ∃ zr : Nat → Int32, ∃ zs : Nat → Int32, ∃ zp : Nat → Int32, ∃ zf : Nat → Int32, ∃ zd : Nat → Int32, ny < 60 ∧ ky ≤ 60 ∧ Wq D (va_A [(oX9 h0 b0 (nI nb) p0 u0 r0 a0 t0 s0 o0), (oX0 a0 p0 a1 a3 a4 a5 a6 i6 i7 i8 i9 i10 i11 i12 i13 i14 i15 i16 i17 i18 i19), (a1, .inr (6, [.ref a2, .int (nI nx), .int (nI kp)])), (a2, .inl (cA 0, 240, .inl fr)), (a3, .inl (cA 0, 10, .inl fs)), (a4, .inl (cA 0, 10, .inl fp)), (a5, .inl (cA 0, 10, .inl ff)), (a6, .inl (cA 0, 10, .inl fd)), (oX3 p0 pr pb pe pg p1 (nI nd) p2 p3 p4 p5 (nI cn) p6 (nI pq) p7 p8 p9 (nI sc)), (p3, .inl (cA 0, 10, .inl fam)), (p5, .inl (cA 0, 10, .inl fby)), (p9, .inl (cA 0, 10, .inl fen)), (p7, .inl (cA 0, 350, .inl fst)), (p8, .inl (cA 0, 350, .inl fop)), (oX0 t0 tp t1 t3 t4 t5 t6 y6 y7 y8 y9 y10 y11 y12 y13 y14 y15 y16 y17 y18 y19), (t1, .inr (6, [.ref t2, .int (nI nt), .int (nI kt)])), (t2, .inl (cA 0, 240, .inl yr)), (t3, .inl (cA 0, 10, .inl ys)), (t4, .inl (cA 0, 10, .inl yp)), (t5, .inl (cA 0, 10, .inl yf)), (t6, .inl (cA 0, 10, .inl yd))] sz) [(oX9 h0 b0 (nI nb) p0 u0 r0 a0 t0 s0 o0), (oX0 a0 p0 a1 a3 a4 a5 a6 i6 i7 i8 i9 i10 i11 i12 i13 i14 i15 i16 i17 i18 i19), (a1, .inr (6, [.ref a2, .int (nI nx), .int (nI kp)])), (a2, .inl (cA 0, 240, .inl fr)), (a3, .inl (cA 0, 10, .inl fs)), (a4, .inl (cA 0, 10, .inl fp)), (a5, .inl (cA 0, 10, .inl ff)), (a6, .inl (cA 0, 10, .inl fd)), (oX3 p0 pr pb pe pg p1 (nI nd) p2 p3 p4 p5 (nI cn) p6 (nI pq) p7 p8 p9 (nI sc)), (p3, .inl (cA 0, 10, .inl fam)), (p5, .inl (cA 0, 10, .inl fby)), (p9, .inl (cA 0, 10, .inl fen)), (p7, .inl (cA 0, 350, .inl fst)), (p8, .inl (cA 0, 350, .inl fop)), (oX0 t0 tq t1 t3 t4 t5 t6 z6 z7 z8 z9 z10 z11 z12 z13 z14 z15 z16 z17 z18 z19), (t1, .inr (6, [.ref t2, .int (nI ny), .int (nI ky)])), (t2, .inl (cA 0, 240, .inl zr)), (t3, .inl (cA 0, 10, .inl zs)), (t4, .inl (cA 0, 10, .inl zp)), (t5, .inl (cA 0, 10, .inl zf)), (t6, .inl (cA 0, 10, .inl zd))] t) (va_A [(oX9 h0 b0 (nI nb) p0 u0 r0 a0 t0 s0 o0), (oX0 a0 p0 a1 a3 a4 a5 a6 i6 i7 i8 i9 i10 i11 i12 i13 i14 i15 i16 i17 i18 i19), (a1, .inr (6, [.ref a2, .int (nI nx), .int (nI kp)])), (a2, .inl (cA 0, 240, .inl fr)), (a3, .inl (cA 0, 10, .inl fs)), (a4, .inl (cA 0, 10, .inl fp)), (a5, .inl (cA 0, 10, .inl ff)), (a6, .inl (cA 0, 10, .inl fd)), (oX3 p0 pr pb pe pg p1 (nI nd) p2 p3 p4 p5 (nI cn) p6 (nI pq) p7 p8 p9 (nI sc)), (p3, .inl (cA 0, 10, .inl fam)), (p5, .inl (cA 0, 10, .inl fby)), (p9, .inl (cA 0, 10, .inl fen)), (p7, .inl (cA 0, 350, .inl fst)), (p8, .inl (cA 0, 350, .inl fop)), (oX0 t0 tp t1 t3 t4 t5 t6 y6 y7 y8 y9 y10 y11 y12 y13 y14 y15 y16 y17 y18 y19), (t1, .inr (6, [.ref t2, .int (nI nt), .int (nI kt)])), (t2, .inl (cA 0, 240, .inl yr)), (t3, .inl (cA 0, 10, .inl ys)), (t4, .inl (cA 0, 10, .inl yp)), (t5, .inl (cA 0, 10, .inl yf)), (t6, .inl (cA 0, 10, .inl yd))] sz)) (vx_X (fun _ : Unit => True) (fun E _ t => (E = "java/lang/IndexOutOfBoundsException" ∨ E = "java/lang/IllegalArgumentException") ∧ Wq D (va_A [(oX9 h0 b0 (nI nb) p0 u0 r0 a0 t0 s0 o0), (oX0 a0 p0 a1 a3 a4 a5 a6 i6 i7 i8 i9 i10 i11 i12 i13 i14 i15 i16 i17 i18 i19), (a1, .inr (6, [.ref a2, .int (nI nx), .int (nI kp)])), (a2, .inl (cA 0, 240, .inl fr)), (a3, .inl (cA 0, 10, .inl fs)), (a4, .inl (cA 0, 10, .inl fp)), (a5, .inl (cA 0, 10, .inl ff)), (a6, .inl (cA 0, 10, .inl fd)), (oX3 p0 pr pb pe pg p1 (nI nd) p2 p3 p4 p5 (nI cn) p6 (nI pq) p7 p8 p9 (nI sc)), (p3, .inl (cA 0, 10, .inl fam)), (p5, .inl (cA 0, 10, .inl fby)), (p9, .inl (cA 0, 10, .inl fen)), (p7, .inl (cA 0, 350, .inl fst)), (p8, .inl (cA 0, 350, .inl fop)), (oX0 t0 tp t1 t3 t4 t5 t6 y6 y7 y8 y9 y10 y11 y12 y13 y14 y15 y16 y17 y18 y19), (t1, .inr (6, [.ref t2, .int (nI nt), .int (nI kt)])), (t2, .inl (cA 0, 240, .inl yr)), (t3, .inl (cA 0, 10, .inl ys)), (t4, .inl (cA 0, 10, .inl yp)), (t5, .inl (cA 0, 10, .inl yf)), (t6, .inl (cA 0, 10, .inl yd))] sz) [(oX9 h0 b0 (nI nb) p0 u0 r0 a0 t0 s0 o0), (oX0 a0 p0 a1 a3 a4 a5 a6 i6 i7 i8 i9 i10 i11 i12 i13 i14 i15 i16 i17 i18 i19), (a1, .inr (6, [.ref a2, .int (nI nx), .int (nI kp)])), (a2, .inl (cA 0, 240, .inl fr)), (a3, .inl (cA 0, 10, .inl fs)), (a4, .inl (cA 0, 10, .inl fp)), (a5, .inl (cA 0, 10, .inl ff)), (a6, .inl (cA 0, 10, .inl fd)), (oX3 p0 pr pb pe pg p1 (nI nd) p2 p3 p4 p5 (nI cn) p6 (nI pq) p7 p8 p9 (nI sc)), (p3, .inl (cA 0, 10, .inl fam)), (p5, .inl (cA 0, 10, .inl fby)), (p9, .inl (cA 0, 10, .inl fen)), (p7, .inl (cA 0, 350, .inl fst)), (p8, .inl (cA 0, 350, .inl fop)), (oX0 t0 tp t1 t3 t4 t5 t6 y6 y7 y8 y9 y10 y11 y12 y13 y14 y15 y16 y17 y18 y19), (t1, .inr (6, [.ref t2, .int (nI nt), .int (nI kt)])), (t2, .inl (cA 0, 240, .inl yr)), (t3, .inl (cA 0, 10, .inl ys)), (t4, .inl (cA 0, 10, .inl yp)), (t5, .inl (cA 0, 10, .inl yf)), (t6, .inl (cA 0, 10, .inl yd))] t) (va_A [(oX9 h0 b0 (nI nb) p0 u0 r0 a0 t0 s0 o0), (oX0 a0 p0 a1 a3 a4 a5 a6 i6 i7 i8 i9 i10 i11 i12 i13 i14 i15 i16 i17 i18 i19), (a1, .inr (6, [.ref a2, .int (nI nx), .int (nI kp)])), (a2, .inl (cA 0, 240, .inl fr)), (a3, .inl (cA 0, 10, .inl fs)), (a4, .inl (cA 0, 10, .inl fp)), (a5, .inl (cA 0, 10, .inl ff)), (a6, .inl (cA 0, 10, .inl fd)), (oX3 p0 pr pb pe pg p1 (nI nd) p2 p3 p4 p5 (nI cn) p6 (nI pq) p7 p8 p9 (nI sc)), (p3, .inl (cA 0, 10, .inl fam)), (p5, .inl (cA 0, 10, .inl fby)), (p9, .inl (cA 0, 10, .inl fen)), (p7, .inl (cA 0, 350, .inl fst)), (p8, .inl (cA 0, 350, .inl fop)), (oX0 t0 tp t1 t3 t4 t5 t6 y6 y7 y8 y9 y10 y11 y12 y13 y14 y15 y16 y17 y18 y19), (t1, .inr (6, [.ref t2, .int (nI nt), .int (nI kt)])), (t2, .inl (cA 0, 240, .inl yr)), (t3, .inl (cA 0, 10, .inl ys)), (t4, .inl (cA 0, 10, .inl yp)), (t5, .inl (cA 0, 10, .inl yf)), (t6, .inl (cA 0, 10, .inl yd))] sz)) 2 12 (va_A [(oX9 h0 b0 (nI nb) p0 u0 r0 a0 t0 s0 o0), (oX0 a0 p0 a1 a3 a4 a5 a6 i6 i7 i8 i9 i10 i11 i12 i13 i14 i15 i16 i17 i18 i19), (a1, .inr (6, [.ref a2, .int (nI nx), .int (nI kp)])), (a2, .inl (cA 0, 240, .inl fr)), (a3, .inl (cA 0, 10, .inl fs)), (a4, .inl (cA 0, 10, .inl fp)), (a5, .inl (cA 0, 10, .inl ff)), (a6, .inl (cA 0, 10, .inl fd)), (oX3 p0 pr pb pe pg p1 (nI nd) p2 p3 p4 p5 (nI cn) p6 (nI pq) p7 p8 p9 (nI sc)), (p3, .inl (cA 0, 10, .inl fam)), (p5, .inl (cA 0, 10, .inl fby)), (p9, .inl (cA 0, 10, .inl fen)), (p7, .inl (cA 0, 350, .inl fst)), (p8, .inl (cA 0, 350, .inl fop)), (oX0 t0 tp t1 t3 t4 t5 t6 y6 y7 y8 y9 y10 y11 y12 y13 y14 y15 y16 y17 y18 y19), (t1, .inr (6, [.ref t2, .int (nI nt), .int (nI kt)])), (t2, .inl (cA 0, 240, .inl yr)), (t3, .inl (cA 0, 10, .inl ys)), (t4, .inl (cA 0, 10, .inl yp)), (t5, .inl (cA 0, 10, .inl yf)), (t6, .inl (cA 0, 10, .inl yd))] sz) := by
  refine vx_ofW (cc := cX9_paidAfter) (maxL := 3) (ret := (some .int)) (by decide) rfl ?_
  intro p e s m args below meth c s₁ B hml hno hv
  obtain ⟨rfl, hsz, hP, hK, hD0, hC, hZ⟩ := hv
  have hx := B.exec
  have hb := B.bytes
  have hr := B.returns
  have hts := atoms_spec (ws := wsX9_paidAfter) B.pre
  have hown : s.vm.findClass RX9 = some m.cls := findClass_of_methodNamed B.named
  have hlocks := B.notSynchronized
  subst hsz
  have hD := hD0.self (sz := s.heap.size)
  generalize hAe : va_A [(oX9 h0 b0 (nI nb) p0 u0 r0 a0 t0 s0 o0), (oX0 a0 p0 a1 a3 a4 a5 a6 i6 i7 i8 i9 i10 i11 i12 i13 i14 i15 i16 i17 i18 i19), (a1, .inr (6, [.ref a2, .int (nI nx), .int (nI kp)])), (a2, .inl (cA 0, 240, .inl fr)), (a3, .inl (cA 0, 10, .inl fs)), (a4, .inl (cA 0, 10, .inl fp)), (a5, .inl (cA 0, 10, .inl ff)), (a6, .inl (cA 0, 10, .inl fd)), (oX3 p0 pr pb pe pg p1 (nI nd) p2 p3 p4 p5 (nI cn) p6 (nI pq) p7 p8 p9 (nI sc)), (p3, .inl (cA 0, 10, .inl fam)), (p5, .inl (cA 0, 10, .inl fby)), (p9, .inl (cA 0, 10, .inl fen)), (p7, .inl (cA 0, 350, .inl fst)), (p8, .inl (cA 0, 350, .inl fop)), (oX0 t0 tp t1 t3 t4 t5 t6 y6 y7 y8 y9 y10 y11 y12 y13 y14 y15 y16 y17 y18 y19), (t1, .inr (6, [.ref t2, .int (nI nt), .int (nI kt)])), (t2, .inl (cA 0, 240, .inl yr)), (t3, .inl (cA 0, 10, .inl ys)), (t4, .inl (cA 0, 10, .inl yp)), (t5, .inl (cA 0, 10, .inl yf)), (t6, .inl (cA 0, 10, .inl yd))] s.heap.size = A at hD hZ ⊢
  have hA : ∀ q : Nat, s.heap.size ≤ q → A q := fun q h => by rw [← hAe]; exact Or.inr h
  have hS : va_S A s.heap s.heap [] := va_S.rf
  have hP : va_P D vwCl [(oX9 h0 b0 (nI nb) p0 u0 r0 a0 t0 s0 o0), (oX0 a0 p0 a1 a3 a4 a5 a6 i6 i7 i8 i9 i10 i11 i12 i13 i14 i15 i16 i17 i18 i19), (a1, .inr (6, [.ref a2, .int (nI nx), .int (nI kp)])), (a2, .inl (cA 0, 240, .inl fr)), (a3, .inl (cA 0, 10, .inl fs)), (a4, .inl (cA 0, 10, .inl fp)), (a5, .inl (cA 0, 10, .inl ff)), (a6, .inl (cA 0, 10, .inl fd)), (oX3 p0 pr pb pe pg p1 (nI nd) p2 p3 p4 p5 (nI cn) p6 (nI pq) p7 p8 p9 (nI sc)), (p3, .inl (cA 0, 10, .inl fam)), (p5, .inl (cA 0, 10, .inl fby)), (p9, .inl (cA 0, 10, .inl fen)), (p7, .inl (cA 0, 350, .inl fst)), (p8, .inl (cA 0, 350, .inl fop)), (oX0 t0 tp t1 t3 t4 t5 t6 y6 y7 y8 y9 y10 y11 y12 y13 y14 y15 y16 y17 y18 y19), (t1, .inr (6, [.ref t2, .int (nI nt), .int (nI kt)])), (t2, .inl (cA 0, 240, .inl yr)), (t3, .inl (cA 0, 10, .inl ys)), (t4, .inl (cA 0, 10, .inl yp)), (t5, .inl (cA 0, 10, .inl yf)), (t6, .inl (cA 0, 10, .inl yd))] s.heap := hP
  have hl := lv_entry ([.ref h0, .int i, .int j]) (n := 3) (Nat.le_of_ble_eq_true rfl)
  rw [lg_entry_eq]
  generalize (lg_sl ([.ref h0, .int i, .int j]) ++ List.replicate (3 - (lg_sl ([.ref h0, .int i, .int j])).length) Slot.unset).toArray = ls at hl ⊢
  have hl : lv_has ls 3 [(0, .ref h0), (1, .int i), (2, .int j)] := hl
  have inX0 : ∀ w ∈ u_ws RX0 TX0 20, w ∈ wsX9_paidAfter := by decide +kernel
  have inX9 : ∀ w ∈ u_ws RX9 TX9 9, w ∈ wsX9_paidAfter := by decide +kernel
  refine lv_aload_n hx hb dX9_paidAfter_0 rfl (lv_at hl 0 rfl) ?_
  refine lv_iload_n hx hb dX9_paidAfter_1 rfl (lv_at hl 1 rfl) ?_
  obtain ⟨hPc, hDc, hFc⟩ := PDq.cut (wc := [(oX9 h0 b0 (nI nb) p0 u0 r0 a0 t0 s0 o0), (oX3 p0 pr pb pe pg p1 (nI nd) p2 p3 p4 p5 (nI cn) p6 (nI pq) p7 p8 p9 (nI sc))]) hP hD hS hA [0, 8] (by decide) rfl
  refine vx_callv (vx_runV (As := [.int i]) (rest := []) ⟨hx, hb, hml, hown, hts⟩ (s_needMilestone l D cA sa h0 b0 nb p0 u0 r0 a0 t0 s0 o0 p1 p2 p3 p4 p5 p6 p7 p8 p9 cn pq nd sc pr pb pe pg i s.heap.size hl9 hcn hpq hnd hsc) (cwV 1 hts gX9_paidAfter_X9_needMilestone rfl rfl rfl (by decide +kernel) ⟨(Nat.le_of_ble_eq_true rfl), (Nat.le_of_ble_eq_true rfl)⟩) ⟨Wd.blind, va_recv hK hPc (ci := 10) (q0 := 0) rfl rfl, fun U hU hW => ⟨rfl, Wd.call hPc hDc hK hC hZ hS hFc U hU hW⟩⟩ rfl rfl hl.1 rfl (lv_room (Nat.le_of_ble_eq_true rfl)) dX9_paidAfter_2 ⟨(Nat.le_of_ble_eq_true rfl), (Nat.le_of_ble_eq_true rfl)⟩) hS (fun q _ h => hFc q h) hFc (fun q _ h => hFc q h) (fun E ce q9 u t H1 locs ht hvm hpx hE hz1 hk1 hS hcell hv9 hcl => ?_) (fun u t H1 locs ht hvm hw hB hz1 hk1 hS => ?_)
  · skip
    obtain ⟨hE, hP1, hD1⟩ := hE
    rw [ht] at hP1
    obtain ⟨hP, hD⟩ := PDq.join (w := [(oX0 a0 p0 a1 a3 a4 a5 a6 i6 i7 i8 i9 i10 i11 i12 i13 i14 i15 i16 i17 i18 i19), (a1, .inr (6, [.ref a2, .int (nI nx), .int (nI kp)])), (a2, .inl (cA 0, 240, .inl fr)), (a3, .inl (cA 0, 10, .inl fs)), (a4, .inl (cA 0, 10, .inl fp)), (a5, .inl (cA 0, 10, .inl ff)), (a6, .inl (cA 0, 10, .inl fd)), (p3, .inl (cA 0, 10, .inl fam)), (p5, .inl (cA 0, 10, .inl fby)), (p9, .inl (cA 0, 10, .inl fen)), (p7, .inl (cA 0, 350, .inl fst)), (p8, .inl (cA 0, 350, .inl fop)), (oX0 t0 tp t1 t3 t4 t5 t6 y6 y7 y8 y9 y10 y11 y12 y13 y14 y15 y16 y17 y18 y19), (t1, .inr (6, [.ref t2, .int (nI nt), .int (nI kt)])), (t2, .inl (cA 0, 240, .inl yr)), (t3, .inl (cA 0, 10, .inl ys)), (t4, .inl (cA 0, 10, .inl yp)), (t5, .inl (cA 0, 10, .inl yf)), (t6, .inl (cA 0, 10, .inl yd)), (oX9 h0 b0 (nI nb) p0 u0 r0 a0 t0 s0 o0), (oX3 p0 pr pb pe pg p1 (nI nd) p2 p3 p4 p5 (nI cn) p6 (nI pq) p7 p8 p9 (nI sc))]) 19 hP hD [0, 8] [1, 2, 3, 4, 5, 6, 7, 9, 10, 11, 12, 13, 14, 15, 16, 17, 18, 19, 20] rfl rfl (by decide +kernel) (by decide +kernel) hk1 hFc hP1 hD1 rfl
    generalize H1 = H at hP hS hcell ⊢
    obtain ⟨hP9, hD9⟩ := PDq.sub (ws' := [(oX9 h0 b0 (nI nb) p0 u0 r0 a0 t0 s0 o0), (oX0 a0 p0 a1 a3 a4 a5 a6 i6 i7 i8 i9 i10 i11 i12 i13 i14 i15 i16 i17 i18 i19), (a1, .inr (6, [.ref a2, .int (nI nx), .int (nI kp)])), (a2, .inl (cA 0, 240, .inl fr)), (a3, .inl (cA 0, 10, .inl fs)), (a4, .inl (cA 0, 10, .inl fp)), (a5, .inl (cA 0, 10, .inl ff)), (a6, .inl (cA 0, 10, .inl fd)), (oX3 p0 pr pb pe pg p1 (nI nd) p2 p3 p4 p5 (nI cn) p6 (nI pq) p7 p8 p9 (nI sc)), (p3, .inl (cA 0, 10, .inl fam)), (p5, .inl (cA 0, 10, .inl fby)), (p9, .inl (cA 0, 10, .inl fen)), (p7, .inl (cA 0, 350, .inl fst)), (p8, .inl (cA 0, 350, .inl fop)), (oX0 t0 tp t1 t3 t4 t5 t6 y6 y7 y8 y9 y10 y11 y12 y13 y14 y15 y16 y17 y18 y19), (t1, .inr (6, [.ref t2, .int (nI nt), .int (nI kt)])), (t2, .inl (cA 0, 240, .inl yr)), (t3, .inl (cA 0, 10, .inl ys)), (t4, .inl (cA 0, 10, .inl yp)), (t5, .inl (cA 0, 10, .inl yf)), (t6, .inl (cA 0, 10, .inl yd))]) hP hD [19, 0, 1, 2, 3, 4, 5, 6, 20, 7, 8, 9, 10, 11, 12, 13, 14, 15, 16, 17, 18] (by decide +kernel) rfl
    exact vx_out (fun x h => (hno x h).elim) hlocks hcell hv9 hcl (fun t ht hvm => ⟨(), trivial, ⟨(by rw [hE]; simp), by rw [ht]; exact hP9, hD9⟩, hS.F ht⟩) hS.2.2 (Nat.le_of_ble_eq_true rfl) (Nat.le_of_ble_eq_true rfl)
  · skip
    obtain ⟨qn1, hn2, hn3, hP1, hD1⟩ := hB
    rw [ht] at hP1
    obtain ⟨hP, hD⟩ := PDq.join (w := [(oX0 a0 p0 a1 a3 a4 a5 a6 i6 i7 i8 i9 i10 i11 i12 i13 i14 i15 i16 i17 i18 i19), (a1, .inr (6, [.ref a2, .int (nI nx), .int (nI kp)])), (a2, .inl (cA 0, 240, .inl fr)), (a3, .inl (cA 0, 10, .inl fs)), (a4, .inl (cA 0, 10, .inl fp)), (a5, .inl (cA 0, 10, .inl ff)), (a6, .inl (cA 0, 10, .inl fd)), (p3, .inl (cA 0, 10, .inl fam)), (p5, .inl (cA 0, 10, .inl fby)), (p9, .inl (cA 0, 10, .inl fen)), (p7, .inl (cA 0, 350, .inl fst)), (p8, .inl (cA 0, 350, .inl fop)), (oX0 t0 tp t1 t3 t4 t5 t6 y6 y7 y8 y9 y10 y11 y12 y13 y14 y15 y16 y17 y18 y19), (t1, .inr (6, [.ref t2, .int (nI nt), .int (nI kt)])), (t2, .inl (cA 0, 240, .inl yr)), (t3, .inl (cA 0, 10, .inl ys)), (t4, .inl (cA 0, 10, .inl yp)), (t5, .inl (cA 0, 10, .inl yf)), (t6, .inl (cA 0, 10, .inl yd)), (oX9 h0 b0 (nI nb) p0 u0 r0 a0 t0 s0 o0), (oX3 p0 pr pb pe pg p1 (nI nd) p2 p3 p4 p5 (nI cn) p6 (nI pq) p7 p8 p9 (nI sc))]) 19 hP hD [0, 8] [1, 2, 3, 4, 5, 6, 7, 9, 10, 11, 12, 13, 14, 15, 16, 17, 18, 19, 20] rfl rfl (by decide +kernel) (by decide +kernel) hk1 hFc hP1 hD1 rfl
    generalize H1 = H at hP hS ⊢
    rw [hn3] at hl
    have hl : lv_has ls 3 [(0, .ref h0), (1, .int (nI qn1)), (2, .int j)] := hl
    refine lv_iload_n hx hb dX9_paidAfter_5 rfl (lv_at hl 2 rfl) ?_
    refine lv_iconst (v := 1) hx hb dX9_paidAfter_6 (by decide) ?_
    refine lv_bipush (v := 120) hx hb dX9_paidAfter_7 (by decide) ?_
    obtain ⟨hPc, hDc, hFc⟩ := PDq.cut (wc := []) hP hD hS hA [] (by decide) rfl
    refine vx_callv (vx_runS (As := [.int j, .int 1, .int 120]) (rest := []) ⟨hx, hb, hml, hown, hts⟩ (s_needRangeN l D cA sa j 1 120 H.size hl9 (by omega) (by omega)) (va_cwS 3 hts gX9_paidAfter_X9_needRange rfl rfl rfl (by decide +kernel) ⟨(Nat.le_of_ble_eq_true rfl), (Nat.le_of_ble_eq_true rfl)⟩) ⟨Wd.blind, fun U hU hW => ⟨rfl, Wd.call hPc hDc hK hC hZ hS hFc U hU hW⟩⟩ rfl rfl hl.1 rfl (lv_room (Nat.le_of_ble_eq_true rfl)) dX9_paidAfter_9 ⟨(Nat.le_of_ble_eq_true rfl), (Nat.le_of_ble_eq_true rfl)⟩) hS (fun q _ h => hFc q h) hFc (fun q _ h => hFc q h) (fun E ce q9 u t H1 locs ht hvm hpx hE hz1 hk1 hS hcell hv9 hcl => ?_) (fun u t H1 locs ht hvm hw hB hz1 hk1 hS => ?_)
    · skip
      obtain ⟨hE, hP1, hD1⟩ := hE
      rw [ht] at hP1
      obtain ⟨hP, hD⟩ := PDq.join (w := [(oX0 a0 p0 a1 a3 a4 a5 a6 i6 i7 i8 i9 i10 i11 i12 i13 i14 i15 i16 i17 i18 i19), (a1, .inr (6, [.ref a2, .int (nI nx), .int (nI kp)])), (a2, .inl (cA 0, 240, .inl fr)), (a3, .inl (cA 0, 10, .inl fs)), (a4, .inl (cA 0, 10, .inl fp)), (a5, .inl (cA 0, 10, .inl ff)), (a6, .inl (cA 0, 10, .inl fd)), (p3, .inl (cA 0, 10, .inl fam)), (p5, .inl (cA 0, 10, .inl fby)), (p9, .inl (cA 0, 10, .inl fen)), (p7, .inl (cA 0, 350, .inl fst)), (p8, .inl (cA 0, 350, .inl fop)), (oX0 t0 tp t1 t3 t4 t5 t6 y6 y7 y8 y9 y10 y11 y12 y13 y14 y15 y16 y17 y18 y19), (t1, .inr (6, [.ref t2, .int (nI nt), .int (nI kt)])), (t2, .inl (cA 0, 240, .inl yr)), (t3, .inl (cA 0, 10, .inl ys)), (t4, .inl (cA 0, 10, .inl yp)), (t5, .inl (cA 0, 10, .inl yf)), (t6, .inl (cA 0, 10, .inl yd)), (oX9 h0 b0 (nI nb) p0 u0 r0 a0 t0 s0 o0), (oX3 p0 pr pb pe pg p1 (nI nd) p2 p3 p4 p5 (nI cn) p6 (nI pq) p7 p8 p9 (nI sc))]) 21 hP hD [] [0, 1, 2, 3, 4, 5, 6, 7, 8, 9, 10, 11, 12, 13, 14, 15, 16, 17, 18, 19, 20] rfl rfl (by decide +kernel) (by decide +kernel) hk1 hFc hP1 hD1 rfl
      generalize H1 = H at hP hS hcell ⊢
      obtain ⟨hP9, hD9⟩ := PDq.sub (ws' := [(oX9 h0 b0 (nI nb) p0 u0 r0 a0 t0 s0 o0), (oX0 a0 p0 a1 a3 a4 a5 a6 i6 i7 i8 i9 i10 i11 i12 i13 i14 i15 i16 i17 i18 i19), (a1, .inr (6, [.ref a2, .int (nI nx), .int (nI kp)])), (a2, .inl (cA 0, 240, .inl fr)), (a3, .inl (cA 0, 10, .inl fs)), (a4, .inl (cA 0, 10, .inl fp)), (a5, .inl (cA 0, 10, .inl ff)), (a6, .inl (cA 0, 10, .inl fd)), (oX3 p0 pr pb pe pg p1 (nI nd) p2 p3 p4 p5 (nI cn) p6 (nI pq) p7 p8 p9 (nI sc)), (p3, .inl (cA 0, 10, .inl fam)), (p5, .inl (cA 0, 10, .inl fby)), (p9, .inl (cA 0, 10, .inl fen)), (p7, .inl (cA 0, 350, .inl fst)), (p8, .inl (cA 0, 350, .inl fop)), (oX0 t0 tp t1 t3 t4 t5 t6 y6 y7 y8 y9 y10 y11 y12 y13 y14 y15 y16 y17 y18 y19), (t1, .inr (6, [.ref t2, .int (nI nt), .int (nI kt)])), (t2, .inl (cA 0, 240, .inl yr)), (t3, .inl (cA 0, 10, .inl ys)), (t4, .inl (cA 0, 10, .inl yp)), (t5, .inl (cA 0, 10, .inl yf)), (t6, .inl (cA 0, 10, .inl yd))]) hP hD [19, 0, 1, 2, 3, 4, 5, 6, 20, 7, 8, 9, 10, 11, 12, 13, 14, 15, 16, 17, 18] (by decide +kernel) rfl
      exact vx_out (fun x h => (hno x h).elim) hlocks hcell hv9 hcl (fun t ht hvm => ⟨(), trivial, ⟨(by rw [hE]; simp), by rw [ht]; exact hP9, hD9⟩, hS.F ht⟩) hS.2.2 (Nat.le_of_ble_eq_true rfl) (Nat.le_of_ble_eq_true rfl)
    · skip
      obtain ⟨qn4, hn5, hn6, hn7, hP1, hD1⟩ := hB
      rw [ht] at hP1
      obtain ⟨hP, hD⟩ := PDq.join (w := [(oX0 a0 p0 a1 a3 a4 a5 a6 i6 i7 i8 i9 i10 i11 i12 i13 i14 i15 i16 i17 i18 i19), (a1, .inr (6, [.ref a2, .int (nI nx), .int (nI kp)])), (a2, .inl (cA 0, 240, .inl fr)), (a3, .inl (cA 0, 10, .inl fs)), (a4, .inl (cA 0, 10, .inl fp)), (a5, .inl (cA 0, 10, .inl ff)), (a6, .inl (cA 0, 10, .inl fd)), (p3, .inl (cA 0, 10, .inl fam)), (p5, .inl (cA 0, 10, .inl fby)), (p9, .inl (cA 0, 10, .inl fen)), (p7, .inl (cA 0, 350, .inl fst)), (p8, .inl (cA 0, 350, .inl fop)), (oX0 t0 tp t1 t3 t4 t5 t6 y6 y7 y8 y9 y10 y11 y12 y13 y14 y15 y16 y17 y18 y19), (t1, .inr (6, [.ref t2, .int (nI nt), .int (nI kt)])), (t2, .inl (cA 0, 240, .inl yr)), (t3, .inl (cA 0, 10, .inl ys)), (t4, .inl (cA 0, 10, .inl yp)), (t5, .inl (cA 0, 10, .inl yf)), (t6, .inl (cA 0, 10, .inl yd)), (oX9 h0 b0 (nI nb) p0 u0 r0 a0 t0 s0 o0), (oX3 p0 pr pb pe pg p1 (nI nd) p2 p3 p4 p5 (nI cn) p6 (nI pq) p7 p8 p9 (nI sc))]) 21 hP hD [] [0, 1, 2, 3, 4, 5, 6, 7, 8, 9, 10, 11, 12, 13, 14, 15, 16, 17, 18, 19, 20] rfl rfl (by decide +kernel) (by decide +kernel) hk1 hFc hP1 hD1 rfl
      generalize H1 = H at hP hS ⊢
      rw [hn7] at hl
      have hl : lv_has ls 3 [(0, .ref h0), (1, .int (nI qn1)), (2, .int (nI qn4))] := hl
      refine lv_aload_n hx hb dX9_paidAfter_12 rfl (lv_at hl 0 rfl) ?_
      refine lv_iload_n hx hb dX9_paidAfter_13 rfl (lv_at hl 2 rfl) ?_
      obtain ⟨hPc, hDc, hFc⟩ := PDq.cut (wc := [(oX9 h0 b0 (nI nb) p0 u0 r0 a0 t0 s0 o0), (oX0 a0 p0 a1 a3 a4 a5 a6 i6 i7 i8 i9 i10 i11 i12 i13 i14 i15 i16 i17 i18 i19), (a1, .inr (6, [.ref a2, .int (nI nx), .int (nI kp)])), (a2, .inl (cA 0, 240, .inl fr)), (a3, .inl (cA 0, 10, .inl fs)), (a4, .inl (cA 0, 10, .inl fp)), (a5, .inl (cA 0, 10, .inl ff)), (a6, .inl (cA 0, 10, .inl fd)), (oX3 p0 pr pb pe pg p1 (nI nd) p2 p3 p4 p5 (nI cn) p6 (nI pq) p7 p8 p9 (nI sc)), (p3, .inl (cA 0, 10, .inl fam)), (p5, .inl (cA 0, 10, .inl fby)), (p9, .inl (cA 0, 10, .inl fen)), (p7, .inl (cA 0, 350, .inl fst)), (p8, .inl (cA 0, 350, .inl fop)), (oX0 t0 tp t1 t3 t4 t5 t6 y6 y7 y8 y9 y10 y11 y12 y13 y14 y15 y16 y17 y18 y19), (t1, .inr (6, [.ref t2, .int (nI nt), .int (nI kt)])), (t2, .inl (cA 0, 240, .inl yr)), (t3, .inl (cA 0, 10, .inl ys)), (t4, .inl (cA 0, 10, .inl yp)), (t5, .inl (cA 0, 10, .inl yf)), (t6, .inl (cA 0, 10, .inl yd))]) hP hD hS hA [19, 0, 1, 2, 3, 4, 5, 6, 20, 7, 8, 9, 10, 11, 12, 13, 14, 15, 16, 17, 18] (by decide +kernel) rfl
      refine va_callv (va_runV (As := [.int (nI qn4)]) (rest := []) ⟨hx, hb, hml, hown, hts⟩ (s_tryDays l D cA sa h0 b0 nb p0 u0 r0 a0 t0 s0 o0 a1 a2 a3 a4 a5 a6 i6 i7 i8 i12 i13 i14 i15 i16 i17 i18 i19 i9 i10 i11 nx kp fr fs fp ff fd p1 p2 p3 p4 p5 p6 p7 p8 p9 cn pq nd sc pr pb pe pg fam fby fen fst fop t1 t2 t3 t4 t5 t6 tp nt kt y6 y7 y8 y12 y13 y14 y15 y16 y17 y18 y19 y9 y10 y11 yr ys yp yf yd qn4 H.size hnx hkp hnt hkt hcn hpq hnd hsc hby hen hn6) (cwV 1 hts gX9_paidAfter_X9_tryDays rfl rfl rfl (by decide +kernel) ⟨(Nat.le_of_ble_eq_true rfl), (Nat.le_of_ble_eq_true rfl)⟩) ⟨Wd.blind, va_recv hK hPc (ci := 10) (q0 := 0) rfl rfl, fun U hU hW => ⟨rfl, Wd.call hPc hDc hK hC hZ hS hFc U hU hW⟩⟩ rfl rfl hl.1 rfl (lv_room (Nat.le_of_ble_eq_true rfl)) dX9_paidAfter_14 ⟨(Nat.le_of_ble_eq_true rfl), (Nat.le_of_ble_eq_true rfl)⟩) hS (fun q _ h => hFc q h) hFc (fun u t H1 locs ht hvm hw hB hz1 hk1 hS => ?_)
      obtain ⟨qn8, qn9, qn10, zn11, zn12, zn13, zn14, zn15, zn16, zn17, zn18, zn19, zn20, zn21, zn22, zn23, zn24, fn25, fn26, fn27, fn28, fn29, hn30, hn31, hP1, hD1⟩ := hB
      rw [ht] at hP1
      obtain ⟨hP, hD⟩ := PDq.join (w := [(oX9 h0 b0 (nI nb) p0 u0 r0 a0 t0 s0 o0), (oX0 a0 p0 a1 a3 a4 a5 a6 i6 i7 i8 i9 i10 i11 i12 i13 i14 i15 i16 i17 i18 i19), (a1, .inr (6, [.ref a2, .int (nI nx), .int (nI kp)])), (a2, .inl (cA 0, 240, .inl fr)), (a3, .inl (cA 0, 10, .inl fs)), (a4, .inl (cA 0, 10, .inl fp)), (a5, .inl (cA 0, 10, .inl ff)), (a6, .inl (cA 0, 10, .inl fd)), (oX3 p0 pr pb pe pg p1 (nI nd) p2 p3 p4 p5 (nI cn) p6 (nI pq) p7 p8 p9 (nI sc)), (p3, .inl (cA 0, 10, .inl fam)), (p5, .inl (cA 0, 10, .inl fby)), (p9, .inl (cA 0, 10, .inl fen)), (p7, .inl (cA 0, 350, .inl fst)), (p8, .inl (cA 0, 350, .inl fop)), (oX0 t0 qn8 t1 t3 t4 t5 t6 zn11 zn12 zn13 zn22 zn23 zn24 zn14 zn15 zn16 zn17 zn18 zn19 zn20 zn21), (t1, .inr (6, [.ref t2, .int (nI qn9), .int (nI qn10)])), (t2, .inl (cA 0, 240, .inl fn25)), (t3, .inl (cA 0, 10, .inl fn26)), (t4, .inl (cA 0, 10, .inl fn27)), (t5, .inl (cA 0, 10, .inl fn28)), (t6, .inl (cA 0, 10, .inl fn29))]) 0 hP hD [19, 0, 1, 2, 3, 4, 5, 6, 20, 7, 8, 9, 10, 11, 12, 13, 14, 15, 16, 17, 18] [] rfl rfl (by decide) (by decide +kernel) hk1 hFc hP1 hD1 rfl
      generalize H1 = H at hP hS ⊢
      refine lv_aload_n hx hb dX9_paidAfter_17 rfl (lv_at hl 0 rfl) ?_
      refine va_get (D := D) (ci := 10) (v := .ref t0) (C := RX9) (T := TX9) (N := 9) hx hb hts inX9 hown hK hP 0 rfl rfl 6 (by decide) (hts (.fieldLink RX9 39 "EscrowDesk" "trial" "LEscrowDesk$Account;") (by decide +kernel)) (fun _ h9 => h9) rfl dX9_paidAfter_18 ?_
      refine va_getN (D := D) (ci := 4) (v := .ref t4) (C := RX0) (T := TX0) (N := 20) hx hb hts inX0 hown hK hP 14 rfl rfl 3 (by decide) (hC.f (A := _) (a := RX9) (i := 126) (b := "EscrowDesk$Account") (n := "paid") (d := "[I") (x := "EscrowDesk") (by decide +kernel)) (fun _ h9 => h9) rfl dX9_paidAfter_21 ?_
      refine lv_iload_n hx hb dX9_paidAfter_24 rfl (lv_at hl 1 rfl) ?_
      refine va_iald hx hb hK hP 18 0 rfl rfl (vp_in_nI (n := qn1) (N := 10) (show qn1 < 10 by omega) (by decide)) dX9_paidAfter_25 ?_
      refine lv_topi (fun yn32 eyn32 => ?_)
      obtain ⟨hP9, hD9⟩ := PDq.sub (ws' := [(oX9 h0 b0 (nI nb) p0 u0 r0 a0 t0 s0 o0), (oX0 a0 p0 a1 a3 a4 a5 a6 i6 i7 i8 i9 i10 i11 i12 i13 i14 i15 i16 i17 i18 i19), (a1, .inr (6, [.ref a2, .int (nI nx), .int (nI kp)])), (a2, .inl (cA 0, 240, .inl fr)), (a3, .inl (cA 0, 10, .inl fs)), (a4, .inl (cA 0, 10, .inl fp)), (a5, .inl (cA 0, 10, .inl ff)), (a6, .inl (cA 0, 10, .inl fd)), (oX3 p0 pr pb pe pg p1 (nI nd) p2 p3 p4 p5 (nI cn) p6 (nI pq) p7 p8 p9 (nI sc)), (p3, .inl (cA 0, 10, .inl fam)), (p5, .inl (cA 0, 10, .inl fby)), (p9, .inl (cA 0, 10, .inl fen)), (p7, .inl (cA 0, 350, .inl fst)), (p8, .inl (cA 0, 350, .inl fop)), (oX0 t0 qn8 t1 t3 t4 t5 t6 zn11 zn12 zn13 zn22 zn23 zn24 zn14 zn15 zn16 zn17 zn18 zn19 zn20 zn21), (t1, .inr (6, [.ref t2, .int (nI qn9), .int (nI qn10)])), (t2, .inl (cA 0, 240, .inl fn25)), (t3, .inl (cA 0, 10, .inl fn26)), (t4, .inl (cA 0, 10, .inl fn27)), (t5, .inl (cA 0, 10, .inl fn28)), (t6, .inl (cA 0, 10, .inl fn29))]) hP hD [0, 1, 2, 3, 4, 5, 6, 7, 8, 9, 10, 11, 12, 13, 14, 15, 16, 17, 18, 19, 20] (by decide +kernel) rfl
      refine W.widen (k := 2) (n := 12) (Nat.le_of_ble_eq_true rfl) (Nat.le_of_ble_eq_true rfl) ?_
      exact vx_ret (W.iret (v := yn32) hx hb hr (fun t ht hW => ⟨⟨yn32, (), rfl, trivial, qn8, qn9, qn10, zn11, zn12, zn13, zn14, zn15, zn16, zn17, zn18, zn19, zn20, zn21, zn22, zn23, zn24, fn25, fn26, fn27, fn28, fn29, hn30, hn31, by rw [ht]; exact hP9, hD9⟩, hS.F ht⟩) hS.2.2 dX9_paidAfter_26)

set_option maxHeartbeats 4000000 in
set_option maxRecDepth 100000 in
/-- daysUntilClosed -/
theorem s_daysUntilClosed (l : Launch) (D : va_G) (cA : Nat → ClassId) (sa : Nat → Nat) (h0 : Nat) (b0 : Nat) (nb : Nat) (p0 : Nat) (u0 : Nat) (r0 : Nat) (a0 : Nat) (t0 : Nat) (s0 : Nat) (o0 : Nat) (a1 : Nat) (a2 : Nat) (a3 : Nat) (a4 : Nat) (a5 : Nat) (a6 : Nat) (i6 : Int32) (i7 : Int32) (i8 : Int32) (i12 : Int32) (i13 : Int32) (i14 : Int32) (i15 : Int32) (i16 : Int32) (i17 : Int32) (i18 : Int32) (i19 : Int32) (i9 : Int64) (i10 : Int64) (i11 : Int64) (nx : Nat) (kp : Nat) (fr : Nat → Int32) (fs : Nat → Int32) (fp : Nat → Int32) (ff : Nat → Int32) (fd : Nat → Int32) (p1 : Nat) (p2 : Nat) (p3 : Nat) (p4 : Nat) (p5 : Nat) (p6 : Nat) (p7 : Nat) (p8 : Nat) (p9 : Nat) (cn : Nat) (pq : Nat) (nd : Nat) (sc : Nat) (pr : Int32) (pb : Int32) (pe : Int32) (pg : Int32) (fam : Nat → Int32) (fby : Nat → Int32) (fen : Nat → Int32) (fst : Nat → Int32) (fop : Nat → Int32) (t1 : Nat) (t2 : Nat) (t3 : Nat) (t4 : Nat) (t5 : Nat) (t6 : Nat) (tp : Nat) (nt : Nat) (kt : Nat) (y6 : Int32) (y7 : Int32) (y8 : Int32) (y12 : Int32) (y13 : Int32) (y14 : Int32) (y15 : Int32) (y16 : Int32) (y17 : Int32) (y18 : Int32) (y19 : Int32) (y9 : Int64) (y10 : Int64) (y11 : Int64) (yr : Nat → Int32) (ys : Nat → Int32) (yp : Nat → Int32) (yf : Nat → Int32) (yd : Nat → Int32) (i : Int32) (sz : Nat) (hl9 : l.stackTraces = false) (hnx : nx < 60) (hkp : kp ≤ 60) (hnt : nt < 60) (hkt : kt ≤ 60) (hcn : cn ≤ 10) (hpq : pq ≤ 8) (hnd : nd ≤ 6) (hsc : sc ≤ 350) (hby : Rng 10 10 fby) (hen : Rng 10 351 fen) : vx_Met l yX9_daysUntilClosed wsX9_daysUntilClosed ({ frames := 8, cells := 1, slots := 6, locals := 132 }) (va_Pc [.ref h0, .int i] (Wd D cA sa [(oX9 h0 b0 (nI nb) p0 u0 r0 a0 t0 s0 o0), (oX0 a0 p0 a1 a3 a4 a5 a6 i6 i7 i8 i9 i10 i11 i12 i13 i14 i15 i16 i17 i18 i19), (a1, .inr (6, [.ref a2, .int (nI nx), .int (nI kp)])), (a2, .inl (cA 0, 240, .inl fr)), (a3, .inl (cA 0, 10, .inl fs)), (a4, .inl (cA 0, 10, .inl fp)), (a5, .inl (cA 0, 10, .inl ff)), (a6, .inl (cA 0, 10, .inl fd)), (oX3 p0 pr pb pe pg p1 (nI nd) p2 p3 p4 p5 (nI cn) p6 (nI pq) p7 p8 p9 (nI sc)), (p3, .inl (cA 0, 10, .inl fam)), (p5, .inl (cA 0, 10, .inl fby)), (p9, .inl (cA 0, 10, .inl fen)), (p7, .inl (cA 0, 350, .inl fst)), (p8, .inl (cA 0, 350, .inl fop)), (oX0 t0 tp t1 t3 t4 t5 t6 y6 y7 y8 y9 y10 y11 y12 y13 y14 y15 y16 y17 y18 y19), (t1, .inr (6, [.ref t2, .int (nI nt), .int (nI kt)])), (t2, .inl (cA 0, 240, .inl yr)), (t3, .inl (cA 0, 10, .inl ys)), (t4, .inl (cA 0, 10, .inl yp)), (t5, .inl (cA 0, 10, .inl yf)), (t6, .inl (cA 0, 10, .inl yd))] sz)) (va_Qi (fun (r : Int32) (_ : Unit) => True) (fun (_ : Unit) t => ∃ tq : Nat, ∃ ny : Nat, ∃ ky : Nat, ∃ z6 : Int32, ∃ z7 : Int32, ∃ z8 : Int32, ∃ z12 : Int32, ∃ z13 : Int32, ∃ z14 : Int32, ∃ z15 : Int32, ∃ z16 : Int32, ∃ z17 : Int32, ∃ z18 : Int32, ∃ z19 : Int32, ∃ z9 : Int64, ∃ z10 : Int64, ∃ z11 : Int64, ∃ zr : Nat → Int32, ∃ zs : Nat → Int32, ∃ zp : Nat → Int32, ∃ zf : Nat → Int32, ∃ zd : Nat → Int32, ny < 60 ∧ ky ≤ 60 ∧ Wq D (va_A [(oX9 h0 b0 (nI nb) p0 u0 r0 a0 t0 s0 o0), (oX0 a0 p0 a1 a3 a4 a5 a6 i6 i7 i8 i9 i10 i11 i12 i13 i14 i15 i16 i17 i18 i19), (a1, .inr (6, [.ref a2, .int (nI nx), .int (nI kp)])), (a2, .inl (cA 0, 240, .inl fr)), (a3, .inl (cA 0, 10, .inl fs)), (a4, .inl (cA 0, 10, .inl fp)), (a5, .inl (cA 0, 10, .inl ff)), (a6, .inl (cA 0, 10, .inl fd)), (oX3 p0 pr pb pe pg p1 (nI nd) p2 p3 p4 p5 (nI cn) p6 (nI pq) p7 p8 p9 (nI sc)), (p3, .inl (cA 0, 10, .inl fam)), (p5, .inl (cA 0, 10, .inl fby)), (p9, .inl (cA 0, 10, .inl fen)), (p7, .inl (cA 0, 350, .inl fst)), (p8, .inl (cA 0, 350, .inl fop)), (oX0 t0 tp t1 t3 t4 t5 t6 y6 y7 y8 y9 y10 y11 y12 y13 y14 y15 y16 y17 y18 y19), (t1, .inr (6, [.ref t2, .int (nI nt), .int (nI kt)])), (t2, .inl (cA 0, 240, .inl yr)), (t3, .inl (cA 0, 10, .inl ys)), (t4, .inl (cA 0, 10, .inl yp)), (t5, .inl (cA 0, 10, .inl yf)), (t6, .inl (cA 0, 10, .inl yd))] sz) [(oX9 h0 b0 (nI nb) p0 u0 r0 a0 t0 s0 o0), (oX0 a0 p0 a1 a3 a4 a5 a6 i6 i7 i8 i9 i10 i11 i12 i13 i14 i15 i16 i17 i18 i19), (a1, .inr (6, [.ref a2, .int (nI nx), .int (nI kp)])), (a2, .inl (cA 0, 240, .inl fr)), (a3, .inl (cA 0, 10, .inl fs)), (a4, .inl (cA 0, 10, .inl fp)), (a5, .inl (cA 0, 10, .inl ff)), (a6, .inl (cA 0, 10, .inl fd)), (oX3 p0 pr pb pe pg p1 (nI nd) p2 p3 p4 p5 (nI cn) p6 (nI pq) p7 p8 p9 (nI sc)), (p3, .inl (cA 0, 10, .inl fam)), (p5, .inl (cA 0, 10, .inl fby)), (p9, .inl (cA 0, 10, .inl fen)), (p7, .inl (cA 0, 350, .inl fst)), (p8, .inl (cA 0, 350, .inl fop)), (oX0 t0 tq t1 t3 t4 t5 t6 z6 z7 z8 z9 z10 z11 z12 z13 z14 z15 z16 z17 z18 z19), (t1, .inr (6, [.ref t2, .int (nI ny), .int (nI ky)])), (t2, .inl (cA 0, 240, .inl zr)), (t3, .inl (cA 0, 10, .inl zs)), (t4, .inl (cA 0, 10, .inl zp)), (t5, .inl (cA 0, 10, .inl zf)), (t6, .inl (cA 0, 10, .inl zd))] t) (va_A [(oX9 h0 b0 (nI nb) p0 u0 r0 a0 t0 s0 o0), (oX0 a0 p0 a1 a3 a4 a5 a6 i6 i7 i8 i9 i10 i11 i12 i13 i14 i15 i16 i17 i18 i19), (a1, .inr (6, [.ref a2, .int (nI nx), .int (nI kp)])), (a2, .inl (cA 0, 240, .inl fr)), (a3, .inl (cA 0, 10, .inl fs)), (a4, .inl (cA 0, 10, .inl fp)), (a5, .inl (cA 0, 10, .inl ff)), (a6, .inl (cA 0, 10, .inl fd)), (oX3 p0 pr pb pe pg p1 (nI nd) p2 p3 p4 p5 (nI cn) p6 (nI pq) p7 p8 p9 (nI sc)), (p3, .inl (cA 0, 10, .inl fam)), (p5, .inl (cA 0, 10, .inl fby)), (p9, .inl (cA 0, 10, .inl fen)), (p7, .inl (cA 0, 350, .inl fst)), (p8, .inl (cA 0, 350, .inl fop)), (oX0 t0 tp t1 t3 t4 t5 t6 y6 y7 y8 y9 y10 y11 y12 y13 y14 y15 y16 y17 y18 y19), (t1, .inr (6, [.ref t2, .int (nI nt), .int (nI kt)])), (t2, .inl (cA 0, 240, .inl yr)), (t3, .inl (cA 0, 10, .inl ys)), (t4, .inl (cA 0, 10, .inl yp)), (t5, .inl (cA 0, 10, .inl yf)), (t6, .inl (cA 0, 10, .inl yd))] sz)) (vx_X (fun _ : Unit => True) (fun E _ t => (E = "java/lang/IndexOutOfBoundsException") ∧ Wq D (va_A [(oX9 h0 b0 (nI nb) p0 u0 r0 a0 t0 s0 o0), (oX0 a0 p0 a1 a3 a4 a5 a6 i6 i7 i8 i9 i10 i11 i12 i13 i14 i15 i16 i17 i18 i19), (a1, .inr (6, [.ref a2, .int (nI nx), .int (nI kp)])), (a2, .inl (cA 0, 240, .inl fr)), (a3, .inl (cA 0, 10, .inl fs)), (a4, .inl (cA 0, 10, .inl fp)), (a5, .inl (cA 0, 10, .inl ff)), (a6, .inl (cA 0, 10, .inl fd)), (oX3 p0 pr pb pe pg p1 (nI nd) p2 p3 p4 p5 (nI cn) p6 (nI pq) p7 p8 p9 (nI sc)), (p3, .inl (cA 0, 10, .inl fam)), (p5, .inl (cA 0, 10, .inl fby)), (p9, .inl (cA 0, 10, .inl fen)), (p7, .inl (cA 0, 350, .inl fst)), (p8, .inl (cA 0, 350, .inl fop)), (oX0 t0 tp t1 t3 t4 t5 t6 y6 y7 y8 y9 y10 y11 y12 y13 y14 y15 y16 y17 y18 y19), (t1, .inr (6, [.ref t2, .int (nI nt), .int (nI kt)])), (t2, .inl (cA 0, 240, .inl yr)), (t3, .inl (cA 0, 10, .inl ys)), (t4, .inl (cA 0, 10, .inl yp)), (t5, .inl (cA 0, 10, .inl yf)), (t6, .inl (cA 0, 10, .inl yd))] sz) [(oX9 h0 b0 (nI nb) p0 u0 r0 a0 t0 s0 o0), (oX0 a0 p0 a1 a3 a4 a5 a6 i6 i7 i8 i9 i10 i11 i12 i13 i14 i15 i16 i17 i18 i19), (a1, .inr (6, [.ref a2, .int (nI nx), .int (nI kp)])), (a2, .inl (cA 0, 240, .inl fr)), (a3, .inl (cA 0, 10, .inl fs)), (a4, .inl (cA 0, 10, .inl fp)), (a5, .inl (cA 0, 10, .inl ff)), (a6, .inl (cA 0, 10, .inl fd)), (oX3 p0 pr pb pe pg p1 (nI nd) p2 p3 p4 p5 (nI cn) p6 (nI pq) p7 p8 p9 (nI sc)), (p3, .inl (cA 0, 10, .inl fam)), (p5, .inl (cA 0, 10, .inl fby)), (p9, .inl (cA 0, 10, .inl fen)), (p7, .inl (cA 0, 350, .inl fst)), (p8, .inl (cA 0, 350, .inl fop)), (oX0 t0 tp t1 t3 t4 t5 t6 y6 y7 y8 y9 y10 y11 y12 y13 y14 y15 y16 y17 y18 y19), (t1, .inr (6, [.ref t2, .int (nI nt), .int (nI kt)])), (t2, .inl (cA 0, 240, .inl yr)), (t3, .inl (cA 0, 10, .inl ys)), (t4, .inl (cA 0, 10, .inl yp)), (t5, .inl (cA 0, 10, .inl yf)), (t6, .inl (cA 0, 10, .inl yd))] t) (va_A [(oX9 h0 b0 (nI nb) p0 u0 r0 a0 t0 s0 o0), (oX0 a0 p0 a1 a3 a4 a5 a6 i6 i7 i8 i9 i10 i11 i12 i13 i14 i15 i16 i17 i18 i19), (a1, .inr (6, [.ref a2, .int (nI nx), .int (nI kp)])), (a2, .inl (cA 0, 240, .inl fr)), (a3, .inl (cA 0, 10, .inl fs)), (a4, .inl (cA 0, 10, .inl fp)), (a5, .inl (cA 0, 10, .inl ff)), (a6, .inl (cA 0, 10, .inl fd)), (oX3 p0 pr pb pe pg p1 (nI nd) p2 p3 p4 p5 (nI cn) p6 (nI pq) p7 p8 p9 (nI sc)), (p3, .inl (cA 0, 10, .inl fam)), (p5, .inl (cA 0, 10, .inl fby)), (p9, .inl (cA 0, 10, .inl fen)), (p7, .inl (cA 0, 350, .inl fst)), (p8, .inl (cA 0, 350, .inl fop)), (oX0 t0 tp t1 t3 t4 t5 t6 y6 y7 y8 y9 y10 y11 y12 y13 y14 y15 y16 y17 y18 y19), (t1, .inr (6, [.ref t2, .int (nI nt), .int (nI kt)])), (t2, .inl (cA 0, 240, .inl yr)), (t3, .inl (cA 0, 10, .inl ys)), (t4, .inl (cA 0, 10, .inl yp)), (t5, .inl (cA 0, 10, .inl yf)), (t6, .inl (cA 0, 10, .inl yd))] sz)) 1 6 (va_A [(oX9 h0 b0 (nI nb) p0 u0 r0 a0 t0 s0 o0), (oX0 a0 p0 a1 a3 a4 a5 a6 i6 i7 i8 i9 i10 i11 i12 i13 i14 i15 i16 i17 i18 i19), (a1, .inr (6, [.ref a2, .int (nI nx), .int (nI kp)])), (a2, .inl (cA 0, 240, .inl fr)), (a3, .inl (cA 0, 10, .inl fs)), (a4, .inl (cA 0, 10, .inl fp)), (a5, .inl (cA 0, 10, .inl ff)), (a6, .inl (cA 0, 10, .inl fd)), (oX3 p0 pr pb pe pg p1 (nI nd) p2 p3 p4 p5 (nI cn) p6 (nI pq) p7 p8 p9 (nI sc)), (p3, .inl (cA 0, 10, .inl fam)), (p5, .inl (cA 0, 10, .inl fby)), (p9, .inl (cA 0, 10, .inl fen)), (p7, .inl (cA 0, 350, .inl fst)), (p8, .inl (cA 0, 350, .inl fop)), (oX0 t0 tp t1 t3 t4 t5 t6 y6 y7 y8 y9 y10 y11 y12 y13 y14 y15 y16 y17 y18 y19), (t1, .inr (6, [.ref t2, .int (nI nt), .int (nI kt)])), (t2, .inl (cA 0, 240, .inl yr)), (t3, .inl (cA 0, 10, .inl ys)), (t4, .inl (cA 0, 10, .inl yp)), (t5, .inl (cA 0, 10, .inl yf)), (t6, .inl (cA 0, 10, .inl yd))] sz) := by
  refine vx_ofW (cc := cX9_daysUntilClosed) (maxL := 3) (ret := (some .int)) (by decide) rfl ?_
  intro p e s m args below meth c s₁ B hml hno hv
  obtain ⟨rfl, hsz, hP, hK, hD0, hC, hZ⟩ := hv
  have hx := B.exec
  have hb := B.bytes
  have hr := B.returns
  have hts := atoms_spec (ws := wsX9_daysUntilClosed) B.pre
  have hown : s.vm.findClass RX9 = some m.cls := findClass_of_methodNamed B.named
  have hlocks := B.notSynchronized
  subst hsz
  have hD := hD0.self (sz := s.heap.size)
  generalize hAe : va_A [(oX9 h0 b0 (nI nb) p0 u0 r0 a0 t0 s0 o0), (oX0 a0 p0 a1 a3 a4 a5 a6 i6 i7 i8 i9 i10 i11 i12 i13 i14 i15 i16 i17 i18 i19), (a1, .inr (6, [.ref a2, .int (nI nx), .int (nI kp)])), (a2, .inl (cA 0, 240, .inl fr)), (a3, .inl (cA 0, 10, .inl fs)), (a4, .inl (cA 0, 10, .inl fp)), (a5, .inl (cA 0, 10, .inl ff)), (a6, .inl (cA 0, 10, .inl fd)), (oX3 p0 pr pb pe pg p1 (nI nd) p2 p3 p4 p5 (nI cn) p6 (nI pq) p7 p8 p9 (nI sc)), (p3, .inl (cA 0, 10, .inl fam)), (p5, .inl (cA 0, 10, .inl fby)), (p9, .inl (cA 0, 10, .inl fen)), (p7, .inl (cA 0, 350, .inl fst)), (p8, .inl (cA 0, 350, .inl fop)), (oX0 t0 tp t1 t3 t4 t5 t6 y6 y7 y8 y9 y10 y11 y12 y13 y14 y15 y16 y17 y18 y19), (t1, .inr (6, [.ref t2, .int (nI nt), .int (nI kt)])), (t2, .inl (cA 0, 240, .inl yr)), (t3, .inl (cA 0, 10, .inl ys)), (t4, .inl (cA 0, 10, .inl yp)), (t5, .inl (cA 0, 10, .inl yf)), (t6, .inl (cA 0, 10, .inl yd))] s.heap.size = A at hD hZ ⊢
  have hA : ∀ q : Nat, s.heap.size ≤ q → A q := fun q h => by rw [← hAe]; exact Or.inr h
  have hS : va_S A s.heap s.heap [] := va_S.rf
  have hP : va_P D vwCl [(oX9 h0 b0 (nI nb) p0 u0 r0 a0 t0 s0 o0), (oX0 a0 p0 a1 a3 a4 a5 a6 i6 i7 i8 i9 i10 i11 i12 i13 i14 i15 i16 i17 i18 i19), (a1, .inr (6, [.ref a2, .int (nI nx), .int (nI kp)])), (a2, .inl (cA 0, 240, .inl fr)), (a3, .inl (cA 0, 10, .inl fs)), (a4, .inl (cA 0, 10, .inl fp)), (a5, .inl (cA 0, 10, .inl ff)), (a6, .inl (cA 0, 10, .inl fd)), (oX3 p0 pr pb pe pg p1 (nI nd) p2 p3 p4 p5 (nI cn) p6 (nI pq) p7 p8 p9 (nI sc)), (p3, .inl (cA 0, 10, .inl fam)), (p5, .inl (cA 0, 10, .inl fby)), (p9, .inl (cA 0, 10, .inl fen)), (p7, .inl (cA 0, 350, .inl fst)), (p8, .inl (cA 0, 350, .inl fop)), (oX0 t0 tp t1 t3 t4 t5 t6 y6 y7 y8 y9 y10 y11 y12 y13 y14 y15 y16 y17 y18 y19), (t1, .inr (6, [.ref t2, .int (nI nt), .int (nI kt)])), (t2, .inl (cA 0, 240, .inl yr)), (t3, .inl (cA 0, 10, .inl ys)), (t4, .inl (cA 0, 10, .inl yp)), (t5, .inl (cA 0, 10, .inl yf)), (t6, .inl (cA 0, 10, .inl yd))] s.heap := hP
  have hl := lv_entry ([.ref h0, .int i]) (n := 3) (Nat.le_of_ble_eq_true rfl)
  rw [lg_entry_eq]
  generalize (lg_sl ([.ref h0, .int i]) ++ List.replicate (3 - (lg_sl ([.ref h0, .int i])).length) Slot.unset).toArray = ls at hl ⊢
  have hl : lv_has ls 3 [(0, .ref h0), (1, .int i)] := hl
  have inX9 : ∀ w ∈ u_ws RX9 TX9 9, w ∈ wsX9_daysUntilClosed := by decide +kernel
  refine lv_aload_n hx hb dX9_daysUntilClosed_0 rfl (lv_at hl 0 rfl) ?_
  refine lv_iload_n hx hb dX9_daysUntilClosed_1 rfl (lv_at hl 1 rfl) ?_
  obtain ⟨hPc, hDc, hFc⟩ := PDq.cut (wc := [(oX9 h0 b0 (nI nb) p0 u0 r0 a0 t0 s0 o0), (oX3 p0 pr pb pe pg p1 (nI nd) p2 p3 p4 p5 (nI cn) p6 (nI pq) p7 p8 p9 (nI sc))]) hP hD hS hA [0, 8] (by decide) rfl
  refine vx_callv (vx_runV (As := [.int i]) (rest := []) ⟨hx, hb, hml, hown, hts⟩ (s_needMilestone l D cA sa h0 b0 nb p0 u0 r0 a0 t0 s0 o0 p1 p2 p3 p4 p5 p6 p7 p8 p9 cn pq nd sc pr pb pe pg i s.heap.size hl9 hcn hpq hnd hsc) (cwV 1 hts gX9_daysUntilClosed_X9_needMilestone rfl rfl rfl (by decide +kernel) ⟨(Nat.le_of_ble_eq_true rfl), (Nat.le_of_ble_eq_true rfl)⟩) ⟨Wd.blind, va_recv hK hPc (ci := 10) (q0 := 0) rfl rfl, fun U hU hW => ⟨rfl, Wd.call hPc hDc hK hC hZ hS hFc U hU hW⟩⟩ rfl rfl hl.1 rfl (lv_room (Nat.le_of_ble_eq_true rfl)) dX9_daysUntilClosed_2 ⟨(Nat.le_of_ble_eq_true rfl), (Nat.le_of_ble_eq_true rfl)⟩) hS (fun q _ h => hFc q h) hFc (fun q _ h => hFc q h) (fun E ce q9 u t H1 locs ht hvm hpx hE hz1 hk1 hS hcell hv9 hcl => ?_) (fun u t H1 locs ht hvm hw hB hz1 hk1 hS => ?_)
  · skip
    obtain ⟨hE, hP1, hD1⟩ := hE
    rw [ht] at hP1
    obtain ⟨hP, hD⟩ := PDq.join (w := [(oX0 a0 p0 a1 a3 a4 a5 a6 i6 i7 i8 i9 i10 i11 i12 i13 i14 i15 i16 i17 i18 i19), (a1, .inr (6, [.ref a2, .int (nI nx), .int (nI kp)])), (a2, .inl (cA 0, 240, .inl fr)), (a3, .inl (cA 0, 10, .inl fs)), (a4, .inl (cA 0, 10, .inl fp)), (a5, .inl (cA 0, 10, .inl ff)), (a6, .inl (cA 0, 10, .inl fd)), (p3, .inl (cA 0, 10, .inl fam)), (p5, .inl (cA 0, 10, .inl fby)), (p9, .inl (cA 0, 10, .inl fen)), (p7, .inl (cA 0, 350, .inl fst)), (p8, .inl (cA 0, 350, .inl fop)), (oX0 t0 tp t1 t3 t4 t5 t6 y6 y7 y8 y9 y10 y11 y12 y13 y14 y15 y16 y17 y18 y19), (t1, .inr (6, [.ref t2, .int (nI nt), .int (nI kt)])), (t2, .inl (cA 0, 240, .inl yr)), (t3, .inl (cA 0, 10, .inl ys)), (t4, .inl (cA 0, 10, .inl yp)), (t5, .inl (cA 0, 10, .inl yf)), (t6, .inl (cA 0, 10, .inl yd)), (oX9 h0 b0 (nI nb) p0 u0 r0 a0 t0 s0 o0), (oX3 p0 pr pb pe pg p1 (nI nd) p2 p3 p4 p5 (nI cn) p6 (nI pq) p7 p8 p9 (nI sc))]) 19 hP hD [0, 8] [1, 2, 3, 4, 5, 6, 7, 9, 10, 11, 12, 13, 14, 15, 16, 17, 18, 19, 20] rfl rfl (by decide +kernel) (by decide +kernel) hk1 hFc hP1 hD1 rfl
    generalize H1 = H at hP hS hcell ⊢
    obtain ⟨hP9, hD9⟩ := PDq.sub (ws' := [(oX9 h0 b0 (nI nb) p0 u0 r0 a0 t0 s0 o0), (oX0 a0 p0 a1 a3 a4 a5 a6 i6 i7 i8 i9 i10 i11 i12 i13 i14 i15 i16 i17 i18 i19), (a1, .inr (6, [.ref a2, .int (nI nx), .int (nI kp)])), (a2, .inl (cA 0, 240, .inl fr)), (a3, .inl (cA 0, 10, .inl fs)), (a4, .inl (cA 0, 10, .inl fp)), (a5, .inl (cA 0, 10, .inl ff)), (a6, .inl (cA 0, 10, .inl fd)), (oX3 p0 pr pb pe pg p1 (nI nd) p2 p3 p4 p5 (nI cn) p6 (nI pq) p7 p8 p9 (nI sc)), (p3, .inl (cA 0, 10, .inl fam)), (p5, .inl (cA 0, 10, .inl fby)), (p9, .inl (cA 0, 10, .inl fen)), (p7, .inl (cA 0, 350, .inl fst)), (p8, .inl (cA 0, 350, .inl fop)), (oX0 t0 tp t1 t3 t4 t5 t6 y6 y7 y8 y9 y10 y11 y12 y13 y14 y15 y16 y17 y18 y19), (t1, .inr (6, [.ref t2, .int (nI nt), .int (nI kt)])), (t2, .inl (cA 0, 240, .inl yr)), (t3, .inl (cA 0, 10, .inl ys)), (t4, .inl (cA 0, 10, .inl yp)), (t5, .inl (cA 0, 10, .inl yf)), (t6, .inl (cA 0, 10, .inl yd))]) hP hD [19, 0, 1, 2, 3, 4, 5, 6, 20, 7, 8, 9, 10, 11, 12, 13, 14, 15, 16, 17, 18] (by decide +kernel) rfl
    exact vx_out (fun x h => (hno x h).elim) hlocks hcell hv9 hcl (fun t ht hvm => ⟨(), trivial, ⟨hE, by rw [ht]; exact hP9, hD9⟩, hS.F ht⟩) hS.2.2 (Nat.le_of_ble_eq_true rfl) (Nat.le_of_ble_eq_true rfl)
  · skip
    obtain ⟨qn1, hn2, hn3, hP1, hD1⟩ := hB
    rw [ht] at hP1
    obtain ⟨hP, hD⟩ := PDq.join (w := [(oX0 a0 p0 a1 a3 a4 a5 a6 i6 i7 i8 i9 i10 i11 i12 i13 i14 i15 i16 i17 i18 i19), (a1, .inr (6, [.ref a2, .int (nI nx), .int (nI kp)])), (a2, .inl (cA 0, 240, .inl fr)), (a3, .inl (cA 0, 10, .inl fs)), (a4, .inl (cA 0, 10, .inl fp)), (a5, .inl (cA 0, 10, .inl ff)), (a6, .inl (cA 0, 10, .inl fd)), (p3, .inl (cA 0, 10, .inl fam)), (p5, .inl (cA 0, 10, .inl fby)), (p9, .inl (cA 0, 10, .inl fen)), (p7, .inl (cA 0, 350, .inl fst)), (p8, .inl (cA 0, 350, .inl fop)), (oX0 t0 tp t1 t3 t4 t5 t6 y6 y7 y8 y9 y10 y11 y12 y13 y14 y15 y16 y17 y18 y19), (t1, .inr (6, [.ref t2, .int (nI nt), .int (nI kt)])), (t2, .inl (cA 0, 240, .inl yr)), (t3, .inl (cA 0, 10, .inl ys)), (t4, .inl (cA 0, 10, .inl yp)), (t5, .inl (cA 0, 10, .inl yf)), (t6, .inl (cA 0, 10, .inl yd)), (oX9 h0 b0 (nI nb) p0 u0 r0 a0 t0 s0 o0), (oX3 p0 pr pb pe pg p1 (nI nd) p2 p3 p4 p5 (nI cn) p6 (nI pq) p7 p8 p9 (nI sc))]) 19 hP hD [0, 8] [1, 2, 3, 4, 5, 6, 7, 9, 10, 11, 12, 13, 14, 15, 16, 17, 18, 19, 20] rfl rfl (by decide +kernel) (by decide +kernel) hk1 hFc hP1 hD1 rfl
    generalize H1 = H at hP hS ⊢
    rw [hn3] at hl
    have hl : lv_has ls 3 [(0, .ref h0), (1, .int (nI qn1))] := hl
    refine lv_aload_n hx hb dX9_daysUntilClosed_5 rfl (lv_at hl 0 rfl) ?_
    refine va_get (D := D) (ci := 10) (v := .ref t0) (C := RX9) (T := TX9) (N := 9) hx hb hts inX9 hown hK hP 19 rfl rfl 6 (by decide) (hts (.fieldLink RX9 39 "EscrowDesk" "trial" "LEscrowDesk$Account;") (by decide +kernel)) (fun _ h9 => h9) rfl dX9_daysUntilClosed_6 ?_
    refine lv_aload_n hx hb dX9_daysUntilClosed_9 rfl (lv_at hl 0 rfl) ?_
    refine va_get (D := D) (ci := 10) (v := .ref a0) (C := RX9) (T := TX9) (N := 9) hx hb hts inX9 hown hK hP 19 rfl rfl 5 (by decide) (hts (.fieldLink RX9 35 "EscrowDesk" "account" "LEscrowDesk$Account;") (by decide +kernel)) (fun _ h9 => h9) rfl dX9_daysUntilClosed_10 ?_
    obtain ⟨hPc, hDc, hFc⟩ := PDq.cut (wc := [(oX0 t0 tp t1 t3 t4 t5 t6 y6 y7 y8 y9 y10 y11 y12 y13 y14 y15 y16 y17 y18 y19), (t1, .inr (6, [.ref t2, .int (nI nt), .int (nI kt)])), (t2, .inl (cA 0, 240, .inl yr)), (t3, .inl (cA 0, 10, .inl ys)), (t4, .inl (cA 0, 10, .inl yp)), (t5, .inl (cA 0, 10, .inl yf)), (t6, .inl (cA 0, 10, .inl yd)), (oX0 a0 p0 a1 a3 a4 a5 a6 i6 i7 i8 i9 i10 i11 i12 i13 i14 i15 i16 i17 i18 i19), (a1, .inr (6, [.ref a2, .int (nI nx), .int (nI kp)])), (a2, .inl (cA 0, 240, .inl fr)), (a3, .inl (cA 0, 10, .inl fs)), (a4, .inl (cA 0, 10, .inl fp)), (a5, .inl (cA 0, 10, .inl ff)), (a6, .inl (cA 0, 10, .inl fd))]) hP hD hS hA [12, 13, 14, 15, 16, 17, 18, 0, 1, 2, 3, 4, 5, 6] (by decide +kernel) rfl
    refine va_callv (va_runV (As := [.ref a0]) (rest := []) ⟨hx, hb, hml, hown, hts⟩ (s_copyFrom l D cA sa t0 t1 t2 t3 t4 t5 t6 nt kt (.ref tp) (.int y6) (.int y7) (.int y8) (.long y9) (.long y10) (.long y11) (.int y12) (.int y13) (.int y14) (.int y15) (.int y16) (.int y17) (.int y18) (.int y19) ys yp yf yd yr a0 a1 a2 a3 a4 a5 a6 p0 i6 i7 i8 i12 i13 i14 i15 i16 i17 i18 i19 i9 i10 i11 nx kp fr fs fp ff fd H.size) (cwV 1 hts gX9_daysUntilClosed_X0_copyFrom rfl rfl rfl (by decide +kernel) ⟨(Nat.le_of_ble_eq_true rfl), (Nat.le_of_ble_eq_true rfl)⟩) ⟨Wd.blind, va_recv hK hPc (ci := 4) (q0 := 0) rfl rfl, fun U hU hW => ⟨rfl, Wd.call hPc hDc hK hC hZ hS hFc U hU hW⟩⟩ rfl rfl hl.1 rfl (lv_room (Nat.le_of_ble_eq_true rfl)) dX9_daysUntilClosed_13 ⟨(Nat.le_of_ble_eq_true rfl), (Nat.le_of_ble_eq_true rfl)⟩) hS (fun q _ h => hFc q h) hFc (fun u t H1 locs ht hvm hw hB hz1 hk1 hS => ?_)
    obtain ⟨fn4, fn5, fn6, fn7, fn8, hP1, hD1⟩ := hB
    rw [ht] at hP1
    obtain ⟨hP, hD⟩ := PDq.join (w := [(p3, .inl (cA 0, 10, .inl fam)), (p5, .inl (cA 0, 10, .inl fby)), (p9, .inl (cA 0, 10, .inl fen)), (p7, .inl (cA 0, 350, .inl fst)), (p8, .inl (cA 0, 350, .inl fop)), (oX9 h0 b0 (nI nb) p0 u0 r0 a0 t0 s0 o0), (oX3 p0 pr pb pe pg p1 (nI nd) p2 p3 p4 p5 (nI cn) p6 (nI pq) p7 p8 p9 (nI sc)), (oX0 t0 p0 t1 t3 t4 t5 t6 i6 i7 i8 i9 i10 i11 i12 i13 i14 i15 i16 i17 i18 i19), (t1, .inr (6, [.ref t2, .int (nI nx), .int (nI kp)])), (t2, .inl (cA 0, 240, .inl fn8)), (t3, .inl (cA 0, 10, .inl fn4)), (t4, .inl (cA 0, 10, .inl fn5)), (t5, .inl (cA 0, 10, .inl fn6)), (t6, .inl (cA 0, 10, .inl fn7)), (oX0 a0 p0 a1 a3 a4 a5 a6 i6 i7 i8 i9 i10 i11 i12 i13 i14 i15 i16 i17 i18 i19), (a1, .inr (6, [.ref a2, .int (nI nx), .int (nI kp)])), (a2, .inl (cA 0, 240, .inl fr)), (a3, .inl (cA 0, 10, .inl fs)), (a4, .inl (cA 0, 10, .inl fp)), (a5, .inl (cA 0, 10, .inl ff)), (a6, .inl (cA 0, 10, .inl fd))]) 7 hP hD [12, 13, 14, 15, 16, 17, 18, 0, 1, 2, 3, 4, 5, 6] [7, 8, 9, 10, 11, 19, 20] rfl rfl (by decide) (by decide +kernel) hk1 hFc hP1 hD1 rfl
    generalize H1 = H at hP hS ⊢
    refine lv_iconst (v := 0) hx hb dX9_daysUntilClosed_16 (by decide) ?_
    refine lv_istore_n (lv' := [(2, .int 0), (0, .ref h0), (1, .int (nI qn1))]) hx hb dX9_daysUntilClosed_17 rfl hl (by decide) rfl (fun ls hl => ?_)
    have loop1 : ∀ (n1 i1 : Nat) (u7_6_1 : Int32) (u7_7_1 : Int32) (u7_8_1 : Int32) (u7_9_1 : Int64) (u7_10_1 : Int64) (u7_11_1 : Int64) (u7_12_1 : Int32) (u7_13_1 : Int32) (u7_14_1 : Int32) (u7_15_1 : Int32) (u7_16_1 : Int32) (u7_17_1 : Int32) (u7_18_1 : Int32) (u7_19_1 : Int32) (ni : Nat) (ki : Nat) (f9_1 : Nat → Int32) (f10_1 : Nat → Int32) (f11_1 : Nat → Int32) (f12_1 : Nat → Int32) (f13_1 : Nat → Int32) (H : Heap) (locs : List Loc) (ls : Array Slot), i1 + n1 = 121 → ni < 60 → ki ≤ 60 → va_P D vwCl [(p3, .inl (cA 0, 10, .inl fam)), (p5, .inl (cA 0, 10, .inl fby)), (p9, .inl (cA 0, 10, .inl fen)), (p7, .inl (cA 0, 350, .inl fst)), (p8, .inl (cA 0, 350, .inl fop)), (oX9 h0 b0 (nI nb) p0 u0 r0 a0 t0 s0 o0), (oX3 p0 pr pb pe pg p1 (nI nd) p2 p3 p4 p5 (nI cn) p6 (nI pq) p7 p8 p9 (nI sc)), (oX0 t0 p0 t1 t3 t4 t5 t6 u7_6_1 u7_7_1 u7_8_1 u7_9_1 u7_10_1 u7_11_1 u7_12_1 u7_13_1 u7_14_1 u7_15_1 u7_16_1 u7_17_1 u7_18_1 u7_19_1), (t1, .inr (6, [.ref t2, .int (nI ni), .int (nI ki)])), (t2, .inl (cA 0, 240, .inl f9_1)), (t3, .inl (cA 0, 10, .inl f10_1)), (t4, .inl (cA 0, 10, .inl f11_1)), (t5, .inl (cA 0, 10, .inl f12_1)), (t6, .inl (cA 0, 10, .inl f13_1)), (oX0 a0 p0 a1 a3 a4 a5 a6 i6 i7 i8 i9 i10 i11 i12 i13 i14 i15 i16 i17 i18 i19), (a1, .inr (6, [.ref a2, .int (nI nx), .int (nI kp)])), (a2, .inl (cA 0, 240, .inl fr)), (a3, .inl (cA 0, 10, .inl fs)), (a4, .inl (cA 0, 10, .inl fp)), (a5, .inl (cA 0, 10, .inl ff)), (a6, .inl (cA 0, 10, .inl fd))] H → va_D A [(p3, .inl (cA 0, 10, .inl fam)), (p5, .inl (cA 0, 10, .inl fby)), (p9, .inl (cA 0, 10, .inl fen)), (p7, .inl (cA 0, 350, .inl fst)), (p8, .inl (cA 0, 350, .inl fop)), (oX9 h0 b0 (nI nb) p0 u0 r0 a0 t0 s0 o0), (oX3 p0 pr pb pe pg p1 (nI nd) p2 p3 p4 p5 (nI cn) p6 (nI pq) p7 p8 p9 (nI sc)), (oX0 t0 p0 t1 t3 t4 t5 t6 u7_6_1 u7_7_1 u7_8_1 u7_9_1 u7_10_1 u7_11_1 u7_12_1 u7_13_1 u7_14_1 u7_15_1 u7_16_1 u7_17_1 u7_18_1 u7_19_1), (t1, .inr (6, [.ref t2, .int (nI ni), .int (nI ki)])), (t2, .inl (cA 0, 240, .inl f9_1)), (t3, .inl (cA 0, 10, .inl f10_1)), (t4, .inl (cA 0, 10, .inl f11_1)), (t5, .inl (cA 0, 10, .inl f12_1)), (t6, .inl (cA 0, 10, .inl f13_1)), (oX0 a0 p0 a1 a3 a4 a5 a6 i6 i7 i8 i9 i10 i11 i12 i13 i14 i15 i16 i17 i18 i19), (a1, .inr (6, [.ref a2, .int (nI nx), .int (nI kp)])), (a2, .inl (cA 0, 240, .inl fr)), (a3, .inl (cA 0, 10, .inl fs)), (a4, .inl (cA 0, 10, .inl fp)), (a5, .inl (cA 0, 10, .inl ff)), (a6, .inl (cA 0, 10, .inl fd))] → va_S A s.heap H locs → lv_has ls 3 [(2, .int (nI i1)), (0, .ref h0), (1, .int (nI qn1))] → W p l e (headSpec wsX9_daysUntilClosed ({ frames := 8, cells := 1, slots := 6, locals := 132 } : Room)).room s m ([.ref h0, .int i] : List Value).toArray below meth c H locs 1 6 (vx_MQ below (va_Qi (fun (r : Int32) (_ : Unit) => True) (fun (_ : Unit) t => ∃ tq : Nat, ∃ ny : Nat, ∃ ky : Nat, ∃ z6 : Int32, ∃ z7 : Int32, ∃ z8 : Int32, ∃ z12 : Int32, ∃ z13 : Int32, ∃ z14 : Int32, ∃ z15 : Int32, ∃ z16 : Int32, ∃ z17 : Int32, ∃ z18 : Int32, ∃ z19 : Int32, ∃ z9 : Int64, ∃ z10 : Int64, ∃ z11 : Int64, ∃ zr : Nat → Int32, ∃ zs : Nat → Int32, ∃ zp : Nat → Int32, ∃ zf : Nat → Int32, ∃ zd : Nat → Int32, ny < 60 ∧ ky ≤ 60 ∧ Wq D A [(oX9 h0 b0 (nI nb) p0 u0 r0 a0 t0 s0 o0), (oX0 a0 p0 a1 a3 a4 a5 a6 i6 i7 i8 i9 i10 i11 i12 i13 i14 i15 i16 i17 i18 i19), (a1, .inr (6, [.ref a2, .int (nI nx), .int (nI kp)])), (a2, .inl (cA 0, 240, .inl fr)), (a3, .inl (cA 0, 10, .inl fs)), (a4, .inl (cA 0, 10, .inl fp)), (a5, .inl (cA 0, 10, .inl ff)), (a6, .inl (cA 0, 10, .inl fd)), (oX3 p0 pr pb pe pg p1 (nI nd) p2 p3 p4 p5 (nI cn) p6 (nI pq) p7 p8 p9 (nI sc)), (p3, .inl (cA 0, 10, .inl fam)), (p5, .inl (cA 0, 10, .inl fby)), (p9, .inl (cA 0, 10, .inl fen)), (p7, .inl (cA 0, 350, .inl fst)), (p8, .inl (cA 0, 350, .inl fop)), (oX0 t0 tq t1 t3 t4 t5 t6 z6 z7 z8 z9 z10 z11 z12 z13 z14 z15 z16 z17 z18 z19), (t1, .inr (6, [.ref t2, .int (nI ny), .int (nI ky)])), (t2, .inl (cA 0, 240, .inl zr)), (t3, .inl (cA 0, 10, .inl zs)), (t4, .inl (cA 0, 10, .inl zp)), (t5, .inl (cA 0, 10, .inl zf)), (t6, .inl (cA 0, 10, .inl zd))] t) A) (vx_X (fun _ : Unit => True) (fun E _ t => (E = "java/lang/IndexOutOfBoundsException") ∧ Wq D A [(oX9 h0 b0 (nI nb) p0 u0 r0 a0 t0 s0 o0), (oX0 a0 p0 a1 a3 a4 a5 a6 i6 i7 i8 i9 i10 i11 i12 i13 i14 i15 i16 i17 i18 i19), (a1, .inr (6, [.ref a2, .int (nI nx), .int (nI kp)])), (a2, .inl (cA 0, 240, .inl fr)), (a3, .inl (cA 0, 10, .inl fs)), (a4, .inl (cA 0, 10, .inl fp)), (a5, .inl (cA 0, 10, .inl ff)), (a6, .inl (cA 0, 10, .inl fd)), (oX3 p0 pr pb pe pg p1 (nI nd) p2 p3 p4 p5 (nI cn) p6 (nI pq) p7 p8 p9 (nI sc)), (p3, .inl (cA 0, 10, .inl fam)), (p5, .inl (cA 0, 10, .inl fby)), (p9, .inl (cA 0, 10, .inl fen)), (p7, .inl (cA 0, 350, .inl fst)), (p8, .inl (cA 0, 350, .inl fop)), (oX0 t0 tp t1 t3 t4 t5 t6 y6 y7 y8 y9 y10 y11 y12 y13 y14 y15 y16 y17 y18 y19), (t1, .inr (6, [.ref t2, .int (nI nt), .int (nI kt)])), (t2, .inl (cA 0, 240, .inl yr)), (t3, .inl (cA 0, 10, .inl ys)), (t4, .inl (cA 0, 10, .inl yp)), (t5, .inl (cA 0, 10, .inl yf)), (t6, .inl (cA 0, 10, .inl yd))] t) A) ([.ref h0, .int i] : List Value).toArray s 1 6 A) (F0 m 18 ls []) := by
      intro n1
      induction n1 with
      | zero =>
        intro i1 u7_6_1 u7_7_1 u7_8_1 u7_9_1 u7_10_1 u7_11_1 u7_12_1 u7_13_1 u7_14_1 u7_15_1 u7_16_1 u7_17_1 u7_18_1 u7_19_1 ni ki f9_1 f10_1 f11_1 f12_1 f13_1 H locs ls hi1 hv0_1 hv1_1 hP hD hS hl
        obtain rfl : 121 = i1 := by omega
        refine lv_iload_n hx hb dX9_daysUntilClosed_18 rfl (lv_at hl 0 rfl) ?_
        refine lv_bipush (v := 120) hx hb dX9_daysUntilClosed_19 (by decide) ?_
        refine lv_icmp_gt (tgt := 50) hx hb dX9_daysUntilClosed_21 (by decide) (fun c9 => ?_) (fun c9 => absurd (nI_lt (a := 120) (b := 121) (show 120 < 121 by omega) (by omega)) c9)
        refine lv_iconst (v := (-1)) hx hb dX9_daysUntilClosed_50 (by decide) ?_
        obtain ⟨hP9, hD9⟩ := PDq.sub (ws' := [(oX9 h0 b0 (nI nb) p0 u0 r0 a0 t0 s0 o0), (oX0 a0 p0 a1 a3 a4 a5 a6 i6 i7 i8 i9 i10 i11 i12 i13 i14 i15 i16 i17 i18 i19), (a1, .inr (6, [.ref a2, .int (nI nx), .int (nI kp)])), (a2, .inl (cA 0, 240, .inl fr)), (a3, .inl (cA 0, 10, .inl fs)), (a4, .inl (cA 0, 10, .inl fp)), (a5, .inl (cA 0, 10, .inl ff)), (a6, .inl (cA 0, 10, .inl fd)), (oX3 p0 pr pb pe pg p1 (nI nd) p2 p3 p4 p5 (nI cn) p6 (nI pq) p7 p8 p9 (nI sc)), (p3, .inl (cA 0, 10, .inl fam)), (p5, .inl (cA 0, 10, .inl fby)), (p9, .inl (cA 0, 10, .inl fen)), (p7, .inl (cA 0, 350, .inl fst)), (p8, .inl (cA 0, 350, .inl fop)), (oX0 t0 p0 t1 t3 t4 t5 t6 u7_6_1 u7_7_1 u7_8_1 u7_9_1 u7_10_1 u7_11_1 u7_12_1 u7_13_1 u7_14_1 u7_15_1 u7_16_1 u7_17_1 u7_18_1 u7_19_1), (t1, .inr (6, [.ref t2, .int (nI ni), .int (nI ki)])), (t2, .inl (cA 0, 240, .inl f9_1)), (t3, .inl (cA 0, 10, .inl f10_1)), (t4, .inl (cA 0, 10, .inl f11_1)), (t5, .inl (cA 0, 10, .inl f12_1)), (t6, .inl (cA 0, 10, .inl f13_1))]) hP hD [5, 14, 15, 16, 17, 18, 19, 20, 6, 0, 1, 2, 3, 4, 7, 8, 9, 10, 11, 12, 13] (by decide +kernel) rfl
        refine W.widen (k := 1) (n := 6) (Nat.le_of_ble_eq_true rfl) (Nat.le_of_ble_eq_true rfl) ?_
        exact vx_ret (W.iret (v := (-1)) hx hb hr (fun t ht hW => ⟨⟨(-1), (), rfl, trivial, p0, ni, ki, u7_6_1, u7_7_1, u7_8_1, u7_12_1, u7_13_1, u7_14_1, u7_15_1, u7_16_1, u7_17_1, u7_18_1, u7_19_1, u7_9_1, u7_10_1, u7_11_1, f9_1, f10_1, f11_1, f12_1, f13_1, hv0_1, hv1_1, by rw [ht]; exact hP9, hD9⟩, hS.F ht⟩) hS.2.2 dX9_daysUntilClosed_51)
      | succ n1 ih1 =>
        intro i1 u7_6_1 u7_7_1 u7_8_1 u7_9_1 u7_10_1 u7_11_1 u7_12_1 u7_13_1 u7_14_1 u7_15_1 u7_16_1 u7_17_1 u7_18_1 u7_19_1 ni ki f9_1 f10_1 f11_1 f12_1 f13_1 H locs ls hi1 hv0_1 hv1_1 hP hD hS hl
        refine lv_iload_n hx hb dX9_daysUntilClosed_18 rfl (lv_at hl 0 rfl) ?_
        refine lv_bipush (v := 120) hx hb dX9_daysUntilClosed_19 (by decide) ?_
        refine lv_icmp_gt (tgt := 50) hx hb dX9_daysUntilClosed_21 (by decide) (fun c9 => absurd c9 (nI_nlt (a := 120) (b := i1) (show i1 ≤ 120 by omega) (by omega))) (fun c10 => ?_)
        refine lv_aload_n hx hb dX9_daysUntilClosed_24 rfl (lv_at hl 1 rfl) ?_
        refine va_get (D := D) (ci := 10) (v := .ref t0) (C := RX9) (T := TX9) (N := 9) hx hb hts inX9 hown hK hP 5 rfl rfl 6 (by decide) (hts (.fieldLink RX9 39 "EscrowDesk" "trial" "LEscrowDesk$Account;") (by decide +kernel)) (fun _ h9 => h9) rfl dX9_daysUntilClosed_25 ?_
        refine lv_iload_n hx hb dX9_daysUntilClosed_28 rfl (lv_at hl 2 rfl) ?_
        obtain ⟨hPc, hDc, hFc⟩ := PDq.cut (wc := [(oX0 t0 p0 t1 t3 t4 t5 t6 u7_6_1 u7_7_1 u7_8_1 u7_9_1 u7_10_1 u7_11_1 u7_12_1 u7_13_1 u7_14_1 u7_15_1 u7_16_1 u7_17_1 u7_18_1 u7_19_1), (t3, .inl (cA 0, 10, .inl f10_1))]) hP hD hS hA [7, 10] (by decide) rfl
        refine va_calli (va_runV (As := [.int (nI qn1)]) (rest := []) ⟨hx, hb, hml, hown, hts⟩ (s_isClosed l D cA sa t0 t1 t3 t4 t5 t6 p0 u7_6_1 u7_7_1 u7_8_1 u7_12_1 u7_13_1 u7_14_1 u7_15_1 u7_16_1 u7_17_1 u7_18_1 u7_19_1 u7_9_1 u7_10_1 u7_11_1 qn1 f10_1 H.size (by omega)) (cwV 1 hts gX9_daysUntilClosed_X0_isClosed rfl rfl rfl (by decide +kernel) ⟨(Nat.le_of_ble_eq_true rfl), (Nat.le_of_ble_eq_true rfl)⟩) ⟨Wd.blind, va_recv hK hPc (ci := 4) (q0 := 0) rfl rfl, fun U hU hW => ⟨rfl, Wd.call hPc hDc hK hC hZ hS hFc U hU hW⟩⟩ rfl rfl hl.1 rfl (lv_room (Nat.le_of_ble_eq_true rfl)) dX9_daysUntilClosed_29 ⟨(Nat.le_of_ble_eq_true rfl), (Nat.le_of_ble_eq_true rfl)⟩) hS (fun q _ h => hFc q h) hFc (fun rn11 u t H1 locs ht hvm hw hB hz1 hk1 hS => ?_)
        obtain ⟨hP1, hD1⟩ := hB
        rw [ht] at hP1
        obtain ⟨hP, hD⟩ := PDq.join (w := [(p3, .inl (cA 0, 10, .inl fam)), (p5, .inl (cA 0, 10, .inl fby)), (p9, .inl (cA 0, 10, .inl fen)), (p7, .inl (cA 0, 350, .inl fst)), (p8, .inl (cA 0, 350, .inl fop)), (oX9 h0 b0 (nI nb) p0 u0 r0 a0 t0 s0 o0), (oX3 p0 pr pb pe pg p1 (nI nd) p2 p3 p4 p5 (nI cn) p6 (nI pq) p7 p8 p9 (nI sc)), (t1, .inr (6, [.ref t2, .int (nI ni), .int (nI ki)])), (t2, .inl (cA 0, 240, .inl f9_1)), (t4, .inl (cA 0, 10, .inl f11_1)), (t5, .inl (cA 0, 10, .inl f12_1)), (t6, .inl (cA 0, 10, .inl f13_1)), (oX0 a0 p0 a1 a3 a4 a5 a6 i6 i7 i8 i9 i10 i11 i12 i13 i14 i15 i16 i17 i18 i19), (a1, .inr (6, [.ref a2, .int (nI nx), .int (nI kp)])), (a2, .inl (cA 0, 240, .inl fr)), (a3, .inl (cA 0, 10, .inl fs)), (a4, .inl (cA 0, 10, .inl fp)), (a5, .inl (cA 0, 10, .inl ff)), (a6, .inl (cA 0, 10, .inl fd)), (oX0 t0 p0 t1 t3 t4 t5 t6 u7_6_1 u7_7_1 u7_8_1 u7_9_1 u7_10_1 u7_11_1 u7_12_1 u7_13_1 u7_14_1 u7_15_1 u7_16_1 u7_17_1 u7_18_1 u7_19_1), (t3, .inl (cA 0, 10, .inl f10_1))]) 19 hP hD [7, 10] [0, 1, 2, 3, 4, 5, 6, 8, 9, 11, 12, 13, 14, 15, 16, 17, 18, 19, 20] rfl rfl (by decide +kernel) (by decide +kernel) hk1 hFc hP1 hD1 rfl
        generalize H1 = H at hP hS ⊢
        have hn12 := hw
        refine lv_if_eq (tgt := 37) hx hb dX9_daysUntilClosed_32 (by decide) (fun c13 => ?_) (fun c13 => ?_)
        · skip
          refine lv_aload_n hx hb dX9_daysUntilClosed_37 rfl (lv_at hl 1 rfl) ?_
          refine va_get (D := D) (ci := 10) (v := .ref t0) (C := RX9) (T := TX9) (N := 9) hx hb hts inX9 hown hK hP 5 rfl rfl 6 (by decide) (hts (.fieldLink RX9 39 "EscrowDesk" "trial" "LEscrowDesk$Account;") (by decide +kernel)) (fun _ h9 => h9) rfl dX9_daysUntilClosed_38 ?_
          obtain ⟨hPc, hDc, hFc⟩ := PDq.cut (wc := [(oX0 t0 p0 t1 t3 t4 t5 t6 u7_6_1 u7_7_1 u7_8_1 u7_9_1 u7_10_1 u7_11_1 u7_12_1 u7_13_1 u7_14_1 u7_15_1 u7_16_1 u7_17_1 u7_18_1 u7_19_1), (t1, .inr (6, [.ref t2, .int (nI ni), .int (nI ki)])), (t2, .inl (cA 0, 240, .inl f9_1)), (t3, .inl (cA 0, 10, .inl f10_1)), (t4, .inl (cA 0, 10, .inl f11_1)), (t5, .inl (cA 0, 10, .inl f12_1)), (t6, .inl (cA 0, 10, .inl f13_1)), (oX3 p0 pr pb pe pg p1 (nI nd) p2 p3 p4 p5 (nI cn) p6 (nI pq) p7 p8 p9 (nI sc)), (p3, .inl (cA 0, 10, .inl fam)), (p5, .inl (cA 0, 10, .inl fby)), (p9, .inl (cA 0, 10, .inl fen)), (p7, .inl (cA 0, 350, .inl fst)), (p8, .inl (cA 0, 350, .inl fop))]) hP hD hS hA [19, 7, 8, 20, 9, 10, 11, 6, 0, 1, 2, 3, 4] (by decide +kernel) rfl
          refine va_callv (va_runV (As := []) (rest := []) ⟨hx, hb, hml, hown, hts⟩ (s_liveDay l D cA sa t0 t1 t2 t3 t4 t5 t6 p0 u7_6_1 u7_7_1 u7_8_1 u7_12_1 u7_13_1 u7_14_1 u7_15_1 u7_16_1 u7_17_1 u7_18_1 u7_19_1 u7_9_1 u7_10_1 u7_11_1 ni ki f9_1 p1 p2 p3 p4 p5 p6 p7 p8 p9 cn pq nd sc pr pb pe pg f10_1 f11_1 f12_1 f13_1 fam fby fen fst fop H.size hv0_1 hv1_1 hcn hpq hnd hsc hby hen) (cwV 0 hts gX9_daysUntilClosed_X0_liveDay rfl rfl rfl (by decide +kernel) ⟨(Nat.le_of_ble_eq_true rfl), (Nat.le_of_ble_eq_true rfl)⟩) ⟨Wd.blind, va_recv hK hPc (ci := 4) (q0 := 0) rfl rfl, fun U hU hW => ⟨rfl, Wd.call hPc hDc hK hC hZ hS hFc U hU hW⟩⟩ rfl rfl hl.1 rfl (lv_room (Nat.le_of_ble_eq_true rfl)) dX9_daysUntilClosed_41 ⟨(Nat.le_of_ble_eq_true rfl), (Nat.le_of_ble_eq_true rfl)⟩) hS (fun q _ h => hFc q h) hFc (fun u t H1 locs ht hvm hw hB hz1 hk1 hS => ?_)
          obtain ⟨zn14, zn15, zn16, zn17, zn18, zn19, zn20, zn21, zn22, zn23, zn24, zn25, zn26, zn27, qn28, qn29, fn30, fn31, fn32, fn33, fn34, hn35, hn36, hP1, hD1⟩ := hB
          rw [ht] at hP1
          obtain ⟨hP, hD⟩ := PDq.join (w := [(oX9 h0 b0 (nI nb) p0 u0 r0 a0 t0 s0 o0), (oX0 a0 p0 a1 a3 a4 a5 a6 i6 i7 i8 i9 i10 i11 i12 i13 i14 i15 i16 i17 i18 i19), (a1, .inr (6, [.ref a2, .int (nI nx), .int (nI kp)])), (a2, .inl (cA 0, 240, .inl fr)), (a3, .inl (cA 0, 10, .inl fs)), (a4, .inl (cA 0, 10, .inl fp)), (a5, .inl (cA 0, 10, .inl ff)), (a6, .inl (cA 0, 10, .inl fd)), (oX0 t0 p0 t1 t3 t4 t5 t6 zn14 zn15 zn16 zn25 zn26 zn27 zn17 zn18 zn19 zn20 zn21 zn22 zn23 zn24), (t1, .inr (6, [.ref t2, .int (nI qn28), .int (nI qn29)])), (t2, .inl (cA 0, 240, .inl fn30)), (t3, .inl (cA 0, 10, .inl fn31)), (t4, .inl (cA 0, 10, .inl fn32)), (t5, .inl (cA 0, 10, .inl fn33)), (t6, .inl (cA 0, 10, .inl fn34)), (oX3 p0 pr pb pe pg p1 (nI nd) p2 p3 p4 p5 (nI cn) p6 (nI pq) p7 p8 p9 (nI sc)), (p3, .inl (cA 0, 10, .inl fam)), (p5, .inl (cA 0, 10, .inl fby)), (p9, .inl (cA 0, 10, .inl fen)), (p7, .inl (cA 0, 350, .inl fst)), (p8, .inl (cA 0, 350, .inl fop))]) 8 hP hD [19, 7, 8, 20, 9, 10, 11, 6, 0, 1, 2, 3, 4] [5, 12, 13, 14, 15, 16, 17, 18] rfl rfl (by decide) (by decide +kernel) hk1 hFc hP1 hD1 rfl
          generalize H1 = H at hP hS ⊢
          refine lv_iinc (v := (nI (i1 + 1))) (lv' := [(2, .int (nI (i1 + 1))), (0, .ref h0), (1, .int (nI qn1))]) hx hb dX9_daysUntilClosed_44 hl (k := 0) rfl (nI_1 _) (by decide) rfl (fun ls hl => ?_)
          refine lv_goto (tgt := 18) hx hb dX9_daysUntilClosed_47 (by decide) ?_
          obtain ⟨hP9, hD9⟩ := PDq.sub (ws' := [(p3, .inl (cA 0, 10, .inl fam)), (p5, .inl (cA 0, 10, .inl fby)), (p9, .inl (cA 0, 10, .inl fen)), (p7, .inl (cA 0, 350, .inl fst)), (p8, .inl (cA 0, 350, .inl fop)), (oX9 h0 b0 (nI nb) p0 u0 r0 a0 t0 s0 o0), (oX3 p0 pr pb pe pg p1 (nI nd) p2 p3 p4 p5 (nI cn) p6 (nI pq) p7 p8 p9 (nI sc)), (oX0 t0 p0 t1 t3 t4 t5 t6 zn14 zn15 zn16 zn25 zn26 zn27 zn17 zn18 zn19 zn20 zn21 zn22 zn23 zn24), (t1, .inr (6, [.ref t2, .int (nI qn28), .int (nI qn29)])), (t2, .inl (cA 0, 240, .inl fn30)), (t3, .inl (cA 0, 10, .inl fn31)), (t4, .inl (cA 0, 10, .inl fn32)), (t5, .inl (cA 0, 10, .inl fn33)), (t6, .inl (cA 0, 10, .inl fn34)), (oX0 a0 p0 a1 a3 a4 a5 a6 i6 i7 i8 i9 i10 i11 i12 i13 i14 i15 i16 i17 i18 i19), (a1, .inr (6, [.ref a2, .int (nI nx), .int (nI kp)])), (a2, .inl (cA 0, 240, .inl fr)), (a3, .inl (cA 0, 10, .inl fs)), (a4, .inl (cA 0, 10, .inl fp)), (a5, .inl (cA 0, 10, .inl ff)), (a6, .inl (cA 0, 10, .inl fd))]) hP hD [16, 17, 18, 19, 20, 0, 15, 8, 9, 10, 11, 12, 13, 14, 1, 2, 3, 4, 5, 6, 7] (by decide +kernel) rfl
          exact ih1 (i1 + 1) zn14 zn15 zn16 zn25 zn26 zn27 zn17 zn18 zn19 zn20 zn21 zn22 zn23 zn24 qn28 qn29 fn30 fn31 fn32 fn33 fn34 H _ ls (by omega) hn35 hn36 hP9 hD9 hS (lv_sub hl [0, 1, 2] rfl)
        · skip
          refine lv_iload_n hx hb dX9_daysUntilClosed_35 rfl (lv_at hl 0 rfl) ?_
          obtain ⟨hP9, hD9⟩ := PDq.sub (ws' := [(oX9 h0 b0 (nI nb) p0 u0 r0 a0 t0 s0 o0), (oX0 a0 p0 a1 a3 a4 a5 a6 i6 i7 i8 i9 i10 i11 i12 i13 i14 i15 i16 i17 i18 i19), (a1, .inr (6, [.ref a2, .int (nI nx), .int (nI kp)])), (a2, .inl (cA 0, 240, .inl fr)), (a3, .inl (cA 0, 10, .inl fs)), (a4, .inl (cA 0, 10, .inl fp)), (a5, .inl (cA 0, 10, .inl ff)), (a6, .inl (cA 0, 10, .inl fd)), (oX3 p0 pr pb pe pg p1 (nI nd) p2 p3 p4 p5 (nI cn) p6 (nI pq) p7 p8 p9 (nI sc)), (p3, .inl (cA 0, 10, .inl fam)), (p5, .inl (cA 0, 10, .inl fby)), (p9, .inl (cA 0, 10, .inl fen)), (p7, .inl (cA 0, 350, .inl fst)), (p8, .inl (cA 0, 350, .inl fop)), (oX0 t0 p0 t1 t3 t4 t5 t6 u7_6_1 u7_7_1 u7_8_1 u7_9_1 u7_10_1 u7_11_1 u7_12_1 u7_13_1 u7_14_1 u7_15_1 u7_16_1 u7_17_1 u7_18_1 u7_19_1), (t1, .inr (6, [.ref t2, .int (nI ni), .int (nI ki)])), (t2, .inl (cA 0, 240, .inl f9_1)), (t3, .inl (cA 0, 10, .inl f10_1)), (t4, .inl (cA 0, 10, .inl f11_1)), (t5, .inl (cA 0, 10, .inl f12_1)), (t6, .inl (cA 0, 10, .inl f13_1))]) hP hD [5, 12, 13, 14, 15, 16, 17, 18, 6, 0, 1, 2, 3, 4, 19, 7, 8, 20, 9, 10, 11] (by decide +kernel) rfl
          refine W.widen (k := 1) (n := 6) (Nat.le_of_ble_eq_true rfl) (Nat.le_of_ble_eq_true rfl) ?_
          exact vx_ret (W.iret (v := (nI i1)) hx hb hr (fun t ht hW => ⟨⟨(nI i1), (), rfl, trivial, p0, ni, ki, u7_6_1, u7_7_1, u7_8_1, u7_12_1, u7_13_1, u7_14_1, u7_15_1, u7_16_1, u7_17_1, u7_18_1, u7_19_1, u7_9_1, u7_10_1, u7_11_1, f9_1, f10_1, f11_1, f12_1, f13_1, hv0_1, hv1_1, by rw [ht]; exact hP9, hD9⟩, hS.F ht⟩) hS.2.2 dX9_daysUntilClosed_36)
    obtain ⟨hP9, hD9⟩ := PDq.sub (ws' := [(p3, .inl (cA 0, 10, .inl fam)), (p5, .inl (cA 0, 10, .inl fby)), (p9, .inl (cA 0, 10, .inl fen)), (p7, .inl (cA 0, 350, .inl fst)), (p8, .inl (cA 0, 350, .inl fop)), (oX9 h0 b0 (nI nb) p0 u0 r0 a0 t0 s0 o0), (oX3 p0 pr pb pe pg p1 (nI nd) p2 p3 p4 p5 (nI cn) p6 (nI pq) p7 p8 p9 (nI sc)), (oX0 t0 p0 t1 t3 t4 t5 t6 i6 i7 i8 i9 i10 i11 i12 i13 i14 i15 i16 i17 i18 i19), (t1, .inr (6, [.ref t2, .int (nI nx), .int (nI kp)])), (t2, .inl (cA 0, 240, .inl fn8)), (t3, .inl (cA 0, 10, .inl fn4)), (t4, .inl (cA 0, 10, .inl fn5)), (t5, .inl (cA 0, 10, .inl fn6)), (t6, .inl (cA 0, 10, .inl fn7)), (oX0 a0 p0 a1 a3 a4 a5 a6 i6 i7 i8 i9 i10 i11 i12 i13 i14 i15 i16 i17 i18 i19), (a1, .inr (6, [.ref a2, .int (nI nx), .int (nI kp)])), (a2, .inl (cA 0, 240, .inl fr)), (a3, .inl (cA 0, 10, .inl fs)), (a4, .inl (cA 0, 10, .inl fp)), (a5, .inl (cA 0, 10, .inl ff)), (a6, .inl (cA 0, 10, .inl fd))]) hP hD [0, 1, 2, 3, 4, 5, 6, 7, 8, 9, 10, 11, 12, 13, 14, 15, 16, 17, 18, 19, 20] (by decide +kernel) rfl
    exact loop1 (121 - 0) 0 i6 i7 i8 i9 i10 i11 i12 i13 i14 i15 i16 i17 i18 i19 nx kp fn8 fn4 fn5 fn6 fn7 _ _ ls (by omega) hnx hkp hP9 hD9 hS (lv_sub hl [0, 1, 2] rfl)

set_option maxHeartbeats 4000000 in
set_option maxRecDepth 100000 in
/-- shortDay -/
theorem s_shortDay (l : Launch) (D : va_G) (cA : Nat → ClassId) (sa : Nat → Nat) (h0 : Nat) (b0 : Nat) (nb : Nat) (p0 : Nat) (u0 : Nat) (r0 : Nat) (a0 : Nat) (t0 : Nat) (s0 : Nat) (o0 : Nat) (a1 : Nat) (a2 : Nat) (a3 : Nat) (a4 : Nat) (a5 : Nat) (a6 : Nat) (i6 : Int32) (i7 : Int32) (i8 : Int32) (i12 : Int32) (i13 : Int32) (i14 : Int32) (i15 : Int32) (i16 : Int32) (i17 : Int32) (i18 : Int32) (i19 : Int32) (i9 : Int64) (i10 : Int64) (i11 : Int64) (nx : Nat) (kp : Nat) (fr : Nat → Int32) (fs : Nat → Int32) (fp : Nat → Int32) (ff : Nat → Int32) (fd : Nat → Int32) (p1 : Nat) (p2 : Nat) (p3 : Nat) (p4 : Nat) (p5 : Nat) (p6 : Nat) (p7 : Nat) (p8 : Nat) (p9 : Nat) (cn : Nat) (pq : Nat) (nd : Nat) (sc : Nat) (pr : Int32) (pb : Int32) (pe : Int32) (pg : Int32) (fam : Nat → Int32) (fby : Nat → Int32) (fen : Nat → Int32) (fst : Nat → Int32) (fop : Nat → Int32) (t1 : Nat) (t2 : Nat) (t3 : Nat) (t4 : Nat) (t5 : Nat) (t6 : Nat) (tp : Nat) (nt : Nat) (kt : Nat) (y6 : Int32) (y7 : Int32) (y8 : Int32) (y12 : Int32) (y13 : Int32) (y14 : Int32) (y15 : Int32) (y16 : Int32) (y17 : Int32) (y18 : Int32) (y19 : Int32) (y9 : Int64) (y10 : Int64) (y11 : Int64) (yr : Nat → Int32) (ys : Nat → Int32) (yp : Nat → Int32) (yf : Nat → Int32) (yd : Nat → Int32) (i : Int32) (sz : Nat) (hl9 : l.stackTraces = false) (hnx : nx < 60) (hkp : kp ≤ 60) (hnt : nt < 60) (hkt : kt ≤ 60) (hcn : cn ≤ 10) (hpq : pq ≤ 8) (hnd : nd ≤ 6) (hsc : sc ≤ 350) (hby : Rng 10 10 fby) (hen : Rng 10 351 fen) : vx_Met l yX9_shortDay wsX9_shortDay ({ frames := 7, cells := 1, slots := 6, locals := 118 }) (va_Pc [.ref h0, .int i] (Wd D cA sa [(oX9 h0 b0 (nI nb) p0 u0 r0 a0 t0 s0 o0), (oX0 a0 p0 a1 a3 a4 a5 a6 i6 i7 i8 i9 i10 i11 i12 i13 i14 i15 i16 i17 i18 i19), (a1, .inr (6, [.ref a2, .int (nI nx), .int (nI kp)])), (a2, .inl (cA 0, 240, .inl fr)), (a3, .inl (cA 0, 10, .inl fs)), (a4, .inl (cA 0, 10, .inl fp)), (a5, .inl (cA 0, 10, .inl ff)), (a6, .inl (cA 0, 10, .inl fd)), (oX3 p0 pr pb pe pg p1 (nI nd) p2 p3 p4 p5 (nI cn) p6 (nI pq) p7 p8 p9 (nI sc)), (p3, .inl (cA 0, 10, .inl fam)), (p5, .inl (cA 0, 10, .inl fby)), (p9, .inl (cA 0, 10, .inl fen)), (p7, .inl (cA 0, 350, .inl fst)), (p8, .inl (cA 0, 350, .inl fop)), (oX0 t0 tp t1 t3 t4 t5 t6 y6 y7 y8 y9 y10 y11 y12 y13 y14 y15 y16 y17 y18 y19), (t1, .inr (6, [.ref t2, .int (nI nt), .int (nI kt)])), (t2, .inl (cA 0, 240, .inl yr)), (t3, .inl (cA 0, 10, .inl ys)), (t4, .inl (cA 0, 10, .inl yp)), (t5, .inl (cA 0, 10, .inl yf)), (t6, .inl (cA 0, 10, .inl yd))] sz)) (va_Qi (fun (r : Int32) (_ : Unit) => True) (fun (_ : Unit) t => ∃ tq : Nat, ∃ ny : Nat, ∃ ky : Nat, ∃ z6 : Int32, ∃ z7 : Int32, ∃ z8 : Int32, ∃ z12 : Int32, ∃ z13 : Int32, ∃ z14 : Int32, ∃ z15 : Int32, ∃ z16 : Int32, ∃ z17 : Int32, ∃ z18 : Int32, ∃ z19 : Int32, ∃ z9 : Int64, ∃ z10 : Int64, ∃ z11 : Int64, ∃ zr : Nat → Int32, ∃ zs : Nat → Int32, ∃ zp : Nat → Int32, ∃ zf : Nat → Int32, ∃ zd : Nat → Int32, ny < 60 ∧ ky ≤ 60 ∧ Wq D (va_A [(oX9 h0 b0 (nI nb) p0 u0 r0 a0 t0 s0 o0), (oX0 a0 p0 a1 a3 a4 a5 a6 i6 i7 i8 i9 i10 i11 i12 i13 i14 i15 i16 i17 i18 i19), (a1, .inr (6, [.ref a2, .int (nI nx), .int (nI kp)])), (a2, .inl (cA 0, 240, .inl fr)), (a3, .inl (cA 0, 10, .inl fs)), (a4, .inl (cA 0, 10, .inl fp)), (a5, .inl (cA 0, 10, .inl ff)), (a6, .inl (cA 0, 10, .inl fd)), (oX3 p0 pr pb pe pg p1 (nI nd) p2 p3 p4 p5 (nI cn) p6 (nI pq) p7 p8 p9 (nI sc)), (p3, .inl (cA 0, 10, .inl fam)), (p5, .inl (cA 0, 10, .inl fby)), (p9, .inl (cA 0, 10, .inl fen)), (p7, .inl (cA 0, 350, .inl fst)), (p8, .inl (cA 0, 350, .inl fop)), (oX0 t0 tp t1 t3 t4 t5 t6 y6 y7 y8 y9 y10 y11 y12 y13 y14 y15 y16 y17 y18 y19), (t1, .inr (6, [.ref t2, .int (nI nt), .int (nI kt)])), (t2, .inl (cA 0, 240, .inl yr)), (t3, .inl (cA 0, 10, .inl ys)), (t4, .inl (cA 0, 10, .inl yp)), (t5, .inl (cA 0, 10, .inl yf)), (t6, .inl (cA 0, 10, .inl yd))] sz) [(oX9 h0 b0 (nI nb) p0 u0 r0 a0 t0 s0 o0), (oX0 a0 p0 a1 a3 a4 a5 a6 i6 i7 i8 i9 i10 i11 i12 i13 i14 i15 i16 i17 i18 i19), (a1, .inr (6, [.ref a2, .int (nI nx), .int (nI kp)])), (a2, .inl (cA 0, 240, .inl fr)), (a3, .inl (cA 0, 10, .inl fs)), (a4, .inl (cA 0, 10, .inl fp)), (a5, .inl (cA 0, 10, .inl ff)), (a6, .inl (cA 0, 10, .inl fd)), (oX3 p0 pr pb pe pg p1 (nI nd) p2 p3 p4 p5 (nI cn) p6 (nI pq) p7 p8 p9 (nI sc)), (p3, .inl (cA 0, 10, .inl fam)), (p5, .inl (cA 0, 10, .inl fby)), (p9, .inl (cA 0, 10, .inl fen)), (p7, .inl (cA 0, 350, .inl fst)), (p8, .inl (cA 0, 350, .inl fop)), (oX0 t0 tq t1 t3 t4 t5 t6 z6 z7 z8 z9 z10 z11 z12 z13 z14 z15 z16 z17 z18 z19), (t1, .inr (6, [.ref t2, .int (nI ny), .int (nI ky)])), (t2, .inl (cA 0, 240, .inl zr)), (t3, .inl (cA 0, 10, .inl zs)), (t4, .inl (cA 0, 10, .inl zp)), (t5, .inl (cA 0, 10, .inl zf)), (t6, .inl (cA 0, 10, .inl zd))] t) (va_A [(oX9 h0 b0 (nI nb) p0 u0 r0 a0 t0 s0 o0), (oX0 a0 p0 a1 a3 a4 a5 a6 i6 i7 i8 i9 i10 i11 i12 i13 i14 i15 i16 i17 i18 i19), (a1, .inr (6, [.ref a2, .int (nI nx), .int (nI kp)])), (a2, .inl (cA 0, 240, .inl fr)), (a3, .inl (cA 0, 10, .inl fs)), (a4, .inl (cA 0, 10, .inl fp)), (a5, .inl (cA 0, 10, .inl ff)), (a6, .inl (cA 0, 10, .inl fd)), (oX3 p0 pr pb pe pg p1 (nI nd) p2 p3 p4 p5 (nI cn) p6 (nI pq) p7 p8 p9 (nI sc)), (p3, .inl (cA 0, 10, .inl fam)), (p5, .inl (cA 0, 10, .inl fby)), (p9, .inl (cA 0, 10, .inl fen)), (p7, .inl (cA 0, 350, .inl fst)), (p8, .inl (cA 0, 350, .inl fop)), (oX0 t0 tp t1 t3 t4 t5 t6 y6 y7 y8 y9 y10 y11 y12 y13 y14 y15 y16 y17 y18 y19), (t1, .inr (6, [.ref t2, .int (nI nt), .int (nI kt)])), (t2, .inl (cA 0, 240, .inl yr)), (t3, .inl (cA 0, 10, .inl ys)), (t4, .inl (cA 0, 10, .inl yp)), (t5, .inl (cA 0, 10, .inl yf)), (t6, .inl (cA 0, 10, .inl yd))] sz)) (vx_X (fun _ : Unit => True) (fun E _ t => (E = "java/lang/IllegalArgumentException") ∧ Wq D (va_A [(oX9 h0 b0 (nI nb) p0 u0 r0 a0 t0 s0 o0), (oX0 a0 p0 a1 a3 a4 a5 a6 i6 i7 i8 i9 i10 i11 i12 i13 i14 i15 i16 i17 i18 i19), (a1, .inr (6, [.ref a2, .int (nI nx), .int (nI kp)])), (a2, .inl (cA 0, 240, .inl fr)), (a3, .inl (cA 0, 10, .inl fs)), (a4, .inl (cA 0, 10, .inl fp)), (a5, .inl (cA 0, 10, .inl ff)), (a6, .inl (cA 0, 10, .inl fd)), (oX3 p0 pr pb pe pg p1 (nI nd) p2 p3 p4 p5 (nI cn) p6 (nI pq) p7 p8 p9 (nI sc)), (p3, .inl (cA 0, 10, .inl fam)), (p5, .inl (cA 0, 10, .inl fby)), (p9, .inl (cA 0, 10, .inl fen)), (p7, .inl (cA 0, 350, .inl fst)), (p8, .inl (cA 0, 350, .inl fop)), (oX0 t0 tp t1 t3 t4 t5 t6 y6 y7 y8 y9 y10 y11 y12 y13 y14 y15 y16 y17 y18 y19), (t1, .inr (6, [.ref t2, .int (nI nt), .int (nI kt)])), (t2, .inl (cA 0, 240, .inl yr)), (t3, .inl (cA 0, 10, .inl ys)), (t4, .inl (cA 0, 10, .inl yp)), (t5, .inl (cA 0, 10, .inl yf)), (t6, .inl (cA 0, 10, .inl yd))] sz) [(oX9 h0 b0 (nI nb) p0 u0 r0 a0 t0 s0 o0), (oX0 a0 p0 a1 a3 a4 a5 a6 i6 i7 i8 i9 i10 i11 i12 i13 i14 i15 i16 i17 i18 i19), (a1, .inr (6, [.ref a2, .int (nI nx), .int (nI kp)])), (a2, .inl (cA 0, 240, .inl fr)), (a3, .inl (cA 0, 10, .inl fs)), (a4, .inl (cA 0, 10, .inl fp)), (a5, .inl (cA 0, 10, .inl ff)), (a6, .inl (cA 0, 10, .inl fd)), (oX3 p0 pr pb pe pg p1 (nI nd) p2 p3 p4 p5 (nI cn) p6 (nI pq) p7 p8 p9 (nI sc)), (p3, .inl (cA 0, 10, .inl fam)), (p5, .inl (cA 0, 10, .inl fby)), (p9, .inl (cA 0, 10, .inl fen)), (p7, .inl (cA 0, 350, .inl fst)), (p8, .inl (cA 0, 350, .inl fop)), (oX0 t0 tp t1 t3 t4 t5 t6 y6 y7 y8 y9 y10 y11 y12 y13 y14 y15 y16 y17 y18 y19), (t1, .inr (6, [.ref t2, .int (nI nt), .int (nI kt)])), (t2, .inl (cA 0, 240, .inl yr)), (t3, .inl (cA 0, 10, .inl ys)), (t4, .inl (cA 0, 10, .inl yp)), (t5, .inl (cA 0, 10, .inl yf)), (t6, .inl (cA 0, 10, .inl yd))] t) (va_A [(oX9 h0 b0 (nI nb) p0 u0 r0 a0 t0 s0 o0), (oX0 a0 p0 a1 a3 a4 a5 a6 i6 i7 i8 i9 i10 i11 i12 i13 i14 i15 i16 i17 i18 i19), (a1, .inr (6, [.ref a2, .int (nI nx), .int (nI kp)])), (a2, .inl (cA 0, 240, .inl fr)), (a3, .inl (cA 0, 10, .inl fs)), (a4, .inl (cA 0, 10, .inl fp)), (a5, .inl (cA 0, 10, .inl ff)), (a6, .inl (cA 0, 10, .inl fd)), (oX3 p0 pr pb pe pg p1 (nI nd) p2 p3 p4 p5 (nI cn) p6 (nI pq) p7 p8 p9 (nI sc)), (p3, .inl (cA 0, 10, .inl fam)), (p5, .inl (cA 0, 10, .inl fby)), (p9, .inl (cA 0, 10, .inl fen)), (p7, .inl (cA 0, 350, .inl fst)), (p8, .inl (cA 0, 350, .inl fop)), (oX0 t0 tp t1 t3 t4 t5 t6 y6 y7 y8 y9 y10 y11 y12 y13 y14 y15 y16 y17 y18 y19), (t1, .inr (6, [.ref t2, .int (nI nt), .int (nI kt)])), (t2, .inl (cA 0, 240, .inl yr)), (t3, .inl (cA 0, 10, .inl ys)), (t4, .inl (cA 0, 10, .inl yp)), (t5, .inl (cA 0, 10, .inl yf)), (t6, .inl (cA 0, 10, .inl yd))] sz)) 1 6 (va_A [(oX9 h0 b0 (nI nb) p0 u0 r0 a0 t0 s0 o0), (oX0 a0 p0 a1 a3 a4 a5 a6 i6 i7 i8 i9 i10 i11 i12 i13 i14 i15 i16 i17 i18 i19), (a1, .inr (6, [.ref a2, .int (nI nx), .int (nI kp)])), (a2, .inl (cA 0, 240, .inl fr)), (a3, .inl (cA 0, 10, .inl fs)), (a4, .inl (cA 0, 10, .inl fp)), (a5, .inl (cA 0, 10, .inl ff)), (a6, .inl (cA 0, 10, .inl fd)), (oX3 p0 pr pb pe pg p1 (nI nd) p2 p3 p4 p5 (nI cn) p6 (nI pq) p7 p8 p9 (nI sc)), (p3, .inl (cA 0, 10, .inl fam)), (p5, .inl (cA 0, 10, .inl fby)), (p9, .inl (cA 0, 10, .inl fen)), (p7, .inl (cA 0, 350, .inl fst)), (p8, .inl (cA 0, 350, .inl fop)), (oX0 t0 tp t1 t3 t4 t5 t6 y6 y7 y8 y9 y10 y11 y12 y13 y14 y15 y16 y17 y18 y19), (t1, .inr (6, [.ref t2, .int (nI nt), .int (nI kt)])), (t2, .inl (cA 0, 240, .inl yr)), (t3, .inl (cA 0, 10, .inl ys)), (t4, .inl (cA 0, 10, .inl yp)), (t5, .inl (cA 0, 10, .inl yf)), (t6, .inl (cA 0, 10, .inl yd))] sz) := by
  refine vx_ofW (cc := cX9_shortDay) (maxL := 3) (ret := (some .int)) (by decide) rfl ?_
  intro p e s m args below meth c s₁ B hml hno hv
  obtain ⟨rfl, hsz, hP, hK, hD0, hC, hZ⟩ := hv
  have hx := B.exec
  have hb := B.bytes
  have hr := B.returns
  have hts := atoms_spec (ws := wsX9_shortDay) B.pre
  have hown : s.vm.findClass RX9 = some m.cls := findClass_of_methodNamed B.named
  have hlocks := B.notSynchronized
  subst hsz
  have hD := hD0.self (sz := s.heap.size)
  generalize hAe : va_A [(oX9 h0 b0 (nI nb) p0 u0 r0 a0 t0 s0 o0), (oX0 a0 p0 a1 a3 a4 a5 a6 i6 i7 i8 i9 i10 i11 i12 i13 i14 i15 i16 i17 i18 i19), (a1, .inr (6, [.ref a2, .int (nI nx), .int (nI kp)])), (a2, .inl (cA 0, 240, .inl fr)), (a3, .inl (cA 0, 10, .inl fs)), (a4, .inl (cA 0, 10, .inl fp)), (a5, .inl (cA 0, 10, .inl ff)), (a6, .inl (cA 0, 10, .inl fd)), (oX3 p0 pr pb pe pg p1 (nI nd) p2 p3 p4 p5 (nI cn) p6 (nI pq) p7 p8 p9 (nI sc)), (p3, .inl (cA 0, 10, .inl fam)), (p5, .inl (cA 0, 10, .inl fby)), (p9, .inl (cA 0, 10, .inl fen)), (p7, .inl (cA 0, 350, .inl fst)), (p8, .inl (cA 0, 350, .inl fop)), (oX0 t0 tp t1 t3 t4 t5 t6 y6 y7 y8 y9 y10 y11 y12 y13 y14 y15 y16 y17 y18 y19), (t1, .inr (6, [.ref t2, .int (nI nt), .int (nI kt)])), (t2, .inl (cA 0, 240, .inl yr)), (t3, .inl (cA 0, 10, .inl ys)), (t4, .inl (cA 0, 10, .inl yp)), (t5, .inl (cA 0, 10, .inl yf)), (t6, .inl (cA 0, 10, .inl yd))] s.heap.size = A at hD hZ ⊢
  have hA : ∀ q : Nat, s.heap.size ≤ q → A q := fun q h => by rw [← hAe]; exact Or.inr h
  have hS : va_S A s.heap s.heap [] := va_S.rf
  have hP : va_P D vwCl [(oX9 h0 b0 (nI nb) p0 u0 r0 a0 t0 s0 o0), (oX0 a0 p0 a1 a3 a4 a5 a6 i6 i7 i8 i9 i10 i11 i12 i13 i14 i15 i16 i17 i18 i19), (a1, .inr (6, [.ref a2, .int (nI nx), .int (nI kp)])), (a2, .inl (cA 0, 240, .inl fr)), (a3, .inl (cA 0, 10, .inl fs)), (a4, .inl (cA 0, 10, .inl fp)), (a5, .inl (cA 0, 10, .inl ff)), (a6, .inl (cA 0, 10, .inl fd)), (oX3 p0 pr pb pe pg p1 (nI nd) p2 p3 p4 p5 (nI cn) p6 (nI pq) p7 p8 p9 (nI sc)), (p3, .inl (cA 0, 10, .inl fam)), (p5, .inl (cA 0, 10, .inl fby)), (p9, .inl (cA 0, 10, .inl fen)), (p7, .inl (cA 0, 350, .inl fst)), (p8, .inl (cA 0, 350, .inl fop)), (oX0 t0 tp t1 t3 t4 t5 t6 y6 y7 y8 y9 y10 y11 y12 y13 y14 y15 y16 y17 y18 y19), (t1, .inr (6, [.ref t2, .int (nI nt), .int (nI kt)])), (t2, .inl (cA 0, 240, .inl yr)), (t3, .inl (cA 0, 10, .inl ys)), (t4, .inl (cA 0, 10, .inl yp)), (t5, .inl (cA 0, 10, .inl yf)), (t6, .inl (cA 0, 10, .inl yd))] s.heap := hP
  have hl := lv_entry ([.ref h0, .int i]) (n := 3) (Nat.le_of_ble_eq_true rfl)
  rw [lg_entry_eq]
  generalize (lg_sl ([.ref h0, .int i]) ++ List.replicate (3 - (lg_sl ([.ref h0, .int i])).length) Slot.unset).toArray = ls at hl ⊢
  have hl : lv_has ls 3 [(0, .ref h0), (1, .int i)] := hl
  have inX0 : ∀ w ∈ u_ws RX0 TX0 20, w ∈ wsX9_shortDay := by decide +kernel
  have inX9 : ∀ w ∈ u_ws RX9 TX9 9, w ∈ wsX9_shortDay := by decide +kernel
  refine lv_iload_n hx hb dX9_shortDay_0 rfl (lv_at hl 1 rfl) ?_
  refine lv_iconst (v := 1) hx hb dX9_shortDay_1 (by decide) ?_
  refine lv_bipush (v := 120) hx hb dX9_shortDay_2 (by decide) ?_
  obtain ⟨hPc, hDc, hFc⟩ := PDq.cut (wc := []) hP hD hS hA [] (by decide) rfl
  refine vx_callv (vx_runS (As := [.int i, .int 1, .int 120]) (rest := []) ⟨hx, hb, hml, hown, hts⟩ (s_needRangeN l D cA sa i 1 120 s.heap.size hl9 (by omega) (by omega)) (va_cwS 3 hts gX9_shortDay_X9_needRange rfl rfl rfl (by decide +kernel) ⟨(Nat.le_of_ble_eq_true rfl), (Nat.le_of_ble_eq_true rfl)⟩) ⟨Wd.blind, fun U hU hW => ⟨rfl, Wd.call hPc hDc hK hC hZ hS hFc U hU hW⟩⟩ rfl rfl hl.1 rfl (lv_room (Nat.le_of_ble_eq_true rfl)) dX9_shortDay_4 ⟨(Nat.le_of_ble_eq_true rfl), (Nat.le_of_ble_eq_true rfl)⟩) hS (fun q _ h => hFc q h) hFc (fun q _ h => hFc q h) (fun E ce q9 u t H1 locs ht hvm hpx hE hz1 hk1 hS hcell hv9 hcl => ?_) (fun u t H1 locs ht hvm hw hB hz1 hk1 hS => ?_)
  · skip
    obtain ⟨hE, hP1, hD1⟩ := hE
    rw [ht] at hP1
    obtain ⟨hP, hD⟩ := PDq.join (w := [(oX9 h0 b0 (nI nb) p0 u0 r0 a0 t0 s0 o0), (oX0 a0 p0 a1 a3 a4 a5 a6 i6 i7 i8 i9 i10 i11 i12 i13 i14 i15 i16 i17 i18 i19), (a1, .inr (6, [.ref a2, .int (nI nx), .int (nI kp)])), (a2, .inl (cA 0, 240, .inl fr)), (a3, .inl (cA 0, 10, .inl fs)), (a4, .inl (cA 0, 10, .inl fp)), (a5, .inl (cA 0, 10, .inl ff)), (a6, .inl (cA 0, 10, .inl fd)), (oX3 p0 pr pb pe pg p1 (nI nd) p2 p3 p4 p5 (nI cn) p6 (nI pq) p7 p8 p9 (nI sc)), (p3, .inl (cA 0, 10, .inl fam)), (p5, .inl (cA 0, 10, .inl fby)), (p9, .inl (cA 0, 10, .inl fen)), (p7, .inl (cA 0, 350, .inl fst)), (p8, .inl (cA 0, 350, .inl fop)), (oX0 t0 tp t1 t3 t4 t5 t6 y6 y7 y8 y9 y10 y11 y12 y13 y14 y15 y16 y17 y18 y19), (t1, .inr (6, [.ref t2, .int (nI nt), .int (nI kt)])), (t2, .inl (cA 0, 240, .inl yr)), (t3, .inl (cA 0, 10, .inl ys)), (t4, .inl (cA 0, 10, .inl yp)), (t5, .inl (cA 0, 10, .inl yf)), (t6, .inl (cA 0, 10, .inl yd))]) 21 hP hD [] [0, 1, 2, 3, 4, 5, 6, 7, 8, 9, 10, 11, 12, 13, 14, 15, 16, 17, 18, 19, 20] rfl rfl (by decide +kernel) (by decide +kernel) hk1 hFc hP1 hD1 rfl
    generalize H1 = H at hP hS hcell ⊢
    obtain ⟨hP9, hD9⟩ := PDq.sub (ws' := [(oX9 h0 b0 (nI nb) p0 u0 r0 a0 t0 s0 o0), (oX0 a0 p0 a1 a3 a4 a5 a6 i6 i7 i8 i9 i10 i11 i12 i13 i14 i15 i16 i17 i18 i19), (a1, .inr (6, [.ref a2, .int (nI nx), .int (nI kp)])), (a2, .inl (cA 0, 240, .inl fr)), (a3, .inl (cA 0, 10, .inl fs)), (a4, .inl (cA 0, 10, .inl fp)), (a5, .inl (cA 0, 10, .inl ff)), (a6, .inl (cA 0, 10, .inl fd)), (oX3 p0 pr pb pe pg p1 (nI nd) p2 p3 p4 p5 (nI cn) p6 (nI pq) p7 p8 p9 (nI sc)), (p3, .inl (cA 0, 10, .inl fam)), (p5, .inl (cA 0, 10, .inl fby)), (p9, .inl (cA 0, 10, .inl fen)), (p7, .inl (cA 0, 350, .inl fst)), (p8, .inl (cA 0, 350, .inl fop)), (oX0 t0 tp t1 t3 t4 t5 t6 y6 y7 y8 y9 y10 y11 y12 y13 y14 y15 y16 y17 y18 y19), (t1, .inr (6, [.ref t2, .int (nI nt), .int (nI kt)])), (t2, .inl (cA 0, 240, .inl yr)), (t3, .inl (cA 0, 10, .inl ys)), (t4, .inl (cA 0, 10, .inl yp)), (t5, .inl (cA 0, 10, .inl yf)), (t6, .inl (cA 0, 10, .inl yd))]) hP hD [0, 1, 2, 3, 4, 5, 6, 7, 8, 9, 10, 11, 12, 13, 14, 15, 16, 17, 18, 19, 20] (by decide +kernel) rfl
    exact vx_out (fun x h => (hno x h).elim) hlocks hcell hv9 hcl (fun t ht hvm => ⟨(), trivial, ⟨hE, by rw [ht]; exact hP9, hD9⟩, hS.F ht⟩) hS.2.2 (Nat.le_of_ble_eq_true rfl) (Nat.le_of_ble_eq_true rfl)
  · skip
    obtain ⟨qn1, hn2, hn3, hn4, hP1, hD1⟩ := hB
    rw [ht] at hP1
    obtain ⟨hP, hD⟩ := PDq.join (w := [(oX9 h0 b0 (nI nb) p0 u0 r0 a0 t0 s0 o0), (oX0 a0 p0 a1 a3 a4 a5 a6 i6 i7 i8 i9 i10 i11 i12 i13 i14 i15 i16 i17 i18 i19), (a1, .inr (6, [.ref a2, .int (nI nx), .int (nI kp)])), (a2, .inl (cA 0, 240, .inl fr)), (a3, .inl (cA 0, 10, .inl fs)), (a4, .inl (cA 0, 10, .inl fp)), (a5, .inl (cA 0, 10, .inl ff)), (a6, .inl (cA 0, 10, .inl fd)), (oX3 p0 pr pb pe pg p1 (nI nd) p2 p3 p4 p5 (nI cn) p6 (nI pq) p7 p8 p9 (nI sc)), (p3, .inl (cA 0, 10, .inl fam)), (p5, .inl (cA 0, 10, .inl fby)), (p9, .inl (cA 0, 10, .inl fen)), (p7, .inl (cA 0, 350, .inl fst)), (p8, .inl (cA 0, 350, .inl fop)), (oX0 t0 tp t1 t3 t4 t5 t6 y6 y7 y8 y9 y10 y11 y12 y13 y14 y15 y16 y17 y18 y19), (t1, .inr (6, [.ref t2, .int (nI nt), .int (nI kt)])), (t2, .inl (cA 0, 240, .inl yr)), (t3, .inl (cA 0, 10, .inl ys)), (t4, .inl (cA 0, 10, .inl yp)), (t5, .inl (cA 0, 10, .inl yf)), (t6, .inl (cA 0, 10, .inl yd))]) 21 hP hD [] [0, 1, 2, 3, 4, 5, 6, 7, 8, 9, 10, 11, 12, 13, 14, 15, 16, 17, 18, 19, 20] rfl rfl (by decide +kernel) (by decide +kernel) hk1 hFc hP1 hD1 rfl
    generalize H1 = H at hP hS ⊢
    rw [hn4] at hl
    have hl : lv_has ls 3 [(0, .ref h0), (1, .int (nI qn1))] := hl
    refine lv_aload_n hx hb dX9_shortDay_7 rfl (lv_at hl 0 rfl) ?_
    refine va_get (D := D) (ci := 10) (v := .ref t0) (C := RX9) (T := TX9) (N := 9) hx hb hts inX9 hown hK hP 0 rfl rfl 6 (by decide) (hts (.fieldLink RX9 39 "EscrowDesk" "trial" "LEscrowDesk$Account;") (by decide +kernel)) (fun _ h9 => h9) rfl dX9_shortDay_8 ?_
    refine lv_aload_n hx hb dX9_shortDay_11 rfl (lv_at hl 0 rfl) ?_
    refine va_get (D := D) (ci := 10) (v := .ref a0) (C := RX9) (T := TX9) (N := 9) hx hb hts inX9 hown hK hP 0 rfl rfl 5 (by decide) (hts (.fieldLink RX9 35 "EscrowDesk" "account" "LEscrowDesk$Account;") (by decide +kernel)) (fun _ h9 => h9) rfl dX9_shortDay_12 ?_
    obtain ⟨hPc, hDc, hFc⟩ := PDq.cut (wc := [(oX0 t0 tp t1 t3 t4 t5 t6 y6 y7 y8 y9 y10 y11 y12 y13 y14 y15 y16 y17 y18 y19), (t1, .inr (6, [.ref t2, .int (nI nt), .int (nI kt)])), (t2, .inl (cA 0, 240, .inl yr)), (t3, .inl (cA 0, 10, .inl ys)), (t4, .inl (cA 0, 10, .inl yp)), (t5, .inl (cA 0, 10, .inl yf)), (t6, .inl (cA 0, 10, .inl yd)), (oX0 a0 p0 a1 a3 a4 a5 a6 i6 i7 i8 i9 i10 i11 i12 i13 i14 i15 i16 i17 i18 i19), (a1, .inr (6, [.ref a2, .int (nI nx), .int (nI kp)])), (a2, .inl (cA 0, 240, .inl fr)), (a3, .inl (cA 0, 10, .inl fs)), (a4, .inl (cA 0, 10, .inl fp)), (a5, .inl (cA 0, 10, .inl ff)), (a6, .inl (cA 0, 10, .inl fd))]) hP hD hS hA [14, 15, 16, 17, 18, 19, 20, 1, 2, 3, 4, 5, 6, 7] (by decide +kernel) rfl
    refine va_callv (va_runV (As := [.ref a0]) (rest := []) ⟨hx, hb, hml, hown, hts⟩ (s_copyFrom l D cA sa t0 t1 t2 t3 t4 t5 t6 nt kt (.ref tp) (.int y6) (.int y7) (.int y8) (.long y9) (.long y10) (.long y11) (.int y12) (.int y13) (.int y14) (.int y15) (.int y16) (.int y17) (.int y18) (.int y19) ys yp yf yd yr a0 a1 a2 a3 a4 a5 a6 p0 i6 i7 i8 i12 i13 i14 i15 i16 i17 i18 i19 i9 i10 i11 nx kp fr fs fp ff fd H.size) (cwV 1 hts gX9_shortDay_X0_copyFrom rfl rfl rfl (by decide +kernel) ⟨(Nat.le_of_ble_eq_true rfl), (Nat.le_of_ble_eq_true rfl)⟩) ⟨Wd.blind, va_recv hK hPc (ci := 4) (q0 := 0) rfl rfl, fun U hU hW => ⟨rfl, Wd.call hPc hDc hK hC hZ hS hFc U hU hW⟩⟩ rfl rfl hl.1 rfl (lv_room (Nat.le_of_ble_eq_true rfl)) dX9_shortDay_15 ⟨(Nat.le_of_ble_eq_true rfl), (Nat.le_of_ble_eq_true rfl)⟩) hS (fun q _ h => hFc q h) hFc (fun u t H1 locs ht hvm hw hB hz1 hk1 hS => ?_)
    obtain ⟨fn5, fn6, fn7, fn8, fn9, hP1, hD1⟩ := hB
    rw [ht] at hP1
    obtain ⟨hP, hD⟩ := PDq.join (w := [(oX9 h0 b0 (nI nb) p0 u0 r0 a0 t0 s0 o0), (oX3 p0 pr pb pe pg p1 (nI nd) p2 p3 p4 p5 (nI cn) p6 (nI pq) p7 p8 p9 (nI sc)), (p3, .inl (cA 0, 10, .inl fam)), (p5, .inl (cA 0, 10, .inl fby)), (p9, .inl (cA 0, 10, .inl fen)), (p7, .inl (cA 0, 350, .inl fst)), (p8, .inl (cA 0, 350, .inl fop)), (oX0 t0 p0 t1 t3 t4 t5 t6 i6 i7 i8 i9 i10 i11 i12 i13 i14 i15 i16 i17 i18 i19), (t1, .inr (6, [.ref t2, .int (nI nx), .int (nI kp)])), (t2, .inl (cA 0, 240, .inl fn9)), (t3, .inl (cA 0, 10, .inl fn5)), (t4, .inl (cA 0, 10, .inl fn6)), (t5, .inl (cA 0, 10, .inl fn7)), (t6, .inl (cA 0, 10, .inl fn8)), (oX0 a0 p0 a1 a3 a4 a5 a6 i6 i7 i8 i9 i10 i11 i12 i13 i14 i15 i16 i17 i18 i19), (a1, .inr (6, [.ref a2, .int (nI nx), .int (nI kp)])), (a2, .inl (cA 0, 240, .inl fr)), (a3, .inl (cA 0, 10, .inl fs)), (a4, .inl (cA 0, 10, .inl fp)), (a5, .inl (cA 0, 10, .inl ff)), (a6, .inl (cA 0, 10, .inl fd))]) 7 hP hD [14, 15, 16, 17, 18, 19, 20, 1, 2, 3, 4, 5, 6, 7] [0, 8, 9, 10, 11, 12, 13] rfl rfl (by decide) (by decide +kernel) hk1 hFc hP1 hD1 rfl
    generalize H1 = H at hP hS ⊢
    refine lv_iconst (v := 0) hx hb dX9_shortDay_18 (by decide) ?_
    refine lv_istore_n (lv' := [(2, .int 0), (0, .ref h0), (1, .int (nI qn1))]) hx hb dX9_shortDay_19 rfl hl (by decide) rfl (fun ls hl => ?_)
    have loop1 : ∀ (n1 i1 : Nat) (u7_6_1 : Int32) (u7_7_1 : Int32) (u7_8_1 : Int32) (u7_9_1 : Int64) (u7_10_1 : Int64) (u7_11_1 : Int64) (u7_12_1 : Int32) (u7_13_1 : Int32) (u7_14_1 : Int32) (u7_15_1 : Int32) (u7_16_1 : Int32) (u7_17_1 : Int32) (u7_18_1 : Int32) (u7_19_1 : Int32) (ni : Nat) (ki : Nat) (f9_1 : Nat → Int32) (f10_1 : Nat → Int32) (f11_1 : Nat → Int32) (f12_1 : Nat → Int32) (f13_1 : Nat → Int32) (H : Heap) (locs : List Loc) (ls : Array Slot), i1 + n1 = qn1 → ni < 60 → ki ≤ 60 → va_P D vwCl [(oX9 h0 b0 (nI nb) p0 u0 r0 a0 t0 s0 o0), (oX3 p0 pr pb pe pg p1 (nI nd) p2 p3 p4 p5 (nI cn) p6 (nI pq) p7 p8 p9 (nI sc)), (p3, .inl (cA 0, 10, .inl fam)), (p5, .inl (cA 0, 10, .inl fby)), (p9, .inl (cA 0, 10, .inl fen)), (p7, .inl (cA 0, 350, .inl fst)), (p8, .inl (cA 0, 350, .inl fop)), (oX0 t0 p0 t1 t3 t4 t5 t6 u7_6_1 u7_7_1 u7_8_1 u7_9_1 u7_10_1 u7_11_1 u7_12_1 u7_13_1 u7_14_1 u7_15_1 u7_16_1 u7_17_1 u7_18_1 u7_19_1), (t1, .inr (6, [.ref t2, .int (nI ni), .int (nI ki)])), (t2, .inl (cA 0, 240, .inl f9_1)), (t3, .inl (cA 0, 10, .inl f10_1)), (t4, .inl (cA 0, 10, .inl f11_1)), (t5, .inl (cA 0, 10, .inl f12_1)), (t6, .inl (cA 0, 10, .inl f13_1)), (oX0 a0 p0 a1 a3 a4 a5 a6 i6 i7 i8 i9 i10 i11 i12 i13 i14 i15 i16 i17 i18 i19), (a1, .inr (6, [.ref a2, .int (nI nx), .int (nI kp)])), (a2, .inl (cA 0, 240, .inl fr)), (a3, .inl (cA 0, 10, .inl fs)), (a4, .inl (cA 0, 10, .inl fp)), (a5, .inl (cA 0, 10, .inl ff)), (a6, .inl (cA 0, 10, .inl fd))] H → va_D A [(oX9 h0 b0 (nI nb) p0 u0 r0 a0 t0 s0 o0), (oX3 p0 pr pb pe pg p1 (nI nd) p2 p3 p4 p5 (nI cn) p6 (nI pq) p7 p8 p9 (nI sc)), (p3, .inl (cA 0, 10, .inl fam)), (p5, .inl (cA 0, 10, .inl fby)), (p9, .inl (cA 0, 10, .inl fen)), (p7, .inl (cA 0, 350, .inl fst)), (p8, .inl (cA 0, 350, .inl fop)), (oX0 t0 p0 t1 t3 t4 t5 t6 u7_6_1 u7_7_1 u7_8_1 u7_9_1 u7_10_1 u7_11_1 u7_12_1 u7_13_1 u7_14_1 u7_15_1 u7_16_1 u7_17_1 u7_18_1 u7_19_1), (t1, .inr (6, [.ref t2, .int (nI ni), .int (nI ki)])), (t2, .inl (cA 0, 240, .inl f9_1)), (t3, .inl (cA 0, 10, .inl f10_1)), (t4, .inl (cA 0, 10, .inl f11_1)), (t5, .inl (cA 0, 10, .inl f12_1)), (t6, .inl (cA 0, 10, .inl f13_1)), (oX0 a0 p0 a1 a3 a4 a5 a6 i6 i7 i8 i9 i10 i11 i12 i13 i14 i15 i16 i17 i18 i19), (a1, .inr (6, [.ref a2, .int (nI nx), .int (nI kp)])), (a2, .inl (cA 0, 240, .inl fr)), (a3, .inl (cA 0, 10, .inl fs)), (a4, .inl (cA 0, 10, .inl fp)), (a5, .inl (cA 0, 10, .inl ff)), (a6, .inl (cA 0, 10, .inl fd))] → va_S A s.heap H locs → lv_has ls 3 [(2, .int (nI i1)), (0, .ref h0), (1, .int (nI qn1))] → W p l e (headSpec wsX9_shortDay ({ frames := 7, cells := 1, slots := 6, locals := 118 } : Room)).room s m ([.ref h0, .int i] : List Value).toArray below meth c H locs 1 6 (vx_MQ below (va_Qi (fun (r : Int32) (_ : Unit) => True) (fun (_ : Unit) t => ∃ tq : Nat, ∃ ny : Nat, ∃ ky : Nat, ∃ z6 : Int32, ∃ z7 : Int32, ∃ z8 : Int32, ∃ z12 : Int32, ∃ z13 : Int32, ∃ z14 : Int32, ∃ z15 : Int32, ∃ z16 : Int32, ∃ z17 : Int32, ∃ z18 : Int32, ∃ z19 : Int32, ∃ z9 : Int64, ∃ z10 : Int64, ∃ z11 : Int64, ∃ zr : Nat → Int32, ∃ zs : Nat → Int32, ∃ zp : Nat → Int32, ∃ zf : Nat → Int32, ∃ zd : Nat → Int32, ny < 60 ∧ ky ≤ 60 ∧ Wq D A [(oX9 h0 b0 (nI nb) p0 u0 r0 a0 t0 s0 o0), (oX0 a0 p0 a1 a3 a4 a5 a6 i6 i7 i8 i9 i10 i11 i12 i13 i14 i15 i16 i17 i18 i19), (a1, .inr (6, [.ref a2, .int (nI nx), .int (nI kp)])), (a2, .inl (cA 0, 240, .inl fr)), (a3, .inl (cA 0, 10, .inl fs)), (a4, .inl (cA 0, 10, .inl fp)), (a5, .inl (cA 0, 10, .inl ff)), (a6, .inl (cA 0, 10, .inl fd)), (oX3 p0 pr pb pe pg p1 (nI nd) p2 p3 p4 p5 (nI cn) p6 (nI pq) p7 p8 p9 (nI sc)), (p3, .inl (cA 0, 10, .inl fam)), (p5, .inl (cA 0, 10, .inl fby)), (p9, .inl (cA 0, 10, .inl fen)), (p7, .inl (cA 0, 350, .inl fst)), (p8, .inl (cA 0, 350, .inl fop)), (oX0 t0 tq t1 t3 t4 t5 t6 z6 z7 z8 z9 z10 z11 z12 z13 z14 z15 z16 z17 z18 z19), (t1, .inr (6, [.ref t2, .int (nI ny), .int (nI ky)])), (t2, .inl (cA 0, 240, .inl zr)), (t3, .inl (cA 0, 10, .inl zs)), (t4, .inl (cA 0, 10, .inl zp)), (t5, .inl (cA 0, 10, .inl zf)), (t6, .inl (cA 0, 10, .inl zd))] t) A) (vx_X (fun _ : Unit => True) (fun E _ t => (E = "java/lang/IllegalArgumentException") ∧ Wq D A [(oX9 h0 b0 (nI nb) p0 u0 r0 a0 t0 s0 o0), (oX0 a0 p0 a1 a3 a4 a5 a6 i6 i7 i8 i9 i10 i11 i12 i13 i14 i15 i16 i17 i18 i19), (a1, .inr (6, [.ref a2, .int (nI nx), .int (nI kp)])), (a2, .inl (cA 0, 240, .inl fr)), (a3, .inl (cA 0, 10, .inl fs)), (a4, .inl (cA 0, 10, .inl fp)), (a5, .inl (cA 0, 10, .inl ff)), (a6, .inl (cA 0, 10, .inl fd)), (oX3 p0 pr pb pe pg p1 (nI nd) p2 p3 p4 p5 (nI cn) p6 (nI pq) p7 p8 p9 (nI sc)), (p3, .inl (cA 0, 10, .inl fam)), (p5, .inl (cA 0, 10, .inl fby)), (p9, .inl (cA 0, 10, .inl fen)), (p7, .inl (cA 0, 350, .inl fst)), (p8, .inl (cA 0, 350, .inl fop)), (oX0 t0 tp t1 t3 t4 t5 t6 y6 y7 y8 y9 y10 y11 y12 y13 y14 y15 y16 y17 y18 y19), (t1, .inr (6, [.ref t2, .int (nI nt), .int (nI kt)])), (t2, .inl (cA 0, 240, .inl yr)), (t3, .inl (cA 0, 10, .inl ys)), (t4, .inl (cA 0, 10, .inl yp)), (t5, .inl (cA 0, 10, .inl yf)), (t6, .inl (cA 0, 10, .inl yd))] t) A) ([.ref h0, .int i] : List Value).toArray s 1 6 A) (F0 m 20 ls []) := by
      intro n1
      induction n1 with
      | zero =>
        intro i1 u7_6_1 u7_7_1 u7_8_1 u7_9_1 u7_10_1 u7_11_1 u7_12_1 u7_13_1 u7_14_1 u7_15_1 u7_16_1 u7_17_1 u7_18_1 u7_19_1 ni ki f9_1 f10_1 f11_1 f12_1 f13_1 H locs ls hi1 hv0_1 hv1_1 hP hD hS hl
        obtain rfl : qn1 = i1 := by omega
        refine lv_iload_n hx hb dX9_shortDay_20 rfl (lv_at hl 0 rfl) ?_
        refine lv_iload_n hx hb dX9_shortDay_21 rfl (lv_at hl 2 rfl) ?_
        refine lv_icmp_ge (tgt := 56) hx hb dX9_shortDay_22 (by decide) (fun c10 => ?_) (fun c9 => absurd (nI_le (a := qn1) (b := qn1) (show qn1 ≤ qn1 by omega) (by omega)) c9)
        refine lv_iconst (v := (-1)) hx hb dX9_shortDay_56 (by decide) ?_
        obtain ⟨hP9, hD9⟩ := PDq.sub (ws' := [(oX9 h0 b0 (nI nb) p0 u0 r0 a0 t0 s0 o0), (oX0 a0 p0 a1 a3 a4 a5 a6 i6 i7 i8 i9 i10 i11 i12 i13 i14 i15 i16 i17 i18 i19), (a1, .inr (6, [.ref a2, .int (nI nx), .int (nI kp)])), (a2, .inl (cA 0, 240, .inl fr)), (a3, .inl (cA 0, 10, .inl fs)), (a4, .inl (cA 0, 10, .inl fp)), (a5, .inl (cA 0, 10, .inl ff)), (a6, .inl (cA 0, 10, .inl fd)), (oX3 p0 pr pb pe pg p1 (nI nd) p2 p3 p4 p5 (nI cn) p6 (nI pq) p7 p8 p9 (nI sc)), (p3, .inl (cA 0, 10, .inl fam)), (p5, .inl (cA 0, 10, .inl fby)), (p9, .inl (cA 0, 10, .inl fen)), (p7, .inl (cA 0, 350, .inl fst)), (p8, .inl (cA 0, 350, .inl fop)), (oX0 t0 p0 t1 t3 t4 t5 t6 u7_6_1 u7_7_1 u7_8_1 u7_9_1 u7_10_1 u7_11_1 u7_12_1 u7_13_1 u7_14_1 u7_15_1 u7_16_1 u7_17_1 u7_18_1 u7_19_1), (t1, .inr (6, [.ref t2, .int (nI ni), .int (nI ki)])), (t2, .inl (cA 0, 240, .inl f9_1)), (t3, .inl (cA 0, 10, .inl f10_1)), (t4, .inl (cA 0, 10, .inl f11_1)), (t5, .inl (cA 0, 10, .inl f12_1)), (t6, .inl (cA 0, 10, .inl f13_1))]) hP hD [0, 14, 15, 16, 17, 18, 19, 20, 1, 2, 3, 4, 5, 6, 7, 8, 9, 10, 11, 12, 13] (by decide +kernel) rfl
        refine W.widen (k := 1) (n := 6) (Nat.le_of_ble_eq_true rfl) (Nat.le_of_ble_eq_true rfl) ?_
        exact vx_ret (W.iret (v := (-1)) hx hb hr (fun t ht hW => ⟨⟨(-1), (), rfl, trivial, p0, ni, ki, u7_6_1, u7_7_1, u7_8_1, u7_12_1, u7_13_1, u7_14_1, u7_15_1, u7_16_1, u7_17_1, u7_18_1, u7_19_1, u7_9_1, u7_10_1, u7_11_1, f9_1, f10_1, f11_1, f12_1, f13_1, hv0_1, hv1_1, by rw [ht]; exact hP9, hD9⟩, hS.F ht⟩) hS.2.2 dX9_shortDay_57)
      | succ n1 ih1 =>
        intro i1 u7_6_1 u7_7_1 u7_8_1 u7_9_1 u7_10_1 u7_11_1 u7_12_1 u7_13_1 u7_14_1 u7_15_1 u7_16_1 u7_17_1 u7_18_1 u7_19_1 ni ki f9_1 f10_1 f11_1 f12_1 f13_1 H locs ls hi1 hv0_1 hv1_1 hP hD hS hl
        refine lv_iload_n hx hb dX9_shortDay_20 rfl (lv_at hl 0 rfl) ?_
        refine lv_iload_n hx hb dX9_shortDay_21 rfl (lv_at hl 2 rfl) ?_
        refine lv_icmp_ge (tgt := 56) hx hb dX9_shortDay_22 (by decide) (fun c9 => absurd c9 (nI_ge (a := i1) (b := qn1) (show i1 < qn1 by omega) (by omega))) (fun c11 => ?_)
        refine lv_aload_n hx hb dX9_shortDay_25 rfl (lv_at hl 1 rfl) ?_
        refine va_get (D := D) (ci := 10) (v := .ref t0) (C := RX9) (T := TX9) (N := 9) hx hb hts inX9 hown hK hP 0 rfl rfl 6 (by decide) (hts (.fieldLink RX9 39 "EscrowDesk" "trial" "LEscrowDesk$Account;") (by decide +kernel)) (fun _ h9 => h9) rfl dX9_shortDay_26 ?_
        obtain ⟨hPc, hDc, hFc⟩ := PDq.cut (wc := [(oX0 t0 p0 t1 t3 t4 t5 t6 u7_6_1 u7_7_1 u7_8_1 u7_9_1 u7_10_1 u7_11_1 u7_12_1 u7_13_1 u7_14_1 u7_15_1 u7_16_1 u7_17_1 u7_18_1 u7_19_1), (t1, .inr (6, [.ref t2, .int (nI ni), .int (nI ki)])), (t2, .inl (cA 0, 240, .inl f9_1)), (t3, .inl (cA 0, 10, .inl f10_1)), (t4, .inl (cA 0, 10, .inl f11_1)), (t5, .inl (cA 0, 10, .inl f12_1)), (t6, .inl (cA 0, 10, .inl f13_1)), (oX3 p0 pr pb pe pg p1 (nI nd) p2 p3 p4 p5 (nI cn) p6 (nI pq) p7 p8 p9 (nI sc)), (p3, .inl (cA 0, 10, .inl fam)), (p5, .inl (cA 0, 10, .inl fby)), (p9, .inl (cA 0, 10, .inl fen)), (p7, .inl (cA 0, 350, .inl fst)), (p8, .inl (cA 0, 350, .inl fop))]) hP hD hS hA [7, 8, 9, 10, 11, 12, 13, 1, 2, 3, 4, 5, 6] (by decide +kernel) rfl
        refine va_callv (va_runV (As := []) (rest := []) ⟨hx, hb, hml, hown, hts⟩ (s_liveDay l D cA sa t0 t1 t2 t3 t4 t5 t6 p0 u7_6_1 u7_7_1 u7_8_1 u7_12_1 u7_13_1 u7_14_1 u7_15_1 u7_16_1 u7_17_1 u7_18_1 u7_19_1 u7_9_1 u7_10_1 u7_11_1 ni ki f9_1 p1 p2 p3 p4 p5 p6 p7 p8 p9 cn pq nd sc pr pb pe pg f10_1 f11_1 f12_1 f13_1 fam fby fen fst fop H.size hv0_1 hv1_1 hcn hpq hnd hsc hby hen) (cwV 0 hts gX9_shortDay_X0_liveDay rfl rfl rfl (by decide +kernel) ⟨(Nat.le_of_ble_eq_true rfl), (Nat.le_of_ble_eq_true rfl)⟩) ⟨Wd.blind, va_recv hK hPc (ci := 4) (q0 := 0) rfl rfl, fun U hU hW => ⟨rfl, Wd.call hPc hDc hK hC hZ hS hFc U hU hW⟩⟩ rfl rfl hl.1 rfl (lv_room (Nat.le_of_ble_eq_true rfl)) dX9_shortDay_29 ⟨(Nat.le_of_ble_eq_true rfl), (Nat.le_of_ble_eq_true rfl)⟩) hS (fun q _ h => hFc q h) hFc (fun u t H1 locs ht hvm hw hB hz1 hk1 hS => ?_)
        obtain ⟨zn12, zn13, zn14, zn15, zn16, zn17, zn18, zn19, zn20, zn21, zn22, zn23, zn24, zn25, qn26, qn27, fn28, fn29, fn30, fn31, fn32, hn33, hn34, hP1, hD1⟩ := hB
        rw [ht] at hP1
        obtain ⟨hP, hD⟩ := PDq.join (w := [(oX9 h0 b0 (nI nb) p0 u0 r0 a0 t0 s0 o0), (oX0 a0 p0 a1 a3 a4 a5 a6 i6 i7 i8 i9 i10 i11 i12 i13 i14 i15 i16 i17 i18 i19), (a1, .inr (6, [.ref a2, .int (nI nx), .int (nI kp)])), (a2, .inl (cA 0, 240, .inl fr)), (a3, .inl (cA 0, 10, .inl fs)), (a4, .inl (cA 0, 10, .inl fp)), (a5, .inl (cA 0, 10, .inl ff)), (a6, .inl (cA 0, 10, .inl fd)), (oX0 t0 p0 t1 t3 t4 t5 t6 zn12 zn13 zn14 zn23 zn24 zn25 zn15 zn16 zn17 zn18 zn19 zn20 zn21 zn22), (t1, .inr (6, [.ref t2, .int (nI qn26), .int (nI qn27)])), (t2, .inl (cA 0, 240, .inl fn28)), (t3, .inl (cA 0, 10, .inl fn29)), (t4, .inl (cA 0, 10, .inl fn30)), (t5, .inl (cA 0, 10, .inl fn31)), (t6, .inl (cA 0, 10, .inl fn32)), (oX3 p0 pr pb pe pg p1 (nI nd) p2 p3 p4 p5 (nI cn) p6 (nI pq) p7 p8 p9 (nI sc)), (p3, .inl (cA 0, 10, .inl fam)), (p5, .inl (cA 0, 10, .inl fby)), (p9, .inl (cA 0, 10, .inl fen)), (p7, .inl (cA 0, 350, .inl fst)), (p8, .inl (cA 0, 350, .inl fop))]) 8 hP hD [7, 8, 9, 10, 11, 12, 13, 1, 2, 3, 4, 5, 6] [0, 14, 15, 16, 17, 18, 19, 20] rfl rfl (by decide) (by decide +kernel) hk1 hFc hP1 hD1 rfl
        generalize H1 = H at hP hS ⊢
        refine lv_aload_n hx hb dX9_shortDay_32 rfl (lv_at hl 1 rfl) ?_
        refine va_get (D := D) (ci := 10) (v := .ref t0) (C := RX9) (T := TX9) (N := 9) hx hb hts inX9 hown hK hP 0 rfl rfl 6 (by decide) (hts (.fieldLink RX9 39 "EscrowDesk" "trial" "LEscrowDesk$Account;") (by decide +kernel)) (fun _ h9 => h9) rfl dX9_shortDay_33 ?_
        obtain ⟨hPc, hDc, hFc⟩ := PDq.cut (wc := [(oX0 t0 p0 t1 t3 t4 t5 t6 zn12 zn13 zn14 zn23 zn24 zn25 zn15 zn16 zn17 zn18 zn19 zn20 zn21 zn22), (oX3 p0 pr pb pe pg p1 (nI nd) p2 p3 p4 p5 (nI cn) p6 (nI pq) p7 p8 p9 (nI sc)), (t3, .inl (cA 0, 10, .inl fn29)), (t4, .inl (cA 0, 10, .inl fn30)), (p3, .inl (cA 0, 10, .inl fam)), (t6, .inl (cA 0, 10, .inl fn32))]) hP hD hS hA [8, 15, 11, 12, 16, 14] (by decide) rfl
        refine va_calli (va_runV (As := []) (rest := []) ⟨hx, hb, hml, hown, hts⟩ (s_isShort l D cA sa t0 t1 t3 t4 t5 t6 p0 zn12 zn13 zn14 zn15 zn16 zn17 zn18 zn19 zn20 zn21 zn22 zn23 zn24 zn25 p1 p2 p3 p4 p5 p6 p7 p8 p9 cn pq nd sc pr pb pe pg fn29 fn30 fn32 fam H.size hcn hpq hnd hsc) (cwV 0 hts gX9_shortDay_X0_isShort rfl rfl rfl (by decide +kernel) ⟨(Nat.le_of_ble_eq_true rfl), (Nat.le_of_ble_eq_true rfl)⟩) ⟨Wd.blind, va_recv hK hPc (ci := 4) (q0 := 0) rfl rfl, fun U hU hW => ⟨rfl, Wd.call hPc hDc hK hC hZ hS hFc U hU hW⟩⟩ rfl rfl hl.1 rfl (lv_room (Nat.le_of_ble_eq_true rfl)) dX9_shortDay_36 ⟨(Nat.le_of_ble_eq_true rfl), (Nat.le_of_ble_eq_true rfl)⟩) hS (fun q _ h => hFc q h) hFc (fun rn35 u t H1 locs ht hvm hw hB hz1 hk1 hS => ?_)
        obtain ⟨hP1, hD1⟩ := hB
        rw [ht] at hP1
        obtain ⟨hP, hD⟩ := PDq.join (w := [(oX9 h0 b0 (nI nb) p0 u0 r0 a0 t0 s0 o0), (oX0 a0 p0 a1 a3 a4 a5 a6 i6 i7 i8 i9 i10 i11 i12 i13 i14 i15 i16 i17 i18 i19), (a1, .inr (6, [.ref a2, .int (nI nx), .int (nI kp)])), (a2, .inl (cA 0, 240, .inl fr)), (a3, .inl (cA 0, 10, .inl fs)), (a4, .inl (cA 0, 10, .inl fp)), (a5, .inl (cA 0, 10, .inl ff)), (a6, .inl (cA 0, 10, .inl fd)), (t1, .inr (6, [.ref t2, .int (nI qn26), .int (nI qn27)])), (t2, .inl (cA 0, 240, .inl fn28)), (t5, .inl (cA 0, 10, .inl fn31)), (p5, .inl (cA 0, 10, .inl fby)), (p9, .inl (cA 0, 10, .inl fen)), (p7, .inl (cA 0, 350, .inl fst)), (p8, .inl (cA 0, 350, .inl fop)), (oX0 t0 p0 t1 t3 t4 t5 t6 zn12 zn13 zn14 zn23 zn24 zn25 zn15 zn16 zn17 zn18 zn19 zn20 zn21 zn22), (oX3 p0 pr pb pe pg p1 (nI nd) p2 p3 p4 p5 (nI cn) p6 (nI pq) p7 p8 p9 (nI sc)), (t3, .inl (cA 0, 10, .inl fn29)), (t4, .inl (cA 0, 10, .inl fn30)), (p3, .inl (cA 0, 10, .inl fam)), (t6, .inl (cA 0, 10, .inl fn32))]) 15 hP hD [8, 15, 11, 12, 16, 14] [0, 1, 2, 3, 4, 5, 6, 7, 9, 10, 13, 17, 18, 19, 20] rfl rfl (by decide +kernel) (by decide +kernel) hk1 hFc hP1 hD1 rfl
        generalize H1 = H at hP hS ⊢
        have hn36 := hw
        refine lv_if_eq (tgt := 50) hx hb dX9_shortDay_39 (by decide) (fun c37 => ?_) (fun c37 => ?_)
        · skip
          refine lv_iinc (v := (nI (i1 + 1))) (lv' := [(2, .int (nI (i1 + 1))), (0, .ref h0), (1, .int (nI qn1))]) hx hb dX9_shortDay_50 hl (k := 0) rfl (nI_1 _) (by decide) rfl (fun ls hl => ?_)
          refine lv_goto (tgt := 20) hx hb dX9_shortDay_53 (by decide) ?_
          obtain ⟨hP9, hD9⟩ := PDq.sub (ws' := [(oX9 h0 b0 (nI nb) p0 u0 r0 a0 t0 s0 o0), (oX3 p0 pr pb pe pg p1 (nI nd) p2 p3 p4 p5 (nI cn) p6 (nI pq) p7 p8 p9 (nI sc)), (p3, .inl (cA 0, 10, .inl fam)), (p5, .inl (cA 0, 10, .inl fby)), (p9, .inl (cA 0, 10, .inl fen)), (p7, .inl (cA 0, 350, .inl fst)), (p8, .inl (cA 0, 350, .inl fop)), (oX0 t0 p0 t1 t3 t4 t5 t6 zn12 zn13 zn14 zn23 zn24 zn25 zn15 zn16 zn17 zn18 zn19 zn20 zn21 zn22), (t1, .inr (6, [.ref t2, .int (nI qn26), .int (nI qn27)])), (t2, .inl (cA 0, 240, .inl fn28)), (t3, .inl (cA 0, 10, .inl fn29)), (t4, .inl (cA 0, 10, .inl fn30)), (t5, .inl (cA 0, 10, .inl fn31)), (t6, .inl (cA 0, 10, .inl fn32)), (oX0 a0 p0 a1 a3 a4 a5 a6 i6 i7 i8 i9 i10 i11 i12 i13 i14 i15 i16 i17 i18 i19), (a1, .inr (6, [.ref a2, .int (nI nx), .int (nI kp)])), (a2, .inl (cA 0, 240, .inl fr)), (a3, .inl (cA 0, 10, .inl fs)), (a4, .inl (cA 0, 10, .inl fp)), (a5, .inl (cA 0, 10, .inl ff)), (a6, .inl (cA 0, 10, .inl fd))]) hP hD [0, 16, 19, 11, 12, 13, 14, 15, 8, 9, 17, 18, 10, 20, 1, 2, 3, 4, 5, 6, 7] (by decide +kernel) rfl
          exact ih1 (i1 + 1) zn12 zn13 zn14 zn23 zn24 zn25 zn15 zn16 zn17 zn18 zn19 zn20 zn21 zn22 qn26 qn27 fn28 fn29 fn30 fn31 fn32 H _ ls (by omega) hn33 hn34 hP9 hD9 hS (lv_sub hl [0, 1, 2] rfl)
        · skip
          refine lv_aload_n hx hb dX9_shortDay_42 rfl (lv_at hl 1 rfl) ?_
          refine va_get (D := D) (ci := 10) (v := .ref t0) (C := RX9) (T := TX9) (N := 9) hx hb hts inX9 hown hK hP 0 rfl rfl 6 (by decide) (hts (.fieldLink RX9 39 "EscrowDesk" "trial" "LEscrowDesk$Account;") (by decide +kernel)) (fun _ h9 => h9) rfl dX9_shortDay_43 ?_
          refine va_getN (D := D) (ci := 4) (v := .int zn12) (C := RX0) (T := TX0) (N := 20) hx hb hts inX0 hown hK hP 15 rfl rfl 6 (by decide) (hC.f (A := _) (a := RX9) (i := 87) (b := "EscrowDesk$Account") (n := "day") (d := "I") (x := "EscrowDesk") (by decide +kernel)) (fun _ h9 => h9) rfl dX9_shortDay_46 ?_
          obtain ⟨hP9, hD9⟩ := PDq.sub (ws' := [(oX9 h0 b0 (nI nb) p0 u0 r0 a0 t0 s0 o0), (oX0 a0 p0 a1 a3 a4 a5 a6 i6 i7 i8 i9 i10 i11 i12 i13 i14 i15 i16 i17 i18 i19), (a1, .inr (6, [.ref a2, .int (nI nx), .int (nI kp)])), (a2, .inl (cA 0, 240, .inl fr)), (a3, .inl (cA 0, 10, .inl fs)), (a4, .inl (cA 0, 10, .inl fp)), (a5, .inl (cA 0, 10, .inl ff)), (a6, .inl (cA 0, 10, .inl fd)), (oX3 p0 pr pb pe pg p1 (nI nd) p2 p3 p4 p5 (nI cn) p6 (nI pq) p7 p8 p9 (nI sc)), (p3, .inl (cA 0, 10, .inl fam)), (p5, .inl (cA 0, 10, .inl fby)), (p9, .inl (cA 0, 10, .inl fen)), (p7, .inl (cA 0, 350, .inl fst)), (p8, .inl (cA 0, 350, .inl fop)), (oX0 t0 p0 t1 t3 t4 t5 t6 zn12 zn13 zn14 zn23 zn24 zn25 zn15 zn16 zn17 zn18 zn19 zn20 zn21 zn22), (t1, .inr (6, [.ref t2, .int (nI qn26), .int (nI qn27)])), (t2, .inl (cA 0, 240, .inl fn28)), (t3, .inl (cA 0, 10, .inl fn29)), (t4, .inl (cA 0, 10, .inl fn30)), (t5, .inl (cA 0, 10, .inl fn31)), (t6, .inl (cA 0, 10, .inl fn32))]) hP hD [0, 1, 2, 3, 4, 5, 6, 7, 16, 19, 11, 12, 13, 14, 15, 8, 9, 17, 18, 10, 20] (by decide +kernel) rfl
          refine W.widen (k := 1) (n := 6) (Nat.le_of_ble_eq_true rfl) (Nat.le_of_ble_eq_true rfl) ?_
          exact vx_ret (W.iret (v := zn12) hx hb hr (fun t ht hW => ⟨⟨zn12, (), rfl, trivial, p0, qn26, qn27, zn12, zn13, zn14, zn15, zn16, zn17, zn18, zn19, zn20, zn21, zn22, zn23, zn24, zn25, fn28, fn29, fn30, fn31, fn32, hn33, hn34, by rw [ht]; exact hP9, hD9⟩, hS.F ht⟩) hS.2.2 dX9_shortDay_49)
    obtain ⟨hP9, hD9⟩ := PDq.sub (ws' := [(oX9 h0 b0 (nI nb) p0 u0 r0 a0 t0 s0 o0), (oX3 p0 pr pb pe pg p1 (nI nd) p2 p3 p4 p5 (nI cn) p6 (nI pq) p7 p8 p9 (nI sc)), (p3, .inl (cA 0, 10, .inl fam)), (p5, .inl (cA 0, 10, .inl fby)), (p9, .inl (cA 0, 10, .inl fen)), (p7, .inl (cA 0, 350, .inl fst)), (p8, .inl (cA 0, 350, .inl fop)), (oX0 t0 p0 t1 t3 t4 t5 t6 i6 i7 i8 i9 i10 i11 i12 i13 i14 i15 i16 i17 i18 i19), (t1, .inr (6, [.ref t2, .int (nI nx), .int (nI kp)])), (t2, .inl (cA 0, 240, .inl fn9)), (t3, .inl (cA 0, 10, .inl fn5)), (t4, .inl (cA 0, 10, .inl fn6)), (t5, .inl (cA 0, 10, .inl fn7)), (t6, .inl (cA 0, 10, .inl fn8)), (oX0 a0 p0 a1 a3 a4 a5 a6 i6 i7 i8 i9 i10 i11 i12 i13 i14 i15 i16 i17 i18 i19), (a1, .inr (6, [.ref a2, .int (nI nx), .int (nI kp)])), (a2, .inl (cA 0, 240, .inl fr)), (a3, .inl (cA 0, 10, .inl fs)), (a4, .inl (cA 0, 10, .inl fp)), (a5, .inl (cA 0, 10, .inl ff)), (a6, .inl (cA 0, 10, .inl fd))]) hP hD [0, 1, 2, 3, 4, 5, 6, 7, 8, 9, 10, 11, 12, 13, 14, 15, 16, 17, 18, 19, 20] (by decide +kernel) rfl
    exact loop1 (qn1 - 0) 0 i6 i7 i8 i9 i10 i11 i12 i13 i14 i15 i16 i17 i18 i19 nx kp fn9 fn5 fn6 fn7 fn8 _ _ ls (by omega) hnx hkp hP9 hD9 hS (lv_sub hl [0, 1, 2] rfl)

set_option maxHeartbeats 4000000 in
set_option maxRecDepth 100000 in
/-- splitPayment -/
theorem s_splitPayment (l : Launch) (D : va_G) (cA : Nat → ClassId) (sa : Nat → Nat) (h0 : Nat) (b0 : Nat) (nb : Nat) (p0 : Nat) (u0 : Nat) (r0 : Nat) (a0 : Nat) (t0 : Nat) (s0 : Nat) (o0 : Nat) (a1 : Nat) (a3 : Nat) (a4 : Nat) (a5 : Nat) (a6 : Nat) (i6 : Int32) (i7 : Int32) (i8 : Int32) (i12 : Int32) (i13 : Int32) (i14 : Int32) (i15 : Int32) (i16 : Int32) (i17 : Int32) (i18 : Int32) (i19 : Int32) (i9 : Int64) (i10 : Int64) (i11 : Int64) (p1 : Nat) (p2 : Nat) (p3 : Nat) (p4 : Nat) (p5 : Nat) (p6 : Nat) (p7 : Nat) (p8 : Nat) (p9 : Nat) (cn : Nat) (pq : Nat) (nd : Nat) (sc : Nat) (pr : Int32) (pb : Int32) (pe : Int32) (pg : Int32) (fs : Nat → Int32) (fp : Nat → Int32) (fam : Nat → Int32) (ff : Nat → Int32) (i : Int32) (j : Int32) (sz : Nat) (hl9 : l.stackTraces = false) (hcn : cn ≤ 10) (hpq : pq ≤ 8) (hnd : nd ≤ 6) (hsc : sc ≤ 350) : vx_Met l yX9_splitPayment wsX9_splitPayment ({ frames := 8, cells := 3, slots := 18, locals := 132 }) (va_Pc [.ref h0, .int i, .int j] (Wd D cA sa [(oX9 h0 b0 (nI nb) p0 u0 r0 a0 t0 s0 o0), (oX0 a0 p0 a1 a3 a4 a5 a6 i6 i7 i8 i9 i10 i11 i12 i13 i14 i15 i16 i17 i18 i19), (oX3 p0 pr pb pe pg p1 (nI nd) p2 p3 p4 p5 (nI cn) p6 (nI pq) p7 p8 p9 (nI sc)), (a3, .inl (cA 0, 10, .inl fs)), (a4, .inl (cA 0, 10, .inl fp)), (p3, .inl (cA 0, 10, .inl fam)), (a5, .inl (cA 0, 10, .inl ff))] sz)) (va_Qi (fun (r : Int32) (_ : Unit) => True) (fun (_ : Unit) t => Wq D (va_A [(oX9 h0 b0 (nI nb) p0 u0 r0 a0 t0 s0 o0), (oX0 a0 p0 a1 a3 a4 a5 a6 i6 i7 i8 i9 i10 i11 i12 i13 i14 i15 i16 i17 i18 i19), (oX3 p0 pr pb pe pg p1 (nI nd) p2 p3 p4 p5 (nI cn) p6 (nI pq) p7 p8 p9 (nI sc)), (a3, .inl (cA 0, 10, .inl fs)), (a4, .inl (cA 0, 10, .inl fp)), (p3, .inl (cA 0, 10, .inl fam)), (a5, .inl (cA 0, 10, .inl ff))] sz) [(oX9 h0 b0 (nI nb) p0 u0 r0 a0 t0 s0 o0), (oX0 a0 p0 a1 a3 a4 a5 a6 i6 i7 i8 i9 i10 i11 i12 i13 i14 i15 i16 i17 i18 i19), (oX3 p0 pr pb pe pg p1 (nI nd) p2 p3 p4 p5 (nI cn) p6 (nI pq) p7 p8 p9 (nI sc)), (a3, .inl (cA 0, 10, .inl fs)), (a4, .inl (cA 0, 10, .inl fp)), (p3, .inl (cA 0, 10, .inl fam)), (a5, .inl (cA 0, 10, .inl ff))] t) (va_A [(oX9 h0 b0 (nI nb) p0 u0 r0 a0 t0 s0 o0), (oX0 a0 p0 a1 a3 a4 a5 a6 i6 i7 i8 i9 i10 i11 i12 i13 i14 i15 i16 i17 i18 i19), (oX3 p0 pr pb pe pg p1 (nI nd) p2 p3 p4 p5 (nI cn) p6 (nI pq) p7 p8 p9 (nI sc)), (a3, .inl (cA 0, 10, .inl fs)), (a4, .inl (cA 0, 10, .inl fp)), (p3, .inl (cA 0, 10, .inl fam)), (a5, .inl (cA 0, 10, .inl ff))] sz)) (vx_X (fun _ : Unit => True) (fun E _ t => (E = "java/lang/IndexOutOfBoundsException" ∨ E = "java/lang/IllegalArgumentException" ∨ E = "java/lang/IllegalStateException") ∧ Wq D (va_A [(oX9 h0 b0 (nI nb) p0 u0 r0 a0 t0 s0 o0), (oX0 a0 p0 a1 a3 a4 a5 a6 i6 i7 i8 i9 i10 i11 i12 i13 i14 i15 i16 i17 i18 i19), (oX3 p0 pr pb pe pg p1 (nI nd) p2 p3 p4 p5 (nI cn) p6 (nI pq) p7 p8 p9 (nI sc)), (a3, .inl (cA 0, 10, .inl fs)), (a4, .inl (cA 0, 10, .inl fp)), (p3, .inl (cA 0, 10, .inl fam)), (a5, .inl (cA 0, 10, .inl ff))] sz) [(oX9 h0 b0 (nI nb) p0 u0 r0 a0 t0 s0 o0), (oX0 a0 p0 a1 a3 a4 a5 a6 i6 i7 i8 i9 i10 i11 i12 i13 i14 i15 i16 i17 i18 i19), (oX3 p0 pr pb pe pg p1 (nI nd) p2 p3 p4 p5 (nI cn) p6 (nI pq) p7 p8 p9 (nI sc)), (a3, .inl (cA 0, 10, .inl fs)), (a4, .inl (cA 0, 10, .inl fp)), (p3, .inl (cA 0, 10, .inl fam)), (a5, .inl (cA 0, 10, .inl ff))] t) (va_A [(oX9 h0 b0 (nI nb) p0 u0 r0 a0 t0 s0 o0), (oX0 a0 p0 a1 a3 a4 a5 a6 i6 i7 i8 i9 i10 i11 i12 i13 i14 i15 i16 i17 i18 i19), (oX3 p0 pr pb pe pg p1 (nI nd) p2 p3 p4 p5 (nI cn) p6 (nI pq) p7 p8 p9 (nI sc)), (a3, .inl (cA 0, 10, .inl fs)), (a4, .inl (cA 0, 10, .inl fp)), (p3, .inl (cA 0, 10, .inl fam)), (a5, .inl (cA 0, 10, .inl ff))] sz)) 3 18 (va_A [(oX9 h0 b0 (nI nb) p0 u0 r0 a0 t0 s0 o0), (oX0 a0 p0 a1 a3 a4 a5 a6 i6 i7 i8 i9 i10 i11 i12 i13 i14 i15 i16 i17 i18 i19), (oX3 p0 pr pb pe pg p1 (nI nd) p2 p3 p4 p5 (nI cn) p6 (nI pq) p7 p8 p9 (nI sc)), (a3, .inl (cA 0, 10, .inl fs)), (a4, .inl (cA 0, 10, .inl fp)), (p3, .inl (cA 0, 10, .inl fam)), (a5, .inl (cA 0, 10, .inl ff))] sz) := by
  refine vx_ofW (cc := cX9_splitPayment) (maxL := 3) (ret := (some .int)) (by decide) rfl ?_
  intro p e s m args below meth c s₁ B hml hno hv
  obtain ⟨rfl, hsz, hP, hK, hD0, hC, hZ⟩ := hv
  have hx := B.exec
  have hb := B.bytes
  have hr := B.returns
  have hts := atoms_spec (ws := wsX9_splitPayment) B.pre
  have hown : s.vm.findClass RX9 = some m.cls := findClass_of_methodNamed B.named
  have hlocks := B.notSynchronized
  subst hsz
  have hD := hD0.self (sz := s.heap.size)
  generalize hAe : va_A [(oX9 h0 b0 (nI nb) p0 u0 r0 a0 t0 s0 o0), (oX0 a0 p0 a1 a3 a4 a5 a6 i6 i7 i8 i9 i10 i11 i12 i13 i14 i15 i16 i17 i18 i19), (oX3 p0 pr pb pe pg p1 (nI nd) p2 p3 p4 p5 (nI cn) p6 (nI pq) p7 p8 p9 (nI sc)), (a3, .inl (cA 0, 10, .inl fs)), (a4, .inl (cA 0, 10, .inl fp)), (p3, .inl (cA 0, 10, .inl fam)), (a5, .inl (cA 0, 10, .inl ff))] s.heap.size = A at hD hZ ⊢
  have hA : ∀ q : Nat, s.heap.size ≤ q → A q := fun q h => by rw [← hAe]; exact Or.inr h
  have hS : va_S A s.heap s.heap [] := va_S.rf
  have hP : va_P D vwCl [(oX9 h0 b0 (nI nb) p0 u0 r0 a0 t0 s0 o0), (oX0 a0 p0 a1 a3 a4 a5 a6 i6 i7 i8 i9 i10 i11 i12 i13 i14 i15 i16 i17 i18 i19), (oX3 p0 pr pb pe pg p1 (nI nd) p2 p3 p4 p5 (nI cn) p6 (nI pq) p7 p8 p9 (nI sc)), (a3, .inl (cA 0, 10, .inl fs)), (a4, .inl (cA 0, 10, .inl fp)), (p3, .inl (cA 0, 10, .inl fam)), (a5, .inl (cA 0, 10, .inl ff))] s.heap := hP
  have hl := lv_entry ([.ref h0, .int i, .int j]) (n := 3) (Nat.le_of_ble_eq_true rfl)
  rw [lg_entry_eq]
  generalize (lg_sl ([.ref h0, .int i, .int j]) ++ List.replicate (3 - (lg_sl ([.ref h0, .int i, .int j])).length) Slot.unset).toArray = ls at hl ⊢
  have hl : lv_has ls 3 [(0, .ref h0), (1, .int i), (2, .int j)] := hl
  have inX9 : ∀ w ∈ u_ws RX9 TX9 9, w ∈ wsX9_splitPayment := by decide +kernel
  refine lv_aload_n hx hb dX9_splitPayment_0 rfl (lv_at hl 0 rfl) ?_
  refine lv_iload_n hx hb dX9_splitPayment_1 rfl (lv_at hl 1 rfl) ?_
  obtain ⟨hPc, hDc, hFc⟩ := PDq.cut (wc := [(oX9 h0 b0 (nI nb) p0 u0 r0 a0 t0 s0 o0), (oX3 p0 pr pb pe pg p1 (nI nd) p2 p3 p4 p5 (nI cn) p6 (nI pq) p7 p8 p9 (nI sc))]) hP hD hS hA [0, 2] (by decide) rfl
  refine vx_callv (vx_runV (As := [.int i]) (rest := []) ⟨hx, hb, hml, hown, hts⟩ (s_needMilestone l D cA sa h0 b0 nb p0 u0 r0 a0 t0 s0 o0 p1 p2 p3 p4 p5 p6 p7 p8 p9 cn pq nd sc pr pb pe pg i s.heap.size hl9 hcn hpq hnd hsc) (cwV 1 hts gX9_splitPayment_X9_needMilestone rfl rfl rfl (by decide +kernel) ⟨(Nat.le_of_ble_eq_true rfl), (Nat.le_of_ble_eq_true rfl)⟩) ⟨Wd.blind, va_recv hK hPc (ci := 10) (q0 := 0) rfl rfl, fun U hU hW => ⟨rfl, Wd.call hPc hDc hK hC hZ hS hFc U hU hW⟩⟩ rfl rfl hl.1 rfl (lv_room (Nat.le_of_ble_eq_true rfl)) dX9_splitPayment_2 ⟨(Nat.le_of_ble_eq_true rfl), (Nat.le_of_ble_eq_true rfl)⟩) hS (fun q _ h => hFc q h) hFc (fun q _ h => hFc q h) (fun E ce q9 u t H1 locs ht hvm hpx hE hz1 hk1 hS hcell hv9 hcl => ?_) (fun u t H1 locs ht hvm hw hB hz1 hk1 hS => ?_)
  · skip
    obtain ⟨hE, hP1, hD1⟩ := hE
    rw [ht] at hP1
    obtain ⟨hP, hD⟩ := PDq.join (w := [(oX0 a0 p0 a1 a3 a4 a5 a6 i6 i7 i8 i9 i10 i11 i12 i13 i14 i15 i16 i17 i18 i19), (a3, .inl (cA 0, 10, .inl fs)), (a4, .inl (cA 0, 10, .inl fp)), (p3, .inl (cA 0, 10, .inl fam)), (a5, .inl (cA 0, 10, .inl ff)), (oX9 h0 b0 (nI nb) p0 u0 r0 a0 t0 s0 o0), (oX3 p0 pr pb pe pg p1 (nI nd) p2 p3 p4 p5 (nI cn) p6 (nI pq) p7 p8 p9 (nI sc))]) 5 hP hD [0, 2] [1, 3, 4, 5, 6] rfl rfl (by decide) (by decide) hk1 hFc hP1 hD1 rfl
    generalize H1 = H at hP hS hcell ⊢
    obtain ⟨hP9, hD9⟩ := PDq.sub (ws' := [(oX9 h0 b0 (nI nb) p0 u0 r0 a0 t0 s0 o0), (oX0 a0 p0 a1 a3 a4 a5 a6 i6 i7 i8 i9 i10 i11 i12 i13 i14 i15 i16 i17 i18 i19), (oX3 p0 pr pb pe pg p1 (nI nd) p2 p3 p4 p5 (nI cn) p6 (nI pq) p7 p8 p9 (nI sc)), (a3, .inl (cA 0, 10, .inl fs)), (a4, .inl (cA 0, 10, .inl fp)), (p3, .inl (cA 0, 10, .inl fam)), (a5, .inl (cA 0, 10, .inl ff))]) hP hD [5, 0, 6, 1, 2, 3, 4] (by decide) rfl
    exact vx_out (fun x h => (hno x h).elim) hlocks hcell hv9 hcl (fun t ht hvm => ⟨(), trivial, ⟨(by rw [hE]; simp), by rw [ht]; exact hP9, hD9⟩, hS.F ht⟩) hS.2.2 (Nat.le_of_ble_eq_true rfl) (Nat.le_of_ble_eq_true rfl)
  · skip
    obtain ⟨qn1, hn2, hn3, hP1, hD1⟩ := hB
    rw [ht] at hP1
    obtain ⟨hP, hD⟩ := PDq.join (w := [(oX0 a0 p0 a1 a3 a4 a5 a6 i6 i7 i8 i9 i10 i11 i12 i13 i14 i15 i16 i17 i18 i19), (a3, .inl (cA 0, 10, .inl fs)), (a4, .inl (cA 0, 10, .inl fp)), (p3, .inl (cA 0, 10, .inl fam)), (a5, .inl (cA 0, 10, .inl ff)), (oX9 h0 b0 (nI nb) p0 u0 r0 a0 t0 s0 o0), (oX3 p0 pr pb pe pg p1 (nI nd) p2 p3 p4 p5 (nI cn) p6 (nI pq) p7 p8 p9 (nI sc))]) 5 hP hD [0, 2] [1, 3, 4, 5, 6] rfl rfl (by decide) (by decide) hk1 hFc hP1 hD1 rfl
    generalize H1 = H at hP hS ⊢
    rw [hn3] at hl
    have hl : lv_has ls 3 [(0, .ref h0), (1, .int (nI qn1)), (2, .int j)] := hl
    refine lv_iload_n hx hb dX9_splitPayment_5 rfl (lv_at hl 2 rfl) ?_
    refine lv_iconst (v := 0) hx hb dX9_splitPayment_6 (by decide) ?_
    refine lv_sipush (v := 1000) hx hb dX9_splitPayment_7 (by decide) ?_
    obtain ⟨hPc, hDc, hFc⟩ := PDq.cut (wc := []) hP hD hS hA [] (by decide) rfl
    refine vx_callv (vx_runS (As := [.int j, .int 0, .int 1000]) (rest := []) ⟨hx, hb, hml, hown, hts⟩ (s_needRange l D cA sa j 0 1000 H.size hl9) (va_cwS 3 hts gX9_splitPayment_X9_needRange rfl rfl rfl (by decide +kernel) ⟨(Nat.le_of_ble_eq_true rfl), (Nat.le_of_ble_eq_true rfl)⟩) ⟨Wd.blind, fun U hU hW => ⟨rfl, Wd.call hPc hDc hK hC hZ hS hFc U hU hW⟩⟩ rfl rfl hl.1 rfl (lv_room (Nat.le_of_ble_eq_true rfl)) dX9_splitPayment_10 ⟨(Nat.le_of_ble_eq_true rfl), (Nat.le_of_ble_eq_true rfl)⟩) hS (fun q _ h => hFc q h) hFc (fun q _ h => hFc q h) (fun E ce q9 u t H1 locs ht hvm hpx hE hz1 hk1 hS hcell hv9 hcl => ?_) (fun u t H1 locs ht hvm hw hB hz1 hk1 hS => ?_)
    · skip
      obtain ⟨hE, hP1, hD1⟩ := hE
      rw [ht] at hP1
      obtain ⟨hP, hD⟩ := PDq.join (w := [(oX0 a0 p0 a1 a3 a4 a5 a6 i6 i7 i8 i9 i10 i11 i12 i13 i14 i15 i16 i17 i18 i19), (a3, .inl (cA 0, 10, .inl fs)), (a4, .inl (cA 0, 10, .inl fp)), (p3, .inl (cA 0, 10, .inl fam)), (a5, .inl (cA 0, 10, .inl ff)), (oX9 h0 b0 (nI nb) p0 u0 r0 a0 t0 s0 o0), (oX3 p0 pr pb pe pg p1 (nI nd) p2 p3 p4 p5 (nI cn) p6 (nI pq) p7 p8 p9 (nI sc))]) 7 hP hD [] [0, 1, 2, 3, 4, 5, 6] rfl rfl (by decide) (by decide) hk1 hFc hP1 hD1 rfl
      generalize H1 = H at hP hS hcell ⊢
      obtain ⟨hP9, hD9⟩ := PDq.sub (ws' := [(oX9 h0 b0 (nI nb) p0 u0 r0 a0 t0 s0 o0), (oX0 a0 p0 a1 a3 a4 a5 a6 i6 i7 i8 i9 i10 i11 i12 i13 i14 i15 i16 i17 i18 i19), (oX3 p0 pr pb pe pg p1 (nI nd) p2 p3 p4 p5 (nI cn) p6 (nI pq) p7 p8 p9 (nI sc)), (a3, .inl (cA 0, 10, .inl fs)), (a4, .inl (cA 0, 10, .inl fp)), (p3, .inl (cA 0, 10, .inl fam)), (a5, .inl (cA 0, 10, .inl ff))]) hP hD [5, 0, 6, 1, 2, 3, 4] (by decide) rfl
      exact vx_out (fun x h => (hno x h).elim) hlocks hcell hv9 hcl (fun t ht hvm => ⟨(), trivial, ⟨(by rw [hE]; simp), by rw [ht]; exact hP9, hD9⟩, hS.F ht⟩) hS.2.2 (Nat.le_of_ble_eq_true rfl) (Nat.le_of_ble_eq_true rfl)
    · skip
      obtain ⟨hP1, hD1⟩ := hB
      rw [ht] at hP1
      obtain ⟨hP, hD⟩ := PDq.join (w := [(oX0 a0 p0 a1 a3 a4 a5 a6 i6 i7 i8 i9 i10 i11 i12 i13 i14 i15 i16 i17 i18 i19), (a3, .inl (cA 0, 10, .inl fs)), (a4, .inl (cA 0, 10, .inl fp)), (p3, .inl (cA 0, 10, .inl fam)), (a5, .inl (cA 0, 10, .inl ff)), (oX9 h0 b0 (nI nb) p0 u0 r0 a0 t0 s0 o0), (oX3 p0 pr pb pe pg p1 (nI nd) p2 p3 p4 p5 (nI cn) p6 (nI pq) p7 p8 p9 (nI sc))]) 7 hP hD [] [0, 1, 2, 3, 4, 5, 6] rfl rfl (by decide) (by decide) hk1 hFc hP1 hD1 rfl
      generalize H1 = H at hP hS ⊢
      refine lv_aload_n hx hb dX9_splitPayment_13 rfl (lv_at hl 0 rfl) ?_
      refine lv_iload_n hx hb dX9_splitPayment_14 rfl (lv_at hl 1 rfl) ?_
      obtain ⟨hPc, hDc, hFc⟩ := PDq.cut (wc := [(oX9 h0 b0 (nI nb) p0 u0 r0 a0 t0 s0 o0), (oX0 a0 p0 a1 a3 a4 a5 a6 i6 i7 i8 i9 i10 i11 i12 i13 i14 i15 i16 i17 i18 i19), (a3, .inl (cA 0, 10, .inl fs))]) hP hD hS hA [5, 0, 1] (by decide) rfl
      refine vx_callv (vx_runV (As := [.int (nI qn1)]) (rest := []) ⟨hx, hb, hml, hown, hts⟩ (s_needDispute l D cA sa h0 b0 nb p0 u0 r0 a0 t0 s0 o0 a1 a3 a4 a5 a6 i6 i7 i8 i12 i13 i14 i15 i16 i17 i18 i19 i9 i10 i11 qn1 fs H.size hl9 (by omega)) (cwV 1 hts gX9_splitPayment_X9_needDispute rfl rfl rfl (by decide +kernel) ⟨(Nat.le_of_ble_eq_true rfl), (Nat.le_of_ble_eq_true rfl)⟩) ⟨Wd.blind, va_recv hK hPc (ci := 10) (q0 := 0) rfl rfl, fun U hU hW => ⟨rfl, Wd.call hPc hDc hK hC hZ hS hFc U hU hW⟩⟩ rfl rfl hl.1 rfl (lv_room (Nat.le_of_ble_eq_true rfl)) dX9_splitPayment_15 ⟨(Nat.le_of_ble_eq_true rfl), (Nat.le_of_ble_eq_true rfl)⟩) hS (fun q _ h => hFc q h) hFc (fun q _ h => hFc q h) (fun E ce q9 u t H1 locs ht hvm hpx hE hz1 hk1 hS hcell hv9 hcl => ?_) (fun u t H1 locs ht hvm hw hB hz1 hk1 hS => ?_)
      · skip
        obtain ⟨hE, hP1, hD1⟩ := hE
        rw [ht] at hP1
        obtain ⟨hP, hD⟩ := PDq.join (w := [(a4, .inl (cA 0, 10, .inl fp)), (p3, .inl (cA 0, 10, .inl fam)), (a5, .inl (cA 0, 10, .inl ff)), (oX3 p0 pr pb pe pg p1 (nI nd) p2 p3 p4 p5 (nI cn) p6 (nI pq) p7 p8 p9 (nI sc)), (oX9 h0 b0 (nI nb) p0 u0 r0 a0 t0 s0 o0), (oX0 a0 p0 a1 a3 a4 a5 a6 i6 i7 i8 i9 i10 i11 i12 i13 i14 i15 i16 i17 i18 i19), (a3, .inl (cA 0, 10, .inl fs))]) 4 hP hD [5, 0, 1] [2, 3, 4, 6] rfl rfl (by decide) (by decide) hk1 hFc hP1 hD1 rfl
        generalize H1 = H at hP hS hcell ⊢
        obtain ⟨hP9, hD9⟩ := PDq.sub (ws' := [(oX9 h0 b0 (nI nb) p0 u0 r0 a0 t0 s0 o0), (oX0 a0 p0 a1 a3 a4 a5 a6 i6 i7 i8 i9 i10 i11 i12 i13 i14 i15 i16 i17 i18 i19), (oX3 p0 pr pb pe pg p1 (nI nd) p2 p3 p4 p5 (nI cn) p6 (nI pq) p7 p8 p9 (nI sc)), (a3, .inl (cA 0, 10, .inl fs)), (a4, .inl (cA 0, 10, .inl fp)), (p3, .inl (cA 0, 10, .inl fam)), (a5, .inl (cA 0, 10, .inl ff))]) hP hD [4, 5, 3, 6, 0, 1, 2] (by decide) rfl
        exact vx_out (fun x h => (hno x h).elim) hlocks hcell hv9 hcl (fun t ht hvm => ⟨(), trivial, ⟨(by rw [hE]; simp), by rw [ht]; exact hP9, hD9⟩, hS.F ht⟩) hS.2.2 (Nat.le_of_ble_eq_true rfl) (Nat.le_of_ble_eq_true rfl)
      · skip
        obtain ⟨hP1, hD1⟩ := hB
        rw [ht] at hP1
        obtain ⟨hP, hD⟩ := PDq.join (w := [(a4, .inl (cA 0, 10, .inl fp)), (p3, .inl (cA 0, 10, .inl fam)), (a5, .inl (cA 0, 10, .inl ff)), (oX3 p0 pr pb pe pg p1 (nI nd) p2 p3 p4 p5 (nI cn) p6 (nI pq) p7 p8 p9 (nI sc)), (oX9 h0 b0 (nI nb) p0 u0 r0 a0 t0 s0 o0), (oX0 a0 p0 a1 a3 a4 a5 a6 i6 i7 i8 i9 i10 i11 i12 i13 i14 i15 i16 i17 i18 i19), (a3, .inl (cA 0, 10, .inl fs))]) 4 hP hD [5, 0, 1] [2, 3, 4, 6] rfl rfl (by decide) (by decide) hk1 hFc hP1 hD1 rfl
        generalize H1 = H at hP hS ⊢
        refine lv_aload_n hx hb dX9_splitPayment_18 rfl (lv_at hl 0 rfl) ?_
        refine va_get (D := D) (ci := 10) (v := .ref a0) (C := RX9) (T := TX9) (N := 9) hx hb hts inX9 hown hK hP 4 rfl rfl 5 (by decide) (hts (.fieldLink RX9 35 "EscrowDesk" "account" "LEscrowDesk$Account;") (by decide +kernel)) (fun _ h9 => h9) rfl dX9_splitPayment_19 ?_
        refine lv_iload_n hx hb dX9_splitPayment_22 rfl (lv_at hl 1 rfl) ?_
        obtain ⟨hPc, hDc, hFc⟩ := PDq.cut (wc := [(oX0 a0 p0 a1 a3 a4 a5 a6 i6 i7 i8 i9 i10 i11 i12 i13 i14 i15 i16 i17 i18 i19), (oX3 p0 pr pb pe pg p1 (nI nd) p2 p3 p4 p5 (nI cn) p6 (nI pq) p7 p8 p9 (nI sc)), (a3, .inl (cA 0, 10, .inl fs)), (a4, .inl (cA 0, 10, .inl fp)), (p3, .inl (cA 0, 10, .inl fam)), (a5, .inl (cA 0, 10, .inl ff))]) hP hD hS hA [5, 3, 6, 0, 1, 2] (by decide) rfl
        refine va_calli (va_runV (As := [.int (nI qn1)]) (rest := []) ⟨hx, hb, hml, hown, hts⟩ (s_moneyToSplit l D cA sa a0 a1 a3 a4 a5 a6 p0 i6 i7 i8 i12 i13 i14 i15 i16 i17 i18 i19 i9 i10 i11 p1 p2 p3 p4 p5 p6 p7 p8 p9 cn pq nd sc pr pb pe pg qn1 fs fp ff fam H.size hcn hpq hnd hsc (by omega)) (cwV 1 hts gX9_splitPayment_X0_moneyToSplit rfl rfl rfl (by decide +kernel) ⟨(Nat.le_of_ble_eq_true rfl), (Nat.le_of_ble_eq_true rfl)⟩) ⟨Wd.blind, va_recv hK hPc (ci := 4) (q0 := 0) rfl rfl, fun U hU hW => ⟨rfl, Wd.call hPc hDc hK hC hZ hS hFc U hU hW⟩⟩ rfl rfl hl.1 rfl (lv_room (Nat.le_of_ble_eq_true rfl)) dX9_splitPayment_23 ⟨(Nat.le_of_ble_eq_true rfl), (Nat.le_of_ble_eq_true rfl)⟩) hS (fun q _ h => hFc q h) hFc (fun rn4 u t H1 locs ht hvm hw hB hz1 hk1 hS => ?_)
        obtain ⟨hP1, hD1⟩ := hB
        rw [ht] at hP1
        obtain ⟨hP, hD⟩ := PDq.join (w := [(oX9 h0 b0 (nI nb) p0 u0 r0 a0 t0 s0 o0), (oX0 a0 p0 a1 a3 a4 a5 a6 i6 i7 i8 i9 i10 i11 i12 i13 i14 i15 i16 i17 i18 i19), (oX3 p0 pr pb pe pg p1 (nI nd) p2 p3 p4 p5 (nI cn) p6 (nI pq) p7 p8 p9 (nI sc)), (a3, .inl (cA 0, 10, .inl fs)), (a4, .inl (cA 0, 10, .inl fp)), (p3, .inl (cA 0, 10, .inl fam)), (a5, .inl (cA 0, 10, .inl ff))]) 1 hP hD [5, 3, 6, 0, 1, 2] [4] rfl rfl (by decide) (by decide) hk1 hFc hP1 hD1 rfl
        generalize H1 = H at hP hS ⊢
        refine lv_iload_n hx hb dX9_splitPayment_26 rfl (lv_at hl 2 rfl) ?_
        obtain ⟨hPc, hDc, hFc⟩ := PDq.cut (wc := []) hP hD hS hA [] (by decide) rfl
        refine va_calli (va_runS (As := [.int rn4, .int j]) (rest := []) ⟨hx, hb, hml, hown, hts⟩ (s_partOf l D cA sa rn4 j H.size) (va_cwS 2 hts gX9_splitPayment_X0_partOf rfl rfl rfl (by decide +kernel) ⟨(Nat.le_of_ble_eq_true rfl), (Nat.le_of_ble_eq_true rfl)⟩) ⟨Wd.blind, fun U hU hW => ⟨rfl, Wd.call hPc hDc hK hC hZ hS hFc U hU hW⟩⟩ rfl rfl hl.1 rfl (lv_room (Nat.le_of_ble_eq_true rfl)) dX9_splitPayment_27 ⟨(Nat.le_of_ble_eq_true rfl), (Nat.le_of_ble_eq_true rfl)⟩) hS (fun q _ h => hFc q h) hFc (fun rn5 u t H1 locs ht hvm hw hB hz1 hk1 hS => ?_)
        obtain ⟨hP1, hD1⟩ := hB
        rw [ht] at hP1
        obtain ⟨hP, hD⟩ := PDq.join (w := [(oX9 h0 b0 (nI nb) p0 u0 r0 a0 t0 s0 o0), (oX0 a0 p0 a1 a3 a4 a5 a6 i6 i7 i8 i9 i10 i11 i12 i13 i14 i15 i16 i17 i18 i19), (oX3 p0 pr pb pe pg p1 (nI nd) p2 p3 p4 p5 (nI cn) p6 (nI pq) p7 p8 p9 (nI sc)), (a3, .inl (cA 0, 10, .inl fs)), (a4, .inl (cA 0, 10, .inl fp)), (p3, .inl (cA 0, 10, .inl fam)), (a5, .inl (cA 0, 10, .inl ff))]) 7 hP hD [] [0, 1, 2, 3, 4, 5, 6] rfl rfl (by decide) (by decide) hk1 hFc hP1 hD1 rfl
        generalize H1 = H at hP hS ⊢
        obtain ⟨hP9, hD9⟩ := PDq.sub (ws' := [(oX9 h0 b0 (nI nb) p0 u0 r0 a0 t0 s0 o0), (oX0 a0 p0 a1 a3 a4 a5 a6 i6 i7 i8 i9 i10 i11 i12 i13 i14 i15 i16 i17 i18 i19), (oX3 p0 pr pb pe pg p1 (nI nd) p2 p3 p4 p5 (nI cn) p6 (nI pq) p7 p8 p9 (nI sc)), (a3, .inl (cA 0, 10, .inl fs)), (a4, .inl (cA 0, 10, .inl fp)), (p3, .inl (cA 0, 10, .inl fam)), (a5, .inl (cA 0, 10, .inl ff))]) hP hD [0, 1, 2, 3, 4, 5, 6] (by decide) rfl
        refine W.widen (k := 3) (n := 18) (Nat.le_of_ble_eq_true rfl) (Nat.le_of_ble_eq_true rfl) ?_
        exact vx_ret (W.iret (v := rn5) hx hb hr (fun t ht hW => ⟨⟨rn5, (), rfl, trivial, by rw [ht]; exact hP9, hD9⟩, hS.F ht⟩) hS.2.2 dX9_splitPayment_30)

set_option maxHeartbeats 4000000 in
set_option maxRecDepth 100000 in
/-- shareFor -/
theorem s_shareFor (l : Launch) (D : va_G) (cA : Nat → ClassId) (sa : Nat → Nat) (h0 : Nat) (b0 : Nat) (nb : Nat) (p0 : Nat) (u0 : Nat) (r0 : Nat) (a0 : Nat) (t0 : Nat) (s0 : Nat) (o0 : Nat) (a1 : Nat) (a3 : Nat) (a4 : Nat) (a5 : Nat) (a6 : Nat) (i6 : Int32) (i7 : Int32) (i8 : Int32) (i12 : Int32) (i13 : Int32) (i14 : Int32) (i15 : Int32) (i16 : Int32) (i17 : Int32) (i18 : Int32) (i19 : Int32) (i9 : Int64) (i10 : Int64) (i11 : Int64) (p1 : Nat) (p2 : Nat) (p3 : Nat) (p4 : Nat) (p5 : Nat) (p6 : Nat) (p7 : Nat) (p8 : Nat) (p9 : Nat) (cn : Nat) (pq : Nat) (nd : Nat) (sc : Nat) (pr : Int32) (pb : Int32) (pe : Int32) (pg : Int32) (fs : Nat → Int32) (fp : Nat → Int32) (fam : Nat → Int32) (ff : Nat → Int32) (i : Int32) (j : Int32) (sz : Nat) (hl9 : l.stackTraces = false) (hcn : cn ≤ 10) (hpq : pq ≤ 8) (hnd : nd ≤ 6) (hsc : sc ≤ 350) : vx_Met l yX9_shareFor wsX9_shareFor ({ frames := 8, cells := 3, slots := 18, locals := 132 }) (va_Pc [.ref h0, .int i, .int j] (Wd D cA sa [(oX9 h0 b0 (nI nb) p0 u0 r0 a0 t0 s0 o0), (oX0 a0 p0 a1 a3 a4 a5 a6 i6 i7 i8 i9 i10 i11 i12 i13 i14 i15 i16 i17 i18 i19), (oX3 p0 pr pb pe pg p1 (nI nd) p2 p3 p4 p5 (nI cn) p6 (nI pq) p7 p8 p9 (nI sc)), (a3, .inl (cA 0, 10, .inl fs)), (a4, .inl (cA 0, 10, .inl fp)), (p3, .inl (cA 0, 10, .inl fam)), (a5, .inl (cA 0, 10, .inl ff))] sz)) (va_Qi (fun (r : Int32) (_ : Unit) => True) (fun (_ : Unit) t => Wq D (va_A [(oX9 h0 b0 (nI nb) p0 u0 r0 a0 t0 s0 o0), (oX0 a0 p0 a1 a3 a4 a5 a6 i6 i7 i8 i9 i10 i11 i12 i13 i14 i15 i16 i17 i18 i19), (oX3 p0 pr pb pe pg p1 (nI nd) p2 p3 p4 p5 (nI cn) p6 (nI pq) p7 p8 p9 (nI sc)), (a3, .inl (cA 0, 10, .inl fs)), (a4, .inl (cA 0, 10, .inl fp)), (p3, .inl (cA 0, 10, .inl fam)), (a5, .inl (cA 0, 10, .inl ff))] sz) [(oX9 h0 b0 (nI nb) p0 u0 r0 a0 t0 s0 o0), (oX0 a0 p0 a1 a3 a4 a5 a6 i6 i7 i8 i9 i10 i11 i12 i13 i14 i15 i16 i17 i18 i19), (oX3 p0 pr pb pe pg p1 (nI nd) p2 p3 p4 p5 (nI cn) p6 (nI pq) p7 p8 p9 (nI sc)), (a3, .inl (cA 0, 10, .inl fs)), (a4, .inl (cA 0, 10, .inl fp)), (p3, .inl (cA 0, 10, .inl fam)), (a5, .inl (cA 0, 10, .inl ff))] t) (va_A [(oX9 h0 b0 (nI nb) p0 u0 r0 a0 t0 s0 o0), (oX0 a0 p0 a1 a3 a4 a5 a6 i6 i7 i8 i9 i10 i11 i12 i13 i14 i15 i16 i17 i18 i19), (oX3 p0 pr pb pe pg p1 (nI nd) p2 p3 p4 p5 (nI cn) p6 (nI pq) p7 p8 p9 (nI sc)), (a3, .inl (cA 0, 10, .inl fs)), (a4, .inl (cA 0, 10, .inl fp)), (p3, .inl (cA 0, 10, .inl fam)), (a5, .inl (cA 0, 10, .inl ff))] sz)) (vx_X (fun _ : Unit => True) (fun E _ t => (E = "java/lang/IndexOutOfBoundsException" ∨ E = "java/lang/IllegalArgumentException" ∨ E = "java/lang/IllegalStateException") ∧ Wq D (va_A [(oX9 h0 b0 (nI nb) p0 u0 r0 a0 t0 s0 o0), (oX0 a0 p0 a1 a3 a4 a5 a6 i6 i7 i8 i9 i10 i11 i12 i13 i14 i15 i16 i17 i18 i19), (oX3 p0 pr pb pe pg p1 (nI nd) p2 p3 p4 p5 (nI cn) p6 (nI pq) p7 p8 p9 (nI sc)), (a3, .inl (cA 0, 10, .inl fs)), (a4, .inl (cA 0, 10, .inl fp)), (p3, .inl (cA 0, 10, .inl fam)), (a5, .inl (cA 0, 10, .inl ff))] sz) [(oX9 h0 b0 (nI nb) p0 u0 r0 a0 t0 s0 o0), (oX0 a0 p0 a1 a3 a4 a5 a6 i6 i7 i8 i9 i10 i11 i12 i13 i14 i15 i16 i17 i18 i19), (oX3 p0 pr pb pe pg p1 (nI nd) p2 p3 p4 p5 (nI cn) p6 (nI pq) p7 p8 p9 (nI sc)), (a3, .inl (cA 0, 10, .inl fs)), (a4, .inl (cA 0, 10, .inl fp)), (p3, .inl (cA 0, 10, .inl fam)), (a5, .inl (cA 0, 10, .inl ff))] t) (va_A [(oX9 h0 b0 (nI nb) p0 u0 r0 a0 t0 s0 o0), (oX0 a0 p0 a1 a3 a4 a5 a6 i6 i7 i8 i9 i10 i11 i12 i13 i14 i15 i16 i17 i18 i19), (oX3 p0 pr pb pe pg p1 (nI nd) p2 p3 p4 p5 (nI cn) p6 (nI pq) p7 p8 p9 (nI sc)), (a3, .inl (cA 0, 10, .inl fs)), (a4, .inl (cA 0, 10, .inl fp)), (p3, .inl (cA 0, 10, .inl fam)), (a5, .inl (cA 0, 10, .inl ff))] sz)) 3 18 (va_A [(oX9 h0 b0 (nI nb) p0 u0 r0 a0 t0 s0 o0), (oX0 a0 p0 a1 a3 a4 a5 a6 i6 i7 i8 i9 i10 i11 i12 i13 i14 i15 i16 i17 i18 i19), (oX3 p0 pr pb pe pg p1 (nI nd) p2 p3 p4 p5 (nI cn) p6 (nI pq) p7 p8 p9 (nI sc)), (a3, .inl (cA 0, 10, .inl fs)), (a4, .inl (cA 0, 10, .inl fp)), (p3, .inl (cA 0, 10, .inl fam)), (a5, .inl (cA 0, 10, .inl ff))] sz) := by
  refine vx_ofW (cc := cX9_shareFor) (maxL := 6) (ret := (some .int)) (by decide) rfl ?_
  intro p e s m args below meth c s₁ B hml hno hv
  obtain ⟨rfl, hsz, hP, hK, hD0, hC, hZ⟩ := hv
  have hx := B.exec
  have hb := B.bytes
  have hr := B.returns
  have hts := atoms_spec (ws := wsX9_shareFor) B.pre
  have hown : s.vm.findClass RX9 = some m.cls := findClass_of_methodNamed B.named
  have hlocks := B.notSynchronized
  subst hsz
  have hD := hD0.self (sz := s.heap.size)
  generalize hAe : va_A [(oX9 h0 b0 (nI nb) p0 u0 r0 a0 t0 s0 o0), (oX0 a0 p0 a1 a3 a4 a5 a6 i6 i7 i8 i9 i10 i11 i12 i13 i14 i15 i16 i17 i18 i19), (oX3 p0 pr pb pe pg p1 (nI nd) p2 p3 p4 p5 (nI cn) p6 (nI pq) p7 p8 p9 (nI sc)), (a3, .inl (cA 0, 10, .inl fs)), (a4, .inl (cA 0, 10, .inl fp)), (p3, .inl (cA 0, 10, .inl fam)), (a5, .inl (cA 0, 10, .inl ff))] s.heap.size = A at hD hZ ⊢
  have hA : ∀ q : Nat, s.heap.size ≤ q → A q := fun q h => by rw [← hAe]; exact Or.inr h
  have hS : va_S A s.heap s.heap [] := va_S.rf
  have hP : va_P D vwCl [(oX9 h0 b0 (nI nb) p0 u0 r0 a0 t0 s0 o0), (oX0 a0 p0 a1 a3 a4 a5 a6 i6 i7 i8 i9 i10 i11 i12 i13 i14 i15 i16 i17 i18 i19), (oX3 p0 pr pb pe pg p1 (nI nd) p2 p3 p4 p5 (nI cn) p6 (nI pq) p7 p8 p9 (nI sc)), (a3, .inl (cA 0, 10, .inl fs)), (a4, .inl (cA 0, 10, .inl fp)), (p3, .inl (cA 0, 10, .inl fam)), (a5, .inl (cA 0, 10, .inl ff))] s.heap := hP
  have hl := lv_entry ([.ref h0, .int i, .int j]) (n := 6) (Nat.le_of_ble_eq_true rfl)
  rw [lg_entry_eq]
  generalize (lg_sl ([.ref h0, .int i, .int j]) ++ List.replicate (6 - (lg_sl ([.ref h0, .int i, .int j])).length) Slot.unset).toArray = ls at hl ⊢
  have hl : lv_has ls 6 [(0, .ref h0), (1, .int i), (2, .int j)] := hl
  have inX9 : ∀ w ∈ u_ws RX9 TX9 9, w ∈ wsX9_shareFor := by decide +kernel
  refine lv_aload_n hx hb dX9_shareFor_0 rfl (lv_at hl 0 rfl) ?_
  refine lv_iload_n hx hb dX9_shareFor_1 rfl (lv_at hl 1 rfl) ?_
  obtain ⟨hPc, hDc, hFc⟩ := PDq.cut (wc := [(oX9 h0 b0 (nI nb) p0 u0 r0 a0 t0 s0 o0), (oX3 p0 pr pb pe pg p1 (nI nd) p2 p3 p4 p5 (nI cn) p6 (nI pq) p7 p8 p9 (nI sc))]) hP hD hS hA [0, 2] (by decide) rfl
  refine vx_callv (vx_runV (As := [.int i]) (rest := []) ⟨hx, hb, hml, hown, hts⟩ (s_needMilestone l D cA sa h0 b0 nb p0 u0 r0 a0 t0 s0 o0 p1 p2 p3 p4 p5 p6 p7 p8 p9 cn pq nd sc pr pb pe pg i s.heap.size hl9 hcn hpq hnd hsc) (cwV 1 hts gX9_shareFor_X9_needMilestone rfl rfl rfl (by decide +kernel) ⟨(Nat.le_of_ble_eq_true rfl), (Nat.le_of_ble_eq_true rfl)⟩) ⟨Wd.blind, va_recv hK hPc (ci := 10) (q0 := 0) rfl rfl, fun U hU hW => ⟨rfl, Wd.call hPc hDc hK hC hZ hS hFc U hU hW⟩⟩ rfl rfl hl.1 rfl (lv_room (Nat.le_of_ble_eq_true rfl)) dX9_shareFor_2 ⟨(Nat.le_of_ble_eq_true rfl), (Nat.le_of_ble_eq_true rfl)⟩) hS (fun q _ h => hFc q h) hFc (fun q _ h => hFc q h) (fun E ce q9 u t H1 locs ht hvm hpx hE hz1 hk1 hS hcell hv9 hcl => ?_) (fun u t H1 locs ht hvm hw hB hz1 hk1 hS => ?_)
  · skip
    obtain ⟨hE, hP1, hD1⟩ := hE
    rw [ht] at hP1
    obtain ⟨hP, hD⟩ := PDq.join (w := [(oX0 a0 p0 a1 a3 a4 a5 a6 i6 i7 i8 i9 i10 i11 i12 i13 i14 i15 i16 i17 i18 i19), (a3, .inl (cA 0, 10, .inl fs)), (a4, .inl (cA 0, 10, .inl fp)), (p3, .inl (cA 0, 10, .inl fam)), (a5, .inl (cA 0, 10, .inl ff)), (oX9 h0 b0 (nI nb) p0 u0 r0 a0 t0 s0 o0), (oX3 p0 pr pb pe pg p1 (nI nd) p2 p3 p4 p5 (nI cn) p6 (nI pq) p7 p8 p9 (nI sc))]) 5 hP hD [0, 2] [1, 3, 4, 5, 6] rfl rfl (by decide) (by decide) hk1 hFc hP1 hD1 rfl
    generalize H1 = H at hP hS hcell ⊢
    obtain ⟨hP9, hD9⟩ := PDq.sub (ws' := [(oX9 h0 b0 (nI nb) p0 u0 r0 a0 t0 s0 o0), (oX0 a0 p0 a1 a3 a4 a5 a6 i6 i7 i8 i9 i10 i11 i12 i13 i14 i15 i16 i17 i18 i19), (oX3 p0 pr pb pe pg p1 (nI nd) p2 p3 p4 p5 (nI cn) p6 (nI pq) p7 p8 p9 (nI sc)), (a3, .inl (cA 0, 10, .inl fs)), (a4, .inl (cA 0, 10, .inl fp)), (p3, .inl (cA 0, 10, .inl fam)), (a5, .inl (cA 0, 10, .inl ff))]) hP hD [5, 0, 6, 1, 2, 3, 4] (by decide) rfl
    exact vx_out (fun x h => (hno x h).elim) hlocks hcell hv9 hcl (fun t ht hvm => ⟨(), trivial, ⟨(by rw [hE]; simp), by rw [ht]; exact hP9, hD9⟩, hS.F ht⟩) hS.2.2 (Nat.le_of_ble_eq_true rfl) (Nat.le_of_ble_eq_true rfl)
  · skip
    obtain ⟨qn1, hn2, hn3, hP1, hD1⟩ := hB
    rw [ht] at hP1
    obtain ⟨hP, hD⟩ := PDq.join (w := [(oX0 a0 p0 a1 a3 a4 a5 a6 i6 i7 i8 i9 i10 i11 i12 i13 i14 i15 i16 i17 i18 i19), (a3, .inl (cA 0, 10, .inl fs)), (a4, .inl (cA 0, 10, .inl fp)), (p3, .inl (cA 0, 10, .inl fam)), (a5, .inl (cA 0, 10, .inl ff)), (oX9 h0 b0 (nI nb) p0 u0 r0 a0 t0 s0 o0), (oX3 p0 pr pb pe pg p1 (nI nd) p2 p3 p4 p5 (nI cn) p6 (nI pq) p7 p8 p9 (nI sc))]) 5 hP hD [0, 2] [1, 3, 4, 5, 6] rfl rfl (by decide) (by decide) hk1 hFc hP1 hD1 rfl
    generalize H1 = H at hP hS ⊢
    rw [hn3] at hl
    have hl : lv_has ls 6 [(0, .ref h0), (1, .int (nI qn1)), (2, .int j)] := hl
    refine lv_iload_n hx hb dX9_shareFor_5 rfl (lv_at hl 2 rfl) ?_
    refine lv_iconst (v := 0) hx hb dX9_shareFor_6 (by decide) ?_
    refine lv_ldc (v := 99999) hx hb hown (hts (.constant RX9 239 99999) (by decide +kernel)) dX9_shareFor_7 ?_
    obtain ⟨hPc, hDc, hFc⟩ := PDq.cut (wc := []) hP hD hS hA [] (by decide) rfl
    refine vx_callv (vx_runS (As := [.int j, .int 0, .int 99999]) (rest := []) ⟨hx, hb, hml, hown, hts⟩ (s_needRange l D cA sa j 0 99999 H.size hl9) (va_cwS 3 hts gX9_shareFor_X9_needRange rfl rfl rfl (by decide +kernel) ⟨(Nat.le_of_ble_eq_true rfl), (Nat.le_of_ble_eq_true rfl)⟩) ⟨Wd.blind, fun U hU hW => ⟨rfl, Wd.call hPc hDc hK hC hZ hS hFc U hU hW⟩⟩ rfl rfl hl.1 rfl (lv_room (Nat.le_of_ble_eq_true rfl)) dX9_shareFor_9 ⟨(Nat.le_of_ble_eq_true rfl), (Nat.le_of_ble_eq_true rfl)⟩) hS (fun q _ h => hFc q h) hFc (fun q _ h => hFc q h) (fun E ce q9 u t H1 locs ht hvm hpx hE hz1 hk1 hS hcell hv9 hcl => ?_) (fun u t H1 locs ht hvm hw hB hz1 hk1 hS => ?_)
    · skip
      obtain ⟨hE, hP1, hD1⟩ := hE
      rw [ht] at hP1
      obtain ⟨hP, hD⟩ := PDq.join (w := [(oX0 a0 p0 a1 a3 a4 a5 a6 i6 i7 i8 i9 i10 i11 i12 i13 i14 i15 i16 i17 i18 i19), (a3, .inl (cA 0, 10, .inl fs)), (a4, .inl (cA 0, 10, .inl fp)), (p3, .inl (cA 0, 10, .inl fam)), (a5, .inl (cA 0, 10, .inl ff)), (oX9 h0 b0 (nI nb) p0 u0 r0 a0 t0 s0 o0), (oX3 p0 pr pb pe pg p1 (nI nd) p2 p3 p4 p5 (nI cn) p6 (nI pq) p7 p8 p9 (nI sc))]) 7 hP hD [] [0, 1, 2, 3, 4, 5, 6] rfl rfl (by decide) (by decide) hk1 hFc hP1 hD1 rfl
      generalize H1 = H at hP hS hcell ⊢
      obtain ⟨hP9, hD9⟩ := PDq.sub (ws' := [(oX9 h0 b0 (nI nb) p0 u0 r0 a0 t0 s0 o0), (oX0 a0 p0 a1 a3 a4 a5 a6 i6 i7 i8 i9 i10 i11 i12 i13 i14 i15 i16 i17 i18 i19), (oX3 p0 pr pb pe pg p1 (nI nd) p2 p3 p4 p5 (nI cn) p6 (nI pq) p7 p8 p9 (nI sc)), (a3, .inl (cA 0, 10, .inl fs)), (a4, .inl (cA 0, 10, .inl fp)), (p3, .inl (cA 0, 10, .inl fam)), (a5, .inl (cA 0, 10, .inl ff))]) hP hD [5, 0, 6, 1, 2, 3, 4] (by decide) rfl
      exact vx_out (fun x h => (hno x h).elim) hlocks hcell hv9 hcl (fun t ht hvm => ⟨(), trivial, ⟨(by rw [hE]; simp), by rw [ht]; exact hP9, hD9⟩, hS.F ht⟩) hS.2.2 (Nat.le_of_ble_eq_true rfl) (Nat.le_of_ble_eq_true rfl)
    · skip
      obtain ⟨hP1, hD1⟩ := hB
      rw [ht] at hP1
      obtain ⟨hP, hD⟩ := PDq.join (w := [(oX0 a0 p0 a1 a3 a4 a5 a6 i6 i7 i8 i9 i10 i11 i12 i13 i14 i15 i16 i17 i18 i19), (a3, .inl (cA 0, 10, .inl fs)), (a4, .inl (cA 0, 10, .inl fp)), (p3, .inl (cA 0, 10, .inl fam)), (a5, .inl (cA 0, 10, .inl ff)), (oX9 h0 b0 (nI nb) p0 u0 r0 a0 t0 s0 o0), (oX3 p0 pr pb pe pg p1 (nI nd) p2 p3 p4 p5 (nI cn) p6 (nI pq) p7 p8 p9 (nI sc))]) 7 hP hD [] [0, 1, 2, 3, 4, 5, 6] rfl rfl (by decide) (by decide) hk1 hFc hP1 hD1 rfl
      generalize H1 = H at hP hS ⊢
      refine lv_aload_n hx hb dX9_shareFor_12 rfl (lv_at hl 0 rfl) ?_
      refine lv_iload_n hx hb dX9_shareFor_13 rfl (lv_at hl 1 rfl) ?_
      obtain ⟨hPc, hDc, hFc⟩ := PDq.cut (wc := [(oX9 h0 b0 (nI nb) p0 u0 r0 a0 t0 s0 o0), (oX0 a0 p0 a1 a3 a4 a5 a6 i6 i7 i8 i9 i10 i11 i12 i13 i14 i15 i16 i17 i18 i19), (a3, .inl (cA 0, 10, .inl fs))]) hP hD hS hA [5, 0, 1] (by decide) rfl
      refine vx_callv (vx_runV (As := [.int (nI qn1)]) (rest := []) ⟨hx, hb, hml, hown, hts⟩ (s_needDispute l D cA sa h0 b0 nb p0 u0 r0 a0 t0 s0 o0 a1 a3 a4 a5 a6 i6 i7 i8 i12 i13 i14 i15 i16 i17 i18 i19 i9 i10 i11 qn1 fs H.size hl9 (by omega)) (cwV 1 hts gX9_shareFor_X9_needDispute rfl rfl rfl (by decide +kernel) ⟨(Nat.le_of_ble_eq_true rfl), (Nat.le_of_ble_eq_true rfl)⟩) ⟨Wd.blind, va_recv hK hPc (ci := 10) (q0 := 0) rfl rfl, fun U hU hW => ⟨rfl, Wd.call hPc hDc hK hC hZ hS hFc U hU hW⟩⟩ rfl rfl hl.1 rfl (lv_room (Nat.le_of_ble_eq_true rfl)) dX9_shareFor_14 ⟨(Nat.le_of_ble_eq_true rfl), (Nat.le_of_ble_eq_true rfl)⟩) hS (fun q _ h => hFc q h) hFc (fun q _ h => hFc q h) (fun E ce q9 u t H1 locs ht hvm hpx hE hz1 hk1 hS hcell hv9 hcl => ?_) (fun u t H1 locs ht hvm hw hB hz1 hk1 hS => ?_)
      · skip
        obtain ⟨hE, hP1, hD1⟩ := hE
        rw [ht] at hP1
        obtain ⟨hP, hD⟩ := PDq.join (w := [(a4, .inl (cA 0, 10, .inl fp)), (p3, .inl (cA 0, 10, .inl fam)), (a5, .inl (cA 0, 10, .inl ff)), (oX3 p0 pr pb pe pg p1 (nI nd) p2 p3 p4 p5 (nI cn) p6 (nI pq) p7 p8 p9 (nI sc)), (oX9 h0 b0 (nI nb) p0 u0 r0 a0 t0 s0 o0), (oX0 a0 p0 a1 a3 a4 a5 a6 i6 i7 i8 i9 i10 i11 i12 i13 i14 i15 i16 i17 i18 i19), (a3, .inl (cA 0, 10, .inl fs))]) 4 hP hD [5, 0, 1] [2, 3, 4, 6] rfl rfl (by decide) (by decide) hk1 hFc hP1 hD1 rfl
        generalize H1 = H at hP hS hcell ⊢
        obtain ⟨hP9, hD9⟩ := PDq.sub (ws' := [(oX9 h0 b0 (nI nb) p0 u0 r0 a0 t0 s0 o0), (oX0 a0 p0 a1 a3 a4 a5 a6 i6 i7 i8 i9 i10 i11 i12 i13 i14 i15 i16 i17 i18 i19), (oX3 p0 pr pb pe pg p1 (nI nd) p2 p3 p4 p5 (nI cn) p6 (nI pq) p7 p8 p9 (nI sc)), (a3, .inl (cA 0, 10, .inl fs)), (a4, .inl (cA 0, 10, .inl fp)), (p3, .inl (cA 0, 10, .inl fam)), (a5, .inl (cA 0, 10, .inl ff))]) hP hD [4, 5, 3, 6, 0, 1, 2] (by decide) rfl
        exact vx_out (fun x h => (hno x h).elim) hlocks hcell hv9 hcl (fun t ht hvm => ⟨(), trivial, ⟨(by rw [hE]; simp), by rw [ht]; exact hP9, hD9⟩, hS.F ht⟩) hS.2.2 (Nat.le_of_ble_eq_true rfl) (Nat.le_of_ble_eq_true rfl)
      · skip
        obtain ⟨hP1, hD1⟩ := hB
        rw [ht] at hP1
        obtain ⟨hP, hD⟩ := PDq.join (w := [(a4, .inl (cA 0, 10, .inl fp)), (p3, .inl (cA 0, 10, .inl fam)), (a5, .inl (cA 0, 10, .inl ff)), (oX3 p0 pr pb pe pg p1 (nI nd) p2 p3 p4 p5 (nI cn) p6 (nI pq) p7 p8 p9 (nI sc)), (oX9 h0 b0 (nI nb) p0 u0 r0 a0 t0 s0 o0), (oX0 a0 p0 a1 a3 a4 a5 a6 i6 i7 i8 i9 i10 i11 i12 i13 i14 i15 i16 i17 i18 i19), (a3, .inl (cA 0, 10, .inl fs))]) 4 hP hD [5, 0, 1] [2, 3, 4, 6] rfl rfl (by decide) (by decide) hk1 hFc hP1 hD1 rfl
        generalize H1 = H at hP hS ⊢
        refine lv_aload_n hx hb dX9_shareFor_17 rfl (lv_at hl 0 rfl) ?_
        refine va_get (D := D) (ci := 10) (v := .ref a0) (C := RX9) (T := TX9) (N := 9) hx hb hts inX9 hown hK hP 4 rfl rfl 5 (by decide) (hts (.fieldLink RX9 35 "EscrowDesk" "account" "LEscrowDesk$Account;") (by decide +kernel)) (fun _ h9 => h9) rfl dX9_shareFor_18 ?_
        refine lv_iload_n hx hb dX9_shareFor_21 rfl (lv_at hl 1 rfl) ?_
        obtain ⟨hPc, hDc, hFc⟩ := PDq.cut (wc := [(oX0 a0 p0 a1 a3 a4 a5 a6 i6 i7 i8 i9 i10 i11 i12 i13 i14 i15 i16 i17 i18 i19), (oX3 p0 pr pb pe pg p1 (nI nd) p2 p3 p4 p5 (nI cn) p6 (nI pq) p7 p8 p9 (nI sc)), (a3, .inl (cA 0, 10, .inl fs)), (a4, .inl (cA 0, 10, .inl fp)), (p3, .inl (cA 0, 10, .inl fam)), (a5, .inl (cA 0, 10, .inl ff))]) hP hD hS hA [5, 3, 6, 0, 1, 2] (by decide) rfl
        refine va_calli (va_runV (As := [.int (nI qn1)]) (rest := []) ⟨hx, hb, hml, hown, hts⟩ (s_moneyToSplit l D cA sa a0 a1 a3 a4 a5 a6 p0 i6 i7 i8 i12 i13 i14 i15 i16 i17 i18 i19 i9 i10 i11 p1 p2 p3 p4 p5 p6 p7 p8 p9 cn pq nd sc pr pb pe pg qn1 fs fp ff fam H.size hcn hpq hnd hsc (by omega)) (cwV 1 hts gX9_shareFor_X0_moneyToSplit rfl rfl rfl (by decide +kernel) ⟨(Nat.le_of_ble_eq_true rfl), (Nat.le_of_ble_eq_true rfl)⟩) ⟨Wd.blind, va_recv hK hPc (ci := 4) (q0 := 0) rfl rfl, fun U hU hW => ⟨rfl, Wd.call hPc hDc hK hC hZ hS hFc U hU hW⟩⟩ rfl rfl hl.1 rfl (lv_room (Nat.le_of_ble_eq_true rfl)) dX9_shareFor_22 ⟨(Nat.le_of_ble_eq_true rfl), (Nat.le_of_ble_eq_true rfl)⟩) hS (fun q _ h => hFc q h) hFc (fun rn4 u t H1 locs ht hvm hw hB hz1 hk1 hS => ?_)
        obtain ⟨hP1, hD1⟩ := hB
        rw [ht] at hP1
        obtain ⟨hP, hD⟩ := PDq.join (w := [(oX9 h0 b0 (nI nb) p0 u0 r0 a0 t0 s0 o0), (oX0 a0 p0 a1 a3 a4 a5 a6 i6 i7 i8 i9 i10 i11 i12 i13 i14 i15 i16 i17 i18 i19), (oX3 p0 pr pb pe pg p1 (nI nd) p2 p3 p4 p5 (nI cn) p6 (nI pq) p7 p8 p9 (nI sc)), (a3, .inl (cA 0, 10, .inl fs)), (a4, .inl (cA 0, 10, .inl fp)), (p3, .inl (cA 0, 10, .inl fam)), (a5, .inl (cA 0, 10, .inl ff))]) 1 hP hD [5, 3, 6, 0, 1, 2] [4] rfl rfl (by decide) (by decide) hk1 hFc hP1 hD1 rfl
        generalize H1 = H at hP hS ⊢
        refine lv_istore_n (lv' := [(3, .int rn4), (0, .ref h0), (1, .int (nI qn1)), (2, .int j)]) hx hb dX9_shareFor_25 rfl hl (by decide) rfl (fun ls hl => ?_)
        refine lv_iconst (v := 0) hx hb dX9_shareFor_26 (by decide) ?_
        refine lv_istore (lv' := [(4, .int 0), (3, .int rn4), (0, .ref h0), (1, .int (nI qn1)), (2, .int j)]) hx hb dX9_shareFor_27 hl (by decide) rfl (fun ls hl => ?_)
        have loop1 : ∀ (n1 i1 : Nat) (H : Heap) (locs : List Loc) (ls : Array Slot), i1 + n1 = 1001 → va_P D vwCl [(oX9 h0 b0 (nI nb) p0 u0 r0 a0 t0 s0 o0), (oX0 a0 p0 a1 a3 a4 a5 a6 i6 i7 i8 i9 i10 i11 i12 i13 i14 i15 i16 i17 i18 i19), (oX3 p0 pr pb pe pg p1 (nI nd) p2 p3 p4 p5 (nI cn) p6 (nI pq) p7 p8 p9 (nI sc)), (a3, .inl (cA 0, 10, .inl fs)), (a4, .inl (cA 0, 10, .inl fp)), (p3, .inl (cA 0, 10, .inl fam)), (a5, .inl (cA 0, 10, .inl ff))] H → va_D A [(oX9 h0 b0 (nI nb) p0 u0 r0 a0 t0 s0 o0), (oX0 a0 p0 a1 a3 a4 a5 a6 i6 i7 i8 i9 i10 i11 i12 i13 i14 i15 i16 i17 i18 i19), (oX3 p0 pr pb pe pg p1 (nI nd) p2 p3 p4 p5 (nI cn) p6 (nI pq) p7 p8 p9 (nI sc)), (a3, .inl (cA 0, 10, .inl fs)), (a4, .inl (cA 0, 10, .inl fp)), (p3, .inl (cA 0, 10, .inl fam)), (a5, .inl (cA 0, 10, .inl ff))] → va_S A s.heap H locs → lv_has ls 6 [(4, .int (nI i1)), (3, .int rn4), (0, .ref h0), (1, .int (nI qn1)), (2, .int j)] → W p l e (headSpec wsX9_shareFor ({ frames := 8, cells := 3, slots := 18, locals := 132 } : Room)).room s m ([.ref h0, .int i, .int j] : List Value).toArray below meth c H locs 3 18 (vx_MQ below (va_Qi (fun (r : Int32) (_ : Unit) => True) (fun (_ : Unit) t => Wq D A [(oX9 h0 b0 (nI nb) p0 u0 r0 a0 t0 s0 o0), (oX0 a0 p0 a1 a3 a4 a5 a6 i6 i7 i8 i9 i10 i11 i12 i13 i14 i15 i16 i17 i18 i19), (oX3 p0 pr pb pe pg p1 (nI nd) p2 p3 p4 p5 (nI cn) p6 (nI pq) p7 p8 p9 (nI sc)), (a3, .inl (cA 0, 10, .inl fs)), (a4, .inl (cA 0, 10, .inl fp)), (p3, .inl (cA 0, 10, .inl fam)), (a5, .inl (cA 0, 10, .inl ff))] t) A) (vx_X (fun _ : Unit => True) (fun E _ t => (E = "java/lang/IndexOutOfBoundsException" ∨ E = "java/lang/IllegalArgumentException" ∨ E = "java/lang/IllegalStateException") ∧ Wq D A [(oX9 h0 b0 (nI nb) p0 u0 r0 a0 t0 s0 o0), (oX0 a0 p0 a1 a3 a4 a5 a6 i6 i7 i8 i9 i10 i11 i12 i13 i14 i15 i16 i17 i18 i19), (oX3 p0 pr pb pe pg p1 (nI nd) p2 p3 p4 p5 (nI cn) p6 (nI pq) p7 p8 p9 (nI sc)), (a3, .inl (cA 0, 10, .inl fs)), (a4, .inl (cA 0, 10, .inl fp)), (p3, .inl (cA 0, 10, .inl fam)), (a5, .inl (cA 0, 10, .inl ff))] t) A) ([.ref h0, .int i, .int j] : List Value).toArray s 3 18 A) (F0 m 29 ls []) := by
          intro n1
          induction n1 with
          | zero =>
            intro i1 H locs ls hi1 hP hD hS hl
            obtain rfl : 1001 = i1 := by omega
            refine lv_iload hx hb dX9_shareFor_29 (lv_at hl 0 rfl) ?_
            refine lv_sipush (v := 1000) hx hb dX9_shareFor_31 (by decide) ?_
            refine lv_icmp_gt (tgt := 70) hx hb dX9_shareFor_34 (by decide) (fun c5 => ?_) (fun c9 => absurd (nI_lt (a := 1000) (b := 1001) (show 1000 < 1001 by omega) (by omega)) c9)
            refine lv_iconst (v := (-1)) hx hb dX9_shareFor_70 (by decide) ?_
            obtain ⟨hP9, hD9⟩ := PDq.sub (ws' := [(oX9 h0 b0 (nI nb) p0 u0 r0 a0 t0 s0 o0), (oX0 a0 p0 a1 a3 a4 a5 a6 i6 i7 i8 i9 i10 i11 i12 i13 i14 i15 i16 i17 i18 i19), (oX3 p0 pr pb pe pg p1 (nI nd) p2 p3 p4 p5 (nI cn) p6 (nI pq) p7 p8 p9 (nI sc)), (a3, .inl (cA 0, 10, .inl fs)), (a4, .inl (cA 0, 10, .inl fp)), (p3, .inl (cA 0, 10, .inl fam)), (a5, .inl (cA 0, 10, .inl ff))]) hP hD [0, 1, 2, 3, 4, 5, 6] (by decide) rfl
            refine W.widen (k := 3) (n := 18) (Nat.le_of_ble_eq_true rfl) (Nat.le_of_ble_eq_true rfl) ?_
            exact vx_ret (W.iret (v := (-1)) hx hb hr (fun t ht hW => ⟨⟨(-1), (), rfl, trivial, by rw [ht]; exact hP9, hD9⟩, hS.F ht⟩) hS.2.2 dX9_shareFor_71)
          | succ n1 ih1 =>
            intro i1 H locs ls hi1 hP hD hS hl
            refine lv_iload hx hb dX9_shareFor_29 (lv_at hl 0 rfl) ?_
            refine lv_sipush (v := 1000) hx hb dX9_shareFor_31 (by decide) ?_
            refine lv_icmp_gt (tgt := 70) hx hb dX9_shareFor_34 (by decide) (fun c9 => absurd c9 (nI_nlt (a := 1000) (b := i1) (show i1 ≤ 1000 by omega) (by omega))) (fun c6 => ?_)
            refine lv_iload_n hx hb dX9_shareFor_37 rfl (lv_at hl 1 rfl) ?_
            refine lv_iload hx hb dX9_shareFor_38 (lv_at hl 0 rfl) ?_
            obtain ⟨hPc, hDc, hFc⟩ := PDq.cut (wc := []) hP hD hS hA [] (by decide) rfl
            refine va_calli (va_runS (As := [.int rn4, .int (nI i1)]) (rest := []) ⟨hx, hb, hml, hown, hts⟩ (s_partOf l D cA sa rn4 (nI i1) H.size) (va_cwS 2 hts gX9_shareFor_X0_partOf rfl rfl rfl (by decide +kernel) ⟨(Nat.le_of_ble_eq_true rfl), (Nat.le_of_ble_eq_true rfl)⟩) ⟨Wd.blind, fun U hU hW => ⟨rfl, Wd.call hPc hDc hK hC hZ hS hFc U hU hW⟩⟩ rfl rfl hl.1 rfl (lv_room (Nat.le_of_ble_eq_true rfl)) dX9_shareFor_40 ⟨(Nat.le_of_ble_eq_true rfl), (Nat.le_of_ble_eq_true rfl)⟩) hS (fun q _ h => hFc q h) hFc (fun rn7 u t H1 locs ht hvm hw hB hz1 hk1 hS => ?_)
            obtain ⟨hP1, hD1⟩ := hB
            rw [ht] at hP1
            obtain ⟨hP, hD⟩ := PDq.join (w := [(oX9 h0 b0 (nI nb) p0 u0 r0 a0 t0 s0 o0), (oX0 a0 p0 a1 a3 a4 a5 a6 i6 i7 i8 i9 i10 i11 i12 i13 i14 i15 i16 i17 i18 i19), (oX3 p0 pr pb pe pg p1 (nI nd) p2 p3 p4 p5 (nI cn) p6 (nI pq) p7 p8 p9 (nI sc)), (a3, .inl (cA 0, 10, .inl fs)), (a4, .inl (cA 0, 10, .inl fp)), (p3, .inl (cA 0, 10, .inl fam)), (a5, .inl (cA 0, 10, .inl ff))]) 7 hP hD [] [0, 1, 2, 3, 4, 5, 6] rfl rfl (by decide) (by decide) hk1 hFc hP1 hD1 rfl
            generalize H1 = H at hP hS ⊢
            refine lv_istore (lv' := [(5, .int rn7), (4, .int (nI i1)), (3, .int rn4), (0, .ref h0), (1, .int (nI qn1)), (2, .int j)]) hx hb dX9_shareFor_43 hl (by decide) rfl (fun ls hl => ?_)
            refine lv_iload hx hb dX9_shareFor_45 (lv_at hl 0 rfl) ?_
            refine lv_aload_n hx hb dX9_shareFor_47 rfl (lv_at hl 3 rfl) ?_
            refine va_get (D := D) (ci := 10) (v := .ref p0) (C := RX9) (T := TX9) (N := 9) hx hb hts inX9 hown hK hP 0 rfl rfl 2 (by decide) (hts (.fieldLink RX9 16 "EscrowDesk" "plan" "LEscrowDesk$Plan;") (by decide +kernel)) (fun _ h9 => h9) rfl dX9_shareFor_48 ?_
            refine lv_iload hx hb dX9_shareFor_51 (lv_at hl 0 rfl) ?_
            obtain ⟨hPc, hDc, hFc⟩ := PDq.cut (wc := [(oX3 p0 pr pb pe pg p1 (nI nd) p2 p3 p4 p5 (nI cn) p6 (nI pq) p7 p8 p9 (nI sc))]) hP hD hS hA [2] (by decide) rfl
            refine va_calli (va_runV (As := [.int rn7]) (rest := [.int rn7]) ⟨hx, hb, hml, hown, hts⟩ (s_feeOf l D cA sa p0 p1 p2 p3 p4 p5 p6 p7 p8 p9 cn pq nd sc pr pb pe pg rn7 H.size) (cwV 1 hts gX9_shareFor_X3_feeOf rfl rfl rfl (by decide +kernel) ⟨(Nat.le_of_ble_eq_true rfl), (Nat.le_of_ble_eq_true rfl)⟩) ⟨Wd.blind, va_recv hK hPc (ci := 7) (q0 := 0) rfl rfl, fun U hU hW => ⟨rfl, Wd.call hPc hDc hK hC hZ hS hFc U hU hW⟩⟩ rfl rfl hl.1 rfl (lv_room (Nat.le_of_ble_eq_true rfl)) dX9_shareFor_53 ⟨(Nat.le_of_ble_eq_true rfl), (Nat.le_of_ble_eq_true rfl)⟩) hS (fun q _ h => hFc q h) hFc (fun rn8 u t H1 locs ht hvm hw hB hz1 hk1 hS => ?_)
            obtain ⟨hP1, hD1⟩ := hB
            rw [ht] at hP1
            obtain ⟨hP, hD⟩ := PDq.join (w := [(oX9 h0 b0 (nI nb) p0 u0 r0 a0 t0 s0 o0), (oX0 a0 p0 a1 a3 a4 a5 a6 i6 i7 i8 i9 i10 i11 i12 i13 i14 i15 i16 i17 i18 i19), (a3, .inl (cA 0, 10, .inl fs)), (a4, .inl (cA 0, 10, .inl fp)), (p3, .inl (cA 0, 10, .inl fam)), (a5, .inl (cA 0, 10, .inl ff)), (oX3 p0 pr pb pe pg p1 (nI nd) p2 p3 p4 p5 (nI cn) p6 (nI pq) p7 p8 p9 (nI sc))]) 6 hP hD [2] [0, 1, 3, 4, 5, 6] rfl rfl (by decide) (by decide) hk1 hFc hP1 hD1 rfl
            generalize H1 = H at hP hS ⊢
            refine lv_isub hx hb dX9_shareFor_56 ?_
            refine lv_topi (fun yn9 eyn9 => ?_)
            refine lv_iload_n hx hb dX9_shareFor_57 rfl (lv_at hl 5 rfl) ?_
            refine lv_icmp_lt (tgt := 64) hx hb dX9_shareFor_58 (by decide) (fun c10 => ?_) (fun c10 => ?_)
            · skip
              refine lv_iinc (v := (nI (i1 + 1))) (lv' := [(4, .int (nI (i1 + 1))), (5, .int rn7), (3, .int rn4), (0, .ref h0), (1, .int (nI qn1)), (2, .int j)]) hx hb dX9_shareFor_64 hl (k := 1) rfl (nI_1 _) (by decide) rfl (fun ls hl => ?_)
              refine lv_goto (tgt := 29) hx hb dX9_shareFor_67 (by decide) ?_
              obtain ⟨hP9, hD9⟩ := PDq.sub (ws' := [(oX9 h0 b0 (nI nb) p0 u0 r0 a0 t0 s0 o0), (oX0 a0 p0 a1 a3 a4 a5 a6 i6 i7 i8 i9 i10 i11 i12 i13 i14 i15 i16 i17 i18 i19), (oX3 p0 pr pb pe pg p1 (nI nd) p2 p3 p4 p5 (nI cn) p6 (nI pq) p7 p8 p9 (nI sc)), (a3, .inl (cA 0, 10, .inl fs)), (a4, .inl (cA 0, 10, .inl fp)), (p3, .inl (cA 0, 10, .inl fam)), (a5, .inl (cA 0, 10, .inl ff))]) hP hD [0, 1, 6, 2, 3, 4, 5] (by decide) rfl
              exact ih1 (i1 + 1)  H _ ls (by omega) hP9 hD9 hS (lv_sub hl [0, 2, 3, 4, 5] rfl)
            · skip
              refine lv_iload hx hb dX9_shareFor_61 (lv_at hl 1 rfl) ?_
              obtain ⟨hP9, hD9⟩ := PDq.sub (ws' := [(oX9 h0 b0 (nI nb) p0 u0 r0 a0 t0 s0 o0), (oX0 a0 p0 a1 a3 a4 a5 a6 i6 i7 i8 i9 i10 i11 i12 i13 i14 i15 i16 i17 i18 i19), (oX3 p0 pr pb pe pg p1 (nI nd) p2 p3 p4 p5 (nI cn) p6 (nI pq) p7 p8 p9 (nI sc)), (a3, .inl (cA 0, 10, .inl fs)), (a4, .inl (cA 0, 10, .inl fp)), (p3, .inl (cA 0, 10, .inl fam)), (a5, .inl (cA 0, 10, .inl ff))]) hP hD [0, 1, 6, 2, 3, 4, 5] (by decide) rfl
              refine W.widen (k := 3) (n := 18) (Nat.le_of_ble_eq_true rfl) (Nat.le_of_ble_eq_true rfl) ?_
              exact vx_ret (W.iret (v := (nI i1)) hx hb hr (fun t ht hW => ⟨⟨(nI i1), (), rfl, trivial, by rw [ht]; exact hP9, hD9⟩, hS.F ht⟩) hS.2.2 dX9_shareFor_63)
        obtain ⟨hP9, hD9⟩ := PDq.sub (ws' := [(oX9 h0 b0 (nI nb) p0 u0 r0 a0 t0 s0 o0), (oX0 a0 p0 a1 a3 a4 a5 a6 i6 i7 i8 i9 i10 i11 i12 i13 i14 i15 i16 i17 i18 i19), (oX3 p0 pr pb pe pg p1 (nI nd) p2 p3 p4 p5 (nI cn) p6 (nI pq) p7 p8 p9 (nI sc)), (a3, .inl (cA 0, 10, .inl fs)), (a4, .inl (cA 0, 10, .inl fp)), (p3, .inl (cA 0, 10, .inl fam)), (a5, .inl (cA 0, 10, .inl ff))]) hP hD [0, 1, 2, 3, 4, 5, 6] (by decide) rfl
        exact loop1 (1001 - 0) 0  _ _ ls (by omega) hP9 hD9 hS (lv_sub hl [0, 1, 2, 3, 4] rfl)

set_option maxHeartbeats 4000000 in
set_option maxRecDepth 100000 in
/-- entries -/
theorem s_entries (l : Launch) (D : va_G) (cA : Nat → ClassId) (sa : Nat → Nat) (h0 : Nat) (b0 : Nat) (nb : Nat) (p0 : Nat) (u0 : Nat) (r0 : Nat) (a0 : Nat) (t0 : Nat) (s0 : Nat) (o0 : Nat) (a1 : Nat) (a2 : Nat) (a3 : Nat) (a4 : Nat) (a5 : Nat) (a6 : Nat) (i6 : Int32) (i7 : Int32) (i8 : Int32) (i12 : Int32) (i13 : Int32) (i14 : Int32) (i15 : Int32) (i16 : Int32) (i17 : Int32) (i18 : Int32) (i19 : Int32) (i9 : Int64) (i10 : Int64) (i11 : Int64) (nx : Nat) (kp : Nat) (sz : Nat) (hnx : nx < 60) (hkp : kp ≤ 60) : Met l yX9_entries wsX9_entries ({ frames := 0, cells := 0, slots := 0, locals := 0 }) (va_Pc [.ref h0] (Wd D cA sa [(oX9 h0 b0 (nI nb) p0 u0 r0 a0 t0 s0 o0), (oX0 a0 p0 a1 a3 a4 a5 a6 i6 i7 i8 i9 i10 i11 i12 i13 i14 i15 i16 i17 i18 i19), (a1, .inr (6, [.ref a2, .int (nI nx), .int (nI kp)]))] sz)) (va_Qi (fun (r : Int32) (_ : Unit) => r = (nI kp)) (fun (_ : Unit) t => Wq D (va_A [(oX9 h0 b0 (nI nb) p0 u0 r0 a0 t0 s0 o0), (oX0 a0 p0 a1 a3 a4 a5 a6 i6 i7 i8 i9 i10 i11 i12 i13 i14 i15 i16 i17 i18 i19), (a1, .inr (6, [.ref a2, .int (nI nx), .int (nI kp)]))] sz) [(oX9 h0 b0 (nI nb) p0 u0 r0 a0 t0 s0 o0), (oX0 a0 p0 a1 a3 a4 a5 a6 i6 i7 i8 i9 i10 i11 i12 i13 i14 i15 i16 i17 i18 i19), (a1, .inr (6, [.ref a2, .int (nI nx), .int (nI kp)]))] t) (va_A [(oX9 h0 b0 (nI nb) p0 u0 r0 a0 t0 s0 o0), (oX0 a0 p0 a1 a3 a4 a5 a6 i6 i7 i8 i9 i10 i11 i12 i13 i14 i15 i16 i17 i18 i19), (a1, .inr (6, [.ref a2, .int (nI nx), .int (nI kp)]))] sz)) 0 0 (va_A [(oX9 h0 b0 (nI nb) p0 u0 r0 a0 t0 s0 o0), (oX0 a0 p0 a1 a3 a4 a5 a6 i6 i7 i8 i9 i10 i11 i12 i13 i14 i15 i16 i17 i18 i19), (a1, .inr (6, [.ref a2, .int (nI nx), .int (nI kp)]))] sz) := by
  refine Met.ofW (cc := cX9_entries) (maxL := 1) (ret := (some .int)) (by decide) rfl ?_
  intro p e s m args below meth c s₁ B hml hv
  obtain ⟨rfl, hsz, hP, hK, hD0, hC, hZ⟩ := hv
  have hx := B.exec
  have hb := B.bytes
  have hr := B.returns
  have hts := atoms_spec (ws := wsX9_entries) B.pre
  have hown : s.vm.findClass RX9 = some m.cls := findClass_of_methodNamed B.named
  have hlocks := B.notSynchronized
  subst hsz
  have hD := hD0.self (sz := s.heap.size)
  generalize hAe : va_A [(oX9 h0 b0 (nI nb) p0 u0 r0 a0 t0 s0 o0), (oX0 a0 p0 a1 a3 a4 a5 a6 i6 i7 i8 i9 i10 i11 i12 i13 i14 i15 i16 i17 i18 i19), (a1, .inr (6, [.ref a2, .int (nI nx), .int (nI kp)]))] s.heap.size = A at hD hZ ⊢
  have hA : ∀ q : Nat, s.heap.size ≤ q → A q := fun q h => by rw [← hAe]; exact Or.inr h
  have hS : va_S A s.heap s.heap [] := va_S.rf
  have hP : va_P D vwCl [(oX9 h0 b0 (nI nb) p0 u0 r0 a0 t0 s0 o0), (oX0 a0 p0 a1 a3 a4 a5 a6 i6 i7 i8 i9 i10 i11 i12 i13 i14 i15 i16 i17 i18 i19), (a1, .inr (6, [.ref a2, .int (nI nx), .int (nI kp)]))] s.heap := hP
  have hl := lv_entry ([.ref h0]) (n := 1) (Nat.le_of_ble_eq_true rfl)
  rw [lg_entry_eq]
  generalize (lg_sl ([.ref h0]) ++ List.replicate (1 - (lg_sl ([.ref h0])).length) Slot.unset).toArray = ls at hl ⊢
  have hl : lv_has ls 1 [(0, .ref h0)] := hl
  have inX0 : ∀ w ∈ u_ws RX0 TX0 20, w ∈ wsX9_entries := by decide +kernel
  have inX2 : ∀ w ∈ u_ws RX2 TX2 3, w ∈ wsX9_entries := by decide +kernel
  have inX9 : ∀ w ∈ u_ws RX9 TX9 9, w ∈ wsX9_entries := by decide +kernel
  refine lv_aload_n hx hb dX9_entries_0 rfl (lv_at hl 0 rfl) ?_
  refine va_get (D := D) (ci := 10) (v := .ref a0) (C := RX9) (T := TX9) (N := 9) hx hb hts inX9 hown hK hP 0 rfl rfl 5 (by decide) (hts (.fieldLink RX9 35 "EscrowDesk" "account" "LEscrowDesk$Account;") (by decide +kernel)) (fun _ h9 => h9) rfl dX9_entries_1 ?_
  refine va_getN (D := D) (ci := 4) (v := .ref a1) (C := RX0) (T := TX0) (N := 20) hx hb hts inX0 hown hK hP 1 rfl rfl 1 (by decide) (hC.f (A := _) (a := RX9) (i := 347) (b := "EscrowDesk$Account") (n := "ledger") (d := "LEscrowDesk$Ledger;") (x := "EscrowDesk") (by decide +kernel)) (fun _ h9 => h9) rfl dX9_entries_4 ?_
  refine va_getN (D := D) (ci := 6) (v := .int (nI kp)) (C := RX2) (T := TX2) (N := 3) hx hb hts inX2 hown hK hP 2 rfl rfl 2 (by decide) (hC.f (A := _) (a := RX9) (i := 351) (b := "EscrowDesk$Ledger") (n := "kept") (d := "I") (x := "EscrowDesk") (by decide +kernel)) (fun _ h9 => h9) rfl dX9_entries_7 ?_
  obtain ⟨hP9, hD9⟩ := PDq.sub (ws' := [(oX9 h0 b0 (nI nb) p0 u0 r0 a0 t0 s0 o0), (oX0 a0 p0 a1 a3 a4 a5 a6 i6 i7 i8 i9 i10 i11 i12 i13 i14 i15 i16 i17 i18 i19), (a1, .inr (6, [.ref a2, .int (nI nx), .int (nI kp)]))]) hP hD [0, 1, 2] (by decide) rfl
  refine W.widen (k := 0) (n := 0) (Nat.le_of_ble_eq_true rfl) (Nat.le_of_ble_eq_true rfl) ?_
  exact (W.iret (v := (nI kp)) hx hb hr (fun t ht hW => ⟨⟨(nI kp), (), rfl, rfl, by rw [ht]; exact hP9, hD9⟩, hS.F ht⟩) hS.2.2 dX9_entries_10)

set_option maxHeartbeats 4000000 in
set_option maxRecDepth 100000 in
/-- entry -/
theorem s_entry (l : Launch) (D : va_G) (cA : Nat → ClassId) (sa : Nat → Nat) (h0 : Nat) (b0 : Nat) (nb : Nat) (p0 : Nat) (u0 : Nat) (r0 : Nat) (a0 : Nat) (t0 : Nat) (s0 : Nat) (o0 : Nat) (a1 : Nat) (a2 : Nat) (a3 : Nat) (a4 : Nat) (a5 : Nat) (a6 : Nat) (i6 : Int32) (i7 : Int32) (i8 : Int32) (i12 : Int32) (i13 : Int32) (i14 : Int32) (i15 : Int32) (i16 : Int32) (i17 : Int32) (i18 : Int32) (i19 : Int32) (i9 : Int64) (i10 : Int64) (i11 : Int64) (nx : Nat) (kp : Nat) (fr : Nat → Int32) (i : Int32) (j : Int32) (sz : Nat) (hl9 : l.stackTraces = false) (hnx : nx < 60) (hkp : kp ≤ 60) : vx_Met l yX9_entry wsX9_entry ({ frames := 7, cells := 2, slots := 12, locals := 112 }) (va_Pc [.ref h0, .int i, .int j] (Wd D cA sa [(oX9 h0 b0 (nI nb) p0 u0 r0 a0 t0 s0 o0), (oX0 a0 p0 a1 a3 a4 a5 a6 i6 i7 i8 i9 i10 i11 i12 i13 i14 i15 i16 i17 i18 i19), (a1, .inr (6, [.ref a2, .int (nI nx), .int (nI kp)])), (a2, .inl (cA 0, 240, .inl fr))] sz)) (va_Qi (fun (r : Int32) (_ : Unit) => True) (fun (_ : Unit) t => Wq D (va_A [(oX9 h0 b0 (nI nb) p0 u0 r0 a0 t0 s0 o0), (oX0 a0 p0 a1 a3 a4 a5 a6 i6 i7 i8 i9 i10 i11 i12 i13 i14 i15 i16 i17 i18 i19), (a1, .inr (6, [.ref a2, .int (nI nx), .int (nI kp)])), (a2, .inl (cA 0, 240, .inl fr))] sz) [(oX9 h0 b0 (nI nb) p0 u0 r0 a0 t0 s0 o0), (oX0 a0 p0 a1 a3 a4 a5 a6 i6 i7 i8 i9 i10 i11 i12 i13 i14 i15 i16 i17 i18 i19), (a1, .inr (6, [.ref a2, .int (nI nx), .int (nI kp)])), (a2, .inl (cA 0, 240, .inl fr))] t) (va_A [(oX9 h0 b0 (nI nb) p0 u0 r0 a0 t0 s0 o0), (oX0 a0 p0 a1 a3 a4 a5 a6 i6 i7 i8 i9 i10 i11 i12 i13 i14 i15 i16 i17 i18 i19), (a1, .inr (6, [.ref a2, .int (nI nx), .int (nI kp)])), (a2, .inl (cA 0, 240, .inl fr))] sz)) (vx_X (fun _ : Unit => True) (fun E _ t => (E = "java/lang/IndexOutOfBoundsException" ∨ E = "java/lang/IllegalArgumentException") ∧ Wq D (va_A [(oX9 h0 b0 (nI nb) p0 u0 r0 a0 t0 s0 o0), (oX0 a0 p0 a1 a3 a4 a5 a6 i6 i7 i8 i9 i10 i11 i12 i13 i14 i15 i16 i17 i18 i19), (a1, .inr (6, [.ref a2, .int (nI nx), .int (nI kp)])), (a2, .inl (cA 0, 240, .inl fr))] sz) [(oX9 h0 b0 (nI nb) p0 u0 r0 a0 t0 s0 o0), (oX0 a0 p0 a1 a3 a4 a5 a6 i6 i7 i8 i9 i10 i11 i12 i13 i14 i15 i16 i17 i18 i19), (a1, .inr (6, [.ref a2, .int (nI nx), .int (nI kp)])), (a2, .inl (cA 0, 240, .inl fr))] t) (va_A [(oX9 h0 b0 (nI nb) p0 u0 r0 a0 t0 s0 o0), (oX0 a0 p0 a1 a3 a4 a5 a6 i6 i7 i8 i9 i10 i11 i12 i13 i14 i15 i16 i17 i18 i19), (a1, .inr (6, [.ref a2, .int (nI nx), .int (nI kp)])), (a2, .inl (cA 0, 240, .inl fr))] sz)) 2 12 (va_A [(oX9 h0 b0 (nI nb) p0 u0 r0 a0 t0 s0 o0), (oX0 a0 p0 a1 a3 a4 a5 a6 i6 i7 i8 i9 i10 i11 i12 i13 i14 i15 i16 i17 i18 i19), (a1, .inr (6, [.ref a2, .int (nI nx), .int (nI kp)])), (a2, .inl (cA 0, 240, .inl fr))] sz) := by
  refine vx_ofW (cc := cX9_entry) (maxL := 3) (ret := (some .int)) (by decide) rfl ?_
  intro p e s m args below meth c s₁ B hml hno hv
  obtain ⟨rfl, hsz, hP, hK, hD0, hC, hZ⟩ := hv
  have hx := B.exec
  have hb := B.bytes
  have hr := B.returns
  have hts := atoms_spec (ws := wsX9_entry) B.pre
  have hown : s.vm.findClass RX9 = some m.cls := findClass_of_methodNamed B.named
  have hlocks := B.notSynchronized
  subst hsz
  have hD := hD0.self (sz := s.heap.size)
  generalize hAe : va_A [(oX9 h0 b0 (nI nb) p0 u0 r0 a0 t0 s0 o0), (oX0 a0 p0 a1 a3 a4 a5 a6 i6 i7 i8 i9 i10 i11 i12 i13 i14 i15 i16 i17 i18 i19), (a1, .inr (6, [.ref a2, .int (nI nx), .int (nI kp)])), (a2, .inl (cA 0, 240, .inl fr))] s.heap.size = A at hD hZ ⊢
  have hA : ∀ q : Nat, s.heap.size ≤ q → A q := fun q h => by rw [← hAe]; exact Or.inr h
  have hS : va_S A s.heap s.heap [] := va_S.rf
  have hP : va_P D vwCl [(oX9 h0 b0 (nI nb) p0 u0 r0 a0 t0 s0 o0), (oX0 a0 p0 a1 a3 a4 a5 a6 i6 i7 i8 i9 i10 i11 i12 i13 i14 i15 i16 i17 i18 i19), (a1, .inr (6, [.ref a2, .int (nI nx), .int (nI kp)])), (a2, .inl (cA 0, 240, .inl fr))] s.heap := hP
  have hl := lv_entry ([.ref h0, .int i, .int j]) (n := 3) (Nat.le_of_ble_eq_true rfl)
  rw [lg_entry_eq]
  generalize (lg_sl ([.ref h0, .int i, .int j]) ++ List.replicate (3 - (lg_sl ([.ref h0, .int i, .int j])).length) Slot.unset).toArray = ls at hl ⊢
  have hl : lv_has ls 3 [(0, .ref h0), (1, .int i), (2, .int j)] := hl
  have inX0 : ∀ w ∈ u_ws RX0 TX0 20, w ∈ wsX9_entry := by decide +kernel
  have inX2 : ∀ w ∈ u_ws RX2 TX2 3, w ∈ wsX9_entry := by decide +kernel
  have inX9 : ∀ w ∈ u_ws RX9 TX9 9, w ∈ wsX9_entry := by decide +kernel
  refine lv_iload_n hx hb dX9_entry_0 rfl (lv_at hl 1 rfl) ?_
  refine lv_aload_n hx hb dX9_entry_1 rfl (lv_at hl 0 rfl) ?_
  refine va_get (D := D) (ci := 10) (v := .ref a0) (C := RX9) (T := TX9) (N := 9) hx hb hts inX9 hown hK hP 0 rfl rfl 5 (by decide) (hts (.fieldLink RX9 35 "EscrowDesk" "account" "LEscrowDesk$Account;") (by decide +kernel)) (fun _ h9 => h9) rfl dX9_entry_2 ?_
  refine va_getN (D := D) (ci := 4) (v := .ref a1) (C := RX0) (T := TX0) (N := 20) hx hb hts inX0 hown hK hP 1 rfl rfl 1 (by decide) (hC.f (A := _) (a := RX9) (i := 347) (b := "EscrowDesk$Account") (n := "ledger") (d := "LEscrowDesk$Ledger;") (x := "EscrowDesk") (by decide +kernel)) (fun _ h9 => h9) rfl dX9_entry_5 ?_
  refine va_getN (D := D) (ci := 6) (v := .int (nI kp)) (C := RX2) (T := TX2) (N := 3) hx hb hts inX2 hown hK hP 2 rfl rfl 2 (by decide) (hC.f (A := _) (a := RX9) (i := 351) (b := "EscrowDesk$Ledger") (n := "kept") (d := "I") (x := "EscrowDesk") (by decide +kernel)) (fun _ h9 => h9) rfl dX9_entry_8 ?_
  obtain ⟨hPc, hDc, hFc⟩ := PDq.cut (wc := []) hP hD hS hA [] (by decide) rfl
  refine vx_callv (vx_runS (As := [.int i, .int (nI kp)]) (rest := []) ⟨hx, hb, hml, hown, hts⟩ (s_needIndex l D cA sa i kp s.heap.size hl9 (by omega)) (va_cwS 2 hts gX9_entry_X9_needIndex rfl rfl rfl (by decide +kernel) ⟨(Nat.le_of_ble_eq_true rfl), (Nat.le_of_ble_eq_true rfl)⟩) ⟨Wd.blind, fun U hU hW => ⟨rfl, Wd.call hPc hDc hK hC hZ hS hFc U hU hW⟩⟩ rfl rfl hl.1 rfl (lv_room (Nat.le_of_ble_eq_true rfl)) dX9_entry_11 ⟨(Nat.le_of_ble_eq_true rfl), (Nat.le_of_ble_eq_true rfl)⟩) hS (fun q _ h => hFc q h) hFc (fun q _ h => hFc q h) (fun E ce q9 u t H1 locs ht hvm hpx hE hz1 hk1 hS hcell hv9 hcl => ?_) (fun u t H1 locs ht hvm hw hB hz1 hk1 hS => ?_)
  · skip
    obtain ⟨hE, hP1, hD1⟩ := hE
    rw [ht] at hP1
    obtain ⟨hP, hD⟩ := PDq.join (w := [(oX9 h0 b0 (nI nb) p0 u0 r0 a0 t0 s0 o0), (oX0 a0 p0 a1 a3 a4 a5 a6 i6 i7 i8 i9 i10 i11 i12 i13 i14 i15 i16 i17 i18 i19), (a1, .inr (6, [.ref a2, .int (nI nx), .int (nI kp)])), (a2, .inl (cA 0, 240, .inl fr))]) 4 hP hD [] [0, 1, 2, 3] rfl rfl (by decide) (by decide) hk1 hFc hP1 hD1 rfl
    generalize H1 = H at hP hS hcell ⊢
    obtain ⟨hP9, hD9⟩ := PDq.sub (ws' := [(oX9 h0 b0 (nI nb) p0 u0 r0 a0 t0 s0 o0), (oX0 a0 p0 a1 a3 a4 a5 a6 i6 i7 i8 i9 i10 i11 i12 i13 i14 i15 i16 i17 i18 i19), (a1, .inr (6, [.ref a2, .int (nI nx), .int (nI kp)])), (a2, .inl (cA 0, 240, .inl fr))]) hP hD [0, 1, 2, 3] (by decide) rfl
    exact vx_out (fun x h => (hno x h).elim) hlocks hcell hv9 hcl (fun t ht hvm => ⟨(), trivial, ⟨(by rw [hE]; simp), by rw [ht]; exact hP9, hD9⟩, hS.F ht⟩) hS.2.2 (Nat.le_of_ble_eq_true rfl) (Nat.le_of_ble_eq_true rfl)
  · skip
    obtain ⟨qn1, hn2, hn3, hP1, hD1⟩ := hB
    rw [ht] at hP1
    obtain ⟨hP, hD⟩ := PDq.join (w := [(oX9 h0 b0 (nI nb) p0 u0 r0 a0 t0 s0 o0), (oX0 a0 p0 a1 a3 a4 a5 a6 i6 i7 i8 i9 i10 i11 i12 i13 i14 i15 i16 i17 i18 i19), (a1, .inr (6, [.ref a2, .int (nI nx), .int (nI kp)])), (a2, .inl (cA 0, 240, .inl fr))]) 4 hP hD [] [0, 1, 2, 3] rfl rfl (by decide) (by decide) hk1 hFc hP1 hD1 rfl
    generalize H1 = H at hP hS ⊢
    rw [hn3] at hl
    have hl : lv_has ls 3 [(0, .ref h0), (1, .int (nI qn1)), (2, .int j)] := hl
    refine lv_iload_n hx hb dX9_entry_14 rfl (lv_at hl 2 rfl) ?_
    refine lv_iconst (v := 0) hx hb dX9_entry_15 (by decide) ?_
    refine lv_iconst (v := 3) hx hb dX9_entry_16 (by decide) ?_
    obtain ⟨hPc, hDc, hFc⟩ := PDq.cut (wc := []) hP hD hS hA [] (by decide) rfl
    refine vx_callv (vx_runS (As := [.int j, .int 0, .int 3]) (rest := []) ⟨hx, hb, hml, hown, hts⟩ (s_needRangeN l D cA sa j 0 3 H.size hl9 (by omega) (by omega)) (va_cwS 3 hts gX9_entry_X9_needRange rfl rfl rfl (by decide +kernel) ⟨(Nat.le_of_ble_eq_true rfl), (Nat.le_of_ble_eq_true rfl)⟩) ⟨Wd.blind, fun U hU hW => ⟨rfl, Wd.call hPc hDc hK hC hZ hS hFc U hU hW⟩⟩ rfl rfl hl.1 rfl (lv_room (Nat.le_of_ble_eq_true rfl)) dX9_entry_17 ⟨(Nat.le_of_ble_eq_true rfl), (Nat.le_of_ble_eq_true rfl)⟩) hS (fun q _ h => hFc q h) hFc (fun q _ h => hFc q h) (fun E ce q9 u t H1 locs ht hvm hpx hE hz1 hk1 hS hcell hv9 hcl => ?_) (fun u t H1 locs ht hvm hw hB hz1 hk1 hS => ?_)
    · skip
      obtain ⟨hE, hP1, hD1⟩ := hE
      rw [ht] at hP1
      obtain ⟨hP, hD⟩ := PDq.join (w := [(oX9 h0 b0 (nI nb) p0 u0 r0 a0 t0 s0 o0), (oX0 a0 p0 a1 a3 a4 a5 a6 i6 i7 i8 i9 i10 i11 i12 i13 i14 i15 i16 i17 i18 i19), (a1, .inr (6, [.ref a2, .int (nI nx), .int (nI kp)])), (a2, .inl (cA 0, 240, .inl fr))]) 4 hP hD [] [0, 1, 2, 3] rfl rfl (by decide) (by decide) hk1 hFc hP1 hD1 rfl
      generalize H1 = H at hP hS hcell ⊢
      obtain ⟨hP9, hD9⟩ := PDq.sub (ws' := [(oX9 h0 b0 (nI nb) p0 u0 r0 a0 t0 s0 o0), (oX0 a0 p0 a1 a3 a4 a5 a6 i6 i7 i8 i9 i10 i11 i12 i13 i14 i15 i16 i17 i18 i19), (a1, .inr (6, [.ref a2, .int (nI nx), .int (nI kp)])), (a2, .inl (cA 0, 240, .inl fr))]) hP hD [0, 1, 2, 3] (by decide) rfl
      exact vx_out (fun x h => (hno x h).elim) hlocks hcell hv9 hcl (fun t ht hvm => ⟨(), trivial, ⟨(by rw [hE]; simp), by rw [ht]; exact hP9, hD9⟩, hS.F ht⟩) hS.2.2 (Nat.le_of_ble_eq_true rfl) (Nat.le_of_ble_eq_true rfl)
    · skip
      obtain ⟨qn4, hn5, hn6, hn7, hP1, hD1⟩ := hB
      rw [ht] at hP1
      obtain ⟨hP, hD⟩ := PDq.join (w := [(oX9 h0 b0 (nI nb) p0 u0 r0 a0 t0 s0 o0), (oX0 a0 p0 a1 a3 a4 a5 a6 i6 i7 i8 i9 i10 i11 i12 i13 i14 i15 i16 i17 i18 i19), (a1, .inr (6, [.ref a2, .int (nI nx), .int (nI kp)])), (a2, .inl (cA 0, 240, .inl fr))]) 4 hP hD [] [0, 1, 2, 3] rfl rfl (by decide) (by decide) hk1 hFc hP1 hD1 rfl
      generalize H1 = H at hP hS ⊢
      rw [hn7] at hl
      have hl : lv_has ls 3 [(0, .ref h0), (1, .int (nI qn1)), (2, .int (nI qn4))] := hl
      refine lv_aload_n hx hb dX9_entry_20 rfl (lv_at hl 0 rfl) ?_
      refine va_get (D := D) (ci := 10) (v := .ref a0) (C := RX9) (T := TX9) (N := 9) hx hb hts inX9 hown hK hP 0 rfl rfl 5 (by decide) (hts (.fieldLink RX9 35 "EscrowDesk" "account" "LEscrowDesk$Account;") (by decide +kernel)) (fun _ h9 => h9) rfl dX9_entry_21 ?_
      refine va_getN (D := D) (ci := 4) (v := .ref a1) (C := RX0) (T := TX0) (N := 20) hx hb hts inX0 hown hK hP 1 rfl rfl 1 (by decide) (hC.f (A := _) (a := RX9) (i := 347) (b := "EscrowDesk$Account") (n := "ledger") (d := "LEscrowDesk$Ledger;") (x := "EscrowDesk") (by decide +kernel)) (fun _ h9 => h9) rfl dX9_entry_24 ?_
      refine lv_iload_n hx hb dX9_entry_27 rfl (lv_at hl 1 rfl) ?_
      refine lv_iload_n hx hb dX9_entry_28 rfl (lv_at hl 2 rfl) ?_
      obtain ⟨hPc, hDc, hFc⟩ := PDq.cut (wc := [(a1, .inr (6, [.ref a2, .int (nI nx), .int (nI kp)])), (a2, .inl (cA 0, 240, .inl fr))]) hP hD hS hA [2, 3] (by decide) rfl
      refine va_calli (va_runV (As := [.int (nI qn1), .int (nI qn4)]) (rest := []) ⟨hx, hb, hml, hown, hts⟩ (s_part l D cA sa a1 a2 nx kp qn1 qn4 fr H.size hnx hkp hn2 (by omega)) (cwV 2 hts gX9_entry_X2_partOfEntry rfl rfl rfl (by decide +kernel) ⟨(Nat.le_of_ble_eq_true rfl), (Nat.le_of_ble_eq_true rfl)⟩) ⟨Wd.blind, va_recv hK hPc (ci := 6) (q0 := 0) rfl rfl, fun U hU hW => ⟨rfl, Wd.call hPc hDc hK hC hZ hS hFc U hU hW⟩⟩ rfl rfl hl.1 rfl (lv_room (Nat.le_of_ble_eq_true rfl)) dX9_entry_29 ⟨(Nat.le_of_ble_eq_true rfl), (Nat.le_of_ble_eq_true rfl)⟩) hS (fun q _ h => hFc q h) hFc (fun rn8 u t H1 locs ht hvm hw hB hz1 hk1 hS => ?_)
      obtain ⟨hP1, hD1⟩ := hB
      rw [ht] at hP1
      obtain ⟨hP, hD⟩ := PDq.join (w := [(oX9 h0 b0 (nI nb) p0 u0 r0 a0 t0 s0 o0), (oX0 a0 p0 a1 a3 a4 a5 a6 i6 i7 i8 i9 i10 i11 i12 i13 i14 i15 i16 i17 i18 i19), (a1, .inr (6, [.ref a2, .int (nI nx), .int (nI kp)])), (a2, .inl (cA 0, 240, .inl fr))]) 2 hP hD [2, 3] [0, 1] rfl rfl (by decide) (by decide) hk1 hFc hP1 hD1 rfl
      generalize H1 = H at hP hS ⊢
      obtain ⟨hP9, hD9⟩ := PDq.sub (ws' := [(oX9 h0 b0 (nI nb) p0 u0 r0 a0 t0 s0 o0), (oX0 a0 p0 a1 a3 a4 a5 a6 i6 i7 i8 i9 i10 i11 i12 i13 i14 i15 i16 i17 i18 i19), (a1, .inr (6, [.ref a2, .int (nI nx), .int (nI kp)])), (a2, .inl (cA 0, 240, .inl fr))]) hP hD [0, 1, 2, 3] (by decide) rfl
      refine W.widen (k := 2) (n := 12) (Nat.le_of_ble_eq_true rfl) (Nat.le_of_ble_eq_true rfl) ?_
      exact vx_ret (W.iret (v := rn8) hx hb hr (fun t ht hW => ⟨⟨rn8, (), rfl, trivial, by rw [ht]; exact hP9, hD9⟩, hS.F ht⟩) hS.2.2 dX9_entry_32)

set_option maxHeartbeats 4000000 in
set_option maxRecDepth 100000 in
/-- totalOn -/
theorem s_totalOn (l : Launch) (D : va_G) (cA : Nat → ClassId) (sa : Nat → Nat) (h0 : Nat) (b0 : Nat) (nb : Nat) (p0 : Nat) (u0 : Nat) (r0 : Nat) (a0 : Nat) (t0 : Nat) (s0 : Nat) (o0 : Nat) (a1 : Nat) (a2 : Nat) (a3 : Nat) (a4 : Nat) (a5 : Nat) (a6 : Nat) (i6 : Int32) (i7 : Int32) (i8 : Int32) (i12 : Int32) (i13 : Int32) (i14 : Int32) (i15 : Int32) (i16 : Int32) (i17 : Int32) (i18 : Int32) (i19 : Int32) (i9 : Int64) (i10 : Int64) (i11 : Int64) (nx : Nat) (kp : Nat) (fr : Nat → Int32) (i : Int32) (j : Int32) (sz : Nat) (hl9 : l.stackTraces = false) (hnx : nx < 60) (hkp : kp ≤ 60) : vx_Met l yX9_totalOn wsX9_totalOn ({ frames := 7, cells := 1, slots := 6, locals := 112 }) (va_Pc [.ref h0, .int i, .int j] (Wd D cA sa [(oX9 h0 b0 (nI nb) p0 u0 r0 a0 t0 s0 o0), (oX0 a0 p0 a1 a3 a4 a5 a6 i6 i7 i8 i9 i10 i11 i12 i13 i14 i15 i16 i17 i18 i19), (a1, .inr (6, [.ref a2, .int (nI nx), .int (nI kp)])), (a2, .inl (cA 0, 240, .inl fr))] sz)) (va_Qi (fun (r : Int32) (_ : Unit) => True) (fun (_ : Unit) t => Wq D (va_A [(oX9 h0 b0 (nI nb) p0 u0 r0 a0 t0 s0 o0), (oX0 a0 p0 a1 a3 a4 a5 a6 i6 i7 i8 i9 i10 i11 i12 i13 i14 i15 i16 i17 i18 i19), (a1, .inr (6, [.ref a2, .int (nI nx), .int (nI kp)])), (a2, .inl (cA 0, 240, .inl fr))] sz) [(oX9 h0 b0 (nI nb) p0 u0 r0 a0 t0 s0 o0), (oX0 a0 p0 a1 a3 a4 a5 a6 i6 i7 i8 i9 i10 i11 i12 i13 i14 i15 i16 i17 i18 i19), (a1, .inr (6, [.ref a2, .int (nI nx), .int (nI kp)])), (a2, .inl (cA 0, 240, .inl fr))] t) (va_A [(oX9 h0 b0 (nI nb) p0 u0 r0 a0 t0 s0 o0), (oX0 a0 p0 a1 a3 a4 a5 a6 i6 i7 i8 i9 i10 i11 i12 i13 i14 i15 i16 i17 i18 i19), (a1, .inr (6, [.ref a2, .int (nI nx), .int (nI kp)])), (a2, .inl (cA 0, 240, .inl fr))] sz)) (vx_X (fun _ : Unit => True) (fun E _ t => (E = "java/lang/IllegalArgumentException") ∧ Wq D (va_A [(oX9 h0 b0 (nI nb) p0 u0 r0 a0 t0 s0 o0), (oX0 a0 p0 a1 a3 a4 a5 a6 i6 i7 i8 i9 i10 i11 i12 i13 i14 i15 i16 i17 i18 i19), (a1, .inr (6, [.ref a2, .int (nI nx), .int (nI kp)])), (a2, .inl (cA 0, 240, .inl fr))] sz) [(oX9 h0 b0 (nI nb) p0 u0 r0 a0 t0 s0 o0), (oX0 a0 p0 a1 a3 a4 a5 a6 i6 i7 i8 i9 i10 i11 i12 i13 i14 i15 i16 i17 i18 i19), (a1, .inr (6, [.ref a2, .int (nI nx), .int (nI kp)])), (a2, .inl (cA 0, 240, .inl fr))] t) (va_A [(oX9 h0 b0 (nI nb) p0 u0 r0 a0 t0 s0 o0), (oX0 a0 p0 a1 a3 a4 a5 a6 i6 i7 i8 i9 i10 i11 i12 i13 i14 i15 i16 i17 i18 i19), (a1, .inr (6, [.ref a2, .int (nI nx), .int (nI kp)])), (a2, .inl (cA 0, 240, .inl fr))] sz)) 1 6 (va_A [(oX9 h0 b0 (nI nb) p0 u0 r0 a0 t0 s0 o0), (oX0 a0 p0 a1 a3 a4 a5 a6 i6 i7 i8 i9 i10 i11 i12 i13 i14 i15 i16 i17 i18 i19), (a1, .inr (6, [.ref a2, .int (nI nx), .int (nI kp)])), (a2, .inl (cA 0, 240, .inl fr))] sz) := by
  refine vx_ofW (cc := cX9_totalOn) (maxL := 3) (ret := (some .int)) (by decide) rfl ?_
  intro p e s m args below meth c s₁ B hml hno hv
  obtain ⟨rfl, hsz, hP, hK, hD0, hC, hZ⟩ := hv
  have hx := B.exec
  have hb := B.bytes
  have hr := B.returns
  have hts := atoms_spec (ws := wsX9_totalOn) B.pre
  have hown : s.vm.findClass RX9 = some m.cls := findClass_of_methodNamed B.named
  have hlocks := B.notSynchronized
  subst hsz
  have hD := hD0.self (sz := s.heap.size)
  generalize hAe : va_A [(oX9 h0 b0 (nI nb) p0 u0 r0 a0 t0 s0 o0), (oX0 a0 p0 a1 a3 a4 a5 a6 i6 i7 i8 i9 i10 i11 i12 i13 i14 i15 i16 i17 i18 i19), (a1, .inr (6, [.ref a2, .int (nI nx), .int (nI kp)])), (a2, .inl (cA 0, 240, .inl fr))] s.heap.size = A at hD hZ ⊢
  have hA : ∀ q : Nat, s.heap.size ≤ q → A q := fun q h => by rw [← hAe]; exact Or.inr h
  have hS : va_S A s.heap s.heap [] := va_S.rf
  have hP : va_P D vwCl [(oX9 h0 b0 (nI nb) p0 u0 r0 a0 t0 s0 o0), (oX0 a0 p0 a1 a3 a4 a5 a6 i6 i7 i8 i9 i10 i11 i12 i13 i14 i15 i16 i17 i18 i19), (a1, .inr (6, [.ref a2, .int (nI nx), .int (nI kp)])), (a2, .inl (cA 0, 240, .inl fr))] s.heap := hP
  have hl := lv_entry ([.ref h0, .int i, .int j]) (n := 3) (Nat.le_of_ble_eq_true rfl)
  rw [lg_entry_eq]
  generalize (lg_sl ([.ref h0, .int i, .int j]) ++ List.replicate (3 - (lg_sl ([.ref h0, .int i, .int j])).length) Slot.unset).toArray = ls at hl ⊢
  have hl : lv_has ls 3 [(0, .ref h0), (1, .int i), (2, .int j)] := hl
  have inX0 : ∀ w ∈ u_ws RX0 TX0 20, w ∈ wsX9_totalOn := by decide +kernel
  have inX9 : ∀ w ∈ u_ws RX9 TX9 9, w ∈ wsX9_totalOn := by decide +kernel
  refine lv_iload_n hx hb dX9_totalOn_0 rfl (lv_at hl 2 rfl) ?_
  refine lv_iconst (v := 0) hx hb dX9_totalOn_1 (by decide) ?_
  refine lv_iconst (v := 4) hx hb dX9_totalOn_2 (by decide) ?_
  obtain ⟨hPc, hDc, hFc⟩ := PDq.cut (wc := []) hP hD hS hA [] (by decide) rfl
  refine vx_callv (vx_runS (As := [.int j, .int 0, .int 4]) (rest := []) ⟨hx, hb, hml, hown, hts⟩ (s_needRange l D cA sa j 0 4 s.heap.size hl9) (va_cwS 3 hts gX9_totalOn_X9_needRange rfl rfl rfl (by decide +kernel) ⟨(Nat.le_of_ble_eq_true rfl), (Nat.le_of_ble_eq_true rfl)⟩) ⟨Wd.blind, fun U hU hW => ⟨rfl, Wd.call hPc hDc hK hC hZ hS hFc U hU hW⟩⟩ rfl rfl hl.1 rfl (lv_room (Nat.le_of_ble_eq_true rfl)) dX9_totalOn_3 ⟨(Nat.le_of_ble_eq_true rfl), (Nat.le_of_ble_eq_true rfl)⟩) hS (fun q _ h => hFc q h) hFc (fun q _ h => hFc q h) (fun E ce q9 u t H1 locs ht hvm hpx hE hz1 hk1 hS hcell hv9 hcl => ?_) (fun u t H1 locs ht hvm hw hB hz1 hk1 hS => ?_)
  · skip
    obtain ⟨hE, hP1, hD1⟩ := hE
    rw [ht] at hP1
    obtain ⟨hP, hD⟩ := PDq.join (w := [(oX9 h0 b0 (nI nb) p0 u0 r0 a0 t0 s0 o0), (oX0 a0 p0 a1 a3 a4 a5 a6 i6 i7 i8 i9 i10 i11 i12 i13 i14 i15 i16 i17 i18 i19), (a1, .inr (6, [.ref a2, .int (nI nx), .int (nI kp)])), (a2, .inl (cA 0, 240, .inl fr))]) 4 hP hD [] [0, 1, 2, 3] rfl rfl (by decide) (by decide) hk1 hFc hP1 hD1 rfl
    generalize H1 = H at hP hS hcell ⊢
    obtain ⟨hP9, hD9⟩ := PDq.sub (ws' := [(oX9 h0 b0 (nI nb) p0 u0 r0 a0 t0 s0 o0), (oX0 a0 p0 a1 a3 a4 a5 a6 i6 i7 i8 i9 i10 i11 i12 i13 i14 i15 i16 i17 i18 i19), (a1, .inr (6, [.ref a2, .int (nI nx), .int (nI kp)])), (a2, .inl (cA 0, 240, .inl fr))]) hP hD [0, 1, 2, 3] (by decide) rfl
    exact vx_out (fun x h => (hno x h).elim) hlocks hcell hv9 hcl (fun t ht hvm => ⟨(), trivial, ⟨hE, by rw [ht]; exact hP9, hD9⟩, hS.F ht⟩) hS.2.2 (Nat.le_of_ble_eq_true rfl) (Nat.le_of_ble_eq_true rfl)
  · skip
    obtain ⟨hP1, hD1⟩ := hB
    rw [ht] at hP1
    obtain ⟨hP, hD⟩ := PDq.join (w := [(oX9 h0 b0 (nI nb) p0 u0 r0 a0 t0 s0 o0), (oX0 a0 p0 a1 a3 a4 a5 a6 i6 i7 i8 i9 i10 i11 i12 i13 i14 i15 i16 i17 i18 i19), (a1, .inr (6, [.ref a2, .int (nI nx), .int (nI kp)])), (a2, .inl (cA 0, 240, .inl fr))]) 4 hP hD [] [0, 1, 2, 3] rfl rfl (by decide) (by decide) hk1 hFc hP1 hD1 rfl
    generalize H1 = H at hP hS ⊢
    refine lv_aload_n hx hb dX9_totalOn_6 rfl (lv_at hl 0 rfl) ?_
    refine va_get (D := D) (ci := 10) (v := .ref a0) (C := RX9) (T := TX9) (N := 9) hx hb hts inX9 hown hK hP 0 rfl rfl 5 (by decide) (hts (.fieldLink RX9 35 "EscrowDesk" "account" "LEscrowDesk$Account;") (by decide +kernel)) (fun _ h9 => h9) rfl dX9_totalOn_7 ?_
    refine va_getN (D := D) (ci := 4) (v := .ref a1) (C := RX0) (T := TX0) (N := 20) hx hb hts inX0 hown hK hP 1 rfl rfl 1 (by decide) (hC.f (A := _) (a := RX9) (i := 347) (b := "EscrowDesk$Account") (n := "ledger") (d := "LEscrowDesk$Ledger;") (x := "EscrowDesk") (by decide +kernel)) (fun _ h9 => h9) rfl dX9_totalOn_10 ?_
    refine lv_iload_n hx hb dX9_totalOn_13 rfl (lv_at hl 1 rfl) ?_
    refine lv_iload_n hx hb dX9_totalOn_14 rfl (lv_at hl 2 rfl) ?_
    obtain ⟨hPc, hDc, hFc⟩ := PDq.cut (wc := [(a1, .inr (6, [.ref a2, .int (nI nx), .int (nI kp)])), (a2, .inl (cA 0, 240, .inl fr))]) hP hD hS hA [2, 3] (by decide) rfl
    refine va_calli (va_runV (As := [.int i, .int j]) (rest := []) ⟨hx, hb, hml, hown, hts⟩ (s_sumOn l D cA sa a1 a2 nx kp i j fr H.size hnx hkp) (cwV 2 hts gX9_totalOn_X2_sumOn rfl rfl rfl (by decide +kernel) ⟨(Nat.le_of_ble_eq_true rfl), (Nat.le_of_ble_eq_true rfl)⟩) ⟨Wd.blind, va_recv hK hPc (ci := 6) (q0 := 0) rfl rfl, fun U hU hW => ⟨rfl, Wd.call hPc hDc hK hC hZ hS hFc U hU hW⟩⟩ rfl rfl hl.1 rfl (lv_room (Nat.le_of_ble_eq_true rfl)) dX9_totalOn_15 ⟨(Nat.le_of_ble_eq_true rfl), (Nat.le_of_ble_eq_true rfl)⟩) hS (fun q _ h => hFc q h) hFc (fun rn1 u t H1 locs ht hvm hw hB hz1 hk1 hS => ?_)
    obtain ⟨hP1, hD1⟩ := hB
    rw [ht] at hP1
    obtain ⟨hP, hD⟩ := PDq.join (w := [(oX9 h0 b0 (nI nb) p0 u0 r0 a0 t0 s0 o0), (oX0 a0 p0 a1 a3 a4 a5 a6 i6 i7 i8 i9 i10 i11 i12 i13 i14 i15 i16 i17 i18 i19), (a1, .inr (6, [.ref a2, .int (nI nx), .int (nI kp)])), (a2, .inl (cA 0, 240, .inl fr))]) 2 hP hD [2, 3] [0, 1] rfl rfl (by decide) (by decide) hk1 hFc hP1 hD1 rfl
    generalize H1 = H at hP hS ⊢
    obtain ⟨hP9, hD9⟩ := PDq.sub (ws' := [(oX9 h0 b0 (nI nb) p0 u0 r0 a0 t0 s0 o0), (oX0 a0 p0 a1 a3 a4 a5 a6 i6 i7 i8 i9 i10 i11 i12 i13 i14 i15 i16 i17 i18 i19), (a1, .inr (6, [.ref a2, .int (nI nx), .int (nI kp)])), (a2, .inl (cA 0, 240, .inl fr))]) hP hD [0, 1, 2, 3] (by decide) rfl
    refine W.widen (k := 1) (n := 6) (Nat.le_of_ble_eq_true rfl) (Nat.le_of_ble_eq_true rfl) ?_
    exact vx_ret (W.iret (v := rn1) hx hb hr (fun t ht hW => ⟨⟨rn1, (), rfl, trivial, by rw [ht]; exact hP9, hD9⟩, hS.F ht⟩) hS.2.2 dX9_totalOn_18)

set_option maxHeartbeats 4000000 in
set_option maxRecDepth 100000 in
/-- busiestDay -/
theorem s_busiestDay (l : Launch) (D : va_G) (cA : Nat → ClassId) (sa : Nat → Nat) (h0 : Nat) (b0 : Nat) (nb : Nat) (p0 : Nat) (u0 : Nat) (r0 : Nat) (a0 : Nat) (t0 : Nat) (s0 : Nat) (o0 : Nat) (a1 : Nat) (a2 : Nat) (a3 : Nat) (a4 : Nat) (a5 : Nat) (a6 : Nat) (i6 : Int32) (i7 : Int32) (i8 : Int32) (i12 : Int32) (i13 : Int32) (i14 : Int32) (i15 : Int32) (i16 : Int32) (i17 : Int32) (i18 : Int32) (i19 : Int32) (i9 : Int64) (i10 : Int64) (i11 : Int64) (nx : Nat) (kp : Nat) (fr : Nat → Int32) (sz : Nat) (hnx : nx < 60) (hkp : kp ≤ 60) : Met l yX9_busiestDay wsX9_busiestDay ({ frames := 2, cells := 0, slots := 0, locals := 49 }) (va_Pc [.ref h0] (Wd D cA sa [(oX9 h0 b0 (nI nb) p0 u0 r0 a0 t0 s0 o0), (oX0 a0 p0 a1 a3 a4 a5 a6 i6 i7 i8 i9 i10 i11 i12 i13 i14 i15 i16 i17 i18 i19), (a1, .inr (6, [.ref a2, .int (nI nx), .int (nI kp)])), (a2, .inl (cA 0, 240, .inl fr))] sz)) (va_Qi (fun (r : Int32) (_ : Unit) => True) (fun (_ : Unit) t => Wq D (va_A [(oX9 h0 b0 (nI nb) p0 u0 r0 a0 t0 s0 o0), (oX0 a0 p0 a1 a3 a4 a5 a6 i6 i7 i8 i9 i10 i11 i12 i13 i14 i15 i16 i17 i18 i19), (a1, .inr (6, [.ref a2, .int (nI nx), .int (nI kp)])), (a2, .inl (cA 0, 240, .inl fr))] sz) [(oX9 h0 b0 (nI nb) p0 u0 r0 a0 t0 s0 o0), (oX0 a0 p0 a1 a3 a4 a5 a6 i6 i7 i8 i9 i10 i11 i12 i13 i14 i15 i16 i17 i18 i19), (a1, .inr (6, [.ref a2, .int (nI nx), .int (nI kp)])), (a2, .inl (cA 0, 240, .inl fr))] t) (va_A [(oX9 h0 b0 (nI nb) p0 u0 r0 a0 t0 s0 o0), (oX0 a0 p0 a1 a3 a4 a5 a6 i6 i7 i8 i9 i10 i11 i12 i13 i14 i15 i16 i17 i18 i19), (a1, .inr (6, [.ref a2, .int (nI nx), .int (nI kp)])), (a2, .inl (cA 0, 240, .inl fr))] sz)) 0 0 (va_A [(oX9 h0 b0 (nI nb) p0 u0 r0 a0 t0 s0 o0), (oX0 a0 p0 a1 a3 a4 a5 a6 i6 i7 i8 i9 i10 i11 i12 i13 i14 i15 i16 i17 i18 i19), (a1, .inr (6, [.ref a2, .int (nI nx), .int (nI kp)])), (a2, .inl (cA 0, 240, .inl fr))] sz) := by
  refine Met.ofW (cc := cX9_busiestDay) (maxL := 1) (ret := (some .int)) (by decide) rfl ?_
  intro p e s m args below meth c s₁ B hml hv
  obtain ⟨rfl, hsz, hP, hK, hD0, hC, hZ⟩ := hv
  have hx := B.exec
  have hb := B.bytes
  have hr := B.returns
  have hts := atoms_spec (ws := wsX9_busiestDay) B.pre
  have hown : s.vm.findClass RX9 = some m.cls := findClass_of_methodNamed B.named
  have hlocks := B.notSynchronized
  subst hsz
  have hD := hD0.self (sz := s.heap.size)
  generalize hAe : va_A [(oX9 h0 b0 (nI nb) p0 u0 r0 a0 t0 s0 o0), (oX0 a0 p0 a1 a3 a4 a5 a6 i6 i7 i8 i9 i10 i11 i12 i13 i14 i15 i16 i17 i18 i19), (a1, .inr (6, [.ref a2, .int (nI nx), .int (nI kp)])), (a2, .inl (cA 0, 240, .inl fr))] s.heap.size = A at hD hZ ⊢
  have hA : ∀ q : Nat, s.heap.size ≤ q → A q := fun q h => by rw [← hAe]; exact Or.inr h
  have hS : va_S A s.heap s.heap [] := va_S.rf
  have hP : va_P D vwCl [(oX9 h0 b0 (nI nb) p0 u0 r0 a0 t0 s0 o0), (oX0 a0 p0 a1 a3 a4 a5 a6 i6 i7 i8 i9 i10 i11 i12 i13 i14 i15 i16 i17 i18 i19), (a1, .inr (6, [.ref a2, .int (nI nx), .int (nI kp)])), (a2, .inl (cA 0, 240, .inl fr))] s.heap := hP
  have hl := lv_entry ([.ref h0]) (n := 1) (Nat.le_of_ble_eq_true rfl)
  rw [lg_entry_eq]
  generalize (lg_sl ([.ref h0]) ++ List.replicate (1 - (lg_sl ([.ref h0])).length) Slot.unset).toArray = ls at hl ⊢
  have hl : lv_has ls 1 [(0, .ref h0)] := hl
  have inX0 : ∀ w ∈ u_ws RX0 TX0 20, w ∈ wsX9_busiestDay := by decide +kernel
  have inX9 : ∀ w ∈ u_ws RX9 TX9 9, w ∈ wsX9_busiestDay := by decide +kernel
  refine lv_aload_n hx hb dX9_busiestDay_0 rfl (lv_at hl 0 rfl) ?_
  refine va_get (D := D) (ci := 10) (v := .ref a0) (C := RX9) (T := TX9) (N := 9) hx hb hts inX9 hown hK hP 0 rfl rfl 5 (by decide) (hts (.fieldLink RX9 35 "EscrowDesk" "account" "LEscrowDesk$Account;") (by decide +kernel)) (fun _ h9 => h9) rfl dX9_busiestDay_1 ?_
  refine va_getN (D := D) (ci := 4) (v := .ref a1) (C := RX0) (T := TX0) (N := 20) hx hb hts inX0 hown hK hP 1 rfl rfl 1 (by decide) (hC.f (A := _) (a := RX9) (i := 347) (b := "EscrowDesk$Account") (n := "ledger") (d := "LEscrowDesk$Ledger;") (x := "EscrowDesk") (by decide +kernel)) (fun _ h9 => h9) rfl dX9_busiestDay_4 ?_
  obtain ⟨hPc, hDc, hFc⟩ := PDq.cut (wc := [(a1, .inr (6, [.ref a2, .int (nI nx), .int (nI kp)])), (a2, .inl (cA 0, 240, .inl fr))]) hP hD hS hA [2, 3] (by decide) rfl
  refine va_calli (va_runV (As := []) (rest := []) ⟨hx, hb, hml, hown, hts⟩ (s_dayOfMost l D cA sa a1 a2 nx kp fr s.heap.size hnx hkp) (cwV 0 hts gX9_busiestDay_X2_dayOfMostPayments rfl rfl rfl (by decide +kernel) ⟨(Nat.le_of_ble_eq_true rfl), (Nat.le_of_ble_eq_true rfl)⟩) ⟨Wd.blind, va_recv hK hPc (ci := 6) (q0 := 0) rfl rfl, fun U hU hW => ⟨rfl, Wd.call hPc hDc hK hC hZ hS hFc U hU hW⟩⟩ rfl rfl hl.1 rfl (lv_room (Nat.le_of_ble_eq_true rfl)) dX9_busiestDay_7 ⟨(Nat.le_of_ble_eq_true rfl), (Nat.le_of_ble_eq_true rfl)⟩) hS (fun q _ h => hFc q h) hFc (fun rn1 u t H1 locs ht hvm hw hB hz1 hk1 hS => ?_)
  obtain ⟨hP1, hD1⟩ := hB
  rw [ht] at hP1
  obtain ⟨hP, hD⟩ := PDq.join (w := [(oX9 h0 b0 (nI nb) p0 u0 r0 a0 t0 s0 o0), (oX0 a0 p0 a1 a3 a4 a5 a6 i6 i7 i8 i9 i10 i11 i12 i13 i14 i15 i16 i17 i18 i19), (a1, .inr (6, [.ref a2, .int (nI nx), .int (nI kp)])), (a2, .inl (cA 0, 240, .inl fr))]) 2 hP hD [2, 3] [0, 1] rfl rfl (by decide) (by decide) hk1 hFc hP1 hD1 rfl
  generalize H1 = H at hP hS ⊢
  obtain ⟨hP9, hD9⟩ := PDq.sub (ws' := [(oX9 h0 b0 (nI nb) p0 u0 r0 a0 t0 s0 o0), (oX0 a0 p0 a1 a3 a4 a5 a6 i6 i7 i8 i9 i10 i11 i12 i13 i14 i15 i16 i17 i18 i19), (a1, .inr (6, [.ref a2, .int (nI nx), .int (nI kp)])), (a2, .inl (cA 0, 240, .inl fr))]) hP hD [0, 1, 2, 3] (by decide) rfl
  refine W.widen (k := 0) (n := 0) (Nat.le_of_ble_eq_true rfl) (Nat.le_of_ble_eq_true rfl) ?_
  exact (W.iret (v := rn1) hx hb hr (fun t ht hW => ⟨⟨rn1, (), rfl, trivial, by rw [ht]; exact hP9, hD9⟩, hS.F ht⟩) hS.2.2 dX9_busiestDay_10)

set_option maxHeartbeats 4000000 in
set_option maxRecDepth 100000 in
/-- needRange: within -/
theorem s_needRangeIn (l : Launch) (D : va_G) (cA : Nat → ClassId) (sa : Nat → Nat) (v : Nat) (lo : Nat) (hi : Nat) (sz : Nat) (hhi : hi < 2147483648) (hlv : lo ≤ v) (hvh : v ≤ hi) : Met l yX9_needRange wsX9_needRange ({ frames := 0, cells := 0, slots := 0, locals := 0 }) (va_Pc [.int (nI v), .int (nI lo), .int (nI hi)] (Wd D cA sa [] sz)) (va_Qv (fun _ : Unit => True) (fun (_ : Unit) t => Wq D (va_A [] sz) [] t) (va_A [] sz)) 0 0 (va_A [] sz) := by
  refine Met.ofW (cc := cX9_needRange) (maxL := 3) (ret := none) (by decide) rfl ?_
  intro p e s m args below meth c s₁ B hml hv
  obtain ⟨rfl, hsz, hP, hK, hD0, hC, hZ⟩ := hv
  have hx := B.exec
  have hb := B.bytes
  have hr := B.returns
  have hts := atoms_spec (ws := wsX9_needRange) B.pre
  have hown : s.vm.findClass RX9 = some m.cls := findClass_of_methodNamed B.named
  have hlocks := B.notSynchronized
  subst hsz
  have hD := hD0.self (sz := s.heap.size)
  generalize hAe : va_A [] s.heap.size = A at hD hZ ⊢
  have hA : ∀ q : Nat, s.heap.size ≤ q → A q := fun q h => by rw [← hAe]; exact Or.inr h
  have hS : va_S A s.heap s.heap [] := va_S.rf
  have hP : va_P D vwCl [] s.heap := hP
  have hl := lv_entry ([.int (nI v), .int (nI lo), .int (nI hi)]) (n := 3) (Nat.le_of_ble_eq_true rfl)
  rw [lg_entry_eq]
  generalize (lg_sl ([.int (nI v), .int (nI lo), .int (nI hi)]) ++ List.replicate (3 - (lg_sl ([.int (nI v), .int (nI lo), .int (nI hi)])).length) Slot.unset).toArray = ls at hl ⊢
  have hl : lv_has ls 3 [(0, .int (nI v)), (1, .int (nI lo)), (2, .int (nI hi))] := hl
  refine lv_iload_n hx hb dX9_needRange_0 rfl (lv_at hl 0 rfl) ?_
  refine lv_iload_n hx hb dX9_needRange_1 rfl (lv_at hl 1 rfl) ?_
  refine lv_icmp_lt (tgt := 10) hx hb dX9_needRange_2 (by decide) (fun c9 => absurd c9 (nI_nlt (a := v) (b := lo) (show lo ≤ v by omega) (by omega))) (fun c1 => ?_)
  refine lv_iload_n hx hb dX9_needRange_5 rfl (lv_at hl 0 rfl) ?_
  refine lv_iload_n hx hb dX9_needRange_6 rfl (lv_at hl 2 rfl) ?_
  refine lv_icmp_le (tgt := 21) hx hb dX9_needRange_7 (by decide) (fun c2 => ?_) (fun c9 => absurd (nI_le (a := v) (b := hi) (show v ≤ hi by omega) (by omega)) c9)
  obtain ⟨hP9, hD9⟩ := PDq.sub (ws' := []) hP hD [] (by decide) rfl
  refine W.widen (k := 0) (n := 0) (Nat.le_of_ble_eq_true rfl) (Nat.le_of_ble_eq_true rfl) ?_
  exact (W.vret hx hb hr (fun t ht hW => ⟨⟨(), rfl, trivial, by rw [ht]; exact hP9, hD9⟩, hS.F ht⟩) hS.2.2 dX9_needRange_21)

set_option maxHeartbeats 4000000 in
set_option maxRecDepth 100000 in
/-- needRange: outside -/
theorem s_needRangeOut (l : Launch) (D : va_G) (cA : Nat → ClassId) (sa : Nat → Nat) (v : Int32) (hi : Nat) (sz : Nat) (hl9 : l.stackTraces = false) (hout : v < 0 ∨ nI hi < v) : vx_Met l yX9_needRange wsX9_needRange ({ frames := 6, cells := 1, slots := 6, locals := 90 }) (va_Pc [.int v, .int 0, .int (nI hi)] (Wd D cA sa [] sz)) (va_Qv (fun _ : Unit => False) (fun (_ : Unit) t => Wq D (va_A [] sz) [] t) (va_A [] sz)) (vx_X (fun _ : Unit => True) (fun E _ t => (E = "java/lang/IllegalArgumentException") ∧ Wq D (va_A [] sz) [] t) (va_A [] sz)) 1 6 (va_A [] sz) := by
  refine vx_ofW (cc := cX9_needRange) (maxL := 3) (ret := none) (by decide) rfl ?_
  intro p e s m args below meth c s₁ B hml hno hv
  obtain ⟨rfl, hsz, hP, hK, hD0, hC, hZ⟩ := hv
  have hx := B.exec
  have hb := B.bytes
  have hr := B.returns
  have hts := atoms_spec (ws := wsX9_needRange) B.pre
  have hown : s.vm.findClass RX9 = some m.cls := findClass_of_methodNamed B.named
  have hlocks := B.notSynchronized
  subst hsz
  have hD := hD0.self (sz := s.heap.size)
  generalize hAe : va_A [] s.heap.size = A at hD hZ ⊢
  have hA : ∀ q : Nat, s.heap.size ≤ q → A q := fun q h => by rw [← hAe]; exact Or.inr h
  have hS : va_S A s.heap s.heap [] := va_S.rf
  have hP : va_P D vwCl [] s.heap := hP
  have hl := lv_entry ([.int v, .int 0, .int (nI hi)]) (n := 3) (Nat.le_of_ble_eq_true rfl)
  rw [lg_entry_eq]
  generalize (lg_sl ([.int v, .int 0, .int (nI hi)]) ++ List.replicate (3 - (lg_sl ([.int v, .int 0, .int (nI hi)])).length) Slot.unset).toArray = ls at hl ⊢
  have hl : lv_has ls 3 [(0, .int v), (1, .int 0), (2, .int (nI hi))] := hl
  refine lv_iload_n hx hb dX9_needRange_0 rfl (lv_at hl 0 rfl) ?_
  refine lv_iload_n hx hb dX9_needRange_1 rfl (lv_at hl 1 rfl) ?_
  refine lv_icmp_lt (tgt := 10) hx hb dX9_needRange_2 (by decide) (fun c1 => ?_) (fun c1 => ?_)
  · skip
    obtain ⟨hP9, hD9⟩ := PDq.sub (ws' := []) hP hD [] (by decide) rfl
    exact vx_throwSW (text := "out of range") (names := ["java/lang/RuntimeException", "java/lang/Exception"]) (A := A) hx hb hl9 hown (by decide +kernel) (by decide +kernel) (hts (.classLink RX9 279 "java/lang/IllegalArgumentException") (by decide +kernel)) (hts (.initialized "java/lang/IllegalArgumentException") (by decide +kernel)) (hC.str 0 rfl) (vx_hat (B := [.castable "java/lang/IllegalArgumentException" "java/lang/IllegalArgumentException", .declares (Bundle.initS "java/lang/RuntimeException"), .declares (Bundle.initS "java/lang/Exception"), .declares (Bundle.initS "java/lang/Throwable")]) (fun w h => hts w (by first | exact (List.mem_cons_of_mem _ (List.mem_append_right _ h)) | (revert w; decide +kernel))) (by decide +kernel) (vx_c (hC.c (by decide +kernel)) (vx_c (hC.d (by decide +kernel)) (vx_c (hC.d (by decide +kernel)) (vx_c (hC.d (by decide +kernel)) vx_n))))) (by decide +kernel) hZ.1 hZ.2.1 hS (by rw [hml]; exact hl.1) dX9_needRange_10 dX9_needRange_13 dX9_needRange_14 dX9_needRange_17 dX9_needRange_20 (fun x h => (hno x h).elim) (Nat.le_of_ble_eq_true rfl) (Nat.le_of_ble_eq_true rfl) (Nat.le_of_ble_eq_true rfl) (Nat.le_of_ble_eq_true rfl) hlocks (fun t _ h1 h2 => ⟨(), trivial, ⟨rfl, hP9.kept (fun k q hq => h2 q.1 (hP9 k q hq).lt), hD9⟩, F_of hS h1 h2⟩) hS.2.2 (Nat.le_of_ble_eq_true rfl) (Nat.le_of_ble_eq_true rfl)
  · skip
    refine lv_iload_n hx hb dX9_needRange_5 rfl (lv_at hl 0 rfl) ?_
    refine lv_iload_n hx hb dX9_needRange_6 rfl (lv_at hl 2 rfl) ?_
    refine lv_icmp_le (tgt := 21) hx hb dX9_needRange_7 (by decide) (fun c2 => ?_) (fun c2 => ?_)
    · skip
      exact absurd hout (fun h9 => h9.elim c1 (fun q9 => absurd c2 (Int32.not_le.mpr q9)))
    · skip
      obtain ⟨hP9, hD9⟩ := PDq.sub (ws' := []) hP hD [] (by decide) rfl
      exact vx_throwSW (text := "out of range") (names := ["java/lang/RuntimeException", "java/lang/Exception"]) (A := A) hx hb hl9 hown (by decide +kernel) (by decide +kernel) (hts (.classLink RX9 279 "java/lang/IllegalArgumentException") (by decide +kernel)) (hts (.initialized "java/lang/IllegalArgumentException") (by decide +kernel)) (hC.str 0 rfl) (vx_hat (B := [.castable "java/lang/IllegalArgumentException" "java/lang/IllegalArgumentException", .declares (Bundle.initS "java/lang/RuntimeException"), .declares (Bundle.initS "java/lang/Exception"), .declares (Bundle.initS "java/lang/Throwable")]) (fun w h => hts w (by first | exact (List.mem_cons_of_mem _ (List.mem_append_right _ h)) | (revert w; decide +kernel))) (by decide +kernel) (vx_c (hC.c (by decide +kernel)) (vx_c (hC.d (by decide +kernel)) (vx_c (hC.d (by decide +kernel)) (vx_c (hC.d (by decide +kernel)) vx_n))))) (by decide +kernel) hZ.1 hZ.2.1 hS (by rw [hml]; exact hl.1) dX9_needRange_10 dX9_needRange_13 dX9_needRange_14 dX9_needRange_17 dX9_needRange_20 (fun x h => (hno x h).elim) (Nat.le_of_ble_eq_true rfl) (Nat.le_of_ble_eq_true rfl) (Nat.le_of_ble_eq_true rfl) (Nat.le_of_ble_eq_true rfl) hlocks (fun t _ h1 h2 => ⟨(), trivial, ⟨rfl, hP9.kept (fun k q hq => h2 q.1 (hP9 k q hq).lt), hD9⟩, F_of hS h1 h2⟩) hS.2.2 (Nat.le_of_ble_eq_true rfl) (Nat.le_of_ble_eq_true rfl)

set_option maxHeartbeats 4000000 in
set_option maxRecDepth 100000 in
/-- load: outside -/
theorem s_loadOut (l : Launch) (D : va_G) (cA : Nat → ClassId) (sa : Nat → Nat) (h0 : Nat) (b0 : Nat) (nb : Nat) (p0 : Nat) (u0 : Nat) (r0 : Nat) (a0 : Nat) (t0 : Nat) (s0 : Nat) (o0 : Nat) (i : Int32) (sz : Nat) (hl9 : l.stackTraces = false) (hout : i < 0 ∨ nI nb < i) : vx_Met l yX9_load wsX9_load ({ frames := 7, cells := 1, slots := 6, locals := 112 }) (va_Pc [.ref h0, .int i] (Wd D cA sa [(oX9 h0 b0 (nI nb) p0 u0 r0 a0 t0 s0 o0)] sz)) (va_Qi (fun (_ : Int32) (_ : Unit) => False) (fun (_ : Unit) t => Wq D (va_A [(oX9 h0 b0 (nI nb) p0 u0 r0 a0 t0 s0 o0)] sz) [(oX9 h0 b0 (nI nb) p0 u0 r0 a0 t0 s0 o0)] t) (va_A [(oX9 h0 b0 (nI nb) p0 u0 r0 a0 t0 s0 o0)] sz)) (vx_X (fun _ : Unit => True) (fun E _ t => (E = "java/lang/IllegalArgumentException") ∧ Wq D (va_A [(oX9 h0 b0 (nI nb) p0 u0 r0 a0 t0 s0 o0)] sz) [(oX9 h0 b0 (nI nb) p0 u0 r0 a0 t0 s0 o0)] t) (va_A [(oX9 h0 b0 (nI nb) p0 u0 r0 a0 t0 s0 o0)] sz)) 1 6 (va_A [(oX9 h0 b0 (nI nb) p0 u0 r0 a0 t0 s0 o0)] sz) := by
  refine vx_ofW (cc := cX9_load) (maxL := 4) (ret := (some .int)) (by decide) rfl ?_
  intro p e s m args below meth c s₁ B hml hno hv
  obtain ⟨rfl, hsz, hP, hK, hD0, hC, hZ⟩ := hv
  have hx := B.exec
  have hb := B.bytes
  have hr := B.returns
  have hts := atoms_spec (ws := wsX9_load) B.pre
  have hown : s.vm.findClass RX9 = some m.cls := findClass_of_methodNamed B.named
  have hlocks := B.notSynchronized
  subst hsz
  have hD := hD0.self (sz := s.heap.size)
  generalize hAe : va_A [(oX9 h0 b0 (nI nb) p0 u0 r0 a0 t0 s0 o0)] s.heap.size = A at hD hZ ⊢
  have hA : ∀ q : Nat, s.heap.size ≤ q → A q := fun q h => by rw [← hAe]; exact Or.inr h
  have hS : va_S A s.heap s.heap [] := va_S.rf
  have hP : va_P D vwCl [(oX9 h0 b0 (nI nb) p0 u0 r0 a0 t0 s0 o0)] s.heap := hP
  have hl := lv_entry ([.ref h0, .int i]) (n := 4) (Nat.le_of_ble_eq_true rfl)
  rw [lg_entry_eq]
  generalize (lg_sl ([.ref h0, .int i]) ++ List.replicate (4 - (lg_sl ([.ref h0, .int i])).length) Slot.unset).toArray = ls at hl ⊢
  have hl : lv_has ls 4 [(0, .ref h0), (1, .int i)] := hl
  have inX9 : ∀ w ∈ u_ws RX9 TX9 9, w ∈ wsX9_load := by decide +kernel
  refine lv_iload_n hx hb dX9_load_0 rfl (lv_at hl 1 rfl) ?_
  refine lv_iconst (v := 0) hx hb dX9_load_1 (by decide) ?_
  refine lv_aload_n hx hb dX9_load_2 rfl (lv_at hl 0 rfl) ?_
  refine va_get (D := D) (ci := 10) (v := .int (nI nb)) (C := RX9) (T := TX9) (N := 9) hx hb hts inX9 hown hK hP 0 rfl rfl 1 (by decide) (hts (.fieldLink RX9 59 "EscrowDesk" "buffered" "I") (by decide +kernel)) (fun _ h9 => h9) rfl dX9_load_3 ?_
  obtain ⟨hPc, hDc, hFc⟩ := PDq.cut (wc := []) hP hD hS hA [] (by decide) rfl
  refine vx_callv (vx_runS (As := [.int i, .int 0, .int (nI nb)]) (rest := []) ⟨hx, hb, hml, hown, hts⟩ (s_needRangeOut l D cA sa i nb s.heap.size hl9 hout) (va_cwS 3 hts gX9_load_X9_needRange rfl rfl rfl (by decide +kernel) ⟨(Nat.le_of_ble_eq_true rfl), (Nat.le_of_ble_eq_true rfl)⟩) ⟨Wd.blind, fun U hU hW => ⟨rfl, Wd.call hPc hDc hK hC hZ hS hFc U hU hW⟩⟩ rfl rfl hl.1 rfl (lv_room (Nat.le_of_ble_eq_true rfl)) dX9_load_6 ⟨(Nat.le_of_ble_eq_true rfl), (Nat.le_of_ble_eq_true rfl)⟩) hS (fun q _ h => hFc q h) hFc (fun q _ h => hFc q h) (fun E ce q9 u t H1 locs ht hvm hpx hE hz1 hk1 hS hcell hv9 hcl => ?_) (fun u t H1 locs ht hvm hw hB hz1 hk1 hS => ?_)
  · skip
    obtain ⟨hE, hP1, hD1⟩ := hE
    rw [ht] at hP1
    obtain ⟨hP, hD⟩ := PDq.join (w := [(oX9 h0 b0 (nI nb) p0 u0 r0 a0 t0 s0 o0)]) 1 hP hD [] [0] rfl rfl (by decide) (by decide) hk1 hFc hP1 hD1 rfl
    generalize H1 = H at hP hS hcell ⊢
    obtain ⟨hP9, hD9⟩ := PDq.sub (ws' := [(oX9 h0 b0 (nI nb) p0 u0 r0 a0 t0 s0 o0)]) hP hD [0] (by decide) rfl
    exact vx_out (fun x h => (hno x h).elim) hlocks hcell hv9 hcl (fun t ht hvm => ⟨(), trivial, ⟨hE, by rw [ht]; exact hP9, hD9⟩, hS.F ht⟩) hS.2.2 (Nat.le_of_ble_eq_true rfl) (Nat.le_of_ble_eq_true rfl)
  · skip
    exact hw.elim

set_option maxHeartbeats 4000000 in
set_option maxRecDepth 100000 in
/-- feed: full -/
theorem s_feedFull (l : Launch) (D : va_G) (cA : Nat → ClassId) (sa : Nat → Nat) (h0 : Nat) (b0 : Nat) (nb : Nat) (p0 : Nat) (u0 : Nat) (r0 : Nat) (a0 : Nat) (t0 : Nat) (s0 : Nat) (o0 : Nat) (w1 : Int32) (w2 : Int32) (w3 : Int32) (w4 : Int32) (w5 : Int32) (sz : Nat) (hnb : 700 < nb + 20) (hnb2 : nb ≤ 700) : Met l yX9_feed wsX9_feed ({ frames := 0, cells := 0, slots := 0, locals := 0 }) (va_Pc [.ref h0, .int w1, .int w2, .int w3, .int w4, .int w5] (Wd D cA sa [(oX9 h0 b0 (nI nb) p0 u0 r0 a0 t0 s0 o0)] sz)) (va_Qi (fun (r : Int32) (_ : Unit) => r = (-2)) (fun (_ : Unit) t => Wq D (va_A [(oX9 h0 b0 (nI nb) p0 u0 r0 a0 t0 s0 o0)] sz) [(oX9 h0 b0 (nI nb) p0 u0 r0 a0 t0 s0 o0)] t) (va_A [(oX9 h0 b0 (nI nb) p0 u0 r0 a0 t0 s0 o0)] sz)) 0 0 (va_A [(oX9 h0 b0 (nI nb) p0 u0 r0 a0 t0 s0 o0)] sz) := by
  refine Met.ofW (cc := cX9_feed) (maxL := 6) (ret := (some .int)) (by decide) rfl ?_
  intro p e s m args below meth c s₁ B hml hv
  obtain ⟨rfl, hsz, hP, hK, hD0, hC, hZ⟩ := hv
  have hx := B.exec
  have hb := B.bytes
  have hr := B.returns
  have hts := atoms_spec (ws := wsX9_feed) B.pre
  have hown : s.vm.findClass RX9 = some m.cls := findClass_of_methodNamed B.named
  have hlocks := B.notSynchronized
  subst hsz
  have hD := hD0.self (sz := s.heap.size)
  generalize hAe : va_A [(oX9 h0 b0 (nI nb) p0 u0 r0 a0 t0 s0 o0)] s.heap.size = A at hD hZ ⊢
  have hA : ∀ q : Nat, s.heap.size ≤ q → A q := fun q h => by rw [← hAe]; exact Or.inr h
  have hS : va_S A s.heap s.heap [] := va_S.rf
  have hP : va_P D vwCl [(oX9 h0 b0 (nI nb) p0 u0 r0 a0 t0 s0 o0)] s.heap := hP
  have hl := lv_entry ([.ref h0, .int w1, .int w2, .int w3, .int w4, .int w5]) (n := 6) (Nat.le_of_ble_eq_true rfl)
  rw [lg_entry_eq]
  generalize (lg_sl ([.ref h0, .int w1, .int w2, .int w3, .int w4, .int w5]) ++ List.replicate (6 - (lg_sl ([.ref h0, .int w1, .int w2, .int w3, .int w4, .int w5])).length) Slot.unset).toArray = ls at hl ⊢
  have hl : lv_has ls 6 [(0, .ref h0), (1, .int w1), (2, .int w2), (3, .int w3), (4, .int w4), (5, .int w5)] := hl
  have inX9 : ∀ w ∈ u_ws RX9 TX9 9, w ∈ wsX9_feed := by decide +kernel
  refine lv_aload_n hx hb dX9_feed_0 rfl (lv_at hl 0 rfl) ?_
  refine va_get (D := D) (ci := 10) (v := .int (nI nb)) (C := RX9) (T := TX9) (N := 9) hx hb hts inX9 hown hK hP 0 rfl rfl 1 (by decide) (hts (.fieldLink RX9 59 "EscrowDesk" "buffered" "I") (by decide +kernel)) (fun _ h9 => h9) rfl dX9_feed_1 ?_
  refine lv_bipush (v := 20) hx hb dX9_feed_4 (by decide) ?_
  refine lv_iadd hx hb dX9_feed_6 ?_
  refine lv_topi (fun yn1 eyn1 => ?_)
  obtain rfl : yn1 = (nI (nb + 20)) := eyn1.trans (nI_add nb 20)
  refine lv_sipush (v := 700) hx hb dX9_feed_7 (by decide) ?_
  refine lv_icmp_le (tgt := 16) hx hb dX9_feed_10 (by decide) (fun c9 => absurd c9 (nI_ge (a := 700) (b := (nb + 20)) (show 700 < (nb + 20) by omega) (by omega))) (fun c2 => ?_)
  refine lv_bipush (v := (-2)) hx hb dX9_feed_13 (by decide) ?_
  obtain ⟨hP9, hD9⟩ := PDq.sub (ws' := [(oX9 h0 b0 (nI nb) p0 u0 r0 a0 t0 s0 o0)]) hP hD [0] (by decide) rfl
  refine W.widen (k := 0) (n := 0) (Nat.le_of_ble_eq_true rfl) (Nat.le_of_ble_eq_true rfl) ?_
  exact (W.iret (v := (-2)) hx hb hr (fun t ht hW => ⟨⟨(-2), (), rfl, rfl, by rw [ht]; exact hP9, hD9⟩, hS.F ht⟩) hS.2.2 dX9_feed_15)

set_option maxHeartbeats 4000000 in
set_option maxRecDepth 100000 in
/-- kindOf -/
theorem x_kindOf (l : Launch) (D : va_G) (cA : Nat → ClassId) (sa : Nat → Nat) (a : Int32) (sz : Nat) : Met l yX5_kindOf wsX5_kindOf ({ frames := 0, cells := 0, slots := 0, locals := 0 }) (va_Pc [.int a] (Wd D cA sa [] sz)) (va_Qi (fun (r : Int32) (_ : Unit) => r = ckd a) (fun (_ : Unit) t => Wq D (va_A [] sz) [] t) (va_A [] sz)) 0 0 (va_A [] sz) := by
  refine Met.ofW (cc := cX5_kindOf) (maxL := 1) (ret := (some .int)) (by decide) rfl ?_
  intro p e s m args below meth c s₁ B hml hv
  obtain ⟨rfl, hsz, hP, hK, hD0, hC, hZ⟩ := hv
  have hx := B.exec
  have hb := B.bytes
  have hr := B.returns
  have hts := atoms_spec (ws := wsX5_kindOf) B.pre
  have hown : s.vm.findClass RX5 = some m.cls := findClass_of_methodNamed B.named
  have hlocks := B.notSynchronized
  subst hsz
  have hD := hD0.self (sz := s.heap.size)
  generalize hAe : va_A [] s.heap.size = A at hD hZ ⊢
  have hA : ∀ q : Nat, s.heap.size ≤ q → A q := fun q h => by rw [← hAe]; exact Or.inr h
  have hS : va_S A s.heap s.heap [] := va_S.rf
  have hP : va_P D vwCl [] s.heap := hP
  have hl := lv_entry ([.int a]) (n := 1) (Nat.le_of_ble_eq_true rfl)
  rw [lg_entry_eq]
  generalize (lg_sl ([.int a]) ++ List.replicate (1 - (lg_sl ([.int a])).length) Slot.unset).toArray = ls at hl ⊢
  have hl : lv_has ls 1 [(0, .int a)] := hl
  refine lv_iload_n hx hb dX5_kindOf_0 rfl (lv_at hl 0 rfl) ?_
  refine lv_bipush (v := 97) hx hb dX5_kindOf_1 (by decide) ?_
  refine lv_icmp_lt (tgt := 14) hx hb dX5_kindOf_3 (by decide) (fun c1 => ?_) (fun c1 => ?_)
  · skip
    refine lv_iload_n hx hb dX5_kindOf_14 rfl (lv_at hl 0 rfl) ?_
    refine lv_bipush (v := 48) hx hb dX5_kindOf_15 (by decide) ?_
    refine lv_icmp_lt (tgt := 28) hx hb dX5_kindOf_17 (by decide) (fun c2 => ?_) (fun c2 => ?_)
    · skip
      refine lv_iload_n hx hb dX5_kindOf_28 rfl (lv_at hl 0 rfl) ?_
      refine lv_bipush (v := 32) hx hb dX5_kindOf_29 (by decide) ?_
      refine lv_icmp_eq (tgt := 40) hx hb dX5_kindOf_31 (by decide) (fun c3 => ?_) (fun c3 => ?_)
      · skip
        rw [c3] at hl
        have hl : lv_has ls 1 [(0, .int 32)] := hl
        refine lv_iconst (v := 0) hx hb dX5_kindOf_40 (by decide) ?_
        obtain ⟨hP9, hD9⟩ := PDq.sub (ws' := []) hP hD [] (by decide) rfl
        refine W.widen (k := 0) (n := 0) (Nat.le_of_ble_eq_true rfl) (Nat.le_of_ble_eq_true rfl) ?_
        exact (W.iret (v := 0) hx hb hr (fun t ht hW => ⟨⟨0, (), rfl, (by unfold ckd; rw [if_neg (fun q : 97 ≤ a ∧ a ≤ 122 => absurd q.1 (Int32.not_le.mpr c1)), if_neg (fun q : 48 ≤ a ∧ a ≤ 57 => absurd q.1 (Int32.not_le.mpr c2)), if_pos (Or.inl c3)]), by rw [ht]; exact hP9, hD9⟩, hS.F ht⟩) hS.2.2 dX5_kindOf_41)
      · skip
        refine lv_iload_n hx hb dX5_kindOf_34 rfl (lv_at hl 0 rfl) ?_
        refine lv_bipush (v := 10) hx hb dX5_kindOf_35 (by decide) ?_
        refine lv_icmp_ne (tgt := 42) hx hb dX5_kindOf_37 (by decide) (fun c4 => ?_) (fun c4 => ?_)
        · skip
          refine lv_iload_n hx hb dX5_kindOf_42 rfl (lv_at hl 0 rfl) ?_
          refine lv_bipush (v := 40) hx hb dX5_kindOf_43 (by decide) ?_
          refine lv_icmp_ne (tgt := 50) hx hb dX5_kindOf_45 (by decide) (fun c5 => ?_) (fun c5 => ?_)
          · skip
            refine lv_iload_n hx hb dX5_kindOf_50 rfl (lv_at hl 0 rfl) ?_
            refine lv_bipush (v := 41) hx hb dX5_kindOf_51 (by decide) ?_
            refine lv_icmp_ne (tgt := 59) hx hb dX5_kindOf_53 (by decide) (fun c6 => ?_) (fun c6 => ?_)
            · skip
              refine lv_iload_n hx hb dX5_kindOf_59 rfl (lv_at hl 0 rfl) ?_
              refine lv_bipush (v := 59) hx hb dX5_kindOf_60 (by decide) ?_
              refine lv_icmp_ne (tgt := 70) hx hb dX5_kindOf_62 (by decide) (fun c7 => ?_) (fun c7 => ?_)
              · skip
                refine lv_iconst (v := 2) hx hb dX5_kindOf_70 (by decide) ?_
                obtain ⟨hP9, hD9⟩ := PDq.sub (ws' := []) hP hD [] (by decide) rfl
                refine W.widen (k := 0) (n := 0) (Nat.le_of_ble_eq_true rfl) (Nat.le_of_ble_eq_true rfl) ?_
                exact (W.iret (v := 2) hx hb hr (fun t ht hW => ⟨⟨2, (), rfl, (by unfold ckd; rw [if_neg (fun q : 97 ≤ a ∧ a ≤ 122 => absurd q.1 (Int32.not_le.mpr c1)), if_neg (fun q : 48 ≤ a ∧ a ≤ 57 => absurd q.1 (Int32.not_le.mpr c2)), if_neg (fun q : a = 32 ∨ a = 10 => q.elim c3 c4), if_neg c5, if_neg c6, if_neg c7]), by rw [ht]; exact hP9, hD9⟩, hS.F ht⟩) hS.2.2 dX5_kindOf_71)
              · skip
                rw [c7] at hl
                have hl : lv_has ls 1 [(0, .int 59)] := hl
                refine lv_bipush (v := 7) hx hb dX5_kindOf_65 (by decide) ?_
                refine lv_goto (tgt := 71) hx hb dX5_kindOf_67 (by decide) ?_
                obtain ⟨hP9, hD9⟩ := PDq.sub (ws' := []) hP hD [] (by decide) rfl
                refine W.widen (k := 0) (n := 0) (Nat.le_of_ble_eq_true rfl) (Nat.le_of_ble_eq_true rfl) ?_
                exact (W.iret (v := 7) hx hb hr (fun t ht hW => ⟨⟨7, (), rfl, (by unfold ckd; rw [if_neg (fun q : 97 ≤ a ∧ a ≤ 122 => absurd q.1 (Int32.not_le.mpr c1)), if_neg (fun q : 48 ≤ a ∧ a ≤ 57 => absurd q.1 (Int32.not_le.mpr c2)), if_neg (fun q : a = 32 ∨ a = 10 => q.elim c3 c4), if_neg c5, if_neg c6, if_pos c7]), by rw [ht]; exact hP9, hD9⟩, hS.F ht⟩) hS.2.2 dX5_kindOf_71)
            · skip
              rw [c6] at hl
              have hl : lv_has ls 1 [(0, .int 41)] := hl
              refine lv_bipush (v := 6) hx hb dX5_kindOf_56 (by decide) ?_
              obtain ⟨hP9, hD9⟩ := PDq.sub (ws' := []) hP hD [] (by decide) rfl
              refine W.widen (k := 0) (n := 0) (Nat.le_of_ble_eq_true rfl) (Nat.le_of_ble_eq_true rfl) ?_
              exact (W.iret (v := 6) hx hb hr (fun t ht hW => ⟨⟨6, (), rfl, (by unfold ckd; rw [if_neg (fun q : 97 ≤ a ∧ a ≤ 122 => absurd q.1 (Int32.not_le.mpr c1)), if_neg (fun q : 48 ≤ a ∧ a ≤ 57 => absurd q.1 (Int32.not_le.mpr c2)), if_neg (fun q : a = 32 ∨ a = 10 => q.elim c3 c4), if_neg c5, if_pos c6]), by rw [ht]; exact hP9, hD9⟩, hS.F ht⟩) hS.2.2 dX5_kindOf_58)
          · skip
            rw [c5] at hl
            have hl : lv_has ls 1 [(0, .int 40)] := hl
            refine lv_iconst (v := 5) hx hb dX5_kindOf_48 (by decide) ?_
            obtain ⟨hP9, hD9⟩ := PDq.sub (ws' := []) hP hD [] (by decide) rfl
            refine W.widen (k := 0) (n := 0) (Nat.le_of_ble_eq_true rfl) (Nat.le_of_ble_eq_true rfl) ?_
            exact (W.iret (v := 5) hx hb hr (fun t ht hW => ⟨⟨5, (), rfl, (by unfold ckd; rw [if_neg (fun q : 97 ≤ a ∧ a ≤ 122 => absurd q.1 (Int32.not_le.mpr c1)), if_neg (fun q : 48 ≤ a ∧ a ≤ 57 => absurd q.1 (Int32.not_le.mpr c2)), if_neg (fun q : a = 32 ∨ a = 10 => q.elim c3 c4), if_pos c5]), by rw [ht]; exact hP9, hD9⟩, hS.F ht⟩) hS.2.2 dX5_kindOf_49)
        · skip
          rw [c4] at hl
          have hl : lv_has ls 1 [(0, .int 10)] := hl
          refine lv_iconst (v := 0) hx hb dX5_kindOf_40 (by decide) ?_
          obtain ⟨hP9, hD9⟩ := PDq.sub (ws' := []) hP hD [] (by decide) rfl
          refine W.widen (k := 0) (n := 0) (Nat.le_of_ble_eq_true rfl) (Nat.le_of_ble_eq_true rfl) ?_
          exact (W.iret (v := 0) hx hb hr (fun t ht hW => ⟨⟨0, (), rfl, (by unfold ckd; rw [if_neg (fun q : 97 ≤ a ∧ a ≤ 122 => absurd q.1 (Int32.not_le.mpr c1)), if_neg (fun q : 48 ≤ a ∧ a ≤ 57 => absurd q.1 (Int32.not_le.mpr c2)), if_pos (Or.inr c4)]), by rw [ht]; exact hP9, hD9⟩, hS.F ht⟩) hS.2.2 dX5_kindOf_41)
    · skip
      refine lv_iload_n hx hb dX5_kindOf_20 rfl (lv_at hl 0 rfl) ?_
      refine lv_bipush (v := 57) hx hb dX5_kindOf_21 (by decide) ?_
      refine lv_icmp_gt (tgt := 28) hx hb dX5_kindOf_23 (by decide) (fun c8 => ?_) (fun c8 => ?_)
      · skip
        refine lv_iload_n hx hb dX5_kindOf_28 rfl (lv_at hl 0 rfl) ?_
        refine lv_bipush (v := 32) hx hb dX5_kindOf_29 (by decide) ?_
        refine lv_icmp_eq (tgt := 40) hx hb dX5_kindOf_31 (by decide) (fun c9 => ?_) (fun c9 => ?_)
        · skip
          rw [c9] at hl
          have hl : lv_has ls 1 [(0, .int 32)] := hl
          refine lv_iconst (v := 0) hx hb dX5_kindOf_40 (by decide) ?_
          obtain ⟨hP9, hD9⟩ := PDq.sub (ws' := []) hP hD [] (by decide) rfl
          refine W.widen (k := 0) (n := 0) (Nat.le_of_ble_eq_true rfl) (Nat.le_of_ble_eq_true rfl) ?_
          exact (W.iret (v := 0) hx hb hr (fun t ht hW => ⟨⟨0, (), rfl, (by unfold ckd; rw [if_neg (fun q : 97 ≤ a ∧ a ≤ 122 => absurd q.1 (Int32.not_le.mpr c1)), if_neg (fun q : 48 ≤ a ∧ a ≤ 57 => absurd q.2 (Int32.not_le.mpr c8)), if_pos (Or.inl c9)]), by rw [ht]; exact hP9, hD9⟩, hS.F ht⟩) hS.2.2 dX5_kindOf_41)
        · skip
          refine lv_iload_n hx hb dX5_kindOf_34 rfl (lv_at hl 0 rfl) ?_
          refine lv_bipush (v := 10) hx hb dX5_kindOf_35 (by decide) ?_
          refine lv_icmp_ne (tgt := 42) hx hb dX5_kindOf_37 (by decide) (fun c10 => ?_) (fun c10 => ?_)
          · skip
            refine lv_iload_n hx hb dX5_kindOf_42 rfl (lv_at hl 0 rfl) ?_
            refine lv_bipush (v := 40) hx hb dX5_kindOf_43 (by decide) ?_
            refine lv_icmp_ne (tgt := 50) hx hb dX5_kindOf_45 (by decide) (fun c11 => ?_) (fun c11 => ?_)
            · skip
              refine lv_iload_n hx hb dX5_kindOf_50 rfl (lv_at hl 0 rfl) ?_
              refine lv_bipush (v := 41) hx hb dX5_kindOf_51 (by decide) ?_
              refine lv_icmp_ne (tgt := 59) hx hb dX5_kindOf_53 (by decide) (fun c12 => ?_) (fun c12 => ?_)
              · skip
                refine lv_iload_n hx hb dX5_kindOf_59 rfl (lv_at hl 0 rfl) ?_
                refine lv_bipush (v := 59) hx hb dX5_kindOf_60 (by decide) ?_
                refine lv_icmp_ne (tgt := 70) hx hb dX5_kindOf_62 (by decide) (fun c13 => ?_) (fun c13 => ?_)
                · skip
                  refine lv_iconst (v := 2) hx hb dX5_kindOf_70 (by decide) ?_
                  obtain ⟨hP9, hD9⟩ := PDq.sub (ws' := []) hP hD [] (by decide) rfl
                  refine W.widen (k := 0) (n := 0) (Nat.le_of_ble_eq_true rfl) (Nat.le_of_ble_eq_true rfl) ?_
                  exact (W.iret (v := 2) hx hb hr (fun t ht hW => ⟨⟨2, (), rfl, (by unfold ckd; rw [if_neg (fun q : 97 ≤ a ∧ a ≤ 122 => absurd q.1 (Int32.not_le.mpr c1)), if_neg (fun q : 48 ≤ a ∧ a ≤ 57 => absurd q.2 (Int32.not_le.mpr c8)), if_neg (fun q : a = 32 ∨ a = 10 => q.elim c9 c10), if_neg c11, if_neg c12, if_neg c13]), by rw [ht]; exact hP9, hD9⟩, hS.F ht⟩) hS.2.2 dX5_kindOf_71)
                · skip
                  rw [c13] at hl
                  have hl : lv_has ls 1 [(0, .int 59)] := hl
                  refine lv_bipush (v := 7) hx hb dX5_kindOf_65 (by decide) ?_
                  refine lv_goto (tgt := 71) hx hb dX5_kindOf_67 (by decide) ?_
                  obtain ⟨hP9, hD9⟩ := PDq.sub (ws' := []) hP hD [] (by decide) rfl
                  refine W.widen (k := 0) (n := 0) (Nat.le_of_ble_eq_true rfl) (Nat.le_of_ble_eq_true rfl) ?_
                  exact (W.iret (v := 7) hx hb hr (fun t ht hW => ⟨⟨7, (), rfl, (by unfold ckd; rw [if_neg (fun q : 97 ≤ a ∧ a ≤ 122 => absurd q.1 (Int32.not_le.mpr c1)), if_neg (fun q : 48 ≤ a ∧ a ≤ 57 => absurd q.2 (Int32.not_le.mpr c8)), if_neg (fun q : a = 32 ∨ a = 10 => q.elim c9 c10), if_neg c11, if_neg c12, if_pos c13]), by rw [ht]; exact hP9, hD9⟩, hS.F ht⟩) hS.2.2 dX5_kindOf_71)
              · skip
                rw [c12] at hl
                have hl : lv_has ls 1 [(0, .int 41)] := hl
                refine lv_bipush (v := 6) hx hb dX5_kindOf_56 (by decide) ?_
                obtain ⟨hP9, hD9⟩ := PDq.sub (ws' := []) hP hD [] (by decide) rfl
                refine W.widen (k := 0) (n := 0) (Nat.le_of_ble_eq_true rfl) (Nat.le_of_ble_eq_true rfl) ?_
                exact (W.iret (v := 6) hx hb hr (fun t ht hW => ⟨⟨6, (), rfl, (by unfold ckd; rw [if_neg (fun q : 97 ≤ a ∧ a ≤ 122 => absurd q.1 (Int32.not_le.mpr c1)), if_neg (fun q : 48 ≤ a ∧ a ≤ 57 => absurd q.2 (Int32.not_le.mpr c8)), if_neg (fun q : a = 32 ∨ a = 10 => q.elim c9 c10), if_neg c11, if_pos c12]), by rw [ht]; exact hP9, hD9⟩, hS.F ht⟩) hS.2.2 dX5_kindOf_58)
            · skip
              rw [c11] at hl
              have hl : lv_has ls 1 [(0, .int 40)] := hl
              refine lv_iconst (v := 5) hx hb dX5_kindOf_48 (by decide) ?_
              obtain ⟨hP9, hD9⟩ := PDq.sub (ws' := []) hP hD [] (by decide) rfl
              refine W.widen (k := 0) (n := 0) (Nat.le_of_ble_eq_true rfl) (Nat.le_of_ble_eq_true rfl) ?_
              exact (W.iret (v := 5) hx hb hr (fun t ht hW => ⟨⟨5, (), rfl, (by unfold ckd; rw [if_neg (fun q : 97 ≤ a ∧ a ≤ 122 => absurd q.1 (Int32.not_le.mpr c1)), if_neg (fun q : 48 ≤ a ∧ a ≤ 57 => absurd q.2 (Int32.not_le.mpr c8)), if_neg (fun q : a = 32 ∨ a = 10 => q.elim c9 c10), if_pos c11]), by rw [ht]; exact hP9, hD9⟩, hS.F ht⟩) hS.2.2 dX5_kindOf_49)
          · skip
            rw [c10] at hl
            have hl : lv_has ls 1 [(0, .int 10)] := hl
            refine lv_iconst (v := 0) hx hb dX5_kindOf_40 (by decide) ?_
            obtain ⟨hP9, hD9⟩ := PDq.sub (ws' := []) hP hD [] (by decide) rfl
            refine W.widen (k := 0) (n := 0) (Nat.le_of_ble_eq_true rfl) (Nat.le_of_ble_eq_true rfl) ?_
            exact (W.iret (v := 0) hx hb hr (fun t ht hW => ⟨⟨0, (), rfl, (by unfold ckd; rw [if_neg (fun q : 97 ≤ a ∧ a ≤ 122 => absurd q.1 (Int32.not_le.mpr c1)), if_neg (fun q : 48 ≤ a ∧ a ≤ 57 => absurd q.2 (Int32.not_le.mpr c8)), if_pos (Or.inr c10)]), by rw [ht]; exact hP9, hD9⟩, hS.F ht⟩) hS.2.2 dX5_kindOf_41)
      · skip
        refine lv_iconst (v := 3) hx hb dX5_kindOf_26 (by decide) ?_
        obtain ⟨hP9, hD9⟩ := PDq.sub (ws' := []) hP hD [] (by decide) rfl
        refine W.widen (k := 0) (n := 0) (Nat.le_of_ble_eq_true rfl) (Nat.le_of_ble_eq_true rfl) ?_
        exact (W.iret (v := 3) hx hb hr (fun t ht hW => ⟨⟨3, (), rfl, (by unfold ckd; rw [if_neg (fun q : 97 ≤ a ∧ a ≤ 122 => absurd q.1 (Int32.not_le.mpr c1)), if_pos (And.intro (Int32.not_lt.mp c2) (Int32.not_lt.mp c8))]), by rw [ht]; exact hP9, hD9⟩, hS.F ht⟩) hS.2.2 dX5_kindOf_27)
  · skip
    refine lv_iload_n hx hb dX5_kindOf_6 rfl (lv_at hl 0 rfl) ?_
    refine lv_bipush (v := 122) hx hb dX5_kindOf_7 (by decide) ?_
    refine lv_icmp_gt (tgt := 14) hx hb dX5_kindOf_9 (by decide) (fun c14 => ?_) (fun c14 => ?_)
    · skip
      refine lv_iload_n hx hb dX5_kindOf_14 rfl (lv_at hl 0 rfl) ?_
      refine lv_bipush (v := 48) hx hb dX5_kindOf_15 (by decide) ?_
      refine lv_icmp_lt (tgt := 28) hx hb dX5_kindOf_17 (by decide) (fun c15 => ?_) (fun c15 => ?_)
      · skip
        refine lv_iload_n hx hb dX5_kindOf_28 rfl (lv_at hl 0 rfl) ?_
        refine lv_bipush (v := 32) hx hb dX5_kindOf_29 (by decide) ?_
        refine lv_icmp_eq (tgt := 40) hx hb dX5_kindOf_31 (by decide) (fun c16 => ?_) (fun c16 => ?_)
        · skip
          rw [c16] at hl
          have hl : lv_has ls 1 [(0, .int 32)] := hl
          refine lv_iconst (v := 0) hx hb dX5_kindOf_40 (by decide) ?_
          obtain ⟨hP9, hD9⟩ := PDq.sub (ws' := []) hP hD [] (by decide) rfl
          refine W.widen (k := 0) (n := 0) (Nat.le_of_ble_eq_true rfl) (Nat.le_of_ble_eq_true rfl) ?_
          exact (W.iret (v := 0) hx hb hr (fun t ht hW => ⟨⟨0, (), rfl, (by unfold ckd; rw [if_neg (fun q : 97 ≤ a ∧ a ≤ 122 => absurd q.2 (Int32.not_le.mpr c14)), if_neg (fun q : 48 ≤ a ∧ a ≤ 57 => absurd q.1 (Int32.not_le.mpr c15)), if_pos (Or.inl c16)]), by rw [ht]; exact hP9, hD9⟩, hS.F ht⟩) hS.2.2 dX5_kindOf_41)
        · skip
          refine lv_iload_n hx hb dX5_kindOf_34 rfl (lv_at hl 0 rfl) ?_
          refine lv_bipush (v := 10) hx hb dX5_kindOf_35 (by decide) ?_
          refine lv_icmp_ne (tgt := 42) hx hb dX5_kindOf_37 (by decide) (fun c17 => ?_) (fun c17 => ?_)
          · skip
            refine lv_iload_n hx hb dX5_kindOf_42 rfl (lv_at hl 0 rfl) ?_
            refine lv_bipush (v := 40) hx hb dX5_kindOf_43 (by decide) ?_
            refine lv_icmp_ne (tgt := 50) hx hb dX5_kindOf_45 (by decide) (fun c18 => ?_) (fun c18 => ?_)
            · skip
              refine lv_iload_n hx hb dX5_kindOf_50 rfl (lv_at hl 0 rfl) ?_
              refine lv_bipush (v := 41) hx hb dX5_kindOf_51 (by decide) ?_
              refine lv_icmp_ne (tgt := 59) hx hb dX5_kindOf_53 (by decide) (fun c19 => ?_) (fun c19 => ?_)
              · skip
                refine lv_iload_n hx hb dX5_kindOf_59 rfl (lv_at hl 0 rfl) ?_
                refine lv_bipush (v := 59) hx hb dX5_kindOf_60 (by decide) ?_
                refine lv_icmp_ne (tgt := 70) hx hb dX5_kindOf_62 (by decide) (fun c20 => ?_) (fun c20 => ?_)
                · skip
                  refine lv_iconst (v := 2) hx hb dX5_kindOf_70 (by decide) ?_
                  obtain ⟨hP9, hD9⟩ := PDq.sub (ws' := []) hP hD [] (by decide) rfl
                  refine W.widen (k := 0) (n := 0) (Nat.le_of_ble_eq_true rfl) (Nat.le_of_ble_eq_true rfl) ?_
                  exact (W.iret (v := 2) hx hb hr (fun t ht hW => ⟨⟨2, (), rfl, (by unfold ckd; rw [if_neg (fun q : 97 ≤ a ∧ a ≤ 122 => absurd q.2 (Int32.not_le.mpr c14)), if_neg (fun q : 48 ≤ a ∧ a ≤ 57 => absurd q.1 (Int32.not_le.mpr c15)), if_neg (fun q : a = 32 ∨ a = 10 => q.elim c16 c17), if_neg c18, if_neg c19, if_neg c20]), by rw [ht]; exact hP9, hD9⟩, hS.F ht⟩) hS.2.2 dX5_kindOf_71)
                · skip
                  rw [c20] at hl
                  have hl : lv_has ls 1 [(0, .int 59)] := hl
                  refine lv_bipush (v := 7) hx hb dX5_kindOf_65 (by decide) ?_
                  refine lv_goto (tgt := 71) hx hb dX5_kindOf_67 (by decide) ?_
                  obtain ⟨hP9, hD9⟩ := PDq.sub (ws' := []) hP hD [] (by decide) rfl
                  refine W.widen (k := 0) (n := 0) (Nat.le_of_ble_eq_true rfl) (Nat.le_of_ble_eq_true rfl) ?_
                  exact (W.iret (v := 7) hx hb hr (fun t ht hW => ⟨⟨7, (), rfl, (by unfold ckd; rw [if_neg (fun q : 97 ≤ a ∧ a ≤ 122 => absurd q.2 (Int32.not_le.mpr c14)), if_neg (fun q : 48 ≤ a ∧ a ≤ 57 => absurd q.1 (Int32.not_le.mpr c15)), if_neg (fun q : a = 32 ∨ a = 10 => q.elim c16 c17), if_neg c18, if_neg c19, if_pos c20]), by rw [ht]; exact hP9, hD9⟩, hS.F ht⟩) hS.2.2 dX5_kindOf_71)
              · skip
                rw [c19] at hl
                have hl : lv_has ls 1 [(0, .int 41)] := hl
                refine lv_bipush (v := 6) hx hb dX5_kindOf_56 (by decide) ?_
                obtain ⟨hP9, hD9⟩ := PDq.sub (ws' := []) hP hD [] (by decide) rfl
                refine W.widen (k := 0) (n := 0) (Nat.le_of_ble_eq_true rfl) (Nat.le_of_ble_eq_true rfl) ?_
                exact (W.iret (v := 6) hx hb hr (fun t ht hW => ⟨⟨6, (), rfl, (by unfold ckd; rw [if_neg (fun q : 97 ≤ a ∧ a ≤ 122 => absurd q.2 (Int32.not_le.mpr c14)), if_neg (fun q : 48 ≤ a ∧ a ≤ 57 => absurd q.1 (Int32.not_le.mpr c15)), if_neg (fun q : a = 32 ∨ a = 10 => q.elim c16 c17), if_neg c18, if_pos c19]), by rw [ht]; exact hP9, hD9⟩, hS.F ht⟩) hS.2.2 dX5_kindOf_58)
            · skip
              rw [c18] at hl
              have hl : lv_has ls 1 [(0, .int 40)] := hl
              refine lv_iconst (v := 5) hx hb dX5_kindOf_48 (by decide) ?_
              obtain ⟨hP9, hD9⟩ := PDq.sub (ws' := []) hP hD [] (by decide) rfl
              refine W.widen (k := 0) (n := 0) (Nat.le_of_ble_eq_true rfl) (Nat.le_of_ble_eq_true rfl) ?_
              exact (W.iret (v := 5) hx hb hr (fun t ht hW => ⟨⟨5, (), rfl, (by unfold ckd; rw [if_neg (fun q : 97 ≤ a ∧ a ≤ 122 => absurd q.2 (Int32.not_le.mpr c14)), if_neg (fun q : 48 ≤ a ∧ a ≤ 57 => absurd q.1 (Int32.not_le.mpr c15)), if_neg (fun q : a = 32 ∨ a = 10 => q.elim c16 c17), if_pos c18]), by rw [ht]; exact hP9, hD9⟩, hS.F ht⟩) hS.2.2 dX5_kindOf_49)
          · skip
            rw [c17] at hl
            have hl : lv_has ls 1 [(0, .int 10)] := hl
            refine lv_iconst (v := 0) hx hb dX5_kindOf_40 (by decide) ?_
            obtain ⟨hP9, hD9⟩ := PDq.sub (ws' := []) hP hD [] (by decide) rfl
            refine W.widen (k := 0) (n := 0) (Nat.le_of_ble_eq_true rfl) (Nat.le_of_ble_eq_true rfl) ?_
            exact (W.iret (v := 0) hx hb hr (fun t ht hW => ⟨⟨0, (), rfl, (by unfold ckd; rw [if_neg (fun q : 97 ≤ a ∧ a ≤ 122 => absurd q.2 (Int32.not_le.mpr c14)), if_neg (fun q : 48 ≤ a ∧ a ≤ 57 => absurd q.1 (Int32.not_le.mpr c15)), if_pos (Or.inr c17)]), by rw [ht]; exact hP9, hD9⟩, hS.F ht⟩) hS.2.2 dX5_kindOf_41)
      · skip
        refine lv_iload_n hx hb dX5_kindOf_20 rfl (lv_at hl 0 rfl) ?_
        refine lv_bipush (v := 57) hx hb dX5_kindOf_21 (by decide) ?_
        refine lv_icmp_gt (tgt := 28) hx hb dX5_kindOf_23 (by decide) (fun c21 => ?_) (fun c21 => ?_)
        · skip
          refine lv_iload_n hx hb dX5_kindOf_28 rfl (lv_at hl 0 rfl) ?_
          refine lv_bipush (v := 32) hx hb dX5_kindOf_29 (by decide) ?_
          refine lv_icmp_eq (tgt := 40) hx hb dX5_kindOf_31 (by decide) (fun c22 => ?_) (fun c22 => ?_)
          · skip
            rw [c22] at hl
            have hl : lv_has ls 1 [(0, .int 32)] := hl
            refine lv_iconst (v := 0) hx hb dX5_kindOf_40 (by decide) ?_
            obtain ⟨hP9, hD9⟩ := PDq.sub (ws' := []) hP hD [] (by decide) rfl
            refine W.widen (k := 0) (n := 0) (Nat.le_of_ble_eq_true rfl) (Nat.le_of_ble_eq_true rfl) ?_
            exact (W.iret (v := 0) hx hb hr (fun t ht hW => ⟨⟨0, (), rfl, (by unfold ckd; rw [if_neg (fun q : 97 ≤ a ∧ a ≤ 122 => absurd q.2 (Int32.not_le.mpr c14)), if_neg (fun q : 48 ≤ a ∧ a ≤ 57 => absurd q.2 (Int32.not_le.mpr c21)), if_pos (Or.inl c22)]), by rw [ht]; exact hP9, hD9⟩, hS.F ht⟩) hS.2.2 dX5_kindOf_41)
          · skip
            refine lv_iload_n hx hb dX5_kindOf_34 rfl (lv_at hl 0 rfl) ?_
            refine lv_bipush (v := 10) hx hb dX5_kindOf_35 (by decide) ?_
            refine lv_icmp_ne (tgt := 42) hx hb dX5_kindOf_37 (by decide) (fun c23 => ?_) (fun c23 => ?_)
            · skip
              refine lv_iload_n hx hb dX5_kindOf_42 rfl (lv_at hl 0 rfl) ?_
              refine lv_bipush (v := 40) hx hb dX5_kindOf_43 (by decide) ?_
              refine lv_icmp_ne (tgt := 50) hx hb dX5_kindOf_45 (by decide) (fun c24 => ?_) (fun c24 => ?_)
              · skip
                refine lv_iload_n hx hb dX5_kindOf_50 rfl (lv_at hl 0 rfl) ?_
                refine lv_bipush (v := 41) hx hb dX5_kindOf_51 (by decide) ?_
                refine lv_icmp_ne (tgt := 59) hx hb dX5_kindOf_53 (by decide) (fun c25 => ?_) (fun c25 => ?_)
                · skip
                  refine lv_iload_n hx hb dX5_kindOf_59 rfl (lv_at hl 0 rfl) ?_
                  refine lv_bipush (v := 59) hx hb dX5_kindOf_60 (by decide) ?_
                  refine lv_icmp_ne (tgt := 70) hx hb dX5_kindOf_62 (by decide) (fun c26 => ?_) (fun c26 => ?_)
                  · skip
                    refine lv_iconst (v := 2) hx hb dX5_kindOf_70 (by decide) ?_
                    obtain ⟨hP9, hD9⟩ := PDq.sub (ws' := []) hP hD [] (by decide) rfl
                    refine W.widen (k := 0) (n := 0) (Nat.le_of_ble_eq_true rfl) (Nat.le_of_ble_eq_true rfl) ?_
                    exact (W.iret (v := 2) hx hb hr (fun t ht hW => ⟨⟨2, (), rfl, (by unfold ckd; rw [if_neg (fun q : 97 ≤ a ∧ a ≤ 122 => absurd q.2 (Int32.not_le.mpr c14)), if_neg (fun q : 48 ≤ a ∧ a ≤ 57 => absurd q.2 (Int32.not_le.mpr c21)), if_neg (fun q : a = 32 ∨ a = 10 => q.elim c22 c23), if_neg c24, if_neg c25, if_neg c26]), by rw [ht]; exact hP9, hD9⟩, hS.F ht⟩) hS.2.2 dX5_kindOf_71)
                  · skip
                    rw [c26] at hl
                    have hl : lv_has ls 1 [(0, .int 59)] := hl
                    refine lv_bipush (v := 7) hx hb dX5_kindOf_65 (by decide) ?_
                    refine lv_goto (tgt := 71) hx hb dX5_kindOf_67 (by decide) ?_
                    obtain ⟨hP9, hD9⟩ := PDq.sub (ws' := []) hP hD [] (by decide) rfl
                    refine W.widen (k := 0) (n := 0) (Nat.le_of_ble_eq_true rfl) (Nat.le_of_ble_eq_true rfl) ?_
                    exact (W.iret (v := 7) hx hb hr (fun t ht hW => ⟨⟨7, (), rfl, (by unfold ckd; rw [if_neg (fun q : 97 ≤ a ∧ a ≤ 122 => absurd q.2 (Int32.not_le.mpr c14)), if_neg (fun q : 48 ≤ a ∧ a ≤ 57 => absurd q.2 (Int32.not_le.mpr c21)), if_neg (fun q : a = 32 ∨ a = 10 => q.elim c22 c23), if_neg c24, if_neg c25, if_pos c26]), by rw [ht]; exact hP9, hD9⟩, hS.F ht⟩) hS.2.2 dX5_kindOf_71)
                · skip
                  rw [c25] at hl
                  have hl : lv_has ls 1 [(0, .int 41)] := hl
                  refine lv_bipush (v := 6) hx hb dX5_kindOf_56 (by decide) ?_
                  obtain ⟨hP9, hD9⟩ := PDq.sub (ws' := []) hP hD [] (by decide) rfl
                  refine W.widen (k := 0) (n := 0) (Nat.le_of_ble_eq_true rfl) (Nat.le_of_ble_eq_true rfl) ?_
                  exact (W.iret (v := 6) hx hb hr (fun t ht hW => ⟨⟨6, (), rfl, (by unfold ckd; rw [if_neg (fun q : 97 ≤ a ∧ a ≤ 122 => absurd q.2 (Int32.not_le.mpr c14)), if_neg (fun q : 48 ≤ a ∧ a ≤ 57 => absurd q.2 (Int32.not_le.mpr c21)), if_neg (fun q : a = 32 ∨ a = 10 => q.elim c22 c23), if_neg c24, if_pos c25]), by rw [ht]; exact hP9, hD9⟩, hS.F ht⟩) hS.2.2 dX5_kindOf_58)
              · skip
                rw [c24] at hl
                have hl : lv_has ls 1 [(0, .int 40)] := hl
                refine lv_iconst (v := 5) hx hb dX5_kindOf_48 (by decide) ?_
                obtain ⟨hP9, hD9⟩ := PDq.sub (ws' := []) hP hD [] (by decide) rfl
                refine W.widen (k := 0) (n := 0) (Nat.le_of_ble_eq_true rfl) (Nat.le_of_ble_eq_true rfl) ?_
                exact (W.iret (v := 5) hx hb hr (fun t ht hW => ⟨⟨5, (), rfl, (by unfold ckd; rw [if_neg (fun q : 97 ≤ a ∧ a ≤ 122 => absurd q.2 (Int32.not_le.mpr c14)), if_neg (fun q : 48 ≤ a ∧ a ≤ 57 => absurd q.2 (Int32.not_le.mpr c21)), if_neg (fun q : a = 32 ∨ a = 10 => q.elim c22 c23), if_pos c24]), by rw [ht]; exact hP9, hD9⟩, hS.F ht⟩) hS.2.2 dX5_kindOf_49)
            · skip
              rw [c23] at hl
              have hl : lv_has ls 1 [(0, .int 10)] := hl
              refine lv_iconst (v := 0) hx hb dX5_kindOf_40 (by decide) ?_
              obtain ⟨hP9, hD9⟩ := PDq.sub (ws' := []) hP hD [] (by decide) rfl
              refine W.widen (k := 0) (n := 0) (Nat.le_of_ble_eq_true rfl) (Nat.le_of_ble_eq_true rfl) ?_
              exact (W.iret (v := 0) hx hb hr (fun t ht hW => ⟨⟨0, (), rfl, (by unfold ckd; rw [if_neg (fun q : 97 ≤ a ∧ a ≤ 122 => absurd q.2 (Int32.not_le.mpr c14)), if_neg (fun q : 48 ≤ a ∧ a ≤ 57 => absurd q.2 (Int32.not_le.mpr c21)), if_pos (Or.inr c23)]), by rw [ht]; exact hP9, hD9⟩, hS.F ht⟩) hS.2.2 dX5_kindOf_41)
        · skip
          refine lv_iconst (v := 3) hx hb dX5_kindOf_26 (by decide) ?_
          obtain ⟨hP9, hD9⟩ := PDq.sub (ws' := []) hP hD [] (by decide) rfl
          refine W.widen (k := 0) (n := 0) (Nat.le_of_ble_eq_true rfl) (Nat.le_of_ble_eq_true rfl) ?_
          exact (W.iret (v := 3) hx hb hr (fun t ht hW => ⟨⟨3, (), rfl, (by unfold ckd; rw [if_neg (fun q : 97 ≤ a ∧ a ≤ 122 => absurd q.2 (Int32.not_le.mpr c14)), if_pos (And.intro (Int32.not_lt.mp c15) (Int32.not_lt.mp c21))]), by rw [ht]; exact hP9, hD9⟩, hS.F ht⟩) hS.2.2 dX5_kindOf_27)
    · skip
      refine lv_iconst (v := 4) hx hb dX5_kindOf_12 (by decide) ?_
      obtain ⟨hP9, hD9⟩ := PDq.sub (ws' := []) hP hD [] (by decide) rfl
      refine W.widen (k := 0) (n := 0) (Nat.le_of_ble_eq_true rfl) (Nat.le_of_ble_eq_true rfl) ?_
      exact (W.iret (v := 4) hx hb hr (fun t ht hW => ⟨⟨4, (), rfl, (by unfold ckd; rw [if_pos (And.intro (Int32.not_lt.mp c1) (Int32.not_lt.mp c14))]), by rw [ht]; exact hP9, hD9⟩, hS.F ht⟩) hS.2.2 dX5_kindOf_13)

set_option maxHeartbeats 4000000 in
set_option maxRecDepth 100000 in
/-- withLetter -/
theorem x_withLetter (l : Launch) (D : va_G) (cA : Nat → ClassId) (sa : Nat → Nat) (w : Int64) (a : Int32) (sz : Nat) (ha : ckd a = 4) : Met l yX8_withLetter wsX8_withLetter ({ frames := 0, cells := 0, slots := 0, locals := 0 }) (va_Pc [.long w, .int a] (Wd D cA sa [] sz)) (va_Ql (fun (r : Int64) (_ : Unit) => r = 32 * w + a.toInt64 - 96) (fun (_ : Unit) t => Wq D (va_A [] sz) [] t) (va_A [] sz)) 0 0 (va_A [] sz) := by
  refine Met.ofW (cc := cX8_withLetter) (maxL := 3) (ret := (some .long)) (by decide) rfl ?_
  intro p e s m args below meth c s₁ B hml hv
  obtain ⟨rfl, hsz, hP, hK, hD0, hC, hZ⟩ := hv
  have hx := B.exec
  have hb := B.bytes
  have hr := B.returns
  have hts := atoms_spec (ws := wsX8_withLetter) B.pre
  have hown : s.vm.findClass RX8 = some m.cls := findClass_of_methodNamed B.named
  have hlocks := B.notSynchronized
  subst hsz
  have hD := hD0.self (sz := s.heap.size)
  generalize hAe : va_A [] s.heap.size = A at hD hZ ⊢
  have hA : ∀ q : Nat, s.heap.size ≤ q → A q := fun q h => by rw [← hAe]; exact Or.inr h
  have hS : va_S A s.heap s.heap [] := va_S.rf
  have hP : va_P D vwCl [] s.heap := hP
  have hl := lv_entry ([.long w, .int a]) (n := 3) (Nat.le_of_ble_eq_true rfl)
  rw [lg_entry_eq]
  generalize (lg_sl ([.long w, .int a]) ++ List.replicate (3 - (lg_sl ([.long w, .int a])).length) Slot.unset).toArray = ls at hl ⊢
  have hl : lv_has ls 3 [(0, .long w), (2, .int a)] := hl
  refine lv_lload_n hx hb dX8_withLetter_0 rfl (lv_at hl 0 rfl) ?_
  refine lv_iconst (v := 5) hx hb dX8_withLetter_1 (by decide) ?_
  refine lv_lshl hx hb dX8_withLetter_2 rfl ?_
  refine lv_topl (fun yn1 eyn1 => ?_)
  refine lv_iload_n hx hb dX8_withLetter_3 rfl (lv_at hl 1 rfl) ?_
  refine lv_bipush (v := 97) hx hb dX8_withLetter_4 (by decide) ?_
  refine lv_isub hx hb dX8_withLetter_6 ?_
  refine lv_topi (fun yn2 eyn2 => ?_)
  refine lv_iconst (v := 1) hx hb dX8_withLetter_7 (by decide) ?_
  refine lv_iadd hx hb dX8_withLetter_8 ?_
  refine lv_topi (fun yn3 eyn3 => ?_)
  refine lv_i2l (v := (yn3.toInt64)) hx hb dX8_withLetter_9 rfl ?_
  refine lv_lor hx hb dX8_withLetter_10 ?_
  refine lv_topl (fun yn4 eyn4 => ?_)
  obtain ⟨hP9, hD9⟩ := PDq.sub (ws' := []) hP hD [] (by decide) rfl
  refine W.widen (k := 0) (n := 0) (Nat.le_of_ble_eq_true rfl) (Nat.le_of_ble_eq_true rfl) ?_
  exact (W.lret (v := yn4) hx hb hr (fun t ht hW => ⟨⟨yn4, (), rfl, (wl_let ha eyn1 eyn2 eyn3 eyn4), by rw [ht]; exact hP9, hD9⟩, hS.F ht⟩) hS.2.2 dX8_withLetter_11)

set_option maxHeartbeats 4000000 in
set_option maxRecDepth 100000 in
/-- extended -/
theorem x_extended (l : Launch) (D : va_G) (cA : Nat → ClassId) (sa : Nat → Nat) (w : Int64) (k : Int32) (a : Int32) (sz : Nat) (ha : k = 4 → ckd a = 4) : Met l yX5_extended wsX5_extended ({ frames := 1, cells := 0, slots := 0, locals := 22 }) (va_Pc [.int k, .long w, .int a] (Wd D cA sa [] sz)) (va_Ql (fun (r : Int64) (_ : Unit) => r = (if k = 4 then 32 * w + a.toInt64 - 96 else if k = 3 then w * 10 + (a - 48).toInt64 else 0)) (fun (_ : Unit) t => Wq D (va_A [] sz) [] t) (va_A [] sz)) 0 0 (va_A [] sz) := by
  refine Met.ofW (cc := cX5_extended) (maxL := 4) (ret := (some .long)) (by decide) rfl ?_
  intro p e s m args below meth c s₁ B hml hv
  obtain ⟨rfl, hsz, hP, hK, hD0, hC, hZ⟩ := hv
  have hx := B.exec
  have hb := B.bytes
  have hr := B.returns
  have hts := atoms_spec (ws := wsX5_extended) B.pre
  have hown : s.vm.findClass RX5 = some m.cls := findClass_of_methodNamed B.named
  have hlocks := B.notSynchronized
  subst hsz
  have hD := hD0.self (sz := s.heap.size)
  generalize hAe : va_A [] s.heap.size = A at hD hZ ⊢
  have hA : ∀ q : Nat, s.heap.size ≤ q → A q := fun q h => by rw [← hAe]; exact Or.inr h
  have hS : va_S A s.heap s.heap [] := va_S.rf
  have hP : va_P D vwCl [] s.heap := hP
  have hl := lv_entry ([.int k, .long w, .int a]) (n := 4) (Nat.le_of_ble_eq_true rfl)
  rw [lg_entry_eq]
  generalize (lg_sl ([.int k, .long w, .int a]) ++ List.replicate (4 - (lg_sl ([.int k, .long w, .int a])).length) Slot.unset).toArray = ls at hl ⊢
  have hl : lv_has ls 4 [(0, .int k), (1, .long w), (3, .int a)] := hl
  refine lv_iload_n hx hb dX5_extended_0 rfl (lv_at hl 0 rfl) ?_
  refine lv_iconst (v := 4) hx hb dX5_extended_1 (by decide) ?_
  refine lv_icmp_ne (tgt := 11) hx hb dX5_extended_2 (by decide) (fun c1 => ?_) (fun c1 => ?_)
  · skip
    refine lv_iload_n hx hb dX5_extended_11 rfl (lv_at hl 0 rfl) ?_
    refine lv_iconst (v := 3) hx hb dX5_extended_12 (by decide) ?_
    refine lv_icmp_ne (tgt := 30) hx hb dX5_extended_13 (by decide) (fun c2 => ?_) (fun c2 => ?_)
    · skip
      refine lv_lconst (v := 0) hx hb dX5_extended_30 (by decide) ?_
      obtain ⟨hP9, hD9⟩ := PDq.sub (ws' := []) hP hD [] (by decide) rfl
      refine W.widen (k := 0) (n := 0) (Nat.le_of_ble_eq_true rfl) (Nat.le_of_ble_eq_true rfl) ?_
      exact (W.lret (v := 0) hx hb hr (fun t ht hW => ⟨⟨0, (), rfl, (by rw [if_neg c1, if_neg c2]), by rw [ht]; exact hP9, hD9⟩, hS.F ht⟩) hS.2.2 dX5_extended_31)
    · skip
      rw [c2] at hl
      have hl : lv_has ls 4 [(0, .int 3), (1, .long w), (3, .int a)] := hl
      refine lv_lload_n hx hb dX5_extended_16 rfl (lv_at hl 1 rfl) ?_
      refine lv_ldc2 (v := 10) hx hb hown (hts (.constantLong RX5 53 10) (by decide +kernel)) dX5_extended_17 ?_
      refine lv_lmul hx hb dX5_extended_20 ?_
      refine lv_topl (fun yn3 eyn3 => ?_)
      refine lv_iload_n hx hb dX5_extended_21 rfl (lv_at hl 2 rfl) ?_
      refine lv_bipush (v := 48) hx hb dX5_extended_22 (by decide) ?_
      refine lv_isub hx hb dX5_extended_24 ?_
      refine lv_topi (fun yn4 eyn4 => ?_)
      refine lv_i2l (v := (yn4.toInt64)) hx hb dX5_extended_25 rfl ?_
      refine lv_ladd hx hb dX5_extended_26 ?_
      refine lv_topl (fun yn5 eyn5 => ?_)
      refine lv_goto (tgt := 31) hx hb dX5_extended_27 (by decide) ?_
      obtain ⟨hP9, hD9⟩ := PDq.sub (ws' := []) hP hD [] (by decide) rfl
      refine W.widen (k := 0) (n := 0) (Nat.le_of_ble_eq_true rfl) (Nat.le_of_ble_eq_true rfl) ?_
      exact (W.lret (v := yn5) hx hb hr (fun t ht hW => ⟨⟨yn5, (), rfl, (by rw [if_neg c1, if_pos c2, eyn5, eyn3, eyn4]), by rw [ht]; exact hP9, hD9⟩, hS.F ht⟩) hS.2.2 dX5_extended_31)
  · skip
    rw [c1] at hl
    have hl : lv_has ls 4 [(0, .int 4), (1, .long w), (3, .int a)] := hl
    refine lv_lload_n hx hb dX5_extended_5 rfl (lv_at hl 1 rfl) ?_
    refine lv_iload_n hx hb dX5_extended_6 rfl (lv_at hl 2 rfl) ?_
    obtain ⟨hPc, hDc, hFc⟩ := PDq.cut (wc := []) hP hD hS hA [] (by decide) rfl
    refine va_calll (va_runS (As := [.long w, .int a]) (rest := []) ⟨hx, hb, hml, hown, hts⟩ (x_withLetter l D cA sa w a s.heap.size (ha c1)) (va_cwS 2 hts gX5_extended_X8_withLetter rfl rfl rfl (by decide +kernel) ⟨(Nat.le_of_ble_eq_true rfl), (Nat.le_of_ble_eq_true rfl)⟩) ⟨Wd.blind, fun U hU hW => ⟨rfl, Wd.call hPc hDc hK hC hZ hS hFc U hU hW⟩⟩ rfl rfl hl.1 rfl (lv_room (Nat.le_of_ble_eq_true rfl)) dX5_extended_7 ⟨(Nat.le_of_ble_eq_true rfl), (Nat.le_of_ble_eq_true rfl)⟩) hS (fun q _ h => hFc q h) hFc (fun rn6 u t H1 locs ht hvm hw hB hz1 hk1 hS => ?_)
    obtain ⟨hP1, hD1⟩ := hB
    rw [ht] at hP1
    obtain ⟨hP, hD⟩ := PDq.join (w := []) 0 hP hD [] [] rfl rfl (by decide) (by decide) hk1 hFc hP1 hD1 rfl
    generalize H1 = H at hP hS ⊢
    obtain rfl : rn6 = (32 * w + a.toInt64 - 96) := hw
    obtain ⟨hP9, hD9⟩ := PDq.sub (ws' := []) hP hD [] (by decide) rfl
    refine W.widen (k := 0) (n := 0) (Nat.le_of_ble_eq_true rfl) (Nat.le_of_ble_eq_true rfl) ?_
    exact (W.lret (v := (32 * w + a.toInt64 - 96)) hx hb hr (fun t ht hW => ⟨⟨(32 * w + a.toInt64 - 96), (), rfl, (by rw [if_pos c1]), by rw [ht]; exact hP9, hD9⟩, hS.F ht⟩) hS.2.2 dX5_extended_10)

set_option maxHeartbeats 4000000 in
set_option maxRecDepth 100000 in
/-- add -/
theorem x_addTok (l : Launch) (D : va_G) (cA : Nat → ClassId) (sa : Nat → Nat) (r1 : Nat) (k1 : Nat) (k2 : Nat) (k3 : Nat) (ct : Nat) (fk : Nat → Int32) (ft : Nat → Int32) (fv : Nat → Int64) (k : Int32) (a : Int32) (w : Int64) (sz : Nat) (hct : ct < 701) : Met l yX5_add wsX5_add ({ frames := 0, cells := 0, slots := 0, locals := 0 }) (va_Pc [.ref r1, .int k, .int a, .long w] (Wd D cA sa [(oX5 r1 k1 k2 k3 (nI ct)), (k1, .inl (cA 0, 701, .inl fk)), (k2, .inl (cA 0, 701, .inl ft)), (k3, .inl (cA 1, 701, .inr (.inl fv)))] sz)) (va_Qv (fun _ : Unit => True) (fun (_ : Unit) t => ∃ zk : Nat → Int32, ∃ zt : Nat → Int32, ∃ zv : Nat → Int64, Upp ct k fk zk ∧ Upp ct a ft zt ∧ UppL ct w fv zv ∧ Wq D (va_A [(oX5 r1 k1 k2 k3 (nI ct)), (k1, .inl (cA 0, 701, .inl fk)), (k2, .inl (cA 0, 701, .inl ft)), (k3, .inl (cA 1, 701, .inr (.inl fv)))] sz) [(oX5 r1 k1 k2 k3 (nI (ct + 1))), (k1, .inl (cA 0, 701, .inl zk)), (k2, .inl (cA 0, 701, .inl zt)), (k3, .inl (cA 1, 701, .inr (.inl zv)))] t) (va_A [(oX5 r1 k1 k2 k3 (nI ct)), (k1, .inl (cA 0, 701, .inl fk)), (k2, .inl (cA 0, 701, .inl ft)), (k3, .inl (cA 1, 701, .inr (.inl fv)))] sz)) 0 0 (va_A [(oX5 r1 k1 k2 k3 (nI ct)), (k1, .inl (cA 0, 701, .inl fk)), (k2, .inl (cA 0, 701, .inl ft)), (k3, .inl (cA 1, 701, .inr (.inl fv)))] sz) := by
  refine Met.ofW (cc := cX5_add) (maxL := 5) (ret := none) (by decide) rfl ?_
  intro p e s m args below meth c s₁ B hml hv
  obtain ⟨rfl, hsz, hP, hK, hD0, hC, hZ⟩ := hv
  have hx := B.exec
  have hb := B.bytes
  have hr := B.returns
  have hts := atoms_spec (ws := wsX5_add) B.pre
  have hown : s.vm.findClass RX5 = some m.cls := findClass_of_methodNamed B.named
  have hlocks := B.notSynchronized
  subst hsz
  have hD := hD0.self (sz := s.heap.size)
  generalize hAe : va_A [(oX5 r1 k1 k2 k3 (nI ct)), (k1, .inl (cA 0, 701, .inl fk)), (k2, .inl (cA 0, 701, .inl ft)), (k3, .inl (cA 1, 701, .inr (.inl fv)))] s.heap.size = A at hD hZ ⊢
  have hA : ∀ q : Nat, s.heap.size ≤ q → A q := fun q h => by rw [← hAe]; exact Or.inr h
  have hS : va_S A s.heap s.heap [] := va_S.rf
  have hP : va_P D vwCl [(oX5 r1 k1 k2 k3 (nI ct)), (k1, .inl (cA 0, 701, .inl fk)), (k2, .inl (cA 0, 701, .inl ft)), (k3, .inl (cA 1, 701, .inr (.inl fv)))] s.heap := hP
  have hl := lv_entry ([.ref r1, .int k, .int a, .long w]) (n := 5) (Nat.le_of_ble_eq_true rfl)
  rw [lg_entry_eq]
  generalize (lg_sl ([.ref r1, .int k, .int a, .long w]) ++ List.replicate (5 - (lg_sl ([.ref r1, .int k, .int a, .long w])).length) Slot.unset).toArray = ls at hl ⊢
  have hl : lv_has ls 5 [(0, .ref r1), (1, .int k), (2, .int a), (3, .long w)] := hl
  have inX5 : ∀ w ∈ u_ws RX5 TX5 4, w ∈ wsX5_add := by decide +kernel
  refine lv_aload_n hx hb dX5_add_0 rfl (lv_at hl 0 rfl) ?_
  refine va_get (D := D) (ci := 9) (v := .int (nI ct)) (C := RX5) (T := TX5) (N := 4) hx hb hts inX5 hown hK hP 0 rfl rfl 3 (by decide) (hts (.fieldLink RX5 22 "EscrowDesk$Scanner" "count" "I") (by decide +kernel)) (fun _ h9 => h9) rfl dX5_add_1 ?_
  refine lv_aload_n hx hb dX5_add_4 rfl (lv_at hl 0 rfl) ?_
  refine va_get (D := D) (ci := 9) (v := .ref k1) (C := RX5) (T := TX5) (N := 4) hx hb hts inX5 hown hK hP 0 rfl rfl 0 (by decide) (hts (.fieldLink RX5 9 "EscrowDesk$Scanner" "kinds" "[I") (by decide +kernel)) (fun _ h9 => h9) rfl dX5_add_5 ?_
  refine va_alen (v := 701) hx hb hK hP 1 0 rfl rfl rfl dX5_add_8 ?_
  refine lv_icmp_ge (tgt := 52) hx hb dX5_add_9 (by decide) (fun c9 => absurd c9 (nI_ge (a := ct) (b := 701) (show ct < 701 by omega) (by omega))) (fun c1 => ?_)
  refine lv_aload_n hx hb dX5_add_12 rfl (lv_at hl 0 rfl) ?_
  refine va_get (D := D) (ci := 9) (v := .ref k1) (C := RX5) (T := TX5) (N := 4) hx hb hts inX5 hown hK hP 0 rfl rfl 0 (by decide) (hts (.fieldLink RX5 9 "EscrowDesk$Scanner" "kinds" "[I") (by decide +kernel)) (fun _ h9 => h9) rfl dX5_add_13 ?_
  refine lv_aload_n hx hb dX5_add_16 rfl (lv_at hl 0 rfl) ?_
  refine va_get (D := D) (ci := 9) (v := .int (nI ct)) (C := RX5) (T := TX5) (N := 4) hx hb hts inX5 hown hK hP 0 rfl rfl 3 (by decide) (hts (.fieldLink RX5 22 "EscrowDesk$Scanner" "count" "I") (by decide +kernel)) (fun _ h9 => h9) rfl dX5_add_17 ?_
  refine lv_iload_n hx hb dX5_add_20 rfl (lv_at hl 1 rfl) ?_
  refine va_iast hx hb hK hP hD hS 1 0 rfl rfl (vp_in_nI (n := ct) (N := 701) (show ct < 701 by omega) (by decide)) dX5_add_21 (fun H locs hP hD hS => ?_)
  obtain ⟨hP, hD⟩ : PDq D A [(oX5 r1 k1 k2 k3 (nI ct)), (k1, .inl (cA 0, 701, .inl (upd fk (((nI ct)).toNatClampNeg) k))), (k2, .inl (cA 0, 701, .inl ft)), (k3, .inl (cA 1, 701, .inr (.inl fv)))] H := ⟨hP, hD⟩
  have hn3 : Upp ct k fk (upd fk (((nI ct)).toNatClampNeg) k) := Upp.of (by omega)
  have hn4 : Rdd (upd fk (((nI ct)).toNatClampNeg) k) := rfl
  generalize (upd fk (((nI ct)).toNatClampNeg) k) = fn2 at hP hD hn3 hn4
  obtain ⟨hP, hD⟩ : PDq D A [(oX5 r1 k1 k2 k3 (nI ct)), (k1, .inl (cA 0, 701, .inl fn2)), (k2, .inl (cA 0, 701, .inl ft)), (k3, .inl (cA 1, 701, .inr (.inl fv)))] H := ⟨hP, hD⟩
  refine lv_aload_n hx hb dX5_add_22 rfl (lv_at hl 0 rfl) ?_
  refine va_get (D := D) (ci := 9) (v := .ref k2) (C := RX5) (T := TX5) (N := 4) hx hb hts inX5 hown hK hP 0 rfl rfl 1 (by decide) (hts (.fieldLink RX5 15 "EscrowDesk$Scanner" "starts" "[I") (by decide +kernel)) (fun _ h9 => h9) rfl dX5_add_23 ?_
  refine lv_aload_n hx hb dX5_add_26 rfl (lv_at hl 0 rfl) ?_
  refine va_get (D := D) (ci := 9) (v := .int (nI ct)) (C := RX5) (T := TX5) (N := 4) hx hb hts inX5 hown hK hP 0 rfl rfl 3 (by decide) (hts (.fieldLink RX5 22 "EscrowDesk$Scanner" "count" "I") (by decide +kernel)) (fun _ h9 => h9) rfl dX5_add_27 ?_
  refine lv_iload_n hx hb dX5_add_30 rfl (lv_at hl 2 rfl) ?_
  refine va_iast hx hb hK hP hD hS 2 0 rfl rfl (vp_in_nI (n := ct) (N := 701) (show ct < 701 by omega) (by decide)) dX5_add_31 (fun H locs hP hD hS => ?_)
  obtain ⟨hP, hD⟩ : PDq D A [(oX5 r1 k1 k2 k3 (nI ct)), (k1, .inl (cA 0, 701, .inl fn2)), (k2, .inl (cA 0, 701, .inl (upd ft (((nI ct)).toNatClampNeg) a))), (k3, .inl (cA 1, 701, .inr (.inl fv)))] H := ⟨hP, hD⟩
  have hn6 : Upp ct a ft (upd ft (((nI ct)).toNatClampNeg) a) := Upp.of (by omega)
  have hn7 : Rdd (upd ft (((nI ct)).toNatClampNeg) a) := rfl
  generalize (upd ft (((nI ct)).toNatClampNeg) a) = fn5 at hP hD hn6 hn7
  obtain ⟨hP, hD⟩ : PDq D A [(oX5 r1 k1 k2 k3 (nI ct)), (k1, .inl (cA 0, 701, .inl fn2)), (k2, .inl (cA 0, 701, .inl fn5)), (k3, .inl (cA 1, 701, .inr (.inl fv)))] H := ⟨hP, hD⟩
  refine lv_aload_n hx hb dX5_add_32 rfl (lv_at hl 0 rfl) ?_
  refine va_get (D := D) (ci := 9) (v := .ref k3) (C := RX5) (T := TX5) (N := 4) hx hb hts inX5 hown hK hP 0 rfl rfl 2 (by decide) (hts (.fieldLink RX5 18 "EscrowDesk$Scanner" "values" "[J") (by decide +kernel)) (fun _ h9 => h9) rfl dX5_add_33 ?_
  refine lv_aload_n hx hb dX5_add_36 rfl (lv_at hl 0 rfl) ?_
  refine va_get (D := D) (ci := 9) (v := .int (nI ct)) (C := RX5) (T := TX5) (N := 4) hx hb hts inX5 hown hK hP 0 rfl rfl 3 (by decide) (hts (.fieldLink RX5 22 "EscrowDesk$Scanner" "count" "I") (by decide +kernel)) (fun _ h9 => h9) rfl dX5_add_37 ?_
  refine lv_lload_n hx hb dX5_add_40 rfl (lv_at hl 3 rfl) ?_
  refine va_last hx hb hK hP hD hS 3 1 rfl rfl (vp_in_nI (n := ct) (N := 701) (show ct < 701 by omega) (by decide)) dX5_add_41 (fun H locs hP hD hS => ?_)
  obtain ⟨hP, hD⟩ : PDq D A [(oX5 r1 k1 k2 k3 (nI ct)), (k1, .inl (cA 0, 701, .inl fn2)), (k2, .inl (cA 0, 701, .inl fn5)), (k3, .inl (cA 1, 701, .inr (.inl (vp_updL fv (((nI ct)).toNatClampNeg) w))))] H := ⟨hP, hD⟩
  have hn9 : UppL ct w fv (vp_updL fv (((nI ct)).toNatClampNeg) w) := UppL.of (by omega)
  have hn10 : Rdd (vp_updL fv (((nI ct)).toNatClampNeg) w) := rfl
  generalize (vp_updL fv (((nI ct)).toNatClampNeg) w) = fn8 at hP hD hn9 hn10
  obtain ⟨hP, hD⟩ : PDq D A [(oX5 r1 k1 k2 k3 (nI ct)), (k1, .inl (cA 0, 701, .inl fn2)), (k2, .inl (cA 0, 701, .inl fn5)), (k3, .inl (cA 1, 701, .inr (.inl fn8)))] H := ⟨hP, hD⟩
  refine lv_aload_n hx hb dX5_add_42 rfl (lv_at hl 0 rfl) ?_
  refine lv_dup hx hb dX5_add_43 rfl ?_
  refine va_get (D := D) (ci := 9) (v := .int (nI ct)) (C := RX5) (T := TX5) (N := 4) hx hb hts inX5 hown hK hP 0 rfl rfl 3 (by decide) (hts (.fieldLink RX5 22 "EscrowDesk$Scanner" "count" "I") (by decide +kernel)) (fun _ h9 => h9) rfl dX5_add_44 ?_
  refine lv_iconst (v := 1) hx hb dX5_add_47 (by decide) ?_
  refine lv_iadd hx hb dX5_add_48 ?_
  refine lv_topi (fun yn11 eyn11 => ?_)
  obtain rfl : yn11 = (nI (ct + 1)) := eyn11.trans (nI_add ct 1)
  refine va_put (D := D) (ci := 9) (v := .int (nI (ct + 1))) (ty := .int) (C := RX5) (T := TX5) (N := 4) hx hb hts inX5 tyX5 tyX5_ok nmX5 hown hK hP hD hS 0 rfl rfl 3 (by decide) (hts (.fieldLink RX5 22 "EscrowDesk$Scanner" "count" "I") (by decide +kernel)) (fun _ h9 => h9) rfl (by decide +kernel) rfl rfl (Nat.le_of_ble_eq_true rfl) dX5_add_49 (fun H locs hP hD hS => ?_)
  obtain ⟨hP, hD⟩ : PDq D A [(oX5 r1 k1 k2 k3 (nI (ct + 1))), (k1, .inl (cA 0, 701, .inl fn2)), (k2, .inl (cA 0, 701, .inl fn5)), (k3, .inl (cA 1, 701, .inr (.inl fn8)))] H := ⟨hP, hD⟩
  obtain ⟨hP9, hD9⟩ := PDq.sub (ws' := [(oX5 r1 k1 k2 k3 (nI (ct + 1))), (k1, .inl (cA 0, 701, .inl fn2)), (k2, .inl (cA 0, 701, .inl fn5)), (k3, .inl (cA 1, 701, .inr (.inl fn8)))]) hP hD [0, 1, 2, 3] (by decide) rfl
  refine W.widen (k := 0) (n := 0) (Nat.le_of_ble_eq_true rfl) (Nat.le_of_ble_eq_true rfl) ?_
  exact (W.vret hx hb hr (fun t ht hW => ⟨⟨(), rfl, trivial, fn2, fn5, fn8, hn3, hn6, hn9, by rw [ht]; exact hP9, hD9⟩, hS.F ht⟩) hS.2.2 dX5_add_52)

set_option maxHeartbeats 4000000 in
set_option maxRecDepth 100000 in
/-- extendLast -/
theorem x_extendLast (l : Launch) (D : va_G) (cA : Nat → ClassId) (sa : Nat → Nat) (r1 : Nat) (k1 : Nat) (k2 : Nat) (k3 : Nat) (ct : Nat) (fk : Nat → Int32) (ft : Nat → Int32) (fv : Nat → Int64) (k : Int32) (a : Int32) (rn : Nat) (sz : Nat) (hct : ct ≤ 701) (h0 : 0 < ct) (ha : k = 4 → ckd a = 4) (hrn : rn ≤ 701) : Met l yX5_extendLast wsX5_extendLast ({ frames := 2, cells := 0, slots := 0, locals := 45 }) (va_Pc [.ref r1, .int k, .int a, .int (nI rn)] (Wd D cA sa [(oX5 r1 k1 k2 k3 (nI ct)), (k1, .inl (cA 0, 701, .inl fk)), (k2, .inl (cA 0, 701, .inl ft)), (k3, .inl (cA 1, 701, .inr (.inl fv)))] sz)) (va_Qv (fun _ : Unit => True) (fun (_ : Unit) t => ∃ zk : Nat → Int32, ∃ zv : Nat → Int64, UppL (ct - 1) (if k = 4 then 32 * (fv (ct - 1)) + a.toInt64 - 96 else if k = 3 then (fv (ct - 1)) * 10 + (a - 48).toInt64 else 0) fv zv ∧ ((rn ≤ (if k = 4 then 9 else 5) ∧ zk = fk) ∨ ((if k = 4 then 9 else 5) < rn ∧ zk = upd fk (ct - 1) 2)) ∧ Wq D (va_A [(oX5 r1 k1 k2 k3 (nI ct)), (k1, .inl (cA 0, 701, .inl fk)), (k2, .inl (cA 0, 701, .inl ft)), (k3, .inl (cA 1, 701, .inr (.inl fv)))] sz) [(oX5 r1 k1 k2 k3 (nI ct)), (k1, .inl (cA 0, 701, .inl zk)), (k2, .inl (cA 0, 701, .inl ft)), (k3, .inl (cA 1, 701, .inr (.inl zv)))] t) (va_A [(oX5 r1 k1 k2 k3 (nI ct)), (k1, .inl (cA 0, 701, .inl fk)), (k2, .inl (cA 0, 701, .inl ft)), (k3, .inl (cA 1, 701, .inr (.inl fv)))] sz)) 0 0 (va_A [(oX5 r1 k1 k2 k3 (nI ct)), (k1, .inl (cA 0, 701, .inl fk)), (k2, .inl (cA 0, 701, .inl ft)), (k3, .inl (cA 1, 701, .inr (.inl fv)))] sz) := by
  refine Met.ofW (cc := cX5_extendLast) (maxL := 5) (ret := none) (by decide) rfl ?_
  intro p e s m args below meth c s₁ B hml hv
  obtain ⟨rfl, hsz, hP, hK, hD0, hC, hZ⟩ := hv
  have hx := B.exec
  have hb := B.bytes
  have hr := B.returns
  have hts := atoms_spec (ws := wsX5_extendLast) B.pre
  have hown : s.vm.findClass RX5 = some m.cls := findClass_of_methodNamed B.named
  have hlocks := B.notSynchronized
  subst hsz
  have hD := hD0.self (sz := s.heap.size)
  generalize hAe : va_A [(oX5 r1 k1 k2 k3 (nI ct)), (k1, .inl (cA 0, 701, .inl fk)), (k2, .inl (cA 0, 701, .inl ft)), (k3, .inl (cA 1, 701, .inr (.inl fv)))] s.heap.size = A at hD hZ ⊢
  have hA : ∀ q : Nat, s.heap.size ≤ q → A q := fun q h => by rw [← hAe]; exact Or.inr h
  have hS : va_S A s.heap s.heap [] := va_S.rf
  have hP : va_P D vwCl [(oX5 r1 k1 k2 k3 (nI ct)), (k1, .inl (cA 0, 701, .inl fk)), (k2, .inl (cA 0, 701, .inl ft)), (k3, .inl (cA 1, 701, .inr (.inl fv)))] s.heap := hP
  have hl := lv_entry ([.ref r1, .int k, .int a, .int (nI rn)]) (n := 5) (Nat.le_of_ble_eq_true rfl)
  rw [lg_entry_eq]
  generalize (lg_sl ([.ref r1, .int k, .int a, .int (nI rn)]) ++ List.replicate (5 - (lg_sl ([.ref r1, .int k, .int a, .int (nI rn)])).length) Slot.unset).toArray = ls at hl ⊢
  have hl : lv_has ls 5 [(0, .ref r1), (1, .int k), (2, .int a), (3, .int (nI rn))] := hl
  have inX5 : ∀ w ∈ u_ws RX5 TX5 4, w ∈ wsX5_extendLast := by decide +kernel
  refine lv_aload_n hx hb dX5_extendLast_0 rfl (lv_at hl 0 rfl) ?_
  refine va_get (D := D) (ci := 9) (v := .int (nI ct)) (C := RX5) (T := TX5) (N := 4) hx hb hts inX5 hown hK hP 0 rfl rfl 3 (by decide) (hts (.fieldLink RX5 22 "EscrowDesk$Scanner" "count" "I") (by decide +kernel)) (fun _ h9 => h9) rfl dX5_extendLast_1 ?_
  refine lv_iconst (v := 1) hx hb dX5_extendLast_4 (by decide) ?_
  refine lv_isub hx hb dX5_extendLast_5 ?_
  refine lv_topi (fun yn1 eyn1 => ?_)
  obtain rfl : yn1 = (nI (ct - 1)) := eyn1.trans (nI_sub (a := ct) (b := 1) (by omega))
  refine lv_istore (lv' := [(4, .int (nI (ct - 1))), (0, .ref r1), (1, .int k), (2, .int a), (3, .int (nI rn))]) hx hb dX5_extendLast_6 hl (by decide) rfl (fun ls hl => ?_)
  refine lv_iload hx hb dX5_extendLast_8 (lv_at hl 0 rfl) ?_
  refine lv_if_ge (tgt := 14) hx hb dX5_extendLast_10 (by decide) (fun c2 => ?_) (fun c9 => absurd (nI_pos' (n := (ct - 1)) (by omega)) c9)
  refine lv_aload_n hx hb dX5_extendLast_14 rfl (lv_at hl 1 rfl) ?_
  refine va_get (D := D) (ci := 9) (v := .ref k3) (C := RX5) (T := TX5) (N := 4) hx hb hts inX5 hown hK hP 0 rfl rfl 2 (by decide) (hts (.fieldLink RX5 18 "EscrowDesk$Scanner" "values" "[J") (by decide +kernel)) (fun _ h9 => h9) rfl dX5_extendLast_15 ?_
  refine lv_iload hx hb dX5_extendLast_18 (lv_at hl 0 rfl) ?_
  refine lv_iload_n hx hb dX5_extendLast_20 rfl (lv_at hl 2 rfl) ?_
  refine lv_aload_n hx hb dX5_extendLast_21 rfl (lv_at hl 1 rfl) ?_
  refine va_get (D := D) (ci := 9) (v := .ref k3) (C := RX5) (T := TX5) (N := 4) hx hb hts inX5 hown hK hP 0 rfl rfl 2 (by decide) (hts (.fieldLink RX5 18 "EscrowDesk$Scanner" "values" "[J") (by decide +kernel)) (fun _ h9 => h9) rfl dX5_extendLast_22 ?_
  refine lv_iload hx hb dX5_extendLast_25 (lv_at hl 0 rfl) ?_
  refine va_lald hx hb hK hP 3 1 rfl rfl (vp_in_nI (n := (ct - 1)) (N := 701) (show (ct - 1) < 701 by omega) (by decide)) dX5_extendLast_27 ?_
  refine lv_topl (fun yn3 eyn3 => ?_)
  obtain rfl : yn3 = (fv (ct - 1)) := eyn3.trans (by rw [nI_clamp (by omega)])
  refine lv_iload_n hx hb dX5_extendLast_28 rfl (lv_at hl 3 rfl) ?_
  obtain ⟨hPc, hDc, hFc⟩ := PDq.cut (wc := []) hP hD hS hA [] (by decide) rfl
  refine va_calll (va_runS (As := [.int k, .long (fv (ct - 1)), .int a]) (rest := [.int (nI (ct - 1)), .ref k3]) ⟨hx, hb, hml, hown, hts⟩ (x_extended l D cA sa (fv (ct - 1)) k a s.heap.size ha) (va_cwS 3 hts gX5_extendLast_X5_extended rfl rfl rfl (by decide +kernel) ⟨(Nat.le_of_ble_eq_true rfl), (Nat.le_of_ble_eq_true rfl)⟩) ⟨Wd.blind, fun U hU hW => ⟨rfl, Wd.call hPc hDc hK hC hZ hS hFc U hU hW⟩⟩ rfl rfl hl.1 rfl (lv_room (Nat.le_of_ble_eq_true rfl)) dX5_extendLast_29 ⟨(Nat.le_of_ble_eq_true rfl), (Nat.le_of_ble_eq_true rfl)⟩) hS (fun q _ h => hFc q h) hFc (fun rn4 u t H1 locs ht hvm hw hB hz1 hk1 hS => ?_)
  obtain ⟨hP1, hD1⟩ := hB
  rw [ht] at hP1
  obtain ⟨hP, hD⟩ := PDq.join (w := [(oX5 r1 k1 k2 k3 (nI ct)), (k1, .inl (cA 0, 701, .inl fk)), (k2, .inl (cA 0, 701, .inl ft)), (k3, .inl (cA 1, 701, .inr (.inl fv)))]) 4 hP hD [] [0, 1, 2, 3] rfl rfl (by decide) (by decide) hk1 hFc hP1 hD1 rfl
  generalize H1 = H at hP hS ⊢
  obtain rfl : rn4 = (if k = 4 then 32 * (fv (ct - 1)) + a.toInt64 - 96 else if k = 3 then (fv (ct - 1)) * 10 + (a - 48).toInt64 else 0) := hw
  refine va_last hx hb hK hP hD hS 3 1 rfl rfl (vp_in_nI (n := (ct - 1)) (N := 701) (show (ct - 1) < 701 by omega) (by decide)) dX5_extendLast_32 (fun H locs hP hD hS => ?_)
  obtain ⟨hP, hD⟩ : PDq D A [(oX5 r1 k1 k2 k3 (nI ct)), (k1, .inl (cA 0, 701, .inl fk)), (k2, .inl (cA 0, 701, .inl ft)), (k3, .inl (cA 1, 701, .inr (.inl (vp_updL fv (((nI (ct - 1))).toNatClampNeg) (if k = 4 then 32 * (fv (ct - 1)) + a.toInt64 - 96 else if k = 3 then (fv (ct - 1)) * 10 + (a - 48).toInt64 else 0)))))] H := ⟨hP, hD⟩
  have hn6 : UppL (ct - 1) (if k = 4 then 32 * (fv (ct - 1)) + a.toInt64 - 96 else if k = 3 then (fv (ct - 1)) * 10 + (a - 48).toInt64 else 0) fv (vp_updL fv (((nI (ct - 1))).toNatClampNeg) (if k = 4 then 32 * (fv (ct - 1)) + a.toInt64 - 96 else if k = 3 then (fv (ct - 1)) * 10 + (a - 48).toInt64 else 0)) := UppL.of (by omega)
  have hn7 : Rdd (vp_updL fv (((nI (ct - 1))).toNatClampNeg) (if k = 4 then 32 * (fv (ct - 1)) + a.toInt64 - 96 else if k = 3 then (fv (ct - 1)) * 10 + (a - 48).toInt64 else 0)) := rfl
  generalize (vp_updL fv (((nI (ct - 1))).toNatClampNeg) (if k = 4 then 32 * (fv (ct - 1)) + a.toInt64 - 96 else if k = 3 then (fv (ct - 1)) * 10 + (a - 48).toInt64 else 0)) = fn5 at hP hD hn6 hn7
  obtain ⟨hP, hD⟩ : PDq D A [(oX5 r1 k1 k2 k3 (nI ct)), (k1, .inl (cA 0, 701, .inl fk)), (k2, .inl (cA 0, 701, .inl ft)), (k3, .inl (cA 1, 701, .inr (.inl fn5)))] H := ⟨hP, hD⟩
  refine lv_iload_n hx hb dX5_extendLast_33 rfl (lv_at hl 4 rfl) ?_
  refine lv_iload_n hx hb dX5_extendLast_34 rfl (lv_at hl 2 rfl) ?_
  refine lv_iconst (v := 4) hx hb dX5_extendLast_35 (by decide) ?_
  refine lv_icmp_ne (tgt := 44) hx hb dX5_extendLast_36 (by decide) (fun c8 => ?_) (fun c8 => ?_)
  · skip
    refine lv_iconst (v := 5) hx hb dX5_extendLast_44 (by decide) ?_
    refine lv_icmp_le (tgt := 56) hx hb dX5_extendLast_45 (by decide) (fun c9 => ?_) (fun c9 => ?_)
    · skip
      have hn10 : rn ≤ 5 := (nI_leI (a := rn) (b := 5) (by omega) (by omega)).mp c9
      obtain ⟨hP9, hD9⟩ := PDq.sub (ws' := [(oX5 r1 k1 k2 k3 (nI ct)), (k1, .inl (cA 0, 701, .inl fk)), (k2, .inl (cA 0, 701, .inl ft)), (k3, .inl (cA 1, 701, .inr (.inl fn5)))]) hP hD [0, 1, 2, 3] (by decide) rfl
      refine W.widen (k := 0) (n := 0) (Nat.le_of_ble_eq_true rfl) (Nat.le_of_ble_eq_true rfl) ?_
      exact (W.vret hx hb hr (fun t ht hW => ⟨⟨(), rfl, trivial, fk, fn5, hn6, (Or.inl ⟨by rw [if_neg c8]; omega, rfl⟩), by rw [ht]; exact hP9, hD9⟩, hS.F ht⟩) hS.2.2 dX5_extendLast_56)
    · skip
      have hn11 : 5 < rn := Nat.lt_of_not_le (fun h9 => c9 (nI_le (a := rn) (b := 5) h9 (by omega)))
      refine lv_aload_n hx hb dX5_extendLast_48 rfl (lv_at hl 1 rfl) ?_
      refine va_get (D := D) (ci := 9) (v := .ref k1) (C := RX5) (T := TX5) (N := 4) hx hb hts inX5 hown hK hP 0 rfl rfl 0 (by decide) (hts (.fieldLink RX5 9 "EscrowDesk$Scanner" "kinds" "[I") (by decide +kernel)) (fun _ h9 => h9) rfl dX5_extendLast_49 ?_
      refine lv_iload hx hb dX5_extendLast_52 (lv_at hl 0 rfl) ?_
      refine lv_iconst (v := 2) hx hb dX5_extendLast_54 (by decide) ?_
      refine va_iast hx hb hK hP hD hS 1 0 rfl rfl (vp_in_nI (n := (ct - 1)) (N := 701) (show (ct - 1) < 701 by omega) (by decide)) dX5_extendLast_55 (fun H locs hP hD hS => ?_)
      obtain ⟨hP, hD⟩ : PDq D A [(oX5 r1 k1 k2 k3 (nI ct)), (k1, .inl (cA 0, 701, .inl (upd fk (((nI (ct - 1))).toNatClampNeg) 2))), (k2, .inl (cA 0, 701, .inl ft)), (k3, .inl (cA 1, 701, .inr (.inl fn5)))] H := ⟨hP, hD⟩
      have hn13 : Upp (ct - 1) 2 fk (upd fk (((nI (ct - 1))).toNatClampNeg) 2) := Upp.of (by omega)
      have hn14 : Rdd (upd fk (((nI (ct - 1))).toNatClampNeg) 2) := rfl
      generalize (upd fk (((nI (ct - 1))).toNatClampNeg) 2) = fn12 at hP hD hn13 hn14
      obtain ⟨hP, hD⟩ : PDq D A [(oX5 r1 k1 k2 k3 (nI ct)), (k1, .inl (cA 0, 701, .inl fn12)), (k2, .inl (cA 0, 701, .inl ft)), (k3, .inl (cA 1, 701, .inr (.inl fn5)))] H := ⟨hP, hD⟩
      obtain ⟨hP9, hD9⟩ := PDq.sub (ws' := [(oX5 r1 k1 k2 k3 (nI ct)), (k1, .inl (cA 0, 701, .inl fn12)), (k2, .inl (cA 0, 701, .inl ft)), (k3, .inl (cA 1, 701, .inr (.inl fn5)))]) hP hD [0, 1, 2, 3] (by decide) rfl
      refine W.widen (k := 0) (n := 0) (Nat.le_of_ble_eq_true rfl) (Nat.le_of_ble_eq_true rfl) ?_
      exact (W.vret hx hb hr (fun t ht hW => ⟨⟨(), rfl, trivial, fn12, fn5, hn6, (Or.inr ⟨by rw [if_neg c8]; omega, hn13⟩), by rw [ht]; exact hP9, hD9⟩, hS.F ht⟩) hS.2.2 dX5_extendLast_56)
  · skip
    rw [c8] at hl
    have hl : lv_has ls 5 [(4, .int (nI (ct - 1))), (0, .ref r1), (1, .int 4), (2, .int a), (3, .int (nI rn))] := hl
    refine lv_bipush (v := 9) hx hb dX5_extendLast_39 (by decide) ?_
    refine lv_goto (tgt := 45) hx hb dX5_extendLast_41 (by decide) ?_
    refine lv_icmp_le (tgt := 56) hx hb dX5_extendLast_45 (by decide) (fun c15 => ?_) (fun c15 => ?_)
    · skip
      have hn16 : rn ≤ 9 := (nI_leI (a := rn) (b := 9) (by omega) (by omega)).mp c15
      obtain ⟨hP9, hD9⟩ := PDq.sub (ws' := [(oX5 r1 k1 k2 k3 (nI ct)), (k1, .inl (cA 0, 701, .inl fk)), (k2, .inl (cA 0, 701, .inl ft)), (k3, .inl (cA 1, 701, .inr (.inl fn5)))]) hP hD [0, 1, 2, 3] (by decide) rfl
      refine W.widen (k := 0) (n := 0) (Nat.le_of_ble_eq_true rfl) (Nat.le_of_ble_eq_true rfl) ?_
      exact (W.vret hx hb hr (fun t ht hW => ⟨⟨(), rfl, trivial, fk, fn5, hn6, (Or.inl ⟨by rw [if_pos c8]; omega, rfl⟩), by rw [ht]; exact hP9, hD9⟩, hS.F ht⟩) hS.2.2 dX5_extendLast_56)
    · skip
      have hn17 : 9 < rn := Nat.lt_of_not_le (fun h9 => c15 (nI_le (a := rn) (b := 9) h9 (by omega)))
      refine lv_aload_n hx hb dX5_extendLast_48 rfl (lv_at hl 1 rfl) ?_
      refine va_get (D := D) (ci := 9) (v := .ref k1) (C := RX5) (T := TX5) (N := 4) hx hb hts inX5 hown hK hP 0 rfl rfl 0 (by decide) (hts (.fieldLink RX5 9 "EscrowDesk$Scanner" "kinds" "[I") (by decide +kernel)) (fun _ h9 => h9) rfl dX5_extendLast_49 ?_
      refine lv_iload hx hb dX5_extendLast_52 (lv_at hl 0 rfl) ?_
      refine lv_iconst (v := 2) hx hb dX5_extendLast_54 (by decide) ?_
      refine va_iast hx hb hK hP hD hS 1 0 rfl rfl (vp_in_nI (n := (ct - 1)) (N := 701) (show (ct - 1) < 701 by omega) (by decide)) dX5_extendLast_55 (fun H locs hP hD hS => ?_)
      obtain ⟨hP, hD⟩ : PDq D A [(oX5 r1 k1 k2 k3 (nI ct)), (k1, .inl (cA 0, 701, .inl (upd fk (((nI (ct - 1))).toNatClampNeg) 2))), (k2, .inl (cA 0, 701, .inl ft)), (k3, .inl (cA 1, 701, .inr (.inl fn5)))] H := ⟨hP, hD⟩
      have hn19 : Upp (ct - 1) 2 fk (upd fk (((nI (ct - 1))).toNatClampNeg) 2) := Upp.of (by omega)
      have hn20 : Rdd (upd fk (((nI (ct - 1))).toNatClampNeg) 2) := rfl
      generalize (upd fk (((nI (ct - 1))).toNatClampNeg) 2) = fn18 at hP hD hn19 hn20
      obtain ⟨hP, hD⟩ : PDq D A [(oX5 r1 k1 k2 k3 (nI ct)), (k1, .inl (cA 0, 701, .inl fn18)), (k2, .inl (cA 0, 701, .inl ft)), (k3, .inl (cA 1, 701, .inr (.inl fn5)))] H := ⟨hP, hD⟩
      obtain ⟨hP9, hD9⟩ := PDq.sub (ws' := [(oX5 r1 k1 k2 k3 (nI ct)), (k1, .inl (cA 0, 701, .inl fn18)), (k2, .inl (cA 0, 701, .inl ft)), (k3, .inl (cA 1, 701, .inr (.inl fn5)))]) hP hD [0, 1, 2, 3] (by decide) rfl
      refine W.widen (k := 0) (n := 0) (Nat.le_of_ble_eq_true rfl) (Nat.le_of_ble_eq_true rfl) ?_
      exact (W.vret hx hb hr (fun t ht hW => ⟨⟨(), rfl, trivial, fn18, fn5, hn6, (Or.inr ⟨by rw [if_pos c8]; omega, hn19⟩), by rw [ht]; exact hP9, hD9⟩, hS.F ht⟩) hS.2.2 dX5_extendLast_56)

set_option maxHeartbeats 4000000 in
set_option maxRecDepth 100000 in
/-- packed -/
theorem x_packed (l : Launch) (D : va_G) (cA : Nat → ClassId) (sa : Nat → Nat) (k : Nat) (bs : List Int32) (sz : Nat) (hq : (k, bs) ∈ sbL) (hB : ∀ j, j < bs.length → ckd (bs.getD j 0) = 4) : Met l yX8_packed wsX8_packed ({ frames := 4, cells := 0, slots := 0, locals := 85 }) (va_Pc [.ref (sa k)] (Wd D cA sa [] sz)) (va_Ql (fun (r : Int64) (_ : Unit) => r = wf bs bs.length) (fun (_ : Unit) t => Wq D (va_A [] sz) [] t) (va_A [] sz)) 0 0 (va_A [] sz) := by
  refine Met.ofW (cc := cX8_packed) (maxL := 4) (ret := (some .long)) (by decide) rfl ?_
  intro p e s m args below meth c s₁ B hml hv
  obtain ⟨rfl, hsz, hP, hK, hD0, hC, hZ⟩ := hv
  have hx := B.exec
  have hb := B.bytes
  have hr := B.returns
  have hts := atoms_spec (ws := wsX8_packed) B.pre
  have hown : s.vm.findClass RX8 = some m.cls := findClass_of_methodNamed B.named
  have hlocks := B.notSynchronized
  subst hsz
  have hD := hD0.self (sz := s.heap.size)
  generalize hAe : va_A [] s.heap.size = A at hD hZ ⊢
  have hA : ∀ q : Nat, s.heap.size ≤ q → A q := fun q h => by rw [← hAe]; exact Or.inr h
  have hS : va_S A s.heap s.heap [] := va_S.rf
  have hP : va_P D vwCl [] s.heap := hP
  have hl := lv_entry ([.ref (sa k)]) (n := 4) (Nat.le_of_ble_eq_true rfl)
  rw [lg_entry_eq]
  generalize (lg_sl ([.ref (sa k)]) ++ List.replicate (4 - (lg_sl ([.ref (sa k)])).length) Slot.unset).toArray = ls at hl ⊢
  have hl : lv_has ls 4 [(0, .ref (sa k))] := hl
  have hso := hZ.2.2.2.2 (k, bs) hq
  have hsC : va_OF "java/lang/String" "coder" "B" (.int 0) (sa k) A s s.heap := hso.2.1
  have hsV : va_OF "java/lang/String" "value" "[B" (.ref (sa (1000 + k))) (sa k) A s s.heap := hso.2.2.1
  have hsT : va_T .byte (sa (1000 + k)) bs.length (fun j => .int (bs.getD j 0)) A s s.heap := hso.2.2.2
  have hL := sb_lt hq
  refine lv_lconst (v := 0) hx hb dX8_packed_0 (by decide) ?_
  refine lv_lstore_n (lv' := [(1, .long 0), (0, .ref (sa k))]) hx hb dX8_packed_1 rfl hl (by decide) rfl (fun ls hl => ?_)
  refine lv_iconst (v := 0) hx hb dX8_packed_2 (by decide) ?_
  refine lv_istore_n (lv' := [(3, .int 0), (1, .long 0), (0, .ref (sa k))]) hx hb dX8_packed_3 rfl hl (by decide) rfl (fun ls hl => ?_)
  have loop1 : ∀ (n1 i1 : Nat) (x1_1 : Int64) (H : Heap) (locs : List Loc) (ls : Array Slot), i1 + n1 = bs.length → WF bs i1 x1_1 → va_P D vwCl [] H → va_D A [] → va_S A s.heap H locs → lv_has ls 4 [(3, .int (nI i1)), (1, .long x1_1), (0, .ref (sa k))] → W p l e (headSpec wsX8_packed ({ frames := 4, cells := 0, slots := 0, locals := 85 } : Room)).room s m ([.ref (sa k)] : List Value).toArray below meth c H locs 0 0 (MQ below (va_Ql (fun (r : Int64) (_ : Unit) => r = wf bs bs.length) (fun (_ : Unit) t => Wq D A [] t) A) ([.ref (sa k)] : List Value).toArray s 0 0 A) (F0 m 4 ls []) := by
    intro n1
    induction n1 with
    | zero =>
      intro i1 x1_1 H locs ls hi1 hv0_1 hP hD hS hl
      obtain rfl : bs.length = i1 := by omega
      refine lv_iload_n hx hb dX8_packed_4 rfl (lv_at hl 0 rfl) ?_
      refine lv_aload_n hx hb dX8_packed_5 rfl (lv_at hl 2 rfl) ?_
      obtain ⟨hPc, hDc, hFc⟩ := PDq.cut (wc := []) hP hD hS hA [] (by decide) rfl
      refine va_calli (va_runV (As := []) (rest := [.int (nI bs.length)]) ⟨hx, hb, hml, hown, hts⟩ (c_slength l D cA sa k bs H.size hq) (cwV 0 hts gX8_packed_J0_length_8abf5 rfl rfl rfl (by decide +kernel) ⟨(Nat.le_of_ble_eq_true rfl), (Nat.le_of_ble_eq_true rfl)⟩) ⟨Wd.blind, SO.recv hso hS, fun U hU hW => ⟨rfl, Wd.call hPc hDc hK hC hZ hS hFc U hU hW⟩⟩ rfl rfl hl.1 rfl (lv_room (Nat.le_of_ble_eq_true rfl)) dX8_packed_6 ⟨(Nat.le_of_ble_eq_true rfl), (Nat.le_of_ble_eq_true rfl)⟩) hS (fun q _ h => hFc q h) hFc (fun rn1 u t H1 locs ht hvm hw hB hz1 hk1 hS => ?_)
      obtain ⟨hP1, hD1⟩ := hB
      rw [ht] at hP1
      obtain ⟨hP, hD⟩ := PDq.join (w := []) 0 hP hD [] [] rfl rfl (by decide) (by decide) hk1 hFc hP1 hD1 rfl
      generalize H1 = H at hP hS ⊢
      obtain rfl : rn1 = (nI bs.length) := hw
      refine lv_icmp_ge (tgt := 28) hx hb dX8_packed_9 (by decide) (fun c2 => ?_) (fun c9 => absurd (nI_le (a := bs.length) (b := bs.length) (show bs.length ≤ bs.length by omega) (by omega)) c9)
      refine lv_lload_n hx hb dX8_packed_28 rfl (lv_at hl 1 rfl) ?_
      obtain ⟨hP9, hD9⟩ := PDq.sub (ws' := []) hP hD [] (by decide) rfl
      refine W.widen (k := 0) (n := 0) (Nat.le_of_ble_eq_true rfl) (Nat.le_of_ble_eq_true rfl) ?_
      exact (W.lret (v := x1_1) hx hb hr (fun t ht hW => ⟨⟨x1_1, (), rfl, hv0_1, by rw [ht]; exact hP9, hD9⟩, hS.F ht⟩) hS.2.2 dX8_packed_29)
    | succ n1 ih1 =>
      intro i1 x1_1 H locs ls hi1 hv0_1 hP hD hS hl
      refine lv_iload_n hx hb dX8_packed_4 rfl (lv_at hl 0 rfl) ?_
      refine lv_aload_n hx hb dX8_packed_5 rfl (lv_at hl 2 rfl) ?_
      obtain ⟨hPc, hDc, hFc⟩ := PDq.cut (wc := []) hP hD hS hA [] (by decide) rfl
      refine va_calli (va_runV (As := []) (rest := [.int (nI i1)]) ⟨hx, hb, hml, hown, hts⟩ (c_slength l D cA sa k bs H.size hq) (cwV 0 hts gX8_packed_J0_length_8abf5 rfl rfl rfl (by decide +kernel) ⟨(Nat.le_of_ble_eq_true rfl), (Nat.le_of_ble_eq_true rfl)⟩) ⟨Wd.blind, SO.recv hso hS, fun U hU hW => ⟨rfl, Wd.call hPc hDc hK hC hZ hS hFc U hU hW⟩⟩ rfl rfl hl.1 rfl (lv_room (Nat.le_of_ble_eq_true rfl)) dX8_packed_6 ⟨(Nat.le_of_ble_eq_true rfl), (Nat.le_of_ble_eq_true rfl)⟩) hS (fun q _ h => hFc q h) hFc (fun rn3 u t H1 locs ht hvm hw hB hz1 hk1 hS => ?_)
      obtain ⟨hP1, hD1⟩ := hB
      rw [ht] at hP1
      obtain ⟨hP, hD⟩ := PDq.join (w := []) 0 hP hD [] [] rfl rfl (by decide) (by decide) hk1 hFc hP1 hD1 rfl
      generalize H1 = H at hP hS ⊢
      obtain rfl : rn3 = (nI bs.length) := hw
      refine lv_icmp_ge (tgt := 28) hx hb dX8_packed_9 (by decide) (fun c9 => absurd c9 (nI_ge (a := i1) (b := bs.length) (show i1 < bs.length by omega) (by omega))) (fun c4 => ?_)
      refine lv_lload_n hx hb dX8_packed_12 rfl (lv_at hl 1 rfl) ?_
      refine lv_aload_n hx hb dX8_packed_13 rfl (lv_at hl 2 rfl) ?_
      refine lv_iload_n hx hb dX8_packed_14 rfl (lv_at hl 0 rfl) ?_
      obtain ⟨hPc, hDc, hFc⟩ := PDq.cut (wc := []) hP hD hS hA [] (by decide) rfl
      refine va_calli (va_runV (As := [.int (nI i1)]) (rest := [.long x1_1]) ⟨hx, hb, hml, hown, hts⟩ (c_charAt l D cA sa k i1 bs H.size hq (by omega)) (cwV 1 hts gX8_packed_J0_charAt_5068e rfl rfl rfl (by decide +kernel) ⟨(Nat.le_of_ble_eq_true rfl), (Nat.le_of_ble_eq_true rfl)⟩) ⟨Wd.blind, SO.recv hso hS, fun U hU hW => ⟨rfl, Wd.call hPc hDc hK hC hZ hS hFc U hU hW⟩⟩ rfl rfl hl.1 rfl (lv_room (Nat.le_of_ble_eq_true rfl)) dX8_packed_15 ⟨(Nat.le_of_ble_eq_true rfl), (Nat.le_of_ble_eq_true rfl)⟩) hS (fun q _ h => hFc q h) hFc (fun rn5 u t H1 locs ht hvm hw hB hz1 hk1 hS => ?_)
      obtain ⟨hP1, hD1⟩ := hB
      rw [ht] at hP1
      obtain ⟨hP, hD⟩ := PDq.join (w := []) 0 hP hD [] [] rfl rfl (by decide) (by decide) hk1 hFc hP1 hD1 rfl
      generalize H1 = H at hP hS ⊢
      obtain rfl : rn5 = (bs.getD i1 0) := hw
      obtain ⟨hPc, hDc, hFc⟩ := PDq.cut (wc := []) hP hD hS hA [] (by decide) rfl
      refine va_calll (va_runS (As := [.long x1_1, .int (bs.getD i1 0)]) (rest := []) ⟨hx, hb, hml, hown, hts⟩ (x_withLetter l D cA sa x1_1 (bs.getD i1 0) H.size (hB i1 (by omega))) (va_cwS 2 hts gX8_packed_X8_withLetter rfl rfl rfl (by decide +kernel) ⟨(Nat.le_of_ble_eq_true rfl), (Nat.le_of_ble_eq_true rfl)⟩) ⟨Wd.blind, fun U hU hW => ⟨rfl, Wd.call hPc hDc hK hC hZ hS hFc U hU hW⟩⟩ rfl rfl hl.1 rfl (lv_room (Nat.le_of_ble_eq_true rfl)) dX8_packed_18 ⟨(Nat.le_of_ble_eq_true rfl), (Nat.le_of_ble_eq_true rfl)⟩) hS (fun q _ h => hFc q h) hFc (fun rn6 u t H1 locs ht hvm hw hB hz1 hk1 hS => ?_)
      obtain ⟨hP1, hD1⟩ := hB
      rw [ht] at hP1
      obtain ⟨hP, hD⟩ := PDq.join (w := []) 0 hP hD [] [] rfl rfl (by decide) (by decide) hk1 hFc hP1 hD1 rfl
      generalize H1 = H at hP hS ⊢
      obtain rfl : rn6 = (32 * x1_1 + (bs.getD i1 0).toInt64 - 96) := hw
      refine lv_lstore_n (lv' := [(1, .long (32 * x1_1 + (bs.getD i1 0).toInt64 - 96)), (3, .int (nI i1)), (0, .ref (sa k))]) hx hb dX8_packed_21 rfl hl (by decide) rfl (fun ls hl => ?_)
      refine lv_iinc (v := (nI (i1 + 1))) (lv' := [(3, .int (nI (i1 + 1))), (1, .long (32 * x1_1 + (bs.getD i1 0).toInt64 - 96)), (0, .ref (sa k))]) hx hb dX8_packed_22 hl (k := 1) rfl (nI_1 _) (by decide) rfl (fun ls hl => ?_)
      refine lv_goto (tgt := 4) hx hb dX8_packed_25 (by decide) ?_
      obtain ⟨hP9, hD9⟩ := PDq.sub (ws' := []) hP hD [] (by decide) rfl
      exact ih1 (i1 + 1) (32 * x1_1 + (bs.getD i1 0).toInt64 - 96) H _ ls (by omega) (WF.step hv0_1) hP9 hD9 hS (lv_sub hl [0, 1, 2] rfl)
  obtain ⟨hP9, hD9⟩ := PDq.sub (ws' := []) hP hD [] (by decide) rfl
  exact loop1 (bs.length - 0) 0 0 _ _ ls (by omega) rfl hP9 hD9 hS (lv_sub hl [0, 1, 2] rfl)

set_option maxHeartbeats 4000000 in
set_option maxRecDepth 100000 in
/-- markKeywords -/
theorem x_markKeywords (l : Launch) (D : va_G) (cA : Nat → ClassId) (sa : Nat → Nat) (r1 : Nat) (k1 : Nat) (k2 : Nat) (k3 : Nat) (ct : Nat) (fk : Nat → Int32) (ft : Nat → Int32) (fv : Nat → Int64) (sz : Nat) (hct : ct ≤ 701) : Met l yX5_markKeywords wsX5_markKeywords ({ frames := 5, cells := 0, slots := 0, locals := 108 }) (va_Pc [.ref r1] (Wd D cA sa [(oX5 r1 k1 k2 k3 (nI ct)), (k1, .inl (cA 0, 701, .inl fk)), (k2, .inl (cA 0, 701, .inl ft)), (k3, .inl (cA 1, 701, .inr (.inl fv)))] sz)) (va_Qv (fun _ : Unit => True) (fun (_ : Unit) t => ∃ zk : Nat → Int32, Mk 15 ct fk fv zk ∧ Wq D (va_A [(oX5 r1 k1 k2 k3 (nI ct)), (k1, .inl (cA 0, 701, .inl fk)), (k2, .inl (cA 0, 701, .inl ft)), (k3, .inl (cA 1, 701, .inr (.inl fv)))] sz) [(oX5 r1 k1 k2 k3 (nI ct)), (k1, .inl (cA 0, 701, .inl zk)), (k2, .inl (cA 0, 701, .inl ft)), (k3, .inl (cA 1, 701, .inr (.inl fv)))] t) (va_A [(oX5 r1 k1 k2 k3 (nI ct)), (k1, .inl (cA 0, 701, .inl fk)), (k2, .inl (cA 0, 701, .inl ft)), (k3, .inl (cA 1, 701, .inr (.inl fv)))] sz)) 0 0 (va_A [(oX5 r1 k1 k2 k3 (nI ct)), (k1, .inl (cA 0, 701, .inl fk)), (k2, .inl (cA 0, 701, .inl ft)), (k3, .inl (cA 1, 701, .inr (.inl fv)))] sz) := by
  refine Met.ofW (cc := cX5_markKeywords) (maxL := 5) (ret := none) (by decide) rfl ?_
  intro p e s m args below meth c s₁ B hml hv
  obtain ⟨rfl, hsz, hP, hK, hD0, hC, hZ⟩ := hv
  have hx := B.exec
  have hb := B.bytes
  have hr := B.returns
  have hts := atoms_spec (ws := wsX5_markKeywords) B.pre
  have hown : s.vm.findClass RX5 = some m.cls := findClass_of_methodNamed B.named
  have hlocks := B.notSynchronized
  subst hsz
  have hD := hD0.self (sz := s.heap.size)
  generalize hAe : va_A [(oX5 r1 k1 k2 k3 (nI ct)), (k1, .inl (cA 0, 701, .inl fk)), (k2, .inl (cA 0, 701, .inl ft)), (k3, .inl (cA 1, 701, .inr (.inl fv)))] s.heap.size = A at hD hZ ⊢
  have hA : ∀ q : Nat, s.heap.size ≤ q → A q := fun q h => by rw [← hAe]; exact Or.inr h
  have hS : va_S A s.heap s.heap [] := va_S.rf
  have hP : va_P D vwCl [(oX5 r1 k1 k2 k3 (nI ct)), (k1, .inl (cA 0, 701, .inl fk)), (k2, .inl (cA 0, 701, .inl ft)), (k3, .inl (cA 1, 701, .inr (.inl fv)))] s.heap := hP
  have hl := lv_entry ([.ref r1]) (n := 5) (Nat.le_of_ble_eq_true rfl)
  rw [lg_entry_eq]
  generalize (lg_sl ([.ref r1]) ++ List.replicate (5 - (lg_sl ([.ref r1])).length) Slot.unset).toArray = ls at hl ⊢
  have hl : lv_has ls 5 [(0, .ref r1)] := hl
  have inX5 : ∀ w ∈ u_ws RX5 TX5 4, w ∈ wsX5_markKeywords := by decide +kernel
  refine lv_bipush (v := 8) hx hb dX5_markKeywords_0 (by decide) ?_
  refine lv_istore_n (lv' := [(1, .int 8), (0, .ref r1)]) hx hb dX5_markKeywords_2 rfl hl (by decide) rfl (fun ls hl => ?_)
  refine lv_iload_n hx hb dX5_markKeywords_3 rfl (lv_at hl 0 rfl) ?_
  refine lv_bipush (v := 22) hx hb dX5_markKeywords_4 (by decide) ?_
  refine lv_icmp_gt (tgt := 72) hx hb dX5_markKeywords_6 (by decide) (fun c9 => absurd c9 (by decide)) (fun c1 => ?_)
  refine lv_iload_n hx hb dX5_markKeywords_9 rfl (lv_at hl 0 rfl) ?_
  obtain ⟨hPc, hDc, hFc⟩ := PDq.cut (wc := []) hP hD hS hA [] (by decide) rfl
  refine va_callr (va_runS (As := [.int 8]) (rest := []) ⟨hx, hb, hml, hown, hts⟩ (c_spell_8 l D cA sa  s.heap.size) (va_cwS 1 hts gX5_markKeywords_X7_spelling rfl rfl rfl (by decide +kernel) ⟨(Nat.le_of_ble_eq_true rfl), (Nat.le_of_ble_eq_true rfl)⟩) ⟨Wd.blind, fun U hU hW => ⟨rfl, Wd.call hPc hDc hK hC hZ hS hFc U hU hW⟩⟩ rfl rfl hl.1 rfl (lv_room (Nat.le_of_ble_eq_true rfl)) dX5_markKeywords_10 ⟨(Nat.le_of_ble_eq_true rfl), (Nat.le_of_ble_eq_true rfl)⟩) hS (fun q _ h => hFc q h) hFc (fun u ra t H1 locs ht hvm hw hB hz1 hk1 hS => ?_)
  obtain ⟨hra, hP1, hD1⟩ := hB
  obtain rfl := hra.symm
  rw [ht] at hP1
  obtain ⟨hP, hD⟩ := PDq.join (w := [(oX5 r1 k1 k2 k3 (nI ct)), (k1, .inl (cA 0, 701, .inl fk)), (k2, .inl (cA 0, 701, .inl ft)), (k3, .inl (cA 1, 701, .inr (.inl fv)))]) 4 hP hD [] [0, 1, 2, 3] rfl rfl (by decide) (by decide) hk1 hFc hP1 hD1 rfl
  generalize H1 = H at hP hS ⊢
  obtain ⟨hPc, hDc, hFc⟩ := PDq.cut (wc := []) hP hD hS hA [] (by decide) rfl
  refine va_calll (va_runS (As := [.ref (sa 1)]) (rest := []) ⟨hx, hb, hml, hown, hts⟩ (x_packed l D cA sa 1 ([114, 97, 116, 101]) H.size (by decide +kernel) (by decide +kernel)) (va_cwS 1 hts gX5_markKeywords_X8_packed rfl rfl rfl (by decide +kernel) ⟨(Nat.le_of_ble_eq_true rfl), (Nat.le_of_ble_eq_true rfl)⟩) ⟨Wd.blind, fun U hU hW => ⟨rfl, Wd.call hPc hDc hK hC hZ hS hFc U hU hW⟩⟩ rfl rfl hl.1 rfl (lv_room (Nat.le_of_ble_eq_true rfl)) dX5_markKeywords_13 ⟨(Nat.le_of_ble_eq_true rfl), (Nat.le_of_ble_eq_true rfl)⟩) hS (fun q _ h => hFc q h) hFc (fun rn2 u t H1 locs ht hvm hw hB hz1 hk1 hS => ?_)
  obtain ⟨hP1, hD1⟩ := hB
  rw [ht] at hP1
  obtain ⟨hP, hD⟩ := PDq.join (w := [(oX5 r1 k1 k2 k3 (nI ct)), (k1, .inl (cA 0, 701, .inl fk)), (k2, .inl (cA 0, 701, .inl ft)), (k3, .inl (cA 1, 701, .inr (.inl fv)))]) 4 hP hD [] [0, 1, 2, 3] rfl rfl (by decide) (by decide) hk1 hFc hP1 hD1 rfl
  generalize H1 = H at hP hS ⊢
  obtain rfl : rn2 = 591493 := hw.trans (by decide +kernel)
  refine lv_lstore_n (lv' := [(2, .long 591493), (1, .int 8), (0, .ref r1)]) hx hb dX5_markKeywords_16 rfl hl (by decide) rfl (fun ls hl => ?_)
  refine lv_iconst (v := 0) hx hb dX5_markKeywords_17 (by decide) ?_
  refine lv_istore (lv' := [(4, .int 0), (2, .long 591493), (1, .int 8), (0, .ref r1)]) hx hb dX5_markKeywords_18 hl (by decide) rfl (fun ls hl => ?_)
  have loop1 : ∀ (n1 i1 : Nat) (f1_1 : Nat → Int32) (H : Heap) (locs : List Loc) (ls : Array Slot), i1 + n1 = ct → Rdd f1_1 → Mi 0 ct i1 fk fv f1_1 → va_P D vwCl [(oX5 r1 k1 k2 k3 (nI ct)), (k1, .inl (cA 0, 701, .inl f1_1)), (k2, .inl (cA 0, 701, .inl ft)), (k3, .inl (cA 1, 701, .inr (.inl fv)))] H → va_D A [(oX5 r1 k1 k2 k3 (nI ct)), (k1, .inl (cA 0, 701, .inl f1_1)), (k2, .inl (cA 0, 701, .inl ft)), (k3, .inl (cA 1, 701, .inr (.inl fv)))] → va_S A s.heap H locs → lv_has ls 5 [(4, .int (nI i1)), (2, .long 591493), (1, .int 8), (0, .ref r1)] → W p l e (headSpec wsX5_markKeywords ({ frames := 5, cells := 0, slots := 0, locals := 108 } : Room)).room s m ([.ref r1] : List Value).toArray below meth c H locs 0 0 (MQ below (va_Qv (fun _ : Unit => True) (fun (_ : Unit) t => ∃ zk : Nat → Int32, Mk 15 ct fk fv zk ∧ Wq D A [(oX5 r1 k1 k2 k3 (nI ct)), (k1, .inl (cA 0, 701, .inl zk)), (k2, .inl (cA 0, 701, .inl ft)), (k3, .inl (cA 1, 701, .inr (.inl fv)))] t) A) ([.ref r1] : List Value).toArray s 0 0 A) (F0 m 20 ls []) := by
    intro n1
    induction n1 with
    | zero =>
      intro i1 f1_1 H locs ls hi1 hf0_1 hv0_1 hP hD hS hl
      obtain rfl : ct = i1 := by omega
      refine lv_iload hx hb dX5_markKeywords_20 (lv_at hl 0 rfl) ?_
      refine lv_aload_n hx hb dX5_markKeywords_22 rfl (lv_at hl 3 rfl) ?_
      refine va_get (D := D) (ci := 9) (v := .int (nI ct)) (C := RX5) (T := TX5) (N := 4) hx hb hts inX5 hown hK hP 0 rfl rfl 3 (by decide) (hts (.fieldLink RX5 22 "EscrowDesk$Scanner" "count" "I") (by decide +kernel)) (fun _ h9 => h9) rfl dX5_markKeywords_23 ?_
      refine lv_icmp_ge (tgt := 66) hx hb dX5_markKeywords_26 (by decide) (fun c3 => ?_) (fun c9 => absurd (nI_le (a := ct) (b := ct) (show ct ≤ ct by omega) (by omega)) c9)
      refine lv_iinc (v := 9) (lv' := [(1, .int 9), (4, .int (nI ct)), (2, .long 591493), (0, .ref r1)]) hx hb dX5_markKeywords_66 hl (k := 2) rfl (by first | rfl | decide +kernel) (by decide) rfl (fun ls hl => ?_)
      refine lv_goto (tgt := 3) hx hb dX5_markKeywords_69 (by decide) ?_
      refine lv_iload_n hx hb dX5_markKeywords_3 rfl (lv_at hl 0 rfl) ?_
      refine lv_bipush (v := 22) hx hb dX5_markKeywords_4 (by decide) ?_
      refine lv_icmp_gt (tgt := 72) hx hb dX5_markKeywords_6 (by decide) (fun c9 => absurd c9 (by decide)) (fun c4 => ?_)
      refine lv_iload_n hx hb dX5_markKeywords_9 rfl (lv_at hl 0 rfl) ?_
      obtain ⟨hPc, hDc, hFc⟩ := PDq.cut (wc := []) hP hD hS hA [] (by decide) rfl
      refine va_callr (va_runS (As := [.int 9]) (rest := []) ⟨hx, hb, hml, hown, hts⟩ (c_spell_9 l D cA sa  H.size) (va_cwS 1 hts gX5_markKeywords_X7_spelling rfl rfl rfl (by decide +kernel) ⟨(Nat.le_of_ble_eq_true rfl), (Nat.le_of_ble_eq_true rfl)⟩) ⟨Wd.blind, fun U hU hW => ⟨rfl, Wd.call hPc hDc hK hC hZ hS hFc U hU hW⟩⟩ rfl rfl hl.1 rfl (lv_room (Nat.le_of_ble_eq_true rfl)) dX5_markKeywords_10 ⟨(Nat.le_of_ble_eq_true rfl), (Nat.le_of_ble_eq_true rfl)⟩) hS (fun q _ h => hFc q h) hFc (fun u ra t H1 locs ht hvm hw hB hz1 hk1 hS => ?_)
      obtain ⟨hra, hP1, hD1⟩ := hB
      obtain rfl := hra.symm
      rw [ht] at hP1
      obtain ⟨hP, hD⟩ := PDq.join (w := [(oX5 r1 k1 k2 k3 (nI ct)), (k1, .inl (cA 0, 701, .inl f1_1)), (k2, .inl (cA 0, 701, .inl ft)), (k3, .inl (cA 1, 701, .inr (.inl fv)))]) 4 hP hD [] [0, 1, 2, 3] rfl rfl (by decide) (by decide) hk1 hFc hP1 hD1 rfl
      generalize H1 = H at hP hS ⊢
      obtain ⟨hPc, hDc, hFc⟩ := PDq.cut (wc := []) hP hD hS hA [] (by decide) rfl
      refine va_calll (va_runS (As := [.ref (sa 2)]) (rest := []) ⟨hx, hb, hml, hown, hts⟩ (x_packed l D cA sa 2 ([102, 101, 101]) H.size (by decide +kernel) (by decide +kernel)) (va_cwS 1 hts gX5_markKeywords_X8_packed rfl rfl rfl (by decide +kernel) ⟨(Nat.le_of_ble_eq_true rfl), (Nat.le_of_ble_eq_true rfl)⟩) ⟨Wd.blind, fun U hU hW => ⟨rfl, Wd.call hPc hDc hK hC hZ hS hFc U hU hW⟩⟩ rfl rfl hl.1 rfl (lv_room (Nat.le_of_ble_eq_true rfl)) dX5_markKeywords_13 ⟨(Nat.le_of_ble_eq_true rfl), (Nat.le_of_ble_eq_true rfl)⟩) hS (fun q _ h => hFc q h) hFc (fun rn5 u t H1 locs ht hvm hw hB hz1 hk1 hS => ?_)
      obtain ⟨hP1, hD1⟩ := hB
      rw [ht] at hP1
      obtain ⟨hP, hD⟩ := PDq.join (w := [(oX5 r1 k1 k2 k3 (nI ct)), (k1, .inl (cA 0, 701, .inl f1_1)), (k2, .inl (cA 0, 701, .inl ft)), (k3, .inl (cA 1, 701, .inr (.inl fv)))]) 4 hP hD [] [0, 1, 2, 3] rfl rfl (by decide) (by decide) hk1 hFc hP1 hD1 rfl
      generalize H1 = H at hP hS ⊢
      obtain rfl : rn5 = 6309 := hw.trans (by decide +kernel)
      refine lv_lstore_n (lv' := [(2, .long 6309), (1, .int 9), (4, .int (nI ct)), (0, .ref r1)]) hx hb dX5_markKeywords_16 rfl hl (by decide) rfl (fun ls hl => ?_)
      refine lv_iconst (v := 0) hx hb dX5_markKeywords_17 (by decide) ?_
      refine lv_istore (lv' := [(4, .int 0), (2, .long 6309), (1, .int 9), (0, .ref r1)]) hx hb dX5_markKeywords_18 hl (by decide) rfl (fun ls hl => ?_)
      have loop2 : ∀ (n2 i2 : Nat) (f1_2 : Nat → Int32) (H : Heap) (locs : List Loc) (ls : Array Slot), i2 + n2 = ct → Rdd f1_2 → Mi 1 ct i2 fk fv f1_2 → va_P D vwCl [(oX5 r1 k1 k2 k3 (nI ct)), (k1, .inl (cA 0, 701, .inl f1_2)), (k2, .inl (cA 0, 701, .inl ft)), (k3, .inl (cA 1, 701, .inr (.inl fv)))] H → va_D A [(oX5 r1 k1 k2 k3 (nI ct)), (k1, .inl (cA 0, 701, .inl f1_2)), (k2, .inl (cA 0, 701, .inl ft)), (k3, .inl (cA 1, 701, .inr (.inl fv)))] → va_S A s.heap H locs → lv_has ls 5 [(4, .int (nI i2)), (2, .long 6309), (1, .int 9), (0, .ref r1)] → W p l e (headSpec wsX5_markKeywords ({ frames := 5, cells := 0, slots := 0, locals := 108 } : Room)).room s m ([.ref r1] : List Value).toArray below meth c H locs 0 0 (MQ below (va_Qv (fun _ : Unit => True) (fun (_ : Unit) t => ∃ zk : Nat → Int32, Mk 15 ct fk fv zk ∧ Wq D A [(oX5 r1 k1 k2 k3 (nI ct)), (k1, .inl (cA 0, 701, .inl zk)), (k2, .inl (cA 0, 701, .inl ft)), (k3, .inl (cA 1, 701, .inr (.inl fv)))] t) A) ([.ref r1] : List Value).toArray s 0 0 A) (F0 m 20 ls []) := by
        intro n2
        induction n2 with
        | zero =>
          intro i2 f1_2 H locs ls hi2 hf0_2 hv0_2 hP hD hS hl
          obtain rfl : ct = i2 := by omega
          refine lv_iload hx hb dX5_markKeywords_20 (lv_at hl 0 rfl) ?_
          refine lv_aload_n hx hb dX5_markKeywords_22 rfl (lv_at hl 3 rfl) ?_
          refine va_get (D := D) (ci := 9) (v := .int (nI ct)) (C := RX5) (T := TX5) (N := 4) hx hb hts inX5 hown hK hP 0 rfl rfl 3 (by decide) (hts (.fieldLink RX5 22 "EscrowDesk$Scanner" "count" "I") (by decide +kernel)) (fun _ h9 => h9) rfl dX5_markKeywords_23 ?_
          refine lv_icmp_ge (tgt := 66) hx hb dX5_markKeywords_26 (by decide) (fun c6 => ?_) (fun c9 => absurd (nI_le (a := ct) (b := ct) (show ct ≤ ct by omega) (by omega)) c9)
          refine lv_iinc (v := 10) (lv' := [(1, .int 10), (4, .int (nI ct)), (2, .long 6309), (0, .ref r1)]) hx hb dX5_markKeywords_66 hl (k := 2) rfl (by first | rfl | decide +kernel) (by decide) rfl (fun ls hl => ?_)
          refine lv_goto (tgt := 3) hx hb dX5_markKeywords_69 (by decide) ?_
          refine lv_iload_n hx hb dX5_markKeywords_3 rfl (lv_at hl 0 rfl) ?_
          refine lv_bipush (v := 22) hx hb dX5_markKeywords_4 (by decide) ?_
          refine lv_icmp_gt (tgt := 72) hx hb dX5_markKeywords_6 (by decide) (fun c9 => absurd c9 (by decide)) (fun c7 => ?_)
          refine lv_iload_n hx hb dX5_markKeywords_9 rfl (lv_at hl 0 rfl) ?_
          obtain ⟨hPc, hDc, hFc⟩ := PDq.cut (wc := []) hP hD hS hA [] (by decide) rfl
          refine va_callr (va_runS (As := [.int 10]) (rest := []) ⟨hx, hb, hml, hown, hts⟩ (c_spell_10 l D cA sa  H.size) (va_cwS 1 hts gX5_markKeywords_X7_spelling rfl rfl rfl (by decide +kernel) ⟨(Nat.le_of_ble_eq_true rfl), (Nat.le_of_ble_eq_true rfl)⟩) ⟨Wd.blind, fun U hU hW => ⟨rfl, Wd.call hPc hDc hK hC hZ hS hFc U hU hW⟩⟩ rfl rfl hl.1 rfl (lv_room (Nat.le_of_ble_eq_true rfl)) dX5_markKeywords_10 ⟨(Nat.le_of_ble_eq_true rfl), (Nat.le_of_ble_eq_true rfl)⟩) hS (fun q _ h => hFc q h) hFc (fun u ra t H1 locs ht hvm hw hB hz1 hk1 hS => ?_)
          obtain ⟨hra, hP1, hD1⟩ := hB
          obtain rfl := hra.symm
          rw [ht] at hP1
          obtain ⟨hP, hD⟩ := PDq.join (w := [(oX5 r1 k1 k2 k3 (nI ct)), (k1, .inl (cA 0, 701, .inl f1_2)), (k2, .inl (cA 0, 701, .inl ft)), (k3, .inl (cA 1, 701, .inr (.inl fv)))]) 4 hP hD [] [0, 1, 2, 3] rfl rfl (by decide) (by decide) hk1 hFc hP1 hD1 rfl
          generalize H1 = H at hP hS ⊢
          obtain ⟨hPc, hDc, hFc⟩ := PDq.cut (wc := []) hP hD hS hA [] (by decide) rfl
          refine va_calll (va_runS (As := [.ref (sa 3)]) (rest := []) ⟨hx, hb, hml, hown, hts⟩ (x_packed l D cA sa 3 ([103, 114, 97, 99, 101]) H.size (by decide +kernel) (by decide +kernel)) (va_cwS 1 hts gX5_markKeywords_X8_packed rfl rfl rfl (by decide +kernel) ⟨(Nat.le_of_ble_eq_true rfl), (Nat.le_of_ble_eq_true rfl)⟩) ⟨Wd.blind, fun U hU hW => ⟨rfl, Wd.call hPc hDc hK hC hZ hS hFc U hU hW⟩⟩ rfl rfl hl.1 rfl (lv_room (Nat.le_of_ble_eq_true rfl)) dX5_markKeywords_13 ⟨(Nat.le_of_ble_eq_true rfl), (Nat.le_of_ble_eq_true rfl)⟩) hS (fun q _ h => hFc q h) hFc (fun rn8 u t H1 locs ht hvm hw hB hz1 hk1 hS => ?_)
          obtain ⟨hP1, hD1⟩ := hB
          rw [ht] at hP1
          obtain ⟨hP, hD⟩ := PDq.join (w := [(oX5 r1 k1 k2 k3 (nI ct)), (k1, .inl (cA 0, 701, .inl f1_2)), (k2, .inl (cA 0, 701, .inl ft)), (k3, .inl (cA 1, 701, .inr (.inl fv)))]) 4 hP hD [] [0, 1, 2, 3] rfl rfl (by decide) (by decide) hk1 hFc hP1 hD1 rfl
          generalize H1 = H at hP hS ⊢
          obtain rfl : rn8 = 7930981 := hw.trans (by decide +kernel)
          refine lv_lstore_n (lv' := [(2, .long 7930981), (1, .int 10), (4, .int (nI ct)), (0, .ref r1)]) hx hb dX5_markKeywords_16 rfl hl (by decide) rfl (fun ls hl => ?_)
          refine lv_iconst (v := 0) hx hb dX5_markKeywords_17 (by decide) ?_
          refine lv_istore (lv' := [(4, .int 0), (2, .long 7930981), (1, .int 10), (0, .ref r1)]) hx hb dX5_markKeywords_18 hl (by decide) rfl (fun ls hl => ?_)
          have loop3 : ∀ (n3 i3 : Nat) (f1_3 : Nat → Int32) (H : Heap) (locs : List Loc) (ls : Array Slot), i3 + n3 = ct → Rdd f1_3 → Mi 2 ct i3 fk fv f1_3 → va_P D vwCl [(oX5 r1 k1 k2 k3 (nI ct)), (k1, .inl (cA 0, 701, .inl f1_3)), (k2, .inl (cA 0, 701, .inl ft)), (k3, .inl (cA 1, 701, .inr (.inl fv)))] H → va_D A [(oX5 r1 k1 k2 k3 (nI ct)), (k1, .inl (cA 0, 701, .inl f1_3)), (k2, .inl (cA 0, 701, .inl ft)), (k3, .inl (cA 1, 701, .inr (.inl fv)))] → va_S A s.heap H locs → lv_has ls 5 [(4, .int (nI i3)), (2, .long 7930981), (1, .int 10), (0, .ref r1)] → W p l e (headSpec wsX5_markKeywords ({ frames := 5, cells := 0, slots := 0, locals := 108 } : Room)).room s m ([.ref r1] : List Value).toArray below meth c H locs 0 0 (MQ below (va_Qv (fun _ : Unit => True) (fun (_ : Unit) t => ∃ zk : Nat → Int32, Mk 15 ct fk fv zk ∧ Wq D A [(oX5 r1 k1 k2 k3 (nI ct)), (k1, .inl (cA 0, 701, .inl zk)), (k2, .inl (cA 0, 701, .inl ft)), (k3, .inl (cA 1, 701, .inr (.inl fv)))] t) A) ([.ref r1] : List Value).toArray s 0 0 A) (F0 m 20 ls []) := by
            intro n3
            induction n3 with
            | zero =>
              intro i3 f1_3 H locs ls hi3 hf0_3 hv0_3 hP hD hS hl
              obtain rfl : ct = i3 := by omega
              refine lv_iload hx hb dX5_markKeywords_20 (lv_at hl 0 rfl) ?_
              refine lv_aload_n hx hb dX5_markKeywords_22 rfl (lv_at hl 3 rfl) ?_
              refine va_get (D := D) (ci := 9) (v := .int (nI ct)) (C := RX5) (T := TX5) (N := 4) hx hb hts inX5 hown hK hP 0 rfl rfl 3 (by decide) (hts (.fieldLink RX5 22 "EscrowDesk$Scanner" "count" "I") (by decide +kernel)) (fun _ h9 => h9) rfl dX5_markKeywords_23 ?_
              refine lv_icmp_ge (tgt := 66) hx hb dX5_markKeywords_26 (by decide) (fun c9 => ?_) (fun c9 => absurd (nI_le (a := ct) (b := ct) (show ct ≤ ct by omega) (by omega)) c9)
              refine lv_iinc (v := 11) (lv' := [(1, .int 11), (4, .int (nI ct)), (2, .long 7930981), (0, .ref r1)]) hx hb dX5_markKeywords_66 hl (k := 2) rfl (by first | rfl | decide +kernel) (by decide) rfl (fun ls hl => ?_)
              refine lv_goto (tgt := 3) hx hb dX5_markKeywords_69 (by decide) ?_
              refine lv_iload_n hx hb dX5_markKeywords_3 rfl (lv_at hl 0 rfl) ?_
              refine lv_bipush (v := 22) hx hb dX5_markKeywords_4 (by decide) ?_
              refine lv_icmp_gt (tgt := 72) hx hb dX5_markKeywords_6 (by decide) (fun c9 => absurd c9 (by decide)) (fun c10 => ?_)
              refine lv_iload_n hx hb dX5_markKeywords_9 rfl (lv_at hl 0 rfl) ?_
              obtain ⟨hPc, hDc, hFc⟩ := PDq.cut (wc := []) hP hD hS hA [] (by decide) rfl
              refine va_callr (va_runS (As := [.int 11]) (rest := []) ⟨hx, hb, hml, hown, hts⟩ (c_spell_11 l D cA sa  H.size) (va_cwS 1 hts gX5_markKeywords_X7_spelling rfl rfl rfl (by decide +kernel) ⟨(Nat.le_of_ble_eq_true rfl), (Nat.le_of_ble_eq_true rfl)⟩) ⟨Wd.blind, fun U hU hW => ⟨rfl, Wd.call hPc hDc hK hC hZ hS hFc U hU hW⟩⟩ rfl rfl hl.1 rfl (lv_room (Nat.le_of_ble_eq_true rfl)) dX5_markKeywords_10 ⟨(Nat.le_of_ble_eq_true rfl), (Nat.le_of_ble_eq_true rfl)⟩) hS (fun q _ h => hFc q h) hFc (fun u ra t H1 locs ht hvm hw hB hz1 hk1 hS => ?_)
              obtain ⟨hra, hP1, hD1⟩ := hB
              obtain rfl := hra.symm
              rw [ht] at hP1
              obtain ⟨hP, hD⟩ := PDq.join (w := [(oX5 r1 k1 k2 k3 (nI ct)), (k1, .inl (cA 0, 701, .inl f1_3)), (k2, .inl (cA 0, 701, .inl ft)), (k3, .inl (cA 1, 701, .inr (.inl fv)))]) 4 hP hD [] [0, 1, 2, 3] rfl rfl (by decide) (by decide) hk1 hFc hP1 hD1 rfl
              generalize H1 = H at hP hS ⊢
              obtain ⟨hPc, hDc, hFc⟩ := PDq.cut (wc := []) hP hD hS hA [] (by decide) rfl
              refine va_calll (va_runS (As := [.ref (sa 4)]) (rest := []) ⟨hx, hb, hml, hown, hts⟩ (x_packed l D cA sa 4 ([100, 101, 112, 111, 115, 105, 116]) H.size (by decide +kernel) (by decide +kernel)) (va_cwS 1 hts gX5_markKeywords_X8_packed rfl rfl rfl (by decide +kernel) ⟨(Nat.le_of_ble_eq_true rfl), (Nat.le_of_ble_eq_true rfl)⟩) ⟨Wd.blind, fun U hU hW => ⟨rfl, Wd.call hPc hDc hK hC hZ hS hFc U hU hW⟩⟩ rfl rfl hl.1 rfl (lv_room (Nat.le_of_ble_eq_true rfl)) dX5_markKeywords_13 ⟨(Nat.le_of_ble_eq_true rfl), (Nat.le_of_ble_eq_true rfl)⟩) hS (fun q _ h => hFc q h) hFc (fun rn11 u t H1 locs ht hvm hw hB hz1 hk1 hS => ?_)
              obtain ⟨hP1, hD1⟩ := hB
              rw [ht] at hP1
              obtain ⟨hP, hD⟩ := PDq.join (w := [(oX5 r1 k1 k2 k3 (nI ct)), (k1, .inl (cA 0, 701, .inl f1_3)), (k2, .inl (cA 0, 701, .inl ft)), (k3, .inl (cA 1, 701, .inr (.inl fv)))]) 4 hP hD [] [0, 1, 2, 3] rfl rfl (by decide) (by decide) hk1 hFc hP1 hD1 rfl
              generalize H1 = H at hP hS ⊢
              obtain rfl : rn11 = 4480027956 := hw.trans (by decide +kernel)
              refine lv_lstore_n (lv' := [(2, .long 4480027956), (1, .int 11), (4, .int (nI ct)), (0, .ref r1)]) hx hb dX5_markKeywords_16 rfl hl (by decide) rfl (fun ls hl => ?_)
              refine lv_iconst (v := 0) hx hb dX5_markKeywords_17 (by decide) ?_
              refine lv_istore (lv' := [(4, .int 0), (2, .long 4480027956), (1, .int 11), (0, .ref r1)]) hx hb dX5_markKeywords_18 hl (by decide) rfl (fun ls hl => ?_)
              have loop4 : ∀ (n4 i4 : Nat) (f1_4 : Nat → Int32) (H : Heap) (locs : List Loc) (ls : Array Slot), i4 + n4 = ct → Rdd f1_4 → Mi 3 ct i4 fk fv f1_4 → va_P D vwCl [(oX5 r1 k1 k2 k3 (nI ct)), (k1, .inl (cA 0, 701, .inl f1_4)), (k2, .inl (cA 0, 701, .inl ft)), (k3, .inl (cA 1, 701, .inr (.inl fv)))] H → va_D A [(oX5 r1 k1 k2 k3 (nI ct)), (k1, .inl (cA 0, 701, .inl f1_4)), (k2, .inl (cA 0, 701, .inl ft)), (k3, .inl (cA 1, 701, .inr (.inl fv)))] → va_S A s.heap H locs → lv_has ls 5 [(4, .int (nI i4)), (2, .long 4480027956), (1, .int 11), (0, .ref r1)] → W p l e (headSpec wsX5_markKeywords ({ frames := 5, cells := 0, slots := 0, locals := 108 } : Room)).room s m ([.ref r1] : List Value).toArray below meth c H locs 0 0 (MQ below (va_Qv (fun _ : Unit => True) (fun (_ : Unit) t => ∃ zk : Nat → Int32, Mk 15 ct fk fv zk ∧ Wq D A [(oX5 r1 k1 k2 k3 (nI ct)), (k1, .inl (cA 0, 701, .inl zk)), (k2, .inl (cA 0, 701, .inl ft)), (k3, .inl (cA 1, 701, .inr (.inl fv)))] t) A) ([.ref r1] : List Value).toArray s 0 0 A) (F0 m 20 ls []) := by
                intro n4
                induction n4 with
                | zero =>
                  intro i4 f1_4 H locs ls hi4 hf0_4 hv0_4 hP hD hS hl
                  obtain rfl : ct = i4 := by omega
                  refine lv_iload hx hb dX5_markKeywords_20 (lv_at hl 0 rfl) ?_
                  refine lv_aload_n hx hb dX5_markKeywords_22 rfl (lv_at hl 3 rfl) ?_
                  refine va_get (D := D) (ci := 9) (v := .int (nI ct)) (C := RX5) (T := TX5) (N := 4) hx hb hts inX5 hown hK hP 0 rfl rfl 3 (by decide) (hts (.fieldLink RX5 22 "EscrowDesk$Scanner" "count" "I") (by decide +kernel)) (fun _ h9 => h9) rfl dX5_markKeywords_23 ?_
                  refine lv_icmp_ge (tgt := 66) hx hb dX5_markKeywords_26 (by decide) (fun c12 => ?_) (fun c9 => absurd (nI_le (a := ct) (b := ct) (show ct ≤ ct by omega) (by omega)) c9)
                  refine lv_iinc (v := 12) (lv' := [(1, .int 12), (4, .int (nI ct)), (2, .long 4480027956), (0, .ref r1)]) hx hb dX5_markKeywords_66 hl (k := 2) rfl (by first | rfl | decide +kernel) (by decide) rfl (fun ls hl => ?_)
                  refine lv_goto (tgt := 3) hx hb dX5_markKeywords_69 (by decide) ?_
                  refine lv_iload_n hx hb dX5_markKeywords_3 rfl (lv_at hl 0 rfl) ?_
                  refine lv_bipush (v := 22) hx hb dX5_markKeywords_4 (by decide) ?_
                  refine lv_icmp_gt (tgt := 72) hx hb dX5_markKeywords_6 (by decide) (fun c9 => absurd c9 (by decide)) (fun c13 => ?_)
                  refine lv_iload_n hx hb dX5_markKeywords_9 rfl (lv_at hl 0 rfl) ?_
                  obtain ⟨hPc, hDc, hFc⟩ := PDq.cut (wc := []) hP hD hS hA [] (by decide) rfl
                  refine va_callr (va_runS (As := [.int 12]) (rest := []) ⟨hx, hb, hml, hown, hts⟩ (c_spell_12 l D cA sa  H.size) (va_cwS 1 hts gX5_markKeywords_X7_spelling rfl rfl rfl (by decide +kernel) ⟨(Nat.le_of_ble_eq_true rfl), (Nat.le_of_ble_eq_true rfl)⟩) ⟨Wd.blind, fun U hU hW => ⟨rfl, Wd.call hPc hDc hK hC hZ hS hFc U hU hW⟩⟩ rfl rfl hl.1 rfl (lv_room (Nat.le_of_ble_eq_true rfl)) dX5_markKeywords_10 ⟨(Nat.le_of_ble_eq_true rfl), (Nat.le_of_ble_eq_true rfl)⟩) hS (fun q _ h => hFc q h) hFc (fun u ra t H1 locs ht hvm hw hB hz1 hk1 hS => ?_)
                  obtain ⟨hra, hP1, hD1⟩ := hB
                  obtain rfl := hra.symm
                  rw [ht] at hP1
                  obtain ⟨hP, hD⟩ := PDq.join (w := [(oX5 r1 k1 k2 k3 (nI ct)), (k1, .inl (cA 0, 701, .inl f1_4)), (k2, .inl (cA 0, 701, .inl ft)), (k3, .inl (cA 1, 701, .inr (.inl fv)))]) 4 hP hD [] [0, 1, 2, 3] rfl rfl (by decide) (by decide) hk1 hFc hP1 hD1 rfl
                  generalize H1 = H at hP hS ⊢
                  obtain ⟨hPc, hDc, hFc⟩ := PDq.cut (wc := []) hP hD hS hA [] (by decide) rfl
                  refine va_calll (va_runS (As := [.ref (sa 5)]) (rest := []) ⟨hx, hb, hml, hown, hts⟩ (x_packed l D cA sa 5 ([109, 105, 108, 101, 115, 116, 111, 110, 101]) H.size (by decide +kernel) (by decide +kernel)) (va_cwS 1 hts gX5_markKeywords_X8_packed rfl rfl rfl (by decide +kernel) ⟨(Nat.le_of_ble_eq_true rfl), (Nat.le_of_ble_eq_true rfl)⟩) ⟨Wd.blind, fun U hU hW => ⟨rfl, Wd.call hPc hDc hK hC hZ hS hFc U hU hW⟩⟩ rfl rfl hl.1 rfl (lv_room (Nat.le_of_ble_eq_true rfl)) dX5_markKeywords_13 ⟨(Nat.le_of_ble_eq_true rfl), (Nat.le_of_ble_eq_true rfl)⟩) hS (fun q _ h => hFc q h) hFc (fun rn14 u t H1 locs ht hvm hw hB hz1 hk1 hS => ?_)
                  obtain ⟨hP1, hD1⟩ := hB
                  rw [ht] at hP1
                  obtain ⟨hP, hD⟩ := PDq.join (w := [(oX5 r1 k1 k2 k3 (nI ct)), (k1, .inl (cA 0, 701, .inl f1_4)), (k2, .inl (cA 0, 701, .inl ft)), (k3, .inl (cA 1, 701, .inr (.inl fv)))]) 4 hP hD [] [0, 1, 2, 3] rfl rfl (by decide) (by decide) hk1 hFc hP1 hD1 rfl
                  generalize H1 = H at hP hS ⊢
                  obtain rfl : rn14 = 14615962074565 := hw.trans (by decide +kernel)
                  refine lv_lstore_n (lv' := [(2, .long 14615962074565), (1, .int 12), (4, .int (nI ct)), (0, .ref r1)]) hx hb dX5_markKeywords_16 rfl hl (by decide) rfl (fun ls hl => ?_)
                  refine lv_iconst (v := 0) hx hb dX5_markKeywords_17 (by decide) ?_
                  refine lv_istore (lv' := [(4, .int 0), (2, .long 14615962074565), (1, .int 12), (0, .ref r1)]) hx hb dX5_markKeywords_18 hl (by decide) rfl (fun ls hl => ?_)
                  have loop5 : ∀ (n5 i5 : Nat) (f1_5 : Nat → Int32) (H : Heap) (locs : List Loc) (ls : Array Slot), i5 + n5 = ct → Rdd f1_5 → Mi 4 ct i5 fk fv f1_5 → va_P D vwCl [(oX5 r1 k1 k2 k3 (nI ct)), (k1, .inl (cA 0, 701, .inl f1_5)), (k2, .inl (cA 0, 701, .inl ft)), (k3, .inl (cA 1, 701, .inr (.inl fv)))] H → va_D A [(oX5 r1 k1 k2 k3 (nI ct)), (k1, .inl (cA 0, 701, .inl f1_5)), (k2, .inl (cA 0, 701, .inl ft)), (k3, .inl (cA 1, 701, .inr (.inl fv)))] → va_S A s.heap H locs → lv_has ls 5 [(4, .int (nI i5)), (2, .long 14615962074565), (1, .int 12), (0, .ref r1)] → W p l e (headSpec wsX5_markKeywords ({ frames := 5, cells := 0, slots := 0, locals := 108 } : Room)).room s m ([.ref r1] : List Value).toArray below meth c H locs 0 0 (MQ below (va_Qv (fun _ : Unit => True) (fun (_ : Unit) t => ∃ zk : Nat → Int32, Mk 15 ct fk fv zk ∧ Wq D A [(oX5 r1 k1 k2 k3 (nI ct)), (k1, .inl (cA 0, 701, .inl zk)), (k2, .inl (cA 0, 701, .inl ft)), (k3, .inl (cA 1, 701, .inr (.inl fv)))] t) A) ([.ref r1] : List Value).toArray s 0 0 A) (F0 m 20 ls []) := by
                    intro n5
                    induction n5 with
                    | zero =>
                      intro i5 f1_5 H locs ls hi5 hf0_5 hv0_5 hP hD hS hl
                      obtain rfl : ct = i5 := by omega
                      refine lv_iload hx hb dX5_markKeywords_20 (lv_at hl 0 rfl) ?_
                      refine lv_aload_n hx hb dX5_markKeywords_22 rfl (lv_at hl 3 rfl) ?_
                      refine va_get (D := D) (ci := 9) (v := .int (nI ct)) (C := RX5) (T := TX5) (N := 4) hx hb hts inX5 hown hK hP 0 rfl rfl 3 (by decide) (hts (.fieldLink RX5 22 "EscrowDesk$Scanner" "count" "I") (by decide +kernel)) (fun _ h9 => h9) rfl dX5_markKeywords_23 ?_
                      refine lv_icmp_ge (tgt := 66) hx hb dX5_markKeywords_26 (by decide) (fun c15 => ?_) (fun c9 => absurd (nI_le (a := ct) (b := ct) (show ct ≤ ct by omega) (by omega)) c9)
                      refine lv_iinc (v := 13) (lv' := [(1, .int 13), (4, .int (nI ct)), (2, .long 14615962074565), (0, .ref r1)]) hx hb dX5_markKeywords_66 hl (k := 2) rfl (by first | rfl | decide +kernel) (by decide) rfl (fun ls hl => ?_)
                      refine lv_goto (tgt := 3) hx hb dX5_markKeywords_69 (by decide) ?_
                      refine lv_iload_n hx hb dX5_markKeywords_3 rfl (lv_at hl 0 rfl) ?_
                      refine lv_bipush (v := 22) hx hb dX5_markKeywords_4 (by decide) ?_
                      refine lv_icmp_gt (tgt := 72) hx hb dX5_markKeywords_6 (by decide) (fun c9 => absurd c9 (by decide)) (fun c16 => ?_)
                      refine lv_iload_n hx hb dX5_markKeywords_9 rfl (lv_at hl 0 rfl) ?_
                      obtain ⟨hPc, hDc, hFc⟩ := PDq.cut (wc := []) hP hD hS hA [] (by decide) rfl
                      refine va_callr (va_runS (As := [.int 13]) (rest := []) ⟨hx, hb, hml, hown, hts⟩ (c_spell_13 l D cA sa  H.size) (va_cwS 1 hts gX5_markKeywords_X7_spelling rfl rfl rfl (by decide +kernel) ⟨(Nat.le_of_ble_eq_true rfl), (Nat.le_of_ble_eq_true rfl)⟩) ⟨Wd.blind, fun U hU hW => ⟨rfl, Wd.call hPc hDc hK hC hZ hS hFc U hU hW⟩⟩ rfl rfl hl.1 rfl (lv_room (Nat.le_of_ble_eq_true rfl)) dX5_markKeywords_10 ⟨(Nat.le_of_ble_eq_true rfl), (Nat.le_of_ble_eq_true rfl)⟩) hS (fun q _ h => hFc q h) hFc (fun u ra t H1 locs ht hvm hw hB hz1 hk1 hS => ?_)
                      obtain ⟨hra, hP1, hD1⟩ := hB
                      obtain rfl := hra.symm
                      rw [ht] at hP1
                      obtain ⟨hP, hD⟩ := PDq.join (w := [(oX5 r1 k1 k2 k3 (nI ct)), (k1, .inl (cA 0, 701, .inl f1_5)), (k2, .inl (cA 0, 701, .inl ft)), (k3, .inl (cA 1, 701, .inr (.inl fv)))]) 4 hP hD [] [0, 1, 2, 3] rfl rfl (by decide) (by decide) hk1 hFc hP1 hD1 rfl
                      generalize H1 = H at hP hS ⊢
                      obtain ⟨hPc, hDc, hFc⟩ := PDq.cut (wc := []) hP hD hS hA [] (by decide) rfl
                      refine va_calll (va_runS (As := [.ref (sa 6)]) (rest := []) ⟨hx, hb, hml, hown, hts⟩ (x_packed l D cA sa 6 ([119, 104, 101, 110]) H.size (by decide +kernel) (by decide +kernel)) (va_cwS 1 hts gX5_markKeywords_X8_packed rfl rfl rfl (by decide +kernel) ⟨(Nat.le_of_ble_eq_true rfl), (Nat.le_of_ble_eq_true rfl)⟩) ⟨Wd.blind, fun U hU hW => ⟨rfl, Wd.call hPc hDc hK hC hZ hS hFc U hU hW⟩⟩ rfl rfl hl.1 rfl (lv_room (Nat.le_of_ble_eq_true rfl)) dX5_markKeywords_13 ⟨(Nat.le_of_ble_eq_true rfl), (Nat.le_of_ble_eq_true rfl)⟩) hS (fun q _ h => hFc q h) hFc (fun rn17 u t H1 locs ht hvm hw hB hz1 hk1 hS => ?_)
                      obtain ⟨hP1, hD1⟩ := hB
                      rw [ht] at hP1
                      obtain ⟨hP, hD⟩ := PDq.join (w := [(oX5 r1 k1 k2 k3 (nI ct)), (k1, .inl (cA 0, 701, .inl f1_5)), (k2, .inl (cA 0, 701, .inl ft)), (k3, .inl (cA 1, 701, .inr (.inl fv)))]) 4 hP hD [] [0, 1, 2, 3] rfl rfl (by decide) (by decide) hk1 hFc hP1 hD1 rfl
                      generalize H1 = H at hP hS ⊢
                      obtain rfl : rn17 = 762030 := hw.trans (by decide +kernel)
                      refine lv_lstore_n (lv' := [(2, .long 762030), (1, .int 13), (4, .int (nI ct)), (0, .ref r1)]) hx hb dX5_markKeywords_16 rfl hl (by decide) rfl (fun ls hl => ?_)
                      refine lv_iconst (v := 0) hx hb dX5_markKeywords_17 (by decide) ?_
                      refine lv_istore (lv' := [(4, .int 0), (2, .long 762030), (1, .int 13), (0, .ref r1)]) hx hb dX5_markKeywords_18 hl (by decide) rfl (fun ls hl => ?_)
                      have loop6 : ∀ (n6 i6 : Nat) (f1_6 : Nat → Int32) (H : Heap) (locs : List Loc) (ls : Array Slot), i6 + n6 = ct → Rdd f1_6 → Mi 5 ct i6 fk fv f1_6 → va_P D vwCl [(oX5 r1 k1 k2 k3 (nI ct)), (k1, .inl (cA 0, 701, .inl f1_6)), (k2, .inl (cA 0, 701, .inl ft)), (k3, .inl (cA 1, 701, .inr (.inl fv)))] H → va_D A [(oX5 r1 k1 k2 k3 (nI ct)), (k1, .inl (cA 0, 701, .inl f1_6)), (k2, .inl (cA 0, 701, .inl ft)), (k3, .inl (cA 1, 701, .inr (.inl fv)))] → va_S A s.heap H locs → lv_has ls 5 [(4, .int (nI i6)), (2, .long 762030), (1, .int 13), (0, .ref r1)] → W p l e (headSpec wsX5_markKeywords ({ frames := 5, cells := 0, slots := 0, locals := 108 } : Room)).room s m ([.ref r1] : List Value).toArray below meth c H locs 0 0 (MQ below (va_Qv (fun _ : Unit => True) (fun (_ : Unit) t => ∃ zk : Nat → Int32, Mk 15 ct fk fv zk ∧ Wq D A [(oX5 r1 k1 k2 k3 (nI ct)), (k1, .inl (cA 0, 701, .inl zk)), (k2, .inl (cA 0, 701, .inl ft)), (k3, .inl (cA 1, 701, .inr (.inl fv)))] t) A) ([.ref r1] : List Value).toArray s 0 0 A) (F0 m 20 ls []) := by
                        intro n6
                        induction n6 with
                        | zero =>
                          intro i6 f1_6 H locs ls hi6 hf0_6 hv0_6 hP hD hS hl
                          obtain rfl : ct = i6 := by omega
                          refine lv_iload hx hb dX5_markKeywords_20 (lv_at hl 0 rfl) ?_
                          refine lv_aload_n hx hb dX5_markKeywords_22 rfl (lv_at hl 3 rfl) ?_
                          refine va_get (D := D) (ci := 9) (v := .int (nI ct)) (C := RX5) (T := TX5) (N := 4) hx hb hts inX5 hown hK hP 0 rfl rfl 3 (by decide) (hts (.fieldLink RX5 22 "EscrowDesk$Scanner" "count" "I") (by decide +kernel)) (fun _ h9 => h9) rfl dX5_markKeywords_23 ?_
                          refine lv_icmp_ge (tgt := 66) hx hb dX5_markKeywords_26 (by decide) (fun c18 => ?_) (fun c9 => absurd (nI_le (a := ct) (b := ct) (show ct ≤ ct by omega) (by omega)) c9)
                          refine lv_iinc (v := 14) (lv' := [(1, .int 14), (4, .int (nI ct)), (2, .long 762030), (0, .ref r1)]) hx hb dX5_markKeywords_66 hl (k := 2) rfl (by first | rfl | decide +kernel) (by decide) rfl (fun ls hl => ?_)
                          refine lv_goto (tgt := 3) hx hb dX5_markKeywords_69 (by decide) ?_
                          refine lv_iload_n hx hb dX5_markKeywords_3 rfl (lv_at hl 0 rfl) ?_
                          refine lv_bipush (v := 22) hx hb dX5_markKeywords_4 (by decide) ?_
                          refine lv_icmp_gt (tgt := 72) hx hb dX5_markKeywords_6 (by decide) (fun c9 => absurd c9 (by decide)) (fun c19 => ?_)
                          refine lv_iload_n hx hb dX5_markKeywords_9 rfl (lv_at hl 0 rfl) ?_
                          obtain ⟨hPc, hDc, hFc⟩ := PDq.cut (wc := []) hP hD hS hA [] (by decide) rfl
                          refine va_callr (va_runS (As := [.int 14]) (rest := []) ⟨hx, hb, hml, hown, hts⟩ (c_spell_14 l D cA sa  H.size) (va_cwS 1 hts gX5_markKeywords_X7_spelling rfl rfl rfl (by decide +kernel) ⟨(Nat.le_of_ble_eq_true rfl), (Nat.le_of_ble_eq_true rfl)⟩) ⟨Wd.blind, fun U hU hW => ⟨rfl, Wd.call hPc hDc hK hC hZ hS hFc U hU hW⟩⟩ rfl rfl hl.1 rfl (lv_room (Nat.le_of_ble_eq_true rfl)) dX5_markKeywords_10 ⟨(Nat.le_of_ble_eq_true rfl), (Nat.le_of_ble_eq_true rfl)⟩) hS (fun q _ h => hFc q h) hFc (fun u ra t H1 locs ht hvm hw hB hz1 hk1 hS => ?_)
                          obtain ⟨hra, hP1, hD1⟩ := hB
                          obtain rfl := hra.symm
                          rw [ht] at hP1
                          obtain ⟨hP, hD⟩ := PDq.join (w := [(oX5 r1 k1 k2 k3 (nI ct)), (k1, .inl (cA 0, 701, .inl f1_6)), (k2, .inl (cA 0, 701, .inl ft)), (k3, .inl (cA 1, 701, .inr (.inl fv)))]) 4 hP hD [] [0, 1, 2, 3] rfl rfl (by decide) (by decide) hk1 hFc hP1 hD1 rfl
                          generalize H1 = H at hP hS ⊢
                          obtain ⟨hPc, hDc, hFc⟩ := PDq.cut (wc := []) hP hD hS hA [] (by decide) rfl
                          refine va_calll (va_runS (As := [.ref (sa 7)]) (rest := []) ⟨hx, hb, hml, hown, hts⟩ (x_packed l D cA sa 7 ([111, 114]) H.size (by decide +kernel) (by decide +kernel)) (va_cwS 1 hts gX5_markKeywords_X8_packed rfl rfl rfl (by decide +kernel) ⟨(Nat.le_of_ble_eq_true rfl), (Nat.le_of_ble_eq_true rfl)⟩) ⟨Wd.blind, fun U hU hW => ⟨rfl, Wd.call hPc hDc hK hC hZ hS hFc U hU hW⟩⟩ rfl rfl hl.1 rfl (lv_room (Nat.le_of_ble_eq_true rfl)) dX5_markKeywords_13 ⟨(Nat.le_of_ble_eq_true rfl), (Nat.le_of_ble_eq_true rfl)⟩) hS (fun q _ h => hFc q h) hFc (fun rn20 u t H1 locs ht hvm hw hB hz1 hk1 hS => ?_)
                          obtain ⟨hP1, hD1⟩ := hB
                          rw [ht] at hP1
                          obtain ⟨hP, hD⟩ := PDq.join (w := [(oX5 r1 k1 k2 k3 (nI ct)), (k1, .inl (cA 0, 701, .inl f1_6)), (k2, .inl (cA 0, 701, .inl ft)), (k3, .inl (cA 1, 701, .inr (.inl fv)))]) 4 hP hD [] [0, 1, 2, 3] rfl rfl (by decide) (by decide) hk1 hFc hP1 hD1 rfl
                          generalize H1 = H at hP hS ⊢
                          obtain rfl : rn20 = 498 := hw.trans (by decide +kernel)
                          refine lv_lstore_n (lv' := [(2, .long 498), (1, .int 14), (4, .int (nI ct)), (0, .ref r1)]) hx hb dX5_markKeywords_16 rfl hl (by decide) rfl (fun ls hl => ?_)
                          refine lv_iconst (v := 0) hx hb dX5_markKeywords_17 (by decide) ?_
                          refine lv_istore (lv' := [(4, .int 0), (2, .long 498), (1, .int 14), (0, .ref r1)]) hx hb dX5_markKeywords_18 hl (by decide) rfl (fun ls hl => ?_)
                          have loop7 : ∀ (n7 i7 : Nat) (f1_7 : Nat → Int32) (H : Heap) (locs : List Loc) (ls : Array Slot), i7 + n7 = ct → Rdd f1_7 → Mi 6 ct i7 fk fv f1_7 → va_P D vwCl [(oX5 r1 k1 k2 k3 (nI ct)), (k1, .inl (cA 0, 701, .inl f1_7)), (k2, .inl (cA 0, 701, .inl ft)), (k3, .inl (cA 1, 701, .inr (.inl fv)))] H → va_D A [(oX5 r1 k1 k2 k3 (nI ct)), (k1, .inl (cA 0, 701, .inl f1_7)), (k2, .inl (cA 0, 701, .inl ft)), (k3, .inl (cA 1, 701, .inr (.inl fv)))] → va_S A s.heap H locs → lv_has ls 5 [(4, .int (nI i7)), (2, .long 498), (1, .int 14), (0, .ref r1)] → W p l e (headSpec wsX5_markKeywords ({ frames := 5, cells := 0, slots := 0, locals := 108 } : Room)).room s m ([.ref r1] : List Value).toArray below meth c H locs 0 0 (MQ below (va_Qv (fun _ : Unit => True) (fun (_ : Unit) t => ∃ zk : Nat → Int32, Mk 15 ct fk fv zk ∧ Wq D A [(oX5 r1 k1 k2 k3 (nI ct)), (k1, .inl (cA 0, 701, .inl zk)), (k2, .inl (cA 0, 701, .inl ft)), (k3, .inl (cA 1, 701, .inr (.inl fv)))] t) A) ([.ref r1] : List Value).toArray s 0 0 A) (F0 m 20 ls []) := by
                            intro n7
                            induction n7 with
                            | zero =>
                              intro i7 f1_7 H locs ls hi7 hf0_7 hv0_7 hP hD hS hl
                              obtain rfl : ct = i7 := by omega
                              refine lv_iload hx hb dX5_markKeywords_20 (lv_at hl 0 rfl) ?_
                              refine lv_aload_n hx hb dX5_markKeywords_22 rfl (lv_at hl 3 rfl) ?_
                              refine va_get (D := D) (ci := 9) (v := .int (nI ct)) (C := RX5) (T := TX5) (N := 4) hx hb hts inX5 hown hK hP 0 rfl rfl 3 (by decide) (hts (.fieldLink RX5 22 "EscrowDesk$Scanner" "count" "I") (by decide +kernel)) (fun _ h9 => h9) rfl dX5_markKeywords_23 ?_
                              refine lv_icmp_ge (tgt := 66) hx hb dX5_markKeywords_26 (by decide) (fun c21 => ?_) (fun c9 => absurd (nI_le (a := ct) (b := ct) (show ct ≤ ct by omega) (by omega)) c9)
                              refine lv_iinc (v := 15) (lv' := [(1, .int 15), (4, .int (nI ct)), (2, .long 498), (0, .ref r1)]) hx hb dX5_markKeywords_66 hl (k := 2) rfl (by first | rfl | decide +kernel) (by decide) rfl (fun ls hl => ?_)
                              refine lv_goto (tgt := 3) hx hb dX5_markKeywords_69 (by decide) ?_
                              refine lv_iload_n hx hb dX5_markKeywords_3 rfl (lv_at hl 0 rfl) ?_
                              refine lv_bipush (v := 22) hx hb dX5_markKeywords_4 (by decide) ?_
                              refine lv_icmp_gt (tgt := 72) hx hb dX5_markKeywords_6 (by decide) (fun c9 => absurd c9 (by decide)) (fun c22 => ?_)
                              refine lv_iload_n hx hb dX5_markKeywords_9 rfl (lv_at hl 0 rfl) ?_
                              obtain ⟨hPc, hDc, hFc⟩ := PDq.cut (wc := []) hP hD hS hA [] (by decide) rfl
                              refine va_callr (va_runS (As := [.int 15]) (rest := []) ⟨hx, hb, hml, hown, hts⟩ (c_spell_15 l D cA sa  H.size) (va_cwS 1 hts gX5_markKeywords_X7_spelling rfl rfl rfl (by decide +kernel) ⟨(Nat.le_of_ble_eq_true rfl), (Nat.le_of_ble_eq_true rfl)⟩) ⟨Wd.blind, fun U hU hW => ⟨rfl, Wd.call hPc hDc hK hC hZ hS hFc U hU hW⟩⟩ rfl rfl hl.1 rfl (lv_room (Nat.le_of_ble_eq_true rfl)) dX5_markKeywords_10 ⟨(Nat.le_of_ble_eq_true rfl), (Nat.le_of_ble_eq_true rfl)⟩) hS (fun q _ h => hFc q h) hFc (fun u ra t H1 locs ht hvm hw hB hz1 hk1 hS => ?_)
                              obtain ⟨hra, hP1, hD1⟩ := hB
                              obtain rfl := hra.symm
                              rw [ht] at hP1
                              obtain ⟨hP, hD⟩ := PDq.join (w := [(oX5 r1 k1 k2 k3 (nI ct)), (k1, .inl (cA 0, 701, .inl f1_7)), (k2, .inl (cA 0, 701, .inl ft)), (k3, .inl (cA 1, 701, .inr (.inl fv)))]) 4 hP hD [] [0, 1, 2, 3] rfl rfl (by decide) (by decide) hk1 hFc hP1 hD1 rfl
                              generalize H1 = H at hP hS ⊢
                              obtain ⟨hPc, hDc, hFc⟩ := PDq.cut (wc := []) hP hD hS hA [] (by decide) rfl
                              refine va_calll (va_runS (As := [.ref (sa 8)]) (rest := []) ⟨hx, hb, hml, hown, hts⟩ (x_packed l D cA sa 8 ([97, 110, 100]) H.size (by decide +kernel) (by decide +kernel)) (va_cwS 1 hts gX5_markKeywords_X8_packed rfl rfl rfl (by decide +kernel) ⟨(Nat.le_of_ble_eq_true rfl), (Nat.le_of_ble_eq_true rfl)⟩) ⟨Wd.blind, fun U hU hW => ⟨rfl, Wd.call hPc hDc hK hC hZ hS hFc U hU hW⟩⟩ rfl rfl hl.1 rfl (lv_room (Nat.le_of_ble_eq_true rfl)) dX5_markKeywords_13 ⟨(Nat.le_of_ble_eq_true rfl), (Nat.le_of_ble_eq_true rfl)⟩) hS (fun q _ h => hFc q h) hFc (fun rn23 u t H1 locs ht hvm hw hB hz1 hk1 hS => ?_)
                              obtain ⟨hP1, hD1⟩ := hB
                              rw [ht] at hP1
                              obtain ⟨hP, hD⟩ := PDq.join (w := [(oX5 r1 k1 k2 k3 (nI ct)), (k1, .inl (cA 0, 701, .inl f1_7)), (k2, .inl (cA 0, 701, .inl ft)), (k3, .inl (cA 1, 701, .inr (.inl fv)))]) 4 hP hD [] [0, 1, 2, 3] rfl rfl (by decide) (by decide) hk1 hFc hP1 hD1 rfl
                              generalize H1 = H at hP hS ⊢
                              obtain rfl : rn23 = 1476 := hw.trans (by decide +kernel)
                              refine lv_lstore_n (lv' := [(2, .long 1476), (1, .int 15), (4, .int (nI ct)), (0, .ref r1)]) hx hb dX5_markKeywords_16 rfl hl (by decide) rfl (fun ls hl => ?_)
                              refine lv_iconst (v := 0) hx hb dX5_markKeywords_17 (by decide) ?_
                              refine lv_istore (lv' := [(4, .int 0), (2, .long 1476), (1, .int 15), (0, .ref r1)]) hx hb dX5_markKeywords_18 hl (by decide) rfl (fun ls hl => ?_)
                              have loop8 : ∀ (n8 i8 : Nat) (f1_8 : Nat → Int32) (H : Heap) (locs : List Loc) (ls : Array Slot), i8 + n8 = ct → Rdd f1_8 → Mi 7 ct i8 fk fv f1_8 → va_P D vwCl [(oX5 r1 k1 k2 k3 (nI ct)), (k1, .inl (cA 0, 701, .inl f1_8)), (k2, .inl (cA 0, 701, .inl ft)), (k3, .inl (cA 1, 701, .inr (.inl fv)))] H → va_D A [(oX5 r1 k1 k2 k3 (nI ct)), (k1, .inl (cA 0, 701, .inl f1_8)), (k2, .inl (cA 0, 701, .inl ft)), (k3, .inl (cA 1, 701, .inr (.inl fv)))] → va_S A s.heap H locs → lv_has ls 5 [(4, .int (nI i8)), (2, .long 1476), (1, .int 15), (0, .ref r1)] → W p l e (headSpec wsX5_markKeywords ({ frames := 5, cells := 0, slots := 0, locals := 108 } : Room)).room s m ([.ref r1] : List Value).toArray below meth c H locs 0 0 (MQ below (va_Qv (fun _ : Unit => True) (fun (_ : Unit) t => ∃ zk : Nat → Int32, Mk 15 ct fk fv zk ∧ Wq D A [(oX5 r1 k1 k2 k3 (nI ct)), (k1, .inl (cA 0, 701, .inl zk)), (k2, .inl (cA 0, 701, .inl ft)), (k3, .inl (cA 1, 701, .inr (.inl fv)))] t) A) ([.ref r1] : List Value).toArray s 0 0 A) (F0 m 20 ls []) := by
                                intro n8
                                induction n8 with
                                | zero =>
                                  intro i8 f1_8 H locs ls hi8 hf0_8 hv0_8 hP hD hS hl
                                  obtain rfl : ct = i8 := by omega
                                  refine lv_iload hx hb dX5_markKeywords_20 (lv_at hl 0 rfl) ?_
                                  refine lv_aload_n hx hb dX5_markKeywords_22 rfl (lv_at hl 3 rfl) ?_
                                  refine va_get (D := D) (ci := 9) (v := .int (nI ct)) (C := RX5) (T := TX5) (N := 4) hx hb hts inX5 hown hK hP 0 rfl rfl 3 (by decide) (hts (.fieldLink RX5 22 "EscrowDesk$Scanner" "count" "I") (by decide +kernel)) (fun _ h9 => h9) rfl dX5_markKeywords_23 ?_
                                  refine lv_icmp_ge (tgt := 66) hx hb dX5_markKeywords_26 (by decide) (fun c24 => ?_) (fun c9 => absurd (nI_le (a := ct) (b := ct) (show ct ≤ ct by omega) (by omega)) c9)
                                  refine lv_iinc (v := 16) (lv' := [(1, .int 16), (4, .int (nI ct)), (2, .long 1476), (0, .ref r1)]) hx hb dX5_markKeywords_66 hl (k := 2) rfl (by first | rfl | decide +kernel) (by decide) rfl (fun ls hl => ?_)
                                  refine lv_goto (tgt := 3) hx hb dX5_markKeywords_69 (by decide) ?_
                                  refine lv_iload_n hx hb dX5_markKeywords_3 rfl (lv_at hl 0 rfl) ?_
                                  refine lv_bipush (v := 22) hx hb dX5_markKeywords_4 (by decide) ?_
                                  refine lv_icmp_gt (tgt := 72) hx hb dX5_markKeywords_6 (by decide) (fun c9 => absurd c9 (by decide)) (fun c25 => ?_)
                                  refine lv_iload_n hx hb dX5_markKeywords_9 rfl (lv_at hl 0 rfl) ?_
                                  obtain ⟨hPc, hDc, hFc⟩ := PDq.cut (wc := []) hP hD hS hA [] (by decide) rfl
                                  refine va_callr (va_runS (As := [.int 16]) (rest := []) ⟨hx, hb, hml, hown, hts⟩ (c_spell_16 l D cA sa  H.size) (va_cwS 1 hts gX5_markKeywords_X7_spelling rfl rfl rfl (by decide +kernel) ⟨(Nat.le_of_ble_eq_true rfl), (Nat.le_of_ble_eq_true rfl)⟩) ⟨Wd.blind, fun U hU hW => ⟨rfl, Wd.call hPc hDc hK hC hZ hS hFc U hU hW⟩⟩ rfl rfl hl.1 rfl (lv_room (Nat.le_of_ble_eq_true rfl)) dX5_markKeywords_10 ⟨(Nat.le_of_ble_eq_true rfl), (Nat.le_of_ble_eq_true rfl)⟩) hS (fun q _ h => hFc q h) hFc (fun u ra t H1 locs ht hvm hw hB hz1 hk1 hS => ?_)
                                  obtain ⟨hra, hP1, hD1⟩ := hB
                                  obtain rfl := hra.symm
                                  rw [ht] at hP1
                                  obtain ⟨hP, hD⟩ := PDq.join (w := [(oX5 r1 k1 k2 k3 (nI ct)), (k1, .inl (cA 0, 701, .inl f1_8)), (k2, .inl (cA 0, 701, .inl ft)), (k3, .inl (cA 1, 701, .inr (.inl fv)))]) 4 hP hD [] [0, 1, 2, 3] rfl rfl (by decide) (by decide) hk1 hFc hP1 hD1 rfl
                                  generalize H1 = H at hP hS ⊢
                                  obtain ⟨hPc, hDc, hFc⟩ := PDq.cut (wc := []) hP hD hS hA [] (by decide) rfl
                                  refine va_calll (va_runS (As := [.ref (sa 9)]) (rest := []) ⟨hx, hb, hml, hown, hts⟩ (x_packed l D cA sa 9 ([110, 111, 116]) H.size (by decide +kernel) (by decide +kernel)) (va_cwS 1 hts gX5_markKeywords_X8_packed rfl rfl rfl (by decide +kernel) ⟨(Nat.le_of_ble_eq_true rfl), (Nat.le_of_ble_eq_true rfl)⟩) ⟨Wd.blind, fun U hU hW => ⟨rfl, Wd.call hPc hDc hK hC hZ hS hFc U hU hW⟩⟩ rfl rfl hl.1 rfl (lv_room (Nat.le_of_ble_eq_true rfl)) dX5_markKeywords_13 ⟨(Nat.le_of_ble_eq_true rfl), (Nat.le_of_ble_eq_true rfl)⟩) hS (fun q _ h => hFc q h) hFc (fun rn26 u t H1 locs ht hvm hw hB hz1 hk1 hS => ?_)
                                  obtain ⟨hP1, hD1⟩ := hB
                                  rw [ht] at hP1
                                  obtain ⟨hP, hD⟩ := PDq.join (w := [(oX5 r1 k1 k2 k3 (nI ct)), (k1, .inl (cA 0, 701, .inl f1_8)), (k2, .inl (cA 0, 701, .inl ft)), (k3, .inl (cA 1, 701, .inr (.inl fv)))]) 4 hP hD [] [0, 1, 2, 3] rfl rfl (by decide) (by decide) hk1 hFc hP1 hD1 rfl
                                  generalize H1 = H at hP hS ⊢
                                  obtain rfl : rn26 = 14836 := hw.trans (by decide +kernel)
                                  refine lv_lstore_n (lv' := [(2, .long 14836), (1, .int 16), (4, .int (nI ct)), (0, .ref r1)]) hx hb dX5_markKeywords_16 rfl hl (by decide) rfl (fun ls hl => ?_)
                                  refine lv_iconst (v := 0) hx hb dX5_markKeywords_17 (by decide) ?_
                                  refine lv_istore (lv' := [(4, .int 0), (2, .long 14836), (1, .int 16), (0, .ref r1)]) hx hb dX5_markKeywords_18 hl (by decide) rfl (fun ls hl => ?_)
                                  have loop9 : ∀ (n9 i9 : Nat) (f1_9 : Nat → Int32) (H : Heap) (locs : List Loc) (ls : Array Slot), i9 + n9 = ct → Rdd f1_9 → Mi 8 ct i9 fk fv f1_9 → va_P D vwCl [(oX5 r1 k1 k2 k3 (nI ct)), (k1, .inl (cA 0, 701, .inl f1_9)), (k2, .inl (cA 0, 701, .inl ft)), (k3, .inl (cA 1, 701, .inr (.inl fv)))] H → va_D A [(oX5 r1 k1 k2 k3 (nI ct)), (k1, .inl (cA 0, 701, .inl f1_9)), (k2, .inl (cA 0, 701, .inl ft)), (k3, .inl (cA 1, 701, .inr (.inl fv)))] → va_S A s.heap H locs → lv_has ls 5 [(4, .int (nI i9)), (2, .long 14836), (1, .int 16), (0, .ref r1)] → W p l e (headSpec wsX5_markKeywords ({ frames := 5, cells := 0, slots := 0, locals := 108 } : Room)).room s m ([.ref r1] : List Value).toArray below meth c H locs 0 0 (MQ below (va_Qv (fun _ : Unit => True) (fun (_ : Unit) t => ∃ zk : Nat → Int32, Mk 15 ct fk fv zk ∧ Wq D A [(oX5 r1 k1 k2 k3 (nI ct)), (k1, .inl (cA 0, 701, .inl zk)), (k2, .inl (cA 0, 701, .inl ft)), (k3, .inl (cA 1, 701, .inr (.inl fv)))] t) A) ([.ref r1] : List Value).toArray s 0 0 A) (F0 m 20 ls []) := by
                                    intro n9
                                    induction n9 with
                                    | zero =>
                                      intro i9 f1_9 H locs ls hi9 hf0_9 hv0_9 hP hD hS hl
                                      obtain rfl : ct = i9 := by omega
                                      refine lv_iload hx hb dX5_markKeywords_20 (lv_at hl 0 rfl) ?_
                                      refine lv_aload_n hx hb dX5_markKeywords_22 rfl (lv_at hl 3 rfl) ?_
                                      refine va_get (D := D) (ci := 9) (v := .int (nI ct)) (C := RX5) (T := TX5) (N := 4) hx hb hts inX5 hown hK hP 0 rfl rfl 3 (by decide) (hts (.fieldLink RX5 22 "EscrowDesk$Scanner" "count" "I") (by decide +kernel)) (fun _ h9 => h9) rfl dX5_markKeywords_23 ?_
                                      refine lv_icmp_ge (tgt := 66) hx hb dX5_markKeywords_26 (by decide) (fun c27 => ?_) (fun c9 => absurd (nI_le (a := ct) (b := ct) (show ct ≤ ct by omega) (by omega)) c9)
                                      refine lv_iinc (v := 17) (lv' := [(1, .int 17), (4, .int (nI ct)), (2, .long 14836), (0, .ref r1)]) hx hb dX5_markKeywords_66 hl (k := 2) rfl (by first | rfl | decide +kernel) (by decide) rfl (fun ls hl => ?_)
                                      refine lv_goto (tgt := 3) hx hb dX5_markKeywords_69 (by decide) ?_
                                      refine lv_iload_n hx hb dX5_markKeywords_3 rfl (lv_at hl 0 rfl) ?_
                                      refine lv_bipush (v := 22) hx hb dX5_markKeywords_4 (by decide) ?_
                                      refine lv_icmp_gt (tgt := 72) hx hb dX5_markKeywords_6 (by decide) (fun c9 => absurd c9 (by decide)) (fun c28 => ?_)
                                      refine lv_iload_n hx hb dX5_markKeywords_9 rfl (lv_at hl 0 rfl) ?_
                                      obtain ⟨hPc, hDc, hFc⟩ := PDq.cut (wc := []) hP hD hS hA [] (by decide) rfl
                                      refine va_callr (va_runS (As := [.int 17]) (rest := []) ⟨hx, hb, hml, hown, hts⟩ (c_spell_17 l D cA sa  H.size) (va_cwS 1 hts gX5_markKeywords_X7_spelling rfl rfl rfl (by decide +kernel) ⟨(Nat.le_of_ble_eq_true rfl), (Nat.le_of_ble_eq_true rfl)⟩) ⟨Wd.blind, fun U hU hW => ⟨rfl, Wd.call hPc hDc hK hC hZ hS hFc U hU hW⟩⟩ rfl rfl hl.1 rfl (lv_room (Nat.le_of_ble_eq_true rfl)) dX5_markKeywords_10 ⟨(Nat.le_of_ble_eq_true rfl), (Nat.le_of_ble_eq_true rfl)⟩) hS (fun q _ h => hFc q h) hFc (fun u ra t H1 locs ht hvm hw hB hz1 hk1 hS => ?_)
                                      obtain ⟨hra, hP1, hD1⟩ := hB
                                      obtain rfl := hra.symm
                                      rw [ht] at hP1
                                      obtain ⟨hP, hD⟩ := PDq.join (w := [(oX5 r1 k1 k2 k3 (nI ct)), (k1, .inl (cA 0, 701, .inl f1_9)), (k2, .inl (cA 0, 701, .inl ft)), (k3, .inl (cA 1, 701, .inr (.inl fv)))]) 4 hP hD [] [0, 1, 2, 3] rfl rfl (by decide) (by decide) hk1 hFc hP1 hD1 rfl
                                      generalize H1 = H at hP hS ⊢
                                      obtain ⟨hPc, hDc, hFc⟩ := PDq.cut (wc := []) hP hD hS hA [] (by decide) rfl
                                      refine va_calll (va_runS (As := [.ref (sa 10)]) (rest := []) ⟨hx, hb, hml, hown, hts⟩ (x_packed l D cA sa 10 ([100, 97, 121]) H.size (by decide +kernel) (by decide +kernel)) (va_cwS 1 hts gX5_markKeywords_X8_packed rfl rfl rfl (by decide +kernel) ⟨(Nat.le_of_ble_eq_true rfl), (Nat.le_of_ble_eq_true rfl)⟩) ⟨Wd.blind, fun U hU hW => ⟨rfl, Wd.call hPc hDc hK hC hZ hS hFc U hU hW⟩⟩ rfl rfl hl.1 rfl (lv_room (Nat.le_of_ble_eq_true rfl)) dX5_markKeywords_13 ⟨(Nat.le_of_ble_eq_true rfl), (Nat.le_of_ble_eq_true rfl)⟩) hS (fun q _ h => hFc q h) hFc (fun rn29 u t H1 locs ht hvm hw hB hz1 hk1 hS => ?_)
                                      obtain ⟨hP1, hD1⟩ := hB
                                      rw [ht] at hP1
                                      obtain ⟨hP, hD⟩ := PDq.join (w := [(oX5 r1 k1 k2 k3 (nI ct)), (k1, .inl (cA 0, 701, .inl f1_9)), (k2, .inl (cA 0, 701, .inl ft)), (k3, .inl (cA 1, 701, .inr (.inl fv)))]) 4 hP hD [] [0, 1, 2, 3] rfl rfl (by decide) (by decide) hk1 hFc hP1 hD1 rfl
                                      generalize H1 = H at hP hS ⊢
                                      obtain rfl : rn29 = 4153 := hw.trans (by decide +kernel)
                                      refine lv_lstore_n (lv' := [(2, .long 4153), (1, .int 17), (4, .int (nI ct)), (0, .ref r1)]) hx hb dX5_markKeywords_16 rfl hl (by decide) rfl (fun ls hl => ?_)
                                      refine lv_iconst (v := 0) hx hb dX5_markKeywords_17 (by decide) ?_
                                      refine lv_istore (lv' := [(4, .int 0), (2, .long 4153), (1, .int 17), (0, .ref r1)]) hx hb dX5_markKeywords_18 hl (by decide) rfl (fun ls hl => ?_)
                                      have loop10 : ∀ (n10 i10 : Nat) (f1_10 : Nat → Int32) (H : Heap) (locs : List Loc) (ls : Array Slot), i10 + n10 = ct → Rdd f1_10 → Mi 9 ct i10 fk fv f1_10 → va_P D vwCl [(oX5 r1 k1 k2 k3 (nI ct)), (k1, .inl (cA 0, 701, .inl f1_10)), (k2, .inl (cA 0, 701, .inl ft)), (k3, .inl (cA 1, 701, .inr (.inl fv)))] H → va_D A [(oX5 r1 k1 k2 k3 (nI ct)), (k1, .inl (cA 0, 701, .inl f1_10)), (k2, .inl (cA 0, 701, .inl ft)), (k3, .inl (cA 1, 701, .inr (.inl fv)))] → va_S A s.heap H locs → lv_has ls 5 [(4, .int (nI i10)), (2, .long 4153), (1, .int 17), (0, .ref r1)] → W p l e (headSpec wsX5_markKeywords ({ frames := 5, cells := 0, slots := 0, locals := 108 } : Room)).room s m ([.ref r1] : List Value).toArray below meth c H locs 0 0 (MQ below (va_Qv (fun _ : Unit => True) (fun (_ : Unit) t => ∃ zk : Nat → Int32, Mk 15 ct fk fv zk ∧ Wq D A [(oX5 r1 k1 k2 k3 (nI ct)), (k1, .inl (cA 0, 701, .inl zk)), (k2, .inl (cA 0, 701, .inl ft)), (k3, .inl (cA 1, 701, .inr (.inl fv)))] t) A) ([.ref r1] : List Value).toArray s 0 0 A) (F0 m 20 ls []) := by
                                        intro n10
                                        induction n10 with
                                        | zero =>
                                          intro i10 f1_10 H locs ls hi10 hf0_10 hv0_10 hP hD hS hl
                                          obtain rfl : ct = i10 := by omega
                                          refine lv_iload hx hb dX5_markKeywords_20 (lv_at hl 0 rfl) ?_
                                          refine lv_aload_n hx hb dX5_markKeywords_22 rfl (lv_at hl 3 rfl) ?_
                                          refine va_get (D := D) (ci := 9) (v := .int (nI ct)) (C := RX5) (T := TX5) (N := 4) hx hb hts inX5 hown hK hP 0 rfl rfl 3 (by decide) (hts (.fieldLink RX5 22 "EscrowDesk$Scanner" "count" "I") (by decide +kernel)) (fun _ h9 => h9) rfl dX5_markKeywords_23 ?_
                                          refine lv_icmp_ge (tgt := 66) hx hb dX5_markKeywords_26 (by decide) (fun c30 => ?_) (fun c9 => absurd (nI_le (a := ct) (b := ct) (show ct ≤ ct by omega) (by omega)) c9)
                                          refine lv_iinc (v := 18) (lv' := [(1, .int 18), (4, .int (nI ct)), (2, .long 4153), (0, .ref r1)]) hx hb dX5_markKeywords_66 hl (k := 2) rfl (by first | rfl | decide +kernel) (by decide) rfl (fun ls hl => ?_)
                                          refine lv_goto (tgt := 3) hx hb dX5_markKeywords_69 (by decide) ?_
                                          refine lv_iload_n hx hb dX5_markKeywords_3 rfl (lv_at hl 0 rfl) ?_
                                          refine lv_bipush (v := 22) hx hb dX5_markKeywords_4 (by decide) ?_
                                          refine lv_icmp_gt (tgt := 72) hx hb dX5_markKeywords_6 (by decide) (fun c9 => absurd c9 (by decide)) (fun c31 => ?_)
                                          refine lv_iload_n hx hb dX5_markKeywords_9 rfl (lv_at hl 0 rfl) ?_
                                          obtain ⟨hPc, hDc, hFc⟩ := PDq.cut (wc := []) hP hD hS hA [] (by decide) rfl
                                          refine va_callr (va_runS (As := [.int 18]) (rest := []) ⟨hx, hb, hml, hown, hts⟩ (c_spell_18 l D cA sa  H.size) (va_cwS 1 hts gX5_markKeywords_X7_spelling rfl rfl rfl (by decide +kernel) ⟨(Nat.le_of_ble_eq_true rfl), (Nat.le_of_ble_eq_true rfl)⟩) ⟨Wd.blind, fun U hU hW => ⟨rfl, Wd.call hPc hDc hK hC hZ hS hFc U hU hW⟩⟩ rfl rfl hl.1 rfl (lv_room (Nat.le_of_ble_eq_true rfl)) dX5_markKeywords_10 ⟨(Nat.le_of_ble_eq_true rfl), (Nat.le_of_ble_eq_true rfl)⟩) hS (fun q _ h => hFc q h) hFc (fun u ra t H1 locs ht hvm hw hB hz1 hk1 hS => ?_)
                                          obtain ⟨hra, hP1, hD1⟩ := hB
                                          obtain rfl := hra.symm
                                          rw [ht] at hP1
                                          obtain ⟨hP, hD⟩ := PDq.join (w := [(oX5 r1 k1 k2 k3 (nI ct)), (k1, .inl (cA 0, 701, .inl f1_10)), (k2, .inl (cA 0, 701, .inl ft)), (k3, .inl (cA 1, 701, .inr (.inl fv)))]) 4 hP hD [] [0, 1, 2, 3] rfl rfl (by decide) (by decide) hk1 hFc hP1 hD1 rfl
                                          generalize H1 = H at hP hS ⊢
                                          obtain ⟨hPc, hDc, hFc⟩ := PDq.cut (wc := []) hP hD hS hA [] (by decide) rfl
                                          refine va_calll (va_runS (As := [.ref (sa 11)]) (rest := []) ⟨hx, hb, hml, hown, hts⟩ (x_packed l D cA sa 11 ([112, 114, 111, 111, 102]) H.size (by decide +kernel) (by decide +kernel)) (va_cwS 1 hts gX5_markKeywords_X8_packed rfl rfl rfl (by decide +kernel) ⟨(Nat.le_of_ble_eq_true rfl), (Nat.le_of_ble_eq_true rfl)⟩) ⟨Wd.blind, fun U hU hW => ⟨rfl, Wd.call hPc hDc hK hC hZ hS hFc U hU hW⟩⟩ rfl rfl hl.1 rfl (lv_room (Nat.le_of_ble_eq_true rfl)) dX5_markKeywords_13 ⟨(Nat.le_of_ble_eq_true rfl), (Nat.le_of_ble_eq_true rfl)⟩) hS (fun q _ h => hFc q h) hFc (fun rn32 u t H1 locs ht hvm hw hB hz1 hk1 hS => ?_)
                                          obtain ⟨hP1, hD1⟩ := hB
                                          rw [ht] at hP1
                                          obtain ⟨hP, hD⟩ := PDq.join (w := [(oX5 r1 k1 k2 k3 (nI ct)), (k1, .inl (cA 0, 701, .inl f1_10)), (k2, .inl (cA 0, 701, .inl ft)), (k3, .inl (cA 1, 701, .inr (.inl fv)))]) 4 hP hD [] [0, 1, 2, 3] rfl rfl (by decide) (by decide) hk1 hFc hP1 hD1 rfl
                                          generalize H1 = H at hP hS ⊢
                                          obtain rfl : rn32 = 17382886 := hw.trans (by decide +kernel)
                                          refine lv_lstore_n (lv' := [(2, .long 17382886), (1, .int 18), (4, .int (nI ct)), (0, .ref r1)]) hx hb dX5_markKeywords_16 rfl hl (by decide) rfl (fun ls hl => ?_)
                                          refine lv_iconst (v := 0) hx hb dX5_markKeywords_17 (by decide) ?_
                                          refine lv_istore (lv' := [(4, .int 0), (2, .long 17382886), (1, .int 18), (0, .ref r1)]) hx hb dX5_markKeywords_18 hl (by decide) rfl (fun ls hl => ?_)
                                          have loop11 : ∀ (n11 i11 : Nat) (f1_11 : Nat → Int32) (H : Heap) (locs : List Loc) (ls : Array Slot), i11 + n11 = ct → Rdd f1_11 → Mi 10 ct i11 fk fv f1_11 → va_P D vwCl [(oX5 r1 k1 k2 k3 (nI ct)), (k1, .inl (cA 0, 701, .inl f1_11)), (k2, .inl (cA 0, 701, .inl ft)), (k3, .inl (cA 1, 701, .inr (.inl fv)))] H → va_D A [(oX5 r1 k1 k2 k3 (nI ct)), (k1, .inl (cA 0, 701, .inl f1_11)), (k2, .inl (cA 0, 701, .inl ft)), (k3, .inl (cA 1, 701, .inr (.inl fv)))] → va_S A s.heap H locs → lv_has ls 5 [(4, .int (nI i11)), (2, .long 17382886), (1, .int 18), (0, .ref r1)] → W p l e (headSpec wsX5_markKeywords ({ frames := 5, cells := 0, slots := 0, locals := 108 } : Room)).room s m ([.ref r1] : List Value).toArray below meth c H locs 0 0 (MQ below (va_Qv (fun _ : Unit => True) (fun (_ : Unit) t => ∃ zk : Nat → Int32, Mk 15 ct fk fv zk ∧ Wq D A [(oX5 r1 k1 k2 k3 (nI ct)), (k1, .inl (cA 0, 701, .inl zk)), (k2, .inl (cA 0, 701, .inl ft)), (k3, .inl (cA 1, 701, .inr (.inl fv)))] t) A) ([.ref r1] : List Value).toArray s 0 0 A) (F0 m 20 ls []) := by
                                            intro n11
                                            induction n11 with
                                            | zero =>
                                              intro i11 f1_11 H locs ls hi11 hf0_11 hv0_11 hP hD hS hl
                                              obtain rfl : ct = i11 := by omega
                                              refine lv_iload hx hb dX5_markKeywords_20 (lv_at hl 0 rfl) ?_
                                              refine lv_aload_n hx hb dX5_markKeywords_22 rfl (lv_at hl 3 rfl) ?_
                                              refine va_get (D := D) (ci := 9) (v := .int (nI ct)) (C := RX5) (T := TX5) (N := 4) hx hb hts inX5 hown hK hP 0 rfl rfl 3 (by decide) (hts (.fieldLink RX5 22 "EscrowDesk$Scanner" "count" "I") (by decide +kernel)) (fun _ h9 => h9) rfl dX5_markKeywords_23 ?_
                                              refine lv_icmp_ge (tgt := 66) hx hb dX5_markKeywords_26 (by decide) (fun c33 => ?_) (fun c9 => absurd (nI_le (a := ct) (b := ct) (show ct ≤ ct by omega) (by omega)) c9)
                                              refine lv_iinc (v := 19) (lv' := [(1, .int 19), (4, .int (nI ct)), (2, .long 17382886), (0, .ref r1)]) hx hb dX5_markKeywords_66 hl (k := 2) rfl (by first | rfl | decide +kernel) (by decide) rfl (fun ls hl => ?_)
                                              refine lv_goto (tgt := 3) hx hb dX5_markKeywords_69 (by decide) ?_
                                              refine lv_iload_n hx hb dX5_markKeywords_3 rfl (lv_at hl 0 rfl) ?_
                                              refine lv_bipush (v := 22) hx hb dX5_markKeywords_4 (by decide) ?_
                                              refine lv_icmp_gt (tgt := 72) hx hb dX5_markKeywords_6 (by decide) (fun c9 => absurd c9 (by decide)) (fun c34 => ?_)
                                              refine lv_iload_n hx hb dX5_markKeywords_9 rfl (lv_at hl 0 rfl) ?_
                                              obtain ⟨hPc, hDc, hFc⟩ := PDq.cut (wc := []) hP hD hS hA [] (by decide) rfl
                                              refine va_callr (va_runS (As := [.int 19]) (rest := []) ⟨hx, hb, hml, hown, hts⟩ (c_spell_19 l D cA sa  H.size) (va_cwS 1 hts gX5_markKeywords_X7_spelling rfl rfl rfl (by decide +kernel) ⟨(Nat.le_of_ble_eq_true rfl), (Nat.le_of_ble_eq_true rfl)⟩) ⟨Wd.blind, fun U hU hW => ⟨rfl, Wd.call hPc hDc hK hC hZ hS hFc U hU hW⟩⟩ rfl rfl hl.1 rfl (lv_room (Nat.le_of_ble_eq_true rfl)) dX5_markKeywords_10 ⟨(Nat.le_of_ble_eq_true rfl), (Nat.le_of_ble_eq_true rfl)⟩) hS (fun q _ h => hFc q h) hFc (fun u ra t H1 locs ht hvm hw hB hz1 hk1 hS => ?_)
                                              obtain ⟨hra, hP1, hD1⟩ := hB
                                              obtain rfl := hra.symm
                                              rw [ht] at hP1
                                              obtain ⟨hP, hD⟩ := PDq.join (w := [(oX5 r1 k1 k2 k3 (nI ct)), (k1, .inl (cA 0, 701, .inl f1_11)), (k2, .inl (cA 0, 701, .inl ft)), (k3, .inl (cA 1, 701, .inr (.inl fv)))]) 4 hP hD [] [0, 1, 2, 3] rfl rfl (by decide) (by decide) hk1 hFc hP1 hD1 rfl
                                              generalize H1 = H at hP hS ⊢
                                              obtain ⟨hPc, hDc, hFc⟩ := PDq.cut (wc := []) hP hD hS hA [] (by decide) rfl
                                              refine va_calll (va_runS (As := [.ref (sa 12)]) (rest := []) ⟨hx, hb, hml, hown, hts⟩ (x_packed l D cA sa 12 ([100, 111, 110, 101]) H.size (by decide +kernel) (by decide +kernel)) (va_cwS 1 hts gX5_markKeywords_X8_packed rfl rfl rfl (by decide +kernel) ⟨(Nat.le_of_ble_eq_true rfl), (Nat.le_of_ble_eq_true rfl)⟩) ⟨Wd.blind, fun U hU hW => ⟨rfl, Wd.call hPc hDc hK hC hZ hS hFc U hU hW⟩⟩ rfl rfl hl.1 rfl (lv_room (Nat.le_of_ble_eq_true rfl)) dX5_markKeywords_13 ⟨(Nat.le_of_ble_eq_true rfl), (Nat.le_of_ble_eq_true rfl)⟩) hS (fun q _ h => hFc q h) hFc (fun rn35 u t H1 locs ht hvm hw hB hz1 hk1 hS => ?_)
                                              obtain ⟨hP1, hD1⟩ := hB
                                              rw [ht] at hP1
                                              obtain ⟨hP, hD⟩ := PDq.join (w := [(oX5 r1 k1 k2 k3 (nI ct)), (k1, .inl (cA 0, 701, .inl f1_11)), (k2, .inl (cA 0, 701, .inl ft)), (k3, .inl (cA 1, 701, .inr (.inl fv)))]) 4 hP hD [] [0, 1, 2, 3] rfl rfl (by decide) (by decide) hk1 hFc hP1 hD1 rfl
                                              generalize H1 = H at hP hS ⊢
                                              obtain rfl : rn35 = 146885 := hw.trans (by decide +kernel)
                                              refine lv_lstore_n (lv' := [(2, .long 146885), (1, .int 19), (4, .int (nI ct)), (0, .ref r1)]) hx hb dX5_markKeywords_16 rfl hl (by decide) rfl (fun ls hl => ?_)
                                              refine lv_iconst (v := 0) hx hb dX5_markKeywords_17 (by decide) ?_
                                              refine lv_istore (lv' := [(4, .int 0), (2, .long 146885), (1, .int 19), (0, .ref r1)]) hx hb dX5_markKeywords_18 hl (by decide) rfl (fun ls hl => ?_)
                                              have loop12 : ∀ (n12 i12 : Nat) (f1_12 : Nat → Int32) (H : Heap) (locs : List Loc) (ls : Array Slot), i12 + n12 = ct → Rdd f1_12 → Mi 11 ct i12 fk fv f1_12 → va_P D vwCl [(oX5 r1 k1 k2 k3 (nI ct)), (k1, .inl (cA 0, 701, .inl f1_12)), (k2, .inl (cA 0, 701, .inl ft)), (k3, .inl (cA 1, 701, .inr (.inl fv)))] H → va_D A [(oX5 r1 k1 k2 k3 (nI ct)), (k1, .inl (cA 0, 701, .inl f1_12)), (k2, .inl (cA 0, 701, .inl ft)), (k3, .inl (cA 1, 701, .inr (.inl fv)))] → va_S A s.heap H locs → lv_has ls 5 [(4, .int (nI i12)), (2, .long 146885), (1, .int 19), (0, .ref r1)] → W p l e (headSpec wsX5_markKeywords ({ frames := 5, cells := 0, slots := 0, locals := 108 } : Room)).room s m ([.ref r1] : List Value).toArray below meth c H locs 0 0 (MQ below (va_Qv (fun _ : Unit => True) (fun (_ : Unit) t => ∃ zk : Nat → Int32, Mk 15 ct fk fv zk ∧ Wq D A [(oX5 r1 k1 k2 k3 (nI ct)), (k1, .inl (cA 0, 701, .inl zk)), (k2, .inl (cA 0, 701, .inl ft)), (k3, .inl (cA 1, 701, .inr (.inl fv)))] t) A) ([.ref r1] : List Value).toArray s 0 0 A) (F0 m 20 ls []) := by
                                                intro n12
                                                induction n12 with
                                                | zero =>
                                                  intro i12 f1_12 H locs ls hi12 hf0_12 hv0_12 hP hD hS hl
                                                  obtain rfl : ct = i12 := by omega
                                                  refine lv_iload hx hb dX5_markKeywords_20 (lv_at hl 0 rfl) ?_
                                                  refine lv_aload_n hx hb dX5_markKeywords_22 rfl (lv_at hl 3 rfl) ?_
                                                  refine va_get (D := D) (ci := 9) (v := .int (nI ct)) (C := RX5) (T := TX5) (N := 4) hx hb hts inX5 hown hK hP 0 rfl rfl 3 (by decide) (hts (.fieldLink RX5 22 "EscrowDesk$Scanner" "count" "I") (by decide +kernel)) (fun _ h9 => h9) rfl dX5_markKeywords_23 ?_
                                                  refine lv_icmp_ge (tgt := 66) hx hb dX5_markKeywords_26 (by decide) (fun c36 => ?_) (fun c9 => absurd (nI_le (a := ct) (b := ct) (show ct ≤ ct by omega) (by omega)) c9)
                                                  refine lv_iinc (v := 20) (lv' := [(1, .int 20), (4, .int (nI ct)), (2, .long 146885), (0, .ref r1)]) hx hb dX5_markKeywords_66 hl (k := 2) rfl (by first | rfl | decide +kernel) (by decide) rfl (fun ls hl => ?_)
                                                  refine lv_goto (tgt := 3) hx hb dX5_markKeywords_69 (by decide) ?_
                                                  refine lv_iload_n hx hb dX5_markKeywords_3 rfl (lv_at hl 0 rfl) ?_
                                                  refine lv_bipush (v := 22) hx hb dX5_markKeywords_4 (by decide) ?_
                                                  refine lv_icmp_gt (tgt := 72) hx hb dX5_markKeywords_6 (by decide) (fun c9 => absurd c9 (by decide)) (fun c37 => ?_)
                                                  refine lv_iload_n hx hb dX5_markKeywords_9 rfl (lv_at hl 0 rfl) ?_
                                                  obtain ⟨hPc, hDc, hFc⟩ := PDq.cut (wc := []) hP hD hS hA [] (by decide) rfl
                                                  refine va_callr (va_runS (As := [.int 20]) (rest := []) ⟨hx, hb, hml, hown, hts⟩ (c_spell_20 l D cA sa  H.size) (va_cwS 1 hts gX5_markKeywords_X7_spelling rfl rfl rfl (by decide +kernel) ⟨(Nat.le_of_ble_eq_true rfl), (Nat.le_of_ble_eq_true rfl)⟩) ⟨Wd.blind, fun U hU hW => ⟨rfl, Wd.call hPc hDc hK hC hZ hS hFc U hU hW⟩⟩ rfl rfl hl.1 rfl (lv_room (Nat.le_of_ble_eq_true rfl)) dX5_markKeywords_10 ⟨(Nat.le_of_ble_eq_true rfl), (Nat.le_of_ble_eq_true rfl)⟩) hS (fun q _ h => hFc q h) hFc (fun u ra t H1 locs ht hvm hw hB hz1 hk1 hS => ?_)
                                                  obtain ⟨hra, hP1, hD1⟩ := hB
                                                  obtain rfl := hra.symm
                                                  rw [ht] at hP1
                                                  obtain ⟨hP, hD⟩ := PDq.join (w := [(oX5 r1 k1 k2 k3 (nI ct)), (k1, .inl (cA 0, 701, .inl f1_12)), (k2, .inl (cA 0, 701, .inl ft)), (k3, .inl (cA 1, 701, .inr (.inl fv)))]) 4 hP hD [] [0, 1, 2, 3] rfl rfl (by decide) (by decide) hk1 hFc hP1 hD1 rfl
                                                  generalize H1 = H at hP hS ⊢
                                                  obtain ⟨hPc, hDc, hFc⟩ := PDq.cut (wc := []) hP hD hS hA [] (by decide) rfl
                                                  refine va_calll (va_runS (As := [.ref (sa 13)]) (rest := []) ⟨hx, hb, hml, hown, hts⟩ (x_packed l D cA sa 13 ([115, 117, 109]) H.size (by decide +kernel) (by decide +kernel)) (va_cwS 1 hts gX5_markKeywords_X8_packed rfl rfl rfl (by decide +kernel) ⟨(Nat.le_of_ble_eq_true rfl), (Nat.le_of_ble_eq_true rfl)⟩) ⟨Wd.blind, fun U hU hW => ⟨rfl, Wd.call hPc hDc hK hC hZ hS hFc U hU hW⟩⟩ rfl rfl hl.1 rfl (lv_room (Nat.le_of_ble_eq_true rfl)) dX5_markKeywords_13 ⟨(Nat.le_of_ble_eq_true rfl), (Nat.le_of_ble_eq_true rfl)⟩) hS (fun q _ h => hFc q h) hFc (fun rn38 u t H1 locs ht hvm hw hB hz1 hk1 hS => ?_)
                                                  obtain ⟨hP1, hD1⟩ := hB
                                                  rw [ht] at hP1
                                                  obtain ⟨hP, hD⟩ := PDq.join (w := [(oX5 r1 k1 k2 k3 (nI ct)), (k1, .inl (cA 0, 701, .inl f1_12)), (k2, .inl (cA 0, 701, .inl ft)), (k3, .inl (cA 1, 701, .inr (.inl fv)))]) 4 hP hD [] [0, 1, 2, 3] rfl rfl (by decide) (by decide) hk1 hFc hP1 hD1 rfl
                                                  generalize H1 = H at hP hS ⊢
                                                  obtain rfl : rn38 = 20141 := hw.trans (by decide +kernel)
                                                  refine lv_lstore_n (lv' := [(2, .long 20141), (1, .int 20), (4, .int (nI ct)), (0, .ref r1)]) hx hb dX5_markKeywords_16 rfl hl (by decide) rfl (fun ls hl => ?_)
                                                  refine lv_iconst (v := 0) hx hb dX5_markKeywords_17 (by decide) ?_
                                                  refine lv_istore (lv' := [(4, .int 0), (2, .long 20141), (1, .int 20), (0, .ref r1)]) hx hb dX5_markKeywords_18 hl (by decide) rfl (fun ls hl => ?_)
                                                  have loop13 : ∀ (n13 i13 : Nat) (f1_13 : Nat → Int32) (H : Heap) (locs : List Loc) (ls : Array Slot), i13 + n13 = ct → Rdd f1_13 → Mi 12 ct i13 fk fv f1_13 → va_P D vwCl [(oX5 r1 k1 k2 k3 (nI ct)), (k1, .inl (cA 0, 701, .inl f1_13)), (k2, .inl (cA 0, 701, .inl ft)), (k3, .inl (cA 1, 701, .inr (.inl fv)))] H → va_D A [(oX5 r1 k1 k2 k3 (nI ct)), (k1, .inl (cA 0, 701, .inl f1_13)), (k2, .inl (cA 0, 701, .inl ft)), (k3, .inl (cA 1, 701, .inr (.inl fv)))] → va_S A s.heap H locs → lv_has ls 5 [(4, .int (nI i13)), (2, .long 20141), (1, .int 20), (0, .ref r1)] → W p l e (headSpec wsX5_markKeywords ({ frames := 5, cells := 0, slots := 0, locals := 108 } : Room)).room s m ([.ref r1] : List Value).toArray below meth c H locs 0 0 (MQ below (va_Qv (fun _ : Unit => True) (fun (_ : Unit) t => ∃ zk : Nat → Int32, Mk 15 ct fk fv zk ∧ Wq D A [(oX5 r1 k1 k2 k3 (nI ct)), (k1, .inl (cA 0, 701, .inl zk)), (k2, .inl (cA 0, 701, .inl ft)), (k3, .inl (cA 1, 701, .inr (.inl fv)))] t) A) ([.ref r1] : List Value).toArray s 0 0 A) (F0 m 20 ls []) := by
                                                    intro n13
                                                    induction n13 with
                                                    | zero =>
                                                      intro i13 f1_13 H locs ls hi13 hf0_13 hv0_13 hP hD hS hl
                                                      obtain rfl : ct = i13 := by omega
                                                      refine lv_iload hx hb dX5_markKeywords_20 (lv_at hl 0 rfl) ?_
                                                      refine lv_aload_n hx hb dX5_markKeywords_22 rfl (lv_at hl 3 rfl) ?_
                                                      refine va_get (D := D) (ci := 9) (v := .int (nI ct)) (C := RX5) (T := TX5) (N := 4) hx hb hts inX5 hown hK hP 0 rfl rfl 3 (by decide) (hts (.fieldLink RX5 22 "EscrowDesk$Scanner" "count" "I") (by decide +kernel)) (fun _ h9 => h9) rfl dX5_markKeywords_23 ?_
                                                      refine lv_icmp_ge (tgt := 66) hx hb dX5_markKeywords_26 (by decide) (fun c39 => ?_) (fun c9 => absurd (nI_le (a := ct) (b := ct) (show ct ≤ ct by omega) (by omega)) c9)
                                                      refine lv_iinc (v := 21) (lv' := [(1, .int 21), (4, .int (nI ct)), (2, .long 20141), (0, .ref r1)]) hx hb dX5_markKeywords_66 hl (k := 2) rfl (by first | rfl | decide +kernel) (by decide) rfl (fun ls hl => ?_)
                                                      refine lv_goto (tgt := 3) hx hb dX5_markKeywords_69 (by decide) ?_
                                                      refine lv_iload_n hx hb dX5_markKeywords_3 rfl (lv_at hl 0 rfl) ?_
                                                      refine lv_bipush (v := 22) hx hb dX5_markKeywords_4 (by decide) ?_
                                                      refine lv_icmp_gt (tgt := 72) hx hb dX5_markKeywords_6 (by decide) (fun c9 => absurd c9 (by decide)) (fun c40 => ?_)
                                                      refine lv_iload_n hx hb dX5_markKeywords_9 rfl (lv_at hl 0 rfl) ?_
                                                      obtain ⟨hPc, hDc, hFc⟩ := PDq.cut (wc := []) hP hD hS hA [] (by decide) rfl
                                                      refine va_callr (va_runS (As := [.int 21]) (rest := []) ⟨hx, hb, hml, hown, hts⟩ (c_spell_21 l D cA sa  H.size) (va_cwS 1 hts gX5_markKeywords_X7_spelling rfl rfl rfl (by decide +kernel) ⟨(Nat.le_of_ble_eq_true rfl), (Nat.le_of_ble_eq_true rfl)⟩) ⟨Wd.blind, fun U hU hW => ⟨rfl, Wd.call hPc hDc hK hC hZ hS hFc U hU hW⟩⟩ rfl rfl hl.1 rfl (lv_room (Nat.le_of_ble_eq_true rfl)) dX5_markKeywords_10 ⟨(Nat.le_of_ble_eq_true rfl), (Nat.le_of_ble_eq_true rfl)⟩) hS (fun q _ h => hFc q h) hFc (fun u ra t H1 locs ht hvm hw hB hz1 hk1 hS => ?_)
                                                      obtain ⟨hra, hP1, hD1⟩ := hB
                                                      obtain rfl := hra.symm
                                                      rw [ht] at hP1
                                                      obtain ⟨hP, hD⟩ := PDq.join (w := [(oX5 r1 k1 k2 k3 (nI ct)), (k1, .inl (cA 0, 701, .inl f1_13)), (k2, .inl (cA 0, 701, .inl ft)), (k3, .inl (cA 1, 701, .inr (.inl fv)))]) 4 hP hD [] [0, 1, 2, 3] rfl rfl (by decide) (by decide) hk1 hFc hP1 hD1 rfl
                                                      generalize H1 = H at hP hS ⊢
                                                      obtain ⟨hPc, hDc, hFc⟩ := PDq.cut (wc := []) hP hD hS hA [] (by decide) rfl
                                                      refine va_calll (va_runS (As := [.ref (sa 14)]) (rest := []) ⟨hx, hb, hml, hown, hts⟩ (x_packed l D cA sa 14 ([97, 112, 112, 114, 111, 118, 101, 100]) H.size (by decide +kernel) (by decide +kernel)) (va_cwS 1 hts gX5_markKeywords_X8_packed rfl rfl rfl (by decide +kernel) ⟨(Nat.le_of_ble_eq_true rfl), (Nat.le_of_ble_eq_true rfl)⟩) ⟨Wd.blind, fun U hU hW => ⟨rfl, Wd.call hPc hDc hK hC hZ hS hFc U hU hW⟩⟩ rfl rfl hl.1 rfl (lv_room (Nat.le_of_ble_eq_true rfl)) dX5_markKeywords_13 ⟨(Nat.le_of_ble_eq_true rfl), (Nat.le_of_ble_eq_true rfl)⟩) hS (fun q _ h => hFc q h) hFc (fun rn41 u t H1 locs ht hvm hw hB hz1 hk1 hS => ?_)
                                                      obtain ⟨hP1, hD1⟩ := hB
                                                      rw [ht] at hP1
                                                      obtain ⟨hP, hD⟩ := PDq.join (w := [(oX5 r1 k1 k2 k3 (nI ct)), (k1, .inl (cA 0, 701, .inl f1_13)), (k2, .inl (cA 0, 701, .inl ft)), (k3, .inl (cA 1, 701, .inr (.inl fv)))]) 4 hP hD [] [0, 1, 2, 3] rfl rfl (by decide) (by decide) hk1 hFc hP1 hD1 rfl
                                                      generalize H1 = H at hP hS ⊢
                                                      obtain rfl : rn41 = 52095867044 := hw.trans (by decide +kernel)
                                                      refine lv_lstore_n (lv' := [(2, .long 52095867044), (1, .int 21), (4, .int (nI ct)), (0, .ref r1)]) hx hb dX5_markKeywords_16 rfl hl (by decide) rfl (fun ls hl => ?_)
                                                      refine lv_iconst (v := 0) hx hb dX5_markKeywords_17 (by decide) ?_
                                                      refine lv_istore (lv' := [(4, .int 0), (2, .long 52095867044), (1, .int 21), (0, .ref r1)]) hx hb dX5_markKeywords_18 hl (by decide) rfl (fun ls hl => ?_)
                                                      have loop14 : ∀ (n14 i14 : Nat) (f1_14 : Nat → Int32) (H : Heap) (locs : List Loc) (ls : Array Slot), i14 + n14 = ct → Rdd f1_14 → Mi 13 ct i14 fk fv f1_14 → va_P D vwCl [(oX5 r1 k1 k2 k3 (nI ct)), (k1, .inl (cA 0, 701, .inl f1_14)), (k2, .inl (cA 0, 701, .inl ft)), (k3, .inl (cA 1, 701, .inr (.inl fv)))] H → va_D A [(oX5 r1 k1 k2 k3 (nI ct)), (k1, .inl (cA 0, 701, .inl f1_14)), (k2, .inl (cA 0, 701, .inl ft)), (k3, .inl (cA 1, 701, .inr (.inl fv)))] → va_S A s.heap H locs → lv_has ls 5 [(4, .int (nI i14)), (2, .long 52095867044), (1, .int 21), (0, .ref r1)] → W p l e (headSpec wsX5_markKeywords ({ frames := 5, cells := 0, slots := 0, locals := 108 } : Room)).room s m ([.ref r1] : List Value).toArray below meth c H locs 0 0 (MQ below (va_Qv (fun _ : Unit => True) (fun (_ : Unit) t => ∃ zk : Nat → Int32, Mk 15 ct fk fv zk ∧ Wq D A [(oX5 r1 k1 k2 k3 (nI ct)), (k1, .inl (cA 0, 701, .inl zk)), (k2, .inl (cA 0, 701, .inl ft)), (k3, .inl (cA 1, 701, .inr (.inl fv)))] t) A) ([.ref r1] : List Value).toArray s 0 0 A) (F0 m 20 ls []) := by
                                                        intro n14
                                                        induction n14 with
                                                        | zero =>
                                                          intro i14 f1_14 H locs ls hi14 hf0_14 hv0_14 hP hD hS hl
                                                          obtain rfl : ct = i14 := by omega
                                                          refine lv_iload hx hb dX5_markKeywords_20 (lv_at hl 0 rfl) ?_
                                                          refine lv_aload_n hx hb dX5_markKeywords_22 rfl (lv_at hl 3 rfl) ?_
                                                          refine va_get (D := D) (ci := 9) (v := .int (nI ct)) (C := RX5) (T := TX5) (N := 4) hx hb hts inX5 hown hK hP 0 rfl rfl 3 (by decide) (hts (.fieldLink RX5 22 "EscrowDesk$Scanner" "count" "I") (by decide +kernel)) (fun _ h9 => h9) rfl dX5_markKeywords_23 ?_
                                                          refine lv_icmp_ge (tgt := 66) hx hb dX5_markKeywords_26 (by decide) (fun c42 => ?_) (fun c9 => absurd (nI_le (a := ct) (b := ct) (show ct ≤ ct by omega) (by omega)) c9)
                                                          refine lv_iinc (v := 22) (lv' := [(1, .int 22), (4, .int (nI ct)), (2, .long 52095867044), (0, .ref r1)]) hx hb dX5_markKeywords_66 hl (k := 2) rfl (by first | rfl | decide +kernel) (by decide) rfl (fun ls hl => ?_)
                                                          refine lv_goto (tgt := 3) hx hb dX5_markKeywords_69 (by decide) ?_
                                                          refine lv_iload_n hx hb dX5_markKeywords_3 rfl (lv_at hl 0 rfl) ?_
                                                          refine lv_bipush (v := 22) hx hb dX5_markKeywords_4 (by decide) ?_
                                                          refine lv_icmp_gt (tgt := 72) hx hb dX5_markKeywords_6 (by decide) (fun c9 => absurd c9 (by decide)) (fun c43 => ?_)
                                                          refine lv_iload_n hx hb dX5_markKeywords_9 rfl (lv_at hl 0 rfl) ?_
                                                          obtain ⟨hPc, hDc, hFc⟩ := PDq.cut (wc := []) hP hD hS hA [] (by decide) rfl
                                                          refine va_callr (va_runS (As := [.int 22]) (rest := []) ⟨hx, hb, hml, hown, hts⟩ (c_spell_22 l D cA sa  H.size) (va_cwS 1 hts gX5_markKeywords_X7_spelling rfl rfl rfl (by decide +kernel) ⟨(Nat.le_of_ble_eq_true rfl), (Nat.le_of_ble_eq_true rfl)⟩) ⟨Wd.blind, fun U hU hW => ⟨rfl, Wd.call hPc hDc hK hC hZ hS hFc U hU hW⟩⟩ rfl rfl hl.1 rfl (lv_room (Nat.le_of_ble_eq_true rfl)) dX5_markKeywords_10 ⟨(Nat.le_of_ble_eq_true rfl), (Nat.le_of_ble_eq_true rfl)⟩) hS (fun q _ h => hFc q h) hFc (fun u ra t H1 locs ht hvm hw hB hz1 hk1 hS => ?_)
                                                          obtain ⟨hra, hP1, hD1⟩ := hB
                                                          obtain rfl := hra.symm
                                                          rw [ht] at hP1
                                                          obtain ⟨hP, hD⟩ := PDq.join (w := [(oX5 r1 k1 k2 k3 (nI ct)), (k1, .inl (cA 0, 701, .inl f1_14)), (k2, .inl (cA 0, 701, .inl ft)), (k3, .inl (cA 1, 701, .inr (.inl fv)))]) 4 hP hD [] [0, 1, 2, 3] rfl rfl (by decide) (by decide) hk1 hFc hP1 hD1 rfl
                                                          generalize H1 = H at hP hS ⊢
                                                          obtain ⟨hPc, hDc, hFc⟩ := PDq.cut (wc := []) hP hD hS hA [] (by decide) rfl
                                                          refine va_calll (va_runS (As := [.ref (sa 15)]) (rest := []) ⟨hx, hb, hml, hown, hts⟩ (x_packed l D cA sa 15 ([97, 108, 119, 97, 121, 115]) H.size (by decide +kernel) (by decide +kernel)) (va_cwS 1 hts gX5_markKeywords_X8_packed rfl rfl rfl (by decide +kernel) ⟨(Nat.le_of_ble_eq_true rfl), (Nat.le_of_ble_eq_true rfl)⟩) ⟨Wd.blind, fun U hU hW => ⟨rfl, Wd.call hPc hDc hK hC hZ hS hFc U hU hW⟩⟩ rfl rfl hl.1 rfl (lv_room (Nat.le_of_ble_eq_true rfl)) dX5_markKeywords_13 ⟨(Nat.le_of_ble_eq_true rfl), (Nat.le_of_ble_eq_true rfl)⟩) hS (fun q _ h => hFc q h) hFc (fun rn44 u t H1 locs ht hvm hw hB hz1 hk1 hS => ?_)
                                                          obtain ⟨hP1, hD1⟩ := hB
                                                          rw [ht] at hP1
                                                          obtain ⟨hP, hD⟩ := PDq.join (w := [(oX5 r1 k1 k2 k3 (nI ct)), (k1, .inl (cA 0, 701, .inl f1_14)), (k2, .inl (cA 0, 701, .inl ft)), (k3, .inl (cA 1, 701, .inr (.inl fv)))]) 4 hP hD [] [0, 1, 2, 3] rfl rfl (by decide) (by decide) hk1 hFc hP1 hD1 rfl
                                                          generalize H1 = H at hP hS ⊢
                                                          obtain rfl : rn44 = 46892851 := hw.trans (by decide +kernel)
                                                          refine lv_lstore_n (lv' := [(2, .long 46892851), (1, .int 22), (4, .int (nI ct)), (0, .ref r1)]) hx hb dX5_markKeywords_16 rfl hl (by decide) rfl (fun ls hl => ?_)
                                                          refine lv_iconst (v := 0) hx hb dX5_markKeywords_17 (by decide) ?_
                                                          refine lv_istore (lv' := [(4, .int 0), (2, .long 46892851), (1, .int 22), (0, .ref r1)]) hx hb dX5_markKeywords_18 hl (by decide) rfl (fun ls hl => ?_)
                                                          have loop15 : ∀ (n15 i15 : Nat) (f1_15 : Nat → Int32) (H : Heap) (locs : List Loc) (ls : Array Slot), i15 + n15 = ct → Rdd f1_15 → Mi 14 ct i15 fk fv f1_15 → va_P D vwCl [(oX5 r1 k1 k2 k3 (nI ct)), (k1, .inl (cA 0, 701, .inl f1_15)), (k2, .inl (cA 0, 701, .inl ft)), (k3, .inl (cA 1, 701, .inr (.inl fv)))] H → va_D A [(oX5 r1 k1 k2 k3 (nI ct)), (k1, .inl (cA 0, 701, .inl f1_15)), (k2, .inl (cA 0, 701, .inl ft)), (k3, .inl (cA 1, 701, .inr (.inl fv)))] → va_S A s.heap H locs → lv_has ls 5 [(4, .int (nI i15)), (2, .long 46892851), (1, .int 22), (0, .ref r1)] → W p l e (headSpec wsX5_markKeywords ({ frames := 5, cells := 0, slots := 0, locals := 108 } : Room)).room s m ([.ref r1] : List Value).toArray below meth c H locs 0 0 (MQ below (va_Qv (fun _ : Unit => True) (fun (_ : Unit) t => ∃ zk : Nat → Int32, Mk 15 ct fk fv zk ∧ Wq D A [(oX5 r1 k1 k2 k3 (nI ct)), (k1, .inl (cA 0, 701, .inl zk)), (k2, .inl (cA 0, 701, .inl ft)), (k3, .inl (cA 1, 701, .inr (.inl fv)))] t) A) ([.ref r1] : List Value).toArray s 0 0 A) (F0 m 20 ls []) := by
                                                            intro n15
                                                            induction n15 with
                                                            | zero =>
                                                              intro i15 f1_15 H locs ls hi15 hf0_15 hv0_15 hP hD hS hl
                                                              obtain rfl : ct = i15 := by omega
                                                              refine lv_iload hx hb dX5_markKeywords_20 (lv_at hl 0 rfl) ?_
                                                              refine lv_aload_n hx hb dX5_markKeywords_22 rfl (lv_at hl 3 rfl) ?_
                                                              refine va_get (D := D) (ci := 9) (v := .int (nI ct)) (C := RX5) (T := TX5) (N := 4) hx hb hts inX5 hown hK hP 0 rfl rfl 3 (by decide) (hts (.fieldLink RX5 22 "EscrowDesk$Scanner" "count" "I") (by decide +kernel)) (fun _ h9 => h9) rfl dX5_markKeywords_23 ?_
                                                              refine lv_icmp_ge (tgt := 66) hx hb dX5_markKeywords_26 (by decide) (fun c45 => ?_) (fun c9 => absurd (nI_le (a := ct) (b := ct) (show ct ≤ ct by omega) (by omega)) c9)
                                                              refine lv_iinc (v := 23) (lv' := [(1, .int 23), (4, .int (nI ct)), (2, .long 46892851), (0, .ref r1)]) hx hb dX5_markKeywords_66 hl (k := 2) rfl (by first | rfl | decide +kernel) (by decide) rfl (fun ls hl => ?_)
                                                              refine lv_goto (tgt := 3) hx hb dX5_markKeywords_69 (by decide) ?_
                                                              refine lv_iload_n hx hb dX5_markKeywords_3 rfl (lv_at hl 0 rfl) ?_
                                                              refine lv_bipush (v := 22) hx hb dX5_markKeywords_4 (by decide) ?_
                                                              refine lv_icmp_gt (tgt := 72) hx hb dX5_markKeywords_6 (by decide) (fun c46 => ?_) (fun c9 => absurd c9 (by decide))
                                                              obtain ⟨hP9, hD9⟩ := PDq.sub (ws' := [(oX5 r1 k1 k2 k3 (nI ct)), (k1, .inl (cA 0, 701, .inl f1_15)), (k2, .inl (cA 0, 701, .inl ft)), (k3, .inl (cA 1, 701, .inr (.inl fv)))]) hP hD [0, 1, 2, 3] (by decide) rfl
                                                              refine W.widen (k := 0) (n := 0) (Nat.le_of_ble_eq_true rfl) (Nat.le_of_ble_eq_true rfl) ?_
                                                              exact (W.vret hx hb hr (fun t ht hW => ⟨⟨(), rfl, trivial, f1_15, (Mi.mk hv0_15), by rw [ht]; exact hP9, hD9⟩, hS.F ht⟩) hS.2.2 dX5_markKeywords_72)
                                                            | succ n15 ih15 =>
                                                              intro i15 f1_15 H locs ls hi15 hf0_15 hv0_15 hP hD hS hl
                                                              refine lv_iload hx hb dX5_markKeywords_20 (lv_at hl 0 rfl) ?_
                                                              refine lv_aload_n hx hb dX5_markKeywords_22 rfl (lv_at hl 3 rfl) ?_
                                                              refine va_get (D := D) (ci := 9) (v := .int (nI ct)) (C := RX5) (T := TX5) (N := 4) hx hb hts inX5 hown hK hP 0 rfl rfl 3 (by decide) (hts (.fieldLink RX5 22 "EscrowDesk$Scanner" "count" "I") (by decide +kernel)) (fun _ h9 => h9) rfl dX5_markKeywords_23 ?_
                                                              refine lv_icmp_ge (tgt := 66) hx hb dX5_markKeywords_26 (by decide) (fun c9 => absurd c9 (nI_ge (a := i15) (b := ct) (show i15 < ct by omega) (by omega))) (fun c47 => ?_)
                                                              refine lv_aload_n hx hb dX5_markKeywords_29 rfl (lv_at hl 3 rfl) ?_
                                                              refine va_get (D := D) (ci := 9) (v := .ref k1) (C := RX5) (T := TX5) (N := 4) hx hb hts inX5 hown hK hP 0 rfl rfl 0 (by decide) (hts (.fieldLink RX5 9 "EscrowDesk$Scanner" "kinds" "[I") (by decide +kernel)) (fun _ h9 => h9) rfl dX5_markKeywords_30 ?_
                                                              refine lv_iload hx hb dX5_markKeywords_33 (lv_at hl 0 rfl) ?_
                                                              refine va_iald hx hb hK hP 1 0 rfl rfl (vp_in_nI (n := i15) (N := 701) (show i15 < 701 by omega) (by decide)) dX5_markKeywords_35 ?_
                                                              refine lv_topi (fun yn48 eyn48 => ?_)
                                                              obtain rfl : yn48 = (f1_15 i15) := eyn48.trans (by rw [nI_clamp (by omega)])
                                                              refine lv_iconst (v := 4) hx hb dX5_markKeywords_36 (by decide) ?_
                                                              refine lv_icmp_ne (tgt := 60) hx hb dX5_markKeywords_37 (by decide) (fun c49 => ?_) (fun c49 => ?_)
                                                              · skip
                                                                refine lv_iinc (v := (nI (i15 + 1))) (lv' := [(4, .int (nI (i15 + 1))), (2, .long 46892851), (1, .int 22), (0, .ref r1)]) hx hb dX5_markKeywords_60 hl (k := 0) rfl (nI_1 _) (by decide) rfl (fun ls hl => ?_)
                                                                refine lv_goto (tgt := 20) hx hb dX5_markKeywords_63 (by decide) ?_
                                                                obtain ⟨hP9, hD9⟩ := PDq.sub (ws' := [(oX5 r1 k1 k2 k3 (nI ct)), (k1, .inl (cA 0, 701, .inl f1_15)), (k2, .inl (cA 0, 701, .inl ft)), (k3, .inl (cA 1, 701, .inr (.inl fv)))]) hP hD [0, 1, 2, 3] (by decide) rfl
                                                                exact ih15 (i15 + 1) f1_15 H _ ls (by omega) hf0_15 (Mi.no hv0_15 (by omega) (fun q => c49 q.1)) hP9 hD9 hS (lv_sub hl [0, 1, 2, 3] rfl)
                                                              · skip
                                                                refine lv_aload_n hx hb dX5_markKeywords_40 rfl (lv_at hl 3 rfl) ?_
                                                                refine va_get (D := D) (ci := 9) (v := .ref k3) (C := RX5) (T := TX5) (N := 4) hx hb hts inX5 hown hK hP 0 rfl rfl 2 (by decide) (hts (.fieldLink RX5 18 "EscrowDesk$Scanner" "values" "[J") (by decide +kernel)) (fun _ h9 => h9) rfl dX5_markKeywords_41 ?_
                                                                refine lv_iload hx hb dX5_markKeywords_44 (lv_at hl 0 rfl) ?_
                                                                refine va_lald hx hb hK hP 3 1 rfl rfl (vp_in_nI (n := i15) (N := 701) (show i15 < 701 by omega) (by decide)) dX5_markKeywords_46 ?_
                                                                refine lv_topl (fun yn50 eyn50 => ?_)
                                                                obtain rfl : yn50 = (fv i15) := eyn50.trans (by rw [nI_clamp (by omega)])
                                                                refine lv_lload_n hx hb dX5_markKeywords_47 rfl (lv_at hl 1 rfl) ?_
                                                                refine W.lcmp hx hb dX5_markKeywords_48 ?_
                                                                refine lv_if_ne (tgt := 60) hx hb dX5_markKeywords_49 (by decide) (fun c51 => ?_) (fun c51 => ?_)
                                                                · skip
                                                                  refine lv_iinc (v := (nI (i15 + 1))) (lv' := [(4, .int (nI (i15 + 1))), (2, .long 46892851), (1, .int 22), (0, .ref r1)]) hx hb dX5_markKeywords_60 hl (k := 0) rfl (nI_1 _) (by decide) rfl (fun ls hl => ?_)
                                                                  refine lv_goto (tgt := 20) hx hb dX5_markKeywords_63 (by decide) ?_
                                                                  obtain ⟨hP9, hD9⟩ := PDq.sub (ws' := [(oX5 r1 k1 k2 k3 (nI ct)), (k1, .inl (cA 0, 701, .inl f1_15)), (k2, .inl (cA 0, 701, .inl ft)), (k3, .inl (cA 1, 701, .inr (.inl fv)))]) hP hD [0, 1, 2, 3] (by decide) rfl
                                                                  exact ih15 (i15 + 1) f1_15 H _ ls (by omega) hf0_15 (Mi.nox hv0_15 (by omega) c51 (by decide)) hP9 hD9 hS (lv_sub hl [0, 1, 2, 3] rfl)
                                                                · skip
                                                                  refine lv_aload_n hx hb dX5_markKeywords_52 rfl (lv_at hl 3 rfl) ?_
                                                                  refine va_get (D := D) (ci := 9) (v := .ref k1) (C := RX5) (T := TX5) (N := 4) hx hb hts inX5 hown hK hP 0 rfl rfl 0 (by decide) (hts (.fieldLink RX5 9 "EscrowDesk$Scanner" "kinds" "[I") (by decide +kernel)) (fun _ h9 => h9) rfl dX5_markKeywords_53 ?_
                                                                  refine lv_iload hx hb dX5_markKeywords_56 (lv_at hl 0 rfl) ?_
                                                                  refine lv_iload_n hx hb dX5_markKeywords_58 rfl (lv_at hl 2 rfl) ?_
                                                                  refine va_iast hx hb hK hP hD hS 1 0 rfl rfl (vp_in_nI (n := i15) (N := 701) (show i15 < 701 by omega) (by decide)) dX5_markKeywords_59 (fun H locs hP hD hS => ?_)
                                                                  obtain ⟨hP, hD⟩ : PDq D A [(oX5 r1 k1 k2 k3 (nI ct)), (k1, .inl (cA 0, 701, .inl (upd f1_15 (((nI i15)).toNatClampNeg) 22))), (k2, .inl (cA 0, 701, .inl ft)), (k3, .inl (cA 1, 701, .inr (.inl fv)))] H := ⟨hP, hD⟩
                                                                  have hn53 : Upp i15 22 f1_15 (upd f1_15 (((nI i15)).toNatClampNeg) 22) := Upp.of (by omega)
                                                                  have hn54 : Rdd (upd f1_15 (((nI i15)).toNatClampNeg) 22) := rfl
                                                                  generalize (upd f1_15 (((nI i15)).toNatClampNeg) 22) = fn52 at hP hD hn53 hn54
                                                                  obtain ⟨hP, hD⟩ : PDq D A [(oX5 r1 k1 k2 k3 (nI ct)), (k1, .inl (cA 0, 701, .inl fn52)), (k2, .inl (cA 0, 701, .inl ft)), (k3, .inl (cA 1, 701, .inr (.inl fv)))] H := ⟨hP, hD⟩
                                                                  refine lv_iinc (v := (nI (i15 + 1))) (lv' := [(4, .int (nI (i15 + 1))), (2, .long 46892851), (1, .int 22), (0, .ref r1)]) hx hb dX5_markKeywords_60 hl (k := 0) rfl (nI_1 _) (by decide) rfl (fun ls hl => ?_)
                                                                  refine lv_goto (tgt := 20) hx hb dX5_markKeywords_63 (by decide) ?_
                                                                  obtain ⟨hP9, hD9⟩ := PDq.sub (ws' := [(oX5 r1 k1 k2 k3 (nI ct)), (k1, .inl (cA 0, 701, .inl fn52)), (k2, .inl (cA 0, 701, .inl ft)), (k3, .inl (cA 1, 701, .inr (.inl fv)))]) hP hD [0, 1, 2, 3] (by decide) rfl
                                                                  exact ih15 (i15 + 1) fn52 H _ ls (by omega) hn54 (Mi.yesx hv0_15 (by omega) c49 c51 (by decide) (by decide) hn53) hP9 hD9 hS (lv_sub hl [0, 1, 2, 3] rfl)
                                                          obtain ⟨hP9, hD9⟩ := PDq.sub (ws' := [(oX5 r1 k1 k2 k3 (nI ct)), (k1, .inl (cA 0, 701, .inl f1_14)), (k2, .inl (cA 0, 701, .inl ft)), (k3, .inl (cA 1, 701, .inr (.inl fv)))]) hP hD [0, 1, 2, 3] (by decide) rfl
                                                          exact loop15 (ct - 0) 0 f1_14 _ _ ls (by omega) hf0_14 (Mk.mi (Mi.mk hv0_14)) hP9 hD9 hS (lv_sub hl [0, 1, 2, 3] rfl)
                                                        | succ n14 ih14 =>
                                                          intro i14 f1_14 H locs ls hi14 hf0_14 hv0_14 hP hD hS hl
                                                          refine lv_iload hx hb dX5_markKeywords_20 (lv_at hl 0 rfl) ?_
                                                          refine lv_aload_n hx hb dX5_markKeywords_22 rfl (lv_at hl 3 rfl) ?_
                                                          refine va_get (D := D) (ci := 9) (v := .int (nI ct)) (C := RX5) (T := TX5) (N := 4) hx hb hts inX5 hown hK hP 0 rfl rfl 3 (by decide) (hts (.fieldLink RX5 22 "EscrowDesk$Scanner" "count" "I") (by decide +kernel)) (fun _ h9 => h9) rfl dX5_markKeywords_23 ?_
                                                          refine lv_icmp_ge (tgt := 66) hx hb dX5_markKeywords_26 (by decide) (fun c9 => absurd c9 (nI_ge (a := i14) (b := ct) (show i14 < ct by omega) (by omega))) (fun c55 => ?_)
                                                          refine lv_aload_n hx hb dX5_markKeywords_29 rfl (lv_at hl 3 rfl) ?_
                                                          refine va_get (D := D) (ci := 9) (v := .ref k1) (C := RX5) (T := TX5) (N := 4) hx hb hts inX5 hown hK hP 0 rfl rfl 0 (by decide) (hts (.fieldLink RX5 9 "EscrowDesk$Scanner" "kinds" "[I") (by decide +kernel)) (fun _ h9 => h9) rfl dX5_markKeywords_30 ?_
                                                          refine lv_iload hx hb dX5_markKeywords_33 (lv_at hl 0 rfl) ?_
                                                          refine va_iald hx hb hK hP 1 0 rfl rfl (vp_in_nI (n := i14) (N := 701) (show i14 < 701 by omega) (by decide)) dX5_markKeywords_35 ?_
                                                          refine lv_topi (fun yn56 eyn56 => ?_)
                                                          obtain rfl : yn56 = (f1_14 i14) := eyn56.trans (by rw [nI_clamp (by omega)])
                                                          refine lv_iconst (v := 4) hx hb dX5_markKeywords_36 (by decide) ?_
                                                          refine lv_icmp_ne (tgt := 60) hx hb dX5_markKeywords_37 (by decide) (fun c57 => ?_) (fun c57 => ?_)
                                                          · skip
                                                            refine lv_iinc (v := (nI (i14 + 1))) (lv' := [(4, .int (nI (i14 + 1))), (2, .long 52095867044), (1, .int 21), (0, .ref r1)]) hx hb dX5_markKeywords_60 hl (k := 0) rfl (nI_1 _) (by decide) rfl (fun ls hl => ?_)
                                                            refine lv_goto (tgt := 20) hx hb dX5_markKeywords_63 (by decide) ?_
                                                            obtain ⟨hP9, hD9⟩ := PDq.sub (ws' := [(oX5 r1 k1 k2 k3 (nI ct)), (k1, .inl (cA 0, 701, .inl f1_14)), (k2, .inl (cA 0, 701, .inl ft)), (k3, .inl (cA 1, 701, .inr (.inl fv)))]) hP hD [0, 1, 2, 3] (by decide) rfl
                                                            exact ih14 (i14 + 1) f1_14 H _ ls (by omega) hf0_14 (Mi.no hv0_14 (by omega) (fun q => c57 q.1)) hP9 hD9 hS (lv_sub hl [0, 1, 2, 3] rfl)
                                                          · skip
                                                            refine lv_aload_n hx hb dX5_markKeywords_40 rfl (lv_at hl 3 rfl) ?_
                                                            refine va_get (D := D) (ci := 9) (v := .ref k3) (C := RX5) (T := TX5) (N := 4) hx hb hts inX5 hown hK hP 0 rfl rfl 2 (by decide) (hts (.fieldLink RX5 18 "EscrowDesk$Scanner" "values" "[J") (by decide +kernel)) (fun _ h9 => h9) rfl dX5_markKeywords_41 ?_
                                                            refine lv_iload hx hb dX5_markKeywords_44 (lv_at hl 0 rfl) ?_
                                                            refine va_lald hx hb hK hP 3 1 rfl rfl (vp_in_nI (n := i14) (N := 701) (show i14 < 701 by omega) (by decide)) dX5_markKeywords_46 ?_
                                                            refine lv_topl (fun yn58 eyn58 => ?_)
                                                            obtain rfl : yn58 = (fv i14) := eyn58.trans (by rw [nI_clamp (by omega)])
                                                            refine lv_lload_n hx hb dX5_markKeywords_47 rfl (lv_at hl 1 rfl) ?_
                                                            refine W.lcmp hx hb dX5_markKeywords_48 ?_
                                                            refine lv_if_ne (tgt := 60) hx hb dX5_markKeywords_49 (by decide) (fun c59 => ?_) (fun c59 => ?_)
                                                            · skip
                                                              refine lv_iinc (v := (nI (i14 + 1))) (lv' := [(4, .int (nI (i14 + 1))), (2, .long 52095867044), (1, .int 21), (0, .ref r1)]) hx hb dX5_markKeywords_60 hl (k := 0) rfl (nI_1 _) (by decide) rfl (fun ls hl => ?_)
                                                              refine lv_goto (tgt := 20) hx hb dX5_markKeywords_63 (by decide) ?_
                                                              obtain ⟨hP9, hD9⟩ := PDq.sub (ws' := [(oX5 r1 k1 k2 k3 (nI ct)), (k1, .inl (cA 0, 701, .inl f1_14)), (k2, .inl (cA 0, 701, .inl ft)), (k3, .inl (cA 1, 701, .inr (.inl fv)))]) hP hD [0, 1, 2, 3] (by decide) rfl
                                                              exact ih14 (i14 + 1) f1_14 H _ ls (by omega) hf0_14 (Mi.nox hv0_14 (by omega) c59 (by decide)) hP9 hD9 hS (lv_sub hl [0, 1, 2, 3] rfl)
                                                            · skip
                                                              refine lv_aload_n hx hb dX5_markKeywords_52 rfl (lv_at hl 3 rfl) ?_
                                                              refine va_get (D := D) (ci := 9) (v := .ref k1) (C := RX5) (T := TX5) (N := 4) hx hb hts inX5 hown hK hP 0 rfl rfl 0 (by decide) (hts (.fieldLink RX5 9 "EscrowDesk$Scanner" "kinds" "[I") (by decide +kernel)) (fun _ h9 => h9) rfl dX5_markKeywords_53 ?_
                                                              refine lv_iload hx hb dX5_markKeywords_56 (lv_at hl 0 rfl) ?_
                                                              refine lv_iload_n hx hb dX5_markKeywords_58 rfl (lv_at hl 2 rfl) ?_
                                                              refine va_iast hx hb hK hP hD hS 1 0 rfl rfl (vp_in_nI (n := i14) (N := 701) (show i14 < 701 by omega) (by decide)) dX5_markKeywords_59 (fun H locs hP hD hS => ?_)
                                                              obtain ⟨hP, hD⟩ : PDq D A [(oX5 r1 k1 k2 k3 (nI ct)), (k1, .inl (cA 0, 701, .inl (upd f1_14 (((nI i14)).toNatClampNeg) 21))), (k2, .inl (cA 0, 701, .inl ft)), (k3, .inl (cA 1, 701, .inr (.inl fv)))] H := ⟨hP, hD⟩
                                                              have hn61 : Upp i14 21 f1_14 (upd f1_14 (((nI i14)).toNatClampNeg) 21) := Upp.of (by omega)
                                                              have hn62 : Rdd (upd f1_14 (((nI i14)).toNatClampNeg) 21) := rfl
                                                              generalize (upd f1_14 (((nI i14)).toNatClampNeg) 21) = fn60 at hP hD hn61 hn62
                                                              obtain ⟨hP, hD⟩ : PDq D A [(oX5 r1 k1 k2 k3 (nI ct)), (k1, .inl (cA 0, 701, .inl fn60)), (k2, .inl (cA 0, 701, .inl ft)), (k3, .inl (cA 1, 701, .inr (.inl fv)))] H := ⟨hP, hD⟩
                                                              refine lv_iinc (v := (nI (i14 + 1))) (lv' := [(4, .int (nI (i14 + 1))), (2, .long 52095867044), (1, .int 21), (0, .ref r1)]) hx hb dX5_markKeywords_60 hl (k := 0) rfl (nI_1 _) (by decide) rfl (fun ls hl => ?_)
                                                              refine lv_goto (tgt := 20) hx hb dX5_markKeywords_63 (by decide) ?_
                                                              obtain ⟨hP9, hD9⟩ := PDq.sub (ws' := [(oX5 r1 k1 k2 k3 (nI ct)), (k1, .inl (cA 0, 701, .inl fn60)), (k2, .inl (cA 0, 701, .inl ft)), (k3, .inl (cA 1, 701, .inr (.inl fv)))]) hP hD [0, 1, 2, 3] (by decide) rfl
                                                              exact ih14 (i14 + 1) fn60 H _ ls (by omega) hn62 (Mi.yesx hv0_14 (by omega) c57 c59 (by decide) (by decide) hn61) hP9 hD9 hS (lv_sub hl [0, 1, 2, 3] rfl)
                                                      obtain ⟨hP9, hD9⟩ := PDq.sub (ws' := [(oX5 r1 k1 k2 k3 (nI ct)), (k1, .inl (cA 0, 701, .inl f1_13)), (k2, .inl (cA 0, 701, .inl ft)), (k3, .inl (cA 1, 701, .inr (.inl fv)))]) hP hD [0, 1, 2, 3] (by decide) rfl
                                                      exact loop14 (ct - 0) 0 f1_13 _ _ ls (by omega) hf0_13 (Mk.mi (Mi.mk hv0_13)) hP9 hD9 hS (lv_sub hl [0, 1, 2, 3] rfl)
                                                    | succ n13 ih13 =>
                                                      intro i13 f1_13 H locs ls hi13 hf0_13 hv0_13 hP hD hS hl
                                                      refine lv_iload hx hb dX5_markKeywords_20 (lv_at hl 0 rfl) ?_
                                                      refine lv_aload_n hx hb dX5_markKeywords_22 rfl (lv_at hl 3 rfl) ?_
                                                      refine va_get (D := D) (ci := 9) (v := .int (nI ct)) (C := RX5) (T := TX5) (N := 4) hx hb hts inX5 hown hK hP 0 rfl rfl 3 (by decide) (hts (.fieldLink RX5 22 "EscrowDesk$Scanner" "count" "I") (by decide +kernel)) (fun _ h9 => h9) rfl dX5_markKeywords_23 ?_
                                                      refine lv_icmp_ge (tgt := 66) hx hb dX5_markKeywords_26 (by decide) (fun c9 => absurd c9 (nI_ge (a := i13) (b := ct) (show i13 < ct by omega) (by omega))) (fun c63 => ?_)
                                                      refine lv_aload_n hx hb dX5_markKeywords_29 rfl (lv_at hl 3 rfl) ?_
                                                      refine va_get (D := D) (ci := 9) (v := .ref k1) (C := RX5) (T := TX5) (N := 4) hx hb hts inX5 hown hK hP 0 rfl rfl 0 (by decide) (hts (.fieldLink RX5 9 "EscrowDesk$Scanner" "kinds" "[I") (by decide +kernel)) (fun _ h9 => h9) rfl dX5_markKeywords_30 ?_
                                                      refine lv_iload hx hb dX5_markKeywords_33 (lv_at hl 0 rfl) ?_
                                                      refine va_iald hx hb hK hP 1 0 rfl rfl (vp_in_nI (n := i13) (N := 701) (show i13 < 701 by omega) (by decide)) dX5_markKeywords_35 ?_
                                                      refine lv_topi (fun yn64 eyn64 => ?_)
                                                      obtain rfl : yn64 = (f1_13 i13) := eyn64.trans (by rw [nI_clamp (by omega)])
                                                      refine lv_iconst (v := 4) hx hb dX5_markKeywords_36 (by decide) ?_
                                                      refine lv_icmp_ne (tgt := 60) hx hb dX5_markKeywords_37 (by decide) (fun c65 => ?_) (fun c65 => ?_)
                                                      · skip
                                                        refine lv_iinc (v := (nI (i13 + 1))) (lv' := [(4, .int (nI (i13 + 1))), (2, .long 20141), (1, .int 20), (0, .ref r1)]) hx hb dX5_markKeywords_60 hl (k := 0) rfl (nI_1 _) (by decide) rfl (fun ls hl => ?_)
                                                        refine lv_goto (tgt := 20) hx hb dX5_markKeywords_63 (by decide) ?_
                                                        obtain ⟨hP9, hD9⟩ := PDq.sub (ws' := [(oX5 r1 k1 k2 k3 (nI ct)), (k1, .inl (cA 0, 701, .inl f1_13)), (k2, .inl (cA 0, 701, .inl ft)), (k3, .inl (cA 1, 701, .inr (.inl fv)))]) hP hD [0, 1, 2, 3] (by decide) rfl
                                                        exact ih13 (i13 + 1) f1_13 H _ ls (by omega) hf0_13 (Mi.no hv0_13 (by omega) (fun q => c65 q.1)) hP9 hD9 hS (lv_sub hl [0, 1, 2, 3] rfl)
                                                      · skip
                                                        refine lv_aload_n hx hb dX5_markKeywords_40 rfl (lv_at hl 3 rfl) ?_
                                                        refine va_get (D := D) (ci := 9) (v := .ref k3) (C := RX5) (T := TX5) (N := 4) hx hb hts inX5 hown hK hP 0 rfl rfl 2 (by decide) (hts (.fieldLink RX5 18 "EscrowDesk$Scanner" "values" "[J") (by decide +kernel)) (fun _ h9 => h9) rfl dX5_markKeywords_41 ?_
                                                        refine lv_iload hx hb dX5_markKeywords_44 (lv_at hl 0 rfl) ?_
                                                        refine va_lald hx hb hK hP 3 1 rfl rfl (vp_in_nI (n := i13) (N := 701) (show i13 < 701 by omega) (by decide)) dX5_markKeywords_46 ?_
                                                        refine lv_topl (fun yn66 eyn66 => ?_)
                                                        obtain rfl : yn66 = (fv i13) := eyn66.trans (by rw [nI_clamp (by omega)])
                                                        refine lv_lload_n hx hb dX5_markKeywords_47 rfl (lv_at hl 1 rfl) ?_
                                                        refine W.lcmp hx hb dX5_markKeywords_48 ?_
                                                        refine lv_if_ne (tgt := 60) hx hb dX5_markKeywords_49 (by decide) (fun c67 => ?_) (fun c67 => ?_)
                                                        · skip
                                                          refine lv_iinc (v := (nI (i13 + 1))) (lv' := [(4, .int (nI (i13 + 1))), (2, .long 20141), (1, .int 20), (0, .ref r1)]) hx hb dX5_markKeywords_60 hl (k := 0) rfl (nI_1 _) (by decide) rfl (fun ls hl => ?_)
                                                          refine lv_goto (tgt := 20) hx hb dX5_markKeywords_63 (by decide) ?_
                                                          obtain ⟨hP9, hD9⟩ := PDq.sub (ws' := [(oX5 r1 k1 k2 k3 (nI ct)), (k1, .inl (cA 0, 701, .inl f1_13)), (k2, .inl (cA 0, 701, .inl ft)), (k3, .inl (cA 1, 701, .inr (.inl fv)))]) hP hD [0, 1, 2, 3] (by decide) rfl
                                                          exact ih13 (i13 + 1) f1_13 H _ ls (by omega) hf0_13 (Mi.nox hv0_13 (by omega) c67 (by decide)) hP9 hD9 hS (lv_sub hl [0, 1, 2, 3] rfl)
                                                        · skip
                                                          refine lv_aload_n hx hb dX5_markKeywords_52 rfl (lv_at hl 3 rfl) ?_
                                                          refine va_get (D := D) (ci := 9) (v := .ref k1) (C := RX5) (T := TX5) (N := 4) hx hb hts inX5 hown hK hP 0 rfl rfl 0 (by decide) (hts (.fieldLink RX5 9 "EscrowDesk$Scanner" "kinds" "[I") (by decide +kernel)) (fun _ h9 => h9) rfl dX5_markKeywords_53 ?_
                                                          refine lv_iload hx hb dX5_markKeywords_56 (lv_at hl 0 rfl) ?_
                                                          refine lv_iload_n hx hb dX5_markKeywords_58 rfl (lv_at hl 2 rfl) ?_
                                                          refine va_iast hx hb hK hP hD hS 1 0 rfl rfl (vp_in_nI (n := i13) (N := 701) (show i13 < 701 by omega) (by decide)) dX5_markKeywords_59 (fun H locs hP hD hS => ?_)
                                                          obtain ⟨hP, hD⟩ : PDq D A [(oX5 r1 k1 k2 k3 (nI ct)), (k1, .inl (cA 0, 701, .inl (upd f1_13 (((nI i13)).toNatClampNeg) 20))), (k2, .inl (cA 0, 701, .inl ft)), (k3, .inl (cA 1, 701, .inr (.inl fv)))] H := ⟨hP, hD⟩
                                                          have hn69 : Upp i13 20 f1_13 (upd f1_13 (((nI i13)).toNatClampNeg) 20) := Upp.of (by omega)
                                                          have hn70 : Rdd (upd f1_13 (((nI i13)).toNatClampNeg) 20) := rfl
                                                          generalize (upd f1_13 (((nI i13)).toNatClampNeg) 20) = fn68 at hP hD hn69 hn70
                                                          obtain ⟨hP, hD⟩ : PDq D A [(oX5 r1 k1 k2 k3 (nI ct)), (k1, .inl (cA 0, 701, .inl fn68)), (k2, .inl (cA 0, 701, .inl ft)), (k3, .inl (cA 1, 701, .inr (.inl fv)))] H := ⟨hP, hD⟩
                                                          refine lv_iinc (v := (nI (i13 + 1))) (lv' := [(4, .int (nI (i13 + 1))), (2, .long 20141), (1, .int 20), (0, .ref r1)]) hx hb dX5_markKeywords_60 hl (k := 0) rfl (nI_1 _) (by decide) rfl (fun ls hl => ?_)
                                                          refine lv_goto (tgt := 20) hx hb dX5_markKeywords_63 (by decide) ?_
                                                          obtain ⟨hP9, hD9⟩ := PDq.sub (ws' := [(oX5 r1 k1 k2 k3 (nI ct)), (k1, .inl (cA 0, 701, .inl fn68)), (k2, .inl (cA 0, 701, .inl ft)), (k3, .inl (cA 1, 701, .inr (.inl fv)))]) hP hD [0, 1, 2, 3] (by decide) rfl
                                                          exact ih13 (i13 + 1) fn68 H _ ls (by omega) hn70 (Mi.yesx hv0_13 (by omega) c65 c67 (by decide) (by decide) hn69) hP9 hD9 hS (lv_sub hl [0, 1, 2, 3] rfl)
                                                  obtain ⟨hP9, hD9⟩ := PDq.sub (ws' := [(oX5 r1 k1 k2 k3 (nI ct)), (k1, .inl (cA 0, 701, .inl f1_12)), (k2, .inl (cA 0, 701, .inl ft)), (k3, .inl (cA 1, 701, .inr (.inl fv)))]) hP hD [0, 1, 2, 3] (by decide) rfl
                                                  exact loop13 (ct - 0) 0 f1_12 _ _ ls (by omega) hf0_12 (Mk.mi (Mi.mk hv0_12)) hP9 hD9 hS (lv_sub hl [0, 1, 2, 3] rfl)
                                                | succ n12 ih12 =>
                                                  intro i12 f1_12 H locs ls hi12 hf0_12 hv0_12 hP hD hS hl
                                                  refine lv_iload hx hb dX5_markKeywords_20 (lv_at hl 0 rfl) ?_
                                                  refine lv_aload_n hx hb dX5_markKeywords_22 rfl (lv_at hl 3 rfl) ?_
                                                  refine va_get (D := D) (ci := 9) (v := .int (nI ct)) (C := RX5) (T := TX5) (N := 4) hx hb hts inX5 hown hK hP 0 rfl rfl 3 (by decide) (hts (.fieldLink RX5 22 "EscrowDesk$Scanner" "count" "I") (by decide +kernel)) (fun _ h9 => h9) rfl dX5_markKeywords_23 ?_
                                                  refine lv_icmp_ge (tgt := 66) hx hb dX5_markKeywords_26 (by decide) (fun c9 => absurd c9 (nI_ge (a := i12) (b := ct) (show i12 < ct by omega) (by omega))) (fun c71 => ?_)
                                                  refine lv_aload_n hx hb dX5_markKeywords_29 rfl (lv_at hl 3 rfl) ?_
                                                  refine va_get (D := D) (ci := 9) (v := .ref k1) (C := RX5) (T := TX5) (N := 4) hx hb hts inX5 hown hK hP 0 rfl rfl 0 (by decide) (hts (.fieldLink RX5 9 "EscrowDesk$Scanner" "kinds" "[I") (by decide +kernel)) (fun _ h9 => h9) rfl dX5_markKeywords_30 ?_
                                                  refine lv_iload hx hb dX5_markKeywords_33 (lv_at hl 0 rfl) ?_
                                                  refine va_iald hx hb hK hP 1 0 rfl rfl (vp_in_nI (n := i12) (N := 701) (show i12 < 701 by omega) (by decide)) dX5_markKeywords_35 ?_
                                                  refine lv_topi (fun yn72 eyn72 => ?_)
                                                  obtain rfl : yn72 = (f1_12 i12) := eyn72.trans (by rw [nI_clamp (by omega)])
                                                  refine lv_iconst (v := 4) hx hb dX5_markKeywords_36 (by decide) ?_
                                                  refine lv_icmp_ne (tgt := 60) hx hb dX5_markKeywords_37 (by decide) (fun c73 => ?_) (fun c73 => ?_)
                                                  · skip
                                                    refine lv_iinc (v := (nI (i12 + 1))) (lv' := [(4, .int (nI (i12 + 1))), (2, .long 146885), (1, .int 19), (0, .ref r1)]) hx hb dX5_markKeywords_60 hl (k := 0) rfl (nI_1 _) (by decide) rfl (fun ls hl => ?_)
                                                    refine lv_goto (tgt := 20) hx hb dX5_markKeywords_63 (by decide) ?_
                                                    obtain ⟨hP9, hD9⟩ := PDq.sub (ws' := [(oX5 r1 k1 k2 k3 (nI ct)), (k1, .inl (cA 0, 701, .inl f1_12)), (k2, .inl (cA 0, 701, .inl ft)), (k3, .inl (cA 1, 701, .inr (.inl fv)))]) hP hD [0, 1, 2, 3] (by decide) rfl
                                                    exact ih12 (i12 + 1) f1_12 H _ ls (by omega) hf0_12 (Mi.no hv0_12 (by omega) (fun q => c73 q.1)) hP9 hD9 hS (lv_sub hl [0, 1, 2, 3] rfl)
                                                  · skip
                                                    refine lv_aload_n hx hb dX5_markKeywords_40 rfl (lv_at hl 3 rfl) ?_
                                                    refine va_get (D := D) (ci := 9) (v := .ref k3) (C := RX5) (T := TX5) (N := 4) hx hb hts inX5 hown hK hP 0 rfl rfl 2 (by decide) (hts (.fieldLink RX5 18 "EscrowDesk$Scanner" "values" "[J") (by decide +kernel)) (fun _ h9 => h9) rfl dX5_markKeywords_41 ?_
                                                    refine lv_iload hx hb dX5_markKeywords_44 (lv_at hl 0 rfl) ?_
                                                    refine va_lald hx hb hK hP 3 1 rfl rfl (vp_in_nI (n := i12) (N := 701) (show i12 < 701 by omega) (by decide)) dX5_markKeywords_46 ?_
                                                    refine lv_topl (fun yn74 eyn74 => ?_)
                                                    obtain rfl : yn74 = (fv i12) := eyn74.trans (by rw [nI_clamp (by omega)])
                                                    refine lv_lload_n hx hb dX5_markKeywords_47 rfl (lv_at hl 1 rfl) ?_
                                                    refine W.lcmp hx hb dX5_markKeywords_48 ?_
                                                    refine lv_if_ne (tgt := 60) hx hb dX5_markKeywords_49 (by decide) (fun c75 => ?_) (fun c75 => ?_)
                                                    · skip
                                                      refine lv_iinc (v := (nI (i12 + 1))) (lv' := [(4, .int (nI (i12 + 1))), (2, .long 146885), (1, .int 19), (0, .ref r1)]) hx hb dX5_markKeywords_60 hl (k := 0) rfl (nI_1 _) (by decide) rfl (fun ls hl => ?_)
                                                      refine lv_goto (tgt := 20) hx hb dX5_markKeywords_63 (by decide) ?_
                                                      obtain ⟨hP9, hD9⟩ := PDq.sub (ws' := [(oX5 r1 k1 k2 k3 (nI ct)), (k1, .inl (cA 0, 701, .inl f1_12)), (k2, .inl (cA 0, 701, .inl ft)), (k3, .inl (cA 1, 701, .inr (.inl fv)))]) hP hD [0, 1, 2, 3] (by decide) rfl
                                                      exact ih12 (i12 + 1) f1_12 H _ ls (by omega) hf0_12 (Mi.nox hv0_12 (by omega) c75 (by decide)) hP9 hD9 hS (lv_sub hl [0, 1, 2, 3] rfl)
                                                    · skip
                                                      refine lv_aload_n hx hb dX5_markKeywords_52 rfl (lv_at hl 3 rfl) ?_
                                                      refine va_get (D := D) (ci := 9) (v := .ref k1) (C := RX5) (T := TX5) (N := 4) hx hb hts inX5 hown hK hP 0 rfl rfl 0 (by decide) (hts (.fieldLink RX5 9 "EscrowDesk$Scanner" "kinds" "[I") (by decide +kernel)) (fun _ h9 => h9) rfl dX5_markKeywords_53 ?_
                                                      refine lv_iload hx hb dX5_markKeywords_56 (lv_at hl 0 rfl) ?_
                                                      refine lv_iload_n hx hb dX5_markKeywords_58 rfl (lv_at hl 2 rfl) ?_
                                                      refine va_iast hx hb hK hP hD hS 1 0 rfl rfl (vp_in_nI (n := i12) (N := 701) (show i12 < 701 by omega) (by decide)) dX5_markKeywords_59 (fun H locs hP hD hS => ?_)
                                                      obtain ⟨hP, hD⟩ : PDq D A [(oX5 r1 k1 k2 k3 (nI ct)), (k1, .inl (cA 0, 701, .inl (upd f1_12 (((nI i12)).toNatClampNeg) 19))), (k2, .inl (cA 0, 701, .inl ft)), (k3, .inl (cA 1, 701, .inr (.inl fv)))] H := ⟨hP, hD⟩
                                                      have hn77 : Upp i12 19 f1_12 (upd f1_12 (((nI i12)).toNatClampNeg) 19) := Upp.of (by omega)
                                                      have hn78 : Rdd (upd f1_12 (((nI i12)).toNatClampNeg) 19) := rfl
                                                      generalize (upd f1_12 (((nI i12)).toNatClampNeg) 19) = fn76 at hP hD hn77 hn78
                                                      obtain ⟨hP, hD⟩ : PDq D A [(oX5 r1 k1 k2 k3 (nI ct)), (k1, .inl (cA 0, 701, .inl fn76)), (k2, .inl (cA 0, 701, .inl ft)), (k3, .inl (cA 1, 701, .inr (.inl fv)))] H := ⟨hP, hD⟩
                                                      refine lv_iinc (v := (nI (i12 + 1))) (lv' := [(4, .int (nI (i12 + 1))), (2, .long 146885), (1, .int 19), (0, .ref r1)]) hx hb dX5_markKeywords_60 hl (k := 0) rfl (nI_1 _) (by decide) rfl (fun ls hl => ?_)
                                                      refine lv_goto (tgt := 20) hx hb dX5_markKeywords_63 (by decide) ?_
                                                      obtain ⟨hP9, hD9⟩ := PDq.sub (ws' := [(oX5 r1 k1 k2 k3 (nI ct)), (k1, .inl (cA 0, 701, .inl fn76)), (k2, .inl (cA 0, 701, .inl ft)), (k3, .inl (cA 1, 701, .inr (.inl fv)))]) hP hD [0, 1, 2, 3] (by decide) rfl
                                                      exact ih12 (i12 + 1) fn76 H _ ls (by omega) hn78 (Mi.yesx hv0_12 (by omega) c73 c75 (by decide) (by decide) hn77) hP9 hD9 hS (lv_sub hl [0, 1, 2, 3] rfl)
                                              obtain ⟨hP9, hD9⟩ := PDq.sub (ws' := [(oX5 r1 k1 k2 k3 (nI ct)), (k1, .inl (cA 0, 701, .inl f1_11)), (k2, .inl (cA 0, 701, .inl ft)), (k3, .inl (cA 1, 701, .inr (.inl fv)))]) hP hD [0, 1, 2, 3] (by decide) rfl
                                              exact loop12 (ct - 0) 0 f1_11 _ _ ls (by omega) hf0_11 (Mk.mi (Mi.mk hv0_11)) hP9 hD9 hS (lv_sub hl [0, 1, 2, 3] rfl)
                                            | succ n11 ih11 =>
                                              intro i11 f1_11 H locs ls hi11 hf0_11 hv0_11 hP hD hS hl
                                              refine lv_iload hx hb dX5_markKeywords_20 (lv_at hl 0 rfl) ?_
                                              refine lv_aload_n hx hb dX5_markKeywords_22 rfl (lv_at hl 3 rfl) ?_
                                              refine va_get (D := D) (ci := 9) (v := .int (nI ct)) (C := RX5) (T := TX5) (N := 4) hx hb hts inX5 hown hK hP 0 rfl rfl 3 (by decide) (hts (.fieldLink RX5 22 "EscrowDesk$Scanner" "count" "I") (by decide +kernel)) (fun _ h9 => h9) rfl dX5_markKeywords_23 ?_
                                              refine lv_icmp_ge (tgt := 66) hx hb dX5_markKeywords_26 (by decide) (fun c9 => absurd c9 (nI_ge (a := i11) (b := ct) (show i11 < ct by omega) (by omega))) (fun c79 => ?_)
                                              refine lv_aload_n hx hb dX5_markKeywords_29 rfl (lv_at hl 3 rfl) ?_
                                              refine va_get (D := D) (ci := 9) (v := .ref k1) (C := RX5) (T := TX5) (N := 4) hx hb hts inX5 hown hK hP 0 rfl rfl 0 (by decide) (hts (.fieldLink RX5 9 "EscrowDesk$Scanner" "kinds" "[I") (by decide +kernel)) (fun _ h9 => h9) rfl dX5_markKeywords_30 ?_
                                              refine lv_iload hx hb dX5_markKeywords_33 (lv_at hl 0 rfl) ?_
                                              refine va_iald hx hb hK hP 1 0 rfl rfl (vp_in_nI (n := i11) (N := 701) (show i11 < 701 by omega) (by decide)) dX5_markKeywords_35 ?_
                                              refine lv_topi (fun yn80 eyn80 => ?_)
                                              obtain rfl : yn80 = (f1_11 i11) := eyn80.trans (by rw [nI_clamp (by omega)])
                                              refine lv_iconst (v := 4) hx hb dX5_markKeywords_36 (by decide) ?_
                                              refine lv_icmp_ne (tgt := 60) hx hb dX5_markKeywords_37 (by decide) (fun c81 => ?_) (fun c81 => ?_)
                                              · skip
                                                refine lv_iinc (v := (nI (i11 + 1))) (lv' := [(4, .int (nI (i11 + 1))), (2, .long 17382886), (1, .int 18), (0, .ref r1)]) hx hb dX5_markKeywords_60 hl (k := 0) rfl (nI_1 _) (by decide) rfl (fun ls hl => ?_)
                                                refine lv_goto (tgt := 20) hx hb dX5_markKeywords_63 (by decide) ?_
                                                obtain ⟨hP9, hD9⟩ := PDq.sub (ws' := [(oX5 r1 k1 k2 k3 (nI ct)), (k1, .inl (cA 0, 701, .inl f1_11)), (k2, .inl (cA 0, 701, .inl ft)), (k3, .inl (cA 1, 701, .inr (.inl fv)))]) hP hD [0, 1, 2, 3] (by decide) rfl
                                                exact ih11 (i11 + 1) f1_11 H _ ls (by omega) hf0_11 (Mi.no hv0_11 (by omega) (fun q => c81 q.1)) hP9 hD9 hS (lv_sub hl [0, 1, 2, 3] rfl)
                                              · skip
                                                refine lv_aload_n hx hb dX5_markKeywords_40 rfl (lv_at hl 3 rfl) ?_
                                                refine va_get (D := D) (ci := 9) (v := .ref k3) (C := RX5) (T := TX5) (N := 4) hx hb hts inX5 hown hK hP 0 rfl rfl 2 (by decide) (hts (.fieldLink RX5 18 "EscrowDesk$Scanner" "values" "[J") (by decide +kernel)) (fun _ h9 => h9) rfl dX5_markKeywords_41 ?_
                                                refine lv_iload hx hb dX5_markKeywords_44 (lv_at hl 0 rfl) ?_
                                                refine va_lald hx hb hK hP 3 1 rfl rfl (vp_in_nI (n := i11) (N := 701) (show i11 < 701 by omega) (by decide)) dX5_markKeywords_46 ?_
                                                refine lv_topl (fun yn82 eyn82 => ?_)
                                                obtain rfl : yn82 = (fv i11) := eyn82.trans (by rw [nI_clamp (by omega)])
                                                refine lv_lload_n hx hb dX5_markKeywords_47 rfl (lv_at hl 1 rfl) ?_
                                                refine W.lcmp hx hb dX5_markKeywords_48 ?_
                                                refine lv_if_ne (tgt := 60) hx hb dX5_markKeywords_49 (by decide) (fun c83 => ?_) (fun c83 => ?_)
                                                · skip
                                                  refine lv_iinc (v := (nI (i11 + 1))) (lv' := [(4, .int (nI (i11 + 1))), (2, .long 17382886), (1, .int 18), (0, .ref r1)]) hx hb dX5_markKeywords_60 hl (k := 0) rfl (nI_1 _) (by decide) rfl (fun ls hl => ?_)
                                                  refine lv_goto (tgt := 20) hx hb dX5_markKeywords_63 (by decide) ?_
                                                  obtain ⟨hP9, hD9⟩ := PDq.sub (ws' := [(oX5 r1 k1 k2 k3 (nI ct)), (k1, .inl (cA 0, 701, .inl f1_11)), (k2, .inl (cA 0, 701, .inl ft)), (k3, .inl (cA 1, 701, .inr (.inl fv)))]) hP hD [0, 1, 2, 3] (by decide) rfl
                                                  exact ih11 (i11 + 1) f1_11 H _ ls (by omega) hf0_11 (Mi.nox hv0_11 (by omega) c83 (by decide)) hP9 hD9 hS (lv_sub hl [0, 1, 2, 3] rfl)
                                                · skip
                                                  refine lv_aload_n hx hb dX5_markKeywords_52 rfl (lv_at hl 3 rfl) ?_
                                                  refine va_get (D := D) (ci := 9) (v := .ref k1) (C := RX5) (T := TX5) (N := 4) hx hb hts inX5 hown hK hP 0 rfl rfl 0 (by decide) (hts (.fieldLink RX5 9 "EscrowDesk$Scanner" "kinds" "[I") (by decide +kernel)) (fun _ h9 => h9) rfl dX5_markKeywords_53 ?_
                                                  refine lv_iload hx hb dX5_markKeywords_56 (lv_at hl 0 rfl) ?_
                                                  refine lv_iload_n hx hb dX5_markKeywords_58 rfl (lv_at hl 2 rfl) ?_
                                                  refine va_iast hx hb hK hP hD hS 1 0 rfl rfl (vp_in_nI (n := i11) (N := 701) (show i11 < 701 by omega) (by decide)) dX5_markKeywords_59 (fun H locs hP hD hS => ?_)
                                                  obtain ⟨hP, hD⟩ : PDq D A [(oX5 r1 k1 k2 k3 (nI ct)), (k1, .inl (cA 0, 701, .inl (upd f1_11 (((nI i11)).toNatClampNeg) 18))), (k2, .inl (cA 0, 701, .inl ft)), (k3, .inl (cA 1, 701, .inr (.inl fv)))] H := ⟨hP, hD⟩
                                                  have hn85 : Upp i11 18 f1_11 (upd f1_11 (((nI i11)).toNatClampNeg) 18) := Upp.of (by omega)
                                                  have hn86 : Rdd (upd f1_11 (((nI i11)).toNatClampNeg) 18) := rfl
                                                  generalize (upd f1_11 (((nI i11)).toNatClampNeg) 18) = fn84 at hP hD hn85 hn86
                                                  obtain ⟨hP, hD⟩ : PDq D A [(oX5 r1 k1 k2 k3 (nI ct)), (k1, .inl (cA 0, 701, .inl fn84)), (k2, .inl (cA 0, 701, .inl ft)), (k3, .inl (cA 1, 701, .inr (.inl fv)))] H := ⟨hP, hD⟩
                                                  refine lv_iinc (v := (nI (i11 + 1))) (lv' := [(4, .int (nI (i11 + 1))), (2, .long 17382886), (1, .int 18), (0, .ref r1)]) hx hb dX5_markKeywords_60 hl (k := 0) rfl (nI_1 _) (by decide) rfl (fun ls hl => ?_)
                                                  refine lv_goto (tgt := 20) hx hb dX5_markKeywords_63 (by decide) ?_
                                                  obtain ⟨hP9, hD9⟩ := PDq.sub (ws' := [(oX5 r1 k1 k2 k3 (nI ct)), (k1, .inl (cA 0, 701, .inl fn84)), (k2, .inl (cA 0, 701, .inl ft)), (k3, .inl (cA 1, 701, .inr (.inl fv)))]) hP hD [0, 1, 2, 3] (by decide) rfl
                                                  exact ih11 (i11 + 1) fn84 H _ ls (by omega) hn86 (Mi.yesx hv0_11 (by omega) c81 c83 (by decide) (by decide) hn85) hP9 hD9 hS (lv_sub hl [0, 1, 2, 3] rfl)
                                          obtain ⟨hP9, hD9⟩ := PDq.sub (ws' := [(oX5 r1 k1 k2 k3 (nI ct)), (k1, .inl (cA 0, 701, .inl f1_10)), (k2, .inl (cA 0, 701, .inl ft)), (k3, .inl (cA 1, 701, .inr (.inl fv)))]) hP hD [0, 1, 2, 3] (by decide) rfl
                                          exact loop11 (ct - 0) 0 f1_10 _ _ ls (by omega) hf0_10 (Mk.mi (Mi.mk hv0_10)) hP9 hD9 hS (lv_sub hl [0, 1, 2, 3] rfl)
                                        | succ n10 ih10 =>
                                          intro i10 f1_10 H locs ls hi10 hf0_10 hv0_10 hP hD hS hl
                                          refine lv_iload hx hb dX5_markKeywords_20 (lv_at hl 0 rfl) ?_
                                          refine lv_aload_n hx hb dX5_markKeywords_22 rfl (lv_at hl 3 rfl) ?_
                                          refine va_get (D := D) (ci := 9) (v := .int (nI ct)) (C := RX5) (T := TX5) (N := 4) hx hb hts inX5 hown hK hP 0 rfl rfl 3 (by decide) (hts (.fieldLink RX5 22 "EscrowDesk$Scanner" "count" "I") (by decide +kernel)) (fun _ h9 => h9) rfl dX5_markKeywords_23 ?_
                                          refine lv_icmp_ge (tgt := 66) hx hb dX5_markKeywords_26 (by decide) (fun c9 => absurd c9 (nI_ge (a := i10) (b := ct) (show i10 < ct by omega) (by omega))) (fun c87 => ?_)
                                          refine lv_aload_n hx hb dX5_markKeywords_29 rfl (lv_at hl 3 rfl) ?_
                                          refine va_get (D := D) (ci := 9) (v := .ref k1) (C := RX5) (T := TX5) (N := 4) hx hb hts inX5 hown hK hP 0 rfl rfl 0 (by decide) (hts (.fieldLink RX5 9 "EscrowDesk$Scanner" "kinds" "[I") (by decide +kernel)) (fun _ h9 => h9) rfl dX5_markKeywords_30 ?_
                                          refine lv_iload hx hb dX5_markKeywords_33 (lv_at hl 0 rfl) ?_
                                          refine va_iald hx hb hK hP 1 0 rfl rfl (vp_in_nI (n := i10) (N := 701) (show i10 < 701 by omega) (by decide)) dX5_markKeywords_35 ?_
                                          refine lv_topi (fun yn88 eyn88 => ?_)
                                          obtain rfl : yn88 = (f1_10 i10) := eyn88.trans (by rw [nI_clamp (by omega)])
                                          refine lv_iconst (v := 4) hx hb dX5_markKeywords_36 (by decide) ?_
                                          refine lv_icmp_ne (tgt := 60) hx hb dX5_markKeywords_37 (by decide) (fun c89 => ?_) (fun c89 => ?_)
                                          · skip
                                            refine lv_iinc (v := (nI (i10 + 1))) (lv' := [(4, .int (nI (i10 + 1))), (2, .long 4153), (1, .int 17), (0, .ref r1)]) hx hb dX5_markKeywords_60 hl (k := 0) rfl (nI_1 _) (by decide) rfl (fun ls hl => ?_)
                                            refine lv_goto (tgt := 20) hx hb dX5_markKeywords_63 (by decide) ?_
                                            obtain ⟨hP9, hD9⟩ := PDq.sub (ws' := [(oX5 r1 k1 k2 k3 (nI ct)), (k1, .inl (cA 0, 701, .inl f1_10)), (k2, .inl (cA 0, 701, .inl ft)), (k3, .inl (cA 1, 701, .inr (.inl fv)))]) hP hD [0, 1, 2, 3] (by decide) rfl
                                            exact ih10 (i10 + 1) f1_10 H _ ls (by omega) hf0_10 (Mi.no hv0_10 (by omega) (fun q => c89 q.1)) hP9 hD9 hS (lv_sub hl [0, 1, 2, 3] rfl)
                                          · skip
                                            refine lv_aload_n hx hb dX5_markKeywords_40 rfl (lv_at hl 3 rfl) ?_
                                            refine va_get (D := D) (ci := 9) (v := .ref k3) (C := RX5) (T := TX5) (N := 4) hx hb hts inX5 hown hK hP 0 rfl rfl 2 (by decide) (hts (.fieldLink RX5 18 "EscrowDesk$Scanner" "values" "[J") (by decide +kernel)) (fun _ h9 => h9) rfl dX5_markKeywords_41 ?_
                                            refine lv_iload hx hb dX5_markKeywords_44 (lv_at hl 0 rfl) ?_
                                            refine va_lald hx hb hK hP 3 1 rfl rfl (vp_in_nI (n := i10) (N := 701) (show i10 < 701 by omega) (by decide)) dX5_markKeywords_46 ?_
                                            refine lv_topl (fun yn90 eyn90 => ?_)
                                            obtain rfl : yn90 = (fv i10) := eyn90.trans (by rw [nI_clamp (by omega)])
                                            refine lv_lload_n hx hb dX5_markKeywords_47 rfl (lv_at hl 1 rfl) ?_
                                            refine W.lcmp hx hb dX5_markKeywords_48 ?_
                                            refine lv_if_ne (tgt := 60) hx hb dX5_markKeywords_49 (by decide) (fun c91 => ?_) (fun c91 => ?_)
                                            · skip
                                              refine lv_iinc (v := (nI (i10 + 1))) (lv' := [(4, .int (nI (i10 + 1))), (2, .long 4153), (1, .int 17), (0, .ref r1)]) hx hb dX5_markKeywords_60 hl (k := 0) rfl (nI_1 _) (by decide) rfl (fun ls hl => ?_)
                                              refine lv_goto (tgt := 20) hx hb dX5_markKeywords_63 (by decide) ?_
                                              obtain ⟨hP9, hD9⟩ := PDq.sub (ws' := [(oX5 r1 k1 k2 k3 (nI ct)), (k1, .inl (cA 0, 701, .inl f1_10)), (k2, .inl (cA 0, 701, .inl ft)), (k3, .inl (cA 1, 701, .inr (.inl fv)))]) hP hD [0, 1, 2, 3] (by decide) rfl
                                              exact ih10 (i10 + 1) f1_10 H _ ls (by omega) hf0_10 (Mi.nox hv0_10 (by omega) c91 (by decide)) hP9 hD9 hS (lv_sub hl [0, 1, 2, 3] rfl)
                                            · skip
                                              refine lv_aload_n hx hb dX5_markKeywords_52 rfl (lv_at hl 3 rfl) ?_
                                              refine va_get (D := D) (ci := 9) (v := .ref k1) (C := RX5) (T := TX5) (N := 4) hx hb hts inX5 hown hK hP 0 rfl rfl 0 (by decide) (hts (.fieldLink RX5 9 "EscrowDesk$Scanner" "kinds" "[I") (by decide +kernel)) (fun _ h9 => h9) rfl dX5_markKeywords_53 ?_
                                              refine lv_iload hx hb dX5_markKeywords_56 (lv_at hl 0 rfl) ?_
                                              refine lv_iload_n hx hb dX5_markKeywords_58 rfl (lv_at hl 2 rfl) ?_
                                              refine va_iast hx hb hK hP hD hS 1 0 rfl rfl (vp_in_nI (n := i10) (N := 701) (show i10 < 701 by omega) (by decide)) dX5_markKeywords_59 (fun H locs hP hD hS => ?_)
                                              obtain ⟨hP, hD⟩ : PDq D A [(oX5 r1 k1 k2 k3 (nI ct)), (k1, .inl (cA 0, 701, .inl (upd f1_10 (((nI i10)).toNatClampNeg) 17))), (k2, .inl (cA 0, 701, .inl ft)), (k3, .inl (cA 1, 701, .inr (.inl fv)))] H := ⟨hP, hD⟩
                                              have hn93 : Upp i10 17 f1_10 (upd f1_10 (((nI i10)).toNatClampNeg) 17) := Upp.of (by omega)
                                              have hn94 : Rdd (upd f1_10 (((nI i10)).toNatClampNeg) 17) := rfl
                                              generalize (upd f1_10 (((nI i10)).toNatClampNeg) 17) = fn92 at hP hD hn93 hn94
                                              obtain ⟨hP, hD⟩ : PDq D A [(oX5 r1 k1 k2 k3 (nI ct)), (k1, .inl (cA 0, 701, .inl fn92)), (k2, .inl (cA 0, 701, .inl ft)), (k3, .inl (cA 1, 701, .inr (.inl fv)))] H := ⟨hP, hD⟩
                                              refine lv_iinc (v := (nI (i10 + 1))) (lv' := [(4, .int (nI (i10 + 1))), (2, .long 4153), (1, .int 17), (0, .ref r1)]) hx hb dX5_markKeywords_60 hl (k := 0) rfl (nI_1 _) (by decide) rfl (fun ls hl => ?_)
                                              refine lv_goto (tgt := 20) hx hb dX5_markKeywords_63 (by decide) ?_
                                              obtain ⟨hP9, hD9⟩ := PDq.sub (ws' := [(oX5 r1 k1 k2 k3 (nI ct)), (k1, .inl (cA 0, 701, .inl fn92)), (k2, .inl (cA 0, 701, .inl ft)), (k3, .inl (cA 1, 701, .inr (.inl fv)))]) hP hD [0, 1, 2, 3] (by decide) rfl
                                              exact ih10 (i10 + 1) fn92 H _ ls (by omega) hn94 (Mi.yesx hv0_10 (by omega) c89 c91 (by decide) (by decide) hn93) hP9 hD9 hS (lv_sub hl [0, 1, 2, 3] rfl)
                                      obtain ⟨hP9, hD9⟩ := PDq.sub (ws' := [(oX5 r1 k1 k2 k3 (nI ct)), (k1, .inl (cA 0, 701, .inl f1_9)), (k2, .inl (cA 0, 701, .inl ft)), (k3, .inl (cA 1, 701, .inr (.inl fv)))]) hP hD [0, 1, 2, 3] (by decide) rfl
                                      exact loop10 (ct - 0) 0 f1_9 _ _ ls (by omega) hf0_9 (Mk.mi (Mi.mk hv0_9)) hP9 hD9 hS (lv_sub hl [0, 1, 2, 3] rfl)
                                    | succ n9 ih9 =>
                                      intro i9 f1_9 H locs ls hi9 hf0_9 hv0_9 hP hD hS hl
                                      refine lv_iload hx hb dX5_markKeywords_20 (lv_at hl 0 rfl) ?_
                                      refine lv_aload_n hx hb dX5_markKeywords_22 rfl (lv_at hl 3 rfl) ?_
                                      refine va_get (D := D) (ci := 9) (v := .int (nI ct)) (C := RX5) (T := TX5) (N := 4) hx hb hts inX5 hown hK hP 0 rfl rfl 3 (by decide) (hts (.fieldLink RX5 22 "EscrowDesk$Scanner" "count" "I") (by decide +kernel)) (fun _ h9 => h9) rfl dX5_markKeywords_23 ?_
                                      refine lv_icmp_ge (tgt := 66) hx hb dX5_markKeywords_26 (by decide) (fun c9 => absurd c9 (nI_ge (a := i9) (b := ct) (show i9 < ct by omega) (by omega))) (fun c95 => ?_)
                                      refine lv_aload_n hx hb dX5_markKeywords_29 rfl (lv_at hl 3 rfl) ?_
                                      refine va_get (D := D) (ci := 9) (v := .ref k1) (C := RX5) (T := TX5) (N := 4) hx hb hts inX5 hown hK hP 0 rfl rfl 0 (by decide) (hts (.fieldLink RX5 9 "EscrowDesk$Scanner" "kinds" "[I") (by decide +kernel)) (fun _ h9 => h9) rfl dX5_markKeywords_30 ?_
                                      refine lv_iload hx hb dX5_markKeywords_33 (lv_at hl 0 rfl) ?_
                                      refine va_iald hx hb hK hP 1 0 rfl rfl (vp_in_nI (n := i9) (N := 701) (show i9 < 701 by omega) (by decide)) dX5_markKeywords_35 ?_
                                      refine lv_topi (fun yn96 eyn96 => ?_)
                                      obtain rfl : yn96 = (f1_9 i9) := eyn96.trans (by rw [nI_clamp (by omega)])
                                      refine lv_iconst (v := 4) hx hb dX5_markKeywords_36 (by decide) ?_
                                      refine lv_icmp_ne (tgt := 60) hx hb dX5_markKeywords_37 (by decide) (fun c97 => ?_) (fun c97 => ?_)
                                      · skip
                                        refine lv_iinc (v := (nI (i9 + 1))) (lv' := [(4, .int (nI (i9 + 1))), (2, .long 14836), (1, .int 16), (0, .ref r1)]) hx hb dX5_markKeywords_60 hl (k := 0) rfl (nI_1 _) (by decide) rfl (fun ls hl => ?_)
                                        refine lv_goto (tgt := 20) hx hb dX5_markKeywords_63 (by decide) ?_
                                        obtain ⟨hP9, hD9⟩ := PDq.sub (ws' := [(oX5 r1 k1 k2 k3 (nI ct)), (k1, .inl (cA 0, 701, .inl f1_9)), (k2, .inl (cA 0, 701, .inl ft)), (k3, .inl (cA 1, 701, .inr (.inl fv)))]) hP hD [0, 1, 2, 3] (by decide) rfl
                                        exact ih9 (i9 + 1) f1_9 H _ ls (by omega) hf0_9 (Mi.no hv0_9 (by omega) (fun q => c97 q.1)) hP9 hD9 hS (lv_sub hl [0, 1, 2, 3] rfl)
                                      · skip
                                        refine lv_aload_n hx hb dX5_markKeywords_40 rfl (lv_at hl 3 rfl) ?_
                                        refine va_get (D := D) (ci := 9) (v := .ref k3) (C := RX5) (T := TX5) (N := 4) hx hb hts inX5 hown hK hP 0 rfl rfl 2 (by decide) (hts (.fieldLink RX5 18 "EscrowDesk$Scanner" "values" "[J") (by decide +kernel)) (fun _ h9 => h9) rfl dX5_markKeywords_41 ?_
                                        refine lv_iload hx hb dX5_markKeywords_44 (lv_at hl 0 rfl) ?_
                                        refine va_lald hx hb hK hP 3 1 rfl rfl (vp_in_nI (n := i9) (N := 701) (show i9 < 701 by omega) (by decide)) dX5_markKeywords_46 ?_
                                        refine lv_topl (fun yn98 eyn98 => ?_)
                                        obtain rfl : yn98 = (fv i9) := eyn98.trans (by rw [nI_clamp (by omega)])
                                        refine lv_lload_n hx hb dX5_markKeywords_47 rfl (lv_at hl 1 rfl) ?_
                                        refine W.lcmp hx hb dX5_markKeywords_48 ?_
                                        refine lv_if_ne (tgt := 60) hx hb dX5_markKeywords_49 (by decide) (fun c99 => ?_) (fun c99 => ?_)
                                        · skip
                                          refine lv_iinc (v := (nI (i9 + 1))) (lv' := [(4, .int (nI (i9 + 1))), (2, .long 14836), (1, .int 16), (0, .ref r1)]) hx hb dX5_markKeywords_60 hl (k := 0) rfl (nI_1 _) (by decide) rfl (fun ls hl => ?_)
                                          refine lv_goto (tgt := 20) hx hb dX5_markKeywords_63 (by decide) ?_
                                          obtain ⟨hP9, hD9⟩ := PDq.sub (ws' := [(oX5 r1 k1 k2 k3 (nI ct)), (k1, .inl (cA 0, 701, .inl f1_9)), (k2, .inl (cA 0, 701, .inl ft)), (k3, .inl (cA 1, 701, .inr (.inl fv)))]) hP hD [0, 1, 2, 3] (by decide) rfl
                                          exact ih9 (i9 + 1) f1_9 H _ ls (by omega) hf0_9 (Mi.nox hv0_9 (by omega) c99 (by decide)) hP9 hD9 hS (lv_sub hl [0, 1, 2, 3] rfl)
                                        · skip
                                          refine lv_aload_n hx hb dX5_markKeywords_52 rfl (lv_at hl 3 rfl) ?_
                                          refine va_get (D := D) (ci := 9) (v := .ref k1) (C := RX5) (T := TX5) (N := 4) hx hb hts inX5 hown hK hP 0 rfl rfl 0 (by decide) (hts (.fieldLink RX5 9 "EscrowDesk$Scanner" "kinds" "[I") (by decide +kernel)) (fun _ h9 => h9) rfl dX5_markKeywords_53 ?_
                                          refine lv_iload hx hb dX5_markKeywords_56 (lv_at hl 0 rfl) ?_
                                          refine lv_iload_n hx hb dX5_markKeywords_58 rfl (lv_at hl 2 rfl) ?_
                                          refine va_iast hx hb hK hP hD hS 1 0 rfl rfl (vp_in_nI (n := i9) (N := 701) (show i9 < 701 by omega) (by decide)) dX5_markKeywords_59 (fun H locs hP hD hS => ?_)
                                          obtain ⟨hP, hD⟩ : PDq D A [(oX5 r1 k1 k2 k3 (nI ct)), (k1, .inl (cA 0, 701, .inl (upd f1_9 (((nI i9)).toNatClampNeg) 16))), (k2, .inl (cA 0, 701, .inl ft)), (k3, .inl (cA 1, 701, .inr (.inl fv)))] H := ⟨hP, hD⟩
                                          have hn101 : Upp i9 16 f1_9 (upd f1_9 (((nI i9)).toNatClampNeg) 16) := Upp.of (by omega)
                                          have hn102 : Rdd (upd f1_9 (((nI i9)).toNatClampNeg) 16) := rfl
                                          generalize (upd f1_9 (((nI i9)).toNatClampNeg) 16) = fn100 at hP hD hn101 hn102
                                          obtain ⟨hP, hD⟩ : PDq D A [(oX5 r1 k1 k2 k3 (nI ct)), (k1, .inl (cA 0, 701, .inl fn100)), (k2, .inl (cA 0, 701, .inl ft)), (k3, .inl (cA 1, 701, .inr (.inl fv)))] H := ⟨hP, hD⟩
                                          refine lv_iinc (v := (nI (i9 + 1))) (lv' := [(4, .int (nI (i9 + 1))), (2, .long 14836), (1, .int 16), (0, .ref r1)]) hx hb dX5_markKeywords_60 hl (k := 0) rfl (nI_1 _) (by decide) rfl (fun ls hl => ?_)
                                          refine lv_goto (tgt := 20) hx hb dX5_markKeywords_63 (by decide) ?_
                                          obtain ⟨hP9, hD9⟩ := PDq.sub (ws' := [(oX5 r1 k1 k2 k3 (nI ct)), (k1, .inl (cA 0, 701, .inl fn100)), (k2, .inl (cA 0, 701, .inl ft)), (k3, .inl (cA 1, 701, .inr (.inl fv)))]) hP hD [0, 1, 2, 3] (by decide) rfl
                                          exact ih9 (i9 + 1) fn100 H _ ls (by omega) hn102 (Mi.yesx hv0_9 (by omega) c97 c99 (by decide) (by decide) hn101) hP9 hD9 hS (lv_sub hl [0, 1, 2, 3] rfl)
                                  obtain ⟨hP9, hD9⟩ := PDq.sub (ws' := [(oX5 r1 k1 k2 k3 (nI ct)), (k1, .inl (cA 0, 701, .inl f1_8)), (k2, .inl (cA 0, 701, .inl ft)), (k3, .inl (cA 1, 701, .inr (.inl fv)))]) hP hD [0, 1, 2, 3] (by decide) rfl
                                  exact loop9 (ct - 0) 0 f1_8 _ _ ls (by omega) hf0_8 (Mk.mi (Mi.mk hv0_8)) hP9 hD9 hS (lv_sub hl [0, 1, 2, 3] rfl)
                                | succ n8 ih8 =>
                                  intro i8 f1_8 H locs ls hi8 hf0_8 hv0_8 hP hD hS hl
                                  refine lv_iload hx hb dX5_markKeywords_20 (lv_at hl 0 rfl) ?_
                                  refine lv_aload_n hx hb dX5_markKeywords_22 rfl (lv_at hl 3 rfl) ?_
                                  refine va_get (D := D) (ci := 9) (v := .int (nI ct)) (C := RX5) (T := TX5) (N := 4) hx hb hts inX5 hown hK hP 0 rfl rfl 3 (by decide) (hts (.fieldLink RX5 22 "EscrowDesk$Scanner" "count" "I") (by decide +kernel)) (fun _ h9 => h9) rfl dX5_markKeywords_23 ?_
                                  refine lv_icmp_ge (tgt := 66) hx hb dX5_markKeywords_26 (by decide) (fun c9 => absurd c9 (nI_ge (a := i8) (b := ct) (show i8 < ct by omega) (by omega))) (fun c103 => ?_)
                                  refine lv_aload_n hx hb dX5_markKeywords_29 rfl (lv_at hl 3 rfl) ?_
                                  refine va_get (D := D) (ci := 9) (v := .ref k1) (C := RX5) (T := TX5) (N := 4) hx hb hts inX5 hown hK hP 0 rfl rfl 0 (by decide) (hts (.fieldLink RX5 9 "EscrowDesk$Scanner" "kinds" "[I") (by decide +kernel)) (fun _ h9 => h9) rfl dX5_markKeywords_30 ?_
                                  refine lv_iload hx hb dX5_markKeywords_33 (lv_at hl 0 rfl) ?_
                                  refine va_iald hx hb hK hP 1 0 rfl rfl (vp_in_nI (n := i8) (N := 701) (show i8 < 701 by omega) (by decide)) dX5_markKeywords_35 ?_
                                  refine lv_topi (fun yn104 eyn104 => ?_)
                                  obtain rfl : yn104 = (f1_8 i8) := eyn104.trans (by rw [nI_clamp (by omega)])
                                  refine lv_iconst (v := 4) hx hb dX5_markKeywords_36 (by decide) ?_
                                  refine lv_icmp_ne (tgt := 60) hx hb dX5_markKeywords_37 (by decide) (fun c105 => ?_) (fun c105 => ?_)
                                  · skip
                                    refine lv_iinc (v := (nI (i8 + 1))) (lv' := [(4, .int (nI (i8 + 1))), (2, .long 1476), (1, .int 15), (0, .ref r1)]) hx hb dX5_markKeywords_60 hl (k := 0) rfl (nI_1 _) (by decide) rfl (fun ls hl => ?_)
                                    refine lv_goto (tgt := 20) hx hb dX5_markKeywords_63 (by decide) ?_
                                    obtain ⟨hP9, hD9⟩ := PDq.sub (ws' := [(oX5 r1 k1 k2 k3 (nI ct)), (k1, .inl (cA 0, 701, .inl f1_8)), (k2, .inl (cA 0, 701, .inl ft)), (k3, .inl (cA 1, 701, .inr (.inl fv)))]) hP hD [0, 1, 2, 3] (by decide) rfl
                                    exact ih8 (i8 + 1) f1_8 H _ ls (by omega) hf0_8 (Mi.no hv0_8 (by omega) (fun q => c105 q.1)) hP9 hD9 hS (lv_sub hl [0, 1, 2, 3] rfl)
                                  · skip
                                    refine lv_aload_n hx hb dX5_markKeywords_40 rfl (lv_at hl 3 rfl) ?_
                                    refine va_get (D := D) (ci := 9) (v := .ref k3) (C := RX5) (T := TX5) (N := 4) hx hb hts inX5 hown hK hP 0 rfl rfl 2 (by decide) (hts (.fieldLink RX5 18 "EscrowDesk$Scanner" "values" "[J") (by decide +kernel)) (fun _ h9 => h9) rfl dX5_markKeywords_41 ?_
                                    refine lv_iload hx hb dX5_markKeywords_44 (lv_at hl 0 rfl) ?_
                                    refine va_lald hx hb hK hP 3 1 rfl rfl (vp_in_nI (n := i8) (N := 701) (show i8 < 701 by omega) (by decide)) dX5_markKeywords_46 ?_
                                    refine lv_topl (fun yn106 eyn106 => ?_)
                                    obtain rfl : yn106 = (fv i8) := eyn106.trans (by rw [nI_clamp (by omega)])
                                    refine lv_lload_n hx hb dX5_markKeywords_47 rfl (lv_at hl 1 rfl) ?_
                                    refine W.lcmp hx hb dX5_markKeywords_48 ?_
                                    refine lv_if_ne (tgt := 60) hx hb dX5_markKeywords_49 (by decide) (fun c107 => ?_) (fun c107 => ?_)
                                    · skip
                                      refine lv_iinc (v := (nI (i8 + 1))) (lv' := [(4, .int (nI (i8 + 1))), (2, .long 1476), (1, .int 15), (0, .ref r1)]) hx hb dX5_markKeywords_60 hl (k := 0) rfl (nI_1 _) (by decide) rfl (fun ls hl => ?_)
                                      refine lv_goto (tgt := 20) hx hb dX5_markKeywords_63 (by decide) ?_
                                      obtain ⟨hP9, hD9⟩ := PDq.sub (ws' := [(oX5 r1 k1 k2 k3 (nI ct)), (k1, .inl (cA 0, 701, .inl f1_8)), (k2, .inl (cA 0, 701, .inl ft)), (k3, .inl (cA 1, 701, .inr (.inl fv)))]) hP hD [0, 1, 2, 3] (by decide) rfl
                                      exact ih8 (i8 + 1) f1_8 H _ ls (by omega) hf0_8 (Mi.nox hv0_8 (by omega) c107 (by decide)) hP9 hD9 hS (lv_sub hl [0, 1, 2, 3] rfl)
                                    · skip
                                      refine lv_aload_n hx hb dX5_markKeywords_52 rfl (lv_at hl 3 rfl) ?_
                                      refine va_get (D := D) (ci := 9) (v := .ref k1) (C := RX5) (T := TX5) (N := 4) hx hb hts inX5 hown hK hP 0 rfl rfl 0 (by decide) (hts (.fieldLink RX5 9 "EscrowDesk$Scanner" "kinds" "[I") (by decide +kernel)) (fun _ h9 => h9) rfl dX5_markKeywords_53 ?_
                                      refine lv_iload hx hb dX5_markKeywords_56 (lv_at hl 0 rfl) ?_
                                      refine lv_iload_n hx hb dX5_markKeywords_58 rfl (lv_at hl 2 rfl) ?_
                                      refine va_iast hx hb hK hP hD hS 1 0 rfl rfl (vp_in_nI (n := i8) (N := 701) (show i8 < 701 by omega) (by decide)) dX5_markKeywords_59 (fun H locs hP hD hS => ?_)
                                      obtain ⟨hP, hD⟩ : PDq D A [(oX5 r1 k1 k2 k3 (nI ct)), (k1, .inl (cA 0, 701, .inl (upd f1_8 (((nI i8)).toNatClampNeg) 15))), (k2, .inl (cA 0, 701, .inl ft)), (k3, .inl (cA 1, 701, .inr (.inl fv)))] H := ⟨hP, hD⟩
                                      have hn109 : Upp i8 15 f1_8 (upd f1_8 (((nI i8)).toNatClampNeg) 15) := Upp.of (by omega)
                                      have hn110 : Rdd (upd f1_8 (((nI i8)).toNatClampNeg) 15) := rfl
                                      generalize (upd f1_8 (((nI i8)).toNatClampNeg) 15) = fn108 at hP hD hn109 hn110
                                      obtain ⟨hP, hD⟩ : PDq D A [(oX5 r1 k1 k2 k3 (nI ct)), (k1, .inl (cA 0, 701, .inl fn108)), (k2, .inl (cA 0, 701, .inl ft)), (k3, .inl (cA 1, 701, .inr (.inl fv)))] H := ⟨hP, hD⟩
                                      refine lv_iinc (v := (nI (i8 + 1))) (lv' := [(4, .int (nI (i8 + 1))), (2, .long 1476), (1, .int 15), (0, .ref r1)]) hx hb dX5_markKeywords_60 hl (k := 0) rfl (nI_1 _) (by decide) rfl (fun ls hl => ?_)
                                      refine lv_goto (tgt := 20) hx hb dX5_markKeywords_63 (by decide) ?_
                                      obtain ⟨hP9, hD9⟩ := PDq.sub (ws' := [(oX5 r1 k1 k2 k3 (nI ct)), (k1, .inl (cA 0, 701, .inl fn108)), (k2, .inl (cA 0, 701, .inl ft)), (k3, .inl (cA 1, 701, .inr (.inl fv)))]) hP hD [0, 1, 2, 3] (by decide) rfl
                                      exact ih8 (i8 + 1) fn108 H _ ls (by omega) hn110 (Mi.yesx hv0_8 (by omega) c105 c107 (by decide) (by decide) hn109) hP9 hD9 hS (lv_sub hl [0, 1, 2, 3] rfl)
                              obtain ⟨hP9, hD9⟩ := PDq.sub (ws' := [(oX5 r1 k1 k2 k3 (nI ct)), (k1, .inl (cA 0, 701, .inl f1_7)), (k2, .inl (cA 0, 701, .inl ft)), (k3, .inl (cA 1, 701, .inr (.inl fv)))]) hP hD [0, 1, 2, 3] (by decide) rfl
                              exact loop8 (ct - 0) 0 f1_7 _ _ ls (by omega) hf0_7 (Mk.mi (Mi.mk hv0_7)) hP9 hD9 hS (lv_sub hl [0, 1, 2, 3] rfl)
                            | succ n7 ih7 =>
                              intro i7 f1_7 H locs ls hi7 hf0_7 hv0_7 hP hD hS hl
                              refine lv_iload hx hb dX5_markKeywords_20 (lv_at hl 0 rfl) ?_
                              refine lv_aload_n hx hb dX5_markKeywords_22 rfl (lv_at hl 3 rfl) ?_
                              refine va_get (D := D) (ci := 9) (v := .int (nI ct)) (C := RX5) (T := TX5) (N := 4) hx hb hts inX5 hown hK hP 0 rfl rfl 3 (by decide) (hts (.fieldLink RX5 22 "EscrowDesk$Scanner" "count" "I") (by decide +kernel)) (fun _ h9 => h9) rfl dX5_markKeywords_23 ?_
                              refine lv_icmp_ge (tgt := 66) hx hb dX5_markKeywords_26 (by decide) (fun c9 => absurd c9 (nI_ge (a := i7) (b := ct) (show i7 < ct by omega) (by omega))) (fun c111 => ?_)
                              refine lv_aload_n hx hb dX5_markKeywords_29 rfl (lv_at hl 3 rfl) ?_
                              refine va_get (D := D) (ci := 9) (v := .ref k1) (C := RX5) (T := TX5) (N := 4) hx hb hts inX5 hown hK hP 0 rfl rfl 0 (by decide) (hts (.fieldLink RX5 9 "EscrowDesk$Scanner" "kinds" "[I") (by decide +kernel)) (fun _ h9 => h9) rfl dX5_markKeywords_30 ?_
                              refine lv_iload hx hb dX5_markKeywords_33 (lv_at hl 0 rfl) ?_
                              refine va_iald hx hb hK hP 1 0 rfl rfl (vp_in_nI (n := i7) (N := 701) (show i7 < 701 by omega) (by decide)) dX5_markKeywords_35 ?_
                              refine lv_topi (fun yn112 eyn112 => ?_)
                              obtain rfl : yn112 = (f1_7 i7) := eyn112.trans (by rw [nI_clamp (by omega)])
                              refine lv_iconst (v := 4) hx hb dX5_markKeywords_36 (by decide) ?_
                              refine lv_icmp_ne (tgt := 60) hx hb dX5_markKeywords_37 (by decide) (fun c113 => ?_) (fun c113 => ?_)
                              · skip
                                refine lv_iinc (v := (nI (i7 + 1))) (lv' := [(4, .int (nI (i7 + 1))), (2, .long 498), (1, .int 14), (0, .ref r1)]) hx hb dX5_markKeywords_60 hl (k := 0) rfl (nI_1 _) (by decide) rfl (fun ls hl => ?_)
                                refine lv_goto (tgt := 20) hx hb dX5_markKeywords_63 (by decide) ?_
                                obtain ⟨hP9, hD9⟩ := PDq.sub (ws' := [(oX5 r1 k1 k2 k3 (nI ct)), (k1, .inl (cA 0, 701, .inl f1_7)), (k2, .inl (cA 0, 701, .inl ft)), (k3, .inl (cA 1, 701, .inr (.inl fv)))]) hP hD [0, 1, 2, 3] (by decide) rfl
                                exact ih7 (i7 + 1) f1_7 H _ ls (by omega) hf0_7 (Mi.no hv0_7 (by omega) (fun q => c113 q.1)) hP9 hD9 hS (lv_sub hl [0, 1, 2, 3] rfl)
                              · skip
                                refine lv_aload_n hx hb dX5_markKeywords_40 rfl (lv_at hl 3 rfl) ?_
                                refine va_get (D := D) (ci := 9) (v := .ref k3) (C := RX5) (T := TX5) (N := 4) hx hb hts inX5 hown hK hP 0 rfl rfl 2 (by decide) (hts (.fieldLink RX5 18 "EscrowDesk$Scanner" "values" "[J") (by decide +kernel)) (fun _ h9 => h9) rfl dX5_markKeywords_41 ?_
                                refine lv_iload hx hb dX5_markKeywords_44 (lv_at hl 0 rfl) ?_
                                refine va_lald hx hb hK hP 3 1 rfl rfl (vp_in_nI (n := i7) (N := 701) (show i7 < 701 by omega) (by decide)) dX5_markKeywords_46 ?_
                                refine lv_topl (fun yn114 eyn114 => ?_)
                                obtain rfl : yn114 = (fv i7) := eyn114.trans (by rw [nI_clamp (by omega)])
                                refine lv_lload_n hx hb dX5_markKeywords_47 rfl (lv_at hl 1 rfl) ?_
                                refine W.lcmp hx hb dX5_markKeywords_48 ?_
                                refine lv_if_ne (tgt := 60) hx hb dX5_markKeywords_49 (by decide) (fun c115 => ?_) (fun c115 => ?_)
                                · skip
                                  refine lv_iinc (v := (nI (i7 + 1))) (lv' := [(4, .int (nI (i7 + 1))), (2, .long 498), (1, .int 14), (0, .ref r1)]) hx hb dX5_markKeywords_60 hl (k := 0) rfl (nI_1 _) (by decide) rfl (fun ls hl => ?_)
                                  refine lv_goto (tgt := 20) hx hb dX5_markKeywords_63 (by decide) ?_
                                  obtain ⟨hP9, hD9⟩ := PDq.sub (ws' := [(oX5 r1 k1 k2 k3 (nI ct)), (k1, .inl (cA 0, 701, .inl f1_7)), (k2, .inl (cA 0, 701, .inl ft)), (k3, .inl (cA 1, 701, .inr (.inl fv)))]) hP hD [0, 1, 2, 3] (by decide) rfl
                                  exact ih7 (i7 + 1) f1_7 H _ ls (by omega) hf0_7 (Mi.nox hv0_7 (by omega) c115 (by decide)) hP9 hD9 hS (lv_sub hl [0, 1, 2, 3] rfl)
                                · skip
                                  refine lv_aload_n hx hb dX5_markKeywords_52 rfl (lv_at hl 3 rfl) ?_
                                  refine va_get (D := D) (ci := 9) (v := .ref k1) (C := RX5) (T := TX5) (N := 4) hx hb hts inX5 hown hK hP 0 rfl rfl 0 (by decide) (hts (.fieldLink RX5 9 "EscrowDesk$Scanner" "kinds" "[I") (by decide +kernel)) (fun _ h9 => h9) rfl dX5_markKeywords_53 ?_
                                  refine lv_iload hx hb dX5_markKeywords_56 (lv_at hl 0 rfl) ?_
                                  refine lv_iload_n hx hb dX5_markKeywords_58 rfl (lv_at hl 2 rfl) ?_
                                  refine va_iast hx hb hK hP hD hS 1 0 rfl rfl (vp_in_nI (n := i7) (N := 701) (show i7 < 701 by omega) (by decide)) dX5_markKeywords_59 (fun H locs hP hD hS => ?_)
                                  obtain ⟨hP, hD⟩ : PDq D A [(oX5 r1 k1 k2 k3 (nI ct)), (k1, .inl (cA 0, 701, .inl (upd f1_7 (((nI i7)).toNatClampNeg) 14))), (k2, .inl (cA 0, 701, .inl ft)), (k3, .inl (cA 1, 701, .inr (.inl fv)))] H := ⟨hP, hD⟩
                                  have hn117 : Upp i7 14 f1_7 (upd f1_7 (((nI i7)).toNatClampNeg) 14) := Upp.of (by omega)
                                  have hn118 : Rdd (upd f1_7 (((nI i7)).toNatClampNeg) 14) := rfl
                                  generalize (upd f1_7 (((nI i7)).toNatClampNeg) 14) = fn116 at hP hD hn117 hn118
                                  obtain ⟨hP, hD⟩ : PDq D A [(oX5 r1 k1 k2 k3 (nI ct)), (k1, .inl (cA 0, 701, .inl fn116)), (k2, .inl (cA 0, 701, .inl ft)), (k3, .inl (cA 1, 701, .inr (.inl fv)))] H := ⟨hP, hD⟩
                                  refine lv_iinc (v := (nI (i7 + 1))) (lv' := [(4, .int (nI (i7 + 1))), (2, .long 498), (1, .int 14), (0, .ref r1)]) hx hb dX5_markKeywords_60 hl (k := 0) rfl (nI_1 _) (by decide) rfl (fun ls hl => ?_)
                                  refine lv_goto (tgt := 20) hx hb dX5_markKeywords_63 (by decide) ?_
                                  obtain ⟨hP9, hD9⟩ := PDq.sub (ws' := [(oX5 r1 k1 k2 k3 (nI ct)), (k1, .inl (cA 0, 701, .inl fn116)), (k2, .inl (cA 0, 701, .inl ft)), (k3, .inl (cA 1, 701, .inr (.inl fv)))]) hP hD [0, 1, 2, 3] (by decide) rfl
                                  exact ih7 (i7 + 1) fn116 H _ ls (by omega) hn118 (Mi.yesx hv0_7 (by omega) c113 c115 (by decide) (by decide) hn117) hP9 hD9 hS (lv_sub hl [0, 1, 2, 3] rfl)
                          obtain ⟨hP9, hD9⟩ := PDq.sub (ws' := [(oX5 r1 k1 k2 k3 (nI ct)), (k1, .inl (cA 0, 701, .inl f1_6)), (k2, .inl (cA 0, 701, .inl ft)), (k3, .inl (cA 1, 701, .inr (.inl fv)))]) hP hD [0, 1, 2, 3] (by decide) rfl
                          exact loop7 (ct - 0) 0 f1_6 _ _ ls (by omega) hf0_6 (Mk.mi (Mi.mk hv0_6)) hP9 hD9 hS (lv_sub hl [0, 1, 2, 3] rfl)
                        | succ n6 ih6 =>
                          intro i6 f1_6 H locs ls hi6 hf0_6 hv0_6 hP hD hS hl
                          refine lv_iload hx hb dX5_markKeywords_20 (lv_at hl 0 rfl) ?_
                          refine lv_aload_n hx hb dX5_markKeywords_22 rfl (lv_at hl 3 rfl) ?_
                          refine va_get (D := D) (ci := 9) (v := .int (nI ct)) (C := RX5) (T := TX5) (N := 4) hx hb hts inX5 hown hK hP 0 rfl rfl 3 (by decide) (hts (.fieldLink RX5 22 "EscrowDesk$Scanner" "count" "I") (by decide +kernel)) (fun _ h9 => h9) rfl dX5_markKeywords_23 ?_
                          refine lv_icmp_ge (tgt := 66) hx hb dX5_markKeywords_26 (by decide) (fun c9 => absurd c9 (nI_ge (a := i6) (b := ct) (show i6 < ct by omega) (by omega))) (fun c119 => ?_)
                          refine lv_aload_n hx hb dX5_markKeywords_29 rfl (lv_at hl 3 rfl) ?_
                          refine va_get (D := D) (ci := 9) (v := .ref k1) (C := RX5) (T := TX5) (N := 4) hx hb hts inX5 hown hK hP 0 rfl rfl 0 (by decide) (hts (.fieldLink RX5 9 "EscrowDesk$Scanner" "kinds" "[I") (by decide +kernel)) (fun _ h9 => h9) rfl dX5_markKeywords_30 ?_
                          refine lv_iload hx hb dX5_markKeywords_33 (lv_at hl 0 rfl) ?_
                          refine va_iald hx hb hK hP 1 0 rfl rfl (vp_in_nI (n := i6) (N := 701) (show i6 < 701 by omega) (by decide)) dX5_markKeywords_35 ?_
                          refine lv_topi (fun yn120 eyn120 => ?_)
                          obtain rfl : yn120 = (f1_6 i6) := eyn120.trans (by rw [nI_clamp (by omega)])
                          refine lv_iconst (v := 4) hx hb dX5_markKeywords_36 (by decide) ?_
                          refine lv_icmp_ne (tgt := 60) hx hb dX5_markKeywords_37 (by decide) (fun c121 => ?_) (fun c121 => ?_)
                          · skip
                            refine lv_iinc (v := (nI (i6 + 1))) (lv' := [(4, .int (nI (i6 + 1))), (2, .long 762030), (1, .int 13), (0, .ref r1)]) hx hb dX5_markKeywords_60 hl (k := 0) rfl (nI_1 _) (by decide) rfl (fun ls hl => ?_)
                            refine lv_goto (tgt := 20) hx hb dX5_markKeywords_63 (by decide) ?_
                            obtain ⟨hP9, hD9⟩ := PDq.sub (ws' := [(oX5 r1 k1 k2 k3 (nI ct)), (k1, .inl (cA 0, 701, .inl f1_6)), (k2, .inl (cA 0, 701, .inl ft)), (k3, .inl (cA 1, 701, .inr (.inl fv)))]) hP hD [0, 1, 2, 3] (by decide) rfl
                            exact ih6 (i6 + 1) f1_6 H _ ls (by omega) hf0_6 (Mi.no hv0_6 (by omega) (fun q => c121 q.1)) hP9 hD9 hS (lv_sub hl [0, 1, 2, 3] rfl)
                          · skip
                            refine lv_aload_n hx hb dX5_markKeywords_40 rfl (lv_at hl 3 rfl) ?_
                            refine va_get (D := D) (ci := 9) (v := .ref k3) (C := RX5) (T := TX5) (N := 4) hx hb hts inX5 hown hK hP 0 rfl rfl 2 (by decide) (hts (.fieldLink RX5 18 "EscrowDesk$Scanner" "values" "[J") (by decide +kernel)) (fun _ h9 => h9) rfl dX5_markKeywords_41 ?_
                            refine lv_iload hx hb dX5_markKeywords_44 (lv_at hl 0 rfl) ?_
                            refine va_lald hx hb hK hP 3 1 rfl rfl (vp_in_nI (n := i6) (N := 701) (show i6 < 701 by omega) (by decide)) dX5_markKeywords_46 ?_
                            refine lv_topl (fun yn122 eyn122 => ?_)
                            obtain rfl : yn122 = (fv i6) := eyn122.trans (by rw [nI_clamp (by omega)])
                            refine lv_lload_n hx hb dX5_markKeywords_47 rfl (lv_at hl 1 rfl) ?_
                            refine W.lcmp hx hb dX5_markKeywords_48 ?_
                            refine lv_if_ne (tgt := 60) hx hb dX5_markKeywords_49 (by decide) (fun c123 => ?_) (fun c123 => ?_)
                            · skip
                              refine lv_iinc (v := (nI (i6 + 1))) (lv' := [(4, .int (nI (i6 + 1))), (2, .long 762030), (1, .int 13), (0, .ref r1)]) hx hb dX5_markKeywords_60 hl (k := 0) rfl (nI_1 _) (by decide) rfl (fun ls hl => ?_)
                              refine lv_goto (tgt := 20) hx hb dX5_markKeywords_63 (by decide) ?_
                              obtain ⟨hP9, hD9⟩ := PDq.sub (ws' := [(oX5 r1 k1 k2 k3 (nI ct)), (k1, .inl (cA 0, 701, .inl f1_6)), (k2, .inl (cA 0, 701, .inl ft)), (k3, .inl (cA 1, 701, .inr (.inl fv)))]) hP hD [0, 1, 2, 3] (by decide) rfl
                              exact ih6 (i6 + 1) f1_6 H _ ls (by omega) hf0_6 (Mi.nox hv0_6 (by omega) c123 (by decide)) hP9 hD9 hS (lv_sub hl [0, 1, 2, 3] rfl)
                            · skip
                              refine lv_aload_n hx hb dX5_markKeywords_52 rfl (lv_at hl 3 rfl) ?_
                              refine va_get (D := D) (ci := 9) (v := .ref k1) (C := RX5) (T := TX5) (N := 4) hx hb hts inX5 hown hK hP 0 rfl rfl 0 (by decide) (hts (.fieldLink RX5 9 "EscrowDesk$Scanner" "kinds" "[I") (by decide +kernel)) (fun _ h9 => h9) rfl dX5_markKeywords_53 ?_
                              refine lv_iload hx hb dX5_markKeywords_56 (lv_at hl 0 rfl) ?_
                              refine lv_iload_n hx hb dX5_markKeywords_58 rfl (lv_at hl 2 rfl) ?_
                              refine va_iast hx hb hK hP hD hS 1 0 rfl rfl (vp_in_nI (n := i6) (N := 701) (show i6 < 701 by omega) (by decide)) dX5_markKeywords_59 (fun H locs hP hD hS => ?_)
                              obtain ⟨hP, hD⟩ : PDq D A [(oX5 r1 k1 k2 k3 (nI ct)), (k1, .inl (cA 0, 701, .inl (upd f1_6 (((nI i6)).toNatClampNeg) 13))), (k2, .inl (cA 0, 701, .inl ft)), (k3, .inl (cA 1, 701, .inr (.inl fv)))] H := ⟨hP, hD⟩
                              have hn125 : Upp i6 13 f1_6 (upd f1_6 (((nI i6)).toNatClampNeg) 13) := Upp.of (by omega)
                              have hn126 : Rdd (upd f1_6 (((nI i6)).toNatClampNeg) 13) := rfl
                              generalize (upd f1_6 (((nI i6)).toNatClampNeg) 13) = fn124 at hP hD hn125 hn126
                              obtain ⟨hP, hD⟩ : PDq D A [(oX5 r1 k1 k2 k3 (nI ct)), (k1, .inl (cA 0, 701, .inl fn124)), (k2, .inl (cA 0, 701, .inl ft)), (k3, .inl (cA 1, 701, .inr (.inl fv)))] H := ⟨hP, hD⟩
                              refine lv_iinc (v := (nI (i6 + 1))) (lv' := [(4, .int (nI (i6 + 1))), (2, .long 762030), (1, .int 13), (0, .ref r1)]) hx hb dX5_markKeywords_60 hl (k := 0) rfl (nI_1 _) (by decide) rfl (fun ls hl => ?_)
                              refine lv_goto (tgt := 20) hx hb dX5_markKeywords_63 (by decide) ?_
                              obtain ⟨hP9, hD9⟩ := PDq.sub (ws' := [(oX5 r1 k1 k2 k3 (nI ct)), (k1, .inl (cA 0, 701, .inl fn124)), (k2, .inl (cA 0, 701, .inl ft)), (k3, .inl (cA 1, 701, .inr (.inl fv)))]) hP hD [0, 1, 2, 3] (by decide) rfl
                              exact ih6 (i6 + 1) fn124 H _ ls (by omega) hn126 (Mi.yesx hv0_6 (by omega) c121 c123 (by decide) (by decide) hn125) hP9 hD9 hS (lv_sub hl [0, 1, 2, 3] rfl)
                      obtain ⟨hP9, hD9⟩ := PDq.sub (ws' := [(oX5 r1 k1 k2 k3 (nI ct)), (k1, .inl (cA 0, 701, .inl f1_5)), (k2, .inl (cA 0, 701, .inl ft)), (k3, .inl (cA 1, 701, .inr (.inl fv)))]) hP hD [0, 1, 2, 3] (by decide) rfl
                      exact loop6 (ct - 0) 0 f1_5 _ _ ls (by omega) hf0_5 (Mk.mi (Mi.mk hv0_5)) hP9 hD9 hS (lv_sub hl [0, 1, 2, 3] rfl)
                    | succ n5 ih5 =>
                      intro i5 f1_5 H locs ls hi5 hf0_5 hv0_5 hP hD hS hl
                      refine lv_iload hx hb dX5_markKeywords_20 (lv_at hl 0 rfl) ?_
                      refine lv_aload_n hx hb dX5_markKeywords_22 rfl (lv_at hl 3 rfl) ?_
                      refine va_get (D := D) (ci := 9) (v := .int (nI ct)) (C := RX5) (T := TX5) (N := 4) hx hb hts inX5 hown hK hP 0 rfl rfl 3 (by decide) (hts (.fieldLink RX5 22 "EscrowDesk$Scanner" "count" "I") (by decide +kernel)) (fun _ h9 => h9) rfl dX5_markKeywords_23 ?_
                      refine lv_icmp_ge (tgt := 66) hx hb dX5_markKeywords_26 (by decide) (fun c9 => absurd c9 (nI_ge (a := i5) (b := ct) (show i5 < ct by omega) (by omega))) (fun c127 => ?_)
                      refine lv_aload_n hx hb dX5_markKeywords_29 rfl (lv_at hl 3 rfl) ?_
                      refine va_get (D := D) (ci := 9) (v := .ref k1) (C := RX5) (T := TX5) (N := 4) hx hb hts inX5 hown hK hP 0 rfl rfl 0 (by decide) (hts (.fieldLink RX5 9 "EscrowDesk$Scanner" "kinds" "[I") (by decide +kernel)) (fun _ h9 => h9) rfl dX5_markKeywords_30 ?_
                      refine lv_iload hx hb dX5_markKeywords_33 (lv_at hl 0 rfl) ?_
                      refine va_iald hx hb hK hP 1 0 rfl rfl (vp_in_nI (n := i5) (N := 701) (show i5 < 701 by omega) (by decide)) dX5_markKeywords_35 ?_
                      refine lv_topi (fun yn128 eyn128 => ?_)
                      obtain rfl : yn128 = (f1_5 i5) := eyn128.trans (by rw [nI_clamp (by omega)])
                      refine lv_iconst (v := 4) hx hb dX5_markKeywords_36 (by decide) ?_
                      refine lv_icmp_ne (tgt := 60) hx hb dX5_markKeywords_37 (by decide) (fun c129 => ?_) (fun c129 => ?_)
                      · skip
                        refine lv_iinc (v := (nI (i5 + 1))) (lv' := [(4, .int (nI (i5 + 1))), (2, .long 14615962074565), (1, .int 12), (0, .ref r1)]) hx hb dX5_markKeywords_60 hl (k := 0) rfl (nI_1 _) (by decide) rfl (fun ls hl => ?_)
                        refine lv_goto (tgt := 20) hx hb dX5_markKeywords_63 (by decide) ?_
                        obtain ⟨hP9, hD9⟩ := PDq.sub (ws' := [(oX5 r1 k1 k2 k3 (nI ct)), (k1, .inl (cA 0, 701, .inl f1_5)), (k2, .inl (cA 0, 701, .inl ft)), (k3, .inl (cA 1, 701, .inr (.inl fv)))]) hP hD [0, 1, 2, 3] (by decide) rfl
                        exact ih5 (i5 + 1) f1_5 H _ ls (by omega) hf0_5 (Mi.no hv0_5 (by omega) (fun q => c129 q.1)) hP9 hD9 hS (lv_sub hl [0, 1, 2, 3] rfl)
                      · skip
                        refine lv_aload_n hx hb dX5_markKeywords_40 rfl (lv_at hl 3 rfl) ?_
                        refine va_get (D := D) (ci := 9) (v := .ref k3) (C := RX5) (T := TX5) (N := 4) hx hb hts inX5 hown hK hP 0 rfl rfl 2 (by decide) (hts (.fieldLink RX5 18 "EscrowDesk$Scanner" "values" "[J") (by decide +kernel)) (fun _ h9 => h9) rfl dX5_markKeywords_41 ?_
                        refine lv_iload hx hb dX5_markKeywords_44 (lv_at hl 0 rfl) ?_
                        refine va_lald hx hb hK hP 3 1 rfl rfl (vp_in_nI (n := i5) (N := 701) (show i5 < 701 by omega) (by decide)) dX5_markKeywords_46 ?_
                        refine lv_topl (fun yn130 eyn130 => ?_)
                        obtain rfl : yn130 = (fv i5) := eyn130.trans (by rw [nI_clamp (by omega)])
                        refine lv_lload_n hx hb dX5_markKeywords_47 rfl (lv_at hl 1 rfl) ?_
                        refine W.lcmp hx hb dX5_markKeywords_48 ?_
                        refine lv_if_ne (tgt := 60) hx hb dX5_markKeywords_49 (by decide) (fun c131 => ?_) (fun c131 => ?_)
                        · skip
                          refine lv_iinc (v := (nI (i5 + 1))) (lv' := [(4, .int (nI (i5 + 1))), (2, .long 14615962074565), (1, .int 12), (0, .ref r1)]) hx hb dX5_markKeywords_60 hl (k := 0) rfl (nI_1 _) (by decide) rfl (fun ls hl => ?_)
                          refine lv_goto (tgt := 20) hx hb dX5_markKeywords_63 (by decide) ?_
                          obtain ⟨hP9, hD9⟩ := PDq.sub (ws' := [(oX5 r1 k1 k2 k3 (nI ct)), (k1, .inl (cA 0, 701, .inl f1_5)), (k2, .inl (cA 0, 701, .inl ft)), (k3, .inl (cA 1, 701, .inr (.inl fv)))]) hP hD [0, 1, 2, 3] (by decide) rfl
                          exact ih5 (i5 + 1) f1_5 H _ ls (by omega) hf0_5 (Mi.nox hv0_5 (by omega) c131 (by decide)) hP9 hD9 hS (lv_sub hl [0, 1, 2, 3] rfl)
                        · skip
                          refine lv_aload_n hx hb dX5_markKeywords_52 rfl (lv_at hl 3 rfl) ?_
                          refine va_get (D := D) (ci := 9) (v := .ref k1) (C := RX5) (T := TX5) (N := 4) hx hb hts inX5 hown hK hP 0 rfl rfl 0 (by decide) (hts (.fieldLink RX5 9 "EscrowDesk$Scanner" "kinds" "[I") (by decide +kernel)) (fun _ h9 => h9) rfl dX5_markKeywords_53 ?_
                          refine lv_iload hx hb dX5_markKeywords_56 (lv_at hl 0 rfl) ?_
                          refine lv_iload_n hx hb dX5_markKeywords_58 rfl (lv_at hl 2 rfl) ?_
                          refine va_iast hx hb hK hP hD hS 1 0 rfl rfl (vp_in_nI (n := i5) (N := 701) (show i5 < 701 by omega) (by decide)) dX5_markKeywords_59 (fun H locs hP hD hS => ?_)
                          obtain ⟨hP, hD⟩ : PDq D A [(oX5 r1 k1 k2 k3 (nI ct)), (k1, .inl (cA 0, 701, .inl (upd f1_5 (((nI i5)).toNatClampNeg) 12))), (k2, .inl (cA 0, 701, .inl ft)), (k3, .inl (cA 1, 701, .inr (.inl fv)))] H := ⟨hP, hD⟩
                          have hn133 : Upp i5 12 f1_5 (upd f1_5 (((nI i5)).toNatClampNeg) 12) := Upp.of (by omega)
                          have hn134 : Rdd (upd f1_5 (((nI i5)).toNatClampNeg) 12) := rfl
                          generalize (upd f1_5 (((nI i5)).toNatClampNeg) 12) = fn132 at hP hD hn133 hn134
                          obtain ⟨hP, hD⟩ : PDq D A [(oX5 r1 k1 k2 k3 (nI ct)), (k1, .inl (cA 0, 701, .inl fn132)), (k2, .inl (cA 0, 701, .inl ft)), (k3, .inl (cA 1, 701, .inr (.inl fv)))] H := ⟨hP, hD⟩
                          refine lv_iinc (v := (nI (i5 + 1))) (lv' := [(4, .int (nI (i5 + 1))), (2, .long 14615962074565), (1, .int 12), (0, .ref r1)]) hx hb dX5_markKeywords_60 hl (k := 0) rfl (nI_1 _) (by decide) rfl (fun ls hl => ?_)
                          refine lv_goto (tgt := 20) hx hb dX5_markKeywords_63 (by decide) ?_
                          obtain ⟨hP9, hD9⟩ := PDq.sub (ws' := [(oX5 r1 k1 k2 k3 (nI ct)), (k1, .inl (cA 0, 701, .inl fn132)), (k2, .inl (cA 0, 701, .inl ft)), (k3, .inl (cA 1, 701, .inr (.inl fv)))]) hP hD [0, 1, 2, 3] (by decide) rfl
                          exact ih5 (i5 + 1) fn132 H _ ls (by omega) hn134 (Mi.yesx hv0_5 (by omega) c129 c131 (by decide) (by decide) hn133) hP9 hD9 hS (lv_sub hl [0, 1, 2, 3] rfl)
                  obtain ⟨hP9, hD9⟩ := PDq.sub (ws' := [(oX5 r1 k1 k2 k3 (nI ct)), (k1, .inl (cA 0, 701, .inl f1_4)), (k2, .inl (cA 0, 701, .inl ft)), (k3, .inl (cA 1, 701, .inr (.inl fv)))]) hP hD [0, 1, 2, 3] (by decide) rfl
                  exact loop5 (ct - 0) 0 f1_4 _ _ ls (by omega) hf0_4 (Mk.mi (Mi.mk hv0_4)) hP9 hD9 hS (lv_sub hl [0, 1, 2, 3] rfl)
                | succ n4 ih4 =>
                  intro i4 f1_4 H locs ls hi4 hf0_4 hv0_4 hP hD hS hl
                  refine lv_iload hx hb dX5_markKeywords_20 (lv_at hl 0 rfl) ?_
                  refine lv_aload_n hx hb dX5_markKeywords_22 rfl (lv_at hl 3 rfl) ?_
                  refine va_get (D := D) (ci := 9) (v := .int (nI ct)) (C := RX5) (T := TX5) (N := 4) hx hb hts inX5 hown hK hP 0 rfl rfl 3 (by decide) (hts (.fieldLink RX5 22 "EscrowDesk$Scanner" "count" "I") (by decide +kernel)) (fun _ h9 => h9) rfl dX5_markKeywords_23 ?_
                  refine lv_icmp_ge (tgt := 66) hx hb dX5_markKeywords_26 (by decide) (fun c9 => absurd c9 (nI_ge (a := i4) (b := ct) (show i4 < ct by omega) (by omega))) (fun c135 => ?_)
                  refine lv_aload_n hx hb dX5_markKeywords_29 rfl (lv_at hl 3 rfl) ?_
                  refine va_get (D := D) (ci := 9) (v := .ref k1) (C := RX5) (T := TX5) (N := 4) hx hb hts inX5 hown hK hP 0 rfl rfl 0 (by decide) (hts (.fieldLink RX5 9 "EscrowDesk$Scanner" "kinds" "[I") (by decide +kernel)) (fun _ h9 => h9) rfl dX5_markKeywords_30 ?_
                  refine lv_iload hx hb dX5_markKeywords_33 (lv_at hl 0 rfl) ?_
                  refine va_iald hx hb hK hP 1 0 rfl rfl (vp_in_nI (n := i4) (N := 701) (show i4 < 701 by omega) (by decide)) dX5_markKeywords_35 ?_
                  refine lv_topi (fun yn136 eyn136 => ?_)
                  obtain rfl : yn136 = (f1_4 i4) := eyn136.trans (by rw [nI_clamp (by omega)])
                  refine lv_iconst (v := 4) hx hb dX5_markKeywords_36 (by decide) ?_
                  refine lv_icmp_ne (tgt := 60) hx hb dX5_markKeywords_37 (by decide) (fun c137 => ?_) (fun c137 => ?_)
                  · skip
                    refine lv_iinc (v := (nI (i4 + 1))) (lv' := [(4, .int (nI (i4 + 1))), (2, .long 4480027956), (1, .int 11), (0, .ref r1)]) hx hb dX5_markKeywords_60 hl (k := 0) rfl (nI_1 _) (by decide) rfl (fun ls hl => ?_)
                    refine lv_goto (tgt := 20) hx hb dX5_markKeywords_63 (by decide) ?_
                    obtain ⟨hP9, hD9⟩ := PDq.sub (ws' := [(oX5 r1 k1 k2 k3 (nI ct)), (k1, .inl (cA 0, 701, .inl f1_4)), (k2, .inl (cA 0, 701, .inl ft)), (k3, .inl (cA 1, 701, .inr (.inl fv)))]) hP hD [0, 1, 2, 3] (by decide) rfl
                    exact ih4 (i4 + 1) f1_4 H _ ls (by omega) hf0_4 (Mi.no hv0_4 (by omega) (fun q => c137 q.1)) hP9 hD9 hS (lv_sub hl [0, 1, 2, 3] rfl)
                  · skip
                    refine lv_aload_n hx hb dX5_markKeywords_40 rfl (lv_at hl 3 rfl) ?_
                    refine va_get (D := D) (ci := 9) (v := .ref k3) (C := RX5) (T := TX5) (N := 4) hx hb hts inX5 hown hK hP 0 rfl rfl 2 (by decide) (hts (.fieldLink RX5 18 "EscrowDesk$Scanner" "values" "[J") (by decide +kernel)) (fun _ h9 => h9) rfl dX5_markKeywords_41 ?_
                    refine lv_iload hx hb dX5_markKeywords_44 (lv_at hl 0 rfl) ?_
                    refine va_lald hx hb hK hP 3 1 rfl rfl (vp_in_nI (n := i4) (N := 701) (show i4 < 701 by omega) (by decide)) dX5_markKeywords_46 ?_
                    refine lv_topl (fun yn138 eyn138 => ?_)
                    obtain rfl : yn138 = (fv i4) := eyn138.trans (by rw [nI_clamp (by omega)])
                    refine lv_lload_n hx hb dX5_markKeywords_47 rfl (lv_at hl 1 rfl) ?_
                    refine W.lcmp hx hb dX5_markKeywords_48 ?_
                    refine lv_if_ne (tgt := 60) hx hb dX5_markKeywords_49 (by decide) (fun c139 => ?_) (fun c139 => ?_)
                    · skip
                      refine lv_iinc (v := (nI (i4 + 1))) (lv' := [(4, .int (nI (i4 + 1))), (2, .long 4480027956), (1, .int 11), (0, .ref r1)]) hx hb dX5_markKeywords_60 hl (k := 0) rfl (nI_1 _) (by decide) rfl (fun ls hl => ?_)
                      refine lv_goto (tgt := 20) hx hb dX5_markKeywords_63 (by decide) ?_
                      obtain ⟨hP9, hD9⟩ := PDq.sub (ws' := [(oX5 r1 k1 k2 k3 (nI ct)), (k1, .inl (cA 0, 701, .inl f1_4)), (k2, .inl (cA 0, 701, .inl ft)), (k3, .inl (cA 1, 701, .inr (.inl fv)))]) hP hD [0, 1, 2, 3] (by decide) rfl
                      exact ih4 (i4 + 1) f1_4 H _ ls (by omega) hf0_4 (Mi.nox hv0_4 (by omega) c139 (by decide)) hP9 hD9 hS (lv_sub hl [0, 1, 2, 3] rfl)
                    · skip
                      refine lv_aload_n hx hb dX5_markKeywords_52 rfl (lv_at hl 3 rfl) ?_
                      refine va_get (D := D) (ci := 9) (v := .ref k1) (C := RX5) (T := TX5) (N := 4) hx hb hts inX5 hown hK hP 0 rfl rfl 0 (by decide) (hts (.fieldLink RX5 9 "EscrowDesk$Scanner" "kinds" "[I") (by decide +kernel)) (fun _ h9 => h9) rfl dX5_markKeywords_53 ?_
                      refine lv_iload hx hb dX5_markKeywords_56 (lv_at hl 0 rfl) ?_
                      refine lv_iload_n hx hb dX5_markKeywords_58 rfl (lv_at hl 2 rfl) ?_
                      refine va_iast hx hb hK hP hD hS 1 0 rfl rfl (vp_in_nI (n := i4) (N := 701) (show i4 < 701 by omega) (by decide)) dX5_markKeywords_59 (fun H locs hP hD hS => ?_)
                      obtain ⟨hP, hD⟩ : PDq D A [(oX5 r1 k1 k2 k3 (nI ct)), (k1, .inl (cA 0, 701, .inl (upd f1_4 (((nI i4)).toNatClampNeg) 11))), (k2, .inl (cA 0, 701, .inl ft)), (k3, .inl (cA 1, 701, .inr (.inl fv)))] H := ⟨hP, hD⟩
                      have hn141 : Upp i4 11 f1_4 (upd f1_4 (((nI i4)).toNatClampNeg) 11) := Upp.of (by omega)
                      have hn142 : Rdd (upd f1_4 (((nI i4)).toNatClampNeg) 11) := rfl
                      generalize (upd f1_4 (((nI i4)).toNatClampNeg) 11) = fn140 at hP hD hn141 hn142
                      obtain ⟨hP, hD⟩ : PDq D A [(oX5 r1 k1 k2 k3 (nI ct)), (k1, .inl (cA 0, 701, .inl fn140)), (k2, .inl (cA 0, 701, .inl ft)), (k3, .inl (cA 1, 701, .inr (.inl fv)))] H := ⟨hP, hD⟩
                      refine lv_iinc (v := (nI (i4 + 1))) (lv' := [(4, .int (nI (i4 + 1))), (2, .long 4480027956), (1, .int 11), (0, .ref r1)]) hx hb dX5_markKeywords_60 hl (k := 0) rfl (nI_1 _) (by decide) rfl (fun ls hl => ?_)
                      refine lv_goto (tgt := 20) hx hb dX5_markKeywords_63 (by decide) ?_
                      obtain ⟨hP9, hD9⟩ := PDq.sub (ws' := [(oX5 r1 k1 k2 k3 (nI ct)), (k1, .inl (cA 0, 701, .inl fn140)), (k2, .inl (cA 0, 701, .inl ft)), (k3, .inl (cA 1, 701, .inr (.inl fv)))]) hP hD [0, 1, 2, 3] (by decide) rfl
                      exact ih4 (i4 + 1) fn140 H _ ls (by omega) hn142 (Mi.yesx hv0_4 (by omega) c137 c139 (by decide) (by decide) hn141) hP9 hD9 hS (lv_sub hl [0, 1, 2, 3] rfl)
              obtain ⟨hP9, hD9⟩ := PDq.sub (ws' := [(oX5 r1 k1 k2 k3 (nI ct)), (k1, .inl (cA 0, 701, .inl f1_3)), (k2, .inl (cA 0, 701, .inl ft)), (k3, .inl (cA 1, 701, .inr (.inl fv)))]) hP hD [0, 1, 2, 3] (by decide) rfl
              exact loop4 (ct - 0) 0 f1_3 _ _ ls (by omega) hf0_3 (Mk.mi (Mi.mk hv0_3)) hP9 hD9 hS (lv_sub hl [0, 1, 2, 3] rfl)
            | succ n3 ih3 =>
              intro i3 f1_3 H locs ls hi3 hf0_3 hv0_3 hP hD hS hl
              refine lv_iload hx hb dX5_markKeywords_20 (lv_at hl 0 rfl) ?_
              refine lv_aload_n hx hb dX5_markKeywords_22 rfl (lv_at hl 3 rfl) ?_
              refine va_get (D := D) (ci := 9) (v := .int (nI ct)) (C := RX5) (T := TX5) (N := 4) hx hb hts inX5 hown hK hP 0 rfl rfl 3 (by decide) (hts (.fieldLink RX5 22 "EscrowDesk$Scanner" "count" "I") (by decide +kernel)) (fun _ h9 => h9) rfl dX5_markKeywords_23 ?_
              refine lv_icmp_ge (tgt := 66) hx hb dX5_markKeywords_26 (by decide) (fun c9 => absurd c9 (nI_ge (a := i3) (b := ct) (show i3 < ct by omega) (by omega))) (fun c143 => ?_)
              refine lv_aload_n hx hb dX5_markKeywords_29 rfl (lv_at hl 3 rfl) ?_
              refine va_get (D := D) (ci := 9) (v := .ref k1) (C := RX5) (T := TX5) (N := 4) hx hb hts inX5 hown hK hP 0 rfl rfl 0 (by decide) (hts (.fieldLink RX5 9 "EscrowDesk$Scanner" "kinds" "[I") (by decide +kernel)) (fun _ h9 => h9) rfl dX5_markKeywords_30 ?_
              refine lv_iload hx hb dX5_markKeywords_33 (lv_at hl 0 rfl) ?_
              refine va_iald hx hb hK hP 1 0 rfl rfl (vp_in_nI (n := i3) (N := 701) (show i3 < 701 by omega) (by decide)) dX5_markKeywords_35 ?_
              refine lv_topi (fun yn144 eyn144 => ?_)
              obtain rfl : yn144 = (f1_3 i3) := eyn144.trans (by rw [nI_clamp (by omega)])
              refine lv_iconst (v := 4) hx hb dX5_markKeywords_36 (by decide) ?_
              refine lv_icmp_ne (tgt := 60) hx hb dX5_markKeywords_37 (by decide) (fun c145 => ?_) (fun c145 => ?_)
              · skip
                refine lv_iinc (v := (nI (i3 + 1))) (lv' := [(4, .int (nI (i3 + 1))), (2, .long 7930981), (1, .int 10), (0, .ref r1)]) hx hb dX5_markKeywords_60 hl (k := 0) rfl (nI_1 _) (by decide) rfl (fun ls hl => ?_)
                refine lv_goto (tgt := 20) hx hb dX5_markKeywords_63 (by decide) ?_
                obtain ⟨hP9, hD9⟩ := PDq.sub (ws' := [(oX5 r1 k1 k2 k3 (nI ct)), (k1, .inl (cA 0, 701, .inl f1_3)), (k2, .inl (cA 0, 701, .inl ft)), (k3, .inl (cA 1, 701, .inr (.inl fv)))]) hP hD [0, 1, 2, 3] (by decide) rfl
                exact ih3 (i3 + 1) f1_3 H _ ls (by omega) hf0_3 (Mi.no hv0_3 (by omega) (fun q => c145 q.1)) hP9 hD9 hS (lv_sub hl [0, 1, 2, 3] rfl)
              · skip
                refine lv_aload_n hx hb dX5_markKeywords_40 rfl (lv_at hl 3 rfl) ?_
                refine va_get (D := D) (ci := 9) (v := .ref k3) (C := RX5) (T := TX5) (N := 4) hx hb hts inX5 hown hK hP 0 rfl rfl 2 (by decide) (hts (.fieldLink RX5 18 "EscrowDesk$Scanner" "values" "[J") (by decide +kernel)) (fun _ h9 => h9) rfl dX5_markKeywords_41 ?_
                refine lv_iload hx hb dX5_markKeywords_44 (lv_at hl 0 rfl) ?_
                refine va_lald hx hb hK hP 3 1 rfl rfl (vp_in_nI (n := i3) (N := 701) (show i3 < 701 by omega) (by decide)) dX5_markKeywords_46 ?_
                refine lv_topl (fun yn146 eyn146 => ?_)
                obtain rfl : yn146 = (fv i3) := eyn146.trans (by rw [nI_clamp (by omega)])
                refine lv_lload_n hx hb dX5_markKeywords_47 rfl (lv_at hl 1 rfl) ?_
                refine W.lcmp hx hb dX5_markKeywords_48 ?_
                refine lv_if_ne (tgt := 60) hx hb dX5_markKeywords_49 (by decide) (fun c147 => ?_) (fun c147 => ?_)
                · skip
                  refine lv_iinc (v := (nI (i3 + 1))) (lv' := [(4, .int (nI (i3 + 1))), (2, .long 7930981), (1, .int 10), (0, .ref r1)]) hx hb dX5_markKeywords_60 hl (k := 0) rfl (nI_1 _) (by decide) rfl (fun ls hl => ?_)
                  refine lv_goto (tgt := 20) hx hb dX5_markKeywords_63 (by decide) ?_
                  obtain ⟨hP9, hD9⟩ := PDq.sub (ws' := [(oX5 r1 k1 k2 k3 (nI ct)), (k1, .inl (cA 0, 701, .inl f1_3)), (k2, .inl (cA 0, 701, .inl ft)), (k3, .inl (cA 1, 701, .inr (.inl fv)))]) hP hD [0, 1, 2, 3] (by decide) rfl
                  exact ih3 (i3 + 1) f1_3 H _ ls (by omega) hf0_3 (Mi.nox hv0_3 (by omega) c147 (by decide)) hP9 hD9 hS (lv_sub hl [0, 1, 2, 3] rfl)
                · skip
                  refine lv_aload_n hx hb dX5_markKeywords_52 rfl (lv_at hl 3 rfl) ?_
                  refine va_get (D := D) (ci := 9) (v := .ref k1) (C := RX5) (T := TX5) (N := 4) hx hb hts inX5 hown hK hP 0 rfl rfl 0 (by decide) (hts (.fieldLink RX5 9 "EscrowDesk$Scanner" "kinds" "[I") (by decide +kernel)) (fun _ h9 => h9) rfl dX5_markKeywords_53 ?_
                  refine lv_iload hx hb dX5_markKeywords_56 (lv_at hl 0 rfl) ?_
                  refine lv_iload_n hx hb dX5_markKeywords_58 rfl (lv_at hl 2 rfl) ?_
                  refine va_iast hx hb hK hP hD hS 1 0 rfl rfl (vp_in_nI (n := i3) (N := 701) (show i3 < 701 by omega) (by decide)) dX5_markKeywords_59 (fun H locs hP hD hS => ?_)
                  obtain ⟨hP, hD⟩ : PDq D A [(oX5 r1 k1 k2 k3 (nI ct)), (k1, .inl (cA 0, 701, .inl (upd f1_3 (((nI i3)).toNatClampNeg) 10))), (k2, .inl (cA 0, 701, .inl ft)), (k3, .inl (cA 1, 701, .inr (.inl fv)))] H := ⟨hP, hD⟩
                  have hn149 : Upp i3 10 f1_3 (upd f1_3 (((nI i3)).toNatClampNeg) 10) := Upp.of (by omega)
                  have hn150 : Rdd (upd f1_3 (((nI i3)).toNatClampNeg) 10) := rfl
                  generalize (upd f1_3 (((nI i3)).toNatClampNeg) 10) = fn148 at hP hD hn149 hn150
                  obtain ⟨hP, hD⟩ : PDq D A [(oX5 r1 k1 k2 k3 (nI ct)), (k1, .inl (cA 0, 701, .inl fn148)), (k2, .inl (cA 0, 701, .inl ft)), (k3, .inl (cA 1, 701, .inr (.inl fv)))] H := ⟨hP, hD⟩
                  refine lv_iinc (v := (nI (i3 + 1))) (lv' := [(4, .int (nI (i3 + 1))), (2, .long 7930981), (1, .int 10), (0, .ref r1)]) hx hb dX5_markKeywords_60 hl (k := 0) rfl (nI_1 _) (by decide) rfl (fun ls hl => ?_)
                  refine lv_goto (tgt := 20) hx hb dX5_markKeywords_63 (by decide) ?_
                  obtain ⟨hP9, hD9⟩ := PDq.sub (ws' := [(oX5 r1 k1 k2 k3 (nI ct)), (k1, .inl (cA 0, 701, .inl fn148)), (k2, .inl (cA 0, 701, .inl ft)), (k3, .inl (cA 1, 701, .inr (.inl fv)))]) hP hD [0, 1, 2, 3] (by decide) rfl
                  exact ih3 (i3 + 1) fn148 H _ ls (by omega) hn150 (Mi.yesx hv0_3 (by omega) c145 c147 (by decide) (by decide) hn149) hP9 hD9 hS (lv_sub hl [0, 1, 2, 3] rfl)
          obtain ⟨hP9, hD9⟩ := PDq.sub (ws' := [(oX5 r1 k1 k2 k3 (nI ct)), (k1, .inl (cA 0, 701, .inl f1_2)), (k2, .inl (cA 0, 701, .inl ft)), (k3, .inl (cA 1, 701, .inr (.inl fv)))]) hP hD [0, 1, 2, 3] (by decide) rfl
          exact loop3 (ct - 0) 0 f1_2 _ _ ls (by omega) hf0_2 (Mk.mi (Mi.mk hv0_2)) hP9 hD9 hS (lv_sub hl [0, 1, 2, 3] rfl)
        | succ n2 ih2 =>
          intro i2 f1_2 H locs ls hi2 hf0_2 hv0_2 hP hD hS hl
          refine lv_iload hx hb dX5_markKeywords_20 (lv_at hl 0 rfl) ?_
          refine lv_aload_n hx hb dX5_markKeywords_22 rfl (lv_at hl 3 rfl) ?_
          refine va_get (D := D) (ci := 9) (v := .int (nI ct)) (C := RX5) (T := TX5) (N := 4) hx hb hts inX5 hown hK hP 0 rfl rfl 3 (by decide) (hts (.fieldLink RX5 22 "EscrowDesk$Scanner" "count" "I") (by decide +kernel)) (fun _ h9 => h9) rfl dX5_markKeywords_23 ?_
          refine lv_icmp_ge (tgt := 66) hx hb dX5_markKeywords_26 (by decide) (fun c9 => absurd c9 (nI_ge (a := i2) (b := ct) (show i2 < ct by omega) (by omega))) (fun c151 => ?_)
          refine lv_aload_n hx hb dX5_markKeywords_29 rfl (lv_at hl 3 rfl) ?_
          refine va_get (D := D) (ci := 9) (v := .ref k1) (C := RX5) (T := TX5) (N := 4) hx hb hts inX5 hown hK hP 0 rfl rfl 0 (by decide) (hts (.fieldLink RX5 9 "EscrowDesk$Scanner" "kinds" "[I") (by decide +kernel)) (fun _ h9 => h9) rfl dX5_markKeywords_30 ?_
          refine lv_iload hx hb dX5_markKeywords_33 (lv_at hl 0 rfl) ?_
          refine va_iald hx hb hK hP 1 0 rfl rfl (vp_in_nI (n := i2) (N := 701) (show i2 < 701 by omega) (by decide)) dX5_markKeywords_35 ?_
          refine lv_topi (fun yn152 eyn152 => ?_)
          obtain rfl : yn152 = (f1_2 i2) := eyn152.trans (by rw [nI_clamp (by omega)])
          refine lv_iconst (v := 4) hx hb dX5_markKeywords_36 (by decide) ?_
          refine lv_icmp_ne (tgt := 60) hx hb dX5_markKeywords_37 (by decide) (fun c153 => ?_) (fun c153 => ?_)
          · skip
            refine lv_iinc (v := (nI (i2 + 1))) (lv' := [(4, .int (nI (i2 + 1))), (2, .long 6309), (1, .int 9), (0, .ref r1)]) hx hb dX5_markKeywords_60 hl (k := 0) rfl (nI_1 _) (by decide) rfl (fun ls hl => ?_)
            refine lv_goto (tgt := 20) hx hb dX5_markKeywords_63 (by decide) ?_
            obtain ⟨hP9, hD9⟩ := PDq.sub (ws' := [(oX5 r1 k1 k2 k3 (nI ct)), (k1, .inl (cA 0, 701, .inl f1_2)), (k2, .inl (cA 0, 701, .inl ft)), (k3, .inl (cA 1, 701, .inr (.inl fv)))]) hP hD [0, 1, 2, 3] (by decide) rfl
            exact ih2 (i2 + 1) f1_2 H _ ls (by omega) hf0_2 (Mi.no hv0_2 (by omega) (fun q => c153 q.1)) hP9 hD9 hS (lv_sub hl [0, 1, 2, 3] rfl)
          · skip
            refine lv_aload_n hx hb dX5_markKeywords_40 rfl (lv_at hl 3 rfl) ?_
            refine va_get (D := D) (ci := 9) (v := .ref k3) (C := RX5) (T := TX5) (N := 4) hx hb hts inX5 hown hK hP 0 rfl rfl 2 (by decide) (hts (.fieldLink RX5 18 "EscrowDesk$Scanner" "values" "[J") (by decide +kernel)) (fun _ h9 => h9) rfl dX5_markKeywords_41 ?_
            refine lv_iload hx hb dX5_markKeywords_44 (lv_at hl 0 rfl) ?_
            refine va_lald hx hb hK hP 3 1 rfl rfl (vp_in_nI (n := i2) (N := 701) (show i2 < 701 by omega) (by decide)) dX5_markKeywords_46 ?_
            refine lv_topl (fun yn154 eyn154 => ?_)
            obtain rfl : yn154 = (fv i2) := eyn154.trans (by rw [nI_clamp (by omega)])
            refine lv_lload_n hx hb dX5_markKeywords_47 rfl (lv_at hl 1 rfl) ?_
            refine W.lcmp hx hb dX5_markKeywords_48 ?_
            refine lv_if_ne (tgt := 60) hx hb dX5_markKeywords_49 (by decide) (fun c155 => ?_) (fun c155 => ?_)
            · skip
              refine lv_iinc (v := (nI (i2 + 1))) (lv' := [(4, .int (nI (i2 + 1))), (2, .long 6309), (1, .int 9), (0, .ref r1)]) hx hb dX5_markKeywords_60 hl (k := 0) rfl (nI_1 _) (by decide) rfl (fun ls hl => ?_)
              refine lv_goto (tgt := 20) hx hb dX5_markKeywords_63 (by decide) ?_
              obtain ⟨hP9, hD9⟩ := PDq.sub (ws' := [(oX5 r1 k1 k2 k3 (nI ct)), (k1, .inl (cA 0, 701, .inl f1_2)), (k2, .inl (cA 0, 701, .inl ft)), (k3, .inl (cA 1, 701, .inr (.inl fv)))]) hP hD [0, 1, 2, 3] (by decide) rfl
              exact ih2 (i2 + 1) f1_2 H _ ls (by omega) hf0_2 (Mi.nox hv0_2 (by omega) c155 (by decide)) hP9 hD9 hS (lv_sub hl [0, 1, 2, 3] rfl)
            · skip
              refine lv_aload_n hx hb dX5_markKeywords_52 rfl (lv_at hl 3 rfl) ?_
              refine va_get (D := D) (ci := 9) (v := .ref k1) (C := RX5) (T := TX5) (N := 4) hx hb hts inX5 hown hK hP 0 rfl rfl 0 (by decide) (hts (.fieldLink RX5 9 "EscrowDesk$Scanner" "kinds" "[I") (by decide +kernel)) (fun _ h9 => h9) rfl dX5_markKeywords_53 ?_
              refine lv_iload hx hb dX5_markKeywords_56 (lv_at hl 0 rfl) ?_
              refine lv_iload_n hx hb dX5_markKeywords_58 rfl (lv_at hl 2 rfl) ?_
              refine va_iast hx hb hK hP hD hS 1 0 rfl rfl (vp_in_nI (n := i2) (N := 701) (show i2 < 701 by omega) (by decide)) dX5_markKeywords_59 (fun H locs hP hD hS => ?_)
              obtain ⟨hP, hD⟩ : PDq D A [(oX5 r1 k1 k2 k3 (nI ct)), (k1, .inl (cA 0, 701, .inl (upd f1_2 (((nI i2)).toNatClampNeg) 9))), (k2, .inl (cA 0, 701, .inl ft)), (k3, .inl (cA 1, 701, .inr (.inl fv)))] H := ⟨hP, hD⟩
              have hn157 : Upp i2 9 f1_2 (upd f1_2 (((nI i2)).toNatClampNeg) 9) := Upp.of (by omega)
              have hn158 : Rdd (upd f1_2 (((nI i2)).toNatClampNeg) 9) := rfl
              generalize (upd f1_2 (((nI i2)).toNatClampNeg) 9) = fn156 at hP hD hn157 hn158
              obtain ⟨hP, hD⟩ : PDq D A [(oX5 r1 k1 k2 k3 (nI ct)), (k1, .inl (cA 0, 701, .inl fn156)), (k2, .inl (cA 0, 701, .inl ft)), (k3, .inl (cA 1, 701, .inr (.inl fv)))] H := ⟨hP, hD⟩
              refine lv_iinc (v := (nI (i2 + 1))) (lv' := [(4, .int (nI (i2 + 1))), (2, .long 6309), (1, .int 9), (0, .ref r1)]) hx hb dX5_markKeywords_60 hl (k := 0) rfl (nI_1 _) (by decide) rfl (fun ls hl => ?_)
              refine lv_goto (tgt := 20) hx hb dX5_markKeywords_63 (by decide) ?_
              obtain ⟨hP9, hD9⟩ := PDq.sub (ws' := [(oX5 r1 k1 k2 k3 (nI ct)), (k1, .inl (cA 0, 701, .inl fn156)), (k2, .inl (cA 0, 701, .inl ft)), (k3, .inl (cA 1, 701, .inr (.inl fv)))]) hP hD [0, 1, 2, 3] (by decide) rfl
              exact ih2 (i2 + 1) fn156 H _ ls (by omega) hn158 (Mi.yesx hv0_2 (by omega) c153 c155 (by decide) (by decide) hn157) hP9 hD9 hS (lv_sub hl [0, 1, 2, 3] rfl)
      obtain ⟨hP9, hD9⟩ := PDq.sub (ws' := [(oX5 r1 k1 k2 k3 (nI ct)), (k1, .inl (cA 0, 701, .inl f1_1)), (k2, .inl (cA 0, 701, .inl ft)), (k3, .inl (cA 1, 701, .inr (.inl fv)))]) hP hD [0, 1, 2, 3] (by decide) rfl
      exact loop2 (ct - 0) 0 f1_1 _ _ ls (by omega) hf0_1 (Mk.mi (Mi.mk hv0_1)) hP9 hD9 hS (lv_sub hl [0, 1, 2, 3] rfl)
    | succ n1 ih1 =>
      intro i1 f1_1 H locs ls hi1 hf0_1 hv0_1 hP hD hS hl
      refine lv_iload hx hb dX5_markKeywords_20 (lv_at hl 0 rfl) ?_
      refine lv_aload_n hx hb dX5_markKeywords_22 rfl (lv_at hl 3 rfl) ?_
      refine va_get (D := D) (ci := 9) (v := .int (nI ct)) (C := RX5) (T := TX5) (N := 4) hx hb hts inX5 hown hK hP 0 rfl rfl 3 (by decide) (hts (.fieldLink RX5 22 "EscrowDesk$Scanner" "count" "I") (by decide +kernel)) (fun _ h9 => h9) rfl dX5_markKeywords_23 ?_
      refine lv_icmp_ge (tgt := 66) hx hb dX5_markKeywords_26 (by decide) (fun c9 => absurd c9 (nI_ge (a := i1) (b := ct) (show i1 < ct by omega) (by omega))) (fun c159 => ?_)
      refine lv_aload_n hx hb dX5_markKeywords_29 rfl (lv_at hl 3 rfl) ?_
      refine va_get (D := D) (ci := 9) (v := .ref k1) (C := RX5) (T := TX5) (N := 4) hx hb hts inX5 hown hK hP 0 rfl rfl 0 (by decide) (hts (.fieldLink RX5 9 "EscrowDesk$Scanner" "kinds" "[I") (by decide +kernel)) (fun _ h9 => h9) rfl dX5_markKeywords_30 ?_
      refine lv_iload hx hb dX5_markKeywords_33 (lv_at hl 0 rfl) ?_
      refine va_iald hx hb hK hP 1 0 rfl rfl (vp_in_nI (n := i1) (N := 701) (show i1 < 701 by omega) (by decide)) dX5_markKeywords_35 ?_
      refine lv_topi (fun yn160 eyn160 => ?_)
      obtain rfl : yn160 = (f1_1 i1) := eyn160.trans (by rw [nI_clamp (by omega)])
      refine lv_iconst (v := 4) hx hb dX5_markKeywords_36 (by decide) ?_
      refine lv_icmp_ne (tgt := 60) hx hb dX5_markKeywords_37 (by decide) (fun c161 => ?_) (fun c161 => ?_)
      · skip
        refine lv_iinc (v := (nI (i1 + 1))) (lv' := [(4, .int (nI (i1 + 1))), (2, .long 591493), (1, .int 8), (0, .ref r1)]) hx hb dX5_markKeywords_60 hl (k := 0) rfl (nI_1 _) (by decide) rfl (fun ls hl => ?_)
        refine lv_goto (tgt := 20) hx hb dX5_markKeywords_63 (by decide) ?_
        obtain ⟨hP9, hD9⟩ := PDq.sub (ws' := [(oX5 r1 k1 k2 k3 (nI ct)), (k1, .inl (cA 0, 701, .inl f1_1)), (k2, .inl (cA 0, 701, .inl ft)), (k3, .inl (cA 1, 701, .inr (.inl fv)))]) hP hD [0, 1, 2, 3] (by decide) rfl
        exact ih1 (i1 + 1) f1_1 H _ ls (by omega) hf0_1 (Mi.no hv0_1 (by omega) (fun q => c161 q.1)) hP9 hD9 hS (lv_sub hl [0, 1, 2, 3] rfl)
      · skip
        refine lv_aload_n hx hb dX5_markKeywords_40 rfl (lv_at hl 3 rfl) ?_
        refine va_get (D := D) (ci := 9) (v := .ref k3) (C := RX5) (T := TX5) (N := 4) hx hb hts inX5 hown hK hP 0 rfl rfl 2 (by decide) (hts (.fieldLink RX5 18 "EscrowDesk$Scanner" "values" "[J") (by decide +kernel)) (fun _ h9 => h9) rfl dX5_markKeywords_41 ?_
        refine lv_iload hx hb dX5_markKeywords_44 (lv_at hl 0 rfl) ?_
        refine va_lald hx hb hK hP 3 1 rfl rfl (vp_in_nI (n := i1) (N := 701) (show i1 < 701 by omega) (by decide)) dX5_markKeywords_46 ?_
        refine lv_topl (fun yn162 eyn162 => ?_)
        obtain rfl : yn162 = (fv i1) := eyn162.trans (by rw [nI_clamp (by omega)])
        refine lv_lload_n hx hb dX5_markKeywords_47 rfl (lv_at hl 1 rfl) ?_
        refine W.lcmp hx hb dX5_markKeywords_48 ?_
        refine lv_if_ne (tgt := 60) hx hb dX5_markKeywords_49 (by decide) (fun c163 => ?_) (fun c163 => ?_)
        · skip
          refine lv_iinc (v := (nI (i1 + 1))) (lv' := [(4, .int (nI (i1 + 1))), (2, .long 591493), (1, .int 8), (0, .ref r1)]) hx hb dX5_markKeywords_60 hl (k := 0) rfl (nI_1 _) (by decide) rfl (fun ls hl => ?_)
          refine lv_goto (tgt := 20) hx hb dX5_markKeywords_63 (by decide) ?_
          obtain ⟨hP9, hD9⟩ := PDq.sub (ws' := [(oX5 r1 k1 k2 k3 (nI ct)), (k1, .inl (cA 0, 701, .inl f1_1)), (k2, .inl (cA 0, 701, .inl ft)), (k3, .inl (cA 1, 701, .inr (.inl fv)))]) hP hD [0, 1, 2, 3] (by decide) rfl
          exact ih1 (i1 + 1) f1_1 H _ ls (by omega) hf0_1 (Mi.nox hv0_1 (by omega) c163 (by decide)) hP9 hD9 hS (lv_sub hl [0, 1, 2, 3] rfl)
        · skip
          refine lv_aload_n hx hb dX5_markKeywords_52 rfl (lv_at hl 3 rfl) ?_
          refine va_get (D := D) (ci := 9) (v := .ref k1) (C := RX5) (T := TX5) (N := 4) hx hb hts inX5 hown hK hP 0 rfl rfl 0 (by decide) (hts (.fieldLink RX5 9 "EscrowDesk$Scanner" "kinds" "[I") (by decide +kernel)) (fun _ h9 => h9) rfl dX5_markKeywords_53 ?_
          refine lv_iload hx hb dX5_markKeywords_56 (lv_at hl 0 rfl) ?_
          refine lv_iload_n hx hb dX5_markKeywords_58 rfl (lv_at hl 2 rfl) ?_
          refine va_iast hx hb hK hP hD hS 1 0 rfl rfl (vp_in_nI (n := i1) (N := 701) (show i1 < 701 by omega) (by decide)) dX5_markKeywords_59 (fun H locs hP hD hS => ?_)
          obtain ⟨hP, hD⟩ : PDq D A [(oX5 r1 k1 k2 k3 (nI ct)), (k1, .inl (cA 0, 701, .inl (upd f1_1 (((nI i1)).toNatClampNeg) 8))), (k2, .inl (cA 0, 701, .inl ft)), (k3, .inl (cA 1, 701, .inr (.inl fv)))] H := ⟨hP, hD⟩
          have hn165 : Upp i1 8 f1_1 (upd f1_1 (((nI i1)).toNatClampNeg) 8) := Upp.of (by omega)
          have hn166 : Rdd (upd f1_1 (((nI i1)).toNatClampNeg) 8) := rfl
          generalize (upd f1_1 (((nI i1)).toNatClampNeg) 8) = fn164 at hP hD hn165 hn166
          obtain ⟨hP, hD⟩ : PDq D A [(oX5 r1 k1 k2 k3 (nI ct)), (k1, .inl (cA 0, 701, .inl fn164)), (k2, .inl (cA 0, 701, .inl ft)), (k3, .inl (cA 1, 701, .inr (.inl fv)))] H := ⟨hP, hD⟩
          refine lv_iinc (v := (nI (i1 + 1))) (lv' := [(4, .int (nI (i1 + 1))), (2, .long 591493), (1, .int 8), (0, .ref r1)]) hx hb dX5_markKeywords_60 hl (k := 0) rfl (nI_1 _) (by decide) rfl (fun ls hl => ?_)
          refine lv_goto (tgt := 20) hx hb dX5_markKeywords_63 (by decide) ?_
          obtain ⟨hP9, hD9⟩ := PDq.sub (ws' := [(oX5 r1 k1 k2 k3 (nI ct)), (k1, .inl (cA 0, 701, .inl fn164)), (k2, .inl (cA 0, 701, .inl ft)), (k3, .inl (cA 1, 701, .inr (.inl fv)))]) hP hD [0, 1, 2, 3] (by decide) rfl
          exact ih1 (i1 + 1) fn164 H _ ls (by omega) hn166 (Mi.yesx hv0_1 (by omega) c161 c163 (by decide) (by decide) hn165) hP9 hD9 hS (lv_sub hl [0, 1, 2, 3] rfl)
  obtain ⟨hP9, hD9⟩ := PDq.sub (ws' := [(oX5 r1 k1 k2 k3 (nI ct)), (k1, .inl (cA 0, 701, .inl fk)), (k2, .inl (cA 0, 701, .inl ft)), (k3, .inl (cA 1, 701, .inr (.inl fv)))]) hP hD [0, 1, 2, 3] (by decide) rfl
  exact loop1 (ct - 0) 0 fk _ _ ls (by omega) rfl (Mk.mi (Mk.zero ct fk fv)) hP9 hD9 hS (lv_sub hl [0, 1, 2, 3] rfl)

