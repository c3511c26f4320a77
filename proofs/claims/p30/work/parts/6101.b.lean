set_option maxHeartbeats 4000000 in
set_option maxRecDepth 100000 in
/-- the wrapper of load -/
theorem v_loadIn (l : Launch) (D : va_G) (cA : Nat → ClassId) (sa : Nat → Nat) (h0 : Nat) (b0 : Nat) (nb : Nat) (p0 : Nat) (u0 : Nat) (r0 : Nat) (a0 : Nat) (t0 : Nat) (s0 : Nat) (o0 : Nat) (ir2 : Int32) (ir3 : Int32) (ir4 : Int32) (ir6 : Int32) (ir7 : Int32) (ir8 : Int32) (ir5 : Int64) (r1 : Nat) (k1 : Nat) (k2 : Nat) (k3 : Nat) (ct : Nat) (fk : Nat → Int32) (ft : Nat → Int32) (fv : Nat → Int64) (rq : Nat) (fb : Nat → Int32) (u1 : Nat) (u2 : Nat) (u3 : Nat) (u4 : Nat) (u5 : Nat) (u6 : Nat) (u7 : Nat) (u8 : Nat) (u9 : Nat) (cu : Nat) (qu : Nat) (du : Nat) (su : Nat) (ur : Int32) (ub : Int32) (ue : Int32) (ug : Int32) (ude : Nat → Int32) (uam : Nat → Int32) (upi : Nat → Int32) (uby : Nat → Int32) (ust : Nat → Int32) (uop : Nat → Int32) (uen : Nat → Int32) (una : Nat → Int64) (upn : Nat → Int64) (s1 : Nat) (wn : Nat) (wc : Nat) (a1 : Nat) (a2 : Nat) (a3 : Nat) (a4 : Nat) (a5 : Nat) (a6 : Nat) (i6 : Int32) (i7 : Int32) (i8 : Int32) (i12 : Int32) (i13 : Int32) (i14 : Int32) (i15 : Int32) (i16 : Int32) (i17 : Int32) (i18 : Int32) (i19 : Int32) (i9 : Int64) (i10 : Int64) (i11 : Int64) (nx : Nat) (kp : Nat) (fr : Nat → Int32) (fs : Nat → Int32) (fp : Nat → Int32) (ff : Nat → Int32) (fd : Nat → Int32) (n0 : Nat) (oo : Nat) (fo_ : Nat → Int64) (sz : Nat) (hl9 : l.stackTraces = false) (hct : ct ≤ 701) (hnx : nx < 60) (hkp : kp ≤ 60) (hcu : cu ≤ 10) (hqu : qu ≤ 8) (hdu : du ≤ 6) (hsu : su ≤ 350) (huby : Rng 10 10 uby) (huen : Rng 10 351 uen) (hnb : nb ≤ 700) (hn0 : n0 ≤ nb) : Met l yL_load wsL_load ({ frames := 50, cells := 0, slots := 0, locals := 1039 }) (va_Pc [.ref h0, .int (nI n0), .ref oo] (Wd2 D cA sa [(oX9 h0 b0 (nI nb) p0 u0 r0 a0 t0 s0 o0), (oX4 r0 r1 rq ir2 ir3 ir4 ir5 ir6 ir7 ir8), (oX5 r1 k1 k2 k3 (nI ct)), (k1, .inl (cA 0, 701, .inl fk)), (k2, .inl (cA 0, 701, .inl ft)), (k3, .inl (cA 1, 701, .inr (.inl fv))), (b0, .inl (cA 2, 700, .inl fb)), (oX3 u0 ur ub ue ug u1 (nI du) u2 u3 u4 u5 (nI cu) u6 (nI qu) u7 u8 u9 (nI su)), (u1, .inl (cA 0, 6, .inl ude)), (u2, .inl (cA 1, 10, .inr (.inl una))), (u3, .inl (cA 0, 10, .inl uam)), (u4, .inl (cA 0, 10, .inl upi)), (u5, .inl (cA 0, 10, .inl uby)), (u6, .inl (cA 1, 8, .inr (.inl upn))), (u7, .inl (cA 0, 350, .inl ust)), (u8, .inl (cA 0, 350, .inl uop)), (u9, .inl (cA 0, 10, .inl uen)), (oX0 a0 p0 a1 a3 a4 a5 a6 i6 i7 i8 i9 i10 i11 i12 i13 i14 i15 i16 i17 i18 i19), (a1, .inr (6, [.ref a2, .int (nI nx), .int (nI kp)])), (a2, .inl (cA 0, 240, .inl fr)), (a3, .inl (cA 0, 10, .inl fs)), (a4, .inl (cA 0, 10, .inl fp)), (a5, .inl (cA 0, 10, .inl ff)), (a6, .inl (cA 0, 10, .inl fd)), (s0, .inr (5, [.ref s1, .int (nI wn), .int (nI wc)])), (oo, .inl (cA 1, 1, .inr (.inl fo_)))] sz)) (va_Qi (fun (r : Int32) (_ : Unit) => r = 0) (fun (_ : Unit) t => ∃ pa : Nat, ∃ pu : Nat, ∃ pz : Nat, ∃ wc2 : Nat, ∃ yr2 : Int32, ∃ yr3 : Int32, ∃ yr4 : Int32, ∃ yr6 : Int32, ∃ yr7 : Int32, ∃ yr8 : Int32, ∃ yr5 : Int64, ∃ cy : Nat, ∃ zk : Nat → Int32, ∃ zt : Nat → Int32, ∃ zv : Nat → Int64, ∃ cm : Nat, ∃ qm : Nat, ∃ dm : Nat, ∃ sm : Nat, ∃ zra : Int32, ∃ zba : Int32, ∃ zea : Int32, ∃ zga : Int32, ∃ zde : Nat → Int32, ∃ zam : Nat → Int32, ∃ zpi : Nat → Int32, ∃ zby : Nat → Int32, ∃ zst : Nat → Int32, ∃ zop : Nat → Int32, ∃ zen : Nat → Int32, ∃ zna : Nat → Int64, ∃ zpn : Nat → Int64, ∃ z6 : Int32, ∃ z7 : Int32, ∃ z8 : Int32, ∃ z12 : Int32, ∃ z13 : Int32, ∃ z14 : Int32, ∃ z15 : Int32, ∃ z16 : Int32, ∃ z17 : Int32, ∃ z18 : Int32, ∃ z19 : Int32, ∃ z9 : Int64, ∃ z10 : Int64, ∃ z11 : Int64, ∃ ny : Nat, ∃ ky : Nat, ∃ zr : Nat → Int32, ∃ zs : Nat → Int32, ∃ zp : Nat → Int32, ∃ zf : Nat → Int32, ∃ zd : Nat → Int32, ∃ zml : List Int64, ∃ zpl : List Int64, ∃ rr : Int32, ∃ zo_ : Nat → Int64, ((pa = p0 ∧ pu = u0 ∧ pz = p0 ∧ wc2 = wc ∧ rr = -3 ∧ TP zk zt zv 0 0 [] [] (.inl (yr7, yr8))) ∨ (pa = u0 ∧ pu = p0 ∧ pz = u0 ∧ wc2 = 0 ∧ rr = nI cm ∧ yr7 = 0 ∧ yr8 = -1 ∧ TP zk zt zv 0 0 [] [] (.inr (zml, zpl)))) ∧ cy ≤ 701 ∧ TXE fb n0 cy zt zv zk ∧ cm ≤ 10 ∧ qm ≤ 8 ∧ dm ≤ 6 ∧ sm ≤ 350 ∧ Rng 10 10 zby ∧ Rng 10 351 zen ∧ ny < 60 ∧ ky ≤ 60 ∧ NL zml cm zna ∧ NL zpl qm zpn ∧ OutV rr zo_ ∧ Wq D (va_A [(oX9 h0 b0 (nI nb) p0 u0 r0 a0 t0 s0 o0), (oX4 r0 r1 rq ir2 ir3 ir4 ir5 ir6 ir7 ir8), (oX5 r1 k1 k2 k3 (nI ct)), (k1, .inl (cA 0, 701, .inl fk)), (k2, .inl (cA 0, 701, .inl ft)), (k3, .inl (cA 1, 701, .inr (.inl fv))), (b0, .inl (cA 2, 700, .inl fb)), (oX3 u0 ur ub ue ug u1 (nI du) u2 u3 u4 u5 (nI cu) u6 (nI qu) u7 u8 u9 (nI su)), (u1, .inl (cA 0, 6, .inl ude)), (u2, .inl (cA 1, 10, .inr (.inl una))), (u3, .inl (cA 0, 10, .inl uam)), (u4, .inl (cA 0, 10, .inl upi)), (u5, .inl (cA 0, 10, .inl uby)), (u6, .inl (cA 1, 8, .inr (.inl upn))), (u7, .inl (cA 0, 350, .inl ust)), (u8, .inl (cA 0, 350, .inl uop)), (u9, .inl (cA 0, 10, .inl uen)), (oX0 a0 p0 a1 a3 a4 a5 a6 i6 i7 i8 i9 i10 i11 i12 i13 i14 i15 i16 i17 i18 i19), (a1, .inr (6, [.ref a2, .int (nI nx), .int (nI kp)])), (a2, .inl (cA 0, 240, .inl fr)), (a3, .inl (cA 0, 10, .inl fs)), (a4, .inl (cA 0, 10, .inl fp)), (a5, .inl (cA 0, 10, .inl ff)), (a6, .inl (cA 0, 10, .inl fd)), (s0, .inr (5, [.ref s1, .int (nI wn), .int (nI wc)])), (oo, .inl (cA 1, 1, .inr (.inl fo_)))] sz) [(oX9 h0 b0 0 pa pu r0 a0 t0 s0 o0), (oX4 r0 r1 u0 yr2 yr3 yr4 yr5 yr6 yr7 yr8), (oX5 r1 k1 k2 k3 (nI cy)), (k1, .inl (cA 0, 701, .inl zk)), (k2, .inl (cA 0, 701, .inl zt)), (k3, .inl (cA 1, 701, .inr (.inl zv))), (b0, .inl (cA 2, 700, .inl fb)), (oX3 u0 zra zba zea zga u1 (nI dm) u2 u3 u4 u5 (nI cm) u6 (nI qm) u7 u8 u9 (nI sm)), (u1, .inl (cA 0, 6, .inl zde)), (u2, .inl (cA 1, 10, .inr (.inl zna))), (u3, .inl (cA 0, 10, .inl zam)), (u4, .inl (cA 0, 10, .inl zpi)), (u5, .inl (cA 0, 10, .inl zby)), (u6, .inl (cA 1, 8, .inr (.inl zpn))), (u7, .inl (cA 0, 350, .inl zst)), (u8, .inl (cA 0, 350, .inl zop)), (u9, .inl (cA 0, 10, .inl zen)), (oX0 a0 pz a1 a3 a4 a5 a6 z6 z7 z8 z9 z10 z11 z12 z13 z14 z15 z16 z17 z18 z19), (a1, .inr (6, [.ref a2, .int (nI ny), .int (nI ky)])), (a2, .inl (cA 0, 240, .inl zr)), (a3, .inl (cA 0, 10, .inl zs)), (a4, .inl (cA 0, 10, .inl zp)), (a5, .inl (cA 0, 10, .inl zf)), (a6, .inl (cA 0, 10, .inl zd)), (s0, .inr (5, [.ref s1, .int (nI wn), .int (nI wc2)])), (oo, .inl (cA 1, 1, .inr (.inl zo_)))] t) (va_A [(oX9 h0 b0 (nI nb) p0 u0 r0 a0 t0 s0 o0), (oX4 r0 r1 rq ir2 ir3 ir4 ir5 ir6 ir7 ir8), (oX5 r1 k1 k2 k3 (nI ct)), (k1, .inl (cA 0, 701, .inl fk)), (k2, .inl (cA 0, 701, .inl ft)), (k3, .inl (cA 1, 701, .inr (.inl fv))), (b0, .inl (cA 2, 700, .inl fb)), (oX3 u0 ur ub ue ug u1 (nI du) u2 u3 u4 u5 (nI cu) u6 (nI qu) u7 u8 u9 (nI su)), (u1, .inl (cA 0, 6, .inl ude)), (u2, .inl (cA 1, 10, .inr (.inl una))), (u3, .inl (cA 0, 10, .inl uam)), (u4, .inl (cA 0, 10, .inl upi)), (u5, .inl (cA 0, 10, .inl uby)), (u6, .inl (cA 1, 8, .inr (.inl upn))), (u7, .inl (cA 0, 350, .inl ust)), (u8, .inl (cA 0, 350, .inl uop)), (u9, .inl (cA 0, 10, .inl uen)), (oX0 a0 p0 a1 a3 a4 a5 a6 i6 i7 i8 i9 i10 i11 i12 i13 i14 i15 i16 i17 i18 i19), (a1, .inr (6, [.ref a2, .int (nI nx), .int (nI kp)])), (a2, .inl (cA 0, 240, .inl fr)), (a3, .inl (cA 0, 10, .inl fs)), (a4, .inl (cA 0, 10, .inl fp)), (a5, .inl (cA 0, 10, .inl ff)), (a6, .inl (cA 0, 10, .inl fd)), (s0, .inr (5, [.ref s1, .int (nI wn), .int (nI wc)])), (oo, .inl (cA 1, 1, .inr (.inl fo_)))] sz)) 0 0 (va_A [(oX9 h0 b0 (nI nb) p0 u0 r0 a0 t0 s0 o0), (oX4 r0 r1 rq ir2 ir3 ir4 ir5 ir6 ir7 ir8), (oX5 r1 k1 k2 k3 (nI ct)), (k1, .inl (cA 0, 701, .inl fk)), (k2, .inl (cA 0, 701, .inl ft)), (k3, .inl (cA 1, 701, .inr (.inl fv))), (b0, .inl (cA 2, 700, .inl fb)), (oX3 u0 ur ub ue ug u1 (nI du) u2 u3 u4 u5 (nI cu) u6 (nI qu) u7 u8 u9 (nI su)), (u1, .inl (cA 0, 6, .inl ude)), (u2, .inl (cA 1, 10, .inr (.inl una))), (u3, .inl (cA 0, 10, .inl uam)), (u4, .inl (cA 0, 10, .inl upi)), (u5, .inl (cA 0, 10, .inl uby)), (u6, .inl (cA 1, 8, .inr (.inl upn))), (u7, .inl (cA 0, 350, .inl ust)), (u8, .inl (cA 0, 350, .inl uop)), (u9, .inl (cA 0, 10, .inl uen)), (oX0 a0 p0 a1 a3 a4 a5 a6 i6 i7 i8 i9 i10 i11 i12 i13 i14 i15 i16 i17 i18 i19), (a1, .inr (6, [.ref a2, .int (nI nx), .int (nI kp)])), (a2, .inl (cA 0, 240, .inl fr)), (a3, .inl (cA 0, 10, .inl fs)), (a4, .inl (cA 0, 10, .inl fp)), (a5, .inl (cA 0, 10, .inl ff)), (a6, .inl (cA 0, 10, .inl fd)), (s0, .inr (5, [.ref s1, .int (nI wn), .int (nI wc)])), (oo, .inl (cA 1, 1, .inr (.inl fo_)))] sz) := by
  refine va_MetW (cc := cL_load) (maxL := 4) (ret := (some .int)) (hh := [(0, 9, 12, 13)]) (by decide) rfl ?_
  intro p e s m args below meth c s₁ B hml hv
  obtain ⟨rfl, ⟨hsz, hP, hK, hD0, hC, hZ⟩, hG⟩ := hv
  have hx := B.exec
  have hb := B.bytes
  have hr := B.returns
  have hts := atoms_spec (ws := wsL_load) B.pre
  have hown : s.vm.findClass RL = some m.cls := findClass_of_methodNamed B.named
  have hlocks := B.notSynchronized
  have htab := vx_table (x := yL_load) B (hts (.codeWith yL_load cL_load 4 (some .int) [(0, 9, 12, 13)]) List.mem_cons_self)
  subst hsz
  have hD := hD0.self (sz := s.heap.size)
  generalize hAe : va_A [(oX9 h0 b0 (nI nb) p0 u0 r0 a0 t0 s0 o0), (oX4 r0 r1 rq ir2 ir3 ir4 ir5 ir6 ir7 ir8), (oX5 r1 k1 k2 k3 (nI ct)), (k1, .inl (cA 0, 701, .inl fk)), (k2, .inl (cA 0, 701, .inl ft)), (k3, .inl (cA 1, 701, .inr (.inl fv))), (b0, .inl (cA 2, 700, .inl fb)), (oX3 u0 ur ub ue ug u1 (nI du) u2 u3 u4 u5 (nI cu) u6 (nI qu) u7 u8 u9 (nI su)), (u1, .inl (cA 0, 6, .inl ude)), (u2, .inl (cA 1, 10, .inr (.inl una))), (u3, .inl (cA 0, 10, .inl uam)), (u4, .inl (cA 0, 10, .inl upi)), (u5, .inl (cA 0, 10, .inl uby)), (u6, .inl (cA 1, 8, .inr (.inl upn))), (u7, .inl (cA 0, 350, .inl ust)), (u8, .inl (cA 0, 350, .inl uop)), (u9, .inl (cA 0, 10, .inl uen)), (oX0 a0 p0 a1 a3 a4 a5 a6 i6 i7 i8 i9 i10 i11 i12 i13 i14 i15 i16 i17 i18 i19), (a1, .inr (6, [.ref a2, .int (nI nx), .int (nI kp)])), (a2, .inl (cA 0, 240, .inl fr)), (a3, .inl (cA 0, 10, .inl fs)), (a4, .inl (cA 0, 10, .inl fp)), (a5, .inl (cA 0, 10, .inl ff)), (a6, .inl (cA 0, 10, .inl fd)), (s0, .inr (5, [.ref s1, .int (nI wn), .int (nI wc)])), (oo, .inl (cA 1, 1, .inr (.inl fo_)))] s.heap.size = A at hD hZ hG ⊢
  have hA : ∀ q : Nat, s.heap.size ≤ q → A q := fun q h => by rw [← hAe]; exact Or.inr h
  have hS : va_S A s.heap s.heap [] := va_S.rf
  have hP : va_P D vwCl [(oX9 h0 b0 (nI nb) p0 u0 r0 a0 t0 s0 o0), (oX4 r0 r1 rq ir2 ir3 ir4 ir5 ir6 ir7 ir8), (oX5 r1 k1 k2 k3 (nI ct)), (k1, .inl (cA 0, 701, .inl fk)), (k2, .inl (cA 0, 701, .inl ft)), (k3, .inl (cA 1, 701, .inr (.inl fv))), (b0, .inl (cA 2, 700, .inl fb)), (oX3 u0 ur ub ue ug u1 (nI du) u2 u3 u4 u5 (nI cu) u6 (nI qu) u7 u8 u9 (nI su)), (u1, .inl (cA 0, 6, .inl ude)), (u2, .inl (cA 1, 10, .inr (.inl una))), (u3, .inl (cA 0, 10, .inl uam)), (u4, .inl (cA 0, 10, .inl upi)), (u5, .inl (cA 0, 10, .inl uby)), (u6, .inl (cA 1, 8, .inr (.inl upn))), (u7, .inl (cA 0, 350, .inl ust)), (u8, .inl (cA 0, 350, .inl uop)), (u9, .inl (cA 0, 10, .inl uen)), (oX0 a0 p0 a1 a3 a4 a5 a6 i6 i7 i8 i9 i10 i11 i12 i13 i14 i15 i16 i17 i18 i19), (a1, .inr (6, [.ref a2, .int (nI nx), .int (nI kp)])), (a2, .inl (cA 0, 240, .inl fr)), (a3, .inl (cA 0, 10, .inl fs)), (a4, .inl (cA 0, 10, .inl fp)), (a5, .inl (cA 0, 10, .inl ff)), (a6, .inl (cA 0, 10, .inl fd)), (s0, .inr (5, [.ref s1, .int (nI wn), .int (nI wc)])), (oo, .inl (cA 1, 1, .inr (.inl fo_)))] s.heap := hP
  have hl := lv_entry ([.ref h0, .int (nI n0), .ref oo]) (n := 4) (Nat.le_of_ble_eq_true rfl)
  rw [lg_entry_eq]
  generalize (lg_sl ([.ref h0, .int (nI n0), .ref oo]) ++ List.replicate (4 - (lg_sl ([.ref h0, .int (nI n0), .ref oo])).length) Slot.unset).toArray = ls at hl ⊢
  have hl : lv_has ls 4 [(0, .ref h0), (1, .int (nI n0)), (2, .ref oo)] := hl
  refine lv_aload_n hx hb dL_load_0 rfl (lv_at hl 2 rfl) ?_
  refine lv_iconst (v := 0) hx hb dL_load_1 (by decide) ?_
  refine lv_aload_n hx hb dL_load_2 rfl (lv_at hl 0 rfl) ?_
  refine lv_iload_n hx hb dL_load_3 rfl (lv_at hl 1 rfl) ?_
  obtain ⟨hPc, hDc, hFc⟩ := PDq.cut (wc := [(oX9 h0 b0 (nI nb) p0 u0 r0 a0 t0 s0 o0), (oX4 r0 r1 rq ir2 ir3 ir4 ir5 ir6 ir7 ir8), (oX5 r1 k1 k2 k3 (nI ct)), (k1, .inl (cA 0, 701, .inl fk)), (k2, .inl (cA 0, 701, .inl ft)), (k3, .inl (cA 1, 701, .inr (.inl fv))), (b0, .inl (cA 2, 700, .inl fb)), (oX3 u0 ur ub ue ug u1 (nI du) u2 u3 u4 u5 (nI cu) u6 (nI qu) u7 u8 u9 (nI su)), (u1, .inl (cA 0, 6, .inl ude)), (u2, .inl (cA 1, 10, .inr (.inl una))), (u3, .inl (cA 0, 10, .inl uam)), (u4, .inl (cA 0, 10, .inl upi)), (u5, .inl (cA 0, 10, .inl uby)), (u6, .inl (cA 1, 8, .inr (.inl upn))), (u7, .inl (cA 0, 350, .inl ust)), (u8, .inl (cA 0, 350, .inl uop)), (u9, .inl (cA 0, 10, .inl uen)), (oX0 a0 p0 a1 a3 a4 a5 a6 i6 i7 i8 i9 i10 i11 i12 i13 i14 i15 i16 i17 i18 i19), (a1, .inr (6, [.ref a2, .int (nI nx), .int (nI kp)])), (a2, .inl (cA 0, 240, .inl fr)), (a3, .inl (cA 0, 10, .inl fs)), (a4, .inl (cA 0, 10, .inl fp)), (a5, .inl (cA 0, 10, .inl ff)), (a6, .inl (cA 0, 10, .inl fd)), (s0, .inr (5, [.ref s1, .int (nI wn), .int (nI wc)]))]) hP hD hS hA [0, 1, 2, 3, 4, 5, 6, 7, 8, 9, 10, 11, 12, 13, 14, 15, 16, 17, 18, 19, 20, 21, 22, 23, 24] (by decide +kernel) rfl
  refine va_calli (va_runV (As := [.int (nI n0)]) (rest := [.int 0, .ref oo]) ⟨hx, hb, hml, hown, hts⟩ (x_loadIn l D cA sa h0 b0 nb p0 u0 r0 a0 t0 s0 o0 ir2 ir3 ir4 ir6 ir7 ir8 ir5 r1 k1 k2 k3 ct fk ft fv rq fb u1 u2 u3 u4 u5 u6 u7 u8 u9 cu qu du su ur ub ue ug ude uam upi uby ust uop uen una upn s1 wn wc a1 a2 a3 a4 a5 a6 i6 i7 i8 i12 i13 i14 i15 i16 i17 i18 i19 i9 i10 i11 nx kp fr fs fp ff fd n0 s.heap.size hct hnx hkp hcu hqu hdu hsu huby huen hnb hn0) (cwV 1 hts gL_load_X9_load rfl rfl rfl (by decide +kernel) ⟨(Nat.le_of_ble_eq_true rfl), (Nat.le_of_ble_eq_true rfl)⟩) ⟨Wd.blind, va_recv hK hPc (ci := 10) (q0 := 0) rfl rfl, fun U hU hW => ⟨rfl, Wd.call hPc hDc hK hC hZ hS hFc U hU hW⟩⟩ rfl rfl hl.1 rfl (lv_room (Nat.le_of_ble_eq_true rfl)) dL_load_4 ⟨(Nat.le_of_ble_eq_true rfl), (Nat.le_of_ble_eq_true rfl)⟩) hS (fun q _ h => hFc q h) hFc (fun rn1 u t H1 locs ht hvm hw hB hz1 hk1 hS => ?_)
  obtain rfl : rn1 = u := hw.symm
  obtain ⟨qn2, qn3, qn4, qn5, zn6, zn7, zn8, zn9, zn10, zn11, zn12, qn13, fn14, fn15, fn16, qn17, qn18, qn19, qn20, zn21, zn22, zn23, zn24, fn25, fn26, fn27, fn28, fn29, fn30, fn31, fn32, fn33, zn34, zn35, zn36, zn37, zn38, zn39, zn40, zn41, zn42, zn43, zn44, zn45, zn46, zn47, qn48, qn49, fn50, fn51, fn52, fn53, fn54, zn55, zn56, hn57, hn58, hn59, hn60, hn61, hn62, hn63, hn64, hn65, hn66, hn67, hn68, hn69, hP1, hD1⟩ := hB
  rw [ht] at hP1
  obtain ⟨hP, hD⟩ := PDq.join (w := [(oo, .inl (cA 1, 1, .inr (.inl fo_))), (oX9 h0 b0 0 qn2 qn3 r0 a0 t0 s0 o0), (oX4 r0 r1 u0 zn6 zn7 zn8 zn12 zn9 zn10 zn11), (oX5 r1 k1 k2 k3 (nI qn13)), (k1, .inl (cA 0, 701, .inl fn14)), (k2, .inl (cA 0, 701, .inl fn15)), (k3, .inl (cA 1, 701, .inr (.inl fn16))), (b0, .inl (cA 2, 700, .inl fb)), (oX3 u0 zn21 zn22 zn23 zn24 u1 (nI qn19) u2 u3 u4 u5 (nI qn17) u6 (nI qn18) u7 u8 u9 (nI qn20)), (u1, .inl (cA 0, 6, .inl fn25)), (u2, .inl (cA 1, 10, .inr (.inl fn32))), (u3, .inl (cA 0, 10, .inl fn26)), (u4, .inl (cA 0, 10, .inl fn27)), (u5, .inl (cA 0, 10, .inl fn28)), (u6, .inl (cA 1, 8, .inr (.inl fn33))), (u7, .inl (cA 0, 350, .inl fn29)), (u8, .inl (cA 0, 350, .inl fn30)), (u9, .inl (cA 0, 10, .inl fn31)), (oX0 a0 qn4 a1 a3 a4 a5 a6 zn34 zn35 zn36 zn45 zn46 zn47 zn37 zn38 zn39 zn40 zn41 zn42 zn43 zn44), (a1, .inr (6, [.ref a2, .int (nI qn48), .int (nI qn49)])), (a2, .inl (cA 0, 240, .inl fn50)), (a3, .inl (cA 0, 10, .inl fn51)), (a4, .inl (cA 0, 10, .inl fn52)), (a5, .inl (cA 0, 10, .inl fn53)), (a6, .inl (cA 0, 10, .inl fn54)), (s0, .inr (5, [.ref s1, .int (nI wn), .int (nI qn5)]))]) 1 hP hD [0, 1, 2, 3, 4, 5, 6, 7, 8, 9, 10, 11, 12, 13, 14, 15, 16, 17, 18, 19, 20, 21, 22, 23, 24] [25] rfl rfl (by decide) (by decide +kernel) hk1 hFc hP1 hD1 rfl
  generalize H1 = H at hP hS ⊢
  refine lv_i2l (v := (rn1.toInt64)) hx hb dL_load_7 rfl ?_
  refine va_last hx hb hK hP hD hS 0 1 rfl rfl (vp_in_iff.mpr (by decide)) dL_load_8 (fun H locs hP hD hS => ?_)
  obtain ⟨hP, hD⟩ : PDq D A [(oo, .inl (cA 1, 1, .inr (.inl (vp_updL fo_ 0 (rn1.toInt64))))), (oX9 h0 b0 0 qn2 qn3 r0 a0 t0 s0 o0), (oX4 r0 r1 u0 zn6 zn7 zn8 zn12 zn9 zn10 zn11), (oX5 r1 k1 k2 k3 (nI qn13)), (k1, .inl (cA 0, 701, .inl fn14)), (k2, .inl (cA 0, 701, .inl fn15)), (k3, .inl (cA 1, 701, .inr (.inl fn16))), (b0, .inl (cA 2, 700, .inl fb)), (oX3 u0 zn21 zn22 zn23 zn24 u1 (nI qn19) u2 u3 u4 u5 (nI qn17) u6 (nI qn18) u7 u8 u9 (nI qn20)), (u1, .inl (cA 0, 6, .inl fn25)), (u2, .inl (cA 1, 10, .inr (.inl fn32))), (u3, .inl (cA 0, 10, .inl fn26)), (u4, .inl (cA 0, 10, .inl fn27)), (u5, .inl (cA 0, 10, .inl fn28)), (u6, .inl (cA 1, 8, .inr (.inl fn33))), (u7, .inl (cA 0, 350, .inl fn29)), (u8, .inl (cA 0, 350, .inl fn30)), (u9, .inl (cA 0, 10, .inl fn31)), (oX0 a0 qn4 a1 a3 a4 a5 a6 zn34 zn35 zn36 zn45 zn46 zn47 zn37 zn38 zn39 zn40 zn41 zn42 zn43 zn44), (a1, .inr (6, [.ref a2, .int (nI qn48), .int (nI qn49)])), (a2, .inl (cA 0, 240, .inl fn50)), (a3, .inl (cA 0, 10, .inl fn51)), (a4, .inl (cA 0, 10, .inl fn52)), (a5, .inl (cA 0, 10, .inl fn53)), (a6, .inl (cA 0, 10, .inl fn54)), (s0, .inr (5, [.ref s1, .int (nI wn), .int (nI qn5)]))] H := ⟨hP, hD⟩
  have hn71 : UppL 0 (rn1.toInt64) fo_ (vp_updL fo_ 0 (rn1.toInt64)) := rfl
  have hn72 : Rdd (vp_updL fo_ 0 (rn1.toInt64)) := rfl
  generalize (vp_updL fo_ 0 (rn1.toInt64)) = fn70 at hP hD hn71 hn72
  obtain ⟨hP, hD⟩ : PDq D A [(oo, .inl (cA 1, 1, .inr (.inl fn70))), (oX9 h0 b0 0 qn2 qn3 r0 a0 t0 s0 o0), (oX4 r0 r1 u0 zn6 zn7 zn8 zn12 zn9 zn10 zn11), (oX5 r1 k1 k2 k3 (nI qn13)), (k1, .inl (cA 0, 701, .inl fn14)), (k2, .inl (cA 0, 701, .inl fn15)), (k3, .inl (cA 1, 701, .inr (.inl fn16))), (b0, .inl (cA 2, 700, .inl fb)), (oX3 u0 zn21 zn22 zn23 zn24 u1 (nI qn19) u2 u3 u4 u5 (nI qn17) u6 (nI qn18) u7 u8 u9 (nI qn20)), (u1, .inl (cA 0, 6, .inl fn25)), (u2, .inl (cA 1, 10, .inr (.inl fn32))), (u3, .inl (cA 0, 10, .inl fn26)), (u4, .inl (cA 0, 10, .inl fn27)), (u5, .inl (cA 0, 10, .inl fn28)), (u6, .inl (cA 1, 8, .inr (.inl fn33))), (u7, .inl (cA 0, 350, .inl fn29)), (u8, .inl (cA 0, 350, .inl fn30)), (u9, .inl (cA 0, 10, .inl fn31)), (oX0 a0 qn4 a1 a3 a4 a5 a6 zn34 zn35 zn36 zn45 zn46 zn47 zn37 zn38 zn39 zn40 zn41 zn42 zn43 zn44), (a1, .inr (6, [.ref a2, .int (nI qn48), .int (nI qn49)])), (a2, .inl (cA 0, 240, .inl fn50)), (a3, .inl (cA 0, 10, .inl fn51)), (a4, .inl (cA 0, 10, .inl fn52)), (a5, .inl (cA 0, 10, .inl fn53)), (a6, .inl (cA 0, 10, .inl fn54)), (s0, .inr (5, [.ref s1, .int (nI wn), .int (nI qn5)]))] H := ⟨hP, hD⟩
  refine lv_goto (tgt := 15) hx hb dL_load_9 (by decide) ?_
  refine lv_iconst (v := 0) hx hb dL_load_15 (by decide) ?_
  obtain ⟨hP9, hD9⟩ := PDq.sub (ws' := [(oX9 h0 b0 0 qn2 qn3 r0 a0 t0 s0 o0), (oX4 r0 r1 u0 zn6 zn7 zn8 zn12 zn9 zn10 zn11), (oX5 r1 k1 k2 k3 (nI qn13)), (k1, .inl (cA 0, 701, .inl fn14)), (k2, .inl (cA 0, 701, .inl fn15)), (k3, .inl (cA 1, 701, .inr (.inl fn16))), (b0, .inl (cA 2, 700, .inl fb)), (oX3 u0 zn21 zn22 zn23 zn24 u1 (nI qn19) u2 u3 u4 u5 (nI qn17) u6 (nI qn18) u7 u8 u9 (nI qn20)), (u1, .inl (cA 0, 6, .inl fn25)), (u2, .inl (cA 1, 10, .inr (.inl fn32))), (u3, .inl (cA 0, 10, .inl fn26)), (u4, .inl (cA 0, 10, .inl fn27)), (u5, .inl (cA 0, 10, .inl fn28)), (u6, .inl (cA 1, 8, .inr (.inl fn33))), (u7, .inl (cA 0, 350, .inl fn29)), (u8, .inl (cA 0, 350, .inl fn30)), (u9, .inl (cA 0, 10, .inl fn31)), (oX0 a0 qn4 a1 a3 a4 a5 a6 zn34 zn35 zn36 zn45 zn46 zn47 zn37 zn38 zn39 zn40 zn41 zn42 zn43 zn44), (a1, .inr (6, [.ref a2, .int (nI qn48), .int (nI qn49)])), (a2, .inl (cA 0, 240, .inl fn50)), (a3, .inl (cA 0, 10, .inl fn51)), (a4, .inl (cA 0, 10, .inl fn52)), (a5, .inl (cA 0, 10, .inl fn53)), (a6, .inl (cA 0, 10, .inl fn54)), (s0, .inr (5, [.ref s1, .int (nI wn), .int (nI qn5)])), (oo, .inl (cA 1, 1, .inr (.inl fn70)))]) hP hD [1, 2, 3, 4, 5, 6, 7, 8, 9, 10, 11, 12, 13, 14, 15, 16, 17, 18, 19, 20, 21, 22, 23, 24, 25, 0] (by decide +kernel) rfl
  refine W.widen (k := 0) (n := 0) (Nat.le_of_ble_eq_true rfl) (Nat.le_of_ble_eq_true rfl) ?_
  exact (W.iret (v := 0) hx hb hr (fun t ht hW => ⟨⟨0, (), rfl, rfl, qn2, qn3, qn4, qn5, zn6, zn7, zn8, zn9, zn10, zn11, zn12, qn13, fn14, fn15, fn16, qn17, qn18, qn19, qn20, zn21, zn22, zn23, zn24, fn25, fn26, fn27, fn28, fn29, fn30, fn31, fn32, fn33, zn34, zn35, zn36, zn37, zn38, zn39, zn40, zn41, zn42, zn43, zn44, zn45, zn46, zn47, qn48, qn49, fn50, fn51, fn52, fn53, fn54, zn55, zn56, rn1, fn70, hn57, hn58, hn59, hn60, hn61, hn62, hn63, hn64, hn65, hn66, hn67, hn68, hn69, (OutV.of hn71), by rw [ht]; exact hP9, hD9⟩, hS.F ht⟩) hS.2.2 dL_load_16)

set_option maxHeartbeats 4000000 in
set_option maxRecDepth 100000 in
/-- the wrapper of load -/
theorem v_loadOut (l : Launch) (D : va_G) (cA : Nat → ClassId) (sa : Nat → Nat) (h0 : Nat) (b0 : Nat) (nb : Nat) (p0 : Nat) (u0 : Nat) (r0 : Nat) (a0 : Nat) (t0 : Nat) (s0 : Nat) (o0 : Nat) (i : Int32) (oo : Nat) (fo_ : Nat → Int64) (sz : Nat) (hl9 : l.stackTraces = false) (hout : i < 0 ∨ nI nb < i) : Met l yL_load wsL_load ({ frames := 8, cells := 1, slots := 6, locals := 135 }) (va_Pc [.ref h0, .int i, .ref oo] (Wd2 D cA sa [(oX9 h0 b0 (nI nb) p0 u0 r0 a0 t0 s0 o0), (oo, .inl (cA 1, 1, .inr (.inl fo_)))] sz)) (va_Qi (fun (r : Int32) (_ : Unit) => r = 1) (fun (_ : Unit) t => ∃ zo_ : Nat → Int64, Wq D (va_A [(oX9 h0 b0 (nI nb) p0 u0 r0 a0 t0 s0 o0), (oo, .inl (cA 1, 1, .inr (.inl fo_)))] sz) [(oX9 h0 b0 (nI nb) p0 u0 r0 a0 t0 s0 o0), (oo, .inl (cA 1, 1, .inr (.inl zo_)))] t) (va_A [(oX9 h0 b0 (nI nb) p0 u0 r0 a0 t0 s0 o0), (oo, .inl (cA 1, 1, .inr (.inl fo_)))] sz)) 1 6 (va_A [(oX9 h0 b0 (nI nb) p0 u0 r0 a0 t0 s0 o0), (oo, .inl (cA 1, 1, .inr (.inl fo_)))] sz) := by
  refine va_MetW (cc := cL_load) (maxL := 4) (ret := (some .int)) (hh := [(0, 9, 12, 13)]) (by decide) rfl ?_
  intro p e s m args below meth c s₁ B hml hv
  obtain ⟨rfl, ⟨hsz, hP, hK, hD0, hC, hZ⟩, hG⟩ := hv
  have hx := B.exec
  have hb := B.bytes
  have hr := B.returns
  have hts := atoms_spec (ws := wsL_load) B.pre
  have hown : s.vm.findClass RL = some m.cls := findClass_of_methodNamed B.named
  have hlocks := B.notSynchronized
  have htab := vx_table (x := yL_load) B (hts (.codeWith yL_load cL_load 4 (some .int) [(0, 9, 12, 13)]) List.mem_cons_self)
  subst hsz
  have hD := hD0.self (sz := s.heap.size)
  generalize hAe : va_A [(oX9 h0 b0 (nI nb) p0 u0 r0 a0 t0 s0 o0), (oo, .inl (cA 1, 1, .inr (.inl fo_)))] s.heap.size = A at hD hZ hG ⊢
  have hA : ∀ q : Nat, s.heap.size ≤ q → A q := fun q h => by rw [← hAe]; exact Or.inr h
  have hS : va_S A s.heap s.heap [] := va_S.rf
  have hP : va_P D vwCl [(oX9 h0 b0 (nI nb) p0 u0 r0 a0 t0 s0 o0), (oo, .inl (cA 1, 1, .inr (.inl fo_)))] s.heap := hP
  have hl := lv_entry ([.ref h0, .int i, .ref oo]) (n := 4) (Nat.le_of_ble_eq_true rfl)
  rw [lg_entry_eq]
  generalize (lg_sl ([.ref h0, .int i, .ref oo]) ++ List.replicate (4 - (lg_sl ([.ref h0, .int i, .ref oo])).length) Slot.unset).toArray = ls at hl ⊢
  have hl : lv_has ls 4 [(0, .ref h0), (1, .int i), (2, .ref oo)] := hl
  refine lv_aload_n hx hb dL_load_0 rfl (lv_at hl 2 rfl) ?_
  refine lv_iconst (v := 0) hx hb dL_load_1 (by decide) ?_
  refine lv_aload_n hx hb dL_load_2 rfl (lv_at hl 0 rfl) ?_
  refine lv_iload_n hx hb dL_load_3 rfl (lv_at hl 1 rfl) ?_
  obtain ⟨hPc, hDc, hFc⟩ := PDq.cut (wc := [(oX9 h0 b0 (nI nb) p0 u0 r0 a0 t0 s0 o0)]) hP hD hS hA [0] (by decide) rfl
  refine vx_calli (vx_runV (As := [.int i]) (rest := [.int 0, .ref oo]) ⟨hx, hb, hml, hown, hts⟩ (s_loadOut l D cA sa h0 b0 nb p0 u0 r0 a0 t0 s0 o0 i s.heap.size hl9 hout) (cwV 1 hts gL_load_X9_load rfl rfl rfl (by decide +kernel) ⟨(Nat.le_of_ble_eq_true rfl), (Nat.le_of_ble_eq_true rfl)⟩) ⟨Wd.blind, va_recv hK hPc (ci := 10) (q0 := 0) rfl rfl, fun U hU hW => ⟨rfl, Wd.call hPc hDc hK hC hZ hS hFc U hU hW⟩⟩ rfl rfl hl.1 rfl (lv_room (Nat.le_of_ble_eq_true rfl)) dL_load_4 ⟨(Nat.le_of_ble_eq_true rfl), (Nat.le_of_ble_eq_true rfl)⟩) hS (fun q _ h => hFc q h) hFc (fun q _ h => hFc q h) (fun E ce q9 u t H1 locs ht hvm hpx hE hz1 hk1 hS hcell hv9 hcl => ?_) (fun rn1 u t H1 locs ht hvm hw hB hz1 hk1 hS => ?_)
  · skip
    obtain ⟨hE, hP1, hD1⟩ := hE
    rw [ht] at hP1
    obtain ⟨hP, hD⟩ := PDq.join (w := [(oo, .inl (cA 1, 1, .inr (.inl fo_))), (oX9 h0 b0 (nI nb) p0 u0 r0 a0 t0 s0 o0)]) 1 hP hD [0] [1] rfl rfl (by decide) (by decide) hk1 hFc hP1 hD1 rfl
    generalize H1 = H at hP hS hcell ⊢
    have hE : E = "java/lang/IllegalArgumentException" := hE
    subst hE
    refine vx_catch hown [] ⟨0, 9, 12, 13⟩ (tableOf []) (htab.trans rfl) (fun z h => absurd h List.not_mem_nil) (by decide) (by decide) (name := "java/lang/IllegalArgumentException") (hts (.classLink RL 13 "java/lang/IllegalArgumentException") (by decide +kernel)) (hC.c (by decide +kernel)) hcell hv9 hcl ?_
    refine lv_astore_n (lv' := [(3, .ref q9), (0, .ref h0), (1, .int i), (2, .ref oo)]) hx hb dL_load_12 rfl hl (by decide) rfl (fun ls hl => ?_)
    refine lv_iconst (v := 1) hx hb dL_load_13 (by decide) ?_
    obtain ⟨hP9, hD9⟩ := PDq.sub (ws' := [(oX9 h0 b0 (nI nb) p0 u0 r0 a0 t0 s0 o0), (oo, .inl (cA 1, 1, .inr (.inl fo_)))]) hP hD [1, 0] (by decide) rfl
    refine W.widen (k := 1) (n := 6) (Nat.le_of_ble_eq_true rfl) (Nat.le_of_ble_eq_true rfl) ?_
    exact (W.iret (v := 1) hx hb hr (fun t ht hW => ⟨⟨1, (), rfl, rfl, fo_, by rw [ht]; exact hP9, hD9⟩, hS.F ht⟩) hS.2.2 dL_load_14)
  · skip
    exact hw.elim

set_option maxHeartbeats 4000000 in
set_option maxRecDepth 100000 in
/-- the wrapper of proofCharacter -/
theorem v_pcIn (l : Launch) (D : va_G) (cA : Nat → ClassId) (sa : Nat → Nat) (h0 : Nat) (b0 : Nat) (nb : Nat) (p0 : Nat) (u0 : Nat) (r0 : Nat) (a0 : Nat) (t0 : Nat) (s0 : Nat) (o0 : Nat) (p1 : Nat) (p2 : Nat) (p3 : Nat) (p4 : Nat) (p5 : Nat) (p6 : Nat) (p7 : Nat) (p8 : Nat) (p9 : Nat) (cn : Nat) (pq : Nat) (nd : Nat) (sc : Nat) (pr : Int32) (pb : Int32) (pe : Int32) (pg : Int32) (ki : Nat) (kj : Nat) (x : Nat) (n9 : Nat) (fpn : Nat → Int64) (oo : Nat) (fo_ : Nat → Int64) (sz : Nat) (hl9 : l.stackTraces = false) (hcn : cn ≤ 10) (hpq : pq ≤ 8) (hnd : nd ≤ 6) (hsc : sc ≤ 350) (hki : ki < pq) (hx9 : x < 35184372088832) (hfx : fpn ki = lN x) (hdc : DC x n9) (hkj : kj < n9) : Met l yL_proofCharacter wsL_proofCharacter ({ frames := 3, cells := 0, slots := 0, locals := 69 }) (va_Pc [.ref h0, .int (nI ki), .int (nI kj), .ref oo] (Wd2 D cA sa [(oX9 h0 b0 (nI nb) p0 u0 r0 a0 t0 s0 o0), (oX3 p0 pr pb pe pg p1 (nI nd) p2 p3 p4 p5 (nI cn) p6 (nI pq) p7 p8 p9 (nI sc)), (p6, .inl (cA 1, 8, .inr (.inl fpn))), (oo, .inl (cA 1, 1, .inr (.inl fo_)))] sz)) (va_Qi (fun (r : Int32) (_ : Unit) => r = 0) (fun (_ : Unit) t => ∃ zo_ : Nat → Int64, OutV (nI (lt9 x n9 kj)) zo_ ∧ Wq D (va_A [(oX9 h0 b0 (nI nb) p0 u0 r0 a0 t0 s0 o0), (oX3 p0 pr pb pe pg p1 (nI nd) p2 p3 p4 p5 (nI cn) p6 (nI pq) p7 p8 p9 (nI sc)), (p6, .inl (cA 1, 8, .inr (.inl fpn))), (oo, .inl (cA 1, 1, .inr (.inl fo_)))] sz) [(oX9 h0 b0 (nI nb) p0 u0 r0 a0 t0 s0 o0), (oX3 p0 pr pb pe pg p1 (nI nd) p2 p3 p4 p5 (nI cn) p6 (nI pq) p7 p8 p9 (nI sc)), (p6, .inl (cA 1, 8, .inr (.inl fpn))), (oo, .inl (cA 1, 1, .inr (.inl zo_)))] t) (va_A [(oX9 h0 b0 (nI nb) p0 u0 r0 a0 t0 s0 o0), (oX3 p0 pr pb pe pg p1 (nI nd) p2 p3 p4 p5 (nI cn) p6 (nI pq) p7 p8 p9 (nI sc)), (p6, .inl (cA 1, 8, .inr (.inl fpn))), (oo, .inl (cA 1, 1, .inr (.inl fo_)))] sz)) 0 0 (va_A [(oX9 h0 b0 (nI nb) p0 u0 r0 a0 t0 s0 o0), (oX3 p0 pr pb pe pg p1 (nI nd) p2 p3 p4 p5 (nI cn) p6 (nI pq) p7 p8 p9 (nI sc)), (p6, .inl (cA 1, 8, .inr (.inl fpn))), (oo, .inl (cA 1, 1, .inr (.inl fo_)))] sz) := by
  refine va_MetW (cc := cL_proofCharacter) (maxL := 5) (ret := (some .int)) (hh := [(0, 10, 13, 18)]) (by decide) rfl ?_
  intro p e s m args below meth c s₁ B hml hv
  obtain ⟨rfl, ⟨hsz, hP, hK, hD0, hC, hZ⟩, hG⟩ := hv
  have hx := B.exec
  have hb := B.bytes
  have hr := B.returns
  have hts := atoms_spec (ws := wsL_proofCharacter) B.pre
  have hown : s.vm.findClass RL = some m.cls := findClass_of_methodNamed B.named
  have hlocks := B.notSynchronized
  have htab := vx_table (x := yL_proofCharacter) B (hts (.codeWith yL_proofCharacter cL_proofCharacter 5 (some .int) [(0, 10, 13, 18)]) List.mem_cons_self)
  subst hsz
  have hD := hD0.self (sz := s.heap.size)
  generalize hAe : va_A [(oX9 h0 b0 (nI nb) p0 u0 r0 a0 t0 s0 o0), (oX3 p0 pr pb pe pg p1 (nI nd) p2 p3 p4 p5 (nI cn) p6 (nI pq) p7 p8 p9 (nI sc)), (p6, .inl (cA 1, 8, .inr (.inl fpn))), (oo, .inl (cA 1, 1, .inr (.inl fo_)))] s.heap.size = A at hD hZ hG ⊢
  have hA : ∀ q : Nat, s.heap.size ≤ q → A q := fun q h => by rw [← hAe]; exact Or.inr h
  have hS : va_S A s.heap s.heap [] := va_S.rf
  have hP : va_P D vwCl [(oX9 h0 b0 (nI nb) p0 u0 r0 a0 t0 s0 o0), (oX3 p0 pr pb pe pg p1 (nI nd) p2 p3 p4 p5 (nI cn) p6 (nI pq) p7 p8 p9 (nI sc)), (p6, .inl (cA 1, 8, .inr (.inl fpn))), (oo, .inl (cA 1, 1, .inr (.inl fo_)))] s.heap := hP
  have hl := lv_entry ([.ref h0, .int (nI ki), .int (nI kj), .ref oo]) (n := 5) (Nat.le_of_ble_eq_true rfl)
  rw [lg_entry_eq]
  generalize (lg_sl ([.ref h0, .int (nI ki), .int (nI kj), .ref oo]) ++ List.replicate (5 - (lg_sl ([.ref h0, .int (nI ki), .int (nI kj), .ref oo])).length) Slot.unset).toArray = ls at hl ⊢
  have hl : lv_has ls 5 [(0, .ref h0), (1, .int (nI ki)), (2, .int (nI kj)), (3, .ref oo)] := hl
  refine lv_aload_n hx hb dL_proofCharacter_0 rfl (lv_at hl 3 rfl) ?_
  refine lv_iconst (v := 0) hx hb dL_proofCharacter_1 (by decide) ?_
  refine lv_aload_n hx hb dL_proofCharacter_2 rfl (lv_at hl 0 rfl) ?_
  refine lv_iload_n hx hb dL_proofCharacter_3 rfl (lv_at hl 1 rfl) ?_
  refine lv_iload_n hx hb dL_proofCharacter_4 rfl (lv_at hl 2 rfl) ?_
  obtain ⟨hPc, hDc, hFc⟩ := PDq.cut (wc := [(oX9 h0 b0 (nI nb) p0 u0 r0 a0 t0 s0 o0), (oX3 p0 pr pb pe pg p1 (nI nd) p2 p3 p4 p5 (nI cn) p6 (nI pq) p7 p8 p9 (nI sc)), (p6, .inl (cA 1, 8, .inr (.inl fpn)))]) hP hD hS hA [0, 1, 2] (by decide) rfl
  refine va_calli (va_runV (As := [.int (nI ki), .int (nI kj)]) (rest := [.int 0, .ref oo]) ⟨hx, hb, hml, hown, hts⟩ (x_pcIn l D cA sa h0 b0 nb p0 u0 r0 a0 t0 s0 o0 p1 p2 p3 p4 p5 p6 p7 p8 p9 cn pq nd sc pr pb pe pg ki kj x n9 fpn s.heap.size hcn hpq hnd hsc hki hx9 hfx hdc hkj) (cwV 2 hts gL_proofCharacter_X9_proofCharacter rfl rfl rfl (by decide +kernel) ⟨(Nat.le_of_ble_eq_true rfl), (Nat.le_of_ble_eq_true rfl)⟩) ⟨Wd.blind, va_recv hK hPc (ci := 10) (q0 := 0) rfl rfl, fun U hU hW => ⟨rfl, Wd.call hPc hDc hK hC hZ hS hFc U hU hW⟩⟩ rfl rfl hl.1 rfl (lv_room (Nat.le_of_ble_eq_true rfl)) dL_proofCharacter_5 ⟨(Nat.le_of_ble_eq_true rfl), (Nat.le_of_ble_eq_true rfl)⟩) hS (fun q _ h => hFc q h) hFc (fun rn1 u t H1 locs ht hvm hw hB hz1 hk1 hS => ?_)
  obtain ⟨hP1, hD1⟩ := hB
  rw [ht] at hP1
  obtain ⟨hP, hD⟩ := PDq.join (w := [(oo, .inl (cA 1, 1, .inr (.inl fo_))), (oX9 h0 b0 (nI nb) p0 u0 r0 a0 t0 s0 o0), (oX3 p0 pr pb pe pg p1 (nI nd) p2 p3 p4 p5 (nI cn) p6 (nI pq) p7 p8 p9 (nI sc)), (p6, .inl (cA 1, 8, .inr (.inl fpn)))]) 1 hP hD [0, 1, 2] [3] rfl rfl (by decide) (by decide) hk1 hFc hP1 hD1 rfl
  generalize H1 = H at hP hS ⊢
  obtain rfl : rn1 = (nI (lt9 x n9 kj)) := hw
  refine lv_i2l (v := ((nI (lt9 x n9 kj)).toInt64)) hx hb dL_proofCharacter_8 rfl ?_
  refine va_last hx hb hK hP hD hS 0 1 rfl rfl (vp_in_iff.mpr (by decide)) dL_proofCharacter_9 (fun H locs hP hD hS => ?_)
  obtain ⟨hP, hD⟩ : PDq D A [(oo, .inl (cA 1, 1, .inr (.inl (vp_updL fo_ 0 ((nI (lt9 x n9 kj)).toInt64))))), (oX9 h0 b0 (nI nb) p0 u0 r0 a0 t0 s0 o0), (oX3 p0 pr pb pe pg p1 (nI nd) p2 p3 p4 p5 (nI cn) p6 (nI pq) p7 p8 p9 (nI sc)), (p6, .inl (cA 1, 8, .inr (.inl fpn)))] H := ⟨hP, hD⟩
  have hn3 : UppL 0 ((nI (lt9 x n9 kj)).toInt64) fo_ (vp_updL fo_ 0 ((nI (lt9 x n9 kj)).toInt64)) := rfl
  have hn4 : Rdd (vp_updL fo_ 0 ((nI (lt9 x n9 kj)).toInt64)) := rfl
  generalize (vp_updL fo_ 0 ((nI (lt9 x n9 kj)).toInt64)) = fn2 at hP hD hn3 hn4
  obtain ⟨hP, hD⟩ : PDq D A [(oo, .inl (cA 1, 1, .inr (.inl fn2))), (oX9 h0 b0 (nI nb) p0 u0 r0 a0 t0 s0 o0), (oX3 p0 pr pb pe pg p1 (nI nd) p2 p3 p4 p5 (nI cn) p6 (nI pq) p7 p8 p9 (nI sc)), (p6, .inl (cA 1, 8, .inr (.inl fpn)))] H := ⟨hP, hD⟩
  refine lv_goto (tgt := 17) hx hb dL_proofCharacter_10 (by decide) ?_
  refine lv_iconst (v := 0) hx hb dL_proofCharacter_17 (by decide) ?_
  obtain ⟨hP9, hD9⟩ := PDq.sub (ws' := [(oX9 h0 b0 (nI nb) p0 u0 r0 a0 t0 s0 o0), (oX3 p0 pr pb pe pg p1 (nI nd) p2 p3 p4 p5 (nI cn) p6 (nI pq) p7 p8 p9 (nI sc)), (p6, .inl (cA 1, 8, .inr (.inl fpn))), (oo, .inl (cA 1, 1, .inr (.inl fn2)))]) hP hD [1, 2, 3, 0] (by decide) rfl
  refine W.widen (k := 0) (n := 0) (Nat.le_of_ble_eq_true rfl) (Nat.le_of_ble_eq_true rfl) ?_
  exact (W.iret (v := 0) hx hb hr (fun t ht hW => ⟨⟨0, (), rfl, rfl, fn2, (OutV.of hn3), by rw [ht]; exact hP9, hD9⟩, hS.F ht⟩) hS.2.2 dL_proofCharacter_18)

set_option maxHeartbeats 4000000 in
set_option maxRecDepth 100000 in
/-- the wrapper of proofCharacter -/
theorem v_pcOutI (l : Launch) (D : va_G) (cA : Nat → ClassId) (sa : Nat → Nat) (h0 : Nat) (b0 : Nat) (nb : Nat) (p0 : Nat) (u0 : Nat) (r0 : Nat) (a0 : Nat) (t0 : Nat) (s0 : Nat) (o0 : Nat) (p1 : Nat) (p2 : Nat) (p3 : Nat) (p4 : Nat) (p5 : Nat) (p6 : Nat) (p7 : Nat) (p8 : Nat) (p9 : Nat) (cn : Nat) (pq : Nat) (nd : Nat) (sc : Nat) (pr : Int32) (pb : Int32) (pe : Int32) (pg : Int32) (ki : Nat) (x : Nat) (n9 : Nat) (j : Int32) (fpn : Nat → Int64) (oo : Nat) (fo_ : Nat → Int64) (sz : Nat) (hl9 : l.stackTraces = false) (hcn : cn ≤ 10) (hpq : pq ≤ 8) (hnd : nd ≤ 6) (hsc : sc ≤ 350) (hki : ki < pq) (hx9 : x < 35184372088832) (hfx : fpn ki = lN x) (hdc : DC x n9) (hout : ¬ ∃ k, k < n9 ∧ j = nI k) : Met l yL_proofCharacter wsL_proofCharacter ({ frames := 8, cells := 1, slots := 6, locals := 135 }) (va_Pc [.ref h0, .int (nI ki), .int j, .ref oo] (Wd2 D cA sa [(oX9 h0 b0 (nI nb) p0 u0 r0 a0 t0 s0 o0), (oX3 p0 pr pb pe pg p1 (nI nd) p2 p3 p4 p5 (nI cn) p6 (nI pq) p7 p8 p9 (nI sc)), (p6, .inl (cA 1, 8, .inr (.inl fpn))), (oo, .inl (cA 1, 1, .inr (.inl fo_)))] sz)) (va_Qi (fun (r : Int32) (_ : Unit) => r = 1) (fun (_ : Unit) t => ∃ zo_ : Nat → Int64, Wq D (va_A [(oX9 h0 b0 (nI nb) p0 u0 r0 a0 t0 s0 o0), (oX3 p0 pr pb pe pg p1 (nI nd) p2 p3 p4 p5 (nI cn) p6 (nI pq) p7 p8 p9 (nI sc)), (p6, .inl (cA 1, 8, .inr (.inl fpn))), (oo, .inl (cA 1, 1, .inr (.inl fo_)))] sz) [(oX9 h0 b0 (nI nb) p0 u0 r0 a0 t0 s0 o0), (oX3 p0 pr pb pe pg p1 (nI nd) p2 p3 p4 p5 (nI cn) p6 (nI pq) p7 p8 p9 (nI sc)), (p6, .inl (cA 1, 8, .inr (.inl fpn))), (oo, .inl (cA 1, 1, .inr (.inl zo_)))] t) (va_A [(oX9 h0 b0 (nI nb) p0 u0 r0 a0 t0 s0 o0), (oX3 p0 pr pb pe pg p1 (nI nd) p2 p3 p4 p5 (nI cn) p6 (nI pq) p7 p8 p9 (nI sc)), (p6, .inl (cA 1, 8, .inr (.inl fpn))), (oo, .inl (cA 1, 1, .inr (.inl fo_)))] sz)) 1 6 (va_A [(oX9 h0 b0 (nI nb) p0 u0 r0 a0 t0 s0 o0), (oX3 p0 pr pb pe pg p1 (nI nd) p2 p3 p4 p5 (nI cn) p6 (nI pq) p7 p8 p9 (nI sc)), (p6, .inl (cA 1, 8, .inr (.inl fpn))), (oo, .inl (cA 1, 1, .inr (.inl fo_)))] sz) := by
  refine va_MetW (cc := cL_proofCharacter) (maxL := 5) (ret := (some .int)) (hh := [(0, 10, 13, 18)]) (by decide) rfl ?_
  intro p e s m args below meth c s₁ B hml hv
  obtain ⟨rfl, ⟨hsz, hP, hK, hD0, hC, hZ⟩, hG⟩ := hv
  have hx := B.exec
  have hb := B.bytes
  have hr := B.returns
  have hts := atoms_spec (ws := wsL_proofCharacter) B.pre
  have hown : s.vm.findClass RL = some m.cls := findClass_of_methodNamed B.named
  have hlocks := B.notSynchronized
  have htab := vx_table (x := yL_proofCharacter) B (hts (.codeWith yL_proofCharacter cL_proofCharacter 5 (some .int) [(0, 10, 13, 18)]) List.mem_cons_self)
  subst hsz
  have hD := hD0.self (sz := s.heap.size)
  generalize hAe : va_A [(oX9 h0 b0 (nI nb) p0 u0 r0 a0 t0 s0 o0), (oX3 p0 pr pb pe pg p1 (nI nd) p2 p3 p4 p5 (nI cn) p6 (nI pq) p7 p8 p9 (nI sc)), (p6, .inl (cA 1, 8, .inr (.inl fpn))), (oo, .inl (cA 1, 1, .inr (.inl fo_)))] s.heap.size = A at hD hZ hG ⊢
  have hA : ∀ q : Nat, s.heap.size ≤ q → A q := fun q h => by rw [← hAe]; exact Or.inr h
  have hS : va_S A s.heap s.heap [] := va_S.rf
  have hP : va_P D vwCl [(oX9 h0 b0 (nI nb) p0 u0 r0 a0 t0 s0 o0), (oX3 p0 pr pb pe pg p1 (nI nd) p2 p3 p4 p5 (nI cn) p6 (nI pq) p7 p8 p9 (nI sc)), (p6, .inl (cA 1, 8, .inr (.inl fpn))), (oo, .inl (cA 1, 1, .inr (.inl fo_)))] s.heap := hP
  have hl := lv_entry ([.ref h0, .int (nI ki), .int j, .ref oo]) (n := 5) (Nat.le_of_ble_eq_true rfl)
  rw [lg_entry_eq]
  generalize (lg_sl ([.ref h0, .int (nI ki), .int j, .ref oo]) ++ List.replicate (5 - (lg_sl ([.ref h0, .int (nI ki), .int j, .ref oo])).length) Slot.unset).toArray = ls at hl ⊢
  have hl : lv_has ls 5 [(0, .ref h0), (1, .int (nI ki)), (2, .int j), (3, .ref oo)] := hl
  refine lv_aload_n hx hb dL_proofCharacter_0 rfl (lv_at hl 3 rfl) ?_
  refine lv_iconst (v := 0) hx hb dL_proofCharacter_1 (by decide) ?_
  refine lv_aload_n hx hb dL_proofCharacter_2 rfl (lv_at hl 0 rfl) ?_
  refine lv_iload_n hx hb dL_proofCharacter_3 rfl (lv_at hl 1 rfl) ?_
  refine lv_iload_n hx hb dL_proofCharacter_4 rfl (lv_at hl 2 rfl) ?_
  obtain ⟨hPc, hDc, hFc⟩ := PDq.cut (wc := [(oX9 h0 b0 (nI nb) p0 u0 r0 a0 t0 s0 o0), (oX3 p0 pr pb pe pg p1 (nI nd) p2 p3 p4 p5 (nI cn) p6 (nI pq) p7 p8 p9 (nI sc)), (p6, .inl (cA 1, 8, .inr (.inl fpn)))]) hP hD hS hA [0, 1, 2] (by decide) rfl
  refine vx_calli (vx_runV (As := [.int (nI ki), .int j]) (rest := [.int 0, .ref oo]) ⟨hx, hb, hml, hown, hts⟩ (x_pcOutI l D cA sa h0 b0 nb p0 u0 r0 a0 t0 s0 o0 p1 p2 p3 p4 p5 p6 p7 p8 p9 cn pq nd sc pr pb pe pg ki x n9 j fpn s.heap.size hl9 hcn hpq hnd hsc hki hx9 hfx hdc hout) (cwV 2 hts gL_proofCharacter_X9_proofCharacter rfl rfl rfl (by decide +kernel) ⟨(Nat.le_of_ble_eq_true rfl), (Nat.le_of_ble_eq_true rfl)⟩) ⟨Wd.blind, va_recv hK hPc (ci := 10) (q0 := 0) rfl rfl, fun U hU hW => ⟨rfl, Wd.call hPc hDc hK hC hZ hS hFc U hU hW⟩⟩ rfl rfl hl.1 rfl (lv_room (Nat.le_of_ble_eq_true rfl)) dL_proofCharacter_5 ⟨(Nat.le_of_ble_eq_true rfl), (Nat.le_of_ble_eq_true rfl)⟩) hS (fun q _ h => hFc q h) hFc (fun q _ h => hFc q h) (fun E ce q9 u t H1 locs ht hvm hpx hE hz1 hk1 hS hcell hv9 hcl => ?_) (fun rn1 u t H1 locs ht hvm hw hB hz1 hk1 hS => ?_)
  · skip
    obtain ⟨hE, hP1, hD1⟩ := hE
    rw [ht] at hP1
    obtain ⟨hP, hD⟩ := PDq.join (w := [(oo, .inl (cA 1, 1, .inr (.inl fo_))), (oX9 h0 b0 (nI nb) p0 u0 r0 a0 t0 s0 o0), (oX3 p0 pr pb pe pg p1 (nI nd) p2 p3 p4 p5 (nI cn) p6 (nI pq) p7 p8 p9 (nI sc)), (p6, .inl (cA 1, 8, .inr (.inl fpn)))]) 1 hP hD [0, 1, 2] [3] rfl rfl (by decide) (by decide) hk1 hFc hP1 hD1 rfl
    generalize H1 = H at hP hS hcell ⊢
    have hE : E = "java/lang/IndexOutOfBoundsException" := hE
    subst hE
    refine vx_catch hown [] ⟨0, 10, 13, 18⟩ (tableOf []) (htab.trans rfl) (fun z h => absurd h List.not_mem_nil) (by decide) (by decide) (name := "java/lang/IndexOutOfBoundsException") (hts (.classLink RL 18 "java/lang/IndexOutOfBoundsException") (by decide +kernel)) (hC.c (by decide +kernel)) hcell hv9 hcl ?_
    refine lv_astore (lv' := [(4, .ref q9), (0, .ref h0), (1, .int (nI ki)), (2, .int j), (3, .ref oo)]) hx hb dL_proofCharacter_13 hl (by decide) rfl (fun ls hl => ?_)
    refine lv_iconst (v := 1) hx hb dL_proofCharacter_15 (by decide) ?_
    obtain ⟨hP9, hD9⟩ := PDq.sub (ws' := [(oX9 h0 b0 (nI nb) p0 u0 r0 a0 t0 s0 o0), (oX3 p0 pr pb pe pg p1 (nI nd) p2 p3 p4 p5 (nI cn) p6 (nI pq) p7 p8 p9 (nI sc)), (p6, .inl (cA 1, 8, .inr (.inl fpn))), (oo, .inl (cA 1, 1, .inr (.inl fo_)))]) hP hD [1, 2, 3, 0] (by decide) rfl
    refine W.widen (k := 1) (n := 6) (Nat.le_of_ble_eq_true rfl) (Nat.le_of_ble_eq_true rfl) ?_
    exact (W.iret (v := 1) hx hb hr (fun t ht hW => ⟨⟨1, (), rfl, rfl, fo_, by rw [ht]; exact hP9, hD9⟩, hS.F ht⟩) hS.2.2 dL_proofCharacter_16)
  · skip
    exact hw.elim

set_option maxHeartbeats 4000000 in
set_option maxRecDepth 100000 in
/-- the wrapper of proofCharacter -/
theorem v_pcOutP (l : Launch) (D : va_G) (cA : Nat → ClassId) (sa : Nat → Nat) (h0 : Nat) (b0 : Nat) (nb : Nat) (p0 : Nat) (u0 : Nat) (r0 : Nat) (a0 : Nat) (t0 : Nat) (s0 : Nat) (o0 : Nat) (p1 : Nat) (p2 : Nat) (p3 : Nat) (p4 : Nat) (p5 : Nat) (p6 : Nat) (p7 : Nat) (p8 : Nat) (p9 : Nat) (cn : Nat) (pq : Nat) (nd : Nat) (sc : Nat) (pr : Int32) (pb : Int32) (pe : Int32) (pg : Int32) (i : Int32) (j : Int32) (oo : Nat) (fo_ : Nat → Int64) (sz : Nat) (hl9 : l.stackTraces = false) (hcn : cn ≤ 10) (hpq : pq ≤ 8) (hnd : nd ≤ 6) (hsc : sc ≤ 350) (hout : ¬ ∃ k, k < pq ∧ i = nI k) : Met l yL_proofCharacter wsL_proofCharacter ({ frames := 9, cells := 1, slots := 6, locals := 156 }) (va_Pc [.ref h0, .int i, .int j, .ref oo] (Wd2 D cA sa [(oX9 h0 b0 (nI nb) p0 u0 r0 a0 t0 s0 o0), (oX3 p0 pr pb pe pg p1 (nI nd) p2 p3 p4 p5 (nI cn) p6 (nI pq) p7 p8 p9 (nI sc)), (oo, .inl (cA 1, 1, .inr (.inl fo_)))] sz)) (va_Qi (fun (r : Int32) (_ : Unit) => r = 1) (fun (_ : Unit) t => ∃ zo_ : Nat → Int64, Wq D (va_A [(oX9 h0 b0 (nI nb) p0 u0 r0 a0 t0 s0 o0), (oX3 p0 pr pb pe pg p1 (nI nd) p2 p3 p4 p5 (nI cn) p6 (nI pq) p7 p8 p9 (nI sc)), (oo, .inl (cA 1, 1, .inr (.inl fo_)))] sz) [(oX9 h0 b0 (nI nb) p0 u0 r0 a0 t0 s0 o0), (oX3 p0 pr pb pe pg p1 (nI nd) p2 p3 p4 p5 (nI cn) p6 (nI pq) p7 p8 p9 (nI sc)), (oo, .inl (cA 1, 1, .inr (.inl zo_)))] t) (va_A [(oX9 h0 b0 (nI nb) p0 u0 r0 a0 t0 s0 o0), (oX3 p0 pr pb pe pg p1 (nI nd) p2 p3 p4 p5 (nI cn) p6 (nI pq) p7 p8 p9 (nI sc)), (oo, .inl (cA 1, 1, .inr (.inl fo_)))] sz)) 1 6 (va_A [(oX9 h0 b0 (nI nb) p0 u0 r0 a0 t0 s0 o0), (oX3 p0 pr pb pe pg p1 (nI nd) p2 p3 p4 p5 (nI cn) p6 (nI pq) p7 p8 p9 (nI sc)), (oo, .inl (cA 1, 1, .inr (.inl fo_)))] sz) := by
  refine va_MetW (cc := cL_proofCharacter) (maxL := 5) (ret := (some .int)) (hh := [(0, 10, 13, 18)]) (by decide) rfl ?_
  intro p e s m args below meth c s₁ B hml hv
  obtain ⟨rfl, ⟨hsz, hP, hK, hD0, hC, hZ⟩, hG⟩ := hv
  have hx := B.exec
  have hb := B.bytes
  have hr := B.returns
  have hts := atoms_spec (ws := wsL_proofCharacter) B.pre
  have hown : s.vm.findClass RL = some m.cls := findClass_of_methodNamed B.named
  have hlocks := B.notSynchronized
  have htab := vx_table (x := yL_proofCharacter) B (hts (.codeWith yL_proofCharacter cL_proofCharacter 5 (some .int) [(0, 10, 13, 18)]) List.mem_cons_self)
  subst hsz
  have hD := hD0.self (sz := s.heap.size)
  generalize hAe : va_A [(oX9 h0 b0 (nI nb) p0 u0 r0 a0 t0 s0 o0), (oX3 p0 pr pb pe pg p1 (nI nd) p2 p3 p4 p5 (nI cn) p6 (nI pq) p7 p8 p9 (nI sc)), (oo, .inl (cA 1, 1, .inr (.inl fo_)))] s.heap.size = A at hD hZ hG ⊢
  have hA : ∀ q : Nat, s.heap.size ≤ q → A q := fun q h => by rw [← hAe]; exact Or.inr h
  have hS : va_S A s.heap s.heap [] := va_S.rf
  have hP : va_P D vwCl [(oX9 h0 b0 (nI nb) p0 u0 r0 a0 t0 s0 o0), (oX3 p0 pr pb pe pg p1 (nI nd) p2 p3 p4 p5 (nI cn) p6 (nI pq) p7 p8 p9 (nI sc)), (oo, .inl (cA 1, 1, .inr (.inl fo_)))] s.heap := hP
  have hl := lv_entry ([.ref h0, .int i, .int j, .ref oo]) (n := 5) (Nat.le_of_ble_eq_true rfl)
  rw [lg_entry_eq]
  generalize (lg_sl ([.ref h0, .int i, .int j, .ref oo]) ++ List.replicate (5 - (lg_sl ([.ref h0, .int i, .int j, .ref oo])).length) Slot.unset).toArray = ls at hl ⊢
  have hl : lv_has ls 5 [(0, .ref h0), (1, .int i), (2, .int j), (3, .ref oo)] := hl
  refine lv_aload_n hx hb dL_proofCharacter_0 rfl (lv_at hl 3 rfl) ?_
  refine lv_iconst (v := 0) hx hb dL_proofCharacter_1 (by decide) ?_
  refine lv_aload_n hx hb dL_proofCharacter_2 rfl (lv_at hl 0 rfl) ?_
  refine lv_iload_n hx hb dL_proofCharacter_3 rfl (lv_at hl 1 rfl) ?_
  refine lv_iload_n hx hb dL_proofCharacter_4 rfl (lv_at hl 2 rfl) ?_
  obtain ⟨hPc, hDc, hFc⟩ := PDq.cut (wc := [(oX9 h0 b0 (nI nb) p0 u0 r0 a0 t0 s0 o0), (oX3 p0 pr pb pe pg p1 (nI nd) p2 p3 p4 p5 (nI cn) p6 (nI pq) p7 p8 p9 (nI sc))]) hP hD hS hA [0, 1] (by decide) rfl
  refine vx_calli (vx_runV (As := [.int i, .int j]) (rest := [.int 0, .ref oo]) ⟨hx, hb, hml, hown, hts⟩ (x_pcOutP l D cA sa h0 b0 nb p0 u0 r0 a0 t0 s0 o0 p1 p2 p3 p4 p5 p6 p7 p8 p9 cn pq nd sc pr pb pe pg i j s.heap.size hl9 hcn hpq hnd hsc hout) (cwV 2 hts gL_proofCharacter_X9_proofCharacter rfl rfl rfl (by decide +kernel) ⟨(Nat.le_of_ble_eq_true rfl), (Nat.le_of_ble_eq_true rfl)⟩) ⟨Wd.blind, va_recv hK hPc (ci := 10) (q0 := 0) rfl rfl, fun U hU hW => ⟨rfl, Wd.call hPc hDc hK hC hZ hS hFc U hU hW⟩⟩ rfl rfl hl.1 rfl (lv_room (Nat.le_of_ble_eq_true rfl)) dL_proofCharacter_5 ⟨(Nat.le_of_ble_eq_true rfl), (Nat.le_of_ble_eq_true rfl)⟩) hS (fun q _ h => hFc q h) hFc (fun q _ h => hFc q h) (fun E ce q9 u t H1 locs ht hvm hpx hE hz1 hk1 hS hcell hv9 hcl => ?_) (fun rn1 u t H1 locs ht hvm hw hB hz1 hk1 hS => ?_)
  · skip
    obtain ⟨hE, hP1, hD1⟩ := hE
    rw [ht] at hP1
    obtain ⟨hP, hD⟩ := PDq.join (w := [(oo, .inl (cA 1, 1, .inr (.inl fo_))), (oX9 h0 b0 (nI nb) p0 u0 r0 a0 t0 s0 o0), (oX3 p0 pr pb pe pg p1 (nI nd) p2 p3 p4 p5 (nI cn) p6 (nI pq) p7 p8 p9 (nI sc))]) 1 hP hD [0, 1] [2] rfl rfl (by decide) (by decide) hk1 hFc hP1 hD1 rfl
    generalize H1 = H at hP hS hcell ⊢
    have hE : E = "java/lang/IndexOutOfBoundsException" := hE
    subst hE
    refine vx_catch hown [] ⟨0, 10, 13, 18⟩ (tableOf []) (htab.trans rfl) (fun z h => absurd h List.not_mem_nil) (by decide) (by decide) (name := "java/lang/IndexOutOfBoundsException") (hts (.classLink RL 18 "java/lang/IndexOutOfBoundsException") (by decide +kernel)) (hC.c (by decide +kernel)) hcell hv9 hcl ?_
    refine lv_astore (lv' := [(4, .ref q9), (0, .ref h0), (1, .int i), (2, .int j), (3, .ref oo)]) hx hb dL_proofCharacter_13 hl (by decide) rfl (fun ls hl => ?_)
    refine lv_iconst (v := 1) hx hb dL_proofCharacter_15 (by decide) ?_
    obtain ⟨hP9, hD9⟩ := PDq.sub (ws' := [(oX9 h0 b0 (nI nb) p0 u0 r0 a0 t0 s0 o0), (oX3 p0 pr pb pe pg p1 (nI nd) p2 p3 p4 p5 (nI cn) p6 (nI pq) p7 p8 p9 (nI sc)), (oo, .inl (cA 1, 1, .inr (.inl fo_)))]) hP hD [1, 2, 0] (by decide) rfl
    refine W.widen (k := 1) (n := 6) (Nat.le_of_ble_eq_true rfl) (Nat.le_of_ble_eq_true rfl) ?_
    exact (W.iret (v := 1) hx hb hr (fun t ht hW => ⟨⟨1, (), rfl, rfl, fo_, by rw [ht]; exact hP9, hD9⟩, hS.F ht⟩) hS.2.2 dL_proofCharacter_16)
  · skip
    exact hw.elim

