set_option maxHeartbeats 4000000 in
set_option maxRecDepth 100000 in
/-- reference: shortDay -/
theorem r_shortDay (l : Launch) (D : va_G) (cA : Nat → ClassId) (sa : Nat → Nat) (w0 : Nat) (ed : Nat) (nb : Nat) (ol : Nat) (v0 : Nat) (v1 : Nat) (v2 : Nat) (v3 : Nat) (v4 : Nat) (v9 : Nat) (v13 : Nat) (v27 : Nat) (v28 : Nat) (v29 : Nat) (v30 : Nat) (v31 : Nat) (v32 : Nat) (v33 : Nat) (v34 : Nat) (v35 : Nat) (v36 : Nat) (v37 : Nat) (g8 : Int32) (g11 : Int32) (g12 : Int32) (g14 : Int32) (g15 : Int32) (g16 : Int32) (g17 : Int32) (g18 : Int32) (g19 : Int32) (g20 : Int32) (g21 : Int32) (g22 : Int32) (g23 : Int32) (g24 : Int32) (g26 : Int32) (g5 : Int64) (g6 : Int64) (g25 : Int64) (cn : Nat) (pq : Nat) (en : Nat) (dy : Nat) (fs : Nat → Int32) (fc : Nat → Int32) (fq : Nat → Int32) (fk : Nat → Int32) (fo : Nat → Int32) (fa : Nat → Int32) (i : Int32) (sz : Nat) (hcn : cn ≤ 10) (hpq : pq ≤ 8) (hen : en ≤ 60) (hdy : dy ≤ 20000) (hri : RI cn pq en dy fs) (hCW : CW cn fc fq) (hbit : Bit 400 fk) (hord : Rng 10 10 fo) (hd9 : dy ≤ 9999) : Met l yX10_shortDay wsX10_shortDay ({ frames := 6, cells := 0, slots := 0, locals := 129 }) (va_Pc [.ref w0, .int i] (Wd D cA sa [(oX10 w0 v0 v1 v2 v3 v4 g5 g6 (nI ed) g8 v9 (nI nb) g11 g12 v13 g14 g15 g16 g17 g18 g19 g20 g21 g22 g23 g24 g25 g26 v27 v28 v29 v30 v31 v32 v33 v34 v35 v36 v37 (nI ol)), (v0, .inl (cA 0, 326, .inl fs)), (v31, .inl (cA 0, 400, .inl fc)), (v33, .inl (cA 0, 11, .inl fq)), (v35, .inl (cA 4, 400, .inl fk)), (v36, .inl (cA 0, 10, .inl fo)), (v2, .inl (cA 0, 326, .inl fa))] sz)) (va_Qi (fun (r : Int32) (_ : Unit) => True) (fun (_ : Unit) t => ∃ z8 : Int32, ∃ z14 : Int32, ∃ z15 : Int32, ∃ z16 : Int32, ∃ z17 : Int32, ∃ z18 : Int32, ∃ z19 : Int32, ∃ z20 : Int32, ∃ z21 : Int32, ∃ z22 : Int32, ∃ z23 : Int32, ∃ z24 : Int32, ∃ z26 : Int32, ∃ z5 : Int64, ∃ z6 : Int64, ∃ z25 : Int64, ∃ zs : Nat → Int32, ∃ zk : Nat → Int32, ∃ zo : Nat → Int32, ∃ za : Nat → Int32, RI cn pq en dy zs ∧ Bit 400 zk ∧ Rng 10 10 zo ∧ Wq D (va_A [(oX10 w0 v0 v1 v2 v3 v4 g5 g6 (nI ed) g8 v9 (nI nb) g11 g12 v13 g14 g15 g16 g17 g18 g19 g20 g21 g22 g23 g24 g25 g26 v27 v28 v29 v30 v31 v32 v33 v34 v35 v36 v37 (nI ol)), (v0, .inl (cA 0, 326, .inl fs)), (v31, .inl (cA 0, 400, .inl fc)), (v33, .inl (cA 0, 11, .inl fq)), (v35, .inl (cA 4, 400, .inl fk)), (v36, .inl (cA 0, 10, .inl fo)), (v2, .inl (cA 0, 326, .inl fa))] sz) [(oX10 w0 v0 v1 v2 v3 v4 z5 z6 (nI ed) z8 v9 (nI nb) g11 g12 v13 z14 z15 z16 z17 z18 z19 z20 z21 z22 z23 z24 z25 z26 v27 v28 v29 v30 v31 v32 v33 v34 v35 v36 v37 (nI ol)), (v0, .inl (cA 0, 326, .inl zs)), (v31, .inl (cA 0, 400, .inl fc)), (v33, .inl (cA 0, 11, .inl fq)), (v35, .inl (cA 4, 400, .inl zk)), (v36, .inl (cA 0, 10, .inl zo)), (v2, .inl (cA 0, 326, .inl za))] t) (va_A [(oX10 w0 v0 v1 v2 v3 v4 g5 g6 (nI ed) g8 v9 (nI nb) g11 g12 v13 g14 g15 g16 g17 g18 g19 g20 g21 g22 g23 g24 g25 g26 v27 v28 v29 v30 v31 v32 v33 v34 v35 v36 v37 (nI ol)), (v0, .inl (cA 0, 326, .inl fs)), (v31, .inl (cA 0, 400, .inl fc)), (v33, .inl (cA 0, 11, .inl fq)), (v35, .inl (cA 4, 400, .inl fk)), (v36, .inl (cA 0, 10, .inl fo)), (v2, .inl (cA 0, 326, .inl fa))] sz)) 0 0 (va_A [(oX10 w0 v0 v1 v2 v3 v4 g5 g6 (nI ed) g8 v9 (nI nb) g11 g12 v13 g14 g15 g16 g17 g18 g19 g20 g21 g22 g23 g24 g25 g26 v27 v28 v29 v30 v31 v32 v33 v34 v35 v36 v37 (nI ol)), (v0, .inl (cA 0, 326, .inl fs)), (v31, .inl (cA 0, 400, .inl fc)), (v33, .inl (cA 0, 11, .inl fq)), (v35, .inl (cA 4, 400, .inl fk)), (v36, .inl (cA 0, 10, .inl fo)), (v2, .inl (cA 0, 326, .inl fa))] sz) := by
  refine Met.ofW (cc := cX10_shortDay) (maxL := 4) (ret := (some .int)) (by decide) rfl ?_
  intro p e s m args below meth c s₁ B hml hv
  obtain ⟨rfl, hsz, hP, hK, hD0, hC, hZ⟩ := hv
  have hx := B.exec
  have hb := B.bytes
  have hr := B.returns
  have hts := atoms_spec (ws := wsX10_shortDay) B.pre
  have hown : s.vm.findClass RX10 = some m.cls := findClass_of_methodNamed B.named
  have hlocks := B.notSynchronized
  subst hsz
  have hD := hD0.self (sz := s.heap.size)
  generalize hAe : va_A [(oX10 w0 v0 v1 v2 v3 v4 g5 g6 (nI ed) g8 v9 (nI nb) g11 g12 v13 g14 g15 g16 g17 g18 g19 g20 g21 g22 g23 g24 g25 g26 v27 v28 v29 v30 v31 v32 v33 v34 v35 v36 v37 (nI ol)), (v0, .inl (cA 0, 326, .inl fs)), (v31, .inl (cA 0, 400, .inl fc)), (v33, .inl (cA 0, 11, .inl fq)), (v35, .inl (cA 4, 400, .inl fk)), (v36, .inl (cA 0, 10, .inl fo)), (v2, .inl (cA 0, 326, .inl fa))] s.heap.size = A at hD hZ ⊢
  have hA : ∀ q : Nat, s.heap.size ≤ q → A q := fun q h => by rw [← hAe]; exact Or.inr h
  have hS : va_S A s.heap s.heap [] := va_S.rf
  have hP : va_P D vwCl [(oX10 w0 v0 v1 v2 v3 v4 g5 g6 (nI ed) g8 v9 (nI nb) g11 g12 v13 g14 g15 g16 g17 g18 g19 g20 g21 g22 g23 g24 g25 g26 v27 v28 v29 v30 v31 v32 v33 v34 v35 v36 v37 (nI ol)), (v0, .inl (cA 0, 326, .inl fs)), (v31, .inl (cA 0, 400, .inl fc)), (v33, .inl (cA 0, 11, .inl fq)), (v35, .inl (cA 4, 400, .inl fk)), (v36, .inl (cA 0, 10, .inl fo)), (v2, .inl (cA 0, 326, .inl fa))] s.heap := hP
  have hl := lv_entry ([.ref w0, .int i]) (n := 4) (Nat.le_of_ble_eq_true rfl)
  rw [lg_entry_eq]
  generalize (lg_sl ([.ref w0, .int i]) ++ List.replicate (4 - (lg_sl ([.ref w0, .int i])).length) Slot.unset).toArray = ls at hl ⊢
  have hl : lv_has ls 4 [(0, .ref w0), (1, .int i)] := hl
  have inX10 : ∀ w ∈ u_ws RX10 TX10 39, w ∈ wsX10_shortDay := by decide +kernel
  refine lv_aload_n hx hb dX10_shortDay_0 rfl (lv_at hl 0 rfl) ?_
  refine lv_iload_n hx hb dX10_shortDay_1 rfl (lv_at hl 1 rfl) ?_
  obtain ⟨hPc, hDc, hFc⟩ := PDq.cut (wc := []) hP hD hS hA [] (by decide) rfl
  refine va_calli (va_runS (As := [.int i]) (rest := [.ref w0]) ⟨hx, hb, hml, hown, hts⟩ (r_isTrial l D cA sa i s.heap.size) (va_cwS 1 hts gX10_shortDay_X10_isTrial rfl rfl rfl (by decide +kernel) ⟨(Nat.le_of_ble_eq_true rfl), (Nat.le_of_ble_eq_true rfl)⟩) ⟨Wd.blind, fun U hU hW => ⟨rfl, Wd.call hPc hDc hK hC hZ hS hFc U hU hW⟩⟩ rfl rfl hl.1 rfl (lv_room (Nat.le_of_ble_eq_true rfl)) dX10_shortDay_2 ⟨(Nat.le_of_ble_eq_true rfl), (Nat.le_of_ble_eq_true rfl)⟩) hS (fun q _ h => hFc q h) hFc (fun rn1 u t H1 locs ht hvm hw hB hz1 hk1 hS => ?_)
  obtain ⟨hP1, hD1⟩ := hB
  rw [ht] at hP1
  obtain ⟨hP, hD⟩ := PDq.join (w := [(oX10 w0 v0 v1 v2 v3 v4 g5 g6 (nI ed) g8 v9 (nI nb) g11 g12 v13 g14 g15 g16 g17 g18 g19 g20 g21 g22 g23 g24 g25 g26 v27 v28 v29 v30 v31 v32 v33 v34 v35 v36 v37 (nI ol)), (v0, .inl (cA 0, 326, .inl fs)), (v31, .inl (cA 0, 400, .inl fc)), (v33, .inl (cA 0, 11, .inl fq)), (v35, .inl (cA 4, 400, .inl fk)), (v36, .inl (cA 0, 10, .inl fo)), (v2, .inl (cA 0, 326, .inl fa))]) 7 hP hD [] [0, 1, 2, 3, 4, 5, 6] rfl rfl (by decide) (by decide) hk1 hFc hP1 hD1 rfl
  generalize H1 = H at hP hS ⊢
  rcases hw with ⟨hr9, hn2⟩ | hr9
  · skip
    subst hr9
    obtain ⟨kn3, hn4, hn5, hn6⟩ := hn2
    rw [hn6] at hl
    have hl : lv_has ls 4 [(0, .ref w0), (1, .int (nI kn3))] := hl
    obtain ⟨hPc, hDc, hFc⟩ := PDq.cut (wc := [(oX10 w0 v0 v1 v2 v3 v4 g5 g6 (nI ed) g8 v9 (nI nb) g11 g12 v13 g14 g15 g16 g17 g18 g19 g20 g21 g22 g23 g24 g25 g26 v27 v28 v29 v30 v31 v32 v33 v34 v35 v36 v37 (nI ol))]) hP hD hS hA [0] (by decide) rfl
    refine va_calli (va_runV (As := [.int 1]) (rest := []) ⟨hx, hb, hml, hown, hts⟩ (r_good1 l D cA sa w0 ed nb ol v0 v1 v2 v3 v4 v9 v13 v27 v28 v29 v30 v31 v32 v33 v34 v35 v36 v37 g8 g11 g12 g14 g15 g16 g17 g18 g19 g20 g21 g22 g23 g24 g26 g5 g6 g25 H.size) (cwV 1 hts gX10_shortDay_X10_good rfl rfl rfl (by decide +kernel) ⟨(Nat.le_of_ble_eq_true rfl), (Nat.le_of_ble_eq_true rfl)⟩) ⟨Wd.blind, va_recv hK hPc (ci := 11) (q0 := 0) rfl rfl, fun U hU hW => ⟨rfl, Wd.call hPc hDc hK hC hZ hS hFc U hU hW⟩⟩ rfl rfl hl.1 rfl (lv_room (Nat.le_of_ble_eq_true rfl)) dX10_shortDay_5 ⟨(Nat.le_of_ble_eq_true rfl), (Nat.le_of_ble_eq_true rfl)⟩) hS (fun q _ h => hFc q h) hFc (fun rn7 u t H1 locs ht hvm hw hB hz1 hk1 hS => ?_)
    obtain ⟨hP1, hD1⟩ := hB
    rw [ht] at hP1
    obtain ⟨hP, hD⟩ := PDq.join (w := [(v0, .inl (cA 0, 326, .inl fs)), (v31, .inl (cA 0, 400, .inl fc)), (v33, .inl (cA 0, 11, .inl fq)), (v35, .inl (cA 4, 400, .inl fk)), (v36, .inl (cA 0, 10, .inl fo)), (v2, .inl (cA 0, 326, .inl fa)), (oX10 w0 v0 v1 v2 v3 v4 g5 g6 (nI ed) 0 v9 (nI nb) g11 g12 v13 g14 g15 g16 g17 g18 g19 g20 g21 g22 g23 g24 g25 g26 v27 v28 v29 v30 v31 v32 v33 v34 v35 v36 v37 (nI ol))]) 6 hP hD [0] [1, 2, 3, 4, 5, 6] rfl rfl (by decide) (by decide) hk1 hFc hP1 hD1 rfl
    generalize H1 = H at hP hS ⊢
    obtain rfl : rn7 = 1 := hw
    refine lv_if_ne (tgt := 13) hx hb dX10_shortDay_8 (by decide) (fun c8 => ?_) (fun c9 => absurd c9 (by decide))
    refine lv_aload_n hx hb dX10_shortDay_13 rfl (lv_at hl 0 rfl) ?_
    obtain ⟨hPc, hDc, hFc⟩ := PDq.cut (wc := [(oX10 w0 v0 v1 v2 v3 v4 g5 g6 (nI ed) 0 v9 (nI nb) g11 g12 v13 g14 g15 g16 g17 g18 g19 g20 g21 g22 g23 g24 g25 g26 v27 v28 v29 v30 v31 v32 v33 v34 v35 v36 v37 (nI ol)), (v0, .inl (cA 0, 326, .inl fs)), (v2, .inl (cA 0, 326, .inl fa))]) hP hD hS hA [6, 0, 5] (by decide) rfl
    refine va_callv (va_runV (As := []) (rest := []) ⟨hx, hb, hml, hown, hts⟩ (r_beginTrial l D cA sa w0 ed nb ol v0 v1 v2 v3 v4 v9 v13 v27 v28 v29 v30 v31 v32 v33 v34 v35 v36 v37 0 g11 g12 g14 g15 g16 g17 g18 g19 g20 g21 g22 g23 g24 g26 g5 g6 g25 cn pq en dy fs fa H.size hcn hpq hen hdy hri) (cwV 0 hts gX10_shortDay_X10_beginTrial rfl rfl rfl (by decide +kernel) ⟨(Nat.le_of_ble_eq_true rfl), (Nat.le_of_ble_eq_true rfl)⟩) ⟨Wd.blind, va_recv hK hPc (ci := 11) (q0 := 0) rfl rfl, fun U hU hW => ⟨rfl, Wd.call hPc hDc hK hC hZ hS hFc U hU hW⟩⟩ rfl rfl hl.1 rfl (lv_room (Nat.le_of_ble_eq_true rfl)) dX10_shortDay_14 ⟨(Nat.le_of_ble_eq_true rfl), (Nat.le_of_ble_eq_true rfl)⟩) hS (fun q _ h => hFc q h) hFc (fun u t H1 locs ht hvm hw hB hz1 hk1 hS => ?_)
    obtain ⟨fn9, hn10, hP1, hD1⟩ := hB
    rw [ht] at hP1
    obtain ⟨hP, hD⟩ := PDq.join (w := [(v31, .inl (cA 0, 400, .inl fc)), (v33, .inl (cA 0, 11, .inl fq)), (v35, .inl (cA 4, 400, .inl fk)), (v36, .inl (cA 0, 10, .inl fo)), (oX10 w0 v0 v1 v2 v3 v4 g5 g5 (nI ed) 0 v9 (nI nb) g11 g12 v13 g14 g15 g16 g17 g18 g19 g20 g21 g22 g23 g24 g25 g26 v27 v28 v29 v30 v31 v32 v33 v34 v35 v36 v37 (nI ol)), (v0, .inl (cA 0, 326, .inl fs)), (v2, .inl (cA 0, 326, .inl fn9))]) 4 hP hD [6, 0, 5] [1, 2, 3, 4] rfl rfl (by decide) (by decide) hk1 hFc hP1 hD1 rfl
    generalize H1 = H at hP hS ⊢
    refine lv_iconst (v := (-1)) hx hb dX10_shortDay_17 (by decide) ?_
    refine lv_istore_n (lv' := [(2, .int (-1)), (0, .ref w0), (1, .int (nI kn3))]) hx hb dX10_shortDay_18 rfl hl (by decide) rfl (fun ls hl => ?_)
    refine lv_iconst (v := 0) hx hb dX10_shortDay_19 (by decide) ?_
    refine lv_istore_n (lv' := [(3, .int 0), (2, .int (-1)), (0, .ref w0), (1, .int (nI kn3))]) hx hb dX10_shortDay_20 rfl hl (by decide) rfl (fun ls hl => ?_)
    have loop1 : ∀ (n1 i1 : Nat) (ei : Nat) (di : Nat) (x2_1 : Int32) (f2_1 : Nat → Int32) (f3_1 : Nat → Int32) (u4_5_1 : Int64) (u4_6_1 : Int64) (u4_8_1 : Int32) (u4_14_1 : Int32) (u4_15_1 : Int32) (u4_16_1 : Int32) (u4_17_1 : Int32) (u4_18_1 : Int32) (u4_19_1 : Int32) (u4_20_1 : Int32) (u4_21_1 : Int32) (u4_22_1 : Int32) (u4_23_1 : Int32) (u4_24_1 : Int32) (u4_25_1 : Int64) (u4_26_1 : Int32) (f5_1 : Nat → Int32) (H : Heap) (locs : List Loc) (ls : Array Slot), i1 + n1 = kn3 → Bit 400 f2_1 → Rng 10 10 f3_1 → ei ≤ 60 → di ≤ dy + i1 → RI cn pq ei di f5_1 → va_P D vwCl [(v31, .inl (cA 0, 400, .inl fc)), (v33, .inl (cA 0, 11, .inl fq)), (v35, .inl (cA 4, 400, .inl f2_1)), (v36, .inl (cA 0, 10, .inl f3_1)), (oX10 w0 v0 v1 v2 v3 v4 u4_5_1 u4_6_1 (nI ed) u4_8_1 v9 (nI nb) g11 g12 v13 u4_14_1 u4_15_1 u4_16_1 u4_17_1 u4_18_1 u4_19_1 u4_20_1 u4_21_1 u4_22_1 u4_23_1 u4_24_1 u4_25_1 u4_26_1 v27 v28 v29 v30 v31 v32 v33 v34 v35 v36 v37 (nI ol)), (v0, .inl (cA 0, 326, .inl f5_1)), (v2, .inl (cA 0, 326, .inl fn9))] H → va_D A [(v31, .inl (cA 0, 400, .inl fc)), (v33, .inl (cA 0, 11, .inl fq)), (v35, .inl (cA 4, 400, .inl f2_1)), (v36, .inl (cA 0, 10, .inl f3_1)), (oX10 w0 v0 v1 v2 v3 v4 u4_5_1 u4_6_1 (nI ed) u4_8_1 v9 (nI nb) g11 g12 v13 u4_14_1 u4_15_1 u4_16_1 u4_17_1 u4_18_1 u4_19_1 u4_20_1 u4_21_1 u4_22_1 u4_23_1 u4_24_1 u4_25_1 u4_26_1 v27 v28 v29 v30 v31 v32 v33 v34 v35 v36 v37 (nI ol)), (v0, .inl (cA 0, 326, .inl f5_1)), (v2, .inl (cA 0, 326, .inl fn9))] → va_S A s.heap H locs → lv_has ls 4 [(3, .int (nI i1)), (2, .int x2_1), (0, .ref w0), (1, .int (nI kn3))] → W p l e (headSpec wsX10_shortDay ({ frames := 6, cells := 0, slots := 0, locals := 129 } : Room)).room s m ([.ref w0, .int i] : List Value).toArray below meth c H locs 0 0 (MQ below (va_Qi (fun (r : Int32) (_ : Unit) => True) (fun (_ : Unit) t => ∃ z8 : Int32, ∃ z14 : Int32, ∃ z15 : Int32, ∃ z16 : Int32, ∃ z17 : Int32, ∃ z18 : Int32, ∃ z19 : Int32, ∃ z20 : Int32, ∃ z21 : Int32, ∃ z22 : Int32, ∃ z23 : Int32, ∃ z24 : Int32, ∃ z26 : Int32, ∃ z5 : Int64, ∃ z6 : Int64, ∃ z25 : Int64, ∃ zs : Nat → Int32, ∃ zk : Nat → Int32, ∃ zo : Nat → Int32, ∃ za : Nat → Int32, RI cn pq en dy zs ∧ Bit 400 zk ∧ Rng 10 10 zo ∧ Wq D A [(oX10 w0 v0 v1 v2 v3 v4 z5 z6 (nI ed) z8 v9 (nI nb) g11 g12 v13 z14 z15 z16 z17 z18 z19 z20 z21 z22 z23 z24 z25 z26 v27 v28 v29 v30 v31 v32 v33 v34 v35 v36 v37 (nI ol)), (v0, .inl (cA 0, 326, .inl zs)), (v31, .inl (cA 0, 400, .inl fc)), (v33, .inl (cA 0, 11, .inl fq)), (v35, .inl (cA 4, 400, .inl zk)), (v36, .inl (cA 0, 10, .inl zo)), (v2, .inl (cA 0, 326, .inl za))] t) A) ([.ref w0, .int i] : List Value).toArray s 0 0 A) (F0 m 21 ls []) := by
      intro n1
      induction n1 with
      | zero =>
        intro i1 ei di x2_1 f2_1 f3_1 u4_5_1 u4_6_1 u4_8_1 u4_14_1 u4_15_1 u4_16_1 u4_17_1 u4_18_1 u4_19_1 u4_20_1 u4_21_1 u4_22_1 u4_23_1 u4_24_1 u4_25_1 u4_26_1 f5_1 H locs ls hi1 hf0_1 hf1_1 hv0_1 hv1_1 hv2_1 hP hD hS hl
        obtain rfl : kn3 = i1 := by omega
        refine lv_iload_n hx hb dX10_shortDay_21 rfl (lv_at hl 0 rfl) ?_
        refine lv_iload_n hx hb dX10_shortDay_22 rfl (lv_at hl 3 rfl) ?_
        refine lv_icmp_ge (tgt := 59) hx hb dX10_shortDay_23 (by decide) (fun c11 => ?_) (fun c9 => absurd (nI_le (a := kn3) (b := kn3) (show kn3 ≤ kn3 by omega) (by omega)) c9)
        refine lv_aload_n hx hb dX10_shortDay_59 rfl (lv_at hl 2 rfl) ?_
        obtain ⟨hPc, hDc, hFc⟩ := PDq.cut (wc := [(oX10 w0 v0 v1 v2 v3 v4 u4_5_1 u4_6_1 (nI ed) u4_8_1 v9 (nI nb) g11 g12 v13 u4_14_1 u4_15_1 u4_16_1 u4_17_1 u4_18_1 u4_19_1 u4_20_1 u4_21_1 u4_22_1 u4_23_1 u4_24_1 u4_25_1 u4_26_1 v27 v28 v29 v30 v31 v32 v33 v34 v35 v36 v37 (nI ol)), (v0, .inl (cA 0, 326, .inl f5_1)), (v2, .inl (cA 0, 326, .inl fn9))]) hP hD hS hA [4, 5, 6] (by decide) rfl
        refine va_callv (va_runV (As := []) (rest := []) ⟨hx, hb, hml, hown, hts⟩ (r_endTrial l D cA sa w0 ed nb ol v0 v1 v2 v3 v4 v9 v13 v27 v28 v29 v30 v31 v32 v33 v34 v35 v36 v37 u4_8_1 g11 g12 u4_14_1 u4_15_1 u4_16_1 u4_17_1 u4_18_1 u4_19_1 u4_20_1 u4_21_1 u4_22_1 u4_23_1 u4_24_1 u4_26_1 u4_5_1 u4_6_1 u4_25_1 cn pq en dy fn9 f5_1 H.size hcn hpq hen hdy hn10) (cwV 0 hts gX10_shortDay_X10_endTrial rfl rfl rfl (by decide +kernel) ⟨(Nat.le_of_ble_eq_true rfl), (Nat.le_of_ble_eq_true rfl)⟩) ⟨Wd.blind, va_recv hK hPc (ci := 11) (q0 := 0) rfl rfl, fun U hU hW => ⟨rfl, Wd.call hPc hDc hK hC hZ hS hFc U hU hW⟩⟩ rfl rfl hl.1 rfl (lv_room (Nat.le_of_ble_eq_true rfl)) dX10_shortDay_60 ⟨(Nat.le_of_ble_eq_true rfl), (Nat.le_of_ble_eq_true rfl)⟩) hS (fun q _ h => hFc q h) hFc (fun u t H1 locs ht hvm hw hB hz1 hk1 hS => ?_)
        obtain ⟨fn12, hn13, hP1, hD1⟩ := hB
        rw [ht] at hP1
        obtain ⟨hP, hD⟩ := PDq.join (w := [(v31, .inl (cA 0, 400, .inl fc)), (v33, .inl (cA 0, 11, .inl fq)), (v35, .inl (cA 4, 400, .inl f2_1)), (v36, .inl (cA 0, 10, .inl f3_1)), (oX10 w0 v0 v1 v2 v3 v4 u4_6_1 u4_6_1 (nI ed) u4_8_1 v9 (nI nb) g11 g12 v13 u4_14_1 u4_15_1 u4_16_1 u4_17_1 u4_18_1 u4_19_1 u4_20_1 u4_21_1 u4_22_1 u4_23_1 u4_24_1 u4_25_1 u4_26_1 v27 v28 v29 v30 v31 v32 v33 v34 v35 v36 v37 (nI ol)), (v0, .inl (cA 0, 326, .inl fn12)), (v2, .inl (cA 0, 326, .inl fn9))]) 4 hP hD [4, 5, 6] [0, 1, 2, 3] rfl rfl (by decide) (by decide) hk1 hFc hP1 hD1 rfl
        generalize H1 = H at hP hS ⊢
        refine lv_iload_n hx hb dX10_shortDay_63 rfl (lv_at hl 1 rfl) ?_
        obtain ⟨hP9, hD9⟩ := PDq.sub (ws' := [(oX10 w0 v0 v1 v2 v3 v4 u4_6_1 u4_6_1 (nI ed) u4_8_1 v9 (nI nb) g11 g12 v13 u4_14_1 u4_15_1 u4_16_1 u4_17_1 u4_18_1 u4_19_1 u4_20_1 u4_21_1 u4_22_1 u4_23_1 u4_24_1 u4_25_1 u4_26_1 v27 v28 v29 v30 v31 v32 v33 v34 v35 v36 v37 (nI ol)), (v0, .inl (cA 0, 326, .inl fn12)), (v31, .inl (cA 0, 400, .inl fc)), (v33, .inl (cA 0, 11, .inl fq)), (v35, .inl (cA 4, 400, .inl f2_1)), (v36, .inl (cA 0, 10, .inl f3_1)), (v2, .inl (cA 0, 326, .inl fn9))]) hP hD [4, 5, 0, 1, 2, 3, 6] (by decide) rfl
        refine W.widen (k := 0) (n := 0) (Nat.le_of_ble_eq_true rfl) (Nat.le_of_ble_eq_true rfl) ?_
        exact (W.iret (v := x2_1) hx hb hr (fun t ht hW => ⟨⟨x2_1, (), rfl, trivial, u4_8_1, u4_14_1, u4_15_1, u4_16_1, u4_17_1, u4_18_1, u4_19_1, u4_20_1, u4_21_1, u4_22_1, u4_23_1, u4_24_1, u4_26_1, u4_6_1, u4_6_1, u4_25_1, fn12, f2_1, f3_1, fn9, hn13, hf0_1, hf1_1, by rw [ht]; exact hP9, hD9⟩, hS.F ht⟩) hS.2.2 dX10_shortDay_64)
      | succ n1 ih1 =>
        intro i1 ei di x2_1 f2_1 f3_1 u4_5_1 u4_6_1 u4_8_1 u4_14_1 u4_15_1 u4_16_1 u4_17_1 u4_18_1 u4_19_1 u4_20_1 u4_21_1 u4_22_1 u4_23_1 u4_24_1 u4_25_1 u4_26_1 f5_1 H locs ls hi1 hf0_1 hf1_1 hv0_1 hv1_1 hv2_1 hP hD hS hl
        refine lv_iload_n hx hb dX10_shortDay_21 rfl (lv_at hl 0 rfl) ?_
        refine lv_iload_n hx hb dX10_shortDay_22 rfl (lv_at hl 3 rfl) ?_
        refine lv_icmp_ge (tgt := 59) hx hb dX10_shortDay_23 (by decide) (fun c9 => absurd c9 (nI_ge (a := i1) (b := kn3) (show i1 < kn3 by omega) (by omega))) (fun c14 => ?_)
        refine lv_iload_n hx hb dX10_shortDay_26 rfl (lv_at hl 1 rfl) ?_
        refine lv_iconst (v := (-1)) hx hb dX10_shortDay_27 (by decide) ?_
        refine lv_icmp_ne (tgt := 59) hx hb dX10_shortDay_28 (by decide) (fun c15 => ?_) (fun c15 => ?_)
        · skip
          refine lv_aload_n hx hb dX10_shortDay_59 rfl (lv_at hl 2 rfl) ?_
          obtain ⟨hPc, hDc, hFc⟩ := PDq.cut (wc := [(oX10 w0 v0 v1 v2 v3 v4 u4_5_1 u4_6_1 (nI ed) u4_8_1 v9 (nI nb) g11 g12 v13 u4_14_1 u4_15_1 u4_16_1 u4_17_1 u4_18_1 u4_19_1 u4_20_1 u4_21_1 u4_22_1 u4_23_1 u4_24_1 u4_25_1 u4_26_1 v27 v28 v29 v30 v31 v32 v33 v34 v35 v36 v37 (nI ol)), (v0, .inl (cA 0, 326, .inl f5_1)), (v2, .inl (cA 0, 326, .inl fn9))]) hP hD hS hA [4, 5, 6] (by decide) rfl
          refine va_callv (va_runV (As := []) (rest := []) ⟨hx, hb, hml, hown, hts⟩ (r_endTrial l D cA sa w0 ed nb ol v0 v1 v2 v3 v4 v9 v13 v27 v28 v29 v30 v31 v32 v33 v34 v35 v36 v37 u4_8_1 g11 g12 u4_14_1 u4_15_1 u4_16_1 u4_17_1 u4_18_1 u4_19_1 u4_20_1 u4_21_1 u4_22_1 u4_23_1 u4_24_1 u4_26_1 u4_5_1 u4_6_1 u4_25_1 cn pq en dy fn9 f5_1 H.size hcn hpq hen hdy hn10) (cwV 0 hts gX10_shortDay_X10_endTrial rfl rfl rfl (by decide +kernel) ⟨(Nat.le_of_ble_eq_true rfl), (Nat.le_of_ble_eq_true rfl)⟩) ⟨Wd.blind, va_recv hK hPc (ci := 11) (q0 := 0) rfl rfl, fun U hU hW => ⟨rfl, Wd.call hPc hDc hK hC hZ hS hFc U hU hW⟩⟩ rfl rfl hl.1 rfl (lv_room (Nat.le_of_ble_eq_true rfl)) dX10_shortDay_60 ⟨(Nat.le_of_ble_eq_true rfl), (Nat.le_of_ble_eq_true rfl)⟩) hS (fun q _ h => hFc q h) hFc (fun u t H1 locs ht hvm hw hB hz1 hk1 hS => ?_)
          obtain ⟨fn16, hn17, hP1, hD1⟩ := hB
          rw [ht] at hP1
          obtain ⟨hP, hD⟩ := PDq.join (w := [(v31, .inl (cA 0, 400, .inl fc)), (v33, .inl (cA 0, 11, .inl fq)), (v35, .inl (cA 4, 400, .inl f2_1)), (v36, .inl (cA 0, 10, .inl f3_1)), (oX10 w0 v0 v1 v2 v3 v4 u4_6_1 u4_6_1 (nI ed) u4_8_1 v9 (nI nb) g11 g12 v13 u4_14_1 u4_15_1 u4_16_1 u4_17_1 u4_18_1 u4_19_1 u4_20_1 u4_21_1 u4_22_1 u4_23_1 u4_24_1 u4_25_1 u4_26_1 v27 v28 v29 v30 v31 v32 v33 v34 v35 v36 v37 (nI ol)), (v0, .inl (cA 0, 326, .inl fn16)), (v2, .inl (cA 0, 326, .inl fn9))]) 4 hP hD [4, 5, 6] [0, 1, 2, 3] rfl rfl (by decide) (by decide) hk1 hFc hP1 hD1 rfl
          generalize H1 = H at hP hS ⊢
          refine lv_iload_n hx hb dX10_shortDay_63 rfl (lv_at hl 1 rfl) ?_
          obtain ⟨hP9, hD9⟩ := PDq.sub (ws' := [(oX10 w0 v0 v1 v2 v3 v4 u4_6_1 u4_6_1 (nI ed) u4_8_1 v9 (nI nb) g11 g12 v13 u4_14_1 u4_15_1 u4_16_1 u4_17_1 u4_18_1 u4_19_1 u4_20_1 u4_21_1 u4_22_1 u4_23_1 u4_24_1 u4_25_1 u4_26_1 v27 v28 v29 v30 v31 v32 v33 v34 v35 v36 v37 (nI ol)), (v0, .inl (cA 0, 326, .inl fn16)), (v31, .inl (cA 0, 400, .inl fc)), (v33, .inl (cA 0, 11, .inl fq)), (v35, .inl (cA 4, 400, .inl f2_1)), (v36, .inl (cA 0, 10, .inl f3_1)), (v2, .inl (cA 0, 326, .inl fn9))]) hP hD [4, 5, 0, 1, 2, 3, 6] (by decide) rfl
          refine W.widen (k := 0) (n := 0) (Nat.le_of_ble_eq_true rfl) (Nat.le_of_ble_eq_true rfl) ?_
          exact (W.iret (v := x2_1) hx hb hr (fun t ht hW => ⟨⟨x2_1, (), rfl, trivial, u4_8_1, u4_14_1, u4_15_1, u4_16_1, u4_17_1, u4_18_1, u4_19_1, u4_20_1, u4_21_1, u4_22_1, u4_23_1, u4_24_1, u4_26_1, u4_6_1, u4_6_1, u4_25_1, fn16, f2_1, f3_1, fn9, hn17, hf0_1, hf1_1, by rw [ht]; exact hP9, hD9⟩, hS.F ht⟩) hS.2.2 dX10_shortDay_64)
        · skip
          subst c15
          have hl : lv_has ls 4 [(3, .int (nI i1)), (2, .int (-1)), (0, .ref w0), (1, .int (nI kn3))] := hl
          refine lv_aload_n hx hb dX10_shortDay_31 rfl (lv_at hl 2 rfl) ?_
          obtain ⟨hPc, hDc, hFc⟩ := PDq.cut (wc := [(oX10 w0 v0 v1 v2 v3 v4 u4_5_1 u4_6_1 (nI ed) u4_8_1 v9 (nI nb) g11 g12 v13 u4_14_1 u4_15_1 u4_16_1 u4_17_1 u4_18_1 u4_19_1 u4_20_1 u4_21_1 u4_22_1 u4_23_1 u4_24_1 u4_25_1 u4_26_1 v27 v28 v29 v30 v31 v32 v33 v34 v35 v36 v37 (nI ol)), (v0, .inl (cA 0, 326, .inl f5_1)), (v31, .inl (cA 0, 400, .inl fc)), (v33, .inl (cA 0, 11, .inl fq)), (v35, .inl (cA 4, 400, .inl f2_1)), (v36, .inl (cA 0, 10, .inl f3_1))]) hP hD hS hA [4, 5, 0, 1, 2, 3] (by decide) rfl
          refine va_callv (va_runV (As := []) (rest := []) ⟨hx, hb, hml, hown, hts⟩ (r_passDay l D cA sa w0 ed nb ol v0 v1 v2 v3 v4 v9 v13 v27 v28 v29 v30 v31 v32 v33 v34 v35 v36 v37 u4_8_1 g11 g12 u4_14_1 u4_15_1 u4_16_1 u4_17_1 u4_18_1 u4_19_1 u4_20_1 u4_21_1 u4_22_1 u4_23_1 u4_24_1 u4_26_1 u4_5_1 u4_6_1 u4_25_1 cn pq ei di f5_1 fc fq f2_1 f3_1 H.size hcn hpq hv0_1 (by omega) hv2_1 hCW hf0_1 hf1_1 (by omega)) (cwV 0 hts gX10_shortDay_X10_passDay rfl rfl rfl (by decide +kernel) ⟨(Nat.le_of_ble_eq_true rfl), (Nat.le_of_ble_eq_true rfl)⟩) ⟨Wd.blind, va_recv hK hPc (ci := 11) (q0 := 0) rfl rfl, fun U hU hW => ⟨rfl, Wd.call hPc hDc hK hC hZ hS hFc U hU hW⟩⟩ rfl rfl hl.1 rfl (lv_room (Nat.le_of_ble_eq_true rfl)) dX10_shortDay_32 ⟨(Nat.le_of_ble_eq_true rfl), (Nat.le_of_ble_eq_true rfl)⟩) hS (fun q _ h => hFc q h) hFc (fun u t H1 locs ht hvm hw hB hz1 hk1 hS => ?_)
          obtain ⟨qn18, qn19, zn20, zn21, zn22, zn23, zn24, zn25, zn26, zn27, zn28, zn29, zn30, zn31, zn32, zn33, zn34, zn35, fn36, fn37, fn38, hn39, hn40, hn41, hn42, hn43, hP1, hD1⟩ := hB
          rw [ht] at hP1
          obtain ⟨hP, hD⟩ := PDq.join (w := [(v2, .inl (cA 0, 326, .inl fn9)), (oX10 w0 v0 v1 v2 v3 v4 zn33 zn34 (nI ed) zn20 v9 (nI nb) g11 g12 v13 zn21 zn22 zn23 zn24 zn25 zn26 zn27 zn28 zn29 zn30 zn31 zn35 zn32 v27 v28 v29 v30 v31 v32 v33 v34 v35 v36 v37 (nI ol)), (v0, .inl (cA 0, 326, .inl fn36)), (v31, .inl (cA 0, 400, .inl fc)), (v33, .inl (cA 0, 11, .inl fq)), (v35, .inl (cA 4, 400, .inl fn37)), (v36, .inl (cA 0, 10, .inl fn38))]) 1 hP hD [4, 5, 0, 1, 2, 3] [6] rfl rfl (by decide) (by decide) hk1 hFc hP1 hD1 rfl
          generalize H1 = H at hP hS ⊢
          refine lv_aload_n hx hb dX10_shortDay_35 rfl (lv_at hl 2 rfl) ?_
          obtain ⟨hPc, hDc, hFc⟩ := PDq.cut (wc := [(oX10 w0 v0 v1 v2 v3 v4 zn33 zn34 (nI ed) zn20 v9 (nI nb) g11 g12 v13 zn21 zn22 zn23 zn24 zn25 zn26 zn27 zn28 zn29 zn30 zn31 zn35 zn32 v27 v28 v29 v30 v31 v32 v33 v34 v35 v36 v37 (nI ol)), (v0, .inl (cA 0, 326, .inl fn36))]) hP hD hS hA [1, 2] (by decide) rfl
          refine va_calli (va_runV (As := []) (rest := []) ⟨hx, hb, hml, hown, hts⟩ (r_isShort l D cA sa w0 ed nb ol v0 v1 v2 v3 v4 v9 v13 v27 v28 v29 v30 v31 v32 v33 v34 v35 v36 v37 zn20 g11 g12 zn21 zn22 zn23 zn24 zn25 zn26 zn27 zn28 zn29 zn30 zn31 zn32 zn33 zn34 zn35 cn pq qn18 qn19 fn36 H.size hcn hpq hn39 (by omega) hn40) (cwV 0 hts gX10_shortDay_X10_isShort rfl rfl rfl (by decide +kernel) ⟨(Nat.le_of_ble_eq_true rfl), (Nat.le_of_ble_eq_true rfl)⟩) ⟨Wd.blind, va_recv hK hPc (ci := 11) (q0 := 0) rfl rfl, fun U hU hW => ⟨rfl, Wd.call hPc hDc hK hC hZ hS hFc U hU hW⟩⟩ rfl rfl hl.1 rfl (lv_room (Nat.le_of_ble_eq_true rfl)) dX10_shortDay_36 ⟨(Nat.le_of_ble_eq_true rfl), (Nat.le_of_ble_eq_true rfl)⟩) hS (fun q _ h => hFc q h) hFc (fun rn44 u t H1 locs ht hvm hw hB hz1 hk1 hS => ?_)
          obtain ⟨hP1, hD1⟩ := hB
          rw [ht] at hP1
          obtain ⟨hP, hD⟩ := PDq.join (w := [(v2, .inl (cA 0, 326, .inl fn9)), (v31, .inl (cA 0, 400, .inl fc)), (v33, .inl (cA 0, 11, .inl fq)), (v35, .inl (cA 4, 400, .inl fn37)), (v36, .inl (cA 0, 10, .inl fn38)), (oX10 w0 v0 v1 v2 v3 v4 zn33 zn34 (nI ed) zn20 v9 (nI nb) g11 g12 v13 zn21 zn22 zn23 zn24 zn25 zn26 zn27 zn28 zn29 zn30 zn31 zn35 zn32 v27 v28 v29 v30 v31 v32 v33 v34 v35 v36 v37 (nI ol)), (v0, .inl (cA 0, 326, .inl fn36))]) 5 hP hD [1, 2] [0, 3, 4, 5, 6] rfl rfl (by decide) (by decide) hk1 hFc hP1 hD1 rfl
          generalize H1 = H at hP hS ⊢
          have hn45 := hw
          refine lv_if_eq (tgt := 51) hx hb dX10_shortDay_39 (by decide) (fun c46 => ?_) (fun c46 => ?_)
          · skip
            refine lv_iconst (v := (-1)) hx hb dX10_shortDay_51 (by decide) ?_
            refine lv_istore_n (lv' := [(2, .int (-1)), (3, .int (nI i1)), (0, .ref w0), (1, .int (nI kn3))]) hx hb dX10_shortDay_52 rfl hl (by decide) rfl (fun ls hl => ?_)
            refine lv_iinc (v := (nI (i1 + 1))) (lv' := [(3, .int (nI (i1 + 1))), (2, .int (-1)), (0, .ref w0), (1, .int (nI kn3))]) hx hb dX10_shortDay_53 hl (k := 1) rfl (nI_1 _) (by decide) rfl (fun ls hl => ?_)
            refine lv_goto (tgt := 21) hx hb dX10_shortDay_56 (by decide) ?_
            obtain ⟨hP9, hD9⟩ := PDq.sub (ws' := [(v31, .inl (cA 0, 400, .inl fc)), (v33, .inl (cA 0, 11, .inl fq)), (v35, .inl (cA 4, 400, .inl fn37)), (v36, .inl (cA 0, 10, .inl fn38)), (oX10 w0 v0 v1 v2 v3 v4 zn33 zn34 (nI ed) zn20 v9 (nI nb) g11 g12 v13 zn21 zn22 zn23 zn24 zn25 zn26 zn27 zn28 zn29 zn30 zn31 zn35 zn32 v27 v28 v29 v30 v31 v32 v33 v34 v35 v36 v37 (nI ol)), (v0, .inl (cA 0, 326, .inl fn36)), (v2, .inl (cA 0, 326, .inl fn9))]) hP hD [1, 2, 3, 4, 5, 6, 0] (by decide) rfl
            exact ih1 (i1 + 1) qn18 qn19 (-1) fn37 fn38 zn33 zn34 zn20 zn21 zn22 zn23 zn24 zn25 zn26 zn27 zn28 zn29 zn30 zn31 zn35 zn32 fn36 H _ ls (by omega) hn41 hn42 hn39 (by omega) hn40 hP9 hD9 hS (lv_sub hl [0, 1, 2, 3] rfl)
          · skip
            refine lv_aload_n hx hb dX10_shortDay_42 rfl (lv_at hl 2 rfl) ?_
            refine va_get (D := D) (ci := 11) (v := .ref v0) (C := RX10) (T := TX10) (N := 39) hx hb hts inX10 hown hK hP 5 rfl rfl 0 (by decide) (hts (.fieldLink RX10 7 "EscrowDeskModel" "s" "[I") (by decide +kernel)) (fun _ h9 => h9) rfl dX10_shortDay_43 ?_
            refine lv_iconst (v := 4) hx hb dX10_shortDay_46 (by decide) ?_
            refine va_iald hx hb hK hP 6 0 rfl rfl (vp_in_iff.mpr (by decide)) dX10_shortDay_47 ?_
            refine lv_topi (fun yn47 eyn47 => ?_)
            obtain rfl : yn47 = (nI qn19) := eyn47.trans hn40.2.2.2.1
            refine lv_goto (tgt := 52) hx hb dX10_shortDay_48 (by decide) ?_
            refine lv_istore_n (lv' := [(2, .int (nI qn19)), (3, .int (nI i1)), (0, .ref w0), (1, .int (nI kn3))]) hx hb dX10_shortDay_52 rfl hl (by decide) rfl (fun ls hl => ?_)
            refine lv_iinc (v := (nI (i1 + 1))) (lv' := [(3, .int (nI (i1 + 1))), (2, .int (nI qn19)), (0, .ref w0), (1, .int (nI kn3))]) hx hb dX10_shortDay_53 hl (k := 1) rfl (nI_1 _) (by decide) rfl (fun ls hl => ?_)
            refine lv_goto (tgt := 21) hx hb dX10_shortDay_56 (by decide) ?_
            obtain ⟨hP9, hD9⟩ := PDq.sub (ws' := [(v31, .inl (cA 0, 400, .inl fc)), (v33, .inl (cA 0, 11, .inl fq)), (v35, .inl (cA 4, 400, .inl fn37)), (v36, .inl (cA 0, 10, .inl fn38)), (oX10 w0 v0 v1 v2 v3 v4 zn33 zn34 (nI ed) zn20 v9 (nI nb) g11 g12 v13 zn21 zn22 zn23 zn24 zn25 zn26 zn27 zn28 zn29 zn30 zn31 zn35 zn32 v27 v28 v29 v30 v31 v32 v33 v34 v35 v36 v37 (nI ol)), (v0, .inl (cA 0, 326, .inl fn36)), (v2, .inl (cA 0, 326, .inl fn9))]) hP hD [1, 2, 3, 4, 5, 6, 0] (by decide) rfl
            exact ih1 (i1 + 1) qn18 qn19 (nI qn19) fn37 fn38 zn33 zn34 zn20 zn21 zn22 zn23 zn24 zn25 zn26 zn27 zn28 zn29 zn30 zn31 zn35 zn32 fn36 H _ ls (by omega) hn41 hn42 hn39 (by omega) hn40 hP9 hD9 hS (lv_sub hl [0, 1, 2, 3] rfl)
    obtain ⟨hP9, hD9⟩ := PDq.sub (ws' := [(v31, .inl (cA 0, 400, .inl fc)), (v33, .inl (cA 0, 11, .inl fq)), (v35, .inl (cA 4, 400, .inl fk)), (v36, .inl (cA 0, 10, .inl fo)), (oX10 w0 v0 v1 v2 v3 v4 g5 g5 (nI ed) 0 v9 (nI nb) g11 g12 v13 g14 g15 g16 g17 g18 g19 g20 g21 g22 g23 g24 g25 g26 v27 v28 v29 v30 v31 v32 v33 v34 v35 v36 v37 (nI ol)), (v0, .inl (cA 0, 326, .inl fs)), (v2, .inl (cA 0, 326, .inl fn9))]) hP hD [0, 1, 2, 3, 4, 5, 6] (by decide) rfl
    exact loop1 (kn3 - 0) 0 en dy (-1) fk fo g5 g5 0 g14 g15 g16 g17 g18 g19 g20 g21 g22 g23 g24 g25 g26 fs _ _ ls (by omega) hbit hord hen (by omega) hri hP9 hD9 hS (lv_sub hl [0, 1, 2, 3] rfl)
  · skip
    subst hr9
    obtain ⟨hPc, hDc, hFc⟩ := PDq.cut (wc := [(oX10 w0 v0 v1 v2 v3 v4 g5 g6 (nI ed) g8 v9 (nI nb) g11 g12 v13 g14 g15 g16 g17 g18 g19 g20 g21 g22 g23 g24 g25 g26 v27 v28 v29 v30 v31 v32 v33 v34 v35 v36 v37 (nI ol))]) hP hD hS hA [0] (by decide) rfl
    refine va_calli (va_runV (As := [.int 0]) (rest := []) ⟨hx, hb, hml, hown, hts⟩ (r_good0 l D cA sa w0 ed nb ol v0 v1 v2 v3 v4 v9 v13 v27 v28 v29 v30 v31 v32 v33 v34 v35 v36 v37 g8 g11 g12 g14 g15 g16 g17 g18 g19 g20 g21 g22 g23 g24 g26 g5 g6 g25 H.size) (cwV 1 hts gX10_shortDay_X10_good rfl rfl rfl (by decide +kernel) ⟨(Nat.le_of_ble_eq_true rfl), (Nat.le_of_ble_eq_true rfl)⟩) ⟨Wd.blind, va_recv hK hPc (ci := 11) (q0 := 0) rfl rfl, fun U hU hW => ⟨rfl, Wd.call hPc hDc hK hC hZ hS hFc U hU hW⟩⟩ rfl rfl hl.1 rfl (lv_room (Nat.le_of_ble_eq_true rfl)) dX10_shortDay_5 ⟨(Nat.le_of_ble_eq_true rfl), (Nat.le_of_ble_eq_true rfl)⟩) hS (fun q _ h => hFc q h) hFc (fun rn48 u t H1 locs ht hvm hw hB hz1 hk1 hS => ?_)
    obtain ⟨hP1, hD1⟩ := hB
    rw [ht] at hP1
    obtain ⟨hP, hD⟩ := PDq.join (w := [(v0, .inl (cA 0, 326, .inl fs)), (v31, .inl (cA 0, 400, .inl fc)), (v33, .inl (cA 0, 11, .inl fq)), (v35, .inl (cA 4, 400, .inl fk)), (v36, .inl (cA 0, 10, .inl fo)), (v2, .inl (cA 0, 326, .inl fa)), (oX10 w0 v0 v1 v2 v3 v4 g5 g6 (nI ed) 1 v9 (nI nb) g11 g12 v13 g14 g15 g16 g17 g18 g19 g20 g21 g22 g23 g24 g25 g26 v27 v28 v29 v30 v31 v32 v33 v34 v35 v36 v37 (nI ol))]) 6 hP hD [0] [1, 2, 3, 4, 5, 6] rfl rfl (by decide) (by decide) hk1 hFc hP1 hD1 rfl
    generalize H1 = H at hP hS ⊢
    obtain rfl : rn48 = 0 := hw
    refine lv_if_ne (tgt := 13) hx hb dX10_shortDay_8 (by decide) (fun c9 => absurd c9 (by decide)) (fun c49 => ?_)
    refine lv_iconst (v := 0) hx hb dX10_shortDay_11 (by decide) ?_
    obtain ⟨hP9, hD9⟩ := PDq.sub (ws' := [(oX10 w0 v0 v1 v2 v3 v4 g5 g6 (nI ed) 1 v9 (nI nb) g11 g12 v13 g14 g15 g16 g17 g18 g19 g20 g21 g22 g23 g24 g25 g26 v27 v28 v29 v30 v31 v32 v33 v34 v35 v36 v37 (nI ol)), (v0, .inl (cA 0, 326, .inl fs)), (v31, .inl (cA 0, 400, .inl fc)), (v33, .inl (cA 0, 11, .inl fq)), (v35, .inl (cA 4, 400, .inl fk)), (v36, .inl (cA 0, 10, .inl fo)), (v2, .inl (cA 0, 326, .inl fa))]) hP hD [6, 0, 1, 2, 3, 4, 5] (by decide) rfl
    refine W.widen (k := 0) (n := 0) (Nat.le_of_ble_eq_true rfl) (Nat.le_of_ble_eq_true rfl) ?_
    exact (W.iret (v := 0) hx hb hr (fun t ht hW => ⟨⟨0, (), rfl, trivial, 1, g14, g15, g16, g17, g18, g19, g20, g21, g22, g23, g24, g26, g5, g6, g25, fs, fk, fo, fa, hri, hbit, hord, by rw [ht]; exact hP9, hD9⟩, hS.F ht⟩) hS.2.2 dX10_shortDay_12)

set_option maxHeartbeats 4000000 in
set_option maxRecDepth 100000 in
/-- reference: canSplit -/
theorem r_canSplit0 (l : Launch) (D : va_G) (cA : Nat → ClassId) (sa : Nat → Nat) (w0 : Nat) (ed : Nat) (nb : Nat) (ol : Nat) (v0 : Nat) (v1 : Nat) (v2 : Nat) (v3 : Nat) (v4 : Nat) (v9 : Nat) (v13 : Nat) (v27 : Nat) (v28 : Nat) (v29 : Nat) (v30 : Nat) (v31 : Nat) (v32 : Nat) (v33 : Nat) (v34 : Nat) (v35 : Nat) (v36 : Nat) (v37 : Nat) (g8 : Int32) (g11 : Int32) (g12 : Int32) (g14 : Int32) (g15 : Int32) (g16 : Int32) (g17 : Int32) (g18 : Int32) (g19 : Int32) (g20 : Int32) (g21 : Int32) (g22 : Int32) (g23 : Int32) (g24 : Int32) (g26 : Int32) (g5 : Int64) (g6 : Int64) (g25 : Int64) (cn : Nat) (pq : Nat) (en : Nat) (dy : Nat) (fs : Nat → Int32) (i : Int32) (sz : Nat) (hcn : cn ≤ 10) (hpq : pq ≤ 8) (hen : en ≤ 60) (hdy : dy ≤ 20000) (hri : RI cn pq en dy fs) : Met l yX10_canSplit wsX10_canSplit ({ frames := 2, cells := 0, slots := 0, locals := 46 }) (va_Pc [.ref w0, .int i, .int 0] (Wd D cA sa [(oX10 w0 v0 v1 v2 v3 v4 g5 g6 (nI ed) g8 v9 (nI nb) g11 g12 v13 g14 g15 g16 g17 g18 g19 g20 g21 g22 g23 g24 g25 g26 v27 v28 v29 v30 v31 v32 v33 v34 v35 v36 v37 (nI ol)), (v0, .inl (cA 0, 326, .inl fs))] sz)) (va_Qi (fun (r : Int32) (_ : Unit) => (r = 1 ∧ ∃ n, n < cn ∧ i = nI n) ∨ r = 0) (fun (_ : Unit) t => ∃ zt : Int32, Wq D (va_A [(oX10 w0 v0 v1 v2 v3 v4 g5 g6 (nI ed) g8 v9 (nI nb) g11 g12 v13 g14 g15 g16 g17 g18 g19 g20 g21 g22 g23 g24 g25 g26 v27 v28 v29 v30 v31 v32 v33 v34 v35 v36 v37 (nI ol)), (v0, .inl (cA 0, 326, .inl fs))] sz) [(oX10 w0 v0 v1 v2 v3 v4 g5 g6 (nI ed) zt v9 (nI nb) g11 g12 v13 g14 g15 g16 g17 g18 g19 g20 g21 g22 g23 g24 g25 g26 v27 v28 v29 v30 v31 v32 v33 v34 v35 v36 v37 (nI ol)), (v0, .inl (cA 0, 326, .inl fs))] t) (va_A [(oX10 w0 v0 v1 v2 v3 v4 g5 g6 (nI ed) g8 v9 (nI nb) g11 g12 v13 g14 g15 g16 g17 g18 g19 g20 g21 g22 g23 g24 g25 g26 v27 v28 v29 v30 v31 v32 v33 v34 v35 v36 v37 (nI ol)), (v0, .inl (cA 0, 326, .inl fs))] sz)) 0 0 (va_A [(oX10 w0 v0 v1 v2 v3 v4 g5 g6 (nI ed) g8 v9 (nI nb) g11 g12 v13 g14 g15 g16 g17 g18 g19 g20 g21 g22 g23 g24 g25 g26 v27 v28 v29 v30 v31 v32 v33 v34 v35 v36 v37 (nI ol)), (v0, .inl (cA 0, 326, .inl fs))] sz) := by
  refine Met.ofW (cc := cX10_canSplit) (maxL := 3) (ret := (some .boolean)) (by decide) rfl ?_
  intro p e s m args below meth c s₁ B hml hv
  obtain ⟨rfl, hsz, hP, hK, hD0, hC, hZ⟩ := hv
  have hx := B.exec
  have hb := B.bytes
  have hr := B.returns
  have hts := atoms_spec (ws := wsX10_canSplit) B.pre
  have hown : s.vm.findClass RX10 = some m.cls := findClass_of_methodNamed B.named
  have hlocks := B.notSynchronized
  subst hsz
  have hD := hD0.self (sz := s.heap.size)
  generalize hAe : va_A [(oX10 w0 v0 v1 v2 v3 v4 g5 g6 (nI ed) g8 v9 (nI nb) g11 g12 v13 g14 g15 g16 g17 g18 g19 g20 g21 g22 g23 g24 g25 g26 v27 v28 v29 v30 v31 v32 v33 v34 v35 v36 v37 (nI ol)), (v0, .inl (cA 0, 326, .inl fs))] s.heap.size = A at hD hZ ⊢
  have hA : ∀ q : Nat, s.heap.size ≤ q → A q := fun q h => by rw [← hAe]; exact Or.inr h
  have hS : va_S A s.heap s.heap [] := va_S.rf
  have hP : va_P D vwCl [(oX10 w0 v0 v1 v2 v3 v4 g5 g6 (nI ed) g8 v9 (nI nb) g11 g12 v13 g14 g15 g16 g17 g18 g19 g20 g21 g22 g23 g24 g25 g26 v27 v28 v29 v30 v31 v32 v33 v34 v35 v36 v37 (nI ol)), (v0, .inl (cA 0, 326, .inl fs))] s.heap := hP
  have hl := lv_entry ([.ref w0, .int i, .int 0]) (n := 3) (Nat.le_of_ble_eq_true rfl)
  rw [lg_entry_eq]
  generalize (lg_sl ([.ref w0, .int i, .int 0]) ++ List.replicate (3 - (lg_sl ([.ref w0, .int i, .int 0])).length) Slot.unset).toArray = ls at hl ⊢
  have hl : lv_has ls 3 [(0, .ref w0), (1, .int i), (2, .int 0)] := hl
  have inX10 : ∀ w ∈ u_ws RX10 TX10 39, w ∈ wsX10_canSplit := by decide +kernel
  refine lv_aload_n hx hb dX10_canSplit_0 rfl (lv_at hl 0 rfl) ?_
  refine lv_aload_n hx hb dX10_canSplit_1 rfl (lv_at hl 0 rfl) ?_
  refine lv_iload_n hx hb dX10_canSplit_2 rfl (lv_at hl 1 rfl) ?_
  obtain ⟨hPc, hDc, hFc⟩ := PDq.cut (wc := [(oX10 w0 v0 v1 v2 v3 v4 g5 g6 (nI ed) g8 v9 (nI nb) g11 g12 v13 g14 g15 g16 g17 g18 g19 g20 g21 g22 g23 g24 g25 g26 v27 v28 v29 v30 v31 v32 v33 v34 v35 v36 v37 (nI ol)), (v0, .inl (cA 0, 326, .inl fs))]) hP hD hS hA [0, 1] (by decide) rfl
  refine va_calli (va_runV (As := [.int i]) (rest := [.ref w0]) ⟨hx, hb, hml, hown, hts⟩ (r_isMilestone l D cA sa w0 ed nb ol v0 v1 v2 v3 v4 v9 v13 v27 v28 v29 v30 v31 v32 v33 v34 v35 v36 v37 g8 g11 g12 g14 g15 g16 g17 g18 g19 g20 g21 g22 g23 g24 g26 g5 g6 g25 cn pq en dy fs i s.heap.size hcn hpq hen hdy hri) (cwV 1 hts gX10_canSplit_X10_isMilestone rfl rfl rfl (by decide +kernel) ⟨(Nat.le_of_ble_eq_true rfl), (Nat.le_of_ble_eq_true rfl)⟩) ⟨Wd.blind, va_recv hK hPc (ci := 11) (q0 := 0) rfl rfl, fun U hU hW => ⟨rfl, Wd.call hPc hDc hK hC hZ hS hFc U hU hW⟩⟩ rfl rfl hl.1 rfl (lv_room (Nat.le_of_ble_eq_true rfl)) dX10_canSplit_3 ⟨(Nat.le_of_ble_eq_true rfl), (Nat.le_of_ble_eq_true rfl)⟩) hS (fun q _ h => hFc q h) hFc (fun rn1 u t H1 locs ht hvm hw hB hz1 hk1 hS => ?_)
  obtain ⟨hP1, hD1⟩ := hB
  rw [ht] at hP1
  obtain ⟨hP, hD⟩ := PDq.join (w := [(oX10 w0 v0 v1 v2 v3 v4 g5 g6 (nI ed) g8 v9 (nI nb) g11 g12 v13 g14 g15 g16 g17 g18 g19 g20 g21 g22 g23 g24 g25 g26 v27 v28 v29 v30 v31 v32 v33 v34 v35 v36 v37 (nI ol)), (v0, .inl (cA 0, 326, .inl fs))]) 0 hP hD [0, 1] [] rfl rfl (by decide) (by decide) hk1 hFc hP1 hD1 rfl
  generalize H1 = H at hP hS ⊢
  rcases hw with ⟨hr9, hn2⟩ | hr9
  · skip
    subst hr9
    obtain ⟨kn3, hn4, hn5⟩ := hn2
    rw [hn5] at hl
    have hl : lv_has ls 3 [(0, .ref w0), (1, .int (nI kn3)), (2, .int 0)] := hl
    refine lv_iload_n hx hb dX10_canSplit_6 rfl (lv_at hl 2 rfl) ?_
    obtain ⟨hPc, hDc, hFc⟩ := PDq.cut (wc := [(oX10 w0 v0 v1 v2 v3 v4 g5 g6 (nI ed) g8 v9 (nI nb) g11 g12 v13 g14 g15 g16 g17 g18 g19 g20 g21 g22 g23 g24 g25 g26 v27 v28 v29 v30 v31 v32 v33 v34 v35 v36 v37 (nI ol))]) hP hD hS hA [0] (by decide) rfl
    refine va_calli (va_runV (As := [.int 1, .int 0]) (rest := []) ⟨hx, hb, hml, hown, hts⟩ (r_good_10 l D cA sa w0 ed nb ol v0 v1 v2 v3 v4 v9 v13 v27 v28 v29 v30 v31 v32 v33 v34 v35 v36 v37 g8 g11 g12 g14 g15 g16 g17 g18 g19 g20 g21 g22 g23 g24 g26 g5 g6 g25 H.size) (cwV 2 hts gX10_canSplit_X10_good_ rfl rfl rfl (by decide +kernel) ⟨(Nat.le_of_ble_eq_true rfl), (Nat.le_of_ble_eq_true rfl)⟩) ⟨Wd.blind, va_recv hK hPc (ci := 11) (q0 := 0) rfl rfl, fun U hU hW => ⟨rfl, Wd.call hPc hDc hK hC hZ hS hFc U hU hW⟩⟩ rfl rfl hl.1 rfl (lv_room (Nat.le_of_ble_eq_true rfl)) dX10_canSplit_7 ⟨(Nat.le_of_ble_eq_true rfl), (Nat.le_of_ble_eq_true rfl)⟩) hS (fun q _ h => hFc q h) hFc (fun rn6 u t H1 locs ht hvm hw hB hz1 hk1 hS => ?_)
    obtain ⟨hP1, hD1⟩ := hB
    rw [ht] at hP1
    obtain ⟨hP, hD⟩ := PDq.join (w := [(v0, .inl (cA 0, 326, .inl fs)), (oX10 w0 v0 v1 v2 v3 v4 g5 g6 (nI ed) 2 v9 (nI nb) g11 g12 v13 g14 g15 g16 g17 g18 g19 g20 g21 g22 g23 g24 g25 g26 v27 v28 v29 v30 v31 v32 v33 v34 v35 v36 v37 (nI ol))]) 1 hP hD [0] [1] rfl rfl (by decide) (by decide) hk1 hFc hP1 hD1 rfl
    generalize H1 = H at hP hS ⊢
    obtain rfl : rn6 = 0 := hw
    refine lv_if_eq (tgt := 32) hx hb dX10_canSplit_10 (by decide) (fun c7 => ?_) (fun c9 => absurd c9 (by decide))
    refine lv_aload_n hx hb dX10_canSplit_32 rfl (lv_at hl 0 rfl) ?_
    refine va_get (D := D) (ci := 11) (v := .int 2) (C := RX10) (T := TX10) (N := 39) hx hb hts inX10 hown hK hP 1 rfl rfl 8 (by decide) (hts (.fieldLink RX10 80 "EscrowDeskModel" "thrown" "I") (by decide +kernel)) (fun _ h9 => h9) rfl dX10_canSplit_33 ?_
    refine lv_if_ne (tgt := 43) hx hb dX10_canSplit_36 (by decide) (fun c8 => ?_) (fun c9 => absurd c9 (by decide))
    refine lv_iconst (v := 0) hx hb dX10_canSplit_43 (by decide) ?_
    obtain ⟨hP9, hD9⟩ := PDq.sub (ws' := [(oX10 w0 v0 v1 v2 v3 v4 g5 g6 (nI ed) 2 v9 (nI nb) g11 g12 v13 g14 g15 g16 g17 g18 g19 g20 g21 g22 g23 g24 g25 g26 v27 v28 v29 v30 v31 v32 v33 v34 v35 v36 v37 (nI ol)), (v0, .inl (cA 0, 326, .inl fs))]) hP hD [1, 0] (by decide) rfl
    refine W.widen (k := 0) (n := 0) (Nat.le_of_ble_eq_true rfl) (Nat.le_of_ble_eq_true rfl) ?_
    exact (W.zret (v := 0) hx hb hr (by first | rfl | decide) (fun t ht hW => ⟨⟨0, (), rfl, Or.inr rfl, 2, by rw [ht]; exact hP9, hD9⟩, hS.F ht⟩) hS.2.2 dX10_canSplit_44)
  · skip
    subst hr9
    refine lv_iload_n hx hb dX10_canSplit_6 rfl (lv_at hl 2 rfl) ?_
    obtain ⟨hPc, hDc, hFc⟩ := PDq.cut (wc := [(oX10 w0 v0 v1 v2 v3 v4 g5 g6 (nI ed) g8 v9 (nI nb) g11 g12 v13 g14 g15 g16 g17 g18 g19 g20 g21 g22 g23 g24 g25 g26 v27 v28 v29 v30 v31 v32 v33 v34 v35 v36 v37 (nI ol))]) hP hD hS hA [0] (by decide) rfl
    refine va_calli (va_runV (As := [.int 0, .int 0]) (rest := []) ⟨hx, hb, hml, hown, hts⟩ (r_good_00 l D cA sa w0 ed nb ol v0 v1 v2 v3 v4 v9 v13 v27 v28 v29 v30 v31 v32 v33 v34 v35 v36 v37 g8 g11 g12 g14 g15 g16 g17 g18 g19 g20 g21 g22 g23 g24 g26 g5 g6 g25 H.size) (cwV 2 hts gX10_canSplit_X10_good_ rfl rfl rfl (by decide +kernel) ⟨(Nat.le_of_ble_eq_true rfl), (Nat.le_of_ble_eq_true rfl)⟩) ⟨Wd.blind, va_recv hK hPc (ci := 11) (q0 := 0) rfl rfl, fun U hU hW => ⟨rfl, Wd.call hPc hDc hK hC hZ hS hFc U hU hW⟩⟩ rfl rfl hl.1 rfl (lv_room (Nat.le_of_ble_eq_true rfl)) dX10_canSplit_7 ⟨(Nat.le_of_ble_eq_true rfl), (Nat.le_of_ble_eq_true rfl)⟩) hS (fun q _ h => hFc q h) hFc (fun rn9 u t H1 locs ht hvm hw hB hz1 hk1 hS => ?_)
    obtain ⟨hP1, hD1⟩ := hB
    rw [ht] at hP1
    obtain ⟨hP, hD⟩ := PDq.join (w := [(v0, .inl (cA 0, 326, .inl fs)), (oX10 w0 v0 v1 v2 v3 v4 g5 g6 (nI ed) 1 v9 (nI nb) g11 g12 v13 g14 g15 g16 g17 g18 g19 g20 g21 g22 g23 g24 g25 g26 v27 v28 v29 v30 v31 v32 v33 v34 v35 v36 v37 (nI ol))]) 1 hP hD [0] [1] rfl rfl (by decide) (by decide) hk1 hFc hP1 hD1 rfl
    generalize H1 = H at hP hS ⊢
    obtain rfl : rn9 = 0 := hw
    refine lv_if_eq (tgt := 32) hx hb dX10_canSplit_10 (by decide) (fun c10 => ?_) (fun c9 => absurd c9 (by decide))
    refine lv_aload_n hx hb dX10_canSplit_32 rfl (lv_at hl 0 rfl) ?_
    refine va_get (D := D) (ci := 11) (v := .int 1) (C := RX10) (T := TX10) (N := 39) hx hb hts inX10 hown hK hP 1 rfl rfl 8 (by decide) (hts (.fieldLink RX10 80 "EscrowDeskModel" "thrown" "I") (by decide +kernel)) (fun _ h9 => h9) rfl dX10_canSplit_33 ?_
    refine lv_if_ne (tgt := 43) hx hb dX10_canSplit_36 (by decide) (fun c11 => ?_) (fun c9 => absurd c9 (by decide))
    refine lv_iconst (v := 0) hx hb dX10_canSplit_43 (by decide) ?_
    obtain ⟨hP9, hD9⟩ := PDq.sub (ws' := [(oX10 w0 v0 v1 v2 v3 v4 g5 g6 (nI ed) 1 v9 (nI nb) g11 g12 v13 g14 g15 g16 g17 g18 g19 g20 g21 g22 g23 g24 g25 g26 v27 v28 v29 v30 v31 v32 v33 v34 v35 v36 v37 (nI ol)), (v0, .inl (cA 0, 326, .inl fs))]) hP hD [1, 0] (by decide) rfl
    refine W.widen (k := 0) (n := 0) (Nat.le_of_ble_eq_true rfl) (Nat.le_of_ble_eq_true rfl) ?_
    exact (W.zret (v := 0) hx hb hr (by first | rfl | decide) (fun t ht hW => ⟨⟨0, (), rfl, Or.inr rfl, 1, by rw [ht]; exact hP9, hD9⟩, hS.F ht⟩) hS.2.2 dX10_canSplit_44)

set_option maxHeartbeats 4000000 in
set_option maxRecDepth 100000 in
/-- reference: canSplit -/
theorem r_canSplit1 (l : Launch) (D : va_G) (cA : Nat → ClassId) (sa : Nat → Nat) (w0 : Nat) (ed : Nat) (nb : Nat) (ol : Nat) (v0 : Nat) (v1 : Nat) (v2 : Nat) (v3 : Nat) (v4 : Nat) (v9 : Nat) (v13 : Nat) (v27 : Nat) (v28 : Nat) (v29 : Nat) (v30 : Nat) (v31 : Nat) (v32 : Nat) (v33 : Nat) (v34 : Nat) (v35 : Nat) (v36 : Nat) (v37 : Nat) (g8 : Int32) (g11 : Int32) (g12 : Int32) (g14 : Int32) (g15 : Int32) (g16 : Int32) (g17 : Int32) (g18 : Int32) (g19 : Int32) (g20 : Int32) (g21 : Int32) (g22 : Int32) (g23 : Int32) (g24 : Int32) (g26 : Int32) (g5 : Int64) (g6 : Int64) (g25 : Int64) (cn : Nat) (pq : Nat) (en : Nat) (dy : Nat) (fs : Nat → Int32) (i : Int32) (sz : Nat) (hcn : cn ≤ 10) (hpq : pq ≤ 8) (hen : en ≤ 60) (hdy : dy ≤ 20000) (hri : RI cn pq en dy fs) : Met l yX10_canSplit wsX10_canSplit ({ frames := 2, cells := 0, slots := 0, locals := 46 }) (va_Pc [.ref w0, .int i, .int 1] (Wd D cA sa [(oX10 w0 v0 v1 v2 v3 v4 g5 g6 (nI ed) g8 v9 (nI nb) g11 g12 v13 g14 g15 g16 g17 g18 g19 g20 g21 g22 g23 g24 g25 g26 v27 v28 v29 v30 v31 v32 v33 v34 v35 v36 v37 (nI ol)), (v0, .inl (cA 0, 326, .inl fs))] sz)) (va_Qi (fun (r : Int32) (_ : Unit) => (r = 1 ∧ ∃ n, n < cn ∧ i = nI n) ∨ r = 0) (fun (_ : Unit) t => ∃ zt : Int32, Wq D (va_A [(oX10 w0 v0 v1 v2 v3 v4 g5 g6 (nI ed) g8 v9 (nI nb) g11 g12 v13 g14 g15 g16 g17 g18 g19 g20 g21 g22 g23 g24 g25 g26 v27 v28 v29 v30 v31 v32 v33 v34 v35 v36 v37 (nI ol)), (v0, .inl (cA 0, 326, .inl fs))] sz) [(oX10 w0 v0 v1 v2 v3 v4 g5 g6 (nI ed) zt v9 (nI nb) g11 g12 v13 g14 g15 g16 g17 g18 g19 g20 g21 g22 g23 g24 g25 g26 v27 v28 v29 v30 v31 v32 v33 v34 v35 v36 v37 (nI ol)), (v0, .inl (cA 0, 326, .inl fs))] t) (va_A [(oX10 w0 v0 v1 v2 v3 v4 g5 g6 (nI ed) g8 v9 (nI nb) g11 g12 v13 g14 g15 g16 g17 g18 g19 g20 g21 g22 g23 g24 g25 g26 v27 v28 v29 v30 v31 v32 v33 v34 v35 v36 v37 (nI ol)), (v0, .inl (cA 0, 326, .inl fs))] sz)) 0 0 (va_A [(oX10 w0 v0 v1 v2 v3 v4 g5 g6 (nI ed) g8 v9 (nI nb) g11 g12 v13 g14 g15 g16 g17 g18 g19 g20 g21 g22 g23 g24 g25 g26 v27 v28 v29 v30 v31 v32 v33 v34 v35 v36 v37 (nI ol)), (v0, .inl (cA 0, 326, .inl fs))] sz) := by
  refine Met.ofW (cc := cX10_canSplit) (maxL := 3) (ret := (some .boolean)) (by decide) rfl ?_
  intro p e s m args below meth c s₁ B hml hv
  obtain ⟨rfl, hsz, hP, hK, hD0, hC, hZ⟩ := hv
  have hx := B.exec
  have hb := B.bytes
  have hr := B.returns
  have hts := atoms_spec (ws := wsX10_canSplit) B.pre
  have hown : s.vm.findClass RX10 = some m.cls := findClass_of_methodNamed B.named
  have hlocks := B.notSynchronized
  subst hsz
  have hD := hD0.self (sz := s.heap.size)
  generalize hAe : va_A [(oX10 w0 v0 v1 v2 v3 v4 g5 g6 (nI ed) g8 v9 (nI nb) g11 g12 v13 g14 g15 g16 g17 g18 g19 g20 g21 g22 g23 g24 g25 g26 v27 v28 v29 v30 v31 v32 v33 v34 v35 v36 v37 (nI ol)), (v0, .inl (cA 0, 326, .inl fs))] s.heap.size = A at hD hZ ⊢
  have hA : ∀ q : Nat, s.heap.size ≤ q → A q := fun q h => by rw [← hAe]; exact Or.inr h
  have hS : va_S A s.heap s.heap [] := va_S.rf
  have hP : va_P D vwCl [(oX10 w0 v0 v1 v2 v3 v4 g5 g6 (nI ed) g8 v9 (nI nb) g11 g12 v13 g14 g15 g16 g17 g18 g19 g20 g21 g22 g23 g24 g25 g26 v27 v28 v29 v30 v31 v32 v33 v34 v35 v36 v37 (nI ol)), (v0, .inl (cA 0, 326, .inl fs))] s.heap := hP
  have hl := lv_entry ([.ref w0, .int i, .int 1]) (n := 3) (Nat.le_of_ble_eq_true rfl)
  rw [lg_entry_eq]
  generalize (lg_sl ([.ref w0, .int i, .int 1]) ++ List.replicate (3 - (lg_sl ([.ref w0, .int i, .int 1])).length) Slot.unset).toArray = ls at hl ⊢
  have hl : lv_has ls 3 [(0, .ref w0), (1, .int i), (2, .int 1)] := hl
  have inX10 : ∀ w ∈ u_ws RX10 TX10 39, w ∈ wsX10_canSplit := by decide +kernel
  refine lv_aload_n hx hb dX10_canSplit_0 rfl (lv_at hl 0 rfl) ?_
  refine lv_aload_n hx hb dX10_canSplit_1 rfl (lv_at hl 0 rfl) ?_
  refine lv_iload_n hx hb dX10_canSplit_2 rfl (lv_at hl 1 rfl) ?_
  obtain ⟨hPc, hDc, hFc⟩ := PDq.cut (wc := [(oX10 w0 v0 v1 v2 v3 v4 g5 g6 (nI ed) g8 v9 (nI nb) g11 g12 v13 g14 g15 g16 g17 g18 g19 g20 g21 g22 g23 g24 g25 g26 v27 v28 v29 v30 v31 v32 v33 v34 v35 v36 v37 (nI ol)), (v0, .inl (cA 0, 326, .inl fs))]) hP hD hS hA [0, 1] (by decide) rfl
  refine va_calli (va_runV (As := [.int i]) (rest := [.ref w0]) ⟨hx, hb, hml, hown, hts⟩ (r_isMilestone l D cA sa w0 ed nb ol v0 v1 v2 v3 v4 v9 v13 v27 v28 v29 v30 v31 v32 v33 v34 v35 v36 v37 g8 g11 g12 g14 g15 g16 g17 g18 g19 g20 g21 g22 g23 g24 g26 g5 g6 g25 cn pq en dy fs i s.heap.size hcn hpq hen hdy hri) (cwV 1 hts gX10_canSplit_X10_isMilestone rfl rfl rfl (by decide +kernel) ⟨(Nat.le_of_ble_eq_true rfl), (Nat.le_of_ble_eq_true rfl)⟩) ⟨Wd.blind, va_recv hK hPc (ci := 11) (q0 := 0) rfl rfl, fun U hU hW => ⟨rfl, Wd.call hPc hDc hK hC hZ hS hFc U hU hW⟩⟩ rfl rfl hl.1 rfl (lv_room (Nat.le_of_ble_eq_true rfl)) dX10_canSplit_3 ⟨(Nat.le_of_ble_eq_true rfl), (Nat.le_of_ble_eq_true rfl)⟩) hS (fun q _ h => hFc q h) hFc (fun rn1 u t H1 locs ht hvm hw hB hz1 hk1 hS => ?_)
  obtain ⟨hP1, hD1⟩ := hB
  rw [ht] at hP1
  obtain ⟨hP, hD⟩ := PDq.join (w := [(oX10 w0 v0 v1 v2 v3 v4 g5 g6 (nI ed) g8 v9 (nI nb) g11 g12 v13 g14 g15 g16 g17 g18 g19 g20 g21 g22 g23 g24 g25 g26 v27 v28 v29 v30 v31 v32 v33 v34 v35 v36 v37 (nI ol)), (v0, .inl (cA 0, 326, .inl fs))]) 0 hP hD [0, 1] [] rfl rfl (by decide) (by decide) hk1 hFc hP1 hD1 rfl
  generalize H1 = H at hP hS ⊢
  rcases hw with ⟨hr9, hn2⟩ | hr9
  · skip
    subst hr9
    obtain ⟨kn3, hn4, hn5⟩ := hn2
    rw [hn5] at hl
    have hl : lv_has ls 3 [(0, .ref w0), (1, .int (nI kn3)), (2, .int 1)] := hl
    refine lv_iload_n hx hb dX10_canSplit_6 rfl (lv_at hl 2 rfl) ?_
    obtain ⟨hPc, hDc, hFc⟩ := PDq.cut (wc := [(oX10 w0 v0 v1 v2 v3 v4 g5 g6 (nI ed) g8 v9 (nI nb) g11 g12 v13 g14 g15 g16 g17 g18 g19 g20 g21 g22 g23 g24 g25 g26 v27 v28 v29 v30 v31 v32 v33 v34 v35 v36 v37 (nI ol))]) hP hD hS hA [0] (by decide) rfl
    refine va_calli (va_runV (As := [.int 1, .int 1]) (rest := []) ⟨hx, hb, hml, hown, hts⟩ (r_good_11 l D cA sa w0 ed nb ol v0 v1 v2 v3 v4 v9 v13 v27 v28 v29 v30 v31 v32 v33 v34 v35 v36 v37 g8 g11 g12 g14 g15 g16 g17 g18 g19 g20 g21 g22 g23 g24 g26 g5 g6 g25 H.size) (cwV 2 hts gX10_canSplit_X10_good_ rfl rfl rfl (by decide +kernel) ⟨(Nat.le_of_ble_eq_true rfl), (Nat.le_of_ble_eq_true rfl)⟩) ⟨Wd.blind, va_recv hK hPc (ci := 11) (q0 := 0) rfl rfl, fun U hU hW => ⟨rfl, Wd.call hPc hDc hK hC hZ hS hFc U hU hW⟩⟩ rfl rfl hl.1 rfl (lv_room (Nat.le_of_ble_eq_true rfl)) dX10_canSplit_7 ⟨(Nat.le_of_ble_eq_true rfl), (Nat.le_of_ble_eq_true rfl)⟩) hS (fun q _ h => hFc q h) hFc (fun rn6 u t H1 locs ht hvm hw hB hz1 hk1 hS => ?_)
    obtain ⟨hP1, hD1⟩ := hB
    rw [ht] at hP1
    obtain ⟨hP, hD⟩ := PDq.join (w := [(v0, .inl (cA 0, 326, .inl fs)), (oX10 w0 v0 v1 v2 v3 v4 g5 g6 (nI ed) 0 v9 (nI nb) g11 g12 v13 g14 g15 g16 g17 g18 g19 g20 g21 g22 g23 g24 g25 g26 v27 v28 v29 v30 v31 v32 v33 v34 v35 v36 v37 (nI ol))]) 1 hP hD [0] [1] rfl rfl (by decide) (by decide) hk1 hFc hP1 hD1 rfl
    generalize H1 = H at hP hS ⊢
    obtain rfl : rn6 = 1 := hw
    refine lv_if_eq (tgt := 32) hx hb dX10_canSplit_10 (by decide) (fun c9 => absurd c9 (by decide)) (fun c7 => ?_)
    refine lv_aload_n hx hb dX10_canSplit_13 rfl (lv_at hl 0 rfl) ?_
    refine lv_aload_n hx hb dX10_canSplit_14 rfl (lv_at hl 0 rfl) ?_
    refine lv_iload_n hx hb dX10_canSplit_15 rfl (lv_at hl 1 rfl) ?_
    refine lv_iconst (v := 2) hx hb dX10_canSplit_16 (by decide) ?_
    obtain ⟨hPc, hDc, hFc⟩ := PDq.cut (wc := [(oX10 w0 v0 v1 v2 v3 v4 g5 g6 (nI ed) 0 v9 (nI nb) g11 g12 v13 g14 g15 g16 g17 g18 g19 g20 g21 g22 g23 g24 g25 g26 v27 v28 v29 v30 v31 v32 v33 v34 v35 v36 v37 (nI ol)), (v0, .inl (cA 0, 326, .inl fs))]) hP hD hS hA [1, 0] (by decide) rfl
    refine va_calli (va_runV (As := [.int (nI kn3), .int 2]) (rest := [.ref w0]) ⟨hx, hb, hml, hown, hts⟩ (r_of l D cA sa w0 ed nb ol v0 v1 v2 v3 v4 v9 v13 v27 v28 v29 v30 v31 v32 v33 v34 v35 v36 v37 0 g11 g12 g14 g15 g16 g17 g18 g19 g20 g21 g22 g23 g24 g26 g5 g6 g25 fs kn3 2 H.size (by omega) (by omega)) (cwV 2 hts gX10_canSplit_X10_of rfl rfl rfl (by decide +kernel) ⟨(Nat.le_of_ble_eq_true rfl), (Nat.le_of_ble_eq_true rfl)⟩) ⟨Wd.blind, va_recv hK hPc (ci := 11) (q0 := 0) rfl rfl, fun U hU hW => ⟨rfl, Wd.call hPc hDc hK hC hZ hS hFc U hU hW⟩⟩ rfl rfl hl.1 rfl (lv_room (Nat.le_of_ble_eq_true rfl)) dX10_canSplit_17 ⟨(Nat.le_of_ble_eq_true rfl), (Nat.le_of_ble_eq_true rfl)⟩) hS (fun q _ h => hFc q h) hFc (fun rn8 u t H1 locs ht hvm hw hB hz1 hk1 hS => ?_)
    obtain ⟨hP1, hD1⟩ := hB
    rw [ht] at hP1
    obtain ⟨hP, hD⟩ := PDq.join (w := [(oX10 w0 v0 v1 v2 v3 v4 g5 g6 (nI ed) 0 v9 (nI nb) g11 g12 v13 g14 g15 g16 g17 g18 g19 g20 g21 g22 g23 g24 g25 g26 v27 v28 v29 v30 v31 v32 v33 v34 v35 v36 v37 (nI ol)), (v0, .inl (cA 0, 326, .inl fs))]) 0 hP hD [1, 0] [] rfl rfl (by decide) (by decide) hk1 hFc hP1 hD1 rfl
    generalize H1 = H at hP hS ⊢
    obtain rfl : rn8 = (fs (16 + 7 * kn3 + 2)) := hw
    refine lv_iconst (v := 2) hx hb dX10_canSplit_20 (by decide) ?_
    refine lv_icmp_ne (tgt := 28) hx hb dX10_canSplit_21 (by decide) (fun c9 => ?_) (fun c9 => ?_)
    · skip
      refine lv_iconst (v := 3) hx hb dX10_canSplit_28 (by decide) ?_
      refine va_put (D := D) (ci := 11) (v := .int 3) (ty := .int) (C := RX10) (T := TX10) (N := 39) hx hb hts inX10 tyX10 tyX10_ok nmX10 hown hK hP hD hS 0 rfl rfl 8 (by decide) (hts (.fieldLink RX10 80 "EscrowDeskModel" "thrown" "I") (by decide +kernel)) (fun _ h9 => h9) rfl (by decide +kernel) rfl rfl (Nat.le_of_ble_eq_true rfl) dX10_canSplit_29 (fun H locs hP hD hS => ?_)
      obtain ⟨hP, hD⟩ : PDq D A [(oX10 w0 v0 v1 v2 v3 v4 g5 g6 (nI ed) 3 v9 (nI nb) g11 g12 v13 g14 g15 g16 g17 g18 g19 g20 g21 g22 g23 g24 g25 g26 v27 v28 v29 v30 v31 v32 v33 v34 v35 v36 v37 (nI ol)), (v0, .inl (cA 0, 326, .inl fs))] H := ⟨hP, hD⟩
      refine lv_aload_n hx hb dX10_canSplit_32 rfl (lv_at hl 0 rfl) ?_
      refine va_get (D := D) (ci := 11) (v := .int 3) (C := RX10) (T := TX10) (N := 39) hx hb hts inX10 hown hK hP 0 rfl rfl 8 (by decide) (hts (.fieldLink RX10 80 "EscrowDeskModel" "thrown" "I") (by decide +kernel)) (fun _ h9 => h9) rfl dX10_canSplit_33 ?_
      refine lv_if_ne (tgt := 43) hx hb dX10_canSplit_36 (by decide) (fun c10 => ?_) (fun c9 => absurd c9 (by decide))
      refine lv_iconst (v := 0) hx hb dX10_canSplit_43 (by decide) ?_
      obtain ⟨hP9, hD9⟩ := PDq.sub (ws' := [(oX10 w0 v0 v1 v2 v3 v4 g5 g6 (nI ed) 3 v9 (nI nb) g11 g12 v13 g14 g15 g16 g17 g18 g19 g20 g21 g22 g23 g24 g25 g26 v27 v28 v29 v30 v31 v32 v33 v34 v35 v36 v37 (nI ol)), (v0, .inl (cA 0, 326, .inl fs))]) hP hD [0, 1] (by decide) rfl
      refine W.widen (k := 0) (n := 0) (Nat.le_of_ble_eq_true rfl) (Nat.le_of_ble_eq_true rfl) ?_
      exact (W.zret (v := 0) hx hb hr (by first | rfl | decide) (fun t ht hW => ⟨⟨0, (), rfl, Or.inr rfl, 3, by rw [ht]; exact hP9, hD9⟩, hS.F ht⟩) hS.2.2 dX10_canSplit_44)
    · skip
      refine lv_iconst (v := 0) hx hb dX10_canSplit_24 (by decide) ?_
      refine lv_goto (tgt := 29) hx hb dX10_canSplit_25 (by decide) ?_
      refine va_put (D := D) (ci := 11) (v := .int 0) (ty := .int) (C := RX10) (T := TX10) (N := 39) hx hb hts inX10 tyX10 tyX10_ok nmX10 hown hK hP hD hS 0 rfl rfl 8 (by decide) (hts (.fieldLink RX10 80 "EscrowDeskModel" "thrown" "I") (by decide +kernel)) (fun _ h9 => h9) rfl (by decide +kernel) rfl rfl (Nat.le_of_ble_eq_true rfl) dX10_canSplit_29 (fun H locs hP hD hS => ?_)
      obtain ⟨hP, hD⟩ : PDq D A [(oX10 w0 v0 v1 v2 v3 v4 g5 g6 (nI ed) 0 v9 (nI nb) g11 g12 v13 g14 g15 g16 g17 g18 g19 g20 g21 g22 g23 g24 g25 g26 v27 v28 v29 v30 v31 v32 v33 v34 v35 v36 v37 (nI ol)), (v0, .inl (cA 0, 326, .inl fs))] H := ⟨hP, hD⟩
      refine lv_aload_n hx hb dX10_canSplit_32 rfl (lv_at hl 0 rfl) ?_
      refine va_get (D := D) (ci := 11) (v := .int 0) (C := RX10) (T := TX10) (N := 39) hx hb hts inX10 hown hK hP 0 rfl rfl 8 (by decide) (hts (.fieldLink RX10 80 "EscrowDeskModel" "thrown" "I") (by decide +kernel)) (fun _ h9 => h9) rfl dX10_canSplit_33 ?_
      refine lv_if_ne (tgt := 43) hx hb dX10_canSplit_36 (by decide) (fun c9 => absurd c9 (by decide)) (fun c11 => ?_)
      refine lv_iconst (v := 1) hx hb dX10_canSplit_39 (by decide) ?_
      refine lv_goto (tgt := 44) hx hb dX10_canSplit_40 (by decide) ?_
      obtain ⟨hP9, hD9⟩ := PDq.sub (ws' := [(oX10 w0 v0 v1 v2 v3 v4 g5 g6 (nI ed) 0 v9 (nI nb) g11 g12 v13 g14 g15 g16 g17 g18 g19 g20 g21 g22 g23 g24 g25 g26 v27 v28 v29 v30 v31 v32 v33 v34 v35 v36 v37 (nI ol)), (v0, .inl (cA 0, 326, .inl fs))]) hP hD [0, 1] (by decide) rfl
      refine W.widen (k := 0) (n := 0) (Nat.le_of_ble_eq_true rfl) (Nat.le_of_ble_eq_true rfl) ?_
      exact (W.zret (v := 1) hx hb hr (by first | rfl | decide) (fun t ht hW => ⟨⟨1, (), rfl, Or.inl ⟨rfl, ⟨kn3, by omega, hn5⟩⟩, 0, by rw [ht]; exact hP9, hD9⟩, hS.F ht⟩) hS.2.2 dX10_canSplit_44)
  · skip
    subst hr9
    refine lv_iload_n hx hb dX10_canSplit_6 rfl (lv_at hl 2 rfl) ?_
    obtain ⟨hPc, hDc, hFc⟩ := PDq.cut (wc := [(oX10 w0 v0 v1 v2 v3 v4 g5 g6 (nI ed) g8 v9 (nI nb) g11 g12 v13 g14 g15 g16 g17 g18 g19 g20 g21 g22 g23 g24 g25 g26 v27 v28 v29 v30 v31 v32 v33 v34 v35 v36 v37 (nI ol))]) hP hD hS hA [0] (by decide) rfl
    refine va_calli (va_runV (As := [.int 0, .int 1]) (rest := []) ⟨hx, hb, hml, hown, hts⟩ (r_good_01 l D cA sa w0 ed nb ol v0 v1 v2 v3 v4 v9 v13 v27 v28 v29 v30 v31 v32 v33 v34 v35 v36 v37 g8 g11 g12 g14 g15 g16 g17 g18 g19 g20 g21 g22 g23 g24 g26 g5 g6 g25 H.size) (cwV 2 hts gX10_canSplit_X10_good_ rfl rfl rfl (by decide +kernel) ⟨(Nat.le_of_ble_eq_true rfl), (Nat.le_of_ble_eq_true rfl)⟩) ⟨Wd.blind, va_recv hK hPc (ci := 11) (q0 := 0) rfl rfl, fun U hU hW => ⟨rfl, Wd.call hPc hDc hK hC hZ hS hFc U hU hW⟩⟩ rfl rfl hl.1 rfl (lv_room (Nat.le_of_ble_eq_true rfl)) dX10_canSplit_7 ⟨(Nat.le_of_ble_eq_true rfl), (Nat.le_of_ble_eq_true rfl)⟩) hS (fun q _ h => hFc q h) hFc (fun rn12 u t H1 locs ht hvm hw hB hz1 hk1 hS => ?_)
    obtain ⟨hP1, hD1⟩ := hB
    rw [ht] at hP1
    obtain ⟨hP, hD⟩ := PDq.join (w := [(v0, .inl (cA 0, 326, .inl fs)), (oX10 w0 v0 v1 v2 v3 v4 g5 g6 (nI ed) 1 v9 (nI nb) g11 g12 v13 g14 g15 g16 g17 g18 g19 g20 g21 g22 g23 g24 g25 g26 v27 v28 v29 v30 v31 v32 v33 v34 v35 v36 v37 (nI ol))]) 1 hP hD [0] [1] rfl rfl (by decide) (by decide) hk1 hFc hP1 hD1 rfl
    generalize H1 = H at hP hS ⊢
    obtain rfl : rn12 = 0 := hw
    refine lv_if_eq (tgt := 32) hx hb dX10_canSplit_10 (by decide) (fun c13 => ?_) (fun c9 => absurd c9 (by decide))
    refine lv_aload_n hx hb dX10_canSplit_32 rfl (lv_at hl 0 rfl) ?_
    refine va_get (D := D) (ci := 11) (v := .int 1) (C := RX10) (T := TX10) (N := 39) hx hb hts inX10 hown hK hP 1 rfl rfl 8 (by decide) (hts (.fieldLink RX10 80 "EscrowDeskModel" "thrown" "I") (by decide +kernel)) (fun _ h9 => h9) rfl dX10_canSplit_33 ?_
    refine lv_if_ne (tgt := 43) hx hb dX10_canSplit_36 (by decide) (fun c14 => ?_) (fun c9 => absurd c9 (by decide))
    refine lv_iconst (v := 0) hx hb dX10_canSplit_43 (by decide) ?_
    obtain ⟨hP9, hD9⟩ := PDq.sub (ws' := [(oX10 w0 v0 v1 v2 v3 v4 g5 g6 (nI ed) 1 v9 (nI nb) g11 g12 v13 g14 g15 g16 g17 g18 g19 g20 g21 g22 g23 g24 g25 g26 v27 v28 v29 v30 v31 v32 v33 v34 v35 v36 v37 (nI ol)), (v0, .inl (cA 0, 326, .inl fs))]) hP hD [1, 0] (by decide) rfl
    refine W.widen (k := 0) (n := 0) (Nat.le_of_ble_eq_true rfl) (Nat.le_of_ble_eq_true rfl) ?_
    exact (W.zret (v := 0) hx hb hr (by first | rfl | decide) (fun t ht hW => ⟨⟨0, (), rfl, Or.inr rfl, 1, by rw [ht]; exact hP9, hD9⟩, hS.F ht⟩) hS.2.2 dX10_canSplit_44)

set_option maxHeartbeats 4000000 in
set_option maxRecDepth 100000 in
/-- reference: splitPayment -/
theorem r_splitPayment (l : Launch) (D : va_G) (cA : Nat → ClassId) (sa : Nat → Nat) (w0 : Nat) (ed : Nat) (nb : Nat) (ol : Nat) (v0 : Nat) (v1 : Nat) (v2 : Nat) (v3 : Nat) (v4 : Nat) (v9 : Nat) (v13 : Nat) (v27 : Nat) (v28 : Nat) (v29 : Nat) (v30 : Nat) (v31 : Nat) (v32 : Nat) (v33 : Nat) (v34 : Nat) (v35 : Nat) (v36 : Nat) (v37 : Nat) (g8 : Int32) (g11 : Int32) (g12 : Int32) (g14 : Int32) (g15 : Int32) (g16 : Int32) (g17 : Int32) (g18 : Int32) (g19 : Int32) (g20 : Int32) (g21 : Int32) (g22 : Int32) (g23 : Int32) (g24 : Int32) (g26 : Int32) (g5 : Int64) (g6 : Int64) (g25 : Int64) (cn : Nat) (pq : Nat) (en : Nat) (dy : Nat) (fs : Nat → Int32) (i : Int32) (j : Int32) (sz : Nat) (hcn : cn ≤ 10) (hpq : pq ≤ 8) (hen : en ≤ 60) (hdy : dy ≤ 20000) (hri : RI cn pq en dy fs) : Met l yX10_splitPayment wsX10_splitPayment ({ frames := 5, cells := 0, slots := 0, locals := 107 }) (va_Pc [.ref w0, .int i, .int j] (Wd D cA sa [(oX10 w0 v0 v1 v2 v3 v4 g5 g6 (nI ed) g8 v9 (nI nb) g11 g12 v13 g14 g15 g16 g17 g18 g19 g20 g21 g22 g23 g24 g25 g26 v27 v28 v29 v30 v31 v32 v33 v34 v35 v36 v37 (nI ol)), (v0, .inl (cA 0, 326, .inl fs))] sz)) (va_Qi (fun (r : Int32) (_ : Unit) => True) (fun (_ : Unit) t => ∃ zt : Int32, Wq D (va_A [(oX10 w0 v0 v1 v2 v3 v4 g5 g6 (nI ed) g8 v9 (nI nb) g11 g12 v13 g14 g15 g16 g17 g18 g19 g20 g21 g22 g23 g24 g25 g26 v27 v28 v29 v30 v31 v32 v33 v34 v35 v36 v37 (nI ol)), (v0, .inl (cA 0, 326, .inl fs))] sz) [(oX10 w0 v0 v1 v2 v3 v4 g5 g6 (nI ed) zt v9 (nI nb) g11 g12 v13 g14 g15 g16 g17 g18 g19 g20 g21 g22 g23 g24 g25 g26 v27 v28 v29 v30 v31 v32 v33 v34 v35 v36 v37 (nI ol)), (v0, .inl (cA 0, 326, .inl fs))] t) (va_A [(oX10 w0 v0 v1 v2 v3 v4 g5 g6 (nI ed) g8 v9 (nI nb) g11 g12 v13 g14 g15 g16 g17 g18 g19 g20 g21 g22 g23 g24 g25 g26 v27 v28 v29 v30 v31 v32 v33 v34 v35 v36 v37 (nI ol)), (v0, .inl (cA 0, 326, .inl fs))] sz)) 0 0 (va_A [(oX10 w0 v0 v1 v2 v3 v4 g5 g6 (nI ed) g8 v9 (nI nb) g11 g12 v13 g14 g15 g16 g17 g18 g19 g20 g21 g22 g23 g24 g25 g26 v27 v28 v29 v30 v31 v32 v33 v34 v35 v36 v37 (nI ol)), (v0, .inl (cA 0, 326, .inl fs))] sz) := by
  refine Met.ofW (cc := cX10_splitPayment) (maxL := 3) (ret := (some .int)) (by decide) rfl ?_
  intro p e s m args below meth c s₁ B hml hv
  obtain ⟨rfl, hsz, hP, hK, hD0, hC, hZ⟩ := hv
  have hx := B.exec
  have hb := B.bytes
  have hr := B.returns
  have hts := atoms_spec (ws := wsX10_splitPayment) B.pre
  have hown : s.vm.findClass RX10 = some m.cls := findClass_of_methodNamed B.named
  have hlocks := B.notSynchronized
  subst hsz
  have hD := hD0.self (sz := s.heap.size)
  generalize hAe : va_A [(oX10 w0 v0 v1 v2 v3 v4 g5 g6 (nI ed) g8 v9 (nI nb) g11 g12 v13 g14 g15 g16 g17 g18 g19 g20 g21 g22 g23 g24 g25 g26 v27 v28 v29 v30 v31 v32 v33 v34 v35 v36 v37 (nI ol)), (v0, .inl (cA 0, 326, .inl fs))] s.heap.size = A at hD hZ ⊢
  have hA : ∀ q : Nat, s.heap.size ≤ q → A q := fun q h => by rw [← hAe]; exact Or.inr h
  have hS : va_S A s.heap s.heap [] := va_S.rf
  have hP : va_P D vwCl [(oX10 w0 v0 v1 v2 v3 v4 g5 g6 (nI ed) g8 v9 (nI nb) g11 g12 v13 g14 g15 g16 g17 g18 g19 g20 g21 g22 g23 g24 g25 g26 v27 v28 v29 v30 v31 v32 v33 v34 v35 v36 v37 (nI ol)), (v0, .inl (cA 0, 326, .inl fs))] s.heap := hP
  have hl := lv_entry ([.ref w0, .int i, .int j]) (n := 3) (Nat.le_of_ble_eq_true rfl)
  rw [lg_entry_eq]
  generalize (lg_sl ([.ref w0, .int i, .int j]) ++ List.replicate (3 - (lg_sl ([.ref w0, .int i, .int j])).length) Slot.unset).toArray = ls at hl ⊢
  have hl : lv_has ls 3 [(0, .ref w0), (1, .int i), (2, .int j)] := hl
  refine lv_aload_n hx hb dX10_splitPayment_0 rfl (lv_at hl 0 rfl) ?_
  refine lv_iload_n hx hb dX10_splitPayment_1 rfl (lv_at hl 1 rfl) ?_
  refine lv_iload_n hx hb dX10_splitPayment_2 rfl (lv_at hl 2 rfl) ?_
  obtain ⟨hPc, hDc, hFc⟩ := PDq.cut (wc := []) hP hD hS hA [] (by decide) rfl
  refine va_calli (va_runS (As := [.int j]) (rest := [.int i, .ref w0]) ⟨hx, hb, hml, hown, hts⟩ (r_isShare l D cA sa j s.heap.size) (va_cwS 1 hts gX10_splitPayment_X10_isShare rfl rfl rfl (by decide +kernel) ⟨(Nat.le_of_ble_eq_true rfl), (Nat.le_of_ble_eq_true rfl)⟩) ⟨Wd.blind, fun U hU hW => ⟨rfl, Wd.call hPc hDc hK hC hZ hS hFc U hU hW⟩⟩ rfl rfl hl.1 rfl (lv_room (Nat.le_of_ble_eq_true rfl)) dX10_splitPayment_3 ⟨(Nat.le_of_ble_eq_true rfl), (Nat.le_of_ble_eq_true rfl)⟩) hS (fun q _ h => hFc q h) hFc (fun rn1 u t H1 locs ht hvm hw hB hz1 hk1 hS => ?_)
  obtain ⟨hP1, hD1⟩ := hB
  rw [ht] at hP1
  obtain ⟨hP, hD⟩ := PDq.join (w := [(oX10 w0 v0 v1 v2 v3 v4 g5 g6 (nI ed) g8 v9 (nI nb) g11 g12 v13 g14 g15 g16 g17 g18 g19 g20 g21 g22 g23 g24 g25 g26 v27 v28 v29 v30 v31 v32 v33 v34 v35 v36 v37 (nI ol)), (v0, .inl (cA 0, 326, .inl fs))]) 2 hP hD [] [0, 1] rfl rfl (by decide) (by decide) hk1 hFc hP1 hD1 rfl
  generalize H1 = H at hP hS ⊢
  rcases hw with ⟨hr9, hn2⟩ | hr9
  · skip
    subst hr9
    obtain ⟨kn3, hn4, hn5, hn6⟩ := hn2
    rw [hn6] at hl
    have hl : lv_has ls 3 [(0, .ref w0), (1, .int i), (2, .int (nI kn3))] := hl
    obtain ⟨hPc, hDc, hFc⟩ := PDq.cut (wc := [(oX10 w0 v0 v1 v2 v3 v4 g5 g6 (nI ed) g8 v9 (nI nb) g11 g12 v13 g14 g15 g16 g17 g18 g19 g20 g21 g22 g23 g24 g25 g26 v27 v28 v29 v30 v31 v32 v33 v34 v35 v36 v37 (nI ol)), (v0, .inl (cA 0, 326, .inl fs))]) hP hD hS hA [0, 1] (by decide) rfl
    refine va_calli (va_runV (As := [.int i, .int 1]) (rest := []) ⟨hx, hb, hml, hown, hts⟩ (r_canSplit1 l D cA sa w0 ed nb ol v0 v1 v2 v3 v4 v9 v13 v27 v28 v29 v30 v31 v32 v33 v34 v35 v36 v37 g8 g11 g12 g14 g15 g16 g17 g18 g19 g20 g21 g22 g23 g24 g26 g5 g6 g25 cn pq en dy fs i H.size hcn hpq hen hdy hri) (cwV 2 hts gX10_splitPayment_X10_canSplit rfl rfl rfl (by decide +kernel) ⟨(Nat.le_of_ble_eq_true rfl), (Nat.le_of_ble_eq_true rfl)⟩) ⟨Wd.blind, va_recv hK hPc (ci := 11) (q0 := 0) rfl rfl, fun U hU hW => ⟨rfl, Wd.call hPc hDc hK hC hZ hS hFc U hU hW⟩⟩ rfl rfl hl.1 rfl (lv_room (Nat.le_of_ble_eq_true rfl)) dX10_splitPayment_6 ⟨(Nat.le_of_ble_eq_true rfl), (Nat.le_of_ble_eq_true rfl)⟩) hS (fun q _ h => hFc q h) hFc (fun rn7 u t H1 locs ht hvm hw hB hz1 hk1 hS => ?_)
    obtain ⟨zn8, hP1, hD1⟩ := hB
    rw [ht] at hP1
    obtain ⟨hP, hD⟩ := PDq.join (w := [(oX10 w0 v0 v1 v2 v3 v4 g5 g6 (nI ed) zn8 v9 (nI nb) g11 g12 v13 g14 g15 g16 g17 g18 g19 g20 g21 g22 g23 g24 g25 g26 v27 v28 v29 v30 v31 v32 v33 v34 v35 v36 v37 (nI ol)), (v0, .inl (cA 0, 326, .inl fs))]) 0 hP hD [0, 1] [] rfl rfl (by decide) (by decide) hk1 hFc hP1 hD1 rfl
    generalize H1 = H at hP hS ⊢
    rcases hw with ⟨hr9, hn9⟩ | hr9
    · skip
      subst hr9
      obtain ⟨kn10, hn11, hn12⟩ := hn9
      rw [hn12] at hl
      have hl : lv_has ls 3 [(0, .ref w0), (1, .int (nI kn10)), (2, .int (nI kn3))] := hl
      refine lv_if_eq (tgt := 21) hx hb dX10_splitPayment_9 (by decide) (fun c9 => absurd c9 (by decide)) (fun c13 => ?_)
      refine lv_aload_n hx hb dX10_splitPayment_12 rfl (lv_at hl 0 rfl) ?_
      refine lv_iload_n hx hb dX10_splitPayment_13 rfl (lv_at hl 1 rfl) ?_
      refine lv_iload_n hx hb dX10_splitPayment_14 rfl (lv_at hl 2 rfl) ?_
      obtain ⟨hPc, hDc, hFc⟩ := PDq.cut (wc := [(oX10 w0 v0 v1 v2 v3 v4 g5 g6 (nI ed) zn8 v9 (nI nb) g11 g12 v13 g14 g15 g16 g17 g18 g19 g20 g21 g22 g23 g24 g25 g26 v27 v28 v29 v30 v31 v32 v33 v34 v35 v36 v37 (nI ol)), (v0, .inl (cA 0, 326, .inl fs))]) hP hD hS hA [0, 1] (by decide) rfl
      refine va_calli (va_runV (As := [.int (nI kn10), .int (nI kn3)]) (rest := []) ⟨hx, hb, hml, hown, hts⟩ (r_splitBy l D cA sa w0 ed nb ol v0 v1 v2 v3 v4 v9 v13 v27 v28 v29 v30 v31 v32 v33 v34 v35 v36 v37 zn8 g11 g12 g14 g15 g16 g17 g18 g19 g20 g21 g22 g23 g24 g26 g5 g6 g25 cn pq en dy fs kn10 (nI kn3) H.size hcn hpq hen hdy hri (by omega)) (cwV 2 hts gX10_splitPayment_X10_splitBy rfl rfl rfl (by decide +kernel) ⟨(Nat.le_of_ble_eq_true rfl), (Nat.le_of_ble_eq_true rfl)⟩) ⟨Wd.blind, va_recv hK hPc (ci := 11) (q0 := 0) rfl rfl, fun U hU hW => ⟨rfl, Wd.call hPc hDc hK hC hZ hS hFc U hU hW⟩⟩ rfl rfl hl.1 rfl (lv_room (Nat.le_of_ble_eq_true rfl)) dX10_splitPayment_15 ⟨(Nat.le_of_ble_eq_true rfl), (Nat.le_of_ble_eq_true rfl)⟩) hS (fun q _ h => hFc q h) hFc (fun rn14 u t H1 locs ht hvm hw hB hz1 hk1 hS => ?_)
      obtain ⟨hP1, hD1⟩ := hB
      rw [ht] at hP1
      obtain ⟨hP, hD⟩ := PDq.join (w := [(oX10 w0 v0 v1 v2 v3 v4 g5 g6 (nI ed) zn8 v9 (nI nb) g11 g12 v13 g14 g15 g16 g17 g18 g19 g20 g21 g22 g23 g24 g25 g26 v27 v28 v29 v30 v31 v32 v33 v34 v35 v36 v37 (nI ol)), (v0, .inl (cA 0, 326, .inl fs))]) 0 hP hD [0, 1] [] rfl rfl (by decide) (by decide) hk1 hFc hP1 hD1 rfl
      generalize H1 = H at hP hS ⊢
      refine lv_goto (tgt := 22) hx hb dX10_splitPayment_18 (by decide) ?_
      obtain ⟨hP9, hD9⟩ := PDq.sub (ws' := [(oX10 w0 v0 v1 v2 v3 v4 g5 g6 (nI ed) zn8 v9 (nI nb) g11 g12 v13 g14 g15 g16 g17 g18 g19 g20 g21 g22 g23 g24 g25 g26 v27 v28 v29 v30 v31 v32 v33 v34 v35 v36 v37 (nI ol)), (v0, .inl (cA 0, 326, .inl fs))]) hP hD [0, 1] (by decide) rfl
      refine W.widen (k := 0) (n := 0) (Nat.le_of_ble_eq_true rfl) (Nat.le_of_ble_eq_true rfl) ?_
      exact (W.iret (v := rn14) hx hb hr (fun t ht hW => ⟨⟨rn14, (), rfl, trivial, zn8, by rw [ht]; exact hP9, hD9⟩, hS.F ht⟩) hS.2.2 dX10_splitPayment_22)
    · skip
      subst hr9
      refine lv_if_eq (tgt := 21) hx hb dX10_splitPayment_9 (by decide) (fun c15 => ?_) (fun c9 => absurd c9 (by decide))
      refine lv_iconst (v := 0) hx hb dX10_splitPayment_21 (by decide) ?_
      obtain ⟨hP9, hD9⟩ := PDq.sub (ws' := [(oX10 w0 v0 v1 v2 v3 v4 g5 g6 (nI ed) zn8 v9 (nI nb) g11 g12 v13 g14 g15 g16 g17 g18 g19 g20 g21 g22 g23 g24 g25 g26 v27 v28 v29 v30 v31 v32 v33 v34 v35 v36 v37 (nI ol)), (v0, .inl (cA 0, 326, .inl fs))]) hP hD [0, 1] (by decide) rfl
      refine W.widen (k := 0) (n := 0) (Nat.le_of_ble_eq_true rfl) (Nat.le_of_ble_eq_true rfl) ?_
      exact (W.iret (v := 0) hx hb hr (fun t ht hW => ⟨⟨0, (), rfl, trivial, zn8, by rw [ht]; exact hP9, hD9⟩, hS.F ht⟩) hS.2.2 dX10_splitPayment_22)
  · skip
    subst hr9
    obtain ⟨hPc, hDc, hFc⟩ := PDq.cut (wc := [(oX10 w0 v0 v1 v2 v3 v4 g5 g6 (nI ed) g8 v9 (nI nb) g11 g12 v13 g14 g15 g16 g17 g18 g19 g20 g21 g22 g23 g24 g25 g26 v27 v28 v29 v30 v31 v32 v33 v34 v35 v36 v37 (nI ol)), (v0, .inl (cA 0, 326, .inl fs))]) hP hD hS hA [0, 1] (by decide) rfl
    refine va_calli (va_runV (As := [.int i, .int 0]) (rest := []) ⟨hx, hb, hml, hown, hts⟩ (r_canSplit0 l D cA sa w0 ed nb ol v0 v1 v2 v3 v4 v9 v13 v27 v28 v29 v30 v31 v32 v33 v34 v35 v36 v37 g8 g11 g12 g14 g15 g16 g17 g18 g19 g20 g21 g22 g23 g24 g26 g5 g6 g25 cn pq en dy fs i H.size hcn hpq hen hdy hri) (cwV 2 hts gX10_splitPayment_X10_canSplit rfl rfl rfl (by decide +kernel) ⟨(Nat.le_of_ble_eq_true rfl), (Nat.le_of_ble_eq_true rfl)⟩) ⟨Wd.blind, va_recv hK hPc (ci := 11) (q0 := 0) rfl rfl, fun U hU hW => ⟨rfl, Wd.call hPc hDc hK hC hZ hS hFc U hU hW⟩⟩ rfl rfl hl.1 rfl (lv_room (Nat.le_of_ble_eq_true rfl)) dX10_splitPayment_6 ⟨(Nat.le_of_ble_eq_true rfl), (Nat.le_of_ble_eq_true rfl)⟩) hS (fun q _ h => hFc q h) hFc (fun rn16 u t H1 locs ht hvm hw hB hz1 hk1 hS => ?_)
    obtain ⟨zn17, hP1, hD1⟩ := hB
    rw [ht] at hP1
    obtain ⟨hP, hD⟩ := PDq.join (w := [(oX10 w0 v0 v1 v2 v3 v4 g5 g6 (nI ed) zn17 v9 (nI nb) g11 g12 v13 g14 g15 g16 g17 g18 g19 g20 g21 g22 g23 g24 g25 g26 v27 v28 v29 v30 v31 v32 v33 v34 v35 v36 v37 (nI ol)), (v0, .inl (cA 0, 326, .inl fs))]) 0 hP hD [0, 1] [] rfl rfl (by decide) (by decide) hk1 hFc hP1 hD1 rfl
    generalize H1 = H at hP hS ⊢
    rcases hw with ⟨hr9, hn18⟩ | hr9
    · skip
      subst hr9
      obtain ⟨kn19, hn20, hn21⟩ := hn18
      rw [hn21] at hl
      have hl : lv_has ls 3 [(0, .ref w0), (1, .int (nI kn19)), (2, .int j)] := hl
      refine lv_if_eq (tgt := 21) hx hb dX10_splitPayment_9 (by decide) (fun c9 => absurd c9 (by decide)) (fun c22 => ?_)
      refine lv_aload_n hx hb dX10_splitPayment_12 rfl (lv_at hl 0 rfl) ?_
      refine lv_iload_n hx hb dX10_splitPayment_13 rfl (lv_at hl 1 rfl) ?_
      refine lv_iload_n hx hb dX10_splitPayment_14 rfl (lv_at hl 2 rfl) ?_
      obtain ⟨hPc, hDc, hFc⟩ := PDq.cut (wc := [(oX10 w0 v0 v1 v2 v3 v4 g5 g6 (nI ed) zn17 v9 (nI nb) g11 g12 v13 g14 g15 g16 g17 g18 g19 g20 g21 g22 g23 g24 g25 g26 v27 v28 v29 v30 v31 v32 v33 v34 v35 v36 v37 (nI ol)), (v0, .inl (cA 0, 326, .inl fs))]) hP hD hS hA [0, 1] (by decide) rfl
      refine va_calli (va_runV (As := [.int (nI kn19), .int j]) (rest := []) ⟨hx, hb, hml, hown, hts⟩ (r_splitBy l D cA sa w0 ed nb ol v0 v1 v2 v3 v4 v9 v13 v27 v28 v29 v30 v31 v32 v33 v34 v35 v36 v37 zn17 g11 g12 g14 g15 g16 g17 g18 g19 g20 g21 g22 g23 g24 g26 g5 g6 g25 cn pq en dy fs kn19 j H.size hcn hpq hen hdy hri (by omega)) (cwV 2 hts gX10_splitPayment_X10_splitBy rfl rfl rfl (by decide +kernel) ⟨(Nat.le_of_ble_eq_true rfl), (Nat.le_of_ble_eq_true rfl)⟩) ⟨Wd.blind, va_recv hK hPc (ci := 11) (q0 := 0) rfl rfl, fun U hU hW => ⟨rfl, Wd.call hPc hDc hK hC hZ hS hFc U hU hW⟩⟩ rfl rfl hl.1 rfl (lv_room (Nat.le_of_ble_eq_true rfl)) dX10_splitPayment_15 ⟨(Nat.le_of_ble_eq_true rfl), (Nat.le_of_ble_eq_true rfl)⟩) hS (fun q _ h => hFc q h) hFc (fun rn23 u t H1 locs ht hvm hw hB hz1 hk1 hS => ?_)
      obtain ⟨hP1, hD1⟩ := hB
      rw [ht] at hP1
      obtain ⟨hP, hD⟩ := PDq.join (w := [(oX10 w0 v0 v1 v2 v3 v4 g5 g6 (nI ed) zn17 v9 (nI nb) g11 g12 v13 g14 g15 g16 g17 g18 g19 g20 g21 g22 g23 g24 g25 g26 v27 v28 v29 v30 v31 v32 v33 v34 v35 v36 v37 (nI ol)), (v0, .inl (cA 0, 326, .inl fs))]) 0 hP hD [0, 1] [] rfl rfl (by decide) (by decide) hk1 hFc hP1 hD1 rfl
      generalize H1 = H at hP hS ⊢
      refine lv_goto (tgt := 22) hx hb dX10_splitPayment_18 (by decide) ?_
      obtain ⟨hP9, hD9⟩ := PDq.sub (ws' := [(oX10 w0 v0 v1 v2 v3 v4 g5 g6 (nI ed) zn17 v9 (nI nb) g11 g12 v13 g14 g15 g16 g17 g18 g19 g20 g21 g22 g23 g24 g25 g26 v27 v28 v29 v30 v31 v32 v33 v34 v35 v36 v37 (nI ol)), (v0, .inl (cA 0, 326, .inl fs))]) hP hD [0, 1] (by decide) rfl
      refine W.widen (k := 0) (n := 0) (Nat.le_of_ble_eq_true rfl) (Nat.le_of_ble_eq_true rfl) ?_
      exact (W.iret (v := rn23) hx hb hr (fun t ht hW => ⟨⟨rn23, (), rfl, trivial, zn17, by rw [ht]; exact hP9, hD9⟩, hS.F ht⟩) hS.2.2 dX10_splitPayment_22)
    · skip
      subst hr9
      refine lv_if_eq (tgt := 21) hx hb dX10_splitPayment_9 (by decide) (fun c24 => ?_) (fun c9 => absurd c9 (by decide))
      refine lv_iconst (v := 0) hx hb dX10_splitPayment_21 (by decide) ?_
      obtain ⟨hP9, hD9⟩ := PDq.sub (ws' := [(oX10 w0 v0 v1 v2 v3 v4 g5 g6 (nI ed) zn17 v9 (nI nb) g11 g12 v13 g14 g15 g16 g17 g18 g19 g20 g21 g22 g23 g24 g25 g26 v27 v28 v29 v30 v31 v32 v33 v34 v35 v36 v37 (nI ol)), (v0, .inl (cA 0, 326, .inl fs))]) hP hD [0, 1] (by decide) rfl
      refine W.widen (k := 0) (n := 0) (Nat.le_of_ble_eq_true rfl) (Nat.le_of_ble_eq_true rfl) ?_
      exact (W.iret (v := 0) hx hb hr (fun t ht hW => ⟨⟨0, (), rfl, trivial, zn17, by rw [ht]; exact hP9, hD9⟩, hS.F ht⟩) hS.2.2 dX10_splitPayment_22)

set_option maxHeartbeats 4000000 in
set_option maxRecDepth 100000 in
/-- reference: shareFor -/
theorem r_shareFor (l : Launch) (D : va_G) (cA : Nat → ClassId) (sa : Nat → Nat) (w0 : Nat) (ed : Nat) (nb : Nat) (ol : Nat) (v0 : Nat) (v1 : Nat) (v2 : Nat) (v3 : Nat) (v4 : Nat) (v9 : Nat) (v13 : Nat) (v27 : Nat) (v28 : Nat) (v29 : Nat) (v30 : Nat) (v31 : Nat) (v32 : Nat) (v33 : Nat) (v34 : Nat) (v35 : Nat) (v36 : Nat) (v37 : Nat) (g8 : Int32) (g11 : Int32) (g12 : Int32) (g14 : Int32) (g15 : Int32) (g16 : Int32) (g17 : Int32) (g18 : Int32) (g19 : Int32) (g20 : Int32) (g21 : Int32) (g22 : Int32) (g23 : Int32) (g24 : Int32) (g26 : Int32) (g5 : Int64) (g6 : Int64) (g25 : Int64) (cn : Nat) (pq : Nat) (en : Nat) (dy : Nat) (fs : Nat → Int32) (i : Int32) (j : Int32) (sz : Nat) (hcn : cn ≤ 10) (hpq : pq ≤ 8) (hen : en ≤ 60) (hdy : dy ≤ 20000) (hri : RI cn pq en dy fs) : Met l yX10_shareFor wsX10_shareFor ({ frames := 5, cells := 0, slots := 0, locals := 107 }) (va_Pc [.ref w0, .int i, .int j] (Wd D cA sa [(oX10 w0 v0 v1 v2 v3 v4 g5 g6 (nI ed) g8 v9 (nI nb) g11 g12 v13 g14 g15 g16 g17 g18 g19 g20 g21 g22 g23 g24 g25 g26 v27 v28 v29 v30 v31 v32 v33 v34 v35 v36 v37 (nI ol)), (v0, .inl (cA 0, 326, .inl fs))] sz)) (va_Qi (fun (r : Int32) (_ : Unit) => True) (fun (_ : Unit) t => ∃ zt : Int32, Wq D (va_A [(oX10 w0 v0 v1 v2 v3 v4 g5 g6 (nI ed) g8 v9 (nI nb) g11 g12 v13 g14 g15 g16 g17 g18 g19 g20 g21 g22 g23 g24 g25 g26 v27 v28 v29 v30 v31 v32 v33 v34 v35 v36 v37 (nI ol)), (v0, .inl (cA 0, 326, .inl fs))] sz) [(oX10 w0 v0 v1 v2 v3 v4 g5 g6 (nI ed) zt v9 (nI nb) g11 g12 v13 g14 g15 g16 g17 g18 g19 g20 g21 g22 g23 g24 g25 g26 v27 v28 v29 v30 v31 v32 v33 v34 v35 v36 v37 (nI ol)), (v0, .inl (cA 0, 326, .inl fs))] t) (va_A [(oX10 w0 v0 v1 v2 v3 v4 g5 g6 (nI ed) g8 v9 (nI nb) g11 g12 v13 g14 g15 g16 g17 g18 g19 g20 g21 g22 g23 g24 g25 g26 v27 v28 v29 v30 v31 v32 v33 v34 v35 v36 v37 (nI ol)), (v0, .inl (cA 0, 326, .inl fs))] sz)) 0 0 (va_A [(oX10 w0 v0 v1 v2 v3 v4 g5 g6 (nI ed) g8 v9 (nI nb) g11 g12 v13 g14 g15 g16 g17 g18 g19 g20 g21 g22 g23 g24 g25 g26 v27 v28 v29 v30 v31 v32 v33 v34 v35 v36 v37 (nI ol)), (v0, .inl (cA 0, 326, .inl fs))] sz) := by
  refine Met.ofW (cc := cX10_shareFor) (maxL := 5) (ret := (some .int)) (by decide) rfl ?_
  intro p e s m args below meth c s₁ B hml hv
  obtain ⟨rfl, hsz, hP, hK, hD0, hC, hZ⟩ := hv
  have hx := B.exec
  have hb := B.bytes
  have hr := B.returns
  have hts := atoms_spec (ws := wsX10_shareFor) B.pre
  have hown : s.vm.findClass RX10 = some m.cls := findClass_of_methodNamed B.named
  have hlocks := B.notSynchronized
  subst hsz
  have hD := hD0.self (sz := s.heap.size)
  generalize hAe : va_A [(oX10 w0 v0 v1 v2 v3 v4 g5 g6 (nI ed) g8 v9 (nI nb) g11 g12 v13 g14 g15 g16 g17 g18 g19 g20 g21 g22 g23 g24 g25 g26 v27 v28 v29 v30 v31 v32 v33 v34 v35 v36 v37 (nI ol)), (v0, .inl (cA 0, 326, .inl fs))] s.heap.size = A at hD hZ ⊢
  have hA : ∀ q : Nat, s.heap.size ≤ q → A q := fun q h => by rw [← hAe]; exact Or.inr h
  have hS : va_S A s.heap s.heap [] := va_S.rf
  have hP : va_P D vwCl [(oX10 w0 v0 v1 v2 v3 v4 g5 g6 (nI ed) g8 v9 (nI nb) g11 g12 v13 g14 g15 g16 g17 g18 g19 g20 g21 g22 g23 g24 g25 g26 v27 v28 v29 v30 v31 v32 v33 v34 v35 v36 v37 (nI ol)), (v0, .inl (cA 0, 326, .inl fs))] s.heap := hP
  have hl := lv_entry ([.ref w0, .int i, .int j]) (n := 5) (Nat.le_of_ble_eq_true rfl)
  rw [lg_entry_eq]
  generalize (lg_sl ([.ref w0, .int i, .int j]) ++ List.replicate (5 - (lg_sl ([.ref w0, .int i, .int j])).length) Slot.unset).toArray = ls at hl ⊢
  have hl : lv_has ls 5 [(0, .ref w0), (1, .int i), (2, .int j)] := hl
  refine lv_aload_n hx hb dX10_shareFor_0 rfl (lv_at hl 0 rfl) ?_
  refine lv_iload_n hx hb dX10_shareFor_1 rfl (lv_at hl 1 rfl) ?_
  refine lv_iload_n hx hb dX10_shareFor_2 rfl (lv_at hl 2 rfl) ?_
  refine lv_i2l (v := (j.toInt64)) hx hb dX10_shareFor_3 rfl ?_
  refine lv_lconst (v := 0) hx hb dX10_shareFor_4 (by decide) ?_
  refine lv_ldc2 (v := 99999) hx hb hown (hts (.constantLong RX10 388 99999) (by decide +kernel)) dX10_shareFor_5 ?_
  obtain ⟨hPc, hDc, hFc⟩ := PDq.cut (wc := []) hP hD hS hA [] (by decide) rfl
  refine va_calli (va_runS (As := [.long (j.toInt64), .long 0, .long 99999]) (rest := [.int i, .ref w0]) ⟨hx, hb, hml, hown, hts⟩ (r_between l D cA sa (j.toInt64) 0 99999 s.heap.size) (va_cwS 3 hts gX10_shareFor_X10_between rfl rfl rfl (by decide +kernel) ⟨(Nat.le_of_ble_eq_true rfl), (Nat.le_of_ble_eq_true rfl)⟩) ⟨Wd.blind, fun U hU hW => ⟨rfl, Wd.call hPc hDc hK hC hZ hS hFc U hU hW⟩⟩ rfl rfl hl.1 rfl (lv_room (Nat.le_of_ble_eq_true rfl)) dX10_shareFor_8 ⟨(Nat.le_of_ble_eq_true rfl), (Nat.le_of_ble_eq_true rfl)⟩) hS (fun q _ h => hFc q h) hFc (fun rn1 u t H1 locs ht hvm hw hB hz1 hk1 hS => ?_)
  obtain ⟨hP1, hD1⟩ := hB
  rw [ht] at hP1
  obtain ⟨hP, hD⟩ := PDq.join (w := [(oX10 w0 v0 v1 v2 v3 v4 g5 g6 (nI ed) g8 v9 (nI nb) g11 g12 v13 g14 g15 g16 g17 g18 g19 g20 g21 g22 g23 g24 g25 g26 v27 v28 v29 v30 v31 v32 v33 v34 v35 v36 v37 (nI ol)), (v0, .inl (cA 0, 326, .inl fs))]) 2 hP hD [] [0, 1] rfl rfl (by decide) (by decide) hk1 hFc hP1 hD1 rfl
  generalize H1 = H at hP hS ⊢
  rcases hw with ⟨hr9, hn2⟩ | hr9
  · skip
    subst hr9
    obtain ⟨hPc, hDc, hFc⟩ := PDq.cut (wc := [(oX10 w0 v0 v1 v2 v3 v4 g5 g6 (nI ed) g8 v9 (nI nb) g11 g12 v13 g14 g15 g16 g17 g18 g19 g20 g21 g22 g23 g24 g25 g26 v27 v28 v29 v30 v31 v32 v33 v34 v35 v36 v37 (nI ol)), (v0, .inl (cA 0, 326, .inl fs))]) hP hD hS hA [0, 1] (by decide) rfl
    refine va_calli (va_runV (As := [.int i, .int 1]) (rest := []) ⟨hx, hb, hml, hown, hts⟩ (r_canSplit1 l D cA sa w0 ed nb ol v0 v1 v2 v3 v4 v9 v13 v27 v28 v29 v30 v31 v32 v33 v34 v35 v36 v37 g8 g11 g12 g14 g15 g16 g17 g18 g19 g20 g21 g22 g23 g24 g26 g5 g6 g25 cn pq en dy fs i H.size hcn hpq hen hdy hri) (cwV 2 hts gX10_shareFor_X10_canSplit rfl rfl rfl (by decide +kernel) ⟨(Nat.le_of_ble_eq_true rfl), (Nat.le_of_ble_eq_true rfl)⟩) ⟨Wd.blind, va_recv hK hPc (ci := 11) (q0 := 0) rfl rfl, fun U hU hW => ⟨rfl, Wd.call hPc hDc hK hC hZ hS hFc U hU hW⟩⟩ rfl rfl hl.1 rfl (lv_room (Nat.le_of_ble_eq_true rfl)) dX10_shareFor_11 ⟨(Nat.le_of_ble_eq_true rfl), (Nat.le_of_ble_eq_true rfl)⟩) hS (fun q _ h => hFc q h) hFc (fun rn3 u t H1 locs ht hvm hw hB hz1 hk1 hS => ?_)
    obtain ⟨zn4, hP1, hD1⟩ := hB
    rw [ht] at hP1
    obtain ⟨hP, hD⟩ := PDq.join (w := [(oX10 w0 v0 v1 v2 v3 v4 g5 g6 (nI ed) zn4 v9 (nI nb) g11 g12 v13 g14 g15 g16 g17 g18 g19 g20 g21 g22 g23 g24 g25 g26 v27 v28 v29 v30 v31 v32 v33 v34 v35 v36 v37 (nI ol)), (v0, .inl (cA 0, 326, .inl fs))]) 0 hP hD [0, 1] [] rfl rfl (by decide) (by decide) hk1 hFc hP1 hD1 rfl
    generalize H1 = H at hP hS ⊢
    rcases hw with ⟨hr9, hn5⟩ | hr9
    · skip
      subst hr9
      obtain ⟨kn6, hn7, hn8⟩ := hn5
      rw [hn8] at hl
      have hl : lv_has ls 5 [(0, .ref w0), (1, .int (nI kn6)), (2, .int j)] := hl
      refine lv_if_ne (tgt := 19) hx hb dX10_shareFor_14 (by decide) (fun c9 => ?_) (fun c9 => absurd c9 (by decide))
      refine lv_iconst (v := 0) hx hb dX10_shareFor_19 (by decide) ?_
      refine lv_istore_n (lv' := [(3, .int 0), (0, .ref w0), (1, .int (nI kn6)), (2, .int j)]) hx hb dX10_shareFor_20 rfl hl (by decide) rfl (fun ls hl => ?_)
      have loop1 : ∀ (n1 i1 : Nat) (H : Heap) (locs : List Loc) (ls : Array Slot), i1 + n1 = 1001 → va_P D vwCl [(oX10 w0 v0 v1 v2 v3 v4 g5 g6 (nI ed) zn4 v9 (nI nb) g11 g12 v13 g14 g15 g16 g17 g18 g19 g20 g21 g22 g23 g24 g25 g26 v27 v28 v29 v30 v31 v32 v33 v34 v35 v36 v37 (nI ol)), (v0, .inl (cA 0, 326, .inl fs))] H → va_D A [(oX10 w0 v0 v1 v2 v3 v4 g5 g6 (nI ed) zn4 v9 (nI nb) g11 g12 v13 g14 g15 g16 g17 g18 g19 g20 g21 g22 g23 g24 g25 g26 v27 v28 v29 v30 v31 v32 v33 v34 v35 v36 v37 (nI ol)), (v0, .inl (cA 0, 326, .inl fs))] → va_S A s.heap H locs → lv_has ls 5 [(3, .int (nI i1)), (0, .ref w0), (1, .int (nI kn6)), (2, .int j)] → W p l e (headSpec wsX10_shareFor ({ frames := 5, cells := 0, slots := 0, locals := 107 } : Room)).room s m ([.ref w0, .int i, .int j] : List Value).toArray below meth c H locs 0 0 (MQ below (va_Qi (fun (r : Int32) (_ : Unit) => True) (fun (_ : Unit) t => ∃ zt : Int32, Wq D A [(oX10 w0 v0 v1 v2 v3 v4 g5 g6 (nI ed) zt v9 (nI nb) g11 g12 v13 g14 g15 g16 g17 g18 g19 g20 g21 g22 g23 g24 g25 g26 v27 v28 v29 v30 v31 v32 v33 v34 v35 v36 v37 (nI ol)), (v0, .inl (cA 0, 326, .inl fs))] t) A) ([.ref w0, .int i, .int j] : List Value).toArray s 0 0 A) (F0 m 21 ls []) := by
        intro n1
        induction n1 with
        | zero =>
          intro i1 H locs ls hi1 hP hD hS hl
          obtain rfl : 1001 = i1 := by omega
          refine lv_iload_n hx hb dX10_shareFor_21 rfl (lv_at hl 0 rfl) ?_
          refine lv_sipush (v := 1000) hx hb dX10_shareFor_22 (by decide) ?_
          refine lv_icmp_gt (tgt := 57) hx hb dX10_shareFor_25 (by decide) (fun c10 => ?_) (fun c9 => absurd (nI_lt (a := 1000) (b := 1001) (show 1000 < 1001 by omega) (by omega)) c9)
          refine lv_iconst (v := (-1)) hx hb dX10_shareFor_57 (by decide) ?_
          obtain ⟨hP9, hD9⟩ := PDq.sub (ws' := [(oX10 w0 v0 v1 v2 v3 v4 g5 g6 (nI ed) zn4 v9 (nI nb) g11 g12 v13 g14 g15 g16 g17 g18 g19 g20 g21 g22 g23 g24 g25 g26 v27 v28 v29 v30 v31 v32 v33 v34 v35 v36 v37 (nI ol)), (v0, .inl (cA 0, 326, .inl fs))]) hP hD [0, 1] (by decide) rfl
          refine W.widen (k := 0) (n := 0) (Nat.le_of_ble_eq_true rfl) (Nat.le_of_ble_eq_true rfl) ?_
          exact (W.iret (v := (-1)) hx hb hr (fun t ht hW => ⟨⟨(-1), (), rfl, trivial, zn4, by rw [ht]; exact hP9, hD9⟩, hS.F ht⟩) hS.2.2 dX10_shareFor_58)
        | succ n1 ih1 =>
          intro i1 H locs ls hi1 hP hD hS hl
          refine lv_iload_n hx hb dX10_shareFor_21 rfl (lv_at hl 0 rfl) ?_
          refine lv_sipush (v := 1000) hx hb dX10_shareFor_22 (by decide) ?_
          refine lv_icmp_gt (tgt := 57) hx hb dX10_shareFor_25 (by decide) (fun c9 => absurd c9 (nI_nlt (a := 1000) (b := i1) (show i1 ≤ 1000 by omega) (by omega))) (fun c11 => ?_)
          refine lv_aload_n hx hb dX10_shareFor_28 rfl (lv_at hl 1 rfl) ?_
          refine lv_iload_n hx hb dX10_shareFor_29 rfl (lv_at hl 2 rfl) ?_
          refine lv_iload_n hx hb dX10_shareFor_30 rfl (lv_at hl 0 rfl) ?_
          obtain ⟨hPc, hDc, hFc⟩ := PDq.cut (wc := [(oX10 w0 v0 v1 v2 v3 v4 g5 g6 (nI ed) zn4 v9 (nI nb) g11 g12 v13 g14 g15 g16 g17 g18 g19 g20 g21 g22 g23 g24 g25 g26 v27 v28 v29 v30 v31 v32 v33 v34 v35 v36 v37 (nI ol)), (v0, .inl (cA 0, 326, .inl fs))]) hP hD hS hA [0, 1] (by decide) rfl
          refine va_calli (va_runV (As := [.int (nI kn6), .int (nI i1)]) (rest := []) ⟨hx, hb, hml, hown, hts⟩ (r_splitBy l D cA sa w0 ed nb ol v0 v1 v2 v3 v4 v9 v13 v27 v28 v29 v30 v31 v32 v33 v34 v35 v36 v37 zn4 g11 g12 g14 g15 g16 g17 g18 g19 g20 g21 g22 g23 g24 g26 g5 g6 g25 cn pq en dy fs kn6 (nI i1) H.size hcn hpq hen hdy hri (by omega)) (cwV 2 hts gX10_shareFor_X10_splitBy rfl rfl rfl (by decide +kernel) ⟨(Nat.le_of_ble_eq_true rfl), (Nat.le_of_ble_eq_true rfl)⟩) ⟨Wd.blind, va_recv hK hPc (ci := 11) (q0 := 0) rfl rfl, fun U hU hW => ⟨rfl, Wd.call hPc hDc hK hC hZ hS hFc U hU hW⟩⟩ rfl rfl hl.1 rfl (lv_room (Nat.le_of_ble_eq_true rfl)) dX10_shareFor_31 ⟨(Nat.le_of_ble_eq_true rfl), (Nat.le_of_ble_eq_true rfl)⟩) hS (fun q _ h => hFc q h) hFc (fun rn12 u t H1 locs ht hvm hw hB hz1 hk1 hS => ?_)
          obtain ⟨hP1, hD1⟩ := hB
          rw [ht] at hP1
          obtain ⟨hP, hD⟩ := PDq.join (w := [(oX10 w0 v0 v1 v2 v3 v4 g5 g6 (nI ed) zn4 v9 (nI nb) g11 g12 v13 g14 g15 g16 g17 g18 g19 g20 g21 g22 g23 g24 g25 g26 v27 v28 v29 v30 v31 v32 v33 v34 v35 v36 v37 (nI ol)), (v0, .inl (cA 0, 326, .inl fs))]) 0 hP hD [0, 1] [] rfl rfl (by decide) (by decide) hk1 hFc hP1 hD1 rfl
          generalize H1 = H at hP hS ⊢
          refine lv_istore (lv' := [(4, .int rn12), (3, .int (nI i1)), (0, .ref w0), (1, .int (nI kn6)), (2, .int j)]) hx hb dX10_shareFor_34 hl (by decide) rfl (fun ls hl => ?_)
          refine lv_iload hx hb dX10_shareFor_36 (lv_at hl 0 rfl) ?_
          refine lv_aload_n hx hb dX10_shareFor_38 rfl (lv_at hl 2 rfl) ?_
          refine lv_iload hx hb dX10_shareFor_39 (lv_at hl 0 rfl) ?_
          obtain ⟨hPc, hDc, hFc⟩ := PDq.cut (wc := [(oX10 w0 v0 v1 v2 v3 v4 g5 g6 (nI ed) zn4 v9 (nI nb) g11 g12 v13 g14 g15 g16 g17 g18 g19 g20 g21 g22 g23 g24 g25 g26 v27 v28 v29 v30 v31 v32 v33 v34 v35 v36 v37 (nI ol)), (v0, .inl (cA 0, 326, .inl fs))]) hP hD hS hA [0, 1] (by decide) rfl
          refine va_calli (va_runV (As := [.int rn12]) (rest := [.int rn12]) ⟨hx, hb, hml, hown, hts⟩ (r_feeOf l D cA sa w0 ed nb ol v0 v1 v2 v3 v4 v9 v13 v27 v28 v29 v30 v31 v32 v33 v34 v35 v36 v37 zn4 g11 g12 g14 g15 g16 g17 g18 g19 g20 g21 g22 g23 g24 g26 g5 g6 g25 cn pq en dy fs rn12 H.size hcn hpq hen hdy hri) (cwV 1 hts gX10_shareFor_X10_feeOf rfl rfl rfl (by decide +kernel) ⟨(Nat.le_of_ble_eq_true rfl), (Nat.le_of_ble_eq_true rfl)⟩) ⟨Wd.blind, va_recv hK hPc (ci := 11) (q0 := 0) rfl rfl, fun U hU hW => ⟨rfl, Wd.call hPc hDc hK hC hZ hS hFc U hU hW⟩⟩ rfl rfl hl.1 rfl (lv_room (Nat.le_of_ble_eq_true rfl)) dX10_shareFor_41 ⟨(Nat.le_of_ble_eq_true rfl), (Nat.le_of_ble_eq_true rfl)⟩) hS (fun q _ h => hFc q h) hFc (fun rn13 u t H1 locs ht hvm hw hB hz1 hk1 hS => ?_)
          obtain ⟨hP1, hD1⟩ := hB
          rw [ht] at hP1
          obtain ⟨hP, hD⟩ := PDq.join (w := [(oX10 w0 v0 v1 v2 v3 v4 g5 g6 (nI ed) zn4 v9 (nI nb) g11 g12 v13 g14 g15 g16 g17 g18 g19 g20 g21 g22 g23 g24 g25 g26 v27 v28 v29 v30 v31 v32 v33 v34 v35 v36 v37 (nI ol)), (v0, .inl (cA 0, 326, .inl fs))]) 0 hP hD [0, 1] [] rfl rfl (by decide) (by decide) hk1 hFc hP1 hD1 rfl
          generalize H1 = H at hP hS ⊢
          refine lv_isub hx hb dX10_shareFor_44 ?_
          refine lv_topi (fun yn14 eyn14 => ?_)
          refine lv_iload_n hx hb dX10_shareFor_45 rfl (lv_at hl 4 rfl) ?_
          refine lv_icmp_lt (tgt := 51) hx hb dX10_shareFor_46 (by decide) (fun c15 => ?_) (fun c15 => ?_)
          · skip
            refine lv_iinc (v := (nI (i1 + 1))) (lv' := [(3, .int (nI (i1 + 1))), (4, .int rn12), (0, .ref w0), (1, .int (nI kn6)), (2, .int j)]) hx hb dX10_shareFor_51 hl (k := 1) rfl (nI_1 _) (by decide) rfl (fun ls hl => ?_)
            refine lv_goto (tgt := 21) hx hb dX10_shareFor_54 (by decide) ?_
            obtain ⟨hP9, hD9⟩ := PDq.sub (ws' := [(oX10 w0 v0 v1 v2 v3 v4 g5 g6 (nI ed) zn4 v9 (nI nb) g11 g12 v13 g14 g15 g16 g17 g18 g19 g20 g21 g22 g23 g24 g25 g26 v27 v28 v29 v30 v31 v32 v33 v34 v35 v36 v37 (nI ol)), (v0, .inl (cA 0, 326, .inl fs))]) hP hD [0, 1] (by decide) rfl
            exact ih1 (i1 + 1)  H _ ls (by omega) hP9 hD9 hS (lv_sub hl [0, 2, 3, 4] rfl)
          · skip
            refine lv_iload_n hx hb dX10_shareFor_49 rfl (lv_at hl 1 rfl) ?_
            obtain ⟨hP9, hD9⟩ := PDq.sub (ws' := [(oX10 w0 v0 v1 v2 v3 v4 g5 g6 (nI ed) zn4 v9 (nI nb) g11 g12 v13 g14 g15 g16 g17 g18 g19 g20 g21 g22 g23 g24 g25 g26 v27 v28 v29 v30 v31 v32 v33 v34 v35 v36 v37 (nI ol)), (v0, .inl (cA 0, 326, .inl fs))]) hP hD [0, 1] (by decide) rfl
            refine W.widen (k := 0) (n := 0) (Nat.le_of_ble_eq_true rfl) (Nat.le_of_ble_eq_true rfl) ?_
            exact (W.iret (v := (nI i1)) hx hb hr (fun t ht hW => ⟨⟨(nI i1), (), rfl, trivial, zn4, by rw [ht]; exact hP9, hD9⟩, hS.F ht⟩) hS.2.2 dX10_shareFor_50)
      obtain ⟨hP9, hD9⟩ := PDq.sub (ws' := [(oX10 w0 v0 v1 v2 v3 v4 g5 g6 (nI ed) zn4 v9 (nI nb) g11 g12 v13 g14 g15 g16 g17 g18 g19 g20 g21 g22 g23 g24 g25 g26 v27 v28 v29 v30 v31 v32 v33 v34 v35 v36 v37 (nI ol)), (v0, .inl (cA 0, 326, .inl fs))]) hP hD [0, 1] (by decide) rfl
      exact loop1 (1001 - 0) 0  _ _ ls (by omega) hP9 hD9 hS (lv_sub hl [0, 1, 2, 3] rfl)
    · skip
      subst hr9
      refine lv_if_ne (tgt := 19) hx hb dX10_shareFor_14 (by decide) (fun c9 => absurd c9 (by decide)) (fun c16 => ?_)
      refine lv_iconst (v := 0) hx hb dX10_shareFor_17 (by decide) ?_
      obtain ⟨hP9, hD9⟩ := PDq.sub (ws' := [(oX10 w0 v0 v1 v2 v3 v4 g5 g6 (nI ed) zn4 v9 (nI nb) g11 g12 v13 g14 g15 g16 g17 g18 g19 g20 g21 g22 g23 g24 g25 g26 v27 v28 v29 v30 v31 v32 v33 v34 v35 v36 v37 (nI ol)), (v0, .inl (cA 0, 326, .inl fs))]) hP hD [0, 1] (by decide) rfl
      refine W.widen (k := 0) (n := 0) (Nat.le_of_ble_eq_true rfl) (Nat.le_of_ble_eq_true rfl) ?_
      exact (W.iret (v := 0) hx hb hr (fun t ht hW => ⟨⟨0, (), rfl, trivial, zn4, by rw [ht]; exact hP9, hD9⟩, hS.F ht⟩) hS.2.2 dX10_shareFor_18)
  · skip
    subst hr9
    obtain ⟨hPc, hDc, hFc⟩ := PDq.cut (wc := [(oX10 w0 v0 v1 v2 v3 v4 g5 g6 (nI ed) g8 v9 (nI nb) g11 g12 v13 g14 g15 g16 g17 g18 g19 g20 g21 g22 g23 g24 g25 g26 v27 v28 v29 v30 v31 v32 v33 v34 v35 v36 v37 (nI ol)), (v0, .inl (cA 0, 326, .inl fs))]) hP hD hS hA [0, 1] (by decide) rfl
    refine va_calli (va_runV (As := [.int i, .int 0]) (rest := []) ⟨hx, hb, hml, hown, hts⟩ (r_canSplit0 l D cA sa w0 ed nb ol v0 v1 v2 v3 v4 v9 v13 v27 v28 v29 v30 v31 v32 v33 v34 v35 v36 v37 g8 g11 g12 g14 g15 g16 g17 g18 g19 g20 g21 g22 g23 g24 g26 g5 g6 g25 cn pq en dy fs i H.size hcn hpq hen hdy hri) (cwV 2 hts gX10_shareFor_X10_canSplit rfl rfl rfl (by decide +kernel) ⟨(Nat.le_of_ble_eq_true rfl), (Nat.le_of_ble_eq_true rfl)⟩) ⟨Wd.blind, va_recv hK hPc (ci := 11) (q0 := 0) rfl rfl, fun U hU hW => ⟨rfl, Wd.call hPc hDc hK hC hZ hS hFc U hU hW⟩⟩ rfl rfl hl.1 rfl (lv_room (Nat.le_of_ble_eq_true rfl)) dX10_shareFor_11 ⟨(Nat.le_of_ble_eq_true rfl), (Nat.le_of_ble_eq_true rfl)⟩) hS (fun q _ h => hFc q h) hFc (fun rn17 u t H1 locs ht hvm hw hB hz1 hk1 hS => ?_)
    obtain ⟨zn18, hP1, hD1⟩ := hB
    rw [ht] at hP1
    obtain ⟨hP, hD⟩ := PDq.join (w := [(oX10 w0 v0 v1 v2 v3 v4 g5 g6 (nI ed) zn18 v9 (nI nb) g11 g12 v13 g14 g15 g16 g17 g18 g19 g20 g21 g22 g23 g24 g25 g26 v27 v28 v29 v30 v31 v32 v33 v34 v35 v36 v37 (nI ol)), (v0, .inl (cA 0, 326, .inl fs))]) 0 hP hD [0, 1] [] rfl rfl (by decide) (by decide) hk1 hFc hP1 hD1 rfl
    generalize H1 = H at hP hS ⊢
    rcases hw with ⟨hr9, hn19⟩ | hr9
    · skip
      subst hr9
      obtain ⟨kn20, hn21, hn22⟩ := hn19
      rw [hn22] at hl
      have hl : lv_has ls 5 [(0, .ref w0), (1, .int (nI kn20)), (2, .int j)] := hl
      refine lv_if_ne (tgt := 19) hx hb dX10_shareFor_14 (by decide) (fun c23 => ?_) (fun c9 => absurd c9 (by decide))
      refine lv_iconst (v := 0) hx hb dX10_shareFor_19 (by decide) ?_
      refine lv_istore_n (lv' := [(3, .int 0), (0, .ref w0), (1, .int (nI kn20)), (2, .int j)]) hx hb dX10_shareFor_20 rfl hl (by decide) rfl (fun ls hl => ?_)
      have loop2 : ∀ (n2 i2 : Nat) (H : Heap) (locs : List Loc) (ls : Array Slot), i2 + n2 = 1001 → va_P D vwCl [(oX10 w0 v0 v1 v2 v3 v4 g5 g6 (nI ed) zn18 v9 (nI nb) g11 g12 v13 g14 g15 g16 g17 g18 g19 g20 g21 g22 g23 g24 g25 g26 v27 v28 v29 v30 v31 v32 v33 v34 v35 v36 v37 (nI ol)), (v0, .inl (cA 0, 326, .inl fs))] H → va_D A [(oX10 w0 v0 v1 v2 v3 v4 g5 g6 (nI ed) zn18 v9 (nI nb) g11 g12 v13 g14 g15 g16 g17 g18 g19 g20 g21 g22 g23 g24 g25 g26 v27 v28 v29 v30 v31 v32 v33 v34 v35 v36 v37 (nI ol)), (v0, .inl (cA 0, 326, .inl fs))] → va_S A s.heap H locs → lv_has ls 5 [(3, .int (nI i2)), (0, .ref w0), (1, .int (nI kn20)), (2, .int j)] → W p l e (headSpec wsX10_shareFor ({ frames := 5, cells := 0, slots := 0, locals := 107 } : Room)).room s m ([.ref w0, .int i, .int j] : List Value).toArray below meth c H locs 0 0 (MQ below (va_Qi (fun (r : Int32) (_ : Unit) => True) (fun (_ : Unit) t => ∃ zt : Int32, Wq D A [(oX10 w0 v0 v1 v2 v3 v4 g5 g6 (nI ed) zt v9 (nI nb) g11 g12 v13 g14 g15 g16 g17 g18 g19 g20 g21 g22 g23 g24 g25 g26 v27 v28 v29 v30 v31 v32 v33 v34 v35 v36 v37 (nI ol)), (v0, .inl (cA 0, 326, .inl fs))] t) A) ([.ref w0, .int i, .int j] : List Value).toArray s 0 0 A) (F0 m 21 ls []) := by
        intro n2
        induction n2 with
        | zero =>
          intro i2 H locs ls hi2 hP hD hS hl
          obtain rfl : 1001 = i2 := by omega
          refine lv_iload_n hx hb dX10_shareFor_21 rfl (lv_at hl 0 rfl) ?_
          refine lv_sipush (v := 1000) hx hb dX10_shareFor_22 (by decide) ?_
          refine lv_icmp_gt (tgt := 57) hx hb dX10_shareFor_25 (by decide) (fun c24 => ?_) (fun c9 => absurd (nI_lt (a := 1000) (b := 1001) (show 1000 < 1001 by omega) (by omega)) c9)
          refine lv_iconst (v := (-1)) hx hb dX10_shareFor_57 (by decide) ?_
          obtain ⟨hP9, hD9⟩ := PDq.sub (ws' := [(oX10 w0 v0 v1 v2 v3 v4 g5 g6 (nI ed) zn18 v9 (nI nb) g11 g12 v13 g14 g15 g16 g17 g18 g19 g20 g21 g22 g23 g24 g25 g26 v27 v28 v29 v30 v31 v32 v33 v34 v35 v36 v37 (nI ol)), (v0, .inl (cA 0, 326, .inl fs))]) hP hD [0, 1] (by decide) rfl
          refine W.widen (k := 0) (n := 0) (Nat.le_of_ble_eq_true rfl) (Nat.le_of_ble_eq_true rfl) ?_
          exact (W.iret (v := (-1)) hx hb hr (fun t ht hW => ⟨⟨(-1), (), rfl, trivial, zn18, by rw [ht]; exact hP9, hD9⟩, hS.F ht⟩) hS.2.2 dX10_shareFor_58)
        | succ n2 ih2 =>
          intro i2 H locs ls hi2 hP hD hS hl
          refine lv_iload_n hx hb dX10_shareFor_21 rfl (lv_at hl 0 rfl) ?_
          refine lv_sipush (v := 1000) hx hb dX10_shareFor_22 (by decide) ?_
          refine lv_icmp_gt (tgt := 57) hx hb dX10_shareFor_25 (by decide) (fun c9 => absurd c9 (nI_nlt (a := 1000) (b := i2) (show i2 ≤ 1000 by omega) (by omega))) (fun c25 => ?_)
          refine lv_aload_n hx hb dX10_shareFor_28 rfl (lv_at hl 1 rfl) ?_
          refine lv_iload_n hx hb dX10_shareFor_29 rfl (lv_at hl 2 rfl) ?_
          refine lv_iload_n hx hb dX10_shareFor_30 rfl (lv_at hl 0 rfl) ?_
          obtain ⟨hPc, hDc, hFc⟩ := PDq.cut (wc := [(oX10 w0 v0 v1 v2 v3 v4 g5 g6 (nI ed) zn18 v9 (nI nb) g11 g12 v13 g14 g15 g16 g17 g18 g19 g20 g21 g22 g23 g24 g25 g26 v27 v28 v29 v30 v31 v32 v33 v34 v35 v36 v37 (nI ol)), (v0, .inl (cA 0, 326, .inl fs))]) hP hD hS hA [0, 1] (by decide) rfl
          refine va_calli (va_runV (As := [.int (nI kn20), .int (nI i2)]) (rest := []) ⟨hx, hb, hml, hown, hts⟩ (r_splitBy l D cA sa w0 ed nb ol v0 v1 v2 v3 v4 v9 v13 v27 v28 v29 v30 v31 v32 v33 v34 v35 v36 v37 zn18 g11 g12 g14 g15 g16 g17 g18 g19 g20 g21 g22 g23 g24 g26 g5 g6 g25 cn pq en dy fs kn20 (nI i2) H.size hcn hpq hen hdy hri (by omega)) (cwV 2 hts gX10_shareFor_X10_splitBy rfl rfl rfl (by decide +kernel) ⟨(Nat.le_of_ble_eq_true rfl), (Nat.le_of_ble_eq_true rfl)⟩) ⟨Wd.blind, va_recv hK hPc (ci := 11) (q0 := 0) rfl rfl, fun U hU hW => ⟨rfl, Wd.call hPc hDc hK hC hZ hS hFc U hU hW⟩⟩ rfl rfl hl.1 rfl (lv_room (Nat.le_of_ble_eq_true rfl)) dX10_shareFor_31 ⟨(Nat.le_of_ble_eq_true rfl), (Nat.le_of_ble_eq_true rfl)⟩) hS (fun q _ h => hFc q h) hFc (fun rn26 u t H1 locs ht hvm hw hB hz1 hk1 hS => ?_)
          obtain ⟨hP1, hD1⟩ := hB
          rw [ht] at hP1
          obtain ⟨hP, hD⟩ := PDq.join (w := [(oX10 w0 v0 v1 v2 v3 v4 g5 g6 (nI ed) zn18 v9 (nI nb) g11 g12 v13 g14 g15 g16 g17 g18 g19 g20 g21 g22 g23 g24 g25 g26 v27 v28 v29 v30 v31 v32 v33 v34 v35 v36 v37 (nI ol)), (v0, .inl (cA 0, 326, .inl fs))]) 0 hP hD [0, 1] [] rfl rfl (by decide) (by decide) hk1 hFc hP1 hD1 rfl
          generalize H1 = H at hP hS ⊢
          refine lv_istore (lv' := [(4, .int rn26), (3, .int (nI i2)), (0, .ref w0), (1, .int (nI kn20)), (2, .int j)]) hx hb dX10_shareFor_34 hl (by decide) rfl (fun ls hl => ?_)
          refine lv_iload hx hb dX10_shareFor_36 (lv_at hl 0 rfl) ?_
          refine lv_aload_n hx hb dX10_shareFor_38 rfl (lv_at hl 2 rfl) ?_
          refine lv_iload hx hb dX10_shareFor_39 (lv_at hl 0 rfl) ?_
          obtain ⟨hPc, hDc, hFc⟩ := PDq.cut (wc := [(oX10 w0 v0 v1 v2 v3 v4 g5 g6 (nI ed) zn18 v9 (nI nb) g11 g12 v13 g14 g15 g16 g17 g18 g19 g20 g21 g22 g23 g24 g25 g26 v27 v28 v29 v30 v31 v32 v33 v34 v35 v36 v37 (nI ol)), (v0, .inl (cA 0, 326, .inl fs))]) hP hD hS hA [0, 1] (by decide) rfl
          refine va_calli (va_runV (As := [.int rn26]) (rest := [.int rn26]) ⟨hx, hb, hml, hown, hts⟩ (r_feeOf l D cA sa w0 ed nb ol v0 v1 v2 v3 v4 v9 v13 v27 v28 v29 v30 v31 v32 v33 v34 v35 v36 v37 zn18 g11 g12 g14 g15 g16 g17 g18 g19 g20 g21 g22 g23 g24 g26 g5 g6 g25 cn pq en dy fs rn26 H.size hcn hpq hen hdy hri) (cwV 1 hts gX10_shareFor_X10_feeOf rfl rfl rfl (by decide +kernel) ⟨(Nat.le_of_ble_eq_true rfl), (Nat.le_of_ble_eq_true rfl)⟩) ⟨Wd.blind, va_recv hK hPc (ci := 11) (q0 := 0) rfl rfl, fun U hU hW => ⟨rfl, Wd.call hPc hDc hK hC hZ hS hFc U hU hW⟩⟩ rfl rfl hl.1 rfl (lv_room (Nat.le_of_ble_eq_true rfl)) dX10_shareFor_41 ⟨(Nat.le_of_ble_eq_true rfl), (Nat.le_of_ble_eq_true rfl)⟩) hS (fun q _ h => hFc q h) hFc (fun rn27 u t H1 locs ht hvm hw hB hz1 hk1 hS => ?_)
          obtain ⟨hP1, hD1⟩ := hB
          rw [ht] at hP1
          obtain ⟨hP, hD⟩ := PDq.join (w := [(oX10 w0 v0 v1 v2 v3 v4 g5 g6 (nI ed) zn18 v9 (nI nb) g11 g12 v13 g14 g15 g16 g17 g18 g19 g20 g21 g22 g23 g24 g25 g26 v27 v28 v29 v30 v31 v32 v33 v34 v35 v36 v37 (nI ol)), (v0, .inl (cA 0, 326, .inl fs))]) 0 hP hD [0, 1] [] rfl rfl (by decide) (by decide) hk1 hFc hP1 hD1 rfl
          generalize H1 = H at hP hS ⊢
          refine lv_isub hx hb dX10_shareFor_44 ?_
          refine lv_topi (fun yn28 eyn28 => ?_)
          refine lv_iload_n hx hb dX10_shareFor_45 rfl (lv_at hl 4 rfl) ?_
          refine lv_icmp_lt (tgt := 51) hx hb dX10_shareFor_46 (by decide) (fun c29 => ?_) (fun c29 => ?_)
          · skip
            refine lv_iinc (v := (nI (i2 + 1))) (lv' := [(3, .int (nI (i2 + 1))), (4, .int rn26), (0, .ref w0), (1, .int (nI kn20)), (2, .int j)]) hx hb dX10_shareFor_51 hl (k := 1) rfl (nI_1 _) (by decide) rfl (fun ls hl => ?_)
            refine lv_goto (tgt := 21) hx hb dX10_shareFor_54 (by decide) ?_
            obtain ⟨hP9, hD9⟩ := PDq.sub (ws' := [(oX10 w0 v0 v1 v2 v3 v4 g5 g6 (nI ed) zn18 v9 (nI nb) g11 g12 v13 g14 g15 g16 g17 g18 g19 g20 g21 g22 g23 g24 g25 g26 v27 v28 v29 v30 v31 v32 v33 v34 v35 v36 v37 (nI ol)), (v0, .inl (cA 0, 326, .inl fs))]) hP hD [0, 1] (by decide) rfl
            exact ih2 (i2 + 1)  H _ ls (by omega) hP9 hD9 hS (lv_sub hl [0, 2, 3, 4] rfl)
          · skip
            refine lv_iload_n hx hb dX10_shareFor_49 rfl (lv_at hl 1 rfl) ?_
            obtain ⟨hP9, hD9⟩ := PDq.sub (ws' := [(oX10 w0 v0 v1 v2 v3 v4 g5 g6 (nI ed) zn18 v9 (nI nb) g11 g12 v13 g14 g15 g16 g17 g18 g19 g20 g21 g22 g23 g24 g25 g26 v27 v28 v29 v30 v31 v32 v33 v34 v35 v36 v37 (nI ol)), (v0, .inl (cA 0, 326, .inl fs))]) hP hD [0, 1] (by decide) rfl
            refine W.widen (k := 0) (n := 0) (Nat.le_of_ble_eq_true rfl) (Nat.le_of_ble_eq_true rfl) ?_
            exact (W.iret (v := (nI i2)) hx hb hr (fun t ht hW => ⟨⟨(nI i2), (), rfl, trivial, zn18, by rw [ht]; exact hP9, hD9⟩, hS.F ht⟩) hS.2.2 dX10_shareFor_50)
      obtain ⟨hP9, hD9⟩ := PDq.sub (ws' := [(oX10 w0 v0 v1 v2 v3 v4 g5 g6 (nI ed) zn18 v9 (nI nb) g11 g12 v13 g14 g15 g16 g17 g18 g19 g20 g21 g22 g23 g24 g25 g26 v27 v28 v29 v30 v31 v32 v33 v34 v35 v36 v37 (nI ol)), (v0, .inl (cA 0, 326, .inl fs))]) hP hD [0, 1] (by decide) rfl
      exact loop2 (1001 - 0) 0  _ _ ls (by omega) hP9 hD9 hS (lv_sub hl [0, 1, 2, 3] rfl)
    · skip
      subst hr9
      refine lv_if_ne (tgt := 19) hx hb dX10_shareFor_14 (by decide) (fun c9 => absurd c9 (by decide)) (fun c30 => ?_)
      refine lv_iconst (v := 0) hx hb dX10_shareFor_17 (by decide) ?_
      obtain ⟨hP9, hD9⟩ := PDq.sub (ws' := [(oX10 w0 v0 v1 v2 v3 v4 g5 g6 (nI ed) zn18 v9 (nI nb) g11 g12 v13 g14 g15 g16 g17 g18 g19 g20 g21 g22 g23 g24 g25 g26 v27 v28 v29 v30 v31 v32 v33 v34 v35 v36 v37 (nI ol)), (v0, .inl (cA 0, 326, .inl fs))]) hP hD [0, 1] (by decide) rfl
      refine W.widen (k := 0) (n := 0) (Nat.le_of_ble_eq_true rfl) (Nat.le_of_ble_eq_true rfl) ?_
      exact (W.iret (v := 0) hx hb hr (fun t ht hW => ⟨⟨0, (), rfl, trivial, zn18, by rw [ht]; exact hP9, hD9⟩, hS.F ht⟩) hS.2.2 dX10_shareFor_18)

set_option maxHeartbeats 4000000 in
set_option maxRecDepth 100000 in
/-- reference: deposit -/
theorem r_deposit (l : Launch) (D : va_G) (cA : Nat → ClassId) (sa : Nat → Nat) (w0 : Nat) (ed : Nat) (nb : Nat) (ol : Nat) (v0 : Nat) (v1 : Nat) (v2 : Nat) (v3 : Nat) (v4 : Nat) (v9 : Nat) (v13 : Nat) (v27 : Nat) (v28 : Nat) (v29 : Nat) (v30 : Nat) (v31 : Nat) (v32 : Nat) (v33 : Nat) (v34 : Nat) (v35 : Nat) (v36 : Nat) (v37 : Nat) (g8 : Int32) (g11 : Int32) (g12 : Int32) (g14 : Int32) (g15 : Int32) (g16 : Int32) (g17 : Int32) (g18 : Int32) (g19 : Int32) (g20 : Int32) (g21 : Int32) (g22 : Int32) (g23 : Int32) (g24 : Int32) (g26 : Int32) (g5 : Int64) (g6 : Int64) (g25 : Int64) (cn : Nat) (pq : Nat) (en : Nat) (dy : Nat) (fs : Nat → Int32) (fh : Nat → Int32) (fl : Nat → Int64) (i : Int32) (sz : Nat) (hcn : cn ≤ 10) (hpq : pq ≤ 8) (hen : en ≤ 60) (hdy : dy ≤ 20000) (hri : RI cn pq en dy fs) (hed : ed ≤ 10) (hHI : HI cn pq ed fh) (hd9 : dy ≤ 9999) : Met l yX10_deposit wsX10_deposit ({ frames := 1, cells := 0, slots := 0, locals := 25 }) (va_Pc [.ref w0, .int i] (Wd D cA sa [(oX10 w0 v0 v1 v2 v3 v4 g5 g6 (nI ed) g8 v9 (nI nb) g11 g12 v13 g14 g15 g16 g17 g18 g19 g20 g21 g22 g23 g24 g25 g26 v27 v28 v29 v30 v31 v32 v33 v34 v35 v36 v37 (nI ol)), (v0, .inl (cA 0, 326, .inl fs)), (v3, .inl (cA 0, 3260, .inl fh)), (v4, .inl (cA 1, 10, .inr (.inl fl)))] sz)) (va_Qi (fun (r : Int32) (_ : Unit) => True) (fun (_ : Unit) t => ∃ ed2 : Nat, ∃ e2 : Nat, ∃ z8 : Int32, ∃ z14 : Int32, ∃ z15 : Int32, ∃ z16 : Int32, ∃ z17 : Int32, ∃ z18 : Int32, ∃ z19 : Int32, ∃ z20 : Int32, ∃ z21 : Int32, ∃ z22 : Int32, ∃ z23 : Int32, ∃ z24 : Int32, ∃ z26 : Int32, ∃ z5 : Int64, ∃ z6 : Int64, ∃ z25 : Int64, ∃ zs : Nat → Int32, ∃ zh : Nat → Int32, ∃ zl : Nat → Int64, ed2 ≤ 10 ∧ HI cn pq ed2 zh ∧ e2 ≤ 60 ∧ RI cn pq e2 dy zs ∧ Wq D (va_A [(oX10 w0 v0 v1 v2 v3 v4 g5 g6 (nI ed) g8 v9 (nI nb) g11 g12 v13 g14 g15 g16 g17 g18 g19 g20 g21 g22 g23 g24 g25 g26 v27 v28 v29 v30 v31 v32 v33 v34 v35 v36 v37 (nI ol)), (v0, .inl (cA 0, 326, .inl fs)), (v3, .inl (cA 0, 3260, .inl fh)), (v4, .inl (cA 1, 10, .inr (.inl fl)))] sz) [(oX10 w0 v0 v1 v2 v3 v4 z5 z6 (nI ed2) z8 v9 (nI nb) g11 g12 v13 z14 z15 z16 z17 z18 z19 z20 z21 z22 z23 z24 z25 z26 v27 v28 v29 v30 v31 v32 v33 v34 v35 v36 v37 (nI ol)), (v0, .inl (cA 0, 326, .inl zs)), (v3, .inl (cA 0, 3260, .inl zh)), (v4, .inl (cA 1, 10, .inr (.inl zl)))] t) (va_A [(oX10 w0 v0 v1 v2 v3 v4 g5 g6 (nI ed) g8 v9 (nI nb) g11 g12 v13 g14 g15 g16 g17 g18 g19 g20 g21 g22 g23 g24 g25 g26 v27 v28 v29 v30 v31 v32 v33 v34 v35 v36 v37 (nI ol)), (v0, .inl (cA 0, 326, .inl fs)), (v3, .inl (cA 0, 3260, .inl fh)), (v4, .inl (cA 1, 10, .inr (.inl fl)))] sz)) 0 0 (va_A [(oX10 w0 v0 v1 v2 v3 v4 g5 g6 (nI ed) g8 v9 (nI nb) g11 g12 v13 g14 g15 g16 g17 g18 g19 g20 g21 g22 g23 g24 g25 g26 v27 v28 v29 v30 v31 v32 v33 v34 v35 v36 v37 (nI ol)), (v0, .inl (cA 0, 326, .inl fs)), (v3, .inl (cA 0, 3260, .inl fh)), (v4, .inl (cA 1, 10, .inr (.inl fl)))] sz) := by
  refine Met.ofW (cc := cX10_deposit) (maxL := 2) (ret := (some .int)) (by decide) rfl ?_
  intro p e s m args below meth c s₁ B hml hv
  obtain ⟨rfl, hsz, hP, hK, hD0, hC, hZ⟩ := hv
  have hx := B.exec
  have hb := B.bytes
  have hr := B.returns
  have hts := atoms_spec (ws := wsX10_deposit) B.pre
  have hown : s.vm.findClass RX10 = some m.cls := findClass_of_methodNamed B.named
  have hlocks := B.notSynchronized
  subst hsz
  have hD := hD0.self (sz := s.heap.size)
  generalize hAe : va_A [(oX10 w0 v0 v1 v2 v3 v4 g5 g6 (nI ed) g8 v9 (nI nb) g11 g12 v13 g14 g15 g16 g17 g18 g19 g20 g21 g22 g23 g24 g25 g26 v27 v28 v29 v30 v31 v32 v33 v34 v35 v36 v37 (nI ol)), (v0, .inl (cA 0, 326, .inl fs)), (v3, .inl (cA 0, 3260, .inl fh)), (v4, .inl (cA 1, 10, .inr (.inl fl)))] s.heap.size = A at hD hZ ⊢
  have hA : ∀ q : Nat, s.heap.size ≤ q → A q := fun q h => by rw [← hAe]; exact Or.inr h
  have hS : va_S A s.heap s.heap [] := va_S.rf
  have hP : va_P D vwCl [(oX10 w0 v0 v1 v2 v3 v4 g5 g6 (nI ed) g8 v9 (nI nb) g11 g12 v13 g14 g15 g16 g17 g18 g19 g20 g21 g22 g23 g24 g25 g26 v27 v28 v29 v30 v31 v32 v33 v34 v35 v36 v37 (nI ol)), (v0, .inl (cA 0, 326, .inl fs)), (v3, .inl (cA 0, 3260, .inl fh)), (v4, .inl (cA 1, 10, .inr (.inl fl)))] s.heap := hP
  have hl := lv_entry ([.ref w0, .int i]) (n := 2) (Nat.le_of_ble_eq_true rfl)
  rw [lg_entry_eq]
  generalize (lg_sl ([.ref w0, .int i]) ++ List.replicate (2 - (lg_sl ([.ref w0, .int i])).length) Slot.unset).toArray = ls at hl ⊢
  have hl : lv_has ls 2 [(0, .ref w0), (1, .int i)] := hl
  have inX10 : ∀ w ∈ u_ws RX10 TX10 39, w ∈ wsX10_deposit := by decide +kernel
  refine lv_aload_n hx hb dX10_deposit_0 rfl (lv_at hl 0 rfl) ?_
  refine lv_iload_n hx hb dX10_deposit_1 rfl (lv_at hl 1 rfl) ?_
  refine lv_i2l (v := (i.toInt64)) hx hb dX10_deposit_2 rfl ?_
  refine lv_lconst (v := 1) hx hb dX10_deposit_3 (by decide) ?_
  refine lv_ldc2 (v := 99999) hx hb hown (hts (.constantLong RX10 388 99999) (by decide +kernel)) dX10_deposit_4 ?_
  obtain ⟨hPc, hDc, hFc⟩ := PDq.cut (wc := []) hP hD hS hA [] (by decide) rfl
  refine va_calli (va_runS (As := [.long (i.toInt64), .long 1, .long 99999]) (rest := [.ref w0]) ⟨hx, hb, hml, hown, hts⟩ (r_between l D cA sa (i.toInt64) 1 99999 s.heap.size) (va_cwS 3 hts gX10_deposit_X10_between rfl rfl rfl (by decide +kernel) ⟨(Nat.le_of_ble_eq_true rfl), (Nat.le_of_ble_eq_true rfl)⟩) ⟨Wd.blind, fun U hU hW => ⟨rfl, Wd.call hPc hDc hK hC hZ hS hFc U hU hW⟩⟩ rfl rfl hl.1 rfl (lv_room (Nat.le_of_ble_eq_true rfl)) dX10_deposit_7 ⟨(Nat.le_of_ble_eq_true rfl), (Nat.le_of_ble_eq_true rfl)⟩) hS (fun q _ h => hFc q h) hFc (fun rn1 u t H1 locs ht hvm hw hB hz1 hk1 hS => ?_)
  obtain ⟨hP1, hD1⟩ := hB
  rw [ht] at hP1
  obtain ⟨hP, hD⟩ := PDq.join (w := [(oX10 w0 v0 v1 v2 v3 v4 g5 g6 (nI ed) g8 v9 (nI nb) g11 g12 v13 g14 g15 g16 g17 g18 g19 g20 g21 g22 g23 g24 g25 g26 v27 v28 v29 v30 v31 v32 v33 v34 v35 v36 v37 (nI ol)), (v0, .inl (cA 0, 326, .inl fs)), (v3, .inl (cA 0, 3260, .inl fh)), (v4, .inl (cA 1, 10, .inr (.inl fl)))]) 4 hP hD [] [0, 1, 2, 3] rfl rfl (by decide) (by decide) hk1 hFc hP1 hD1 rfl
  generalize H1 = H at hP hS ⊢
  rcases hw with ⟨hr9, hn2⟩ | hr9
  · skip
    subst hr9
    refine lv_aload_n hx hb dX10_deposit_10 rfl (lv_at hl 0 rfl) ?_
    refine va_get (D := D) (ci := 11) (v := .ref v0) (C := RX10) (T := TX10) (N := 39) hx hb hts inX10 hown hK hP 0 rfl rfl 0 (by decide) (hts (.fieldLink RX10 7 "EscrowDeskModel" "s" "[I") (by decide +kernel)) (fun _ h9 => h9) rfl dX10_deposit_11 ?_
    refine lv_iconst (v := 5) hx hb dX10_deposit_14 (by decide) ?_
    refine va_iald hx hb hK hP 1 0 rfl rfl (vp_in_iff.mpr (by decide)) dX10_deposit_15 ?_
    refine lv_topi (fun yn3 eyn3 => ?_)
    refine lv_i2l (v := (yn3.toInt64)) hx hb dX10_deposit_16 rfl ?_
    refine lv_iload_n hx hb dX10_deposit_17 rfl (lv_at hl 1 rfl) ?_
    refine lv_i2l (v := (i.toInt64)) hx hb dX10_deposit_18 rfl ?_
    refine lv_ladd hx hb dX10_deposit_19 ?_
    refine lv_topl (fun yn4 eyn4 => ?_)
    refine lv_ldc2 (v := 9999999) hx hb hown (hts (.constantLong RX10 393 9999999) (by decide +kernel)) dX10_deposit_20 ?_
    refine W.lcmp hx hb dX10_deposit_23 ?_
    refine lv_if_gt (tgt := 31) hx hb dX10_deposit_24 (by decide) (fun c5 => ?_) (fun c5 => ?_)
    · skip
      refine lv_iconst (v := 0) hx hb dX10_deposit_31 (by decide) ?_
      obtain ⟨hPc, hDc, hFc⟩ := PDq.cut (wc := [(oX10 w0 v0 v1 v2 v3 v4 g5 g6 (nI ed) g8 v9 (nI nb) g11 g12 v13 g14 g15 g16 g17 g18 g19 g20 g21 g22 g23 g24 g25 g26 v27 v28 v29 v30 v31 v32 v33 v34 v35 v36 v37 (nI ol))]) hP hD hS hA [0] (by decide) rfl
      refine va_calli (va_runV (As := [.int 1, .int 0]) (rest := []) ⟨hx, hb, hml, hown, hts⟩ (r_good_10 l D cA sa w0 ed nb ol v0 v1 v2 v3 v4 v9 v13 v27 v28 v29 v30 v31 v32 v33 v34 v35 v36 v37 g8 g11 g12 g14 g15 g16 g17 g18 g19 g20 g21 g22 g23 g24 g26 g5 g6 g25 H.size) (cwV 2 hts gX10_deposit_X10_good_ rfl rfl rfl (by decide +kernel) ⟨(Nat.le_of_ble_eq_true rfl), (Nat.le_of_ble_eq_true rfl)⟩) ⟨Wd.blind, va_recv hK hPc (ci := 11) (q0 := 0) rfl rfl, fun U hU hW => ⟨rfl, Wd.call hPc hDc hK hC hZ hS hFc U hU hW⟩⟩ rfl rfl hl.1 rfl (lv_room (Nat.le_of_ble_eq_true rfl)) dX10_deposit_32 ⟨(Nat.le_of_ble_eq_true rfl), (Nat.le_of_ble_eq_true rfl)⟩) hS (fun q _ h => hFc q h) hFc (fun rn6 u t H1 locs ht hvm hw hB hz1 hk1 hS => ?_)
      obtain ⟨hP1, hD1⟩ := hB
      rw [ht] at hP1
      obtain ⟨hP, hD⟩ := PDq.join (w := [(v0, .inl (cA 0, 326, .inl fs)), (v3, .inl (cA 0, 3260, .inl fh)), (v4, .inl (cA 1, 10, .inr (.inl fl))), (oX10 w0 v0 v1 v2 v3 v4 g5 g6 (nI ed) 2 v9 (nI nb) g11 g12 v13 g14 g15 g16 g17 g18 g19 g20 g21 g22 g23 g24 g25 g26 v27 v28 v29 v30 v31 v32 v33 v34 v35 v36 v37 (nI ol))]) 3 hP hD [0] [1, 2, 3] rfl rfl (by decide) (by decide) hk1 hFc hP1 hD1 rfl
      generalize H1 = H at hP hS ⊢
      obtain rfl : rn6 = 0 := hw
      refine lv_if_ne (tgt := 40) hx hb dX10_deposit_35 (by decide) (fun c9 => absurd c9 (by decide)) (fun c7 => ?_)
      refine lv_iconst (v := 0) hx hb dX10_deposit_38 (by decide) ?_
      obtain ⟨hP9, hD9⟩ := PDq.sub (ws' := [(oX10 w0 v0 v1 v2 v3 v4 g5 g6 (nI ed) 2 v9 (nI nb) g11 g12 v13 g14 g15 g16 g17 g18 g19 g20 g21 g22 g23 g24 g25 g26 v27 v28 v29 v30 v31 v32 v33 v34 v35 v36 v37 (nI ol)), (v0, .inl (cA 0, 326, .inl fs)), (v3, .inl (cA 0, 3260, .inl fh)), (v4, .inl (cA 1, 10, .inr (.inl fl)))]) hP hD [3, 0, 1, 2] (by decide) rfl
      refine W.widen (k := 0) (n := 0) (Nat.le_of_ble_eq_true rfl) (Nat.le_of_ble_eq_true rfl) ?_
      exact (W.iret (v := 0) hx hb hr (fun t ht hW => ⟨⟨0, (), rfl, trivial, ed, en, 2, g14, g15, g16, g17, g18, g19, g20, g21, g22, g23, g24, g26, g5, g6, g25, fs, fh, fl, hed, hHI, hen, hri, by rw [ht]; exact hP9, hD9⟩, hS.F ht⟩) hS.2.2 dX10_deposit_39)
    · skip
      refine lv_iconst (v := 1) hx hb dX10_deposit_27 (by decide) ?_
      refine lv_goto (tgt := 32) hx hb dX10_deposit_28 (by decide) ?_
      obtain ⟨hPc, hDc, hFc⟩ := PDq.cut (wc := [(oX10 w0 v0 v1 v2 v3 v4 g5 g6 (nI ed) g8 v9 (nI nb) g11 g12 v13 g14 g15 g16 g17 g18 g19 g20 g21 g22 g23 g24 g25 g26 v27 v28 v29 v30 v31 v32 v33 v34 v35 v36 v37 (nI ol))]) hP hD hS hA [0] (by decide) rfl
      refine va_calli (va_runV (As := [.int 1, .int 1]) (rest := []) ⟨hx, hb, hml, hown, hts⟩ (r_good_11 l D cA sa w0 ed nb ol v0 v1 v2 v3 v4 v9 v13 v27 v28 v29 v30 v31 v32 v33 v34 v35 v36 v37 g8 g11 g12 g14 g15 g16 g17 g18 g19 g20 g21 g22 g23 g24 g26 g5 g6 g25 H.size) (cwV 2 hts gX10_deposit_X10_good_ rfl rfl rfl (by decide +kernel) ⟨(Nat.le_of_ble_eq_true rfl), (Nat.le_of_ble_eq_true rfl)⟩) ⟨Wd.blind, va_recv hK hPc (ci := 11) (q0 := 0) rfl rfl, fun U hU hW => ⟨rfl, Wd.call hPc hDc hK hC hZ hS hFc U hU hW⟩⟩ rfl rfl hl.1 rfl (lv_room (Nat.le_of_ble_eq_true rfl)) dX10_deposit_32 ⟨(Nat.le_of_ble_eq_true rfl), (Nat.le_of_ble_eq_true rfl)⟩) hS (fun q _ h => hFc q h) hFc (fun rn8 u t H1 locs ht hvm hw hB hz1 hk1 hS => ?_)
      obtain ⟨hP1, hD1⟩ := hB
      rw [ht] at hP1
      obtain ⟨hP, hD⟩ := PDq.join (w := [(v0, .inl (cA 0, 326, .inl fs)), (v3, .inl (cA 0, 3260, .inl fh)), (v4, .inl (cA 1, 10, .inr (.inl fl))), (oX10 w0 v0 v1 v2 v3 v4 g5 g6 (nI ed) 0 v9 (nI nb) g11 g12 v13 g14 g15 g16 g17 g18 g19 g20 g21 g22 g23 g24 g25 g26 v27 v28 v29 v30 v31 v32 v33 v34 v35 v36 v37 (nI ol))]) 3 hP hD [0] [1, 2, 3] rfl rfl (by decide) (by decide) hk1 hFc hP1 hD1 rfl
      generalize H1 = H at hP hS ⊢
      obtain rfl : rn8 = 1 := hw
      refine lv_if_ne (tgt := 40) hx hb dX10_deposit_35 (by decide) (fun c9 => ?_) (fun c9 => absurd c9 (by decide))
      refine lv_aload_n hx hb dX10_deposit_40 rfl (lv_at hl 0 rfl) ?_
      obtain ⟨hPc, hDc, hFc⟩ := PDq.cut (wc := [(oX10 w0 v0 v1 v2 v3 v4 g5 g6 (nI ed) 0 v9 (nI nb) g11 g12 v13 g14 g15 g16 g17 g18 g19 g20 g21 g22 g23 g24 g25 g26 v27 v28 v29 v30 v31 v32 v33 v34 v35 v36 v37 (nI ol)), (v0, .inl (cA 0, 326, .inl fs)), (v3, .inl (cA 0, 3260, .inl fh)), (v4, .inl (cA 1, 10, .inr (.inl fl)))]) hP hD hS hA [3, 0, 1, 2] (by decide) rfl
      refine va_callv (va_runV (As := []) (rest := []) ⟨hx, hb, hml, hown, hts⟩ (r_remember l D cA sa w0 ed nb ol v0 v1 v2 v3 v4 v9 v13 v27 v28 v29 v30 v31 v32 v33 v34 v35 v36 v37 0 g11 g12 g14 g15 g16 g17 g18 g19 g20 g21 g22 g23 g24 g26 g5 g6 g25 cn pq en dy fs fh fl H.size hcn hpq hen hdy hri hed hHI hd9) (cwV 0 hts gX10_deposit_X10_remember rfl rfl rfl (by decide +kernel) ⟨(Nat.le_of_ble_eq_true rfl), (Nat.le_of_ble_eq_true rfl)⟩) ⟨Wd.blind, va_recv hK hPc (ci := 11) (q0 := 0) rfl rfl, fun U hU hW => ⟨rfl, Wd.call hPc hDc hK hC hZ hS hFc U hU hW⟩⟩ rfl rfl hl.1 rfl (lv_room (Nat.le_of_ble_eq_true rfl)) dX10_deposit_41 ⟨(Nat.le_of_ble_eq_true rfl), (Nat.le_of_ble_eq_true rfl)⟩) hS (fun q _ h => hFc q h) hFc (fun u t H1 locs ht hvm hw hB hz1 hk1 hS => ?_)
      obtain ⟨qn10, fn11, fn12, hn13, hn14, hP1, hD1⟩ := hB
      rw [ht] at hP1
      obtain ⟨hP, hD⟩ := PDq.join (w := [(oX10 w0 v0 v1 v2 v3 v4 g5 g6 (nI qn10) 0 v9 (nI nb) g11 g12 v13 g14 g15 g16 g17 g18 g19 g20 g21 g22 g23 g24 g25 g26 v27 v28 v29 v30 v31 v32 v33 v34 v35 v36 v37 (nI ol)), (v0, .inl (cA 0, 326, .inl fs)), (v3, .inl (cA 0, 3260, .inl fn11)), (v4, .inl (cA 1, 10, .inr (.inl fn12)))]) 0 hP hD [3, 0, 1, 2] [] rfl rfl (by decide) (by decide) hk1 hFc hP1 hD1 rfl
      generalize H1 = H at hP hS ⊢
      refine lv_aload_n hx hb dX10_deposit_44 rfl (lv_at hl 0 rfl) ?_
      refine va_get (D := D) (ci := 11) (v := .ref v0) (C := RX10) (T := TX10) (N := 39) hx hb hts inX10 hown hK hP 0 rfl rfl 0 (by decide) (hts (.fieldLink RX10 7 "EscrowDeskModel" "s" "[I") (by decide +kernel)) (fun _ h9 => h9) rfl dX10_deposit_45 ?_
      refine lv_iconst (v := 5) hx hb dX10_deposit_48 (by decide) ?_
      refine lv_dup2_11 hx hb dX10_deposit_49 rfl rfl ?_
      refine va_iald hx hb hK hP 1 0 rfl rfl (vp_in_iff.mpr (by decide)) dX10_deposit_50 ?_
      refine lv_topi (fun yn15 eyn15 => ?_)
      refine lv_iload_n hx hb dX10_deposit_51 rfl (lv_at hl 1 rfl) ?_
      refine lv_iadd hx hb dX10_deposit_52 ?_
      refine lv_topi (fun yn16 eyn16 => ?_)
      refine va_iast hx hb hK hP hD hS 1 0 rfl rfl (vp_in_iff.mpr (by decide)) dX10_deposit_53 (fun H locs hP hD hS => ?_)
      obtain ⟨hP, hD⟩ : PDq D A [(oX10 w0 v0 v1 v2 v3 v4 g5 g6 (nI qn10) 0 v9 (nI nb) g11 g12 v13 g14 g15 g16 g17 g18 g19 g20 g21 g22 g23 g24 g25 g26 v27 v28 v29 v30 v31 v32 v33 v34 v35 v36 v37 (nI ol)), (v0, .inl (cA 0, 326, .inl (upd fs 5 yn16))), (v3, .inl (cA 0, 3260, .inl fn11)), (v4, .inl (cA 1, 10, .inr (.inl fn12)))] H := ⟨hP, hD⟩
      have hn18 : RI cn pq en dy (upd fs 5 yn16) := RI.put hri 5 yn16 (by decide) (by decide) (by decide) (by decide) (by decide)
      generalize (upd fs 5 yn16) = fn17 at hP hD hn18
      obtain ⟨hP, hD⟩ : PDq D A [(oX10 w0 v0 v1 v2 v3 v4 g5 g6 (nI qn10) 0 v9 (nI nb) g11 g12 v13 g14 g15 g16 g17 g18 g19 g20 g21 g22 g23 g24 g25 g26 v27 v28 v29 v30 v31 v32 v33 v34 v35 v36 v37 (nI ol)), (v0, .inl (cA 0, 326, .inl fn17)), (v3, .inl (cA 0, 3260, .inl fn11)), (v4, .inl (cA 1, 10, .inr (.inl fn12)))] H := ⟨hP, hD⟩
      refine lv_aload_n hx hb dX10_deposit_54 rfl (lv_at hl 0 rfl) ?_
      refine va_get (D := D) (ci := 11) (v := .ref v0) (C := RX10) (T := TX10) (N := 39) hx hb hts inX10 hown hK hP 0 rfl rfl 0 (by decide) (hts (.fieldLink RX10 7 "EscrowDeskModel" "s" "[I") (by decide +kernel)) (fun _ h9 => h9) rfl dX10_deposit_55 ?_
      refine lv_bipush (v := 6) hx hb dX10_deposit_58 (by decide) ?_
      refine lv_dup2_11 hx hb dX10_deposit_60 rfl rfl ?_
      refine va_iald hx hb hK hP 1 0 rfl rfl (vp_in_iff.mpr (by decide)) dX10_deposit_61 ?_
      refine lv_topi (fun yn19 eyn19 => ?_)
      refine lv_iload_n hx hb dX10_deposit_62 rfl (lv_at hl 1 rfl) ?_
      refine lv_iadd hx hb dX10_deposit_63 ?_
      refine lv_topi (fun yn20 eyn20 => ?_)
      refine va_iast hx hb hK hP hD hS 1 0 rfl rfl (vp_in_iff.mpr (by decide)) dX10_deposit_64 (fun H locs hP hD hS => ?_)
      obtain ⟨hP, hD⟩ : PDq D A [(oX10 w0 v0 v1 v2 v3 v4 g5 g6 (nI qn10) 0 v9 (nI nb) g11 g12 v13 g14 g15 g16 g17 g18 g19 g20 g21 g22 g23 g24 g25 g26 v27 v28 v29 v30 v31 v32 v33 v34 v35 v36 v37 (nI ol)), (v0, .inl (cA 0, 326, .inl (upd fn17 6 yn20))), (v3, .inl (cA 0, 3260, .inl fn11)), (v4, .inl (cA 1, 10, .inr (.inl fn12)))] H := ⟨hP, hD⟩
      have hn22 : RI cn pq en dy (upd fn17 6 yn20) := RI.put hn18 6 yn20 (by decide) (by decide) (by decide) (by decide) (by decide)
      generalize (upd fn17 6 yn20) = fn21 at hP hD hn22
      obtain ⟨hP, hD⟩ : PDq D A [(oX10 w0 v0 v1 v2 v3 v4 g5 g6 (nI qn10) 0 v9 (nI nb) g11 g12 v13 g14 g15 g16 g17 g18 g19 g20 g21 g22 g23 g24 g25 g26 v27 v28 v29 v30 v31 v32 v33 v34 v35 v36 v37 (nI ol)), (v0, .inl (cA 0, 326, .inl fn21)), (v3, .inl (cA 0, 3260, .inl fn11)), (v4, .inl (cA 1, 10, .inr (.inl fn12)))] H := ⟨hP, hD⟩
      refine lv_aload_n hx hb dX10_deposit_65 rfl (lv_at hl 0 rfl) ?_
      refine va_get (D := D) (ci := 11) (v := .ref v0) (C := RX10) (T := TX10) (N := 39) hx hb hts inX10 hown hK hP 0 rfl rfl 0 (by decide) (hts (.fieldLink RX10 7 "EscrowDeskModel" "s" "[I") (by decide +kernel)) (fun _ h9 => h9) rfl dX10_deposit_66 ?_
      refine lv_iconst (v := 0) hx hb dX10_deposit_69 (by decide) ?_
      refine lv_iload_n hx hb dX10_deposit_70 rfl (lv_at hl 1 rfl) ?_
      refine lv_iconst (v := (-1)) hx hb dX10_deposit_71 (by decide) ?_
      obtain ⟨hPc, hDc, hFc⟩ := PDq.cut (wc := [(v0, .inl (cA 0, 326, .inl fn21))]) hP hD hS hA [1] (by decide) rfl
      refine va_callv (va_runS (As := [.ref v0, .int 0, .int i, .int (-1)]) (rest := []) ⟨hx, hb, hml, hown, hts⟩ (r_enter l D cA sa v0 cn pq en dy fn21 0 i (-1) H.size hcn hpq hen hdy hn22) (va_cwS 4 hts gX10_deposit_X10_enter rfl rfl rfl (by decide +kernel) ⟨(Nat.le_of_ble_eq_true rfl), (Nat.le_of_ble_eq_true rfl)⟩) ⟨Wd.blind, fun U hU hW => ⟨rfl, Wd.call hPc hDc hK hC hZ hS hFc U hU hW⟩⟩ rfl rfl hl.1 rfl (lv_room (Nat.le_of_ble_eq_true rfl)) dX10_deposit_72 ⟨(Nat.le_of_ble_eq_true rfl), (Nat.le_of_ble_eq_true rfl)⟩) hS (fun q _ h => hFc q h) hFc (fun u t H1 locs ht hvm hw hB hz1 hk1 hS => ?_)
      obtain ⟨qn23, fn24, hn25, hn26, hP1, hD1⟩ := hB
      rw [ht] at hP1
      obtain ⟨hP, hD⟩ := PDq.join (w := [(oX10 w0 v0 v1 v2 v3 v4 g5 g6 (nI qn10) 0 v9 (nI nb) g11 g12 v13 g14 g15 g16 g17 g18 g19 g20 g21 g22 g23 g24 g25 g26 v27 v28 v29 v30 v31 v32 v33 v34 v35 v36 v37 (nI ol)), (v3, .inl (cA 0, 3260, .inl fn11)), (v4, .inl (cA 1, 10, .inr (.inl fn12))), (v0, .inl (cA 0, 326, .inl fn24))]) 3 hP hD [1] [0, 2, 3] rfl rfl (by decide) (by decide) hk1 hFc hP1 hD1 rfl
      generalize H1 = H at hP hS ⊢
      refine lv_aload_n hx hb dX10_deposit_75 rfl (lv_at hl 0 rfl) ?_
      refine va_get (D := D) (ci := 11) (v := .ref v0) (C := RX10) (T := TX10) (N := 39) hx hb hts inX10 hown hK hP 0 rfl rfl 0 (by decide) (hts (.fieldLink RX10 7 "EscrowDeskModel" "s" "[I") (by decide +kernel)) (fun _ h9 => h9) rfl dX10_deposit_76 ?_
      refine lv_bipush (v := 6) hx hb dX10_deposit_79 (by decide) ?_
      refine va_iald hx hb hK hP 3 0 rfl rfl (vp_in_iff.mpr (by decide)) dX10_deposit_81 ?_
      refine lv_topi (fun yn27 eyn27 => ?_)
      obtain ⟨hP9, hD9⟩ := PDq.sub (ws' := [(oX10 w0 v0 v1 v2 v3 v4 g5 g6 (nI qn10) 0 v9 (nI nb) g11 g12 v13 g14 g15 g16 g17 g18 g19 g20 g21 g22 g23 g24 g25 g26 v27 v28 v29 v30 v31 v32 v33 v34 v35 v36 v37 (nI ol)), (v0, .inl (cA 0, 326, .inl fn24)), (v3, .inl (cA 0, 3260, .inl fn11)), (v4, .inl (cA 1, 10, .inr (.inl fn12)))]) hP hD [0, 3, 1, 2] (by decide) rfl
      refine W.widen (k := 0) (n := 0) (Nat.le_of_ble_eq_true rfl) (Nat.le_of_ble_eq_true rfl) ?_
      exact (W.iret (v := yn27) hx hb hr (fun t ht hW => ⟨⟨yn27, (), rfl, trivial, qn10, qn23, 0, g14, g15, g16, g17, g18, g19, g20, g21, g22, g23, g24, g26, g5, g6, g25, fn24, fn11, fn12, hn13, hn14, hn25, hn26, by rw [ht]; exact hP9, hD9⟩, hS.F ht⟩) hS.2.2 dX10_deposit_82)
  · skip
    subst hr9
    refine lv_aload_n hx hb dX10_deposit_10 rfl (lv_at hl 0 rfl) ?_
    refine va_get (D := D) (ci := 11) (v := .ref v0) (C := RX10) (T := TX10) (N := 39) hx hb hts inX10 hown hK hP 0 rfl rfl 0 (by decide) (hts (.fieldLink RX10 7 "EscrowDeskModel" "s" "[I") (by decide +kernel)) (fun _ h9 => h9) rfl dX10_deposit_11 ?_
    refine lv_iconst (v := 5) hx hb dX10_deposit_14 (by decide) ?_
    refine va_iald hx hb hK hP 1 0 rfl rfl (vp_in_iff.mpr (by decide)) dX10_deposit_15 ?_
    refine lv_topi (fun yn28 eyn28 => ?_)
    refine lv_i2l (v := (yn28.toInt64)) hx hb dX10_deposit_16 rfl ?_
    refine lv_iload_n hx hb dX10_deposit_17 rfl (lv_at hl 1 rfl) ?_
    refine lv_i2l (v := (i.toInt64)) hx hb dX10_deposit_18 rfl ?_
    refine lv_ladd hx hb dX10_deposit_19 ?_
    refine lv_topl (fun yn29 eyn29 => ?_)
    refine lv_ldc2 (v := 9999999) hx hb hown (hts (.constantLong RX10 393 9999999) (by decide +kernel)) dX10_deposit_20 ?_
    refine W.lcmp hx hb dX10_deposit_23 ?_
    refine lv_if_gt (tgt := 31) hx hb dX10_deposit_24 (by decide) (fun c30 => ?_) (fun c30 => ?_)
    · skip
      refine lv_iconst (v := 0) hx hb dX10_deposit_31 (by decide) ?_
      obtain ⟨hPc, hDc, hFc⟩ := PDq.cut (wc := [(oX10 w0 v0 v1 v2 v3 v4 g5 g6 (nI ed) g8 v9 (nI nb) g11 g12 v13 g14 g15 g16 g17 g18 g19 g20 g21 g22 g23 g24 g25 g26 v27 v28 v29 v30 v31 v32 v33 v34 v35 v36 v37 (nI ol))]) hP hD hS hA [0] (by decide) rfl
      refine va_calli (va_runV (As := [.int 0, .int 0]) (rest := []) ⟨hx, hb, hml, hown, hts⟩ (r_good_00 l D cA sa w0 ed nb ol v0 v1 v2 v3 v4 v9 v13 v27 v28 v29 v30 v31 v32 v33 v34 v35 v36 v37 g8 g11 g12 g14 g15 g16 g17 g18 g19 g20 g21 g22 g23 g24 g26 g5 g6 g25 H.size) (cwV 2 hts gX10_deposit_X10_good_ rfl rfl rfl (by decide +kernel) ⟨(Nat.le_of_ble_eq_true rfl), (Nat.le_of_ble_eq_true rfl)⟩) ⟨Wd.blind, va_recv hK hPc (ci := 11) (q0 := 0) rfl rfl, fun U hU hW => ⟨rfl, Wd.call hPc hDc hK hC hZ hS hFc U hU hW⟩⟩ rfl rfl hl.1 rfl (lv_room (Nat.le_of_ble_eq_true rfl)) dX10_deposit_32 ⟨(Nat.le_of_ble_eq_true rfl), (Nat.le_of_ble_eq_true rfl)⟩) hS (fun q _ h => hFc q h) hFc (fun rn31 u t H1 locs ht hvm hw hB hz1 hk1 hS => ?_)
      obtain ⟨hP1, hD1⟩ := hB
      rw [ht] at hP1
      obtain ⟨hP, hD⟩ := PDq.join (w := [(v0, .inl (cA 0, 326, .inl fs)), (v3, .inl (cA 0, 3260, .inl fh)), (v4, .inl (cA 1, 10, .inr (.inl fl))), (oX10 w0 v0 v1 v2 v3 v4 g5 g6 (nI ed) 1 v9 (nI nb) g11 g12 v13 g14 g15 g16 g17 g18 g19 g20 g21 g22 g23 g24 g25 g26 v27 v28 v29 v30 v31 v32 v33 v34 v35 v36 v37 (nI ol))]) 3 hP hD [0] [1, 2, 3] rfl rfl (by decide) (by decide) hk1 hFc hP1 hD1 rfl
      generalize H1 = H at hP hS ⊢
      obtain rfl : rn31 = 0 := hw
      refine lv_if_ne (tgt := 40) hx hb dX10_deposit_35 (by decide) (fun c9 => absurd c9 (by decide)) (fun c32 => ?_)
      refine lv_iconst (v := 0) hx hb dX10_deposit_38 (by decide) ?_
      obtain ⟨hP9, hD9⟩ := PDq.sub (ws' := [(oX10 w0 v0 v1 v2 v3 v4 g5 g6 (nI ed) 1 v9 (nI nb) g11 g12 v13 g14 g15 g16 g17 g18 g19 g20 g21 g22 g23 g24 g25 g26 v27 v28 v29 v30 v31 v32 v33 v34 v35 v36 v37 (nI ol)), (v0, .inl (cA 0, 326, .inl fs)), (v3, .inl (cA 0, 3260, .inl fh)), (v4, .inl (cA 1, 10, .inr (.inl fl)))]) hP hD [3, 0, 1, 2] (by decide) rfl
      refine W.widen (k := 0) (n := 0) (Nat.le_of_ble_eq_true rfl) (Nat.le_of_ble_eq_true rfl) ?_
      exact (W.iret (v := 0) hx hb hr (fun t ht hW => ⟨⟨0, (), rfl, trivial, ed, en, 1, g14, g15, g16, g17, g18, g19, g20, g21, g22, g23, g24, g26, g5, g6, g25, fs, fh, fl, hed, hHI, hen, hri, by rw [ht]; exact hP9, hD9⟩, hS.F ht⟩) hS.2.2 dX10_deposit_39)
    · skip
      refine lv_iconst (v := 1) hx hb dX10_deposit_27 (by decide) ?_
      refine lv_goto (tgt := 32) hx hb dX10_deposit_28 (by decide) ?_
      obtain ⟨hPc, hDc, hFc⟩ := PDq.cut (wc := [(oX10 w0 v0 v1 v2 v3 v4 g5 g6 (nI ed) g8 v9 (nI nb) g11 g12 v13 g14 g15 g16 g17 g18 g19 g20 g21 g22 g23 g24 g25 g26 v27 v28 v29 v30 v31 v32 v33 v34 v35 v36 v37 (nI ol))]) hP hD hS hA [0] (by decide) rfl
      refine va_calli (va_runV (As := [.int 0, .int 1]) (rest := []) ⟨hx, hb, hml, hown, hts⟩ (r_good_01 l D cA sa w0 ed nb ol v0 v1 v2 v3 v4 v9 v13 v27 v28 v29 v30 v31 v32 v33 v34 v35 v36 v37 g8 g11 g12 g14 g15 g16 g17 g18 g19 g20 g21 g22 g23 g24 g26 g5 g6 g25 H.size) (cwV 2 hts gX10_deposit_X10_good_ rfl rfl rfl (by decide +kernel) ⟨(Nat.le_of_ble_eq_true rfl), (Nat.le_of_ble_eq_true rfl)⟩) ⟨Wd.blind, va_recv hK hPc (ci := 11) (q0 := 0) rfl rfl, fun U hU hW => ⟨rfl, Wd.call hPc hDc hK hC hZ hS hFc U hU hW⟩⟩ rfl rfl hl.1 rfl (lv_room (Nat.le_of_ble_eq_true rfl)) dX10_deposit_32 ⟨(Nat.le_of_ble_eq_true rfl), (Nat.le_of_ble_eq_true rfl)⟩) hS (fun q _ h => hFc q h) hFc (fun rn33 u t H1 locs ht hvm hw hB hz1 hk1 hS => ?_)
      obtain ⟨hP1, hD1⟩ := hB
      rw [ht] at hP1
      obtain ⟨hP, hD⟩ := PDq.join (w := [(v0, .inl (cA 0, 326, .inl fs)), (v3, .inl (cA 0, 3260, .inl fh)), (v4, .inl (cA 1, 10, .inr (.inl fl))), (oX10 w0 v0 v1 v2 v3 v4 g5 g6 (nI ed) 1 v9 (nI nb) g11 g12 v13 g14 g15 g16 g17 g18 g19 g20 g21 g22 g23 g24 g25 g26 v27 v28 v29 v30 v31 v32 v33 v34 v35 v36 v37 (nI ol))]) 3 hP hD [0] [1, 2, 3] rfl rfl (by decide) (by decide) hk1 hFc hP1 hD1 rfl
      generalize H1 = H at hP hS ⊢
      obtain rfl : rn33 = 0 := hw
      refine lv_if_ne (tgt := 40) hx hb dX10_deposit_35 (by decide) (fun c9 => absurd c9 (by decide)) (fun c34 => ?_)
      refine lv_iconst (v := 0) hx hb dX10_deposit_38 (by decide) ?_
      obtain ⟨hP9, hD9⟩ := PDq.sub (ws' := [(oX10 w0 v0 v1 v2 v3 v4 g5 g6 (nI ed) 1 v9 (nI nb) g11 g12 v13 g14 g15 g16 g17 g18 g19 g20 g21 g22 g23 g24 g25 g26 v27 v28 v29 v30 v31 v32 v33 v34 v35 v36 v37 (nI ol)), (v0, .inl (cA 0, 326, .inl fs)), (v3, .inl (cA 0, 3260, .inl fh)), (v4, .inl (cA 1, 10, .inr (.inl fl)))]) hP hD [3, 0, 1, 2] (by decide) rfl
      refine W.widen (k := 0) (n := 0) (Nat.le_of_ble_eq_true rfl) (Nat.le_of_ble_eq_true rfl) ?_
      exact (W.iret (v := 0) hx hb hr (fun t ht hW => ⟨⟨0, (), rfl, trivial, ed, en, 1, g14, g15, g16, g17, g18, g19, g20, g21, g22, g23, g24, g26, g5, g6, g25, fs, fh, fl, hed, hHI, hen, hri, by rw [ht]; exact hP9, hD9⟩, hS.F ht⟩) hS.2.2 dX10_deposit_39)

set_option maxHeartbeats 4000000 in
set_option maxRecDepth 100000 in
/-- reference: setGrace -/
theorem r_setGrace (l : Launch) (D : va_G) (cA : Nat → ClassId) (sa : Nat → Nat) (w0 : Nat) (ed : Nat) (nb : Nat) (ol : Nat) (v0 : Nat) (v1 : Nat) (v2 : Nat) (v3 : Nat) (v4 : Nat) (v9 : Nat) (v13 : Nat) (v27 : Nat) (v28 : Nat) (v29 : Nat) (v30 : Nat) (v31 : Nat) (v32 : Nat) (v33 : Nat) (v34 : Nat) (v35 : Nat) (v36 : Nat) (v37 : Nat) (g8 : Int32) (g11 : Int32) (g12 : Int32) (g14 : Int32) (g15 : Int32) (g16 : Int32) (g17 : Int32) (g18 : Int32) (g19 : Int32) (g20 : Int32) (g21 : Int32) (g22 : Int32) (g23 : Int32) (g24 : Int32) (g26 : Int32) (g5 : Int64) (g6 : Int64) (g25 : Int64) (cn : Nat) (pq : Nat) (en : Nat) (dy : Nat) (fs : Nat → Int32) (fh : Nat → Int32) (fl : Nat → Int64) (i : Int32) (sz : Nat) (hcn : cn ≤ 10) (hpq : pq ≤ 8) (hen : en ≤ 60) (hdy : dy ≤ 20000) (hri : RI cn pq en dy fs) (hed : ed ≤ 10) (hHI : HI cn pq ed fh) (hd9 : dy ≤ 9999) : Met l yX10_setGrace wsX10_setGrace ({ frames := 1, cells := 0, slots := 0, locals := 25 }) (va_Pc [.ref w0, .int i] (Wd D cA sa [(oX10 w0 v0 v1 v2 v3 v4 g5 g6 (nI ed) g8 v9 (nI nb) g11 g12 v13 g14 g15 g16 g17 g18 g19 g20 g21 g22 g23 g24 g25 g26 v27 v28 v29 v30 v31 v32 v33 v34 v35 v36 v37 (nI ol)), (v0, .inl (cA 0, 326, .inl fs)), (v3, .inl (cA 0, 3260, .inl fh)), (v4, .inl (cA 1, 10, .inr (.inl fl)))] sz)) (va_Qi (fun (r : Int32) (_ : Unit) => True) (fun (_ : Unit) t => ∃ ed2 : Nat, ∃ e2 : Nat, ∃ z8 : Int32, ∃ z14 : Int32, ∃ z15 : Int32, ∃ z16 : Int32, ∃ z17 : Int32, ∃ z18 : Int32, ∃ z19 : Int32, ∃ z20 : Int32, ∃ z21 : Int32, ∃ z22 : Int32, ∃ z23 : Int32, ∃ z24 : Int32, ∃ z26 : Int32, ∃ z5 : Int64, ∃ z6 : Int64, ∃ z25 : Int64, ∃ zs : Nat → Int32, ∃ zh : Nat → Int32, ∃ zl : Nat → Int64, ed2 ≤ 10 ∧ HI cn pq ed2 zh ∧ e2 ≤ 60 ∧ RI cn pq e2 dy zs ∧ Wq D (va_A [(oX10 w0 v0 v1 v2 v3 v4 g5 g6 (nI ed) g8 v9 (nI nb) g11 g12 v13 g14 g15 g16 g17 g18 g19 g20 g21 g22 g23 g24 g25 g26 v27 v28 v29 v30 v31 v32 v33 v34 v35 v36 v37 (nI ol)), (v0, .inl (cA 0, 326, .inl fs)), (v3, .inl (cA 0, 3260, .inl fh)), (v4, .inl (cA 1, 10, .inr (.inl fl)))] sz) [(oX10 w0 v0 v1 v2 v3 v4 z5 z6 (nI ed2) z8 v9 (nI nb) g11 g12 v13 z14 z15 z16 z17 z18 z19 z20 z21 z22 z23 z24 z25 z26 v27 v28 v29 v30 v31 v32 v33 v34 v35 v36 v37 (nI ol)), (v0, .inl (cA 0, 326, .inl zs)), (v3, .inl (cA 0, 3260, .inl zh)), (v4, .inl (cA 1, 10, .inr (.inl zl)))] t) (va_A [(oX10 w0 v0 v1 v2 v3 v4 g5 g6 (nI ed) g8 v9 (nI nb) g11 g12 v13 g14 g15 g16 g17 g18 g19 g20 g21 g22 g23 g24 g25 g26 v27 v28 v29 v30 v31 v32 v33 v34 v35 v36 v37 (nI ol)), (v0, .inl (cA 0, 326, .inl fs)), (v3, .inl (cA 0, 3260, .inl fh)), (v4, .inl (cA 1, 10, .inr (.inl fl)))] sz)) 0 0 (va_A [(oX10 w0 v0 v1 v2 v3 v4 g5 g6 (nI ed) g8 v9 (nI nb) g11 g12 v13 g14 g15 g16 g17 g18 g19 g20 g21 g22 g23 g24 g25 g26 v27 v28 v29 v30 v31 v32 v33 v34 v35 v36 v37 (nI ol)), (v0, .inl (cA 0, 326, .inl fs)), (v3, .inl (cA 0, 3260, .inl fh)), (v4, .inl (cA 1, 10, .inr (.inl fl)))] sz) := by
  refine Met.ofW (cc := cX10_setGrace) (maxL := 3) (ret := (some .int)) (by decide) rfl ?_
  intro p e s m args below meth c s₁ B hml hv
  obtain ⟨rfl, hsz, hP, hK, hD0, hC, hZ⟩ := hv
  have hx := B.exec
  have hb := B.bytes
  have hr := B.returns
  have hts := atoms_spec (ws := wsX10_setGrace) B.pre
  have hown : s.vm.findClass RX10 = some m.cls := findClass_of_methodNamed B.named
  have hlocks := B.notSynchronized
  subst hsz
  have hD := hD0.self (sz := s.heap.size)
  generalize hAe : va_A [(oX10 w0 v0 v1 v2 v3 v4 g5 g6 (nI ed) g8 v9 (nI nb) g11 g12 v13 g14 g15 g16 g17 g18 g19 g20 g21 g22 g23 g24 g25 g26 v27 v28 v29 v30 v31 v32 v33 v34 v35 v36 v37 (nI ol)), (v0, .inl (cA 0, 326, .inl fs)), (v3, .inl (cA 0, 3260, .inl fh)), (v4, .inl (cA 1, 10, .inr (.inl fl)))] s.heap.size = A at hD hZ ⊢
  have hA : ∀ q : Nat, s.heap.size ≤ q → A q := fun q h => by rw [← hAe]; exact Or.inr h
  have hS : va_S A s.heap s.heap [] := va_S.rf
  have hP : va_P D vwCl [(oX10 w0 v0 v1 v2 v3 v4 g5 g6 (nI ed) g8 v9 (nI nb) g11 g12 v13 g14 g15 g16 g17 g18 g19 g20 g21 g22 g23 g24 g25 g26 v27 v28 v29 v30 v31 v32 v33 v34 v35 v36 v37 (nI ol)), (v0, .inl (cA 0, 326, .inl fs)), (v3, .inl (cA 0, 3260, .inl fh)), (v4, .inl (cA 1, 10, .inr (.inl fl)))] s.heap := hP
  have hl := lv_entry ([.ref w0, .int i]) (n := 3) (Nat.le_of_ble_eq_true rfl)
  rw [lg_entry_eq]
  generalize (lg_sl ([.ref w0, .int i]) ++ List.replicate (3 - (lg_sl ([.ref w0, .int i])).length) Slot.unset).toArray = ls at hl ⊢
  have hl : lv_has ls 3 [(0, .ref w0), (1, .int i)] := hl
  have inX10 : ∀ w ∈ u_ws RX10 TX10 39, w ∈ wsX10_setGrace := by decide +kernel
  refine lv_aload_n hx hb dX10_setGrace_0 rfl (lv_at hl 0 rfl) ?_
  refine lv_iload_n hx hb dX10_setGrace_1 rfl (lv_at hl 1 rfl) ?_
  refine lv_i2l (v := (i.toInt64)) hx hb dX10_setGrace_2 rfl ?_
  refine lv_lconst (v := 0) hx hb dX10_setGrace_3 (by decide) ?_
  refine lv_ldc2 (v := 60) hx hb hown (hts (.constantLong RX10 410 60) (by decide +kernel)) dX10_setGrace_4 ?_
  obtain ⟨hPc, hDc, hFc⟩ := PDq.cut (wc := []) hP hD hS hA [] (by decide) rfl
  refine va_calli (va_runS (As := [.long (i.toInt64), .long 0, .long 60]) (rest := [.ref w0]) ⟨hx, hb, hml, hown, hts⟩ (r_between l D cA sa (i.toInt64) 0 60 s.heap.size) (va_cwS 3 hts gX10_setGrace_X10_between rfl rfl rfl (by decide +kernel) ⟨(Nat.le_of_ble_eq_true rfl), (Nat.le_of_ble_eq_true rfl)⟩) ⟨Wd.blind, fun U hU hW => ⟨rfl, Wd.call hPc hDc hK hC hZ hS hFc U hU hW⟩⟩ rfl rfl hl.1 rfl (lv_room (Nat.le_of_ble_eq_true rfl)) dX10_setGrace_7 ⟨(Nat.le_of_ble_eq_true rfl), (Nat.le_of_ble_eq_true rfl)⟩) hS (fun q _ h => hFc q h) hFc (fun rn1 u t H1 locs ht hvm hw hB hz1 hk1 hS => ?_)
  obtain ⟨hP1, hD1⟩ := hB
  rw [ht] at hP1
  obtain ⟨hP, hD⟩ := PDq.join (w := [(oX10 w0 v0 v1 v2 v3 v4 g5 g6 (nI ed) g8 v9 (nI nb) g11 g12 v13 g14 g15 g16 g17 g18 g19 g20 g21 g22 g23 g24 g25 g26 v27 v28 v29 v30 v31 v32 v33 v34 v35 v36 v37 (nI ol)), (v0, .inl (cA 0, 326, .inl fs)), (v3, .inl (cA 0, 3260, .inl fh)), (v4, .inl (cA 1, 10, .inr (.inl fl)))]) 4 hP hD [] [0, 1, 2, 3] rfl rfl (by decide) (by decide) hk1 hFc hP1 hD1 rfl
  generalize H1 = H at hP hS ⊢
  rcases hw with ⟨hr9, hn2⟩ | hr9
  · skip
    subst hr9
    obtain ⟨hPc, hDc, hFc⟩ := PDq.cut (wc := [(oX10 w0 v0 v1 v2 v3 v4 g5 g6 (nI ed) g8 v9 (nI nb) g11 g12 v13 g14 g15 g16 g17 g18 g19 g20 g21 g22 g23 g24 g25 g26 v27 v28 v29 v30 v31 v32 v33 v34 v35 v36 v37 (nI ol))]) hP hD hS hA [0] (by decide) rfl
    refine va_calli (va_runV (As := [.int 1]) (rest := []) ⟨hx, hb, hml, hown, hts⟩ (r_good1 l D cA sa w0 ed nb ol v0 v1 v2 v3 v4 v9 v13 v27 v28 v29 v30 v31 v32 v33 v34 v35 v36 v37 g8 g11 g12 g14 g15 g16 g17 g18 g19 g20 g21 g22 g23 g24 g26 g5 g6 g25 H.size) (cwV 1 hts gX10_setGrace_X10_good rfl rfl rfl (by decide +kernel) ⟨(Nat.le_of_ble_eq_true rfl), (Nat.le_of_ble_eq_true rfl)⟩) ⟨Wd.blind, va_recv hK hPc (ci := 11) (q0 := 0) rfl rfl, fun U hU hW => ⟨rfl, Wd.call hPc hDc hK hC hZ hS hFc U hU hW⟩⟩ rfl rfl hl.1 rfl (lv_room (Nat.le_of_ble_eq_true rfl)) dX10_setGrace_10 ⟨(Nat.le_of_ble_eq_true rfl), (Nat.le_of_ble_eq_true rfl)⟩) hS (fun q _ h => hFc q h) hFc (fun rn3 u t H1 locs ht hvm hw hB hz1 hk1 hS => ?_)
    obtain ⟨hP1, hD1⟩ := hB
    rw [ht] at hP1
    obtain ⟨hP, hD⟩ := PDq.join (w := [(v0, .inl (cA 0, 326, .inl fs)), (v3, .inl (cA 0, 3260, .inl fh)), (v4, .inl (cA 1, 10, .inr (.inl fl))), (oX10 w0 v0 v1 v2 v3 v4 g5 g6 (nI ed) 0 v9 (nI nb) g11 g12 v13 g14 g15 g16 g17 g18 g19 g20 g21 g22 g23 g24 g25 g26 v27 v28 v29 v30 v31 v32 v33 v34 v35 v36 v37 (nI ol))]) 3 hP hD [0] [1, 2, 3] rfl rfl (by decide) (by decide) hk1 hFc hP1 hD1 rfl
    generalize H1 = H at hP hS ⊢
    obtain rfl : rn3 = 1 := hw
    refine lv_if_ne (tgt := 18) hx hb dX10_setGrace_13 (by decide) (fun c4 => ?_) (fun c9 => absurd c9 (by decide))
    refine lv_aload_n hx hb dX10_setGrace_18 rfl (lv_at hl 0 rfl) ?_
    obtain ⟨hPc, hDc, hFc⟩ := PDq.cut (wc := [(oX10 w0 v0 v1 v2 v3 v4 g5 g6 (nI ed) 0 v9 (nI nb) g11 g12 v13 g14 g15 g16 g17 g18 g19 g20 g21 g22 g23 g24 g25 g26 v27 v28 v29 v30 v31 v32 v33 v34 v35 v36 v37 (nI ol)), (v0, .inl (cA 0, 326, .inl fs)), (v3, .inl (cA 0, 3260, .inl fh)), (v4, .inl (cA 1, 10, .inr (.inl fl)))]) hP hD hS hA [3, 0, 1, 2] (by decide) rfl
    refine va_callv (va_runV (As := []) (rest := []) ⟨hx, hb, hml, hown, hts⟩ (r_remember l D cA sa w0 ed nb ol v0 v1 v2 v3 v4 v9 v13 v27 v28 v29 v30 v31 v32 v33 v34 v35 v36 v37 0 g11 g12 g14 g15 g16 g17 g18 g19 g20 g21 g22 g23 g24 g26 g5 g6 g25 cn pq en dy fs fh fl H.size hcn hpq hen hdy hri hed hHI hd9) (cwV 0 hts gX10_setGrace_X10_remember rfl rfl rfl (by decide +kernel) ⟨(Nat.le_of_ble_eq_true rfl), (Nat.le_of_ble_eq_true rfl)⟩) ⟨Wd.blind, va_recv hK hPc (ci := 11) (q0 := 0) rfl rfl, fun U hU hW => ⟨rfl, Wd.call hPc hDc hK hC hZ hS hFc U hU hW⟩⟩ rfl rfl hl.1 rfl (lv_room (Nat.le_of_ble_eq_true rfl)) dX10_setGrace_19 ⟨(Nat.le_of_ble_eq_true rfl), (Nat.le_of_ble_eq_true rfl)⟩) hS (fun q _ h => hFc q h) hFc (fun u t H1 locs ht hvm hw hB hz1 hk1 hS => ?_)
    obtain ⟨qn5, fn6, fn7, hn8, hn9, hP1, hD1⟩ := hB
    rw [ht] at hP1
    obtain ⟨hP, hD⟩ := PDq.join (w := [(oX10 w0 v0 v1 v2 v3 v4 g5 g6 (nI qn5) 0 v9 (nI nb) g11 g12 v13 g14 g15 g16 g17 g18 g19 g20 g21 g22 g23 g24 g25 g26 v27 v28 v29 v30 v31 v32 v33 v34 v35 v36 v37 (nI ol)), (v0, .inl (cA 0, 326, .inl fs)), (v3, .inl (cA 0, 3260, .inl fn6)), (v4, .inl (cA 1, 10, .inr (.inl fn7)))]) 0 hP hD [3, 0, 1, 2] [] rfl rfl (by decide) (by decide) hk1 hFc hP1 hD1 rfl
    generalize H1 = H at hP hS ⊢
    refine lv_aload_n hx hb dX10_setGrace_22 rfl (lv_at hl 0 rfl) ?_
    refine va_get (D := D) (ci := 11) (v := .ref v0) (C := RX10) (T := TX10) (N := 39) hx hb hts inX10 hown hK hP 0 rfl rfl 0 (by decide) (hts (.fieldLink RX10 7 "EscrowDeskModel" "s" "[I") (by decide +kernel)) (fun _ h9 => h9) rfl dX10_setGrace_23 ?_
    refine lv_iconst (v := 3) hx hb dX10_setGrace_26 (by decide) ?_
    refine va_iald hx hb hK hP 1 0 rfl rfl (vp_in_iff.mpr (by decide)) dX10_setGrace_27 ?_
    refine lv_topi (fun yn10 eyn10 => ?_)
    refine lv_istore_n (lv' := [(2, .int yn10), (0, .ref w0), (1, .int i)]) hx hb dX10_setGrace_28 rfl hl (by decide) rfl (fun ls hl => ?_)
    refine lv_aload_n hx hb dX10_setGrace_29 rfl (lv_at hl 1 rfl) ?_
    refine va_get (D := D) (ci := 11) (v := .ref v0) (C := RX10) (T := TX10) (N := 39) hx hb hts inX10 hown hK hP 0 rfl rfl 0 (by decide) (hts (.fieldLink RX10 7 "EscrowDeskModel" "s" "[I") (by decide +kernel)) (fun _ h9 => h9) rfl dX10_setGrace_30 ?_
    refine lv_iconst (v := 3) hx hb dX10_setGrace_33 (by decide) ?_
    refine lv_iload_n hx hb dX10_setGrace_34 rfl (lv_at hl 2 rfl) ?_
    refine va_iast hx hb hK hP hD hS 1 0 rfl rfl (vp_in_iff.mpr (by decide)) dX10_setGrace_35 (fun H locs hP hD hS => ?_)
    obtain ⟨hP, hD⟩ : PDq D A [(oX10 w0 v0 v1 v2 v3 v4 g5 g6 (nI qn5) 0 v9 (nI nb) g11 g12 v13 g14 g15 g16 g17 g18 g19 g20 g21 g22 g23 g24 g25 g26 v27 v28 v29 v30 v31 v32 v33 v34 v35 v36 v37 (nI ol)), (v0, .inl (cA 0, 326, .inl (upd fs 3 i))), (v3, .inl (cA 0, 3260, .inl fn6)), (v4, .inl (cA 1, 10, .inr (.inl fn7)))] H := ⟨hP, hD⟩
    have hn12 : RI cn pq en dy (upd fs 3 i) := RI.put hri 3 i (by decide) (by decide) (by decide) (by decide) (by decide)
    generalize (upd fs 3 i) = fn11 at hP hD hn12
    obtain ⟨hP, hD⟩ : PDq D A [(oX10 w0 v0 v1 v2 v3 v4 g5 g6 (nI qn5) 0 v9 (nI nb) g11 g12 v13 g14 g15 g16 g17 g18 g19 g20 g21 g22 g23 g24 g25 g26 v27 v28 v29 v30 v31 v32 v33 v34 v35 v36 v37 (nI ol)), (v0, .inl (cA 0, 326, .inl fn11)), (v3, .inl (cA 0, 3260, .inl fn6)), (v4, .inl (cA 1, 10, .inr (.inl fn7)))] H := ⟨hP, hD⟩
    refine lv_iload_n hx hb dX10_setGrace_36 rfl (lv_at hl 0 rfl) ?_
    obtain ⟨hP9, hD9⟩ := PDq.sub (ws' := [(oX10 w0 v0 v1 v2 v3 v4 g5 g6 (nI qn5) 0 v9 (nI nb) g11 g12 v13 g14 g15 g16 g17 g18 g19 g20 g21 g22 g23 g24 g25 g26 v27 v28 v29 v30 v31 v32 v33 v34 v35 v36 v37 (nI ol)), (v0, .inl (cA 0, 326, .inl fn11)), (v3, .inl (cA 0, 3260, .inl fn6)), (v4, .inl (cA 1, 10, .inr (.inl fn7)))]) hP hD [0, 1, 2, 3] (by decide) rfl
    refine W.widen (k := 0) (n := 0) (Nat.le_of_ble_eq_true rfl) (Nat.le_of_ble_eq_true rfl) ?_
    exact (W.iret (v := yn10) hx hb hr (fun t ht hW => ⟨⟨yn10, (), rfl, trivial, qn5, en, 0, g14, g15, g16, g17, g18, g19, g20, g21, g22, g23, g24, g26, g5, g6, g25, fn11, fn6, fn7, hn8, hn9, hen, hn12, by rw [ht]; exact hP9, hD9⟩, hS.F ht⟩) hS.2.2 dX10_setGrace_37)
  · skip
    subst hr9
    obtain ⟨hPc, hDc, hFc⟩ := PDq.cut (wc := [(oX10 w0 v0 v1 v2 v3 v4 g5 g6 (nI ed) g8 v9 (nI nb) g11 g12 v13 g14 g15 g16 g17 g18 g19 g20 g21 g22 g23 g24 g25 g26 v27 v28 v29 v30 v31 v32 v33 v34 v35 v36 v37 (nI ol))]) hP hD hS hA [0] (by decide) rfl
    refine va_calli (va_runV (As := [.int 0]) (rest := []) ⟨hx, hb, hml, hown, hts⟩ (r_good0 l D cA sa w0 ed nb ol v0 v1 v2 v3 v4 v9 v13 v27 v28 v29 v30 v31 v32 v33 v34 v35 v36 v37 g8 g11 g12 g14 g15 g16 g17 g18 g19 g20 g21 g22 g23 g24 g26 g5 g6 g25 H.size) (cwV 1 hts gX10_setGrace_X10_good rfl rfl rfl (by decide +kernel) ⟨(Nat.le_of_ble_eq_true rfl), (Nat.le_of_ble_eq_true rfl)⟩) ⟨Wd.blind, va_recv hK hPc (ci := 11) (q0 := 0) rfl rfl, fun U hU hW => ⟨rfl, Wd.call hPc hDc hK hC hZ hS hFc U hU hW⟩⟩ rfl rfl hl.1 rfl (lv_room (Nat.le_of_ble_eq_true rfl)) dX10_setGrace_10 ⟨(Nat.le_of_ble_eq_true rfl), (Nat.le_of_ble_eq_true rfl)⟩) hS (fun q _ h => hFc q h) hFc (fun rn13 u t H1 locs ht hvm hw hB hz1 hk1 hS => ?_)
    obtain ⟨hP1, hD1⟩ := hB
    rw [ht] at hP1
    obtain ⟨hP, hD⟩ := PDq.join (w := [(v0, .inl (cA 0, 326, .inl fs)), (v3, .inl (cA 0, 3260, .inl fh)), (v4, .inl (cA 1, 10, .inr (.inl fl))), (oX10 w0 v0 v1 v2 v3 v4 g5 g6 (nI ed) 1 v9 (nI nb) g11 g12 v13 g14 g15 g16 g17 g18 g19 g20 g21 g22 g23 g24 g25 g26 v27 v28 v29 v30 v31 v32 v33 v34 v35 v36 v37 (nI ol))]) 3 hP hD [0] [1, 2, 3] rfl rfl (by decide) (by decide) hk1 hFc hP1 hD1 rfl
    generalize H1 = H at hP hS ⊢
    obtain rfl : rn13 = 0 := hw
    refine lv_if_ne (tgt := 18) hx hb dX10_setGrace_13 (by decide) (fun c9 => absurd c9 (by decide)) (fun c14 => ?_)
    refine lv_iconst (v := 0) hx hb dX10_setGrace_16 (by decide) ?_
    obtain ⟨hP9, hD9⟩ := PDq.sub (ws' := [(oX10 w0 v0 v1 v2 v3 v4 g5 g6 (nI ed) 1 v9 (nI nb) g11 g12 v13 g14 g15 g16 g17 g18 g19 g20 g21 g22 g23 g24 g25 g26 v27 v28 v29 v30 v31 v32 v33 v34 v35 v36 v37 (nI ol)), (v0, .inl (cA 0, 326, .inl fs)), (v3, .inl (cA 0, 3260, .inl fh)), (v4, .inl (cA 1, 10, .inr (.inl fl)))]) hP hD [3, 0, 1, 2] (by decide) rfl
    refine W.widen (k := 0) (n := 0) (Nat.le_of_ble_eq_true rfl) (Nat.le_of_ble_eq_true rfl) ?_
    exact (W.iret (v := 0) hx hb hr (fun t ht hW => ⟨⟨0, (), rfl, trivial, ed, en, 1, g14, g15, g16, g17, g18, g19, g20, g21, g22, g23, g24, g26, g5, g6, g25, fs, fh, fl, hed, hHI, hen, hri, by rw [ht]; exact hP9, hD9⟩, hS.F ht⟩) hS.2.2 dX10_setGrace_17)

set_option maxHeartbeats 4000000 in
set_option maxRecDepth 100000 in
/-- reference: payInterest -/
theorem r_payInterest (l : Launch) (D : va_G) (cA : Nat → ClassId) (sa : Nat → Nat) (w0 : Nat) (ed : Nat) (nb : Nat) (ol : Nat) (v0 : Nat) (v1 : Nat) (v2 : Nat) (v3 : Nat) (v4 : Nat) (v9 : Nat) (v13 : Nat) (v27 : Nat) (v28 : Nat) (v29 : Nat) (v30 : Nat) (v31 : Nat) (v32 : Nat) (v33 : Nat) (v34 : Nat) (v35 : Nat) (v36 : Nat) (v37 : Nat) (g8 : Int32) (g11 : Int32) (g12 : Int32) (g14 : Int32) (g15 : Int32) (g16 : Int32) (g17 : Int32) (g18 : Int32) (g19 : Int32) (g20 : Int32) (g21 : Int32) (g22 : Int32) (g23 : Int32) (g24 : Int32) (g26 : Int32) (g5 : Int64) (g6 : Int64) (g25 : Int64) (cn : Nat) (pq : Nat) (en : Nat) (dy : Nat) (fs : Nat → Int32) (fh : Nat → Int32) (fl : Nat → Int64) (i : Int32) (sz : Nat) (hcn : cn ≤ 10) (hpq : pq ≤ 8) (hen : en ≤ 60) (hdy : dy ≤ 20000) (hri : RI cn pq en dy fs) (hed : ed ≤ 10) (hHI : HI cn pq ed fh) (hd9 : dy ≤ 9999) : Met l yX10_payInterest wsX10_payInterest ({ frames := 1, cells := 0, slots := 0, locals := 25 }) (va_Pc [.ref w0, .int i] (Wd D cA sa [(oX10 w0 v0 v1 v2 v3 v4 g5 g6 (nI ed) g8 v9 (nI nb) g11 g12 v13 g14 g15 g16 g17 g18 g19 g20 g21 g22 g23 g24 g25 g26 v27 v28 v29 v30 v31 v32 v33 v34 v35 v36 v37 (nI ol)), (v0, .inl (cA 0, 326, .inl fs)), (v3, .inl (cA 0, 3260, .inl fh)), (v4, .inl (cA 1, 10, .inr (.inl fl)))] sz)) (va_Qi (fun (r : Int32) (_ : Unit) => True) (fun (_ : Unit) t => ∃ ed2 : Nat, ∃ e2 : Nat, ∃ z8 : Int32, ∃ z14 : Int32, ∃ z15 : Int32, ∃ z16 : Int32, ∃ z17 : Int32, ∃ z18 : Int32, ∃ z19 : Int32, ∃ z20 : Int32, ∃ z21 : Int32, ∃ z22 : Int32, ∃ z23 : Int32, ∃ z24 : Int32, ∃ z26 : Int32, ∃ z5 : Int64, ∃ z6 : Int64, ∃ z25 : Int64, ∃ zs : Nat → Int32, ∃ zh : Nat → Int32, ∃ zl : Nat → Int64, ed2 ≤ 10 ∧ HI cn pq ed2 zh ∧ e2 ≤ 60 ∧ RI cn pq e2 dy zs ∧ Wq D (va_A [(oX10 w0 v0 v1 v2 v3 v4 g5 g6 (nI ed) g8 v9 (nI nb) g11 g12 v13 g14 g15 g16 g17 g18 g19 g20 g21 g22 g23 g24 g25 g26 v27 v28 v29 v30 v31 v32 v33 v34 v35 v36 v37 (nI ol)), (v0, .inl (cA 0, 326, .inl fs)), (v3, .inl (cA 0, 3260, .inl fh)), (v4, .inl (cA 1, 10, .inr (.inl fl)))] sz) [(oX10 w0 v0 v1 v2 v3 v4 z5 z6 (nI ed2) z8 v9 (nI nb) g11 g12 v13 z14 z15 z16 z17 z18 z19 z20 z21 z22 z23 z24 z25 z26 v27 v28 v29 v30 v31 v32 v33 v34 v35 v36 v37 (nI ol)), (v0, .inl (cA 0, 326, .inl zs)), (v3, .inl (cA 0, 3260, .inl zh)), (v4, .inl (cA 1, 10, .inr (.inl zl)))] t) (va_A [(oX10 w0 v0 v1 v2 v3 v4 g5 g6 (nI ed) g8 v9 (nI nb) g11 g12 v13 g14 g15 g16 g17 g18 g19 g20 g21 g22 g23 g24 g25 g26 v27 v28 v29 v30 v31 v32 v33 v34 v35 v36 v37 (nI ol)), (v0, .inl (cA 0, 326, .inl fs)), (v3, .inl (cA 0, 3260, .inl fh)), (v4, .inl (cA 1, 10, .inr (.inl fl)))] sz)) 0 0 (va_A [(oX10 w0 v0 v1 v2 v3 v4 g5 g6 (nI ed) g8 v9 (nI nb) g11 g12 v13 g14 g15 g16 g17 g18 g19 g20 g21 g22 g23 g24 g25 g26 v27 v28 v29 v30 v31 v32 v33 v34 v35 v36 v37 (nI ol)), (v0, .inl (cA 0, 326, .inl fs)), (v3, .inl (cA 0, 3260, .inl fh)), (v4, .inl (cA 1, 10, .inr (.inl fl)))] sz) := by
  refine Met.ofW (cc := cX10_payInterest) (maxL := 2) (ret := (some .int)) (by decide) rfl ?_
  intro p e s m args below meth c s₁ B hml hv
  obtain ⟨rfl, hsz, hP, hK, hD0, hC, hZ⟩ := hv
  have hx := B.exec
  have hb := B.bytes
  have hr := B.returns
  have hts := atoms_spec (ws := wsX10_payInterest) B.pre
  have hown : s.vm.findClass RX10 = some m.cls := findClass_of_methodNamed B.named
  have hlocks := B.notSynchronized
  subst hsz
  have hD := hD0.self (sz := s.heap.size)
  generalize hAe : va_A [(oX10 w0 v0 v1 v2 v3 v4 g5 g6 (nI ed) g8 v9 (nI nb) g11 g12 v13 g14 g15 g16 g17 g18 g19 g20 g21 g22 g23 g24 g25 g26 v27 v28 v29 v30 v31 v32 v33 v34 v35 v36 v37 (nI ol)), (v0, .inl (cA 0, 326, .inl fs)), (v3, .inl (cA 0, 3260, .inl fh)), (v4, .inl (cA 1, 10, .inr (.inl fl)))] s.heap.size = A at hD hZ ⊢
  have hA : ∀ q : Nat, s.heap.size ≤ q → A q := fun q h => by rw [← hAe]; exact Or.inr h
  have hS : va_S A s.heap s.heap [] := va_S.rf
  have hP : va_P D vwCl [(oX10 w0 v0 v1 v2 v3 v4 g5 g6 (nI ed) g8 v9 (nI nb) g11 g12 v13 g14 g15 g16 g17 g18 g19 g20 g21 g22 g23 g24 g25 g26 v27 v28 v29 v30 v31 v32 v33 v34 v35 v36 v37 (nI ol)), (v0, .inl (cA 0, 326, .inl fs)), (v3, .inl (cA 0, 3260, .inl fh)), (v4, .inl (cA 1, 10, .inr (.inl fl)))] s.heap := hP
  have hl := lv_entry ([.ref w0, .int i]) (n := 2) (Nat.le_of_ble_eq_true rfl)
  rw [lg_entry_eq]
  generalize (lg_sl ([.ref w0, .int i]) ++ List.replicate (2 - (lg_sl ([.ref w0, .int i])).length) Slot.unset).toArray = ls at hl ⊢
  have hl : lv_has ls 2 [(0, .ref w0), (1, .int i)] := hl
  have inX10 : ∀ w ∈ u_ws RX10 TX10 39, w ∈ wsX10_payInterest := by decide +kernel
  refine lv_aload_n hx hb dX10_payInterest_0 rfl (lv_at hl 0 rfl) ?_
  refine lv_iload_n hx hb dX10_payInterest_1 rfl (lv_at hl 1 rfl) ?_
  refine lv_i2l (v := (i.toInt64)) hx hb dX10_payInterest_2 rfl ?_
  refine lv_lconst (v := 1) hx hb dX10_payInterest_3 (by decide) ?_
  refine lv_aload_n hx hb dX10_payInterest_4 rfl (lv_at hl 0 rfl) ?_
  refine va_get (D := D) (ci := 11) (v := .ref v0) (C := RX10) (T := TX10) (N := 39) hx hb hts inX10 hown hK hP 0 rfl rfl 0 (by decide) (hts (.fieldLink RX10 7 "EscrowDeskModel" "s" "[I") (by decide +kernel)) (fun _ h9 => h9) rfl dX10_payInterest_5 ?_
  refine lv_bipush (v := 7) hx hb dX10_payInterest_8 (by decide) ?_
  refine va_iald hx hb hK hP 1 0 rfl rfl (vp_in_iff.mpr (by decide)) dX10_payInterest_10 ?_
  refine lv_topi (fun yn1 eyn1 => ?_)
  refine lv_i2l (v := (yn1.toInt64)) hx hb dX10_payInterest_11 rfl ?_
  obtain ⟨hPc, hDc, hFc⟩ := PDq.cut (wc := []) hP hD hS hA [] (by decide) rfl
  refine va_calli (va_runS (As := [.long (i.toInt64), .long 1, .long (yn1.toInt64)]) (rest := [.ref w0]) ⟨hx, hb, hml, hown, hts⟩ (r_between l D cA sa (i.toInt64) 1 (yn1.toInt64) s.heap.size) (va_cwS 3 hts gX10_payInterest_X10_between rfl rfl rfl (by decide +kernel) ⟨(Nat.le_of_ble_eq_true rfl), (Nat.le_of_ble_eq_true rfl)⟩) ⟨Wd.blind, fun U hU hW => ⟨rfl, Wd.call hPc hDc hK hC hZ hS hFc U hU hW⟩⟩ rfl rfl hl.1 rfl (lv_room (Nat.le_of_ble_eq_true rfl)) dX10_payInterest_12 ⟨(Nat.le_of_ble_eq_true rfl), (Nat.le_of_ble_eq_true rfl)⟩) hS (fun q _ h => hFc q h) hFc (fun rn2 u t H1 locs ht hvm hw hB hz1 hk1 hS => ?_)
  obtain ⟨hP1, hD1⟩ := hB
  rw [ht] at hP1
  obtain ⟨hP, hD⟩ := PDq.join (w := [(oX10 w0 v0 v1 v2 v3 v4 g5 g6 (nI ed) g8 v9 (nI nb) g11 g12 v13 g14 g15 g16 g17 g18 g19 g20 g21 g22 g23 g24 g25 g26 v27 v28 v29 v30 v31 v32 v33 v34 v35 v36 v37 (nI ol)), (v0, .inl (cA 0, 326, .inl fs)), (v3, .inl (cA 0, 3260, .inl fh)), (v4, .inl (cA 1, 10, .inr (.inl fl)))]) 4 hP hD [] [0, 1, 2, 3] rfl rfl (by decide) (by decide) hk1 hFc hP1 hD1 rfl
  generalize H1 = H at hP hS ⊢
  rcases hw with ⟨hr9, hn3⟩ | hr9
  · skip
    subst hr9
    obtain ⟨hPc, hDc, hFc⟩ := PDq.cut (wc := [(oX10 w0 v0 v1 v2 v3 v4 g5 g6 (nI ed) g8 v9 (nI nb) g11 g12 v13 g14 g15 g16 g17 g18 g19 g20 g21 g22 g23 g24 g25 g26 v27 v28 v29 v30 v31 v32 v33 v34 v35 v36 v37 (nI ol))]) hP hD hS hA [0] (by decide) rfl
    refine va_calli (va_runV (As := [.int 1]) (rest := []) ⟨hx, hb, hml, hown, hts⟩ (r_good1 l D cA sa w0 ed nb ol v0 v1 v2 v3 v4 v9 v13 v27 v28 v29 v30 v31 v32 v33 v34 v35 v36 v37 g8 g11 g12 g14 g15 g16 g17 g18 g19 g20 g21 g22 g23 g24 g26 g5 g6 g25 H.size) (cwV 1 hts gX10_payInterest_X10_good rfl rfl rfl (by decide +kernel) ⟨(Nat.le_of_ble_eq_true rfl), (Nat.le_of_ble_eq_true rfl)⟩) ⟨Wd.blind, va_recv hK hPc (ci := 11) (q0 := 0) rfl rfl, fun U hU hW => ⟨rfl, Wd.call hPc hDc hK hC hZ hS hFc U hU hW⟩⟩ rfl rfl hl.1 rfl (lv_room (Nat.le_of_ble_eq_true rfl)) dX10_payInterest_15 ⟨(Nat.le_of_ble_eq_true rfl), (Nat.le_of_ble_eq_true rfl)⟩) hS (fun q _ h => hFc q h) hFc (fun rn4 u t H1 locs ht hvm hw hB hz1 hk1 hS => ?_)
    obtain ⟨hP1, hD1⟩ := hB
    rw [ht] at hP1
    obtain ⟨hP, hD⟩ := PDq.join (w := [(v0, .inl (cA 0, 326, .inl fs)), (v3, .inl (cA 0, 3260, .inl fh)), (v4, .inl (cA 1, 10, .inr (.inl fl))), (oX10 w0 v0 v1 v2 v3 v4 g5 g6 (nI ed) 0 v9 (nI nb) g11 g12 v13 g14 g15 g16 g17 g18 g19 g20 g21 g22 g23 g24 g25 g26 v27 v28 v29 v30 v31 v32 v33 v34 v35 v36 v37 (nI ol))]) 3 hP hD [0] [1, 2, 3] rfl rfl (by decide) (by decide) hk1 hFc hP1 hD1 rfl
    generalize H1 = H at hP hS ⊢
    obtain rfl : rn4 = 1 := hw
    refine lv_if_ne (tgt := 23) hx hb dX10_payInterest_18 (by decide) (fun c5 => ?_) (fun c9 => absurd c9 (by decide))
    refine lv_aload_n hx hb dX10_payInterest_23 rfl (lv_at hl 0 rfl) ?_
    obtain ⟨hPc, hDc, hFc⟩ := PDq.cut (wc := [(oX10 w0 v0 v1 v2 v3 v4 g5 g6 (nI ed) 0 v9 (nI nb) g11 g12 v13 g14 g15 g16 g17 g18 g19 g20 g21 g22 g23 g24 g25 g26 v27 v28 v29 v30 v31 v32 v33 v34 v35 v36 v37 (nI ol)), (v0, .inl (cA 0, 326, .inl fs)), (v3, .inl (cA 0, 3260, .inl fh)), (v4, .inl (cA 1, 10, .inr (.inl fl)))]) hP hD hS hA [3, 0, 1, 2] (by decide) rfl
    refine va_callv (va_runV (As := []) (rest := []) ⟨hx, hb, hml, hown, hts⟩ (r_remember l D cA sa w0 ed nb ol v0 v1 v2 v3 v4 v9 v13 v27 v28 v29 v30 v31 v32 v33 v34 v35 v36 v37 0 g11 g12 g14 g15 g16 g17 g18 g19 g20 g21 g22 g23 g24 g26 g5 g6 g25 cn pq en dy fs fh fl H.size hcn hpq hen hdy hri hed hHI hd9) (cwV 0 hts gX10_payInterest_X10_remember rfl rfl rfl (by decide +kernel) ⟨(Nat.le_of_ble_eq_true rfl), (Nat.le_of_ble_eq_true rfl)⟩) ⟨Wd.blind, va_recv hK hPc (ci := 11) (q0 := 0) rfl rfl, fun U hU hW => ⟨rfl, Wd.call hPc hDc hK hC hZ hS hFc U hU hW⟩⟩ rfl rfl hl.1 rfl (lv_room (Nat.le_of_ble_eq_true rfl)) dX10_payInterest_24 ⟨(Nat.le_of_ble_eq_true rfl), (Nat.le_of_ble_eq_true rfl)⟩) hS (fun q _ h => hFc q h) hFc (fun u t H1 locs ht hvm hw hB hz1 hk1 hS => ?_)
    obtain ⟨qn6, fn7, fn8, hn9, hn10, hP1, hD1⟩ := hB
    rw [ht] at hP1
    obtain ⟨hP, hD⟩ := PDq.join (w := [(oX10 w0 v0 v1 v2 v3 v4 g5 g6 (nI qn6) 0 v9 (nI nb) g11 g12 v13 g14 g15 g16 g17 g18 g19 g20 g21 g22 g23 g24 g25 g26 v27 v28 v29 v30 v31 v32 v33 v34 v35 v36 v37 (nI ol)), (v0, .inl (cA 0, 326, .inl fs)), (v3, .inl (cA 0, 3260, .inl fn7)), (v4, .inl (cA 1, 10, .inr (.inl fn8)))]) 0 hP hD [3, 0, 1, 2] [] rfl rfl (by decide) (by decide) hk1 hFc hP1 hD1 rfl
    generalize H1 = H at hP hS ⊢
    refine lv_aload_n hx hb dX10_payInterest_27 rfl (lv_at hl 0 rfl) ?_
    refine va_get (D := D) (ci := 11) (v := .ref v0) (C := RX10) (T := TX10) (N := 39) hx hb hts inX10 hown hK hP 0 rfl rfl 0 (by decide) (hts (.fieldLink RX10 7 "EscrowDeskModel" "s" "[I") (by decide +kernel)) (fun _ h9 => h9) rfl dX10_payInterest_28 ?_
    refine lv_bipush (v := 7) hx hb dX10_payInterest_31 (by decide) ?_
    refine lv_dup2_11 hx hb dX10_payInterest_33 rfl rfl ?_
    refine va_iald hx hb hK hP 1 0 rfl rfl (vp_in_iff.mpr (by decide)) dX10_payInterest_34 ?_
    refine lv_topi (fun yn11 eyn11 => ?_)
    refine lv_iload_n hx hb dX10_payInterest_35 rfl (lv_at hl 1 rfl) ?_
    refine lv_isub hx hb dX10_payInterest_36 ?_
    refine lv_topi (fun yn12 eyn12 => ?_)
    refine va_iast hx hb hK hP hD hS 1 0 rfl rfl (vp_in_iff.mpr (by decide)) dX10_payInterest_37 (fun H locs hP hD hS => ?_)
    obtain ⟨hP, hD⟩ : PDq D A [(oX10 w0 v0 v1 v2 v3 v4 g5 g6 (nI qn6) 0 v9 (nI nb) g11 g12 v13 g14 g15 g16 g17 g18 g19 g20 g21 g22 g23 g24 g25 g26 v27 v28 v29 v30 v31 v32 v33 v34 v35 v36 v37 (nI ol)), (v0, .inl (cA 0, 326, .inl (upd fs 7 yn12))), (v3, .inl (cA 0, 3260, .inl fn7)), (v4, .inl (cA 1, 10, .inr (.inl fn8)))] H := ⟨hP, hD⟩
    have hn14 : RI cn pq en dy (upd fs 7 yn12) := RI.put hri 7 yn12 (by decide) (by decide) (by decide) (by decide) (by decide)
    generalize (upd fs 7 yn12) = fn13 at hP hD hn14
    obtain ⟨hP, hD⟩ : PDq D A [(oX10 w0 v0 v1 v2 v3 v4 g5 g6 (nI qn6) 0 v9 (nI nb) g11 g12 v13 g14 g15 g16 g17 g18 g19 g20 g21 g22 g23 g24 g25 g26 v27 v28 v29 v30 v31 v32 v33 v34 v35 v36 v37 (nI ol)), (v0, .inl (cA 0, 326, .inl fn13)), (v3, .inl (cA 0, 3260, .inl fn7)), (v4, .inl (cA 1, 10, .inr (.inl fn8)))] H := ⟨hP, hD⟩
    refine lv_aload_n hx hb dX10_payInterest_38 rfl (lv_at hl 0 rfl) ?_
    refine va_get (D := D) (ci := 11) (v := .ref v0) (C := RX10) (T := TX10) (N := 39) hx hb hts inX10 hown hK hP 0 rfl rfl 0 (by decide) (hts (.fieldLink RX10 7 "EscrowDeskModel" "s" "[I") (by decide +kernel)) (fun _ h9 => h9) rfl dX10_payInterest_39 ?_
    refine lv_iconst (v := 4) hx hb dX10_payInterest_42 (by decide) ?_
    refine lv_iload_n hx hb dX10_payInterest_43 rfl (lv_at hl 1 rfl) ?_
    refine lv_iconst (v := (-1)) hx hb dX10_payInterest_44 (by decide) ?_
    obtain ⟨hPc, hDc, hFc⟩ := PDq.cut (wc := [(v0, .inl (cA 0, 326, .inl fn13))]) hP hD hS hA [1] (by decide) rfl
    refine va_callv (va_runS (As := [.ref v0, .int 4, .int i, .int (-1)]) (rest := []) ⟨hx, hb, hml, hown, hts⟩ (r_enter l D cA sa v0 cn pq en dy fn13 4 i (-1) H.size hcn hpq hen hdy hn14) (va_cwS 4 hts gX10_payInterest_X10_enter rfl rfl rfl (by decide +kernel) ⟨(Nat.le_of_ble_eq_true rfl), (Nat.le_of_ble_eq_true rfl)⟩) ⟨Wd.blind, fun U hU hW => ⟨rfl, Wd.call hPc hDc hK hC hZ hS hFc U hU hW⟩⟩ rfl rfl hl.1 rfl (lv_room (Nat.le_of_ble_eq_true rfl)) dX10_payInterest_45 ⟨(Nat.le_of_ble_eq_true rfl), (Nat.le_of_ble_eq_true rfl)⟩) hS (fun q _ h => hFc q h) hFc (fun u t H1 locs ht hvm hw hB hz1 hk1 hS => ?_)
    obtain ⟨qn15, fn16, hn17, hn18, hP1, hD1⟩ := hB
    rw [ht] at hP1
    obtain ⟨hP, hD⟩ := PDq.join (w := [(oX10 w0 v0 v1 v2 v3 v4 g5 g6 (nI qn6) 0 v9 (nI nb) g11 g12 v13 g14 g15 g16 g17 g18 g19 g20 g21 g22 g23 g24 g25 g26 v27 v28 v29 v30 v31 v32 v33 v34 v35 v36 v37 (nI ol)), (v3, .inl (cA 0, 3260, .inl fn7)), (v4, .inl (cA 1, 10, .inr (.inl fn8))), (v0, .inl (cA 0, 326, .inl fn16))]) 3 hP hD [1] [0, 2, 3] rfl rfl (by decide) (by decide) hk1 hFc hP1 hD1 rfl
    generalize H1 = H at hP hS ⊢
    refine lv_aload_n hx hb dX10_payInterest_48 rfl (lv_at hl 0 rfl) ?_
    refine va_get (D := D) (ci := 11) (v := .ref v0) (C := RX10) (T := TX10) (N := 39) hx hb hts inX10 hown hK hP 0 rfl rfl 0 (by decide) (hts (.fieldLink RX10 7 "EscrowDeskModel" "s" "[I") (by decide +kernel)) (fun _ h9 => h9) rfl dX10_payInterest_49 ?_
    refine lv_bipush (v := 7) hx hb dX10_payInterest_52 (by decide) ?_
    refine va_iald hx hb hK hP 3 0 rfl rfl (vp_in_iff.mpr (by decide)) dX10_payInterest_54 ?_
    refine lv_topi (fun yn19 eyn19 => ?_)
    obtain ⟨hP9, hD9⟩ := PDq.sub (ws' := [(oX10 w0 v0 v1 v2 v3 v4 g5 g6 (nI qn6) 0 v9 (nI nb) g11 g12 v13 g14 g15 g16 g17 g18 g19 g20 g21 g22 g23 g24 g25 g26 v27 v28 v29 v30 v31 v32 v33 v34 v35 v36 v37 (nI ol)), (v0, .inl (cA 0, 326, .inl fn16)), (v3, .inl (cA 0, 3260, .inl fn7)), (v4, .inl (cA 1, 10, .inr (.inl fn8)))]) hP hD [0, 3, 1, 2] (by decide) rfl
    refine W.widen (k := 0) (n := 0) (Nat.le_of_ble_eq_true rfl) (Nat.le_of_ble_eq_true rfl) ?_
    exact (W.iret (v := yn19) hx hb hr (fun t ht hW => ⟨⟨yn19, (), rfl, trivial, qn6, qn15, 0, g14, g15, g16, g17, g18, g19, g20, g21, g22, g23, g24, g26, g5, g6, g25, fn16, fn7, fn8, hn9, hn10, hn17, hn18, by rw [ht]; exact hP9, hD9⟩, hS.F ht⟩) hS.2.2 dX10_payInterest_55)
  · skip
    subst hr9
    obtain ⟨hPc, hDc, hFc⟩ := PDq.cut (wc := [(oX10 w0 v0 v1 v2 v3 v4 g5 g6 (nI ed) g8 v9 (nI nb) g11 g12 v13 g14 g15 g16 g17 g18 g19 g20 g21 g22 g23 g24 g25 g26 v27 v28 v29 v30 v31 v32 v33 v34 v35 v36 v37 (nI ol))]) hP hD hS hA [0] (by decide) rfl
    refine va_calli (va_runV (As := [.int 0]) (rest := []) ⟨hx, hb, hml, hown, hts⟩ (r_good0 l D cA sa w0 ed nb ol v0 v1 v2 v3 v4 v9 v13 v27 v28 v29 v30 v31 v32 v33 v34 v35 v36 v37 g8 g11 g12 g14 g15 g16 g17 g18 g19 g20 g21 g22 g23 g24 g26 g5 g6 g25 H.size) (cwV 1 hts gX10_payInterest_X10_good rfl rfl rfl (by decide +kernel) ⟨(Nat.le_of_ble_eq_true rfl), (Nat.le_of_ble_eq_true rfl)⟩) ⟨Wd.blind, va_recv hK hPc (ci := 11) (q0 := 0) rfl rfl, fun U hU hW => ⟨rfl, Wd.call hPc hDc hK hC hZ hS hFc U hU hW⟩⟩ rfl rfl hl.1 rfl (lv_room (Nat.le_of_ble_eq_true rfl)) dX10_payInterest_15 ⟨(Nat.le_of_ble_eq_true rfl), (Nat.le_of_ble_eq_true rfl)⟩) hS (fun q _ h => hFc q h) hFc (fun rn20 u t H1 locs ht hvm hw hB hz1 hk1 hS => ?_)
    obtain ⟨hP1, hD1⟩ := hB
    rw [ht] at hP1
    obtain ⟨hP, hD⟩ := PDq.join (w := [(v0, .inl (cA 0, 326, .inl fs)), (v3, .inl (cA 0, 3260, .inl fh)), (v4, .inl (cA 1, 10, .inr (.inl fl))), (oX10 w0 v0 v1 v2 v3 v4 g5 g6 (nI ed) 1 v9 (nI nb) g11 g12 v13 g14 g15 g16 g17 g18 g19 g20 g21 g22 g23 g24 g25 g26 v27 v28 v29 v30 v31 v32 v33 v34 v35 v36 v37 (nI ol))]) 3 hP hD [0] [1, 2, 3] rfl rfl (by decide) (by decide) hk1 hFc hP1 hD1 rfl
    generalize H1 = H at hP hS ⊢
    obtain rfl : rn20 = 0 := hw
    refine lv_if_ne (tgt := 23) hx hb dX10_payInterest_18 (by decide) (fun c9 => absurd c9 (by decide)) (fun c21 => ?_)
    refine lv_iconst (v := 0) hx hb dX10_payInterest_21 (by decide) ?_
    obtain ⟨hP9, hD9⟩ := PDq.sub (ws' := [(oX10 w0 v0 v1 v2 v3 v4 g5 g6 (nI ed) 1 v9 (nI nb) g11 g12 v13 g14 g15 g16 g17 g18 g19 g20 g21 g22 g23 g24 g25 g26 v27 v28 v29 v30 v31 v32 v33 v34 v35 v36 v37 (nI ol)), (v0, .inl (cA 0, 326, .inl fs)), (v3, .inl (cA 0, 3260, .inl fh)), (v4, .inl (cA 1, 10, .inr (.inl fl)))]) hP hD [3, 0, 1, 2] (by decide) rfl
    refine W.widen (k := 0) (n := 0) (Nat.le_of_ble_eq_true rfl) (Nat.le_of_ble_eq_true rfl) ?_
    exact (W.iret (v := 0) hx hb hr (fun t ht hW => ⟨⟨0, (), rfl, trivial, ed, en, 1, g14, g15, g16, g17, g18, g19, g20, g21, g22, g23, g24, g26, g5, g6, g25, fs, fh, fl, hed, hHI, hen, hri, by rw [ht]; exact hP9, hD9⟩, hS.F ht⟩) hS.2.2 dX10_payInterest_22)

set_option maxHeartbeats 4000000 in
set_option maxRecDepth 100000 in
/-- reference: setRate -/
theorem r_setRate (l : Launch) (D : va_G) (cA : Nat → ClassId) (sa : Nat → Nat) (w0 : Nat) (ed : Nat) (nb : Nat) (ol : Nat) (v0 : Nat) (v1 : Nat) (v2 : Nat) (v3 : Nat) (v4 : Nat) (v9 : Nat) (v13 : Nat) (v27 : Nat) (v28 : Nat) (v29 : Nat) (v30 : Nat) (v31 : Nat) (v32 : Nat) (v33 : Nat) (v34 : Nat) (v35 : Nat) (v36 : Nat) (v37 : Nat) (g8 : Int32) (g11 : Int32) (g12 : Int32) (g14 : Int32) (g15 : Int32) (g16 : Int32) (g17 : Int32) (g18 : Int32) (g19 : Int32) (g20 : Int32) (g21 : Int32) (g22 : Int32) (g23 : Int32) (g24 : Int32) (g26 : Int32) (g5 : Int64) (g6 : Int64) (g25 : Int64) (cn : Nat) (pq : Nat) (en : Nat) (dy : Nat) (fs : Nat → Int32) (fh : Nat → Int32) (fl : Nat → Int64) (i : Int32) (j : Int32) (sz : Nat) (hcn : cn ≤ 10) (hpq : pq ≤ 8) (hen : en ≤ 60) (hdy : dy ≤ 20000) (hri : RI cn pq en dy fs) (hed : ed ≤ 10) (hHI : HI cn pq ed fh) (hd9 : dy ≤ 9999) : Met l yX10_setRate wsX10_setRate ({ frames := 1, cells := 0, slots := 0, locals := 25 }) (va_Pc [.ref w0, .int i, .int j] (Wd D cA sa [(oX10 w0 v0 v1 v2 v3 v4 g5 g6 (nI ed) g8 v9 (nI nb) g11 g12 v13 g14 g15 g16 g17 g18 g19 g20 g21 g22 g23 g24 g25 g26 v27 v28 v29 v30 v31 v32 v33 v34 v35 v36 v37 (nI ol)), (v0, .inl (cA 0, 326, .inl fs)), (v3, .inl (cA 0, 3260, .inl fh)), (v4, .inl (cA 1, 10, .inr (.inl fl)))] sz)) (va_Qi (fun (r : Int32) (_ : Unit) => True) (fun (_ : Unit) t => ∃ ed2 : Nat, ∃ e2 : Nat, ∃ z8 : Int32, ∃ z14 : Int32, ∃ z15 : Int32, ∃ z16 : Int32, ∃ z17 : Int32, ∃ z18 : Int32, ∃ z19 : Int32, ∃ z20 : Int32, ∃ z21 : Int32, ∃ z22 : Int32, ∃ z23 : Int32, ∃ z24 : Int32, ∃ z26 : Int32, ∃ z5 : Int64, ∃ z6 : Int64, ∃ z25 : Int64, ∃ zs : Nat → Int32, ∃ zh : Nat → Int32, ∃ zl : Nat → Int64, ed2 ≤ 10 ∧ HI cn pq ed2 zh ∧ e2 ≤ 60 ∧ RI cn pq e2 dy zs ∧ Wq D (va_A [(oX10 w0 v0 v1 v2 v3 v4 g5 g6 (nI ed) g8 v9 (nI nb) g11 g12 v13 g14 g15 g16 g17 g18 g19 g20 g21 g22 g23 g24 g25 g26 v27 v28 v29 v30 v31 v32 v33 v34 v35 v36 v37 (nI ol)), (v0, .inl (cA 0, 326, .inl fs)), (v3, .inl (cA 0, 3260, .inl fh)), (v4, .inl (cA 1, 10, .inr (.inl fl)))] sz) [(oX10 w0 v0 v1 v2 v3 v4 z5 z6 (nI ed2) z8 v9 (nI nb) g11 g12 v13 z14 z15 z16 z17 z18 z19 z20 z21 z22 z23 z24 z25 z26 v27 v28 v29 v30 v31 v32 v33 v34 v35 v36 v37 (nI ol)), (v0, .inl (cA 0, 326, .inl zs)), (v3, .inl (cA 0, 3260, .inl zh)), (v4, .inl (cA 1, 10, .inr (.inl zl)))] t) (va_A [(oX10 w0 v0 v1 v2 v3 v4 g5 g6 (nI ed) g8 v9 (nI nb) g11 g12 v13 g14 g15 g16 g17 g18 g19 g20 g21 g22 g23 g24 g25 g26 v27 v28 v29 v30 v31 v32 v33 v34 v35 v36 v37 (nI ol)), (v0, .inl (cA 0, 326, .inl fs)), (v3, .inl (cA 0, 3260, .inl fh)), (v4, .inl (cA 1, 10, .inr (.inl fl)))] sz)) 0 0 (va_A [(oX10 w0 v0 v1 v2 v3 v4 g5 g6 (nI ed) g8 v9 (nI nb) g11 g12 v13 g14 g15 g16 g17 g18 g19 g20 g21 g22 g23 g24 g25 g26 v27 v28 v29 v30 v31 v32 v33 v34 v35 v36 v37 (nI ol)), (v0, .inl (cA 0, 326, .inl fs)), (v3, .inl (cA 0, 3260, .inl fh)), (v4, .inl (cA 1, 10, .inr (.inl fl)))] sz) := by
  refine Met.ofW (cc := cX10_setRate) (maxL := 4) (ret := (some .int)) (by decide) rfl ?_
  intro p e s m args below meth c s₁ B hml hv
  obtain ⟨rfl, hsz, hP, hK, hD0, hC, hZ⟩ := hv
  have hx := B.exec
  have hb := B.bytes
  have hr := B.returns
  have hts := atoms_spec (ws := wsX10_setRate) B.pre
  have hown : s.vm.findClass RX10 = some m.cls := findClass_of_methodNamed B.named
  have hlocks := B.notSynchronized
  subst hsz
  have hD := hD0.self (sz := s.heap.size)
  generalize hAe : va_A [(oX10 w0 v0 v1 v2 v3 v4 g5 g6 (nI ed) g8 v9 (nI nb) g11 g12 v13 g14 g15 g16 g17 g18 g19 g20 g21 g22 g23 g24 g25 g26 v27 v28 v29 v30 v31 v32 v33 v34 v35 v36 v37 (nI ol)), (v0, .inl (cA 0, 326, .inl fs)), (v3, .inl (cA 0, 3260, .inl fh)), (v4, .inl (cA 1, 10, .inr (.inl fl)))] s.heap.size = A at hD hZ ⊢
  have hA : ∀ q : Nat, s.heap.size ≤ q → A q := fun q h => by rw [← hAe]; exact Or.inr h
  have hS : va_S A s.heap s.heap [] := va_S.rf
  have hP : va_P D vwCl [(oX10 w0 v0 v1 v2 v3 v4 g5 g6 (nI ed) g8 v9 (nI nb) g11 g12 v13 g14 g15 g16 g17 g18 g19 g20 g21 g22 g23 g24 g25 g26 v27 v28 v29 v30 v31 v32 v33 v34 v35 v36 v37 (nI ol)), (v0, .inl (cA 0, 326, .inl fs)), (v3, .inl (cA 0, 3260, .inl fh)), (v4, .inl (cA 1, 10, .inr (.inl fl)))] s.heap := hP
  have hl := lv_entry ([.ref w0, .int i, .int j]) (n := 4) (Nat.le_of_ble_eq_true rfl)
  rw [lg_entry_eq]
  generalize (lg_sl ([.ref w0, .int i, .int j]) ++ List.replicate (4 - (lg_sl ([.ref w0, .int i, .int j])).length) Slot.unset).toArray = ls at hl ⊢
  have hl : lv_has ls 4 [(0, .ref w0), (1, .int i), (2, .int j)] := hl
  have inX10 : ∀ w ∈ u_ws RX10 TX10 39, w ∈ wsX10_setRate := by decide +kernel
  refine lv_aload_n hx hb dX10_setRate_0 rfl (lv_at hl 0 rfl) ?_
  refine lv_iload_n hx hb dX10_setRate_1 rfl (lv_at hl 1 rfl) ?_
  refine lv_i2l (v := (i.toInt64)) hx hb dX10_setRate_2 rfl ?_
  refine lv_lconst (v := 0) hx hb dX10_setRate_3 (by decide) ?_
  refine lv_ldc2 (v := 3000) hx hb hown (hts (.constantLong RX10 408 3000) (by decide +kernel)) dX10_setRate_4 ?_
  obtain ⟨hPc, hDc, hFc⟩ := PDq.cut (wc := []) hP hD hS hA [] (by decide) rfl
  refine va_calli (va_runS (As := [.long (i.toInt64), .long 0, .long 3000]) (rest := [.ref w0]) ⟨hx, hb, hml, hown, hts⟩ (r_between l D cA sa (i.toInt64) 0 3000 s.heap.size) (va_cwS 3 hts gX10_setRate_X10_between rfl rfl rfl (by decide +kernel) ⟨(Nat.le_of_ble_eq_true rfl), (Nat.le_of_ble_eq_true rfl)⟩) ⟨Wd.blind, fun U hU hW => ⟨rfl, Wd.call hPc hDc hK hC hZ hS hFc U hU hW⟩⟩ rfl rfl hl.1 rfl (lv_room (Nat.le_of_ble_eq_true rfl)) dX10_setRate_7 ⟨(Nat.le_of_ble_eq_true rfl), (Nat.le_of_ble_eq_true rfl)⟩) hS (fun q _ h => hFc q h) hFc (fun rn1 u t H1 locs ht hvm hw hB hz1 hk1 hS => ?_)
  obtain ⟨hP1, hD1⟩ := hB
  rw [ht] at hP1
  obtain ⟨hP, hD⟩ := PDq.join (w := [(oX10 w0 v0 v1 v2 v3 v4 g5 g6 (nI ed) g8 v9 (nI nb) g11 g12 v13 g14 g15 g16 g17 g18 g19 g20 g21 g22 g23 g24 g25 g26 v27 v28 v29 v30 v31 v32 v33 v34 v35 v36 v37 (nI ol)), (v0, .inl (cA 0, 326, .inl fs)), (v3, .inl (cA 0, 3260, .inl fh)), (v4, .inl (cA 1, 10, .inr (.inl fl)))]) 4 hP hD [] [0, 1, 2, 3] rfl rfl (by decide) (by decide) hk1 hFc hP1 hD1 rfl
  generalize H1 = H at hP hS ⊢
  rcases hw with ⟨hr9, hn2⟩ | hr9
  · skip
    subst hr9
    refine lv_if_eq (tgt := 31) hx hb dX10_setRate_10 (by decide) (fun c9 => absurd c9 (by decide)) (fun c3 => ?_)
    refine lv_iload_n hx hb dX10_setRate_13 rfl (lv_at hl 2 rfl) ?_
    refine lv_sipush (v := 360) hx hb dX10_setRate_14 (by decide) ?_
    refine lv_icmp_eq (tgt := 27) hx hb dX10_setRate_17 (by decide) (fun c4 => ?_) (fun c4 => ?_)
    · skip
      rw [c4] at hl
      have hl : lv_has ls 4 [(0, .ref w0), (1, .int i), (2, .int 360)] := hl
      refine lv_iconst (v := 1) hx hb dX10_setRate_27 (by decide) ?_
      refine lv_goto (tgt := 32) hx hb dX10_setRate_28 (by decide) ?_
      obtain ⟨hPc, hDc, hFc⟩ := PDq.cut (wc := [(oX10 w0 v0 v1 v2 v3 v4 g5 g6 (nI ed) g8 v9 (nI nb) g11 g12 v13 g14 g15 g16 g17 g18 g19 g20 g21 g22 g23 g24 g25 g26 v27 v28 v29 v30 v31 v32 v33 v34 v35 v36 v37 (nI ol))]) hP hD hS hA [0] (by decide) rfl
      refine va_calli (va_runV (As := [.int 1]) (rest := []) ⟨hx, hb, hml, hown, hts⟩ (r_good1 l D cA sa w0 ed nb ol v0 v1 v2 v3 v4 v9 v13 v27 v28 v29 v30 v31 v32 v33 v34 v35 v36 v37 g8 g11 g12 g14 g15 g16 g17 g18 g19 g20 g21 g22 g23 g24 g26 g5 g6 g25 H.size) (cwV 1 hts gX10_setRate_X10_good rfl rfl rfl (by decide +kernel) ⟨(Nat.le_of_ble_eq_true rfl), (Nat.le_of_ble_eq_true rfl)⟩) ⟨Wd.blind, va_recv hK hPc (ci := 11) (q0 := 0) rfl rfl, fun U hU hW => ⟨rfl, Wd.call hPc hDc hK hC hZ hS hFc U hU hW⟩⟩ rfl rfl hl.1 rfl (lv_room (Nat.le_of_ble_eq_true rfl)) dX10_setRate_32 ⟨(Nat.le_of_ble_eq_true rfl), (Nat.le_of_ble_eq_true rfl)⟩) hS (fun q _ h => hFc q h) hFc (fun rn5 u t H1 locs ht hvm hw hB hz1 hk1 hS => ?_)
      obtain ⟨hP1, hD1⟩ := hB
      rw [ht] at hP1
      obtain ⟨hP, hD⟩ := PDq.join (w := [(v0, .inl (cA 0, 326, .inl fs)), (v3, .inl (cA 0, 3260, .inl fh)), (v4, .inl (cA 1, 10, .inr (.inl fl))), (oX10 w0 v0 v1 v2 v3 v4 g5 g6 (nI ed) 0 v9 (nI nb) g11 g12 v13 g14 g15 g16 g17 g18 g19 g20 g21 g22 g23 g24 g25 g26 v27 v28 v29 v30 v31 v32 v33 v34 v35 v36 v37 (nI ol))]) 3 hP hD [0] [1, 2, 3] rfl rfl (by decide) (by decide) hk1 hFc hP1 hD1 rfl
      generalize H1 = H at hP hS ⊢
      obtain rfl : rn5 = 1 := hw
      refine lv_if_ne (tgt := 40) hx hb dX10_setRate_35 (by decide) (fun c6 => ?_) (fun c9 => absurd c9 (by decide))
      refine lv_aload_n hx hb dX10_setRate_40 rfl (lv_at hl 0 rfl) ?_
      obtain ⟨hPc, hDc, hFc⟩ := PDq.cut (wc := [(oX10 w0 v0 v1 v2 v3 v4 g5 g6 (nI ed) 0 v9 (nI nb) g11 g12 v13 g14 g15 g16 g17 g18 g19 g20 g21 g22 g23 g24 g25 g26 v27 v28 v29 v30 v31 v32 v33 v34 v35 v36 v37 (nI ol)), (v0, .inl (cA 0, 326, .inl fs)), (v3, .inl (cA 0, 3260, .inl fh)), (v4, .inl (cA 1, 10, .inr (.inl fl)))]) hP hD hS hA [3, 0, 1, 2] (by decide) rfl
      refine va_callv (va_runV (As := []) (rest := []) ⟨hx, hb, hml, hown, hts⟩ (r_remember l D cA sa w0 ed nb ol v0 v1 v2 v3 v4 v9 v13 v27 v28 v29 v30 v31 v32 v33 v34 v35 v36 v37 0 g11 g12 g14 g15 g16 g17 g18 g19 g20 g21 g22 g23 g24 g26 g5 g6 g25 cn pq en dy fs fh fl H.size hcn hpq hen hdy hri hed hHI hd9) (cwV 0 hts gX10_setRate_X10_remember rfl rfl rfl (by decide +kernel) ⟨(Nat.le_of_ble_eq_true rfl), (Nat.le_of_ble_eq_true rfl)⟩) ⟨Wd.blind, va_recv hK hPc (ci := 11) (q0 := 0) rfl rfl, fun U hU hW => ⟨rfl, Wd.call hPc hDc hK hC hZ hS hFc U hU hW⟩⟩ rfl rfl hl.1 rfl (lv_room (Nat.le_of_ble_eq_true rfl)) dX10_setRate_41 ⟨(Nat.le_of_ble_eq_true rfl), (Nat.le_of_ble_eq_true rfl)⟩) hS (fun q _ h => hFc q h) hFc (fun u t H1 locs ht hvm hw hB hz1 hk1 hS => ?_)
      obtain ⟨qn7, fn8, fn9, hn10, hn11, hP1, hD1⟩ := hB
      rw [ht] at hP1
      obtain ⟨hP, hD⟩ := PDq.join (w := [(oX10 w0 v0 v1 v2 v3 v4 g5 g6 (nI qn7) 0 v9 (nI nb) g11 g12 v13 g14 g15 g16 g17 g18 g19 g20 g21 g22 g23 g24 g25 g26 v27 v28 v29 v30 v31 v32 v33 v34 v35 v36 v37 (nI ol)), (v0, .inl (cA 0, 326, .inl fs)), (v3, .inl (cA 0, 3260, .inl fn8)), (v4, .inl (cA 1, 10, .inr (.inl fn9)))]) 0 hP hD [3, 0, 1, 2] [] rfl rfl (by decide) (by decide) hk1 hFc hP1 hD1 rfl
      generalize H1 = H at hP hS ⊢
      refine lv_aload_n hx hb dX10_setRate_44 rfl (lv_at hl 0 rfl) ?_
      refine va_get (D := D) (ci := 11) (v := .ref v0) (C := RX10) (T := TX10) (N := 39) hx hb hts inX10 hown hK hP 0 rfl rfl 0 (by decide) (hts (.fieldLink RX10 7 "EscrowDeskModel" "s" "[I") (by decide +kernel)) (fun _ h9 => h9) rfl dX10_setRate_45 ?_
      refine lv_iconst (v := 0) hx hb dX10_setRate_48 (by decide) ?_
      refine va_iald hx hb hK hP 1 0 rfl rfl (vp_in_iff.mpr (by decide)) dX10_setRate_49 ?_
      refine lv_topi (fun yn12 eyn12 => ?_)
      refine lv_istore_n (lv' := [(3, .int yn12), (0, .ref w0), (1, .int i), (2, .int 360)]) hx hb dX10_setRate_50 rfl hl (by decide) rfl (fun ls hl => ?_)
      refine lv_aload_n hx hb dX10_setRate_51 rfl (lv_at hl 1 rfl) ?_
      refine va_get (D := D) (ci := 11) (v := .ref v0) (C := RX10) (T := TX10) (N := 39) hx hb hts inX10 hown hK hP 0 rfl rfl 0 (by decide) (hts (.fieldLink RX10 7 "EscrowDeskModel" "s" "[I") (by decide +kernel)) (fun _ h9 => h9) rfl dX10_setRate_52 ?_
      refine lv_iconst (v := 0) hx hb dX10_setRate_55 (by decide) ?_
      refine lv_iload_n hx hb dX10_setRate_56 rfl (lv_at hl 2 rfl) ?_
      refine va_iast hx hb hK hP hD hS 1 0 rfl rfl (vp_in_iff.mpr (by decide)) dX10_setRate_57 (fun H locs hP hD hS => ?_)
      obtain ⟨hP, hD⟩ : PDq D A [(oX10 w0 v0 v1 v2 v3 v4 g5 g6 (nI qn7) 0 v9 (nI nb) g11 g12 v13 g14 g15 g16 g17 g18 g19 g20 g21 g22 g23 g24 g25 g26 v27 v28 v29 v30 v31 v32 v33 v34 v35 v36 v37 (nI ol)), (v0, .inl (cA 0, 326, .inl (upd fs 0 i))), (v3, .inl (cA 0, 3260, .inl fn8)), (v4, .inl (cA 1, 10, .inr (.inl fn9)))] H := ⟨hP, hD⟩
      have hn14 : RI cn pq en dy (upd fs 0 i) := RI.put hri 0 i (by decide) (by decide) (by decide) (by decide) (by decide)
      generalize (upd fs 0 i) = fn13 at hP hD hn14
      obtain ⟨hP, hD⟩ : PDq D A [(oX10 w0 v0 v1 v2 v3 v4 g5 g6 (nI qn7) 0 v9 (nI nb) g11 g12 v13 g14 g15 g16 g17 g18 g19 g20 g21 g22 g23 g24 g25 g26 v27 v28 v29 v30 v31 v32 v33 v34 v35 v36 v37 (nI ol)), (v0, .inl (cA 0, 326, .inl fn13)), (v3, .inl (cA 0, 3260, .inl fn8)), (v4, .inl (cA 1, 10, .inr (.inl fn9)))] H := ⟨hP, hD⟩
      refine lv_aload_n hx hb dX10_setRate_58 rfl (lv_at hl 1 rfl) ?_
      refine va_get (D := D) (ci := 11) (v := .ref v0) (C := RX10) (T := TX10) (N := 39) hx hb hts inX10 hown hK hP 0 rfl rfl 0 (by decide) (hts (.fieldLink RX10 7 "EscrowDeskModel" "s" "[I") (by decide +kernel)) (fun _ h9 => h9) rfl dX10_setRate_59 ?_
      refine lv_iconst (v := 1) hx hb dX10_setRate_62 (by decide) ?_
      refine lv_iload_n hx hb dX10_setRate_63 rfl (lv_at hl 3 rfl) ?_
      refine va_iast hx hb hK hP hD hS 1 0 rfl rfl (vp_in_iff.mpr (by decide)) dX10_setRate_64 (fun H locs hP hD hS => ?_)
      obtain ⟨hP, hD⟩ : PDq D A [(oX10 w0 v0 v1 v2 v3 v4 g5 g6 (nI qn7) 0 v9 (nI nb) g11 g12 v13 g14 g15 g16 g17 g18 g19 g20 g21 g22 g23 g24 g25 g26 v27 v28 v29 v30 v31 v32 v33 v34 v35 v36 v37 (nI ol)), (v0, .inl (cA 0, 326, .inl (upd fn13 1 360))), (v3, .inl (cA 0, 3260, .inl fn8)), (v4, .inl (cA 1, 10, .inr (.inl fn9)))] H := ⟨hP, hD⟩
      have hn16 : RI cn pq en dy (upd fn13 1 360) := RI.bas hn14 360 (by omega) (by omega)
      generalize (upd fn13 1 360) = fn15 at hP hD hn16
      obtain ⟨hP, hD⟩ : PDq D A [(oX10 w0 v0 v1 v2 v3 v4 g5 g6 (nI qn7) 0 v9 (nI nb) g11 g12 v13 g14 g15 g16 g17 g18 g19 g20 g21 g22 g23 g24 g25 g26 v27 v28 v29 v30 v31 v32 v33 v34 v35 v36 v37 (nI ol)), (v0, .inl (cA 0, 326, .inl fn15)), (v3, .inl (cA 0, 3260, .inl fn8)), (v4, .inl (cA 1, 10, .inr (.inl fn9)))] H := ⟨hP, hD⟩
      refine lv_iload_n hx hb dX10_setRate_65 rfl (lv_at hl 0 rfl) ?_
      obtain ⟨hP9, hD9⟩ := PDq.sub (ws' := [(oX10 w0 v0 v1 v2 v3 v4 g5 g6 (nI qn7) 0 v9 (nI nb) g11 g12 v13 g14 g15 g16 g17 g18 g19 g20 g21 g22 g23 g24 g25 g26 v27 v28 v29 v30 v31 v32 v33 v34 v35 v36 v37 (nI ol)), (v0, .inl (cA 0, 326, .inl fn15)), (v3, .inl (cA 0, 3260, .inl fn8)), (v4, .inl (cA 1, 10, .inr (.inl fn9)))]) hP hD [0, 1, 2, 3] (by decide) rfl
      refine W.widen (k := 0) (n := 0) (Nat.le_of_ble_eq_true rfl) (Nat.le_of_ble_eq_true rfl) ?_
      exact (W.iret (v := yn12) hx hb hr (fun t ht hW => ⟨⟨yn12, (), rfl, trivial, qn7, en, 0, g14, g15, g16, g17, g18, g19, g20, g21, g22, g23, g24, g26, g5, g6, g25, fn15, fn8, fn9, hn10, hn11, hen, hn16, by rw [ht]; exact hP9, hD9⟩, hS.F ht⟩) hS.2.2 dX10_setRate_66)
    · skip
      refine lv_iload_n hx hb dX10_setRate_20 rfl (lv_at hl 2 rfl) ?_
      refine lv_sipush (v := 365) hx hb dX10_setRate_21 (by decide) ?_
      refine lv_icmp_ne (tgt := 31) hx hb dX10_setRate_24 (by decide) (fun c17 => ?_) (fun c17 => ?_)
      · skip
        refine lv_iconst (v := 0) hx hb dX10_setRate_31 (by decide) ?_
        obtain ⟨hPc, hDc, hFc⟩ := PDq.cut (wc := [(oX10 w0 v0 v1 v2 v3 v4 g5 g6 (nI ed) g8 v9 (nI nb) g11 g12 v13 g14 g15 g16 g17 g18 g19 g20 g21 g22 g23 g24 g25 g26 v27 v28 v29 v30 v31 v32 v33 v34 v35 v36 v37 (nI ol))]) hP hD hS hA [0] (by decide) rfl
        refine va_calli (va_runV (As := [.int 0]) (rest := []) ⟨hx, hb, hml, hown, hts⟩ (r_good0 l D cA sa w0 ed nb ol v0 v1 v2 v3 v4 v9 v13 v27 v28 v29 v30 v31 v32 v33 v34 v35 v36 v37 g8 g11 g12 g14 g15 g16 g17 g18 g19 g20 g21 g22 g23 g24 g26 g5 g6 g25 H.size) (cwV 1 hts gX10_setRate_X10_good rfl rfl rfl (by decide +kernel) ⟨(Nat.le_of_ble_eq_true rfl), (Nat.le_of_ble_eq_true rfl)⟩) ⟨Wd.blind, va_recv hK hPc (ci := 11) (q0 := 0) rfl rfl, fun U hU hW => ⟨rfl, Wd.call hPc hDc hK hC hZ hS hFc U hU hW⟩⟩ rfl rfl hl.1 rfl (lv_room (Nat.le_of_ble_eq_true rfl)) dX10_setRate_32 ⟨(Nat.le_of_ble_eq_true rfl), (Nat.le_of_ble_eq_true rfl)⟩) hS (fun q _ h => hFc q h) hFc (fun rn18 u t H1 locs ht hvm hw hB hz1 hk1 hS => ?_)
        obtain ⟨hP1, hD1⟩ := hB
        rw [ht] at hP1
        obtain ⟨hP, hD⟩ := PDq.join (w := [(v0, .inl (cA 0, 326, .inl fs)), (v3, .inl (cA 0, 3260, .inl fh)), (v4, .inl (cA 1, 10, .inr (.inl fl))), (oX10 w0 v0 v1 v2 v3 v4 g5 g6 (nI ed) 1 v9 (nI nb) g11 g12 v13 g14 g15 g16 g17 g18 g19 g20 g21 g22 g23 g24 g25 g26 v27 v28 v29 v30 v31 v32 v33 v34 v35 v36 v37 (nI ol))]) 3 hP hD [0] [1, 2, 3] rfl rfl (by decide) (by decide) hk1 hFc hP1 hD1 rfl
        generalize H1 = H at hP hS ⊢
        obtain rfl : rn18 = 0 := hw
        refine lv_if_ne (tgt := 40) hx hb dX10_setRate_35 (by decide) (fun c9 => absurd c9 (by decide)) (fun c19 => ?_)
        refine lv_iconst (v := 0) hx hb dX10_setRate_38 (by decide) ?_
        obtain ⟨hP9, hD9⟩ := PDq.sub (ws' := [(oX10 w0 v0 v1 v2 v3 v4 g5 g6 (nI ed) 1 v9 (nI nb) g11 g12 v13 g14 g15 g16 g17 g18 g19 g20 g21 g22 g23 g24 g25 g26 v27 v28 v29 v30 v31 v32 v33 v34 v35 v36 v37 (nI ol)), (v0, .inl (cA 0, 326, .inl fs)), (v3, .inl (cA 0, 3260, .inl fh)), (v4, .inl (cA 1, 10, .inr (.inl fl)))]) hP hD [3, 0, 1, 2] (by decide) rfl
        refine W.widen (k := 0) (n := 0) (Nat.le_of_ble_eq_true rfl) (Nat.le_of_ble_eq_true rfl) ?_
        exact (W.iret (v := 0) hx hb hr (fun t ht hW => ⟨⟨0, (), rfl, trivial, ed, en, 1, g14, g15, g16, g17, g18, g19, g20, g21, g22, g23, g24, g26, g5, g6, g25, fs, fh, fl, hed, hHI, hen, hri, by rw [ht]; exact hP9, hD9⟩, hS.F ht⟩) hS.2.2 dX10_setRate_39)
      · skip
        rw [c17] at hl
        have hl : lv_has ls 4 [(0, .ref w0), (1, .int i), (2, .int 365)] := hl
        refine lv_iconst (v := 1) hx hb dX10_setRate_27 (by decide) ?_
        refine lv_goto (tgt := 32) hx hb dX10_setRate_28 (by decide) ?_
        obtain ⟨hPc, hDc, hFc⟩ := PDq.cut (wc := [(oX10 w0 v0 v1 v2 v3 v4 g5 g6 (nI ed) g8 v9 (nI nb) g11 g12 v13 g14 g15 g16 g17 g18 g19 g20 g21 g22 g23 g24 g25 g26 v27 v28 v29 v30 v31 v32 v33 v34 v35 v36 v37 (nI ol))]) hP hD hS hA [0] (by decide) rfl
        refine va_calli (va_runV (As := [.int 1]) (rest := []) ⟨hx, hb, hml, hown, hts⟩ (r_good1 l D cA sa w0 ed nb ol v0 v1 v2 v3 v4 v9 v13 v27 v28 v29 v30 v31 v32 v33 v34 v35 v36 v37 g8 g11 g12 g14 g15 g16 g17 g18 g19 g20 g21 g22 g23 g24 g26 g5 g6 g25 H.size) (cwV 1 hts gX10_setRate_X10_good rfl rfl rfl (by decide +kernel) ⟨(Nat.le_of_ble_eq_true rfl), (Nat.le_of_ble_eq_true rfl)⟩) ⟨Wd.blind, va_recv hK hPc (ci := 11) (q0 := 0) rfl rfl, fun U hU hW => ⟨rfl, Wd.call hPc hDc hK hC hZ hS hFc U hU hW⟩⟩ rfl rfl hl.1 rfl (lv_room (Nat.le_of_ble_eq_true rfl)) dX10_setRate_32 ⟨(Nat.le_of_ble_eq_true rfl), (Nat.le_of_ble_eq_true rfl)⟩) hS (fun q _ h => hFc q h) hFc (fun rn20 u t H1 locs ht hvm hw hB hz1 hk1 hS => ?_)
        obtain ⟨hP1, hD1⟩ := hB
        rw [ht] at hP1
        obtain ⟨hP, hD⟩ := PDq.join (w := [(v0, .inl (cA 0, 326, .inl fs)), (v3, .inl (cA 0, 3260, .inl fh)), (v4, .inl (cA 1, 10, .inr (.inl fl))), (oX10 w0 v0 v1 v2 v3 v4 g5 g6 (nI ed) 0 v9 (nI nb) g11 g12 v13 g14 g15 g16 g17 g18 g19 g20 g21 g22 g23 g24 g25 g26 v27 v28 v29 v30 v31 v32 v33 v34 v35 v36 v37 (nI ol))]) 3 hP hD [0] [1, 2, 3] rfl rfl (by decide) (by decide) hk1 hFc hP1 hD1 rfl
        generalize H1 = H at hP hS ⊢
        obtain rfl : rn20 = 1 := hw
        refine lv_if_ne (tgt := 40) hx hb dX10_setRate_35 (by decide) (fun c21 => ?_) (fun c9 => absurd c9 (by decide))
        refine lv_aload_n hx hb dX10_setRate_40 rfl (lv_at hl 0 rfl) ?_
        obtain ⟨hPc, hDc, hFc⟩ := PDq.cut (wc := [(oX10 w0 v0 v1 v2 v3 v4 g5 g6 (nI ed) 0 v9 (nI nb) g11 g12 v13 g14 g15 g16 g17 g18 g19 g20 g21 g22 g23 g24 g25 g26 v27 v28 v29 v30 v31 v32 v33 v34 v35 v36 v37 (nI ol)), (v0, .inl (cA 0, 326, .inl fs)), (v3, .inl (cA 0, 3260, .inl fh)), (v4, .inl (cA 1, 10, .inr (.inl fl)))]) hP hD hS hA [3, 0, 1, 2] (by decide) rfl
        refine va_callv (va_runV (As := []) (rest := []) ⟨hx, hb, hml, hown, hts⟩ (r_remember l D cA sa w0 ed nb ol v0 v1 v2 v3 v4 v9 v13 v27 v28 v29 v30 v31 v32 v33 v34 v35 v36 v37 0 g11 g12 g14 g15 g16 g17 g18 g19 g20 g21 g22 g23 g24 g26 g5 g6 g25 cn pq en dy fs fh fl H.size hcn hpq hen hdy hri hed hHI hd9) (cwV 0 hts gX10_setRate_X10_remember rfl rfl rfl (by decide +kernel) ⟨(Nat.le_of_ble_eq_true rfl), (Nat.le_of_ble_eq_true rfl)⟩) ⟨Wd.blind, va_recv hK hPc (ci := 11) (q0 := 0) rfl rfl, fun U hU hW => ⟨rfl, Wd.call hPc hDc hK hC hZ hS hFc U hU hW⟩⟩ rfl rfl hl.1 rfl (lv_room (Nat.le_of_ble_eq_true rfl)) dX10_setRate_41 ⟨(Nat.le_of_ble_eq_true rfl), (Nat.le_of_ble_eq_true rfl)⟩) hS (fun q _ h => hFc q h) hFc (fun u t H1 locs ht hvm hw hB hz1 hk1 hS => ?_)
        obtain ⟨qn22, fn23, fn24, hn25, hn26, hP1, hD1⟩ := hB
        rw [ht] at hP1
        obtain ⟨hP, hD⟩ := PDq.join (w := [(oX10 w0 v0 v1 v2 v3 v4 g5 g6 (nI qn22) 0 v9 (nI nb) g11 g12 v13 g14 g15 g16 g17 g18 g19 g20 g21 g22 g23 g24 g25 g26 v27 v28 v29 v30 v31 v32 v33 v34 v35 v36 v37 (nI ol)), (v0, .inl (cA 0, 326, .inl fs)), (v3, .inl (cA 0, 3260, .inl fn23)), (v4, .inl (cA 1, 10, .inr (.inl fn24)))]) 0 hP hD [3, 0, 1, 2] [] rfl rfl (by decide) (by decide) hk1 hFc hP1 hD1 rfl
        generalize H1 = H at hP hS ⊢
        refine lv_aload_n hx hb dX10_setRate_44 rfl (lv_at hl 0 rfl) ?_
        refine va_get (D := D) (ci := 11) (v := .ref v0) (C := RX10) (T := TX10) (N := 39) hx hb hts inX10 hown hK hP 0 rfl rfl 0 (by decide) (hts (.fieldLink RX10 7 "EscrowDeskModel" "s" "[I") (by decide +kernel)) (fun _ h9 => h9) rfl dX10_setRate_45 ?_
        refine lv_iconst (v := 0) hx hb dX10_setRate_48 (by decide) ?_
        refine va_iald hx hb hK hP 1 0 rfl rfl (vp_in_iff.mpr (by decide)) dX10_setRate_49 ?_
        refine lv_topi (fun yn27 eyn27 => ?_)
        refine lv_istore_n (lv' := [(3, .int yn27), (0, .ref w0), (1, .int i), (2, .int 365)]) hx hb dX10_setRate_50 rfl hl (by decide) rfl (fun ls hl => ?_)
        refine lv_aload_n hx hb dX10_setRate_51 rfl (lv_at hl 1 rfl) ?_
        refine va_get (D := D) (ci := 11) (v := .ref v0) (C := RX10) (T := TX10) (N := 39) hx hb hts inX10 hown hK hP 0 rfl rfl 0 (by decide) (hts (.fieldLink RX10 7 "EscrowDeskModel" "s" "[I") (by decide +kernel)) (fun _ h9 => h9) rfl dX10_setRate_52 ?_
        refine lv_iconst (v := 0) hx hb dX10_setRate_55 (by decide) ?_
        refine lv_iload_n hx hb dX10_setRate_56 rfl (lv_at hl 2 rfl) ?_
        refine va_iast hx hb hK hP hD hS 1 0 rfl rfl (vp_in_iff.mpr (by decide)) dX10_setRate_57 (fun H locs hP hD hS => ?_)
        obtain ⟨hP, hD⟩ : PDq D A [(oX10 w0 v0 v1 v2 v3 v4 g5 g6 (nI qn22) 0 v9 (nI nb) g11 g12 v13 g14 g15 g16 g17 g18 g19 g20 g21 g22 g23 g24 g25 g26 v27 v28 v29 v30 v31 v32 v33 v34 v35 v36 v37 (nI ol)), (v0, .inl (cA 0, 326, .inl (upd fs 0 i))), (v3, .inl (cA 0, 3260, .inl fn23)), (v4, .inl (cA 1, 10, .inr (.inl fn24)))] H := ⟨hP, hD⟩
        have hn29 : RI cn pq en dy (upd fs 0 i) := RI.put hri 0 i (by decide) (by decide) (by decide) (by decide) (by decide)
        generalize (upd fs 0 i) = fn28 at hP hD hn29
        obtain ⟨hP, hD⟩ : PDq D A [(oX10 w0 v0 v1 v2 v3 v4 g5 g6 (nI qn22) 0 v9 (nI nb) g11 g12 v13 g14 g15 g16 g17 g18 g19 g20 g21 g22 g23 g24 g25 g26 v27 v28 v29 v30 v31 v32 v33 v34 v35 v36 v37 (nI ol)), (v0, .inl (cA 0, 326, .inl fn28)), (v3, .inl (cA 0, 3260, .inl fn23)), (v4, .inl (cA 1, 10, .inr (.inl fn24)))] H := ⟨hP, hD⟩
        refine lv_aload_n hx hb dX10_setRate_58 rfl (lv_at hl 1 rfl) ?_
        refine va_get (D := D) (ci := 11) (v := .ref v0) (C := RX10) (T := TX10) (N := 39) hx hb hts inX10 hown hK hP 0 rfl rfl 0 (by decide) (hts (.fieldLink RX10 7 "EscrowDeskModel" "s" "[I") (by decide +kernel)) (fun _ h9 => h9) rfl dX10_setRate_59 ?_
        refine lv_iconst (v := 1) hx hb dX10_setRate_62 (by decide) ?_
        refine lv_iload_n hx hb dX10_setRate_63 rfl (lv_at hl 3 rfl) ?_
        refine va_iast hx hb hK hP hD hS 1 0 rfl rfl (vp_in_iff.mpr (by decide)) dX10_setRate_64 (fun H locs hP hD hS => ?_)
        obtain ⟨hP, hD⟩ : PDq D A [(oX10 w0 v0 v1 v2 v3 v4 g5 g6 (nI qn22) 0 v9 (nI nb) g11 g12 v13 g14 g15 g16 g17 g18 g19 g20 g21 g22 g23 g24 g25 g26 v27 v28 v29 v30 v31 v32 v33 v34 v35 v36 v37 (nI ol)), (v0, .inl (cA 0, 326, .inl (upd fn28 1 365))), (v3, .inl (cA 0, 3260, .inl fn23)), (v4, .inl (cA 1, 10, .inr (.inl fn24)))] H := ⟨hP, hD⟩
        have hn31 : RI cn pq en dy (upd fn28 1 365) := RI.bas hn29 365 (by omega) (by omega)
        generalize (upd fn28 1 365) = fn30 at hP hD hn31
        obtain ⟨hP, hD⟩ : PDq D A [(oX10 w0 v0 v1 v2 v3 v4 g5 g6 (nI qn22) 0 v9 (nI nb) g11 g12 v13 g14 g15 g16 g17 g18 g19 g20 g21 g22 g23 g24 g25 g26 v27 v28 v29 v30 v31 v32 v33 v34 v35 v36 v37 (nI ol)), (v0, .inl (cA 0, 326, .inl fn30)), (v3, .inl (cA 0, 3260, .inl fn23)), (v4, .inl (cA 1, 10, .inr (.inl fn24)))] H := ⟨hP, hD⟩
        refine lv_iload_n hx hb dX10_setRate_65 rfl (lv_at hl 0 rfl) ?_
        obtain ⟨hP9, hD9⟩ := PDq.sub (ws' := [(oX10 w0 v0 v1 v2 v3 v4 g5 g6 (nI qn22) 0 v9 (nI nb) g11 g12 v13 g14 g15 g16 g17 g18 g19 g20 g21 g22 g23 g24 g25 g26 v27 v28 v29 v30 v31 v32 v33 v34 v35 v36 v37 (nI ol)), (v0, .inl (cA 0, 326, .inl fn30)), (v3, .inl (cA 0, 3260, .inl fn23)), (v4, .inl (cA 1, 10, .inr (.inl fn24)))]) hP hD [0, 1, 2, 3] (by decide) rfl
        refine W.widen (k := 0) (n := 0) (Nat.le_of_ble_eq_true rfl) (Nat.le_of_ble_eq_true rfl) ?_
        exact (W.iret (v := yn27) hx hb hr (fun t ht hW => ⟨⟨yn27, (), rfl, trivial, qn22, en, 0, g14, g15, g16, g17, g18, g19, g20, g21, g22, g23, g24, g26, g5, g6, g25, fn30, fn23, fn24, hn25, hn26, hen, hn31, by rw [ht]; exact hP9, hD9⟩, hS.F ht⟩) hS.2.2 dX10_setRate_66)
  · skip
    subst hr9
    refine lv_if_eq (tgt := 31) hx hb dX10_setRate_10 (by decide) (fun c32 => ?_) (fun c9 => absurd c9 (by decide))
    refine lv_iconst (v := 0) hx hb dX10_setRate_31 (by decide) ?_
    obtain ⟨hPc, hDc, hFc⟩ := PDq.cut (wc := [(oX10 w0 v0 v1 v2 v3 v4 g5 g6 (nI ed) g8 v9 (nI nb) g11 g12 v13 g14 g15 g16 g17 g18 g19 g20 g21 g22 g23 g24 g25 g26 v27 v28 v29 v30 v31 v32 v33 v34 v35 v36 v37 (nI ol))]) hP hD hS hA [0] (by decide) rfl
    refine va_calli (va_runV (As := [.int 0]) (rest := []) ⟨hx, hb, hml, hown, hts⟩ (r_good0 l D cA sa w0 ed nb ol v0 v1 v2 v3 v4 v9 v13 v27 v28 v29 v30 v31 v32 v33 v34 v35 v36 v37 g8 g11 g12 g14 g15 g16 g17 g18 g19 g20 g21 g22 g23 g24 g26 g5 g6 g25 H.size) (cwV 1 hts gX10_setRate_X10_good rfl rfl rfl (by decide +kernel) ⟨(Nat.le_of_ble_eq_true rfl), (Nat.le_of_ble_eq_true rfl)⟩) ⟨Wd.blind, va_recv hK hPc (ci := 11) (q0 := 0) rfl rfl, fun U hU hW => ⟨rfl, Wd.call hPc hDc hK hC hZ hS hFc U hU hW⟩⟩ rfl rfl hl.1 rfl (lv_room (Nat.le_of_ble_eq_true rfl)) dX10_setRate_32 ⟨(Nat.le_of_ble_eq_true rfl), (Nat.le_of_ble_eq_true rfl)⟩) hS (fun q _ h => hFc q h) hFc (fun rn33 u t H1 locs ht hvm hw hB hz1 hk1 hS => ?_)
    obtain ⟨hP1, hD1⟩ := hB
    rw [ht] at hP1
    obtain ⟨hP, hD⟩ := PDq.join (w := [(v0, .inl (cA 0, 326, .inl fs)), (v3, .inl (cA 0, 3260, .inl fh)), (v4, .inl (cA 1, 10, .inr (.inl fl))), (oX10 w0 v0 v1 v2 v3 v4 g5 g6 (nI ed) 1 v9 (nI nb) g11 g12 v13 g14 g15 g16 g17 g18 g19 g20 g21 g22 g23 g24 g25 g26 v27 v28 v29 v30 v31 v32 v33 v34 v35 v36 v37 (nI ol))]) 3 hP hD [0] [1, 2, 3] rfl rfl (by decide) (by decide) hk1 hFc hP1 hD1 rfl
    generalize H1 = H at hP hS ⊢
    obtain rfl : rn33 = 0 := hw
    refine lv_if_ne (tgt := 40) hx hb dX10_setRate_35 (by decide) (fun c9 => absurd c9 (by decide)) (fun c34 => ?_)
    refine lv_iconst (v := 0) hx hb dX10_setRate_38 (by decide) ?_
    obtain ⟨hP9, hD9⟩ := PDq.sub (ws' := [(oX10 w0 v0 v1 v2 v3 v4 g5 g6 (nI ed) 1 v9 (nI nb) g11 g12 v13 g14 g15 g16 g17 g18 g19 g20 g21 g22 g23 g24 g25 g26 v27 v28 v29 v30 v31 v32 v33 v34 v35 v36 v37 (nI ol)), (v0, .inl (cA 0, 326, .inl fs)), (v3, .inl (cA 0, 3260, .inl fh)), (v4, .inl (cA 1, 10, .inr (.inl fl)))]) hP hD [3, 0, 1, 2] (by decide) rfl
    refine W.widen (k := 0) (n := 0) (Nat.le_of_ble_eq_true rfl) (Nat.le_of_ble_eq_true rfl) ?_
    exact (W.iret (v := 0) hx hb hr (fun t ht hW => ⟨⟨0, (), rfl, trivial, ed, en, 1, g14, g15, g16, g17, g18, g19, g20, g21, g22, g23, g24, g26, g5, g6, g25, fs, fh, fl, hed, hHI, hen, hri, by rw [ht]; exact hP9, hD9⟩, hS.F ht⟩) hS.2.2 dX10_setRate_39)

set_option maxHeartbeats 4000000 in
set_option maxRecDepth 100000 in
/-- reference: submit -/
theorem r_submit (l : Launch) (D : va_G) (cA : Nat → ClassId) (sa : Nat → Nat) (w0 : Nat) (ed : Nat) (nb : Nat) (ol : Nat) (v0 : Nat) (v1 : Nat) (v2 : Nat) (v3 : Nat) (v4 : Nat) (v9 : Nat) (v13 : Nat) (v27 : Nat) (v28 : Nat) (v29 : Nat) (v30 : Nat) (v31 : Nat) (v32 : Nat) (v33 : Nat) (v34 : Nat) (v35 : Nat) (v36 : Nat) (v37 : Nat) (g8 : Int32) (g11 : Int32) (g12 : Int32) (g14 : Int32) (g15 : Int32) (g16 : Int32) (g17 : Int32) (g18 : Int32) (g19 : Int32) (g20 : Int32) (g21 : Int32) (g22 : Int32) (g23 : Int32) (g24 : Int32) (g26 : Int32) (g5 : Int64) (g6 : Int64) (g25 : Int64) (cn : Nat) (pq : Nat) (en : Nat) (dy : Nat) (fs : Nat → Int32) (fh : Nat → Int32) (fl : Nat → Int64) (i : Int32) (sz : Nat) (hcn : cn ≤ 10) (hpq : pq ≤ 8) (hen : en ≤ 60) (hdy : dy ≤ 20000) (hri : RI cn pq en dy fs) (hed : ed ≤ 10) (hHI : HI cn pq ed fh) (hd9 : dy ≤ 9999) : Met l yX10_submit wsX10_submit ({ frames := 2, cells := 0, slots := 0, locals := 46 }) (va_Pc [.ref w0, .int i] (Wd D cA sa [(oX10 w0 v0 v1 v2 v3 v4 g5 g6 (nI ed) g8 v9 (nI nb) g11 g12 v13 g14 g15 g16 g17 g18 g19 g20 g21 g22 g23 g24 g25 g26 v27 v28 v29 v30 v31 v32 v33 v34 v35 v36 v37 (nI ol)), (v0, .inl (cA 0, 326, .inl fs)), (v3, .inl (cA 0, 3260, .inl fh)), (v4, .inl (cA 1, 10, .inr (.inl fl)))] sz)) (va_Qi (fun (r : Int32) (_ : Unit) => r = 0 ∨ r = 1) (fun (_ : Unit) t => ∃ ed2 : Nat, ∃ e2 : Nat, ∃ z8 : Int32, ∃ z14 : Int32, ∃ z15 : Int32, ∃ z16 : Int32, ∃ z17 : Int32, ∃ z18 : Int32, ∃ z19 : Int32, ∃ z20 : Int32, ∃ z21 : Int32, ∃ z22 : Int32, ∃ z23 : Int32, ∃ z24 : Int32, ∃ z26 : Int32, ∃ z5 : Int64, ∃ z6 : Int64, ∃ z25 : Int64, ∃ zs : Nat → Int32, ∃ zh : Nat → Int32, ∃ zl : Nat → Int64, ed2 ≤ 10 ∧ HI cn pq ed2 zh ∧ e2 ≤ 60 ∧ RI cn pq e2 dy zs ∧ Wq D (va_A [(oX10 w0 v0 v1 v2 v3 v4 g5 g6 (nI ed) g8 v9 (nI nb) g11 g12 v13 g14 g15 g16 g17 g18 g19 g20 g21 g22 g23 g24 g25 g26 v27 v28 v29 v30 v31 v32 v33 v34 v35 v36 v37 (nI ol)), (v0, .inl (cA 0, 326, .inl fs)), (v3, .inl (cA 0, 3260, .inl fh)), (v4, .inl (cA 1, 10, .inr (.inl fl)))] sz) [(oX10 w0 v0 v1 v2 v3 v4 z5 z6 (nI ed2) z8 v9 (nI nb) g11 g12 v13 z14 z15 z16 z17 z18 z19 z20 z21 z22 z23 z24 z25 z26 v27 v28 v29 v30 v31 v32 v33 v34 v35 v36 v37 (nI ol)), (v0, .inl (cA 0, 326, .inl zs)), (v3, .inl (cA 0, 3260, .inl zh)), (v4, .inl (cA 1, 10, .inr (.inl zl)))] t) (va_A [(oX10 w0 v0 v1 v2 v3 v4 g5 g6 (nI ed) g8 v9 (nI nb) g11 g12 v13 g14 g15 g16 g17 g18 g19 g20 g21 g22 g23 g24 g25 g26 v27 v28 v29 v30 v31 v32 v33 v34 v35 v36 v37 (nI ol)), (v0, .inl (cA 0, 326, .inl fs)), (v3, .inl (cA 0, 3260, .inl fh)), (v4, .inl (cA 1, 10, .inr (.inl fl)))] sz)) 0 0 (va_A [(oX10 w0 v0 v1 v2 v3 v4 g5 g6 (nI ed) g8 v9 (nI nb) g11 g12 v13 g14 g15 g16 g17 g18 g19 g20 g21 g22 g23 g24 g25 g26 v27 v28 v29 v30 v31 v32 v33 v34 v35 v36 v37 (nI ol)), (v0, .inl (cA 0, 326, .inl fs)), (v3, .inl (cA 0, 3260, .inl fh)), (v4, .inl (cA 1, 10, .inr (.inl fl)))] sz) := by
  refine Met.ofW (cc := cX10_submit) (maxL := 3) (ret := (some .boolean)) (by decide) rfl ?_
  intro p e s m args below meth c s₁ B hml hv
  obtain ⟨rfl, hsz, hP, hK, hD0, hC, hZ⟩ := hv
  have hx := B.exec
  have hb := B.bytes
  have hr := B.returns
  have hts := atoms_spec (ws := wsX10_submit) B.pre
  have hown : s.vm.findClass RX10 = some m.cls := findClass_of_methodNamed B.named
  have hlocks := B.notSynchronized
  subst hsz
  have hD := hD0.self (sz := s.heap.size)
  generalize hAe : va_A [(oX10 w0 v0 v1 v2 v3 v4 g5 g6 (nI ed) g8 v9 (nI nb) g11 g12 v13 g14 g15 g16 g17 g18 g19 g20 g21 g22 g23 g24 g25 g26 v27 v28 v29 v30 v31 v32 v33 v34 v35 v36 v37 (nI ol)), (v0, .inl (cA 0, 326, .inl fs)), (v3, .inl (cA 0, 3260, .inl fh)), (v4, .inl (cA 1, 10, .inr (.inl fl)))] s.heap.size = A at hD hZ ⊢
  have hA : ∀ q : Nat, s.heap.size ≤ q → A q := fun q h => by rw [← hAe]; exact Or.inr h
  have hS : va_S A s.heap s.heap [] := va_S.rf
  have hP : va_P D vwCl [(oX10 w0 v0 v1 v2 v3 v4 g5 g6 (nI ed) g8 v9 (nI nb) g11 g12 v13 g14 g15 g16 g17 g18 g19 g20 g21 g22 g23 g24 g25 g26 v27 v28 v29 v30 v31 v32 v33 v34 v35 v36 v37 (nI ol)), (v0, .inl (cA 0, 326, .inl fs)), (v3, .inl (cA 0, 3260, .inl fh)), (v4, .inl (cA 1, 10, .inr (.inl fl)))] s.heap := hP
  have hl := lv_entry ([.ref w0, .int i]) (n := 3) (Nat.le_of_ble_eq_true rfl)
  rw [lg_entry_eq]
  generalize (lg_sl ([.ref w0, .int i]) ++ List.replicate (3 - (lg_sl ([.ref w0, .int i])).length) Slot.unset).toArray = ls at hl ⊢
  have hl : lv_has ls 3 [(0, .ref w0), (1, .int i)] := hl
  have inX10 : ∀ w ∈ u_ws RX10 TX10 39, w ∈ wsX10_submit := by decide +kernel
  refine lv_aload_n hx hb dX10_submit_0 rfl (lv_at hl 0 rfl) ?_
  refine lv_aload_n hx hb dX10_submit_1 rfl (lv_at hl 0 rfl) ?_
  refine lv_iload_n hx hb dX10_submit_2 rfl (lv_at hl 1 rfl) ?_
  obtain ⟨hPc, hDc, hFc⟩ := PDq.cut (wc := [(oX10 w0 v0 v1 v2 v3 v4 g5 g6 (nI ed) g8 v9 (nI nb) g11 g12 v13 g14 g15 g16 g17 g18 g19 g20 g21 g22 g23 g24 g25 g26 v27 v28 v29 v30 v31 v32 v33 v34 v35 v36 v37 (nI ol)), (v0, .inl (cA 0, 326, .inl fs))]) hP hD hS hA [0, 1] (by decide) rfl
  refine va_calli (va_runV (As := [.int i]) (rest := [.ref w0]) ⟨hx, hb, hml, hown, hts⟩ (r_isProof l D cA sa w0 ed nb ol v0 v1 v2 v3 v4 v9 v13 v27 v28 v29 v30 v31 v32 v33 v34 v35 v36 v37 g8 g11 g12 g14 g15 g16 g17 g18 g19 g20 g21 g22 g23 g24 g26 g5 g6 g25 cn pq en dy fs i s.heap.size hcn hpq hen hdy hri) (cwV 1 hts gX10_submit_X10_isProof rfl rfl rfl (by decide +kernel) ⟨(Nat.le_of_ble_eq_true rfl), (Nat.le_of_ble_eq_true rfl)⟩) ⟨Wd.blind, va_recv hK hPc (ci := 11) (q0 := 0) rfl rfl, fun U hU hW => ⟨rfl, Wd.call hPc hDc hK hC hZ hS hFc U hU hW⟩⟩ rfl rfl hl.1 rfl (lv_room (Nat.le_of_ble_eq_true rfl)) dX10_submit_3 ⟨(Nat.le_of_ble_eq_true rfl), (Nat.le_of_ble_eq_true rfl)⟩) hS (fun q _ h => hFc q h) hFc (fun rn1 u t H1 locs ht hvm hw hB hz1 hk1 hS => ?_)
  obtain ⟨hP1, hD1⟩ := hB
  rw [ht] at hP1
  obtain ⟨hP, hD⟩ := PDq.join (w := [(v3, .inl (cA 0, 3260, .inl fh)), (v4, .inl (cA 1, 10, .inr (.inl fl))), (oX10 w0 v0 v1 v2 v3 v4 g5 g6 (nI ed) g8 v9 (nI nb) g11 g12 v13 g14 g15 g16 g17 g18 g19 g20 g21 g22 g23 g24 g25 g26 v27 v28 v29 v30 v31 v32 v33 v34 v35 v36 v37 (nI ol)), (v0, .inl (cA 0, 326, .inl fs))]) 2 hP hD [0, 1] [2, 3] rfl rfl (by decide) (by decide) hk1 hFc hP1 hD1 rfl
  generalize H1 = H at hP hS ⊢
  rcases hw with ⟨hr9, hn2⟩ | hr9
  · skip
    subst hr9
    obtain ⟨kn3, hn4, hn5⟩ := hn2
    rw [hn5] at hl
    have hl : lv_has ls 3 [(0, .ref w0), (1, .int (nI kn3))] := hl
    obtain ⟨hPc, hDc, hFc⟩ := PDq.cut (wc := [(oX10 w0 v0 v1 v2 v3 v4 g5 g6 (nI ed) g8 v9 (nI nb) g11 g12 v13 g14 g15 g16 g17 g18 g19 g20 g21 g22 g23 g24 g25 g26 v27 v28 v29 v30 v31 v32 v33 v34 v35 v36 v37 (nI ol))]) hP hD hS hA [2] (by decide) rfl
    refine va_calli (va_runV (As := [.int 1]) (rest := []) ⟨hx, hb, hml, hown, hts⟩ (r_good1 l D cA sa w0 ed nb ol v0 v1 v2 v3 v4 v9 v13 v27 v28 v29 v30 v31 v32 v33 v34 v35 v36 v37 g8 g11 g12 g14 g15 g16 g17 g18 g19 g20 g21 g22 g23 g24 g26 g5 g6 g25 H.size) (cwV 1 hts gX10_submit_X10_good rfl rfl rfl (by decide +kernel) ⟨(Nat.le_of_ble_eq_true rfl), (Nat.le_of_ble_eq_true rfl)⟩) ⟨Wd.blind, va_recv hK hPc (ci := 11) (q0 := 0) rfl rfl, fun U hU hW => ⟨rfl, Wd.call hPc hDc hK hC hZ hS hFc U hU hW⟩⟩ rfl rfl hl.1 rfl (lv_room (Nat.le_of_ble_eq_true rfl)) dX10_submit_6 ⟨(Nat.le_of_ble_eq_true rfl), (Nat.le_of_ble_eq_true rfl)⟩) hS (fun q _ h => hFc q h) hFc (fun rn6 u t H1 locs ht hvm hw hB hz1 hk1 hS => ?_)
    obtain ⟨hP1, hD1⟩ := hB
    rw [ht] at hP1
    obtain ⟨hP, hD⟩ := PDq.join (w := [(v3, .inl (cA 0, 3260, .inl fh)), (v4, .inl (cA 1, 10, .inr (.inl fl))), (v0, .inl (cA 0, 326, .inl fs)), (oX10 w0 v0 v1 v2 v3 v4 g5 g6 (nI ed) 0 v9 (nI nb) g11 g12 v13 g14 g15 g16 g17 g18 g19 g20 g21 g22 g23 g24 g25 g26 v27 v28 v29 v30 v31 v32 v33 v34 v35 v36 v37 (nI ol))]) 3 hP hD [2] [0, 1, 3] rfl rfl (by decide) (by decide) hk1 hFc hP1 hD1 rfl
    generalize H1 = H at hP hS ⊢
    obtain rfl : rn6 = 1 := hw
    refine lv_if_ne (tgt := 14) hx hb dX10_submit_9 (by decide) (fun c7 => ?_) (fun c9 => absurd c9 (by decide))
    refine lv_aload_n hx hb dX10_submit_14 rfl (lv_at hl 0 rfl) ?_
    obtain ⟨hPc, hDc, hFc⟩ := PDq.cut (wc := [(oX10 w0 v0 v1 v2 v3 v4 g5 g6 (nI ed) 0 v9 (nI nb) g11 g12 v13 g14 g15 g16 g17 g18 g19 g20 g21 g22 g23 g24 g25 g26 v27 v28 v29 v30 v31 v32 v33 v34 v35 v36 v37 (nI ol)), (v0, .inl (cA 0, 326, .inl fs)), (v3, .inl (cA 0, 3260, .inl fh)), (v4, .inl (cA 1, 10, .inr (.inl fl)))]) hP hD hS hA [3, 2, 0, 1] (by decide) rfl
    refine va_callv (va_runV (As := []) (rest := []) ⟨hx, hb, hml, hown, hts⟩ (r_remember l D cA sa w0 ed nb ol v0 v1 v2 v3 v4 v9 v13 v27 v28 v29 v30 v31 v32 v33 v34 v35 v36 v37 0 g11 g12 g14 g15 g16 g17 g18 g19 g20 g21 g22 g23 g24 g26 g5 g6 g25 cn pq en dy fs fh fl H.size hcn hpq hen hdy hri hed hHI hd9) (cwV 0 hts gX10_submit_X10_remember rfl rfl rfl (by decide +kernel) ⟨(Nat.le_of_ble_eq_true rfl), (Nat.le_of_ble_eq_true rfl)⟩) ⟨Wd.blind, va_recv hK hPc (ci := 11) (q0 := 0) rfl rfl, fun U hU hW => ⟨rfl, Wd.call hPc hDc hK hC hZ hS hFc U hU hW⟩⟩ rfl rfl hl.1 rfl (lv_room (Nat.le_of_ble_eq_true rfl)) dX10_submit_15 ⟨(Nat.le_of_ble_eq_true rfl), (Nat.le_of_ble_eq_true rfl)⟩) hS (fun q _ h => hFc q h) hFc (fun u t H1 locs ht hvm hw hB hz1 hk1 hS => ?_)
    obtain ⟨qn8, fn9, fn10, hn11, hn12, hP1, hD1⟩ := hB
    rw [ht] at hP1
    obtain ⟨hP, hD⟩ := PDq.join (w := [(oX10 w0 v0 v1 v2 v3 v4 g5 g6 (nI qn8) 0 v9 (nI nb) g11 g12 v13 g14 g15 g16 g17 g18 g19 g20 g21 g22 g23 g24 g25 g26 v27 v28 v29 v30 v31 v32 v33 v34 v35 v36 v37 (nI ol)), (v0, .inl (cA 0, 326, .inl fs)), (v3, .inl (cA 0, 3260, .inl fn9)), (v4, .inl (cA 1, 10, .inr (.inl fn10)))]) 0 hP hD [3, 2, 0, 1] [] rfl rfl (by decide) (by decide) hk1 hFc hP1 hD1 rfl
    generalize H1 = H at hP hS ⊢
    refine lv_aload_n hx hb dX10_submit_18 rfl (lv_at hl 0 rfl) ?_
    refine va_get (D := D) (ci := 11) (v := .ref v0) (C := RX10) (T := TX10) (N := 39) hx hb hts inX10 hown hK hP 0 rfl rfl 0 (by decide) (hts (.fieldLink RX10 7 "EscrowDeskModel" "s" "[I") (by decide +kernel)) (fun _ h9 => h9) rfl dX10_submit_19 ?_
    refine lv_bipush (v := 12) hx hb dX10_submit_22 (by decide) ?_
    refine va_iald hx hb hK hP 1 0 rfl rfl (vp_in_iff.mpr (by decide)) dX10_submit_24 ?_
    refine lv_topi (fun yn13 eyn13 => ?_)
    refine lv_iload_n hx hb dX10_submit_25 rfl (lv_at hl 1 rfl) ?_
    refine lv_ishr hx hb dX10_submit_26 ?_
    refine lv_topi (fun yn14 eyn14 => ?_)
    refine lv_iconst (v := 1) hx hb dX10_submit_27 (by decide) ?_
    refine lv_iand hx hb dX10_submit_28 ?_
    refine lv_topi (fun yn15 eyn15 => ?_)
    refine lv_if_ne (tgt := 36) hx hb dX10_submit_29 (by decide) (fun c16 => ?_) (fun c16 => ?_)
    · skip
      refine lv_iconst (v := 0) hx hb dX10_submit_36 (by decide) ?_
      refine lv_istore_n (lv' := [(2, .int 0), (0, .ref w0), (1, .int (nI kn3))]) hx hb dX10_submit_37 rfl hl (by decide) rfl (fun ls hl => ?_)
      refine lv_aload_n hx hb dX10_submit_38 rfl (lv_at hl 1 rfl) ?_
      refine va_get (D := D) (ci := 11) (v := .ref v0) (C := RX10) (T := TX10) (N := 39) hx hb hts inX10 hown hK hP 0 rfl rfl 0 (by decide) (hts (.fieldLink RX10 7 "EscrowDeskModel" "s" "[I") (by decide +kernel)) (fun _ h9 => h9) rfl dX10_submit_39 ?_
      refine lv_bipush (v := 12) hx hb dX10_submit_42 (by decide) ?_
      refine lv_dup2_11 hx hb dX10_submit_44 rfl rfl ?_
      refine va_iald hx hb hK hP 1 0 rfl rfl (vp_in_iff.mpr (by decide)) dX10_submit_45 ?_
      refine lv_topi (fun yn17 eyn17 => ?_)
      refine lv_iconst (v := 1) hx hb dX10_submit_46 (by decide) ?_
      refine lv_iload_n hx hb dX10_submit_47 rfl (lv_at hl 2 rfl) ?_
      refine lv_ishl hx hb dX10_submit_48 ?_
      refine lv_topi (fun yn18 eyn18 => ?_)
      refine lv_ior hx hb dX10_submit_49 ?_
      refine lv_topi (fun yn19 eyn19 => ?_)
      refine va_iast hx hb hK hP hD hS 1 0 rfl rfl (vp_in_iff.mpr (by decide)) dX10_submit_50 (fun H locs hP hD hS => ?_)
      obtain ⟨hP, hD⟩ : PDq D A [(oX10 w0 v0 v1 v2 v3 v4 g5 g6 (nI qn8) 0 v9 (nI nb) g11 g12 v13 g14 g15 g16 g17 g18 g19 g20 g21 g22 g23 g24 g25 g26 v27 v28 v29 v30 v31 v32 v33 v34 v35 v36 v37 (nI ol)), (v0, .inl (cA 0, 326, .inl (upd fs 12 yn19))), (v3, .inl (cA 0, 3260, .inl fn9)), (v4, .inl (cA 1, 10, .inr (.inl fn10)))] H := ⟨hP, hD⟩
      have hn21 : RI cn pq en dy (upd fs 12 yn19) := RI.put hri 12 yn19 (by decide) (by decide) (by decide) (by decide) (by decide)
      generalize (upd fs 12 yn19) = fn20 at hP hD hn21
      obtain ⟨hP, hD⟩ : PDq D A [(oX10 w0 v0 v1 v2 v3 v4 g5 g6 (nI qn8) 0 v9 (nI nb) g11 g12 v13 g14 g15 g16 g17 g18 g19 g20 g21 g22 g23 g24 g25 g26 v27 v28 v29 v30 v31 v32 v33 v34 v35 v36 v37 (nI ol)), (v0, .inl (cA 0, 326, .inl fn20)), (v3, .inl (cA 0, 3260, .inl fn9)), (v4, .inl (cA 1, 10, .inr (.inl fn10)))] H := ⟨hP, hD⟩
      refine lv_iload_n hx hb dX10_submit_51 rfl (lv_at hl 0 rfl) ?_
      obtain ⟨hP9, hD9⟩ := PDq.sub (ws' := [(oX10 w0 v0 v1 v2 v3 v4 g5 g6 (nI qn8) 0 v9 (nI nb) g11 g12 v13 g14 g15 g16 g17 g18 g19 g20 g21 g22 g23 g24 g25 g26 v27 v28 v29 v30 v31 v32 v33 v34 v35 v36 v37 (nI ol)), (v0, .inl (cA 0, 326, .inl fn20)), (v3, .inl (cA 0, 3260, .inl fn9)), (v4, .inl (cA 1, 10, .inr (.inl fn10)))]) hP hD [0, 1, 2, 3] (by decide) rfl
      refine W.widen (k := 0) (n := 0) (Nat.le_of_ble_eq_true rfl) (Nat.le_of_ble_eq_true rfl) ?_
      exact (W.zret (v := 0) hx hb hr (by first | rfl | decide) (fun t ht hW => ⟨⟨0, (), rfl, (by first | exact Or.inl rfl | exact Or.inr rfl), qn8, en, 0, g14, g15, g16, g17, g18, g19, g20, g21, g22, g23, g24, g26, g5, g6, g25, fn20, fn9, fn10, hn11, hn12, hen, hn21, by rw [ht]; exact hP9, hD9⟩, hS.F ht⟩) hS.2.2 dX10_submit_52)
    · skip
      refine lv_iconst (v := 1) hx hb dX10_submit_32 (by decide) ?_
      refine lv_goto (tgt := 37) hx hb dX10_submit_33 (by decide) ?_
      refine lv_istore_n (lv' := [(2, .int 1), (0, .ref w0), (1, .int (nI kn3))]) hx hb dX10_submit_37 rfl hl (by decide) rfl (fun ls hl => ?_)
      refine lv_aload_n hx hb dX10_submit_38 rfl (lv_at hl 1 rfl) ?_
      refine va_get (D := D) (ci := 11) (v := .ref v0) (C := RX10) (T := TX10) (N := 39) hx hb hts inX10 hown hK hP 0 rfl rfl 0 (by decide) (hts (.fieldLink RX10 7 "EscrowDeskModel" "s" "[I") (by decide +kernel)) (fun _ h9 => h9) rfl dX10_submit_39 ?_
      refine lv_bipush (v := 12) hx hb dX10_submit_42 (by decide) ?_
      refine lv_dup2_11 hx hb dX10_submit_44 rfl rfl ?_
      refine va_iald hx hb hK hP 1 0 rfl rfl (vp_in_iff.mpr (by decide)) dX10_submit_45 ?_
      refine lv_topi (fun yn22 eyn22 => ?_)
      refine lv_iconst (v := 1) hx hb dX10_submit_46 (by decide) ?_
      refine lv_iload_n hx hb dX10_submit_47 rfl (lv_at hl 2 rfl) ?_
      refine lv_ishl hx hb dX10_submit_48 ?_
      refine lv_topi (fun yn23 eyn23 => ?_)
      refine lv_ior hx hb dX10_submit_49 ?_
      refine lv_topi (fun yn24 eyn24 => ?_)
      refine va_iast hx hb hK hP hD hS 1 0 rfl rfl (vp_in_iff.mpr (by decide)) dX10_submit_50 (fun H locs hP hD hS => ?_)
      obtain ⟨hP, hD⟩ : PDq D A [(oX10 w0 v0 v1 v2 v3 v4 g5 g6 (nI qn8) 0 v9 (nI nb) g11 g12 v13 g14 g15 g16 g17 g18 g19 g20 g21 g22 g23 g24 g25 g26 v27 v28 v29 v30 v31 v32 v33 v34 v35 v36 v37 (nI ol)), (v0, .inl (cA 0, 326, .inl (upd fs 12 yn24))), (v3, .inl (cA 0, 3260, .inl fn9)), (v4, .inl (cA 1, 10, .inr (.inl fn10)))] H := ⟨hP, hD⟩
      have hn26 : RI cn pq en dy (upd fs 12 yn24) := RI.put hri 12 yn24 (by decide) (by decide) (by decide) (by decide) (by decide)
      generalize (upd fs 12 yn24) = fn25 at hP hD hn26
      obtain ⟨hP, hD⟩ : PDq D A [(oX10 w0 v0 v1 v2 v3 v4 g5 g6 (nI qn8) 0 v9 (nI nb) g11 g12 v13 g14 g15 g16 g17 g18 g19 g20 g21 g22 g23 g24 g25 g26 v27 v28 v29 v30 v31 v32 v33 v34 v35 v36 v37 (nI ol)), (v0, .inl (cA 0, 326, .inl fn25)), (v3, .inl (cA 0, 3260, .inl fn9)), (v4, .inl (cA 1, 10, .inr (.inl fn10)))] H := ⟨hP, hD⟩
      refine lv_iload_n hx hb dX10_submit_51 rfl (lv_at hl 0 rfl) ?_
      obtain ⟨hP9, hD9⟩ := PDq.sub (ws' := [(oX10 w0 v0 v1 v2 v3 v4 g5 g6 (nI qn8) 0 v9 (nI nb) g11 g12 v13 g14 g15 g16 g17 g18 g19 g20 g21 g22 g23 g24 g25 g26 v27 v28 v29 v30 v31 v32 v33 v34 v35 v36 v37 (nI ol)), (v0, .inl (cA 0, 326, .inl fn25)), (v3, .inl (cA 0, 3260, .inl fn9)), (v4, .inl (cA 1, 10, .inr (.inl fn10)))]) hP hD [0, 1, 2, 3] (by decide) rfl
      refine W.widen (k := 0) (n := 0) (Nat.le_of_ble_eq_true rfl) (Nat.le_of_ble_eq_true rfl) ?_
      exact (W.zret (v := 1) hx hb hr (by first | rfl | decide) (fun t ht hW => ⟨⟨1, (), rfl, (by first | exact Or.inl rfl | exact Or.inr rfl), qn8, en, 0, g14, g15, g16, g17, g18, g19, g20, g21, g22, g23, g24, g26, g5, g6, g25, fn25, fn9, fn10, hn11, hn12, hen, hn26, by rw [ht]; exact hP9, hD9⟩, hS.F ht⟩) hS.2.2 dX10_submit_52)
  · skip
    subst hr9
    obtain ⟨hPc, hDc, hFc⟩ := PDq.cut (wc := [(oX10 w0 v0 v1 v2 v3 v4 g5 g6 (nI ed) g8 v9 (nI nb) g11 g12 v13 g14 g15 g16 g17 g18 g19 g20 g21 g22 g23 g24 g25 g26 v27 v28 v29 v30 v31 v32 v33 v34 v35 v36 v37 (nI ol))]) hP hD hS hA [2] (by decide) rfl
    refine va_calli (va_runV (As := [.int 0]) (rest := []) ⟨hx, hb, hml, hown, hts⟩ (r_good0 l D cA sa w0 ed nb ol v0 v1 v2 v3 v4 v9 v13 v27 v28 v29 v30 v31 v32 v33 v34 v35 v36 v37 g8 g11 g12 g14 g15 g16 g17 g18 g19 g20 g21 g22 g23 g24 g26 g5 g6 g25 H.size) (cwV 1 hts gX10_submit_X10_good rfl rfl rfl (by decide +kernel) ⟨(Nat.le_of_ble_eq_true rfl), (Nat.le_of_ble_eq_true rfl)⟩) ⟨Wd.blind, va_recv hK hPc (ci := 11) (q0 := 0) rfl rfl, fun U hU hW => ⟨rfl, Wd.call hPc hDc hK hC hZ hS hFc U hU hW⟩⟩ rfl rfl hl.1 rfl (lv_room (Nat.le_of_ble_eq_true rfl)) dX10_submit_6 ⟨(Nat.le_of_ble_eq_true rfl), (Nat.le_of_ble_eq_true rfl)⟩) hS (fun q _ h => hFc q h) hFc (fun rn27 u t H1 locs ht hvm hw hB hz1 hk1 hS => ?_)
    obtain ⟨hP1, hD1⟩ := hB
    rw [ht] at hP1
    obtain ⟨hP, hD⟩ := PDq.join (w := [(v3, .inl (cA 0, 3260, .inl fh)), (v4, .inl (cA 1, 10, .inr (.inl fl))), (v0, .inl (cA 0, 326, .inl fs)), (oX10 w0 v0 v1 v2 v3 v4 g5 g6 (nI ed) 1 v9 (nI nb) g11 g12 v13 g14 g15 g16 g17 g18 g19 g20 g21 g22 g23 g24 g25 g26 v27 v28 v29 v30 v31 v32 v33 v34 v35 v36 v37 (nI ol))]) 3 hP hD [2] [0, 1, 3] rfl rfl (by decide) (by decide) hk1 hFc hP1 hD1 rfl
    generalize H1 = H at hP hS ⊢
    obtain rfl : rn27 = 0 := hw
    refine lv_if_ne (tgt := 14) hx hb dX10_submit_9 (by decide) (fun c9 => absurd c9 (by decide)) (fun c28 => ?_)
    refine lv_iconst (v := 0) hx hb dX10_submit_12 (by decide) ?_
    obtain ⟨hP9, hD9⟩ := PDq.sub (ws' := [(oX10 w0 v0 v1 v2 v3 v4 g5 g6 (nI ed) 1 v9 (nI nb) g11 g12 v13 g14 g15 g16 g17 g18 g19 g20 g21 g22 g23 g24 g25 g26 v27 v28 v29 v30 v31 v32 v33 v34 v35 v36 v37 (nI ol)), (v0, .inl (cA 0, 326, .inl fs)), (v3, .inl (cA 0, 3260, .inl fh)), (v4, .inl (cA 1, 10, .inr (.inl fl)))]) hP hD [3, 2, 0, 1] (by decide) rfl
    refine W.widen (k := 0) (n := 0) (Nat.le_of_ble_eq_true rfl) (Nat.le_of_ble_eq_true rfl) ?_
    exact (W.zret (v := 0) hx hb hr (by first | rfl | decide) (fun t ht hW => ⟨⟨0, (), rfl, (by first | exact Or.inl rfl | exact Or.inr rfl), ed, en, 1, g14, g15, g16, g17, g18, g19, g20, g21, g22, g23, g24, g26, g5, g6, g25, fs, fh, fl, hed, hHI, hen, hri, by rw [ht]; exact hP9, hD9⟩, hS.F ht⟩) hS.2.2 dX10_submit_13)

set_option maxHeartbeats 4000000 in
set_option maxRecDepth 100000 in
/-- reference: close -/
theorem r_close (l : Launch) (D : va_G) (cA : Nat → ClassId) (sa : Nat → Nat) (w0 : Nat) (ed : Nat) (nb : Nat) (ol : Nat) (v0 : Nat) (v1 : Nat) (v2 : Nat) (v3 : Nat) (v4 : Nat) (v9 : Nat) (v13 : Nat) (v27 : Nat) (v28 : Nat) (v29 : Nat) (v30 : Nat) (v31 : Nat) (v32 : Nat) (v33 : Nat) (v34 : Nat) (v35 : Nat) (v36 : Nat) (v37 : Nat) (g8 : Int32) (g11 : Int32) (g12 : Int32) (g14 : Int32) (g15 : Int32) (g16 : Int32) (g17 : Int32) (g18 : Int32) (g19 : Int32) (g20 : Int32) (g21 : Int32) (g22 : Int32) (g23 : Int32) (g24 : Int32) (g26 : Int32) (g5 : Int64) (g6 : Int64) (g25 : Int64) (cn : Nat) (pq : Nat) (en : Nat) (dy : Nat) (fs : Nat → Int32) (fh : Nat → Int32) (fl : Nat → Int64) (sz : Nat) (hcn : cn ≤ 10) (hpq : pq ≤ 8) (hen : en ≤ 60) (hdy : dy ≤ 20000) (hri : RI cn pq en dy fs) (hed : ed ≤ 10) (hHI : HI cn pq ed fh) (hd9 : dy ≤ 9999) : Met l yX10_close wsX10_close ({ frames := 3, cells := 0, slots := 0, locals := 65 }) (va_Pc [.ref w0] (Wd D cA sa [(oX10 w0 v0 v1 v2 v3 v4 g5 g6 (nI ed) g8 v9 (nI nb) g11 g12 v13 g14 g15 g16 g17 g18 g19 g20 g21 g22 g23 g24 g25 g26 v27 v28 v29 v30 v31 v32 v33 v34 v35 v36 v37 (nI ol)), (v0, .inl (cA 0, 326, .inl fs)), (v3, .inl (cA 0, 3260, .inl fh)), (v4, .inl (cA 1, 10, .inr (.inl fl)))] sz)) (va_Qi (fun (r : Int32) (_ : Unit) => True) (fun (_ : Unit) t => ∃ ed2 : Nat, ∃ e2 : Nat, ∃ z8 : Int32, ∃ z14 : Int32, ∃ z15 : Int32, ∃ z16 : Int32, ∃ z17 : Int32, ∃ z18 : Int32, ∃ z19 : Int32, ∃ z20 : Int32, ∃ z21 : Int32, ∃ z22 : Int32, ∃ z23 : Int32, ∃ z24 : Int32, ∃ z26 : Int32, ∃ z5 : Int64, ∃ z6 : Int64, ∃ z25 : Int64, ∃ zs : Nat → Int32, ∃ zh : Nat → Int32, ∃ zl : Nat → Int64, ed2 ≤ 10 ∧ HI cn pq ed2 zh ∧ e2 ≤ 60 ∧ RI cn pq e2 dy zs ∧ Wq D (va_A [(oX10 w0 v0 v1 v2 v3 v4 g5 g6 (nI ed) g8 v9 (nI nb) g11 g12 v13 g14 g15 g16 g17 g18 g19 g20 g21 g22 g23 g24 g25 g26 v27 v28 v29 v30 v31 v32 v33 v34 v35 v36 v37 (nI ol)), (v0, .inl (cA 0, 326, .inl fs)), (v3, .inl (cA 0, 3260, .inl fh)), (v4, .inl (cA 1, 10, .inr (.inl fl)))] sz) [(oX10 w0 v0 v1 v2 v3 v4 z5 z6 (nI ed2) z8 v9 (nI nb) g11 g12 v13 z14 z15 z16 z17 z18 z19 z20 z21 z22 z23 z24 z25 z26 v27 v28 v29 v30 v31 v32 v33 v34 v35 v36 v37 (nI ol)), (v0, .inl (cA 0, 326, .inl zs)), (v3, .inl (cA 0, 3260, .inl zh)), (v4, .inl (cA 1, 10, .inr (.inl zl)))] t) (va_A [(oX10 w0 v0 v1 v2 v3 v4 g5 g6 (nI ed) g8 v9 (nI nb) g11 g12 v13 g14 g15 g16 g17 g18 g19 g20 g21 g22 g23 g24 g25 g26 v27 v28 v29 v30 v31 v32 v33 v34 v35 v36 v37 (nI ol)), (v0, .inl (cA 0, 326, .inl fs)), (v3, .inl (cA 0, 3260, .inl fh)), (v4, .inl (cA 1, 10, .inr (.inl fl)))] sz)) 0 0 (va_A [(oX10 w0 v0 v1 v2 v3 v4 g5 g6 (nI ed) g8 v9 (nI nb) g11 g12 v13 g14 g15 g16 g17 g18 g19 g20 g21 g22 g23 g24 g25 g26 v27 v28 v29 v30 v31 v32 v33 v34 v35 v36 v37 (nI ol)), (v0, .inl (cA 0, 326, .inl fs)), (v3, .inl (cA 0, 3260, .inl fh)), (v4, .inl (cA 1, 10, .inr (.inl fl)))] sz) := by
  refine Met.ofW (cc := cX10_close) (maxL := 2) (ret := (some .int)) (by decide) rfl ?_
  intro p e s m args below meth c s₁ B hml hv
  obtain ⟨rfl, hsz, hP, hK, hD0, hC, hZ⟩ := hv
  have hx := B.exec
  have hb := B.bytes
  have hr := B.returns
  have hts := atoms_spec (ws := wsX10_close) B.pre
  have hown : s.vm.findClass RX10 = some m.cls := findClass_of_methodNamed B.named
  have hlocks := B.notSynchronized
  subst hsz
  have hD := hD0.self (sz := s.heap.size)
  generalize hAe : va_A [(oX10 w0 v0 v1 v2 v3 v4 g5 g6 (nI ed) g8 v9 (nI nb) g11 g12 v13 g14 g15 g16 g17 g18 g19 g20 g21 g22 g23 g24 g25 g26 v27 v28 v29 v30 v31 v32 v33 v34 v35 v36 v37 (nI ol)), (v0, .inl (cA 0, 326, .inl fs)), (v3, .inl (cA 0, 3260, .inl fh)), (v4, .inl (cA 1, 10, .inr (.inl fl)))] s.heap.size = A at hD hZ ⊢
  have hA : ∀ q : Nat, s.heap.size ≤ q → A q := fun q h => by rw [← hAe]; exact Or.inr h
  have hS : va_S A s.heap s.heap [] := va_S.rf
  have hP : va_P D vwCl [(oX10 w0 v0 v1 v2 v3 v4 g5 g6 (nI ed) g8 v9 (nI nb) g11 g12 v13 g14 g15 g16 g17 g18 g19 g20 g21 g22 g23 g24 g25 g26 v27 v28 v29 v30 v31 v32 v33 v34 v35 v36 v37 (nI ol)), (v0, .inl (cA 0, 326, .inl fs)), (v3, .inl (cA 0, 3260, .inl fh)), (v4, .inl (cA 1, 10, .inr (.inl fl)))] s.heap := hP
  have hl := lv_entry ([.ref w0]) (n := 2) (Nat.le_of_ble_eq_true rfl)
  rw [lg_entry_eq]
  generalize (lg_sl ([.ref w0]) ++ List.replicate (2 - (lg_sl ([.ref w0])).length) Slot.unset).toArray = ls at hl ⊢
  have hl : lv_has ls 2 [(0, .ref w0)] := hl
  have inX10 : ∀ w ∈ u_ws RX10 TX10 39, w ∈ wsX10_close := by decide +kernel
  refine lv_aload_n hx hb dX10_close_0 rfl (lv_at hl 0 rfl) ?_
  refine lv_aload_n hx hb dX10_close_1 rfl (lv_at hl 0 rfl) ?_
  obtain ⟨hPc, hDc, hFc⟩ := PDq.cut (wc := [(oX10 w0 v0 v1 v2 v3 v4 g5 g6 (nI ed) g8 v9 (nI nb) g11 g12 v13 g14 g15 g16 g17 g18 g19 g20 g21 g22 g23 g24 g25 g26 v27 v28 v29 v30 v31 v32 v33 v34 v35 v36 v37 (nI ol)), (v0, .inl (cA 0, 326, .inl fs))]) hP hD hS hA [0, 1] (by decide) rfl
  refine va_calli (va_runV (As := []) (rest := [.ref w0]) ⟨hx, hb, hml, hown, hts⟩ (r_areAllClosed l D cA sa w0 ed nb ol v0 v1 v2 v3 v4 v9 v13 v27 v28 v29 v30 v31 v32 v33 v34 v35 v36 v37 g8 g11 g12 g14 g15 g16 g17 g18 g19 g20 g21 g22 g23 g24 g26 g5 g6 g25 cn pq en dy fs s.heap.size hcn hpq hen hdy hri) (cwV 0 hts gX10_close_X10_areAllClosed rfl rfl rfl (by decide +kernel) ⟨(Nat.le_of_ble_eq_true rfl), (Nat.le_of_ble_eq_true rfl)⟩) ⟨Wd.blind, va_recv hK hPc (ci := 11) (q0 := 0) rfl rfl, fun U hU hW => ⟨rfl, Wd.call hPc hDc hK hC hZ hS hFc U hU hW⟩⟩ rfl rfl hl.1 rfl (lv_room (Nat.le_of_ble_eq_true rfl)) dX10_close_2 ⟨(Nat.le_of_ble_eq_true rfl), (Nat.le_of_ble_eq_true rfl)⟩) hS (fun q _ h => hFc q h) hFc (fun rn1 u t H1 locs ht hvm hw hB hz1 hk1 hS => ?_)
  obtain ⟨hP1, hD1⟩ := hB
  rw [ht] at hP1
  obtain ⟨hP, hD⟩ := PDq.join (w := [(v3, .inl (cA 0, 3260, .inl fh)), (v4, .inl (cA 1, 10, .inr (.inl fl))), (oX10 w0 v0 v1 v2 v3 v4 g5 g6 (nI ed) g8 v9 (nI nb) g11 g12 v13 g14 g15 g16 g17 g18 g19 g20 g21 g22 g23 g24 g25 g26 v27 v28 v29 v30 v31 v32 v33 v34 v35 v36 v37 (nI ol)), (v0, .inl (cA 0, 326, .inl fs))]) 2 hP hD [0, 1] [2, 3] rfl rfl (by decide) (by decide) hk1 hFc hP1 hD1 rfl
  generalize H1 = H at hP hS ⊢
  have hn2 := hw
  obtain ⟨hPc, hDc, hFc⟩ := PDq.cut (wc := [(oX10 w0 v0 v1 v2 v3 v4 g5 g6 (nI ed) g8 v9 (nI nb) g11 g12 v13 g14 g15 g16 g17 g18 g19 g20 g21 g22 g23 g24 g25 g26 v27 v28 v29 v30 v31 v32 v33 v34 v35 v36 v37 (nI ol))]) hP hD hS hA [2] (by decide) rfl
  refine va_calli (va_runV (As := [.int rn1]) (rest := []) ⟨hx, hb, hml, hown, hts⟩ (r_good l D cA sa w0 ed nb ol v0 v1 v2 v3 v4 v9 v13 v27 v28 v29 v30 v31 v32 v33 v34 v35 v36 v37 g8 g11 g12 g14 g15 g16 g17 g18 g19 g20 g21 g22 g23 g24 g26 g5 g6 g25 rn1 H.size (by omega)) (cwV 1 hts gX10_close_X10_good rfl rfl rfl (by decide +kernel) ⟨(Nat.le_of_ble_eq_true rfl), (Nat.le_of_ble_eq_true rfl)⟩) ⟨Wd.blind, va_recv hK hPc (ci := 11) (q0 := 0) rfl rfl, fun U hU hW => ⟨rfl, Wd.call hPc hDc hK hC hZ hS hFc U hU hW⟩⟩ rfl rfl hl.1 rfl (lv_room (Nat.le_of_ble_eq_true rfl)) dX10_close_5 ⟨(Nat.le_of_ble_eq_true rfl), (Nat.le_of_ble_eq_true rfl)⟩) hS (fun q _ h => hFc q h) hFc (fun rn3 u t H1 locs ht hvm hw hB hz1 hk1 hS => ?_)
  obtain ⟨zn4, hP1, hD1⟩ := hB
  rw [ht] at hP1
  obtain ⟨hP, hD⟩ := PDq.join (w := [(v3, .inl (cA 0, 3260, .inl fh)), (v4, .inl (cA 1, 10, .inr (.inl fl))), (v0, .inl (cA 0, 326, .inl fs)), (oX10 w0 v0 v1 v2 v3 v4 g5 g6 (nI ed) zn4 v9 (nI nb) g11 g12 v13 g14 g15 g16 g17 g18 g19 g20 g21 g22 g23 g24 g25 g26 v27 v28 v29 v30 v31 v32 v33 v34 v35 v36 v37 (nI ol))]) 3 hP hD [2] [0, 1, 3] rfl rfl (by decide) (by decide) hk1 hFc hP1 hD1 rfl
  generalize H1 = H at hP hS ⊢
  obtain rfl : rn1 = rn3 := hw.symm
  refine lv_if_ne (tgt := 13) hx hb dX10_close_8 (by decide) (fun c5 => ?_) (fun c5 => ?_)
  · skip
    refine lv_aload_n hx hb dX10_close_13 rfl (lv_at hl 0 rfl) ?_
    obtain ⟨hPc, hDc, hFc⟩ := PDq.cut (wc := [(oX10 w0 v0 v1 v2 v3 v4 g5 g6 (nI ed) zn4 v9 (nI nb) g11 g12 v13 g14 g15 g16 g17 g18 g19 g20 g21 g22 g23 g24 g25 g26 v27 v28 v29 v30 v31 v32 v33 v34 v35 v36 v37 (nI ol)), (v0, .inl (cA 0, 326, .inl fs)), (v3, .inl (cA 0, 3260, .inl fh)), (v4, .inl (cA 1, 10, .inr (.inl fl)))]) hP hD hS hA [3, 2, 0, 1] (by decide) rfl
    refine va_callv (va_runV (As := []) (rest := []) ⟨hx, hb, hml, hown, hts⟩ (r_remember l D cA sa w0 ed nb ol v0 v1 v2 v3 v4 v9 v13 v27 v28 v29 v30 v31 v32 v33 v34 v35 v36 v37 zn4 g11 g12 g14 g15 g16 g17 g18 g19 g20 g21 g22 g23 g24 g26 g5 g6 g25 cn pq en dy fs fh fl H.size hcn hpq hen hdy hri hed hHI hd9) (cwV 0 hts gX10_close_X10_remember rfl rfl rfl (by decide +kernel) ⟨(Nat.le_of_ble_eq_true rfl), (Nat.le_of_ble_eq_true rfl)⟩) ⟨Wd.blind, va_recv hK hPc (ci := 11) (q0 := 0) rfl rfl, fun U hU hW => ⟨rfl, Wd.call hPc hDc hK hC hZ hS hFc U hU hW⟩⟩ rfl rfl hl.1 rfl (lv_room (Nat.le_of_ble_eq_true rfl)) dX10_close_14 ⟨(Nat.le_of_ble_eq_true rfl), (Nat.le_of_ble_eq_true rfl)⟩) hS (fun q _ h => hFc q h) hFc (fun u t H1 locs ht hvm hw hB hz1 hk1 hS => ?_)
    obtain ⟨qn6, fn7, fn8, hn9, hn10, hP1, hD1⟩ := hB
    rw [ht] at hP1
    obtain ⟨hP, hD⟩ := PDq.join (w := [(oX10 w0 v0 v1 v2 v3 v4 g5 g6 (nI qn6) zn4 v9 (nI nb) g11 g12 v13 g14 g15 g16 g17 g18 g19 g20 g21 g22 g23 g24 g25 g26 v27 v28 v29 v30 v31 v32 v33 v34 v35 v36 v37 (nI ol)), (v0, .inl (cA 0, 326, .inl fs)), (v3, .inl (cA 0, 3260, .inl fn7)), (v4, .inl (cA 1, 10, .inr (.inl fn8)))]) 0 hP hD [3, 2, 0, 1] [] rfl rfl (by decide) (by decide) hk1 hFc hP1 hD1 rfl
    generalize H1 = H at hP hS ⊢
    refine lv_aload_n hx hb dX10_close_17 rfl (lv_at hl 0 rfl) ?_
    refine va_get (D := D) (ci := 11) (v := .ref v0) (C := RX10) (T := TX10) (N := 39) hx hb hts inX10 hown hK hP 0 rfl rfl 0 (by decide) (hts (.fieldLink RX10 7 "EscrowDeskModel" "s" "[I") (by decide +kernel)) (fun _ h9 => h9) rfl dX10_close_18 ?_
    refine lv_bipush (v := 6) hx hb dX10_close_21 (by decide) ?_
    refine va_iald hx hb hK hP 1 0 rfl rfl (vp_in_iff.mpr (by decide)) dX10_close_23 ?_
    refine lv_topi (fun yn11 eyn11 => ?_)
    refine lv_istore_n (lv' := [(1, .int yn11), (0, .ref w0)]) hx hb dX10_close_24 rfl hl (by decide) rfl (fun ls hl => ?_)
    refine lv_aload_n hx hb dX10_close_25 rfl (lv_at hl 1 rfl) ?_
    refine lv_iload_n hx hb dX10_close_26 rfl (lv_at hl 0 rfl) ?_
    refine lv_iconst (v := (-1)) hx hb dX10_close_27 (by decide) ?_
    obtain ⟨hPc, hDc, hFc⟩ := PDq.cut (wc := [(oX10 w0 v0 v1 v2 v3 v4 g5 g6 (nI qn6) zn4 v9 (nI nb) g11 g12 v13 g14 g15 g16 g17 g18 g19 g20 g21 g22 g23 g24 g25 g26 v27 v28 v29 v30 v31 v32 v33 v34 v35 v36 v37 (nI ol)), (v0, .inl (cA 0, 326, .inl fs))]) hP hD hS hA [0, 1] (by decide) rfl
    refine va_callv (va_runV (As := [.int yn11, .int (-1)]) (rest := []) ⟨hx, hb, hml, hown, hts⟩ (r_refund l D cA sa w0 qn6 nb ol v0 v1 v2 v3 v4 v9 v13 v27 v28 v29 v30 v31 v32 v33 v34 v35 v36 v37 zn4 g11 g12 g14 g15 g16 g17 g18 g19 g20 g21 g22 g23 g24 g26 g5 g6 g25 cn pq en dy fs yn11 (-1) H.size hcn hpq hen hdy hri) (cwV 2 hts gX10_close_X10_refund rfl rfl rfl (by decide +kernel) ⟨(Nat.le_of_ble_eq_true rfl), (Nat.le_of_ble_eq_true rfl)⟩) ⟨Wd.blind, va_recv hK hPc (ci := 11) (q0 := 0) rfl rfl, fun U hU hW => ⟨rfl, Wd.call hPc hDc hK hC hZ hS hFc U hU hW⟩⟩ rfl rfl hl.1 rfl (lv_room (Nat.le_of_ble_eq_true rfl)) dX10_close_28 ⟨(Nat.le_of_ble_eq_true rfl), (Nat.le_of_ble_eq_true rfl)⟩) hS (fun q _ h => hFc q h) hFc (fun u t H1 locs ht hvm hw hB hz1 hk1 hS => ?_)
    obtain ⟨qn12, fn13, hn14, hn15, hP1, hD1⟩ := hB
    rw [ht] at hP1
    obtain ⟨hP, hD⟩ := PDq.join (w := [(v3, .inl (cA 0, 3260, .inl fn7)), (v4, .inl (cA 1, 10, .inr (.inl fn8))), (oX10 w0 v0 v1 v2 v3 v4 g5 g6 (nI qn6) zn4 v9 (nI nb) g11 g12 v13 g14 g15 g16 g17 g18 g19 g20 g21 g22 g23 g24 g25 g26 v27 v28 v29 v30 v31 v32 v33 v34 v35 v36 v37 (nI ol)), (v0, .inl (cA 0, 326, .inl fn13))]) 2 hP hD [0, 1] [2, 3] rfl rfl (by decide) (by decide) hk1 hFc hP1 hD1 rfl
    generalize H1 = H at hP hS ⊢
    refine lv_iload_n hx hb dX10_close_31 rfl (lv_at hl 0 rfl) ?_
    obtain ⟨hP9, hD9⟩ := PDq.sub (ws' := [(oX10 w0 v0 v1 v2 v3 v4 g5 g6 (nI qn6) zn4 v9 (nI nb) g11 g12 v13 g14 g15 g16 g17 g18 g19 g20 g21 g22 g23 g24 g25 g26 v27 v28 v29 v30 v31 v32 v33 v34 v35 v36 v37 (nI ol)), (v0, .inl (cA 0, 326, .inl fn13)), (v3, .inl (cA 0, 3260, .inl fn7)), (v4, .inl (cA 1, 10, .inr (.inl fn8)))]) hP hD [2, 3, 0, 1] (by decide) rfl
    refine W.widen (k := 0) (n := 0) (Nat.le_of_ble_eq_true rfl) (Nat.le_of_ble_eq_true rfl) ?_
    exact (W.iret (v := yn11) hx hb hr (fun t ht hW => ⟨⟨yn11, (), rfl, trivial, qn6, qn12, zn4, g14, g15, g16, g17, g18, g19, g20, g21, g22, g23, g24, g26, g5, g6, g25, fn13, fn7, fn8, hn9, hn10, hn14, hn15, by rw [ht]; exact hP9, hD9⟩, hS.F ht⟩) hS.2.2 dX10_close_32)
  · skip
    refine lv_iconst (v := 0) hx hb dX10_close_11 (by decide) ?_
    obtain ⟨hP9, hD9⟩ := PDq.sub (ws' := [(oX10 w0 v0 v1 v2 v3 v4 g5 g6 (nI ed) zn4 v9 (nI nb) g11 g12 v13 g14 g15 g16 g17 g18 g19 g20 g21 g22 g23 g24 g25 g26 v27 v28 v29 v30 v31 v32 v33 v34 v35 v36 v37 (nI ol)), (v0, .inl (cA 0, 326, .inl fs)), (v3, .inl (cA 0, 3260, .inl fh)), (v4, .inl (cA 1, 10, .inr (.inl fl)))]) hP hD [3, 2, 0, 1] (by decide) rfl
    refine W.widen (k := 0) (n := 0) (Nat.le_of_ble_eq_true rfl) (Nat.le_of_ble_eq_true rfl) ?_
    exact (W.iret (v := 0) hx hb hr (fun t ht hW => ⟨⟨0, (), rfl, trivial, ed, en, zn4, g14, g15, g16, g17, g18, g19, g20, g21, g22, g23, g24, g26, g5, g6, g25, fs, fh, fl, hed, hHI, hen, hri, by rw [ht]; exact hP9, hD9⟩, hS.F ht⟩) hS.2.2 dX10_close_12)

set_option maxHeartbeats 4000000 in
set_option maxRecDepth 100000 in
/-- reference: dispute -/
theorem r_dispute (l : Launch) (D : va_G) (cA : Nat → ClassId) (sa : Nat → Nat) (w0 : Nat) (ed : Nat) (nb : Nat) (ol : Nat) (v0 : Nat) (v1 : Nat) (v2 : Nat) (v3 : Nat) (v4 : Nat) (v9 : Nat) (v13 : Nat) (v27 : Nat) (v28 : Nat) (v29 : Nat) (v30 : Nat) (v31 : Nat) (v32 : Nat) (v33 : Nat) (v34 : Nat) (v35 : Nat) (v36 : Nat) (v37 : Nat) (g8 : Int32) (g11 : Int32) (g12 : Int32) (g14 : Int32) (g15 : Int32) (g16 : Int32) (g17 : Int32) (g18 : Int32) (g19 : Int32) (g20 : Int32) (g21 : Int32) (g22 : Int32) (g23 : Int32) (g24 : Int32) (g26 : Int32) (g5 : Int64) (g6 : Int64) (g25 : Int64) (cn : Nat) (pq : Nat) (en : Nat) (dy : Nat) (fs : Nat → Int32) (fh : Nat → Int32) (fl : Nat → Int64) (i : Int32) (sz : Nat) (hcn : cn ≤ 10) (hpq : pq ≤ 8) (hen : en ≤ 60) (hdy : dy ≤ 20000) (hri : RI cn pq en dy fs) (hed : ed ≤ 10) (hHI : HI cn pq ed fh) (hd9 : dy ≤ 9999) : Met l yX10_dispute wsX10_dispute ({ frames := 3, cells := 0, slots := 0, locals := 64 }) (va_Pc [.ref w0, .int i] (Wd D cA sa [(oX10 w0 v0 v1 v2 v3 v4 g5 g6 (nI ed) g8 v9 (nI nb) g11 g12 v13 g14 g15 g16 g17 g18 g19 g20 g21 g22 g23 g24 g25 g26 v27 v28 v29 v30 v31 v32 v33 v34 v35 v36 v37 (nI ol)), (v0, .inl (cA 0, 326, .inl fs)), (v3, .inl (cA 0, 3260, .inl fh)), (v4, .inl (cA 1, 10, .inr (.inl fl)))] sz)) (va_Qi (fun (r : Int32) (_ : Unit) => True) (fun (_ : Unit) t => ∃ ed2 : Nat, ∃ e2 : Nat, ∃ z8 : Int32, ∃ z14 : Int32, ∃ z15 : Int32, ∃ z16 : Int32, ∃ z17 : Int32, ∃ z18 : Int32, ∃ z19 : Int32, ∃ z20 : Int32, ∃ z21 : Int32, ∃ z22 : Int32, ∃ z23 : Int32, ∃ z24 : Int32, ∃ z26 : Int32, ∃ z5 : Int64, ∃ z6 : Int64, ∃ z25 : Int64, ∃ zs : Nat → Int32, ∃ zh : Nat → Int32, ∃ zl : Nat → Int64, ed2 ≤ 10 ∧ HI cn pq ed2 zh ∧ e2 ≤ 60 ∧ RI cn pq e2 dy zs ∧ Wq D (va_A [(oX10 w0 v0 v1 v2 v3 v4 g5 g6 (nI ed) g8 v9 (nI nb) g11 g12 v13 g14 g15 g16 g17 g18 g19 g20 g21 g22 g23 g24 g25 g26 v27 v28 v29 v30 v31 v32 v33 v34 v35 v36 v37 (nI ol)), (v0, .inl (cA 0, 326, .inl fs)), (v3, .inl (cA 0, 3260, .inl fh)), (v4, .inl (cA 1, 10, .inr (.inl fl)))] sz) [(oX10 w0 v0 v1 v2 v3 v4 z5 z6 (nI ed2) z8 v9 (nI nb) g11 g12 v13 z14 z15 z16 z17 z18 z19 z20 z21 z22 z23 z24 z25 z26 v27 v28 v29 v30 v31 v32 v33 v34 v35 v36 v37 (nI ol)), (v0, .inl (cA 0, 326, .inl zs)), (v3, .inl (cA 0, 3260, .inl zh)), (v4, .inl (cA 1, 10, .inr (.inl zl)))] t) (va_A [(oX10 w0 v0 v1 v2 v3 v4 g5 g6 (nI ed) g8 v9 (nI nb) g11 g12 v13 g14 g15 g16 g17 g18 g19 g20 g21 g22 g23 g24 g25 g26 v27 v28 v29 v30 v31 v32 v33 v34 v35 v36 v37 (nI ol)), (v0, .inl (cA 0, 326, .inl fs)), (v3, .inl (cA 0, 3260, .inl fh)), (v4, .inl (cA 1, 10, .inr (.inl fl)))] sz)) 0 0 (va_A [(oX10 w0 v0 v1 v2 v3 v4 g5 g6 (nI ed) g8 v9 (nI nb) g11 g12 v13 g14 g15 g16 g17 g18 g19 g20 g21 g22 g23 g24 g25 g26 v27 v28 v29 v30 v31 v32 v33 v34 v35 v36 v37 (nI ol)), (v0, .inl (cA 0, 326, .inl fs)), (v3, .inl (cA 0, 3260, .inl fh)), (v4, .inl (cA 1, 10, .inr (.inl fl)))] sz) := by
  refine Met.ofW (cc := cX10_dispute) (maxL := 4) (ret := (some .int)) (by decide) rfl ?_
  intro p e s m args below meth c s₁ B hml hv
  obtain ⟨rfl, hsz, hP, hK, hD0, hC, hZ⟩ := hv
  have hx := B.exec
  have hb := B.bytes
  have hr := B.returns
  have hts := atoms_spec (ws := wsX10_dispute) B.pre
  have hown : s.vm.findClass RX10 = some m.cls := findClass_of_methodNamed B.named
  have hlocks := B.notSynchronized
  subst hsz
  have hD := hD0.self (sz := s.heap.size)
  generalize hAe : va_A [(oX10 w0 v0 v1 v2 v3 v4 g5 g6 (nI ed) g8 v9 (nI nb) g11 g12 v13 g14 g15 g16 g17 g18 g19 g20 g21 g22 g23 g24 g25 g26 v27 v28 v29 v30 v31 v32 v33 v34 v35 v36 v37 (nI ol)), (v0, .inl (cA 0, 326, .inl fs)), (v3, .inl (cA 0, 3260, .inl fh)), (v4, .inl (cA 1, 10, .inr (.inl fl)))] s.heap.size = A at hD hZ ⊢
  have hA : ∀ q : Nat, s.heap.size ≤ q → A q := fun q h => by rw [← hAe]; exact Or.inr h
  have hS : va_S A s.heap s.heap [] := va_S.rf
  have hP : va_P D vwCl [(oX10 w0 v0 v1 v2 v3 v4 g5 g6 (nI ed) g8 v9 (nI nb) g11 g12 v13 g14 g15 g16 g17 g18 g19 g20 g21 g22 g23 g24 g25 g26 v27 v28 v29 v30 v31 v32 v33 v34 v35 v36 v37 (nI ol)), (v0, .inl (cA 0, 326, .inl fs)), (v3, .inl (cA 0, 3260, .inl fh)), (v4, .inl (cA 1, 10, .inr (.inl fl)))] s.heap := hP
  have hl := lv_entry ([.ref w0, .int i]) (n := 4) (Nat.le_of_ble_eq_true rfl)
  rw [lg_entry_eq]
  generalize (lg_sl ([.ref w0, .int i]) ++ List.replicate (4 - (lg_sl ([.ref w0, .int i])).length) Slot.unset).toArray = ls at hl ⊢
  have hl : lv_has ls 4 [(0, .ref w0), (1, .int i)] := hl
  refine lv_aload_n hx hb dX10_dispute_0 rfl (lv_at hl 0 rfl) ?_
  refine lv_iload_n hx hb dX10_dispute_1 rfl (lv_at hl 1 rfl) ?_
  obtain ⟨hPc, hDc, hFc⟩ := PDq.cut (wc := [(oX10 w0 v0 v1 v2 v3 v4 g5 g6 (nI ed) g8 v9 (nI nb) g11 g12 v13 g14 g15 g16 g17 g18 g19 g20 g21 g22 g23 g24 g25 g26 v27 v28 v29 v30 v31 v32 v33 v34 v35 v36 v37 (nI ol)), (v0, .inl (cA 0, 326, .inl fs))]) hP hD hS hA [0, 1] (by decide) rfl
  refine va_calli (va_runV (As := [.int i]) (rest := []) ⟨hx, hb, hml, hown, hts⟩ (r_isMilestone l D cA sa w0 ed nb ol v0 v1 v2 v3 v4 v9 v13 v27 v28 v29 v30 v31 v32 v33 v34 v35 v36 v37 g8 g11 g12 g14 g15 g16 g17 g18 g19 g20 g21 g22 g23 g24 g26 g5 g6 g25 cn pq en dy fs i s.heap.size hcn hpq hen hdy hri) (cwV 1 hts gX10_dispute_X10_isMilestone rfl rfl rfl (by decide +kernel) ⟨(Nat.le_of_ble_eq_true rfl), (Nat.le_of_ble_eq_true rfl)⟩) ⟨Wd.blind, va_recv hK hPc (ci := 11) (q0 := 0) rfl rfl, fun U hU hW => ⟨rfl, Wd.call hPc hDc hK hC hZ hS hFc U hU hW⟩⟩ rfl rfl hl.1 rfl (lv_room (Nat.le_of_ble_eq_true rfl)) dX10_dispute_2 ⟨(Nat.le_of_ble_eq_true rfl), (Nat.le_of_ble_eq_true rfl)⟩) hS (fun q _ h => hFc q h) hFc (fun rn1 u t H1 locs ht hvm hw hB hz1 hk1 hS => ?_)
  obtain ⟨hP1, hD1⟩ := hB
  rw [ht] at hP1
  obtain ⟨hP, hD⟩ := PDq.join (w := [(v3, .inl (cA 0, 3260, .inl fh)), (v4, .inl (cA 1, 10, .inr (.inl fl))), (oX10 w0 v0 v1 v2 v3 v4 g5 g6 (nI ed) g8 v9 (nI nb) g11 g12 v13 g14 g15 g16 g17 g18 g19 g20 g21 g22 g23 g24 g25 g26 v27 v28 v29 v30 v31 v32 v33 v34 v35 v36 v37 (nI ol)), (v0, .inl (cA 0, 326, .inl fs))]) 2 hP hD [0, 1] [2, 3] rfl rfl (by decide) (by decide) hk1 hFc hP1 hD1 rfl
  generalize H1 = H at hP hS ⊢
  rcases hw with ⟨hr9, hn2⟩ | hr9
  · skip
    subst hr9
    obtain ⟨kn3, hn4, hn5⟩ := hn2
    rw [hn5] at hl
    have hl : lv_has ls 4 [(0, .ref w0), (1, .int (nI kn3))] := hl
    refine lv_istore_n (lv' := [(2, .int 1), (0, .ref w0), (1, .int (nI kn3))]) hx hb dX10_dispute_5 rfl hl (by decide) rfl (fun ls hl => ?_)
    refine lv_aload_n hx hb dX10_dispute_6 rfl (lv_at hl 1 rfl) ?_
    refine lv_iload_n hx hb dX10_dispute_7 rfl (lv_at hl 0 rfl) ?_
    refine lv_iload_n hx hb dX10_dispute_8 rfl (lv_at hl 0 rfl) ?_
    refine lv_if_eq (tgt := 24) hx hb dX10_dispute_9 (by decide) (fun c9 => absurd c9 (by decide)) (fun c6 => ?_)
    refine lv_aload_n hx hb dX10_dispute_12 rfl (lv_at hl 1 rfl) ?_
    refine lv_iload_n hx hb dX10_dispute_13 rfl (lv_at hl 2 rfl) ?_
    obtain ⟨hPc, hDc, hFc⟩ := PDq.cut (wc := [(oX10 w0 v0 v1 v2 v3 v4 g5 g6 (nI ed) g8 v9 (nI nb) g11 g12 v13 g14 g15 g16 g17 g18 g19 g20 g21 g22 g23 g24 g25 g26 v27 v28 v29 v30 v31 v32 v33 v34 v35 v36 v37 (nI ol)), (v0, .inl (cA 0, 326, .inl fs))]) hP hD hS hA [2, 3] (by decide) rfl
    refine va_calli (va_runV (As := [.int (nI kn3)]) (rest := [.int 1, .ref w0]) ⟨hx, hb, hml, hown, hts⟩ (r_isOpenOrDue l D cA sa w0 ed nb ol v0 v1 v2 v3 v4 v9 v13 v27 v28 v29 v30 v31 v32 v33 v34 v35 v36 v37 g8 g11 g12 g14 g15 g16 g17 g18 g19 g20 g21 g22 g23 g24 g26 g5 g6 g25 fs kn3 H.size (by omega)) (cwV 1 hts gX10_dispute_X10_isOpenOrDue rfl rfl rfl (by decide +kernel) ⟨(Nat.le_of_ble_eq_true rfl), (Nat.le_of_ble_eq_true rfl)⟩) ⟨Wd.blind, va_recv hK hPc (ci := 11) (q0 := 0) rfl rfl, fun U hU hW => ⟨rfl, Wd.call hPc hDc hK hC hZ hS hFc U hU hW⟩⟩ rfl rfl hl.1 rfl (lv_room (Nat.le_of_ble_eq_true rfl)) dX10_dispute_14 ⟨(Nat.le_of_ble_eq_true rfl), (Nat.le_of_ble_eq_true rfl)⟩) hS (fun q _ h => hFc q h) hFc (fun rn7 u t H1 locs ht hvm hw hB hz1 hk1 hS => ?_)
    obtain ⟨hP1, hD1⟩ := hB
    rw [ht] at hP1
    obtain ⟨hP, hD⟩ := PDq.join (w := [(v3, .inl (cA 0, 3260, .inl fh)), (v4, .inl (cA 1, 10, .inr (.inl fl))), (oX10 w0 v0 v1 v2 v3 v4 g5 g6 (nI ed) g8 v9 (nI nb) g11 g12 v13 g14 g15 g16 g17 g18 g19 g20 g21 g22 g23 g24 g25 g26 v27 v28 v29 v30 v31 v32 v33 v34 v35 v36 v37 (nI ol)), (v0, .inl (cA 0, 326, .inl fs))]) 2 hP hD [2, 3] [0, 1] rfl rfl (by decide) (by decide) hk1 hFc hP1 hD1 rfl
    generalize H1 = H at hP hS ⊢
    have hn8 := hw
    refine lv_if_eq (tgt := 24) hx hb dX10_dispute_17 (by decide) (fun c9 => ?_) (fun c9 => ?_)
    · skip
      refine lv_iconst (v := 0) hx hb dX10_dispute_24 (by decide) ?_
      obtain ⟨hPc, hDc, hFc⟩ := PDq.cut (wc := [(oX10 w0 v0 v1 v2 v3 v4 g5 g6 (nI ed) g8 v9 (nI nb) g11 g12 v13 g14 g15 g16 g17 g18 g19 g20 g21 g22 g23 g24 g25 g26 v27 v28 v29 v30 v31 v32 v33 v34 v35 v36 v37 (nI ol))]) hP hD hS hA [2] (by decide) rfl
      refine va_calli (va_runV (As := [.int 1, .int 0]) (rest := []) ⟨hx, hb, hml, hown, hts⟩ (r_good_10 l D cA sa w0 ed nb ol v0 v1 v2 v3 v4 v9 v13 v27 v28 v29 v30 v31 v32 v33 v34 v35 v36 v37 g8 g11 g12 g14 g15 g16 g17 g18 g19 g20 g21 g22 g23 g24 g26 g5 g6 g25 H.size) (cwV 2 hts gX10_dispute_X10_good_ rfl rfl rfl (by decide +kernel) ⟨(Nat.le_of_ble_eq_true rfl), (Nat.le_of_ble_eq_true rfl)⟩) ⟨Wd.blind, va_recv hK hPc (ci := 11) (q0 := 0) rfl rfl, fun U hU hW => ⟨rfl, Wd.call hPc hDc hK hC hZ hS hFc U hU hW⟩⟩ rfl rfl hl.1 rfl (lv_room (Nat.le_of_ble_eq_true rfl)) dX10_dispute_25 ⟨(Nat.le_of_ble_eq_true rfl), (Nat.le_of_ble_eq_true rfl)⟩) hS (fun q _ h => hFc q h) hFc (fun rn10 u t H1 locs ht hvm hw hB hz1 hk1 hS => ?_)
      obtain ⟨hP1, hD1⟩ := hB
      rw [ht] at hP1
      obtain ⟨hP, hD⟩ := PDq.join (w := [(v3, .inl (cA 0, 3260, .inl fh)), (v4, .inl (cA 1, 10, .inr (.inl fl))), (v0, .inl (cA 0, 326, .inl fs)), (oX10 w0 v0 v1 v2 v3 v4 g5 g6 (nI ed) 2 v9 (nI nb) g11 g12 v13 g14 g15 g16 g17 g18 g19 g20 g21 g22 g23 g24 g25 g26 v27 v28 v29 v30 v31 v32 v33 v34 v35 v36 v37 (nI ol))]) 3 hP hD [2] [0, 1, 3] rfl rfl (by decide) (by decide) hk1 hFc hP1 hD1 rfl
      generalize H1 = H at hP hS ⊢
      obtain rfl : rn10 = 0 := hw
      refine lv_if_ne (tgt := 33) hx hb dX10_dispute_28 (by decide) (fun c9 => absurd c9 (by decide)) (fun c11 => ?_)
      refine lv_iconst (v := 0) hx hb dX10_dispute_31 (by decide) ?_
      obtain ⟨hP9, hD9⟩ := PDq.sub (ws' := [(oX10 w0 v0 v1 v2 v3 v4 g5 g6 (nI ed) 2 v9 (nI nb) g11 g12 v13 g14 g15 g16 g17 g18 g19 g20 g21 g22 g23 g24 g25 g26 v27 v28 v29 v30 v31 v32 v33 v34 v35 v36 v37 (nI ol)), (v0, .inl (cA 0, 326, .inl fs)), (v3, .inl (cA 0, 3260, .inl fh)), (v4, .inl (cA 1, 10, .inr (.inl fl)))]) hP hD [3, 2, 0, 1] (by decide) rfl
      refine W.widen (k := 0) (n := 0) (Nat.le_of_ble_eq_true rfl) (Nat.le_of_ble_eq_true rfl) ?_
      exact (W.iret (v := 0) hx hb hr (fun t ht hW => ⟨⟨0, (), rfl, trivial, ed, en, 2, g14, g15, g16, g17, g18, g19, g20, g21, g22, g23, g24, g26, g5, g6, g25, fs, fh, fl, hed, hHI, hen, hri, by rw [ht]; exact hP9, hD9⟩, hS.F ht⟩) hS.2.2 dX10_dispute_32)
    · skip
      refine lv_iconst (v := 1) hx hb dX10_dispute_20 (by decide) ?_
      refine lv_goto (tgt := 25) hx hb dX10_dispute_21 (by decide) ?_
      obtain ⟨hPc, hDc, hFc⟩ := PDq.cut (wc := [(oX10 w0 v0 v1 v2 v3 v4 g5 g6 (nI ed) g8 v9 (nI nb) g11 g12 v13 g14 g15 g16 g17 g18 g19 g20 g21 g22 g23 g24 g25 g26 v27 v28 v29 v30 v31 v32 v33 v34 v35 v36 v37 (nI ol))]) hP hD hS hA [2] (by decide) rfl
      refine va_calli (va_runV (As := [.int 1, .int 1]) (rest := []) ⟨hx, hb, hml, hown, hts⟩ (r_good_11 l D cA sa w0 ed nb ol v0 v1 v2 v3 v4 v9 v13 v27 v28 v29 v30 v31 v32 v33 v34 v35 v36 v37 g8 g11 g12 g14 g15 g16 g17 g18 g19 g20 g21 g22 g23 g24 g26 g5 g6 g25 H.size) (cwV 2 hts gX10_dispute_X10_good_ rfl rfl rfl (by decide +kernel) ⟨(Nat.le_of_ble_eq_true rfl), (Nat.le_of_ble_eq_true rfl)⟩) ⟨Wd.blind, va_recv hK hPc (ci := 11) (q0 := 0) rfl rfl, fun U hU hW => ⟨rfl, Wd.call hPc hDc hK hC hZ hS hFc U hU hW⟩⟩ rfl rfl hl.1 rfl (lv_room (Nat.le_of_ble_eq_true rfl)) dX10_dispute_25 ⟨(Nat.le_of_ble_eq_true rfl), (Nat.le_of_ble_eq_true rfl)⟩) hS (fun q _ h => hFc q h) hFc (fun rn12 u t H1 locs ht hvm hw hB hz1 hk1 hS => ?_)
      obtain ⟨hP1, hD1⟩ := hB
      rw [ht] at hP1
      obtain ⟨hP, hD⟩ := PDq.join (w := [(v3, .inl (cA 0, 3260, .inl fh)), (v4, .inl (cA 1, 10, .inr (.inl fl))), (v0, .inl (cA 0, 326, .inl fs)), (oX10 w0 v0 v1 v2 v3 v4 g5 g6 (nI ed) 0 v9 (nI nb) g11 g12 v13 g14 g15 g16 g17 g18 g19 g20 g21 g22 g23 g24 g25 g26 v27 v28 v29 v30 v31 v32 v33 v34 v35 v36 v37 (nI ol))]) 3 hP hD [2] [0, 1, 3] rfl rfl (by decide) (by decide) hk1 hFc hP1 hD1 rfl
      generalize H1 = H at hP hS ⊢
      obtain rfl : rn12 = 1 := hw
      refine lv_if_ne (tgt := 33) hx hb dX10_dispute_28 (by decide) (fun c13 => ?_) (fun c9 => absurd c9 (by decide))
      refine lv_aload_n hx hb dX10_dispute_33 rfl (lv_at hl 1 rfl) ?_
      obtain ⟨hPc, hDc, hFc⟩ := PDq.cut (wc := [(oX10 w0 v0 v1 v2 v3 v4 g5 g6 (nI ed) 0 v9 (nI nb) g11 g12 v13 g14 g15 g16 g17 g18 g19 g20 g21 g22 g23 g24 g25 g26 v27 v28 v29 v30 v31 v32 v33 v34 v35 v36 v37 (nI ol)), (v0, .inl (cA 0, 326, .inl fs)), (v3, .inl (cA 0, 3260, .inl fh)), (v4, .inl (cA 1, 10, .inr (.inl fl)))]) hP hD hS hA [3, 2, 0, 1] (by decide) rfl
      refine va_callv (va_runV (As := []) (rest := []) ⟨hx, hb, hml, hown, hts⟩ (r_remember l D cA sa w0 ed nb ol v0 v1 v2 v3 v4 v9 v13 v27 v28 v29 v30 v31 v32 v33 v34 v35 v36 v37 0 g11 g12 g14 g15 g16 g17 g18 g19 g20 g21 g22 g23 g24 g26 g5 g6 g25 cn pq en dy fs fh fl H.size hcn hpq hen hdy hri hed hHI hd9) (cwV 0 hts gX10_dispute_X10_remember rfl rfl rfl (by decide +kernel) ⟨(Nat.le_of_ble_eq_true rfl), (Nat.le_of_ble_eq_true rfl)⟩) ⟨Wd.blind, va_recv hK hPc (ci := 11) (q0 := 0) rfl rfl, fun U hU hW => ⟨rfl, Wd.call hPc hDc hK hC hZ hS hFc U hU hW⟩⟩ rfl rfl hl.1 rfl (lv_room (Nat.le_of_ble_eq_true rfl)) dX10_dispute_34 ⟨(Nat.le_of_ble_eq_true rfl), (Nat.le_of_ble_eq_true rfl)⟩) hS (fun q _ h => hFc q h) hFc (fun u t H1 locs ht hvm hw hB hz1 hk1 hS => ?_)
      obtain ⟨qn14, fn15, fn16, hn17, hn18, hP1, hD1⟩ := hB
      rw [ht] at hP1
      obtain ⟨hP, hD⟩ := PDq.join (w := [(oX10 w0 v0 v1 v2 v3 v4 g5 g6 (nI qn14) 0 v9 (nI nb) g11 g12 v13 g14 g15 g16 g17 g18 g19 g20 g21 g22 g23 g24 g25 g26 v27 v28 v29 v30 v31 v32 v33 v34 v35 v36 v37 (nI ol)), (v0, .inl (cA 0, 326, .inl fs)), (v3, .inl (cA 0, 3260, .inl fn15)), (v4, .inl (cA 1, 10, .inr (.inl fn16)))]) 0 hP hD [3, 2, 0, 1] [] rfl rfl (by decide) (by decide) hk1 hFc hP1 hD1 rfl
      generalize H1 = H at hP hS ⊢
      refine lv_aload_n hx hb dX10_dispute_37 rfl (lv_at hl 1 rfl) ?_
      refine lv_iload_n hx hb dX10_dispute_38 rfl (lv_at hl 2 rfl) ?_
      obtain ⟨hPc, hDc, hFc⟩ := PDq.cut (wc := [(oX10 w0 v0 v1 v2 v3 v4 g5 g6 (nI qn14) 0 v9 (nI nb) g11 g12 v13 g14 g15 g16 g17 g18 g19 g20 g21 g22 g23 g24 g25 g26 v27 v28 v29 v30 v31 v32 v33 v34 v35 v36 v37 (nI ol)), (v0, .inl (cA 0, 326, .inl fs))]) hP hD hS hA [0, 1] (by decide) rfl
      refine va_calli (va_runV (As := [.int (nI kn3)]) (rest := []) ⟨hx, hb, hml, hown, hts⟩ (r_remainingOf l D cA sa w0 qn14 nb ol v0 v1 v2 v3 v4 v9 v13 v27 v28 v29 v30 v31 v32 v33 v34 v35 v36 v37 0 g11 g12 g14 g15 g16 g17 g18 g19 g20 g21 g22 g23 g24 g26 g5 g6 g25 fs kn3 H.size (by omega)) (cwV 1 hts gX10_dispute_X10_remainingOf rfl rfl rfl (by decide +kernel) ⟨(Nat.le_of_ble_eq_true rfl), (Nat.le_of_ble_eq_true rfl)⟩) ⟨Wd.blind, va_recv hK hPc (ci := 11) (q0 := 0) rfl rfl, fun U hU hW => ⟨rfl, Wd.call hPc hDc hK hC hZ hS hFc U hU hW⟩⟩ rfl rfl hl.1 rfl (lv_room (Nat.le_of_ble_eq_true rfl)) dX10_dispute_39 ⟨(Nat.le_of_ble_eq_true rfl), (Nat.le_of_ble_eq_true rfl)⟩) hS (fun q _ h => hFc q h) hFc (fun rn19 u t H1 locs ht hvm hw hB hz1 hk1 hS => ?_)
      obtain ⟨hP1, hD1⟩ := hB
      rw [ht] at hP1
      obtain ⟨hP, hD⟩ := PDq.join (w := [(v3, .inl (cA 0, 3260, .inl fn15)), (v4, .inl (cA 1, 10, .inr (.inl fn16))), (oX10 w0 v0 v1 v2 v3 v4 g5 g6 (nI qn14) 0 v9 (nI nb) g11 g12 v13 g14 g15 g16 g17 g18 g19 g20 g21 g22 g23 g24 g25 g26 v27 v28 v29 v30 v31 v32 v33 v34 v35 v36 v37 (nI ol)), (v0, .inl (cA 0, 326, .inl fs))]) 2 hP hD [0, 1] [2, 3] rfl rfl (by decide) (by decide) hk1 hFc hP1 hD1 rfl
      generalize H1 = H at hP hS ⊢
      refine lv_aload_n hx hb dX10_dispute_42 rfl (lv_at hl 1 rfl) ?_
      obtain ⟨hPc, hDc, hFc⟩ := PDq.cut (wc := [(oX10 w0 v0 v1 v2 v3 v4 g5 g6 (nI qn14) 0 v9 (nI nb) g11 g12 v13 g14 g15 g16 g17 g18 g19 g20 g21 g22 g23 g24 g25 g26 v27 v28 v29 v30 v31 v32 v33 v34 v35 v36 v37 (nI ol)), (v0, .inl (cA 0, 326, .inl fs))]) hP hD hS hA [2, 3] (by decide) rfl
      refine va_calli (va_runV (As := []) (rest := [.int rn19]) ⟨hx, hb, hml, hown, hts⟩ (r_availableNow l D cA sa w0 qn14 nb ol v0 v1 v2 v3 v4 v9 v13 v27 v28 v29 v30 v31 v32 v33 v34 v35 v36 v37 0 g11 g12 g14 g15 g16 g17 g18 g19 g20 g21 g22 g23 g24 g26 g5 g6 g25 cn pq en dy fs H.size hcn hpq hen hdy hri) (cwV 0 hts gX10_dispute_X10_availableNow rfl rfl rfl (by decide +kernel) ⟨(Nat.le_of_ble_eq_true rfl), (Nat.le_of_ble_eq_true rfl)⟩) ⟨Wd.blind, va_recv hK hPc (ci := 11) (q0 := 0) rfl rfl, fun U hU hW => ⟨rfl, Wd.call hPc hDc hK hC hZ hS hFc U hU hW⟩⟩ rfl rfl hl.1 rfl (lv_room (Nat.le_of_ble_eq_true rfl)) dX10_dispute_43 ⟨(Nat.le_of_ble_eq_true rfl), (Nat.le_of_ble_eq_true rfl)⟩) hS (fun q _ h => hFc q h) hFc (fun rn20 u t H1 locs ht hvm hw hB hz1 hk1 hS => ?_)
      obtain ⟨hP1, hD1⟩ := hB
      rw [ht] at hP1
      obtain ⟨hP, hD⟩ := PDq.join (w := [(v3, .inl (cA 0, 3260, .inl fn15)), (v4, .inl (cA 1, 10, .inr (.inl fn16))), (oX10 w0 v0 v1 v2 v3 v4 g5 g6 (nI qn14) 0 v9 (nI nb) g11 g12 v13 g14 g15 g16 g17 g18 g19 g20 g21 g22 g23 g24 g25 g26 v27 v28 v29 v30 v31 v32 v33 v34 v35 v36 v37 (nI ol)), (v0, .inl (cA 0, 326, .inl fs))]) 2 hP hD [2, 3] [0, 1] rfl rfl (by decide) (by decide) hk1 hFc hP1 hD1 rfl
      generalize H1 = H at hP hS ⊢
      refine va_mmin hx hb (by rw [hml]; exact hl.1.symm) hown (hts (.methodLink RX10 301 Lib.Math.min.name) (by decide +kernel)) (hts (.static Lib.Math.min.name) (by decide +kernel)) (hts (.initialized "java/lang/Math") (by decide +kernel)) (hts (.code Lib.Math.min.name Lib.Math.min.code 2 (some .int)) (by decide +kernel)) (Nat.le_of_ble_eq_true rfl) (Nat.le_of_ble_eq_true rfl) (Nat.le_of_ble_eq_true rfl) (Nat.le_of_ble_eq_true rfl) dX10_dispute_46 ?_
      refine lv_topi (fun yn21 eyn21 => ?_)
      refine lv_istore_n (lv' := [(3, .int yn21), (2, .int 1), (0, .ref w0), (1, .int (nI kn3))]) hx hb dX10_dispute_49 rfl hl (by decide) rfl (fun ls hl => ?_)
      refine lv_aload_n hx hb dX10_dispute_50 rfl (lv_at hl 2 rfl) ?_
      refine lv_iload_n hx hb dX10_dispute_51 rfl (lv_at hl 3 rfl) ?_
      refine lv_iconst (v := 3) hx hb dX10_dispute_52 (by decide) ?_
      refine lv_iload_n hx hb dX10_dispute_53 rfl (lv_at hl 0 rfl) ?_
      obtain ⟨hPc, hDc, hFc⟩ := PDq.cut (wc := [(oX10 w0 v0 v1 v2 v3 v4 g5 g6 (nI qn14) 0 v9 (nI nb) g11 g12 v13 g14 g15 g16 g17 g18 g19 g20 g21 g22 g23 g24 g25 g26 v27 v28 v29 v30 v31 v32 v33 v34 v35 v36 v37 (nI ol)), (v0, .inl (cA 0, 326, .inl fs))]) hP hD hS hA [2, 3] (by decide) rfl
      refine va_callv (va_runV (As := [.int (nI kn3), .int 3, .int yn21]) (rest := []) ⟨hx, hb, hml, hown, hts⟩ (r_set l D cA sa w0 qn14 nb ol v0 v1 v2 v3 v4 v9 v13 v27 v28 v29 v30 v31 v32 v33 v34 v35 v36 v37 0 g11 g12 g14 g15 g16 g17 g18 g19 g20 g21 g22 g23 g24 g26 g5 g6 g25 cn pq en dy fs kn3 3 yn21 H.size hcn hpq hen hdy hri (by omega) (by omega)) (cwV 3 hts gX10_dispute_X10_set rfl rfl rfl (by decide +kernel) ⟨(Nat.le_of_ble_eq_true rfl), (Nat.le_of_ble_eq_true rfl)⟩) ⟨Wd.blind, va_recv hK hPc (ci := 11) (q0 := 0) rfl rfl, fun U hU hW => ⟨rfl, Wd.call hPc hDc hK hC hZ hS hFc U hU hW⟩⟩ rfl rfl hl.1 rfl (lv_room (Nat.le_of_ble_eq_true rfl)) dX10_dispute_54 ⟨(Nat.le_of_ble_eq_true rfl), (Nat.le_of_ble_eq_true rfl)⟩) hS (fun q _ h => hFc q h) hFc (fun u t H1 locs ht hvm hw hB hz1 hk1 hS => ?_)
      obtain ⟨fn22, hn23, hP1, hD1⟩ := hB
      rw [ht] at hP1
      obtain ⟨hP, hD⟩ := PDq.join (w := [(v3, .inl (cA 0, 3260, .inl fn15)), (v4, .inl (cA 1, 10, .inr (.inl fn16))), (oX10 w0 v0 v1 v2 v3 v4 g5 g6 (nI qn14) 0 v9 (nI nb) g11 g12 v13 g14 g15 g16 g17 g18 g19 g20 g21 g22 g23 g24 g25 g26 v27 v28 v29 v30 v31 v32 v33 v34 v35 v36 v37 (nI ol)), (v0, .inl (cA 0, 326, .inl fn22))]) 2 hP hD [2, 3] [0, 1] rfl rfl (by decide) (by decide) hk1 hFc hP1 hD1 rfl
      generalize H1 = H at hP hS ⊢
      refine lv_aload_n hx hb dX10_dispute_57 rfl (lv_at hl 2 rfl) ?_
      refine lv_iload_n hx hb dX10_dispute_58 rfl (lv_at hl 3 rfl) ?_
      refine lv_iconst (v := 2) hx hb dX10_dispute_59 (by decide) ?_
      refine lv_iconst (v := 2) hx hb dX10_dispute_60 (by decide) ?_
      obtain ⟨hPc, hDc, hFc⟩ := PDq.cut (wc := [(oX10 w0 v0 v1 v2 v3 v4 g5 g6 (nI qn14) 0 v9 (nI nb) g11 g12 v13 g14 g15 g16 g17 g18 g19 g20 g21 g22 g23 g24 g25 g26 v27 v28 v29 v30 v31 v32 v33 v34 v35 v36 v37 (nI ol)), (v0, .inl (cA 0, 326, .inl fn22))]) hP hD hS hA [2, 3] (by decide) rfl
      refine va_callv (va_runV (As := [.int (nI kn3), .int 2, .int 2]) (rest := []) ⟨hx, hb, hml, hown, hts⟩ (r_set l D cA sa w0 qn14 nb ol v0 v1 v2 v3 v4 v9 v13 v27 v28 v29 v30 v31 v32 v33 v34 v35 v36 v37 0 g11 g12 g14 g15 g16 g17 g18 g19 g20 g21 g22 g23 g24 g26 g5 g6 g25 cn pq en dy fn22 kn3 2 2 H.size hcn hpq hen hdy hn23 (by omega) (by omega)) (cwV 3 hts gX10_dispute_X10_set rfl rfl rfl (by decide +kernel) ⟨(Nat.le_of_ble_eq_true rfl), (Nat.le_of_ble_eq_true rfl)⟩) ⟨Wd.blind, va_recv hK hPc (ci := 11) (q0 := 0) rfl rfl, fun U hU hW => ⟨rfl, Wd.call hPc hDc hK hC hZ hS hFc U hU hW⟩⟩ rfl rfl hl.1 rfl (lv_room (Nat.le_of_ble_eq_true rfl)) dX10_dispute_61 ⟨(Nat.le_of_ble_eq_true rfl), (Nat.le_of_ble_eq_true rfl)⟩) hS (fun q _ h => hFc q h) hFc (fun u t H1 locs ht hvm hw hB hz1 hk1 hS => ?_)
      obtain ⟨fn24, hn25, hP1, hD1⟩ := hB
      rw [ht] at hP1
      obtain ⟨hP, hD⟩ := PDq.join (w := [(v3, .inl (cA 0, 3260, .inl fn15)), (v4, .inl (cA 1, 10, .inr (.inl fn16))), (oX10 w0 v0 v1 v2 v3 v4 g5 g6 (nI qn14) 0 v9 (nI nb) g11 g12 v13 g14 g15 g16 g17 g18 g19 g20 g21 g22 g23 g24 g25 g26 v27 v28 v29 v30 v31 v32 v33 v34 v35 v36 v37 (nI ol)), (v0, .inl (cA 0, 326, .inl fn24))]) 2 hP hD [2, 3] [0, 1] rfl rfl (by decide) (by decide) hk1 hFc hP1 hD1 rfl
      generalize H1 = H at hP hS ⊢
      refine lv_iload_n hx hb dX10_dispute_64 rfl (lv_at hl 0 rfl) ?_
      obtain ⟨hP9, hD9⟩ := PDq.sub (ws' := [(oX10 w0 v0 v1 v2 v3 v4 g5 g6 (nI qn14) 0 v9 (nI nb) g11 g12 v13 g14 g15 g16 g17 g18 g19 g20 g21 g22 g23 g24 g25 g26 v27 v28 v29 v30 v31 v32 v33 v34 v35 v36 v37 (nI ol)), (v0, .inl (cA 0, 326, .inl fn24)), (v3, .inl (cA 0, 3260, .inl fn15)), (v4, .inl (cA 1, 10, .inr (.inl fn16)))]) hP hD [2, 3, 0, 1] (by decide) rfl
      refine W.widen (k := 0) (n := 0) (Nat.le_of_ble_eq_true rfl) (Nat.le_of_ble_eq_true rfl) ?_
      exact (W.iret (v := yn21) hx hb hr (fun t ht hW => ⟨⟨yn21, (), rfl, trivial, qn14, en, 0, g14, g15, g16, g17, g18, g19, g20, g21, g22, g23, g24, g26, g5, g6, g25, fn24, fn15, fn16, hn17, hn18, hen, hn25, by rw [ht]; exact hP9, hD9⟩, hS.F ht⟩) hS.2.2 dX10_dispute_65)
  · skip
    subst hr9
    refine lv_istore_n (lv' := [(2, .int 0), (0, .ref w0), (1, .int i)]) hx hb dX10_dispute_5 rfl hl (by decide) rfl (fun ls hl => ?_)
    refine lv_aload_n hx hb dX10_dispute_6 rfl (lv_at hl 1 rfl) ?_
    refine lv_iload_n hx hb dX10_dispute_7 rfl (lv_at hl 0 rfl) ?_
    refine lv_iload_n hx hb dX10_dispute_8 rfl (lv_at hl 0 rfl) ?_
    refine lv_if_eq (tgt := 24) hx hb dX10_dispute_9 (by decide) (fun c26 => ?_) (fun c9 => absurd c9 (by decide))
    refine lv_iconst (v := 0) hx hb dX10_dispute_24 (by decide) ?_
    obtain ⟨hPc, hDc, hFc⟩ := PDq.cut (wc := [(oX10 w0 v0 v1 v2 v3 v4 g5 g6 (nI ed) g8 v9 (nI nb) g11 g12 v13 g14 g15 g16 g17 g18 g19 g20 g21 g22 g23 g24 g25 g26 v27 v28 v29 v30 v31 v32 v33 v34 v35 v36 v37 (nI ol))]) hP hD hS hA [2] (by decide) rfl
    refine va_calli (va_runV (As := [.int 0, .int 0]) (rest := []) ⟨hx, hb, hml, hown, hts⟩ (r_good_00 l D cA sa w0 ed nb ol v0 v1 v2 v3 v4 v9 v13 v27 v28 v29 v30 v31 v32 v33 v34 v35 v36 v37 g8 g11 g12 g14 g15 g16 g17 g18 g19 g20 g21 g22 g23 g24 g26 g5 g6 g25 H.size) (cwV 2 hts gX10_dispute_X10_good_ rfl rfl rfl (by decide +kernel) ⟨(Nat.le_of_ble_eq_true rfl), (Nat.le_of_ble_eq_true rfl)⟩) ⟨Wd.blind, va_recv hK hPc (ci := 11) (q0 := 0) rfl rfl, fun U hU hW => ⟨rfl, Wd.call hPc hDc hK hC hZ hS hFc U hU hW⟩⟩ rfl rfl hl.1 rfl (lv_room (Nat.le_of_ble_eq_true rfl)) dX10_dispute_25 ⟨(Nat.le_of_ble_eq_true rfl), (Nat.le_of_ble_eq_true rfl)⟩) hS (fun q _ h => hFc q h) hFc (fun rn27 u t H1 locs ht hvm hw hB hz1 hk1 hS => ?_)
    obtain ⟨hP1, hD1⟩ := hB
    rw [ht] at hP1
    obtain ⟨hP, hD⟩ := PDq.join (w := [(v3, .inl (cA 0, 3260, .inl fh)), (v4, .inl (cA 1, 10, .inr (.inl fl))), (v0, .inl (cA 0, 326, .inl fs)), (oX10 w0 v0 v1 v2 v3 v4 g5 g6 (nI ed) 1 v9 (nI nb) g11 g12 v13 g14 g15 g16 g17 g18 g19 g20 g21 g22 g23 g24 g25 g26 v27 v28 v29 v30 v31 v32 v33 v34 v35 v36 v37 (nI ol))]) 3 hP hD [2] [0, 1, 3] rfl rfl (by decide) (by decide) hk1 hFc hP1 hD1 rfl
    generalize H1 = H at hP hS ⊢
    obtain rfl : rn27 = 0 := hw
    refine lv_if_ne (tgt := 33) hx hb dX10_dispute_28 (by decide) (fun c9 => absurd c9 (by decide)) (fun c28 => ?_)
    refine lv_iconst (v := 0) hx hb dX10_dispute_31 (by decide) ?_
    obtain ⟨hP9, hD9⟩ := PDq.sub (ws' := [(oX10 w0 v0 v1 v2 v3 v4 g5 g6 (nI ed) 1 v9 (nI nb) g11 g12 v13 g14 g15 g16 g17 g18 g19 g20 g21 g22 g23 g24 g25 g26 v27 v28 v29 v30 v31 v32 v33 v34 v35 v36 v37 (nI ol)), (v0, .inl (cA 0, 326, .inl fs)), (v3, .inl (cA 0, 3260, .inl fh)), (v4, .inl (cA 1, 10, .inr (.inl fl)))]) hP hD [3, 2, 0, 1] (by decide) rfl
    refine W.widen (k := 0) (n := 0) (Nat.le_of_ble_eq_true rfl) (Nat.le_of_ble_eq_true rfl) ?_
    exact (W.iret (v := 0) hx hb hr (fun t ht hW => ⟨⟨0, (), rfl, trivial, ed, en, 1, g14, g15, g16, g17, g18, g19, g20, g21, g22, g23, g24, g26, g5, g6, g25, fs, fh, fl, hed, hHI, hen, hri, by rw [ht]; exact hP9, hD9⟩, hS.F ht⟩) hS.2.2 dX10_dispute_32)

set_option maxHeartbeats 4000000 in
set_option maxRecDepth 100000 in
/-- reference: withdraw -/
theorem r_withdraw (l : Launch) (D : va_G) (cA : Nat → ClassId) (sa : Nat → Nat) (w0 : Nat) (ed : Nat) (nb : Nat) (ol : Nat) (v0 : Nat) (v1 : Nat) (v2 : Nat) (v3 : Nat) (v4 : Nat) (v9 : Nat) (v13 : Nat) (v27 : Nat) (v28 : Nat) (v29 : Nat) (v30 : Nat) (v31 : Nat) (v32 : Nat) (v33 : Nat) (v34 : Nat) (v35 : Nat) (v36 : Nat) (v37 : Nat) (g8 : Int32) (g11 : Int32) (g12 : Int32) (g14 : Int32) (g15 : Int32) (g16 : Int32) (g17 : Int32) (g18 : Int32) (g19 : Int32) (g20 : Int32) (g21 : Int32) (g22 : Int32) (g23 : Int32) (g24 : Int32) (g26 : Int32) (g5 : Int64) (g6 : Int64) (g25 : Int64) (cn : Nat) (pq : Nat) (en : Nat) (dy : Nat) (fs : Nat → Int32) (fh : Nat → Int32) (fl : Nat → Int64) (i : Int32) (sz : Nat) (hcn : cn ≤ 10) (hpq : pq ≤ 8) (hen : en ≤ 60) (hdy : dy ≤ 20000) (hri : RI cn pq en dy fs) (hed : ed ≤ 10) (hHI : HI cn pq ed fh) (hd9 : dy ≤ 9999) : Met l yX10_withdraw wsX10_withdraw ({ frames := 2, cells := 0, slots := 0, locals := 46 }) (va_Pc [.ref w0, .int i] (Wd D cA sa [(oX10 w0 v0 v1 v2 v3 v4 g5 g6 (nI ed) g8 v9 (nI nb) g11 g12 v13 g14 g15 g16 g17 g18 g19 g20 g21 g22 g23 g24 g25 g26 v27 v28 v29 v30 v31 v32 v33 v34 v35 v36 v37 (nI ol)), (v0, .inl (cA 0, 326, .inl fs)), (v3, .inl (cA 0, 3260, .inl fh)), (v4, .inl (cA 1, 10, .inr (.inl fl)))] sz)) (va_Qi (fun (r : Int32) (_ : Unit) => True) (fun (_ : Unit) t => ∃ ed2 : Nat, ∃ e2 : Nat, ∃ z8 : Int32, ∃ z14 : Int32, ∃ z15 : Int32, ∃ z16 : Int32, ∃ z17 : Int32, ∃ z18 : Int32, ∃ z19 : Int32, ∃ z20 : Int32, ∃ z21 : Int32, ∃ z22 : Int32, ∃ z23 : Int32, ∃ z24 : Int32, ∃ z26 : Int32, ∃ z5 : Int64, ∃ z6 : Int64, ∃ z25 : Int64, ∃ zs : Nat → Int32, ∃ zh : Nat → Int32, ∃ zl : Nat → Int64, ed2 ≤ 10 ∧ HI cn pq ed2 zh ∧ e2 ≤ 60 ∧ RI cn pq e2 dy zs ∧ Wq D (va_A [(oX10 w0 v0 v1 v2 v3 v4 g5 g6 (nI ed) g8 v9 (nI nb) g11 g12 v13 g14 g15 g16 g17 g18 g19 g20 g21 g22 g23 g24 g25 g26 v27 v28 v29 v30 v31 v32 v33 v34 v35 v36 v37 (nI ol)), (v0, .inl (cA 0, 326, .inl fs)), (v3, .inl (cA 0, 3260, .inl fh)), (v4, .inl (cA 1, 10, .inr (.inl fl)))] sz) [(oX10 w0 v0 v1 v2 v3 v4 z5 z6 (nI ed2) z8 v9 (nI nb) g11 g12 v13 z14 z15 z16 z17 z18 z19 z20 z21 z22 z23 z24 z25 z26 v27 v28 v29 v30 v31 v32 v33 v34 v35 v36 v37 (nI ol)), (v0, .inl (cA 0, 326, .inl zs)), (v3, .inl (cA 0, 3260, .inl zh)), (v4, .inl (cA 1, 10, .inr (.inl zl)))] t) (va_A [(oX10 w0 v0 v1 v2 v3 v4 g5 g6 (nI ed) g8 v9 (nI nb) g11 g12 v13 g14 g15 g16 g17 g18 g19 g20 g21 g22 g23 g24 g25 g26 v27 v28 v29 v30 v31 v32 v33 v34 v35 v36 v37 (nI ol)), (v0, .inl (cA 0, 326, .inl fs)), (v3, .inl (cA 0, 3260, .inl fh)), (v4, .inl (cA 1, 10, .inr (.inl fl)))] sz)) 0 0 (va_A [(oX10 w0 v0 v1 v2 v3 v4 g5 g6 (nI ed) g8 v9 (nI nb) g11 g12 v13 g14 g15 g16 g17 g18 g19 g20 g21 g22 g23 g24 g25 g26 v27 v28 v29 v30 v31 v32 v33 v34 v35 v36 v37 (nI ol)), (v0, .inl (cA 0, 326, .inl fs)), (v3, .inl (cA 0, 3260, .inl fh)), (v4, .inl (cA 1, 10, .inr (.inl fl)))] sz) := by
  refine Met.ofW (cc := cX10_withdraw) (maxL := 3) (ret := (some .int)) (by decide) rfl ?_
  intro p e s m args below meth c s₁ B hml hv
  obtain ⟨rfl, hsz, hP, hK, hD0, hC, hZ⟩ := hv
  have hx := B.exec
  have hb := B.bytes
  have hr := B.returns
  have hts := atoms_spec (ws := wsX10_withdraw) B.pre
  have hown : s.vm.findClass RX10 = some m.cls := findClass_of_methodNamed B.named
  have hlocks := B.notSynchronized
  subst hsz
  have hD := hD0.self (sz := s.heap.size)
  generalize hAe : va_A [(oX10 w0 v0 v1 v2 v3 v4 g5 g6 (nI ed) g8 v9 (nI nb) g11 g12 v13 g14 g15 g16 g17 g18 g19 g20 g21 g22 g23 g24 g25 g26 v27 v28 v29 v30 v31 v32 v33 v34 v35 v36 v37 (nI ol)), (v0, .inl (cA 0, 326, .inl fs)), (v3, .inl (cA 0, 3260, .inl fh)), (v4, .inl (cA 1, 10, .inr (.inl fl)))] s.heap.size = A at hD hZ ⊢
  have hA : ∀ q : Nat, s.heap.size ≤ q → A q := fun q h => by rw [← hAe]; exact Or.inr h
  have hS : va_S A s.heap s.heap [] := va_S.rf
  have hP : va_P D vwCl [(oX10 w0 v0 v1 v2 v3 v4 g5 g6 (nI ed) g8 v9 (nI nb) g11 g12 v13 g14 g15 g16 g17 g18 g19 g20 g21 g22 g23 g24 g25 g26 v27 v28 v29 v30 v31 v32 v33 v34 v35 v36 v37 (nI ol)), (v0, .inl (cA 0, 326, .inl fs)), (v3, .inl (cA 0, 3260, .inl fh)), (v4, .inl (cA 1, 10, .inr (.inl fl)))] s.heap := hP
  have hl := lv_entry ([.ref w0, .int i]) (n := 3) (Nat.le_of_ble_eq_true rfl)
  rw [lg_entry_eq]
  generalize (lg_sl ([.ref w0, .int i]) ++ List.replicate (3 - (lg_sl ([.ref w0, .int i])).length) Slot.unset).toArray = ls at hl ⊢
  have hl : lv_has ls 3 [(0, .ref w0), (1, .int i)] := hl
  refine lv_aload_n hx hb dX10_withdraw_0 rfl (lv_at hl 0 rfl) ?_
  refine lv_iload_n hx hb dX10_withdraw_1 rfl (lv_at hl 1 rfl) ?_
  obtain ⟨hPc, hDc, hFc⟩ := PDq.cut (wc := [(oX10 w0 v0 v1 v2 v3 v4 g5 g6 (nI ed) g8 v9 (nI nb) g11 g12 v13 g14 g15 g16 g17 g18 g19 g20 g21 g22 g23 g24 g25 g26 v27 v28 v29 v30 v31 v32 v33 v34 v35 v36 v37 (nI ol)), (v0, .inl (cA 0, 326, .inl fs))]) hP hD hS hA [0, 1] (by decide) rfl
  refine va_calli (va_runV (As := [.int i]) (rest := []) ⟨hx, hb, hml, hown, hts⟩ (r_isMilestone l D cA sa w0 ed nb ol v0 v1 v2 v3 v4 v9 v13 v27 v28 v29 v30 v31 v32 v33 v34 v35 v36 v37 g8 g11 g12 g14 g15 g16 g17 g18 g19 g20 g21 g22 g23 g24 g26 g5 g6 g25 cn pq en dy fs i s.heap.size hcn hpq hen hdy hri) (cwV 1 hts gX10_withdraw_X10_isMilestone rfl rfl rfl (by decide +kernel) ⟨(Nat.le_of_ble_eq_true rfl), (Nat.le_of_ble_eq_true rfl)⟩) ⟨Wd.blind, va_recv hK hPc (ci := 11) (q0 := 0) rfl rfl, fun U hU hW => ⟨rfl, Wd.call hPc hDc hK hC hZ hS hFc U hU hW⟩⟩ rfl rfl hl.1 rfl (lv_room (Nat.le_of_ble_eq_true rfl)) dX10_withdraw_2 ⟨(Nat.le_of_ble_eq_true rfl), (Nat.le_of_ble_eq_true rfl)⟩) hS (fun q _ h => hFc q h) hFc (fun rn1 u t H1 locs ht hvm hw hB hz1 hk1 hS => ?_)
  obtain ⟨hP1, hD1⟩ := hB
  rw [ht] at hP1
  obtain ⟨hP, hD⟩ := PDq.join (w := [(v3, .inl (cA 0, 3260, .inl fh)), (v4, .inl (cA 1, 10, .inr (.inl fl))), (oX10 w0 v0 v1 v2 v3 v4 g5 g6 (nI ed) g8 v9 (nI nb) g11 g12 v13 g14 g15 g16 g17 g18 g19 g20 g21 g22 g23 g24 g25 g26 v27 v28 v29 v30 v31 v32 v33 v34 v35 v36 v37 (nI ol)), (v0, .inl (cA 0, 326, .inl fs))]) 2 hP hD [0, 1] [2, 3] rfl rfl (by decide) (by decide) hk1 hFc hP1 hD1 rfl
  generalize H1 = H at hP hS ⊢
  rcases hw with ⟨hr9, hn2⟩ | hr9
  · skip
    subst hr9
    obtain ⟨kn3, hn4, hn5⟩ := hn2
    rw [hn5] at hl
    have hl : lv_has ls 3 [(0, .ref w0), (1, .int (nI kn3))] := hl
    refine lv_istore_n (lv' := [(2, .int 1), (0, .ref w0), (1, .int (nI kn3))]) hx hb dX10_withdraw_5 rfl hl (by decide) rfl (fun ls hl => ?_)
    refine lv_aload_n hx hb dX10_withdraw_6 rfl (lv_at hl 1 rfl) ?_
    refine lv_iload_n hx hb dX10_withdraw_7 rfl (lv_at hl 0 rfl) ?_
    refine lv_iload_n hx hb dX10_withdraw_8 rfl (lv_at hl 0 rfl) ?_
    refine lv_if_eq (tgt := 26) hx hb dX10_withdraw_9 (by decide) (fun c9 => absurd c9 (by decide)) (fun c6 => ?_)
    refine lv_aload_n hx hb dX10_withdraw_12 rfl (lv_at hl 1 rfl) ?_
    refine lv_iload_n hx hb dX10_withdraw_13 rfl (lv_at hl 2 rfl) ?_
    refine lv_iconst (v := 2) hx hb dX10_withdraw_14 (by decide) ?_
    obtain ⟨hPc, hDc, hFc⟩ := PDq.cut (wc := [(oX10 w0 v0 v1 v2 v3 v4 g5 g6 (nI ed) g8 v9 (nI nb) g11 g12 v13 g14 g15 g16 g17 g18 g19 g20 g21 g22 g23 g24 g25 g26 v27 v28 v29 v30 v31 v32 v33 v34 v35 v36 v37 (nI ol)), (v0, .inl (cA 0, 326, .inl fs))]) hP hD hS hA [2, 3] (by decide) rfl
    refine va_calli (va_runV (As := [.int (nI kn3), .int 2]) (rest := [.int 1, .ref w0]) ⟨hx, hb, hml, hown, hts⟩ (r_of l D cA sa w0 ed nb ol v0 v1 v2 v3 v4 v9 v13 v27 v28 v29 v30 v31 v32 v33 v34 v35 v36 v37 g8 g11 g12 g14 g15 g16 g17 g18 g19 g20 g21 g22 g23 g24 g26 g5 g6 g25 fs kn3 2 H.size (by omega) (by omega)) (cwV 2 hts gX10_withdraw_X10_of rfl rfl rfl (by decide +kernel) ⟨(Nat.le_of_ble_eq_true rfl), (Nat.le_of_ble_eq_true rfl)⟩) ⟨Wd.blind, va_recv hK hPc (ci := 11) (q0 := 0) rfl rfl, fun U hU hW => ⟨rfl, Wd.call hPc hDc hK hC hZ hS hFc U hU hW⟩⟩ rfl rfl hl.1 rfl (lv_room (Nat.le_of_ble_eq_true rfl)) dX10_withdraw_15 ⟨(Nat.le_of_ble_eq_true rfl), (Nat.le_of_ble_eq_true rfl)⟩) hS (fun q _ h => hFc q h) hFc (fun rn7 u t H1 locs ht hvm hw hB hz1 hk1 hS => ?_)
    obtain ⟨hP1, hD1⟩ := hB
    rw [ht] at hP1
    obtain ⟨hP, hD⟩ := PDq.join (w := [(v3, .inl (cA 0, 3260, .inl fh)), (v4, .inl (cA 1, 10, .inr (.inl fl))), (oX10 w0 v0 v1 v2 v3 v4 g5 g6 (nI ed) g8 v9 (nI nb) g11 g12 v13 g14 g15 g16 g17 g18 g19 g20 g21 g22 g23 g24 g25 g26 v27 v28 v29 v30 v31 v32 v33 v34 v35 v36 v37 (nI ol)), (v0, .inl (cA 0, 326, .inl fs))]) 2 hP hD [2, 3] [0, 1] rfl rfl (by decide) (by decide) hk1 hFc hP1 hD1 rfl
    generalize H1 = H at hP hS ⊢
    obtain rfl : rn7 = (fs (16 + 7 * kn3 + 2)) := hw
    refine lv_iconst (v := 2) hx hb dX10_withdraw_18 (by decide) ?_
    refine lv_icmp_ne (tgt := 26) hx hb dX10_withdraw_19 (by decide) (fun c8 => ?_) (fun c8 => ?_)
    · skip
      refine lv_iconst (v := 0) hx hb dX10_withdraw_26 (by decide) ?_
      obtain ⟨hPc, hDc, hFc⟩ := PDq.cut (wc := [(oX10 w0 v0 v1 v2 v3 v4 g5 g6 (nI ed) g8 v9 (nI nb) g11 g12 v13 g14 g15 g16 g17 g18 g19 g20 g21 g22 g23 g24 g25 g26 v27 v28 v29 v30 v31 v32 v33 v34 v35 v36 v37 (nI ol))]) hP hD hS hA [2] (by decide) rfl
      refine va_calli (va_runV (As := [.int 1, .int 0]) (rest := []) ⟨hx, hb, hml, hown, hts⟩ (r_good_10 l D cA sa w0 ed nb ol v0 v1 v2 v3 v4 v9 v13 v27 v28 v29 v30 v31 v32 v33 v34 v35 v36 v37 g8 g11 g12 g14 g15 g16 g17 g18 g19 g20 g21 g22 g23 g24 g26 g5 g6 g25 H.size) (cwV 2 hts gX10_withdraw_X10_good_ rfl rfl rfl (by decide +kernel) ⟨(Nat.le_of_ble_eq_true rfl), (Nat.le_of_ble_eq_true rfl)⟩) ⟨Wd.blind, va_recv hK hPc (ci := 11) (q0 := 0) rfl rfl, fun U hU hW => ⟨rfl, Wd.call hPc hDc hK hC hZ hS hFc U hU hW⟩⟩ rfl rfl hl.1 rfl (lv_room (Nat.le_of_ble_eq_true rfl)) dX10_withdraw_27 ⟨(Nat.le_of_ble_eq_true rfl), (Nat.le_of_ble_eq_true rfl)⟩) hS (fun q _ h => hFc q h) hFc (fun rn9 u t H1 locs ht hvm hw hB hz1 hk1 hS => ?_)
      obtain ⟨hP1, hD1⟩ := hB
      rw [ht] at hP1
      obtain ⟨hP, hD⟩ := PDq.join (w := [(v3, .inl (cA 0, 3260, .inl fh)), (v4, .inl (cA 1, 10, .inr (.inl fl))), (v0, .inl (cA 0, 326, .inl fs)), (oX10 w0 v0 v1 v2 v3 v4 g5 g6 (nI ed) 2 v9 (nI nb) g11 g12 v13 g14 g15 g16 g17 g18 g19 g20 g21 g22 g23 g24 g25 g26 v27 v28 v29 v30 v31 v32 v33 v34 v35 v36 v37 (nI ol))]) 3 hP hD [2] [0, 1, 3] rfl rfl (by decide) (by decide) hk1 hFc hP1 hD1 rfl
      generalize H1 = H at hP hS ⊢
      obtain rfl : rn9 = 0 := hw
      refine lv_if_ne (tgt := 35) hx hb dX10_withdraw_30 (by decide) (fun c9 => absurd c9 (by decide)) (fun c10 => ?_)
      refine lv_iconst (v := 0) hx hb dX10_withdraw_33 (by decide) ?_
      obtain ⟨hP9, hD9⟩ := PDq.sub (ws' := [(oX10 w0 v0 v1 v2 v3 v4 g5 g6 (nI ed) 2 v9 (nI nb) g11 g12 v13 g14 g15 g16 g17 g18 g19 g20 g21 g22 g23 g24 g25 g26 v27 v28 v29 v30 v31 v32 v33 v34 v35 v36 v37 (nI ol)), (v0, .inl (cA 0, 326, .inl fs)), (v3, .inl (cA 0, 3260, .inl fh)), (v4, .inl (cA 1, 10, .inr (.inl fl)))]) hP hD [3, 2, 0, 1] (by decide) rfl
      refine W.widen (k := 0) (n := 0) (Nat.le_of_ble_eq_true rfl) (Nat.le_of_ble_eq_true rfl) ?_
      exact (W.iret (v := 0) hx hb hr (fun t ht hW => ⟨⟨0, (), rfl, trivial, ed, en, 2, g14, g15, g16, g17, g18, g19, g20, g21, g22, g23, g24, g26, g5, g6, g25, fs, fh, fl, hed, hHI, hen, hri, by rw [ht]; exact hP9, hD9⟩, hS.F ht⟩) hS.2.2 dX10_withdraw_34)
    · skip
      refine lv_iconst (v := 1) hx hb dX10_withdraw_22 (by decide) ?_
      refine lv_goto (tgt := 27) hx hb dX10_withdraw_23 (by decide) ?_
      obtain ⟨hPc, hDc, hFc⟩ := PDq.cut (wc := [(oX10 w0 v0 v1 v2 v3 v4 g5 g6 (nI ed) g8 v9 (nI nb) g11 g12 v13 g14 g15 g16 g17 g18 g19 g20 g21 g22 g23 g24 g25 g26 v27 v28 v29 v30 v31 v32 v33 v34 v35 v36 v37 (nI ol))]) hP hD hS hA [2] (by decide) rfl
      refine va_calli (va_runV (As := [.int 1, .int 1]) (rest := []) ⟨hx, hb, hml, hown, hts⟩ (r_good_11 l D cA sa w0 ed nb ol v0 v1 v2 v3 v4 v9 v13 v27 v28 v29 v30 v31 v32 v33 v34 v35 v36 v37 g8 g11 g12 g14 g15 g16 g17 g18 g19 g20 g21 g22 g23 g24 g26 g5 g6 g25 H.size) (cwV 2 hts gX10_withdraw_X10_good_ rfl rfl rfl (by decide +kernel) ⟨(Nat.le_of_ble_eq_true rfl), (Nat.le_of_ble_eq_true rfl)⟩) ⟨Wd.blind, va_recv hK hPc (ci := 11) (q0 := 0) rfl rfl, fun U hU hW => ⟨rfl, Wd.call hPc hDc hK hC hZ hS hFc U hU hW⟩⟩ rfl rfl hl.1 rfl (lv_room (Nat.le_of_ble_eq_true rfl)) dX10_withdraw_27 ⟨(Nat.le_of_ble_eq_true rfl), (Nat.le_of_ble_eq_true rfl)⟩) hS (fun q _ h => hFc q h) hFc (fun rn11 u t H1 locs ht hvm hw hB hz1 hk1 hS => ?_)
      obtain ⟨hP1, hD1⟩ := hB
      rw [ht] at hP1
      obtain ⟨hP, hD⟩ := PDq.join (w := [(v3, .inl (cA 0, 3260, .inl fh)), (v4, .inl (cA 1, 10, .inr (.inl fl))), (v0, .inl (cA 0, 326, .inl fs)), (oX10 w0 v0 v1 v2 v3 v4 g5 g6 (nI ed) 0 v9 (nI nb) g11 g12 v13 g14 g15 g16 g17 g18 g19 g20 g21 g22 g23 g24 g25 g26 v27 v28 v29 v30 v31 v32 v33 v34 v35 v36 v37 (nI ol))]) 3 hP hD [2] [0, 1, 3] rfl rfl (by decide) (by decide) hk1 hFc hP1 hD1 rfl
      generalize H1 = H at hP hS ⊢
      obtain rfl : rn11 = 1 := hw
      refine lv_if_ne (tgt := 35) hx hb dX10_withdraw_30 (by decide) (fun c12 => ?_) (fun c9 => absurd c9 (by decide))
      refine lv_aload_n hx hb dX10_withdraw_35 rfl (lv_at hl 1 rfl) ?_
      obtain ⟨hPc, hDc, hFc⟩ := PDq.cut (wc := [(oX10 w0 v0 v1 v2 v3 v4 g5 g6 (nI ed) 0 v9 (nI nb) g11 g12 v13 g14 g15 g16 g17 g18 g19 g20 g21 g22 g23 g24 g25 g26 v27 v28 v29 v30 v31 v32 v33 v34 v35 v36 v37 (nI ol)), (v0, .inl (cA 0, 326, .inl fs)), (v3, .inl (cA 0, 3260, .inl fh)), (v4, .inl (cA 1, 10, .inr (.inl fl)))]) hP hD hS hA [3, 2, 0, 1] (by decide) rfl
      refine va_callv (va_runV (As := []) (rest := []) ⟨hx, hb, hml, hown, hts⟩ (r_remember l D cA sa w0 ed nb ol v0 v1 v2 v3 v4 v9 v13 v27 v28 v29 v30 v31 v32 v33 v34 v35 v36 v37 0 g11 g12 g14 g15 g16 g17 g18 g19 g20 g21 g22 g23 g24 g26 g5 g6 g25 cn pq en dy fs fh fl H.size hcn hpq hen hdy hri hed hHI hd9) (cwV 0 hts gX10_withdraw_X10_remember rfl rfl rfl (by decide +kernel) ⟨(Nat.le_of_ble_eq_true rfl), (Nat.le_of_ble_eq_true rfl)⟩) ⟨Wd.blind, va_recv hK hPc (ci := 11) (q0 := 0) rfl rfl, fun U hU hW => ⟨rfl, Wd.call hPc hDc hK hC hZ hS hFc U hU hW⟩⟩ rfl rfl hl.1 rfl (lv_room (Nat.le_of_ble_eq_true rfl)) dX10_withdraw_36 ⟨(Nat.le_of_ble_eq_true rfl), (Nat.le_of_ble_eq_true rfl)⟩) hS (fun q _ h => hFc q h) hFc (fun u t H1 locs ht hvm hw hB hz1 hk1 hS => ?_)
      obtain ⟨qn13, fn14, fn15, hn16, hn17, hP1, hD1⟩ := hB
      rw [ht] at hP1
      obtain ⟨hP, hD⟩ := PDq.join (w := [(oX10 w0 v0 v1 v2 v3 v4 g5 g6 (nI qn13) 0 v9 (nI nb) g11 g12 v13 g14 g15 g16 g17 g18 g19 g20 g21 g22 g23 g24 g25 g26 v27 v28 v29 v30 v31 v32 v33 v34 v35 v36 v37 (nI ol)), (v0, .inl (cA 0, 326, .inl fs)), (v3, .inl (cA 0, 3260, .inl fn14)), (v4, .inl (cA 1, 10, .inr (.inl fn15)))]) 0 hP hD [3, 2, 0, 1] [] rfl rfl (by decide) (by decide) hk1 hFc hP1 hD1 rfl
      generalize H1 = H at hP hS ⊢
      refine lv_aload_n hx hb dX10_withdraw_39 rfl (lv_at hl 1 rfl) ?_
      refine lv_iload_n hx hb dX10_withdraw_40 rfl (lv_at hl 2 rfl) ?_
      refine lv_iconst (v := 3) hx hb dX10_withdraw_41 (by decide) ?_
      refine lv_iconst (v := 0) hx hb dX10_withdraw_42 (by decide) ?_
      obtain ⟨hPc, hDc, hFc⟩ := PDq.cut (wc := [(oX10 w0 v0 v1 v2 v3 v4 g5 g6 (nI qn13) 0 v9 (nI nb) g11 g12 v13 g14 g15 g16 g17 g18 g19 g20 g21 g22 g23 g24 g25 g26 v27 v28 v29 v30 v31 v32 v33 v34 v35 v36 v37 (nI ol)), (v0, .inl (cA 0, 326, .inl fs))]) hP hD hS hA [0, 1] (by decide) rfl
      refine va_callv (va_runV (As := [.int (nI kn3), .int 3, .int 0]) (rest := []) ⟨hx, hb, hml, hown, hts⟩ (r_set l D cA sa w0 qn13 nb ol v0 v1 v2 v3 v4 v9 v13 v27 v28 v29 v30 v31 v32 v33 v34 v35 v36 v37 0 g11 g12 g14 g15 g16 g17 g18 g19 g20 g21 g22 g23 g24 g26 g5 g6 g25 cn pq en dy fs kn3 3 0 H.size hcn hpq hen hdy hri (by omega) (by omega)) (cwV 3 hts gX10_withdraw_X10_set rfl rfl rfl (by decide +kernel) ⟨(Nat.le_of_ble_eq_true rfl), (Nat.le_of_ble_eq_true rfl)⟩) ⟨Wd.blind, va_recv hK hPc (ci := 11) (q0 := 0) rfl rfl, fun U hU hW => ⟨rfl, Wd.call hPc hDc hK hC hZ hS hFc U hU hW⟩⟩ rfl rfl hl.1 rfl (lv_room (Nat.le_of_ble_eq_true rfl)) dX10_withdraw_43 ⟨(Nat.le_of_ble_eq_true rfl), (Nat.le_of_ble_eq_true rfl)⟩) hS (fun q _ h => hFc q h) hFc (fun u t H1 locs ht hvm hw hB hz1 hk1 hS => ?_)
      obtain ⟨fn18, hn19, hP1, hD1⟩ := hB
      rw [ht] at hP1
      obtain ⟨hP, hD⟩ := PDq.join (w := [(v3, .inl (cA 0, 3260, .inl fn14)), (v4, .inl (cA 1, 10, .inr (.inl fn15))), (oX10 w0 v0 v1 v2 v3 v4 g5 g6 (nI qn13) 0 v9 (nI nb) g11 g12 v13 g14 g15 g16 g17 g18 g19 g20 g21 g22 g23 g24 g25 g26 v27 v28 v29 v30 v31 v32 v33 v34 v35 v36 v37 (nI ol)), (v0, .inl (cA 0, 326, .inl fn18))]) 2 hP hD [0, 1] [2, 3] rfl rfl (by decide) (by decide) hk1 hFc hP1 hD1 rfl
      generalize H1 = H at hP hS ⊢
      refine lv_aload_n hx hb dX10_withdraw_46 rfl (lv_at hl 1 rfl) ?_
      refine lv_iload_n hx hb dX10_withdraw_47 rfl (lv_at hl 2 rfl) ?_
      refine lv_iconst (v := 2) hx hb dX10_withdraw_48 (by decide) ?_
      refine lv_iconst (v := 0) hx hb dX10_withdraw_49 (by decide) ?_
      obtain ⟨hPc, hDc, hFc⟩ := PDq.cut (wc := [(oX10 w0 v0 v1 v2 v3 v4 g5 g6 (nI qn13) 0 v9 (nI nb) g11 g12 v13 g14 g15 g16 g17 g18 g19 g20 g21 g22 g23 g24 g25 g26 v27 v28 v29 v30 v31 v32 v33 v34 v35 v36 v37 (nI ol)), (v0, .inl (cA 0, 326, .inl fn18))]) hP hD hS hA [2, 3] (by decide) rfl
      refine va_callv (va_runV (As := [.int (nI kn3), .int 2, .int 0]) (rest := []) ⟨hx, hb, hml, hown, hts⟩ (r_set l D cA sa w0 qn13 nb ol v0 v1 v2 v3 v4 v9 v13 v27 v28 v29 v30 v31 v32 v33 v34 v35 v36 v37 0 g11 g12 g14 g15 g16 g17 g18 g19 g20 g21 g22 g23 g24 g26 g5 g6 g25 cn pq en dy fn18 kn3 2 0 H.size hcn hpq hen hdy hn19 (by omega) (by omega)) (cwV 3 hts gX10_withdraw_X10_set rfl rfl rfl (by decide +kernel) ⟨(Nat.le_of_ble_eq_true rfl), (Nat.le_of_ble_eq_true rfl)⟩) ⟨Wd.blind, va_recv hK hPc (ci := 11) (q0 := 0) rfl rfl, fun U hU hW => ⟨rfl, Wd.call hPc hDc hK hC hZ hS hFc U hU hW⟩⟩ rfl rfl hl.1 rfl (lv_room (Nat.le_of_ble_eq_true rfl)) dX10_withdraw_50 ⟨(Nat.le_of_ble_eq_true rfl), (Nat.le_of_ble_eq_true rfl)⟩) hS (fun q _ h => hFc q h) hFc (fun u t H1 locs ht hvm hw hB hz1 hk1 hS => ?_)
      obtain ⟨fn20, hn21, hP1, hD1⟩ := hB
      rw [ht] at hP1
      obtain ⟨hP, hD⟩ := PDq.join (w := [(v3, .inl (cA 0, 3260, .inl fn14)), (v4, .inl (cA 1, 10, .inr (.inl fn15))), (oX10 w0 v0 v1 v2 v3 v4 g5 g6 (nI qn13) 0 v9 (nI nb) g11 g12 v13 g14 g15 g16 g17 g18 g19 g20 g21 g22 g23 g24 g25 g26 v27 v28 v29 v30 v31 v32 v33 v34 v35 v36 v37 (nI ol)), (v0, .inl (cA 0, 326, .inl fn20))]) 2 hP hD [2, 3] [0, 1] rfl rfl (by decide) (by decide) hk1 hFc hP1 hD1 rfl
      generalize H1 = H at hP hS ⊢
      refine lv_aload_n hx hb dX10_withdraw_53 rfl (lv_at hl 1 rfl) ?_
      obtain ⟨hPc, hDc, hFc⟩ := PDq.cut (wc := [(oX10 w0 v0 v1 v2 v3 v4 g5 g6 (nI qn13) 0 v9 (nI nb) g11 g12 v13 g14 g15 g16 g17 g18 g19 g20 g21 g22 g23 g24 g25 g26 v27 v28 v29 v30 v31 v32 v33 v34 v35 v36 v37 (nI ol)), (v0, .inl (cA 0, 326, .inl fn20))]) hP hD hS hA [2, 3] (by decide) rfl
      refine va_calli (va_runV (As := []) (rest := []) ⟨hx, hb, hml, hown, hts⟩ (r_availableNow l D cA sa w0 qn13 nb ol v0 v1 v2 v3 v4 v9 v13 v27 v28 v29 v30 v31 v32 v33 v34 v35 v36 v37 0 g11 g12 g14 g15 g16 g17 g18 g19 g20 g21 g22 g23 g24 g26 g5 g6 g25 cn pq en dy fn20 H.size hcn hpq hen hdy hn21) (cwV 0 hts gX10_withdraw_X10_availableNow rfl rfl rfl (by decide +kernel) ⟨(Nat.le_of_ble_eq_true rfl), (Nat.le_of_ble_eq_true rfl)⟩) ⟨Wd.blind, va_recv hK hPc (ci := 11) (q0 := 0) rfl rfl, fun U hU hW => ⟨rfl, Wd.call hPc hDc hK hC hZ hS hFc U hU hW⟩⟩ rfl rfl hl.1 rfl (lv_room (Nat.le_of_ble_eq_true rfl)) dX10_withdraw_54 ⟨(Nat.le_of_ble_eq_true rfl), (Nat.le_of_ble_eq_true rfl)⟩) hS (fun q _ h => hFc q h) hFc (fun rn22 u t H1 locs ht hvm hw hB hz1 hk1 hS => ?_)
      obtain ⟨hP1, hD1⟩ := hB
      rw [ht] at hP1
      obtain ⟨hP, hD⟩ := PDq.join (w := [(v3, .inl (cA 0, 3260, .inl fn14)), (v4, .inl (cA 1, 10, .inr (.inl fn15))), (oX10 w0 v0 v1 v2 v3 v4 g5 g6 (nI qn13) 0 v9 (nI nb) g11 g12 v13 g14 g15 g16 g17 g18 g19 g20 g21 g22 g23 g24 g25 g26 v27 v28 v29 v30 v31 v32 v33 v34 v35 v36 v37 (nI ol)), (v0, .inl (cA 0, 326, .inl fn20))]) 2 hP hD [2, 3] [0, 1] rfl rfl (by decide) (by decide) hk1 hFc hP1 hD1 rfl
      generalize H1 = H at hP hS ⊢
      obtain ⟨hP9, hD9⟩ := PDq.sub (ws' := [(oX10 w0 v0 v1 v2 v3 v4 g5 g6 (nI qn13) 0 v9 (nI nb) g11 g12 v13 g14 g15 g16 g17 g18 g19 g20 g21 g22 g23 g24 g25 g26 v27 v28 v29 v30 v31 v32 v33 v34 v35 v36 v37 (nI ol)), (v0, .inl (cA 0, 326, .inl fn20)), (v3, .inl (cA 0, 3260, .inl fn14)), (v4, .inl (cA 1, 10, .inr (.inl fn15)))]) hP hD [2, 3, 0, 1] (by decide) rfl
      refine W.widen (k := 0) (n := 0) (Nat.le_of_ble_eq_true rfl) (Nat.le_of_ble_eq_true rfl) ?_
      exact (W.iret (v := rn22) hx hb hr (fun t ht hW => ⟨⟨rn22, (), rfl, trivial, qn13, en, 0, g14, g15, g16, g17, g18, g19, g20, g21, g22, g23, g24, g26, g5, g6, g25, fn20, fn14, fn15, hn16, hn17, hen, hn21, by rw [ht]; exact hP9, hD9⟩, hS.F ht⟩) hS.2.2 dX10_withdraw_57)
  · skip
    subst hr9
    refine lv_istore_n (lv' := [(2, .int 0), (0, .ref w0), (1, .int i)]) hx hb dX10_withdraw_5 rfl hl (by decide) rfl (fun ls hl => ?_)
    refine lv_aload_n hx hb dX10_withdraw_6 rfl (lv_at hl 1 rfl) ?_
    refine lv_iload_n hx hb dX10_withdraw_7 rfl (lv_at hl 0 rfl) ?_
    refine lv_iload_n hx hb dX10_withdraw_8 rfl (lv_at hl 0 rfl) ?_
    refine lv_if_eq (tgt := 26) hx hb dX10_withdraw_9 (by decide) (fun c23 => ?_) (fun c9 => absurd c9 (by decide))
    refine lv_iconst (v := 0) hx hb dX10_withdraw_26 (by decide) ?_
    obtain ⟨hPc, hDc, hFc⟩ := PDq.cut (wc := [(oX10 w0 v0 v1 v2 v3 v4 g5 g6 (nI ed) g8 v9 (nI nb) g11 g12 v13 g14 g15 g16 g17 g18 g19 g20 g21 g22 g23 g24 g25 g26 v27 v28 v29 v30 v31 v32 v33 v34 v35 v36 v37 (nI ol))]) hP hD hS hA [2] (by decide) rfl
    refine va_calli (va_runV (As := [.int 0, .int 0]) (rest := []) ⟨hx, hb, hml, hown, hts⟩ (r_good_00 l D cA sa w0 ed nb ol v0 v1 v2 v3 v4 v9 v13 v27 v28 v29 v30 v31 v32 v33 v34 v35 v36 v37 g8 g11 g12 g14 g15 g16 g17 g18 g19 g20 g21 g22 g23 g24 g26 g5 g6 g25 H.size) (cwV 2 hts gX10_withdraw_X10_good_ rfl rfl rfl (by decide +kernel) ⟨(Nat.le_of_ble_eq_true rfl), (Nat.le_of_ble_eq_true rfl)⟩) ⟨Wd.blind, va_recv hK hPc (ci := 11) (q0 := 0) rfl rfl, fun U hU hW => ⟨rfl, Wd.call hPc hDc hK hC hZ hS hFc U hU hW⟩⟩ rfl rfl hl.1 rfl (lv_room (Nat.le_of_ble_eq_true rfl)) dX10_withdraw_27 ⟨(Nat.le_of_ble_eq_true rfl), (Nat.le_of_ble_eq_true rfl)⟩) hS (fun q _ h => hFc q h) hFc (fun rn24 u t H1 locs ht hvm hw hB hz1 hk1 hS => ?_)
    obtain ⟨hP1, hD1⟩ := hB
    rw [ht] at hP1
    obtain ⟨hP, hD⟩ := PDq.join (w := [(v3, .inl (cA 0, 3260, .inl fh)), (v4, .inl (cA 1, 10, .inr (.inl fl))), (v0, .inl (cA 0, 326, .inl fs)), (oX10 w0 v0 v1 v2 v3 v4 g5 g6 (nI ed) 1 v9 (nI nb) g11 g12 v13 g14 g15 g16 g17 g18 g19 g20 g21 g22 g23 g24 g25 g26 v27 v28 v29 v30 v31 v32 v33 v34 v35 v36 v37 (nI ol))]) 3 hP hD [2] [0, 1, 3] rfl rfl (by decide) (by decide) hk1 hFc hP1 hD1 rfl
    generalize H1 = H at hP hS ⊢
    obtain rfl : rn24 = 0 := hw
    refine lv_if_ne (tgt := 35) hx hb dX10_withdraw_30 (by decide) (fun c9 => absurd c9 (by decide)) (fun c25 => ?_)
    refine lv_iconst (v := 0) hx hb dX10_withdraw_33 (by decide) ?_
    obtain ⟨hP9, hD9⟩ := PDq.sub (ws' := [(oX10 w0 v0 v1 v2 v3 v4 g5 g6 (nI ed) 1 v9 (nI nb) g11 g12 v13 g14 g15 g16 g17 g18 g19 g20 g21 g22 g23 g24 g25 g26 v27 v28 v29 v30 v31 v32 v33 v34 v35 v36 v37 (nI ol)), (v0, .inl (cA 0, 326, .inl fs)), (v3, .inl (cA 0, 3260, .inl fh)), (v4, .inl (cA 1, 10, .inr (.inl fl)))]) hP hD [3, 2, 0, 1] (by decide) rfl
    refine W.widen (k := 0) (n := 0) (Nat.le_of_ble_eq_true rfl) (Nat.le_of_ble_eq_true rfl) ?_
    exact (W.iret (v := 0) hx hb hr (fun t ht hW => ⟨⟨0, (), rfl, trivial, ed, en, 1, g14, g15, g16, g17, g18, g19, g20, g21, g22, g23, g24, g26, g5, g6, g25, fs, fh, fl, hed, hHI, hen, hri, by rw [ht]; exact hP9, hD9⟩, hS.F ht⟩) hS.2.2 dX10_withdraw_34)

set_option maxHeartbeats 4000000 in
set_option maxRecDepth 100000 in
/-- reference: cancel -/
theorem r_cancel (l : Launch) (D : va_G) (cA : Nat → ClassId) (sa : Nat → Nat) (w0 : Nat) (ed : Nat) (nb : Nat) (ol : Nat) (v0 : Nat) (v1 : Nat) (v2 : Nat) (v3 : Nat) (v4 : Nat) (v9 : Nat) (v13 : Nat) (v27 : Nat) (v28 : Nat) (v29 : Nat) (v30 : Nat) (v31 : Nat) (v32 : Nat) (v33 : Nat) (v34 : Nat) (v35 : Nat) (v36 : Nat) (v37 : Nat) (g8 : Int32) (g11 : Int32) (g12 : Int32) (g14 : Int32) (g15 : Int32) (g16 : Int32) (g17 : Int32) (g18 : Int32) (g19 : Int32) (g20 : Int32) (g21 : Int32) (g22 : Int32) (g23 : Int32) (g24 : Int32) (g26 : Int32) (g5 : Int64) (g6 : Int64) (g25 : Int64) (cn : Nat) (pq : Nat) (en : Nat) (dy : Nat) (fs : Nat → Int32) (fh : Nat → Int32) (fl : Nat → Int64) (i : Int32) (sz : Nat) (hcn : cn ≤ 10) (hpq : pq ≤ 8) (hen : en ≤ 60) (hdy : dy ≤ 20000) (hri : RI cn pq en dy fs) (hed : ed ≤ 10) (hHI : HI cn pq ed fh) (hd9 : dy ≤ 9999) : Met l yX10_cancel wsX10_cancel ({ frames := 3, cells := 0, slots := 0, locals := 64 }) (va_Pc [.ref w0, .int i] (Wd D cA sa [(oX10 w0 v0 v1 v2 v3 v4 g5 g6 (nI ed) g8 v9 (nI nb) g11 g12 v13 g14 g15 g16 g17 g18 g19 g20 g21 g22 g23 g24 g25 g26 v27 v28 v29 v30 v31 v32 v33 v34 v35 v36 v37 (nI ol)), (v0, .inl (cA 0, 326, .inl fs)), (v3, .inl (cA 0, 3260, .inl fh)), (v4, .inl (cA 1, 10, .inr (.inl fl)))] sz)) (va_Qi (fun (r : Int32) (_ : Unit) => True) (fun (_ : Unit) t => ∃ ed2 : Nat, ∃ e2 : Nat, ∃ z8 : Int32, ∃ z14 : Int32, ∃ z15 : Int32, ∃ z16 : Int32, ∃ z17 : Int32, ∃ z18 : Int32, ∃ z19 : Int32, ∃ z20 : Int32, ∃ z21 : Int32, ∃ z22 : Int32, ∃ z23 : Int32, ∃ z24 : Int32, ∃ z26 : Int32, ∃ z5 : Int64, ∃ z6 : Int64, ∃ z25 : Int64, ∃ zs : Nat → Int32, ∃ zh : Nat → Int32, ∃ zl : Nat → Int64, ed2 ≤ 10 ∧ HI cn pq ed2 zh ∧ e2 ≤ 60 ∧ RI cn pq e2 dy zs ∧ Wq D (va_A [(oX10 w0 v0 v1 v2 v3 v4 g5 g6 (nI ed) g8 v9 (nI nb) g11 g12 v13 g14 g15 g16 g17 g18 g19 g20 g21 g22 g23 g24 g25 g26 v27 v28 v29 v30 v31 v32 v33 v34 v35 v36 v37 (nI ol)), (v0, .inl (cA 0, 326, .inl fs)), (v3, .inl (cA 0, 3260, .inl fh)), (v4, .inl (cA 1, 10, .inr (.inl fl)))] sz) [(oX10 w0 v0 v1 v2 v3 v4 z5 z6 (nI ed2) z8 v9 (nI nb) g11 g12 v13 z14 z15 z16 z17 z18 z19 z20 z21 z22 z23 z24 z25 z26 v27 v28 v29 v30 v31 v32 v33 v34 v35 v36 v37 (nI ol)), (v0, .inl (cA 0, 326, .inl zs)), (v3, .inl (cA 0, 3260, .inl zh)), (v4, .inl (cA 1, 10, .inr (.inl zl)))] t) (va_A [(oX10 w0 v0 v1 v2 v3 v4 g5 g6 (nI ed) g8 v9 (nI nb) g11 g12 v13 g14 g15 g16 g17 g18 g19 g20 g21 g22 g23 g24 g25 g26 v27 v28 v29 v30 v31 v32 v33 v34 v35 v36 v37 (nI ol)), (v0, .inl (cA 0, 326, .inl fs)), (v3, .inl (cA 0, 3260, .inl fh)), (v4, .inl (cA 1, 10, .inr (.inl fl)))] sz)) 0 0 (va_A [(oX10 w0 v0 v1 v2 v3 v4 g5 g6 (nI ed) g8 v9 (nI nb) g11 g12 v13 g14 g15 g16 g17 g18 g19 g20 g21 g22 g23 g24 g25 g26 v27 v28 v29 v30 v31 v32 v33 v34 v35 v36 v37 (nI ol)), (v0, .inl (cA 0, 326, .inl fs)), (v3, .inl (cA 0, 3260, .inl fh)), (v4, .inl (cA 1, 10, .inr (.inl fl)))] sz) := by
  refine Met.ofW (cc := cX10_cancel) (maxL := 4) (ret := (some .int)) (by decide) rfl ?_
  intro p e s m args below meth c s₁ B hml hv
  obtain ⟨rfl, hsz, hP, hK, hD0, hC, hZ⟩ := hv
  have hx := B.exec
  have hb := B.bytes
  have hr := B.returns
  have hts := atoms_spec (ws := wsX10_cancel) B.pre
  have hown : s.vm.findClass RX10 = some m.cls := findClass_of_methodNamed B.named
  have hlocks := B.notSynchronized
  subst hsz
  have hD := hD0.self (sz := s.heap.size)
  generalize hAe : va_A [(oX10 w0 v0 v1 v2 v3 v4 g5 g6 (nI ed) g8 v9 (nI nb) g11 g12 v13 g14 g15 g16 g17 g18 g19 g20 g21 g22 g23 g24 g25 g26 v27 v28 v29 v30 v31 v32 v33 v34 v35 v36 v37 (nI ol)), (v0, .inl (cA 0, 326, .inl fs)), (v3, .inl (cA 0, 3260, .inl fh)), (v4, .inl (cA 1, 10, .inr (.inl fl)))] s.heap.size = A at hD hZ ⊢
  have hA : ∀ q : Nat, s.heap.size ≤ q → A q := fun q h => by rw [← hAe]; exact Or.inr h
  have hS : va_S A s.heap s.heap [] := va_S.rf
  have hP : va_P D vwCl [(oX10 w0 v0 v1 v2 v3 v4 g5 g6 (nI ed) g8 v9 (nI nb) g11 g12 v13 g14 g15 g16 g17 g18 g19 g20 g21 g22 g23 g24 g25 g26 v27 v28 v29 v30 v31 v32 v33 v34 v35 v36 v37 (nI ol)), (v0, .inl (cA 0, 326, .inl fs)), (v3, .inl (cA 0, 3260, .inl fh)), (v4, .inl (cA 1, 10, .inr (.inl fl)))] s.heap := hP
  have hl := lv_entry ([.ref w0, .int i]) (n := 4) (Nat.le_of_ble_eq_true rfl)
  rw [lg_entry_eq]
  generalize (lg_sl ([.ref w0, .int i]) ++ List.replicate (4 - (lg_sl ([.ref w0, .int i])).length) Slot.unset).toArray = ls at hl ⊢
  have hl : lv_has ls 4 [(0, .ref w0), (1, .int i)] := hl
  refine lv_aload_n hx hb dX10_cancel_0 rfl (lv_at hl 0 rfl) ?_
  refine lv_iload_n hx hb dX10_cancel_1 rfl (lv_at hl 1 rfl) ?_
  obtain ⟨hPc, hDc, hFc⟩ := PDq.cut (wc := [(oX10 w0 v0 v1 v2 v3 v4 g5 g6 (nI ed) g8 v9 (nI nb) g11 g12 v13 g14 g15 g16 g17 g18 g19 g20 g21 g22 g23 g24 g25 g26 v27 v28 v29 v30 v31 v32 v33 v34 v35 v36 v37 (nI ol)), (v0, .inl (cA 0, 326, .inl fs))]) hP hD hS hA [0, 1] (by decide) rfl
  refine va_calli (va_runV (As := [.int i]) (rest := []) ⟨hx, hb, hml, hown, hts⟩ (r_isMilestone l D cA sa w0 ed nb ol v0 v1 v2 v3 v4 v9 v13 v27 v28 v29 v30 v31 v32 v33 v34 v35 v36 v37 g8 g11 g12 g14 g15 g16 g17 g18 g19 g20 g21 g22 g23 g24 g26 g5 g6 g25 cn pq en dy fs i s.heap.size hcn hpq hen hdy hri) (cwV 1 hts gX10_cancel_X10_isMilestone rfl rfl rfl (by decide +kernel) ⟨(Nat.le_of_ble_eq_true rfl), (Nat.le_of_ble_eq_true rfl)⟩) ⟨Wd.blind, va_recv hK hPc (ci := 11) (q0 := 0) rfl rfl, fun U hU hW => ⟨rfl, Wd.call hPc hDc hK hC hZ hS hFc U hU hW⟩⟩ rfl rfl hl.1 rfl (lv_room (Nat.le_of_ble_eq_true rfl)) dX10_cancel_2 ⟨(Nat.le_of_ble_eq_true rfl), (Nat.le_of_ble_eq_true rfl)⟩) hS (fun q _ h => hFc q h) hFc (fun rn1 u t H1 locs ht hvm hw hB hz1 hk1 hS => ?_)
  obtain ⟨hP1, hD1⟩ := hB
  rw [ht] at hP1
  obtain ⟨hP, hD⟩ := PDq.join (w := [(v3, .inl (cA 0, 3260, .inl fh)), (v4, .inl (cA 1, 10, .inr (.inl fl))), (oX10 w0 v0 v1 v2 v3 v4 g5 g6 (nI ed) g8 v9 (nI nb) g11 g12 v13 g14 g15 g16 g17 g18 g19 g20 g21 g22 g23 g24 g25 g26 v27 v28 v29 v30 v31 v32 v33 v34 v35 v36 v37 (nI ol)), (v0, .inl (cA 0, 326, .inl fs))]) 2 hP hD [0, 1] [2, 3] rfl rfl (by decide) (by decide) hk1 hFc hP1 hD1 rfl
  generalize H1 = H at hP hS ⊢
  rcases hw with ⟨hr9, hn2⟩ | hr9
  · skip
    subst hr9
    obtain ⟨kn3, hn4, hn5⟩ := hn2
    rw [hn5] at hl
    have hl : lv_has ls 4 [(0, .ref w0), (1, .int (nI kn3))] := hl
    refine lv_istore_n (lv' := [(2, .int 1), (0, .ref w0), (1, .int (nI kn3))]) hx hb dX10_cancel_5 rfl hl (by decide) rfl (fun ls hl => ?_)
    refine lv_aload_n hx hb dX10_cancel_6 rfl (lv_at hl 1 rfl) ?_
    refine lv_iload_n hx hb dX10_cancel_7 rfl (lv_at hl 0 rfl) ?_
    refine lv_iload_n hx hb dX10_cancel_8 rfl (lv_at hl 0 rfl) ?_
    refine lv_if_eq (tgt := 24) hx hb dX10_cancel_9 (by decide) (fun c9 => absurd c9 (by decide)) (fun c6 => ?_)
    refine lv_aload_n hx hb dX10_cancel_12 rfl (lv_at hl 1 rfl) ?_
    refine lv_iload_n hx hb dX10_cancel_13 rfl (lv_at hl 2 rfl) ?_
    obtain ⟨hPc, hDc, hFc⟩ := PDq.cut (wc := [(oX10 w0 v0 v1 v2 v3 v4 g5 g6 (nI ed) g8 v9 (nI nb) g11 g12 v13 g14 g15 g16 g17 g18 g19 g20 g21 g22 g23 g24 g25 g26 v27 v28 v29 v30 v31 v32 v33 v34 v35 v36 v37 (nI ol)), (v0, .inl (cA 0, 326, .inl fs))]) hP hD hS hA [2, 3] (by decide) rfl
    refine va_calli (va_runV (As := [.int (nI kn3)]) (rest := [.int 1, .ref w0]) ⟨hx, hb, hml, hown, hts⟩ (r_isOpenOrDue l D cA sa w0 ed nb ol v0 v1 v2 v3 v4 v9 v13 v27 v28 v29 v30 v31 v32 v33 v34 v35 v36 v37 g8 g11 g12 g14 g15 g16 g17 g18 g19 g20 g21 g22 g23 g24 g26 g5 g6 g25 fs kn3 H.size (by omega)) (cwV 1 hts gX10_cancel_X10_isOpenOrDue rfl rfl rfl (by decide +kernel) ⟨(Nat.le_of_ble_eq_true rfl), (Nat.le_of_ble_eq_true rfl)⟩) ⟨Wd.blind, va_recv hK hPc (ci := 11) (q0 := 0) rfl rfl, fun U hU hW => ⟨rfl, Wd.call hPc hDc hK hC hZ hS hFc U hU hW⟩⟩ rfl rfl hl.1 rfl (lv_room (Nat.le_of_ble_eq_true rfl)) dX10_cancel_14 ⟨(Nat.le_of_ble_eq_true rfl), (Nat.le_of_ble_eq_true rfl)⟩) hS (fun q _ h => hFc q h) hFc (fun rn7 u t H1 locs ht hvm hw hB hz1 hk1 hS => ?_)
    obtain ⟨hP1, hD1⟩ := hB
    rw [ht] at hP1
    obtain ⟨hP, hD⟩ := PDq.join (w := [(v3, .inl (cA 0, 3260, .inl fh)), (v4, .inl (cA 1, 10, .inr (.inl fl))), (oX10 w0 v0 v1 v2 v3 v4 g5 g6 (nI ed) g8 v9 (nI nb) g11 g12 v13 g14 g15 g16 g17 g18 g19 g20 g21 g22 g23 g24 g25 g26 v27 v28 v29 v30 v31 v32 v33 v34 v35 v36 v37 (nI ol)), (v0, .inl (cA 0, 326, .inl fs))]) 2 hP hD [2, 3] [0, 1] rfl rfl (by decide) (by decide) hk1 hFc hP1 hD1 rfl
    generalize H1 = H at hP hS ⊢
    have hn8 := hw
    refine lv_if_eq (tgt := 24) hx hb dX10_cancel_17 (by decide) (fun c9 => ?_) (fun c9 => ?_)
    · skip
      refine lv_iconst (v := 0) hx hb dX10_cancel_24 (by decide) ?_
      obtain ⟨hPc, hDc, hFc⟩ := PDq.cut (wc := [(oX10 w0 v0 v1 v2 v3 v4 g5 g6 (nI ed) g8 v9 (nI nb) g11 g12 v13 g14 g15 g16 g17 g18 g19 g20 g21 g22 g23 g24 g25 g26 v27 v28 v29 v30 v31 v32 v33 v34 v35 v36 v37 (nI ol))]) hP hD hS hA [2] (by decide) rfl
      refine va_calli (va_runV (As := [.int 1, .int 0]) (rest := []) ⟨hx, hb, hml, hown, hts⟩ (r_good_10 l D cA sa w0 ed nb ol v0 v1 v2 v3 v4 v9 v13 v27 v28 v29 v30 v31 v32 v33 v34 v35 v36 v37 g8 g11 g12 g14 g15 g16 g17 g18 g19 g20 g21 g22 g23 g24 g26 g5 g6 g25 H.size) (cwV 2 hts gX10_cancel_X10_good_ rfl rfl rfl (by decide +kernel) ⟨(Nat.le_of_ble_eq_true rfl), (Nat.le_of_ble_eq_true rfl)⟩) ⟨Wd.blind, va_recv hK hPc (ci := 11) (q0 := 0) rfl rfl, fun U hU hW => ⟨rfl, Wd.call hPc hDc hK hC hZ hS hFc U hU hW⟩⟩ rfl rfl hl.1 rfl (lv_room (Nat.le_of_ble_eq_true rfl)) dX10_cancel_25 ⟨(Nat.le_of_ble_eq_true rfl), (Nat.le_of_ble_eq_true rfl)⟩) hS (fun q _ h => hFc q h) hFc (fun rn10 u t H1 locs ht hvm hw hB hz1 hk1 hS => ?_)
      obtain ⟨hP1, hD1⟩ := hB
      rw [ht] at hP1
      obtain ⟨hP, hD⟩ := PDq.join (w := [(v3, .inl (cA 0, 3260, .inl fh)), (v4, .inl (cA 1, 10, .inr (.inl fl))), (v0, .inl (cA 0, 326, .inl fs)), (oX10 w0 v0 v1 v2 v3 v4 g5 g6 (nI ed) 2 v9 (nI nb) g11 g12 v13 g14 g15 g16 g17 g18 g19 g20 g21 g22 g23 g24 g25 g26 v27 v28 v29 v30 v31 v32 v33 v34 v35 v36 v37 (nI ol))]) 3 hP hD [2] [0, 1, 3] rfl rfl (by decide) (by decide) hk1 hFc hP1 hD1 rfl
      generalize H1 = H at hP hS ⊢
      obtain rfl : rn10 = 0 := hw
      refine lv_if_ne (tgt := 33) hx hb dX10_cancel_28 (by decide) (fun c9 => absurd c9 (by decide)) (fun c11 => ?_)
      refine lv_iconst (v := 0) hx hb dX10_cancel_31 (by decide) ?_
      obtain ⟨hP9, hD9⟩ := PDq.sub (ws' := [(oX10 w0 v0 v1 v2 v3 v4 g5 g6 (nI ed) 2 v9 (nI nb) g11 g12 v13 g14 g15 g16 g17 g18 g19 g20 g21 g22 g23 g24 g25 g26 v27 v28 v29 v30 v31 v32 v33 v34 v35 v36 v37 (nI ol)), (v0, .inl (cA 0, 326, .inl fs)), (v3, .inl (cA 0, 3260, .inl fh)), (v4, .inl (cA 1, 10, .inr (.inl fl)))]) hP hD [3, 2, 0, 1] (by decide) rfl
      refine W.widen (k := 0) (n := 0) (Nat.le_of_ble_eq_true rfl) (Nat.le_of_ble_eq_true rfl) ?_
      exact (W.iret (v := 0) hx hb hr (fun t ht hW => ⟨⟨0, (), rfl, trivial, ed, en, 2, g14, g15, g16, g17, g18, g19, g20, g21, g22, g23, g24, g26, g5, g6, g25, fs, fh, fl, hed, hHI, hen, hri, by rw [ht]; exact hP9, hD9⟩, hS.F ht⟩) hS.2.2 dX10_cancel_32)
    · skip
      refine lv_iconst (v := 1) hx hb dX10_cancel_20 (by decide) ?_
      refine lv_goto (tgt := 25) hx hb dX10_cancel_21 (by decide) ?_
      obtain ⟨hPc, hDc, hFc⟩ := PDq.cut (wc := [(oX10 w0 v0 v1 v2 v3 v4 g5 g6 (nI ed) g8 v9 (nI nb) g11 g12 v13 g14 g15 g16 g17 g18 g19 g20 g21 g22 g23 g24 g25 g26 v27 v28 v29 v30 v31 v32 v33 v34 v35 v36 v37 (nI ol))]) hP hD hS hA [2] (by decide) rfl
      refine va_calli (va_runV (As := [.int 1, .int 1]) (rest := []) ⟨hx, hb, hml, hown, hts⟩ (r_good_11 l D cA sa w0 ed nb ol v0 v1 v2 v3 v4 v9 v13 v27 v28 v29 v30 v31 v32 v33 v34 v35 v36 v37 g8 g11 g12 g14 g15 g16 g17 g18 g19 g20 g21 g22 g23 g24 g26 g5 g6 g25 H.size) (cwV 2 hts gX10_cancel_X10_good_ rfl rfl rfl (by decide +kernel) ⟨(Nat.le_of_ble_eq_true rfl), (Nat.le_of_ble_eq_true rfl)⟩) ⟨Wd.blind, va_recv hK hPc (ci := 11) (q0 := 0) rfl rfl, fun U hU hW => ⟨rfl, Wd.call hPc hDc hK hC hZ hS hFc U hU hW⟩⟩ rfl rfl hl.1 rfl (lv_room (Nat.le_of_ble_eq_true rfl)) dX10_cancel_25 ⟨(Nat.le_of_ble_eq_true rfl), (Nat.le_of_ble_eq_true rfl)⟩) hS (fun q _ h => hFc q h) hFc (fun rn12 u t H1 locs ht hvm hw hB hz1 hk1 hS => ?_)
      obtain ⟨hP1, hD1⟩ := hB
      rw [ht] at hP1
      obtain ⟨hP, hD⟩ := PDq.join (w := [(v3, .inl (cA 0, 3260, .inl fh)), (v4, .inl (cA 1, 10, .inr (.inl fl))), (v0, .inl (cA 0, 326, .inl fs)), (oX10 w0 v0 v1 v2 v3 v4 g5 g6 (nI ed) 0 v9 (nI nb) g11 g12 v13 g14 g15 g16 g17 g18 g19 g20 g21 g22 g23 g24 g25 g26 v27 v28 v29 v30 v31 v32 v33 v34 v35 v36 v37 (nI ol))]) 3 hP hD [2] [0, 1, 3] rfl rfl (by decide) (by decide) hk1 hFc hP1 hD1 rfl
      generalize H1 = H at hP hS ⊢
      obtain rfl : rn12 = 1 := hw
      refine lv_if_ne (tgt := 33) hx hb dX10_cancel_28 (by decide) (fun c13 => ?_) (fun c9 => absurd c9 (by decide))
      refine lv_aload_n hx hb dX10_cancel_33 rfl (lv_at hl 1 rfl) ?_
      obtain ⟨hPc, hDc, hFc⟩ := PDq.cut (wc := [(oX10 w0 v0 v1 v2 v3 v4 g5 g6 (nI ed) 0 v9 (nI nb) g11 g12 v13 g14 g15 g16 g17 g18 g19 g20 g21 g22 g23 g24 g25 g26 v27 v28 v29 v30 v31 v32 v33 v34 v35 v36 v37 (nI ol)), (v0, .inl (cA 0, 326, .inl fs)), (v3, .inl (cA 0, 3260, .inl fh)), (v4, .inl (cA 1, 10, .inr (.inl fl)))]) hP hD hS hA [3, 2, 0, 1] (by decide) rfl
      refine va_callv (va_runV (As := []) (rest := []) ⟨hx, hb, hml, hown, hts⟩ (r_remember l D cA sa w0 ed nb ol v0 v1 v2 v3 v4 v9 v13 v27 v28 v29 v30 v31 v32 v33 v34 v35 v36 v37 0 g11 g12 g14 g15 g16 g17 g18 g19 g20 g21 g22 g23 g24 g26 g5 g6 g25 cn pq en dy fs fh fl H.size hcn hpq hen hdy hri hed hHI hd9) (cwV 0 hts gX10_cancel_X10_remember rfl rfl rfl (by decide +kernel) ⟨(Nat.le_of_ble_eq_true rfl), (Nat.le_of_ble_eq_true rfl)⟩) ⟨Wd.blind, va_recv hK hPc (ci := 11) (q0 := 0) rfl rfl, fun U hU hW => ⟨rfl, Wd.call hPc hDc hK hC hZ hS hFc U hU hW⟩⟩ rfl rfl hl.1 rfl (lv_room (Nat.le_of_ble_eq_true rfl)) dX10_cancel_34 ⟨(Nat.le_of_ble_eq_true rfl), (Nat.le_of_ble_eq_true rfl)⟩) hS (fun q _ h => hFc q h) hFc (fun u t H1 locs ht hvm hw hB hz1 hk1 hS => ?_)
      obtain ⟨qn14, fn15, fn16, hn17, hn18, hP1, hD1⟩ := hB
      rw [ht] at hP1
      obtain ⟨hP, hD⟩ := PDq.join (w := [(oX10 w0 v0 v1 v2 v3 v4 g5 g6 (nI qn14) 0 v9 (nI nb) g11 g12 v13 g14 g15 g16 g17 g18 g19 g20 g21 g22 g23 g24 g25 g26 v27 v28 v29 v30 v31 v32 v33 v34 v35 v36 v37 (nI ol)), (v0, .inl (cA 0, 326, .inl fs)), (v3, .inl (cA 0, 3260, .inl fn15)), (v4, .inl (cA 1, 10, .inr (.inl fn16)))]) 0 hP hD [3, 2, 0, 1] [] rfl rfl (by decide) (by decide) hk1 hFc hP1 hD1 rfl
      generalize H1 = H at hP hS ⊢
      refine lv_aload_n hx hb dX10_cancel_37 rfl (lv_at hl 1 rfl) ?_
      refine lv_iload_n hx hb dX10_cancel_38 rfl (lv_at hl 2 rfl) ?_
      obtain ⟨hPc, hDc, hFc⟩ := PDq.cut (wc := [(oX10 w0 v0 v1 v2 v3 v4 g5 g6 (nI qn14) 0 v9 (nI nb) g11 g12 v13 g14 g15 g16 g17 g18 g19 g20 g21 g22 g23 g24 g25 g26 v27 v28 v29 v30 v31 v32 v33 v34 v35 v36 v37 (nI ol)), (v0, .inl (cA 0, 326, .inl fs))]) hP hD hS hA [0, 1] (by decide) rfl
      refine va_calli (va_runV (As := [.int (nI kn3)]) (rest := []) ⟨hx, hb, hml, hown, hts⟩ (r_remainingOf l D cA sa w0 qn14 nb ol v0 v1 v2 v3 v4 v9 v13 v27 v28 v29 v30 v31 v32 v33 v34 v35 v36 v37 0 g11 g12 g14 g15 g16 g17 g18 g19 g20 g21 g22 g23 g24 g26 g5 g6 g25 fs kn3 H.size (by omega)) (cwV 1 hts gX10_cancel_X10_remainingOf rfl rfl rfl (by decide +kernel) ⟨(Nat.le_of_ble_eq_true rfl), (Nat.le_of_ble_eq_true rfl)⟩) ⟨Wd.blind, va_recv hK hPc (ci := 11) (q0 := 0) rfl rfl, fun U hU hW => ⟨rfl, Wd.call hPc hDc hK hC hZ hS hFc U hU hW⟩⟩ rfl rfl hl.1 rfl (lv_room (Nat.le_of_ble_eq_true rfl)) dX10_cancel_39 ⟨(Nat.le_of_ble_eq_true rfl), (Nat.le_of_ble_eq_true rfl)⟩) hS (fun q _ h => hFc q h) hFc (fun rn19 u t H1 locs ht hvm hw hB hz1 hk1 hS => ?_)
      obtain ⟨hP1, hD1⟩ := hB
      rw [ht] at hP1
      obtain ⟨hP, hD⟩ := PDq.join (w := [(v3, .inl (cA 0, 3260, .inl fn15)), (v4, .inl (cA 1, 10, .inr (.inl fn16))), (oX10 w0 v0 v1 v2 v3 v4 g5 g6 (nI qn14) 0 v9 (nI nb) g11 g12 v13 g14 g15 g16 g17 g18 g19 g20 g21 g22 g23 g24 g25 g26 v27 v28 v29 v30 v31 v32 v33 v34 v35 v36 v37 (nI ol)), (v0, .inl (cA 0, 326, .inl fs))]) 2 hP hD [0, 1] [2, 3] rfl rfl (by decide) (by decide) hk1 hFc hP1 hD1 rfl
      generalize H1 = H at hP hS ⊢
      refine lv_istore_n (lv' := [(3, .int rn19), (2, .int 1), (0, .ref w0), (1, .int (nI kn3))]) hx hb dX10_cancel_42 rfl hl (by decide) rfl (fun ls hl => ?_)
      refine lv_aload_n hx hb dX10_cancel_43 rfl (lv_at hl 2 rfl) ?_
      refine lv_iload_n hx hb dX10_cancel_44 rfl (lv_at hl 3 rfl) ?_
      refine lv_iconst (v := 2) hx hb dX10_cancel_45 (by decide) ?_
      refine lv_iconst (v := 5) hx hb dX10_cancel_46 (by decide) ?_
      obtain ⟨hPc, hDc, hFc⟩ := PDq.cut (wc := [(oX10 w0 v0 v1 v2 v3 v4 g5 g6 (nI qn14) 0 v9 (nI nb) g11 g12 v13 g14 g15 g16 g17 g18 g19 g20 g21 g22 g23 g24 g25 g26 v27 v28 v29 v30 v31 v32 v33 v34 v35 v36 v37 (nI ol)), (v0, .inl (cA 0, 326, .inl fs))]) hP hD hS hA [2, 3] (by decide) rfl
      refine va_callv (va_runV (As := [.int (nI kn3), .int 2, .int 5]) (rest := []) ⟨hx, hb, hml, hown, hts⟩ (r_set l D cA sa w0 qn14 nb ol v0 v1 v2 v3 v4 v9 v13 v27 v28 v29 v30 v31 v32 v33 v34 v35 v36 v37 0 g11 g12 g14 g15 g16 g17 g18 g19 g20 g21 g22 g23 g24 g26 g5 g6 g25 cn pq en dy fs kn3 2 5 H.size hcn hpq hen hdy hri (by omega) (by omega)) (cwV 3 hts gX10_cancel_X10_set rfl rfl rfl (by decide +kernel) ⟨(Nat.le_of_ble_eq_true rfl), (Nat.le_of_ble_eq_true rfl)⟩) ⟨Wd.blind, va_recv hK hPc (ci := 11) (q0 := 0) rfl rfl, fun U hU hW => ⟨rfl, Wd.call hPc hDc hK hC hZ hS hFc U hU hW⟩⟩ rfl rfl hl.1 rfl (lv_room (Nat.le_of_ble_eq_true rfl)) dX10_cancel_47 ⟨(Nat.le_of_ble_eq_true rfl), (Nat.le_of_ble_eq_true rfl)⟩) hS (fun q _ h => hFc q h) hFc (fun u t H1 locs ht hvm hw hB hz1 hk1 hS => ?_)
      obtain ⟨fn20, hn21, hP1, hD1⟩ := hB
      rw [ht] at hP1
      obtain ⟨hP, hD⟩ := PDq.join (w := [(v3, .inl (cA 0, 3260, .inl fn15)), (v4, .inl (cA 1, 10, .inr (.inl fn16))), (oX10 w0 v0 v1 v2 v3 v4 g5 g6 (nI qn14) 0 v9 (nI nb) g11 g12 v13 g14 g15 g16 g17 g18 g19 g20 g21 g22 g23 g24 g25 g26 v27 v28 v29 v30 v31 v32 v33 v34 v35 v36 v37 (nI ol)), (v0, .inl (cA 0, 326, .inl fn20))]) 2 hP hD [2, 3] [0, 1] rfl rfl (by decide) (by decide) hk1 hFc hP1 hD1 rfl
      generalize H1 = H at hP hS ⊢
      refine lv_iload_n hx hb dX10_cancel_50 rfl (lv_at hl 0 rfl) ?_
      obtain ⟨hP9, hD9⟩ := PDq.sub (ws' := [(oX10 w0 v0 v1 v2 v3 v4 g5 g6 (nI qn14) 0 v9 (nI nb) g11 g12 v13 g14 g15 g16 g17 g18 g19 g20 g21 g22 g23 g24 g25 g26 v27 v28 v29 v30 v31 v32 v33 v34 v35 v36 v37 (nI ol)), (v0, .inl (cA 0, 326, .inl fn20)), (v3, .inl (cA 0, 3260, .inl fn15)), (v4, .inl (cA 1, 10, .inr (.inl fn16)))]) hP hD [2, 3, 0, 1] (by decide) rfl
      refine W.widen (k := 0) (n := 0) (Nat.le_of_ble_eq_true rfl) (Nat.le_of_ble_eq_true rfl) ?_
      exact (W.iret (v := rn19) hx hb hr (fun t ht hW => ⟨⟨rn19, (), rfl, trivial, qn14, en, 0, g14, g15, g16, g17, g18, g19, g20, g21, g22, g23, g24, g26, g5, g6, g25, fn20, fn15, fn16, hn17, hn18, hen, hn21, by rw [ht]; exact hP9, hD9⟩, hS.F ht⟩) hS.2.2 dX10_cancel_51)
  · skip
    subst hr9
    refine lv_istore_n (lv' := [(2, .int 0), (0, .ref w0), (1, .int i)]) hx hb dX10_cancel_5 rfl hl (by decide) rfl (fun ls hl => ?_)
    refine lv_aload_n hx hb dX10_cancel_6 rfl (lv_at hl 1 rfl) ?_
    refine lv_iload_n hx hb dX10_cancel_7 rfl (lv_at hl 0 rfl) ?_
    refine lv_iload_n hx hb dX10_cancel_8 rfl (lv_at hl 0 rfl) ?_
    refine lv_if_eq (tgt := 24) hx hb dX10_cancel_9 (by decide) (fun c22 => ?_) (fun c9 => absurd c9 (by decide))
    refine lv_iconst (v := 0) hx hb dX10_cancel_24 (by decide) ?_
    obtain ⟨hPc, hDc, hFc⟩ := PDq.cut (wc := [(oX10 w0 v0 v1 v2 v3 v4 g5 g6 (nI ed) g8 v9 (nI nb) g11 g12 v13 g14 g15 g16 g17 g18 g19 g20 g21 g22 g23 g24 g25 g26 v27 v28 v29 v30 v31 v32 v33 v34 v35 v36 v37 (nI ol))]) hP hD hS hA [2] (by decide) rfl
    refine va_calli (va_runV (As := [.int 0, .int 0]) (rest := []) ⟨hx, hb, hml, hown, hts⟩ (r_good_00 l D cA sa w0 ed nb ol v0 v1 v2 v3 v4 v9 v13 v27 v28 v29 v30 v31 v32 v33 v34 v35 v36 v37 g8 g11 g12 g14 g15 g16 g17 g18 g19 g20 g21 g22 g23 g24 g26 g5 g6 g25 H.size) (cwV 2 hts gX10_cancel_X10_good_ rfl rfl rfl (by decide +kernel) ⟨(Nat.le_of_ble_eq_true rfl), (Nat.le_of_ble_eq_true rfl)⟩) ⟨Wd.blind, va_recv hK hPc (ci := 11) (q0 := 0) rfl rfl, fun U hU hW => ⟨rfl, Wd.call hPc hDc hK hC hZ hS hFc U hU hW⟩⟩ rfl rfl hl.1 rfl (lv_room (Nat.le_of_ble_eq_true rfl)) dX10_cancel_25 ⟨(Nat.le_of_ble_eq_true rfl), (Nat.le_of_ble_eq_true rfl)⟩) hS (fun q _ h => hFc q h) hFc (fun rn23 u t H1 locs ht hvm hw hB hz1 hk1 hS => ?_)
    obtain ⟨hP1, hD1⟩ := hB
    rw [ht] at hP1
    obtain ⟨hP, hD⟩ := PDq.join (w := [(v3, .inl (cA 0, 3260, .inl fh)), (v4, .inl (cA 1, 10, .inr (.inl fl))), (v0, .inl (cA 0, 326, .inl fs)), (oX10 w0 v0 v1 v2 v3 v4 g5 g6 (nI ed) 1 v9 (nI nb) g11 g12 v13 g14 g15 g16 g17 g18 g19 g20 g21 g22 g23 g24 g25 g26 v27 v28 v29 v30 v31 v32 v33 v34 v35 v36 v37 (nI ol))]) 3 hP hD [2] [0, 1, 3] rfl rfl (by decide) (by decide) hk1 hFc hP1 hD1 rfl
    generalize H1 = H at hP hS ⊢
    obtain rfl : rn23 = 0 := hw
    refine lv_if_ne (tgt := 33) hx hb dX10_cancel_28 (by decide) (fun c9 => absurd c9 (by decide)) (fun c24 => ?_)
    refine lv_iconst (v := 0) hx hb dX10_cancel_31 (by decide) ?_
    obtain ⟨hP9, hD9⟩ := PDq.sub (ws' := [(oX10 w0 v0 v1 v2 v3 v4 g5 g6 (nI ed) 1 v9 (nI nb) g11 g12 v13 g14 g15 g16 g17 g18 g19 g20 g21 g22 g23 g24 g25 g26 v27 v28 v29 v30 v31 v32 v33 v34 v35 v36 v37 (nI ol)), (v0, .inl (cA 0, 326, .inl fs)), (v3, .inl (cA 0, 3260, .inl fh)), (v4, .inl (cA 1, 10, .inr (.inl fl)))]) hP hD [3, 2, 0, 1] (by decide) rfl
    refine W.widen (k := 0) (n := 0) (Nat.le_of_ble_eq_true rfl) (Nat.le_of_ble_eq_true rfl) ?_
    exact (W.iret (v := 0) hx hb hr (fun t ht hW => ⟨⟨0, (), rfl, trivial, ed, en, 1, g14, g15, g16, g17, g18, g19, g20, g21, g22, g23, g24, g26, g5, g6, g25, fs, fh, fl, hed, hHI, hen, hri, by rw [ht]; exact hP9, hD9⟩, hS.F ht⟩) hS.2.2 dX10_cancel_32)

set_option maxHeartbeats 4000000 in
set_option maxRecDepth 100000 in
/-- reference: pay -/
theorem r_pay (l : Launch) (D : va_G) (cA : Nat → ClassId) (sa : Nat → Nat) (w0 : Nat) (ed : Nat) (nb : Nat) (ol : Nat) (v0 : Nat) (v1 : Nat) (v2 : Nat) (v3 : Nat) (v4 : Nat) (v9 : Nat) (v13 : Nat) (v27 : Nat) (v28 : Nat) (v29 : Nat) (v30 : Nat) (v31 : Nat) (v32 : Nat) (v33 : Nat) (v34 : Nat) (v35 : Nat) (v36 : Nat) (v37 : Nat) (g8 : Int32) (g11 : Int32) (g12 : Int32) (g14 : Int32) (g15 : Int32) (g16 : Int32) (g17 : Int32) (g18 : Int32) (g19 : Int32) (g20 : Int32) (g21 : Int32) (g22 : Int32) (g23 : Int32) (g24 : Int32) (g26 : Int32) (g5 : Int64) (g6 : Int64) (g25 : Int64) (cn : Nat) (pq : Nat) (en : Nat) (dy : Nat) (fs : Nat → Int32) (fh : Nat → Int32) (fl : Nat → Int64) (i : Int32) (j : Int32) (sz : Nat) (hcn : cn ≤ 10) (hpq : pq ≤ 8) (hen : en ≤ 60) (hdy : dy ≤ 20000) (hri : RI cn pq en dy fs) (hed : ed ≤ 10) (hHI : HI cn pq ed fh) (hd9 : dy ≤ 9999) : Met l yX10_pay wsX10_pay ({ frames := 4, cells := 0, slots := 0, locals := 85 }) (va_Pc [.ref w0, .int i, .int j] (Wd D cA sa [(oX10 w0 v0 v1 v2 v3 v4 g5 g6 (nI ed) g8 v9 (nI nb) g11 g12 v13 g14 g15 g16 g17 g18 g19 g20 g21 g22 g23 g24 g25 g26 v27 v28 v29 v30 v31 v32 v33 v34 v35 v36 v37 (nI ol)), (v0, .inl (cA 0, 326, .inl fs)), (v3, .inl (cA 0, 3260, .inl fh)), (v4, .inl (cA 1, 10, .inr (.inl fl)))] sz)) (va_Qi (fun (r : Int32) (_ : Unit) => True) (fun (_ : Unit) t => ∃ ed2 : Nat, ∃ e2 : Nat, ∃ z8 : Int32, ∃ z14 : Int32, ∃ z15 : Int32, ∃ z16 : Int32, ∃ z17 : Int32, ∃ z18 : Int32, ∃ z19 : Int32, ∃ z20 : Int32, ∃ z21 : Int32, ∃ z22 : Int32, ∃ z23 : Int32, ∃ z24 : Int32, ∃ z26 : Int32, ∃ z5 : Int64, ∃ z6 : Int64, ∃ z25 : Int64, ∃ zs : Nat → Int32, ∃ zh : Nat → Int32, ∃ zl : Nat → Int64, ed2 ≤ 10 ∧ HI cn pq ed2 zh ∧ e2 ≤ 60 ∧ RI cn pq e2 dy zs ∧ Wq D (va_A [(oX10 w0 v0 v1 v2 v3 v4 g5 g6 (nI ed) g8 v9 (nI nb) g11 g12 v13 g14 g15 g16 g17 g18 g19 g20 g21 g22 g23 g24 g25 g26 v27 v28 v29 v30 v31 v32 v33 v34 v35 v36 v37 (nI ol)), (v0, .inl (cA 0, 326, .inl fs)), (v3, .inl (cA 0, 3260, .inl fh)), (v4, .inl (cA 1, 10, .inr (.inl fl)))] sz) [(oX10 w0 v0 v1 v2 v3 v4 z5 z6 (nI ed2) z8 v9 (nI nb) g11 g12 v13 z14 z15 z16 z17 z18 z19 z20 z21 z22 z23 z24 z25 z26 v27 v28 v29 v30 v31 v32 v33 v34 v35 v36 v37 (nI ol)), (v0, .inl (cA 0, 326, .inl zs)), (v3, .inl (cA 0, 3260, .inl zh)), (v4, .inl (cA 1, 10, .inr (.inl zl)))] t) (va_A [(oX10 w0 v0 v1 v2 v3 v4 g5 g6 (nI ed) g8 v9 (nI nb) g11 g12 v13 g14 g15 g16 g17 g18 g19 g20 g21 g22 g23 g24 g25 g26 v27 v28 v29 v30 v31 v32 v33 v34 v35 v36 v37 (nI ol)), (v0, .inl (cA 0, 326, .inl fs)), (v3, .inl (cA 0, 3260, .inl fh)), (v4, .inl (cA 1, 10, .inr (.inl fl)))] sz)) 0 0 (va_A [(oX10 w0 v0 v1 v2 v3 v4 g5 g6 (nI ed) g8 v9 (nI nb) g11 g12 v13 g14 g15 g16 g17 g18 g19 g20 g21 g22 g23 g24 g25 g26 v27 v28 v29 v30 v31 v32 v33 v34 v35 v36 v37 (nI ol)), (v0, .inl (cA 0, 326, .inl fs)), (v3, .inl (cA 0, 3260, .inl fh)), (v4, .inl (cA 1, 10, .inr (.inl fl)))] sz) := by
  refine Met.ofW (cc := cX10_pay) (maxL := 5) (ret := (some .int)) (by decide) rfl ?_
  intro p e s m args below meth c s₁ B hml hv
  obtain ⟨rfl, hsz, hP, hK, hD0, hC, hZ⟩ := hv
  have hx := B.exec
  have hb := B.bytes
  have hr := B.returns
  have hts := atoms_spec (ws := wsX10_pay) B.pre
  have hown : s.vm.findClass RX10 = some m.cls := findClass_of_methodNamed B.named
  have hlocks := B.notSynchronized
  subst hsz
  have hD := hD0.self (sz := s.heap.size)
  generalize hAe : va_A [(oX10 w0 v0 v1 v2 v3 v4 g5 g6 (nI ed) g8 v9 (nI nb) g11 g12 v13 g14 g15 g16 g17 g18 g19 g20 g21 g22 g23 g24 g25 g26 v27 v28 v29 v30 v31 v32 v33 v34 v35 v36 v37 (nI ol)), (v0, .inl (cA 0, 326, .inl fs)), (v3, .inl (cA 0, 3260, .inl fh)), (v4, .inl (cA 1, 10, .inr (.inl fl)))] s.heap.size = A at hD hZ ⊢
  have hA : ∀ q : Nat, s.heap.size ≤ q → A q := fun q h => by rw [← hAe]; exact Or.inr h
  have hS : va_S A s.heap s.heap [] := va_S.rf
  have hP : va_P D vwCl [(oX10 w0 v0 v1 v2 v3 v4 g5 g6 (nI ed) g8 v9 (nI nb) g11 g12 v13 g14 g15 g16 g17 g18 g19 g20 g21 g22 g23 g24 g25 g26 v27 v28 v29 v30 v31 v32 v33 v34 v35 v36 v37 (nI ol)), (v0, .inl (cA 0, 326, .inl fs)), (v3, .inl (cA 0, 3260, .inl fh)), (v4, .inl (cA 1, 10, .inr (.inl fl)))] s.heap := hP
  have hl := lv_entry ([.ref w0, .int i, .int j]) (n := 5) (Nat.le_of_ble_eq_true rfl)
  rw [lg_entry_eq]
  generalize (lg_sl ([.ref w0, .int i, .int j]) ++ List.replicate (5 - (lg_sl ([.ref w0, .int i, .int j])).length) Slot.unset).toArray = ls at hl ⊢
  have hl : lv_has ls 5 [(0, .ref w0), (1, .int i), (2, .int j)] := hl
  have inX10 : ∀ w ∈ u_ws RX10 TX10 39, w ∈ wsX10_pay := by decide +kernel
  refine lv_aload_n hx hb dX10_pay_0 rfl (lv_at hl 0 rfl) ?_
  refine lv_iload_n hx hb dX10_pay_1 rfl (lv_at hl 1 rfl) ?_
  obtain ⟨hPc, hDc, hFc⟩ := PDq.cut (wc := [(oX10 w0 v0 v1 v2 v3 v4 g5 g6 (nI ed) g8 v9 (nI nb) g11 g12 v13 g14 g15 g16 g17 g18 g19 g20 g21 g22 g23 g24 g25 g26 v27 v28 v29 v30 v31 v32 v33 v34 v35 v36 v37 (nI ol)), (v0, .inl (cA 0, 326, .inl fs))]) hP hD hS hA [0, 1] (by decide) rfl
  refine va_calli (va_runV (As := [.int i]) (rest := []) ⟨hx, hb, hml, hown, hts⟩ (r_isMilestone l D cA sa w0 ed nb ol v0 v1 v2 v3 v4 v9 v13 v27 v28 v29 v30 v31 v32 v33 v34 v35 v36 v37 g8 g11 g12 g14 g15 g16 g17 g18 g19 g20 g21 g22 g23 g24 g26 g5 g6 g25 cn pq en dy fs i s.heap.size hcn hpq hen hdy hri) (cwV 1 hts gX10_pay_X10_isMilestone rfl rfl rfl (by decide +kernel) ⟨(Nat.le_of_ble_eq_true rfl), (Nat.le_of_ble_eq_true rfl)⟩) ⟨Wd.blind, va_recv hK hPc (ci := 11) (q0 := 0) rfl rfl, fun U hU hW => ⟨rfl, Wd.call hPc hDc hK hC hZ hS hFc U hU hW⟩⟩ rfl rfl hl.1 rfl (lv_room (Nat.le_of_ble_eq_true rfl)) dX10_pay_2 ⟨(Nat.le_of_ble_eq_true rfl), (Nat.le_of_ble_eq_true rfl)⟩) hS (fun q _ h => hFc q h) hFc (fun rn1 u t H1 locs ht hvm hw hB hz1 hk1 hS => ?_)
  obtain ⟨hP1, hD1⟩ := hB
  rw [ht] at hP1
  obtain ⟨hP, hD⟩ := PDq.join (w := [(v3, .inl (cA 0, 3260, .inl fh)), (v4, .inl (cA 1, 10, .inr (.inl fl))), (oX10 w0 v0 v1 v2 v3 v4 g5 g6 (nI ed) g8 v9 (nI nb) g11 g12 v13 g14 g15 g16 g17 g18 g19 g20 g21 g22 g23 g24 g25 g26 v27 v28 v29 v30 v31 v32 v33 v34 v35 v36 v37 (nI ol)), (v0, .inl (cA 0, 326, .inl fs))]) 2 hP hD [0, 1] [2, 3] rfl rfl (by decide) (by decide) hk1 hFc hP1 hD1 rfl
  generalize H1 = H at hP hS ⊢
  rcases hw with ⟨hr9, hn2⟩ | hr9
  · skip
    subst hr9
    obtain ⟨kn3, hn4, hn5⟩ := hn2
    rw [hn5] at hl
    have hl : lv_has ls 5 [(0, .ref w0), (1, .int (nI kn3)), (2, .int j)] := hl
    refine lv_istore_n (lv' := [(3, .int 1), (0, .ref w0), (1, .int (nI kn3)), (2, .int j)]) hx hb dX10_pay_5 rfl hl (by decide) rfl (fun ls hl => ?_)
    refine lv_aload_n hx hb dX10_pay_6 rfl (lv_at hl 1 rfl) ?_
    refine lv_iload_n hx hb dX10_pay_7 rfl (lv_at hl 0 rfl) ?_
    refine lv_iload_n hx hb dX10_pay_8 rfl (lv_at hl 0 rfl) ?_
    refine lv_if_eq (tgt := 31) hx hb dX10_pay_9 (by decide) (fun c9 => absurd c9 (by decide)) (fun c6 => ?_)
    refine lv_iload_n hx hb dX10_pay_12 rfl (lv_at hl 3 rfl) ?_
    refine lv_i2l (v := (j.toInt64)) hx hb dX10_pay_13 rfl ?_
    refine lv_lconst (v := 1) hx hb dX10_pay_14 (by decide) ?_
    refine lv_aload_n hx hb dX10_pay_15 rfl (lv_at hl 1 rfl) ?_
    refine lv_iload_n hx hb dX10_pay_16 rfl (lv_at hl 2 rfl) ?_
    obtain ⟨hPc, hDc, hFc⟩ := PDq.cut (wc := [(oX10 w0 v0 v1 v2 v3 v4 g5 g6 (nI ed) g8 v9 (nI nb) g11 g12 v13 g14 g15 g16 g17 g18 g19 g20 g21 g22 g23 g24 g25 g26 v27 v28 v29 v30 v31 v32 v33 v34 v35 v36 v37 (nI ol)), (v0, .inl (cA 0, 326, .inl fs))]) hP hD hS hA [2, 3] (by decide) rfl
    refine va_calli (va_runV (As := [.int (nI kn3)]) (rest := [.long 1, .long (j.toInt64), .int 1, .ref w0]) ⟨hx, hb, hml, hown, hts⟩ (r_remainingOf l D cA sa w0 ed nb ol v0 v1 v2 v3 v4 v9 v13 v27 v28 v29 v30 v31 v32 v33 v34 v35 v36 v37 g8 g11 g12 g14 g15 g16 g17 g18 g19 g20 g21 g22 g23 g24 g26 g5 g6 g25 fs kn3 H.size (by omega)) (cwV 1 hts gX10_pay_X10_remainingOf rfl rfl rfl (by decide +kernel) ⟨(Nat.le_of_ble_eq_true rfl), (Nat.le_of_ble_eq_true rfl)⟩) ⟨Wd.blind, va_recv hK hPc (ci := 11) (q0 := 0) rfl rfl, fun U hU hW => ⟨rfl, Wd.call hPc hDc hK hC hZ hS hFc U hU hW⟩⟩ rfl rfl hl.1 rfl (lv_room (Nat.le_of_ble_eq_true rfl)) dX10_pay_17 ⟨(Nat.le_of_ble_eq_true rfl), (Nat.le_of_ble_eq_true rfl)⟩) hS (fun q _ h => hFc q h) hFc (fun rn7 u t H1 locs ht hvm hw hB hz1 hk1 hS => ?_)
    obtain ⟨hP1, hD1⟩ := hB
    rw [ht] at hP1
    obtain ⟨hP, hD⟩ := PDq.join (w := [(v3, .inl (cA 0, 3260, .inl fh)), (v4, .inl (cA 1, 10, .inr (.inl fl))), (oX10 w0 v0 v1 v2 v3 v4 g5 g6 (nI ed) g8 v9 (nI nb) g11 g12 v13 g14 g15 g16 g17 g18 g19 g20 g21 g22 g23 g24 g25 g26 v27 v28 v29 v30 v31 v32 v33 v34 v35 v36 v37 (nI ol)), (v0, .inl (cA 0, 326, .inl fs))]) 2 hP hD [2, 3] [0, 1] rfl rfl (by decide) (by decide) hk1 hFc hP1 hD1 rfl
    generalize H1 = H at hP hS ⊢
    refine lv_i2l (v := (rn7.toInt64)) hx hb dX10_pay_20 rfl ?_
    obtain ⟨hPc, hDc, hFc⟩ := PDq.cut (wc := []) hP hD hS hA [] (by decide) rfl
    refine va_calli (va_runS (As := [.long (j.toInt64), .long 1, .long (rn7.toInt64)]) (rest := [.int 1, .ref w0]) ⟨hx, hb, hml, hown, hts⟩ (r_between l D cA sa (j.toInt64) 1 (rn7.toInt64) H.size) (va_cwS 3 hts gX10_pay_X10_between rfl rfl rfl (by decide +kernel) ⟨(Nat.le_of_ble_eq_true rfl), (Nat.le_of_ble_eq_true rfl)⟩) ⟨Wd.blind, fun U hU hW => ⟨rfl, Wd.call hPc hDc hK hC hZ hS hFc U hU hW⟩⟩ rfl rfl hl.1 rfl (lv_room (Nat.le_of_ble_eq_true rfl)) dX10_pay_21 ⟨(Nat.le_of_ble_eq_true rfl), (Nat.le_of_ble_eq_true rfl)⟩) hS (fun q _ h => hFc q h) hFc (fun rn8 u t H1 locs ht hvm hw hB hz1 hk1 hS => ?_)
    obtain ⟨hP1, hD1⟩ := hB
    rw [ht] at hP1
    obtain ⟨hP, hD⟩ := PDq.join (w := [(v3, .inl (cA 0, 3260, .inl fh)), (v4, .inl (cA 1, 10, .inr (.inl fl))), (oX10 w0 v0 v1 v2 v3 v4 g5 g6 (nI ed) g8 v9 (nI nb) g11 g12 v13 g14 g15 g16 g17 g18 g19 g20 g21 g22 g23 g24 g25 g26 v27 v28 v29 v30 v31 v32 v33 v34 v35 v36 v37 (nI ol)), (v0, .inl (cA 0, 326, .inl fs))]) 4 hP hD [] [0, 1, 2, 3] rfl rfl (by decide) (by decide) hk1 hFc hP1 hD1 rfl
    generalize H1 = H at hP hS ⊢
    rcases hw with ⟨hr9, hn9⟩ | hr9
    · skip
      subst hr9
      refine lv_if_eq (tgt := 31) hx hb dX10_pay_24 (by decide) (fun c9 => absurd c9 (by decide)) (fun c10 => ?_)
      refine lv_iconst (v := 1) hx hb dX10_pay_27 (by decide) ?_
      refine lv_goto (tgt := 32) hx hb dX10_pay_28 (by decide) ?_
      obtain ⟨hPc, hDc, hFc⟩ := PDq.cut (wc := [(oX10 w0 v0 v1 v2 v3 v4 g5 g6 (nI ed) g8 v9 (nI nb) g11 g12 v13 g14 g15 g16 g17 g18 g19 g20 g21 g22 g23 g24 g25 g26 v27 v28 v29 v30 v31 v32 v33 v34 v35 v36 v37 (nI ol))]) hP hD hS hA [2] (by decide) rfl
      refine va_calli (va_runV (As := [.int 1, .int 1]) (rest := []) ⟨hx, hb, hml, hown, hts⟩ (r_good_11 l D cA sa w0 ed nb ol v0 v1 v2 v3 v4 v9 v13 v27 v28 v29 v30 v31 v32 v33 v34 v35 v36 v37 g8 g11 g12 g14 g15 g16 g17 g18 g19 g20 g21 g22 g23 g24 g26 g5 g6 g25 H.size) (cwV 2 hts gX10_pay_X10_good_ rfl rfl rfl (by decide +kernel) ⟨(Nat.le_of_ble_eq_true rfl), (Nat.le_of_ble_eq_true rfl)⟩) ⟨Wd.blind, va_recv hK hPc (ci := 11) (q0 := 0) rfl rfl, fun U hU hW => ⟨rfl, Wd.call hPc hDc hK hC hZ hS hFc U hU hW⟩⟩ rfl rfl hl.1 rfl (lv_room (Nat.le_of_ble_eq_true rfl)) dX10_pay_32 ⟨(Nat.le_of_ble_eq_true rfl), (Nat.le_of_ble_eq_true rfl)⟩) hS (fun q _ h => hFc q h) hFc (fun rn11 u t H1 locs ht hvm hw hB hz1 hk1 hS => ?_)
      obtain ⟨hP1, hD1⟩ := hB
      rw [ht] at hP1
      obtain ⟨hP, hD⟩ := PDq.join (w := [(v3, .inl (cA 0, 3260, .inl fh)), (v4, .inl (cA 1, 10, .inr (.inl fl))), (v0, .inl (cA 0, 326, .inl fs)), (oX10 w0 v0 v1 v2 v3 v4 g5 g6 (nI ed) 0 v9 (nI nb) g11 g12 v13 g14 g15 g16 g17 g18 g19 g20 g21 g22 g23 g24 g25 g26 v27 v28 v29 v30 v31 v32 v33 v34 v35 v36 v37 (nI ol))]) 3 hP hD [2] [0, 1, 3] rfl rfl (by decide) (by decide) hk1 hFc hP1 hD1 rfl
      generalize H1 = H at hP hS ⊢
      obtain rfl : rn11 = 1 := hw
      refine lv_if_ne (tgt := 40) hx hb dX10_pay_35 (by decide) (fun c12 => ?_) (fun c9 => absurd c9 (by decide))
      refine lv_aload_n hx hb dX10_pay_40 rfl (lv_at hl 1 rfl) ?_
      refine lv_iload_n hx hb dX10_pay_41 rfl (lv_at hl 2 rfl) ?_
      obtain ⟨hPc, hDc, hFc⟩ := PDq.cut (wc := [(oX10 w0 v0 v1 v2 v3 v4 g5 g6 (nI ed) 0 v9 (nI nb) g11 g12 v13 g14 g15 g16 g17 g18 g19 g20 g21 g22 g23 g24 g25 g26 v27 v28 v29 v30 v31 v32 v33 v34 v35 v36 v37 (nI ol)), (v0, .inl (cA 0, 326, .inl fs))]) hP hD hS hA [3, 2] (by decide) rfl
      refine va_calli (va_runV (As := [.int (nI kn3)]) (rest := []) ⟨hx, hb, hml, hown, hts⟩ (r_isOpenOrDue l D cA sa w0 ed nb ol v0 v1 v2 v3 v4 v9 v13 v27 v28 v29 v30 v31 v32 v33 v34 v35 v36 v37 0 g11 g12 g14 g15 g16 g17 g18 g19 g20 g21 g22 g23 g24 g26 g5 g6 g25 fs kn3 H.size (by omega)) (cwV 1 hts gX10_pay_X10_isOpenOrDue rfl rfl rfl (by decide +kernel) ⟨(Nat.le_of_ble_eq_true rfl), (Nat.le_of_ble_eq_true rfl)⟩) ⟨Wd.blind, va_recv hK hPc (ci := 11) (q0 := 0) rfl rfl, fun U hU hW => ⟨rfl, Wd.call hPc hDc hK hC hZ hS hFc U hU hW⟩⟩ rfl rfl hl.1 rfl (lv_room (Nat.le_of_ble_eq_true rfl)) dX10_pay_42 ⟨(Nat.le_of_ble_eq_true rfl), (Nat.le_of_ble_eq_true rfl)⟩) hS (fun q _ h => hFc q h) hFc (fun rn13 u t H1 locs ht hvm hw hB hz1 hk1 hS => ?_)
      obtain ⟨hP1, hD1⟩ := hB
      rw [ht] at hP1
      obtain ⟨hP, hD⟩ := PDq.join (w := [(v3, .inl (cA 0, 3260, .inl fh)), (v4, .inl (cA 1, 10, .inr (.inl fl))), (oX10 w0 v0 v1 v2 v3 v4 g5 g6 (nI ed) 0 v9 (nI nb) g11 g12 v13 g14 g15 g16 g17 g18 g19 g20 g21 g22 g23 g24 g25 g26 v27 v28 v29 v30 v31 v32 v33 v34 v35 v36 v37 (nI ol)), (v0, .inl (cA 0, 326, .inl fs))]) 2 hP hD [3, 2] [0, 1] rfl rfl (by decide) (by decide) hk1 hFc hP1 hD1 rfl
      generalize H1 = H at hP hS ⊢
      have hn14 := hw
      refine lv_if_eq (tgt := 56) hx hb dX10_pay_45 (by decide) (fun c15 => ?_) (fun c15 => ?_)
      · skip
        refine lv_aload_n hx hb dX10_pay_56 rfl (lv_at hl 1 rfl) ?_
        refine lv_iconst (v := 3) hx hb dX10_pay_57 (by decide) ?_
        refine va_put (D := D) (ci := 11) (v := .int 3) (ty := .int) (C := RX10) (T := TX10) (N := 39) hx hb hts inX10 tyX10 tyX10_ok nmX10 hown hK hP hD hS 2 rfl rfl 8 (by decide) (hts (.fieldLink RX10 80 "EscrowDeskModel" "thrown" "I") (by decide +kernel)) (fun _ h9 => h9) rfl (by decide +kernel) rfl rfl (Nat.le_of_ble_eq_true rfl) dX10_pay_58 (fun H locs hP hD hS => ?_)
        obtain ⟨hP, hD⟩ : PDq D A [(v3, .inl (cA 0, 3260, .inl fh)), (v4, .inl (cA 1, 10, .inr (.inl fl))), (oX10 w0 v0 v1 v2 v3 v4 g5 g6 (nI ed) 3 v9 (nI nb) g11 g12 v13 g14 g15 g16 g17 g18 g19 g20 g21 g22 g23 g24 g25 g26 v27 v28 v29 v30 v31 v32 v33 v34 v35 v36 v37 (nI ol)), (v0, .inl (cA 0, 326, .inl fs))] H := ⟨hP, hD⟩
        refine lv_iconst (v := 0) hx hb dX10_pay_61 (by decide) ?_
        obtain ⟨hP9, hD9⟩ := PDq.sub (ws' := [(oX10 w0 v0 v1 v2 v3 v4 g5 g6 (nI ed) 3 v9 (nI nb) g11 g12 v13 g14 g15 g16 g17 g18 g19 g20 g21 g22 g23 g24 g25 g26 v27 v28 v29 v30 v31 v32 v33 v34 v35 v36 v37 (nI ol)), (v0, .inl (cA 0, 326, .inl fs)), (v3, .inl (cA 0, 3260, .inl fh)), (v4, .inl (cA 1, 10, .inr (.inl fl)))]) hP hD [2, 3, 0, 1] (by decide) rfl
        refine W.widen (k := 0) (n := 0) (Nat.le_of_ble_eq_true rfl) (Nat.le_of_ble_eq_true rfl) ?_
        exact (W.iret (v := 0) hx hb hr (fun t ht hW => ⟨⟨0, (), rfl, trivial, ed, en, 3, g14, g15, g16, g17, g18, g19, g20, g21, g22, g23, g24, g26, g5, g6, g25, fs, fh, fl, hed, hHI, hen, hri, by rw [ht]; exact hP9, hD9⟩, hS.F ht⟩) hS.2.2 dX10_pay_62)
      · skip
        refine lv_iload_n hx hb dX10_pay_48 rfl (lv_at hl 3 rfl) ?_
        refine lv_aload_n hx hb dX10_pay_49 rfl (lv_at hl 1 rfl) ?_
        obtain ⟨hPc, hDc, hFc⟩ := PDq.cut (wc := [(oX10 w0 v0 v1 v2 v3 v4 g5 g6 (nI ed) 0 v9 (nI nb) g11 g12 v13 g14 g15 g16 g17 g18 g19 g20 g21 g22 g23 g24 g25 g26 v27 v28 v29 v30 v31 v32 v33 v34 v35 v36 v37 (nI ol)), (v0, .inl (cA 0, 326, .inl fs))]) hP hD hS hA [2, 3] (by decide) rfl
        refine va_calli (va_runV (As := []) (rest := [.int j]) ⟨hx, hb, hml, hown, hts⟩ (r_availableNow l D cA sa w0 ed nb ol v0 v1 v2 v3 v4 v9 v13 v27 v28 v29 v30 v31 v32 v33 v34 v35 v36 v37 0 g11 g12 g14 g15 g16 g17 g18 g19 g20 g21 g22 g23 g24 g26 g5 g6 g25 cn pq en dy fs H.size hcn hpq hen hdy hri) (cwV 0 hts gX10_pay_X10_availableNow rfl rfl rfl (by decide +kernel) ⟨(Nat.le_of_ble_eq_true rfl), (Nat.le_of_ble_eq_true rfl)⟩) ⟨Wd.blind, va_recv hK hPc (ci := 11) (q0 := 0) rfl rfl, fun U hU hW => ⟨rfl, Wd.call hPc hDc hK hC hZ hS hFc U hU hW⟩⟩ rfl rfl hl.1 rfl (lv_room (Nat.le_of_ble_eq_true rfl)) dX10_pay_50 ⟨(Nat.le_of_ble_eq_true rfl), (Nat.le_of_ble_eq_true rfl)⟩) hS (fun q _ h => hFc q h) hFc (fun rn16 u t H1 locs ht hvm hw hB hz1 hk1 hS => ?_)
        obtain ⟨hP1, hD1⟩ := hB
        rw [ht] at hP1
        obtain ⟨hP, hD⟩ := PDq.join (w := [(v3, .inl (cA 0, 3260, .inl fh)), (v4, .inl (cA 1, 10, .inr (.inl fl))), (oX10 w0 v0 v1 v2 v3 v4 g5 g6 (nI ed) 0 v9 (nI nb) g11 g12 v13 g14 g15 g16 g17 g18 g19 g20 g21 g22 g23 g24 g25 g26 v27 v28 v29 v30 v31 v32 v33 v34 v35 v36 v37 (nI ol)), (v0, .inl (cA 0, 326, .inl fs))]) 2 hP hD [2, 3] [0, 1] rfl rfl (by decide) (by decide) hk1 hFc hP1 hD1 rfl
        generalize H1 = H at hP hS ⊢
        refine lv_icmp_le (tgt := 63) hx hb dX10_pay_53 (by decide) (fun c17 => ?_) (fun c17 => ?_)
        · skip
          refine lv_aload_n hx hb dX10_pay_63 rfl (lv_at hl 1 rfl) ?_
          obtain ⟨hPc, hDc, hFc⟩ := PDq.cut (wc := [(oX10 w0 v0 v1 v2 v3 v4 g5 g6 (nI ed) 0 v9 (nI nb) g11 g12 v13 g14 g15 g16 g17 g18 g19 g20 g21 g22 g23 g24 g25 g26 v27 v28 v29 v30 v31 v32 v33 v34 v35 v36 v37 (nI ol)), (v0, .inl (cA 0, 326, .inl fs)), (v3, .inl (cA 0, 3260, .inl fh)), (v4, .inl (cA 1, 10, .inr (.inl fl)))]) hP hD hS hA [2, 3, 0, 1] (by decide) rfl
          refine va_callv (va_runV (As := []) (rest := []) ⟨hx, hb, hml, hown, hts⟩ (r_remember l D cA sa w0 ed nb ol v0 v1 v2 v3 v4 v9 v13 v27 v28 v29 v30 v31 v32 v33 v34 v35 v36 v37 0 g11 g12 g14 g15 g16 g17 g18 g19 g20 g21 g22 g23 g24 g26 g5 g6 g25 cn pq en dy fs fh fl H.size hcn hpq hen hdy hri hed hHI hd9) (cwV 0 hts gX10_pay_X10_remember rfl rfl rfl (by decide +kernel) ⟨(Nat.le_of_ble_eq_true rfl), (Nat.le_of_ble_eq_true rfl)⟩) ⟨Wd.blind, va_recv hK hPc (ci := 11) (q0 := 0) rfl rfl, fun U hU hW => ⟨rfl, Wd.call hPc hDc hK hC hZ hS hFc U hU hW⟩⟩ rfl rfl hl.1 rfl (lv_room (Nat.le_of_ble_eq_true rfl)) dX10_pay_64 ⟨(Nat.le_of_ble_eq_true rfl), (Nat.le_of_ble_eq_true rfl)⟩) hS (fun q _ h => hFc q h) hFc (fun u t H1 locs ht hvm hw hB hz1 hk1 hS => ?_)
          obtain ⟨qn18, fn19, fn20, hn21, hn22, hP1, hD1⟩ := hB
          rw [ht] at hP1
          obtain ⟨hP, hD⟩ := PDq.join (w := [(oX10 w0 v0 v1 v2 v3 v4 g5 g6 (nI qn18) 0 v9 (nI nb) g11 g12 v13 g14 g15 g16 g17 g18 g19 g20 g21 g22 g23 g24 g25 g26 v27 v28 v29 v30 v31 v32 v33 v34 v35 v36 v37 (nI ol)), (v0, .inl (cA 0, 326, .inl fs)), (v3, .inl (cA 0, 3260, .inl fn19)), (v4, .inl (cA 1, 10, .inr (.inl fn20)))]) 0 hP hD [2, 3, 0, 1] [] rfl rfl (by decide) (by decide) hk1 hFc hP1 hD1 rfl
          generalize H1 = H at hP hS ⊢
          refine lv_aload_n hx hb dX10_pay_67 rfl (lv_at hl 1 rfl) ?_
          refine lv_iload_n hx hb dX10_pay_68 rfl (lv_at hl 2 rfl) ?_
          refine lv_iload_n hx hb dX10_pay_69 rfl (lv_at hl 3 rfl) ?_
          obtain ⟨hPc, hDc, hFc⟩ := PDq.cut (wc := [(oX10 w0 v0 v1 v2 v3 v4 g5 g6 (nI qn18) 0 v9 (nI nb) g11 g12 v13 g14 g15 g16 g17 g18 g19 g20 g21 g22 g23 g24 g25 g26 v27 v28 v29 v30 v31 v32 v33 v34 v35 v36 v37 (nI ol)), (v0, .inl (cA 0, 326, .inl fs))]) hP hD hS hA [0, 1] (by decide) rfl
          refine va_calli (va_runV (As := [.int (nI kn3), .int j]) (rest := []) ⟨hx, hb, hml, hown, hts⟩ (r_makePayment l D cA sa w0 qn18 nb ol v0 v1 v2 v3 v4 v9 v13 v27 v28 v29 v30 v31 v32 v33 v34 v35 v36 v37 0 g11 g12 g14 g15 g16 g17 g18 g19 g20 g21 g22 g23 g24 g26 g5 g6 g25 cn pq en dy fs kn3 j H.size hcn hpq hen hdy hri (by omega)) (cwV 2 hts gX10_pay_X10_makePayment rfl rfl rfl (by decide +kernel) ⟨(Nat.le_of_ble_eq_true rfl), (Nat.le_of_ble_eq_true rfl)⟩) ⟨Wd.blind, va_recv hK hPc (ci := 11) (q0 := 0) rfl rfl, fun U hU hW => ⟨rfl, Wd.call hPc hDc hK hC hZ hS hFc U hU hW⟩⟩ rfl rfl hl.1 rfl (lv_room (Nat.le_of_ble_eq_true rfl)) dX10_pay_70 ⟨(Nat.le_of_ble_eq_true rfl), (Nat.le_of_ble_eq_true rfl)⟩) hS (fun q _ h => hFc q h) hFc (fun rn23 u t H1 locs ht hvm hw hB hz1 hk1 hS => ?_)
          obtain ⟨qn24, fn25, hn26, hn27, hP1, hD1⟩ := hB
          rw [ht] at hP1
          obtain ⟨hP, hD⟩ := PDq.join (w := [(v3, .inl (cA 0, 3260, .inl fn19)), (v4, .inl (cA 1, 10, .inr (.inl fn20))), (oX10 w0 v0 v1 v2 v3 v4 g5 g6 (nI qn18) 0 v9 (nI nb) g11 g12 v13 g14 g15 g16 g17 g18 g19 g20 g21 g22 g23 g24 g25 g26 v27 v28 v29 v30 v31 v32 v33 v34 v35 v36 v37 (nI ol)), (v0, .inl (cA 0, 326, .inl fn25))]) 2 hP hD [0, 1] [2, 3] rfl rfl (by decide) (by decide) hk1 hFc hP1 hD1 rfl
          generalize H1 = H at hP hS ⊢
          refine lv_istore (lv' := [(4, .int rn23), (3, .int 1), (0, .ref w0), (1, .int (nI kn3)), (2, .int j)]) hx hb dX10_pay_73 hl (by decide) rfl (fun ls hl => ?_)
          refine lv_aload_n hx hb dX10_pay_75 rfl (lv_at hl 2 rfl) ?_
          refine lv_iload_n hx hb dX10_pay_76 rfl (lv_at hl 3 rfl) ?_
          obtain ⟨hPc, hDc, hFc⟩ := PDq.cut (wc := [(oX10 w0 v0 v1 v2 v3 v4 g5 g6 (nI qn18) 0 v9 (nI nb) g11 g12 v13 g14 g15 g16 g17 g18 g19 g20 g21 g22 g23 g24 g25 g26 v27 v28 v29 v30 v31 v32 v33 v34 v35 v36 v37 (nI ol)), (v0, .inl (cA 0, 326, .inl fn25))]) hP hD hS hA [2, 3] (by decide) rfl
          refine va_callv (va_runV (As := [.int (nI kn3)]) (rest := []) ⟨hx, hb, hml, hown, hts⟩ (r_closeIfPaid l D cA sa w0 qn18 nb ol v0 v1 v2 v3 v4 v9 v13 v27 v28 v29 v30 v31 v32 v33 v34 v35 v36 v37 0 g11 g12 g14 g15 g16 g17 g18 g19 g20 g21 g22 g23 g24 g26 g5 g6 g25 cn pq qn24 dy fn25 kn3 H.size hcn hpq hn26 hdy hn27 (by omega)) (cwV 1 hts gX10_pay_X10_closeIfPaid rfl rfl rfl (by decide +kernel) ⟨(Nat.le_of_ble_eq_true rfl), (Nat.le_of_ble_eq_true rfl)⟩) ⟨Wd.blind, va_recv hK hPc (ci := 11) (q0 := 0) rfl rfl, fun U hU hW => ⟨rfl, Wd.call hPc hDc hK hC hZ hS hFc U hU hW⟩⟩ rfl rfl hl.1 rfl (lv_room (Nat.le_of_ble_eq_true rfl)) dX10_pay_77 ⟨(Nat.le_of_ble_eq_true rfl), (Nat.le_of_ble_eq_true rfl)⟩) hS (fun q _ h => hFc q h) hFc (fun u t H1 locs ht hvm hw hB hz1 hk1 hS => ?_)
          obtain ⟨fn28, hn29, hP1, hD1⟩ := hB
          rw [ht] at hP1
          obtain ⟨hP, hD⟩ := PDq.join (w := [(v3, .inl (cA 0, 3260, .inl fn19)), (v4, .inl (cA 1, 10, .inr (.inl fn20))), (oX10 w0 v0 v1 v2 v3 v4 g5 g6 (nI qn18) 0 v9 (nI nb) g11 g12 v13 g14 g15 g16 g17 g18 g19 g20 g21 g22 g23 g24 g25 g26 v27 v28 v29 v30 v31 v32 v33 v34 v35 v36 v37 (nI ol)), (v0, .inl (cA 0, 326, .inl fn28))]) 2 hP hD [2, 3] [0, 1] rfl rfl (by decide) (by decide) hk1 hFc hP1 hD1 rfl
          generalize H1 = H at hP hS ⊢
          refine lv_iload hx hb dX10_pay_80 (lv_at hl 0 rfl) ?_
          obtain ⟨hP9, hD9⟩ := PDq.sub (ws' := [(oX10 w0 v0 v1 v2 v3 v4 g5 g6 (nI qn18) 0 v9 (nI nb) g11 g12 v13 g14 g15 g16 g17 g18 g19 g20 g21 g22 g23 g24 g25 g26 v27 v28 v29 v30 v31 v32 v33 v34 v35 v36 v37 (nI ol)), (v0, .inl (cA 0, 326, .inl fn28)), (v3, .inl (cA 0, 3260, .inl fn19)), (v4, .inl (cA 1, 10, .inr (.inl fn20)))]) hP hD [2, 3, 0, 1] (by decide) rfl
          refine W.widen (k := 0) (n := 0) (Nat.le_of_ble_eq_true rfl) (Nat.le_of_ble_eq_true rfl) ?_
          exact (W.iret (v := rn23) hx hb hr (fun t ht hW => ⟨⟨rn23, (), rfl, trivial, qn18, qn24, 0, g14, g15, g16, g17, g18, g19, g20, g21, g22, g23, g24, g26, g5, g6, g25, fn28, fn19, fn20, hn21, hn22, hn26, hn29, by rw [ht]; exact hP9, hD9⟩, hS.F ht⟩) hS.2.2 dX10_pay_82)
        · skip
          refine lv_aload_n hx hb dX10_pay_56 rfl (lv_at hl 1 rfl) ?_
          refine lv_iconst (v := 3) hx hb dX10_pay_57 (by decide) ?_
          refine va_put (D := D) (ci := 11) (v := .int 3) (ty := .int) (C := RX10) (T := TX10) (N := 39) hx hb hts inX10 tyX10 tyX10_ok nmX10 hown hK hP hD hS 2 rfl rfl 8 (by decide) (hts (.fieldLink RX10 80 "EscrowDeskModel" "thrown" "I") (by decide +kernel)) (fun _ h9 => h9) rfl (by decide +kernel) rfl rfl (Nat.le_of_ble_eq_true rfl) dX10_pay_58 (fun H locs hP hD hS => ?_)
          obtain ⟨hP, hD⟩ : PDq D A [(v3, .inl (cA 0, 3260, .inl fh)), (v4, .inl (cA 1, 10, .inr (.inl fl))), (oX10 w0 v0 v1 v2 v3 v4 g5 g6 (nI ed) 3 v9 (nI nb) g11 g12 v13 g14 g15 g16 g17 g18 g19 g20 g21 g22 g23 g24 g25 g26 v27 v28 v29 v30 v31 v32 v33 v34 v35 v36 v37 (nI ol)), (v0, .inl (cA 0, 326, .inl fs))] H := ⟨hP, hD⟩
          refine lv_iconst (v := 0) hx hb dX10_pay_61 (by decide) ?_
          obtain ⟨hP9, hD9⟩ := PDq.sub (ws' := [(oX10 w0 v0 v1 v2 v3 v4 g5 g6 (nI ed) 3 v9 (nI nb) g11 g12 v13 g14 g15 g16 g17 g18 g19 g20 g21 g22 g23 g24 g25 g26 v27 v28 v29 v30 v31 v32 v33 v34 v35 v36 v37 (nI ol)), (v0, .inl (cA 0, 326, .inl fs)), (v3, .inl (cA 0, 3260, .inl fh)), (v4, .inl (cA 1, 10, .inr (.inl fl)))]) hP hD [2, 3, 0, 1] (by decide) rfl
          refine W.widen (k := 0) (n := 0) (Nat.le_of_ble_eq_true rfl) (Nat.le_of_ble_eq_true rfl) ?_
          exact (W.iret (v := 0) hx hb hr (fun t ht hW => ⟨⟨0, (), rfl, trivial, ed, en, 3, g14, g15, g16, g17, g18, g19, g20, g21, g22, g23, g24, g26, g5, g6, g25, fs, fh, fl, hed, hHI, hen, hri, by rw [ht]; exact hP9, hD9⟩, hS.F ht⟩) hS.2.2 dX10_pay_62)
    · skip
      subst hr9
      refine lv_if_eq (tgt := 31) hx hb dX10_pay_24 (by decide) (fun c30 => ?_) (fun c9 => absurd c9 (by decide))
      refine lv_iconst (v := 0) hx hb dX10_pay_31 (by decide) ?_
      obtain ⟨hPc, hDc, hFc⟩ := PDq.cut (wc := [(oX10 w0 v0 v1 v2 v3 v4 g5 g6 (nI ed) g8 v9 (nI nb) g11 g12 v13 g14 g15 g16 g17 g18 g19 g20 g21 g22 g23 g24 g25 g26 v27 v28 v29 v30 v31 v32 v33 v34 v35 v36 v37 (nI ol))]) hP hD hS hA [2] (by decide) rfl
      refine va_calli (va_runV (As := [.int 1, .int 0]) (rest := []) ⟨hx, hb, hml, hown, hts⟩ (r_good_10 l D cA sa w0 ed nb ol v0 v1 v2 v3 v4 v9 v13 v27 v28 v29 v30 v31 v32 v33 v34 v35 v36 v37 g8 g11 g12 g14 g15 g16 g17 g18 g19 g20 g21 g22 g23 g24 g26 g5 g6 g25 H.size) (cwV 2 hts gX10_pay_X10_good_ rfl rfl rfl (by decide +kernel) ⟨(Nat.le_of_ble_eq_true rfl), (Nat.le_of_ble_eq_true rfl)⟩) ⟨Wd.blind, va_recv hK hPc (ci := 11) (q0 := 0) rfl rfl, fun U hU hW => ⟨rfl, Wd.call hPc hDc hK hC hZ hS hFc U hU hW⟩⟩ rfl rfl hl.1 rfl (lv_room (Nat.le_of_ble_eq_true rfl)) dX10_pay_32 ⟨(Nat.le_of_ble_eq_true rfl), (Nat.le_of_ble_eq_true rfl)⟩) hS (fun q _ h => hFc q h) hFc (fun rn31 u t H1 locs ht hvm hw hB hz1 hk1 hS => ?_)
      obtain ⟨hP1, hD1⟩ := hB
      rw [ht] at hP1
      obtain ⟨hP, hD⟩ := PDq.join (w := [(v3, .inl (cA 0, 3260, .inl fh)), (v4, .inl (cA 1, 10, .inr (.inl fl))), (v0, .inl (cA 0, 326, .inl fs)), (oX10 w0 v0 v1 v2 v3 v4 g5 g6 (nI ed) 2 v9 (nI nb) g11 g12 v13 g14 g15 g16 g17 g18 g19 g20 g21 g22 g23 g24 g25 g26 v27 v28 v29 v30 v31 v32 v33 v34 v35 v36 v37 (nI ol))]) 3 hP hD [2] [0, 1, 3] rfl rfl (by decide) (by decide) hk1 hFc hP1 hD1 rfl
      generalize H1 = H at hP hS ⊢
      obtain rfl : rn31 = 0 := hw
      refine lv_if_ne (tgt := 40) hx hb dX10_pay_35 (by decide) (fun c9 => absurd c9 (by decide)) (fun c32 => ?_)
      refine lv_iconst (v := 0) hx hb dX10_pay_38 (by decide) ?_
      obtain ⟨hP9, hD9⟩ := PDq.sub (ws' := [(oX10 w0 v0 v1 v2 v3 v4 g5 g6 (nI ed) 2 v9 (nI nb) g11 g12 v13 g14 g15 g16 g17 g18 g19 g20 g21 g22 g23 g24 g25 g26 v27 v28 v29 v30 v31 v32 v33 v34 v35 v36 v37 (nI ol)), (v0, .inl (cA 0, 326, .inl fs)), (v3, .inl (cA 0, 3260, .inl fh)), (v4, .inl (cA 1, 10, .inr (.inl fl)))]) hP hD [3, 2, 0, 1] (by decide) rfl
      refine W.widen (k := 0) (n := 0) (Nat.le_of_ble_eq_true rfl) (Nat.le_of_ble_eq_true rfl) ?_
      exact (W.iret (v := 0) hx hb hr (fun t ht hW => ⟨⟨0, (), rfl, trivial, ed, en, 2, g14, g15, g16, g17, g18, g19, g20, g21, g22, g23, g24, g26, g5, g6, g25, fs, fh, fl, hed, hHI, hen, hri, by rw [ht]; exact hP9, hD9⟩, hS.F ht⟩) hS.2.2 dX10_pay_39)
  · skip
    subst hr9
    refine lv_istore_n (lv' := [(3, .int 0), (0, .ref w0), (1, .int i), (2, .int j)]) hx hb dX10_pay_5 rfl hl (by decide) rfl (fun ls hl => ?_)
    refine lv_aload_n hx hb dX10_pay_6 rfl (lv_at hl 1 rfl) ?_
    refine lv_iload_n hx hb dX10_pay_7 rfl (lv_at hl 0 rfl) ?_
    refine lv_iload_n hx hb dX10_pay_8 rfl (lv_at hl 0 rfl) ?_
    refine lv_if_eq (tgt := 31) hx hb dX10_pay_9 (by decide) (fun c33 => ?_) (fun c9 => absurd c9 (by decide))
    refine lv_iconst (v := 0) hx hb dX10_pay_31 (by decide) ?_
    obtain ⟨hPc, hDc, hFc⟩ := PDq.cut (wc := [(oX10 w0 v0 v1 v2 v3 v4 g5 g6 (nI ed) g8 v9 (nI nb) g11 g12 v13 g14 g15 g16 g17 g18 g19 g20 g21 g22 g23 g24 g25 g26 v27 v28 v29 v30 v31 v32 v33 v34 v35 v36 v37 (nI ol))]) hP hD hS hA [2] (by decide) rfl
    refine va_calli (va_runV (As := [.int 0, .int 0]) (rest := []) ⟨hx, hb, hml, hown, hts⟩ (r_good_00 l D cA sa w0 ed nb ol v0 v1 v2 v3 v4 v9 v13 v27 v28 v29 v30 v31 v32 v33 v34 v35 v36 v37 g8 g11 g12 g14 g15 g16 g17 g18 g19 g20 g21 g22 g23 g24 g26 g5 g6 g25 H.size) (cwV 2 hts gX10_pay_X10_good_ rfl rfl rfl (by decide +kernel) ⟨(Nat.le_of_ble_eq_true rfl), (Nat.le_of_ble_eq_true rfl)⟩) ⟨Wd.blind, va_recv hK hPc (ci := 11) (q0 := 0) rfl rfl, fun U hU hW => ⟨rfl, Wd.call hPc hDc hK hC hZ hS hFc U hU hW⟩⟩ rfl rfl hl.1 rfl (lv_room (Nat.le_of_ble_eq_true rfl)) dX10_pay_32 ⟨(Nat.le_of_ble_eq_true rfl), (Nat.le_of_ble_eq_true rfl)⟩) hS (fun q _ h => hFc q h) hFc (fun rn34 u t H1 locs ht hvm hw hB hz1 hk1 hS => ?_)
    obtain ⟨hP1, hD1⟩ := hB
    rw [ht] at hP1
    obtain ⟨hP, hD⟩ := PDq.join (w := [(v3, .inl (cA 0, 3260, .inl fh)), (v4, .inl (cA 1, 10, .inr (.inl fl))), (v0, .inl (cA 0, 326, .inl fs)), (oX10 w0 v0 v1 v2 v3 v4 g5 g6 (nI ed) 1 v9 (nI nb) g11 g12 v13 g14 g15 g16 g17 g18 g19 g20 g21 g22 g23 g24 g25 g26 v27 v28 v29 v30 v31 v32 v33 v34 v35 v36 v37 (nI ol))]) 3 hP hD [2] [0, 1, 3] rfl rfl (by decide) (by decide) hk1 hFc hP1 hD1 rfl
    generalize H1 = H at hP hS ⊢
    obtain rfl : rn34 = 0 := hw
    refine lv_if_ne (tgt := 40) hx hb dX10_pay_35 (by decide) (fun c9 => absurd c9 (by decide)) (fun c35 => ?_)
    refine lv_iconst (v := 0) hx hb dX10_pay_38 (by decide) ?_
    obtain ⟨hP9, hD9⟩ := PDq.sub (ws' := [(oX10 w0 v0 v1 v2 v3 v4 g5 g6 (nI ed) 1 v9 (nI nb) g11 g12 v13 g14 g15 g16 g17 g18 g19 g20 g21 g22 g23 g24 g25 g26 v27 v28 v29 v30 v31 v32 v33 v34 v35 v36 v37 (nI ol)), (v0, .inl (cA 0, 326, .inl fs)), (v3, .inl (cA 0, 3260, .inl fh)), (v4, .inl (cA 1, 10, .inr (.inl fl)))]) hP hD [3, 2, 0, 1] (by decide) rfl
    refine W.widen (k := 0) (n := 0) (Nat.le_of_ble_eq_true rfl) (Nat.le_of_ble_eq_true rfl) ?_
    exact (W.iret (v := 0) hx hb hr (fun t ht hW => ⟨⟨0, (), rfl, trivial, ed, en, 1, g14, g15, g16, g17, g18, g19, g20, g21, g22, g23, g24, g26, g5, g6, g25, fs, fh, fl, hed, hHI, hen, hri, by rw [ht]; exact hP9, hD9⟩, hS.F ht⟩) hS.2.2 dX10_pay_39)

set_option maxHeartbeats 4000000 in
set_option maxRecDepth 100000 in
/-- reference: resolve -/
theorem r_resolve (l : Launch) (D : va_G) (cA : Nat → ClassId) (sa : Nat → Nat) (w0 : Nat) (ed : Nat) (nb : Nat) (ol : Nat) (v0 : Nat) (v1 : Nat) (v2 : Nat) (v3 : Nat) (v4 : Nat) (v9 : Nat) (v13 : Nat) (v27 : Nat) (v28 : Nat) (v29 : Nat) (v30 : Nat) (v31 : Nat) (v32 : Nat) (v33 : Nat) (v34 : Nat) (v35 : Nat) (v36 : Nat) (v37 : Nat) (g8 : Int32) (g11 : Int32) (g12 : Int32) (g14 : Int32) (g15 : Int32) (g16 : Int32) (g17 : Int32) (g18 : Int32) (g19 : Int32) (g20 : Int32) (g21 : Int32) (g22 : Int32) (g23 : Int32) (g24 : Int32) (g26 : Int32) (g5 : Int64) (g6 : Int64) (g25 : Int64) (cn : Nat) (pq : Nat) (en : Nat) (dy : Nat) (fs : Nat → Int32) (fh : Nat → Int32) (fl : Nat → Int64) (i : Int32) (j : Int32) (sz : Nat) (hcn : cn ≤ 10) (hpq : pq ≤ 8) (hen : en ≤ 60) (hdy : dy ≤ 20000) (hri : RI cn pq en dy fs) (hed : ed ≤ 10) (hHI : HI cn pq ed fh) (hd9 : dy ≤ 9999) : Met l yX10_resolve wsX10_resolve ({ frames := 5, cells := 0, slots := 0, locals := 107 }) (va_Pc [.ref w0, .int i, .int j] (Wd D cA sa [(oX10 w0 v0 v1 v2 v3 v4 g5 g6 (nI ed) g8 v9 (nI nb) g11 g12 v13 g14 g15 g16 g17 g18 g19 g20 g21 g22 g23 g24 g25 g26 v27 v28 v29 v30 v31 v32 v33 v34 v35 v36 v37 (nI ol)), (v0, .inl (cA 0, 326, .inl fs)), (v3, .inl (cA 0, 3260, .inl fh)), (v4, .inl (cA 1, 10, .inr (.inl fl)))] sz)) (va_Qi (fun (r : Int32) (_ : Unit) => True) (fun (_ : Unit) t => ∃ ed2 : Nat, ∃ e2 : Nat, ∃ z8 : Int32, ∃ z14 : Int32, ∃ z15 : Int32, ∃ z16 : Int32, ∃ z17 : Int32, ∃ z18 : Int32, ∃ z19 : Int32, ∃ z20 : Int32, ∃ z21 : Int32, ∃ z22 : Int32, ∃ z23 : Int32, ∃ z24 : Int32, ∃ z26 : Int32, ∃ z5 : Int64, ∃ z6 : Int64, ∃ z25 : Int64, ∃ zs : Nat → Int32, ∃ zh : Nat → Int32, ∃ zl : Nat → Int64, ed2 ≤ 10 ∧ HI cn pq ed2 zh ∧ e2 ≤ 60 ∧ RI cn pq e2 dy zs ∧ Wq D (va_A [(oX10 w0 v0 v1 v2 v3 v4 g5 g6 (nI ed) g8 v9 (nI nb) g11 g12 v13 g14 g15 g16 g17 g18 g19 g20 g21 g22 g23 g24 g25 g26 v27 v28 v29 v30 v31 v32 v33 v34 v35 v36 v37 (nI ol)), (v0, .inl (cA 0, 326, .inl fs)), (v3, .inl (cA 0, 3260, .inl fh)), (v4, .inl (cA 1, 10, .inr (.inl fl)))] sz) [(oX10 w0 v0 v1 v2 v3 v4 z5 z6 (nI ed2) z8 v9 (nI nb) g11 g12 v13 z14 z15 z16 z17 z18 z19 z20 z21 z22 z23 z24 z25 z26 v27 v28 v29 v30 v31 v32 v33 v34 v35 v36 v37 (nI ol)), (v0, .inl (cA 0, 326, .inl zs)), (v3, .inl (cA 0, 3260, .inl zh)), (v4, .inl (cA 1, 10, .inr (.inl zl)))] t) (va_A [(oX10 w0 v0 v1 v2 v3 v4 g5 g6 (nI ed) g8 v9 (nI nb) g11 g12 v13 g14 g15 g16 g17 g18 g19 g20 g21 g22 g23 g24 g25 g26 v27 v28 v29 v30 v31 v32 v33 v34 v35 v36 v37 (nI ol)), (v0, .inl (cA 0, 326, .inl fs)), (v3, .inl (cA 0, 3260, .inl fh)), (v4, .inl (cA 1, 10, .inr (.inl fl)))] sz)) 0 0 (va_A [(oX10 w0 v0 v1 v2 v3 v4 g5 g6 (nI ed) g8 v9 (nI nb) g11 g12 v13 g14 g15 g16 g17 g18 g19 g20 g21 g22 g23 g24 g25 g26 v27 v28 v29 v30 v31 v32 v33 v34 v35 v36 v37 (nI ol)), (v0, .inl (cA 0, 326, .inl fs)), (v3, .inl (cA 0, 3260, .inl fh)), (v4, .inl (cA 1, 10, .inr (.inl fl)))] sz) := by
  refine Met.ofW (cc := cX10_resolve) (maxL := 5) (ret := (some .int)) (by decide) rfl ?_
  intro p e s m args below meth c s₁ B hml hv
  obtain ⟨rfl, hsz, hP, hK, hD0, hC, hZ⟩ := hv
  have hx := B.exec
  have hb := B.bytes
  have hr := B.returns
  have hts := atoms_spec (ws := wsX10_resolve) B.pre
  have hown : s.vm.findClass RX10 = some m.cls := findClass_of_methodNamed B.named
  have hlocks := B.notSynchronized
  subst hsz
  have hD := hD0.self (sz := s.heap.size)
  generalize hAe : va_A [(oX10 w0 v0 v1 v2 v3 v4 g5 g6 (nI ed) g8 v9 (nI nb) g11 g12 v13 g14 g15 g16 g17 g18 g19 g20 g21 g22 g23 g24 g25 g26 v27 v28 v29 v30 v31 v32 v33 v34 v35 v36 v37 (nI ol)), (v0, .inl (cA 0, 326, .inl fs)), (v3, .inl (cA 0, 3260, .inl fh)), (v4, .inl (cA 1, 10, .inr (.inl fl)))] s.heap.size = A at hD hZ ⊢
  have hA : ∀ q : Nat, s.heap.size ≤ q → A q := fun q h => by rw [← hAe]; exact Or.inr h
  have hS : va_S A s.heap s.heap [] := va_S.rf
  have hP : va_P D vwCl [(oX10 w0 v0 v1 v2 v3 v4 g5 g6 (nI ed) g8 v9 (nI nb) g11 g12 v13 g14 g15 g16 g17 g18 g19 g20 g21 g22 g23 g24 g25 g26 v27 v28 v29 v30 v31 v32 v33 v34 v35 v36 v37 (nI ol)), (v0, .inl (cA 0, 326, .inl fs)), (v3, .inl (cA 0, 3260, .inl fh)), (v4, .inl (cA 1, 10, .inr (.inl fl)))] s.heap := hP
  have hl := lv_entry ([.ref w0, .int i, .int j]) (n := 5) (Nat.le_of_ble_eq_true rfl)
  rw [lg_entry_eq]
  generalize (lg_sl ([.ref w0, .int i, .int j]) ++ List.replicate (5 - (lg_sl ([.ref w0, .int i, .int j])).length) Slot.unset).toArray = ls at hl ⊢
  have hl : lv_has ls 5 [(0, .ref w0), (1, .int i), (2, .int j)] := hl
  refine lv_aload_n hx hb dX10_resolve_0 rfl (lv_at hl 0 rfl) ?_
  refine lv_iload_n hx hb dX10_resolve_1 rfl (lv_at hl 1 rfl) ?_
  refine lv_iload_n hx hb dX10_resolve_2 rfl (lv_at hl 2 rfl) ?_
  obtain ⟨hPc, hDc, hFc⟩ := PDq.cut (wc := []) hP hD hS hA [] (by decide) rfl
  refine va_calli (va_runS (As := [.int j]) (rest := [.int i, .ref w0]) ⟨hx, hb, hml, hown, hts⟩ (r_isShare l D cA sa j s.heap.size) (va_cwS 1 hts gX10_resolve_X10_isShare rfl rfl rfl (by decide +kernel) ⟨(Nat.le_of_ble_eq_true rfl), (Nat.le_of_ble_eq_true rfl)⟩) ⟨Wd.blind, fun U hU hW => ⟨rfl, Wd.call hPc hDc hK hC hZ hS hFc U hU hW⟩⟩ rfl rfl hl.1 rfl (lv_room (Nat.le_of_ble_eq_true rfl)) dX10_resolve_3 ⟨(Nat.le_of_ble_eq_true rfl), (Nat.le_of_ble_eq_true rfl)⟩) hS (fun q _ h => hFc q h) hFc (fun rn1 u t H1 locs ht hvm hw hB hz1 hk1 hS => ?_)
  obtain ⟨hP1, hD1⟩ := hB
  rw [ht] at hP1
  obtain ⟨hP, hD⟩ := PDq.join (w := [(oX10 w0 v0 v1 v2 v3 v4 g5 g6 (nI ed) g8 v9 (nI nb) g11 g12 v13 g14 g15 g16 g17 g18 g19 g20 g21 g22 g23 g24 g25 g26 v27 v28 v29 v30 v31 v32 v33 v34 v35 v36 v37 (nI ol)), (v0, .inl (cA 0, 326, .inl fs)), (v3, .inl (cA 0, 3260, .inl fh)), (v4, .inl (cA 1, 10, .inr (.inl fl)))]) 4 hP hD [] [0, 1, 2, 3] rfl rfl (by decide) (by decide) hk1 hFc hP1 hD1 rfl
  generalize H1 = H at hP hS ⊢
  rcases hw with ⟨hr9, hn2⟩ | hr9
  · skip
    subst hr9
    obtain ⟨kn3, hn4, hn5, hn6⟩ := hn2
    rw [hn6] at hl
    have hl : lv_has ls 5 [(0, .ref w0), (1, .int i), (2, .int (nI kn3))] := hl
    obtain ⟨hPc, hDc, hFc⟩ := PDq.cut (wc := [(oX10 w0 v0 v1 v2 v3 v4 g5 g6 (nI ed) g8 v9 (nI nb) g11 g12 v13 g14 g15 g16 g17 g18 g19 g20 g21 g22 g23 g24 g25 g26 v27 v28 v29 v30 v31 v32 v33 v34 v35 v36 v37 (nI ol)), (v0, .inl (cA 0, 326, .inl fs))]) hP hD hS hA [0, 1] (by decide) rfl
    refine va_calli (va_runV (As := [.int i, .int 1]) (rest := []) ⟨hx, hb, hml, hown, hts⟩ (r_canSplit1 l D cA sa w0 ed nb ol v0 v1 v2 v3 v4 v9 v13 v27 v28 v29 v30 v31 v32 v33 v34 v35 v36 v37 g8 g11 g12 g14 g15 g16 g17 g18 g19 g20 g21 g22 g23 g24 g26 g5 g6 g25 cn pq en dy fs i H.size hcn hpq hen hdy hri) (cwV 2 hts gX10_resolve_X10_canSplit rfl rfl rfl (by decide +kernel) ⟨(Nat.le_of_ble_eq_true rfl), (Nat.le_of_ble_eq_true rfl)⟩) ⟨Wd.blind, va_recv hK hPc (ci := 11) (q0 := 0) rfl rfl, fun U hU hW => ⟨rfl, Wd.call hPc hDc hK hC hZ hS hFc U hU hW⟩⟩ rfl rfl hl.1 rfl (lv_room (Nat.le_of_ble_eq_true rfl)) dX10_resolve_6 ⟨(Nat.le_of_ble_eq_true rfl), (Nat.le_of_ble_eq_true rfl)⟩) hS (fun q _ h => hFc q h) hFc (fun rn7 u t H1 locs ht hvm hw hB hz1 hk1 hS => ?_)
    obtain ⟨zn8, hP1, hD1⟩ := hB
    rw [ht] at hP1
    obtain ⟨hP, hD⟩ := PDq.join (w := [(v3, .inl (cA 0, 3260, .inl fh)), (v4, .inl (cA 1, 10, .inr (.inl fl))), (oX10 w0 v0 v1 v2 v3 v4 g5 g6 (nI ed) zn8 v9 (nI nb) g11 g12 v13 g14 g15 g16 g17 g18 g19 g20 g21 g22 g23 g24 g25 g26 v27 v28 v29 v30 v31 v32 v33 v34 v35 v36 v37 (nI ol)), (v0, .inl (cA 0, 326, .inl fs))]) 2 hP hD [0, 1] [2, 3] rfl rfl (by decide) (by decide) hk1 hFc hP1 hD1 rfl
    generalize H1 = H at hP hS ⊢
    rcases hw with ⟨hr9, hn9⟩ | hr9
    · skip
      subst hr9
      obtain ⟨kn10, hn11, hn12⟩ := hn9
      rw [hn12] at hl
      have hl : lv_has ls 5 [(0, .ref w0), (1, .int (nI kn10)), (2, .int (nI kn3))] := hl
      refine lv_if_ne (tgt := 14) hx hb dX10_resolve_9 (by decide) (fun c13 => ?_) (fun c9 => absurd c9 (by decide))
      refine lv_aload_n hx hb dX10_resolve_14 rfl (lv_at hl 0 rfl) ?_
      obtain ⟨hPc, hDc, hFc⟩ := PDq.cut (wc := [(oX10 w0 v0 v1 v2 v3 v4 g5 g6 (nI ed) zn8 v9 (nI nb) g11 g12 v13 g14 g15 g16 g17 g18 g19 g20 g21 g22 g23 g24 g25 g26 v27 v28 v29 v30 v31 v32 v33 v34 v35 v36 v37 (nI ol)), (v0, .inl (cA 0, 326, .inl fs)), (v3, .inl (cA 0, 3260, .inl fh)), (v4, .inl (cA 1, 10, .inr (.inl fl)))]) hP hD hS hA [2, 3, 0, 1] (by decide) rfl
      refine va_callv (va_runV (As := []) (rest := []) ⟨hx, hb, hml, hown, hts⟩ (r_remember l D cA sa w0 ed nb ol v0 v1 v2 v3 v4 v9 v13 v27 v28 v29 v30 v31 v32 v33 v34 v35 v36 v37 zn8 g11 g12 g14 g15 g16 g17 g18 g19 g20 g21 g22 g23 g24 g26 g5 g6 g25 cn pq en dy fs fh fl H.size hcn hpq hen hdy hri hed hHI hd9) (cwV 0 hts gX10_resolve_X10_remember rfl rfl rfl (by decide +kernel) ⟨(Nat.le_of_ble_eq_true rfl), (Nat.le_of_ble_eq_true rfl)⟩) ⟨Wd.blind, va_recv hK hPc (ci := 11) (q0 := 0) rfl rfl, fun U hU hW => ⟨rfl, Wd.call hPc hDc hK hC hZ hS hFc U hU hW⟩⟩ rfl rfl hl.1 rfl (lv_room (Nat.le_of_ble_eq_true rfl)) dX10_resolve_15 ⟨(Nat.le_of_ble_eq_true rfl), (Nat.le_of_ble_eq_true rfl)⟩) hS (fun q _ h => hFc q h) hFc (fun u t H1 locs ht hvm hw hB hz1 hk1 hS => ?_)
      obtain ⟨qn14, fn15, fn16, hn17, hn18, hP1, hD1⟩ := hB
      rw [ht] at hP1
      obtain ⟨hP, hD⟩ := PDq.join (w := [(oX10 w0 v0 v1 v2 v3 v4 g5 g6 (nI qn14) zn8 v9 (nI nb) g11 g12 v13 g14 g15 g16 g17 g18 g19 g20 g21 g22 g23 g24 g25 g26 v27 v28 v29 v30 v31 v32 v33 v34 v35 v36 v37 (nI ol)), (v0, .inl (cA 0, 326, .inl fs)), (v3, .inl (cA 0, 3260, .inl fn15)), (v4, .inl (cA 1, 10, .inr (.inl fn16)))]) 0 hP hD [2, 3, 0, 1] [] rfl rfl (by decide) (by decide) hk1 hFc hP1 hD1 rfl
      generalize H1 = H at hP hS ⊢
      refine lv_aload_n hx hb dX10_resolve_18 rfl (lv_at hl 0 rfl) ?_
      refine lv_iload_n hx hb dX10_resolve_19 rfl (lv_at hl 1 rfl) ?_
      obtain ⟨hPc, hDc, hFc⟩ := PDq.cut (wc := [(oX10 w0 v0 v1 v2 v3 v4 g5 g6 (nI qn14) zn8 v9 (nI nb) g11 g12 v13 g14 g15 g16 g17 g18 g19 g20 g21 g22 g23 g24 g25 g26 v27 v28 v29 v30 v31 v32 v33 v34 v35 v36 v37 (nI ol)), (v0, .inl (cA 0, 326, .inl fs))]) hP hD hS hA [0, 1] (by decide) rfl
      refine va_calli (va_runV (As := [.int (nI kn10)]) (rest := []) ⟨hx, hb, hml, hown, hts⟩ (r_splitSum l D cA sa w0 qn14 nb ol v0 v1 v2 v3 v4 v9 v13 v27 v28 v29 v30 v31 v32 v33 v34 v35 v36 v37 zn8 g11 g12 g14 g15 g16 g17 g18 g19 g20 g21 g22 g23 g24 g26 g5 g6 g25 cn pq en dy fs kn10 H.size hcn hpq hen hdy hri (by omega)) (cwV 1 hts gX10_resolve_X10_splitSum rfl rfl rfl (by decide +kernel) ⟨(Nat.le_of_ble_eq_true rfl), (Nat.le_of_ble_eq_true rfl)⟩) ⟨Wd.blind, va_recv hK hPc (ci := 11) (q0 := 0) rfl rfl, fun U hU hW => ⟨rfl, Wd.call hPc hDc hK hC hZ hS hFc U hU hW⟩⟩ rfl rfl hl.1 rfl (lv_room (Nat.le_of_ble_eq_true rfl)) dX10_resolve_20 ⟨(Nat.le_of_ble_eq_true rfl), (Nat.le_of_ble_eq_true rfl)⟩) hS (fun q _ h => hFc q h) hFc (fun rn19 u t H1 locs ht hvm hw hB hz1 hk1 hS => ?_)
      obtain ⟨hP1, hD1⟩ := hB
      rw [ht] at hP1
      obtain ⟨hP, hD⟩ := PDq.join (w := [(v3, .inl (cA 0, 3260, .inl fn15)), (v4, .inl (cA 1, 10, .inr (.inl fn16))), (oX10 w0 v0 v1 v2 v3 v4 g5 g6 (nI qn14) zn8 v9 (nI nb) g11 g12 v13 g14 g15 g16 g17 g18 g19 g20 g21 g22 g23 g24 g25 g26 v27 v28 v29 v30 v31 v32 v33 v34 v35 v36 v37 (nI ol)), (v0, .inl (cA 0, 326, .inl fs))]) 2 hP hD [0, 1] [2, 3] rfl rfl (by decide) (by decide) hk1 hFc hP1 hD1 rfl
      generalize H1 = H at hP hS ⊢
      refine lv_istore_n (lv' := [(3, .int rn19), (0, .ref w0), (1, .int (nI kn10)), (2, .int (nI kn3))]) hx hb dX10_resolve_23 rfl hl (by decide) rfl (fun ls hl => ?_)
      refine lv_aload_n hx hb dX10_resolve_24 rfl (lv_at hl 1 rfl) ?_
      refine lv_iload_n hx hb dX10_resolve_25 rfl (lv_at hl 2 rfl) ?_
      refine lv_iload_n hx hb dX10_resolve_26 rfl (lv_at hl 3 rfl) ?_
      obtain ⟨hPc, hDc, hFc⟩ := PDq.cut (wc := [(oX10 w0 v0 v1 v2 v3 v4 g5 g6 (nI qn14) zn8 v9 (nI nb) g11 g12 v13 g14 g15 g16 g17 g18 g19 g20 g21 g22 g23 g24 g25 g26 v27 v28 v29 v30 v31 v32 v33 v34 v35 v36 v37 (nI ol)), (v0, .inl (cA 0, 326, .inl fs))]) hP hD hS hA [2, 3] (by decide) rfl
      refine va_calli (va_runV (As := [.int (nI kn10), .int (nI kn3)]) (rest := []) ⟨hx, hb, hml, hown, hts⟩ (r_splitBy l D cA sa w0 qn14 nb ol v0 v1 v2 v3 v4 v9 v13 v27 v28 v29 v30 v31 v32 v33 v34 v35 v36 v37 zn8 g11 g12 g14 g15 g16 g17 g18 g19 g20 g21 g22 g23 g24 g26 g5 g6 g25 cn pq en dy fs kn10 (nI kn3) H.size hcn hpq hen hdy hri (by omega)) (cwV 2 hts gX10_resolve_X10_splitBy rfl rfl rfl (by decide +kernel) ⟨(Nat.le_of_ble_eq_true rfl), (Nat.le_of_ble_eq_true rfl)⟩) ⟨Wd.blind, va_recv hK hPc (ci := 11) (q0 := 0) rfl rfl, fun U hU hW => ⟨rfl, Wd.call hPc hDc hK hC hZ hS hFc U hU hW⟩⟩ rfl rfl hl.1 rfl (lv_room (Nat.le_of_ble_eq_true rfl)) dX10_resolve_27 ⟨(Nat.le_of_ble_eq_true rfl), (Nat.le_of_ble_eq_true rfl)⟩) hS (fun q _ h => hFc q h) hFc (fun rn20 u t H1 locs ht hvm hw hB hz1 hk1 hS => ?_)
      obtain ⟨hP1, hD1⟩ := hB
      rw [ht] at hP1
      obtain ⟨hP, hD⟩ := PDq.join (w := [(v3, .inl (cA 0, 3260, .inl fn15)), (v4, .inl (cA 1, 10, .inr (.inl fn16))), (oX10 w0 v0 v1 v2 v3 v4 g5 g6 (nI qn14) zn8 v9 (nI nb) g11 g12 v13 g14 g15 g16 g17 g18 g19 g20 g21 g22 g23 g24 g25 g26 v27 v28 v29 v30 v31 v32 v33 v34 v35 v36 v37 (nI ol)), (v0, .inl (cA 0, 326, .inl fs))]) 2 hP hD [2, 3] [0, 1] rfl rfl (by decide) (by decide) hk1 hFc hP1 hD1 rfl
      generalize H1 = H at hP hS ⊢
      refine lv_istore (lv' := [(4, .int rn20), (3, .int rn19), (0, .ref w0), (1, .int (nI kn10)), (2, .int (nI kn3))]) hx hb dX10_resolve_30 hl (by decide) rfl (fun ls hl => ?_)
      refine lv_aload_n hx hb dX10_resolve_32 rfl (lv_at hl 2 rfl) ?_
      refine lv_iload_n hx hb dX10_resolve_33 rfl (lv_at hl 3 rfl) ?_
      refine lv_iconst (v := 3) hx hb dX10_resolve_34 (by decide) ?_
      refine lv_iconst (v := 0) hx hb dX10_resolve_35 (by decide) ?_
      obtain ⟨hPc, hDc, hFc⟩ := PDq.cut (wc := [(oX10 w0 v0 v1 v2 v3 v4 g5 g6 (nI qn14) zn8 v9 (nI nb) g11 g12 v13 g14 g15 g16 g17 g18 g19 g20 g21 g22 g23 g24 g25 g26 v27 v28 v29 v30 v31 v32 v33 v34 v35 v36 v37 (nI ol)), (v0, .inl (cA 0, 326, .inl fs))]) hP hD hS hA [2, 3] (by decide) rfl
      refine va_callv (va_runV (As := [.int (nI kn10), .int 3, .int 0]) (rest := []) ⟨hx, hb, hml, hown, hts⟩ (r_set l D cA sa w0 qn14 nb ol v0 v1 v2 v3 v4 v9 v13 v27 v28 v29 v30 v31 v32 v33 v34 v35 v36 v37 zn8 g11 g12 g14 g15 g16 g17 g18 g19 g20 g21 g22 g23 g24 g26 g5 g6 g25 cn pq en dy fs kn10 3 0 H.size hcn hpq hen hdy hri (by omega) (by omega)) (cwV 3 hts gX10_resolve_X10_set rfl rfl rfl (by decide +kernel) ⟨(Nat.le_of_ble_eq_true rfl), (Nat.le_of_ble_eq_true rfl)⟩) ⟨Wd.blind, va_recv hK hPc (ci := 11) (q0 := 0) rfl rfl, fun U hU hW => ⟨rfl, Wd.call hPc hDc hK hC hZ hS hFc U hU hW⟩⟩ rfl rfl hl.1 rfl (lv_room (Nat.le_of_ble_eq_true rfl)) dX10_resolve_36 ⟨(Nat.le_of_ble_eq_true rfl), (Nat.le_of_ble_eq_true rfl)⟩) hS (fun q _ h => hFc q h) hFc (fun u t H1 locs ht hvm hw hB hz1 hk1 hS => ?_)
      obtain ⟨fn21, hn22, hP1, hD1⟩ := hB
      rw [ht] at hP1
      obtain ⟨hP, hD⟩ := PDq.join (w := [(v3, .inl (cA 0, 3260, .inl fn15)), (v4, .inl (cA 1, 10, .inr (.inl fn16))), (oX10 w0 v0 v1 v2 v3 v4 g5 g6 (nI qn14) zn8 v9 (nI nb) g11 g12 v13 g14 g15 g16 g17 g18 g19 g20 g21 g22 g23 g24 g25 g26 v27 v28 v29 v30 v31 v32 v33 v34 v35 v36 v37 (nI ol)), (v0, .inl (cA 0, 326, .inl fn21))]) 2 hP hD [2, 3] [0, 1] rfl rfl (by decide) (by decide) hk1 hFc hP1 hD1 rfl
      generalize H1 = H at hP hS ⊢
      refine lv_aload_n hx hb dX10_resolve_39 rfl (lv_at hl 2 rfl) ?_
      refine lv_iload_n hx hb dX10_resolve_40 rfl (lv_at hl 3 rfl) ?_
      refine lv_iload hx hb dX10_resolve_41 (lv_at hl 0 rfl) ?_
      obtain ⟨hPc, hDc, hFc⟩ := PDq.cut (wc := [(oX10 w0 v0 v1 v2 v3 v4 g5 g6 (nI qn14) zn8 v9 (nI nb) g11 g12 v13 g14 g15 g16 g17 g18 g19 g20 g21 g22 g23 g24 g25 g26 v27 v28 v29 v30 v31 v32 v33 v34 v35 v36 v37 (nI ol)), (v0, .inl (cA 0, 326, .inl fn21))]) hP hD hS hA [2, 3] (by decide) rfl
      refine va_calli (va_runV (As := [.int (nI kn10), .int rn20]) (rest := []) ⟨hx, hb, hml, hown, hts⟩ (r_makePayment l D cA sa w0 qn14 nb ol v0 v1 v2 v3 v4 v9 v13 v27 v28 v29 v30 v31 v32 v33 v34 v35 v36 v37 zn8 g11 g12 g14 g15 g16 g17 g18 g19 g20 g21 g22 g23 g24 g26 g5 g6 g25 cn pq en dy fn21 kn10 rn20 H.size hcn hpq hen hdy hn22 (by omega)) (cwV 2 hts gX10_resolve_X10_makePayment rfl rfl rfl (by decide +kernel) ⟨(Nat.le_of_ble_eq_true rfl), (Nat.le_of_ble_eq_true rfl)⟩) ⟨Wd.blind, va_recv hK hPc (ci := 11) (q0 := 0) rfl rfl, fun U hU hW => ⟨rfl, Wd.call hPc hDc hK hC hZ hS hFc U hU hW⟩⟩ rfl rfl hl.1 rfl (lv_room (Nat.le_of_ble_eq_true rfl)) dX10_resolve_43 ⟨(Nat.le_of_ble_eq_true rfl), (Nat.le_of_ble_eq_true rfl)⟩) hS (fun q _ h => hFc q h) hFc (fun rn23 u t H1 locs ht hvm hw hB hz1 hk1 hS => ?_)
      obtain ⟨qn24, fn25, hn26, hn27, hP1, hD1⟩ := hB
      rw [ht] at hP1
      obtain ⟨hP, hD⟩ := PDq.join (w := [(v3, .inl (cA 0, 3260, .inl fn15)), (v4, .inl (cA 1, 10, .inr (.inl fn16))), (oX10 w0 v0 v1 v2 v3 v4 g5 g6 (nI qn14) zn8 v9 (nI nb) g11 g12 v13 g14 g15 g16 g17 g18 g19 g20 g21 g22 g23 g24 g25 g26 v27 v28 v29 v30 v31 v32 v33 v34 v35 v36 v37 (nI ol)), (v0, .inl (cA 0, 326, .inl fn25))]) 2 hP hD [2, 3] [0, 1] rfl rfl (by decide) (by decide) hk1 hFc hP1 hD1 rfl
      generalize H1 = H at hP hS ⊢
      refine lv_pop hx hb dX10_resolve_46 rfl ?_
      refine lv_aload_n hx hb dX10_resolve_47 rfl (lv_at hl 2 rfl) ?_
      refine lv_iload_n hx hb dX10_resolve_48 rfl (lv_at hl 1 rfl) ?_
      refine lv_iload hx hb dX10_resolve_49 (lv_at hl 0 rfl) ?_
      refine lv_isub hx hb dX10_resolve_51 ?_
      refine lv_topi (fun yn28 eyn28 => ?_)
      refine lv_iload_n hx hb dX10_resolve_52 rfl (lv_at hl 3 rfl) ?_
      obtain ⟨hPc, hDc, hFc⟩ := PDq.cut (wc := [(oX10 w0 v0 v1 v2 v3 v4 g5 g6 (nI qn14) zn8 v9 (nI nb) g11 g12 v13 g14 g15 g16 g17 g18 g19 g20 g21 g22 g23 g24 g25 g26 v27 v28 v29 v30 v31 v32 v33 v34 v35 v36 v37 (nI ol)), (v0, .inl (cA 0, 326, .inl fn25))]) hP hD hS hA [2, 3] (by decide) rfl
      refine va_callv (va_runV (As := [.int yn28, .int (nI kn10)]) (rest := []) ⟨hx, hb, hml, hown, hts⟩ (r_refund l D cA sa w0 qn14 nb ol v0 v1 v2 v3 v4 v9 v13 v27 v28 v29 v30 v31 v32 v33 v34 v35 v36 v37 zn8 g11 g12 g14 g15 g16 g17 g18 g19 g20 g21 g22 g23 g24 g26 g5 g6 g25 cn pq qn24 dy fn25 yn28 (nI kn10) H.size hcn hpq hn26 hdy hn27) (cwV 2 hts gX10_resolve_X10_refund rfl rfl rfl (by decide +kernel) ⟨(Nat.le_of_ble_eq_true rfl), (Nat.le_of_ble_eq_true rfl)⟩) ⟨Wd.blind, va_recv hK hPc (ci := 11) (q0 := 0) rfl rfl, fun U hU hW => ⟨rfl, Wd.call hPc hDc hK hC hZ hS hFc U hU hW⟩⟩ rfl rfl hl.1 rfl (lv_room (Nat.le_of_ble_eq_true rfl)) dX10_resolve_53 ⟨(Nat.le_of_ble_eq_true rfl), (Nat.le_of_ble_eq_true rfl)⟩) hS (fun q _ h => hFc q h) hFc (fun u t H1 locs ht hvm hw hB hz1 hk1 hS => ?_)
      obtain ⟨qn29, fn30, hn31, hn32, hP1, hD1⟩ := hB
      rw [ht] at hP1
      obtain ⟨hP, hD⟩ := PDq.join (w := [(v3, .inl (cA 0, 3260, .inl fn15)), (v4, .inl (cA 1, 10, .inr (.inl fn16))), (oX10 w0 v0 v1 v2 v3 v4 g5 g6 (nI qn14) zn8 v9 (nI nb) g11 g12 v13 g14 g15 g16 g17 g18 g19 g20 g21 g22 g23 g24 g25 g26 v27 v28 v29 v30 v31 v32 v33 v34 v35 v36 v37 (nI ol)), (v0, .inl (cA 0, 326, .inl fn30))]) 2 hP hD [2, 3] [0, 1] rfl rfl (by decide) (by decide) hk1 hFc hP1 hD1 rfl
      generalize H1 = H at hP hS ⊢
      refine lv_aload_n hx hb dX10_resolve_56 rfl (lv_at hl 2 rfl) ?_
      refine lv_iload_n hx hb dX10_resolve_57 rfl (lv_at hl 3 rfl) ?_
      refine lv_iconst (v := 2) hx hb dX10_resolve_58 (by decide) ?_
      refine lv_iconst (v := 4) hx hb dX10_resolve_59 (by decide) ?_
      obtain ⟨hPc, hDc, hFc⟩ := PDq.cut (wc := [(oX10 w0 v0 v1 v2 v3 v4 g5 g6 (nI qn14) zn8 v9 (nI nb) g11 g12 v13 g14 g15 g16 g17 g18 g19 g20 g21 g22 g23 g24 g25 g26 v27 v28 v29 v30 v31 v32 v33 v34 v35 v36 v37 (nI ol)), (v0, .inl (cA 0, 326, .inl fn30))]) hP hD hS hA [2, 3] (by decide) rfl
      refine va_callv (va_runV (As := [.int (nI kn10), .int 2, .int 4]) (rest := []) ⟨hx, hb, hml, hown, hts⟩ (r_set l D cA sa w0 qn14 nb ol v0 v1 v2 v3 v4 v9 v13 v27 v28 v29 v30 v31 v32 v33 v34 v35 v36 v37 zn8 g11 g12 g14 g15 g16 g17 g18 g19 g20 g21 g22 g23 g24 g26 g5 g6 g25 cn pq qn29 dy fn30 kn10 2 4 H.size hcn hpq hn31 hdy hn32 (by omega) (by omega)) (cwV 3 hts gX10_resolve_X10_set rfl rfl rfl (by decide +kernel) ⟨(Nat.le_of_ble_eq_true rfl), (Nat.le_of_ble_eq_true rfl)⟩) ⟨Wd.blind, va_recv hK hPc (ci := 11) (q0 := 0) rfl rfl, fun U hU hW => ⟨rfl, Wd.call hPc hDc hK hC hZ hS hFc U hU hW⟩⟩ rfl rfl hl.1 rfl (lv_room (Nat.le_of_ble_eq_true rfl)) dX10_resolve_60 ⟨(Nat.le_of_ble_eq_true rfl), (Nat.le_of_ble_eq_true rfl)⟩) hS (fun q _ h => hFc q h) hFc (fun u t H1 locs ht hvm hw hB hz1 hk1 hS => ?_)
      obtain ⟨fn33, hn34, hP1, hD1⟩ := hB
      rw [ht] at hP1
      obtain ⟨hP, hD⟩ := PDq.join (w := [(v3, .inl (cA 0, 3260, .inl fn15)), (v4, .inl (cA 1, 10, .inr (.inl fn16))), (oX10 w0 v0 v1 v2 v3 v4 g5 g6 (nI qn14) zn8 v9 (nI nb) g11 g12 v13 g14 g15 g16 g17 g18 g19 g20 g21 g22 g23 g24 g25 g26 v27 v28 v29 v30 v31 v32 v33 v34 v35 v36 v37 (nI ol)), (v0, .inl (cA 0, 326, .inl fn33))]) 2 hP hD [2, 3] [0, 1] rfl rfl (by decide) (by decide) hk1 hFc hP1 hD1 rfl
      generalize H1 = H at hP hS ⊢
      refine lv_iload hx hb dX10_resolve_63 (lv_at hl 0 rfl) ?_
      obtain ⟨hP9, hD9⟩ := PDq.sub (ws' := [(oX10 w0 v0 v1 v2 v3 v4 g5 g6 (nI qn14) zn8 v9 (nI nb) g11 g12 v13 g14 g15 g16 g17 g18 g19 g20 g21 g22 g23 g24 g25 g26 v27 v28 v29 v30 v31 v32 v33 v34 v35 v36 v37 (nI ol)), (v0, .inl (cA 0, 326, .inl fn33)), (v3, .inl (cA 0, 3260, .inl fn15)), (v4, .inl (cA 1, 10, .inr (.inl fn16)))]) hP hD [2, 3, 0, 1] (by decide) rfl
      refine W.widen (k := 0) (n := 0) (Nat.le_of_ble_eq_true rfl) (Nat.le_of_ble_eq_true rfl) ?_
      exact (W.iret (v := rn20) hx hb hr (fun t ht hW => ⟨⟨rn20, (), rfl, trivial, qn14, qn29, zn8, g14, g15, g16, g17, g18, g19, g20, g21, g22, g23, g24, g26, g5, g6, g25, fn33, fn15, fn16, hn17, hn18, hn31, hn34, by rw [ht]; exact hP9, hD9⟩, hS.F ht⟩) hS.2.2 dX10_resolve_65)
    · skip
      subst hr9
      refine lv_if_ne (tgt := 14) hx hb dX10_resolve_9 (by decide) (fun c9 => absurd c9 (by decide)) (fun c35 => ?_)
      refine lv_iconst (v := 0) hx hb dX10_resolve_12 (by decide) ?_
      obtain ⟨hP9, hD9⟩ := PDq.sub (ws' := [(oX10 w0 v0 v1 v2 v3 v4 g5 g6 (nI ed) zn8 v9 (nI nb) g11 g12 v13 g14 g15 g16 g17 g18 g19 g20 g21 g22 g23 g24 g25 g26 v27 v28 v29 v30 v31 v32 v33 v34 v35 v36 v37 (nI ol)), (v0, .inl (cA 0, 326, .inl fs)), (v3, .inl (cA 0, 3260, .inl fh)), (v4, .inl (cA 1, 10, .inr (.inl fl)))]) hP hD [2, 3, 0, 1] (by decide) rfl
      refine W.widen (k := 0) (n := 0) (Nat.le_of_ble_eq_true rfl) (Nat.le_of_ble_eq_true rfl) ?_
      exact (W.iret (v := 0) hx hb hr (fun t ht hW => ⟨⟨0, (), rfl, trivial, ed, en, zn8, g14, g15, g16, g17, g18, g19, g20, g21, g22, g23, g24, g26, g5, g6, g25, fs, fh, fl, hed, hHI, hen, hri, by rw [ht]; exact hP9, hD9⟩, hS.F ht⟩) hS.2.2 dX10_resolve_13)
  · skip
    subst hr9
    obtain ⟨hPc, hDc, hFc⟩ := PDq.cut (wc := [(oX10 w0 v0 v1 v2 v3 v4 g5 g6 (nI ed) g8 v9 (nI nb) g11 g12 v13 g14 g15 g16 g17 g18 g19 g20 g21 g22 g23 g24 g25 g26 v27 v28 v29 v30 v31 v32 v33 v34 v35 v36 v37 (nI ol)), (v0, .inl (cA 0, 326, .inl fs))]) hP hD hS hA [0, 1] (by decide) rfl
    refine va_calli (va_runV (As := [.int i, .int 0]) (rest := []) ⟨hx, hb, hml, hown, hts⟩ (r_canSplit0 l D cA sa w0 ed nb ol v0 v1 v2 v3 v4 v9 v13 v27 v28 v29 v30 v31 v32 v33 v34 v35 v36 v37 g8 g11 g12 g14 g15 g16 g17 g18 g19 g20 g21 g22 g23 g24 g26 g5 g6 g25 cn pq en dy fs i H.size hcn hpq hen hdy hri) (cwV 2 hts gX10_resolve_X10_canSplit rfl rfl rfl (by decide +kernel) ⟨(Nat.le_of_ble_eq_true rfl), (Nat.le_of_ble_eq_true rfl)⟩) ⟨Wd.blind, va_recv hK hPc (ci := 11) (q0 := 0) rfl rfl, fun U hU hW => ⟨rfl, Wd.call hPc hDc hK hC hZ hS hFc U hU hW⟩⟩ rfl rfl hl.1 rfl (lv_room (Nat.le_of_ble_eq_true rfl)) dX10_resolve_6 ⟨(Nat.le_of_ble_eq_true rfl), (Nat.le_of_ble_eq_true rfl)⟩) hS (fun q _ h => hFc q h) hFc (fun rn36 u t H1 locs ht hvm hw hB hz1 hk1 hS => ?_)
    obtain ⟨zn37, hP1, hD1⟩ := hB
    rw [ht] at hP1
    obtain ⟨hP, hD⟩ := PDq.join (w := [(v3, .inl (cA 0, 3260, .inl fh)), (v4, .inl (cA 1, 10, .inr (.inl fl))), (oX10 w0 v0 v1 v2 v3 v4 g5 g6 (nI ed) zn37 v9 (nI nb) g11 g12 v13 g14 g15 g16 g17 g18 g19 g20 g21 g22 g23 g24 g25 g26 v27 v28 v29 v30 v31 v32 v33 v34 v35 v36 v37 (nI ol)), (v0, .inl (cA 0, 326, .inl fs))]) 2 hP hD [0, 1] [2, 3] rfl rfl (by decide) (by decide) hk1 hFc hP1 hD1 rfl
    generalize H1 = H at hP hS ⊢
    rcases hw with ⟨hr9, hn38⟩ | hr9
    · skip
      subst hr9
      obtain ⟨kn39, hn40, hn41⟩ := hn38
      rw [hn41] at hl
      have hl : lv_has ls 5 [(0, .ref w0), (1, .int (nI kn39)), (2, .int j)] := hl
      refine lv_if_ne (tgt := 14) hx hb dX10_resolve_9 (by decide) (fun c42 => ?_) (fun c9 => absurd c9 (by decide))
      refine lv_aload_n hx hb dX10_resolve_14 rfl (lv_at hl 0 rfl) ?_
      obtain ⟨hPc, hDc, hFc⟩ := PDq.cut (wc := [(oX10 w0 v0 v1 v2 v3 v4 g5 g6 (nI ed) zn37 v9 (nI nb) g11 g12 v13 g14 g15 g16 g17 g18 g19 g20 g21 g22 g23 g24 g25 g26 v27 v28 v29 v30 v31 v32 v33 v34 v35 v36 v37 (nI ol)), (v0, .inl (cA 0, 326, .inl fs)), (v3, .inl (cA 0, 3260, .inl fh)), (v4, .inl (cA 1, 10, .inr (.inl fl)))]) hP hD hS hA [2, 3, 0, 1] (by decide) rfl
      refine va_callv (va_runV (As := []) (rest := []) ⟨hx, hb, hml, hown, hts⟩ (r_remember l D cA sa w0 ed nb ol v0 v1 v2 v3 v4 v9 v13 v27 v28 v29 v30 v31 v32 v33 v34 v35 v36 v37 zn37 g11 g12 g14 g15 g16 g17 g18 g19 g20 g21 g22 g23 g24 g26 g5 g6 g25 cn pq en dy fs fh fl H.size hcn hpq hen hdy hri hed hHI hd9) (cwV 0 hts gX10_resolve_X10_remember rfl rfl rfl (by decide +kernel) ⟨(Nat.le_of_ble_eq_true rfl), (Nat.le_of_ble_eq_true rfl)⟩) ⟨Wd.blind, va_recv hK hPc (ci := 11) (q0 := 0) rfl rfl, fun U hU hW => ⟨rfl, Wd.call hPc hDc hK hC hZ hS hFc U hU hW⟩⟩ rfl rfl hl.1 rfl (lv_room (Nat.le_of_ble_eq_true rfl)) dX10_resolve_15 ⟨(Nat.le_of_ble_eq_true rfl), (Nat.le_of_ble_eq_true rfl)⟩) hS (fun q _ h => hFc q h) hFc (fun u t H1 locs ht hvm hw hB hz1 hk1 hS => ?_)
      obtain ⟨qn43, fn44, fn45, hn46, hn47, hP1, hD1⟩ := hB
      rw [ht] at hP1
      obtain ⟨hP, hD⟩ := PDq.join (w := [(oX10 w0 v0 v1 v2 v3 v4 g5 g6 (nI qn43) zn37 v9 (nI nb) g11 g12 v13 g14 g15 g16 g17 g18 g19 g20 g21 g22 g23 g24 g25 g26 v27 v28 v29 v30 v31 v32 v33 v34 v35 v36 v37 (nI ol)), (v0, .inl (cA 0, 326, .inl fs)), (v3, .inl (cA 0, 3260, .inl fn44)), (v4, .inl (cA 1, 10, .inr (.inl fn45)))]) 0 hP hD [2, 3, 0, 1] [] rfl rfl (by decide) (by decide) hk1 hFc hP1 hD1 rfl
      generalize H1 = H at hP hS ⊢
      refine lv_aload_n hx hb dX10_resolve_18 rfl (lv_at hl 0 rfl) ?_
      refine lv_iload_n hx hb dX10_resolve_19 rfl (lv_at hl 1 rfl) ?_
      obtain ⟨hPc, hDc, hFc⟩ := PDq.cut (wc := [(oX10 w0 v0 v1 v2 v3 v4 g5 g6 (nI qn43) zn37 v9 (nI nb) g11 g12 v13 g14 g15 g16 g17 g18 g19 g20 g21 g22 g23 g24 g25 g26 v27 v28 v29 v30 v31 v32 v33 v34 v35 v36 v37 (nI ol)), (v0, .inl (cA 0, 326, .inl fs))]) hP hD hS hA [0, 1] (by decide) rfl
      refine va_calli (va_runV (As := [.int (nI kn39)]) (rest := []) ⟨hx, hb, hml, hown, hts⟩ (r_splitSum l D cA sa w0 qn43 nb ol v0 v1 v2 v3 v4 v9 v13 v27 v28 v29 v30 v31 v32 v33 v34 v35 v36 v37 zn37 g11 g12 g14 g15 g16 g17 g18 g19 g20 g21 g22 g23 g24 g26 g5 g6 g25 cn pq en dy fs kn39 H.size hcn hpq hen hdy hri (by omega)) (cwV 1 hts gX10_resolve_X10_splitSum rfl rfl rfl (by decide +kernel) ⟨(Nat.le_of_ble_eq_true rfl), (Nat.le_of_ble_eq_true rfl)⟩) ⟨Wd.blind, va_recv hK hPc (ci := 11) (q0 := 0) rfl rfl, fun U hU hW => ⟨rfl, Wd.call hPc hDc hK hC hZ hS hFc U hU hW⟩⟩ rfl rfl hl.1 rfl (lv_room (Nat.le_of_ble_eq_true rfl)) dX10_resolve_20 ⟨(Nat.le_of_ble_eq_true rfl), (Nat.le_of_ble_eq_true rfl)⟩) hS (fun q _ h => hFc q h) hFc (fun rn48 u t H1 locs ht hvm hw hB hz1 hk1 hS => ?_)
      obtain ⟨hP1, hD1⟩ := hB
      rw [ht] at hP1
      obtain ⟨hP, hD⟩ := PDq.join (w := [(v3, .inl (cA 0, 3260, .inl fn44)), (v4, .inl (cA 1, 10, .inr (.inl fn45))), (oX10 w0 v0 v1 v2 v3 v4 g5 g6 (nI qn43) zn37 v9 (nI nb) g11 g12 v13 g14 g15 g16 g17 g18 g19 g20 g21 g22 g23 g24 g25 g26 v27 v28 v29 v30 v31 v32 v33 v34 v35 v36 v37 (nI ol)), (v0, .inl (cA 0, 326, .inl fs))]) 2 hP hD [0, 1] [2, 3] rfl rfl (by decide) (by decide) hk1 hFc hP1 hD1 rfl
      generalize H1 = H at hP hS ⊢
      refine lv_istore_n (lv' := [(3, .int rn48), (0, .ref w0), (1, .int (nI kn39)), (2, .int j)]) hx hb dX10_resolve_23 rfl hl (by decide) rfl (fun ls hl => ?_)
      refine lv_aload_n hx hb dX10_resolve_24 rfl (lv_at hl 1 rfl) ?_
      refine lv_iload_n hx hb dX10_resolve_25 rfl (lv_at hl 2 rfl) ?_
      refine lv_iload_n hx hb dX10_resolve_26 rfl (lv_at hl 3 rfl) ?_
      obtain ⟨hPc, hDc, hFc⟩ := PDq.cut (wc := [(oX10 w0 v0 v1 v2 v3 v4 g5 g6 (nI qn43) zn37 v9 (nI nb) g11 g12 v13 g14 g15 g16 g17 g18 g19 g20 g21 g22 g23 g24 g25 g26 v27 v28 v29 v30 v31 v32 v33 v34 v35 v36 v37 (nI ol)), (v0, .inl (cA 0, 326, .inl fs))]) hP hD hS hA [2, 3] (by decide) rfl
      refine va_calli (va_runV (As := [.int (nI kn39), .int j]) (rest := []) ⟨hx, hb, hml, hown, hts⟩ (r_splitBy l D cA sa w0 qn43 nb ol v0 v1 v2 v3 v4 v9 v13 v27 v28 v29 v30 v31 v32 v33 v34 v35 v36 v37 zn37 g11 g12 g14 g15 g16 g17 g18 g19 g20 g21 g22 g23 g24 g26 g5 g6 g25 cn pq en dy fs kn39 j H.size hcn hpq hen hdy hri (by omega)) (cwV 2 hts gX10_resolve_X10_splitBy rfl rfl rfl (by decide +kernel) ⟨(Nat.le_of_ble_eq_true rfl), (Nat.le_of_ble_eq_true rfl)⟩) ⟨Wd.blind, va_recv hK hPc (ci := 11) (q0 := 0) rfl rfl, fun U hU hW => ⟨rfl, Wd.call hPc hDc hK hC hZ hS hFc U hU hW⟩⟩ rfl rfl hl.1 rfl (lv_room (Nat.le_of_ble_eq_true rfl)) dX10_resolve_27 ⟨(Nat.le_of_ble_eq_true rfl), (Nat.le_of_ble_eq_true rfl)⟩) hS (fun q _ h => hFc q h) hFc (fun rn49 u t H1 locs ht hvm hw hB hz1 hk1 hS => ?_)
      obtain ⟨hP1, hD1⟩ := hB
      rw [ht] at hP1
      obtain ⟨hP, hD⟩ := PDq.join (w := [(v3, .inl (cA 0, 3260, .inl fn44)), (v4, .inl (cA 1, 10, .inr (.inl fn45))), (oX10 w0 v0 v1 v2 v3 v4 g5 g6 (nI qn43) zn37 v9 (nI nb) g11 g12 v13 g14 g15 g16 g17 g18 g19 g20 g21 g22 g23 g24 g25 g26 v27 v28 v29 v30 v31 v32 v33 v34 v35 v36 v37 (nI ol)), (v0, .inl (cA 0, 326, .inl fs))]) 2 hP hD [2, 3] [0, 1] rfl rfl (by decide) (by decide) hk1 hFc hP1 hD1 rfl
      generalize H1 = H at hP hS ⊢
      refine lv_istore (lv' := [(4, .int rn49), (3, .int rn48), (0, .ref w0), (1, .int (nI kn39)), (2, .int j)]) hx hb dX10_resolve_30 hl (by decide) rfl (fun ls hl => ?_)
      refine lv_aload_n hx hb dX10_resolve_32 rfl (lv_at hl 2 rfl) ?_
      refine lv_iload_n hx hb dX10_resolve_33 rfl (lv_at hl 3 rfl) ?_
      refine lv_iconst (v := 3) hx hb dX10_resolve_34 (by decide) ?_
      refine lv_iconst (v := 0) hx hb dX10_resolve_35 (by decide) ?_
      obtain ⟨hPc, hDc, hFc⟩ := PDq.cut (wc := [(oX10 w0 v0 v1 v2 v3 v4 g5 g6 (nI qn43) zn37 v9 (nI nb) g11 g12 v13 g14 g15 g16 g17 g18 g19 g20 g21 g22 g23 g24 g25 g26 v27 v28 v29 v30 v31 v32 v33 v34 v35 v36 v37 (nI ol)), (v0, .inl (cA 0, 326, .inl fs))]) hP hD hS hA [2, 3] (by decide) rfl
      refine va_callv (va_runV (As := [.int (nI kn39), .int 3, .int 0]) (rest := []) ⟨hx, hb, hml, hown, hts⟩ (r_set l D cA sa w0 qn43 nb ol v0 v1 v2 v3 v4 v9 v13 v27 v28 v29 v30 v31 v32 v33 v34 v35 v36 v37 zn37 g11 g12 g14 g15 g16 g17 g18 g19 g20 g21 g22 g23 g24 g26 g5 g6 g25 cn pq en dy fs kn39 3 0 H.size hcn hpq hen hdy hri (by omega) (by omega)) (cwV 3 hts gX10_resolve_X10_set rfl rfl rfl (by decide +kernel) ⟨(Nat.le_of_ble_eq_true rfl), (Nat.le_of_ble_eq_true rfl)⟩) ⟨Wd.blind, va_recv hK hPc (ci := 11) (q0 := 0) rfl rfl, fun U hU hW => ⟨rfl, Wd.call hPc hDc hK hC hZ hS hFc U hU hW⟩⟩ rfl rfl hl.1 rfl (lv_room (Nat.le_of_ble_eq_true rfl)) dX10_resolve_36 ⟨(Nat.le_of_ble_eq_true rfl), (Nat.le_of_ble_eq_true rfl)⟩) hS (fun q _ h => hFc q h) hFc (fun u t H1 locs ht hvm hw hB hz1 hk1 hS => ?_)
      obtain ⟨fn50, hn51, hP1, hD1⟩ := hB
      rw [ht] at hP1
      obtain ⟨hP, hD⟩ := PDq.join (w := [(v3, .inl (cA 0, 3260, .inl fn44)), (v4, .inl (cA 1, 10, .inr (.inl fn45))), (oX10 w0 v0 v1 v2 v3 v4 g5 g6 (nI qn43) zn37 v9 (nI nb) g11 g12 v13 g14 g15 g16 g17 g18 g19 g20 g21 g22 g23 g24 g25 g26 v27 v28 v29 v30 v31 v32 v33 v34 v35 v36 v37 (nI ol)), (v0, .inl (cA 0, 326, .inl fn50))]) 2 hP hD [2, 3] [0, 1] rfl rfl (by decide) (by decide) hk1 hFc hP1 hD1 rfl
      generalize H1 = H at hP hS ⊢
      refine lv_aload_n hx hb dX10_resolve_39 rfl (lv_at hl 2 rfl) ?_
      refine lv_iload_n hx hb dX10_resolve_40 rfl (lv_at hl 3 rfl) ?_
      refine lv_iload hx hb dX10_resolve_41 (lv_at hl 0 rfl) ?_
      obtain ⟨hPc, hDc, hFc⟩ := PDq.cut (wc := [(oX10 w0 v0 v1 v2 v3 v4 g5 g6 (nI qn43) zn37 v9 (nI nb) g11 g12 v13 g14 g15 g16 g17 g18 g19 g20 g21 g22 g23 g24 g25 g26 v27 v28 v29 v30 v31 v32 v33 v34 v35 v36 v37 (nI ol)), (v0, .inl (cA 0, 326, .inl fn50))]) hP hD hS hA [2, 3] (by decide) rfl
      refine va_calli (va_runV (As := [.int (nI kn39), .int rn49]) (rest := []) ⟨hx, hb, hml, hown, hts⟩ (r_makePayment l D cA sa w0 qn43 nb ol v0 v1 v2 v3 v4 v9 v13 v27 v28 v29 v30 v31 v32 v33 v34 v35 v36 v37 zn37 g11 g12 g14 g15 g16 g17 g18 g19 g20 g21 g22 g23 g24 g26 g5 g6 g25 cn pq en dy fn50 kn39 rn49 H.size hcn hpq hen hdy hn51 (by omega)) (cwV 2 hts gX10_resolve_X10_makePayment rfl rfl rfl (by decide +kernel) ⟨(Nat.le_of_ble_eq_true rfl), (Nat.le_of_ble_eq_true rfl)⟩) ⟨Wd.blind, va_recv hK hPc (ci := 11) (q0 := 0) rfl rfl, fun U hU hW => ⟨rfl, Wd.call hPc hDc hK hC hZ hS hFc U hU hW⟩⟩ rfl rfl hl.1 rfl (lv_room (Nat.le_of_ble_eq_true rfl)) dX10_resolve_43 ⟨(Nat.le_of_ble_eq_true rfl), (Nat.le_of_ble_eq_true rfl)⟩) hS (fun q _ h => hFc q h) hFc (fun rn52 u t H1 locs ht hvm hw hB hz1 hk1 hS => ?_)
      obtain ⟨qn53, fn54, hn55, hn56, hP1, hD1⟩ := hB
      rw [ht] at hP1
      obtain ⟨hP, hD⟩ := PDq.join (w := [(v3, .inl (cA 0, 3260, .inl fn44)), (v4, .inl (cA 1, 10, .inr (.inl fn45))), (oX10 w0 v0 v1 v2 v3 v4 g5 g6 (nI qn43) zn37 v9 (nI nb) g11 g12 v13 g14 g15 g16 g17 g18 g19 g20 g21 g22 g23 g24 g25 g26 v27 v28 v29 v30 v31 v32 v33 v34 v35 v36 v37 (nI ol)), (v0, .inl (cA 0, 326, .inl fn54))]) 2 hP hD [2, 3] [0, 1] rfl rfl (by decide) (by decide) hk1 hFc hP1 hD1 rfl
      generalize H1 = H at hP hS ⊢
      refine lv_pop hx hb dX10_resolve_46 rfl ?_
      refine lv_aload_n hx hb dX10_resolve_47 rfl (lv_at hl 2 rfl) ?_
      refine lv_iload_n hx hb dX10_resolve_48 rfl (lv_at hl 1 rfl) ?_
      refine lv_iload hx hb dX10_resolve_49 (lv_at hl 0 rfl) ?_
      refine lv_isub hx hb dX10_resolve_51 ?_
      refine lv_topi (fun yn57 eyn57 => ?_)
      refine lv_iload_n hx hb dX10_resolve_52 rfl (lv_at hl 3 rfl) ?_
      obtain ⟨hPc, hDc, hFc⟩ := PDq.cut (wc := [(oX10 w0 v0 v1 v2 v3 v4 g5 g6 (nI qn43) zn37 v9 (nI nb) g11 g12 v13 g14 g15 g16 g17 g18 g19 g20 g21 g22 g23 g24 g25 g26 v27 v28 v29 v30 v31 v32 v33 v34 v35 v36 v37 (nI ol)), (v0, .inl (cA 0, 326, .inl fn54))]) hP hD hS hA [2, 3] (by decide) rfl
      refine va_callv (va_runV (As := [.int yn57, .int (nI kn39)]) (rest := []) ⟨hx, hb, hml, hown, hts⟩ (r_refund l D cA sa w0 qn43 nb ol v0 v1 v2 v3 v4 v9 v13 v27 v28 v29 v30 v31 v32 v33 v34 v35 v36 v37 zn37 g11 g12 g14 g15 g16 g17 g18 g19 g20 g21 g22 g23 g24 g26 g5 g6 g25 cn pq qn53 dy fn54 yn57 (nI kn39) H.size hcn hpq hn55 hdy hn56) (cwV 2 hts gX10_resolve_X10_refund rfl rfl rfl (by decide +kernel) ⟨(Nat.le_of_ble_eq_true rfl), (Nat.le_of_ble_eq_true rfl)⟩) ⟨Wd.blind, va_recv hK hPc (ci := 11) (q0 := 0) rfl rfl, fun U hU hW => ⟨rfl, Wd.call hPc hDc hK hC hZ hS hFc U hU hW⟩⟩ rfl rfl hl.1 rfl (lv_room (Nat.le_of_ble_eq_true rfl)) dX10_resolve_53 ⟨(Nat.le_of_ble_eq_true rfl), (Nat.le_of_ble_eq_true rfl)⟩) hS (fun q _ h => hFc q h) hFc (fun u t H1 locs ht hvm hw hB hz1 hk1 hS => ?_)
      obtain ⟨qn58, fn59, hn60, hn61, hP1, hD1⟩ := hB
      rw [ht] at hP1
      obtain ⟨hP, hD⟩ := PDq.join (w := [(v3, .inl (cA 0, 3260, .inl fn44)), (v4, .inl (cA 1, 10, .inr (.inl fn45))), (oX10 w0 v0 v1 v2 v3 v4 g5 g6 (nI qn43) zn37 v9 (nI nb) g11 g12 v13 g14 g15 g16 g17 g18 g19 g20 g21 g22 g23 g24 g25 g26 v27 v28 v29 v30 v31 v32 v33 v34 v35 v36 v37 (nI ol)), (v0, .inl (cA 0, 326, .inl fn59))]) 2 hP hD [2, 3] [0, 1] rfl rfl (by decide) (by decide) hk1 hFc hP1 hD1 rfl
      generalize H1 = H at hP hS ⊢
      refine lv_aload_n hx hb dX10_resolve_56 rfl (lv_at hl 2 rfl) ?_
      refine lv_iload_n hx hb dX10_resolve_57 rfl (lv_at hl 3 rfl) ?_
      refine lv_iconst (v := 2) hx hb dX10_resolve_58 (by decide) ?_
      refine lv_iconst (v := 4) hx hb dX10_resolve_59 (by decide) ?_
      obtain ⟨hPc, hDc, hFc⟩ := PDq.cut (wc := [(oX10 w0 v0 v1 v2 v3 v4 g5 g6 (nI qn43) zn37 v9 (nI nb) g11 g12 v13 g14 g15 g16 g17 g18 g19 g20 g21 g22 g23 g24 g25 g26 v27 v28 v29 v30 v31 v32 v33 v34 v35 v36 v37 (nI ol)), (v0, .inl (cA 0, 326, .inl fn59))]) hP hD hS hA [2, 3] (by decide) rfl
      refine va_callv (va_runV (As := [.int (nI kn39), .int 2, .int 4]) (rest := []) ⟨hx, hb, hml, hown, hts⟩ (r_set l D cA sa w0 qn43 nb ol v0 v1 v2 v3 v4 v9 v13 v27 v28 v29 v30 v31 v32 v33 v34 v35 v36 v37 zn37 g11 g12 g14 g15 g16 g17 g18 g19 g20 g21 g22 g23 g24 g26 g5 g6 g25 cn pq qn58 dy fn59 kn39 2 4 H.size hcn hpq hn60 hdy hn61 (by omega) (by omega)) (cwV 3 hts gX10_resolve_X10_set rfl rfl rfl (by decide +kernel) ⟨(Nat.le_of_ble_eq_true rfl), (Nat.le_of_ble_eq_true rfl)⟩) ⟨Wd.blind, va_recv hK hPc (ci := 11) (q0 := 0) rfl rfl, fun U hU hW => ⟨rfl, Wd.call hPc hDc hK hC hZ hS hFc U hU hW⟩⟩ rfl rfl hl.1 rfl (lv_room (Nat.le_of_ble_eq_true rfl)) dX10_resolve_60 ⟨(Nat.le_of_ble_eq_true rfl), (Nat.le_of_ble_eq_true rfl)⟩) hS (fun q _ h => hFc q h) hFc (fun u t H1 locs ht hvm hw hB hz1 hk1 hS => ?_)
      obtain ⟨fn62, hn63, hP1, hD1⟩ := hB
      rw [ht] at hP1
      obtain ⟨hP, hD⟩ := PDq.join (w := [(v3, .inl (cA 0, 3260, .inl fn44)), (v4, .inl (cA 1, 10, .inr (.inl fn45))), (oX10 w0 v0 v1 v2 v3 v4 g5 g6 (nI qn43) zn37 v9 (nI nb) g11 g12 v13 g14 g15 g16 g17 g18 g19 g20 g21 g22 g23 g24 g25 g26 v27 v28 v29 v30 v31 v32 v33 v34 v35 v36 v37 (nI ol)), (v0, .inl (cA 0, 326, .inl fn62))]) 2 hP hD [2, 3] [0, 1] rfl rfl (by decide) (by decide) hk1 hFc hP1 hD1 rfl
      generalize H1 = H at hP hS ⊢
      refine lv_iload hx hb dX10_resolve_63 (lv_at hl 0 rfl) ?_
      obtain ⟨hP9, hD9⟩ := PDq.sub (ws' := [(oX10 w0 v0 v1 v2 v3 v4 g5 g6 (nI qn43) zn37 v9 (nI nb) g11 g12 v13 g14 g15 g16 g17 g18 g19 g20 g21 g22 g23 g24 g25 g26 v27 v28 v29 v30 v31 v32 v33 v34 v35 v36 v37 (nI ol)), (v0, .inl (cA 0, 326, .inl fn62)), (v3, .inl (cA 0, 3260, .inl fn44)), (v4, .inl (cA 1, 10, .inr (.inl fn45)))]) hP hD [2, 3, 0, 1] (by decide) rfl
      refine W.widen (k := 0) (n := 0) (Nat.le_of_ble_eq_true rfl) (Nat.le_of_ble_eq_true rfl) ?_
      exact (W.iret (v := rn49) hx hb hr (fun t ht hW => ⟨⟨rn49, (), rfl, trivial, qn43, qn58, zn37, g14, g15, g16, g17, g18, g19, g20, g21, g22, g23, g24, g26, g5, g6, g25, fn62, fn44, fn45, hn46, hn47, hn60, hn63, by rw [ht]; exact hP9, hD9⟩, hS.F ht⟩) hS.2.2 dX10_resolve_65)
    · skip
      subst hr9
      refine lv_if_ne (tgt := 14) hx hb dX10_resolve_9 (by decide) (fun c9 => absurd c9 (by decide)) (fun c64 => ?_)
      refine lv_iconst (v := 0) hx hb dX10_resolve_12 (by decide) ?_
      obtain ⟨hP9, hD9⟩ := PDq.sub (ws' := [(oX10 w0 v0 v1 v2 v3 v4 g5 g6 (nI ed) zn37 v9 (nI nb) g11 g12 v13 g14 g15 g16 g17 g18 g19 g20 g21 g22 g23 g24 g25 g26 v27 v28 v29 v30 v31 v32 v33 v34 v35 v36 v37 (nI ol)), (v0, .inl (cA 0, 326, .inl fs)), (v3, .inl (cA 0, 3260, .inl fh)), (v4, .inl (cA 1, 10, .inr (.inl fl)))]) hP hD [2, 3, 0, 1] (by decide) rfl
      refine W.widen (k := 0) (n := 0) (Nat.le_of_ble_eq_true rfl) (Nat.le_of_ble_eq_true rfl) ?_
      exact (W.iret (v := 0) hx hb hr (fun t ht hW => ⟨⟨0, (), rfl, trivial, ed, en, zn37, g14, g15, g16, g17, g18, g19, g20, g21, g22, g23, g24, g26, g5, g6, g25, fs, fh, fl, hed, hHI, hen, hri, by rw [ht]; exact hP9, hD9⟩, hS.F ht⟩) hS.2.2 dX10_resolve_13)

set_option maxHeartbeats 4000000 in
set_option maxRecDepth 100000 in
/-- reference: approve -/
theorem r_approve (l : Launch) (D : va_G) (cA : Nat → ClassId) (sa : Nat → Nat) (w0 : Nat) (ed : Nat) (nb : Nat) (ol : Nat) (v0 : Nat) (v1 : Nat) (v2 : Nat) (v3 : Nat) (v4 : Nat) (v9 : Nat) (v13 : Nat) (v27 : Nat) (v28 : Nat) (v29 : Nat) (v30 : Nat) (v31 : Nat) (v32 : Nat) (v33 : Nat) (v34 : Nat) (v35 : Nat) (v36 : Nat) (v37 : Nat) (g8 : Int32) (g11 : Int32) (g12 : Int32) (g14 : Int32) (g15 : Int32) (g16 : Int32) (g17 : Int32) (g18 : Int32) (g19 : Int32) (g20 : Int32) (g21 : Int32) (g22 : Int32) (g23 : Int32) (g24 : Int32) (g26 : Int32) (g5 : Int64) (g6 : Int64) (g25 : Int64) (cn : Nat) (pq : Nat) (en : Nat) (dy : Nat) (fs : Nat → Int32) (fh : Nat → Int32) (fl : Nat → Int64) (fc : Nat → Int32) (fq : Nat → Int32) (fk : Nat → Int32) (i : Int32) (sz : Nat) (hcn : cn ≤ 10) (hpq : pq ≤ 8) (hen : en ≤ 60) (hdy : dy ≤ 20000) (hri : RI cn pq en dy fs) (hed : ed ≤ 10) (hHI : HI cn pq ed fh) (hd9 : dy ≤ 9999) (hCW : CW cn fc fq) (hbit : Bit 400 fk) : Met l yX10_approve wsX10_approve ({ frames := 4, cells := 0, slots := 0, locals := 96 }) (va_Pc [.ref w0, .int i] (Wd D cA sa [(oX10 w0 v0 v1 v2 v3 v4 g5 g6 (nI ed) g8 v9 (nI nb) g11 g12 v13 g14 g15 g16 g17 g18 g19 g20 g21 g22 g23 g24 g25 g26 v27 v28 v29 v30 v31 v32 v33 v34 v35 v36 v37 (nI ol)), (v0, .inl (cA 0, 326, .inl fs)), (v3, .inl (cA 0, 3260, .inl fh)), (v4, .inl (cA 1, 10, .inr (.inl fl))), (v31, .inl (cA 0, 400, .inl fc)), (v33, .inl (cA 0, 11, .inl fq)), (v35, .inl (cA 4, 400, .inl fk))] sz)) (va_Qi (fun (r : Int32) (_ : Unit) => r = 0 ∨ r = 1) (fun (_ : Unit) t => ∃ ed2 : Nat, ∃ e2 : Nat, ∃ z8 : Int32, ∃ z14 : Int32, ∃ z15 : Int32, ∃ z16 : Int32, ∃ z17 : Int32, ∃ z18 : Int32, ∃ z19 : Int32, ∃ z20 : Int32, ∃ z21 : Int32, ∃ z22 : Int32, ∃ z23 : Int32, ∃ z24 : Int32, ∃ z26 : Int32, ∃ z5 : Int64, ∃ z6 : Int64, ∃ z25 : Int64, ∃ zs : Nat → Int32, ∃ zh : Nat → Int32, ∃ zl : Nat → Int64, ∃ zk : Nat → Int32, ed2 ≤ 10 ∧ HI cn pq ed2 zh ∧ e2 ≤ 60 ∧ RI cn pq e2 dy zs ∧ Bit 400 zk ∧ Wq D (va_A [(oX10 w0 v0 v1 v2 v3 v4 g5 g6 (nI ed) g8 v9 (nI nb) g11 g12 v13 g14 g15 g16 g17 g18 g19 g20 g21 g22 g23 g24 g25 g26 v27 v28 v29 v30 v31 v32 v33 v34 v35 v36 v37 (nI ol)), (v0, .inl (cA 0, 326, .inl fs)), (v3, .inl (cA 0, 3260, .inl fh)), (v4, .inl (cA 1, 10, .inr (.inl fl))), (v31, .inl (cA 0, 400, .inl fc)), (v33, .inl (cA 0, 11, .inl fq)), (v35, .inl (cA 4, 400, .inl fk))] sz) [(oX10 w0 v0 v1 v2 v3 v4 z5 z6 (nI ed2) z8 v9 (nI nb) g11 g12 v13 z14 z15 z16 z17 z18 z19 z20 z21 z22 z23 z24 z25 z26 v27 v28 v29 v30 v31 v32 v33 v34 v35 v36 v37 (nI ol)), (v0, .inl (cA 0, 326, .inl zs)), (v3, .inl (cA 0, 3260, .inl zh)), (v4, .inl (cA 1, 10, .inr (.inl zl))), (v31, .inl (cA 0, 400, .inl fc)), (v33, .inl (cA 0, 11, .inl fq)), (v35, .inl (cA 4, 400, .inl zk))] t) (va_A [(oX10 w0 v0 v1 v2 v3 v4 g5 g6 (nI ed) g8 v9 (nI nb) g11 g12 v13 g14 g15 g16 g17 g18 g19 g20 g21 g22 g23 g24 g25 g26 v27 v28 v29 v30 v31 v32 v33 v34 v35 v36 v37 (nI ol)), (v0, .inl (cA 0, 326, .inl fs)), (v3, .inl (cA 0, 3260, .inl fh)), (v4, .inl (cA 1, 10, .inr (.inl fl))), (v31, .inl (cA 0, 400, .inl fc)), (v33, .inl (cA 0, 11, .inl fq)), (v35, .inl (cA 4, 400, .inl fk))] sz)) 0 0 (va_A [(oX10 w0 v0 v1 v2 v3 v4 g5 g6 (nI ed) g8 v9 (nI nb) g11 g12 v13 g14 g15 g16 g17 g18 g19 g20 g21 g22 g23 g24 g25 g26 v27 v28 v29 v30 v31 v32 v33 v34 v35 v36 v37 (nI ol)), (v0, .inl (cA 0, 326, .inl fs)), (v3, .inl (cA 0, 3260, .inl fh)), (v4, .inl (cA 1, 10, .inr (.inl fl))), (v31, .inl (cA 0, 400, .inl fc)), (v33, .inl (cA 0, 11, .inl fq)), (v35, .inl (cA 4, 400, .inl fk))] sz) := by
  refine Met.ofW (cc := cX10_approve) (maxL := 2) (ret := (some .boolean)) (by decide) rfl ?_
  intro p e s m args below meth c s₁ B hml hv
  obtain ⟨rfl, hsz, hP, hK, hD0, hC, hZ⟩ := hv
  have hx := B.exec
  have hb := B.bytes
  have hr := B.returns
  have hts := atoms_spec (ws := wsX10_approve) B.pre
  have hown : s.vm.findClass RX10 = some m.cls := findClass_of_methodNamed B.named
  have hlocks := B.notSynchronized
  subst hsz
  have hD := hD0.self (sz := s.heap.size)
  generalize hAe : va_A [(oX10 w0 v0 v1 v2 v3 v4 g5 g6 (nI ed) g8 v9 (nI nb) g11 g12 v13 g14 g15 g16 g17 g18 g19 g20 g21 g22 g23 g24 g25 g26 v27 v28 v29 v30 v31 v32 v33 v34 v35 v36 v37 (nI ol)), (v0, .inl (cA 0, 326, .inl fs)), (v3, .inl (cA 0, 3260, .inl fh)), (v4, .inl (cA 1, 10, .inr (.inl fl))), (v31, .inl (cA 0, 400, .inl fc)), (v33, .inl (cA 0, 11, .inl fq)), (v35, .inl (cA 4, 400, .inl fk))] s.heap.size = A at hD hZ ⊢
  have hA : ∀ q : Nat, s.heap.size ≤ q → A q := fun q h => by rw [← hAe]; exact Or.inr h
  have hS : va_S A s.heap s.heap [] := va_S.rf
  have hP : va_P D vwCl [(oX10 w0 v0 v1 v2 v3 v4 g5 g6 (nI ed) g8 v9 (nI nb) g11 g12 v13 g14 g15 g16 g17 g18 g19 g20 g21 g22 g23 g24 g25 g26 v27 v28 v29 v30 v31 v32 v33 v34 v35 v36 v37 (nI ol)), (v0, .inl (cA 0, 326, .inl fs)), (v3, .inl (cA 0, 3260, .inl fh)), (v4, .inl (cA 1, 10, .inr (.inl fl))), (v31, .inl (cA 0, 400, .inl fc)), (v33, .inl (cA 0, 11, .inl fq)), (v35, .inl (cA 4, 400, .inl fk))] s.heap := hP
  have hl := lv_entry ([.ref w0, .int i]) (n := 2) (Nat.le_of_ble_eq_true rfl)
  rw [lg_entry_eq]
  generalize (lg_sl ([.ref w0, .int i]) ++ List.replicate (2 - (lg_sl ([.ref w0, .int i])).length) Slot.unset).toArray = ls at hl ⊢
  have hl : lv_has ls 2 [(0, .ref w0), (1, .int i)] := hl
  refine lv_aload_n hx hb dX10_approve_0 rfl (lv_at hl 0 rfl) ?_
  refine lv_aload_n hx hb dX10_approve_1 rfl (lv_at hl 0 rfl) ?_
  refine lv_iload_n hx hb dX10_approve_2 rfl (lv_at hl 1 rfl) ?_
  obtain ⟨hPc, hDc, hFc⟩ := PDq.cut (wc := [(oX10 w0 v0 v1 v2 v3 v4 g5 g6 (nI ed) g8 v9 (nI nb) g11 g12 v13 g14 g15 g16 g17 g18 g19 g20 g21 g22 g23 g24 g25 g26 v27 v28 v29 v30 v31 v32 v33 v34 v35 v36 v37 (nI ol)), (v0, .inl (cA 0, 326, .inl fs))]) hP hD hS hA [0, 1] (by decide) rfl
  refine va_calli (va_runV (As := [.int i]) (rest := [.ref w0]) ⟨hx, hb, hml, hown, hts⟩ (r_isMilestone l D cA sa w0 ed nb ol v0 v1 v2 v3 v4 v9 v13 v27 v28 v29 v30 v31 v32 v33 v34 v35 v36 v37 g8 g11 g12 g14 g15 g16 g17 g18 g19 g20 g21 g22 g23 g24 g26 g5 g6 g25 cn pq en dy fs i s.heap.size hcn hpq hen hdy hri) (cwV 1 hts gX10_approve_X10_isMilestone rfl rfl rfl (by decide +kernel) ⟨(Nat.le_of_ble_eq_true rfl), (Nat.le_of_ble_eq_true rfl)⟩) ⟨Wd.blind, va_recv hK hPc (ci := 11) (q0 := 0) rfl rfl, fun U hU hW => ⟨rfl, Wd.call hPc hDc hK hC hZ hS hFc U hU hW⟩⟩ rfl rfl hl.1 rfl (lv_room (Nat.le_of_ble_eq_true rfl)) dX10_approve_3 ⟨(Nat.le_of_ble_eq_true rfl), (Nat.le_of_ble_eq_true rfl)⟩) hS (fun q _ h => hFc q h) hFc (fun rn1 u t H1 locs ht hvm hw hB hz1 hk1 hS => ?_)
  obtain ⟨hP1, hD1⟩ := hB
  rw [ht] at hP1
  obtain ⟨hP, hD⟩ := PDq.join (w := [(v3, .inl (cA 0, 3260, .inl fh)), (v4, .inl (cA 1, 10, .inr (.inl fl))), (v31, .inl (cA 0, 400, .inl fc)), (v33, .inl (cA 0, 11, .inl fq)), (v35, .inl (cA 4, 400, .inl fk)), (oX10 w0 v0 v1 v2 v3 v4 g5 g6 (nI ed) g8 v9 (nI nb) g11 g12 v13 g14 g15 g16 g17 g18 g19 g20 g21 g22 g23 g24 g25 g26 v27 v28 v29 v30 v31 v32 v33 v34 v35 v36 v37 (nI ol)), (v0, .inl (cA 0, 326, .inl fs))]) 5 hP hD [0, 1] [2, 3, 4, 5, 6] rfl rfl (by decide) (by decide) hk1 hFc hP1 hD1 rfl
  generalize H1 = H at hP hS ⊢
  rcases hw with ⟨hr9, hn2⟩ | hr9
  · skip
    subst hr9
    obtain ⟨kn3, hn4, hn5⟩ := hn2
    rw [hn5] at hl
    have hl : lv_has ls 2 [(0, .ref w0), (1, .int (nI kn3))] := hl
    refine lv_aload_n hx hb dX10_approve_6 rfl (lv_at hl 0 rfl) ?_
    refine lv_iload_n hx hb dX10_approve_7 rfl (lv_at hl 1 rfl) ?_
    obtain ⟨hPc, hDc, hFc⟩ := PDq.cut (wc := [(oX10 w0 v0 v1 v2 v3 v4 g5 g6 (nI ed) g8 v9 (nI nb) g11 g12 v13 g14 g15 g16 g17 g18 g19 g20 g21 g22 g23 g24 g25 g26 v27 v28 v29 v30 v31 v32 v33 v34 v35 v36 v37 (nI ol)), (v0, .inl (cA 0, 326, .inl fs))]) hP hD hS hA [5, 6] (by decide) rfl
    refine va_calli (va_runV (As := [.int (nI kn3)]) (rest := [.int 1, .ref w0]) ⟨hx, hb, hml, hown, hts⟩ (r_isMilestone l D cA sa w0 ed nb ol v0 v1 v2 v3 v4 v9 v13 v27 v28 v29 v30 v31 v32 v33 v34 v35 v36 v37 g8 g11 g12 g14 g15 g16 g17 g18 g19 g20 g21 g22 g23 g24 g26 g5 g6 g25 cn pq en dy fs (nI kn3) H.size hcn hpq hen hdy hri) (cwV 1 hts gX10_approve_X10_isMilestone rfl rfl rfl (by decide +kernel) ⟨(Nat.le_of_ble_eq_true rfl), (Nat.le_of_ble_eq_true rfl)⟩) ⟨Wd.blind, va_recv hK hPc (ci := 11) (q0 := 0) rfl rfl, fun U hU hW => ⟨rfl, Wd.call hPc hDc hK hC hZ hS hFc U hU hW⟩⟩ rfl rfl hl.1 rfl (lv_room (Nat.le_of_ble_eq_true rfl)) dX10_approve_8 ⟨(Nat.le_of_ble_eq_true rfl), (Nat.le_of_ble_eq_true rfl)⟩) hS (fun q _ h => hFc q h) hFc (fun rn6 u t H1 locs ht hvm hw hB hz1 hk1 hS => ?_)
    obtain ⟨hP1, hD1⟩ := hB
    rw [ht] at hP1
    obtain ⟨hP, hD⟩ := PDq.join (w := [(v3, .inl (cA 0, 3260, .inl fh)), (v4, .inl (cA 1, 10, .inr (.inl fl))), (v31, .inl (cA 0, 400, .inl fc)), (v33, .inl (cA 0, 11, .inl fq)), (v35, .inl (cA 4, 400, .inl fk)), (oX10 w0 v0 v1 v2 v3 v4 g5 g6 (nI ed) g8 v9 (nI nb) g11 g12 v13 g14 g15 g16 g17 g18 g19 g20 g21 g22 g23 g24 g25 g26 v27 v28 v29 v30 v31 v32 v33 v34 v35 v36 v37 (nI ol)), (v0, .inl (cA 0, 326, .inl fs))]) 5 hP hD [5, 6] [0, 1, 2, 3, 4] rfl rfl (by decide) (by decide) hk1 hFc hP1 hD1 rfl
    generalize H1 = H at hP hS ⊢
    rcases hw with ⟨hr9, hn7⟩ | hr9
    · skip
      subst hr9
      obtain ⟨kn8, hn9, hn10⟩ := hn7
      rw [hn10] at hl
      have hl : lv_has ls 2 [(0, .ref w0), (1, .int (nI kn8))] := hl
      refine lv_if_eq (tgt := 26) hx hb dX10_approve_11 (by decide) (fun c9 => absurd c9 (by decide)) (fun c11 => ?_)
      refine lv_aload_n hx hb dX10_approve_14 rfl (lv_at hl 0 rfl) ?_
      refine lv_iload_n hx hb dX10_approve_15 rfl (lv_at hl 1 rfl) ?_
      obtain ⟨hPc, hDc, hFc⟩ := PDq.cut (wc := [(oX10 w0 v0 v1 v2 v3 v4 g5 g6 (nI ed) g8 v9 (nI nb) g11 g12 v13 g14 g15 g16 g17 g18 g19 g20 g21 g22 g23 g24 g25 g26 v27 v28 v29 v30 v31 v32 v33 v34 v35 v36 v37 (nI ol)), (v0, .inl (cA 0, 326, .inl fs))]) hP hD hS hA [5, 6] (by decide) rfl
      refine va_calli (va_runV (As := [.int (nI kn8)]) (rest := [.int 1, .ref w0]) ⟨hx, hb, hml, hown, hts⟩ (r_isClosed l D cA sa w0 ed nb ol v0 v1 v2 v3 v4 v9 v13 v27 v28 v29 v30 v31 v32 v33 v34 v35 v36 v37 g8 g11 g12 g14 g15 g16 g17 g18 g19 g20 g21 g22 g23 g24 g26 g5 g6 g25 fs kn8 H.size (by omega)) (cwV 1 hts gX10_approve_X10_isClosed rfl rfl rfl (by decide +kernel) ⟨(Nat.le_of_ble_eq_true rfl), (Nat.le_of_ble_eq_true rfl)⟩) ⟨Wd.blind, va_recv hK hPc (ci := 11) (q0 := 0) rfl rfl, fun U hU hW => ⟨rfl, Wd.call hPc hDc hK hC hZ hS hFc U hU hW⟩⟩ rfl rfl hl.1 rfl (lv_room (Nat.le_of_ble_eq_true rfl)) dX10_approve_16 ⟨(Nat.le_of_ble_eq_true rfl), (Nat.le_of_ble_eq_true rfl)⟩) hS (fun q _ h => hFc q h) hFc (fun rn12 u t H1 locs ht hvm hw hB hz1 hk1 hS => ?_)
      obtain ⟨hP1, hD1⟩ := hB
      rw [ht] at hP1
      obtain ⟨hP, hD⟩ := PDq.join (w := [(v3, .inl (cA 0, 3260, .inl fh)), (v4, .inl (cA 1, 10, .inr (.inl fl))), (v31, .inl (cA 0, 400, .inl fc)), (v33, .inl (cA 0, 11, .inl fq)), (v35, .inl (cA 4, 400, .inl fk)), (oX10 w0 v0 v1 v2 v3 v4 g5 g6 (nI ed) g8 v9 (nI nb) g11 g12 v13 g14 g15 g16 g17 g18 g19 g20 g21 g22 g23 g24 g25 g26 v27 v28 v29 v30 v31 v32 v33 v34 v35 v36 v37 (nI ol)), (v0, .inl (cA 0, 326, .inl fs))]) 5 hP hD [5, 6] [0, 1, 2, 3, 4] rfl rfl (by decide) (by decide) hk1 hFc hP1 hD1 rfl
      generalize H1 = H at hP hS ⊢
      have hn13 := hw
      refine lv_if_ne (tgt := 26) hx hb dX10_approve_19 (by decide) (fun c14 => ?_) (fun c14 => ?_)
      · skip
        refine lv_iconst (v := 0) hx hb dX10_approve_26 (by decide) ?_
        obtain ⟨hPc, hDc, hFc⟩ := PDq.cut (wc := [(oX10 w0 v0 v1 v2 v3 v4 g5 g6 (nI ed) g8 v9 (nI nb) g11 g12 v13 g14 g15 g16 g17 g18 g19 g20 g21 g22 g23 g24 g25 g26 v27 v28 v29 v30 v31 v32 v33 v34 v35 v36 v37 (nI ol))]) hP hD hS hA [5] (by decide) rfl
        refine va_calli (va_runV (As := [.int 1, .int 0]) (rest := []) ⟨hx, hb, hml, hown, hts⟩ (r_good_10 l D cA sa w0 ed nb ol v0 v1 v2 v3 v4 v9 v13 v27 v28 v29 v30 v31 v32 v33 v34 v35 v36 v37 g8 g11 g12 g14 g15 g16 g17 g18 g19 g20 g21 g22 g23 g24 g26 g5 g6 g25 H.size) (cwV 2 hts gX10_approve_X10_good_ rfl rfl rfl (by decide +kernel) ⟨(Nat.le_of_ble_eq_true rfl), (Nat.le_of_ble_eq_true rfl)⟩) ⟨Wd.blind, va_recv hK hPc (ci := 11) (q0 := 0) rfl rfl, fun U hU hW => ⟨rfl, Wd.call hPc hDc hK hC hZ hS hFc U hU hW⟩⟩ rfl rfl hl.1 rfl (lv_room (Nat.le_of_ble_eq_true rfl)) dX10_approve_27 ⟨(Nat.le_of_ble_eq_true rfl), (Nat.le_of_ble_eq_true rfl)⟩) hS (fun q _ h => hFc q h) hFc (fun rn15 u t H1 locs ht hvm hw hB hz1 hk1 hS => ?_)
        obtain ⟨hP1, hD1⟩ := hB
        rw [ht] at hP1
        obtain ⟨hP, hD⟩ := PDq.join (w := [(v3, .inl (cA 0, 3260, .inl fh)), (v4, .inl (cA 1, 10, .inr (.inl fl))), (v31, .inl (cA 0, 400, .inl fc)), (v33, .inl (cA 0, 11, .inl fq)), (v35, .inl (cA 4, 400, .inl fk)), (v0, .inl (cA 0, 326, .inl fs)), (oX10 w0 v0 v1 v2 v3 v4 g5 g6 (nI ed) 2 v9 (nI nb) g11 g12 v13 g14 g15 g16 g17 g18 g19 g20 g21 g22 g23 g24 g25 g26 v27 v28 v29 v30 v31 v32 v33 v34 v35 v36 v37 (nI ol))]) 6 hP hD [5] [0, 1, 2, 3, 4, 6] rfl rfl (by decide) (by decide) hk1 hFc hP1 hD1 rfl
        generalize H1 = H at hP hS ⊢
        obtain rfl : rn15 = 0 := hw
        refine lv_if_ne (tgt := 35) hx hb dX10_approve_30 (by decide) (fun c9 => absurd c9 (by decide)) (fun c16 => ?_)
        refine lv_iconst (v := 0) hx hb dX10_approve_33 (by decide) ?_
        obtain ⟨hP9, hD9⟩ := PDq.sub (ws' := [(oX10 w0 v0 v1 v2 v3 v4 g5 g6 (nI ed) 2 v9 (nI nb) g11 g12 v13 g14 g15 g16 g17 g18 g19 g20 g21 g22 g23 g24 g25 g26 v27 v28 v29 v30 v31 v32 v33 v34 v35 v36 v37 (nI ol)), (v0, .inl (cA 0, 326, .inl fs)), (v3, .inl (cA 0, 3260, .inl fh)), (v4, .inl (cA 1, 10, .inr (.inl fl))), (v31, .inl (cA 0, 400, .inl fc)), (v33, .inl (cA 0, 11, .inl fq)), (v35, .inl (cA 4, 400, .inl fk))]) hP hD [6, 5, 0, 1, 2, 3, 4] (by decide) rfl
        refine W.widen (k := 0) (n := 0) (Nat.le_of_ble_eq_true rfl) (Nat.le_of_ble_eq_true rfl) ?_
        exact (W.zret (v := 0) hx hb hr (by first | rfl | decide) (fun t ht hW => ⟨⟨0, (), rfl, (by first | exact Or.inl rfl | exact Or.inr rfl), ed, en, 2, g14, g15, g16, g17, g18, g19, g20, g21, g22, g23, g24, g26, g5, g6, g25, fs, fh, fl, fk, hed, hHI, hen, hri, hbit, by rw [ht]; exact hP9, hD9⟩, hS.F ht⟩) hS.2.2 dX10_approve_34)
      · skip
        refine lv_iconst (v := 1) hx hb dX10_approve_22 (by decide) ?_
        refine lv_goto (tgt := 27) hx hb dX10_approve_23 (by decide) ?_
        obtain ⟨hPc, hDc, hFc⟩ := PDq.cut (wc := [(oX10 w0 v0 v1 v2 v3 v4 g5 g6 (nI ed) g8 v9 (nI nb) g11 g12 v13 g14 g15 g16 g17 g18 g19 g20 g21 g22 g23 g24 g25 g26 v27 v28 v29 v30 v31 v32 v33 v34 v35 v36 v37 (nI ol))]) hP hD hS hA [5] (by decide) rfl
        refine va_calli (va_runV (As := [.int 1, .int 1]) (rest := []) ⟨hx, hb, hml, hown, hts⟩ (r_good_11 l D cA sa w0 ed nb ol v0 v1 v2 v3 v4 v9 v13 v27 v28 v29 v30 v31 v32 v33 v34 v35 v36 v37 g8 g11 g12 g14 g15 g16 g17 g18 g19 g20 g21 g22 g23 g24 g26 g5 g6 g25 H.size) (cwV 2 hts gX10_approve_X10_good_ rfl rfl rfl (by decide +kernel) ⟨(Nat.le_of_ble_eq_true rfl), (Nat.le_of_ble_eq_true rfl)⟩) ⟨Wd.blind, va_recv hK hPc (ci := 11) (q0 := 0) rfl rfl, fun U hU hW => ⟨rfl, Wd.call hPc hDc hK hC hZ hS hFc U hU hW⟩⟩ rfl rfl hl.1 rfl (lv_room (Nat.le_of_ble_eq_true rfl)) dX10_approve_27 ⟨(Nat.le_of_ble_eq_true rfl), (Nat.le_of_ble_eq_true rfl)⟩) hS (fun q _ h => hFc q h) hFc (fun rn17 u t H1 locs ht hvm hw hB hz1 hk1 hS => ?_)
        obtain ⟨hP1, hD1⟩ := hB
        rw [ht] at hP1
        obtain ⟨hP, hD⟩ := PDq.join (w := [(v3, .inl (cA 0, 3260, .inl fh)), (v4, .inl (cA 1, 10, .inr (.inl fl))), (v31, .inl (cA 0, 400, .inl fc)), (v33, .inl (cA 0, 11, .inl fq)), (v35, .inl (cA 4, 400, .inl fk)), (v0, .inl (cA 0, 326, .inl fs)), (oX10 w0 v0 v1 v2 v3 v4 g5 g6 (nI ed) 0 v9 (nI nb) g11 g12 v13 g14 g15 g16 g17 g18 g19 g20 g21 g22 g23 g24 g25 g26 v27 v28 v29 v30 v31 v32 v33 v34 v35 v36 v37 (nI ol))]) 6 hP hD [5] [0, 1, 2, 3, 4, 6] rfl rfl (by decide) (by decide) hk1 hFc hP1 hD1 rfl
        generalize H1 = H at hP hS ⊢
        obtain rfl : rn17 = 1 := hw
        refine lv_if_ne (tgt := 35) hx hb dX10_approve_30 (by decide) (fun c18 => ?_) (fun c9 => absurd c9 (by decide))
        refine lv_aload_n hx hb dX10_approve_35 rfl (lv_at hl 0 rfl) ?_
        obtain ⟨hPc, hDc, hFc⟩ := PDq.cut (wc := [(oX10 w0 v0 v1 v2 v3 v4 g5 g6 (nI ed) 0 v9 (nI nb) g11 g12 v13 g14 g15 g16 g17 g18 g19 g20 g21 g22 g23 g24 g25 g26 v27 v28 v29 v30 v31 v32 v33 v34 v35 v36 v37 (nI ol)), (v0, .inl (cA 0, 326, .inl fs)), (v3, .inl (cA 0, 3260, .inl fh)), (v4, .inl (cA 1, 10, .inr (.inl fl)))]) hP hD hS hA [6, 5, 0, 1] (by decide) rfl
        refine va_callv (va_runV (As := []) (rest := []) ⟨hx, hb, hml, hown, hts⟩ (r_remember l D cA sa w0 ed nb ol v0 v1 v2 v3 v4 v9 v13 v27 v28 v29 v30 v31 v32 v33 v34 v35 v36 v37 0 g11 g12 g14 g15 g16 g17 g18 g19 g20 g21 g22 g23 g24 g26 g5 g6 g25 cn pq en dy fs fh fl H.size hcn hpq hen hdy hri hed hHI hd9) (cwV 0 hts gX10_approve_X10_remember rfl rfl rfl (by decide +kernel) ⟨(Nat.le_of_ble_eq_true rfl), (Nat.le_of_ble_eq_true rfl)⟩) ⟨Wd.blind, va_recv hK hPc (ci := 11) (q0 := 0) rfl rfl, fun U hU hW => ⟨rfl, Wd.call hPc hDc hK hC hZ hS hFc U hU hW⟩⟩ rfl rfl hl.1 rfl (lv_room (Nat.le_of_ble_eq_true rfl)) dX10_approve_36 ⟨(Nat.le_of_ble_eq_true rfl), (Nat.le_of_ble_eq_true rfl)⟩) hS (fun q _ h => hFc q h) hFc (fun u t H1 locs ht hvm hw hB hz1 hk1 hS => ?_)
        obtain ⟨qn19, fn20, fn21, hn22, hn23, hP1, hD1⟩ := hB
        rw [ht] at hP1
        obtain ⟨hP, hD⟩ := PDq.join (w := [(v31, .inl (cA 0, 400, .inl fc)), (v33, .inl (cA 0, 11, .inl fq)), (v35, .inl (cA 4, 400, .inl fk)), (oX10 w0 v0 v1 v2 v3 v4 g5 g6 (nI qn19) 0 v9 (nI nb) g11 g12 v13 g14 g15 g16 g17 g18 g19 g20 g21 g22 g23 g24 g25 g26 v27 v28 v29 v30 v31 v32 v33 v34 v35 v36 v37 (nI ol)), (v0, .inl (cA 0, 326, .inl fs)), (v3, .inl (cA 0, 3260, .inl fn20)), (v4, .inl (cA 1, 10, .inr (.inl fn21)))]) 3 hP hD [6, 5, 0, 1] [2, 3, 4] rfl rfl (by decide) (by decide) hk1 hFc hP1 hD1 rfl
        generalize H1 = H at hP hS ⊢
        refine lv_aload_n hx hb dX10_approve_39 rfl (lv_at hl 0 rfl) ?_
        refine lv_iload_n hx hb dX10_approve_40 rfl (lv_at hl 1 rfl) ?_
        refine lv_iconst (v := 5) hx hb dX10_approve_41 (by decide) ?_
        refine lv_iconst (v := 1) hx hb dX10_approve_42 (by decide) ?_
        obtain ⟨hPc, hDc, hFc⟩ := PDq.cut (wc := [(oX10 w0 v0 v1 v2 v3 v4 g5 g6 (nI qn19) 0 v9 (nI nb) g11 g12 v13 g14 g15 g16 g17 g18 g19 g20 g21 g22 g23 g24 g25 g26 v27 v28 v29 v30 v31 v32 v33 v34 v35 v36 v37 (nI ol)), (v0, .inl (cA 0, 326, .inl fs))]) hP hD hS hA [3, 4] (by decide) rfl
        refine va_callv (va_runV (As := [.int (nI kn8), .int 5, .int 1]) (rest := []) ⟨hx, hb, hml, hown, hts⟩ (r_set l D cA sa w0 qn19 nb ol v0 v1 v2 v3 v4 v9 v13 v27 v28 v29 v30 v31 v32 v33 v34 v35 v36 v37 0 g11 g12 g14 g15 g16 g17 g18 g19 g20 g21 g22 g23 g24 g26 g5 g6 g25 cn pq en dy fs kn8 5 1 H.size hcn hpq hen hdy hri (by omega) (by omega)) (cwV 3 hts gX10_approve_X10_set rfl rfl rfl (by decide +kernel) ⟨(Nat.le_of_ble_eq_true rfl), (Nat.le_of_ble_eq_true rfl)⟩) ⟨Wd.blind, va_recv hK hPc (ci := 11) (q0 := 0) rfl rfl, fun U hU hW => ⟨rfl, Wd.call hPc hDc hK hC hZ hS hFc U hU hW⟩⟩ rfl rfl hl.1 rfl (lv_room (Nat.le_of_ble_eq_true rfl)) dX10_approve_43 ⟨(Nat.le_of_ble_eq_true rfl), (Nat.le_of_ble_eq_true rfl)⟩) hS (fun q _ h => hFc q h) hFc (fun u t H1 locs ht hvm hw hB hz1 hk1 hS => ?_)
        obtain ⟨fn24, hn25, hP1, hD1⟩ := hB
        rw [ht] at hP1
        obtain ⟨hP, hD⟩ := PDq.join (w := [(v31, .inl (cA 0, 400, .inl fc)), (v33, .inl (cA 0, 11, .inl fq)), (v35, .inl (cA 4, 400, .inl fk)), (v3, .inl (cA 0, 3260, .inl fn20)), (v4, .inl (cA 1, 10, .inr (.inl fn21))), (oX10 w0 v0 v1 v2 v3 v4 g5 g6 (nI qn19) 0 v9 (nI nb) g11 g12 v13 g14 g15 g16 g17 g18 g19 g20 g21 g22 g23 g24 g25 g26 v27 v28 v29 v30 v31 v32 v33 v34 v35 v36 v37 (nI ol)), (v0, .inl (cA 0, 326, .inl fn24))]) 5 hP hD [3, 4] [0, 1, 2, 5, 6] rfl rfl (by decide) (by decide) hk1 hFc hP1 hD1 rfl
        generalize H1 = H at hP hS ⊢
        refine lv_aload_n hx hb dX10_approve_46 rfl (lv_at hl 0 rfl) ?_
        refine lv_iload_n hx hb dX10_approve_47 rfl (lv_at hl 1 rfl) ?_
        obtain ⟨hPc, hDc, hFc⟩ := PDq.cut (wc := [(oX10 w0 v0 v1 v2 v3 v4 g5 g6 (nI qn19) 0 v9 (nI nb) g11 g12 v13 g14 g15 g16 g17 g18 g19 g20 g21 g22 g23 g24 g25 g26 v27 v28 v29 v30 v31 v32 v33 v34 v35 v36 v37 (nI ol)), (v0, .inl (cA 0, 326, .inl fn24)), (v31, .inl (cA 0, 400, .inl fc)), (v33, .inl (cA 0, 11, .inl fq)), (v35, .inl (cA 4, 400, .inl fk))]) hP hD hS hA [5, 6, 0, 1, 2] (by decide) rfl
        refine va_calli (va_runV (As := [.int (nI kn8)]) (rest := []) ⟨hx, hb, hml, hown, hts⟩ (r_holdsNow l D cA sa w0 qn19 nb ol v0 v1 v2 v3 v4 v9 v13 v27 v28 v29 v30 v31 v32 v33 v34 v35 v36 v37 0 g11 g12 g14 g15 g16 g17 g18 g19 g20 g21 g22 g23 g24 g26 g5 g6 g25 cn pq en dy fn24 fc fq fk kn8 H.size hcn hpq hen hdy hn25 hCW hbit (by omega)) (cwV 1 hts gX10_approve_X10_holdsNow rfl rfl rfl (by decide +kernel) ⟨(Nat.le_of_ble_eq_true rfl), (Nat.le_of_ble_eq_true rfl)⟩) ⟨Wd.blind, va_recv hK hPc (ci := 11) (q0 := 0) rfl rfl, fun U hU hW => ⟨rfl, Wd.call hPc hDc hK hC hZ hS hFc U hU hW⟩⟩ rfl rfl hl.1 rfl (lv_room (Nat.le_of_ble_eq_true rfl)) dX10_approve_48 ⟨(Nat.le_of_ble_eq_true rfl), (Nat.le_of_ble_eq_true rfl)⟩) hS (fun q _ h => hFc q h) hFc (fun rn26 u t H1 locs ht hvm hw hB hz1 hk1 hS => ?_)
        obtain ⟨fn27, hn28, hP1, hD1⟩ := hB
        rw [ht] at hP1
        obtain ⟨hP, hD⟩ := PDq.join (w := [(v3, .inl (cA 0, 3260, .inl fn20)), (v4, .inl (cA 1, 10, .inr (.inl fn21))), (oX10 w0 v0 v1 v2 v3 v4 g5 g6 (nI qn19) 0 v9 (nI nb) g11 g12 v13 g14 g15 g16 g17 g18 g19 g20 g21 g22 g23 g24 g25 g26 v27 v28 v29 v30 v31 v32 v33 v34 v35 v36 v37 (nI ol)), (v0, .inl (cA 0, 326, .inl fn24)), (v31, .inl (cA 0, 400, .inl fc)), (v33, .inl (cA 0, 11, .inl fq)), (v35, .inl (cA 4, 400, .inl fn27))]) 2 hP hD [5, 6, 0, 1, 2] [3, 4] rfl rfl (by decide) (by decide) hk1 hFc hP1 hD1 rfl
        generalize H1 = H at hP hS ⊢
        have hn29 := hw
        obtain ⟨hP9, hD9⟩ := PDq.sub (ws' := [(oX10 w0 v0 v1 v2 v3 v4 g5 g6 (nI qn19) 0 v9 (nI nb) g11 g12 v13 g14 g15 g16 g17 g18 g19 g20 g21 g22 g23 g24 g25 g26 v27 v28 v29 v30 v31 v32 v33 v34 v35 v36 v37 (nI ol)), (v0, .inl (cA 0, 326, .inl fn24)), (v3, .inl (cA 0, 3260, .inl fn20)), (v4, .inl (cA 1, 10, .inr (.inl fn21))), (v31, .inl (cA 0, 400, .inl fc)), (v33, .inl (cA 0, 11, .inl fq)), (v35, .inl (cA 4, 400, .inl fn27))]) hP hD [2, 3, 0, 1, 4, 5, 6] (by decide) rfl
        refine W.widen (k := 0) (n := 0) (Nat.le_of_ble_eq_true rfl) (Nat.le_of_ble_eq_true rfl) ?_
        exact (W.zret (v := rn26) hx hb hr (by rcases hn29 with h9 | h9 <;> rw [h9] <;> rfl) (fun t ht hW => ⟨⟨rn26, (), rfl, hn29, qn19, en, 0, g14, g15, g16, g17, g18, g19, g20, g21, g22, g23, g24, g26, g5, g6, g25, fn24, fn20, fn21, fn27, hn22, hn23, hen, hn25, hn28, by rw [ht]; exact hP9, hD9⟩, hS.F ht⟩) hS.2.2 dX10_approve_51)
    · skip
      subst hr9
      refine lv_if_eq (tgt := 26) hx hb dX10_approve_11 (by decide) (fun c30 => ?_) (fun c9 => absurd c9 (by decide))
      refine lv_iconst (v := 0) hx hb dX10_approve_26 (by decide) ?_
      obtain ⟨hPc, hDc, hFc⟩ := PDq.cut (wc := [(oX10 w0 v0 v1 v2 v3 v4 g5 g6 (nI ed) g8 v9 (nI nb) g11 g12 v13 g14 g15 g16 g17 g18 g19 g20 g21 g22 g23 g24 g25 g26 v27 v28 v29 v30 v31 v32 v33 v34 v35 v36 v37 (nI ol))]) hP hD hS hA [5] (by decide) rfl
      refine va_calli (va_runV (As := [.int 1, .int 0]) (rest := []) ⟨hx, hb, hml, hown, hts⟩ (r_good_10 l D cA sa w0 ed nb ol v0 v1 v2 v3 v4 v9 v13 v27 v28 v29 v30 v31 v32 v33 v34 v35 v36 v37 g8 g11 g12 g14 g15 g16 g17 g18 g19 g20 g21 g22 g23 g24 g26 g5 g6 g25 H.size) (cwV 2 hts gX10_approve_X10_good_ rfl rfl rfl (by decide +kernel) ⟨(Nat.le_of_ble_eq_true rfl), (Nat.le_of_ble_eq_true rfl)⟩) ⟨Wd.blind, va_recv hK hPc (ci := 11) (q0 := 0) rfl rfl, fun U hU hW => ⟨rfl, Wd.call hPc hDc hK hC hZ hS hFc U hU hW⟩⟩ rfl rfl hl.1 rfl (lv_room (Nat.le_of_ble_eq_true rfl)) dX10_approve_27 ⟨(Nat.le_of_ble_eq_true rfl), (Nat.le_of_ble_eq_true rfl)⟩) hS (fun q _ h => hFc q h) hFc (fun rn31 u t H1 locs ht hvm hw hB hz1 hk1 hS => ?_)
      obtain ⟨hP1, hD1⟩ := hB
      rw [ht] at hP1
      obtain ⟨hP, hD⟩ := PDq.join (w := [(v3, .inl (cA 0, 3260, .inl fh)), (v4, .inl (cA 1, 10, .inr (.inl fl))), (v31, .inl (cA 0, 400, .inl fc)), (v33, .inl (cA 0, 11, .inl fq)), (v35, .inl (cA 4, 400, .inl fk)), (v0, .inl (cA 0, 326, .inl fs)), (oX10 w0 v0 v1 v2 v3 v4 g5 g6 (nI ed) 2 v9 (nI nb) g11 g12 v13 g14 g15 g16 g17 g18 g19 g20 g21 g22 g23 g24 g25 g26 v27 v28 v29 v30 v31 v32 v33 v34 v35 v36 v37 (nI ol))]) 6 hP hD [5] [0, 1, 2, 3, 4, 6] rfl rfl (by decide) (by decide) hk1 hFc hP1 hD1 rfl
      generalize H1 = H at hP hS ⊢
      obtain rfl : rn31 = 0 := hw
      refine lv_if_ne (tgt := 35) hx hb dX10_approve_30 (by decide) (fun c9 => absurd c9 (by decide)) (fun c32 => ?_)
      refine lv_iconst (v := 0) hx hb dX10_approve_33 (by decide) ?_
      obtain ⟨hP9, hD9⟩ := PDq.sub (ws' := [(oX10 w0 v0 v1 v2 v3 v4 g5 g6 (nI ed) 2 v9 (nI nb) g11 g12 v13 g14 g15 g16 g17 g18 g19 g20 g21 g22 g23 g24 g25 g26 v27 v28 v29 v30 v31 v32 v33 v34 v35 v36 v37 (nI ol)), (v0, .inl (cA 0, 326, .inl fs)), (v3, .inl (cA 0, 3260, .inl fh)), (v4, .inl (cA 1, 10, .inr (.inl fl))), (v31, .inl (cA 0, 400, .inl fc)), (v33, .inl (cA 0, 11, .inl fq)), (v35, .inl (cA 4, 400, .inl fk))]) hP hD [6, 5, 0, 1, 2, 3, 4] (by decide) rfl
      refine W.widen (k := 0) (n := 0) (Nat.le_of_ble_eq_true rfl) (Nat.le_of_ble_eq_true rfl) ?_
      exact (W.zret (v := 0) hx hb hr (by first | rfl | decide) (fun t ht hW => ⟨⟨0, (), rfl, (by first | exact Or.inl rfl | exact Or.inr rfl), ed, en, 2, g14, g15, g16, g17, g18, g19, g20, g21, g22, g23, g24, g26, g5, g6, g25, fs, fh, fl, fk, hed, hHI, hen, hri, hbit, by rw [ht]; exact hP9, hD9⟩, hS.F ht⟩) hS.2.2 dX10_approve_34)
  · skip
    subst hr9
    refine lv_aload_n hx hb dX10_approve_6 rfl (lv_at hl 0 rfl) ?_
    refine lv_iload_n hx hb dX10_approve_7 rfl (lv_at hl 1 rfl) ?_
    obtain ⟨hPc, hDc, hFc⟩ := PDq.cut (wc := [(oX10 w0 v0 v1 v2 v3 v4 g5 g6 (nI ed) g8 v9 (nI nb) g11 g12 v13 g14 g15 g16 g17 g18 g19 g20 g21 g22 g23 g24 g25 g26 v27 v28 v29 v30 v31 v32 v33 v34 v35 v36 v37 (nI ol)), (v0, .inl (cA 0, 326, .inl fs))]) hP hD hS hA [5, 6] (by decide) rfl
    refine va_calli (va_runV (As := [.int i]) (rest := [.int 0, .ref w0]) ⟨hx, hb, hml, hown, hts⟩ (r_isMilestone l D cA sa w0 ed nb ol v0 v1 v2 v3 v4 v9 v13 v27 v28 v29 v30 v31 v32 v33 v34 v35 v36 v37 g8 g11 g12 g14 g15 g16 g17 g18 g19 g20 g21 g22 g23 g24 g26 g5 g6 g25 cn pq en dy fs i H.size hcn hpq hen hdy hri) (cwV 1 hts gX10_approve_X10_isMilestone rfl rfl rfl (by decide +kernel) ⟨(Nat.le_of_ble_eq_true rfl), (Nat.le_of_ble_eq_true rfl)⟩) ⟨Wd.blind, va_recv hK hPc (ci := 11) (q0 := 0) rfl rfl, fun U hU hW => ⟨rfl, Wd.call hPc hDc hK hC hZ hS hFc U hU hW⟩⟩ rfl rfl hl.1 rfl (lv_room (Nat.le_of_ble_eq_true rfl)) dX10_approve_8 ⟨(Nat.le_of_ble_eq_true rfl), (Nat.le_of_ble_eq_true rfl)⟩) hS (fun q _ h => hFc q h) hFc (fun rn33 u t H1 locs ht hvm hw hB hz1 hk1 hS => ?_)
    obtain ⟨hP1, hD1⟩ := hB
    rw [ht] at hP1
    obtain ⟨hP, hD⟩ := PDq.join (w := [(v3, .inl (cA 0, 3260, .inl fh)), (v4, .inl (cA 1, 10, .inr (.inl fl))), (v31, .inl (cA 0, 400, .inl fc)), (v33, .inl (cA 0, 11, .inl fq)), (v35, .inl (cA 4, 400, .inl fk)), (oX10 w0 v0 v1 v2 v3 v4 g5 g6 (nI ed) g8 v9 (nI nb) g11 g12 v13 g14 g15 g16 g17 g18 g19 g20 g21 g22 g23 g24 g25 g26 v27 v28 v29 v30 v31 v32 v33 v34 v35 v36 v37 (nI ol)), (v0, .inl (cA 0, 326, .inl fs))]) 5 hP hD [5, 6] [0, 1, 2, 3, 4] rfl rfl (by decide) (by decide) hk1 hFc hP1 hD1 rfl
    generalize H1 = H at hP hS ⊢
    rcases hw with ⟨hr9, hn34⟩ | hr9
    · skip
      subst hr9
      obtain ⟨kn35, hn36, hn37⟩ := hn34
      rw [hn37] at hl
      have hl : lv_has ls 2 [(0, .ref w0), (1, .int (nI kn35))] := hl
      refine lv_if_eq (tgt := 26) hx hb dX10_approve_11 (by decide) (fun c9 => absurd c9 (by decide)) (fun c38 => ?_)
      refine lv_aload_n hx hb dX10_approve_14 rfl (lv_at hl 0 rfl) ?_
      refine lv_iload_n hx hb dX10_approve_15 rfl (lv_at hl 1 rfl) ?_
      obtain ⟨hPc, hDc, hFc⟩ := PDq.cut (wc := [(oX10 w0 v0 v1 v2 v3 v4 g5 g6 (nI ed) g8 v9 (nI nb) g11 g12 v13 g14 g15 g16 g17 g18 g19 g20 g21 g22 g23 g24 g25 g26 v27 v28 v29 v30 v31 v32 v33 v34 v35 v36 v37 (nI ol)), (v0, .inl (cA 0, 326, .inl fs))]) hP hD hS hA [5, 6] (by decide) rfl
      refine va_calli (va_runV (As := [.int (nI kn35)]) (rest := [.int 0, .ref w0]) ⟨hx, hb, hml, hown, hts⟩ (r_isClosed l D cA sa w0 ed nb ol v0 v1 v2 v3 v4 v9 v13 v27 v28 v29 v30 v31 v32 v33 v34 v35 v36 v37 g8 g11 g12 g14 g15 g16 g17 g18 g19 g20 g21 g22 g23 g24 g26 g5 g6 g25 fs kn35 H.size (by omega)) (cwV 1 hts gX10_approve_X10_isClosed rfl rfl rfl (by decide +kernel) ⟨(Nat.le_of_ble_eq_true rfl), (Nat.le_of_ble_eq_true rfl)⟩) ⟨Wd.blind, va_recv hK hPc (ci := 11) (q0 := 0) rfl rfl, fun U hU hW => ⟨rfl, Wd.call hPc hDc hK hC hZ hS hFc U hU hW⟩⟩ rfl rfl hl.1 rfl (lv_room (Nat.le_of_ble_eq_true rfl)) dX10_approve_16 ⟨(Nat.le_of_ble_eq_true rfl), (Nat.le_of_ble_eq_true rfl)⟩) hS (fun q _ h => hFc q h) hFc (fun rn39 u t H1 locs ht hvm hw hB hz1 hk1 hS => ?_)
      obtain ⟨hP1, hD1⟩ := hB
      rw [ht] at hP1
      obtain ⟨hP, hD⟩ := PDq.join (w := [(v3, .inl (cA 0, 3260, .inl fh)), (v4, .inl (cA 1, 10, .inr (.inl fl))), (v31, .inl (cA 0, 400, .inl fc)), (v33, .inl (cA 0, 11, .inl fq)), (v35, .inl (cA 4, 400, .inl fk)), (oX10 w0 v0 v1 v2 v3 v4 g5 g6 (nI ed) g8 v9 (nI nb) g11 g12 v13 g14 g15 g16 g17 g18 g19 g20 g21 g22 g23 g24 g25 g26 v27 v28 v29 v30 v31 v32 v33 v34 v35 v36 v37 (nI ol)), (v0, .inl (cA 0, 326, .inl fs))]) 5 hP hD [5, 6] [0, 1, 2, 3, 4] rfl rfl (by decide) (by decide) hk1 hFc hP1 hD1 rfl
      generalize H1 = H at hP hS ⊢
      have hn40 := hw
      refine lv_if_ne (tgt := 26) hx hb dX10_approve_19 (by decide) (fun c41 => ?_) (fun c41 => ?_)
      · skip
        refine lv_iconst (v := 0) hx hb dX10_approve_26 (by decide) ?_
        obtain ⟨hPc, hDc, hFc⟩ := PDq.cut (wc := [(oX10 w0 v0 v1 v2 v3 v4 g5 g6 (nI ed) g8 v9 (nI nb) g11 g12 v13 g14 g15 g16 g17 g18 g19 g20 g21 g22 g23 g24 g25 g26 v27 v28 v29 v30 v31 v32 v33 v34 v35 v36 v37 (nI ol))]) hP hD hS hA [5] (by decide) rfl
        refine va_calli (va_runV (As := [.int 0, .int 0]) (rest := []) ⟨hx, hb, hml, hown, hts⟩ (r_good_00 l D cA sa w0 ed nb ol v0 v1 v2 v3 v4 v9 v13 v27 v28 v29 v30 v31 v32 v33 v34 v35 v36 v37 g8 g11 g12 g14 g15 g16 g17 g18 g19 g20 g21 g22 g23 g24 g26 g5 g6 g25 H.size) (cwV 2 hts gX10_approve_X10_good_ rfl rfl rfl (by decide +kernel) ⟨(Nat.le_of_ble_eq_true rfl), (Nat.le_of_ble_eq_true rfl)⟩) ⟨Wd.blind, va_recv hK hPc (ci := 11) (q0 := 0) rfl rfl, fun U hU hW => ⟨rfl, Wd.call hPc hDc hK hC hZ hS hFc U hU hW⟩⟩ rfl rfl hl.1 rfl (lv_room (Nat.le_of_ble_eq_true rfl)) dX10_approve_27 ⟨(Nat.le_of_ble_eq_true rfl), (Nat.le_of_ble_eq_true rfl)⟩) hS (fun q _ h => hFc q h) hFc (fun rn42 u t H1 locs ht hvm hw hB hz1 hk1 hS => ?_)
        obtain ⟨hP1, hD1⟩ := hB
        rw [ht] at hP1
        obtain ⟨hP, hD⟩ := PDq.join (w := [(v3, .inl (cA 0, 3260, .inl fh)), (v4, .inl (cA 1, 10, .inr (.inl fl))), (v31, .inl (cA 0, 400, .inl fc)), (v33, .inl (cA 0, 11, .inl fq)), (v35, .inl (cA 4, 400, .inl fk)), (v0, .inl (cA 0, 326, .inl fs)), (oX10 w0 v0 v1 v2 v3 v4 g5 g6 (nI ed) 1 v9 (nI nb) g11 g12 v13 g14 g15 g16 g17 g18 g19 g20 g21 g22 g23 g24 g25 g26 v27 v28 v29 v30 v31 v32 v33 v34 v35 v36 v37 (nI ol))]) 6 hP hD [5] [0, 1, 2, 3, 4, 6] rfl rfl (by decide) (by decide) hk1 hFc hP1 hD1 rfl
        generalize H1 = H at hP hS ⊢
        obtain rfl : rn42 = 0 := hw
        refine lv_if_ne (tgt := 35) hx hb dX10_approve_30 (by decide) (fun c9 => absurd c9 (by decide)) (fun c43 => ?_)
        refine lv_iconst (v := 0) hx hb dX10_approve_33 (by decide) ?_
        obtain ⟨hP9, hD9⟩ := PDq.sub (ws' := [(oX10 w0 v0 v1 v2 v3 v4 g5 g6 (nI ed) 1 v9 (nI nb) g11 g12 v13 g14 g15 g16 g17 g18 g19 g20 g21 g22 g23 g24 g25 g26 v27 v28 v29 v30 v31 v32 v33 v34 v35 v36 v37 (nI ol)), (v0, .inl (cA 0, 326, .inl fs)), (v3, .inl (cA 0, 3260, .inl fh)), (v4, .inl (cA 1, 10, .inr (.inl fl))), (v31, .inl (cA 0, 400, .inl fc)), (v33, .inl (cA 0, 11, .inl fq)), (v35, .inl (cA 4, 400, .inl fk))]) hP hD [6, 5, 0, 1, 2, 3, 4] (by decide) rfl
        refine W.widen (k := 0) (n := 0) (Nat.le_of_ble_eq_true rfl) (Nat.le_of_ble_eq_true rfl) ?_
        exact (W.zret (v := 0) hx hb hr (by first | rfl | decide) (fun t ht hW => ⟨⟨0, (), rfl, (by first | exact Or.inl rfl | exact Or.inr rfl), ed, en, 1, g14, g15, g16, g17, g18, g19, g20, g21, g22, g23, g24, g26, g5, g6, g25, fs, fh, fl, fk, hed, hHI, hen, hri, hbit, by rw [ht]; exact hP9, hD9⟩, hS.F ht⟩) hS.2.2 dX10_approve_34)
      · skip
        refine lv_iconst (v := 1) hx hb dX10_approve_22 (by decide) ?_
        refine lv_goto (tgt := 27) hx hb dX10_approve_23 (by decide) ?_
        obtain ⟨hPc, hDc, hFc⟩ := PDq.cut (wc := [(oX10 w0 v0 v1 v2 v3 v4 g5 g6 (nI ed) g8 v9 (nI nb) g11 g12 v13 g14 g15 g16 g17 g18 g19 g20 g21 g22 g23 g24 g25 g26 v27 v28 v29 v30 v31 v32 v33 v34 v35 v36 v37 (nI ol))]) hP hD hS hA [5] (by decide) rfl
        refine va_calli (va_runV (As := [.int 0, .int 1]) (rest := []) ⟨hx, hb, hml, hown, hts⟩ (r_good_01 l D cA sa w0 ed nb ol v0 v1 v2 v3 v4 v9 v13 v27 v28 v29 v30 v31 v32 v33 v34 v35 v36 v37 g8 g11 g12 g14 g15 g16 g17 g18 g19 g20 g21 g22 g23 g24 g26 g5 g6 g25 H.size) (cwV 2 hts gX10_approve_X10_good_ rfl rfl rfl (by decide +kernel) ⟨(Nat.le_of_ble_eq_true rfl), (Nat.le_of_ble_eq_true rfl)⟩) ⟨Wd.blind, va_recv hK hPc (ci := 11) (q0 := 0) rfl rfl, fun U hU hW => ⟨rfl, Wd.call hPc hDc hK hC hZ hS hFc U hU hW⟩⟩ rfl rfl hl.1 rfl (lv_room (Nat.le_of_ble_eq_true rfl)) dX10_approve_27 ⟨(Nat.le_of_ble_eq_true rfl), (Nat.le_of_ble_eq_true rfl)⟩) hS (fun q _ h => hFc q h) hFc (fun rn44 u t H1 locs ht hvm hw hB hz1 hk1 hS => ?_)
        obtain ⟨hP1, hD1⟩ := hB
        rw [ht] at hP1
        obtain ⟨hP, hD⟩ := PDq.join (w := [(v3, .inl (cA 0, 3260, .inl fh)), (v4, .inl (cA 1, 10, .inr (.inl fl))), (v31, .inl (cA 0, 400, .inl fc)), (v33, .inl (cA 0, 11, .inl fq)), (v35, .inl (cA 4, 400, .inl fk)), (v0, .inl (cA 0, 326, .inl fs)), (oX10 w0 v0 v1 v2 v3 v4 g5 g6 (nI ed) 1 v9 (nI nb) g11 g12 v13 g14 g15 g16 g17 g18 g19 g20 g21 g22 g23 g24 g25 g26 v27 v28 v29 v30 v31 v32 v33 v34 v35 v36 v37 (nI ol))]) 6 hP hD [5] [0, 1, 2, 3, 4, 6] rfl rfl (by decide) (by decide) hk1 hFc hP1 hD1 rfl
        generalize H1 = H at hP hS ⊢
        obtain rfl : rn44 = 0 := hw
        refine lv_if_ne (tgt := 35) hx hb dX10_approve_30 (by decide) (fun c9 => absurd c9 (by decide)) (fun c45 => ?_)
        refine lv_iconst (v := 0) hx hb dX10_approve_33 (by decide) ?_
        obtain ⟨hP9, hD9⟩ := PDq.sub (ws' := [(oX10 w0 v0 v1 v2 v3 v4 g5 g6 (nI ed) 1 v9 (nI nb) g11 g12 v13 g14 g15 g16 g17 g18 g19 g20 g21 g22 g23 g24 g25 g26 v27 v28 v29 v30 v31 v32 v33 v34 v35 v36 v37 (nI ol)), (v0, .inl (cA 0, 326, .inl fs)), (v3, .inl (cA 0, 3260, .inl fh)), (v4, .inl (cA 1, 10, .inr (.inl fl))), (v31, .inl (cA 0, 400, .inl fc)), (v33, .inl (cA 0, 11, .inl fq)), (v35, .inl (cA 4, 400, .inl fk))]) hP hD [6, 5, 0, 1, 2, 3, 4] (by decide) rfl
        refine W.widen (k := 0) (n := 0) (Nat.le_of_ble_eq_true rfl) (Nat.le_of_ble_eq_true rfl) ?_
        exact (W.zret (v := 0) hx hb hr (by first | rfl | decide) (fun t ht hW => ⟨⟨0, (), rfl, (by first | exact Or.inl rfl | exact Or.inr rfl), ed, en, 1, g14, g15, g16, g17, g18, g19, g20, g21, g22, g23, g24, g26, g5, g6, g25, fs, fh, fl, fk, hed, hHI, hen, hri, hbit, by rw [ht]; exact hP9, hD9⟩, hS.F ht⟩) hS.2.2 dX10_approve_34)
    · skip
      subst hr9
      refine lv_if_eq (tgt := 26) hx hb dX10_approve_11 (by decide) (fun c46 => ?_) (fun c9 => absurd c9 (by decide))
      refine lv_iconst (v := 0) hx hb dX10_approve_26 (by decide) ?_
      obtain ⟨hPc, hDc, hFc⟩ := PDq.cut (wc := [(oX10 w0 v0 v1 v2 v3 v4 g5 g6 (nI ed) g8 v9 (nI nb) g11 g12 v13 g14 g15 g16 g17 g18 g19 g20 g21 g22 g23 g24 g25 g26 v27 v28 v29 v30 v31 v32 v33 v34 v35 v36 v37 (nI ol))]) hP hD hS hA [5] (by decide) rfl
      refine va_calli (va_runV (As := [.int 0, .int 0]) (rest := []) ⟨hx, hb, hml, hown, hts⟩ (r_good_00 l D cA sa w0 ed nb ol v0 v1 v2 v3 v4 v9 v13 v27 v28 v29 v30 v31 v32 v33 v34 v35 v36 v37 g8 g11 g12 g14 g15 g16 g17 g18 g19 g20 g21 g22 g23 g24 g26 g5 g6 g25 H.size) (cwV 2 hts gX10_approve_X10_good_ rfl rfl rfl (by decide +kernel) ⟨(Nat.le_of_ble_eq_true rfl), (Nat.le_of_ble_eq_true rfl)⟩) ⟨Wd.blind, va_recv hK hPc (ci := 11) (q0 := 0) rfl rfl, fun U hU hW => ⟨rfl, Wd.call hPc hDc hK hC hZ hS hFc U hU hW⟩⟩ rfl rfl hl.1 rfl (lv_room (Nat.le_of_ble_eq_true rfl)) dX10_approve_27 ⟨(Nat.le_of_ble_eq_true rfl), (Nat.le_of_ble_eq_true rfl)⟩) hS (fun q _ h => hFc q h) hFc (fun rn47 u t H1 locs ht hvm hw hB hz1 hk1 hS => ?_)
      obtain ⟨hP1, hD1⟩ := hB
      rw [ht] at hP1
      obtain ⟨hP, hD⟩ := PDq.join (w := [(v3, .inl (cA 0, 3260, .inl fh)), (v4, .inl (cA 1, 10, .inr (.inl fl))), (v31, .inl (cA 0, 400, .inl fc)), (v33, .inl (cA 0, 11, .inl fq)), (v35, .inl (cA 4, 400, .inl fk)), (v0, .inl (cA 0, 326, .inl fs)), (oX10 w0 v0 v1 v2 v3 v4 g5 g6 (nI ed) 1 v9 (nI nb) g11 g12 v13 g14 g15 g16 g17 g18 g19 g20 g21 g22 g23 g24 g25 g26 v27 v28 v29 v30 v31 v32 v33 v34 v35 v36 v37 (nI ol))]) 6 hP hD [5] [0, 1, 2, 3, 4, 6] rfl rfl (by decide) (by decide) hk1 hFc hP1 hD1 rfl
      generalize H1 = H at hP hS ⊢
      obtain rfl : rn47 = 0 := hw
      refine lv_if_ne (tgt := 35) hx hb dX10_approve_30 (by decide) (fun c9 => absurd c9 (by decide)) (fun c48 => ?_)
      refine lv_iconst (v := 0) hx hb dX10_approve_33 (by decide) ?_
      obtain ⟨hP9, hD9⟩ := PDq.sub (ws' := [(oX10 w0 v0 v1 v2 v3 v4 g5 g6 (nI ed) 1 v9 (nI nb) g11 g12 v13 g14 g15 g16 g17 g18 g19 g20 g21 g22 g23 g24 g25 g26 v27 v28 v29 v30 v31 v32 v33 v34 v35 v36 v37 (nI ol)), (v0, .inl (cA 0, 326, .inl fs)), (v3, .inl (cA 0, 3260, .inl fh)), (v4, .inl (cA 1, 10, .inr (.inl fl))), (v31, .inl (cA 0, 400, .inl fc)), (v33, .inl (cA 0, 11, .inl fq)), (v35, .inl (cA 4, 400, .inl fk))]) hP hD [6, 5, 0, 1, 2, 3, 4] (by decide) rfl
      refine W.widen (k := 0) (n := 0) (Nat.le_of_ble_eq_true rfl) (Nat.le_of_ble_eq_true rfl) ?_
      exact (W.zret (v := 0) hx hb hr (by first | rfl | decide) (fun t ht hW => ⟨⟨0, (), rfl, (by first | exact Or.inl rfl | exact Or.inr rfl), ed, en, 1, g14, g15, g16, g17, g18, g19, g20, g21, g22, g23, g24, g26, g5, g6, g25, fs, fh, fl, fk, hed, hHI, hen, hri, hbit, by rw [ht]; exact hP9, hD9⟩, hS.F ht⟩) hS.2.2 dX10_approve_34)

set_option maxHeartbeats 4000000 in
set_option maxRecDepth 100000 in
/-- reference: pass -/
theorem r_pass (l : Launch) (D : va_G) (cA : Nat → ClassId) (sa : Nat → Nat) (w0 : Nat) (ed : Nat) (nb : Nat) (ol : Nat) (v0 : Nat) (v1 : Nat) (v2 : Nat) (v3 : Nat) (v4 : Nat) (v9 : Nat) (v13 : Nat) (v27 : Nat) (v28 : Nat) (v29 : Nat) (v30 : Nat) (v31 : Nat) (v32 : Nat) (v33 : Nat) (v34 : Nat) (v35 : Nat) (v36 : Nat) (v37 : Nat) (g8 : Int32) (g11 : Int32) (g12 : Int32) (g14 : Int32) (g15 : Int32) (g16 : Int32) (g17 : Int32) (g18 : Int32) (g19 : Int32) (g20 : Int32) (g21 : Int32) (g22 : Int32) (g23 : Int32) (g24 : Int32) (g26 : Int32) (g5 : Int64) (g6 : Int64) (g25 : Int64) (cn : Nat) (pq : Nat) (en : Nat) (dy : Nat) (fs : Nat → Int32) (fh : Nat → Int32) (fl : Nat → Int64) (fc : Nat → Int32) (fq : Nat → Int32) (fk : Nat → Int32) (fo : Nat → Int32) (i : Int32) (sz : Nat) (hcn : cn ≤ 10) (hpq : pq ≤ 8) (hen : en ≤ 60) (hdy : dy ≤ 20000) (hri : RI cn pq en dy fs) (hed : ed ≤ 10) (hHI : HI cn pq ed fh) (hd9 : dy ≤ 9999) (hCW : CW cn fc fq) (hbit : Bit 400 fk) (hord : Rng 10 10 fo) : Met l yX10_pass wsX10_pass ({ frames := 7, cells := 0, slots := 0, locals := 151 }) (va_Pc [.ref w0, .int i] (Wd D cA sa [(oX10 w0 v0 v1 v2 v3 v4 g5 g6 (nI ed) g8 v9 (nI nb) g11 g12 v13 g14 g15 g16 g17 g18 g19 g20 g21 g22 g23 g24 g25 g26 v27 v28 v29 v30 v31 v32 v33 v34 v35 v36 v37 (nI ol)), (v0, .inl (cA 0, 326, .inl fs)), (v3, .inl (cA 0, 3260, .inl fh)), (v4, .inl (cA 1, 10, .inr (.inl fl))), (v31, .inl (cA 0, 400, .inl fc)), (v33, .inl (cA 0, 11, .inl fq)), (v35, .inl (cA 4, 400, .inl fk)), (v36, .inl (cA 0, 10, .inl fo))] sz)) (va_Qi (fun (r : Int32) (_ : Unit) => True) (fun (_ : Unit) t => ∃ ed2 : Nat, ∃ e2 : Nat, ∃ z8 : Int32, ∃ z14 : Int32, ∃ z15 : Int32, ∃ z16 : Int32, ∃ z17 : Int32, ∃ z18 : Int32, ∃ z19 : Int32, ∃ z20 : Int32, ∃ z21 : Int32, ∃ z22 : Int32, ∃ z23 : Int32, ∃ z24 : Int32, ∃ z26 : Int32, ∃ z5 : Int64, ∃ z6 : Int64, ∃ z25 : Int64, ∃ zs : Nat → Int32, ∃ zh : Nat → Int32, ∃ zl : Nat → Int64, ∃ d2 : Nat, ∃ zk : Nat → Int32, ∃ zo : Nat → Int32, ed2 ≤ 10 ∧ HI cn pq ed2 zh ∧ e2 ≤ 60 ∧ RI cn pq e2 d2 zs ∧ Bit 400 zk ∧ Rng 10 10 zo ∧ d2 ≤ 9999 ∧ Wq D (va_A [(oX10 w0 v0 v1 v2 v3 v4 g5 g6 (nI ed) g8 v9 (nI nb) g11 g12 v13 g14 g15 g16 g17 g18 g19 g20 g21 g22 g23 g24 g25 g26 v27 v28 v29 v30 v31 v32 v33 v34 v35 v36 v37 (nI ol)), (v0, .inl (cA 0, 326, .inl fs)), (v3, .inl (cA 0, 3260, .inl fh)), (v4, .inl (cA 1, 10, .inr (.inl fl))), (v31, .inl (cA 0, 400, .inl fc)), (v33, .inl (cA 0, 11, .inl fq)), (v35, .inl (cA 4, 400, .inl fk)), (v36, .inl (cA 0, 10, .inl fo))] sz) [(oX10 w0 v0 v1 v2 v3 v4 z5 z6 (nI ed2) z8 v9 (nI nb) g11 g12 v13 z14 z15 z16 z17 z18 z19 z20 z21 z22 z23 z24 z25 z26 v27 v28 v29 v30 v31 v32 v33 v34 v35 v36 v37 (nI ol)), (v0, .inl (cA 0, 326, .inl zs)), (v3, .inl (cA 0, 3260, .inl zh)), (v4, .inl (cA 1, 10, .inr (.inl zl))), (v31, .inl (cA 0, 400, .inl fc)), (v33, .inl (cA 0, 11, .inl fq)), (v35, .inl (cA 4, 400, .inl zk)), (v36, .inl (cA 0, 10, .inl zo))] t) (va_A [(oX10 w0 v0 v1 v2 v3 v4 g5 g6 (nI ed) g8 v9 (nI nb) g11 g12 v13 g14 g15 g16 g17 g18 g19 g20 g21 g22 g23 g24 g25 g26 v27 v28 v29 v30 v31 v32 v33 v34 v35 v36 v37 (nI ol)), (v0, .inl (cA 0, 326, .inl fs)), (v3, .inl (cA 0, 3260, .inl fh)), (v4, .inl (cA 1, 10, .inr (.inl fl))), (v31, .inl (cA 0, 400, .inl fc)), (v33, .inl (cA 0, 11, .inl fq)), (v35, .inl (cA 4, 400, .inl fk)), (v36, .inl (cA 0, 10, .inl fo))] sz)) 0 0 (va_A [(oX10 w0 v0 v1 v2 v3 v4 g5 g6 (nI ed) g8 v9 (nI nb) g11 g12 v13 g14 g15 g16 g17 g18 g19 g20 g21 g22 g23 g24 g25 g26 v27 v28 v29 v30 v31 v32 v33 v34 v35 v36 v37 (nI ol)), (v0, .inl (cA 0, 326, .inl fs)), (v3, .inl (cA 0, 3260, .inl fh)), (v4, .inl (cA 1, 10, .inr (.inl fl))), (v31, .inl (cA 0, 400, .inl fc)), (v33, .inl (cA 0, 11, .inl fq)), (v35, .inl (cA 4, 400, .inl fk)), (v36, .inl (cA 0, 10, .inl fo))] sz) := by
  refine Met.ofW (cc := cX10_pass) (maxL := 3) (ret := (some .int)) (by decide) rfl ?_
  intro p e s m args below meth c s₁ B hml hv
  obtain ⟨rfl, hsz, hP, hK, hD0, hC, hZ⟩ := hv
  have hx := B.exec
  have hb := B.bytes
  have hr := B.returns
  have hts := atoms_spec (ws := wsX10_pass) B.pre
  have hown : s.vm.findClass RX10 = some m.cls := findClass_of_methodNamed B.named
  have hlocks := B.notSynchronized
  subst hsz
  have hD := hD0.self (sz := s.heap.size)
  generalize hAe : va_A [(oX10 w0 v0 v1 v2 v3 v4 g5 g6 (nI ed) g8 v9 (nI nb) g11 g12 v13 g14 g15 g16 g17 g18 g19 g20 g21 g22 g23 g24 g25 g26 v27 v28 v29 v30 v31 v32 v33 v34 v35 v36 v37 (nI ol)), (v0, .inl (cA 0, 326, .inl fs)), (v3, .inl (cA 0, 3260, .inl fh)), (v4, .inl (cA 1, 10, .inr (.inl fl))), (v31, .inl (cA 0, 400, .inl fc)), (v33, .inl (cA 0, 11, .inl fq)), (v35, .inl (cA 4, 400, .inl fk)), (v36, .inl (cA 0, 10, .inl fo))] s.heap.size = A at hD hZ ⊢
  have hA : ∀ q : Nat, s.heap.size ≤ q → A q := fun q h => by rw [← hAe]; exact Or.inr h
  have hS : va_S A s.heap s.heap [] := va_S.rf
  have hP : va_P D vwCl [(oX10 w0 v0 v1 v2 v3 v4 g5 g6 (nI ed) g8 v9 (nI nb) g11 g12 v13 g14 g15 g16 g17 g18 g19 g20 g21 g22 g23 g24 g25 g26 v27 v28 v29 v30 v31 v32 v33 v34 v35 v36 v37 (nI ol)), (v0, .inl (cA 0, 326, .inl fs)), (v3, .inl (cA 0, 3260, .inl fh)), (v4, .inl (cA 1, 10, .inr (.inl fl))), (v31, .inl (cA 0, 400, .inl fc)), (v33, .inl (cA 0, 11, .inl fq)), (v35, .inl (cA 4, 400, .inl fk)), (v36, .inl (cA 0, 10, .inl fo))] s.heap := hP
  have hl := lv_entry ([.ref w0, .int i]) (n := 3) (Nat.le_of_ble_eq_true rfl)
  rw [lg_entry_eq]
  generalize (lg_sl ([.ref w0, .int i]) ++ List.replicate (3 - (lg_sl ([.ref w0, .int i])).length) Slot.unset).toArray = ls at hl ⊢
  have hl : lv_has ls 3 [(0, .ref w0), (1, .int i)] := hl
  have inX10 : ∀ w ∈ u_ws RX10 TX10 39, w ∈ wsX10_pass := by decide +kernel
  refine lv_aload_n hx hb dX10_pass_0 rfl (lv_at hl 0 rfl) ?_
  refine lv_iload_n hx hb dX10_pass_1 rfl (lv_at hl 1 rfl) ?_
  obtain ⟨hPc, hDc, hFc⟩ := PDq.cut (wc := []) hP hD hS hA [] (by decide) rfl
  refine va_calli (va_runS (As := [.int i]) (rest := [.ref w0]) ⟨hx, hb, hml, hown, hts⟩ (r_isTrial l D cA sa i s.heap.size) (va_cwS 1 hts gX10_pass_X10_isTrial rfl rfl rfl (by decide +kernel) ⟨(Nat.le_of_ble_eq_true rfl), (Nat.le_of_ble_eq_true rfl)⟩) ⟨Wd.blind, fun U hU hW => ⟨rfl, Wd.call hPc hDc hK hC hZ hS hFc U hU hW⟩⟩ rfl rfl hl.1 rfl (lv_room (Nat.le_of_ble_eq_true rfl)) dX10_pass_2 ⟨(Nat.le_of_ble_eq_true rfl), (Nat.le_of_ble_eq_true rfl)⟩) hS (fun q _ h => hFc q h) hFc (fun rn1 u t H1 locs ht hvm hw hB hz1 hk1 hS => ?_)
  obtain ⟨hP1, hD1⟩ := hB
  rw [ht] at hP1
  obtain ⟨hP, hD⟩ := PDq.join (w := [(oX10 w0 v0 v1 v2 v3 v4 g5 g6 (nI ed) g8 v9 (nI nb) g11 g12 v13 g14 g15 g16 g17 g18 g19 g20 g21 g22 g23 g24 g25 g26 v27 v28 v29 v30 v31 v32 v33 v34 v35 v36 v37 (nI ol)), (v0, .inl (cA 0, 326, .inl fs)), (v3, .inl (cA 0, 3260, .inl fh)), (v4, .inl (cA 1, 10, .inr (.inl fl))), (v31, .inl (cA 0, 400, .inl fc)), (v33, .inl (cA 0, 11, .inl fq)), (v35, .inl (cA 4, 400, .inl fk)), (v36, .inl (cA 0, 10, .inl fo))]) 8 hP hD [] [0, 1, 2, 3, 4, 5, 6, 7] rfl rfl (by decide) (by decide) hk1 hFc hP1 hD1 rfl
  generalize H1 = H at hP hS ⊢
  rcases hw with ⟨hr9, hn2⟩ | hr9
  · skip
    subst hr9
    obtain ⟨kn3, hn4, hn5, hn6⟩ := hn2
    rw [hn6] at hl
    have hl : lv_has ls 3 [(0, .ref w0), (1, .int (nI kn3))] := hl
    refine lv_aload_n hx hb dX10_pass_5 rfl (lv_at hl 0 rfl) ?_
    refine va_get (D := D) (ci := 11) (v := .ref v0) (C := RX10) (T := TX10) (N := 39) hx hb hts inX10 hown hK hP 0 rfl rfl 0 (by decide) (hts (.fieldLink RX10 7 "EscrowDeskModel" "s" "[I") (by decide +kernel)) (fun _ h9 => h9) rfl dX10_pass_6 ?_
    refine lv_iconst (v := 4) hx hb dX10_pass_9 (by decide) ?_
    refine va_iald hx hb hK hP 1 0 rfl rfl (vp_in_iff.mpr (by decide)) dX10_pass_10 ?_
    refine lv_topi (fun yn7 eyn7 => ?_)
    obtain rfl : yn7 = (nI dy) := eyn7.trans hri.2.2.2.1
    refine lv_iload_n hx hb dX10_pass_11 rfl (lv_at hl 1 rfl) ?_
    refine lv_iadd hx hb dX10_pass_12 ?_
    refine lv_topi (fun yn8 eyn8 => ?_)
    obtain rfl : yn8 = (nI (dy + kn3)) := eyn8.trans (nI_add dy kn3)
    refine lv_sipush (v := 9999) hx hb dX10_pass_13 (by decide) ?_
    refine lv_icmp_gt (tgt := 23) hx hb dX10_pass_16 (by decide) (fun c9 => ?_) (fun c9 => ?_)
    · skip
      have hn10 : 9999 < (dy + kn3) := (nI_ltI (a := 9999) (b := (dy + kn3)) (by omega) (by omega)).mp c9
      refine lv_iconst (v := 0) hx hb dX10_pass_23 (by decide) ?_
      obtain ⟨hPc, hDc, hFc⟩ := PDq.cut (wc := [(oX10 w0 v0 v1 v2 v3 v4 g5 g6 (nI ed) g8 v9 (nI nb) g11 g12 v13 g14 g15 g16 g17 g18 g19 g20 g21 g22 g23 g24 g25 g26 v27 v28 v29 v30 v31 v32 v33 v34 v35 v36 v37 (nI ol))]) hP hD hS hA [0] (by decide) rfl
      refine va_calli (va_runV (As := [.int 1, .int 0]) (rest := []) ⟨hx, hb, hml, hown, hts⟩ (r_good_10 l D cA sa w0 ed nb ol v0 v1 v2 v3 v4 v9 v13 v27 v28 v29 v30 v31 v32 v33 v34 v35 v36 v37 g8 g11 g12 g14 g15 g16 g17 g18 g19 g20 g21 g22 g23 g24 g26 g5 g6 g25 H.size) (cwV 2 hts gX10_pass_X10_good_ rfl rfl rfl (by decide +kernel) ⟨(Nat.le_of_ble_eq_true rfl), (Nat.le_of_ble_eq_true rfl)⟩) ⟨Wd.blind, va_recv hK hPc (ci := 11) (q0 := 0) rfl rfl, fun U hU hW => ⟨rfl, Wd.call hPc hDc hK hC hZ hS hFc U hU hW⟩⟩ rfl rfl hl.1 rfl (lv_room (Nat.le_of_ble_eq_true rfl)) dX10_pass_24 ⟨(Nat.le_of_ble_eq_true rfl), (Nat.le_of_ble_eq_true rfl)⟩) hS (fun q _ h => hFc q h) hFc (fun rn11 u t H1 locs ht hvm hw hB hz1 hk1 hS => ?_)
      obtain ⟨hP1, hD1⟩ := hB
      rw [ht] at hP1
      obtain ⟨hP, hD⟩ := PDq.join (w := [(v0, .inl (cA 0, 326, .inl fs)), (v3, .inl (cA 0, 3260, .inl fh)), (v4, .inl (cA 1, 10, .inr (.inl fl))), (v31, .inl (cA 0, 400, .inl fc)), (v33, .inl (cA 0, 11, .inl fq)), (v35, .inl (cA 4, 400, .inl fk)), (v36, .inl (cA 0, 10, .inl fo)), (oX10 w0 v0 v1 v2 v3 v4 g5 g6 (nI ed) 2 v9 (nI nb) g11 g12 v13 g14 g15 g16 g17 g18 g19 g20 g21 g22 g23 g24 g25 g26 v27 v28 v29 v30 v31 v32 v33 v34 v35 v36 v37 (nI ol))]) 7 hP hD [0] [1, 2, 3, 4, 5, 6, 7] rfl rfl (by decide) (by decide) hk1 hFc hP1 hD1 rfl
      generalize H1 = H at hP hS ⊢
      obtain rfl : rn11 = 0 := hw
      refine lv_if_ne (tgt := 32) hx hb dX10_pass_27 (by decide) (fun c9 => absurd c9 (by decide)) (fun c12 => ?_)
      refine lv_iconst (v := 0) hx hb dX10_pass_30 (by decide) ?_
      obtain ⟨hP9, hD9⟩ := PDq.sub (ws' := [(oX10 w0 v0 v1 v2 v3 v4 g5 g6 (nI ed) 2 v9 (nI nb) g11 g12 v13 g14 g15 g16 g17 g18 g19 g20 g21 g22 g23 g24 g25 g26 v27 v28 v29 v30 v31 v32 v33 v34 v35 v36 v37 (nI ol)), (v0, .inl (cA 0, 326, .inl fs)), (v3, .inl (cA 0, 3260, .inl fh)), (v4, .inl (cA 1, 10, .inr (.inl fl))), (v31, .inl (cA 0, 400, .inl fc)), (v33, .inl (cA 0, 11, .inl fq)), (v35, .inl (cA 4, 400, .inl fk)), (v36, .inl (cA 0, 10, .inl fo))]) hP hD [7, 0, 1, 2, 3, 4, 5, 6] (by decide) rfl
      refine W.widen (k := 0) (n := 0) (Nat.le_of_ble_eq_true rfl) (Nat.le_of_ble_eq_true rfl) ?_
      exact (W.iret (v := 0) hx hb hr (fun t ht hW => ⟨⟨0, (), rfl, trivial, ed, en, 2, g14, g15, g16, g17, g18, g19, g20, g21, g22, g23, g24, g26, g5, g6, g25, fs, fh, fl, dy, fk, fo, hed, hHI, hen, hri, hbit, hord, hd9, by rw [ht]; exact hP9, hD9⟩, hS.F ht⟩) hS.2.2 dX10_pass_31)
    · skip
      have hn13 : (dy + kn3) ≤ 9999 := Nat.le_of_not_lt (fun h9 => c9 (nI_lt (a := 9999) (b := (dy + kn3)) h9 (by omega)))
      refine lv_iconst (v := 1) hx hb dX10_pass_19 (by decide) ?_
      refine lv_goto (tgt := 24) hx hb dX10_pass_20 (by decide) ?_
      obtain ⟨hPc, hDc, hFc⟩ := PDq.cut (wc := [(oX10 w0 v0 v1 v2 v3 v4 g5 g6 (nI ed) g8 v9 (nI nb) g11 g12 v13 g14 g15 g16 g17 g18 g19 g20 g21 g22 g23 g24 g25 g26 v27 v28 v29 v30 v31 v32 v33 v34 v35 v36 v37 (nI ol))]) hP hD hS hA [0] (by decide) rfl
      refine va_calli (va_runV (As := [.int 1, .int 1]) (rest := []) ⟨hx, hb, hml, hown, hts⟩ (r_good_11 l D cA sa w0 ed nb ol v0 v1 v2 v3 v4 v9 v13 v27 v28 v29 v30 v31 v32 v33 v34 v35 v36 v37 g8 g11 g12 g14 g15 g16 g17 g18 g19 g20 g21 g22 g23 g24 g26 g5 g6 g25 H.size) (cwV 2 hts gX10_pass_X10_good_ rfl rfl rfl (by decide +kernel) ⟨(Nat.le_of_ble_eq_true rfl), (Nat.le_of_ble_eq_true rfl)⟩) ⟨Wd.blind, va_recv hK hPc (ci := 11) (q0 := 0) rfl rfl, fun U hU hW => ⟨rfl, Wd.call hPc hDc hK hC hZ hS hFc U hU hW⟩⟩ rfl rfl hl.1 rfl (lv_room (Nat.le_of_ble_eq_true rfl)) dX10_pass_24 ⟨(Nat.le_of_ble_eq_true rfl), (Nat.le_of_ble_eq_true rfl)⟩) hS (fun q _ h => hFc q h) hFc (fun rn14 u t H1 locs ht hvm hw hB hz1 hk1 hS => ?_)
      obtain ⟨hP1, hD1⟩ := hB
      rw [ht] at hP1
      obtain ⟨hP, hD⟩ := PDq.join (w := [(v0, .inl (cA 0, 326, .inl fs)), (v3, .inl (cA 0, 3260, .inl fh)), (v4, .inl (cA 1, 10, .inr (.inl fl))), (v31, .inl (cA 0, 400, .inl fc)), (v33, .inl (cA 0, 11, .inl fq)), (v35, .inl (cA 4, 400, .inl fk)), (v36, .inl (cA 0, 10, .inl fo)), (oX10 w0 v0 v1 v2 v3 v4 g5 g6 (nI ed) 0 v9 (nI nb) g11 g12 v13 g14 g15 g16 g17 g18 g19 g20 g21 g22 g23 g24 g25 g26 v27 v28 v29 v30 v31 v32 v33 v34 v35 v36 v37 (nI ol))]) 7 hP hD [0] [1, 2, 3, 4, 5, 6, 7] rfl rfl (by decide) (by decide) hk1 hFc hP1 hD1 rfl
      generalize H1 = H at hP hS ⊢
      obtain rfl : rn14 = 1 := hw
      refine lv_if_ne (tgt := 32) hx hb dX10_pass_27 (by decide) (fun c15 => ?_) (fun c9 => absurd c9 (by decide))
      refine lv_aload_n hx hb dX10_pass_32 rfl (lv_at hl 0 rfl) ?_
      obtain ⟨hPc, hDc, hFc⟩ := PDq.cut (wc := [(oX10 w0 v0 v1 v2 v3 v4 g5 g6 (nI ed) 0 v9 (nI nb) g11 g12 v13 g14 g15 g16 g17 g18 g19 g20 g21 g22 g23 g24 g25 g26 v27 v28 v29 v30 v31 v32 v33 v34 v35 v36 v37 (nI ol)), (v0, .inl (cA 0, 326, .inl fs)), (v3, .inl (cA 0, 3260, .inl fh)), (v4, .inl (cA 1, 10, .inr (.inl fl)))]) hP hD hS hA [7, 0, 1, 2] (by decide) rfl
      refine va_callv (va_runV (As := []) (rest := []) ⟨hx, hb, hml, hown, hts⟩ (r_remember l D cA sa w0 ed nb ol v0 v1 v2 v3 v4 v9 v13 v27 v28 v29 v30 v31 v32 v33 v34 v35 v36 v37 0 g11 g12 g14 g15 g16 g17 g18 g19 g20 g21 g22 g23 g24 g26 g5 g6 g25 cn pq en dy fs fh fl H.size hcn hpq hen hdy hri hed hHI hd9) (cwV 0 hts gX10_pass_X10_remember rfl rfl rfl (by decide +kernel) ⟨(Nat.le_of_ble_eq_true rfl), (Nat.le_of_ble_eq_true rfl)⟩) ⟨Wd.blind, va_recv hK hPc (ci := 11) (q0 := 0) rfl rfl, fun U hU hW => ⟨rfl, Wd.call hPc hDc hK hC hZ hS hFc U hU hW⟩⟩ rfl rfl hl.1 rfl (lv_room (Nat.le_of_ble_eq_true rfl)) dX10_pass_33 ⟨(Nat.le_of_ble_eq_true rfl), (Nat.le_of_ble_eq_true rfl)⟩) hS (fun q _ h => hFc q h) hFc (fun u t H1 locs ht hvm hw hB hz1 hk1 hS => ?_)
      obtain ⟨qn16, fn17, fn18, hn19, hn20, hP1, hD1⟩ := hB
      rw [ht] at hP1
      obtain ⟨hP, hD⟩ := PDq.join (w := [(v31, .inl (cA 0, 400, .inl fc)), (v33, .inl (cA 0, 11, .inl fq)), (v35, .inl (cA 4, 400, .inl fk)), (v36, .inl (cA 0, 10, .inl fo)), (oX10 w0 v0 v1 v2 v3 v4 g5 g6 (nI qn16) 0 v9 (nI nb) g11 g12 v13 g14 g15 g16 g17 g18 g19 g20 g21 g22 g23 g24 g25 g26 v27 v28 v29 v30 v31 v32 v33 v34 v35 v36 v37 (nI ol)), (v0, .inl (cA 0, 326, .inl fs)), (v3, .inl (cA 0, 3260, .inl fn17)), (v4, .inl (cA 1, 10, .inr (.inl fn18)))]) 4 hP hD [7, 0, 1, 2] [3, 4, 5, 6] rfl rfl (by decide) (by decide) hk1 hFc hP1 hD1 rfl
      generalize H1 = H at hP hS ⊢
      refine lv_aload_n hx hb dX10_pass_36 rfl (lv_at hl 0 rfl) ?_
      refine va_get (D := D) (ci := 11) (v := .ref v0) (C := RX10) (T := TX10) (N := 39) hx hb hts inX10 hown hK hP 4 rfl rfl 0 (by decide) (hts (.fieldLink RX10 7 "EscrowDeskModel" "s" "[I") (by decide +kernel)) (fun _ h9 => h9) rfl dX10_pass_37 ?_
      refine lv_bipush (v := 10) hx hb dX10_pass_40 (by decide) ?_
      refine va_iald hx hb hK hP 5 0 rfl rfl (vp_in_iff.mpr (by decide)) dX10_pass_42 ?_
      refine lv_topi (fun yn21 eyn21 => ?_)
      refine lv_istore_n (lv' := [(2, .int yn21), (0, .ref w0), (1, .int (nI kn3))]) hx hb dX10_pass_43 rfl hl (by decide) rfl (fun ls hl => ?_)
      refine lv_aload_n hx hb dX10_pass_44 rfl (lv_at hl 1 rfl) ?_
      refine lv_iload_n hx hb dX10_pass_45 rfl (lv_at hl 2 rfl) ?_
      obtain ⟨hPc, hDc, hFc⟩ := PDq.cut (wc := [(oX10 w0 v0 v1 v2 v3 v4 g5 g6 (nI qn16) 0 v9 (nI nb) g11 g12 v13 g14 g15 g16 g17 g18 g19 g20 g21 g22 g23 g24 g25 g26 v27 v28 v29 v30 v31 v32 v33 v34 v35 v36 v37 (nI ol)), (v0, .inl (cA 0, 326, .inl fs)), (v31, .inl (cA 0, 400, .inl fc)), (v33, .inl (cA 0, 11, .inl fq)), (v35, .inl (cA 4, 400, .inl fk)), (v36, .inl (cA 0, 10, .inl fo))]) hP hD hS hA [4, 5, 0, 1, 2, 3] (by decide) rfl
      refine va_callv (va_runV (As := [.int (nI kn3)]) (rest := []) ⟨hx, hb, hml, hown, hts⟩ (r_passDays l D cA sa w0 qn16 nb ol v0 v1 v2 v3 v4 v9 v13 v27 v28 v29 v30 v31 v32 v33 v34 v35 v36 v37 0 g11 g12 g14 g15 g16 g17 g18 g19 g20 g21 g22 g23 g24 g26 g5 g6 g25 cn pq en dy fs fc fq fk fo kn3 H.size hcn hpq hen hdy hri hCW hbit hord (by omega) (by omega)) (cwV 1 hts gX10_pass_X10_passDays rfl rfl rfl (by decide +kernel) ⟨(Nat.le_of_ble_eq_true rfl), (Nat.le_of_ble_eq_true rfl)⟩) ⟨Wd.blind, va_recv hK hPc (ci := 11) (q0 := 0) rfl rfl, fun U hU hW => ⟨rfl, Wd.call hPc hDc hK hC hZ hS hFc U hU hW⟩⟩ rfl rfl hl.1 rfl (lv_room (Nat.le_of_ble_eq_true rfl)) dX10_pass_46 ⟨(Nat.le_of_ble_eq_true rfl), (Nat.le_of_ble_eq_true rfl)⟩) hS (fun q _ h => hFc q h) hFc (fun u t H1 locs ht hvm hw hB hz1 hk1 hS => ?_)
      obtain ⟨qn22, qn23, zn24, zn25, zn26, zn27, zn28, zn29, zn30, zn31, zn32, zn33, zn34, zn35, zn36, zn37, zn38, zn39, fn40, fn41, fn42, hn43, hn44, hn45, hn46, hn47, hP1, hD1⟩ := hB
      rw [ht] at hP1
      obtain ⟨hP, hD⟩ := PDq.join (w := [(v3, .inl (cA 0, 3260, .inl fn17)), (v4, .inl (cA 1, 10, .inr (.inl fn18))), (oX10 w0 v0 v1 v2 v3 v4 zn37 zn38 (nI qn16) zn24 v9 (nI nb) g11 g12 v13 zn25 zn26 zn27 zn28 zn29 zn30 zn31 zn32 zn33 zn34 zn35 zn39 zn36 v27 v28 v29 v30 v31 v32 v33 v34 v35 v36 v37 (nI ol)), (v0, .inl (cA 0, 326, .inl fn40)), (v31, .inl (cA 0, 400, .inl fc)), (v33, .inl (cA 0, 11, .inl fq)), (v35, .inl (cA 4, 400, .inl fn41)), (v36, .inl (cA 0, 10, .inl fn42))]) 2 hP hD [4, 5, 0, 1, 2, 3] [6, 7] rfl rfl (by decide) (by decide) hk1 hFc hP1 hD1 rfl
      generalize H1 = H at hP hS ⊢
      refine lv_aload_n hx hb dX10_pass_49 rfl (lv_at hl 1 rfl) ?_
      refine va_get (D := D) (ci := 11) (v := .ref v0) (C := RX10) (T := TX10) (N := 39) hx hb hts inX10 hown hK hP 2 rfl rfl 0 (by decide) (hts (.fieldLink RX10 7 "EscrowDeskModel" "s" "[I") (by decide +kernel)) (fun _ h9 => h9) rfl dX10_pass_50 ?_
      refine lv_bipush (v := 10) hx hb dX10_pass_53 (by decide) ?_
      refine va_iald hx hb hK hP 3 0 rfl rfl (vp_in_iff.mpr (by decide)) dX10_pass_55 ?_
      refine lv_topi (fun yn48 eyn48 => ?_)
      refine lv_iload_n hx hb dX10_pass_56 rfl (lv_at hl 0 rfl) ?_
      refine lv_isub hx hb dX10_pass_57 ?_
      refine lv_topi (fun yn49 eyn49 => ?_)
      obtain ⟨hP9, hD9⟩ := PDq.sub (ws' := [(oX10 w0 v0 v1 v2 v3 v4 zn37 zn38 (nI qn16) zn24 v9 (nI nb) g11 g12 v13 zn25 zn26 zn27 zn28 zn29 zn30 zn31 zn32 zn33 zn34 zn35 zn39 zn36 v27 v28 v29 v30 v31 v32 v33 v34 v35 v36 v37 (nI ol)), (v0, .inl (cA 0, 326, .inl fn40)), (v3, .inl (cA 0, 3260, .inl fn17)), (v4, .inl (cA 1, 10, .inr (.inl fn18))), (v31, .inl (cA 0, 400, .inl fc)), (v33, .inl (cA 0, 11, .inl fq)), (v35, .inl (cA 4, 400, .inl fn41)), (v36, .inl (cA 0, 10, .inl fn42))]) hP hD [2, 3, 0, 1, 4, 5, 6, 7] (by decide) rfl
      refine W.widen (k := 0) (n := 0) (Nat.le_of_ble_eq_true rfl) (Nat.le_of_ble_eq_true rfl) ?_
      exact (W.iret (v := yn49) hx hb hr (fun t ht hW => ⟨⟨yn49, (), rfl, trivial, qn16, qn22, zn24, zn25, zn26, zn27, zn28, zn29, zn30, zn31, zn32, zn33, zn34, zn35, zn36, zn37, zn38, zn39, fn40, fn17, fn18, qn23, fn41, fn42, hn19, hn20, hn43, hn44, hn45, hn46, (by omega), by rw [ht]; exact hP9, hD9⟩, hS.F ht⟩) hS.2.2 dX10_pass_58)
  · skip
    subst hr9
    refine lv_aload_n hx hb dX10_pass_5 rfl (lv_at hl 0 rfl) ?_
    refine va_get (D := D) (ci := 11) (v := .ref v0) (C := RX10) (T := TX10) (N := 39) hx hb hts inX10 hown hK hP 0 rfl rfl 0 (by decide) (hts (.fieldLink RX10 7 "EscrowDeskModel" "s" "[I") (by decide +kernel)) (fun _ h9 => h9) rfl dX10_pass_6 ?_
    refine lv_iconst (v := 4) hx hb dX10_pass_9 (by decide) ?_
    refine va_iald hx hb hK hP 1 0 rfl rfl (vp_in_iff.mpr (by decide)) dX10_pass_10 ?_
    refine lv_topi (fun yn50 eyn50 => ?_)
    obtain rfl : yn50 = (nI dy) := eyn50.trans hri.2.2.2.1
    refine lv_iload_n hx hb dX10_pass_11 rfl (lv_at hl 1 rfl) ?_
    refine lv_iadd hx hb dX10_pass_12 ?_
    refine lv_topi (fun yn51 eyn51 => ?_)
    refine lv_sipush (v := 9999) hx hb dX10_pass_13 (by decide) ?_
    refine lv_icmp_gt (tgt := 23) hx hb dX10_pass_16 (by decide) (fun c52 => ?_) (fun c52 => ?_)
    · skip
      refine lv_iconst (v := 0) hx hb dX10_pass_23 (by decide) ?_
      obtain ⟨hPc, hDc, hFc⟩ := PDq.cut (wc := [(oX10 w0 v0 v1 v2 v3 v4 g5 g6 (nI ed) g8 v9 (nI nb) g11 g12 v13 g14 g15 g16 g17 g18 g19 g20 g21 g22 g23 g24 g25 g26 v27 v28 v29 v30 v31 v32 v33 v34 v35 v36 v37 (nI ol))]) hP hD hS hA [0] (by decide) rfl
      refine va_calli (va_runV (As := [.int 0, .int 0]) (rest := []) ⟨hx, hb, hml, hown, hts⟩ (r_good_00 l D cA sa w0 ed nb ol v0 v1 v2 v3 v4 v9 v13 v27 v28 v29 v30 v31 v32 v33 v34 v35 v36 v37 g8 g11 g12 g14 g15 g16 g17 g18 g19 g20 g21 g22 g23 g24 g26 g5 g6 g25 H.size) (cwV 2 hts gX10_pass_X10_good_ rfl rfl rfl (by decide +kernel) ⟨(Nat.le_of_ble_eq_true rfl), (Nat.le_of_ble_eq_true rfl)⟩) ⟨Wd.blind, va_recv hK hPc (ci := 11) (q0 := 0) rfl rfl, fun U hU hW => ⟨rfl, Wd.call hPc hDc hK hC hZ hS hFc U hU hW⟩⟩ rfl rfl hl.1 rfl (lv_room (Nat.le_of_ble_eq_true rfl)) dX10_pass_24 ⟨(Nat.le_of_ble_eq_true rfl), (Nat.le_of_ble_eq_true rfl)⟩) hS (fun q _ h => hFc q h) hFc (fun rn53 u t H1 locs ht hvm hw hB hz1 hk1 hS => ?_)
      obtain ⟨hP1, hD1⟩ := hB
      rw [ht] at hP1
      obtain ⟨hP, hD⟩ := PDq.join (w := [(v0, .inl (cA 0, 326, .inl fs)), (v3, .inl (cA 0, 3260, .inl fh)), (v4, .inl (cA 1, 10, .inr (.inl fl))), (v31, .inl (cA 0, 400, .inl fc)), (v33, .inl (cA 0, 11, .inl fq)), (v35, .inl (cA 4, 400, .inl fk)), (v36, .inl (cA 0, 10, .inl fo)), (oX10 w0 v0 v1 v2 v3 v4 g5 g6 (nI ed) 1 v9 (nI nb) g11 g12 v13 g14 g15 g16 g17 g18 g19 g20 g21 g22 g23 g24 g25 g26 v27 v28 v29 v30 v31 v32 v33 v34 v35 v36 v37 (nI ol))]) 7 hP hD [0] [1, 2, 3, 4, 5, 6, 7] rfl rfl (by decide) (by decide) hk1 hFc hP1 hD1 rfl
      generalize H1 = H at hP hS ⊢
      obtain rfl : rn53 = 0 := hw
      refine lv_if_ne (tgt := 32) hx hb dX10_pass_27 (by decide) (fun c9 => absurd c9 (by decide)) (fun c54 => ?_)
      refine lv_iconst (v := 0) hx hb dX10_pass_30 (by decide) ?_
      obtain ⟨hP9, hD9⟩ := PDq.sub (ws' := [(oX10 w0 v0 v1 v2 v3 v4 g5 g6 (nI ed) 1 v9 (nI nb) g11 g12 v13 g14 g15 g16 g17 g18 g19 g20 g21 g22 g23 g24 g25 g26 v27 v28 v29 v30 v31 v32 v33 v34 v35 v36 v37 (nI ol)), (v0, .inl (cA 0, 326, .inl fs)), (v3, .inl (cA 0, 3260, .inl fh)), (v4, .inl (cA 1, 10, .inr (.inl fl))), (v31, .inl (cA 0, 400, .inl fc)), (v33, .inl (cA 0, 11, .inl fq)), (v35, .inl (cA 4, 400, .inl fk)), (v36, .inl (cA 0, 10, .inl fo))]) hP hD [7, 0, 1, 2, 3, 4, 5, 6] (by decide) rfl
      refine W.widen (k := 0) (n := 0) (Nat.le_of_ble_eq_true rfl) (Nat.le_of_ble_eq_true rfl) ?_
      exact (W.iret (v := 0) hx hb hr (fun t ht hW => ⟨⟨0, (), rfl, trivial, ed, en, 1, g14, g15, g16, g17, g18, g19, g20, g21, g22, g23, g24, g26, g5, g6, g25, fs, fh, fl, dy, fk, fo, hed, hHI, hen, hri, hbit, hord, hd9, by rw [ht]; exact hP9, hD9⟩, hS.F ht⟩) hS.2.2 dX10_pass_31)
    · skip
      refine lv_iconst (v := 1) hx hb dX10_pass_19 (by decide) ?_
      refine lv_goto (tgt := 24) hx hb dX10_pass_20 (by decide) ?_
      obtain ⟨hPc, hDc, hFc⟩ := PDq.cut (wc := [(oX10 w0 v0 v1 v2 v3 v4 g5 g6 (nI ed) g8 v9 (nI nb) g11 g12 v13 g14 g15 g16 g17 g18 g19 g20 g21 g22 g23 g24 g25 g26 v27 v28 v29 v30 v31 v32 v33 v34 v35 v36 v37 (nI ol))]) hP hD hS hA [0] (by decide) rfl
      refine va_calli (va_runV (As := [.int 0, .int 1]) (rest := []) ⟨hx, hb, hml, hown, hts⟩ (r_good_01 l D cA sa w0 ed nb ol v0 v1 v2 v3 v4 v9 v13 v27 v28 v29 v30 v31 v32 v33 v34 v35 v36 v37 g8 g11 g12 g14 g15 g16 g17 g18 g19 g20 g21 g22 g23 g24 g26 g5 g6 g25 H.size) (cwV 2 hts gX10_pass_X10_good_ rfl rfl rfl (by decide +kernel) ⟨(Nat.le_of_ble_eq_true rfl), (Nat.le_of_ble_eq_true rfl)⟩) ⟨Wd.blind, va_recv hK hPc (ci := 11) (q0 := 0) rfl rfl, fun U hU hW => ⟨rfl, Wd.call hPc hDc hK hC hZ hS hFc U hU hW⟩⟩ rfl rfl hl.1 rfl (lv_room (Nat.le_of_ble_eq_true rfl)) dX10_pass_24 ⟨(Nat.le_of_ble_eq_true rfl), (Nat.le_of_ble_eq_true rfl)⟩) hS (fun q _ h => hFc q h) hFc (fun rn55 u t H1 locs ht hvm hw hB hz1 hk1 hS => ?_)
      obtain ⟨hP1, hD1⟩ := hB
      rw [ht] at hP1
      obtain ⟨hP, hD⟩ := PDq.join (w := [(v0, .inl (cA 0, 326, .inl fs)), (v3, .inl (cA 0, 3260, .inl fh)), (v4, .inl (cA 1, 10, .inr (.inl fl))), (v31, .inl (cA 0, 400, .inl fc)), (v33, .inl (cA 0, 11, .inl fq)), (v35, .inl (cA 4, 400, .inl fk)), (v36, .inl (cA 0, 10, .inl fo)), (oX10 w0 v0 v1 v2 v3 v4 g5 g6 (nI ed) 1 v9 (nI nb) g11 g12 v13 g14 g15 g16 g17 g18 g19 g20 g21 g22 g23 g24 g25 g26 v27 v28 v29 v30 v31 v32 v33 v34 v35 v36 v37 (nI ol))]) 7 hP hD [0] [1, 2, 3, 4, 5, 6, 7] rfl rfl (by decide) (by decide) hk1 hFc hP1 hD1 rfl
      generalize H1 = H at hP hS ⊢
      obtain rfl : rn55 = 0 := hw
      refine lv_if_ne (tgt := 32) hx hb dX10_pass_27 (by decide) (fun c9 => absurd c9 (by decide)) (fun c56 => ?_)
      refine lv_iconst (v := 0) hx hb dX10_pass_30 (by decide) ?_
      obtain ⟨hP9, hD9⟩ := PDq.sub (ws' := [(oX10 w0 v0 v1 v2 v3 v4 g5 g6 (nI ed) 1 v9 (nI nb) g11 g12 v13 g14 g15 g16 g17 g18 g19 g20 g21 g22 g23 g24 g25 g26 v27 v28 v29 v30 v31 v32 v33 v34 v35 v36 v37 (nI ol)), (v0, .inl (cA 0, 326, .inl fs)), (v3, .inl (cA 0, 3260, .inl fh)), (v4, .inl (cA 1, 10, .inr (.inl fl))), (v31, .inl (cA 0, 400, .inl fc)), (v33, .inl (cA 0, 11, .inl fq)), (v35, .inl (cA 4, 400, .inl fk)), (v36, .inl (cA 0, 10, .inl fo))]) hP hD [7, 0, 1, 2, 3, 4, 5, 6] (by decide) rfl
      refine W.widen (k := 0) (n := 0) (Nat.le_of_ble_eq_true rfl) (Nat.le_of_ble_eq_true rfl) ?_
      exact (W.iret (v := 0) hx hb hr (fun t ht hW => ⟨⟨0, (), rfl, trivial, ed, en, 1, g14, g15, g16, g17, g18, g19, g20, g21, g22, g23, g24, g26, g5, g6, g25, fs, fh, fl, dy, fk, fo, hed, hHI, hen, hri, hbit, hord, hd9, by rw [ht]; exact hP9, hD9⟩, hS.F ht⟩) hS.2.2 dX10_pass_31)

set_option maxHeartbeats 4000000 in
set_option maxRecDepth 100000 in
/-- reference: countBits -/
theorem r_countBits (l : Launch) (D : va_G) (cA : Nat → ClassId) (sa : Nat → Nat) (a : Int32) (sz : Nat) : Met l yX10_countBits wsX10_countBits ({ frames := 0, cells := 0, slots := 0, locals := 0 }) (va_Pc [.int a] (Wd D cA sa [] sz)) (va_Qi (fun (r : Int32) (_ : Unit) => True) (fun (_ : Unit) t => Wq D (va_A [] sz) [] t) (va_A [] sz)) 0 0 (va_A [] sz) := by
  refine Met.ofW (cc := cX10_countBits) (maxL := 3) (ret := (some .int)) (by decide) rfl ?_
  intro p e s m args below meth c s₁ B hml hv
  obtain ⟨rfl, hsz, hP, hK, hD0, hC, hZ⟩ := hv
  have hx := B.exec
  have hb := B.bytes
  have hr := B.returns
  have hts := atoms_spec (ws := wsX10_countBits) B.pre
  have hown : s.vm.findClass RX10 = some m.cls := findClass_of_methodNamed B.named
  have hlocks := B.notSynchronized
  subst hsz
  have hD := hD0.self (sz := s.heap.size)
  generalize hAe : va_A [] s.heap.size = A at hD hZ ⊢
  have hA : ∀ q : Nat, s.heap.size ≤ q → A q := fun q h => by rw [← hAe]; exact Or.inr h
  have hS : va_S A s.heap s.heap [] := va_S.rf
  have hP : va_P D vwCl [] s.heap := hP
  have hl := lv_entry ([.int a]) (n := 3) (Nat.le_of_ble_eq_true rfl)
  rw [lg_entry_eq]
  generalize (lg_sl ([.int a]) ++ List.replicate (3 - (lg_sl ([.int a])).length) Slot.unset).toArray = ls at hl ⊢
  have hl : lv_has ls 3 [(0, .int a)] := hl
  refine lv_iconst (v := 0) hx hb dX10_countBits_0 (by decide) ?_
  refine lv_istore_n (lv' := [(1, .int 0), (0, .int a)]) hx hb dX10_countBits_1 rfl hl (by decide) rfl (fun ls hl => ?_)
  refine lv_iload_n hx hb dX10_countBits_2 rfl (lv_at hl 1 rfl) ?_
  refine lv_istore_n (lv' := [(2, .int a), (1, .int 0), (0, .int a)]) hx hb dX10_countBits_3 rfl hl (by decide) rfl (fun ls hl => ?_)
  have loop : ∀ (n : Nat) (x9 y9 : Int32) (H : Heap) (locs : List Loc) (ls : Array Slot), x9.toBitVec.toNat ≤ n → va_P D vwCl [] H → va_D A [] → va_S A s.heap H locs → lv_has ls 3 [(2, .int x9), (1, .int y9), (0, .int a)] → W p l e (headSpec wsX10_countBits ({ frames := 0, cells := 0, slots := 0, locals := 0 } : Room)).room s m ([.int a] : List Value).toArray below meth c H locs 0 0 (MQ below (va_Qi (fun (r : Int32) (_ : Unit) => True) (fun (_ : Unit) t => Wq D A [] t) A) ([.int a] : List Value).toArray s 0 0 A) (F0 m 4 ls []) := by
    intro n
    induction n with
    | zero =>
      intro x9 y9 H locs ls hn hP hD hS hl
      refine lv_iload_n hx hb dX10_countBits_4 rfl (lv_at hl 0 rfl) ?_
      refine lv_if_eq (tgt := 20) hx hb dX10_countBits_5 (by decide) (fun c1 => ?_) (fun c9 => absurd c9 (fun h9 => h9 (cb_z hn)))
      refine lv_iload_n hx hb dX10_countBits_20 rfl (lv_at hl 1 rfl) ?_
      obtain ⟨hP9, hD9⟩ := PDq.sub (ws' := []) hP hD [] (by decide) rfl
      refine W.widen (k := 0) (n := 0) (Nat.le_of_ble_eq_true rfl) (Nat.le_of_ble_eq_true rfl) ?_
      exact (W.iret (v := y9) hx hb hr (fun t ht hW => ⟨⟨y9, (), rfl, trivial, by rw [ht]; exact hP9, hD9⟩, hS.F ht⟩) hS.2.2 dX10_countBits_21)
    | succ n ih =>
      intro x9 y9 H locs ls hn hP hD hS hl
      refine lv_iload_n hx hb dX10_countBits_4 rfl (lv_at hl 0 rfl) ?_
      refine lv_if_eq (tgt := 20) hx hb dX10_countBits_5 (by decide) (fun c2 => ?_) (fun c2 => ?_)
      · skip
        rw [c2] at hl
        have hl : lv_has ls 3 [(2, .int 0), (1, .int y9), (0, .int a)] := hl
        refine lv_iload_n hx hb dX10_countBits_20 rfl (lv_at hl 1 rfl) ?_
        obtain ⟨hP9, hD9⟩ := PDq.sub (ws' := []) hP hD [] (by decide) rfl
        refine W.widen (k := 0) (n := 0) (Nat.le_of_ble_eq_true rfl) (Nat.le_of_ble_eq_true rfl) ?_
        exact (W.iret (v := y9) hx hb hr (fun t ht hW => ⟨⟨y9, (), rfl, trivial, by rw [ht]; exact hP9, hD9⟩, hS.F ht⟩) hS.2.2 dX10_countBits_21)
      · skip
        refine lv_iinc (v := (y9 + 1)) (lv' := [(1, .int (y9 + 1)), (2, .int x9), (0, .int a)]) hx hb dX10_countBits_8 hl (k := 1) rfl rfl (by decide) rfl (fun ls hl => ?_)
        refine lv_iload_n hx hb dX10_countBits_11 rfl (lv_at hl 1 rfl) ?_
        refine lv_iload_n hx hb dX10_countBits_12 rfl (lv_at hl 1 rfl) ?_
        refine lv_iconst (v := 1) hx hb dX10_countBits_13 (by decide) ?_
        refine lv_isub hx hb dX10_countBits_14 ?_
        refine lv_topi (fun yn3 eyn3 => ?_)
        refine lv_iand hx hb dX10_countBits_15 ?_
        refine lv_topi (fun yn4 eyn4 => ?_)
        refine lv_istore_n (lv' := [(2, .int yn4), (1, .int (y9 + 1)), (0, .int a)]) hx hb dX10_countBits_16 rfl hl (by decide) rfl (fun ls hl => ?_)
        refine lv_goto (tgt := 4) hx hb dX10_countBits_17 (by decide) ?_
        exact ih yn4 (y9 + 1) H _ ls (by rw [eyn4, eyn3]; exact cb_lt c2 hn) (hP.sub [] rfl) (hD.sub [] (by decide) rfl) hS (lv_sub hl [0, 1, 2] rfl)
  exact loop _ a 0 _ _ ls (Nat.le_refl _) (hP.sub [] rfl) (hD.sub [] (by decide) rfl) hS (lv_sub hl [0, 1, 2] rfl)

set_option maxHeartbeats 4000000 in
set_option maxRecDepth 100000 in
/-- reference: missingProofs -/
theorem r_missingProofs (l : Launch) (D : va_G) (cA : Nat → ClassId) (sa : Nat → Nat) (w0 : Nat) (ed : Nat) (nb : Nat) (ol : Nat) (v0 : Nat) (v1 : Nat) (v2 : Nat) (v3 : Nat) (v4 : Nat) (v9 : Nat) (v13 : Nat) (v27 : Nat) (v28 : Nat) (v29 : Nat) (v30 : Nat) (v31 : Nat) (v32 : Nat) (v33 : Nat) (v34 : Nat) (v35 : Nat) (v36 : Nat) (v37 : Nat) (g8 : Int32) (g11 : Int32) (g12 : Int32) (g14 : Int32) (g15 : Int32) (g16 : Int32) (g17 : Int32) (g18 : Int32) (g19 : Int32) (g20 : Int32) (g21 : Int32) (g22 : Int32) (g23 : Int32) (g24 : Int32) (g26 : Int32) (g5 : Int64) (g6 : Int64) (g25 : Int64) (cn : Nat) (pq : Nat) (en : Nat) (dy : Nat) (fs : Nat → Int32) (fc : Nat → Int32) (fq : Nat → Int32) (fk : Nat → Int32) (i : Int32) (sz : Nat) (hcn : cn ≤ 10) (hpq : pq ≤ 8) (hen : en ≤ 60) (hdy : dy ≤ 20000) (hri : RI cn pq en dy fs) (hCW : CW cn fc fq) (hbit : Bit 400 fk) : Met l yX10_missingProofs wsX10_missingProofs ({ frames := 3, cells := 0, slots := 0, locals := 75 }) (va_Pc [.ref w0, .int i] (Wd D cA sa [(oX10 w0 v0 v1 v2 v3 v4 g5 g6 (nI ed) g8 v9 (nI nb) g11 g12 v13 g14 g15 g16 g17 g18 g19 g20 g21 g22 g23 g24 g25 g26 v27 v28 v29 v30 v31 v32 v33 v34 v35 v36 v37 (nI ol)), (v0, .inl (cA 0, 326, .inl fs)), (v31, .inl (cA 0, 400, .inl fc)), (v33, .inl (cA 0, 11, .inl fq)), (v35, .inl (cA 4, 400, .inl fk))] sz)) (va_Qi (fun (r : Int32) (_ : Unit) => True) (fun (_ : Unit) t => ∃ zt : Int32, ∃ zk : Nat → Int32, Bit 400 zk ∧ Wq D (va_A [(oX10 w0 v0 v1 v2 v3 v4 g5 g6 (nI ed) g8 v9 (nI nb) g11 g12 v13 g14 g15 g16 g17 g18 g19 g20 g21 g22 g23 g24 g25 g26 v27 v28 v29 v30 v31 v32 v33 v34 v35 v36 v37 (nI ol)), (v0, .inl (cA 0, 326, .inl fs)), (v31, .inl (cA 0, 400, .inl fc)), (v33, .inl (cA 0, 11, .inl fq)), (v35, .inl (cA 4, 400, .inl fk))] sz) [(oX10 w0 v0 v1 v2 v3 v4 g5 g6 (nI ed) zt v9 (nI nb) g11 g12 v13 g14 g15 g16 g17 g18 g19 g20 g21 g22 g23 g24 g25 g26 v27 v28 v29 v30 v31 v32 v33 v34 v35 v36 v37 (nI ol)), (v0, .inl (cA 0, 326, .inl fs)), (v31, .inl (cA 0, 400, .inl fc)), (v33, .inl (cA 0, 11, .inl fq)), (v35, .inl (cA 4, 400, .inl zk))] t) (va_A [(oX10 w0 v0 v1 v2 v3 v4 g5 g6 (nI ed) g8 v9 (nI nb) g11 g12 v13 g14 g15 g16 g17 g18 g19 g20 g21 g22 g23 g24 g25 g26 v27 v28 v29 v30 v31 v32 v33 v34 v35 v36 v37 (nI ol)), (v0, .inl (cA 0, 326, .inl fs)), (v31, .inl (cA 0, 400, .inl fc)), (v33, .inl (cA 0, 11, .inl fq)), (v35, .inl (cA 4, 400, .inl fk))] sz)) 0 0 (va_A [(oX10 w0 v0 v1 v2 v3 v4 g5 g6 (nI ed) g8 v9 (nI nb) g11 g12 v13 g14 g15 g16 g17 g18 g19 g20 g21 g22 g23 g24 g25 g26 v27 v28 v29 v30 v31 v32 v33 v34 v35 v36 v37 (nI ol)), (v0, .inl (cA 0, 326, .inl fs)), (v31, .inl (cA 0, 400, .inl fc)), (v33, .inl (cA 0, 11, .inl fq)), (v35, .inl (cA 4, 400, .inl fk))] sz) := by
  refine Met.ofW (cc := cX10_missingProofs) (maxL := 7) (ret := (some .int)) (by decide) rfl ?_
  intro p e s m args below meth c s₁ B hml hv
  obtain ⟨rfl, hsz, hP, hK, hD0, hC, hZ⟩ := hv
  have hx := B.exec
  have hb := B.bytes
  have hr := B.returns
  have hts := atoms_spec (ws := wsX10_missingProofs) B.pre
  have hown : s.vm.findClass RX10 = some m.cls := findClass_of_methodNamed B.named
  have hlocks := B.notSynchronized
  subst hsz
  have hD := hD0.self (sz := s.heap.size)
  generalize hAe : va_A [(oX10 w0 v0 v1 v2 v3 v4 g5 g6 (nI ed) g8 v9 (nI nb) g11 g12 v13 g14 g15 g16 g17 g18 g19 g20 g21 g22 g23 g24 g25 g26 v27 v28 v29 v30 v31 v32 v33 v34 v35 v36 v37 (nI ol)), (v0, .inl (cA 0, 326, .inl fs)), (v31, .inl (cA 0, 400, .inl fc)), (v33, .inl (cA 0, 11, .inl fq)), (v35, .inl (cA 4, 400, .inl fk))] s.heap.size = A at hD hZ ⊢
  have hA : ∀ q : Nat, s.heap.size ≤ q → A q := fun q h => by rw [← hAe]; exact Or.inr h
  have hS : va_S A s.heap s.heap [] := va_S.rf
  have hP : va_P D vwCl [(oX10 w0 v0 v1 v2 v3 v4 g5 g6 (nI ed) g8 v9 (nI nb) g11 g12 v13 g14 g15 g16 g17 g18 g19 g20 g21 g22 g23 g24 g25 g26 v27 v28 v29 v30 v31 v32 v33 v34 v35 v36 v37 (nI ol)), (v0, .inl (cA 0, 326, .inl fs)), (v31, .inl (cA 0, 400, .inl fc)), (v33, .inl (cA 0, 11, .inl fq)), (v35, .inl (cA 4, 400, .inl fk))] s.heap := hP
  have hl := lv_entry ([.ref w0, .int i]) (n := 7) (Nat.le_of_ble_eq_true rfl)
  rw [lg_entry_eq]
  generalize (lg_sl ([.ref w0, .int i]) ++ List.replicate (7 - (lg_sl ([.ref w0, .int i])).length) Slot.unset).toArray = ls at hl ⊢
  have hl : lv_has ls 7 [(0, .ref w0), (1, .int i)] := hl
  have inX10 : ∀ w ∈ u_ws RX10 TX10 39, w ∈ wsX10_missingProofs := by decide +kernel
  refine lv_aload_n hx hb dX10_missingProofs_0 rfl (lv_at hl 0 rfl) ?_
  refine lv_aload_n hx hb dX10_missingProofs_1 rfl (lv_at hl 0 rfl) ?_
  refine lv_iload_n hx hb dX10_missingProofs_2 rfl (lv_at hl 1 rfl) ?_
  obtain ⟨hPc, hDc, hFc⟩ := PDq.cut (wc := [(oX10 w0 v0 v1 v2 v3 v4 g5 g6 (nI ed) g8 v9 (nI nb) g11 g12 v13 g14 g15 g16 g17 g18 g19 g20 g21 g22 g23 g24 g25 g26 v27 v28 v29 v30 v31 v32 v33 v34 v35 v36 v37 (nI ol)), (v0, .inl (cA 0, 326, .inl fs))]) hP hD hS hA [0, 1] (by decide) rfl
  refine va_calli (va_runV (As := [.int i]) (rest := [.ref w0]) ⟨hx, hb, hml, hown, hts⟩ (r_isMilestone l D cA sa w0 ed nb ol v0 v1 v2 v3 v4 v9 v13 v27 v28 v29 v30 v31 v32 v33 v34 v35 v36 v37 g8 g11 g12 g14 g15 g16 g17 g18 g19 g20 g21 g22 g23 g24 g26 g5 g6 g25 cn pq en dy fs i s.heap.size hcn hpq hen hdy hri) (cwV 1 hts gX10_missingProofs_X10_isMilestone rfl rfl rfl (by decide +kernel) ⟨(Nat.le_of_ble_eq_true rfl), (Nat.le_of_ble_eq_true rfl)⟩) ⟨Wd.blind, va_recv hK hPc (ci := 11) (q0 := 0) rfl rfl, fun U hU hW => ⟨rfl, Wd.call hPc hDc hK hC hZ hS hFc U hU hW⟩⟩ rfl rfl hl.1 rfl (lv_room (Nat.le_of_ble_eq_true rfl)) dX10_missingProofs_3 ⟨(Nat.le_of_ble_eq_true rfl), (Nat.le_of_ble_eq_true rfl)⟩) hS (fun q _ h => hFc q h) hFc (fun rn1 u t H1 locs ht hvm hw hB hz1 hk1 hS => ?_)
  obtain ⟨hP1, hD1⟩ := hB
  rw [ht] at hP1
  obtain ⟨hP, hD⟩ := PDq.join (w := [(v31, .inl (cA 0, 400, .inl fc)), (v33, .inl (cA 0, 11, .inl fq)), (v35, .inl (cA 4, 400, .inl fk)), (oX10 w0 v0 v1 v2 v3 v4 g5 g6 (nI ed) g8 v9 (nI nb) g11 g12 v13 g14 g15 g16 g17 g18 g19 g20 g21 g22 g23 g24 g25 g26 v27 v28 v29 v30 v31 v32 v33 v34 v35 v36 v37 (nI ol)), (v0, .inl (cA 0, 326, .inl fs))]) 3 hP hD [0, 1] [2, 3, 4] rfl rfl (by decide) (by decide) hk1 hFc hP1 hD1 rfl
  generalize H1 = H at hP hS ⊢
  rcases hw with ⟨hr9, hn2⟩ | hr9
  · skip
    subst hr9
    obtain ⟨kn3, hn4, hn5⟩ := hn2
    rw [hn5] at hl
    have hl : lv_has ls 7 [(0, .ref w0), (1, .int (nI kn3))] := hl
    obtain ⟨hPc, hDc, hFc⟩ := PDq.cut (wc := [(oX10 w0 v0 v1 v2 v3 v4 g5 g6 (nI ed) g8 v9 (nI nb) g11 g12 v13 g14 g15 g16 g17 g18 g19 g20 g21 g22 g23 g24 g25 g26 v27 v28 v29 v30 v31 v32 v33 v34 v35 v36 v37 (nI ol))]) hP hD hS hA [3] (by decide) rfl
    refine va_calli (va_runV (As := [.int 1]) (rest := []) ⟨hx, hb, hml, hown, hts⟩ (r_good1 l D cA sa w0 ed nb ol v0 v1 v2 v3 v4 v9 v13 v27 v28 v29 v30 v31 v32 v33 v34 v35 v36 v37 g8 g11 g12 g14 g15 g16 g17 g18 g19 g20 g21 g22 g23 g24 g26 g5 g6 g25 H.size) (cwV 1 hts gX10_missingProofs_X10_good rfl rfl rfl (by decide +kernel) ⟨(Nat.le_of_ble_eq_true rfl), (Nat.le_of_ble_eq_true rfl)⟩) ⟨Wd.blind, va_recv hK hPc (ci := 11) (q0 := 0) rfl rfl, fun U hU hW => ⟨rfl, Wd.call hPc hDc hK hC hZ hS hFc U hU hW⟩⟩ rfl rfl hl.1 rfl (lv_room (Nat.le_of_ble_eq_true rfl)) dX10_missingProofs_6 ⟨(Nat.le_of_ble_eq_true rfl), (Nat.le_of_ble_eq_true rfl)⟩) hS (fun q _ h => hFc q h) hFc (fun rn6 u t H1 locs ht hvm hw hB hz1 hk1 hS => ?_)
    obtain ⟨hP1, hD1⟩ := hB
    rw [ht] at hP1
    obtain ⟨hP, hD⟩ := PDq.join (w := [(v31, .inl (cA 0, 400, .inl fc)), (v33, .inl (cA 0, 11, .inl fq)), (v35, .inl (cA 4, 400, .inl fk)), (v0, .inl (cA 0, 326, .inl fs)), (oX10 w0 v0 v1 v2 v3 v4 g5 g6 (nI ed) 0 v9 (nI nb) g11 g12 v13 g14 g15 g16 g17 g18 g19 g20 g21 g22 g23 g24 g25 g26 v27 v28 v29 v30 v31 v32 v33 v34 v35 v36 v37 (nI ol))]) 4 hP hD [3] [0, 1, 2, 4] rfl rfl (by decide) (by decide) hk1 hFc hP1 hD1 rfl
    generalize H1 = H at hP hS ⊢
    obtain rfl : rn6 = 1 := hw
    refine lv_if_ne (tgt := 14) hx hb dX10_missingProofs_9 (by decide) (fun c7 => ?_) (fun c9 => absurd c9 (by decide))
    refine lv_aload_n hx hb dX10_missingProofs_14 rfl (lv_at hl 0 rfl) ?_
    obtain ⟨hPc, hDc, hFc⟩ := PDq.cut (wc := [(oX10 w0 v0 v1 v2 v3 v4 g5 g6 (nI ed) 0 v9 (nI nb) g11 g12 v13 g14 g15 g16 g17 g18 g19 g20 g21 g22 g23 g24 g25 g26 v27 v28 v29 v30 v31 v32 v33 v34 v35 v36 v37 (nI ol)), (v0, .inl (cA 0, 326, .inl fs))]) hP hD hS hA [4, 3] (by decide) rfl
    refine va_calli (va_runV (As := []) (rest := []) ⟨hx, hb, hml, hown, hts⟩ (r_doneSet l D cA sa w0 ed nb ol v0 v1 v2 v3 v4 v9 v13 v27 v28 v29 v30 v31 v32 v33 v34 v35 v36 v37 0 g11 g12 g14 g15 g16 g17 g18 g19 g20 g21 g22 g23 g24 g26 g5 g6 g25 cn pq en dy fs H.size hcn hpq hen hdy hri) (cwV 0 hts gX10_missingProofs_X10_doneSet rfl rfl rfl (by decide +kernel) ⟨(Nat.le_of_ble_eq_true rfl), (Nat.le_of_ble_eq_true rfl)⟩) ⟨Wd.blind, va_recv hK hPc (ci := 11) (q0 := 0) rfl rfl, fun U hU hW => ⟨rfl, Wd.call hPc hDc hK hC hZ hS hFc U hU hW⟩⟩ rfl rfl hl.1 rfl (lv_room (Nat.le_of_ble_eq_true rfl)) dX10_missingProofs_15 ⟨(Nat.le_of_ble_eq_true rfl), (Nat.le_of_ble_eq_true rfl)⟩) hS (fun q _ h => hFc q h) hFc (fun rn8 u t H1 locs ht hvm hw hB hz1 hk1 hS => ?_)
    obtain ⟨hP1, hD1⟩ := hB
    rw [ht] at hP1
    obtain ⟨hP, hD⟩ := PDq.join (w := [(v31, .inl (cA 0, 400, .inl fc)), (v33, .inl (cA 0, 11, .inl fq)), (v35, .inl (cA 4, 400, .inl fk)), (oX10 w0 v0 v1 v2 v3 v4 g5 g6 (nI ed) 0 v9 (nI nb) g11 g12 v13 g14 g15 g16 g17 g18 g19 g20 g21 g22 g23 g24 g25 g26 v27 v28 v29 v30 v31 v32 v33 v34 v35 v36 v37 (nI ol)), (v0, .inl (cA 0, 326, .inl fs))]) 3 hP hD [4, 3] [0, 1, 2] rfl rfl (by decide) (by decide) hk1 hFc hP1 hD1 rfl
    generalize H1 = H at hP hS ⊢
    refine lv_istore_n (lv' := [(2, .int rn8), (0, .ref w0), (1, .int (nI kn3))]) hx hb dX10_missingProofs_18 rfl hl (by decide) rfl (fun ls hl => ?_)
    refine lv_iconst (v := (-1)) hx hb dX10_missingProofs_19 (by decide) ?_
    refine lv_istore_n (lv' := [(3, .int (-1)), (2, .int rn8), (0, .ref w0), (1, .int (nI kn3))]) hx hb dX10_missingProofs_20 rfl hl (by decide) rfl (fun ls hl => ?_)
    refine lv_iconst (v := 0) hx hb dX10_missingProofs_21 (by decide) ?_
    refine lv_istore (lv' := [(4, .int 0), (3, .int (-1)), (2, .int rn8), (0, .ref w0), (1, .int (nI kn3))]) hx hb dX10_missingProofs_22 hl (by decide) rfl (fun ls hl => ?_)
    have loop1 : ∀ (n1 i1 : Nat) (x3_1 : Int32) (f2_1 : Nat → Int32) (H : Heap) (locs : List Loc) (ls : Array Slot), i1 + n1 = 1025 → Bit 400 f2_1 → va_P D vwCl [(v31, .inl (cA 0, 400, .inl fc)), (v33, .inl (cA 0, 11, .inl fq)), (v35, .inl (cA 4, 400, .inl f2_1)), (oX10 w0 v0 v1 v2 v3 v4 g5 g6 (nI ed) 0 v9 (nI nb) g11 g12 v13 g14 g15 g16 g17 g18 g19 g20 g21 g22 g23 g24 g25 g26 v27 v28 v29 v30 v31 v32 v33 v34 v35 v36 v37 (nI ol)), (v0, .inl (cA 0, 326, .inl fs))] H → va_D A [(v31, .inl (cA 0, 400, .inl fc)), (v33, .inl (cA 0, 11, .inl fq)), (v35, .inl (cA 4, 400, .inl f2_1)), (oX10 w0 v0 v1 v2 v3 v4 g5 g6 (nI ed) 0 v9 (nI nb) g11 g12 v13 g14 g15 g16 g17 g18 g19 g20 g21 g22 g23 g24 g25 g26 v27 v28 v29 v30 v31 v32 v33 v34 v35 v36 v37 (nI ol)), (v0, .inl (cA 0, 326, .inl fs))] → va_S A s.heap H locs → lv_has ls 7 [(4, .int (nI i1)), (3, .int x3_1), (2, .int rn8), (0, .ref w0), (1, .int (nI kn3))] → W p l e (headSpec wsX10_missingProofs ({ frames := 3, cells := 0, slots := 0, locals := 75 } : Room)).room s m ([.ref w0, .int i] : List Value).toArray below meth c H locs 0 0 (MQ below (va_Qi (fun (r : Int32) (_ : Unit) => True) (fun (_ : Unit) t => ∃ zt : Int32, ∃ zk : Nat → Int32, Bit 400 zk ∧ Wq D A [(oX10 w0 v0 v1 v2 v3 v4 g5 g6 (nI ed) zt v9 (nI nb) g11 g12 v13 g14 g15 g16 g17 g18 g19 g20 g21 g22 g23 g24 g25 g26 v27 v28 v29 v30 v31 v32 v33 v34 v35 v36 v37 (nI ol)), (v0, .inl (cA 0, 326, .inl fs)), (v31, .inl (cA 0, 400, .inl fc)), (v33, .inl (cA 0, 11, .inl fq)), (v35, .inl (cA 4, 400, .inl zk))] t) A) ([.ref w0, .int i] : List Value).toArray s 0 0 A) (F0 m 24 ls []) := by
      intro n1
      induction n1 with
      | zero =>
        intro i1 x3_1 f2_1 H locs ls hi1 hf0_1 hP hD hS hl
        obtain rfl : 1025 = i1 := by omega
        refine lv_iload hx hb dX10_missingProofs_24 (lv_at hl 0 rfl) ?_
        refine lv_iconst (v := 1) hx hb dX10_missingProofs_26 (by decide) ?_
        refine lv_aload_n hx hb dX10_missingProofs_27 rfl (lv_at hl 3 rfl) ?_
        refine va_get (D := D) (ci := 11) (v := .ref v0) (C := RX10) (T := TX10) (N := 39) hx hb hts inX10 hown hK hP 3 rfl rfl 0 (by decide) (hts (.fieldLink RX10 7 "EscrowDeskModel" "s" "[I") (by decide +kernel)) (fun _ h9 => h9) rfl dX10_missingProofs_28 ?_
        refine lv_bipush (v := 14) hx hb dX10_missingProofs_31 (by decide) ?_
        refine va_iald hx hb hK hP 4 0 rfl rfl (vp_in_iff.mpr (by decide)) dX10_missingProofs_33 ?_
        refine lv_topi (fun yn9 eyn9 => ?_)
        obtain rfl : yn9 = (nI pq) := eyn9.trans hri.2.1
        obtain ⟨kn10, hn11, hn12⟩ := sh1 (q := pq) (by omega)
        refine lv_ishl hx hb dX10_missingProofs_34 ?_
        refine lv_topi (fun yn13 eyn13 => ?_)
        obtain rfl : yn13 = (nI kn10) := eyn13.trans hn12
        refine lv_icmp_ge (tgt := 126) hx hb dX10_missingProofs_35 (by decide) (fun c14 => ?_) (fun c9 => absurd (nI_le (a := kn10) (b := 1025) (show kn10 ≤ 1025 by omega) (by omega)) c9)
        refine lv_iload_n hx hb dX10_missingProofs_126 rfl (lv_at hl 1 rfl) ?_
        obtain ⟨hP9, hD9⟩ := PDq.sub (ws' := [(oX10 w0 v0 v1 v2 v3 v4 g5 g6 (nI ed) 0 v9 (nI nb) g11 g12 v13 g14 g15 g16 g17 g18 g19 g20 g21 g22 g23 g24 g25 g26 v27 v28 v29 v30 v31 v32 v33 v34 v35 v36 v37 (nI ol)), (v0, .inl (cA 0, 326, .inl fs)), (v31, .inl (cA 0, 400, .inl fc)), (v33, .inl (cA 0, 11, .inl fq)), (v35, .inl (cA 4, 400, .inl f2_1))]) hP hD [3, 4, 0, 1, 2] (by decide) rfl
        refine W.widen (k := 0) (n := 0) (Nat.le_of_ble_eq_true rfl) (Nat.le_of_ble_eq_true rfl) ?_
        exact (W.iret (v := x3_1) hx hb hr (fun t ht hW => ⟨⟨x3_1, (), rfl, trivial, 0, f2_1, hf0_1, by rw [ht]; exact hP9, hD9⟩, hS.F ht⟩) hS.2.2 dX10_missingProofs_127)
      | succ n1 ih1 =>
        intro i1 x3_1 f2_1 H locs ls hi1 hf0_1 hP hD hS hl
        refine lv_iload hx hb dX10_missingProofs_24 (lv_at hl 0 rfl) ?_
        refine lv_iconst (v := 1) hx hb dX10_missingProofs_26 (by decide) ?_
        refine lv_aload_n hx hb dX10_missingProofs_27 rfl (lv_at hl 3 rfl) ?_
        refine va_get (D := D) (ci := 11) (v := .ref v0) (C := RX10) (T := TX10) (N := 39) hx hb hts inX10 hown hK hP 3 rfl rfl 0 (by decide) (hts (.fieldLink RX10 7 "EscrowDeskModel" "s" "[I") (by decide +kernel)) (fun _ h9 => h9) rfl dX10_missingProofs_28 ?_
        refine lv_bipush (v := 14) hx hb dX10_missingProofs_31 (by decide) ?_
        refine va_iald hx hb hK hP 4 0 rfl rfl (vp_in_iff.mpr (by decide)) dX10_missingProofs_33 ?_
        refine lv_topi (fun yn15 eyn15 => ?_)
        obtain rfl : yn15 = (nI pq) := eyn15.trans hri.2.1
        obtain ⟨kn16, hn17, hn18⟩ := sh1 (q := pq) (by omega)
        refine lv_ishl hx hb dX10_missingProofs_34 ?_
        refine lv_topi (fun yn19 eyn19 => ?_)
        obtain rfl : yn19 = (nI kn16) := eyn19.trans hn18
        refine lv_icmp_ge (tgt := 126) hx hb dX10_missingProofs_35 (by decide) (fun c20 => ?_) (fun c20 => ?_)
        · skip
          have hn21 : kn16 ≤ i1 := (nI_leI (a := kn16) (b := i1) (by omega) (by omega)).mp c20
          refine lv_iload_n hx hb dX10_missingProofs_126 rfl (lv_at hl 1 rfl) ?_
          obtain ⟨hP9, hD9⟩ := PDq.sub (ws' := [(oX10 w0 v0 v1 v2 v3 v4 g5 g6 (nI ed) 0 v9 (nI nb) g11 g12 v13 g14 g15 g16 g17 g18 g19 g20 g21 g22 g23 g24 g25 g26 v27 v28 v29 v30 v31 v32 v33 v34 v35 v36 v37 (nI ol)), (v0, .inl (cA 0, 326, .inl fs)), (v31, .inl (cA 0, 400, .inl fc)), (v33, .inl (cA 0, 11, .inl fq)), (v35, .inl (cA 4, 400, .inl f2_1))]) hP hD [3, 4, 0, 1, 2] (by decide) rfl
          refine W.widen (k := 0) (n := 0) (Nat.le_of_ble_eq_true rfl) (Nat.le_of_ble_eq_true rfl) ?_
          exact (W.iret (v := x3_1) hx hb hr (fun t ht hW => ⟨⟨x3_1, (), rfl, trivial, 0, f2_1, hf0_1, by rw [ht]; exact hP9, hD9⟩, hS.F ht⟩) hS.2.2 dX10_missingProofs_127)
        · skip
          have hn22 : i1 < kn16 := Nat.lt_of_not_le (fun h9 => c20 (nI_le (a := kn16) (b := i1) h9 (by omega)))
          refine lv_iload hx hb dX10_missingProofs_38 (lv_at hl 0 rfl) ?_
          refine lv_aload_n hx hb dX10_missingProofs_40 rfl (lv_at hl 3 rfl) ?_
          refine va_get (D := D) (ci := 11) (v := .ref v0) (C := RX10) (T := TX10) (N := 39) hx hb hts inX10 hown hK hP 3 rfl rfl 0 (by decide) (hts (.fieldLink RX10 7 "EscrowDeskModel" "s" "[I") (by decide +kernel)) (fun _ h9 => h9) rfl dX10_missingProofs_41 ?_
          refine lv_bipush (v := 12) hx hb dX10_missingProofs_44 (by decide) ?_
          refine va_iald hx hb hK hP 4 0 rfl rfl (vp_in_iff.mpr (by decide)) dX10_missingProofs_46 ?_
          refine lv_topi (fun yn23 eyn23 => ?_)
          refine lv_iand hx hb dX10_missingProofs_47 ?_
          refine lv_topi (fun yn24 eyn24 => ?_)
          refine lv_if_ne (tgt := 55) hx hb dX10_missingProofs_48 (by decide) (fun c25 => ?_) (fun c25 => ?_)
          · skip
            refine lv_iconst (v := 0) hx hb dX10_missingProofs_55 (by decide) ?_
            refine lv_istore (lv' := [(5, .int 0), (4, .int (nI i1)), (3, .int x3_1), (2, .int rn8), (0, .ref w0), (1, .int (nI kn3))]) hx hb dX10_missingProofs_56 hl (by decide) rfl (fun ls hl => ?_)
            refine lv_iload_n hx hb dX10_missingProofs_58 rfl (lv_at hl 2 rfl) ?_
            refine lv_iconst (v := (-1)) hx hb dX10_missingProofs_59 (by decide) ?_
            refine lv_icmp_eq (tgt := 75) hx hb dX10_missingProofs_60 (by decide) (fun c26 => ?_) (fun c26 => ?_)
            · skip
              rw [c26] at hl
              have hl : lv_has ls 7 [(5, .int 0), (4, .int (nI i1)), (3, .int (-1)), (2, .int rn8), (0, .ref w0), (1, .int (nI kn3))] := hl
              refine lv_iconst (v := 1) hx hb dX10_missingProofs_75 (by decide) ?_
              refine lv_goto (tgt := 80) hx hb dX10_missingProofs_76 (by decide) ?_
              refine lv_istore (lv' := [(6, .int 1), (5, .int 0), (4, .int (nI i1)), (3, .int (-1)), (2, .int rn8), (0, .ref w0), (1, .int (nI kn3))]) hx hb dX10_missingProofs_80 hl (by decide) rfl (fun ls hl => ?_)
              refine lv_iload hx hb dX10_missingProofs_82 (lv_at hl 1 rfl) ?_
              refine lv_if_eq (tgt := 120) hx hb dX10_missingProofs_84 (by decide) (fun c27 => ?_) (fun c9 => absurd c9 (by decide))
              refine lv_iinc (v := (nI (i1 + 1))) (lv' := [(4, .int (nI (i1 + 1))), (6, .int 1), (5, .int 0), (3, .int (-1)), (2, .int rn8), (0, .ref w0), (1, .int (nI kn3))]) hx hb dX10_missingProofs_120 hl (k := 2) rfl (nI_1 _) (by decide) rfl (fun ls hl => ?_)
              refine lv_goto (tgt := 24) hx hb dX10_missingProofs_123 (by decide) ?_
              obtain ⟨hP9, hD9⟩ := PDq.sub (ws' := [(v31, .inl (cA 0, 400, .inl fc)), (v33, .inl (cA 0, 11, .inl fq)), (v35, .inl (cA 4, 400, .inl f2_1)), (oX10 w0 v0 v1 v2 v3 v4 g5 g6 (nI ed) 0 v9 (nI nb) g11 g12 v13 g14 g15 g16 g17 g18 g19 g20 g21 g22 g23 g24 g25 g26 v27 v28 v29 v30 v31 v32 v33 v34 v35 v36 v37 (nI ol)), (v0, .inl (cA 0, 326, .inl fs))]) hP hD [0, 1, 2, 3, 4] (by decide) rfl
              exact ih1 (i1 + 1) (-1) f2_1 H _ ls (by omega) hf0_1 hP9 hD9 hS (lv_sub hl [0, 3, 4, 5, 6] rfl)
            · skip
              refine lv_iload hx hb dX10_missingProofs_63 (lv_at hl 1 rfl) ?_
              obtain ⟨hPc, hDc, hFc⟩ := PDq.cut (wc := []) hP hD hS hA [] (by decide) rfl
              refine va_calli (va_runS (As := [.int (nI i1)]) (rest := []) ⟨hx, hb, hml, hown, hts⟩ (r_countBits l D cA sa (nI i1) H.size) (va_cwS 1 hts gX10_missingProofs_X10_countBits rfl rfl rfl (by decide +kernel) ⟨(Nat.le_of_ble_eq_true rfl), (Nat.le_of_ble_eq_true rfl)⟩) ⟨Wd.blind, fun U hU hW => ⟨rfl, Wd.call hPc hDc hK hC hZ hS hFc U hU hW⟩⟩ rfl rfl hl.1 rfl (lv_room (Nat.le_of_ble_eq_true rfl)) dX10_missingProofs_65 ⟨(Nat.le_of_ble_eq_true rfl), (Nat.le_of_ble_eq_true rfl)⟩) hS (fun q _ h => hFc q h) hFc (fun rn28 u t H1 locs ht hvm hw hB hz1 hk1 hS => ?_)
              obtain ⟨hP1, hD1⟩ := hB
              rw [ht] at hP1
              obtain ⟨hP, hD⟩ := PDq.join (w := [(v31, .inl (cA 0, 400, .inl fc)), (v33, .inl (cA 0, 11, .inl fq)), (v35, .inl (cA 4, 400, .inl f2_1)), (oX10 w0 v0 v1 v2 v3 v4 g5 g6 (nI ed) 0 v9 (nI nb) g11 g12 v13 g14 g15 g16 g17 g18 g19 g20 g21 g22 g23 g24 g25 g26 v27 v28 v29 v30 v31 v32 v33 v34 v35 v36 v37 (nI ol)), (v0, .inl (cA 0, 326, .inl fs))]) 5 hP hD [] [0, 1, 2, 3, 4] rfl rfl (by decide) (by decide) hk1 hFc hP1 hD1 rfl
              generalize H1 = H at hP hS ⊢
              refine lv_iload_n hx hb dX10_missingProofs_68 rfl (lv_at hl 2 rfl) ?_
              obtain ⟨hPc, hDc, hFc⟩ := PDq.cut (wc := []) hP hD hS hA [] (by decide) rfl
              refine va_calli (va_runS (As := [.int x3_1]) (rest := [.int rn28]) ⟨hx, hb, hml, hown, hts⟩ (r_countBits l D cA sa x3_1 H.size) (va_cwS 1 hts gX10_missingProofs_X10_countBits rfl rfl rfl (by decide +kernel) ⟨(Nat.le_of_ble_eq_true rfl), (Nat.le_of_ble_eq_true rfl)⟩) ⟨Wd.blind, fun U hU hW => ⟨rfl, Wd.call hPc hDc hK hC hZ hS hFc U hU hW⟩⟩ rfl rfl hl.1 rfl (lv_room (Nat.le_of_ble_eq_true rfl)) dX10_missingProofs_69 ⟨(Nat.le_of_ble_eq_true rfl), (Nat.le_of_ble_eq_true rfl)⟩) hS (fun q _ h => hFc q h) hFc (fun rn29 u t H1 locs ht hvm hw hB hz1 hk1 hS => ?_)
              obtain ⟨hP1, hD1⟩ := hB
              rw [ht] at hP1
              obtain ⟨hP, hD⟩ := PDq.join (w := [(v31, .inl (cA 0, 400, .inl fc)), (v33, .inl (cA 0, 11, .inl fq)), (v35, .inl (cA 4, 400, .inl f2_1)), (oX10 w0 v0 v1 v2 v3 v4 g5 g6 (nI ed) 0 v9 (nI nb) g11 g12 v13 g14 g15 g16 g17 g18 g19 g20 g21 g22 g23 g24 g25 g26 v27 v28 v29 v30 v31 v32 v33 v34 v35 v36 v37 (nI ol)), (v0, .inl (cA 0, 326, .inl fs))]) 5 hP hD [] [0, 1, 2, 3, 4] rfl rfl (by decide) (by decide) hk1 hFc hP1 hD1 rfl
              generalize H1 = H at hP hS ⊢
              refine lv_icmp_ge (tgt := 79) hx hb dX10_missingProofs_72 (by decide) (fun c30 => ?_) (fun c30 => ?_)
              · skip
                refine lv_iconst (v := 0) hx hb dX10_missingProofs_79 (by decide) ?_
                refine lv_istore (lv' := [(6, .int 0), (5, .int 0), (4, .int (nI i1)), (3, .int x3_1), (2, .int rn8), (0, .ref w0), (1, .int (nI kn3))]) hx hb dX10_missingProofs_80 hl (by decide) rfl (fun ls hl => ?_)
                refine lv_iload hx hb dX10_missingProofs_82 (lv_at hl 1 rfl) ?_
                refine lv_if_eq (tgt := 120) hx hb dX10_missingProofs_84 (by decide) (fun c31 => ?_) (fun c9 => absurd c9 (by decide))
                refine lv_iinc (v := (nI (i1 + 1))) (lv' := [(4, .int (nI (i1 + 1))), (6, .int 0), (5, .int 0), (3, .int x3_1), (2, .int rn8), (0, .ref w0), (1, .int (nI kn3))]) hx hb dX10_missingProofs_120 hl (k := 2) rfl (nI_1 _) (by decide) rfl (fun ls hl => ?_)
                refine lv_goto (tgt := 24) hx hb dX10_missingProofs_123 (by decide) ?_
                obtain ⟨hP9, hD9⟩ := PDq.sub (ws' := [(v31, .inl (cA 0, 400, .inl fc)), (v33, .inl (cA 0, 11, .inl fq)), (v35, .inl (cA 4, 400, .inl f2_1)), (oX10 w0 v0 v1 v2 v3 v4 g5 g6 (nI ed) 0 v9 (nI nb) g11 g12 v13 g14 g15 g16 g17 g18 g19 g20 g21 g22 g23 g24 g25 g26 v27 v28 v29 v30 v31 v32 v33 v34 v35 v36 v37 (nI ol)), (v0, .inl (cA 0, 326, .inl fs))]) hP hD [0, 1, 2, 3, 4] (by decide) rfl
                exact ih1 (i1 + 1) x3_1 f2_1 H _ ls (by omega) hf0_1 hP9 hD9 hS (lv_sub hl [0, 3, 4, 5, 6] rfl)
              · skip
                refine lv_iconst (v := 1) hx hb dX10_missingProofs_75 (by decide) ?_
                refine lv_goto (tgt := 80) hx hb dX10_missingProofs_76 (by decide) ?_
                refine lv_istore (lv' := [(6, .int 1), (5, .int 0), (4, .int (nI i1)), (3, .int x3_1), (2, .int rn8), (0, .ref w0), (1, .int (nI kn3))]) hx hb dX10_missingProofs_80 hl (by decide) rfl (fun ls hl => ?_)
                refine lv_iload hx hb dX10_missingProofs_82 (lv_at hl 1 rfl) ?_
                refine lv_if_eq (tgt := 120) hx hb dX10_missingProofs_84 (by decide) (fun c32 => ?_) (fun c9 => absurd c9 (by decide))
                refine lv_iinc (v := (nI (i1 + 1))) (lv' := [(4, .int (nI (i1 + 1))), (6, .int 1), (5, .int 0), (3, .int x3_1), (2, .int rn8), (0, .ref w0), (1, .int (nI kn3))]) hx hb dX10_missingProofs_120 hl (k := 2) rfl (nI_1 _) (by decide) rfl (fun ls hl => ?_)
                refine lv_goto (tgt := 24) hx hb dX10_missingProofs_123 (by decide) ?_
                obtain ⟨hP9, hD9⟩ := PDq.sub (ws' := [(v31, .inl (cA 0, 400, .inl fc)), (v33, .inl (cA 0, 11, .inl fq)), (v35, .inl (cA 4, 400, .inl f2_1)), (oX10 w0 v0 v1 v2 v3 v4 g5 g6 (nI ed) 0 v9 (nI nb) g11 g12 v13 g14 g15 g16 g17 g18 g19 g20 g21 g22 g23 g24 g25 g26 v27 v28 v29 v30 v31 v32 v33 v34 v35 v36 v37 (nI ol)), (v0, .inl (cA 0, 326, .inl fs))]) hP hD [0, 1, 2, 3, 4] (by decide) rfl
                exact ih1 (i1 + 1) x3_1 f2_1 H _ ls (by omega) hf0_1 hP9 hD9 hS (lv_sub hl [0, 3, 4, 5, 6] rfl)
          · skip
            refine lv_iconst (v := 1) hx hb dX10_missingProofs_51 (by decide) ?_
            refine lv_goto (tgt := 56) hx hb dX10_missingProofs_52 (by decide) ?_
            refine lv_istore (lv' := [(5, .int 1), (4, .int (nI i1)), (3, .int x3_1), (2, .int rn8), (0, .ref w0), (1, .int (nI kn3))]) hx hb dX10_missingProofs_56 hl (by decide) rfl (fun ls hl => ?_)
            refine lv_iload_n hx hb dX10_missingProofs_58 rfl (lv_at hl 2 rfl) ?_
            refine lv_iconst (v := (-1)) hx hb dX10_missingProofs_59 (by decide) ?_
            refine lv_icmp_eq (tgt := 75) hx hb dX10_missingProofs_60 (by decide) (fun c33 => ?_) (fun c33 => ?_)
            · skip
              rw [c33] at hl
              have hl : lv_has ls 7 [(5, .int 1), (4, .int (nI i1)), (3, .int (-1)), (2, .int rn8), (0, .ref w0), (1, .int (nI kn3))] := hl
              refine lv_iconst (v := 1) hx hb dX10_missingProofs_75 (by decide) ?_
              refine lv_goto (tgt := 80) hx hb dX10_missingProofs_76 (by decide) ?_
              refine lv_istore (lv' := [(6, .int 1), (5, .int 1), (4, .int (nI i1)), (3, .int (-1)), (2, .int rn8), (0, .ref w0), (1, .int (nI kn3))]) hx hb dX10_missingProofs_80 hl (by decide) rfl (fun ls hl => ?_)
              refine lv_iload hx hb dX10_missingProofs_82 (lv_at hl 1 rfl) ?_
              refine lv_if_eq (tgt := 120) hx hb dX10_missingProofs_84 (by decide) (fun c9 => absurd c9 (by decide)) (fun c34 => ?_)
              refine lv_iload hx hb dX10_missingProofs_87 (lv_at hl 0 rfl) ?_
              refine lv_if_eq (tgt := 120) hx hb dX10_missingProofs_89 (by decide) (fun c9 => absurd c9 (by decide)) (fun c35 => ?_)
              refine lv_aload_n hx hb dX10_missingProofs_92 rfl (lv_at hl 5 rfl) ?_
              refine lv_iload_n hx hb dX10_missingProofs_93 rfl (lv_at hl 6 rfl) ?_
              refine lv_aload_n hx hb dX10_missingProofs_94 rfl (lv_at hl 5 rfl) ?_
              refine va_get (D := D) (ci := 11) (v := .ref v0) (C := RX10) (T := TX10) (N := 39) hx hb hts inX10 hown hK hP 3 rfl rfl 0 (by decide) (hts (.fieldLink RX10 7 "EscrowDeskModel" "s" "[I") (by decide +kernel)) (fun _ h9 => h9) rfl dX10_missingProofs_95 ?_
              refine lv_iconst (v := 4) hx hb dX10_missingProofs_98 (by decide) ?_
              refine va_iald hx hb hK hP 4 0 rfl rfl (vp_in_iff.mpr (by decide)) dX10_missingProofs_99 ?_
              refine lv_topi (fun yn36 eyn36 => ?_)
              obtain rfl : yn36 = (nI dy) := eyn36.trans hri.2.2.2.1
              refine lv_aload_n hx hb dX10_missingProofs_100 rfl (lv_at hl 5 rfl) ?_
              refine va_get (D := D) (ci := 11) (v := .ref v0) (C := RX10) (T := TX10) (N := 39) hx hb hts inX10 hown hK hP 3 rfl rfl 0 (by decide) (hts (.fieldLink RX10 7 "EscrowDeskModel" "s" "[I") (by decide +kernel)) (fun _ h9 => h9) rfl dX10_missingProofs_101 ?_
              refine lv_bipush (v := 12) hx hb dX10_missingProofs_104 (by decide) ?_
              refine va_iald hx hb hK hP 4 0 rfl rfl (vp_in_iff.mpr (by decide)) dX10_missingProofs_106 ?_
              refine lv_topi (fun yn37 eyn37 => ?_)
              refine lv_iload hx hb dX10_missingProofs_107 (lv_at hl 2 rfl) ?_
              refine lv_ior hx hb dX10_missingProofs_109 ?_
              refine lv_topi (fun yn38 eyn38 => ?_)
              refine lv_iload_n hx hb dX10_missingProofs_110 rfl (lv_at hl 4 rfl) ?_
              obtain ⟨hPc, hDc, hFc⟩ := PDq.cut (wc := [(oX10 w0 v0 v1 v2 v3 v4 g5 g6 (nI ed) 0 v9 (nI nb) g11 g12 v13 g14 g15 g16 g17 g18 g19 g20 g21 g22 g23 g24 g25 g26 v27 v28 v29 v30 v31 v32 v33 v34 v35 v36 v37 (nI ol)), (v0, .inl (cA 0, 326, .inl fs)), (v31, .inl (cA 0, 400, .inl fc)), (v33, .inl (cA 0, 11, .inl fq)), (v35, .inl (cA 4, 400, .inl f2_1))]) hP hD hS hA [3, 4, 0, 1, 2] (by decide) rfl
              refine va_calli (va_runV (As := [.int (nI kn3), .int (nI dy), .int yn38, .int rn8]) (rest := []) ⟨hx, hb, hml, hown, hts⟩ (r_holdsBy l D cA sa w0 ed nb ol v0 v1 v2 v3 v4 v9 v13 v27 v28 v29 v30 v31 v32 v33 v34 v35 v36 v37 0 g11 g12 g14 g15 g16 g17 g18 g19 g20 g21 g22 g23 g24 g26 g5 g6 g25 cn pq en dy fs fc fq f2_1 kn3 (nI dy) yn38 rn8 H.size hcn hpq hen hdy hri hCW hf0_1 (by omega)) (cwV 4 hts gX10_missingProofs_X10_holdsBy rfl rfl rfl (by decide +kernel) ⟨(Nat.le_of_ble_eq_true rfl), (Nat.le_of_ble_eq_true rfl)⟩) ⟨Wd.blind, va_recv hK hPc (ci := 11) (q0 := 0) rfl rfl, fun U hU hW => ⟨rfl, Wd.call hPc hDc hK hC hZ hS hFc U hU hW⟩⟩ rfl rfl hl.1 rfl (lv_room (Nat.le_of_ble_eq_true rfl)) dX10_missingProofs_111 ⟨(Nat.le_of_ble_eq_true rfl), (Nat.le_of_ble_eq_true rfl)⟩) hS (fun q _ h => hFc q h) hFc (fun rn39 u t H1 locs ht hvm hw hB hz1 hk1 hS => ?_)
              obtain ⟨fn40, hn41, hP1, hD1⟩ := hB
              rw [ht] at hP1
              obtain ⟨hP, hD⟩ := PDq.join (w := [(oX10 w0 v0 v1 v2 v3 v4 g5 g6 (nI ed) 0 v9 (nI nb) g11 g12 v13 g14 g15 g16 g17 g18 g19 g20 g21 g22 g23 g24 g25 g26 v27 v28 v29 v30 v31 v32 v33 v34 v35 v36 v37 (nI ol)), (v0, .inl (cA 0, 326, .inl fs)), (v31, .inl (cA 0, 400, .inl fc)), (v33, .inl (cA 0, 11, .inl fq)), (v35, .inl (cA 4, 400, .inl fn40))]) 0 hP hD [3, 4, 0, 1, 2] [] rfl rfl (by decide) (by decide) hk1 hFc hP1 hD1 rfl
              generalize H1 = H at hP hS ⊢
              have hn42 := hw
              refine lv_if_eq (tgt := 120) hx hb dX10_missingProofs_114 (by decide) (fun c43 => ?_) (fun c43 => ?_)
              · skip
                refine lv_iinc (v := (nI (i1 + 1))) (lv' := [(4, .int (nI (i1 + 1))), (6, .int 1), (5, .int 1), (3, .int (-1)), (2, .int rn8), (0, .ref w0), (1, .int (nI kn3))]) hx hb dX10_missingProofs_120 hl (k := 2) rfl (nI_1 _) (by decide) rfl (fun ls hl => ?_)
                refine lv_goto (tgt := 24) hx hb dX10_missingProofs_123 (by decide) ?_
                obtain ⟨hP9, hD9⟩ := PDq.sub (ws' := [(v31, .inl (cA 0, 400, .inl fc)), (v33, .inl (cA 0, 11, .inl fq)), (v35, .inl (cA 4, 400, .inl fn40)), (oX10 w0 v0 v1 v2 v3 v4 g5 g6 (nI ed) 0 v9 (nI nb) g11 g12 v13 g14 g15 g16 g17 g18 g19 g20 g21 g22 g23 g24 g25 g26 v27 v28 v29 v30 v31 v32 v33 v34 v35 v36 v37 (nI ol)), (v0, .inl (cA 0, 326, .inl fs))]) hP hD [2, 3, 4, 0, 1] (by decide) rfl
                exact ih1 (i1 + 1) (-1) fn40 H _ ls (by omega) hn41 hP9 hD9 hS (lv_sub hl [0, 3, 4, 5, 6] rfl)
              · skip
                refine lv_iload hx hb dX10_missingProofs_117 (lv_at hl 2 rfl) ?_
                refine lv_istore_n (lv' := [(3, .int (nI i1)), (6, .int 1), (5, .int 1), (4, .int (nI i1)), (2, .int rn8), (0, .ref w0), (1, .int (nI kn3))]) hx hb dX10_missingProofs_119 rfl hl (by decide) rfl (fun ls hl => ?_)
                refine lv_iinc (v := (nI (i1 + 1))) (lv' := [(4, .int (nI (i1 + 1))), (3, .int (nI i1)), (6, .int 1), (5, .int 1), (2, .int rn8), (0, .ref w0), (1, .int (nI kn3))]) hx hb dX10_missingProofs_120 hl (k := 3) rfl (nI_1 _) (by decide) rfl (fun ls hl => ?_)
                refine lv_goto (tgt := 24) hx hb dX10_missingProofs_123 (by decide) ?_
                obtain ⟨hP9, hD9⟩ := PDq.sub (ws' := [(v31, .inl (cA 0, 400, .inl fc)), (v33, .inl (cA 0, 11, .inl fq)), (v35, .inl (cA 4, 400, .inl fn40)), (oX10 w0 v0 v1 v2 v3 v4 g5 g6 (nI ed) 0 v9 (nI nb) g11 g12 v13 g14 g15 g16 g17 g18 g19 g20 g21 g22 g23 g24 g25 g26 v27 v28 v29 v30 v31 v32 v33 v34 v35 v36 v37 (nI ol)), (v0, .inl (cA 0, 326, .inl fs))]) hP hD [2, 3, 4, 0, 1] (by decide) rfl
                exact ih1 (i1 + 1) (nI i1) fn40 H _ ls (by omega) hn41 hP9 hD9 hS (lv_sub hl [0, 1, 4, 5, 6] rfl)
            · skip
              refine lv_iload hx hb dX10_missingProofs_63 (lv_at hl 1 rfl) ?_
              obtain ⟨hPc, hDc, hFc⟩ := PDq.cut (wc := []) hP hD hS hA [] (by decide) rfl
              refine va_calli (va_runS (As := [.int (nI i1)]) (rest := []) ⟨hx, hb, hml, hown, hts⟩ (r_countBits l D cA sa (nI i1) H.size) (va_cwS 1 hts gX10_missingProofs_X10_countBits rfl rfl rfl (by decide +kernel) ⟨(Nat.le_of_ble_eq_true rfl), (Nat.le_of_ble_eq_true rfl)⟩) ⟨Wd.blind, fun U hU hW => ⟨rfl, Wd.call hPc hDc hK hC hZ hS hFc U hU hW⟩⟩ rfl rfl hl.1 rfl (lv_room (Nat.le_of_ble_eq_true rfl)) dX10_missingProofs_65 ⟨(Nat.le_of_ble_eq_true rfl), (Nat.le_of_ble_eq_true rfl)⟩) hS (fun q _ h => hFc q h) hFc (fun rn44 u t H1 locs ht hvm hw hB hz1 hk1 hS => ?_)
              obtain ⟨hP1, hD1⟩ := hB
              rw [ht] at hP1
              obtain ⟨hP, hD⟩ := PDq.join (w := [(v31, .inl (cA 0, 400, .inl fc)), (v33, .inl (cA 0, 11, .inl fq)), (v35, .inl (cA 4, 400, .inl f2_1)), (oX10 w0 v0 v1 v2 v3 v4 g5 g6 (nI ed) 0 v9 (nI nb) g11 g12 v13 g14 g15 g16 g17 g18 g19 g20 g21 g22 g23 g24 g25 g26 v27 v28 v29 v30 v31 v32 v33 v34 v35 v36 v37 (nI ol)), (v0, .inl (cA 0, 326, .inl fs))]) 5 hP hD [] [0, 1, 2, 3, 4] rfl rfl (by decide) (by decide) hk1 hFc hP1 hD1 rfl
              generalize H1 = H at hP hS ⊢
              refine lv_iload_n hx hb dX10_missingProofs_68 rfl (lv_at hl 2 rfl) ?_
              obtain ⟨hPc, hDc, hFc⟩ := PDq.cut (wc := []) hP hD hS hA [] (by decide) rfl
              refine va_calli (va_runS (As := [.int x3_1]) (rest := [.int rn44]) ⟨hx, hb, hml, hown, hts⟩ (r_countBits l D cA sa x3_1 H.size) (va_cwS 1 hts gX10_missingProofs_X10_countBits rfl rfl rfl (by decide +kernel) ⟨(Nat.le_of_ble_eq_true rfl), (Nat.le_of_ble_eq_true rfl)⟩) ⟨Wd.blind, fun U hU hW => ⟨rfl, Wd.call hPc hDc hK hC hZ hS hFc U hU hW⟩⟩ rfl rfl hl.1 rfl (lv_room (Nat.le_of_ble_eq_true rfl)) dX10_missingProofs_69 ⟨(Nat.le_of_ble_eq_true rfl), (Nat.le_of_ble_eq_true rfl)⟩) hS (fun q _ h => hFc q h) hFc (fun rn45 u t H1 locs ht hvm hw hB hz1 hk1 hS => ?_)
              obtain ⟨hP1, hD1⟩ := hB
              rw [ht] at hP1
              obtain ⟨hP, hD⟩ := PDq.join (w := [(v31, .inl (cA 0, 400, .inl fc)), (v33, .inl (cA 0, 11, .inl fq)), (v35, .inl (cA 4, 400, .inl f2_1)), (oX10 w0 v0 v1 v2 v3 v4 g5 g6 (nI ed) 0 v9 (nI nb) g11 g12 v13 g14 g15 g16 g17 g18 g19 g20 g21 g22 g23 g24 g25 g26 v27 v28 v29 v30 v31 v32 v33 v34 v35 v36 v37 (nI ol)), (v0, .inl (cA 0, 326, .inl fs))]) 5 hP hD [] [0, 1, 2, 3, 4] rfl rfl (by decide) (by decide) hk1 hFc hP1 hD1 rfl
              generalize H1 = H at hP hS ⊢
              refine lv_icmp_ge (tgt := 79) hx hb dX10_missingProofs_72 (by decide) (fun c46 => ?_) (fun c46 => ?_)
              · skip
                refine lv_iconst (v := 0) hx hb dX10_missingProofs_79 (by decide) ?_
                refine lv_istore (lv' := [(6, .int 0), (5, .int 1), (4, .int (nI i1)), (3, .int x3_1), (2, .int rn8), (0, .ref w0), (1, .int (nI kn3))]) hx hb dX10_missingProofs_80 hl (by decide) rfl (fun ls hl => ?_)
                refine lv_iload hx hb dX10_missingProofs_82 (lv_at hl 1 rfl) ?_
                refine lv_if_eq (tgt := 120) hx hb dX10_missingProofs_84 (by decide) (fun c9 => absurd c9 (by decide)) (fun c47 => ?_)
                refine lv_iload hx hb dX10_missingProofs_87 (lv_at hl 0 rfl) ?_
                refine lv_if_eq (tgt := 120) hx hb dX10_missingProofs_89 (by decide) (fun c48 => ?_) (fun c9 => absurd c9 (by decide))
                refine lv_iinc (v := (nI (i1 + 1))) (lv' := [(4, .int (nI (i1 + 1))), (6, .int 0), (5, .int 1), (3, .int x3_1), (2, .int rn8), (0, .ref w0), (1, .int (nI kn3))]) hx hb dX10_missingProofs_120 hl (k := 2) rfl (nI_1 _) (by decide) rfl (fun ls hl => ?_)
                refine lv_goto (tgt := 24) hx hb dX10_missingProofs_123 (by decide) ?_
                obtain ⟨hP9, hD9⟩ := PDq.sub (ws' := [(v31, .inl (cA 0, 400, .inl fc)), (v33, .inl (cA 0, 11, .inl fq)), (v35, .inl (cA 4, 400, .inl f2_1)), (oX10 w0 v0 v1 v2 v3 v4 g5 g6 (nI ed) 0 v9 (nI nb) g11 g12 v13 g14 g15 g16 g17 g18 g19 g20 g21 g22 g23 g24 g25 g26 v27 v28 v29 v30 v31 v32 v33 v34 v35 v36 v37 (nI ol)), (v0, .inl (cA 0, 326, .inl fs))]) hP hD [0, 1, 2, 3, 4] (by decide) rfl
                exact ih1 (i1 + 1) x3_1 f2_1 H _ ls (by omega) hf0_1 hP9 hD9 hS (lv_sub hl [0, 3, 4, 5, 6] rfl)
              · skip
                refine lv_iconst (v := 1) hx hb dX10_missingProofs_75 (by decide) ?_
                refine lv_goto (tgt := 80) hx hb dX10_missingProofs_76 (by decide) ?_
                refine lv_istore (lv' := [(6, .int 1), (5, .int 1), (4, .int (nI i1)), (3, .int x3_1), (2, .int rn8), (0, .ref w0), (1, .int (nI kn3))]) hx hb dX10_missingProofs_80 hl (by decide) rfl (fun ls hl => ?_)
                refine lv_iload hx hb dX10_missingProofs_82 (lv_at hl 1 rfl) ?_
                refine lv_if_eq (tgt := 120) hx hb dX10_missingProofs_84 (by decide) (fun c9 => absurd c9 (by decide)) (fun c49 => ?_)
                refine lv_iload hx hb dX10_missingProofs_87 (lv_at hl 0 rfl) ?_
                refine lv_if_eq (tgt := 120) hx hb dX10_missingProofs_89 (by decide) (fun c9 => absurd c9 (by decide)) (fun c50 => ?_)
                refine lv_aload_n hx hb dX10_missingProofs_92 rfl (lv_at hl 5 rfl) ?_
                refine lv_iload_n hx hb dX10_missingProofs_93 rfl (lv_at hl 6 rfl) ?_
                refine lv_aload_n hx hb dX10_missingProofs_94 rfl (lv_at hl 5 rfl) ?_
                refine va_get (D := D) (ci := 11) (v := .ref v0) (C := RX10) (T := TX10) (N := 39) hx hb hts inX10 hown hK hP 3 rfl rfl 0 (by decide) (hts (.fieldLink RX10 7 "EscrowDeskModel" "s" "[I") (by decide +kernel)) (fun _ h9 => h9) rfl dX10_missingProofs_95 ?_
                refine lv_iconst (v := 4) hx hb dX10_missingProofs_98 (by decide) ?_
                refine va_iald hx hb hK hP 4 0 rfl rfl (vp_in_iff.mpr (by decide)) dX10_missingProofs_99 ?_
                refine lv_topi (fun yn51 eyn51 => ?_)
                obtain rfl : yn51 = (nI dy) := eyn51.trans hri.2.2.2.1
                refine lv_aload_n hx hb dX10_missingProofs_100 rfl (lv_at hl 5 rfl) ?_
                refine va_get (D := D) (ci := 11) (v := .ref v0) (C := RX10) (T := TX10) (N := 39) hx hb hts inX10 hown hK hP 3 rfl rfl 0 (by decide) (hts (.fieldLink RX10 7 "EscrowDeskModel" "s" "[I") (by decide +kernel)) (fun _ h9 => h9) rfl dX10_missingProofs_101 ?_
                refine lv_bipush (v := 12) hx hb dX10_missingProofs_104 (by decide) ?_
                refine va_iald hx hb hK hP 4 0 rfl rfl (vp_in_iff.mpr (by decide)) dX10_missingProofs_106 ?_
                refine lv_topi (fun yn52 eyn52 => ?_)
                refine lv_iload hx hb dX10_missingProofs_107 (lv_at hl 2 rfl) ?_
                refine lv_ior hx hb dX10_missingProofs_109 ?_
                refine lv_topi (fun yn53 eyn53 => ?_)
                refine lv_iload_n hx hb dX10_missingProofs_110 rfl (lv_at hl 4 rfl) ?_
                obtain ⟨hPc, hDc, hFc⟩ := PDq.cut (wc := [(oX10 w0 v0 v1 v2 v3 v4 g5 g6 (nI ed) 0 v9 (nI nb) g11 g12 v13 g14 g15 g16 g17 g18 g19 g20 g21 g22 g23 g24 g25 g26 v27 v28 v29 v30 v31 v32 v33 v34 v35 v36 v37 (nI ol)), (v0, .inl (cA 0, 326, .inl fs)), (v31, .inl (cA 0, 400, .inl fc)), (v33, .inl (cA 0, 11, .inl fq)), (v35, .inl (cA 4, 400, .inl f2_1))]) hP hD hS hA [3, 4, 0, 1, 2] (by decide) rfl
                refine va_calli (va_runV (As := [.int (nI kn3), .int (nI dy), .int yn53, .int rn8]) (rest := []) ⟨hx, hb, hml, hown, hts⟩ (r_holdsBy l D cA sa w0 ed nb ol v0 v1 v2 v3 v4 v9 v13 v27 v28 v29 v30 v31 v32 v33 v34 v35 v36 v37 0 g11 g12 g14 g15 g16 g17 g18 g19 g20 g21 g22 g23 g24 g26 g5 g6 g25 cn pq en dy fs fc fq f2_1 kn3 (nI dy) yn53 rn8 H.size hcn hpq hen hdy hri hCW hf0_1 (by omega)) (cwV 4 hts gX10_missingProofs_X10_holdsBy rfl rfl rfl (by decide +kernel) ⟨(Nat.le_of_ble_eq_true rfl), (Nat.le_of_ble_eq_true rfl)⟩) ⟨Wd.blind, va_recv hK hPc (ci := 11) (q0 := 0) rfl rfl, fun U hU hW => ⟨rfl, Wd.call hPc hDc hK hC hZ hS hFc U hU hW⟩⟩ rfl rfl hl.1 rfl (lv_room (Nat.le_of_ble_eq_true rfl)) dX10_missingProofs_111 ⟨(Nat.le_of_ble_eq_true rfl), (Nat.le_of_ble_eq_true rfl)⟩) hS (fun q _ h => hFc q h) hFc (fun rn54 u t H1 locs ht hvm hw hB hz1 hk1 hS => ?_)
                obtain ⟨fn55, hn56, hP1, hD1⟩ := hB
                rw [ht] at hP1
                obtain ⟨hP, hD⟩ := PDq.join (w := [(oX10 w0 v0 v1 v2 v3 v4 g5 g6 (nI ed) 0 v9 (nI nb) g11 g12 v13 g14 g15 g16 g17 g18 g19 g20 g21 g22 g23 g24 g25 g26 v27 v28 v29 v30 v31 v32 v33 v34 v35 v36 v37 (nI ol)), (v0, .inl (cA 0, 326, .inl fs)), (v31, .inl (cA 0, 400, .inl fc)), (v33, .inl (cA 0, 11, .inl fq)), (v35, .inl (cA 4, 400, .inl fn55))]) 0 hP hD [3, 4, 0, 1, 2] [] rfl rfl (by decide) (by decide) hk1 hFc hP1 hD1 rfl
                generalize H1 = H at hP hS ⊢
                have hn57 := hw
                refine lv_if_eq (tgt := 120) hx hb dX10_missingProofs_114 (by decide) (fun c58 => ?_) (fun c58 => ?_)
                · skip
                  refine lv_iinc (v := (nI (i1 + 1))) (lv' := [(4, .int (nI (i1 + 1))), (6, .int 1), (5, .int 1), (3, .int x3_1), (2, .int rn8), (0, .ref w0), (1, .int (nI kn3))]) hx hb dX10_missingProofs_120 hl (k := 2) rfl (nI_1 _) (by decide) rfl (fun ls hl => ?_)
                  refine lv_goto (tgt := 24) hx hb dX10_missingProofs_123 (by decide) ?_
                  obtain ⟨hP9, hD9⟩ := PDq.sub (ws' := [(v31, .inl (cA 0, 400, .inl fc)), (v33, .inl (cA 0, 11, .inl fq)), (v35, .inl (cA 4, 400, .inl fn55)), (oX10 w0 v0 v1 v2 v3 v4 g5 g6 (nI ed) 0 v9 (nI nb) g11 g12 v13 g14 g15 g16 g17 g18 g19 g20 g21 g22 g23 g24 g25 g26 v27 v28 v29 v30 v31 v32 v33 v34 v35 v36 v37 (nI ol)), (v0, .inl (cA 0, 326, .inl fs))]) hP hD [2, 3, 4, 0, 1] (by decide) rfl
                  exact ih1 (i1 + 1) x3_1 fn55 H _ ls (by omega) hn56 hP9 hD9 hS (lv_sub hl [0, 3, 4, 5, 6] rfl)
                · skip
                  refine lv_iload hx hb dX10_missingProofs_117 (lv_at hl 2 rfl) ?_
                  refine lv_istore_n (lv' := [(3, .int (nI i1)), (6, .int 1), (5, .int 1), (4, .int (nI i1)), (2, .int rn8), (0, .ref w0), (1, .int (nI kn3))]) hx hb dX10_missingProofs_119 rfl hl (by decide) rfl (fun ls hl => ?_)
                  refine lv_iinc (v := (nI (i1 + 1))) (lv' := [(4, .int (nI (i1 + 1))), (3, .int (nI i1)), (6, .int 1), (5, .int 1), (2, .int rn8), (0, .ref w0), (1, .int (nI kn3))]) hx hb dX10_missingProofs_120 hl (k := 3) rfl (nI_1 _) (by decide) rfl (fun ls hl => ?_)
                  refine lv_goto (tgt := 24) hx hb dX10_missingProofs_123 (by decide) ?_
                  obtain ⟨hP9, hD9⟩ := PDq.sub (ws' := [(v31, .inl (cA 0, 400, .inl fc)), (v33, .inl (cA 0, 11, .inl fq)), (v35, .inl (cA 4, 400, .inl fn55)), (oX10 w0 v0 v1 v2 v3 v4 g5 g6 (nI ed) 0 v9 (nI nb) g11 g12 v13 g14 g15 g16 g17 g18 g19 g20 g21 g22 g23 g24 g25 g26 v27 v28 v29 v30 v31 v32 v33 v34 v35 v36 v37 (nI ol)), (v0, .inl (cA 0, 326, .inl fs))]) hP hD [2, 3, 4, 0, 1] (by decide) rfl
                  exact ih1 (i1 + 1) (nI i1) fn55 H _ ls (by omega) hn56 hP9 hD9 hS (lv_sub hl [0, 1, 4, 5, 6] rfl)
    obtain ⟨hP9, hD9⟩ := PDq.sub (ws' := [(v31, .inl (cA 0, 400, .inl fc)), (v33, .inl (cA 0, 11, .inl fq)), (v35, .inl (cA 4, 400, .inl fk)), (oX10 w0 v0 v1 v2 v3 v4 g5 g6 (nI ed) 0 v9 (nI nb) g11 g12 v13 g14 g15 g16 g17 g18 g19 g20 g21 g22 g23 g24 g25 g26 v27 v28 v29 v30 v31 v32 v33 v34 v35 v36 v37 (nI ol)), (v0, .inl (cA 0, 326, .inl fs))]) hP hD [0, 1, 2, 3, 4] (by decide) rfl
    exact loop1 (1025 - 0) 0 (-1) fk _ _ ls (by omega) hbit hP9 hD9 hS (lv_sub hl [0, 1, 2, 3, 4] rfl)
  · skip
    subst hr9
    obtain ⟨hPc, hDc, hFc⟩ := PDq.cut (wc := [(oX10 w0 v0 v1 v2 v3 v4 g5 g6 (nI ed) g8 v9 (nI nb) g11 g12 v13 g14 g15 g16 g17 g18 g19 g20 g21 g22 g23 g24 g25 g26 v27 v28 v29 v30 v31 v32 v33 v34 v35 v36 v37 (nI ol))]) hP hD hS hA [3] (by decide) rfl
    refine va_calli (va_runV (As := [.int 0]) (rest := []) ⟨hx, hb, hml, hown, hts⟩ (r_good0 l D cA sa w0 ed nb ol v0 v1 v2 v3 v4 v9 v13 v27 v28 v29 v30 v31 v32 v33 v34 v35 v36 v37 g8 g11 g12 g14 g15 g16 g17 g18 g19 g20 g21 g22 g23 g24 g26 g5 g6 g25 H.size) (cwV 1 hts gX10_missingProofs_X10_good rfl rfl rfl (by decide +kernel) ⟨(Nat.le_of_ble_eq_true rfl), (Nat.le_of_ble_eq_true rfl)⟩) ⟨Wd.blind, va_recv hK hPc (ci := 11) (q0 := 0) rfl rfl, fun U hU hW => ⟨rfl, Wd.call hPc hDc hK hC hZ hS hFc U hU hW⟩⟩ rfl rfl hl.1 rfl (lv_room (Nat.le_of_ble_eq_true rfl)) dX10_missingProofs_6 ⟨(Nat.le_of_ble_eq_true rfl), (Nat.le_of_ble_eq_true rfl)⟩) hS (fun q _ h => hFc q h) hFc (fun rn59 u t H1 locs ht hvm hw hB hz1 hk1 hS => ?_)
    obtain ⟨hP1, hD1⟩ := hB
    rw [ht] at hP1
    obtain ⟨hP, hD⟩ := PDq.join (w := [(v31, .inl (cA 0, 400, .inl fc)), (v33, .inl (cA 0, 11, .inl fq)), (v35, .inl (cA 4, 400, .inl fk)), (v0, .inl (cA 0, 326, .inl fs)), (oX10 w0 v0 v1 v2 v3 v4 g5 g6 (nI ed) 1 v9 (nI nb) g11 g12 v13 g14 g15 g16 g17 g18 g19 g20 g21 g22 g23 g24 g25 g26 v27 v28 v29 v30 v31 v32 v33 v34 v35 v36 v37 (nI ol))]) 4 hP hD [3] [0, 1, 2, 4] rfl rfl (by decide) (by decide) hk1 hFc hP1 hD1 rfl
    generalize H1 = H at hP hS ⊢
    obtain rfl : rn59 = 0 := hw
    refine lv_if_ne (tgt := 14) hx hb dX10_missingProofs_9 (by decide) (fun c9 => absurd c9 (by decide)) (fun c60 => ?_)
    refine lv_iconst (v := 0) hx hb dX10_missingProofs_12 (by decide) ?_
    obtain ⟨hP9, hD9⟩ := PDq.sub (ws' := [(oX10 w0 v0 v1 v2 v3 v4 g5 g6 (nI ed) 1 v9 (nI nb) g11 g12 v13 g14 g15 g16 g17 g18 g19 g20 g21 g22 g23 g24 g25 g26 v27 v28 v29 v30 v31 v32 v33 v34 v35 v36 v37 (nI ol)), (v0, .inl (cA 0, 326, .inl fs)), (v31, .inl (cA 0, 400, .inl fc)), (v33, .inl (cA 0, 11, .inl fq)), (v35, .inl (cA 4, 400, .inl fk))]) hP hD [4, 3, 0, 1, 2] (by decide) rfl
    refine W.widen (k := 0) (n := 0) (Nat.le_of_ble_eq_true rfl) (Nat.le_of_ble_eq_true rfl) ?_
    exact (W.iret (v := 0) hx hb hr (fun t ht hW => ⟨⟨0, (), rfl, trivial, 1, fk, hbit, by rw [ht]; exact hP9, hD9⟩, hS.F ht⟩) hS.2.2 dX10_missingProofs_13)

set_option maxHeartbeats 4000000 in
set_option maxRecDepth 100000 in
/-- reference: lettersOf -/
theorem r_lettersOf (l : Launch) (D : va_G) (cA : Nat → ClassId) (sa : Nat → Nat) (w : Int64) (sz : Nat) : Met l yX10_lettersOf wsX10_lettersOf ({ frames := 0, cells := 0, slots := 0, locals := 0 }) (va_Pc [.long w] (Wd D cA sa [] sz)) (va_Qi (fun (r : Int32) (_ : Unit) => ∃ n, n < 14 ∧ r = nI n) (fun (_ : Unit) t => Wq D (va_A [] sz) [] t) (va_A [] sz)) 0 0 (va_A [] sz) := by
  refine Met.ofW (cc := cX10_lettersOf) (maxL := 5) (ret := (some .int)) (by decide) rfl ?_
  intro p e s m args below meth c s₁ B hml hv
  obtain ⟨rfl, hsz, hP, hK, hD0, hC, hZ⟩ := hv
  have hx := B.exec
  have hb := B.bytes
  have hr := B.returns
  have hts := atoms_spec (ws := wsX10_lettersOf) B.pre
  have hown : s.vm.findClass RX10 = some m.cls := findClass_of_methodNamed B.named
  have hlocks := B.notSynchronized
  subst hsz
  have hD := hD0.self (sz := s.heap.size)
  generalize hAe : va_A [] s.heap.size = A at hD hZ ⊢
  have hA : ∀ q : Nat, s.heap.size ≤ q → A q := fun q h => by rw [← hAe]; exact Or.inr h
  have hS : va_S A s.heap s.heap [] := va_S.rf
  have hP : va_P D vwCl [] s.heap := hP
  have hl := lv_entry ([.long w]) (n := 5) (Nat.le_of_ble_eq_true rfl)
  rw [lg_entry_eq]
  generalize (lg_sl ([.long w]) ++ List.replicate (5 - (lg_sl ([.long w])).length) Slot.unset).toArray = ls at hl ⊢
  have hl : lv_has ls 5 [(0, .long w)] := hl
  refine lv_iconst (v := 0) hx hb dX10_lettersOf_0 (by decide) ?_
  refine lv_istore_n (lv' := [(2, .int 0), (0, .long w)]) hx hb dX10_lettersOf_1 rfl hl (by decide) rfl (fun ls hl => ?_)
  refine lv_lload_n hx hb dX10_lettersOf_2 rfl (lv_at hl 1 rfl) ?_
  refine lv_lstore_n (lv' := [(3, .long w), (2, .int 0), (0, .long w)]) hx hb dX10_lettersOf_3 rfl hl (by decide) rfl (fun ls hl => ?_)
  have loop1 : ∀ (n1 i1 : Nat) (x3_1 : Int64) (H : Heap) (locs : List Loc) (ls : Array Slot), i1 + n1 = 13 → LB i1 x3_1 → va_P D vwCl [] H → va_D A [] → va_S A s.heap H locs → lv_has ls 5 [(3, .long x3_1), (2, .int (nI i1)), (0, .long w)] → W p l e (headSpec wsX10_lettersOf ({ frames := 0, cells := 0, slots := 0, locals := 0 } : Room)).room s m ([.long w] : List Value).toArray below meth c H locs 0 0 (MQ below (va_Qi (fun (r : Int32) (_ : Unit) => ∃ n, n < 14 ∧ r = nI n) (fun (_ : Unit) t => Wq D A [] t) A) ([.long w] : List Value).toArray s 0 0 A) (F0 m 4 ls []) := by
    intro n1
    induction n1 with
    | zero =>
      intro i1 x3_1 H locs ls hi1 hv0_1 hP hD hS hl
      obtain rfl : 13 = i1 := by omega
      refine lv_lload_n hx hb dX10_lettersOf_4 rfl (lv_at hl 0 rfl) ?_
      refine lv_lconst (v := 0) hx hb dX10_lettersOf_5 (by decide) ?_
      refine W.lcmp hx hb dX10_lettersOf_6 ?_
      refine lv_if_le (tgt := 22) hx hb dX10_lettersOf_7 (by decide) (fun c1 => ?_) (fun c9 => absurd c9 (fun h9 => h9 (LB.last hv0_1)))
      refine lv_iload_n hx hb dX10_lettersOf_22 rfl (lv_at hl 1 rfl) ?_
      obtain ⟨hP9, hD9⟩ := PDq.sub (ws' := []) hP hD [] (by decide) rfl
      refine W.widen (k := 0) (n := 0) (Nat.le_of_ble_eq_true rfl) (Nat.le_of_ble_eq_true rfl) ?_
      exact (W.iret (v := (nI 13)) hx hb hr (fun t ht hW => ⟨⟨(nI 13), (), rfl, ⟨13, by omega, rfl⟩, by rw [ht]; exact hP9, hD9⟩, hS.F ht⟩) hS.2.2 dX10_lettersOf_23)
    | succ n1 ih1 =>
      intro i1 x3_1 H locs ls hi1 hv0_1 hP hD hS hl
      refine lv_lload_n hx hb dX10_lettersOf_4 rfl (lv_at hl 0 rfl) ?_
      refine lv_lconst (v := 0) hx hb dX10_lettersOf_5 (by decide) ?_
      refine W.lcmp hx hb dX10_lettersOf_6 ?_
      refine lv_if_le (tgt := 22) hx hb dX10_lettersOf_7 (by decide) (fun c2 => ?_) (fun c2 => ?_)
      · skip
        refine lv_iload_n hx hb dX10_lettersOf_22 rfl (lv_at hl 1 rfl) ?_
        obtain ⟨hP9, hD9⟩ := PDq.sub (ws' := []) hP hD [] (by decide) rfl
        refine W.widen (k := 0) (n := 0) (Nat.le_of_ble_eq_true rfl) (Nat.le_of_ble_eq_true rfl) ?_
        exact (W.iret (v := (nI i1)) hx hb hr (fun t ht hW => ⟨⟨(nI i1), (), rfl, ⟨i1, by omega, rfl⟩, by rw [ht]; exact hP9, hD9⟩, hS.F ht⟩) hS.2.2 dX10_lettersOf_23)
      · skip
        refine lv_iinc (v := (nI (i1 + 1))) (lv' := [(2, .int (nI (i1 + 1))), (3, .long x3_1), (0, .long w)]) hx hb dX10_lettersOf_10 hl (k := 1) rfl (nI_1 _) (by decide) rfl (fun ls hl => ?_)
        refine lv_lload_n hx hb dX10_lettersOf_13 rfl (lv_at hl 1 rfl) ?_
        refine lv_ldc2 (v := 32) hx hb hown (hts (.constantLong RX10 103 32) (by decide +kernel)) dX10_lettersOf_14 ?_
        refine lv_ldiv hx hb dX10_lettersOf_17 (by decide) ?_
        refine lv_topl (fun yn3 eyn3 => ?_)
        refine lv_lstore_n (lv' := [(3, .long yn3), (2, .int (nI (i1 + 1))), (0, .long w)]) hx hb dX10_lettersOf_18 rfl hl (by decide) rfl (fun ls hl => ?_)
        refine lv_goto (tgt := 4) hx hb dX10_lettersOf_19 (by decide) ?_
        obtain ⟨hP9, hD9⟩ := PDq.sub (ws' := []) hP hD [] (by decide) rfl
        exact ih1 (i1 + 1) yn3 H _ ls (by omega) (LB.step hv0_1 (Int32.not_le.mp c2) eyn3) hP9 hD9 hS (lv_sub hl [0, 1, 2] rfl)
  obtain ⟨hP9, hD9⟩ := PDq.sub (ws' := []) hP hD [] (by decide) rfl
  exact loop1 (13 - 0) 0 w _ _ ls (by omega) (LB.zero w) hP9 hD9 hS (lv_sub hl [0, 1, 2] rfl)

set_option maxHeartbeats 4000000 in
set_option maxRecDepth 100000 in
/-- reference: letterOf -/
theorem r_letterOf (l : Launch) (D : va_G) (cA : Nat → ClassId) (sa : Nat → Nat) (w : Int64) (ix : Nat) (sz : Nat) (hix : ix < 100) : Met l yX10_letterOf wsX10_letterOf ({ frames := 1, cells := 0, slots := 0, locals := 24 }) (va_Pc [.long w, .int (nI ix)] (Wd D cA sa [] sz)) (va_Qi (fun (r : Int32) (_ : Unit) => True) (fun (_ : Unit) t => Wq D (va_A [] sz) [] t) (va_A [] sz)) 0 0 (va_A [] sz) := by
  refine Met.ofW (cc := cX10_letterOf) (maxL := 6) (ret := (some .int)) (by decide) rfl ?_
  intro p e s m args below meth c s₁ B hml hv
  obtain ⟨rfl, hsz, hP, hK, hD0, hC, hZ⟩ := hv
  have hx := B.exec
  have hb := B.bytes
  have hr := B.returns
  have hts := atoms_spec (ws := wsX10_letterOf) B.pre
  have hown : s.vm.findClass RX10 = some m.cls := findClass_of_methodNamed B.named
  have hlocks := B.notSynchronized
  subst hsz
  have hD := hD0.self (sz := s.heap.size)
  generalize hAe : va_A [] s.heap.size = A at hD hZ ⊢
  have hA : ∀ q : Nat, s.heap.size ≤ q → A q := fun q h => by rw [← hAe]; exact Or.inr h
  have hS : va_S A s.heap s.heap [] := va_S.rf
  have hP : va_P D vwCl [] s.heap := hP
  have hl := lv_entry ([.long w, .int (nI ix)]) (n := 6) (Nat.le_of_ble_eq_true rfl)
  rw [lg_entry_eq]
  generalize (lg_sl ([.long w, .int (nI ix)]) ++ List.replicate (6 - (lg_sl ([.long w, .int (nI ix)])).length) Slot.unset).toArray = ls at hl ⊢
  have hl : lv_has ls 6 [(0, .long w), (2, .int (nI ix))] := hl
  refine lv_lload_n hx hb dX10_letterOf_0 rfl (lv_at hl 0 rfl) ?_
  refine lv_lstore_n (lv' := [(3, .long w), (0, .long w), (2, .int (nI ix))]) hx hb dX10_letterOf_1 rfl hl (by decide) rfl (fun ls hl => ?_)
  refine lv_lload_n hx hb dX10_letterOf_2 rfl (lv_at hl 1 rfl) ?_
  obtain ⟨hPc, hDc, hFc⟩ := PDq.cut (wc := []) hP hD hS hA [] (by decide) rfl
  refine va_calli (va_runS (As := [.long w]) (rest := []) ⟨hx, hb, hml, hown, hts⟩ (r_lettersOf l D cA sa w s.heap.size) (va_cwS 1 hts gX10_letterOf_X10_lettersOf rfl rfl rfl (by decide +kernel) ⟨(Nat.le_of_ble_eq_true rfl), (Nat.le_of_ble_eq_true rfl)⟩) ⟨Wd.blind, fun U hU hW => ⟨rfl, Wd.call hPc hDc hK hC hZ hS hFc U hU hW⟩⟩ rfl rfl hl.1 rfl (lv_room (Nat.le_of_ble_eq_true rfl)) dX10_letterOf_3 ⟨(Nat.le_of_ble_eq_true rfl), (Nat.le_of_ble_eq_true rfl)⟩) hS (fun q _ h => hFc q h) hFc (fun rn1 u t H1 locs ht hvm hw hB hz1 hk1 hS => ?_)
  obtain ⟨hP1, hD1⟩ := hB
  rw [ht] at hP1
  obtain ⟨hP, hD⟩ := PDq.join (w := []) 0 hP hD [] [] rfl rfl (by decide) (by decide) hk1 hFc hP1 hD1 rfl
  generalize H1 = H at hP hS ⊢
  obtain ⟨kn2, hn3, hr9⟩ := hw
  subst hr9
  refine lv_iconst (v := 1) hx hb dX10_letterOf_6 (by decide) ?_
  rcases Nat.eq_zero_or_pos kn2 with hn4 | hn4
  · skip
    refine lv_isub hx hb dX10_letterOf_7 ?_
    refine lv_topi (fun yn5 eyn5 => ?_)
    obtain rfl : yn5 = (-1) := eyn5.trans (nI_sub0 hn4)
    refine lv_istore (lv' := [(5, .int (-1)), (3, .long w), (0, .long w), (2, .int (nI ix))]) hx hb dX10_letterOf_8 hl (by decide) rfl (fun ls hl => ?_)
    refine lv_iload hx hb dX10_letterOf_10 (lv_at hl 0 rfl) ?_
    refine lv_iload_n hx hb dX10_letterOf_12 rfl (lv_at hl 3 rfl) ?_
    refine lv_icmp_le (tgt := 28) hx hb dX10_letterOf_13 (by decide) (fun c6 => ?_) (fun c9 => absurd (Int32.le_trans (show (-1 : Int32) ≤ 0 by decide) (nI_pos' (n := ix) (by omega))) c9)
    refine lv_lload_n hx hb dX10_letterOf_28 rfl (lv_at hl 1 rfl) ?_
    refine lv_ldc2 (v := 32) hx hb hown (hts (.constantLong RX10 103 32) (by decide +kernel)) dX10_letterOf_29 ?_
    refine lv_lrem hx hb dX10_letterOf_32 (by decide) ?_
    refine lv_topl (fun yn7 eyn7 => ?_)
    refine lv_l2i (v := yn7.toInt32) hx hb dX10_letterOf_33 rfl ?_
    refine lv_topi (fun yn8 eyn8 => ?_)
    refine lv_bipush (v := 96) hx hb dX10_letterOf_34 (by decide) ?_
    refine lv_iadd hx hb dX10_letterOf_36 ?_
    refine lv_topi (fun yn9 eyn9 => ?_)
    obtain ⟨hP9, hD9⟩ := PDq.sub (ws' := []) hP hD [] (by decide) rfl
    refine W.widen (k := 0) (n := 0) (Nat.le_of_ble_eq_true rfl) (Nat.le_of_ble_eq_true rfl) ?_
    exact (W.iret (v := yn9) hx hb hr (fun t ht hW => ⟨⟨yn9, (), rfl, trivial, by rw [ht]; exact hP9, hD9⟩, hS.F ht⟩) hS.2.2 dX10_letterOf_37)
  · skip
    refine lv_isub hx hb dX10_letterOf_7 ?_
    refine lv_topi (fun yn10 eyn10 => ?_)
    obtain rfl : yn10 = (nI (kn2 - 1)) := eyn10.trans (nI_sub (a := kn2) (b := 1) (by omega))
    refine lv_istore (lv' := [(5, .int (nI (kn2 - 1))), (3, .long w), (0, .long w), (2, .int (nI ix))]) hx hb dX10_letterOf_8 hl (by decide) rfl (fun ls hl => ?_)
    rcases Nat.lt_or_ge ix (kn2 - 1) with hn11 | hn11
    · skip
      have loop1 : ∀ (n1 : Nat) (x3_1 : Int64) (H : Heap) (locs : List Loc) (ls : Array Slot), n1 ≤ 1000 → va_P D vwCl [] H → va_D A [] → va_S A s.heap H locs → lv_has ls 6 [(5, .int (nI (ix + n1))), (3, .long x3_1), (0, .long w), (2, .int (nI ix))] → W p l e (headSpec wsX10_letterOf ({ frames := 1, cells := 0, slots := 0, locals := 24 } : Room)).room s m ([.long w, .int (nI ix)] : List Value).toArray below meth c H locs 0 0 (MQ below (va_Qi (fun (r : Int32) (_ : Unit) => True) (fun (_ : Unit) t => Wq D A [] t) A) ([.long w, .int (nI ix)] : List Value).toArray s 0 0 A) (F0 m 10 ls []) := by
        intro n1
        induction n1 with
        | zero =>
          intro x3_1 H locs ls hv0_1 hP hD hS hl
          have hl : lv_has ls 6 [(5, .int (nI ix)), (3, .long x3_1), (0, .long w), (2, .int (nI ix))] := hl
          refine lv_iload hx hb dX10_letterOf_10 (lv_at hl 0 rfl) ?_
          refine lv_iload_n hx hb dX10_letterOf_12 rfl (lv_at hl 3 rfl) ?_
          refine lv_icmp_le (tgt := 28) hx hb dX10_letterOf_13 (by decide) (fun c12 => ?_) (fun c9 => absurd (nI_le (a := ix) (b := ix) (show ix ≤ ix by omega) (by omega)) c9)
          refine lv_lload_n hx hb dX10_letterOf_28 rfl (lv_at hl 1 rfl) ?_
          refine lv_ldc2 (v := 32) hx hb hown (hts (.constantLong RX10 103 32) (by decide +kernel)) dX10_letterOf_29 ?_
          refine lv_lrem hx hb dX10_letterOf_32 (by decide) ?_
          refine lv_topl (fun yn13 eyn13 => ?_)
          refine lv_l2i (v := yn13.toInt32) hx hb dX10_letterOf_33 rfl ?_
          refine lv_topi (fun yn14 eyn14 => ?_)
          refine lv_bipush (v := 96) hx hb dX10_letterOf_34 (by decide) ?_
          refine lv_iadd hx hb dX10_letterOf_36 ?_
          refine lv_topi (fun yn15 eyn15 => ?_)
          obtain ⟨hP9, hD9⟩ := PDq.sub (ws' := []) hP hD [] (by decide) rfl
          refine W.widen (k := 0) (n := 0) (Nat.le_of_ble_eq_true rfl) (Nat.le_of_ble_eq_true rfl) ?_
          exact (W.iret (v := yn15) hx hb hr (fun t ht hW => ⟨⟨yn15, (), rfl, trivial, by rw [ht]; exact hP9, hD9⟩, hS.F ht⟩) hS.2.2 dX10_letterOf_37)
        | succ n1 ih1 =>
          intro x3_1 H locs ls hv0_1 hP hD hS hl
          have hl : lv_has ls 6 [(5, .int (nI (ix + n1 + 1))), (3, .long x3_1), (0, .long w), (2, .int (nI ix))] := hl
          refine lv_iload hx hb dX10_letterOf_10 (lv_at hl 0 rfl) ?_
          refine lv_iload_n hx hb dX10_letterOf_12 rfl (lv_at hl 3 rfl) ?_
          refine lv_icmp_le (tgt := 28) hx hb dX10_letterOf_13 (by decide) (fun c9 => absurd c9 (nI_ge (a := ix) (b := (ix + n1 + 1)) (show ix < (ix + n1 + 1) by omega) (by omega))) (fun c16 => ?_)
          refine lv_lload_n hx hb dX10_letterOf_16 rfl (lv_at hl 1 rfl) ?_
          refine lv_ldc2 (v := 32) hx hb hown (hts (.constantLong RX10 103 32) (by decide +kernel)) dX10_letterOf_17 ?_
          refine lv_ldiv hx hb dX10_letterOf_20 (by decide) ?_
          refine lv_topl (fun yn17 eyn17 => ?_)
          refine lv_lstore_n (lv' := [(3, .long yn17), (5, .int (nI (ix + n1 + 1))), (0, .long w), (2, .int (nI ix))]) hx hb dX10_letterOf_21 rfl hl (by decide) rfl (fun ls hl => ?_)
          refine lv_iinc (v := (nI (ix + n1))) (lv' := [(5, .int (nI (ix + n1))), (3, .long yn17), (0, .long w), (2, .int (nI ix))]) hx hb dX10_letterOf_22 hl (k := 1) rfl (nI_dec (a := (ix + n1 + 1)) (b := (ix + n1)) (by omega)) (by decide) rfl (fun ls hl => ?_)
          refine lv_goto (tgt := 10) hx hb dX10_letterOf_25 (by decide) ?_
          obtain ⟨hP9, hD9⟩ := PDq.sub (ws' := []) hP hD [] (by decide) rfl
          exact ih1 yn17 H _ ls (by omega) hP9 hD9 hS (lv_sub hl [0, 1, 2, 3] rfl)
      obtain ⟨hP9, hD9⟩ := PDq.sub (ws' := []) hP hD [] (by decide) rfl
      exact loop1 ((kn2 - 1) - ix) w _ _ ls (by omega) hP9 hD9 hS (by have q9 := lv_sub hl [0, 1, 2, 3] rfl; rw [show (kn2 - 1) = ix + ((kn2 - 1) - ix) by omega] at q9; exact q9)
    · skip
      refine lv_iload hx hb dX10_letterOf_10 (lv_at hl 0 rfl) ?_
      refine lv_iload_n hx hb dX10_letterOf_12 rfl (lv_at hl 3 rfl) ?_
      refine lv_icmp_le (tgt := 28) hx hb dX10_letterOf_13 (by decide) (fun c18 => ?_) (fun c9 => absurd (nI_le (a := (kn2 - 1)) (b := ix) (show (kn2 - 1) ≤ ix by omega) (by omega)) c9)
      refine lv_lload_n hx hb dX10_letterOf_28 rfl (lv_at hl 1 rfl) ?_
      refine lv_ldc2 (v := 32) hx hb hown (hts (.constantLong RX10 103 32) (by decide +kernel)) dX10_letterOf_29 ?_
      refine lv_lrem hx hb dX10_letterOf_32 (by decide) ?_
      refine lv_topl (fun yn19 eyn19 => ?_)
      refine lv_l2i (v := yn19.toInt32) hx hb dX10_letterOf_33 rfl ?_
      refine lv_topi (fun yn20 eyn20 => ?_)
      refine lv_bipush (v := 96) hx hb dX10_letterOf_34 (by decide) ?_
      refine lv_iadd hx hb dX10_letterOf_36 ?_
      refine lv_topi (fun yn21 eyn21 => ?_)
      obtain ⟨hP9, hD9⟩ := PDq.sub (ws' := []) hP hD [] (by decide) rfl
      refine W.widen (k := 0) (n := 0) (Nat.le_of_ble_eq_true rfl) (Nat.le_of_ble_eq_true rfl) ?_
      exact (W.iret (v := yn21) hx hb hr (fun t ht hW => ⟨⟨yn21, (), rfl, trivial, by rw [ht]; exact hP9, hD9⟩, hS.F ht⟩) hS.2.2 dX10_letterOf_37)

set_option maxHeartbeats 4000000 in
set_option maxRecDepth 100000 in
/-- reference: put -/
theorem r_put (l : Launch) (D : va_G) (cA : Nat → ClassId) (sa : Nat → Nat) (w0 : Nat) (ed : Nat) (nb : Nat) (ol : Nat) (v0 : Nat) (v1 : Nat) (v2 : Nat) (v3 : Nat) (v4 : Nat) (v9 : Nat) (v13 : Nat) (v27 : Nat) (v28 : Nat) (v29 : Nat) (v30 : Nat) (v31 : Nat) (v32 : Nat) (v33 : Nat) (v34 : Nat) (v35 : Nat) (v36 : Nat) (v37 : Nat) (g8 : Int32) (g11 : Int32) (g12 : Int32) (g14 : Int32) (g15 : Int32) (g16 : Int32) (g17 : Int32) (g18 : Int32) (g19 : Int32) (g20 : Int32) (g21 : Int32) (g22 : Int32) (g23 : Int32) (g24 : Int32) (g26 : Int32) (g5 : Int64) (g6 : Int64) (g25 : Int64) (fo9 : Nat → Int32) (a : Int32) (sz : Nat) (hol : ol < 100) : Met l yX10_put wsX10_put ({ frames := 0, cells := 0, slots := 0, locals := 0 }) (va_Pc [.ref w0, .int a] (Wd D cA sa [(oX10 w0 v0 v1 v2 v3 v4 g5 g6 (nI ed) g8 v9 (nI nb) g11 g12 v13 g14 g15 g16 g17 g18 g19 g20 g21 g22 g23 g24 g25 g26 v27 v28 v29 v30 v31 v32 v33 v34 v35 v36 v37 (nI ol)), (v37, .inl (cA 0, 100, .inl fo9))] sz)) (va_Qv (fun _ : Unit => True) (fun (_ : Unit) t => ∃ ol2 : Nat, ∃ zo9 : Nat → Int32, ol2 = ol + 1 ∧ Wq D (va_A [(oX10 w0 v0 v1 v2 v3 v4 g5 g6 (nI ed) g8 v9 (nI nb) g11 g12 v13 g14 g15 g16 g17 g18 g19 g20 g21 g22 g23 g24 g25 g26 v27 v28 v29 v30 v31 v32 v33 v34 v35 v36 v37 (nI ol)), (v37, .inl (cA 0, 100, .inl fo9))] sz) [(oX10 w0 v0 v1 v2 v3 v4 g5 g6 (nI ed) g8 v9 (nI nb) g11 g12 v13 g14 g15 g16 g17 g18 g19 g20 g21 g22 g23 g24 g25 g26 v27 v28 v29 v30 v31 v32 v33 v34 v35 v36 v37 (nI ol2)), (v37, .inl (cA 0, 100, .inl zo9))] t) (va_A [(oX10 w0 v0 v1 v2 v3 v4 g5 g6 (nI ed) g8 v9 (nI nb) g11 g12 v13 g14 g15 g16 g17 g18 g19 g20 g21 g22 g23 g24 g25 g26 v27 v28 v29 v30 v31 v32 v33 v34 v35 v36 v37 (nI ol)), (v37, .inl (cA 0, 100, .inl fo9))] sz)) 0 0 (va_A [(oX10 w0 v0 v1 v2 v3 v4 g5 g6 (nI ed) g8 v9 (nI nb) g11 g12 v13 g14 g15 g16 g17 g18 g19 g20 g21 g22 g23 g24 g25 g26 v27 v28 v29 v30 v31 v32 v33 v34 v35 v36 v37 (nI ol)), (v37, .inl (cA 0, 100, .inl fo9))] sz) := by
  refine Met.ofW (cc := cX10_put) (maxL := 2) (ret := none) (by decide) rfl ?_
  intro p e s m args below meth c s₁ B hml hv
  obtain ⟨rfl, hsz, hP, hK, hD0, hC, hZ⟩ := hv
  have hx := B.exec
  have hb := B.bytes
  have hr := B.returns
  have hts := atoms_spec (ws := wsX10_put) B.pre
  have hown : s.vm.findClass RX10 = some m.cls := findClass_of_methodNamed B.named
  have hlocks := B.notSynchronized
  subst hsz
  have hD := hD0.self (sz := s.heap.size)
  generalize hAe : va_A [(oX10 w0 v0 v1 v2 v3 v4 g5 g6 (nI ed) g8 v9 (nI nb) g11 g12 v13 g14 g15 g16 g17 g18 g19 g20 g21 g22 g23 g24 g25 g26 v27 v28 v29 v30 v31 v32 v33 v34 v35 v36 v37 (nI ol)), (v37, .inl (cA 0, 100, .inl fo9))] s.heap.size = A at hD hZ ⊢
  have hA : ∀ q : Nat, s.heap.size ≤ q → A q := fun q h => by rw [← hAe]; exact Or.inr h
  have hS : va_S A s.heap s.heap [] := va_S.rf
  have hP : va_P D vwCl [(oX10 w0 v0 v1 v2 v3 v4 g5 g6 (nI ed) g8 v9 (nI nb) g11 g12 v13 g14 g15 g16 g17 g18 g19 g20 g21 g22 g23 g24 g25 g26 v27 v28 v29 v30 v31 v32 v33 v34 v35 v36 v37 (nI ol)), (v37, .inl (cA 0, 100, .inl fo9))] s.heap := hP
  have hl := lv_entry ([.ref w0, .int a]) (n := 2) (Nat.le_of_ble_eq_true rfl)
  rw [lg_entry_eq]
  generalize (lg_sl ([.ref w0, .int a]) ++ List.replicate (2 - (lg_sl ([.ref w0, .int a])).length) Slot.unset).toArray = ls at hl ⊢
  have hl : lv_has ls 2 [(0, .ref w0), (1, .int a)] := hl
  have inX10 : ∀ w ∈ u_ws RX10 TX10 39, w ∈ wsX10_put := by decide +kernel
  refine lv_aload_n hx hb dX10_put_0 rfl (lv_at hl 0 rfl) ?_
  refine va_get (D := D) (ci := 11) (v := .ref v37) (C := RX10) (T := TX10) (N := 39) hx hb hts inX10 hown hK hP 0 rfl rfl 37 (by decide) (hts (.fieldLink RX10 67 "EscrowDeskModel" "output" "[I") (by decide +kernel)) (fun _ h9 => h9) rfl dX10_put_1 ?_
  refine lv_aload_n hx hb dX10_put_4 rfl (lv_at hl 0 rfl) ?_
  refine va_get (D := D) (ci := 11) (v := .int (nI ol)) (C := RX10) (T := TX10) (N := 39) hx hb hts inX10 hown hK hP 0 rfl rfl 38 (by decide) (hts (.fieldLink RX10 412 "EscrowDeskModel" "outputLength" "I") (by decide +kernel)) (fun _ h9 => h9) rfl dX10_put_5 ?_
  refine lv_iload_n hx hb dX10_put_8 rfl (lv_at hl 1 rfl) ?_
  refine va_iast hx hb hK hP hD hS 1 0 rfl rfl (vp_in_nI (n := ol) (N := 100) (show ol < 100 by omega) (by decide)) dX10_put_9 (fun H locs hP hD hS => ?_)
  obtain ⟨hP, hD⟩ : PDq D A [(oX10 w0 v0 v1 v2 v3 v4 g5 g6 (nI ed) g8 v9 (nI nb) g11 g12 v13 g14 g15 g16 g17 g18 g19 g20 g21 g22 g23 g24 g25 g26 v27 v28 v29 v30 v31 v32 v33 v34 v35 v36 v37 (nI ol)), (v37, .inl (cA 0, 100, .inl (upd fo9 (((nI ol)).toNatClampNeg) a)))] H := ⟨hP, hD⟩
  generalize (upd fo9 (((nI ol)).toNatClampNeg) a) = fn1 at hP hD
  obtain ⟨hP, hD⟩ : PDq D A [(oX10 w0 v0 v1 v2 v3 v4 g5 g6 (nI ed) g8 v9 (nI nb) g11 g12 v13 g14 g15 g16 g17 g18 g19 g20 g21 g22 g23 g24 g25 g26 v27 v28 v29 v30 v31 v32 v33 v34 v35 v36 v37 (nI ol)), (v37, .inl (cA 0, 100, .inl fn1))] H := ⟨hP, hD⟩
  refine lv_aload_n hx hb dX10_put_10 rfl (lv_at hl 0 rfl) ?_
  refine lv_dup hx hb dX10_put_11 rfl ?_
  refine va_get (D := D) (ci := 11) (v := .int (nI ol)) (C := RX10) (T := TX10) (N := 39) hx hb hts inX10 hown hK hP 0 rfl rfl 38 (by decide) (hts (.fieldLink RX10 412 "EscrowDeskModel" "outputLength" "I") (by decide +kernel)) (fun _ h9 => h9) rfl dX10_put_12 ?_
  refine lv_iconst (v := 1) hx hb dX10_put_15 (by decide) ?_
  refine lv_iadd hx hb dX10_put_16 ?_
  refine lv_topi (fun yn2 eyn2 => ?_)
  obtain rfl : yn2 = (nI (ol + 1)) := eyn2.trans (nI_add ol 1)
  refine va_put (D := D) (ci := 11) (v := .int (nI (ol + 1))) (ty := .int) (C := RX10) (T := TX10) (N := 39) hx hb hts inX10 tyX10 tyX10_ok nmX10 hown hK hP hD hS 0 rfl rfl 38 (by decide) (hts (.fieldLink RX10 412 "EscrowDeskModel" "outputLength" "I") (by decide +kernel)) (fun _ h9 => h9) rfl (by decide +kernel) rfl rfl (Nat.le_of_ble_eq_true rfl) dX10_put_17 (fun H locs hP hD hS => ?_)
  obtain ⟨hP, hD⟩ : PDq D A [(oX10 w0 v0 v1 v2 v3 v4 g5 g6 (nI ed) g8 v9 (nI nb) g11 g12 v13 g14 g15 g16 g17 g18 g19 g20 g21 g22 g23 g24 g25 g26 v27 v28 v29 v30 v31 v32 v33 v34 v35 v36 v37 (nI (ol + 1))), (v37, .inl (cA 0, 100, .inl fn1))] H := ⟨hP, hD⟩
  obtain ⟨hP9, hD9⟩ := PDq.sub (ws' := [(oX10 w0 v0 v1 v2 v3 v4 g5 g6 (nI ed) g8 v9 (nI nb) g11 g12 v13 g14 g15 g16 g17 g18 g19 g20 g21 g22 g23 g24 g25 g26 v27 v28 v29 v30 v31 v32 v33 v34 v35 v36 v37 (nI (ol + 1))), (v37, .inl (cA 0, 100, .inl fn1))]) hP hD [0, 1] (by decide) rfl
  refine W.widen (k := 0) (n := 0) (Nat.le_of_ble_eq_true rfl) (Nat.le_of_ble_eq_true rfl) ?_
  exact (W.vret hx hb hr (fun t ht hW => ⟨⟨(), rfl, trivial, (ol + 1), fn1, (by omega), by rw [ht]; exact hP9, hD9⟩, hS.F ht⟩) hS.2.2 dX10_put_20)

set_option maxHeartbeats 4000000 in
set_option maxRecDepth 100000 in
/-- reference: putNumber -/
theorem r_putNumber (l : Launch) (D : va_G) (cA : Nat → ClassId) (sa : Nat → Nat) (w0 : Nat) (ed : Nat) (nb : Nat) (ol : Nat) (v0 : Nat) (v1 : Nat) (v2 : Nat) (v3 : Nat) (v4 : Nat) (v9 : Nat) (v13 : Nat) (v27 : Nat) (v28 : Nat) (v29 : Nat) (v30 : Nat) (v31 : Nat) (v32 : Nat) (v33 : Nat) (v34 : Nat) (v35 : Nat) (v36 : Nat) (v37 : Nat) (g8 : Int32) (g11 : Int32) (g12 : Int32) (g14 : Int32) (g15 : Int32) (g16 : Int32) (g17 : Int32) (g18 : Int32) (g19 : Int32) (g20 : Int32) (g21 : Int32) (g22 : Int32) (g23 : Int32) (g24 : Int32) (g26 : Int32) (g5 : Int64) (g6 : Int64) (g25 : Int64) (fo9 : Nat → Int32) (a : Int32) (sz : Nat) (hol : ol + 10 ≤ 100) : Met l yX10_putNumber wsX10_putNumber ({ frames := 1, cells := 0, slots := 0, locals := 21 }) (va_Pc [.ref w0, .int a] (Wd D cA sa [(oX10 w0 v0 v1 v2 v3 v4 g5 g6 (nI ed) g8 v9 (nI nb) g11 g12 v13 g14 g15 g16 g17 g18 g19 g20 g21 g22 g23 g24 g25 g26 v27 v28 v29 v30 v31 v32 v33 v34 v35 v36 v37 (nI ol)), (v37, .inl (cA 0, 100, .inl fo9))] sz)) (va_Qv (fun _ : Unit => True) (fun (_ : Unit) t => ∃ ol2 : Nat, ∃ zo9 : Nat → Int32, ol2 ≤ ol + 10 ∧ Wq D (va_A [(oX10 w0 v0 v1 v2 v3 v4 g5 g6 (nI ed) g8 v9 (nI nb) g11 g12 v13 g14 g15 g16 g17 g18 g19 g20 g21 g22 g23 g24 g25 g26 v27 v28 v29 v30 v31 v32 v33 v34 v35 v36 v37 (nI ol)), (v37, .inl (cA 0, 100, .inl fo9))] sz) [(oX10 w0 v0 v1 v2 v3 v4 g5 g6 (nI ed) g8 v9 (nI nb) g11 g12 v13 g14 g15 g16 g17 g18 g19 g20 g21 g22 g23 g24 g25 g26 v27 v28 v29 v30 v31 v32 v33 v34 v35 v36 v37 (nI ol2)), (v37, .inl (cA 0, 100, .inl zo9))] t) (va_A [(oX10 w0 v0 v1 v2 v3 v4 g5 g6 (nI ed) g8 v9 (nI nb) g11 g12 v13 g14 g15 g16 g17 g18 g19 g20 g21 g22 g23 g24 g25 g26 v27 v28 v29 v30 v31 v32 v33 v34 v35 v36 v37 (nI ol)), (v37, .inl (cA 0, 100, .inl fo9))] sz)) 0 0 (va_A [(oX10 w0 v0 v1 v2 v3 v4 g5 g6 (nI ed) g8 v9 (nI nb) g11 g12 v13 g14 g15 g16 g17 g18 g19 g20 g21 g22 g23 g24 g25 g26 v27 v28 v29 v30 v31 v32 v33 v34 v35 v36 v37 (nI ol)), (v37, .inl (cA 0, 100, .inl fo9))] sz) := by
  refine Met.ofW (cc := cX10_putNumber) (maxL := 3) (ret := none) (by decide) rfl ?_
  intro p e s m args below meth c s₁ B hml hv
  obtain ⟨rfl, hsz, hP, hK, hD0, hC, hZ⟩ := hv
  have hx := B.exec
  have hb := B.bytes
  have hr := B.returns
  have hts := atoms_spec (ws := wsX10_putNumber) B.pre
  have hown : s.vm.findClass RX10 = some m.cls := findClass_of_methodNamed B.named
  have hlocks := B.notSynchronized
  subst hsz
  have hD := hD0.self (sz := s.heap.size)
  generalize hAe : va_A [(oX10 w0 v0 v1 v2 v3 v4 g5 g6 (nI ed) g8 v9 (nI nb) g11 g12 v13 g14 g15 g16 g17 g18 g19 g20 g21 g22 g23 g24 g25 g26 v27 v28 v29 v30 v31 v32 v33 v34 v35 v36 v37 (nI ol)), (v37, .inl (cA 0, 100, .inl fo9))] s.heap.size = A at hD hZ ⊢
  have hA : ∀ q : Nat, s.heap.size ≤ q → A q := fun q h => by rw [← hAe]; exact Or.inr h
  have hS : va_S A s.heap s.heap [] := va_S.rf
  have hP : va_P D vwCl [(oX10 w0 v0 v1 v2 v3 v4 g5 g6 (nI ed) g8 v9 (nI nb) g11 g12 v13 g14 g15 g16 g17 g18 g19 g20 g21 g22 g23 g24 g25 g26 v27 v28 v29 v30 v31 v32 v33 v34 v35 v36 v37 (nI ol)), (v37, .inl (cA 0, 100, .inl fo9))] s.heap := hP
  have hl := lv_entry ([.ref w0, .int a]) (n := 3) (Nat.le_of_ble_eq_true rfl)
  rw [lg_entry_eq]
  generalize (lg_sl ([.ref w0, .int a]) ++ List.replicate (3 - (lg_sl ([.ref w0, .int a])).length) Slot.unset).toArray = ls at hl ⊢
  have hl : lv_has ls 3 [(0, .ref w0), (1, .int a)] := hl
  refine lv_iconst (v := 1) hx hb dX10_putNumber_0 (by decide) ?_
  refine lv_istore_n (lv' := [(2, .int 1), (0, .ref w0), (1, .int a)]) hx hb dX10_putNumber_1 rfl hl (by decide) rfl (fun ls hl => ?_)
  refine lv_iload_n hx hb dX10_putNumber_2 rfl (lv_at hl 2 rfl) ?_
  refine lv_iload_n hx hb dX10_putNumber_3 rfl (lv_at hl 0 rfl) ?_
  refine lv_idiv hx hb dX10_putNumber_4 (by decide) ?_
  refine lv_topi (fun yn1 eyn1 => ?_)
  refine lv_bipush (v := 9) hx hb dX10_putNumber_5 (by decide) ?_
  refine lv_icmp_le (tgt := 18) hx hb dX10_putNumber_7 (by decide) (fun c2 => ?_) (fun c2 => ?_)
  · skip
    refine lv_iload_n hx hb dX10_putNumber_18 rfl (lv_at hl 0 rfl) ?_
    refine lv_if_le (tgt := 43) hx hb dX10_putNumber_19 (by decide) (fun c9 => absurd c9 (by decide)) (fun c3 => ?_)
    refine lv_aload_n hx hb dX10_putNumber_22 rfl (lv_at hl 1 rfl) ?_
    refine lv_bipush (v := 48) hx hb dX10_putNumber_23 (by decide) ?_
    refine lv_iload_n hx hb dX10_putNumber_25 rfl (lv_at hl 2 rfl) ?_
    refine lv_iload_n hx hb dX10_putNumber_26 rfl (lv_at hl 0 rfl) ?_
    refine lv_idiv hx hb dX10_putNumber_27 (by decide) ?_
    refine lv_topi (fun yn4 eyn4 => ?_)
    refine lv_bipush (v := 10) hx hb dX10_putNumber_28 (by decide) ?_
    refine lv_irem hx hb dX10_putNumber_30 (by decide) ?_
    refine lv_topi (fun yn5 eyn5 => ?_)
    refine lv_iadd hx hb dX10_putNumber_31 ?_
    refine lv_topi (fun yn6 eyn6 => ?_)
    obtain ⟨hPc, hDc, hFc⟩ := PDq.cut (wc := [(oX10 w0 v0 v1 v2 v3 v4 g5 g6 (nI ed) g8 v9 (nI nb) g11 g12 v13 g14 g15 g16 g17 g18 g19 g20 g21 g22 g23 g24 g25 g26 v27 v28 v29 v30 v31 v32 v33 v34 v35 v36 v37 (nI ol)), (v37, .inl (cA 0, 100, .inl fo9))]) hP hD hS hA [0, 1] (by decide) rfl
    refine va_callv (va_runV (As := [.int yn6]) (rest := []) ⟨hx, hb, hml, hown, hts⟩ (r_put l D cA sa w0 ed nb ol v0 v1 v2 v3 v4 v9 v13 v27 v28 v29 v30 v31 v32 v33 v34 v35 v36 v37 g8 g11 g12 g14 g15 g16 g17 g18 g19 g20 g21 g22 g23 g24 g26 g5 g6 g25 fo9 yn6 s.heap.size (by omega)) (cwV 1 hts gX10_putNumber_X10_put rfl rfl rfl (by decide +kernel) ⟨(Nat.le_of_ble_eq_true rfl), (Nat.le_of_ble_eq_true rfl)⟩) ⟨Wd.blind, va_recv hK hPc (ci := 11) (q0 := 0) rfl rfl, fun U hU hW => ⟨rfl, Wd.call hPc hDc hK hC hZ hS hFc U hU hW⟩⟩ rfl rfl hl.1 rfl (lv_room (Nat.le_of_ble_eq_true rfl)) dX10_putNumber_32 ⟨(Nat.le_of_ble_eq_true rfl), (Nat.le_of_ble_eq_true rfl)⟩) hS (fun q _ h => hFc q h) hFc (fun u t H1 locs ht hvm hw hB hz1 hk1 hS => ?_)
    obtain ⟨qn7, fn8, hn9, hP1, hD1⟩ := hB
    rw [ht] at hP1
    obtain ⟨hP, hD⟩ := PDq.join (w := [(oX10 w0 v0 v1 v2 v3 v4 g5 g6 (nI ed) g8 v9 (nI nb) g11 g12 v13 g14 g15 g16 g17 g18 g19 g20 g21 g22 g23 g24 g25 g26 v27 v28 v29 v30 v31 v32 v33 v34 v35 v36 v37 (nI qn7)), (v37, .inl (cA 0, 100, .inl fn8))]) 0 hP hD [0, 1] [] rfl rfl (by decide) (by decide) hk1 hFc hP1 hD1 rfl
    generalize H1 = H at hP hS ⊢
    refine lv_iload_n hx hb dX10_putNumber_35 rfl (lv_at hl 0 rfl) ?_
    refine lv_bipush (v := 10) hx hb dX10_putNumber_36 (by decide) ?_
    refine lv_idiv hx hb dX10_putNumber_38 (by decide) ?_
    refine lv_topi (fun yn10 eyn10 => ?_)
    obtain rfl : yn10 = 0 := eyn10.trans (by first | rfl | decide +kernel)
    refine lv_istore_n (lv' := [(2, .int 0), (0, .ref w0), (1, .int a)]) hx hb dX10_putNumber_39 rfl hl (by decide) rfl (fun ls hl => ?_)
    refine lv_goto (tgt := 18) hx hb dX10_putNumber_40 (by decide) ?_
    refine lv_iload_n hx hb dX10_putNumber_18 rfl (lv_at hl 0 rfl) ?_
    refine lv_if_le (tgt := 43) hx hb dX10_putNumber_19 (by decide) (fun c11 => ?_) (fun c9 => absurd c9 (by decide))
    obtain ⟨hP9, hD9⟩ := PDq.sub (ws' := [(oX10 w0 v0 v1 v2 v3 v4 g5 g6 (nI ed) g8 v9 (nI nb) g11 g12 v13 g14 g15 g16 g17 g18 g19 g20 g21 g22 g23 g24 g25 g26 v27 v28 v29 v30 v31 v32 v33 v34 v35 v36 v37 (nI qn7)), (v37, .inl (cA 0, 100, .inl fn8))]) hP hD [0, 1] (by decide) rfl
    refine W.widen (k := 0) (n := 0) (Nat.le_of_ble_eq_true rfl) (Nat.le_of_ble_eq_true rfl) ?_
    exact (W.vret hx hb hr (fun t ht hW => ⟨⟨(), rfl, trivial, qn7, fn8, (by omega), by rw [ht]; exact hP9, hD9⟩, hS.F ht⟩) hS.2.2 dX10_putNumber_43)
  · skip
    refine lv_bipush (v := 10) hx hb dX10_putNumber_10 (by decide) ?_
    refine lv_iload_n hx hb dX10_putNumber_12 rfl (lv_at hl 0 rfl) ?_
    refine lv_imul hx hb dX10_putNumber_13 ?_
    refine lv_topi (fun yn12 eyn12 => ?_)
    obtain rfl : yn12 = 10 := eyn12.trans (by first | rfl | decide +kernel)
    refine lv_istore_n (lv' := [(2, .int 10), (0, .ref w0), (1, .int a)]) hx hb dX10_putNumber_14 rfl hl (by decide) rfl (fun ls hl => ?_)
    refine lv_goto (tgt := 2) hx hb dX10_putNumber_15 (by decide) ?_
    refine lv_iload_n hx hb dX10_putNumber_2 rfl (lv_at hl 2 rfl) ?_
    refine lv_iload_n hx hb dX10_putNumber_3 rfl (lv_at hl 0 rfl) ?_
    refine lv_idiv hx hb dX10_putNumber_4 (by decide) ?_
    refine lv_topi (fun yn13 eyn13 => ?_)
    refine lv_bipush (v := 9) hx hb dX10_putNumber_5 (by decide) ?_
    refine lv_icmp_le (tgt := 18) hx hb dX10_putNumber_7 (by decide) (fun c14 => ?_) (fun c14 => ?_)
    · skip
      refine lv_iload_n hx hb dX10_putNumber_18 rfl (lv_at hl 0 rfl) ?_
      refine lv_if_le (tgt := 43) hx hb dX10_putNumber_19 (by decide) (fun c9 => absurd c9 (by decide)) (fun c15 => ?_)
      refine lv_aload_n hx hb dX10_putNumber_22 rfl (lv_at hl 1 rfl) ?_
      refine lv_bipush (v := 48) hx hb dX10_putNumber_23 (by decide) ?_
      refine lv_iload_n hx hb dX10_putNumber_25 rfl (lv_at hl 2 rfl) ?_
      refine lv_iload_n hx hb dX10_putNumber_26 rfl (lv_at hl 0 rfl) ?_
      refine lv_idiv hx hb dX10_putNumber_27 (by decide) ?_
      refine lv_topi (fun yn16 eyn16 => ?_)
      refine lv_bipush (v := 10) hx hb dX10_putNumber_28 (by decide) ?_
      refine lv_irem hx hb dX10_putNumber_30 (by decide) ?_
      refine lv_topi (fun yn17 eyn17 => ?_)
      refine lv_iadd hx hb dX10_putNumber_31 ?_
      refine lv_topi (fun yn18 eyn18 => ?_)
      obtain ⟨hPc, hDc, hFc⟩ := PDq.cut (wc := [(oX10 w0 v0 v1 v2 v3 v4 g5 g6 (nI ed) g8 v9 (nI nb) g11 g12 v13 g14 g15 g16 g17 g18 g19 g20 g21 g22 g23 g24 g25 g26 v27 v28 v29 v30 v31 v32 v33 v34 v35 v36 v37 (nI ol)), (v37, .inl (cA 0, 100, .inl fo9))]) hP hD hS hA [0, 1] (by decide) rfl
      refine va_callv (va_runV (As := [.int yn18]) (rest := []) ⟨hx, hb, hml, hown, hts⟩ (r_put l D cA sa w0 ed nb ol v0 v1 v2 v3 v4 v9 v13 v27 v28 v29 v30 v31 v32 v33 v34 v35 v36 v37 g8 g11 g12 g14 g15 g16 g17 g18 g19 g20 g21 g22 g23 g24 g26 g5 g6 g25 fo9 yn18 s.heap.size (by omega)) (cwV 1 hts gX10_putNumber_X10_put rfl rfl rfl (by decide +kernel) ⟨(Nat.le_of_ble_eq_true rfl), (Nat.le_of_ble_eq_true rfl)⟩) ⟨Wd.blind, va_recv hK hPc (ci := 11) (q0 := 0) rfl rfl, fun U hU hW => ⟨rfl, Wd.call hPc hDc hK hC hZ hS hFc U hU hW⟩⟩ rfl rfl hl.1 rfl (lv_room (Nat.le_of_ble_eq_true rfl)) dX10_putNumber_32 ⟨(Nat.le_of_ble_eq_true rfl), (Nat.le_of_ble_eq_true rfl)⟩) hS (fun q _ h => hFc q h) hFc (fun u t H1 locs ht hvm hw hB hz1 hk1 hS => ?_)
      obtain ⟨qn19, fn20, hn21, hP1, hD1⟩ := hB
      rw [ht] at hP1
      obtain ⟨hP, hD⟩ := PDq.join (w := [(oX10 w0 v0 v1 v2 v3 v4 g5 g6 (nI ed) g8 v9 (nI nb) g11 g12 v13 g14 g15 g16 g17 g18 g19 g20 g21 g22 g23 g24 g25 g26 v27 v28 v29 v30 v31 v32 v33 v34 v35 v36 v37 (nI qn19)), (v37, .inl (cA 0, 100, .inl fn20))]) 0 hP hD [0, 1] [] rfl rfl (by decide) (by decide) hk1 hFc hP1 hD1 rfl
      generalize H1 = H at hP hS ⊢
      refine lv_iload_n hx hb dX10_putNumber_35 rfl (lv_at hl 0 rfl) ?_
      refine lv_bipush (v := 10) hx hb dX10_putNumber_36 (by decide) ?_
      refine lv_idiv hx hb dX10_putNumber_38 (by decide) ?_
      refine lv_topi (fun yn22 eyn22 => ?_)
      obtain rfl : yn22 = 1 := eyn22.trans (by first | rfl | decide +kernel)
      refine lv_istore_n (lv' := [(2, .int 1), (0, .ref w0), (1, .int a)]) hx hb dX10_putNumber_39 rfl hl (by decide) rfl (fun ls hl => ?_)
      refine lv_goto (tgt := 18) hx hb dX10_putNumber_40 (by decide) ?_
      refine lv_iload_n hx hb dX10_putNumber_18 rfl (lv_at hl 0 rfl) ?_
      refine lv_if_le (tgt := 43) hx hb dX10_putNumber_19 (by decide) (fun c9 => absurd c9 (by decide)) (fun c23 => ?_)
      refine lv_aload_n hx hb dX10_putNumber_22 rfl (lv_at hl 1 rfl) ?_
      refine lv_bipush (v := 48) hx hb dX10_putNumber_23 (by decide) ?_
      refine lv_iload_n hx hb dX10_putNumber_25 rfl (lv_at hl 2 rfl) ?_
      refine lv_iload_n hx hb dX10_putNumber_26 rfl (lv_at hl 0 rfl) ?_
      refine lv_idiv hx hb dX10_putNumber_27 (by decide) ?_
      refine lv_topi (fun yn24 eyn24 => ?_)
      refine lv_bipush (v := 10) hx hb dX10_putNumber_28 (by decide) ?_
      refine lv_irem hx hb dX10_putNumber_30 (by decide) ?_
      refine lv_topi (fun yn25 eyn25 => ?_)
      refine lv_iadd hx hb dX10_putNumber_31 ?_
      refine lv_topi (fun yn26 eyn26 => ?_)
      obtain ⟨hPc, hDc, hFc⟩ := PDq.cut (wc := [(oX10 w0 v0 v1 v2 v3 v4 g5 g6 (nI ed) g8 v9 (nI nb) g11 g12 v13 g14 g15 g16 g17 g18 g19 g20 g21 g22 g23 g24 g25 g26 v27 v28 v29 v30 v31 v32 v33 v34 v35 v36 v37 (nI qn19)), (v37, .inl (cA 0, 100, .inl fn20))]) hP hD hS hA [0, 1] (by decide) rfl
      refine va_callv (va_runV (As := [.int yn26]) (rest := []) ⟨hx, hb, hml, hown, hts⟩ (r_put l D cA sa w0 ed nb qn19 v0 v1 v2 v3 v4 v9 v13 v27 v28 v29 v30 v31 v32 v33 v34 v35 v36 v37 g8 g11 g12 g14 g15 g16 g17 g18 g19 g20 g21 g22 g23 g24 g26 g5 g6 g25 fn20 yn26 H.size (by omega)) (cwV 1 hts gX10_putNumber_X10_put rfl rfl rfl (by decide +kernel) ⟨(Nat.le_of_ble_eq_true rfl), (Nat.le_of_ble_eq_true rfl)⟩) ⟨Wd.blind, va_recv hK hPc (ci := 11) (q0 := 0) rfl rfl, fun U hU hW => ⟨rfl, Wd.call hPc hDc hK hC hZ hS hFc U hU hW⟩⟩ rfl rfl hl.1 rfl (lv_room (Nat.le_of_ble_eq_true rfl)) dX10_putNumber_32 ⟨(Nat.le_of_ble_eq_true rfl), (Nat.le_of_ble_eq_true rfl)⟩) hS (fun q _ h => hFc q h) hFc (fun u t H1 locs ht hvm hw hB hz1 hk1 hS => ?_)
      obtain ⟨qn27, fn28, hn29, hP1, hD1⟩ := hB
      rw [ht] at hP1
      obtain ⟨hP, hD⟩ := PDq.join (w := [(oX10 w0 v0 v1 v2 v3 v4 g5 g6 (nI ed) g8 v9 (nI nb) g11 g12 v13 g14 g15 g16 g17 g18 g19 g20 g21 g22 g23 g24 g25 g26 v27 v28 v29 v30 v31 v32 v33 v34 v35 v36 v37 (nI qn27)), (v37, .inl (cA 0, 100, .inl fn28))]) 0 hP hD [0, 1] [] rfl rfl (by decide) (by decide) hk1 hFc hP1 hD1 rfl
      generalize H1 = H at hP hS ⊢
      refine lv_iload_n hx hb dX10_putNumber_35 rfl (lv_at hl 0 rfl) ?_
      refine lv_bipush (v := 10) hx hb dX10_putNumber_36 (by decide) ?_
      refine lv_idiv hx hb dX10_putNumber_38 (by decide) ?_
      refine lv_topi (fun yn30 eyn30 => ?_)
      obtain rfl : yn30 = 0 := eyn30.trans (by first | rfl | decide +kernel)
      refine lv_istore_n (lv' := [(2, .int 0), (0, .ref w0), (1, .int a)]) hx hb dX10_putNumber_39 rfl hl (by decide) rfl (fun ls hl => ?_)
      refine lv_goto (tgt := 18) hx hb dX10_putNumber_40 (by decide) ?_
      refine lv_iload_n hx hb dX10_putNumber_18 rfl (lv_at hl 0 rfl) ?_
      refine lv_if_le (tgt := 43) hx hb dX10_putNumber_19 (by decide) (fun c31 => ?_) (fun c9 => absurd c9 (by decide))
      obtain ⟨hP9, hD9⟩ := PDq.sub (ws' := [(oX10 w0 v0 v1 v2 v3 v4 g5 g6 (nI ed) g8 v9 (nI nb) g11 g12 v13 g14 g15 g16 g17 g18 g19 g20 g21 g22 g23 g24 g25 g26 v27 v28 v29 v30 v31 v32 v33 v34 v35 v36 v37 (nI qn27)), (v37, .inl (cA 0, 100, .inl fn28))]) hP hD [0, 1] (by decide) rfl
      refine W.widen (k := 0) (n := 0) (Nat.le_of_ble_eq_true rfl) (Nat.le_of_ble_eq_true rfl) ?_
      exact (W.vret hx hb hr (fun t ht hW => ⟨⟨(), rfl, trivial, qn27, fn28, (by omega), by rw [ht]; exact hP9, hD9⟩, hS.F ht⟩) hS.2.2 dX10_putNumber_43)
    · skip
      refine lv_bipush (v := 10) hx hb dX10_putNumber_10 (by decide) ?_
      refine lv_iload_n hx hb dX10_putNumber_12 rfl (lv_at hl 0 rfl) ?_
      refine lv_imul hx hb dX10_putNumber_13 ?_
      refine lv_topi (fun yn32 eyn32 => ?_)
      obtain rfl : yn32 = 100 := eyn32.trans (by first | rfl | decide +kernel)
      refine lv_istore_n (lv' := [(2, .int 100), (0, .ref w0), (1, .int a)]) hx hb dX10_putNumber_14 rfl hl (by decide) rfl (fun ls hl => ?_)
      refine lv_goto (tgt := 2) hx hb dX10_putNumber_15 (by decide) ?_
      refine lv_iload_n hx hb dX10_putNumber_2 rfl (lv_at hl 2 rfl) ?_
      refine lv_iload_n hx hb dX10_putNumber_3 rfl (lv_at hl 0 rfl) ?_
      refine lv_idiv hx hb dX10_putNumber_4 (by decide) ?_
      refine lv_topi (fun yn33 eyn33 => ?_)
      refine lv_bipush (v := 9) hx hb dX10_putNumber_5 (by decide) ?_
      refine lv_icmp_le (tgt := 18) hx hb dX10_putNumber_7 (by decide) (fun c34 => ?_) (fun c34 => ?_)
      · skip
        refine lv_iload_n hx hb dX10_putNumber_18 rfl (lv_at hl 0 rfl) ?_
        refine lv_if_le (tgt := 43) hx hb dX10_putNumber_19 (by decide) (fun c9 => absurd c9 (by decide)) (fun c35 => ?_)
        refine lv_aload_n hx hb dX10_putNumber_22 rfl (lv_at hl 1 rfl) ?_
        refine lv_bipush (v := 48) hx hb dX10_putNumber_23 (by decide) ?_
        refine lv_iload_n hx hb dX10_putNumber_25 rfl (lv_at hl 2 rfl) ?_
        refine lv_iload_n hx hb dX10_putNumber_26 rfl (lv_at hl 0 rfl) ?_
        refine lv_idiv hx hb dX10_putNumber_27 (by decide) ?_
        refine lv_topi (fun yn36 eyn36 => ?_)
        refine lv_bipush (v := 10) hx hb dX10_putNumber_28 (by decide) ?_
        refine lv_irem hx hb dX10_putNumber_30 (by decide) ?_
        refine lv_topi (fun yn37 eyn37 => ?_)
        refine lv_iadd hx hb dX10_putNumber_31 ?_
        refine lv_topi (fun yn38 eyn38 => ?_)
        obtain ⟨hPc, hDc, hFc⟩ := PDq.cut (wc := [(oX10 w0 v0 v1 v2 v3 v4 g5 g6 (nI ed) g8 v9 (nI nb) g11 g12 v13 g14 g15 g16 g17 g18 g19 g20 g21 g22 g23 g24 g25 g26 v27 v28 v29 v30 v31 v32 v33 v34 v35 v36 v37 (nI ol)), (v37, .inl (cA 0, 100, .inl fo9))]) hP hD hS hA [0, 1] (by decide) rfl
        refine va_callv (va_runV (As := [.int yn38]) (rest := []) ⟨hx, hb, hml, hown, hts⟩ (r_put l D cA sa w0 ed nb ol v0 v1 v2 v3 v4 v9 v13 v27 v28 v29 v30 v31 v32 v33 v34 v35 v36 v37 g8 g11 g12 g14 g15 g16 g17 g18 g19 g20 g21 g22 g23 g24 g26 g5 g6 g25 fo9 yn38 s.heap.size (by omega)) (cwV 1 hts gX10_putNumber_X10_put rfl rfl rfl (by decide +kernel) ⟨(Nat.le_of_ble_eq_true rfl), (Nat.le_of_ble_eq_true rfl)⟩) ⟨Wd.blind, va_recv hK hPc (ci := 11) (q0 := 0) rfl rfl, fun U hU hW => ⟨rfl, Wd.call hPc hDc hK hC hZ hS hFc U hU hW⟩⟩ rfl rfl hl.1 rfl (lv_room (Nat.le_of_ble_eq_true rfl)) dX10_putNumber_32 ⟨(Nat.le_of_ble_eq_true rfl), (Nat.le_of_ble_eq_true rfl)⟩) hS (fun q _ h => hFc q h) hFc (fun u t H1 locs ht hvm hw hB hz1 hk1 hS => ?_)
        obtain ⟨qn39, fn40, hn41, hP1, hD1⟩ := hB
        rw [ht] at hP1
        obtain ⟨hP, hD⟩ := PDq.join (w := [(oX10 w0 v0 v1 v2 v3 v4 g5 g6 (nI ed) g8 v9 (nI nb) g11 g12 v13 g14 g15 g16 g17 g18 g19 g20 g21 g22 g23 g24 g25 g26 v27 v28 v29 v30 v31 v32 v33 v34 v35 v36 v37 (nI qn39)), (v37, .inl (cA 0, 100, .inl fn40))]) 0 hP hD [0, 1] [] rfl rfl (by decide) (by decide) hk1 hFc hP1 hD1 rfl
        generalize H1 = H at hP hS ⊢
        refine lv_iload_n hx hb dX10_putNumber_35 rfl (lv_at hl 0 rfl) ?_
        refine lv_bipush (v := 10) hx hb dX10_putNumber_36 (by decide) ?_
        refine lv_idiv hx hb dX10_putNumber_38 (by decide) ?_
        refine lv_topi (fun yn42 eyn42 => ?_)
        obtain rfl : yn42 = 10 := eyn42.trans (by first | rfl | decide +kernel)
        refine lv_istore_n (lv' := [(2, .int 10), (0, .ref w0), (1, .int a)]) hx hb dX10_putNumber_39 rfl hl (by decide) rfl (fun ls hl => ?_)
        refine lv_goto (tgt := 18) hx hb dX10_putNumber_40 (by decide) ?_
        refine lv_iload_n hx hb dX10_putNumber_18 rfl (lv_at hl 0 rfl) ?_
        refine lv_if_le (tgt := 43) hx hb dX10_putNumber_19 (by decide) (fun c9 => absurd c9 (by decide)) (fun c43 => ?_)
        refine lv_aload_n hx hb dX10_putNumber_22 rfl (lv_at hl 1 rfl) ?_
        refine lv_bipush (v := 48) hx hb dX10_putNumber_23 (by decide) ?_
        refine lv_iload_n hx hb dX10_putNumber_25 rfl (lv_at hl 2 rfl) ?_
        refine lv_iload_n hx hb dX10_putNumber_26 rfl (lv_at hl 0 rfl) ?_
        refine lv_idiv hx hb dX10_putNumber_27 (by decide) ?_
        refine lv_topi (fun yn44 eyn44 => ?_)
        refine lv_bipush (v := 10) hx hb dX10_putNumber_28 (by decide) ?_
        refine lv_irem hx hb dX10_putNumber_30 (by decide) ?_
        refine lv_topi (fun yn45 eyn45 => ?_)
        refine lv_iadd hx hb dX10_putNumber_31 ?_
        refine lv_topi (fun yn46 eyn46 => ?_)
        obtain ⟨hPc, hDc, hFc⟩ := PDq.cut (wc := [(oX10 w0 v0 v1 v2 v3 v4 g5 g6 (nI ed) g8 v9 (nI nb) g11 g12 v13 g14 g15 g16 g17 g18 g19 g20 g21 g22 g23 g24 g25 g26 v27 v28 v29 v30 v31 v32 v33 v34 v35 v36 v37 (nI qn39)), (v37, .inl (cA 0, 100, .inl fn40))]) hP hD hS hA [0, 1] (by decide) rfl
        refine va_callv (va_runV (As := [.int yn46]) (rest := []) ⟨hx, hb, hml, hown, hts⟩ (r_put l D cA sa w0 ed nb qn39 v0 v1 v2 v3 v4 v9 v13 v27 v28 v29 v30 v31 v32 v33 v34 v35 v36 v37 g8 g11 g12 g14 g15 g16 g17 g18 g19 g20 g21 g22 g23 g24 g26 g5 g6 g25 fn40 yn46 H.size (by omega)) (cwV 1 hts gX10_putNumber_X10_put rfl rfl rfl (by decide +kernel) ⟨(Nat.le_of_ble_eq_true rfl), (Nat.le_of_ble_eq_true rfl)⟩) ⟨Wd.blind, va_recv hK hPc (ci := 11) (q0 := 0) rfl rfl, fun U hU hW => ⟨rfl, Wd.call hPc hDc hK hC hZ hS hFc U hU hW⟩⟩ rfl rfl hl.1 rfl (lv_room (Nat.le_of_ble_eq_true rfl)) dX10_putNumber_32 ⟨(Nat.le_of_ble_eq_true rfl), (Nat.le_of_ble_eq_true rfl)⟩) hS (fun q _ h => hFc q h) hFc (fun u t H1 locs ht hvm hw hB hz1 hk1 hS => ?_)
        obtain ⟨qn47, fn48, hn49, hP1, hD1⟩ := hB
        rw [ht] at hP1
        obtain ⟨hP, hD⟩ := PDq.join (w := [(oX10 w0 v0 v1 v2 v3 v4 g5 g6 (nI ed) g8 v9 (nI nb) g11 g12 v13 g14 g15 g16 g17 g18 g19 g20 g21 g22 g23 g24 g25 g26 v27 v28 v29 v30 v31 v32 v33 v34 v35 v36 v37 (nI qn47)), (v37, .inl (cA 0, 100, .inl fn48))]) 0 hP hD [0, 1] [] rfl rfl (by decide) (by decide) hk1 hFc hP1 hD1 rfl
        generalize H1 = H at hP hS ⊢
        refine lv_iload_n hx hb dX10_putNumber_35 rfl (lv_at hl 0 rfl) ?_
        refine lv_bipush (v := 10) hx hb dX10_putNumber_36 (by decide) ?_
        refine lv_idiv hx hb dX10_putNumber_38 (by decide) ?_
        refine lv_topi (fun yn50 eyn50 => ?_)
        obtain rfl : yn50 = 1 := eyn50.trans (by first | rfl | decide +kernel)
        refine lv_istore_n (lv' := [(2, .int 1), (0, .ref w0), (1, .int a)]) hx hb dX10_putNumber_39 rfl hl (by decide) rfl (fun ls hl => ?_)
        refine lv_goto (tgt := 18) hx hb dX10_putNumber_40 (by decide) ?_
        refine lv_iload_n hx hb dX10_putNumber_18 rfl (lv_at hl 0 rfl) ?_
        refine lv_if_le (tgt := 43) hx hb dX10_putNumber_19 (by decide) (fun c9 => absurd c9 (by decide)) (fun c51 => ?_)
        refine lv_aload_n hx hb dX10_putNumber_22 rfl (lv_at hl 1 rfl) ?_
        refine lv_bipush (v := 48) hx hb dX10_putNumber_23 (by decide) ?_
        refine lv_iload_n hx hb dX10_putNumber_25 rfl (lv_at hl 2 rfl) ?_
        refine lv_iload_n hx hb dX10_putNumber_26 rfl (lv_at hl 0 rfl) ?_
        refine lv_idiv hx hb dX10_putNumber_27 (by decide) ?_
        refine lv_topi (fun yn52 eyn52 => ?_)
        refine lv_bipush (v := 10) hx hb dX10_putNumber_28 (by decide) ?_
        refine lv_irem hx hb dX10_putNumber_30 (by decide) ?_
        refine lv_topi (fun yn53 eyn53 => ?_)
        refine lv_iadd hx hb dX10_putNumber_31 ?_
        refine lv_topi (fun yn54 eyn54 => ?_)
        obtain ⟨hPc, hDc, hFc⟩ := PDq.cut (wc := [(oX10 w0 v0 v1 v2 v3 v4 g5 g6 (nI ed) g8 v9 (nI nb) g11 g12 v13 g14 g15 g16 g17 g18 g19 g20 g21 g22 g23 g24 g25 g26 v27 v28 v29 v30 v31 v32 v33 v34 v35 v36 v37 (nI qn47)), (v37, .inl (cA 0, 100, .inl fn48))]) hP hD hS hA [0, 1] (by decide) rfl
        refine va_callv (va_runV (As := [.int yn54]) (rest := []) ⟨hx, hb, hml, hown, hts⟩ (r_put l D cA sa w0 ed nb qn47 v0 v1 v2 v3 v4 v9 v13 v27 v28 v29 v30 v31 v32 v33 v34 v35 v36 v37 g8 g11 g12 g14 g15 g16 g17 g18 g19 g20 g21 g22 g23 g24 g26 g5 g6 g25 fn48 yn54 H.size (by omega)) (cwV 1 hts gX10_putNumber_X10_put rfl rfl rfl (by decide +kernel) ⟨(Nat.le_of_ble_eq_true rfl), (Nat.le_of_ble_eq_true rfl)⟩) ⟨Wd.blind, va_recv hK hPc (ci := 11) (q0 := 0) rfl rfl, fun U hU hW => ⟨rfl, Wd.call hPc hDc hK hC hZ hS hFc U hU hW⟩⟩ rfl rfl hl.1 rfl (lv_room (Nat.le_of_ble_eq_true rfl)) dX10_putNumber_32 ⟨(Nat.le_of_ble_eq_true rfl), (Nat.le_of_ble_eq_true rfl)⟩) hS (fun q _ h => hFc q h) hFc (fun u t H1 locs ht hvm hw hB hz1 hk1 hS => ?_)
        obtain ⟨qn55, fn56, hn57, hP1, hD1⟩ := hB
        rw [ht] at hP1
        obtain ⟨hP, hD⟩ := PDq.join (w := [(oX10 w0 v0 v1 v2 v3 v4 g5 g6 (nI ed) g8 v9 (nI nb) g11 g12 v13 g14 g15 g16 g17 g18 g19 g20 g21 g22 g23 g24 g25 g26 v27 v28 v29 v30 v31 v32 v33 v34 v35 v36 v37 (nI qn55)), (v37, .inl (cA 0, 100, .inl fn56))]) 0 hP hD [0, 1] [] rfl rfl (by decide) (by decide) hk1 hFc hP1 hD1 rfl
        generalize H1 = H at hP hS ⊢
        refine lv_iload_n hx hb dX10_putNumber_35 rfl (lv_at hl 0 rfl) ?_
        refine lv_bipush (v := 10) hx hb dX10_putNumber_36 (by decide) ?_
        refine lv_idiv hx hb dX10_putNumber_38 (by decide) ?_
        refine lv_topi (fun yn58 eyn58 => ?_)
        obtain rfl : yn58 = 0 := eyn58.trans (by first | rfl | decide +kernel)
        refine lv_istore_n (lv' := [(2, .int 0), (0, .ref w0), (1, .int a)]) hx hb dX10_putNumber_39 rfl hl (by decide) rfl (fun ls hl => ?_)
        refine lv_goto (tgt := 18) hx hb dX10_putNumber_40 (by decide) ?_
        refine lv_iload_n hx hb dX10_putNumber_18 rfl (lv_at hl 0 rfl) ?_
        refine lv_if_le (tgt := 43) hx hb dX10_putNumber_19 (by decide) (fun c59 => ?_) (fun c9 => absurd c9 (by decide))
        obtain ⟨hP9, hD9⟩ := PDq.sub (ws' := [(oX10 w0 v0 v1 v2 v3 v4 g5 g6 (nI ed) g8 v9 (nI nb) g11 g12 v13 g14 g15 g16 g17 g18 g19 g20 g21 g22 g23 g24 g25 g26 v27 v28 v29 v30 v31 v32 v33 v34 v35 v36 v37 (nI qn55)), (v37, .inl (cA 0, 100, .inl fn56))]) hP hD [0, 1] (by decide) rfl
        refine W.widen (k := 0) (n := 0) (Nat.le_of_ble_eq_true rfl) (Nat.le_of_ble_eq_true rfl) ?_
        exact (W.vret hx hb hr (fun t ht hW => ⟨⟨(), rfl, trivial, qn55, fn56, (by omega), by rw [ht]; exact hP9, hD9⟩, hS.F ht⟩) hS.2.2 dX10_putNumber_43)
      · skip
        refine lv_bipush (v := 10) hx hb dX10_putNumber_10 (by decide) ?_
        refine lv_iload_n hx hb dX10_putNumber_12 rfl (lv_at hl 0 rfl) ?_
        refine lv_imul hx hb dX10_putNumber_13 ?_
        refine lv_topi (fun yn60 eyn60 => ?_)
        obtain rfl : yn60 = 1000 := eyn60.trans (by first | rfl | decide +kernel)
        refine lv_istore_n (lv' := [(2, .int 1000), (0, .ref w0), (1, .int a)]) hx hb dX10_putNumber_14 rfl hl (by decide) rfl (fun ls hl => ?_)
        refine lv_goto (tgt := 2) hx hb dX10_putNumber_15 (by decide) ?_
        refine lv_iload_n hx hb dX10_putNumber_2 rfl (lv_at hl 2 rfl) ?_
        refine lv_iload_n hx hb dX10_putNumber_3 rfl (lv_at hl 0 rfl) ?_
        refine lv_idiv hx hb dX10_putNumber_4 (by decide) ?_
        refine lv_topi (fun yn61 eyn61 => ?_)
        refine lv_bipush (v := 9) hx hb dX10_putNumber_5 (by decide) ?_
        refine lv_icmp_le (tgt := 18) hx hb dX10_putNumber_7 (by decide) (fun c62 => ?_) (fun c62 => ?_)
        · skip
          refine lv_iload_n hx hb dX10_putNumber_18 rfl (lv_at hl 0 rfl) ?_
          refine lv_if_le (tgt := 43) hx hb dX10_putNumber_19 (by decide) (fun c9 => absurd c9 (by decide)) (fun c63 => ?_)
          refine lv_aload_n hx hb dX10_putNumber_22 rfl (lv_at hl 1 rfl) ?_
          refine lv_bipush (v := 48) hx hb dX10_putNumber_23 (by decide) ?_
          refine lv_iload_n hx hb dX10_putNumber_25 rfl (lv_at hl 2 rfl) ?_
          refine lv_iload_n hx hb dX10_putNumber_26 rfl (lv_at hl 0 rfl) ?_
          refine lv_idiv hx hb dX10_putNumber_27 (by decide) ?_
          refine lv_topi (fun yn64 eyn64 => ?_)
          refine lv_bipush (v := 10) hx hb dX10_putNumber_28 (by decide) ?_
          refine lv_irem hx hb dX10_putNumber_30 (by decide) ?_
          refine lv_topi (fun yn65 eyn65 => ?_)
          refine lv_iadd hx hb dX10_putNumber_31 ?_
          refine lv_topi (fun yn66 eyn66 => ?_)
          obtain ⟨hPc, hDc, hFc⟩ := PDq.cut (wc := [(oX10 w0 v0 v1 v2 v3 v4 g5 g6 (nI ed) g8 v9 (nI nb) g11 g12 v13 g14 g15 g16 g17 g18 g19 g20 g21 g22 g23 g24 g25 g26 v27 v28 v29 v30 v31 v32 v33 v34 v35 v36 v37 (nI ol)), (v37, .inl (cA 0, 100, .inl fo9))]) hP hD hS hA [0, 1] (by decide) rfl
          refine va_callv (va_runV (As := [.int yn66]) (rest := []) ⟨hx, hb, hml, hown, hts⟩ (r_put l D cA sa w0 ed nb ol v0 v1 v2 v3 v4 v9 v13 v27 v28 v29 v30 v31 v32 v33 v34 v35 v36 v37 g8 g11 g12 g14 g15 g16 g17 g18 g19 g20 g21 g22 g23 g24 g26 g5 g6 g25 fo9 yn66 s.heap.size (by omega)) (cwV 1 hts gX10_putNumber_X10_put rfl rfl rfl (by decide +kernel) ⟨(Nat.le_of_ble_eq_true rfl), (Nat.le_of_ble_eq_true rfl)⟩) ⟨Wd.blind, va_recv hK hPc (ci := 11) (q0 := 0) rfl rfl, fun U hU hW => ⟨rfl, Wd.call hPc hDc hK hC hZ hS hFc U hU hW⟩⟩ rfl rfl hl.1 rfl (lv_room (Nat.le_of_ble_eq_true rfl)) dX10_putNumber_32 ⟨(Nat.le_of_ble_eq_true rfl), (Nat.le_of_ble_eq_true rfl)⟩) hS (fun q _ h => hFc q h) hFc (fun u t H1 locs ht hvm hw hB hz1 hk1 hS => ?_)
          obtain ⟨qn67, fn68, hn69, hP1, hD1⟩ := hB
          rw [ht] at hP1
          obtain ⟨hP, hD⟩ := PDq.join (w := [(oX10 w0 v0 v1 v2 v3 v4 g5 g6 (nI ed) g8 v9 (nI nb) g11 g12 v13 g14 g15 g16 g17 g18 g19 g20 g21 g22 g23 g24 g25 g26 v27 v28 v29 v30 v31 v32 v33 v34 v35 v36 v37 (nI qn67)), (v37, .inl (cA 0, 100, .inl fn68))]) 0 hP hD [0, 1] [] rfl rfl (by decide) (by decide) hk1 hFc hP1 hD1 rfl
          generalize H1 = H at hP hS ⊢
          refine lv_iload_n hx hb dX10_putNumber_35 rfl (lv_at hl 0 rfl) ?_
          refine lv_bipush (v := 10) hx hb dX10_putNumber_36 (by decide) ?_
          refine lv_idiv hx hb dX10_putNumber_38 (by decide) ?_
          refine lv_topi (fun yn70 eyn70 => ?_)
          obtain rfl : yn70 = 100 := eyn70.trans (by first | rfl | decide +kernel)
          refine lv_istore_n (lv' := [(2, .int 100), (0, .ref w0), (1, .int a)]) hx hb dX10_putNumber_39 rfl hl (by decide) rfl (fun ls hl => ?_)
          refine lv_goto (tgt := 18) hx hb dX10_putNumber_40 (by decide) ?_
          refine lv_iload_n hx hb dX10_putNumber_18 rfl (lv_at hl 0 rfl) ?_
          refine lv_if_le (tgt := 43) hx hb dX10_putNumber_19 (by decide) (fun c9 => absurd c9 (by decide)) (fun c71 => ?_)
          refine lv_aload_n hx hb dX10_putNumber_22 rfl (lv_at hl 1 rfl) ?_
          refine lv_bipush (v := 48) hx hb dX10_putNumber_23 (by decide) ?_
          refine lv_iload_n hx hb dX10_putNumber_25 rfl (lv_at hl 2 rfl) ?_
          refine lv_iload_n hx hb dX10_putNumber_26 rfl (lv_at hl 0 rfl) ?_
          refine lv_idiv hx hb dX10_putNumber_27 (by decide) ?_
          refine lv_topi (fun yn72 eyn72 => ?_)
          refine lv_bipush (v := 10) hx hb dX10_putNumber_28 (by decide) ?_
          refine lv_irem hx hb dX10_putNumber_30 (by decide) ?_
          refine lv_topi (fun yn73 eyn73 => ?_)
          refine lv_iadd hx hb dX10_putNumber_31 ?_
          refine lv_topi (fun yn74 eyn74 => ?_)
          obtain ⟨hPc, hDc, hFc⟩ := PDq.cut (wc := [(oX10 w0 v0 v1 v2 v3 v4 g5 g6 (nI ed) g8 v9 (nI nb) g11 g12 v13 g14 g15 g16 g17 g18 g19 g20 g21 g22 g23 g24 g25 g26 v27 v28 v29 v30 v31 v32 v33 v34 v35 v36 v37 (nI qn67)), (v37, .inl (cA 0, 100, .inl fn68))]) hP hD hS hA [0, 1] (by decide) rfl
          refine va_callv (va_runV (As := [.int yn74]) (rest := []) ⟨hx, hb, hml, hown, hts⟩ (r_put l D cA sa w0 ed nb qn67 v0 v1 v2 v3 v4 v9 v13 v27 v28 v29 v30 v31 v32 v33 v34 v35 v36 v37 g8 g11 g12 g14 g15 g16 g17 g18 g19 g20 g21 g22 g23 g24 g26 g5 g6 g25 fn68 yn74 H.size (by omega)) (cwV 1 hts gX10_putNumber_X10_put rfl rfl rfl (by decide +kernel) ⟨(Nat.le_of_ble_eq_true rfl), (Nat.le_of_ble_eq_true rfl)⟩) ⟨Wd.blind, va_recv hK hPc (ci := 11) (q0 := 0) rfl rfl, fun U hU hW => ⟨rfl, Wd.call hPc hDc hK hC hZ hS hFc U hU hW⟩⟩ rfl rfl hl.1 rfl (lv_room (Nat.le_of_ble_eq_true rfl)) dX10_putNumber_32 ⟨(Nat.le_of_ble_eq_true rfl), (Nat.le_of_ble_eq_true rfl)⟩) hS (fun q _ h => hFc q h) hFc (fun u t H1 locs ht hvm hw hB hz1 hk1 hS => ?_)
          obtain ⟨qn75, fn76, hn77, hP1, hD1⟩ := hB
          rw [ht] at hP1
          obtain ⟨hP, hD⟩ := PDq.join (w := [(oX10 w0 v0 v1 v2 v3 v4 g5 g6 (nI ed) g8 v9 (nI nb) g11 g12 v13 g14 g15 g16 g17 g18 g19 g20 g21 g22 g23 g24 g25 g26 v27 v28 v29 v30 v31 v32 v33 v34 v35 v36 v37 (nI qn75)), (v37, .inl (cA 0, 100, .inl fn76))]) 0 hP hD [0, 1] [] rfl rfl (by decide) (by decide) hk1 hFc hP1 hD1 rfl
          generalize H1 = H at hP hS ⊢
          refine lv_iload_n hx hb dX10_putNumber_35 rfl (lv_at hl 0 rfl) ?_
          refine lv_bipush (v := 10) hx hb dX10_putNumber_36 (by decide) ?_
          refine lv_idiv hx hb dX10_putNumber_38 (by decide) ?_
          refine lv_topi (fun yn78 eyn78 => ?_)
          obtain rfl : yn78 = 10 := eyn78.trans (by first | rfl | decide +kernel)
          refine lv_istore_n (lv' := [(2, .int 10), (0, .ref w0), (1, .int a)]) hx hb dX10_putNumber_39 rfl hl (by decide) rfl (fun ls hl => ?_)
          refine lv_goto (tgt := 18) hx hb dX10_putNumber_40 (by decide) ?_
          refine lv_iload_n hx hb dX10_putNumber_18 rfl (lv_at hl 0 rfl) ?_
          refine lv_if_le (tgt := 43) hx hb dX10_putNumber_19 (by decide) (fun c9 => absurd c9 (by decide)) (fun c79 => ?_)
          refine lv_aload_n hx hb dX10_putNumber_22 rfl (lv_at hl 1 rfl) ?_
          refine lv_bipush (v := 48) hx hb dX10_putNumber_23 (by decide) ?_
          refine lv_iload_n hx hb dX10_putNumber_25 rfl (lv_at hl 2 rfl) ?_
          refine lv_iload_n hx hb dX10_putNumber_26 rfl (lv_at hl 0 rfl) ?_
          refine lv_idiv hx hb dX10_putNumber_27 (by decide) ?_
          refine lv_topi (fun yn80 eyn80 => ?_)
          refine lv_bipush (v := 10) hx hb dX10_putNumber_28 (by decide) ?_
          refine lv_irem hx hb dX10_putNumber_30 (by decide) ?_
          refine lv_topi (fun yn81 eyn81 => ?_)
          refine lv_iadd hx hb dX10_putNumber_31 ?_
          refine lv_topi (fun yn82 eyn82 => ?_)
          obtain ⟨hPc, hDc, hFc⟩ := PDq.cut (wc := [(oX10 w0 v0 v1 v2 v3 v4 g5 g6 (nI ed) g8 v9 (nI nb) g11 g12 v13 g14 g15 g16 g17 g18 g19 g20 g21 g22 g23 g24 g25 g26 v27 v28 v29 v30 v31 v32 v33 v34 v35 v36 v37 (nI qn75)), (v37, .inl (cA 0, 100, .inl fn76))]) hP hD hS hA [0, 1] (by decide) rfl
          refine va_callv (va_runV (As := [.int yn82]) (rest := []) ⟨hx, hb, hml, hown, hts⟩ (r_put l D cA sa w0 ed nb qn75 v0 v1 v2 v3 v4 v9 v13 v27 v28 v29 v30 v31 v32 v33 v34 v35 v36 v37 g8 g11 g12 g14 g15 g16 g17 g18 g19 g20 g21 g22 g23 g24 g26 g5 g6 g25 fn76 yn82 H.size (by omega)) (cwV 1 hts gX10_putNumber_X10_put rfl rfl rfl (by decide +kernel) ⟨(Nat.le_of_ble_eq_true rfl), (Nat.le_of_ble_eq_true rfl)⟩) ⟨Wd.blind, va_recv hK hPc (ci := 11) (q0 := 0) rfl rfl, fun U hU hW => ⟨rfl, Wd.call hPc hDc hK hC hZ hS hFc U hU hW⟩⟩ rfl rfl hl.1 rfl (lv_room (Nat.le_of_ble_eq_true rfl)) dX10_putNumber_32 ⟨(Nat.le_of_ble_eq_true rfl), (Nat.le_of_ble_eq_true rfl)⟩) hS (fun q _ h => hFc q h) hFc (fun u t H1 locs ht hvm hw hB hz1 hk1 hS => ?_)
          obtain ⟨qn83, fn84, hn85, hP1, hD1⟩ := hB
          rw [ht] at hP1
          obtain ⟨hP, hD⟩ := PDq.join (w := [(oX10 w0 v0 v1 v2 v3 v4 g5 g6 (nI ed) g8 v9 (nI nb) g11 g12 v13 g14 g15 g16 g17 g18 g19 g20 g21 g22 g23 g24 g25 g26 v27 v28 v29 v30 v31 v32 v33 v34 v35 v36 v37 (nI qn83)), (v37, .inl (cA 0, 100, .inl fn84))]) 0 hP hD [0, 1] [] rfl rfl (by decide) (by decide) hk1 hFc hP1 hD1 rfl
          generalize H1 = H at hP hS ⊢
          refine lv_iload_n hx hb dX10_putNumber_35 rfl (lv_at hl 0 rfl) ?_
          refine lv_bipush (v := 10) hx hb dX10_putNumber_36 (by decide) ?_
          refine lv_idiv hx hb dX10_putNumber_38 (by decide) ?_
          refine lv_topi (fun yn86 eyn86 => ?_)
          obtain rfl : yn86 = 1 := eyn86.trans (by first | rfl | decide +kernel)
          refine lv_istore_n (lv' := [(2, .int 1), (0, .ref w0), (1, .int a)]) hx hb dX10_putNumber_39 rfl hl (by decide) rfl (fun ls hl => ?_)
          refine lv_goto (tgt := 18) hx hb dX10_putNumber_40 (by decide) ?_
          refine lv_iload_n hx hb dX10_putNumber_18 rfl (lv_at hl 0 rfl) ?_
          refine lv_if_le (tgt := 43) hx hb dX10_putNumber_19 (by decide) (fun c9 => absurd c9 (by decide)) (fun c87 => ?_)
          refine lv_aload_n hx hb dX10_putNumber_22 rfl (lv_at hl 1 rfl) ?_
          refine lv_bipush (v := 48) hx hb dX10_putNumber_23 (by decide) ?_
          refine lv_iload_n hx hb dX10_putNumber_25 rfl (lv_at hl 2 rfl) ?_
          refine lv_iload_n hx hb dX10_putNumber_26 rfl (lv_at hl 0 rfl) ?_
          refine lv_idiv hx hb dX10_putNumber_27 (by decide) ?_
          refine lv_topi (fun yn88 eyn88 => ?_)
          refine lv_bipush (v := 10) hx hb dX10_putNumber_28 (by decide) ?_
          refine lv_irem hx hb dX10_putNumber_30 (by decide) ?_
          refine lv_topi (fun yn89 eyn89 => ?_)
          refine lv_iadd hx hb dX10_putNumber_31 ?_
          refine lv_topi (fun yn90 eyn90 => ?_)
          obtain ⟨hPc, hDc, hFc⟩ := PDq.cut (wc := [(oX10 w0 v0 v1 v2 v3 v4 g5 g6 (nI ed) g8 v9 (nI nb) g11 g12 v13 g14 g15 g16 g17 g18 g19 g20 g21 g22 g23 g24 g25 g26 v27 v28 v29 v30 v31 v32 v33 v34 v35 v36 v37 (nI qn83)), (v37, .inl (cA 0, 100, .inl fn84))]) hP hD hS hA [0, 1] (by decide) rfl
          refine va_callv (va_runV (As := [.int yn90]) (rest := []) ⟨hx, hb, hml, hown, hts⟩ (r_put l D cA sa w0 ed nb qn83 v0 v1 v2 v3 v4 v9 v13 v27 v28 v29 v30 v31 v32 v33 v34 v35 v36 v37 g8 g11 g12 g14 g15 g16 g17 g18 g19 g20 g21 g22 g23 g24 g26 g5 g6 g25 fn84 yn90 H.size (by omega)) (cwV 1 hts gX10_putNumber_X10_put rfl rfl rfl (by decide +kernel) ⟨(Nat.le_of_ble_eq_true rfl), (Nat.le_of_ble_eq_true rfl)⟩) ⟨Wd.blind, va_recv hK hPc (ci := 11) (q0 := 0) rfl rfl, fun U hU hW => ⟨rfl, Wd.call hPc hDc hK hC hZ hS hFc U hU hW⟩⟩ rfl rfl hl.1 rfl (lv_room (Nat.le_of_ble_eq_true rfl)) dX10_putNumber_32 ⟨(Nat.le_of_ble_eq_true rfl), (Nat.le_of_ble_eq_true rfl)⟩) hS (fun q _ h => hFc q h) hFc (fun u t H1 locs ht hvm hw hB hz1 hk1 hS => ?_)
          obtain ⟨qn91, fn92, hn93, hP1, hD1⟩ := hB
          rw [ht] at hP1
          obtain ⟨hP, hD⟩ := PDq.join (w := [(oX10 w0 v0 v1 v2 v3 v4 g5 g6 (nI ed) g8 v9 (nI nb) g11 g12 v13 g14 g15 g16 g17 g18 g19 g20 g21 g22 g23 g24 g25 g26 v27 v28 v29 v30 v31 v32 v33 v34 v35 v36 v37 (nI qn91)), (v37, .inl (cA 0, 100, .inl fn92))]) 0 hP hD [0, 1] [] rfl rfl (by decide) (by decide) hk1 hFc hP1 hD1 rfl
          generalize H1 = H at hP hS ⊢
          refine lv_iload_n hx hb dX10_putNumber_35 rfl (lv_at hl 0 rfl) ?_
          refine lv_bipush (v := 10) hx hb dX10_putNumber_36 (by decide) ?_
          refine lv_idiv hx hb dX10_putNumber_38 (by decide) ?_
          refine lv_topi (fun yn94 eyn94 => ?_)
          obtain rfl : yn94 = 0 := eyn94.trans (by first | rfl | decide +kernel)
          refine lv_istore_n (lv' := [(2, .int 0), (0, .ref w0), (1, .int a)]) hx hb dX10_putNumber_39 rfl hl (by decide) rfl (fun ls hl => ?_)
          refine lv_goto (tgt := 18) hx hb dX10_putNumber_40 (by decide) ?_
          refine lv_iload_n hx hb dX10_putNumber_18 rfl (lv_at hl 0 rfl) ?_
          refine lv_if_le (tgt := 43) hx hb dX10_putNumber_19 (by decide) (fun c95 => ?_) (fun c9 => absurd c9 (by decide))
          obtain ⟨hP9, hD9⟩ := PDq.sub (ws' := [(oX10 w0 v0 v1 v2 v3 v4 g5 g6 (nI ed) g8 v9 (nI nb) g11 g12 v13 g14 g15 g16 g17 g18 g19 g20 g21 g22 g23 g24 g25 g26 v27 v28 v29 v30 v31 v32 v33 v34 v35 v36 v37 (nI qn91)), (v37, .inl (cA 0, 100, .inl fn92))]) hP hD [0, 1] (by decide) rfl
          refine W.widen (k := 0) (n := 0) (Nat.le_of_ble_eq_true rfl) (Nat.le_of_ble_eq_true rfl) ?_
          exact (W.vret hx hb hr (fun t ht hW => ⟨⟨(), rfl, trivial, qn91, fn92, (by omega), by rw [ht]; exact hP9, hD9⟩, hS.F ht⟩) hS.2.2 dX10_putNumber_43)
        · skip
          refine lv_bipush (v := 10) hx hb dX10_putNumber_10 (by decide) ?_
          refine lv_iload_n hx hb dX10_putNumber_12 rfl (lv_at hl 0 rfl) ?_
          refine lv_imul hx hb dX10_putNumber_13 ?_
          refine lv_topi (fun yn96 eyn96 => ?_)
          obtain rfl : yn96 = 10000 := eyn96.trans (by first | rfl | decide +kernel)
          refine lv_istore_n (lv' := [(2, .int 10000), (0, .ref w0), (1, .int a)]) hx hb dX10_putNumber_14 rfl hl (by decide) rfl (fun ls hl => ?_)
          refine lv_goto (tgt := 2) hx hb dX10_putNumber_15 (by decide) ?_
          refine lv_iload_n hx hb dX10_putNumber_2 rfl (lv_at hl 2 rfl) ?_
          refine lv_iload_n hx hb dX10_putNumber_3 rfl (lv_at hl 0 rfl) ?_
          refine lv_idiv hx hb dX10_putNumber_4 (by decide) ?_
          refine lv_topi (fun yn97 eyn97 => ?_)
          refine lv_bipush (v := 9) hx hb dX10_putNumber_5 (by decide) ?_
          refine lv_icmp_le (tgt := 18) hx hb dX10_putNumber_7 (by decide) (fun c98 => ?_) (fun c98 => ?_)
          · skip
            refine lv_iload_n hx hb dX10_putNumber_18 rfl (lv_at hl 0 rfl) ?_
            refine lv_if_le (tgt := 43) hx hb dX10_putNumber_19 (by decide) (fun c9 => absurd c9 (by decide)) (fun c99 => ?_)
            refine lv_aload_n hx hb dX10_putNumber_22 rfl (lv_at hl 1 rfl) ?_
            refine lv_bipush (v := 48) hx hb dX10_putNumber_23 (by decide) ?_
            refine lv_iload_n hx hb dX10_putNumber_25 rfl (lv_at hl 2 rfl) ?_
            refine lv_iload_n hx hb dX10_putNumber_26 rfl (lv_at hl 0 rfl) ?_
            refine lv_idiv hx hb dX10_putNumber_27 (by decide) ?_
            refine lv_topi (fun yn100 eyn100 => ?_)
            refine lv_bipush (v := 10) hx hb dX10_putNumber_28 (by decide) ?_
            refine lv_irem hx hb dX10_putNumber_30 (by decide) ?_
            refine lv_topi (fun yn101 eyn101 => ?_)
            refine lv_iadd hx hb dX10_putNumber_31 ?_
            refine lv_topi (fun yn102 eyn102 => ?_)
            obtain ⟨hPc, hDc, hFc⟩ := PDq.cut (wc := [(oX10 w0 v0 v1 v2 v3 v4 g5 g6 (nI ed) g8 v9 (nI nb) g11 g12 v13 g14 g15 g16 g17 g18 g19 g20 g21 g22 g23 g24 g25 g26 v27 v28 v29 v30 v31 v32 v33 v34 v35 v36 v37 (nI ol)), (v37, .inl (cA 0, 100, .inl fo9))]) hP hD hS hA [0, 1] (by decide) rfl
            refine va_callv (va_runV (As := [.int yn102]) (rest := []) ⟨hx, hb, hml, hown, hts⟩ (r_put l D cA sa w0 ed nb ol v0 v1 v2 v3 v4 v9 v13 v27 v28 v29 v30 v31 v32 v33 v34 v35 v36 v37 g8 g11 g12 g14 g15 g16 g17 g18 g19 g20 g21 g22 g23 g24 g26 g5 g6 g25 fo9 yn102 s.heap.size (by omega)) (cwV 1 hts gX10_putNumber_X10_put rfl rfl rfl (by decide +kernel) ⟨(Nat.le_of_ble_eq_true rfl), (Nat.le_of_ble_eq_true rfl)⟩) ⟨Wd.blind, va_recv hK hPc (ci := 11) (q0 := 0) rfl rfl, fun U hU hW => ⟨rfl, Wd.call hPc hDc hK hC hZ hS hFc U hU hW⟩⟩ rfl rfl hl.1 rfl (lv_room (Nat.le_of_ble_eq_true rfl)) dX10_putNumber_32 ⟨(Nat.le_of_ble_eq_true rfl), (Nat.le_of_ble_eq_true rfl)⟩) hS (fun q _ h => hFc q h) hFc (fun u t H1 locs ht hvm hw hB hz1 hk1 hS => ?_)
            obtain ⟨qn103, fn104, hn105, hP1, hD1⟩ := hB
            rw [ht] at hP1
            obtain ⟨hP, hD⟩ := PDq.join (w := [(oX10 w0 v0 v1 v2 v3 v4 g5 g6 (nI ed) g8 v9 (nI nb) g11 g12 v13 g14 g15 g16 g17 g18 g19 g20 g21 g22 g23 g24 g25 g26 v27 v28 v29 v30 v31 v32 v33 v34 v35 v36 v37 (nI qn103)), (v37, .inl (cA 0, 100, .inl fn104))]) 0 hP hD [0, 1] [] rfl rfl (by decide) (by decide) hk1 hFc hP1 hD1 rfl
            generalize H1 = H at hP hS ⊢
            refine lv_iload_n hx hb dX10_putNumber_35 rfl (lv_at hl 0 rfl) ?_
            refine lv_bipush (v := 10) hx hb dX10_putNumber_36 (by decide) ?_
            refine lv_idiv hx hb dX10_putNumber_38 (by decide) ?_
            refine lv_topi (fun yn106 eyn106 => ?_)
            obtain rfl : yn106 = 1000 := eyn106.trans (by first | rfl | decide +kernel)
            refine lv_istore_n (lv' := [(2, .int 1000), (0, .ref w0), (1, .int a)]) hx hb dX10_putNumber_39 rfl hl (by decide) rfl (fun ls hl => ?_)
            refine lv_goto (tgt := 18) hx hb dX10_putNumber_40 (by decide) ?_
            refine lv_iload_n hx hb dX10_putNumber_18 rfl (lv_at hl 0 rfl) ?_
            refine lv_if_le (tgt := 43) hx hb dX10_putNumber_19 (by decide) (fun c9 => absurd c9 (by decide)) (fun c107 => ?_)
            refine lv_aload_n hx hb dX10_putNumber_22 rfl (lv_at hl 1 rfl) ?_
            refine lv_bipush (v := 48) hx hb dX10_putNumber_23 (by decide) ?_
            refine lv_iload_n hx hb dX10_putNumber_25 rfl (lv_at hl 2 rfl) ?_
            refine lv_iload_n hx hb dX10_putNumber_26 rfl (lv_at hl 0 rfl) ?_
            refine lv_idiv hx hb dX10_putNumber_27 (by decide) ?_
            refine lv_topi (fun yn108 eyn108 => ?_)
            refine lv_bipush (v := 10) hx hb dX10_putNumber_28 (by decide) ?_
            refine lv_irem hx hb dX10_putNumber_30 (by decide) ?_
            refine lv_topi (fun yn109 eyn109 => ?_)
            refine lv_iadd hx hb dX10_putNumber_31 ?_
            refine lv_topi (fun yn110 eyn110 => ?_)
            obtain ⟨hPc, hDc, hFc⟩ := PDq.cut (wc := [(oX10 w0 v0 v1 v2 v3 v4 g5 g6 (nI ed) g8 v9 (nI nb) g11 g12 v13 g14 g15 g16 g17 g18 g19 g20 g21 g22 g23 g24 g25 g26 v27 v28 v29 v30 v31 v32 v33 v34 v35 v36 v37 (nI qn103)), (v37, .inl (cA 0, 100, .inl fn104))]) hP hD hS hA [0, 1] (by decide) rfl
            refine va_callv (va_runV (As := [.int yn110]) (rest := []) ⟨hx, hb, hml, hown, hts⟩ (r_put l D cA sa w0 ed nb qn103 v0 v1 v2 v3 v4 v9 v13 v27 v28 v29 v30 v31 v32 v33 v34 v35 v36 v37 g8 g11 g12 g14 g15 g16 g17 g18 g19 g20 g21 g22 g23 g24 g26 g5 g6 g25 fn104 yn110 H.size (by omega)) (cwV 1 hts gX10_putNumber_X10_put rfl rfl rfl (by decide +kernel) ⟨(Nat.le_of_ble_eq_true rfl), (Nat.le_of_ble_eq_true rfl)⟩) ⟨Wd.blind, va_recv hK hPc (ci := 11) (q0 := 0) rfl rfl, fun U hU hW => ⟨rfl, Wd.call hPc hDc hK hC hZ hS hFc U hU hW⟩⟩ rfl rfl hl.1 rfl (lv_room (Nat.le_of_ble_eq_true rfl)) dX10_putNumber_32 ⟨(Nat.le_of_ble_eq_true rfl), (Nat.le_of_ble_eq_true rfl)⟩) hS (fun q _ h => hFc q h) hFc (fun u t H1 locs ht hvm hw hB hz1 hk1 hS => ?_)
            obtain ⟨qn111, fn112, hn113, hP1, hD1⟩ := hB
            rw [ht] at hP1
            obtain ⟨hP, hD⟩ := PDq.join (w := [(oX10 w0 v0 v1 v2 v3 v4 g5 g6 (nI ed) g8 v9 (nI nb) g11 g12 v13 g14 g15 g16 g17 g18 g19 g20 g21 g22 g23 g24 g25 g26 v27 v28 v29 v30 v31 v32 v33 v34 v35 v36 v37 (nI qn111)), (v37, .inl (cA 0, 100, .inl fn112))]) 0 hP hD [0, 1] [] rfl rfl (by decide) (by decide) hk1 hFc hP1 hD1 rfl
            generalize H1 = H at hP hS ⊢
            refine lv_iload_n hx hb dX10_putNumber_35 rfl (lv_at hl 0 rfl) ?_
            refine lv_bipush (v := 10) hx hb dX10_putNumber_36 (by decide) ?_
            refine lv_idiv hx hb dX10_putNumber_38 (by decide) ?_
            refine lv_topi (fun yn114 eyn114 => ?_)
            obtain rfl : yn114 = 100 := eyn114.trans (by first | rfl | decide +kernel)
            refine lv_istore_n (lv' := [(2, .int 100), (0, .ref w0), (1, .int a)]) hx hb dX10_putNumber_39 rfl hl (by decide) rfl (fun ls hl => ?_)
            refine lv_goto (tgt := 18) hx hb dX10_putNumber_40 (by decide) ?_
            refine lv_iload_n hx hb dX10_putNumber_18 rfl (lv_at hl 0 rfl) ?_
            refine lv_if_le (tgt := 43) hx hb dX10_putNumber_19 (by decide) (fun c9 => absurd c9 (by decide)) (fun c115 => ?_)
            refine lv_aload_n hx hb dX10_putNumber_22 rfl (lv_at hl 1 rfl) ?_
            refine lv_bipush (v := 48) hx hb dX10_putNumber_23 (by decide) ?_
            refine lv_iload_n hx hb dX10_putNumber_25 rfl (lv_at hl 2 rfl) ?_
            refine lv_iload_n hx hb dX10_putNumber_26 rfl (lv_at hl 0 rfl) ?_
            refine lv_idiv hx hb dX10_putNumber_27 (by decide) ?_
            refine lv_topi (fun yn116 eyn116 => ?_)
            refine lv_bipush (v := 10) hx hb dX10_putNumber_28 (by decide) ?_
            refine lv_irem hx hb dX10_putNumber_30 (by decide) ?_
            refine lv_topi (fun yn117 eyn117 => ?_)
            refine lv_iadd hx hb dX10_putNumber_31 ?_
            refine lv_topi (fun yn118 eyn118 => ?_)
            obtain ⟨hPc, hDc, hFc⟩ := PDq.cut (wc := [(oX10 w0 v0 v1 v2 v3 v4 g5 g6 (nI ed) g8 v9 (nI nb) g11 g12 v13 g14 g15 g16 g17 g18 g19 g20 g21 g22 g23 g24 g25 g26 v27 v28 v29 v30 v31 v32 v33 v34 v35 v36 v37 (nI qn111)), (v37, .inl (cA 0, 100, .inl fn112))]) hP hD hS hA [0, 1] (by decide) rfl
            refine va_callv (va_runV (As := [.int yn118]) (rest := []) ⟨hx, hb, hml, hown, hts⟩ (r_put l D cA sa w0 ed nb qn111 v0 v1 v2 v3 v4 v9 v13 v27 v28 v29 v30 v31 v32 v33 v34 v35 v36 v37 g8 g11 g12 g14 g15 g16 g17 g18 g19 g20 g21 g22 g23 g24 g26 g5 g6 g25 fn112 yn118 H.size (by omega)) (cwV 1 hts gX10_putNumber_X10_put rfl rfl rfl (by decide +kernel) ⟨(Nat.le_of_ble_eq_true rfl), (Nat.le_of_ble_eq_true rfl)⟩) ⟨Wd.blind, va_recv hK hPc (ci := 11) (q0 := 0) rfl rfl, fun U hU hW => ⟨rfl, Wd.call hPc hDc hK hC hZ hS hFc U hU hW⟩⟩ rfl rfl hl.1 rfl (lv_room (Nat.le_of_ble_eq_true rfl)) dX10_putNumber_32 ⟨(Nat.le_of_ble_eq_true rfl), (Nat.le_of_ble_eq_true rfl)⟩) hS (fun q _ h => hFc q h) hFc (fun u t H1 locs ht hvm hw hB hz1 hk1 hS => ?_)
            obtain ⟨qn119, fn120, hn121, hP1, hD1⟩ := hB
            rw [ht] at hP1
            obtain ⟨hP, hD⟩ := PDq.join (w := [(oX10 w0 v0 v1 v2 v3 v4 g5 g6 (nI ed) g8 v9 (nI nb) g11 g12 v13 g14 g15 g16 g17 g18 g19 g20 g21 g22 g23 g24 g25 g26 v27 v28 v29 v30 v31 v32 v33 v34 v35 v36 v37 (nI qn119)), (v37, .inl (cA 0, 100, .inl fn120))]) 0 hP hD [0, 1] [] rfl rfl (by decide) (by decide) hk1 hFc hP1 hD1 rfl
            generalize H1 = H at hP hS ⊢
            refine lv_iload_n hx hb dX10_putNumber_35 rfl (lv_at hl 0 rfl) ?_
            refine lv_bipush (v := 10) hx hb dX10_putNumber_36 (by decide) ?_
            refine lv_idiv hx hb dX10_putNumber_38 (by decide) ?_
            refine lv_topi (fun yn122 eyn122 => ?_)
            obtain rfl : yn122 = 10 := eyn122.trans (by first | rfl | decide +kernel)
            refine lv_istore_n (lv' := [(2, .int 10), (0, .ref w0), (1, .int a)]) hx hb dX10_putNumber_39 rfl hl (by decide) rfl (fun ls hl => ?_)
            refine lv_goto (tgt := 18) hx hb dX10_putNumber_40 (by decide) ?_
            refine lv_iload_n hx hb dX10_putNumber_18 rfl (lv_at hl 0 rfl) ?_
            refine lv_if_le (tgt := 43) hx hb dX10_putNumber_19 (by decide) (fun c9 => absurd c9 (by decide)) (fun c123 => ?_)
            refine lv_aload_n hx hb dX10_putNumber_22 rfl (lv_at hl 1 rfl) ?_
            refine lv_bipush (v := 48) hx hb dX10_putNumber_23 (by decide) ?_
            refine lv_iload_n hx hb dX10_putNumber_25 rfl (lv_at hl 2 rfl) ?_
            refine lv_iload_n hx hb dX10_putNumber_26 rfl (lv_at hl 0 rfl) ?_
            refine lv_idiv hx hb dX10_putNumber_27 (by decide) ?_
            refine lv_topi (fun yn124 eyn124 => ?_)
            refine lv_bipush (v := 10) hx hb dX10_putNumber_28 (by decide) ?_
            refine lv_irem hx hb dX10_putNumber_30 (by decide) ?_
            refine lv_topi (fun yn125 eyn125 => ?_)
            refine lv_iadd hx hb dX10_putNumber_31 ?_
            refine lv_topi (fun yn126 eyn126 => ?_)
            obtain ⟨hPc, hDc, hFc⟩ := PDq.cut (wc := [(oX10 w0 v0 v1 v2 v3 v4 g5 g6 (nI ed) g8 v9 (nI nb) g11 g12 v13 g14 g15 g16 g17 g18 g19 g20 g21 g22 g23 g24 g25 g26 v27 v28 v29 v30 v31 v32 v33 v34 v35 v36 v37 (nI qn119)), (v37, .inl (cA 0, 100, .inl fn120))]) hP hD hS hA [0, 1] (by decide) rfl
            refine va_callv (va_runV (As := [.int yn126]) (rest := []) ⟨hx, hb, hml, hown, hts⟩ (r_put l D cA sa w0 ed nb qn119 v0 v1 v2 v3 v4 v9 v13 v27 v28 v29 v30 v31 v32 v33 v34 v35 v36 v37 g8 g11 g12 g14 g15 g16 g17 g18 g19 g20 g21 g22 g23 g24 g26 g5 g6 g25 fn120 yn126 H.size (by omega)) (cwV 1 hts gX10_putNumber_X10_put rfl rfl rfl (by decide +kernel) ⟨(Nat.le_of_ble_eq_true rfl), (Nat.le_of_ble_eq_true rfl)⟩) ⟨Wd.blind, va_recv hK hPc (ci := 11) (q0 := 0) rfl rfl, fun U hU hW => ⟨rfl, Wd.call hPc hDc hK hC hZ hS hFc U hU hW⟩⟩ rfl rfl hl.1 rfl (lv_room (Nat.le_of_ble_eq_true rfl)) dX10_putNumber_32 ⟨(Nat.le_of_ble_eq_true rfl), (Nat.le_of_ble_eq_true rfl)⟩) hS (fun q _ h => hFc q h) hFc (fun u t H1 locs ht hvm hw hB hz1 hk1 hS => ?_)
            obtain ⟨qn127, fn128, hn129, hP1, hD1⟩ := hB
            rw [ht] at hP1
            obtain ⟨hP, hD⟩ := PDq.join (w := [(oX10 w0 v0 v1 v2 v3 v4 g5 g6 (nI ed) g8 v9 (nI nb) g11 g12 v13 g14 g15 g16 g17 g18 g19 g20 g21 g22 g23 g24 g25 g26 v27 v28 v29 v30 v31 v32 v33 v34 v35 v36 v37 (nI qn127)), (v37, .inl (cA 0, 100, .inl fn128))]) 0 hP hD [0, 1] [] rfl rfl (by decide) (by decide) hk1 hFc hP1 hD1 rfl
            generalize H1 = H at hP hS ⊢
            refine lv_iload_n hx hb dX10_putNumber_35 rfl (lv_at hl 0 rfl) ?_
            refine lv_bipush (v := 10) hx hb dX10_putNumber_36 (by decide) ?_
            refine lv_idiv hx hb dX10_putNumber_38 (by decide) ?_
            refine lv_topi (fun yn130 eyn130 => ?_)
            obtain rfl : yn130 = 1 := eyn130.trans (by first | rfl | decide +kernel)
            refine lv_istore_n (lv' := [(2, .int 1), (0, .ref w0), (1, .int a)]) hx hb dX10_putNumber_39 rfl hl (by decide) rfl (fun ls hl => ?_)
            refine lv_goto (tgt := 18) hx hb dX10_putNumber_40 (by decide) ?_
            refine lv_iload_n hx hb dX10_putNumber_18 rfl (lv_at hl 0 rfl) ?_
            refine lv_if_le (tgt := 43) hx hb dX10_putNumber_19 (by decide) (fun c9 => absurd c9 (by decide)) (fun c131 => ?_)
            refine lv_aload_n hx hb dX10_putNumber_22 rfl (lv_at hl 1 rfl) ?_
            refine lv_bipush (v := 48) hx hb dX10_putNumber_23 (by decide) ?_
            refine lv_iload_n hx hb dX10_putNumber_25 rfl (lv_at hl 2 rfl) ?_
            refine lv_iload_n hx hb dX10_putNumber_26 rfl (lv_at hl 0 rfl) ?_
            refine lv_idiv hx hb dX10_putNumber_27 (by decide) ?_
            refine lv_topi (fun yn132 eyn132 => ?_)
            refine lv_bipush (v := 10) hx hb dX10_putNumber_28 (by decide) ?_
            refine lv_irem hx hb dX10_putNumber_30 (by decide) ?_
            refine lv_topi (fun yn133 eyn133 => ?_)
            refine lv_iadd hx hb dX10_putNumber_31 ?_
            refine lv_topi (fun yn134 eyn134 => ?_)
            obtain ⟨hPc, hDc, hFc⟩ := PDq.cut (wc := [(oX10 w0 v0 v1 v2 v3 v4 g5 g6 (nI ed) g8 v9 (nI nb) g11 g12 v13 g14 g15 g16 g17 g18 g19 g20 g21 g22 g23 g24 g25 g26 v27 v28 v29 v30 v31 v32 v33 v34 v35 v36 v37 (nI qn127)), (v37, .inl (cA 0, 100, .inl fn128))]) hP hD hS hA [0, 1] (by decide) rfl
            refine va_callv (va_runV (As := [.int yn134]) (rest := []) ⟨hx, hb, hml, hown, hts⟩ (r_put l D cA sa w0 ed nb qn127 v0 v1 v2 v3 v4 v9 v13 v27 v28 v29 v30 v31 v32 v33 v34 v35 v36 v37 g8 g11 g12 g14 g15 g16 g17 g18 g19 g20 g21 g22 g23 g24 g26 g5 g6 g25 fn128 yn134 H.size (by omega)) (cwV 1 hts gX10_putNumber_X10_put rfl rfl rfl (by decide +kernel) ⟨(Nat.le_of_ble_eq_true rfl), (Nat.le_of_ble_eq_true rfl)⟩) ⟨Wd.blind, va_recv hK hPc (ci := 11) (q0 := 0) rfl rfl, fun U hU hW => ⟨rfl, Wd.call hPc hDc hK hC hZ hS hFc U hU hW⟩⟩ rfl rfl hl.1 rfl (lv_room (Nat.le_of_ble_eq_true rfl)) dX10_putNumber_32 ⟨(Nat.le_of_ble_eq_true rfl), (Nat.le_of_ble_eq_true rfl)⟩) hS (fun q _ h => hFc q h) hFc (fun u t H1 locs ht hvm hw hB hz1 hk1 hS => ?_)
            obtain ⟨qn135, fn136, hn137, hP1, hD1⟩ := hB
            rw [ht] at hP1
            obtain ⟨hP, hD⟩ := PDq.join (w := [(oX10 w0 v0 v1 v2 v3 v4 g5 g6 (nI ed) g8 v9 (nI nb) g11 g12 v13 g14 g15 g16 g17 g18 g19 g20 g21 g22 g23 g24 g25 g26 v27 v28 v29 v30 v31 v32 v33 v34 v35 v36 v37 (nI qn135)), (v37, .inl (cA 0, 100, .inl fn136))]) 0 hP hD [0, 1] [] rfl rfl (by decide) (by decide) hk1 hFc hP1 hD1 rfl
            generalize H1 = H at hP hS ⊢
            refine lv_iload_n hx hb dX10_putNumber_35 rfl (lv_at hl 0 rfl) ?_
            refine lv_bipush (v := 10) hx hb dX10_putNumber_36 (by decide) ?_
            refine lv_idiv hx hb dX10_putNumber_38 (by decide) ?_
            refine lv_topi (fun yn138 eyn138 => ?_)
            obtain rfl : yn138 = 0 := eyn138.trans (by first | rfl | decide +kernel)
            refine lv_istore_n (lv' := [(2, .int 0), (0, .ref w0), (1, .int a)]) hx hb dX10_putNumber_39 rfl hl (by decide) rfl (fun ls hl => ?_)
            refine lv_goto (tgt := 18) hx hb dX10_putNumber_40 (by decide) ?_
            refine lv_iload_n hx hb dX10_putNumber_18 rfl (lv_at hl 0 rfl) ?_
            refine lv_if_le (tgt := 43) hx hb dX10_putNumber_19 (by decide) (fun c139 => ?_) (fun c9 => absurd c9 (by decide))
            obtain ⟨hP9, hD9⟩ := PDq.sub (ws' := [(oX10 w0 v0 v1 v2 v3 v4 g5 g6 (nI ed) g8 v9 (nI nb) g11 g12 v13 g14 g15 g16 g17 g18 g19 g20 g21 g22 g23 g24 g25 g26 v27 v28 v29 v30 v31 v32 v33 v34 v35 v36 v37 (nI qn135)), (v37, .inl (cA 0, 100, .inl fn136))]) hP hD [0, 1] (by decide) rfl
            refine W.widen (k := 0) (n := 0) (Nat.le_of_ble_eq_true rfl) (Nat.le_of_ble_eq_true rfl) ?_
            exact (W.vret hx hb hr (fun t ht hW => ⟨⟨(), rfl, trivial, qn135, fn136, (by omega), by rw [ht]; exact hP9, hD9⟩, hS.F ht⟩) hS.2.2 dX10_putNumber_43)
          · skip
            refine lv_bipush (v := 10) hx hb dX10_putNumber_10 (by decide) ?_
            refine lv_iload_n hx hb dX10_putNumber_12 rfl (lv_at hl 0 rfl) ?_
            refine lv_imul hx hb dX10_putNumber_13 ?_
            refine lv_topi (fun yn140 eyn140 => ?_)
            obtain rfl : yn140 = 100000 := eyn140.trans (by first | rfl | decide +kernel)
            refine lv_istore_n (lv' := [(2, .int 100000), (0, .ref w0), (1, .int a)]) hx hb dX10_putNumber_14 rfl hl (by decide) rfl (fun ls hl => ?_)
            refine lv_goto (tgt := 2) hx hb dX10_putNumber_15 (by decide) ?_
            refine lv_iload_n hx hb dX10_putNumber_2 rfl (lv_at hl 2 rfl) ?_
            refine lv_iload_n hx hb dX10_putNumber_3 rfl (lv_at hl 0 rfl) ?_
            refine lv_idiv hx hb dX10_putNumber_4 (by decide) ?_
            refine lv_topi (fun yn141 eyn141 => ?_)
            refine lv_bipush (v := 9) hx hb dX10_putNumber_5 (by decide) ?_
            refine lv_icmp_le (tgt := 18) hx hb dX10_putNumber_7 (by decide) (fun c142 => ?_) (fun c142 => ?_)
            · skip
              refine lv_iload_n hx hb dX10_putNumber_18 rfl (lv_at hl 0 rfl) ?_
              refine lv_if_le (tgt := 43) hx hb dX10_putNumber_19 (by decide) (fun c9 => absurd c9 (by decide)) (fun c143 => ?_)
              refine lv_aload_n hx hb dX10_putNumber_22 rfl (lv_at hl 1 rfl) ?_
              refine lv_bipush (v := 48) hx hb dX10_putNumber_23 (by decide) ?_
              refine lv_iload_n hx hb dX10_putNumber_25 rfl (lv_at hl 2 rfl) ?_
              refine lv_iload_n hx hb dX10_putNumber_26 rfl (lv_at hl 0 rfl) ?_
              refine lv_idiv hx hb dX10_putNumber_27 (by decide) ?_
              refine lv_topi (fun yn144 eyn144 => ?_)
              refine lv_bipush (v := 10) hx hb dX10_putNumber_28 (by decide) ?_
              refine lv_irem hx hb dX10_putNumber_30 (by decide) ?_
              refine lv_topi (fun yn145 eyn145 => ?_)
              refine lv_iadd hx hb dX10_putNumber_31 ?_
              refine lv_topi (fun yn146 eyn146 => ?_)
              obtain ⟨hPc, hDc, hFc⟩ := PDq.cut (wc := [(oX10 w0 v0 v1 v2 v3 v4 g5 g6 (nI ed) g8 v9 (nI nb) g11 g12 v13 g14 g15 g16 g17 g18 g19 g20 g21 g22 g23 g24 g25 g26 v27 v28 v29 v30 v31 v32 v33 v34 v35 v36 v37 (nI ol)), (v37, .inl (cA 0, 100, .inl fo9))]) hP hD hS hA [0, 1] (by decide) rfl
              refine va_callv (va_runV (As := [.int yn146]) (rest := []) ⟨hx, hb, hml, hown, hts⟩ (r_put l D cA sa w0 ed nb ol v0 v1 v2 v3 v4 v9 v13 v27 v28 v29 v30 v31 v32 v33 v34 v35 v36 v37 g8 g11 g12 g14 g15 g16 g17 g18 g19 g20 g21 g22 g23 g24 g26 g5 g6 g25 fo9 yn146 s.heap.size (by omega)) (cwV 1 hts gX10_putNumber_X10_put rfl rfl rfl (by decide +kernel) ⟨(Nat.le_of_ble_eq_true rfl), (Nat.le_of_ble_eq_true rfl)⟩) ⟨Wd.blind, va_recv hK hPc (ci := 11) (q0 := 0) rfl rfl, fun U hU hW => ⟨rfl, Wd.call hPc hDc hK hC hZ hS hFc U hU hW⟩⟩ rfl rfl hl.1 rfl (lv_room (Nat.le_of_ble_eq_true rfl)) dX10_putNumber_32 ⟨(Nat.le_of_ble_eq_true rfl), (Nat.le_of_ble_eq_true rfl)⟩) hS (fun q _ h => hFc q h) hFc (fun u t H1 locs ht hvm hw hB hz1 hk1 hS => ?_)
              obtain ⟨qn147, fn148, hn149, hP1, hD1⟩ := hB
              rw [ht] at hP1
              obtain ⟨hP, hD⟩ := PDq.join (w := [(oX10 w0 v0 v1 v2 v3 v4 g5 g6 (nI ed) g8 v9 (nI nb) g11 g12 v13 g14 g15 g16 g17 g18 g19 g20 g21 g22 g23 g24 g25 g26 v27 v28 v29 v30 v31 v32 v33 v34 v35 v36 v37 (nI qn147)), (v37, .inl (cA 0, 100, .inl fn148))]) 0 hP hD [0, 1] [] rfl rfl (by decide) (by decide) hk1 hFc hP1 hD1 rfl
              generalize H1 = H at hP hS ⊢
              refine lv_iload_n hx hb dX10_putNumber_35 rfl (lv_at hl 0 rfl) ?_
              refine lv_bipush (v := 10) hx hb dX10_putNumber_36 (by decide) ?_
              refine lv_idiv hx hb dX10_putNumber_38 (by decide) ?_
              refine lv_topi (fun yn150 eyn150 => ?_)
              obtain rfl : yn150 = 10000 := eyn150.trans (by first | rfl | decide +kernel)
              refine lv_istore_n (lv' := [(2, .int 10000), (0, .ref w0), (1, .int a)]) hx hb dX10_putNumber_39 rfl hl (by decide) rfl (fun ls hl => ?_)
              refine lv_goto (tgt := 18) hx hb dX10_putNumber_40 (by decide) ?_
              refine lv_iload_n hx hb dX10_putNumber_18 rfl (lv_at hl 0 rfl) ?_
              refine lv_if_le (tgt := 43) hx hb dX10_putNumber_19 (by decide) (fun c9 => absurd c9 (by decide)) (fun c151 => ?_)
              refine lv_aload_n hx hb dX10_putNumber_22 rfl (lv_at hl 1 rfl) ?_
              refine lv_bipush (v := 48) hx hb dX10_putNumber_23 (by decide) ?_
              refine lv_iload_n hx hb dX10_putNumber_25 rfl (lv_at hl 2 rfl) ?_
              refine lv_iload_n hx hb dX10_putNumber_26 rfl (lv_at hl 0 rfl) ?_
              refine lv_idiv hx hb dX10_putNumber_27 (by decide) ?_
              refine lv_topi (fun yn152 eyn152 => ?_)
              refine lv_bipush (v := 10) hx hb dX10_putNumber_28 (by decide) ?_
              refine lv_irem hx hb dX10_putNumber_30 (by decide) ?_
              refine lv_topi (fun yn153 eyn153 => ?_)
              refine lv_iadd hx hb dX10_putNumber_31 ?_
              refine lv_topi (fun yn154 eyn154 => ?_)
              obtain ⟨hPc, hDc, hFc⟩ := PDq.cut (wc := [(oX10 w0 v0 v1 v2 v3 v4 g5 g6 (nI ed) g8 v9 (nI nb) g11 g12 v13 g14 g15 g16 g17 g18 g19 g20 g21 g22 g23 g24 g25 g26 v27 v28 v29 v30 v31 v32 v33 v34 v35 v36 v37 (nI qn147)), (v37, .inl (cA 0, 100, .inl fn148))]) hP hD hS hA [0, 1] (by decide) rfl
              refine va_callv (va_runV (As := [.int yn154]) (rest := []) ⟨hx, hb, hml, hown, hts⟩ (r_put l D cA sa w0 ed nb qn147 v0 v1 v2 v3 v4 v9 v13 v27 v28 v29 v30 v31 v32 v33 v34 v35 v36 v37 g8 g11 g12 g14 g15 g16 g17 g18 g19 g20 g21 g22 g23 g24 g26 g5 g6 g25 fn148 yn154 H.size (by omega)) (cwV 1 hts gX10_putNumber_X10_put rfl rfl rfl (by decide +kernel) ⟨(Nat.le_of_ble_eq_true rfl), (Nat.le_of_ble_eq_true rfl)⟩) ⟨Wd.blind, va_recv hK hPc (ci := 11) (q0 := 0) rfl rfl, fun U hU hW => ⟨rfl, Wd.call hPc hDc hK hC hZ hS hFc U hU hW⟩⟩ rfl rfl hl.1 rfl (lv_room (Nat.le_of_ble_eq_true rfl)) dX10_putNumber_32 ⟨(Nat.le_of_ble_eq_true rfl), (Nat.le_of_ble_eq_true rfl)⟩) hS (fun q _ h => hFc q h) hFc (fun u t H1 locs ht hvm hw hB hz1 hk1 hS => ?_)
              obtain ⟨qn155, fn156, hn157, hP1, hD1⟩ := hB
              rw [ht] at hP1
              obtain ⟨hP, hD⟩ := PDq.join (w := [(oX10 w0 v0 v1 v2 v3 v4 g5 g6 (nI ed) g8 v9 (nI nb) g11 g12 v13 g14 g15 g16 g17 g18 g19 g20 g21 g22 g23 g24 g25 g26 v27 v28 v29 v30 v31 v32 v33 v34 v35 v36 v37 (nI qn155)), (v37, .inl (cA 0, 100, .inl fn156))]) 0 hP hD [0, 1] [] rfl rfl (by decide) (by decide) hk1 hFc hP1 hD1 rfl
              generalize H1 = H at hP hS ⊢
              refine lv_iload_n hx hb dX10_putNumber_35 rfl (lv_at hl 0 rfl) ?_
              refine lv_bipush (v := 10) hx hb dX10_putNumber_36 (by decide) ?_
              refine lv_idiv hx hb dX10_putNumber_38 (by decide) ?_
              refine lv_topi (fun yn158 eyn158 => ?_)
              obtain rfl : yn158 = 1000 := eyn158.trans (by first | rfl | decide +kernel)
              refine lv_istore_n (lv' := [(2, .int 1000), (0, .ref w0), (1, .int a)]) hx hb dX10_putNumber_39 rfl hl (by decide) rfl (fun ls hl => ?_)
              refine lv_goto (tgt := 18) hx hb dX10_putNumber_40 (by decide) ?_
              refine lv_iload_n hx hb dX10_putNumber_18 rfl (lv_at hl 0 rfl) ?_
              refine lv_if_le (tgt := 43) hx hb dX10_putNumber_19 (by decide) (fun c9 => absurd c9 (by decide)) (fun c159 => ?_)
              refine lv_aload_n hx hb dX10_putNumber_22 rfl (lv_at hl 1 rfl) ?_
              refine lv_bipush (v := 48) hx hb dX10_putNumber_23 (by decide) ?_
              refine lv_iload_n hx hb dX10_putNumber_25 rfl (lv_at hl 2 rfl) ?_
              refine lv_iload_n hx hb dX10_putNumber_26 rfl (lv_at hl 0 rfl) ?_
              refine lv_idiv hx hb dX10_putNumber_27 (by decide) ?_
              refine lv_topi (fun yn160 eyn160 => ?_)
              refine lv_bipush (v := 10) hx hb dX10_putNumber_28 (by decide) ?_
              refine lv_irem hx hb dX10_putNumber_30 (by decide) ?_
              refine lv_topi (fun yn161 eyn161 => ?_)
              refine lv_iadd hx hb dX10_putNumber_31 ?_
              refine lv_topi (fun yn162 eyn162 => ?_)
              obtain ⟨hPc, hDc, hFc⟩ := PDq.cut (wc := [(oX10 w0 v0 v1 v2 v3 v4 g5 g6 (nI ed) g8 v9 (nI nb) g11 g12 v13 g14 g15 g16 g17 g18 g19 g20 g21 g22 g23 g24 g25 g26 v27 v28 v29 v30 v31 v32 v33 v34 v35 v36 v37 (nI qn155)), (v37, .inl (cA 0, 100, .inl fn156))]) hP hD hS hA [0, 1] (by decide) rfl
              refine va_callv (va_runV (As := [.int yn162]) (rest := []) ⟨hx, hb, hml, hown, hts⟩ (r_put l D cA sa w0 ed nb qn155 v0 v1 v2 v3 v4 v9 v13 v27 v28 v29 v30 v31 v32 v33 v34 v35 v36 v37 g8 g11 g12 g14 g15 g16 g17 g18 g19 g20 g21 g22 g23 g24 g26 g5 g6 g25 fn156 yn162 H.size (by omega)) (cwV 1 hts gX10_putNumber_X10_put rfl rfl rfl (by decide +kernel) ⟨(Nat.le_of_ble_eq_true rfl), (Nat.le_of_ble_eq_true rfl)⟩) ⟨Wd.blind, va_recv hK hPc (ci := 11) (q0 := 0) rfl rfl, fun U hU hW => ⟨rfl, Wd.call hPc hDc hK hC hZ hS hFc U hU hW⟩⟩ rfl rfl hl.1 rfl (lv_room (Nat.le_of_ble_eq_true rfl)) dX10_putNumber_32 ⟨(Nat.le_of_ble_eq_true rfl), (Nat.le_of_ble_eq_true rfl)⟩) hS (fun q _ h => hFc q h) hFc (fun u t H1 locs ht hvm hw hB hz1 hk1 hS => ?_)
              obtain ⟨qn163, fn164, hn165, hP1, hD1⟩ := hB
              rw [ht] at hP1
              obtain ⟨hP, hD⟩ := PDq.join (w := [(oX10 w0 v0 v1 v2 v3 v4 g5 g6 (nI ed) g8 v9 (nI nb) g11 g12 v13 g14 g15 g16 g17 g18 g19 g20 g21 g22 g23 g24 g25 g26 v27 v28 v29 v30 v31 v32 v33 v34 v35 v36 v37 (nI qn163)), (v37, .inl (cA 0, 100, .inl fn164))]) 0 hP hD [0, 1] [] rfl rfl (by decide) (by decide) hk1 hFc hP1 hD1 rfl
              generalize H1 = H at hP hS ⊢
              refine lv_iload_n hx hb dX10_putNumber_35 rfl (lv_at hl 0 rfl) ?_
              refine lv_bipush (v := 10) hx hb dX10_putNumber_36 (by decide) ?_
              refine lv_idiv hx hb dX10_putNumber_38 (by decide) ?_
              refine lv_topi (fun yn166 eyn166 => ?_)
              obtain rfl : yn166 = 100 := eyn166.trans (by first | rfl | decide +kernel)
              refine lv_istore_n (lv' := [(2, .int 100), (0, .ref w0), (1, .int a)]) hx hb dX10_putNumber_39 rfl hl (by decide) rfl (fun ls hl => ?_)
              refine lv_goto (tgt := 18) hx hb dX10_putNumber_40 (by decide) ?_
              refine lv_iload_n hx hb dX10_putNumber_18 rfl (lv_at hl 0 rfl) ?_
              refine lv_if_le (tgt := 43) hx hb dX10_putNumber_19 (by decide) (fun c9 => absurd c9 (by decide)) (fun c167 => ?_)
              refine lv_aload_n hx hb dX10_putNumber_22 rfl (lv_at hl 1 rfl) ?_
              refine lv_bipush (v := 48) hx hb dX10_putNumber_23 (by decide) ?_
              refine lv_iload_n hx hb dX10_putNumber_25 rfl (lv_at hl 2 rfl) ?_
              refine lv_iload_n hx hb dX10_putNumber_26 rfl (lv_at hl 0 rfl) ?_
              refine lv_idiv hx hb dX10_putNumber_27 (by decide) ?_
              refine lv_topi (fun yn168 eyn168 => ?_)
              refine lv_bipush (v := 10) hx hb dX10_putNumber_28 (by decide) ?_
              refine lv_irem hx hb dX10_putNumber_30 (by decide) ?_
              refine lv_topi (fun yn169 eyn169 => ?_)
              refine lv_iadd hx hb dX10_putNumber_31 ?_
              refine lv_topi (fun yn170 eyn170 => ?_)
              obtain ⟨hPc, hDc, hFc⟩ := PDq.cut (wc := [(oX10 w0 v0 v1 v2 v3 v4 g5 g6 (nI ed) g8 v9 (nI nb) g11 g12 v13 g14 g15 g16 g17 g18 g19 g20 g21 g22 g23 g24 g25 g26 v27 v28 v29 v30 v31 v32 v33 v34 v35 v36 v37 (nI qn163)), (v37, .inl (cA 0, 100, .inl fn164))]) hP hD hS hA [0, 1] (by decide) rfl
              refine va_callv (va_runV (As := [.int yn170]) (rest := []) ⟨hx, hb, hml, hown, hts⟩ (r_put l D cA sa w0 ed nb qn163 v0 v1 v2 v3 v4 v9 v13 v27 v28 v29 v30 v31 v32 v33 v34 v35 v36 v37 g8 g11 g12 g14 g15 g16 g17 g18 g19 g20 g21 g22 g23 g24 g26 g5 g6 g25 fn164 yn170 H.size (by omega)) (cwV 1 hts gX10_putNumber_X10_put rfl rfl rfl (by decide +kernel) ⟨(Nat.le_of_ble_eq_true rfl), (Nat.le_of_ble_eq_true rfl)⟩) ⟨Wd.blind, va_recv hK hPc (ci := 11) (q0 := 0) rfl rfl, fun U hU hW => ⟨rfl, Wd.call hPc hDc hK hC hZ hS hFc U hU hW⟩⟩ rfl rfl hl.1 rfl (lv_room (Nat.le_of_ble_eq_true rfl)) dX10_putNumber_32 ⟨(Nat.le_of_ble_eq_true rfl), (Nat.le_of_ble_eq_true rfl)⟩) hS (fun q _ h => hFc q h) hFc (fun u t H1 locs ht hvm hw hB hz1 hk1 hS => ?_)
              obtain ⟨qn171, fn172, hn173, hP1, hD1⟩ := hB
              rw [ht] at hP1
              obtain ⟨hP, hD⟩ := PDq.join (w := [(oX10 w0 v0 v1 v2 v3 v4 g5 g6 (nI ed) g8 v9 (nI nb) g11 g12 v13 g14 g15 g16 g17 g18 g19 g20 g21 g22 g23 g24 g25 g26 v27 v28 v29 v30 v31 v32 v33 v34 v35 v36 v37 (nI qn171)), (v37, .inl (cA 0, 100, .inl fn172))]) 0 hP hD [0, 1] [] rfl rfl (by decide) (by decide) hk1 hFc hP1 hD1 rfl
              generalize H1 = H at hP hS ⊢
              refine lv_iload_n hx hb dX10_putNumber_35 rfl (lv_at hl 0 rfl) ?_
              refine lv_bipush (v := 10) hx hb dX10_putNumber_36 (by decide) ?_
              refine lv_idiv hx hb dX10_putNumber_38 (by decide) ?_
              refine lv_topi (fun yn174 eyn174 => ?_)
              obtain rfl : yn174 = 10 := eyn174.trans (by first | rfl | decide +kernel)
              refine lv_istore_n (lv' := [(2, .int 10), (0, .ref w0), (1, .int a)]) hx hb dX10_putNumber_39 rfl hl (by decide) rfl (fun ls hl => ?_)
              refine lv_goto (tgt := 18) hx hb dX10_putNumber_40 (by decide) ?_
              refine lv_iload_n hx hb dX10_putNumber_18 rfl (lv_at hl 0 rfl) ?_
              refine lv_if_le (tgt := 43) hx hb dX10_putNumber_19 (by decide) (fun c9 => absurd c9 (by decide)) (fun c175 => ?_)
              refine lv_aload_n hx hb dX10_putNumber_22 rfl (lv_at hl 1 rfl) ?_
              refine lv_bipush (v := 48) hx hb dX10_putNumber_23 (by decide) ?_
              refine lv_iload_n hx hb dX10_putNumber_25 rfl (lv_at hl 2 rfl) ?_
              refine lv_iload_n hx hb dX10_putNumber_26 rfl (lv_at hl 0 rfl) ?_
              refine lv_idiv hx hb dX10_putNumber_27 (by decide) ?_
              refine lv_topi (fun yn176 eyn176 => ?_)
              refine lv_bipush (v := 10) hx hb dX10_putNumber_28 (by decide) ?_
              refine lv_irem hx hb dX10_putNumber_30 (by decide) ?_
              refine lv_topi (fun yn177 eyn177 => ?_)
              refine lv_iadd hx hb dX10_putNumber_31 ?_
              refine lv_topi (fun yn178 eyn178 => ?_)
              obtain ⟨hPc, hDc, hFc⟩ := PDq.cut (wc := [(oX10 w0 v0 v1 v2 v3 v4 g5 g6 (nI ed) g8 v9 (nI nb) g11 g12 v13 g14 g15 g16 g17 g18 g19 g20 g21 g22 g23 g24 g25 g26 v27 v28 v29 v30 v31 v32 v33 v34 v35 v36 v37 (nI qn171)), (v37, .inl (cA 0, 100, .inl fn172))]) hP hD hS hA [0, 1] (by decide) rfl
              refine va_callv (va_runV (As := [.int yn178]) (rest := []) ⟨hx, hb, hml, hown, hts⟩ (r_put l D cA sa w0 ed nb qn171 v0 v1 v2 v3 v4 v9 v13 v27 v28 v29 v30 v31 v32 v33 v34 v35 v36 v37 g8 g11 g12 g14 g15 g16 g17 g18 g19 g20 g21 g22 g23 g24 g26 g5 g6 g25 fn172 yn178 H.size (by omega)) (cwV 1 hts gX10_putNumber_X10_put rfl rfl rfl (by decide +kernel) ⟨(Nat.le_of_ble_eq_true rfl), (Nat.le_of_ble_eq_true rfl)⟩) ⟨Wd.blind, va_recv hK hPc (ci := 11) (q0 := 0) rfl rfl, fun U hU hW => ⟨rfl, Wd.call hPc hDc hK hC hZ hS hFc U hU hW⟩⟩ rfl rfl hl.1 rfl (lv_room (Nat.le_of_ble_eq_true rfl)) dX10_putNumber_32 ⟨(Nat.le_of_ble_eq_true rfl), (Nat.le_of_ble_eq_true rfl)⟩) hS (fun q _ h => hFc q h) hFc (fun u t H1 locs ht hvm hw hB hz1 hk1 hS => ?_)
              obtain ⟨qn179, fn180, hn181, hP1, hD1⟩ := hB
              rw [ht] at hP1
              obtain ⟨hP, hD⟩ := PDq.join (w := [(oX10 w0 v0 v1 v2 v3 v4 g5 g6 (nI ed) g8 v9 (nI nb) g11 g12 v13 g14 g15 g16 g17 g18 g19 g20 g21 g22 g23 g24 g25 g26 v27 v28 v29 v30 v31 v32 v33 v34 v35 v36 v37 (nI qn179)), (v37, .inl (cA 0, 100, .inl fn180))]) 0 hP hD [0, 1] [] rfl rfl (by decide) (by decide) hk1 hFc hP1 hD1 rfl
              generalize H1 = H at hP hS ⊢
              refine lv_iload_n hx hb dX10_putNumber_35 rfl (lv_at hl 0 rfl) ?_
              refine lv_bipush (v := 10) hx hb dX10_putNumber_36 (by decide) ?_
              refine lv_idiv hx hb dX10_putNumber_38 (by decide) ?_
              refine lv_topi (fun yn182 eyn182 => ?_)
              obtain rfl : yn182 = 1 := eyn182.trans (by first | rfl | decide +kernel)
              refine lv_istore_n (lv' := [(2, .int 1), (0, .ref w0), (1, .int a)]) hx hb dX10_putNumber_39 rfl hl (by decide) rfl (fun ls hl => ?_)
              refine lv_goto (tgt := 18) hx hb dX10_putNumber_40 (by decide) ?_
              refine lv_iload_n hx hb dX10_putNumber_18 rfl (lv_at hl 0 rfl) ?_
              refine lv_if_le (tgt := 43) hx hb dX10_putNumber_19 (by decide) (fun c9 => absurd c9 (by decide)) (fun c183 => ?_)
              refine lv_aload_n hx hb dX10_putNumber_22 rfl (lv_at hl 1 rfl) ?_
              refine lv_bipush (v := 48) hx hb dX10_putNumber_23 (by decide) ?_
              refine lv_iload_n hx hb dX10_putNumber_25 rfl (lv_at hl 2 rfl) ?_
              refine lv_iload_n hx hb dX10_putNumber_26 rfl (lv_at hl 0 rfl) ?_
              refine lv_idiv hx hb dX10_putNumber_27 (by decide) ?_
              refine lv_topi (fun yn184 eyn184 => ?_)
              refine lv_bipush (v := 10) hx hb dX10_putNumber_28 (by decide) ?_
              refine lv_irem hx hb dX10_putNumber_30 (by decide) ?_
              refine lv_topi (fun yn185 eyn185 => ?_)
              refine lv_iadd hx hb dX10_putNumber_31 ?_
              refine lv_topi (fun yn186 eyn186 => ?_)
              obtain ⟨hPc, hDc, hFc⟩ := PDq.cut (wc := [(oX10 w0 v0 v1 v2 v3 v4 g5 g6 (nI ed) g8 v9 (nI nb) g11 g12 v13 g14 g15 g16 g17 g18 g19 g20 g21 g22 g23 g24 g25 g26 v27 v28 v29 v30 v31 v32 v33 v34 v35 v36 v37 (nI qn179)), (v37, .inl (cA 0, 100, .inl fn180))]) hP hD hS hA [0, 1] (by decide) rfl
              refine va_callv (va_runV (As := [.int yn186]) (rest := []) ⟨hx, hb, hml, hown, hts⟩ (r_put l D cA sa w0 ed nb qn179 v0 v1 v2 v3 v4 v9 v13 v27 v28 v29 v30 v31 v32 v33 v34 v35 v36 v37 g8 g11 g12 g14 g15 g16 g17 g18 g19 g20 g21 g22 g23 g24 g26 g5 g6 g25 fn180 yn186 H.size (by omega)) (cwV 1 hts gX10_putNumber_X10_put rfl rfl rfl (by decide +kernel) ⟨(Nat.le_of_ble_eq_true rfl), (Nat.le_of_ble_eq_true rfl)⟩) ⟨Wd.blind, va_recv hK hPc (ci := 11) (q0 := 0) rfl rfl, fun U hU hW => ⟨rfl, Wd.call hPc hDc hK hC hZ hS hFc U hU hW⟩⟩ rfl rfl hl.1 rfl (lv_room (Nat.le_of_ble_eq_true rfl)) dX10_putNumber_32 ⟨(Nat.le_of_ble_eq_true rfl), (Nat.le_of_ble_eq_true rfl)⟩) hS (fun q _ h => hFc q h) hFc (fun u t H1 locs ht hvm hw hB hz1 hk1 hS => ?_)
              obtain ⟨qn187, fn188, hn189, hP1, hD1⟩ := hB
              rw [ht] at hP1
              obtain ⟨hP, hD⟩ := PDq.join (w := [(oX10 w0 v0 v1 v2 v3 v4 g5 g6 (nI ed) g8 v9 (nI nb) g11 g12 v13 g14 g15 g16 g17 g18 g19 g20 g21 g22 g23 g24 g25 g26 v27 v28 v29 v30 v31 v32 v33 v34 v35 v36 v37 (nI qn187)), (v37, .inl (cA 0, 100, .inl fn188))]) 0 hP hD [0, 1] [] rfl rfl (by decide) (by decide) hk1 hFc hP1 hD1 rfl
              generalize H1 = H at hP hS ⊢
              refine lv_iload_n hx hb dX10_putNumber_35 rfl (lv_at hl 0 rfl) ?_
              refine lv_bipush (v := 10) hx hb dX10_putNumber_36 (by decide) ?_
              refine lv_idiv hx hb dX10_putNumber_38 (by decide) ?_
              refine lv_topi (fun yn190 eyn190 => ?_)
              obtain rfl : yn190 = 0 := eyn190.trans (by first | rfl | decide +kernel)
              refine lv_istore_n (lv' := [(2, .int 0), (0, .ref w0), (1, .int a)]) hx hb dX10_putNumber_39 rfl hl (by decide) rfl (fun ls hl => ?_)
              refine lv_goto (tgt := 18) hx hb dX10_putNumber_40 (by decide) ?_
              refine lv_iload_n hx hb dX10_putNumber_18 rfl (lv_at hl 0 rfl) ?_
              refine lv_if_le (tgt := 43) hx hb dX10_putNumber_19 (by decide) (fun c191 => ?_) (fun c9 => absurd c9 (by decide))
              obtain ⟨hP9, hD9⟩ := PDq.sub (ws' := [(oX10 w0 v0 v1 v2 v3 v4 g5 g6 (nI ed) g8 v9 (nI nb) g11 g12 v13 g14 g15 g16 g17 g18 g19 g20 g21 g22 g23 g24 g25 g26 v27 v28 v29 v30 v31 v32 v33 v34 v35 v36 v37 (nI qn187)), (v37, .inl (cA 0, 100, .inl fn188))]) hP hD [0, 1] (by decide) rfl
              refine W.widen (k := 0) (n := 0) (Nat.le_of_ble_eq_true rfl) (Nat.le_of_ble_eq_true rfl) ?_
              exact (W.vret hx hb hr (fun t ht hW => ⟨⟨(), rfl, trivial, qn187, fn188, (by omega), by rw [ht]; exact hP9, hD9⟩, hS.F ht⟩) hS.2.2 dX10_putNumber_43)
            · skip
              refine lv_bipush (v := 10) hx hb dX10_putNumber_10 (by decide) ?_
              refine lv_iload_n hx hb dX10_putNumber_12 rfl (lv_at hl 0 rfl) ?_
              refine lv_imul hx hb dX10_putNumber_13 ?_
              refine lv_topi (fun yn192 eyn192 => ?_)
              obtain rfl : yn192 = 1000000 := eyn192.trans (by first | rfl | decide +kernel)
              refine lv_istore_n (lv' := [(2, .int 1000000), (0, .ref w0), (1, .int a)]) hx hb dX10_putNumber_14 rfl hl (by decide) rfl (fun ls hl => ?_)
              refine lv_goto (tgt := 2) hx hb dX10_putNumber_15 (by decide) ?_
              refine lv_iload_n hx hb dX10_putNumber_2 rfl (lv_at hl 2 rfl) ?_
              refine lv_iload_n hx hb dX10_putNumber_3 rfl (lv_at hl 0 rfl) ?_
              refine lv_idiv hx hb dX10_putNumber_4 (by decide) ?_
              refine lv_topi (fun yn193 eyn193 => ?_)
              refine lv_bipush (v := 9) hx hb dX10_putNumber_5 (by decide) ?_
              refine lv_icmp_le (tgt := 18) hx hb dX10_putNumber_7 (by decide) (fun c194 => ?_) (fun c194 => ?_)
              · skip
                refine lv_iload_n hx hb dX10_putNumber_18 rfl (lv_at hl 0 rfl) ?_
                refine lv_if_le (tgt := 43) hx hb dX10_putNumber_19 (by decide) (fun c9 => absurd c9 (by decide)) (fun c195 => ?_)
                refine lv_aload_n hx hb dX10_putNumber_22 rfl (lv_at hl 1 rfl) ?_
                refine lv_bipush (v := 48) hx hb dX10_putNumber_23 (by decide) ?_
                refine lv_iload_n hx hb dX10_putNumber_25 rfl (lv_at hl 2 rfl) ?_
                refine lv_iload_n hx hb dX10_putNumber_26 rfl (lv_at hl 0 rfl) ?_
                refine lv_idiv hx hb dX10_putNumber_27 (by decide) ?_
                refine lv_topi (fun yn196 eyn196 => ?_)
                refine lv_bipush (v := 10) hx hb dX10_putNumber_28 (by decide) ?_
                refine lv_irem hx hb dX10_putNumber_30 (by decide) ?_
                refine lv_topi (fun yn197 eyn197 => ?_)
                refine lv_iadd hx hb dX10_putNumber_31 ?_
                refine lv_topi (fun yn198 eyn198 => ?_)
                obtain ⟨hPc, hDc, hFc⟩ := PDq.cut (wc := [(oX10 w0 v0 v1 v2 v3 v4 g5 g6 (nI ed) g8 v9 (nI nb) g11 g12 v13 g14 g15 g16 g17 g18 g19 g20 g21 g22 g23 g24 g25 g26 v27 v28 v29 v30 v31 v32 v33 v34 v35 v36 v37 (nI ol)), (v37, .inl (cA 0, 100, .inl fo9))]) hP hD hS hA [0, 1] (by decide) rfl
                refine va_callv (va_runV (As := [.int yn198]) (rest := []) ⟨hx, hb, hml, hown, hts⟩ (r_put l D cA sa w0 ed nb ol v0 v1 v2 v3 v4 v9 v13 v27 v28 v29 v30 v31 v32 v33 v34 v35 v36 v37 g8 g11 g12 g14 g15 g16 g17 g18 g19 g20 g21 g22 g23 g24 g26 g5 g6 g25 fo9 yn198 s.heap.size (by omega)) (cwV 1 hts gX10_putNumber_X10_put rfl rfl rfl (by decide +kernel) ⟨(Nat.le_of_ble_eq_true rfl), (Nat.le_of_ble_eq_true rfl)⟩) ⟨Wd.blind, va_recv hK hPc (ci := 11) (q0 := 0) rfl rfl, fun U hU hW => ⟨rfl, Wd.call hPc hDc hK hC hZ hS hFc U hU hW⟩⟩ rfl rfl hl.1 rfl (lv_room (Nat.le_of_ble_eq_true rfl)) dX10_putNumber_32 ⟨(Nat.le_of_ble_eq_true rfl), (Nat.le_of_ble_eq_true rfl)⟩) hS (fun q _ h => hFc q h) hFc (fun u t H1 locs ht hvm hw hB hz1 hk1 hS => ?_)
                obtain ⟨qn199, fn200, hn201, hP1, hD1⟩ := hB
                rw [ht] at hP1
                obtain ⟨hP, hD⟩ := PDq.join (w := [(oX10 w0 v0 v1 v2 v3 v4 g5 g6 (nI ed) g8 v9 (nI nb) g11 g12 v13 g14 g15 g16 g17 g18 g19 g20 g21 g22 g23 g24 g25 g26 v27 v28 v29 v30 v31 v32 v33 v34 v35 v36 v37 (nI qn199)), (v37, .inl (cA 0, 100, .inl fn200))]) 0 hP hD [0, 1] [] rfl rfl (by decide) (by decide) hk1 hFc hP1 hD1 rfl
                generalize H1 = H at hP hS ⊢
                refine lv_iload_n hx hb dX10_putNumber_35 rfl (lv_at hl 0 rfl) ?_
                refine lv_bipush (v := 10) hx hb dX10_putNumber_36 (by decide) ?_
                refine lv_idiv hx hb dX10_putNumber_38 (by decide) ?_
                refine lv_topi (fun yn202 eyn202 => ?_)
                obtain rfl : yn202 = 100000 := eyn202.trans (by first | rfl | decide +kernel)
                refine lv_istore_n (lv' := [(2, .int 100000), (0, .ref w0), (1, .int a)]) hx hb dX10_putNumber_39 rfl hl (by decide) rfl (fun ls hl => ?_)
                refine lv_goto (tgt := 18) hx hb dX10_putNumber_40 (by decide) ?_
                refine lv_iload_n hx hb dX10_putNumber_18 rfl (lv_at hl 0 rfl) ?_
                refine lv_if_le (tgt := 43) hx hb dX10_putNumber_19 (by decide) (fun c9 => absurd c9 (by decide)) (fun c203 => ?_)
                refine lv_aload_n hx hb dX10_putNumber_22 rfl (lv_at hl 1 rfl) ?_
                refine lv_bipush (v := 48) hx hb dX10_putNumber_23 (by decide) ?_
                refine lv_iload_n hx hb dX10_putNumber_25 rfl (lv_at hl 2 rfl) ?_
                refine lv_iload_n hx hb dX10_putNumber_26 rfl (lv_at hl 0 rfl) ?_
                refine lv_idiv hx hb dX10_putNumber_27 (by decide) ?_
                refine lv_topi (fun yn204 eyn204 => ?_)
                refine lv_bipush (v := 10) hx hb dX10_putNumber_28 (by decide) ?_
                refine lv_irem hx hb dX10_putNumber_30 (by decide) ?_
                refine lv_topi (fun yn205 eyn205 => ?_)
                refine lv_iadd hx hb dX10_putNumber_31 ?_
                refine lv_topi (fun yn206 eyn206 => ?_)
                obtain ⟨hPc, hDc, hFc⟩ := PDq.cut (wc := [(oX10 w0 v0 v1 v2 v3 v4 g5 g6 (nI ed) g8 v9 (nI nb) g11 g12 v13 g14 g15 g16 g17 g18 g19 g20 g21 g22 g23 g24 g25 g26 v27 v28 v29 v30 v31 v32 v33 v34 v35 v36 v37 (nI qn199)), (v37, .inl (cA 0, 100, .inl fn200))]) hP hD hS hA [0, 1] (by decide) rfl
                refine va_callv (va_runV (As := [.int yn206]) (rest := []) ⟨hx, hb, hml, hown, hts⟩ (r_put l D cA sa w0 ed nb qn199 v0 v1 v2 v3 v4 v9 v13 v27 v28 v29 v30 v31 v32 v33 v34 v35 v36 v37 g8 g11 g12 g14 g15 g16 g17 g18 g19 g20 g21 g22 g23 g24 g26 g5 g6 g25 fn200 yn206 H.size (by omega)) (cwV 1 hts gX10_putNumber_X10_put rfl rfl rfl (by decide +kernel) ⟨(Nat.le_of_ble_eq_true rfl), (Nat.le_of_ble_eq_true rfl)⟩) ⟨Wd.blind, va_recv hK hPc (ci := 11) (q0 := 0) rfl rfl, fun U hU hW => ⟨rfl, Wd.call hPc hDc hK hC hZ hS hFc U hU hW⟩⟩ rfl rfl hl.1 rfl (lv_room (Nat.le_of_ble_eq_true rfl)) dX10_putNumber_32 ⟨(Nat.le_of_ble_eq_true rfl), (Nat.le_of_ble_eq_true rfl)⟩) hS (fun q _ h => hFc q h) hFc (fun u t H1 locs ht hvm hw hB hz1 hk1 hS => ?_)
                obtain ⟨qn207, fn208, hn209, hP1, hD1⟩ := hB
                rw [ht] at hP1
                obtain ⟨hP, hD⟩ := PDq.join (w := [(oX10 w0 v0 v1 v2 v3 v4 g5 g6 (nI ed) g8 v9 (nI nb) g11 g12 v13 g14 g15 g16 g17 g18 g19 g20 g21 g22 g23 g24 g25 g26 v27 v28 v29 v30 v31 v32 v33 v34 v35 v36 v37 (nI qn207)), (v37, .inl (cA 0, 100, .inl fn208))]) 0 hP hD [0, 1] [] rfl rfl (by decide) (by decide) hk1 hFc hP1 hD1 rfl
                generalize H1 = H at hP hS ⊢
                refine lv_iload_n hx hb dX10_putNumber_35 rfl (lv_at hl 0 rfl) ?_
                refine lv_bipush (v := 10) hx hb dX10_putNumber_36 (by decide) ?_
                refine lv_idiv hx hb dX10_putNumber_38 (by decide) ?_
                refine lv_topi (fun yn210 eyn210 => ?_)
                obtain rfl : yn210 = 10000 := eyn210.trans (by first | rfl | decide +kernel)
                refine lv_istore_n (lv' := [(2, .int 10000), (0, .ref w0), (1, .int a)]) hx hb dX10_putNumber_39 rfl hl (by decide) rfl (fun ls hl => ?_)
                refine lv_goto (tgt := 18) hx hb dX10_putNumber_40 (by decide) ?_
                refine lv_iload_n hx hb dX10_putNumber_18 rfl (lv_at hl 0 rfl) ?_
                refine lv_if_le (tgt := 43) hx hb dX10_putNumber_19 (by decide) (fun c9 => absurd c9 (by decide)) (fun c211 => ?_)
                refine lv_aload_n hx hb dX10_putNumber_22 rfl (lv_at hl 1 rfl) ?_
                refine lv_bipush (v := 48) hx hb dX10_putNumber_23 (by decide) ?_
                refine lv_iload_n hx hb dX10_putNumber_25 rfl (lv_at hl 2 rfl) ?_
                refine lv_iload_n hx hb dX10_putNumber_26 rfl (lv_at hl 0 rfl) ?_
                refine lv_idiv hx hb dX10_putNumber_27 (by decide) ?_
                refine lv_topi (fun yn212 eyn212 => ?_)
                refine lv_bipush (v := 10) hx hb dX10_putNumber_28 (by decide) ?_
                refine lv_irem hx hb dX10_putNumber_30 (by decide) ?_
                refine lv_topi (fun yn213 eyn213 => ?_)
                refine lv_iadd hx hb dX10_putNumber_31 ?_
                refine lv_topi (fun yn214 eyn214 => ?_)
                obtain ⟨hPc, hDc, hFc⟩ := PDq.cut (wc := [(oX10 w0 v0 v1 v2 v3 v4 g5 g6 (nI ed) g8 v9 (nI nb) g11 g12 v13 g14 g15 g16 g17 g18 g19 g20 g21 g22 g23 g24 g25 g26 v27 v28 v29 v30 v31 v32 v33 v34 v35 v36 v37 (nI qn207)), (v37, .inl (cA 0, 100, .inl fn208))]) hP hD hS hA [0, 1] (by decide) rfl
                refine va_callv (va_runV (As := [.int yn214]) (rest := []) ⟨hx, hb, hml, hown, hts⟩ (r_put l D cA sa w0 ed nb qn207 v0 v1 v2 v3 v4 v9 v13 v27 v28 v29 v30 v31 v32 v33 v34 v35 v36 v37 g8 g11 g12 g14 g15 g16 g17 g18 g19 g20 g21 g22 g23 g24 g26 g5 g6 g25 fn208 yn214 H.size (by omega)) (cwV 1 hts gX10_putNumber_X10_put rfl rfl rfl (by decide +kernel) ⟨(Nat.le_of_ble_eq_true rfl), (Nat.le_of_ble_eq_true rfl)⟩) ⟨Wd.blind, va_recv hK hPc (ci := 11) (q0 := 0) rfl rfl, fun U hU hW => ⟨rfl, Wd.call hPc hDc hK hC hZ hS hFc U hU hW⟩⟩ rfl rfl hl.1 rfl (lv_room (Nat.le_of_ble_eq_true rfl)) dX10_putNumber_32 ⟨(Nat.le_of_ble_eq_true rfl), (Nat.le_of_ble_eq_true rfl)⟩) hS (fun q _ h => hFc q h) hFc (fun u t H1 locs ht hvm hw hB hz1 hk1 hS => ?_)
                obtain ⟨qn215, fn216, hn217, hP1, hD1⟩ := hB
                rw [ht] at hP1
                obtain ⟨hP, hD⟩ := PDq.join (w := [(oX10 w0 v0 v1 v2 v3 v4 g5 g6 (nI ed) g8 v9 (nI nb) g11 g12 v13 g14 g15 g16 g17 g18 g19 g20 g21 g22 g23 g24 g25 g26 v27 v28 v29 v30 v31 v32 v33 v34 v35 v36 v37 (nI qn215)), (v37, .inl (cA 0, 100, .inl fn216))]) 0 hP hD [0, 1] [] rfl rfl (by decide) (by decide) hk1 hFc hP1 hD1 rfl
                generalize H1 = H at hP hS ⊢
                refine lv_iload_n hx hb dX10_putNumber_35 rfl (lv_at hl 0 rfl) ?_
                refine lv_bipush (v := 10) hx hb dX10_putNumber_36 (by decide) ?_
                refine lv_idiv hx hb dX10_putNumber_38 (by decide) ?_
                refine lv_topi (fun yn218 eyn218 => ?_)
                obtain rfl : yn218 = 1000 := eyn218.trans (by first | rfl | decide +kernel)
                refine lv_istore_n (lv' := [(2, .int 1000), (0, .ref w0), (1, .int a)]) hx hb dX10_putNumber_39 rfl hl (by decide) rfl (fun ls hl => ?_)
                refine lv_goto (tgt := 18) hx hb dX10_putNumber_40 (by decide) ?_
                refine lv_iload_n hx hb dX10_putNumber_18 rfl (lv_at hl 0 rfl) ?_
                refine lv_if_le (tgt := 43) hx hb dX10_putNumber_19 (by decide) (fun c9 => absurd c9 (by decide)) (fun c219 => ?_)
                refine lv_aload_n hx hb dX10_putNumber_22 rfl (lv_at hl 1 rfl) ?_
                refine lv_bipush (v := 48) hx hb dX10_putNumber_23 (by decide) ?_
                refine lv_iload_n hx hb dX10_putNumber_25 rfl (lv_at hl 2 rfl) ?_
                refine lv_iload_n hx hb dX10_putNumber_26 rfl (lv_at hl 0 rfl) ?_
                refine lv_idiv hx hb dX10_putNumber_27 (by decide) ?_
                refine lv_topi (fun yn220 eyn220 => ?_)
                refine lv_bipush (v := 10) hx hb dX10_putNumber_28 (by decide) ?_
                refine lv_irem hx hb dX10_putNumber_30 (by decide) ?_
                refine lv_topi (fun yn221 eyn221 => ?_)
                refine lv_iadd hx hb dX10_putNumber_31 ?_
                refine lv_topi (fun yn222 eyn222 => ?_)
                obtain ⟨hPc, hDc, hFc⟩ := PDq.cut (wc := [(oX10 w0 v0 v1 v2 v3 v4 g5 g6 (nI ed) g8 v9 (nI nb) g11 g12 v13 g14 g15 g16 g17 g18 g19 g20 g21 g22 g23 g24 g25 g26 v27 v28 v29 v30 v31 v32 v33 v34 v35 v36 v37 (nI qn215)), (v37, .inl (cA 0, 100, .inl fn216))]) hP hD hS hA [0, 1] (by decide) rfl
                refine va_callv (va_runV (As := [.int yn222]) (rest := []) ⟨hx, hb, hml, hown, hts⟩ (r_put l D cA sa w0 ed nb qn215 v0 v1 v2 v3 v4 v9 v13 v27 v28 v29 v30 v31 v32 v33 v34 v35 v36 v37 g8 g11 g12 g14 g15 g16 g17 g18 g19 g20 g21 g22 g23 g24 g26 g5 g6 g25 fn216 yn222 H.size (by omega)) (cwV 1 hts gX10_putNumber_X10_put rfl rfl rfl (by decide +kernel) ⟨(Nat.le_of_ble_eq_true rfl), (Nat.le_of_ble_eq_true rfl)⟩) ⟨Wd.blind, va_recv hK hPc (ci := 11) (q0 := 0) rfl rfl, fun U hU hW => ⟨rfl, Wd.call hPc hDc hK hC hZ hS hFc U hU hW⟩⟩ rfl rfl hl.1 rfl (lv_room (Nat.le_of_ble_eq_true rfl)) dX10_putNumber_32 ⟨(Nat.le_of_ble_eq_true rfl), (Nat.le_of_ble_eq_true rfl)⟩) hS (fun q _ h => hFc q h) hFc (fun u t H1 locs ht hvm hw hB hz1 hk1 hS => ?_)
                obtain ⟨qn223, fn224, hn225, hP1, hD1⟩ := hB
                rw [ht] at hP1
                obtain ⟨hP, hD⟩ := PDq.join (w := [(oX10 w0 v0 v1 v2 v3 v4 g5 g6 (nI ed) g8 v9 (nI nb) g11 g12 v13 g14 g15 g16 g17 g18 g19 g20 g21 g22 g23 g24 g25 g26 v27 v28 v29 v30 v31 v32 v33 v34 v35 v36 v37 (nI qn223)), (v37, .inl (cA 0, 100, .inl fn224))]) 0 hP hD [0, 1] [] rfl rfl (by decide) (by decide) hk1 hFc hP1 hD1 rfl
                generalize H1 = H at hP hS ⊢
                refine lv_iload_n hx hb dX10_putNumber_35 rfl (lv_at hl 0 rfl) ?_
                refine lv_bipush (v := 10) hx hb dX10_putNumber_36 (by decide) ?_
                refine lv_idiv hx hb dX10_putNumber_38 (by decide) ?_
                refine lv_topi (fun yn226 eyn226 => ?_)
                obtain rfl : yn226 = 100 := eyn226.trans (by first | rfl | decide +kernel)
                refine lv_istore_n (lv' := [(2, .int 100), (0, .ref w0), (1, .int a)]) hx hb dX10_putNumber_39 rfl hl (by decide) rfl (fun ls hl => ?_)
                refine lv_goto (tgt := 18) hx hb dX10_putNumber_40 (by decide) ?_
                refine lv_iload_n hx hb dX10_putNumber_18 rfl (lv_at hl 0 rfl) ?_
                refine lv_if_le (tgt := 43) hx hb dX10_putNumber_19 (by decide) (fun c9 => absurd c9 (by decide)) (fun c227 => ?_)
                refine lv_aload_n hx hb dX10_putNumber_22 rfl (lv_at hl 1 rfl) ?_
                refine lv_bipush (v := 48) hx hb dX10_putNumber_23 (by decide) ?_
                refine lv_iload_n hx hb dX10_putNumber_25 rfl (lv_at hl 2 rfl) ?_
                refine lv_iload_n hx hb dX10_putNumber_26 rfl (lv_at hl 0 rfl) ?_
                refine lv_idiv hx hb dX10_putNumber_27 (by decide) ?_
                refine lv_topi (fun yn228 eyn228 => ?_)
                refine lv_bipush (v := 10) hx hb dX10_putNumber_28 (by decide) ?_
                refine lv_irem hx hb dX10_putNumber_30 (by decide) ?_
                refine lv_topi (fun yn229 eyn229 => ?_)
                refine lv_iadd hx hb dX10_putNumber_31 ?_
                refine lv_topi (fun yn230 eyn230 => ?_)
                obtain ⟨hPc, hDc, hFc⟩ := PDq.cut (wc := [(oX10 w0 v0 v1 v2 v3 v4 g5 g6 (nI ed) g8 v9 (nI nb) g11 g12 v13 g14 g15 g16 g17 g18 g19 g20 g21 g22 g23 g24 g25 g26 v27 v28 v29 v30 v31 v32 v33 v34 v35 v36 v37 (nI qn223)), (v37, .inl (cA 0, 100, .inl fn224))]) hP hD hS hA [0, 1] (by decide) rfl
                refine va_callv (va_runV (As := [.int yn230]) (rest := []) ⟨hx, hb, hml, hown, hts⟩ (r_put l D cA sa w0 ed nb qn223 v0 v1 v2 v3 v4 v9 v13 v27 v28 v29 v30 v31 v32 v33 v34 v35 v36 v37 g8 g11 g12 g14 g15 g16 g17 g18 g19 g20 g21 g22 g23 g24 g26 g5 g6 g25 fn224 yn230 H.size (by omega)) (cwV 1 hts gX10_putNumber_X10_put rfl rfl rfl (by decide +kernel) ⟨(Nat.le_of_ble_eq_true rfl), (Nat.le_of_ble_eq_true rfl)⟩) ⟨Wd.blind, va_recv hK hPc (ci := 11) (q0 := 0) rfl rfl, fun U hU hW => ⟨rfl, Wd.call hPc hDc hK hC hZ hS hFc U hU hW⟩⟩ rfl rfl hl.1 rfl (lv_room (Nat.le_of_ble_eq_true rfl)) dX10_putNumber_32 ⟨(Nat.le_of_ble_eq_true rfl), (Nat.le_of_ble_eq_true rfl)⟩) hS (fun q _ h => hFc q h) hFc (fun u t H1 locs ht hvm hw hB hz1 hk1 hS => ?_)
                obtain ⟨qn231, fn232, hn233, hP1, hD1⟩ := hB
                rw [ht] at hP1
                obtain ⟨hP, hD⟩ := PDq.join (w := [(oX10 w0 v0 v1 v2 v3 v4 g5 g6 (nI ed) g8 v9 (nI nb) g11 g12 v13 g14 g15 g16 g17 g18 g19 g20 g21 g22 g23 g24 g25 g26 v27 v28 v29 v30 v31 v32 v33 v34 v35 v36 v37 (nI qn231)), (v37, .inl (cA 0, 100, .inl fn232))]) 0 hP hD [0, 1] [] rfl rfl (by decide) (by decide) hk1 hFc hP1 hD1 rfl
                generalize H1 = H at hP hS ⊢
                refine lv_iload_n hx hb dX10_putNumber_35 rfl (lv_at hl 0 rfl) ?_
                refine lv_bipush (v := 10) hx hb dX10_putNumber_36 (by decide) ?_
                refine lv_idiv hx hb dX10_putNumber_38 (by decide) ?_
                refine lv_topi (fun yn234 eyn234 => ?_)
                obtain rfl : yn234 = 10 := eyn234.trans (by first | rfl | decide +kernel)
                refine lv_istore_n (lv' := [(2, .int 10), (0, .ref w0), (1, .int a)]) hx hb dX10_putNumber_39 rfl hl (by decide) rfl (fun ls hl => ?_)
                refine lv_goto (tgt := 18) hx hb dX10_putNumber_40 (by decide) ?_
                refine lv_iload_n hx hb dX10_putNumber_18 rfl (lv_at hl 0 rfl) ?_
                refine lv_if_le (tgt := 43) hx hb dX10_putNumber_19 (by decide) (fun c9 => absurd c9 (by decide)) (fun c235 => ?_)
                refine lv_aload_n hx hb dX10_putNumber_22 rfl (lv_at hl 1 rfl) ?_
                refine lv_bipush (v := 48) hx hb dX10_putNumber_23 (by decide) ?_
                refine lv_iload_n hx hb dX10_putNumber_25 rfl (lv_at hl 2 rfl) ?_
                refine lv_iload_n hx hb dX10_putNumber_26 rfl (lv_at hl 0 rfl) ?_
                refine lv_idiv hx hb dX10_putNumber_27 (by decide) ?_
                refine lv_topi (fun yn236 eyn236 => ?_)
                refine lv_bipush (v := 10) hx hb dX10_putNumber_28 (by decide) ?_
                refine lv_irem hx hb dX10_putNumber_30 (by decide) ?_
                refine lv_topi (fun yn237 eyn237 => ?_)
                refine lv_iadd hx hb dX10_putNumber_31 ?_
                refine lv_topi (fun yn238 eyn238 => ?_)
                obtain ⟨hPc, hDc, hFc⟩ := PDq.cut (wc := [(oX10 w0 v0 v1 v2 v3 v4 g5 g6 (nI ed) g8 v9 (nI nb) g11 g12 v13 g14 g15 g16 g17 g18 g19 g20 g21 g22 g23 g24 g25 g26 v27 v28 v29 v30 v31 v32 v33 v34 v35 v36 v37 (nI qn231)), (v37, .inl (cA 0, 100, .inl fn232))]) hP hD hS hA [0, 1] (by decide) rfl
                refine va_callv (va_runV (As := [.int yn238]) (rest := []) ⟨hx, hb, hml, hown, hts⟩ (r_put l D cA sa w0 ed nb qn231 v0 v1 v2 v3 v4 v9 v13 v27 v28 v29 v30 v31 v32 v33 v34 v35 v36 v37 g8 g11 g12 g14 g15 g16 g17 g18 g19 g20 g21 g22 g23 g24 g26 g5 g6 g25 fn232 yn238 H.size (by omega)) (cwV 1 hts gX10_putNumber_X10_put rfl rfl rfl (by decide +kernel) ⟨(Nat.le_of_ble_eq_true rfl), (Nat.le_of_ble_eq_true rfl)⟩) ⟨Wd.blind, va_recv hK hPc (ci := 11) (q0 := 0) rfl rfl, fun U hU hW => ⟨rfl, Wd.call hPc hDc hK hC hZ hS hFc U hU hW⟩⟩ rfl rfl hl.1 rfl (lv_room (Nat.le_of_ble_eq_true rfl)) dX10_putNumber_32 ⟨(Nat.le_of_ble_eq_true rfl), (Nat.le_of_ble_eq_true rfl)⟩) hS (fun q _ h => hFc q h) hFc (fun u t H1 locs ht hvm hw hB hz1 hk1 hS => ?_)
                obtain ⟨qn239, fn240, hn241, hP1, hD1⟩ := hB
                rw [ht] at hP1
                obtain ⟨hP, hD⟩ := PDq.join (w := [(oX10 w0 v0 v1 v2 v3 v4 g5 g6 (nI ed) g8 v9 (nI nb) g11 g12 v13 g14 g15 g16 g17 g18 g19 g20 g21 g22 g23 g24 g25 g26 v27 v28 v29 v30 v31 v32 v33 v34 v35 v36 v37 (nI qn239)), (v37, .inl (cA 0, 100, .inl fn240))]) 0 hP hD [0, 1] [] rfl rfl (by decide) (by decide) hk1 hFc hP1 hD1 rfl
                generalize H1 = H at hP hS ⊢
                refine lv_iload_n hx hb dX10_putNumber_35 rfl (lv_at hl 0 rfl) ?_
                refine lv_bipush (v := 10) hx hb dX10_putNumber_36 (by decide) ?_
                refine lv_idiv hx hb dX10_putNumber_38 (by decide) ?_
                refine lv_topi (fun yn242 eyn242 => ?_)
                obtain rfl : yn242 = 1 := eyn242.trans (by first | rfl | decide +kernel)
                refine lv_istore_n (lv' := [(2, .int 1), (0, .ref w0), (1, .int a)]) hx hb dX10_putNumber_39 rfl hl (by decide) rfl (fun ls hl => ?_)
                refine lv_goto (tgt := 18) hx hb dX10_putNumber_40 (by decide) ?_
                refine lv_iload_n hx hb dX10_putNumber_18 rfl (lv_at hl 0 rfl) ?_
                refine lv_if_le (tgt := 43) hx hb dX10_putNumber_19 (by decide) (fun c9 => absurd c9 (by decide)) (fun c243 => ?_)
                refine lv_aload_n hx hb dX10_putNumber_22 rfl (lv_at hl 1 rfl) ?_
                refine lv_bipush (v := 48) hx hb dX10_putNumber_23 (by decide) ?_
                refine lv_iload_n hx hb dX10_putNumber_25 rfl (lv_at hl 2 rfl) ?_
                refine lv_iload_n hx hb dX10_putNumber_26 rfl (lv_at hl 0 rfl) ?_
                refine lv_idiv hx hb dX10_putNumber_27 (by decide) ?_
                refine lv_topi (fun yn244 eyn244 => ?_)
                refine lv_bipush (v := 10) hx hb dX10_putNumber_28 (by decide) ?_
                refine lv_irem hx hb dX10_putNumber_30 (by decide) ?_
                refine lv_topi (fun yn245 eyn245 => ?_)
                refine lv_iadd hx hb dX10_putNumber_31 ?_
                refine lv_topi (fun yn246 eyn246 => ?_)
                obtain ⟨hPc, hDc, hFc⟩ := PDq.cut (wc := [(oX10 w0 v0 v1 v2 v3 v4 g5 g6 (nI ed) g8 v9 (nI nb) g11 g12 v13 g14 g15 g16 g17 g18 g19 g20 g21 g22 g23 g24 g25 g26 v27 v28 v29 v30 v31 v32 v33 v34 v35 v36 v37 (nI qn239)), (v37, .inl (cA 0, 100, .inl fn240))]) hP hD hS hA [0, 1] (by decide) rfl
                refine va_callv (va_runV (As := [.int yn246]) (rest := []) ⟨hx, hb, hml, hown, hts⟩ (r_put l D cA sa w0 ed nb qn239 v0 v1 v2 v3 v4 v9 v13 v27 v28 v29 v30 v31 v32 v33 v34 v35 v36 v37 g8 g11 g12 g14 g15 g16 g17 g18 g19 g20 g21 g22 g23 g24 g26 g5 g6 g25 fn240 yn246 H.size (by omega)) (cwV 1 hts gX10_putNumber_X10_put rfl rfl rfl (by decide +kernel) ⟨(Nat.le_of_ble_eq_true rfl), (Nat.le_of_ble_eq_true rfl)⟩) ⟨Wd.blind, va_recv hK hPc (ci := 11) (q0 := 0) rfl rfl, fun U hU hW => ⟨rfl, Wd.call hPc hDc hK hC hZ hS hFc U hU hW⟩⟩ rfl rfl hl.1 rfl (lv_room (Nat.le_of_ble_eq_true rfl)) dX10_putNumber_32 ⟨(Nat.le_of_ble_eq_true rfl), (Nat.le_of_ble_eq_true rfl)⟩) hS (fun q _ h => hFc q h) hFc (fun u t H1 locs ht hvm hw hB hz1 hk1 hS => ?_)
                obtain ⟨qn247, fn248, hn249, hP1, hD1⟩ := hB
                rw [ht] at hP1
                obtain ⟨hP, hD⟩ := PDq.join (w := [(oX10 w0 v0 v1 v2 v3 v4 g5 g6 (nI ed) g8 v9 (nI nb) g11 g12 v13 g14 g15 g16 g17 g18 g19 g20 g21 g22 g23 g24 g25 g26 v27 v28 v29 v30 v31 v32 v33 v34 v35 v36 v37 (nI qn247)), (v37, .inl (cA 0, 100, .inl fn248))]) 0 hP hD [0, 1] [] rfl rfl (by decide) (by decide) hk1 hFc hP1 hD1 rfl
                generalize H1 = H at hP hS ⊢
                refine lv_iload_n hx hb dX10_putNumber_35 rfl (lv_at hl 0 rfl) ?_
                refine lv_bipush (v := 10) hx hb dX10_putNumber_36 (by decide) ?_
                refine lv_idiv hx hb dX10_putNumber_38 (by decide) ?_
                refine lv_topi (fun yn250 eyn250 => ?_)
                obtain rfl : yn250 = 0 := eyn250.trans (by first | rfl | decide +kernel)
                refine lv_istore_n (lv' := [(2, .int 0), (0, .ref w0), (1, .int a)]) hx hb dX10_putNumber_39 rfl hl (by decide) rfl (fun ls hl => ?_)
                refine lv_goto (tgt := 18) hx hb dX10_putNumber_40 (by decide) ?_
                refine lv_iload_n hx hb dX10_putNumber_18 rfl (lv_at hl 0 rfl) ?_
                refine lv_if_le (tgt := 43) hx hb dX10_putNumber_19 (by decide) (fun c251 => ?_) (fun c9 => absurd c9 (by decide))
                obtain ⟨hP9, hD9⟩ := PDq.sub (ws' := [(oX10 w0 v0 v1 v2 v3 v4 g5 g6 (nI ed) g8 v9 (nI nb) g11 g12 v13 g14 g15 g16 g17 g18 g19 g20 g21 g22 g23 g24 g25 g26 v27 v28 v29 v30 v31 v32 v33 v34 v35 v36 v37 (nI qn247)), (v37, .inl (cA 0, 100, .inl fn248))]) hP hD [0, 1] (by decide) rfl
                refine W.widen (k := 0) (n := 0) (Nat.le_of_ble_eq_true rfl) (Nat.le_of_ble_eq_true rfl) ?_
                exact (W.vret hx hb hr (fun t ht hW => ⟨⟨(), rfl, trivial, qn247, fn248, (by omega), by rw [ht]; exact hP9, hD9⟩, hS.F ht⟩) hS.2.2 dX10_putNumber_43)
              · skip
                refine lv_bipush (v := 10) hx hb dX10_putNumber_10 (by decide) ?_
                refine lv_iload_n hx hb dX10_putNumber_12 rfl (lv_at hl 0 rfl) ?_
                refine lv_imul hx hb dX10_putNumber_13 ?_
                refine lv_topi (fun yn252 eyn252 => ?_)
                obtain rfl : yn252 = 10000000 := eyn252.trans (by first | rfl | decide +kernel)
                refine lv_istore_n (lv' := [(2, .int 10000000), (0, .ref w0), (1, .int a)]) hx hb dX10_putNumber_14 rfl hl (by decide) rfl (fun ls hl => ?_)
                refine lv_goto (tgt := 2) hx hb dX10_putNumber_15 (by decide) ?_
                refine lv_iload_n hx hb dX10_putNumber_2 rfl (lv_at hl 2 rfl) ?_
                refine lv_iload_n hx hb dX10_putNumber_3 rfl (lv_at hl 0 rfl) ?_
                refine lv_idiv hx hb dX10_putNumber_4 (by decide) ?_
                refine lv_topi (fun yn253 eyn253 => ?_)
                refine lv_bipush (v := 9) hx hb dX10_putNumber_5 (by decide) ?_
                refine lv_icmp_le (tgt := 18) hx hb dX10_putNumber_7 (by decide) (fun c254 => ?_) (fun c254 => ?_)
                · skip
                  refine lv_iload_n hx hb dX10_putNumber_18 rfl (lv_at hl 0 rfl) ?_
                  refine lv_if_le (tgt := 43) hx hb dX10_putNumber_19 (by decide) (fun c9 => absurd c9 (by decide)) (fun c255 => ?_)
                  refine lv_aload_n hx hb dX10_putNumber_22 rfl (lv_at hl 1 rfl) ?_
                  refine lv_bipush (v := 48) hx hb dX10_putNumber_23 (by decide) ?_
                  refine lv_iload_n hx hb dX10_putNumber_25 rfl (lv_at hl 2 rfl) ?_
                  refine lv_iload_n hx hb dX10_putNumber_26 rfl (lv_at hl 0 rfl) ?_
                  refine lv_idiv hx hb dX10_putNumber_27 (by decide) ?_
                  refine lv_topi (fun yn256 eyn256 => ?_)
                  refine lv_bipush (v := 10) hx hb dX10_putNumber_28 (by decide) ?_
                  refine lv_irem hx hb dX10_putNumber_30 (by decide) ?_
                  refine lv_topi (fun yn257 eyn257 => ?_)
                  refine lv_iadd hx hb dX10_putNumber_31 ?_
                  refine lv_topi (fun yn258 eyn258 => ?_)
                  obtain ⟨hPc, hDc, hFc⟩ := PDq.cut (wc := [(oX10 w0 v0 v1 v2 v3 v4 g5 g6 (nI ed) g8 v9 (nI nb) g11 g12 v13 g14 g15 g16 g17 g18 g19 g20 g21 g22 g23 g24 g25 g26 v27 v28 v29 v30 v31 v32 v33 v34 v35 v36 v37 (nI ol)), (v37, .inl (cA 0, 100, .inl fo9))]) hP hD hS hA [0, 1] (by decide) rfl
                  refine va_callv (va_runV (As := [.int yn258]) (rest := []) ⟨hx, hb, hml, hown, hts⟩ (r_put l D cA sa w0 ed nb ol v0 v1 v2 v3 v4 v9 v13 v27 v28 v29 v30 v31 v32 v33 v34 v35 v36 v37 g8 g11 g12 g14 g15 g16 g17 g18 g19 g20 g21 g22 g23 g24 g26 g5 g6 g25 fo9 yn258 s.heap.size (by omega)) (cwV 1 hts gX10_putNumber_X10_put rfl rfl rfl (by decide +kernel) ⟨(Nat.le_of_ble_eq_true rfl), (Nat.le_of_ble_eq_true rfl)⟩) ⟨Wd.blind, va_recv hK hPc (ci := 11) (q0 := 0) rfl rfl, fun U hU hW => ⟨rfl, Wd.call hPc hDc hK hC hZ hS hFc U hU hW⟩⟩ rfl rfl hl.1 rfl (lv_room (Nat.le_of_ble_eq_true rfl)) dX10_putNumber_32 ⟨(Nat.le_of_ble_eq_true rfl), (Nat.le_of_ble_eq_true rfl)⟩) hS (fun q _ h => hFc q h) hFc (fun u t H1 locs ht hvm hw hB hz1 hk1 hS => ?_)
                  obtain ⟨qn259, fn260, hn261, hP1, hD1⟩ := hB
                  rw [ht] at hP1
                  obtain ⟨hP, hD⟩ := PDq.join (w := [(oX10 w0 v0 v1 v2 v3 v4 g5 g6 (nI ed) g8 v9 (nI nb) g11 g12 v13 g14 g15 g16 g17 g18 g19 g20 g21 g22 g23 g24 g25 g26 v27 v28 v29 v30 v31 v32 v33 v34 v35 v36 v37 (nI qn259)), (v37, .inl (cA 0, 100, .inl fn260))]) 0 hP hD [0, 1] [] rfl rfl (by decide) (by decide) hk1 hFc hP1 hD1 rfl
                  generalize H1 = H at hP hS ⊢
                  refine lv_iload_n hx hb dX10_putNumber_35 rfl (lv_at hl 0 rfl) ?_
                  refine lv_bipush (v := 10) hx hb dX10_putNumber_36 (by decide) ?_
                  refine lv_idiv hx hb dX10_putNumber_38 (by decide) ?_
                  refine lv_topi (fun yn262 eyn262 => ?_)
                  obtain rfl : yn262 = 1000000 := eyn262.trans (by first | rfl | decide +kernel)
                  refine lv_istore_n (lv' := [(2, .int 1000000), (0, .ref w0), (1, .int a)]) hx hb dX10_putNumber_39 rfl hl (by decide) rfl (fun ls hl => ?_)
                  refine lv_goto (tgt := 18) hx hb dX10_putNumber_40 (by decide) ?_
                  refine lv_iload_n hx hb dX10_putNumber_18 rfl (lv_at hl 0 rfl) ?_
                  refine lv_if_le (tgt := 43) hx hb dX10_putNumber_19 (by decide) (fun c9 => absurd c9 (by decide)) (fun c263 => ?_)
                  refine lv_aload_n hx hb dX10_putNumber_22 rfl (lv_at hl 1 rfl) ?_
                  refine lv_bipush (v := 48) hx hb dX10_putNumber_23 (by decide) ?_
                  refine lv_iload_n hx hb dX10_putNumber_25 rfl (lv_at hl 2 rfl) ?_
                  refine lv_iload_n hx hb dX10_putNumber_26 rfl (lv_at hl 0 rfl) ?_
                  refine lv_idiv hx hb dX10_putNumber_27 (by decide) ?_
                  refine lv_topi (fun yn264 eyn264 => ?_)
                  refine lv_bipush (v := 10) hx hb dX10_putNumber_28 (by decide) ?_
                  refine lv_irem hx hb dX10_putNumber_30 (by decide) ?_
                  refine lv_topi (fun yn265 eyn265 => ?_)
                  refine lv_iadd hx hb dX10_putNumber_31 ?_
                  refine lv_topi (fun yn266 eyn266 => ?_)
                  obtain ⟨hPc, hDc, hFc⟩ := PDq.cut (wc := [(oX10 w0 v0 v1 v2 v3 v4 g5 g6 (nI ed) g8 v9 (nI nb) g11 g12 v13 g14 g15 g16 g17 g18 g19 g20 g21 g22 g23 g24 g25 g26 v27 v28 v29 v30 v31 v32 v33 v34 v35 v36 v37 (nI qn259)), (v37, .inl (cA 0, 100, .inl fn260))]) hP hD hS hA [0, 1] (by decide) rfl
                  refine va_callv (va_runV (As := [.int yn266]) (rest := []) ⟨hx, hb, hml, hown, hts⟩ (r_put l D cA sa w0 ed nb qn259 v0 v1 v2 v3 v4 v9 v13 v27 v28 v29 v30 v31 v32 v33 v34 v35 v36 v37 g8 g11 g12 g14 g15 g16 g17 g18 g19 g20 g21 g22 g23 g24 g26 g5 g6 g25 fn260 yn266 H.size (by omega)) (cwV 1 hts gX10_putNumber_X10_put rfl rfl rfl (by decide +kernel) ⟨(Nat.le_of_ble_eq_true rfl), (Nat.le_of_ble_eq_true rfl)⟩) ⟨Wd.blind, va_recv hK hPc (ci := 11) (q0 := 0) rfl rfl, fun U hU hW => ⟨rfl, Wd.call hPc hDc hK hC hZ hS hFc U hU hW⟩⟩ rfl rfl hl.1 rfl (lv_room (Nat.le_of_ble_eq_true rfl)) dX10_putNumber_32 ⟨(Nat.le_of_ble_eq_true rfl), (Nat.le_of_ble_eq_true rfl)⟩) hS (fun q _ h => hFc q h) hFc (fun u t H1 locs ht hvm hw hB hz1 hk1 hS => ?_)
                  obtain ⟨qn267, fn268, hn269, hP1, hD1⟩ := hB
                  rw [ht] at hP1
                  obtain ⟨hP, hD⟩ := PDq.join (w := [(oX10 w0 v0 v1 v2 v3 v4 g5 g6 (nI ed) g8 v9 (nI nb) g11 g12 v13 g14 g15 g16 g17 g18 g19 g20 g21 g22 g23 g24 g25 g26 v27 v28 v29 v30 v31 v32 v33 v34 v35 v36 v37 (nI qn267)), (v37, .inl (cA 0, 100, .inl fn268))]) 0 hP hD [0, 1] [] rfl rfl (by decide) (by decide) hk1 hFc hP1 hD1 rfl
                  generalize H1 = H at hP hS ⊢
                  refine lv_iload_n hx hb dX10_putNumber_35 rfl (lv_at hl 0 rfl) ?_
                  refine lv_bipush (v := 10) hx hb dX10_putNumber_36 (by decide) ?_
                  refine lv_idiv hx hb dX10_putNumber_38 (by decide) ?_
                  refine lv_topi (fun yn270 eyn270 => ?_)
                  obtain rfl : yn270 = 100000 := eyn270.trans (by first | rfl | decide +kernel)
                  refine lv_istore_n (lv' := [(2, .int 100000), (0, .ref w0), (1, .int a)]) hx hb dX10_putNumber_39 rfl hl (by decide) rfl (fun ls hl => ?_)
                  refine lv_goto (tgt := 18) hx hb dX10_putNumber_40 (by decide) ?_
                  refine lv_iload_n hx hb dX10_putNumber_18 rfl (lv_at hl 0 rfl) ?_
                  refine lv_if_le (tgt := 43) hx hb dX10_putNumber_19 (by decide) (fun c9 => absurd c9 (by decide)) (fun c271 => ?_)
                  refine lv_aload_n hx hb dX10_putNumber_22 rfl (lv_at hl 1 rfl) ?_
                  refine lv_bipush (v := 48) hx hb dX10_putNumber_23 (by decide) ?_
                  refine lv_iload_n hx hb dX10_putNumber_25 rfl (lv_at hl 2 rfl) ?_
                  refine lv_iload_n hx hb dX10_putNumber_26 rfl (lv_at hl 0 rfl) ?_
                  refine lv_idiv hx hb dX10_putNumber_27 (by decide) ?_
                  refine lv_topi (fun yn272 eyn272 => ?_)
                  refine lv_bipush (v := 10) hx hb dX10_putNumber_28 (by decide) ?_
                  refine lv_irem hx hb dX10_putNumber_30 (by decide) ?_
                  refine lv_topi (fun yn273 eyn273 => ?_)
                  refine lv_iadd hx hb dX10_putNumber_31 ?_
                  refine lv_topi (fun yn274 eyn274 => ?_)
                  obtain ⟨hPc, hDc, hFc⟩ := PDq.cut (wc := [(oX10 w0 v0 v1 v2 v3 v4 g5 g6 (nI ed) g8 v9 (nI nb) g11 g12 v13 g14 g15 g16 g17 g18 g19 g20 g21 g22 g23 g24 g25 g26 v27 v28 v29 v30 v31 v32 v33 v34 v35 v36 v37 (nI qn267)), (v37, .inl (cA 0, 100, .inl fn268))]) hP hD hS hA [0, 1] (by decide) rfl
                  refine va_callv (va_runV (As := [.int yn274]) (rest := []) ⟨hx, hb, hml, hown, hts⟩ (r_put l D cA sa w0 ed nb qn267 v0 v1 v2 v3 v4 v9 v13 v27 v28 v29 v30 v31 v32 v33 v34 v35 v36 v37 g8 g11 g12 g14 g15 g16 g17 g18 g19 g20 g21 g22 g23 g24 g26 g5 g6 g25 fn268 yn274 H.size (by omega)) (cwV 1 hts gX10_putNumber_X10_put rfl rfl rfl (by decide +kernel) ⟨(Nat.le_of_ble_eq_true rfl), (Nat.le_of_ble_eq_true rfl)⟩) ⟨Wd.blind, va_recv hK hPc (ci := 11) (q0 := 0) rfl rfl, fun U hU hW => ⟨rfl, Wd.call hPc hDc hK hC hZ hS hFc U hU hW⟩⟩ rfl rfl hl.1 rfl (lv_room (Nat.le_of_ble_eq_true rfl)) dX10_putNumber_32 ⟨(Nat.le_of_ble_eq_true rfl), (Nat.le_of_ble_eq_true rfl)⟩) hS (fun q _ h => hFc q h) hFc (fun u t H1 locs ht hvm hw hB hz1 hk1 hS => ?_)
                  obtain ⟨qn275, fn276, hn277, hP1, hD1⟩ := hB
                  rw [ht] at hP1
                  obtain ⟨hP, hD⟩ := PDq.join (w := [(oX10 w0 v0 v1 v2 v3 v4 g5 g6 (nI ed) g8 v9 (nI nb) g11 g12 v13 g14 g15 g16 g17 g18 g19 g20 g21 g22 g23 g24 g25 g26 v27 v28 v29 v30 v31 v32 v33 v34 v35 v36 v37 (nI qn275)), (v37, .inl (cA 0, 100, .inl fn276))]) 0 hP hD [0, 1] [] rfl rfl (by decide) (by decide) hk1 hFc hP1 hD1 rfl
                  generalize H1 = H at hP hS ⊢
                  refine lv_iload_n hx hb dX10_putNumber_35 rfl (lv_at hl 0 rfl) ?_
                  refine lv_bipush (v := 10) hx hb dX10_putNumber_36 (by decide) ?_
                  refine lv_idiv hx hb dX10_putNumber_38 (by decide) ?_
                  refine lv_topi (fun yn278 eyn278 => ?_)
                  obtain rfl : yn278 = 10000 := eyn278.trans (by first | rfl | decide +kernel)
                  refine lv_istore_n (lv' := [(2, .int 10000), (0, .ref w0), (1, .int a)]) hx hb dX10_putNumber_39 rfl hl (by decide) rfl (fun ls hl => ?_)
                  refine lv_goto (tgt := 18) hx hb dX10_putNumber_40 (by decide) ?_
                  refine lv_iload_n hx hb dX10_putNumber_18 rfl (lv_at hl 0 rfl) ?_
                  refine lv_if_le (tgt := 43) hx hb dX10_putNumber_19 (by decide) (fun c9 => absurd c9 (by decide)) (fun c279 => ?_)
                  refine lv_aload_n hx hb dX10_putNumber_22 rfl (lv_at hl 1 rfl) ?_
                  refine lv_bipush (v := 48) hx hb dX10_putNumber_23 (by decide) ?_
                  refine lv_iload_n hx hb dX10_putNumber_25 rfl (lv_at hl 2 rfl) ?_
                  refine lv_iload_n hx hb dX10_putNumber_26 rfl (lv_at hl 0 rfl) ?_
                  refine lv_idiv hx hb dX10_putNumber_27 (by decide) ?_
                  refine lv_topi (fun yn280 eyn280 => ?_)
                  refine lv_bipush (v := 10) hx hb dX10_putNumber_28 (by decide) ?_
                  refine lv_irem hx hb dX10_putNumber_30 (by decide) ?_
                  refine lv_topi (fun yn281 eyn281 => ?_)
                  refine lv_iadd hx hb dX10_putNumber_31 ?_
                  refine lv_topi (fun yn282 eyn282 => ?_)
                  obtain ⟨hPc, hDc, hFc⟩ := PDq.cut (wc := [(oX10 w0 v0 v1 v2 v3 v4 g5 g6 (nI ed) g8 v9 (nI nb) g11 g12 v13 g14 g15 g16 g17 g18 g19 g20 g21 g22 g23 g24 g25 g26 v27 v28 v29 v30 v31 v32 v33 v34 v35 v36 v37 (nI qn275)), (v37, .inl (cA 0, 100, .inl fn276))]) hP hD hS hA [0, 1] (by decide) rfl
                  refine va_callv (va_runV (As := [.int yn282]) (rest := []) ⟨hx, hb, hml, hown, hts⟩ (r_put l D cA sa w0 ed nb qn275 v0 v1 v2 v3 v4 v9 v13 v27 v28 v29 v30 v31 v32 v33 v34 v35 v36 v37 g8 g11 g12 g14 g15 g16 g17 g18 g19 g20 g21 g22 g23 g24 g26 g5 g6 g25 fn276 yn282 H.size (by omega)) (cwV 1 hts gX10_putNumber_X10_put rfl rfl rfl (by decide +kernel) ⟨(Nat.le_of_ble_eq_true rfl), (Nat.le_of_ble_eq_true rfl)⟩) ⟨Wd.blind, va_recv hK hPc (ci := 11) (q0 := 0) rfl rfl, fun U hU hW => ⟨rfl, Wd.call hPc hDc hK hC hZ hS hFc U hU hW⟩⟩ rfl rfl hl.1 rfl (lv_room (Nat.le_of_ble_eq_true rfl)) dX10_putNumber_32 ⟨(Nat.le_of_ble_eq_true rfl), (Nat.le_of_ble_eq_true rfl)⟩) hS (fun q _ h => hFc q h) hFc (fun u t H1 locs ht hvm hw hB hz1 hk1 hS => ?_)
                  obtain ⟨qn283, fn284, hn285, hP1, hD1⟩ := hB
                  rw [ht] at hP1
                  obtain ⟨hP, hD⟩ := PDq.join (w := [(oX10 w0 v0 v1 v2 v3 v4 g5 g6 (nI ed) g8 v9 (nI nb) g11 g12 v13 g14 g15 g16 g17 g18 g19 g20 g21 g22 g23 g24 g25 g26 v27 v28 v29 v30 v31 v32 v33 v34 v35 v36 v37 (nI qn283)), (v37, .inl (cA 0, 100, .inl fn284))]) 0 hP hD [0, 1] [] rfl rfl (by decide) (by decide) hk1 hFc hP1 hD1 rfl
                  generalize H1 = H at hP hS ⊢
                  refine lv_iload_n hx hb dX10_putNumber_35 rfl (lv_at hl 0 rfl) ?_
                  refine lv_bipush (v := 10) hx hb dX10_putNumber_36 (by decide) ?_
                  refine lv_idiv hx hb dX10_putNumber_38 (by decide) ?_
                  refine lv_topi (fun yn286 eyn286 => ?_)
                  obtain rfl : yn286 = 1000 := eyn286.trans (by first | rfl | decide +kernel)
                  refine lv_istore_n (lv' := [(2, .int 1000), (0, .ref w0), (1, .int a)]) hx hb dX10_putNumber_39 rfl hl (by decide) rfl (fun ls hl => ?_)
                  refine lv_goto (tgt := 18) hx hb dX10_putNumber_40 (by decide) ?_
                  refine lv_iload_n hx hb dX10_putNumber_18 rfl (lv_at hl 0 rfl) ?_
                  refine lv_if_le (tgt := 43) hx hb dX10_putNumber_19 (by decide) (fun c9 => absurd c9 (by decide)) (fun c287 => ?_)
                  refine lv_aload_n hx hb dX10_putNumber_22 rfl (lv_at hl 1 rfl) ?_
                  refine lv_bipush (v := 48) hx hb dX10_putNumber_23 (by decide) ?_
                  refine lv_iload_n hx hb dX10_putNumber_25 rfl (lv_at hl 2 rfl) ?_
                  refine lv_iload_n hx hb dX10_putNumber_26 rfl (lv_at hl 0 rfl) ?_
                  refine lv_idiv hx hb dX10_putNumber_27 (by decide) ?_
                  refine lv_topi (fun yn288 eyn288 => ?_)
                  refine lv_bipush (v := 10) hx hb dX10_putNumber_28 (by decide) ?_
                  refine lv_irem hx hb dX10_putNumber_30 (by decide) ?_
                  refine lv_topi (fun yn289 eyn289 => ?_)
                  refine lv_iadd hx hb dX10_putNumber_31 ?_
                  refine lv_topi (fun yn290 eyn290 => ?_)
                  obtain ⟨hPc, hDc, hFc⟩ := PDq.cut (wc := [(oX10 w0 v0 v1 v2 v3 v4 g5 g6 (nI ed) g8 v9 (nI nb) g11 g12 v13 g14 g15 g16 g17 g18 g19 g20 g21 g22 g23 g24 g25 g26 v27 v28 v29 v30 v31 v32 v33 v34 v35 v36 v37 (nI qn283)), (v37, .inl (cA 0, 100, .inl fn284))]) hP hD hS hA [0, 1] (by decide) rfl
                  refine va_callv (va_runV (As := [.int yn290]) (rest := []) ⟨hx, hb, hml, hown, hts⟩ (r_put l D cA sa w0 ed nb qn283 v0 v1 v2 v3 v4 v9 v13 v27 v28 v29 v30 v31 v32 v33 v34 v35 v36 v37 g8 g11 g12 g14 g15 g16 g17 g18 g19 g20 g21 g22 g23 g24 g26 g5 g6 g25 fn284 yn290 H.size (by omega)) (cwV 1 hts gX10_putNumber_X10_put rfl rfl rfl (by decide +kernel) ⟨(Nat.le_of_ble_eq_true rfl), (Nat.le_of_ble_eq_true rfl)⟩) ⟨Wd.blind, va_recv hK hPc (ci := 11) (q0 := 0) rfl rfl, fun U hU hW => ⟨rfl, Wd.call hPc hDc hK hC hZ hS hFc U hU hW⟩⟩ rfl rfl hl.1 rfl (lv_room (Nat.le_of_ble_eq_true rfl)) dX10_putNumber_32 ⟨(Nat.le_of_ble_eq_true rfl), (Nat.le_of_ble_eq_true rfl)⟩) hS (fun q _ h => hFc q h) hFc (fun u t H1 locs ht hvm hw hB hz1 hk1 hS => ?_)
                  obtain ⟨qn291, fn292, hn293, hP1, hD1⟩ := hB
                  rw [ht] at hP1
                  obtain ⟨hP, hD⟩ := PDq.join (w := [(oX10 w0 v0 v1 v2 v3 v4 g5 g6 (nI ed) g8 v9 (nI nb) g11 g12 v13 g14 g15 g16 g17 g18 g19 g20 g21 g22 g23 g24 g25 g26 v27 v28 v29 v30 v31 v32 v33 v34 v35 v36 v37 (nI qn291)), (v37, .inl (cA 0, 100, .inl fn292))]) 0 hP hD [0, 1] [] rfl rfl (by decide) (by decide) hk1 hFc hP1 hD1 rfl
                  generalize H1 = H at hP hS ⊢
                  refine lv_iload_n hx hb dX10_putNumber_35 rfl (lv_at hl 0 rfl) ?_
                  refine lv_bipush (v := 10) hx hb dX10_putNumber_36 (by decide) ?_
                  refine lv_idiv hx hb dX10_putNumber_38 (by decide) ?_
                  refine lv_topi (fun yn294 eyn294 => ?_)
                  obtain rfl : yn294 = 100 := eyn294.trans (by first | rfl | decide +kernel)
                  refine lv_istore_n (lv' := [(2, .int 100), (0, .ref w0), (1, .int a)]) hx hb dX10_putNumber_39 rfl hl (by decide) rfl (fun ls hl => ?_)
                  refine lv_goto (tgt := 18) hx hb dX10_putNumber_40 (by decide) ?_
                  refine lv_iload_n hx hb dX10_putNumber_18 rfl (lv_at hl 0 rfl) ?_
                  refine lv_if_le (tgt := 43) hx hb dX10_putNumber_19 (by decide) (fun c9 => absurd c9 (by decide)) (fun c295 => ?_)
                  refine lv_aload_n hx hb dX10_putNumber_22 rfl (lv_at hl 1 rfl) ?_
                  refine lv_bipush (v := 48) hx hb dX10_putNumber_23 (by decide) ?_
                  refine lv_iload_n hx hb dX10_putNumber_25 rfl (lv_at hl 2 rfl) ?_
                  refine lv_iload_n hx hb dX10_putNumber_26 rfl (lv_at hl 0 rfl) ?_
                  refine lv_idiv hx hb dX10_putNumber_27 (by decide) ?_
                  refine lv_topi (fun yn296 eyn296 => ?_)
                  refine lv_bipush (v := 10) hx hb dX10_putNumber_28 (by decide) ?_
                  refine lv_irem hx hb dX10_putNumber_30 (by decide) ?_
                  refine lv_topi (fun yn297 eyn297 => ?_)
                  refine lv_iadd hx hb dX10_putNumber_31 ?_
                  refine lv_topi (fun yn298 eyn298 => ?_)
                  obtain ⟨hPc, hDc, hFc⟩ := PDq.cut (wc := [(oX10 w0 v0 v1 v2 v3 v4 g5 g6 (nI ed) g8 v9 (nI nb) g11 g12 v13 g14 g15 g16 g17 g18 g19 g20 g21 g22 g23 g24 g25 g26 v27 v28 v29 v30 v31 v32 v33 v34 v35 v36 v37 (nI qn291)), (v37, .inl (cA 0, 100, .inl fn292))]) hP hD hS hA [0, 1] (by decide) rfl
                  refine va_callv (va_runV (As := [.int yn298]) (rest := []) ⟨hx, hb, hml, hown, hts⟩ (r_put l D cA sa w0 ed nb qn291 v0 v1 v2 v3 v4 v9 v13 v27 v28 v29 v30 v31 v32 v33 v34 v35 v36 v37 g8 g11 g12 g14 g15 g16 g17 g18 g19 g20 g21 g22 g23 g24 g26 g5 g6 g25 fn292 yn298 H.size (by omega)) (cwV 1 hts gX10_putNumber_X10_put rfl rfl rfl (by decide +kernel) ⟨(Nat.le_of_ble_eq_true rfl), (Nat.le_of_ble_eq_true rfl)⟩) ⟨Wd.blind, va_recv hK hPc (ci := 11) (q0 := 0) rfl rfl, fun U hU hW => ⟨rfl, Wd.call hPc hDc hK hC hZ hS hFc U hU hW⟩⟩ rfl rfl hl.1 rfl (lv_room (Nat.le_of_ble_eq_true rfl)) dX10_putNumber_32 ⟨(Nat.le_of_ble_eq_true rfl), (Nat.le_of_ble_eq_true rfl)⟩) hS (fun q _ h => hFc q h) hFc (fun u t H1 locs ht hvm hw hB hz1 hk1 hS => ?_)
                  obtain ⟨qn299, fn300, hn301, hP1, hD1⟩ := hB
                  rw [ht] at hP1
                  obtain ⟨hP, hD⟩ := PDq.join (w := [(oX10 w0 v0 v1 v2 v3 v4 g5 g6 (nI ed) g8 v9 (nI nb) g11 g12 v13 g14 g15 g16 g17 g18 g19 g20 g21 g22 g23 g24 g25 g26 v27 v28 v29 v30 v31 v32 v33 v34 v35 v36 v37 (nI qn299)), (v37, .inl (cA 0, 100, .inl fn300))]) 0 hP hD [0, 1] [] rfl rfl (by decide) (by decide) hk1 hFc hP1 hD1 rfl
                  generalize H1 = H at hP hS ⊢
                  refine lv_iload_n hx hb dX10_putNumber_35 rfl (lv_at hl 0 rfl) ?_
                  refine lv_bipush (v := 10) hx hb dX10_putNumber_36 (by decide) ?_
                  refine lv_idiv hx hb dX10_putNumber_38 (by decide) ?_
                  refine lv_topi (fun yn302 eyn302 => ?_)
                  obtain rfl : yn302 = 10 := eyn302.trans (by first | rfl | decide +kernel)
                  refine lv_istore_n (lv' := [(2, .int 10), (0, .ref w0), (1, .int a)]) hx hb dX10_putNumber_39 rfl hl (by decide) rfl (fun ls hl => ?_)
                  refine lv_goto (tgt := 18) hx hb dX10_putNumber_40 (by decide) ?_
                  refine lv_iload_n hx hb dX10_putNumber_18 rfl (lv_at hl 0 rfl) ?_
                  refine lv_if_le (tgt := 43) hx hb dX10_putNumber_19 (by decide) (fun c9 => absurd c9 (by decide)) (fun c303 => ?_)
                  refine lv_aload_n hx hb dX10_putNumber_22 rfl (lv_at hl 1 rfl) ?_
                  refine lv_bipush (v := 48) hx hb dX10_putNumber_23 (by decide) ?_
                  refine lv_iload_n hx hb dX10_putNumber_25 rfl (lv_at hl 2 rfl) ?_
                  refine lv_iload_n hx hb dX10_putNumber_26 rfl (lv_at hl 0 rfl) ?_
                  refine lv_idiv hx hb dX10_putNumber_27 (by decide) ?_
                  refine lv_topi (fun yn304 eyn304 => ?_)
                  refine lv_bipush (v := 10) hx hb dX10_putNumber_28 (by decide) ?_
                  refine lv_irem hx hb dX10_putNumber_30 (by decide) ?_
                  refine lv_topi (fun yn305 eyn305 => ?_)
                  refine lv_iadd hx hb dX10_putNumber_31 ?_
                  refine lv_topi (fun yn306 eyn306 => ?_)
                  obtain ⟨hPc, hDc, hFc⟩ := PDq.cut (wc := [(oX10 w0 v0 v1 v2 v3 v4 g5 g6 (nI ed) g8 v9 (nI nb) g11 g12 v13 g14 g15 g16 g17 g18 g19 g20 g21 g22 g23 g24 g25 g26 v27 v28 v29 v30 v31 v32 v33 v34 v35 v36 v37 (nI qn299)), (v37, .inl (cA 0, 100, .inl fn300))]) hP hD hS hA [0, 1] (by decide) rfl
                  refine va_callv (va_runV (As := [.int yn306]) (rest := []) ⟨hx, hb, hml, hown, hts⟩ (r_put l D cA sa w0 ed nb qn299 v0 v1 v2 v3 v4 v9 v13 v27 v28 v29 v30 v31 v32 v33 v34 v35 v36 v37 g8 g11 g12 g14 g15 g16 g17 g18 g19 g20 g21 g22 g23 g24 g26 g5 g6 g25 fn300 yn306 H.size (by omega)) (cwV 1 hts gX10_putNumber_X10_put rfl rfl rfl (by decide +kernel) ⟨(Nat.le_of_ble_eq_true rfl), (Nat.le_of_ble_eq_true rfl)⟩) ⟨Wd.blind, va_recv hK hPc (ci := 11) (q0 := 0) rfl rfl, fun U hU hW => ⟨rfl, Wd.call hPc hDc hK hC hZ hS hFc U hU hW⟩⟩ rfl rfl hl.1 rfl (lv_room (Nat.le_of_ble_eq_true rfl)) dX10_putNumber_32 ⟨(Nat.le_of_ble_eq_true rfl), (Nat.le_of_ble_eq_true rfl)⟩) hS (fun q _ h => hFc q h) hFc (fun u t H1 locs ht hvm hw hB hz1 hk1 hS => ?_)
                  obtain ⟨qn307, fn308, hn309, hP1, hD1⟩ := hB
                  rw [ht] at hP1
                  obtain ⟨hP, hD⟩ := PDq.join (w := [(oX10 w0 v0 v1 v2 v3 v4 g5 g6 (nI ed) g8 v9 (nI nb) g11 g12 v13 g14 g15 g16 g17 g18 g19 g20 g21 g22 g23 g24 g25 g26 v27 v28 v29 v30 v31 v32 v33 v34 v35 v36 v37 (nI qn307)), (v37, .inl (cA 0, 100, .inl fn308))]) 0 hP hD [0, 1] [] rfl rfl (by decide) (by decide) hk1 hFc hP1 hD1 rfl
                  generalize H1 = H at hP hS ⊢
                  refine lv_iload_n hx hb dX10_putNumber_35 rfl (lv_at hl 0 rfl) ?_
                  refine lv_bipush (v := 10) hx hb dX10_putNumber_36 (by decide) ?_
                  refine lv_idiv hx hb dX10_putNumber_38 (by decide) ?_
                  refine lv_topi (fun yn310 eyn310 => ?_)
                  obtain rfl : yn310 = 1 := eyn310.trans (by first | rfl | decide +kernel)
                  refine lv_istore_n (lv' := [(2, .int 1), (0, .ref w0), (1, .int a)]) hx hb dX10_putNumber_39 rfl hl (by decide) rfl (fun ls hl => ?_)
                  refine lv_goto (tgt := 18) hx hb dX10_putNumber_40 (by decide) ?_
                  refine lv_iload_n hx hb dX10_putNumber_18 rfl (lv_at hl 0 rfl) ?_
                  refine lv_if_le (tgt := 43) hx hb dX10_putNumber_19 (by decide) (fun c9 => absurd c9 (by decide)) (fun c311 => ?_)
                  refine lv_aload_n hx hb dX10_putNumber_22 rfl (lv_at hl 1 rfl) ?_
                  refine lv_bipush (v := 48) hx hb dX10_putNumber_23 (by decide) ?_
                  refine lv_iload_n hx hb dX10_putNumber_25 rfl (lv_at hl 2 rfl) ?_
                  refine lv_iload_n hx hb dX10_putNumber_26 rfl (lv_at hl 0 rfl) ?_
                  refine lv_idiv hx hb dX10_putNumber_27 (by decide) ?_
                  refine lv_topi (fun yn312 eyn312 => ?_)
                  refine lv_bipush (v := 10) hx hb dX10_putNumber_28 (by decide) ?_
                  refine lv_irem hx hb dX10_putNumber_30 (by decide) ?_
                  refine lv_topi (fun yn313 eyn313 => ?_)
                  refine lv_iadd hx hb dX10_putNumber_31 ?_
                  refine lv_topi (fun yn314 eyn314 => ?_)
                  obtain ⟨hPc, hDc, hFc⟩ := PDq.cut (wc := [(oX10 w0 v0 v1 v2 v3 v4 g5 g6 (nI ed) g8 v9 (nI nb) g11 g12 v13 g14 g15 g16 g17 g18 g19 g20 g21 g22 g23 g24 g25 g26 v27 v28 v29 v30 v31 v32 v33 v34 v35 v36 v37 (nI qn307)), (v37, .inl (cA 0, 100, .inl fn308))]) hP hD hS hA [0, 1] (by decide) rfl
                  refine va_callv (va_runV (As := [.int yn314]) (rest := []) ⟨hx, hb, hml, hown, hts⟩ (r_put l D cA sa w0 ed nb qn307 v0 v1 v2 v3 v4 v9 v13 v27 v28 v29 v30 v31 v32 v33 v34 v35 v36 v37 g8 g11 g12 g14 g15 g16 g17 g18 g19 g20 g21 g22 g23 g24 g26 g5 g6 g25 fn308 yn314 H.size (by omega)) (cwV 1 hts gX10_putNumber_X10_put rfl rfl rfl (by decide +kernel) ⟨(Nat.le_of_ble_eq_true rfl), (Nat.le_of_ble_eq_true rfl)⟩) ⟨Wd.blind, va_recv hK hPc (ci := 11) (q0 := 0) rfl rfl, fun U hU hW => ⟨rfl, Wd.call hPc hDc hK hC hZ hS hFc U hU hW⟩⟩ rfl rfl hl.1 rfl (lv_room (Nat.le_of_ble_eq_true rfl)) dX10_putNumber_32 ⟨(Nat.le_of_ble_eq_true rfl), (Nat.le_of_ble_eq_true rfl)⟩) hS (fun q _ h => hFc q h) hFc (fun u t H1 locs ht hvm hw hB hz1 hk1 hS => ?_)
                  obtain ⟨qn315, fn316, hn317, hP1, hD1⟩ := hB
                  rw [ht] at hP1
                  obtain ⟨hP, hD⟩ := PDq.join (w := [(oX10 w0 v0 v1 v2 v3 v4 g5 g6 (nI ed) g8 v9 (nI nb) g11 g12 v13 g14 g15 g16 g17 g18 g19 g20 g21 g22 g23 g24 g25 g26 v27 v28 v29 v30 v31 v32 v33 v34 v35 v36 v37 (nI qn315)), (v37, .inl (cA 0, 100, .inl fn316))]) 0 hP hD [0, 1] [] rfl rfl (by decide) (by decide) hk1 hFc hP1 hD1 rfl
                  generalize H1 = H at hP hS ⊢
                  refine lv_iload_n hx hb dX10_putNumber_35 rfl (lv_at hl 0 rfl) ?_
                  refine lv_bipush (v := 10) hx hb dX10_putNumber_36 (by decide) ?_
                  refine lv_idiv hx hb dX10_putNumber_38 (by decide) ?_
                  refine lv_topi (fun yn318 eyn318 => ?_)
                  obtain rfl : yn318 = 0 := eyn318.trans (by first | rfl | decide +kernel)
                  refine lv_istore_n (lv' := [(2, .int 0), (0, .ref w0), (1, .int a)]) hx hb dX10_putNumber_39 rfl hl (by decide) rfl (fun ls hl => ?_)
                  refine lv_goto (tgt := 18) hx hb dX10_putNumber_40 (by decide) ?_
                  refine lv_iload_n hx hb dX10_putNumber_18 rfl (lv_at hl 0 rfl) ?_
                  refine lv_if_le (tgt := 43) hx hb dX10_putNumber_19 (by decide) (fun c319 => ?_) (fun c9 => absurd c9 (by decide))
                  obtain ⟨hP9, hD9⟩ := PDq.sub (ws' := [(oX10 w0 v0 v1 v2 v3 v4 g5 g6 (nI ed) g8 v9 (nI nb) g11 g12 v13 g14 g15 g16 g17 g18 g19 g20 g21 g22 g23 g24 g25 g26 v27 v28 v29 v30 v31 v32 v33 v34 v35 v36 v37 (nI qn315)), (v37, .inl (cA 0, 100, .inl fn316))]) hP hD [0, 1] (by decide) rfl
                  refine W.widen (k := 0) (n := 0) (Nat.le_of_ble_eq_true rfl) (Nat.le_of_ble_eq_true rfl) ?_
                  exact (W.vret hx hb hr (fun t ht hW => ⟨⟨(), rfl, trivial, qn315, fn316, (by omega), by rw [ht]; exact hP9, hD9⟩, hS.F ht⟩) hS.2.2 dX10_putNumber_43)
                · skip
                  refine lv_bipush (v := 10) hx hb dX10_putNumber_10 (by decide) ?_
                  refine lv_iload_n hx hb dX10_putNumber_12 rfl (lv_at hl 0 rfl) ?_
                  refine lv_imul hx hb dX10_putNumber_13 ?_
                  refine lv_topi (fun yn320 eyn320 => ?_)
                  obtain rfl : yn320 = 100000000 := eyn320.trans (by first | rfl | decide +kernel)
                  refine lv_istore_n (lv' := [(2, .int 100000000), (0, .ref w0), (1, .int a)]) hx hb dX10_putNumber_14 rfl hl (by decide) rfl (fun ls hl => ?_)
                  refine lv_goto (tgt := 2) hx hb dX10_putNumber_15 (by decide) ?_
                  refine lv_iload_n hx hb dX10_putNumber_2 rfl (lv_at hl 2 rfl) ?_
                  refine lv_iload_n hx hb dX10_putNumber_3 rfl (lv_at hl 0 rfl) ?_
                  refine lv_idiv hx hb dX10_putNumber_4 (by decide) ?_
                  refine lv_topi (fun yn321 eyn321 => ?_)
                  refine lv_bipush (v := 9) hx hb dX10_putNumber_5 (by decide) ?_
                  refine lv_icmp_le (tgt := 18) hx hb dX10_putNumber_7 (by decide) (fun c322 => ?_) (fun c322 => ?_)
                  · skip
                    refine lv_iload_n hx hb dX10_putNumber_18 rfl (lv_at hl 0 rfl) ?_
                    refine lv_if_le (tgt := 43) hx hb dX10_putNumber_19 (by decide) (fun c9 => absurd c9 (by decide)) (fun c323 => ?_)
                    refine lv_aload_n hx hb dX10_putNumber_22 rfl (lv_at hl 1 rfl) ?_
                    refine lv_bipush (v := 48) hx hb dX10_putNumber_23 (by decide) ?_
                    refine lv_iload_n hx hb dX10_putNumber_25 rfl (lv_at hl 2 rfl) ?_
                    refine lv_iload_n hx hb dX10_putNumber_26 rfl (lv_at hl 0 rfl) ?_
                    refine lv_idiv hx hb dX10_putNumber_27 (by decide) ?_
                    refine lv_topi (fun yn324 eyn324 => ?_)
                    refine lv_bipush (v := 10) hx hb dX10_putNumber_28 (by decide) ?_
                    refine lv_irem hx hb dX10_putNumber_30 (by decide) ?_
                    refine lv_topi (fun yn325 eyn325 => ?_)
                    refine lv_iadd hx hb dX10_putNumber_31 ?_
                    refine lv_topi (fun yn326 eyn326 => ?_)
                    obtain ⟨hPc, hDc, hFc⟩ := PDq.cut (wc := [(oX10 w0 v0 v1 v2 v3 v4 g5 g6 (nI ed) g8 v9 (nI nb) g11 g12 v13 g14 g15 g16 g17 g18 g19 g20 g21 g22 g23 g24 g25 g26 v27 v28 v29 v30 v31 v32 v33 v34 v35 v36 v37 (nI ol)), (v37, .inl (cA 0, 100, .inl fo9))]) hP hD hS hA [0, 1] (by decide) rfl
                    refine va_callv (va_runV (As := [.int yn326]) (rest := []) ⟨hx, hb, hml, hown, hts⟩ (r_put l D cA sa w0 ed nb ol v0 v1 v2 v3 v4 v9 v13 v27 v28 v29 v30 v31 v32 v33 v34 v35 v36 v37 g8 g11 g12 g14 g15 g16 g17 g18 g19 g20 g21 g22 g23 g24 g26 g5 g6 g25 fo9 yn326 s.heap.size (by omega)) (cwV 1 hts gX10_putNumber_X10_put rfl rfl rfl (by decide +kernel) ⟨(Nat.le_of_ble_eq_true rfl), (Nat.le_of_ble_eq_true rfl)⟩) ⟨Wd.blind, va_recv hK hPc (ci := 11) (q0 := 0) rfl rfl, fun U hU hW => ⟨rfl, Wd.call hPc hDc hK hC hZ hS hFc U hU hW⟩⟩ rfl rfl hl.1 rfl (lv_room (Nat.le_of_ble_eq_true rfl)) dX10_putNumber_32 ⟨(Nat.le_of_ble_eq_true rfl), (Nat.le_of_ble_eq_true rfl)⟩) hS (fun q _ h => hFc q h) hFc (fun u t H1 locs ht hvm hw hB hz1 hk1 hS => ?_)
                    obtain ⟨qn327, fn328, hn329, hP1, hD1⟩ := hB
                    rw [ht] at hP1
                    obtain ⟨hP, hD⟩ := PDq.join (w := [(oX10 w0 v0 v1 v2 v3 v4 g5 g6 (nI ed) g8 v9 (nI nb) g11 g12 v13 g14 g15 g16 g17 g18 g19 g20 g21 g22 g23 g24 g25 g26 v27 v28 v29 v30 v31 v32 v33 v34 v35 v36 v37 (nI qn327)), (v37, .inl (cA 0, 100, .inl fn328))]) 0 hP hD [0, 1] [] rfl rfl (by decide) (by decide) hk1 hFc hP1 hD1 rfl
                    generalize H1 = H at hP hS ⊢
                    refine lv_iload_n hx hb dX10_putNumber_35 rfl (lv_at hl 0 rfl) ?_
                    refine lv_bipush (v := 10) hx hb dX10_putNumber_36 (by decide) ?_
                    refine lv_idiv hx hb dX10_putNumber_38 (by decide) ?_
                    refine lv_topi (fun yn330 eyn330 => ?_)
                    obtain rfl : yn330 = 10000000 := eyn330.trans (by first | rfl | decide +kernel)
                    refine lv_istore_n (lv' := [(2, .int 10000000), (0, .ref w0), (1, .int a)]) hx hb dX10_putNumber_39 rfl hl (by decide) rfl (fun ls hl => ?_)
                    refine lv_goto (tgt := 18) hx hb dX10_putNumber_40 (by decide) ?_
                    refine lv_iload_n hx hb dX10_putNumber_18 rfl (lv_at hl 0 rfl) ?_
                    refine lv_if_le (tgt := 43) hx hb dX10_putNumber_19 (by decide) (fun c9 => absurd c9 (by decide)) (fun c331 => ?_)
                    refine lv_aload_n hx hb dX10_putNumber_22 rfl (lv_at hl 1 rfl) ?_
                    refine lv_bipush (v := 48) hx hb dX10_putNumber_23 (by decide) ?_
                    refine lv_iload_n hx hb dX10_putNumber_25 rfl (lv_at hl 2 rfl) ?_
                    refine lv_iload_n hx hb dX10_putNumber_26 rfl (lv_at hl 0 rfl) ?_
                    refine lv_idiv hx hb dX10_putNumber_27 (by decide) ?_
                    refine lv_topi (fun yn332 eyn332 => ?_)
                    refine lv_bipush (v := 10) hx hb dX10_putNumber_28 (by decide) ?_
                    refine lv_irem hx hb dX10_putNumber_30 (by decide) ?_
                    refine lv_topi (fun yn333 eyn333 => ?_)
                    refine lv_iadd hx hb dX10_putNumber_31 ?_
                    refine lv_topi (fun yn334 eyn334 => ?_)
                    obtain ⟨hPc, hDc, hFc⟩ := PDq.cut (wc := [(oX10 w0 v0 v1 v2 v3 v4 g5 g6 (nI ed) g8 v9 (nI nb) g11 g12 v13 g14 g15 g16 g17 g18 g19 g20 g21 g22 g23 g24 g25 g26 v27 v28 v29 v30 v31 v32 v33 v34 v35 v36 v37 (nI qn327)), (v37, .inl (cA 0, 100, .inl fn328))]) hP hD hS hA [0, 1] (by decide) rfl
                    refine va_callv (va_runV (As := [.int yn334]) (rest := []) ⟨hx, hb, hml, hown, hts⟩ (r_put l D cA sa w0 ed nb qn327 v0 v1 v2 v3 v4 v9 v13 v27 v28 v29 v30 v31 v32 v33 v34 v35 v36 v37 g8 g11 g12 g14 g15 g16 g17 g18 g19 g20 g21 g22 g23 g24 g26 g5 g6 g25 fn328 yn334 H.size (by omega)) (cwV 1 hts gX10_putNumber_X10_put rfl rfl rfl (by decide +kernel) ⟨(Nat.le_of_ble_eq_true rfl), (Nat.le_of_ble_eq_true rfl)⟩) ⟨Wd.blind, va_recv hK hPc (ci := 11) (q0 := 0) rfl rfl, fun U hU hW => ⟨rfl, Wd.call hPc hDc hK hC hZ hS hFc U hU hW⟩⟩ rfl rfl hl.1 rfl (lv_room (Nat.le_of_ble_eq_true rfl)) dX10_putNumber_32 ⟨(Nat.le_of_ble_eq_true rfl), (Nat.le_of_ble_eq_true rfl)⟩) hS (fun q _ h => hFc q h) hFc (fun u t H1 locs ht hvm hw hB hz1 hk1 hS => ?_)
                    obtain ⟨qn335, fn336, hn337, hP1, hD1⟩ := hB
                    rw [ht] at hP1
                    obtain ⟨hP, hD⟩ := PDq.join (w := [(oX10 w0 v0 v1 v2 v3 v4 g5 g6 (nI ed) g8 v9 (nI nb) g11 g12 v13 g14 g15 g16 g17 g18 g19 g20 g21 g22 g23 g24 g25 g26 v27 v28 v29 v30 v31 v32 v33 v34 v35 v36 v37 (nI qn335)), (v37, .inl (cA 0, 100, .inl fn336))]) 0 hP hD [0, 1] [] rfl rfl (by decide) (by decide) hk1 hFc hP1 hD1 rfl
                    generalize H1 = H at hP hS ⊢
                    refine lv_iload_n hx hb dX10_putNumber_35 rfl (lv_at hl 0 rfl) ?_
                    refine lv_bipush (v := 10) hx hb dX10_putNumber_36 (by decide) ?_
                    refine lv_idiv hx hb dX10_putNumber_38 (by decide) ?_
                    refine lv_topi (fun yn338 eyn338 => ?_)
                    obtain rfl : yn338 = 1000000 := eyn338.trans (by first | rfl | decide +kernel)
                    refine lv_istore_n (lv' := [(2, .int 1000000), (0, .ref w0), (1, .int a)]) hx hb dX10_putNumber_39 rfl hl (by decide) rfl (fun ls hl => ?_)
                    refine lv_goto (tgt := 18) hx hb dX10_putNumber_40 (by decide) ?_
                    refine lv_iload_n hx hb dX10_putNumber_18 rfl (lv_at hl 0 rfl) ?_
                    refine lv_if_le (tgt := 43) hx hb dX10_putNumber_19 (by decide) (fun c9 => absurd c9 (by decide)) (fun c339 => ?_)
                    refine lv_aload_n hx hb dX10_putNumber_22 rfl (lv_at hl 1 rfl) ?_
                    refine lv_bipush (v := 48) hx hb dX10_putNumber_23 (by decide) ?_
                    refine lv_iload_n hx hb dX10_putNumber_25 rfl (lv_at hl 2 rfl) ?_
                    refine lv_iload_n hx hb dX10_putNumber_26 rfl (lv_at hl 0 rfl) ?_
                    refine lv_idiv hx hb dX10_putNumber_27 (by decide) ?_
                    refine lv_topi (fun yn340 eyn340 => ?_)
                    refine lv_bipush (v := 10) hx hb dX10_putNumber_28 (by decide) ?_
                    refine lv_irem hx hb dX10_putNumber_30 (by decide) ?_
                    refine lv_topi (fun yn341 eyn341 => ?_)
                    refine lv_iadd hx hb dX10_putNumber_31 ?_
                    refine lv_topi (fun yn342 eyn342 => ?_)
                    obtain ⟨hPc, hDc, hFc⟩ := PDq.cut (wc := [(oX10 w0 v0 v1 v2 v3 v4 g5 g6 (nI ed) g8 v9 (nI nb) g11 g12 v13 g14 g15 g16 g17 g18 g19 g20 g21 g22 g23 g24 g25 g26 v27 v28 v29 v30 v31 v32 v33 v34 v35 v36 v37 (nI qn335)), (v37, .inl (cA 0, 100, .inl fn336))]) hP hD hS hA [0, 1] (by decide) rfl
                    refine va_callv (va_runV (As := [.int yn342]) (rest := []) ⟨hx, hb, hml, hown, hts⟩ (r_put l D cA sa w0 ed nb qn335 v0 v1 v2 v3 v4 v9 v13 v27 v28 v29 v30 v31 v32 v33 v34 v35 v36 v37 g8 g11 g12 g14 g15 g16 g17 g18 g19 g20 g21 g22 g23 g24 g26 g5 g6 g25 fn336 yn342 H.size (by omega)) (cwV 1 hts gX10_putNumber_X10_put rfl rfl rfl (by decide +kernel) ⟨(Nat.le_of_ble_eq_true rfl), (Nat.le_of_ble_eq_true rfl)⟩) ⟨Wd.blind, va_recv hK hPc (ci := 11) (q0 := 0) rfl rfl, fun U hU hW => ⟨rfl, Wd.call hPc hDc hK hC hZ hS hFc U hU hW⟩⟩ rfl rfl hl.1 rfl (lv_room (Nat.le_of_ble_eq_true rfl)) dX10_putNumber_32 ⟨(Nat.le_of_ble_eq_true rfl), (Nat.le_of_ble_eq_true rfl)⟩) hS (fun q _ h => hFc q h) hFc (fun u t H1 locs ht hvm hw hB hz1 hk1 hS => ?_)
                    obtain ⟨qn343, fn344, hn345, hP1, hD1⟩ := hB
                    rw [ht] at hP1
                    obtain ⟨hP, hD⟩ := PDq.join (w := [(oX10 w0 v0 v1 v2 v3 v4 g5 g6 (nI ed) g8 v9 (nI nb) g11 g12 v13 g14 g15 g16 g17 g18 g19 g20 g21 g22 g23 g24 g25 g26 v27 v28 v29 v30 v31 v32 v33 v34 v35 v36 v37 (nI qn343)), (v37, .inl (cA 0, 100, .inl fn344))]) 0 hP hD [0, 1] [] rfl rfl (by decide) (by decide) hk1 hFc hP1 hD1 rfl
                    generalize H1 = H at hP hS ⊢
                    refine lv_iload_n hx hb dX10_putNumber_35 rfl (lv_at hl 0 rfl) ?_
                    refine lv_bipush (v := 10) hx hb dX10_putNumber_36 (by decide) ?_
                    refine lv_idiv hx hb dX10_putNumber_38 (by decide) ?_
                    refine lv_topi (fun yn346 eyn346 => ?_)
                    obtain rfl : yn346 = 100000 := eyn346.trans (by first | rfl | decide +kernel)
                    refine lv_istore_n (lv' := [(2, .int 100000), (0, .ref w0), (1, .int a)]) hx hb dX10_putNumber_39 rfl hl (by decide) rfl (fun ls hl => ?_)
                    refine lv_goto (tgt := 18) hx hb dX10_putNumber_40 (by decide) ?_
                    refine lv_iload_n hx hb dX10_putNumber_18 rfl (lv_at hl 0 rfl) ?_
                    refine lv_if_le (tgt := 43) hx hb dX10_putNumber_19 (by decide) (fun c9 => absurd c9 (by decide)) (fun c347 => ?_)
                    refine lv_aload_n hx hb dX10_putNumber_22 rfl (lv_at hl 1 rfl) ?_
                    refine lv_bipush (v := 48) hx hb dX10_putNumber_23 (by decide) ?_
                    refine lv_iload_n hx hb dX10_putNumber_25 rfl (lv_at hl 2 rfl) ?_
                    refine lv_iload_n hx hb dX10_putNumber_26 rfl (lv_at hl 0 rfl) ?_
                    refine lv_idiv hx hb dX10_putNumber_27 (by decide) ?_
                    refine lv_topi (fun yn348 eyn348 => ?_)
                    refine lv_bipush (v := 10) hx hb dX10_putNumber_28 (by decide) ?_
                    refine lv_irem hx hb dX10_putNumber_30 (by decide) ?_
                    refine lv_topi (fun yn349 eyn349 => ?_)
                    refine lv_iadd hx hb dX10_putNumber_31 ?_
                    refine lv_topi (fun yn350 eyn350 => ?_)
                    obtain ⟨hPc, hDc, hFc⟩ := PDq.cut (wc := [(oX10 w0 v0 v1 v2 v3 v4 g5 g6 (nI ed) g8 v9 (nI nb) g11 g12 v13 g14 g15 g16 g17 g18 g19 g20 g21 g22 g23 g24 g25 g26 v27 v28 v29 v30 v31 v32 v33 v34 v35 v36 v37 (nI qn343)), (v37, .inl (cA 0, 100, .inl fn344))]) hP hD hS hA [0, 1] (by decide) rfl
                    refine va_callv (va_runV (As := [.int yn350]) (rest := []) ⟨hx, hb, hml, hown, hts⟩ (r_put l D cA sa w0 ed nb qn343 v0 v1 v2 v3 v4 v9 v13 v27 v28 v29 v30 v31 v32 v33 v34 v35 v36 v37 g8 g11 g12 g14 g15 g16 g17 g18 g19 g20 g21 g22 g23 g24 g26 g5 g6 g25 fn344 yn350 H.size (by omega)) (cwV 1 hts gX10_putNumber_X10_put rfl rfl rfl (by decide +kernel) ⟨(Nat.le_of_ble_eq_true rfl), (Nat.le_of_ble_eq_true rfl)⟩) ⟨Wd.blind, va_recv hK hPc (ci := 11) (q0 := 0) rfl rfl, fun U hU hW => ⟨rfl, Wd.call hPc hDc hK hC hZ hS hFc U hU hW⟩⟩ rfl rfl hl.1 rfl (lv_room (Nat.le_of_ble_eq_true rfl)) dX10_putNumber_32 ⟨(Nat.le_of_ble_eq_true rfl), (Nat.le_of_ble_eq_true rfl)⟩) hS (fun q _ h => hFc q h) hFc (fun u t H1 locs ht hvm hw hB hz1 hk1 hS => ?_)
                    obtain ⟨qn351, fn352, hn353, hP1, hD1⟩ := hB
                    rw [ht] at hP1
                    obtain ⟨hP, hD⟩ := PDq.join (w := [(oX10 w0 v0 v1 v2 v3 v4 g5 g6 (nI ed) g8 v9 (nI nb) g11 g12 v13 g14 g15 g16 g17 g18 g19 g20 g21 g22 g23 g24 g25 g26 v27 v28 v29 v30 v31 v32 v33 v34 v35 v36 v37 (nI qn351)), (v37, .inl (cA 0, 100, .inl fn352))]) 0 hP hD [0, 1] [] rfl rfl (by decide) (by decide) hk1 hFc hP1 hD1 rfl
                    generalize H1 = H at hP hS ⊢
                    refine lv_iload_n hx hb dX10_putNumber_35 rfl (lv_at hl 0 rfl) ?_
                    refine lv_bipush (v := 10) hx hb dX10_putNumber_36 (by decide) ?_
                    refine lv_idiv hx hb dX10_putNumber_38 (by decide) ?_
                    refine lv_topi (fun yn354 eyn354 => ?_)
                    obtain rfl : yn354 = 10000 := eyn354.trans (by first | rfl | decide +kernel)
                    refine lv_istore_n (lv' := [(2, .int 10000), (0, .ref w0), (1, .int a)]) hx hb dX10_putNumber_39 rfl hl (by decide) rfl (fun ls hl => ?_)
                    refine lv_goto (tgt := 18) hx hb dX10_putNumber_40 (by decide) ?_
                    refine lv_iload_n hx hb dX10_putNumber_18 rfl (lv_at hl 0 rfl) ?_
                    refine lv_if_le (tgt := 43) hx hb dX10_putNumber_19 (by decide) (fun c9 => absurd c9 (by decide)) (fun c355 => ?_)
                    refine lv_aload_n hx hb dX10_putNumber_22 rfl (lv_at hl 1 rfl) ?_
                    refine lv_bipush (v := 48) hx hb dX10_putNumber_23 (by decide) ?_
                    refine lv_iload_n hx hb dX10_putNumber_25 rfl (lv_at hl 2 rfl) ?_
                    refine lv_iload_n hx hb dX10_putNumber_26 rfl (lv_at hl 0 rfl) ?_
                    refine lv_idiv hx hb dX10_putNumber_27 (by decide) ?_
                    refine lv_topi (fun yn356 eyn356 => ?_)
                    refine lv_bipush (v := 10) hx hb dX10_putNumber_28 (by decide) ?_
                    refine lv_irem hx hb dX10_putNumber_30 (by decide) ?_
                    refine lv_topi (fun yn357 eyn357 => ?_)
                    refine lv_iadd hx hb dX10_putNumber_31 ?_
                    refine lv_topi (fun yn358 eyn358 => ?_)
                    obtain ⟨hPc, hDc, hFc⟩ := PDq.cut (wc := [(oX10 w0 v0 v1 v2 v3 v4 g5 g6 (nI ed) g8 v9 (nI nb) g11 g12 v13 g14 g15 g16 g17 g18 g19 g20 g21 g22 g23 g24 g25 g26 v27 v28 v29 v30 v31 v32 v33 v34 v35 v36 v37 (nI qn351)), (v37, .inl (cA 0, 100, .inl fn352))]) hP hD hS hA [0, 1] (by decide) rfl
                    refine va_callv (va_runV (As := [.int yn358]) (rest := []) ⟨hx, hb, hml, hown, hts⟩ (r_put l D cA sa w0 ed nb qn351 v0 v1 v2 v3 v4 v9 v13 v27 v28 v29 v30 v31 v32 v33 v34 v35 v36 v37 g8 g11 g12 g14 g15 g16 g17 g18 g19 g20 g21 g22 g23 g24 g26 g5 g6 g25 fn352 yn358 H.size (by omega)) (cwV 1 hts gX10_putNumber_X10_put rfl rfl rfl (by decide +kernel) ⟨(Nat.le_of_ble_eq_true rfl), (Nat.le_of_ble_eq_true rfl)⟩) ⟨Wd.blind, va_recv hK hPc (ci := 11) (q0 := 0) rfl rfl, fun U hU hW => ⟨rfl, Wd.call hPc hDc hK hC hZ hS hFc U hU hW⟩⟩ rfl rfl hl.1 rfl (lv_room (Nat.le_of_ble_eq_true rfl)) dX10_putNumber_32 ⟨(Nat.le_of_ble_eq_true rfl), (Nat.le_of_ble_eq_true rfl)⟩) hS (fun q _ h => hFc q h) hFc (fun u t H1 locs ht hvm hw hB hz1 hk1 hS => ?_)
                    obtain ⟨qn359, fn360, hn361, hP1, hD1⟩ := hB
                    rw [ht] at hP1
                    obtain ⟨hP, hD⟩ := PDq.join (w := [(oX10 w0 v0 v1 v2 v3 v4 g5 g6 (nI ed) g8 v9 (nI nb) g11 g12 v13 g14 g15 g16 g17 g18 g19 g20 g21 g22 g23 g24 g25 g26 v27 v28 v29 v30 v31 v32 v33 v34 v35 v36 v37 (nI qn359)), (v37, .inl (cA 0, 100, .inl fn360))]) 0 hP hD [0, 1] [] rfl rfl (by decide) (by decide) hk1 hFc hP1 hD1 rfl
                    generalize H1 = H at hP hS ⊢
                    refine lv_iload_n hx hb dX10_putNumber_35 rfl (lv_at hl 0 rfl) ?_
                    refine lv_bipush (v := 10) hx hb dX10_putNumber_36 (by decide) ?_
                    refine lv_idiv hx hb dX10_putNumber_38 (by decide) ?_
                    refine lv_topi (fun yn362 eyn362 => ?_)
                    obtain rfl : yn362 = 1000 := eyn362.trans (by first | rfl | decide +kernel)
                    refine lv_istore_n (lv' := [(2, .int 1000), (0, .ref w0), (1, .int a)]) hx hb dX10_putNumber_39 rfl hl (by decide) rfl (fun ls hl => ?_)
                    refine lv_goto (tgt := 18) hx hb dX10_putNumber_40 (by decide) ?_
                    refine lv_iload_n hx hb dX10_putNumber_18 rfl (lv_at hl 0 rfl) ?_
                    refine lv_if_le (tgt := 43) hx hb dX10_putNumber_19 (by decide) (fun c9 => absurd c9 (by decide)) (fun c363 => ?_)
                    refine lv_aload_n hx hb dX10_putNumber_22 rfl (lv_at hl 1 rfl) ?_
                    refine lv_bipush (v := 48) hx hb dX10_putNumber_23 (by decide) ?_
                    refine lv_iload_n hx hb dX10_putNumber_25 rfl (lv_at hl 2 rfl) ?_
                    refine lv_iload_n hx hb dX10_putNumber_26 rfl (lv_at hl 0 rfl) ?_
                    refine lv_idiv hx hb dX10_putNumber_27 (by decide) ?_
                    refine lv_topi (fun yn364 eyn364 => ?_)
                    refine lv_bipush (v := 10) hx hb dX10_putNumber_28 (by decide) ?_
                    refine lv_irem hx hb dX10_putNumber_30 (by decide) ?_
                    refine lv_topi (fun yn365 eyn365 => ?_)
                    refine lv_iadd hx hb dX10_putNumber_31 ?_
                    refine lv_topi (fun yn366 eyn366 => ?_)
                    obtain ⟨hPc, hDc, hFc⟩ := PDq.cut (wc := [(oX10 w0 v0 v1 v2 v3 v4 g5 g6 (nI ed) g8 v9 (nI nb) g11 g12 v13 g14 g15 g16 g17 g18 g19 g20 g21 g22 g23 g24 g25 g26 v27 v28 v29 v30 v31 v32 v33 v34 v35 v36 v37 (nI qn359)), (v37, .inl (cA 0, 100, .inl fn360))]) hP hD hS hA [0, 1] (by decide) rfl
                    refine va_callv (va_runV (As := [.int yn366]) (rest := []) ⟨hx, hb, hml, hown, hts⟩ (r_put l D cA sa w0 ed nb qn359 v0 v1 v2 v3 v4 v9 v13 v27 v28 v29 v30 v31 v32 v33 v34 v35 v36 v37 g8 g11 g12 g14 g15 g16 g17 g18 g19 g20 g21 g22 g23 g24 g26 g5 g6 g25 fn360 yn366 H.size (by omega)) (cwV 1 hts gX10_putNumber_X10_put rfl rfl rfl (by decide +kernel) ⟨(Nat.le_of_ble_eq_true rfl), (Nat.le_of_ble_eq_true rfl)⟩) ⟨Wd.blind, va_recv hK hPc (ci := 11) (q0 := 0) rfl rfl, fun U hU hW => ⟨rfl, Wd.call hPc hDc hK hC hZ hS hFc U hU hW⟩⟩ rfl rfl hl.1 rfl (lv_room (Nat.le_of_ble_eq_true rfl)) dX10_putNumber_32 ⟨(Nat.le_of_ble_eq_true rfl), (Nat.le_of_ble_eq_true rfl)⟩) hS (fun q _ h => hFc q h) hFc (fun u t H1 locs ht hvm hw hB hz1 hk1 hS => ?_)
                    obtain ⟨qn367, fn368, hn369, hP1, hD1⟩ := hB
                    rw [ht] at hP1
                    obtain ⟨hP, hD⟩ := PDq.join (w := [(oX10 w0 v0 v1 v2 v3 v4 g5 g6 (nI ed) g8 v9 (nI nb) g11 g12 v13 g14 g15 g16 g17 g18 g19 g20 g21 g22 g23 g24 g25 g26 v27 v28 v29 v30 v31 v32 v33 v34 v35 v36 v37 (nI qn367)), (v37, .inl (cA 0, 100, .inl fn368))]) 0 hP hD [0, 1] [] rfl rfl (by decide) (by decide) hk1 hFc hP1 hD1 rfl
                    generalize H1 = H at hP hS ⊢
                    refine lv_iload_n hx hb dX10_putNumber_35 rfl (lv_at hl 0 rfl) ?_
                    refine lv_bipush (v := 10) hx hb dX10_putNumber_36 (by decide) ?_
                    refine lv_idiv hx hb dX10_putNumber_38 (by decide) ?_
                    refine lv_topi (fun yn370 eyn370 => ?_)
                    obtain rfl : yn370 = 100 := eyn370.trans (by first | rfl | decide +kernel)
                    refine lv_istore_n (lv' := [(2, .int 100), (0, .ref w0), (1, .int a)]) hx hb dX10_putNumber_39 rfl hl (by decide) rfl (fun ls hl => ?_)
                    refine lv_goto (tgt := 18) hx hb dX10_putNumber_40 (by decide) ?_
                    refine lv_iload_n hx hb dX10_putNumber_18 rfl (lv_at hl 0 rfl) ?_
                    refine lv_if_le (tgt := 43) hx hb dX10_putNumber_19 (by decide) (fun c9 => absurd c9 (by decide)) (fun c371 => ?_)
                    refine lv_aload_n hx hb dX10_putNumber_22 rfl (lv_at hl 1 rfl) ?_
                    refine lv_bipush (v := 48) hx hb dX10_putNumber_23 (by decide) ?_
                    refine lv_iload_n hx hb dX10_putNumber_25 rfl (lv_at hl 2 rfl) ?_
                    refine lv_iload_n hx hb dX10_putNumber_26 rfl (lv_at hl 0 rfl) ?_
                    refine lv_idiv hx hb dX10_putNumber_27 (by decide) ?_
                    refine lv_topi (fun yn372 eyn372 => ?_)
                    refine lv_bipush (v := 10) hx hb dX10_putNumber_28 (by decide) ?_
                    refine lv_irem hx hb dX10_putNumber_30 (by decide) ?_
                    refine lv_topi (fun yn373 eyn373 => ?_)
                    refine lv_iadd hx hb dX10_putNumber_31 ?_
                    refine lv_topi (fun yn374 eyn374 => ?_)
                    obtain ⟨hPc, hDc, hFc⟩ := PDq.cut (wc := [(oX10 w0 v0 v1 v2 v3 v4 g5 g6 (nI ed) g8 v9 (nI nb) g11 g12 v13 g14 g15 g16 g17 g18 g19 g20 g21 g22 g23 g24 g25 g26 v27 v28 v29 v30 v31 v32 v33 v34 v35 v36 v37 (nI qn367)), (v37, .inl (cA 0, 100, .inl fn368))]) hP hD hS hA [0, 1] (by decide) rfl
                    refine va_callv (va_runV (As := [.int yn374]) (rest := []) ⟨hx, hb, hml, hown, hts⟩ (r_put l D cA sa w0 ed nb qn367 v0 v1 v2 v3 v4 v9 v13 v27 v28 v29 v30 v31 v32 v33 v34 v35 v36 v37 g8 g11 g12 g14 g15 g16 g17 g18 g19 g20 g21 g22 g23 g24 g26 g5 g6 g25 fn368 yn374 H.size (by omega)) (cwV 1 hts gX10_putNumber_X10_put rfl rfl rfl (by decide +kernel) ⟨(Nat.le_of_ble_eq_true rfl), (Nat.le_of_ble_eq_true rfl)⟩) ⟨Wd.blind, va_recv hK hPc (ci := 11) (q0 := 0) rfl rfl, fun U hU hW => ⟨rfl, Wd.call hPc hDc hK hC hZ hS hFc U hU hW⟩⟩ rfl rfl hl.1 rfl (lv_room (Nat.le_of_ble_eq_true rfl)) dX10_putNumber_32 ⟨(Nat.le_of_ble_eq_true rfl), (Nat.le_of_ble_eq_true rfl)⟩) hS (fun q _ h => hFc q h) hFc (fun u t H1 locs ht hvm hw hB hz1 hk1 hS => ?_)
                    obtain ⟨qn375, fn376, hn377, hP1, hD1⟩ := hB
                    rw [ht] at hP1
                    obtain ⟨hP, hD⟩ := PDq.join (w := [(oX10 w0 v0 v1 v2 v3 v4 g5 g6 (nI ed) g8 v9 (nI nb) g11 g12 v13 g14 g15 g16 g17 g18 g19 g20 g21 g22 g23 g24 g25 g26 v27 v28 v29 v30 v31 v32 v33 v34 v35 v36 v37 (nI qn375)), (v37, .inl (cA 0, 100, .inl fn376))]) 0 hP hD [0, 1] [] rfl rfl (by decide) (by decide) hk1 hFc hP1 hD1 rfl
                    generalize H1 = H at hP hS ⊢
                    refine lv_iload_n hx hb dX10_putNumber_35 rfl (lv_at hl 0 rfl) ?_
                    refine lv_bipush (v := 10) hx hb dX10_putNumber_36 (by decide) ?_
                    refine lv_idiv hx hb dX10_putNumber_38 (by decide) ?_
                    refine lv_topi (fun yn378 eyn378 => ?_)
                    obtain rfl : yn378 = 10 := eyn378.trans (by first | rfl | decide +kernel)
                    refine lv_istore_n (lv' := [(2, .int 10), (0, .ref w0), (1, .int a)]) hx hb dX10_putNumber_39 rfl hl (by decide) rfl (fun ls hl => ?_)
                    refine lv_goto (tgt := 18) hx hb dX10_putNumber_40 (by decide) ?_
                    refine lv_iload_n hx hb dX10_putNumber_18 rfl (lv_at hl 0 rfl) ?_
                    refine lv_if_le (tgt := 43) hx hb dX10_putNumber_19 (by decide) (fun c9 => absurd c9 (by decide)) (fun c379 => ?_)
                    refine lv_aload_n hx hb dX10_putNumber_22 rfl (lv_at hl 1 rfl) ?_
                    refine lv_bipush (v := 48) hx hb dX10_putNumber_23 (by decide) ?_
                    refine lv_iload_n hx hb dX10_putNumber_25 rfl (lv_at hl 2 rfl) ?_
                    refine lv_iload_n hx hb dX10_putNumber_26 rfl (lv_at hl 0 rfl) ?_
                    refine lv_idiv hx hb dX10_putNumber_27 (by decide) ?_
                    refine lv_topi (fun yn380 eyn380 => ?_)
                    refine lv_bipush (v := 10) hx hb dX10_putNumber_28 (by decide) ?_
                    refine lv_irem hx hb dX10_putNumber_30 (by decide) ?_
                    refine lv_topi (fun yn381 eyn381 => ?_)
                    refine lv_iadd hx hb dX10_putNumber_31 ?_
                    refine lv_topi (fun yn382 eyn382 => ?_)
                    obtain ⟨hPc, hDc, hFc⟩ := PDq.cut (wc := [(oX10 w0 v0 v1 v2 v3 v4 g5 g6 (nI ed) g8 v9 (nI nb) g11 g12 v13 g14 g15 g16 g17 g18 g19 g20 g21 g22 g23 g24 g25 g26 v27 v28 v29 v30 v31 v32 v33 v34 v35 v36 v37 (nI qn375)), (v37, .inl (cA 0, 100, .inl fn376))]) hP hD hS hA [0, 1] (by decide) rfl
                    refine va_callv (va_runV (As := [.int yn382]) (rest := []) ⟨hx, hb, hml, hown, hts⟩ (r_put l D cA sa w0 ed nb qn375 v0 v1 v2 v3 v4 v9 v13 v27 v28 v29 v30 v31 v32 v33 v34 v35 v36 v37 g8 g11 g12 g14 g15 g16 g17 g18 g19 g20 g21 g22 g23 g24 g26 g5 g6 g25 fn376 yn382 H.size (by omega)) (cwV 1 hts gX10_putNumber_X10_put rfl rfl rfl (by decide +kernel) ⟨(Nat.le_of_ble_eq_true rfl), (Nat.le_of_ble_eq_true rfl)⟩) ⟨Wd.blind, va_recv hK hPc (ci := 11) (q0 := 0) rfl rfl, fun U hU hW => ⟨rfl, Wd.call hPc hDc hK hC hZ hS hFc U hU hW⟩⟩ rfl rfl hl.1 rfl (lv_room (Nat.le_of_ble_eq_true rfl)) dX10_putNumber_32 ⟨(Nat.le_of_ble_eq_true rfl), (Nat.le_of_ble_eq_true rfl)⟩) hS (fun q _ h => hFc q h) hFc (fun u t H1 locs ht hvm hw hB hz1 hk1 hS => ?_)
                    obtain ⟨qn383, fn384, hn385, hP1, hD1⟩ := hB
                    rw [ht] at hP1
                    obtain ⟨hP, hD⟩ := PDq.join (w := [(oX10 w0 v0 v1 v2 v3 v4 g5 g6 (nI ed) g8 v9 (nI nb) g11 g12 v13 g14 g15 g16 g17 g18 g19 g20 g21 g22 g23 g24 g25 g26 v27 v28 v29 v30 v31 v32 v33 v34 v35 v36 v37 (nI qn383)), (v37, .inl (cA 0, 100, .inl fn384))]) 0 hP hD [0, 1] [] rfl rfl (by decide) (by decide) hk1 hFc hP1 hD1 rfl
                    generalize H1 = H at hP hS ⊢
                    refine lv_iload_n hx hb dX10_putNumber_35 rfl (lv_at hl 0 rfl) ?_
                    refine lv_bipush (v := 10) hx hb dX10_putNumber_36 (by decide) ?_
                    refine lv_idiv hx hb dX10_putNumber_38 (by decide) ?_
                    refine lv_topi (fun yn386 eyn386 => ?_)
                    obtain rfl : yn386 = 1 := eyn386.trans (by first | rfl | decide +kernel)
                    refine lv_istore_n (lv' := [(2, .int 1), (0, .ref w0), (1, .int a)]) hx hb dX10_putNumber_39 rfl hl (by decide) rfl (fun ls hl => ?_)
                    refine lv_goto (tgt := 18) hx hb dX10_putNumber_40 (by decide) ?_
                    refine lv_iload_n hx hb dX10_putNumber_18 rfl (lv_at hl 0 rfl) ?_
                    refine lv_if_le (tgt := 43) hx hb dX10_putNumber_19 (by decide) (fun c9 => absurd c9 (by decide)) (fun c387 => ?_)
                    refine lv_aload_n hx hb dX10_putNumber_22 rfl (lv_at hl 1 rfl) ?_
                    refine lv_bipush (v := 48) hx hb dX10_putNumber_23 (by decide) ?_
                    refine lv_iload_n hx hb dX10_putNumber_25 rfl (lv_at hl 2 rfl) ?_
                    refine lv_iload_n hx hb dX10_putNumber_26 rfl (lv_at hl 0 rfl) ?_
                    refine lv_idiv hx hb dX10_putNumber_27 (by decide) ?_
                    refine lv_topi (fun yn388 eyn388 => ?_)
                    refine lv_bipush (v := 10) hx hb dX10_putNumber_28 (by decide) ?_
                    refine lv_irem hx hb dX10_putNumber_30 (by decide) ?_
                    refine lv_topi (fun yn389 eyn389 => ?_)
                    refine lv_iadd hx hb dX10_putNumber_31 ?_
                    refine lv_topi (fun yn390 eyn390 => ?_)
                    obtain ⟨hPc, hDc, hFc⟩ := PDq.cut (wc := [(oX10 w0 v0 v1 v2 v3 v4 g5 g6 (nI ed) g8 v9 (nI nb) g11 g12 v13 g14 g15 g16 g17 g18 g19 g20 g21 g22 g23 g24 g25 g26 v27 v28 v29 v30 v31 v32 v33 v34 v35 v36 v37 (nI qn383)), (v37, .inl (cA 0, 100, .inl fn384))]) hP hD hS hA [0, 1] (by decide) rfl
                    refine va_callv (va_runV (As := [.int yn390]) (rest := []) ⟨hx, hb, hml, hown, hts⟩ (r_put l D cA sa w0 ed nb qn383 v0 v1 v2 v3 v4 v9 v13 v27 v28 v29 v30 v31 v32 v33 v34 v35 v36 v37 g8 g11 g12 g14 g15 g16 g17 g18 g19 g20 g21 g22 g23 g24 g26 g5 g6 g25 fn384 yn390 H.size (by omega)) (cwV 1 hts gX10_putNumber_X10_put rfl rfl rfl (by decide +kernel) ⟨(Nat.le_of_ble_eq_true rfl), (Nat.le_of_ble_eq_true rfl)⟩) ⟨Wd.blind, va_recv hK hPc (ci := 11) (q0 := 0) rfl rfl, fun U hU hW => ⟨rfl, Wd.call hPc hDc hK hC hZ hS hFc U hU hW⟩⟩ rfl rfl hl.1 rfl (lv_room (Nat.le_of_ble_eq_true rfl)) dX10_putNumber_32 ⟨(Nat.le_of_ble_eq_true rfl), (Nat.le_of_ble_eq_true rfl)⟩) hS (fun q _ h => hFc q h) hFc (fun u t H1 locs ht hvm hw hB hz1 hk1 hS => ?_)
                    obtain ⟨qn391, fn392, hn393, hP1, hD1⟩ := hB
                    rw [ht] at hP1
                    obtain ⟨hP, hD⟩ := PDq.join (w := [(oX10 w0 v0 v1 v2 v3 v4 g5 g6 (nI ed) g8 v9 (nI nb) g11 g12 v13 g14 g15 g16 g17 g18 g19 g20 g21 g22 g23 g24 g25 g26 v27 v28 v29 v30 v31 v32 v33 v34 v35 v36 v37 (nI qn391)), (v37, .inl (cA 0, 100, .inl fn392))]) 0 hP hD [0, 1] [] rfl rfl (by decide) (by decide) hk1 hFc hP1 hD1 rfl
                    generalize H1 = H at hP hS ⊢
                    refine lv_iload_n hx hb dX10_putNumber_35 rfl (lv_at hl 0 rfl) ?_
                    refine lv_bipush (v := 10) hx hb dX10_putNumber_36 (by decide) ?_
                    refine lv_idiv hx hb dX10_putNumber_38 (by decide) ?_
                    refine lv_topi (fun yn394 eyn394 => ?_)
                    obtain rfl : yn394 = 0 := eyn394.trans (by first | rfl | decide +kernel)
                    refine lv_istore_n (lv' := [(2, .int 0), (0, .ref w0), (1, .int a)]) hx hb dX10_putNumber_39 rfl hl (by decide) rfl (fun ls hl => ?_)
                    refine lv_goto (tgt := 18) hx hb dX10_putNumber_40 (by decide) ?_
                    refine lv_iload_n hx hb dX10_putNumber_18 rfl (lv_at hl 0 rfl) ?_
                    refine lv_if_le (tgt := 43) hx hb dX10_putNumber_19 (by decide) (fun c395 => ?_) (fun c9 => absurd c9 (by decide))
                    obtain ⟨hP9, hD9⟩ := PDq.sub (ws' := [(oX10 w0 v0 v1 v2 v3 v4 g5 g6 (nI ed) g8 v9 (nI nb) g11 g12 v13 g14 g15 g16 g17 g18 g19 g20 g21 g22 g23 g24 g25 g26 v27 v28 v29 v30 v31 v32 v33 v34 v35 v36 v37 (nI qn391)), (v37, .inl (cA 0, 100, .inl fn392))]) hP hD [0, 1] (by decide) rfl
                    refine W.widen (k := 0) (n := 0) (Nat.le_of_ble_eq_true rfl) (Nat.le_of_ble_eq_true rfl) ?_
                    exact (W.vret hx hb hr (fun t ht hW => ⟨⟨(), rfl, trivial, qn391, fn392, (by omega), by rw [ht]; exact hP9, hD9⟩, hS.F ht⟩) hS.2.2 dX10_putNumber_43)
                  · skip
                    refine lv_bipush (v := 10) hx hb dX10_putNumber_10 (by decide) ?_
                    refine lv_iload_n hx hb dX10_putNumber_12 rfl (lv_at hl 0 rfl) ?_
                    refine lv_imul hx hb dX10_putNumber_13 ?_
                    refine lv_topi (fun yn396 eyn396 => ?_)
                    obtain rfl : yn396 = 1000000000 := eyn396.trans (by first | rfl | decide +kernel)
                    refine lv_istore_n (lv' := [(2, .int 1000000000), (0, .ref w0), (1, .int a)]) hx hb dX10_putNumber_14 rfl hl (by decide) rfl (fun ls hl => ?_)
                    refine lv_goto (tgt := 2) hx hb dX10_putNumber_15 (by decide) ?_
                    refine lv_iload_n hx hb dX10_putNumber_2 rfl (lv_at hl 2 rfl) ?_
                    refine lv_iload_n hx hb dX10_putNumber_3 rfl (lv_at hl 0 rfl) ?_
                    refine lv_idiv hx hb dX10_putNumber_4 (by decide) ?_
                    refine lv_topi (fun yn397 eyn397 => ?_)
                    refine lv_bipush (v := 9) hx hb dX10_putNumber_5 (by decide) ?_
                    refine lv_icmp_le (tgt := 18) hx hb dX10_putNumber_7 (by decide) (fun c398 => ?_) (fun c9 => absurd c9 (fun h9 => h9 (by rw [eyn397]; exact dv9 _)))
                    refine lv_iload_n hx hb dX10_putNumber_18 rfl (lv_at hl 0 rfl) ?_
                    refine lv_if_le (tgt := 43) hx hb dX10_putNumber_19 (by decide) (fun c9 => absurd c9 (by decide)) (fun c399 => ?_)
                    refine lv_aload_n hx hb dX10_putNumber_22 rfl (lv_at hl 1 rfl) ?_
                    refine lv_bipush (v := 48) hx hb dX10_putNumber_23 (by decide) ?_
                    refine lv_iload_n hx hb dX10_putNumber_25 rfl (lv_at hl 2 rfl) ?_
                    refine lv_iload_n hx hb dX10_putNumber_26 rfl (lv_at hl 0 rfl) ?_
                    refine lv_idiv hx hb dX10_putNumber_27 (by decide) ?_
                    refine lv_topi (fun yn400 eyn400 => ?_)
                    refine lv_bipush (v := 10) hx hb dX10_putNumber_28 (by decide) ?_
                    refine lv_irem hx hb dX10_putNumber_30 (by decide) ?_
                    refine lv_topi (fun yn401 eyn401 => ?_)
                    refine lv_iadd hx hb dX10_putNumber_31 ?_
                    refine lv_topi (fun yn402 eyn402 => ?_)
                    obtain ⟨hPc, hDc, hFc⟩ := PDq.cut (wc := [(oX10 w0 v0 v1 v2 v3 v4 g5 g6 (nI ed) g8 v9 (nI nb) g11 g12 v13 g14 g15 g16 g17 g18 g19 g20 g21 g22 g23 g24 g25 g26 v27 v28 v29 v30 v31 v32 v33 v34 v35 v36 v37 (nI ol)), (v37, .inl (cA 0, 100, .inl fo9))]) hP hD hS hA [0, 1] (by decide) rfl
                    refine va_callv (va_runV (As := [.int yn402]) (rest := []) ⟨hx, hb, hml, hown, hts⟩ (r_put l D cA sa w0 ed nb ol v0 v1 v2 v3 v4 v9 v13 v27 v28 v29 v30 v31 v32 v33 v34 v35 v36 v37 g8 g11 g12 g14 g15 g16 g17 g18 g19 g20 g21 g22 g23 g24 g26 g5 g6 g25 fo9 yn402 s.heap.size (by omega)) (cwV 1 hts gX10_putNumber_X10_put rfl rfl rfl (by decide +kernel) ⟨(Nat.le_of_ble_eq_true rfl), (Nat.le_of_ble_eq_true rfl)⟩) ⟨Wd.blind, va_recv hK hPc (ci := 11) (q0 := 0) rfl rfl, fun U hU hW => ⟨rfl, Wd.call hPc hDc hK hC hZ hS hFc U hU hW⟩⟩ rfl rfl hl.1 rfl (lv_room (Nat.le_of_ble_eq_true rfl)) dX10_putNumber_32 ⟨(Nat.le_of_ble_eq_true rfl), (Nat.le_of_ble_eq_true rfl)⟩) hS (fun q _ h => hFc q h) hFc (fun u t H1 locs ht hvm hw hB hz1 hk1 hS => ?_)
                    obtain ⟨qn403, fn404, hn405, hP1, hD1⟩ := hB
                    rw [ht] at hP1
                    obtain ⟨hP, hD⟩ := PDq.join (w := [(oX10 w0 v0 v1 v2 v3 v4 g5 g6 (nI ed) g8 v9 (nI nb) g11 g12 v13 g14 g15 g16 g17 g18 g19 g20 g21 g22 g23 g24 g25 g26 v27 v28 v29 v30 v31 v32 v33 v34 v35 v36 v37 (nI qn403)), (v37, .inl (cA 0, 100, .inl fn404))]) 0 hP hD [0, 1] [] rfl rfl (by decide) (by decide) hk1 hFc hP1 hD1 rfl
                    generalize H1 = H at hP hS ⊢
                    refine lv_iload_n hx hb dX10_putNumber_35 rfl (lv_at hl 0 rfl) ?_
                    refine lv_bipush (v := 10) hx hb dX10_putNumber_36 (by decide) ?_
                    refine lv_idiv hx hb dX10_putNumber_38 (by decide) ?_
                    refine lv_topi (fun yn406 eyn406 => ?_)
                    obtain rfl : yn406 = 100000000 := eyn406.trans (by first | rfl | decide +kernel)
                    refine lv_istore_n (lv' := [(2, .int 100000000), (0, .ref w0), (1, .int a)]) hx hb dX10_putNumber_39 rfl hl (by decide) rfl (fun ls hl => ?_)
                    refine lv_goto (tgt := 18) hx hb dX10_putNumber_40 (by decide) ?_
                    refine lv_iload_n hx hb dX10_putNumber_18 rfl (lv_at hl 0 rfl) ?_
                    refine lv_if_le (tgt := 43) hx hb dX10_putNumber_19 (by decide) (fun c9 => absurd c9 (by decide)) (fun c407 => ?_)
                    refine lv_aload_n hx hb dX10_putNumber_22 rfl (lv_at hl 1 rfl) ?_
                    refine lv_bipush (v := 48) hx hb dX10_putNumber_23 (by decide) ?_
                    refine lv_iload_n hx hb dX10_putNumber_25 rfl (lv_at hl 2 rfl) ?_
                    refine lv_iload_n hx hb dX10_putNumber_26 rfl (lv_at hl 0 rfl) ?_
                    refine lv_idiv hx hb dX10_putNumber_27 (by decide) ?_
                    refine lv_topi (fun yn408 eyn408 => ?_)
                    refine lv_bipush (v := 10) hx hb dX10_putNumber_28 (by decide) ?_
                    refine lv_irem hx hb dX10_putNumber_30 (by decide) ?_
                    refine lv_topi (fun yn409 eyn409 => ?_)
                    refine lv_iadd hx hb dX10_putNumber_31 ?_
                    refine lv_topi (fun yn410 eyn410 => ?_)
                    obtain ⟨hPc, hDc, hFc⟩ := PDq.cut (wc := [(oX10 w0 v0 v1 v2 v3 v4 g5 g6 (nI ed) g8 v9 (nI nb) g11 g12 v13 g14 g15 g16 g17 g18 g19 g20 g21 g22 g23 g24 g25 g26 v27 v28 v29 v30 v31 v32 v33 v34 v35 v36 v37 (nI qn403)), (v37, .inl (cA 0, 100, .inl fn404))]) hP hD hS hA [0, 1] (by decide) rfl
                    refine va_callv (va_runV (As := [.int yn410]) (rest := []) ⟨hx, hb, hml, hown, hts⟩ (r_put l D cA sa w0 ed nb qn403 v0 v1 v2 v3 v4 v9 v13 v27 v28 v29 v30 v31 v32 v33 v34 v35 v36 v37 g8 g11 g12 g14 g15 g16 g17 g18 g19 g20 g21 g22 g23 g24 g26 g5 g6 g25 fn404 yn410 H.size (by omega)) (cwV 1 hts gX10_putNumber_X10_put rfl rfl rfl (by decide +kernel) ⟨(Nat.le_of_ble_eq_true rfl), (Nat.le_of_ble_eq_true rfl)⟩) ⟨Wd.blind, va_recv hK hPc (ci := 11) (q0 := 0) rfl rfl, fun U hU hW => ⟨rfl, Wd.call hPc hDc hK hC hZ hS hFc U hU hW⟩⟩ rfl rfl hl.1 rfl (lv_room (Nat.le_of_ble_eq_true rfl)) dX10_putNumber_32 ⟨(Nat.le_of_ble_eq_true rfl), (Nat.le_of_ble_eq_true rfl)⟩) hS (fun q _ h => hFc q h) hFc (fun u t H1 locs ht hvm hw hB hz1 hk1 hS => ?_)
                    obtain ⟨qn411, fn412, hn413, hP1, hD1⟩ := hB
                    rw [ht] at hP1
                    obtain ⟨hP, hD⟩ := PDq.join (w := [(oX10 w0 v0 v1 v2 v3 v4 g5 g6 (nI ed) g8 v9 (nI nb) g11 g12 v13 g14 g15 g16 g17 g18 g19 g20 g21 g22 g23 g24 g25 g26 v27 v28 v29 v30 v31 v32 v33 v34 v35 v36 v37 (nI qn411)), (v37, .inl (cA 0, 100, .inl fn412))]) 0 hP hD [0, 1] [] rfl rfl (by decide) (by decide) hk1 hFc hP1 hD1 rfl
                    generalize H1 = H at hP hS ⊢
                    refine lv_iload_n hx hb dX10_putNumber_35 rfl (lv_at hl 0 rfl) ?_
                    refine lv_bipush (v := 10) hx hb dX10_putNumber_36 (by decide) ?_
                    refine lv_idiv hx hb dX10_putNumber_38 (by decide) ?_
                    refine lv_topi (fun yn414 eyn414 => ?_)
                    obtain rfl : yn414 = 10000000 := eyn414.trans (by first | rfl | decide +kernel)
                    refine lv_istore_n (lv' := [(2, .int 10000000), (0, .ref w0), (1, .int a)]) hx hb dX10_putNumber_39 rfl hl (by decide) rfl (fun ls hl => ?_)
                    refine lv_goto (tgt := 18) hx hb dX10_putNumber_40 (by decide) ?_
                    refine lv_iload_n hx hb dX10_putNumber_18 rfl (lv_at hl 0 rfl) ?_
                    refine lv_if_le (tgt := 43) hx hb dX10_putNumber_19 (by decide) (fun c9 => absurd c9 (by decide)) (fun c415 => ?_)
                    refine lv_aload_n hx hb dX10_putNumber_22 rfl (lv_at hl 1 rfl) ?_
                    refine lv_bipush (v := 48) hx hb dX10_putNumber_23 (by decide) ?_
                    refine lv_iload_n hx hb dX10_putNumber_25 rfl (lv_at hl 2 rfl) ?_
                    refine lv_iload_n hx hb dX10_putNumber_26 rfl (lv_at hl 0 rfl) ?_
                    refine lv_idiv hx hb dX10_putNumber_27 (by decide) ?_
                    refine lv_topi (fun yn416 eyn416 => ?_)
                    refine lv_bipush (v := 10) hx hb dX10_putNumber_28 (by decide) ?_
                    refine lv_irem hx hb dX10_putNumber_30 (by decide) ?_
                    refine lv_topi (fun yn417 eyn417 => ?_)
                    refine lv_iadd hx hb dX10_putNumber_31 ?_
                    refine lv_topi (fun yn418 eyn418 => ?_)
                    obtain ⟨hPc, hDc, hFc⟩ := PDq.cut (wc := [(oX10 w0 v0 v1 v2 v3 v4 g5 g6 (nI ed) g8 v9 (nI nb) g11 g12 v13 g14 g15 g16 g17 g18 g19 g20 g21 g22 g23 g24 g25 g26 v27 v28 v29 v30 v31 v32 v33 v34 v35 v36 v37 (nI qn411)), (v37, .inl (cA 0, 100, .inl fn412))]) hP hD hS hA [0, 1] (by decide) rfl
                    refine va_callv (va_runV (As := [.int yn418]) (rest := []) ⟨hx, hb, hml, hown, hts⟩ (r_put l D cA sa w0 ed nb qn411 v0 v1 v2 v3 v4 v9 v13 v27 v28 v29 v30 v31 v32 v33 v34 v35 v36 v37 g8 g11 g12 g14 g15 g16 g17 g18 g19 g20 g21 g22 g23 g24 g26 g5 g6 g25 fn412 yn418 H.size (by omega)) (cwV 1 hts gX10_putNumber_X10_put rfl rfl rfl (by decide +kernel) ⟨(Nat.le_of_ble_eq_true rfl), (Nat.le_of_ble_eq_true rfl)⟩) ⟨Wd.blind, va_recv hK hPc (ci := 11) (q0 := 0) rfl rfl, fun U hU hW => ⟨rfl, Wd.call hPc hDc hK hC hZ hS hFc U hU hW⟩⟩ rfl rfl hl.1 rfl (lv_room (Nat.le_of_ble_eq_true rfl)) dX10_putNumber_32 ⟨(Nat.le_of_ble_eq_true rfl), (Nat.le_of_ble_eq_true rfl)⟩) hS (fun q _ h => hFc q h) hFc (fun u t H1 locs ht hvm hw hB hz1 hk1 hS => ?_)
                    obtain ⟨qn419, fn420, hn421, hP1, hD1⟩ := hB
                    rw [ht] at hP1
                    obtain ⟨hP, hD⟩ := PDq.join (w := [(oX10 w0 v0 v1 v2 v3 v4 g5 g6 (nI ed) g8 v9 (nI nb) g11 g12 v13 g14 g15 g16 g17 g18 g19 g20 g21 g22 g23 g24 g25 g26 v27 v28 v29 v30 v31 v32 v33 v34 v35 v36 v37 (nI qn419)), (v37, .inl (cA 0, 100, .inl fn420))]) 0 hP hD [0, 1] [] rfl rfl (by decide) (by decide) hk1 hFc hP1 hD1 rfl
                    generalize H1 = H at hP hS ⊢
                    refine lv_iload_n hx hb dX10_putNumber_35 rfl (lv_at hl 0 rfl) ?_
                    refine lv_bipush (v := 10) hx hb dX10_putNumber_36 (by decide) ?_
                    refine lv_idiv hx hb dX10_putNumber_38 (by decide) ?_
                    refine lv_topi (fun yn422 eyn422 => ?_)
                    obtain rfl : yn422 = 1000000 := eyn422.trans (by first | rfl | decide +kernel)
                    refine lv_istore_n (lv' := [(2, .int 1000000), (0, .ref w0), (1, .int a)]) hx hb dX10_putNumber_39 rfl hl (by decide) rfl (fun ls hl => ?_)
                    refine lv_goto (tgt := 18) hx hb dX10_putNumber_40 (by decide) ?_
                    refine lv_iload_n hx hb dX10_putNumber_18 rfl (lv_at hl 0 rfl) ?_
                    refine lv_if_le (tgt := 43) hx hb dX10_putNumber_19 (by decide) (fun c9 => absurd c9 (by decide)) (fun c423 => ?_)
                    refine lv_aload_n hx hb dX10_putNumber_22 rfl (lv_at hl 1 rfl) ?_
                    refine lv_bipush (v := 48) hx hb dX10_putNumber_23 (by decide) ?_
                    refine lv_iload_n hx hb dX10_putNumber_25 rfl (lv_at hl 2 rfl) ?_
                    refine lv_iload_n hx hb dX10_putNumber_26 rfl (lv_at hl 0 rfl) ?_
                    refine lv_idiv hx hb dX10_putNumber_27 (by decide) ?_
                    refine lv_topi (fun yn424 eyn424 => ?_)
                    refine lv_bipush (v := 10) hx hb dX10_putNumber_28 (by decide) ?_
                    refine lv_irem hx hb dX10_putNumber_30 (by decide) ?_
                    refine lv_topi (fun yn425 eyn425 => ?_)
                    refine lv_iadd hx hb dX10_putNumber_31 ?_
                    refine lv_topi (fun yn426 eyn426 => ?_)
                    obtain ⟨hPc, hDc, hFc⟩ := PDq.cut (wc := [(oX10 w0 v0 v1 v2 v3 v4 g5 g6 (nI ed) g8 v9 (nI nb) g11 g12 v13 g14 g15 g16 g17 g18 g19 g20 g21 g22 g23 g24 g25 g26 v27 v28 v29 v30 v31 v32 v33 v34 v35 v36 v37 (nI qn419)), (v37, .inl (cA 0, 100, .inl fn420))]) hP hD hS hA [0, 1] (by decide) rfl
                    refine va_callv (va_runV (As := [.int yn426]) (rest := []) ⟨hx, hb, hml, hown, hts⟩ (r_put l D cA sa w0 ed nb qn419 v0 v1 v2 v3 v4 v9 v13 v27 v28 v29 v30 v31 v32 v33 v34 v35 v36 v37 g8 g11 g12 g14 g15 g16 g17 g18 g19 g20 g21 g22 g23 g24 g26 g5 g6 g25 fn420 yn426 H.size (by omega)) (cwV 1 hts gX10_putNumber_X10_put rfl rfl rfl (by decide +kernel) ⟨(Nat.le_of_ble_eq_true rfl), (Nat.le_of_ble_eq_true rfl)⟩) ⟨Wd.blind, va_recv hK hPc (ci := 11) (q0 := 0) rfl rfl, fun U hU hW => ⟨rfl, Wd.call hPc hDc hK hC hZ hS hFc U hU hW⟩⟩ rfl rfl hl.1 rfl (lv_room (Nat.le_of_ble_eq_true rfl)) dX10_putNumber_32 ⟨(Nat.le_of_ble_eq_true rfl), (Nat.le_of_ble_eq_true rfl)⟩) hS (fun q _ h => hFc q h) hFc (fun u t H1 locs ht hvm hw hB hz1 hk1 hS => ?_)
                    obtain ⟨qn427, fn428, hn429, hP1, hD1⟩ := hB
                    rw [ht] at hP1
                    obtain ⟨hP, hD⟩ := PDq.join (w := [(oX10 w0 v0 v1 v2 v3 v4 g5 g6 (nI ed) g8 v9 (nI nb) g11 g12 v13 g14 g15 g16 g17 g18 g19 g20 g21 g22 g23 g24 g25 g26 v27 v28 v29 v30 v31 v32 v33 v34 v35 v36 v37 (nI qn427)), (v37, .inl (cA 0, 100, .inl fn428))]) 0 hP hD [0, 1] [] rfl rfl (by decide) (by decide) hk1 hFc hP1 hD1 rfl
                    generalize H1 = H at hP hS ⊢
                    refine lv_iload_n hx hb dX10_putNumber_35 rfl (lv_at hl 0 rfl) ?_
                    refine lv_bipush (v := 10) hx hb dX10_putNumber_36 (by decide) ?_
                    refine lv_idiv hx hb dX10_putNumber_38 (by decide) ?_
                    refine lv_topi (fun yn430 eyn430 => ?_)
                    obtain rfl : yn430 = 100000 := eyn430.trans (by first | rfl | decide +kernel)
                    refine lv_istore_n (lv' := [(2, .int 100000), (0, .ref w0), (1, .int a)]) hx hb dX10_putNumber_39 rfl hl (by decide) rfl (fun ls hl => ?_)
                    refine lv_goto (tgt := 18) hx hb dX10_putNumber_40 (by decide) ?_
                    refine lv_iload_n hx hb dX10_putNumber_18 rfl (lv_at hl 0 rfl) ?_
                    refine lv_if_le (tgt := 43) hx hb dX10_putNumber_19 (by decide) (fun c9 => absurd c9 (by decide)) (fun c431 => ?_)
                    refine lv_aload_n hx hb dX10_putNumber_22 rfl (lv_at hl 1 rfl) ?_
                    refine lv_bipush (v := 48) hx hb dX10_putNumber_23 (by decide) ?_
                    refine lv_iload_n hx hb dX10_putNumber_25 rfl (lv_at hl 2 rfl) ?_
                    refine lv_iload_n hx hb dX10_putNumber_26 rfl (lv_at hl 0 rfl) ?_
                    refine lv_idiv hx hb dX10_putNumber_27 (by decide) ?_
                    refine lv_topi (fun yn432 eyn432 => ?_)
                    refine lv_bipush (v := 10) hx hb dX10_putNumber_28 (by decide) ?_
                    refine lv_irem hx hb dX10_putNumber_30 (by decide) ?_
                    refine lv_topi (fun yn433 eyn433 => ?_)
                    refine lv_iadd hx hb dX10_putNumber_31 ?_
                    refine lv_topi (fun yn434 eyn434 => ?_)
                    obtain ⟨hPc, hDc, hFc⟩ := PDq.cut (wc := [(oX10 w0 v0 v1 v2 v3 v4 g5 g6 (nI ed) g8 v9 (nI nb) g11 g12 v13 g14 g15 g16 g17 g18 g19 g20 g21 g22 g23 g24 g25 g26 v27 v28 v29 v30 v31 v32 v33 v34 v35 v36 v37 (nI qn427)), (v37, .inl (cA 0, 100, .inl fn428))]) hP hD hS hA [0, 1] (by decide) rfl
                    refine va_callv (va_runV (As := [.int yn434]) (rest := []) ⟨hx, hb, hml, hown, hts⟩ (r_put l D cA sa w0 ed nb qn427 v0 v1 v2 v3 v4 v9 v13 v27 v28 v29 v30 v31 v32 v33 v34 v35 v36 v37 g8 g11 g12 g14 g15 g16 g17 g18 g19 g20 g21 g22 g23 g24 g26 g5 g6 g25 fn428 yn434 H.size (by omega)) (cwV 1 hts gX10_putNumber_X10_put rfl rfl rfl (by decide +kernel) ⟨(Nat.le_of_ble_eq_true rfl), (Nat.le_of_ble_eq_true rfl)⟩) ⟨Wd.blind, va_recv hK hPc (ci := 11) (q0 := 0) rfl rfl, fun U hU hW => ⟨rfl, Wd.call hPc hDc hK hC hZ hS hFc U hU hW⟩⟩ rfl rfl hl.1 rfl (lv_room (Nat.le_of_ble_eq_true rfl)) dX10_putNumber_32 ⟨(Nat.le_of_ble_eq_true rfl), (Nat.le_of_ble_eq_true rfl)⟩) hS (fun q _ h => hFc q h) hFc (fun u t H1 locs ht hvm hw hB hz1 hk1 hS => ?_)
                    obtain ⟨qn435, fn436, hn437, hP1, hD1⟩ := hB
                    rw [ht] at hP1
                    obtain ⟨hP, hD⟩ := PDq.join (w := [(oX10 w0 v0 v1 v2 v3 v4 g5 g6 (nI ed) g8 v9 (nI nb) g11 g12 v13 g14 g15 g16 g17 g18 g19 g20 g21 g22 g23 g24 g25 g26 v27 v28 v29 v30 v31 v32 v33 v34 v35 v36 v37 (nI qn435)), (v37, .inl (cA 0, 100, .inl fn436))]) 0 hP hD [0, 1] [] rfl rfl (by decide) (by decide) hk1 hFc hP1 hD1 rfl
                    generalize H1 = H at hP hS ⊢
                    refine lv_iload_n hx hb dX10_putNumber_35 rfl (lv_at hl 0 rfl) ?_
                    refine lv_bipush (v := 10) hx hb dX10_putNumber_36 (by decide) ?_
                    refine lv_idiv hx hb dX10_putNumber_38 (by decide) ?_
                    refine lv_topi (fun yn438 eyn438 => ?_)
                    obtain rfl : yn438 = 10000 := eyn438.trans (by first | rfl | decide +kernel)
                    refine lv_istore_n (lv' := [(2, .int 10000), (0, .ref w0), (1, .int a)]) hx hb dX10_putNumber_39 rfl hl (by decide) rfl (fun ls hl => ?_)
                    refine lv_goto (tgt := 18) hx hb dX10_putNumber_40 (by decide) ?_
                    refine lv_iload_n hx hb dX10_putNumber_18 rfl (lv_at hl 0 rfl) ?_
                    refine lv_if_le (tgt := 43) hx hb dX10_putNumber_19 (by decide) (fun c9 => absurd c9 (by decide)) (fun c439 => ?_)
                    refine lv_aload_n hx hb dX10_putNumber_22 rfl (lv_at hl 1 rfl) ?_
                    refine lv_bipush (v := 48) hx hb dX10_putNumber_23 (by decide) ?_
                    refine lv_iload_n hx hb dX10_putNumber_25 rfl (lv_at hl 2 rfl) ?_
                    refine lv_iload_n hx hb dX10_putNumber_26 rfl (lv_at hl 0 rfl) ?_
                    refine lv_idiv hx hb dX10_putNumber_27 (by decide) ?_
                    refine lv_topi (fun yn440 eyn440 => ?_)
                    refine lv_bipush (v := 10) hx hb dX10_putNumber_28 (by decide) ?_
                    refine lv_irem hx hb dX10_putNumber_30 (by decide) ?_
                    refine lv_topi (fun yn441 eyn441 => ?_)
                    refine lv_iadd hx hb dX10_putNumber_31 ?_
                    refine lv_topi (fun yn442 eyn442 => ?_)
                    obtain ⟨hPc, hDc, hFc⟩ := PDq.cut (wc := [(oX10 w0 v0 v1 v2 v3 v4 g5 g6 (nI ed) g8 v9 (nI nb) g11 g12 v13 g14 g15 g16 g17 g18 g19 g20 g21 g22 g23 g24 g25 g26 v27 v28 v29 v30 v31 v32 v33 v34 v35 v36 v37 (nI qn435)), (v37, .inl (cA 0, 100, .inl fn436))]) hP hD hS hA [0, 1] (by decide) rfl
                    refine va_callv (va_runV (As := [.int yn442]) (rest := []) ⟨hx, hb, hml, hown, hts⟩ (r_put l D cA sa w0 ed nb qn435 v0 v1 v2 v3 v4 v9 v13 v27 v28 v29 v30 v31 v32 v33 v34 v35 v36 v37 g8 g11 g12 g14 g15 g16 g17 g18 g19 g20 g21 g22 g23 g24 g26 g5 g6 g25 fn436 yn442 H.size (by omega)) (cwV 1 hts gX10_putNumber_X10_put rfl rfl rfl (by decide +kernel) ⟨(Nat.le_of_ble_eq_true rfl), (Nat.le_of_ble_eq_true rfl)⟩) ⟨Wd.blind, va_recv hK hPc (ci := 11) (q0 := 0) rfl rfl, fun U hU hW => ⟨rfl, Wd.call hPc hDc hK hC hZ hS hFc U hU hW⟩⟩ rfl rfl hl.1 rfl (lv_room (Nat.le_of_ble_eq_true rfl)) dX10_putNumber_32 ⟨(Nat.le_of_ble_eq_true rfl), (Nat.le_of_ble_eq_true rfl)⟩) hS (fun q _ h => hFc q h) hFc (fun u t H1 locs ht hvm hw hB hz1 hk1 hS => ?_)
                    obtain ⟨qn443, fn444, hn445, hP1, hD1⟩ := hB
                    rw [ht] at hP1
                    obtain ⟨hP, hD⟩ := PDq.join (w := [(oX10 w0 v0 v1 v2 v3 v4 g5 g6 (nI ed) g8 v9 (nI nb) g11 g12 v13 g14 g15 g16 g17 g18 g19 g20 g21 g22 g23 g24 g25 g26 v27 v28 v29 v30 v31 v32 v33 v34 v35 v36 v37 (nI qn443)), (v37, .inl (cA 0, 100, .inl fn444))]) 0 hP hD [0, 1] [] rfl rfl (by decide) (by decide) hk1 hFc hP1 hD1 rfl
                    generalize H1 = H at hP hS ⊢
                    refine lv_iload_n hx hb dX10_putNumber_35 rfl (lv_at hl 0 rfl) ?_
                    refine lv_bipush (v := 10) hx hb dX10_putNumber_36 (by decide) ?_
                    refine lv_idiv hx hb dX10_putNumber_38 (by decide) ?_
                    refine lv_topi (fun yn446 eyn446 => ?_)
                    obtain rfl : yn446 = 1000 := eyn446.trans (by first | rfl | decide +kernel)
                    refine lv_istore_n (lv' := [(2, .int 1000), (0, .ref w0), (1, .int a)]) hx hb dX10_putNumber_39 rfl hl (by decide) rfl (fun ls hl => ?_)
                    refine lv_goto (tgt := 18) hx hb dX10_putNumber_40 (by decide) ?_
                    refine lv_iload_n hx hb dX10_putNumber_18 rfl (lv_at hl 0 rfl) ?_
                    refine lv_if_le (tgt := 43) hx hb dX10_putNumber_19 (by decide) (fun c9 => absurd c9 (by decide)) (fun c447 => ?_)
                    refine lv_aload_n hx hb dX10_putNumber_22 rfl (lv_at hl 1 rfl) ?_
                    refine lv_bipush (v := 48) hx hb dX10_putNumber_23 (by decide) ?_
                    refine lv_iload_n hx hb dX10_putNumber_25 rfl (lv_at hl 2 rfl) ?_
                    refine lv_iload_n hx hb dX10_putNumber_26 rfl (lv_at hl 0 rfl) ?_
                    refine lv_idiv hx hb dX10_putNumber_27 (by decide) ?_
                    refine lv_topi (fun yn448 eyn448 => ?_)
                    refine lv_bipush (v := 10) hx hb dX10_putNumber_28 (by decide) ?_
                    refine lv_irem hx hb dX10_putNumber_30 (by decide) ?_
                    refine lv_topi (fun yn449 eyn449 => ?_)
                    refine lv_iadd hx hb dX10_putNumber_31 ?_
                    refine lv_topi (fun yn450 eyn450 => ?_)
                    obtain ⟨hPc, hDc, hFc⟩ := PDq.cut (wc := [(oX10 w0 v0 v1 v2 v3 v4 g5 g6 (nI ed) g8 v9 (nI nb) g11 g12 v13 g14 g15 g16 g17 g18 g19 g20 g21 g22 g23 g24 g25 g26 v27 v28 v29 v30 v31 v32 v33 v34 v35 v36 v37 (nI qn443)), (v37, .inl (cA 0, 100, .inl fn444))]) hP hD hS hA [0, 1] (by decide) rfl
                    refine va_callv (va_runV (As := [.int yn450]) (rest := []) ⟨hx, hb, hml, hown, hts⟩ (r_put l D cA sa w0 ed nb qn443 v0 v1 v2 v3 v4 v9 v13 v27 v28 v29 v30 v31 v32 v33 v34 v35 v36 v37 g8 g11 g12 g14 g15 g16 g17 g18 g19 g20 g21 g22 g23 g24 g26 g5 g6 g25 fn444 yn450 H.size (by omega)) (cwV 1 hts gX10_putNumber_X10_put rfl rfl rfl (by decide +kernel) ⟨(Nat.le_of_ble_eq_true rfl), (Nat.le_of_ble_eq_true rfl)⟩) ⟨Wd.blind, va_recv hK hPc (ci := 11) (q0 := 0) rfl rfl, fun U hU hW => ⟨rfl, Wd.call hPc hDc hK hC hZ hS hFc U hU hW⟩⟩ rfl rfl hl.1 rfl (lv_room (Nat.le_of_ble_eq_true rfl)) dX10_putNumber_32 ⟨(Nat.le_of_ble_eq_true rfl), (Nat.le_of_ble_eq_true rfl)⟩) hS (fun q _ h => hFc q h) hFc (fun u t H1 locs ht hvm hw hB hz1 hk1 hS => ?_)
                    obtain ⟨qn451, fn452, hn453, hP1, hD1⟩ := hB
                    rw [ht] at hP1
                    obtain ⟨hP, hD⟩ := PDq.join (w := [(oX10 w0 v0 v1 v2 v3 v4 g5 g6 (nI ed) g8 v9 (nI nb) g11 g12 v13 g14 g15 g16 g17 g18 g19 g20 g21 g22 g23 g24 g25 g26 v27 v28 v29 v30 v31 v32 v33 v34 v35 v36 v37 (nI qn451)), (v37, .inl (cA 0, 100, .inl fn452))]) 0 hP hD [0, 1] [] rfl rfl (by decide) (by decide) hk1 hFc hP1 hD1 rfl
                    generalize H1 = H at hP hS ⊢
                    refine lv_iload_n hx hb dX10_putNumber_35 rfl (lv_at hl 0 rfl) ?_
                    refine lv_bipush (v := 10) hx hb dX10_putNumber_36 (by decide) ?_
                    refine lv_idiv hx hb dX10_putNumber_38 (by decide) ?_
                    refine lv_topi (fun yn454 eyn454 => ?_)
                    obtain rfl : yn454 = 100 := eyn454.trans (by first | rfl | decide +kernel)
                    refine lv_istore_n (lv' := [(2, .int 100), (0, .ref w0), (1, .int a)]) hx hb dX10_putNumber_39 rfl hl (by decide) rfl (fun ls hl => ?_)
                    refine lv_goto (tgt := 18) hx hb dX10_putNumber_40 (by decide) ?_
                    refine lv_iload_n hx hb dX10_putNumber_18 rfl (lv_at hl 0 rfl) ?_
                    refine lv_if_le (tgt := 43) hx hb dX10_putNumber_19 (by decide) (fun c9 => absurd c9 (by decide)) (fun c455 => ?_)
                    refine lv_aload_n hx hb dX10_putNumber_22 rfl (lv_at hl 1 rfl) ?_
                    refine lv_bipush (v := 48) hx hb dX10_putNumber_23 (by decide) ?_
                    refine lv_iload_n hx hb dX10_putNumber_25 rfl (lv_at hl 2 rfl) ?_
                    refine lv_iload_n hx hb dX10_putNumber_26 rfl (lv_at hl 0 rfl) ?_
                    refine lv_idiv hx hb dX10_putNumber_27 (by decide) ?_
                    refine lv_topi (fun yn456 eyn456 => ?_)
                    refine lv_bipush (v := 10) hx hb dX10_putNumber_28 (by decide) ?_
                    refine lv_irem hx hb dX10_putNumber_30 (by decide) ?_
                    refine lv_topi (fun yn457 eyn457 => ?_)
                    refine lv_iadd hx hb dX10_putNumber_31 ?_
                    refine lv_topi (fun yn458 eyn458 => ?_)
                    obtain ⟨hPc, hDc, hFc⟩ := PDq.cut (wc := [(oX10 w0 v0 v1 v2 v3 v4 g5 g6 (nI ed) g8 v9 (nI nb) g11 g12 v13 g14 g15 g16 g17 g18 g19 g20 g21 g22 g23 g24 g25 g26 v27 v28 v29 v30 v31 v32 v33 v34 v35 v36 v37 (nI qn451)), (v37, .inl (cA 0, 100, .inl fn452))]) hP hD hS hA [0, 1] (by decide) rfl
                    refine va_callv (va_runV (As := [.int yn458]) (rest := []) ⟨hx, hb, hml, hown, hts⟩ (r_put l D cA sa w0 ed nb qn451 v0 v1 v2 v3 v4 v9 v13 v27 v28 v29 v30 v31 v32 v33 v34 v35 v36 v37 g8 g11 g12 g14 g15 g16 g17 g18 g19 g20 g21 g22 g23 g24 g26 g5 g6 g25 fn452 yn458 H.size (by omega)) (cwV 1 hts gX10_putNumber_X10_put rfl rfl rfl (by decide +kernel) ⟨(Nat.le_of_ble_eq_true rfl), (Nat.le_of_ble_eq_true rfl)⟩) ⟨Wd.blind, va_recv hK hPc (ci := 11) (q0 := 0) rfl rfl, fun U hU hW => ⟨rfl, Wd.call hPc hDc hK hC hZ hS hFc U hU hW⟩⟩ rfl rfl hl.1 rfl (lv_room (Nat.le_of_ble_eq_true rfl)) dX10_putNumber_32 ⟨(Nat.le_of_ble_eq_true rfl), (Nat.le_of_ble_eq_true rfl)⟩) hS (fun q _ h => hFc q h) hFc (fun u t H1 locs ht hvm hw hB hz1 hk1 hS => ?_)
                    obtain ⟨qn459, fn460, hn461, hP1, hD1⟩ := hB
                    rw [ht] at hP1
                    obtain ⟨hP, hD⟩ := PDq.join (w := [(oX10 w0 v0 v1 v2 v3 v4 g5 g6 (nI ed) g8 v9 (nI nb) g11 g12 v13 g14 g15 g16 g17 g18 g19 g20 g21 g22 g23 g24 g25 g26 v27 v28 v29 v30 v31 v32 v33 v34 v35 v36 v37 (nI qn459)), (v37, .inl (cA 0, 100, .inl fn460))]) 0 hP hD [0, 1] [] rfl rfl (by decide) (by decide) hk1 hFc hP1 hD1 rfl
                    generalize H1 = H at hP hS ⊢
                    refine lv_iload_n hx hb dX10_putNumber_35 rfl (lv_at hl 0 rfl) ?_
                    refine lv_bipush (v := 10) hx hb dX10_putNumber_36 (by decide) ?_
                    refine lv_idiv hx hb dX10_putNumber_38 (by decide) ?_
                    refine lv_topi (fun yn462 eyn462 => ?_)
                    obtain rfl : yn462 = 10 := eyn462.trans (by first | rfl | decide +kernel)
                    refine lv_istore_n (lv' := [(2, .int 10), (0, .ref w0), (1, .int a)]) hx hb dX10_putNumber_39 rfl hl (by decide) rfl (fun ls hl => ?_)
                    refine lv_goto (tgt := 18) hx hb dX10_putNumber_40 (by decide) ?_
                    refine lv_iload_n hx hb dX10_putNumber_18 rfl (lv_at hl 0 rfl) ?_
                    refine lv_if_le (tgt := 43) hx hb dX10_putNumber_19 (by decide) (fun c9 => absurd c9 (by decide)) (fun c463 => ?_)
                    refine lv_aload_n hx hb dX10_putNumber_22 rfl (lv_at hl 1 rfl) ?_
                    refine lv_bipush (v := 48) hx hb dX10_putNumber_23 (by decide) ?_
                    refine lv_iload_n hx hb dX10_putNumber_25 rfl (lv_at hl 2 rfl) ?_
                    refine lv_iload_n hx hb dX10_putNumber_26 rfl (lv_at hl 0 rfl) ?_
                    refine lv_idiv hx hb dX10_putNumber_27 (by decide) ?_
                    refine lv_topi (fun yn464 eyn464 => ?_)
                    refine lv_bipush (v := 10) hx hb dX10_putNumber_28 (by decide) ?_
                    refine lv_irem hx hb dX10_putNumber_30 (by decide) ?_
                    refine lv_topi (fun yn465 eyn465 => ?_)
                    refine lv_iadd hx hb dX10_putNumber_31 ?_
                    refine lv_topi (fun yn466 eyn466 => ?_)
                    obtain ⟨hPc, hDc, hFc⟩ := PDq.cut (wc := [(oX10 w0 v0 v1 v2 v3 v4 g5 g6 (nI ed) g8 v9 (nI nb) g11 g12 v13 g14 g15 g16 g17 g18 g19 g20 g21 g22 g23 g24 g25 g26 v27 v28 v29 v30 v31 v32 v33 v34 v35 v36 v37 (nI qn459)), (v37, .inl (cA 0, 100, .inl fn460))]) hP hD hS hA [0, 1] (by decide) rfl
                    refine va_callv (va_runV (As := [.int yn466]) (rest := []) ⟨hx, hb, hml, hown, hts⟩ (r_put l D cA sa w0 ed nb qn459 v0 v1 v2 v3 v4 v9 v13 v27 v28 v29 v30 v31 v32 v33 v34 v35 v36 v37 g8 g11 g12 g14 g15 g16 g17 g18 g19 g20 g21 g22 g23 g24 g26 g5 g6 g25 fn460 yn466 H.size (by omega)) (cwV 1 hts gX10_putNumber_X10_put rfl rfl rfl (by decide +kernel) ⟨(Nat.le_of_ble_eq_true rfl), (Nat.le_of_ble_eq_true rfl)⟩) ⟨Wd.blind, va_recv hK hPc (ci := 11) (q0 := 0) rfl rfl, fun U hU hW => ⟨rfl, Wd.call hPc hDc hK hC hZ hS hFc U hU hW⟩⟩ rfl rfl hl.1 rfl (lv_room (Nat.le_of_ble_eq_true rfl)) dX10_putNumber_32 ⟨(Nat.le_of_ble_eq_true rfl), (Nat.le_of_ble_eq_true rfl)⟩) hS (fun q _ h => hFc q h) hFc (fun u t H1 locs ht hvm hw hB hz1 hk1 hS => ?_)
                    obtain ⟨qn467, fn468, hn469, hP1, hD1⟩ := hB
                    rw [ht] at hP1
                    obtain ⟨hP, hD⟩ := PDq.join (w := [(oX10 w0 v0 v1 v2 v3 v4 g5 g6 (nI ed) g8 v9 (nI nb) g11 g12 v13 g14 g15 g16 g17 g18 g19 g20 g21 g22 g23 g24 g25 g26 v27 v28 v29 v30 v31 v32 v33 v34 v35 v36 v37 (nI qn467)), (v37, .inl (cA 0, 100, .inl fn468))]) 0 hP hD [0, 1] [] rfl rfl (by decide) (by decide) hk1 hFc hP1 hD1 rfl
                    generalize H1 = H at hP hS ⊢
                    refine lv_iload_n hx hb dX10_putNumber_35 rfl (lv_at hl 0 rfl) ?_
                    refine lv_bipush (v := 10) hx hb dX10_putNumber_36 (by decide) ?_
                    refine lv_idiv hx hb dX10_putNumber_38 (by decide) ?_
                    refine lv_topi (fun yn470 eyn470 => ?_)
                    obtain rfl : yn470 = 1 := eyn470.trans (by first | rfl | decide +kernel)
                    refine lv_istore_n (lv' := [(2, .int 1), (0, .ref w0), (1, .int a)]) hx hb dX10_putNumber_39 rfl hl (by decide) rfl (fun ls hl => ?_)
                    refine lv_goto (tgt := 18) hx hb dX10_putNumber_40 (by decide) ?_
                    refine lv_iload_n hx hb dX10_putNumber_18 rfl (lv_at hl 0 rfl) ?_
                    refine lv_if_le (tgt := 43) hx hb dX10_putNumber_19 (by decide) (fun c9 => absurd c9 (by decide)) (fun c471 => ?_)
                    refine lv_aload_n hx hb dX10_putNumber_22 rfl (lv_at hl 1 rfl) ?_
                    refine lv_bipush (v := 48) hx hb dX10_putNumber_23 (by decide) ?_
                    refine lv_iload_n hx hb dX10_putNumber_25 rfl (lv_at hl 2 rfl) ?_
                    refine lv_iload_n hx hb dX10_putNumber_26 rfl (lv_at hl 0 rfl) ?_
                    refine lv_idiv hx hb dX10_putNumber_27 (by decide) ?_
                    refine lv_topi (fun yn472 eyn472 => ?_)
                    refine lv_bipush (v := 10) hx hb dX10_putNumber_28 (by decide) ?_
                    refine lv_irem hx hb dX10_putNumber_30 (by decide) ?_
                    refine lv_topi (fun yn473 eyn473 => ?_)
                    refine lv_iadd hx hb dX10_putNumber_31 ?_
                    refine lv_topi (fun yn474 eyn474 => ?_)
                    obtain ⟨hPc, hDc, hFc⟩ := PDq.cut (wc := [(oX10 w0 v0 v1 v2 v3 v4 g5 g6 (nI ed) g8 v9 (nI nb) g11 g12 v13 g14 g15 g16 g17 g18 g19 g20 g21 g22 g23 g24 g25 g26 v27 v28 v29 v30 v31 v32 v33 v34 v35 v36 v37 (nI qn467)), (v37, .inl (cA 0, 100, .inl fn468))]) hP hD hS hA [0, 1] (by decide) rfl
                    refine va_callv (va_runV (As := [.int yn474]) (rest := []) ⟨hx, hb, hml, hown, hts⟩ (r_put l D cA sa w0 ed nb qn467 v0 v1 v2 v3 v4 v9 v13 v27 v28 v29 v30 v31 v32 v33 v34 v35 v36 v37 g8 g11 g12 g14 g15 g16 g17 g18 g19 g20 g21 g22 g23 g24 g26 g5 g6 g25 fn468 yn474 H.size (by omega)) (cwV 1 hts gX10_putNumber_X10_put rfl rfl rfl (by decide +kernel) ⟨(Nat.le_of_ble_eq_true rfl), (Nat.le_of_ble_eq_true rfl)⟩) ⟨Wd.blind, va_recv hK hPc (ci := 11) (q0 := 0) rfl rfl, fun U hU hW => ⟨rfl, Wd.call hPc hDc hK hC hZ hS hFc U hU hW⟩⟩ rfl rfl hl.1 rfl (lv_room (Nat.le_of_ble_eq_true rfl)) dX10_putNumber_32 ⟨(Nat.le_of_ble_eq_true rfl), (Nat.le_of_ble_eq_true rfl)⟩) hS (fun q _ h => hFc q h) hFc (fun u t H1 locs ht hvm hw hB hz1 hk1 hS => ?_)
                    obtain ⟨qn475, fn476, hn477, hP1, hD1⟩ := hB
                    rw [ht] at hP1
                    obtain ⟨hP, hD⟩ := PDq.join (w := [(oX10 w0 v0 v1 v2 v3 v4 g5 g6 (nI ed) g8 v9 (nI nb) g11 g12 v13 g14 g15 g16 g17 g18 g19 g20 g21 g22 g23 g24 g25 g26 v27 v28 v29 v30 v31 v32 v33 v34 v35 v36 v37 (nI qn475)), (v37, .inl (cA 0, 100, .inl fn476))]) 0 hP hD [0, 1] [] rfl rfl (by decide) (by decide) hk1 hFc hP1 hD1 rfl
                    generalize H1 = H at hP hS ⊢
                    refine lv_iload_n hx hb dX10_putNumber_35 rfl (lv_at hl 0 rfl) ?_
                    refine lv_bipush (v := 10) hx hb dX10_putNumber_36 (by decide) ?_
                    refine lv_idiv hx hb dX10_putNumber_38 (by decide) ?_
                    refine lv_topi (fun yn478 eyn478 => ?_)
                    obtain rfl : yn478 = 0 := eyn478.trans (by first | rfl | decide +kernel)
                    refine lv_istore_n (lv' := [(2, .int 0), (0, .ref w0), (1, .int a)]) hx hb dX10_putNumber_39 rfl hl (by decide) rfl (fun ls hl => ?_)
                    refine lv_goto (tgt := 18) hx hb dX10_putNumber_40 (by decide) ?_
                    refine lv_iload_n hx hb dX10_putNumber_18 rfl (lv_at hl 0 rfl) ?_
                    refine lv_if_le (tgt := 43) hx hb dX10_putNumber_19 (by decide) (fun c479 => ?_) (fun c9 => absurd c9 (by decide))
                    obtain ⟨hP9, hD9⟩ := PDq.sub (ws' := [(oX10 w0 v0 v1 v2 v3 v4 g5 g6 (nI ed) g8 v9 (nI nb) g11 g12 v13 g14 g15 g16 g17 g18 g19 g20 g21 g22 g23 g24 g25 g26 v27 v28 v29 v30 v31 v32 v33 v34 v35 v36 v37 (nI qn475)), (v37, .inl (cA 0, 100, .inl fn476))]) hP hD [0, 1] (by decide) rfl
                    refine W.widen (k := 0) (n := 0) (Nat.le_of_ble_eq_true rfl) (Nat.le_of_ble_eq_true rfl) ?_
                    exact (W.vret hx hb hr (fun t ht hW => ⟨⟨(), rfl, trivial, qn475, fn476, (by omega), by rw [ht]; exact hP9, hD9⟩, hS.F ht⟩) hS.2.2 dX10_putNumber_43)

