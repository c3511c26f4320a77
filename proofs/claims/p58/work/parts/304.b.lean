set_option maxHeartbeats 4000000 in
set_option maxRecDepth 100000 in
/-- reference: graceLeft -/
theorem r_graceLeft (l : Launch) (D : va_G) (cA : Nat → ClassId) (sa : Nat → Nat) (w0 : Nat) (ed : Nat) (nb : Nat) (ol : Nat) (v0 : Nat) (v1 : Nat) (v2 : Nat) (v3 : Nat) (v4 : Nat) (v9 : Nat) (v13 : Nat) (v27 : Nat) (v28 : Nat) (v29 : Nat) (v30 : Nat) (v31 : Nat) (v32 : Nat) (v33 : Nat) (v34 : Nat) (v35 : Nat) (v36 : Nat) (v37 : Nat) (g8 : Int32) (g11 : Int32) (g12 : Int32) (g14 : Int32) (g15 : Int32) (g16 : Int32) (g17 : Int32) (g18 : Int32) (g19 : Int32) (g20 : Int32) (g21 : Int32) (g22 : Int32) (g23 : Int32) (g24 : Int32) (g26 : Int32) (g5 : Int64) (g6 : Int64) (g25 : Int64) (cn : Nat) (pq : Nat) (en : Nat) (dy : Nat) (fs : Nat → Int32) (i : Int32) (sz : Nat) (hcn : cn ≤ 10) (hpq : pq ≤ 8) (hen : en ≤ 60) (hdy : dy ≤ 20000) (hri : RI cn pq en dy fs) : Met l yX10_graceLeft wsX10_graceLeft ({ frames := 2, cells := 0, slots := 0, locals := 46 }) (va_Pc [.ref w0, .int i] (Wd D cA sa [(oX10 w0 v0 v1 v2 v3 v4 g5 g6 (nI ed) g8 v9 (nI nb) g11 g12 v13 g14 g15 g16 g17 g18 g19 g20 g21 g22 g23 g24 g25 g26 v27 v28 v29 v30 v31 v32 v33 v34 v35 v36 v37 (nI ol)), (v0, .inl (cA 0, 326, .inl fs))] sz)) (va_Qi (fun (r : Int32) (_ : Unit) => True) (fun (_ : Unit) t => ∃ zt : Int32, Wq D (va_A [(oX10 w0 v0 v1 v2 v3 v4 g5 g6 (nI ed) g8 v9 (nI nb) g11 g12 v13 g14 g15 g16 g17 g18 g19 g20 g21 g22 g23 g24 g25 g26 v27 v28 v29 v30 v31 v32 v33 v34 v35 v36 v37 (nI ol)), (v0, .inl (cA 0, 326, .inl fs))] sz) [(oX10 w0 v0 v1 v2 v3 v4 g5 g6 (nI ed) zt v9 (nI nb) g11 g12 v13 g14 g15 g16 g17 g18 g19 g20 g21 g22 g23 g24 g25 g26 v27 v28 v29 v30 v31 v32 v33 v34 v35 v36 v37 (nI ol)), (v0, .inl (cA 0, 326, .inl fs))] t) (va_A [(oX10 w0 v0 v1 v2 v3 v4 g5 g6 (nI ed) g8 v9 (nI nb) g11 g12 v13 g14 g15 g16 g17 g18 g19 g20 g21 g22 g23 g24 g25 g26 v27 v28 v29 v30 v31 v32 v33 v34 v35 v36 v37 (nI ol)), (v0, .inl (cA 0, 326, .inl fs))] sz)) 0 0 (va_A [(oX10 w0 v0 v1 v2 v3 v4 g5 g6 (nI ed) g8 v9 (nI nb) g11 g12 v13 g14 g15 g16 g17 g18 g19 g20 g21 g22 g23 g24 g25 g26 v27 v28 v29 v30 v31 v32 v33 v34 v35 v36 v37 (nI ol)), (v0, .inl (cA 0, 326, .inl fs))] sz) := by
  refine Met.ofW (cc := cX10_graceLeft) (maxL := 2) (ret := (some .int)) (by decide) rfl ?_
  intro p e s m args below meth c s₁ B hml hv
  obtain ⟨rfl, hsz, hP, hK, hD0, hC, hZ⟩ := hv
  have hx := B.exec
  have hb := B.bytes
  have hr := B.returns
  have hts := atoms_spec (ws := wsX10_graceLeft) B.pre
  have hown : s.vm.findClass RX10 = some m.cls := findClass_of_methodNamed B.named
  have hlocks := B.notSynchronized
  subst hsz
  have hD := hD0.self (sz := s.heap.size)
  generalize hAe : va_A [(oX10 w0 v0 v1 v2 v3 v4 g5 g6 (nI ed) g8 v9 (nI nb) g11 g12 v13 g14 g15 g16 g17 g18 g19 g20 g21 g22 g23 g24 g25 g26 v27 v28 v29 v30 v31 v32 v33 v34 v35 v36 v37 (nI ol)), (v0, .inl (cA 0, 326, .inl fs))] s.heap.size = A at hD hZ ⊢
  have hA : ∀ q : Nat, s.heap.size ≤ q → A q := fun q h => by rw [← hAe]; exact Or.inr h
  have hS : va_S A s.heap s.heap [] := va_S.rf
  have hP : va_P D vwCl [(oX10 w0 v0 v1 v2 v3 v4 g5 g6 (nI ed) g8 v9 (nI nb) g11 g12 v13 g14 g15 g16 g17 g18 g19 g20 g21 g22 g23 g24 g25 g26 v27 v28 v29 v30 v31 v32 v33 v34 v35 v36 v37 (nI ol)), (v0, .inl (cA 0, 326, .inl fs))] s.heap := hP
  have hl := lv_entry ([.ref w0, .int i]) (n := 2) (Nat.le_of_ble_eq_true rfl)
  rw [lg_entry_eq]
  generalize (lg_sl ([.ref w0, .int i]) ++ List.replicate (2 - (lg_sl ([.ref w0, .int i])).length) Slot.unset).toArray = ls at hl ⊢
  have hl : lv_has ls 2 [(0, .ref w0), (1, .int i)] := hl
  have inX10 : ∀ w ∈ u_ws RX10 TX10 39, w ∈ wsX10_graceLeft := by decide +kernel
  refine lv_aload_n hx hb dX10_graceLeft_0 rfl (lv_at hl 0 rfl) ?_
  refine lv_aload_n hx hb dX10_graceLeft_1 rfl (lv_at hl 0 rfl) ?_
  refine lv_iload_n hx hb dX10_graceLeft_2 rfl (lv_at hl 1 rfl) ?_
  obtain ⟨hPc, hDc, hFc⟩ := PDq.cut (wc := [(oX10 w0 v0 v1 v2 v3 v4 g5 g6 (nI ed) g8 v9 (nI nb) g11 g12 v13 g14 g15 g16 g17 g18 g19 g20 g21 g22 g23 g24 g25 g26 v27 v28 v29 v30 v31 v32 v33 v34 v35 v36 v37 (nI ol)), (v0, .inl (cA 0, 326, .inl fs))]) hP hD hS hA [0, 1] (by decide) rfl
  refine va_calli (va_runV (As := [.int i]) (rest := [.ref w0]) ⟨hx, hb, hml, hown, hts⟩ (r_isMilestone l D cA sa w0 ed nb ol v0 v1 v2 v3 v4 v9 v13 v27 v28 v29 v30 v31 v32 v33 v34 v35 v36 v37 g8 g11 g12 g14 g15 g16 g17 g18 g19 g20 g21 g22 g23 g24 g26 g5 g6 g25 cn pq en dy fs i s.heap.size hcn hpq hen hdy hri) (cwV 1 hts gX10_graceLeft_X10_isMilestone rfl rfl rfl (by decide +kernel) ⟨(Nat.le_of_ble_eq_true rfl), (Nat.le_of_ble_eq_true rfl)⟩) ⟨Wd.blind, va_recv hK hPc (ci := 11) (q0 := 0) rfl rfl, fun U hU hW => ⟨rfl, Wd.call hPc hDc hK hC hZ hS hFc U hU hW⟩⟩ rfl rfl hl.1 rfl (lv_room (Nat.le_of_ble_eq_true rfl)) dX10_graceLeft_3 ⟨(Nat.le_of_ble_eq_true rfl), (Nat.le_of_ble_eq_true rfl)⟩) hS (fun q _ h => hFc q h) hFc (fun rn1 u t H1 locs ht hvm hw hB hz1 hk1 hS => ?_)
  obtain ⟨hP1, hD1⟩ := hB
  rw [ht] at hP1
  obtain ⟨hP, hD⟩ := PDq.join (w := [(oX10 w0 v0 v1 v2 v3 v4 g5 g6 (nI ed) g8 v9 (nI nb) g11 g12 v13 g14 g15 g16 g17 g18 g19 g20 g21 g22 g23 g24 g25 g26 v27 v28 v29 v30 v31 v32 v33 v34 v35 v36 v37 (nI ol)), (v0, .inl (cA 0, 326, .inl fs))]) 0 hP hD [0, 1] [] rfl rfl (by decide) (by decide) hk1 hFc hP1 hD1 rfl
  generalize H1 = H at hP hS ⊢
  rcases hw with ⟨hr9, hn2⟩ | hr9
  · skip
    subst hr9
    obtain ⟨kn3, hn4, hn5⟩ := hn2
    rw [hn5] at hl
    have hl : lv_has ls 2 [(0, .ref w0), (1, .int (nI kn3))] := hl
    obtain ⟨hPc, hDc, hFc⟩ := PDq.cut (wc := [(oX10 w0 v0 v1 v2 v3 v4 g5 g6 (nI ed) g8 v9 (nI nb) g11 g12 v13 g14 g15 g16 g17 g18 g19 g20 g21 g22 g23 g24 g25 g26 v27 v28 v29 v30 v31 v32 v33 v34 v35 v36 v37 (nI ol))]) hP hD hS hA [0] (by decide) rfl
    refine va_calli (va_runV (As := [.int 1]) (rest := []) ⟨hx, hb, hml, hown, hts⟩ (r_good1 l D cA sa w0 ed nb ol v0 v1 v2 v3 v4 v9 v13 v27 v28 v29 v30 v31 v32 v33 v34 v35 v36 v37 g8 g11 g12 g14 g15 g16 g17 g18 g19 g20 g21 g22 g23 g24 g26 g5 g6 g25 H.size) (cwV 1 hts gX10_graceLeft_X10_good rfl rfl rfl (by decide +kernel) ⟨(Nat.le_of_ble_eq_true rfl), (Nat.le_of_ble_eq_true rfl)⟩) ⟨Wd.blind, va_recv hK hPc (ci := 11) (q0 := 0) rfl rfl, fun U hU hW => ⟨rfl, Wd.call hPc hDc hK hC hZ hS hFc U hU hW⟩⟩ rfl rfl hl.1 rfl (lv_room (Nat.le_of_ble_eq_true rfl)) dX10_graceLeft_6 ⟨(Nat.le_of_ble_eq_true rfl), (Nat.le_of_ble_eq_true rfl)⟩) hS (fun q _ h => hFc q h) hFc (fun rn6 u t H1 locs ht hvm hw hB hz1 hk1 hS => ?_)
    obtain ⟨hP1, hD1⟩ := hB
    rw [ht] at hP1
    obtain ⟨hP, hD⟩ := PDq.join (w := [(v0, .inl (cA 0, 326, .inl fs)), (oX10 w0 v0 v1 v2 v3 v4 g5 g6 (nI ed) 0 v9 (nI nb) g11 g12 v13 g14 g15 g16 g17 g18 g19 g20 g21 g22 g23 g24 g25 g26 v27 v28 v29 v30 v31 v32 v33 v34 v35 v36 v37 (nI ol))]) 1 hP hD [0] [1] rfl rfl (by decide) (by decide) hk1 hFc hP1 hD1 rfl
    generalize H1 = H at hP hS ⊢
    obtain rfl : rn6 = 1 := hw
    refine lv_if_ne (tgt := 14) hx hb dX10_graceLeft_9 (by decide) (fun c7 => ?_) (fun c9 => absurd c9 (by decide))
    refine lv_aload_n hx hb dX10_graceLeft_14 rfl (lv_at hl 0 rfl) ?_
    refine lv_iload_n hx hb dX10_graceLeft_15 rfl (lv_at hl 1 rfl) ?_
    refine lv_iconst (v := 2) hx hb dX10_graceLeft_16 (by decide) ?_
    obtain ⟨hPc, hDc, hFc⟩ := PDq.cut (wc := [(oX10 w0 v0 v1 v2 v3 v4 g5 g6 (nI ed) 0 v9 (nI nb) g11 g12 v13 g14 g15 g16 g17 g18 g19 g20 g21 g22 g23 g24 g25 g26 v27 v28 v29 v30 v31 v32 v33 v34 v35 v36 v37 (nI ol)), (v0, .inl (cA 0, 326, .inl fs))]) hP hD hS hA [1, 0] (by decide) rfl
    refine va_calli (va_runV (As := [.int (nI kn3), .int 2]) (rest := []) ⟨hx, hb, hml, hown, hts⟩ (r_of l D cA sa w0 ed nb ol v0 v1 v2 v3 v4 v9 v13 v27 v28 v29 v30 v31 v32 v33 v34 v35 v36 v37 0 g11 g12 g14 g15 g16 g17 g18 g19 g20 g21 g22 g23 g24 g26 g5 g6 g25 fs kn3 2 H.size (by omega) (by omega)) (cwV 2 hts gX10_graceLeft_X10_of rfl rfl rfl (by decide +kernel) ⟨(Nat.le_of_ble_eq_true rfl), (Nat.le_of_ble_eq_true rfl)⟩) ⟨Wd.blind, va_recv hK hPc (ci := 11) (q0 := 0) rfl rfl, fun U hU hW => ⟨rfl, Wd.call hPc hDc hK hC hZ hS hFc U hU hW⟩⟩ rfl rfl hl.1 rfl (lv_room (Nat.le_of_ble_eq_true rfl)) dX10_graceLeft_17 ⟨(Nat.le_of_ble_eq_true rfl), (Nat.le_of_ble_eq_true rfl)⟩) hS (fun q _ h => hFc q h) hFc (fun rn8 u t H1 locs ht hvm hw hB hz1 hk1 hS => ?_)
    obtain ⟨hP1, hD1⟩ := hB
    rw [ht] at hP1
    obtain ⟨hP, hD⟩ := PDq.join (w := [(oX10 w0 v0 v1 v2 v3 v4 g5 g6 (nI ed) 0 v9 (nI nb) g11 g12 v13 g14 g15 g16 g17 g18 g19 g20 g21 g22 g23 g24 g25 g26 v27 v28 v29 v30 v31 v32 v33 v34 v35 v36 v37 (nI ol)), (v0, .inl (cA 0, 326, .inl fs))]) 0 hP hD [1, 0] [] rfl rfl (by decide) (by decide) hk1 hFc hP1 hD1 rfl
    generalize H1 = H at hP hS ⊢
    obtain rfl : rn8 = (fs (16 + 7 * kn3 + 2)) := hw
    refine lv_iconst (v := 1) hx hb dX10_graceLeft_20 (by decide) ?_
    refine lv_icmp_ne (tgt := 51) hx hb dX10_graceLeft_21 (by decide) (fun c9 => ?_) (fun c9 => ?_)
    · skip
      refine lv_iconst (v := (-1)) hx hb dX10_graceLeft_51 (by decide) ?_
      obtain ⟨hP9, hD9⟩ := PDq.sub (ws' := [(oX10 w0 v0 v1 v2 v3 v4 g5 g6 (nI ed) 0 v9 (nI nb) g11 g12 v13 g14 g15 g16 g17 g18 g19 g20 g21 g22 g23 g24 g25 g26 v27 v28 v29 v30 v31 v32 v33 v34 v35 v36 v37 (nI ol)), (v0, .inl (cA 0, 326, .inl fs))]) hP hD [0, 1] (by decide) rfl
      refine W.widen (k := 0) (n := 0) (Nat.le_of_ble_eq_true rfl) (Nat.le_of_ble_eq_true rfl) ?_
      exact (W.iret (v := (-1)) hx hb hr (fun t ht hW => ⟨⟨(-1), (), rfl, trivial, 0, by rw [ht]; exact hP9, hD9⟩, hS.F ht⟩) hS.2.2 dX10_graceLeft_52)
    · skip
      refine lv_iconst (v := 0) hx hb dX10_graceLeft_24 (by decide) ?_
      refine lv_aload_n hx hb dX10_graceLeft_25 rfl (lv_at hl 0 rfl) ?_
      refine lv_iload_n hx hb dX10_graceLeft_26 rfl (lv_at hl 1 rfl) ?_
      refine lv_iconst (v := 4) hx hb dX10_graceLeft_27 (by decide) ?_
      obtain ⟨hPc, hDc, hFc⟩ := PDq.cut (wc := [(oX10 w0 v0 v1 v2 v3 v4 g5 g6 (nI ed) 0 v9 (nI nb) g11 g12 v13 g14 g15 g16 g17 g18 g19 g20 g21 g22 g23 g24 g25 g26 v27 v28 v29 v30 v31 v32 v33 v34 v35 v36 v37 (nI ol)), (v0, .inl (cA 0, 326, .inl fs))]) hP hD hS hA [0, 1] (by decide) rfl
      refine va_calli (va_runV (As := [.int (nI kn3), .int 4]) (rest := [.int 0]) ⟨hx, hb, hml, hown, hts⟩ (r_of l D cA sa w0 ed nb ol v0 v1 v2 v3 v4 v9 v13 v27 v28 v29 v30 v31 v32 v33 v34 v35 v36 v37 0 g11 g12 g14 g15 g16 g17 g18 g19 g20 g21 g22 g23 g24 g26 g5 g6 g25 fs kn3 4 H.size (by omega) (by omega)) (cwV 2 hts gX10_graceLeft_X10_of rfl rfl rfl (by decide +kernel) ⟨(Nat.le_of_ble_eq_true rfl), (Nat.le_of_ble_eq_true rfl)⟩) ⟨Wd.blind, va_recv hK hPc (ci := 11) (q0 := 0) rfl rfl, fun U hU hW => ⟨rfl, Wd.call hPc hDc hK hC hZ hS hFc U hU hW⟩⟩ rfl rfl hl.1 rfl (lv_room (Nat.le_of_ble_eq_true rfl)) dX10_graceLeft_28 ⟨(Nat.le_of_ble_eq_true rfl), (Nat.le_of_ble_eq_true rfl)⟩) hS (fun q _ h => hFc q h) hFc (fun rn10 u t H1 locs ht hvm hw hB hz1 hk1 hS => ?_)
      obtain ⟨hP1, hD1⟩ := hB
      rw [ht] at hP1
      obtain ⟨hP, hD⟩ := PDq.join (w := [(oX10 w0 v0 v1 v2 v3 v4 g5 g6 (nI ed) 0 v9 (nI nb) g11 g12 v13 g14 g15 g16 g17 g18 g19 g20 g21 g22 g23 g24 g25 g26 v27 v28 v29 v30 v31 v32 v33 v34 v35 v36 v37 (nI ol)), (v0, .inl (cA 0, 326, .inl fs))]) 0 hP hD [0, 1] [] rfl rfl (by decide) (by decide) hk1 hFc hP1 hD1 rfl
      generalize H1 = H at hP hS ⊢
      obtain rfl : rn10 = (fs (16 + 7 * kn3 + 4)) := hw
      refine lv_aload_n hx hb dX10_graceLeft_31 rfl (lv_at hl 0 rfl) ?_
      refine va_get (D := D) (ci := 11) (v := .ref v0) (C := RX10) (T := TX10) (N := 39) hx hb hts inX10 hown hK hP 0 rfl rfl 0 (by decide) (hts (.fieldLink RX10 7 "EscrowDeskModel" "s" "[I") (by decide +kernel)) (fun _ h9 => h9) rfl dX10_graceLeft_32 ?_
      refine lv_iconst (v := 3) hx hb dX10_graceLeft_35 (by decide) ?_
      refine va_iald hx hb hK hP 1 0 rfl rfl (vp_in_iff.mpr (by decide)) dX10_graceLeft_36 ?_
      refine lv_topi (fun yn11 eyn11 => ?_)
      refine lv_iadd hx hb dX10_graceLeft_37 ?_
      refine lv_topi (fun yn12 eyn12 => ?_)
      refine lv_aload_n hx hb dX10_graceLeft_38 rfl (lv_at hl 0 rfl) ?_
      refine va_get (D := D) (ci := 11) (v := .ref v0) (C := RX10) (T := TX10) (N := 39) hx hb hts inX10 hown hK hP 0 rfl rfl 0 (by decide) (hts (.fieldLink RX10 7 "EscrowDeskModel" "s" "[I") (by decide +kernel)) (fun _ h9 => h9) rfl dX10_graceLeft_39 ?_
      refine lv_iconst (v := 4) hx hb dX10_graceLeft_42 (by decide) ?_
      refine va_iald hx hb hK hP 1 0 rfl rfl (vp_in_iff.mpr (by decide)) dX10_graceLeft_43 ?_
      refine lv_topi (fun yn13 eyn13 => ?_)
      obtain rfl : yn13 = (nI dy) := eyn13.trans hri.2.2.2.1
      refine lv_isub hx hb dX10_graceLeft_44 ?_
      refine lv_topi (fun yn14 eyn14 => ?_)
      refine va_mmax hx hb (by rw [hml]; exact hl.1.symm) hown (hts (.methodLink RX10 345 Lib.Math.max.name) (by decide +kernel)) (hts (.static Lib.Math.max.name) (by decide +kernel)) (hts (.initialized "java/lang/Math") (by decide +kernel)) (hts (.code Lib.Math.max.name Lib.Math.max.code 2 (some .int)) (by decide +kernel)) (Nat.le_of_ble_eq_true rfl) (Nat.le_of_ble_eq_true rfl) (Nat.le_of_ble_eq_true rfl) (Nat.le_of_ble_eq_true rfl) dX10_graceLeft_45 ?_
      refine lv_topi (fun yn15 eyn15 => ?_)
      refine lv_goto (tgt := 52) hx hb dX10_graceLeft_48 (by decide) ?_
      obtain ⟨hP9, hD9⟩ := PDq.sub (ws' := [(oX10 w0 v0 v1 v2 v3 v4 g5 g6 (nI ed) 0 v9 (nI nb) g11 g12 v13 g14 g15 g16 g17 g18 g19 g20 g21 g22 g23 g24 g25 g26 v27 v28 v29 v30 v31 v32 v33 v34 v35 v36 v37 (nI ol)), (v0, .inl (cA 0, 326, .inl fs))]) hP hD [0, 1] (by decide) rfl
      refine W.widen (k := 0) (n := 0) (Nat.le_of_ble_eq_true rfl) (Nat.le_of_ble_eq_true rfl) ?_
      exact (W.iret (v := yn15) hx hb hr (fun t ht hW => ⟨⟨yn15, (), rfl, trivial, 0, by rw [ht]; exact hP9, hD9⟩, hS.F ht⟩) hS.2.2 dX10_graceLeft_52)
  · skip
    subst hr9
    obtain ⟨hPc, hDc, hFc⟩ := PDq.cut (wc := [(oX10 w0 v0 v1 v2 v3 v4 g5 g6 (nI ed) g8 v9 (nI nb) g11 g12 v13 g14 g15 g16 g17 g18 g19 g20 g21 g22 g23 g24 g25 g26 v27 v28 v29 v30 v31 v32 v33 v34 v35 v36 v37 (nI ol))]) hP hD hS hA [0] (by decide) rfl
    refine va_calli (va_runV (As := [.int 0]) (rest := []) ⟨hx, hb, hml, hown, hts⟩ (r_good0 l D cA sa w0 ed nb ol v0 v1 v2 v3 v4 v9 v13 v27 v28 v29 v30 v31 v32 v33 v34 v35 v36 v37 g8 g11 g12 g14 g15 g16 g17 g18 g19 g20 g21 g22 g23 g24 g26 g5 g6 g25 H.size) (cwV 1 hts gX10_graceLeft_X10_good rfl rfl rfl (by decide +kernel) ⟨(Nat.le_of_ble_eq_true rfl), (Nat.le_of_ble_eq_true rfl)⟩) ⟨Wd.blind, va_recv hK hPc (ci := 11) (q0 := 0) rfl rfl, fun U hU hW => ⟨rfl, Wd.call hPc hDc hK hC hZ hS hFc U hU hW⟩⟩ rfl rfl hl.1 rfl (lv_room (Nat.le_of_ble_eq_true rfl)) dX10_graceLeft_6 ⟨(Nat.le_of_ble_eq_true rfl), (Nat.le_of_ble_eq_true rfl)⟩) hS (fun q _ h => hFc q h) hFc (fun rn16 u t H1 locs ht hvm hw hB hz1 hk1 hS => ?_)
    obtain ⟨hP1, hD1⟩ := hB
    rw [ht] at hP1
    obtain ⟨hP, hD⟩ := PDq.join (w := [(v0, .inl (cA 0, 326, .inl fs)), (oX10 w0 v0 v1 v2 v3 v4 g5 g6 (nI ed) 1 v9 (nI nb) g11 g12 v13 g14 g15 g16 g17 g18 g19 g20 g21 g22 g23 g24 g25 g26 v27 v28 v29 v30 v31 v32 v33 v34 v35 v36 v37 (nI ol))]) 1 hP hD [0] [1] rfl rfl (by decide) (by decide) hk1 hFc hP1 hD1 rfl
    generalize H1 = H at hP hS ⊢
    obtain rfl : rn16 = 0 := hw
    refine lv_if_ne (tgt := 14) hx hb dX10_graceLeft_9 (by decide) (fun c9 => absurd c9 (by decide)) (fun c17 => ?_)
    refine lv_iconst (v := 0) hx hb dX10_graceLeft_12 (by decide) ?_
    obtain ⟨hP9, hD9⟩ := PDq.sub (ws' := [(oX10 w0 v0 v1 v2 v3 v4 g5 g6 (nI ed) 1 v9 (nI nb) g11 g12 v13 g14 g15 g16 g17 g18 g19 g20 g21 g22 g23 g24 g25 g26 v27 v28 v29 v30 v31 v32 v33 v34 v35 v36 v37 (nI ol)), (v0, .inl (cA 0, 326, .inl fs))]) hP hD [1, 0] (by decide) rfl
    refine W.widen (k := 0) (n := 0) (Nat.le_of_ble_eq_true rfl) (Nat.le_of_ble_eq_true rfl) ?_
    exact (W.iret (v := 0) hx hb hr (fun t ht hW => ⟨⟨0, (), rfl, trivial, 1, by rw [ht]; exact hP9, hD9⟩, hS.F ht⟩) hS.2.2 dX10_graceLeft_13)

set_option maxHeartbeats 4000000 in
set_option maxRecDepth 100000 in
/-- reference: isSubmitted -/
theorem r_isSubmitted (l : Launch) (D : va_G) (cA : Nat → ClassId) (sa : Nat → Nat) (w0 : Nat) (ed : Nat) (nb : Nat) (ol : Nat) (v0 : Nat) (v1 : Nat) (v2 : Nat) (v3 : Nat) (v4 : Nat) (v9 : Nat) (v13 : Nat) (v27 : Nat) (v28 : Nat) (v29 : Nat) (v30 : Nat) (v31 : Nat) (v32 : Nat) (v33 : Nat) (v34 : Nat) (v35 : Nat) (v36 : Nat) (v37 : Nat) (g8 : Int32) (g11 : Int32) (g12 : Int32) (g14 : Int32) (g15 : Int32) (g16 : Int32) (g17 : Int32) (g18 : Int32) (g19 : Int32) (g20 : Int32) (g21 : Int32) (g22 : Int32) (g23 : Int32) (g24 : Int32) (g26 : Int32) (g5 : Int64) (g6 : Int64) (g25 : Int64) (cn : Nat) (pq : Nat) (en : Nat) (dy : Nat) (fs : Nat → Int32) (i : Int32) (sz : Nat) (hcn : cn ≤ 10) (hpq : pq ≤ 8) (hen : en ≤ 60) (hdy : dy ≤ 20000) (hri : RI cn pq en dy fs) : Met l yX10_isSubmitted wsX10_isSubmitted ({ frames := 2, cells := 0, slots := 0, locals := 46 }) (va_Pc [.ref w0, .int i] (Wd D cA sa [(oX10 w0 v0 v1 v2 v3 v4 g5 g6 (nI ed) g8 v9 (nI nb) g11 g12 v13 g14 g15 g16 g17 g18 g19 g20 g21 g22 g23 g24 g25 g26 v27 v28 v29 v30 v31 v32 v33 v34 v35 v36 v37 (nI ol)), (v0, .inl (cA 0, 326, .inl fs))] sz)) (va_Qi (fun (r : Int32) (_ : Unit) => r = 0 ∨ r = 1) (fun (_ : Unit) t => ∃ zt : Int32, Wq D (va_A [(oX10 w0 v0 v1 v2 v3 v4 g5 g6 (nI ed) g8 v9 (nI nb) g11 g12 v13 g14 g15 g16 g17 g18 g19 g20 g21 g22 g23 g24 g25 g26 v27 v28 v29 v30 v31 v32 v33 v34 v35 v36 v37 (nI ol)), (v0, .inl (cA 0, 326, .inl fs))] sz) [(oX10 w0 v0 v1 v2 v3 v4 g5 g6 (nI ed) zt v9 (nI nb) g11 g12 v13 g14 g15 g16 g17 g18 g19 g20 g21 g22 g23 g24 g25 g26 v27 v28 v29 v30 v31 v32 v33 v34 v35 v36 v37 (nI ol)), (v0, .inl (cA 0, 326, .inl fs))] t) (va_A [(oX10 w0 v0 v1 v2 v3 v4 g5 g6 (nI ed) g8 v9 (nI nb) g11 g12 v13 g14 g15 g16 g17 g18 g19 g20 g21 g22 g23 g24 g25 g26 v27 v28 v29 v30 v31 v32 v33 v34 v35 v36 v37 (nI ol)), (v0, .inl (cA 0, 326, .inl fs))] sz)) 0 0 (va_A [(oX10 w0 v0 v1 v2 v3 v4 g5 g6 (nI ed) g8 v9 (nI nb) g11 g12 v13 g14 g15 g16 g17 g18 g19 g20 g21 g22 g23 g24 g25 g26 v27 v28 v29 v30 v31 v32 v33 v34 v35 v36 v37 (nI ol)), (v0, .inl (cA 0, 326, .inl fs))] sz) := by
  refine Met.ofW (cc := cX10_isSubmitted) (maxL := 2) (ret := (some .boolean)) (by decide) rfl ?_
  intro p e s m args below meth c s₁ B hml hv
  obtain ⟨rfl, hsz, hP, hK, hD0, hC, hZ⟩ := hv
  have hx := B.exec
  have hb := B.bytes
  have hr := B.returns
  have hts := atoms_spec (ws := wsX10_isSubmitted) B.pre
  have hown : s.vm.findClass RX10 = some m.cls := findClass_of_methodNamed B.named
  have hlocks := B.notSynchronized
  subst hsz
  have hD := hD0.self (sz := s.heap.size)
  generalize hAe : va_A [(oX10 w0 v0 v1 v2 v3 v4 g5 g6 (nI ed) g8 v9 (nI nb) g11 g12 v13 g14 g15 g16 g17 g18 g19 g20 g21 g22 g23 g24 g25 g26 v27 v28 v29 v30 v31 v32 v33 v34 v35 v36 v37 (nI ol)), (v0, .inl (cA 0, 326, .inl fs))] s.heap.size = A at hD hZ ⊢
  have hA : ∀ q : Nat, s.heap.size ≤ q → A q := fun q h => by rw [← hAe]; exact Or.inr h
  have hS : va_S A s.heap s.heap [] := va_S.rf
  have hP : va_P D vwCl [(oX10 w0 v0 v1 v2 v3 v4 g5 g6 (nI ed) g8 v9 (nI nb) g11 g12 v13 g14 g15 g16 g17 g18 g19 g20 g21 g22 g23 g24 g25 g26 v27 v28 v29 v30 v31 v32 v33 v34 v35 v36 v37 (nI ol)), (v0, .inl (cA 0, 326, .inl fs))] s.heap := hP
  have hl := lv_entry ([.ref w0, .int i]) (n := 2) (Nat.le_of_ble_eq_true rfl)
  rw [lg_entry_eq]
  generalize (lg_sl ([.ref w0, .int i]) ++ List.replicate (2 - (lg_sl ([.ref w0, .int i])).length) Slot.unset).toArray = ls at hl ⊢
  have hl : lv_has ls 2 [(0, .ref w0), (1, .int i)] := hl
  have inX10 : ∀ w ∈ u_ws RX10 TX10 39, w ∈ wsX10_isSubmitted := by decide +kernel
  refine lv_aload_n hx hb dX10_isSubmitted_0 rfl (lv_at hl 0 rfl) ?_
  refine lv_aload_n hx hb dX10_isSubmitted_1 rfl (lv_at hl 0 rfl) ?_
  refine lv_iload_n hx hb dX10_isSubmitted_2 rfl (lv_at hl 1 rfl) ?_
  obtain ⟨hPc, hDc, hFc⟩ := PDq.cut (wc := [(oX10 w0 v0 v1 v2 v3 v4 g5 g6 (nI ed) g8 v9 (nI nb) g11 g12 v13 g14 g15 g16 g17 g18 g19 g20 g21 g22 g23 g24 g25 g26 v27 v28 v29 v30 v31 v32 v33 v34 v35 v36 v37 (nI ol)), (v0, .inl (cA 0, 326, .inl fs))]) hP hD hS hA [0, 1] (by decide) rfl
  refine va_calli (va_runV (As := [.int i]) (rest := [.ref w0]) ⟨hx, hb, hml, hown, hts⟩ (r_isProof l D cA sa w0 ed nb ol v0 v1 v2 v3 v4 v9 v13 v27 v28 v29 v30 v31 v32 v33 v34 v35 v36 v37 g8 g11 g12 g14 g15 g16 g17 g18 g19 g20 g21 g22 g23 g24 g26 g5 g6 g25 cn pq en dy fs i s.heap.size hcn hpq hen hdy hri) (cwV 1 hts gX10_isSubmitted_X10_isProof rfl rfl rfl (by decide +kernel) ⟨(Nat.le_of_ble_eq_true rfl), (Nat.le_of_ble_eq_true rfl)⟩) ⟨Wd.blind, va_recv hK hPc (ci := 11) (q0 := 0) rfl rfl, fun U hU hW => ⟨rfl, Wd.call hPc hDc hK hC hZ hS hFc U hU hW⟩⟩ rfl rfl hl.1 rfl (lv_room (Nat.le_of_ble_eq_true rfl)) dX10_isSubmitted_3 ⟨(Nat.le_of_ble_eq_true rfl), (Nat.le_of_ble_eq_true rfl)⟩) hS (fun q _ h => hFc q h) hFc (fun rn1 u t H1 locs ht hvm hw hB hz1 hk1 hS => ?_)
  obtain ⟨hP1, hD1⟩ := hB
  rw [ht] at hP1
  obtain ⟨hP, hD⟩ := PDq.join (w := [(oX10 w0 v0 v1 v2 v3 v4 g5 g6 (nI ed) g8 v9 (nI nb) g11 g12 v13 g14 g15 g16 g17 g18 g19 g20 g21 g22 g23 g24 g25 g26 v27 v28 v29 v30 v31 v32 v33 v34 v35 v36 v37 (nI ol)), (v0, .inl (cA 0, 326, .inl fs))]) 0 hP hD [0, 1] [] rfl rfl (by decide) (by decide) hk1 hFc hP1 hD1 rfl
  generalize H1 = H at hP hS ⊢
  rcases hw with ⟨hr9, hn2⟩ | hr9
  · skip
    subst hr9
    obtain ⟨kn3, hn4, hn5⟩ := hn2
    rw [hn5] at hl
    have hl : lv_has ls 2 [(0, .ref w0), (1, .int (nI kn3))] := hl
    obtain ⟨hPc, hDc, hFc⟩ := PDq.cut (wc := [(oX10 w0 v0 v1 v2 v3 v4 g5 g6 (nI ed) g8 v9 (nI nb) g11 g12 v13 g14 g15 g16 g17 g18 g19 g20 g21 g22 g23 g24 g25 g26 v27 v28 v29 v30 v31 v32 v33 v34 v35 v36 v37 (nI ol))]) hP hD hS hA [0] (by decide) rfl
    refine va_calli (va_runV (As := [.int 1]) (rest := []) ⟨hx, hb, hml, hown, hts⟩ (r_good1 l D cA sa w0 ed nb ol v0 v1 v2 v3 v4 v9 v13 v27 v28 v29 v30 v31 v32 v33 v34 v35 v36 v37 g8 g11 g12 g14 g15 g16 g17 g18 g19 g20 g21 g22 g23 g24 g26 g5 g6 g25 H.size) (cwV 1 hts gX10_isSubmitted_X10_good rfl rfl rfl (by decide +kernel) ⟨(Nat.le_of_ble_eq_true rfl), (Nat.le_of_ble_eq_true rfl)⟩) ⟨Wd.blind, va_recv hK hPc (ci := 11) (q0 := 0) rfl rfl, fun U hU hW => ⟨rfl, Wd.call hPc hDc hK hC hZ hS hFc U hU hW⟩⟩ rfl rfl hl.1 rfl (lv_room (Nat.le_of_ble_eq_true rfl)) dX10_isSubmitted_6 ⟨(Nat.le_of_ble_eq_true rfl), (Nat.le_of_ble_eq_true rfl)⟩) hS (fun q _ h => hFc q h) hFc (fun rn6 u t H1 locs ht hvm hw hB hz1 hk1 hS => ?_)
    obtain ⟨hP1, hD1⟩ := hB
    rw [ht] at hP1
    obtain ⟨hP, hD⟩ := PDq.join (w := [(v0, .inl (cA 0, 326, .inl fs)), (oX10 w0 v0 v1 v2 v3 v4 g5 g6 (nI ed) 0 v9 (nI nb) g11 g12 v13 g14 g15 g16 g17 g18 g19 g20 g21 g22 g23 g24 g25 g26 v27 v28 v29 v30 v31 v32 v33 v34 v35 v36 v37 (nI ol))]) 1 hP hD [0] [1] rfl rfl (by decide) (by decide) hk1 hFc hP1 hD1 rfl
    generalize H1 = H at hP hS ⊢
    obtain rfl : rn6 = 1 := hw
    refine lv_if_eq (tgt := 31) hx hb dX10_isSubmitted_9 (by decide) (fun c9 => absurd c9 (by decide)) (fun c7 => ?_)
    refine lv_aload_n hx hb dX10_isSubmitted_12 rfl (lv_at hl 0 rfl) ?_
    refine va_get (D := D) (ci := 11) (v := .ref v0) (C := RX10) (T := TX10) (N := 39) hx hb hts inX10 hown hK hP 1 rfl rfl 0 (by decide) (hts (.fieldLink RX10 7 "EscrowDeskModel" "s" "[I") (by decide +kernel)) (fun _ h9 => h9) rfl dX10_isSubmitted_13 ?_
    refine lv_bipush (v := 12) hx hb dX10_isSubmitted_16 (by decide) ?_
    refine va_iald hx hb hK hP 0 0 rfl rfl (vp_in_iff.mpr (by decide)) dX10_isSubmitted_18 ?_
    refine lv_topi (fun yn8 eyn8 => ?_)
    refine lv_iload_n hx hb dX10_isSubmitted_19 rfl (lv_at hl 1 rfl) ?_
    refine lv_ishr hx hb dX10_isSubmitted_20 ?_
    refine lv_topi (fun yn9 eyn9 => ?_)
    refine lv_iconst (v := 1) hx hb dX10_isSubmitted_21 (by decide) ?_
    refine lv_iand hx hb dX10_isSubmitted_22 ?_
    refine lv_topi (fun yn10 eyn10 => ?_)
    refine lv_iconst (v := 1) hx hb dX10_isSubmitted_23 (by decide) ?_
    refine lv_icmp_ne (tgt := 31) hx hb dX10_isSubmitted_24 (by decide) (fun c11 => ?_) (fun c11 => ?_)
    · skip
      refine lv_iconst (v := 0) hx hb dX10_isSubmitted_31 (by decide) ?_
      obtain ⟨hP9, hD9⟩ := PDq.sub (ws' := [(oX10 w0 v0 v1 v2 v3 v4 g5 g6 (nI ed) 0 v9 (nI nb) g11 g12 v13 g14 g15 g16 g17 g18 g19 g20 g21 g22 g23 g24 g25 g26 v27 v28 v29 v30 v31 v32 v33 v34 v35 v36 v37 (nI ol)), (v0, .inl (cA 0, 326, .inl fs))]) hP hD [1, 0] (by decide) rfl
      refine W.widen (k := 0) (n := 0) (Nat.le_of_ble_eq_true rfl) (Nat.le_of_ble_eq_true rfl) ?_
      exact (W.zret (v := 0) hx hb hr (by first | rfl | decide) (fun t ht hW => ⟨⟨0, (), rfl, (by first | exact Or.inl rfl | exact Or.inr rfl), 0, by rw [ht]; exact hP9, hD9⟩, hS.F ht⟩) hS.2.2 dX10_isSubmitted_32)
    · skip
      refine lv_iconst (v := 1) hx hb dX10_isSubmitted_27 (by decide) ?_
      refine lv_goto (tgt := 32) hx hb dX10_isSubmitted_28 (by decide) ?_
      obtain ⟨hP9, hD9⟩ := PDq.sub (ws' := [(oX10 w0 v0 v1 v2 v3 v4 g5 g6 (nI ed) 0 v9 (nI nb) g11 g12 v13 g14 g15 g16 g17 g18 g19 g20 g21 g22 g23 g24 g25 g26 v27 v28 v29 v30 v31 v32 v33 v34 v35 v36 v37 (nI ol)), (v0, .inl (cA 0, 326, .inl fs))]) hP hD [1, 0] (by decide) rfl
      refine W.widen (k := 0) (n := 0) (Nat.le_of_ble_eq_true rfl) (Nat.le_of_ble_eq_true rfl) ?_
      exact (W.zret (v := 1) hx hb hr (by first | rfl | decide) (fun t ht hW => ⟨⟨1, (), rfl, (by first | exact Or.inl rfl | exact Or.inr rfl), 0, by rw [ht]; exact hP9, hD9⟩, hS.F ht⟩) hS.2.2 dX10_isSubmitted_32)
  · skip
    subst hr9
    obtain ⟨hPc, hDc, hFc⟩ := PDq.cut (wc := [(oX10 w0 v0 v1 v2 v3 v4 g5 g6 (nI ed) g8 v9 (nI nb) g11 g12 v13 g14 g15 g16 g17 g18 g19 g20 g21 g22 g23 g24 g25 g26 v27 v28 v29 v30 v31 v32 v33 v34 v35 v36 v37 (nI ol))]) hP hD hS hA [0] (by decide) rfl
    refine va_calli (va_runV (As := [.int 0]) (rest := []) ⟨hx, hb, hml, hown, hts⟩ (r_good0 l D cA sa w0 ed nb ol v0 v1 v2 v3 v4 v9 v13 v27 v28 v29 v30 v31 v32 v33 v34 v35 v36 v37 g8 g11 g12 g14 g15 g16 g17 g18 g19 g20 g21 g22 g23 g24 g26 g5 g6 g25 H.size) (cwV 1 hts gX10_isSubmitted_X10_good rfl rfl rfl (by decide +kernel) ⟨(Nat.le_of_ble_eq_true rfl), (Nat.le_of_ble_eq_true rfl)⟩) ⟨Wd.blind, va_recv hK hPc (ci := 11) (q0 := 0) rfl rfl, fun U hU hW => ⟨rfl, Wd.call hPc hDc hK hC hZ hS hFc U hU hW⟩⟩ rfl rfl hl.1 rfl (lv_room (Nat.le_of_ble_eq_true rfl)) dX10_isSubmitted_6 ⟨(Nat.le_of_ble_eq_true rfl), (Nat.le_of_ble_eq_true rfl)⟩) hS (fun q _ h => hFc q h) hFc (fun rn12 u t H1 locs ht hvm hw hB hz1 hk1 hS => ?_)
    obtain ⟨hP1, hD1⟩ := hB
    rw [ht] at hP1
    obtain ⟨hP, hD⟩ := PDq.join (w := [(v0, .inl (cA 0, 326, .inl fs)), (oX10 w0 v0 v1 v2 v3 v4 g5 g6 (nI ed) 1 v9 (nI nb) g11 g12 v13 g14 g15 g16 g17 g18 g19 g20 g21 g22 g23 g24 g25 g26 v27 v28 v29 v30 v31 v32 v33 v34 v35 v36 v37 (nI ol))]) 1 hP hD [0] [1] rfl rfl (by decide) (by decide) hk1 hFc hP1 hD1 rfl
    generalize H1 = H at hP hS ⊢
    obtain rfl : rn12 = 0 := hw
    refine lv_if_eq (tgt := 31) hx hb dX10_isSubmitted_9 (by decide) (fun c13 => ?_) (fun c9 => absurd c9 (by decide))
    refine lv_iconst (v := 0) hx hb dX10_isSubmitted_31 (by decide) ?_
    obtain ⟨hP9, hD9⟩ := PDq.sub (ws' := [(oX10 w0 v0 v1 v2 v3 v4 g5 g6 (nI ed) 1 v9 (nI nb) g11 g12 v13 g14 g15 g16 g17 g18 g19 g20 g21 g22 g23 g24 g25 g26 v27 v28 v29 v30 v31 v32 v33 v34 v35 v36 v37 (nI ol)), (v0, .inl (cA 0, 326, .inl fs))]) hP hD [1, 0] (by decide) rfl
    refine W.widen (k := 0) (n := 0) (Nat.le_of_ble_eq_true rfl) (Nat.le_of_ble_eq_true rfl) ?_
    exact (W.zret (v := 0) hx hb hr (by first | rfl | decide) (fun t ht hW => ⟨⟨0, (), rfl, (by first | exact Or.inl rfl | exact Or.inr rfl), 1, by rw [ht]; exact hP9, hD9⟩, hS.F ht⟩) hS.2.2 dX10_isSubmitted_32)

set_option maxHeartbeats 4000000 in
set_option maxRecDepth 100000 in
/-- reference: dueAt -/
theorem r_dueAt (l : Launch) (D : va_G) (cA : Nat → ClassId) (sa : Nat → Nat) (w0 : Nat) (ed : Nat) (nb : Nat) (ol : Nat) (v0 : Nat) (v1 : Nat) (v2 : Nat) (v3 : Nat) (v4 : Nat) (v9 : Nat) (v13 : Nat) (v27 : Nat) (v28 : Nat) (v29 : Nat) (v30 : Nat) (v31 : Nat) (v32 : Nat) (v33 : Nat) (v34 : Nat) (v35 : Nat) (v36 : Nat) (v37 : Nat) (g8 : Int32) (g11 : Int32) (g12 : Int32) (g14 : Int32) (g15 : Int32) (g16 : Int32) (g17 : Int32) (g18 : Int32) (g19 : Int32) (g20 : Int32) (g21 : Int32) (g22 : Int32) (g23 : Int32) (g24 : Int32) (g26 : Int32) (g5 : Int64) (g6 : Int64) (g25 : Int64) (cn : Nat) (pq : Nat) (en : Nat) (dy : Nat) (fs : Nat → Int32) (i : Int32) (sz : Nat) (hcn : cn ≤ 10) (hpq : pq ≤ 8) (hen : en ≤ 60) (hdy : dy ≤ 20000) (hri : RI cn pq en dy fs) : Met l yX10_dueAt wsX10_dueAt ({ frames := 3, cells := 0, slots := 0, locals := 68 }) (va_Pc [.ref w0, .int i] (Wd D cA sa [(oX10 w0 v0 v1 v2 v3 v4 g5 g6 (nI ed) g8 v9 (nI nb) g11 g12 v13 g14 g15 g16 g17 g18 g19 g20 g21 g22 g23 g24 g25 g26 v27 v28 v29 v30 v31 v32 v33 v34 v35 v36 v37 (nI ol)), (v0, .inl (cA 0, 326, .inl fs))] sz)) (va_Qi (fun (r : Int32) (_ : Unit) => True) (fun (_ : Unit) t => ∃ zt : Int32, Wq D (va_A [(oX10 w0 v0 v1 v2 v3 v4 g5 g6 (nI ed) g8 v9 (nI nb) g11 g12 v13 g14 g15 g16 g17 g18 g19 g20 g21 g22 g23 g24 g25 g26 v27 v28 v29 v30 v31 v32 v33 v34 v35 v36 v37 (nI ol)), (v0, .inl (cA 0, 326, .inl fs))] sz) [(oX10 w0 v0 v1 v2 v3 v4 g5 g6 (nI ed) zt v9 (nI nb) g11 g12 v13 g14 g15 g16 g17 g18 g19 g20 g21 g22 g23 g24 g25 g26 v27 v28 v29 v30 v31 v32 v33 v34 v35 v36 v37 (nI ol)), (v0, .inl (cA 0, 326, .inl fs))] t) (va_A [(oX10 w0 v0 v1 v2 v3 v4 g5 g6 (nI ed) g8 v9 (nI nb) g11 g12 v13 g14 g15 g16 g17 g18 g19 g20 g21 g22 g23 g24 g25 g26 v27 v28 v29 v30 v31 v32 v33 v34 v35 v36 v37 (nI ol)), (v0, .inl (cA 0, 326, .inl fs))] sz)) 0 0 (va_A [(oX10 w0 v0 v1 v2 v3 v4 g5 g6 (nI ed) g8 v9 (nI nb) g11 g12 v13 g14 g15 g16 g17 g18 g19 g20 g21 g22 g23 g24 g25 g26 v27 v28 v29 v30 v31 v32 v33 v34 v35 v36 v37 (nI ol)), (v0, .inl (cA 0, 326, .inl fs))] sz) := by
  refine Met.ofW (cc := cX10_dueAt) (maxL := 3) (ret := (some .int)) (by decide) rfl ?_
  intro p e s m args below meth c s₁ B hml hv
  obtain ⟨rfl, hsz, hP, hK, hD0, hC, hZ⟩ := hv
  have hx := B.exec
  have hb := B.bytes
  have hr := B.returns
  have hts := atoms_spec (ws := wsX10_dueAt) B.pre
  have hown : s.vm.findClass RX10 = some m.cls := findClass_of_methodNamed B.named
  have hlocks := B.notSynchronized
  subst hsz
  have hD := hD0.self (sz := s.heap.size)
  generalize hAe : va_A [(oX10 w0 v0 v1 v2 v3 v4 g5 g6 (nI ed) g8 v9 (nI nb) g11 g12 v13 g14 g15 g16 g17 g18 g19 g20 g21 g22 g23 g24 g25 g26 v27 v28 v29 v30 v31 v32 v33 v34 v35 v36 v37 (nI ol)), (v0, .inl (cA 0, 326, .inl fs))] s.heap.size = A at hD hZ ⊢
  have hA : ∀ q : Nat, s.heap.size ≤ q → A q := fun q h => by rw [← hAe]; exact Or.inr h
  have hS : va_S A s.heap s.heap [] := va_S.rf
  have hP : va_P D vwCl [(oX10 w0 v0 v1 v2 v3 v4 g5 g6 (nI ed) g8 v9 (nI nb) g11 g12 v13 g14 g15 g16 g17 g18 g19 g20 g21 g22 g23 g24 g25 g26 v27 v28 v29 v30 v31 v32 v33 v34 v35 v36 v37 (nI ol)), (v0, .inl (cA 0, 326, .inl fs))] s.heap := hP
  have hl := lv_entry ([.ref w0, .int i]) (n := 3) (Nat.le_of_ble_eq_true rfl)
  rw [lg_entry_eq]
  generalize (lg_sl ([.ref w0, .int i]) ++ List.replicate (3 - (lg_sl ([.ref w0, .int i])).length) Slot.unset).toArray = ls at hl ⊢
  have hl : lv_has ls 3 [(0, .ref w0), (1, .int i)] := hl
  refine lv_iload_n hx hb dX10_dueAt_0 rfl (lv_at hl 1 rfl) ?_
  refine lv_if_ge (tgt := 8) hx hb dX10_dueAt_1 (by decide) (fun c1 => ?_) (fun c1 => ?_)
  · skip
    refine lv_aload_n hx hb dX10_dueAt_8 rfl (lv_at hl 0 rfl) ?_
    refine lv_iload_n hx hb dX10_dueAt_9 rfl (lv_at hl 1 rfl) ?_
    obtain ⟨hPc, hDc, hFc⟩ := PDq.cut (wc := [(oX10 w0 v0 v1 v2 v3 v4 g5 g6 (nI ed) g8 v9 (nI nb) g11 g12 v13 g14 g15 g16 g17 g18 g19 g20 g21 g22 g23 g24 g25 g26 v27 v28 v29 v30 v31 v32 v33 v34 v35 v36 v37 (nI ol)), (v0, .inl (cA 0, 326, .inl fs))]) hP hD hS hA [0, 1] (by decide) rfl
    refine va_calli (va_runV (As := [.int i]) (rest := []) ⟨hx, hb, hml, hown, hts⟩ (r_dueWithA l D cA sa w0 ed nb ol v0 v1 v2 v3 v4 v9 v13 v27 v28 v29 v30 v31 v32 v33 v34 v35 v36 v37 g8 g11 g12 g14 g15 g16 g17 g18 g19 g20 g21 g22 g23 g24 g26 g5 g6 g25 cn pq en dy fs i s.heap.size hcn hpq hen hdy hri) (cwV 1 hts gX10_dueAt_X10_dueWith rfl rfl rfl (by decide +kernel) ⟨(Nat.le_of_ble_eq_true rfl), (Nat.le_of_ble_eq_true rfl)⟩) ⟨Wd.blind, va_recv hK hPc (ci := 11) (q0 := 0) rfl rfl, fun U hU hW => ⟨rfl, Wd.call hPc hDc hK hC hZ hS hFc U hU hW⟩⟩ rfl rfl hl.1 rfl (lv_room (Nat.le_of_ble_eq_true rfl)) dX10_dueAt_10 ⟨(Nat.le_of_ble_eq_true rfl), (Nat.le_of_ble_eq_true rfl)⟩) hS (fun q _ h => hFc q h) hFc (fun rn2 u t H1 locs ht hvm hw hB hz1 hk1 hS => ?_)
    obtain ⟨hP1, hD1⟩ := hB
    rw [ht] at hP1
    obtain ⟨hP, hD⟩ := PDq.join (w := [(oX10 w0 v0 v1 v2 v3 v4 g5 g6 (nI ed) g8 v9 (nI nb) g11 g12 v13 g14 g15 g16 g17 g18 g19 g20 g21 g22 g23 g24 g25 g26 v27 v28 v29 v30 v31 v32 v33 v34 v35 v36 v37 (nI ol)), (v0, .inl (cA 0, 326, .inl fs))]) 0 hP hD [0, 1] [] rfl rfl (by decide) (by decide) hk1 hFc hP1 hD1 rfl
    generalize H1 = H at hP hS ⊢
    rcases hw with hr9 | ⟨kn4, hn3, hr9⟩
    · skip
      subst hr9
      refine lv_istore_n (lv' := [(2, .int (-1)), (0, .ref w0), (1, .int i)]) hx hb dX10_dueAt_13 rfl hl (by decide) rfl (fun ls hl => ?_)
      refine lv_aload_n hx hb dX10_dueAt_14 rfl (lv_at hl 1 rfl) ?_
      refine lv_iload_n hx hb dX10_dueAt_15 rfl (lv_at hl 0 rfl) ?_
      refine lv_iconst (v := (-1)) hx hb dX10_dueAt_16 (by decide) ?_
      refine lv_icmp_eq (tgt := 24) hx hb dX10_dueAt_17 (by decide) (fun c5 => ?_) (fun c9 => absurd c9 (by decide))
      refine lv_iconst (v := 0) hx hb dX10_dueAt_24 (by decide) ?_
      obtain ⟨hPc, hDc, hFc⟩ := PDq.cut (wc := [(oX10 w0 v0 v1 v2 v3 v4 g5 g6 (nI ed) g8 v9 (nI nb) g11 g12 v13 g14 g15 g16 g17 g18 g19 g20 g21 g22 g23 g24 g25 g26 v27 v28 v29 v30 v31 v32 v33 v34 v35 v36 v37 (nI ol))]) hP hD hS hA [0] (by decide) rfl
      refine va_calli (va_runV (As := [.int 0]) (rest := []) ⟨hx, hb, hml, hown, hts⟩ (r_good0 l D cA sa w0 ed nb ol v0 v1 v2 v3 v4 v9 v13 v27 v28 v29 v30 v31 v32 v33 v34 v35 v36 v37 g8 g11 g12 g14 g15 g16 g17 g18 g19 g20 g21 g22 g23 g24 g26 g5 g6 g25 H.size) (cwV 1 hts gX10_dueAt_X10_good rfl rfl rfl (by decide +kernel) ⟨(Nat.le_of_ble_eq_true rfl), (Nat.le_of_ble_eq_true rfl)⟩) ⟨Wd.blind, va_recv hK hPc (ci := 11) (q0 := 0) rfl rfl, fun U hU hW => ⟨rfl, Wd.call hPc hDc hK hC hZ hS hFc U hU hW⟩⟩ rfl rfl hl.1 rfl (lv_room (Nat.le_of_ble_eq_true rfl)) dX10_dueAt_25 ⟨(Nat.le_of_ble_eq_true rfl), (Nat.le_of_ble_eq_true rfl)⟩) hS (fun q _ h => hFc q h) hFc (fun rn6 u t H1 locs ht hvm hw hB hz1 hk1 hS => ?_)
      obtain ⟨hP1, hD1⟩ := hB
      rw [ht] at hP1
      obtain ⟨hP, hD⟩ := PDq.join (w := [(v0, .inl (cA 0, 326, .inl fs)), (oX10 w0 v0 v1 v2 v3 v4 g5 g6 (nI ed) 1 v9 (nI nb) g11 g12 v13 g14 g15 g16 g17 g18 g19 g20 g21 g22 g23 g24 g25 g26 v27 v28 v29 v30 v31 v32 v33 v34 v35 v36 v37 (nI ol))]) 1 hP hD [0] [1] rfl rfl (by decide) (by decide) hk1 hFc hP1 hD1 rfl
      generalize H1 = H at hP hS ⊢
      obtain rfl : rn6 = 0 := hw
      refine lv_if_eq (tgt := 35) hx hb dX10_dueAt_28 (by decide) (fun c7 => ?_) (fun c9 => absurd c9 (by decide))
      refine lv_iconst (v := 0) hx hb dX10_dueAt_35 (by decide) ?_
      obtain ⟨hP9, hD9⟩ := PDq.sub (ws' := [(oX10 w0 v0 v1 v2 v3 v4 g5 g6 (nI ed) 1 v9 (nI nb) g11 g12 v13 g14 g15 g16 g17 g18 g19 g20 g21 g22 g23 g24 g25 g26 v27 v28 v29 v30 v31 v32 v33 v34 v35 v36 v37 (nI ol)), (v0, .inl (cA 0, 326, .inl fs))]) hP hD [1, 0] (by decide) rfl
      refine W.widen (k := 0) (n := 0) (Nat.le_of_ble_eq_true rfl) (Nat.le_of_ble_eq_true rfl) ?_
      exact (W.iret (v := 0) hx hb hr (fun t ht hW => ⟨⟨0, (), rfl, trivial, 1, by rw [ht]; exact hP9, hD9⟩, hS.F ht⟩) hS.2.2 dX10_dueAt_36)
    · skip
      subst hr9
      refine lv_istore_n (lv' := [(2, .int (nI kn4)), (0, .ref w0), (1, .int i)]) hx hb dX10_dueAt_13 rfl hl (by decide) rfl (fun ls hl => ?_)
      refine lv_aload_n hx hb dX10_dueAt_14 rfl (lv_at hl 1 rfl) ?_
      refine lv_iload_n hx hb dX10_dueAt_15 rfl (lv_at hl 0 rfl) ?_
      refine lv_iconst (v := (-1)) hx hb dX10_dueAt_16 (by decide) ?_
      refine lv_icmp_eq (tgt := 24) hx hb dX10_dueAt_17 (by decide) (fun c9 => absurd c9 (nI_neg (n := kn4) (by omega) (by decide))) (fun c8 => ?_)
      refine lv_iconst (v := 1) hx hb dX10_dueAt_20 (by decide) ?_
      refine lv_goto (tgt := 25) hx hb dX10_dueAt_21 (by decide) ?_
      obtain ⟨hPc, hDc, hFc⟩ := PDq.cut (wc := [(oX10 w0 v0 v1 v2 v3 v4 g5 g6 (nI ed) g8 v9 (nI nb) g11 g12 v13 g14 g15 g16 g17 g18 g19 g20 g21 g22 g23 g24 g25 g26 v27 v28 v29 v30 v31 v32 v33 v34 v35 v36 v37 (nI ol))]) hP hD hS hA [0] (by decide) rfl
      refine va_calli (va_runV (As := [.int 1]) (rest := []) ⟨hx, hb, hml, hown, hts⟩ (r_good1 l D cA sa w0 ed nb ol v0 v1 v2 v3 v4 v9 v13 v27 v28 v29 v30 v31 v32 v33 v34 v35 v36 v37 g8 g11 g12 g14 g15 g16 g17 g18 g19 g20 g21 g22 g23 g24 g26 g5 g6 g25 H.size) (cwV 1 hts gX10_dueAt_X10_good rfl rfl rfl (by decide +kernel) ⟨(Nat.le_of_ble_eq_true rfl), (Nat.le_of_ble_eq_true rfl)⟩) ⟨Wd.blind, va_recv hK hPc (ci := 11) (q0 := 0) rfl rfl, fun U hU hW => ⟨rfl, Wd.call hPc hDc hK hC hZ hS hFc U hU hW⟩⟩ rfl rfl hl.1 rfl (lv_room (Nat.le_of_ble_eq_true rfl)) dX10_dueAt_25 ⟨(Nat.le_of_ble_eq_true rfl), (Nat.le_of_ble_eq_true rfl)⟩) hS (fun q _ h => hFc q h) hFc (fun rn9 u t H1 locs ht hvm hw hB hz1 hk1 hS => ?_)
      obtain ⟨hP1, hD1⟩ := hB
      rw [ht] at hP1
      obtain ⟨hP, hD⟩ := PDq.join (w := [(v0, .inl (cA 0, 326, .inl fs)), (oX10 w0 v0 v1 v2 v3 v4 g5 g6 (nI ed) 0 v9 (nI nb) g11 g12 v13 g14 g15 g16 g17 g18 g19 g20 g21 g22 g23 g24 g25 g26 v27 v28 v29 v30 v31 v32 v33 v34 v35 v36 v37 (nI ol))]) 1 hP hD [0] [1] rfl rfl (by decide) (by decide) hk1 hFc hP1 hD1 rfl
      generalize H1 = H at hP hS ⊢
      obtain rfl : rn9 = 1 := hw
      refine lv_if_eq (tgt := 35) hx hb dX10_dueAt_28 (by decide) (fun c9 => absurd c9 (by decide)) (fun c10 => ?_)
      refine lv_iload_n hx hb dX10_dueAt_31 rfl (lv_at hl 0 rfl) ?_
      refine lv_goto (tgt := 36) hx hb dX10_dueAt_32 (by decide) ?_
      obtain ⟨hP9, hD9⟩ := PDq.sub (ws' := [(oX10 w0 v0 v1 v2 v3 v4 g5 g6 (nI ed) 0 v9 (nI nb) g11 g12 v13 g14 g15 g16 g17 g18 g19 g20 g21 g22 g23 g24 g25 g26 v27 v28 v29 v30 v31 v32 v33 v34 v35 v36 v37 (nI ol)), (v0, .inl (cA 0, 326, .inl fs))]) hP hD [1, 0] (by decide) rfl
      refine W.widen (k := 0) (n := 0) (Nat.le_of_ble_eq_true rfl) (Nat.le_of_ble_eq_true rfl) ?_
      exact (W.iret (v := (nI kn4)) hx hb hr (fun t ht hW => ⟨⟨(nI kn4), (), rfl, trivial, 0, by rw [ht]; exact hP9, hD9⟩, hS.F ht⟩) hS.2.2 dX10_dueAt_36)
  · skip
    refine lv_iconst (v := (-1)) hx hb dX10_dueAt_4 (by decide) ?_
    refine lv_goto (tgt := 13) hx hb dX10_dueAt_5 (by decide) ?_
    refine lv_istore_n (lv' := [(2, .int (-1)), (0, .ref w0), (1, .int i)]) hx hb dX10_dueAt_13 rfl hl (by decide) rfl (fun ls hl => ?_)
    refine lv_aload_n hx hb dX10_dueAt_14 rfl (lv_at hl 1 rfl) ?_
    refine lv_iload_n hx hb dX10_dueAt_15 rfl (lv_at hl 0 rfl) ?_
    refine lv_iconst (v := (-1)) hx hb dX10_dueAt_16 (by decide) ?_
    refine lv_icmp_eq (tgt := 24) hx hb dX10_dueAt_17 (by decide) (fun c11 => ?_) (fun c9 => absurd c9 (by decide))
    refine lv_iconst (v := 0) hx hb dX10_dueAt_24 (by decide) ?_
    obtain ⟨hPc, hDc, hFc⟩ := PDq.cut (wc := [(oX10 w0 v0 v1 v2 v3 v4 g5 g6 (nI ed) g8 v9 (nI nb) g11 g12 v13 g14 g15 g16 g17 g18 g19 g20 g21 g22 g23 g24 g25 g26 v27 v28 v29 v30 v31 v32 v33 v34 v35 v36 v37 (nI ol))]) hP hD hS hA [0] (by decide) rfl
    refine va_calli (va_runV (As := [.int 0]) (rest := []) ⟨hx, hb, hml, hown, hts⟩ (r_good0 l D cA sa w0 ed nb ol v0 v1 v2 v3 v4 v9 v13 v27 v28 v29 v30 v31 v32 v33 v34 v35 v36 v37 g8 g11 g12 g14 g15 g16 g17 g18 g19 g20 g21 g22 g23 g24 g26 g5 g6 g25 s.heap.size) (cwV 1 hts gX10_dueAt_X10_good rfl rfl rfl (by decide +kernel) ⟨(Nat.le_of_ble_eq_true rfl), (Nat.le_of_ble_eq_true rfl)⟩) ⟨Wd.blind, va_recv hK hPc (ci := 11) (q0 := 0) rfl rfl, fun U hU hW => ⟨rfl, Wd.call hPc hDc hK hC hZ hS hFc U hU hW⟩⟩ rfl rfl hl.1 rfl (lv_room (Nat.le_of_ble_eq_true rfl)) dX10_dueAt_25 ⟨(Nat.le_of_ble_eq_true rfl), (Nat.le_of_ble_eq_true rfl)⟩) hS (fun q _ h => hFc q h) hFc (fun rn12 u t H1 locs ht hvm hw hB hz1 hk1 hS => ?_)
    obtain ⟨hP1, hD1⟩ := hB
    rw [ht] at hP1
    obtain ⟨hP, hD⟩ := PDq.join (w := [(v0, .inl (cA 0, 326, .inl fs)), (oX10 w0 v0 v1 v2 v3 v4 g5 g6 (nI ed) 1 v9 (nI nb) g11 g12 v13 g14 g15 g16 g17 g18 g19 g20 g21 g22 g23 g24 g25 g26 v27 v28 v29 v30 v31 v32 v33 v34 v35 v36 v37 (nI ol))]) 1 hP hD [0] [1] rfl rfl (by decide) (by decide) hk1 hFc hP1 hD1 rfl
    generalize H1 = H at hP hS ⊢
    obtain rfl : rn12 = 0 := hw
    refine lv_if_eq (tgt := 35) hx hb dX10_dueAt_28 (by decide) (fun c13 => ?_) (fun c9 => absurd c9 (by decide))
    refine lv_iconst (v := 0) hx hb dX10_dueAt_35 (by decide) ?_
    obtain ⟨hP9, hD9⟩ := PDq.sub (ws' := [(oX10 w0 v0 v1 v2 v3 v4 g5 g6 (nI ed) 1 v9 (nI nb) g11 g12 v13 g14 g15 g16 g17 g18 g19 g20 g21 g22 g23 g24 g25 g26 v27 v28 v29 v30 v31 v32 v33 v34 v35 v36 v37 (nI ol)), (v0, .inl (cA 0, 326, .inl fs))]) hP hD [1, 0] (by decide) rfl
    refine W.widen (k := 0) (n := 0) (Nat.le_of_ble_eq_true rfl) (Nat.le_of_ble_eq_true rfl) ?_
    exact (W.iret (v := 0) hx hb hr (fun t ht hW => ⟨⟨0, (), rfl, trivial, 1, by rw [ht]; exact hP9, hD9⟩, hS.F ht⟩) hS.2.2 dX10_dueAt_36)

set_option maxHeartbeats 4000000 in
set_option maxRecDepth 100000 in
/-- reference: closedCount -/
theorem r_closedCount (l : Launch) (D : va_G) (cA : Nat → ClassId) (sa : Nat → Nat) (w0 : Nat) (ed : Nat) (nb : Nat) (ol : Nat) (v0 : Nat) (v1 : Nat) (v2 : Nat) (v3 : Nat) (v4 : Nat) (v9 : Nat) (v13 : Nat) (v27 : Nat) (v28 : Nat) (v29 : Nat) (v30 : Nat) (v31 : Nat) (v32 : Nat) (v33 : Nat) (v34 : Nat) (v35 : Nat) (v36 : Nat) (v37 : Nat) (g8 : Int32) (g11 : Int32) (g12 : Int32) (g14 : Int32) (g15 : Int32) (g16 : Int32) (g17 : Int32) (g18 : Int32) (g19 : Int32) (g20 : Int32) (g21 : Int32) (g22 : Int32) (g23 : Int32) (g24 : Int32) (g26 : Int32) (g5 : Int64) (g6 : Int64) (g25 : Int64) (cn : Nat) (pq : Nat) (en : Nat) (dy : Nat) (fs : Nat → Int32) (sz : Nat) (hcn : cn ≤ 10) (hpq : pq ≤ 8) (hen : en ≤ 60) (hdy : dy ≤ 20000) (hri : RI cn pq en dy fs) : Met l yX10_closedCount wsX10_closedCount ({ frames := 2, cells := 0, slots := 0, locals := 43 }) (va_Pc [.ref w0] (Wd D cA sa [(oX10 w0 v0 v1 v2 v3 v4 g5 g6 (nI ed) g8 v9 (nI nb) g11 g12 v13 g14 g15 g16 g17 g18 g19 g20 g21 g22 g23 g24 g25 g26 v27 v28 v29 v30 v31 v32 v33 v34 v35 v36 v37 (nI ol)), (v0, .inl (cA 0, 326, .inl fs))] sz)) (va_Qi (fun (r : Int32) (_ : Unit) => True) (fun (_ : Unit) t => Wq D (va_A [(oX10 w0 v0 v1 v2 v3 v4 g5 g6 (nI ed) g8 v9 (nI nb) g11 g12 v13 g14 g15 g16 g17 g18 g19 g20 g21 g22 g23 g24 g25 g26 v27 v28 v29 v30 v31 v32 v33 v34 v35 v36 v37 (nI ol)), (v0, .inl (cA 0, 326, .inl fs))] sz) [(oX10 w0 v0 v1 v2 v3 v4 g5 g6 (nI ed) 0 v9 (nI nb) g11 g12 v13 g14 g15 g16 g17 g18 g19 g20 g21 g22 g23 g24 g25 g26 v27 v28 v29 v30 v31 v32 v33 v34 v35 v36 v37 (nI ol)), (v0, .inl (cA 0, 326, .inl fs))] t) (va_A [(oX10 w0 v0 v1 v2 v3 v4 g5 g6 (nI ed) g8 v9 (nI nb) g11 g12 v13 g14 g15 g16 g17 g18 g19 g20 g21 g22 g23 g24 g25 g26 v27 v28 v29 v30 v31 v32 v33 v34 v35 v36 v37 (nI ol)), (v0, .inl (cA 0, 326, .inl fs))] sz)) 0 0 (va_A [(oX10 w0 v0 v1 v2 v3 v4 g5 g6 (nI ed) g8 v9 (nI nb) g11 g12 v13 g14 g15 g16 g17 g18 g19 g20 g21 g22 g23 g24 g25 g26 v27 v28 v29 v30 v31 v32 v33 v34 v35 v36 v37 (nI ol)), (v0, .inl (cA 0, 326, .inl fs))] sz) := by
  refine Met.ofW (cc := cX10_closedCount) (maxL := 3) (ret := (some .int)) (by decide) rfl ?_
  intro p e s m args below meth c s₁ B hml hv
  obtain ⟨rfl, hsz, hP, hK, hD0, hC, hZ⟩ := hv
  have hx := B.exec
  have hb := B.bytes
  have hr := B.returns
  have hts := atoms_spec (ws := wsX10_closedCount) B.pre
  have hown : s.vm.findClass RX10 = some m.cls := findClass_of_methodNamed B.named
  have hlocks := B.notSynchronized
  subst hsz
  have hD := hD0.self (sz := s.heap.size)
  generalize hAe : va_A [(oX10 w0 v0 v1 v2 v3 v4 g5 g6 (nI ed) g8 v9 (nI nb) g11 g12 v13 g14 g15 g16 g17 g18 g19 g20 g21 g22 g23 g24 g25 g26 v27 v28 v29 v30 v31 v32 v33 v34 v35 v36 v37 (nI ol)), (v0, .inl (cA 0, 326, .inl fs))] s.heap.size = A at hD hZ ⊢
  have hA : ∀ q : Nat, s.heap.size ≤ q → A q := fun q h => by rw [← hAe]; exact Or.inr h
  have hS : va_S A s.heap s.heap [] := va_S.rf
  have hP : va_P D vwCl [(oX10 w0 v0 v1 v2 v3 v4 g5 g6 (nI ed) g8 v9 (nI nb) g11 g12 v13 g14 g15 g16 g17 g18 g19 g20 g21 g22 g23 g24 g25 g26 v27 v28 v29 v30 v31 v32 v33 v34 v35 v36 v37 (nI ol)), (v0, .inl (cA 0, 326, .inl fs))] s.heap := hP
  have hl := lv_entry ([.ref w0]) (n := 3) (Nat.le_of_ble_eq_true rfl)
  rw [lg_entry_eq]
  generalize (lg_sl ([.ref w0]) ++ List.replicate (3 - (lg_sl ([.ref w0])).length) Slot.unset).toArray = ls at hl ⊢
  have hl : lv_has ls 3 [(0, .ref w0)] := hl
  have inX10 : ∀ w ∈ u_ws RX10 TX10 39, w ∈ wsX10_closedCount := by decide +kernel
  refine lv_aload_n hx hb dX10_closedCount_0 rfl (lv_at hl 0 rfl) ?_
  refine lv_iconst (v := 0) hx hb dX10_closedCount_1 (by decide) ?_
  refine va_put (D := D) (ci := 11) (v := .int 0) (ty := .int) (C := RX10) (T := TX10) (N := 39) hx hb hts inX10 tyX10 tyX10_ok nmX10 hown hK hP hD hS 0 rfl rfl 8 (by decide) (hts (.fieldLink RX10 80 "EscrowDeskModel" "thrown" "I") (by decide +kernel)) (fun _ h9 => h9) rfl (by decide +kernel) rfl rfl (Nat.le_of_ble_eq_true rfl) dX10_closedCount_2 (fun H locs hP hD hS => ?_)
  obtain ⟨hP, hD⟩ : PDq D A [(oX10 w0 v0 v1 v2 v3 v4 g5 g6 (nI ed) 0 v9 (nI nb) g11 g12 v13 g14 g15 g16 g17 g18 g19 g20 g21 g22 g23 g24 g25 g26 v27 v28 v29 v30 v31 v32 v33 v34 v35 v36 v37 (nI ol)), (v0, .inl (cA 0, 326, .inl fs))] H := ⟨hP, hD⟩
  refine lv_iconst (v := 0) hx hb dX10_closedCount_5 (by decide) ?_
  refine lv_istore_n (lv' := [(1, .int 0), (0, .ref w0)]) hx hb dX10_closedCount_6 rfl hl (by decide) rfl (fun ls hl => ?_)
  refine lv_iconst (v := 0) hx hb dX10_closedCount_7 (by decide) ?_
  refine lv_istore_n (lv' := [(2, .int 0), (1, .int 0), (0, .ref w0)]) hx hb dX10_closedCount_8 rfl hl (by decide) rfl (fun ls hl => ?_)
  have loop1 : ∀ (n1 i1 : Nat) (x1_1 : Int32) (H : Heap) (locs : List Loc) (ls : Array Slot), i1 + n1 = cn → va_P D vwCl [(oX10 w0 v0 v1 v2 v3 v4 g5 g6 (nI ed) 0 v9 (nI nb) g11 g12 v13 g14 g15 g16 g17 g18 g19 g20 g21 g22 g23 g24 g25 g26 v27 v28 v29 v30 v31 v32 v33 v34 v35 v36 v37 (nI ol)), (v0, .inl (cA 0, 326, .inl fs))] H → va_D A [(oX10 w0 v0 v1 v2 v3 v4 g5 g6 (nI ed) 0 v9 (nI nb) g11 g12 v13 g14 g15 g16 g17 g18 g19 g20 g21 g22 g23 g24 g25 g26 v27 v28 v29 v30 v31 v32 v33 v34 v35 v36 v37 (nI ol)), (v0, .inl (cA 0, 326, .inl fs))] → va_S A s.heap H locs → lv_has ls 3 [(2, .int (nI i1)), (1, .int x1_1), (0, .ref w0)] → W p l e (headSpec wsX10_closedCount ({ frames := 2, cells := 0, slots := 0, locals := 43 } : Room)).room s m ([.ref w0] : List Value).toArray below meth c H locs 0 0 (MQ below (va_Qi (fun (r : Int32) (_ : Unit) => True) (fun (_ : Unit) t => Wq D A [(oX10 w0 v0 v1 v2 v3 v4 g5 g6 (nI ed) 0 v9 (nI nb) g11 g12 v13 g14 g15 g16 g17 g18 g19 g20 g21 g22 g23 g24 g25 g26 v27 v28 v29 v30 v31 v32 v33 v34 v35 v36 v37 (nI ol)), (v0, .inl (cA 0, 326, .inl fs))] t) A) ([.ref w0] : List Value).toArray s 0 0 A) (F0 m 9 ls []) := by
    intro n1
    induction n1 with
    | zero =>
      intro i1 x1_1 H locs ls hi1 hP hD hS hl
      obtain rfl : cn = i1 := by omega
      refine lv_iload_n hx hb dX10_closedCount_9 rfl (lv_at hl 0 rfl) ?_
      refine lv_aload_n hx hb dX10_closedCount_10 rfl (lv_at hl 2 rfl) ?_
      refine va_get (D := D) (ci := 11) (v := .ref v0) (C := RX10) (T := TX10) (N := 39) hx hb hts inX10 hown hK hP 0 rfl rfl 0 (by decide) (hts (.fieldLink RX10 7 "EscrowDeskModel" "s" "[I") (by decide +kernel)) (fun _ h9 => h9) rfl dX10_closedCount_11 ?_
      refine lv_bipush (v := 13) hx hb dX10_closedCount_14 (by decide) ?_
      refine va_iald hx hb hK hP 1 0 rfl rfl (vp_in_iff.mpr (by decide)) dX10_closedCount_16 ?_
      refine lv_topi (fun yn1 eyn1 => ?_)
      obtain rfl : yn1 = (nI cn) := eyn1.trans hri.1
      refine lv_icmp_ge (tgt := 42) hx hb dX10_closedCount_17 (by decide) (fun c2 => ?_) (fun c9 => absurd (nI_le (a := cn) (b := cn) (show cn ≤ cn by omega) (by omega)) c9)
      refine lv_iload_n hx hb dX10_closedCount_42 rfl (lv_at hl 1 rfl) ?_
      obtain ⟨hP9, hD9⟩ := PDq.sub (ws' := [(oX10 w0 v0 v1 v2 v3 v4 g5 g6 (nI ed) 0 v9 (nI nb) g11 g12 v13 g14 g15 g16 g17 g18 g19 g20 g21 g22 g23 g24 g25 g26 v27 v28 v29 v30 v31 v32 v33 v34 v35 v36 v37 (nI ol)), (v0, .inl (cA 0, 326, .inl fs))]) hP hD [0, 1] (by decide) rfl
      refine W.widen (k := 0) (n := 0) (Nat.le_of_ble_eq_true rfl) (Nat.le_of_ble_eq_true rfl) ?_
      exact (W.iret (v := x1_1) hx hb hr (fun t ht hW => ⟨⟨x1_1, (), rfl, trivial, by rw [ht]; exact hP9, hD9⟩, hS.F ht⟩) hS.2.2 dX10_closedCount_43)
    | succ n1 ih1 =>
      intro i1 x1_1 H locs ls hi1 hP hD hS hl
      refine lv_iload_n hx hb dX10_closedCount_9 rfl (lv_at hl 0 rfl) ?_
      refine lv_aload_n hx hb dX10_closedCount_10 rfl (lv_at hl 2 rfl) ?_
      refine va_get (D := D) (ci := 11) (v := .ref v0) (C := RX10) (T := TX10) (N := 39) hx hb hts inX10 hown hK hP 0 rfl rfl 0 (by decide) (hts (.fieldLink RX10 7 "EscrowDeskModel" "s" "[I") (by decide +kernel)) (fun _ h9 => h9) rfl dX10_closedCount_11 ?_
      refine lv_bipush (v := 13) hx hb dX10_closedCount_14 (by decide) ?_
      refine va_iald hx hb hK hP 1 0 rfl rfl (vp_in_iff.mpr (by decide)) dX10_closedCount_16 ?_
      refine lv_topi (fun yn3 eyn3 => ?_)
      obtain rfl : yn3 = (nI cn) := eyn3.trans hri.1
      refine lv_icmp_ge (tgt := 42) hx hb dX10_closedCount_17 (by decide) (fun c9 => absurd c9 (nI_ge (a := i1) (b := cn) (show i1 < cn by omega) (by omega))) (fun c4 => ?_)
      refine lv_iload_n hx hb dX10_closedCount_20 rfl (lv_at hl 1 rfl) ?_
      refine lv_aload_n hx hb dX10_closedCount_21 rfl (lv_at hl 2 rfl) ?_
      refine lv_iload_n hx hb dX10_closedCount_22 rfl (lv_at hl 0 rfl) ?_
      obtain ⟨hPc, hDc, hFc⟩ := PDq.cut (wc := [(oX10 w0 v0 v1 v2 v3 v4 g5 g6 (nI ed) 0 v9 (nI nb) g11 g12 v13 g14 g15 g16 g17 g18 g19 g20 g21 g22 g23 g24 g25 g26 v27 v28 v29 v30 v31 v32 v33 v34 v35 v36 v37 (nI ol)), (v0, .inl (cA 0, 326, .inl fs))]) hP hD hS hA [0, 1] (by decide) rfl
      refine va_calli (va_runV (As := [.int (nI i1)]) (rest := [.int x1_1]) ⟨hx, hb, hml, hown, hts⟩ (r_isClosed l D cA sa w0 ed nb ol v0 v1 v2 v3 v4 v9 v13 v27 v28 v29 v30 v31 v32 v33 v34 v35 v36 v37 0 g11 g12 g14 g15 g16 g17 g18 g19 g20 g21 g22 g23 g24 g26 g5 g6 g25 fs i1 H.size (by omega)) (cwV 1 hts gX10_closedCount_X10_isClosed rfl rfl rfl (by decide +kernel) ⟨(Nat.le_of_ble_eq_true rfl), (Nat.le_of_ble_eq_true rfl)⟩) ⟨Wd.blind, va_recv hK hPc (ci := 11) (q0 := 0) rfl rfl, fun U hU hW => ⟨rfl, Wd.call hPc hDc hK hC hZ hS hFc U hU hW⟩⟩ rfl rfl hl.1 rfl (lv_room (Nat.le_of_ble_eq_true rfl)) dX10_closedCount_23 ⟨(Nat.le_of_ble_eq_true rfl), (Nat.le_of_ble_eq_true rfl)⟩) hS (fun q _ h => hFc q h) hFc (fun rn5 u t H1 locs ht hvm hw hB hz1 hk1 hS => ?_)
      obtain ⟨hP1, hD1⟩ := hB
      rw [ht] at hP1
      obtain ⟨hP, hD⟩ := PDq.join (w := [(oX10 w0 v0 v1 v2 v3 v4 g5 g6 (nI ed) 0 v9 (nI nb) g11 g12 v13 g14 g15 g16 g17 g18 g19 g20 g21 g22 g23 g24 g25 g26 v27 v28 v29 v30 v31 v32 v33 v34 v35 v36 v37 (nI ol)), (v0, .inl (cA 0, 326, .inl fs))]) 0 hP hD [0, 1] [] rfl rfl (by decide) (by decide) hk1 hFc hP1 hD1 rfl
      generalize H1 = H at hP hS ⊢
      have hn6 := hw
      refine lv_if_eq (tgt := 33) hx hb dX10_closedCount_26 (by decide) (fun c7 => ?_) (fun c7 => ?_)
      · skip
        refine lv_iconst (v := 0) hx hb dX10_closedCount_33 (by decide) ?_
        refine lv_iadd hx hb dX10_closedCount_34 ?_
        refine lv_topi (fun yn8 eyn8 => ?_)
        refine lv_istore_n (lv' := [(1, .int yn8), (2, .int (nI i1)), (0, .ref w0)]) hx hb dX10_closedCount_35 rfl hl (by decide) rfl (fun ls hl => ?_)
        refine lv_iinc (v := (nI (i1 + 1))) (lv' := [(2, .int (nI (i1 + 1))), (1, .int yn8), (0, .ref w0)]) hx hb dX10_closedCount_36 hl (k := 1) rfl (nI_1 _) (by decide) rfl (fun ls hl => ?_)
        refine lv_goto (tgt := 9) hx hb dX10_closedCount_39 (by decide) ?_
        obtain ⟨hP9, hD9⟩ := PDq.sub (ws' := [(oX10 w0 v0 v1 v2 v3 v4 g5 g6 (nI ed) 0 v9 (nI nb) g11 g12 v13 g14 g15 g16 g17 g18 g19 g20 g21 g22 g23 g24 g25 g26 v27 v28 v29 v30 v31 v32 v33 v34 v35 v36 v37 (nI ol)), (v0, .inl (cA 0, 326, .inl fs))]) hP hD [0, 1] (by decide) rfl
        exact ih1 (i1 + 1) yn8 H _ ls (by omega) hP9 hD9 hS (lv_sub hl [0, 1, 2] rfl)
      · skip
        refine lv_iconst (v := 1) hx hb dX10_closedCount_29 (by decide) ?_
        refine lv_goto (tgt := 34) hx hb dX10_closedCount_30 (by decide) ?_
        refine lv_iadd hx hb dX10_closedCount_34 ?_
        refine lv_topi (fun yn9 eyn9 => ?_)
        refine lv_istore_n (lv' := [(1, .int yn9), (2, .int (nI i1)), (0, .ref w0)]) hx hb dX10_closedCount_35 rfl hl (by decide) rfl (fun ls hl => ?_)
        refine lv_iinc (v := (nI (i1 + 1))) (lv' := [(2, .int (nI (i1 + 1))), (1, .int yn9), (0, .ref w0)]) hx hb dX10_closedCount_36 hl (k := 1) rfl (nI_1 _) (by decide) rfl (fun ls hl => ?_)
        refine lv_goto (tgt := 9) hx hb dX10_closedCount_39 (by decide) ?_
        obtain ⟨hP9, hD9⟩ := PDq.sub (ws' := [(oX10 w0 v0 v1 v2 v3 v4 g5 g6 (nI ed) 0 v9 (nI nb) g11 g12 v13 g14 g15 g16 g17 g18 g19 g20 g21 g22 g23 g24 g25 g26 v27 v28 v29 v30 v31 v32 v33 v34 v35 v36 v37 (nI ol)), (v0, .inl (cA 0, 326, .inl fs))]) hP hD [0, 1] (by decide) rfl
        exact ih1 (i1 + 1) yn9 H _ ls (by omega) hP9 hD9 hS (lv_sub hl [0, 1, 2] rfl)
  obtain ⟨hP9, hD9⟩ := PDq.sub (ws' := [(oX10 w0 v0 v1 v2 v3 v4 g5 g6 (nI ed) 0 v9 (nI nb) g11 g12 v13 g14 g15 g16 g17 g18 g19 g20 g21 g22 g23 g24 g25 g26 v27 v28 v29 v30 v31 v32 v33 v34 v35 v36 v37 (nI ol)), (v0, .inl (cA 0, 326, .inl fs))]) hP hD [0, 1] (by decide) rfl
  exact loop1 (cn - 0) 0 0 _ _ ls (by omega) hP9 hD9 hS (lv_sub hl [0, 1, 2] rfl)

set_option maxHeartbeats 4000000 in
set_option maxRecDepth 100000 in
/-- reference: progress -/
theorem r_progress (l : Launch) (D : va_G) (cA : Nat → ClassId) (sa : Nat → Nat) (w0 : Nat) (ed : Nat) (nb : Nat) (ol : Nat) (v0 : Nat) (v1 : Nat) (v2 : Nat) (v3 : Nat) (v4 : Nat) (v9 : Nat) (v13 : Nat) (v27 : Nat) (v28 : Nat) (v29 : Nat) (v30 : Nat) (v31 : Nat) (v32 : Nat) (v33 : Nat) (v34 : Nat) (v35 : Nat) (v36 : Nat) (v37 : Nat) (g8 : Int32) (g11 : Int32) (g12 : Int32) (g14 : Int32) (g15 : Int32) (g16 : Int32) (g17 : Int32) (g18 : Int32) (g19 : Int32) (g20 : Int32) (g21 : Int32) (g22 : Int32) (g23 : Int32) (g24 : Int32) (g26 : Int32) (g5 : Int64) (g6 : Int64) (g25 : Int64) (cn : Nat) (pq : Nat) (en : Nat) (dy : Nat) (fs : Nat → Int32) (sz : Nat) (hcn : cn ≤ 10) (hpq : pq ≤ 8) (hen : en ≤ 60) (hdy : dy ≤ 20000) (hri : RI cn pq en dy fs) : Met l yX10_progress wsX10_progress ({ frames := 1, cells := 0, slots := 0, locals := 22 }) (va_Pc [.ref w0] (Wd D cA sa [(oX10 w0 v0 v1 v2 v3 v4 g5 g6 (nI ed) g8 v9 (nI nb) g11 g12 v13 g14 g15 g16 g17 g18 g19 g20 g21 g22 g23 g24 g25 g26 v27 v28 v29 v30 v31 v32 v33 v34 v35 v36 v37 (nI ol)), (v0, .inl (cA 0, 326, .inl fs))] sz)) (va_Qi (fun (r : Int32) (_ : Unit) => True) (fun (_ : Unit) t => Wq D (va_A [(oX10 w0 v0 v1 v2 v3 v4 g5 g6 (nI ed) g8 v9 (nI nb) g11 g12 v13 g14 g15 g16 g17 g18 g19 g20 g21 g22 g23 g24 g25 g26 v27 v28 v29 v30 v31 v32 v33 v34 v35 v36 v37 (nI ol)), (v0, .inl (cA 0, 326, .inl fs))] sz) [(oX10 w0 v0 v1 v2 v3 v4 g5 g6 (nI ed) 0 v9 (nI nb) g11 g12 v13 g14 g15 g16 g17 g18 g19 g20 g21 g22 g23 g24 g25 g26 v27 v28 v29 v30 v31 v32 v33 v34 v35 v36 v37 (nI ol)), (v0, .inl (cA 0, 326, .inl fs))] t) (va_A [(oX10 w0 v0 v1 v2 v3 v4 g5 g6 (nI ed) g8 v9 (nI nb) g11 g12 v13 g14 g15 g16 g17 g18 g19 g20 g21 g22 g23 g24 g25 g26 v27 v28 v29 v30 v31 v32 v33 v34 v35 v36 v37 (nI ol)), (v0, .inl (cA 0, 326, .inl fs))] sz)) 0 0 (va_A [(oX10 w0 v0 v1 v2 v3 v4 g5 g6 (nI ed) g8 v9 (nI nb) g11 g12 v13 g14 g15 g16 g17 g18 g19 g20 g21 g22 g23 g24 g25 g26 v27 v28 v29 v30 v31 v32 v33 v34 v35 v36 v37 (nI ol)), (v0, .inl (cA 0, 326, .inl fs))] sz) := by
  refine Met.ofW (cc := cX10_progress) (maxL := 6) (ret := (some .int)) (by decide) rfl ?_
  intro p e s m args below meth c s₁ B hml hv
  obtain ⟨rfl, hsz, hP, hK, hD0, hC, hZ⟩ := hv
  have hx := B.exec
  have hb := B.bytes
  have hr := B.returns
  have hts := atoms_spec (ws := wsX10_progress) B.pre
  have hown : s.vm.findClass RX10 = some m.cls := findClass_of_methodNamed B.named
  have hlocks := B.notSynchronized
  subst hsz
  have hD := hD0.self (sz := s.heap.size)
  generalize hAe : va_A [(oX10 w0 v0 v1 v2 v3 v4 g5 g6 (nI ed) g8 v9 (nI nb) g11 g12 v13 g14 g15 g16 g17 g18 g19 g20 g21 g22 g23 g24 g25 g26 v27 v28 v29 v30 v31 v32 v33 v34 v35 v36 v37 (nI ol)), (v0, .inl (cA 0, 326, .inl fs))] s.heap.size = A at hD hZ ⊢
  have hA : ∀ q : Nat, s.heap.size ≤ q → A q := fun q h => by rw [← hAe]; exact Or.inr h
  have hS : va_S A s.heap s.heap [] := va_S.rf
  have hP : va_P D vwCl [(oX10 w0 v0 v1 v2 v3 v4 g5 g6 (nI ed) g8 v9 (nI nb) g11 g12 v13 g14 g15 g16 g17 g18 g19 g20 g21 g22 g23 g24 g25 g26 v27 v28 v29 v30 v31 v32 v33 v34 v35 v36 v37 (nI ol)), (v0, .inl (cA 0, 326, .inl fs))] s.heap := hP
  have hl := lv_entry ([.ref w0]) (n := 6) (Nat.le_of_ble_eq_true rfl)
  rw [lg_entry_eq]
  generalize (lg_sl ([.ref w0]) ++ List.replicate (6 - (lg_sl ([.ref w0])).length) Slot.unset).toArray = ls at hl ⊢
  have hl : lv_has ls 6 [(0, .ref w0)] := hl
  have inX10 : ∀ w ∈ u_ws RX10 TX10 39, w ∈ wsX10_progress := by decide +kernel
  refine lv_aload_n hx hb dX10_progress_0 rfl (lv_at hl 0 rfl) ?_
  refine lv_iconst (v := 0) hx hb dX10_progress_1 (by decide) ?_
  refine va_put (D := D) (ci := 11) (v := .int 0) (ty := .int) (C := RX10) (T := TX10) (N := 39) hx hb hts inX10 tyX10 tyX10_ok nmX10 hown hK hP hD hS 0 rfl rfl 8 (by decide) (hts (.fieldLink RX10 80 "EscrowDeskModel" "thrown" "I") (by decide +kernel)) (fun _ h9 => h9) rfl (by decide +kernel) rfl rfl (Nat.le_of_ble_eq_true rfl) dX10_progress_2 (fun H locs hP hD hS => ?_)
  obtain ⟨hP, hD⟩ : PDq D A [(oX10 w0 v0 v1 v2 v3 v4 g5 g6 (nI ed) 0 v9 (nI nb) g11 g12 v13 g14 g15 g16 g17 g18 g19 g20 g21 g22 g23 g24 g25 g26 v27 v28 v29 v30 v31 v32 v33 v34 v35 v36 v37 (nI ol)), (v0, .inl (cA 0, 326, .inl fs))] H := ⟨hP, hD⟩
  refine lv_lconst (v := 0) hx hb dX10_progress_5 (by decide) ?_
  refine lv_lstore_n (lv' := [(1, .long 0), (0, .ref w0)]) hx hb dX10_progress_6 rfl hl (by decide) rfl (fun ls hl => ?_)
  refine lv_lconst (v := 0) hx hb dX10_progress_7 (by decide) ?_
  refine lv_lstore_n (lv' := [(3, .long 0), (1, .long 0), (0, .ref w0)]) hx hb dX10_progress_8 rfl hl (by decide) rfl (fun ls hl => ?_)
  refine lv_iconst (v := 0) hx hb dX10_progress_9 (by decide) ?_
  refine lv_istore (lv' := [(5, .int 0), (3, .long 0), (1, .long 0), (0, .ref w0)]) hx hb dX10_progress_10 hl (by decide) rfl (fun ls hl => ?_)
  have loop1 : ∀ (n1 i1 : Nat) (x3_1 : Int64) (x1_1 : Int64) (H : Heap) (locs : List Loc) (ls : Array Slot), i1 + n1 = cn → va_P D vwCl [(oX10 w0 v0 v1 v2 v3 v4 g5 g6 (nI ed) 0 v9 (nI nb) g11 g12 v13 g14 g15 g16 g17 g18 g19 g20 g21 g22 g23 g24 g25 g26 v27 v28 v29 v30 v31 v32 v33 v34 v35 v36 v37 (nI ol)), (v0, .inl (cA 0, 326, .inl fs))] H → va_D A [(oX10 w0 v0 v1 v2 v3 v4 g5 g6 (nI ed) 0 v9 (nI nb) g11 g12 v13 g14 g15 g16 g17 g18 g19 g20 g21 g22 g23 g24 g25 g26 v27 v28 v29 v30 v31 v32 v33 v34 v35 v36 v37 (nI ol)), (v0, .inl (cA 0, 326, .inl fs))] → va_S A s.heap H locs → lv_has ls 6 [(5, .int (nI i1)), (3, .long x3_1), (1, .long x1_1), (0, .ref w0)] → W p l e (headSpec wsX10_progress ({ frames := 1, cells := 0, slots := 0, locals := 22 } : Room)).room s m ([.ref w0] : List Value).toArray below meth c H locs 0 0 (MQ below (va_Qi (fun (r : Int32) (_ : Unit) => True) (fun (_ : Unit) t => Wq D A [(oX10 w0 v0 v1 v2 v3 v4 g5 g6 (nI ed) 0 v9 (nI nb) g11 g12 v13 g14 g15 g16 g17 g18 g19 g20 g21 g22 g23 g24 g25 g26 v27 v28 v29 v30 v31 v32 v33 v34 v35 v36 v37 (nI ol)), (v0, .inl (cA 0, 326, .inl fs))] t) A) ([.ref w0] : List Value).toArray s 0 0 A) (F0 m 12 ls []) := by
    intro n1
    induction n1 with
    | zero =>
      intro i1 x3_1 x1_1 H locs ls hi1 hP hD hS hl
      obtain rfl : cn = i1 := by omega
      refine lv_iload hx hb dX10_progress_12 (lv_at hl 0 rfl) ?_
      refine lv_aload_n hx hb dX10_progress_14 rfl (lv_at hl 3 rfl) ?_
      refine va_get (D := D) (ci := 11) (v := .ref v0) (C := RX10) (T := TX10) (N := 39) hx hb hts inX10 hown hK hP 0 rfl rfl 0 (by decide) (hts (.fieldLink RX10 7 "EscrowDeskModel" "s" "[I") (by decide +kernel)) (fun _ h9 => h9) rfl dX10_progress_15 ?_
      refine lv_bipush (v := 13) hx hb dX10_progress_18 (by decide) ?_
      refine va_iald hx hb hK hP 1 0 rfl rfl (vp_in_iff.mpr (by decide)) dX10_progress_20 ?_
      refine lv_topi (fun yn1 eyn1 => ?_)
      obtain rfl : yn1 = (nI cn) := eyn1.trans hri.1
      refine lv_icmp_ge (tgt := 52) hx hb dX10_progress_21 (by decide) (fun c2 => ?_) (fun c9 => absurd (nI_le (a := cn) (b := cn) (show cn ≤ cn by omega) (by omega)) c9)
      refine lv_lload_n hx hb dX10_progress_52 rfl (lv_at hl 1 rfl) ?_
      refine lv_lconst (v := 0) hx hb dX10_progress_53 (by decide) ?_
      refine W.lcmp hx hb dX10_progress_54 ?_
      refine lv_if_ne (tgt := 62) hx hb dX10_progress_55 (by decide) (fun c3 => ?_) (fun c3 => ?_)
      · skip
        refine lv_lload_n hx hb dX10_progress_62 rfl (lv_at hl 2 rfl) ?_
        refine lv_ldc2 (v := 1000) hx hb hown (hts (.constantLong RX10 343 1000) (by decide +kernel)) dX10_progress_63 ?_
        refine lv_lmul hx hb dX10_progress_66 ?_
        refine lv_topl (fun yn4 eyn4 => ?_)
        refine lv_lload_n hx hb dX10_progress_67 rfl (lv_at hl 1 rfl) ?_
        refine lv_ldiv hx hb dX10_progress_68 (lg_ne3 c3) ?_
        refine lv_topl (fun yn5 eyn5 => ?_)
        refine lv_l2i (v := yn5.toInt32) hx hb dX10_progress_69 rfl ?_
        refine lv_topi (fun yn6 eyn6 => ?_)
        obtain ⟨hP9, hD9⟩ := PDq.sub (ws' := [(oX10 w0 v0 v1 v2 v3 v4 g5 g6 (nI ed) 0 v9 (nI nb) g11 g12 v13 g14 g15 g16 g17 g18 g19 g20 g21 g22 g23 g24 g25 g26 v27 v28 v29 v30 v31 v32 v33 v34 v35 v36 v37 (nI ol)), (v0, .inl (cA 0, 326, .inl fs))]) hP hD [0, 1] (by decide) rfl
        refine W.widen (k := 0) (n := 0) (Nat.le_of_ble_eq_true rfl) (Nat.le_of_ble_eq_true rfl) ?_
        exact (W.iret (v := yn6) hx hb hr (fun t ht hW => ⟨⟨yn6, (), rfl, trivial, by rw [ht]; exact hP9, hD9⟩, hS.F ht⟩) hS.2.2 dX10_progress_70)
      · skip
        refine lv_iconst (v := 0) hx hb dX10_progress_58 (by decide) ?_
        refine lv_goto (tgt := 70) hx hb dX10_progress_59 (by decide) ?_
        obtain ⟨hP9, hD9⟩ := PDq.sub (ws' := [(oX10 w0 v0 v1 v2 v3 v4 g5 g6 (nI ed) 0 v9 (nI nb) g11 g12 v13 g14 g15 g16 g17 g18 g19 g20 g21 g22 g23 g24 g25 g26 v27 v28 v29 v30 v31 v32 v33 v34 v35 v36 v37 (nI ol)), (v0, .inl (cA 0, 326, .inl fs))]) hP hD [0, 1] (by decide) rfl
        refine W.widen (k := 0) (n := 0) (Nat.le_of_ble_eq_true rfl) (Nat.le_of_ble_eq_true rfl) ?_
        exact (W.iret (v := 0) hx hb hr (fun t ht hW => ⟨⟨0, (), rfl, trivial, by rw [ht]; exact hP9, hD9⟩, hS.F ht⟩) hS.2.2 dX10_progress_70)
    | succ n1 ih1 =>
      intro i1 x3_1 x1_1 H locs ls hi1 hP hD hS hl
      refine lv_iload hx hb dX10_progress_12 (lv_at hl 0 rfl) ?_
      refine lv_aload_n hx hb dX10_progress_14 rfl (lv_at hl 3 rfl) ?_
      refine va_get (D := D) (ci := 11) (v := .ref v0) (C := RX10) (T := TX10) (N := 39) hx hb hts inX10 hown hK hP 0 rfl rfl 0 (by decide) (hts (.fieldLink RX10 7 "EscrowDeskModel" "s" "[I") (by decide +kernel)) (fun _ h9 => h9) rfl dX10_progress_15 ?_
      refine lv_bipush (v := 13) hx hb dX10_progress_18 (by decide) ?_
      refine va_iald hx hb hK hP 1 0 rfl rfl (vp_in_iff.mpr (by decide)) dX10_progress_20 ?_
      refine lv_topi (fun yn7 eyn7 => ?_)
      obtain rfl : yn7 = (nI cn) := eyn7.trans hri.1
      refine lv_icmp_ge (tgt := 52) hx hb dX10_progress_21 (by decide) (fun c9 => absurd c9 (nI_ge (a := i1) (b := cn) (show i1 < cn by omega) (by omega))) (fun c8 => ?_)
      refine lv_lload_n hx hb dX10_progress_24 rfl (lv_at hl 2 rfl) ?_
      refine lv_aload_n hx hb dX10_progress_25 rfl (lv_at hl 3 rfl) ?_
      refine lv_iload hx hb dX10_progress_26 (lv_at hl 0 rfl) ?_
      refine lv_iconst (v := 1) hx hb dX10_progress_28 (by decide) ?_
      obtain ⟨hPc, hDc, hFc⟩ := PDq.cut (wc := [(oX10 w0 v0 v1 v2 v3 v4 g5 g6 (nI ed) 0 v9 (nI nb) g11 g12 v13 g14 g15 g16 g17 g18 g19 g20 g21 g22 g23 g24 g25 g26 v27 v28 v29 v30 v31 v32 v33 v34 v35 v36 v37 (nI ol)), (v0, .inl (cA 0, 326, .inl fs))]) hP hD hS hA [0, 1] (by decide) rfl
      refine va_calli (va_runV (As := [.int (nI i1), .int 1]) (rest := [.long x1_1]) ⟨hx, hb, hml, hown, hts⟩ (r_of l D cA sa w0 ed nb ol v0 v1 v2 v3 v4 v9 v13 v27 v28 v29 v30 v31 v32 v33 v34 v35 v36 v37 0 g11 g12 g14 g15 g16 g17 g18 g19 g20 g21 g22 g23 g24 g26 g5 g6 g25 fs i1 1 H.size (by omega) (by omega)) (cwV 2 hts gX10_progress_X10_of rfl rfl rfl (by decide +kernel) ⟨(Nat.le_of_ble_eq_true rfl), (Nat.le_of_ble_eq_true rfl)⟩) ⟨Wd.blind, va_recv hK hPc (ci := 11) (q0 := 0) rfl rfl, fun U hU hW => ⟨rfl, Wd.call hPc hDc hK hC hZ hS hFc U hU hW⟩⟩ rfl rfl hl.1 rfl (lv_room (Nat.le_of_ble_eq_true rfl)) dX10_progress_29 ⟨(Nat.le_of_ble_eq_true rfl), (Nat.le_of_ble_eq_true rfl)⟩) hS (fun q _ h => hFc q h) hFc (fun rn9 u t H1 locs ht hvm hw hB hz1 hk1 hS => ?_)
      obtain ⟨hP1, hD1⟩ := hB
      rw [ht] at hP1
      obtain ⟨hP, hD⟩ := PDq.join (w := [(oX10 w0 v0 v1 v2 v3 v4 g5 g6 (nI ed) 0 v9 (nI nb) g11 g12 v13 g14 g15 g16 g17 g18 g19 g20 g21 g22 g23 g24 g25 g26 v27 v28 v29 v30 v31 v32 v33 v34 v35 v36 v37 (nI ol)), (v0, .inl (cA 0, 326, .inl fs))]) 0 hP hD [0, 1] [] rfl rfl (by decide) (by decide) hk1 hFc hP1 hD1 rfl
      generalize H1 = H at hP hS ⊢
      obtain rfl : rn9 = (fs (16 + 7 * i1 + 1)) := hw
      refine lv_i2l (v := ((fs (16 + 7 * i1 + 1)).toInt64)) hx hb dX10_progress_32 rfl ?_
      refine lv_ladd hx hb dX10_progress_33 ?_
      refine lv_topl (fun yn10 eyn10 => ?_)
      refine lv_lstore_n (lv' := [(1, .long yn10), (5, .int (nI i1)), (3, .long x3_1), (0, .ref w0)]) hx hb dX10_progress_34 rfl hl (by decide) rfl (fun ls hl => ?_)
      refine lv_lload_n hx hb dX10_progress_35 rfl (lv_at hl 2 rfl) ?_
      refine lv_aload_n hx hb dX10_progress_36 rfl (lv_at hl 3 rfl) ?_
      refine lv_iload hx hb dX10_progress_37 (lv_at hl 1 rfl) ?_
      refine lv_iconst (v := 0) hx hb dX10_progress_39 (by decide) ?_
      obtain ⟨hPc, hDc, hFc⟩ := PDq.cut (wc := [(oX10 w0 v0 v1 v2 v3 v4 g5 g6 (nI ed) 0 v9 (nI nb) g11 g12 v13 g14 g15 g16 g17 g18 g19 g20 g21 g22 g23 g24 g25 g26 v27 v28 v29 v30 v31 v32 v33 v34 v35 v36 v37 (nI ol)), (v0, .inl (cA 0, 326, .inl fs))]) hP hD hS hA [0, 1] (by decide) rfl
      refine va_calli (va_runV (As := [.int (nI i1), .int 0]) (rest := [.long x3_1]) ⟨hx, hb, hml, hown, hts⟩ (r_of l D cA sa w0 ed nb ol v0 v1 v2 v3 v4 v9 v13 v27 v28 v29 v30 v31 v32 v33 v34 v35 v36 v37 0 g11 g12 g14 g15 g16 g17 g18 g19 g20 g21 g22 g23 g24 g26 g5 g6 g25 fs i1 0 H.size (by omega) (by omega)) (cwV 2 hts gX10_progress_X10_of rfl rfl rfl (by decide +kernel) ⟨(Nat.le_of_ble_eq_true rfl), (Nat.le_of_ble_eq_true rfl)⟩) ⟨Wd.blind, va_recv hK hPc (ci := 11) (q0 := 0) rfl rfl, fun U hU hW => ⟨rfl, Wd.call hPc hDc hK hC hZ hS hFc U hU hW⟩⟩ rfl rfl hl.1 rfl (lv_room (Nat.le_of_ble_eq_true rfl)) dX10_progress_40 ⟨(Nat.le_of_ble_eq_true rfl), (Nat.le_of_ble_eq_true rfl)⟩) hS (fun q _ h => hFc q h) hFc (fun rn11 u t H1 locs ht hvm hw hB hz1 hk1 hS => ?_)
      obtain ⟨hP1, hD1⟩ := hB
      rw [ht] at hP1
      obtain ⟨hP, hD⟩ := PDq.join (w := [(oX10 w0 v0 v1 v2 v3 v4 g5 g6 (nI ed) 0 v9 (nI nb) g11 g12 v13 g14 g15 g16 g17 g18 g19 g20 g21 g22 g23 g24 g25 g26 v27 v28 v29 v30 v31 v32 v33 v34 v35 v36 v37 (nI ol)), (v0, .inl (cA 0, 326, .inl fs))]) 0 hP hD [0, 1] [] rfl rfl (by decide) (by decide) hk1 hFc hP1 hD1 rfl
      generalize H1 = H at hP hS ⊢
      obtain rfl : rn11 = (fs (16 + 7 * i1 + 0)) := hw
      refine lv_i2l (v := ((fs (16 + 7 * i1 + 0)).toInt64)) hx hb dX10_progress_43 rfl ?_
      refine lv_ladd hx hb dX10_progress_44 ?_
      refine lv_topl (fun yn12 eyn12 => ?_)
      refine lv_lstore_n (lv' := [(3, .long yn12), (1, .long yn10), (5, .int (nI i1)), (0, .ref w0)]) hx hb dX10_progress_45 rfl hl (by decide) rfl (fun ls hl => ?_)
      refine lv_iinc (v := (nI (i1 + 1))) (lv' := [(5, .int (nI (i1 + 1))), (3, .long yn12), (1, .long yn10), (0, .ref w0)]) hx hb dX10_progress_46 hl (k := 2) rfl (nI_1 _) (by decide) rfl (fun ls hl => ?_)
      refine lv_goto (tgt := 12) hx hb dX10_progress_49 (by decide) ?_
      obtain ⟨hP9, hD9⟩ := PDq.sub (ws' := [(oX10 w0 v0 v1 v2 v3 v4 g5 g6 (nI ed) 0 v9 (nI nb) g11 g12 v13 g14 g15 g16 g17 g18 g19 g20 g21 g22 g23 g24 g25 g26 v27 v28 v29 v30 v31 v32 v33 v34 v35 v36 v37 (nI ol)), (v0, .inl (cA 0, 326, .inl fs))]) hP hD [0, 1] (by decide) rfl
      exact ih1 (i1 + 1) yn12 yn10 H _ ls (by omega) hP9 hD9 hS (lv_sub hl [0, 1, 2, 3] rfl)
  obtain ⟨hP9, hD9⟩ := PDq.sub (ws' := [(oX10 w0 v0 v1 v2 v3 v4 g5 g6 (nI ed) 0 v9 (nI nb) g11 g12 v13 g14 g15 g16 g17 g18 g19 g20 g21 g22 g23 g24 g25 g26 v27 v28 v29 v30 v31 v32 v33 v34 v35 v36 v37 (nI ol)), (v0, .inl (cA 0, 326, .inl fs))]) hP hD [0, 1] (by decide) rfl
  exact loop1 (cn - 0) 0 0 0 _ _ ls (by omega) hP9 hD9 hS (lv_sub hl [0, 1, 2, 3] rfl)

set_option maxHeartbeats 4000000 in
set_option maxRecDepth 100000 in
/-- reference: shortage -/
theorem r_shortage (l : Launch) (D : va_G) (cA : Nat → ClassId) (sa : Nat → Nat) (w0 : Nat) (ed : Nat) (nb : Nat) (ol : Nat) (v0 : Nat) (v1 : Nat) (v2 : Nat) (v3 : Nat) (v4 : Nat) (v9 : Nat) (v13 : Nat) (v27 : Nat) (v28 : Nat) (v29 : Nat) (v30 : Nat) (v31 : Nat) (v32 : Nat) (v33 : Nat) (v34 : Nat) (v35 : Nat) (v36 : Nat) (v37 : Nat) (g8 : Int32) (g11 : Int32) (g12 : Int32) (g14 : Int32) (g15 : Int32) (g16 : Int32) (g17 : Int32) (g18 : Int32) (g19 : Int32) (g20 : Int32) (g21 : Int32) (g22 : Int32) (g23 : Int32) (g24 : Int32) (g26 : Int32) (g5 : Int64) (g6 : Int64) (g25 : Int64) (cn : Nat) (pq : Nat) (en : Nat) (dy : Nat) (fs : Nat → Int32) (sz : Nat) (hcn : cn ≤ 10) (hpq : pq ≤ 8) (hen : en ≤ 60) (hdy : dy ≤ 20000) (hri : RI cn pq en dy fs) : Met l yX10_shortage wsX10_shortage ({ frames := 3, cells := 0, slots := 0, locals := 64 }) (va_Pc [.ref w0] (Wd D cA sa [(oX10 w0 v0 v1 v2 v3 v4 g5 g6 (nI ed) g8 v9 (nI nb) g11 g12 v13 g14 g15 g16 g17 g18 g19 g20 g21 g22 g23 g24 g25 g26 v27 v28 v29 v30 v31 v32 v33 v34 v35 v36 v37 (nI ol)), (v0, .inl (cA 0, 326, .inl fs))] sz)) (va_Qi (fun (r : Int32) (_ : Unit) => True) (fun (_ : Unit) t => Wq D (va_A [(oX10 w0 v0 v1 v2 v3 v4 g5 g6 (nI ed) g8 v9 (nI nb) g11 g12 v13 g14 g15 g16 g17 g18 g19 g20 g21 g22 g23 g24 g25 g26 v27 v28 v29 v30 v31 v32 v33 v34 v35 v36 v37 (nI ol)), (v0, .inl (cA 0, 326, .inl fs))] sz) [(oX10 w0 v0 v1 v2 v3 v4 g5 g6 (nI ed) 0 v9 (nI nb) g11 g12 v13 g14 g15 g16 g17 g18 g19 g20 g21 g22 g23 g24 g25 g26 v27 v28 v29 v30 v31 v32 v33 v34 v35 v36 v37 (nI ol)), (v0, .inl (cA 0, 326, .inl fs))] t) (va_A [(oX10 w0 v0 v1 v2 v3 v4 g5 g6 (nI ed) g8 v9 (nI nb) g11 g12 v13 g14 g15 g16 g17 g18 g19 g20 g21 g22 g23 g24 g25 g26 v27 v28 v29 v30 v31 v32 v33 v34 v35 v36 v37 (nI ol)), (v0, .inl (cA 0, 326, .inl fs))] sz)) 0 0 (va_A [(oX10 w0 v0 v1 v2 v3 v4 g5 g6 (nI ed) g8 v9 (nI nb) g11 g12 v13 g14 g15 g16 g17 g18 g19 g20 g21 g22 g23 g24 g25 g26 v27 v28 v29 v30 v31 v32 v33 v34 v35 v36 v37 (nI ol)), (v0, .inl (cA 0, 326, .inl fs))] sz) := by
  refine Met.ofW (cc := cX10_shortage) (maxL := 3) (ret := (some .int)) (by decide) rfl ?_
  intro p e s m args below meth c s₁ B hml hv
  obtain ⟨rfl, hsz, hP, hK, hD0, hC, hZ⟩ := hv
  have hx := B.exec
  have hb := B.bytes
  have hr := B.returns
  have hts := atoms_spec (ws := wsX10_shortage) B.pre
  have hown : s.vm.findClass RX10 = some m.cls := findClass_of_methodNamed B.named
  have hlocks := B.notSynchronized
  subst hsz
  have hD := hD0.self (sz := s.heap.size)
  generalize hAe : va_A [(oX10 w0 v0 v1 v2 v3 v4 g5 g6 (nI ed) g8 v9 (nI nb) g11 g12 v13 g14 g15 g16 g17 g18 g19 g20 g21 g22 g23 g24 g25 g26 v27 v28 v29 v30 v31 v32 v33 v34 v35 v36 v37 (nI ol)), (v0, .inl (cA 0, 326, .inl fs))] s.heap.size = A at hD hZ ⊢
  have hA : ∀ q : Nat, s.heap.size ≤ q → A q := fun q h => by rw [← hAe]; exact Or.inr h
  have hS : va_S A s.heap s.heap [] := va_S.rf
  have hP : va_P D vwCl [(oX10 w0 v0 v1 v2 v3 v4 g5 g6 (nI ed) g8 v9 (nI nb) g11 g12 v13 g14 g15 g16 g17 g18 g19 g20 g21 g22 g23 g24 g25 g26 v27 v28 v29 v30 v31 v32 v33 v34 v35 v36 v37 (nI ol)), (v0, .inl (cA 0, 326, .inl fs))] s.heap := hP
  have hl := lv_entry ([.ref w0]) (n := 3) (Nat.le_of_ble_eq_true rfl)
  rw [lg_entry_eq]
  generalize (lg_sl ([.ref w0]) ++ List.replicate (3 - (lg_sl ([.ref w0])).length) Slot.unset).toArray = ls at hl ⊢
  have hl : lv_has ls 3 [(0, .ref w0)] := hl
  have inX10 : ∀ w ∈ u_ws RX10 TX10 39, w ∈ wsX10_shortage := by decide +kernel
  refine lv_aload_n hx hb dX10_shortage_0 rfl (lv_at hl 0 rfl) ?_
  refine lv_iconst (v := 0) hx hb dX10_shortage_1 (by decide) ?_
  refine va_put (D := D) (ci := 11) (v := .int 0) (ty := .int) (C := RX10) (T := TX10) (N := 39) hx hb hts inX10 tyX10 tyX10_ok nmX10 hown hK hP hD hS 0 rfl rfl 8 (by decide) (hts (.fieldLink RX10 80 "EscrowDeskModel" "thrown" "I") (by decide +kernel)) (fun _ h9 => h9) rfl (by decide +kernel) rfl rfl (Nat.le_of_ble_eq_true rfl) dX10_shortage_2 (fun H locs hP hD hS => ?_)
  obtain ⟨hP, hD⟩ : PDq D A [(oX10 w0 v0 v1 v2 v3 v4 g5 g6 (nI ed) 0 v9 (nI nb) g11 g12 v13 g14 g15 g16 g17 g18 g19 g20 g21 g22 g23 g24 g25 g26 v27 v28 v29 v30 v31 v32 v33 v34 v35 v36 v37 (nI ol)), (v0, .inl (cA 0, 326, .inl fs))] H := ⟨hP, hD⟩
  refine lv_aload_n hx hb dX10_shortage_5 rfl (lv_at hl 0 rfl) ?_
  refine va_get (D := D) (ci := 11) (v := .ref v0) (C := RX10) (T := TX10) (N := 39) hx hb hts inX10 hown hK hP 0 rfl rfl 0 (by decide) (hts (.fieldLink RX10 7 "EscrowDeskModel" "s" "[I") (by decide +kernel)) (fun _ h9 => h9) rfl dX10_shortage_6 ?_
  refine lv_bipush (v := 6) hx hb dX10_shortage_9 (by decide) ?_
  refine va_iald hx hb hK hP 1 0 rfl rfl (vp_in_iff.mpr (by decide)) dX10_shortage_11 ?_
  refine lv_topi (fun yn1 eyn1 => ?_)
  refine lv_ineg hx hb dX10_shortage_12 ?_
  refine lv_topi (fun yn2 eyn2 => ?_)
  refine lv_istore_n (lv' := [(1, .int yn2), (0, .ref w0)]) hx hb dX10_shortage_13 rfl hl (by decide) rfl (fun ls hl => ?_)
  refine lv_iconst (v := 0) hx hb dX10_shortage_14 (by decide) ?_
  refine lv_istore_n (lv' := [(2, .int 0), (1, .int yn2), (0, .ref w0)]) hx hb dX10_shortage_15 rfl hl (by decide) rfl (fun ls hl => ?_)
  have loop1 : ∀ (n1 i1 : Nat) (x1_1 : Int32) (H : Heap) (locs : List Loc) (ls : Array Slot), i1 + n1 = cn → va_P D vwCl [(oX10 w0 v0 v1 v2 v3 v4 g5 g6 (nI ed) 0 v9 (nI nb) g11 g12 v13 g14 g15 g16 g17 g18 g19 g20 g21 g22 g23 g24 g25 g26 v27 v28 v29 v30 v31 v32 v33 v34 v35 v36 v37 (nI ol)), (v0, .inl (cA 0, 326, .inl fs))] H → va_D A [(oX10 w0 v0 v1 v2 v3 v4 g5 g6 (nI ed) 0 v9 (nI nb) g11 g12 v13 g14 g15 g16 g17 g18 g19 g20 g21 g22 g23 g24 g25 g26 v27 v28 v29 v30 v31 v32 v33 v34 v35 v36 v37 (nI ol)), (v0, .inl (cA 0, 326, .inl fs))] → va_S A s.heap H locs → lv_has ls 3 [(2, .int (nI i1)), (1, .int x1_1), (0, .ref w0)] → W p l e (headSpec wsX10_shortage ({ frames := 3, cells := 0, slots := 0, locals := 64 } : Room)).room s m ([.ref w0] : List Value).toArray below meth c H locs 0 0 (MQ below (va_Qi (fun (r : Int32) (_ : Unit) => True) (fun (_ : Unit) t => Wq D A [(oX10 w0 v0 v1 v2 v3 v4 g5 g6 (nI ed) 0 v9 (nI nb) g11 g12 v13 g14 g15 g16 g17 g18 g19 g20 g21 g22 g23 g24 g25 g26 v27 v28 v29 v30 v31 v32 v33 v34 v35 v36 v37 (nI ol)), (v0, .inl (cA 0, 326, .inl fs))] t) A) ([.ref w0] : List Value).toArray s 0 0 A) (F0 m 16 ls []) := by
    intro n1
    induction n1 with
    | zero =>
      intro i1 x1_1 H locs ls hi1 hP hD hS hl
      obtain rfl : cn = i1 := by omega
      refine lv_iload_n hx hb dX10_shortage_16 rfl (lv_at hl 0 rfl) ?_
      refine lv_aload_n hx hb dX10_shortage_17 rfl (lv_at hl 2 rfl) ?_
      refine va_get (D := D) (ci := 11) (v := .ref v0) (C := RX10) (T := TX10) (N := 39) hx hb hts inX10 hown hK hP 0 rfl rfl 0 (by decide) (hts (.fieldLink RX10 7 "EscrowDeskModel" "s" "[I") (by decide +kernel)) (fun _ h9 => h9) rfl dX10_shortage_18 ?_
      refine lv_bipush (v := 13) hx hb dX10_shortage_21 (by decide) ?_
      refine va_iald hx hb hK hP 1 0 rfl rfl (vp_in_iff.mpr (by decide)) dX10_shortage_23 ?_
      refine lv_topi (fun yn3 eyn3 => ?_)
      obtain rfl : yn3 = (nI cn) := eyn3.trans hri.1
      refine lv_icmp_ge (tgt := 41) hx hb dX10_shortage_24 (by decide) (fun c4 => ?_) (fun c9 => absurd (nI_le (a := cn) (b := cn) (show cn ≤ cn by omega) (by omega)) c9)
      refine lv_iconst (v := 0) hx hb dX10_shortage_41 (by decide) ?_
      refine lv_iload_n hx hb dX10_shortage_42 rfl (lv_at hl 1 rfl) ?_
      refine va_mmax hx hb (by rw [hml]; exact hl.1.symm) hown (hts (.methodLink RX10 345 Lib.Math.max.name) (by decide +kernel)) (hts (.static Lib.Math.max.name) (by decide +kernel)) (hts (.initialized "java/lang/Math") (by decide +kernel)) (hts (.code Lib.Math.max.name Lib.Math.max.code 2 (some .int)) (by decide +kernel)) (Nat.le_of_ble_eq_true rfl) (Nat.le_of_ble_eq_true rfl) (Nat.le_of_ble_eq_true rfl) (Nat.le_of_ble_eq_true rfl) dX10_shortage_43 ?_
      refine lv_topi (fun yn5 eyn5 => ?_)
      obtain ⟨hP9, hD9⟩ := PDq.sub (ws' := [(oX10 w0 v0 v1 v2 v3 v4 g5 g6 (nI ed) 0 v9 (nI nb) g11 g12 v13 g14 g15 g16 g17 g18 g19 g20 g21 g22 g23 g24 g25 g26 v27 v28 v29 v30 v31 v32 v33 v34 v35 v36 v37 (nI ol)), (v0, .inl (cA 0, 326, .inl fs))]) hP hD [0, 1] (by decide) rfl
      refine W.widen (k := 0) (n := 0) (Nat.le_of_ble_eq_true rfl) (Nat.le_of_ble_eq_true rfl) ?_
      exact (W.iret (v := yn5) hx hb hr (fun t ht hW => ⟨⟨yn5, (), rfl, trivial, by rw [ht]; exact hP9, hD9⟩, hS.F ht⟩) hS.2.2 dX10_shortage_46)
    | succ n1 ih1 =>
      intro i1 x1_1 H locs ls hi1 hP hD hS hl
      refine lv_iload_n hx hb dX10_shortage_16 rfl (lv_at hl 0 rfl) ?_
      refine lv_aload_n hx hb dX10_shortage_17 rfl (lv_at hl 2 rfl) ?_
      refine va_get (D := D) (ci := 11) (v := .ref v0) (C := RX10) (T := TX10) (N := 39) hx hb hts inX10 hown hK hP 0 rfl rfl 0 (by decide) (hts (.fieldLink RX10 7 "EscrowDeskModel" "s" "[I") (by decide +kernel)) (fun _ h9 => h9) rfl dX10_shortage_18 ?_
      refine lv_bipush (v := 13) hx hb dX10_shortage_21 (by decide) ?_
      refine va_iald hx hb hK hP 1 0 rfl rfl (vp_in_iff.mpr (by decide)) dX10_shortage_23 ?_
      refine lv_topi (fun yn6 eyn6 => ?_)
      obtain rfl : yn6 = (nI cn) := eyn6.trans hri.1
      refine lv_icmp_ge (tgt := 41) hx hb dX10_shortage_24 (by decide) (fun c9 => absurd c9 (nI_ge (a := i1) (b := cn) (show i1 < cn by omega) (by omega))) (fun c7 => ?_)
      refine lv_iload_n hx hb dX10_shortage_27 rfl (lv_at hl 1 rfl) ?_
      refine lv_aload_n hx hb dX10_shortage_28 rfl (lv_at hl 2 rfl) ?_
      refine lv_iload_n hx hb dX10_shortage_29 rfl (lv_at hl 0 rfl) ?_
      obtain ⟨hPc, hDc, hFc⟩ := PDq.cut (wc := [(oX10 w0 v0 v1 v2 v3 v4 g5 g6 (nI ed) 0 v9 (nI nb) g11 g12 v13 g14 g15 g16 g17 g18 g19 g20 g21 g22 g23 g24 g25 g26 v27 v28 v29 v30 v31 v32 v33 v34 v35 v36 v37 (nI ol)), (v0, .inl (cA 0, 326, .inl fs))]) hP hD hS hA [0, 1] (by decide) rfl
      refine va_calli (va_runV (As := [.int (nI i1)]) (rest := [.int x1_1]) ⟨hx, hb, hml, hown, hts⟩ (r_remainingOf l D cA sa w0 ed nb ol v0 v1 v2 v3 v4 v9 v13 v27 v28 v29 v30 v31 v32 v33 v34 v35 v36 v37 0 g11 g12 g14 g15 g16 g17 g18 g19 g20 g21 g22 g23 g24 g26 g5 g6 g25 fs i1 H.size (by omega)) (cwV 1 hts gX10_shortage_X10_remainingOf rfl rfl rfl (by decide +kernel) ⟨(Nat.le_of_ble_eq_true rfl), (Nat.le_of_ble_eq_true rfl)⟩) ⟨Wd.blind, va_recv hK hPc (ci := 11) (q0 := 0) rfl rfl, fun U hU hW => ⟨rfl, Wd.call hPc hDc hK hC hZ hS hFc U hU hW⟩⟩ rfl rfl hl.1 rfl (lv_room (Nat.le_of_ble_eq_true rfl)) dX10_shortage_30 ⟨(Nat.le_of_ble_eq_true rfl), (Nat.le_of_ble_eq_true rfl)⟩) hS (fun q _ h => hFc q h) hFc (fun rn8 u t H1 locs ht hvm hw hB hz1 hk1 hS => ?_)
      obtain ⟨hP1, hD1⟩ := hB
      rw [ht] at hP1
      obtain ⟨hP, hD⟩ := PDq.join (w := [(oX10 w0 v0 v1 v2 v3 v4 g5 g6 (nI ed) 0 v9 (nI nb) g11 g12 v13 g14 g15 g16 g17 g18 g19 g20 g21 g22 g23 g24 g25 g26 v27 v28 v29 v30 v31 v32 v33 v34 v35 v36 v37 (nI ol)), (v0, .inl (cA 0, 326, .inl fs))]) 0 hP hD [0, 1] [] rfl rfl (by decide) (by decide) hk1 hFc hP1 hD1 rfl
      generalize H1 = H at hP hS ⊢
      refine lv_iadd hx hb dX10_shortage_33 ?_
      refine lv_topi (fun yn9 eyn9 => ?_)
      refine lv_istore_n (lv' := [(1, .int yn9), (2, .int (nI i1)), (0, .ref w0)]) hx hb dX10_shortage_34 rfl hl (by decide) rfl (fun ls hl => ?_)
      refine lv_iinc (v := (nI (i1 + 1))) (lv' := [(2, .int (nI (i1 + 1))), (1, .int yn9), (0, .ref w0)]) hx hb dX10_shortage_35 hl (k := 1) rfl (nI_1 _) (by decide) rfl (fun ls hl => ?_)
      refine lv_goto (tgt := 16) hx hb dX10_shortage_38 (by decide) ?_
      obtain ⟨hP9, hD9⟩ := PDq.sub (ws' := [(oX10 w0 v0 v1 v2 v3 v4 g5 g6 (nI ed) 0 v9 (nI nb) g11 g12 v13 g14 g15 g16 g17 g18 g19 g20 g21 g22 g23 g24 g25 g26 v27 v28 v29 v30 v31 v32 v33 v34 v35 v36 v37 (nI ol)), (v0, .inl (cA 0, 326, .inl fs))]) hP hD [0, 1] (by decide) rfl
      exact ih1 (i1 + 1) yn9 H _ ls (by omega) hP9 hD9 hS (lv_sub hl [0, 1, 2] rfl)
  obtain ⟨hP9, hD9⟩ := PDq.sub (ws' := [(oX10 w0 v0 v1 v2 v3 v4 g5 g6 (nI ed) 0 v9 (nI nb) g11 g12 v13 g14 g15 g16 g17 g18 g19 g20 g21 g22 g23 g24 g25 g26 v27 v28 v29 v30 v31 v32 v33 v34 v35 v36 v37 (nI ol)), (v0, .inl (cA 0, 326, .inl fs))]) hP hD [0, 1] (by decide) rfl
  exact loop1 (cn - 0) 0 yn2 _ _ ls (by omega) hP9 hD9 hS (lv_sub hl [0, 1, 2] rfl)

set_option maxHeartbeats 4000000 in
set_option maxRecDepth 100000 in
/-- reference: isShort -/
theorem r_isShort (l : Launch) (D : va_G) (cA : Nat → ClassId) (sa : Nat → Nat) (w0 : Nat) (ed : Nat) (nb : Nat) (ol : Nat) (v0 : Nat) (v1 : Nat) (v2 : Nat) (v3 : Nat) (v4 : Nat) (v9 : Nat) (v13 : Nat) (v27 : Nat) (v28 : Nat) (v29 : Nat) (v30 : Nat) (v31 : Nat) (v32 : Nat) (v33 : Nat) (v34 : Nat) (v35 : Nat) (v36 : Nat) (v37 : Nat) (g8 : Int32) (g11 : Int32) (g12 : Int32) (g14 : Int32) (g15 : Int32) (g16 : Int32) (g17 : Int32) (g18 : Int32) (g19 : Int32) (g20 : Int32) (g21 : Int32) (g22 : Int32) (g23 : Int32) (g24 : Int32) (g26 : Int32) (g5 : Int64) (g6 : Int64) (g25 : Int64) (cn : Nat) (pq : Nat) (en : Nat) (dy : Nat) (fs : Nat → Int32) (sz : Nat) (hcn : cn ≤ 10) (hpq : pq ≤ 8) (hen : en ≤ 60) (hdy : dy ≤ 20000) (hri : RI cn pq en dy fs) : Met l yX10_isShort wsX10_isShort ({ frames := 3, cells := 0, slots := 0, locals := 64 }) (va_Pc [.ref w0] (Wd D cA sa [(oX10 w0 v0 v1 v2 v3 v4 g5 g6 (nI ed) g8 v9 (nI nb) g11 g12 v13 g14 g15 g16 g17 g18 g19 g20 g21 g22 g23 g24 g25 g26 v27 v28 v29 v30 v31 v32 v33 v34 v35 v36 v37 (nI ol)), (v0, .inl (cA 0, 326, .inl fs))] sz)) (va_Qi (fun (r : Int32) (_ : Unit) => r = 0 ∨ r = 1) (fun (_ : Unit) t => Wq D (va_A [(oX10 w0 v0 v1 v2 v3 v4 g5 g6 (nI ed) g8 v9 (nI nb) g11 g12 v13 g14 g15 g16 g17 g18 g19 g20 g21 g22 g23 g24 g25 g26 v27 v28 v29 v30 v31 v32 v33 v34 v35 v36 v37 (nI ol)), (v0, .inl (cA 0, 326, .inl fs))] sz) [(oX10 w0 v0 v1 v2 v3 v4 g5 g6 (nI ed) g8 v9 (nI nb) g11 g12 v13 g14 g15 g16 g17 g18 g19 g20 g21 g22 g23 g24 g25 g26 v27 v28 v29 v30 v31 v32 v33 v34 v35 v36 v37 (nI ol)), (v0, .inl (cA 0, 326, .inl fs))] t) (va_A [(oX10 w0 v0 v1 v2 v3 v4 g5 g6 (nI ed) g8 v9 (nI nb) g11 g12 v13 g14 g15 g16 g17 g18 g19 g20 g21 g22 g23 g24 g25 g26 v27 v28 v29 v30 v31 v32 v33 v34 v35 v36 v37 (nI ol)), (v0, .inl (cA 0, 326, .inl fs))] sz)) 0 0 (va_A [(oX10 w0 v0 v1 v2 v3 v4 g5 g6 (nI ed) g8 v9 (nI nb) g11 g12 v13 g14 g15 g16 g17 g18 g19 g20 g21 g22 g23 g24 g25 g26 v27 v28 v29 v30 v31 v32 v33 v34 v35 v36 v37 (nI ol)), (v0, .inl (cA 0, 326, .inl fs))] sz) := by
  refine Met.ofW (cc := cX10_isShort) (maxL := 3) (ret := (some .boolean)) (by decide) rfl ?_
  intro p e s m args below meth c s₁ B hml hv
  obtain ⟨rfl, hsz, hP, hK, hD0, hC, hZ⟩ := hv
  have hx := B.exec
  have hb := B.bytes
  have hr := B.returns
  have hts := atoms_spec (ws := wsX10_isShort) B.pre
  have hown : s.vm.findClass RX10 = some m.cls := findClass_of_methodNamed B.named
  have hlocks := B.notSynchronized
  subst hsz
  have hD := hD0.self (sz := s.heap.size)
  generalize hAe : va_A [(oX10 w0 v0 v1 v2 v3 v4 g5 g6 (nI ed) g8 v9 (nI nb) g11 g12 v13 g14 g15 g16 g17 g18 g19 g20 g21 g22 g23 g24 g25 g26 v27 v28 v29 v30 v31 v32 v33 v34 v35 v36 v37 (nI ol)), (v0, .inl (cA 0, 326, .inl fs))] s.heap.size = A at hD hZ ⊢
  have hA : ∀ q : Nat, s.heap.size ≤ q → A q := fun q h => by rw [← hAe]; exact Or.inr h
  have hS : va_S A s.heap s.heap [] := va_S.rf
  have hP : va_P D vwCl [(oX10 w0 v0 v1 v2 v3 v4 g5 g6 (nI ed) g8 v9 (nI nb) g11 g12 v13 g14 g15 g16 g17 g18 g19 g20 g21 g22 g23 g24 g25 g26 v27 v28 v29 v30 v31 v32 v33 v34 v35 v36 v37 (nI ol)), (v0, .inl (cA 0, 326, .inl fs))] s.heap := hP
  have hl := lv_entry ([.ref w0]) (n := 3) (Nat.le_of_ble_eq_true rfl)
  rw [lg_entry_eq]
  generalize (lg_sl ([.ref w0]) ++ List.replicate (3 - (lg_sl ([.ref w0])).length) Slot.unset).toArray = ls at hl ⊢
  have hl : lv_has ls 3 [(0, .ref w0)] := hl
  have inX10 : ∀ w ∈ u_ws RX10 TX10 39, w ∈ wsX10_isShort := by decide +kernel
  refine lv_iconst (v := 0) hx hb dX10_isShort_0 (by decide) ?_
  refine lv_istore_n (lv' := [(1, .int 0), (0, .ref w0)]) hx hb dX10_isShort_1 rfl hl (by decide) rfl (fun ls hl => ?_)
  refine lv_iconst (v := 0) hx hb dX10_isShort_2 (by decide) ?_
  refine lv_istore_n (lv' := [(2, .int 0), (1, .int 0), (0, .ref w0)]) hx hb dX10_isShort_3 rfl hl (by decide) rfl (fun ls hl => ?_)
  have loop1 : ∀ (n1 i1 : Nat) (x1_1 : Int32) (H : Heap) (locs : List Loc) (ls : Array Slot), i1 + n1 = cn → x1_1 = 0 ∨ x1_1 = 1 → va_P D vwCl [(oX10 w0 v0 v1 v2 v3 v4 g5 g6 (nI ed) g8 v9 (nI nb) g11 g12 v13 g14 g15 g16 g17 g18 g19 g20 g21 g22 g23 g24 g25 g26 v27 v28 v29 v30 v31 v32 v33 v34 v35 v36 v37 (nI ol)), (v0, .inl (cA 0, 326, .inl fs))] H → va_D A [(oX10 w0 v0 v1 v2 v3 v4 g5 g6 (nI ed) g8 v9 (nI nb) g11 g12 v13 g14 g15 g16 g17 g18 g19 g20 g21 g22 g23 g24 g25 g26 v27 v28 v29 v30 v31 v32 v33 v34 v35 v36 v37 (nI ol)), (v0, .inl (cA 0, 326, .inl fs))] → va_S A s.heap H locs → lv_has ls 3 [(2, .int (nI i1)), (1, .int x1_1), (0, .ref w0)] → W p l e (headSpec wsX10_isShort ({ frames := 3, cells := 0, slots := 0, locals := 64 } : Room)).room s m ([.ref w0] : List Value).toArray below meth c H locs 0 0 (MQ below (va_Qi (fun (r : Int32) (_ : Unit) => r = 0 ∨ r = 1) (fun (_ : Unit) t => Wq D A [(oX10 w0 v0 v1 v2 v3 v4 g5 g6 (nI ed) g8 v9 (nI nb) g11 g12 v13 g14 g15 g16 g17 g18 g19 g20 g21 g22 g23 g24 g25 g26 v27 v28 v29 v30 v31 v32 v33 v34 v35 v36 v37 (nI ol)), (v0, .inl (cA 0, 326, .inl fs))] t) A) ([.ref w0] : List Value).toArray s 0 0 A) (F0 m 4 ls []) := by
    intro n1
    induction n1 with
    | zero =>
      intro i1 x1_1 H locs ls hi1 hb1_1 hP hD hS hl
      obtain rfl : cn = i1 := by omega
      refine lv_iload_n hx hb dX10_isShort_4 rfl (lv_at hl 0 rfl) ?_
      refine lv_aload_n hx hb dX10_isShort_5 rfl (lv_at hl 2 rfl) ?_
      refine va_get (D := D) (ci := 11) (v := .ref v0) (C := RX10) (T := TX10) (N := 39) hx hb hts inX10 hown hK hP 0 rfl rfl 0 (by decide) (hts (.fieldLink RX10 7 "EscrowDeskModel" "s" "[I") (by decide +kernel)) (fun _ h9 => h9) rfl dX10_isShort_6 ?_
      refine lv_bipush (v := 13) hx hb dX10_isShort_9 (by decide) ?_
      refine va_iald hx hb hK hP 1 0 rfl rfl (vp_in_iff.mpr (by decide)) dX10_isShort_11 ?_
      refine lv_topi (fun yn1 eyn1 => ?_)
      obtain rfl : yn1 = (nI cn) := eyn1.trans hri.1
      refine lv_icmp_ge (tgt := 47) hx hb dX10_isShort_12 (by decide) (fun c2 => ?_) (fun c9 => absurd (nI_le (a := cn) (b := cn) (show cn ≤ cn by omega) (by omega)) c9)
      refine lv_iload_n hx hb dX10_isShort_47 rfl (lv_at hl 1 rfl) ?_
      obtain ⟨hP9, hD9⟩ := PDq.sub (ws' := [(oX10 w0 v0 v1 v2 v3 v4 g5 g6 (nI ed) g8 v9 (nI nb) g11 g12 v13 g14 g15 g16 g17 g18 g19 g20 g21 g22 g23 g24 g25 g26 v27 v28 v29 v30 v31 v32 v33 v34 v35 v36 v37 (nI ol)), (v0, .inl (cA 0, 326, .inl fs))]) hP hD [0, 1] (by decide) rfl
      refine W.widen (k := 0) (n := 0) (Nat.le_of_ble_eq_true rfl) (Nat.le_of_ble_eq_true rfl) ?_
      exact (W.zret (v := x1_1) hx hb hr (by rcases hb1_1 with h9 | h9 <;> rw [h9] <;> rfl) (fun t ht hW => ⟨⟨x1_1, (), rfl, hb1_1, by rw [ht]; exact hP9, hD9⟩, hS.F ht⟩) hS.2.2 dX10_isShort_48)
    | succ n1 ih1 =>
      intro i1 x1_1 H locs ls hi1 hb1_1 hP hD hS hl
      refine lv_iload_n hx hb dX10_isShort_4 rfl (lv_at hl 0 rfl) ?_
      refine lv_aload_n hx hb dX10_isShort_5 rfl (lv_at hl 2 rfl) ?_
      refine va_get (D := D) (ci := 11) (v := .ref v0) (C := RX10) (T := TX10) (N := 39) hx hb hts inX10 hown hK hP 0 rfl rfl 0 (by decide) (hts (.fieldLink RX10 7 "EscrowDeskModel" "s" "[I") (by decide +kernel)) (fun _ h9 => h9) rfl dX10_isShort_6 ?_
      refine lv_bipush (v := 13) hx hb dX10_isShort_9 (by decide) ?_
      refine va_iald hx hb hK hP 1 0 rfl rfl (vp_in_iff.mpr (by decide)) dX10_isShort_11 ?_
      refine lv_topi (fun yn3 eyn3 => ?_)
      obtain rfl : yn3 = (nI cn) := eyn3.trans hri.1
      refine lv_icmp_ge (tgt := 47) hx hb dX10_isShort_12 (by decide) (fun c9 => absurd c9 (nI_ge (a := i1) (b := cn) (show i1 < cn by omega) (by omega))) (fun c4 => ?_)
      refine lv_iload_n hx hb dX10_isShort_15 rfl (lv_at hl 1 rfl) ?_
      refine lv_if_ne (tgt := 35) hx hb dX10_isShort_16 (by decide) (fun c5 => ?_) (fun c5 => ?_)
      · skip
        refine lv_iconst (v := 1) hx hb dX10_isShort_35 (by decide) ?_
        refine lv_goto (tgt := 40) hx hb dX10_isShort_36 (by decide) ?_
        refine lv_istore_n (lv' := [(1, .int 1), (2, .int (nI i1)), (0, .ref w0)]) hx hb dX10_isShort_40 rfl hl (by decide) rfl (fun ls hl => ?_)
        refine lv_iinc (v := (nI (i1 + 1))) (lv' := [(2, .int (nI (i1 + 1))), (1, .int 1), (0, .ref w0)]) hx hb dX10_isShort_41 hl (k := 1) rfl (nI_1 _) (by decide) rfl (fun ls hl => ?_)
        refine lv_goto (tgt := 4) hx hb dX10_isShort_44 (by decide) ?_
        obtain ⟨hP9, hD9⟩ := PDq.sub (ws' := [(oX10 w0 v0 v1 v2 v3 v4 g5 g6 (nI ed) g8 v9 (nI nb) g11 g12 v13 g14 g15 g16 g17 g18 g19 g20 g21 g22 g23 g24 g25 g26 v27 v28 v29 v30 v31 v32 v33 v34 v35 v36 v37 (nI ol)), (v0, .inl (cA 0, 326, .inl fs))]) hP hD [0, 1] (by decide) rfl
        exact ih1 (i1 + 1) 1 H _ ls (by omega) (by decide) hP9 hD9 hS (lv_sub hl [0, 1, 2] rfl)
      · skip
        rw [c5] at hl
        have hl : lv_has ls 3 [(2, .int (nI i1)), (1, .int 0), (0, .ref w0)] := hl
        refine lv_aload_n hx hb dX10_isShort_19 rfl (lv_at hl 2 rfl) ?_
        refine lv_iload_n hx hb dX10_isShort_20 rfl (lv_at hl 0 rfl) ?_
        obtain ⟨hPc, hDc, hFc⟩ := PDq.cut (wc := [(oX10 w0 v0 v1 v2 v3 v4 g5 g6 (nI ed) g8 v9 (nI nb) g11 g12 v13 g14 g15 g16 g17 g18 g19 g20 g21 g22 g23 g24 g25 g26 v27 v28 v29 v30 v31 v32 v33 v34 v35 v36 v37 (nI ol)), (v0, .inl (cA 0, 326, .inl fs))]) hP hD hS hA [0, 1] (by decide) rfl
        refine va_calli (va_runV (As := [.int (nI i1)]) (rest := []) ⟨hx, hb, hml, hown, hts⟩ (r_isRipe l D cA sa w0 ed nb ol v0 v1 v2 v3 v4 v9 v13 v27 v28 v29 v30 v31 v32 v33 v34 v35 v36 v37 g8 g11 g12 g14 g15 g16 g17 g18 g19 g20 g21 g22 g23 g24 g26 g5 g6 g25 cn pq en dy fs i1 H.size hcn hpq hen hdy hri (by omega)) (cwV 1 hts gX10_isShort_X10_isRipe rfl rfl rfl (by decide +kernel) ⟨(Nat.le_of_ble_eq_true rfl), (Nat.le_of_ble_eq_true rfl)⟩) ⟨Wd.blind, va_recv hK hPc (ci := 11) (q0 := 0) rfl rfl, fun U hU hW => ⟨rfl, Wd.call hPc hDc hK hC hZ hS hFc U hU hW⟩⟩ rfl rfl hl.1 rfl (lv_room (Nat.le_of_ble_eq_true rfl)) dX10_isShort_21 ⟨(Nat.le_of_ble_eq_true rfl), (Nat.le_of_ble_eq_true rfl)⟩) hS (fun q _ h => hFc q h) hFc (fun rn6 u t H1 locs ht hvm hw hB hz1 hk1 hS => ?_)
        obtain ⟨hP1, hD1⟩ := hB
        rw [ht] at hP1
        obtain ⟨hP, hD⟩ := PDq.join (w := [(oX10 w0 v0 v1 v2 v3 v4 g5 g6 (nI ed) g8 v9 (nI nb) g11 g12 v13 g14 g15 g16 g17 g18 g19 g20 g21 g22 g23 g24 g25 g26 v27 v28 v29 v30 v31 v32 v33 v34 v35 v36 v37 (nI ol)), (v0, .inl (cA 0, 326, .inl fs))]) 0 hP hD [0, 1] [] rfl rfl (by decide) (by decide) hk1 hFc hP1 hD1 rfl
        generalize H1 = H at hP hS ⊢
        have hn7 := hw
        refine lv_if_eq (tgt := 39) hx hb dX10_isShort_24 (by decide) (fun c8 => ?_) (fun c8 => ?_)
        · skip
          refine lv_iconst (v := 0) hx hb dX10_isShort_39 (by decide) ?_
          refine lv_istore_n (lv' := [(1, .int 0), (2, .int (nI i1)), (0, .ref w0)]) hx hb dX10_isShort_40 rfl hl (by decide) rfl (fun ls hl => ?_)
          refine lv_iinc (v := (nI (i1 + 1))) (lv' := [(2, .int (nI (i1 + 1))), (1, .int 0), (0, .ref w0)]) hx hb dX10_isShort_41 hl (k := 1) rfl (nI_1 _) (by decide) rfl (fun ls hl => ?_)
          refine lv_goto (tgt := 4) hx hb dX10_isShort_44 (by decide) ?_
          obtain ⟨hP9, hD9⟩ := PDq.sub (ws' := [(oX10 w0 v0 v1 v2 v3 v4 g5 g6 (nI ed) g8 v9 (nI nb) g11 g12 v13 g14 g15 g16 g17 g18 g19 g20 g21 g22 g23 g24 g25 g26 v27 v28 v29 v30 v31 v32 v33 v34 v35 v36 v37 (nI ol)), (v0, .inl (cA 0, 326, .inl fs))]) hP hD [0, 1] (by decide) rfl
          exact ih1 (i1 + 1) 0 H _ ls (by omega) (by decide) hP9 hD9 hS (lv_sub hl [0, 1, 2] rfl)
        · skip
          refine lv_aload_n hx hb dX10_isShort_27 rfl (lv_at hl 2 rfl) ?_
          refine lv_iload_n hx hb dX10_isShort_28 rfl (lv_at hl 0 rfl) ?_
          obtain ⟨hPc, hDc, hFc⟩ := PDq.cut (wc := [(oX10 w0 v0 v1 v2 v3 v4 g5 g6 (nI ed) g8 v9 (nI nb) g11 g12 v13 g14 g15 g16 g17 g18 g19 g20 g21 g22 g23 g24 g25 g26 v27 v28 v29 v30 v31 v32 v33 v34 v35 v36 v37 (nI ol)), (v0, .inl (cA 0, 326, .inl fs))]) hP hD hS hA [0, 1] (by decide) rfl
          refine va_calli (va_runV (As := [.int (nI i1)]) (rest := []) ⟨hx, hb, hml, hown, hts⟩ (r_remainingOf l D cA sa w0 ed nb ol v0 v1 v2 v3 v4 v9 v13 v27 v28 v29 v30 v31 v32 v33 v34 v35 v36 v37 g8 g11 g12 g14 g15 g16 g17 g18 g19 g20 g21 g22 g23 g24 g26 g5 g6 g25 fs i1 H.size (by omega)) (cwV 1 hts gX10_isShort_X10_remainingOf rfl rfl rfl (by decide +kernel) ⟨(Nat.le_of_ble_eq_true rfl), (Nat.le_of_ble_eq_true rfl)⟩) ⟨Wd.blind, va_recv hK hPc (ci := 11) (q0 := 0) rfl rfl, fun U hU hW => ⟨rfl, Wd.call hPc hDc hK hC hZ hS hFc U hU hW⟩⟩ rfl rfl hl.1 rfl (lv_room (Nat.le_of_ble_eq_true rfl)) dX10_isShort_29 ⟨(Nat.le_of_ble_eq_true rfl), (Nat.le_of_ble_eq_true rfl)⟩) hS (fun q _ h => hFc q h) hFc (fun rn9 u t H1 locs ht hvm hw hB hz1 hk1 hS => ?_)
          obtain ⟨hP1, hD1⟩ := hB
          rw [ht] at hP1
          obtain ⟨hP, hD⟩ := PDq.join (w := [(oX10 w0 v0 v1 v2 v3 v4 g5 g6 (nI ed) g8 v9 (nI nb) g11 g12 v13 g14 g15 g16 g17 g18 g19 g20 g21 g22 g23 g24 g25 g26 v27 v28 v29 v30 v31 v32 v33 v34 v35 v36 v37 (nI ol)), (v0, .inl (cA 0, 326, .inl fs))]) 0 hP hD [0, 1] [] rfl rfl (by decide) (by decide) hk1 hFc hP1 hD1 rfl
          generalize H1 = H at hP hS ⊢
          refine lv_if_le (tgt := 39) hx hb dX10_isShort_32 (by decide) (fun c10 => ?_) (fun c10 => ?_)
          · skip
            refine lv_iconst (v := 0) hx hb dX10_isShort_39 (by decide) ?_
            refine lv_istore_n (lv' := [(1, .int 0), (2, .int (nI i1)), (0, .ref w0)]) hx hb dX10_isShort_40 rfl hl (by decide) rfl (fun ls hl => ?_)
            refine lv_iinc (v := (nI (i1 + 1))) (lv' := [(2, .int (nI (i1 + 1))), (1, .int 0), (0, .ref w0)]) hx hb dX10_isShort_41 hl (k := 1) rfl (nI_1 _) (by decide) rfl (fun ls hl => ?_)
            refine lv_goto (tgt := 4) hx hb dX10_isShort_44 (by decide) ?_
            obtain ⟨hP9, hD9⟩ := PDq.sub (ws' := [(oX10 w0 v0 v1 v2 v3 v4 g5 g6 (nI ed) g8 v9 (nI nb) g11 g12 v13 g14 g15 g16 g17 g18 g19 g20 g21 g22 g23 g24 g25 g26 v27 v28 v29 v30 v31 v32 v33 v34 v35 v36 v37 (nI ol)), (v0, .inl (cA 0, 326, .inl fs))]) hP hD [0, 1] (by decide) rfl
            exact ih1 (i1 + 1) 0 H _ ls (by omega) (by decide) hP9 hD9 hS (lv_sub hl [0, 1, 2] rfl)
          · skip
            refine lv_iconst (v := 1) hx hb dX10_isShort_35 (by decide) ?_
            refine lv_goto (tgt := 40) hx hb dX10_isShort_36 (by decide) ?_
            refine lv_istore_n (lv' := [(1, .int 1), (2, .int (nI i1)), (0, .ref w0)]) hx hb dX10_isShort_40 rfl hl (by decide) rfl (fun ls hl => ?_)
            refine lv_iinc (v := (nI (i1 + 1))) (lv' := [(2, .int (nI (i1 + 1))), (1, .int 1), (0, .ref w0)]) hx hb dX10_isShort_41 hl (k := 1) rfl (nI_1 _) (by decide) rfl (fun ls hl => ?_)
            refine lv_goto (tgt := 4) hx hb dX10_isShort_44 (by decide) ?_
            obtain ⟨hP9, hD9⟩ := PDq.sub (ws' := [(oX10 w0 v0 v1 v2 v3 v4 g5 g6 (nI ed) g8 v9 (nI nb) g11 g12 v13 g14 g15 g16 g17 g18 g19 g20 g21 g22 g23 g24 g25 g26 v27 v28 v29 v30 v31 v32 v33 v34 v35 v36 v37 (nI ol)), (v0, .inl (cA 0, 326, .inl fs))]) hP hD [0, 1] (by decide) rfl
            exact ih1 (i1 + 1) 1 H _ ls (by omega) (by decide) hP9 hD9 hS (lv_sub hl [0, 1, 2] rfl)
  obtain ⟨hP9, hD9⟩ := PDq.sub (ws' := [(oX10 w0 v0 v1 v2 v3 v4 g5 g6 (nI ed) g8 v9 (nI nb) g11 g12 v13 g14 g15 g16 g17 g18 g19 g20 g21 g22 g23 g24 g25 g26 v27 v28 v29 v30 v31 v32 v33 v34 v35 v36 v37 (nI ol)), (v0, .inl (cA 0, 326, .inl fs))]) hP hD [0, 1] (by decide) rfl
  exact loop1 (cn - 0) 0 0 _ _ ls (by omega) (by decide) hP9 hD9 hS (lv_sub hl [0, 1, 2] rfl)

set_option maxHeartbeats 4000000 in
set_option maxRecDepth 100000 in
/-- reference: ofEntry -/
theorem r_ofEntry (l : Launch) (D : va_G) (cA : Nat → ClassId) (sa : Nat → Nat) (w0 : Nat) (ed : Nat) (nb : Nat) (ol : Nat) (v0 : Nat) (v1 : Nat) (v2 : Nat) (v3 : Nat) (v4 : Nat) (v9 : Nat) (v13 : Nat) (v27 : Nat) (v28 : Nat) (v29 : Nat) (v30 : Nat) (v31 : Nat) (v32 : Nat) (v33 : Nat) (v34 : Nat) (v35 : Nat) (v36 : Nat) (v37 : Nat) (g8 : Int32) (g11 : Int32) (g12 : Int32) (g14 : Int32) (g15 : Int32) (g16 : Int32) (g17 : Int32) (g18 : Int32) (g19 : Int32) (g20 : Int32) (g21 : Int32) (g22 : Int32) (g23 : Int32) (g24 : Int32) (g26 : Int32) (g5 : Int64) (g6 : Int64) (g25 : Int64) (fs : Nat → Int32) (k : Nat) (w : Nat) (sz : Nat) (hk : k < 60) (hw4 : w < 4) : Met l yX10_ofEntry wsX10_ofEntry ({ frames := 0, cells := 0, slots := 0, locals := 0 }) (va_Pc [.ref w0, .int (nI k), .int (nI w)] (Wd D cA sa [(oX10 w0 v0 v1 v2 v3 v4 g5 g6 (nI ed) g8 v9 (nI nb) g11 g12 v13 g14 g15 g16 g17 g18 g19 g20 g21 g22 g23 g24 g25 g26 v27 v28 v29 v30 v31 v32 v33 v34 v35 v36 v37 (nI ol)), (v0, .inl (cA 0, 326, .inl fs))] sz)) (va_Qi (fun (r : Int32) (_ : Unit) => True) (fun (_ : Unit) t => Wq D (va_A [(oX10 w0 v0 v1 v2 v3 v4 g5 g6 (nI ed) g8 v9 (nI nb) g11 g12 v13 g14 g15 g16 g17 g18 g19 g20 g21 g22 g23 g24 g25 g26 v27 v28 v29 v30 v31 v32 v33 v34 v35 v36 v37 (nI ol)), (v0, .inl (cA 0, 326, .inl fs))] sz) [(oX10 w0 v0 v1 v2 v3 v4 g5 g6 (nI ed) g8 v9 (nI nb) g11 g12 v13 g14 g15 g16 g17 g18 g19 g20 g21 g22 g23 g24 g25 g26 v27 v28 v29 v30 v31 v32 v33 v34 v35 v36 v37 (nI ol)), (v0, .inl (cA 0, 326, .inl fs))] t) (va_A [(oX10 w0 v0 v1 v2 v3 v4 g5 g6 (nI ed) g8 v9 (nI nb) g11 g12 v13 g14 g15 g16 g17 g18 g19 g20 g21 g22 g23 g24 g25 g26 v27 v28 v29 v30 v31 v32 v33 v34 v35 v36 v37 (nI ol)), (v0, .inl (cA 0, 326, .inl fs))] sz)) 0 0 (va_A [(oX10 w0 v0 v1 v2 v3 v4 g5 g6 (nI ed) g8 v9 (nI nb) g11 g12 v13 g14 g15 g16 g17 g18 g19 g20 g21 g22 g23 g24 g25 g26 v27 v28 v29 v30 v31 v32 v33 v34 v35 v36 v37 (nI ol)), (v0, .inl (cA 0, 326, .inl fs))] sz) := by
  refine Met.ofW (cc := cX10_ofEntry) (maxL := 3) (ret := (some .int)) (by decide) rfl ?_
  intro p e s m args below meth c s₁ B hml hv
  obtain ⟨rfl, hsz, hP, hK, hD0, hC, hZ⟩ := hv
  have hx := B.exec
  have hb := B.bytes
  have hr := B.returns
  have hts := atoms_spec (ws := wsX10_ofEntry) B.pre
  have hown : s.vm.findClass RX10 = some m.cls := findClass_of_methodNamed B.named
  have hlocks := B.notSynchronized
  subst hsz
  have hD := hD0.self (sz := s.heap.size)
  generalize hAe : va_A [(oX10 w0 v0 v1 v2 v3 v4 g5 g6 (nI ed) g8 v9 (nI nb) g11 g12 v13 g14 g15 g16 g17 g18 g19 g20 g21 g22 g23 g24 g25 g26 v27 v28 v29 v30 v31 v32 v33 v34 v35 v36 v37 (nI ol)), (v0, .inl (cA 0, 326, .inl fs))] s.heap.size = A at hD hZ ⊢
  have hA : ∀ q : Nat, s.heap.size ≤ q → A q := fun q h => by rw [← hAe]; exact Or.inr h
  have hS : va_S A s.heap s.heap [] := va_S.rf
  have hP : va_P D vwCl [(oX10 w0 v0 v1 v2 v3 v4 g5 g6 (nI ed) g8 v9 (nI nb) g11 g12 v13 g14 g15 g16 g17 g18 g19 g20 g21 g22 g23 g24 g25 g26 v27 v28 v29 v30 v31 v32 v33 v34 v35 v36 v37 (nI ol)), (v0, .inl (cA 0, 326, .inl fs))] s.heap := hP
  have hl := lv_entry ([.ref w0, .int (nI k), .int (nI w)]) (n := 3) (Nat.le_of_ble_eq_true rfl)
  rw [lg_entry_eq]
  generalize (lg_sl ([.ref w0, .int (nI k), .int (nI w)]) ++ List.replicate (3 - (lg_sl ([.ref w0, .int (nI k), .int (nI w)])).length) Slot.unset).toArray = ls at hl ⊢
  have hl : lv_has ls 3 [(0, .ref w0), (1, .int (nI k)), (2, .int (nI w))] := hl
  have inX10 : ∀ w ∈ u_ws RX10 TX10 39, w ∈ wsX10_ofEntry := by decide +kernel
  refine lv_aload_n hx hb dX10_ofEntry_0 rfl (lv_at hl 0 rfl) ?_
  refine va_get (D := D) (ci := 11) (v := .ref v0) (C := RX10) (T := TX10) (N := 39) hx hb hts inX10 hown hK hP 0 rfl rfl 0 (by decide) (hts (.fieldLink RX10 7 "EscrowDeskModel" "s" "[I") (by decide +kernel)) (fun _ h9 => h9) rfl dX10_ofEntry_1 ?_
  refine lv_bipush (v := 86) hx hb dX10_ofEntry_4 (by decide) ?_
  refine lv_iconst (v := 4) hx hb dX10_ofEntry_6 (by decide) ?_
  refine lv_iload_n hx hb dX10_ofEntry_7 rfl (lv_at hl 1 rfl) ?_
  refine lv_imul hx hb dX10_ofEntry_8 ?_
  refine lv_topi (fun yn1 eyn1 => ?_)
  obtain rfl : yn1 = (nI (4 * k)) := eyn1.trans (nI_mul 4 k)
  refine lv_iadd hx hb dX10_ofEntry_9 ?_
  refine lv_topi (fun yn2 eyn2 => ?_)
  obtain rfl : yn2 = (nI (86 + (4 * k))) := eyn2.trans (nI_add 86 (4 * k))
  refine lv_iload_n hx hb dX10_ofEntry_10 rfl (lv_at hl 2 rfl) ?_
  refine lv_iadd hx hb dX10_ofEntry_11 ?_
  refine lv_topi (fun yn3 eyn3 => ?_)
  obtain rfl : yn3 = (nI ((86 + (4 * k)) + w)) := eyn3.trans (nI_add (86 + (4 * k)) w)
  refine va_iald hx hb hK hP 1 0 rfl rfl (vp_in_nI (n := ((86 + (4 * k)) + w)) (N := 326) (show ((86 + (4 * k)) + w) < 326 by omega) (by decide)) dX10_ofEntry_12 ?_
  refine lv_topi (fun yn4 eyn4 => ?_)
  obtain ⟨hP9, hD9⟩ := PDq.sub (ws' := [(oX10 w0 v0 v1 v2 v3 v4 g5 g6 (nI ed) g8 v9 (nI nb) g11 g12 v13 g14 g15 g16 g17 g18 g19 g20 g21 g22 g23 g24 g25 g26 v27 v28 v29 v30 v31 v32 v33 v34 v35 v36 v37 (nI ol)), (v0, .inl (cA 0, 326, .inl fs))]) hP hD [0, 1] (by decide) rfl
  refine W.widen (k := 0) (n := 0) (Nat.le_of_ble_eq_true rfl) (Nat.le_of_ble_eq_true rfl) ?_
  exact (W.iret (v := yn4) hx hb hr (fun t ht hW => ⟨⟨yn4, (), rfl, trivial, by rw [ht]; exact hP9, hD9⟩, hS.F ht⟩) hS.2.2 dX10_ofEntry_13)

set_option maxHeartbeats 4000000 in
set_option maxRecDepth 100000 in
/-- reference: sumOn -/
theorem r_sumOn (l : Launch) (D : va_G) (cA : Nat → ClassId) (sa : Nat → Nat) (w0 : Nat) (ed : Nat) (nb : Nat) (ol : Nat) (v0 : Nat) (v1 : Nat) (v2 : Nat) (v3 : Nat) (v4 : Nat) (v9 : Nat) (v13 : Nat) (v27 : Nat) (v28 : Nat) (v29 : Nat) (v30 : Nat) (v31 : Nat) (v32 : Nat) (v33 : Nat) (v34 : Nat) (v35 : Nat) (v36 : Nat) (v37 : Nat) (g8 : Int32) (g11 : Int32) (g12 : Int32) (g14 : Int32) (g15 : Int32) (g16 : Int32) (g17 : Int32) (g18 : Int32) (g19 : Int32) (g20 : Int32) (g21 : Int32) (g22 : Int32) (g23 : Int32) (g24 : Int32) (g26 : Int32) (g5 : Int64) (g6 : Int64) (g25 : Int64) (cn : Nat) (pq : Nat) (en : Nat) (dy : Nat) (fs : Nat → Int32) (a : Int32) (b : Int32) (sz : Nat) (hcn : cn ≤ 10) (hpq : pq ≤ 8) (hen : en ≤ 60) (hdy : dy ≤ 20000) (hri : RI cn pq en dy fs) : Met l yX10_sumOn wsX10_sumOn ({ frames := 1, cells := 0, slots := 0, locals := 22 }) (va_Pc [.ref w0, .int a, .int b] (Wd D cA sa [(oX10 w0 v0 v1 v2 v3 v4 g5 g6 (nI ed) g8 v9 (nI nb) g11 g12 v13 g14 g15 g16 g17 g18 g19 g20 g21 g22 g23 g24 g25 g26 v27 v28 v29 v30 v31 v32 v33 v34 v35 v36 v37 (nI ol)), (v0, .inl (cA 0, 326, .inl fs))] sz)) (va_Ql (fun (r : Int64) (_ : Unit) => True) (fun (_ : Unit) t => Wq D (va_A [(oX10 w0 v0 v1 v2 v3 v4 g5 g6 (nI ed) g8 v9 (nI nb) g11 g12 v13 g14 g15 g16 g17 g18 g19 g20 g21 g22 g23 g24 g25 g26 v27 v28 v29 v30 v31 v32 v33 v34 v35 v36 v37 (nI ol)), (v0, .inl (cA 0, 326, .inl fs))] sz) [(oX10 w0 v0 v1 v2 v3 v4 g5 g6 (nI ed) g8 v9 (nI nb) g11 g12 v13 g14 g15 g16 g17 g18 g19 g20 g21 g22 g23 g24 g25 g26 v27 v28 v29 v30 v31 v32 v33 v34 v35 v36 v37 (nI ol)), (v0, .inl (cA 0, 326, .inl fs))] t) (va_A [(oX10 w0 v0 v1 v2 v3 v4 g5 g6 (nI ed) g8 v9 (nI nb) g11 g12 v13 g14 g15 g16 g17 g18 g19 g20 g21 g22 g23 g24 g25 g26 v27 v28 v29 v30 v31 v32 v33 v34 v35 v36 v37 (nI ol)), (v0, .inl (cA 0, 326, .inl fs))] sz)) 0 0 (va_A [(oX10 w0 v0 v1 v2 v3 v4 g5 g6 (nI ed) g8 v9 (nI nb) g11 g12 v13 g14 g15 g16 g17 g18 g19 g20 g21 g22 g23 g24 g25 g26 v27 v28 v29 v30 v31 v32 v33 v34 v35 v36 v37 (nI ol)), (v0, .inl (cA 0, 326, .inl fs))] sz) := by
  refine Met.ofW (cc := cX10_sumOn) (maxL := 6) (ret := (some .long)) (by decide) rfl ?_
  intro p e s m args below meth c s₁ B hml hv
  obtain ⟨rfl, hsz, hP, hK, hD0, hC, hZ⟩ := hv
  have hx := B.exec
  have hb := B.bytes
  have hr := B.returns
  have hts := atoms_spec (ws := wsX10_sumOn) B.pre
  have hown : s.vm.findClass RX10 = some m.cls := findClass_of_methodNamed B.named
  have hlocks := B.notSynchronized
  subst hsz
  have hD := hD0.self (sz := s.heap.size)
  generalize hAe : va_A [(oX10 w0 v0 v1 v2 v3 v4 g5 g6 (nI ed) g8 v9 (nI nb) g11 g12 v13 g14 g15 g16 g17 g18 g19 g20 g21 g22 g23 g24 g25 g26 v27 v28 v29 v30 v31 v32 v33 v34 v35 v36 v37 (nI ol)), (v0, .inl (cA 0, 326, .inl fs))] s.heap.size = A at hD hZ ⊢
  have hA : ∀ q : Nat, s.heap.size ≤ q → A q := fun q h => by rw [← hAe]; exact Or.inr h
  have hS : va_S A s.heap s.heap [] := va_S.rf
  have hP : va_P D vwCl [(oX10 w0 v0 v1 v2 v3 v4 g5 g6 (nI ed) g8 v9 (nI nb) g11 g12 v13 g14 g15 g16 g17 g18 g19 g20 g21 g22 g23 g24 g25 g26 v27 v28 v29 v30 v31 v32 v33 v34 v35 v36 v37 (nI ol)), (v0, .inl (cA 0, 326, .inl fs))] s.heap := hP
  have hl := lv_entry ([.ref w0, .int a, .int b]) (n := 6) (Nat.le_of_ble_eq_true rfl)
  rw [lg_entry_eq]
  generalize (lg_sl ([.ref w0, .int a, .int b]) ++ List.replicate (6 - (lg_sl ([.ref w0, .int a, .int b])).length) Slot.unset).toArray = ls at hl ⊢
  have hl : lv_has ls 6 [(0, .ref w0), (1, .int a), (2, .int b)] := hl
  have inX10 : ∀ w ∈ u_ws RX10 TX10 39, w ∈ wsX10_sumOn := by decide +kernel
  refine lv_lconst (v := 0) hx hb dX10_sumOn_0 (by decide) ?_
  refine lv_lstore_n (lv' := [(3, .long 0), (0, .ref w0), (1, .int a), (2, .int b)]) hx hb dX10_sumOn_1 rfl hl (by decide) rfl (fun ls hl => ?_)
  refine lv_iconst (v := 0) hx hb dX10_sumOn_2 (by decide) ?_
  refine lv_istore (lv' := [(5, .int 0), (3, .long 0), (0, .ref w0), (1, .int a), (2, .int b)]) hx hb dX10_sumOn_3 hl (by decide) rfl (fun ls hl => ?_)
  have loop1 : ∀ (n1 i1 : Nat) (x3_1 : Int64) (H : Heap) (locs : List Loc) (ls : Array Slot), i1 + n1 = en → va_P D vwCl [(oX10 w0 v0 v1 v2 v3 v4 g5 g6 (nI ed) g8 v9 (nI nb) g11 g12 v13 g14 g15 g16 g17 g18 g19 g20 g21 g22 g23 g24 g25 g26 v27 v28 v29 v30 v31 v32 v33 v34 v35 v36 v37 (nI ol)), (v0, .inl (cA 0, 326, .inl fs))] H → va_D A [(oX10 w0 v0 v1 v2 v3 v4 g5 g6 (nI ed) g8 v9 (nI nb) g11 g12 v13 g14 g15 g16 g17 g18 g19 g20 g21 g22 g23 g24 g25 g26 v27 v28 v29 v30 v31 v32 v33 v34 v35 v36 v37 (nI ol)), (v0, .inl (cA 0, 326, .inl fs))] → va_S A s.heap H locs → lv_has ls 6 [(5, .int (nI i1)), (3, .long x3_1), (0, .ref w0), (1, .int a), (2, .int b)] → W p l e (headSpec wsX10_sumOn ({ frames := 1, cells := 0, slots := 0, locals := 22 } : Room)).room s m ([.ref w0, .int a, .int b] : List Value).toArray below meth c H locs 0 0 (MQ below (va_Ql (fun (r : Int64) (_ : Unit) => True) (fun (_ : Unit) t => Wq D A [(oX10 w0 v0 v1 v2 v3 v4 g5 g6 (nI ed) g8 v9 (nI nb) g11 g12 v13 g14 g15 g16 g17 g18 g19 g20 g21 g22 g23 g24 g25 g26 v27 v28 v29 v30 v31 v32 v33 v34 v35 v36 v37 (nI ol)), (v0, .inl (cA 0, 326, .inl fs))] t) A) ([.ref w0, .int a, .int b] : List Value).toArray s 0 0 A) (F0 m 5 ls []) := by
    intro n1
    induction n1 with
    | zero =>
      intro i1 x3_1 H locs ls hi1 hP hD hS hl
      obtain rfl : en = i1 := by omega
      refine lv_iload hx hb dX10_sumOn_5 (lv_at hl 0 rfl) ?_
      refine lv_aload_n hx hb dX10_sumOn_7 rfl (lv_at hl 2 rfl) ?_
      refine va_get (D := D) (ci := 11) (v := .ref v0) (C := RX10) (T := TX10) (N := 39) hx hb hts inX10 hown hK hP 0 rfl rfl 0 (by decide) (hts (.fieldLink RX10 7 "EscrowDeskModel" "s" "[I") (by decide +kernel)) (fun _ h9 => h9) rfl dX10_sumOn_8 ?_
      refine lv_bipush (v := 15) hx hb dX10_sumOn_11 (by decide) ?_
      refine va_iald hx hb hK hP 1 0 rfl rfl (vp_in_iff.mpr (by decide)) dX10_sumOn_13 ?_
      refine lv_topi (fun yn1 eyn1 => ?_)
      obtain rfl : yn1 = (nI en) := eyn1.trans hri.2.2.1
      refine lv_icmp_ge (tgt := 60) hx hb dX10_sumOn_14 (by decide) (fun c2 => ?_) (fun c9 => absurd (nI_le (a := en) (b := en) (show en ≤ en by omega) (by omega)) c9)
      refine lv_lload_n hx hb dX10_sumOn_60 rfl (lv_at hl 1 rfl) ?_
      obtain ⟨hP9, hD9⟩ := PDq.sub (ws' := [(oX10 w0 v0 v1 v2 v3 v4 g5 g6 (nI ed) g8 v9 (nI nb) g11 g12 v13 g14 g15 g16 g17 g18 g19 g20 g21 g22 g23 g24 g25 g26 v27 v28 v29 v30 v31 v32 v33 v34 v35 v36 v37 (nI ol)), (v0, .inl (cA 0, 326, .inl fs))]) hP hD [0, 1] (by decide) rfl
      refine W.widen (k := 0) (n := 0) (Nat.le_of_ble_eq_true rfl) (Nat.le_of_ble_eq_true rfl) ?_
      exact (W.lret (v := x3_1) hx hb hr (fun t ht hW => ⟨⟨x3_1, (), rfl, trivial, by rw [ht]; exact hP9, hD9⟩, hS.F ht⟩) hS.2.2 dX10_sumOn_61)
    | succ n1 ih1 =>
      intro i1 x3_1 H locs ls hi1 hP hD hS hl
      refine lv_iload hx hb dX10_sumOn_5 (lv_at hl 0 rfl) ?_
      refine lv_aload_n hx hb dX10_sumOn_7 rfl (lv_at hl 2 rfl) ?_
      refine va_get (D := D) (ci := 11) (v := .ref v0) (C := RX10) (T := TX10) (N := 39) hx hb hts inX10 hown hK hP 0 rfl rfl 0 (by decide) (hts (.fieldLink RX10 7 "EscrowDeskModel" "s" "[I") (by decide +kernel)) (fun _ h9 => h9) rfl dX10_sumOn_8 ?_
      refine lv_bipush (v := 15) hx hb dX10_sumOn_11 (by decide) ?_
      refine va_iald hx hb hK hP 1 0 rfl rfl (vp_in_iff.mpr (by decide)) dX10_sumOn_13 ?_
      refine lv_topi (fun yn3 eyn3 => ?_)
      obtain rfl : yn3 = (nI en) := eyn3.trans hri.2.2.1
      refine lv_icmp_ge (tgt := 60) hx hb dX10_sumOn_14 (by decide) (fun c9 => absurd c9 (nI_ge (a := i1) (b := en) (show i1 < en by omega) (by omega))) (fun c4 => ?_)
      refine lv_lload_n hx hb dX10_sumOn_17 rfl (lv_at hl 1 rfl) ?_
      refine lv_aload_n hx hb dX10_sumOn_18 rfl (lv_at hl 2 rfl) ?_
      refine lv_iload hx hb dX10_sumOn_19 (lv_at hl 0 rfl) ?_
      refine lv_iconst (v := 0) hx hb dX10_sumOn_21 (by decide) ?_
      obtain ⟨hPc, hDc, hFc⟩ := PDq.cut (wc := [(oX10 w0 v0 v1 v2 v3 v4 g5 g6 (nI ed) g8 v9 (nI nb) g11 g12 v13 g14 g15 g16 g17 g18 g19 g20 g21 g22 g23 g24 g25 g26 v27 v28 v29 v30 v31 v32 v33 v34 v35 v36 v37 (nI ol)), (v0, .inl (cA 0, 326, .inl fs))]) hP hD hS hA [0, 1] (by decide) rfl
      refine va_calli (va_runV (As := [.int (nI i1), .int 0]) (rest := [.long x3_1]) ⟨hx, hb, hml, hown, hts⟩ (r_ofEntry l D cA sa w0 ed nb ol v0 v1 v2 v3 v4 v9 v13 v27 v28 v29 v30 v31 v32 v33 v34 v35 v36 v37 g8 g11 g12 g14 g15 g16 g17 g18 g19 g20 g21 g22 g23 g24 g26 g5 g6 g25 fs i1 0 H.size (by omega) (by omega)) (cwV 2 hts gX10_sumOn_X10_ofEntry rfl rfl rfl (by decide +kernel) ⟨(Nat.le_of_ble_eq_true rfl), (Nat.le_of_ble_eq_true rfl)⟩) ⟨Wd.blind, va_recv hK hPc (ci := 11) (q0 := 0) rfl rfl, fun U hU hW => ⟨rfl, Wd.call hPc hDc hK hC hZ hS hFc U hU hW⟩⟩ rfl rfl hl.1 rfl (lv_room (Nat.le_of_ble_eq_true rfl)) dX10_sumOn_22 ⟨(Nat.le_of_ble_eq_true rfl), (Nat.le_of_ble_eq_true rfl)⟩) hS (fun q _ h => hFc q h) hFc (fun rn5 u t H1 locs ht hvm hw hB hz1 hk1 hS => ?_)
      obtain ⟨hP1, hD1⟩ := hB
      rw [ht] at hP1
      obtain ⟨hP, hD⟩ := PDq.join (w := [(oX10 w0 v0 v1 v2 v3 v4 g5 g6 (nI ed) g8 v9 (nI nb) g11 g12 v13 g14 g15 g16 g17 g18 g19 g20 g21 g22 g23 g24 g25 g26 v27 v28 v29 v30 v31 v32 v33 v34 v35 v36 v37 (nI ol)), (v0, .inl (cA 0, 326, .inl fs))]) 0 hP hD [0, 1] [] rfl rfl (by decide) (by decide) hk1 hFc hP1 hD1 rfl
      generalize H1 = H at hP hS ⊢
      refine lv_iload_n hx hb dX10_sumOn_25 rfl (lv_at hl 4 rfl) ?_
      refine lv_icmp_ne (tgt := 51) hx hb dX10_sumOn_26 (by decide) (fun c6 => ?_) (fun c6 => ?_)
      · skip
        refine lv_lconst (v := 0) hx hb dX10_sumOn_51 (by decide) ?_
        refine lv_ladd hx hb dX10_sumOn_52 ?_
        refine lv_topl (fun yn7 eyn7 => ?_)
        refine lv_lstore_n (lv' := [(3, .long yn7), (5, .int (nI i1)), (0, .ref w0), (1, .int a), (2, .int b)]) hx hb dX10_sumOn_53 rfl hl (by decide) rfl (fun ls hl => ?_)
        refine lv_iinc (v := (nI (i1 + 1))) (lv' := [(5, .int (nI (i1 + 1))), (3, .long yn7), (0, .ref w0), (1, .int a), (2, .int b)]) hx hb dX10_sumOn_54 hl (k := 1) rfl (nI_1 _) (by decide) rfl (fun ls hl => ?_)
        refine lv_goto (tgt := 5) hx hb dX10_sumOn_57 (by decide) ?_
        obtain ⟨hP9, hD9⟩ := PDq.sub (ws' := [(oX10 w0 v0 v1 v2 v3 v4 g5 g6 (nI ed) g8 v9 (nI nb) g11 g12 v13 g14 g15 g16 g17 g18 g19 g20 g21 g22 g23 g24 g25 g26 v27 v28 v29 v30 v31 v32 v33 v34 v35 v36 v37 (nI ol)), (v0, .inl (cA 0, 326, .inl fs))]) hP hD [0, 1] (by decide) rfl
        exact ih1 (i1 + 1) yn7 H _ ls (by omega) hP9 hD9 hS (lv_sub hl [0, 1, 2, 3, 4] rfl)
      · skip
        refine lv_aload_n hx hb dX10_sumOn_29 rfl (lv_at hl 2 rfl) ?_
        refine lv_iload hx hb dX10_sumOn_30 (lv_at hl 0 rfl) ?_
        refine lv_iconst (v := 1) hx hb dX10_sumOn_32 (by decide) ?_
        obtain ⟨hPc, hDc, hFc⟩ := PDq.cut (wc := [(oX10 w0 v0 v1 v2 v3 v4 g5 g6 (nI ed) g8 v9 (nI nb) g11 g12 v13 g14 g15 g16 g17 g18 g19 g20 g21 g22 g23 g24 g25 g26 v27 v28 v29 v30 v31 v32 v33 v34 v35 v36 v37 (nI ol)), (v0, .inl (cA 0, 326, .inl fs))]) hP hD hS hA [0, 1] (by decide) rfl
        refine va_calli (va_runV (As := [.int (nI i1), .int 1]) (rest := [.long x3_1]) ⟨hx, hb, hml, hown, hts⟩ (r_ofEntry l D cA sa w0 ed nb ol v0 v1 v2 v3 v4 v9 v13 v27 v28 v29 v30 v31 v32 v33 v34 v35 v36 v37 g8 g11 g12 g14 g15 g16 g17 g18 g19 g20 g21 g22 g23 g24 g26 g5 g6 g25 fs i1 1 H.size (by omega) (by omega)) (cwV 2 hts gX10_sumOn_X10_ofEntry rfl rfl rfl (by decide +kernel) ⟨(Nat.le_of_ble_eq_true rfl), (Nat.le_of_ble_eq_true rfl)⟩) ⟨Wd.blind, va_recv hK hPc (ci := 11) (q0 := 0) rfl rfl, fun U hU hW => ⟨rfl, Wd.call hPc hDc hK hC hZ hS hFc U hU hW⟩⟩ rfl rfl hl.1 rfl (lv_room (Nat.le_of_ble_eq_true rfl)) dX10_sumOn_33 ⟨(Nat.le_of_ble_eq_true rfl), (Nat.le_of_ble_eq_true rfl)⟩) hS (fun q _ h => hFc q h) hFc (fun rn8 u t H1 locs ht hvm hw hB hz1 hk1 hS => ?_)
        obtain ⟨hP1, hD1⟩ := hB
        rw [ht] at hP1
        obtain ⟨hP, hD⟩ := PDq.join (w := [(oX10 w0 v0 v1 v2 v3 v4 g5 g6 (nI ed) g8 v9 (nI nb) g11 g12 v13 g14 g15 g16 g17 g18 g19 g20 g21 g22 g23 g24 g25 g26 v27 v28 v29 v30 v31 v32 v33 v34 v35 v36 v37 (nI ol)), (v0, .inl (cA 0, 326, .inl fs))]) 0 hP hD [0, 1] [] rfl rfl (by decide) (by decide) hk1 hFc hP1 hD1 rfl
        generalize H1 = H at hP hS ⊢
        refine lv_iload_n hx hb dX10_sumOn_36 rfl (lv_at hl 3 rfl) ?_
        refine lv_icmp_ne (tgt := 51) hx hb dX10_sumOn_37 (by decide) (fun c9 => ?_) (fun c9 => ?_)
        · skip
          refine lv_lconst (v := 0) hx hb dX10_sumOn_51 (by decide) ?_
          refine lv_ladd hx hb dX10_sumOn_52 ?_
          refine lv_topl (fun yn10 eyn10 => ?_)
          refine lv_lstore_n (lv' := [(3, .long yn10), (5, .int (nI i1)), (0, .ref w0), (1, .int a), (2, .int b)]) hx hb dX10_sumOn_53 rfl hl (by decide) rfl (fun ls hl => ?_)
          refine lv_iinc (v := (nI (i1 + 1))) (lv' := [(5, .int (nI (i1 + 1))), (3, .long yn10), (0, .ref w0), (1, .int a), (2, .int b)]) hx hb dX10_sumOn_54 hl (k := 1) rfl (nI_1 _) (by decide) rfl (fun ls hl => ?_)
          refine lv_goto (tgt := 5) hx hb dX10_sumOn_57 (by decide) ?_
          obtain ⟨hP9, hD9⟩ := PDq.sub (ws' := [(oX10 w0 v0 v1 v2 v3 v4 g5 g6 (nI ed) g8 v9 (nI nb) g11 g12 v13 g14 g15 g16 g17 g18 g19 g20 g21 g22 g23 g24 g25 g26 v27 v28 v29 v30 v31 v32 v33 v34 v35 v36 v37 (nI ol)), (v0, .inl (cA 0, 326, .inl fs))]) hP hD [0, 1] (by decide) rfl
          exact ih1 (i1 + 1) yn10 H _ ls (by omega) hP9 hD9 hS (lv_sub hl [0, 1, 2, 3, 4] rfl)
        · skip
          refine lv_aload_n hx hb dX10_sumOn_40 rfl (lv_at hl 2 rfl) ?_
          refine lv_iload hx hb dX10_sumOn_41 (lv_at hl 0 rfl) ?_
          refine lv_iconst (v := 2) hx hb dX10_sumOn_43 (by decide) ?_
          obtain ⟨hPc, hDc, hFc⟩ := PDq.cut (wc := [(oX10 w0 v0 v1 v2 v3 v4 g5 g6 (nI ed) g8 v9 (nI nb) g11 g12 v13 g14 g15 g16 g17 g18 g19 g20 g21 g22 g23 g24 g25 g26 v27 v28 v29 v30 v31 v32 v33 v34 v35 v36 v37 (nI ol)), (v0, .inl (cA 0, 326, .inl fs))]) hP hD hS hA [0, 1] (by decide) rfl
          refine va_calli (va_runV (As := [.int (nI i1), .int 2]) (rest := [.long x3_1]) ⟨hx, hb, hml, hown, hts⟩ (r_ofEntry l D cA sa w0 ed nb ol v0 v1 v2 v3 v4 v9 v13 v27 v28 v29 v30 v31 v32 v33 v34 v35 v36 v37 g8 g11 g12 g14 g15 g16 g17 g18 g19 g20 g21 g22 g23 g24 g26 g5 g6 g25 fs i1 2 H.size (by omega) (by omega)) (cwV 2 hts gX10_sumOn_X10_ofEntry rfl rfl rfl (by decide +kernel) ⟨(Nat.le_of_ble_eq_true rfl), (Nat.le_of_ble_eq_true rfl)⟩) ⟨Wd.blind, va_recv hK hPc (ci := 11) (q0 := 0) rfl rfl, fun U hU hW => ⟨rfl, Wd.call hPc hDc hK hC hZ hS hFc U hU hW⟩⟩ rfl rfl hl.1 rfl (lv_room (Nat.le_of_ble_eq_true rfl)) dX10_sumOn_44 ⟨(Nat.le_of_ble_eq_true rfl), (Nat.le_of_ble_eq_true rfl)⟩) hS (fun q _ h => hFc q h) hFc (fun rn11 u t H1 locs ht hvm hw hB hz1 hk1 hS => ?_)
          obtain ⟨hP1, hD1⟩ := hB
          rw [ht] at hP1
          obtain ⟨hP, hD⟩ := PDq.join (w := [(oX10 w0 v0 v1 v2 v3 v4 g5 g6 (nI ed) g8 v9 (nI nb) g11 g12 v13 g14 g15 g16 g17 g18 g19 g20 g21 g22 g23 g24 g25 g26 v27 v28 v29 v30 v31 v32 v33 v34 v35 v36 v37 (nI ol)), (v0, .inl (cA 0, 326, .inl fs))]) 0 hP hD [0, 1] [] rfl rfl (by decide) (by decide) hk1 hFc hP1 hD1 rfl
          generalize H1 = H at hP hS ⊢
          refine lv_i2l (v := (rn11.toInt64)) hx hb dX10_sumOn_47 rfl ?_
          refine lv_goto (tgt := 52) hx hb dX10_sumOn_48 (by decide) ?_
          refine lv_ladd hx hb dX10_sumOn_52 ?_
          refine lv_topl (fun yn12 eyn12 => ?_)
          refine lv_lstore_n (lv' := [(3, .long yn12), (5, .int (nI i1)), (0, .ref w0), (1, .int a), (2, .int b)]) hx hb dX10_sumOn_53 rfl hl (by decide) rfl (fun ls hl => ?_)
          refine lv_iinc (v := (nI (i1 + 1))) (lv' := [(5, .int (nI (i1 + 1))), (3, .long yn12), (0, .ref w0), (1, .int a), (2, .int b)]) hx hb dX10_sumOn_54 hl (k := 1) rfl (nI_1 _) (by decide) rfl (fun ls hl => ?_)
          refine lv_goto (tgt := 5) hx hb dX10_sumOn_57 (by decide) ?_
          obtain ⟨hP9, hD9⟩ := PDq.sub (ws' := [(oX10 w0 v0 v1 v2 v3 v4 g5 g6 (nI ed) g8 v9 (nI nb) g11 g12 v13 g14 g15 g16 g17 g18 g19 g20 g21 g22 g23 g24 g25 g26 v27 v28 v29 v30 v31 v32 v33 v34 v35 v36 v37 (nI ol)), (v0, .inl (cA 0, 326, .inl fs))]) hP hD [0, 1] (by decide) rfl
          exact ih1 (i1 + 1) yn12 H _ ls (by omega) hP9 hD9 hS (lv_sub hl [0, 1, 2, 3, 4] rfl)
  obtain ⟨hP9, hD9⟩ := PDq.sub (ws' := [(oX10 w0 v0 v1 v2 v3 v4 g5 g6 (nI ed) g8 v9 (nI nb) g11 g12 v13 g14 g15 g16 g17 g18 g19 g20 g21 g22 g23 g24 g25 g26 v27 v28 v29 v30 v31 v32 v33 v34 v35 v36 v37 (nI ol)), (v0, .inl (cA 0, 326, .inl fs))]) hP hD [0, 1] (by decide) rfl
  exact loop1 (en - 0) 0 0 _ _ ls (by omega) hP9 hD9 hS (lv_sub hl [0, 1, 2, 3, 4] rfl)

set_option maxHeartbeats 4000000 in
set_option maxRecDepth 100000 in
/-- reference: totalOn -/
theorem r_totalOn (l : Launch) (D : va_G) (cA : Nat → ClassId) (sa : Nat → Nat) (w0 : Nat) (ed : Nat) (nb : Nat) (ol : Nat) (v0 : Nat) (v1 : Nat) (v2 : Nat) (v3 : Nat) (v4 : Nat) (v9 : Nat) (v13 : Nat) (v27 : Nat) (v28 : Nat) (v29 : Nat) (v30 : Nat) (v31 : Nat) (v32 : Nat) (v33 : Nat) (v34 : Nat) (v35 : Nat) (v36 : Nat) (v37 : Nat) (g8 : Int32) (g11 : Int32) (g12 : Int32) (g14 : Int32) (g15 : Int32) (g16 : Int32) (g17 : Int32) (g18 : Int32) (g19 : Int32) (g20 : Int32) (g21 : Int32) (g22 : Int32) (g23 : Int32) (g24 : Int32) (g26 : Int32) (g5 : Int64) (g6 : Int64) (g25 : Int64) (cn : Nat) (pq : Nat) (en : Nat) (dy : Nat) (fs : Nat → Int32) (i : Int32) (j : Int32) (sz : Nat) (hcn : cn ≤ 10) (hpq : pq ≤ 8) (hen : en ≤ 60) (hdy : dy ≤ 20000) (hri : RI cn pq en dy fs) : Met l yX10_totalOn wsX10_totalOn ({ frames := 2, cells := 0, slots := 0, locals := 47 }) (va_Pc [.ref w0, .int i, .int j] (Wd D cA sa [(oX10 w0 v0 v1 v2 v3 v4 g5 g6 (nI ed) g8 v9 (nI nb) g11 g12 v13 g14 g15 g16 g17 g18 g19 g20 g21 g22 g23 g24 g25 g26 v27 v28 v29 v30 v31 v32 v33 v34 v35 v36 v37 (nI ol)), (v0, .inl (cA 0, 326, .inl fs))] sz)) (va_Qi (fun (r : Int32) (_ : Unit) => True) (fun (_ : Unit) t => ∃ zt : Int32, Wq D (va_A [(oX10 w0 v0 v1 v2 v3 v4 g5 g6 (nI ed) g8 v9 (nI nb) g11 g12 v13 g14 g15 g16 g17 g18 g19 g20 g21 g22 g23 g24 g25 g26 v27 v28 v29 v30 v31 v32 v33 v34 v35 v36 v37 (nI ol)), (v0, .inl (cA 0, 326, .inl fs))] sz) [(oX10 w0 v0 v1 v2 v3 v4 g5 g6 (nI ed) zt v9 (nI nb) g11 g12 v13 g14 g15 g16 g17 g18 g19 g20 g21 g22 g23 g24 g25 g26 v27 v28 v29 v30 v31 v32 v33 v34 v35 v36 v37 (nI ol)), (v0, .inl (cA 0, 326, .inl fs))] t) (va_A [(oX10 w0 v0 v1 v2 v3 v4 g5 g6 (nI ed) g8 v9 (nI nb) g11 g12 v13 g14 g15 g16 g17 g18 g19 g20 g21 g22 g23 g24 g25 g26 v27 v28 v29 v30 v31 v32 v33 v34 v35 v36 v37 (nI ol)), (v0, .inl (cA 0, 326, .inl fs))] sz)) 0 0 (va_A [(oX10 w0 v0 v1 v2 v3 v4 g5 g6 (nI ed) g8 v9 (nI nb) g11 g12 v13 g14 g15 g16 g17 g18 g19 g20 g21 g22 g23 g24 g25 g26 v27 v28 v29 v30 v31 v32 v33 v34 v35 v36 v37 (nI ol)), (v0, .inl (cA 0, 326, .inl fs))] sz) := by
  refine Met.ofW (cc := cX10_totalOn) (maxL := 3) (ret := (some .int)) (by decide) rfl ?_
  intro p e s m args below meth c s₁ B hml hv
  obtain ⟨rfl, hsz, hP, hK, hD0, hC, hZ⟩ := hv
  have hx := B.exec
  have hb := B.bytes
  have hr := B.returns
  have hts := atoms_spec (ws := wsX10_totalOn) B.pre
  have hown : s.vm.findClass RX10 = some m.cls := findClass_of_methodNamed B.named
  have hlocks := B.notSynchronized
  subst hsz
  have hD := hD0.self (sz := s.heap.size)
  generalize hAe : va_A [(oX10 w0 v0 v1 v2 v3 v4 g5 g6 (nI ed) g8 v9 (nI nb) g11 g12 v13 g14 g15 g16 g17 g18 g19 g20 g21 g22 g23 g24 g25 g26 v27 v28 v29 v30 v31 v32 v33 v34 v35 v36 v37 (nI ol)), (v0, .inl (cA 0, 326, .inl fs))] s.heap.size = A at hD hZ ⊢
  have hA : ∀ q : Nat, s.heap.size ≤ q → A q := fun q h => by rw [← hAe]; exact Or.inr h
  have hS : va_S A s.heap s.heap [] := va_S.rf
  have hP : va_P D vwCl [(oX10 w0 v0 v1 v2 v3 v4 g5 g6 (nI ed) g8 v9 (nI nb) g11 g12 v13 g14 g15 g16 g17 g18 g19 g20 g21 g22 g23 g24 g25 g26 v27 v28 v29 v30 v31 v32 v33 v34 v35 v36 v37 (nI ol)), (v0, .inl (cA 0, 326, .inl fs))] s.heap := hP
  have hl := lv_entry ([.ref w0, .int i, .int j]) (n := 3) (Nat.le_of_ble_eq_true rfl)
  rw [lg_entry_eq]
  generalize (lg_sl ([.ref w0, .int i, .int j]) ++ List.replicate (3 - (lg_sl ([.ref w0, .int i, .int j])).length) Slot.unset).toArray = ls at hl ⊢
  have hl : lv_has ls 3 [(0, .ref w0), (1, .int i), (2, .int j)] := hl
  refine lv_aload_n hx hb dX10_totalOn_0 rfl (lv_at hl 0 rfl) ?_
  refine lv_iload_n hx hb dX10_totalOn_1 rfl (lv_at hl 2 rfl) ?_
  refine lv_i2l (v := (j.toInt64)) hx hb dX10_totalOn_2 rfl ?_
  refine lv_lconst (v := 0) hx hb dX10_totalOn_3 (by decide) ?_
  refine lv_ldc2 (v := 4) hx hb hown (hts (.constantLong RX10 451 4) (by decide +kernel)) dX10_totalOn_4 ?_
  obtain ⟨hPc, hDc, hFc⟩ := PDq.cut (wc := []) hP hD hS hA [] (by decide) rfl
  refine va_calli (va_runS (As := [.long (j.toInt64), .long 0, .long 4]) (rest := [.ref w0]) ⟨hx, hb, hml, hown, hts⟩ (r_between l D cA sa (j.toInt64) 0 4 s.heap.size) (va_cwS 3 hts gX10_totalOn_X10_between rfl rfl rfl (by decide +kernel) ⟨(Nat.le_of_ble_eq_true rfl), (Nat.le_of_ble_eq_true rfl)⟩) ⟨Wd.blind, fun U hU hW => ⟨rfl, Wd.call hPc hDc hK hC hZ hS hFc U hU hW⟩⟩ rfl rfl hl.1 rfl (lv_room (Nat.le_of_ble_eq_true rfl)) dX10_totalOn_7 ⟨(Nat.le_of_ble_eq_true rfl), (Nat.le_of_ble_eq_true rfl)⟩) hS (fun q _ h => hFc q h) hFc (fun rn1 u t H1 locs ht hvm hw hB hz1 hk1 hS => ?_)
  obtain ⟨hP1, hD1⟩ := hB
  rw [ht] at hP1
  obtain ⟨hP, hD⟩ := PDq.join (w := [(oX10 w0 v0 v1 v2 v3 v4 g5 g6 (nI ed) g8 v9 (nI nb) g11 g12 v13 g14 g15 g16 g17 g18 g19 g20 g21 g22 g23 g24 g25 g26 v27 v28 v29 v30 v31 v32 v33 v34 v35 v36 v37 (nI ol)), (v0, .inl (cA 0, 326, .inl fs))]) 2 hP hD [] [0, 1] rfl rfl (by decide) (by decide) hk1 hFc hP1 hD1 rfl
  generalize H1 = H at hP hS ⊢
  rcases hw with ⟨hr9, hn2⟩ | hr9
  · skip
    subst hr9
    obtain ⟨hPc, hDc, hFc⟩ := PDq.cut (wc := [(oX10 w0 v0 v1 v2 v3 v4 g5 g6 (nI ed) g8 v9 (nI nb) g11 g12 v13 g14 g15 g16 g17 g18 g19 g20 g21 g22 g23 g24 g25 g26 v27 v28 v29 v30 v31 v32 v33 v34 v35 v36 v37 (nI ol))]) hP hD hS hA [0] (by decide) rfl
    refine va_calli (va_runV (As := [.int 1]) (rest := []) ⟨hx, hb, hml, hown, hts⟩ (r_good1 l D cA sa w0 ed nb ol v0 v1 v2 v3 v4 v9 v13 v27 v28 v29 v30 v31 v32 v33 v34 v35 v36 v37 g8 g11 g12 g14 g15 g16 g17 g18 g19 g20 g21 g22 g23 g24 g26 g5 g6 g25 H.size) (cwV 1 hts gX10_totalOn_X10_good rfl rfl rfl (by decide +kernel) ⟨(Nat.le_of_ble_eq_true rfl), (Nat.le_of_ble_eq_true rfl)⟩) ⟨Wd.blind, va_recv hK hPc (ci := 11) (q0 := 0) rfl rfl, fun U hU hW => ⟨rfl, Wd.call hPc hDc hK hC hZ hS hFc U hU hW⟩⟩ rfl rfl hl.1 rfl (lv_room (Nat.le_of_ble_eq_true rfl)) dX10_totalOn_10 ⟨(Nat.le_of_ble_eq_true rfl), (Nat.le_of_ble_eq_true rfl)⟩) hS (fun q _ h => hFc q h) hFc (fun rn3 u t H1 locs ht hvm hw hB hz1 hk1 hS => ?_)
    obtain ⟨hP1, hD1⟩ := hB
    rw [ht] at hP1
    obtain ⟨hP, hD⟩ := PDq.join (w := [(v0, .inl (cA 0, 326, .inl fs)), (oX10 w0 v0 v1 v2 v3 v4 g5 g6 (nI ed) 0 v9 (nI nb) g11 g12 v13 g14 g15 g16 g17 g18 g19 g20 g21 g22 g23 g24 g25 g26 v27 v28 v29 v30 v31 v32 v33 v34 v35 v36 v37 (nI ol))]) 1 hP hD [0] [1] rfl rfl (by decide) (by decide) hk1 hFc hP1 hD1 rfl
    generalize H1 = H at hP hS ⊢
    obtain rfl : rn3 = 1 := hw
    refine lv_if_eq (tgt := 26) hx hb dX10_totalOn_13 (by decide) (fun c9 => absurd c9 (by decide)) (fun c4 => ?_)
    refine lv_aload_n hx hb dX10_totalOn_16 rfl (lv_at hl 0 rfl) ?_
    refine lv_iload_n hx hb dX10_totalOn_17 rfl (lv_at hl 1 rfl) ?_
    refine lv_iload_n hx hb dX10_totalOn_18 rfl (lv_at hl 2 rfl) ?_
    obtain ⟨hPc, hDc, hFc⟩ := PDq.cut (wc := [(oX10 w0 v0 v1 v2 v3 v4 g5 g6 (nI ed) 0 v9 (nI nb) g11 g12 v13 g14 g15 g16 g17 g18 g19 g20 g21 g22 g23 g24 g25 g26 v27 v28 v29 v30 v31 v32 v33 v34 v35 v36 v37 (nI ol)), (v0, .inl (cA 0, 326, .inl fs))]) hP hD hS hA [1, 0] (by decide) rfl
    refine va_calll (va_runV (As := [.int i, .int j]) (rest := []) ⟨hx, hb, hml, hown, hts⟩ (r_sumOn l D cA sa w0 ed nb ol v0 v1 v2 v3 v4 v9 v13 v27 v28 v29 v30 v31 v32 v33 v34 v35 v36 v37 0 g11 g12 g14 g15 g16 g17 g18 g19 g20 g21 g22 g23 g24 g26 g5 g6 g25 cn pq en dy fs i j H.size hcn hpq hen hdy hri) (cwV 2 hts gX10_totalOn_X10_sumOn rfl rfl rfl (by decide +kernel) ⟨(Nat.le_of_ble_eq_true rfl), (Nat.le_of_ble_eq_true rfl)⟩) ⟨Wd.blind, va_recv hK hPc (ci := 11) (q0 := 0) rfl rfl, fun U hU hW => ⟨rfl, Wd.call hPc hDc hK hC hZ hS hFc U hU hW⟩⟩ rfl rfl hl.1 rfl (lv_room (Nat.le_of_ble_eq_true rfl)) dX10_totalOn_19 ⟨(Nat.le_of_ble_eq_true rfl), (Nat.le_of_ble_eq_true rfl)⟩) hS (fun q _ h => hFc q h) hFc (fun rn5 u t H1 locs ht hvm hw hB hz1 hk1 hS => ?_)
    obtain ⟨hP1, hD1⟩ := hB
    rw [ht] at hP1
    obtain ⟨hP, hD⟩ := PDq.join (w := [(oX10 w0 v0 v1 v2 v3 v4 g5 g6 (nI ed) 0 v9 (nI nb) g11 g12 v13 g14 g15 g16 g17 g18 g19 g20 g21 g22 g23 g24 g25 g26 v27 v28 v29 v30 v31 v32 v33 v34 v35 v36 v37 (nI ol)), (v0, .inl (cA 0, 326, .inl fs))]) 0 hP hD [1, 0] [] rfl rfl (by decide) (by decide) hk1 hFc hP1 hD1 rfl
    generalize H1 = H at hP hS ⊢
    refine lv_l2i (v := rn5.toInt32) hx hb dX10_totalOn_22 rfl ?_
    refine lv_topi (fun yn6 eyn6 => ?_)
    refine lv_goto (tgt := 27) hx hb dX10_totalOn_23 (by decide) ?_
    obtain ⟨hP9, hD9⟩ := PDq.sub (ws' := [(oX10 w0 v0 v1 v2 v3 v4 g5 g6 (nI ed) 0 v9 (nI nb) g11 g12 v13 g14 g15 g16 g17 g18 g19 g20 g21 g22 g23 g24 g25 g26 v27 v28 v29 v30 v31 v32 v33 v34 v35 v36 v37 (nI ol)), (v0, .inl (cA 0, 326, .inl fs))]) hP hD [0, 1] (by decide) rfl
    refine W.widen (k := 0) (n := 0) (Nat.le_of_ble_eq_true rfl) (Nat.le_of_ble_eq_true rfl) ?_
    exact (W.iret (v := yn6) hx hb hr (fun t ht hW => ⟨⟨yn6, (), rfl, trivial, 0, by rw [ht]; exact hP9, hD9⟩, hS.F ht⟩) hS.2.2 dX10_totalOn_27)
  · skip
    subst hr9
    obtain ⟨hPc, hDc, hFc⟩ := PDq.cut (wc := [(oX10 w0 v0 v1 v2 v3 v4 g5 g6 (nI ed) g8 v9 (nI nb) g11 g12 v13 g14 g15 g16 g17 g18 g19 g20 g21 g22 g23 g24 g25 g26 v27 v28 v29 v30 v31 v32 v33 v34 v35 v36 v37 (nI ol))]) hP hD hS hA [0] (by decide) rfl
    refine va_calli (va_runV (As := [.int 0]) (rest := []) ⟨hx, hb, hml, hown, hts⟩ (r_good0 l D cA sa w0 ed nb ol v0 v1 v2 v3 v4 v9 v13 v27 v28 v29 v30 v31 v32 v33 v34 v35 v36 v37 g8 g11 g12 g14 g15 g16 g17 g18 g19 g20 g21 g22 g23 g24 g26 g5 g6 g25 H.size) (cwV 1 hts gX10_totalOn_X10_good rfl rfl rfl (by decide +kernel) ⟨(Nat.le_of_ble_eq_true rfl), (Nat.le_of_ble_eq_true rfl)⟩) ⟨Wd.blind, va_recv hK hPc (ci := 11) (q0 := 0) rfl rfl, fun U hU hW => ⟨rfl, Wd.call hPc hDc hK hC hZ hS hFc U hU hW⟩⟩ rfl rfl hl.1 rfl (lv_room (Nat.le_of_ble_eq_true rfl)) dX10_totalOn_10 ⟨(Nat.le_of_ble_eq_true rfl), (Nat.le_of_ble_eq_true rfl)⟩) hS (fun q _ h => hFc q h) hFc (fun rn7 u t H1 locs ht hvm hw hB hz1 hk1 hS => ?_)
    obtain ⟨hP1, hD1⟩ := hB
    rw [ht] at hP1
    obtain ⟨hP, hD⟩ := PDq.join (w := [(v0, .inl (cA 0, 326, .inl fs)), (oX10 w0 v0 v1 v2 v3 v4 g5 g6 (nI ed) 1 v9 (nI nb) g11 g12 v13 g14 g15 g16 g17 g18 g19 g20 g21 g22 g23 g24 g25 g26 v27 v28 v29 v30 v31 v32 v33 v34 v35 v36 v37 (nI ol))]) 1 hP hD [0] [1] rfl rfl (by decide) (by decide) hk1 hFc hP1 hD1 rfl
    generalize H1 = H at hP hS ⊢
    obtain rfl : rn7 = 0 := hw
    refine lv_if_eq (tgt := 26) hx hb dX10_totalOn_13 (by decide) (fun c8 => ?_) (fun c9 => absurd c9 (by decide))
    refine lv_iconst (v := 0) hx hb dX10_totalOn_26 (by decide) ?_
    obtain ⟨hP9, hD9⟩ := PDq.sub (ws' := [(oX10 w0 v0 v1 v2 v3 v4 g5 g6 (nI ed) 1 v9 (nI nb) g11 g12 v13 g14 g15 g16 g17 g18 g19 g20 g21 g22 g23 g24 g25 g26 v27 v28 v29 v30 v31 v32 v33 v34 v35 v36 v37 (nI ol)), (v0, .inl (cA 0, 326, .inl fs))]) hP hD [1, 0] (by decide) rfl
    refine W.widen (k := 0) (n := 0) (Nat.le_of_ble_eq_true rfl) (Nat.le_of_ble_eq_true rfl) ?_
    exact (W.iret (v := 0) hx hb hr (fun t ht hW => ⟨⟨0, (), rfl, trivial, 1, by rw [ht]; exact hP9, hD9⟩, hS.F ht⟩) hS.2.2 dX10_totalOn_27)

set_option maxHeartbeats 4000000 in
set_option maxRecDepth 100000 in
/-- reference: busiestDay -/
theorem r_busiestDay (l : Launch) (D : va_G) (cA : Nat → ClassId) (sa : Nat → Nat) (w0 : Nat) (ed : Nat) (nb : Nat) (ol : Nat) (v0 : Nat) (v1 : Nat) (v2 : Nat) (v3 : Nat) (v4 : Nat) (v9 : Nat) (v13 : Nat) (v27 : Nat) (v28 : Nat) (v29 : Nat) (v30 : Nat) (v31 : Nat) (v32 : Nat) (v33 : Nat) (v34 : Nat) (v35 : Nat) (v36 : Nat) (v37 : Nat) (g8 : Int32) (g11 : Int32) (g12 : Int32) (g14 : Int32) (g15 : Int32) (g16 : Int32) (g17 : Int32) (g18 : Int32) (g19 : Int32) (g20 : Int32) (g21 : Int32) (g22 : Int32) (g23 : Int32) (g24 : Int32) (g26 : Int32) (g5 : Int64) (g6 : Int64) (g25 : Int64) (cn : Nat) (pq : Nat) (en : Nat) (dy : Nat) (fs : Nat → Int32) (sz : Nat) (hcn : cn ≤ 10) (hpq : pq ≤ 8) (hen : en ≤ 60) (hdy : dy ≤ 20000) (hri : RI cn pq en dy fs) : Met l yX10_busiestDay wsX10_busiestDay ({ frames := 2, cells := 0, slots := 0, locals := 47 }) (va_Pc [.ref w0] (Wd D cA sa [(oX10 w0 v0 v1 v2 v3 v4 g5 g6 (nI ed) g8 v9 (nI nb) g11 g12 v13 g14 g15 g16 g17 g18 g19 g20 g21 g22 g23 g24 g25 g26 v27 v28 v29 v30 v31 v32 v33 v34 v35 v36 v37 (nI ol)), (v0, .inl (cA 0, 326, .inl fs))] sz)) (va_Qi (fun (r : Int32) (_ : Unit) => True) (fun (_ : Unit) t => Wq D (va_A [(oX10 w0 v0 v1 v2 v3 v4 g5 g6 (nI ed) g8 v9 (nI nb) g11 g12 v13 g14 g15 g16 g17 g18 g19 g20 g21 g22 g23 g24 g25 g26 v27 v28 v29 v30 v31 v32 v33 v34 v35 v36 v37 (nI ol)), (v0, .inl (cA 0, 326, .inl fs))] sz) [(oX10 w0 v0 v1 v2 v3 v4 g5 g6 (nI ed) 0 v9 (nI nb) g11 g12 v13 g14 g15 g16 g17 g18 g19 g20 g21 g22 g23 g24 g25 g26 v27 v28 v29 v30 v31 v32 v33 v34 v35 v36 v37 (nI ol)), (v0, .inl (cA 0, 326, .inl fs))] t) (va_A [(oX10 w0 v0 v1 v2 v3 v4 g5 g6 (nI ed) g8 v9 (nI nb) g11 g12 v13 g14 g15 g16 g17 g18 g19 g20 g21 g22 g23 g24 g25 g26 v27 v28 v29 v30 v31 v32 v33 v34 v35 v36 v37 (nI ol)), (v0, .inl (cA 0, 326, .inl fs))] sz)) 0 0 (va_A [(oX10 w0 v0 v1 v2 v3 v4 g5 g6 (nI ed) g8 v9 (nI nb) g11 g12 v13 g14 g15 g16 g17 g18 g19 g20 g21 g22 g23 g24 g25 g26 v27 v28 v29 v30 v31 v32 v33 v34 v35 v36 v37 (nI ol)), (v0, .inl (cA 0, 326, .inl fs))] sz) := by
  refine Met.ofW (cc := cX10_busiestDay) (maxL := 8) (ret := (some .int)) (by decide) rfl ?_
  intro p e s m args below meth c s₁ B hml hv
  obtain ⟨rfl, hsz, hP, hK, hD0, hC, hZ⟩ := hv
  have hx := B.exec
  have hb := B.bytes
  have hr := B.returns
  have hts := atoms_spec (ws := wsX10_busiestDay) B.pre
  have hown : s.vm.findClass RX10 = some m.cls := findClass_of_methodNamed B.named
  have hlocks := B.notSynchronized
  subst hsz
  have hD := hD0.self (sz := s.heap.size)
  generalize hAe : va_A [(oX10 w0 v0 v1 v2 v3 v4 g5 g6 (nI ed) g8 v9 (nI nb) g11 g12 v13 g14 g15 g16 g17 g18 g19 g20 g21 g22 g23 g24 g25 g26 v27 v28 v29 v30 v31 v32 v33 v34 v35 v36 v37 (nI ol)), (v0, .inl (cA 0, 326, .inl fs))] s.heap.size = A at hD hZ ⊢
  have hA : ∀ q : Nat, s.heap.size ≤ q → A q := fun q h => by rw [← hAe]; exact Or.inr h
  have hS : va_S A s.heap s.heap [] := va_S.rf
  have hP : va_P D vwCl [(oX10 w0 v0 v1 v2 v3 v4 g5 g6 (nI ed) g8 v9 (nI nb) g11 g12 v13 g14 g15 g16 g17 g18 g19 g20 g21 g22 g23 g24 g25 g26 v27 v28 v29 v30 v31 v32 v33 v34 v35 v36 v37 (nI ol)), (v0, .inl (cA 0, 326, .inl fs))] s.heap := hP
  have hl := lv_entry ([.ref w0]) (n := 8) (Nat.le_of_ble_eq_true rfl)
  rw [lg_entry_eq]
  generalize (lg_sl ([.ref w0]) ++ List.replicate (8 - (lg_sl ([.ref w0])).length) Slot.unset).toArray = ls at hl ⊢
  have hl : lv_has ls 8 [(0, .ref w0)] := hl
  have inX10 : ∀ w ∈ u_ws RX10 TX10 39, w ∈ wsX10_busiestDay := by decide +kernel
  refine lv_aload_n hx hb dX10_busiestDay_0 rfl (lv_at hl 0 rfl) ?_
  refine lv_iconst (v := 0) hx hb dX10_busiestDay_1 (by decide) ?_
  refine va_put (D := D) (ci := 11) (v := .int 0) (ty := .int) (C := RX10) (T := TX10) (N := 39) hx hb hts inX10 tyX10 tyX10_ok nmX10 hown hK hP hD hS 0 rfl rfl 8 (by decide) (hts (.fieldLink RX10 80 "EscrowDeskModel" "thrown" "I") (by decide +kernel)) (fun _ h9 => h9) rfl (by decide +kernel) rfl rfl (Nat.le_of_ble_eq_true rfl) dX10_busiestDay_2 (fun H locs hP hD hS => ?_)
  obtain ⟨hP, hD⟩ : PDq D A [(oX10 w0 v0 v1 v2 v3 v4 g5 g6 (nI ed) 0 v9 (nI nb) g11 g12 v13 g14 g15 g16 g17 g18 g19 g20 g21 g22 g23 g24 g25 g26 v27 v28 v29 v30 v31 v32 v33 v34 v35 v36 v37 (nI ol)), (v0, .inl (cA 0, 326, .inl fs))] H := ⟨hP, hD⟩
  refine lv_iconst (v := (-1)) hx hb dX10_busiestDay_5 (by decide) ?_
  refine lv_istore_n (lv' := [(1, .int (-1)), (0, .ref w0)]) hx hb dX10_busiestDay_6 rfl hl (by decide) rfl (fun ls hl => ?_)
  refine lv_lconst (v := 0) hx hb dX10_busiestDay_7 (by decide) ?_
  refine lv_lstore_n (lv' := [(2, .long 0), (1, .int (-1)), (0, .ref w0)]) hx hb dX10_busiestDay_8 rfl hl (by decide) rfl (fun ls hl => ?_)
  refine lv_iconst (v := 0) hx hb dX10_busiestDay_9 (by decide) ?_
  refine lv_istore (lv' := [(4, .int 0), (2, .long 0), (1, .int (-1)), (0, .ref w0)]) hx hb dX10_busiestDay_10 hl (by decide) rfl (fun ls hl => ?_)
  have loop1 : ∀ (n1 i1 : Nat) (x2_1 : Int64) (x1_1 : Int32) (H : Heap) (locs : List Loc) (ls : Array Slot), i1 + n1 = en → va_P D vwCl [(oX10 w0 v0 v1 v2 v3 v4 g5 g6 (nI ed) 0 v9 (nI nb) g11 g12 v13 g14 g15 g16 g17 g18 g19 g20 g21 g22 g23 g24 g25 g26 v27 v28 v29 v30 v31 v32 v33 v34 v35 v36 v37 (nI ol)), (v0, .inl (cA 0, 326, .inl fs))] H → va_D A [(oX10 w0 v0 v1 v2 v3 v4 g5 g6 (nI ed) 0 v9 (nI nb) g11 g12 v13 g14 g15 g16 g17 g18 g19 g20 g21 g22 g23 g24 g25 g26 v27 v28 v29 v30 v31 v32 v33 v34 v35 v36 v37 (nI ol)), (v0, .inl (cA 0, 326, .inl fs))] → va_S A s.heap H locs → lv_has ls 8 [(4, .int (nI i1)), (2, .long x2_1), (1, .int x1_1), (0, .ref w0)] → W p l e (headSpec wsX10_busiestDay ({ frames := 2, cells := 0, slots := 0, locals := 47 } : Room)).room s m ([.ref w0] : List Value).toArray below meth c H locs 0 0 (MQ below (va_Qi (fun (r : Int32) (_ : Unit) => True) (fun (_ : Unit) t => Wq D A [(oX10 w0 v0 v1 v2 v3 v4 g5 g6 (nI ed) 0 v9 (nI nb) g11 g12 v13 g14 g15 g16 g17 g18 g19 g20 g21 g22 g23 g24 g25 g26 v27 v28 v29 v30 v31 v32 v33 v34 v35 v36 v37 (nI ol)), (v0, .inl (cA 0, 326, .inl fs))] t) A) ([.ref w0] : List Value).toArray s 0 0 A) (F0 m 12 ls []) := by
    intro n1
    induction n1 with
    | zero =>
      intro i1 x2_1 x1_1 H locs ls hi1 hP hD hS hl
      obtain rfl : en = i1 := by omega
      refine lv_iload hx hb dX10_busiestDay_12 (lv_at hl 0 rfl) ?_
      refine lv_aload_n hx hb dX10_busiestDay_14 rfl (lv_at hl 3 rfl) ?_
      refine va_get (D := D) (ci := 11) (v := .ref v0) (C := RX10) (T := TX10) (N := 39) hx hb hts inX10 hown hK hP 0 rfl rfl 0 (by decide) (hts (.fieldLink RX10 7 "EscrowDeskModel" "s" "[I") (by decide +kernel)) (fun _ h9 => h9) rfl dX10_busiestDay_15 ?_
      refine lv_bipush (v := 15) hx hb dX10_busiestDay_18 (by decide) ?_
      refine va_iald hx hb hK hP 1 0 rfl rfl (vp_in_iff.mpr (by decide)) dX10_busiestDay_20 ?_
      refine lv_topi (fun yn1 eyn1 => ?_)
      obtain rfl : yn1 = (nI en) := eyn1.trans hri.2.2.1
      refine lv_icmp_ge (tgt := 61) hx hb dX10_busiestDay_21 (by decide) (fun c2 => ?_) (fun c9 => absurd (nI_le (a := en) (b := en) (show en ≤ en by omega) (by omega)) c9)
      refine lv_iload_n hx hb dX10_busiestDay_61 rfl (lv_at hl 2 rfl) ?_
      obtain ⟨hP9, hD9⟩ := PDq.sub (ws' := [(oX10 w0 v0 v1 v2 v3 v4 g5 g6 (nI ed) 0 v9 (nI nb) g11 g12 v13 g14 g15 g16 g17 g18 g19 g20 g21 g22 g23 g24 g25 g26 v27 v28 v29 v30 v31 v32 v33 v34 v35 v36 v37 (nI ol)), (v0, .inl (cA 0, 326, .inl fs))]) hP hD [0, 1] (by decide) rfl
      refine W.widen (k := 0) (n := 0) (Nat.le_of_ble_eq_true rfl) (Nat.le_of_ble_eq_true rfl) ?_
      exact (W.iret (v := x1_1) hx hb hr (fun t ht hW => ⟨⟨x1_1, (), rfl, trivial, by rw [ht]; exact hP9, hD9⟩, hS.F ht⟩) hS.2.2 dX10_busiestDay_62)
    | succ n1 ih1 =>
      intro i1 x2_1 x1_1 H locs ls hi1 hP hD hS hl
      refine lv_iload hx hb dX10_busiestDay_12 (lv_at hl 0 rfl) ?_
      refine lv_aload_n hx hb dX10_busiestDay_14 rfl (lv_at hl 3 rfl) ?_
      refine va_get (D := D) (ci := 11) (v := .ref v0) (C := RX10) (T := TX10) (N := 39) hx hb hts inX10 hown hK hP 0 rfl rfl 0 (by decide) (hts (.fieldLink RX10 7 "EscrowDeskModel" "s" "[I") (by decide +kernel)) (fun _ h9 => h9) rfl dX10_busiestDay_15 ?_
      refine lv_bipush (v := 15) hx hb dX10_busiestDay_18 (by decide) ?_
      refine va_iald hx hb hK hP 1 0 rfl rfl (vp_in_iff.mpr (by decide)) dX10_busiestDay_20 ?_
      refine lv_topi (fun yn3 eyn3 => ?_)
      obtain rfl : yn3 = (nI en) := eyn3.trans hri.2.2.1
      refine lv_icmp_ge (tgt := 61) hx hb dX10_busiestDay_21 (by decide) (fun c9 => absurd c9 (nI_ge (a := i1) (b := en) (show i1 < en by omega) (by omega))) (fun c4 => ?_)
      refine lv_aload_n hx hb dX10_busiestDay_24 rfl (lv_at hl 3 rfl) ?_
      refine lv_iload hx hb dX10_busiestDay_25 (lv_at hl 0 rfl) ?_
      refine lv_iconst (v := 1) hx hb dX10_busiestDay_27 (by decide) ?_
      obtain ⟨hPc, hDc, hFc⟩ := PDq.cut (wc := [(oX10 w0 v0 v1 v2 v3 v4 g5 g6 (nI ed) 0 v9 (nI nb) g11 g12 v13 g14 g15 g16 g17 g18 g19 g20 g21 g22 g23 g24 g25 g26 v27 v28 v29 v30 v31 v32 v33 v34 v35 v36 v37 (nI ol)), (v0, .inl (cA 0, 326, .inl fs))]) hP hD hS hA [0, 1] (by decide) rfl
      refine va_calli (va_runV (As := [.int (nI i1), .int 1]) (rest := []) ⟨hx, hb, hml, hown, hts⟩ (r_ofEntry l D cA sa w0 ed nb ol v0 v1 v2 v3 v4 v9 v13 v27 v28 v29 v30 v31 v32 v33 v34 v35 v36 v37 0 g11 g12 g14 g15 g16 g17 g18 g19 g20 g21 g22 g23 g24 g26 g5 g6 g25 fs i1 1 H.size (by omega) (by omega)) (cwV 2 hts gX10_busiestDay_X10_ofEntry rfl rfl rfl (by decide +kernel) ⟨(Nat.le_of_ble_eq_true rfl), (Nat.le_of_ble_eq_true rfl)⟩) ⟨Wd.blind, va_recv hK hPc (ci := 11) (q0 := 0) rfl rfl, fun U hU hW => ⟨rfl, Wd.call hPc hDc hK hC hZ hS hFc U hU hW⟩⟩ rfl rfl hl.1 rfl (lv_room (Nat.le_of_ble_eq_true rfl)) dX10_busiestDay_28 ⟨(Nat.le_of_ble_eq_true rfl), (Nat.le_of_ble_eq_true rfl)⟩) hS (fun q _ h => hFc q h) hFc (fun rn5 u t H1 locs ht hvm hw hB hz1 hk1 hS => ?_)
      obtain ⟨hP1, hD1⟩ := hB
      rw [ht] at hP1
      obtain ⟨hP, hD⟩ := PDq.join (w := [(oX10 w0 v0 v1 v2 v3 v4 g5 g6 (nI ed) 0 v9 (nI nb) g11 g12 v13 g14 g15 g16 g17 g18 g19 g20 g21 g22 g23 g24 g25 g26 v27 v28 v29 v30 v31 v32 v33 v34 v35 v36 v37 (nI ol)), (v0, .inl (cA 0, 326, .inl fs))]) 0 hP hD [0, 1] [] rfl rfl (by decide) (by decide) hk1 hFc hP1 hD1 rfl
      generalize H1 = H at hP hS ⊢
      refine lv_istore (lv' := [(5, .int rn5), (4, .int (nI i1)), (2, .long x2_1), (1, .int x1_1), (0, .ref w0)]) hx hb dX10_busiestDay_31 hl (by decide) rfl (fun ls hl => ?_)
      refine lv_aload_n hx hb dX10_busiestDay_33 rfl (lv_at hl 4 rfl) ?_
      refine lv_iload hx hb dX10_busiestDay_34 (lv_at hl 0 rfl) ?_
      refine lv_iconst (v := 1) hx hb dX10_busiestDay_36 (by decide) ?_
      obtain ⟨hPc, hDc, hFc⟩ := PDq.cut (wc := [(oX10 w0 v0 v1 v2 v3 v4 g5 g6 (nI ed) 0 v9 (nI nb) g11 g12 v13 g14 g15 g16 g17 g18 g19 g20 g21 g22 g23 g24 g25 g26 v27 v28 v29 v30 v31 v32 v33 v34 v35 v36 v37 (nI ol)), (v0, .inl (cA 0, 326, .inl fs))]) hP hD hS hA [0, 1] (by decide) rfl
      refine va_calll (va_runV (As := [.int rn5, .int 1]) (rest := []) ⟨hx, hb, hml, hown, hts⟩ (r_sumOn l D cA sa w0 ed nb ol v0 v1 v2 v3 v4 v9 v13 v27 v28 v29 v30 v31 v32 v33 v34 v35 v36 v37 0 g11 g12 g14 g15 g16 g17 g18 g19 g20 g21 g22 g23 g24 g26 g5 g6 g25 cn pq en dy fs rn5 1 H.size hcn hpq hen hdy hri) (cwV 2 hts gX10_busiestDay_X10_sumOn rfl rfl rfl (by decide +kernel) ⟨(Nat.le_of_ble_eq_true rfl), (Nat.le_of_ble_eq_true rfl)⟩) ⟨Wd.blind, va_recv hK hPc (ci := 11) (q0 := 0) rfl rfl, fun U hU hW => ⟨rfl, Wd.call hPc hDc hK hC hZ hS hFc U hU hW⟩⟩ rfl rfl hl.1 rfl (lv_room (Nat.le_of_ble_eq_true rfl)) dX10_busiestDay_37 ⟨(Nat.le_of_ble_eq_true rfl), (Nat.le_of_ble_eq_true rfl)⟩) hS (fun q _ h => hFc q h) hFc (fun rn6 u t H1 locs ht hvm hw hB hz1 hk1 hS => ?_)
      obtain ⟨hP1, hD1⟩ := hB
      rw [ht] at hP1
      obtain ⟨hP, hD⟩ := PDq.join (w := [(oX10 w0 v0 v1 v2 v3 v4 g5 g6 (nI ed) 0 v9 (nI nb) g11 g12 v13 g14 g15 g16 g17 g18 g19 g20 g21 g22 g23 g24 g25 g26 v27 v28 v29 v30 v31 v32 v33 v34 v35 v36 v37 (nI ol)), (v0, .inl (cA 0, 326, .inl fs))]) 0 hP hD [0, 1] [] rfl rfl (by decide) (by decide) hk1 hFc hP1 hD1 rfl
      generalize H1 = H at hP hS ⊢
      refine lv_lstore (lv' := [(6, .long rn6), (5, .int rn5), (4, .int (nI i1)), (2, .long x2_1), (1, .int x1_1), (0, .ref w0)]) hx hb dX10_busiestDay_40 hl (by decide) rfl (fun ls hl => ?_)
      refine lv_lload hx hb dX10_busiestDay_42 (lv_at hl 0 rfl) ?_
      refine lv_lload_n hx hb dX10_busiestDay_44 rfl (lv_at hl 3 rfl) ?_
      refine W.lcmp hx hb dX10_busiestDay_45 ?_
      refine lv_if_le (tgt := 55) hx hb dX10_busiestDay_46 (by decide) (fun c7 => ?_) (fun c7 => ?_)
      · skip
        refine lv_iinc (v := (nI (i1 + 1))) (lv' := [(4, .int (nI (i1 + 1))), (6, .long rn6), (5, .int rn5), (2, .long x2_1), (1, .int x1_1), (0, .ref w0)]) hx hb dX10_busiestDay_55 hl (k := 2) rfl (nI_1 _) (by decide) rfl (fun ls hl => ?_)
        refine lv_goto (tgt := 12) hx hb dX10_busiestDay_58 (by decide) ?_
        obtain ⟨hP9, hD9⟩ := PDq.sub (ws' := [(oX10 w0 v0 v1 v2 v3 v4 g5 g6 (nI ed) 0 v9 (nI nb) g11 g12 v13 g14 g15 g16 g17 g18 g19 g20 g21 g22 g23 g24 g25 g26 v27 v28 v29 v30 v31 v32 v33 v34 v35 v36 v37 (nI ol)), (v0, .inl (cA 0, 326, .inl fs))]) hP hD [0, 1] (by decide) rfl
        exact ih1 (i1 + 1) x2_1 x1_1 H _ ls (by omega) hP9 hD9 hS (lv_sub hl [0, 3, 4, 5] rfl)
      · skip
        refine lv_iload hx hb dX10_busiestDay_49 (lv_at hl 1 rfl) ?_
        refine lv_istore_n (lv' := [(1, .int rn5), (6, .long rn6), (5, .int rn5), (4, .int (nI i1)), (2, .long x2_1), (0, .ref w0)]) hx hb dX10_busiestDay_51 rfl hl (by decide) rfl (fun ls hl => ?_)
        refine lv_lload hx hb dX10_busiestDay_52 (lv_at hl 1 rfl) ?_
        refine lv_lstore_n (lv' := [(2, .long rn6), (1, .int rn5), (6, .long rn6), (5, .int rn5), (4, .int (nI i1)), (0, .ref w0)]) hx hb dX10_busiestDay_54 rfl hl (by decide) rfl (fun ls hl => ?_)
        refine lv_iinc (v := (nI (i1 + 1))) (lv' := [(4, .int (nI (i1 + 1))), (2, .long rn6), (1, .int rn5), (6, .long rn6), (5, .int rn5), (0, .ref w0)]) hx hb dX10_busiestDay_55 hl (k := 4) rfl (nI_1 _) (by decide) rfl (fun ls hl => ?_)
        refine lv_goto (tgt := 12) hx hb dX10_busiestDay_58 (by decide) ?_
        obtain ⟨hP9, hD9⟩ := PDq.sub (ws' := [(oX10 w0 v0 v1 v2 v3 v4 g5 g6 (nI ed) 0 v9 (nI nb) g11 g12 v13 g14 g15 g16 g17 g18 g19 g20 g21 g22 g23 g24 g25 g26 v27 v28 v29 v30 v31 v32 v33 v34 v35 v36 v37 (nI ol)), (v0, .inl (cA 0, 326, .inl fs))]) hP hD [0, 1] (by decide) rfl
        exact ih1 (i1 + 1) rn6 rn5 H _ ls (by omega) hP9 hD9 hS (lv_sub hl [0, 1, 2, 5] rfl)
  obtain ⟨hP9, hD9⟩ := PDq.sub (ws' := [(oX10 w0 v0 v1 v2 v3 v4 g5 g6 (nI ed) 0 v9 (nI nb) g11 g12 v13 g14 g15 g16 g17 g18 g19 g20 g21 g22 g23 g24 g25 g26 v27 v28 v29 v30 v31 v32 v33 v34 v35 v36 v37 (nI ol)), (v0, .inl (cA 0, 326, .inl fs))]) hP hD [0, 1] (by decide) rfl
  exact loop1 (en - 0) 0 0 (-1) _ _ ls (by omega) hP9 hD9 hS (lv_sub hl [0, 1, 2, 3] rfl)

set_option maxHeartbeats 4000000 in
set_option maxRecDepth 100000 in
/-- reference: entry -/
theorem r_entry (l : Launch) (D : va_G) (cA : Nat → ClassId) (sa : Nat → Nat) (w0 : Nat) (ed : Nat) (nb : Nat) (ol : Nat) (v0 : Nat) (v1 : Nat) (v2 : Nat) (v3 : Nat) (v4 : Nat) (v9 : Nat) (v13 : Nat) (v27 : Nat) (v28 : Nat) (v29 : Nat) (v30 : Nat) (v31 : Nat) (v32 : Nat) (v33 : Nat) (v34 : Nat) (v35 : Nat) (v36 : Nat) (v37 : Nat) (g8 : Int32) (g11 : Int32) (g12 : Int32) (g14 : Int32) (g15 : Int32) (g16 : Int32) (g17 : Int32) (g18 : Int32) (g19 : Int32) (g20 : Int32) (g21 : Int32) (g22 : Int32) (g23 : Int32) (g24 : Int32) (g26 : Int32) (g5 : Int64) (g6 : Int64) (g25 : Int64) (cn : Nat) (pq : Nat) (en : Nat) (dy : Nat) (fs : Nat → Int32) (i : Int32) (j : Int32) (sz : Nat) (hcn : cn ≤ 10) (hpq : pq ≤ 8) (hen : en ≤ 60) (hdy : dy ≤ 20000) (hri : RI cn pq en dy fs) : Met l yX10_entry wsX10_entry ({ frames := 1, cells := 0, slots := 0, locals := 25 }) (va_Pc [.ref w0, .int i, .int j] (Wd D cA sa [(oX10 w0 v0 v1 v2 v3 v4 g5 g6 (nI ed) g8 v9 (nI nb) g11 g12 v13 g14 g15 g16 g17 g18 g19 g20 g21 g22 g23 g24 g25 g26 v27 v28 v29 v30 v31 v32 v33 v34 v35 v36 v37 (nI ol)), (v0, .inl (cA 0, 326, .inl fs))] sz)) (va_Qi (fun (r : Int32) (_ : Unit) => True) (fun (_ : Unit) t => ∃ zt : Int32, Wq D (va_A [(oX10 w0 v0 v1 v2 v3 v4 g5 g6 (nI ed) g8 v9 (nI nb) g11 g12 v13 g14 g15 g16 g17 g18 g19 g20 g21 g22 g23 g24 g25 g26 v27 v28 v29 v30 v31 v32 v33 v34 v35 v36 v37 (nI ol)), (v0, .inl (cA 0, 326, .inl fs))] sz) [(oX10 w0 v0 v1 v2 v3 v4 g5 g6 (nI ed) zt v9 (nI nb) g11 g12 v13 g14 g15 g16 g17 g18 g19 g20 g21 g22 g23 g24 g25 g26 v27 v28 v29 v30 v31 v32 v33 v34 v35 v36 v37 (nI ol)), (v0, .inl (cA 0, 326, .inl fs))] t) (va_A [(oX10 w0 v0 v1 v2 v3 v4 g5 g6 (nI ed) g8 v9 (nI nb) g11 g12 v13 g14 g15 g16 g17 g18 g19 g20 g21 g22 g23 g24 g25 g26 v27 v28 v29 v30 v31 v32 v33 v34 v35 v36 v37 (nI ol)), (v0, .inl (cA 0, 326, .inl fs))] sz)) 0 0 (va_A [(oX10 w0 v0 v1 v2 v3 v4 g5 g6 (nI ed) g8 v9 (nI nb) g11 g12 v13 g14 g15 g16 g17 g18 g19 g20 g21 g22 g23 g24 g25 g26 v27 v28 v29 v30 v31 v32 v33 v34 v35 v36 v37 (nI ol)), (v0, .inl (cA 0, 326, .inl fs))] sz) := by
  refine Met.ofW (cc := cX10_entry) (maxL := 3) (ret := (some .int)) (by decide) rfl ?_
  intro p e s m args below meth c s₁ B hml hv
  obtain ⟨rfl, hsz, hP, hK, hD0, hC, hZ⟩ := hv
  have hx := B.exec
  have hb := B.bytes
  have hr := B.returns
  have hts := atoms_spec (ws := wsX10_entry) B.pre
  have hown : s.vm.findClass RX10 = some m.cls := findClass_of_methodNamed B.named
  have hlocks := B.notSynchronized
  subst hsz
  have hD := hD0.self (sz := s.heap.size)
  generalize hAe : va_A [(oX10 w0 v0 v1 v2 v3 v4 g5 g6 (nI ed) g8 v9 (nI nb) g11 g12 v13 g14 g15 g16 g17 g18 g19 g20 g21 g22 g23 g24 g25 g26 v27 v28 v29 v30 v31 v32 v33 v34 v35 v36 v37 (nI ol)), (v0, .inl (cA 0, 326, .inl fs))] s.heap.size = A at hD hZ ⊢
  have hA : ∀ q : Nat, s.heap.size ≤ q → A q := fun q h => by rw [← hAe]; exact Or.inr h
  have hS : va_S A s.heap s.heap [] := va_S.rf
  have hP : va_P D vwCl [(oX10 w0 v0 v1 v2 v3 v4 g5 g6 (nI ed) g8 v9 (nI nb) g11 g12 v13 g14 g15 g16 g17 g18 g19 g20 g21 g22 g23 g24 g25 g26 v27 v28 v29 v30 v31 v32 v33 v34 v35 v36 v37 (nI ol)), (v0, .inl (cA 0, 326, .inl fs))] s.heap := hP
  have hl := lv_entry ([.ref w0, .int i, .int j]) (n := 3) (Nat.le_of_ble_eq_true rfl)
  rw [lg_entry_eq]
  generalize (lg_sl ([.ref w0, .int i, .int j]) ++ List.replicate (3 - (lg_sl ([.ref w0, .int i, .int j])).length) Slot.unset).toArray = ls at hl ⊢
  have hl : lv_has ls 3 [(0, .ref w0), (1, .int i), (2, .int j)] := hl
  have inX10 : ∀ w ∈ u_ws RX10 TX10 39, w ∈ wsX10_entry := by decide +kernel
  refine lv_aload_n hx hb dX10_entry_0 rfl (lv_at hl 0 rfl) ?_
  refine lv_iload_n hx hb dX10_entry_1 rfl (lv_at hl 1 rfl) ?_
  refine lv_i2l (v := (i.toInt64)) hx hb dX10_entry_2 rfl ?_
  refine lv_lconst (v := 0) hx hb dX10_entry_3 (by decide) ?_
  refine lv_aload_n hx hb dX10_entry_4 rfl (lv_at hl 0 rfl) ?_
  refine va_get (D := D) (ci := 11) (v := .ref v0) (C := RX10) (T := TX10) (N := 39) hx hb hts inX10 hown hK hP 0 rfl rfl 0 (by decide) (hts (.fieldLink RX10 7 "EscrowDeskModel" "s" "[I") (by decide +kernel)) (fun _ h9 => h9) rfl dX10_entry_5 ?_
  refine lv_bipush (v := 15) hx hb dX10_entry_8 (by decide) ?_
  refine va_iald hx hb hK hP 1 0 rfl rfl (vp_in_iff.mpr (by decide)) dX10_entry_10 ?_
  refine lv_topi (fun yn1 eyn1 => ?_)
  obtain rfl : yn1 = (nI en) := eyn1.trans hri.2.2.1
  refine lv_iconst (v := 1) hx hb dX10_entry_11 (by decide) ?_
  rcases Nat.eq_zero_or_pos en with hn2 | hn2
  · skip
    refine lv_isub hx hb dX10_entry_12 ?_
    refine lv_topi (fun yn3 eyn3 => ?_)
    obtain rfl : yn3 = (-1) := eyn3.trans (nI_sub0 hn2)
    refine lv_i2l (v := (-1)) hx hb dX10_entry_13 (by decide) ?_
    obtain ⟨hPc, hDc, hFc⟩ := PDq.cut (wc := []) hP hD hS hA [] (by decide) rfl
    refine va_calli (va_runS (As := [.long (i.toInt64), .long 0, .long (-1)]) (rest := [.ref w0]) ⟨hx, hb, hml, hown, hts⟩ (r_between l D cA sa (i.toInt64) 0 (-1) s.heap.size) (va_cwS 3 hts gX10_entry_X10_between rfl rfl rfl (by decide +kernel) ⟨(Nat.le_of_ble_eq_true rfl), (Nat.le_of_ble_eq_true rfl)⟩) ⟨Wd.blind, fun U hU hW => ⟨rfl, Wd.call hPc hDc hK hC hZ hS hFc U hU hW⟩⟩ rfl rfl hl.1 rfl (lv_room (Nat.le_of_ble_eq_true rfl)) dX10_entry_14 ⟨(Nat.le_of_ble_eq_true rfl), (Nat.le_of_ble_eq_true rfl)⟩) hS (fun q _ h => hFc q h) hFc (fun rn4 u t H1 locs ht hvm hw hB hz1 hk1 hS => ?_)
    obtain ⟨hP1, hD1⟩ := hB
    rw [ht] at hP1
    obtain ⟨hP, hD⟩ := PDq.join (w := [(oX10 w0 v0 v1 v2 v3 v4 g5 g6 (nI ed) g8 v9 (nI nb) g11 g12 v13 g14 g15 g16 g17 g18 g19 g20 g21 g22 g23 g24 g25 g26 v27 v28 v29 v30 v31 v32 v33 v34 v35 v36 v37 (nI ol)), (v0, .inl (cA 0, 326, .inl fs))]) 2 hP hD [] [0, 1] rfl rfl (by decide) (by decide) hk1 hFc hP1 hD1 rfl
    generalize H1 = H at hP hS ⊢
    rcases hw with ⟨hr9, hn5⟩ | hr9
    · skip
      subst hr9
      exact absurd (btw_no hn5.1 hn5.2) (fun h9 => h9)
    · skip
      subst hr9
      refine lv_iload_n hx hb dX10_entry_17 rfl (lv_at hl 2 rfl) ?_
      refine lv_i2l (v := (j.toInt64)) hx hb dX10_entry_18 rfl ?_
      refine lv_lconst (v := 0) hx hb dX10_entry_19 (by decide) ?_
      refine lv_ldc2 (v := 3) hx hb hown (hts (.constantLong RX10 446 3) (by decide +kernel)) dX10_entry_20 ?_
      obtain ⟨hPc, hDc, hFc⟩ := PDq.cut (wc := []) hP hD hS hA [] (by decide) rfl
      refine va_calli (va_runS (As := [.long (j.toInt64), .long 0, .long 3]) (rest := [.int 0, .ref w0]) ⟨hx, hb, hml, hown, hts⟩ (r_between l D cA sa (j.toInt64) 0 3 H.size) (va_cwS 3 hts gX10_entry_X10_between rfl rfl rfl (by decide +kernel) ⟨(Nat.le_of_ble_eq_true rfl), (Nat.le_of_ble_eq_true rfl)⟩) ⟨Wd.blind, fun U hU hW => ⟨rfl, Wd.call hPc hDc hK hC hZ hS hFc U hU hW⟩⟩ rfl rfl hl.1 rfl (lv_room (Nat.le_of_ble_eq_true rfl)) dX10_entry_23 ⟨(Nat.le_of_ble_eq_true rfl), (Nat.le_of_ble_eq_true rfl)⟩) hS (fun q _ h => hFc q h) hFc (fun rn6 u t H1 locs ht hvm hw hB hz1 hk1 hS => ?_)
      obtain ⟨hP1, hD1⟩ := hB
      rw [ht] at hP1
      obtain ⟨hP, hD⟩ := PDq.join (w := [(oX10 w0 v0 v1 v2 v3 v4 g5 g6 (nI ed) g8 v9 (nI nb) g11 g12 v13 g14 g15 g16 g17 g18 g19 g20 g21 g22 g23 g24 g25 g26 v27 v28 v29 v30 v31 v32 v33 v34 v35 v36 v37 (nI ol)), (v0, .inl (cA 0, 326, .inl fs))]) 2 hP hD [] [0, 1] rfl rfl (by decide) (by decide) hk1 hFc hP1 hD1 rfl
      generalize H1 = H at hP hS ⊢
      rcases hw with ⟨hr9, hn7⟩ | hr9
      · skip
        subst hr9
        have hn8 := btw_c (lo := 0) (hi := 3) (by decide) (by decide) hn7.1 hn7.2
        obtain ⟨kn9, hn10a, hn10, hn11⟩ := hn8
        rw [hn11] at hl
        have hl : lv_has ls 3 [(0, .ref w0), (1, .int i), (2, .int (nI kn9))] := hl
        obtain ⟨hPc, hDc, hFc⟩ := PDq.cut (wc := [(oX10 w0 v0 v1 v2 v3 v4 g5 g6 (nI ed) g8 v9 (nI nb) g11 g12 v13 g14 g15 g16 g17 g18 g19 g20 g21 g22 g23 g24 g25 g26 v27 v28 v29 v30 v31 v32 v33 v34 v35 v36 v37 (nI ol))]) hP hD hS hA [0] (by decide) rfl
        refine va_calli (va_runV (As := [.int 0, .int 1]) (rest := []) ⟨hx, hb, hml, hown, hts⟩ (r_good_01 l D cA sa w0 ed nb ol v0 v1 v2 v3 v4 v9 v13 v27 v28 v29 v30 v31 v32 v33 v34 v35 v36 v37 g8 g11 g12 g14 g15 g16 g17 g18 g19 g20 g21 g22 g23 g24 g26 g5 g6 g25 H.size) (cwV 2 hts gX10_entry_X10_good_ rfl rfl rfl (by decide +kernel) ⟨(Nat.le_of_ble_eq_true rfl), (Nat.le_of_ble_eq_true rfl)⟩) ⟨Wd.blind, va_recv hK hPc (ci := 11) (q0 := 0) rfl rfl, fun U hU hW => ⟨rfl, Wd.call hPc hDc hK hC hZ hS hFc U hU hW⟩⟩ rfl rfl hl.1 rfl (lv_room (Nat.le_of_ble_eq_true rfl)) dX10_entry_26 ⟨(Nat.le_of_ble_eq_true rfl), (Nat.le_of_ble_eq_true rfl)⟩) hS (fun q _ h => hFc q h) hFc (fun rn12 u t H1 locs ht hvm hw hB hz1 hk1 hS => ?_)
        obtain ⟨hP1, hD1⟩ := hB
        rw [ht] at hP1
        obtain ⟨hP, hD⟩ := PDq.join (w := [(v0, .inl (cA 0, 326, .inl fs)), (oX10 w0 v0 v1 v2 v3 v4 g5 g6 (nI ed) 1 v9 (nI nb) g11 g12 v13 g14 g15 g16 g17 g18 g19 g20 g21 g22 g23 g24 g25 g26 v27 v28 v29 v30 v31 v32 v33 v34 v35 v36 v37 (nI ol))]) 1 hP hD [0] [1] rfl rfl (by decide) (by decide) hk1 hFc hP1 hD1 rfl
        generalize H1 = H at hP hS ⊢
        obtain rfl : rn12 = 0 := hw
        refine lv_if_eq (tgt := 41) hx hb dX10_entry_29 (by decide) (fun c13 => ?_) (fun c9 => absurd c9 (by decide))
        refine lv_iconst (v := 0) hx hb dX10_entry_41 (by decide) ?_
        obtain ⟨hP9, hD9⟩ := PDq.sub (ws' := [(oX10 w0 v0 v1 v2 v3 v4 g5 g6 (nI ed) 1 v9 (nI nb) g11 g12 v13 g14 g15 g16 g17 g18 g19 g20 g21 g22 g23 g24 g25 g26 v27 v28 v29 v30 v31 v32 v33 v34 v35 v36 v37 (nI ol)), (v0, .inl (cA 0, 326, .inl fs))]) hP hD [1, 0] (by decide) rfl
        refine W.widen (k := 0) (n := 0) (Nat.le_of_ble_eq_true rfl) (Nat.le_of_ble_eq_true rfl) ?_
        exact (W.iret (v := 0) hx hb hr (fun t ht hW => ⟨⟨0, (), rfl, trivial, 1, by rw [ht]; exact hP9, hD9⟩, hS.F ht⟩) hS.2.2 dX10_entry_42)
      · skip
        subst hr9
        obtain ⟨hPc, hDc, hFc⟩ := PDq.cut (wc := [(oX10 w0 v0 v1 v2 v3 v4 g5 g6 (nI ed) g8 v9 (nI nb) g11 g12 v13 g14 g15 g16 g17 g18 g19 g20 g21 g22 g23 g24 g25 g26 v27 v28 v29 v30 v31 v32 v33 v34 v35 v36 v37 (nI ol))]) hP hD hS hA [0] (by decide) rfl
        refine va_calli (va_runV (As := [.int 0, .int 0]) (rest := []) ⟨hx, hb, hml, hown, hts⟩ (r_good_00 l D cA sa w0 ed nb ol v0 v1 v2 v3 v4 v9 v13 v27 v28 v29 v30 v31 v32 v33 v34 v35 v36 v37 g8 g11 g12 g14 g15 g16 g17 g18 g19 g20 g21 g22 g23 g24 g26 g5 g6 g25 H.size) (cwV 2 hts gX10_entry_X10_good_ rfl rfl rfl (by decide +kernel) ⟨(Nat.le_of_ble_eq_true rfl), (Nat.le_of_ble_eq_true rfl)⟩) ⟨Wd.blind, va_recv hK hPc (ci := 11) (q0 := 0) rfl rfl, fun U hU hW => ⟨rfl, Wd.call hPc hDc hK hC hZ hS hFc U hU hW⟩⟩ rfl rfl hl.1 rfl (lv_room (Nat.le_of_ble_eq_true rfl)) dX10_entry_26 ⟨(Nat.le_of_ble_eq_true rfl), (Nat.le_of_ble_eq_true rfl)⟩) hS (fun q _ h => hFc q h) hFc (fun rn14 u t H1 locs ht hvm hw hB hz1 hk1 hS => ?_)
        obtain ⟨hP1, hD1⟩ := hB
        rw [ht] at hP1
        obtain ⟨hP, hD⟩ := PDq.join (w := [(v0, .inl (cA 0, 326, .inl fs)), (oX10 w0 v0 v1 v2 v3 v4 g5 g6 (nI ed) 1 v9 (nI nb) g11 g12 v13 g14 g15 g16 g17 g18 g19 g20 g21 g22 g23 g24 g25 g26 v27 v28 v29 v30 v31 v32 v33 v34 v35 v36 v37 (nI ol))]) 1 hP hD [0] [1] rfl rfl (by decide) (by decide) hk1 hFc hP1 hD1 rfl
        generalize H1 = H at hP hS ⊢
        obtain rfl : rn14 = 0 := hw
        refine lv_if_eq (tgt := 41) hx hb dX10_entry_29 (by decide) (fun c15 => ?_) (fun c9 => absurd c9 (by decide))
        refine lv_iconst (v := 0) hx hb dX10_entry_41 (by decide) ?_
        obtain ⟨hP9, hD9⟩ := PDq.sub (ws' := [(oX10 w0 v0 v1 v2 v3 v4 g5 g6 (nI ed) 1 v9 (nI nb) g11 g12 v13 g14 g15 g16 g17 g18 g19 g20 g21 g22 g23 g24 g25 g26 v27 v28 v29 v30 v31 v32 v33 v34 v35 v36 v37 (nI ol)), (v0, .inl (cA 0, 326, .inl fs))]) hP hD [1, 0] (by decide) rfl
        refine W.widen (k := 0) (n := 0) (Nat.le_of_ble_eq_true rfl) (Nat.le_of_ble_eq_true rfl) ?_
        exact (W.iret (v := 0) hx hb hr (fun t ht hW => ⟨⟨0, (), rfl, trivial, 1, by rw [ht]; exact hP9, hD9⟩, hS.F ht⟩) hS.2.2 dX10_entry_42)
  · skip
    refine lv_isub hx hb dX10_entry_12 ?_
    refine lv_topi (fun yn16 eyn16 => ?_)
    obtain rfl : yn16 = (nI (en - 1)) := eyn16.trans (nI_sub (a := en) (b := 1) (by omega))
    refine lv_i2l (v := ((nI (en - 1)).toInt64)) hx hb dX10_entry_13 rfl ?_
    obtain ⟨hPc, hDc, hFc⟩ := PDq.cut (wc := []) hP hD hS hA [] (by decide) rfl
    refine va_calli (va_runS (As := [.long (i.toInt64), .long 0, .long ((nI (en - 1)).toInt64)]) (rest := [.ref w0]) ⟨hx, hb, hml, hown, hts⟩ (r_between l D cA sa (i.toInt64) 0 ((nI (en - 1)).toInt64) s.heap.size) (va_cwS 3 hts gX10_entry_X10_between rfl rfl rfl (by decide +kernel) ⟨(Nat.le_of_ble_eq_true rfl), (Nat.le_of_ble_eq_true rfl)⟩) ⟨Wd.blind, fun U hU hW => ⟨rfl, Wd.call hPc hDc hK hC hZ hS hFc U hU hW⟩⟩ rfl rfl hl.1 rfl (lv_room (Nat.le_of_ble_eq_true rfl)) dX10_entry_14 ⟨(Nat.le_of_ble_eq_true rfl), (Nat.le_of_ble_eq_true rfl)⟩) hS (fun q _ h => hFc q h) hFc (fun rn17 u t H1 locs ht hvm hw hB hz1 hk1 hS => ?_)
    obtain ⟨hP1, hD1⟩ := hB
    rw [ht] at hP1
    obtain ⟨hP, hD⟩ := PDq.join (w := [(oX10 w0 v0 v1 v2 v3 v4 g5 g6 (nI ed) g8 v9 (nI nb) g11 g12 v13 g14 g15 g16 g17 g18 g19 g20 g21 g22 g23 g24 g25 g26 v27 v28 v29 v30 v31 v32 v33 v34 v35 v36 v37 (nI ol)), (v0, .inl (cA 0, 326, .inl fs))]) 2 hP hD [] [0, 1] rfl rfl (by decide) (by decide) hk1 hFc hP1 hD1 rfl
    generalize H1 = H at hP hS ⊢
    rcases hw with ⟨hr9, hn18⟩ | hr9
    · skip
      subst hr9
      have hn19 := btw_nat hn18.1 hn18.2 (by omega)
      obtain ⟨kn20, hn21, hn22⟩ := hn19
      rw [hn22] at hl
      have hl : lv_has ls 3 [(0, .ref w0), (1, .int (nI kn20)), (2, .int j)] := hl
      refine lv_iload_n hx hb dX10_entry_17 rfl (lv_at hl 2 rfl) ?_
      refine lv_i2l (v := (j.toInt64)) hx hb dX10_entry_18 rfl ?_
      refine lv_lconst (v := 0) hx hb dX10_entry_19 (by decide) ?_
      refine lv_ldc2 (v := 3) hx hb hown (hts (.constantLong RX10 446 3) (by decide +kernel)) dX10_entry_20 ?_
      obtain ⟨hPc, hDc, hFc⟩ := PDq.cut (wc := []) hP hD hS hA [] (by decide) rfl
      refine va_calli (va_runS (As := [.long (j.toInt64), .long 0, .long 3]) (rest := [.int 1, .ref w0]) ⟨hx, hb, hml, hown, hts⟩ (r_between l D cA sa (j.toInt64) 0 3 H.size) (va_cwS 3 hts gX10_entry_X10_between rfl rfl rfl (by decide +kernel) ⟨(Nat.le_of_ble_eq_true rfl), (Nat.le_of_ble_eq_true rfl)⟩) ⟨Wd.blind, fun U hU hW => ⟨rfl, Wd.call hPc hDc hK hC hZ hS hFc U hU hW⟩⟩ rfl rfl hl.1 rfl (lv_room (Nat.le_of_ble_eq_true rfl)) dX10_entry_23 ⟨(Nat.le_of_ble_eq_true rfl), (Nat.le_of_ble_eq_true rfl)⟩) hS (fun q _ h => hFc q h) hFc (fun rn23 u t H1 locs ht hvm hw hB hz1 hk1 hS => ?_)
      obtain ⟨hP1, hD1⟩ := hB
      rw [ht] at hP1
      obtain ⟨hP, hD⟩ := PDq.join (w := [(oX10 w0 v0 v1 v2 v3 v4 g5 g6 (nI ed) g8 v9 (nI nb) g11 g12 v13 g14 g15 g16 g17 g18 g19 g20 g21 g22 g23 g24 g25 g26 v27 v28 v29 v30 v31 v32 v33 v34 v35 v36 v37 (nI ol)), (v0, .inl (cA 0, 326, .inl fs))]) 2 hP hD [] [0, 1] rfl rfl (by decide) (by decide) hk1 hFc hP1 hD1 rfl
      generalize H1 = H at hP hS ⊢
      rcases hw with ⟨hr9, hn24⟩ | hr9
      · skip
        subst hr9
        have hn25 := btw_c (lo := 0) (hi := 3) (by decide) (by decide) hn24.1 hn24.2
        obtain ⟨kn26, hn27a, hn27, hn28⟩ := hn25
        rw [hn28] at hl
        have hl : lv_has ls 3 [(0, .ref w0), (1, .int (nI kn20)), (2, .int (nI kn26))] := hl
        obtain ⟨hPc, hDc, hFc⟩ := PDq.cut (wc := [(oX10 w0 v0 v1 v2 v3 v4 g5 g6 (nI ed) g8 v9 (nI nb) g11 g12 v13 g14 g15 g16 g17 g18 g19 g20 g21 g22 g23 g24 g25 g26 v27 v28 v29 v30 v31 v32 v33 v34 v35 v36 v37 (nI ol))]) hP hD hS hA [0] (by decide) rfl
        refine va_calli (va_runV (As := [.int 1, .int 1]) (rest := []) ⟨hx, hb, hml, hown, hts⟩ (r_good_11 l D cA sa w0 ed nb ol v0 v1 v2 v3 v4 v9 v13 v27 v28 v29 v30 v31 v32 v33 v34 v35 v36 v37 g8 g11 g12 g14 g15 g16 g17 g18 g19 g20 g21 g22 g23 g24 g26 g5 g6 g25 H.size) (cwV 2 hts gX10_entry_X10_good_ rfl rfl rfl (by decide +kernel) ⟨(Nat.le_of_ble_eq_true rfl), (Nat.le_of_ble_eq_true rfl)⟩) ⟨Wd.blind, va_recv hK hPc (ci := 11) (q0 := 0) rfl rfl, fun U hU hW => ⟨rfl, Wd.call hPc hDc hK hC hZ hS hFc U hU hW⟩⟩ rfl rfl hl.1 rfl (lv_room (Nat.le_of_ble_eq_true rfl)) dX10_entry_26 ⟨(Nat.le_of_ble_eq_true rfl), (Nat.le_of_ble_eq_true rfl)⟩) hS (fun q _ h => hFc q h) hFc (fun rn29 u t H1 locs ht hvm hw hB hz1 hk1 hS => ?_)
        obtain ⟨hP1, hD1⟩ := hB
        rw [ht] at hP1
        obtain ⟨hP, hD⟩ := PDq.join (w := [(v0, .inl (cA 0, 326, .inl fs)), (oX10 w0 v0 v1 v2 v3 v4 g5 g6 (nI ed) 0 v9 (nI nb) g11 g12 v13 g14 g15 g16 g17 g18 g19 g20 g21 g22 g23 g24 g25 g26 v27 v28 v29 v30 v31 v32 v33 v34 v35 v36 v37 (nI ol))]) 1 hP hD [0] [1] rfl rfl (by decide) (by decide) hk1 hFc hP1 hD1 rfl
        generalize H1 = H at hP hS ⊢
        obtain rfl : rn29 = 1 := hw
        refine lv_if_eq (tgt := 41) hx hb dX10_entry_29 (by decide) (fun c9 => absurd c9 (by decide)) (fun c30 => ?_)
        refine lv_aload_n hx hb dX10_entry_32 rfl (lv_at hl 0 rfl) ?_
        refine lv_iload_n hx hb dX10_entry_33 rfl (lv_at hl 1 rfl) ?_
        refine lv_iload_n hx hb dX10_entry_34 rfl (lv_at hl 2 rfl) ?_
        obtain ⟨hPc, hDc, hFc⟩ := PDq.cut (wc := [(oX10 w0 v0 v1 v2 v3 v4 g5 g6 (nI ed) 0 v9 (nI nb) g11 g12 v13 g14 g15 g16 g17 g18 g19 g20 g21 g22 g23 g24 g25 g26 v27 v28 v29 v30 v31 v32 v33 v34 v35 v36 v37 (nI ol)), (v0, .inl (cA 0, 326, .inl fs))]) hP hD hS hA [1, 0] (by decide) rfl
        refine va_calli (va_runV (As := [.int (nI kn20), .int (nI kn26)]) (rest := []) ⟨hx, hb, hml, hown, hts⟩ (r_ofEntry l D cA sa w0 ed nb ol v0 v1 v2 v3 v4 v9 v13 v27 v28 v29 v30 v31 v32 v33 v34 v35 v36 v37 0 g11 g12 g14 g15 g16 g17 g18 g19 g20 g21 g22 g23 g24 g26 g5 g6 g25 fs kn20 kn26 H.size (by omega) (by omega)) (cwV 2 hts gX10_entry_X10_ofEntry rfl rfl rfl (by decide +kernel) ⟨(Nat.le_of_ble_eq_true rfl), (Nat.le_of_ble_eq_true rfl)⟩) ⟨Wd.blind, va_recv hK hPc (ci := 11) (q0 := 0) rfl rfl, fun U hU hW => ⟨rfl, Wd.call hPc hDc hK hC hZ hS hFc U hU hW⟩⟩ rfl rfl hl.1 rfl (lv_room (Nat.le_of_ble_eq_true rfl)) dX10_entry_35 ⟨(Nat.le_of_ble_eq_true rfl), (Nat.le_of_ble_eq_true rfl)⟩) hS (fun q _ h => hFc q h) hFc (fun rn31 u t H1 locs ht hvm hw hB hz1 hk1 hS => ?_)
        obtain ⟨hP1, hD1⟩ := hB
        rw [ht] at hP1
        obtain ⟨hP, hD⟩ := PDq.join (w := [(oX10 w0 v0 v1 v2 v3 v4 g5 g6 (nI ed) 0 v9 (nI nb) g11 g12 v13 g14 g15 g16 g17 g18 g19 g20 g21 g22 g23 g24 g25 g26 v27 v28 v29 v30 v31 v32 v33 v34 v35 v36 v37 (nI ol)), (v0, .inl (cA 0, 326, .inl fs))]) 0 hP hD [1, 0] [] rfl rfl (by decide) (by decide) hk1 hFc hP1 hD1 rfl
        generalize H1 = H at hP hS ⊢
        refine lv_goto (tgt := 42) hx hb dX10_entry_38 (by decide) ?_
        obtain ⟨hP9, hD9⟩ := PDq.sub (ws' := [(oX10 w0 v0 v1 v2 v3 v4 g5 g6 (nI ed) 0 v9 (nI nb) g11 g12 v13 g14 g15 g16 g17 g18 g19 g20 g21 g22 g23 g24 g25 g26 v27 v28 v29 v30 v31 v32 v33 v34 v35 v36 v37 (nI ol)), (v0, .inl (cA 0, 326, .inl fs))]) hP hD [0, 1] (by decide) rfl
        refine W.widen (k := 0) (n := 0) (Nat.le_of_ble_eq_true rfl) (Nat.le_of_ble_eq_true rfl) ?_
        exact (W.iret (v := rn31) hx hb hr (fun t ht hW => ⟨⟨rn31, (), rfl, trivial, 0, by rw [ht]; exact hP9, hD9⟩, hS.F ht⟩) hS.2.2 dX10_entry_42)
      · skip
        subst hr9
        obtain ⟨hPc, hDc, hFc⟩ := PDq.cut (wc := [(oX10 w0 v0 v1 v2 v3 v4 g5 g6 (nI ed) g8 v9 (nI nb) g11 g12 v13 g14 g15 g16 g17 g18 g19 g20 g21 g22 g23 g24 g25 g26 v27 v28 v29 v30 v31 v32 v33 v34 v35 v36 v37 (nI ol))]) hP hD hS hA [0] (by decide) rfl
        refine va_calli (va_runV (As := [.int 1, .int 0]) (rest := []) ⟨hx, hb, hml, hown, hts⟩ (r_good_10 l D cA sa w0 ed nb ol v0 v1 v2 v3 v4 v9 v13 v27 v28 v29 v30 v31 v32 v33 v34 v35 v36 v37 g8 g11 g12 g14 g15 g16 g17 g18 g19 g20 g21 g22 g23 g24 g26 g5 g6 g25 H.size) (cwV 2 hts gX10_entry_X10_good_ rfl rfl rfl (by decide +kernel) ⟨(Nat.le_of_ble_eq_true rfl), (Nat.le_of_ble_eq_true rfl)⟩) ⟨Wd.blind, va_recv hK hPc (ci := 11) (q0 := 0) rfl rfl, fun U hU hW => ⟨rfl, Wd.call hPc hDc hK hC hZ hS hFc U hU hW⟩⟩ rfl rfl hl.1 rfl (lv_room (Nat.le_of_ble_eq_true rfl)) dX10_entry_26 ⟨(Nat.le_of_ble_eq_true rfl), (Nat.le_of_ble_eq_true rfl)⟩) hS (fun q _ h => hFc q h) hFc (fun rn32 u t H1 locs ht hvm hw hB hz1 hk1 hS => ?_)
        obtain ⟨hP1, hD1⟩ := hB
        rw [ht] at hP1
        obtain ⟨hP, hD⟩ := PDq.join (w := [(v0, .inl (cA 0, 326, .inl fs)), (oX10 w0 v0 v1 v2 v3 v4 g5 g6 (nI ed) 2 v9 (nI nb) g11 g12 v13 g14 g15 g16 g17 g18 g19 g20 g21 g22 g23 g24 g25 g26 v27 v28 v29 v30 v31 v32 v33 v34 v35 v36 v37 (nI ol))]) 1 hP hD [0] [1] rfl rfl (by decide) (by decide) hk1 hFc hP1 hD1 rfl
        generalize H1 = H at hP hS ⊢
        obtain rfl : rn32 = 0 := hw
        refine lv_if_eq (tgt := 41) hx hb dX10_entry_29 (by decide) (fun c33 => ?_) (fun c9 => absurd c9 (by decide))
        refine lv_iconst (v := 0) hx hb dX10_entry_41 (by decide) ?_
        obtain ⟨hP9, hD9⟩ := PDq.sub (ws' := [(oX10 w0 v0 v1 v2 v3 v4 g5 g6 (nI ed) 2 v9 (nI nb) g11 g12 v13 g14 g15 g16 g17 g18 g19 g20 g21 g22 g23 g24 g25 g26 v27 v28 v29 v30 v31 v32 v33 v34 v35 v36 v37 (nI ol)), (v0, .inl (cA 0, 326, .inl fs))]) hP hD [1, 0] (by decide) rfl
        refine W.widen (k := 0) (n := 0) (Nat.le_of_ble_eq_true rfl) (Nat.le_of_ble_eq_true rfl) ?_
        exact (W.iret (v := 0) hx hb hr (fun t ht hW => ⟨⟨0, (), rfl, trivial, 2, by rw [ht]; exact hP9, hD9⟩, hS.F ht⟩) hS.2.2 dX10_entry_42)
    · skip
      subst hr9
      refine lv_iload_n hx hb dX10_entry_17 rfl (lv_at hl 2 rfl) ?_
      refine lv_i2l (v := (j.toInt64)) hx hb dX10_entry_18 rfl ?_
      refine lv_lconst (v := 0) hx hb dX10_entry_19 (by decide) ?_
      refine lv_ldc2 (v := 3) hx hb hown (hts (.constantLong RX10 446 3) (by decide +kernel)) dX10_entry_20 ?_
      obtain ⟨hPc, hDc, hFc⟩ := PDq.cut (wc := []) hP hD hS hA [] (by decide) rfl
      refine va_calli (va_runS (As := [.long (j.toInt64), .long 0, .long 3]) (rest := [.int 0, .ref w0]) ⟨hx, hb, hml, hown, hts⟩ (r_between l D cA sa (j.toInt64) 0 3 H.size) (va_cwS 3 hts gX10_entry_X10_between rfl rfl rfl (by decide +kernel) ⟨(Nat.le_of_ble_eq_true rfl), (Nat.le_of_ble_eq_true rfl)⟩) ⟨Wd.blind, fun U hU hW => ⟨rfl, Wd.call hPc hDc hK hC hZ hS hFc U hU hW⟩⟩ rfl rfl hl.1 rfl (lv_room (Nat.le_of_ble_eq_true rfl)) dX10_entry_23 ⟨(Nat.le_of_ble_eq_true rfl), (Nat.le_of_ble_eq_true rfl)⟩) hS (fun q _ h => hFc q h) hFc (fun rn34 u t H1 locs ht hvm hw hB hz1 hk1 hS => ?_)
      obtain ⟨hP1, hD1⟩ := hB
      rw [ht] at hP1
      obtain ⟨hP, hD⟩ := PDq.join (w := [(oX10 w0 v0 v1 v2 v3 v4 g5 g6 (nI ed) g8 v9 (nI nb) g11 g12 v13 g14 g15 g16 g17 g18 g19 g20 g21 g22 g23 g24 g25 g26 v27 v28 v29 v30 v31 v32 v33 v34 v35 v36 v37 (nI ol)), (v0, .inl (cA 0, 326, .inl fs))]) 2 hP hD [] [0, 1] rfl rfl (by decide) (by decide) hk1 hFc hP1 hD1 rfl
      generalize H1 = H at hP hS ⊢
      rcases hw with ⟨hr9, hn35⟩ | hr9
      · skip
        subst hr9
        have hn36 := btw_c (lo := 0) (hi := 3) (by decide) (by decide) hn35.1 hn35.2
        obtain ⟨kn37, hn38a, hn38, hn39⟩ := hn36
        rw [hn39] at hl
        have hl : lv_has ls 3 [(0, .ref w0), (1, .int i), (2, .int (nI kn37))] := hl
        obtain ⟨hPc, hDc, hFc⟩ := PDq.cut (wc := [(oX10 w0 v0 v1 v2 v3 v4 g5 g6 (nI ed) g8 v9 (nI nb) g11 g12 v13 g14 g15 g16 g17 g18 g19 g20 g21 g22 g23 g24 g25 g26 v27 v28 v29 v30 v31 v32 v33 v34 v35 v36 v37 (nI ol))]) hP hD hS hA [0] (by decide) rfl
        refine va_calli (va_runV (As := [.int 0, .int 1]) (rest := []) ⟨hx, hb, hml, hown, hts⟩ (r_good_01 l D cA sa w0 ed nb ol v0 v1 v2 v3 v4 v9 v13 v27 v28 v29 v30 v31 v32 v33 v34 v35 v36 v37 g8 g11 g12 g14 g15 g16 g17 g18 g19 g20 g21 g22 g23 g24 g26 g5 g6 g25 H.size) (cwV 2 hts gX10_entry_X10_good_ rfl rfl rfl (by decide +kernel) ⟨(Nat.le_of_ble_eq_true rfl), (Nat.le_of_ble_eq_true rfl)⟩) ⟨Wd.blind, va_recv hK hPc (ci := 11) (q0 := 0) rfl rfl, fun U hU hW => ⟨rfl, Wd.call hPc hDc hK hC hZ hS hFc U hU hW⟩⟩ rfl rfl hl.1 rfl (lv_room (Nat.le_of_ble_eq_true rfl)) dX10_entry_26 ⟨(Nat.le_of_ble_eq_true rfl), (Nat.le_of_ble_eq_true rfl)⟩) hS (fun q _ h => hFc q h) hFc (fun rn40 u t H1 locs ht hvm hw hB hz1 hk1 hS => ?_)
        obtain ⟨hP1, hD1⟩ := hB
        rw [ht] at hP1
        obtain ⟨hP, hD⟩ := PDq.join (w := [(v0, .inl (cA 0, 326, .inl fs)), (oX10 w0 v0 v1 v2 v3 v4 g5 g6 (nI ed) 1 v9 (nI nb) g11 g12 v13 g14 g15 g16 g17 g18 g19 g20 g21 g22 g23 g24 g25 g26 v27 v28 v29 v30 v31 v32 v33 v34 v35 v36 v37 (nI ol))]) 1 hP hD [0] [1] rfl rfl (by decide) (by decide) hk1 hFc hP1 hD1 rfl
        generalize H1 = H at hP hS ⊢
        obtain rfl : rn40 = 0 := hw
        refine lv_if_eq (tgt := 41) hx hb dX10_entry_29 (by decide) (fun c41 => ?_) (fun c9 => absurd c9 (by decide))
        refine lv_iconst (v := 0) hx hb dX10_entry_41 (by decide) ?_
        obtain ⟨hP9, hD9⟩ := PDq.sub (ws' := [(oX10 w0 v0 v1 v2 v3 v4 g5 g6 (nI ed) 1 v9 (nI nb) g11 g12 v13 g14 g15 g16 g17 g18 g19 g20 g21 g22 g23 g24 g25 g26 v27 v28 v29 v30 v31 v32 v33 v34 v35 v36 v37 (nI ol)), (v0, .inl (cA 0, 326, .inl fs))]) hP hD [1, 0] (by decide) rfl
        refine W.widen (k := 0) (n := 0) (Nat.le_of_ble_eq_true rfl) (Nat.le_of_ble_eq_true rfl) ?_
        exact (W.iret (v := 0) hx hb hr (fun t ht hW => ⟨⟨0, (), rfl, trivial, 1, by rw [ht]; exact hP9, hD9⟩, hS.F ht⟩) hS.2.2 dX10_entry_42)
      · skip
        subst hr9
        obtain ⟨hPc, hDc, hFc⟩ := PDq.cut (wc := [(oX10 w0 v0 v1 v2 v3 v4 g5 g6 (nI ed) g8 v9 (nI nb) g11 g12 v13 g14 g15 g16 g17 g18 g19 g20 g21 g22 g23 g24 g25 g26 v27 v28 v29 v30 v31 v32 v33 v34 v35 v36 v37 (nI ol))]) hP hD hS hA [0] (by decide) rfl
        refine va_calli (va_runV (As := [.int 0, .int 0]) (rest := []) ⟨hx, hb, hml, hown, hts⟩ (r_good_00 l D cA sa w0 ed nb ol v0 v1 v2 v3 v4 v9 v13 v27 v28 v29 v30 v31 v32 v33 v34 v35 v36 v37 g8 g11 g12 g14 g15 g16 g17 g18 g19 g20 g21 g22 g23 g24 g26 g5 g6 g25 H.size) (cwV 2 hts gX10_entry_X10_good_ rfl rfl rfl (by decide +kernel) ⟨(Nat.le_of_ble_eq_true rfl), (Nat.le_of_ble_eq_true rfl)⟩) ⟨Wd.blind, va_recv hK hPc (ci := 11) (q0 := 0) rfl rfl, fun U hU hW => ⟨rfl, Wd.call hPc hDc hK hC hZ hS hFc U hU hW⟩⟩ rfl rfl hl.1 rfl (lv_room (Nat.le_of_ble_eq_true rfl)) dX10_entry_26 ⟨(Nat.le_of_ble_eq_true rfl), (Nat.le_of_ble_eq_true rfl)⟩) hS (fun q _ h => hFc q h) hFc (fun rn42 u t H1 locs ht hvm hw hB hz1 hk1 hS => ?_)
        obtain ⟨hP1, hD1⟩ := hB
        rw [ht] at hP1
        obtain ⟨hP, hD⟩ := PDq.join (w := [(v0, .inl (cA 0, 326, .inl fs)), (oX10 w0 v0 v1 v2 v3 v4 g5 g6 (nI ed) 1 v9 (nI nb) g11 g12 v13 g14 g15 g16 g17 g18 g19 g20 g21 g22 g23 g24 g25 g26 v27 v28 v29 v30 v31 v32 v33 v34 v35 v36 v37 (nI ol))]) 1 hP hD [0] [1] rfl rfl (by decide) (by decide) hk1 hFc hP1 hD1 rfl
        generalize H1 = H at hP hS ⊢
        obtain rfl : rn42 = 0 := hw
        refine lv_if_eq (tgt := 41) hx hb dX10_entry_29 (by decide) (fun c43 => ?_) (fun c9 => absurd c9 (by decide))
        refine lv_iconst (v := 0) hx hb dX10_entry_41 (by decide) ?_
        obtain ⟨hP9, hD9⟩ := PDq.sub (ws' := [(oX10 w0 v0 v1 v2 v3 v4 g5 g6 (nI ed) 1 v9 (nI nb) g11 g12 v13 g14 g15 g16 g17 g18 g19 g20 g21 g22 g23 g24 g25 g26 v27 v28 v29 v30 v31 v32 v33 v34 v35 v36 v37 (nI ol)), (v0, .inl (cA 0, 326, .inl fs))]) hP hD [1, 0] (by decide) rfl
        refine W.widen (k := 0) (n := 0) (Nat.le_of_ble_eq_true rfl) (Nat.le_of_ble_eq_true rfl) ?_
        exact (W.iret (v := 0) hx hb hr (fun t ht hW => ⟨⟨0, (), rfl, trivial, 1, by rw [ht]; exact hP9, hD9⟩, hS.F ht⟩) hS.2.2 dX10_entry_42)

set_option maxHeartbeats 4000000 in
set_option maxRecDepth 100000 in
/-- reference: splitSum -/
theorem r_splitSum (l : Launch) (D : va_G) (cA : Nat → ClassId) (sa : Nat → Nat) (w0 : Nat) (ed : Nat) (nb : Nat) (ol : Nat) (v0 : Nat) (v1 : Nat) (v2 : Nat) (v3 : Nat) (v4 : Nat) (v9 : Nat) (v13 : Nat) (v27 : Nat) (v28 : Nat) (v29 : Nat) (v30 : Nat) (v31 : Nat) (v32 : Nat) (v33 : Nat) (v34 : Nat) (v35 : Nat) (v36 : Nat) (v37 : Nat) (g8 : Int32) (g11 : Int32) (g12 : Int32) (g14 : Int32) (g15 : Int32) (g16 : Int32) (g17 : Int32) (g18 : Int32) (g19 : Int32) (g20 : Int32) (g21 : Int32) (g22 : Int32) (g23 : Int32) (g24 : Int32) (g26 : Int32) (g5 : Int64) (g6 : Int64) (g25 : Int64) (cn : Nat) (pq : Nat) (en : Nat) (dy : Nat) (fs : Nat → Int32) (mi : Nat) (sz : Nat) (hcn : cn ≤ 10) (hpq : pq ≤ 8) (hen : en ≤ 60) (hdy : dy ≤ 20000) (hri : RI cn pq en dy fs) (hmi : mi < 10) : Met l yX10_splitSum wsX10_splitSum ({ frames := 3, cells := 0, slots := 0, locals := 64 }) (va_Pc [.ref w0, .int (nI mi)] (Wd D cA sa [(oX10 w0 v0 v1 v2 v3 v4 g5 g6 (nI ed) g8 v9 (nI nb) g11 g12 v13 g14 g15 g16 g17 g18 g19 g20 g21 g22 g23 g24 g25 g26 v27 v28 v29 v30 v31 v32 v33 v34 v35 v36 v37 (nI ol)), (v0, .inl (cA 0, 326, .inl fs))] sz)) (va_Qi (fun (r : Int32) (_ : Unit) => True) (fun (_ : Unit) t => Wq D (va_A [(oX10 w0 v0 v1 v2 v3 v4 g5 g6 (nI ed) g8 v9 (nI nb) g11 g12 v13 g14 g15 g16 g17 g18 g19 g20 g21 g22 g23 g24 g25 g26 v27 v28 v29 v30 v31 v32 v33 v34 v35 v36 v37 (nI ol)), (v0, .inl (cA 0, 326, .inl fs))] sz) [(oX10 w0 v0 v1 v2 v3 v4 g5 g6 (nI ed) g8 v9 (nI nb) g11 g12 v13 g14 g15 g16 g17 g18 g19 g20 g21 g22 g23 g24 g25 g26 v27 v28 v29 v30 v31 v32 v33 v34 v35 v36 v37 (nI ol)), (v0, .inl (cA 0, 326, .inl fs))] t) (va_A [(oX10 w0 v0 v1 v2 v3 v4 g5 g6 (nI ed) g8 v9 (nI nb) g11 g12 v13 g14 g15 g16 g17 g18 g19 g20 g21 g22 g23 g24 g25 g26 v27 v28 v29 v30 v31 v32 v33 v34 v35 v36 v37 (nI ol)), (v0, .inl (cA 0, 326, .inl fs))] sz)) 0 0 (va_A [(oX10 w0 v0 v1 v2 v3 v4 g5 g6 (nI ed) g8 v9 (nI nb) g11 g12 v13 g14 g15 g16 g17 g18 g19 g20 g21 g22 g23 g24 g25 g26 v27 v28 v29 v30 v31 v32 v33 v34 v35 v36 v37 (nI ol)), (v0, .inl (cA 0, 326, .inl fs))] sz) := by
  refine Met.ofW (cc := cX10_splitSum) (maxL := 2) (ret := (some .int)) (by decide) rfl ?_
  intro p e s m args below meth c s₁ B hml hv
  obtain ⟨rfl, hsz, hP, hK, hD0, hC, hZ⟩ := hv
  have hx := B.exec
  have hb := B.bytes
  have hr := B.returns
  have hts := atoms_spec (ws := wsX10_splitSum) B.pre
  have hown : s.vm.findClass RX10 = some m.cls := findClass_of_methodNamed B.named
  have hlocks := B.notSynchronized
  subst hsz
  have hD := hD0.self (sz := s.heap.size)
  generalize hAe : va_A [(oX10 w0 v0 v1 v2 v3 v4 g5 g6 (nI ed) g8 v9 (nI nb) g11 g12 v13 g14 g15 g16 g17 g18 g19 g20 g21 g22 g23 g24 g25 g26 v27 v28 v29 v30 v31 v32 v33 v34 v35 v36 v37 (nI ol)), (v0, .inl (cA 0, 326, .inl fs))] s.heap.size = A at hD hZ ⊢
  have hA : ∀ q : Nat, s.heap.size ≤ q → A q := fun q h => by rw [← hAe]; exact Or.inr h
  have hS : va_S A s.heap s.heap [] := va_S.rf
  have hP : va_P D vwCl [(oX10 w0 v0 v1 v2 v3 v4 g5 g6 (nI ed) g8 v9 (nI nb) g11 g12 v13 g14 g15 g16 g17 g18 g19 g20 g21 g22 g23 g24 g25 g26 v27 v28 v29 v30 v31 v32 v33 v34 v35 v36 v37 (nI ol)), (v0, .inl (cA 0, 326, .inl fs))] s.heap := hP
  have hl := lv_entry ([.ref w0, .int (nI mi)]) (n := 2) (Nat.le_of_ble_eq_true rfl)
  rw [lg_entry_eq]
  generalize (lg_sl ([.ref w0, .int (nI mi)]) ++ List.replicate (2 - (lg_sl ([.ref w0, .int (nI mi)])).length) Slot.unset).toArray = ls at hl ⊢
  have hl : lv_has ls 2 [(0, .ref w0), (1, .int (nI mi))] := hl
  refine lv_aload_n hx hb dX10_splitSum_0 rfl (lv_at hl 0 rfl) ?_
  refine lv_iload_n hx hb dX10_splitSum_1 rfl (lv_at hl 1 rfl) ?_
  obtain ⟨hPc, hDc, hFc⟩ := PDq.cut (wc := [(oX10 w0 v0 v1 v2 v3 v4 g5 g6 (nI ed) g8 v9 (nI nb) g11 g12 v13 g14 g15 g16 g17 g18 g19 g20 g21 g22 g23 g24 g25 g26 v27 v28 v29 v30 v31 v32 v33 v34 v35 v36 v37 (nI ol)), (v0, .inl (cA 0, 326, .inl fs))]) hP hD hS hA [0, 1] (by decide) rfl
  refine va_calli (va_runV (As := [.int (nI mi)]) (rest := []) ⟨hx, hb, hml, hown, hts⟩ (r_remainingOf l D cA sa w0 ed nb ol v0 v1 v2 v3 v4 v9 v13 v27 v28 v29 v30 v31 v32 v33 v34 v35 v36 v37 g8 g11 g12 g14 g15 g16 g17 g18 g19 g20 g21 g22 g23 g24 g26 g5 g6 g25 fs mi s.heap.size hmi) (cwV 1 hts gX10_splitSum_X10_remainingOf rfl rfl rfl (by decide +kernel) ⟨(Nat.le_of_ble_eq_true rfl), (Nat.le_of_ble_eq_true rfl)⟩) ⟨Wd.blind, va_recv hK hPc (ci := 11) (q0 := 0) rfl rfl, fun U hU hW => ⟨rfl, Wd.call hPc hDc hK hC hZ hS hFc U hU hW⟩⟩ rfl rfl hl.1 rfl (lv_room (Nat.le_of_ble_eq_true rfl)) dX10_splitSum_2 ⟨(Nat.le_of_ble_eq_true rfl), (Nat.le_of_ble_eq_true rfl)⟩) hS (fun q _ h => hFc q h) hFc (fun rn1 u t H1 locs ht hvm hw hB hz1 hk1 hS => ?_)
  obtain ⟨hP1, hD1⟩ := hB
  rw [ht] at hP1
  obtain ⟨hP, hD⟩ := PDq.join (w := [(oX10 w0 v0 v1 v2 v3 v4 g5 g6 (nI ed) g8 v9 (nI nb) g11 g12 v13 g14 g15 g16 g17 g18 g19 g20 g21 g22 g23 g24 g25 g26 v27 v28 v29 v30 v31 v32 v33 v34 v35 v36 v37 (nI ol)), (v0, .inl (cA 0, 326, .inl fs))]) 0 hP hD [0, 1] [] rfl rfl (by decide) (by decide) hk1 hFc hP1 hD1 rfl
  generalize H1 = H at hP hS ⊢
  refine lv_aload_n hx hb dX10_splitSum_5 rfl (lv_at hl 0 rfl) ?_
  obtain ⟨hPc, hDc, hFc⟩ := PDq.cut (wc := [(oX10 w0 v0 v1 v2 v3 v4 g5 g6 (nI ed) g8 v9 (nI nb) g11 g12 v13 g14 g15 g16 g17 g18 g19 g20 g21 g22 g23 g24 g25 g26 v27 v28 v29 v30 v31 v32 v33 v34 v35 v36 v37 (nI ol)), (v0, .inl (cA 0, 326, .inl fs))]) hP hD hS hA [0, 1] (by decide) rfl
  refine va_calli (va_runV (As := []) (rest := [.int rn1]) ⟨hx, hb, hml, hown, hts⟩ (r_availableNow l D cA sa w0 ed nb ol v0 v1 v2 v3 v4 v9 v13 v27 v28 v29 v30 v31 v32 v33 v34 v35 v36 v37 g8 g11 g12 g14 g15 g16 g17 g18 g19 g20 g21 g22 g23 g24 g26 g5 g6 g25 cn pq en dy fs H.size hcn hpq hen hdy hri) (cwV 0 hts gX10_splitSum_X10_availableNow rfl rfl rfl (by decide +kernel) ⟨(Nat.le_of_ble_eq_true rfl), (Nat.le_of_ble_eq_true rfl)⟩) ⟨Wd.blind, va_recv hK hPc (ci := 11) (q0 := 0) rfl rfl, fun U hU hW => ⟨rfl, Wd.call hPc hDc hK hC hZ hS hFc U hU hW⟩⟩ rfl rfl hl.1 rfl (lv_room (Nat.le_of_ble_eq_true rfl)) dX10_splitSum_6 ⟨(Nat.le_of_ble_eq_true rfl), (Nat.le_of_ble_eq_true rfl)⟩) hS (fun q _ h => hFc q h) hFc (fun rn2 u t H1 locs ht hvm hw hB hz1 hk1 hS => ?_)
  obtain ⟨hP1, hD1⟩ := hB
  rw [ht] at hP1
  obtain ⟨hP, hD⟩ := PDq.join (w := [(oX10 w0 v0 v1 v2 v3 v4 g5 g6 (nI ed) g8 v9 (nI nb) g11 g12 v13 g14 g15 g16 g17 g18 g19 g20 g21 g22 g23 g24 g25 g26 v27 v28 v29 v30 v31 v32 v33 v34 v35 v36 v37 (nI ol)), (v0, .inl (cA 0, 326, .inl fs))]) 0 hP hD [0, 1] [] rfl rfl (by decide) (by decide) hk1 hFc hP1 hD1 rfl
  generalize H1 = H at hP hS ⊢
  refine lv_aload_n hx hb dX10_splitSum_9 rfl (lv_at hl 0 rfl) ?_
  refine lv_iload_n hx hb dX10_splitSum_10 rfl (lv_at hl 1 rfl) ?_
  refine lv_iconst (v := 3) hx hb dX10_splitSum_11 (by decide) ?_
  obtain ⟨hPc, hDc, hFc⟩ := PDq.cut (wc := [(oX10 w0 v0 v1 v2 v3 v4 g5 g6 (nI ed) g8 v9 (nI nb) g11 g12 v13 g14 g15 g16 g17 g18 g19 g20 g21 g22 g23 g24 g25 g26 v27 v28 v29 v30 v31 v32 v33 v34 v35 v36 v37 (nI ol)), (v0, .inl (cA 0, 326, .inl fs))]) hP hD hS hA [0, 1] (by decide) rfl
  refine va_calli (va_runV (As := [.int (nI mi), .int 3]) (rest := [.int rn2, .int rn1]) ⟨hx, hb, hml, hown, hts⟩ (r_of l D cA sa w0 ed nb ol v0 v1 v2 v3 v4 v9 v13 v27 v28 v29 v30 v31 v32 v33 v34 v35 v36 v37 g8 g11 g12 g14 g15 g16 g17 g18 g19 g20 g21 g22 g23 g24 g26 g5 g6 g25 fs mi 3 H.size hmi (by omega)) (cwV 2 hts gX10_splitSum_X10_of rfl rfl rfl (by decide +kernel) ⟨(Nat.le_of_ble_eq_true rfl), (Nat.le_of_ble_eq_true rfl)⟩) ⟨Wd.blind, va_recv hK hPc (ci := 11) (q0 := 0) rfl rfl, fun U hU hW => ⟨rfl, Wd.call hPc hDc hK hC hZ hS hFc U hU hW⟩⟩ rfl rfl hl.1 rfl (lv_room (Nat.le_of_ble_eq_true rfl)) dX10_splitSum_12 ⟨(Nat.le_of_ble_eq_true rfl), (Nat.le_of_ble_eq_true rfl)⟩) hS (fun q _ h => hFc q h) hFc (fun rn3 u t H1 locs ht hvm hw hB hz1 hk1 hS => ?_)
  obtain ⟨hP1, hD1⟩ := hB
  rw [ht] at hP1
  obtain ⟨hP, hD⟩ := PDq.join (w := [(oX10 w0 v0 v1 v2 v3 v4 g5 g6 (nI ed) g8 v9 (nI nb) g11 g12 v13 g14 g15 g16 g17 g18 g19 g20 g21 g22 g23 g24 g25 g26 v27 v28 v29 v30 v31 v32 v33 v34 v35 v36 v37 (nI ol)), (v0, .inl (cA 0, 326, .inl fs))]) 0 hP hD [0, 1] [] rfl rfl (by decide) (by decide) hk1 hFc hP1 hD1 rfl
  generalize H1 = H at hP hS ⊢
  obtain rfl : rn3 = (fs (16 + 7 * mi + 3)) := hw
  refine lv_iadd hx hb dX10_splitSum_15 ?_
  refine lv_topi (fun yn4 eyn4 => ?_)
  refine va_mmin hx hb (by rw [hml]; exact hl.1.symm) hown (hts (.methodLink RX10 301 Lib.Math.min.name) (by decide +kernel)) (hts (.static Lib.Math.min.name) (by decide +kernel)) (hts (.initialized "java/lang/Math") (by decide +kernel)) (hts (.code Lib.Math.min.name Lib.Math.min.code 2 (some .int)) (by decide +kernel)) (Nat.le_of_ble_eq_true rfl) (Nat.le_of_ble_eq_true rfl) (Nat.le_of_ble_eq_true rfl) (Nat.le_of_ble_eq_true rfl) dX10_splitSum_16 ?_
  refine lv_topi (fun yn5 eyn5 => ?_)
  obtain ⟨hP9, hD9⟩ := PDq.sub (ws' := [(oX10 w0 v0 v1 v2 v3 v4 g5 g6 (nI ed) g8 v9 (nI nb) g11 g12 v13 g14 g15 g16 g17 g18 g19 g20 g21 g22 g23 g24 g25 g26 v27 v28 v29 v30 v31 v32 v33 v34 v35 v36 v37 (nI ol)), (v0, .inl (cA 0, 326, .inl fs))]) hP hD [0, 1] (by decide) rfl
  refine W.widen (k := 0) (n := 0) (Nat.le_of_ble_eq_true rfl) (Nat.le_of_ble_eq_true rfl) ?_
  exact (W.iret (v := yn5) hx hb hr (fun t ht hW => ⟨⟨yn5, (), rfl, trivial, by rw [ht]; exact hP9, hD9⟩, hS.F ht⟩) hS.2.2 dX10_splitSum_19)

set_option maxHeartbeats 4000000 in
set_option maxRecDepth 100000 in
/-- reference: splitBy -/
theorem r_splitBy (l : Launch) (D : va_G) (cA : Nat → ClassId) (sa : Nat → Nat) (w0 : Nat) (ed : Nat) (nb : Nat) (ol : Nat) (v0 : Nat) (v1 : Nat) (v2 : Nat) (v3 : Nat) (v4 : Nat) (v9 : Nat) (v13 : Nat) (v27 : Nat) (v28 : Nat) (v29 : Nat) (v30 : Nat) (v31 : Nat) (v32 : Nat) (v33 : Nat) (v34 : Nat) (v35 : Nat) (v36 : Nat) (v37 : Nat) (g8 : Int32) (g11 : Int32) (g12 : Int32) (g14 : Int32) (g15 : Int32) (g16 : Int32) (g17 : Int32) (g18 : Int32) (g19 : Int32) (g20 : Int32) (g21 : Int32) (g22 : Int32) (g23 : Int32) (g24 : Int32) (g26 : Int32) (g5 : Int64) (g6 : Int64) (g25 : Int64) (cn : Nat) (pq : Nat) (en : Nat) (dy : Nat) (fs : Nat → Int32) (mi : Nat) (a : Int32) (sz : Nat) (hcn : cn ≤ 10) (hpq : pq ≤ 8) (hen : en ≤ 60) (hdy : dy ≤ 20000) (hri : RI cn pq en dy fs) (hmi : mi < 10) : Met l yX10_splitBy wsX10_splitBy ({ frames := 4, cells := 0, slots := 0, locals := 85 }) (va_Pc [.ref w0, .int (nI mi), .int a] (Wd D cA sa [(oX10 w0 v0 v1 v2 v3 v4 g5 g6 (nI ed) g8 v9 (nI nb) g11 g12 v13 g14 g15 g16 g17 g18 g19 g20 g21 g22 g23 g24 g25 g26 v27 v28 v29 v30 v31 v32 v33 v34 v35 v36 v37 (nI ol)), (v0, .inl (cA 0, 326, .inl fs))] sz)) (va_Qi (fun (r : Int32) (_ : Unit) => True) (fun (_ : Unit) t => Wq D (va_A [(oX10 w0 v0 v1 v2 v3 v4 g5 g6 (nI ed) g8 v9 (nI nb) g11 g12 v13 g14 g15 g16 g17 g18 g19 g20 g21 g22 g23 g24 g25 g26 v27 v28 v29 v30 v31 v32 v33 v34 v35 v36 v37 (nI ol)), (v0, .inl (cA 0, 326, .inl fs))] sz) [(oX10 w0 v0 v1 v2 v3 v4 g5 g6 (nI ed) g8 v9 (nI nb) g11 g12 v13 g14 g15 g16 g17 g18 g19 g20 g21 g22 g23 g24 g25 g26 v27 v28 v29 v30 v31 v32 v33 v34 v35 v36 v37 (nI ol)), (v0, .inl (cA 0, 326, .inl fs))] t) (va_A [(oX10 w0 v0 v1 v2 v3 v4 g5 g6 (nI ed) g8 v9 (nI nb) g11 g12 v13 g14 g15 g16 g17 g18 g19 g20 g21 g22 g23 g24 g25 g26 v27 v28 v29 v30 v31 v32 v33 v34 v35 v36 v37 (nI ol)), (v0, .inl (cA 0, 326, .inl fs))] sz)) 0 0 (va_A [(oX10 w0 v0 v1 v2 v3 v4 g5 g6 (nI ed) g8 v9 (nI nb) g11 g12 v13 g14 g15 g16 g17 g18 g19 g20 g21 g22 g23 g24 g25 g26 v27 v28 v29 v30 v31 v32 v33 v34 v35 v36 v37 (nI ol)), (v0, .inl (cA 0, 326, .inl fs))] sz) := by
  refine Met.ofW (cc := cX10_splitBy) (maxL := 3) (ret := (some .int)) (by decide) rfl ?_
  intro p e s m args below meth c s₁ B hml hv
  obtain ⟨rfl, hsz, hP, hK, hD0, hC, hZ⟩ := hv
  have hx := B.exec
  have hb := B.bytes
  have hr := B.returns
  have hts := atoms_spec (ws := wsX10_splitBy) B.pre
  have hown : s.vm.findClass RX10 = some m.cls := findClass_of_methodNamed B.named
  have hlocks := B.notSynchronized
  subst hsz
  have hD := hD0.self (sz := s.heap.size)
  generalize hAe : va_A [(oX10 w0 v0 v1 v2 v3 v4 g5 g6 (nI ed) g8 v9 (nI nb) g11 g12 v13 g14 g15 g16 g17 g18 g19 g20 g21 g22 g23 g24 g25 g26 v27 v28 v29 v30 v31 v32 v33 v34 v35 v36 v37 (nI ol)), (v0, .inl (cA 0, 326, .inl fs))] s.heap.size = A at hD hZ ⊢
  have hA : ∀ q : Nat, s.heap.size ≤ q → A q := fun q h => by rw [← hAe]; exact Or.inr h
  have hS : va_S A s.heap s.heap [] := va_S.rf
  have hP : va_P D vwCl [(oX10 w0 v0 v1 v2 v3 v4 g5 g6 (nI ed) g8 v9 (nI nb) g11 g12 v13 g14 g15 g16 g17 g18 g19 g20 g21 g22 g23 g24 g25 g26 v27 v28 v29 v30 v31 v32 v33 v34 v35 v36 v37 (nI ol)), (v0, .inl (cA 0, 326, .inl fs))] s.heap := hP
  have hl := lv_entry ([.ref w0, .int (nI mi), .int a]) (n := 3) (Nat.le_of_ble_eq_true rfl)
  rw [lg_entry_eq]
  generalize (lg_sl ([.ref w0, .int (nI mi), .int a]) ++ List.replicate (3 - (lg_sl ([.ref w0, .int (nI mi), .int a])).length) Slot.unset).toArray = ls at hl ⊢
  have hl : lv_has ls 3 [(0, .ref w0), (1, .int (nI mi)), (2, .int a)] := hl
  refine lv_aload_n hx hb dX10_splitBy_0 rfl (lv_at hl 0 rfl) ?_
  refine lv_iload_n hx hb dX10_splitBy_1 rfl (lv_at hl 1 rfl) ?_
  obtain ⟨hPc, hDc, hFc⟩ := PDq.cut (wc := [(oX10 w0 v0 v1 v2 v3 v4 g5 g6 (nI ed) g8 v9 (nI nb) g11 g12 v13 g14 g15 g16 g17 g18 g19 g20 g21 g22 g23 g24 g25 g26 v27 v28 v29 v30 v31 v32 v33 v34 v35 v36 v37 (nI ol)), (v0, .inl (cA 0, 326, .inl fs))]) hP hD hS hA [0, 1] (by decide) rfl
  refine va_calli (va_runV (As := [.int (nI mi)]) (rest := []) ⟨hx, hb, hml, hown, hts⟩ (r_splitSum l D cA sa w0 ed nb ol v0 v1 v2 v3 v4 v9 v13 v27 v28 v29 v30 v31 v32 v33 v34 v35 v36 v37 g8 g11 g12 g14 g15 g16 g17 g18 g19 g20 g21 g22 g23 g24 g26 g5 g6 g25 cn pq en dy fs mi s.heap.size hcn hpq hen hdy hri hmi) (cwV 1 hts gX10_splitBy_X10_splitSum rfl rfl rfl (by decide +kernel) ⟨(Nat.le_of_ble_eq_true rfl), (Nat.le_of_ble_eq_true rfl)⟩) ⟨Wd.blind, va_recv hK hPc (ci := 11) (q0 := 0) rfl rfl, fun U hU hW => ⟨rfl, Wd.call hPc hDc hK hC hZ hS hFc U hU hW⟩⟩ rfl rfl hl.1 rfl (lv_room (Nat.le_of_ble_eq_true rfl)) dX10_splitBy_2 ⟨(Nat.le_of_ble_eq_true rfl), (Nat.le_of_ble_eq_true rfl)⟩) hS (fun q _ h => hFc q h) hFc (fun rn1 u t H1 locs ht hvm hw hB hz1 hk1 hS => ?_)
  obtain ⟨hP1, hD1⟩ := hB
  rw [ht] at hP1
  obtain ⟨hP, hD⟩ := PDq.join (w := [(oX10 w0 v0 v1 v2 v3 v4 g5 g6 (nI ed) g8 v9 (nI nb) g11 g12 v13 g14 g15 g16 g17 g18 g19 g20 g21 g22 g23 g24 g25 g26 v27 v28 v29 v30 v31 v32 v33 v34 v35 v36 v37 (nI ol)), (v0, .inl (cA 0, 326, .inl fs))]) 0 hP hD [0, 1] [] rfl rfl (by decide) (by decide) hk1 hFc hP1 hD1 rfl
  generalize H1 = H at hP hS ⊢
  refine lv_i2l (v := (rn1.toInt64)) hx hb dX10_splitBy_5 rfl ?_
  refine lv_iload_n hx hb dX10_splitBy_6 rfl (lv_at hl 2 rfl) ?_
  refine lv_i2l (v := (a.toInt64)) hx hb dX10_splitBy_7 rfl ?_
  refine lv_lmul hx hb dX10_splitBy_8 ?_
  refine lv_topl (fun yn2 eyn2 => ?_)
  refine lv_ldc2 (v := 1000) hx hb hown (hts (.constantLong RX10 343 1000) (by decide +kernel)) dX10_splitBy_9 ?_
  refine lv_ldiv hx hb dX10_splitBy_12 (by decide) ?_
  refine lv_topl (fun yn3 eyn3 => ?_)
  refine lv_l2i (v := yn3.toInt32) hx hb dX10_splitBy_13 rfl ?_
  refine lv_topi (fun yn4 eyn4 => ?_)
  obtain ⟨hP9, hD9⟩ := PDq.sub (ws' := [(oX10 w0 v0 v1 v2 v3 v4 g5 g6 (nI ed) g8 v9 (nI nb) g11 g12 v13 g14 g15 g16 g17 g18 g19 g20 g21 g22 g23 g24 g25 g26 v27 v28 v29 v30 v31 v32 v33 v34 v35 v36 v37 (nI ol)), (v0, .inl (cA 0, 326, .inl fs))]) hP hD [0, 1] (by decide) rfl
  refine W.widen (k := 0) (n := 0) (Nat.le_of_ble_eq_true rfl) (Nat.le_of_ble_eq_true rfl) ?_
  exact (W.iret (v := yn4) hx hb hr (fun t ht hW => ⟨⟨yn4, (), rfl, trivial, by rw [ht]; exact hP9, hD9⟩, hS.F ht⟩) hS.2.2 dX10_splitBy_14)

set_option maxHeartbeats 4000000 in
set_option maxRecDepth 100000 in
/-- reference: holds -/
theorem r_holds (l : Launch) (D : va_G) (cA : Nat → ClassId) (sa : Nat → Nat) (w0 : Nat) (ed : Nat) (nb : Nat) (ol : Nat) (v0 : Nat) (v1 : Nat) (v2 : Nat) (v3 : Nat) (v4 : Nat) (v9 : Nat) (v13 : Nat) (v27 : Nat) (v28 : Nat) (v29 : Nat) (v30 : Nat) (v31 : Nat) (v32 : Nat) (v33 : Nat) (v34 : Nat) (v35 : Nat) (v36 : Nat) (v37 : Nat) (g8 : Int32) (g11 : Int32) (g12 : Int32) (g14 : Int32) (g15 : Int32) (g16 : Int32) (g17 : Int32) (g18 : Int32) (g19 : Int32) (g20 : Int32) (g21 : Int32) (g22 : Int32) (g23 : Int32) (g24 : Int32) (g26 : Int32) (g5 : Int64) (g6 : Int64) (g25 : Int64) (cn : Nat) (pq : Nat) (en : Nat) (dy : Nat) (fs : Nat → Int32) (fc : Nat → Int32) (fq : Nat → Int32) (fk : Nat → Int32) (i : Int32) (sz : Nat) (hcn : cn ≤ 10) (hpq : pq ≤ 8) (hen : en ≤ 60) (hdy : dy ≤ 20000) (hri : RI cn pq en dy fs) (hCW : CW cn fc fq) (hbit : Bit 400 fk) : Met l yX10_holds wsX10_holds ({ frames := 4, cells := 0, slots := 0, locals := 96 }) (va_Pc [.ref w0, .int i] (Wd D cA sa [(oX10 w0 v0 v1 v2 v3 v4 g5 g6 (nI ed) g8 v9 (nI nb) g11 g12 v13 g14 g15 g16 g17 g18 g19 g20 g21 g22 g23 g24 g25 g26 v27 v28 v29 v30 v31 v32 v33 v34 v35 v36 v37 (nI ol)), (v0, .inl (cA 0, 326, .inl fs)), (v31, .inl (cA 0, 400, .inl fc)), (v33, .inl (cA 0, 11, .inl fq)), (v35, .inl (cA 4, 400, .inl fk))] sz)) (va_Qi (fun (r : Int32) (_ : Unit) => r = 0 ∨ r = 1) (fun (_ : Unit) t => ∃ zt : Int32, ∃ zk : Nat → Int32, Bit 400 zk ∧ Wq D (va_A [(oX10 w0 v0 v1 v2 v3 v4 g5 g6 (nI ed) g8 v9 (nI nb) g11 g12 v13 g14 g15 g16 g17 g18 g19 g20 g21 g22 g23 g24 g25 g26 v27 v28 v29 v30 v31 v32 v33 v34 v35 v36 v37 (nI ol)), (v0, .inl (cA 0, 326, .inl fs)), (v31, .inl (cA 0, 400, .inl fc)), (v33, .inl (cA 0, 11, .inl fq)), (v35, .inl (cA 4, 400, .inl fk))] sz) [(oX10 w0 v0 v1 v2 v3 v4 g5 g6 (nI ed) zt v9 (nI nb) g11 g12 v13 g14 g15 g16 g17 g18 g19 g20 g21 g22 g23 g24 g25 g26 v27 v28 v29 v30 v31 v32 v33 v34 v35 v36 v37 (nI ol)), (v0, .inl (cA 0, 326, .inl fs)), (v31, .inl (cA 0, 400, .inl fc)), (v33, .inl (cA 0, 11, .inl fq)), (v35, .inl (cA 4, 400, .inl zk))] t) (va_A [(oX10 w0 v0 v1 v2 v3 v4 g5 g6 (nI ed) g8 v9 (nI nb) g11 g12 v13 g14 g15 g16 g17 g18 g19 g20 g21 g22 g23 g24 g25 g26 v27 v28 v29 v30 v31 v32 v33 v34 v35 v36 v37 (nI ol)), (v0, .inl (cA 0, 326, .inl fs)), (v31, .inl (cA 0, 400, .inl fc)), (v33, .inl (cA 0, 11, .inl fq)), (v35, .inl (cA 4, 400, .inl fk))] sz)) 0 0 (va_A [(oX10 w0 v0 v1 v2 v3 v4 g5 g6 (nI ed) g8 v9 (nI nb) g11 g12 v13 g14 g15 g16 g17 g18 g19 g20 g21 g22 g23 g24 g25 g26 v27 v28 v29 v30 v31 v32 v33 v34 v35 v36 v37 (nI ol)), (v0, .inl (cA 0, 326, .inl fs)), (v31, .inl (cA 0, 400, .inl fc)), (v33, .inl (cA 0, 11, .inl fq)), (v35, .inl (cA 4, 400, .inl fk))] sz) := by
  refine Met.ofW (cc := cX10_holds) (maxL := 2) (ret := (some .boolean)) (by decide) rfl ?_
  intro p e s m args below meth c s₁ B hml hv
  obtain ⟨rfl, hsz, hP, hK, hD0, hC, hZ⟩ := hv
  have hx := B.exec
  have hb := B.bytes
  have hr := B.returns
  have hts := atoms_spec (ws := wsX10_holds) B.pre
  have hown : s.vm.findClass RX10 = some m.cls := findClass_of_methodNamed B.named
  have hlocks := B.notSynchronized
  subst hsz
  have hD := hD0.self (sz := s.heap.size)
  generalize hAe : va_A [(oX10 w0 v0 v1 v2 v3 v4 g5 g6 (nI ed) g8 v9 (nI nb) g11 g12 v13 g14 g15 g16 g17 g18 g19 g20 g21 g22 g23 g24 g25 g26 v27 v28 v29 v30 v31 v32 v33 v34 v35 v36 v37 (nI ol)), (v0, .inl (cA 0, 326, .inl fs)), (v31, .inl (cA 0, 400, .inl fc)), (v33, .inl (cA 0, 11, .inl fq)), (v35, .inl (cA 4, 400, .inl fk))] s.heap.size = A at hD hZ ⊢
  have hA : ∀ q : Nat, s.heap.size ≤ q → A q := fun q h => by rw [← hAe]; exact Or.inr h
  have hS : va_S A s.heap s.heap [] := va_S.rf
  have hP : va_P D vwCl [(oX10 w0 v0 v1 v2 v3 v4 g5 g6 (nI ed) g8 v9 (nI nb) g11 g12 v13 g14 g15 g16 g17 g18 g19 g20 g21 g22 g23 g24 g25 g26 v27 v28 v29 v30 v31 v32 v33 v34 v35 v36 v37 (nI ol)), (v0, .inl (cA 0, 326, .inl fs)), (v31, .inl (cA 0, 400, .inl fc)), (v33, .inl (cA 0, 11, .inl fq)), (v35, .inl (cA 4, 400, .inl fk))] s.heap := hP
  have hl := lv_entry ([.ref w0, .int i]) (n := 2) (Nat.le_of_ble_eq_true rfl)
  rw [lg_entry_eq]
  generalize (lg_sl ([.ref w0, .int i]) ++ List.replicate (2 - (lg_sl ([.ref w0, .int i])).length) Slot.unset).toArray = ls at hl ⊢
  have hl : lv_has ls 2 [(0, .ref w0), (1, .int i)] := hl
  refine lv_aload_n hx hb dX10_holds_0 rfl (lv_at hl 0 rfl) ?_
  refine lv_aload_n hx hb dX10_holds_1 rfl (lv_at hl 0 rfl) ?_
  refine lv_iload_n hx hb dX10_holds_2 rfl (lv_at hl 1 rfl) ?_
  obtain ⟨hPc, hDc, hFc⟩ := PDq.cut (wc := [(oX10 w0 v0 v1 v2 v3 v4 g5 g6 (nI ed) g8 v9 (nI nb) g11 g12 v13 g14 g15 g16 g17 g18 g19 g20 g21 g22 g23 g24 g25 g26 v27 v28 v29 v30 v31 v32 v33 v34 v35 v36 v37 (nI ol)), (v0, .inl (cA 0, 326, .inl fs))]) hP hD hS hA [0, 1] (by decide) rfl
  refine va_calli (va_runV (As := [.int i]) (rest := [.ref w0]) ⟨hx, hb, hml, hown, hts⟩ (r_isMilestone l D cA sa w0 ed nb ol v0 v1 v2 v3 v4 v9 v13 v27 v28 v29 v30 v31 v32 v33 v34 v35 v36 v37 g8 g11 g12 g14 g15 g16 g17 g18 g19 g20 g21 g22 g23 g24 g26 g5 g6 g25 cn pq en dy fs i s.heap.size hcn hpq hen hdy hri) (cwV 1 hts gX10_holds_X10_isMilestone rfl rfl rfl (by decide +kernel) ⟨(Nat.le_of_ble_eq_true rfl), (Nat.le_of_ble_eq_true rfl)⟩) ⟨Wd.blind, va_recv hK hPc (ci := 11) (q0 := 0) rfl rfl, fun U hU hW => ⟨rfl, Wd.call hPc hDc hK hC hZ hS hFc U hU hW⟩⟩ rfl rfl hl.1 rfl (lv_room (Nat.le_of_ble_eq_true rfl)) dX10_holds_3 ⟨(Nat.le_of_ble_eq_true rfl), (Nat.le_of_ble_eq_true rfl)⟩) hS (fun q _ h => hFc q h) hFc (fun rn1 u t H1 locs ht hvm hw hB hz1 hk1 hS => ?_)
  obtain ⟨hP1, hD1⟩ := hB
  rw [ht] at hP1
  obtain ⟨hP, hD⟩ := PDq.join (w := [(v31, .inl (cA 0, 400, .inl fc)), (v33, .inl (cA 0, 11, .inl fq)), (v35, .inl (cA 4, 400, .inl fk)), (oX10 w0 v0 v1 v2 v3 v4 g5 g6 (nI ed) g8 v9 (nI nb) g11 g12 v13 g14 g15 g16 g17 g18 g19 g20 g21 g22 g23 g24 g25 g26 v27 v28 v29 v30 v31 v32 v33 v34 v35 v36 v37 (nI ol)), (v0, .inl (cA 0, 326, .inl fs))]) 3 hP hD [0, 1] [2, 3, 4] rfl rfl (by decide) (by decide) hk1 hFc hP1 hD1 rfl
  generalize H1 = H at hP hS ⊢
  rcases hw with ⟨hr9, hn2⟩ | hr9
  · skip
    subst hr9
    obtain ⟨kn3, hn4, hn5⟩ := hn2
    rw [hn5] at hl
    have hl : lv_has ls 2 [(0, .ref w0), (1, .int (nI kn3))] := hl
    obtain ⟨hPc, hDc, hFc⟩ := PDq.cut (wc := [(oX10 w0 v0 v1 v2 v3 v4 g5 g6 (nI ed) g8 v9 (nI nb) g11 g12 v13 g14 g15 g16 g17 g18 g19 g20 g21 g22 g23 g24 g25 g26 v27 v28 v29 v30 v31 v32 v33 v34 v35 v36 v37 (nI ol))]) hP hD hS hA [3] (by decide) rfl
    refine va_calli (va_runV (As := [.int 1]) (rest := []) ⟨hx, hb, hml, hown, hts⟩ (r_good1 l D cA sa w0 ed nb ol v0 v1 v2 v3 v4 v9 v13 v27 v28 v29 v30 v31 v32 v33 v34 v35 v36 v37 g8 g11 g12 g14 g15 g16 g17 g18 g19 g20 g21 g22 g23 g24 g26 g5 g6 g25 H.size) (cwV 1 hts gX10_holds_X10_good rfl rfl rfl (by decide +kernel) ⟨(Nat.le_of_ble_eq_true rfl), (Nat.le_of_ble_eq_true rfl)⟩) ⟨Wd.blind, va_recv hK hPc (ci := 11) (q0 := 0) rfl rfl, fun U hU hW => ⟨rfl, Wd.call hPc hDc hK hC hZ hS hFc U hU hW⟩⟩ rfl rfl hl.1 rfl (lv_room (Nat.le_of_ble_eq_true rfl)) dX10_holds_6 ⟨(Nat.le_of_ble_eq_true rfl), (Nat.le_of_ble_eq_true rfl)⟩) hS (fun q _ h => hFc q h) hFc (fun rn6 u t H1 locs ht hvm hw hB hz1 hk1 hS => ?_)
    obtain ⟨hP1, hD1⟩ := hB
    rw [ht] at hP1
    obtain ⟨hP, hD⟩ := PDq.join (w := [(v31, .inl (cA 0, 400, .inl fc)), (v33, .inl (cA 0, 11, .inl fq)), (v35, .inl (cA 4, 400, .inl fk)), (v0, .inl (cA 0, 326, .inl fs)), (oX10 w0 v0 v1 v2 v3 v4 g5 g6 (nI ed) 0 v9 (nI nb) g11 g12 v13 g14 g15 g16 g17 g18 g19 g20 g21 g22 g23 g24 g25 g26 v27 v28 v29 v30 v31 v32 v33 v34 v35 v36 v37 (nI ol))]) 4 hP hD [3] [0, 1, 2, 4] rfl rfl (by decide) (by decide) hk1 hFc hP1 hD1 rfl
    generalize H1 = H at hP hS ⊢
    obtain rfl : rn6 = 1 := hw
    refine lv_if_eq (tgt := 24) hx hb dX10_holds_9 (by decide) (fun c9 => absurd c9 (by decide)) (fun c7 => ?_)
    refine lv_aload_n hx hb dX10_holds_12 rfl (lv_at hl 0 rfl) ?_
    refine lv_iload_n hx hb dX10_holds_13 rfl (lv_at hl 1 rfl) ?_
    obtain ⟨hPc, hDc, hFc⟩ := PDq.cut (wc := [(oX10 w0 v0 v1 v2 v3 v4 g5 g6 (nI ed) 0 v9 (nI nb) g11 g12 v13 g14 g15 g16 g17 g18 g19 g20 g21 g22 g23 g24 g25 g26 v27 v28 v29 v30 v31 v32 v33 v34 v35 v36 v37 (nI ol)), (v0, .inl (cA 0, 326, .inl fs)), (v31, .inl (cA 0, 400, .inl fc)), (v33, .inl (cA 0, 11, .inl fq)), (v35, .inl (cA 4, 400, .inl fk))]) hP hD hS hA [4, 3, 0, 1, 2] (by decide) rfl
    refine va_calli (va_runV (As := [.int (nI kn3)]) (rest := []) ⟨hx, hb, hml, hown, hts⟩ (r_holdsNow l D cA sa w0 ed nb ol v0 v1 v2 v3 v4 v9 v13 v27 v28 v29 v30 v31 v32 v33 v34 v35 v36 v37 0 g11 g12 g14 g15 g16 g17 g18 g19 g20 g21 g22 g23 g24 g26 g5 g6 g25 cn pq en dy fs fc fq fk kn3 H.size hcn hpq hen hdy hri hCW hbit (by omega)) (cwV 1 hts gX10_holds_X10_holdsNow rfl rfl rfl (by decide +kernel) ⟨(Nat.le_of_ble_eq_true rfl), (Nat.le_of_ble_eq_true rfl)⟩) ⟨Wd.blind, va_recv hK hPc (ci := 11) (q0 := 0) rfl rfl, fun U hU hW => ⟨rfl, Wd.call hPc hDc hK hC hZ hS hFc U hU hW⟩⟩ rfl rfl hl.1 rfl (lv_room (Nat.le_of_ble_eq_true rfl)) dX10_holds_14 ⟨(Nat.le_of_ble_eq_true rfl), (Nat.le_of_ble_eq_true rfl)⟩) hS (fun q _ h => hFc q h) hFc (fun rn8 u t H1 locs ht hvm hw hB hz1 hk1 hS => ?_)
    obtain ⟨fn9, hn10, hP1, hD1⟩ := hB
    rw [ht] at hP1
    obtain ⟨hP, hD⟩ := PDq.join (w := [(oX10 w0 v0 v1 v2 v3 v4 g5 g6 (nI ed) 0 v9 (nI nb) g11 g12 v13 g14 g15 g16 g17 g18 g19 g20 g21 g22 g23 g24 g25 g26 v27 v28 v29 v30 v31 v32 v33 v34 v35 v36 v37 (nI ol)), (v0, .inl (cA 0, 326, .inl fs)), (v31, .inl (cA 0, 400, .inl fc)), (v33, .inl (cA 0, 11, .inl fq)), (v35, .inl (cA 4, 400, .inl fn9))]) 0 hP hD [4, 3, 0, 1, 2] [] rfl rfl (by decide) (by decide) hk1 hFc hP1 hD1 rfl
    generalize H1 = H at hP hS ⊢
    have hn11 := hw
    refine lv_if_eq (tgt := 24) hx hb dX10_holds_17 (by decide) (fun c12 => ?_) (fun c12 => ?_)
    · skip
      refine lv_iconst (v := 0) hx hb dX10_holds_24 (by decide) ?_
      obtain ⟨hP9, hD9⟩ := PDq.sub (ws' := [(oX10 w0 v0 v1 v2 v3 v4 g5 g6 (nI ed) 0 v9 (nI nb) g11 g12 v13 g14 g15 g16 g17 g18 g19 g20 g21 g22 g23 g24 g25 g26 v27 v28 v29 v30 v31 v32 v33 v34 v35 v36 v37 (nI ol)), (v0, .inl (cA 0, 326, .inl fs)), (v31, .inl (cA 0, 400, .inl fc)), (v33, .inl (cA 0, 11, .inl fq)), (v35, .inl (cA 4, 400, .inl fn9))]) hP hD [0, 1, 2, 3, 4] (by decide) rfl
      refine W.widen (k := 0) (n := 0) (Nat.le_of_ble_eq_true rfl) (Nat.le_of_ble_eq_true rfl) ?_
      exact (W.zret (v := 0) hx hb hr (by first | rfl | decide) (fun t ht hW => ⟨⟨0, (), rfl, (by first | exact Or.inl rfl | exact Or.inr rfl), 0, fn9, hn10, by rw [ht]; exact hP9, hD9⟩, hS.F ht⟩) hS.2.2 dX10_holds_25)
    · skip
      refine lv_iconst (v := 1) hx hb dX10_holds_20 (by decide) ?_
      refine lv_goto (tgt := 25) hx hb dX10_holds_21 (by decide) ?_
      obtain ⟨hP9, hD9⟩ := PDq.sub (ws' := [(oX10 w0 v0 v1 v2 v3 v4 g5 g6 (nI ed) 0 v9 (nI nb) g11 g12 v13 g14 g15 g16 g17 g18 g19 g20 g21 g22 g23 g24 g25 g26 v27 v28 v29 v30 v31 v32 v33 v34 v35 v36 v37 (nI ol)), (v0, .inl (cA 0, 326, .inl fs)), (v31, .inl (cA 0, 400, .inl fc)), (v33, .inl (cA 0, 11, .inl fq)), (v35, .inl (cA 4, 400, .inl fn9))]) hP hD [0, 1, 2, 3, 4] (by decide) rfl
      refine W.widen (k := 0) (n := 0) (Nat.le_of_ble_eq_true rfl) (Nat.le_of_ble_eq_true rfl) ?_
      exact (W.zret (v := 1) hx hb hr (by first | rfl | decide) (fun t ht hW => ⟨⟨1, (), rfl, (by first | exact Or.inl rfl | exact Or.inr rfl), 0, fn9, hn10, by rw [ht]; exact hP9, hD9⟩, hS.F ht⟩) hS.2.2 dX10_holds_25)
  · skip
    subst hr9
    obtain ⟨hPc, hDc, hFc⟩ := PDq.cut (wc := [(oX10 w0 v0 v1 v2 v3 v4 g5 g6 (nI ed) g8 v9 (nI nb) g11 g12 v13 g14 g15 g16 g17 g18 g19 g20 g21 g22 g23 g24 g25 g26 v27 v28 v29 v30 v31 v32 v33 v34 v35 v36 v37 (nI ol))]) hP hD hS hA [3] (by decide) rfl
    refine va_calli (va_runV (As := [.int 0]) (rest := []) ⟨hx, hb, hml, hown, hts⟩ (r_good0 l D cA sa w0 ed nb ol v0 v1 v2 v3 v4 v9 v13 v27 v28 v29 v30 v31 v32 v33 v34 v35 v36 v37 g8 g11 g12 g14 g15 g16 g17 g18 g19 g20 g21 g22 g23 g24 g26 g5 g6 g25 H.size) (cwV 1 hts gX10_holds_X10_good rfl rfl rfl (by decide +kernel) ⟨(Nat.le_of_ble_eq_true rfl), (Nat.le_of_ble_eq_true rfl)⟩) ⟨Wd.blind, va_recv hK hPc (ci := 11) (q0 := 0) rfl rfl, fun U hU hW => ⟨rfl, Wd.call hPc hDc hK hC hZ hS hFc U hU hW⟩⟩ rfl rfl hl.1 rfl (lv_room (Nat.le_of_ble_eq_true rfl)) dX10_holds_6 ⟨(Nat.le_of_ble_eq_true rfl), (Nat.le_of_ble_eq_true rfl)⟩) hS (fun q _ h => hFc q h) hFc (fun rn13 u t H1 locs ht hvm hw hB hz1 hk1 hS => ?_)
    obtain ⟨hP1, hD1⟩ := hB
    rw [ht] at hP1
    obtain ⟨hP, hD⟩ := PDq.join (w := [(v31, .inl (cA 0, 400, .inl fc)), (v33, .inl (cA 0, 11, .inl fq)), (v35, .inl (cA 4, 400, .inl fk)), (v0, .inl (cA 0, 326, .inl fs)), (oX10 w0 v0 v1 v2 v3 v4 g5 g6 (nI ed) 1 v9 (nI nb) g11 g12 v13 g14 g15 g16 g17 g18 g19 g20 g21 g22 g23 g24 g25 g26 v27 v28 v29 v30 v31 v32 v33 v34 v35 v36 v37 (nI ol))]) 4 hP hD [3] [0, 1, 2, 4] rfl rfl (by decide) (by decide) hk1 hFc hP1 hD1 rfl
    generalize H1 = H at hP hS ⊢
    obtain rfl : rn13 = 0 := hw
    refine lv_if_eq (tgt := 24) hx hb dX10_holds_9 (by decide) (fun c14 => ?_) (fun c9 => absurd c9 (by decide))
    refine lv_iconst (v := 0) hx hb dX10_holds_24 (by decide) ?_
    obtain ⟨hP9, hD9⟩ := PDq.sub (ws' := [(oX10 w0 v0 v1 v2 v3 v4 g5 g6 (nI ed) 1 v9 (nI nb) g11 g12 v13 g14 g15 g16 g17 g18 g19 g20 g21 g22 g23 g24 g25 g26 v27 v28 v29 v30 v31 v32 v33 v34 v35 v36 v37 (nI ol)), (v0, .inl (cA 0, 326, .inl fs)), (v31, .inl (cA 0, 400, .inl fc)), (v33, .inl (cA 0, 11, .inl fq)), (v35, .inl (cA 4, 400, .inl fk))]) hP hD [4, 3, 0, 1, 2] (by decide) rfl
    refine W.widen (k := 0) (n := 0) (Nat.le_of_ble_eq_true rfl) (Nat.le_of_ble_eq_true rfl) ?_
    exact (W.zret (v := 0) hx hb hr (by first | rfl | decide) (fun t ht hW => ⟨⟨0, (), rfl, (by first | exact Or.inl rfl | exact Or.inr rfl), 1, fk, hbit, by rw [ht]; exact hP9, hD9⟩, hS.F ht⟩) hS.2.2 dX10_holds_25)

set_option maxHeartbeats 4000000 in
set_option maxRecDepth 100000 in
/-- reference: wouldHold -/
theorem r_wouldHold (l : Launch) (D : va_G) (cA : Nat → ClassId) (sa : Nat → Nat) (w0 : Nat) (ed : Nat) (nb : Nat) (ol : Nat) (v0 : Nat) (v1 : Nat) (v2 : Nat) (v3 : Nat) (v4 : Nat) (v9 : Nat) (v13 : Nat) (v27 : Nat) (v28 : Nat) (v29 : Nat) (v30 : Nat) (v31 : Nat) (v32 : Nat) (v33 : Nat) (v34 : Nat) (v35 : Nat) (v36 : Nat) (v37 : Nat) (g8 : Int32) (g11 : Int32) (g12 : Int32) (g14 : Int32) (g15 : Int32) (g16 : Int32) (g17 : Int32) (g18 : Int32) (g19 : Int32) (g20 : Int32) (g21 : Int32) (g22 : Int32) (g23 : Int32) (g24 : Int32) (g26 : Int32) (g5 : Int64) (g6 : Int64) (g25 : Int64) (cn : Nat) (pq : Nat) (en : Nat) (dy : Nat) (fs : Nat → Int32) (fc : Nat → Int32) (fq : Nat → Int32) (fk : Nat → Int32) (i : Int32) (j : Int32) (sz : Nat) (hcn : cn ≤ 10) (hpq : pq ≤ 8) (hen : en ≤ 60) (hdy : dy ≤ 20000) (hri : RI cn pq en dy fs) (hCW : CW cn fc fq) (hbit : Bit 400 fk) : Met l yX10_wouldHold wsX10_wouldHold ({ frames := 3, cells := 0, slots := 0, locals := 75 }) (va_Pc [.ref w0, .int i, .int j] (Wd D cA sa [(oX10 w0 v0 v1 v2 v3 v4 g5 g6 (nI ed) g8 v9 (nI nb) g11 g12 v13 g14 g15 g16 g17 g18 g19 g20 g21 g22 g23 g24 g25 g26 v27 v28 v29 v30 v31 v32 v33 v34 v35 v36 v37 (nI ol)), (v0, .inl (cA 0, 326, .inl fs)), (v31, .inl (cA 0, 400, .inl fc)), (v33, .inl (cA 0, 11, .inl fq)), (v35, .inl (cA 4, 400, .inl fk))] sz)) (va_Qi (fun (r : Int32) (_ : Unit) => r = 0 ∨ r = 1) (fun (_ : Unit) t => ∃ zt : Int32, ∃ zk : Nat → Int32, Bit 400 zk ∧ Wq D (va_A [(oX10 w0 v0 v1 v2 v3 v4 g5 g6 (nI ed) g8 v9 (nI nb) g11 g12 v13 g14 g15 g16 g17 g18 g19 g20 g21 g22 g23 g24 g25 g26 v27 v28 v29 v30 v31 v32 v33 v34 v35 v36 v37 (nI ol)), (v0, .inl (cA 0, 326, .inl fs)), (v31, .inl (cA 0, 400, .inl fc)), (v33, .inl (cA 0, 11, .inl fq)), (v35, .inl (cA 4, 400, .inl fk))] sz) [(oX10 w0 v0 v1 v2 v3 v4 g5 g6 (nI ed) zt v9 (nI nb) g11 g12 v13 g14 g15 g16 g17 g18 g19 g20 g21 g22 g23 g24 g25 g26 v27 v28 v29 v30 v31 v32 v33 v34 v35 v36 v37 (nI ol)), (v0, .inl (cA 0, 326, .inl fs)), (v31, .inl (cA 0, 400, .inl fc)), (v33, .inl (cA 0, 11, .inl fq)), (v35, .inl (cA 4, 400, .inl zk))] t) (va_A [(oX10 w0 v0 v1 v2 v3 v4 g5 g6 (nI ed) g8 v9 (nI nb) g11 g12 v13 g14 g15 g16 g17 g18 g19 g20 g21 g22 g23 g24 g25 g26 v27 v28 v29 v30 v31 v32 v33 v34 v35 v36 v37 (nI ol)), (v0, .inl (cA 0, 326, .inl fs)), (v31, .inl (cA 0, 400, .inl fc)), (v33, .inl (cA 0, 11, .inl fq)), (v35, .inl (cA 4, 400, .inl fk))] sz)) 0 0 (va_A [(oX10 w0 v0 v1 v2 v3 v4 g5 g6 (nI ed) g8 v9 (nI nb) g11 g12 v13 g14 g15 g16 g17 g18 g19 g20 g21 g22 g23 g24 g25 g26 v27 v28 v29 v30 v31 v32 v33 v34 v35 v36 v37 (nI ol)), (v0, .inl (cA 0, 326, .inl fs)), (v31, .inl (cA 0, 400, .inl fc)), (v33, .inl (cA 0, 11, .inl fq)), (v35, .inl (cA 4, 400, .inl fk))] sz) := by
  refine Met.ofW (cc := cX10_wouldHold) (maxL := 4) (ret := (some .boolean)) (by decide) rfl ?_
  intro p e s m args below meth c s₁ B hml hv
  obtain ⟨rfl, hsz, hP, hK, hD0, hC, hZ⟩ := hv
  have hx := B.exec
  have hb := B.bytes
  have hr := B.returns
  have hts := atoms_spec (ws := wsX10_wouldHold) B.pre
  have hown : s.vm.findClass RX10 = some m.cls := findClass_of_methodNamed B.named
  have hlocks := B.notSynchronized
  subst hsz
  have hD := hD0.self (sz := s.heap.size)
  generalize hAe : va_A [(oX10 w0 v0 v1 v2 v3 v4 g5 g6 (nI ed) g8 v9 (nI nb) g11 g12 v13 g14 g15 g16 g17 g18 g19 g20 g21 g22 g23 g24 g25 g26 v27 v28 v29 v30 v31 v32 v33 v34 v35 v36 v37 (nI ol)), (v0, .inl (cA 0, 326, .inl fs)), (v31, .inl (cA 0, 400, .inl fc)), (v33, .inl (cA 0, 11, .inl fq)), (v35, .inl (cA 4, 400, .inl fk))] s.heap.size = A at hD hZ ⊢
  have hA : ∀ q : Nat, s.heap.size ≤ q → A q := fun q h => by rw [← hAe]; exact Or.inr h
  have hS : va_S A s.heap s.heap [] := va_S.rf
  have hP : va_P D vwCl [(oX10 w0 v0 v1 v2 v3 v4 g5 g6 (nI ed) g8 v9 (nI nb) g11 g12 v13 g14 g15 g16 g17 g18 g19 g20 g21 g22 g23 g24 g25 g26 v27 v28 v29 v30 v31 v32 v33 v34 v35 v36 v37 (nI ol)), (v0, .inl (cA 0, 326, .inl fs)), (v31, .inl (cA 0, 400, .inl fc)), (v33, .inl (cA 0, 11, .inl fq)), (v35, .inl (cA 4, 400, .inl fk))] s.heap := hP
  have hl := lv_entry ([.ref w0, .int i, .int j]) (n := 4) (Nat.le_of_ble_eq_true rfl)
  rw [lg_entry_eq]
  generalize (lg_sl ([.ref w0, .int i, .int j]) ++ List.replicate (4 - (lg_sl ([.ref w0, .int i, .int j])).length) Slot.unset).toArray = ls at hl ⊢
  have hl : lv_has ls 4 [(0, .ref w0), (1, .int i), (2, .int j)] := hl
  have inX10 : ∀ w ∈ u_ws RX10 TX10 39, w ∈ wsX10_wouldHold := by decide +kernel
  refine lv_iload_n hx hb dX10_wouldHold_0 rfl (lv_at hl 2 rfl) ?_
  refine lv_i2l (v := (j.toInt64)) hx hb dX10_wouldHold_1 rfl ?_
  refine lv_lconst (v := 0) hx hb dX10_wouldHold_2 (by decide) ?_
  refine lv_iconst (v := 1) hx hb dX10_wouldHold_3 (by decide) ?_
  refine lv_aload_n hx hb dX10_wouldHold_4 rfl (lv_at hl 0 rfl) ?_
  refine va_get (D := D) (ci := 11) (v := .ref v0) (C := RX10) (T := TX10) (N := 39) hx hb hts inX10 hown hK hP 0 rfl rfl 0 (by decide) (hts (.fieldLink RX10 7 "EscrowDeskModel" "s" "[I") (by decide +kernel)) (fun _ h9 => h9) rfl dX10_wouldHold_5 ?_
  refine lv_bipush (v := 13) hx hb dX10_wouldHold_8 (by decide) ?_
  refine va_iald hx hb hK hP 1 0 rfl rfl (vp_in_iff.mpr (by decide)) dX10_wouldHold_10 ?_
  refine lv_topi (fun yn1 eyn1 => ?_)
  obtain rfl : yn1 = (nI cn) := eyn1.trans hri.1
  refine lv_ishl hx hb dX10_wouldHold_11 ?_
  refine lv_topi (fun yn2 eyn2 => ?_)
  refine lv_iconst (v := 1) hx hb dX10_wouldHold_12 (by decide) ?_
  refine lv_isub hx hb dX10_wouldHold_13 ?_
  refine lv_topi (fun yn3 eyn3 => ?_)
  refine lv_i2l (v := (yn3.toInt64)) hx hb dX10_wouldHold_14 rfl ?_
  obtain ⟨hPc, hDc, hFc⟩ := PDq.cut (wc := []) hP hD hS hA [] (by decide) rfl
  refine va_calli (va_runS (As := [.long (j.toInt64), .long 0, .long (yn3.toInt64)]) (rest := []) ⟨hx, hb, hml, hown, hts⟩ (r_between l D cA sa (j.toInt64) 0 (yn3.toInt64) s.heap.size) (va_cwS 3 hts gX10_wouldHold_X10_between rfl rfl rfl (by decide +kernel) ⟨(Nat.le_of_ble_eq_true rfl), (Nat.le_of_ble_eq_true rfl)⟩) ⟨Wd.blind, fun U hU hW => ⟨rfl, Wd.call hPc hDc hK hC hZ hS hFc U hU hW⟩⟩ rfl rfl hl.1 rfl (lv_room (Nat.le_of_ble_eq_true rfl)) dX10_wouldHold_15 ⟨(Nat.le_of_ble_eq_true rfl), (Nat.le_of_ble_eq_true rfl)⟩) hS (fun q _ h => hFc q h) hFc (fun rn4 u t H1 locs ht hvm hw hB hz1 hk1 hS => ?_)
  obtain ⟨hP1, hD1⟩ := hB
  rw [ht] at hP1
  obtain ⟨hP, hD⟩ := PDq.join (w := [(oX10 w0 v0 v1 v2 v3 v4 g5 g6 (nI ed) g8 v9 (nI nb) g11 g12 v13 g14 g15 g16 g17 g18 g19 g20 g21 g22 g23 g24 g25 g26 v27 v28 v29 v30 v31 v32 v33 v34 v35 v36 v37 (nI ol)), (v0, .inl (cA 0, 326, .inl fs)), (v31, .inl (cA 0, 400, .inl fc)), (v33, .inl (cA 0, 11, .inl fq)), (v35, .inl (cA 4, 400, .inl fk))]) 5 hP hD [] [0, 1, 2, 3, 4] rfl rfl (by decide) (by decide) hk1 hFc hP1 hD1 rfl
  generalize H1 = H at hP hS ⊢
  rcases hw with ⟨hr9, hn5⟩ | hr9
  · skip
    subst hr9
    refine lv_istore_n (lv' := [(3, .int 1), (0, .ref w0), (1, .int i), (2, .int j)]) hx hb dX10_wouldHold_18 rfl hl (by decide) rfl (fun ls hl => ?_)
    refine lv_aload_n hx hb dX10_wouldHold_19 rfl (lv_at hl 1 rfl) ?_
    refine lv_aload_n hx hb dX10_wouldHold_20 rfl (lv_at hl 1 rfl) ?_
    refine lv_iload_n hx hb dX10_wouldHold_21 rfl (lv_at hl 2 rfl) ?_
    obtain ⟨hPc, hDc, hFc⟩ := PDq.cut (wc := [(oX10 w0 v0 v1 v2 v3 v4 g5 g6 (nI ed) g8 v9 (nI nb) g11 g12 v13 g14 g15 g16 g17 g18 g19 g20 g21 g22 g23 g24 g25 g26 v27 v28 v29 v30 v31 v32 v33 v34 v35 v36 v37 (nI ol)), (v0, .inl (cA 0, 326, .inl fs))]) hP hD hS hA [0, 1] (by decide) rfl
    refine va_calli (va_runV (As := [.int i]) (rest := [.ref w0]) ⟨hx, hb, hml, hown, hts⟩ (r_isMilestone l D cA sa w0 ed nb ol v0 v1 v2 v3 v4 v9 v13 v27 v28 v29 v30 v31 v32 v33 v34 v35 v36 v37 g8 g11 g12 g14 g15 g16 g17 g18 g19 g20 g21 g22 g23 g24 g26 g5 g6 g25 cn pq en dy fs i H.size hcn hpq hen hdy hri) (cwV 1 hts gX10_wouldHold_X10_isMilestone rfl rfl rfl (by decide +kernel) ⟨(Nat.le_of_ble_eq_true rfl), (Nat.le_of_ble_eq_true rfl)⟩) ⟨Wd.blind, va_recv hK hPc (ci := 11) (q0 := 0) rfl rfl, fun U hU hW => ⟨rfl, Wd.call hPc hDc hK hC hZ hS hFc U hU hW⟩⟩ rfl rfl hl.1 rfl (lv_room (Nat.le_of_ble_eq_true rfl)) dX10_wouldHold_22 ⟨(Nat.le_of_ble_eq_true rfl), (Nat.le_of_ble_eq_true rfl)⟩) hS (fun q _ h => hFc q h) hFc (fun rn6 u t H1 locs ht hvm hw hB hz1 hk1 hS => ?_)
    obtain ⟨hP1, hD1⟩ := hB
    rw [ht] at hP1
    obtain ⟨hP, hD⟩ := PDq.join (w := [(v31, .inl (cA 0, 400, .inl fc)), (v33, .inl (cA 0, 11, .inl fq)), (v35, .inl (cA 4, 400, .inl fk)), (oX10 w0 v0 v1 v2 v3 v4 g5 g6 (nI ed) g8 v9 (nI nb) g11 g12 v13 g14 g15 g16 g17 g18 g19 g20 g21 g22 g23 g24 g25 g26 v27 v28 v29 v30 v31 v32 v33 v34 v35 v36 v37 (nI ol)), (v0, .inl (cA 0, 326, .inl fs))]) 3 hP hD [0, 1] [2, 3, 4] rfl rfl (by decide) (by decide) hk1 hFc hP1 hD1 rfl
    generalize H1 = H at hP hS ⊢
    rcases hw with ⟨hr9, hn7⟩ | hr9
    · skip
      subst hr9
      obtain ⟨kn8, hn9, hn10⟩ := hn7
      rw [hn10] at hl
      have hl : lv_has ls 4 [(3, .int 1), (0, .ref w0), (1, .int (nI kn8)), (2, .int j)] := hl
      refine lv_iload_n hx hb dX10_wouldHold_25 rfl (lv_at hl 0 rfl) ?_
      obtain ⟨hPc, hDc, hFc⟩ := PDq.cut (wc := [(oX10 w0 v0 v1 v2 v3 v4 g5 g6 (nI ed) g8 v9 (nI nb) g11 g12 v13 g14 g15 g16 g17 g18 g19 g20 g21 g22 g23 g24 g25 g26 v27 v28 v29 v30 v31 v32 v33 v34 v35 v36 v37 (nI ol))]) hP hD hS hA [3] (by decide) rfl
      refine va_calli (va_runV (As := [.int 1, .int 1]) (rest := []) ⟨hx, hb, hml, hown, hts⟩ (r_good_11 l D cA sa w0 ed nb ol v0 v1 v2 v3 v4 v9 v13 v27 v28 v29 v30 v31 v32 v33 v34 v35 v36 v37 g8 g11 g12 g14 g15 g16 g17 g18 g19 g20 g21 g22 g23 g24 g26 g5 g6 g25 H.size) (cwV 2 hts gX10_wouldHold_X10_good_ rfl rfl rfl (by decide +kernel) ⟨(Nat.le_of_ble_eq_true rfl), (Nat.le_of_ble_eq_true rfl)⟩) ⟨Wd.blind, va_recv hK hPc (ci := 11) (q0 := 0) rfl rfl, fun U hU hW => ⟨rfl, Wd.call hPc hDc hK hC hZ hS hFc U hU hW⟩⟩ rfl rfl hl.1 rfl (lv_room (Nat.le_of_ble_eq_true rfl)) dX10_wouldHold_26 ⟨(Nat.le_of_ble_eq_true rfl), (Nat.le_of_ble_eq_true rfl)⟩) hS (fun q _ h => hFc q h) hFc (fun rn11 u t H1 locs ht hvm hw hB hz1 hk1 hS => ?_)
      obtain ⟨hP1, hD1⟩ := hB
      rw [ht] at hP1
      obtain ⟨hP, hD⟩ := PDq.join (w := [(v31, .inl (cA 0, 400, .inl fc)), (v33, .inl (cA 0, 11, .inl fq)), (v35, .inl (cA 4, 400, .inl fk)), (v0, .inl (cA 0, 326, .inl fs)), (oX10 w0 v0 v1 v2 v3 v4 g5 g6 (nI ed) 0 v9 (nI nb) g11 g12 v13 g14 g15 g16 g17 g18 g19 g20 g21 g22 g23 g24 g25 g26 v27 v28 v29 v30 v31 v32 v33 v34 v35 v36 v37 (nI ol))]) 4 hP hD [3] [0, 1, 2, 4] rfl rfl (by decide) (by decide) hk1 hFc hP1 hD1 rfl
      generalize H1 = H at hP hS ⊢
      obtain rfl : rn11 = 1 := hw
      refine lv_if_eq (tgt := 63) hx hb dX10_wouldHold_29 (by decide) (fun c9 => absurd c9 (by decide)) (fun c12 => ?_)
      refine lv_aload_n hx hb dX10_wouldHold_32 rfl (lv_at hl 1 rfl) ?_
      refine lv_iload_n hx hb dX10_wouldHold_33 rfl (lv_at hl 2 rfl) ?_
      refine lv_aload_n hx hb dX10_wouldHold_34 rfl (lv_at hl 1 rfl) ?_
      refine va_get (D := D) (ci := 11) (v := .ref v0) (C := RX10) (T := TX10) (N := 39) hx hb hts inX10 hown hK hP 4 rfl rfl 0 (by decide) (hts (.fieldLink RX10 7 "EscrowDeskModel" "s" "[I") (by decide +kernel)) (fun _ h9 => h9) rfl dX10_wouldHold_35 ?_
      refine lv_iconst (v := 4) hx hb dX10_wouldHold_38 (by decide) ?_
      refine va_iald hx hb hK hP 3 0 rfl rfl (vp_in_iff.mpr (by decide)) dX10_wouldHold_39 ?_
      refine lv_topi (fun yn13 eyn13 => ?_)
      obtain rfl : yn13 = (nI dy) := eyn13.trans hri.2.2.2.1
      refine lv_aload_n hx hb dX10_wouldHold_40 rfl (lv_at hl 1 rfl) ?_
      refine va_get (D := D) (ci := 11) (v := .ref v0) (C := RX10) (T := TX10) (N := 39) hx hb hts inX10 hown hK hP 4 rfl rfl 0 (by decide) (hts (.fieldLink RX10 7 "EscrowDeskModel" "s" "[I") (by decide +kernel)) (fun _ h9 => h9) rfl dX10_wouldHold_41 ?_
      refine lv_bipush (v := 12) hx hb dX10_wouldHold_44 (by decide) ?_
      refine va_iald hx hb hK hP 3 0 rfl rfl (vp_in_iff.mpr (by decide)) dX10_wouldHold_46 ?_
      refine lv_topi (fun yn14 eyn14 => ?_)
      refine lv_aload_n hx hb dX10_wouldHold_47 rfl (lv_at hl 1 rfl) ?_
      obtain ⟨hPc, hDc, hFc⟩ := PDq.cut (wc := [(oX10 w0 v0 v1 v2 v3 v4 g5 g6 (nI ed) 0 v9 (nI nb) g11 g12 v13 g14 g15 g16 g17 g18 g19 g20 g21 g22 g23 g24 g25 g26 v27 v28 v29 v30 v31 v32 v33 v34 v35 v36 v37 (nI ol)), (v0, .inl (cA 0, 326, .inl fs))]) hP hD hS hA [4, 3] (by decide) rfl
      refine va_calli (va_runV (As := []) (rest := [.int yn14, .int (nI dy), .int (nI kn8), .ref w0]) ⟨hx, hb, hml, hown, hts⟩ (r_doneSet l D cA sa w0 ed nb ol v0 v1 v2 v3 v4 v9 v13 v27 v28 v29 v30 v31 v32 v33 v34 v35 v36 v37 0 g11 g12 g14 g15 g16 g17 g18 g19 g20 g21 g22 g23 g24 g26 g5 g6 g25 cn pq en dy fs H.size hcn hpq hen hdy hri) (cwV 0 hts gX10_wouldHold_X10_doneSet rfl rfl rfl (by decide +kernel) ⟨(Nat.le_of_ble_eq_true rfl), (Nat.le_of_ble_eq_true rfl)⟩) ⟨Wd.blind, va_recv hK hPc (ci := 11) (q0 := 0) rfl rfl, fun U hU hW => ⟨rfl, Wd.call hPc hDc hK hC hZ hS hFc U hU hW⟩⟩ rfl rfl hl.1 rfl (lv_room (Nat.le_of_ble_eq_true rfl)) dX10_wouldHold_48 ⟨(Nat.le_of_ble_eq_true rfl), (Nat.le_of_ble_eq_true rfl)⟩) hS (fun q _ h => hFc q h) hFc (fun rn15 u t H1 locs ht hvm hw hB hz1 hk1 hS => ?_)
      obtain ⟨hP1, hD1⟩ := hB
      rw [ht] at hP1
      obtain ⟨hP, hD⟩ := PDq.join (w := [(v31, .inl (cA 0, 400, .inl fc)), (v33, .inl (cA 0, 11, .inl fq)), (v35, .inl (cA 4, 400, .inl fk)), (oX10 w0 v0 v1 v2 v3 v4 g5 g6 (nI ed) 0 v9 (nI nb) g11 g12 v13 g14 g15 g16 g17 g18 g19 g20 g21 g22 g23 g24 g25 g26 v27 v28 v29 v30 v31 v32 v33 v34 v35 v36 v37 (nI ol)), (v0, .inl (cA 0, 326, .inl fs))]) 3 hP hD [4, 3] [0, 1, 2] rfl rfl (by decide) (by decide) hk1 hFc hP1 hD1 rfl
      generalize H1 = H at hP hS ⊢
      refine lv_iload_n hx hb dX10_wouldHold_51 rfl (lv_at hl 3 rfl) ?_
      refine lv_ior hx hb dX10_wouldHold_52 ?_
      refine lv_topi (fun yn16 eyn16 => ?_)
      obtain ⟨hPc, hDc, hFc⟩ := PDq.cut (wc := [(oX10 w0 v0 v1 v2 v3 v4 g5 g6 (nI ed) 0 v9 (nI nb) g11 g12 v13 g14 g15 g16 g17 g18 g19 g20 g21 g22 g23 g24 g25 g26 v27 v28 v29 v30 v31 v32 v33 v34 v35 v36 v37 (nI ol)), (v0, .inl (cA 0, 326, .inl fs)), (v31, .inl (cA 0, 400, .inl fc)), (v33, .inl (cA 0, 11, .inl fq)), (v35, .inl (cA 4, 400, .inl fk))]) hP hD hS hA [3, 4, 0, 1, 2] (by decide) rfl
      refine va_calli (va_runV (As := [.int (nI kn8), .int (nI dy), .int yn14, .int yn16]) (rest := []) ⟨hx, hb, hml, hown, hts⟩ (r_holdsBy l D cA sa w0 ed nb ol v0 v1 v2 v3 v4 v9 v13 v27 v28 v29 v30 v31 v32 v33 v34 v35 v36 v37 0 g11 g12 g14 g15 g16 g17 g18 g19 g20 g21 g22 g23 g24 g26 g5 g6 g25 cn pq en dy fs fc fq fk kn8 (nI dy) yn14 yn16 H.size hcn hpq hen hdy hri hCW hbit (by omega)) (cwV 4 hts gX10_wouldHold_X10_holdsBy rfl rfl rfl (by decide +kernel) ⟨(Nat.le_of_ble_eq_true rfl), (Nat.le_of_ble_eq_true rfl)⟩) ⟨Wd.blind, va_recv hK hPc (ci := 11) (q0 := 0) rfl rfl, fun U hU hW => ⟨rfl, Wd.call hPc hDc hK hC hZ hS hFc U hU hW⟩⟩ rfl rfl hl.1 rfl (lv_room (Nat.le_of_ble_eq_true rfl)) dX10_wouldHold_53 ⟨(Nat.le_of_ble_eq_true rfl), (Nat.le_of_ble_eq_true rfl)⟩) hS (fun q _ h => hFc q h) hFc (fun rn17 u t H1 locs ht hvm hw hB hz1 hk1 hS => ?_)
      obtain ⟨fn18, hn19, hP1, hD1⟩ := hB
      rw [ht] at hP1
      obtain ⟨hP, hD⟩ := PDq.join (w := [(oX10 w0 v0 v1 v2 v3 v4 g5 g6 (nI ed) 0 v9 (nI nb) g11 g12 v13 g14 g15 g16 g17 g18 g19 g20 g21 g22 g23 g24 g25 g26 v27 v28 v29 v30 v31 v32 v33 v34 v35 v36 v37 (nI ol)), (v0, .inl (cA 0, 326, .inl fs)), (v31, .inl (cA 0, 400, .inl fc)), (v33, .inl (cA 0, 11, .inl fq)), (v35, .inl (cA 4, 400, .inl fn18))]) 0 hP hD [3, 4, 0, 1, 2] [] rfl rfl (by decide) (by decide) hk1 hFc hP1 hD1 rfl
      generalize H1 = H at hP hS ⊢
      have hn20 := hw
      refine lv_if_eq (tgt := 63) hx hb dX10_wouldHold_56 (by decide) (fun c21 => ?_) (fun c21 => ?_)
      · skip
        refine lv_iconst (v := 0) hx hb dX10_wouldHold_63 (by decide) ?_
        obtain ⟨hP9, hD9⟩ := PDq.sub (ws' := [(oX10 w0 v0 v1 v2 v3 v4 g5 g6 (nI ed) 0 v9 (nI nb) g11 g12 v13 g14 g15 g16 g17 g18 g19 g20 g21 g22 g23 g24 g25 g26 v27 v28 v29 v30 v31 v32 v33 v34 v35 v36 v37 (nI ol)), (v0, .inl (cA 0, 326, .inl fs)), (v31, .inl (cA 0, 400, .inl fc)), (v33, .inl (cA 0, 11, .inl fq)), (v35, .inl (cA 4, 400, .inl fn18))]) hP hD [0, 1, 2, 3, 4] (by decide) rfl
        refine W.widen (k := 0) (n := 0) (Nat.le_of_ble_eq_true rfl) (Nat.le_of_ble_eq_true rfl) ?_
        exact (W.zret (v := 0) hx hb hr (by first | rfl | decide) (fun t ht hW => ⟨⟨0, (), rfl, (by first | exact Or.inl rfl | exact Or.inr rfl), 0, fn18, hn19, by rw [ht]; exact hP9, hD9⟩, hS.F ht⟩) hS.2.2 dX10_wouldHold_64)
      · skip
        refine lv_iconst (v := 1) hx hb dX10_wouldHold_59 (by decide) ?_
        refine lv_goto (tgt := 64) hx hb dX10_wouldHold_60 (by decide) ?_
        obtain ⟨hP9, hD9⟩ := PDq.sub (ws' := [(oX10 w0 v0 v1 v2 v3 v4 g5 g6 (nI ed) 0 v9 (nI nb) g11 g12 v13 g14 g15 g16 g17 g18 g19 g20 g21 g22 g23 g24 g25 g26 v27 v28 v29 v30 v31 v32 v33 v34 v35 v36 v37 (nI ol)), (v0, .inl (cA 0, 326, .inl fs)), (v31, .inl (cA 0, 400, .inl fc)), (v33, .inl (cA 0, 11, .inl fq)), (v35, .inl (cA 4, 400, .inl fn18))]) hP hD [0, 1, 2, 3, 4] (by decide) rfl
        refine W.widen (k := 0) (n := 0) (Nat.le_of_ble_eq_true rfl) (Nat.le_of_ble_eq_true rfl) ?_
        exact (W.zret (v := 1) hx hb hr (by first | rfl | decide) (fun t ht hW => ⟨⟨1, (), rfl, (by first | exact Or.inl rfl | exact Or.inr rfl), 0, fn18, hn19, by rw [ht]; exact hP9, hD9⟩, hS.F ht⟩) hS.2.2 dX10_wouldHold_64)
    · skip
      subst hr9
      refine lv_iload_n hx hb dX10_wouldHold_25 rfl (lv_at hl 0 rfl) ?_
      obtain ⟨hPc, hDc, hFc⟩ := PDq.cut (wc := [(oX10 w0 v0 v1 v2 v3 v4 g5 g6 (nI ed) g8 v9 (nI nb) g11 g12 v13 g14 g15 g16 g17 g18 g19 g20 g21 g22 g23 g24 g25 g26 v27 v28 v29 v30 v31 v32 v33 v34 v35 v36 v37 (nI ol))]) hP hD hS hA [3] (by decide) rfl
      refine va_calli (va_runV (As := [.int 0, .int 1]) (rest := []) ⟨hx, hb, hml, hown, hts⟩ (r_good_01 l D cA sa w0 ed nb ol v0 v1 v2 v3 v4 v9 v13 v27 v28 v29 v30 v31 v32 v33 v34 v35 v36 v37 g8 g11 g12 g14 g15 g16 g17 g18 g19 g20 g21 g22 g23 g24 g26 g5 g6 g25 H.size) (cwV 2 hts gX10_wouldHold_X10_good_ rfl rfl rfl (by decide +kernel) ⟨(Nat.le_of_ble_eq_true rfl), (Nat.le_of_ble_eq_true rfl)⟩) ⟨Wd.blind, va_recv hK hPc (ci := 11) (q0 := 0) rfl rfl, fun U hU hW => ⟨rfl, Wd.call hPc hDc hK hC hZ hS hFc U hU hW⟩⟩ rfl rfl hl.1 rfl (lv_room (Nat.le_of_ble_eq_true rfl)) dX10_wouldHold_26 ⟨(Nat.le_of_ble_eq_true rfl), (Nat.le_of_ble_eq_true rfl)⟩) hS (fun q _ h => hFc q h) hFc (fun rn22 u t H1 locs ht hvm hw hB hz1 hk1 hS => ?_)
      obtain ⟨hP1, hD1⟩ := hB
      rw [ht] at hP1
      obtain ⟨hP, hD⟩ := PDq.join (w := [(v31, .inl (cA 0, 400, .inl fc)), (v33, .inl (cA 0, 11, .inl fq)), (v35, .inl (cA 4, 400, .inl fk)), (v0, .inl (cA 0, 326, .inl fs)), (oX10 w0 v0 v1 v2 v3 v4 g5 g6 (nI ed) 1 v9 (nI nb) g11 g12 v13 g14 g15 g16 g17 g18 g19 g20 g21 g22 g23 g24 g25 g26 v27 v28 v29 v30 v31 v32 v33 v34 v35 v36 v37 (nI ol))]) 4 hP hD [3] [0, 1, 2, 4] rfl rfl (by decide) (by decide) hk1 hFc hP1 hD1 rfl
      generalize H1 = H at hP hS ⊢
      obtain rfl : rn22 = 0 := hw
      refine lv_if_eq (tgt := 63) hx hb dX10_wouldHold_29 (by decide) (fun c23 => ?_) (fun c9 => absurd c9 (by decide))
      refine lv_iconst (v := 0) hx hb dX10_wouldHold_63 (by decide) ?_
      obtain ⟨hP9, hD9⟩ := PDq.sub (ws' := [(oX10 w0 v0 v1 v2 v3 v4 g5 g6 (nI ed) 1 v9 (nI nb) g11 g12 v13 g14 g15 g16 g17 g18 g19 g20 g21 g22 g23 g24 g25 g26 v27 v28 v29 v30 v31 v32 v33 v34 v35 v36 v37 (nI ol)), (v0, .inl (cA 0, 326, .inl fs)), (v31, .inl (cA 0, 400, .inl fc)), (v33, .inl (cA 0, 11, .inl fq)), (v35, .inl (cA 4, 400, .inl fk))]) hP hD [4, 3, 0, 1, 2] (by decide) rfl
      refine W.widen (k := 0) (n := 0) (Nat.le_of_ble_eq_true rfl) (Nat.le_of_ble_eq_true rfl) ?_
      exact (W.zret (v := 0) hx hb hr (by first | rfl | decide) (fun t ht hW => ⟨⟨0, (), rfl, (by first | exact Or.inl rfl | exact Or.inr rfl), 1, fk, hbit, by rw [ht]; exact hP9, hD9⟩, hS.F ht⟩) hS.2.2 dX10_wouldHold_64)
  · skip
    subst hr9
    refine lv_istore_n (lv' := [(3, .int 0), (0, .ref w0), (1, .int i), (2, .int j)]) hx hb dX10_wouldHold_18 rfl hl (by decide) rfl (fun ls hl => ?_)
    refine lv_aload_n hx hb dX10_wouldHold_19 rfl (lv_at hl 1 rfl) ?_
    refine lv_aload_n hx hb dX10_wouldHold_20 rfl (lv_at hl 1 rfl) ?_
    refine lv_iload_n hx hb dX10_wouldHold_21 rfl (lv_at hl 2 rfl) ?_
    obtain ⟨hPc, hDc, hFc⟩ := PDq.cut (wc := [(oX10 w0 v0 v1 v2 v3 v4 g5 g6 (nI ed) g8 v9 (nI nb) g11 g12 v13 g14 g15 g16 g17 g18 g19 g20 g21 g22 g23 g24 g25 g26 v27 v28 v29 v30 v31 v32 v33 v34 v35 v36 v37 (nI ol)), (v0, .inl (cA 0, 326, .inl fs))]) hP hD hS hA [0, 1] (by decide) rfl
    refine va_calli (va_runV (As := [.int i]) (rest := [.ref w0]) ⟨hx, hb, hml, hown, hts⟩ (r_isMilestone l D cA sa w0 ed nb ol v0 v1 v2 v3 v4 v9 v13 v27 v28 v29 v30 v31 v32 v33 v34 v35 v36 v37 g8 g11 g12 g14 g15 g16 g17 g18 g19 g20 g21 g22 g23 g24 g26 g5 g6 g25 cn pq en dy fs i H.size hcn hpq hen hdy hri) (cwV 1 hts gX10_wouldHold_X10_isMilestone rfl rfl rfl (by decide +kernel) ⟨(Nat.le_of_ble_eq_true rfl), (Nat.le_of_ble_eq_true rfl)⟩) ⟨Wd.blind, va_recv hK hPc (ci := 11) (q0 := 0) rfl rfl, fun U hU hW => ⟨rfl, Wd.call hPc hDc hK hC hZ hS hFc U hU hW⟩⟩ rfl rfl hl.1 rfl (lv_room (Nat.le_of_ble_eq_true rfl)) dX10_wouldHold_22 ⟨(Nat.le_of_ble_eq_true rfl), (Nat.le_of_ble_eq_true rfl)⟩) hS (fun q _ h => hFc q h) hFc (fun rn24 u t H1 locs ht hvm hw hB hz1 hk1 hS => ?_)
    obtain ⟨hP1, hD1⟩ := hB
    rw [ht] at hP1
    obtain ⟨hP, hD⟩ := PDq.join (w := [(v31, .inl (cA 0, 400, .inl fc)), (v33, .inl (cA 0, 11, .inl fq)), (v35, .inl (cA 4, 400, .inl fk)), (oX10 w0 v0 v1 v2 v3 v4 g5 g6 (nI ed) g8 v9 (nI nb) g11 g12 v13 g14 g15 g16 g17 g18 g19 g20 g21 g22 g23 g24 g25 g26 v27 v28 v29 v30 v31 v32 v33 v34 v35 v36 v37 (nI ol)), (v0, .inl (cA 0, 326, .inl fs))]) 3 hP hD [0, 1] [2, 3, 4] rfl rfl (by decide) (by decide) hk1 hFc hP1 hD1 rfl
    generalize H1 = H at hP hS ⊢
    rcases hw with ⟨hr9, hn25⟩ | hr9
    · skip
      subst hr9
      obtain ⟨kn26, hn27, hn28⟩ := hn25
      rw [hn28] at hl
      have hl : lv_has ls 4 [(3, .int 0), (0, .ref w0), (1, .int (nI kn26)), (2, .int j)] := hl
      refine lv_iload_n hx hb dX10_wouldHold_25 rfl (lv_at hl 0 rfl) ?_
      obtain ⟨hPc, hDc, hFc⟩ := PDq.cut (wc := [(oX10 w0 v0 v1 v2 v3 v4 g5 g6 (nI ed) g8 v9 (nI nb) g11 g12 v13 g14 g15 g16 g17 g18 g19 g20 g21 g22 g23 g24 g25 g26 v27 v28 v29 v30 v31 v32 v33 v34 v35 v36 v37 (nI ol))]) hP hD hS hA [3] (by decide) rfl
      refine va_calli (va_runV (As := [.int 1, .int 0]) (rest := []) ⟨hx, hb, hml, hown, hts⟩ (r_good_10 l D cA sa w0 ed nb ol v0 v1 v2 v3 v4 v9 v13 v27 v28 v29 v30 v31 v32 v33 v34 v35 v36 v37 g8 g11 g12 g14 g15 g16 g17 g18 g19 g20 g21 g22 g23 g24 g26 g5 g6 g25 H.size) (cwV 2 hts gX10_wouldHold_X10_good_ rfl rfl rfl (by decide +kernel) ⟨(Nat.le_of_ble_eq_true rfl), (Nat.le_of_ble_eq_true rfl)⟩) ⟨Wd.blind, va_recv hK hPc (ci := 11) (q0 := 0) rfl rfl, fun U hU hW => ⟨rfl, Wd.call hPc hDc hK hC hZ hS hFc U hU hW⟩⟩ rfl rfl hl.1 rfl (lv_room (Nat.le_of_ble_eq_true rfl)) dX10_wouldHold_26 ⟨(Nat.le_of_ble_eq_true rfl), (Nat.le_of_ble_eq_true rfl)⟩) hS (fun q _ h => hFc q h) hFc (fun rn29 u t H1 locs ht hvm hw hB hz1 hk1 hS => ?_)
      obtain ⟨hP1, hD1⟩ := hB
      rw [ht] at hP1
      obtain ⟨hP, hD⟩ := PDq.join (w := [(v31, .inl (cA 0, 400, .inl fc)), (v33, .inl (cA 0, 11, .inl fq)), (v35, .inl (cA 4, 400, .inl fk)), (v0, .inl (cA 0, 326, .inl fs)), (oX10 w0 v0 v1 v2 v3 v4 g5 g6 (nI ed) 2 v9 (nI nb) g11 g12 v13 g14 g15 g16 g17 g18 g19 g20 g21 g22 g23 g24 g25 g26 v27 v28 v29 v30 v31 v32 v33 v34 v35 v36 v37 (nI ol))]) 4 hP hD [3] [0, 1, 2, 4] rfl rfl (by decide) (by decide) hk1 hFc hP1 hD1 rfl
      generalize H1 = H at hP hS ⊢
      obtain rfl : rn29 = 0 := hw
      refine lv_if_eq (tgt := 63) hx hb dX10_wouldHold_29 (by decide) (fun c30 => ?_) (fun c9 => absurd c9 (by decide))
      refine lv_iconst (v := 0) hx hb dX10_wouldHold_63 (by decide) ?_
      obtain ⟨hP9, hD9⟩ := PDq.sub (ws' := [(oX10 w0 v0 v1 v2 v3 v4 g5 g6 (nI ed) 2 v9 (nI nb) g11 g12 v13 g14 g15 g16 g17 g18 g19 g20 g21 g22 g23 g24 g25 g26 v27 v28 v29 v30 v31 v32 v33 v34 v35 v36 v37 (nI ol)), (v0, .inl (cA 0, 326, .inl fs)), (v31, .inl (cA 0, 400, .inl fc)), (v33, .inl (cA 0, 11, .inl fq)), (v35, .inl (cA 4, 400, .inl fk))]) hP hD [4, 3, 0, 1, 2] (by decide) rfl
      refine W.widen (k := 0) (n := 0) (Nat.le_of_ble_eq_true rfl) (Nat.le_of_ble_eq_true rfl) ?_
      exact (W.zret (v := 0) hx hb hr (by first | rfl | decide) (fun t ht hW => ⟨⟨0, (), rfl, (by first | exact Or.inl rfl | exact Or.inr rfl), 2, fk, hbit, by rw [ht]; exact hP9, hD9⟩, hS.F ht⟩) hS.2.2 dX10_wouldHold_64)
    · skip
      subst hr9
      refine lv_iload_n hx hb dX10_wouldHold_25 rfl (lv_at hl 0 rfl) ?_
      obtain ⟨hPc, hDc, hFc⟩ := PDq.cut (wc := [(oX10 w0 v0 v1 v2 v3 v4 g5 g6 (nI ed) g8 v9 (nI nb) g11 g12 v13 g14 g15 g16 g17 g18 g19 g20 g21 g22 g23 g24 g25 g26 v27 v28 v29 v30 v31 v32 v33 v34 v35 v36 v37 (nI ol))]) hP hD hS hA [3] (by decide) rfl
      refine va_calli (va_runV (As := [.int 0, .int 0]) (rest := []) ⟨hx, hb, hml, hown, hts⟩ (r_good_00 l D cA sa w0 ed nb ol v0 v1 v2 v3 v4 v9 v13 v27 v28 v29 v30 v31 v32 v33 v34 v35 v36 v37 g8 g11 g12 g14 g15 g16 g17 g18 g19 g20 g21 g22 g23 g24 g26 g5 g6 g25 H.size) (cwV 2 hts gX10_wouldHold_X10_good_ rfl rfl rfl (by decide +kernel) ⟨(Nat.le_of_ble_eq_true rfl), (Nat.le_of_ble_eq_true rfl)⟩) ⟨Wd.blind, va_recv hK hPc (ci := 11) (q0 := 0) rfl rfl, fun U hU hW => ⟨rfl, Wd.call hPc hDc hK hC hZ hS hFc U hU hW⟩⟩ rfl rfl hl.1 rfl (lv_room (Nat.le_of_ble_eq_true rfl)) dX10_wouldHold_26 ⟨(Nat.le_of_ble_eq_true rfl), (Nat.le_of_ble_eq_true rfl)⟩) hS (fun q _ h => hFc q h) hFc (fun rn31 u t H1 locs ht hvm hw hB hz1 hk1 hS => ?_)
      obtain ⟨hP1, hD1⟩ := hB
      rw [ht] at hP1
      obtain ⟨hP, hD⟩ := PDq.join (w := [(v31, .inl (cA 0, 400, .inl fc)), (v33, .inl (cA 0, 11, .inl fq)), (v35, .inl (cA 4, 400, .inl fk)), (v0, .inl (cA 0, 326, .inl fs)), (oX10 w0 v0 v1 v2 v3 v4 g5 g6 (nI ed) 1 v9 (nI nb) g11 g12 v13 g14 g15 g16 g17 g18 g19 g20 g21 g22 g23 g24 g25 g26 v27 v28 v29 v30 v31 v32 v33 v34 v35 v36 v37 (nI ol))]) 4 hP hD [3] [0, 1, 2, 4] rfl rfl (by decide) (by decide) hk1 hFc hP1 hD1 rfl
      generalize H1 = H at hP hS ⊢
      obtain rfl : rn31 = 0 := hw
      refine lv_if_eq (tgt := 63) hx hb dX10_wouldHold_29 (by decide) (fun c32 => ?_) (fun c9 => absurd c9 (by decide))
      refine lv_iconst (v := 0) hx hb dX10_wouldHold_63 (by decide) ?_
      obtain ⟨hP9, hD9⟩ := PDq.sub (ws' := [(oX10 w0 v0 v1 v2 v3 v4 g5 g6 (nI ed) 1 v9 (nI nb) g11 g12 v13 g14 g15 g16 g17 g18 g19 g20 g21 g22 g23 g24 g25 g26 v27 v28 v29 v30 v31 v32 v33 v34 v35 v36 v37 (nI ol)), (v0, .inl (cA 0, 326, .inl fs)), (v31, .inl (cA 0, 400, .inl fc)), (v33, .inl (cA 0, 11, .inl fq)), (v35, .inl (cA 4, 400, .inl fk))]) hP hD [4, 3, 0, 1, 2] (by decide) rfl
      refine W.widen (k := 0) (n := 0) (Nat.le_of_ble_eq_true rfl) (Nat.le_of_ble_eq_true rfl) ?_
      exact (W.zret (v := 0) hx hb hr (by first | rfl | decide) (fun t ht hW => ⟨⟨0, (), rfl, (by first | exact Or.inl rfl | exact Or.inr rfl), 1, fk, hbit, by rw [ht]; exact hP9, hD9⟩, hS.F ht⟩) hS.2.2 dX10_wouldHold_64)

set_option maxHeartbeats 4000000 in
set_option maxRecDepth 100000 in
/-- reference: dayByClock -/
theorem r_dayByClock (l : Launch) (D : va_G) (cA : Nat → ClassId) (sa : Nat → Nat) (w0 : Nat) (ed : Nat) (nb : Nat) (ol : Nat) (v0 : Nat) (v1 : Nat) (v2 : Nat) (v3 : Nat) (v4 : Nat) (v9 : Nat) (v13 : Nat) (v27 : Nat) (v28 : Nat) (v29 : Nat) (v30 : Nat) (v31 : Nat) (v32 : Nat) (v33 : Nat) (v34 : Nat) (v35 : Nat) (v36 : Nat) (v37 : Nat) (g8 : Int32) (g11 : Int32) (g12 : Int32) (g14 : Int32) (g15 : Int32) (g16 : Int32) (g17 : Int32) (g18 : Int32) (g19 : Int32) (g20 : Int32) (g21 : Int32) (g22 : Int32) (g23 : Int32) (g24 : Int32) (g26 : Int32) (g5 : Int64) (g6 : Int64) (g25 : Int64) (cn : Nat) (pq : Nat) (en : Nat) (dy : Nat) (fs : Nat → Int32) (fc : Nat → Int32) (fq : Nat → Int32) (fk : Nat → Int32) (i : Int32) (sz : Nat) (hcn : cn ≤ 10) (hpq : pq ≤ 8) (hen : en ≤ 60) (hdy : dy ≤ 20000) (hri : RI cn pq en dy fs) (hCW : CW cn fc fq) (hbit : Bit 400 fk) : Met l yX10_dayByClock wsX10_dayByClock ({ frames := 3, cells := 0, slots := 0, locals := 75 }) (va_Pc [.ref w0, .int i] (Wd D cA sa [(oX10 w0 v0 v1 v2 v3 v4 g5 g6 (nI ed) g8 v9 (nI nb) g11 g12 v13 g14 g15 g16 g17 g18 g19 g20 g21 g22 g23 g24 g25 g26 v27 v28 v29 v30 v31 v32 v33 v34 v35 v36 v37 (nI ol)), (v0, .inl (cA 0, 326, .inl fs)), (v31, .inl (cA 0, 400, .inl fc)), (v33, .inl (cA 0, 11, .inl fq)), (v35, .inl (cA 4, 400, .inl fk))] sz)) (va_Qi (fun (r : Int32) (_ : Unit) => True) (fun (_ : Unit) t => ∃ zt : Int32, ∃ zk : Nat → Int32, Bit 400 zk ∧ Wq D (va_A [(oX10 w0 v0 v1 v2 v3 v4 g5 g6 (nI ed) g8 v9 (nI nb) g11 g12 v13 g14 g15 g16 g17 g18 g19 g20 g21 g22 g23 g24 g25 g26 v27 v28 v29 v30 v31 v32 v33 v34 v35 v36 v37 (nI ol)), (v0, .inl (cA 0, 326, .inl fs)), (v31, .inl (cA 0, 400, .inl fc)), (v33, .inl (cA 0, 11, .inl fq)), (v35, .inl (cA 4, 400, .inl fk))] sz) [(oX10 w0 v0 v1 v2 v3 v4 g5 g6 (nI ed) zt v9 (nI nb) g11 g12 v13 g14 g15 g16 g17 g18 g19 g20 g21 g22 g23 g24 g25 g26 v27 v28 v29 v30 v31 v32 v33 v34 v35 v36 v37 (nI ol)), (v0, .inl (cA 0, 326, .inl fs)), (v31, .inl (cA 0, 400, .inl fc)), (v33, .inl (cA 0, 11, .inl fq)), (v35, .inl (cA 4, 400, .inl zk))] t) (va_A [(oX10 w0 v0 v1 v2 v3 v4 g5 g6 (nI ed) g8 v9 (nI nb) g11 g12 v13 g14 g15 g16 g17 g18 g19 g20 g21 g22 g23 g24 g25 g26 v27 v28 v29 v30 v31 v32 v33 v34 v35 v36 v37 (nI ol)), (v0, .inl (cA 0, 326, .inl fs)), (v31, .inl (cA 0, 400, .inl fc)), (v33, .inl (cA 0, 11, .inl fq)), (v35, .inl (cA 4, 400, .inl fk))] sz)) 0 0 (va_A [(oX10 w0 v0 v1 v2 v3 v4 g5 g6 (nI ed) g8 v9 (nI nb) g11 g12 v13 g14 g15 g16 g17 g18 g19 g20 g21 g22 g23 g24 g25 g26 v27 v28 v29 v30 v31 v32 v33 v34 v35 v36 v37 (nI ol)), (v0, .inl (cA 0, 326, .inl fs)), (v31, .inl (cA 0, 400, .inl fc)), (v33, .inl (cA 0, 11, .inl fq)), (v35, .inl (cA 4, 400, .inl fk))] sz) := by
  refine Met.ofW (cc := cX10_dayByClock) (maxL := 4) (ret := (some .int)) (by decide) rfl ?_
  intro p e s m args below meth c s₁ B hml hv
  obtain ⟨rfl, hsz, hP, hK, hD0, hC, hZ⟩ := hv
  have hx := B.exec
  have hb := B.bytes
  have hr := B.returns
  have hts := atoms_spec (ws := wsX10_dayByClock) B.pre
  have hown : s.vm.findClass RX10 = some m.cls := findClass_of_methodNamed B.named
  have hlocks := B.notSynchronized
  subst hsz
  have hD := hD0.self (sz := s.heap.size)
  generalize hAe : va_A [(oX10 w0 v0 v1 v2 v3 v4 g5 g6 (nI ed) g8 v9 (nI nb) g11 g12 v13 g14 g15 g16 g17 g18 g19 g20 g21 g22 g23 g24 g25 g26 v27 v28 v29 v30 v31 v32 v33 v34 v35 v36 v37 (nI ol)), (v0, .inl (cA 0, 326, .inl fs)), (v31, .inl (cA 0, 400, .inl fc)), (v33, .inl (cA 0, 11, .inl fq)), (v35, .inl (cA 4, 400, .inl fk))] s.heap.size = A at hD hZ ⊢
  have hA : ∀ q : Nat, s.heap.size ≤ q → A q := fun q h => by rw [← hAe]; exact Or.inr h
  have hS : va_S A s.heap s.heap [] := va_S.rf
  have hP : va_P D vwCl [(oX10 w0 v0 v1 v2 v3 v4 g5 g6 (nI ed) g8 v9 (nI nb) g11 g12 v13 g14 g15 g16 g17 g18 g19 g20 g21 g22 g23 g24 g25 g26 v27 v28 v29 v30 v31 v32 v33 v34 v35 v36 v37 (nI ol)), (v0, .inl (cA 0, 326, .inl fs)), (v31, .inl (cA 0, 400, .inl fc)), (v33, .inl (cA 0, 11, .inl fq)), (v35, .inl (cA 4, 400, .inl fk))] s.heap := hP
  have hl := lv_entry ([.ref w0, .int i]) (n := 4) (Nat.le_of_ble_eq_true rfl)
  rw [lg_entry_eq]
  generalize (lg_sl ([.ref w0, .int i]) ++ List.replicate (4 - (lg_sl ([.ref w0, .int i])).length) Slot.unset).toArray = ls at hl ⊢
  have hl : lv_has ls 4 [(0, .ref w0), (1, .int i)] := hl
  have inX10 : ∀ w ∈ u_ws RX10 TX10 39, w ∈ wsX10_dayByClock := by decide +kernel
  refine lv_aload_n hx hb dX10_dayByClock_0 rfl (lv_at hl 0 rfl) ?_
  refine lv_aload_n hx hb dX10_dayByClock_1 rfl (lv_at hl 0 rfl) ?_
  refine lv_iload_n hx hb dX10_dayByClock_2 rfl (lv_at hl 1 rfl) ?_
  obtain ⟨hPc, hDc, hFc⟩ := PDq.cut (wc := [(oX10 w0 v0 v1 v2 v3 v4 g5 g6 (nI ed) g8 v9 (nI nb) g11 g12 v13 g14 g15 g16 g17 g18 g19 g20 g21 g22 g23 g24 g25 g26 v27 v28 v29 v30 v31 v32 v33 v34 v35 v36 v37 (nI ol)), (v0, .inl (cA 0, 326, .inl fs))]) hP hD hS hA [0, 1] (by decide) rfl
  refine va_calli (va_runV (As := [.int i]) (rest := [.ref w0]) ⟨hx, hb, hml, hown, hts⟩ (r_isMilestone l D cA sa w0 ed nb ol v0 v1 v2 v3 v4 v9 v13 v27 v28 v29 v30 v31 v32 v33 v34 v35 v36 v37 g8 g11 g12 g14 g15 g16 g17 g18 g19 g20 g21 g22 g23 g24 g26 g5 g6 g25 cn pq en dy fs i s.heap.size hcn hpq hen hdy hri) (cwV 1 hts gX10_dayByClock_X10_isMilestone rfl rfl rfl (by decide +kernel) ⟨(Nat.le_of_ble_eq_true rfl), (Nat.le_of_ble_eq_true rfl)⟩) ⟨Wd.blind, va_recv hK hPc (ci := 11) (q0 := 0) rfl rfl, fun U hU hW => ⟨rfl, Wd.call hPc hDc hK hC hZ hS hFc U hU hW⟩⟩ rfl rfl hl.1 rfl (lv_room (Nat.le_of_ble_eq_true rfl)) dX10_dayByClock_3 ⟨(Nat.le_of_ble_eq_true rfl), (Nat.le_of_ble_eq_true rfl)⟩) hS (fun q _ h => hFc q h) hFc (fun rn1 u t H1 locs ht hvm hw hB hz1 hk1 hS => ?_)
  obtain ⟨hP1, hD1⟩ := hB
  rw [ht] at hP1
  obtain ⟨hP, hD⟩ := PDq.join (w := [(v31, .inl (cA 0, 400, .inl fc)), (v33, .inl (cA 0, 11, .inl fq)), (v35, .inl (cA 4, 400, .inl fk)), (oX10 w0 v0 v1 v2 v3 v4 g5 g6 (nI ed) g8 v9 (nI nb) g11 g12 v13 g14 g15 g16 g17 g18 g19 g20 g21 g22 g23 g24 g25 g26 v27 v28 v29 v30 v31 v32 v33 v34 v35 v36 v37 (nI ol)), (v0, .inl (cA 0, 326, .inl fs))]) 3 hP hD [0, 1] [2, 3, 4] rfl rfl (by decide) (by decide) hk1 hFc hP1 hD1 rfl
  generalize H1 = H at hP hS ⊢
  rcases hw with ⟨hr9, hn2⟩ | hr9
  · skip
    subst hr9
    obtain ⟨kn3, hn4, hn5⟩ := hn2
    rw [hn5] at hl
    have hl : lv_has ls 4 [(0, .ref w0), (1, .int (nI kn3))] := hl
    obtain ⟨hPc, hDc, hFc⟩ := PDq.cut (wc := [(oX10 w0 v0 v1 v2 v3 v4 g5 g6 (nI ed) g8 v9 (nI nb) g11 g12 v13 g14 g15 g16 g17 g18 g19 g20 g21 g22 g23 g24 g25 g26 v27 v28 v29 v30 v31 v32 v33 v34 v35 v36 v37 (nI ol))]) hP hD hS hA [3] (by decide) rfl
    refine va_calli (va_runV (As := [.int 1]) (rest := []) ⟨hx, hb, hml, hown, hts⟩ (r_good1 l D cA sa w0 ed nb ol v0 v1 v2 v3 v4 v9 v13 v27 v28 v29 v30 v31 v32 v33 v34 v35 v36 v37 g8 g11 g12 g14 g15 g16 g17 g18 g19 g20 g21 g22 g23 g24 g26 g5 g6 g25 H.size) (cwV 1 hts gX10_dayByClock_X10_good rfl rfl rfl (by decide +kernel) ⟨(Nat.le_of_ble_eq_true rfl), (Nat.le_of_ble_eq_true rfl)⟩) ⟨Wd.blind, va_recv hK hPc (ci := 11) (q0 := 0) rfl rfl, fun U hU hW => ⟨rfl, Wd.call hPc hDc hK hC hZ hS hFc U hU hW⟩⟩ rfl rfl hl.1 rfl (lv_room (Nat.le_of_ble_eq_true rfl)) dX10_dayByClock_6 ⟨(Nat.le_of_ble_eq_true rfl), (Nat.le_of_ble_eq_true rfl)⟩) hS (fun q _ h => hFc q h) hFc (fun rn6 u t H1 locs ht hvm hw hB hz1 hk1 hS => ?_)
    obtain ⟨hP1, hD1⟩ := hB
    rw [ht] at hP1
    obtain ⟨hP, hD⟩ := PDq.join (w := [(v31, .inl (cA 0, 400, .inl fc)), (v33, .inl (cA 0, 11, .inl fq)), (v35, .inl (cA 4, 400, .inl fk)), (v0, .inl (cA 0, 326, .inl fs)), (oX10 w0 v0 v1 v2 v3 v4 g5 g6 (nI ed) 0 v9 (nI nb) g11 g12 v13 g14 g15 g16 g17 g18 g19 g20 g21 g22 g23 g24 g25 g26 v27 v28 v29 v30 v31 v32 v33 v34 v35 v36 v37 (nI ol))]) 4 hP hD [3] [0, 1, 2, 4] rfl rfl (by decide) (by decide) hk1 hFc hP1 hD1 rfl
    generalize H1 = H at hP hS ⊢
    obtain rfl : rn6 = 1 := hw
    refine lv_if_ne (tgt := 14) hx hb dX10_dayByClock_9 (by decide) (fun c7 => ?_) (fun c9 => absurd c9 (by decide))
    refine lv_aload_n hx hb dX10_dayByClock_14 rfl (lv_at hl 0 rfl) ?_
    obtain ⟨hPc, hDc, hFc⟩ := PDq.cut (wc := [(oX10 w0 v0 v1 v2 v3 v4 g5 g6 (nI ed) 0 v9 (nI nb) g11 g12 v13 g14 g15 g16 g17 g18 g19 g20 g21 g22 g23 g24 g25 g26 v27 v28 v29 v30 v31 v32 v33 v34 v35 v36 v37 (nI ol)), (v0, .inl (cA 0, 326, .inl fs))]) hP hD hS hA [4, 3] (by decide) rfl
    refine va_calli (va_runV (As := []) (rest := []) ⟨hx, hb, hml, hown, hts⟩ (r_doneSet l D cA sa w0 ed nb ol v0 v1 v2 v3 v4 v9 v13 v27 v28 v29 v30 v31 v32 v33 v34 v35 v36 v37 0 g11 g12 g14 g15 g16 g17 g18 g19 g20 g21 g22 g23 g24 g26 g5 g6 g25 cn pq en dy fs H.size hcn hpq hen hdy hri) (cwV 0 hts gX10_dayByClock_X10_doneSet rfl rfl rfl (by decide +kernel) ⟨(Nat.le_of_ble_eq_true rfl), (Nat.le_of_ble_eq_true rfl)⟩) ⟨Wd.blind, va_recv hK hPc (ci := 11) (q0 := 0) rfl rfl, fun U hU hW => ⟨rfl, Wd.call hPc hDc hK hC hZ hS hFc U hU hW⟩⟩ rfl rfl hl.1 rfl (lv_room (Nat.le_of_ble_eq_true rfl)) dX10_dayByClock_15 ⟨(Nat.le_of_ble_eq_true rfl), (Nat.le_of_ble_eq_true rfl)⟩) hS (fun q _ h => hFc q h) hFc (fun rn8 u t H1 locs ht hvm hw hB hz1 hk1 hS => ?_)
    obtain ⟨hP1, hD1⟩ := hB
    rw [ht] at hP1
    obtain ⟨hP, hD⟩ := PDq.join (w := [(v31, .inl (cA 0, 400, .inl fc)), (v33, .inl (cA 0, 11, .inl fq)), (v35, .inl (cA 4, 400, .inl fk)), (oX10 w0 v0 v1 v2 v3 v4 g5 g6 (nI ed) 0 v9 (nI nb) g11 g12 v13 g14 g15 g16 g17 g18 g19 g20 g21 g22 g23 g24 g25 g26 v27 v28 v29 v30 v31 v32 v33 v34 v35 v36 v37 (nI ol)), (v0, .inl (cA 0, 326, .inl fs))]) 3 hP hD [4, 3] [0, 1, 2] rfl rfl (by decide) (by decide) hk1 hFc hP1 hD1 rfl
    generalize H1 = H at hP hS ⊢
    refine lv_istore_n (lv' := [(2, .int rn8), (0, .ref w0), (1, .int (nI kn3))]) hx hb dX10_dayByClock_18 rfl hl (by decide) rfl (fun ls hl => ?_)
    refine lv_aload_n hx hb dX10_dayByClock_19 rfl (lv_at hl 1 rfl) ?_
    refine va_get (D := D) (ci := 11) (v := .ref v0) (C := RX10) (T := TX10) (N := 39) hx hb hts inX10 hown hK hP 3 rfl rfl 0 (by decide) (hts (.fieldLink RX10 7 "EscrowDeskModel" "s" "[I") (by decide +kernel)) (fun _ h9 => h9) rfl dX10_dayByClock_20 ?_
    refine lv_iconst (v := 4) hx hb dX10_dayByClock_23 (by decide) ?_
    refine va_iald hx hb hK hP 4 0 rfl rfl (vp_in_iff.mpr (by decide)) dX10_dayByClock_24 ?_
    refine lv_topi (fun yn9 eyn9 => ?_)
    obtain rfl : yn9 = (nI dy) := eyn9.trans hri.2.2.2.1
    refine lv_istore_n (lv' := [(3, .int (nI dy)), (2, .int rn8), (0, .ref w0), (1, .int (nI kn3))]) hx hb dX10_dayByClock_25 rfl hl (by decide) rfl (fun ls hl => ?_)
    have loop1 : ∀ (n1 i1 : Nat) (f2_1 : Nat → Int32) (H : Heap) (locs : List Loc) (ls : Array Slot), i1 + n1 = (dy + 401) → Bit 400 f2_1 → va_P D vwCl [(v31, .inl (cA 0, 400, .inl fc)), (v33, .inl (cA 0, 11, .inl fq)), (v35, .inl (cA 4, 400, .inl f2_1)), (oX10 w0 v0 v1 v2 v3 v4 g5 g6 (nI ed) 0 v9 (nI nb) g11 g12 v13 g14 g15 g16 g17 g18 g19 g20 g21 g22 g23 g24 g25 g26 v27 v28 v29 v30 v31 v32 v33 v34 v35 v36 v37 (nI ol)), (v0, .inl (cA 0, 326, .inl fs))] H → va_D A [(v31, .inl (cA 0, 400, .inl fc)), (v33, .inl (cA 0, 11, .inl fq)), (v35, .inl (cA 4, 400, .inl f2_1)), (oX10 w0 v0 v1 v2 v3 v4 g5 g6 (nI ed) 0 v9 (nI nb) g11 g12 v13 g14 g15 g16 g17 g18 g19 g20 g21 g22 g23 g24 g25 g26 v27 v28 v29 v30 v31 v32 v33 v34 v35 v36 v37 (nI ol)), (v0, .inl (cA 0, 326, .inl fs))] → va_S A s.heap H locs → lv_has ls 4 [(3, .int (nI i1)), (2, .int rn8), (0, .ref w0), (1, .int (nI kn3))] → W p l e (headSpec wsX10_dayByClock ({ frames := 3, cells := 0, slots := 0, locals := 75 } : Room)).room s m ([.ref w0, .int i] : List Value).toArray below meth c H locs 0 0 (MQ below (va_Qi (fun (r : Int32) (_ : Unit) => True) (fun (_ : Unit) t => ∃ zt : Int32, ∃ zk : Nat → Int32, Bit 400 zk ∧ Wq D A [(oX10 w0 v0 v1 v2 v3 v4 g5 g6 (nI ed) zt v9 (nI nb) g11 g12 v13 g14 g15 g16 g17 g18 g19 g20 g21 g22 g23 g24 g25 g26 v27 v28 v29 v30 v31 v32 v33 v34 v35 v36 v37 (nI ol)), (v0, .inl (cA 0, 326, .inl fs)), (v31, .inl (cA 0, 400, .inl fc)), (v33, .inl (cA 0, 11, .inl fq)), (v35, .inl (cA 4, 400, .inl zk))] t) A) ([.ref w0, .int i] : List Value).toArray s 0 0 A) (F0 m 26 ls []) := by
      intro n1
      induction n1 with
      | zero =>
        intro i1 f2_1 H locs ls hi1 hf0_1 hP hD hS hl
        obtain rfl : (dy + 401) = i1 := by omega
        refine lv_iload_n hx hb dX10_dayByClock_26 rfl (lv_at hl 0 rfl) ?_
        refine lv_aload_n hx hb dX10_dayByClock_27 rfl (lv_at hl 2 rfl) ?_
        refine va_get (D := D) (ci := 11) (v := .ref v0) (C := RX10) (T := TX10) (N := 39) hx hb hts inX10 hown hK hP 3 rfl rfl 0 (by decide) (hts (.fieldLink RX10 7 "EscrowDeskModel" "s" "[I") (by decide +kernel)) (fun _ h9 => h9) rfl dX10_dayByClock_28 ?_
        refine lv_iconst (v := 4) hx hb dX10_dayByClock_31 (by decide) ?_
        refine va_iald hx hb hK hP 4 0 rfl rfl (vp_in_iff.mpr (by decide)) dX10_dayByClock_32 ?_
        refine lv_topi (fun yn10 eyn10 => ?_)
        obtain rfl : yn10 = (nI dy) := eyn10.trans hri.2.2.2.1
        refine lv_sipush (v := 400) hx hb dX10_dayByClock_33 (by decide) ?_
        refine lv_iadd hx hb dX10_dayByClock_36 ?_
        refine lv_topi (fun yn11 eyn11 => ?_)
        obtain rfl : yn11 = (nI (dy + 400)) := eyn11.trans (nI_add dy 400)
        refine lv_icmp_gt (tgt := 65) hx hb dX10_dayByClock_37 (by decide) (fun c12 => ?_) (fun c9 => absurd (nI_lt (a := (dy + 400)) (b := (dy + 401)) (show (dy + 400) < (dy + 401) by omega) (by omega)) c9)
        refine lv_iconst (v := (-1)) hx hb dX10_dayByClock_65 (by decide) ?_
        obtain ⟨hP9, hD9⟩ := PDq.sub (ws' := [(oX10 w0 v0 v1 v2 v3 v4 g5 g6 (nI ed) 0 v9 (nI nb) g11 g12 v13 g14 g15 g16 g17 g18 g19 g20 g21 g22 g23 g24 g25 g26 v27 v28 v29 v30 v31 v32 v33 v34 v35 v36 v37 (nI ol)), (v0, .inl (cA 0, 326, .inl fs)), (v31, .inl (cA 0, 400, .inl fc)), (v33, .inl (cA 0, 11, .inl fq)), (v35, .inl (cA 4, 400, .inl f2_1))]) hP hD [3, 4, 0, 1, 2] (by decide) rfl
        refine W.widen (k := 0) (n := 0) (Nat.le_of_ble_eq_true rfl) (Nat.le_of_ble_eq_true rfl) ?_
        exact (W.iret (v := (-1)) hx hb hr (fun t ht hW => ⟨⟨(-1), (), rfl, trivial, 0, f2_1, hf0_1, by rw [ht]; exact hP9, hD9⟩, hS.F ht⟩) hS.2.2 dX10_dayByClock_66)
      | succ n1 ih1 =>
        intro i1 f2_1 H locs ls hi1 hf0_1 hP hD hS hl
        refine lv_iload_n hx hb dX10_dayByClock_26 rfl (lv_at hl 0 rfl) ?_
        refine lv_aload_n hx hb dX10_dayByClock_27 rfl (lv_at hl 2 rfl) ?_
        refine va_get (D := D) (ci := 11) (v := .ref v0) (C := RX10) (T := TX10) (N := 39) hx hb hts inX10 hown hK hP 3 rfl rfl 0 (by decide) (hts (.fieldLink RX10 7 "EscrowDeskModel" "s" "[I") (by decide +kernel)) (fun _ h9 => h9) rfl dX10_dayByClock_28 ?_
        refine lv_iconst (v := 4) hx hb dX10_dayByClock_31 (by decide) ?_
        refine va_iald hx hb hK hP 4 0 rfl rfl (vp_in_iff.mpr (by decide)) dX10_dayByClock_32 ?_
        refine lv_topi (fun yn13 eyn13 => ?_)
        obtain rfl : yn13 = (nI dy) := eyn13.trans hri.2.2.2.1
        refine lv_sipush (v := 400) hx hb dX10_dayByClock_33 (by decide) ?_
        refine lv_iadd hx hb dX10_dayByClock_36 ?_
        refine lv_topi (fun yn14 eyn14 => ?_)
        obtain rfl : yn14 = (nI (dy + 400)) := eyn14.trans (nI_add dy 400)
        refine lv_icmp_gt (tgt := 65) hx hb dX10_dayByClock_37 (by decide) (fun c9 => absurd c9 (nI_nlt (a := (dy + 400)) (b := i1) (show i1 ≤ (dy + 400) by omega) (by omega))) (fun c15 => ?_)
        refine lv_aload_n hx hb dX10_dayByClock_40 rfl (lv_at hl 2 rfl) ?_
        refine lv_iload_n hx hb dX10_dayByClock_41 rfl (lv_at hl 3 rfl) ?_
        refine lv_iload_n hx hb dX10_dayByClock_42 rfl (lv_at hl 0 rfl) ?_
        refine lv_aload_n hx hb dX10_dayByClock_43 rfl (lv_at hl 2 rfl) ?_
        refine va_get (D := D) (ci := 11) (v := .ref v0) (C := RX10) (T := TX10) (N := 39) hx hb hts inX10 hown hK hP 3 rfl rfl 0 (by decide) (hts (.fieldLink RX10 7 "EscrowDeskModel" "s" "[I") (by decide +kernel)) (fun _ h9 => h9) rfl dX10_dayByClock_44 ?_
        refine lv_bipush (v := 12) hx hb dX10_dayByClock_47 (by decide) ?_
        refine va_iald hx hb hK hP 4 0 rfl rfl (vp_in_iff.mpr (by decide)) dX10_dayByClock_49 ?_
        refine lv_topi (fun yn16 eyn16 => ?_)
        refine lv_iload_n hx hb dX10_dayByClock_50 rfl (lv_at hl 1 rfl) ?_
        obtain ⟨hPc, hDc, hFc⟩ := PDq.cut (wc := [(oX10 w0 v0 v1 v2 v3 v4 g5 g6 (nI ed) 0 v9 (nI nb) g11 g12 v13 g14 g15 g16 g17 g18 g19 g20 g21 g22 g23 g24 g25 g26 v27 v28 v29 v30 v31 v32 v33 v34 v35 v36 v37 (nI ol)), (v0, .inl (cA 0, 326, .inl fs)), (v31, .inl (cA 0, 400, .inl fc)), (v33, .inl (cA 0, 11, .inl fq)), (v35, .inl (cA 4, 400, .inl f2_1))]) hP hD hS hA [3, 4, 0, 1, 2] (by decide) rfl
        refine va_calli (va_runV (As := [.int (nI kn3), .int (nI i1), .int yn16, .int rn8]) (rest := []) ⟨hx, hb, hml, hown, hts⟩ (r_holdsBy l D cA sa w0 ed nb ol v0 v1 v2 v3 v4 v9 v13 v27 v28 v29 v30 v31 v32 v33 v34 v35 v36 v37 0 g11 g12 g14 g15 g16 g17 g18 g19 g20 g21 g22 g23 g24 g26 g5 g6 g25 cn pq en dy fs fc fq f2_1 kn3 (nI i1) yn16 rn8 H.size hcn hpq hen hdy hri hCW hf0_1 (by omega)) (cwV 4 hts gX10_dayByClock_X10_holdsBy rfl rfl rfl (by decide +kernel) ⟨(Nat.le_of_ble_eq_true rfl), (Nat.le_of_ble_eq_true rfl)⟩) ⟨Wd.blind, va_recv hK hPc (ci := 11) (q0 := 0) rfl rfl, fun U hU hW => ⟨rfl, Wd.call hPc hDc hK hC hZ hS hFc U hU hW⟩⟩ rfl rfl hl.1 rfl (lv_room (Nat.le_of_ble_eq_true rfl)) dX10_dayByClock_51 ⟨(Nat.le_of_ble_eq_true rfl), (Nat.le_of_ble_eq_true rfl)⟩) hS (fun q _ h => hFc q h) hFc (fun rn17 u t H1 locs ht hvm hw hB hz1 hk1 hS => ?_)
        obtain ⟨fn18, hn19, hP1, hD1⟩ := hB
        rw [ht] at hP1
        obtain ⟨hP, hD⟩ := PDq.join (w := [(oX10 w0 v0 v1 v2 v3 v4 g5 g6 (nI ed) 0 v9 (nI nb) g11 g12 v13 g14 g15 g16 g17 g18 g19 g20 g21 g22 g23 g24 g25 g26 v27 v28 v29 v30 v31 v32 v33 v34 v35 v36 v37 (nI ol)), (v0, .inl (cA 0, 326, .inl fs)), (v31, .inl (cA 0, 400, .inl fc)), (v33, .inl (cA 0, 11, .inl fq)), (v35, .inl (cA 4, 400, .inl fn18))]) 0 hP hD [3, 4, 0, 1, 2] [] rfl rfl (by decide) (by decide) hk1 hFc hP1 hD1 rfl
        generalize H1 = H at hP hS ⊢
        have hn20 := hw
        refine lv_if_eq (tgt := 59) hx hb dX10_dayByClock_54 (by decide) (fun c21 => ?_) (fun c21 => ?_)
        · skip
          refine lv_iinc (v := (nI (i1 + 1))) (lv' := [(3, .int (nI (i1 + 1))), (2, .int rn8), (0, .ref w0), (1, .int (nI kn3))]) hx hb dX10_dayByClock_59 hl (k := 0) rfl (nI_1 _) (by decide) rfl (fun ls hl => ?_)
          refine lv_goto (tgt := 26) hx hb dX10_dayByClock_62 (by decide) ?_
          obtain ⟨hP9, hD9⟩ := PDq.sub (ws' := [(v31, .inl (cA 0, 400, .inl fc)), (v33, .inl (cA 0, 11, .inl fq)), (v35, .inl (cA 4, 400, .inl fn18)), (oX10 w0 v0 v1 v2 v3 v4 g5 g6 (nI ed) 0 v9 (nI nb) g11 g12 v13 g14 g15 g16 g17 g18 g19 g20 g21 g22 g23 g24 g25 g26 v27 v28 v29 v30 v31 v32 v33 v34 v35 v36 v37 (nI ol)), (v0, .inl (cA 0, 326, .inl fs))]) hP hD [2, 3, 4, 0, 1] (by decide) rfl
          exact ih1 (i1 + 1) fn18 H _ ls (by omega) hn19 hP9 hD9 hS (lv_sub hl [0, 1, 2, 3] rfl)
        · skip
          refine lv_iload_n hx hb dX10_dayByClock_57 rfl (lv_at hl 0 rfl) ?_
          obtain ⟨hP9, hD9⟩ := PDq.sub (ws' := [(oX10 w0 v0 v1 v2 v3 v4 g5 g6 (nI ed) 0 v9 (nI nb) g11 g12 v13 g14 g15 g16 g17 g18 g19 g20 g21 g22 g23 g24 g25 g26 v27 v28 v29 v30 v31 v32 v33 v34 v35 v36 v37 (nI ol)), (v0, .inl (cA 0, 326, .inl fs)), (v31, .inl (cA 0, 400, .inl fc)), (v33, .inl (cA 0, 11, .inl fq)), (v35, .inl (cA 4, 400, .inl fn18))]) hP hD [0, 1, 2, 3, 4] (by decide) rfl
          refine W.widen (k := 0) (n := 0) (Nat.le_of_ble_eq_true rfl) (Nat.le_of_ble_eq_true rfl) ?_
          exact (W.iret (v := (nI i1)) hx hb hr (fun t ht hW => ⟨⟨(nI i1), (), rfl, trivial, 0, fn18, hn19, by rw [ht]; exact hP9, hD9⟩, hS.F ht⟩) hS.2.2 dX10_dayByClock_58)
    obtain ⟨hP9, hD9⟩ := PDq.sub (ws' := [(v31, .inl (cA 0, 400, .inl fc)), (v33, .inl (cA 0, 11, .inl fq)), (v35, .inl (cA 4, 400, .inl fk)), (oX10 w0 v0 v1 v2 v3 v4 g5 g6 (nI ed) 0 v9 (nI nb) g11 g12 v13 g14 g15 g16 g17 g18 g19 g20 g21 g22 g23 g24 g25 g26 v27 v28 v29 v30 v31 v32 v33 v34 v35 v36 v37 (nI ol)), (v0, .inl (cA 0, 326, .inl fs))]) hP hD [0, 1, 2, 3, 4] (by decide) rfl
    exact loop1 ((dy + 401) - dy) dy fk _ _ ls (by omega) hbit hP9 hD9 hS (lv_sub hl [0, 1, 2, 3] rfl)
  · skip
    subst hr9
    obtain ⟨hPc, hDc, hFc⟩ := PDq.cut (wc := [(oX10 w0 v0 v1 v2 v3 v4 g5 g6 (nI ed) g8 v9 (nI nb) g11 g12 v13 g14 g15 g16 g17 g18 g19 g20 g21 g22 g23 g24 g25 g26 v27 v28 v29 v30 v31 v32 v33 v34 v35 v36 v37 (nI ol))]) hP hD hS hA [3] (by decide) rfl
    refine va_calli (va_runV (As := [.int 0]) (rest := []) ⟨hx, hb, hml, hown, hts⟩ (r_good0 l D cA sa w0 ed nb ol v0 v1 v2 v3 v4 v9 v13 v27 v28 v29 v30 v31 v32 v33 v34 v35 v36 v37 g8 g11 g12 g14 g15 g16 g17 g18 g19 g20 g21 g22 g23 g24 g26 g5 g6 g25 H.size) (cwV 1 hts gX10_dayByClock_X10_good rfl rfl rfl (by decide +kernel) ⟨(Nat.le_of_ble_eq_true rfl), (Nat.le_of_ble_eq_true rfl)⟩) ⟨Wd.blind, va_recv hK hPc (ci := 11) (q0 := 0) rfl rfl, fun U hU hW => ⟨rfl, Wd.call hPc hDc hK hC hZ hS hFc U hU hW⟩⟩ rfl rfl hl.1 rfl (lv_room (Nat.le_of_ble_eq_true rfl)) dX10_dayByClock_6 ⟨(Nat.le_of_ble_eq_true rfl), (Nat.le_of_ble_eq_true rfl)⟩) hS (fun q _ h => hFc q h) hFc (fun rn22 u t H1 locs ht hvm hw hB hz1 hk1 hS => ?_)
    obtain ⟨hP1, hD1⟩ := hB
    rw [ht] at hP1
    obtain ⟨hP, hD⟩ := PDq.join (w := [(v31, .inl (cA 0, 400, .inl fc)), (v33, .inl (cA 0, 11, .inl fq)), (v35, .inl (cA 4, 400, .inl fk)), (v0, .inl (cA 0, 326, .inl fs)), (oX10 w0 v0 v1 v2 v3 v4 g5 g6 (nI ed) 1 v9 (nI nb) g11 g12 v13 g14 g15 g16 g17 g18 g19 g20 g21 g22 g23 g24 g25 g26 v27 v28 v29 v30 v31 v32 v33 v34 v35 v36 v37 (nI ol))]) 4 hP hD [3] [0, 1, 2, 4] rfl rfl (by decide) (by decide) hk1 hFc hP1 hD1 rfl
    generalize H1 = H at hP hS ⊢
    obtain rfl : rn22 = 0 := hw
    refine lv_if_ne (tgt := 14) hx hb dX10_dayByClock_9 (by decide) (fun c9 => absurd c9 (by decide)) (fun c23 => ?_)
    refine lv_iconst (v := 0) hx hb dX10_dayByClock_12 (by decide) ?_
    obtain ⟨hP9, hD9⟩ := PDq.sub (ws' := [(oX10 w0 v0 v1 v2 v3 v4 g5 g6 (nI ed) 1 v9 (nI nb) g11 g12 v13 g14 g15 g16 g17 g18 g19 g20 g21 g22 g23 g24 g25 g26 v27 v28 v29 v30 v31 v32 v33 v34 v35 v36 v37 (nI ol)), (v0, .inl (cA 0, 326, .inl fs)), (v31, .inl (cA 0, 400, .inl fc)), (v33, .inl (cA 0, 11, .inl fq)), (v35, .inl (cA 4, 400, .inl fk))]) hP hD [4, 3, 0, 1, 2] (by decide) rfl
    refine W.widen (k := 0) (n := 0) (Nat.le_of_ble_eq_true rfl) (Nat.le_of_ble_eq_true rfl) ?_
    exact (W.iret (v := 0) hx hb hr (fun t ht hW => ⟨⟨0, (), rfl, trivial, 1, fk, hbit, by rw [ht]; exact hP9, hD9⟩, hS.F ht⟩) hS.2.2 dX10_dayByClock_13)

set_option maxHeartbeats 4000000 in
set_option maxRecDepth 100000 in
/-- reference: canSplit -/
theorem r_canSplit0 (l : Launch) (D : va_G) (cA : Nat → ClassId) (sa : Nat → Nat) (w0 : Nat) (ed : Nat) (nb : Nat) (ol : Nat) (v0 : Nat) (v1 : Nat) (v2 : Nat) (v3 : Nat) (v4 : Nat) (v9 : Nat) (v13 : Nat) (v27 : Nat) (v28 : Nat) (v29 : Nat) (v30 : Nat) (v31 : Nat) (v32 : Nat) (v33 : Nat) (v34 : Nat) (v35 : Nat) (v36 : Nat) (v37 : Nat) (g8 : Int32) (g11 : Int32) (g12 : Int32) (g14 : Int32) (g15 : Int32) (g16 : Int32) (g17 : Int32) (g18 : Int32) (g19 : Int32) (g20 : Int32) (g21 : Int32) (g22 : Int32) (g23 : Int32) (g24 : Int32) (g26 : Int32) (g5 : Int64) (g6 : Int64) (g25 : Int64) (cn : Nat) (pq : Nat) (en : Nat) (dy : Nat) (fs : Nat → Int32) (i : Int32) (sz : Nat) (hcn : cn ≤ 10) (hpq : pq ≤ 8) (hen : en ≤ 60) (hdy : dy ≤ 20000) (hri : RI cn pq en dy fs) : Met l yX10_canSplit wsX10_canSplit ({ frames := 2, cells := 0, slots := 0, locals := 46 }) (va_Pc [.ref w0, .int i, .int 0] (Wd D cA sa [(oX10 w0 v0 v1 v2 v3 v4 g5 g6 (nI ed) g8 v9 (nI nb) g11 g12 v13 g14 g15 g16 g17 g18 g19 g20 g21 g22 g23 g24 g25 g26 v27 v28 v29 v30 v31 v32 v33 v34 v35 v36 v37 (nI ol)), (v0, .inl (cA 0, 326, .inl fs))] sz)) (va_Qi (fun (r : Int32) (_ : Unit) => (r = 1 ∧ ∃ n, n < cn ∧ i = nI n) ∨ r = 0) (fun (_ : Unit) t => ∃ zt : Int32, Wq D (va_A [(oX10 w0 v0 v1 v2 v3 v4 g5 g6 (nI ed) g8 v9 (nI nb) g11 g12 v13 g14 g15 g16 g17 g18 g19 g20 g21 g22 g23 g24 g25 g26 v27 v28 v29 v30 v31 v32 v33 v34 v35 v36 v37 (nI ol)), (v0, .inl (cA 0, 326, .inl fs))] sz) [(oX10 w0 v0 v1 v2 v3 v4 g5 g6 (nI ed) zt v9 (nI nb) g11 g12 v13 g14 g15 g16 g17 g18 g19 g20 g21 g22 g23 g24 g25 g26 v27 v28 v29 v30 v31 v32 v33 v34 v35 v36 v37 (nI ol)), (v0, .inl (cA 0, 326, .inl fs))] t) (va_A [(oX10 w0 v0 v1 v2 v3 v4 g5 g6 (nI ed) g8 v9 (nI nb) g11 g12 v13 g14 g15 g16 g17 g18 g19 g20 g21 g22 g23 g24 g25 g26 v27 v28 v29 v30 v31 v32 v33 v34 v35 v36 v37 (nI ol)), (v0, .inl (cA 0, 326, .inl fs))] sz)) 0 0 (va_A [(oX10 w0 v0 v1 v2 v3 v4 g5 g6 (nI ed) g8 v9 (nI nb) g11 g12 v13 g14 g15 g16 g17 g18 g19 g20 g21 g22 g23 g24 g25 g26 v27 v28 v29 v30 v31 v32 v33 v34 v35 v36 v37 (nI ol)), (v0, .inl (cA 0, 326, .inl fs))] sz) := by
  refine Met.ofW (cc := cX10_canSplit) (maxL := 3) (ret := (some .boolean)) (by decide) rfl ?_
  intro p e s m args below meth c s₁ B hml hv
  obtain ⟨rfl, hsz, hP, hK, hD0, hC, hZ⟩ := hv
  have hx := B.exec
  have hb := B.bytes
  have hr := B.returns
  have hts := atoms_spec (ws := wsX10_canSplit) B.pre
  have hown : s.vm.findClass RX10 = some m.cls := findClass_of_methodNamed B.named
  have hlocks := B.notSynchronized
  subst hsz
  have hD := hD0.self (sz := s.heap.size)
  generalize hAe : va_A [(oX10 w0 v0 v1 v2 v3 v4 g5 g6 (nI ed) g8 v9 (nI nb) g11 g12 v13 g14 g15 g16 g17 g18 g19 g20 g21 g22 g23 g24 g25 g26 v27 v28 v29 v30 v31 v32 v33 v34 v35 v36 v37 (nI ol)), (v0, .inl (cA 0, 326, .inl fs))] s.heap.size = A at hD hZ ⊢
  have hA : ∀ q : Nat, s.heap.size ≤ q → A q := fun q h => by rw [← hAe]; exact Or.inr h
  have hS : va_S A s.heap s.heap [] := va_S.rf
  have hP : va_P D vwCl [(oX10 w0 v0 v1 v2 v3 v4 g5 g6 (nI ed) g8 v9 (nI nb) g11 g12 v13 g14 g15 g16 g17 g18 g19 g20 g21 g22 g23 g24 g25 g26 v27 v28 v29 v30 v31 v32 v33 v34 v35 v36 v37 (nI ol)), (v0, .inl (cA 0, 326, .inl fs))] s.heap := hP
  have hl := lv_entry ([.ref w0, .int i, .int 0]) (n := 3) (Nat.le_of_ble_eq_true rfl)
  rw [lg_entry_eq]
  generalize (lg_sl ([.ref w0, .int i, .int 0]) ++ List.replicate (3 - (lg_sl ([.ref w0, .int i, .int 0])).length) Slot.unset).toArray = ls at hl ⊢
  have hl : lv_has ls 3 [(0, .ref w0), (1, .int i), (2, .int 0)] := hl
  have inX10 : ∀ w ∈ u_ws RX10 TX10 39, w ∈ wsX10_canSplit := by decide +kernel
  refine lv_aload_n hx hb dX10_canSplit_0 rfl (lv_at hl 0 rfl) ?_
  refine lv_aload_n hx hb dX10_canSplit_1 rfl (lv_at hl 0 rfl) ?_
  refine lv_iload_n hx hb dX10_canSplit_2 rfl (lv_at hl 1 rfl) ?_
  obtain ⟨hPc, hDc, hFc⟩ := PDq.cut (wc := [(oX10 w0 v0 v1 v2 v3 v4 g5 g6 (nI ed) g8 v9 (nI nb) g11 g12 v13 g14 g15 g16 g17 g18 g19 g20 g21 g22 g23 g24 g25 g26 v27 v28 v29 v30 v31 v32 v33 v34 v35 v36 v37 (nI ol)), (v0, .inl (cA 0, 326, .inl fs))]) hP hD hS hA [0, 1] (by decide) rfl
  refine va_calli (va_runV (As := [.int i]) (rest := [.ref w0]) ⟨hx, hb, hml, hown, hts⟩ (r_isMilestone l D cA sa w0 ed nb ol v0 v1 v2 v3 v4 v9 v13 v27 v28 v29 v30 v31 v32 v33 v34 v35 v36 v37 g8 g11 g12 g14 g15 g16 g17 g18 g19 g20 g21 g22 g23 g24 g26 g5 g6 g25 cn pq en dy fs i s.heap.size hcn hpq hen hdy hri) (cwV 1 hts gX10_canSplit_X10_isMilestone rfl rfl rfl (by decide +kernel) ⟨(Nat.le_of_ble_eq_true rfl), (Nat.le_of_ble_eq_true rfl)⟩) ⟨Wd.blind, va_recv hK hPc (ci := 11) (q0 := 0) rfl rfl, fun U hU hW => ⟨rfl, Wd.call hPc hDc hK hC hZ hS hFc U hU hW⟩⟩ rfl rfl hl.1 rfl (lv_room (Nat.le_of_ble_eq_true rfl)) dX10_canSplit_3 ⟨(Nat.le_of_ble_eq_true rfl), (Nat.le_of_ble_eq_true rfl)⟩) hS (fun q _ h => hFc q h) hFc (fun rn1 u t H1 locs ht hvm hw hB hz1 hk1 hS => ?_)
  obtain ⟨hP1, hD1⟩ := hB
  rw [ht] at hP1
  obtain ⟨hP, hD⟩ := PDq.join (w := [(oX10 w0 v0 v1 v2 v3 v4 g5 g6 (nI ed) g8 v9 (nI nb) g11 g12 v13 g14 g15 g16 g17 g18 g19 g20 g21 g22 g23 g24 g25 g26 v27 v28 v29 v30 v31 v32 v33 v34 v35 v36 v37 (nI ol)), (v0, .inl (cA 0, 326, .inl fs))]) 0 hP hD [0, 1] [] rfl rfl (by decide) (by decide) hk1 hFc hP1 hD1 rfl
  generalize H1 = H at hP hS ⊢
  rcases hw with ⟨hr9, hn2⟩ | hr9
  · skip
    subst hr9
    obtain ⟨kn3, hn4, hn5⟩ := hn2
    rw [hn5] at hl
    have hl : lv_has ls 3 [(0, .ref w0), (1, .int (nI kn3)), (2, .int 0)] := hl
    refine lv_iload_n hx hb dX10_canSplit_6 rfl (lv_at hl 2 rfl) ?_
    obtain ⟨hPc, hDc, hFc⟩ := PDq.cut (wc := [(oX10 w0 v0 v1 v2 v3 v4 g5 g6 (nI ed) g8 v9 (nI nb) g11 g12 v13 g14 g15 g16 g17 g18 g19 g20 g21 g22 g23 g24 g25 g26 v27 v28 v29 v30 v31 v32 v33 v34 v35 v36 v37 (nI ol))]) hP hD hS hA [0] (by decide) rfl
    refine va_calli (va_runV (As := [.int 1, .int 0]) (rest := []) ⟨hx, hb, hml, hown, hts⟩ (r_good_10 l D cA sa w0 ed nb ol v0 v1 v2 v3 v4 v9 v13 v27 v28 v29 v30 v31 v32 v33 v34 v35 v36 v37 g8 g11 g12 g14 g15 g16 g17 g18 g19 g20 g21 g22 g23 g24 g26 g5 g6 g25 H.size) (cwV 2 hts gX10_canSplit_X10_good_ rfl rfl rfl (by decide +kernel) ⟨(Nat.le_of_ble_eq_true rfl), (Nat.le_of_ble_eq_true rfl)⟩) ⟨Wd.blind, va_recv hK hPc (ci := 11) (q0 := 0) rfl rfl, fun U hU hW => ⟨rfl, Wd.call hPc hDc hK hC hZ hS hFc U hU hW⟩⟩ rfl rfl hl.1 rfl (lv_room (Nat.le_of_ble_eq_true rfl)) dX10_canSplit_7 ⟨(Nat.le_of_ble_eq_true rfl), (Nat.le_of_ble_eq_true rfl)⟩) hS (fun q _ h => hFc q h) hFc (fun rn6 u t H1 locs ht hvm hw hB hz1 hk1 hS => ?_)
    obtain ⟨hP1, hD1⟩ := hB
    rw [ht] at hP1
    obtain ⟨hP, hD⟩ := PDq.join (w := [(v0, .inl (cA 0, 326, .inl fs)), (oX10 w0 v0 v1 v2 v3 v4 g5 g6 (nI ed) 2 v9 (nI nb) g11 g12 v13 g14 g15 g16 g17 g18 g19 g20 g21 g22 g23 g24 g25 g26 v27 v28 v29 v30 v31 v32 v33 v34 v35 v36 v37 (nI ol))]) 1 hP hD [0] [1] rfl rfl (by decide) (by decide) hk1 hFc hP1 hD1 rfl
    generalize H1 = H at hP hS ⊢
    obtain rfl : rn6 = 0 := hw
    refine lv_if_eq (tgt := 32) hx hb dX10_canSplit_10 (by decide) (fun c7 => ?_) (fun c9 => absurd c9 (by decide))
    refine lv_aload_n hx hb dX10_canSplit_32 rfl (lv_at hl 0 rfl) ?_
    refine va_get (D := D) (ci := 11) (v := .int 2) (C := RX10) (T := TX10) (N := 39) hx hb hts inX10 hown hK hP 1 rfl rfl 8 (by decide) (hts (.fieldLink RX10 80 "EscrowDeskModel" "thrown" "I") (by decide +kernel)) (fun _ h9 => h9) rfl dX10_canSplit_33 ?_
    refine lv_if_ne (tgt := 43) hx hb dX10_canSplit_36 (by decide) (fun c8 => ?_) (fun c9 => absurd c9 (by decide))
    refine lv_iconst (v := 0) hx hb dX10_canSplit_43 (by decide) ?_
    obtain ⟨hP9, hD9⟩ := PDq.sub (ws' := [(oX10 w0 v0 v1 v2 v3 v4 g5 g6 (nI ed) 2 v9 (nI nb) g11 g12 v13 g14 g15 g16 g17 g18 g19 g20 g21 g22 g23 g24 g25 g26 v27 v28 v29 v30 v31 v32 v33 v34 v35 v36 v37 (nI ol)), (v0, .inl (cA 0, 326, .inl fs))]) hP hD [1, 0] (by decide) rfl
    refine W.widen (k := 0) (n := 0) (Nat.le_of_ble_eq_true rfl) (Nat.le_of_ble_eq_true rfl) ?_
    exact (W.zret (v := 0) hx hb hr (by first | rfl | decide) (fun t ht hW => ⟨⟨0, (), rfl, Or.inr rfl, 2, by rw [ht]; exact hP9, hD9⟩, hS.F ht⟩) hS.2.2 dX10_canSplit_44)
  · skip
    subst hr9
    refine lv_iload_n hx hb dX10_canSplit_6 rfl (lv_at hl 2 rfl) ?_
    obtain ⟨hPc, hDc, hFc⟩ := PDq.cut (wc := [(oX10 w0 v0 v1 v2 v3 v4 g5 g6 (nI ed) g8 v9 (nI nb) g11 g12 v13 g14 g15 g16 g17 g18 g19 g20 g21 g22 g23 g24 g25 g26 v27 v28 v29 v30 v31 v32 v33 v34 v35 v36 v37 (nI ol))]) hP hD hS hA [0] (by decide) rfl
    refine va_calli (va_runV (As := [.int 0, .int 0]) (rest := []) ⟨hx, hb, hml, hown, hts⟩ (r_good_00 l D cA sa w0 ed nb ol v0 v1 v2 v3 v4 v9 v13 v27 v28 v29 v30 v31 v32 v33 v34 v35 v36 v37 g8 g11 g12 g14 g15 g16 g17 g18 g19 g20 g21 g22 g23 g24 g26 g5 g6 g25 H.size) (cwV 2 hts gX10_canSplit_X10_good_ rfl rfl rfl (by decide +kernel) ⟨(Nat.le_of_ble_eq_true rfl), (Nat.le_of_ble_eq_true rfl)⟩) ⟨Wd.blind, va_recv hK hPc (ci := 11) (q0 := 0) rfl rfl, fun U hU hW => ⟨rfl, Wd.call hPc hDc hK hC hZ hS hFc U hU hW⟩⟩ rfl rfl hl.1 rfl (lv_room (Nat.le_of_ble_eq_true rfl)) dX10_canSplit_7 ⟨(Nat.le_of_ble_eq_true rfl), (Nat.le_of_ble_eq_true rfl)⟩) hS (fun q _ h => hFc q h) hFc (fun rn9 u t H1 locs ht hvm hw hB hz1 hk1 hS => ?_)
    obtain ⟨hP1, hD1⟩ := hB
    rw [ht] at hP1
    obtain ⟨hP, hD⟩ := PDq.join (w := [(v0, .inl (cA 0, 326, .inl fs)), (oX10 w0 v0 v1 v2 v3 v4 g5 g6 (nI ed) 1 v9 (nI nb) g11 g12 v13 g14 g15 g16 g17 g18 g19 g20 g21 g22 g23 g24 g25 g26 v27 v28 v29 v30 v31 v32 v33 v34 v35 v36 v37 (nI ol))]) 1 hP hD [0] [1] rfl rfl (by decide) (by decide) hk1 hFc hP1 hD1 rfl
    generalize H1 = H at hP hS ⊢
    obtain rfl : rn9 = 0 := hw
    refine lv_if_eq (tgt := 32) hx hb dX10_canSplit_10 (by decide) (fun c10 => ?_) (fun c9 => absurd c9 (by decide))
    refine lv_aload_n hx hb dX10_canSplit_32 rfl (lv_at hl 0 rfl) ?_
    refine va_get (D := D) (ci := 11) (v := .int 1) (C := RX10) (T := TX10) (N := 39) hx hb hts inX10 hown hK hP 1 rfl rfl 8 (by decide) (hts (.fieldLink RX10 80 "EscrowDeskModel" "thrown" "I") (by decide +kernel)) (fun _ h9 => h9) rfl dX10_canSplit_33 ?_
    refine lv_if_ne (tgt := 43) hx hb dX10_canSplit_36 (by decide) (fun c11 => ?_) (fun c9 => absurd c9 (by decide))
    refine lv_iconst (v := 0) hx hb dX10_canSplit_43 (by decide) ?_
    obtain ⟨hP9, hD9⟩ := PDq.sub (ws' := [(oX10 w0 v0 v1 v2 v3 v4 g5 g6 (nI ed) 1 v9 (nI nb) g11 g12 v13 g14 g15 g16 g17 g18 g19 g20 g21 g22 g23 g24 g25 g26 v27 v28 v29 v30 v31 v32 v33 v34 v35 v36 v37 (nI ol)), (v0, .inl (cA 0, 326, .inl fs))]) hP hD [1, 0] (by decide) rfl
    refine W.widen (k := 0) (n := 0) (Nat.le_of_ble_eq_true rfl) (Nat.le_of_ble_eq_true rfl) ?_
    exact (W.zret (v := 0) hx hb hr (by first | rfl | decide) (fun t ht hW => ⟨⟨0, (), rfl, Or.inr rfl, 1, by rw [ht]; exact hP9, hD9⟩, hS.F ht⟩) hS.2.2 dX10_canSplit_44)

set_option maxHeartbeats 4000000 in
set_option maxRecDepth 100000 in
/-- reference: canSplit -/
theorem r_canSplit1 (l : Launch) (D : va_G) (cA : Nat → ClassId) (sa : Nat → Nat) (w0 : Nat) (ed : Nat) (nb : Nat) (ol : Nat) (v0 : Nat) (v1 : Nat) (v2 : Nat) (v3 : Nat) (v4 : Nat) (v9 : Nat) (v13 : Nat) (v27 : Nat) (v28 : Nat) (v29 : Nat) (v30 : Nat) (v31 : Nat) (v32 : Nat) (v33 : Nat) (v34 : Nat) (v35 : Nat) (v36 : Nat) (v37 : Nat) (g8 : Int32) (g11 : Int32) (g12 : Int32) (g14 : Int32) (g15 : Int32) (g16 : Int32) (g17 : Int32) (g18 : Int32) (g19 : Int32) (g20 : Int32) (g21 : Int32) (g22 : Int32) (g23 : Int32) (g24 : Int32) (g26 : Int32) (g5 : Int64) (g6 : Int64) (g25 : Int64) (cn : Nat) (pq : Nat) (en : Nat) (dy : Nat) (fs : Nat → Int32) (i : Int32) (sz : Nat) (hcn : cn ≤ 10) (hpq : pq ≤ 8) (hen : en ≤ 60) (hdy : dy ≤ 20000) (hri : RI cn pq en dy fs) : Met l yX10_canSplit wsX10_canSplit ({ frames := 2, cells := 0, slots := 0, locals := 46 }) (va_Pc [.ref w0, .int i, .int 1] (Wd D cA sa [(oX10 w0 v0 v1 v2 v3 v4 g5 g6 (nI ed) g8 v9 (nI nb) g11 g12 v13 g14 g15 g16 g17 g18 g19 g20 g21 g22 g23 g24 g25 g26 v27 v28 v29 v30 v31 v32 v33 v34 v35 v36 v37 (nI ol)), (v0, .inl (cA 0, 326, .inl fs))] sz)) (va_Qi (fun (r : Int32) (_ : Unit) => (r = 1 ∧ ∃ n, n < cn ∧ i = nI n) ∨ r = 0) (fun (_ : Unit) t => ∃ zt : Int32, Wq D (va_A [(oX10 w0 v0 v1 v2 v3 v4 g5 g6 (nI ed) g8 v9 (nI nb) g11 g12 v13 g14 g15 g16 g17 g18 g19 g20 g21 g22 g23 g24 g25 g26 v27 v28 v29 v30 v31 v32 v33 v34 v35 v36 v37 (nI ol)), (v0, .inl (cA 0, 326, .inl fs))] sz) [(oX10 w0 v0 v1 v2 v3 v4 g5 g6 (nI ed) zt v9 (nI nb) g11 g12 v13 g14 g15 g16 g17 g18 g19 g20 g21 g22 g23 g24 g25 g26 v27 v28 v29 v30 v31 v32 v33 v34 v35 v36 v37 (nI ol)), (v0, .inl (cA 0, 326, .inl fs))] t) (va_A [(oX10 w0 v0 v1 v2 v3 v4 g5 g6 (nI ed) g8 v9 (nI nb) g11 g12 v13 g14 g15 g16 g17 g18 g19 g20 g21 g22 g23 g24 g25 g26 v27 v28 v29 v30 v31 v32 v33 v34 v35 v36 v37 (nI ol)), (v0, .inl (cA 0, 326, .inl fs))] sz)) 0 0 (va_A [(oX10 w0 v0 v1 v2 v3 v4 g5 g6 (nI ed) g8 v9 (nI nb) g11 g12 v13 g14 g15 g16 g17 g18 g19 g20 g21 g22 g23 g24 g25 g26 v27 v28 v29 v30 v31 v32 v33 v34 v35 v36 v37 (nI ol)), (v0, .inl (cA 0, 326, .inl fs))] sz) := by
  refine Met.ofW (cc := cX10_canSplit) (maxL := 3) (ret := (some .boolean)) (by decide) rfl ?_
  intro p e s m args below meth c s₁ B hml hv
  obtain ⟨rfl, hsz, hP, hK, hD0, hC, hZ⟩ := hv
  have hx := B.exec
  have hb := B.bytes
  have hr := B.returns
  have hts := atoms_spec (ws := wsX10_canSplit) B.pre
  have hown : s.vm.findClass RX10 = some m.cls := findClass_of_methodNamed B.named
  have hlocks := B.notSynchronized
  subst hsz
  have hD := hD0.self (sz := s.heap.size)
  generalize hAe : va_A [(oX10 w0 v0 v1 v2 v3 v4 g5 g6 (nI ed) g8 v9 (nI nb) g11 g12 v13 g14 g15 g16 g17 g18 g19 g20 g21 g22 g23 g24 g25 g26 v27 v28 v29 v30 v31 v32 v33 v34 v35 v36 v37 (nI ol)), (v0, .inl (cA 0, 326, .inl fs))] s.heap.size = A at hD hZ ⊢
  have hA : ∀ q : Nat, s.heap.size ≤ q → A q := fun q h => by rw [← hAe]; exact Or.inr h
  have hS : va_S A s.heap s.heap [] := va_S.rf
  have hP : va_P D vwCl [(oX10 w0 v0 v1 v2 v3 v4 g5 g6 (nI ed) g8 v9 (nI nb) g11 g12 v13 g14 g15 g16 g17 g18 g19 g20 g21 g22 g23 g24 g25 g26 v27 v28 v29 v30 v31 v32 v33 v34 v35 v36 v37 (nI ol)), (v0, .inl (cA 0, 326, .inl fs))] s.heap := hP
  have hl := lv_entry ([.ref w0, .int i, .int 1]) (n := 3) (Nat.le_of_ble_eq_true rfl)
  rw [lg_entry_eq]
  generalize (lg_sl ([.ref w0, .int i, .int 1]) ++ List.replicate (3 - (lg_sl ([.ref w0, .int i, .int 1])).length) Slot.unset).toArray = ls at hl ⊢
  have hl : lv_has ls 3 [(0, .ref w0), (1, .int i), (2, .int 1)] := hl
  have inX10 : ∀ w ∈ u_ws RX10 TX10 39, w ∈ wsX10_canSplit := by decide +kernel
  refine lv_aload_n hx hb dX10_canSplit_0 rfl (lv_at hl 0 rfl) ?_
  refine lv_aload_n hx hb dX10_canSplit_1 rfl (lv_at hl 0 rfl) ?_
  refine lv_iload_n hx hb dX10_canSplit_2 rfl (lv_at hl 1 rfl) ?_
  obtain ⟨hPc, hDc, hFc⟩ := PDq.cut (wc := [(oX10 w0 v0 v1 v2 v3 v4 g5 g6 (nI ed) g8 v9 (nI nb) g11 g12 v13 g14 g15 g16 g17 g18 g19 g20 g21 g22 g23 g24 g25 g26 v27 v28 v29 v30 v31 v32 v33 v34 v35 v36 v37 (nI ol)), (v0, .inl (cA 0, 326, .inl fs))]) hP hD hS hA [0, 1] (by decide) rfl
  refine va_calli (va_runV (As := [.int i]) (rest := [.ref w0]) ⟨hx, hb, hml, hown, hts⟩ (r_isMilestone l D cA sa w0 ed nb ol v0 v1 v2 v3 v4 v9 v13 v27 v28 v29 v30 v31 v32 v33 v34 v35 v36 v37 g8 g11 g12 g14 g15 g16 g17 g18 g19 g20 g21 g22 g23 g24 g26 g5 g6 g25 cn pq en dy fs i s.heap.size hcn hpq hen hdy hri) (cwV 1 hts gX10_canSplit_X10_isMilestone rfl rfl rfl (by decide +kernel) ⟨(Nat.le_of_ble_eq_true rfl), (Nat.le_of_ble_eq_true rfl)⟩) ⟨Wd.blind, va_recv hK hPc (ci := 11) (q0 := 0) rfl rfl, fun U hU hW => ⟨rfl, Wd.call hPc hDc hK hC hZ hS hFc U hU hW⟩⟩ rfl rfl hl.1 rfl (lv_room (Nat.le_of_ble_eq_true rfl)) dX10_canSplit_3 ⟨(Nat.le_of_ble_eq_true rfl), (Nat.le_of_ble_eq_true rfl)⟩) hS (fun q _ h => hFc q h) hFc (fun rn1 u t H1 locs ht hvm hw hB hz1 hk1 hS => ?_)
  obtain ⟨hP1, hD1⟩ := hB
  rw [ht] at hP1
  obtain ⟨hP, hD⟩ := PDq.join (w := [(oX10 w0 v0 v1 v2 v3 v4 g5 g6 (nI ed) g8 v9 (nI nb) g11 g12 v13 g14 g15 g16 g17 g18 g19 g20 g21 g22 g23 g24 g25 g26 v27 v28 v29 v30 v31 v32 v33 v34 v35 v36 v37 (nI ol)), (v0, .inl (cA 0, 326, .inl fs))]) 0 hP hD [0, 1] [] rfl rfl (by decide) (by decide) hk1 hFc hP1 hD1 rfl
  generalize H1 = H at hP hS ⊢
  rcases hw with ⟨hr9, hn2⟩ | hr9
  · skip
    subst hr9
    obtain ⟨kn3, hn4, hn5⟩ := hn2
    rw [hn5] at hl
    have hl : lv_has ls 3 [(0, .ref w0), (1, .int (nI kn3)), (2, .int 1)] := hl
    refine lv_iload_n hx hb dX10_canSplit_6 rfl (lv_at hl 2 rfl) ?_
    obtain ⟨hPc, hDc, hFc⟩ := PDq.cut (wc := [(oX10 w0 v0 v1 v2 v3 v4 g5 g6 (nI ed) g8 v9 (nI nb) g11 g12 v13 g14 g15 g16 g17 g18 g19 g20 g21 g22 g23 g24 g25 g26 v27 v28 v29 v30 v31 v32 v33 v34 v35 v36 v37 (nI ol))]) hP hD hS hA [0] (by decide) rfl
    refine va_calli (va_runV (As := [.int 1, .int 1]) (rest := []) ⟨hx, hb, hml, hown, hts⟩ (r_good_11 l D cA sa w0 ed nb ol v0 v1 v2 v3 v4 v9 v13 v27 v28 v29 v30 v31 v32 v33 v34 v35 v36 v37 g8 g11 g12 g14 g15 g16 g17 g18 g19 g20 g21 g22 g23 g24 g26 g5 g6 g25 H.size) (cwV 2 hts gX10_canSplit_X10_good_ rfl rfl rfl (by decide +kernel) ⟨(Nat.le_of_ble_eq_true rfl), (Nat.le_of_ble_eq_true rfl)⟩) ⟨Wd.blind, va_recv hK hPc (ci := 11) (q0 := 0) rfl rfl, fun U hU hW => ⟨rfl, Wd.call hPc hDc hK hC hZ hS hFc U hU hW⟩⟩ rfl rfl hl.1 rfl (lv_room (Nat.le_of_ble_eq_true rfl)) dX10_canSplit_7 ⟨(Nat.le_of_ble_eq_true rfl), (Nat.le_of_ble_eq_true rfl)⟩) hS (fun q _ h => hFc q h) hFc (fun rn6 u t H1 locs ht hvm hw hB hz1 hk1 hS => ?_)
    obtain ⟨hP1, hD1⟩ := hB
    rw [ht] at hP1
    obtain ⟨hP, hD⟩ := PDq.join (w := [(v0, .inl (cA 0, 326, .inl fs)), (oX10 w0 v0 v1 v2 v3 v4 g5 g6 (nI ed) 0 v9 (nI nb) g11 g12 v13 g14 g15 g16 g17 g18 g19 g20 g21 g22 g23 g24 g25 g26 v27 v28 v29 v30 v31 v32 v33 v34 v35 v36 v37 (nI ol))]) 1 hP hD [0] [1] rfl rfl (by decide) (by decide) hk1 hFc hP1 hD1 rfl
    generalize H1 = H at hP hS ⊢
    obtain rfl : rn6 = 1 := hw
    refine lv_if_eq (tgt := 32) hx hb dX10_canSplit_10 (by decide) (fun c9 => absurd c9 (by decide)) (fun c7 => ?_)
    refine lv_aload_n hx hb dX10_canSplit_13 rfl (lv_at hl 0 rfl) ?_
    refine lv_aload_n hx hb dX10_canSplit_14 rfl (lv_at hl 0 rfl) ?_
    refine lv_iload_n hx hb dX10_canSplit_15 rfl (lv_at hl 1 rfl) ?_
    refine lv_iconst (v := 2) hx hb dX10_canSplit_16 (by decide) ?_
    obtain ⟨hPc, hDc, hFc⟩ := PDq.cut (wc := [(oX10 w0 v0 v1 v2 v3 v4 g5 g6 (nI ed) 0 v9 (nI nb) g11 g12 v13 g14 g15 g16 g17 g18 g19 g20 g21 g22 g23 g24 g25 g26 v27 v28 v29 v30 v31 v32 v33 v34 v35 v36 v37 (nI ol)), (v0, .inl (cA 0, 326, .inl fs))]) hP hD hS hA [1, 0] (by decide) rfl
    refine va_calli (va_runV (As := [.int (nI kn3), .int 2]) (rest := [.ref w0]) ⟨hx, hb, hml, hown, hts⟩ (r_of l D cA sa w0 ed nb ol v0 v1 v2 v3 v4 v9 v13 v27 v28 v29 v30 v31 v32 v33 v34 v35 v36 v37 0 g11 g12 g14 g15 g16 g17 g18 g19 g20 g21 g22 g23 g24 g26 g5 g6 g25 fs kn3 2 H.size (by omega) (by omega)) (cwV 2 hts gX10_canSplit_X10_of rfl rfl rfl (by decide +kernel) ⟨(Nat.le_of_ble_eq_true rfl), (Nat.le_of_ble_eq_true rfl)⟩) ⟨Wd.blind, va_recv hK hPc (ci := 11) (q0 := 0) rfl rfl, fun U hU hW => ⟨rfl, Wd.call hPc hDc hK hC hZ hS hFc U hU hW⟩⟩ rfl rfl hl.1 rfl (lv_room (Nat.le_of_ble_eq_true rfl)) dX10_canSplit_17 ⟨(Nat.le_of_ble_eq_true rfl), (Nat.le_of_ble_eq_true rfl)⟩) hS (fun q _ h => hFc q h) hFc (fun rn8 u t H1 locs ht hvm hw hB hz1 hk1 hS => ?_)
    obtain ⟨hP1, hD1⟩ := hB
    rw [ht] at hP1
    obtain ⟨hP, hD⟩ := PDq.join (w := [(oX10 w0 v0 v1 v2 v3 v4 g5 g6 (nI ed) 0 v9 (nI nb) g11 g12 v13 g14 g15 g16 g17 g18 g19 g20 g21 g22 g23 g24 g25 g26 v27 v28 v29 v30 v31 v32 v33 v34 v35 v36 v37 (nI ol)), (v0, .inl (cA 0, 326, .inl fs))]) 0 hP hD [1, 0] [] rfl rfl (by decide) (by decide) hk1 hFc hP1 hD1 rfl
    generalize H1 = H at hP hS ⊢
    obtain rfl : rn8 = (fs (16 + 7 * kn3 + 2)) := hw
    refine lv_iconst (v := 2) hx hb dX10_canSplit_20 (by decide) ?_
    refine lv_icmp_ne (tgt := 28) hx hb dX10_canSplit_21 (by decide) (fun c9 => ?_) (fun c9 => ?_)
    · skip
      refine lv_iconst (v := 3) hx hb dX10_canSplit_28 (by decide) ?_
      refine va_put (D := D) (ci := 11) (v := .int 3) (ty := .int) (C := RX10) (T := TX10) (N := 39) hx hb hts inX10 tyX10 tyX10_ok nmX10 hown hK hP hD hS 0 rfl rfl 8 (by decide) (hts (.fieldLink RX10 80 "EscrowDeskModel" "thrown" "I") (by decide +kernel)) (fun _ h9 => h9) rfl (by decide +kernel) rfl rfl (Nat.le_of_ble_eq_true rfl) dX10_canSplit_29 (fun H locs hP hD hS => ?_)
      obtain ⟨hP, hD⟩ : PDq D A [(oX10 w0 v0 v1 v2 v3 v4 g5 g6 (nI ed) 3 v9 (nI nb) g11 g12 v13 g14 g15 g16 g17 g18 g19 g20 g21 g22 g23 g24 g25 g26 v27 v28 v29 v30 v31 v32 v33 v34 v35 v36 v37 (nI ol)), (v0, .inl (cA 0, 326, .inl fs))] H := ⟨hP, hD⟩
      refine lv_aload_n hx hb dX10_canSplit_32 rfl (lv_at hl 0 rfl) ?_
      refine va_get (D := D) (ci := 11) (v := .int 3) (C := RX10) (T := TX10) (N := 39) hx hb hts inX10 hown hK hP 0 rfl rfl 8 (by decide) (hts (.fieldLink RX10 80 "EscrowDeskModel" "thrown" "I") (by decide +kernel)) (fun _ h9 => h9) rfl dX10_canSplit_33 ?_
      refine lv_if_ne (tgt := 43) hx hb dX10_canSplit_36 (by decide) (fun c10 => ?_) (fun c9 => absurd c9 (by decide))
      refine lv_iconst (v := 0) hx hb dX10_canSplit_43 (by decide) ?_
      obtain ⟨hP9, hD9⟩ := PDq.sub (ws' := [(oX10 w0 v0 v1 v2 v3 v4 g5 g6 (nI ed) 3 v9 (nI nb) g11 g12 v13 g14 g15 g16 g17 g18 g19 g20 g21 g22 g23 g24 g25 g26 v27 v28 v29 v30 v31 v32 v33 v34 v35 v36 v37 (nI ol)), (v0, .inl (cA 0, 326, .inl fs))]) hP hD [0, 1] (by decide) rfl
      refine W.widen (k := 0) (n := 0) (Nat.le_of_ble_eq_true rfl) (Nat.le_of_ble_eq_true rfl) ?_
      exact (W.zret (v := 0) hx hb hr (by first | rfl | decide) (fun t ht hW => ⟨⟨0, (), rfl, Or.inr rfl, 3, by rw [ht]; exact hP9, hD9⟩, hS.F ht⟩) hS.2.2 dX10_canSplit_44)
    · skip
      refine lv_iconst (v := 0) hx hb dX10_canSplit_24 (by decide) ?_
      refine lv_goto (tgt := 29) hx hb dX10_canSplit_25 (by decide) ?_
      refine va_put (D := D) (ci := 11) (v := .int 0) (ty := .int) (C := RX10) (T := TX10) (N := 39) hx hb hts inX10 tyX10 tyX10_ok nmX10 hown hK hP hD hS 0 rfl rfl 8 (by decide) (hts (.fieldLink RX10 80 "EscrowDeskModel" "thrown" "I") (by decide +kernel)) (fun _ h9 => h9) rfl (by decide +kernel) rfl rfl (Nat.le_of_ble_eq_true rfl) dX10_canSplit_29 (fun H locs hP hD hS => ?_)
      obtain ⟨hP, hD⟩ : PDq D A [(oX10 w0 v0 v1 v2 v3 v4 g5 g6 (nI ed) 0 v9 (nI nb) g11 g12 v13 g14 g15 g16 g17 g18 g19 g20 g21 g22 g23 g24 g25 g26 v27 v28 v29 v30 v31 v32 v33 v34 v35 v36 v37 (nI ol)), (v0, .inl (cA 0, 326, .inl fs))] H := ⟨hP, hD⟩
      refine lv_aload_n hx hb dX10_canSplit_32 rfl (lv_at hl 0 rfl) ?_
      refine va_get (D := D) (ci := 11) (v := .int 0) (C := RX10) (T := TX10) (N := 39) hx hb hts inX10 hown hK hP 0 rfl rfl 8 (by decide) (hts (.fieldLink RX10 80 "EscrowDeskModel" "thrown" "I") (by decide +kernel)) (fun _ h9 => h9) rfl dX10_canSplit_33 ?_
      refine lv_if_ne (tgt := 43) hx hb dX10_canSplit_36 (by decide) (fun c9 => absurd c9 (by decide)) (fun c11 => ?_)
      refine lv_iconst (v := 1) hx hb dX10_canSplit_39 (by decide) ?_
      refine lv_goto (tgt := 44) hx hb dX10_canSplit_40 (by decide) ?_
      obtain ⟨hP9, hD9⟩ := PDq.sub (ws' := [(oX10 w0 v0 v1 v2 v3 v4 g5 g6 (nI ed) 0 v9 (nI nb) g11 g12 v13 g14 g15 g16 g17 g18 g19 g20 g21 g22 g23 g24 g25 g26 v27 v28 v29 v30 v31 v32 v33 v34 v35 v36 v37 (nI ol)), (v0, .inl (cA 0, 326, .inl fs))]) hP hD [0, 1] (by decide) rfl
      refine W.widen (k := 0) (n := 0) (Nat.le_of_ble_eq_true rfl) (Nat.le_of_ble_eq_true rfl) ?_
      exact (W.zret (v := 1) hx hb hr (by first | rfl | decide) (fun t ht hW => ⟨⟨1, (), rfl, Or.inl ⟨rfl, ⟨kn3, by omega, hn5⟩⟩, 0, by rw [ht]; exact hP9, hD9⟩, hS.F ht⟩) hS.2.2 dX10_canSplit_44)
  · skip
    subst hr9
    refine lv_iload_n hx hb dX10_canSplit_6 rfl (lv_at hl 2 rfl) ?_
    obtain ⟨hPc, hDc, hFc⟩ := PDq.cut (wc := [(oX10 w0 v0 v1 v2 v3 v4 g5 g6 (nI ed) g8 v9 (nI nb) g11 g12 v13 g14 g15 g16 g17 g18 g19 g20 g21 g22 g23 g24 g25 g26 v27 v28 v29 v30 v31 v32 v33 v34 v35 v36 v37 (nI ol))]) hP hD hS hA [0] (by decide) rfl
    refine va_calli (va_runV (As := [.int 0, .int 1]) (rest := []) ⟨hx, hb, hml, hown, hts⟩ (r_good_01 l D cA sa w0 ed nb ol v0 v1 v2 v3 v4 v9 v13 v27 v28 v29 v30 v31 v32 v33 v34 v35 v36 v37 g8 g11 g12 g14 g15 g16 g17 g18 g19 g20 g21 g22 g23 g24 g26 g5 g6 g25 H.size) (cwV 2 hts gX10_canSplit_X10_good_ rfl rfl rfl (by decide +kernel) ⟨(Nat.le_of_ble_eq_true rfl), (Nat.le_of_ble_eq_true rfl)⟩) ⟨Wd.blind, va_recv hK hPc (ci := 11) (q0 := 0) rfl rfl, fun U hU hW => ⟨rfl, Wd.call hPc hDc hK hC hZ hS hFc U hU hW⟩⟩ rfl rfl hl.1 rfl (lv_room (Nat.le_of_ble_eq_true rfl)) dX10_canSplit_7 ⟨(Nat.le_of_ble_eq_true rfl), (Nat.le_of_ble_eq_true rfl)⟩) hS (fun q _ h => hFc q h) hFc (fun rn12 u t H1 locs ht hvm hw hB hz1 hk1 hS => ?_)
    obtain ⟨hP1, hD1⟩ := hB
    rw [ht] at hP1
    obtain ⟨hP, hD⟩ := PDq.join (w := [(v0, .inl (cA 0, 326, .inl fs)), (oX10 w0 v0 v1 v2 v3 v4 g5 g6 (nI ed) 1 v9 (nI nb) g11 g12 v13 g14 g15 g16 g17 g18 g19 g20 g21 g22 g23 g24 g25 g26 v27 v28 v29 v30 v31 v32 v33 v34 v35 v36 v37 (nI ol))]) 1 hP hD [0] [1] rfl rfl (by decide) (by decide) hk1 hFc hP1 hD1 rfl
    generalize H1 = H at hP hS ⊢
    obtain rfl : rn12 = 0 := hw
    refine lv_if_eq (tgt := 32) hx hb dX10_canSplit_10 (by decide) (fun c13 => ?_) (fun c9 => absurd c9 (by decide))
    refine lv_aload_n hx hb dX10_canSplit_32 rfl (lv_at hl 0 rfl) ?_
    refine va_get (D := D) (ci := 11) (v := .int 1) (C := RX10) (T := TX10) (N := 39) hx hb hts inX10 hown hK hP 1 rfl rfl 8 (by decide) (hts (.fieldLink RX10 80 "EscrowDeskModel" "thrown" "I") (by decide +kernel)) (fun _ h9 => h9) rfl dX10_canSplit_33 ?_
    refine lv_if_ne (tgt := 43) hx hb dX10_canSplit_36 (by decide) (fun c14 => ?_) (fun c9 => absurd c9 (by decide))
    refine lv_iconst (v := 0) hx hb dX10_canSplit_43 (by decide) ?_
    obtain ⟨hP9, hD9⟩ := PDq.sub (ws' := [(oX10 w0 v0 v1 v2 v3 v4 g5 g6 (nI ed) 1 v9 (nI nb) g11 g12 v13 g14 g15 g16 g17 g18 g19 g20 g21 g22 g23 g24 g25 g26 v27 v28 v29 v30 v31 v32 v33 v34 v35 v36 v37 (nI ol)), (v0, .inl (cA 0, 326, .inl fs))]) hP hD [1, 0] (by decide) rfl
    refine W.widen (k := 0) (n := 0) (Nat.le_of_ble_eq_true rfl) (Nat.le_of_ble_eq_true rfl) ?_
    exact (W.zret (v := 0) hx hb hr (by first | rfl | decide) (fun t ht hW => ⟨⟨0, (), rfl, Or.inr rfl, 1, by rw [ht]; exact hP9, hD9⟩, hS.F ht⟩) hS.2.2 dX10_canSplit_44)

set_option maxHeartbeats 4000000 in
set_option maxRecDepth 100000 in
/-- reference: splitPayment -/
theorem r_splitPayment (l : Launch) (D : va_G) (cA : Nat → ClassId) (sa : Nat → Nat) (w0 : Nat) (ed : Nat) (nb : Nat) (ol : Nat) (v0 : Nat) (v1 : Nat) (v2 : Nat) (v3 : Nat) (v4 : Nat) (v9 : Nat) (v13 : Nat) (v27 : Nat) (v28 : Nat) (v29 : Nat) (v30 : Nat) (v31 : Nat) (v32 : Nat) (v33 : Nat) (v34 : Nat) (v35 : Nat) (v36 : Nat) (v37 : Nat) (g8 : Int32) (g11 : Int32) (g12 : Int32) (g14 : Int32) (g15 : Int32) (g16 : Int32) (g17 : Int32) (g18 : Int32) (g19 : Int32) (g20 : Int32) (g21 : Int32) (g22 : Int32) (g23 : Int32) (g24 : Int32) (g26 : Int32) (g5 : Int64) (g6 : Int64) (g25 : Int64) (cn : Nat) (pq : Nat) (en : Nat) (dy : Nat) (fs : Nat → Int32) (i : Int32) (j : Int32) (sz : Nat) (hcn : cn ≤ 10) (hpq : pq ≤ 8) (hen : en ≤ 60) (hdy : dy ≤ 20000) (hri : RI cn pq en dy fs) : Met l yX10_splitPayment wsX10_splitPayment ({ frames := 5, cells := 0, slots := 0, locals := 107 }) (va_Pc [.ref w0, .int i, .int j] (Wd D cA sa [(oX10 w0 v0 v1 v2 v3 v4 g5 g6 (nI ed) g8 v9 (nI nb) g11 g12 v13 g14 g15 g16 g17 g18 g19 g20 g21 g22 g23 g24 g25 g26 v27 v28 v29 v30 v31 v32 v33 v34 v35 v36 v37 (nI ol)), (v0, .inl (cA 0, 326, .inl fs))] sz)) (va_Qi (fun (r : Int32) (_ : Unit) => True) (fun (_ : Unit) t => ∃ zt : Int32, Wq D (va_A [(oX10 w0 v0 v1 v2 v3 v4 g5 g6 (nI ed) g8 v9 (nI nb) g11 g12 v13 g14 g15 g16 g17 g18 g19 g20 g21 g22 g23 g24 g25 g26 v27 v28 v29 v30 v31 v32 v33 v34 v35 v36 v37 (nI ol)), (v0, .inl (cA 0, 326, .inl fs))] sz) [(oX10 w0 v0 v1 v2 v3 v4 g5 g6 (nI ed) zt v9 (nI nb) g11 g12 v13 g14 g15 g16 g17 g18 g19 g20 g21 g22 g23 g24 g25 g26 v27 v28 v29 v30 v31 v32 v33 v34 v35 v36 v37 (nI ol)), (v0, .inl (cA 0, 326, .inl fs))] t) (va_A [(oX10 w0 v0 v1 v2 v3 v4 g5 g6 (nI ed) g8 v9 (nI nb) g11 g12 v13 g14 g15 g16 g17 g18 g19 g20 g21 g22 g23 g24 g25 g26 v27 v28 v29 v30 v31 v32 v33 v34 v35 v36 v37 (nI ol)), (v0, .inl (cA 0, 326, .inl fs))] sz)) 0 0 (va_A [(oX10 w0 v0 v1 v2 v3 v4 g5 g6 (nI ed) g8 v9 (nI nb) g11 g12 v13 g14 g15 g16 g17 g18 g19 g20 g21 g22 g23 g24 g25 g26 v27 v28 v29 v30 v31 v32 v33 v34 v35 v36 v37 (nI ol)), (v0, .inl (cA 0, 326, .inl fs))] sz) := by
  refine Met.ofW (cc := cX10_splitPayment) (maxL := 3) (ret := (some .int)) (by decide) rfl ?_
  intro p e s m args below meth c s₁ B hml hv
  obtain ⟨rfl, hsz, hP, hK, hD0, hC, hZ⟩ := hv
  have hx := B.exec
  have hb := B.bytes
  have hr := B.returns
  have hts := atoms_spec (ws := wsX10_splitPayment) B.pre
  have hown : s.vm.findClass RX10 = some m.cls := findClass_of_methodNamed B.named
  have hlocks := B.notSynchronized
  subst hsz
  have hD := hD0.self (sz := s.heap.size)
  generalize hAe : va_A [(oX10 w0 v0 v1 v2 v3 v4 g5 g6 (nI ed) g8 v9 (nI nb) g11 g12 v13 g14 g15 g16 g17 g18 g19 g20 g21 g22 g23 g24 g25 g26 v27 v28 v29 v30 v31 v32 v33 v34 v35 v36 v37 (nI ol)), (v0, .inl (cA 0, 326, .inl fs))] s.heap.size = A at hD hZ ⊢
  have hA : ∀ q : Nat, s.heap.size ≤ q → A q := fun q h => by rw [← hAe]; exact Or.inr h
  have hS : va_S A s.heap s.heap [] := va_S.rf
  have hP : va_P D vwCl [(oX10 w0 v0 v1 v2 v3 v4 g5 g6 (nI ed) g8 v9 (nI nb) g11 g12 v13 g14 g15 g16 g17 g18 g19 g20 g21 g22 g23 g24 g25 g26 v27 v28 v29 v30 v31 v32 v33 v34 v35 v36 v37 (nI ol)), (v0, .inl (cA 0, 326, .inl fs))] s.heap := hP
  have hl := lv_entry ([.ref w0, .int i, .int j]) (n := 3) (Nat.le_of_ble_eq_true rfl)
  rw [lg_entry_eq]
  generalize (lg_sl ([.ref w0, .int i, .int j]) ++ List.replicate (3 - (lg_sl ([.ref w0, .int i, .int j])).length) Slot.unset).toArray = ls at hl ⊢
  have hl : lv_has ls 3 [(0, .ref w0), (1, .int i), (2, .int j)] := hl
  refine lv_aload_n hx hb dX10_splitPayment_0 rfl (lv_at hl 0 rfl) ?_
  refine lv_iload_n hx hb dX10_splitPayment_1 rfl (lv_at hl 1 rfl) ?_
  refine lv_iload_n hx hb dX10_splitPayment_2 rfl (lv_at hl 2 rfl) ?_
  obtain ⟨hPc, hDc, hFc⟩ := PDq.cut (wc := []) hP hD hS hA [] (by decide) rfl
  refine va_calli (va_runS (As := [.int j]) (rest := [.int i, .ref w0]) ⟨hx, hb, hml, hown, hts⟩ (r_isShare l D cA sa j s.heap.size) (va_cwS 1 hts gX10_splitPayment_X10_isShare rfl rfl rfl (by decide +kernel) ⟨(Nat.le_of_ble_eq_true rfl), (Nat.le_of_ble_eq_true rfl)⟩) ⟨Wd.blind, fun U hU hW => ⟨rfl, Wd.call hPc hDc hK hC hZ hS hFc U hU hW⟩⟩ rfl rfl hl.1 rfl (lv_room (Nat.le_of_ble_eq_true rfl)) dX10_splitPayment_3 ⟨(Nat.le_of_ble_eq_true rfl), (Nat.le_of_ble_eq_true rfl)⟩) hS (fun q _ h => hFc q h) hFc (fun rn1 u t H1 locs ht hvm hw hB hz1 hk1 hS => ?_)
  obtain ⟨hP1, hD1⟩ := hB
  rw [ht] at hP1
  obtain ⟨hP, hD⟩ := PDq.join (w := [(oX10 w0 v0 v1 v2 v3 v4 g5 g6 (nI ed) g8 v9 (nI nb) g11 g12 v13 g14 g15 g16 g17 g18 g19 g20 g21 g22 g23 g24 g25 g26 v27 v28 v29 v30 v31 v32 v33 v34 v35 v36 v37 (nI ol)), (v0, .inl (cA 0, 326, .inl fs))]) 2 hP hD [] [0, 1] rfl rfl (by decide) (by decide) hk1 hFc hP1 hD1 rfl
  generalize H1 = H at hP hS ⊢
  rcases hw with ⟨hr9, hn2⟩ | hr9
  · skip
    subst hr9
    obtain ⟨kn3, hn4, hn5, hn6⟩ := hn2
    rw [hn6] at hl
    have hl : lv_has ls 3 [(0, .ref w0), (1, .int i), (2, .int (nI kn3))] := hl
    obtain ⟨hPc, hDc, hFc⟩ := PDq.cut (wc := [(oX10 w0 v0 v1 v2 v3 v4 g5 g6 (nI ed) g8 v9 (nI nb) g11 g12 v13 g14 g15 g16 g17 g18 g19 g20 g21 g22 g23 g24 g25 g26 v27 v28 v29 v30 v31 v32 v33 v34 v35 v36 v37 (nI ol)), (v0, .inl (cA 0, 326, .inl fs))]) hP hD hS hA [0, 1] (by decide) rfl
    refine va_calli (va_runV (As := [.int i, .int 1]) (rest := []) ⟨hx, hb, hml, hown, hts⟩ (r_canSplit1 l D cA sa w0 ed nb ol v0 v1 v2 v3 v4 v9 v13 v27 v28 v29 v30 v31 v32 v33 v34 v35 v36 v37 g8 g11 g12 g14 g15 g16 g17 g18 g19 g20 g21 g22 g23 g24 g26 g5 g6 g25 cn pq en dy fs i H.size hcn hpq hen hdy hri) (cwV 2 hts gX10_splitPayment_X10_canSplit rfl rfl rfl (by decide +kernel) ⟨(Nat.le_of_ble_eq_true rfl), (Nat.le_of_ble_eq_true rfl)⟩) ⟨Wd.blind, va_recv hK hPc (ci := 11) (q0 := 0) rfl rfl, fun U hU hW => ⟨rfl, Wd.call hPc hDc hK hC hZ hS hFc U hU hW⟩⟩ rfl rfl hl.1 rfl (lv_room (Nat.le_of_ble_eq_true rfl)) dX10_splitPayment_6 ⟨(Nat.le_of_ble_eq_true rfl), (Nat.le_of_ble_eq_true rfl)⟩) hS (fun q _ h => hFc q h) hFc (fun rn7 u t H1 locs ht hvm hw hB hz1 hk1 hS => ?_)
    obtain ⟨zn8, hP1, hD1⟩ := hB
    rw [ht] at hP1
    obtain ⟨hP, hD⟩ := PDq.join (w := [(oX10 w0 v0 v1 v2 v3 v4 g5 g6 (nI ed) zn8 v9 (nI nb) g11 g12 v13 g14 g15 g16 g17 g18 g19 g20 g21 g22 g23 g24 g25 g26 v27 v28 v29 v30 v31 v32 v33 v34 v35 v36 v37 (nI ol)), (v0, .inl (cA 0, 326, .inl fs))]) 0 hP hD [0, 1] [] rfl rfl (by decide) (by decide) hk1 hFc hP1 hD1 rfl
    generalize H1 = H at hP hS ⊢
    rcases hw with ⟨hr9, hn9⟩ | hr9
    · skip
      subst hr9
      obtain ⟨kn10, hn11, hn12⟩ := hn9
      rw [hn12] at hl
      have hl : lv_has ls 3 [(0, .ref w0), (1, .int (nI kn10)), (2, .int (nI kn3))] := hl
      refine lv_if_eq (tgt := 21) hx hb dX10_splitPayment_9 (by decide) (fun c9 => absurd c9 (by decide)) (fun c13 => ?_)
      refine lv_aload_n hx hb dX10_splitPayment_12 rfl (lv_at hl 0 rfl) ?_
      refine lv_iload_n hx hb dX10_splitPayment_13 rfl (lv_at hl 1 rfl) ?_
      refine lv_iload_n hx hb dX10_splitPayment_14 rfl (lv_at hl 2 rfl) ?_
      obtain ⟨hPc, hDc, hFc⟩ := PDq.cut (wc := [(oX10 w0 v0 v1 v2 v3 v4 g5 g6 (nI ed) zn8 v9 (nI nb) g11 g12 v13 g14 g15 g16 g17 g18 g19 g20 g21 g22 g23 g24 g25 g26 v27 v28 v29 v30 v31 v32 v33 v34 v35 v36 v37 (nI ol)), (v0, .inl (cA 0, 326, .inl fs))]) hP hD hS hA [0, 1] (by decide) rfl
      refine va_calli (va_runV (As := [.int (nI kn10), .int (nI kn3)]) (rest := []) ⟨hx, hb, hml, hown, hts⟩ (r_splitBy l D cA sa w0 ed nb ol v0 v1 v2 v3 v4 v9 v13 v27 v28 v29 v30 v31 v32 v33 v34 v35 v36 v37 zn8 g11 g12 g14 g15 g16 g17 g18 g19 g20 g21 g22 g23 g24 g26 g5 g6 g25 cn pq en dy fs kn10 (nI kn3) H.size hcn hpq hen hdy hri (by omega)) (cwV 2 hts gX10_splitPayment_X10_splitBy rfl rfl rfl (by decide +kernel) ⟨(Nat.le_of_ble_eq_true rfl), (Nat.le_of_ble_eq_true rfl)⟩) ⟨Wd.blind, va_recv hK hPc (ci := 11) (q0 := 0) rfl rfl, fun U hU hW => ⟨rfl, Wd.call hPc hDc hK hC hZ hS hFc U hU hW⟩⟩ rfl rfl hl.1 rfl (lv_room (Nat.le_of_ble_eq_true rfl)) dX10_splitPayment_15 ⟨(Nat.le_of_ble_eq_true rfl), (Nat.le_of_ble_eq_true rfl)⟩) hS (fun q _ h => hFc q h) hFc (fun rn14 u t H1 locs ht hvm hw hB hz1 hk1 hS => ?_)
      obtain ⟨hP1, hD1⟩ := hB
      rw [ht] at hP1
      obtain ⟨hP, hD⟩ := PDq.join (w := [(oX10 w0 v0 v1 v2 v3 v4 g5 g6 (nI ed) zn8 v9 (nI nb) g11 g12 v13 g14 g15 g16 g17 g18 g19 g20 g21 g22 g23 g24 g25 g26 v27 v28 v29 v30 v31 v32 v33 v34 v35 v36 v37 (nI ol)), (v0, .inl (cA 0, 326, .inl fs))]) 0 hP hD [0, 1] [] rfl rfl (by decide) (by decide) hk1 hFc hP1 hD1 rfl
      generalize H1 = H at hP hS ⊢
      refine lv_goto (tgt := 22) hx hb dX10_splitPayment_18 (by decide) ?_
      obtain ⟨hP9, hD9⟩ := PDq.sub (ws' := [(oX10 w0 v0 v1 v2 v3 v4 g5 g6 (nI ed) zn8 v9 (nI nb) g11 g12 v13 g14 g15 g16 g17 g18 g19 g20 g21 g22 g23 g24 g25 g26 v27 v28 v29 v30 v31 v32 v33 v34 v35 v36 v37 (nI ol)), (v0, .inl (cA 0, 326, .inl fs))]) hP hD [0, 1] (by decide) rfl
      refine W.widen (k := 0) (n := 0) (Nat.le_of_ble_eq_true rfl) (Nat.le_of_ble_eq_true rfl) ?_
      exact (W.iret (v := rn14) hx hb hr (fun t ht hW => ⟨⟨rn14, (), rfl, trivial, zn8, by rw [ht]; exact hP9, hD9⟩, hS.F ht⟩) hS.2.2 dX10_splitPayment_22)
    · skip
      subst hr9
      refine lv_if_eq (tgt := 21) hx hb dX10_splitPayment_9 (by decide) (fun c15 => ?_) (fun c9 => absurd c9 (by decide))
      refine lv_iconst (v := 0) hx hb dX10_splitPayment_21 (by decide) ?_
      obtain ⟨hP9, hD9⟩ := PDq.sub (ws' := [(oX10 w0 v0 v1 v2 v3 v4 g5 g6 (nI ed) zn8 v9 (nI nb) g11 g12 v13 g14 g15 g16 g17 g18 g19 g20 g21 g22 g23 g24 g25 g26 v27 v28 v29 v30 v31 v32 v33 v34 v35 v36 v37 (nI ol)), (v0, .inl (cA 0, 326, .inl fs))]) hP hD [0, 1] (by decide) rfl
      refine W.widen (k := 0) (n := 0) (Nat.le_of_ble_eq_true rfl) (Nat.le_of_ble_eq_true rfl) ?_
      exact (W.iret (v := 0) hx hb hr (fun t ht hW => ⟨⟨0, (), rfl, trivial, zn8, by rw [ht]; exact hP9, hD9⟩, hS.F ht⟩) hS.2.2 dX10_splitPayment_22)
  · skip
    subst hr9
    obtain ⟨hPc, hDc, hFc⟩ := PDq.cut (wc := [(oX10 w0 v0 v1 v2 v3 v4 g5 g6 (nI ed) g8 v9 (nI nb) g11 g12 v13 g14 g15 g16 g17 g18 g19 g20 g21 g22 g23 g24 g25 g26 v27 v28 v29 v30 v31 v32 v33 v34 v35 v36 v37 (nI ol)), (v0, .inl (cA 0, 326, .inl fs))]) hP hD hS hA [0, 1] (by decide) rfl
    refine va_calli (va_runV (As := [.int i, .int 0]) (rest := []) ⟨hx, hb, hml, hown, hts⟩ (r_canSplit0 l D cA sa w0 ed nb ol v0 v1 v2 v3 v4 v9 v13 v27 v28 v29 v30 v31 v32 v33 v34 v35 v36 v37 g8 g11 g12 g14 g15 g16 g17 g18 g19 g20 g21 g22 g23 g24 g26 g5 g6 g25 cn pq en dy fs i H.size hcn hpq hen hdy hri) (cwV 2 hts gX10_splitPayment_X10_canSplit rfl rfl rfl (by decide +kernel) ⟨(Nat.le_of_ble_eq_true rfl), (Nat.le_of_ble_eq_true rfl)⟩) ⟨Wd.blind, va_recv hK hPc (ci := 11) (q0 := 0) rfl rfl, fun U hU hW => ⟨rfl, Wd.call hPc hDc hK hC hZ hS hFc U hU hW⟩⟩ rfl rfl hl.1 rfl (lv_room (Nat.le_of_ble_eq_true rfl)) dX10_splitPayment_6 ⟨(Nat.le_of_ble_eq_true rfl), (Nat.le_of_ble_eq_true rfl)⟩) hS (fun q _ h => hFc q h) hFc (fun rn16 u t H1 locs ht hvm hw hB hz1 hk1 hS => ?_)
    obtain ⟨zn17, hP1, hD1⟩ := hB
    rw [ht] at hP1
    obtain ⟨hP, hD⟩ := PDq.join (w := [(oX10 w0 v0 v1 v2 v3 v4 g5 g6 (nI ed) zn17 v9 (nI nb) g11 g12 v13 g14 g15 g16 g17 g18 g19 g20 g21 g22 g23 g24 g25 g26 v27 v28 v29 v30 v31 v32 v33 v34 v35 v36 v37 (nI ol)), (v0, .inl (cA 0, 326, .inl fs))]) 0 hP hD [0, 1] [] rfl rfl (by decide) (by decide) hk1 hFc hP1 hD1 rfl
    generalize H1 = H at hP hS ⊢
    rcases hw with ⟨hr9, hn18⟩ | hr9
    · skip
      subst hr9
      obtain ⟨kn19, hn20, hn21⟩ := hn18
      rw [hn21] at hl
      have hl : lv_has ls 3 [(0, .ref w0), (1, .int (nI kn19)), (2, .int j)] := hl
      refine lv_if_eq (tgt := 21) hx hb dX10_splitPayment_9 (by decide) (fun c9 => absurd c9 (by decide)) (fun c22 => ?_)
      refine lv_aload_n hx hb dX10_splitPayment_12 rfl (lv_at hl 0 rfl) ?_
      refine lv_iload_n hx hb dX10_splitPayment_13 rfl (lv_at hl 1 rfl) ?_
      refine lv_iload_n hx hb dX10_splitPayment_14 rfl (lv_at hl 2 rfl) ?_
      obtain ⟨hPc, hDc, hFc⟩ := PDq.cut (wc := [(oX10 w0 v0 v1 v2 v3 v4 g5 g6 (nI ed) zn17 v9 (nI nb) g11 g12 v13 g14 g15 g16 g17 g18 g19 g20 g21 g22 g23 g24 g25 g26 v27 v28 v29 v30 v31 v32 v33 v34 v35 v36 v37 (nI ol)), (v0, .inl (cA 0, 326, .inl fs))]) hP hD hS hA [0, 1] (by decide) rfl
      refine va_calli (va_runV (As := [.int (nI kn19), .int j]) (rest := []) ⟨hx, hb, hml, hown, hts⟩ (r_splitBy l D cA sa w0 ed nb ol v0 v1 v2 v3 v4 v9 v13 v27 v28 v29 v30 v31 v32 v33 v34 v35 v36 v37 zn17 g11 g12 g14 g15 g16 g17 g18 g19 g20 g21 g22 g23 g24 g26 g5 g6 g25 cn pq en dy fs kn19 j H.size hcn hpq hen hdy hri (by omega)) (cwV 2 hts gX10_splitPayment_X10_splitBy rfl rfl rfl (by decide +kernel) ⟨(Nat.le_of_ble_eq_true rfl), (Nat.le_of_ble_eq_true rfl)⟩) ⟨Wd.blind, va_recv hK hPc (ci := 11) (q0 := 0) rfl rfl, fun U hU hW => ⟨rfl, Wd.call hPc hDc hK hC hZ hS hFc U hU hW⟩⟩ rfl rfl hl.1 rfl (lv_room (Nat.le_of_ble_eq_true rfl)) dX10_splitPayment_15 ⟨(Nat.le_of_ble_eq_true rfl), (Nat.le_of_ble_eq_true rfl)⟩) hS (fun q _ h => hFc q h) hFc (fun rn23 u t H1 locs ht hvm hw hB hz1 hk1 hS => ?_)
      obtain ⟨hP1, hD1⟩ := hB
      rw [ht] at hP1
      obtain ⟨hP, hD⟩ := PDq.join (w := [(oX10 w0 v0 v1 v2 v3 v4 g5 g6 (nI ed) zn17 v9 (nI nb) g11 g12 v13 g14 g15 g16 g17 g18 g19 g20 g21 g22 g23 g24 g25 g26 v27 v28 v29 v30 v31 v32 v33 v34 v35 v36 v37 (nI ol)), (v0, .inl (cA 0, 326, .inl fs))]) 0 hP hD [0, 1] [] rfl rfl (by decide) (by decide) hk1 hFc hP1 hD1 rfl
      generalize H1 = H at hP hS ⊢
      refine lv_goto (tgt := 22) hx hb dX10_splitPayment_18 (by decide) ?_
      obtain ⟨hP9, hD9⟩ := PDq.sub (ws' := [(oX10 w0 v0 v1 v2 v3 v4 g5 g6 (nI ed) zn17 v9 (nI nb) g11 g12 v13 g14 g15 g16 g17 g18 g19 g20 g21 g22 g23 g24 g25 g26 v27 v28 v29 v30 v31 v32 v33 v34 v35 v36 v37 (nI ol)), (v0, .inl (cA 0, 326, .inl fs))]) hP hD [0, 1] (by decide) rfl
      refine W.widen (k := 0) (n := 0) (Nat.le_of_ble_eq_true rfl) (Nat.le_of_ble_eq_true rfl) ?_
      exact (W.iret (v := rn23) hx hb hr (fun t ht hW => ⟨⟨rn23, (), rfl, trivial, zn17, by rw [ht]; exact hP9, hD9⟩, hS.F ht⟩) hS.2.2 dX10_splitPayment_22)
    · skip
      subst hr9
      refine lv_if_eq (tgt := 21) hx hb dX10_splitPayment_9 (by decide) (fun c24 => ?_) (fun c9 => absurd c9 (by decide))
      refine lv_iconst (v := 0) hx hb dX10_splitPayment_21 (by decide) ?_
      obtain ⟨hP9, hD9⟩ := PDq.sub (ws' := [(oX10 w0 v0 v1 v2 v3 v4 g5 g6 (nI ed) zn17 v9 (nI nb) g11 g12 v13 g14 g15 g16 g17 g18 g19 g20 g21 g22 g23 g24 g25 g26 v27 v28 v29 v30 v31 v32 v33 v34 v35 v36 v37 (nI ol)), (v0, .inl (cA 0, 326, .inl fs))]) hP hD [0, 1] (by decide) rfl
      refine W.widen (k := 0) (n := 0) (Nat.le_of_ble_eq_true rfl) (Nat.le_of_ble_eq_true rfl) ?_
      exact (W.iret (v := 0) hx hb hr (fun t ht hW => ⟨⟨0, (), rfl, trivial, zn17, by rw [ht]; exact hP9, hD9⟩, hS.F ht⟩) hS.2.2 dX10_splitPayment_22)

set_option maxHeartbeats 4000000 in
set_option maxRecDepth 100000 in
/-- reference: shareFor -/
theorem r_shareFor (l : Launch) (D : va_G) (cA : Nat → ClassId) (sa : Nat → Nat) (w0 : Nat) (ed : Nat) (nb : Nat) (ol : Nat) (v0 : Nat) (v1 : Nat) (v2 : Nat) (v3 : Nat) (v4 : Nat) (v9 : Nat) (v13 : Nat) (v27 : Nat) (v28 : Nat) (v29 : Nat) (v30 : Nat) (v31 : Nat) (v32 : Nat) (v33 : Nat) (v34 : Nat) (v35 : Nat) (v36 : Nat) (v37 : Nat) (g8 : Int32) (g11 : Int32) (g12 : Int32) (g14 : Int32) (g15 : Int32) (g16 : Int32) (g17 : Int32) (g18 : Int32) (g19 : Int32) (g20 : Int32) (g21 : Int32) (g22 : Int32) (g23 : Int32) (g24 : Int32) (g26 : Int32) (g5 : Int64) (g6 : Int64) (g25 : Int64) (cn : Nat) (pq : Nat) (en : Nat) (dy : Nat) (fs : Nat → Int32) (i : Int32) (j : Int32) (sz : Nat) (hcn : cn ≤ 10) (hpq : pq ≤ 8) (hen : en ≤ 60) (hdy : dy ≤ 20000) (hri : RI cn pq en dy fs) : Met l yX10_shareFor wsX10_shareFor ({ frames := 5, cells := 0, slots := 0, locals := 107 }) (va_Pc [.ref w0, .int i, .int j] (Wd D cA sa [(oX10 w0 v0 v1 v2 v3 v4 g5 g6 (nI ed) g8 v9 (nI nb) g11 g12 v13 g14 g15 g16 g17 g18 g19 g20 g21 g22 g23 g24 g25 g26 v27 v28 v29 v30 v31 v32 v33 v34 v35 v36 v37 (nI ol)), (v0, .inl (cA 0, 326, .inl fs))] sz)) (va_Qi (fun (r : Int32) (_ : Unit) => True) (fun (_ : Unit) t => ∃ zt : Int32, Wq D (va_A [(oX10 w0 v0 v1 v2 v3 v4 g5 g6 (nI ed) g8 v9 (nI nb) g11 g12 v13 g14 g15 g16 g17 g18 g19 g20 g21 g22 g23 g24 g25 g26 v27 v28 v29 v30 v31 v32 v33 v34 v35 v36 v37 (nI ol)), (v0, .inl (cA 0, 326, .inl fs))] sz) [(oX10 w0 v0 v1 v2 v3 v4 g5 g6 (nI ed) zt v9 (nI nb) g11 g12 v13 g14 g15 g16 g17 g18 g19 g20 g21 g22 g23 g24 g25 g26 v27 v28 v29 v30 v31 v32 v33 v34 v35 v36 v37 (nI ol)), (v0, .inl (cA 0, 326, .inl fs))] t) (va_A [(oX10 w0 v0 v1 v2 v3 v4 g5 g6 (nI ed) g8 v9 (nI nb) g11 g12 v13 g14 g15 g16 g17 g18 g19 g20 g21 g22 g23 g24 g25 g26 v27 v28 v29 v30 v31 v32 v33 v34 v35 v36 v37 (nI ol)), (v0, .inl (cA 0, 326, .inl fs))] sz)) 0 0 (va_A [(oX10 w0 v0 v1 v2 v3 v4 g5 g6 (nI ed) g8 v9 (nI nb) g11 g12 v13 g14 g15 g16 g17 g18 g19 g20 g21 g22 g23 g24 g25 g26 v27 v28 v29 v30 v31 v32 v33 v34 v35 v36 v37 (nI ol)), (v0, .inl (cA 0, 326, .inl fs))] sz) := by
  refine Met.ofW (cc := cX10_shareFor) (maxL := 5) (ret := (some .int)) (by decide) rfl ?_
  intro p e s m args below meth c s₁ B hml hv
  obtain ⟨rfl, hsz, hP, hK, hD0, hC, hZ⟩ := hv
  have hx := B.exec
  have hb := B.bytes
  have hr := B.returns
  have hts := atoms_spec (ws := wsX10_shareFor) B.pre
  have hown : s.vm.findClass RX10 = some m.cls := findClass_of_methodNamed B.named
  have hlocks := B.notSynchronized
  subst hsz
  have hD := hD0.self (sz := s.heap.size)
  generalize hAe : va_A [(oX10 w0 v0 v1 v2 v3 v4 g5 g6 (nI ed) g8 v9 (nI nb) g11 g12 v13 g14 g15 g16 g17 g18 g19 g20 g21 g22 g23 g24 g25 g26 v27 v28 v29 v30 v31 v32 v33 v34 v35 v36 v37 (nI ol)), (v0, .inl (cA 0, 326, .inl fs))] s.heap.size = A at hD hZ ⊢
  have hA : ∀ q : Nat, s.heap.size ≤ q → A q := fun q h => by rw [← hAe]; exact Or.inr h
  have hS : va_S A s.heap s.heap [] := va_S.rf
  have hP : va_P D vwCl [(oX10 w0 v0 v1 v2 v3 v4 g5 g6 (nI ed) g8 v9 (nI nb) g11 g12 v13 g14 g15 g16 g17 g18 g19 g20 g21 g22 g23 g24 g25 g26 v27 v28 v29 v30 v31 v32 v33 v34 v35 v36 v37 (nI ol)), (v0, .inl (cA 0, 326, .inl fs))] s.heap := hP
  have hl := lv_entry ([.ref w0, .int i, .int j]) (n := 5) (Nat.le_of_ble_eq_true rfl)
  rw [lg_entry_eq]
  generalize (lg_sl ([.ref w0, .int i, .int j]) ++ List.replicate (5 - (lg_sl ([.ref w0, .int i, .int j])).length) Slot.unset).toArray = ls at hl ⊢
  have hl : lv_has ls 5 [(0, .ref w0), (1, .int i), (2, .int j)] := hl
  refine lv_aload_n hx hb dX10_shareFor_0 rfl (lv_at hl 0 rfl) ?_
  refine lv_iload_n hx hb dX10_shareFor_1 rfl (lv_at hl 1 rfl) ?_
  refine lv_iload_n hx hb dX10_shareFor_2 rfl (lv_at hl 2 rfl) ?_
  refine lv_i2l (v := (j.toInt64)) hx hb dX10_shareFor_3 rfl ?_
  refine lv_lconst (v := 0) hx hb dX10_shareFor_4 (by decide) ?_
  refine lv_ldc2 (v := 99999) hx hb hown (hts (.constantLong RX10 388 99999) (by decide +kernel)) dX10_shareFor_5 ?_
  obtain ⟨hPc, hDc, hFc⟩ := PDq.cut (wc := []) hP hD hS hA [] (by decide) rfl
  refine va_calli (va_runS (As := [.long (j.toInt64), .long 0, .long 99999]) (rest := [.int i, .ref w0]) ⟨hx, hb, hml, hown, hts⟩ (r_between l D cA sa (j.toInt64) 0 99999 s.heap.size) (va_cwS 3 hts gX10_shareFor_X10_between rfl rfl rfl (by decide +kernel) ⟨(Nat.le_of_ble_eq_true rfl), (Nat.le_of_ble_eq_true rfl)⟩) ⟨Wd.blind, fun U hU hW => ⟨rfl, Wd.call hPc hDc hK hC hZ hS hFc U hU hW⟩⟩ rfl rfl hl.1 rfl (lv_room (Nat.le_of_ble_eq_true rfl)) dX10_shareFor_8 ⟨(Nat.le_of_ble_eq_true rfl), (Nat.le_of_ble_eq_true rfl)⟩) hS (fun q _ h => hFc q h) hFc (fun rn1 u t H1 locs ht hvm hw hB hz1 hk1 hS => ?_)
  obtain ⟨hP1, hD1⟩ := hB
  rw [ht] at hP1
  obtain ⟨hP, hD⟩ := PDq.join (w := [(oX10 w0 v0 v1 v2 v3 v4 g5 g6 (nI ed) g8 v9 (nI nb) g11 g12 v13 g14 g15 g16 g17 g18 g19 g20 g21 g22 g23 g24 g25 g26 v27 v28 v29 v30 v31 v32 v33 v34 v35 v36 v37 (nI ol)), (v0, .inl (cA 0, 326, .inl fs))]) 2 hP hD [] [0, 1] rfl rfl (by decide) (by decide) hk1 hFc hP1 hD1 rfl
  generalize H1 = H at hP hS ⊢
  rcases hw with ⟨hr9, hn2⟩ | hr9
  · skip
    subst hr9
    obtain ⟨hPc, hDc, hFc⟩ := PDq.cut (wc := [(oX10 w0 v0 v1 v2 v3 v4 g5 g6 (nI ed) g8 v9 (nI nb) g11 g12 v13 g14 g15 g16 g17 g18 g19 g20 g21 g22 g23 g24 g25 g26 v27 v28 v29 v30 v31 v32 v33 v34 v35 v36 v37 (nI ol)), (v0, .inl (cA 0, 326, .inl fs))]) hP hD hS hA [0, 1] (by decide) rfl
    refine va_calli (va_runV (As := [.int i, .int 1]) (rest := []) ⟨hx, hb, hml, hown, hts⟩ (r_canSplit1 l D cA sa w0 ed nb ol v0 v1 v2 v3 v4 v9 v13 v27 v28 v29 v30 v31 v32 v33 v34 v35 v36 v37 g8 g11 g12 g14 g15 g16 g17 g18 g19 g20 g21 g22 g23 g24 g26 g5 g6 g25 cn pq en dy fs i H.size hcn hpq hen hdy hri) (cwV 2 hts gX10_shareFor_X10_canSplit rfl rfl rfl (by decide +kernel) ⟨(Nat.le_of_ble_eq_true rfl), (Nat.le_of_ble_eq_true rfl)⟩) ⟨Wd.blind, va_recv hK hPc (ci := 11) (q0 := 0) rfl rfl, fun U hU hW => ⟨rfl, Wd.call hPc hDc hK hC hZ hS hFc U hU hW⟩⟩ rfl rfl hl.1 rfl (lv_room (Nat.le_of_ble_eq_true rfl)) dX10_shareFor_11 ⟨(Nat.le_of_ble_eq_true rfl), (Nat.le_of_ble_eq_true rfl)⟩) hS (fun q _ h => hFc q h) hFc (fun rn3 u t H1 locs ht hvm hw hB hz1 hk1 hS => ?_)
    obtain ⟨zn4, hP1, hD1⟩ := hB
    rw [ht] at hP1
    obtain ⟨hP, hD⟩ := PDq.join (w := [(oX10 w0 v0 v1 v2 v3 v4 g5 g6 (nI ed) zn4 v9 (nI nb) g11 g12 v13 g14 g15 g16 g17 g18 g19 g20 g21 g22 g23 g24 g25 g26 v27 v28 v29 v30 v31 v32 v33 v34 v35 v36 v37 (nI ol)), (v0, .inl (cA 0, 326, .inl fs))]) 0 hP hD [0, 1] [] rfl rfl (by decide) (by decide) hk1 hFc hP1 hD1 rfl
    generalize H1 = H at hP hS ⊢
    rcases hw with ⟨hr9, hn5⟩ | hr9
    · skip
      subst hr9
      obtain ⟨kn6, hn7, hn8⟩ := hn5
      rw [hn8] at hl
      have hl : lv_has ls 5 [(0, .ref w0), (1, .int (nI kn6)), (2, .int j)] := hl
      refine lv_if_ne (tgt := 19) hx hb dX10_shareFor_14 (by decide) (fun c9 => ?_) (fun c9 => absurd c9 (by decide))
      refine lv_iconst (v := 0) hx hb dX10_shareFor_19 (by decide) ?_
      refine lv_istore_n (lv' := [(3, .int 0), (0, .ref w0), (1, .int (nI kn6)), (2, .int j)]) hx hb dX10_shareFor_20 rfl hl (by decide) rfl (fun ls hl => ?_)
      have loop1 : ∀ (n1 i1 : Nat) (H : Heap) (locs : List Loc) (ls : Array Slot), i1 + n1 = 1001 → va_P D vwCl [(oX10 w0 v0 v1 v2 v3 v4 g5 g6 (nI ed) zn4 v9 (nI nb) g11 g12 v13 g14 g15 g16 g17 g18 g19 g20 g21 g22 g23 g24 g25 g26 v27 v28 v29 v30 v31 v32 v33 v34 v35 v36 v37 (nI ol)), (v0, .inl (cA 0, 326, .inl fs))] H → va_D A [(oX10 w0 v0 v1 v2 v3 v4 g5 g6 (nI ed) zn4 v9 (nI nb) g11 g12 v13 g14 g15 g16 g17 g18 g19 g20 g21 g22 g23 g24 g25 g26 v27 v28 v29 v30 v31 v32 v33 v34 v35 v36 v37 (nI ol)), (v0, .inl (cA 0, 326, .inl fs))] → va_S A s.heap H locs → lv_has ls 5 [(3, .int (nI i1)), (0, .ref w0), (1, .int (nI kn6)), (2, .int j)] → W p l e (headSpec wsX10_shareFor ({ frames := 5, cells := 0, slots := 0, locals := 107 } : Room)).room s m ([.ref w0, .int i, .int j] : List Value).toArray below meth c H locs 0 0 (MQ below (va_Qi (fun (r : Int32) (_ : Unit) => True) (fun (_ : Unit) t => ∃ zt : Int32, Wq D A [(oX10 w0 v0 v1 v2 v3 v4 g5 g6 (nI ed) zt v9 (nI nb) g11 g12 v13 g14 g15 g16 g17 g18 g19 g20 g21 g22 g23 g24 g25 g26 v27 v28 v29 v30 v31 v32 v33 v34 v35 v36 v37 (nI ol)), (v0, .inl (cA 0, 326, .inl fs))] t) A) ([.ref w0, .int i, .int j] : List Value).toArray s 0 0 A) (F0 m 21 ls []) := by
        intro n1
        induction n1 with
        | zero =>
          intro i1 H locs ls hi1 hP hD hS hl
          obtain rfl : 1001 = i1 := by omega
          refine lv_iload_n hx hb dX10_shareFor_21 rfl (lv_at hl 0 rfl) ?_
          refine lv_sipush (v := 1000) hx hb dX10_shareFor_22 (by decide) ?_
          refine lv_icmp_gt (tgt := 57) hx hb dX10_shareFor_25 (by decide) (fun c10 => ?_) (fun c9 => absurd (nI_lt (a := 1000) (b := 1001) (show 1000 < 1001 by omega) (by omega)) c9)
          refine lv_iconst (v := (-1)) hx hb dX10_shareFor_57 (by decide) ?_
          obtain ⟨hP9, hD9⟩ := PDq.sub (ws' := [(oX10 w0 v0 v1 v2 v3 v4 g5 g6 (nI ed) zn4 v9 (nI nb) g11 g12 v13 g14 g15 g16 g17 g18 g19 g20 g21 g22 g23 g24 g25 g26 v27 v28 v29 v30 v31 v32 v33 v34 v35 v36 v37 (nI ol)), (v0, .inl (cA 0, 326, .inl fs))]) hP hD [0, 1] (by decide) rfl
          refine W.widen (k := 0) (n := 0) (Nat.le_of_ble_eq_true rfl) (Nat.le_of_ble_eq_true rfl) ?_
          exact (W.iret (v := (-1)) hx hb hr (fun t ht hW => ⟨⟨(-1), (), rfl, trivial, zn4, by rw [ht]; exact hP9, hD9⟩, hS.F ht⟩) hS.2.2 dX10_shareFor_58)
        | succ n1 ih1 =>
          intro i1 H locs ls hi1 hP hD hS hl
          refine lv_iload_n hx hb dX10_shareFor_21 rfl (lv_at hl 0 rfl) ?_
          refine lv_sipush (v := 1000) hx hb dX10_shareFor_22 (by decide) ?_
          refine lv_icmp_gt (tgt := 57) hx hb dX10_shareFor_25 (by decide) (fun c9 => absurd c9 (nI_nlt (a := 1000) (b := i1) (show i1 ≤ 1000 by omega) (by omega))) (fun c11 => ?_)
          refine lv_aload_n hx hb dX10_shareFor_28 rfl (lv_at hl 1 rfl) ?_
          refine lv_iload_n hx hb dX10_shareFor_29 rfl (lv_at hl 2 rfl) ?_
          refine lv_iload_n hx hb dX10_shareFor_30 rfl (lv_at hl 0 rfl) ?_
          obtain ⟨hPc, hDc, hFc⟩ := PDq.cut (wc := [(oX10 w0 v0 v1 v2 v3 v4 g5 g6 (nI ed) zn4 v9 (nI nb) g11 g12 v13 g14 g15 g16 g17 g18 g19 g20 g21 g22 g23 g24 g25 g26 v27 v28 v29 v30 v31 v32 v33 v34 v35 v36 v37 (nI ol)), (v0, .inl (cA 0, 326, .inl fs))]) hP hD hS hA [0, 1] (by decide) rfl
          refine va_calli (va_runV (As := [.int (nI kn6), .int (nI i1)]) (rest := []) ⟨hx, hb, hml, hown, hts⟩ (r_splitBy l D cA sa w0 ed nb ol v0 v1 v2 v3 v4 v9 v13 v27 v28 v29 v30 v31 v32 v33 v34 v35 v36 v37 zn4 g11 g12 g14 g15 g16 g17 g18 g19 g20 g21 g22 g23 g24 g26 g5 g6 g25 cn pq en dy fs kn6 (nI i1) H.size hcn hpq hen hdy hri (by omega)) (cwV 2 hts gX10_shareFor_X10_splitBy rfl rfl rfl (by decide +kernel) ⟨(Nat.le_of_ble_eq_true rfl), (Nat.le_of_ble_eq_true rfl)⟩) ⟨Wd.blind, va_recv hK hPc (ci := 11) (q0 := 0) rfl rfl, fun U hU hW => ⟨rfl, Wd.call hPc hDc hK hC hZ hS hFc U hU hW⟩⟩ rfl rfl hl.1 rfl (lv_room (Nat.le_of_ble_eq_true rfl)) dX10_shareFor_31 ⟨(Nat.le_of_ble_eq_true rfl), (Nat.le_of_ble_eq_true rfl)⟩) hS (fun q _ h => hFc q h) hFc (fun rn12 u t H1 locs ht hvm hw hB hz1 hk1 hS => ?_)
          obtain ⟨hP1, hD1⟩ := hB
          rw [ht] at hP1
          obtain ⟨hP, hD⟩ := PDq.join (w := [(oX10 w0 v0 v1 v2 v3 v4 g5 g6 (nI ed) zn4 v9 (nI nb) g11 g12 v13 g14 g15 g16 g17 g18 g19 g20 g21 g22 g23 g24 g25 g26 v27 v28 v29 v30 v31 v32 v33 v34 v35 v36 v37 (nI ol)), (v0, .inl (cA 0, 326, .inl fs))]) 0 hP hD [0, 1] [] rfl rfl (by decide) (by decide) hk1 hFc hP1 hD1 rfl
          generalize H1 = H at hP hS ⊢
          refine lv_istore (lv' := [(4, .int rn12), (3, .int (nI i1)), (0, .ref w0), (1, .int (nI kn6)), (2, .int j)]) hx hb dX10_shareFor_34 hl (by decide) rfl (fun ls hl => ?_)
          refine lv_iload hx hb dX10_shareFor_36 (lv_at hl 0 rfl) ?_
          refine lv_aload_n hx hb dX10_shareFor_38 rfl (lv_at hl 2 rfl) ?_
          refine lv_iload hx hb dX10_shareFor_39 (lv_at hl 0 rfl) ?_
          obtain ⟨hPc, hDc, hFc⟩ := PDq.cut (wc := [(oX10 w0 v0 v1 v2 v3 v4 g5 g6 (nI ed) zn4 v9 (nI nb) g11 g12 v13 g14 g15 g16 g17 g18 g19 g20 g21 g22 g23 g24 g25 g26 v27 v28 v29 v30 v31 v32 v33 v34 v35 v36 v37 (nI ol)), (v0, .inl (cA 0, 326, .inl fs))]) hP hD hS hA [0, 1] (by decide) rfl
          refine va_calli (va_runV (As := [.int rn12]) (rest := [.int rn12]) ⟨hx, hb, hml, hown, hts⟩ (r_feeOf l D cA sa w0 ed nb ol v0 v1 v2 v3 v4 v9 v13 v27 v28 v29 v30 v31 v32 v33 v34 v35 v36 v37 zn4 g11 g12 g14 g15 g16 g17 g18 g19 g20 g21 g22 g23 g24 g26 g5 g6 g25 cn pq en dy fs rn12 H.size hcn hpq hen hdy hri) (cwV 1 hts gX10_shareFor_X10_feeOf rfl rfl rfl (by decide +kernel) ⟨(Nat.le_of_ble_eq_true rfl), (Nat.le_of_ble_eq_true rfl)⟩) ⟨Wd.blind, va_recv hK hPc (ci := 11) (q0 := 0) rfl rfl, fun U hU hW => ⟨rfl, Wd.call hPc hDc hK hC hZ hS hFc U hU hW⟩⟩ rfl rfl hl.1 rfl (lv_room (Nat.le_of_ble_eq_true rfl)) dX10_shareFor_41 ⟨(Nat.le_of_ble_eq_true rfl), (Nat.le_of_ble_eq_true rfl)⟩) hS (fun q _ h => hFc q h) hFc (fun rn13 u t H1 locs ht hvm hw hB hz1 hk1 hS => ?_)
          obtain ⟨hP1, hD1⟩ := hB
          rw [ht] at hP1
          obtain ⟨hP, hD⟩ := PDq.join (w := [(oX10 w0 v0 v1 v2 v3 v4 g5 g6 (nI ed) zn4 v9 (nI nb) g11 g12 v13 g14 g15 g16 g17 g18 g19 g20 g21 g22 g23 g24 g25 g26 v27 v28 v29 v30 v31 v32 v33 v34 v35 v36 v37 (nI ol)), (v0, .inl (cA 0, 326, .inl fs))]) 0 hP hD [0, 1] [] rfl rfl (by decide) (by decide) hk1 hFc hP1 hD1 rfl
          generalize H1 = H at hP hS ⊢
          refine lv_isub hx hb dX10_shareFor_44 ?_
          refine lv_topi (fun yn14 eyn14 => ?_)
          refine lv_iload_n hx hb dX10_shareFor_45 rfl (lv_at hl 4 rfl) ?_
          refine lv_icmp_lt (tgt := 51) hx hb dX10_shareFor_46 (by decide) (fun c15 => ?_) (fun c15 => ?_)
          · skip
            refine lv_iinc (v := (nI (i1 + 1))) (lv' := [(3, .int (nI (i1 + 1))), (4, .int rn12), (0, .ref w0), (1, .int (nI kn6)), (2, .int j)]) hx hb dX10_shareFor_51 hl (k := 1) rfl (nI_1 _) (by decide) rfl (fun ls hl => ?_)
            refine lv_goto (tgt := 21) hx hb dX10_shareFor_54 (by decide) ?_
            obtain ⟨hP9, hD9⟩ := PDq.sub (ws' := [(oX10 w0 v0 v1 v2 v3 v4 g5 g6 (nI ed) zn4 v9 (nI nb) g11 g12 v13 g14 g15 g16 g17 g18 g19 g20 g21 g22 g23 g24 g25 g26 v27 v28 v29 v30 v31 v32 v33 v34 v35 v36 v37 (nI ol)), (v0, .inl (cA 0, 326, .inl fs))]) hP hD [0, 1] (by decide) rfl
            exact ih1 (i1 + 1)  H _ ls (by omega) hP9 hD9 hS (lv_sub hl [0, 2, 3, 4] rfl)
          · skip
            refine lv_iload_n hx hb dX10_shareFor_49 rfl (lv_at hl 1 rfl) ?_
            obtain ⟨hP9, hD9⟩ := PDq.sub (ws' := [(oX10 w0 v0 v1 v2 v3 v4 g5 g6 (nI ed) zn4 v9 (nI nb) g11 g12 v13 g14 g15 g16 g17 g18 g19 g20 g21 g22 g23 g24 g25 g26 v27 v28 v29 v30 v31 v32 v33 v34 v35 v36 v37 (nI ol)), (v0, .inl (cA 0, 326, .inl fs))]) hP hD [0, 1] (by decide) rfl
            refine W.widen (k := 0) (n := 0) (Nat.le_of_ble_eq_true rfl) (Nat.le_of_ble_eq_true rfl) ?_
            exact (W.iret (v := (nI i1)) hx hb hr (fun t ht hW => ⟨⟨(nI i1), (), rfl, trivial, zn4, by rw [ht]; exact hP9, hD9⟩, hS.F ht⟩) hS.2.2 dX10_shareFor_50)
      obtain ⟨hP9, hD9⟩ := PDq.sub (ws' := [(oX10 w0 v0 v1 v2 v3 v4 g5 g6 (nI ed) zn4 v9 (nI nb) g11 g12 v13 g14 g15 g16 g17 g18 g19 g20 g21 g22 g23 g24 g25 g26 v27 v28 v29 v30 v31 v32 v33 v34 v35 v36 v37 (nI ol)), (v0, .inl (cA 0, 326, .inl fs))]) hP hD [0, 1] (by decide) rfl
      exact loop1 (1001 - 0) 0  _ _ ls (by omega) hP9 hD9 hS (lv_sub hl [0, 1, 2, 3] rfl)
    · skip
      subst hr9
      refine lv_if_ne (tgt := 19) hx hb dX10_shareFor_14 (by decide) (fun c9 => absurd c9 (by decide)) (fun c16 => ?_)
      refine lv_iconst (v := 0) hx hb dX10_shareFor_17 (by decide) ?_
      obtain ⟨hP9, hD9⟩ := PDq.sub (ws' := [(oX10 w0 v0 v1 v2 v3 v4 g5 g6 (nI ed) zn4 v9 (nI nb) g11 g12 v13 g14 g15 g16 g17 g18 g19 g20 g21 g22 g23 g24 g25 g26 v27 v28 v29 v30 v31 v32 v33 v34 v35 v36 v37 (nI ol)), (v0, .inl (cA 0, 326, .inl fs))]) hP hD [0, 1] (by decide) rfl
      refine W.widen (k := 0) (n := 0) (Nat.le_of_ble_eq_true rfl) (Nat.le_of_ble_eq_true rfl) ?_
      exact (W.iret (v := 0) hx hb hr (fun t ht hW => ⟨⟨0, (), rfl, trivial, zn4, by rw [ht]; exact hP9, hD9⟩, hS.F ht⟩) hS.2.2 dX10_shareFor_18)
  · skip
    subst hr9
    obtain ⟨hPc, hDc, hFc⟩ := PDq.cut (wc := [(oX10 w0 v0 v1 v2 v3 v4 g5 g6 (nI ed) g8 v9 (nI nb) g11 g12 v13 g14 g15 g16 g17 g18 g19 g20 g21 g22 g23 g24 g25 g26 v27 v28 v29 v30 v31 v32 v33 v34 v35 v36 v37 (nI ol)), (v0, .inl (cA 0, 326, .inl fs))]) hP hD hS hA [0, 1] (by decide) rfl
    refine va_calli (va_runV (As := [.int i, .int 0]) (rest := []) ⟨hx, hb, hml, hown, hts⟩ (r_canSplit0 l D cA sa w0 ed nb ol v0 v1 v2 v3 v4 v9 v13 v27 v28 v29 v30 v31 v32 v33 v34 v35 v36 v37 g8 g11 g12 g14 g15 g16 g17 g18 g19 g20 g21 g22 g23 g24 g26 g5 g6 g25 cn pq en dy fs i H.size hcn hpq hen hdy hri) (cwV 2 hts gX10_shareFor_X10_canSplit rfl rfl rfl (by decide +kernel) ⟨(Nat.le_of_ble_eq_true rfl), (Nat.le_of_ble_eq_true rfl)⟩) ⟨Wd.blind, va_recv hK hPc (ci := 11) (q0 := 0) rfl rfl, fun U hU hW => ⟨rfl, Wd.call hPc hDc hK hC hZ hS hFc U hU hW⟩⟩ rfl rfl hl.1 rfl (lv_room (Nat.le_of_ble_eq_true rfl)) dX10_shareFor_11 ⟨(Nat.le_of_ble_eq_true rfl), (Nat.le_of_ble_eq_true rfl)⟩) hS (fun q _ h => hFc q h) hFc (fun rn17 u t H1 locs ht hvm hw hB hz1 hk1 hS => ?_)
    obtain ⟨zn18, hP1, hD1⟩ := hB
    rw [ht] at hP1
    obtain ⟨hP, hD⟩ := PDq.join (w := [(oX10 w0 v0 v1 v2 v3 v4 g5 g6 (nI ed) zn18 v9 (nI nb) g11 g12 v13 g14 g15 g16 g17 g18 g19 g20 g21 g22 g23 g24 g25 g26 v27 v28 v29 v30 v31 v32 v33 v34 v35 v36 v37 (nI ol)), (v0, .inl (cA 0, 326, .inl fs))]) 0 hP hD [0, 1] [] rfl rfl (by decide) (by decide) hk1 hFc hP1 hD1 rfl
    generalize H1 = H at hP hS ⊢
    rcases hw with ⟨hr9, hn19⟩ | hr9
    · skip
      subst hr9
      obtain ⟨kn20, hn21, hn22⟩ := hn19
      rw [hn22] at hl
      have hl : lv_has ls 5 [(0, .ref w0), (1, .int (nI kn20)), (2, .int j)] := hl
      refine lv_if_ne (tgt := 19) hx hb dX10_shareFor_14 (by decide) (fun c23 => ?_) (fun c9 => absurd c9 (by decide))
      refine lv_iconst (v := 0) hx hb dX10_shareFor_19 (by decide) ?_
      refine lv_istore_n (lv' := [(3, .int 0), (0, .ref w0), (1, .int (nI kn20)), (2, .int j)]) hx hb dX10_shareFor_20 rfl hl (by decide) rfl (fun ls hl => ?_)
      have loop2 : ∀ (n2 i2 : Nat) (H : Heap) (locs : List Loc) (ls : Array Slot), i2 + n2 = 1001 → va_P D vwCl [(oX10 w0 v0 v1 v2 v3 v4 g5 g6 (nI ed) zn18 v9 (nI nb) g11 g12 v13 g14 g15 g16 g17 g18 g19 g20 g21 g22 g23 g24 g25 g26 v27 v28 v29 v30 v31 v32 v33 v34 v35 v36 v37 (nI ol)), (v0, .inl (cA 0, 326, .inl fs))] H → va_D A [(oX10 w0 v0 v1 v2 v3 v4 g5 g6 (nI ed) zn18 v9 (nI nb) g11 g12 v13 g14 g15 g16 g17 g18 g19 g20 g21 g22 g23 g24 g25 g26 v27 v28 v29 v30 v31 v32 v33 v34 v35 v36 v37 (nI ol)), (v0, .inl (cA 0, 326, .inl fs))] → va_S A s.heap H locs → lv_has ls 5 [(3, .int (nI i2)), (0, .ref w0), (1, .int (nI kn20)), (2, .int j)] → W p l e (headSpec wsX10_shareFor ({ frames := 5, cells := 0, slots := 0, locals := 107 } : Room)).room s m ([.ref w0, .int i, .int j] : List Value).toArray below meth c H locs 0 0 (MQ below (va_Qi (fun (r : Int32) (_ : Unit) => True) (fun (_ : Unit) t => ∃ zt : Int32, Wq D A [(oX10 w0 v0 v1 v2 v3 v4 g5 g6 (nI ed) zt v9 (nI nb) g11 g12 v13 g14 g15 g16 g17 g18 g19 g20 g21 g22 g23 g24 g25 g26 v27 v28 v29 v30 v31 v32 v33 v34 v35 v36 v37 (nI ol)), (v0, .inl (cA 0, 326, .inl fs))] t) A) ([.ref w0, .int i, .int j] : List Value).toArray s 0 0 A) (F0 m 21 ls []) := by
        intro n2
        induction n2 with
        | zero =>
          intro i2 H locs ls hi2 hP hD hS hl
          obtain rfl : 1001 = i2 := by omega
          refine lv_iload_n hx hb dX10_shareFor_21 rfl (lv_at hl 0 rfl) ?_
          refine lv_sipush (v := 1000) hx hb dX10_shareFor_22 (by decide) ?_
          refine lv_icmp_gt (tgt := 57) hx hb dX10_shareFor_25 (by decide) (fun c24 => ?_) (fun c9 => absurd (nI_lt (a := 1000) (b := 1001) (show 1000 < 1001 by omega) (by omega)) c9)
          refine lv_iconst (v := (-1)) hx hb dX10_shareFor_57 (by decide) ?_
          obtain ⟨hP9, hD9⟩ := PDq.sub (ws' := [(oX10 w0 v0 v1 v2 v3 v4 g5 g6 (nI ed) zn18 v9 (nI nb) g11 g12 v13 g14 g15 g16 g17 g18 g19 g20 g21 g22 g23 g24 g25 g26 v27 v28 v29 v30 v31 v32 v33 v34 v35 v36 v37 (nI ol)), (v0, .inl (cA 0, 326, .inl fs))]) hP hD [0, 1] (by decide) rfl
          refine W.widen (k := 0) (n := 0) (Nat.le_of_ble_eq_true rfl) (Nat.le_of_ble_eq_true rfl) ?_
          exact (W.iret (v := (-1)) hx hb hr (fun t ht hW => ⟨⟨(-1), (), rfl, trivial, zn18, by rw [ht]; exact hP9, hD9⟩, hS.F ht⟩) hS.2.2 dX10_shareFor_58)
        | succ n2 ih2 =>
          intro i2 H locs ls hi2 hP hD hS hl
          refine lv_iload_n hx hb dX10_shareFor_21 rfl (lv_at hl 0 rfl) ?_
          refine lv_sipush (v := 1000) hx hb dX10_shareFor_22 (by decide) ?_
          refine lv_icmp_gt (tgt := 57) hx hb dX10_shareFor_25 (by decide) (fun c9 => absurd c9 (nI_nlt (a := 1000) (b := i2) (show i2 ≤ 1000 by omega) (by omega))) (fun c25 => ?_)
          refine lv_aload_n hx hb dX10_shareFor_28 rfl (lv_at hl 1 rfl) ?_
          refine lv_iload_n hx hb dX10_shareFor_29 rfl (lv_at hl 2 rfl) ?_
          refine lv_iload_n hx hb dX10_shareFor_30 rfl (lv_at hl 0 rfl) ?_
          obtain ⟨hPc, hDc, hFc⟩ := PDq.cut (wc := [(oX10 w0 v0 v1 v2 v3 v4 g5 g6 (nI ed) zn18 v9 (nI nb) g11 g12 v13 g14 g15 g16 g17 g18 g19 g20 g21 g22 g23 g24 g25 g26 v27 v28 v29 v30 v31 v32 v33 v34 v35 v36 v37 (nI ol)), (v0, .inl (cA 0, 326, .inl fs))]) hP hD hS hA [0, 1] (by decide) rfl
          refine va_calli (va_runV (As := [.int (nI kn20), .int (nI i2)]) (rest := []) ⟨hx, hb, hml, hown, hts⟩ (r_splitBy l D cA sa w0 ed nb ol v0 v1 v2 v3 v4 v9 v13 v27 v28 v29 v30 v31 v32 v33 v34 v35 v36 v37 zn18 g11 g12 g14 g15 g16 g17 g18 g19 g20 g21 g22 g23 g24 g26 g5 g6 g25 cn pq en dy fs kn20 (nI i2) H.size hcn hpq hen hdy hri (by omega)) (cwV 2 hts gX10_shareFor_X10_splitBy rfl rfl rfl (by decide +kernel) ⟨(Nat.le_of_ble_eq_true rfl), (Nat.le_of_ble_eq_true rfl)⟩) ⟨Wd.blind, va_recv hK hPc (ci := 11) (q0 := 0) rfl rfl, fun U hU hW => ⟨rfl, Wd.call hPc hDc hK hC hZ hS hFc U hU hW⟩⟩ rfl rfl hl.1 rfl (lv_room (Nat.le_of_ble_eq_true rfl)) dX10_shareFor_31 ⟨(Nat.le_of_ble_eq_true rfl), (Nat.le_of_ble_eq_true rfl)⟩) hS (fun q _ h => hFc q h) hFc (fun rn26 u t H1 locs ht hvm hw hB hz1 hk1 hS => ?_)
          obtain ⟨hP1, hD1⟩ := hB
          rw [ht] at hP1
          obtain ⟨hP, hD⟩ := PDq.join (w := [(oX10 w0 v0 v1 v2 v3 v4 g5 g6 (nI ed) zn18 v9 (nI nb) g11 g12 v13 g14 g15 g16 g17 g18 g19 g20 g21 g22 g23 g24 g25 g26 v27 v28 v29 v30 v31 v32 v33 v34 v35 v36 v37 (nI ol)), (v0, .inl (cA 0, 326, .inl fs))]) 0 hP hD [0, 1] [] rfl rfl (by decide) (by decide) hk1 hFc hP1 hD1 rfl
          generalize H1 = H at hP hS ⊢
          refine lv_istore (lv' := [(4, .int rn26), (3, .int (nI i2)), (0, .ref w0), (1, .int (nI kn20)), (2, .int j)]) hx hb dX10_shareFor_34 hl (by decide) rfl (fun ls hl => ?_)
          refine lv_iload hx hb dX10_shareFor_36 (lv_at hl 0 rfl) ?_
          refine lv_aload_n hx hb dX10_shareFor_38 rfl (lv_at hl 2 rfl) ?_
          refine lv_iload hx hb dX10_shareFor_39 (lv_at hl 0 rfl) ?_
          obtain ⟨hPc, hDc, hFc⟩ := PDq.cut (wc := [(oX10 w0 v0 v1 v2 v3 v4 g5 g6 (nI ed) zn18 v9 (nI nb) g11 g12 v13 g14 g15 g16 g17 g18 g19 g20 g21 g22 g23 g24 g25 g26 v27 v28 v29 v30 v31 v32 v33 v34 v35 v36 v37 (nI ol)), (v0, .inl (cA 0, 326, .inl fs))]) hP hD hS hA [0, 1] (by decide) rfl
          refine va_calli (va_runV (As := [.int rn26]) (rest := [.int rn26]) ⟨hx, hb, hml, hown, hts⟩ (r_feeOf l D cA sa w0 ed nb ol v0 v1 v2 v3 v4 v9 v13 v27 v28 v29 v30 v31 v32 v33 v34 v35 v36 v37 zn18 g11 g12 g14 g15 g16 g17 g18 g19 g20 g21 g22 g23 g24 g26 g5 g6 g25 cn pq en dy fs rn26 H.size hcn hpq hen hdy hri) (cwV 1 hts gX10_shareFor_X10_feeOf rfl rfl rfl (by decide +kernel) ⟨(Nat.le_of_ble_eq_true rfl), (Nat.le_of_ble_eq_true rfl)⟩) ⟨Wd.blind, va_recv hK hPc (ci := 11) (q0 := 0) rfl rfl, fun U hU hW => ⟨rfl, Wd.call hPc hDc hK hC hZ hS hFc U hU hW⟩⟩ rfl rfl hl.1 rfl (lv_room (Nat.le_of_ble_eq_true rfl)) dX10_shareFor_41 ⟨(Nat.le_of_ble_eq_true rfl), (Nat.le_of_ble_eq_true rfl)⟩) hS (fun q _ h => hFc q h) hFc (fun rn27 u t H1 locs ht hvm hw hB hz1 hk1 hS => ?_)
          obtain ⟨hP1, hD1⟩ := hB
          rw [ht] at hP1
          obtain ⟨hP, hD⟩ := PDq.join (w := [(oX10 w0 v0 v1 v2 v3 v4 g5 g6 (nI ed) zn18 v9 (nI nb) g11 g12 v13 g14 g15 g16 g17 g18 g19 g20 g21 g22 g23 g24 g25 g26 v27 v28 v29 v30 v31 v32 v33 v34 v35 v36 v37 (nI ol)), (v0, .inl (cA 0, 326, .inl fs))]) 0 hP hD [0, 1] [] rfl rfl (by decide) (by decide) hk1 hFc hP1 hD1 rfl
          generalize H1 = H at hP hS ⊢
          refine lv_isub hx hb dX10_shareFor_44 ?_
          refine lv_topi (fun yn28 eyn28 => ?_)
          refine lv_iload_n hx hb dX10_shareFor_45 rfl (lv_at hl 4 rfl) ?_
          refine lv_icmp_lt (tgt := 51) hx hb dX10_shareFor_46 (by decide) (fun c29 => ?_) (fun c29 => ?_)
          · skip
            refine lv_iinc (v := (nI (i2 + 1))) (lv' := [(3, .int (nI (i2 + 1))), (4, .int rn26), (0, .ref w0), (1, .int (nI kn20)), (2, .int j)]) hx hb dX10_shareFor_51 hl (k := 1) rfl (nI_1 _) (by decide) rfl (fun ls hl => ?_)
            refine lv_goto (tgt := 21) hx hb dX10_shareFor_54 (by decide) ?_
            obtain ⟨hP9, hD9⟩ := PDq.sub (ws' := [(oX10 w0 v0 v1 v2 v3 v4 g5 g6 (nI ed) zn18 v9 (nI nb) g11 g12 v13 g14 g15 g16 g17 g18 g19 g20 g21 g22 g23 g24 g25 g26 v27 v28 v29 v30 v31 v32 v33 v34 v35 v36 v37 (nI ol)), (v0, .inl (cA 0, 326, .inl fs))]) hP hD [0, 1] (by decide) rfl
            exact ih2 (i2 + 1)  H _ ls (by omega) hP9 hD9 hS (lv_sub hl [0, 2, 3, 4] rfl)
          · skip
            refine lv_iload_n hx hb dX10_shareFor_49 rfl (lv_at hl 1 rfl) ?_
            obtain ⟨hP9, hD9⟩ := PDq.sub (ws' := [(oX10 w0 v0 v1 v2 v3 v4 g5 g6 (nI ed) zn18 v9 (nI nb) g11 g12 v13 g14 g15 g16 g17 g18 g19 g20 g21 g22 g23 g24 g25 g26 v27 v28 v29 v30 v31 v32 v33 v34 v35 v36 v37 (nI ol)), (v0, .inl (cA 0, 326, .inl fs))]) hP hD [0, 1] (by decide) rfl
            refine W.widen (k := 0) (n := 0) (Nat.le_of_ble_eq_true rfl) (Nat.le_of_ble_eq_true rfl) ?_
            exact (W.iret (v := (nI i2)) hx hb hr (fun t ht hW => ⟨⟨(nI i2), (), rfl, trivial, zn18, by rw [ht]; exact hP9, hD9⟩, hS.F ht⟩) hS.2.2 dX10_shareFor_50)
      obtain ⟨hP9, hD9⟩ := PDq.sub (ws' := [(oX10 w0 v0 v1 v2 v3 v4 g5 g6 (nI ed) zn18 v9 (nI nb) g11 g12 v13 g14 g15 g16 g17 g18 g19 g20 g21 g22 g23 g24 g25 g26 v27 v28 v29 v30 v31 v32 v33 v34 v35 v36 v37 (nI ol)), (v0, .inl (cA 0, 326, .inl fs))]) hP hD [0, 1] (by decide) rfl
      exact loop2 (1001 - 0) 0  _ _ ls (by omega) hP9 hD9 hS (lv_sub hl [0, 1, 2, 3] rfl)
    · skip
      subst hr9
      refine lv_if_ne (tgt := 19) hx hb dX10_shareFor_14 (by decide) (fun c9 => absurd c9 (by decide)) (fun c30 => ?_)
      refine lv_iconst (v := 0) hx hb dX10_shareFor_17 (by decide) ?_
      obtain ⟨hP9, hD9⟩ := PDq.sub (ws' := [(oX10 w0 v0 v1 v2 v3 v4 g5 g6 (nI ed) zn18 v9 (nI nb) g11 g12 v13 g14 g15 g16 g17 g18 g19 g20 g21 g22 g23 g24 g25 g26 v27 v28 v29 v30 v31 v32 v33 v34 v35 v36 v37 (nI ol)), (v0, .inl (cA 0, 326, .inl fs))]) hP hD [0, 1] (by decide) rfl
      refine W.widen (k := 0) (n := 0) (Nat.le_of_ble_eq_true rfl) (Nat.le_of_ble_eq_true rfl) ?_
      exact (W.iret (v := 0) hx hb hr (fun t ht hW => ⟨⟨0, (), rfl, trivial, zn18, by rw [ht]; exact hP9, hD9⟩, hS.F ht⟩) hS.2.2 dX10_shareFor_18)

set_option maxHeartbeats 4000000 in
set_option maxRecDepth 100000 in
/-- reference: countBits -/
theorem r_countBits (l : Launch) (D : va_G) (cA : Nat → ClassId) (sa : Nat → Nat) (a : Int32) (sz : Nat) : Met l yX10_countBits wsX10_countBits ({ frames := 0, cells := 0, slots := 0, locals := 0 }) (va_Pc [.int a] (Wd D cA sa [] sz)) (va_Qi (fun (r : Int32) (_ : Unit) => True) (fun (_ : Unit) t => Wq D (va_A [] sz) [] t) (va_A [] sz)) 0 0 (va_A [] sz) := by
  refine Met.ofW (cc := cX10_countBits) (maxL := 3) (ret := (some .int)) (by decide) rfl ?_
  intro p e s m args below meth c s₁ B hml hv
  obtain ⟨rfl, hsz, hP, hK, hD0, hC, hZ⟩ := hv
  have hx := B.exec
  have hb := B.bytes
  have hr := B.returns
  have hts := atoms_spec (ws := wsX10_countBits) B.pre
  have hown : s.vm.findClass RX10 = some m.cls := findClass_of_methodNamed B.named
  have hlocks := B.notSynchronized
  subst hsz
  have hD := hD0.self (sz := s.heap.size)
  generalize hAe : va_A [] s.heap.size = A at hD hZ ⊢
  have hA : ∀ q : Nat, s.heap.size ≤ q → A q := fun q h => by rw [← hAe]; exact Or.inr h
  have hS : va_S A s.heap s.heap [] := va_S.rf
  have hP : va_P D vwCl [] s.heap := hP
  have hl := lv_entry ([.int a]) (n := 3) (Nat.le_of_ble_eq_true rfl)
  rw [lg_entry_eq]
  generalize (lg_sl ([.int a]) ++ List.replicate (3 - (lg_sl ([.int a])).length) Slot.unset).toArray = ls at hl ⊢
  have hl : lv_has ls 3 [(0, .int a)] := hl
  refine lv_iconst (v := 0) hx hb dX10_countBits_0 (by decide) ?_
  refine lv_istore_n (lv' := [(1, .int 0), (0, .int a)]) hx hb dX10_countBits_1 rfl hl (by decide) rfl (fun ls hl => ?_)
  refine lv_iload_n hx hb dX10_countBits_2 rfl (lv_at hl 1 rfl) ?_
  refine lv_istore_n (lv' := [(2, .int a), (1, .int 0), (0, .int a)]) hx hb dX10_countBits_3 rfl hl (by decide) rfl (fun ls hl => ?_)
  have loop : ∀ (n : Nat) (x9 y9 : Int32) (H : Heap) (locs : List Loc) (ls : Array Slot), x9.toBitVec.toNat ≤ n → va_P D vwCl [] H → va_D A [] → va_S A s.heap H locs → lv_has ls 3 [(2, .int x9), (1, .int y9), (0, .int a)] → W p l e (headSpec wsX10_countBits ({ frames := 0, cells := 0, slots := 0, locals := 0 } : Room)).room s m ([.int a] : List Value).toArray below meth c H locs 0 0 (MQ below (va_Qi (fun (r : Int32) (_ : Unit) => True) (fun (_ : Unit) t => Wq D A [] t) A) ([.int a] : List Value).toArray s 0 0 A) (F0 m 4 ls []) := by
    intro n
    induction n with
    | zero =>
      intro x9 y9 H locs ls hn hP hD hS hl
      refine lv_iload_n hx hb dX10_countBits_4 rfl (lv_at hl 0 rfl) ?_
      refine lv_if_eq (tgt := 20) hx hb dX10_countBits_5 (by decide) (fun c1 => ?_) (fun c9 => absurd c9 (fun h9 => h9 (cb_z hn)))
      refine lv_iload_n hx hb dX10_countBits_20 rfl (lv_at hl 1 rfl) ?_
      obtain ⟨hP9, hD9⟩ := PDq.sub (ws' := []) hP hD [] (by decide) rfl
      refine W.widen (k := 0) (n := 0) (Nat.le_of_ble_eq_true rfl) (Nat.le_of_ble_eq_true rfl) ?_
      exact (W.iret (v := y9) hx hb hr (fun t ht hW => ⟨⟨y9, (), rfl, trivial, by rw [ht]; exact hP9, hD9⟩, hS.F ht⟩) hS.2.2 dX10_countBits_21)
    | succ n ih =>
      intro x9 y9 H locs ls hn hP hD hS hl
      refine lv_iload_n hx hb dX10_countBits_4 rfl (lv_at hl 0 rfl) ?_
      refine lv_if_eq (tgt := 20) hx hb dX10_countBits_5 (by decide) (fun c2 => ?_) (fun c2 => ?_)
      · skip
        rw [c2] at hl
        have hl : lv_has ls 3 [(2, .int 0), (1, .int y9), (0, .int a)] := hl
        refine lv_iload_n hx hb dX10_countBits_20 rfl (lv_at hl 1 rfl) ?_
        obtain ⟨hP9, hD9⟩ := PDq.sub (ws' := []) hP hD [] (by decide) rfl
        refine W.widen (k := 0) (n := 0) (Nat.le_of_ble_eq_true rfl) (Nat.le_of_ble_eq_true rfl) ?_
        exact (W.iret (v := y9) hx hb hr (fun t ht hW => ⟨⟨y9, (), rfl, trivial, by rw [ht]; exact hP9, hD9⟩, hS.F ht⟩) hS.2.2 dX10_countBits_21)
      · skip
        refine lv_iinc (v := (y9 + 1)) (lv' := [(1, .int (y9 + 1)), (2, .int x9), (0, .int a)]) hx hb dX10_countBits_8 hl (k := 1) rfl rfl (by decide) rfl (fun ls hl => ?_)
        refine lv_iload_n hx hb dX10_countBits_11 rfl (lv_at hl 1 rfl) ?_
        refine lv_iload_n hx hb dX10_countBits_12 rfl (lv_at hl 1 rfl) ?_
        refine lv_iconst (v := 1) hx hb dX10_countBits_13 (by decide) ?_
        refine lv_isub hx hb dX10_countBits_14 ?_
        refine lv_topi (fun yn3 eyn3 => ?_)
        refine lv_iand hx hb dX10_countBits_15 ?_
        refine lv_topi (fun yn4 eyn4 => ?_)
        refine lv_istore_n (lv' := [(2, .int yn4), (1, .int (y9 + 1)), (0, .int a)]) hx hb dX10_countBits_16 rfl hl (by decide) rfl (fun ls hl => ?_)
        refine lv_goto (tgt := 4) hx hb dX10_countBits_17 (by decide) ?_
        exact ih yn4 (y9 + 1) H _ ls (by rw [eyn4, eyn3]; exact cb_lt c2 hn) (hP.sub [] rfl) (hD.sub [] (by decide) rfl) hS (lv_sub hl [0, 1, 2] rfl)
  exact loop _ a 0 _ _ ls (Nat.le_refl _) (hP.sub [] rfl) (hD.sub [] (by decide) rfl) hS (lv_sub hl [0, 1, 2] rfl)

set_option maxHeartbeats 4000000 in
set_option maxRecDepth 100000 in
/-- reference: missingProofs -/
theorem r_missingProofs (l : Launch) (D : va_G) (cA : Nat → ClassId) (sa : Nat → Nat) (w0 : Nat) (ed : Nat) (nb : Nat) (ol : Nat) (v0 : Nat) (v1 : Nat) (v2 : Nat) (v3 : Nat) (v4 : Nat) (v9 : Nat) (v13 : Nat) (v27 : Nat) (v28 : Nat) (v29 : Nat) (v30 : Nat) (v31 : Nat) (v32 : Nat) (v33 : Nat) (v34 : Nat) (v35 : Nat) (v36 : Nat) (v37 : Nat) (g8 : Int32) (g11 : Int32) (g12 : Int32) (g14 : Int32) (g15 : Int32) (g16 : Int32) (g17 : Int32) (g18 : Int32) (g19 : Int32) (g20 : Int32) (g21 : Int32) (g22 : Int32) (g23 : Int32) (g24 : Int32) (g26 : Int32) (g5 : Int64) (g6 : Int64) (g25 : Int64) (cn : Nat) (pq : Nat) (en : Nat) (dy : Nat) (fs : Nat → Int32) (fc : Nat → Int32) (fq : Nat → Int32) (fk : Nat → Int32) (i : Int32) (sz : Nat) (hcn : cn ≤ 10) (hpq : pq ≤ 8) (hen : en ≤ 60) (hdy : dy ≤ 20000) (hri : RI cn pq en dy fs) (hCW : CW cn fc fq) (hbit : Bit 400 fk) : Met l yX10_missingProofs wsX10_missingProofs ({ frames := 3, cells := 0, slots := 0, locals := 75 }) (va_Pc [.ref w0, .int i] (Wd D cA sa [(oX10 w0 v0 v1 v2 v3 v4 g5 g6 (nI ed) g8 v9 (nI nb) g11 g12 v13 g14 g15 g16 g17 g18 g19 g20 g21 g22 g23 g24 g25 g26 v27 v28 v29 v30 v31 v32 v33 v34 v35 v36 v37 (nI ol)), (v0, .inl (cA 0, 326, .inl fs)), (v31, .inl (cA 0, 400, .inl fc)), (v33, .inl (cA 0, 11, .inl fq)), (v35, .inl (cA 4, 400, .inl fk))] sz)) (va_Qi (fun (r : Int32) (_ : Unit) => True) (fun (_ : Unit) t => ∃ zt : Int32, ∃ zk : Nat → Int32, Bit 400 zk ∧ Wq D (va_A [(oX10 w0 v0 v1 v2 v3 v4 g5 g6 (nI ed) g8 v9 (nI nb) g11 g12 v13 g14 g15 g16 g17 g18 g19 g20 g21 g22 g23 g24 g25 g26 v27 v28 v29 v30 v31 v32 v33 v34 v35 v36 v37 (nI ol)), (v0, .inl (cA 0, 326, .inl fs)), (v31, .inl (cA 0, 400, .inl fc)), (v33, .inl (cA 0, 11, .inl fq)), (v35, .inl (cA 4, 400, .inl fk))] sz) [(oX10 w0 v0 v1 v2 v3 v4 g5 g6 (nI ed) zt v9 (nI nb) g11 g12 v13 g14 g15 g16 g17 g18 g19 g20 g21 g22 g23 g24 g25 g26 v27 v28 v29 v30 v31 v32 v33 v34 v35 v36 v37 (nI ol)), (v0, .inl (cA 0, 326, .inl fs)), (v31, .inl (cA 0, 400, .inl fc)), (v33, .inl (cA 0, 11, .inl fq)), (v35, .inl (cA 4, 400, .inl zk))] t) (va_A [(oX10 w0 v0 v1 v2 v3 v4 g5 g6 (nI ed) g8 v9 (nI nb) g11 g12 v13 g14 g15 g16 g17 g18 g19 g20 g21 g22 g23 g24 g25 g26 v27 v28 v29 v30 v31 v32 v33 v34 v35 v36 v37 (nI ol)), (v0, .inl (cA 0, 326, .inl fs)), (v31, .inl (cA 0, 400, .inl fc)), (v33, .inl (cA 0, 11, .inl fq)), (v35, .inl (cA 4, 400, .inl fk))] sz)) 0 0 (va_A [(oX10 w0 v0 v1 v2 v3 v4 g5 g6 (nI ed) g8 v9 (nI nb) g11 g12 v13 g14 g15 g16 g17 g18 g19 g20 g21 g22 g23 g24 g25 g26 v27 v28 v29 v30 v31 v32 v33 v34 v35 v36 v37 (nI ol)), (v0, .inl (cA 0, 326, .inl fs)), (v31, .inl (cA 0, 400, .inl fc)), (v33, .inl (cA 0, 11, .inl fq)), (v35, .inl (cA 4, 400, .inl fk))] sz) := by
  refine Met.ofW (cc := cX10_missingProofs) (maxL := 7) (ret := (some .int)) (by decide) rfl ?_
  intro p e s m args below meth c s₁ B hml hv
  obtain ⟨rfl, hsz, hP, hK, hD0, hC, hZ⟩ := hv
  have hx := B.exec
  have hb := B.bytes
  have hr := B.returns
  have hts := atoms_spec (ws := wsX10_missingProofs) B.pre
  have hown : s.vm.findClass RX10 = some m.cls := findClass_of_methodNamed B.named
  have hlocks := B.notSynchronized
  subst hsz
  have hD := hD0.self (sz := s.heap.size)
  generalize hAe : va_A [(oX10 w0 v0 v1 v2 v3 v4 g5 g6 (nI ed) g8 v9 (nI nb) g11 g12 v13 g14 g15 g16 g17 g18 g19 g20 g21 g22 g23 g24 g25 g26 v27 v28 v29 v30 v31 v32 v33 v34 v35 v36 v37 (nI ol)), (v0, .inl (cA 0, 326, .inl fs)), (v31, .inl (cA 0, 400, .inl fc)), (v33, .inl (cA 0, 11, .inl fq)), (v35, .inl (cA 4, 400, .inl fk))] s.heap.size = A at hD hZ ⊢
  have hA : ∀ q : Nat, s.heap.size ≤ q → A q := fun q h => by rw [← hAe]; exact Or.inr h
  have hS : va_S A s.heap s.heap [] := va_S.rf
  have hP : va_P D vwCl [(oX10 w0 v0 v1 v2 v3 v4 g5 g6 (nI ed) g8 v9 (nI nb) g11 g12 v13 g14 g15 g16 g17 g18 g19 g20 g21 g22 g23 g24 g25 g26 v27 v28 v29 v30 v31 v32 v33 v34 v35 v36 v37 (nI ol)), (v0, .inl (cA 0, 326, .inl fs)), (v31, .inl (cA 0, 400, .inl fc)), (v33, .inl (cA 0, 11, .inl fq)), (v35, .inl (cA 4, 400, .inl fk))] s.heap := hP
  have hl := lv_entry ([.ref w0, .int i]) (n := 7) (Nat.le_of_ble_eq_true rfl)
  rw [lg_entry_eq]
  generalize (lg_sl ([.ref w0, .int i]) ++ List.replicate (7 - (lg_sl ([.ref w0, .int i])).length) Slot.unset).toArray = ls at hl ⊢
  have hl : lv_has ls 7 [(0, .ref w0), (1, .int i)] := hl
  have inX10 : ∀ w ∈ u_ws RX10 TX10 39, w ∈ wsX10_missingProofs := by decide +kernel
  refine lv_aload_n hx hb dX10_missingProofs_0 rfl (lv_at hl 0 rfl) ?_
  refine lv_aload_n hx hb dX10_missingProofs_1 rfl (lv_at hl 0 rfl) ?_
  refine lv_iload_n hx hb dX10_missingProofs_2 rfl (lv_at hl 1 rfl) ?_
  obtain ⟨hPc, hDc, hFc⟩ := PDq.cut (wc := [(oX10 w0 v0 v1 v2 v3 v4 g5 g6 (nI ed) g8 v9 (nI nb) g11 g12 v13 g14 g15 g16 g17 g18 g19 g20 g21 g22 g23 g24 g25 g26 v27 v28 v29 v30 v31 v32 v33 v34 v35 v36 v37 (nI ol)), (v0, .inl (cA 0, 326, .inl fs))]) hP hD hS hA [0, 1] (by decide) rfl
  refine va_calli (va_runV (As := [.int i]) (rest := [.ref w0]) ⟨hx, hb, hml, hown, hts⟩ (r_isMilestone l D cA sa w0 ed nb ol v0 v1 v2 v3 v4 v9 v13 v27 v28 v29 v30 v31 v32 v33 v34 v35 v36 v37 g8 g11 g12 g14 g15 g16 g17 g18 g19 g20 g21 g22 g23 g24 g26 g5 g6 g25 cn pq en dy fs i s.heap.size hcn hpq hen hdy hri) (cwV 1 hts gX10_missingProofs_X10_isMilestone rfl rfl rfl (by decide +kernel) ⟨(Nat.le_of_ble_eq_true rfl), (Nat.le_of_ble_eq_true rfl)⟩) ⟨Wd.blind, va_recv hK hPc (ci := 11) (q0 := 0) rfl rfl, fun U hU hW => ⟨rfl, Wd.call hPc hDc hK hC hZ hS hFc U hU hW⟩⟩ rfl rfl hl.1 rfl (lv_room (Nat.le_of_ble_eq_true rfl)) dX10_missingProofs_3 ⟨(Nat.le_of_ble_eq_true rfl), (Nat.le_of_ble_eq_true rfl)⟩) hS (fun q _ h => hFc q h) hFc (fun rn1 u t H1 locs ht hvm hw hB hz1 hk1 hS => ?_)
  obtain ⟨hP1, hD1⟩ := hB
  rw [ht] at hP1
  obtain ⟨hP, hD⟩ := PDq.join (w := [(v31, .inl (cA 0, 400, .inl fc)), (v33, .inl (cA 0, 11, .inl fq)), (v35, .inl (cA 4, 400, .inl fk)), (oX10 w0 v0 v1 v2 v3 v4 g5 g6 (nI ed) g8 v9 (nI nb) g11 g12 v13 g14 g15 g16 g17 g18 g19 g20 g21 g22 g23 g24 g25 g26 v27 v28 v29 v30 v31 v32 v33 v34 v35 v36 v37 (nI ol)), (v0, .inl (cA 0, 326, .inl fs))]) 3 hP hD [0, 1] [2, 3, 4] rfl rfl (by decide) (by decide) hk1 hFc hP1 hD1 rfl
  generalize H1 = H at hP hS ⊢
  rcases hw with ⟨hr9, hn2⟩ | hr9
  · skip
    subst hr9
    obtain ⟨kn3, hn4, hn5⟩ := hn2
    rw [hn5] at hl
    have hl : lv_has ls 7 [(0, .ref w0), (1, .int (nI kn3))] := hl
    obtain ⟨hPc, hDc, hFc⟩ := PDq.cut (wc := [(oX10 w0 v0 v1 v2 v3 v4 g5 g6 (nI ed) g8 v9 (nI nb) g11 g12 v13 g14 g15 g16 g17 g18 g19 g20 g21 g22 g23 g24 g25 g26 v27 v28 v29 v30 v31 v32 v33 v34 v35 v36 v37 (nI ol))]) hP hD hS hA [3] (by decide) rfl
    refine va_calli (va_runV (As := [.int 1]) (rest := []) ⟨hx, hb, hml, hown, hts⟩ (r_good1 l D cA sa w0 ed nb ol v0 v1 v2 v3 v4 v9 v13 v27 v28 v29 v30 v31 v32 v33 v34 v35 v36 v37 g8 g11 g12 g14 g15 g16 g17 g18 g19 g20 g21 g22 g23 g24 g26 g5 g6 g25 H.size) (cwV 1 hts gX10_missingProofs_X10_good rfl rfl rfl (by decide +kernel) ⟨(Nat.le_of_ble_eq_true rfl), (Nat.le_of_ble_eq_true rfl)⟩) ⟨Wd.blind, va_recv hK hPc (ci := 11) (q0 := 0) rfl rfl, fun U hU hW => ⟨rfl, Wd.call hPc hDc hK hC hZ hS hFc U hU hW⟩⟩ rfl rfl hl.1 rfl (lv_room (Nat.le_of_ble_eq_true rfl)) dX10_missingProofs_6 ⟨(Nat.le_of_ble_eq_true rfl), (Nat.le_of_ble_eq_true rfl)⟩) hS (fun q _ h => hFc q h) hFc (fun rn6 u t H1 locs ht hvm hw hB hz1 hk1 hS => ?_)
    obtain ⟨hP1, hD1⟩ := hB
    rw [ht] at hP1
    obtain ⟨hP, hD⟩ := PDq.join (w := [(v31, .inl (cA 0, 400, .inl fc)), (v33, .inl (cA 0, 11, .inl fq)), (v35, .inl (cA 4, 400, .inl fk)), (v0, .inl (cA 0, 326, .inl fs)), (oX10 w0 v0 v1 v2 v3 v4 g5 g6 (nI ed) 0 v9 (nI nb) g11 g12 v13 g14 g15 g16 g17 g18 g19 g20 g21 g22 g23 g24 g25 g26 v27 v28 v29 v30 v31 v32 v33 v34 v35 v36 v37 (nI ol))]) 4 hP hD [3] [0, 1, 2, 4] rfl rfl (by decide) (by decide) hk1 hFc hP1 hD1 rfl
    generalize H1 = H at hP hS ⊢
    obtain rfl : rn6 = 1 := hw
    refine lv_if_ne (tgt := 14) hx hb dX10_missingProofs_9 (by decide) (fun c7 => ?_) (fun c9 => absurd c9 (by decide))
    refine lv_aload_n hx hb dX10_missingProofs_14 rfl (lv_at hl 0 rfl) ?_
    obtain ⟨hPc, hDc, hFc⟩ := PDq.cut (wc := [(oX10 w0 v0 v1 v2 v3 v4 g5 g6 (nI ed) 0 v9 (nI nb) g11 g12 v13 g14 g15 g16 g17 g18 g19 g20 g21 g22 g23 g24 g25 g26 v27 v28 v29 v30 v31 v32 v33 v34 v35 v36 v37 (nI ol)), (v0, .inl (cA 0, 326, .inl fs))]) hP hD hS hA [4, 3] (by decide) rfl
    refine va_calli (va_runV (As := []) (rest := []) ⟨hx, hb, hml, hown, hts⟩ (r_doneSet l D cA sa w0 ed nb ol v0 v1 v2 v3 v4 v9 v13 v27 v28 v29 v30 v31 v32 v33 v34 v35 v36 v37 0 g11 g12 g14 g15 g16 g17 g18 g19 g20 g21 g22 g23 g24 g26 g5 g6 g25 cn pq en dy fs H.size hcn hpq hen hdy hri) (cwV 0 hts gX10_missingProofs_X10_doneSet rfl rfl rfl (by decide +kernel) ⟨(Nat.le_of_ble_eq_true rfl), (Nat.le_of_ble_eq_true rfl)⟩) ⟨Wd.blind, va_recv hK hPc (ci := 11) (q0 := 0) rfl rfl, fun U hU hW => ⟨rfl, Wd.call hPc hDc hK hC hZ hS hFc U hU hW⟩⟩ rfl rfl hl.1 rfl (lv_room (Nat.le_of_ble_eq_true rfl)) dX10_missingProofs_15 ⟨(Nat.le_of_ble_eq_true rfl), (Nat.le_of_ble_eq_true rfl)⟩) hS (fun q _ h => hFc q h) hFc (fun rn8 u t H1 locs ht hvm hw hB hz1 hk1 hS => ?_)
    obtain ⟨hP1, hD1⟩ := hB
    rw [ht] at hP1
    obtain ⟨hP, hD⟩ := PDq.join (w := [(v31, .inl (cA 0, 400, .inl fc)), (v33, .inl (cA 0, 11, .inl fq)), (v35, .inl (cA 4, 400, .inl fk)), (oX10 w0 v0 v1 v2 v3 v4 g5 g6 (nI ed) 0 v9 (nI nb) g11 g12 v13 g14 g15 g16 g17 g18 g19 g20 g21 g22 g23 g24 g25 g26 v27 v28 v29 v30 v31 v32 v33 v34 v35 v36 v37 (nI ol)), (v0, .inl (cA 0, 326, .inl fs))]) 3 hP hD [4, 3] [0, 1, 2] rfl rfl (by decide) (by decide) hk1 hFc hP1 hD1 rfl
    generalize H1 = H at hP hS ⊢
    refine lv_istore_n (lv' := [(2, .int rn8), (0, .ref w0), (1, .int (nI kn3))]) hx hb dX10_missingProofs_18 rfl hl (by decide) rfl (fun ls hl => ?_)
    refine lv_iconst (v := (-1)) hx hb dX10_missingProofs_19 (by decide) ?_
    refine lv_istore_n (lv' := [(3, .int (-1)), (2, .int rn8), (0, .ref w0), (1, .int (nI kn3))]) hx hb dX10_missingProofs_20 rfl hl (by decide) rfl (fun ls hl => ?_)
    refine lv_iconst (v := 0) hx hb dX10_missingProofs_21 (by decide) ?_
    refine lv_istore (lv' := [(4, .int 0), (3, .int (-1)), (2, .int rn8), (0, .ref w0), (1, .int (nI kn3))]) hx hb dX10_missingProofs_22 hl (by decide) rfl (fun ls hl => ?_)
    have loop1 : ∀ (n1 i1 : Nat) (x3_1 : Int32) (f2_1 : Nat → Int32) (H : Heap) (locs : List Loc) (ls : Array Slot), i1 + n1 = 1025 → Bit 400 f2_1 → va_P D vwCl [(v31, .inl (cA 0, 400, .inl fc)), (v33, .inl (cA 0, 11, .inl fq)), (v35, .inl (cA 4, 400, .inl f2_1)), (oX10 w0 v0 v1 v2 v3 v4 g5 g6 (nI ed) 0 v9 (nI nb) g11 g12 v13 g14 g15 g16 g17 g18 g19 g20 g21 g22 g23 g24 g25 g26 v27 v28 v29 v30 v31 v32 v33 v34 v35 v36 v37 (nI ol)), (v0, .inl (cA 0, 326, .inl fs))] H → va_D A [(v31, .inl (cA 0, 400, .inl fc)), (v33, .inl (cA 0, 11, .inl fq)), (v35, .inl (cA 4, 400, .inl f2_1)), (oX10 w0 v0 v1 v2 v3 v4 g5 g6 (nI ed) 0 v9 (nI nb) g11 g12 v13 g14 g15 g16 g17 g18 g19 g20 g21 g22 g23 g24 g25 g26 v27 v28 v29 v30 v31 v32 v33 v34 v35 v36 v37 (nI ol)), (v0, .inl (cA 0, 326, .inl fs))] → va_S A s.heap H locs → lv_has ls 7 [(4, .int (nI i1)), (3, .int x3_1), (2, .int rn8), (0, .ref w0), (1, .int (nI kn3))] → W p l e (headSpec wsX10_missingProofs ({ frames := 3, cells := 0, slots := 0, locals := 75 } : Room)).room s m ([.ref w0, .int i] : List Value).toArray below meth c H locs 0 0 (MQ below (va_Qi (fun (r : Int32) (_ : Unit) => True) (fun (_ : Unit) t => ∃ zt : Int32, ∃ zk : Nat → Int32, Bit 400 zk ∧ Wq D A [(oX10 w0 v0 v1 v2 v3 v4 g5 g6 (nI ed) zt v9 (nI nb) g11 g12 v13 g14 g15 g16 g17 g18 g19 g20 g21 g22 g23 g24 g25 g26 v27 v28 v29 v30 v31 v32 v33 v34 v35 v36 v37 (nI ol)), (v0, .inl (cA 0, 326, .inl fs)), (v31, .inl (cA 0, 400, .inl fc)), (v33, .inl (cA 0, 11, .inl fq)), (v35, .inl (cA 4, 400, .inl zk))] t) A) ([.ref w0, .int i] : List Value).toArray s 0 0 A) (F0 m 24 ls []) := by
      intro n1
      induction n1 with
      | zero =>
        intro i1 x3_1 f2_1 H locs ls hi1 hf0_1 hP hD hS hl
        obtain rfl : 1025 = i1 := by omega
        refine lv_iload hx hb dX10_missingProofs_24 (lv_at hl 0 rfl) ?_
        refine lv_iconst (v := 1) hx hb dX10_missingProofs_26 (by decide) ?_
        refine lv_aload_n hx hb dX10_missingProofs_27 rfl (lv_at hl 3 rfl) ?_
        refine va_get (D := D) (ci := 11) (v := .ref v0) (C := RX10) (T := TX10) (N := 39) hx hb hts inX10 hown hK hP 3 rfl rfl 0 (by decide) (hts (.fieldLink RX10 7 "EscrowDeskModel" "s" "[I") (by decide +kernel)) (fun _ h9 => h9) rfl dX10_missingProofs_28 ?_
        refine lv_bipush (v := 14) hx hb dX10_missingProofs_31 (by decide) ?_
        refine va_iald hx hb hK hP 4 0 rfl rfl (vp_in_iff.mpr (by decide)) dX10_missingProofs_33 ?_
        refine lv_topi (fun yn9 eyn9 => ?_)
        obtain rfl : yn9 = (nI pq) := eyn9.trans hri.2.1
        obtain ⟨kn10, hn11, hn12⟩ := sh1 (q := pq) (by omega)
        refine lv_ishl hx hb dX10_missingProofs_34 ?_
        refine lv_topi (fun yn13 eyn13 => ?_)
        obtain rfl : yn13 = (nI kn10) := eyn13.trans hn12
        refine lv_icmp_ge (tgt := 126) hx hb dX10_missingProofs_35 (by decide) (fun c14 => ?_) (fun c9 => absurd (nI_le (a := kn10) (b := 1025) (show kn10 ≤ 1025 by omega) (by omega)) c9)
        refine lv_iload_n hx hb dX10_missingProofs_126 rfl (lv_at hl 1 rfl) ?_
        obtain ⟨hP9, hD9⟩ := PDq.sub (ws' := [(oX10 w0 v0 v1 v2 v3 v4 g5 g6 (nI ed) 0 v9 (nI nb) g11 g12 v13 g14 g15 g16 g17 g18 g19 g20 g21 g22 g23 g24 g25 g26 v27 v28 v29 v30 v31 v32 v33 v34 v35 v36 v37 (nI ol)), (v0, .inl (cA 0, 326, .inl fs)), (v31, .inl (cA 0, 400, .inl fc)), (v33, .inl (cA 0, 11, .inl fq)), (v35, .inl (cA 4, 400, .inl f2_1))]) hP hD [3, 4, 0, 1, 2] (by decide) rfl
        refine W.widen (k := 0) (n := 0) (Nat.le_of_ble_eq_true rfl) (Nat.le_of_ble_eq_true rfl) ?_
        exact (W.iret (v := x3_1) hx hb hr (fun t ht hW => ⟨⟨x3_1, (), rfl, trivial, 0, f2_1, hf0_1, by rw [ht]; exact hP9, hD9⟩, hS.F ht⟩) hS.2.2 dX10_missingProofs_127)
      | succ n1 ih1 =>
        intro i1 x3_1 f2_1 H locs ls hi1 hf0_1 hP hD hS hl
        refine lv_iload hx hb dX10_missingProofs_24 (lv_at hl 0 rfl) ?_
        refine lv_iconst (v := 1) hx hb dX10_missingProofs_26 (by decide) ?_
        refine lv_aload_n hx hb dX10_missingProofs_27 rfl (lv_at hl 3 rfl) ?_
        refine va_get (D := D) (ci := 11) (v := .ref v0) (C := RX10) (T := TX10) (N := 39) hx hb hts inX10 hown hK hP 3 rfl rfl 0 (by decide) (hts (.fieldLink RX10 7 "EscrowDeskModel" "s" "[I") (by decide +kernel)) (fun _ h9 => h9) rfl dX10_missingProofs_28 ?_
        refine lv_bipush (v := 14) hx hb dX10_missingProofs_31 (by decide) ?_
        refine va_iald hx hb hK hP 4 0 rfl rfl (vp_in_iff.mpr (by decide)) dX10_missingProofs_33 ?_
        refine lv_topi (fun yn15 eyn15 => ?_)
        obtain rfl : yn15 = (nI pq) := eyn15.trans hri.2.1
        obtain ⟨kn16, hn17, hn18⟩ := sh1 (q := pq) (by omega)
        refine lv_ishl hx hb dX10_missingProofs_34 ?_
        refine lv_topi (fun yn19 eyn19 => ?_)
        obtain rfl : yn19 = (nI kn16) := eyn19.trans hn18
        refine lv_icmp_ge (tgt := 126) hx hb dX10_missingProofs_35 (by decide) (fun c20 => ?_) (fun c20 => ?_)
        · skip
          have hn21 : kn16 ≤ i1 := (nI_leI (a := kn16) (b := i1) (by omega) (by omega)).mp c20
          refine lv_iload_n hx hb dX10_missingProofs_126 rfl (lv_at hl 1 rfl) ?_
          obtain ⟨hP9, hD9⟩ := PDq.sub (ws' := [(oX10 w0 v0 v1 v2 v3 v4 g5 g6 (nI ed) 0 v9 (nI nb) g11 g12 v13 g14 g15 g16 g17 g18 g19 g20 g21 g22 g23 g24 g25 g26 v27 v28 v29 v30 v31 v32 v33 v34 v35 v36 v37 (nI ol)), (v0, .inl (cA 0, 326, .inl fs)), (v31, .inl (cA 0, 400, .inl fc)), (v33, .inl (cA 0, 11, .inl fq)), (v35, .inl (cA 4, 400, .inl f2_1))]) hP hD [3, 4, 0, 1, 2] (by decide) rfl
          refine W.widen (k := 0) (n := 0) (Nat.le_of_ble_eq_true rfl) (Nat.le_of_ble_eq_true rfl) ?_
          exact (W.iret (v := x3_1) hx hb hr (fun t ht hW => ⟨⟨x3_1, (), rfl, trivial, 0, f2_1, hf0_1, by rw [ht]; exact hP9, hD9⟩, hS.F ht⟩) hS.2.2 dX10_missingProofs_127)
        · skip
          have hn22 : i1 < kn16 := Nat.lt_of_not_le (fun h9 => c20 (nI_le (a := kn16) (b := i1) h9 (by omega)))
          refine lv_iload hx hb dX10_missingProofs_38 (lv_at hl 0 rfl) ?_
          refine lv_aload_n hx hb dX10_missingProofs_40 rfl (lv_at hl 3 rfl) ?_
          refine va_get (D := D) (ci := 11) (v := .ref v0) (C := RX10) (T := TX10) (N := 39) hx hb hts inX10 hown hK hP 3 rfl rfl 0 (by decide) (hts (.fieldLink RX10 7 "EscrowDeskModel" "s" "[I") (by decide +kernel)) (fun _ h9 => h9) rfl dX10_missingProofs_41 ?_
          refine lv_bipush (v := 12) hx hb dX10_missingProofs_44 (by decide) ?_
          refine va_iald hx hb hK hP 4 0 rfl rfl (vp_in_iff.mpr (by decide)) dX10_missingProofs_46 ?_
          refine lv_topi (fun yn23 eyn23 => ?_)
          refine lv_iand hx hb dX10_missingProofs_47 ?_
          refine lv_topi (fun yn24 eyn24 => ?_)
          refine lv_if_ne (tgt := 55) hx hb dX10_missingProofs_48 (by decide) (fun c25 => ?_) (fun c25 => ?_)
          · skip
            refine lv_iconst (v := 0) hx hb dX10_missingProofs_55 (by decide) ?_
            refine lv_istore (lv' := [(5, .int 0), (4, .int (nI i1)), (3, .int x3_1), (2, .int rn8), (0, .ref w0), (1, .int (nI kn3))]) hx hb dX10_missingProofs_56 hl (by decide) rfl (fun ls hl => ?_)
            refine lv_iload_n hx hb dX10_missingProofs_58 rfl (lv_at hl 2 rfl) ?_
            refine lv_iconst (v := (-1)) hx hb dX10_missingProofs_59 (by decide) ?_
            refine lv_icmp_eq (tgt := 75) hx hb dX10_missingProofs_60 (by decide) (fun c26 => ?_) (fun c26 => ?_)
            · skip
              rw [c26] at hl
              have hl : lv_has ls 7 [(5, .int 0), (4, .int (nI i1)), (3, .int (-1)), (2, .int rn8), (0, .ref w0), (1, .int (nI kn3))] := hl
              refine lv_iconst (v := 1) hx hb dX10_missingProofs_75 (by decide) ?_
              refine lv_goto (tgt := 80) hx hb dX10_missingProofs_76 (by decide) ?_
              refine lv_istore (lv' := [(6, .int 1), (5, .int 0), (4, .int (nI i1)), (3, .int (-1)), (2, .int rn8), (0, .ref w0), (1, .int (nI kn3))]) hx hb dX10_missingProofs_80 hl (by decide) rfl (fun ls hl => ?_)
              refine lv_iload hx hb dX10_missingProofs_82 (lv_at hl 1 rfl) ?_
              refine lv_if_eq (tgt := 120) hx hb dX10_missingProofs_84 (by decide) (fun c27 => ?_) (fun c9 => absurd c9 (by decide))
              refine lv_iinc (v := (nI (i1 + 1))) (lv' := [(4, .int (nI (i1 + 1))), (6, .int 1), (5, .int 0), (3, .int (-1)), (2, .int rn8), (0, .ref w0), (1, .int (nI kn3))]) hx hb dX10_missingProofs_120 hl (k := 2) rfl (nI_1 _) (by decide) rfl (fun ls hl => ?_)
              refine lv_goto (tgt := 24) hx hb dX10_missingProofs_123 (by decide) ?_
              obtain ⟨hP9, hD9⟩ := PDq.sub (ws' := [(v31, .inl (cA 0, 400, .inl fc)), (v33, .inl (cA 0, 11, .inl fq)), (v35, .inl (cA 4, 400, .inl f2_1)), (oX10 w0 v0 v1 v2 v3 v4 g5 g6 (nI ed) 0 v9 (nI nb) g11 g12 v13 g14 g15 g16 g17 g18 g19 g20 g21 g22 g23 g24 g25 g26 v27 v28 v29 v30 v31 v32 v33 v34 v35 v36 v37 (nI ol)), (v0, .inl (cA 0, 326, .inl fs))]) hP hD [0, 1, 2, 3, 4] (by decide) rfl
              exact ih1 (i1 + 1) (-1) f2_1 H _ ls (by omega) hf0_1 hP9 hD9 hS (lv_sub hl [0, 3, 4, 5, 6] rfl)
            · skip
              refine lv_iload hx hb dX10_missingProofs_63 (lv_at hl 1 rfl) ?_
              obtain ⟨hPc, hDc, hFc⟩ := PDq.cut (wc := []) hP hD hS hA [] (by decide) rfl
              refine va_calli (va_runS (As := [.int (nI i1)]) (rest := []) ⟨hx, hb, hml, hown, hts⟩ (r_countBits l D cA sa (nI i1) H.size) (va_cwS 1 hts gX10_missingProofs_X10_countBits rfl rfl rfl (by decide +kernel) ⟨(Nat.le_of_ble_eq_true rfl), (Nat.le_of_ble_eq_true rfl)⟩) ⟨Wd.blind, fun U hU hW => ⟨rfl, Wd.call hPc hDc hK hC hZ hS hFc U hU hW⟩⟩ rfl rfl hl.1 rfl (lv_room (Nat.le_of_ble_eq_true rfl)) dX10_missingProofs_65 ⟨(Nat.le_of_ble_eq_true rfl), (Nat.le_of_ble_eq_true rfl)⟩) hS (fun q _ h => hFc q h) hFc (fun rn28 u t H1 locs ht hvm hw hB hz1 hk1 hS => ?_)
              obtain ⟨hP1, hD1⟩ := hB
              rw [ht] at hP1
              obtain ⟨hP, hD⟩ := PDq.join (w := [(v31, .inl (cA 0, 400, .inl fc)), (v33, .inl (cA 0, 11, .inl fq)), (v35, .inl (cA 4, 400, .inl f2_1)), (oX10 w0 v0 v1 v2 v3 v4 g5 g6 (nI ed) 0 v9 (nI nb) g11 g12 v13 g14 g15 g16 g17 g18 g19 g20 g21 g22 g23 g24 g25 g26 v27 v28 v29 v30 v31 v32 v33 v34 v35 v36 v37 (nI ol)), (v0, .inl (cA 0, 326, .inl fs))]) 5 hP hD [] [0, 1, 2, 3, 4] rfl rfl (by decide) (by decide) hk1 hFc hP1 hD1 rfl
              generalize H1 = H at hP hS ⊢
              refine lv_iload_n hx hb dX10_missingProofs_68 rfl (lv_at hl 2 rfl) ?_
              obtain ⟨hPc, hDc, hFc⟩ := PDq.cut (wc := []) hP hD hS hA [] (by decide) rfl
              refine va_calli (va_runS (As := [.int x3_1]) (rest := [.int rn28]) ⟨hx, hb, hml, hown, hts⟩ (r_countBits l D cA sa x3_1 H.size) (va_cwS 1 hts gX10_missingProofs_X10_countBits rfl rfl rfl (by decide +kernel) ⟨(Nat.le_of_ble_eq_true rfl), (Nat.le_of_ble_eq_true rfl)⟩) ⟨Wd.blind, fun U hU hW => ⟨rfl, Wd.call hPc hDc hK hC hZ hS hFc U hU hW⟩⟩ rfl rfl hl.1 rfl (lv_room (Nat.le_of_ble_eq_true rfl)) dX10_missingProofs_69 ⟨(Nat.le_of_ble_eq_true rfl), (Nat.le_of_ble_eq_true rfl)⟩) hS (fun q _ h => hFc q h) hFc (fun rn29 u t H1 locs ht hvm hw hB hz1 hk1 hS => ?_)
              obtain ⟨hP1, hD1⟩ := hB
              rw [ht] at hP1
              obtain ⟨hP, hD⟩ := PDq.join (w := [(v31, .inl (cA 0, 400, .inl fc)), (v33, .inl (cA 0, 11, .inl fq)), (v35, .inl (cA 4, 400, .inl f2_1)), (oX10 w0 v0 v1 v2 v3 v4 g5 g6 (nI ed) 0 v9 (nI nb) g11 g12 v13 g14 g15 g16 g17 g18 g19 g20 g21 g22 g23 g24 g25 g26 v27 v28 v29 v30 v31 v32 v33 v34 v35 v36 v37 (nI ol)), (v0, .inl (cA 0, 326, .inl fs))]) 5 hP hD [] [0, 1, 2, 3, 4] rfl rfl (by decide) (by decide) hk1 hFc hP1 hD1 rfl
              generalize H1 = H at hP hS ⊢
              refine lv_icmp_ge (tgt := 79) hx hb dX10_missingProofs_72 (by decide) (fun c30 => ?_) (fun c30 => ?_)
              · skip
                refine lv_iconst (v := 0) hx hb dX10_missingProofs_79 (by decide) ?_
                refine lv_istore (lv' := [(6, .int 0), (5, .int 0), (4, .int (nI i1)), (3, .int x3_1), (2, .int rn8), (0, .ref w0), (1, .int (nI kn3))]) hx hb dX10_missingProofs_80 hl (by decide) rfl (fun ls hl => ?_)
                refine lv_iload hx hb dX10_missingProofs_82 (lv_at hl 1 rfl) ?_
                refine lv_if_eq (tgt := 120) hx hb dX10_missingProofs_84 (by decide) (fun c31 => ?_) (fun c9 => absurd c9 (by decide))
                refine lv_iinc (v := (nI (i1 + 1))) (lv' := [(4, .int (nI (i1 + 1))), (6, .int 0), (5, .int 0), (3, .int x3_1), (2, .int rn8), (0, .ref w0), (1, .int (nI kn3))]) hx hb dX10_missingProofs_120 hl (k := 2) rfl (nI_1 _) (by decide) rfl (fun ls hl => ?_)
                refine lv_goto (tgt := 24) hx hb dX10_missingProofs_123 (by decide) ?_
                obtain ⟨hP9, hD9⟩ := PDq.sub (ws' := [(v31, .inl (cA 0, 400, .inl fc)), (v33, .inl (cA 0, 11, .inl fq)), (v35, .inl (cA 4, 400, .inl f2_1)), (oX10 w0 v0 v1 v2 v3 v4 g5 g6 (nI ed) 0 v9 (nI nb) g11 g12 v13 g14 g15 g16 g17 g18 g19 g20 g21 g22 g23 g24 g25 g26 v27 v28 v29 v30 v31 v32 v33 v34 v35 v36 v37 (nI ol)), (v0, .inl (cA 0, 326, .inl fs))]) hP hD [0, 1, 2, 3, 4] (by decide) rfl
                exact ih1 (i1 + 1) x3_1 f2_1 H _ ls (by omega) hf0_1 hP9 hD9 hS (lv_sub hl [0, 3, 4, 5, 6] rfl)
              · skip
                refine lv_iconst (v := 1) hx hb dX10_missingProofs_75 (by decide) ?_
                refine lv_goto (tgt := 80) hx hb dX10_missingProofs_76 (by decide) ?_
                refine lv_istore (lv' := [(6, .int 1), (5, .int 0), (4, .int (nI i1)), (3, .int x3_1), (2, .int rn8), (0, .ref w0), (1, .int (nI kn3))]) hx hb dX10_missingProofs_80 hl (by decide) rfl (fun ls hl => ?_)
                refine lv_iload hx hb dX10_missingProofs_82 (lv_at hl 1 rfl) ?_
                refine lv_if_eq (tgt := 120) hx hb dX10_missingProofs_84 (by decide) (fun c32 => ?_) (fun c9 => absurd c9 (by decide))
                refine lv_iinc (v := (nI (i1 + 1))) (lv' := [(4, .int (nI (i1 + 1))), (6, .int 1), (5, .int 0), (3, .int x3_1), (2, .int rn8), (0, .ref w0), (1, .int (nI kn3))]) hx hb dX10_missingProofs_120 hl (k := 2) rfl (nI_1 _) (by decide) rfl (fun ls hl => ?_)
                refine lv_goto (tgt := 24) hx hb dX10_missingProofs_123 (by decide) ?_
                obtain ⟨hP9, hD9⟩ := PDq.sub (ws' := [(v31, .inl (cA 0, 400, .inl fc)), (v33, .inl (cA 0, 11, .inl fq)), (v35, .inl (cA 4, 400, .inl f2_1)), (oX10 w0 v0 v1 v2 v3 v4 g5 g6 (nI ed) 0 v9 (nI nb) g11 g12 v13 g14 g15 g16 g17 g18 g19 g20 g21 g22 g23 g24 g25 g26 v27 v28 v29 v30 v31 v32 v33 v34 v35 v36 v37 (nI ol)), (v0, .inl (cA 0, 326, .inl fs))]) hP hD [0, 1, 2, 3, 4] (by decide) rfl
                exact ih1 (i1 + 1) x3_1 f2_1 H _ ls (by omega) hf0_1 hP9 hD9 hS (lv_sub hl [0, 3, 4, 5, 6] rfl)
          · skip
            refine lv_iconst (v := 1) hx hb dX10_missingProofs_51 (by decide) ?_
            refine lv_goto (tgt := 56) hx hb dX10_missingProofs_52 (by decide) ?_
            refine lv_istore (lv' := [(5, .int 1), (4, .int (nI i1)), (3, .int x3_1), (2, .int rn8), (0, .ref w0), (1, .int (nI kn3))]) hx hb dX10_missingProofs_56 hl (by decide) rfl (fun ls hl => ?_)
            refine lv_iload_n hx hb dX10_missingProofs_58 rfl (lv_at hl 2 rfl) ?_
            refine lv_iconst (v := (-1)) hx hb dX10_missingProofs_59 (by decide) ?_
            refine lv_icmp_eq (tgt := 75) hx hb dX10_missingProofs_60 (by decide) (fun c33 => ?_) (fun c33 => ?_)
            · skip
              rw [c33] at hl
              have hl : lv_has ls 7 [(5, .int 1), (4, .int (nI i1)), (3, .int (-1)), (2, .int rn8), (0, .ref w0), (1, .int (nI kn3))] := hl
              refine lv_iconst (v := 1) hx hb dX10_missingProofs_75 (by decide) ?_
              refine lv_goto (tgt := 80) hx hb dX10_missingProofs_76 (by decide) ?_
              refine lv_istore (lv' := [(6, .int 1), (5, .int 1), (4, .int (nI i1)), (3, .int (-1)), (2, .int rn8), (0, .ref w0), (1, .int (nI kn3))]) hx hb dX10_missingProofs_80 hl (by decide) rfl (fun ls hl => ?_)
              refine lv_iload hx hb dX10_missingProofs_82 (lv_at hl 1 rfl) ?_
              refine lv_if_eq (tgt := 120) hx hb dX10_missingProofs_84 (by decide) (fun c9 => absurd c9 (by decide)) (fun c34 => ?_)
              refine lv_iload hx hb dX10_missingProofs_87 (lv_at hl 0 rfl) ?_
              refine lv_if_eq (tgt := 120) hx hb dX10_missingProofs_89 (by decide) (fun c9 => absurd c9 (by decide)) (fun c35 => ?_)
              refine lv_aload_n hx hb dX10_missingProofs_92 rfl (lv_at hl 5 rfl) ?_
              refine lv_iload_n hx hb dX10_missingProofs_93 rfl (lv_at hl 6 rfl) ?_
              refine lv_aload_n hx hb dX10_missingProofs_94 rfl (lv_at hl 5 rfl) ?_
              refine va_get (D := D) (ci := 11) (v := .ref v0) (C := RX10) (T := TX10) (N := 39) hx hb hts inX10 hown hK hP 3 rfl rfl 0 (by decide) (hts (.fieldLink RX10 7 "EscrowDeskModel" "s" "[I") (by decide +kernel)) (fun _ h9 => h9) rfl dX10_missingProofs_95 ?_
              refine lv_iconst (v := 4) hx hb dX10_missingProofs_98 (by decide) ?_
              refine va_iald hx hb hK hP 4 0 rfl rfl (vp_in_iff.mpr (by decide)) dX10_missingProofs_99 ?_
              refine lv_topi (fun yn36 eyn36 => ?_)
              obtain rfl : yn36 = (nI dy) := eyn36.trans hri.2.2.2.1
              refine lv_aload_n hx hb dX10_missingProofs_100 rfl (lv_at hl 5 rfl) ?_
              refine va_get (D := D) (ci := 11) (v := .ref v0) (C := RX10) (T := TX10) (N := 39) hx hb hts inX10 hown hK hP 3 rfl rfl 0 (by decide) (hts (.fieldLink RX10 7 "EscrowDeskModel" "s" "[I") (by decide +kernel)) (fun _ h9 => h9) rfl dX10_missingProofs_101 ?_
              refine lv_bipush (v := 12) hx hb dX10_missingProofs_104 (by decide) ?_
              refine va_iald hx hb hK hP 4 0 rfl rfl (vp_in_iff.mpr (by decide)) dX10_missingProofs_106 ?_
              refine lv_topi (fun yn37 eyn37 => ?_)
              refine lv_iload hx hb dX10_missingProofs_107 (lv_at hl 2 rfl) ?_
              refine lv_ior hx hb dX10_missingProofs_109 ?_
              refine lv_topi (fun yn38 eyn38 => ?_)
              refine lv_iload_n hx hb dX10_missingProofs_110 rfl (lv_at hl 4 rfl) ?_
              obtain ⟨hPc, hDc, hFc⟩ := PDq.cut (wc := [(oX10 w0 v0 v1 v2 v3 v4 g5 g6 (nI ed) 0 v9 (nI nb) g11 g12 v13 g14 g15 g16 g17 g18 g19 g20 g21 g22 g23 g24 g25 g26 v27 v28 v29 v30 v31 v32 v33 v34 v35 v36 v37 (nI ol)), (v0, .inl (cA 0, 326, .inl fs)), (v31, .inl (cA 0, 400, .inl fc)), (v33, .inl (cA 0, 11, .inl fq)), (v35, .inl (cA 4, 400, .inl f2_1))]) hP hD hS hA [3, 4, 0, 1, 2] (by decide) rfl
              refine va_calli (va_runV (As := [.int (nI kn3), .int (nI dy), .int yn38, .int rn8]) (rest := []) ⟨hx, hb, hml, hown, hts⟩ (r_holdsBy l D cA sa w0 ed nb ol v0 v1 v2 v3 v4 v9 v13 v27 v28 v29 v30 v31 v32 v33 v34 v35 v36 v37 0 g11 g12 g14 g15 g16 g17 g18 g19 g20 g21 g22 g23 g24 g26 g5 g6 g25 cn pq en dy fs fc fq f2_1 kn3 (nI dy) yn38 rn8 H.size hcn hpq hen hdy hri hCW hf0_1 (by omega)) (cwV 4 hts gX10_missingProofs_X10_holdsBy rfl rfl rfl (by decide +kernel) ⟨(Nat.le_of_ble_eq_true rfl), (Nat.le_of_ble_eq_true rfl)⟩) ⟨Wd.blind, va_recv hK hPc (ci := 11) (q0 := 0) rfl rfl, fun U hU hW => ⟨rfl, Wd.call hPc hDc hK hC hZ hS hFc U hU hW⟩⟩ rfl rfl hl.1 rfl (lv_room (Nat.le_of_ble_eq_true rfl)) dX10_missingProofs_111 ⟨(Nat.le_of_ble_eq_true rfl), (Nat.le_of_ble_eq_true rfl)⟩) hS (fun q _ h => hFc q h) hFc (fun rn39 u t H1 locs ht hvm hw hB hz1 hk1 hS => ?_)
              obtain ⟨fn40, hn41, hP1, hD1⟩ := hB
              rw [ht] at hP1
              obtain ⟨hP, hD⟩ := PDq.join (w := [(oX10 w0 v0 v1 v2 v3 v4 g5 g6 (nI ed) 0 v9 (nI nb) g11 g12 v13 g14 g15 g16 g17 g18 g19 g20 g21 g22 g23 g24 g25 g26 v27 v28 v29 v30 v31 v32 v33 v34 v35 v36 v37 (nI ol)), (v0, .inl (cA 0, 326, .inl fs)), (v31, .inl (cA 0, 400, .inl fc)), (v33, .inl (cA 0, 11, .inl fq)), (v35, .inl (cA 4, 400, .inl fn40))]) 0 hP hD [3, 4, 0, 1, 2] [] rfl rfl (by decide) (by decide) hk1 hFc hP1 hD1 rfl
              generalize H1 = H at hP hS ⊢
              have hn42 := hw
              refine lv_if_eq (tgt := 120) hx hb dX10_missingProofs_114 (by decide) (fun c43 => ?_) (fun c43 => ?_)
              · skip
                refine lv_iinc (v := (nI (i1 + 1))) (lv' := [(4, .int (nI (i1 + 1))), (6, .int 1), (5, .int 1), (3, .int (-1)), (2, .int rn8), (0, .ref w0), (1, .int (nI kn3))]) hx hb dX10_missingProofs_120 hl (k := 2) rfl (nI_1 _) (by decide) rfl (fun ls hl => ?_)
                refine lv_goto (tgt := 24) hx hb dX10_missingProofs_123 (by decide) ?_
                obtain ⟨hP9, hD9⟩ := PDq.sub (ws' := [(v31, .inl (cA 0, 400, .inl fc)), (v33, .inl (cA 0, 11, .inl fq)), (v35, .inl (cA 4, 400, .inl fn40)), (oX10 w0 v0 v1 v2 v3 v4 g5 g6 (nI ed) 0 v9 (nI nb) g11 g12 v13 g14 g15 g16 g17 g18 g19 g20 g21 g22 g23 g24 g25 g26 v27 v28 v29 v30 v31 v32 v33 v34 v35 v36 v37 (nI ol)), (v0, .inl (cA 0, 326, .inl fs))]) hP hD [2, 3, 4, 0, 1] (by decide) rfl
                exact ih1 (i1 + 1) (-1) fn40 H _ ls (by omega) hn41 hP9 hD9 hS (lv_sub hl [0, 3, 4, 5, 6] rfl)
              · skip
                refine lv_iload hx hb dX10_missingProofs_117 (lv_at hl 2 rfl) ?_
                refine lv_istore_n (lv' := [(3, .int (nI i1)), (6, .int 1), (5, .int 1), (4, .int (nI i1)), (2, .int rn8), (0, .ref w0), (1, .int (nI kn3))]) hx hb dX10_missingProofs_119 rfl hl (by decide) rfl (fun ls hl => ?_)
                refine lv_iinc (v := (nI (i1 + 1))) (lv' := [(4, .int (nI (i1 + 1))), (3, .int (nI i1)), (6, .int 1), (5, .int 1), (2, .int rn8), (0, .ref w0), (1, .int (nI kn3))]) hx hb dX10_missingProofs_120 hl (k := 3) rfl (nI_1 _) (by decide) rfl (fun ls hl => ?_)
                refine lv_goto (tgt := 24) hx hb dX10_missingProofs_123 (by decide) ?_
                obtain ⟨hP9, hD9⟩ := PDq.sub (ws' := [(v31, .inl (cA 0, 400, .inl fc)), (v33, .inl (cA 0, 11, .inl fq)), (v35, .inl (cA 4, 400, .inl fn40)), (oX10 w0 v0 v1 v2 v3 v4 g5 g6 (nI ed) 0 v9 (nI nb) g11 g12 v13 g14 g15 g16 g17 g18 g19 g20 g21 g22 g23 g24 g25 g26 v27 v28 v29 v30 v31 v32 v33 v34 v35 v36 v37 (nI ol)), (v0, .inl (cA 0, 326, .inl fs))]) hP hD [2, 3, 4, 0, 1] (by decide) rfl
                exact ih1 (i1 + 1) (nI i1) fn40 H _ ls (by omega) hn41 hP9 hD9 hS (lv_sub hl [0, 1, 4, 5, 6] rfl)
            · skip
              refine lv_iload hx hb dX10_missingProofs_63 (lv_at hl 1 rfl) ?_
              obtain ⟨hPc, hDc, hFc⟩ := PDq.cut (wc := []) hP hD hS hA [] (by decide) rfl
              refine va_calli (va_runS (As := [.int (nI i1)]) (rest := []) ⟨hx, hb, hml, hown, hts⟩ (r_countBits l D cA sa (nI i1) H.size) (va_cwS 1 hts gX10_missingProofs_X10_countBits rfl rfl rfl (by decide +kernel) ⟨(Nat.le_of_ble_eq_true rfl), (Nat.le_of_ble_eq_true rfl)⟩) ⟨Wd.blind, fun U hU hW => ⟨rfl, Wd.call hPc hDc hK hC hZ hS hFc U hU hW⟩⟩ rfl rfl hl.1 rfl (lv_room (Nat.le_of_ble_eq_true rfl)) dX10_missingProofs_65 ⟨(Nat.le_of_ble_eq_true rfl), (Nat.le_of_ble_eq_true rfl)⟩) hS (fun q _ h => hFc q h) hFc (fun rn44 u t H1 locs ht hvm hw hB hz1 hk1 hS => ?_)
              obtain ⟨hP1, hD1⟩ := hB
              rw [ht] at hP1
              obtain ⟨hP, hD⟩ := PDq.join (w := [(v31, .inl (cA 0, 400, .inl fc)), (v33, .inl (cA 0, 11, .inl fq)), (v35, .inl (cA 4, 400, .inl f2_1)), (oX10 w0 v0 v1 v2 v3 v4 g5 g6 (nI ed) 0 v9 (nI nb) g11 g12 v13 g14 g15 g16 g17 g18 g19 g20 g21 g22 g23 g24 g25 g26 v27 v28 v29 v30 v31 v32 v33 v34 v35 v36 v37 (nI ol)), (v0, .inl (cA 0, 326, .inl fs))]) 5 hP hD [] [0, 1, 2, 3, 4] rfl rfl (by decide) (by decide) hk1 hFc hP1 hD1 rfl
              generalize H1 = H at hP hS ⊢
              refine lv_iload_n hx hb dX10_missingProofs_68 rfl (lv_at hl 2 rfl) ?_
              obtain ⟨hPc, hDc, hFc⟩ := PDq.cut (wc := []) hP hD hS hA [] (by decide) rfl
              refine va_calli (va_runS (As := [.int x3_1]) (rest := [.int rn44]) ⟨hx, hb, hml, hown, hts⟩ (r_countBits l D cA sa x3_1 H.size) (va_cwS 1 hts gX10_missingProofs_X10_countBits rfl rfl rfl (by decide +kernel) ⟨(Nat.le_of_ble_eq_true rfl), (Nat.le_of_ble_eq_true rfl)⟩) ⟨Wd.blind, fun U hU hW => ⟨rfl, Wd.call hPc hDc hK hC hZ hS hFc U hU hW⟩⟩ rfl rfl hl.1 rfl (lv_room (Nat.le_of_ble_eq_true rfl)) dX10_missingProofs_69 ⟨(Nat.le_of_ble_eq_true rfl), (Nat.le_of_ble_eq_true rfl)⟩) hS (fun q _ h => hFc q h) hFc (fun rn45 u t H1 locs ht hvm hw hB hz1 hk1 hS => ?_)
              obtain ⟨hP1, hD1⟩ := hB
              rw [ht] at hP1
              obtain ⟨hP, hD⟩ := PDq.join (w := [(v31, .inl (cA 0, 400, .inl fc)), (v33, .inl (cA 0, 11, .inl fq)), (v35, .inl (cA 4, 400, .inl f2_1)), (oX10 w0 v0 v1 v2 v3 v4 g5 g6 (nI ed) 0 v9 (nI nb) g11 g12 v13 g14 g15 g16 g17 g18 g19 g20 g21 g22 g23 g24 g25 g26 v27 v28 v29 v30 v31 v32 v33 v34 v35 v36 v37 (nI ol)), (v0, .inl (cA 0, 326, .inl fs))]) 5 hP hD [] [0, 1, 2, 3, 4] rfl rfl (by decide) (by decide) hk1 hFc hP1 hD1 rfl
              generalize H1 = H at hP hS ⊢
              refine lv_icmp_ge (tgt := 79) hx hb dX10_missingProofs_72 (by decide) (fun c46 => ?_) (fun c46 => ?_)
              · skip
                refine lv_iconst (v := 0) hx hb dX10_missingProofs_79 (by decide) ?_
                refine lv_istore (lv' := [(6, .int 0), (5, .int 1), (4, .int (nI i1)), (3, .int x3_1), (2, .int rn8), (0, .ref w0), (1, .int (nI kn3))]) hx hb dX10_missingProofs_80 hl (by decide) rfl (fun ls hl => ?_)
                refine lv_iload hx hb dX10_missingProofs_82 (lv_at hl 1 rfl) ?_
                refine lv_if_eq (tgt := 120) hx hb dX10_missingProofs_84 (by decide) (fun c9 => absurd c9 (by decide)) (fun c47 => ?_)
                refine lv_iload hx hb dX10_missingProofs_87 (lv_at hl 0 rfl) ?_
                refine lv_if_eq (tgt := 120) hx hb dX10_missingProofs_89 (by decide) (fun c48 => ?_) (fun c9 => absurd c9 (by decide))
                refine lv_iinc (v := (nI (i1 + 1))) (lv' := [(4, .int (nI (i1 + 1))), (6, .int 0), (5, .int 1), (3, .int x3_1), (2, .int rn8), (0, .ref w0), (1, .int (nI kn3))]) hx hb dX10_missingProofs_120 hl (k := 2) rfl (nI_1 _) (by decide) rfl (fun ls hl => ?_)
                refine lv_goto (tgt := 24) hx hb dX10_missingProofs_123 (by decide) ?_
                obtain ⟨hP9, hD9⟩ := PDq.sub (ws' := [(v31, .inl (cA 0, 400, .inl fc)), (v33, .inl (cA 0, 11, .inl fq)), (v35, .inl (cA 4, 400, .inl f2_1)), (oX10 w0 v0 v1 v2 v3 v4 g5 g6 (nI ed) 0 v9 (nI nb) g11 g12 v13 g14 g15 g16 g17 g18 g19 g20 g21 g22 g23 g24 g25 g26 v27 v28 v29 v30 v31 v32 v33 v34 v35 v36 v37 (nI ol)), (v0, .inl (cA 0, 326, .inl fs))]) hP hD [0, 1, 2, 3, 4] (by decide) rfl
                exact ih1 (i1 + 1) x3_1 f2_1 H _ ls (by omega) hf0_1 hP9 hD9 hS (lv_sub hl [0, 3, 4, 5, 6] rfl)
              · skip
                refine lv_iconst (v := 1) hx hb dX10_missingProofs_75 (by decide) ?_
                refine lv_goto (tgt := 80) hx hb dX10_missingProofs_76 (by decide) ?_
                refine lv_istore (lv' := [(6, .int 1), (5, .int 1), (4, .int (nI i1)), (3, .int x3_1), (2, .int rn8), (0, .ref w0), (1, .int (nI kn3))]) hx hb dX10_missingProofs_80 hl (by decide) rfl (fun ls hl => ?_)
                refine lv_iload hx hb dX10_missingProofs_82 (lv_at hl 1 rfl) ?_
                refine lv_if_eq (tgt := 120) hx hb dX10_missingProofs_84 (by decide) (fun c9 => absurd c9 (by decide)) (fun c49 => ?_)
                refine lv_iload hx hb dX10_missingProofs_87 (lv_at hl 0 rfl) ?_
                refine lv_if_eq (tgt := 120) hx hb dX10_missingProofs_89 (by decide) (fun c9 => absurd c9 (by decide)) (fun c50 => ?_)
                refine lv_aload_n hx hb dX10_missingProofs_92 rfl (lv_at hl 5 rfl) ?_
                refine lv_iload_n hx hb dX10_missingProofs_93 rfl (lv_at hl 6 rfl) ?_
                refine lv_aload_n hx hb dX10_missingProofs_94 rfl (lv_at hl 5 rfl) ?_
                refine va_get (D := D) (ci := 11) (v := .ref v0) (C := RX10) (T := TX10) (N := 39) hx hb hts inX10 hown hK hP 3 rfl rfl 0 (by decide) (hts (.fieldLink RX10 7 "EscrowDeskModel" "s" "[I") (by decide +kernel)) (fun _ h9 => h9) rfl dX10_missingProofs_95 ?_
                refine lv_iconst (v := 4) hx hb dX10_missingProofs_98 (by decide) ?_
                refine va_iald hx hb hK hP 4 0 rfl rfl (vp_in_iff.mpr (by decide)) dX10_missingProofs_99 ?_
                refine lv_topi (fun yn51 eyn51 => ?_)
                obtain rfl : yn51 = (nI dy) := eyn51.trans hri.2.2.2.1
                refine lv_aload_n hx hb dX10_missingProofs_100 rfl (lv_at hl 5 rfl) ?_
                refine va_get (D := D) (ci := 11) (v := .ref v0) (C := RX10) (T := TX10) (N := 39) hx hb hts inX10 hown hK hP 3 rfl rfl 0 (by decide) (hts (.fieldLink RX10 7 "EscrowDeskModel" "s" "[I") (by decide +kernel)) (fun _ h9 => h9) rfl dX10_missingProofs_101 ?_
                refine lv_bipush (v := 12) hx hb dX10_missingProofs_104 (by decide) ?_
                refine va_iald hx hb hK hP 4 0 rfl rfl (vp_in_iff.mpr (by decide)) dX10_missingProofs_106 ?_
                refine lv_topi (fun yn52 eyn52 => ?_)
                refine lv_iload hx hb dX10_missingProofs_107 (lv_at hl 2 rfl) ?_
                refine lv_ior hx hb dX10_missingProofs_109 ?_
                refine lv_topi (fun yn53 eyn53 => ?_)
                refine lv_iload_n hx hb dX10_missingProofs_110 rfl (lv_at hl 4 rfl) ?_
                obtain ⟨hPc, hDc, hFc⟩ := PDq.cut (wc := [(oX10 w0 v0 v1 v2 v3 v4 g5 g6 (nI ed) 0 v9 (nI nb) g11 g12 v13 g14 g15 g16 g17 g18 g19 g20 g21 g22 g23 g24 g25 g26 v27 v28 v29 v30 v31 v32 v33 v34 v35 v36 v37 (nI ol)), (v0, .inl (cA 0, 326, .inl fs)), (v31, .inl (cA 0, 400, .inl fc)), (v33, .inl (cA 0, 11, .inl fq)), (v35, .inl (cA 4, 400, .inl f2_1))]) hP hD hS hA [3, 4, 0, 1, 2] (by decide) rfl
                refine va_calli (va_runV (As := [.int (nI kn3), .int (nI dy), .int yn53, .int rn8]) (rest := []) ⟨hx, hb, hml, hown, hts⟩ (r_holdsBy l D cA sa w0 ed nb ol v0 v1 v2 v3 v4 v9 v13 v27 v28 v29 v30 v31 v32 v33 v34 v35 v36 v37 0 g11 g12 g14 g15 g16 g17 g18 g19 g20 g21 g22 g23 g24 g26 g5 g6 g25 cn pq en dy fs fc fq f2_1 kn3 (nI dy) yn53 rn8 H.size hcn hpq hen hdy hri hCW hf0_1 (by omega)) (cwV 4 hts gX10_missingProofs_X10_holdsBy rfl rfl rfl (by decide +kernel) ⟨(Nat.le_of_ble_eq_true rfl), (Nat.le_of_ble_eq_true rfl)⟩) ⟨Wd.blind, va_recv hK hPc (ci := 11) (q0 := 0) rfl rfl, fun U hU hW => ⟨rfl, Wd.call hPc hDc hK hC hZ hS hFc U hU hW⟩⟩ rfl rfl hl.1 rfl (lv_room (Nat.le_of_ble_eq_true rfl)) dX10_missingProofs_111 ⟨(Nat.le_of_ble_eq_true rfl), (Nat.le_of_ble_eq_true rfl)⟩) hS (fun q _ h => hFc q h) hFc (fun rn54 u t H1 locs ht hvm hw hB hz1 hk1 hS => ?_)
                obtain ⟨fn55, hn56, hP1, hD1⟩ := hB
                rw [ht] at hP1
                obtain ⟨hP, hD⟩ := PDq.join (w := [(oX10 w0 v0 v1 v2 v3 v4 g5 g6 (nI ed) 0 v9 (nI nb) g11 g12 v13 g14 g15 g16 g17 g18 g19 g20 g21 g22 g23 g24 g25 g26 v27 v28 v29 v30 v31 v32 v33 v34 v35 v36 v37 (nI ol)), (v0, .inl (cA 0, 326, .inl fs)), (v31, .inl (cA 0, 400, .inl fc)), (v33, .inl (cA 0, 11, .inl fq)), (v35, .inl (cA 4, 400, .inl fn55))]) 0 hP hD [3, 4, 0, 1, 2] [] rfl rfl (by decide) (by decide) hk1 hFc hP1 hD1 rfl
                generalize H1 = H at hP hS ⊢
                have hn57 := hw
                refine lv_if_eq (tgt := 120) hx hb dX10_missingProofs_114 (by decide) (fun c58 => ?_) (fun c58 => ?_)
                · skip
                  refine lv_iinc (v := (nI (i1 + 1))) (lv' := [(4, .int (nI (i1 + 1))), (6, .int 1), (5, .int 1), (3, .int x3_1), (2, .int rn8), (0, .ref w0), (1, .int (nI kn3))]) hx hb dX10_missingProofs_120 hl (k := 2) rfl (nI_1 _) (by decide) rfl (fun ls hl => ?_)
                  refine lv_goto (tgt := 24) hx hb dX10_missingProofs_123 (by decide) ?_
                  obtain ⟨hP9, hD9⟩ := PDq.sub (ws' := [(v31, .inl (cA 0, 400, .inl fc)), (v33, .inl (cA 0, 11, .inl fq)), (v35, .inl (cA 4, 400, .inl fn55)), (oX10 w0 v0 v1 v2 v3 v4 g5 g6 (nI ed) 0 v9 (nI nb) g11 g12 v13 g14 g15 g16 g17 g18 g19 g20 g21 g22 g23 g24 g25 g26 v27 v28 v29 v30 v31 v32 v33 v34 v35 v36 v37 (nI ol)), (v0, .inl (cA 0, 326, .inl fs))]) hP hD [2, 3, 4, 0, 1] (by decide) rfl
                  exact ih1 (i1 + 1) x3_1 fn55 H _ ls (by omega) hn56 hP9 hD9 hS (lv_sub hl [0, 3, 4, 5, 6] rfl)
                · skip
                  refine lv_iload hx hb dX10_missingProofs_117 (lv_at hl 2 rfl) ?_
                  refine lv_istore_n (lv' := [(3, .int (nI i1)), (6, .int 1), (5, .int 1), (4, .int (nI i1)), (2, .int rn8), (0, .ref w0), (1, .int (nI kn3))]) hx hb dX10_missingProofs_119 rfl hl (by decide) rfl (fun ls hl => ?_)
                  refine lv_iinc (v := (nI (i1 + 1))) (lv' := [(4, .int (nI (i1 + 1))), (3, .int (nI i1)), (6, .int 1), (5, .int 1), (2, .int rn8), (0, .ref w0), (1, .int (nI kn3))]) hx hb dX10_missingProofs_120 hl (k := 3) rfl (nI_1 _) (by decide) rfl (fun ls hl => ?_)
                  refine lv_goto (tgt := 24) hx hb dX10_missingProofs_123 (by decide) ?_
                  obtain ⟨hP9, hD9⟩ := PDq.sub (ws' := [(v31, .inl (cA 0, 400, .inl fc)), (v33, .inl (cA 0, 11, .inl fq)), (v35, .inl (cA 4, 400, .inl fn55)), (oX10 w0 v0 v1 v2 v3 v4 g5 g6 (nI ed) 0 v9 (nI nb) g11 g12 v13 g14 g15 g16 g17 g18 g19 g20 g21 g22 g23 g24 g25 g26 v27 v28 v29 v30 v31 v32 v33 v34 v35 v36 v37 (nI ol)), (v0, .inl (cA 0, 326, .inl fs))]) hP hD [2, 3, 4, 0, 1] (by decide) rfl
                  exact ih1 (i1 + 1) (nI i1) fn55 H _ ls (by omega) hn56 hP9 hD9 hS (lv_sub hl [0, 1, 4, 5, 6] rfl)
    obtain ⟨hP9, hD9⟩ := PDq.sub (ws' := [(v31, .inl (cA 0, 400, .inl fc)), (v33, .inl (cA 0, 11, .inl fq)), (v35, .inl (cA 4, 400, .inl fk)), (oX10 w0 v0 v1 v2 v3 v4 g5 g6 (nI ed) 0 v9 (nI nb) g11 g12 v13 g14 g15 g16 g17 g18 g19 g20 g21 g22 g23 g24 g25 g26 v27 v28 v29 v30 v31 v32 v33 v34 v35 v36 v37 (nI ol)), (v0, .inl (cA 0, 326, .inl fs))]) hP hD [0, 1, 2, 3, 4] (by decide) rfl
    exact loop1 (1025 - 0) 0 (-1) fk _ _ ls (by omega) hbit hP9 hD9 hS (lv_sub hl [0, 1, 2, 3, 4] rfl)
  · skip
    subst hr9
    obtain ⟨hPc, hDc, hFc⟩ := PDq.cut (wc := [(oX10 w0 v0 v1 v2 v3 v4 g5 g6 (nI ed) g8 v9 (nI nb) g11 g12 v13 g14 g15 g16 g17 g18 g19 g20 g21 g22 g23 g24 g25 g26 v27 v28 v29 v30 v31 v32 v33 v34 v35 v36 v37 (nI ol))]) hP hD hS hA [3] (by decide) rfl
    refine va_calli (va_runV (As := [.int 0]) (rest := []) ⟨hx, hb, hml, hown, hts⟩ (r_good0 l D cA sa w0 ed nb ol v0 v1 v2 v3 v4 v9 v13 v27 v28 v29 v30 v31 v32 v33 v34 v35 v36 v37 g8 g11 g12 g14 g15 g16 g17 g18 g19 g20 g21 g22 g23 g24 g26 g5 g6 g25 H.size) (cwV 1 hts gX10_missingProofs_X10_good rfl rfl rfl (by decide +kernel) ⟨(Nat.le_of_ble_eq_true rfl), (Nat.le_of_ble_eq_true rfl)⟩) ⟨Wd.blind, va_recv hK hPc (ci := 11) (q0 := 0) rfl rfl, fun U hU hW => ⟨rfl, Wd.call hPc hDc hK hC hZ hS hFc U hU hW⟩⟩ rfl rfl hl.1 rfl (lv_room (Nat.le_of_ble_eq_true rfl)) dX10_missingProofs_6 ⟨(Nat.le_of_ble_eq_true rfl), (Nat.le_of_ble_eq_true rfl)⟩) hS (fun q _ h => hFc q h) hFc (fun rn59 u t H1 locs ht hvm hw hB hz1 hk1 hS => ?_)
    obtain ⟨hP1, hD1⟩ := hB
    rw [ht] at hP1
    obtain ⟨hP, hD⟩ := PDq.join (w := [(v31, .inl (cA 0, 400, .inl fc)), (v33, .inl (cA 0, 11, .inl fq)), (v35, .inl (cA 4, 400, .inl fk)), (v0, .inl (cA 0, 326, .inl fs)), (oX10 w0 v0 v1 v2 v3 v4 g5 g6 (nI ed) 1 v9 (nI nb) g11 g12 v13 g14 g15 g16 g17 g18 g19 g20 g21 g22 g23 g24 g25 g26 v27 v28 v29 v30 v31 v32 v33 v34 v35 v36 v37 (nI ol))]) 4 hP hD [3] [0, 1, 2, 4] rfl rfl (by decide) (by decide) hk1 hFc hP1 hD1 rfl
    generalize H1 = H at hP hS ⊢
    obtain rfl : rn59 = 0 := hw
    refine lv_if_ne (tgt := 14) hx hb dX10_missingProofs_9 (by decide) (fun c9 => absurd c9 (by decide)) (fun c60 => ?_)
    refine lv_iconst (v := 0) hx hb dX10_missingProofs_12 (by decide) ?_
    obtain ⟨hP9, hD9⟩ := PDq.sub (ws' := [(oX10 w0 v0 v1 v2 v3 v4 g5 g6 (nI ed) 1 v9 (nI nb) g11 g12 v13 g14 g15 g16 g17 g18 g19 g20 g21 g22 g23 g24 g25 g26 v27 v28 v29 v30 v31 v32 v33 v34 v35 v36 v37 (nI ol)), (v0, .inl (cA 0, 326, .inl fs)), (v31, .inl (cA 0, 400, .inl fc)), (v33, .inl (cA 0, 11, .inl fq)), (v35, .inl (cA 4, 400, .inl fk))]) hP hD [4, 3, 0, 1, 2] (by decide) rfl
    refine W.widen (k := 0) (n := 0) (Nat.le_of_ble_eq_true rfl) (Nat.le_of_ble_eq_true rfl) ?_
    exact (W.iret (v := 0) hx hb hr (fun t ht hW => ⟨⟨0, (), rfl, trivial, 1, fk, hbit, by rw [ht]; exact hP9, hD9⟩, hS.F ht⟩) hS.2.2 dX10_missingProofs_13)

set_option maxHeartbeats 4000000 in
set_option maxRecDepth 100000 in
/-- reference: lettersOf -/
theorem r_lettersOf (l : Launch) (D : va_G) (cA : Nat → ClassId) (sa : Nat → Nat) (w : Int64) (sz : Nat) : Met l yX10_lettersOf wsX10_lettersOf ({ frames := 0, cells := 0, slots := 0, locals := 0 }) (va_Pc [.long w] (Wd D cA sa [] sz)) (va_Qi (fun (r : Int32) (_ : Unit) => ∃ n, n < 14 ∧ r = nI n) (fun (_ : Unit) t => Wq D (va_A [] sz) [] t) (va_A [] sz)) 0 0 (va_A [] sz) := by
  refine Met.ofW (cc := cX10_lettersOf) (maxL := 5) (ret := (some .int)) (by decide) rfl ?_
  intro p e s m args below meth c s₁ B hml hv
  obtain ⟨rfl, hsz, hP, hK, hD0, hC, hZ⟩ := hv
  have hx := B.exec
  have hb := B.bytes
  have hr := B.returns
  have hts := atoms_spec (ws := wsX10_lettersOf) B.pre
  have hown : s.vm.findClass RX10 = some m.cls := findClass_of_methodNamed B.named
  have hlocks := B.notSynchronized
  subst hsz
  have hD := hD0.self (sz := s.heap.size)
  generalize hAe : va_A [] s.heap.size = A at hD hZ ⊢
  have hA : ∀ q : Nat, s.heap.size ≤ q → A q := fun q h => by rw [← hAe]; exact Or.inr h
  have hS : va_S A s.heap s.heap [] := va_S.rf
  have hP : va_P D vwCl [] s.heap := hP
  have hl := lv_entry ([.long w]) (n := 5) (Nat.le_of_ble_eq_true rfl)
  rw [lg_entry_eq]
  generalize (lg_sl ([.long w]) ++ List.replicate (5 - (lg_sl ([.long w])).length) Slot.unset).toArray = ls at hl ⊢
  have hl : lv_has ls 5 [(0, .long w)] := hl
  refine lv_iconst (v := 0) hx hb dX10_lettersOf_0 (by decide) ?_
  refine lv_istore_n (lv' := [(2, .int 0), (0, .long w)]) hx hb dX10_lettersOf_1 rfl hl (by decide) rfl (fun ls hl => ?_)
  refine lv_lload_n hx hb dX10_lettersOf_2 rfl (lv_at hl 1 rfl) ?_
  refine lv_lstore_n (lv' := [(3, .long w), (2, .int 0), (0, .long w)]) hx hb dX10_lettersOf_3 rfl hl (by decide) rfl (fun ls hl => ?_)
  have loop1 : ∀ (n1 i1 : Nat) (x3_1 : Int64) (H : Heap) (locs : List Loc) (ls : Array Slot), i1 + n1 = 13 → LB i1 x3_1 → va_P D vwCl [] H → va_D A [] → va_S A s.heap H locs → lv_has ls 5 [(3, .long x3_1), (2, .int (nI i1)), (0, .long w)] → W p l e (headSpec wsX10_lettersOf ({ frames := 0, cells := 0, slots := 0, locals := 0 } : Room)).room s m ([.long w] : List Value).toArray below meth c H locs 0 0 (MQ below (va_Qi (fun (r : Int32) (_ : Unit) => ∃ n, n < 14 ∧ r = nI n) (fun (_ : Unit) t => Wq D A [] t) A) ([.long w] : List Value).toArray s 0 0 A) (F0 m 4 ls []) := by
    intro n1
    induction n1 with
    | zero =>
      intro i1 x3_1 H locs ls hi1 hv0_1 hP hD hS hl
      obtain rfl : 13 = i1 := by omega
      refine lv_lload_n hx hb dX10_lettersOf_4 rfl (lv_at hl 0 rfl) ?_
      refine lv_lconst (v := 0) hx hb dX10_lettersOf_5 (by decide) ?_
      refine W.lcmp hx hb dX10_lettersOf_6 ?_
      refine lv_if_le (tgt := 22) hx hb dX10_lettersOf_7 (by decide) (fun c1 => ?_) (fun c9 => absurd c9 (fun h9 => h9 (LB.last hv0_1)))
      refine lv_iload_n hx hb dX10_lettersOf_22 rfl (lv_at hl 1 rfl) ?_
      obtain ⟨hP9, hD9⟩ := PDq.sub (ws' := []) hP hD [] (by decide) rfl
      refine W.widen (k := 0) (n := 0) (Nat.le_of_ble_eq_true rfl) (Nat.le_of_ble_eq_true rfl) ?_
      exact (W.iret (v := (nI 13)) hx hb hr (fun t ht hW => ⟨⟨(nI 13), (), rfl, ⟨13, by omega, rfl⟩, by rw [ht]; exact hP9, hD9⟩, hS.F ht⟩) hS.2.2 dX10_lettersOf_23)
    | succ n1 ih1 =>
      intro i1 x3_1 H locs ls hi1 hv0_1 hP hD hS hl
      refine lv_lload_n hx hb dX10_lettersOf_4 rfl (lv_at hl 0 rfl) ?_
      refine lv_lconst (v := 0) hx hb dX10_lettersOf_5 (by decide) ?_
      refine W.lcmp hx hb dX10_lettersOf_6 ?_
      refine lv_if_le (tgt := 22) hx hb dX10_lettersOf_7 (by decide) (fun c2 => ?_) (fun c2 => ?_)
      · skip
        refine lv_iload_n hx hb dX10_lettersOf_22 rfl (lv_at hl 1 rfl) ?_
        obtain ⟨hP9, hD9⟩ := PDq.sub (ws' := []) hP hD [] (by decide) rfl
        refine W.widen (k := 0) (n := 0) (Nat.le_of_ble_eq_true rfl) (Nat.le_of_ble_eq_true rfl) ?_
        exact (W.iret (v := (nI i1)) hx hb hr (fun t ht hW => ⟨⟨(nI i1), (), rfl, ⟨i1, by omega, rfl⟩, by rw [ht]; exact hP9, hD9⟩, hS.F ht⟩) hS.2.2 dX10_lettersOf_23)
      · skip
        refine lv_iinc (v := (nI (i1 + 1))) (lv' := [(2, .int (nI (i1 + 1))), (3, .long x3_1), (0, .long w)]) hx hb dX10_lettersOf_10 hl (k := 1) rfl (nI_1 _) (by decide) rfl (fun ls hl => ?_)
        refine lv_lload_n hx hb dX10_lettersOf_13 rfl (lv_at hl 1 rfl) ?_
        refine lv_ldc2 (v := 32) hx hb hown (hts (.constantLong RX10 103 32) (by decide +kernel)) dX10_lettersOf_14 ?_
        refine lv_ldiv hx hb dX10_lettersOf_17 (by decide) ?_
        refine lv_topl (fun yn3 eyn3 => ?_)
        refine lv_lstore_n (lv' := [(3, .long yn3), (2, .int (nI (i1 + 1))), (0, .long w)]) hx hb dX10_lettersOf_18 rfl hl (by decide) rfl (fun ls hl => ?_)
        refine lv_goto (tgt := 4) hx hb dX10_lettersOf_19 (by decide) ?_
        obtain ⟨hP9, hD9⟩ := PDq.sub (ws' := []) hP hD [] (by decide) rfl
        exact ih1 (i1 + 1) yn3 H _ ls (by omega) (LB.step hv0_1 (Int32.not_le.mp c2) eyn3) hP9 hD9 hS (lv_sub hl [0, 1, 2] rfl)
  obtain ⟨hP9, hD9⟩ := PDq.sub (ws' := []) hP hD [] (by decide) rfl
  exact loop1 (13 - 0) 0 w _ _ ls (by omega) (LB.zero w) hP9 hD9 hS (lv_sub hl [0, 1, 2] rfl)

set_option maxHeartbeats 4000000 in
set_option maxRecDepth 100000 in
/-- reference: letterOf -/
theorem r_letterOf (l : Launch) (D : va_G) (cA : Nat → ClassId) (sa : Nat → Nat) (w : Int64) (ix : Nat) (sz : Nat) (hix : ix < 100) : Met l yX10_letterOf wsX10_letterOf ({ frames := 1, cells := 0, slots := 0, locals := 24 }) (va_Pc [.long w, .int (nI ix)] (Wd D cA sa [] sz)) (va_Qi (fun (r : Int32) (_ : Unit) => True) (fun (_ : Unit) t => Wq D (va_A [] sz) [] t) (va_A [] sz)) 0 0 (va_A [] sz) := by
  refine Met.ofW (cc := cX10_letterOf) (maxL := 6) (ret := (some .int)) (by decide) rfl ?_
  intro p e s m args below meth c s₁ B hml hv
  obtain ⟨rfl, hsz, hP, hK, hD0, hC, hZ⟩ := hv
  have hx := B.exec
  have hb := B.bytes
  have hr := B.returns
  have hts := atoms_spec (ws := wsX10_letterOf) B.pre
  have hown : s.vm.findClass RX10 = some m.cls := findClass_of_methodNamed B.named
  have hlocks := B.notSynchronized
  subst hsz
  have hD := hD0.self (sz := s.heap.size)
  generalize hAe : va_A [] s.heap.size = A at hD hZ ⊢
  have hA : ∀ q : Nat, s.heap.size ≤ q → A q := fun q h => by rw [← hAe]; exact Or.inr h
  have hS : va_S A s.heap s.heap [] := va_S.rf
  have hP : va_P D vwCl [] s.heap := hP
  have hl := lv_entry ([.long w, .int (nI ix)]) (n := 6) (Nat.le_of_ble_eq_true rfl)
  rw [lg_entry_eq]
  generalize (lg_sl ([.long w, .int (nI ix)]) ++ List.replicate (6 - (lg_sl ([.long w, .int (nI ix)])).length) Slot.unset).toArray = ls at hl ⊢
  have hl : lv_has ls 6 [(0, .long w), (2, .int (nI ix))] := hl
  refine lv_lload_n hx hb dX10_letterOf_0 rfl (lv_at hl 0 rfl) ?_
  refine lv_lstore_n (lv' := [(3, .long w), (0, .long w), (2, .int (nI ix))]) hx hb dX10_letterOf_1 rfl hl (by decide) rfl (fun ls hl => ?_)
  refine lv_lload_n hx hb dX10_letterOf_2 rfl (lv_at hl 1 rfl) ?_
  obtain ⟨hPc, hDc, hFc⟩ := PDq.cut (wc := []) hP hD hS hA [] (by decide) rfl
  refine va_calli (va_runS (As := [.long w]) (rest := []) ⟨hx, hb, hml, hown, hts⟩ (r_lettersOf l D cA sa w s.heap.size) (va_cwS 1 hts gX10_letterOf_X10_lettersOf rfl rfl rfl (by decide +kernel) ⟨(Nat.le_of_ble_eq_true rfl), (Nat.le_of_ble_eq_true rfl)⟩) ⟨Wd.blind, fun U hU hW => ⟨rfl, Wd.call hPc hDc hK hC hZ hS hFc U hU hW⟩⟩ rfl rfl hl.1 rfl (lv_room (Nat.le_of_ble_eq_true rfl)) dX10_letterOf_3 ⟨(Nat.le_of_ble_eq_true rfl), (Nat.le_of_ble_eq_true rfl)⟩) hS (fun q _ h => hFc q h) hFc (fun rn1 u t H1 locs ht hvm hw hB hz1 hk1 hS => ?_)
  obtain ⟨hP1, hD1⟩ := hB
  rw [ht] at hP1
  obtain ⟨hP, hD⟩ := PDq.join (w := []) 0 hP hD [] [] rfl rfl (by decide) (by decide) hk1 hFc hP1 hD1 rfl
  generalize H1 = H at hP hS ⊢
  obtain ⟨kn2, hn3, hr9⟩ := hw
  subst hr9
  refine lv_iconst (v := 1) hx hb dX10_letterOf_6 (by decide) ?_
  rcases Nat.eq_zero_or_pos kn2 with hn4 | hn4
  · skip
    refine lv_isub hx hb dX10_letterOf_7 ?_
    refine lv_topi (fun yn5 eyn5 => ?_)
    obtain rfl : yn5 = (-1) := eyn5.trans (nI_sub0 hn4)
    refine lv_istore (lv' := [(5, .int (-1)), (3, .long w), (0, .long w), (2, .int (nI ix))]) hx hb dX10_letterOf_8 hl (by decide) rfl (fun ls hl => ?_)
    refine lv_iload hx hb dX10_letterOf_10 (lv_at hl 0 rfl) ?_
    refine lv_iload_n hx hb dX10_letterOf_12 rfl (lv_at hl 3 rfl) ?_
    refine lv_icmp_le (tgt := 28) hx hb dX10_letterOf_13 (by decide) (fun c6 => ?_) (fun c9 => absurd (Int32.le_trans (show (-1 : Int32) ≤ 0 by decide) (nI_pos' (n := ix) (by omega))) c9)
    refine lv_lload_n hx hb dX10_letterOf_28 rfl (lv_at hl 1 rfl) ?_
    refine lv_ldc2 (v := 32) hx hb hown (hts (.constantLong RX10 103 32) (by decide +kernel)) dX10_letterOf_29 ?_
    refine lv_lrem hx hb dX10_letterOf_32 (by decide) ?_
    refine lv_topl (fun yn7 eyn7 => ?_)
    refine lv_l2i (v := yn7.toInt32) hx hb dX10_letterOf_33 rfl ?_
    refine lv_topi (fun yn8 eyn8 => ?_)
    refine lv_bipush (v := 96) hx hb dX10_letterOf_34 (by decide) ?_
    refine lv_iadd hx hb dX10_letterOf_36 ?_
    refine lv_topi (fun yn9 eyn9 => ?_)
    obtain ⟨hP9, hD9⟩ := PDq.sub (ws' := []) hP hD [] (by decide) rfl
    refine W.widen (k := 0) (n := 0) (Nat.le_of_ble_eq_true rfl) (Nat.le_of_ble_eq_true rfl) ?_
    exact (W.iret (v := yn9) hx hb hr (fun t ht hW => ⟨⟨yn9, (), rfl, trivial, by rw [ht]; exact hP9, hD9⟩, hS.F ht⟩) hS.2.2 dX10_letterOf_37)
  · skip
    refine lv_isub hx hb dX10_letterOf_7 ?_
    refine lv_topi (fun yn10 eyn10 => ?_)
    obtain rfl : yn10 = (nI (kn2 - 1)) := eyn10.trans (nI_sub (a := kn2) (b := 1) (by omega))
    refine lv_istore (lv' := [(5, .int (nI (kn2 - 1))), (3, .long w), (0, .long w), (2, .int (nI ix))]) hx hb dX10_letterOf_8 hl (by decide) rfl (fun ls hl => ?_)
    rcases Nat.lt_or_ge ix (kn2 - 1) with hn11 | hn11
    · skip
      have loop1 : ∀ (n1 : Nat) (x3_1 : Int64) (H : Heap) (locs : List Loc) (ls : Array Slot), n1 ≤ 1000 → va_P D vwCl [] H → va_D A [] → va_S A s.heap H locs → lv_has ls 6 [(5, .int (nI (ix + n1))), (3, .long x3_1), (0, .long w), (2, .int (nI ix))] → W p l e (headSpec wsX10_letterOf ({ frames := 1, cells := 0, slots := 0, locals := 24 } : Room)).room s m ([.long w, .int (nI ix)] : List Value).toArray below meth c H locs 0 0 (MQ below (va_Qi (fun (r : Int32) (_ : Unit) => True) (fun (_ : Unit) t => Wq D A [] t) A) ([.long w, .int (nI ix)] : List Value).toArray s 0 0 A) (F0 m 10 ls []) := by
        intro n1
        induction n1 with
        | zero =>
          intro x3_1 H locs ls hv0_1 hP hD hS hl
          have hl : lv_has ls 6 [(5, .int (nI ix)), (3, .long x3_1), (0, .long w), (2, .int (nI ix))] := hl
          refine lv_iload hx hb dX10_letterOf_10 (lv_at hl 0 rfl) ?_
          refine lv_iload_n hx hb dX10_letterOf_12 rfl (lv_at hl 3 rfl) ?_
          refine lv_icmp_le (tgt := 28) hx hb dX10_letterOf_13 (by decide) (fun c12 => ?_) (fun c9 => absurd (nI_le (a := ix) (b := ix) (show ix ≤ ix by omega) (by omega)) c9)
          refine lv_lload_n hx hb dX10_letterOf_28 rfl (lv_at hl 1 rfl) ?_
          refine lv_ldc2 (v := 32) hx hb hown (hts (.constantLong RX10 103 32) (by decide +kernel)) dX10_letterOf_29 ?_
          refine lv_lrem hx hb dX10_letterOf_32 (by decide) ?_
          refine lv_topl (fun yn13 eyn13 => ?_)
          refine lv_l2i (v := yn13.toInt32) hx hb dX10_letterOf_33 rfl ?_
          refine lv_topi (fun yn14 eyn14 => ?_)
          refine lv_bipush (v := 96) hx hb dX10_letterOf_34 (by decide) ?_
          refine lv_iadd hx hb dX10_letterOf_36 ?_
          refine lv_topi (fun yn15 eyn15 => ?_)
          obtain ⟨hP9, hD9⟩ := PDq.sub (ws' := []) hP hD [] (by decide) rfl
          refine W.widen (k := 0) (n := 0) (Nat.le_of_ble_eq_true rfl) (Nat.le_of_ble_eq_true rfl) ?_
          exact (W.iret (v := yn15) hx hb hr (fun t ht hW => ⟨⟨yn15, (), rfl, trivial, by rw [ht]; exact hP9, hD9⟩, hS.F ht⟩) hS.2.2 dX10_letterOf_37)
        | succ n1 ih1 =>
          intro x3_1 H locs ls hv0_1 hP hD hS hl
          have hl : lv_has ls 6 [(5, .int (nI (ix + n1 + 1))), (3, .long x3_1), (0, .long w), (2, .int (nI ix))] := hl
          refine lv_iload hx hb dX10_letterOf_10 (lv_at hl 0 rfl) ?_
          refine lv_iload_n hx hb dX10_letterOf_12 rfl (lv_at hl 3 rfl) ?_
          refine lv_icmp_le (tgt := 28) hx hb dX10_letterOf_13 (by decide) (fun c9 => absurd c9 (nI_ge (a := ix) (b := (ix + n1 + 1)) (show ix < (ix + n1 + 1) by omega) (by omega))) (fun c16 => ?_)
          refine lv_lload_n hx hb dX10_letterOf_16 rfl (lv_at hl 1 rfl) ?_
          refine lv_ldc2 (v := 32) hx hb hown (hts (.constantLong RX10 103 32) (by decide +kernel)) dX10_letterOf_17 ?_
          refine lv_ldiv hx hb dX10_letterOf_20 (by decide) ?_
          refine lv_topl (fun yn17 eyn17 => ?_)
          refine lv_lstore_n (lv' := [(3, .long yn17), (5, .int (nI (ix + n1 + 1))), (0, .long w), (2, .int (nI ix))]) hx hb dX10_letterOf_21 rfl hl (by decide) rfl (fun ls hl => ?_)
          refine lv_iinc (v := (nI (ix + n1))) (lv' := [(5, .int (nI (ix + n1))), (3, .long yn17), (0, .long w), (2, .int (nI ix))]) hx hb dX10_letterOf_22 hl (k := 1) rfl (nI_dec (a := (ix + n1 + 1)) (b := (ix + n1)) (by omega)) (by decide) rfl (fun ls hl => ?_)
          refine lv_goto (tgt := 10) hx hb dX10_letterOf_25 (by decide) ?_
          obtain ⟨hP9, hD9⟩ := PDq.sub (ws' := []) hP hD [] (by decide) rfl
          exact ih1 yn17 H _ ls (by omega) hP9 hD9 hS (lv_sub hl [0, 1, 2, 3] rfl)
      obtain ⟨hP9, hD9⟩ := PDq.sub (ws' := []) hP hD [] (by decide) rfl
      exact loop1 ((kn2 - 1) - ix) w _ _ ls (by omega) hP9 hD9 hS (by have q9 := lv_sub hl [0, 1, 2, 3] rfl; rw [show (kn2 - 1) = ix + ((kn2 - 1) - ix) by omega] at q9; exact q9)
    · skip
      refine lv_iload hx hb dX10_letterOf_10 (lv_at hl 0 rfl) ?_
      refine lv_iload_n hx hb dX10_letterOf_12 rfl (lv_at hl 3 rfl) ?_
      refine lv_icmp_le (tgt := 28) hx hb dX10_letterOf_13 (by decide) (fun c18 => ?_) (fun c9 => absurd (nI_le (a := (kn2 - 1)) (b := ix) (show (kn2 - 1) ≤ ix by omega) (by omega)) c9)
      refine lv_lload_n hx hb dX10_letterOf_28 rfl (lv_at hl 1 rfl) ?_
      refine lv_ldc2 (v := 32) hx hb hown (hts (.constantLong RX10 103 32) (by decide +kernel)) dX10_letterOf_29 ?_
      refine lv_lrem hx hb dX10_letterOf_32 (by decide) ?_
      refine lv_topl (fun yn19 eyn19 => ?_)
      refine lv_l2i (v := yn19.toInt32) hx hb dX10_letterOf_33 rfl ?_
      refine lv_topi (fun yn20 eyn20 => ?_)
      refine lv_bipush (v := 96) hx hb dX10_letterOf_34 (by decide) ?_
      refine lv_iadd hx hb dX10_letterOf_36 ?_
      refine lv_topi (fun yn21 eyn21 => ?_)
      obtain ⟨hP9, hD9⟩ := PDq.sub (ws' := []) hP hD [] (by decide) rfl
      refine W.widen (k := 0) (n := 0) (Nat.le_of_ble_eq_true rfl) (Nat.le_of_ble_eq_true rfl) ?_
      exact (W.iret (v := yn21) hx hb hr (fun t ht hW => ⟨⟨yn21, (), rfl, trivial, by rw [ht]; exact hP9, hD9⟩, hS.F ht⟩) hS.2.2 dX10_letterOf_37)

set_option maxHeartbeats 4000000 in
set_option maxRecDepth 100000 in
/-- reference: put -/
theorem r_put (l : Launch) (D : va_G) (cA : Nat → ClassId) (sa : Nat → Nat) (w0 : Nat) (ed : Nat) (nb : Nat) (ol : Nat) (v0 : Nat) (v1 : Nat) (v2 : Nat) (v3 : Nat) (v4 : Nat) (v9 : Nat) (v13 : Nat) (v27 : Nat) (v28 : Nat) (v29 : Nat) (v30 : Nat) (v31 : Nat) (v32 : Nat) (v33 : Nat) (v34 : Nat) (v35 : Nat) (v36 : Nat) (v37 : Nat) (g8 : Int32) (g11 : Int32) (g12 : Int32) (g14 : Int32) (g15 : Int32) (g16 : Int32) (g17 : Int32) (g18 : Int32) (g19 : Int32) (g20 : Int32) (g21 : Int32) (g22 : Int32) (g23 : Int32) (g24 : Int32) (g26 : Int32) (g5 : Int64) (g6 : Int64) (g25 : Int64) (fo9 : Nat → Int32) (a : Int32) (sz : Nat) (hol : ol < 100) : Met l yX10_put wsX10_put ({ frames := 0, cells := 0, slots := 0, locals := 0 }) (va_Pc [.ref w0, .int a] (Wd D cA sa [(oX10 w0 v0 v1 v2 v3 v4 g5 g6 (nI ed) g8 v9 (nI nb) g11 g12 v13 g14 g15 g16 g17 g18 g19 g20 g21 g22 g23 g24 g25 g26 v27 v28 v29 v30 v31 v32 v33 v34 v35 v36 v37 (nI ol)), (v37, .inl (cA 0, 100, .inl fo9))] sz)) (va_Qv (fun _ : Unit => True) (fun (_ : Unit) t => ∃ ol2 : Nat, ∃ zo9 : Nat → Int32, ol2 = ol + 1 ∧ Wq D (va_A [(oX10 w0 v0 v1 v2 v3 v4 g5 g6 (nI ed) g8 v9 (nI nb) g11 g12 v13 g14 g15 g16 g17 g18 g19 g20 g21 g22 g23 g24 g25 g26 v27 v28 v29 v30 v31 v32 v33 v34 v35 v36 v37 (nI ol)), (v37, .inl (cA 0, 100, .inl fo9))] sz) [(oX10 w0 v0 v1 v2 v3 v4 g5 g6 (nI ed) g8 v9 (nI nb) g11 g12 v13 g14 g15 g16 g17 g18 g19 g20 g21 g22 g23 g24 g25 g26 v27 v28 v29 v30 v31 v32 v33 v34 v35 v36 v37 (nI ol2)), (v37, .inl (cA 0, 100, .inl zo9))] t) (va_A [(oX10 w0 v0 v1 v2 v3 v4 g5 g6 (nI ed) g8 v9 (nI nb) g11 g12 v13 g14 g15 g16 g17 g18 g19 g20 g21 g22 g23 g24 g25 g26 v27 v28 v29 v30 v31 v32 v33 v34 v35 v36 v37 (nI ol)), (v37, .inl (cA 0, 100, .inl fo9))] sz)) 0 0 (va_A [(oX10 w0 v0 v1 v2 v3 v4 g5 g6 (nI ed) g8 v9 (nI nb) g11 g12 v13 g14 g15 g16 g17 g18 g19 g20 g21 g22 g23 g24 g25 g26 v27 v28 v29 v30 v31 v32 v33 v34 v35 v36 v37 (nI ol)), (v37, .inl (cA 0, 100, .inl fo9))] sz) := by
  refine Met.ofW (cc := cX10_put) (maxL := 2) (ret := none) (by decide) rfl ?_
  intro p e s m args below meth c s₁ B hml hv
  obtain ⟨rfl, hsz, hP, hK, hD0, hC, hZ⟩ := hv
  have hx := B.exec
  have hb := B.bytes
  have hr := B.returns
  have hts := atoms_spec (ws := wsX10_put) B.pre
  have hown : s.vm.findClass RX10 = some m.cls := findClass_of_methodNamed B.named
  have hlocks := B.notSynchronized
  subst hsz
  have hD := hD0.self (sz := s.heap.size)
  generalize hAe : va_A [(oX10 w0 v0 v1 v2 v3 v4 g5 g6 (nI ed) g8 v9 (nI nb) g11 g12 v13 g14 g15 g16 g17 g18 g19 g20 g21 g22 g23 g24 g25 g26 v27 v28 v29 v30 v31 v32 v33 v34 v35 v36 v37 (nI ol)), (v37, .inl (cA 0, 100, .inl fo9))] s.heap.size = A at hD hZ ⊢
  have hA : ∀ q : Nat, s.heap.size ≤ q → A q := fun q h => by rw [← hAe]; exact Or.inr h
  have hS : va_S A s.heap s.heap [] := va_S.rf
  have hP : va_P D vwCl [(oX10 w0 v0 v1 v2 v3 v4 g5 g6 (nI ed) g8 v9 (nI nb) g11 g12 v13 g14 g15 g16 g17 g18 g19 g20 g21 g22 g23 g24 g25 g26 v27 v28 v29 v30 v31 v32 v33 v34 v35 v36 v37 (nI ol)), (v37, .inl (cA 0, 100, .inl fo9))] s.heap := hP
  have hl := lv_entry ([.ref w0, .int a]) (n := 2) (Nat.le_of_ble_eq_true rfl)
  rw [lg_entry_eq]
  generalize (lg_sl ([.ref w0, .int a]) ++ List.replicate (2 - (lg_sl ([.ref w0, .int a])).length) Slot.unset).toArray = ls at hl ⊢
  have hl : lv_has ls 2 [(0, .ref w0), (1, .int a)] := hl
  have inX10 : ∀ w ∈ u_ws RX10 TX10 39, w ∈ wsX10_put := by decide +kernel
  refine lv_aload_n hx hb dX10_put_0 rfl (lv_at hl 0 rfl) ?_
  refine va_get (D := D) (ci := 11) (v := .ref v37) (C := RX10) (T := TX10) (N := 39) hx hb hts inX10 hown hK hP 0 rfl rfl 37 (by decide) (hts (.fieldLink RX10 67 "EscrowDeskModel" "output" "[I") (by decide +kernel)) (fun _ h9 => h9) rfl dX10_put_1 ?_
  refine lv_aload_n hx hb dX10_put_4 rfl (lv_at hl 0 rfl) ?_
  refine va_get (D := D) (ci := 11) (v := .int (nI ol)) (C := RX10) (T := TX10) (N := 39) hx hb hts inX10 hown hK hP 0 rfl rfl 38 (by decide) (hts (.fieldLink RX10 412 "EscrowDeskModel" "outputLength" "I") (by decide +kernel)) (fun _ h9 => h9) rfl dX10_put_5 ?_
  refine lv_iload_n hx hb dX10_put_8 rfl (lv_at hl 1 rfl) ?_
  refine va_iast hx hb hK hP hD hS 1 0 rfl rfl (vp_in_nI (n := ol) (N := 100) (show ol < 100 by omega) (by decide)) dX10_put_9 (fun H locs hP hD hS => ?_)
  obtain ⟨hP, hD⟩ : PDq D A [(oX10 w0 v0 v1 v2 v3 v4 g5 g6 (nI ed) g8 v9 (nI nb) g11 g12 v13 g14 g15 g16 g17 g18 g19 g20 g21 g22 g23 g24 g25 g26 v27 v28 v29 v30 v31 v32 v33 v34 v35 v36 v37 (nI ol)), (v37, .inl (cA 0, 100, .inl (upd fo9 (((nI ol)).toNatClampNeg) a)))] H := ⟨hP, hD⟩
  generalize (upd fo9 (((nI ol)).toNatClampNeg) a) = fn1 at hP hD
  obtain ⟨hP, hD⟩ : PDq D A [(oX10 w0 v0 v1 v2 v3 v4 g5 g6 (nI ed) g8 v9 (nI nb) g11 g12 v13 g14 g15 g16 g17 g18 g19 g20 g21 g22 g23 g24 g25 g26 v27 v28 v29 v30 v31 v32 v33 v34 v35 v36 v37 (nI ol)), (v37, .inl (cA 0, 100, .inl fn1))] H := ⟨hP, hD⟩
  refine lv_aload_n hx hb dX10_put_10 rfl (lv_at hl 0 rfl) ?_
  refine lv_dup hx hb dX10_put_11 rfl ?_
  refine va_get (D := D) (ci := 11) (v := .int (nI ol)) (C := RX10) (T := TX10) (N := 39) hx hb hts inX10 hown hK hP 0 rfl rfl 38 (by decide) (hts (.fieldLink RX10 412 "EscrowDeskModel" "outputLength" "I") (by decide +kernel)) (fun _ h9 => h9) rfl dX10_put_12 ?_
  refine lv_iconst (v := 1) hx hb dX10_put_15 (by decide) ?_
  refine lv_iadd hx hb dX10_put_16 ?_
  refine lv_topi (fun yn2 eyn2 => ?_)
  obtain rfl : yn2 = (nI (ol + 1)) := eyn2.trans (nI_add ol 1)
  refine va_put (D := D) (ci := 11) (v := .int (nI (ol + 1))) (ty := .int) (C := RX10) (T := TX10) (N := 39) hx hb hts inX10 tyX10 tyX10_ok nmX10 hown hK hP hD hS 0 rfl rfl 38 (by decide) (hts (.fieldLink RX10 412 "EscrowDeskModel" "outputLength" "I") (by decide +kernel)) (fun _ h9 => h9) rfl (by decide +kernel) rfl rfl (Nat.le_of_ble_eq_true rfl) dX10_put_17 (fun H locs hP hD hS => ?_)
  obtain ⟨hP, hD⟩ : PDq D A [(oX10 w0 v0 v1 v2 v3 v4 g5 g6 (nI ed) g8 v9 (nI nb) g11 g12 v13 g14 g15 g16 g17 g18 g19 g20 g21 g22 g23 g24 g25 g26 v27 v28 v29 v30 v31 v32 v33 v34 v35 v36 v37 (nI (ol + 1))), (v37, .inl (cA 0, 100, .inl fn1))] H := ⟨hP, hD⟩
  obtain ⟨hP9, hD9⟩ := PDq.sub (ws' := [(oX10 w0 v0 v1 v2 v3 v4 g5 g6 (nI ed) g8 v9 (nI nb) g11 g12 v13 g14 g15 g16 g17 g18 g19 g20 g21 g22 g23 g24 g25 g26 v27 v28 v29 v30 v31 v32 v33 v34 v35 v36 v37 (nI (ol + 1))), (v37, .inl (cA 0, 100, .inl fn1))]) hP hD [0, 1] (by decide) rfl
  refine W.widen (k := 0) (n := 0) (Nat.le_of_ble_eq_true rfl) (Nat.le_of_ble_eq_true rfl) ?_
  exact (W.vret hx hb hr (fun t ht hW => ⟨⟨(), rfl, trivial, (ol + 1), fn1, (by omega), by rw [ht]; exact hP9, hD9⟩, hS.F ht⟩) hS.2.2 dX10_put_20)

set_option maxHeartbeats 4000000 in
set_option maxRecDepth 100000 in
/-- reference: putNumber -/
theorem r_putNumber (l : Launch) (D : va_G) (cA : Nat → ClassId) (sa : Nat → Nat) (w0 : Nat) (ed : Nat) (nb : Nat) (ol : Nat) (v0 : Nat) (v1 : Nat) (v2 : Nat) (v3 : Nat) (v4 : Nat) (v9 : Nat) (v13 : Nat) (v27 : Nat) (v28 : Nat) (v29 : Nat) (v30 : Nat) (v31 : Nat) (v32 : Nat) (v33 : Nat) (v34 : Nat) (v35 : Nat) (v36 : Nat) (v37 : Nat) (g8 : Int32) (g11 : Int32) (g12 : Int32) (g14 : Int32) (g15 : Int32) (g16 : Int32) (g17 : Int32) (g18 : Int32) (g19 : Int32) (g20 : Int32) (g21 : Int32) (g22 : Int32) (g23 : Int32) (g24 : Int32) (g26 : Int32) (g5 : Int64) (g6 : Int64) (g25 : Int64) (fo9 : Nat → Int32) (a : Int32) (sz : Nat) (hol : ol + 10 ≤ 100) : Met l yX10_putNumber wsX10_putNumber ({ frames := 1, cells := 0, slots := 0, locals := 21 }) (va_Pc [.ref w0, .int a] (Wd D cA sa [(oX10 w0 v0 v1 v2 v3 v4 g5 g6 (nI ed) g8 v9 (nI nb) g11 g12 v13 g14 g15 g16 g17 g18 g19 g20 g21 g22 g23 g24 g25 g26 v27 v28 v29 v30 v31 v32 v33 v34 v35 v36 v37 (nI ol)), (v37, .inl (cA 0, 100, .inl fo9))] sz)) (va_Qv (fun _ : Unit => True) (fun (_ : Unit) t => ∃ ol2 : Nat, ∃ zo9 : Nat → Int32, ol2 ≤ ol + 10 ∧ Wq D (va_A [(oX10 w0 v0 v1 v2 v3 v4 g5 g6 (nI ed) g8 v9 (nI nb) g11 g12 v13 g14 g15 g16 g17 g18 g19 g20 g21 g22 g23 g24 g25 g26 v27 v28 v29 v30 v31 v32 v33 v34 v35 v36 v37 (nI ol)), (v37, .inl (cA 0, 100, .inl fo9))] sz) [(oX10 w0 v0 v1 v2 v3 v4 g5 g6 (nI ed) g8 v9 (nI nb) g11 g12 v13 g14 g15 g16 g17 g18 g19 g20 g21 g22 g23 g24 g25 g26 v27 v28 v29 v30 v31 v32 v33 v34 v35 v36 v37 (nI ol2)), (v37, .inl (cA 0, 100, .inl zo9))] t) (va_A [(oX10 w0 v0 v1 v2 v3 v4 g5 g6 (nI ed) g8 v9 (nI nb) g11 g12 v13 g14 g15 g16 g17 g18 g19 g20 g21 g22 g23 g24 g25 g26 v27 v28 v29 v30 v31 v32 v33 v34 v35 v36 v37 (nI ol)), (v37, .inl (cA 0, 100, .inl fo9))] sz)) 0 0 (va_A [(oX10 w0 v0 v1 v2 v3 v4 g5 g6 (nI ed) g8 v9 (nI nb) g11 g12 v13 g14 g15 g16 g17 g18 g19 g20 g21 g22 g23 g24 g25 g26 v27 v28 v29 v30 v31 v32 v33 v34 v35 v36 v37 (nI ol)), (v37, .inl (cA 0, 100, .inl fo9))] sz) := by
  refine Met.ofW (cc := cX10_putNumber) (maxL := 3) (ret := none) (by decide) rfl ?_
  intro p e s m args below meth c s₁ B hml hv
  obtain ⟨rfl, hsz, hP, hK, hD0, hC, hZ⟩ := hv
  have hx := B.exec
  have hb := B.bytes
  have hr := B.returns
  have hts := atoms_spec (ws := wsX10_putNumber) B.pre
  have hown : s.vm.findClass RX10 = some m.cls := findClass_of_methodNamed B.named
  have hlocks := B.notSynchronized
  subst hsz
  have hD := hD0.self (sz := s.heap.size)
  generalize hAe : va_A [(oX10 w0 v0 v1 v2 v3 v4 g5 g6 (nI ed) g8 v9 (nI nb) g11 g12 v13 g14 g15 g16 g17 g18 g19 g20 g21 g22 g23 g24 g25 g26 v27 v28 v29 v30 v31 v32 v33 v34 v35 v36 v37 (nI ol)), (v37, .inl (cA 0, 100, .inl fo9))] s.heap.size = A at hD hZ ⊢
  have hA : ∀ q : Nat, s.heap.size ≤ q → A q := fun q h => by rw [← hAe]; exact Or.inr h
  have hS : va_S A s.heap s.heap [] := va_S.rf
  have hP : va_P D vwCl [(oX10 w0 v0 v1 v2 v3 v4 g5 g6 (nI ed) g8 v9 (nI nb) g11 g12 v13 g14 g15 g16 g17 g18 g19 g20 g21 g22 g23 g24 g25 g26 v27 v28 v29 v30 v31 v32 v33 v34 v35 v36 v37 (nI ol)), (v37, .inl (cA 0, 100, .inl fo9))] s.heap := hP
  have hl := lv_entry ([.ref w0, .int a]) (n := 3) (Nat.le_of_ble_eq_true rfl)
  rw [lg_entry_eq]
  generalize (lg_sl ([.ref w0, .int a]) ++ List.replicate (3 - (lg_sl ([.ref w0, .int a])).length) Slot.unset).toArray = ls at hl ⊢
  have hl : lv_has ls 3 [(0, .ref w0), (1, .int a)] := hl
  refine lv_iconst (v := 1) hx hb dX10_putNumber_0 (by decide) ?_
  refine lv_istore_n (lv' := [(2, .int 1), (0, .ref w0), (1, .int a)]) hx hb dX10_putNumber_1 rfl hl (by decide) rfl (fun ls hl => ?_)
  refine lv_iload_n hx hb dX10_putNumber_2 rfl (lv_at hl 2 rfl) ?_
  refine lv_iload_n hx hb dX10_putNumber_3 rfl (lv_at hl 0 rfl) ?_
  refine lv_idiv hx hb dX10_putNumber_4 (by decide) ?_
  refine lv_topi (fun yn1 eyn1 => ?_)
  refine lv_bipush (v := 9) hx hb dX10_putNumber_5 (by decide) ?_
  refine lv_icmp_le (tgt := 18) hx hb dX10_putNumber_7 (by decide) (fun c2 => ?_) (fun c2 => ?_)
  · skip
    refine lv_iload_n hx hb dX10_putNumber_18 rfl (lv_at hl 0 rfl) ?_
    refine lv_if_le (tgt := 43) hx hb dX10_putNumber_19 (by decide) (fun c9 => absurd c9 (by decide)) (fun c3 => ?_)
    refine lv_aload_n hx hb dX10_putNumber_22 rfl (lv_at hl 1 rfl) ?_
    refine lv_bipush (v := 48) hx hb dX10_putNumber_23 (by decide) ?_
    refine lv_iload_n hx hb dX10_putNumber_25 rfl (lv_at hl 2 rfl) ?_
    refine lv_iload_n hx hb dX10_putNumber_26 rfl (lv_at hl 0 rfl) ?_
    refine lv_idiv hx hb dX10_putNumber_27 (by decide) ?_
    refine lv_topi (fun yn4 eyn4 => ?_)
    refine lv_bipush (v := 10) hx hb dX10_putNumber_28 (by decide) ?_
    refine lv_irem hx hb dX10_putNumber_30 (by decide) ?_
    refine lv_topi (fun yn5 eyn5 => ?_)
    refine lv_iadd hx hb dX10_putNumber_31 ?_
    refine lv_topi (fun yn6 eyn6 => ?_)
    obtain ⟨hPc, hDc, hFc⟩ := PDq.cut (wc := [(oX10 w0 v0 v1 v2 v3 v4 g5 g6 (nI ed) g8 v9 (nI nb) g11 g12 v13 g14 g15 g16 g17 g18 g19 g20 g21 g22 g23 g24 g25 g26 v27 v28 v29 v30 v31 v32 v33 v34 v35 v36 v37 (nI ol)), (v37, .inl (cA 0, 100, .inl fo9))]) hP hD hS hA [0, 1] (by decide) rfl
    refine va_callv (va_runV (As := [.int yn6]) (rest := []) ⟨hx, hb, hml, hown, hts⟩ (r_put l D cA sa w0 ed nb ol v0 v1 v2 v3 v4 v9 v13 v27 v28 v29 v30 v31 v32 v33 v34 v35 v36 v37 g8 g11 g12 g14 g15 g16 g17 g18 g19 g20 g21 g22 g23 g24 g26 g5 g6 g25 fo9 yn6 s.heap.size (by omega)) (cwV 1 hts gX10_putNumber_X10_put rfl rfl rfl (by decide +kernel) ⟨(Nat.le_of_ble_eq_true rfl), (Nat.le_of_ble_eq_true rfl)⟩) ⟨Wd.blind, va_recv hK hPc (ci := 11) (q0 := 0) rfl rfl, fun U hU hW => ⟨rfl, Wd.call hPc hDc hK hC hZ hS hFc U hU hW⟩⟩ rfl rfl hl.1 rfl (lv_room (Nat.le_of_ble_eq_true rfl)) dX10_putNumber_32 ⟨(Nat.le_of_ble_eq_true rfl), (Nat.le_of_ble_eq_true rfl)⟩) hS (fun q _ h => hFc q h) hFc (fun u t H1 locs ht hvm hw hB hz1 hk1 hS => ?_)
    obtain ⟨qn7, fn8, hn9, hP1, hD1⟩ := hB
    rw [ht] at hP1
    obtain ⟨hP, hD⟩ := PDq.join (w := [(oX10 w0 v0 v1 v2 v3 v4 g5 g6 (nI ed) g8 v9 (nI nb) g11 g12 v13 g14 g15 g16 g17 g18 g19 g20 g21 g22 g23 g24 g25 g26 v27 v28 v29 v30 v31 v32 v33 v34 v35 v36 v37 (nI qn7)), (v37, .inl (cA 0, 100, .inl fn8))]) 0 hP hD [0, 1] [] rfl rfl (by decide) (by decide) hk1 hFc hP1 hD1 rfl
    generalize H1 = H at hP hS ⊢
    refine lv_iload_n hx hb dX10_putNumber_35 rfl (lv_at hl 0 rfl) ?_
    refine lv_bipush (v := 10) hx hb dX10_putNumber_36 (by decide) ?_
    refine lv_idiv hx hb dX10_putNumber_38 (by decide) ?_
    refine lv_topi (fun yn10 eyn10 => ?_)
    obtain rfl : yn10 = 0 := eyn10.trans (by first | rfl | decide +kernel)
    refine lv_istore_n (lv' := [(2, .int 0), (0, .ref w0), (1, .int a)]) hx hb dX10_putNumber_39 rfl hl (by decide) rfl (fun ls hl => ?_)
    refine lv_goto (tgt := 18) hx hb dX10_putNumber_40 (by decide) ?_
    refine lv_iload_n hx hb dX10_putNumber_18 rfl (lv_at hl 0 rfl) ?_
    refine lv_if_le (tgt := 43) hx hb dX10_putNumber_19 (by decide) (fun c11 => ?_) (fun c9 => absurd c9 (by decide))
    obtain ⟨hP9, hD9⟩ := PDq.sub (ws' := [(oX10 w0 v0 v1 v2 v3 v4 g5 g6 (nI ed) g8 v9 (nI nb) g11 g12 v13 g14 g15 g16 g17 g18 g19 g20 g21 g22 g23 g24 g25 g26 v27 v28 v29 v30 v31 v32 v33 v34 v35 v36 v37 (nI qn7)), (v37, .inl (cA 0, 100, .inl fn8))]) hP hD [0, 1] (by decide) rfl
    refine W.widen (k := 0) (n := 0) (Nat.le_of_ble_eq_true rfl) (Nat.le_of_ble_eq_true rfl) ?_
    exact (W.vret hx hb hr (fun t ht hW => ⟨⟨(), rfl, trivial, qn7, fn8, (by omega), by rw [ht]; exact hP9, hD9⟩, hS.F ht⟩) hS.2.2 dX10_putNumber_43)
  · skip
    refine lv_bipush (v := 10) hx hb dX10_putNumber_10 (by decide) ?_
    refine lv_iload_n hx hb dX10_putNumber_12 rfl (lv_at hl 0 rfl) ?_
    refine lv_imul hx hb dX10_putNumber_13 ?_
    refine lv_topi (fun yn12 eyn12 => ?_)
    obtain rfl : yn12 = 10 := eyn12.trans (by first | rfl | decide +kernel)
    refine lv_istore_n (lv' := [(2, .int 10), (0, .ref w0), (1, .int a)]) hx hb dX10_putNumber_14 rfl hl (by decide) rfl (fun ls hl => ?_)
    refine lv_goto (tgt := 2) hx hb dX10_putNumber_15 (by decide) ?_
    refine lv_iload_n hx hb dX10_putNumber_2 rfl (lv_at hl 2 rfl) ?_
    refine lv_iload_n hx hb dX10_putNumber_3 rfl (lv_at hl 0 rfl) ?_
    refine lv_idiv hx hb dX10_putNumber_4 (by decide) ?_
    refine lv_topi (fun yn13 eyn13 => ?_)
    refine lv_bipush (v := 9) hx hb dX10_putNumber_5 (by decide) ?_
    refine lv_icmp_le (tgt := 18) hx hb dX10_putNumber_7 (by decide) (fun c14 => ?_) (fun c14 => ?_)
    · skip
      refine lv_iload_n hx hb dX10_putNumber_18 rfl (lv_at hl 0 rfl) ?_
      refine lv_if_le (tgt := 43) hx hb dX10_putNumber_19 (by decide) (fun c9 => absurd c9 (by decide)) (fun c15 => ?_)
      refine lv_aload_n hx hb dX10_putNumber_22 rfl (lv_at hl 1 rfl) ?_
      refine lv_bipush (v := 48) hx hb dX10_putNumber_23 (by decide) ?_
      refine lv_iload_n hx hb dX10_putNumber_25 rfl (lv_at hl 2 rfl) ?_
      refine lv_iload_n hx hb dX10_putNumber_26 rfl (lv_at hl 0 rfl) ?_
      refine lv_idiv hx hb dX10_putNumber_27 (by decide) ?_
      refine lv_topi (fun yn16 eyn16 => ?_)
      refine lv_bipush (v := 10) hx hb dX10_putNumber_28 (by decide) ?_
      refine lv_irem hx hb dX10_putNumber_30 (by decide) ?_
      refine lv_topi (fun yn17 eyn17 => ?_)
      refine lv_iadd hx hb dX10_putNumber_31 ?_
      refine lv_topi (fun yn18 eyn18 => ?_)
      obtain ⟨hPc, hDc, hFc⟩ := PDq.cut (wc := [(oX10 w0 v0 v1 v2 v3 v4 g5 g6 (nI ed) g8 v9 (nI nb) g11 g12 v13 g14 g15 g16 g17 g18 g19 g20 g21 g22 g23 g24 g25 g26 v27 v28 v29 v30 v31 v32 v33 v34 v35 v36 v37 (nI ol)), (v37, .inl (cA 0, 100, .inl fo9))]) hP hD hS hA [0, 1] (by decide) rfl
      refine va_callv (va_runV (As := [.int yn18]) (rest := []) ⟨hx, hb, hml, hown, hts⟩ (r_put l D cA sa w0 ed nb ol v0 v1 v2 v3 v4 v9 v13 v27 v28 v29 v30 v31 v32 v33 v34 v35 v36 v37 g8 g11 g12 g14 g15 g16 g17 g18 g19 g20 g21 g22 g23 g24 g26 g5 g6 g25 fo9 yn18 s.heap.size (by omega)) (cwV 1 hts gX10_putNumber_X10_put rfl rfl rfl (by decide +kernel) ⟨(Nat.le_of_ble_eq_true rfl), (Nat.le_of_ble_eq_true rfl)⟩) ⟨Wd.blind, va_recv hK hPc (ci := 11) (q0 := 0) rfl rfl, fun U hU hW => ⟨rfl, Wd.call hPc hDc hK hC hZ hS hFc U hU hW⟩⟩ rfl rfl hl.1 rfl (lv_room (Nat.le_of_ble_eq_true rfl)) dX10_putNumber_32 ⟨(Nat.le_of_ble_eq_true rfl), (Nat.le_of_ble_eq_true rfl)⟩) hS (fun q _ h => hFc q h) hFc (fun u t H1 locs ht hvm hw hB hz1 hk1 hS => ?_)
      obtain ⟨qn19, fn20, hn21, hP1, hD1⟩ := hB
      rw [ht] at hP1
      obtain ⟨hP, hD⟩ := PDq.join (w := [(oX10 w0 v0 v1 v2 v3 v4 g5 g6 (nI ed) g8 v9 (nI nb) g11 g12 v13 g14 g15 g16 g17 g18 g19 g20 g21 g22 g23 g24 g25 g26 v27 v28 v29 v30 v31 v32 v33 v34 v35 v36 v37 (nI qn19)), (v37, .inl (cA 0, 100, .inl fn20))]) 0 hP hD [0, 1] [] rfl rfl (by decide) (by decide) hk1 hFc hP1 hD1 rfl
      generalize H1 = H at hP hS ⊢
      refine lv_iload_n hx hb dX10_putNumber_35 rfl (lv_at hl 0 rfl) ?_
      refine lv_bipush (v := 10) hx hb dX10_putNumber_36 (by decide) ?_
      refine lv_idiv hx hb dX10_putNumber_38 (by decide) ?_
      refine lv_topi (fun yn22 eyn22 => ?_)
      obtain rfl : yn22 = 1 := eyn22.trans (by first | rfl | decide +kernel)
      refine lv_istore_n (lv' := [(2, .int 1), (0, .ref w0), (1, .int a)]) hx hb dX10_putNumber_39 rfl hl (by decide) rfl (fun ls hl => ?_)
      refine lv_goto (tgt := 18) hx hb dX10_putNumber_40 (by decide) ?_
      refine lv_iload_n hx hb dX10_putNumber_18 rfl (lv_at hl 0 rfl) ?_
      refine lv_if_le (tgt := 43) hx hb dX10_putNumber_19 (by decide) (fun c9 => absurd c9 (by decide)) (fun c23 => ?_)
      refine lv_aload_n hx hb dX10_putNumber_22 rfl (lv_at hl 1 rfl) ?_
      refine lv_bipush (v := 48) hx hb dX10_putNumber_23 (by decide) ?_
      refine lv_iload_n hx hb dX10_putNumber_25 rfl (lv_at hl 2 rfl) ?_
      refine lv_iload_n hx hb dX10_putNumber_26 rfl (lv_at hl 0 rfl) ?_
      refine lv_idiv hx hb dX10_putNumber_27 (by decide) ?_
      refine lv_topi (fun yn24 eyn24 => ?_)
      refine lv_bipush (v := 10) hx hb dX10_putNumber_28 (by decide) ?_
      refine lv_irem hx hb dX10_putNumber_30 (by decide) ?_
      refine lv_topi (fun yn25 eyn25 => ?_)
      refine lv_iadd hx hb dX10_putNumber_31 ?_
      refine lv_topi (fun yn26 eyn26 => ?_)
      obtain ⟨hPc, hDc, hFc⟩ := PDq.cut (wc := [(oX10 w0 v0 v1 v2 v3 v4 g5 g6 (nI ed) g8 v9 (nI nb) g11 g12 v13 g14 g15 g16 g17 g18 g19 g20 g21 g22 g23 g24 g25 g26 v27 v28 v29 v30 v31 v32 v33 v34 v35 v36 v37 (nI qn19)), (v37, .inl (cA 0, 100, .inl fn20))]) hP hD hS hA [0, 1] (by decide) rfl
      refine va_callv (va_runV (As := [.int yn26]) (rest := []) ⟨hx, hb, hml, hown, hts⟩ (r_put l D cA sa w0 ed nb qn19 v0 v1 v2 v3 v4 v9 v13 v27 v28 v29 v30 v31 v32 v33 v34 v35 v36 v37 g8 g11 g12 g14 g15 g16 g17 g18 g19 g20 g21 g22 g23 g24 g26 g5 g6 g25 fn20 yn26 H.size (by omega)) (cwV 1 hts gX10_putNumber_X10_put rfl rfl rfl (by decide +kernel) ⟨(Nat.le_of_ble_eq_true rfl), (Nat.le_of_ble_eq_true rfl)⟩) ⟨Wd.blind, va_recv hK hPc (ci := 11) (q0 := 0) rfl rfl, fun U hU hW => ⟨rfl, Wd.call hPc hDc hK hC hZ hS hFc U hU hW⟩⟩ rfl rfl hl.1 rfl (lv_room (Nat.le_of_ble_eq_true rfl)) dX10_putNumber_32 ⟨(Nat.le_of_ble_eq_true rfl), (Nat.le_of_ble_eq_true rfl)⟩) hS (fun q _ h => hFc q h) hFc (fun u t H1 locs ht hvm hw hB hz1 hk1 hS => ?_)
      obtain ⟨qn27, fn28, hn29, hP1, hD1⟩ := hB
      rw [ht] at hP1
      obtain ⟨hP, hD⟩ := PDq.join (w := [(oX10 w0 v0 v1 v2 v3 v4 g5 g6 (nI ed) g8 v9 (nI nb) g11 g12 v13 g14 g15 g16 g17 g18 g19 g20 g21 g22 g23 g24 g25 g26 v27 v28 v29 v30 v31 v32 v33 v34 v35 v36 v37 (nI qn27)), (v37, .inl (cA 0, 100, .inl fn28))]) 0 hP hD [0, 1] [] rfl rfl (by decide) (by decide) hk1 hFc hP1 hD1 rfl
      generalize H1 = H at hP hS ⊢
      refine lv_iload_n hx hb dX10_putNumber_35 rfl (lv_at hl 0 rfl) ?_
      refine lv_bipush (v := 10) hx hb dX10_putNumber_36 (by decide) ?_
      refine lv_idiv hx hb dX10_putNumber_38 (by decide) ?_
      refine lv_topi (fun yn30 eyn30 => ?_)
      obtain rfl : yn30 = 0 := eyn30.trans (by first | rfl | decide +kernel)
      refine lv_istore_n (lv' := [(2, .int 0), (0, .ref w0), (1, .int a)]) hx hb dX10_putNumber_39 rfl hl (by decide) rfl (fun ls hl => ?_)
      refine lv_goto (tgt := 18) hx hb dX10_putNumber_40 (by decide) ?_
      refine lv_iload_n hx hb dX10_putNumber_18 rfl (lv_at hl 0 rfl) ?_
      refine lv_if_le (tgt := 43) hx hb dX10_putNumber_19 (by decide) (fun c31 => ?_) (fun c9 => absurd c9 (by decide))
      obtain ⟨hP9, hD9⟩ := PDq.sub (ws' := [(oX10 w0 v0 v1 v2 v3 v4 g5 g6 (nI ed) g8 v9 (nI nb) g11 g12 v13 g14 g15 g16 g17 g18 g19 g20 g21 g22 g23 g24 g25 g26 v27 v28 v29 v30 v31 v32 v33 v34 v35 v36 v37 (nI qn27)), (v37, .inl (cA 0, 100, .inl fn28))]) hP hD [0, 1] (by decide) rfl
      refine W.widen (k := 0) (n := 0) (Nat.le_of_ble_eq_true rfl) (Nat.le_of_ble_eq_true rfl) ?_
      exact (W.vret hx hb hr (fun t ht hW => ⟨⟨(), rfl, trivial, qn27, fn28, (by omega), by rw [ht]; exact hP9, hD9⟩, hS.F ht⟩) hS.2.2 dX10_putNumber_43)
    · skip
      refine lv_bipush (v := 10) hx hb dX10_putNumber_10 (by decide) ?_
      refine lv_iload_n hx hb dX10_putNumber_12 rfl (lv_at hl 0 rfl) ?_
      refine lv_imul hx hb dX10_putNumber_13 ?_
      refine lv_topi (fun yn32 eyn32 => ?_)
      obtain rfl : yn32 = 100 := eyn32.trans (by first | rfl | decide +kernel)
      refine lv_istore_n (lv' := [(2, .int 100), (0, .ref w0), (1, .int a)]) hx hb dX10_putNumber_14 rfl hl (by decide) rfl (fun ls hl => ?_)
      refine lv_goto (tgt := 2) hx hb dX10_putNumber_15 (by decide) ?_
      refine lv_iload_n hx hb dX10_putNumber_2 rfl (lv_at hl 2 rfl) ?_
      refine lv_iload_n hx hb dX10_putNumber_3 rfl (lv_at hl 0 rfl) ?_
      refine lv_idiv hx hb dX10_putNumber_4 (by decide) ?_
      refine lv_topi (fun yn33 eyn33 => ?_)
      refine lv_bipush (v := 9) hx hb dX10_putNumber_5 (by decide) ?_
      refine lv_icmp_le (tgt := 18) hx hb dX10_putNumber_7 (by decide) (fun c34 => ?_) (fun c34 => ?_)
      · skip
        refine lv_iload_n hx hb dX10_putNumber_18 rfl (lv_at hl 0 rfl) ?_
        refine lv_if_le (tgt := 43) hx hb dX10_putNumber_19 (by decide) (fun c9 => absurd c9 (by decide)) (fun c35 => ?_)
        refine lv_aload_n hx hb dX10_putNumber_22 rfl (lv_at hl 1 rfl) ?_
        refine lv_bipush (v := 48) hx hb dX10_putNumber_23 (by decide) ?_
        refine lv_iload_n hx hb dX10_putNumber_25 rfl (lv_at hl 2 rfl) ?_
        refine lv_iload_n hx hb dX10_putNumber_26 rfl (lv_at hl 0 rfl) ?_
        refine lv_idiv hx hb dX10_putNumber_27 (by decide) ?_
        refine lv_topi (fun yn36 eyn36 => ?_)
        refine lv_bipush (v := 10) hx hb dX10_putNumber_28 (by decide) ?_
        refine lv_irem hx hb dX10_putNumber_30 (by decide) ?_
        refine lv_topi (fun yn37 eyn37 => ?_)
        refine lv_iadd hx hb dX10_putNumber_31 ?_
        refine lv_topi (fun yn38 eyn38 => ?_)
        obtain ⟨hPc, hDc, hFc⟩ := PDq.cut (wc := [(oX10 w0 v0 v1 v2 v3 v4 g5 g6 (nI ed) g8 v9 (nI nb) g11 g12 v13 g14 g15 g16 g17 g18 g19 g20 g21 g22 g23 g24 g25 g26 v27 v28 v29 v30 v31 v32 v33 v34 v35 v36 v37 (nI ol)), (v37, .inl (cA 0, 100, .inl fo9))]) hP hD hS hA [0, 1] (by decide) rfl
        refine va_callv (va_runV (As := [.int yn38]) (rest := []) ⟨hx, hb, hml, hown, hts⟩ (r_put l D cA sa w0 ed nb ol v0 v1 v2 v3 v4 v9 v13 v27 v28 v29 v30 v31 v32 v33 v34 v35 v36 v37 g8 g11 g12 g14 g15 g16 g17 g18 g19 g20 g21 g22 g23 g24 g26 g5 g6 g25 fo9 yn38 s.heap.size (by omega)) (cwV 1 hts gX10_putNumber_X10_put rfl rfl rfl (by decide +kernel) ⟨(Nat.le_of_ble_eq_true rfl), (Nat.le_of_ble_eq_true rfl)⟩) ⟨Wd.blind, va_recv hK hPc (ci := 11) (q0 := 0) rfl rfl, fun U hU hW => ⟨rfl, Wd.call hPc hDc hK hC hZ hS hFc U hU hW⟩⟩ rfl rfl hl.1 rfl (lv_room (Nat.le_of_ble_eq_true rfl)) dX10_putNumber_32 ⟨(Nat.le_of_ble_eq_true rfl), (Nat.le_of_ble_eq_true rfl)⟩) hS (fun q _ h => hFc q h) hFc (fun u t H1 locs ht hvm hw hB hz1 hk1 hS => ?_)
        obtain ⟨qn39, fn40, hn41, hP1, hD1⟩ := hB
        rw [ht] at hP1
        obtain ⟨hP, hD⟩ := PDq.join (w := [(oX10 w0 v0 v1 v2 v3 v4 g5 g6 (nI ed) g8 v9 (nI nb) g11 g12 v13 g14 g15 g16 g17 g18 g19 g20 g21 g22 g23 g24 g25 g26 v27 v28 v29 v30 v31 v32 v33 v34 v35 v36 v37 (nI qn39)), (v37, .inl (cA 0, 100, .inl fn40))]) 0 hP hD [0, 1] [] rfl rfl (by decide) (by decide) hk1 hFc hP1 hD1 rfl
        generalize H1 = H at hP hS ⊢
        refine lv_iload_n hx hb dX10_putNumber_35 rfl (lv_at hl 0 rfl) ?_
        refine lv_bipush (v := 10) hx hb dX10_putNumber_36 (by decide) ?_
        refine lv_idiv hx hb dX10_putNumber_38 (by decide) ?_
        refine lv_topi (fun yn42 eyn42 => ?_)
        obtain rfl : yn42 = 10 := eyn42.trans (by first | rfl | decide +kernel)
        refine lv_istore_n (lv' := [(2, .int 10), (0, .ref w0), (1, .int a)]) hx hb dX10_putNumber_39 rfl hl (by decide) rfl (fun ls hl => ?_)
        refine lv_goto (tgt := 18) hx hb dX10_putNumber_40 (by decide) ?_
        refine lv_iload_n hx hb dX10_putNumber_18 rfl (lv_at hl 0 rfl) ?_
        refine lv_if_le (tgt := 43) hx hb dX10_putNumber_19 (by decide) (fun c9 => absurd c9 (by decide)) (fun c43 => ?_)
        refine lv_aload_n hx hb dX10_putNumber_22 rfl (lv_at hl 1 rfl) ?_
        refine lv_bipush (v := 48) hx hb dX10_putNumber_23 (by decide) ?_
        refine lv_iload_n hx hb dX10_putNumber_25 rfl (lv_at hl 2 rfl) ?_
        refine lv_iload_n hx hb dX10_putNumber_26 rfl (lv_at hl 0 rfl) ?_
        refine lv_idiv hx hb dX10_putNumber_27 (by decide) ?_
        refine lv_topi (fun yn44 eyn44 => ?_)
        refine lv_bipush (v := 10) hx hb dX10_putNumber_28 (by decide) ?_
        refine lv_irem hx hb dX10_putNumber_30 (by decide) ?_
        refine lv_topi (fun yn45 eyn45 => ?_)
        refine lv_iadd hx hb dX10_putNumber_31 ?_
        refine lv_topi (fun yn46 eyn46 => ?_)
        obtain ⟨hPc, hDc, hFc⟩ := PDq.cut (wc := [(oX10 w0 v0 v1 v2 v3 v4 g5 g6 (nI ed) g8 v9 (nI nb) g11 g12 v13 g14 g15 g16 g17 g18 g19 g20 g21 g22 g23 g24 g25 g26 v27 v28 v29 v30 v31 v32 v33 v34 v35 v36 v37 (nI qn39)), (v37, .inl (cA 0, 100, .inl fn40))]) hP hD hS hA [0, 1] (by decide) rfl
        refine va_callv (va_runV (As := [.int yn46]) (rest := []) ⟨hx, hb, hml, hown, hts⟩ (r_put l D cA sa w0 ed nb qn39 v0 v1 v2 v3 v4 v9 v13 v27 v28 v29 v30 v31 v32 v33 v34 v35 v36 v37 g8 g11 g12 g14 g15 g16 g17 g18 g19 g20 g21 g22 g23 g24 g26 g5 g6 g25 fn40 yn46 H.size (by omega)) (cwV 1 hts gX10_putNumber_X10_put rfl rfl rfl (by decide +kernel) ⟨(Nat.le_of_ble_eq_true rfl), (Nat.le_of_ble_eq_true rfl)⟩) ⟨Wd.blind, va_recv hK hPc (ci := 11) (q0 := 0) rfl rfl, fun U hU hW => ⟨rfl, Wd.call hPc hDc hK hC hZ hS hFc U hU hW⟩⟩ rfl rfl hl.1 rfl (lv_room (Nat.le_of_ble_eq_true rfl)) dX10_putNumber_32 ⟨(Nat.le_of_ble_eq_true rfl), (Nat.le_of_ble_eq_true rfl)⟩) hS (fun q _ h => hFc q h) hFc (fun u t H1 locs ht hvm hw hB hz1 hk1 hS => ?_)
        obtain ⟨qn47, fn48, hn49, hP1, hD1⟩ := hB
        rw [ht] at hP1
        obtain ⟨hP, hD⟩ := PDq.join (w := [(oX10 w0 v0 v1 v2 v3 v4 g5 g6 (nI ed) g8 v9 (nI nb) g11 g12 v13 g14 g15 g16 g17 g18 g19 g20 g21 g22 g23 g24 g25 g26 v27 v28 v29 v30 v31 v32 v33 v34 v35 v36 v37 (nI qn47)), (v37, .inl (cA 0, 100, .inl fn48))]) 0 hP hD [0, 1] [] rfl rfl (by decide) (by decide) hk1 hFc hP1 hD1 rfl
        generalize H1 = H at hP hS ⊢
        refine lv_iload_n hx hb dX10_putNumber_35 rfl (lv_at hl 0 rfl) ?_
        refine lv_bipush (v := 10) hx hb dX10_putNumber_36 (by decide) ?_
        refine lv_idiv hx hb dX10_putNumber_38 (by decide) ?_
        refine lv_topi (fun yn50 eyn50 => ?_)
        obtain rfl : yn50 = 1 := eyn50.trans (by first | rfl | decide +kernel)
        refine lv_istore_n (lv' := [(2, .int 1), (0, .ref w0), (1, .int a)]) hx hb dX10_putNumber_39 rfl hl (by decide) rfl (fun ls hl => ?_)
        refine lv_goto (tgt := 18) hx hb dX10_putNumber_40 (by decide) ?_
        refine lv_iload_n hx hb dX10_putNumber_18 rfl (lv_at hl 0 rfl) ?_
        refine lv_if_le (tgt := 43) hx hb dX10_putNumber_19 (by decide) (fun c9 => absurd c9 (by decide)) (fun c51 => ?_)
        refine lv_aload_n hx hb dX10_putNumber_22 rfl (lv_at hl 1 rfl) ?_
        refine lv_bipush (v := 48) hx hb dX10_putNumber_23 (by decide) ?_
        refine lv_iload_n hx hb dX10_putNumber_25 rfl (lv_at hl 2 rfl) ?_
        refine lv_iload_n hx hb dX10_putNumber_26 rfl (lv_at hl 0 rfl) ?_
        refine lv_idiv hx hb dX10_putNumber_27 (by decide) ?_
        refine lv_topi (fun yn52 eyn52 => ?_)
        refine lv_bipush (v := 10) hx hb dX10_putNumber_28 (by decide) ?_
        refine lv_irem hx hb dX10_putNumber_30 (by decide) ?_
        refine lv_topi (fun yn53 eyn53 => ?_)
        refine lv_iadd hx hb dX10_putNumber_31 ?_
        refine lv_topi (fun yn54 eyn54 => ?_)
        obtain ⟨hPc, hDc, hFc⟩ := PDq.cut (wc := [(oX10 w0 v0 v1 v2 v3 v4 g5 g6 (nI ed) g8 v9 (nI nb) g11 g12 v13 g14 g15 g16 g17 g18 g19 g20 g21 g22 g23 g24 g25 g26 v27 v28 v29 v30 v31 v32 v33 v34 v35 v36 v37 (nI qn47)), (v37, .inl (cA 0, 100, .inl fn48))]) hP hD hS hA [0, 1] (by decide) rfl
        refine va_callv (va_runV (As := [.int yn54]) (rest := []) ⟨hx, hb, hml, hown, hts⟩ (r_put l D cA sa w0 ed nb qn47 v0 v1 v2 v3 v4 v9 v13 v27 v28 v29 v30 v31 v32 v33 v34 v35 v36 v37 g8 g11 g12 g14 g15 g16 g17 g18 g19 g20 g21 g22 g23 g24 g26 g5 g6 g25 fn48 yn54 H.size (by omega)) (cwV 1 hts gX10_putNumber_X10_put rfl rfl rfl (by decide +kernel) ⟨(Nat.le_of_ble_eq_true rfl), (Nat.le_of_ble_eq_true rfl)⟩) ⟨Wd.blind, va_recv hK hPc (ci := 11) (q0 := 0) rfl rfl, fun U hU hW => ⟨rfl, Wd.call hPc hDc hK hC hZ hS hFc U hU hW⟩⟩ rfl rfl hl.1 rfl (lv_room (Nat.le_of_ble_eq_true rfl)) dX10_putNumber_32 ⟨(Nat.le_of_ble_eq_true rfl), (Nat.le_of_ble_eq_true rfl)⟩) hS (fun q _ h => hFc q h) hFc (fun u t H1 locs ht hvm hw hB hz1 hk1 hS => ?_)
        obtain ⟨qn55, fn56, hn57, hP1, hD1⟩ := hB
        rw [ht] at hP1
        obtain ⟨hP, hD⟩ := PDq.join (w := [(oX10 w0 v0 v1 v2 v3 v4 g5 g6 (nI ed) g8 v9 (nI nb) g11 g12 v13 g14 g15 g16 g17 g18 g19 g20 g21 g22 g23 g24 g25 g26 v27 v28 v29 v30 v31 v32 v33 v34 v35 v36 v37 (nI qn55)), (v37, .inl (cA 0, 100, .inl fn56))]) 0 hP hD [0, 1] [] rfl rfl (by decide) (by decide) hk1 hFc hP1 hD1 rfl
        generalize H1 = H at hP hS ⊢
        refine lv_iload_n hx hb dX10_putNumber_35 rfl (lv_at hl 0 rfl) ?_
        refine lv_bipush (v := 10) hx hb dX10_putNumber_36 (by decide) ?_
        refine lv_idiv hx hb dX10_putNumber_38 (by decide) ?_
        refine lv_topi (fun yn58 eyn58 => ?_)
        obtain rfl : yn58 = 0 := eyn58.trans (by first | rfl | decide +kernel)
        refine lv_istore_n (lv' := [(2, .int 0), (0, .ref w0), (1, .int a)]) hx hb dX10_putNumber_39 rfl hl (by decide) rfl (fun ls hl => ?_)
        refine lv_goto (tgt := 18) hx hb dX10_putNumber_40 (by decide) ?_
        refine lv_iload_n hx hb dX10_putNumber_18 rfl (lv_at hl 0 rfl) ?_
        refine lv_if_le (tgt := 43) hx hb dX10_putNumber_19 (by decide) (fun c59 => ?_) (fun c9 => absurd c9 (by decide))
        obtain ⟨hP9, hD9⟩ := PDq.sub (ws' := [(oX10 w0 v0 v1 v2 v3 v4 g5 g6 (nI ed) g8 v9 (nI nb) g11 g12 v13 g14 g15 g16 g17 g18 g19 g20 g21 g22 g23 g24 g25 g26 v27 v28 v29 v30 v31 v32 v33 v34 v35 v36 v37 (nI qn55)), (v37, .inl (cA 0, 100, .inl fn56))]) hP hD [0, 1] (by decide) rfl
        refine W.widen (k := 0) (n := 0) (Nat.le_of_ble_eq_true rfl) (Nat.le_of_ble_eq_true rfl) ?_
        exact (W.vret hx hb hr (fun t ht hW => ⟨⟨(), rfl, trivial, qn55, fn56, (by omega), by rw [ht]; exact hP9, hD9⟩, hS.F ht⟩) hS.2.2 dX10_putNumber_43)
      · skip
        refine lv_bipush (v := 10) hx hb dX10_putNumber_10 (by decide) ?_
        refine lv_iload_n hx hb dX10_putNumber_12 rfl (lv_at hl 0 rfl) ?_
        refine lv_imul hx hb dX10_putNumber_13 ?_
        refine lv_topi (fun yn60 eyn60 => ?_)
        obtain rfl : yn60 = 1000 := eyn60.trans (by first | rfl | decide +kernel)
        refine lv_istore_n (lv' := [(2, .int 1000), (0, .ref w0), (1, .int a)]) hx hb dX10_putNumber_14 rfl hl (by decide) rfl (fun ls hl => ?_)
        refine lv_goto (tgt := 2) hx hb dX10_putNumber_15 (by decide) ?_
        refine lv_iload_n hx hb dX10_putNumber_2 rfl (lv_at hl 2 rfl) ?_
        refine lv_iload_n hx hb dX10_putNumber_3 rfl (lv_at hl 0 rfl) ?_
        refine lv_idiv hx hb dX10_putNumber_4 (by decide) ?_
        refine lv_topi (fun yn61 eyn61 => ?_)
        refine lv_bipush (v := 9) hx hb dX10_putNumber_5 (by decide) ?_
        refine lv_icmp_le (tgt := 18) hx hb dX10_putNumber_7 (by decide) (fun c62 => ?_) (fun c62 => ?_)
        · skip
          refine lv_iload_n hx hb dX10_putNumber_18 rfl (lv_at hl 0 rfl) ?_
          refine lv_if_le (tgt := 43) hx hb dX10_putNumber_19 (by decide) (fun c9 => absurd c9 (by decide)) (fun c63 => ?_)
          refine lv_aload_n hx hb dX10_putNumber_22 rfl (lv_at hl 1 rfl) ?_
          refine lv_bipush (v := 48) hx hb dX10_putNumber_23 (by decide) ?_
          refine lv_iload_n hx hb dX10_putNumber_25 rfl (lv_at hl 2 rfl) ?_
          refine lv_iload_n hx hb dX10_putNumber_26 rfl (lv_at hl 0 rfl) ?_
          refine lv_idiv hx hb dX10_putNumber_27 (by decide) ?_
          refine lv_topi (fun yn64 eyn64 => ?_)
          refine lv_bipush (v := 10) hx hb dX10_putNumber_28 (by decide) ?_
          refine lv_irem hx hb dX10_putNumber_30 (by decide) ?_
          refine lv_topi (fun yn65 eyn65 => ?_)
          refine lv_iadd hx hb dX10_putNumber_31 ?_
          refine lv_topi (fun yn66 eyn66 => ?_)
          obtain ⟨hPc, hDc, hFc⟩ := PDq.cut (wc := [(oX10 w0 v0 v1 v2 v3 v4 g5 g6 (nI ed) g8 v9 (nI nb) g11 g12 v13 g14 g15 g16 g17 g18 g19 g20 g21 g22 g23 g24 g25 g26 v27 v28 v29 v30 v31 v32 v33 v34 v35 v36 v37 (nI ol)), (v37, .inl (cA 0, 100, .inl fo9))]) hP hD hS hA [0, 1] (by decide) rfl
          refine va_callv (va_runV (As := [.int yn66]) (rest := []) ⟨hx, hb, hml, hown, hts⟩ (r_put l D cA sa w0 ed nb ol v0 v1 v2 v3 v4 v9 v13 v27 v28 v29 v30 v31 v32 v33 v34 v35 v36 v37 g8 g11 g12 g14 g15 g16 g17 g18 g19 g20 g21 g22 g23 g24 g26 g5 g6 g25 fo9 yn66 s.heap.size (by omega)) (cwV 1 hts gX10_putNumber_X10_put rfl rfl rfl (by decide +kernel) ⟨(Nat.le_of_ble_eq_true rfl), (Nat.le_of_ble_eq_true rfl)⟩) ⟨Wd.blind, va_recv hK hPc (ci := 11) (q0 := 0) rfl rfl, fun U hU hW => ⟨rfl, Wd.call hPc hDc hK hC hZ hS hFc U hU hW⟩⟩ rfl rfl hl.1 rfl (lv_room (Nat.le_of_ble_eq_true rfl)) dX10_putNumber_32 ⟨(Nat.le_of_ble_eq_true rfl), (Nat.le_of_ble_eq_true rfl)⟩) hS (fun q _ h => hFc q h) hFc (fun u t H1 locs ht hvm hw hB hz1 hk1 hS => ?_)
          obtain ⟨qn67, fn68, hn69, hP1, hD1⟩ := hB
          rw [ht] at hP1
          obtain ⟨hP, hD⟩ := PDq.join (w := [(oX10 w0 v0 v1 v2 v3 v4 g5 g6 (nI ed) g8 v9 (nI nb) g11 g12 v13 g14 g15 g16 g17 g18 g19 g20 g21 g22 g23 g24 g25 g26 v27 v28 v29 v30 v31 v32 v33 v34 v35 v36 v37 (nI qn67)), (v37, .inl (cA 0, 100, .inl fn68))]) 0 hP hD [0, 1] [] rfl rfl (by decide) (by decide) hk1 hFc hP1 hD1 rfl
          generalize H1 = H at hP hS ⊢
          refine lv_iload_n hx hb dX10_putNumber_35 rfl (lv_at hl 0 rfl) ?_
          refine lv_bipush (v := 10) hx hb dX10_putNumber_36 (by decide) ?_
          refine lv_idiv hx hb dX10_putNumber_38 (by decide) ?_
          refine lv_topi (fun yn70 eyn70 => ?_)
          obtain rfl : yn70 = 100 := eyn70.trans (by first | rfl | decide +kernel)
          refine lv_istore_n (lv' := [(2, .int 100), (0, .ref w0), (1, .int a)]) hx hb dX10_putNumber_39 rfl hl (by decide) rfl (fun ls hl => ?_)
          refine lv_goto (tgt := 18) hx hb dX10_putNumber_40 (by decide) ?_
          refine lv_iload_n hx hb dX10_putNumber_18 rfl (lv_at hl 0 rfl) ?_
          refine lv_if_le (tgt := 43) hx hb dX10_putNumber_19 (by decide) (fun c9 => absurd c9 (by decide)) (fun c71 => ?_)
          refine lv_aload_n hx hb dX10_putNumber_22 rfl (lv_at hl 1 rfl) ?_
          refine lv_bipush (v := 48) hx hb dX10_putNumber_23 (by decide) ?_
          refine lv_iload_n hx hb dX10_putNumber_25 rfl (lv_at hl 2 rfl) ?_
          refine lv_iload_n hx hb dX10_putNumber_26 rfl (lv_at hl 0 rfl) ?_
          refine lv_idiv hx hb dX10_putNumber_27 (by decide) ?_
          refine lv_topi (fun yn72 eyn72 => ?_)
          refine lv_bipush (v := 10) hx hb dX10_putNumber_28 (by decide) ?_
          refine lv_irem hx hb dX10_putNumber_30 (by decide) ?_
          refine lv_topi (fun yn73 eyn73 => ?_)
          refine lv_iadd hx hb dX10_putNumber_31 ?_
          refine lv_topi (fun yn74 eyn74 => ?_)
          obtain ⟨hPc, hDc, hFc⟩ := PDq.cut (wc := [(oX10 w0 v0 v1 v2 v3 v4 g5 g6 (nI ed) g8 v9 (nI nb) g11 g12 v13 g14 g15 g16 g17 g18 g19 g20 g21 g22 g23 g24 g25 g26 v27 v28 v29 v30 v31 v32 v33 v34 v35 v36 v37 (nI qn67)), (v37, .inl (cA 0, 100, .inl fn68))]) hP hD hS hA [0, 1] (by decide) rfl
          refine va_callv (va_runV (As := [.int yn74]) (rest := []) ⟨hx, hb, hml, hown, hts⟩ (r_put l D cA sa w0 ed nb qn67 v0 v1 v2 v3 v4 v9 v13 v27 v28 v29 v30 v31 v32 v33 v34 v35 v36 v37 g8 g11 g12 g14 g15 g16 g17 g18 g19 g20 g21 g22 g23 g24 g26 g5 g6 g25 fn68 yn74 H.size (by omega)) (cwV 1 hts gX10_putNumber_X10_put rfl rfl rfl (by decide +kernel) ⟨(Nat.le_of_ble_eq_true rfl), (Nat.le_of_ble_eq_true rfl)⟩) ⟨Wd.blind, va_recv hK hPc (ci := 11) (q0 := 0) rfl rfl, fun U hU hW => ⟨rfl, Wd.call hPc hDc hK hC hZ hS hFc U hU hW⟩⟩ rfl rfl hl.1 rfl (lv_room (Nat.le_of_ble_eq_true rfl)) dX10_putNumber_32 ⟨(Nat.le_of_ble_eq_true rfl), (Nat.le_of_ble_eq_true rfl)⟩) hS (fun q _ h => hFc q h) hFc (fun u t H1 locs ht hvm hw hB hz1 hk1 hS => ?_)
          obtain ⟨qn75, fn76, hn77, hP1, hD1⟩ := hB
          rw [ht] at hP1
          obtain ⟨hP, hD⟩ := PDq.join (w := [(oX10 w0 v0 v1 v2 v3 v4 g5 g6 (nI ed) g8 v9 (nI nb) g11 g12 v13 g14 g15 g16 g17 g18 g19 g20 g21 g22 g23 g24 g25 g26 v27 v28 v29 v30 v31 v32 v33 v34 v35 v36 v37 (nI qn75)), (v37, .inl (cA 0, 100, .inl fn76))]) 0 hP hD [0, 1] [] rfl rfl (by decide) (by decide) hk1 hFc hP1 hD1 rfl
          generalize H1 = H at hP hS ⊢
          refine lv_iload_n hx hb dX10_putNumber_35 rfl (lv_at hl 0 rfl) ?_
          refine lv_bipush (v := 10) hx hb dX10_putNumber_36 (by decide) ?_
          refine lv_idiv hx hb dX10_putNumber_38 (by decide) ?_
          refine lv_topi (fun yn78 eyn78 => ?_)
          obtain rfl : yn78 = 10 := eyn78.trans (by first | rfl | decide +kernel)
          refine lv_istore_n (lv' := [(2, .int 10), (0, .ref w0), (1, .int a)]) hx hb dX10_putNumber_39 rfl hl (by decide) rfl (fun ls hl => ?_)
          refine lv_goto (tgt := 18) hx hb dX10_putNumber_40 (by decide) ?_
          refine lv_iload_n hx hb dX10_putNumber_18 rfl (lv_at hl 0 rfl) ?_
          refine lv_if_le (tgt := 43) hx hb dX10_putNumber_19 (by decide) (fun c9 => absurd c9 (by decide)) (fun c79 => ?_)
          refine lv_aload_n hx hb dX10_putNumber_22 rfl (lv_at hl 1 rfl) ?_
          refine lv_bipush (v := 48) hx hb dX10_putNumber_23 (by decide) ?_
          refine lv_iload_n hx hb dX10_putNumber_25 rfl (lv_at hl 2 rfl) ?_
          refine lv_iload_n hx hb dX10_putNumber_26 rfl (lv_at hl 0 rfl) ?_
          refine lv_idiv hx hb dX10_putNumber_27 (by decide) ?_
          refine lv_topi (fun yn80 eyn80 => ?_)
          refine lv_bipush (v := 10) hx hb dX10_putNumber_28 (by decide) ?_
          refine lv_irem hx hb dX10_putNumber_30 (by decide) ?_
          refine lv_topi (fun yn81 eyn81 => ?_)
          refine lv_iadd hx hb dX10_putNumber_31 ?_
          refine lv_topi (fun yn82 eyn82 => ?_)
          obtain ⟨hPc, hDc, hFc⟩ := PDq.cut (wc := [(oX10 w0 v0 v1 v2 v3 v4 g5 g6 (nI ed) g8 v9 (nI nb) g11 g12 v13 g14 g15 g16 g17 g18 g19 g20 g21 g22 g23 g24 g25 g26 v27 v28 v29 v30 v31 v32 v33 v34 v35 v36 v37 (nI qn75)), (v37, .inl (cA 0, 100, .inl fn76))]) hP hD hS hA [0, 1] (by decide) rfl
          refine va_callv (va_runV (As := [.int yn82]) (rest := []) ⟨hx, hb, hml, hown, hts⟩ (r_put l D cA sa w0 ed nb qn75 v0 v1 v2 v3 v4 v9 v13 v27 v28 v29 v30 v31 v32 v33 v34 v35 v36 v37 g8 g11 g12 g14 g15 g16 g17 g18 g19 g20 g21 g22 g23 g24 g26 g5 g6 g25 fn76 yn82 H.size (by omega)) (cwV 1 hts gX10_putNumber_X10_put rfl rfl rfl (by decide +kernel) ⟨(Nat.le_of_ble_eq_true rfl), (Nat.le_of_ble_eq_true rfl)⟩) ⟨Wd.blind, va_recv hK hPc (ci := 11) (q0 := 0) rfl rfl, fun U hU hW => ⟨rfl, Wd.call hPc hDc hK hC hZ hS hFc U hU hW⟩⟩ rfl rfl hl.1 rfl (lv_room (Nat.le_of_ble_eq_true rfl)) dX10_putNumber_32 ⟨(Nat.le_of_ble_eq_true rfl), (Nat.le_of_ble_eq_true rfl)⟩) hS (fun q _ h => hFc q h) hFc (fun u t H1 locs ht hvm hw hB hz1 hk1 hS => ?_)
          obtain ⟨qn83, fn84, hn85, hP1, hD1⟩ := hB
          rw [ht] at hP1
          obtain ⟨hP, hD⟩ := PDq.join (w := [(oX10 w0 v0 v1 v2 v3 v4 g5 g6 (nI ed) g8 v9 (nI nb) g11 g12 v13 g14 g15 g16 g17 g18 g19 g20 g21 g22 g23 g24 g25 g26 v27 v28 v29 v30 v31 v32 v33 v34 v35 v36 v37 (nI qn83)), (v37, .inl (cA 0, 100, .inl fn84))]) 0 hP hD [0, 1] [] rfl rfl (by decide) (by decide) hk1 hFc hP1 hD1 rfl
          generalize H1 = H at hP hS ⊢
          refine lv_iload_n hx hb dX10_putNumber_35 rfl (lv_at hl 0 rfl) ?_
          refine lv_bipush (v := 10) hx hb dX10_putNumber_36 (by decide) ?_
          refine lv_idiv hx hb dX10_putNumber_38 (by decide) ?_
          refine lv_topi (fun yn86 eyn86 => ?_)
          obtain rfl : yn86 = 1 := eyn86.trans (by first | rfl | decide +kernel)
          refine lv_istore_n (lv' := [(2, .int 1), (0, .ref w0), (1, .int a)]) hx hb dX10_putNumber_39 rfl hl (by decide) rfl (fun ls hl => ?_)
          refine lv_goto (tgt := 18) hx hb dX10_putNumber_40 (by decide) ?_
          refine lv_iload_n hx hb dX10_putNumber_18 rfl (lv_at hl 0 rfl) ?_
          refine lv_if_le (tgt := 43) hx hb dX10_putNumber_19 (by decide) (fun c9 => absurd c9 (by decide)) (fun c87 => ?_)
          refine lv_aload_n hx hb dX10_putNumber_22 rfl (lv_at hl 1 rfl) ?_
          refine lv_bipush (v := 48) hx hb dX10_putNumber_23 (by decide) ?_
          refine lv_iload_n hx hb dX10_putNumber_25 rfl (lv_at hl 2 rfl) ?_
          refine lv_iload_n hx hb dX10_putNumber_26 rfl (lv_at hl 0 rfl) ?_
          refine lv_idiv hx hb dX10_putNumber_27 (by decide) ?_
          refine lv_topi (fun yn88 eyn88 => ?_)
          refine lv_bipush (v := 10) hx hb dX10_putNumber_28 (by decide) ?_
          refine lv_irem hx hb dX10_putNumber_30 (by decide) ?_
          refine lv_topi (fun yn89 eyn89 => ?_)
          refine lv_iadd hx hb dX10_putNumber_31 ?_
          refine lv_topi (fun yn90 eyn90 => ?_)
          obtain ⟨hPc, hDc, hFc⟩ := PDq.cut (wc := [(oX10 w0 v0 v1 v2 v3 v4 g5 g6 (nI ed) g8 v9 (nI nb) g11 g12 v13 g14 g15 g16 g17 g18 g19 g20 g21 g22 g23 g24 g25 g26 v27 v28 v29 v30 v31 v32 v33 v34 v35 v36 v37 (nI qn83)), (v37, .inl (cA 0, 100, .inl fn84))]) hP hD hS hA [0, 1] (by decide) rfl
          refine va_callv (va_runV (As := [.int yn90]) (rest := []) ⟨hx, hb, hml, hown, hts⟩ (r_put l D cA sa w0 ed nb qn83 v0 v1 v2 v3 v4 v9 v13 v27 v28 v29 v30 v31 v32 v33 v34 v35 v36 v37 g8 g11 g12 g14 g15 g16 g17 g18 g19 g20 g21 g22 g23 g24 g26 g5 g6 g25 fn84 yn90 H.size (by omega)) (cwV 1 hts gX10_putNumber_X10_put rfl rfl rfl (by decide +kernel) ⟨(Nat.le_of_ble_eq_true rfl), (Nat.le_of_ble_eq_true rfl)⟩) ⟨Wd.blind, va_recv hK hPc (ci := 11) (q0 := 0) rfl rfl, fun U hU hW => ⟨rfl, Wd.call hPc hDc hK hC hZ hS hFc U hU hW⟩⟩ rfl rfl hl.1 rfl (lv_room (Nat.le_of_ble_eq_true rfl)) dX10_putNumber_32 ⟨(Nat.le_of_ble_eq_true rfl), (Nat.le_of_ble_eq_true rfl)⟩) hS (fun q _ h => hFc q h) hFc (fun u t H1 locs ht hvm hw hB hz1 hk1 hS => ?_)
          obtain ⟨qn91, fn92, hn93, hP1, hD1⟩ := hB
          rw [ht] at hP1
          obtain ⟨hP, hD⟩ := PDq.join (w := [(oX10 w0 v0 v1 v2 v3 v4 g5 g6 (nI ed) g8 v9 (nI nb) g11 g12 v13 g14 g15 g16 g17 g18 g19 g20 g21 g22 g23 g24 g25 g26 v27 v28 v29 v30 v31 v32 v33 v34 v35 v36 v37 (nI qn91)), (v37, .inl (cA 0, 100, .inl fn92))]) 0 hP hD [0, 1] [] rfl rfl (by decide) (by decide) hk1 hFc hP1 hD1 rfl
          generalize H1 = H at hP hS ⊢
          refine lv_iload_n hx hb dX10_putNumber_35 rfl (lv_at hl 0 rfl) ?_
          refine lv_bipush (v := 10) hx hb dX10_putNumber_36 (by decide) ?_
          refine lv_idiv hx hb dX10_putNumber_38 (by decide) ?_
          refine lv_topi (fun yn94 eyn94 => ?_)
          obtain rfl : yn94 = 0 := eyn94.trans (by first | rfl | decide +kernel)
          refine lv_istore_n (lv' := [(2, .int 0), (0, .ref w0), (1, .int a)]) hx hb dX10_putNumber_39 rfl hl (by decide) rfl (fun ls hl => ?_)
          refine lv_goto (tgt := 18) hx hb dX10_putNumber_40 (by decide) ?_
          refine lv_iload_n hx hb dX10_putNumber_18 rfl (lv_at hl 0 rfl) ?_
          refine lv_if_le (tgt := 43) hx hb dX10_putNumber_19 (by decide) (fun c95 => ?_) (fun c9 => absurd c9 (by decide))
          obtain ⟨hP9, hD9⟩ := PDq.sub (ws' := [(oX10 w0 v0 v1 v2 v3 v4 g5 g6 (nI ed) g8 v9 (nI nb) g11 g12 v13 g14 g15 g16 g17 g18 g19 g20 g21 g22 g23 g24 g25 g26 v27 v28 v29 v30 v31 v32 v33 v34 v35 v36 v37 (nI qn91)), (v37, .inl (cA 0, 100, .inl fn92))]) hP hD [0, 1] (by decide) rfl
          refine W.widen (k := 0) (n := 0) (Nat.le_of_ble_eq_true rfl) (Nat.le_of_ble_eq_true rfl) ?_
          exact (W.vret hx hb hr (fun t ht hW => ⟨⟨(), rfl, trivial, qn91, fn92, (by omega), by rw [ht]; exact hP9, hD9⟩, hS.F ht⟩) hS.2.2 dX10_putNumber_43)
        · skip
          refine lv_bipush (v := 10) hx hb dX10_putNumber_10 (by decide) ?_
          refine lv_iload_n hx hb dX10_putNumber_12 rfl (lv_at hl 0 rfl) ?_
          refine lv_imul hx hb dX10_putNumber_13 ?_
          refine lv_topi (fun yn96 eyn96 => ?_)
          obtain rfl : yn96 = 10000 := eyn96.trans (by first | rfl | decide +kernel)
          refine lv_istore_n (lv' := [(2, .int 10000), (0, .ref w0), (1, .int a)]) hx hb dX10_putNumber_14 rfl hl (by decide) rfl (fun ls hl => ?_)
          refine lv_goto (tgt := 2) hx hb dX10_putNumber_15 (by decide) ?_
          refine lv_iload_n hx hb dX10_putNumber_2 rfl (lv_at hl 2 rfl) ?_
          refine lv_iload_n hx hb dX10_putNumber_3 rfl (lv_at hl 0 rfl) ?_
          refine lv_idiv hx hb dX10_putNumber_4 (by decide) ?_
          refine lv_topi (fun yn97 eyn97 => ?_)
          refine lv_bipush (v := 9) hx hb dX10_putNumber_5 (by decide) ?_
          refine lv_icmp_le (tgt := 18) hx hb dX10_putNumber_7 (by decide) (fun c98 => ?_) (fun c98 => ?_)
          · skip
            refine lv_iload_n hx hb dX10_putNumber_18 rfl (lv_at hl 0 rfl) ?_
            refine lv_if_le (tgt := 43) hx hb dX10_putNumber_19 (by decide) (fun c9 => absurd c9 (by decide)) (fun c99 => ?_)
            refine lv_aload_n hx hb dX10_putNumber_22 rfl (lv_at hl 1 rfl) ?_
            refine lv_bipush (v := 48) hx hb dX10_putNumber_23 (by decide) ?_
            refine lv_iload_n hx hb dX10_putNumber_25 rfl (lv_at hl 2 rfl) ?_
            refine lv_iload_n hx hb dX10_putNumber_26 rfl (lv_at hl 0 rfl) ?_
            refine lv_idiv hx hb dX10_putNumber_27 (by decide) ?_
            refine lv_topi (fun yn100 eyn100 => ?_)
            refine lv_bipush (v := 10) hx hb dX10_putNumber_28 (by decide) ?_
            refine lv_irem hx hb dX10_putNumber_30 (by decide) ?_
            refine lv_topi (fun yn101 eyn101 => ?_)
            refine lv_iadd hx hb dX10_putNumber_31 ?_
            refine lv_topi (fun yn102 eyn102 => ?_)
            obtain ⟨hPc, hDc, hFc⟩ := PDq.cut (wc := [(oX10 w0 v0 v1 v2 v3 v4 g5 g6 (nI ed) g8 v9 (nI nb) g11 g12 v13 g14 g15 g16 g17 g18 g19 g20 g21 g22 g23 g24 g25 g26 v27 v28 v29 v30 v31 v32 v33 v34 v35 v36 v37 (nI ol)), (v37, .inl (cA 0, 100, .inl fo9))]) hP hD hS hA [0, 1] (by decide) rfl
            refine va_callv (va_runV (As := [.int yn102]) (rest := []) ⟨hx, hb, hml, hown, hts⟩ (r_put l D cA sa w0 ed nb ol v0 v1 v2 v3 v4 v9 v13 v27 v28 v29 v30 v31 v32 v33 v34 v35 v36 v37 g8 g11 g12 g14 g15 g16 g17 g18 g19 g20 g21 g22 g23 g24 g26 g5 g6 g25 fo9 yn102 s.heap.size (by omega)) (cwV 1 hts gX10_putNumber_X10_put rfl rfl rfl (by decide +kernel) ⟨(Nat.le_of_ble_eq_true rfl), (Nat.le_of_ble_eq_true rfl)⟩) ⟨Wd.blind, va_recv hK hPc (ci := 11) (q0 := 0) rfl rfl, fun U hU hW => ⟨rfl, Wd.call hPc hDc hK hC hZ hS hFc U hU hW⟩⟩ rfl rfl hl.1 rfl (lv_room (Nat.le_of_ble_eq_true rfl)) dX10_putNumber_32 ⟨(Nat.le_of_ble_eq_true rfl), (Nat.le_of_ble_eq_true rfl)⟩) hS (fun q _ h => hFc q h) hFc (fun u t H1 locs ht hvm hw hB hz1 hk1 hS => ?_)
            obtain ⟨qn103, fn104, hn105, hP1, hD1⟩ := hB
            rw [ht] at hP1
            obtain ⟨hP, hD⟩ := PDq.join (w := [(oX10 w0 v0 v1 v2 v3 v4 g5 g6 (nI ed) g8 v9 (nI nb) g11 g12 v13 g14 g15 g16 g17 g18 g19 g20 g21 g22 g23 g24 g25 g26 v27 v28 v29 v30 v31 v32 v33 v34 v35 v36 v37 (nI qn103)), (v37, .inl (cA 0, 100, .inl fn104))]) 0 hP hD [0, 1] [] rfl rfl (by decide) (by decide) hk1 hFc hP1 hD1 rfl
            generalize H1 = H at hP hS ⊢
            refine lv_iload_n hx hb dX10_putNumber_35 rfl (lv_at hl 0 rfl) ?_
            refine lv_bipush (v := 10) hx hb dX10_putNumber_36 (by decide) ?_
            refine lv_idiv hx hb dX10_putNumber_38 (by decide) ?_
            refine lv_topi (fun yn106 eyn106 => ?_)
            obtain rfl : yn106 = 1000 := eyn106.trans (by first | rfl | decide +kernel)
            refine lv_istore_n (lv' := [(2, .int 1000), (0, .ref w0), (1, .int a)]) hx hb dX10_putNumber_39 rfl hl (by decide) rfl (fun ls hl => ?_)
            refine lv_goto (tgt := 18) hx hb dX10_putNumber_40 (by decide) ?_
            refine lv_iload_n hx hb dX10_putNumber_18 rfl (lv_at hl 0 rfl) ?_
            refine lv_if_le (tgt := 43) hx hb dX10_putNumber_19 (by decide) (fun c9 => absurd c9 (by decide)) (fun c107 => ?_)
            refine lv_aload_n hx hb dX10_putNumber_22 rfl (lv_at hl 1 rfl) ?_
            refine lv_bipush (v := 48) hx hb dX10_putNumber_23 (by decide) ?_
            refine lv_iload_n hx hb dX10_putNumber_25 rfl (lv_at hl 2 rfl) ?_
            refine lv_iload_n hx hb dX10_putNumber_26 rfl (lv_at hl 0 rfl) ?_
            refine lv_idiv hx hb dX10_putNumber_27 (by decide) ?_
            refine lv_topi (fun yn108 eyn108 => ?_)
            refine lv_bipush (v := 10) hx hb dX10_putNumber_28 (by decide) ?_
            refine lv_irem hx hb dX10_putNumber_30 (by decide) ?_
            refine lv_topi (fun yn109 eyn109 => ?_)
            refine lv_iadd hx hb dX10_putNumber_31 ?_
            refine lv_topi (fun yn110 eyn110 => ?_)
            obtain ⟨hPc, hDc, hFc⟩ := PDq.cut (wc := [(oX10 w0 v0 v1 v2 v3 v4 g5 g6 (nI ed) g8 v9 (nI nb) g11 g12 v13 g14 g15 g16 g17 g18 g19 g20 g21 g22 g23 g24 g25 g26 v27 v28 v29 v30 v31 v32 v33 v34 v35 v36 v37 (nI qn103)), (v37, .inl (cA 0, 100, .inl fn104))]) hP hD hS hA [0, 1] (by decide) rfl
            refine va_callv (va_runV (As := [.int yn110]) (rest := []) ⟨hx, hb, hml, hown, hts⟩ (r_put l D cA sa w0 ed nb qn103 v0 v1 v2 v3 v4 v9 v13 v27 v28 v29 v30 v31 v32 v33 v34 v35 v36 v37 g8 g11 g12 g14 g15 g16 g17 g18 g19 g20 g21 g22 g23 g24 g26 g5 g6 g25 fn104 yn110 H.size (by omega)) (cwV 1 hts gX10_putNumber_X10_put rfl rfl rfl (by decide +kernel) ⟨(Nat.le_of_ble_eq_true rfl), (Nat.le_of_ble_eq_true rfl)⟩) ⟨Wd.blind, va_recv hK hPc (ci := 11) (q0 := 0) rfl rfl, fun U hU hW => ⟨rfl, Wd.call hPc hDc hK hC hZ hS hFc U hU hW⟩⟩ rfl rfl hl.1 rfl (lv_room (Nat.le_of_ble_eq_true rfl)) dX10_putNumber_32 ⟨(Nat.le_of_ble_eq_true rfl), (Nat.le_of_ble_eq_true rfl)⟩) hS (fun q _ h => hFc q h) hFc (fun u t H1 locs ht hvm hw hB hz1 hk1 hS => ?_)
            obtain ⟨qn111, fn112, hn113, hP1, hD1⟩ := hB
            rw [ht] at hP1
            obtain ⟨hP, hD⟩ := PDq.join (w := [(oX10 w0 v0 v1 v2 v3 v4 g5 g6 (nI ed) g8 v9 (nI nb) g11 g12 v13 g14 g15 g16 g17 g18 g19 g20 g21 g22 g23 g24 g25 g26 v27 v28 v29 v30 v31 v32 v33 v34 v35 v36 v37 (nI qn111)), (v37, .inl (cA 0, 100, .inl fn112))]) 0 hP hD [0, 1] [] rfl rfl (by decide) (by decide) hk1 hFc hP1 hD1 rfl
            generalize H1 = H at hP hS ⊢
            refine lv_iload_n hx hb dX10_putNumber_35 rfl (lv_at hl 0 rfl) ?_
            refine lv_bipush (v := 10) hx hb dX10_putNumber_36 (by decide) ?_
            refine lv_idiv hx hb dX10_putNumber_38 (by decide) ?_
            refine lv_topi (fun yn114 eyn114 => ?_)
            obtain rfl : yn114 = 100 := eyn114.trans (by first | rfl | decide +kernel)
            refine lv_istore_n (lv' := [(2, .int 100), (0, .ref w0), (1, .int a)]) hx hb dX10_putNumber_39 rfl hl (by decide) rfl (fun ls hl => ?_)
            refine lv_goto (tgt := 18) hx hb dX10_putNumber_40 (by decide) ?_
            refine lv_iload_n hx hb dX10_putNumber_18 rfl (lv_at hl 0 rfl) ?_
            refine lv_if_le (tgt := 43) hx hb dX10_putNumber_19 (by decide) (fun c9 => absurd c9 (by decide)) (fun c115 => ?_)
            refine lv_aload_n hx hb dX10_putNumber_22 rfl (lv_at hl 1 rfl) ?_
            refine lv_bipush (v := 48) hx hb dX10_putNumber_23 (by decide) ?_
            refine lv_iload_n hx hb dX10_putNumber_25 rfl (lv_at hl 2 rfl) ?_
            refine lv_iload_n hx hb dX10_putNumber_26 rfl (lv_at hl 0 rfl) ?_
            refine lv_idiv hx hb dX10_putNumber_27 (by decide) ?_
            refine lv_topi (fun yn116 eyn116 => ?_)
            refine lv_bipush (v := 10) hx hb dX10_putNumber_28 (by decide) ?_
            refine lv_irem hx hb dX10_putNumber_30 (by decide) ?_
            refine lv_topi (fun yn117 eyn117 => ?_)
            refine lv_iadd hx hb dX10_putNumber_31 ?_
            refine lv_topi (fun yn118 eyn118 => ?_)
            obtain ⟨hPc, hDc, hFc⟩ := PDq.cut (wc := [(oX10 w0 v0 v1 v2 v3 v4 g5 g6 (nI ed) g8 v9 (nI nb) g11 g12 v13 g14 g15 g16 g17 g18 g19 g20 g21 g22 g23 g24 g25 g26 v27 v28 v29 v30 v31 v32 v33 v34 v35 v36 v37 (nI qn111)), (v37, .inl (cA 0, 100, .inl fn112))]) hP hD hS hA [0, 1] (by decide) rfl
            refine va_callv (va_runV (As := [.int yn118]) (rest := []) ⟨hx, hb, hml, hown, hts⟩ (r_put l D cA sa w0 ed nb qn111 v0 v1 v2 v3 v4 v9 v13 v27 v28 v29 v30 v31 v32 v33 v34 v35 v36 v37 g8 g11 g12 g14 g15 g16 g17 g18 g19 g20 g21 g22 g23 g24 g26 g5 g6 g25 fn112 yn118 H.size (by omega)) (cwV 1 hts gX10_putNumber_X10_put rfl rfl rfl (by decide +kernel) ⟨(Nat.le_of_ble_eq_true rfl), (Nat.le_of_ble_eq_true rfl)⟩) ⟨Wd.blind, va_recv hK hPc (ci := 11) (q0 := 0) rfl rfl, fun U hU hW => ⟨rfl, Wd.call hPc hDc hK hC hZ hS hFc U hU hW⟩⟩ rfl rfl hl.1 rfl (lv_room (Nat.le_of_ble_eq_true rfl)) dX10_putNumber_32 ⟨(Nat.le_of_ble_eq_true rfl), (Nat.le_of_ble_eq_true rfl)⟩) hS (fun q _ h => hFc q h) hFc (fun u t H1 locs ht hvm hw hB hz1 hk1 hS => ?_)
            obtain ⟨qn119, fn120, hn121, hP1, hD1⟩ := hB
            rw [ht] at hP1
            obtain ⟨hP, hD⟩ := PDq.join (w := [(oX10 w0 v0 v1 v2 v3 v4 g5 g6 (nI ed) g8 v9 (nI nb) g11 g12 v13 g14 g15 g16 g17 g18 g19 g20 g21 g22 g23 g24 g25 g26 v27 v28 v29 v30 v31 v32 v33 v34 v35 v36 v37 (nI qn119)), (v37, .inl (cA 0, 100, .inl fn120))]) 0 hP hD [0, 1] [] rfl rfl (by decide) (by decide) hk1 hFc hP1 hD1 rfl
            generalize H1 = H at hP hS ⊢
            refine lv_iload_n hx hb dX10_putNumber_35 rfl (lv_at hl 0 rfl) ?_
            refine lv_bipush (v := 10) hx hb dX10_putNumber_36 (by decide) ?_
            refine lv_idiv hx hb dX10_putNumber_38 (by decide) ?_
            refine lv_topi (fun yn122 eyn122 => ?_)
            obtain rfl : yn122 = 10 := eyn122.trans (by first | rfl | decide +kernel)
            refine lv_istore_n (lv' := [(2, .int 10), (0, .ref w0), (1, .int a)]) hx hb dX10_putNumber_39 rfl hl (by decide) rfl (fun ls hl => ?_)
            refine lv_goto (tgt := 18) hx hb dX10_putNumber_40 (by decide) ?_
            refine lv_iload_n hx hb dX10_putNumber_18 rfl (lv_at hl 0 rfl) ?_
            refine lv_if_le (tgt := 43) hx hb dX10_putNumber_19 (by decide) (fun c9 => absurd c9 (by decide)) (fun c123 => ?_)
            refine lv_aload_n hx hb dX10_putNumber_22 rfl (lv_at hl 1 rfl) ?_
            refine lv_bipush (v := 48) hx hb dX10_putNumber_23 (by decide) ?_
            refine lv_iload_n hx hb dX10_putNumber_25 rfl (lv_at hl 2 rfl) ?_
            refine lv_iload_n hx hb dX10_putNumber_26 rfl (lv_at hl 0 rfl) ?_
            refine lv_idiv hx hb dX10_putNumber_27 (by decide) ?_
            refine lv_topi (fun yn124 eyn124 => ?_)
            refine lv_bipush (v := 10) hx hb dX10_putNumber_28 (by decide) ?_
            refine lv_irem hx hb dX10_putNumber_30 (by decide) ?_
            refine lv_topi (fun yn125 eyn125 => ?_)
            refine lv_iadd hx hb dX10_putNumber_31 ?_
            refine lv_topi (fun yn126 eyn126 => ?_)
            obtain ⟨hPc, hDc, hFc⟩ := PDq.cut (wc := [(oX10 w0 v0 v1 v2 v3 v4 g5 g6 (nI ed) g8 v9 (nI nb) g11 g12 v13 g14 g15 g16 g17 g18 g19 g20 g21 g22 g23 g24 g25 g26 v27 v28 v29 v30 v31 v32 v33 v34 v35 v36 v37 (nI qn119)), (v37, .inl (cA 0, 100, .inl fn120))]) hP hD hS hA [0, 1] (by decide) rfl
            refine va_callv (va_runV (As := [.int yn126]) (rest := []) ⟨hx, hb, hml, hown, hts⟩ (r_put l D cA sa w0 ed nb qn119 v0 v1 v2 v3 v4 v9 v13 v27 v28 v29 v30 v31 v32 v33 v34 v35 v36 v37 g8 g11 g12 g14 g15 g16 g17 g18 g19 g20 g21 g22 g23 g24 g26 g5 g6 g25 fn120 yn126 H.size (by omega)) (cwV 1 hts gX10_putNumber_X10_put rfl rfl rfl (by decide +kernel) ⟨(Nat.le_of_ble_eq_true rfl), (Nat.le_of_ble_eq_true rfl)⟩) ⟨Wd.blind, va_recv hK hPc (ci := 11) (q0 := 0) rfl rfl, fun U hU hW => ⟨rfl, Wd.call hPc hDc hK hC hZ hS hFc U hU hW⟩⟩ rfl rfl hl.1 rfl (lv_room (Nat.le_of_ble_eq_true rfl)) dX10_putNumber_32 ⟨(Nat.le_of_ble_eq_true rfl), (Nat.le_of_ble_eq_true rfl)⟩) hS (fun q _ h => hFc q h) hFc (fun u t H1 locs ht hvm hw hB hz1 hk1 hS => ?_)
            obtain ⟨qn127, fn128, hn129, hP1, hD1⟩ := hB
            rw [ht] at hP1
            obtain ⟨hP, hD⟩ := PDq.join (w := [(oX10 w0 v0 v1 v2 v3 v4 g5 g6 (nI ed) g8 v9 (nI nb) g11 g12 v13 g14 g15 g16 g17 g18 g19 g20 g21 g22 g23 g24 g25 g26 v27 v28 v29 v30 v31 v32 v33 v34 v35 v36 v37 (nI qn127)), (v37, .inl (cA 0, 100, .inl fn128))]) 0 hP hD [0, 1] [] rfl rfl (by decide) (by decide) hk1 hFc hP1 hD1 rfl
            generalize H1 = H at hP hS ⊢
            refine lv_iload_n hx hb dX10_putNumber_35 rfl (lv_at hl 0 rfl) ?_
            refine lv_bipush (v := 10) hx hb dX10_putNumber_36 (by decide) ?_
            refine lv_idiv hx hb dX10_putNumber_38 (by decide) ?_
            refine lv_topi (fun yn130 eyn130 => ?_)
            obtain rfl : yn130 = 1 := eyn130.trans (by first | rfl | decide +kernel)
            refine lv_istore_n (lv' := [(2, .int 1), (0, .ref w0), (1, .int a)]) hx hb dX10_putNumber_39 rfl hl (by decide) rfl (fun ls hl => ?_)
            refine lv_goto (tgt := 18) hx hb dX10_putNumber_40 (by decide) ?_
            refine lv_iload_n hx hb dX10_putNumber_18 rfl (lv_at hl 0 rfl) ?_
            refine lv_if_le (tgt := 43) hx hb dX10_putNumber_19 (by decide) (fun c9 => absurd c9 (by decide)) (fun c131 => ?_)
            refine lv_aload_n hx hb dX10_putNumber_22 rfl (lv_at hl 1 rfl) ?_
            refine lv_bipush (v := 48) hx hb dX10_putNumber_23 (by decide) ?_
            refine lv_iload_n hx hb dX10_putNumber_25 rfl (lv_at hl 2 rfl) ?_
            refine lv_iload_n hx hb dX10_putNumber_26 rfl (lv_at hl 0 rfl) ?_
            refine lv_idiv hx hb dX10_putNumber_27 (by decide) ?_
            refine lv_topi (fun yn132 eyn132 => ?_)
            refine lv_bipush (v := 10) hx hb dX10_putNumber_28 (by decide) ?_
            refine lv_irem hx hb dX10_putNumber_30 (by decide) ?_
            refine lv_topi (fun yn133 eyn133 => ?_)
            refine lv_iadd hx hb dX10_putNumber_31 ?_
            refine lv_topi (fun yn134 eyn134 => ?_)
            obtain ⟨hPc, hDc, hFc⟩ := PDq.cut (wc := [(oX10 w0 v0 v1 v2 v3 v4 g5 g6 (nI ed) g8 v9 (nI nb) g11 g12 v13 g14 g15 g16 g17 g18 g19 g20 g21 g22 g23 g24 g25 g26 v27 v28 v29 v30 v31 v32 v33 v34 v35 v36 v37 (nI qn127)), (v37, .inl (cA 0, 100, .inl fn128))]) hP hD hS hA [0, 1] (by decide) rfl
            refine va_callv (va_runV (As := [.int yn134]) (rest := []) ⟨hx, hb, hml, hown, hts⟩ (r_put l D cA sa w0 ed nb qn127 v0 v1 v2 v3 v4 v9 v13 v27 v28 v29 v30 v31 v32 v33 v34 v35 v36 v37 g8 g11 g12 g14 g15 g16 g17 g18 g19 g20 g21 g22 g23 g24 g26 g5 g6 g25 fn128 yn134 H.size (by omega)) (cwV 1 hts gX10_putNumber_X10_put rfl rfl rfl (by decide +kernel) ⟨(Nat.le_of_ble_eq_true rfl), (Nat.le_of_ble_eq_true rfl)⟩) ⟨Wd.blind, va_recv hK hPc (ci := 11) (q0 := 0) rfl rfl, fun U hU hW => ⟨rfl, Wd.call hPc hDc hK hC hZ hS hFc U hU hW⟩⟩ rfl rfl hl.1 rfl (lv_room (Nat.le_of_ble_eq_true rfl)) dX10_putNumber_32 ⟨(Nat.le_of_ble_eq_true rfl), (Nat.le_of_ble_eq_true rfl)⟩) hS (fun q _ h => hFc q h) hFc (fun u t H1 locs ht hvm hw hB hz1 hk1 hS => ?_)
            obtain ⟨qn135, fn136, hn137, hP1, hD1⟩ := hB
            rw [ht] at hP1
            obtain ⟨hP, hD⟩ := PDq.join (w := [(oX10 w0 v0 v1 v2 v3 v4 g5 g6 (nI ed) g8 v9 (nI nb) g11 g12 v13 g14 g15 g16 g17 g18 g19 g20 g21 g22 g23 g24 g25 g26 v27 v28 v29 v30 v31 v32 v33 v34 v35 v36 v37 (nI qn135)), (v37, .inl (cA 0, 100, .inl fn136))]) 0 hP hD [0, 1] [] rfl rfl (by decide) (by decide) hk1 hFc hP1 hD1 rfl
            generalize H1 = H at hP hS ⊢
            refine lv_iload_n hx hb dX10_putNumber_35 rfl (lv_at hl 0 rfl) ?_
            refine lv_bipush (v := 10) hx hb dX10_putNumber_36 (by decide) ?_
            refine lv_idiv hx hb dX10_putNumber_38 (by decide) ?_
            refine lv_topi (fun yn138 eyn138 => ?_)
            obtain rfl : yn138 = 0 := eyn138.trans (by first | rfl | decide +kernel)
            refine lv_istore_n (lv' := [(2, .int 0), (0, .ref w0), (1, .int a)]) hx hb dX10_putNumber_39 rfl hl (by decide) rfl (fun ls hl => ?_)
            refine lv_goto (tgt := 18) hx hb dX10_putNumber_40 (by decide) ?_
            refine lv_iload_n hx hb dX10_putNumber_18 rfl (lv_at hl 0 rfl) ?_
            refine lv_if_le (tgt := 43) hx hb dX10_putNumber_19 (by decide) (fun c139 => ?_) (fun c9 => absurd c9 (by decide))
            obtain ⟨hP9, hD9⟩ := PDq.sub (ws' := [(oX10 w0 v0 v1 v2 v3 v4 g5 g6 (nI ed) g8 v9 (nI nb) g11 g12 v13 g14 g15 g16 g17 g18 g19 g20 g21 g22 g23 g24 g25 g26 v27 v28 v29 v30 v31 v32 v33 v34 v35 v36 v37 (nI qn135)), (v37, .inl (cA 0, 100, .inl fn136))]) hP hD [0, 1] (by decide) rfl
            refine W.widen (k := 0) (n := 0) (Nat.le_of_ble_eq_true rfl) (Nat.le_of_ble_eq_true rfl) ?_
            exact (W.vret hx hb hr (fun t ht hW => ⟨⟨(), rfl, trivial, qn135, fn136, (by omega), by rw [ht]; exact hP9, hD9⟩, hS.F ht⟩) hS.2.2 dX10_putNumber_43)
          · skip
            refine lv_bipush (v := 10) hx hb dX10_putNumber_10 (by decide) ?_
            refine lv_iload_n hx hb dX10_putNumber_12 rfl (lv_at hl 0 rfl) ?_
            refine lv_imul hx hb dX10_putNumber_13 ?_
            refine lv_topi (fun yn140 eyn140 => ?_)
            obtain rfl : yn140 = 100000 := eyn140.trans (by first | rfl | decide +kernel)
            refine lv_istore_n (lv' := [(2, .int 100000), (0, .ref w0), (1, .int a)]) hx hb dX10_putNumber_14 rfl hl (by decide) rfl (fun ls hl => ?_)
            refine lv_goto (tgt := 2) hx hb dX10_putNumber_15 (by decide) ?_
            refine lv_iload_n hx hb dX10_putNumber_2 rfl (lv_at hl 2 rfl) ?_
            refine lv_iload_n hx hb dX10_putNumber_3 rfl (lv_at hl 0 rfl) ?_
            refine lv_idiv hx hb dX10_putNumber_4 (by decide) ?_
            refine lv_topi (fun yn141 eyn141 => ?_)
            refine lv_bipush (v := 9) hx hb dX10_putNumber_5 (by decide) ?_
            refine lv_icmp_le (tgt := 18) hx hb dX10_putNumber_7 (by decide) (fun c142 => ?_) (fun c142 => ?_)
            · skip
              refine lv_iload_n hx hb dX10_putNumber_18 rfl (lv_at hl 0 rfl) ?_
              refine lv_if_le (tgt := 43) hx hb dX10_putNumber_19 (by decide) (fun c9 => absurd c9 (by decide)) (fun c143 => ?_)
              refine lv_aload_n hx hb dX10_putNumber_22 rfl (lv_at hl 1 rfl) ?_
              refine lv_bipush (v := 48) hx hb dX10_putNumber_23 (by decide) ?_
              refine lv_iload_n hx hb dX10_putNumber_25 rfl (lv_at hl 2 rfl) ?_
              refine lv_iload_n hx hb dX10_putNumber_26 rfl (lv_at hl 0 rfl) ?_
              refine lv_idiv hx hb dX10_putNumber_27 (by decide) ?_
              refine lv_topi (fun yn144 eyn144 => ?_)
              refine lv_bipush (v := 10) hx hb dX10_putNumber_28 (by decide) ?_
              refine lv_irem hx hb dX10_putNumber_30 (by decide) ?_
              refine lv_topi (fun yn145 eyn145 => ?_)
              refine lv_iadd hx hb dX10_putNumber_31 ?_
              refine lv_topi (fun yn146 eyn146 => ?_)
              obtain ⟨hPc, hDc, hFc⟩ := PDq.cut (wc := [(oX10 w0 v0 v1 v2 v3 v4 g5 g6 (nI ed) g8 v9 (nI nb) g11 g12 v13 g14 g15 g16 g17 g18 g19 g20 g21 g22 g23 g24 g25 g26 v27 v28 v29 v30 v31 v32 v33 v34 v35 v36 v37 (nI ol)), (v37, .inl (cA 0, 100, .inl fo9))]) hP hD hS hA [0, 1] (by decide) rfl
              refine va_callv (va_runV (As := [.int yn146]) (rest := []) ⟨hx, hb, hml, hown, hts⟩ (r_put l D cA sa w0 ed nb ol v0 v1 v2 v3 v4 v9 v13 v27 v28 v29 v30 v31 v32 v33 v34 v35 v36 v37 g8 g11 g12 g14 g15 g16 g17 g18 g19 g20 g21 g22 g23 g24 g26 g5 g6 g25 fo9 yn146 s.heap.size (by omega)) (cwV 1 hts gX10_putNumber_X10_put rfl rfl rfl (by decide +kernel) ⟨(Nat.le_of_ble_eq_true rfl), (Nat.le_of_ble_eq_true rfl)⟩) ⟨Wd.blind, va_recv hK hPc (ci := 11) (q0 := 0) rfl rfl, fun U hU hW => ⟨rfl, Wd.call hPc hDc hK hC hZ hS hFc U hU hW⟩⟩ rfl rfl hl.1 rfl (lv_room (Nat.le_of_ble_eq_true rfl)) dX10_putNumber_32 ⟨(Nat.le_of_ble_eq_true rfl), (Nat.le_of_ble_eq_true rfl)⟩) hS (fun q _ h => hFc q h) hFc (fun u t H1 locs ht hvm hw hB hz1 hk1 hS => ?_)
              obtain ⟨qn147, fn148, hn149, hP1, hD1⟩ := hB
              rw [ht] at hP1
              obtain ⟨hP, hD⟩ := PDq.join (w := [(oX10 w0 v0 v1 v2 v3 v4 g5 g6 (nI ed) g8 v9 (nI nb) g11 g12 v13 g14 g15 g16 g17 g18 g19 g20 g21 g22 g23 g24 g25 g26 v27 v28 v29 v30 v31 v32 v33 v34 v35 v36 v37 (nI qn147)), (v37, .inl (cA 0, 100, .inl fn148))]) 0 hP hD [0, 1] [] rfl rfl (by decide) (by decide) hk1 hFc hP1 hD1 rfl
              generalize H1 = H at hP hS ⊢
              refine lv_iload_n hx hb dX10_putNumber_35 rfl (lv_at hl 0 rfl) ?_
              refine lv_bipush (v := 10) hx hb dX10_putNumber_36 (by decide) ?_
              refine lv_idiv hx hb dX10_putNumber_38 (by decide) ?_
              refine lv_topi (fun yn150 eyn150 => ?_)
              obtain rfl : yn150 = 10000 := eyn150.trans (by first | rfl | decide +kernel)
              refine lv_istore_n (lv' := [(2, .int 10000), (0, .ref w0), (1, .int a)]) hx hb dX10_putNumber_39 rfl hl (by decide) rfl (fun ls hl => ?_)
              refine lv_goto (tgt := 18) hx hb dX10_putNumber_40 (by decide) ?_
              refine lv_iload_n hx hb dX10_putNumber_18 rfl (lv_at hl 0 rfl) ?_
              refine lv_if_le (tgt := 43) hx hb dX10_putNumber_19 (by decide) (fun c9 => absurd c9 (by decide)) (fun c151 => ?_)
              refine lv_aload_n hx hb dX10_putNumber_22 rfl (lv_at hl 1 rfl) ?_
              refine lv_bipush (v := 48) hx hb dX10_putNumber_23 (by decide) ?_
              refine lv_iload_n hx hb dX10_putNumber_25 rfl (lv_at hl 2 rfl) ?_
              refine lv_iload_n hx hb dX10_putNumber_26 rfl (lv_at hl 0 rfl) ?_
              refine lv_idiv hx hb dX10_putNumber_27 (by decide) ?_
              refine lv_topi (fun yn152 eyn152 => ?_)
              refine lv_bipush (v := 10) hx hb dX10_putNumber_28 (by decide) ?_
              refine lv_irem hx hb dX10_putNumber_30 (by decide) ?_
              refine lv_topi (fun yn153 eyn153 => ?_)
              refine lv_iadd hx hb dX10_putNumber_31 ?_
              refine lv_topi (fun yn154 eyn154 => ?_)
              obtain ⟨hPc, hDc, hFc⟩ := PDq.cut (wc := [(oX10 w0 v0 v1 v2 v3 v4 g5 g6 (nI ed) g8 v9 (nI nb) g11 g12 v13 g14 g15 g16 g17 g18 g19 g20 g21 g22 g23 g24 g25 g26 v27 v28 v29 v30 v31 v32 v33 v34 v35 v36 v37 (nI qn147)), (v37, .inl (cA 0, 100, .inl fn148))]) hP hD hS hA [0, 1] (by decide) rfl
              refine va_callv (va_runV (As := [.int yn154]) (rest := []) ⟨hx, hb, hml, hown, hts⟩ (r_put l D cA sa w0 ed nb qn147 v0 v1 v2 v3 v4 v9 v13 v27 v28 v29 v30 v31 v32 v33 v34 v35 v36 v37 g8 g11 g12 g14 g15 g16 g17 g18 g19 g20 g21 g22 g23 g24 g26 g5 g6 g25 fn148 yn154 H.size (by omega)) (cwV 1 hts gX10_putNumber_X10_put rfl rfl rfl (by decide +kernel) ⟨(Nat.le_of_ble_eq_true rfl), (Nat.le_of_ble_eq_true rfl)⟩) ⟨Wd.blind, va_recv hK hPc (ci := 11) (q0 := 0) rfl rfl, fun U hU hW => ⟨rfl, Wd.call hPc hDc hK hC hZ hS hFc U hU hW⟩⟩ rfl rfl hl.1 rfl (lv_room (Nat.le_of_ble_eq_true rfl)) dX10_putNumber_32 ⟨(Nat.le_of_ble_eq_true rfl), (Nat.le_of_ble_eq_true rfl)⟩) hS (fun q _ h => hFc q h) hFc (fun u t H1 locs ht hvm hw hB hz1 hk1 hS => ?_)
              obtain ⟨qn155, fn156, hn157, hP1, hD1⟩ := hB
              rw [ht] at hP1
              obtain ⟨hP, hD⟩ := PDq.join (w := [(oX10 w0 v0 v1 v2 v3 v4 g5 g6 (nI ed) g8 v9 (nI nb) g11 g12 v13 g14 g15 g16 g17 g18 g19 g20 g21 g22 g23 g24 g25 g26 v27 v28 v29 v30 v31 v32 v33 v34 v35 v36 v37 (nI qn155)), (v37, .inl (cA 0, 100, .inl fn156))]) 0 hP hD [0, 1] [] rfl rfl (by decide) (by decide) hk1 hFc hP1 hD1 rfl
              generalize H1 = H at hP hS ⊢
              refine lv_iload_n hx hb dX10_putNumber_35 rfl (lv_at hl 0 rfl) ?_
              refine lv_bipush (v := 10) hx hb dX10_putNumber_36 (by decide) ?_
              refine lv_idiv hx hb dX10_putNumber_38 (by decide) ?_
              refine lv_topi (fun yn158 eyn158 => ?_)
              obtain rfl : yn158 = 1000 := eyn158.trans (by first | rfl | decide +kernel)
              refine lv_istore_n (lv' := [(2, .int 1000), (0, .ref w0), (1, .int a)]) hx hb dX10_putNumber_39 rfl hl (by decide) rfl (fun ls hl => ?_)
              refine lv_goto (tgt := 18) hx hb dX10_putNumber_40 (by decide) ?_
              refine lv_iload_n hx hb dX10_putNumber_18 rfl (lv_at hl 0 rfl) ?_
              refine lv_if_le (tgt := 43) hx hb dX10_putNumber_19 (by decide) (fun c9 => absurd c9 (by decide)) (fun c159 => ?_)
              refine lv_aload_n hx hb dX10_putNumber_22 rfl (lv_at hl 1 rfl) ?_
              refine lv_bipush (v := 48) hx hb dX10_putNumber_23 (by decide) ?_
              refine lv_iload_n hx hb dX10_putNumber_25 rfl (lv_at hl 2 rfl) ?_
              refine lv_iload_n hx hb dX10_putNumber_26 rfl (lv_at hl 0 rfl) ?_
              refine lv_idiv hx hb dX10_putNumber_27 (by decide) ?_
              refine lv_topi (fun yn160 eyn160 => ?_)
              refine lv_bipush (v := 10) hx hb dX10_putNumber_28 (by decide) ?_
              refine lv_irem hx hb dX10_putNumber_30 (by decide) ?_
              refine lv_topi (fun yn161 eyn161 => ?_)
              refine lv_iadd hx hb dX10_putNumber_31 ?_
              refine lv_topi (fun yn162 eyn162 => ?_)
              obtain ⟨hPc, hDc, hFc⟩ := PDq.cut (wc := [(oX10 w0 v0 v1 v2 v3 v4 g5 g6 (nI ed) g8 v9 (nI nb) g11 g12 v13 g14 g15 g16 g17 g18 g19 g20 g21 g22 g23 g24 g25 g26 v27 v28 v29 v30 v31 v32 v33 v34 v35 v36 v37 (nI qn155)), (v37, .inl (cA 0, 100, .inl fn156))]) hP hD hS hA [0, 1] (by decide) rfl
              refine va_callv (va_runV (As := [.int yn162]) (rest := []) ⟨hx, hb, hml, hown, hts⟩ (r_put l D cA sa w0 ed nb qn155 v0 v1 v2 v3 v4 v9 v13 v27 v28 v29 v30 v31 v32 v33 v34 v35 v36 v37 g8 g11 g12 g14 g15 g16 g17 g18 g19 g20 g21 g22 g23 g24 g26 g5 g6 g25 fn156 yn162 H.size (by omega)) (cwV 1 hts gX10_putNumber_X10_put rfl rfl rfl (by decide +kernel) ⟨(Nat.le_of_ble_eq_true rfl), (Nat.le_of_ble_eq_true rfl)⟩) ⟨Wd.blind, va_recv hK hPc (ci := 11) (q0 := 0) rfl rfl, fun U hU hW => ⟨rfl, Wd.call hPc hDc hK hC hZ hS hFc U hU hW⟩⟩ rfl rfl hl.1 rfl (lv_room (Nat.le_of_ble_eq_true rfl)) dX10_putNumber_32 ⟨(Nat.le_of_ble_eq_true rfl), (Nat.le_of_ble_eq_true rfl)⟩) hS (fun q _ h => hFc q h) hFc (fun u t H1 locs ht hvm hw hB hz1 hk1 hS => ?_)
              obtain ⟨qn163, fn164, hn165, hP1, hD1⟩ := hB
              rw [ht] at hP1
              obtain ⟨hP, hD⟩ := PDq.join (w := [(oX10 w0 v0 v1 v2 v3 v4 g5 g6 (nI ed) g8 v9 (nI nb) g11 g12 v13 g14 g15 g16 g17 g18 g19 g20 g21 g22 g23 g24 g25 g26 v27 v28 v29 v30 v31 v32 v33 v34 v35 v36 v37 (nI qn163)), (v37, .inl (cA 0, 100, .inl fn164))]) 0 hP hD [0, 1] [] rfl rfl (by decide) (by decide) hk1 hFc hP1 hD1 rfl
              generalize H1 = H at hP hS ⊢
              refine lv_iload_n hx hb dX10_putNumber_35 rfl (lv_at hl 0 rfl) ?_
              refine lv_bipush (v := 10) hx hb dX10_putNumber_36 (by decide) ?_
              refine lv_idiv hx hb dX10_putNumber_38 (by decide) ?_
              refine lv_topi (fun yn166 eyn166 => ?_)
              obtain rfl : yn166 = 100 := eyn166.trans (by first | rfl | decide +kernel)
              refine lv_istore_n (lv' := [(2, .int 100), (0, .ref w0), (1, .int a)]) hx hb dX10_putNumber_39 rfl hl (by decide) rfl (fun ls hl => ?_)
              refine lv_goto (tgt := 18) hx hb dX10_putNumber_40 (by decide) ?_
              refine lv_iload_n hx hb dX10_putNumber_18 rfl (lv_at hl 0 rfl) ?_
              refine lv_if_le (tgt := 43) hx hb dX10_putNumber_19 (by decide) (fun c9 => absurd c9 (by decide)) (fun c167 => ?_)
              refine lv_aload_n hx hb dX10_putNumber_22 rfl (lv_at hl 1 rfl) ?_
              refine lv_bipush (v := 48) hx hb dX10_putNumber_23 (by decide) ?_
              refine lv_iload_n hx hb dX10_putNumber_25 rfl (lv_at hl 2 rfl) ?_
              refine lv_iload_n hx hb dX10_putNumber_26 rfl (lv_at hl 0 rfl) ?_
              refine lv_idiv hx hb dX10_putNumber_27 (by decide) ?_
              refine lv_topi (fun yn168 eyn168 => ?_)
              refine lv_bipush (v := 10) hx hb dX10_putNumber_28 (by decide) ?_
              refine lv_irem hx hb dX10_putNumber_30 (by decide) ?_
              refine lv_topi (fun yn169 eyn169 => ?_)
              refine lv_iadd hx hb dX10_putNumber_31 ?_
              refine lv_topi (fun yn170 eyn170 => ?_)
              obtain ⟨hPc, hDc, hFc⟩ := PDq.cut (wc := [(oX10 w0 v0 v1 v2 v3 v4 g5 g6 (nI ed) g8 v9 (nI nb) g11 g12 v13 g14 g15 g16 g17 g18 g19 g20 g21 g22 g23 g24 g25 g26 v27 v28 v29 v30 v31 v32 v33 v34 v35 v36 v37 (nI qn163)), (v37, .inl (cA 0, 100, .inl fn164))]) hP hD hS hA [0, 1] (by decide) rfl
              refine va_callv (va_runV (As := [.int yn170]) (rest := []) ⟨hx, hb, hml, hown, hts⟩ (r_put l D cA sa w0 ed nb qn163 v0 v1 v2 v3 v4 v9 v13 v27 v28 v29 v30 v31 v32 v33 v34 v35 v36 v37 g8 g11 g12 g14 g15 g16 g17 g18 g19 g20 g21 g22 g23 g24 g26 g5 g6 g25 fn164 yn170 H.size (by omega)) (cwV 1 hts gX10_putNumber_X10_put rfl rfl rfl (by decide +kernel) ⟨(Nat.le_of_ble_eq_true rfl), (Nat.le_of_ble_eq_true rfl)⟩) ⟨Wd.blind, va_recv hK hPc (ci := 11) (q0 := 0) rfl rfl, fun U hU hW => ⟨rfl, Wd.call hPc hDc hK hC hZ hS hFc U hU hW⟩⟩ rfl rfl hl.1 rfl (lv_room (Nat.le_of_ble_eq_true rfl)) dX10_putNumber_32 ⟨(Nat.le_of_ble_eq_true rfl), (Nat.le_of_ble_eq_true rfl)⟩) hS (fun q _ h => hFc q h) hFc (fun u t H1 locs ht hvm hw hB hz1 hk1 hS => ?_)
              obtain ⟨qn171, fn172, hn173, hP1, hD1⟩ := hB
              rw [ht] at hP1
              obtain ⟨hP, hD⟩ := PDq.join (w := [(oX10 w0 v0 v1 v2 v3 v4 g5 g6 (nI ed) g8 v9 (nI nb) g11 g12 v13 g14 g15 g16 g17 g18 g19 g20 g21 g22 g23 g24 g25 g26 v27 v28 v29 v30 v31 v32 v33 v34 v35 v36 v37 (nI qn171)), (v37, .inl (cA 0, 100, .inl fn172))]) 0 hP hD [0, 1] [] rfl rfl (by decide) (by decide) hk1 hFc hP1 hD1 rfl
              generalize H1 = H at hP hS ⊢
              refine lv_iload_n hx hb dX10_putNumber_35 rfl (lv_at hl 0 rfl) ?_
              refine lv_bipush (v := 10) hx hb dX10_putNumber_36 (by decide) ?_
              refine lv_idiv hx hb dX10_putNumber_38 (by decide) ?_
              refine lv_topi (fun yn174 eyn174 => ?_)
              obtain rfl : yn174 = 10 := eyn174.trans (by first | rfl | decide +kernel)
              refine lv_istore_n (lv' := [(2, .int 10), (0, .ref w0), (1, .int a)]) hx hb dX10_putNumber_39 rfl hl (by decide) rfl (fun ls hl => ?_)
              refine lv_goto (tgt := 18) hx hb dX10_putNumber_40 (by decide) ?_
              refine lv_iload_n hx hb dX10_putNumber_18 rfl (lv_at hl 0 rfl) ?_
              refine lv_if_le (tgt := 43) hx hb dX10_putNumber_19 (by decide) (fun c9 => absurd c9 (by decide)) (fun c175 => ?_)
              refine lv_aload_n hx hb dX10_putNumber_22 rfl (lv_at hl 1 rfl) ?_
              refine lv_bipush (v := 48) hx hb dX10_putNumber_23 (by decide) ?_
              refine lv_iload_n hx hb dX10_putNumber_25 rfl (lv_at hl 2 rfl) ?_
              refine lv_iload_n hx hb dX10_putNumber_26 rfl (lv_at hl 0 rfl) ?_
              refine lv_idiv hx hb dX10_putNumber_27 (by decide) ?_
              refine lv_topi (fun yn176 eyn176 => ?_)
              refine lv_bipush (v := 10) hx hb dX10_putNumber_28 (by decide) ?_
              refine lv_irem hx hb dX10_putNumber_30 (by decide) ?_
              refine lv_topi (fun yn177 eyn177 => ?_)
              refine lv_iadd hx hb dX10_putNumber_31 ?_
              refine lv_topi (fun yn178 eyn178 => ?_)
              obtain ⟨hPc, hDc, hFc⟩ := PDq.cut (wc := [(oX10 w0 v0 v1 v2 v3 v4 g5 g6 (nI ed) g8 v9 (nI nb) g11 g12 v13 g14 g15 g16 g17 g18 g19 g20 g21 g22 g23 g24 g25 g26 v27 v28 v29 v30 v31 v32 v33 v34 v35 v36 v37 (nI qn171)), (v37, .inl (cA 0, 100, .inl fn172))]) hP hD hS hA [0, 1] (by decide) rfl
              refine va_callv (va_runV (As := [.int yn178]) (rest := []) ⟨hx, hb, hml, hown, hts⟩ (r_put l D cA sa w0 ed nb qn171 v0 v1 v2 v3 v4 v9 v13 v27 v28 v29 v30 v31 v32 v33 v34 v35 v36 v37 g8 g11 g12 g14 g15 g16 g17 g18 g19 g20 g21 g22 g23 g24 g26 g5 g6 g25 fn172 yn178 H.size (by omega)) (cwV 1 hts gX10_putNumber_X10_put rfl rfl rfl (by decide +kernel) ⟨(Nat.le_of_ble_eq_true rfl), (Nat.le_of_ble_eq_true rfl)⟩) ⟨Wd.blind, va_recv hK hPc (ci := 11) (q0 := 0) rfl rfl, fun U hU hW => ⟨rfl, Wd.call hPc hDc hK hC hZ hS hFc U hU hW⟩⟩ rfl rfl hl.1 rfl (lv_room (Nat.le_of_ble_eq_true rfl)) dX10_putNumber_32 ⟨(Nat.le_of_ble_eq_true rfl), (Nat.le_of_ble_eq_true rfl)⟩) hS (fun q _ h => hFc q h) hFc (fun u t H1 locs ht hvm hw hB hz1 hk1 hS => ?_)
              obtain ⟨qn179, fn180, hn181, hP1, hD1⟩ := hB
              rw [ht] at hP1
              obtain ⟨hP, hD⟩ := PDq.join (w := [(oX10 w0 v0 v1 v2 v3 v4 g5 g6 (nI ed) g8 v9 (nI nb) g11 g12 v13 g14 g15 g16 g17 g18 g19 g20 g21 g22 g23 g24 g25 g26 v27 v28 v29 v30 v31 v32 v33 v34 v35 v36 v37 (nI qn179)), (v37, .inl (cA 0, 100, .inl fn180))]) 0 hP hD [0, 1] [] rfl rfl (by decide) (by decide) hk1 hFc hP1 hD1 rfl
              generalize H1 = H at hP hS ⊢
              refine lv_iload_n hx hb dX10_putNumber_35 rfl (lv_at hl 0 rfl) ?_
              refine lv_bipush (v := 10) hx hb dX10_putNumber_36 (by decide) ?_
              refine lv_idiv hx hb dX10_putNumber_38 (by decide) ?_
              refine lv_topi (fun yn182 eyn182 => ?_)
              obtain rfl : yn182 = 1 := eyn182.trans (by first | rfl | decide +kernel)
              refine lv_istore_n (lv' := [(2, .int 1), (0, .ref w0), (1, .int a)]) hx hb dX10_putNumber_39 rfl hl (by decide) rfl (fun ls hl => ?_)
              refine lv_goto (tgt := 18) hx hb dX10_putNumber_40 (by decide) ?_
              refine lv_iload_n hx hb dX10_putNumber_18 rfl (lv_at hl 0 rfl) ?_
              refine lv_if_le (tgt := 43) hx hb dX10_putNumber_19 (by decide) (fun c9 => absurd c9 (by decide)) (fun c183 => ?_)
              refine lv_aload_n hx hb dX10_putNumber_22 rfl (lv_at hl 1 rfl) ?_
              refine lv_bipush (v := 48) hx hb dX10_putNumber_23 (by decide) ?_
              refine lv_iload_n hx hb dX10_putNumber_25 rfl (lv_at hl 2 rfl) ?_
              refine lv_iload_n hx hb dX10_putNumber_26 rfl (lv_at hl 0 rfl) ?_
              refine lv_idiv hx hb dX10_putNumber_27 (by decide) ?_
              refine lv_topi (fun yn184 eyn184 => ?_)
              refine lv_bipush (v := 10) hx hb dX10_putNumber_28 (by decide) ?_
              refine lv_irem hx hb dX10_putNumber_30 (by decide) ?_
              refine lv_topi (fun yn185 eyn185 => ?_)
              refine lv_iadd hx hb dX10_putNumber_31 ?_
              refine lv_topi (fun yn186 eyn186 => ?_)
              obtain ⟨hPc, hDc, hFc⟩ := PDq.cut (wc := [(oX10 w0 v0 v1 v2 v3 v4 g5 g6 (nI ed) g8 v9 (nI nb) g11 g12 v13 g14 g15 g16 g17 g18 g19 g20 g21 g22 g23 g24 g25 g26 v27 v28 v29 v30 v31 v32 v33 v34 v35 v36 v37 (nI qn179)), (v37, .inl (cA 0, 100, .inl fn180))]) hP hD hS hA [0, 1] (by decide) rfl
              refine va_callv (va_runV (As := [.int yn186]) (rest := []) ⟨hx, hb, hml, hown, hts⟩ (r_put l D cA sa w0 ed nb qn179 v0 v1 v2 v3 v4 v9 v13 v27 v28 v29 v30 v31 v32 v33 v34 v35 v36 v37 g8 g11 g12 g14 g15 g16 g17 g18 g19 g20 g21 g22 g23 g24 g26 g5 g6 g25 fn180 yn186 H.size (by omega)) (cwV 1 hts gX10_putNumber_X10_put rfl rfl rfl (by decide +kernel) ⟨(Nat.le_of_ble_eq_true rfl), (Nat.le_of_ble_eq_true rfl)⟩) ⟨Wd.blind, va_recv hK hPc (ci := 11) (q0 := 0) rfl rfl, fun U hU hW => ⟨rfl, Wd.call hPc hDc hK hC hZ hS hFc U hU hW⟩⟩ rfl rfl hl.1 rfl (lv_room (Nat.le_of_ble_eq_true rfl)) dX10_putNumber_32 ⟨(Nat.le_of_ble_eq_true rfl), (Nat.le_of_ble_eq_true rfl)⟩) hS (fun q _ h => hFc q h) hFc (fun u t H1 locs ht hvm hw hB hz1 hk1 hS => ?_)
              obtain ⟨qn187, fn188, hn189, hP1, hD1⟩ := hB
              rw [ht] at hP1
              obtain ⟨hP, hD⟩ := PDq.join (w := [(oX10 w0 v0 v1 v2 v3 v4 g5 g6 (nI ed) g8 v9 (nI nb) g11 g12 v13 g14 g15 g16 g17 g18 g19 g20 g21 g22 g23 g24 g25 g26 v27 v28 v29 v30 v31 v32 v33 v34 v35 v36 v37 (nI qn187)), (v37, .inl (cA 0, 100, .inl fn188))]) 0 hP hD [0, 1] [] rfl rfl (by decide) (by decide) hk1 hFc hP1 hD1 rfl
              generalize H1 = H at hP hS ⊢
              refine lv_iload_n hx hb dX10_putNumber_35 rfl (lv_at hl 0 rfl) ?_
              refine lv_bipush (v := 10) hx hb dX10_putNumber_36 (by decide) ?_
              refine lv_idiv hx hb dX10_putNumber_38 (by decide) ?_
              refine lv_topi (fun yn190 eyn190 => ?_)
              obtain rfl : yn190 = 0 := eyn190.trans (by first | rfl | decide +kernel)
              refine lv_istore_n (lv' := [(2, .int 0), (0, .ref w0), (1, .int a)]) hx hb dX10_putNumber_39 rfl hl (by decide) rfl (fun ls hl => ?_)
              refine lv_goto (tgt := 18) hx hb dX10_putNumber_40 (by decide) ?_
              refine lv_iload_n hx hb dX10_putNumber_18 rfl (lv_at hl 0 rfl) ?_
              refine lv_if_le (tgt := 43) hx hb dX10_putNumber_19 (by decide) (fun c191 => ?_) (fun c9 => absurd c9 (by decide))
              obtain ⟨hP9, hD9⟩ := PDq.sub (ws' := [(oX10 w0 v0 v1 v2 v3 v4 g5 g6 (nI ed) g8 v9 (nI nb) g11 g12 v13 g14 g15 g16 g17 g18 g19 g20 g21 g22 g23 g24 g25 g26 v27 v28 v29 v30 v31 v32 v33 v34 v35 v36 v37 (nI qn187)), (v37, .inl (cA 0, 100, .inl fn188))]) hP hD [0, 1] (by decide) rfl
              refine W.widen (k := 0) (n := 0) (Nat.le_of_ble_eq_true rfl) (Nat.le_of_ble_eq_true rfl) ?_
              exact (W.vret hx hb hr (fun t ht hW => ⟨⟨(), rfl, trivial, qn187, fn188, (by omega), by rw [ht]; exact hP9, hD9⟩, hS.F ht⟩) hS.2.2 dX10_putNumber_43)
            · skip
              refine lv_bipush (v := 10) hx hb dX10_putNumber_10 (by decide) ?_
              refine lv_iload_n hx hb dX10_putNumber_12 rfl (lv_at hl 0 rfl) ?_
              refine lv_imul hx hb dX10_putNumber_13 ?_
              refine lv_topi (fun yn192 eyn192 => ?_)
              obtain rfl : yn192 = 1000000 := eyn192.trans (by first | rfl | decide +kernel)
              refine lv_istore_n (lv' := [(2, .int 1000000), (0, .ref w0), (1, .int a)]) hx hb dX10_putNumber_14 rfl hl (by decide) rfl (fun ls hl => ?_)
              refine lv_goto (tgt := 2) hx hb dX10_putNumber_15 (by decide) ?_
              refine lv_iload_n hx hb dX10_putNumber_2 rfl (lv_at hl 2 rfl) ?_
              refine lv_iload_n hx hb dX10_putNumber_3 rfl (lv_at hl 0 rfl) ?_
              refine lv_idiv hx hb dX10_putNumber_4 (by decide) ?_
              refine lv_topi (fun yn193 eyn193 => ?_)
              refine lv_bipush (v := 9) hx hb dX10_putNumber_5 (by decide) ?_
              refine lv_icmp_le (tgt := 18) hx hb dX10_putNumber_7 (by decide) (fun c194 => ?_) (fun c194 => ?_)
              · skip
                refine lv_iload_n hx hb dX10_putNumber_18 rfl (lv_at hl 0 rfl) ?_
                refine lv_if_le (tgt := 43) hx hb dX10_putNumber_19 (by decide) (fun c9 => absurd c9 (by decide)) (fun c195 => ?_)
                refine lv_aload_n hx hb dX10_putNumber_22 rfl (lv_at hl 1 rfl) ?_
                refine lv_bipush (v := 48) hx hb dX10_putNumber_23 (by decide) ?_
                refine lv_iload_n hx hb dX10_putNumber_25 rfl (lv_at hl 2 rfl) ?_
                refine lv_iload_n hx hb dX10_putNumber_26 rfl (lv_at hl 0 rfl) ?_
                refine lv_idiv hx hb dX10_putNumber_27 (by decide) ?_
                refine lv_topi (fun yn196 eyn196 => ?_)
                refine lv_bipush (v := 10) hx hb dX10_putNumber_28 (by decide) ?_
                refine lv_irem hx hb dX10_putNumber_30 (by decide) ?_
                refine lv_topi (fun yn197 eyn197 => ?_)
                refine lv_iadd hx hb dX10_putNumber_31 ?_
                refine lv_topi (fun yn198 eyn198 => ?_)
                obtain ⟨hPc, hDc, hFc⟩ := PDq.cut (wc := [(oX10 w0 v0 v1 v2 v3 v4 g5 g6 (nI ed) g8 v9 (nI nb) g11 g12 v13 g14 g15 g16 g17 g18 g19 g20 g21 g22 g23 g24 g25 g26 v27 v28 v29 v30 v31 v32 v33 v34 v35 v36 v37 (nI ol)), (v37, .inl (cA 0, 100, .inl fo9))]) hP hD hS hA [0, 1] (by decide) rfl
                refine va_callv (va_runV (As := [.int yn198]) (rest := []) ⟨hx, hb, hml, hown, hts⟩ (r_put l D cA sa w0 ed nb ol v0 v1 v2 v3 v4 v9 v13 v27 v28 v29 v30 v31 v32 v33 v34 v35 v36 v37 g8 g11 g12 g14 g15 g16 g17 g18 g19 g20 g21 g22 g23 g24 g26 g5 g6 g25 fo9 yn198 s.heap.size (by omega)) (cwV 1 hts gX10_putNumber_X10_put rfl rfl rfl (by decide +kernel) ⟨(Nat.le_of_ble_eq_true rfl), (Nat.le_of_ble_eq_true rfl)⟩) ⟨Wd.blind, va_recv hK hPc (ci := 11) (q0 := 0) rfl rfl, fun U hU hW => ⟨rfl, Wd.call hPc hDc hK hC hZ hS hFc U hU hW⟩⟩ rfl rfl hl.1 rfl (lv_room (Nat.le_of_ble_eq_true rfl)) dX10_putNumber_32 ⟨(Nat.le_of_ble_eq_true rfl), (Nat.le_of_ble_eq_true rfl)⟩) hS (fun q _ h => hFc q h) hFc (fun u t H1 locs ht hvm hw hB hz1 hk1 hS => ?_)
                obtain ⟨qn199, fn200, hn201, hP1, hD1⟩ := hB
                rw [ht] at hP1
                obtain ⟨hP, hD⟩ := PDq.join (w := [(oX10 w0 v0 v1 v2 v3 v4 g5 g6 (nI ed) g8 v9 (nI nb) g11 g12 v13 g14 g15 g16 g17 g18 g19 g20 g21 g22 g23 g24 g25 g26 v27 v28 v29 v30 v31 v32 v33 v34 v35 v36 v37 (nI qn199)), (v37, .inl (cA 0, 100, .inl fn200))]) 0 hP hD [0, 1] [] rfl rfl (by decide) (by decide) hk1 hFc hP1 hD1 rfl
                generalize H1 = H at hP hS ⊢
                refine lv_iload_n hx hb dX10_putNumber_35 rfl (lv_at hl 0 rfl) ?_
                refine lv_bipush (v := 10) hx hb dX10_putNumber_36 (by decide) ?_
                refine lv_idiv hx hb dX10_putNumber_38 (by decide) ?_
                refine lv_topi (fun yn202 eyn202 => ?_)
                obtain rfl : yn202 = 100000 := eyn202.trans (by first | rfl | decide +kernel)
                refine lv_istore_n (lv' := [(2, .int 100000), (0, .ref w0), (1, .int a)]) hx hb dX10_putNumber_39 rfl hl (by decide) rfl (fun ls hl => ?_)
                refine lv_goto (tgt := 18) hx hb dX10_putNumber_40 (by decide) ?_
                refine lv_iload_n hx hb dX10_putNumber_18 rfl (lv_at hl 0 rfl) ?_
                refine lv_if_le (tgt := 43) hx hb dX10_putNumber_19 (by decide) (fun c9 => absurd c9 (by decide)) (fun c203 => ?_)
                refine lv_aload_n hx hb dX10_putNumber_22 rfl (lv_at hl 1 rfl) ?_
                refine lv_bipush (v := 48) hx hb dX10_putNumber_23 (by decide) ?_
                refine lv_iload_n hx hb dX10_putNumber_25 rfl (lv_at hl 2 rfl) ?_
                refine lv_iload_n hx hb dX10_putNumber_26 rfl (lv_at hl 0 rfl) ?_
                refine lv_idiv hx hb dX10_putNumber_27 (by decide) ?_
                refine lv_topi (fun yn204 eyn204 => ?_)
                refine lv_bipush (v := 10) hx hb dX10_putNumber_28 (by decide) ?_
                refine lv_irem hx hb dX10_putNumber_30 (by decide) ?_
                refine lv_topi (fun yn205 eyn205 => ?_)
                refine lv_iadd hx hb dX10_putNumber_31 ?_
                refine lv_topi (fun yn206 eyn206 => ?_)
                obtain ⟨hPc, hDc, hFc⟩ := PDq.cut (wc := [(oX10 w0 v0 v1 v2 v3 v4 g5 g6 (nI ed) g8 v9 (nI nb) g11 g12 v13 g14 g15 g16 g17 g18 g19 g20 g21 g22 g23 g24 g25 g26 v27 v28 v29 v30 v31 v32 v33 v34 v35 v36 v37 (nI qn199)), (v37, .inl (cA 0, 100, .inl fn200))]) hP hD hS hA [0, 1] (by decide) rfl
                refine va_callv (va_runV (As := [.int yn206]) (rest := []) ⟨hx, hb, hml, hown, hts⟩ (r_put l D cA sa w0 ed nb qn199 v0 v1 v2 v3 v4 v9 v13 v27 v28 v29 v30 v31 v32 v33 v34 v35 v36 v37 g8 g11 g12 g14 g15 g16 g17 g18 g19 g20 g21 g22 g23 g24 g26 g5 g6 g25 fn200 yn206 H.size (by omega)) (cwV 1 hts gX10_putNumber_X10_put rfl rfl rfl (by decide +kernel) ⟨(Nat.le_of_ble_eq_true rfl), (Nat.le_of_ble_eq_true rfl)⟩) ⟨Wd.blind, va_recv hK hPc (ci := 11) (q0 := 0) rfl rfl, fun U hU hW => ⟨rfl, Wd.call hPc hDc hK hC hZ hS hFc U hU hW⟩⟩ rfl rfl hl.1 rfl (lv_room (Nat.le_of_ble_eq_true rfl)) dX10_putNumber_32 ⟨(Nat.le_of_ble_eq_true rfl), (Nat.le_of_ble_eq_true rfl)⟩) hS (fun q _ h => hFc q h) hFc (fun u t H1 locs ht hvm hw hB hz1 hk1 hS => ?_)
                obtain ⟨qn207, fn208, hn209, hP1, hD1⟩ := hB
                rw [ht] at hP1
                obtain ⟨hP, hD⟩ := PDq.join (w := [(oX10 w0 v0 v1 v2 v3 v4 g5 g6 (nI ed) g8 v9 (nI nb) g11 g12 v13 g14 g15 g16 g17 g18 g19 g20 g21 g22 g23 g24 g25 g26 v27 v28 v29 v30 v31 v32 v33 v34 v35 v36 v37 (nI qn207)), (v37, .inl (cA 0, 100, .inl fn208))]) 0 hP hD [0, 1] [] rfl rfl (by decide) (by decide) hk1 hFc hP1 hD1 rfl
                generalize H1 = H at hP hS ⊢
                refine lv_iload_n hx hb dX10_putNumber_35 rfl (lv_at hl 0 rfl) ?_
                refine lv_bipush (v := 10) hx hb dX10_putNumber_36 (by decide) ?_
                refine lv_idiv hx hb dX10_putNumber_38 (by decide) ?_
                refine lv_topi (fun yn210 eyn210 => ?_)
                obtain rfl : yn210 = 10000 := eyn210.trans (by first | rfl | decide +kernel)
                refine lv_istore_n (lv' := [(2, .int 10000), (0, .ref w0), (1, .int a)]) hx hb dX10_putNumber_39 rfl hl (by decide) rfl (fun ls hl => ?_)
                refine lv_goto (tgt := 18) hx hb dX10_putNumber_40 (by decide) ?_
                refine lv_iload_n hx hb dX10_putNumber_18 rfl (lv_at hl 0 rfl) ?_
                refine lv_if_le (tgt := 43) hx hb dX10_putNumber_19 (by decide) (fun c9 => absurd c9 (by decide)) (fun c211 => ?_)
                refine lv_aload_n hx hb dX10_putNumber_22 rfl (lv_at hl 1 rfl) ?_
                refine lv_bipush (v := 48) hx hb dX10_putNumber_23 (by decide) ?_
                refine lv_iload_n hx hb dX10_putNumber_25 rfl (lv_at hl 2 rfl) ?_
                refine lv_iload_n hx hb dX10_putNumber_26 rfl (lv_at hl 0 rfl) ?_
                refine lv_idiv hx hb dX10_putNumber_27 (by decide) ?_
                refine lv_topi (fun yn212 eyn212 => ?_)
                refine lv_bipush (v := 10) hx hb dX10_putNumber_28 (by decide) ?_
                refine lv_irem hx hb dX10_putNumber_30 (by decide) ?_
                refine lv_topi (fun yn213 eyn213 => ?_)
                refine lv_iadd hx hb dX10_putNumber_31 ?_
                refine lv_topi (fun yn214 eyn214 => ?_)
                obtain ⟨hPc, hDc, hFc⟩ := PDq.cut (wc := [(oX10 w0 v0 v1 v2 v3 v4 g5 g6 (nI ed) g8 v9 (nI nb) g11 g12 v13 g14 g15 g16 g17 g18 g19 g20 g21 g22 g23 g24 g25 g26 v27 v28 v29 v30 v31 v32 v33 v34 v35 v36 v37 (nI qn207)), (v37, .inl (cA 0, 100, .inl fn208))]) hP hD hS hA [0, 1] (by decide) rfl
                refine va_callv (va_runV (As := [.int yn214]) (rest := []) ⟨hx, hb, hml, hown, hts⟩ (r_put l D cA sa w0 ed nb qn207 v0 v1 v2 v3 v4 v9 v13 v27 v28 v29 v30 v31 v32 v33 v34 v35 v36 v37 g8 g11 g12 g14 g15 g16 g17 g18 g19 g20 g21 g22 g23 g24 g26 g5 g6 g25 fn208 yn214 H.size (by omega)) (cwV 1 hts gX10_putNumber_X10_put rfl rfl rfl (by decide +kernel) ⟨(Nat.le_of_ble_eq_true rfl), (Nat.le_of_ble_eq_true rfl)⟩) ⟨Wd.blind, va_recv hK hPc (ci := 11) (q0 := 0) rfl rfl, fun U hU hW => ⟨rfl, Wd.call hPc hDc hK hC hZ hS hFc U hU hW⟩⟩ rfl rfl hl.1 rfl (lv_room (Nat.le_of_ble_eq_true rfl)) dX10_putNumber_32 ⟨(Nat.le_of_ble_eq_true rfl), (Nat.le_of_ble_eq_true rfl)⟩) hS (fun q _ h => hFc q h) hFc (fun u t H1 locs ht hvm hw hB hz1 hk1 hS => ?_)
                obtain ⟨qn215, fn216, hn217, hP1, hD1⟩ := hB
                rw [ht] at hP1
                obtain ⟨hP, hD⟩ := PDq.join (w := [(oX10 w0 v0 v1 v2 v3 v4 g5 g6 (nI ed) g8 v9 (nI nb) g11 g12 v13 g14 g15 g16 g17 g18 g19 g20 g21 g22 g23 g24 g25 g26 v27 v28 v29 v30 v31 v32 v33 v34 v35 v36 v37 (nI qn215)), (v37, .inl (cA 0, 100, .inl fn216))]) 0 hP hD [0, 1] [] rfl rfl (by decide) (by decide) hk1 hFc hP1 hD1 rfl
                generalize H1 = H at hP hS ⊢
                refine lv_iload_n hx hb dX10_putNumber_35 rfl (lv_at hl 0 rfl) ?_
                refine lv_bipush (v := 10) hx hb dX10_putNumber_36 (by decide) ?_
                refine lv_idiv hx hb dX10_putNumber_38 (by decide) ?_
                refine lv_topi (fun yn218 eyn218 => ?_)
                obtain rfl : yn218 = 1000 := eyn218.trans (by first | rfl | decide +kernel)
                refine lv_istore_n (lv' := [(2, .int 1000), (0, .ref w0), (1, .int a)]) hx hb dX10_putNumber_39 rfl hl (by decide) rfl (fun ls hl => ?_)
                refine lv_goto (tgt := 18) hx hb dX10_putNumber_40 (by decide) ?_
                refine lv_iload_n hx hb dX10_putNumber_18 rfl (lv_at hl 0 rfl) ?_
                refine lv_if_le (tgt := 43) hx hb dX10_putNumber_19 (by decide) (fun c9 => absurd c9 (by decide)) (fun c219 => ?_)
                refine lv_aload_n hx hb dX10_putNumber_22 rfl (lv_at hl 1 rfl) ?_
                refine lv_bipush (v := 48) hx hb dX10_putNumber_23 (by decide) ?_
                refine lv_iload_n hx hb dX10_putNumber_25 rfl (lv_at hl 2 rfl) ?_
                refine lv_iload_n hx hb dX10_putNumber_26 rfl (lv_at hl 0 rfl) ?_
                refine lv_idiv hx hb dX10_putNumber_27 (by decide) ?_
                refine lv_topi (fun yn220 eyn220 => ?_)
                refine lv_bipush (v := 10) hx hb dX10_putNumber_28 (by decide) ?_
                refine lv_irem hx hb dX10_putNumber_30 (by decide) ?_
                refine lv_topi (fun yn221 eyn221 => ?_)
                refine lv_iadd hx hb dX10_putNumber_31 ?_
                refine lv_topi (fun yn222 eyn222 => ?_)
                obtain ⟨hPc, hDc, hFc⟩ := PDq.cut (wc := [(oX10 w0 v0 v1 v2 v3 v4 g5 g6 (nI ed) g8 v9 (nI nb) g11 g12 v13 g14 g15 g16 g17 g18 g19 g20 g21 g22 g23 g24 g25 g26 v27 v28 v29 v30 v31 v32 v33 v34 v35 v36 v37 (nI qn215)), (v37, .inl (cA 0, 100, .inl fn216))]) hP hD hS hA [0, 1] (by decide) rfl
                refine va_callv (va_runV (As := [.int yn222]) (rest := []) ⟨hx, hb, hml, hown, hts⟩ (r_put l D cA sa w0 ed nb qn215 v0 v1 v2 v3 v4 v9 v13 v27 v28 v29 v30 v31 v32 v33 v34 v35 v36 v37 g8 g11 g12 g14 g15 g16 g17 g18 g19 g20 g21 g22 g23 g24 g26 g5 g6 g25 fn216 yn222 H.size (by omega)) (cwV 1 hts gX10_putNumber_X10_put rfl rfl rfl (by decide +kernel) ⟨(Nat.le_of_ble_eq_true rfl), (Nat.le_of_ble_eq_true rfl)⟩) ⟨Wd.blind, va_recv hK hPc (ci := 11) (q0 := 0) rfl rfl, fun U hU hW => ⟨rfl, Wd.call hPc hDc hK hC hZ hS hFc U hU hW⟩⟩ rfl rfl hl.1 rfl (lv_room (Nat.le_of_ble_eq_true rfl)) dX10_putNumber_32 ⟨(Nat.le_of_ble_eq_true rfl), (Nat.le_of_ble_eq_true rfl)⟩) hS (fun q _ h => hFc q h) hFc (fun u t H1 locs ht hvm hw hB hz1 hk1 hS => ?_)
                obtain ⟨qn223, fn224, hn225, hP1, hD1⟩ := hB
                rw [ht] at hP1
                obtain ⟨hP, hD⟩ := PDq.join (w := [(oX10 w0 v0 v1 v2 v3 v4 g5 g6 (nI ed) g8 v9 (nI nb) g11 g12 v13 g14 g15 g16 g17 g18 g19 g20 g21 g22 g23 g24 g25 g26 v27 v28 v29 v30 v31 v32 v33 v34 v35 v36 v37 (nI qn223)), (v37, .inl (cA 0, 100, .inl fn224))]) 0 hP hD [0, 1] [] rfl rfl (by decide) (by decide) hk1 hFc hP1 hD1 rfl
                generalize H1 = H at hP hS ⊢
                refine lv_iload_n hx hb dX10_putNumber_35 rfl (lv_at hl 0 rfl) ?_
                refine lv_bipush (v := 10) hx hb dX10_putNumber_36 (by decide) ?_
                refine lv_idiv hx hb dX10_putNumber_38 (by decide) ?_
                refine lv_topi (fun yn226 eyn226 => ?_)
                obtain rfl : yn226 = 100 := eyn226.trans (by first | rfl | decide +kernel)
                refine lv_istore_n (lv' := [(2, .int 100), (0, .ref w0), (1, .int a)]) hx hb dX10_putNumber_39 rfl hl (by decide) rfl (fun ls hl => ?_)
                refine lv_goto (tgt := 18) hx hb dX10_putNumber_40 (by decide) ?_
                refine lv_iload_n hx hb dX10_putNumber_18 rfl (lv_at hl 0 rfl) ?_
                refine lv_if_le (tgt := 43) hx hb dX10_putNumber_19 (by decide) (fun c9 => absurd c9 (by decide)) (fun c227 => ?_)
                refine lv_aload_n hx hb dX10_putNumber_22 rfl (lv_at hl 1 rfl) ?_
                refine lv_bipush (v := 48) hx hb dX10_putNumber_23 (by decide) ?_
                refine lv_iload_n hx hb dX10_putNumber_25 rfl (lv_at hl 2 rfl) ?_
                refine lv_iload_n hx hb dX10_putNumber_26 rfl (lv_at hl 0 rfl) ?_
                refine lv_idiv hx hb dX10_putNumber_27 (by decide) ?_
                refine lv_topi (fun yn228 eyn228 => ?_)
                refine lv_bipush (v := 10) hx hb dX10_putNumber_28 (by decide) ?_
                refine lv_irem hx hb dX10_putNumber_30 (by decide) ?_
                refine lv_topi (fun yn229 eyn229 => ?_)
                refine lv_iadd hx hb dX10_putNumber_31 ?_
                refine lv_topi (fun yn230 eyn230 => ?_)
                obtain ⟨hPc, hDc, hFc⟩ := PDq.cut (wc := [(oX10 w0 v0 v1 v2 v3 v4 g5 g6 (nI ed) g8 v9 (nI nb) g11 g12 v13 g14 g15 g16 g17 g18 g19 g20 g21 g22 g23 g24 g25 g26 v27 v28 v29 v30 v31 v32 v33 v34 v35 v36 v37 (nI qn223)), (v37, .inl (cA 0, 100, .inl fn224))]) hP hD hS hA [0, 1] (by decide) rfl
                refine va_callv (va_runV (As := [.int yn230]) (rest := []) ⟨hx, hb, hml, hown, hts⟩ (r_put l D cA sa w0 ed nb qn223 v0 v1 v2 v3 v4 v9 v13 v27 v28 v29 v30 v31 v32 v33 v34 v35 v36 v37 g8 g11 g12 g14 g15 g16 g17 g18 g19 g20 g21 g22 g23 g24 g26 g5 g6 g25 fn224 yn230 H.size (by omega)) (cwV 1 hts gX10_putNumber_X10_put rfl rfl rfl (by decide +kernel) ⟨(Nat.le_of_ble_eq_true rfl), (Nat.le_of_ble_eq_true rfl)⟩) ⟨Wd.blind, va_recv hK hPc (ci := 11) (q0 := 0) rfl rfl, fun U hU hW => ⟨rfl, Wd.call hPc hDc hK hC hZ hS hFc U hU hW⟩⟩ rfl rfl hl.1 rfl (lv_room (Nat.le_of_ble_eq_true rfl)) dX10_putNumber_32 ⟨(Nat.le_of_ble_eq_true rfl), (Nat.le_of_ble_eq_true rfl)⟩) hS (fun q _ h => hFc q h) hFc (fun u t H1 locs ht hvm hw hB hz1 hk1 hS => ?_)
                obtain ⟨qn231, fn232, hn233, hP1, hD1⟩ := hB
                rw [ht] at hP1
                obtain ⟨hP, hD⟩ := PDq.join (w := [(oX10 w0 v0 v1 v2 v3 v4 g5 g6 (nI ed) g8 v9 (nI nb) g11 g12 v13 g14 g15 g16 g17 g18 g19 g20 g21 g22 g23 g24 g25 g26 v27 v28 v29 v30 v31 v32 v33 v34 v35 v36 v37 (nI qn231)), (v37, .inl (cA 0, 100, .inl fn232))]) 0 hP hD [0, 1] [] rfl rfl (by decide) (by decide) hk1 hFc hP1 hD1 rfl
                generalize H1 = H at hP hS ⊢
                refine lv_iload_n hx hb dX10_putNumber_35 rfl (lv_at hl 0 rfl) ?_
                refine lv_bipush (v := 10) hx hb dX10_putNumber_36 (by decide) ?_
                refine lv_idiv hx hb dX10_putNumber_38 (by decide) ?_
                refine lv_topi (fun yn234 eyn234 => ?_)
                obtain rfl : yn234 = 10 := eyn234.trans (by first | rfl | decide +kernel)
                refine lv_istore_n (lv' := [(2, .int 10), (0, .ref w0), (1, .int a)]) hx hb dX10_putNumber_39 rfl hl (by decide) rfl (fun ls hl => ?_)
                refine lv_goto (tgt := 18) hx hb dX10_putNumber_40 (by decide) ?_
                refine lv_iload_n hx hb dX10_putNumber_18 rfl (lv_at hl 0 rfl) ?_
                refine lv_if_le (tgt := 43) hx hb dX10_putNumber_19 (by decide) (fun c9 => absurd c9 (by decide)) (fun c235 => ?_)
                refine lv_aload_n hx hb dX10_putNumber_22 rfl (lv_at hl 1 rfl) ?_
                refine lv_bipush (v := 48) hx hb dX10_putNumber_23 (by decide) ?_
                refine lv_iload_n hx hb dX10_putNumber_25 rfl (lv_at hl 2 rfl) ?_
                refine lv_iload_n hx hb dX10_putNumber_26 rfl (lv_at hl 0 rfl) ?_
                refine lv_idiv hx hb dX10_putNumber_27 (by decide) ?_
                refine lv_topi (fun yn236 eyn236 => ?_)
                refine lv_bipush (v := 10) hx hb dX10_putNumber_28 (by decide) ?_
                refine lv_irem hx hb dX10_putNumber_30 (by decide) ?_
                refine lv_topi (fun yn237 eyn237 => ?_)
                refine lv_iadd hx hb dX10_putNumber_31 ?_
                refine lv_topi (fun yn238 eyn238 => ?_)
                obtain ⟨hPc, hDc, hFc⟩ := PDq.cut (wc := [(oX10 w0 v0 v1 v2 v3 v4 g5 g6 (nI ed) g8 v9 (nI nb) g11 g12 v13 g14 g15 g16 g17 g18 g19 g20 g21 g22 g23 g24 g25 g26 v27 v28 v29 v30 v31 v32 v33 v34 v35 v36 v37 (nI qn231)), (v37, .inl (cA 0, 100, .inl fn232))]) hP hD hS hA [0, 1] (by decide) rfl
                refine va_callv (va_runV (As := [.int yn238]) (rest := []) ⟨hx, hb, hml, hown, hts⟩ (r_put l D cA sa w0 ed nb qn231 v0 v1 v2 v3 v4 v9 v13 v27 v28 v29 v30 v31 v32 v33 v34 v35 v36 v37 g8 g11 g12 g14 g15 g16 g17 g18 g19 g20 g21 g22 g23 g24 g26 g5 g6 g25 fn232 yn238 H.size (by omega)) (cwV 1 hts gX10_putNumber_X10_put rfl rfl rfl (by decide +kernel) ⟨(Nat.le_of_ble_eq_true rfl), (Nat.le_of_ble_eq_true rfl)⟩) ⟨Wd.blind, va_recv hK hPc (ci := 11) (q0 := 0) rfl rfl, fun U hU hW => ⟨rfl, Wd.call hPc hDc hK hC hZ hS hFc U hU hW⟩⟩ rfl rfl hl.1 rfl (lv_room (Nat.le_of_ble_eq_true rfl)) dX10_putNumber_32 ⟨(Nat.le_of_ble_eq_true rfl), (Nat.le_of_ble_eq_true rfl)⟩) hS (fun q _ h => hFc q h) hFc (fun u t H1 locs ht hvm hw hB hz1 hk1 hS => ?_)
                obtain ⟨qn239, fn240, hn241, hP1, hD1⟩ := hB
                rw [ht] at hP1
                obtain ⟨hP, hD⟩ := PDq.join (w := [(oX10 w0 v0 v1 v2 v3 v4 g5 g6 (nI ed) g8 v9 (nI nb) g11 g12 v13 g14 g15 g16 g17 g18 g19 g20 g21 g22 g23 g24 g25 g26 v27 v28 v29 v30 v31 v32 v33 v34 v35 v36 v37 (nI qn239)), (v37, .inl (cA 0, 100, .inl fn240))]) 0 hP hD [0, 1] [] rfl rfl (by decide) (by decide) hk1 hFc hP1 hD1 rfl
                generalize H1 = H at hP hS ⊢
                refine lv_iload_n hx hb dX10_putNumber_35 rfl (lv_at hl 0 rfl) ?_
                refine lv_bipush (v := 10) hx hb dX10_putNumber_36 (by decide) ?_
                refine lv_idiv hx hb dX10_putNumber_38 (by decide) ?_
                refine lv_topi (fun yn242 eyn242 => ?_)
                obtain rfl : yn242 = 1 := eyn242.trans (by first | rfl | decide +kernel)
                refine lv_istore_n (lv' := [(2, .int 1), (0, .ref w0), (1, .int a)]) hx hb dX10_putNumber_39 rfl hl (by decide) rfl (fun ls hl => ?_)
                refine lv_goto (tgt := 18) hx hb dX10_putNumber_40 (by decide) ?_
                refine lv_iload_n hx hb dX10_putNumber_18 rfl (lv_at hl 0 rfl) ?_
                refine lv_if_le (tgt := 43) hx hb dX10_putNumber_19 (by decide) (fun c9 => absurd c9 (by decide)) (fun c243 => ?_)
                refine lv_aload_n hx hb dX10_putNumber_22 rfl (lv_at hl 1 rfl) ?_
                refine lv_bipush (v := 48) hx hb dX10_putNumber_23 (by decide) ?_
                refine lv_iload_n hx hb dX10_putNumber_25 rfl (lv_at hl 2 rfl) ?_
                refine lv_iload_n hx hb dX10_putNumber_26 rfl (lv_at hl 0 rfl) ?_
                refine lv_idiv hx hb dX10_putNumber_27 (by decide) ?_
                refine lv_topi (fun yn244 eyn244 => ?_)
                refine lv_bipush (v := 10) hx hb dX10_putNumber_28 (by decide) ?_
                refine lv_irem hx hb dX10_putNumber_30 (by decide) ?_
                refine lv_topi (fun yn245 eyn245 => ?_)
                refine lv_iadd hx hb dX10_putNumber_31 ?_
                refine lv_topi (fun yn246 eyn246 => ?_)
                obtain ⟨hPc, hDc, hFc⟩ := PDq.cut (wc := [(oX10 w0 v0 v1 v2 v3 v4 g5 g6 (nI ed) g8 v9 (nI nb) g11 g12 v13 g14 g15 g16 g17 g18 g19 g20 g21 g22 g23 g24 g25 g26 v27 v28 v29 v30 v31 v32 v33 v34 v35 v36 v37 (nI qn239)), (v37, .inl (cA 0, 100, .inl fn240))]) hP hD hS hA [0, 1] (by decide) rfl
                refine va_callv (va_runV (As := [.int yn246]) (rest := []) ⟨hx, hb, hml, hown, hts⟩ (r_put l D cA sa w0 ed nb qn239 v0 v1 v2 v3 v4 v9 v13 v27 v28 v29 v30 v31 v32 v33 v34 v35 v36 v37 g8 g11 g12 g14 g15 g16 g17 g18 g19 g20 g21 g22 g23 g24 g26 g5 g6 g25 fn240 yn246 H.size (by omega)) (cwV 1 hts gX10_putNumber_X10_put rfl rfl rfl (by decide +kernel) ⟨(Nat.le_of_ble_eq_true rfl), (Nat.le_of_ble_eq_true rfl)⟩) ⟨Wd.blind, va_recv hK hPc (ci := 11) (q0 := 0) rfl rfl, fun U hU hW => ⟨rfl, Wd.call hPc hDc hK hC hZ hS hFc U hU hW⟩⟩ rfl rfl hl.1 rfl (lv_room (Nat.le_of_ble_eq_true rfl)) dX10_putNumber_32 ⟨(Nat.le_of_ble_eq_true rfl), (Nat.le_of_ble_eq_true rfl)⟩) hS (fun q _ h => hFc q h) hFc (fun u t H1 locs ht hvm hw hB hz1 hk1 hS => ?_)
                obtain ⟨qn247, fn248, hn249, hP1, hD1⟩ := hB
                rw [ht] at hP1
                obtain ⟨hP, hD⟩ := PDq.join (w := [(oX10 w0 v0 v1 v2 v3 v4 g5 g6 (nI ed) g8 v9 (nI nb) g11 g12 v13 g14 g15 g16 g17 g18 g19 g20 g21 g22 g23 g24 g25 g26 v27 v28 v29 v30 v31 v32 v33 v34 v35 v36 v37 (nI qn247)), (v37, .inl (cA 0, 100, .inl fn248))]) 0 hP hD [0, 1] [] rfl rfl (by decide) (by decide) hk1 hFc hP1 hD1 rfl
                generalize H1 = H at hP hS ⊢
                refine lv_iload_n hx hb dX10_putNumber_35 rfl (lv_at hl 0 rfl) ?_
                refine lv_bipush (v := 10) hx hb dX10_putNumber_36 (by decide) ?_
                refine lv_idiv hx hb dX10_putNumber_38 (by decide) ?_
                refine lv_topi (fun yn250 eyn250 => ?_)
                obtain rfl : yn250 = 0 := eyn250.trans (by first | rfl | decide +kernel)
                refine lv_istore_n (lv' := [(2, .int 0), (0, .ref w0), (1, .int a)]) hx hb dX10_putNumber_39 rfl hl (by decide) rfl (fun ls hl => ?_)
                refine lv_goto (tgt := 18) hx hb dX10_putNumber_40 (by decide) ?_
                refine lv_iload_n hx hb dX10_putNumber_18 rfl (lv_at hl 0 rfl) ?_
                refine lv_if_le (tgt := 43) hx hb dX10_putNumber_19 (by decide) (fun c251 => ?_) (fun c9 => absurd c9 (by decide))
                obtain ⟨hP9, hD9⟩ := PDq.sub (ws' := [(oX10 w0 v0 v1 v2 v3 v4 g5 g6 (nI ed) g8 v9 (nI nb) g11 g12 v13 g14 g15 g16 g17 g18 g19 g20 g21 g22 g23 g24 g25 g26 v27 v28 v29 v30 v31 v32 v33 v34 v35 v36 v37 (nI qn247)), (v37, .inl (cA 0, 100, .inl fn248))]) hP hD [0, 1] (by decide) rfl
                refine W.widen (k := 0) (n := 0) (Nat.le_of_ble_eq_true rfl) (Nat.le_of_ble_eq_true rfl) ?_
                exact (W.vret hx hb hr (fun t ht hW => ⟨⟨(), rfl, trivial, qn247, fn248, (by omega), by rw [ht]; exact hP9, hD9⟩, hS.F ht⟩) hS.2.2 dX10_putNumber_43)
              · skip
                refine lv_bipush (v := 10) hx hb dX10_putNumber_10 (by decide) ?_
                refine lv_iload_n hx hb dX10_putNumber_12 rfl (lv_at hl 0 rfl) ?_
                refine lv_imul hx hb dX10_putNumber_13 ?_
                refine lv_topi (fun yn252 eyn252 => ?_)
                obtain rfl : yn252 = 10000000 := eyn252.trans (by first | rfl | decide +kernel)
                refine lv_istore_n (lv' := [(2, .int 10000000), (0, .ref w0), (1, .int a)]) hx hb dX10_putNumber_14 rfl hl (by decide) rfl (fun ls hl => ?_)
                refine lv_goto (tgt := 2) hx hb dX10_putNumber_15 (by decide) ?_
                refine lv_iload_n hx hb dX10_putNumber_2 rfl (lv_at hl 2 rfl) ?_
                refine lv_iload_n hx hb dX10_putNumber_3 rfl (lv_at hl 0 rfl) ?_
                refine lv_idiv hx hb dX10_putNumber_4 (by decide) ?_
                refine lv_topi (fun yn253 eyn253 => ?_)
                refine lv_bipush (v := 9) hx hb dX10_putNumber_5 (by decide) ?_
                refine lv_icmp_le (tgt := 18) hx hb dX10_putNumber_7 (by decide) (fun c254 => ?_) (fun c254 => ?_)
                · skip
                  refine lv_iload_n hx hb dX10_putNumber_18 rfl (lv_at hl 0 rfl) ?_
                  refine lv_if_le (tgt := 43) hx hb dX10_putNumber_19 (by decide) (fun c9 => absurd c9 (by decide)) (fun c255 => ?_)
                  refine lv_aload_n hx hb dX10_putNumber_22 rfl (lv_at hl 1 rfl) ?_
                  refine lv_bipush (v := 48) hx hb dX10_putNumber_23 (by decide) ?_
                  refine lv_iload_n hx hb dX10_putNumber_25 rfl (lv_at hl 2 rfl) ?_
                  refine lv_iload_n hx hb dX10_putNumber_26 rfl (lv_at hl 0 rfl) ?_
                  refine lv_idiv hx hb dX10_putNumber_27 (by decide) ?_
                  refine lv_topi (fun yn256 eyn256 => ?_)
                  refine lv_bipush (v := 10) hx hb dX10_putNumber_28 (by decide) ?_
                  refine lv_irem hx hb dX10_putNumber_30 (by decide) ?_
                  refine lv_topi (fun yn257 eyn257 => ?_)
                  refine lv_iadd hx hb dX10_putNumber_31 ?_
                  refine lv_topi (fun yn258 eyn258 => ?_)
                  obtain ⟨hPc, hDc, hFc⟩ := PDq.cut (wc := [(oX10 w0 v0 v1 v2 v3 v4 g5 g6 (nI ed) g8 v9 (nI nb) g11 g12 v13 g14 g15 g16 g17 g18 g19 g20 g21 g22 g23 g24 g25 g26 v27 v28 v29 v30 v31 v32 v33 v34 v35 v36 v37 (nI ol)), (v37, .inl (cA 0, 100, .inl fo9))]) hP hD hS hA [0, 1] (by decide) rfl
                  refine va_callv (va_runV (As := [.int yn258]) (rest := []) ⟨hx, hb, hml, hown, hts⟩ (r_put l D cA sa w0 ed nb ol v0 v1 v2 v3 v4 v9 v13 v27 v28 v29 v30 v31 v32 v33 v34 v35 v36 v37 g8 g11 g12 g14 g15 g16 g17 g18 g19 g20 g21 g22 g23 g24 g26 g5 g6 g25 fo9 yn258 s.heap.size (by omega)) (cwV 1 hts gX10_putNumber_X10_put rfl rfl rfl (by decide +kernel) ⟨(Nat.le_of_ble_eq_true rfl), (Nat.le_of_ble_eq_true rfl)⟩) ⟨Wd.blind, va_recv hK hPc (ci := 11) (q0 := 0) rfl rfl, fun U hU hW => ⟨rfl, Wd.call hPc hDc hK hC hZ hS hFc U hU hW⟩⟩ rfl rfl hl.1 rfl (lv_room (Nat.le_of_ble_eq_true rfl)) dX10_putNumber_32 ⟨(Nat.le_of_ble_eq_true rfl), (Nat.le_of_ble_eq_true rfl)⟩) hS (fun q _ h => hFc q h) hFc (fun u t H1 locs ht hvm hw hB hz1 hk1 hS => ?_)
                  obtain ⟨qn259, fn260, hn261, hP1, hD1⟩ := hB
                  rw [ht] at hP1
                  obtain ⟨hP, hD⟩ := PDq.join (w := [(oX10 w0 v0 v1 v2 v3 v4 g5 g6 (nI ed) g8 v9 (nI nb) g11 g12 v13 g14 g15 g16 g17 g18 g19 g20 g21 g22 g23 g24 g25 g26 v27 v28 v29 v30 v31 v32 v33 v34 v35 v36 v37 (nI qn259)), (v37, .inl (cA 0, 100, .inl fn260))]) 0 hP hD [0, 1] [] rfl rfl (by decide) (by decide) hk1 hFc hP1 hD1 rfl
                  generalize H1 = H at hP hS ⊢
                  refine lv_iload_n hx hb dX10_putNumber_35 rfl (lv_at hl 0 rfl) ?_
                  refine lv_bipush (v := 10) hx hb dX10_putNumber_36 (by decide) ?_
                  refine lv_idiv hx hb dX10_putNumber_38 (by decide) ?_
                  refine lv_topi (fun yn262 eyn262 => ?_)
                  obtain rfl : yn262 = 1000000 := eyn262.trans (by first | rfl | decide +kernel)
                  refine lv_istore_n (lv' := [(2, .int 1000000), (0, .ref w0), (1, .int a)]) hx hb dX10_putNumber_39 rfl hl (by decide) rfl (fun ls hl => ?_)
                  refine lv_goto (tgt := 18) hx hb dX10_putNumber_40 (by decide) ?_
                  refine lv_iload_n hx hb dX10_putNumber_18 rfl (lv_at hl 0 rfl) ?_
                  refine lv_if_le (tgt := 43) hx hb dX10_putNumber_19 (by decide) (fun c9 => absurd c9 (by decide)) (fun c263 => ?_)
                  refine lv_aload_n hx hb dX10_putNumber_22 rfl (lv_at hl 1 rfl) ?_
                  refine lv_bipush (v := 48) hx hb dX10_putNumber_23 (by decide) ?_
                  refine lv_iload_n hx hb dX10_putNumber_25 rfl (lv_at hl 2 rfl) ?_
                  refine lv_iload_n hx hb dX10_putNumber_26 rfl (lv_at hl 0 rfl) ?_
                  refine lv_idiv hx hb dX10_putNumber_27 (by decide) ?_
                  refine lv_topi (fun yn264 eyn264 => ?_)
                  refine lv_bipush (v := 10) hx hb dX10_putNumber_28 (by decide) ?_
                  refine lv_irem hx hb dX10_putNumber_30 (by decide) ?_
                  refine lv_topi (fun yn265 eyn265 => ?_)
                  refine lv_iadd hx hb dX10_putNumber_31 ?_
                  refine lv_topi (fun yn266 eyn266 => ?_)
                  obtain ⟨hPc, hDc, hFc⟩ := PDq.cut (wc := [(oX10 w0 v0 v1 v2 v3 v4 g5 g6 (nI ed) g8 v9 (nI nb) g11 g12 v13 g14 g15 g16 g17 g18 g19 g20 g21 g22 g23 g24 g25 g26 v27 v28 v29 v30 v31 v32 v33 v34 v35 v36 v37 (nI qn259)), (v37, .inl (cA 0, 100, .inl fn260))]) hP hD hS hA [0, 1] (by decide) rfl
                  refine va_callv (va_runV (As := [.int yn266]) (rest := []) ⟨hx, hb, hml, hown, hts⟩ (r_put l D cA sa w0 ed nb qn259 v0 v1 v2 v3 v4 v9 v13 v27 v28 v29 v30 v31 v32 v33 v34 v35 v36 v37 g8 g11 g12 g14 g15 g16 g17 g18 g19 g20 g21 g22 g23 g24 g26 g5 g6 g25 fn260 yn266 H.size (by omega)) (cwV 1 hts gX10_putNumber_X10_put rfl rfl rfl (by decide +kernel) ⟨(Nat.le_of_ble_eq_true rfl), (Nat.le_of_ble_eq_true rfl)⟩) ⟨Wd.blind, va_recv hK hPc (ci := 11) (q0 := 0) rfl rfl, fun U hU hW => ⟨rfl, Wd.call hPc hDc hK hC hZ hS hFc U hU hW⟩⟩ rfl rfl hl.1 rfl (lv_room (Nat.le_of_ble_eq_true rfl)) dX10_putNumber_32 ⟨(Nat.le_of_ble_eq_true rfl), (Nat.le_of_ble_eq_true rfl)⟩) hS (fun q _ h => hFc q h) hFc (fun u t H1 locs ht hvm hw hB hz1 hk1 hS => ?_)
                  obtain ⟨qn267, fn268, hn269, hP1, hD1⟩ := hB
                  rw [ht] at hP1
                  obtain ⟨hP, hD⟩ := PDq.join (w := [(oX10 w0 v0 v1 v2 v3 v4 g5 g6 (nI ed) g8 v9 (nI nb) g11 g12 v13 g14 g15 g16 g17 g18 g19 g20 g21 g22 g23 g24 g25 g26 v27 v28 v29 v30 v31 v32 v33 v34 v35 v36 v37 (nI qn267)), (v37, .inl (cA 0, 100, .inl fn268))]) 0 hP hD [0, 1] [] rfl rfl (by decide) (by decide) hk1 hFc hP1 hD1 rfl
                  generalize H1 = H at hP hS ⊢
                  refine lv_iload_n hx hb dX10_putNumber_35 rfl (lv_at hl 0 rfl) ?_
                  refine lv_bipush (v := 10) hx hb dX10_putNumber_36 (by decide) ?_
                  refine lv_idiv hx hb dX10_putNumber_38 (by decide) ?_
                  refine lv_topi (fun yn270 eyn270 => ?_)
                  obtain rfl : yn270 = 100000 := eyn270.trans (by first | rfl | decide +kernel)
                  refine lv_istore_n (lv' := [(2, .int 100000), (0, .ref w0), (1, .int a)]) hx hb dX10_putNumber_39 rfl hl (by decide) rfl (fun ls hl => ?_)
                  refine lv_goto (tgt := 18) hx hb dX10_putNumber_40 (by decide) ?_
                  refine lv_iload_n hx hb dX10_putNumber_18 rfl (lv_at hl 0 rfl) ?_
                  refine lv_if_le (tgt := 43) hx hb dX10_putNumber_19 (by decide) (fun c9 => absurd c9 (by decide)) (fun c271 => ?_)
                  refine lv_aload_n hx hb dX10_putNumber_22 rfl (lv_at hl 1 rfl) ?_
                  refine lv_bipush (v := 48) hx hb dX10_putNumber_23 (by decide) ?_
                  refine lv_iload_n hx hb dX10_putNumber_25 rfl (lv_at hl 2 rfl) ?_
                  refine lv_iload_n hx hb dX10_putNumber_26 rfl (lv_at hl 0 rfl) ?_
                  refine lv_idiv hx hb dX10_putNumber_27 (by decide) ?_
                  refine lv_topi (fun yn272 eyn272 => ?_)
                  refine lv_bipush (v := 10) hx hb dX10_putNumber_28 (by decide) ?_
                  refine lv_irem hx hb dX10_putNumber_30 (by decide) ?_
                  refine lv_topi (fun yn273 eyn273 => ?_)
                  refine lv_iadd hx hb dX10_putNumber_31 ?_
                  refine lv_topi (fun yn274 eyn274 => ?_)
                  obtain ⟨hPc, hDc, hFc⟩ := PDq.cut (wc := [(oX10 w0 v0 v1 v2 v3 v4 g5 g6 (nI ed) g8 v9 (nI nb) g11 g12 v13 g14 g15 g16 g17 g18 g19 g20 g21 g22 g23 g24 g25 g26 v27 v28 v29 v30 v31 v32 v33 v34 v35 v36 v37 (nI qn267)), (v37, .inl (cA 0, 100, .inl fn268))]) hP hD hS hA [0, 1] (by decide) rfl
                  refine va_callv (va_runV (As := [.int yn274]) (rest := []) ⟨hx, hb, hml, hown, hts⟩ (r_put l D cA sa w0 ed nb qn267 v0 v1 v2 v3 v4 v9 v13 v27 v28 v29 v30 v31 v32 v33 v34 v35 v36 v37 g8 g11 g12 g14 g15 g16 g17 g18 g19 g20 g21 g22 g23 g24 g26 g5 g6 g25 fn268 yn274 H.size (by omega)) (cwV 1 hts gX10_putNumber_X10_put rfl rfl rfl (by decide +kernel) ⟨(Nat.le_of_ble_eq_true rfl), (Nat.le_of_ble_eq_true rfl)⟩) ⟨Wd.blind, va_recv hK hPc (ci := 11) (q0 := 0) rfl rfl, fun U hU hW => ⟨rfl, Wd.call hPc hDc hK hC hZ hS hFc U hU hW⟩⟩ rfl rfl hl.1 rfl (lv_room (Nat.le_of_ble_eq_true rfl)) dX10_putNumber_32 ⟨(Nat.le_of_ble_eq_true rfl), (Nat.le_of_ble_eq_true rfl)⟩) hS (fun q _ h => hFc q h) hFc (fun u t H1 locs ht hvm hw hB hz1 hk1 hS => ?_)
                  obtain ⟨qn275, fn276, hn277, hP1, hD1⟩ := hB
                  rw [ht] at hP1
                  obtain ⟨hP, hD⟩ := PDq.join (w := [(oX10 w0 v0 v1 v2 v3 v4 g5 g6 (nI ed) g8 v9 (nI nb) g11 g12 v13 g14 g15 g16 g17 g18 g19 g20 g21 g22 g23 g24 g25 g26 v27 v28 v29 v30 v31 v32 v33 v34 v35 v36 v37 (nI qn275)), (v37, .inl (cA 0, 100, .inl fn276))]) 0 hP hD [0, 1] [] rfl rfl (by decide) (by decide) hk1 hFc hP1 hD1 rfl
                  generalize H1 = H at hP hS ⊢
                  refine lv_iload_n hx hb dX10_putNumber_35 rfl (lv_at hl 0 rfl) ?_
                  refine lv_bipush (v := 10) hx hb dX10_putNumber_36 (by decide) ?_
                  refine lv_idiv hx hb dX10_putNumber_38 (by decide) ?_
                  refine lv_topi (fun yn278 eyn278 => ?_)
                  obtain rfl : yn278 = 10000 := eyn278.trans (by first | rfl | decide +kernel)
                  refine lv_istore_n (lv' := [(2, .int 10000), (0, .ref w0), (1, .int a)]) hx hb dX10_putNumber_39 rfl hl (by decide) rfl (fun ls hl => ?_)
                  refine lv_goto (tgt := 18) hx hb dX10_putNumber_40 (by decide) ?_
                  refine lv_iload_n hx hb dX10_putNumber_18 rfl (lv_at hl 0 rfl) ?_
                  refine lv_if_le (tgt := 43) hx hb dX10_putNumber_19 (by decide) (fun c9 => absurd c9 (by decide)) (fun c279 => ?_)
                  refine lv_aload_n hx hb dX10_putNumber_22 rfl (lv_at hl 1 rfl) ?_
                  refine lv_bipush (v := 48) hx hb dX10_putNumber_23 (by decide) ?_
                  refine lv_iload_n hx hb dX10_putNumber_25 rfl (lv_at hl 2 rfl) ?_
                  refine lv_iload_n hx hb dX10_putNumber_26 rfl (lv_at hl 0 rfl) ?_
                  refine lv_idiv hx hb dX10_putNumber_27 (by decide) ?_
                  refine lv_topi (fun yn280 eyn280 => ?_)
                  refine lv_bipush (v := 10) hx hb dX10_putNumber_28 (by decide) ?_
                  refine lv_irem hx hb dX10_putNumber_30 (by decide) ?_
                  refine lv_topi (fun yn281 eyn281 => ?_)
                  refine lv_iadd hx hb dX10_putNumber_31 ?_
                  refine lv_topi (fun yn282 eyn282 => ?_)
                  obtain ⟨hPc, hDc, hFc⟩ := PDq.cut (wc := [(oX10 w0 v0 v1 v2 v3 v4 g5 g6 (nI ed) g8 v9 (nI nb) g11 g12 v13 g14 g15 g16 g17 g18 g19 g20 g21 g22 g23 g24 g25 g26 v27 v28 v29 v30 v31 v32 v33 v34 v35 v36 v37 (nI qn275)), (v37, .inl (cA 0, 100, .inl fn276))]) hP hD hS hA [0, 1] (by decide) rfl
                  refine va_callv (va_runV (As := [.int yn282]) (rest := []) ⟨hx, hb, hml, hown, hts⟩ (r_put l D cA sa w0 ed nb qn275 v0 v1 v2 v3 v4 v9 v13 v27 v28 v29 v30 v31 v32 v33 v34 v35 v36 v37 g8 g11 g12 g14 g15 g16 g17 g18 g19 g20 g21 g22 g23 g24 g26 g5 g6 g25 fn276 yn282 H.size (by omega)) (cwV 1 hts gX10_putNumber_X10_put rfl rfl rfl (by decide +kernel) ⟨(Nat.le_of_ble_eq_true rfl), (Nat.le_of_ble_eq_true rfl)⟩) ⟨Wd.blind, va_recv hK hPc (ci := 11) (q0 := 0) rfl rfl, fun U hU hW => ⟨rfl, Wd.call hPc hDc hK hC hZ hS hFc U hU hW⟩⟩ rfl rfl hl.1 rfl (lv_room (Nat.le_of_ble_eq_true rfl)) dX10_putNumber_32 ⟨(Nat.le_of_ble_eq_true rfl), (Nat.le_of_ble_eq_true rfl)⟩) hS (fun q _ h => hFc q h) hFc (fun u t H1 locs ht hvm hw hB hz1 hk1 hS => ?_)
                  obtain ⟨qn283, fn284, hn285, hP1, hD1⟩ := hB
                  rw [ht] at hP1
                  obtain ⟨hP, hD⟩ := PDq.join (w := [(oX10 w0 v0 v1 v2 v3 v4 g5 g6 (nI ed) g8 v9 (nI nb) g11 g12 v13 g14 g15 g16 g17 g18 g19 g20 g21 g22 g23 g24 g25 g26 v27 v28 v29 v30 v31 v32 v33 v34 v35 v36 v37 (nI qn283)), (v37, .inl (cA 0, 100, .inl fn284))]) 0 hP hD [0, 1] [] rfl rfl (by decide) (by decide) hk1 hFc hP1 hD1 rfl
                  generalize H1 = H at hP hS ⊢
                  refine lv_iload_n hx hb dX10_putNumber_35 rfl (lv_at hl 0 rfl) ?_
                  refine lv_bipush (v := 10) hx hb dX10_putNumber_36 (by decide) ?_
                  refine lv_idiv hx hb dX10_putNumber_38 (by decide) ?_
                  refine lv_topi (fun yn286 eyn286 => ?_)
                  obtain rfl : yn286 = 1000 := eyn286.trans (by first | rfl | decide +kernel)
                  refine lv_istore_n (lv' := [(2, .int 1000), (0, .ref w0), (1, .int a)]) hx hb dX10_putNumber_39 rfl hl (by decide) rfl (fun ls hl => ?_)
                  refine lv_goto (tgt := 18) hx hb dX10_putNumber_40 (by decide) ?_
                  refine lv_iload_n hx hb dX10_putNumber_18 rfl (lv_at hl 0 rfl) ?_
                  refine lv_if_le (tgt := 43) hx hb dX10_putNumber_19 (by decide) (fun c9 => absurd c9 (by decide)) (fun c287 => ?_)
                  refine lv_aload_n hx hb dX10_putNumber_22 rfl (lv_at hl 1 rfl) ?_
                  refine lv_bipush (v := 48) hx hb dX10_putNumber_23 (by decide) ?_
                  refine lv_iload_n hx hb dX10_putNumber_25 rfl (lv_at hl 2 rfl) ?_
                  refine lv_iload_n hx hb dX10_putNumber_26 rfl (lv_at hl 0 rfl) ?_
                  refine lv_idiv hx hb dX10_putNumber_27 (by decide) ?_
                  refine lv_topi (fun yn288 eyn288 => ?_)
                  refine lv_bipush (v := 10) hx hb dX10_putNumber_28 (by decide) ?_
                  refine lv_irem hx hb dX10_putNumber_30 (by decide) ?_
                  refine lv_topi (fun yn289 eyn289 => ?_)
                  refine lv_iadd hx hb dX10_putNumber_31 ?_
                  refine lv_topi (fun yn290 eyn290 => ?_)
                  obtain ⟨hPc, hDc, hFc⟩ := PDq.cut (wc := [(oX10 w0 v0 v1 v2 v3 v4 g5 g6 (nI ed) g8 v9 (nI nb) g11 g12 v13 g14 g15 g16 g17 g18 g19 g20 g21 g22 g23 g24 g25 g26 v27 v28 v29 v30 v31 v32 v33 v34 v35 v36 v37 (nI qn283)), (v37, .inl (cA 0, 100, .inl fn284))]) hP hD hS hA [0, 1] (by decide) rfl
                  refine va_callv (va_runV (As := [.int yn290]) (rest := []) ⟨hx, hb, hml, hown, hts⟩ (r_put l D cA sa w0 ed nb qn283 v0 v1 v2 v3 v4 v9 v13 v27 v28 v29 v30 v31 v32 v33 v34 v35 v36 v37 g8 g11 g12 g14 g15 g16 g17 g18 g19 g20 g21 g22 g23 g24 g26 g5 g6 g25 fn284 yn290 H.size (by omega)) (cwV 1 hts gX10_putNumber_X10_put rfl rfl rfl (by decide +kernel) ⟨(Nat.le_of_ble_eq_true rfl), (Nat.le_of_ble_eq_true rfl)⟩) ⟨Wd.blind, va_recv hK hPc (ci := 11) (q0 := 0) rfl rfl, fun U hU hW => ⟨rfl, Wd.call hPc hDc hK hC hZ hS hFc U hU hW⟩⟩ rfl rfl hl.1 rfl (lv_room (Nat.le_of_ble_eq_true rfl)) dX10_putNumber_32 ⟨(Nat.le_of_ble_eq_true rfl), (Nat.le_of_ble_eq_true rfl)⟩) hS (fun q _ h => hFc q h) hFc (fun u t H1 locs ht hvm hw hB hz1 hk1 hS => ?_)
                  obtain ⟨qn291, fn292, hn293, hP1, hD1⟩ := hB
                  rw [ht] at hP1
                  obtain ⟨hP, hD⟩ := PDq.join (w := [(oX10 w0 v0 v1 v2 v3 v4 g5 g6 (nI ed) g8 v9 (nI nb) g11 g12 v13 g14 g15 g16 g17 g18 g19 g20 g21 g22 g23 g24 g25 g26 v27 v28 v29 v30 v31 v32 v33 v34 v35 v36 v37 (nI qn291)), (v37, .inl (cA 0, 100, .inl fn292))]) 0 hP hD [0, 1] [] rfl rfl (by decide) (by decide) hk1 hFc hP1 hD1 rfl
                  generalize H1 = H at hP hS ⊢
                  refine lv_iload_n hx hb dX10_putNumber_35 rfl (lv_at hl 0 rfl) ?_
                  refine lv_bipush (v := 10) hx hb dX10_putNumber_36 (by decide) ?_
                  refine lv_idiv hx hb dX10_putNumber_38 (by decide) ?_
                  refine lv_topi (fun yn294 eyn294 => ?_)
                  obtain rfl : yn294 = 100 := eyn294.trans (by first | rfl | decide +kernel)
                  refine lv_istore_n (lv' := [(2, .int 100), (0, .ref w0), (1, .int a)]) hx hb dX10_putNumber_39 rfl hl (by decide) rfl (fun ls hl => ?_)
                  refine lv_goto (tgt := 18) hx hb dX10_putNumber_40 (by decide) ?_
                  refine lv_iload_n hx hb dX10_putNumber_18 rfl (lv_at hl 0 rfl) ?_
                  refine lv_if_le (tgt := 43) hx hb dX10_putNumber_19 (by decide) (fun c9 => absurd c9 (by decide)) (fun c295 => ?_)
                  refine lv_aload_n hx hb dX10_putNumber_22 rfl (lv_at hl 1 rfl) ?_
                  refine lv_bipush (v := 48) hx hb dX10_putNumber_23 (by decide) ?_
                  refine lv_iload_n hx hb dX10_putNumber_25 rfl (lv_at hl 2 rfl) ?_
                  refine lv_iload_n hx hb dX10_putNumber_26 rfl (lv_at hl 0 rfl) ?_
                  refine lv_idiv hx hb dX10_putNumber_27 (by decide) ?_
                  refine lv_topi (fun yn296 eyn296 => ?_)
                  refine lv_bipush (v := 10) hx hb dX10_putNumber_28 (by decide) ?_
                  refine lv_irem hx hb dX10_putNumber_30 (by decide) ?_
                  refine lv_topi (fun yn297 eyn297 => ?_)
                  refine lv_iadd hx hb dX10_putNumber_31 ?_
                  refine lv_topi (fun yn298 eyn298 => ?_)
                  obtain ⟨hPc, hDc, hFc⟩ := PDq.cut (wc := [(oX10 w0 v0 v1 v2 v3 v4 g5 g6 (nI ed) g8 v9 (nI nb) g11 g12 v13 g14 g15 g16 g17 g18 g19 g20 g21 g22 g23 g24 g25 g26 v27 v28 v29 v30 v31 v32 v33 v34 v35 v36 v37 (nI qn291)), (v37, .inl (cA 0, 100, .inl fn292))]) hP hD hS hA [0, 1] (by decide) rfl
                  refine va_callv (va_runV (As := [.int yn298]) (rest := []) ⟨hx, hb, hml, hown, hts⟩ (r_put l D cA sa w0 ed nb qn291 v0 v1 v2 v3 v4 v9 v13 v27 v28 v29 v30 v31 v32 v33 v34 v35 v36 v37 g8 g11 g12 g14 g15 g16 g17 g18 g19 g20 g21 g22 g23 g24 g26 g5 g6 g25 fn292 yn298 H.size (by omega)) (cwV 1 hts gX10_putNumber_X10_put rfl rfl rfl (by decide +kernel) ⟨(Nat.le_of_ble_eq_true rfl), (Nat.le_of_ble_eq_true rfl)⟩) ⟨Wd.blind, va_recv hK hPc (ci := 11) (q0 := 0) rfl rfl, fun U hU hW => ⟨rfl, Wd.call hPc hDc hK hC hZ hS hFc U hU hW⟩⟩ rfl rfl hl.1 rfl (lv_room (Nat.le_of_ble_eq_true rfl)) dX10_putNumber_32 ⟨(Nat.le_of_ble_eq_true rfl), (Nat.le_of_ble_eq_true rfl)⟩) hS (fun q _ h => hFc q h) hFc (fun u t H1 locs ht hvm hw hB hz1 hk1 hS => ?_)
                  obtain ⟨qn299, fn300, hn301, hP1, hD1⟩ := hB
                  rw [ht] at hP1
                  obtain ⟨hP, hD⟩ := PDq.join (w := [(oX10 w0 v0 v1 v2 v3 v4 g5 g6 (nI ed) g8 v9 (nI nb) g11 g12 v13 g14 g15 g16 g17 g18 g19 g20 g21 g22 g23 g24 g25 g26 v27 v28 v29 v30 v31 v32 v33 v34 v35 v36 v37 (nI qn299)), (v37, .inl (cA 0, 100, .inl fn300))]) 0 hP hD [0, 1] [] rfl rfl (by decide) (by decide) hk1 hFc hP1 hD1 rfl
                  generalize H1 = H at hP hS ⊢
                  refine lv_iload_n hx hb dX10_putNumber_35 rfl (lv_at hl 0 rfl) ?_
                  refine lv_bipush (v := 10) hx hb dX10_putNumber_36 (by decide) ?_
                  refine lv_idiv hx hb dX10_putNumber_38 (by decide) ?_
                  refine lv_topi (fun yn302 eyn302 => ?_)
                  obtain rfl : yn302 = 10 := eyn302.trans (by first | rfl | decide +kernel)
                  refine lv_istore_n (lv' := [(2, .int 10), (0, .ref w0), (1, .int a)]) hx hb dX10_putNumber_39 rfl hl (by decide) rfl (fun ls hl => ?_)
                  refine lv_goto (tgt := 18) hx hb dX10_putNumber_40 (by decide) ?_
                  refine lv_iload_n hx hb dX10_putNumber_18 rfl (lv_at hl 0 rfl) ?_
                  refine lv_if_le (tgt := 43) hx hb dX10_putNumber_19 (by decide) (fun c9 => absurd c9 (by decide)) (fun c303 => ?_)
                  refine lv_aload_n hx hb dX10_putNumber_22 rfl (lv_at hl 1 rfl) ?_
                  refine lv_bipush (v := 48) hx hb dX10_putNumber_23 (by decide) ?_
                  refine lv_iload_n hx hb dX10_putNumber_25 rfl (lv_at hl 2 rfl) ?_
                  refine lv_iload_n hx hb dX10_putNumber_26 rfl (lv_at hl 0 rfl) ?_
                  refine lv_idiv hx hb dX10_putNumber_27 (by decide) ?_
                  refine lv_topi (fun yn304 eyn304 => ?_)
                  refine lv_bipush (v := 10) hx hb dX10_putNumber_28 (by decide) ?_
                  refine lv_irem hx hb dX10_putNumber_30 (by decide) ?_
                  refine lv_topi (fun yn305 eyn305 => ?_)
                  refine lv_iadd hx hb dX10_putNumber_31 ?_
                  refine lv_topi (fun yn306 eyn306 => ?_)
                  obtain ⟨hPc, hDc, hFc⟩ := PDq.cut (wc := [(oX10 w0 v0 v1 v2 v3 v4 g5 g6 (nI ed) g8 v9 (nI nb) g11 g12 v13 g14 g15 g16 g17 g18 g19 g20 g21 g22 g23 g24 g25 g26 v27 v28 v29 v30 v31 v32 v33 v34 v35 v36 v37 (nI qn299)), (v37, .inl (cA 0, 100, .inl fn300))]) hP hD hS hA [0, 1] (by decide) rfl
                  refine va_callv (va_runV (As := [.int yn306]) (rest := []) ⟨hx, hb, hml, hown, hts⟩ (r_put l D cA sa w0 ed nb qn299 v0 v1 v2 v3 v4 v9 v13 v27 v28 v29 v30 v31 v32 v33 v34 v35 v36 v37 g8 g11 g12 g14 g15 g16 g17 g18 g19 g20 g21 g22 g23 g24 g26 g5 g6 g25 fn300 yn306 H.size (by omega)) (cwV 1 hts gX10_putNumber_X10_put rfl rfl rfl (by decide +kernel) ⟨(Nat.le_of_ble_eq_true rfl), (Nat.le_of_ble_eq_true rfl)⟩) ⟨Wd.blind, va_recv hK hPc (ci := 11) (q0 := 0) rfl rfl, fun U hU hW => ⟨rfl, Wd.call hPc hDc hK hC hZ hS hFc U hU hW⟩⟩ rfl rfl hl.1 rfl (lv_room (Nat.le_of_ble_eq_true rfl)) dX10_putNumber_32 ⟨(Nat.le_of_ble_eq_true rfl), (Nat.le_of_ble_eq_true rfl)⟩) hS (fun q _ h => hFc q h) hFc (fun u t H1 locs ht hvm hw hB hz1 hk1 hS => ?_)
                  obtain ⟨qn307, fn308, hn309, hP1, hD1⟩ := hB
                  rw [ht] at hP1
                  obtain ⟨hP, hD⟩ := PDq.join (w := [(oX10 w0 v0 v1 v2 v3 v4 g5 g6 (nI ed) g8 v9 (nI nb) g11 g12 v13 g14 g15 g16 g17 g18 g19 g20 g21 g22 g23 g24 g25 g26 v27 v28 v29 v30 v31 v32 v33 v34 v35 v36 v37 (nI qn307)), (v37, .inl (cA 0, 100, .inl fn308))]) 0 hP hD [0, 1] [] rfl rfl (by decide) (by decide) hk1 hFc hP1 hD1 rfl
                  generalize H1 = H at hP hS ⊢
                  refine lv_iload_n hx hb dX10_putNumber_35 rfl (lv_at hl 0 rfl) ?_
                  refine lv_bipush (v := 10) hx hb dX10_putNumber_36 (by decide) ?_
                  refine lv_idiv hx hb dX10_putNumber_38 (by decide) ?_
                  refine lv_topi (fun yn310 eyn310 => ?_)
                  obtain rfl : yn310 = 1 := eyn310.trans (by first | rfl | decide +kernel)
                  refine lv_istore_n (lv' := [(2, .int 1), (0, .ref w0), (1, .int a)]) hx hb dX10_putNumber_39 rfl hl (by decide) rfl (fun ls hl => ?_)
                  refine lv_goto (tgt := 18) hx hb dX10_putNumber_40 (by decide) ?_
                  refine lv_iload_n hx hb dX10_putNumber_18 rfl (lv_at hl 0 rfl) ?_
                  refine lv_if_le (tgt := 43) hx hb dX10_putNumber_19 (by decide) (fun c9 => absurd c9 (by decide)) (fun c311 => ?_)
                  refine lv_aload_n hx hb dX10_putNumber_22 rfl (lv_at hl 1 rfl) ?_
                  refine lv_bipush (v := 48) hx hb dX10_putNumber_23 (by decide) ?_
                  refine lv_iload_n hx hb dX10_putNumber_25 rfl (lv_at hl 2 rfl) ?_
                  refine lv_iload_n hx hb dX10_putNumber_26 rfl (lv_at hl 0 rfl) ?_
                  refine lv_idiv hx hb dX10_putNumber_27 (by decide) ?_
                  refine lv_topi (fun yn312 eyn312 => ?_)
                  refine lv_bipush (v := 10) hx hb dX10_putNumber_28 (by decide) ?_
                  refine lv_irem hx hb dX10_putNumber_30 (by decide) ?_
                  refine lv_topi (fun yn313 eyn313 => ?_)
                  refine lv_iadd hx hb dX10_putNumber_31 ?_
                  refine lv_topi (fun yn314 eyn314 => ?_)
                  obtain ⟨hPc, hDc, hFc⟩ := PDq.cut (wc := [(oX10 w0 v0 v1 v2 v3 v4 g5 g6 (nI ed) g8 v9 (nI nb) g11 g12 v13 g14 g15 g16 g17 g18 g19 g20 g21 g22 g23 g24 g25 g26 v27 v28 v29 v30 v31 v32 v33 v34 v35 v36 v37 (nI qn307)), (v37, .inl (cA 0, 100, .inl fn308))]) hP hD hS hA [0, 1] (by decide) rfl
                  refine va_callv (va_runV (As := [.int yn314]) (rest := []) ⟨hx, hb, hml, hown, hts⟩ (r_put l D cA sa w0 ed nb qn307 v0 v1 v2 v3 v4 v9 v13 v27 v28 v29 v30 v31 v32 v33 v34 v35 v36 v37 g8 g11 g12 g14 g15 g16 g17 g18 g19 g20 g21 g22 g23 g24 g26 g5 g6 g25 fn308 yn314 H.size (by omega)) (cwV 1 hts gX10_putNumber_X10_put rfl rfl rfl (by decide +kernel) ⟨(Nat.le_of_ble_eq_true rfl), (Nat.le_of_ble_eq_true rfl)⟩) ⟨Wd.blind, va_recv hK hPc (ci := 11) (q0 := 0) rfl rfl, fun U hU hW => ⟨rfl, Wd.call hPc hDc hK hC hZ hS hFc U hU hW⟩⟩ rfl rfl hl.1 rfl (lv_room (Nat.le_of_ble_eq_true rfl)) dX10_putNumber_32 ⟨(Nat.le_of_ble_eq_true rfl), (Nat.le_of_ble_eq_true rfl)⟩) hS (fun q _ h => hFc q h) hFc (fun u t H1 locs ht hvm hw hB hz1 hk1 hS => ?_)
                  obtain ⟨qn315, fn316, hn317, hP1, hD1⟩ := hB
                  rw [ht] at hP1
                  obtain ⟨hP, hD⟩ := PDq.join (w := [(oX10 w0 v0 v1 v2 v3 v4 g5 g6 (nI ed) g8 v9 (nI nb) g11 g12 v13 g14 g15 g16 g17 g18 g19 g20 g21 g22 g23 g24 g25 g26 v27 v28 v29 v30 v31 v32 v33 v34 v35 v36 v37 (nI qn315)), (v37, .inl (cA 0, 100, .inl fn316))]) 0 hP hD [0, 1] [] rfl rfl (by decide) (by decide) hk1 hFc hP1 hD1 rfl
                  generalize H1 = H at hP hS ⊢
                  refine lv_iload_n hx hb dX10_putNumber_35 rfl (lv_at hl 0 rfl) ?_
                  refine lv_bipush (v := 10) hx hb dX10_putNumber_36 (by decide) ?_
                  refine lv_idiv hx hb dX10_putNumber_38 (by decide) ?_
                  refine lv_topi (fun yn318 eyn318 => ?_)
                  obtain rfl : yn318 = 0 := eyn318.trans (by first | rfl | decide +kernel)
                  refine lv_istore_n (lv' := [(2, .int 0), (0, .ref w0), (1, .int a)]) hx hb dX10_putNumber_39 rfl hl (by decide) rfl (fun ls hl => ?_)
                  refine lv_goto (tgt := 18) hx hb dX10_putNumber_40 (by decide) ?_
                  refine lv_iload_n hx hb dX10_putNumber_18 rfl (lv_at hl 0 rfl) ?_
                  refine lv_if_le (tgt := 43) hx hb dX10_putNumber_19 (by decide) (fun c319 => ?_) (fun c9 => absurd c9 (by decide))
                  obtain ⟨hP9, hD9⟩ := PDq.sub (ws' := [(oX10 w0 v0 v1 v2 v3 v4 g5 g6 (nI ed) g8 v9 (nI nb) g11 g12 v13 g14 g15 g16 g17 g18 g19 g20 g21 g22 g23 g24 g25 g26 v27 v28 v29 v30 v31 v32 v33 v34 v35 v36 v37 (nI qn315)), (v37, .inl (cA 0, 100, .inl fn316))]) hP hD [0, 1] (by decide) rfl
                  refine W.widen (k := 0) (n := 0) (Nat.le_of_ble_eq_true rfl) (Nat.le_of_ble_eq_true rfl) ?_
                  exact (W.vret hx hb hr (fun t ht hW => ⟨⟨(), rfl, trivial, qn315, fn316, (by omega), by rw [ht]; exact hP9, hD9⟩, hS.F ht⟩) hS.2.2 dX10_putNumber_43)
                · skip
                  refine lv_bipush (v := 10) hx hb dX10_putNumber_10 (by decide) ?_
                  refine lv_iload_n hx hb dX10_putNumber_12 rfl (lv_at hl 0 rfl) ?_
                  refine lv_imul hx hb dX10_putNumber_13 ?_
                  refine lv_topi (fun yn320 eyn320 => ?_)
                  obtain rfl : yn320 = 100000000 := eyn320.trans (by first | rfl | decide +kernel)
                  refine lv_istore_n (lv' := [(2, .int 100000000), (0, .ref w0), (1, .int a)]) hx hb dX10_putNumber_14 rfl hl (by decide) rfl (fun ls hl => ?_)
                  refine lv_goto (tgt := 2) hx hb dX10_putNumber_15 (by decide) ?_
                  refine lv_iload_n hx hb dX10_putNumber_2 rfl (lv_at hl 2 rfl) ?_
                  refine lv_iload_n hx hb dX10_putNumber_3 rfl (lv_at hl 0 rfl) ?_
                  refine lv_idiv hx hb dX10_putNumber_4 (by decide) ?_
                  refine lv_topi (fun yn321 eyn321 => ?_)
                  refine lv_bipush (v := 9) hx hb dX10_putNumber_5 (by decide) ?_
                  refine lv_icmp_le (tgt := 18) hx hb dX10_putNumber_7 (by decide) (fun c322 => ?_) (fun c322 => ?_)
                  · skip
                    refine lv_iload_n hx hb dX10_putNumber_18 rfl (lv_at hl 0 rfl) ?_
                    refine lv_if_le (tgt := 43) hx hb dX10_putNumber_19 (by decide) (fun c9 => absurd c9 (by decide)) (fun c323 => ?_)
                    refine lv_aload_n hx hb dX10_putNumber_22 rfl (lv_at hl 1 rfl) ?_
                    refine lv_bipush (v := 48) hx hb dX10_putNumber_23 (by decide) ?_
                    refine lv_iload_n hx hb dX10_putNumber_25 rfl (lv_at hl 2 rfl) ?_
                    refine lv_iload_n hx hb dX10_putNumber_26 rfl (lv_at hl 0 rfl) ?_
                    refine lv_idiv hx hb dX10_putNumber_27 (by decide) ?_
                    refine lv_topi (fun yn324 eyn324 => ?_)
                    refine lv_bipush (v := 10) hx hb dX10_putNumber_28 (by decide) ?_
                    refine lv_irem hx hb dX10_putNumber_30 (by decide) ?_
                    refine lv_topi (fun yn325 eyn325 => ?_)
                    refine lv_iadd hx hb dX10_putNumber_31 ?_
                    refine lv_topi (fun yn326 eyn326 => ?_)
                    obtain ⟨hPc, hDc, hFc⟩ := PDq.cut (wc := [(oX10 w0 v0 v1 v2 v3 v4 g5 g6 (nI ed) g8 v9 (nI nb) g11 g12 v13 g14 g15 g16 g17 g18 g19 g20 g21 g22 g23 g24 g25 g26 v27 v28 v29 v30 v31 v32 v33 v34 v35 v36 v37 (nI ol)), (v37, .inl (cA 0, 100, .inl fo9))]) hP hD hS hA [0, 1] (by decide) rfl
                    refine va_callv (va_runV (As := [.int yn326]) (rest := []) ⟨hx, hb, hml, hown, hts⟩ (r_put l D cA sa w0 ed nb ol v0 v1 v2 v3 v4 v9 v13 v27 v28 v29 v30 v31 v32 v33 v34 v35 v36 v37 g8 g11 g12 g14 g15 g16 g17 g18 g19 g20 g21 g22 g23 g24 g26 g5 g6 g25 fo9 yn326 s.heap.size (by omega)) (cwV 1 hts gX10_putNumber_X10_put rfl rfl rfl (by decide +kernel) ⟨(Nat.le_of_ble_eq_true rfl), (Nat.le_of_ble_eq_true rfl)⟩) ⟨Wd.blind, va_recv hK hPc (ci := 11) (q0 := 0) rfl rfl, fun U hU hW => ⟨rfl, Wd.call hPc hDc hK hC hZ hS hFc U hU hW⟩⟩ rfl rfl hl.1 rfl (lv_room (Nat.le_of_ble_eq_true rfl)) dX10_putNumber_32 ⟨(Nat.le_of_ble_eq_true rfl), (Nat.le_of_ble_eq_true rfl)⟩) hS (fun q _ h => hFc q h) hFc (fun u t H1 locs ht hvm hw hB hz1 hk1 hS => ?_)
                    obtain ⟨qn327, fn328, hn329, hP1, hD1⟩ := hB
                    rw [ht] at hP1
                    obtain ⟨hP, hD⟩ := PDq.join (w := [(oX10 w0 v0 v1 v2 v3 v4 g5 g6 (nI ed) g8 v9 (nI nb) g11 g12 v13 g14 g15 g16 g17 g18 g19 g20 g21 g22 g23 g24 g25 g26 v27 v28 v29 v30 v31 v32 v33 v34 v35 v36 v37 (nI qn327)), (v37, .inl (cA 0, 100, .inl fn328))]) 0 hP hD [0, 1] [] rfl rfl (by decide) (by decide) hk1 hFc hP1 hD1 rfl
                    generalize H1 = H at hP hS ⊢
                    refine lv_iload_n hx hb dX10_putNumber_35 rfl (lv_at hl 0 rfl) ?_
                    refine lv_bipush (v := 10) hx hb dX10_putNumber_36 (by decide) ?_
                    refine lv_idiv hx hb dX10_putNumber_38 (by decide) ?_
                    refine lv_topi (fun yn330 eyn330 => ?_)
                    obtain rfl : yn330 = 10000000 := eyn330.trans (by first | rfl | decide +kernel)
                    refine lv_istore_n (lv' := [(2, .int 10000000), (0, .ref w0), (1, .int a)]) hx hb dX10_putNumber_39 rfl hl (by decide) rfl (fun ls hl => ?_)
                    refine lv_goto (tgt := 18) hx hb dX10_putNumber_40 (by decide) ?_
                    refine lv_iload_n hx hb dX10_putNumber_18 rfl (lv_at hl 0 rfl) ?_
                    refine lv_if_le (tgt := 43) hx hb dX10_putNumber_19 (by decide) (fun c9 => absurd c9 (by decide)) (fun c331 => ?_)
                    refine lv_aload_n hx hb dX10_putNumber_22 rfl (lv_at hl 1 rfl) ?_
                    refine lv_bipush (v := 48) hx hb dX10_putNumber_23 (by decide) ?_
                    refine lv_iload_n hx hb dX10_putNumber_25 rfl (lv_at hl 2 rfl) ?_
                    refine lv_iload_n hx hb dX10_putNumber_26 rfl (lv_at hl 0 rfl) ?_
                    refine lv_idiv hx hb dX10_putNumber_27 (by decide) ?_
                    refine lv_topi (fun yn332 eyn332 => ?_)
                    refine lv_bipush (v := 10) hx hb dX10_putNumber_28 (by decide) ?_
                    refine lv_irem hx hb dX10_putNumber_30 (by decide) ?_
                    refine lv_topi (fun yn333 eyn333 => ?_)
                    refine lv_iadd hx hb dX10_putNumber_31 ?_
                    refine lv_topi (fun yn334 eyn334 => ?_)
                    obtain ⟨hPc, hDc, hFc⟩ := PDq.cut (wc := [(oX10 w0 v0 v1 v2 v3 v4 g5 g6 (nI ed) g8 v9 (nI nb) g11 g12 v13 g14 g15 g16 g17 g18 g19 g20 g21 g22 g23 g24 g25 g26 v27 v28 v29 v30 v31 v32 v33 v34 v35 v36 v37 (nI qn327)), (v37, .inl (cA 0, 100, .inl fn328))]) hP hD hS hA [0, 1] (by decide) rfl
                    refine va_callv (va_runV (As := [.int yn334]) (rest := []) ⟨hx, hb, hml, hown, hts⟩ (r_put l D cA sa w0 ed nb qn327 v0 v1 v2 v3 v4 v9 v13 v27 v28 v29 v30 v31 v32 v33 v34 v35 v36 v37 g8 g11 g12 g14 g15 g16 g17 g18 g19 g20 g21 g22 g23 g24 g26 g5 g6 g25 fn328 yn334 H.size (by omega)) (cwV 1 hts gX10_putNumber_X10_put rfl rfl rfl (by decide +kernel) ⟨(Nat.le_of_ble_eq_true rfl), (Nat.le_of_ble_eq_true rfl)⟩) ⟨Wd.blind, va_recv hK hPc (ci := 11) (q0 := 0) rfl rfl, fun U hU hW => ⟨rfl, Wd.call hPc hDc hK hC hZ hS hFc U hU hW⟩⟩ rfl rfl hl.1 rfl (lv_room (Nat.le_of_ble_eq_true rfl)) dX10_putNumber_32 ⟨(Nat.le_of_ble_eq_true rfl), (Nat.le_of_ble_eq_true rfl)⟩) hS (fun q _ h => hFc q h) hFc (fun u t H1 locs ht hvm hw hB hz1 hk1 hS => ?_)
                    obtain ⟨qn335, fn336, hn337, hP1, hD1⟩ := hB
                    rw [ht] at hP1
                    obtain ⟨hP, hD⟩ := PDq.join (w := [(oX10 w0 v0 v1 v2 v3 v4 g5 g6 (nI ed) g8 v9 (nI nb) g11 g12 v13 g14 g15 g16 g17 g18 g19 g20 g21 g22 g23 g24 g25 g26 v27 v28 v29 v30 v31 v32 v33 v34 v35 v36 v37 (nI qn335)), (v37, .inl (cA 0, 100, .inl fn336))]) 0 hP hD [0, 1] [] rfl rfl (by decide) (by decide) hk1 hFc hP1 hD1 rfl
                    generalize H1 = H at hP hS ⊢
                    refine lv_iload_n hx hb dX10_putNumber_35 rfl (lv_at hl 0 rfl) ?_
                    refine lv_bipush (v := 10) hx hb dX10_putNumber_36 (by decide) ?_
                    refine lv_idiv hx hb dX10_putNumber_38 (by decide) ?_
                    refine lv_topi (fun yn338 eyn338 => ?_)
                    obtain rfl : yn338 = 1000000 := eyn338.trans (by first | rfl | decide +kernel)
                    refine lv_istore_n (lv' := [(2, .int 1000000), (0, .ref w0), (1, .int a)]) hx hb dX10_putNumber_39 rfl hl (by decide) rfl (fun ls hl => ?_)
                    refine lv_goto (tgt := 18) hx hb dX10_putNumber_40 (by decide) ?_
                    refine lv_iload_n hx hb dX10_putNumber_18 rfl (lv_at hl 0 rfl) ?_
                    refine lv_if_le (tgt := 43) hx hb dX10_putNumber_19 (by decide) (fun c9 => absurd c9 (by decide)) (fun c339 => ?_)
                    refine lv_aload_n hx hb dX10_putNumber_22 rfl (lv_at hl 1 rfl) ?_
                    refine lv_bipush (v := 48) hx hb dX10_putNumber_23 (by decide) ?_
                    refine lv_iload_n hx hb dX10_putNumber_25 rfl (lv_at hl 2 rfl) ?_
                    refine lv_iload_n hx hb dX10_putNumber_26 rfl (lv_at hl 0 rfl) ?_
                    refine lv_idiv hx hb dX10_putNumber_27 (by decide) ?_
                    refine lv_topi (fun yn340 eyn340 => ?_)
                    refine lv_bipush (v := 10) hx hb dX10_putNumber_28 (by decide) ?_
                    refine lv_irem hx hb dX10_putNumber_30 (by decide) ?_
                    refine lv_topi (fun yn341 eyn341 => ?_)
                    refine lv_iadd hx hb dX10_putNumber_31 ?_
                    refine lv_topi (fun yn342 eyn342 => ?_)
                    obtain ⟨hPc, hDc, hFc⟩ := PDq.cut (wc := [(oX10 w0 v0 v1 v2 v3 v4 g5 g6 (nI ed) g8 v9 (nI nb) g11 g12 v13 g14 g15 g16 g17 g18 g19 g20 g21 g22 g23 g24 g25 g26 v27 v28 v29 v30 v31 v32 v33 v34 v35 v36 v37 (nI qn335)), (v37, .inl (cA 0, 100, .inl fn336))]) hP hD hS hA [0, 1] (by decide) rfl
                    refine va_callv (va_runV (As := [.int yn342]) (rest := []) ⟨hx, hb, hml, hown, hts⟩ (r_put l D cA sa w0 ed nb qn335 v0 v1 v2 v3 v4 v9 v13 v27 v28 v29 v30 v31 v32 v33 v34 v35 v36 v37 g8 g11 g12 g14 g15 g16 g17 g18 g19 g20 g21 g22 g23 g24 g26 g5 g6 g25 fn336 yn342 H.size (by omega)) (cwV 1 hts gX10_putNumber_X10_put rfl rfl rfl (by decide +kernel) ⟨(Nat.le_of_ble_eq_true rfl), (Nat.le_of_ble_eq_true rfl)⟩) ⟨Wd.blind, va_recv hK hPc (ci := 11) (q0 := 0) rfl rfl, fun U hU hW => ⟨rfl, Wd.call hPc hDc hK hC hZ hS hFc U hU hW⟩⟩ rfl rfl hl.1 rfl (lv_room (Nat.le_of_ble_eq_true rfl)) dX10_putNumber_32 ⟨(Nat.le_of_ble_eq_true rfl), (Nat.le_of_ble_eq_true rfl)⟩) hS (fun q _ h => hFc q h) hFc (fun u t H1 locs ht hvm hw hB hz1 hk1 hS => ?_)
                    obtain ⟨qn343, fn344, hn345, hP1, hD1⟩ := hB
                    rw [ht] at hP1
                    obtain ⟨hP, hD⟩ := PDq.join (w := [(oX10 w0 v0 v1 v2 v3 v4 g5 g6 (nI ed) g8 v9 (nI nb) g11 g12 v13 g14 g15 g16 g17 g18 g19 g20 g21 g22 g23 g24 g25 g26 v27 v28 v29 v30 v31 v32 v33 v34 v35 v36 v37 (nI qn343)), (v37, .inl (cA 0, 100, .inl fn344))]) 0 hP hD [0, 1] [] rfl rfl (by decide) (by decide) hk1 hFc hP1 hD1 rfl
                    generalize H1 = H at hP hS ⊢
                    refine lv_iload_n hx hb dX10_putNumber_35 rfl (lv_at hl 0 rfl) ?_
                    refine lv_bipush (v := 10) hx hb dX10_putNumber_36 (by decide) ?_
                    refine lv_idiv hx hb dX10_putNumber_38 (by decide) ?_
                    refine lv_topi (fun yn346 eyn346 => ?_)
                    obtain rfl : yn346 = 100000 := eyn346.trans (by first | rfl | decide +kernel)
                    refine lv_istore_n (lv' := [(2, .int 100000), (0, .ref w0), (1, .int a)]) hx hb dX10_putNumber_39 rfl hl (by decide) rfl (fun ls hl => ?_)
                    refine lv_goto (tgt := 18) hx hb dX10_putNumber_40 (by decide) ?_
                    refine lv_iload_n hx hb dX10_putNumber_18 rfl (lv_at hl 0 rfl) ?_
                    refine lv_if_le (tgt := 43) hx hb dX10_putNumber_19 (by decide) (fun c9 => absurd c9 (by decide)) (fun c347 => ?_)
                    refine lv_aload_n hx hb dX10_putNumber_22 rfl (lv_at hl 1 rfl) ?_
                    refine lv_bipush (v := 48) hx hb dX10_putNumber_23 (by decide) ?_
                    refine lv_iload_n hx hb dX10_putNumber_25 rfl (lv_at hl 2 rfl) ?_
                    refine lv_iload_n hx hb dX10_putNumber_26 rfl (lv_at hl 0 rfl) ?_
                    refine lv_idiv hx hb dX10_putNumber_27 (by decide) ?_
                    refine lv_topi (fun yn348 eyn348 => ?_)
                    refine lv_bipush (v := 10) hx hb dX10_putNumber_28 (by decide) ?_
                    refine lv_irem hx hb dX10_putNumber_30 (by decide) ?_
                    refine lv_topi (fun yn349 eyn349 => ?_)
                    refine lv_iadd hx hb dX10_putNumber_31 ?_
                    refine lv_topi (fun yn350 eyn350 => ?_)
                    obtain ⟨hPc, hDc, hFc⟩ := PDq.cut (wc := [(oX10 w0 v0 v1 v2 v3 v4 g5 g6 (nI ed) g8 v9 (nI nb) g11 g12 v13 g14 g15 g16 g17 g18 g19 g20 g21 g22 g23 g24 g25 g26 v27 v28 v29 v30 v31 v32 v33 v34 v35 v36 v37 (nI qn343)), (v37, .inl (cA 0, 100, .inl fn344))]) hP hD hS hA [0, 1] (by decide) rfl
                    refine va_callv (va_runV (As := [.int yn350]) (rest := []) ⟨hx, hb, hml, hown, hts⟩ (r_put l D cA sa w0 ed nb qn343 v0 v1 v2 v3 v4 v9 v13 v27 v28 v29 v30 v31 v32 v33 v34 v35 v36 v37 g8 g11 g12 g14 g15 g16 g17 g18 g19 g20 g21 g22 g23 g24 g26 g5 g6 g25 fn344 yn350 H.size (by omega)) (cwV 1 hts gX10_putNumber_X10_put rfl rfl rfl (by decide +kernel) ⟨(Nat.le_of_ble_eq_true rfl), (Nat.le_of_ble_eq_true rfl)⟩) ⟨Wd.blind, va_recv hK hPc (ci := 11) (q0 := 0) rfl rfl, fun U hU hW => ⟨rfl, Wd.call hPc hDc hK hC hZ hS hFc U hU hW⟩⟩ rfl rfl hl.1 rfl (lv_room (Nat.le_of_ble_eq_true rfl)) dX10_putNumber_32 ⟨(Nat.le_of_ble_eq_true rfl), (Nat.le_of_ble_eq_true rfl)⟩) hS (fun q _ h => hFc q h) hFc (fun u t H1 locs ht hvm hw hB hz1 hk1 hS => ?_)
                    obtain ⟨qn351, fn352, hn353, hP1, hD1⟩ := hB
                    rw [ht] at hP1
                    obtain ⟨hP, hD⟩ := PDq.join (w := [(oX10 w0 v0 v1 v2 v3 v4 g5 g6 (nI ed) g8 v9 (nI nb) g11 g12 v13 g14 g15 g16 g17 g18 g19 g20 g21 g22 g23 g24 g25 g26 v27 v28 v29 v30 v31 v32 v33 v34 v35 v36 v37 (nI qn351)), (v37, .inl (cA 0, 100, .inl fn352))]) 0 hP hD [0, 1] [] rfl rfl (by decide) (by decide) hk1 hFc hP1 hD1 rfl
                    generalize H1 = H at hP hS ⊢
                    refine lv_iload_n hx hb dX10_putNumber_35 rfl (lv_at hl 0 rfl) ?_
                    refine lv_bipush (v := 10) hx hb dX10_putNumber_36 (by decide) ?_
                    refine lv_idiv hx hb dX10_putNumber_38 (by decide) ?_
                    refine lv_topi (fun yn354 eyn354 => ?_)
                    obtain rfl : yn354 = 10000 := eyn354.trans (by first | rfl | decide +kernel)
                    refine lv_istore_n (lv' := [(2, .int 10000), (0, .ref w0), (1, .int a)]) hx hb dX10_putNumber_39 rfl hl (by decide) rfl (fun ls hl => ?_)
                    refine lv_goto (tgt := 18) hx hb dX10_putNumber_40 (by decide) ?_
                    refine lv_iload_n hx hb dX10_putNumber_18 rfl (lv_at hl 0 rfl) ?_
                    refine lv_if_le (tgt := 43) hx hb dX10_putNumber_19 (by decide) (fun c9 => absurd c9 (by decide)) (fun c355 => ?_)
                    refine lv_aload_n hx hb dX10_putNumber_22 rfl (lv_at hl 1 rfl) ?_
                    refine lv_bipush (v := 48) hx hb dX10_putNumber_23 (by decide) ?_
                    refine lv_iload_n hx hb dX10_putNumber_25 rfl (lv_at hl 2 rfl) ?_
                    refine lv_iload_n hx hb dX10_putNumber_26 rfl (lv_at hl 0 rfl) ?_
                    refine lv_idiv hx hb dX10_putNumber_27 (by decide) ?_
                    refine lv_topi (fun yn356 eyn356 => ?_)
                    refine lv_bipush (v := 10) hx hb dX10_putNumber_28 (by decide) ?_
                    refine lv_irem hx hb dX10_putNumber_30 (by decide) ?_
                    refine lv_topi (fun yn357 eyn357 => ?_)
                    refine lv_iadd hx hb dX10_putNumber_31 ?_
                    refine lv_topi (fun yn358 eyn358 => ?_)
                    obtain ⟨hPc, hDc, hFc⟩ := PDq.cut (wc := [(oX10 w0 v0 v1 v2 v3 v4 g5 g6 (nI ed) g8 v9 (nI nb) g11 g12 v13 g14 g15 g16 g17 g18 g19 g20 g21 g22 g23 g24 g25 g26 v27 v28 v29 v30 v31 v32 v33 v34 v35 v36 v37 (nI qn351)), (v37, .inl (cA 0, 100, .inl fn352))]) hP hD hS hA [0, 1] (by decide) rfl
                    refine va_callv (va_runV (As := [.int yn358]) (rest := []) ⟨hx, hb, hml, hown, hts⟩ (r_put l D cA sa w0 ed nb qn351 v0 v1 v2 v3 v4 v9 v13 v27 v28 v29 v30 v31 v32 v33 v34 v35 v36 v37 g8 g11 g12 g14 g15 g16 g17 g18 g19 g20 g21 g22 g23 g24 g26 g5 g6 g25 fn352 yn358 H.size (by omega)) (cwV 1 hts gX10_putNumber_X10_put rfl rfl rfl (by decide +kernel) ⟨(Nat.le_of_ble_eq_true rfl), (Nat.le_of_ble_eq_true rfl)⟩) ⟨Wd.blind, va_recv hK hPc (ci := 11) (q0 := 0) rfl rfl, fun U hU hW => ⟨rfl, Wd.call hPc hDc hK hC hZ hS hFc U hU hW⟩⟩ rfl rfl hl.1 rfl (lv_room (Nat.le_of_ble_eq_true rfl)) dX10_putNumber_32 ⟨(Nat.le_of_ble_eq_true rfl), (Nat.le_of_ble_eq_true rfl)⟩) hS (fun q _ h => hFc q h) hFc (fun u t H1 locs ht hvm hw hB hz1 hk1 hS => ?_)
                    obtain ⟨qn359, fn360, hn361, hP1, hD1⟩ := hB
                    rw [ht] at hP1
                    obtain ⟨hP, hD⟩ := PDq.join (w := [(oX10 w0 v0 v1 v2 v3 v4 g5 g6 (nI ed) g8 v9 (nI nb) g11 g12 v13 g14 g15 g16 g17 g18 g19 g20 g21 g22 g23 g24 g25 g26 v27 v28 v29 v30 v31 v32 v33 v34 v35 v36 v37 (nI qn359)), (v37, .inl (cA 0, 100, .inl fn360))]) 0 hP hD [0, 1] [] rfl rfl (by decide) (by decide) hk1 hFc hP1 hD1 rfl
                    generalize H1 = H at hP hS ⊢
                    refine lv_iload_n hx hb dX10_putNumber_35 rfl (lv_at hl 0 rfl) ?_
                    refine lv_bipush (v := 10) hx hb dX10_putNumber_36 (by decide) ?_
                    refine lv_idiv hx hb dX10_putNumber_38 (by decide) ?_
                    refine lv_topi (fun yn362 eyn362 => ?_)
                    obtain rfl : yn362 = 1000 := eyn362.trans (by first | rfl | decide +kernel)
                    refine lv_istore_n (lv' := [(2, .int 1000), (0, .ref w0), (1, .int a)]) hx hb dX10_putNumber_39 rfl hl (by decide) rfl (fun ls hl => ?_)
                    refine lv_goto (tgt := 18) hx hb dX10_putNumber_40 (by decide) ?_
                    refine lv_iload_n hx hb dX10_putNumber_18 rfl (lv_at hl 0 rfl) ?_
                    refine lv_if_le (tgt := 43) hx hb dX10_putNumber_19 (by decide) (fun c9 => absurd c9 (by decide)) (fun c363 => ?_)
                    refine lv_aload_n hx hb dX10_putNumber_22 rfl (lv_at hl 1 rfl) ?_
                    refine lv_bipush (v := 48) hx hb dX10_putNumber_23 (by decide) ?_
                    refine lv_iload_n hx hb dX10_putNumber_25 rfl (lv_at hl 2 rfl) ?_
                    refine lv_iload_n hx hb dX10_putNumber_26 rfl (lv_at hl 0 rfl) ?_
                    refine lv_idiv hx hb dX10_putNumber_27 (by decide) ?_
                    refine lv_topi (fun yn364 eyn364 => ?_)
                    refine lv_bipush (v := 10) hx hb dX10_putNumber_28 (by decide) ?_
                    refine lv_irem hx hb dX10_putNumber_30 (by decide) ?_
                    refine lv_topi (fun yn365 eyn365 => ?_)
                    refine lv_iadd hx hb dX10_putNumber_31 ?_
                    refine lv_topi (fun yn366 eyn366 => ?_)
                    obtain ⟨hPc, hDc, hFc⟩ := PDq.cut (wc := [(oX10 w0 v0 v1 v2 v3 v4 g5 g6 (nI ed) g8 v9 (nI nb) g11 g12 v13 g14 g15 g16 g17 g18 g19 g20 g21 g22 g23 g24 g25 g26 v27 v28 v29 v30 v31 v32 v33 v34 v35 v36 v37 (nI qn359)), (v37, .inl (cA 0, 100, .inl fn360))]) hP hD hS hA [0, 1] (by decide) rfl
                    refine va_callv (va_runV (As := [.int yn366]) (rest := []) ⟨hx, hb, hml, hown, hts⟩ (r_put l D cA sa w0 ed nb qn359 v0 v1 v2 v3 v4 v9 v13 v27 v28 v29 v30 v31 v32 v33 v34 v35 v36 v37 g8 g11 g12 g14 g15 g16 g17 g18 g19 g20 g21 g22 g23 g24 g26 g5 g6 g25 fn360 yn366 H.size (by omega)) (cwV 1 hts gX10_putNumber_X10_put rfl rfl rfl (by decide +kernel) ⟨(Nat.le_of_ble_eq_true rfl), (Nat.le_of_ble_eq_true rfl)⟩) ⟨Wd.blind, va_recv hK hPc (ci := 11) (q0 := 0) rfl rfl, fun U hU hW => ⟨rfl, Wd.call hPc hDc hK hC hZ hS hFc U hU hW⟩⟩ rfl rfl hl.1 rfl (lv_room (Nat.le_of_ble_eq_true rfl)) dX10_putNumber_32 ⟨(Nat.le_of_ble_eq_true rfl), (Nat.le_of_ble_eq_true rfl)⟩) hS (fun q _ h => hFc q h) hFc (fun u t H1 locs ht hvm hw hB hz1 hk1 hS => ?_)
                    obtain ⟨qn367, fn368, hn369, hP1, hD1⟩ := hB
                    rw [ht] at hP1
                    obtain ⟨hP, hD⟩ := PDq.join (w := [(oX10 w0 v0 v1 v2 v3 v4 g5 g6 (nI ed) g8 v9 (nI nb) g11 g12 v13 g14 g15 g16 g17 g18 g19 g20 g21 g22 g23 g24 g25 g26 v27 v28 v29 v30 v31 v32 v33 v34 v35 v36 v37 (nI qn367)), (v37, .inl (cA 0, 100, .inl fn368))]) 0 hP hD [0, 1] [] rfl rfl (by decide) (by decide) hk1 hFc hP1 hD1 rfl
                    generalize H1 = H at hP hS ⊢
                    refine lv_iload_n hx hb dX10_putNumber_35 rfl (lv_at hl 0 rfl) ?_
                    refine lv_bipush (v := 10) hx hb dX10_putNumber_36 (by decide) ?_
                    refine lv_idiv hx hb dX10_putNumber_38 (by decide) ?_
                    refine lv_topi (fun yn370 eyn370 => ?_)
                    obtain rfl : yn370 = 100 := eyn370.trans (by first | rfl | decide +kernel)
                    refine lv_istore_n (lv' := [(2, .int 100), (0, .ref w0), (1, .int a)]) hx hb dX10_putNumber_39 rfl hl (by decide) rfl (fun ls hl => ?_)
                    refine lv_goto (tgt := 18) hx hb dX10_putNumber_40 (by decide) ?_
                    refine lv_iload_n hx hb dX10_putNumber_18 rfl (lv_at hl 0 rfl) ?_
                    refine lv_if_le (tgt := 43) hx hb dX10_putNumber_19 (by decide) (fun c9 => absurd c9 (by decide)) (fun c371 => ?_)
                    refine lv_aload_n hx hb dX10_putNumber_22 rfl (lv_at hl 1 rfl) ?_
                    refine lv_bipush (v := 48) hx hb dX10_putNumber_23 (by decide) ?_
                    refine lv_iload_n hx hb dX10_putNumber_25 rfl (lv_at hl 2 rfl) ?_
                    refine lv_iload_n hx hb dX10_putNumber_26 rfl (lv_at hl 0 rfl) ?_
                    refine lv_idiv hx hb dX10_putNumber_27 (by decide) ?_
                    refine lv_topi (fun yn372 eyn372 => ?_)
                    refine lv_bipush (v := 10) hx hb dX10_putNumber_28 (by decide) ?_
                    refine lv_irem hx hb dX10_putNumber_30 (by decide) ?_
                    refine lv_topi (fun yn373 eyn373 => ?_)
                    refine lv_iadd hx hb dX10_putNumber_31 ?_
                    refine lv_topi (fun yn374 eyn374 => ?_)
                    obtain ⟨hPc, hDc, hFc⟩ := PDq.cut (wc := [(oX10 w0 v0 v1 v2 v3 v4 g5 g6 (nI ed) g8 v9 (nI nb) g11 g12 v13 g14 g15 g16 g17 g18 g19 g20 g21 g22 g23 g24 g25 g26 v27 v28 v29 v30 v31 v32 v33 v34 v35 v36 v37 (nI qn367)), (v37, .inl (cA 0, 100, .inl fn368))]) hP hD hS hA [0, 1] (by decide) rfl
                    refine va_callv (va_runV (As := [.int yn374]) (rest := []) ⟨hx, hb, hml, hown, hts⟩ (r_put l D cA sa w0 ed nb qn367 v0 v1 v2 v3 v4 v9 v13 v27 v28 v29 v30 v31 v32 v33 v34 v35 v36 v37 g8 g11 g12 g14 g15 g16 g17 g18 g19 g20 g21 g22 g23 g24 g26 g5 g6 g25 fn368 yn374 H.size (by omega)) (cwV 1 hts gX10_putNumber_X10_put rfl rfl rfl (by decide +kernel) ⟨(Nat.le_of_ble_eq_true rfl), (Nat.le_of_ble_eq_true rfl)⟩) ⟨Wd.blind, va_recv hK hPc (ci := 11) (q0 := 0) rfl rfl, fun U hU hW => ⟨rfl, Wd.call hPc hDc hK hC hZ hS hFc U hU hW⟩⟩ rfl rfl hl.1 rfl (lv_room (Nat.le_of_ble_eq_true rfl)) dX10_putNumber_32 ⟨(Nat.le_of_ble_eq_true rfl), (Nat.le_of_ble_eq_true rfl)⟩) hS (fun q _ h => hFc q h) hFc (fun u t H1 locs ht hvm hw hB hz1 hk1 hS => ?_)
                    obtain ⟨qn375, fn376, hn377, hP1, hD1⟩ := hB
                    rw [ht] at hP1
                    obtain ⟨hP, hD⟩ := PDq.join (w := [(oX10 w0 v0 v1 v2 v3 v4 g5 g6 (nI ed) g8 v9 (nI nb) g11 g12 v13 g14 g15 g16 g17 g18 g19 g20 g21 g22 g23 g24 g25 g26 v27 v28 v29 v30 v31 v32 v33 v34 v35 v36 v37 (nI qn375)), (v37, .inl (cA 0, 100, .inl fn376))]) 0 hP hD [0, 1] [] rfl rfl (by decide) (by decide) hk1 hFc hP1 hD1 rfl
                    generalize H1 = H at hP hS ⊢
                    refine lv_iload_n hx hb dX10_putNumber_35 rfl (lv_at hl 0 rfl) ?_
                    refine lv_bipush (v := 10) hx hb dX10_putNumber_36 (by decide) ?_
                    refine lv_idiv hx hb dX10_putNumber_38 (by decide) ?_
                    refine lv_topi (fun yn378 eyn378 => ?_)
                    obtain rfl : yn378 = 10 := eyn378.trans (by first | rfl | decide +kernel)
                    refine lv_istore_n (lv' := [(2, .int 10), (0, .ref w0), (1, .int a)]) hx hb dX10_putNumber_39 rfl hl (by decide) rfl (fun ls hl => ?_)
                    refine lv_goto (tgt := 18) hx hb dX10_putNumber_40 (by decide) ?_
                    refine lv_iload_n hx hb dX10_putNumber_18 rfl (lv_at hl 0 rfl) ?_
                    refine lv_if_le (tgt := 43) hx hb dX10_putNumber_19 (by decide) (fun c9 => absurd c9 (by decide)) (fun c379 => ?_)
                    refine lv_aload_n hx hb dX10_putNumber_22 rfl (lv_at hl 1 rfl) ?_
                    refine lv_bipush (v := 48) hx hb dX10_putNumber_23 (by decide) ?_
                    refine lv_iload_n hx hb dX10_putNumber_25 rfl (lv_at hl 2 rfl) ?_
                    refine lv_iload_n hx hb dX10_putNumber_26 rfl (lv_at hl 0 rfl) ?_
                    refine lv_idiv hx hb dX10_putNumber_27 (by decide) ?_
                    refine lv_topi (fun yn380 eyn380 => ?_)
                    refine lv_bipush (v := 10) hx hb dX10_putNumber_28 (by decide) ?_
                    refine lv_irem hx hb dX10_putNumber_30 (by decide) ?_
                    refine lv_topi (fun yn381 eyn381 => ?_)
                    refine lv_iadd hx hb dX10_putNumber_31 ?_
                    refine lv_topi (fun yn382 eyn382 => ?_)
                    obtain ⟨hPc, hDc, hFc⟩ := PDq.cut (wc := [(oX10 w0 v0 v1 v2 v3 v4 g5 g6 (nI ed) g8 v9 (nI nb) g11 g12 v13 g14 g15 g16 g17 g18 g19 g20 g21 g22 g23 g24 g25 g26 v27 v28 v29 v30 v31 v32 v33 v34 v35 v36 v37 (nI qn375)), (v37, .inl (cA 0, 100, .inl fn376))]) hP hD hS hA [0, 1] (by decide) rfl
                    refine va_callv (va_runV (As := [.int yn382]) (rest := []) ⟨hx, hb, hml, hown, hts⟩ (r_put l D cA sa w0 ed nb qn375 v0 v1 v2 v3 v4 v9 v13 v27 v28 v29 v30 v31 v32 v33 v34 v35 v36 v37 g8 g11 g12 g14 g15 g16 g17 g18 g19 g20 g21 g22 g23 g24 g26 g5 g6 g25 fn376 yn382 H.size (by omega)) (cwV 1 hts gX10_putNumber_X10_put rfl rfl rfl (by decide +kernel) ⟨(Nat.le_of_ble_eq_true rfl), (Nat.le_of_ble_eq_true rfl)⟩) ⟨Wd.blind, va_recv hK hPc (ci := 11) (q0 := 0) rfl rfl, fun U hU hW => ⟨rfl, Wd.call hPc hDc hK hC hZ hS hFc U hU hW⟩⟩ rfl rfl hl.1 rfl (lv_room (Nat.le_of_ble_eq_true rfl)) dX10_putNumber_32 ⟨(Nat.le_of_ble_eq_true rfl), (Nat.le_of_ble_eq_true rfl)⟩) hS (fun q _ h => hFc q h) hFc (fun u t H1 locs ht hvm hw hB hz1 hk1 hS => ?_)
                    obtain ⟨qn383, fn384, hn385, hP1, hD1⟩ := hB
                    rw [ht] at hP1
                    obtain ⟨hP, hD⟩ := PDq.join (w := [(oX10 w0 v0 v1 v2 v3 v4 g5 g6 (nI ed) g8 v9 (nI nb) g11 g12 v13 g14 g15 g16 g17 g18 g19 g20 g21 g22 g23 g24 g25 g26 v27 v28 v29 v30 v31 v32 v33 v34 v35 v36 v37 (nI qn383)), (v37, .inl (cA 0, 100, .inl fn384))]) 0 hP hD [0, 1] [] rfl rfl (by decide) (by decide) hk1 hFc hP1 hD1 rfl
                    generalize H1 = H at hP hS ⊢
                    refine lv_iload_n hx hb dX10_putNumber_35 rfl (lv_at hl 0 rfl) ?_
                    refine lv_bipush (v := 10) hx hb dX10_putNumber_36 (by decide) ?_
                    refine lv_idiv hx hb dX10_putNumber_38 (by decide) ?_
                    refine lv_topi (fun yn386 eyn386 => ?_)
                    obtain rfl : yn386 = 1 := eyn386.trans (by first | rfl | decide +kernel)
                    refine lv_istore_n (lv' := [(2, .int 1), (0, .ref w0), (1, .int a)]) hx hb dX10_putNumber_39 rfl hl (by decide) rfl (fun ls hl => ?_)
                    refine lv_goto (tgt := 18) hx hb dX10_putNumber_40 (by decide) ?_
                    refine lv_iload_n hx hb dX10_putNumber_18 rfl (lv_at hl 0 rfl) ?_
                    refine lv_if_le (tgt := 43) hx hb dX10_putNumber_19 (by decide) (fun c9 => absurd c9 (by decide)) (fun c387 => ?_)
                    refine lv_aload_n hx hb dX10_putNumber_22 rfl (lv_at hl 1 rfl) ?_
                    refine lv_bipush (v := 48) hx hb dX10_putNumber_23 (by decide) ?_
                    refine lv_iload_n hx hb dX10_putNumber_25 rfl (lv_at hl 2 rfl) ?_
                    refine lv_iload_n hx hb dX10_putNumber_26 rfl (lv_at hl 0 rfl) ?_
                    refine lv_idiv hx hb dX10_putNumber_27 (by decide) ?_
                    refine lv_topi (fun yn388 eyn388 => ?_)
                    refine lv_bipush (v := 10) hx hb dX10_putNumber_28 (by decide) ?_
                    refine lv_irem hx hb dX10_putNumber_30 (by decide) ?_
                    refine lv_topi (fun yn389 eyn389 => ?_)
                    refine lv_iadd hx hb dX10_putNumber_31 ?_
                    refine lv_topi (fun yn390 eyn390 => ?_)
                    obtain ⟨hPc, hDc, hFc⟩ := PDq.cut (wc := [(oX10 w0 v0 v1 v2 v3 v4 g5 g6 (nI ed) g8 v9 (nI nb) g11 g12 v13 g14 g15 g16 g17 g18 g19 g20 g21 g22 g23 g24 g25 g26 v27 v28 v29 v30 v31 v32 v33 v34 v35 v36 v37 (nI qn383)), (v37, .inl (cA 0, 100, .inl fn384))]) hP hD hS hA [0, 1] (by decide) rfl
                    refine va_callv (va_runV (As := [.int yn390]) (rest := []) ⟨hx, hb, hml, hown, hts⟩ (r_put l D cA sa w0 ed nb qn383 v0 v1 v2 v3 v4 v9 v13 v27 v28 v29 v30 v31 v32 v33 v34 v35 v36 v37 g8 g11 g12 g14 g15 g16 g17 g18 g19 g20 g21 g22 g23 g24 g26 g5 g6 g25 fn384 yn390 H.size (by omega)) (cwV 1 hts gX10_putNumber_X10_put rfl rfl rfl (by decide +kernel) ⟨(Nat.le_of_ble_eq_true rfl), (Nat.le_of_ble_eq_true rfl)⟩) ⟨Wd.blind, va_recv hK hPc (ci := 11) (q0 := 0) rfl rfl, fun U hU hW => ⟨rfl, Wd.call hPc hDc hK hC hZ hS hFc U hU hW⟩⟩ rfl rfl hl.1 rfl (lv_room (Nat.le_of_ble_eq_true rfl)) dX10_putNumber_32 ⟨(Nat.le_of_ble_eq_true rfl), (Nat.le_of_ble_eq_true rfl)⟩) hS (fun q _ h => hFc q h) hFc (fun u t H1 locs ht hvm hw hB hz1 hk1 hS => ?_)
                    obtain ⟨qn391, fn392, hn393, hP1, hD1⟩ := hB
                    rw [ht] at hP1
                    obtain ⟨hP, hD⟩ := PDq.join (w := [(oX10 w0 v0 v1 v2 v3 v4 g5 g6 (nI ed) g8 v9 (nI nb) g11 g12 v13 g14 g15 g16 g17 g18 g19 g20 g21 g22 g23 g24 g25 g26 v27 v28 v29 v30 v31 v32 v33 v34 v35 v36 v37 (nI qn391)), (v37, .inl (cA 0, 100, .inl fn392))]) 0 hP hD [0, 1] [] rfl rfl (by decide) (by decide) hk1 hFc hP1 hD1 rfl
                    generalize H1 = H at hP hS ⊢
                    refine lv_iload_n hx hb dX10_putNumber_35 rfl (lv_at hl 0 rfl) ?_
                    refine lv_bipush (v := 10) hx hb dX10_putNumber_36 (by decide) ?_
                    refine lv_idiv hx hb dX10_putNumber_38 (by decide) ?_
                    refine lv_topi (fun yn394 eyn394 => ?_)
                    obtain rfl : yn394 = 0 := eyn394.trans (by first | rfl | decide +kernel)
                    refine lv_istore_n (lv' := [(2, .int 0), (0, .ref w0), (1, .int a)]) hx hb dX10_putNumber_39 rfl hl (by decide) rfl (fun ls hl => ?_)
                    refine lv_goto (tgt := 18) hx hb dX10_putNumber_40 (by decide) ?_
                    refine lv_iload_n hx hb dX10_putNumber_18 rfl (lv_at hl 0 rfl) ?_
                    refine lv_if_le (tgt := 43) hx hb dX10_putNumber_19 (by decide) (fun c395 => ?_) (fun c9 => absurd c9 (by decide))
                    obtain ⟨hP9, hD9⟩ := PDq.sub (ws' := [(oX10 w0 v0 v1 v2 v3 v4 g5 g6 (nI ed) g8 v9 (nI nb) g11 g12 v13 g14 g15 g16 g17 g18 g19 g20 g21 g22 g23 g24 g25 g26 v27 v28 v29 v30 v31 v32 v33 v34 v35 v36 v37 (nI qn391)), (v37, .inl (cA 0, 100, .inl fn392))]) hP hD [0, 1] (by decide) rfl
                    refine W.widen (k := 0) (n := 0) (Nat.le_of_ble_eq_true rfl) (Nat.le_of_ble_eq_true rfl) ?_
                    exact (W.vret hx hb hr (fun t ht hW => ⟨⟨(), rfl, trivial, qn391, fn392, (by omega), by rw [ht]; exact hP9, hD9⟩, hS.F ht⟩) hS.2.2 dX10_putNumber_43)
                  · skip
                    refine lv_bipush (v := 10) hx hb dX10_putNumber_10 (by decide) ?_
                    refine lv_iload_n hx hb dX10_putNumber_12 rfl (lv_at hl 0 rfl) ?_
                    refine lv_imul hx hb dX10_putNumber_13 ?_
                    refine lv_topi (fun yn396 eyn396 => ?_)
                    obtain rfl : yn396 = 1000000000 := eyn396.trans (by first | rfl | decide +kernel)
                    refine lv_istore_n (lv' := [(2, .int 1000000000), (0, .ref w0), (1, .int a)]) hx hb dX10_putNumber_14 rfl hl (by decide) rfl (fun ls hl => ?_)
                    refine lv_goto (tgt := 2) hx hb dX10_putNumber_15 (by decide) ?_
                    refine lv_iload_n hx hb dX10_putNumber_2 rfl (lv_at hl 2 rfl) ?_
                    refine lv_iload_n hx hb dX10_putNumber_3 rfl (lv_at hl 0 rfl) ?_
                    refine lv_idiv hx hb dX10_putNumber_4 (by decide) ?_
                    refine lv_topi (fun yn397 eyn397 => ?_)
                    refine lv_bipush (v := 9) hx hb dX10_putNumber_5 (by decide) ?_
                    refine lv_icmp_le (tgt := 18) hx hb dX10_putNumber_7 (by decide) (fun c398 => ?_) (fun c9 => absurd c9 (fun h9 => h9 (by rw [eyn397]; exact dv9 _)))
                    refine lv_iload_n hx hb dX10_putNumber_18 rfl (lv_at hl 0 rfl) ?_
                    refine lv_if_le (tgt := 43) hx hb dX10_putNumber_19 (by decide) (fun c9 => absurd c9 (by decide)) (fun c399 => ?_)
                    refine lv_aload_n hx hb dX10_putNumber_22 rfl (lv_at hl 1 rfl) ?_
                    refine lv_bipush (v := 48) hx hb dX10_putNumber_23 (by decide) ?_
                    refine lv_iload_n hx hb dX10_putNumber_25 rfl (lv_at hl 2 rfl) ?_
                    refine lv_iload_n hx hb dX10_putNumber_26 rfl (lv_at hl 0 rfl) ?_
                    refine lv_idiv hx hb dX10_putNumber_27 (by decide) ?_
                    refine lv_topi (fun yn400 eyn400 => ?_)
                    refine lv_bipush (v := 10) hx hb dX10_putNumber_28 (by decide) ?_
                    refine lv_irem hx hb dX10_putNumber_30 (by decide) ?_
                    refine lv_topi (fun yn401 eyn401 => ?_)
                    refine lv_iadd hx hb dX10_putNumber_31 ?_
                    refine lv_topi (fun yn402 eyn402 => ?_)
                    obtain ⟨hPc, hDc, hFc⟩ := PDq.cut (wc := [(oX10 w0 v0 v1 v2 v3 v4 g5 g6 (nI ed) g8 v9 (nI nb) g11 g12 v13 g14 g15 g16 g17 g18 g19 g20 g21 g22 g23 g24 g25 g26 v27 v28 v29 v30 v31 v32 v33 v34 v35 v36 v37 (nI ol)), (v37, .inl (cA 0, 100, .inl fo9))]) hP hD hS hA [0, 1] (by decide) rfl
                    refine va_callv (va_runV (As := [.int yn402]) (rest := []) ⟨hx, hb, hml, hown, hts⟩ (r_put l D cA sa w0 ed nb ol v0 v1 v2 v3 v4 v9 v13 v27 v28 v29 v30 v31 v32 v33 v34 v35 v36 v37 g8 g11 g12 g14 g15 g16 g17 g18 g19 g20 g21 g22 g23 g24 g26 g5 g6 g25 fo9 yn402 s.heap.size (by omega)) (cwV 1 hts gX10_putNumber_X10_put rfl rfl rfl (by decide +kernel) ⟨(Nat.le_of_ble_eq_true rfl), (Nat.le_of_ble_eq_true rfl)⟩) ⟨Wd.blind, va_recv hK hPc (ci := 11) (q0 := 0) rfl rfl, fun U hU hW => ⟨rfl, Wd.call hPc hDc hK hC hZ hS hFc U hU hW⟩⟩ rfl rfl hl.1 rfl (lv_room (Nat.le_of_ble_eq_true rfl)) dX10_putNumber_32 ⟨(Nat.le_of_ble_eq_true rfl), (Nat.le_of_ble_eq_true rfl)⟩) hS (fun q _ h => hFc q h) hFc (fun u t H1 locs ht hvm hw hB hz1 hk1 hS => ?_)
                    obtain ⟨qn403, fn404, hn405, hP1, hD1⟩ := hB
                    rw [ht] at hP1
                    obtain ⟨hP, hD⟩ := PDq.join (w := [(oX10 w0 v0 v1 v2 v3 v4 g5 g6 (nI ed) g8 v9 (nI nb) g11 g12 v13 g14 g15 g16 g17 g18 g19 g20 g21 g22 g23 g24 g25 g26 v27 v28 v29 v30 v31 v32 v33 v34 v35 v36 v37 (nI qn403)), (v37, .inl (cA 0, 100, .inl fn404))]) 0 hP hD [0, 1] [] rfl rfl (by decide) (by decide) hk1 hFc hP1 hD1 rfl
                    generalize H1 = H at hP hS ⊢
                    refine lv_iload_n hx hb dX10_putNumber_35 rfl (lv_at hl 0 rfl) ?_
                    refine lv_bipush (v := 10) hx hb dX10_putNumber_36 (by decide) ?_
                    refine lv_idiv hx hb dX10_putNumber_38 (by decide) ?_
                    refine lv_topi (fun yn406 eyn406 => ?_)
                    obtain rfl : yn406 = 100000000 := eyn406.trans (by first | rfl | decide +kernel)
                    refine lv_istore_n (lv' := [(2, .int 100000000), (0, .ref w0), (1, .int a)]) hx hb dX10_putNumber_39 rfl hl (by decide) rfl (fun ls hl => ?_)
                    refine lv_goto (tgt := 18) hx hb dX10_putNumber_40 (by decide) ?_
                    refine lv_iload_n hx hb dX10_putNumber_18 rfl (lv_at hl 0 rfl) ?_
                    refine lv_if_le (tgt := 43) hx hb dX10_putNumber_19 (by decide) (fun c9 => absurd c9 (by decide)) (fun c407 => ?_)
                    refine lv_aload_n hx hb dX10_putNumber_22 rfl (lv_at hl 1 rfl) ?_
                    refine lv_bipush (v := 48) hx hb dX10_putNumber_23 (by decide) ?_
                    refine lv_iload_n hx hb dX10_putNumber_25 rfl (lv_at hl 2 rfl) ?_
                    refine lv_iload_n hx hb dX10_putNumber_26 rfl (lv_at hl 0 rfl) ?_
                    refine lv_idiv hx hb dX10_putNumber_27 (by decide) ?_
                    refine lv_topi (fun yn408 eyn408 => ?_)
                    refine lv_bipush (v := 10) hx hb dX10_putNumber_28 (by decide) ?_
                    refine lv_irem hx hb dX10_putNumber_30 (by decide) ?_
                    refine lv_topi (fun yn409 eyn409 => ?_)
                    refine lv_iadd hx hb dX10_putNumber_31 ?_
                    refine lv_topi (fun yn410 eyn410 => ?_)
                    obtain ⟨hPc, hDc, hFc⟩ := PDq.cut (wc := [(oX10 w0 v0 v1 v2 v3 v4 g5 g6 (nI ed) g8 v9 (nI nb) g11 g12 v13 g14 g15 g16 g17 g18 g19 g20 g21 g22 g23 g24 g25 g26 v27 v28 v29 v30 v31 v32 v33 v34 v35 v36 v37 (nI qn403)), (v37, .inl (cA 0, 100, .inl fn404))]) hP hD hS hA [0, 1] (by decide) rfl
                    refine va_callv (va_runV (As := [.int yn410]) (rest := []) ⟨hx, hb, hml, hown, hts⟩ (r_put l D cA sa w0 ed nb qn403 v0 v1 v2 v3 v4 v9 v13 v27 v28 v29 v30 v31 v32 v33 v34 v35 v36 v37 g8 g11 g12 g14 g15 g16 g17 g18 g19 g20 g21 g22 g23 g24 g26 g5 g6 g25 fn404 yn410 H.size (by omega)) (cwV 1 hts gX10_putNumber_X10_put rfl rfl rfl (by decide +kernel) ⟨(Nat.le_of_ble_eq_true rfl), (Nat.le_of_ble_eq_true rfl)⟩) ⟨Wd.blind, va_recv hK hPc (ci := 11) (q0 := 0) rfl rfl, fun U hU hW => ⟨rfl, Wd.call hPc hDc hK hC hZ hS hFc U hU hW⟩⟩ rfl rfl hl.1 rfl (lv_room (Nat.le_of_ble_eq_true rfl)) dX10_putNumber_32 ⟨(Nat.le_of_ble_eq_true rfl), (Nat.le_of_ble_eq_true rfl)⟩) hS (fun q _ h => hFc q h) hFc (fun u t H1 locs ht hvm hw hB hz1 hk1 hS => ?_)
                    obtain ⟨qn411, fn412, hn413, hP1, hD1⟩ := hB
                    rw [ht] at hP1
                    obtain ⟨hP, hD⟩ := PDq.join (w := [(oX10 w0 v0 v1 v2 v3 v4 g5 g6 (nI ed) g8 v9 (nI nb) g11 g12 v13 g14 g15 g16 g17 g18 g19 g20 g21 g22 g23 g24 g25 g26 v27 v28 v29 v30 v31 v32 v33 v34 v35 v36 v37 (nI qn411)), (v37, .inl (cA 0, 100, .inl fn412))]) 0 hP hD [0, 1] [] rfl rfl (by decide) (by decide) hk1 hFc hP1 hD1 rfl
                    generalize H1 = H at hP hS ⊢
                    refine lv_iload_n hx hb dX10_putNumber_35 rfl (lv_at hl 0 rfl) ?_
                    refine lv_bipush (v := 10) hx hb dX10_putNumber_36 (by decide) ?_
                    refine lv_idiv hx hb dX10_putNumber_38 (by decide) ?_
                    refine lv_topi (fun yn414 eyn414 => ?_)
                    obtain rfl : yn414 = 10000000 := eyn414.trans (by first | rfl | decide +kernel)
                    refine lv_istore_n (lv' := [(2, .int 10000000), (0, .ref w0), (1, .int a)]) hx hb dX10_putNumber_39 rfl hl (by decide) rfl (fun ls hl => ?_)
                    refine lv_goto (tgt := 18) hx hb dX10_putNumber_40 (by decide) ?_
                    refine lv_iload_n hx hb dX10_putNumber_18 rfl (lv_at hl 0 rfl) ?_
                    refine lv_if_le (tgt := 43) hx hb dX10_putNumber_19 (by decide) (fun c9 => absurd c9 (by decide)) (fun c415 => ?_)
                    refine lv_aload_n hx hb dX10_putNumber_22 rfl (lv_at hl 1 rfl) ?_
                    refine lv_bipush (v := 48) hx hb dX10_putNumber_23 (by decide) ?_
                    refine lv_iload_n hx hb dX10_putNumber_25 rfl (lv_at hl 2 rfl) ?_
                    refine lv_iload_n hx hb dX10_putNumber_26 rfl (lv_at hl 0 rfl) ?_
                    refine lv_idiv hx hb dX10_putNumber_27 (by decide) ?_
                    refine lv_topi (fun yn416 eyn416 => ?_)
                    refine lv_bipush (v := 10) hx hb dX10_putNumber_28 (by decide) ?_
                    refine lv_irem hx hb dX10_putNumber_30 (by decide) ?_
                    refine lv_topi (fun yn417 eyn417 => ?_)
                    refine lv_iadd hx hb dX10_putNumber_31 ?_
                    refine lv_topi (fun yn418 eyn418 => ?_)
                    obtain ⟨hPc, hDc, hFc⟩ := PDq.cut (wc := [(oX10 w0 v0 v1 v2 v3 v4 g5 g6 (nI ed) g8 v9 (nI nb) g11 g12 v13 g14 g15 g16 g17 g18 g19 g20 g21 g22 g23 g24 g25 g26 v27 v28 v29 v30 v31 v32 v33 v34 v35 v36 v37 (nI qn411)), (v37, .inl (cA 0, 100, .inl fn412))]) hP hD hS hA [0, 1] (by decide) rfl
                    refine va_callv (va_runV (As := [.int yn418]) (rest := []) ⟨hx, hb, hml, hown, hts⟩ (r_put l D cA sa w0 ed nb qn411 v0 v1 v2 v3 v4 v9 v13 v27 v28 v29 v30 v31 v32 v33 v34 v35 v36 v37 g8 g11 g12 g14 g15 g16 g17 g18 g19 g20 g21 g22 g23 g24 g26 g5 g6 g25 fn412 yn418 H.size (by omega)) (cwV 1 hts gX10_putNumber_X10_put rfl rfl rfl (by decide +kernel) ⟨(Nat.le_of_ble_eq_true rfl), (Nat.le_of_ble_eq_true rfl)⟩) ⟨Wd.blind, va_recv hK hPc (ci := 11) (q0 := 0) rfl rfl, fun U hU hW => ⟨rfl, Wd.call hPc hDc hK hC hZ hS hFc U hU hW⟩⟩ rfl rfl hl.1 rfl (lv_room (Nat.le_of_ble_eq_true rfl)) dX10_putNumber_32 ⟨(Nat.le_of_ble_eq_true rfl), (Nat.le_of_ble_eq_true rfl)⟩) hS (fun q _ h => hFc q h) hFc (fun u t H1 locs ht hvm hw hB hz1 hk1 hS => ?_)
                    obtain ⟨qn419, fn420, hn421, hP1, hD1⟩ := hB
                    rw [ht] at hP1
                    obtain ⟨hP, hD⟩ := PDq.join (w := [(oX10 w0 v0 v1 v2 v3 v4 g5 g6 (nI ed) g8 v9 (nI nb) g11 g12 v13 g14 g15 g16 g17 g18 g19 g20 g21 g22 g23 g24 g25 g26 v27 v28 v29 v30 v31 v32 v33 v34 v35 v36 v37 (nI qn419)), (v37, .inl (cA 0, 100, .inl fn420))]) 0 hP hD [0, 1] [] rfl rfl (by decide) (by decide) hk1 hFc hP1 hD1 rfl
                    generalize H1 = H at hP hS ⊢
                    refine lv_iload_n hx hb dX10_putNumber_35 rfl (lv_at hl 0 rfl) ?_
                    refine lv_bipush (v := 10) hx hb dX10_putNumber_36 (by decide) ?_
                    refine lv_idiv hx hb dX10_putNumber_38 (by decide) ?_
                    refine lv_topi (fun yn422 eyn422 => ?_)
                    obtain rfl : yn422 = 1000000 := eyn422.trans (by first | rfl | decide +kernel)
                    refine lv_istore_n (lv' := [(2, .int 1000000), (0, .ref w0), (1, .int a)]) hx hb dX10_putNumber_39 rfl hl (by decide) rfl (fun ls hl => ?_)
                    refine lv_goto (tgt := 18) hx hb dX10_putNumber_40 (by decide) ?_
                    refine lv_iload_n hx hb dX10_putNumber_18 rfl (lv_at hl 0 rfl) ?_
                    refine lv_if_le (tgt := 43) hx hb dX10_putNumber_19 (by decide) (fun c9 => absurd c9 (by decide)) (fun c423 => ?_)
                    refine lv_aload_n hx hb dX10_putNumber_22 rfl (lv_at hl 1 rfl) ?_
                    refine lv_bipush (v := 48) hx hb dX10_putNumber_23 (by decide) ?_
                    refine lv_iload_n hx hb dX10_putNumber_25 rfl (lv_at hl 2 rfl) ?_
                    refine lv_iload_n hx hb dX10_putNumber_26 rfl (lv_at hl 0 rfl) ?_
                    refine lv_idiv hx hb dX10_putNumber_27 (by decide) ?_
                    refine lv_topi (fun yn424 eyn424 => ?_)
                    refine lv_bipush (v := 10) hx hb dX10_putNumber_28 (by decide) ?_
                    refine lv_irem hx hb dX10_putNumber_30 (by decide) ?_
                    refine lv_topi (fun yn425 eyn425 => ?_)
                    refine lv_iadd hx hb dX10_putNumber_31 ?_
                    refine lv_topi (fun yn426 eyn426 => ?_)
                    obtain ⟨hPc, hDc, hFc⟩ := PDq.cut (wc := [(oX10 w0 v0 v1 v2 v3 v4 g5 g6 (nI ed) g8 v9 (nI nb) g11 g12 v13 g14 g15 g16 g17 g18 g19 g20 g21 g22 g23 g24 g25 g26 v27 v28 v29 v30 v31 v32 v33 v34 v35 v36 v37 (nI qn419)), (v37, .inl (cA 0, 100, .inl fn420))]) hP hD hS hA [0, 1] (by decide) rfl
                    refine va_callv (va_runV (As := [.int yn426]) (rest := []) ⟨hx, hb, hml, hown, hts⟩ (r_put l D cA sa w0 ed nb qn419 v0 v1 v2 v3 v4 v9 v13 v27 v28 v29 v30 v31 v32 v33 v34 v35 v36 v37 g8 g11 g12 g14 g15 g16 g17 g18 g19 g20 g21 g22 g23 g24 g26 g5 g6 g25 fn420 yn426 H.size (by omega)) (cwV 1 hts gX10_putNumber_X10_put rfl rfl rfl (by decide +kernel) ⟨(Nat.le_of_ble_eq_true rfl), (Nat.le_of_ble_eq_true rfl)⟩) ⟨Wd.blind, va_recv hK hPc (ci := 11) (q0 := 0) rfl rfl, fun U hU hW => ⟨rfl, Wd.call hPc hDc hK hC hZ hS hFc U hU hW⟩⟩ rfl rfl hl.1 rfl (lv_room (Nat.le_of_ble_eq_true rfl)) dX10_putNumber_32 ⟨(Nat.le_of_ble_eq_true rfl), (Nat.le_of_ble_eq_true rfl)⟩) hS (fun q _ h => hFc q h) hFc (fun u t H1 locs ht hvm hw hB hz1 hk1 hS => ?_)
                    obtain ⟨qn427, fn428, hn429, hP1, hD1⟩ := hB
                    rw [ht] at hP1
                    obtain ⟨hP, hD⟩ := PDq.join (w := [(oX10 w0 v0 v1 v2 v3 v4 g5 g6 (nI ed) g8 v9 (nI nb) g11 g12 v13 g14 g15 g16 g17 g18 g19 g20 g21 g22 g23 g24 g25 g26 v27 v28 v29 v30 v31 v32 v33 v34 v35 v36 v37 (nI qn427)), (v37, .inl (cA 0, 100, .inl fn428))]) 0 hP hD [0, 1] [] rfl rfl (by decide) (by decide) hk1 hFc hP1 hD1 rfl
                    generalize H1 = H at hP hS ⊢
                    refine lv_iload_n hx hb dX10_putNumber_35 rfl (lv_at hl 0 rfl) ?_
                    refine lv_bipush (v := 10) hx hb dX10_putNumber_36 (by decide) ?_
                    refine lv_idiv hx hb dX10_putNumber_38 (by decide) ?_
                    refine lv_topi (fun yn430 eyn430 => ?_)
                    obtain rfl : yn430 = 100000 := eyn430.trans (by first | rfl | decide +kernel)
                    refine lv_istore_n (lv' := [(2, .int 100000), (0, .ref w0), (1, .int a)]) hx hb dX10_putNumber_39 rfl hl (by decide) rfl (fun ls hl => ?_)
                    refine lv_goto (tgt := 18) hx hb dX10_putNumber_40 (by decide) ?_
                    refine lv_iload_n hx hb dX10_putNumber_18 rfl (lv_at hl 0 rfl) ?_
                    refine lv_if_le (tgt := 43) hx hb dX10_putNumber_19 (by decide) (fun c9 => absurd c9 (by decide)) (fun c431 => ?_)
                    refine lv_aload_n hx hb dX10_putNumber_22 rfl (lv_at hl 1 rfl) ?_
                    refine lv_bipush (v := 48) hx hb dX10_putNumber_23 (by decide) ?_
                    refine lv_iload_n hx hb dX10_putNumber_25 rfl (lv_at hl 2 rfl) ?_
                    refine lv_iload_n hx hb dX10_putNumber_26 rfl (lv_at hl 0 rfl) ?_
                    refine lv_idiv hx hb dX10_putNumber_27 (by decide) ?_
                    refine lv_topi (fun yn432 eyn432 => ?_)
                    refine lv_bipush (v := 10) hx hb dX10_putNumber_28 (by decide) ?_
                    refine lv_irem hx hb dX10_putNumber_30 (by decide) ?_
                    refine lv_topi (fun yn433 eyn433 => ?_)
                    refine lv_iadd hx hb dX10_putNumber_31 ?_
                    refine lv_topi (fun yn434 eyn434 => ?_)
                    obtain ⟨hPc, hDc, hFc⟩ := PDq.cut (wc := [(oX10 w0 v0 v1 v2 v3 v4 g5 g6 (nI ed) g8 v9 (nI nb) g11 g12 v13 g14 g15 g16 g17 g18 g19 g20 g21 g22 g23 g24 g25 g26 v27 v28 v29 v30 v31 v32 v33 v34 v35 v36 v37 (nI qn427)), (v37, .inl (cA 0, 100, .inl fn428))]) hP hD hS hA [0, 1] (by decide) rfl
                    refine va_callv (va_runV (As := [.int yn434]) (rest := []) ⟨hx, hb, hml, hown, hts⟩ (r_put l D cA sa w0 ed nb qn427 v0 v1 v2 v3 v4 v9 v13 v27 v28 v29 v30 v31 v32 v33 v34 v35 v36 v37 g8 g11 g12 g14 g15 g16 g17 g18 g19 g20 g21 g22 g23 g24 g26 g5 g6 g25 fn428 yn434 H.size (by omega)) (cwV 1 hts gX10_putNumber_X10_put rfl rfl rfl (by decide +kernel) ⟨(Nat.le_of_ble_eq_true rfl), (Nat.le_of_ble_eq_true rfl)⟩) ⟨Wd.blind, va_recv hK hPc (ci := 11) (q0 := 0) rfl rfl, fun U hU hW => ⟨rfl, Wd.call hPc hDc hK hC hZ hS hFc U hU hW⟩⟩ rfl rfl hl.1 rfl (lv_room (Nat.le_of_ble_eq_true rfl)) dX10_putNumber_32 ⟨(Nat.le_of_ble_eq_true rfl), (Nat.le_of_ble_eq_true rfl)⟩) hS (fun q _ h => hFc q h) hFc (fun u t H1 locs ht hvm hw hB hz1 hk1 hS => ?_)
                    obtain ⟨qn435, fn436, hn437, hP1, hD1⟩ := hB
                    rw [ht] at hP1
                    obtain ⟨hP, hD⟩ := PDq.join (w := [(oX10 w0 v0 v1 v2 v3 v4 g5 g6 (nI ed) g8 v9 (nI nb) g11 g12 v13 g14 g15 g16 g17 g18 g19 g20 g21 g22 g23 g24 g25 g26 v27 v28 v29 v30 v31 v32 v33 v34 v35 v36 v37 (nI qn435)), (v37, .inl (cA 0, 100, .inl fn436))]) 0 hP hD [0, 1] [] rfl rfl (by decide) (by decide) hk1 hFc hP1 hD1 rfl
                    generalize H1 = H at hP hS ⊢
                    refine lv_iload_n hx hb dX10_putNumber_35 rfl (lv_at hl 0 rfl) ?_
                    refine lv_bipush (v := 10) hx hb dX10_putNumber_36 (by decide) ?_
                    refine lv_idiv hx hb dX10_putNumber_38 (by decide) ?_
                    refine lv_topi (fun yn438 eyn438 => ?_)
                    obtain rfl : yn438 = 10000 := eyn438.trans (by first | rfl | decide +kernel)
                    refine lv_istore_n (lv' := [(2, .int 10000), (0, .ref w0), (1, .int a)]) hx hb dX10_putNumber_39 rfl hl (by decide) rfl (fun ls hl => ?_)
                    refine lv_goto (tgt := 18) hx hb dX10_putNumber_40 (by decide) ?_
                    refine lv_iload_n hx hb dX10_putNumber_18 rfl (lv_at hl 0 rfl) ?_
                    refine lv_if_le (tgt := 43) hx hb dX10_putNumber_19 (by decide) (fun c9 => absurd c9 (by decide)) (fun c439 => ?_)
                    refine lv_aload_n hx hb dX10_putNumber_22 rfl (lv_at hl 1 rfl) ?_
                    refine lv_bipush (v := 48) hx hb dX10_putNumber_23 (by decide) ?_
                    refine lv_iload_n hx hb dX10_putNumber_25 rfl (lv_at hl 2 rfl) ?_
                    refine lv_iload_n hx hb dX10_putNumber_26 rfl (lv_at hl 0 rfl) ?_
                    refine lv_idiv hx hb dX10_putNumber_27 (by decide) ?_
                    refine lv_topi (fun yn440 eyn440 => ?_)
                    refine lv_bipush (v := 10) hx hb dX10_putNumber_28 (by decide) ?_
                    refine lv_irem hx hb dX10_putNumber_30 (by decide) ?_
                    refine lv_topi (fun yn441 eyn441 => ?_)
                    refine lv_iadd hx hb dX10_putNumber_31 ?_
                    refine lv_topi (fun yn442 eyn442 => ?_)
                    obtain ⟨hPc, hDc, hFc⟩ := PDq.cut (wc := [(oX10 w0 v0 v1 v2 v3 v4 g5 g6 (nI ed) g8 v9 (nI nb) g11 g12 v13 g14 g15 g16 g17 g18 g19 g20 g21 g22 g23 g24 g25 g26 v27 v28 v29 v30 v31 v32 v33 v34 v35 v36 v37 (nI qn435)), (v37, .inl (cA 0, 100, .inl fn436))]) hP hD hS hA [0, 1] (by decide) rfl
                    refine va_callv (va_runV (As := [.int yn442]) (rest := []) ⟨hx, hb, hml, hown, hts⟩ (r_put l D cA sa w0 ed nb qn435 v0 v1 v2 v3 v4 v9 v13 v27 v28 v29 v30 v31 v32 v33 v34 v35 v36 v37 g8 g11 g12 g14 g15 g16 g17 g18 g19 g20 g21 g22 g23 g24 g26 g5 g6 g25 fn436 yn442 H.size (by omega)) (cwV 1 hts gX10_putNumber_X10_put rfl rfl rfl (by decide +kernel) ⟨(Nat.le_of_ble_eq_true rfl), (Nat.le_of_ble_eq_true rfl)⟩) ⟨Wd.blind, va_recv hK hPc (ci := 11) (q0 := 0) rfl rfl, fun U hU hW => ⟨rfl, Wd.call hPc hDc hK hC hZ hS hFc U hU hW⟩⟩ rfl rfl hl.1 rfl (lv_room (Nat.le_of_ble_eq_true rfl)) dX10_putNumber_32 ⟨(Nat.le_of_ble_eq_true rfl), (Nat.le_of_ble_eq_true rfl)⟩) hS (fun q _ h => hFc q h) hFc (fun u t H1 locs ht hvm hw hB hz1 hk1 hS => ?_)
                    obtain ⟨qn443, fn444, hn445, hP1, hD1⟩ := hB
                    rw [ht] at hP1
                    obtain ⟨hP, hD⟩ := PDq.join (w := [(oX10 w0 v0 v1 v2 v3 v4 g5 g6 (nI ed) g8 v9 (nI nb) g11 g12 v13 g14 g15 g16 g17 g18 g19 g20 g21 g22 g23 g24 g25 g26 v27 v28 v29 v30 v31 v32 v33 v34 v35 v36 v37 (nI qn443)), (v37, .inl (cA 0, 100, .inl fn444))]) 0 hP hD [0, 1] [] rfl rfl (by decide) (by decide) hk1 hFc hP1 hD1 rfl
                    generalize H1 = H at hP hS ⊢
                    refine lv_iload_n hx hb dX10_putNumber_35 rfl (lv_at hl 0 rfl) ?_
                    refine lv_bipush (v := 10) hx hb dX10_putNumber_36 (by decide) ?_
                    refine lv_idiv hx hb dX10_putNumber_38 (by decide) ?_
                    refine lv_topi (fun yn446 eyn446 => ?_)
                    obtain rfl : yn446 = 1000 := eyn446.trans (by first | rfl | decide +kernel)
                    refine lv_istore_n (lv' := [(2, .int 1000), (0, .ref w0), (1, .int a)]) hx hb dX10_putNumber_39 rfl hl (by decide) rfl (fun ls hl => ?_)
                    refine lv_goto (tgt := 18) hx hb dX10_putNumber_40 (by decide) ?_
                    refine lv_iload_n hx hb dX10_putNumber_18 rfl (lv_at hl 0 rfl) ?_
                    refine lv_if_le (tgt := 43) hx hb dX10_putNumber_19 (by decide) (fun c9 => absurd c9 (by decide)) (fun c447 => ?_)
                    refine lv_aload_n hx hb dX10_putNumber_22 rfl (lv_at hl 1 rfl) ?_
                    refine lv_bipush (v := 48) hx hb dX10_putNumber_23 (by decide) ?_
                    refine lv_iload_n hx hb dX10_putNumber_25 rfl (lv_at hl 2 rfl) ?_
                    refine lv_iload_n hx hb dX10_putNumber_26 rfl (lv_at hl 0 rfl) ?_
                    refine lv_idiv hx hb dX10_putNumber_27 (by decide) ?_
                    refine lv_topi (fun yn448 eyn448 => ?_)
                    refine lv_bipush (v := 10) hx hb dX10_putNumber_28 (by decide) ?_
                    refine lv_irem hx hb dX10_putNumber_30 (by decide) ?_
                    refine lv_topi (fun yn449 eyn449 => ?_)
                    refine lv_iadd hx hb dX10_putNumber_31 ?_
                    refine lv_topi (fun yn450 eyn450 => ?_)
                    obtain ⟨hPc, hDc, hFc⟩ := PDq.cut (wc := [(oX10 w0 v0 v1 v2 v3 v4 g5 g6 (nI ed) g8 v9 (nI nb) g11 g12 v13 g14 g15 g16 g17 g18 g19 g20 g21 g22 g23 g24 g25 g26 v27 v28 v29 v30 v31 v32 v33 v34 v35 v36 v37 (nI qn443)), (v37, .inl (cA 0, 100, .inl fn444))]) hP hD hS hA [0, 1] (by decide) rfl
                    refine va_callv (va_runV (As := [.int yn450]) (rest := []) ⟨hx, hb, hml, hown, hts⟩ (r_put l D cA sa w0 ed nb qn443 v0 v1 v2 v3 v4 v9 v13 v27 v28 v29 v30 v31 v32 v33 v34 v35 v36 v37 g8 g11 g12 g14 g15 g16 g17 g18 g19 g20 g21 g22 g23 g24 g26 g5 g6 g25 fn444 yn450 H.size (by omega)) (cwV 1 hts gX10_putNumber_X10_put rfl rfl rfl (by decide +kernel) ⟨(Nat.le_of_ble_eq_true rfl), (Nat.le_of_ble_eq_true rfl)⟩) ⟨Wd.blind, va_recv hK hPc (ci := 11) (q0 := 0) rfl rfl, fun U hU hW => ⟨rfl, Wd.call hPc hDc hK hC hZ hS hFc U hU hW⟩⟩ rfl rfl hl.1 rfl (lv_room (Nat.le_of_ble_eq_true rfl)) dX10_putNumber_32 ⟨(Nat.le_of_ble_eq_true rfl), (Nat.le_of_ble_eq_true rfl)⟩) hS (fun q _ h => hFc q h) hFc (fun u t H1 locs ht hvm hw hB hz1 hk1 hS => ?_)
                    obtain ⟨qn451, fn452, hn453, hP1, hD1⟩ := hB
                    rw [ht] at hP1
                    obtain ⟨hP, hD⟩ := PDq.join (w := [(oX10 w0 v0 v1 v2 v3 v4 g5 g6 (nI ed) g8 v9 (nI nb) g11 g12 v13 g14 g15 g16 g17 g18 g19 g20 g21 g22 g23 g24 g25 g26 v27 v28 v29 v30 v31 v32 v33 v34 v35 v36 v37 (nI qn451)), (v37, .inl (cA 0, 100, .inl fn452))]) 0 hP hD [0, 1] [] rfl rfl (by decide) (by decide) hk1 hFc hP1 hD1 rfl
                    generalize H1 = H at hP hS ⊢
                    refine lv_iload_n hx hb dX10_putNumber_35 rfl (lv_at hl 0 rfl) ?_
                    refine lv_bipush (v := 10) hx hb dX10_putNumber_36 (by decide) ?_
                    refine lv_idiv hx hb dX10_putNumber_38 (by decide) ?_
                    refine lv_topi (fun yn454 eyn454 => ?_)
                    obtain rfl : yn454 = 100 := eyn454.trans (by first | rfl | decide +kernel)
                    refine lv_istore_n (lv' := [(2, .int 100), (0, .ref w0), (1, .int a)]) hx hb dX10_putNumber_39 rfl hl (by decide) rfl (fun ls hl => ?_)
                    refine lv_goto (tgt := 18) hx hb dX10_putNumber_40 (by decide) ?_
                    refine lv_iload_n hx hb dX10_putNumber_18 rfl (lv_at hl 0 rfl) ?_
                    refine lv_if_le (tgt := 43) hx hb dX10_putNumber_19 (by decide) (fun c9 => absurd c9 (by decide)) (fun c455 => ?_)
                    refine lv_aload_n hx hb dX10_putNumber_22 rfl (lv_at hl 1 rfl) ?_
                    refine lv_bipush (v := 48) hx hb dX10_putNumber_23 (by decide) ?_
                    refine lv_iload_n hx hb dX10_putNumber_25 rfl (lv_at hl 2 rfl) ?_
                    refine lv_iload_n hx hb dX10_putNumber_26 rfl (lv_at hl 0 rfl) ?_
                    refine lv_idiv hx hb dX10_putNumber_27 (by decide) ?_
                    refine lv_topi (fun yn456 eyn456 => ?_)
                    refine lv_bipush (v := 10) hx hb dX10_putNumber_28 (by decide) ?_
                    refine lv_irem hx hb dX10_putNumber_30 (by decide) ?_
                    refine lv_topi (fun yn457 eyn457 => ?_)
                    refine lv_iadd hx hb dX10_putNumber_31 ?_
                    refine lv_topi (fun yn458 eyn458 => ?_)
                    obtain ⟨hPc, hDc, hFc⟩ := PDq.cut (wc := [(oX10 w0 v0 v1 v2 v3 v4 g5 g6 (nI ed) g8 v9 (nI nb) g11 g12 v13 g14 g15 g16 g17 g18 g19 g20 g21 g22 g23 g24 g25 g26 v27 v28 v29 v30 v31 v32 v33 v34 v35 v36 v37 (nI qn451)), (v37, .inl (cA 0, 100, .inl fn452))]) hP hD hS hA [0, 1] (by decide) rfl
                    refine va_callv (va_runV (As := [.int yn458]) (rest := []) ⟨hx, hb, hml, hown, hts⟩ (r_put l D cA sa w0 ed nb qn451 v0 v1 v2 v3 v4 v9 v13 v27 v28 v29 v30 v31 v32 v33 v34 v35 v36 v37 g8 g11 g12 g14 g15 g16 g17 g18 g19 g20 g21 g22 g23 g24 g26 g5 g6 g25 fn452 yn458 H.size (by omega)) (cwV 1 hts gX10_putNumber_X10_put rfl rfl rfl (by decide +kernel) ⟨(Nat.le_of_ble_eq_true rfl), (Nat.le_of_ble_eq_true rfl)⟩) ⟨Wd.blind, va_recv hK hPc (ci := 11) (q0 := 0) rfl rfl, fun U hU hW => ⟨rfl, Wd.call hPc hDc hK hC hZ hS hFc U hU hW⟩⟩ rfl rfl hl.1 rfl (lv_room (Nat.le_of_ble_eq_true rfl)) dX10_putNumber_32 ⟨(Nat.le_of_ble_eq_true rfl), (Nat.le_of_ble_eq_true rfl)⟩) hS (fun q _ h => hFc q h) hFc (fun u t H1 locs ht hvm hw hB hz1 hk1 hS => ?_)
                    obtain ⟨qn459, fn460, hn461, hP1, hD1⟩ := hB
                    rw [ht] at hP1
                    obtain ⟨hP, hD⟩ := PDq.join (w := [(oX10 w0 v0 v1 v2 v3 v4 g5 g6 (nI ed) g8 v9 (nI nb) g11 g12 v13 g14 g15 g16 g17 g18 g19 g20 g21 g22 g23 g24 g25 g26 v27 v28 v29 v30 v31 v32 v33 v34 v35 v36 v37 (nI qn459)), (v37, .inl (cA 0, 100, .inl fn460))]) 0 hP hD [0, 1] [] rfl rfl (by decide) (by decide) hk1 hFc hP1 hD1 rfl
                    generalize H1 = H at hP hS ⊢
                    refine lv_iload_n hx hb dX10_putNumber_35 rfl (lv_at hl 0 rfl) ?_
                    refine lv_bipush (v := 10) hx hb dX10_putNumber_36 (by decide) ?_
                    refine lv_idiv hx hb dX10_putNumber_38 (by decide) ?_
                    refine lv_topi (fun yn462 eyn462 => ?_)
                    obtain rfl : yn462 = 10 := eyn462.trans (by first | rfl | decide +kernel)
                    refine lv_istore_n (lv' := [(2, .int 10), (0, .ref w0), (1, .int a)]) hx hb dX10_putNumber_39 rfl hl (by decide) rfl (fun ls hl => ?_)
                    refine lv_goto (tgt := 18) hx hb dX10_putNumber_40 (by decide) ?_
                    refine lv_iload_n hx hb dX10_putNumber_18 rfl (lv_at hl 0 rfl) ?_
                    refine lv_if_le (tgt := 43) hx hb dX10_putNumber_19 (by decide) (fun c9 => absurd c9 (by decide)) (fun c463 => ?_)
                    refine lv_aload_n hx hb dX10_putNumber_22 rfl (lv_at hl 1 rfl) ?_
                    refine lv_bipush (v := 48) hx hb dX10_putNumber_23 (by decide) ?_
                    refine lv_iload_n hx hb dX10_putNumber_25 rfl (lv_at hl 2 rfl) ?_
                    refine lv_iload_n hx hb dX10_putNumber_26 rfl (lv_at hl 0 rfl) ?_
                    refine lv_idiv hx hb dX10_putNumber_27 (by decide) ?_
                    refine lv_topi (fun yn464 eyn464 => ?_)
                    refine lv_bipush (v := 10) hx hb dX10_putNumber_28 (by decide) ?_
                    refine lv_irem hx hb dX10_putNumber_30 (by decide) ?_
                    refine lv_topi (fun yn465 eyn465 => ?_)
                    refine lv_iadd hx hb dX10_putNumber_31 ?_
                    refine lv_topi (fun yn466 eyn466 => ?_)
                    obtain ⟨hPc, hDc, hFc⟩ := PDq.cut (wc := [(oX10 w0 v0 v1 v2 v3 v4 g5 g6 (nI ed) g8 v9 (nI nb) g11 g12 v13 g14 g15 g16 g17 g18 g19 g20 g21 g22 g23 g24 g25 g26 v27 v28 v29 v30 v31 v32 v33 v34 v35 v36 v37 (nI qn459)), (v37, .inl (cA 0, 100, .inl fn460))]) hP hD hS hA [0, 1] (by decide) rfl
                    refine va_callv (va_runV (As := [.int yn466]) (rest := []) ⟨hx, hb, hml, hown, hts⟩ (r_put l D cA sa w0 ed nb qn459 v0 v1 v2 v3 v4 v9 v13 v27 v28 v29 v30 v31 v32 v33 v34 v35 v36 v37 g8 g11 g12 g14 g15 g16 g17 g18 g19 g20 g21 g22 g23 g24 g26 g5 g6 g25 fn460 yn466 H.size (by omega)) (cwV 1 hts gX10_putNumber_X10_put rfl rfl rfl (by decide +kernel) ⟨(Nat.le_of_ble_eq_true rfl), (Nat.le_of_ble_eq_true rfl)⟩) ⟨Wd.blind, va_recv hK hPc (ci := 11) (q0 := 0) rfl rfl, fun U hU hW => ⟨rfl, Wd.call hPc hDc hK hC hZ hS hFc U hU hW⟩⟩ rfl rfl hl.1 rfl (lv_room (Nat.le_of_ble_eq_true rfl)) dX10_putNumber_32 ⟨(Nat.le_of_ble_eq_true rfl), (Nat.le_of_ble_eq_true rfl)⟩) hS (fun q _ h => hFc q h) hFc (fun u t H1 locs ht hvm hw hB hz1 hk1 hS => ?_)
                    obtain ⟨qn467, fn468, hn469, hP1, hD1⟩ := hB
                    rw [ht] at hP1
                    obtain ⟨hP, hD⟩ := PDq.join (w := [(oX10 w0 v0 v1 v2 v3 v4 g5 g6 (nI ed) g8 v9 (nI nb) g11 g12 v13 g14 g15 g16 g17 g18 g19 g20 g21 g22 g23 g24 g25 g26 v27 v28 v29 v30 v31 v32 v33 v34 v35 v36 v37 (nI qn467)), (v37, .inl (cA 0, 100, .inl fn468))]) 0 hP hD [0, 1] [] rfl rfl (by decide) (by decide) hk1 hFc hP1 hD1 rfl
                    generalize H1 = H at hP hS ⊢
                    refine lv_iload_n hx hb dX10_putNumber_35 rfl (lv_at hl 0 rfl) ?_
                    refine lv_bipush (v := 10) hx hb dX10_putNumber_36 (by decide) ?_
                    refine lv_idiv hx hb dX10_putNumber_38 (by decide) ?_
                    refine lv_topi (fun yn470 eyn470 => ?_)
                    obtain rfl : yn470 = 1 := eyn470.trans (by first | rfl | decide +kernel)
                    refine lv_istore_n (lv' := [(2, .int 1), (0, .ref w0), (1, .int a)]) hx hb dX10_putNumber_39 rfl hl (by decide) rfl (fun ls hl => ?_)
                    refine lv_goto (tgt := 18) hx hb dX10_putNumber_40 (by decide) ?_
                    refine lv_iload_n hx hb dX10_putNumber_18 rfl (lv_at hl 0 rfl) ?_
                    refine lv_if_le (tgt := 43) hx hb dX10_putNumber_19 (by decide) (fun c9 => absurd c9 (by decide)) (fun c471 => ?_)
                    refine lv_aload_n hx hb dX10_putNumber_22 rfl (lv_at hl 1 rfl) ?_
                    refine lv_bipush (v := 48) hx hb dX10_putNumber_23 (by decide) ?_
                    refine lv_iload_n hx hb dX10_putNumber_25 rfl (lv_at hl 2 rfl) ?_
                    refine lv_iload_n hx hb dX10_putNumber_26 rfl (lv_at hl 0 rfl) ?_
                    refine lv_idiv hx hb dX10_putNumber_27 (by decide) ?_
                    refine lv_topi (fun yn472 eyn472 => ?_)
                    refine lv_bipush (v := 10) hx hb dX10_putNumber_28 (by decide) ?_
                    refine lv_irem hx hb dX10_putNumber_30 (by decide) ?_
                    refine lv_topi (fun yn473 eyn473 => ?_)
                    refine lv_iadd hx hb dX10_putNumber_31 ?_
                    refine lv_topi (fun yn474 eyn474 => ?_)
                    obtain ⟨hPc, hDc, hFc⟩ := PDq.cut (wc := [(oX10 w0 v0 v1 v2 v3 v4 g5 g6 (nI ed) g8 v9 (nI nb) g11 g12 v13 g14 g15 g16 g17 g18 g19 g20 g21 g22 g23 g24 g25 g26 v27 v28 v29 v30 v31 v32 v33 v34 v35 v36 v37 (nI qn467)), (v37, .inl (cA 0, 100, .inl fn468))]) hP hD hS hA [0, 1] (by decide) rfl
                    refine va_callv (va_runV (As := [.int yn474]) (rest := []) ⟨hx, hb, hml, hown, hts⟩ (r_put l D cA sa w0 ed nb qn467 v0 v1 v2 v3 v4 v9 v13 v27 v28 v29 v30 v31 v32 v33 v34 v35 v36 v37 g8 g11 g12 g14 g15 g16 g17 g18 g19 g20 g21 g22 g23 g24 g26 g5 g6 g25 fn468 yn474 H.size (by omega)) (cwV 1 hts gX10_putNumber_X10_put rfl rfl rfl (by decide +kernel) ⟨(Nat.le_of_ble_eq_true rfl), (Nat.le_of_ble_eq_true rfl)⟩) ⟨Wd.blind, va_recv hK hPc (ci := 11) (q0 := 0) rfl rfl, fun U hU hW => ⟨rfl, Wd.call hPc hDc hK hC hZ hS hFc U hU hW⟩⟩ rfl rfl hl.1 rfl (lv_room (Nat.le_of_ble_eq_true rfl)) dX10_putNumber_32 ⟨(Nat.le_of_ble_eq_true rfl), (Nat.le_of_ble_eq_true rfl)⟩) hS (fun q _ h => hFc q h) hFc (fun u t H1 locs ht hvm hw hB hz1 hk1 hS => ?_)
                    obtain ⟨qn475, fn476, hn477, hP1, hD1⟩ := hB
                    rw [ht] at hP1
                    obtain ⟨hP, hD⟩ := PDq.join (w := [(oX10 w0 v0 v1 v2 v3 v4 g5 g6 (nI ed) g8 v9 (nI nb) g11 g12 v13 g14 g15 g16 g17 g18 g19 g20 g21 g22 g23 g24 g25 g26 v27 v28 v29 v30 v31 v32 v33 v34 v35 v36 v37 (nI qn475)), (v37, .inl (cA 0, 100, .inl fn476))]) 0 hP hD [0, 1] [] rfl rfl (by decide) (by decide) hk1 hFc hP1 hD1 rfl
                    generalize H1 = H at hP hS ⊢
                    refine lv_iload_n hx hb dX10_putNumber_35 rfl (lv_at hl 0 rfl) ?_
                    refine lv_bipush (v := 10) hx hb dX10_putNumber_36 (by decide) ?_
                    refine lv_idiv hx hb dX10_putNumber_38 (by decide) ?_
                    refine lv_topi (fun yn478 eyn478 => ?_)
                    obtain rfl : yn478 = 0 := eyn478.trans (by first | rfl | decide +kernel)
                    refine lv_istore_n (lv' := [(2, .int 0), (0, .ref w0), (1, .int a)]) hx hb dX10_putNumber_39 rfl hl (by decide) rfl (fun ls hl => ?_)
                    refine lv_goto (tgt := 18) hx hb dX10_putNumber_40 (by decide) ?_
                    refine lv_iload_n hx hb dX10_putNumber_18 rfl (lv_at hl 0 rfl) ?_
                    refine lv_if_le (tgt := 43) hx hb dX10_putNumber_19 (by decide) (fun c479 => ?_) (fun c9 => absurd c9 (by decide))
                    obtain ⟨hP9, hD9⟩ := PDq.sub (ws' := [(oX10 w0 v0 v1 v2 v3 v4 g5 g6 (nI ed) g8 v9 (nI nb) g11 g12 v13 g14 g15 g16 g17 g18 g19 g20 g21 g22 g23 g24 g25 g26 v27 v28 v29 v30 v31 v32 v33 v34 v35 v36 v37 (nI qn475)), (v37, .inl (cA 0, 100, .inl fn476))]) hP hD [0, 1] (by decide) rfl
                    refine W.widen (k := 0) (n := 0) (Nat.le_of_ble_eq_true rfl) (Nat.le_of_ble_eq_true rfl) ?_
                    exact (W.vret hx hb hr (fun t ht hW => ⟨⟨(), rfl, trivial, qn475, fn476, (by omega), by rw [ht]; exact hP9, hD9⟩, hS.F ht⟩) hS.2.2 dX10_putNumber_43)

set_option maxHeartbeats 4000000 in
set_option maxRecDepth 100000 in
/-- reference: putText -/
theorem r_putText (l : Launch) (D : va_G) (cA : Nat → ClassId) (sa : Nat → Nat) (w0 : Nat) (ed : Nat) (nb : Nat) (ol : Nat) (v0 : Nat) (v1 : Nat) (v2 : Nat) (v3 : Nat) (v4 : Nat) (v9 : Nat) (v13 : Nat) (v27 : Nat) (v28 : Nat) (v29 : Nat) (v30 : Nat) (v31 : Nat) (v32 : Nat) (v33 : Nat) (v34 : Nat) (v35 : Nat) (v36 : Nat) (v37 : Nat) (g8 : Int32) (g11 : Int32) (g12 : Int32) (g14 : Int32) (g15 : Int32) (g16 : Int32) (g17 : Int32) (g18 : Int32) (g19 : Int32) (g20 : Int32) (g21 : Int32) (g22 : Int32) (g23 : Int32) (g24 : Int32) (g26 : Int32) (g5 : Int64) (g6 : Int64) (g25 : Int64) (fo9 : Nat → Int32) (k : Nat) (bs : List Int32) (sz : Nat) (hq : (k, bs) ∈ sbL) (hol : ol + bs.length ≤ 100) : Met l yX10_putText wsX10_putText ({ frames := 4, cells := 0, slots := 0, locals := 85 }) (va_Pc [.ref w0, .ref (sa k)] (Wd D cA sa [(oX10 w0 v0 v1 v2 v3 v4 g5 g6 (nI ed) g8 v9 (nI nb) g11 g12 v13 g14 g15 g16 g17 g18 g19 g20 g21 g22 g23 g24 g25 g26 v27 v28 v29 v30 v31 v32 v33 v34 v35 v36 v37 (nI ol)), (v37, .inl (cA 0, 100, .inl fo9))] sz)) (va_Qv (fun _ : Unit => True) (fun (_ : Unit) t => ∃ ol2 : Nat, ∃ zo9 : Nat → Int32, ol2 = ol + bs.length ∧ Wq D (va_A [(oX10 w0 v0 v1 v2 v3 v4 g5 g6 (nI ed) g8 v9 (nI nb) g11 g12 v13 g14 g15 g16 g17 g18 g19 g20 g21 g22 g23 g24 g25 g26 v27 v28 v29 v30 v31 v32 v33 v34 v35 v36 v37 (nI ol)), (v37, .inl (cA 0, 100, .inl fo9))] sz) [(oX10 w0 v0 v1 v2 v3 v4 g5 g6 (nI ed) g8 v9 (nI nb) g11 g12 v13 g14 g15 g16 g17 g18 g19 g20 g21 g22 g23 g24 g25 g26 v27 v28 v29 v30 v31 v32 v33 v34 v35 v36 v37 (nI ol2)), (v37, .inl (cA 0, 100, .inl zo9))] t) (va_A [(oX10 w0 v0 v1 v2 v3 v4 g5 g6 (nI ed) g8 v9 (nI nb) g11 g12 v13 g14 g15 g16 g17 g18 g19 g20 g21 g22 g23 g24 g25 g26 v27 v28 v29 v30 v31 v32 v33 v34 v35 v36 v37 (nI ol)), (v37, .inl (cA 0, 100, .inl fo9))] sz)) 0 0 (va_A [(oX10 w0 v0 v1 v2 v3 v4 g5 g6 (nI ed) g8 v9 (nI nb) g11 g12 v13 g14 g15 g16 g17 g18 g19 g20 g21 g22 g23 g24 g25 g26 v27 v28 v29 v30 v31 v32 v33 v34 v35 v36 v37 (nI ol)), (v37, .inl (cA 0, 100, .inl fo9))] sz) := by
  refine Met.ofW (cc := cX10_putText) (maxL := 3) (ret := none) (by decide) rfl ?_
  intro p e s m args below meth c s₁ B hml hv
  obtain ⟨rfl, hsz, hP, hK, hD0, hC, hZ⟩ := hv
  have hx := B.exec
  have hb := B.bytes
  have hr := B.returns
  have hts := atoms_spec (ws := wsX10_putText) B.pre
  have hown : s.vm.findClass RX10 = some m.cls := findClass_of_methodNamed B.named
  have hlocks := B.notSynchronized
  subst hsz
  have hD := hD0.self (sz := s.heap.size)
  generalize hAe : va_A [(oX10 w0 v0 v1 v2 v3 v4 g5 g6 (nI ed) g8 v9 (nI nb) g11 g12 v13 g14 g15 g16 g17 g18 g19 g20 g21 g22 g23 g24 g25 g26 v27 v28 v29 v30 v31 v32 v33 v34 v35 v36 v37 (nI ol)), (v37, .inl (cA 0, 100, .inl fo9))] s.heap.size = A at hD hZ ⊢
  have hA : ∀ q : Nat, s.heap.size ≤ q → A q := fun q h => by rw [← hAe]; exact Or.inr h
  have hS : va_S A s.heap s.heap [] := va_S.rf
  have hP : va_P D vwCl [(oX10 w0 v0 v1 v2 v3 v4 g5 g6 (nI ed) g8 v9 (nI nb) g11 g12 v13 g14 g15 g16 g17 g18 g19 g20 g21 g22 g23 g24 g25 g26 v27 v28 v29 v30 v31 v32 v33 v34 v35 v36 v37 (nI ol)), (v37, .inl (cA 0, 100, .inl fo9))] s.heap := hP
  have hl := lv_entry ([.ref w0, .ref (sa k)]) (n := 3) (Nat.le_of_ble_eq_true rfl)
  rw [lg_entry_eq]
  generalize (lg_sl ([.ref w0, .ref (sa k)]) ++ List.replicate (3 - (lg_sl ([.ref w0, .ref (sa k)])).length) Slot.unset).toArray = ls at hl ⊢
  have hl : lv_has ls 3 [(0, .ref w0), (1, .ref (sa k))] := hl
  have hso := hZ.2.2.2.2 (k, bs) hq
  have hsC : va_OF "java/lang/String" "coder" "B" (.int 0) (sa k) A s s.heap := hso.2.1
  have hsV : va_OF "java/lang/String" "value" "[B" (.ref (sa (1000 + k))) (sa k) A s s.heap := hso.2.2.1
  have hsT : va_T .byte (sa (1000 + k)) bs.length (fun j => .int (bs.getD j 0)) A s s.heap := hso.2.2.2
  refine lv_iconst (v := 0) hx hb dX10_putText_0 (by decide) ?_
  refine lv_istore_n (lv' := [(2, .int 0), (0, .ref w0), (1, .ref (sa k))]) hx hb dX10_putText_1 rfl hl (by decide) rfl (fun ls hl => ?_)
  have loop1 : ∀ (n1 i1 : Nat) (oi : Nat) (f1_1 : Nat → Int32) (H : Heap) (locs : List Loc) (ls : Array Slot), i1 + n1 = bs.length → oi = ol + i1 → va_P D vwCl [(oX10 w0 v0 v1 v2 v3 v4 g5 g6 (nI ed) g8 v9 (nI nb) g11 g12 v13 g14 g15 g16 g17 g18 g19 g20 g21 g22 g23 g24 g25 g26 v27 v28 v29 v30 v31 v32 v33 v34 v35 v36 v37 (nI oi)), (v37, .inl (cA 0, 100, .inl f1_1))] H → va_D A [(oX10 w0 v0 v1 v2 v3 v4 g5 g6 (nI ed) g8 v9 (nI nb) g11 g12 v13 g14 g15 g16 g17 g18 g19 g20 g21 g22 g23 g24 g25 g26 v27 v28 v29 v30 v31 v32 v33 v34 v35 v36 v37 (nI oi)), (v37, .inl (cA 0, 100, .inl f1_1))] → va_S A s.heap H locs → lv_has ls 3 [(2, .int (nI i1)), (0, .ref w0), (1, .ref (sa k))] → W p l e (headSpec wsX10_putText ({ frames := 4, cells := 0, slots := 0, locals := 85 } : Room)).room s m ([.ref w0, .ref (sa k)] : List Value).toArray below meth c H locs 0 0 (MQ below (va_Qv (fun _ : Unit => True) (fun (_ : Unit) t => ∃ ol2 : Nat, ∃ zo9 : Nat → Int32, ol2 = ol + bs.length ∧ Wq D A [(oX10 w0 v0 v1 v2 v3 v4 g5 g6 (nI ed) g8 v9 (nI nb) g11 g12 v13 g14 g15 g16 g17 g18 g19 g20 g21 g22 g23 g24 g25 g26 v27 v28 v29 v30 v31 v32 v33 v34 v35 v36 v37 (nI ol2)), (v37, .inl (cA 0, 100, .inl zo9))] t) A) ([.ref w0, .ref (sa k)] : List Value).toArray s 0 0 A) (F0 m 2 ls []) := by
    intro n1
    induction n1 with
    | zero =>
      intro i1 oi f1_1 H locs ls hi1 hv0_1 hP hD hS hl
      obtain rfl : bs.length = i1 := by omega
      refine lv_iload_n hx hb dX10_putText_2 rfl (lv_at hl 0 rfl) ?_
      refine lv_aload_n hx hb dX10_putText_3 rfl (lv_at hl 2 rfl) ?_
      obtain ⟨hPc, hDc, hFc⟩ := PDq.cut (wc := []) hP hD hS hA [] (by decide) rfl
      refine va_calli (va_runV (As := []) (rest := [.int (nI bs.length)]) ⟨hx, hb, hml, hown, hts⟩ (c_slength l D cA sa k bs H.size hq) (cwV 0 hts gX10_putText_J0_length_8abf5 rfl rfl rfl (by decide +kernel) ⟨(Nat.le_of_ble_eq_true rfl), (Nat.le_of_ble_eq_true rfl)⟩) ⟨Wd.blind, SO.recv hso hS, fun U hU hW => ⟨rfl, Wd.call hPc hDc hK hC hZ hS hFc U hU hW⟩⟩ rfl rfl hl.1 rfl (lv_room (Nat.le_of_ble_eq_true rfl)) dX10_putText_4 ⟨(Nat.le_of_ble_eq_true rfl), (Nat.le_of_ble_eq_true rfl)⟩) hS (fun q _ h => hFc q h) hFc (fun rn1 u t H1 locs ht hvm hw hB hz1 hk1 hS => ?_)
      obtain ⟨hP1, hD1⟩ := hB
      rw [ht] at hP1
      obtain ⟨hP, hD⟩ := PDq.join (w := [(oX10 w0 v0 v1 v2 v3 v4 g5 g6 (nI ed) g8 v9 (nI nb) g11 g12 v13 g14 g15 g16 g17 g18 g19 g20 g21 g22 g23 g24 g25 g26 v27 v28 v29 v30 v31 v32 v33 v34 v35 v36 v37 (nI oi)), (v37, .inl (cA 0, 100, .inl f1_1))]) 2 hP hD [] [0, 1] rfl rfl (by decide) (by decide) hk1 hFc hP1 hD1 rfl
      generalize H1 = H at hP hS ⊢
      obtain rfl : rn1 = (nI bs.length) := hw
      refine lv_icmp_ge (tgt := 25) hx hb dX10_putText_7 (by decide) (fun c2 => ?_) (fun c9 => absurd (nI_le (a := bs.length) (b := bs.length) (show bs.length ≤ bs.length by omega) (by omega)) c9)
      obtain ⟨hP9, hD9⟩ := PDq.sub (ws' := [(oX10 w0 v0 v1 v2 v3 v4 g5 g6 (nI ed) g8 v9 (nI nb) g11 g12 v13 g14 g15 g16 g17 g18 g19 g20 g21 g22 g23 g24 g25 g26 v27 v28 v29 v30 v31 v32 v33 v34 v35 v36 v37 (nI oi)), (v37, .inl (cA 0, 100, .inl f1_1))]) hP hD [0, 1] (by decide) rfl
      refine W.widen (k := 0) (n := 0) (Nat.le_of_ble_eq_true rfl) (Nat.le_of_ble_eq_true rfl) ?_
      exact (W.vret hx hb hr (fun t ht hW => ⟨⟨(), rfl, trivial, oi, f1_1, hv0_1, by rw [ht]; exact hP9, hD9⟩, hS.F ht⟩) hS.2.2 dX10_putText_25)
    | succ n1 ih1 =>
      intro i1 oi f1_1 H locs ls hi1 hv0_1 hP hD hS hl
      refine lv_iload_n hx hb dX10_putText_2 rfl (lv_at hl 0 rfl) ?_
      refine lv_aload_n hx hb dX10_putText_3 rfl (lv_at hl 2 rfl) ?_
      obtain ⟨hPc, hDc, hFc⟩ := PDq.cut (wc := []) hP hD hS hA [] (by decide) rfl
      refine va_calli (va_runV (As := []) (rest := [.int (nI i1)]) ⟨hx, hb, hml, hown, hts⟩ (c_slength l D cA sa k bs H.size hq) (cwV 0 hts gX10_putText_J0_length_8abf5 rfl rfl rfl (by decide +kernel) ⟨(Nat.le_of_ble_eq_true rfl), (Nat.le_of_ble_eq_true rfl)⟩) ⟨Wd.blind, SO.recv hso hS, fun U hU hW => ⟨rfl, Wd.call hPc hDc hK hC hZ hS hFc U hU hW⟩⟩ rfl rfl hl.1 rfl (lv_room (Nat.le_of_ble_eq_true rfl)) dX10_putText_4 ⟨(Nat.le_of_ble_eq_true rfl), (Nat.le_of_ble_eq_true rfl)⟩) hS (fun q _ h => hFc q h) hFc (fun rn3 u t H1 locs ht hvm hw hB hz1 hk1 hS => ?_)
      obtain ⟨hP1, hD1⟩ := hB
      rw [ht] at hP1
      obtain ⟨hP, hD⟩ := PDq.join (w := [(oX10 w0 v0 v1 v2 v3 v4 g5 g6 (nI ed) g8 v9 (nI nb) g11 g12 v13 g14 g15 g16 g17 g18 g19 g20 g21 g22 g23 g24 g25 g26 v27 v28 v29 v30 v31 v32 v33 v34 v35 v36 v37 (nI oi)), (v37, .inl (cA 0, 100, .inl f1_1))]) 2 hP hD [] [0, 1] rfl rfl (by decide) (by decide) hk1 hFc hP1 hD1 rfl
      generalize H1 = H at hP hS ⊢
      obtain rfl : rn3 = (nI bs.length) := hw
      refine lv_icmp_ge (tgt := 25) hx hb dX10_putText_7 (by decide) (fun c9 => absurd c9 (nI_ge (a := i1) (b := bs.length) (show i1 < bs.length by omega) (by omega))) (fun c4 => ?_)
      refine lv_aload_n hx hb dX10_putText_10 rfl (lv_at hl 1 rfl) ?_
      refine lv_aload_n hx hb dX10_putText_11 rfl (lv_at hl 2 rfl) ?_
      refine lv_iload_n hx hb dX10_putText_12 rfl (lv_at hl 0 rfl) ?_
      obtain ⟨hPc, hDc, hFc⟩ := PDq.cut (wc := []) hP hD hS hA [] (by decide) rfl
      refine va_calli (va_runV (As := [.int (nI i1)]) (rest := [.ref w0]) ⟨hx, hb, hml, hown, hts⟩ (c_charAt l D cA sa k i1 bs H.size hq (by omega)) (cwV 1 hts gX10_putText_J0_charAt_5068e rfl rfl rfl (by decide +kernel) ⟨(Nat.le_of_ble_eq_true rfl), (Nat.le_of_ble_eq_true rfl)⟩) ⟨Wd.blind, SO.recv hso hS, fun U hU hW => ⟨rfl, Wd.call hPc hDc hK hC hZ hS hFc U hU hW⟩⟩ rfl rfl hl.1 rfl (lv_room (Nat.le_of_ble_eq_true rfl)) dX10_putText_13 ⟨(Nat.le_of_ble_eq_true rfl), (Nat.le_of_ble_eq_true rfl)⟩) hS (fun q _ h => hFc q h) hFc (fun rn5 u t H1 locs ht hvm hw hB hz1 hk1 hS => ?_)
      obtain ⟨hP1, hD1⟩ := hB
      rw [ht] at hP1
      obtain ⟨hP, hD⟩ := PDq.join (w := [(oX10 w0 v0 v1 v2 v3 v4 g5 g6 (nI ed) g8 v9 (nI nb) g11 g12 v13 g14 g15 g16 g17 g18 g19 g20 g21 g22 g23 g24 g25 g26 v27 v28 v29 v30 v31 v32 v33 v34 v35 v36 v37 (nI oi)), (v37, .inl (cA 0, 100, .inl f1_1))]) 2 hP hD [] [0, 1] rfl rfl (by decide) (by decide) hk1 hFc hP1 hD1 rfl
      generalize H1 = H at hP hS ⊢
      obtain rfl : rn5 = (bs.getD i1 0) := hw
      obtain ⟨hPc, hDc, hFc⟩ := PDq.cut (wc := [(oX10 w0 v0 v1 v2 v3 v4 g5 g6 (nI ed) g8 v9 (nI nb) g11 g12 v13 g14 g15 g16 g17 g18 g19 g20 g21 g22 g23 g24 g25 g26 v27 v28 v29 v30 v31 v32 v33 v34 v35 v36 v37 (nI oi)), (v37, .inl (cA 0, 100, .inl f1_1))]) hP hD hS hA [0, 1] (by decide) rfl
      refine va_callv (va_runV (As := [.int (bs.getD i1 0)]) (rest := []) ⟨hx, hb, hml, hown, hts⟩ (r_put l D cA sa w0 ed nb oi v0 v1 v2 v3 v4 v9 v13 v27 v28 v29 v30 v31 v32 v33 v34 v35 v36 v37 g8 g11 g12 g14 g15 g16 g17 g18 g19 g20 g21 g22 g23 g24 g26 g5 g6 g25 f1_1 (bs.getD i1 0) H.size (by omega)) (cwV 1 hts gX10_putText_X10_put rfl rfl rfl (by decide +kernel) ⟨(Nat.le_of_ble_eq_true rfl), (Nat.le_of_ble_eq_true rfl)⟩) ⟨Wd.blind, va_recv hK hPc (ci := 11) (q0 := 0) rfl rfl, fun U hU hW => ⟨rfl, Wd.call hPc hDc hK hC hZ hS hFc U hU hW⟩⟩ rfl rfl hl.1 rfl (lv_room (Nat.le_of_ble_eq_true rfl)) dX10_putText_16 ⟨(Nat.le_of_ble_eq_true rfl), (Nat.le_of_ble_eq_true rfl)⟩) hS (fun q _ h => hFc q h) hFc (fun u t H1 locs ht hvm hw hB hz1 hk1 hS => ?_)
      obtain ⟨qn6, fn7, hn8, hP1, hD1⟩ := hB
      rw [ht] at hP1
      obtain ⟨hP, hD⟩ := PDq.join (w := [(oX10 w0 v0 v1 v2 v3 v4 g5 g6 (nI ed) g8 v9 (nI nb) g11 g12 v13 g14 g15 g16 g17 g18 g19 g20 g21 g22 g23 g24 g25 g26 v27 v28 v29 v30 v31 v32 v33 v34 v35 v36 v37 (nI qn6)), (v37, .inl (cA 0, 100, .inl fn7))]) 0 hP hD [0, 1] [] rfl rfl (by decide) (by decide) hk1 hFc hP1 hD1 rfl
      generalize H1 = H at hP hS ⊢
      refine lv_iinc (v := (nI (i1 + 1))) (lv' := [(2, .int (nI (i1 + 1))), (0, .ref w0), (1, .ref (sa k))]) hx hb dX10_putText_19 hl (k := 0) rfl (nI_1 _) (by decide) rfl (fun ls hl => ?_)
      refine lv_goto (tgt := 2) hx hb dX10_putText_22 (by decide) ?_
      obtain ⟨hP9, hD9⟩ := PDq.sub (ws' := [(oX10 w0 v0 v1 v2 v3 v4 g5 g6 (nI ed) g8 v9 (nI nb) g11 g12 v13 g14 g15 g16 g17 g18 g19 g20 g21 g22 g23 g24 g25 g26 v27 v28 v29 v30 v31 v32 v33 v34 v35 v36 v37 (nI qn6)), (v37, .inl (cA 0, 100, .inl fn7))]) hP hD [0, 1] (by decide) rfl
      exact ih1 (i1 + 1) qn6 fn7 H _ ls (by omega) (by omega) hP9 hD9 hS (lv_sub hl [0, 1, 2] rfl)
  obtain ⟨hP9, hD9⟩ := PDq.sub (ws' := [(oX10 w0 v0 v1 v2 v3 v4 g5 g6 (nI ed) g8 v9 (nI nb) g11 g12 v13 g14 g15 g16 g17 g18 g19 g20 g21 g22 g23 g24 g25 g26 v27 v28 v29 v30 v31 v32 v33 v34 v35 v36 v37 (nI ol)), (v37, .inl (cA 0, 100, .inl fo9))]) hP hD [0, 1] (by decide) rfl
  exact loop1 (bs.length - 0) 0 ol fo9 _ _ ls (by omega) (by omega) hP9 hD9 hS (lv_sub hl [0, 1, 2] rfl)

set_option maxHeartbeats 4000000 in
set_option maxRecDepth 100000 in
/-- reference: stateWord -/
theorem r_stateWord0 (l : Launch) (D : va_G) (cA : Nat → ClassId) (sa : Nat → Nat)  (sz : Nat) : Met l yX10_stateWord wsX10_stateWord ({ frames := 0, cells := 0, slots := 0, locals := 0 }) (va_Pc [.int 0] (Wd D cA sa [] sz)) (va_Qr (fun _ : Unit => True) (fun (_ : Unit) (a9 : Nat) t => a9 = (sa 25) ∧ Wq D (va_A [] sz) [] t) (va_A [] sz)) 0 0 (va_A [] sz) := by
  refine Met.ofW (cc := cX10_stateWord) (maxL := 1) (ret := (some (.object "java/lang/String"))) (by decide) rfl ?_
  intro p e s m args below meth c s₁ B hml hv
  obtain ⟨rfl, hsz, hP, hK, hD0, hC, hZ⟩ := hv
  have hx := B.exec
  have hb := B.bytes
  have hr := B.returns
  have hts := atoms_spec (ws := wsX10_stateWord) B.pre
  have hown : s.vm.findClass RX10 = some m.cls := findClass_of_methodNamed B.named
  have hlocks := B.notSynchronized
  subst hsz
  have hD := hD0.self (sz := s.heap.size)
  generalize hAe : va_A [] s.heap.size = A at hD hZ ⊢
  have hA : ∀ q : Nat, s.heap.size ≤ q → A q := fun q h => by rw [← hAe]; exact Or.inr h
  have hS : va_S A s.heap s.heap [] := va_S.rf
  have hP : va_P D vwCl [] s.heap := hP
  have hl := lv_entry ([.int 0]) (n := 1) (Nat.le_of_ble_eq_true rfl)
  rw [lg_entry_eq]
  generalize (lg_sl ([.int 0]) ++ List.replicate (1 - (lg_sl ([.int 0])).length) Slot.unset).toArray = ls at hl ⊢
  have hl : lv_has ls 1 [(0, .int 0)] := hl
  refine lv_iload_n hx hb dX10_stateWord_0 rfl (lv_at hl 0 rfl) ?_
  refine lv_tableIn (off := 35) (tgt := 36) hx hb dX10_stateWord_1 (by decide) (by decide) (by decide) (by decide) ?_
  refine va_ldcwS hx hb hown (hC.str 25 rfl) dX10_stateWord_36 ?_
  obtain ⟨hP9, hD9⟩ := PDq.sub (ws' := []) hP hD [] (by decide) rfl
  refine W.widen (k := 0) (n := 0) (Nat.le_of_ble_eq_true rfl) (Nat.le_of_ble_eq_true rfl) ?_
  exact (W.aret (v := .ref (sa 25)) hx hb hr (Or.inl ⟨_, rfl⟩) (Or.inr ⟨_, rfl⟩) (fun t ht hW => ⟨⟨(), (sa 25), rfl, trivial, rfl, by rw [ht]; exact hP9, hD9⟩, hS.F ht⟩) hS.2.2 dX10_stateWord_39)

set_option maxHeartbeats 4000000 in
set_option maxRecDepth 100000 in
/-- reference: stateWord -/
theorem r_stateWord1 (l : Launch) (D : va_G) (cA : Nat → ClassId) (sa : Nat → Nat)  (sz : Nat) : Met l yX10_stateWord wsX10_stateWord ({ frames := 0, cells := 0, slots := 0, locals := 0 }) (va_Pc [.int 1] (Wd D cA sa [] sz)) (va_Qr (fun _ : Unit => True) (fun (_ : Unit) (a9 : Nat) t => a9 = (sa 26) ∧ Wq D (va_A [] sz) [] t) (va_A [] sz)) 0 0 (va_A [] sz) := by
  refine Met.ofW (cc := cX10_stateWord) (maxL := 1) (ret := (some (.object "java/lang/String"))) (by decide) rfl ?_
  intro p e s m args below meth c s₁ B hml hv
  obtain ⟨rfl, hsz, hP, hK, hD0, hC, hZ⟩ := hv
  have hx := B.exec
  have hb := B.bytes
  have hr := B.returns
  have hts := atoms_spec (ws := wsX10_stateWord) B.pre
  have hown : s.vm.findClass RX10 = some m.cls := findClass_of_methodNamed B.named
  have hlocks := B.notSynchronized
  subst hsz
  have hD := hD0.self (sz := s.heap.size)
  generalize hAe : va_A [] s.heap.size = A at hD hZ ⊢
  have hA : ∀ q : Nat, s.heap.size ≤ q → A q := fun q h => by rw [← hAe]; exact Or.inr h
  have hS : va_S A s.heap s.heap [] := va_S.rf
  have hP : va_P D vwCl [] s.heap := hP
  have hl := lv_entry ([.int 1]) (n := 1) (Nat.le_of_ble_eq_true rfl)
  rw [lg_entry_eq]
  generalize (lg_sl ([.int 1]) ++ List.replicate (1 - (lg_sl ([.int 1])).length) Slot.unset).toArray = ls at hl ⊢
  have hl : lv_has ls 1 [(0, .int 1)] := hl
  refine lv_iload_n hx hb dX10_stateWord_0 rfl (lv_at hl 0 rfl) ?_
  refine lv_tableIn (off := 39) (tgt := 40) hx hb dX10_stateWord_1 (by decide) (by decide) (by decide) (by decide) ?_
  refine va_ldcwS hx hb hown (hC.str 26 rfl) dX10_stateWord_40 ?_
  obtain ⟨hP9, hD9⟩ := PDq.sub (ws' := []) hP hD [] (by decide) rfl
  refine W.widen (k := 0) (n := 0) (Nat.le_of_ble_eq_true rfl) (Nat.le_of_ble_eq_true rfl) ?_
  exact (W.aret (v := .ref (sa 26)) hx hb hr (Or.inl ⟨_, rfl⟩) (Or.inr ⟨_, rfl⟩) (fun t ht hW => ⟨⟨(), (sa 26), rfl, trivial, rfl, by rw [ht]; exact hP9, hD9⟩, hS.F ht⟩) hS.2.2 dX10_stateWord_43)

