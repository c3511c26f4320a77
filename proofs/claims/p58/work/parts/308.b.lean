set_option maxHeartbeats 4000000 in
set_option maxRecDepth 100000 in
/-- reference, exactly: makePayment -/
theorem e_makePayment (l : Launch) (D : va_G) (cA : Nat → ClassId) (sa : Nat → Nat) (w0 : Nat) (ed : Nat) (nb : Nat) (ol : Nat) (v0 : Nat) (v1 : Nat) (v2 : Nat) (v3 : Nat) (v4 : Nat) (v9 : Nat) (v13 : Nat) (v27 : Nat) (v28 : Nat) (v29 : Nat) (v30 : Nat) (v31 : Nat) (v32 : Nat) (v33 : Nat) (v34 : Nat) (v35 : Nat) (v36 : Nat) (v37 : Nat) (g8 : Int32) (g11 : Int32) (g12 : Int32) (g14 : Int32) (g15 : Int32) (g16 : Int32) (g17 : Int32) (g18 : Int32) (g19 : Int32) (g20 : Int32) (g21 : Int32) (g22 : Int32) (g23 : Int32) (g24 : Int32) (g26 : Int32) (g5 : Int64) (g6 : Int64) (g25 : Int64) (cn : Nat) (pq : Nat) (en : Nat) (dy : Nat) (fs : Nat → Int32) (ra : Nat → Int32) (mi : Nat) (a : Int32) (sz : Nat) (hAb : Ab ra fs) (hcn : cn ≤ 10) (hpq : pq ≤ 8) (hen : en ≤ 60) (hdy : dy ≤ 20000) (hri : RI cn pq en dy fs) (hmi : mi < 10) : Met l yX10_makePayment wsX10_makePayment ({ frames := 1, cells := 0, slots := 0, locals := 24 }) (va_Pc [.ref w0, .int (nI mi), .int a] (Wd D cA sa [(oX10 w0 v0 v1 v2 v3 v4 g5 g6 (nI ed) g8 v9 (nI nb) g11 g12 v13 g14 g15 g16 g17 g18 g19 g20 g21 g22 g23 g24 g25 g26 v27 v28 v29 v30 v31 v32 v33 v34 v35 v36 v37 (nI ol)), (v0, .inl (cA 0, 326, .inl fs))] sz)) (va_Qi (fun (r : Int32) (_ : Unit) => True) (fun (_ : Unit) t => ∃ e2 : Nat, ∃ zs : Nat → Int32, e2 ≤ 60 ∧ RI cn pq e2 dy zs ∧ Ab (mkP mi a ra) zs ∧ e2 = entN en a ∧ Wq D (va_A [(oX10 w0 v0 v1 v2 v3 v4 g5 g6 (nI ed) g8 v9 (nI nb) g11 g12 v13 g14 g15 g16 g17 g18 g19 g20 g21 g22 g23 g24 g25 g26 v27 v28 v29 v30 v31 v32 v33 v34 v35 v36 v37 (nI ol)), (v0, .inl (cA 0, 326, .inl fs))] sz) [(oX10 w0 v0 v1 v2 v3 v4 g5 g6 (nI ed) g8 v9 (nI nb) g11 g12 v13 g14 g15 g16 g17 g18 g19 g20 g21 g22 g23 g24 g25 g26 v27 v28 v29 v30 v31 v32 v33 v34 v35 v36 v37 (nI ol)), (v0, .inl (cA 0, 326, .inl zs))] t) (va_A [(oX10 w0 v0 v1 v2 v3 v4 g5 g6 (nI ed) g8 v9 (nI nb) g11 g12 v13 g14 g15 g16 g17 g18 g19 g20 g21 g22 g23 g24 g25 g26 v27 v28 v29 v30 v31 v32 v33 v34 v35 v36 v37 (nI ol)), (v0, .inl (cA 0, 326, .inl fs))] sz)) 0 0 (va_A [(oX10 w0 v0 v1 v2 v3 v4 g5 g6 (nI ed) g8 v9 (nI nb) g11 g12 v13 g14 g15 g16 g17 g18 g19 g20 g21 g22 g23 g24 g25 g26 v27 v28 v29 v30 v31 v32 v33 v34 v35 v36 v37 (nI ol)), (v0, .inl (cA 0, 326, .inl fs))] sz) := by
  refine Met.ofW (cc := cX10_makePayment) (maxL := 4) (ret := (some .int)) (by decide) rfl ?_
  intro p e s m args below meth c s₁ B hml hv
  obtain ⟨rfl, hsz, hP, hK, hD0, hC, hZ⟩ := hv
  have hx := B.exec
  have hb := B.bytes
  have hr := B.returns
  have hts := atoms_spec (ws := wsX10_makePayment) B.pre
  have hown : s.vm.findClass RX10 = some m.cls := findClass_of_methodNamed B.named
  have hlocks := B.notSynchronized
  subst hsz
  have hD := hD0.self (sz := s.heap.size)
  generalize hAe : va_A [(oX10 w0 v0 v1 v2 v3 v4 g5 g6 (nI ed) g8 v9 (nI nb) g11 g12 v13 g14 g15 g16 g17 g18 g19 g20 g21 g22 g23 g24 g25 g26 v27 v28 v29 v30 v31 v32 v33 v34 v35 v36 v37 (nI ol)), (v0, .inl (cA 0, 326, .inl fs))] s.heap.size = A at hD hZ ⊢
  have hA : ∀ q : Nat, s.heap.size ≤ q → A q := fun q h => by rw [← hAe]; exact Or.inr h
  have hS : va_S A s.heap s.heap [] := va_S.rf
  have hP : va_P D vwCl [(oX10 w0 v0 v1 v2 v3 v4 g5 g6 (nI ed) g8 v9 (nI nb) g11 g12 v13 g14 g15 g16 g17 g18 g19 g20 g21 g22 g23 g24 g25 g26 v27 v28 v29 v30 v31 v32 v33 v34 v35 v36 v37 (nI ol)), (v0, .inl (cA 0, 326, .inl fs))] s.heap := hP
  have hl := lv_entry ([.ref w0, .int (nI mi), .int a]) (n := 4) (Nat.le_of_ble_eq_true rfl)
  rw [lg_entry_eq]
  generalize (lg_sl ([.ref w0, .int (nI mi), .int a]) ++ List.replicate (4 - (lg_sl ([.ref w0, .int (nI mi), .int a])).length) Slot.unset).toArray = ls at hl ⊢
  have hl : lv_has ls 4 [(0, .ref w0), (1, .int (nI mi)), (2, .int a)] := hl
  have inX10 : ∀ w ∈ u_ws RX10 TX10 39, w ∈ wsX10_makePayment := by decide +kernel
  refine lv_aload_n hx hb dX10_makePayment_0 rfl (lv_at hl 0 rfl) ?_
  refine lv_iload_n hx hb dX10_makePayment_1 rfl (lv_at hl 2 rfl) ?_
  obtain ⟨hPc, hDc, hFc⟩ := PDq.cut (wc := [(oX10 w0 v0 v1 v2 v3 v4 g5 g6 (nI ed) g8 v9 (nI nb) g11 g12 v13 g14 g15 g16 g17 g18 g19 g20 g21 g22 g23 g24 g25 g26 v27 v28 v29 v30 v31 v32 v33 v34 v35 v36 v37 (nI ol)), (v0, .inl (cA 0, 326, .inl fs))]) hP hD hS hA [0, 1] (by decide) rfl
  refine va_calli (va_runV (As := [.int a]) (rest := []) ⟨hx, hb, hml, hown, hts⟩ (r_feeOf l D cA sa w0 ed nb ol v0 v1 v2 v3 v4 v9 v13 v27 v28 v29 v30 v31 v32 v33 v34 v35 v36 v37 g8 g11 g12 g14 g15 g16 g17 g18 g19 g20 g21 g22 g23 g24 g26 g5 g6 g25 cn pq en dy fs a s.heap.size hcn hpq hen hdy hri) (cwV 1 hts gX10_makePayment_X10_feeOf rfl rfl rfl (by decide +kernel) ⟨(Nat.le_of_ble_eq_true rfl), (Nat.le_of_ble_eq_true rfl)⟩) ⟨Wd.blind, va_recv hK hPc (ci := 11) (q0 := 0) rfl rfl, fun U hU hW => ⟨rfl, Wd.call hPc hDc hK hC hZ hS hFc U hU hW⟩⟩ rfl rfl hl.1 rfl (lv_room (Nat.le_of_ble_eq_true rfl)) dX10_makePayment_2 ⟨(Nat.le_of_ble_eq_true rfl), (Nat.le_of_ble_eq_true rfl)⟩) hS (fun q _ h => hFc q h) hFc (fun rn1 u t H1 locs ht hvm hw hB hz1 hk1 hS => ?_)
  obtain ⟨hP1, hD1⟩ := hB
  rw [ht] at hP1
  obtain ⟨hP, hD⟩ := PDq.join (w := [(oX10 w0 v0 v1 v2 v3 v4 g5 g6 (nI ed) g8 v9 (nI nb) g11 g12 v13 g14 g15 g16 g17 g18 g19 g20 g21 g22 g23 g24 g25 g26 v27 v28 v29 v30 v31 v32 v33 v34 v35 v36 v37 (nI ol)), (v0, .inl (cA 0, 326, .inl fs))]) 0 hP hD [0, 1] [] rfl rfl (by decide) (by decide) hk1 hFc hP1 hD1 rfl
  generalize H1 = H at hP hS ⊢
  refine lv_istore_n (lv' := [(3, .int rn1), (0, .ref w0), (1, .int (nI mi)), (2, .int a)]) hx hb dX10_makePayment_5 rfl hl (by decide) rfl (fun ls hl => ?_)
  refine lv_aload_n hx hb dX10_makePayment_6 rfl (lv_at hl 1 rfl) ?_
  refine va_get (D := D) (ci := 11) (v := .ref v0) (C := RX10) (T := TX10) (N := 39) hx hb hts inX10 hown hK hP 0 rfl rfl 0 (by decide) (hts (.fieldLink RX10 7 "EscrowDeskModel" "s" "[I") (by decide +kernel)) (fun _ h9 => h9) rfl dX10_makePayment_7 ?_
  refine lv_bipush (v := 6) hx hb dX10_makePayment_10 (by decide) ?_
  refine lv_dup2_11 hx hb dX10_makePayment_12 rfl rfl ?_
  refine va_iald hx hb hK hP 1 0 rfl rfl (vp_in_iff.mpr (by decide)) dX10_makePayment_13 ?_
  refine lv_topi (fun yn2 eyn2 => ?_)
  obtain rfl : yn2 = (ra 6) := eyn2.trans ((Ab.get hAb (j := 6) (by omega) (by omega)).trans rfl)
  refine lv_iload_n hx hb dX10_makePayment_14 rfl (lv_at hl 3 rfl) ?_
  refine lv_isub hx hb dX10_makePayment_15 ?_
  refine lv_topi (fun yn3 eyn3 => ?_)
  obtain rfl : yn3 = ((ra 6) - a) := eyn3
  refine va_iast hx hb hK hP hD hS 1 0 rfl rfl (vp_in_iff.mpr (by decide)) dX10_makePayment_16 (fun H locs hP hD hS => ?_)
  obtain ⟨hP, hD⟩ : PDq D A [(oX10 w0 v0 v1 v2 v3 v4 g5 g6 (nI ed) g8 v9 (nI nb) g11 g12 v13 g14 g15 g16 g17 g18 g19 g20 g21 g22 g23 g24 g25 g26 v27 v28 v29 v30 v31 v32 v33 v34 v35 v36 v37 (nI ol)), (v0, .inl (cA 0, 326, .inl (upd fs 6 ((ra 6) - a))))] H := ⟨hP, hD⟩
  have hn5 : Ab (upd ra 6 ((ra 6) - a)) (upd fs 6 ((ra 6) - a)) := (Ab.put hAb 6 ((ra 6) - a))
  have hn6 : RI cn pq en dy (upd fs 6 ((ra 6) - a)) := RI.put hri 6 ((ra 6) - a) (by decide) (by decide) (by decide) (by decide) (by decide)
  generalize (upd fs 6 ((ra 6) - a)) = fn4 at hP hD hn5 hn6
  obtain ⟨hP, hD⟩ : PDq D A [(oX10 w0 v0 v1 v2 v3 v4 g5 g6 (nI ed) g8 v9 (nI nb) g11 g12 v13 g14 g15 g16 g17 g18 g19 g20 g21 g22 g23 g24 g25 g26 v27 v28 v29 v30 v31 v32 v33 v34 v35 v36 v37 (nI ol)), (v0, .inl (cA 0, 326, .inl fn4))] H := ⟨hP, hD⟩
  refine lv_aload_n hx hb dX10_makePayment_17 rfl (lv_at hl 1 rfl) ?_
  refine va_get (D := D) (ci := 11) (v := .ref v0) (C := RX10) (T := TX10) (N := 39) hx hb hts inX10 hown hK hP 0 rfl rfl 0 (by decide) (hts (.fieldLink RX10 7 "EscrowDeskModel" "s" "[I") (by decide +kernel)) (fun _ h9 => h9) rfl dX10_makePayment_18 ?_
  refine lv_bipush (v := 10) hx hb dX10_makePayment_21 (by decide) ?_
  refine lv_dup2_11 hx hb dX10_makePayment_23 rfl rfl ?_
  refine va_iald hx hb hK hP 1 0 rfl rfl (vp_in_iff.mpr (by decide)) dX10_makePayment_24 ?_
  refine lv_topi (fun yn7 eyn7 => ?_)
  obtain rfl : yn7 = (ra 10) := eyn7.trans ((Ab.get hn5 (j := 10) (by omega) (by omega)).trans ((pk_un (by omega)).trans rfl))
  refine lv_iload_n hx hb dX10_makePayment_25 rfl (lv_at hl 3 rfl) ?_
  refine lv_iadd hx hb dX10_makePayment_26 ?_
  refine lv_topi (fun yn8 eyn8 => ?_)
  obtain rfl : yn8 = ((ra 10) + a) := eyn8
  refine va_iast hx hb hK hP hD hS 1 0 rfl rfl (vp_in_iff.mpr (by decide)) dX10_makePayment_27 (fun H locs hP hD hS => ?_)
  obtain ⟨hP, hD⟩ : PDq D A [(oX10 w0 v0 v1 v2 v3 v4 g5 g6 (nI ed) g8 v9 (nI nb) g11 g12 v13 g14 g15 g16 g17 g18 g19 g20 g21 g22 g23 g24 g25 g26 v27 v28 v29 v30 v31 v32 v33 v34 v35 v36 v37 (nI ol)), (v0, .inl (cA 0, 326, .inl (upd fn4 10 ((ra 10) + a))))] H := ⟨hP, hD⟩
  have hn10 : Ab (upd (upd ra 6 ((ra 6) - a)) 10 ((ra 10) + a)) (upd fn4 10 ((ra 10) + a)) := (Ab.put hn5 10 ((ra 10) + a))
  have hn11 : RI cn pq en dy (upd fn4 10 ((ra 10) + a)) := RI.put hn6 10 ((ra 10) + a) (by decide) (by decide) (by decide) (by decide) (by decide)
  generalize (upd fn4 10 ((ra 10) + a)) = fn9 at hP hD hn10 hn11
  obtain ⟨hP, hD⟩ : PDq D A [(oX10 w0 v0 v1 v2 v3 v4 g5 g6 (nI ed) g8 v9 (nI nb) g11 g12 v13 g14 g15 g16 g17 g18 g19 g20 g21 g22 g23 g24 g25 g26 v27 v28 v29 v30 v31 v32 v33 v34 v35 v36 v37 (nI ol)), (v0, .inl (cA 0, 326, .inl fn9))] H := ⟨hP, hD⟩
  refine lv_aload_n hx hb dX10_makePayment_28 rfl (lv_at hl 1 rfl) ?_
  refine va_get (D := D) (ci := 11) (v := .ref v0) (C := RX10) (T := TX10) (N := 39) hx hb hts inX10 hown hK hP 0 rfl rfl 0 (by decide) (hts (.fieldLink RX10 7 "EscrowDeskModel" "s" "[I") (by decide +kernel)) (fun _ h9 => h9) rfl dX10_makePayment_29 ?_
  refine lv_bipush (v := 9) hx hb dX10_makePayment_32 (by decide) ?_
  refine lv_dup2_11 hx hb dX10_makePayment_34 rfl rfl ?_
  refine va_iald hx hb hK hP 1 0 rfl rfl (vp_in_iff.mpr (by decide)) dX10_makePayment_35 ?_
  refine lv_topi (fun yn12 eyn12 => ?_)
  refine lv_iload_n hx hb dX10_makePayment_36 rfl (lv_at hl 0 rfl) ?_
  refine lv_iadd hx hb dX10_makePayment_37 ?_
  refine lv_topi (fun yn13 eyn13 => ?_)
  obtain rfl : yn13 = (yn12 + rn1) := eyn13
  refine va_iast hx hb hK hP hD hS 1 0 rfl rfl (vp_in_iff.mpr (by decide)) dX10_makePayment_38 (fun H locs hP hD hS => ?_)
  obtain ⟨hP, hD⟩ : PDq D A [(oX10 w0 v0 v1 v2 v3 v4 g5 g6 (nI ed) g8 v9 (nI nb) g11 g12 v13 g14 g15 g16 g17 g18 g19 g20 g21 g22 g23 g24 g25 g26 v27 v28 v29 v30 v31 v32 v33 v34 v35 v36 v37 (nI ol)), (v0, .inl (cA 0, 326, .inl (upd fn9 9 (yn12 + rn1))))] H := ⟨hP, hD⟩
  have hn15 : Ab (upd (upd ra 6 ((ra 6) - a)) 10 ((ra 10) + a)) (upd fn9 9 (yn12 + rn1)) := (Ab.fee hn10 _)
  have hn16 : RI cn pq en dy (upd fn9 9 (yn12 + rn1)) := RI.put hn11 9 (yn12 + rn1) (by decide) (by decide) (by decide) (by decide) (by decide)
  generalize (upd fn9 9 (yn12 + rn1)) = fn14 at hP hD hn15 hn16
  obtain ⟨hP, hD⟩ : PDq D A [(oX10 w0 v0 v1 v2 v3 v4 g5 g6 (nI ed) g8 v9 (nI nb) g11 g12 v13 g14 g15 g16 g17 g18 g19 g20 g21 g22 g23 g24 g25 g26 v27 v28 v29 v30 v31 v32 v33 v34 v35 v36 v37 (nI ol)), (v0, .inl (cA 0, 326, .inl fn14))] H := ⟨hP, hD⟩
  refine lv_aload_n hx hb dX10_makePayment_39 rfl (lv_at hl 1 rfl) ?_
  refine lv_iload_n hx hb dX10_makePayment_40 rfl (lv_at hl 2 rfl) ?_
  refine lv_iconst (v := 1) hx hb dX10_makePayment_41 (by decide) ?_
  refine lv_aload_n hx hb dX10_makePayment_42 rfl (lv_at hl 1 rfl) ?_
  refine lv_iload_n hx hb dX10_makePayment_43 rfl (lv_at hl 2 rfl) ?_
  refine lv_iconst (v := 1) hx hb dX10_makePayment_44 (by decide) ?_
  obtain ⟨hPc, hDc, hFc⟩ := PDq.cut (wc := [(oX10 w0 v0 v1 v2 v3 v4 g5 g6 (nI ed) g8 v9 (nI nb) g11 g12 v13 g14 g15 g16 g17 g18 g19 g20 g21 g22 g23 g24 g25 g26 v27 v28 v29 v30 v31 v32 v33 v34 v35 v36 v37 (nI ol)), (v0, .inl (cA 0, 326, .inl fn14))]) hP hD hS hA [0, 1] (by decide) rfl
  refine va_calli (va_runV (As := [.int (nI mi), .int 1]) (rest := [.int 1, .int (nI mi), .ref w0]) ⟨hx, hb, hml, hown, hts⟩ (e_of l D cA sa w0 ed nb ol v0 v1 v2 v3 v4 v9 v13 v27 v28 v29 v30 v31 v32 v33 v34 v35 v36 v37 g8 g11 g12 g14 g15 g16 g17 g18 g19 g20 g21 g22 g23 g24 g26 g5 g6 g25 (upd (upd ra 6 ((ra 6) - a)) 10 ((ra 10) + a)) fn14 mi 1 H.size hn15 hmi (by omega)) (cwV 2 hts gX10_makePayment_X10_of rfl rfl rfl (by decide +kernel) ⟨(Nat.le_of_ble_eq_true rfl), (Nat.le_of_ble_eq_true rfl)⟩) ⟨Wd.blind, va_recv hK hPc (ci := 11) (q0 := 0) rfl rfl, fun U hU hW => ⟨rfl, Wd.call hPc hDc hK hC hZ hS hFc U hU hW⟩⟩ rfl rfl hl.1 rfl (lv_room (Nat.le_of_ble_eq_true rfl)) dX10_makePayment_45 ⟨(Nat.le_of_ble_eq_true rfl), (Nat.le_of_ble_eq_true rfl)⟩) hS (fun q _ h => hFc q h) hFc (fun rn17 u t H1 locs ht hvm hw hB hz1 hk1 hS => ?_)
  obtain ⟨hP1, hD1⟩ := hB
  rw [ht] at hP1
  obtain ⟨hP, hD⟩ := PDq.join (w := [(oX10 w0 v0 v1 v2 v3 v4 g5 g6 (nI ed) g8 v9 (nI nb) g11 g12 v13 g14 g15 g16 g17 g18 g19 g20 g21 g22 g23 g24 g25 g26 v27 v28 v29 v30 v31 v32 v33 v34 v35 v36 v37 (nI ol)), (v0, .inl (cA 0, 326, .inl fn14))]) 0 hP hD [0, 1] [] rfl rfl (by decide) (by decide) hk1 hFc hP1 hD1 rfl
  generalize H1 = H at hP hS ⊢
  obtain rfl : rn17 = (ra (16 + 7 * mi + 1)) := hw.trans ((pk_un (by omega)).trans ((pk_un (by omega)).trans rfl))
  refine lv_iload_n hx hb dX10_makePayment_48 rfl (lv_at hl 3 rfl) ?_
  refine lv_iadd hx hb dX10_makePayment_49 ?_
  refine lv_topi (fun yn18 eyn18 => ?_)
  obtain rfl : yn18 = ((ra (16 + 7 * mi + 1)) + a) := eyn18
  obtain ⟨hPc, hDc, hFc⟩ := PDq.cut (wc := [(oX10 w0 v0 v1 v2 v3 v4 g5 g6 (nI ed) g8 v9 (nI nb) g11 g12 v13 g14 g15 g16 g17 g18 g19 g20 g21 g22 g23 g24 g25 g26 v27 v28 v29 v30 v31 v32 v33 v34 v35 v36 v37 (nI ol)), (v0, .inl (cA 0, 326, .inl fn14))]) hP hD hS hA [0, 1] (by decide) rfl
  refine va_callv (va_runV (As := [.int (nI mi), .int 1, .int ((ra (16 + 7 * mi + 1)) + a)]) (rest := []) ⟨hx, hb, hml, hown, hts⟩ (e_set l D cA sa w0 ed nb ol v0 v1 v2 v3 v4 v9 v13 v27 v28 v29 v30 v31 v32 v33 v34 v35 v36 v37 g8 g11 g12 g14 g15 g16 g17 g18 g19 g20 g21 g22 g23 g24 g26 g5 g6 g25 cn pq en dy fn14 (upd (upd ra 6 ((ra 6) - a)) 10 ((ra 10) + a)) mi 1 ((ra (16 + 7 * mi + 1)) + a) H.size hn15 hcn hpq hen hdy hn16 hmi (by omega)) (cwV 3 hts gX10_makePayment_X10_set rfl rfl rfl (by decide +kernel) ⟨(Nat.le_of_ble_eq_true rfl), (Nat.le_of_ble_eq_true rfl)⟩) ⟨Wd.blind, va_recv hK hPc (ci := 11) (q0 := 0) rfl rfl, fun U hU hW => ⟨rfl, Wd.call hPc hDc hK hC hZ hS hFc U hU hW⟩⟩ rfl rfl hl.1 rfl (lv_room (Nat.le_of_ble_eq_true rfl)) dX10_makePayment_50 ⟨(Nat.le_of_ble_eq_true rfl), (Nat.le_of_ble_eq_true rfl)⟩) hS (fun q _ h => hFc q h) hFc (fun u t H1 locs ht hvm hw hB hz1 hk1 hS => ?_)
  obtain ⟨fn19, hn20, hn21, hP1, hD1⟩ := hB
  rw [ht] at hP1
  obtain ⟨hP, hD⟩ := PDq.join (w := [(oX10 w0 v0 v1 v2 v3 v4 g5 g6 (nI ed) g8 v9 (nI nb) g11 g12 v13 g14 g15 g16 g17 g18 g19 g20 g21 g22 g23 g24 g25 g26 v27 v28 v29 v30 v31 v32 v33 v34 v35 v36 v37 (nI ol)), (v0, .inl (cA 0, 326, .inl fn19))]) 0 hP hD [0, 1] [] rfl rfl (by decide) (by decide) hk1 hFc hP1 hD1 rfl
  generalize H1 = H at hP hS ⊢
  refine lv_aload_n hx hb dX10_makePayment_53 rfl (lv_at hl 1 rfl) ?_
  refine va_get (D := D) (ci := 11) (v := .ref v0) (C := RX10) (T := TX10) (N := 39) hx hb hts inX10 hown hK hP 0 rfl rfl 0 (by decide) (hts (.fieldLink RX10 7 "EscrowDeskModel" "s" "[I") (by decide +kernel)) (fun _ h9 => h9) rfl dX10_makePayment_54 ?_
  refine lv_iconst (v := 1) hx hb dX10_makePayment_57 (by decide) ?_
  refine lv_iload_n hx hb dX10_makePayment_58 rfl (lv_at hl 3 rfl) ?_
  refine lv_iload_n hx hb dX10_makePayment_59 rfl (lv_at hl 2 rfl) ?_
  obtain ⟨hPc, hDc, hFc⟩ := PDq.cut (wc := [(v0, .inl (cA 0, 326, .inl fn19))]) hP hD hS hA [1] (by decide) rfl
  refine va_callv (va_runS (As := [.ref v0, .int 1, .int a, .int (nI mi)]) (rest := []) ⟨hx, hb, hml, hown, hts⟩ (e_enter l D cA sa v0 cn pq en dy fn19 (upd (upd (upd ra 6 ((ra 6) - a)) 10 ((ra 10) + a)) (16 + 7 * mi + 1) ((ra (16 + 7 * mi + 1)) + a)) 1 a (nI mi) H.size hn21 hcn hpq hen hdy hn20) (va_cwS 4 hts gX10_makePayment_X10_enter rfl rfl rfl (by decide +kernel) ⟨(Nat.le_of_ble_eq_true rfl), (Nat.le_of_ble_eq_true rfl)⟩) ⟨Wd.blind, fun U hU hW => ⟨rfl, Wd.call hPc hDc hK hC hZ hS hFc U hU hW⟩⟩ rfl rfl hl.1 rfl (lv_room (Nat.le_of_ble_eq_true rfl)) dX10_makePayment_60 ⟨(Nat.le_of_ble_eq_true rfl), (Nat.le_of_ble_eq_true rfl)⟩) hS (fun q _ h => hFc q h) hFc (fun u t H1 locs ht hvm hw hB hz1 hk1 hS => ?_)
  obtain ⟨qn22, fn23, hn24, hn25, hn26, hn27, hP1, hD1⟩ := hB
  rw [ht] at hP1
  obtain ⟨hP, hD⟩ := PDq.join (w := [(oX10 w0 v0 v1 v2 v3 v4 g5 g6 (nI ed) g8 v9 (nI nb) g11 g12 v13 g14 g15 g16 g17 g18 g19 g20 g21 g22 g23 g24 g25 g26 v27 v28 v29 v30 v31 v32 v33 v34 v35 v36 v37 (nI ol)), (v0, .inl (cA 0, 326, .inl fn23))]) 1 hP hD [1] [0] rfl rfl (by decide) (by decide) hk1 hFc hP1 hD1 rfl
  generalize H1 = H at hP hS ⊢
  refine lv_iload_n hx hb dX10_makePayment_63 rfl (lv_at hl 0 rfl) ?_
  obtain ⟨hP9, hD9⟩ := PDq.sub (ws' := [(oX10 w0 v0 v1 v2 v3 v4 g5 g6 (nI ed) g8 v9 (nI nb) g11 g12 v13 g14 g15 g16 g17 g18 g19 g20 g21 g22 g23 g24 g25 g26 v27 v28 v29 v30 v31 v32 v33 v34 v35 v36 v37 (nI ol)), (v0, .inl (cA 0, 326, .inl fn23))]) hP hD [0, 1] (by decide) rfl
  refine W.widen (k := 0) (n := 0) (Nat.le_of_ble_eq_true rfl) (Nat.le_of_ble_eq_true rfl) ?_
  exact (W.iret (v := rn1) hx hb hr (fun t ht hW => ⟨⟨rn1, (), rfl, trivial, qn22, fn23, hn24, hn25, (by exact hn26), hn27, by rw [ht]; exact hP9, hD9⟩, hS.F ht⟩) hS.2.2 dX10_makePayment_64)

set_option maxHeartbeats 4000000 in
set_option maxRecDepth 100000 in
/-- reference, exactly: refund -/
theorem e_refund (l : Launch) (D : va_G) (cA : Nat → ClassId) (sa : Nat → Nat) (w0 : Nat) (ed : Nat) (nb : Nat) (ol : Nat) (v0 : Nat) (v1 : Nat) (v2 : Nat) (v3 : Nat) (v4 : Nat) (v9 : Nat) (v13 : Nat) (v27 : Nat) (v28 : Nat) (v29 : Nat) (v30 : Nat) (v31 : Nat) (v32 : Nat) (v33 : Nat) (v34 : Nat) (v35 : Nat) (v36 : Nat) (v37 : Nat) (g8 : Int32) (g11 : Int32) (g12 : Int32) (g14 : Int32) (g15 : Int32) (g16 : Int32) (g17 : Int32) (g18 : Int32) (g19 : Int32) (g20 : Int32) (g21 : Int32) (g22 : Int32) (g23 : Int32) (g24 : Int32) (g26 : Int32) (g5 : Int64) (g6 : Int64) (g25 : Int64) (cn : Nat) (pq : Nat) (en : Nat) (dy : Nat) (fs : Nat → Int32) (ra : Nat → Int32) (a : Int32) (b : Int32) (sz : Nat) (hAb : Ab ra fs) (hcn : cn ≤ 10) (hpq : pq ≤ 8) (hen : en ≤ 60) (hdy : dy ≤ 20000) (hri : RI cn pq en dy fs) : Met l yX10_refund wsX10_refund ({ frames := 1, cells := 0, slots := 0, locals := 24 }) (va_Pc [.ref w0, .int a, .int b] (Wd D cA sa [(oX10 w0 v0 v1 v2 v3 v4 g5 g6 (nI ed) g8 v9 (nI nb) g11 g12 v13 g14 g15 g16 g17 g18 g19 g20 g21 g22 g23 g24 g25 g26 v27 v28 v29 v30 v31 v32 v33 v34 v35 v36 v37 (nI ol)), (v0, .inl (cA 0, 326, .inl fs))] sz)) (va_Qv (fun _ : Unit => True) (fun (_ : Unit) t => ∃ e2 : Nat, ∃ zs : Nat → Int32, e2 ≤ 60 ∧ RI cn pq e2 dy zs ∧ Ab (refR a ra) zs ∧ e2 = entN en a ∧ Wq D (va_A [(oX10 w0 v0 v1 v2 v3 v4 g5 g6 (nI ed) g8 v9 (nI nb) g11 g12 v13 g14 g15 g16 g17 g18 g19 g20 g21 g22 g23 g24 g25 g26 v27 v28 v29 v30 v31 v32 v33 v34 v35 v36 v37 (nI ol)), (v0, .inl (cA 0, 326, .inl fs))] sz) [(oX10 w0 v0 v1 v2 v3 v4 g5 g6 (nI ed) g8 v9 (nI nb) g11 g12 v13 g14 g15 g16 g17 g18 g19 g20 g21 g22 g23 g24 g25 g26 v27 v28 v29 v30 v31 v32 v33 v34 v35 v36 v37 (nI ol)), (v0, .inl (cA 0, 326, .inl zs))] t) (va_A [(oX10 w0 v0 v1 v2 v3 v4 g5 g6 (nI ed) g8 v9 (nI nb) g11 g12 v13 g14 g15 g16 g17 g18 g19 g20 g21 g22 g23 g24 g25 g26 v27 v28 v29 v30 v31 v32 v33 v34 v35 v36 v37 (nI ol)), (v0, .inl (cA 0, 326, .inl fs))] sz)) 0 0 (va_A [(oX10 w0 v0 v1 v2 v3 v4 g5 g6 (nI ed) g8 v9 (nI nb) g11 g12 v13 g14 g15 g16 g17 g18 g19 g20 g21 g22 g23 g24 g25 g26 v27 v28 v29 v30 v31 v32 v33 v34 v35 v36 v37 (nI ol)), (v0, .inl (cA 0, 326, .inl fs))] sz) := by
  refine Met.ofW (cc := cX10_refund) (maxL := 3) (ret := none) (by decide) rfl ?_
  intro p e s m args below meth c s₁ B hml hv
  obtain ⟨rfl, hsz, hP, hK, hD0, hC, hZ⟩ := hv
  have hx := B.exec
  have hb := B.bytes
  have hr := B.returns
  have hts := atoms_spec (ws := wsX10_refund) B.pre
  have hown : s.vm.findClass RX10 = some m.cls := findClass_of_methodNamed B.named
  have hlocks := B.notSynchronized
  subst hsz
  have hD := hD0.self (sz := s.heap.size)
  generalize hAe : va_A [(oX10 w0 v0 v1 v2 v3 v4 g5 g6 (nI ed) g8 v9 (nI nb) g11 g12 v13 g14 g15 g16 g17 g18 g19 g20 g21 g22 g23 g24 g25 g26 v27 v28 v29 v30 v31 v32 v33 v34 v35 v36 v37 (nI ol)), (v0, .inl (cA 0, 326, .inl fs))] s.heap.size = A at hD hZ ⊢
  have hA : ∀ q : Nat, s.heap.size ≤ q → A q := fun q h => by rw [← hAe]; exact Or.inr h
  have hS : va_S A s.heap s.heap [] := va_S.rf
  have hP : va_P D vwCl [(oX10 w0 v0 v1 v2 v3 v4 g5 g6 (nI ed) g8 v9 (nI nb) g11 g12 v13 g14 g15 g16 g17 g18 g19 g20 g21 g22 g23 g24 g25 g26 v27 v28 v29 v30 v31 v32 v33 v34 v35 v36 v37 (nI ol)), (v0, .inl (cA 0, 326, .inl fs))] s.heap := hP
  have hl := lv_entry ([.ref w0, .int a, .int b]) (n := 3) (Nat.le_of_ble_eq_true rfl)
  rw [lg_entry_eq]
  generalize (lg_sl ([.ref w0, .int a, .int b]) ++ List.replicate (3 - (lg_sl ([.ref w0, .int a, .int b])).length) Slot.unset).toArray = ls at hl ⊢
  have hl : lv_has ls 3 [(0, .ref w0), (1, .int a), (2, .int b)] := hl
  have inX10 : ∀ w ∈ u_ws RX10 TX10 39, w ∈ wsX10_refund := by decide +kernel
  refine lv_aload_n hx hb dX10_refund_0 rfl (lv_at hl 0 rfl) ?_
  refine va_get (D := D) (ci := 11) (v := .ref v0) (C := RX10) (T := TX10) (N := 39) hx hb hts inX10 hown hK hP 0 rfl rfl 0 (by decide) (hts (.fieldLink RX10 7 "EscrowDeskModel" "s" "[I") (by decide +kernel)) (fun _ h9 => h9) rfl dX10_refund_1 ?_
  refine lv_bipush (v := 6) hx hb dX10_refund_4 (by decide) ?_
  refine lv_dup2_11 hx hb dX10_refund_6 rfl rfl ?_
  refine va_iald hx hb hK hP 1 0 rfl rfl (vp_in_iff.mpr (by decide)) dX10_refund_7 ?_
  refine lv_topi (fun yn1 eyn1 => ?_)
  obtain rfl : yn1 = (ra 6) := eyn1.trans ((Ab.get hAb (j := 6) (by omega) (by omega)).trans rfl)
  refine lv_iload_n hx hb dX10_refund_8 rfl (lv_at hl 1 rfl) ?_
  refine lv_isub hx hb dX10_refund_9 ?_
  refine lv_topi (fun yn2 eyn2 => ?_)
  obtain rfl : yn2 = ((ra 6) - a) := eyn2
  refine va_iast hx hb hK hP hD hS 1 0 rfl rfl (vp_in_iff.mpr (by decide)) dX10_refund_10 (fun H locs hP hD hS => ?_)
  obtain ⟨hP, hD⟩ : PDq D A [(oX10 w0 v0 v1 v2 v3 v4 g5 g6 (nI ed) g8 v9 (nI nb) g11 g12 v13 g14 g15 g16 g17 g18 g19 g20 g21 g22 g23 g24 g25 g26 v27 v28 v29 v30 v31 v32 v33 v34 v35 v36 v37 (nI ol)), (v0, .inl (cA 0, 326, .inl (upd fs 6 ((ra 6) - a))))] H := ⟨hP, hD⟩
  have hn4 : Ab (upd ra 6 ((ra 6) - a)) (upd fs 6 ((ra 6) - a)) := (Ab.put hAb 6 ((ra 6) - a))
  have hn5 : RI cn pq en dy (upd fs 6 ((ra 6) - a)) := RI.put hri 6 ((ra 6) - a) (by decide) (by decide) (by decide) (by decide) (by decide)
  generalize (upd fs 6 ((ra 6) - a)) = fn3 at hP hD hn4 hn5
  obtain ⟨hP, hD⟩ : PDq D A [(oX10 w0 v0 v1 v2 v3 v4 g5 g6 (nI ed) g8 v9 (nI nb) g11 g12 v13 g14 g15 g16 g17 g18 g19 g20 g21 g22 g23 g24 g25 g26 v27 v28 v29 v30 v31 v32 v33 v34 v35 v36 v37 (nI ol)), (v0, .inl (cA 0, 326, .inl fn3))] H := ⟨hP, hD⟩
  refine lv_aload_n hx hb dX10_refund_11 rfl (lv_at hl 0 rfl) ?_
  refine va_get (D := D) (ci := 11) (v := .ref v0) (C := RX10) (T := TX10) (N := 39) hx hb hts inX10 hown hK hP 0 rfl rfl 0 (by decide) (hts (.fieldLink RX10 7 "EscrowDeskModel" "s" "[I") (by decide +kernel)) (fun _ h9 => h9) rfl dX10_refund_12 ?_
  refine lv_bipush (v := 11) hx hb dX10_refund_15 (by decide) ?_
  refine lv_dup2_11 hx hb dX10_refund_17 rfl rfl ?_
  refine va_iald hx hb hK hP 1 0 rfl rfl (vp_in_iff.mpr (by decide)) dX10_refund_18 ?_
  refine lv_topi (fun yn6 eyn6 => ?_)
  obtain rfl : yn6 = (ra 11) := eyn6.trans ((Ab.get hn4 (j := 11) (by omega) (by omega)).trans ((pk_un (by omega)).trans rfl))
  refine lv_iload_n hx hb dX10_refund_19 rfl (lv_at hl 1 rfl) ?_
  refine lv_iadd hx hb dX10_refund_20 ?_
  refine lv_topi (fun yn7 eyn7 => ?_)
  obtain rfl : yn7 = ((ra 11) + a) := eyn7
  refine va_iast hx hb hK hP hD hS 1 0 rfl rfl (vp_in_iff.mpr (by decide)) dX10_refund_21 (fun H locs hP hD hS => ?_)
  obtain ⟨hP, hD⟩ : PDq D A [(oX10 w0 v0 v1 v2 v3 v4 g5 g6 (nI ed) g8 v9 (nI nb) g11 g12 v13 g14 g15 g16 g17 g18 g19 g20 g21 g22 g23 g24 g25 g26 v27 v28 v29 v30 v31 v32 v33 v34 v35 v36 v37 (nI ol)), (v0, .inl (cA 0, 326, .inl (upd fn3 11 ((ra 11) + a))))] H := ⟨hP, hD⟩
  have hn9 : Ab (upd (upd ra 6 ((ra 6) - a)) 11 ((ra 11) + a)) (upd fn3 11 ((ra 11) + a)) := (Ab.put hn4 11 ((ra 11) + a))
  have hn10 : RI cn pq en dy (upd fn3 11 ((ra 11) + a)) := RI.put hn5 11 ((ra 11) + a) (by decide) (by decide) (by decide) (by decide) (by decide)
  generalize (upd fn3 11 ((ra 11) + a)) = fn8 at hP hD hn9 hn10
  obtain ⟨hP, hD⟩ : PDq D A [(oX10 w0 v0 v1 v2 v3 v4 g5 g6 (nI ed) g8 v9 (nI nb) g11 g12 v13 g14 g15 g16 g17 g18 g19 g20 g21 g22 g23 g24 g25 g26 v27 v28 v29 v30 v31 v32 v33 v34 v35 v36 v37 (nI ol)), (v0, .inl (cA 0, 326, .inl fn8))] H := ⟨hP, hD⟩
  refine lv_aload_n hx hb dX10_refund_22 rfl (lv_at hl 0 rfl) ?_
  refine va_get (D := D) (ci := 11) (v := .ref v0) (C := RX10) (T := TX10) (N := 39) hx hb hts inX10 hown hK hP 0 rfl rfl 0 (by decide) (hts (.fieldLink RX10 7 "EscrowDeskModel" "s" "[I") (by decide +kernel)) (fun _ h9 => h9) rfl dX10_refund_23 ?_
  refine lv_iconst (v := 2) hx hb dX10_refund_26 (by decide) ?_
  refine lv_iload_n hx hb dX10_refund_27 rfl (lv_at hl 1 rfl) ?_
  refine lv_iload_n hx hb dX10_refund_28 rfl (lv_at hl 2 rfl) ?_
  obtain ⟨hPc, hDc, hFc⟩ := PDq.cut (wc := [(v0, .inl (cA 0, 326, .inl fn8))]) hP hD hS hA [1] (by decide) rfl
  refine va_callv (va_runS (As := [.ref v0, .int 2, .int a, .int b]) (rest := []) ⟨hx, hb, hml, hown, hts⟩ (e_enter l D cA sa v0 cn pq en dy fn8 (upd (upd ra 6 ((ra 6) - a)) 11 ((ra 11) + a)) 2 a b H.size hn9 hcn hpq hen hdy hn10) (va_cwS 4 hts gX10_refund_X10_enter rfl rfl rfl (by decide +kernel) ⟨(Nat.le_of_ble_eq_true rfl), (Nat.le_of_ble_eq_true rfl)⟩) ⟨Wd.blind, fun U hU hW => ⟨rfl, Wd.call hPc hDc hK hC hZ hS hFc U hU hW⟩⟩ rfl rfl hl.1 rfl (lv_room (Nat.le_of_ble_eq_true rfl)) dX10_refund_29 ⟨(Nat.le_of_ble_eq_true rfl), (Nat.le_of_ble_eq_true rfl)⟩) hS (fun q _ h => hFc q h) hFc (fun u t H1 locs ht hvm hw hB hz1 hk1 hS => ?_)
  obtain ⟨qn11, fn12, hn13, hn14, hn15, hn16, hP1, hD1⟩ := hB
  rw [ht] at hP1
  obtain ⟨hP, hD⟩ := PDq.join (w := [(oX10 w0 v0 v1 v2 v3 v4 g5 g6 (nI ed) g8 v9 (nI nb) g11 g12 v13 g14 g15 g16 g17 g18 g19 g20 g21 g22 g23 g24 g25 g26 v27 v28 v29 v30 v31 v32 v33 v34 v35 v36 v37 (nI ol)), (v0, .inl (cA 0, 326, .inl fn12))]) 1 hP hD [1] [0] rfl rfl (by decide) (by decide) hk1 hFc hP1 hD1 rfl
  generalize H1 = H at hP hS ⊢
  obtain ⟨hP9, hD9⟩ := PDq.sub (ws' := [(oX10 w0 v0 v1 v2 v3 v4 g5 g6 (nI ed) g8 v9 (nI nb) g11 g12 v13 g14 g15 g16 g17 g18 g19 g20 g21 g22 g23 g24 g25 g26 v27 v28 v29 v30 v31 v32 v33 v34 v35 v36 v37 (nI ol)), (v0, .inl (cA 0, 326, .inl fn12))]) hP hD [0, 1] (by decide) rfl
  refine W.widen (k := 0) (n := 0) (Nat.le_of_ble_eq_true rfl) (Nat.le_of_ble_eq_true rfl) ?_
  exact (W.vret hx hb hr (fun t ht hW => ⟨⟨(), rfl, trivial, qn11, fn12, hn13, hn14, (by exact hn15), hn16, by rw [ht]; exact hP9, hD9⟩, hS.F ht⟩) hS.2.2 dX10_refund_32)

set_option maxHeartbeats 4000000 in
set_option maxRecDepth 100000 in
/-- reference, exactly: closeIfPaid -/
theorem e_closeIfPaid (l : Launch) (D : va_G) (cA : Nat → ClassId) (sa : Nat → Nat) (w0 : Nat) (ed : Nat) (nb : Nat) (ol : Nat) (v0 : Nat) (v1 : Nat) (v2 : Nat) (v3 : Nat) (v4 : Nat) (v9 : Nat) (v13 : Nat) (v27 : Nat) (v28 : Nat) (v29 : Nat) (v30 : Nat) (v31 : Nat) (v32 : Nat) (v33 : Nat) (v34 : Nat) (v35 : Nat) (v36 : Nat) (v37 : Nat) (g8 : Int32) (g11 : Int32) (g12 : Int32) (g14 : Int32) (g15 : Int32) (g16 : Int32) (g17 : Int32) (g18 : Int32) (g19 : Int32) (g20 : Int32) (g21 : Int32) (g22 : Int32) (g23 : Int32) (g24 : Int32) (g26 : Int32) (g5 : Int64) (g6 : Int64) (g25 : Int64) (cn : Nat) (pq : Nat) (en : Nat) (dy : Nat) (fs : Nat → Int32) (ra : Nat → Int32) (mi : Nat) (sz : Nat) (hAb : Ab ra fs) (hcn : cn ≤ 10) (hpq : pq ≤ 8) (hen : en ≤ 60) (hdy : dy ≤ 20000) (hri : RI cn pq en dy fs) (hmi : mi < 10) : Met l yX10_closeIfPaid wsX10_closeIfPaid ({ frames := 3, cells := 0, slots := 0, locals := 64 }) (va_Pc [.ref w0, .int (nI mi)] (Wd D cA sa [(oX10 w0 v0 v1 v2 v3 v4 g5 g6 (nI ed) g8 v9 (nI nb) g11 g12 v13 g14 g15 g16 g17 g18 g19 g20 g21 g22 g23 g24 g25 g26 v27 v28 v29 v30 v31 v32 v33 v34 v35 v36 v37 (nI ol)), (v0, .inl (cA 0, 326, .inl fs))] sz)) (va_Qv (fun _ : Unit => True) (fun (_ : Unit) t => ∃ zs : Nat → Int32, RI cn pq en dy zs ∧ Ab (clR mi ra) zs ∧ Wq D (va_A [(oX10 w0 v0 v1 v2 v3 v4 g5 g6 (nI ed) g8 v9 (nI nb) g11 g12 v13 g14 g15 g16 g17 g18 g19 g20 g21 g22 g23 g24 g25 g26 v27 v28 v29 v30 v31 v32 v33 v34 v35 v36 v37 (nI ol)), (v0, .inl (cA 0, 326, .inl fs))] sz) [(oX10 w0 v0 v1 v2 v3 v4 g5 g6 (nI ed) g8 v9 (nI nb) g11 g12 v13 g14 g15 g16 g17 g18 g19 g20 g21 g22 g23 g24 g25 g26 v27 v28 v29 v30 v31 v32 v33 v34 v35 v36 v37 (nI ol)), (v0, .inl (cA 0, 326, .inl zs))] t) (va_A [(oX10 w0 v0 v1 v2 v3 v4 g5 g6 (nI ed) g8 v9 (nI nb) g11 g12 v13 g14 g15 g16 g17 g18 g19 g20 g21 g22 g23 g24 g25 g26 v27 v28 v29 v30 v31 v32 v33 v34 v35 v36 v37 (nI ol)), (v0, .inl (cA 0, 326, .inl fs))] sz)) 0 0 (va_A [(oX10 w0 v0 v1 v2 v3 v4 g5 g6 (nI ed) g8 v9 (nI nb) g11 g12 v13 g14 g15 g16 g17 g18 g19 g20 g21 g22 g23 g24 g25 g26 v27 v28 v29 v30 v31 v32 v33 v34 v35 v36 v37 (nI ol)), (v0, .inl (cA 0, 326, .inl fs))] sz) := by
  refine Met.ofW (cc := cX10_closeIfPaid) (maxL := 2) (ret := none) (by decide) rfl ?_
  intro p e s m args below meth c s₁ B hml hv
  obtain ⟨rfl, hsz, hP, hK, hD0, hC, hZ⟩ := hv
  have hx := B.exec
  have hb := B.bytes
  have hr := B.returns
  have hts := atoms_spec (ws := wsX10_closeIfPaid) B.pre
  have hown : s.vm.findClass RX10 = some m.cls := findClass_of_methodNamed B.named
  have hlocks := B.notSynchronized
  subst hsz
  have hD := hD0.self (sz := s.heap.size)
  generalize hAe : va_A [(oX10 w0 v0 v1 v2 v3 v4 g5 g6 (nI ed) g8 v9 (nI nb) g11 g12 v13 g14 g15 g16 g17 g18 g19 g20 g21 g22 g23 g24 g25 g26 v27 v28 v29 v30 v31 v32 v33 v34 v35 v36 v37 (nI ol)), (v0, .inl (cA 0, 326, .inl fs))] s.heap.size = A at hD hZ ⊢
  have hA : ∀ q : Nat, s.heap.size ≤ q → A q := fun q h => by rw [← hAe]; exact Or.inr h
  have hS : va_S A s.heap s.heap [] := va_S.rf
  have hP : va_P D vwCl [(oX10 w0 v0 v1 v2 v3 v4 g5 g6 (nI ed) g8 v9 (nI nb) g11 g12 v13 g14 g15 g16 g17 g18 g19 g20 g21 g22 g23 g24 g25 g26 v27 v28 v29 v30 v31 v32 v33 v34 v35 v36 v37 (nI ol)), (v0, .inl (cA 0, 326, .inl fs))] s.heap := hP
  have hl := lv_entry ([.ref w0, .int (nI mi)]) (n := 2) (Nat.le_of_ble_eq_true rfl)
  rw [lg_entry_eq]
  generalize (lg_sl ([.ref w0, .int (nI mi)]) ++ List.replicate (2 - (lg_sl ([.ref w0, .int (nI mi)])).length) Slot.unset).toArray = ls at hl ⊢
  have hl : lv_has ls 2 [(0, .ref w0), (1, .int (nI mi))] := hl
  refine lv_aload_n hx hb dX10_closeIfPaid_0 rfl (lv_at hl 0 rfl) ?_
  refine lv_iload_n hx hb dX10_closeIfPaid_1 rfl (lv_at hl 1 rfl) ?_
  obtain ⟨hPc, hDc, hFc⟩ := PDq.cut (wc := [(oX10 w0 v0 v1 v2 v3 v4 g5 g6 (nI ed) g8 v9 (nI nb) g11 g12 v13 g14 g15 g16 g17 g18 g19 g20 g21 g22 g23 g24 g25 g26 v27 v28 v29 v30 v31 v32 v33 v34 v35 v36 v37 (nI ol)), (v0, .inl (cA 0, 326, .inl fs))]) hP hD hS hA [0, 1] (by decide) rfl
  refine va_calli (va_runV (As := [.int (nI mi)]) (rest := []) ⟨hx, hb, hml, hown, hts⟩ (e_remainingOf l D cA sa w0 ed nb ol v0 v1 v2 v3 v4 v9 v13 v27 v28 v29 v30 v31 v32 v33 v34 v35 v36 v37 g8 g11 g12 g14 g15 g16 g17 g18 g19 g20 g21 g22 g23 g24 g26 g5 g6 g25 ra fs mi s.heap.size hAb hmi) (cwV 1 hts gX10_closeIfPaid_X10_remainingOf rfl rfl rfl (by decide +kernel) ⟨(Nat.le_of_ble_eq_true rfl), (Nat.le_of_ble_eq_true rfl)⟩) ⟨Wd.blind, va_recv hK hPc (ci := 11) (q0 := 0) rfl rfl, fun U hU hW => ⟨rfl, Wd.call hPc hDc hK hC hZ hS hFc U hU hW⟩⟩ rfl rfl hl.1 rfl (lv_room (Nat.le_of_ble_eq_true rfl)) dX10_closeIfPaid_2 ⟨(Nat.le_of_ble_eq_true rfl), (Nat.le_of_ble_eq_true rfl)⟩) hS (fun q _ h => hFc q h) hFc (fun rn1 u t H1 locs ht hvm hw hB hz1 hk1 hS => ?_)
  obtain ⟨hP1, hD1⟩ := hB
  rw [ht] at hP1
  obtain ⟨hP, hD⟩ := PDq.join (w := [(oX10 w0 v0 v1 v2 v3 v4 g5 g6 (nI ed) g8 v9 (nI nb) g11 g12 v13 g14 g15 g16 g17 g18 g19 g20 g21 g22 g23 g24 g25 g26 v27 v28 v29 v30 v31 v32 v33 v34 v35 v36 v37 (nI ol)), (v0, .inl (cA 0, 326, .inl fs))]) 0 hP hD [0, 1] [] rfl rfl (by decide) (by decide) hk1 hFc hP1 hD1 rfl
  generalize H1 = H at hP hS ⊢
  obtain rfl : rn1 = (remR ra mi) := hw
  refine lv_if_ne (tgt := 15) hx hb dX10_closeIfPaid_5 (by decide) (fun c2 => ?_) (fun c2 => ?_)
  · skip
    obtain ⟨hP9, hD9⟩ := PDq.sub (ws' := [(oX10 w0 v0 v1 v2 v3 v4 g5 g6 (nI ed) g8 v9 (nI nb) g11 g12 v13 g14 g15 g16 g17 g18 g19 g20 g21 g22 g23 g24 g25 g26 v27 v28 v29 v30 v31 v32 v33 v34 v35 v36 v37 (nI ol)), (v0, .inl (cA 0, 326, .inl fs))]) hP hD [0, 1] (by decide) rfl
    refine W.widen (k := 0) (n := 0) (Nat.le_of_ble_eq_true rfl) (Nat.le_of_ble_eq_true rfl) ?_
    exact (W.vret hx hb hr (fun t ht hW => ⟨⟨(), rfl, trivial, fs, hri, (by unfold clR; rw [if_neg c2]; exact hAb), by rw [ht]; exact hP9, hD9⟩, hS.F ht⟩) hS.2.2 dX10_closeIfPaid_15)
  · skip
    refine lv_aload_n hx hb dX10_closeIfPaid_8 rfl (lv_at hl 0 rfl) ?_
    refine lv_iload_n hx hb dX10_closeIfPaid_9 rfl (lv_at hl 1 rfl) ?_
    refine lv_iconst (v := 2) hx hb dX10_closeIfPaid_10 (by decide) ?_
    refine lv_iconst (v := 3) hx hb dX10_closeIfPaid_11 (by decide) ?_
    obtain ⟨hPc, hDc, hFc⟩ := PDq.cut (wc := [(oX10 w0 v0 v1 v2 v3 v4 g5 g6 (nI ed) g8 v9 (nI nb) g11 g12 v13 g14 g15 g16 g17 g18 g19 g20 g21 g22 g23 g24 g25 g26 v27 v28 v29 v30 v31 v32 v33 v34 v35 v36 v37 (nI ol)), (v0, .inl (cA 0, 326, .inl fs))]) hP hD hS hA [0, 1] (by decide) rfl
    refine va_callv (va_runV (As := [.int (nI mi), .int 2, .int 3]) (rest := []) ⟨hx, hb, hml, hown, hts⟩ (e_set l D cA sa w0 ed nb ol v0 v1 v2 v3 v4 v9 v13 v27 v28 v29 v30 v31 v32 v33 v34 v35 v36 v37 g8 g11 g12 g14 g15 g16 g17 g18 g19 g20 g21 g22 g23 g24 g26 g5 g6 g25 cn pq en dy fs ra mi 2 3 H.size hAb hcn hpq hen hdy hri hmi (by omega)) (cwV 3 hts gX10_closeIfPaid_X10_set rfl rfl rfl (by decide +kernel) ⟨(Nat.le_of_ble_eq_true rfl), (Nat.le_of_ble_eq_true rfl)⟩) ⟨Wd.blind, va_recv hK hPc (ci := 11) (q0 := 0) rfl rfl, fun U hU hW => ⟨rfl, Wd.call hPc hDc hK hC hZ hS hFc U hU hW⟩⟩ rfl rfl hl.1 rfl (lv_room (Nat.le_of_ble_eq_true rfl)) dX10_closeIfPaid_12 ⟨(Nat.le_of_ble_eq_true rfl), (Nat.le_of_ble_eq_true rfl)⟩) hS (fun q _ h => hFc q h) hFc (fun u t H1 locs ht hvm hw hB hz1 hk1 hS => ?_)
    obtain ⟨fn3, hn4, hn5, hP1, hD1⟩ := hB
    rw [ht] at hP1
    obtain ⟨hP, hD⟩ := PDq.join (w := [(oX10 w0 v0 v1 v2 v3 v4 g5 g6 (nI ed) g8 v9 (nI nb) g11 g12 v13 g14 g15 g16 g17 g18 g19 g20 g21 g22 g23 g24 g25 g26 v27 v28 v29 v30 v31 v32 v33 v34 v35 v36 v37 (nI ol)), (v0, .inl (cA 0, 326, .inl fn3))]) 0 hP hD [0, 1] [] rfl rfl (by decide) (by decide) hk1 hFc hP1 hD1 rfl
    generalize H1 = H at hP hS ⊢
    obtain ⟨hP9, hD9⟩ := PDq.sub (ws' := [(oX10 w0 v0 v1 v2 v3 v4 g5 g6 (nI ed) g8 v9 (nI nb) g11 g12 v13 g14 g15 g16 g17 g18 g19 g20 g21 g22 g23 g24 g25 g26 v27 v28 v29 v30 v31 v32 v33 v34 v35 v36 v37 (nI ol)), (v0, .inl (cA 0, 326, .inl fn3))]) hP hD [0, 1] (by decide) rfl
    refine W.widen (k := 0) (n := 0) (Nat.le_of_ble_eq_true rfl) (Nat.le_of_ble_eq_true rfl) ?_
    exact (W.vret hx hb hr (fun t ht hW => ⟨⟨(), rfl, trivial, fn3, hn4, (by unfold clR; rw [if_pos c2]; exact hn5), by rw [ht]; exact hP9, hD9⟩, hS.F ht⟩) hS.2.2 dX10_closeIfPaid_15)

set_option maxHeartbeats 4000000 in
set_option maxRecDepth 100000 in
/-- reference, exactly: isRipe -/
theorem e_isRipe (l : Launch) (D : va_G) (cA : Nat → ClassId) (sa : Nat → Nat) (w0 : Nat) (ed : Nat) (nb : Nat) (ol : Nat) (v0 : Nat) (v1 : Nat) (v2 : Nat) (v3 : Nat) (v4 : Nat) (v9 : Nat) (v13 : Nat) (v27 : Nat) (v28 : Nat) (v29 : Nat) (v30 : Nat) (v31 : Nat) (v32 : Nat) (v33 : Nat) (v34 : Nat) (v35 : Nat) (v36 : Nat) (v37 : Nat) (g8 : Int32) (g11 : Int32) (g12 : Int32) (g14 : Int32) (g15 : Int32) (g16 : Int32) (g17 : Int32) (g18 : Int32) (g19 : Int32) (g20 : Int32) (g21 : Int32) (g22 : Int32) (g23 : Int32) (g24 : Int32) (g26 : Int32) (g5 : Int64) (g6 : Int64) (g25 : Int64) (cn : Nat) (pq : Nat) (en : Nat) (dy : Nat) (fs : Nat → Int32) (ra : Nat → Int32) (mi : Nat) (sz : Nat) (hAb : Ab ra fs) (hcn : cn ≤ 10) (hpq : pq ≤ 8) (hen : en ≤ 60) (hdy : dy ≤ 20000) (hri : RI cn pq en dy fs) (hmi : mi < 10) : Met l yX10_isRipe wsX10_isRipe ({ frames := 1, cells := 0, slots := 0, locals := 22 }) (va_Pc [.ref w0, .int (nI mi)] (Wd D cA sa [(oX10 w0 v0 v1 v2 v3 v4 g5 g6 (nI ed) g8 v9 (nI nb) g11 g12 v13 g14 g15 g16 g17 g18 g19 g20 g21 g22 g23 g24 g25 g26 v27 v28 v29 v30 v31 v32 v33 v34 v35 v36 v37 (nI ol)), (v0, .inl (cA 0, 326, .inl fs))] sz)) (va_Qi (fun (r : Int32) (_ : Unit) => (r = 1 ∧ (ra (16 + 7 * mi + 2) = 1 ∧ ra (16 + 7 * mi + 4) + ra 3 ≤ ra 4)) ∨ (r = 0 ∧ ¬ (ra (16 + 7 * mi + 2) = 1 ∧ ra (16 + 7 * mi + 4) + ra 3 ≤ ra 4))) (fun (_ : Unit) t => Wq D (va_A [(oX10 w0 v0 v1 v2 v3 v4 g5 g6 (nI ed) g8 v9 (nI nb) g11 g12 v13 g14 g15 g16 g17 g18 g19 g20 g21 g22 g23 g24 g25 g26 v27 v28 v29 v30 v31 v32 v33 v34 v35 v36 v37 (nI ol)), (v0, .inl (cA 0, 326, .inl fs))] sz) [(oX10 w0 v0 v1 v2 v3 v4 g5 g6 (nI ed) g8 v9 (nI nb) g11 g12 v13 g14 g15 g16 g17 g18 g19 g20 g21 g22 g23 g24 g25 g26 v27 v28 v29 v30 v31 v32 v33 v34 v35 v36 v37 (nI ol)), (v0, .inl (cA 0, 326, .inl fs))] t) (va_A [(oX10 w0 v0 v1 v2 v3 v4 g5 g6 (nI ed) g8 v9 (nI nb) g11 g12 v13 g14 g15 g16 g17 g18 g19 g20 g21 g22 g23 g24 g25 g26 v27 v28 v29 v30 v31 v32 v33 v34 v35 v36 v37 (nI ol)), (v0, .inl (cA 0, 326, .inl fs))] sz)) 0 0 (va_A [(oX10 w0 v0 v1 v2 v3 v4 g5 g6 (nI ed) g8 v9 (nI nb) g11 g12 v13 g14 g15 g16 g17 g18 g19 g20 g21 g22 g23 g24 g25 g26 v27 v28 v29 v30 v31 v32 v33 v34 v35 v36 v37 (nI ol)), (v0, .inl (cA 0, 326, .inl fs))] sz) := by
  refine Met.ofW (cc := cX10_isRipe) (maxL := 2) (ret := (some .boolean)) (by decide) rfl ?_
  intro p e s m args below meth c s₁ B hml hv
  obtain ⟨rfl, hsz, hP, hK, hD0, hC, hZ⟩ := hv
  have hx := B.exec
  have hb := B.bytes
  have hr := B.returns
  have hts := atoms_spec (ws := wsX10_isRipe) B.pre
  have hown : s.vm.findClass RX10 = some m.cls := findClass_of_methodNamed B.named
  have hlocks := B.notSynchronized
  subst hsz
  have hD := hD0.self (sz := s.heap.size)
  generalize hAe : va_A [(oX10 w0 v0 v1 v2 v3 v4 g5 g6 (nI ed) g8 v9 (nI nb) g11 g12 v13 g14 g15 g16 g17 g18 g19 g20 g21 g22 g23 g24 g25 g26 v27 v28 v29 v30 v31 v32 v33 v34 v35 v36 v37 (nI ol)), (v0, .inl (cA 0, 326, .inl fs))] s.heap.size = A at hD hZ ⊢
  have hA : ∀ q : Nat, s.heap.size ≤ q → A q := fun q h => by rw [← hAe]; exact Or.inr h
  have hS : va_S A s.heap s.heap [] := va_S.rf
  have hP : va_P D vwCl [(oX10 w0 v0 v1 v2 v3 v4 g5 g6 (nI ed) g8 v9 (nI nb) g11 g12 v13 g14 g15 g16 g17 g18 g19 g20 g21 g22 g23 g24 g25 g26 v27 v28 v29 v30 v31 v32 v33 v34 v35 v36 v37 (nI ol)), (v0, .inl (cA 0, 326, .inl fs))] s.heap := hP
  have hl := lv_entry ([.ref w0, .int (nI mi)]) (n := 2) (Nat.le_of_ble_eq_true rfl)
  rw [lg_entry_eq]
  generalize (lg_sl ([.ref w0, .int (nI mi)]) ++ List.replicate (2 - (lg_sl ([.ref w0, .int (nI mi)])).length) Slot.unset).toArray = ls at hl ⊢
  have hl : lv_has ls 2 [(0, .ref w0), (1, .int (nI mi))] := hl
  have inX10 : ∀ w ∈ u_ws RX10 TX10 39, w ∈ wsX10_isRipe := by decide +kernel
  refine lv_aload_n hx hb dX10_isRipe_0 rfl (lv_at hl 0 rfl) ?_
  refine lv_iload_n hx hb dX10_isRipe_1 rfl (lv_at hl 1 rfl) ?_
  refine lv_iconst (v := 2) hx hb dX10_isRipe_2 (by decide) ?_
  obtain ⟨hPc, hDc, hFc⟩ := PDq.cut (wc := [(oX10 w0 v0 v1 v2 v3 v4 g5 g6 (nI ed) g8 v9 (nI nb) g11 g12 v13 g14 g15 g16 g17 g18 g19 g20 g21 g22 g23 g24 g25 g26 v27 v28 v29 v30 v31 v32 v33 v34 v35 v36 v37 (nI ol)), (v0, .inl (cA 0, 326, .inl fs))]) hP hD hS hA [0, 1] (by decide) rfl
  refine va_calli (va_runV (As := [.int (nI mi), .int 2]) (rest := []) ⟨hx, hb, hml, hown, hts⟩ (e_of l D cA sa w0 ed nb ol v0 v1 v2 v3 v4 v9 v13 v27 v28 v29 v30 v31 v32 v33 v34 v35 v36 v37 g8 g11 g12 g14 g15 g16 g17 g18 g19 g20 g21 g22 g23 g24 g26 g5 g6 g25 ra fs mi 2 s.heap.size hAb hmi (by omega)) (cwV 2 hts gX10_isRipe_X10_of rfl rfl rfl (by decide +kernel) ⟨(Nat.le_of_ble_eq_true rfl), (Nat.le_of_ble_eq_true rfl)⟩) ⟨Wd.blind, va_recv hK hPc (ci := 11) (q0 := 0) rfl rfl, fun U hU hW => ⟨rfl, Wd.call hPc hDc hK hC hZ hS hFc U hU hW⟩⟩ rfl rfl hl.1 rfl (lv_room (Nat.le_of_ble_eq_true rfl)) dX10_isRipe_3 ⟨(Nat.le_of_ble_eq_true rfl), (Nat.le_of_ble_eq_true rfl)⟩) hS (fun q _ h => hFc q h) hFc (fun rn1 u t H1 locs ht hvm hw hB hz1 hk1 hS => ?_)
  obtain ⟨hP1, hD1⟩ := hB
  rw [ht] at hP1
  obtain ⟨hP, hD⟩ := PDq.join (w := [(oX10 w0 v0 v1 v2 v3 v4 g5 g6 (nI ed) g8 v9 (nI nb) g11 g12 v13 g14 g15 g16 g17 g18 g19 g20 g21 g22 g23 g24 g25 g26 v27 v28 v29 v30 v31 v32 v33 v34 v35 v36 v37 (nI ol)), (v0, .inl (cA 0, 326, .inl fs))]) 0 hP hD [0, 1] [] rfl rfl (by decide) (by decide) hk1 hFc hP1 hD1 rfl
  generalize H1 = H at hP hS ⊢
  obtain rfl : rn1 = (ra (16 + 7 * mi + 2)) := hw.trans rfl
  refine lv_iconst (v := 1) hx hb dX10_isRipe_6 (by decide) ?_
  refine lv_icmp_ne (tgt := 36) hx hb dX10_isRipe_7 (by decide) (fun c2 => ?_) (fun c2 => ?_)
  · skip
    refine lv_iconst (v := 0) hx hb dX10_isRipe_36 (by decide) ?_
    obtain ⟨hP9, hD9⟩ := PDq.sub (ws' := [(oX10 w0 v0 v1 v2 v3 v4 g5 g6 (nI ed) g8 v9 (nI nb) g11 g12 v13 g14 g15 g16 g17 g18 g19 g20 g21 g22 g23 g24 g25 g26 v27 v28 v29 v30 v31 v32 v33 v34 v35 v36 v37 (nI ol)), (v0, .inl (cA 0, 326, .inl fs))]) hP hD [0, 1] (by decide) rfl
    refine W.widen (k := 0) (n := 0) (Nat.le_of_ble_eq_true rfl) (Nat.le_of_ble_eq_true rfl) ?_
    exact (W.zret (v := 0) hx hb hr (by first | rfl | decide) (fun t ht hW => ⟨⟨0, (), rfl, (Or.inr ⟨rfl, (fun q9 => c2 q9.1)⟩), by rw [ht]; exact hP9, hD9⟩, hS.F ht⟩) hS.2.2 dX10_isRipe_37)
  · skip
    refine lv_aload_n hx hb dX10_isRipe_10 rfl (lv_at hl 0 rfl) ?_
    refine va_get (D := D) (ci := 11) (v := .ref v0) (C := RX10) (T := TX10) (N := 39) hx hb hts inX10 hown hK hP 0 rfl rfl 0 (by decide) (hts (.fieldLink RX10 7 "EscrowDeskModel" "s" "[I") (by decide +kernel)) (fun _ h9 => h9) rfl dX10_isRipe_11 ?_
    refine lv_iconst (v := 4) hx hb dX10_isRipe_14 (by decide) ?_
    refine va_iald hx hb hK hP 1 0 rfl rfl (vp_in_iff.mpr (by decide)) dX10_isRipe_15 ?_
    refine lv_topi (fun yn3 eyn3 => ?_)
    obtain rfl : yn3 = (ra 4) := eyn3.trans ((Ab.get hAb (j := 4) (by omega) (by omega)).trans rfl)
    refine lv_aload_n hx hb dX10_isRipe_16 rfl (lv_at hl 0 rfl) ?_
    refine lv_iload_n hx hb dX10_isRipe_17 rfl (lv_at hl 1 rfl) ?_
    refine lv_iconst (v := 4) hx hb dX10_isRipe_18 (by decide) ?_
    obtain ⟨hPc, hDc, hFc⟩ := PDq.cut (wc := [(oX10 w0 v0 v1 v2 v3 v4 g5 g6 (nI ed) g8 v9 (nI nb) g11 g12 v13 g14 g15 g16 g17 g18 g19 g20 g21 g22 g23 g24 g25 g26 v27 v28 v29 v30 v31 v32 v33 v34 v35 v36 v37 (nI ol)), (v0, .inl (cA 0, 326, .inl fs))]) hP hD hS hA [0, 1] (by decide) rfl
    refine va_calli (va_runV (As := [.int (nI mi), .int 4]) (rest := [.int (ra 4)]) ⟨hx, hb, hml, hown, hts⟩ (e_of l D cA sa w0 ed nb ol v0 v1 v2 v3 v4 v9 v13 v27 v28 v29 v30 v31 v32 v33 v34 v35 v36 v37 g8 g11 g12 g14 g15 g16 g17 g18 g19 g20 g21 g22 g23 g24 g26 g5 g6 g25 ra fs mi 4 H.size hAb hmi (by omega)) (cwV 2 hts gX10_isRipe_X10_of rfl rfl rfl (by decide +kernel) ⟨(Nat.le_of_ble_eq_true rfl), (Nat.le_of_ble_eq_true rfl)⟩) ⟨Wd.blind, va_recv hK hPc (ci := 11) (q0 := 0) rfl rfl, fun U hU hW => ⟨rfl, Wd.call hPc hDc hK hC hZ hS hFc U hU hW⟩⟩ rfl rfl hl.1 rfl (lv_room (Nat.le_of_ble_eq_true rfl)) dX10_isRipe_19 ⟨(Nat.le_of_ble_eq_true rfl), (Nat.le_of_ble_eq_true rfl)⟩) hS (fun q _ h => hFc q h) hFc (fun rn4 u t H1 locs ht hvm hw hB hz1 hk1 hS => ?_)
    obtain ⟨hP1, hD1⟩ := hB
    rw [ht] at hP1
    obtain ⟨hP, hD⟩ := PDq.join (w := [(oX10 w0 v0 v1 v2 v3 v4 g5 g6 (nI ed) g8 v9 (nI nb) g11 g12 v13 g14 g15 g16 g17 g18 g19 g20 g21 g22 g23 g24 g25 g26 v27 v28 v29 v30 v31 v32 v33 v34 v35 v36 v37 (nI ol)), (v0, .inl (cA 0, 326, .inl fs))]) 0 hP hD [0, 1] [] rfl rfl (by decide) (by decide) hk1 hFc hP1 hD1 rfl
    generalize H1 = H at hP hS ⊢
    obtain rfl : rn4 = (ra (16 + 7 * mi + 4)) := hw.trans rfl
    refine lv_aload_n hx hb dX10_isRipe_22 rfl (lv_at hl 0 rfl) ?_
    refine va_get (D := D) (ci := 11) (v := .ref v0) (C := RX10) (T := TX10) (N := 39) hx hb hts inX10 hown hK hP 0 rfl rfl 0 (by decide) (hts (.fieldLink RX10 7 "EscrowDeskModel" "s" "[I") (by decide +kernel)) (fun _ h9 => h9) rfl dX10_isRipe_23 ?_
    refine lv_iconst (v := 3) hx hb dX10_isRipe_26 (by decide) ?_
    refine va_iald hx hb hK hP 1 0 rfl rfl (vp_in_iff.mpr (by decide)) dX10_isRipe_27 ?_
    refine lv_topi (fun yn5 eyn5 => ?_)
    obtain rfl : yn5 = (ra 3) := eyn5.trans ((Ab.get hAb (j := 3) (by omega) (by omega)).trans rfl)
    refine lv_iadd hx hb dX10_isRipe_28 ?_
    refine lv_topi (fun yn6 eyn6 => ?_)
    obtain rfl : yn6 = ((ra (16 + 7 * mi + 4)) + (ra 3)) := eyn6
    refine lv_icmp_lt (tgt := 36) hx hb dX10_isRipe_29 (by decide) (fun c7 => ?_) (fun c7 => ?_)
    · skip
      refine lv_iconst (v := 0) hx hb dX10_isRipe_36 (by decide) ?_
      obtain ⟨hP9, hD9⟩ := PDq.sub (ws' := [(oX10 w0 v0 v1 v2 v3 v4 g5 g6 (nI ed) g8 v9 (nI nb) g11 g12 v13 g14 g15 g16 g17 g18 g19 g20 g21 g22 g23 g24 g25 g26 v27 v28 v29 v30 v31 v32 v33 v34 v35 v36 v37 (nI ol)), (v0, .inl (cA 0, 326, .inl fs))]) hP hD [0, 1] (by decide) rfl
      refine W.widen (k := 0) (n := 0) (Nat.le_of_ble_eq_true rfl) (Nat.le_of_ble_eq_true rfl) ?_
      exact (W.zret (v := 0) hx hb hr (by first | rfl | decide) (fun t ht hW => ⟨⟨0, (), rfl, (Or.inr ⟨rfl, (fun q9 => absurd c7 (Int32.not_lt.mpr q9.2))⟩), by rw [ht]; exact hP9, hD9⟩, hS.F ht⟩) hS.2.2 dX10_isRipe_37)
    · skip
      refine lv_iconst (v := 1) hx hb dX10_isRipe_32 (by decide) ?_
      refine lv_goto (tgt := 37) hx hb dX10_isRipe_33 (by decide) ?_
      obtain ⟨hP9, hD9⟩ := PDq.sub (ws' := [(oX10 w0 v0 v1 v2 v3 v4 g5 g6 (nI ed) g8 v9 (nI nb) g11 g12 v13 g14 g15 g16 g17 g18 g19 g20 g21 g22 g23 g24 g25 g26 v27 v28 v29 v30 v31 v32 v33 v34 v35 v36 v37 (nI ol)), (v0, .inl (cA 0, 326, .inl fs))]) hP hD [0, 1] (by decide) rfl
      refine W.widen (k := 0) (n := 0) (Nat.le_of_ble_eq_true rfl) (Nat.le_of_ble_eq_true rfl) ?_
      exact (W.zret (v := 1) hx hb hr (by first | rfl | decide) (fun t ht hW => ⟨⟨1, (), rfl, (Or.inl ⟨rfl, ⟨c2, Int32.not_lt.mp c7⟩⟩), by rw [ht]; exact hP9, hD9⟩, hS.F ht⟩) hS.2.2 dX10_isRipe_37)

set_option maxHeartbeats 4000000 in
set_option maxRecDepth 100000 in
/-- reference, exactly: isFact -/
theorem e_isFact (l : Launch) (D : va_G) (cA : Nat → ClassId) (sa : Nat → Nat) (w0 : Nat) (ed : Nat) (nb : Nat) (ol : Nat) (v0 : Nat) (v1 : Nat) (v2 : Nat) (v3 : Nat) (v4 : Nat) (v9 : Nat) (v13 : Nat) (v27 : Nat) (v28 : Nat) (v29 : Nat) (v30 : Nat) (v31 : Nat) (v32 : Nat) (v33 : Nat) (v34 : Nat) (v35 : Nat) (v36 : Nat) (v37 : Nat) (g8 : Int32) (g11 : Int32) (g12 : Int32) (g14 : Int32) (g15 : Int32) (g16 : Int32) (g17 : Int32) (g18 : Int32) (g19 : Int32) (g20 : Int32) (g21 : Int32) (g22 : Int32) (g23 : Int32) (g24 : Int32) (g26 : Int32) (g5 : Int64) (g6 : Int64) (g25 : Int64) (cn : Nat) (pq : Nat) (en : Nat) (dy : Nat) (fs : Nat → Int32) (ra : Nat → Int32) (mi : Nat) (a : Int32) (b : Int32) (d : Int32) (x : Int32) (y : Int32) (sz : Nat) (hAb : Ab ra fs) (hcn : cn ≤ 10) (hpq : pq ≤ 8) (hen : en ≤ 60) (hdy : dy ≤ 20000) (hri : RI cn pq en dy fs) (hmi : mi < 10) : Met l yX10_isFact wsX10_isFact ({ frames := 1, cells := 0, slots := 0, locals := 22 }) (va_Pc [.ref w0, .int (nI mi), .int a, .int b, .int d, .int x, .int y] (Wd D cA sa [(oX10 w0 v0 v1 v2 v3 v4 g5 g6 (nI ed) g8 v9 (nI nb) g11 g12 v13 g14 g15 g16 g17 g18 g19 g20 g21 g22 g23 g24 g25 g26 v27 v28 v29 v30 v31 v32 v33 v34 v35 v36 v37 (nI ol)), (v0, .inl (cA 0, 326, .inl fs))] sz)) (va_Qi (fun (r : Int32) (_ : Unit) => (r = 1 ∧ (fcP ra mi a b d x y)) ∨ (r = 0 ∧ ¬ (fcP ra mi a b d x y))) (fun (_ : Unit) t => Wq D (va_A [(oX10 w0 v0 v1 v2 v3 v4 g5 g6 (nI ed) g8 v9 (nI nb) g11 g12 v13 g14 g15 g16 g17 g18 g19 g20 g21 g22 g23 g24 g25 g26 v27 v28 v29 v30 v31 v32 v33 v34 v35 v36 v37 (nI ol)), (v0, .inl (cA 0, 326, .inl fs))] sz) [(oX10 w0 v0 v1 v2 v3 v4 g5 g6 (nI ed) g8 v9 (nI nb) g11 g12 v13 g14 g15 g16 g17 g18 g19 g20 g21 g22 g23 g24 g25 g26 v27 v28 v29 v30 v31 v32 v33 v34 v35 v36 v37 (nI ol)), (v0, .inl (cA 0, 326, .inl fs))] t) (va_A [(oX10 w0 v0 v1 v2 v3 v4 g5 g6 (nI ed) g8 v9 (nI nb) g11 g12 v13 g14 g15 g16 g17 g18 g19 g20 g21 g22 g23 g24 g25 g26 v27 v28 v29 v30 v31 v32 v33 v34 v35 v36 v37 (nI ol)), (v0, .inl (cA 0, 326, .inl fs))] sz)) 0 0 (va_A [(oX10 w0 v0 v1 v2 v3 v4 g5 g6 (nI ed) g8 v9 (nI nb) g11 g12 v13 g14 g15 g16 g17 g18 g19 g20 g21 g22 g23 g24 g25 g26 v27 v28 v29 v30 v31 v32 v33 v34 v35 v36 v37 (nI ol)), (v0, .inl (cA 0, 326, .inl fs))] sz) := by
  refine Met.ofW (cc := cX10_isFact) (maxL := 7) (ret := (some .boolean)) (by decide) rfl ?_
  intro p e s m args below meth c s₁ B hml hv
  obtain ⟨rfl, hsz, hP, hK, hD0, hC, hZ⟩ := hv
  have hx := B.exec
  have hb := B.bytes
  have hr := B.returns
  have hts := atoms_spec (ws := wsX10_isFact) B.pre
  have hown : s.vm.findClass RX10 = some m.cls := findClass_of_methodNamed B.named
  have hlocks := B.notSynchronized
  subst hsz
  have hD := hD0.self (sz := s.heap.size)
  generalize hAe : va_A [(oX10 w0 v0 v1 v2 v3 v4 g5 g6 (nI ed) g8 v9 (nI nb) g11 g12 v13 g14 g15 g16 g17 g18 g19 g20 g21 g22 g23 g24 g25 g26 v27 v28 v29 v30 v31 v32 v33 v34 v35 v36 v37 (nI ol)), (v0, .inl (cA 0, 326, .inl fs))] s.heap.size = A at hD hZ ⊢
  have hA : ∀ q : Nat, s.heap.size ≤ q → A q := fun q h => by rw [← hAe]; exact Or.inr h
  have hS : va_S A s.heap s.heap [] := va_S.rf
  have hP : va_P D vwCl [(oX10 w0 v0 v1 v2 v3 v4 g5 g6 (nI ed) g8 v9 (nI nb) g11 g12 v13 g14 g15 g16 g17 g18 g19 g20 g21 g22 g23 g24 g25 g26 v27 v28 v29 v30 v31 v32 v33 v34 v35 v36 v37 (nI ol)), (v0, .inl (cA 0, 326, .inl fs))] s.heap := hP
  have hl := lv_entry ([.ref w0, .int (nI mi), .int a, .int b, .int d, .int x, .int y]) (n := 7) (Nat.le_of_ble_eq_true rfl)
  rw [lg_entry_eq]
  generalize (lg_sl ([.ref w0, .int (nI mi), .int a, .int b, .int d, .int x, .int y]) ++ List.replicate (7 - (lg_sl ([.ref w0, .int (nI mi), .int a, .int b, .int d, .int x, .int y])).length) Slot.unset).toArray = ls at hl ⊢
  have hl : lv_has ls 7 [(0, .ref w0), (1, .int (nI mi)), (2, .int a), (3, .int b), (4, .int d), (5, .int x), (6, .int y)] := hl
  have inX10 : ∀ w ∈ u_ws RX10 TX10 39, w ∈ wsX10_isFact := by decide +kernel
  refine lv_iload_n hx hb dX10_isFact_0 rfl (lv_at hl 2 rfl) ?_
  by_cases hn1 : a = 0
  · skip
    refine W.eq (g2 := F0 m 1 ls [.int 0]) (by rw [hn1]) ?_
    refine lv_tableIn (off := 35) (tgt := 36) hx hb dX10_isFact_1 (by decide) (by decide) (by decide) (by decide) ?_
    refine lv_iload hx hb dX10_isFact_36 (lv_at hl 4 rfl) ?_
    refine lv_iload_n hx hb dX10_isFact_38 rfl (lv_at hl 3 rfl) ?_
    refine lv_icmp_lt (tgt := 46) hx hb dX10_isFact_39 (by decide) (fun c2 => ?_) (fun c2 => ?_)
    · skip
      refine lv_iconst (v := 0) hx hb dX10_isFact_46 (by decide) ?_
      obtain ⟨hP9, hD9⟩ := PDq.sub (ws' := [(oX10 w0 v0 v1 v2 v3 v4 g5 g6 (nI ed) g8 v9 (nI nb) g11 g12 v13 g14 g15 g16 g17 g18 g19 g20 g21 g22 g23 g24 g25 g26 v27 v28 v29 v30 v31 v32 v33 v34 v35 v36 v37 (nI ol)), (v0, .inl (cA 0, 326, .inl fs))]) hP hD [0, 1] (by decide) rfl
      refine W.widen (k := 0) (n := 0) (Nat.le_of_ble_eq_true rfl) (Nat.le_of_ble_eq_true rfl) ?_
      exact (W.zret (v := 0) hx hb hr (by first | rfl | decide) (fun t ht hW => ⟨⟨0, (), rfl, (Or.inr ⟨rfl, (fun q9 => absurd c2 (Int32.not_lt.mpr ((fc_0 hn1).mp q9)))⟩), by rw [ht]; exact hP9, hD9⟩, hS.F ht⟩) hS.2.2 dX10_isFact_47)
    · skip
      refine lv_iconst (v := 1) hx hb dX10_isFact_42 (by decide) ?_
      refine lv_goto (tgt := 47) hx hb dX10_isFact_43 (by decide) ?_
      obtain ⟨hP9, hD9⟩ := PDq.sub (ws' := [(oX10 w0 v0 v1 v2 v3 v4 g5 g6 (nI ed) g8 v9 (nI nb) g11 g12 v13 g14 g15 g16 g17 g18 g19 g20 g21 g22 g23 g24 g25 g26 v27 v28 v29 v30 v31 v32 v33 v34 v35 v36 v37 (nI ol)), (v0, .inl (cA 0, 326, .inl fs))]) hP hD [0, 1] (by decide) rfl
      refine W.widen (k := 0) (n := 0) (Nat.le_of_ble_eq_true rfl) (Nat.le_of_ble_eq_true rfl) ?_
      exact (W.zret (v := 1) hx hb hr (by first | rfl | decide) (fun t ht hW => ⟨⟨1, (), rfl, (Or.inl ⟨rfl, ((fc_0 hn1).mpr (Int32.not_lt.mp c2))⟩), by rw [ht]; exact hP9, hD9⟩, hS.F ht⟩) hS.2.2 dX10_isFact_47)
  · skip
    by_cases hn3 : a = 1
    · skip
      refine W.eq (g2 := F0 m 1 ls [.int 1]) (by rw [hn3]) ?_
      refine lv_tableIn (off := 47) (tgt := 48) hx hb dX10_isFact_1 (by decide) (by decide) (by decide) (by decide) ?_
      refine lv_iload hx hb dX10_isFact_48 (lv_at hl 5 rfl) ?_
      refine lv_iload_n hx hb dX10_isFact_50 rfl (lv_at hl 3 rfl) ?_
      refine lv_ishr hx hb dX10_isFact_51 ?_
      refine lv_topi (fun yn4 eyn4 => ?_)
      obtain rfl : yn4 = (x >>> (b &&& 31)) := eyn4
      refine lv_iconst (v := 1) hx hb dX10_isFact_52 (by decide) ?_
      refine lv_iand hx hb dX10_isFact_53 ?_
      refine lv_topi (fun yn5 eyn5 => ?_)
      obtain rfl : yn5 = ((x >>> (b &&& 31)) &&& 1) := eyn5
      refine lv_iconst (v := 1) hx hb dX10_isFact_54 (by decide) ?_
      refine lv_icmp_ne (tgt := 62) hx hb dX10_isFact_55 (by decide) (fun c6 => ?_) (fun c6 => ?_)
      · skip
        refine lv_iconst (v := 0) hx hb dX10_isFact_62 (by decide) ?_
        obtain ⟨hP9, hD9⟩ := PDq.sub (ws' := [(oX10 w0 v0 v1 v2 v3 v4 g5 g6 (nI ed) g8 v9 (nI nb) g11 g12 v13 g14 g15 g16 g17 g18 g19 g20 g21 g22 g23 g24 g25 g26 v27 v28 v29 v30 v31 v32 v33 v34 v35 v36 v37 (nI ol)), (v0, .inl (cA 0, 326, .inl fs))]) hP hD [0, 1] (by decide) rfl
        refine W.widen (k := 0) (n := 0) (Nat.le_of_ble_eq_true rfl) (Nat.le_of_ble_eq_true rfl) ?_
        exact (W.zret (v := 0) hx hb hr (by first | rfl | decide) (fun t ht hW => ⟨⟨0, (), rfl, (Or.inr ⟨rfl, (fun q9 => c6 ((fc_1 hn3).mp q9))⟩), by rw [ht]; exact hP9, hD9⟩, hS.F ht⟩) hS.2.2 dX10_isFact_63)
      · skip
        refine lv_iconst (v := 1) hx hb dX10_isFact_58 (by decide) ?_
        refine lv_goto (tgt := 63) hx hb dX10_isFact_59 (by decide) ?_
        obtain ⟨hP9, hD9⟩ := PDq.sub (ws' := [(oX10 w0 v0 v1 v2 v3 v4 g5 g6 (nI ed) g8 v9 (nI nb) g11 g12 v13 g14 g15 g16 g17 g18 g19 g20 g21 g22 g23 g24 g25 g26 v27 v28 v29 v30 v31 v32 v33 v34 v35 v36 v37 (nI ol)), (v0, .inl (cA 0, 326, .inl fs))]) hP hD [0, 1] (by decide) rfl
        refine W.widen (k := 0) (n := 0) (Nat.le_of_ble_eq_true rfl) (Nat.le_of_ble_eq_true rfl) ?_
        exact (W.zret (v := 1) hx hb hr (by first | rfl | decide) (fun t ht hW => ⟨⟨1, (), rfl, (Or.inl ⟨rfl, ((fc_1 hn3).mpr c6)⟩), by rw [ht]; exact hP9, hD9⟩, hS.F ht⟩) hS.2.2 dX10_isFact_63)
    · skip
      by_cases hn7 : a = 2
      · skip
        refine W.eq (g2 := F0 m 1 ls [.int 2]) (by rw [hn7]) ?_
        refine lv_tableIn (off := 63) (tgt := 64) hx hb dX10_isFact_1 (by decide) (by decide) (by decide) (by decide) ?_
        refine lv_iload hx hb dX10_isFact_64 (lv_at hl 6 rfl) ?_
        refine lv_iload_n hx hb dX10_isFact_66 rfl (lv_at hl 3 rfl) ?_
        refine lv_ishr hx hb dX10_isFact_67 ?_
        refine lv_topi (fun yn8 eyn8 => ?_)
        obtain rfl : yn8 = (y >>> (b &&& 31)) := eyn8
        refine lv_iconst (v := 1) hx hb dX10_isFact_68 (by decide) ?_
        refine lv_iand hx hb dX10_isFact_69 ?_
        refine lv_topi (fun yn9 eyn9 => ?_)
        obtain rfl : yn9 = ((y >>> (b &&& 31)) &&& 1) := eyn9
        refine lv_iconst (v := 1) hx hb dX10_isFact_70 (by decide) ?_
        refine lv_icmp_ne (tgt := 78) hx hb dX10_isFact_71 (by decide) (fun c10 => ?_) (fun c10 => ?_)
        · skip
          refine lv_iconst (v := 0) hx hb dX10_isFact_78 (by decide) ?_
          obtain ⟨hP9, hD9⟩ := PDq.sub (ws' := [(oX10 w0 v0 v1 v2 v3 v4 g5 g6 (nI ed) g8 v9 (nI nb) g11 g12 v13 g14 g15 g16 g17 g18 g19 g20 g21 g22 g23 g24 g25 g26 v27 v28 v29 v30 v31 v32 v33 v34 v35 v36 v37 (nI ol)), (v0, .inl (cA 0, 326, .inl fs))]) hP hD [0, 1] (by decide) rfl
          refine W.widen (k := 0) (n := 0) (Nat.le_of_ble_eq_true rfl) (Nat.le_of_ble_eq_true rfl) ?_
          exact (W.zret (v := 0) hx hb hr (by first | rfl | decide) (fun t ht hW => ⟨⟨0, (), rfl, (Or.inr ⟨rfl, (fun q9 => c10 ((fc_2 hn7).mp q9))⟩), by rw [ht]; exact hP9, hD9⟩, hS.F ht⟩) hS.2.2 dX10_isFact_79)
        · skip
          refine lv_iconst (v := 1) hx hb dX10_isFact_74 (by decide) ?_
          refine lv_goto (tgt := 79) hx hb dX10_isFact_75 (by decide) ?_
          obtain ⟨hP9, hD9⟩ := PDq.sub (ws' := [(oX10 w0 v0 v1 v2 v3 v4 g5 g6 (nI ed) g8 v9 (nI nb) g11 g12 v13 g14 g15 g16 g17 g18 g19 g20 g21 g22 g23 g24 g25 g26 v27 v28 v29 v30 v31 v32 v33 v34 v35 v36 v37 (nI ol)), (v0, .inl (cA 0, 326, .inl fs))]) hP hD [0, 1] (by decide) rfl
          refine W.widen (k := 0) (n := 0) (Nat.le_of_ble_eq_true rfl) (Nat.le_of_ble_eq_true rfl) ?_
          exact (W.zret (v := 1) hx hb hr (by first | rfl | decide) (fun t ht hW => ⟨⟨1, (), rfl, (Or.inl ⟨rfl, ((fc_2 hn7).mpr c10)⟩), by rw [ht]; exact hP9, hD9⟩, hS.F ht⟩) hS.2.2 dX10_isFact_79)
      · skip
        by_cases hn11 : a = 3
        · skip
          refine W.eq (g2 := F0 m 1 ls [.int 3]) (by rw [hn11]) ?_
          refine lv_tableIn (off := 79) (tgt := 80) hx hb dX10_isFact_1 (by decide) (by decide) (by decide) (by decide) ?_
          refine lv_aload_n hx hb dX10_isFact_80 rfl (lv_at hl 0 rfl) ?_
          refine va_get (D := D) (ci := 11) (v := .ref v0) (C := RX10) (T := TX10) (N := 39) hx hb hts inX10 hown hK hP 0 rfl rfl 0 (by decide) (hts (.fieldLink RX10 7 "EscrowDeskModel" "s" "[I") (by decide +kernel)) (fun _ h9 => h9) rfl dX10_isFact_81 ?_
          refine lv_bipush (v := 10) hx hb dX10_isFact_84 (by decide) ?_
          refine va_iald hx hb hK hP 1 0 rfl rfl (vp_in_iff.mpr (by decide)) dX10_isFact_86 ?_
          refine lv_topi (fun yn12 eyn12 => ?_)
          obtain rfl : yn12 = (ra 10) := eyn12.trans ((Ab.get hAb (j := 10) (by omega) (by omega)).trans rfl)
          refine lv_iload_n hx hb dX10_isFact_87 rfl (lv_at hl 3 rfl) ?_
          refine lv_icmp_lt (tgt := 95) hx hb dX10_isFact_88 (by decide) (fun c13 => ?_) (fun c13 => ?_)
          · skip
            refine lv_iconst (v := 0) hx hb dX10_isFact_95 (by decide) ?_
            obtain ⟨hP9, hD9⟩ := PDq.sub (ws' := [(oX10 w0 v0 v1 v2 v3 v4 g5 g6 (nI ed) g8 v9 (nI nb) g11 g12 v13 g14 g15 g16 g17 g18 g19 g20 g21 g22 g23 g24 g25 g26 v27 v28 v29 v30 v31 v32 v33 v34 v35 v36 v37 (nI ol)), (v0, .inl (cA 0, 326, .inl fs))]) hP hD [0, 1] (by decide) rfl
            refine W.widen (k := 0) (n := 0) (Nat.le_of_ble_eq_true rfl) (Nat.le_of_ble_eq_true rfl) ?_
            exact (W.zret (v := 0) hx hb hr (by first | rfl | decide) (fun t ht hW => ⟨⟨0, (), rfl, (Or.inr ⟨rfl, (fun q9 => absurd c13 (Int32.not_lt.mpr ((fc_3 hn11).mp q9)))⟩), by rw [ht]; exact hP9, hD9⟩, hS.F ht⟩) hS.2.2 dX10_isFact_96)
          · skip
            refine lv_iconst (v := 1) hx hb dX10_isFact_91 (by decide) ?_
            refine lv_goto (tgt := 96) hx hb dX10_isFact_92 (by decide) ?_
            obtain ⟨hP9, hD9⟩ := PDq.sub (ws' := [(oX10 w0 v0 v1 v2 v3 v4 g5 g6 (nI ed) g8 v9 (nI nb) g11 g12 v13 g14 g15 g16 g17 g18 g19 g20 g21 g22 g23 g24 g25 g26 v27 v28 v29 v30 v31 v32 v33 v34 v35 v36 v37 (nI ol)), (v0, .inl (cA 0, 326, .inl fs))]) hP hD [0, 1] (by decide) rfl
            refine W.widen (k := 0) (n := 0) (Nat.le_of_ble_eq_true rfl) (Nat.le_of_ble_eq_true rfl) ?_
            exact (W.zret (v := 1) hx hb hr (by first | rfl | decide) (fun t ht hW => ⟨⟨1, (), rfl, (Or.inl ⟨rfl, ((fc_3 hn11).mpr (Int32.not_lt.mp c13))⟩), by rw [ht]; exact hP9, hD9⟩, hS.F ht⟩) hS.2.2 dX10_isFact_96)
        · skip
          by_cases hn14 : a = 4
          · skip
            refine W.eq (g2 := F0 m 1 ls [.int 4]) (by rw [hn14]) ?_
            refine lv_tableIn (off := 96) (tgt := 97) hx hb dX10_isFact_1 (by decide) (by decide) (by decide) (by decide) ?_
            refine lv_aload_n hx hb dX10_isFact_97 rfl (lv_at hl 0 rfl) ?_
            refine lv_iload_n hx hb dX10_isFact_98 rfl (lv_at hl 1 rfl) ?_
            refine lv_iconst (v := 5) hx hb dX10_isFact_99 (by decide) ?_
            obtain ⟨hPc, hDc, hFc⟩ := PDq.cut (wc := [(oX10 w0 v0 v1 v2 v3 v4 g5 g6 (nI ed) g8 v9 (nI nb) g11 g12 v13 g14 g15 g16 g17 g18 g19 g20 g21 g22 g23 g24 g25 g26 v27 v28 v29 v30 v31 v32 v33 v34 v35 v36 v37 (nI ol)), (v0, .inl (cA 0, 326, .inl fs))]) hP hD hS hA [0, 1] (by decide) rfl
            refine va_calli (va_runV (As := [.int (nI mi), .int 5]) (rest := []) ⟨hx, hb, hml, hown, hts⟩ (e_of l D cA sa w0 ed nb ol v0 v1 v2 v3 v4 v9 v13 v27 v28 v29 v30 v31 v32 v33 v34 v35 v36 v37 g8 g11 g12 g14 g15 g16 g17 g18 g19 g20 g21 g22 g23 g24 g26 g5 g6 g25 ra fs mi 5 s.heap.size hAb hmi (by omega)) (cwV 2 hts gX10_isFact_X10_of rfl rfl rfl (by decide +kernel) ⟨(Nat.le_of_ble_eq_true rfl), (Nat.le_of_ble_eq_true rfl)⟩) ⟨Wd.blind, va_recv hK hPc (ci := 11) (q0 := 0) rfl rfl, fun U hU hW => ⟨rfl, Wd.call hPc hDc hK hC hZ hS hFc U hU hW⟩⟩ rfl rfl hl.1 rfl (lv_room (Nat.le_of_ble_eq_true rfl)) dX10_isFact_100 ⟨(Nat.le_of_ble_eq_true rfl), (Nat.le_of_ble_eq_true rfl)⟩) hS (fun q _ h => hFc q h) hFc (fun rn15 u t H1 locs ht hvm hw hB hz1 hk1 hS => ?_)
            obtain ⟨hP1, hD1⟩ := hB
            rw [ht] at hP1
            obtain ⟨hP, hD⟩ := PDq.join (w := [(oX10 w0 v0 v1 v2 v3 v4 g5 g6 (nI ed) g8 v9 (nI nb) g11 g12 v13 g14 g15 g16 g17 g18 g19 g20 g21 g22 g23 g24 g25 g26 v27 v28 v29 v30 v31 v32 v33 v34 v35 v36 v37 (nI ol)), (v0, .inl (cA 0, 326, .inl fs))]) 0 hP hD [0, 1] [] rfl rfl (by decide) (by decide) hk1 hFc hP1 hD1 rfl
            generalize H1 = H at hP hS ⊢
            obtain rfl : rn15 = (ra (16 + 7 * mi + 5)) := hw.trans rfl
            refine lv_iconst (v := 1) hx hb dX10_isFact_103 (by decide) ?_
            refine lv_icmp_ne (tgt := 111) hx hb dX10_isFact_104 (by decide) (fun c16 => ?_) (fun c16 => ?_)
            · skip
              refine lv_iconst (v := 0) hx hb dX10_isFact_111 (by decide) ?_
              obtain ⟨hP9, hD9⟩ := PDq.sub (ws' := [(oX10 w0 v0 v1 v2 v3 v4 g5 g6 (nI ed) g8 v9 (nI nb) g11 g12 v13 g14 g15 g16 g17 g18 g19 g20 g21 g22 g23 g24 g25 g26 v27 v28 v29 v30 v31 v32 v33 v34 v35 v36 v37 (nI ol)), (v0, .inl (cA 0, 326, .inl fs))]) hP hD [0, 1] (by decide) rfl
              refine W.widen (k := 0) (n := 0) (Nat.le_of_ble_eq_true rfl) (Nat.le_of_ble_eq_true rfl) ?_
              exact (W.zret (v := 0) hx hb hr (by first | rfl | decide) (fun t ht hW => ⟨⟨0, (), rfl, (Or.inr ⟨rfl, (fun q9 => c16 ((fc_4 hn14).mp q9))⟩), by rw [ht]; exact hP9, hD9⟩, hS.F ht⟩) hS.2.2 dX10_isFact_112)
            · skip
              refine lv_iconst (v := 1) hx hb dX10_isFact_107 (by decide) ?_
              refine lv_goto (tgt := 112) hx hb dX10_isFact_108 (by decide) ?_
              obtain ⟨hP9, hD9⟩ := PDq.sub (ws' := [(oX10 w0 v0 v1 v2 v3 v4 g5 g6 (nI ed) g8 v9 (nI nb) g11 g12 v13 g14 g15 g16 g17 g18 g19 g20 g21 g22 g23 g24 g25 g26 v27 v28 v29 v30 v31 v32 v33 v34 v35 v36 v37 (nI ol)), (v0, .inl (cA 0, 326, .inl fs))]) hP hD [0, 1] (by decide) rfl
              refine W.widen (k := 0) (n := 0) (Nat.le_of_ble_eq_true rfl) (Nat.le_of_ble_eq_true rfl) ?_
              exact (W.zret (v := 1) hx hb hr (by first | rfl | decide) (fun t ht hW => ⟨⟨1, (), rfl, (Or.inl ⟨rfl, ((fc_4 hn14).mpr c16)⟩), by rw [ht]; exact hP9, hD9⟩, hS.F ht⟩) hS.2.2 dX10_isFact_112)
          · skip
            refine lv_tableOut (tgt := 113) hx hb dX10_isFact_1 (by have q0 : ¬ (a).toInt = 0 := fun e9 => hn1 (Int32.toInt_inj.mp (e9.trans (by decide))); have q1 : ¬ (a).toInt = 1 := fun e9 => hn3 (Int32.toInt_inj.mp (e9.trans (by decide))); have q2 : ¬ (a).toInt = 2 := fun e9 => hn7 (Int32.toInt_inj.mp (e9.trans (by decide))); have q3 : ¬ (a).toInt = 3 := fun e9 => hn11 (Int32.toInt_inj.mp (e9.trans (by decide))); have q4 : ¬ (a).toInt = 4 := fun e9 => hn14 (Int32.toInt_inj.mp (e9.trans (by decide))); omega) (by decide) ?_
            refine lv_iconst (v := 1) hx hb dX10_isFact_113 (by decide) ?_
            obtain ⟨hP9, hD9⟩ := PDq.sub (ws' := [(oX10 w0 v0 v1 v2 v3 v4 g5 g6 (nI ed) g8 v9 (nI nb) g11 g12 v13 g14 g15 g16 g17 g18 g19 g20 g21 g22 g23 g24 g25 g26 v27 v28 v29 v30 v31 v32 v33 v34 v35 v36 v37 (nI ol)), (v0, .inl (cA 0, 326, .inl fs))]) hP hD [0, 1] (by decide) rfl
            refine W.widen (k := 0) (n := 0) (Nat.le_of_ble_eq_true rfl) (Nat.le_of_ble_eq_true rfl) ?_
            exact (W.zret (v := 1) hx hb hr (by first | rfl | decide) (fun t ht hW => ⟨⟨1, (), rfl, (Or.inl ⟨rfl, (fc_5 hn1 hn3 hn7 hn11 hn14)⟩), by rw [ht]; exact hP9, hD9⟩, hS.F ht⟩) hS.2.2 dX10_isFact_114)

set_option maxHeartbeats 4000000 in
set_option maxRecDepth 100000 in
/-- reference, exactly: holdsBy -/
theorem e_holdsBy (l : Launch) (D : va_G) (cA : Nat → ClassId) (sa : Nat → Nat) (w0 : Nat) (ed : Nat) (nb : Nat) (ol : Nat) (v0 : Nat) (v1 : Nat) (v2 : Nat) (v3 : Nat) (v4 : Nat) (v9 : Nat) (v13 : Nat) (v27 : Nat) (v28 : Nat) (v29 : Nat) (v30 : Nat) (v31 : Nat) (v32 : Nat) (v33 : Nat) (v34 : Nat) (v35 : Nat) (v36 : Nat) (v37 : Nat) (g8 : Int32) (g11 : Int32) (g12 : Int32) (g14 : Int32) (g15 : Int32) (g16 : Int32) (g17 : Int32) (g18 : Int32) (g19 : Int32) (g20 : Int32) (g21 : Int32) (g22 : Int32) (g23 : Int32) (g24 : Int32) (g26 : Int32) (g5 : Int64) (g6 : Int64) (g25 : Int64) (cn : Nat) (pq : Nat) (en : Nat) (dy : Nat) (fs : Nat → Int32) (fc : Nat → Int32) (fq : Nat → Int32) (fk : Nat → Int32) (ra : Nat → Int32) (cq : Nat → Nat) (mi : Nat) (d : Int32) (x : Int32) (y : Int32) (sz : Nat) (hAb : Ab ra fs) (hcn : cn ≤ 10) (hpq : pq ≤ 8) (hen : en ≤ 60) (hdy : dy ≤ 20000) (hri : RI cn pq en dy fs) (hCQ : CQ cn fc cq) (hcq : Elq cn cq fq) (hbit : Bit 400 fk) (hmi9 : mi < cn) : Met l yX10_holdsBy wsX10_holdsBy ({ frames := 2, cells := 0, slots := 0, locals := 48 }) (va_Pc [.ref w0, .int (nI mi), .int d, .int x, .int y] (Wd D cA sa [(oX10 w0 v0 v1 v2 v3 v4 g5 g6 (nI ed) g8 v9 (nI nb) g11 g12 v13 g14 g15 g16 g17 g18 g19 g20 g21 g22 g23 g24 g25 g26 v27 v28 v29 v30 v31 v32 v33 v34 v35 v36 v37 (nI ol)), (v0, .inl (cA 0, 326, .inl fs)), (v31, .inl (cA 0, 400, .inl fc)), (v33, .inl (cA 0, 11, .inl fq)), (v35, .inl (cA 4, 400, .inl fk))] sz)) (va_Qi (fun (r : Int32) (_ : Unit) => (r = 1 ∧ (hdV (hdF ra mi d x y) fc cq mi = true)) ∨ (r = 0 ∧ ¬ (hdV (hdF ra mi d x y) fc cq mi = true))) (fun (_ : Unit) t => ∃ zk : Nat → Int32, Bit 400 zk ∧ Wq D (va_A [(oX10 w0 v0 v1 v2 v3 v4 g5 g6 (nI ed) g8 v9 (nI nb) g11 g12 v13 g14 g15 g16 g17 g18 g19 g20 g21 g22 g23 g24 g25 g26 v27 v28 v29 v30 v31 v32 v33 v34 v35 v36 v37 (nI ol)), (v0, .inl (cA 0, 326, .inl fs)), (v31, .inl (cA 0, 400, .inl fc)), (v33, .inl (cA 0, 11, .inl fq)), (v35, .inl (cA 4, 400, .inl fk))] sz) [(oX10 w0 v0 v1 v2 v3 v4 g5 g6 (nI ed) g8 v9 (nI nb) g11 g12 v13 g14 g15 g16 g17 g18 g19 g20 g21 g22 g23 g24 g25 g26 v27 v28 v29 v30 v31 v32 v33 v34 v35 v36 v37 (nI ol)), (v0, .inl (cA 0, 326, .inl fs)), (v31, .inl (cA 0, 400, .inl fc)), (v33, .inl (cA 0, 11, .inl fq)), (v35, .inl (cA 4, 400, .inl zk))] t) (va_A [(oX10 w0 v0 v1 v2 v3 v4 g5 g6 (nI ed) g8 v9 (nI nb) g11 g12 v13 g14 g15 g16 g17 g18 g19 g20 g21 g22 g23 g24 g25 g26 v27 v28 v29 v30 v31 v32 v33 v34 v35 v36 v37 (nI ol)), (v0, .inl (cA 0, 326, .inl fs)), (v31, .inl (cA 0, 400, .inl fc)), (v33, .inl (cA 0, 11, .inl fq)), (v35, .inl (cA 4, 400, .inl fk))] sz)) 0 0 (va_A [(oX10 w0 v0 v1 v2 v3 v4 g5 g6 (nI ed) g8 v9 (nI nb) g11 g12 v13 g14 g15 g16 g17 g18 g19 g20 g21 g22 g23 g24 g25 g26 v27 v28 v29 v30 v31 v32 v33 v34 v35 v36 v37 (nI ol)), (v0, .inl (cA 0, 326, .inl fs)), (v31, .inl (cA 0, 400, .inl fc)), (v33, .inl (cA 0, 11, .inl fq)), (v35, .inl (cA 4, 400, .inl fk))] sz) := by
  refine Met.ofW (cc := cX10_holdsBy) (maxL := 8) (ret := (some .boolean)) (by decide) rfl ?_
  intro p e s m args below meth c s₁ B hml hv
  obtain ⟨rfl, hsz, hP, hK, hD0, hC, hZ⟩ := hv
  have hx := B.exec
  have hb := B.bytes
  have hr := B.returns
  have hts := atoms_spec (ws := wsX10_holdsBy) B.pre
  have hown : s.vm.findClass RX10 = some m.cls := findClass_of_methodNamed B.named
  have hlocks := B.notSynchronized
  subst hsz
  have hD := hD0.self (sz := s.heap.size)
  generalize hAe : va_A [(oX10 w0 v0 v1 v2 v3 v4 g5 g6 (nI ed) g8 v9 (nI nb) g11 g12 v13 g14 g15 g16 g17 g18 g19 g20 g21 g22 g23 g24 g25 g26 v27 v28 v29 v30 v31 v32 v33 v34 v35 v36 v37 (nI ol)), (v0, .inl (cA 0, 326, .inl fs)), (v31, .inl (cA 0, 400, .inl fc)), (v33, .inl (cA 0, 11, .inl fq)), (v35, .inl (cA 4, 400, .inl fk))] s.heap.size = A at hD hZ ⊢
  have hA : ∀ q : Nat, s.heap.size ≤ q → A q := fun q h => by rw [← hAe]; exact Or.inr h
  have hS : va_S A s.heap s.heap [] := va_S.rf
  have hP : va_P D vwCl [(oX10 w0 v0 v1 v2 v3 v4 g5 g6 (nI ed) g8 v9 (nI nb) g11 g12 v13 g14 g15 g16 g17 g18 g19 g20 g21 g22 g23 g24 g25 g26 v27 v28 v29 v30 v31 v32 v33 v34 v35 v36 v37 (nI ol)), (v0, .inl (cA 0, 326, .inl fs)), (v31, .inl (cA 0, 400, .inl fc)), (v33, .inl (cA 0, 11, .inl fq)), (v35, .inl (cA 4, 400, .inl fk))] s.heap := hP
  have hl := lv_entry ([.ref w0, .int (nI mi), .int d, .int x, .int y]) (n := 8) (Nat.le_of_ble_eq_true rfl)
  rw [lg_entry_eq]
  generalize (lg_sl ([.ref w0, .int (nI mi), .int d, .int x, .int y]) ++ List.replicate (8 - (lg_sl ([.ref w0, .int (nI mi), .int d, .int x, .int y])).length) Slot.unset).toArray = ls at hl ⊢
  have hl : lv_has ls 8 [(0, .ref w0), (1, .int (nI mi)), (2, .int d), (3, .int x), (4, .int y)] := hl
  have inX10 : ∀ w ∈ u_ws RX10 TX10 39, w ∈ wsX10_holdsBy := by decide +kernel
  obtain ⟨hcq1, hcq2, hcq3⟩ := hCQ.2 mi hmi9
  have hel1 := (hcq mi hmi9).1
  have hel2 := (hcq mi hmi9).2
  refine lv_iconst (v := 0) hx hb dX10_holdsBy_0 (by decide) ?_
  refine lv_istore (lv' := [(5, .int 0), (0, .ref w0), (1, .int (nI mi)), (2, .int d), (3, .int x), (4, .int y)]) hx hb dX10_holdsBy_1 hl (by decide) rfl (fun ls hl => ?_)
  refine lv_aload_n hx hb dX10_holdsBy_3 rfl (lv_at hl 1 rfl) ?_
  refine va_get (D := D) (ci := 11) (v := .ref v33) (C := RX10) (T := TX10) (N := 39) hx hb hts inX10 hown hK hP 0 rfl rfl 33 (by decide) (hts (.fieldLink RX10 54 "EscrowDeskModel" "codeFrom" "[I") (by decide +kernel)) (fun _ h9 => h9) rfl dX10_holdsBy_4 ?_
  refine lv_iload_n hx hb dX10_holdsBy_7 rfl (lv_at hl 2 rfl) ?_
  refine va_iald hx hb hK hP 3 0 rfl rfl (vp_in_nI (n := mi) (N := 11) (show mi < 11 by omega) (by decide)) dX10_holdsBy_8 ?_
  refine lv_topi (fun yn1 eyn1 => ?_)
  obtain rfl : yn1 = (nI (cq mi)) := eyn1.trans (by first | exact hel1 | (rw [nI_clamp (by omega)]; exact hel1))
  refine lv_istore (lv' := [(6, .int (nI (cq mi))), (5, .int 0), (0, .ref w0), (1, .int (nI mi)), (2, .int d), (3, .int x), (4, .int y)]) hx hb dX10_holdsBy_9 hl (by decide) rfl (fun ls hl => ?_)
  have loop1 : ∀ (n1 i1 : Nat) (tp : Nat) (f4_1 : Nat → Int32) (H : Heap) (locs : List Loc) (ls : Array Slot), i1 + n1 = (cq (mi + 1)) → Bit 400 f4_1 → Rdk f4_1 → tp ≤ 31 → cq mi ≤ i1 → HB9 (hdF ra mi d x y) fc (cq mi) (cq (mi + 1)) i1 tp f4_1 → va_P D vwCl [(oX10 w0 v0 v1 v2 v3 v4 g5 g6 (nI ed) g8 v9 (nI nb) g11 g12 v13 g14 g15 g16 g17 g18 g19 g20 g21 g22 g23 g24 g25 g26 v27 v28 v29 v30 v31 v32 v33 v34 v35 v36 v37 (nI ol)), (v0, .inl (cA 0, 326, .inl fs)), (v31, .inl (cA 0, 400, .inl fc)), (v33, .inl (cA 0, 11, .inl fq)), (v35, .inl (cA 4, 400, .inl f4_1))] H → va_D A [(oX10 w0 v0 v1 v2 v3 v4 g5 g6 (nI ed) g8 v9 (nI nb) g11 g12 v13 g14 g15 g16 g17 g18 g19 g20 g21 g22 g23 g24 g25 g26 v27 v28 v29 v30 v31 v32 v33 v34 v35 v36 v37 (nI ol)), (v0, .inl (cA 0, 326, .inl fs)), (v31, .inl (cA 0, 400, .inl fc)), (v33, .inl (cA 0, 11, .inl fq)), (v35, .inl (cA 4, 400, .inl f4_1))] → va_S A s.heap H locs → lv_has ls 8 [(6, .int (nI i1)), (5, .int (nI tp)), (0, .ref w0), (1, .int (nI mi)), (2, .int d), (3, .int x), (4, .int y)] → W p l e (headSpec wsX10_holdsBy ({ frames := 2, cells := 0, slots := 0, locals := 48 } : Room)).room s m ([.ref w0, .int (nI mi), .int d, .int x, .int y] : List Value).toArray below meth c H locs 0 0 (MQ below (va_Qi (fun (r : Int32) (_ : Unit) => (r = 1 ∧ (hdV (hdF ra mi d x y) fc cq mi = true)) ∨ (r = 0 ∧ ¬ (hdV (hdF ra mi d x y) fc cq mi = true))) (fun (_ : Unit) t => ∃ zk : Nat → Int32, Bit 400 zk ∧ Wq D A [(oX10 w0 v0 v1 v2 v3 v4 g5 g6 (nI ed) g8 v9 (nI nb) g11 g12 v13 g14 g15 g16 g17 g18 g19 g20 g21 g22 g23 g24 g25 g26 v27 v28 v29 v30 v31 v32 v33 v34 v35 v36 v37 (nI ol)), (v0, .inl (cA 0, 326, .inl fs)), (v31, .inl (cA 0, 400, .inl fc)), (v33, .inl (cA 0, 11, .inl fq)), (v35, .inl (cA 4, 400, .inl zk))] t) A) ([.ref w0, .int (nI mi), .int d, .int x, .int y] : List Value).toArray s 0 0 A) (F0 m 11 ls []) := by
    intro n1
    induction n1 with
    | zero =>
      intro i1 tp f4_1 H locs ls hi1 hf0_1 hf1_1 hv0_1 hv1_1 hv2_1 hP hD hS hl
      obtain rfl : (cq (mi + 1)) = i1 := by omega
      refine lv_iload hx hb dX10_holdsBy_11 (lv_at hl 0 rfl) ?_
      refine lv_aload_n hx hb dX10_holdsBy_13 rfl (lv_at hl 2 rfl) ?_
      refine va_get (D := D) (ci := 11) (v := .ref v33) (C := RX10) (T := TX10) (N := 39) hx hb hts inX10 hown hK hP 0 rfl rfl 33 (by decide) (hts (.fieldLink RX10 54 "EscrowDeskModel" "codeFrom" "[I") (by decide +kernel)) (fun _ h9 => h9) rfl dX10_holdsBy_14 ?_
      refine lv_iload_n hx hb dX10_holdsBy_17 rfl (lv_at hl 3 rfl) ?_
      refine lv_iconst (v := 1) hx hb dX10_holdsBy_18 (by decide) ?_
      refine lv_iadd hx hb dX10_holdsBy_19 ?_
      refine lv_topi (fun yn2 eyn2 => ?_)
      obtain rfl : yn2 = (nI (mi + 1)) := eyn2.trans (nI_add mi 1)
      refine va_iald hx hb hK hP 3 0 rfl rfl (vp_in_nI (n := (mi + 1)) (N := 11) (show (mi + 1) < 11 by omega) (by decide)) dX10_holdsBy_20 ?_
      refine lv_topi (fun yn3 eyn3 => ?_)
      obtain rfl : yn3 = (nI (cq (mi + 1))) := eyn3.trans (by first | exact hel2 | (rw [nI_clamp (by omega)]; exact hel2))
      refine lv_icmp_ge (tgt := 187) hx hb dX10_holdsBy_21 (by decide) (fun c4 => ?_) (fun c9 => absurd (nI_le (a := (cq (mi + 1))) (b := (cq (mi + 1))) (show (cq (mi + 1)) ≤ (cq (mi + 1)) by omega) (by omega)) c9)
      refine lv_aload_n hx hb dX10_holdsBy_187 rfl (lv_at hl 2 rfl) ?_
      refine va_get (D := D) (ci := 11) (v := .ref v35) (C := RX10) (T := TX10) (N := 39) hx hb hts inX10 hown hK hP 0 rfl rfl 35 (by decide) (hts (.fieldLink RX10 60 "EscrowDeskModel" "stack" "[Z") (by decide +kernel)) (fun _ h9 => h9) rfl dX10_holdsBy_188 ?_
      refine lv_iconst (v := 0) hx hb dX10_holdsBy_191 (by decide) ?_
      refine va_zald hx hb hK hP 4 4 rfl rfl (vp_in_iff.mpr (by decide)) dX10_holdsBy_192 ?_
      refine lv_topi (fun yn5 eyn5 => ?_)
      have hn6 : yn5 = 0 ∨ yn5 = 1 := by rw [eyn5]; exact hf0_1 _ (by decide)
      obtain ⟨hP9, hD9⟩ := PDq.sub (ws' := [(oX10 w0 v0 v1 v2 v3 v4 g5 g6 (nI ed) g8 v9 (nI nb) g11 g12 v13 g14 g15 g16 g17 g18 g19 g20 g21 g22 g23 g24 g25 g26 v27 v28 v29 v30 v31 v32 v33 v34 v35 v36 v37 (nI ol)), (v0, .inl (cA 0, 326, .inl fs)), (v31, .inl (cA 0, 400, .inl fc)), (v33, .inl (cA 0, 11, .inl fq)), (v35, .inl (cA 4, 400, .inl f4_1))]) hP hD [0, 1, 2, 3, 4] (by decide) rfl
      refine W.widen (k := 0) (n := 0) (Nat.le_of_ble_eq_true rfl) (Nat.le_of_ble_eq_true rfl) ?_
      exact (W.zret (v := yn5) hx hb hr (by rcases hn6 with h9 | h9 <;> rw [h9] <;> rfl) (fun t ht hW => ⟨⟨yn5, (), rfl, (bI_iff (eyn5.trans (HB9.fin hv2_1))), f4_1, hf0_1, by rw [ht]; exact hP9, hD9⟩, hS.F ht⟩) hS.2.2 dX10_holdsBy_193)
    | succ n1 ih1 =>
      intro i1 tp f4_1 H locs ls hi1 hf0_1 hf1_1 hv0_1 hv1_1 hv2_1 hP hD hS hl
      refine lv_iload hx hb dX10_holdsBy_11 (lv_at hl 0 rfl) ?_
      refine lv_aload_n hx hb dX10_holdsBy_13 rfl (lv_at hl 2 rfl) ?_
      refine va_get (D := D) (ci := 11) (v := .ref v33) (C := RX10) (T := TX10) (N := 39) hx hb hts inX10 hown hK hP 0 rfl rfl 33 (by decide) (hts (.fieldLink RX10 54 "EscrowDeskModel" "codeFrom" "[I") (by decide +kernel)) (fun _ h9 => h9) rfl dX10_holdsBy_14 ?_
      refine lv_iload_n hx hb dX10_holdsBy_17 rfl (lv_at hl 3 rfl) ?_
      refine lv_iconst (v := 1) hx hb dX10_holdsBy_18 (by decide) ?_
      refine lv_iadd hx hb dX10_holdsBy_19 ?_
      refine lv_topi (fun yn7 eyn7 => ?_)
      obtain rfl : yn7 = (nI (mi + 1)) := eyn7.trans (nI_add mi 1)
      refine va_iald hx hb hK hP 3 0 rfl rfl (vp_in_nI (n := (mi + 1)) (N := 11) (show (mi + 1) < 11 by omega) (by decide)) dX10_holdsBy_20 ?_
      refine lv_topi (fun yn8 eyn8 => ?_)
      obtain rfl : yn8 = (nI (cq (mi + 1))) := eyn8.trans (by first | exact hel2 | (rw [nI_clamp (by omega)]; exact hel2))
      refine lv_icmp_ge (tgt := 187) hx hb dX10_holdsBy_21 (by decide) (fun c9 => absurd c9 (nI_ge (a := i1) (b := (cq (mi + 1))) (show i1 < (cq (mi + 1)) by omega) (by omega))) (fun c9 => ?_)
      refine lv_aload_n hx hb dX10_holdsBy_24 rfl (lv_at hl 2 rfl) ?_
      refine va_get (D := D) (ci := 11) (v := .ref v31) (C := RX10) (T := TX10) (N := 39) hx hb hts inX10 hown hK hP 0 rfl rfl 31 (by decide) (hts (.fieldLink RX10 48 "EscrowDeskModel" "code" "[I") (by decide +kernel)) (fun _ h9 => h9) rfl dX10_holdsBy_25 ?_
      refine lv_iload hx hb dX10_holdsBy_28 (lv_at hl 0 rfl) ?_
      refine va_iald hx hb hK hP 2 0 rfl rfl (vp_in_nI (n := i1) (N := 400) (show i1 < 400 by omega) (by decide)) dX10_holdsBy_30 ?_
      refine lv_topi (fun yn10 eyn10 => ?_)
      obtain rfl : yn10 = (fc i1) := eyn10.trans (by rw [nI_clamp (by omega)])
      refine lv_istore (lv' := [(7, .int (fc i1)), (6, .int (nI i1)), (5, .int (nI tp)), (0, .ref w0), (1, .int (nI mi)), (2, .int d), (3, .int x), (4, .int y)]) hx hb dX10_holdsBy_31 hl (by decide) rfl (fun ls hl => ?_)
      refine lv_iload hx hb dX10_holdsBy_33 (lv_at hl 0 rfl) ?_
      refine lv_bipush (v := (-3)) hx hb dX10_holdsBy_35 (by decide) ?_
      refine lv_icmp_ne (tgt := 69) hx hb dX10_holdsBy_37 (by decide) (fun c11 => ?_) (fun c11 => ?_)
      · skip
        refine lv_iload hx hb dX10_holdsBy_69 (lv_at hl 0 rfl) ?_
        refine lv_if_ge (tgt := 152) hx hb dX10_holdsBy_71 (by decide) (fun c12 => ?_) (fun c12 => ?_)
        · skip
          have hn13 := HB9.n3 hv2_1 (by omega) c11 c12
          refine lv_aload_n hx hb dX10_holdsBy_152 rfl (lv_at hl 3 rfl) ?_
          refine va_get (D := D) (ci := 11) (v := .ref v35) (C := RX10) (T := TX10) (N := 39) hx hb hts inX10 hown hK hP 0 rfl rfl 35 (by decide) (hts (.fieldLink RX10 60 "EscrowDeskModel" "stack" "[Z") (by decide +kernel)) (fun _ h9 => h9) rfl dX10_holdsBy_153 ?_
          refine lv_iload hx hb dX10_holdsBy_156 (lv_at hl 2 rfl) ?_
          refine lv_aload_n hx hb dX10_holdsBy_158 rfl (lv_at hl 3 rfl) ?_
          refine lv_iload_n hx hb dX10_holdsBy_159 rfl (lv_at hl 4 rfl) ?_
          refine lv_iload hx hb dX10_holdsBy_160 (lv_at hl 0 rfl) ?_
          refine lv_ldc (v := 100000) hx hb hown (hts (.constant RX10 201 100000) (by decide +kernel)) dX10_holdsBy_162 ?_
          refine lv_idiv hx hb dX10_holdsBy_164 (by decide) ?_
          refine lv_topi (fun yn14 eyn14 => ?_)
          obtain rfl : yn14 = ((fc i1) / 100000) := eyn14
          refine lv_iload hx hb dX10_holdsBy_165 (lv_at hl 0 rfl) ?_
          refine lv_ldc (v := 100000) hx hb hown (hts (.constant RX10 201 100000) (by decide +kernel)) dX10_holdsBy_167 ?_
          refine lv_irem hx hb dX10_holdsBy_169 (by decide) ?_
          refine lv_topi (fun yn15 eyn15 => ?_)
          obtain rfl : yn15 = ((fc i1) - (fc i1) / 100000 * 100000) := eyn15
          refine lv_iload_n hx hb dX10_holdsBy_170 rfl (lv_at hl 5 rfl) ?_
          refine lv_iload_n hx hb dX10_holdsBy_171 rfl (lv_at hl 6 rfl) ?_
          refine lv_iload hx hb dX10_holdsBy_172 (lv_at hl 7 rfl) ?_
          obtain ⟨hPc, hDc, hFc⟩ := PDq.cut (wc := [(oX10 w0 v0 v1 v2 v3 v4 g5 g6 (nI ed) g8 v9 (nI nb) g11 g12 v13 g14 g15 g16 g17 g18 g19 g20 g21 g22 g23 g24 g25 g26 v27 v28 v29 v30 v31 v32 v33 v34 v35 v36 v37 (nI ol)), (v0, .inl (cA 0, 326, .inl fs))]) hP hD hS hA [0, 1] (by decide) rfl
          refine va_calli (va_runV (As := [.int (nI mi), .int ((fc i1) / 100000), .int ((fc i1) - (fc i1) / 100000 * 100000), .int d, .int x, .int y]) (rest := [.int (nI tp), .ref v35]) ⟨hx, hb, hml, hown, hts⟩ (e_isFact l D cA sa w0 ed nb ol v0 v1 v2 v3 v4 v9 v13 v27 v28 v29 v30 v31 v32 v33 v34 v35 v36 v37 g8 g11 g12 g14 g15 g16 g17 g18 g19 g20 g21 g22 g23 g24 g26 g5 g6 g25 cn pq en dy fs ra mi ((fc i1) / 100000) ((fc i1) - (fc i1) / 100000 * 100000) d x y H.size hAb hcn hpq hen hdy hri (by omega)) (cwV 6 hts gX10_holdsBy_X10_isFact rfl rfl rfl (by decide +kernel) ⟨(Nat.le_of_ble_eq_true rfl), (Nat.le_of_ble_eq_true rfl)⟩) ⟨Wd.blind, va_recv hK hPc (ci := 11) (q0 := 0) rfl rfl, fun U hU hW => ⟨rfl, Wd.call hPc hDc hK hC hZ hS hFc U hU hW⟩⟩ rfl rfl hl.1 rfl (lv_room (Nat.le_of_ble_eq_true rfl)) dX10_holdsBy_174 ⟨(Nat.le_of_ble_eq_true rfl), (Nat.le_of_ble_eq_true rfl)⟩) hS (fun q _ h => hFc q h) hFc (fun rn16 u t H1 locs ht hvm hw hB hz1 hk1 hS => ?_)
          obtain ⟨hP1, hD1⟩ := hB
          rw [ht] at hP1
          obtain ⟨hP, hD⟩ := PDq.join (w := [(v31, .inl (cA 0, 400, .inl fc)), (v33, .inl (cA 0, 11, .inl fq)), (v35, .inl (cA 4, 400, .inl f4_1)), (oX10 w0 v0 v1 v2 v3 v4 g5 g6 (nI ed) g8 v9 (nI nb) g11 g12 v13 g14 g15 g16 g17 g18 g19 g20 g21 g22 g23 g24 g25 g26 v27 v28 v29 v30 v31 v32 v33 v34 v35 v36 v37 (nI ol)), (v0, .inl (cA 0, 326, .inl fs))]) 3 hP hD [0, 1] [2, 3, 4] rfl rfl (by decide) (by decide) hk1 hFc hP1 hD1 rfl
          generalize H1 = H at hP hS ⊢
          rcases hw with ⟨hr9, hn17⟩ | ⟨hr9, hn17⟩
          · skip
            subst hr9
            refine va_zast hx hb hK hP hD hS 2 4 rfl rfl (vp_in_nI (n := tp) (N := 400) (show tp < 400 by omega) (by decide)) dX10_holdsBy_177 (fun H locs hP hD hS => ?_)
            obtain ⟨hP, hD⟩ : PDq D A [(v31, .inl (cA 0, 400, .inl fc)), (v33, .inl (cA 0, 11, .inl fq)), (v35, .inl (cA 4, 400, .inl (upd f4_1 (((nI tp)).toNatClampNeg) (vp_nar .boolean 1)))), (oX10 w0 v0 v1 v2 v3 v4 g5 g6 (nI ed) g8 v9 (nI nb) g11 g12 v13 g14 g15 g16 g17 g18 g19 g20 g21 g22 g23 g24 g25 g26 v27 v28 v29 v30 v31 v32 v33 v34 v35 v36 v37 (nI ol)), (v0, .inl (cA 0, 326, .inl fs))] H := ⟨hP, hD⟩
            have hn19 : Bit 400 (upd f4_1 (((nI tp)).toNatClampNeg) (vp_nar .boolean 1)) := Bit.put hf0_1 _ (by first | exact Or.inl rfl | exact Or.inr rfl)
            have hn20 : Upp tp (vp_nar .boolean 1) f4_1 (upd f4_1 (((nI tp)).toNatClampNeg) (vp_nar .boolean 1)) := Upp.of (by omega)
            have hn21 : Rdk (upd f4_1 (((nI tp)).toNatClampNeg) (vp_nar .boolean 1)) := rfl
            generalize (upd f4_1 (((nI tp)).toNatClampNeg) (vp_nar .boolean 1)) = fn18 at hP hD hn19 hn20 hn21
            obtain ⟨hP, hD⟩ : PDq D A [(v31, .inl (cA 0, 400, .inl fc)), (v33, .inl (cA 0, 11, .inl fq)), (v35, .inl (cA 4, 400, .inl fn18)), (oX10 w0 v0 v1 v2 v3 v4 g5 g6 (nI ed) g8 v9 (nI nb) g11 g12 v13 g14 g15 g16 g17 g18 g19 g20 g21 g22 g23 g24 g25 g26 v27 v28 v29 v30 v31 v32 v33 v34 v35 v36 v37 (nI ol)), (v0, .inl (cA 0, 326, .inl fs))] H := ⟨hP, hD⟩
            refine lv_iinc (v := (nI (tp + 1))) (lv' := [(5, .int (nI (tp + 1))), (7, .int (fc i1)), (6, .int (nI i1)), (0, .ref w0), (1, .int (nI mi)), (2, .int d), (3, .int x), (4, .int y)]) hx hb dX10_holdsBy_178 hl (k := 2) rfl (nI_1 _) (by decide) rfl (fun ls hl => ?_)
            refine lv_iinc (v := (nI (i1 + 1))) (lv' := [(6, .int (nI (i1 + 1))), (5, .int (nI (tp + 1))), (7, .int (fc i1)), (0, .ref w0), (1, .int (nI mi)), (2, .int d), (3, .int x), (4, .int y)]) hx hb dX10_holdsBy_181 hl (k := 2) rfl (nI_1 _) (by decide) rfl (fun ls hl => ?_)
            refine lv_goto (tgt := 11) hx hb dX10_holdsBy_184 (by decide) ?_
            obtain ⟨hP9, hD9⟩ := PDq.sub (ws' := [(oX10 w0 v0 v1 v2 v3 v4 g5 g6 (nI ed) g8 v9 (nI nb) g11 g12 v13 g14 g15 g16 g17 g18 g19 g20 g21 g22 g23 g24 g25 g26 v27 v28 v29 v30 v31 v32 v33 v34 v35 v36 v37 (nI ol)), (v0, .inl (cA 0, 326, .inl fs)), (v31, .inl (cA 0, 400, .inl fc)), (v33, .inl (cA 0, 11, .inl fq)), (v35, .inl (cA 4, 400, .inl fn18))]) hP hD [3, 4, 0, 1, 2] (by decide) rfl
            exact ih1 (i1 + 1) (tp + 1) fn18 H _ ls (by omega) hn19 hn21 (by omega) (by omega) (HB9.push hv2_1 (by omega) c11 c12 (Or.inl ⟨hn17, rfl⟩) hn20) hP9 hD9 hS (lv_sub hl [0, 1, 3, 4, 5, 6, 7] rfl)
          · skip
            subst hr9
            refine va_zast hx hb hK hP hD hS 2 4 rfl rfl (vp_in_nI (n := tp) (N := 400) (show tp < 400 by omega) (by decide)) dX10_holdsBy_177 (fun H locs hP hD hS => ?_)
            obtain ⟨hP, hD⟩ : PDq D A [(v31, .inl (cA 0, 400, .inl fc)), (v33, .inl (cA 0, 11, .inl fq)), (v35, .inl (cA 4, 400, .inl (upd f4_1 (((nI tp)).toNatClampNeg) (vp_nar .boolean 0)))), (oX10 w0 v0 v1 v2 v3 v4 g5 g6 (nI ed) g8 v9 (nI nb) g11 g12 v13 g14 g15 g16 g17 g18 g19 g20 g21 g22 g23 g24 g25 g26 v27 v28 v29 v30 v31 v32 v33 v34 v35 v36 v37 (nI ol)), (v0, .inl (cA 0, 326, .inl fs))] H := ⟨hP, hD⟩
            have hn23 : Bit 400 (upd f4_1 (((nI tp)).toNatClampNeg) (vp_nar .boolean 0)) := Bit.put hf0_1 _ (by first | exact Or.inl rfl | exact Or.inr rfl)
            have hn24 : Upp tp (vp_nar .boolean 0) f4_1 (upd f4_1 (((nI tp)).toNatClampNeg) (vp_nar .boolean 0)) := Upp.of (by omega)
            have hn25 : Rdk (upd f4_1 (((nI tp)).toNatClampNeg) (vp_nar .boolean 0)) := rfl
            generalize (upd f4_1 (((nI tp)).toNatClampNeg) (vp_nar .boolean 0)) = fn22 at hP hD hn23 hn24 hn25
            obtain ⟨hP, hD⟩ : PDq D A [(v31, .inl (cA 0, 400, .inl fc)), (v33, .inl (cA 0, 11, .inl fq)), (v35, .inl (cA 4, 400, .inl fn22)), (oX10 w0 v0 v1 v2 v3 v4 g5 g6 (nI ed) g8 v9 (nI nb) g11 g12 v13 g14 g15 g16 g17 g18 g19 g20 g21 g22 g23 g24 g25 g26 v27 v28 v29 v30 v31 v32 v33 v34 v35 v36 v37 (nI ol)), (v0, .inl (cA 0, 326, .inl fs))] H := ⟨hP, hD⟩
            refine lv_iinc (v := (nI (tp + 1))) (lv' := [(5, .int (nI (tp + 1))), (7, .int (fc i1)), (6, .int (nI i1)), (0, .ref w0), (1, .int (nI mi)), (2, .int d), (3, .int x), (4, .int y)]) hx hb dX10_holdsBy_178 hl (k := 2) rfl (nI_1 _) (by decide) rfl (fun ls hl => ?_)
            refine lv_iinc (v := (nI (i1 + 1))) (lv' := [(6, .int (nI (i1 + 1))), (5, .int (nI (tp + 1))), (7, .int (fc i1)), (0, .ref w0), (1, .int (nI mi)), (2, .int d), (3, .int x), (4, .int y)]) hx hb dX10_holdsBy_181 hl (k := 2) rfl (nI_1 _) (by decide) rfl (fun ls hl => ?_)
            refine lv_goto (tgt := 11) hx hb dX10_holdsBy_184 (by decide) ?_
            obtain ⟨hP9, hD9⟩ := PDq.sub (ws' := [(oX10 w0 v0 v1 v2 v3 v4 g5 g6 (nI ed) g8 v9 (nI nb) g11 g12 v13 g14 g15 g16 g17 g18 g19 g20 g21 g22 g23 g24 g25 g26 v27 v28 v29 v30 v31 v32 v33 v34 v35 v36 v37 (nI ol)), (v0, .inl (cA 0, 326, .inl fs)), (v31, .inl (cA 0, 400, .inl fc)), (v33, .inl (cA 0, 11, .inl fq)), (v35, .inl (cA 4, 400, .inl fn22))]) hP hD [3, 4, 0, 1, 2] (by decide) rfl
            exact ih1 (i1 + 1) (tp + 1) fn22 H _ ls (by omega) hn23 hn25 (by omega) (by omega) (HB9.push hv2_1 (by omega) c11 c12 (Or.inr ⟨hn17, rfl⟩) hn24) hP9 hD9 hS (lv_sub hl [0, 1, 3, 4, 5, 6, 7] rfl)
        · skip
          have hn26 := HB9.n2 hv2_1 (by omega) c11 (Int32.not_le.mp c12)
          refine lv_iinc (v := (nI (tp - 1))) (lv' := [(5, .int (nI (tp - 1))), (7, .int (fc i1)), (6, .int (nI i1)), (0, .ref w0), (1, .int (nI mi)), (2, .int d), (3, .int x), (4, .int y)]) hx hb dX10_holdsBy_74 hl (k := 2) rfl (nI_dec (a := tp) (b := (tp - 1)) (by omega)) (by decide) rfl (fun ls hl => ?_)
          refine lv_aload_n hx hb dX10_holdsBy_77 rfl (lv_at hl 3 rfl) ?_
          refine va_get (D := D) (ci := 11) (v := .ref v35) (C := RX10) (T := TX10) (N := 39) hx hb hts inX10 hown hK hP 0 rfl rfl 35 (by decide) (hts (.fieldLink RX10 60 "EscrowDeskModel" "stack" "[Z") (by decide +kernel)) (fun _ h9 => h9) rfl dX10_holdsBy_78 ?_
          refine lv_iload hx hb dX10_holdsBy_81 (lv_at hl 0 rfl) ?_
          refine lv_iconst (v := 1) hx hb dX10_holdsBy_83 (by decide) ?_
          refine lv_isub hx hb dX10_holdsBy_84 ?_
          refine lv_topi (fun yn27 eyn27 => ?_)
          obtain rfl : yn27 = (nI ((tp - 1) - 1)) := eyn27.trans (nI_sub (a := (tp - 1)) (b := 1) (by omega))
          refine lv_iload hx hb dX10_holdsBy_85 (lv_at hl 1 rfl) ?_
          refine lv_iconst (v := (-1)) hx hb dX10_holdsBy_87 (by decide) ?_
          refine lv_icmp_ne (tgt := 121) hx hb dX10_holdsBy_88 (by decide) (fun c28 => ?_) (fun c28 => ?_)
          · skip
            refine lv_aload_n hx hb dX10_holdsBy_121 rfl (lv_at hl 3 rfl) ?_
            refine va_get (D := D) (ci := 11) (v := .ref v35) (C := RX10) (T := TX10) (N := 39) hx hb hts inX10 hown hK hP 0 rfl rfl 35 (by decide) (hts (.fieldLink RX10 60 "EscrowDeskModel" "stack" "[Z") (by decide +kernel)) (fun _ h9 => h9) rfl dX10_holdsBy_122 ?_
            refine lv_iload hx hb dX10_holdsBy_125 (lv_at hl 0 rfl) ?_
            refine lv_iconst (v := 1) hx hb dX10_holdsBy_127 (by decide) ?_
            refine lv_isub hx hb dX10_holdsBy_128 ?_
            refine lv_topi (fun yn29 eyn29 => ?_)
            obtain rfl : yn29 = (nI ((tp - 1) - 1)) := eyn29.trans (nI_sub (a := (tp - 1)) (b := 1) (by omega))
            refine va_zald hx hb hK hP 4 4 rfl rfl (vp_in_nI (n := ((tp - 1) - 1)) (N := 400) (show ((tp - 1) - 1) < 400 by omega) (by decide)) dX10_holdsBy_129 ?_
            refine lv_topi (fun yn30 eyn30 => ?_)
            obtain rfl : yn30 = (f4_1 ((tp - 1) - 1)) := eyn30.trans (by rw [nI_clamp (by omega)])
            refine lv_if_ne (tgt := 143) hx hb dX10_holdsBy_130 (by decide) (fun c31 => ?_) (fun c31 => ?_)
            · skip
              refine lv_iconst (v := 1) hx hb dX10_holdsBy_143 (by decide) ?_
              refine lv_goto (tgt := 148) hx hb dX10_holdsBy_144 (by decide) ?_
              refine va_zast hx hb hK hP hD hS 4 4 rfl rfl (vp_in_nI (n := ((tp - 1) - 1)) (N := 400) (show ((tp - 1) - 1) < 400 by omega) (by decide)) dX10_holdsBy_148 (fun H locs hP hD hS => ?_)
              obtain ⟨hP, hD⟩ : PDq D A [(oX10 w0 v0 v1 v2 v3 v4 g5 g6 (nI ed) g8 v9 (nI nb) g11 g12 v13 g14 g15 g16 g17 g18 g19 g20 g21 g22 g23 g24 g25 g26 v27 v28 v29 v30 v31 v32 v33 v34 v35 v36 v37 (nI ol)), (v0, .inl (cA 0, 326, .inl fs)), (v31, .inl (cA 0, 400, .inl fc)), (v33, .inl (cA 0, 11, .inl fq)), (v35, .inl (cA 4, 400, .inl (upd f4_1 (((nI ((tp - 1) - 1))).toNatClampNeg) (vp_nar .boolean 1))))] H := ⟨hP, hD⟩
              have hn33 : Bit 400 (upd f4_1 (((nI ((tp - 1) - 1))).toNatClampNeg) (vp_nar .boolean 1)) := Bit.put hf0_1 _ (by first | exact Or.inl rfl | exact Or.inr rfl)
              have hn34 : Upp ((tp - 1) - 1) (vp_nar .boolean 1) f4_1 (upd f4_1 (((nI ((tp - 1) - 1))).toNatClampNeg) (vp_nar .boolean 1)) := Upp.of (by omega)
              have hn35 : Rdk (upd f4_1 (((nI ((tp - 1) - 1))).toNatClampNeg) (vp_nar .boolean 1)) := rfl
              generalize (upd f4_1 (((nI ((tp - 1) - 1))).toNatClampNeg) (vp_nar .boolean 1)) = fn32 at hP hD hn33 hn34 hn35
              obtain ⟨hP, hD⟩ : PDq D A [(oX10 w0 v0 v1 v2 v3 v4 g5 g6 (nI ed) g8 v9 (nI nb) g11 g12 v13 g14 g15 g16 g17 g18 g19 g20 g21 g22 g23 g24 g25 g26 v27 v28 v29 v30 v31 v32 v33 v34 v35 v36 v37 (nI ol)), (v0, .inl (cA 0, 326, .inl fs)), (v31, .inl (cA 0, 400, .inl fc)), (v33, .inl (cA 0, 11, .inl fq)), (v35, .inl (cA 4, 400, .inl fn32))] H := ⟨hP, hD⟩
              refine lv_goto (tgt := 181) hx hb dX10_holdsBy_149 (by decide) ?_
              refine lv_iinc (v := (nI (i1 + 1))) (lv' := [(6, .int (nI (i1 + 1))), (5, .int (nI (tp - 1))), (7, .int (fc i1)), (0, .ref w0), (1, .int (nI mi)), (2, .int d), (3, .int x), (4, .int y)]) hx hb dX10_holdsBy_181 hl (k := 2) rfl (nI_1 _) (by decide) rfl (fun ls hl => ?_)
              refine lv_goto (tgt := 11) hx hb dX10_holdsBy_184 (by decide) ?_
              obtain ⟨hP9, hD9⟩ := PDq.sub (ws' := [(oX10 w0 v0 v1 v2 v3 v4 g5 g6 (nI ed) g8 v9 (nI nb) g11 g12 v13 g14 g15 g16 g17 g18 g19 g20 g21 g22 g23 g24 g25 g26 v27 v28 v29 v30 v31 v32 v33 v34 v35 v36 v37 (nI ol)), (v0, .inl (cA 0, 326, .inl fs)), (v31, .inl (cA 0, 400, .inl fc)), (v33, .inl (cA 0, 11, .inl fq)), (v35, .inl (cA 4, 400, .inl fn32))]) hP hD [0, 1, 2, 3, 4] (by decide) rfl
              exact ih1 (i1 + 1) (tp - 1) fn32 H _ ls (by omega) hn33 hn35 (by omega) (by omega) (HB9.bin hv2_1 (by omega) c11 (Int32.not_le.mp c12) (Or.inr ⟨c28, Or.inl ⟨c31, rfl⟩⟩) hn34) hP9 hD9 hS (lv_sub hl [0, 1, 3, 4, 5, 6, 7] rfl)
            · skip
              refine lv_aload_n hx hb dX10_holdsBy_133 rfl (lv_at hl 3 rfl) ?_
              refine va_get (D := D) (ci := 11) (v := .ref v35) (C := RX10) (T := TX10) (N := 39) hx hb hts inX10 hown hK hP 0 rfl rfl 35 (by decide) (hts (.fieldLink RX10 60 "EscrowDeskModel" "stack" "[Z") (by decide +kernel)) (fun _ h9 => h9) rfl dX10_holdsBy_134 ?_
              refine lv_iload hx hb dX10_holdsBy_137 (lv_at hl 0 rfl) ?_
              refine va_zald hx hb hK hP 4 4 rfl rfl (vp_in_nI (n := (tp - 1)) (N := 400) (show (tp - 1) < 400 by omega) (by decide)) dX10_holdsBy_139 ?_
              refine lv_topi (fun yn36 eyn36 => ?_)
              obtain rfl : yn36 = (f4_1 (tp - 1)) := eyn36.trans (by rw [nI_clamp (by omega)])
              refine lv_if_eq (tgt := 147) hx hb dX10_holdsBy_140 (by decide) (fun c37 => ?_) (fun c37 => ?_)
              · skip
                refine lv_iconst (v := 0) hx hb dX10_holdsBy_147 (by decide) ?_
                refine va_zast hx hb hK hP hD hS 4 4 rfl rfl (vp_in_nI (n := ((tp - 1) - 1)) (N := 400) (show ((tp - 1) - 1) < 400 by omega) (by decide)) dX10_holdsBy_148 (fun H locs hP hD hS => ?_)
                obtain ⟨hP, hD⟩ : PDq D A [(oX10 w0 v0 v1 v2 v3 v4 g5 g6 (nI ed) g8 v9 (nI nb) g11 g12 v13 g14 g15 g16 g17 g18 g19 g20 g21 g22 g23 g24 g25 g26 v27 v28 v29 v30 v31 v32 v33 v34 v35 v36 v37 (nI ol)), (v0, .inl (cA 0, 326, .inl fs)), (v31, .inl (cA 0, 400, .inl fc)), (v33, .inl (cA 0, 11, .inl fq)), (v35, .inl (cA 4, 400, .inl (upd f4_1 (((nI ((tp - 1) - 1))).toNatClampNeg) (vp_nar .boolean 0))))] H := ⟨hP, hD⟩
                have hn39 : Bit 400 (upd f4_1 (((nI ((tp - 1) - 1))).toNatClampNeg) (vp_nar .boolean 0)) := Bit.put hf0_1 _ (by first | exact Or.inl rfl | exact Or.inr rfl)
                have hn40 : Upp ((tp - 1) - 1) (vp_nar .boolean 0) f4_1 (upd f4_1 (((nI ((tp - 1) - 1))).toNatClampNeg) (vp_nar .boolean 0)) := Upp.of (by omega)
                have hn41 : Rdk (upd f4_1 (((nI ((tp - 1) - 1))).toNatClampNeg) (vp_nar .boolean 0)) := rfl
                generalize (upd f4_1 (((nI ((tp - 1) - 1))).toNatClampNeg) (vp_nar .boolean 0)) = fn38 at hP hD hn39 hn40 hn41
                obtain ⟨hP, hD⟩ : PDq D A [(oX10 w0 v0 v1 v2 v3 v4 g5 g6 (nI ed) g8 v9 (nI nb) g11 g12 v13 g14 g15 g16 g17 g18 g19 g20 g21 g22 g23 g24 g25 g26 v27 v28 v29 v30 v31 v32 v33 v34 v35 v36 v37 (nI ol)), (v0, .inl (cA 0, 326, .inl fs)), (v31, .inl (cA 0, 400, .inl fc)), (v33, .inl (cA 0, 11, .inl fq)), (v35, .inl (cA 4, 400, .inl fn38))] H := ⟨hP, hD⟩
                refine lv_goto (tgt := 181) hx hb dX10_holdsBy_149 (by decide) ?_
                refine lv_iinc (v := (nI (i1 + 1))) (lv' := [(6, .int (nI (i1 + 1))), (5, .int (nI (tp - 1))), (7, .int (fc i1)), (0, .ref w0), (1, .int (nI mi)), (2, .int d), (3, .int x), (4, .int y)]) hx hb dX10_holdsBy_181 hl (k := 2) rfl (nI_1 _) (by decide) rfl (fun ls hl => ?_)
                refine lv_goto (tgt := 11) hx hb dX10_holdsBy_184 (by decide) ?_
                obtain ⟨hP9, hD9⟩ := PDq.sub (ws' := [(oX10 w0 v0 v1 v2 v3 v4 g5 g6 (nI ed) g8 v9 (nI nb) g11 g12 v13 g14 g15 g16 g17 g18 g19 g20 g21 g22 g23 g24 g25 g26 v27 v28 v29 v30 v31 v32 v33 v34 v35 v36 v37 (nI ol)), (v0, .inl (cA 0, 326, .inl fs)), (v31, .inl (cA 0, 400, .inl fc)), (v33, .inl (cA 0, 11, .inl fq)), (v35, .inl (cA 4, 400, .inl fn38))]) hP hD [0, 1, 2, 3, 4] (by decide) rfl
                exact ih1 (i1 + 1) (tp - 1) fn38 H _ ls (by omega) hn39 hn41 (by omega) (by omega) (HB9.bin hv2_1 (by omega) c11 (Int32.not_le.mp c12) (Or.inr ⟨c28, Or.inr (Or.inl ⟨c31, c37, rfl⟩)⟩) hn40) hP9 hD9 hS (lv_sub hl [0, 1, 3, 4, 5, 6, 7] rfl)
              · skip
                refine lv_iconst (v := 1) hx hb dX10_holdsBy_143 (by decide) ?_
                refine lv_goto (tgt := 148) hx hb dX10_holdsBy_144 (by decide) ?_
                refine va_zast hx hb hK hP hD hS 4 4 rfl rfl (vp_in_nI (n := ((tp - 1) - 1)) (N := 400) (show ((tp - 1) - 1) < 400 by omega) (by decide)) dX10_holdsBy_148 (fun H locs hP hD hS => ?_)
                obtain ⟨hP, hD⟩ : PDq D A [(oX10 w0 v0 v1 v2 v3 v4 g5 g6 (nI ed) g8 v9 (nI nb) g11 g12 v13 g14 g15 g16 g17 g18 g19 g20 g21 g22 g23 g24 g25 g26 v27 v28 v29 v30 v31 v32 v33 v34 v35 v36 v37 (nI ol)), (v0, .inl (cA 0, 326, .inl fs)), (v31, .inl (cA 0, 400, .inl fc)), (v33, .inl (cA 0, 11, .inl fq)), (v35, .inl (cA 4, 400, .inl (upd f4_1 (((nI ((tp - 1) - 1))).toNatClampNeg) (vp_nar .boolean 1))))] H := ⟨hP, hD⟩
                have hn43 : Bit 400 (upd f4_1 (((nI ((tp - 1) - 1))).toNatClampNeg) (vp_nar .boolean 1)) := Bit.put hf0_1 _ (by first | exact Or.inl rfl | exact Or.inr rfl)
                have hn44 : Upp ((tp - 1) - 1) (vp_nar .boolean 1) f4_1 (upd f4_1 (((nI ((tp - 1) - 1))).toNatClampNeg) (vp_nar .boolean 1)) := Upp.of (by omega)
                have hn45 : Rdk (upd f4_1 (((nI ((tp - 1) - 1))).toNatClampNeg) (vp_nar .boolean 1)) := rfl
                generalize (upd f4_1 (((nI ((tp - 1) - 1))).toNatClampNeg) (vp_nar .boolean 1)) = fn42 at hP hD hn43 hn44 hn45
                obtain ⟨hP, hD⟩ : PDq D A [(oX10 w0 v0 v1 v2 v3 v4 g5 g6 (nI ed) g8 v9 (nI nb) g11 g12 v13 g14 g15 g16 g17 g18 g19 g20 g21 g22 g23 g24 g25 g26 v27 v28 v29 v30 v31 v32 v33 v34 v35 v36 v37 (nI ol)), (v0, .inl (cA 0, 326, .inl fs)), (v31, .inl (cA 0, 400, .inl fc)), (v33, .inl (cA 0, 11, .inl fq)), (v35, .inl (cA 4, 400, .inl fn42))] H := ⟨hP, hD⟩
                refine lv_goto (tgt := 181) hx hb dX10_holdsBy_149 (by decide) ?_
                refine lv_iinc (v := (nI (i1 + 1))) (lv' := [(6, .int (nI (i1 + 1))), (5, .int (nI (tp - 1))), (7, .int (fc i1)), (0, .ref w0), (1, .int (nI mi)), (2, .int d), (3, .int x), (4, .int y)]) hx hb dX10_holdsBy_181 hl (k := 2) rfl (nI_1 _) (by decide) rfl (fun ls hl => ?_)
                refine lv_goto (tgt := 11) hx hb dX10_holdsBy_184 (by decide) ?_
                obtain ⟨hP9, hD9⟩ := PDq.sub (ws' := [(oX10 w0 v0 v1 v2 v3 v4 g5 g6 (nI ed) g8 v9 (nI nb) g11 g12 v13 g14 g15 g16 g17 g18 g19 g20 g21 g22 g23 g24 g25 g26 v27 v28 v29 v30 v31 v32 v33 v34 v35 v36 v37 (nI ol)), (v0, .inl (cA 0, 326, .inl fs)), (v31, .inl (cA 0, 400, .inl fc)), (v33, .inl (cA 0, 11, .inl fq)), (v35, .inl (cA 4, 400, .inl fn42))]) hP hD [0, 1, 2, 3, 4] (by decide) rfl
                exact ih1 (i1 + 1) (tp - 1) fn42 H _ ls (by omega) hn43 hn45 (by omega) (by omega) (HB9.bin hv2_1 (by omega) c11 (Int32.not_le.mp c12) (Or.inr ⟨c28, Or.inr (Or.inr ⟨c31, c37, rfl⟩)⟩) hn44) hP9 hD9 hS (lv_sub hl [0, 1, 3, 4, 5, 6, 7] rfl)
          · skip
            refine lv_aload_n hx hb dX10_holdsBy_91 rfl (lv_at hl 3 rfl) ?_
            refine va_get (D := D) (ci := 11) (v := .ref v35) (C := RX10) (T := TX10) (N := 39) hx hb hts inX10 hown hK hP 0 rfl rfl 35 (by decide) (hts (.fieldLink RX10 60 "EscrowDeskModel" "stack" "[Z") (by decide +kernel)) (fun _ h9 => h9) rfl dX10_holdsBy_92 ?_
            refine lv_iload hx hb dX10_holdsBy_95 (lv_at hl 0 rfl) ?_
            refine lv_iconst (v := 1) hx hb dX10_holdsBy_97 (by decide) ?_
            refine lv_isub hx hb dX10_holdsBy_98 ?_
            refine lv_topi (fun yn46 eyn46 => ?_)
            obtain rfl : yn46 = (nI ((tp - 1) - 1)) := eyn46.trans (nI_sub (a := (tp - 1)) (b := 1) (by omega))
            refine va_zald hx hb hK hP 4 4 rfl rfl (vp_in_nI (n := ((tp - 1) - 1)) (N := 400) (show ((tp - 1) - 1) < 400 by omega) (by decide)) dX10_holdsBy_99 ?_
            refine lv_topi (fun yn47 eyn47 => ?_)
            obtain rfl : yn47 = (f4_1 ((tp - 1) - 1)) := eyn47.trans (by rw [nI_clamp (by omega)])
            refine lv_if_eq (tgt := 117) hx hb dX10_holdsBy_100 (by decide) (fun c48 => ?_) (fun c48 => ?_)
            · skip
              refine lv_iconst (v := 0) hx hb dX10_holdsBy_117 (by decide) ?_
              refine lv_goto (tgt := 148) hx hb dX10_holdsBy_118 (by decide) ?_
              refine va_zast hx hb hK hP hD hS 4 4 rfl rfl (vp_in_nI (n := ((tp - 1) - 1)) (N := 400) (show ((tp - 1) - 1) < 400 by omega) (by decide)) dX10_holdsBy_148 (fun H locs hP hD hS => ?_)
              obtain ⟨hP, hD⟩ : PDq D A [(oX10 w0 v0 v1 v2 v3 v4 g5 g6 (nI ed) g8 v9 (nI nb) g11 g12 v13 g14 g15 g16 g17 g18 g19 g20 g21 g22 g23 g24 g25 g26 v27 v28 v29 v30 v31 v32 v33 v34 v35 v36 v37 (nI ol)), (v0, .inl (cA 0, 326, .inl fs)), (v31, .inl (cA 0, 400, .inl fc)), (v33, .inl (cA 0, 11, .inl fq)), (v35, .inl (cA 4, 400, .inl (upd f4_1 (((nI ((tp - 1) - 1))).toNatClampNeg) (vp_nar .boolean 0))))] H := ⟨hP, hD⟩
              have hn50 : Bit 400 (upd f4_1 (((nI ((tp - 1) - 1))).toNatClampNeg) (vp_nar .boolean 0)) := Bit.put hf0_1 _ (by first | exact Or.inl rfl | exact Or.inr rfl)
              have hn51 : Upp ((tp - 1) - 1) (vp_nar .boolean 0) f4_1 (upd f4_1 (((nI ((tp - 1) - 1))).toNatClampNeg) (vp_nar .boolean 0)) := Upp.of (by omega)
              have hn52 : Rdk (upd f4_1 (((nI ((tp - 1) - 1))).toNatClampNeg) (vp_nar .boolean 0)) := rfl
              generalize (upd f4_1 (((nI ((tp - 1) - 1))).toNatClampNeg) (vp_nar .boolean 0)) = fn49 at hP hD hn50 hn51 hn52
              obtain ⟨hP, hD⟩ : PDq D A [(oX10 w0 v0 v1 v2 v3 v4 g5 g6 (nI ed) g8 v9 (nI nb) g11 g12 v13 g14 g15 g16 g17 g18 g19 g20 g21 g22 g23 g24 g25 g26 v27 v28 v29 v30 v31 v32 v33 v34 v35 v36 v37 (nI ol)), (v0, .inl (cA 0, 326, .inl fs)), (v31, .inl (cA 0, 400, .inl fc)), (v33, .inl (cA 0, 11, .inl fq)), (v35, .inl (cA 4, 400, .inl fn49))] H := ⟨hP, hD⟩
              refine lv_goto (tgt := 181) hx hb dX10_holdsBy_149 (by decide) ?_
              refine lv_iinc (v := (nI (i1 + 1))) (lv' := [(6, .int (nI (i1 + 1))), (5, .int (nI (tp - 1))), (7, .int (fc i1)), (0, .ref w0), (1, .int (nI mi)), (2, .int d), (3, .int x), (4, .int y)]) hx hb dX10_holdsBy_181 hl (k := 2) rfl (nI_1 _) (by decide) rfl (fun ls hl => ?_)
              refine lv_goto (tgt := 11) hx hb dX10_holdsBy_184 (by decide) ?_
              obtain ⟨hP9, hD9⟩ := PDq.sub (ws' := [(oX10 w0 v0 v1 v2 v3 v4 g5 g6 (nI ed) g8 v9 (nI nb) g11 g12 v13 g14 g15 g16 g17 g18 g19 g20 g21 g22 g23 g24 g25 g26 v27 v28 v29 v30 v31 v32 v33 v34 v35 v36 v37 (nI ol)), (v0, .inl (cA 0, 326, .inl fs)), (v31, .inl (cA 0, 400, .inl fc)), (v33, .inl (cA 0, 11, .inl fq)), (v35, .inl (cA 4, 400, .inl fn49))]) hP hD [0, 1, 2, 3, 4] (by decide) rfl
              exact ih1 (i1 + 1) (tp - 1) fn49 H _ ls (by omega) hn50 hn52 (by omega) (by omega) (HB9.bin hv2_1 (by omega) c11 (Int32.not_le.mp c12) (Or.inl ⟨c28, Or.inl ⟨c48, rfl⟩⟩) hn51) hP9 hD9 hS (lv_sub hl [0, 1, 3, 4, 5, 6, 7] rfl)
            · skip
              refine lv_aload_n hx hb dX10_holdsBy_103 rfl (lv_at hl 3 rfl) ?_
              refine va_get (D := D) (ci := 11) (v := .ref v35) (C := RX10) (T := TX10) (N := 39) hx hb hts inX10 hown hK hP 0 rfl rfl 35 (by decide) (hts (.fieldLink RX10 60 "EscrowDeskModel" "stack" "[Z") (by decide +kernel)) (fun _ h9 => h9) rfl dX10_holdsBy_104 ?_
              refine lv_iload hx hb dX10_holdsBy_107 (lv_at hl 0 rfl) ?_
              refine va_zald hx hb hK hP 4 4 rfl rfl (vp_in_nI (n := (tp - 1)) (N := 400) (show (tp - 1) < 400 by omega) (by decide)) dX10_holdsBy_109 ?_
              refine lv_topi (fun yn53 eyn53 => ?_)
              obtain rfl : yn53 = (f4_1 (tp - 1)) := eyn53.trans (by rw [nI_clamp (by omega)])
              refine lv_if_eq (tgt := 117) hx hb dX10_holdsBy_110 (by decide) (fun c54 => ?_) (fun c54 => ?_)
              · skip
                refine lv_iconst (v := 0) hx hb dX10_holdsBy_117 (by decide) ?_
                refine lv_goto (tgt := 148) hx hb dX10_holdsBy_118 (by decide) ?_
                refine va_zast hx hb hK hP hD hS 4 4 rfl rfl (vp_in_nI (n := ((tp - 1) - 1)) (N := 400) (show ((tp - 1) - 1) < 400 by omega) (by decide)) dX10_holdsBy_148 (fun H locs hP hD hS => ?_)
                obtain ⟨hP, hD⟩ : PDq D A [(oX10 w0 v0 v1 v2 v3 v4 g5 g6 (nI ed) g8 v9 (nI nb) g11 g12 v13 g14 g15 g16 g17 g18 g19 g20 g21 g22 g23 g24 g25 g26 v27 v28 v29 v30 v31 v32 v33 v34 v35 v36 v37 (nI ol)), (v0, .inl (cA 0, 326, .inl fs)), (v31, .inl (cA 0, 400, .inl fc)), (v33, .inl (cA 0, 11, .inl fq)), (v35, .inl (cA 4, 400, .inl (upd f4_1 (((nI ((tp - 1) - 1))).toNatClampNeg) (vp_nar .boolean 0))))] H := ⟨hP, hD⟩
                have hn56 : Bit 400 (upd f4_1 (((nI ((tp - 1) - 1))).toNatClampNeg) (vp_nar .boolean 0)) := Bit.put hf0_1 _ (by first | exact Or.inl rfl | exact Or.inr rfl)
                have hn57 : Upp ((tp - 1) - 1) (vp_nar .boolean 0) f4_1 (upd f4_1 (((nI ((tp - 1) - 1))).toNatClampNeg) (vp_nar .boolean 0)) := Upp.of (by omega)
                have hn58 : Rdk (upd f4_1 (((nI ((tp - 1) - 1))).toNatClampNeg) (vp_nar .boolean 0)) := rfl
                generalize (upd f4_1 (((nI ((tp - 1) - 1))).toNatClampNeg) (vp_nar .boolean 0)) = fn55 at hP hD hn56 hn57 hn58
                obtain ⟨hP, hD⟩ : PDq D A [(oX10 w0 v0 v1 v2 v3 v4 g5 g6 (nI ed) g8 v9 (nI nb) g11 g12 v13 g14 g15 g16 g17 g18 g19 g20 g21 g22 g23 g24 g25 g26 v27 v28 v29 v30 v31 v32 v33 v34 v35 v36 v37 (nI ol)), (v0, .inl (cA 0, 326, .inl fs)), (v31, .inl (cA 0, 400, .inl fc)), (v33, .inl (cA 0, 11, .inl fq)), (v35, .inl (cA 4, 400, .inl fn55))] H := ⟨hP, hD⟩
                refine lv_goto (tgt := 181) hx hb dX10_holdsBy_149 (by decide) ?_
                refine lv_iinc (v := (nI (i1 + 1))) (lv' := [(6, .int (nI (i1 + 1))), (5, .int (nI (tp - 1))), (7, .int (fc i1)), (0, .ref w0), (1, .int (nI mi)), (2, .int d), (3, .int x), (4, .int y)]) hx hb dX10_holdsBy_181 hl (k := 2) rfl (nI_1 _) (by decide) rfl (fun ls hl => ?_)
                refine lv_goto (tgt := 11) hx hb dX10_holdsBy_184 (by decide) ?_
                obtain ⟨hP9, hD9⟩ := PDq.sub (ws' := [(oX10 w0 v0 v1 v2 v3 v4 g5 g6 (nI ed) g8 v9 (nI nb) g11 g12 v13 g14 g15 g16 g17 g18 g19 g20 g21 g22 g23 g24 g25 g26 v27 v28 v29 v30 v31 v32 v33 v34 v35 v36 v37 (nI ol)), (v0, .inl (cA 0, 326, .inl fs)), (v31, .inl (cA 0, 400, .inl fc)), (v33, .inl (cA 0, 11, .inl fq)), (v35, .inl (cA 4, 400, .inl fn55))]) hP hD [0, 1, 2, 3, 4] (by decide) rfl
                exact ih1 (i1 + 1) (tp - 1) fn55 H _ ls (by omega) hn56 hn58 (by omega) (by omega) (HB9.bin hv2_1 (by omega) c11 (Int32.not_le.mp c12) (Or.inl ⟨c28, Or.inr (Or.inl ⟨c48, c54, rfl⟩)⟩) hn57) hP9 hD9 hS (lv_sub hl [0, 1, 3, 4, 5, 6, 7] rfl)
              · skip
                refine lv_iconst (v := 1) hx hb dX10_holdsBy_113 (by decide) ?_
                refine lv_goto (tgt := 148) hx hb dX10_holdsBy_114 (by decide) ?_
                refine va_zast hx hb hK hP hD hS 4 4 rfl rfl (vp_in_nI (n := ((tp - 1) - 1)) (N := 400) (show ((tp - 1) - 1) < 400 by omega) (by decide)) dX10_holdsBy_148 (fun H locs hP hD hS => ?_)
                obtain ⟨hP, hD⟩ : PDq D A [(oX10 w0 v0 v1 v2 v3 v4 g5 g6 (nI ed) g8 v9 (nI nb) g11 g12 v13 g14 g15 g16 g17 g18 g19 g20 g21 g22 g23 g24 g25 g26 v27 v28 v29 v30 v31 v32 v33 v34 v35 v36 v37 (nI ol)), (v0, .inl (cA 0, 326, .inl fs)), (v31, .inl (cA 0, 400, .inl fc)), (v33, .inl (cA 0, 11, .inl fq)), (v35, .inl (cA 4, 400, .inl (upd f4_1 (((nI ((tp - 1) - 1))).toNatClampNeg) (vp_nar .boolean 1))))] H := ⟨hP, hD⟩
                have hn60 : Bit 400 (upd f4_1 (((nI ((tp - 1) - 1))).toNatClampNeg) (vp_nar .boolean 1)) := Bit.put hf0_1 _ (by first | exact Or.inl rfl | exact Or.inr rfl)
                have hn61 : Upp ((tp - 1) - 1) (vp_nar .boolean 1) f4_1 (upd f4_1 (((nI ((tp - 1) - 1))).toNatClampNeg) (vp_nar .boolean 1)) := Upp.of (by omega)
                have hn62 : Rdk (upd f4_1 (((nI ((tp - 1) - 1))).toNatClampNeg) (vp_nar .boolean 1)) := rfl
                generalize (upd f4_1 (((nI ((tp - 1) - 1))).toNatClampNeg) (vp_nar .boolean 1)) = fn59 at hP hD hn60 hn61 hn62
                obtain ⟨hP, hD⟩ : PDq D A [(oX10 w0 v0 v1 v2 v3 v4 g5 g6 (nI ed) g8 v9 (nI nb) g11 g12 v13 g14 g15 g16 g17 g18 g19 g20 g21 g22 g23 g24 g25 g26 v27 v28 v29 v30 v31 v32 v33 v34 v35 v36 v37 (nI ol)), (v0, .inl (cA 0, 326, .inl fs)), (v31, .inl (cA 0, 400, .inl fc)), (v33, .inl (cA 0, 11, .inl fq)), (v35, .inl (cA 4, 400, .inl fn59))] H := ⟨hP, hD⟩
                refine lv_goto (tgt := 181) hx hb dX10_holdsBy_149 (by decide) ?_
                refine lv_iinc (v := (nI (i1 + 1))) (lv' := [(6, .int (nI (i1 + 1))), (5, .int (nI (tp - 1))), (7, .int (fc i1)), (0, .ref w0), (1, .int (nI mi)), (2, .int d), (3, .int x), (4, .int y)]) hx hb dX10_holdsBy_181 hl (k := 2) rfl (nI_1 _) (by decide) rfl (fun ls hl => ?_)
                refine lv_goto (tgt := 11) hx hb dX10_holdsBy_184 (by decide) ?_
                obtain ⟨hP9, hD9⟩ := PDq.sub (ws' := [(oX10 w0 v0 v1 v2 v3 v4 g5 g6 (nI ed) g8 v9 (nI nb) g11 g12 v13 g14 g15 g16 g17 g18 g19 g20 g21 g22 g23 g24 g25 g26 v27 v28 v29 v30 v31 v32 v33 v34 v35 v36 v37 (nI ol)), (v0, .inl (cA 0, 326, .inl fs)), (v31, .inl (cA 0, 400, .inl fc)), (v33, .inl (cA 0, 11, .inl fq)), (v35, .inl (cA 4, 400, .inl fn59))]) hP hD [0, 1, 2, 3, 4] (by decide) rfl
                exact ih1 (i1 + 1) (tp - 1) fn59 H _ ls (by omega) hn60 hn62 (by omega) (by omega) (HB9.bin hv2_1 (by omega) c11 (Int32.not_le.mp c12) (Or.inl ⟨c28, Or.inr (Or.inr ⟨c48, c54, rfl⟩)⟩) hn61) hP9 hD9 hS (lv_sub hl [0, 1, 3, 4, 5, 6, 7] rfl)
      · skip
        have hn63 := HB9.n1 hv2_1 (by omega) c11
        refine lv_aload_n hx hb dX10_holdsBy_40 rfl (lv_at hl 3 rfl) ?_
        refine va_get (D := D) (ci := 11) (v := .ref v35) (C := RX10) (T := TX10) (N := 39) hx hb hts inX10 hown hK hP 0 rfl rfl 35 (by decide) (hts (.fieldLink RX10 60 "EscrowDeskModel" "stack" "[Z") (by decide +kernel)) (fun _ h9 => h9) rfl dX10_holdsBy_41 ?_
        refine lv_iload hx hb dX10_holdsBy_44 (lv_at hl 2 rfl) ?_
        refine lv_iconst (v := 1) hx hb dX10_holdsBy_46 (by decide) ?_
        refine lv_isub hx hb dX10_holdsBy_47 ?_
        refine lv_topi (fun yn64 eyn64 => ?_)
        obtain rfl : yn64 = (nI (tp - 1)) := eyn64.trans (nI_sub (a := tp) (b := 1) (by omega))
        refine lv_aload_n hx hb dX10_holdsBy_48 rfl (lv_at hl 3 rfl) ?_
        refine va_get (D := D) (ci := 11) (v := .ref v35) (C := RX10) (T := TX10) (N := 39) hx hb hts inX10 hown hK hP 0 rfl rfl 35 (by decide) (hts (.fieldLink RX10 60 "EscrowDeskModel" "stack" "[Z") (by decide +kernel)) (fun _ h9 => h9) rfl dX10_holdsBy_49 ?_
        refine lv_iload hx hb dX10_holdsBy_52 (lv_at hl 2 rfl) ?_
        refine lv_iconst (v := 1) hx hb dX10_holdsBy_54 (by decide) ?_
        refine lv_isub hx hb dX10_holdsBy_55 ?_
        refine lv_topi (fun yn65 eyn65 => ?_)
        obtain rfl : yn65 = (nI (tp - 1)) := eyn65.trans (nI_sub (a := tp) (b := 1) (by omega))
        refine va_zald hx hb hK hP 4 4 rfl rfl (vp_in_nI (n := (tp - 1)) (N := 400) (show (tp - 1) < 400 by omega) (by decide)) dX10_holdsBy_56 ?_
        refine lv_topi (fun yn66 eyn66 => ?_)
        obtain rfl : yn66 = (f4_1 (tp - 1)) := eyn66.trans (by rw [nI_clamp (by omega)])
        refine lv_if_ne (tgt := 64) hx hb dX10_holdsBy_57 (by decide) (fun c67 => ?_) (fun c67 => ?_)
        · skip
          refine lv_iconst (v := 0) hx hb dX10_holdsBy_64 (by decide) ?_
          refine va_zast hx hb hK hP hD hS 4 4 rfl rfl (vp_in_nI (n := (tp - 1)) (N := 400) (show (tp - 1) < 400 by omega) (by decide)) dX10_holdsBy_65 (fun H locs hP hD hS => ?_)
          obtain ⟨hP, hD⟩ : PDq D A [(oX10 w0 v0 v1 v2 v3 v4 g5 g6 (nI ed) g8 v9 (nI nb) g11 g12 v13 g14 g15 g16 g17 g18 g19 g20 g21 g22 g23 g24 g25 g26 v27 v28 v29 v30 v31 v32 v33 v34 v35 v36 v37 (nI ol)), (v0, .inl (cA 0, 326, .inl fs)), (v31, .inl (cA 0, 400, .inl fc)), (v33, .inl (cA 0, 11, .inl fq)), (v35, .inl (cA 4, 400, .inl (upd f4_1 (((nI (tp - 1))).toNatClampNeg) (vp_nar .boolean 0))))] H := ⟨hP, hD⟩
          have hn69 : Bit 400 (upd f4_1 (((nI (tp - 1))).toNatClampNeg) (vp_nar .boolean 0)) := Bit.put hf0_1 _ (by first | exact Or.inl rfl | exact Or.inr rfl)
          have hn70 : Upp (tp - 1) (vp_nar .boolean 0) f4_1 (upd f4_1 (((nI (tp - 1))).toNatClampNeg) (vp_nar .boolean 0)) := Upp.of (by omega)
          have hn71 : Rdk (upd f4_1 (((nI (tp - 1))).toNatClampNeg) (vp_nar .boolean 0)) := rfl
          generalize (upd f4_1 (((nI (tp - 1))).toNatClampNeg) (vp_nar .boolean 0)) = fn68 at hP hD hn69 hn70 hn71
          obtain ⟨hP, hD⟩ : PDq D A [(oX10 w0 v0 v1 v2 v3 v4 g5 g6 (nI ed) g8 v9 (nI nb) g11 g12 v13 g14 g15 g16 g17 g18 g19 g20 g21 g22 g23 g24 g25 g26 v27 v28 v29 v30 v31 v32 v33 v34 v35 v36 v37 (nI ol)), (v0, .inl (cA 0, 326, .inl fs)), (v31, .inl (cA 0, 400, .inl fc)), (v33, .inl (cA 0, 11, .inl fq)), (v35, .inl (cA 4, 400, .inl fn68))] H := ⟨hP, hD⟩
          refine lv_goto (tgt := 181) hx hb dX10_holdsBy_66 (by decide) ?_
          refine lv_iinc (v := (nI (i1 + 1))) (lv' := [(6, .int (nI (i1 + 1))), (7, .int (fc i1)), (5, .int (nI tp)), (0, .ref w0), (1, .int (nI mi)), (2, .int d), (3, .int x), (4, .int y)]) hx hb dX10_holdsBy_181 hl (k := 1) rfl (nI_1 _) (by decide) rfl (fun ls hl => ?_)
          refine lv_goto (tgt := 11) hx hb dX10_holdsBy_184 (by decide) ?_
          obtain ⟨hP9, hD9⟩ := PDq.sub (ws' := [(oX10 w0 v0 v1 v2 v3 v4 g5 g6 (nI ed) g8 v9 (nI nb) g11 g12 v13 g14 g15 g16 g17 g18 g19 g20 g21 g22 g23 g24 g25 g26 v27 v28 v29 v30 v31 v32 v33 v34 v35 v36 v37 (nI ol)), (v0, .inl (cA 0, 326, .inl fs)), (v31, .inl (cA 0, 400, .inl fc)), (v33, .inl (cA 0, 11, .inl fq)), (v35, .inl (cA 4, 400, .inl fn68))]) hP hD [0, 1, 2, 3, 4] (by decide) rfl
          exact ih1 (i1 + 1) tp fn68 H _ ls (by omega) hn69 hn71 hv0_1 (by omega) (HB9.not hv2_1 (by omega) c11 (Or.inl ⟨c67, rfl⟩) hn70) hP9 hD9 hS (lv_sub hl [0, 2, 3, 4, 5, 6, 7] rfl)
        · skip
          refine lv_iconst (v := 1) hx hb dX10_holdsBy_60 (by decide) ?_
          refine lv_goto (tgt := 65) hx hb dX10_holdsBy_61 (by decide) ?_
          refine va_zast hx hb hK hP hD hS 4 4 rfl rfl (vp_in_nI (n := (tp - 1)) (N := 400) (show (tp - 1) < 400 by omega) (by decide)) dX10_holdsBy_65 (fun H locs hP hD hS => ?_)
          obtain ⟨hP, hD⟩ : PDq D A [(oX10 w0 v0 v1 v2 v3 v4 g5 g6 (nI ed) g8 v9 (nI nb) g11 g12 v13 g14 g15 g16 g17 g18 g19 g20 g21 g22 g23 g24 g25 g26 v27 v28 v29 v30 v31 v32 v33 v34 v35 v36 v37 (nI ol)), (v0, .inl (cA 0, 326, .inl fs)), (v31, .inl (cA 0, 400, .inl fc)), (v33, .inl (cA 0, 11, .inl fq)), (v35, .inl (cA 4, 400, .inl (upd f4_1 (((nI (tp - 1))).toNatClampNeg) (vp_nar .boolean 1))))] H := ⟨hP, hD⟩
          have hn73 : Bit 400 (upd f4_1 (((nI (tp - 1))).toNatClampNeg) (vp_nar .boolean 1)) := Bit.put hf0_1 _ (by first | exact Or.inl rfl | exact Or.inr rfl)
          have hn74 : Upp (tp - 1) (vp_nar .boolean 1) f4_1 (upd f4_1 (((nI (tp - 1))).toNatClampNeg) (vp_nar .boolean 1)) := Upp.of (by omega)
          have hn75 : Rdk (upd f4_1 (((nI (tp - 1))).toNatClampNeg) (vp_nar .boolean 1)) := rfl
          generalize (upd f4_1 (((nI (tp - 1))).toNatClampNeg) (vp_nar .boolean 1)) = fn72 at hP hD hn73 hn74 hn75
          obtain ⟨hP, hD⟩ : PDq D A [(oX10 w0 v0 v1 v2 v3 v4 g5 g6 (nI ed) g8 v9 (nI nb) g11 g12 v13 g14 g15 g16 g17 g18 g19 g20 g21 g22 g23 g24 g25 g26 v27 v28 v29 v30 v31 v32 v33 v34 v35 v36 v37 (nI ol)), (v0, .inl (cA 0, 326, .inl fs)), (v31, .inl (cA 0, 400, .inl fc)), (v33, .inl (cA 0, 11, .inl fq)), (v35, .inl (cA 4, 400, .inl fn72))] H := ⟨hP, hD⟩
          refine lv_goto (tgt := 181) hx hb dX10_holdsBy_66 (by decide) ?_
          refine lv_iinc (v := (nI (i1 + 1))) (lv' := [(6, .int (nI (i1 + 1))), (7, .int (fc i1)), (5, .int (nI tp)), (0, .ref w0), (1, .int (nI mi)), (2, .int d), (3, .int x), (4, .int y)]) hx hb dX10_holdsBy_181 hl (k := 1) rfl (nI_1 _) (by decide) rfl (fun ls hl => ?_)
          refine lv_goto (tgt := 11) hx hb dX10_holdsBy_184 (by decide) ?_
          obtain ⟨hP9, hD9⟩ := PDq.sub (ws' := [(oX10 w0 v0 v1 v2 v3 v4 g5 g6 (nI ed) g8 v9 (nI nb) g11 g12 v13 g14 g15 g16 g17 g18 g19 g20 g21 g22 g23 g24 g25 g26 v27 v28 v29 v30 v31 v32 v33 v34 v35 v36 v37 (nI ol)), (v0, .inl (cA 0, 326, .inl fs)), (v31, .inl (cA 0, 400, .inl fc)), (v33, .inl (cA 0, 11, .inl fq)), (v35, .inl (cA 4, 400, .inl fn72))]) hP hD [0, 1, 2, 3, 4] (by decide) rfl
          exact ih1 (i1 + 1) tp fn72 H _ ls (by omega) hn73 hn75 hv0_1 (by omega) (HB9.not hv2_1 (by omega) c11 (Or.inr ⟨c67, rfl⟩) hn74) hP9 hD9 hS (lv_sub hl [0, 2, 3, 4, 5, 6, 7] rfl)
  obtain ⟨hP9, hD9⟩ := PDq.sub (ws' := [(oX10 w0 v0 v1 v2 v3 v4 g5 g6 (nI ed) g8 v9 (nI nb) g11 g12 v13 g14 g15 g16 g17 g18 g19 g20 g21 g22 g23 g24 g25 g26 v27 v28 v29 v30 v31 v32 v33 v34 v35 v36 v37 (nI ol)), (v0, .inl (cA 0, 326, .inl fs)), (v31, .inl (cA 0, 400, .inl fc)), (v33, .inl (cA 0, 11, .inl fq)), (v35, .inl (cA 4, 400, .inl fk))]) hP hD [0, 1, 2, 3, 4] (by decide) rfl
  exact loop1 ((cq (mi + 1)) - (cq mi)) (cq mi) 0 fk _ _ ls (by omega) hbit rfl (by omega) (by omega) (HB9.zero hcq3) hP9 hD9 hS (lv_sub hl [0, 1, 2, 3, 4, 5, 6] rfl)

set_option maxHeartbeats 4000000 in
set_option maxRecDepth 100000 in
/-- reference, exactly: holdsNow -/
theorem e_holdsNow (l : Launch) (D : va_G) (cA : Nat → ClassId) (sa : Nat → Nat) (w0 : Nat) (ed : Nat) (nb : Nat) (ol : Nat) (v0 : Nat) (v1 : Nat) (v2 : Nat) (v3 : Nat) (v4 : Nat) (v9 : Nat) (v13 : Nat) (v27 : Nat) (v28 : Nat) (v29 : Nat) (v30 : Nat) (v31 : Nat) (v32 : Nat) (v33 : Nat) (v34 : Nat) (v35 : Nat) (v36 : Nat) (v37 : Nat) (g8 : Int32) (g11 : Int32) (g12 : Int32) (g14 : Int32) (g15 : Int32) (g16 : Int32) (g17 : Int32) (g18 : Int32) (g19 : Int32) (g20 : Int32) (g21 : Int32) (g22 : Int32) (g23 : Int32) (g24 : Int32) (g26 : Int32) (g5 : Int64) (g6 : Int64) (g25 : Int64) (cn : Nat) (pq : Nat) (en : Nat) (dy : Nat) (fs : Nat → Int32) (fc : Nat → Int32) (fq : Nat → Int32) (fk : Nat → Int32) (ra : Nat → Int32) (cq : Nat → Nat) (mi : Nat) (sz : Nat) (hAb : Ab ra fs) (hcn : cn ≤ 10) (hpq : pq ≤ 8) (hen : en ≤ 60) (hdy : dy ≤ 20000) (hri : RI cn pq en dy fs) (hCQ : CQ cn fc cq) (hcq : Elq cn cq fq) (hbit : Bit 400 fk) (hmi9 : mi < cn) : Met l yX10_holdsNow wsX10_holdsNow ({ frames := 3, cells := 0, slots := 0, locals := 75 }) (va_Pc [.ref w0, .int (nI mi)] (Wd D cA sa [(oX10 w0 v0 v1 v2 v3 v4 g5 g6 (nI ed) g8 v9 (nI nb) g11 g12 v13 g14 g15 g16 g17 g18 g19 g20 g21 g22 g23 g24 g25 g26 v27 v28 v29 v30 v31 v32 v33 v34 v35 v36 v37 (nI ol)), (v0, .inl (cA 0, 326, .inl fs)), (v31, .inl (cA 0, 400, .inl fc)), (v33, .inl (cA 0, 11, .inl fq)), (v35, .inl (cA 4, 400, .inl fk))] sz)) (va_Qi (fun (r : Int32) (_ : Unit) => (r = 1 ∧ (hdV (hdF ra mi (ra 4) (ra 12) (doR ra cn)) fc cq mi = true)) ∨ (r = 0 ∧ ¬ (hdV (hdF ra mi (ra 4) (ra 12) (doR ra cn)) fc cq mi = true))) (fun (_ : Unit) t => ∃ zk : Nat → Int32, Bit 400 zk ∧ Wq D (va_A [(oX10 w0 v0 v1 v2 v3 v4 g5 g6 (nI ed) g8 v9 (nI nb) g11 g12 v13 g14 g15 g16 g17 g18 g19 g20 g21 g22 g23 g24 g25 g26 v27 v28 v29 v30 v31 v32 v33 v34 v35 v36 v37 (nI ol)), (v0, .inl (cA 0, 326, .inl fs)), (v31, .inl (cA 0, 400, .inl fc)), (v33, .inl (cA 0, 11, .inl fq)), (v35, .inl (cA 4, 400, .inl fk))] sz) [(oX10 w0 v0 v1 v2 v3 v4 g5 g6 (nI ed) g8 v9 (nI nb) g11 g12 v13 g14 g15 g16 g17 g18 g19 g20 g21 g22 g23 g24 g25 g26 v27 v28 v29 v30 v31 v32 v33 v34 v35 v36 v37 (nI ol)), (v0, .inl (cA 0, 326, .inl fs)), (v31, .inl (cA 0, 400, .inl fc)), (v33, .inl (cA 0, 11, .inl fq)), (v35, .inl (cA 4, 400, .inl zk))] t) (va_A [(oX10 w0 v0 v1 v2 v3 v4 g5 g6 (nI ed) g8 v9 (nI nb) g11 g12 v13 g14 g15 g16 g17 g18 g19 g20 g21 g22 g23 g24 g25 g26 v27 v28 v29 v30 v31 v32 v33 v34 v35 v36 v37 (nI ol)), (v0, .inl (cA 0, 326, .inl fs)), (v31, .inl (cA 0, 400, .inl fc)), (v33, .inl (cA 0, 11, .inl fq)), (v35, .inl (cA 4, 400, .inl fk))] sz)) 0 0 (va_A [(oX10 w0 v0 v1 v2 v3 v4 g5 g6 (nI ed) g8 v9 (nI nb) g11 g12 v13 g14 g15 g16 g17 g18 g19 g20 g21 g22 g23 g24 g25 g26 v27 v28 v29 v30 v31 v32 v33 v34 v35 v36 v37 (nI ol)), (v0, .inl (cA 0, 326, .inl fs)), (v31, .inl (cA 0, 400, .inl fc)), (v33, .inl (cA 0, 11, .inl fq)), (v35, .inl (cA 4, 400, .inl fk))] sz) := by
  refine Met.ofW (cc := cX10_holdsNow) (maxL := 2) (ret := (some .boolean)) (by decide) rfl ?_
  intro p e s m args below meth c s₁ B hml hv
  obtain ⟨rfl, hsz, hP, hK, hD0, hC, hZ⟩ := hv
  have hx := B.exec
  have hb := B.bytes
  have hr := B.returns
  have hts := atoms_spec (ws := wsX10_holdsNow) B.pre
  have hown : s.vm.findClass RX10 = some m.cls := findClass_of_methodNamed B.named
  have hlocks := B.notSynchronized
  subst hsz
  have hD := hD0.self (sz := s.heap.size)
  generalize hAe : va_A [(oX10 w0 v0 v1 v2 v3 v4 g5 g6 (nI ed) g8 v9 (nI nb) g11 g12 v13 g14 g15 g16 g17 g18 g19 g20 g21 g22 g23 g24 g25 g26 v27 v28 v29 v30 v31 v32 v33 v34 v35 v36 v37 (nI ol)), (v0, .inl (cA 0, 326, .inl fs)), (v31, .inl (cA 0, 400, .inl fc)), (v33, .inl (cA 0, 11, .inl fq)), (v35, .inl (cA 4, 400, .inl fk))] s.heap.size = A at hD hZ ⊢
  have hA : ∀ q : Nat, s.heap.size ≤ q → A q := fun q h => by rw [← hAe]; exact Or.inr h
  have hS : va_S A s.heap s.heap [] := va_S.rf
  have hP : va_P D vwCl [(oX10 w0 v0 v1 v2 v3 v4 g5 g6 (nI ed) g8 v9 (nI nb) g11 g12 v13 g14 g15 g16 g17 g18 g19 g20 g21 g22 g23 g24 g25 g26 v27 v28 v29 v30 v31 v32 v33 v34 v35 v36 v37 (nI ol)), (v0, .inl (cA 0, 326, .inl fs)), (v31, .inl (cA 0, 400, .inl fc)), (v33, .inl (cA 0, 11, .inl fq)), (v35, .inl (cA 4, 400, .inl fk))] s.heap := hP
  have hl := lv_entry ([.ref w0, .int (nI mi)]) (n := 2) (Nat.le_of_ble_eq_true rfl)
  rw [lg_entry_eq]
  generalize (lg_sl ([.ref w0, .int (nI mi)]) ++ List.replicate (2 - (lg_sl ([.ref w0, .int (nI mi)])).length) Slot.unset).toArray = ls at hl ⊢
  have hl : lv_has ls 2 [(0, .ref w0), (1, .int (nI mi))] := hl
  have inX10 : ∀ w ∈ u_ws RX10 TX10 39, w ∈ wsX10_holdsNow := by decide +kernel
  refine lv_aload_n hx hb dX10_holdsNow_0 rfl (lv_at hl 0 rfl) ?_
  refine lv_iload_n hx hb dX10_holdsNow_1 rfl (lv_at hl 1 rfl) ?_
  refine lv_aload_n hx hb dX10_holdsNow_2 rfl (lv_at hl 0 rfl) ?_
  refine va_get (D := D) (ci := 11) (v := .ref v0) (C := RX10) (T := TX10) (N := 39) hx hb hts inX10 hown hK hP 0 rfl rfl 0 (by decide) (hts (.fieldLink RX10 7 "EscrowDeskModel" "s" "[I") (by decide +kernel)) (fun _ h9 => h9) rfl dX10_holdsNow_3 ?_
  refine lv_iconst (v := 4) hx hb dX10_holdsNow_6 (by decide) ?_
  refine va_iald hx hb hK hP 1 0 rfl rfl (vp_in_iff.mpr (by decide)) dX10_holdsNow_7 ?_
  refine lv_topi (fun yn1 eyn1 => ?_)
  obtain rfl : yn1 = (ra 4) := eyn1.trans ((Ab.get hAb (j := 4) (by omega) (by omega)).trans rfl)
  refine lv_aload_n hx hb dX10_holdsNow_8 rfl (lv_at hl 0 rfl) ?_
  refine va_get (D := D) (ci := 11) (v := .ref v0) (C := RX10) (T := TX10) (N := 39) hx hb hts inX10 hown hK hP 0 rfl rfl 0 (by decide) (hts (.fieldLink RX10 7 "EscrowDeskModel" "s" "[I") (by decide +kernel)) (fun _ h9 => h9) rfl dX10_holdsNow_9 ?_
  refine lv_bipush (v := 12) hx hb dX10_holdsNow_12 (by decide) ?_
  refine va_iald hx hb hK hP 1 0 rfl rfl (vp_in_iff.mpr (by decide)) dX10_holdsNow_14 ?_
  refine lv_topi (fun yn2 eyn2 => ?_)
  obtain rfl : yn2 = (ra 12) := eyn2.trans ((Ab.get hAb (j := 12) (by omega) (by omega)).trans rfl)
  refine lv_aload_n hx hb dX10_holdsNow_15 rfl (lv_at hl 0 rfl) ?_
  obtain ⟨hPc, hDc, hFc⟩ := PDq.cut (wc := [(oX10 w0 v0 v1 v2 v3 v4 g5 g6 (nI ed) g8 v9 (nI nb) g11 g12 v13 g14 g15 g16 g17 g18 g19 g20 g21 g22 g23 g24 g25 g26 v27 v28 v29 v30 v31 v32 v33 v34 v35 v36 v37 (nI ol)), (v0, .inl (cA 0, 326, .inl fs))]) hP hD hS hA [0, 1] (by decide) rfl
  refine va_calli (va_runV (As := []) (rest := [.int (ra 12), .int (ra 4), .int (nI mi), .ref w0]) ⟨hx, hb, hml, hown, hts⟩ (e_doneSet l D cA sa w0 ed nb ol v0 v1 v2 v3 v4 v9 v13 v27 v28 v29 v30 v31 v32 v33 v34 v35 v36 v37 g8 g11 g12 g14 g15 g16 g17 g18 g19 g20 g21 g22 g23 g24 g26 g5 g6 g25 cn pq en dy fs ra s.heap.size hAb hcn hpq hen hdy hri) (cwV 0 hts gX10_holdsNow_X10_doneSet rfl rfl rfl (by decide +kernel) ⟨(Nat.le_of_ble_eq_true rfl), (Nat.le_of_ble_eq_true rfl)⟩) ⟨Wd.blind, va_recv hK hPc (ci := 11) (q0 := 0) rfl rfl, fun U hU hW => ⟨rfl, Wd.call hPc hDc hK hC hZ hS hFc U hU hW⟩⟩ rfl rfl hl.1 rfl (lv_room (Nat.le_of_ble_eq_true rfl)) dX10_holdsNow_16 ⟨(Nat.le_of_ble_eq_true rfl), (Nat.le_of_ble_eq_true rfl)⟩) hS (fun q _ h => hFc q h) hFc (fun rn3 u t H1 locs ht hvm hw hB hz1 hk1 hS => ?_)
  obtain ⟨hP1, hD1⟩ := hB
  rw [ht] at hP1
  obtain ⟨hP, hD⟩ := PDq.join (w := [(v31, .inl (cA 0, 400, .inl fc)), (v33, .inl (cA 0, 11, .inl fq)), (v35, .inl (cA 4, 400, .inl fk)), (oX10 w0 v0 v1 v2 v3 v4 g5 g6 (nI ed) g8 v9 (nI nb) g11 g12 v13 g14 g15 g16 g17 g18 g19 g20 g21 g22 g23 g24 g25 g26 v27 v28 v29 v30 v31 v32 v33 v34 v35 v36 v37 (nI ol)), (v0, .inl (cA 0, 326, .inl fs))]) 3 hP hD [0, 1] [2, 3, 4] rfl rfl (by decide) (by decide) hk1 hFc hP1 hD1 rfl
  generalize H1 = H at hP hS ⊢
  obtain rfl : rn3 = (doR ra cn) := hw
  obtain ⟨hPc, hDc, hFc⟩ := PDq.cut (wc := [(oX10 w0 v0 v1 v2 v3 v4 g5 g6 (nI ed) g8 v9 (nI nb) g11 g12 v13 g14 g15 g16 g17 g18 g19 g20 g21 g22 g23 g24 g25 g26 v27 v28 v29 v30 v31 v32 v33 v34 v35 v36 v37 (nI ol)), (v0, .inl (cA 0, 326, .inl fs)), (v31, .inl (cA 0, 400, .inl fc)), (v33, .inl (cA 0, 11, .inl fq)), (v35, .inl (cA 4, 400, .inl fk))]) hP hD hS hA [3, 4, 0, 1, 2] (by decide) rfl
  refine va_calli (va_runV (As := [.int (nI mi), .int (ra 4), .int (ra 12), .int (doR ra cn)]) (rest := []) ⟨hx, hb, hml, hown, hts⟩ (e_holdsBy l D cA sa w0 ed nb ol v0 v1 v2 v3 v4 v9 v13 v27 v28 v29 v30 v31 v32 v33 v34 v35 v36 v37 g8 g11 g12 g14 g15 g16 g17 g18 g19 g20 g21 g22 g23 g24 g26 g5 g6 g25 cn pq en dy fs fc fq fk ra cq mi (ra 4) (ra 12) (doR ra cn) H.size hAb hcn hpq hen hdy hri hCQ hcq hbit hmi9) (cwV 4 hts gX10_holdsNow_X10_holdsBy rfl rfl rfl (by decide +kernel) ⟨(Nat.le_of_ble_eq_true rfl), (Nat.le_of_ble_eq_true rfl)⟩) ⟨Wd.blind, va_recv hK hPc (ci := 11) (q0 := 0) rfl rfl, fun U hU hW => ⟨rfl, Wd.call hPc hDc hK hC hZ hS hFc U hU hW⟩⟩ rfl rfl hl.1 rfl (lv_room (Nat.le_of_ble_eq_true rfl)) dX10_holdsNow_19 ⟨(Nat.le_of_ble_eq_true rfl), (Nat.le_of_ble_eq_true rfl)⟩) hS (fun q _ h => hFc q h) hFc (fun rn4 u t H1 locs ht hvm hw hB hz1 hk1 hS => ?_)
  obtain ⟨fn5, hn6, hP1, hD1⟩ := hB
  rw [ht] at hP1
  obtain ⟨hP, hD⟩ := PDq.join (w := [(oX10 w0 v0 v1 v2 v3 v4 g5 g6 (nI ed) g8 v9 (nI nb) g11 g12 v13 g14 g15 g16 g17 g18 g19 g20 g21 g22 g23 g24 g25 g26 v27 v28 v29 v30 v31 v32 v33 v34 v35 v36 v37 (nI ol)), (v0, .inl (cA 0, 326, .inl fs)), (v31, .inl (cA 0, 400, .inl fc)), (v33, .inl (cA 0, 11, .inl fq)), (v35, .inl (cA 4, 400, .inl fn5))]) 0 hP hD [3, 4, 0, 1, 2] [] rfl rfl (by decide) (by decide) hk1 hFc hP1 hD1 rfl
  generalize H1 = H at hP hS ⊢
  rcases hw with ⟨hr9, hn7⟩ | ⟨hr9, hn7⟩
  · skip
    subst hr9
    obtain ⟨hP9, hD9⟩ := PDq.sub (ws' := [(oX10 w0 v0 v1 v2 v3 v4 g5 g6 (nI ed) g8 v9 (nI nb) g11 g12 v13 g14 g15 g16 g17 g18 g19 g20 g21 g22 g23 g24 g25 g26 v27 v28 v29 v30 v31 v32 v33 v34 v35 v36 v37 (nI ol)), (v0, .inl (cA 0, 326, .inl fs)), (v31, .inl (cA 0, 400, .inl fc)), (v33, .inl (cA 0, 11, .inl fq)), (v35, .inl (cA 4, 400, .inl fn5))]) hP hD [0, 1, 2, 3, 4] (by decide) rfl
    refine W.widen (k := 0) (n := 0) (Nat.le_of_ble_eq_true rfl) (Nat.le_of_ble_eq_true rfl) ?_
    exact (W.zret (v := 1) hx hb hr (by first | rfl | decide) (fun t ht hW => ⟨⟨1, (), rfl, (Or.inl ⟨rfl, hn7⟩), fn5, hn6, by rw [ht]; exact hP9, hD9⟩, hS.F ht⟩) hS.2.2 dX10_holdsNow_22)
  · skip
    subst hr9
    obtain ⟨hP9, hD9⟩ := PDq.sub (ws' := [(oX10 w0 v0 v1 v2 v3 v4 g5 g6 (nI ed) g8 v9 (nI nb) g11 g12 v13 g14 g15 g16 g17 g18 g19 g20 g21 g22 g23 g24 g25 g26 v27 v28 v29 v30 v31 v32 v33 v34 v35 v36 v37 (nI ol)), (v0, .inl (cA 0, 326, .inl fs)), (v31, .inl (cA 0, 400, .inl fc)), (v33, .inl (cA 0, 11, .inl fq)), (v35, .inl (cA 4, 400, .inl fn5))]) hP hD [0, 1, 2, 3, 4] (by decide) rfl
    refine W.widen (k := 0) (n := 0) (Nat.le_of_ble_eq_true rfl) (Nat.le_of_ble_eq_true rfl) ?_
    exact (W.zret (v := 0) hx hb hr (by first | rfl | decide) (fun t ht hW => ⟨⟨0, (), rfl, (Or.inr ⟨rfl, hn7⟩), fn5, hn6, by rw [ht]; exact hP9, hD9⟩, hS.F ht⟩) hS.2.2 dX10_holdsNow_22)

set_option maxHeartbeats 4000000 in
set_option maxRecDepth 100000 in
/-- reference, exactly: credit -/
theorem e_credit (l : Launch) (D : va_G) (cA : Nat → ClassId) (sa : Nat → Nat) (w0 : Nat) (ed : Nat) (nb : Nat) (ol : Nat) (v0 : Nat) (v1 : Nat) (v2 : Nat) (v3 : Nat) (v4 : Nat) (v9 : Nat) (v13 : Nat) (v27 : Nat) (v28 : Nat) (v29 : Nat) (v30 : Nat) (v31 : Nat) (v32 : Nat) (v33 : Nat) (v34 : Nat) (v35 : Nat) (v36 : Nat) (v37 : Nat) (g8 : Int32) (g11 : Int32) (g12 : Int32) (g14 : Int32) (g15 : Int32) (g16 : Int32) (g17 : Int32) (g18 : Int32) (g19 : Int32) (g20 : Int32) (g21 : Int32) (g22 : Int32) (g23 : Int32) (g24 : Int32) (g26 : Int32) (g5 : Int64) (g6 : Int64) (g25 : Int64) (cn : Nat) (pq : Nat) (en : Nat) (dy : Nat) (fs : Nat → Int32) (ra : Nat → Int32) (sz : Nat) (hAb : Ab ra fs) (hcn : cn ≤ 10) (hpq : pq ≤ 8) (hen : en ≤ 60) (hdy : dy ≤ 20000) (hri : RI cn pq en dy fs) : Met l yX10_credit wsX10_credit ({ frames := 1, cells := 0, slots := 0, locals := 24 }) (va_Pc [.ref w0] (Wd D cA sa [(oX10 w0 v0 v1 v2 v3 v4 g5 g6 (nI ed) g8 v9 (nI nb) g11 g12 v13 g14 g15 g16 g17 g18 g19 g20 g21 g22 g23 g24 g25 g26 v27 v28 v29 v30 v31 v32 v33 v34 v35 v36 v37 (nI ol)), (v0, .inl (cA 0, 326, .inl fs))] sz)) (va_Qv (fun _ : Unit => True) (fun (_ : Unit) t => ∃ zq : Int64, ∃ e2 : Nat, ∃ zs : Nat → Int32, e2 ≤ 60 ∧ RI cn pq e2 dy zs ∧ Ab (crR g5 ra) zs ∧ zq = crQ g5 ra ∧ e2 = entN en (crC g5 ra) ∧ Wq D (va_A [(oX10 w0 v0 v1 v2 v3 v4 g5 g6 (nI ed) g8 v9 (nI nb) g11 g12 v13 g14 g15 g16 g17 g18 g19 g20 g21 g22 g23 g24 g25 g26 v27 v28 v29 v30 v31 v32 v33 v34 v35 v36 v37 (nI ol)), (v0, .inl (cA 0, 326, .inl fs))] sz) [(oX10 w0 v0 v1 v2 v3 v4 zq g6 (nI ed) g8 v9 (nI nb) g11 g12 v13 g14 g15 g16 g17 g18 g19 g20 g21 g22 g23 g24 g25 g26 v27 v28 v29 v30 v31 v32 v33 v34 v35 v36 v37 (nI ol)), (v0, .inl (cA 0, 326, .inl zs))] t) (va_A [(oX10 w0 v0 v1 v2 v3 v4 g5 g6 (nI ed) g8 v9 (nI nb) g11 g12 v13 g14 g15 g16 g17 g18 g19 g20 g21 g22 g23 g24 g25 g26 v27 v28 v29 v30 v31 v32 v33 v34 v35 v36 v37 (nI ol)), (v0, .inl (cA 0, 326, .inl fs))] sz)) 0 0 (va_A [(oX10 w0 v0 v1 v2 v3 v4 g5 g6 (nI ed) g8 v9 (nI nb) g11 g12 v13 g14 g15 g16 g17 g18 g19 g20 g21 g22 g23 g24 g25 g26 v27 v28 v29 v30 v31 v32 v33 v34 v35 v36 v37 (nI ol)), (v0, .inl (cA 0, 326, .inl fs))] sz) := by
  refine Met.ofW (cc := cX10_credit) (maxL := 4) (ret := none) (by decide) rfl ?_
  intro p e s m args below meth c s₁ B hml hv
  obtain ⟨rfl, hsz, hP, hK, hD0, hC, hZ⟩ := hv
  have hx := B.exec
  have hb := B.bytes
  have hr := B.returns
  have hts := atoms_spec (ws := wsX10_credit) B.pre
  have hown : s.vm.findClass RX10 = some m.cls := findClass_of_methodNamed B.named
  have hlocks := B.notSynchronized
  subst hsz
  have hD := hD0.self (sz := s.heap.size)
  generalize hAe : va_A [(oX10 w0 v0 v1 v2 v3 v4 g5 g6 (nI ed) g8 v9 (nI nb) g11 g12 v13 g14 g15 g16 g17 g18 g19 g20 g21 g22 g23 g24 g25 g26 v27 v28 v29 v30 v31 v32 v33 v34 v35 v36 v37 (nI ol)), (v0, .inl (cA 0, 326, .inl fs))] s.heap.size = A at hD hZ ⊢
  have hA : ∀ q : Nat, s.heap.size ≤ q → A q := fun q h => by rw [← hAe]; exact Or.inr h
  have hS : va_S A s.heap s.heap [] := va_S.rf
  have hP : va_P D vwCl [(oX10 w0 v0 v1 v2 v3 v4 g5 g6 (nI ed) g8 v9 (nI nb) g11 g12 v13 g14 g15 g16 g17 g18 g19 g20 g21 g22 g23 g24 g25 g26 v27 v28 v29 v30 v31 v32 v33 v34 v35 v36 v37 (nI ol)), (v0, .inl (cA 0, 326, .inl fs))] s.heap := hP
  have hl := lv_entry ([.ref w0]) (n := 4) (Nat.le_of_ble_eq_true rfl)
  rw [lg_entry_eq]
  generalize (lg_sl ([.ref w0]) ++ List.replicate (4 - (lg_sl ([.ref w0])).length) Slot.unset).toArray = ls at hl ⊢
  have hl : lv_has ls 4 [(0, .ref w0)] := hl
  have inX10 : ∀ w ∈ u_ws RX10 TX10 39, w ∈ wsX10_credit := by decide +kernel
  refine lv_ldc2 (v := 10000) hx hb hown (hts (.constantLong RX10 268 10000) (by decide +kernel)) dX10_credit_0 ?_
  refine lv_aload_n hx hb dX10_credit_3 rfl (lv_at hl 0 rfl) ?_
  refine va_get (D := D) (ci := 11) (v := .ref v0) (C := RX10) (T := TX10) (N := 39) hx hb hts inX10 hown hK hP 0 rfl rfl 0 (by decide) (hts (.fieldLink RX10 7 "EscrowDeskModel" "s" "[I") (by decide +kernel)) (fun _ h9 => h9) rfl dX10_credit_4 ?_
  refine lv_iconst (v := 1) hx hb dX10_credit_7 (by decide) ?_
  obtain ⟨kn1, hn2, hn3, hn4⟩ := hri.2.2.2.2
  refine va_iald hx hb hK hP 1 0 rfl rfl (vp_in_iff.mpr (by decide)) dX10_credit_8 ?_
  refine lv_topi (fun yn5 eyn5 => ?_)
  obtain rfl : yn5 = (nI kn1) := eyn5.trans hn4
  refine lv_i2l (v := ((nI kn1).toInt64)) hx hb dX10_credit_9 rfl ?_
  refine lv_lmul hx hb dX10_credit_10 ?_
  refine lv_topl (fun yn6 eyn6 => ?_)
  obtain rfl : yn6 = ((10000 : Int64) * ((nI kn1).toInt64)) := eyn6
  refine lv_lstore_n (lv' := [(1, .long ((10000 : Int64) * ((nI kn1).toInt64))), (0, .ref w0)]) hx hb dX10_credit_11 rfl hl (by decide) rfl (fun ls hl => ?_)
  refine lv_aload_n hx hb dX10_credit_12 rfl (lv_at hl 1 rfl) ?_
  refine va_get (D := D) (ci := 11) (v := .long g5) (C := RX10) (T := TX10) (N := 39) hx hb hts inX10 hown hK hP 0 rfl rfl 5 (by decide) (hts (.fieldLink RX10 86 "EscrowDeskModel" "parts" "J") (by decide +kernel)) (fun _ h9 => h9) rfl dX10_credit_13 ?_
  refine lv_lload_n hx hb dX10_credit_16 rfl (lv_at hl 0 rfl) ?_
  refine lv_ldiv hx hb dX10_credit_17 (bas_ne (n := kn1) (by omega) (by omega) rfl) ?_
  refine lv_topl (fun yn7 eyn7 => ?_)
  obtain rfl : yn7 = (g5 / ((10000 : Int64) * ((nI kn1).toInt64))) := eyn7
  refine lv_l2i (v := (g5 / ((10000 : Int64) * ((nI kn1).toInt64))).toInt32) hx hb dX10_credit_18 rfl ?_
  refine lv_topi (fun yn8 eyn8 => ?_)
  obtain rfl : yn8 = ((g5 / ((10000 : Int64) * ((nI kn1).toInt64))).toInt32) := eyn8
  refine lv_istore_n (lv' := [(3, .int ((g5 / ((10000 : Int64) * ((nI kn1).toInt64))).toInt32)), (1, .long ((10000 : Int64) * ((nI kn1).toInt64))), (0, .ref w0)]) hx hb dX10_credit_19 rfl hl (by decide) rfl (fun ls hl => ?_)
  refine lv_aload_n hx hb dX10_credit_20 rfl (lv_at hl 2 rfl) ?_
  refine lv_aload_n hx hb dX10_credit_21 rfl (lv_at hl 2 rfl) ?_
  refine va_get (D := D) (ci := 11) (v := .long g5) (C := RX10) (T := TX10) (N := 39) hx hb hts inX10 hown hK hP 0 rfl rfl 5 (by decide) (hts (.fieldLink RX10 86 "EscrowDeskModel" "parts" "J") (by decide +kernel)) (fun _ h9 => h9) rfl dX10_credit_22 ?_
  refine lv_lload_n hx hb dX10_credit_25 rfl (lv_at hl 1 rfl) ?_
  refine lv_lrem hx hb dX10_credit_26 (bas_ne (n := kn1) (by omega) (by omega) rfl) ?_
  refine lv_topl (fun yn9 eyn9 => ?_)
  obtain rfl : yn9 = (g5 - g5 / ((10000 : Int64) * ((nI kn1).toInt64)) * ((10000 : Int64) * ((nI kn1).toInt64))) := eyn9
  refine va_put (D := D) (ci := 11) (v := .long (g5 - g5 / ((10000 : Int64) * ((nI kn1).toInt64)) * ((10000 : Int64) * ((nI kn1).toInt64)))) (ty := .long) (C := RX10) (T := TX10) (N := 39) hx hb hts inX10 tyX10 tyX10_ok nmX10 hown hK hP hD hS 0 rfl rfl 5 (by decide) (hts (.fieldLink RX10 86 "EscrowDeskModel" "parts" "J") (by decide +kernel)) (fun _ h9 => h9) rfl (by decide +kernel) rfl rfl (Nat.le_of_ble_eq_true rfl) dX10_credit_27 (fun H locs hP hD hS => ?_)
  obtain ⟨hP, hD⟩ : PDq D A [(oX10 w0 v0 v1 v2 v3 v4 (g5 - g5 / ((10000 : Int64) * ((nI kn1).toInt64)) * ((10000 : Int64) * ((nI kn1).toInt64))) g6 (nI ed) g8 v9 (nI nb) g11 g12 v13 g14 g15 g16 g17 g18 g19 g20 g21 g22 g23 g24 g25 g26 v27 v28 v29 v30 v31 v32 v33 v34 v35 v36 v37 (nI ol)), (v0, .inl (cA 0, 326, .inl fs))] H := ⟨hP, hD⟩
  refine lv_aload_n hx hb dX10_credit_30 rfl (lv_at hl 2 rfl) ?_
  refine va_get (D := D) (ci := 11) (v := .ref v0) (C := RX10) (T := TX10) (N := 39) hx hb hts inX10 hown hK hP 0 rfl rfl 0 (by decide) (hts (.fieldLink RX10 7 "EscrowDeskModel" "s" "[I") (by decide +kernel)) (fun _ h9 => h9) rfl dX10_credit_31 ?_
  refine lv_bipush (v := 7) hx hb dX10_credit_34 (by decide) ?_
  refine lv_dup2_11 hx hb dX10_credit_36 rfl rfl ?_
  refine va_iald hx hb hK hP 1 0 rfl rfl (vp_in_iff.mpr (by decide)) dX10_credit_37 ?_
  refine lv_topi (fun yn10 eyn10 => ?_)
  obtain rfl : yn10 = (ra 7) := eyn10.trans ((Ab.get hAb (j := 7) (by omega) (by omega)).trans rfl)
  refine lv_iload_n hx hb dX10_credit_38 rfl (lv_at hl 0 rfl) ?_
  refine lv_iadd hx hb dX10_credit_39 ?_
  refine lv_topi (fun yn11 eyn11 => ?_)
  obtain rfl : yn11 = ((ra 7) + ((g5 / ((10000 : Int64) * ((nI kn1).toInt64))).toInt32)) := eyn11
  refine va_iast hx hb hK hP hD hS 1 0 rfl rfl (vp_in_iff.mpr (by decide)) dX10_credit_40 (fun H locs hP hD hS => ?_)
  obtain ⟨hP, hD⟩ : PDq D A [(oX10 w0 v0 v1 v2 v3 v4 (g5 - g5 / ((10000 : Int64) * ((nI kn1).toInt64)) * ((10000 : Int64) * ((nI kn1).toInt64))) g6 (nI ed) g8 v9 (nI nb) g11 g12 v13 g14 g15 g16 g17 g18 g19 g20 g21 g22 g23 g24 g25 g26 v27 v28 v29 v30 v31 v32 v33 v34 v35 v36 v37 (nI ol)), (v0, .inl (cA 0, 326, .inl (upd fs 7 ((ra 7) + ((g5 / ((10000 : Int64) * ((nI kn1).toInt64))).toInt32)))))] H := ⟨hP, hD⟩
  have hn13 : Ab (upd ra 7 ((ra 7) + ((g5 / ((10000 : Int64) * ((nI kn1).toInt64))).toInt32))) (upd fs 7 ((ra 7) + ((g5 / ((10000 : Int64) * ((nI kn1).toInt64))).toInt32))) := (Ab.put hAb 7 ((ra 7) + ((g5 / ((10000 : Int64) * ((nI kn1).toInt64))).toInt32)))
  have hn14 : RI cn pq en dy (upd fs 7 ((ra 7) + ((g5 / ((10000 : Int64) * ((nI kn1).toInt64))).toInt32))) := RI.put hri 7 ((ra 7) + ((g5 / ((10000 : Int64) * ((nI kn1).toInt64))).toInt32)) (by decide) (by decide) (by decide) (by decide) (by decide)
  generalize (upd fs 7 ((ra 7) + ((g5 / ((10000 : Int64) * ((nI kn1).toInt64))).toInt32))) = fn12 at hP hD hn13 hn14
  obtain ⟨hP, hD⟩ : PDq D A [(oX10 w0 v0 v1 v2 v3 v4 (g5 - g5 / ((10000 : Int64) * ((nI kn1).toInt64)) * ((10000 : Int64) * ((nI kn1).toInt64))) g6 (nI ed) g8 v9 (nI nb) g11 g12 v13 g14 g15 g16 g17 g18 g19 g20 g21 g22 g23 g24 g25 g26 v27 v28 v29 v30 v31 v32 v33 v34 v35 v36 v37 (nI ol)), (v0, .inl (cA 0, 326, .inl fn12))] H := ⟨hP, hD⟩
  refine lv_aload_n hx hb dX10_credit_41 rfl (lv_at hl 2 rfl) ?_
  refine va_get (D := D) (ci := 11) (v := .ref v0) (C := RX10) (T := TX10) (N := 39) hx hb hts inX10 hown hK hP 0 rfl rfl 0 (by decide) (hts (.fieldLink RX10 7 "EscrowDeskModel" "s" "[I") (by decide +kernel)) (fun _ h9 => h9) rfl dX10_credit_42 ?_
  refine lv_bipush (v := 8) hx hb dX10_credit_45 (by decide) ?_
  refine lv_dup2_11 hx hb dX10_credit_47 rfl rfl ?_
  refine va_iald hx hb hK hP 1 0 rfl rfl (vp_in_iff.mpr (by decide)) dX10_credit_48 ?_
  refine lv_topi (fun yn15 eyn15 => ?_)
  obtain rfl : yn15 = (ra 8) := eyn15.trans ((Ab.get hn13 (j := 8) (by omega) (by omega)).trans ((pk_un (by omega)).trans rfl))
  refine lv_iload_n hx hb dX10_credit_49 rfl (lv_at hl 0 rfl) ?_
  refine lv_iadd hx hb dX10_credit_50 ?_
  refine lv_topi (fun yn16 eyn16 => ?_)
  obtain rfl : yn16 = ((ra 8) + ((g5 / ((10000 : Int64) * ((nI kn1).toInt64))).toInt32)) := eyn16
  refine va_iast hx hb hK hP hD hS 1 0 rfl rfl (vp_in_iff.mpr (by decide)) dX10_credit_51 (fun H locs hP hD hS => ?_)
  obtain ⟨hP, hD⟩ : PDq D A [(oX10 w0 v0 v1 v2 v3 v4 (g5 - g5 / ((10000 : Int64) * ((nI kn1).toInt64)) * ((10000 : Int64) * ((nI kn1).toInt64))) g6 (nI ed) g8 v9 (nI nb) g11 g12 v13 g14 g15 g16 g17 g18 g19 g20 g21 g22 g23 g24 g25 g26 v27 v28 v29 v30 v31 v32 v33 v34 v35 v36 v37 (nI ol)), (v0, .inl (cA 0, 326, .inl (upd fn12 8 ((ra 8) + ((g5 / ((10000 : Int64) * ((nI kn1).toInt64))).toInt32)))))] H := ⟨hP, hD⟩
  have hn18 : Ab (upd (upd ra 7 ((ra 7) + ((g5 / ((10000 : Int64) * ((nI kn1).toInt64))).toInt32))) 8 ((ra 8) + ((g5 / ((10000 : Int64) * ((nI kn1).toInt64))).toInt32))) (upd fn12 8 ((ra 8) + ((g5 / ((10000 : Int64) * ((nI kn1).toInt64))).toInt32))) := (Ab.put hn13 8 ((ra 8) + ((g5 / ((10000 : Int64) * ((nI kn1).toInt64))).toInt32)))
  have hn19 : RI cn pq en dy (upd fn12 8 ((ra 8) + ((g5 / ((10000 : Int64) * ((nI kn1).toInt64))).toInt32))) := RI.put hn14 8 ((ra 8) + ((g5 / ((10000 : Int64) * ((nI kn1).toInt64))).toInt32)) (by decide) (by decide) (by decide) (by decide) (by decide)
  generalize (upd fn12 8 ((ra 8) + ((g5 / ((10000 : Int64) * ((nI kn1).toInt64))).toInt32))) = fn17 at hP hD hn18 hn19
  obtain ⟨hP, hD⟩ : PDq D A [(oX10 w0 v0 v1 v2 v3 v4 (g5 - g5 / ((10000 : Int64) * ((nI kn1).toInt64)) * ((10000 : Int64) * ((nI kn1).toInt64))) g6 (nI ed) g8 v9 (nI nb) g11 g12 v13 g14 g15 g16 g17 g18 g19 g20 g21 g22 g23 g24 g25 g26 v27 v28 v29 v30 v31 v32 v33 v34 v35 v36 v37 (nI ol)), (v0, .inl (cA 0, 326, .inl fn17))] H := ⟨hP, hD⟩
  refine lv_aload_n hx hb dX10_credit_52 rfl (lv_at hl 2 rfl) ?_
  refine va_get (D := D) (ci := 11) (v := .ref v0) (C := RX10) (T := TX10) (N := 39) hx hb hts inX10 hown hK hP 0 rfl rfl 0 (by decide) (hts (.fieldLink RX10 7 "EscrowDeskModel" "s" "[I") (by decide +kernel)) (fun _ h9 => h9) rfl dX10_credit_53 ?_
  refine lv_iconst (v := 3) hx hb dX10_credit_56 (by decide) ?_
  refine lv_iload_n hx hb dX10_credit_57 rfl (lv_at hl 0 rfl) ?_
  refine lv_iconst (v := (-1)) hx hb dX10_credit_58 (by decide) ?_
  obtain ⟨hPc, hDc, hFc⟩ := PDq.cut (wc := [(v0, .inl (cA 0, 326, .inl fn17))]) hP hD hS hA [1] (by decide) rfl
  refine va_callv (va_runS (As := [.ref v0, .int 3, .int ((g5 / ((10000 : Int64) * ((nI kn1).toInt64))).toInt32), .int (-1)]) (rest := []) ⟨hx, hb, hml, hown, hts⟩ (e_enter l D cA sa v0 cn pq en dy fn17 (upd (upd ra 7 ((ra 7) + ((g5 / ((10000 : Int64) * ((nI kn1).toInt64))).toInt32))) 8 ((ra 8) + ((g5 / ((10000 : Int64) * ((nI kn1).toInt64))).toInt32))) 3 ((g5 / ((10000 : Int64) * ((nI kn1).toInt64))).toInt32) (-1) H.size hn18 hcn hpq hen hdy hn19) (va_cwS 4 hts gX10_credit_X10_enter rfl rfl rfl (by decide +kernel) ⟨(Nat.le_of_ble_eq_true rfl), (Nat.le_of_ble_eq_true rfl)⟩) ⟨Wd.blind, fun U hU hW => ⟨rfl, Wd.call hPc hDc hK hC hZ hS hFc U hU hW⟩⟩ rfl rfl hl.1 rfl (lv_room (Nat.le_of_ble_eq_true rfl)) dX10_credit_59 ⟨(Nat.le_of_ble_eq_true rfl), (Nat.le_of_ble_eq_true rfl)⟩) hS (fun q _ h => hFc q h) hFc (fun u t H1 locs ht hvm hw hB hz1 hk1 hS => ?_)
  obtain ⟨qn20, fn21, hn22, hn23, hn24, hn25, hP1, hD1⟩ := hB
  rw [ht] at hP1
  obtain ⟨hP, hD⟩ := PDq.join (w := [(oX10 w0 v0 v1 v2 v3 v4 (g5 - g5 / ((10000 : Int64) * ((nI kn1).toInt64)) * ((10000 : Int64) * ((nI kn1).toInt64))) g6 (nI ed) g8 v9 (nI nb) g11 g12 v13 g14 g15 g16 g17 g18 g19 g20 g21 g22 g23 g24 g25 g26 v27 v28 v29 v30 v31 v32 v33 v34 v35 v36 v37 (nI ol)), (v0, .inl (cA 0, 326, .inl fn21))]) 1 hP hD [1] [0] rfl rfl (by decide) (by decide) hk1 hFc hP1 hD1 rfl
  generalize H1 = H at hP hS ⊢
  obtain ⟨hP9, hD9⟩ := PDq.sub (ws' := [(oX10 w0 v0 v1 v2 v3 v4 (g5 - g5 / ((10000 : Int64) * ((nI kn1).toInt64)) * ((10000 : Int64) * ((nI kn1).toInt64))) g6 (nI ed) g8 v9 (nI nb) g11 g12 v13 g14 g15 g16 g17 g18 g19 g20 g21 g22 g23 g24 g25 g26 v27 v28 v29 v30 v31 v32 v33 v34 v35 v36 v37 (nI ol)), (v0, .inl (cA 0, 326, .inl fn21))]) hP hD [0, 1] (by decide) rfl
  refine W.widen (k := 0) (n := 0) (Nat.le_of_ble_eq_true rfl) (Nat.le_of_ble_eq_true rfl) ?_
  exact (W.vret hx hb hr (fun t ht hW => ⟨⟨(), rfl, trivial, (g5 - g5 / ((10000 : Int64) * ((nI kn1).toInt64)) * ((10000 : Int64) * ((nI kn1).toInt64))), qn20, fn21, hn22, hn23, (by have q9 := hn24; unfold crR crC; rw [((hAb 1 (by decide) (by decide)).symm.trans hn4)]; exact q9), (by unfold crQ; rw [((hAb 1 (by decide) (by decide)).symm.trans hn4)]), (by rw [show qn20 = _ from hn25]; unfold crC; rw [((hAb 1 (by decide) (by decide)).symm.trans hn4)]), by rw [ht]; exact hP9, hD9⟩, hS.F ht⟩) hS.2.2 dX10_credit_62)

set_option maxHeartbeats 4000000 in
set_option maxRecDepth 100000 in
/-- reference, exactly: becomeDue -/
theorem e_becomeDue (l : Launch) (D : va_G) (cA : Nat → ClassId) (sa : Nat → Nat) (w0 : Nat) (ed : Nat) (nb : Nat) (ol : Nat) (v0 : Nat) (v1 : Nat) (v2 : Nat) (v3 : Nat) (v4 : Nat) (v9 : Nat) (v13 : Nat) (v27 : Nat) (v28 : Nat) (v29 : Nat) (v30 : Nat) (v31 : Nat) (v32 : Nat) (v33 : Nat) (v34 : Nat) (v35 : Nat) (v36 : Nat) (v37 : Nat) (g8 : Int32) (g11 : Int32) (g12 : Int32) (g14 : Int32) (g15 : Int32) (g16 : Int32) (g17 : Int32) (g18 : Int32) (g19 : Int32) (g20 : Int32) (g21 : Int32) (g22 : Int32) (g23 : Int32) (g24 : Int32) (g26 : Int32) (g5 : Int64) (g6 : Int64) (g25 : Int64) (cn : Nat) (pq : Nat) (en : Nat) (dy : Nat) (fs : Nat → Int32) (fc : Nat → Int32) (fq : Nat → Int32) (fk : Nat → Int32) (ra : Nat → Int32) (cq : Nat → Nat) (sz : Nat) (hAb : Ab ra fs) (hcn : cn ≤ 10) (hpq : pq ≤ 8) (hen : en ≤ 60) (hdy : dy ≤ 20000) (hri : RI cn pq en dy fs) (hCQ : CQ cn fc cq) (hcq : Elq cn cq fq) (hbit : Bit 400 fk) : Met l yX10_becomeDue wsX10_becomeDue ({ frames := 3, cells := 0, slots := 0, locals := 75 }) (va_Pc [.ref w0] (Wd D cA sa [(oX10 w0 v0 v1 v2 v3 v4 g5 g6 (nI ed) g8 v9 (nI nb) g11 g12 v13 g14 g15 g16 g17 g18 g19 g20 g21 g22 g23 g24 g25 g26 v27 v28 v29 v30 v31 v32 v33 v34 v35 v36 v37 (nI ol)), (v0, .inl (cA 0, 326, .inl fs)), (v31, .inl (cA 0, 400, .inl fc)), (v33, .inl (cA 0, 11, .inl fq)), (v35, .inl (cA 4, 400, .inl fk))] sz)) (va_Qv (fun _ : Unit => True) (fun (_ : Unit) t => ∃ zs : Nat → Int32, ∃ zk : Nat → Int32, Bit 400 zk ∧ RI cn pq en dy zs ∧ Ab (dues fc cq (doR ra cn) ra cn) zs ∧ Wq D (va_A [(oX10 w0 v0 v1 v2 v3 v4 g5 g6 (nI ed) g8 v9 (nI nb) g11 g12 v13 g14 g15 g16 g17 g18 g19 g20 g21 g22 g23 g24 g25 g26 v27 v28 v29 v30 v31 v32 v33 v34 v35 v36 v37 (nI ol)), (v0, .inl (cA 0, 326, .inl fs)), (v31, .inl (cA 0, 400, .inl fc)), (v33, .inl (cA 0, 11, .inl fq)), (v35, .inl (cA 4, 400, .inl fk))] sz) [(oX10 w0 v0 v1 v2 v3 v4 g5 g6 (nI ed) g8 v9 (nI nb) g11 g12 v13 g14 g15 g16 g17 g18 g19 g20 g21 g22 g23 g24 g25 g26 v27 v28 v29 v30 v31 v32 v33 v34 v35 v36 v37 (nI ol)), (v0, .inl (cA 0, 326, .inl zs)), (v31, .inl (cA 0, 400, .inl fc)), (v33, .inl (cA 0, 11, .inl fq)), (v35, .inl (cA 4, 400, .inl zk))] t) (va_A [(oX10 w0 v0 v1 v2 v3 v4 g5 g6 (nI ed) g8 v9 (nI nb) g11 g12 v13 g14 g15 g16 g17 g18 g19 g20 g21 g22 g23 g24 g25 g26 v27 v28 v29 v30 v31 v32 v33 v34 v35 v36 v37 (nI ol)), (v0, .inl (cA 0, 326, .inl fs)), (v31, .inl (cA 0, 400, .inl fc)), (v33, .inl (cA 0, 11, .inl fq)), (v35, .inl (cA 4, 400, .inl fk))] sz)) 0 0 (va_A [(oX10 w0 v0 v1 v2 v3 v4 g5 g6 (nI ed) g8 v9 (nI nb) g11 g12 v13 g14 g15 g16 g17 g18 g19 g20 g21 g22 g23 g24 g25 g26 v27 v28 v29 v30 v31 v32 v33 v34 v35 v36 v37 (nI ol)), (v0, .inl (cA 0, 326, .inl fs)), (v31, .inl (cA 0, 400, .inl fc)), (v33, .inl (cA 0, 11, .inl fq)), (v35, .inl (cA 4, 400, .inl fk))] sz) := by
  refine Met.ofW (cc := cX10_becomeDue) (maxL := 3) (ret := none) (by decide) rfl ?_
  intro p e s m args below meth c s₁ B hml hv
  obtain ⟨rfl, hsz, hP, hK, hD0, hC, hZ⟩ := hv
  have hx := B.exec
  have hb := B.bytes
  have hr := B.returns
  have hts := atoms_spec (ws := wsX10_becomeDue) B.pre
  have hown : s.vm.findClass RX10 = some m.cls := findClass_of_methodNamed B.named
  have hlocks := B.notSynchronized
  subst hsz
  have hD := hD0.self (sz := s.heap.size)
  generalize hAe : va_A [(oX10 w0 v0 v1 v2 v3 v4 g5 g6 (nI ed) g8 v9 (nI nb) g11 g12 v13 g14 g15 g16 g17 g18 g19 g20 g21 g22 g23 g24 g25 g26 v27 v28 v29 v30 v31 v32 v33 v34 v35 v36 v37 (nI ol)), (v0, .inl (cA 0, 326, .inl fs)), (v31, .inl (cA 0, 400, .inl fc)), (v33, .inl (cA 0, 11, .inl fq)), (v35, .inl (cA 4, 400, .inl fk))] s.heap.size = A at hD hZ ⊢
  have hA : ∀ q : Nat, s.heap.size ≤ q → A q := fun q h => by rw [← hAe]; exact Or.inr h
  have hS : va_S A s.heap s.heap [] := va_S.rf
  have hP : va_P D vwCl [(oX10 w0 v0 v1 v2 v3 v4 g5 g6 (nI ed) g8 v9 (nI nb) g11 g12 v13 g14 g15 g16 g17 g18 g19 g20 g21 g22 g23 g24 g25 g26 v27 v28 v29 v30 v31 v32 v33 v34 v35 v36 v37 (nI ol)), (v0, .inl (cA 0, 326, .inl fs)), (v31, .inl (cA 0, 400, .inl fc)), (v33, .inl (cA 0, 11, .inl fq)), (v35, .inl (cA 4, 400, .inl fk))] s.heap := hP
  have hl := lv_entry ([.ref w0]) (n := 3) (Nat.le_of_ble_eq_true rfl)
  rw [lg_entry_eq]
  generalize (lg_sl ([.ref w0]) ++ List.replicate (3 - (lg_sl ([.ref w0])).length) Slot.unset).toArray = ls at hl ⊢
  have hl : lv_has ls 3 [(0, .ref w0)] := hl
  have inX10 : ∀ w ∈ u_ws RX10 TX10 39, w ∈ wsX10_becomeDue := by decide +kernel
  refine lv_aload_n hx hb dX10_becomeDue_0 rfl (lv_at hl 0 rfl) ?_
  obtain ⟨hPc, hDc, hFc⟩ := PDq.cut (wc := [(oX10 w0 v0 v1 v2 v3 v4 g5 g6 (nI ed) g8 v9 (nI nb) g11 g12 v13 g14 g15 g16 g17 g18 g19 g20 g21 g22 g23 g24 g25 g26 v27 v28 v29 v30 v31 v32 v33 v34 v35 v36 v37 (nI ol)), (v0, .inl (cA 0, 326, .inl fs))]) hP hD hS hA [0, 1] (by decide) rfl
  refine va_calli (va_runV (As := []) (rest := []) ⟨hx, hb, hml, hown, hts⟩ (e_doneSet l D cA sa w0 ed nb ol v0 v1 v2 v3 v4 v9 v13 v27 v28 v29 v30 v31 v32 v33 v34 v35 v36 v37 g8 g11 g12 g14 g15 g16 g17 g18 g19 g20 g21 g22 g23 g24 g26 g5 g6 g25 cn pq en dy fs ra s.heap.size hAb hcn hpq hen hdy hri) (cwV 0 hts gX10_becomeDue_X10_doneSet rfl rfl rfl (by decide +kernel) ⟨(Nat.le_of_ble_eq_true rfl), (Nat.le_of_ble_eq_true rfl)⟩) ⟨Wd.blind, va_recv hK hPc (ci := 11) (q0 := 0) rfl rfl, fun U hU hW => ⟨rfl, Wd.call hPc hDc hK hC hZ hS hFc U hU hW⟩⟩ rfl rfl hl.1 rfl (lv_room (Nat.le_of_ble_eq_true rfl)) dX10_becomeDue_1 ⟨(Nat.le_of_ble_eq_true rfl), (Nat.le_of_ble_eq_true rfl)⟩) hS (fun q _ h => hFc q h) hFc (fun rn1 u t H1 locs ht hvm hw hB hz1 hk1 hS => ?_)
  obtain ⟨hP1, hD1⟩ := hB
  rw [ht] at hP1
  obtain ⟨hP, hD⟩ := PDq.join (w := [(v31, .inl (cA 0, 400, .inl fc)), (v33, .inl (cA 0, 11, .inl fq)), (v35, .inl (cA 4, 400, .inl fk)), (oX10 w0 v0 v1 v2 v3 v4 g5 g6 (nI ed) g8 v9 (nI nb) g11 g12 v13 g14 g15 g16 g17 g18 g19 g20 g21 g22 g23 g24 g25 g26 v27 v28 v29 v30 v31 v32 v33 v34 v35 v36 v37 (nI ol)), (v0, .inl (cA 0, 326, .inl fs))]) 3 hP hD [0, 1] [2, 3, 4] rfl rfl (by decide) (by decide) hk1 hFc hP1 hD1 rfl
  generalize H1 = H at hP hS ⊢
  obtain rfl : rn1 = (doR ra cn) := hw
  refine lv_istore_n (lv' := [(1, .int (doR ra cn)), (0, .ref w0)]) hx hb dX10_becomeDue_4 rfl hl (by decide) rfl (fun ls hl => ?_)
  refine lv_iconst (v := 0) hx hb dX10_becomeDue_5 (by decide) ?_
  refine lv_istore_n (lv' := [(2, .int 0), (1, .int (doR ra cn)), (0, .ref w0)]) hx hb dX10_becomeDue_6 rfl hl (by decide) rfl (fun ls hl => ?_)
  have loop1 : ∀ (n1 i1 : Nat) (f2_1 : Nat → Int32) (f4_1 : Nat → Int32) (H : Heap) (locs : List Loc) (ls : Array Slot), i1 + n1 = cn → RI cn pq en dy f4_1 → Bit 400 f2_1 → Ab (dues fc cq (doR ra cn) ra i1) f4_1 → va_P D vwCl [(v31, .inl (cA 0, 400, .inl fc)), (v33, .inl (cA 0, 11, .inl fq)), (v35, .inl (cA 4, 400, .inl f2_1)), (oX10 w0 v0 v1 v2 v3 v4 g5 g6 (nI ed) g8 v9 (nI nb) g11 g12 v13 g14 g15 g16 g17 g18 g19 g20 g21 g22 g23 g24 g25 g26 v27 v28 v29 v30 v31 v32 v33 v34 v35 v36 v37 (nI ol)), (v0, .inl (cA 0, 326, .inl f4_1))] H → va_D A [(v31, .inl (cA 0, 400, .inl fc)), (v33, .inl (cA 0, 11, .inl fq)), (v35, .inl (cA 4, 400, .inl f2_1)), (oX10 w0 v0 v1 v2 v3 v4 g5 g6 (nI ed) g8 v9 (nI nb) g11 g12 v13 g14 g15 g16 g17 g18 g19 g20 g21 g22 g23 g24 g25 g26 v27 v28 v29 v30 v31 v32 v33 v34 v35 v36 v37 (nI ol)), (v0, .inl (cA 0, 326, .inl f4_1))] → va_S A s.heap H locs → lv_has ls 3 [(2, .int (nI i1)), (1, .int (doR ra cn)), (0, .ref w0)] → W p l e (headSpec wsX10_becomeDue ({ frames := 3, cells := 0, slots := 0, locals := 75 } : Room)).room s m ([.ref w0] : List Value).toArray below meth c H locs 0 0 (MQ below (va_Qv (fun _ : Unit => True) (fun (_ : Unit) t => ∃ zs : Nat → Int32, ∃ zk : Nat → Int32, Bit 400 zk ∧ RI cn pq en dy zs ∧ Ab (dues fc cq (doR ra cn) ra cn) zs ∧ Wq D A [(oX10 w0 v0 v1 v2 v3 v4 g5 g6 (nI ed) g8 v9 (nI nb) g11 g12 v13 g14 g15 g16 g17 g18 g19 g20 g21 g22 g23 g24 g25 g26 v27 v28 v29 v30 v31 v32 v33 v34 v35 v36 v37 (nI ol)), (v0, .inl (cA 0, 326, .inl zs)), (v31, .inl (cA 0, 400, .inl fc)), (v33, .inl (cA 0, 11, .inl fq)), (v35, .inl (cA 4, 400, .inl zk))] t) A) ([.ref w0] : List Value).toArray s 0 0 A) (F0 m 7 ls []) := by
    intro n1
    induction n1 with
    | zero =>
      intro i1 f2_1 f4_1 H locs ls hi1 hf0_1 hf1_1 hv0_1 hP hD hS hl
      obtain rfl : cn = i1 := by omega
      refine lv_iload_n hx hb dX10_becomeDue_7 rfl (lv_at hl 0 rfl) ?_
      refine lv_aload_n hx hb dX10_becomeDue_8 rfl (lv_at hl 2 rfl) ?_
      refine va_get (D := D) (ci := 11) (v := .ref v0) (C := RX10) (T := TX10) (N := 39) hx hb hts inX10 hown hK hP 3 rfl rfl 0 (by decide) (hts (.fieldLink RX10 7 "EscrowDeskModel" "s" "[I") (by decide +kernel)) (fun _ h9 => h9) rfl dX10_becomeDue_9 ?_
      refine lv_bipush (v := 13) hx hb dX10_becomeDue_12 (by decide) ?_
      refine va_iald hx hb hK hP 4 0 rfl rfl (vp_in_iff.mpr (by decide)) dX10_becomeDue_14 ?_
      refine lv_topi (fun yn2 eyn2 => ?_)
      obtain rfl : yn2 = (nI cn) := eyn2.trans hf0_1.1
      refine lv_icmp_ge (tgt := 74) hx hb dX10_becomeDue_15 (by decide) (fun c3 => ?_) (fun c9 => absurd (nI_le (a := cn) (b := cn) (show cn ≤ cn by omega) (by omega)) c9)
      obtain ⟨hP9, hD9⟩ := PDq.sub (ws' := [(oX10 w0 v0 v1 v2 v3 v4 g5 g6 (nI ed) g8 v9 (nI nb) g11 g12 v13 g14 g15 g16 g17 g18 g19 g20 g21 g22 g23 g24 g25 g26 v27 v28 v29 v30 v31 v32 v33 v34 v35 v36 v37 (nI ol)), (v0, .inl (cA 0, 326, .inl f4_1)), (v31, .inl (cA 0, 400, .inl fc)), (v33, .inl (cA 0, 11, .inl fq)), (v35, .inl (cA 4, 400, .inl f2_1))]) hP hD [3, 4, 0, 1, 2] (by decide) rfl
      refine W.widen (k := 0) (n := 0) (Nat.le_of_ble_eq_true rfl) (Nat.le_of_ble_eq_true rfl) ?_
      exact (W.vret hx hb hr (fun t ht hW => ⟨⟨(), rfl, trivial, f4_1, f2_1, hf1_1, hf0_1, hv0_1, by rw [ht]; exact hP9, hD9⟩, hS.F ht⟩) hS.2.2 dX10_becomeDue_74)
    | succ n1 ih1 =>
      intro i1 f2_1 f4_1 H locs ls hi1 hf0_1 hf1_1 hv0_1 hP hD hS hl
      refine lv_iload_n hx hb dX10_becomeDue_7 rfl (lv_at hl 0 rfl) ?_
      refine lv_aload_n hx hb dX10_becomeDue_8 rfl (lv_at hl 2 rfl) ?_
      refine va_get (D := D) (ci := 11) (v := .ref v0) (C := RX10) (T := TX10) (N := 39) hx hb hts inX10 hown hK hP 3 rfl rfl 0 (by decide) (hts (.fieldLink RX10 7 "EscrowDeskModel" "s" "[I") (by decide +kernel)) (fun _ h9 => h9) rfl dX10_becomeDue_9 ?_
      refine lv_bipush (v := 13) hx hb dX10_becomeDue_12 (by decide) ?_
      refine va_iald hx hb hK hP 4 0 rfl rfl (vp_in_iff.mpr (by decide)) dX10_becomeDue_14 ?_
      refine lv_topi (fun yn4 eyn4 => ?_)
      obtain rfl : yn4 = (nI cn) := eyn4.trans hf0_1.1
      refine lv_icmp_ge (tgt := 74) hx hb dX10_becomeDue_15 (by decide) (fun c9 => absurd c9 (nI_ge (a := i1) (b := cn) (show i1 < cn by omega) (by omega))) (fun c5 => ?_)
      refine lv_aload_n hx hb dX10_becomeDue_18 rfl (lv_at hl 2 rfl) ?_
      refine lv_iload_n hx hb dX10_becomeDue_19 rfl (lv_at hl 0 rfl) ?_
      refine lv_iconst (v := 2) hx hb dX10_becomeDue_20 (by decide) ?_
      obtain ⟨hPc, hDc, hFc⟩ := PDq.cut (wc := [(oX10 w0 v0 v1 v2 v3 v4 g5 g6 (nI ed) g8 v9 (nI nb) g11 g12 v13 g14 g15 g16 g17 g18 g19 g20 g21 g22 g23 g24 g25 g26 v27 v28 v29 v30 v31 v32 v33 v34 v35 v36 v37 (nI ol)), (v0, .inl (cA 0, 326, .inl f4_1))]) hP hD hS hA [3, 4] (by decide) rfl
      refine va_calli (va_runV (As := [.int (nI i1), .int 2]) (rest := []) ⟨hx, hb, hml, hown, hts⟩ (e_of l D cA sa w0 ed nb ol v0 v1 v2 v3 v4 v9 v13 v27 v28 v29 v30 v31 v32 v33 v34 v35 v36 v37 g8 g11 g12 g14 g15 g16 g17 g18 g19 g20 g21 g22 g23 g24 g26 g5 g6 g25 (dues fc cq (doR ra cn) ra i1) f4_1 i1 2 H.size hv0_1 (by omega) (by omega)) (cwV 2 hts gX10_becomeDue_X10_of rfl rfl rfl (by decide +kernel) ⟨(Nat.le_of_ble_eq_true rfl), (Nat.le_of_ble_eq_true rfl)⟩) ⟨Wd.blind, va_recv hK hPc (ci := 11) (q0 := 0) rfl rfl, fun U hU hW => ⟨rfl, Wd.call hPc hDc hK hC hZ hS hFc U hU hW⟩⟩ rfl rfl hl.1 rfl (lv_room (Nat.le_of_ble_eq_true rfl)) dX10_becomeDue_21 ⟨(Nat.le_of_ble_eq_true rfl), (Nat.le_of_ble_eq_true rfl)⟩) hS (fun q _ h => hFc q h) hFc (fun rn6 u t H1 locs ht hvm hw hB hz1 hk1 hS => ?_)
      obtain ⟨hP1, hD1⟩ := hB
      rw [ht] at hP1
      obtain ⟨hP, hD⟩ := PDq.join (w := [(v31, .inl (cA 0, 400, .inl fc)), (v33, .inl (cA 0, 11, .inl fq)), (v35, .inl (cA 4, 400, .inl f2_1)), (oX10 w0 v0 v1 v2 v3 v4 g5 g6 (nI ed) g8 v9 (nI nb) g11 g12 v13 g14 g15 g16 g17 g18 g19 g20 g21 g22 g23 g24 g25 g26 v27 v28 v29 v30 v31 v32 v33 v34 v35 v36 v37 (nI ol)), (v0, .inl (cA 0, 326, .inl f4_1))]) 3 hP hD [3, 4] [0, 1, 2] rfl rfl (by decide) (by decide) hk1 hFc hP1 hD1 rfl
      generalize H1 = H at hP hS ⊢
      obtain rfl : rn6 = ((dues fc cq (doR ra cn) ra i1) (16 + 7 * i1 + 2)) := hw.trans rfl
      refine lv_if_ne (tgt := 68) hx hb dX10_becomeDue_24 (by decide) (fun c7 => ?_) (fun c7 => ?_)
      · skip
        refine lv_iinc (v := (nI (i1 + 1))) (lv' := [(2, .int (nI (i1 + 1))), (1, .int (doR ra cn)), (0, .ref w0)]) hx hb dX10_becomeDue_68 hl (k := 0) rfl (nI_1 _) (by decide) rfl (fun ls hl => ?_)
        refine lv_goto (tgt := 7) hx hb dX10_becomeDue_71 (by decide) ?_
        obtain ⟨hP9, hD9⟩ := PDq.sub (ws' := [(v31, .inl (cA 0, 400, .inl fc)), (v33, .inl (cA 0, 11, .inl fq)), (v35, .inl (cA 4, 400, .inl f2_1)), (oX10 w0 v0 v1 v2 v3 v4 g5 g6 (nI ed) g8 v9 (nI nb) g11 g12 v13 g14 g15 g16 g17 g18 g19 g20 g21 g22 g23 g24 g25 g26 v27 v28 v29 v30 v31 v32 v33 v34 v35 v36 v37 (nI ol)), (v0, .inl (cA 0, 326, .inl f4_1))]) hP hD [0, 1, 2, 3, 4] (by decide) rfl
        exact ih1 (i1 + 1) f2_1 f4_1 H _ ls (by omega) hf0_1 hf1_1 (due_n hv0_1 (fun q9 => c7 q9.1)) hP9 hD9 hS (lv_sub hl [0, 1, 2] rfl)
      · skip
        refine lv_aload_n hx hb dX10_becomeDue_27 rfl (lv_at hl 2 rfl) ?_
        refine lv_iload_n hx hb dX10_becomeDue_28 rfl (lv_at hl 0 rfl) ?_
        refine lv_aload_n hx hb dX10_becomeDue_29 rfl (lv_at hl 2 rfl) ?_
        refine va_get (D := D) (ci := 11) (v := .ref v0) (C := RX10) (T := TX10) (N := 39) hx hb hts inX10 hown hK hP 3 rfl rfl 0 (by decide) (hts (.fieldLink RX10 7 "EscrowDeskModel" "s" "[I") (by decide +kernel)) (fun _ h9 => h9) rfl dX10_becomeDue_30 ?_
        refine lv_iconst (v := 4) hx hb dX10_becomeDue_33 (by decide) ?_
        refine va_iald hx hb hK hP 4 0 rfl rfl (vp_in_iff.mpr (by decide)) dX10_becomeDue_34 ?_
        refine lv_topi (fun yn8 eyn8 => ?_)
        obtain rfl : yn8 = ((dues fc cq (doR ra cn) ra i1) 4) := eyn8.trans ((Ab.get hv0_1 (j := 4) (by omega) (by omega)).trans rfl)
        refine lv_aload_n hx hb dX10_becomeDue_35 rfl (lv_at hl 2 rfl) ?_
        refine va_get (D := D) (ci := 11) (v := .ref v0) (C := RX10) (T := TX10) (N := 39) hx hb hts inX10 hown hK hP 3 rfl rfl 0 (by decide) (hts (.fieldLink RX10 7 "EscrowDeskModel" "s" "[I") (by decide +kernel)) (fun _ h9 => h9) rfl dX10_becomeDue_36 ?_
        refine lv_bipush (v := 12) hx hb dX10_becomeDue_39 (by decide) ?_
        refine va_iald hx hb hK hP 4 0 rfl rfl (vp_in_iff.mpr (by decide)) dX10_becomeDue_41 ?_
        refine lv_topi (fun yn9 eyn9 => ?_)
        obtain rfl : yn9 = ((dues fc cq (doR ra cn) ra i1) 12) := eyn9.trans ((Ab.get hv0_1 (j := 12) (by omega) (by omega)).trans rfl)
        refine lv_iload_n hx hb dX10_becomeDue_42 rfl (lv_at hl 1 rfl) ?_
        obtain ⟨hPc, hDc, hFc⟩ := PDq.cut (wc := [(oX10 w0 v0 v1 v2 v3 v4 g5 g6 (nI ed) g8 v9 (nI nb) g11 g12 v13 g14 g15 g16 g17 g18 g19 g20 g21 g22 g23 g24 g25 g26 v27 v28 v29 v30 v31 v32 v33 v34 v35 v36 v37 (nI ol)), (v0, .inl (cA 0, 326, .inl f4_1)), (v31, .inl (cA 0, 400, .inl fc)), (v33, .inl (cA 0, 11, .inl fq)), (v35, .inl (cA 4, 400, .inl f2_1))]) hP hD hS hA [3, 4, 0, 1, 2] (by decide) rfl
        refine va_calli (va_runV (As := [.int (nI i1), .int ((dues fc cq (doR ra cn) ra i1) 4), .int ((dues fc cq (doR ra cn) ra i1) 12), .int (doR ra cn)]) (rest := []) ⟨hx, hb, hml, hown, hts⟩ (e_holdsBy l D cA sa w0 ed nb ol v0 v1 v2 v3 v4 v9 v13 v27 v28 v29 v30 v31 v32 v33 v34 v35 v36 v37 g8 g11 g12 g14 g15 g16 g17 g18 g19 g20 g21 g22 g23 g24 g26 g5 g6 g25 cn pq en dy f4_1 fc fq f2_1 (dues fc cq (doR ra cn) ra i1) cq i1 ((dues fc cq (doR ra cn) ra i1) 4) ((dues fc cq (doR ra cn) ra i1) 12) (doR ra cn) H.size hv0_1 hcn hpq hen hdy hf0_1 hCQ hcq hf1_1 (by omega)) (cwV 4 hts gX10_becomeDue_X10_holdsBy rfl rfl rfl (by decide +kernel) ⟨(Nat.le_of_ble_eq_true rfl), (Nat.le_of_ble_eq_true rfl)⟩) ⟨Wd.blind, va_recv hK hPc (ci := 11) (q0 := 0) rfl rfl, fun U hU hW => ⟨rfl, Wd.call hPc hDc hK hC hZ hS hFc U hU hW⟩⟩ rfl rfl hl.1 rfl (lv_room (Nat.le_of_ble_eq_true rfl)) dX10_becomeDue_43 ⟨(Nat.le_of_ble_eq_true rfl), (Nat.le_of_ble_eq_true rfl)⟩) hS (fun q _ h => hFc q h) hFc (fun rn10 u t H1 locs ht hvm hw hB hz1 hk1 hS => ?_)
        obtain ⟨fn11, hn12, hP1, hD1⟩ := hB
        rw [ht] at hP1
        obtain ⟨hP, hD⟩ := PDq.join (w := [(oX10 w0 v0 v1 v2 v3 v4 g5 g6 (nI ed) g8 v9 (nI nb) g11 g12 v13 g14 g15 g16 g17 g18 g19 g20 g21 g22 g23 g24 g25 g26 v27 v28 v29 v30 v31 v32 v33 v34 v35 v36 v37 (nI ol)), (v0, .inl (cA 0, 326, .inl f4_1)), (v31, .inl (cA 0, 400, .inl fc)), (v33, .inl (cA 0, 11, .inl fq)), (v35, .inl (cA 4, 400, .inl fn11))]) 0 hP hD [3, 4, 0, 1, 2] [] rfl rfl (by decide) (by decide) hk1 hFc hP1 hD1 rfl
        generalize H1 = H at hP hS ⊢
        rcases hw with ⟨hr9, hn13⟩ | ⟨hr9, hn13⟩
        · skip
          subst hr9
          refine lv_if_eq (tgt := 68) hx hb dX10_becomeDue_46 (by decide) (fun c9 => absurd c9 (by decide)) (fun c14 => ?_)
          refine lv_aload_n hx hb dX10_becomeDue_49 rfl (lv_at hl 2 rfl) ?_
          refine lv_iload_n hx hb dX10_becomeDue_50 rfl (lv_at hl 0 rfl) ?_
          refine lv_iconst (v := 2) hx hb dX10_becomeDue_51 (by decide) ?_
          refine lv_iconst (v := 1) hx hb dX10_becomeDue_52 (by decide) ?_
          obtain ⟨hPc, hDc, hFc⟩ := PDq.cut (wc := [(oX10 w0 v0 v1 v2 v3 v4 g5 g6 (nI ed) g8 v9 (nI nb) g11 g12 v13 g14 g15 g16 g17 g18 g19 g20 g21 g22 g23 g24 g25 g26 v27 v28 v29 v30 v31 v32 v33 v34 v35 v36 v37 (nI ol)), (v0, .inl (cA 0, 326, .inl f4_1))]) hP hD hS hA [0, 1] (by decide) rfl
          refine va_callv (va_runV (As := [.int (nI i1), .int 2, .int 1]) (rest := []) ⟨hx, hb, hml, hown, hts⟩ (e_set l D cA sa w0 ed nb ol v0 v1 v2 v3 v4 v9 v13 v27 v28 v29 v30 v31 v32 v33 v34 v35 v36 v37 g8 g11 g12 g14 g15 g16 g17 g18 g19 g20 g21 g22 g23 g24 g26 g5 g6 g25 cn pq en dy f4_1 (dues fc cq (doR ra cn) ra i1) i1 2 1 H.size hv0_1 hcn hpq hen hdy hf0_1 (by omega) (by omega)) (cwV 3 hts gX10_becomeDue_X10_set rfl rfl rfl (by decide +kernel) ⟨(Nat.le_of_ble_eq_true rfl), (Nat.le_of_ble_eq_true rfl)⟩) ⟨Wd.blind, va_recv hK hPc (ci := 11) (q0 := 0) rfl rfl, fun U hU hW => ⟨rfl, Wd.call hPc hDc hK hC hZ hS hFc U hU hW⟩⟩ rfl rfl hl.1 rfl (lv_room (Nat.le_of_ble_eq_true rfl)) dX10_becomeDue_53 ⟨(Nat.le_of_ble_eq_true rfl), (Nat.le_of_ble_eq_true rfl)⟩) hS (fun q _ h => hFc q h) hFc (fun u t H1 locs ht hvm hw hB hz1 hk1 hS => ?_)
          obtain ⟨fn15, hn16, hn17, hP1, hD1⟩ := hB
          rw [ht] at hP1
          obtain ⟨hP, hD⟩ := PDq.join (w := [(v31, .inl (cA 0, 400, .inl fc)), (v33, .inl (cA 0, 11, .inl fq)), (v35, .inl (cA 4, 400, .inl fn11)), (oX10 w0 v0 v1 v2 v3 v4 g5 g6 (nI ed) g8 v9 (nI nb) g11 g12 v13 g14 g15 g16 g17 g18 g19 g20 g21 g22 g23 g24 g25 g26 v27 v28 v29 v30 v31 v32 v33 v34 v35 v36 v37 (nI ol)), (v0, .inl (cA 0, 326, .inl fn15))]) 3 hP hD [0, 1] [2, 3, 4] rfl rfl (by decide) (by decide) hk1 hFc hP1 hD1 rfl
          generalize H1 = H at hP hS ⊢
          refine lv_aload_n hx hb dX10_becomeDue_56 rfl (lv_at hl 2 rfl) ?_
          refine lv_iload_n hx hb dX10_becomeDue_57 rfl (lv_at hl 0 rfl) ?_
          refine lv_iconst (v := 4) hx hb dX10_becomeDue_58 (by decide) ?_
          refine lv_aload_n hx hb dX10_becomeDue_59 rfl (lv_at hl 2 rfl) ?_
          refine va_get (D := D) (ci := 11) (v := .ref v0) (C := RX10) (T := TX10) (N := 39) hx hb hts inX10 hown hK hP 3 rfl rfl 0 (by decide) (hts (.fieldLink RX10 7 "EscrowDeskModel" "s" "[I") (by decide +kernel)) (fun _ h9 => h9) rfl dX10_becomeDue_60 ?_
          refine lv_iconst (v := 4) hx hb dX10_becomeDue_63 (by decide) ?_
          refine va_iald hx hb hK hP 4 0 rfl rfl (vp_in_iff.mpr (by decide)) dX10_becomeDue_64 ?_
          refine lv_topi (fun yn18 eyn18 => ?_)
          obtain rfl : yn18 = ((dues fc cq (doR ra cn) ra i1) 4) := eyn18.trans ((Ab.get hn17 (j := 4) (by omega) (by omega)).trans ((pk_un (by omega)).trans rfl))
          obtain ⟨hPc, hDc, hFc⟩ := PDq.cut (wc := [(oX10 w0 v0 v1 v2 v3 v4 g5 g6 (nI ed) g8 v9 (nI nb) g11 g12 v13 g14 g15 g16 g17 g18 g19 g20 g21 g22 g23 g24 g25 g26 v27 v28 v29 v30 v31 v32 v33 v34 v35 v36 v37 (nI ol)), (v0, .inl (cA 0, 326, .inl fn15))]) hP hD hS hA [3, 4] (by decide) rfl
          refine va_callv (va_runV (As := [.int (nI i1), .int 4, .int ((dues fc cq (doR ra cn) ra i1) 4)]) (rest := []) ⟨hx, hb, hml, hown, hts⟩ (e_set l D cA sa w0 ed nb ol v0 v1 v2 v3 v4 v9 v13 v27 v28 v29 v30 v31 v32 v33 v34 v35 v36 v37 g8 g11 g12 g14 g15 g16 g17 g18 g19 g20 g21 g22 g23 g24 g26 g5 g6 g25 cn pq en dy fn15 (upd (dues fc cq (doR ra cn) ra i1) (16 + 7 * i1 + 2) 1) i1 4 ((dues fc cq (doR ra cn) ra i1) 4) H.size hn17 hcn hpq hen hdy hn16 (by omega) (by omega)) (cwV 3 hts gX10_becomeDue_X10_set rfl rfl rfl (by decide +kernel) ⟨(Nat.le_of_ble_eq_true rfl), (Nat.le_of_ble_eq_true rfl)⟩) ⟨Wd.blind, va_recv hK hPc (ci := 11) (q0 := 0) rfl rfl, fun U hU hW => ⟨rfl, Wd.call hPc hDc hK hC hZ hS hFc U hU hW⟩⟩ rfl rfl hl.1 rfl (lv_room (Nat.le_of_ble_eq_true rfl)) dX10_becomeDue_65 ⟨(Nat.le_of_ble_eq_true rfl), (Nat.le_of_ble_eq_true rfl)⟩) hS (fun q _ h => hFc q h) hFc (fun u t H1 locs ht hvm hw hB hz1 hk1 hS => ?_)
          obtain ⟨fn19, hn20, hn21, hP1, hD1⟩ := hB
          rw [ht] at hP1
          obtain ⟨hP, hD⟩ := PDq.join (w := [(v31, .inl (cA 0, 400, .inl fc)), (v33, .inl (cA 0, 11, .inl fq)), (v35, .inl (cA 4, 400, .inl fn11)), (oX10 w0 v0 v1 v2 v3 v4 g5 g6 (nI ed) g8 v9 (nI nb) g11 g12 v13 g14 g15 g16 g17 g18 g19 g20 g21 g22 g23 g24 g25 g26 v27 v28 v29 v30 v31 v32 v33 v34 v35 v36 v37 (nI ol)), (v0, .inl (cA 0, 326, .inl fn19))]) 3 hP hD [3, 4] [0, 1, 2] rfl rfl (by decide) (by decide) hk1 hFc hP1 hD1 rfl
          generalize H1 = H at hP hS ⊢
          refine lv_iinc (v := (nI (i1 + 1))) (lv' := [(2, .int (nI (i1 + 1))), (1, .int (doR ra cn)), (0, .ref w0)]) hx hb dX10_becomeDue_68 hl (k := 0) rfl (nI_1 _) (by decide) rfl (fun ls hl => ?_)
          refine lv_goto (tgt := 7) hx hb dX10_becomeDue_71 (by decide) ?_
          obtain ⟨hP9, hD9⟩ := PDq.sub (ws' := [(v31, .inl (cA 0, 400, .inl fc)), (v33, .inl (cA 0, 11, .inl fq)), (v35, .inl (cA 4, 400, .inl fn11)), (oX10 w0 v0 v1 v2 v3 v4 g5 g6 (nI ed) g8 v9 (nI nb) g11 g12 v13 g14 g15 g16 g17 g18 g19 g20 g21 g22 g23 g24 g25 g26 v27 v28 v29 v30 v31 v32 v33 v34 v35 v36 v37 (nI ol)), (v0, .inl (cA 0, 326, .inl fn19))]) hP hD [0, 1, 2, 3, 4] (by decide) rfl
          exact ih1 (i1 + 1) fn11 fn19 H _ ls (by omega) hn20 hn12 (due_y c7 hn13 hn21) hP9 hD9 hS (lv_sub hl [0, 1, 2] rfl)
        · skip
          subst hr9
          refine lv_if_eq (tgt := 68) hx hb dX10_becomeDue_46 (by decide) (fun c22 => ?_) (fun c9 => absurd c9 (by decide))
          refine lv_iinc (v := (nI (i1 + 1))) (lv' := [(2, .int (nI (i1 + 1))), (1, .int (doR ra cn)), (0, .ref w0)]) hx hb dX10_becomeDue_68 hl (k := 0) rfl (nI_1 _) (by decide) rfl (fun ls hl => ?_)
          refine lv_goto (tgt := 7) hx hb dX10_becomeDue_71 (by decide) ?_
          obtain ⟨hP9, hD9⟩ := PDq.sub (ws' := [(v31, .inl (cA 0, 400, .inl fc)), (v33, .inl (cA 0, 11, .inl fq)), (v35, .inl (cA 4, 400, .inl fn11)), (oX10 w0 v0 v1 v2 v3 v4 g5 g6 (nI ed) g8 v9 (nI nb) g11 g12 v13 g14 g15 g16 g17 g18 g19 g20 g21 g22 g23 g24 g25 g26 v27 v28 v29 v30 v31 v32 v33 v34 v35 v36 v37 (nI ol)), (v0, .inl (cA 0, 326, .inl f4_1))]) hP hD [2, 3, 4, 0, 1] (by decide) rfl
          exact ih1 (i1 + 1) fn11 f4_1 H _ ls (by omega) hf0_1 hn12 (due_n hv0_1 (fun q9 => hn13 q9.2)) hP9 hD9 hS (lv_sub hl [0, 1, 2] rfl)
  obtain ⟨hP9, hD9⟩ := PDq.sub (ws' := [(v31, .inl (cA 0, 400, .inl fc)), (v33, .inl (cA 0, 11, .inl fq)), (v35, .inl (cA 4, 400, .inl fk)), (oX10 w0 v0 v1 v2 v3 v4 g5 g6 (nI ed) g8 v9 (nI nb) g11 g12 v13 g14 g15 g16 g17 g18 g19 g20 g21 g22 g23 g24 g25 g26 v27 v28 v29 v30 v31 v32 v33 v34 v35 v36 v37 (nI ol)), (v0, .inl (cA 0, 326, .inl fs))]) hP hD [0, 1, 2, 3, 4] (by decide) rfl
  exact loop1 (cn - 0) 0 fk fs _ _ ls (by omega) hri hbit hAb hP9 hD9 hS (lv_sub hl [0, 1, 2] rfl)

set_option maxHeartbeats 4000000 in
set_option maxRecDepth 100000 in
/-- reference, exactly: dueBefore -/
theorem e_dueBefore (l : Launch) (D : va_G) (cA : Nat → ClassId) (sa : Nat → Nat) (w0 : Nat) (ed : Nat) (nb : Nat) (ol : Nat) (v0 : Nat) (v1 : Nat) (v2 : Nat) (v3 : Nat) (v4 : Nat) (v9 : Nat) (v13 : Nat) (v27 : Nat) (v28 : Nat) (v29 : Nat) (v30 : Nat) (v31 : Nat) (v32 : Nat) (v33 : Nat) (v34 : Nat) (v35 : Nat) (v36 : Nat) (v37 : Nat) (g8 : Int32) (g11 : Int32) (g12 : Int32) (g14 : Int32) (g15 : Int32) (g16 : Int32) (g17 : Int32) (g18 : Int32) (g19 : Int32) (g20 : Int32) (g21 : Int32) (g22 : Int32) (g23 : Int32) (g24 : Int32) (g26 : Int32) (g5 : Int64) (g6 : Int64) (g25 : Int64) (cn : Nat) (pq : Nat) (en : Nat) (dy : Nat) (fs : Nat → Int32) (ra : Nat → Int32) (mi : Nat) (sz : Nat) (hAb : Ab ra fs) (hcn : cn ≤ 10) (hpq : pq ≤ 8) (hen : en ≤ 60) (hdy : dy ≤ 20000) (hri : RI cn pq en dy fs) (hmi9 : mi < cn) : Met l yX10_dueBefore wsX10_dueBefore ({ frames := 1, cells := 0, slots := 0, locals := 22 }) (va_Pc [.ref w0, .int (nI mi)] (Wd D cA sa [(oX10 w0 v0 v1 v2 v3 v4 g5 g6 (nI ed) g8 v9 (nI nb) g11 g12 v13 g14 g15 g16 g17 g18 g19 g20 g21 g22 g23 g24 g25 g26 v27 v28 v29 v30 v31 v32 v33 v34 v35 v36 v37 (nI ol)), (v0, .inl (cA 0, 326, .inl fs))] sz)) (va_Qi (fun (r : Int32) (_ : Unit) => r = nI (dbR ra mi cn)) (fun (_ : Unit) t => Wq D (va_A [(oX10 w0 v0 v1 v2 v3 v4 g5 g6 (nI ed) g8 v9 (nI nb) g11 g12 v13 g14 g15 g16 g17 g18 g19 g20 g21 g22 g23 g24 g25 g26 v27 v28 v29 v30 v31 v32 v33 v34 v35 v36 v37 (nI ol)), (v0, .inl (cA 0, 326, .inl fs))] sz) [(oX10 w0 v0 v1 v2 v3 v4 g5 g6 (nI ed) g8 v9 (nI nb) g11 g12 v13 g14 g15 g16 g17 g18 g19 g20 g21 g22 g23 g24 g25 g26 v27 v28 v29 v30 v31 v32 v33 v34 v35 v36 v37 (nI ol)), (v0, .inl (cA 0, 326, .inl fs))] t) (va_A [(oX10 w0 v0 v1 v2 v3 v4 g5 g6 (nI ed) g8 v9 (nI nb) g11 g12 v13 g14 g15 g16 g17 g18 g19 g20 g21 g22 g23 g24 g25 g26 v27 v28 v29 v30 v31 v32 v33 v34 v35 v36 v37 (nI ol)), (v0, .inl (cA 0, 326, .inl fs))] sz)) 0 0 (va_A [(oX10 w0 v0 v1 v2 v3 v4 g5 g6 (nI ed) g8 v9 (nI nb) g11 g12 v13 g14 g15 g16 g17 g18 g19 g20 g21 g22 g23 g24 g25 g26 v27 v28 v29 v30 v31 v32 v33 v34 v35 v36 v37 (nI ol)), (v0, .inl (cA 0, 326, .inl fs))] sz) := by
  refine Met.ofW (cc := cX10_dueBefore) (maxL := 5) (ret := (some .int)) (by decide) rfl ?_
  intro p e s m args below meth c s₁ B hml hv
  obtain ⟨rfl, hsz, hP, hK, hD0, hC, hZ⟩ := hv
  have hx := B.exec
  have hb := B.bytes
  have hr := B.returns
  have hts := atoms_spec (ws := wsX10_dueBefore) B.pre
  have hown : s.vm.findClass RX10 = some m.cls := findClass_of_methodNamed B.named
  have hlocks := B.notSynchronized
  subst hsz
  have hD := hD0.self (sz := s.heap.size)
  generalize hAe : va_A [(oX10 w0 v0 v1 v2 v3 v4 g5 g6 (nI ed) g8 v9 (nI nb) g11 g12 v13 g14 g15 g16 g17 g18 g19 g20 g21 g22 g23 g24 g25 g26 v27 v28 v29 v30 v31 v32 v33 v34 v35 v36 v37 (nI ol)), (v0, .inl (cA 0, 326, .inl fs))] s.heap.size = A at hD hZ ⊢
  have hA : ∀ q : Nat, s.heap.size ≤ q → A q := fun q h => by rw [← hAe]; exact Or.inr h
  have hS : va_S A s.heap s.heap [] := va_S.rf
  have hP : va_P D vwCl [(oX10 w0 v0 v1 v2 v3 v4 g5 g6 (nI ed) g8 v9 (nI nb) g11 g12 v13 g14 g15 g16 g17 g18 g19 g20 g21 g22 g23 g24 g25 g26 v27 v28 v29 v30 v31 v32 v33 v34 v35 v36 v37 (nI ol)), (v0, .inl (cA 0, 326, .inl fs))] s.heap := hP
  have hl := lv_entry ([.ref w0, .int (nI mi)]) (n := 5) (Nat.le_of_ble_eq_true rfl)
  rw [lg_entry_eq]
  generalize (lg_sl ([.ref w0, .int (nI mi)]) ++ List.replicate (5 - (lg_sl ([.ref w0, .int (nI mi)])).length) Slot.unset).toArray = ls at hl ⊢
  have hl : lv_has ls 5 [(0, .ref w0), (1, .int (nI mi))] := hl
  have inX10 : ∀ w ∈ u_ws RX10 TX10 39, w ∈ wsX10_dueBefore := by decide +kernel
  refine lv_iconst (v := 0) hx hb dX10_dueBefore_0 (by decide) ?_
  refine lv_istore_n (lv' := [(2, .int 0), (0, .ref w0), (1, .int (nI mi))]) hx hb dX10_dueBefore_1 rfl hl (by decide) rfl (fun ls hl => ?_)
  refine lv_iconst (v := 0) hx hb dX10_dueBefore_2 (by decide) ?_
  refine lv_istore_n (lv' := [(3, .int 0), (2, .int 0), (0, .ref w0), (1, .int (nI mi))]) hx hb dX10_dueBefore_3 rfl hl (by decide) rfl (fun ls hl => ?_)
  have loop1 : ∀ (n1 i1 : Nat) (nn : Nat) (H : Heap) (locs : List Loc) (ls : Array Slot), i1 + n1 = cn → nn ≤ i1 → Dbq ra mi i1 nn → va_P D vwCl [(oX10 w0 v0 v1 v2 v3 v4 g5 g6 (nI ed) g8 v9 (nI nb) g11 g12 v13 g14 g15 g16 g17 g18 g19 g20 g21 g22 g23 g24 g25 g26 v27 v28 v29 v30 v31 v32 v33 v34 v35 v36 v37 (nI ol)), (v0, .inl (cA 0, 326, .inl fs))] H → va_D A [(oX10 w0 v0 v1 v2 v3 v4 g5 g6 (nI ed) g8 v9 (nI nb) g11 g12 v13 g14 g15 g16 g17 g18 g19 g20 g21 g22 g23 g24 g25 g26 v27 v28 v29 v30 v31 v32 v33 v34 v35 v36 v37 (nI ol)), (v0, .inl (cA 0, 326, .inl fs))] → va_S A s.heap H locs → lv_has ls 5 [(3, .int (nI i1)), (2, .int (nI nn)), (0, .ref w0), (1, .int (nI mi))] → W p l e (headSpec wsX10_dueBefore ({ frames := 1, cells := 0, slots := 0, locals := 22 } : Room)).room s m ([.ref w0, .int (nI mi)] : List Value).toArray below meth c H locs 0 0 (MQ below (va_Qi (fun (r : Int32) (_ : Unit) => r = nI (dbR ra mi cn)) (fun (_ : Unit) t => Wq D A [(oX10 w0 v0 v1 v2 v3 v4 g5 g6 (nI ed) g8 v9 (nI nb) g11 g12 v13 g14 g15 g16 g17 g18 g19 g20 g21 g22 g23 g24 g25 g26 v27 v28 v29 v30 v31 v32 v33 v34 v35 v36 v37 (nI ol)), (v0, .inl (cA 0, 326, .inl fs))] t) A) ([.ref w0, .int (nI mi)] : List Value).toArray s 0 0 A) (F0 m 4 ls []) := by
    intro n1
    induction n1 with
    | zero =>
      intro i1 nn H locs ls hi1 hv0_1 hv1_1 hP hD hS hl
      obtain rfl : cn = i1 := by omega
      refine lv_iload_n hx hb dX10_dueBefore_4 rfl (lv_at hl 0 rfl) ?_
      refine lv_aload_n hx hb dX10_dueBefore_5 rfl (lv_at hl 2 rfl) ?_
      refine va_get (D := D) (ci := 11) (v := .ref v0) (C := RX10) (T := TX10) (N := 39) hx hb hts inX10 hown hK hP 0 rfl rfl 0 (by decide) (hts (.fieldLink RX10 7 "EscrowDeskModel" "s" "[I") (by decide +kernel)) (fun _ h9 => h9) rfl dX10_dueBefore_6 ?_
      refine lv_bipush (v := 13) hx hb dX10_dueBefore_9 (by decide) ?_
      refine va_iald hx hb hK hP 1 0 rfl rfl (vp_in_iff.mpr (by decide)) dX10_dueBefore_11 ?_
      refine lv_topi (fun yn1 eyn1 => ?_)
      obtain rfl : yn1 = (nI cn) := eyn1.trans hri.1
      refine lv_icmp_ge (tgt := 90) hx hb dX10_dueBefore_12 (by decide) (fun c2 => ?_) (fun c9 => absurd (nI_le (a := cn) (b := cn) (show cn ≤ cn by omega) (by omega)) c9)
      refine lv_iload_n hx hb dX10_dueBefore_90 rfl (lv_at hl 1 rfl) ?_
      obtain ⟨hP9, hD9⟩ := PDq.sub (ws' := [(oX10 w0 v0 v1 v2 v3 v4 g5 g6 (nI ed) g8 v9 (nI nb) g11 g12 v13 g14 g15 g16 g17 g18 g19 g20 g21 g22 g23 g24 g25 g26 v27 v28 v29 v30 v31 v32 v33 v34 v35 v36 v37 (nI ol)), (v0, .inl (cA 0, 326, .inl fs))]) hP hD [0, 1] (by decide) rfl
      refine W.widen (k := 0) (n := 0) (Nat.le_of_ble_eq_true rfl) (Nat.le_of_ble_eq_true rfl) ?_
      exact (W.iret (v := (nI nn)) hx hb hr (fun t ht hW => ⟨⟨(nI nn), (), rfl, (by rw [show dbR ra mi cn = nn from Eq.symm hv1_1]), by rw [ht]; exact hP9, hD9⟩, hS.F ht⟩) hS.2.2 dX10_dueBefore_91)
    | succ n1 ih1 =>
      intro i1 nn H locs ls hi1 hv0_1 hv1_1 hP hD hS hl
      refine lv_iload_n hx hb dX10_dueBefore_4 rfl (lv_at hl 0 rfl) ?_
      refine lv_aload_n hx hb dX10_dueBefore_5 rfl (lv_at hl 2 rfl) ?_
      refine va_get (D := D) (ci := 11) (v := .ref v0) (C := RX10) (T := TX10) (N := 39) hx hb hts inX10 hown hK hP 0 rfl rfl 0 (by decide) (hts (.fieldLink RX10 7 "EscrowDeskModel" "s" "[I") (by decide +kernel)) (fun _ h9 => h9) rfl dX10_dueBefore_6 ?_
      refine lv_bipush (v := 13) hx hb dX10_dueBefore_9 (by decide) ?_
      refine va_iald hx hb hK hP 1 0 rfl rfl (vp_in_iff.mpr (by decide)) dX10_dueBefore_11 ?_
      refine lv_topi (fun yn3 eyn3 => ?_)
      obtain rfl : yn3 = (nI cn) := eyn3.trans hri.1
      refine lv_icmp_ge (tgt := 90) hx hb dX10_dueBefore_12 (by decide) (fun c9 => absurd c9 (nI_ge (a := i1) (b := cn) (show i1 < cn by omega) (by omega))) (fun c4 => ?_)
      refine lv_aload_n hx hb dX10_dueBefore_15 rfl (lv_at hl 2 rfl) ?_
      refine lv_iload_n hx hb dX10_dueBefore_16 rfl (lv_at hl 0 rfl) ?_
      refine lv_bipush (v := 6) hx hb dX10_dueBefore_17 (by decide) ?_
      obtain ⟨hPc, hDc, hFc⟩ := PDq.cut (wc := [(oX10 w0 v0 v1 v2 v3 v4 g5 g6 (nI ed) g8 v9 (nI nb) g11 g12 v13 g14 g15 g16 g17 g18 g19 g20 g21 g22 g23 g24 g25 g26 v27 v28 v29 v30 v31 v32 v33 v34 v35 v36 v37 (nI ol)), (v0, .inl (cA 0, 326, .inl fs))]) hP hD hS hA [0, 1] (by decide) rfl
      refine va_calli (va_runV (As := [.int (nI i1), .int 6]) (rest := []) ⟨hx, hb, hml, hown, hts⟩ (e_of l D cA sa w0 ed nb ol v0 v1 v2 v3 v4 v9 v13 v27 v28 v29 v30 v31 v32 v33 v34 v35 v36 v37 g8 g11 g12 g14 g15 g16 g17 g18 g19 g20 g21 g22 g23 g24 g26 g5 g6 g25 ra fs i1 6 H.size hAb (by omega) (by omega)) (cwV 2 hts gX10_dueBefore_X10_of rfl rfl rfl (by decide +kernel) ⟨(Nat.le_of_ble_eq_true rfl), (Nat.le_of_ble_eq_true rfl)⟩) ⟨Wd.blind, va_recv hK hPc (ci := 11) (q0 := 0) rfl rfl, fun U hU hW => ⟨rfl, Wd.call hPc hDc hK hC hZ hS hFc U hU hW⟩⟩ rfl rfl hl.1 rfl (lv_room (Nat.le_of_ble_eq_true rfl)) dX10_dueBefore_19 ⟨(Nat.le_of_ble_eq_true rfl), (Nat.le_of_ble_eq_true rfl)⟩) hS (fun q _ h => hFc q h) hFc (fun rn5 u t H1 locs ht hvm hw hB hz1 hk1 hS => ?_)
      obtain ⟨hP1, hD1⟩ := hB
      rw [ht] at hP1
      obtain ⟨hP, hD⟩ := PDq.join (w := [(oX10 w0 v0 v1 v2 v3 v4 g5 g6 (nI ed) g8 v9 (nI nb) g11 g12 v13 g14 g15 g16 g17 g18 g19 g20 g21 g22 g23 g24 g25 g26 v27 v28 v29 v30 v31 v32 v33 v34 v35 v36 v37 (nI ol)), (v0, .inl (cA 0, 326, .inl fs))]) 0 hP hD [0, 1] [] rfl rfl (by decide) (by decide) hk1 hFc hP1 hD1 rfl
      generalize H1 = H at hP hS ⊢
      obtain rfl : rn5 = (ra (16 + 7 * i1 + 6)) := hw.trans rfl
      refine lv_aload_n hx hb dX10_dueBefore_22 rfl (lv_at hl 2 rfl) ?_
      refine lv_iload_n hx hb dX10_dueBefore_23 rfl (lv_at hl 3 rfl) ?_
      refine lv_bipush (v := 6) hx hb dX10_dueBefore_24 (by decide) ?_
      obtain ⟨hPc, hDc, hFc⟩ := PDq.cut (wc := [(oX10 w0 v0 v1 v2 v3 v4 g5 g6 (nI ed) g8 v9 (nI nb) g11 g12 v13 g14 g15 g16 g17 g18 g19 g20 g21 g22 g23 g24 g25 g26 v27 v28 v29 v30 v31 v32 v33 v34 v35 v36 v37 (nI ol)), (v0, .inl (cA 0, 326, .inl fs))]) hP hD hS hA [0, 1] (by decide) rfl
      refine va_calli (va_runV (As := [.int (nI mi), .int 6]) (rest := [.int (ra (16 + 7 * i1 + 6))]) ⟨hx, hb, hml, hown, hts⟩ (e_of l D cA sa w0 ed nb ol v0 v1 v2 v3 v4 v9 v13 v27 v28 v29 v30 v31 v32 v33 v34 v35 v36 v37 g8 g11 g12 g14 g15 g16 g17 g18 g19 g20 g21 g22 g23 g24 g26 g5 g6 g25 ra fs mi 6 H.size hAb (by omega) (by omega)) (cwV 2 hts gX10_dueBefore_X10_of rfl rfl rfl (by decide +kernel) ⟨(Nat.le_of_ble_eq_true rfl), (Nat.le_of_ble_eq_true rfl)⟩) ⟨Wd.blind, va_recv hK hPc (ci := 11) (q0 := 0) rfl rfl, fun U hU hW => ⟨rfl, Wd.call hPc hDc hK hC hZ hS hFc U hU hW⟩⟩ rfl rfl hl.1 rfl (lv_room (Nat.le_of_ble_eq_true rfl)) dX10_dueBefore_26 ⟨(Nat.le_of_ble_eq_true rfl), (Nat.le_of_ble_eq_true rfl)⟩) hS (fun q _ h => hFc q h) hFc (fun rn6 u t H1 locs ht hvm hw hB hz1 hk1 hS => ?_)
      obtain ⟨hP1, hD1⟩ := hB
      rw [ht] at hP1
      obtain ⟨hP, hD⟩ := PDq.join (w := [(oX10 w0 v0 v1 v2 v3 v4 g5 g6 (nI ed) g8 v9 (nI nb) g11 g12 v13 g14 g15 g16 g17 g18 g19 g20 g21 g22 g23 g24 g25 g26 v27 v28 v29 v30 v31 v32 v33 v34 v35 v36 v37 (nI ol)), (v0, .inl (cA 0, 326, .inl fs))]) 0 hP hD [0, 1] [] rfl rfl (by decide) (by decide) hk1 hFc hP1 hD1 rfl
      generalize H1 = H at hP hS ⊢
      obtain rfl : rn6 = (ra (16 + 7 * mi + 6)) := hw.trans rfl
      refine lv_icmp_lt (tgt := 54) hx hb dX10_dueBefore_29 (by decide) (fun c7 => ?_) (fun c7 => ?_)
      · skip
        refine lv_iconst (v := 1) hx hb dX10_dueBefore_54 (by decide) ?_
        refine lv_goto (tgt := 59) hx hb dX10_dueBefore_55 (by decide) ?_
        refine lv_istore (lv' := [(4, .int 1), (3, .int (nI i1)), (2, .int (nI nn)), (0, .ref w0), (1, .int (nI mi))]) hx hb dX10_dueBefore_59 hl (by decide) rfl (fun ls hl => ?_)
        refine lv_iload_n hx hb dX10_dueBefore_61 rfl (lv_at hl 2 rfl) ?_
        refine lv_aload_n hx hb dX10_dueBefore_62 rfl (lv_at hl 3 rfl) ?_
        refine lv_iload_n hx hb dX10_dueBefore_63 rfl (lv_at hl 1 rfl) ?_
        refine lv_iconst (v := 2) hx hb dX10_dueBefore_64 (by decide) ?_
        obtain ⟨hPc, hDc, hFc⟩ := PDq.cut (wc := [(oX10 w0 v0 v1 v2 v3 v4 g5 g6 (nI ed) g8 v9 (nI nb) g11 g12 v13 g14 g15 g16 g17 g18 g19 g20 g21 g22 g23 g24 g25 g26 v27 v28 v29 v30 v31 v32 v33 v34 v35 v36 v37 (nI ol)), (v0, .inl (cA 0, 326, .inl fs))]) hP hD hS hA [0, 1] (by decide) rfl
        refine va_calli (va_runV (As := [.int (nI i1), .int 2]) (rest := [.int (nI nn)]) ⟨hx, hb, hml, hown, hts⟩ (e_of l D cA sa w0 ed nb ol v0 v1 v2 v3 v4 v9 v13 v27 v28 v29 v30 v31 v32 v33 v34 v35 v36 v37 g8 g11 g12 g14 g15 g16 g17 g18 g19 g20 g21 g22 g23 g24 g26 g5 g6 g25 ra fs i1 2 H.size hAb (by omega) (by omega)) (cwV 2 hts gX10_dueBefore_X10_of rfl rfl rfl (by decide +kernel) ⟨(Nat.le_of_ble_eq_true rfl), (Nat.le_of_ble_eq_true rfl)⟩) ⟨Wd.blind, va_recv hK hPc (ci := 11) (q0 := 0) rfl rfl, fun U hU hW => ⟨rfl, Wd.call hPc hDc hK hC hZ hS hFc U hU hW⟩⟩ rfl rfl hl.1 rfl (lv_room (Nat.le_of_ble_eq_true rfl)) dX10_dueBefore_65 ⟨(Nat.le_of_ble_eq_true rfl), (Nat.le_of_ble_eq_true rfl)⟩) hS (fun q _ h => hFc q h) hFc (fun rn8 u t H1 locs ht hvm hw hB hz1 hk1 hS => ?_)
        obtain ⟨hP1, hD1⟩ := hB
        rw [ht] at hP1
        obtain ⟨hP, hD⟩ := PDq.join (w := [(oX10 w0 v0 v1 v2 v3 v4 g5 g6 (nI ed) g8 v9 (nI nb) g11 g12 v13 g14 g15 g16 g17 g18 g19 g20 g21 g22 g23 g24 g25 g26 v27 v28 v29 v30 v31 v32 v33 v34 v35 v36 v37 (nI ol)), (v0, .inl (cA 0, 326, .inl fs))]) 0 hP hD [0, 1] [] rfl rfl (by decide) (by decide) hk1 hFc hP1 hD1 rfl
        generalize H1 = H at hP hS ⊢
        obtain rfl : rn8 = (ra (16 + 7 * i1 + 2)) := hw.trans rfl
        refine lv_iconst (v := 1) hx hb dX10_dueBefore_68 (by decide) ?_
        refine lv_icmp_ne (tgt := 81) hx hb dX10_dueBefore_69 (by decide) (fun c9 => ?_) (fun c9 => ?_)
        · skip
          refine lv_iconst (v := 0) hx hb dX10_dueBefore_81 (by decide) ?_
          refine lv_iadd hx hb dX10_dueBefore_82 ?_
          refine lv_topi (fun yn10 eyn10 => ?_)
          obtain rfl : yn10 = (nI (nn + 0)) := eyn10.trans (nI_add nn 0)
          refine lv_istore_n (lv' := [(2, .int (nI (nn + 0))), (4, .int 1), (3, .int (nI i1)), (0, .ref w0), (1, .int (nI mi))]) hx hb dX10_dueBefore_83 rfl hl (by decide) rfl (fun ls hl => ?_)
          refine lv_iinc (v := (nI (i1 + 1))) (lv' := [(3, .int (nI (i1 + 1))), (2, .int (nI (nn + 0))), (4, .int 1), (0, .ref w0), (1, .int (nI mi))]) hx hb dX10_dueBefore_84 hl (k := 2) rfl (nI_1 _) (by decide) rfl (fun ls hl => ?_)
          refine lv_goto (tgt := 4) hx hb dX10_dueBefore_87 (by decide) ?_
          obtain ⟨hP9, hD9⟩ := PDq.sub (ws' := [(oX10 w0 v0 v1 v2 v3 v4 g5 g6 (nI ed) g8 v9 (nI nb) g11 g12 v13 g14 g15 g16 g17 g18 g19 g20 g21 g22 g23 g24 g25 g26 v27 v28 v29 v30 v31 v32 v33 v34 v35 v36 v37 (nI ol)), (v0, .inl (cA 0, 326, .inl fs))]) hP hD [0, 1] (by decide) rfl
          exact ih1 (i1 + 1) (nn + 0) H _ ls (by omega) (by omega) (Dbq.no hv1_1 (fun q9 => c9 q9.1)) hP9 hD9 hS (lv_sub hl [0, 1, 3, 4] rfl)
        · skip
          refine lv_iload hx hb dX10_dueBefore_72 (lv_at hl 0 rfl) ?_
          refine lv_if_eq (tgt := 81) hx hb dX10_dueBefore_74 (by decide) (fun c9 => absurd c9 (by decide)) (fun c11 => ?_)
          refine lv_iconst (v := 1) hx hb dX10_dueBefore_77 (by decide) ?_
          refine lv_goto (tgt := 82) hx hb dX10_dueBefore_78 (by decide) ?_
          refine lv_iadd hx hb dX10_dueBefore_82 ?_
          refine lv_topi (fun yn12 eyn12 => ?_)
          obtain rfl : yn12 = (nI (nn + 1)) := eyn12.trans (nI_add nn 1)
          refine lv_istore_n (lv' := [(2, .int (nI (nn + 1))), (4, .int 1), (3, .int (nI i1)), (0, .ref w0), (1, .int (nI mi))]) hx hb dX10_dueBefore_83 rfl hl (by decide) rfl (fun ls hl => ?_)
          refine lv_iinc (v := (nI (i1 + 1))) (lv' := [(3, .int (nI (i1 + 1))), (2, .int (nI (nn + 1))), (4, .int 1), (0, .ref w0), (1, .int (nI mi))]) hx hb dX10_dueBefore_84 hl (k := 2) rfl (nI_1 _) (by decide) rfl (fun ls hl => ?_)
          refine lv_goto (tgt := 4) hx hb dX10_dueBefore_87 (by decide) ?_
          obtain ⟨hP9, hD9⟩ := PDq.sub (ws' := [(oX10 w0 v0 v1 v2 v3 v4 g5 g6 (nI ed) g8 v9 (nI nb) g11 g12 v13 g14 g15 g16 g17 g18 g19 g20 g21 g22 g23 g24 g25 g26 v27 v28 v29 v30 v31 v32 v33 v34 v35 v36 v37 (nI ol)), (v0, .inl (cA 0, 326, .inl fs))]) hP hD [0, 1] (by decide) rfl
          exact ih1 (i1 + 1) (nn + 1) H _ ls (by omega) (by omega) (Dbq.yes hv1_1 c9 (Or.inl c7)) hP9 hD9 hS (lv_sub hl [0, 1, 3, 4] rfl)
      · skip
        refine lv_aload_n hx hb dX10_dueBefore_32 rfl (lv_at hl 2 rfl) ?_
        refine lv_iload_n hx hb dX10_dueBefore_33 rfl (lv_at hl 0 rfl) ?_
        refine lv_bipush (v := 6) hx hb dX10_dueBefore_34 (by decide) ?_
        obtain ⟨hPc, hDc, hFc⟩ := PDq.cut (wc := [(oX10 w0 v0 v1 v2 v3 v4 g5 g6 (nI ed) g8 v9 (nI nb) g11 g12 v13 g14 g15 g16 g17 g18 g19 g20 g21 g22 g23 g24 g25 g26 v27 v28 v29 v30 v31 v32 v33 v34 v35 v36 v37 (nI ol)), (v0, .inl (cA 0, 326, .inl fs))]) hP hD hS hA [0, 1] (by decide) rfl
        refine va_calli (va_runV (As := [.int (nI i1), .int 6]) (rest := []) ⟨hx, hb, hml, hown, hts⟩ (e_of l D cA sa w0 ed nb ol v0 v1 v2 v3 v4 v9 v13 v27 v28 v29 v30 v31 v32 v33 v34 v35 v36 v37 g8 g11 g12 g14 g15 g16 g17 g18 g19 g20 g21 g22 g23 g24 g26 g5 g6 g25 ra fs i1 6 H.size hAb (by omega) (by omega)) (cwV 2 hts gX10_dueBefore_X10_of rfl rfl rfl (by decide +kernel) ⟨(Nat.le_of_ble_eq_true rfl), (Nat.le_of_ble_eq_true rfl)⟩) ⟨Wd.blind, va_recv hK hPc (ci := 11) (q0 := 0) rfl rfl, fun U hU hW => ⟨rfl, Wd.call hPc hDc hK hC hZ hS hFc U hU hW⟩⟩ rfl rfl hl.1 rfl (lv_room (Nat.le_of_ble_eq_true rfl)) dX10_dueBefore_36 ⟨(Nat.le_of_ble_eq_true rfl), (Nat.le_of_ble_eq_true rfl)⟩) hS (fun q _ h => hFc q h) hFc (fun rn13 u t H1 locs ht hvm hw hB hz1 hk1 hS => ?_)
        obtain ⟨hP1, hD1⟩ := hB
        rw [ht] at hP1
        obtain ⟨hP, hD⟩ := PDq.join (w := [(oX10 w0 v0 v1 v2 v3 v4 g5 g6 (nI ed) g8 v9 (nI nb) g11 g12 v13 g14 g15 g16 g17 g18 g19 g20 g21 g22 g23 g24 g25 g26 v27 v28 v29 v30 v31 v32 v33 v34 v35 v36 v37 (nI ol)), (v0, .inl (cA 0, 326, .inl fs))]) 0 hP hD [0, 1] [] rfl rfl (by decide) (by decide) hk1 hFc hP1 hD1 rfl
        generalize H1 = H at hP hS ⊢
        obtain rfl : rn13 = (ra (16 + 7 * i1 + 6)) := hw.trans rfl
        refine lv_aload_n hx hb dX10_dueBefore_39 rfl (lv_at hl 2 rfl) ?_
        refine lv_iload_n hx hb dX10_dueBefore_40 rfl (lv_at hl 3 rfl) ?_
        refine lv_bipush (v := 6) hx hb dX10_dueBefore_41 (by decide) ?_
        obtain ⟨hPc, hDc, hFc⟩ := PDq.cut (wc := [(oX10 w0 v0 v1 v2 v3 v4 g5 g6 (nI ed) g8 v9 (nI nb) g11 g12 v13 g14 g15 g16 g17 g18 g19 g20 g21 g22 g23 g24 g25 g26 v27 v28 v29 v30 v31 v32 v33 v34 v35 v36 v37 (nI ol)), (v0, .inl (cA 0, 326, .inl fs))]) hP hD hS hA [0, 1] (by decide) rfl
        refine va_calli (va_runV (As := [.int (nI mi), .int 6]) (rest := [.int (ra (16 + 7 * i1 + 6))]) ⟨hx, hb, hml, hown, hts⟩ (e_of l D cA sa w0 ed nb ol v0 v1 v2 v3 v4 v9 v13 v27 v28 v29 v30 v31 v32 v33 v34 v35 v36 v37 g8 g11 g12 g14 g15 g16 g17 g18 g19 g20 g21 g22 g23 g24 g26 g5 g6 g25 ra fs mi 6 H.size hAb (by omega) (by omega)) (cwV 2 hts gX10_dueBefore_X10_of rfl rfl rfl (by decide +kernel) ⟨(Nat.le_of_ble_eq_true rfl), (Nat.le_of_ble_eq_true rfl)⟩) ⟨Wd.blind, va_recv hK hPc (ci := 11) (q0 := 0) rfl rfl, fun U hU hW => ⟨rfl, Wd.call hPc hDc hK hC hZ hS hFc U hU hW⟩⟩ rfl rfl hl.1 rfl (lv_room (Nat.le_of_ble_eq_true rfl)) dX10_dueBefore_43 ⟨(Nat.le_of_ble_eq_true rfl), (Nat.le_of_ble_eq_true rfl)⟩) hS (fun q _ h => hFc q h) hFc (fun rn14 u t H1 locs ht hvm hw hB hz1 hk1 hS => ?_)
        obtain ⟨hP1, hD1⟩ := hB
        rw [ht] at hP1
        obtain ⟨hP, hD⟩ := PDq.join (w := [(oX10 w0 v0 v1 v2 v3 v4 g5 g6 (nI ed) g8 v9 (nI nb) g11 g12 v13 g14 g15 g16 g17 g18 g19 g20 g21 g22 g23 g24 g25 g26 v27 v28 v29 v30 v31 v32 v33 v34 v35 v36 v37 (nI ol)), (v0, .inl (cA 0, 326, .inl fs))]) 0 hP hD [0, 1] [] rfl rfl (by decide) (by decide) hk1 hFc hP1 hD1 rfl
        generalize H1 = H at hP hS ⊢
        obtain rfl : rn14 = (ra (16 + 7 * mi + 6)) := hw.trans rfl
        refine lv_icmp_ne (tgt := 58) hx hb dX10_dueBefore_46 (by decide) (fun c15 => ?_) (fun c15 => ?_)
        · skip
          refine lv_iconst (v := 0) hx hb dX10_dueBefore_58 (by decide) ?_
          refine lv_istore (lv' := [(4, .int 0), (3, .int (nI i1)), (2, .int (nI nn)), (0, .ref w0), (1, .int (nI mi))]) hx hb dX10_dueBefore_59 hl (by decide) rfl (fun ls hl => ?_)
          refine lv_iload_n hx hb dX10_dueBefore_61 rfl (lv_at hl 2 rfl) ?_
          refine lv_aload_n hx hb dX10_dueBefore_62 rfl (lv_at hl 3 rfl) ?_
          refine lv_iload_n hx hb dX10_dueBefore_63 rfl (lv_at hl 1 rfl) ?_
          refine lv_iconst (v := 2) hx hb dX10_dueBefore_64 (by decide) ?_
          obtain ⟨hPc, hDc, hFc⟩ := PDq.cut (wc := [(oX10 w0 v0 v1 v2 v3 v4 g5 g6 (nI ed) g8 v9 (nI nb) g11 g12 v13 g14 g15 g16 g17 g18 g19 g20 g21 g22 g23 g24 g25 g26 v27 v28 v29 v30 v31 v32 v33 v34 v35 v36 v37 (nI ol)), (v0, .inl (cA 0, 326, .inl fs))]) hP hD hS hA [0, 1] (by decide) rfl
          refine va_calli (va_runV (As := [.int (nI i1), .int 2]) (rest := [.int (nI nn)]) ⟨hx, hb, hml, hown, hts⟩ (e_of l D cA sa w0 ed nb ol v0 v1 v2 v3 v4 v9 v13 v27 v28 v29 v30 v31 v32 v33 v34 v35 v36 v37 g8 g11 g12 g14 g15 g16 g17 g18 g19 g20 g21 g22 g23 g24 g26 g5 g6 g25 ra fs i1 2 H.size hAb (by omega) (by omega)) (cwV 2 hts gX10_dueBefore_X10_of rfl rfl rfl (by decide +kernel) ⟨(Nat.le_of_ble_eq_true rfl), (Nat.le_of_ble_eq_true rfl)⟩) ⟨Wd.blind, va_recv hK hPc (ci := 11) (q0 := 0) rfl rfl, fun U hU hW => ⟨rfl, Wd.call hPc hDc hK hC hZ hS hFc U hU hW⟩⟩ rfl rfl hl.1 rfl (lv_room (Nat.le_of_ble_eq_true rfl)) dX10_dueBefore_65 ⟨(Nat.le_of_ble_eq_true rfl), (Nat.le_of_ble_eq_true rfl)⟩) hS (fun q _ h => hFc q h) hFc (fun rn16 u t H1 locs ht hvm hw hB hz1 hk1 hS => ?_)
          obtain ⟨hP1, hD1⟩ := hB
          rw [ht] at hP1
          obtain ⟨hP, hD⟩ := PDq.join (w := [(oX10 w0 v0 v1 v2 v3 v4 g5 g6 (nI ed) g8 v9 (nI nb) g11 g12 v13 g14 g15 g16 g17 g18 g19 g20 g21 g22 g23 g24 g25 g26 v27 v28 v29 v30 v31 v32 v33 v34 v35 v36 v37 (nI ol)), (v0, .inl (cA 0, 326, .inl fs))]) 0 hP hD [0, 1] [] rfl rfl (by decide) (by decide) hk1 hFc hP1 hD1 rfl
          generalize H1 = H at hP hS ⊢
          obtain rfl : rn16 = (ra (16 + 7 * i1 + 2)) := hw.trans rfl
          refine lv_iconst (v := 1) hx hb dX10_dueBefore_68 (by decide) ?_
          refine lv_icmp_ne (tgt := 81) hx hb dX10_dueBefore_69 (by decide) (fun c17 => ?_) (fun c17 => ?_)
          · skip
            refine lv_iconst (v := 0) hx hb dX10_dueBefore_81 (by decide) ?_
            refine lv_iadd hx hb dX10_dueBefore_82 ?_
            refine lv_topi (fun yn18 eyn18 => ?_)
            obtain rfl : yn18 = (nI (nn + 0)) := eyn18.trans (nI_add nn 0)
            refine lv_istore_n (lv' := [(2, .int (nI (nn + 0))), (4, .int 0), (3, .int (nI i1)), (0, .ref w0), (1, .int (nI mi))]) hx hb dX10_dueBefore_83 rfl hl (by decide) rfl (fun ls hl => ?_)
            refine lv_iinc (v := (nI (i1 + 1))) (lv' := [(3, .int (nI (i1 + 1))), (2, .int (nI (nn + 0))), (4, .int 0), (0, .ref w0), (1, .int (nI mi))]) hx hb dX10_dueBefore_84 hl (k := 2) rfl (nI_1 _) (by decide) rfl (fun ls hl => ?_)
            refine lv_goto (tgt := 4) hx hb dX10_dueBefore_87 (by decide) ?_
            obtain ⟨hP9, hD9⟩ := PDq.sub (ws' := [(oX10 w0 v0 v1 v2 v3 v4 g5 g6 (nI ed) g8 v9 (nI nb) g11 g12 v13 g14 g15 g16 g17 g18 g19 g20 g21 g22 g23 g24 g25 g26 v27 v28 v29 v30 v31 v32 v33 v34 v35 v36 v37 (nI ol)), (v0, .inl (cA 0, 326, .inl fs))]) hP hD [0, 1] (by decide) rfl
            exact ih1 (i1 + 1) (nn + 0) H _ ls (by omega) (by omega) (Dbq.no hv1_1 (fun q9 => c17 q9.1)) hP9 hD9 hS (lv_sub hl [0, 1, 3, 4] rfl)
          · skip
            refine lv_iload hx hb dX10_dueBefore_72 (lv_at hl 0 rfl) ?_
            refine lv_if_eq (tgt := 81) hx hb dX10_dueBefore_74 (by decide) (fun c19 => ?_) (fun c9 => absurd c9 (by decide))
            refine lv_iconst (v := 0) hx hb dX10_dueBefore_81 (by decide) ?_
            refine lv_iadd hx hb dX10_dueBefore_82 ?_
            refine lv_topi (fun yn20 eyn20 => ?_)
            obtain rfl : yn20 = (nI (nn + 0)) := eyn20.trans (nI_add nn 0)
            refine lv_istore_n (lv' := [(2, .int (nI (nn + 0))), (4, .int 0), (3, .int (nI i1)), (0, .ref w0), (1, .int (nI mi))]) hx hb dX10_dueBefore_83 rfl hl (by decide) rfl (fun ls hl => ?_)
            refine lv_iinc (v := (nI (i1 + 1))) (lv' := [(3, .int (nI (i1 + 1))), (2, .int (nI (nn + 0))), (4, .int 0), (0, .ref w0), (1, .int (nI mi))]) hx hb dX10_dueBefore_84 hl (k := 2) rfl (nI_1 _) (by decide) rfl (fun ls hl => ?_)
            refine lv_goto (tgt := 4) hx hb dX10_dueBefore_87 (by decide) ?_
            obtain ⟨hP9, hD9⟩ := PDq.sub (ws' := [(oX10 w0 v0 v1 v2 v3 v4 g5 g6 (nI ed) g8 v9 (nI nb) g11 g12 v13 g14 g15 g16 g17 g18 g19 g20 g21 g22 g23 g24 g25 g26 v27 v28 v29 v30 v31 v32 v33 v34 v35 v36 v37 (nI ol)), (v0, .inl (cA 0, 326, .inl fs))]) hP hD [0, 1] (by decide) rfl
            exact ih1 (i1 + 1) (nn + 0) H _ ls (by omega) (by omega) (Dbq.no hv1_1 (fun q9 => (fun q9 => q9.elim c7 (fun z9 => c15 z9.1)) q9.2)) hP9 hD9 hS (lv_sub hl [0, 1, 3, 4] rfl)
        · skip
          refine lv_iload_n hx hb dX10_dueBefore_49 rfl (lv_at hl 0 rfl) ?_
          refine lv_iload_n hx hb dX10_dueBefore_50 rfl (lv_at hl 3 rfl) ?_
          refine lv_icmp_ge (tgt := 58) hx hb dX10_dueBefore_51 (by decide) (fun c21 => ?_) (fun c21 => ?_)
          · skip
            have hn22 : mi ≤ i1 := (nI_leI (a := mi) (b := i1) (by omega) (by omega)).mp c21
            refine lv_iconst (v := 0) hx hb dX10_dueBefore_58 (by decide) ?_
            refine lv_istore (lv' := [(4, .int 0), (3, .int (nI i1)), (2, .int (nI nn)), (0, .ref w0), (1, .int (nI mi))]) hx hb dX10_dueBefore_59 hl (by decide) rfl (fun ls hl => ?_)
            refine lv_iload_n hx hb dX10_dueBefore_61 rfl (lv_at hl 2 rfl) ?_
            refine lv_aload_n hx hb dX10_dueBefore_62 rfl (lv_at hl 3 rfl) ?_
            refine lv_iload_n hx hb dX10_dueBefore_63 rfl (lv_at hl 1 rfl) ?_
            refine lv_iconst (v := 2) hx hb dX10_dueBefore_64 (by decide) ?_
            obtain ⟨hPc, hDc, hFc⟩ := PDq.cut (wc := [(oX10 w0 v0 v1 v2 v3 v4 g5 g6 (nI ed) g8 v9 (nI nb) g11 g12 v13 g14 g15 g16 g17 g18 g19 g20 g21 g22 g23 g24 g25 g26 v27 v28 v29 v30 v31 v32 v33 v34 v35 v36 v37 (nI ol)), (v0, .inl (cA 0, 326, .inl fs))]) hP hD hS hA [0, 1] (by decide) rfl
            refine va_calli (va_runV (As := [.int (nI i1), .int 2]) (rest := [.int (nI nn)]) ⟨hx, hb, hml, hown, hts⟩ (e_of l D cA sa w0 ed nb ol v0 v1 v2 v3 v4 v9 v13 v27 v28 v29 v30 v31 v32 v33 v34 v35 v36 v37 g8 g11 g12 g14 g15 g16 g17 g18 g19 g20 g21 g22 g23 g24 g26 g5 g6 g25 ra fs i1 2 H.size hAb (by omega) (by omega)) (cwV 2 hts gX10_dueBefore_X10_of rfl rfl rfl (by decide +kernel) ⟨(Nat.le_of_ble_eq_true rfl), (Nat.le_of_ble_eq_true rfl)⟩) ⟨Wd.blind, va_recv hK hPc (ci := 11) (q0 := 0) rfl rfl, fun U hU hW => ⟨rfl, Wd.call hPc hDc hK hC hZ hS hFc U hU hW⟩⟩ rfl rfl hl.1 rfl (lv_room (Nat.le_of_ble_eq_true rfl)) dX10_dueBefore_65 ⟨(Nat.le_of_ble_eq_true rfl), (Nat.le_of_ble_eq_true rfl)⟩) hS (fun q _ h => hFc q h) hFc (fun rn23 u t H1 locs ht hvm hw hB hz1 hk1 hS => ?_)
            obtain ⟨hP1, hD1⟩ := hB
            rw [ht] at hP1
            obtain ⟨hP, hD⟩ := PDq.join (w := [(oX10 w0 v0 v1 v2 v3 v4 g5 g6 (nI ed) g8 v9 (nI nb) g11 g12 v13 g14 g15 g16 g17 g18 g19 g20 g21 g22 g23 g24 g25 g26 v27 v28 v29 v30 v31 v32 v33 v34 v35 v36 v37 (nI ol)), (v0, .inl (cA 0, 326, .inl fs))]) 0 hP hD [0, 1] [] rfl rfl (by decide) (by decide) hk1 hFc hP1 hD1 rfl
            generalize H1 = H at hP hS ⊢
            obtain rfl : rn23 = (ra (16 + 7 * i1 + 2)) := hw.trans rfl
            refine lv_iconst (v := 1) hx hb dX10_dueBefore_68 (by decide) ?_
            refine lv_icmp_ne (tgt := 81) hx hb dX10_dueBefore_69 (by decide) (fun c24 => ?_) (fun c24 => ?_)
            · skip
              refine lv_iconst (v := 0) hx hb dX10_dueBefore_81 (by decide) ?_
              refine lv_iadd hx hb dX10_dueBefore_82 ?_
              refine lv_topi (fun yn25 eyn25 => ?_)
              obtain rfl : yn25 = (nI (nn + 0)) := eyn25.trans (nI_add nn 0)
              refine lv_istore_n (lv' := [(2, .int (nI (nn + 0))), (4, .int 0), (3, .int (nI i1)), (0, .ref w0), (1, .int (nI mi))]) hx hb dX10_dueBefore_83 rfl hl (by decide) rfl (fun ls hl => ?_)
              refine lv_iinc (v := (nI (i1 + 1))) (lv' := [(3, .int (nI (i1 + 1))), (2, .int (nI (nn + 0))), (4, .int 0), (0, .ref w0), (1, .int (nI mi))]) hx hb dX10_dueBefore_84 hl (k := 2) rfl (nI_1 _) (by decide) rfl (fun ls hl => ?_)
              refine lv_goto (tgt := 4) hx hb dX10_dueBefore_87 (by decide) ?_
              obtain ⟨hP9, hD9⟩ := PDq.sub (ws' := [(oX10 w0 v0 v1 v2 v3 v4 g5 g6 (nI ed) g8 v9 (nI nb) g11 g12 v13 g14 g15 g16 g17 g18 g19 g20 g21 g22 g23 g24 g25 g26 v27 v28 v29 v30 v31 v32 v33 v34 v35 v36 v37 (nI ol)), (v0, .inl (cA 0, 326, .inl fs))]) hP hD [0, 1] (by decide) rfl
              exact ih1 (i1 + 1) (nn + 0) H _ ls (by omega) (by omega) (Dbq.no hv1_1 (fun q9 => c24 q9.1)) hP9 hD9 hS (lv_sub hl [0, 1, 3, 4] rfl)
            · skip
              refine lv_iload hx hb dX10_dueBefore_72 (lv_at hl 0 rfl) ?_
              refine lv_if_eq (tgt := 81) hx hb dX10_dueBefore_74 (by decide) (fun c26 => ?_) (fun c9 => absurd c9 (by decide))
              refine lv_iconst (v := 0) hx hb dX10_dueBefore_81 (by decide) ?_
              refine lv_iadd hx hb dX10_dueBefore_82 ?_
              refine lv_topi (fun yn27 eyn27 => ?_)
              obtain rfl : yn27 = (nI (nn + 0)) := eyn27.trans (nI_add nn 0)
              refine lv_istore_n (lv' := [(2, .int (nI (nn + 0))), (4, .int 0), (3, .int (nI i1)), (0, .ref w0), (1, .int (nI mi))]) hx hb dX10_dueBefore_83 rfl hl (by decide) rfl (fun ls hl => ?_)
              refine lv_iinc (v := (nI (i1 + 1))) (lv' := [(3, .int (nI (i1 + 1))), (2, .int (nI (nn + 0))), (4, .int 0), (0, .ref w0), (1, .int (nI mi))]) hx hb dX10_dueBefore_84 hl (k := 2) rfl (nI_1 _) (by decide) rfl (fun ls hl => ?_)
              refine lv_goto (tgt := 4) hx hb dX10_dueBefore_87 (by decide) ?_
              obtain ⟨hP9, hD9⟩ := PDq.sub (ws' := [(oX10 w0 v0 v1 v2 v3 v4 g5 g6 (nI ed) g8 v9 (nI nb) g11 g12 v13 g14 g15 g16 g17 g18 g19 g20 g21 g22 g23 g24 g25 g26 v27 v28 v29 v30 v31 v32 v33 v34 v35 v36 v37 (nI ol)), (v0, .inl (cA 0, 326, .inl fs))]) hP hD [0, 1] (by decide) rfl
              exact ih1 (i1 + 1) (nn + 0) H _ ls (by omega) (by omega) (Dbq.no hv1_1 (fun q9 => (fun q9 => q9.elim c7 (fun z9 => absurd z9.2 (Nat.not_lt.mpr hn22))) q9.2)) hP9 hD9 hS (lv_sub hl [0, 1, 3, 4] rfl)
          · skip
            have hn28 : i1 < mi := Nat.lt_of_not_le (fun h9 => c21 (nI_le (a := mi) (b := i1) h9 (by omega)))
            refine lv_iconst (v := 1) hx hb dX10_dueBefore_54 (by decide) ?_
            refine lv_goto (tgt := 59) hx hb dX10_dueBefore_55 (by decide) ?_
            refine lv_istore (lv' := [(4, .int 1), (3, .int (nI i1)), (2, .int (nI nn)), (0, .ref w0), (1, .int (nI mi))]) hx hb dX10_dueBefore_59 hl (by decide) rfl (fun ls hl => ?_)
            refine lv_iload_n hx hb dX10_dueBefore_61 rfl (lv_at hl 2 rfl) ?_
            refine lv_aload_n hx hb dX10_dueBefore_62 rfl (lv_at hl 3 rfl) ?_
            refine lv_iload_n hx hb dX10_dueBefore_63 rfl (lv_at hl 1 rfl) ?_
            refine lv_iconst (v := 2) hx hb dX10_dueBefore_64 (by decide) ?_
            obtain ⟨hPc, hDc, hFc⟩ := PDq.cut (wc := [(oX10 w0 v0 v1 v2 v3 v4 g5 g6 (nI ed) g8 v9 (nI nb) g11 g12 v13 g14 g15 g16 g17 g18 g19 g20 g21 g22 g23 g24 g25 g26 v27 v28 v29 v30 v31 v32 v33 v34 v35 v36 v37 (nI ol)), (v0, .inl (cA 0, 326, .inl fs))]) hP hD hS hA [0, 1] (by decide) rfl
            refine va_calli (va_runV (As := [.int (nI i1), .int 2]) (rest := [.int (nI nn)]) ⟨hx, hb, hml, hown, hts⟩ (e_of l D cA sa w0 ed nb ol v0 v1 v2 v3 v4 v9 v13 v27 v28 v29 v30 v31 v32 v33 v34 v35 v36 v37 g8 g11 g12 g14 g15 g16 g17 g18 g19 g20 g21 g22 g23 g24 g26 g5 g6 g25 ra fs i1 2 H.size hAb (by omega) (by omega)) (cwV 2 hts gX10_dueBefore_X10_of rfl rfl rfl (by decide +kernel) ⟨(Nat.le_of_ble_eq_true rfl), (Nat.le_of_ble_eq_true rfl)⟩) ⟨Wd.blind, va_recv hK hPc (ci := 11) (q0 := 0) rfl rfl, fun U hU hW => ⟨rfl, Wd.call hPc hDc hK hC hZ hS hFc U hU hW⟩⟩ rfl rfl hl.1 rfl (lv_room (Nat.le_of_ble_eq_true rfl)) dX10_dueBefore_65 ⟨(Nat.le_of_ble_eq_true rfl), (Nat.le_of_ble_eq_true rfl)⟩) hS (fun q _ h => hFc q h) hFc (fun rn29 u t H1 locs ht hvm hw hB hz1 hk1 hS => ?_)
            obtain ⟨hP1, hD1⟩ := hB
            rw [ht] at hP1
            obtain ⟨hP, hD⟩ := PDq.join (w := [(oX10 w0 v0 v1 v2 v3 v4 g5 g6 (nI ed) g8 v9 (nI nb) g11 g12 v13 g14 g15 g16 g17 g18 g19 g20 g21 g22 g23 g24 g25 g26 v27 v28 v29 v30 v31 v32 v33 v34 v35 v36 v37 (nI ol)), (v0, .inl (cA 0, 326, .inl fs))]) 0 hP hD [0, 1] [] rfl rfl (by decide) (by decide) hk1 hFc hP1 hD1 rfl
            generalize H1 = H at hP hS ⊢
            obtain rfl : rn29 = (ra (16 + 7 * i1 + 2)) := hw.trans rfl
            refine lv_iconst (v := 1) hx hb dX10_dueBefore_68 (by decide) ?_
            refine lv_icmp_ne (tgt := 81) hx hb dX10_dueBefore_69 (by decide) (fun c30 => ?_) (fun c30 => ?_)
            · skip
              refine lv_iconst (v := 0) hx hb dX10_dueBefore_81 (by decide) ?_
              refine lv_iadd hx hb dX10_dueBefore_82 ?_
              refine lv_topi (fun yn31 eyn31 => ?_)
              obtain rfl : yn31 = (nI (nn + 0)) := eyn31.trans (nI_add nn 0)
              refine lv_istore_n (lv' := [(2, .int (nI (nn + 0))), (4, .int 1), (3, .int (nI i1)), (0, .ref w0), (1, .int (nI mi))]) hx hb dX10_dueBefore_83 rfl hl (by decide) rfl (fun ls hl => ?_)
              refine lv_iinc (v := (nI (i1 + 1))) (lv' := [(3, .int (nI (i1 + 1))), (2, .int (nI (nn + 0))), (4, .int 1), (0, .ref w0), (1, .int (nI mi))]) hx hb dX10_dueBefore_84 hl (k := 2) rfl (nI_1 _) (by decide) rfl (fun ls hl => ?_)
              refine lv_goto (tgt := 4) hx hb dX10_dueBefore_87 (by decide) ?_
              obtain ⟨hP9, hD9⟩ := PDq.sub (ws' := [(oX10 w0 v0 v1 v2 v3 v4 g5 g6 (nI ed) g8 v9 (nI nb) g11 g12 v13 g14 g15 g16 g17 g18 g19 g20 g21 g22 g23 g24 g25 g26 v27 v28 v29 v30 v31 v32 v33 v34 v35 v36 v37 (nI ol)), (v0, .inl (cA 0, 326, .inl fs))]) hP hD [0, 1] (by decide) rfl
              exact ih1 (i1 + 1) (nn + 0) H _ ls (by omega) (by omega) (Dbq.no hv1_1 (fun q9 => c30 q9.1)) hP9 hD9 hS (lv_sub hl [0, 1, 3, 4] rfl)
            · skip
              refine lv_iload hx hb dX10_dueBefore_72 (lv_at hl 0 rfl) ?_
              refine lv_if_eq (tgt := 81) hx hb dX10_dueBefore_74 (by decide) (fun c9 => absurd c9 (by decide)) (fun c32 => ?_)
              refine lv_iconst (v := 1) hx hb dX10_dueBefore_77 (by decide) ?_
              refine lv_goto (tgt := 82) hx hb dX10_dueBefore_78 (by decide) ?_
              refine lv_iadd hx hb dX10_dueBefore_82 ?_
              refine lv_topi (fun yn33 eyn33 => ?_)
              obtain rfl : yn33 = (nI (nn + 1)) := eyn33.trans (nI_add nn 1)
              refine lv_istore_n (lv' := [(2, .int (nI (nn + 1))), (4, .int 1), (3, .int (nI i1)), (0, .ref w0), (1, .int (nI mi))]) hx hb dX10_dueBefore_83 rfl hl (by decide) rfl (fun ls hl => ?_)
              refine lv_iinc (v := (nI (i1 + 1))) (lv' := [(3, .int (nI (i1 + 1))), (2, .int (nI (nn + 1))), (4, .int 1), (0, .ref w0), (1, .int (nI mi))]) hx hb dX10_dueBefore_84 hl (k := 2) rfl (nI_1 _) (by decide) rfl (fun ls hl => ?_)
              refine lv_goto (tgt := 4) hx hb dX10_dueBefore_87 (by decide) ?_
              obtain ⟨hP9, hD9⟩ := PDq.sub (ws' := [(oX10 w0 v0 v1 v2 v3 v4 g5 g6 (nI ed) g8 v9 (nI nb) g11 g12 v13 g14 g15 g16 g17 g18 g19 g20 g21 g22 g23 g24 g25 g26 v27 v28 v29 v30 v31 v32 v33 v34 v35 v36 v37 (nI ol)), (v0, .inl (cA 0, 326, .inl fs))]) hP hD [0, 1] (by decide) rfl
              exact ih1 (i1 + 1) (nn + 1) H _ ls (by omega) (by omega) (Dbq.yes hv1_1 c30 (Or.inr ⟨c15, hn28⟩)) hP9 hD9 hS (lv_sub hl [0, 1, 3, 4] rfl)
  obtain ⟨hP9, hD9⟩ := PDq.sub (ws' := [(oX10 w0 v0 v1 v2 v3 v4 g5 g6 (nI ed) g8 v9 (nI nb) g11 g12 v13 g14 g15 g16 g17 g18 g19 g20 g21 g22 g23 g24 g25 g26 v27 v28 v29 v30 v31 v32 v33 v34 v35 v36 v37 (nI ol)), (v0, .inl (cA 0, 326, .inl fs))]) hP hD [0, 1] (by decide) rfl
  exact loop1 (cn - 0) 0 0 _ _ ls (by omega) (by omega) (Dbq.zero ra mi) hP9 hD9 hS (lv_sub hl [0, 1, 2, 3] rfl)

set_option maxHeartbeats 4000000 in
set_option maxRecDepth 100000 in
/-- reference, exactly: dueWith -/
theorem e_dueWith (l : Launch) (D : va_G) (cA : Nat → ClassId) (sa : Nat → Nat) (w0 : Nat) (ed : Nat) (nb : Nat) (ol : Nat) (v0 : Nat) (v1 : Nat) (v2 : Nat) (v3 : Nat) (v4 : Nat) (v9 : Nat) (v13 : Nat) (v27 : Nat) (v28 : Nat) (v29 : Nat) (v30 : Nat) (v31 : Nat) (v32 : Nat) (v33 : Nat) (v34 : Nat) (v35 : Nat) (v36 : Nat) (v37 : Nat) (g8 : Int32) (g11 : Int32) (g12 : Int32) (g14 : Int32) (g15 : Int32) (g16 : Int32) (g17 : Int32) (g18 : Int32) (g19 : Int32) (g20 : Int32) (g21 : Int32) (g22 : Int32) (g23 : Int32) (g24 : Int32) (g26 : Int32) (g5 : Int64) (g6 : Int64) (g25 : Int64) (cn : Nat) (pq : Nat) (en : Nat) (dy : Nat) (fs : Nat → Int32) (ra : Nat → Int32) (rk : Nat) (sz : Nat) (hAb : Ab ra fs) (hcn : cn ≤ 10) (hpq : pq ≤ 8) (hen : en ≤ 60) (hdy : dy ≤ 20000) (hri : RI cn pq en dy fs) (hrk : rk < 2147483648) : Met l yX10_dueWith wsX10_dueWith ({ frames := 2, cells := 0, slots := 0, locals := 46 }) (va_Pc [.ref w0, .int (nI rk)] (Wd D cA sa [(oX10 w0 v0 v1 v2 v3 v4 g5 g6 (nI ed) g8 v9 (nI nb) g11 g12 v13 g14 g15 g16 g17 g18 g19 g20 g21 g22 g23 g24 g25 g26 v27 v28 v29 v30 v31 v32 v33 v34 v35 v36 v37 (nI ol)), (v0, .inl (cA 0, 326, .inl fs))] sz)) (va_Qi (fun (r : Int32) (_ : Unit) => (r = -1 ∧ Dwq ra cn rk cn) ∨ ∃ n, n < cn ∧ r = nI n ∧ ra (16 + 7 * n + 2) = 1 ∧ dbR ra n cn = rk) (fun (_ : Unit) t => Wq D (va_A [(oX10 w0 v0 v1 v2 v3 v4 g5 g6 (nI ed) g8 v9 (nI nb) g11 g12 v13 g14 g15 g16 g17 g18 g19 g20 g21 g22 g23 g24 g25 g26 v27 v28 v29 v30 v31 v32 v33 v34 v35 v36 v37 (nI ol)), (v0, .inl (cA 0, 326, .inl fs))] sz) [(oX10 w0 v0 v1 v2 v3 v4 g5 g6 (nI ed) g8 v9 (nI nb) g11 g12 v13 g14 g15 g16 g17 g18 g19 g20 g21 g22 g23 g24 g25 g26 v27 v28 v29 v30 v31 v32 v33 v34 v35 v36 v37 (nI ol)), (v0, .inl (cA 0, 326, .inl fs))] t) (va_A [(oX10 w0 v0 v1 v2 v3 v4 g5 g6 (nI ed) g8 v9 (nI nb) g11 g12 v13 g14 g15 g16 g17 g18 g19 g20 g21 g22 g23 g24 g25 g26 v27 v28 v29 v30 v31 v32 v33 v34 v35 v36 v37 (nI ol)), (v0, .inl (cA 0, 326, .inl fs))] sz)) 0 0 (va_A [(oX10 w0 v0 v1 v2 v3 v4 g5 g6 (nI ed) g8 v9 (nI nb) g11 g12 v13 g14 g15 g16 g17 g18 g19 g20 g21 g22 g23 g24 g25 g26 v27 v28 v29 v30 v31 v32 v33 v34 v35 v36 v37 (nI ol)), (v0, .inl (cA 0, 326, .inl fs))] sz) := by
  refine Met.ofW (cc := cX10_dueWith) (maxL := 3) (ret := (some .int)) (by decide) rfl ?_
  intro p e s m args below meth c s₁ B hml hv
  obtain ⟨rfl, hsz, hP, hK, hD0, hC, hZ⟩ := hv
  have hx := B.exec
  have hb := B.bytes
  have hr := B.returns
  have hts := atoms_spec (ws := wsX10_dueWith) B.pre
  have hown : s.vm.findClass RX10 = some m.cls := findClass_of_methodNamed B.named
  have hlocks := B.notSynchronized
  subst hsz
  have hD := hD0.self (sz := s.heap.size)
  generalize hAe : va_A [(oX10 w0 v0 v1 v2 v3 v4 g5 g6 (nI ed) g8 v9 (nI nb) g11 g12 v13 g14 g15 g16 g17 g18 g19 g20 g21 g22 g23 g24 g25 g26 v27 v28 v29 v30 v31 v32 v33 v34 v35 v36 v37 (nI ol)), (v0, .inl (cA 0, 326, .inl fs))] s.heap.size = A at hD hZ ⊢
  have hA : ∀ q : Nat, s.heap.size ≤ q → A q := fun q h => by rw [← hAe]; exact Or.inr h
  have hS : va_S A s.heap s.heap [] := va_S.rf
  have hP : va_P D vwCl [(oX10 w0 v0 v1 v2 v3 v4 g5 g6 (nI ed) g8 v9 (nI nb) g11 g12 v13 g14 g15 g16 g17 g18 g19 g20 g21 g22 g23 g24 g25 g26 v27 v28 v29 v30 v31 v32 v33 v34 v35 v36 v37 (nI ol)), (v0, .inl (cA 0, 326, .inl fs))] s.heap := hP
  have hl := lv_entry ([.ref w0, .int (nI rk)]) (n := 3) (Nat.le_of_ble_eq_true rfl)
  rw [lg_entry_eq]
  generalize (lg_sl ([.ref w0, .int (nI rk)]) ++ List.replicate (3 - (lg_sl ([.ref w0, .int (nI rk)])).length) Slot.unset).toArray = ls at hl ⊢
  have hl : lv_has ls 3 [(0, .ref w0), (1, .int (nI rk))] := hl
  have inX10 : ∀ w ∈ u_ws RX10 TX10 39, w ∈ wsX10_dueWith := by decide +kernel
  refine lv_iconst (v := 0) hx hb dX10_dueWith_0 (by decide) ?_
  refine lv_istore_n (lv' := [(2, .int 0), (0, .ref w0), (1, .int (nI rk))]) hx hb dX10_dueWith_1 rfl hl (by decide) rfl (fun ls hl => ?_)
  have loop1 : ∀ (n1 i1 : Nat) (H : Heap) (locs : List Loc) (ls : Array Slot), i1 + n1 = cn → Dwq ra cn rk i1 → va_P D vwCl [(oX10 w0 v0 v1 v2 v3 v4 g5 g6 (nI ed) g8 v9 (nI nb) g11 g12 v13 g14 g15 g16 g17 g18 g19 g20 g21 g22 g23 g24 g25 g26 v27 v28 v29 v30 v31 v32 v33 v34 v35 v36 v37 (nI ol)), (v0, .inl (cA 0, 326, .inl fs))] H → va_D A [(oX10 w0 v0 v1 v2 v3 v4 g5 g6 (nI ed) g8 v9 (nI nb) g11 g12 v13 g14 g15 g16 g17 g18 g19 g20 g21 g22 g23 g24 g25 g26 v27 v28 v29 v30 v31 v32 v33 v34 v35 v36 v37 (nI ol)), (v0, .inl (cA 0, 326, .inl fs))] → va_S A s.heap H locs → lv_has ls 3 [(2, .int (nI i1)), (0, .ref w0), (1, .int (nI rk))] → W p l e (headSpec wsX10_dueWith ({ frames := 2, cells := 0, slots := 0, locals := 46 } : Room)).room s m ([.ref w0, .int (nI rk)] : List Value).toArray below meth c H locs 0 0 (MQ below (va_Qi (fun (r : Int32) (_ : Unit) => (r = -1 ∧ Dwq ra cn rk cn) ∨ ∃ n, n < cn ∧ r = nI n ∧ ra (16 + 7 * n + 2) = 1 ∧ dbR ra n cn = rk) (fun (_ : Unit) t => Wq D A [(oX10 w0 v0 v1 v2 v3 v4 g5 g6 (nI ed) g8 v9 (nI nb) g11 g12 v13 g14 g15 g16 g17 g18 g19 g20 g21 g22 g23 g24 g25 g26 v27 v28 v29 v30 v31 v32 v33 v34 v35 v36 v37 (nI ol)), (v0, .inl (cA 0, 326, .inl fs))] t) A) ([.ref w0, .int (nI rk)] : List Value).toArray s 0 0 A) (F0 m 2 ls []) := by
    intro n1
    induction n1 with
    | zero =>
      intro i1 H locs ls hi1 hv0_1 hP hD hS hl
      obtain rfl : cn = i1 := by omega
      refine lv_iload_n hx hb dX10_dueWith_2 rfl (lv_at hl 0 rfl) ?_
      refine lv_aload_n hx hb dX10_dueWith_3 rfl (lv_at hl 1 rfl) ?_
      refine va_get (D := D) (ci := 11) (v := .ref v0) (C := RX10) (T := TX10) (N := 39) hx hb hts inX10 hown hK hP 0 rfl rfl 0 (by decide) (hts (.fieldLink RX10 7 "EscrowDeskModel" "s" "[I") (by decide +kernel)) (fun _ h9 => h9) rfl dX10_dueWith_4 ?_
      refine lv_bipush (v := 13) hx hb dX10_dueWith_7 (by decide) ?_
      refine va_iald hx hb hK hP 1 0 rfl rfl (vp_in_iff.mpr (by decide)) dX10_dueWith_9 ?_
      refine lv_topi (fun yn1 eyn1 => ?_)
      obtain rfl : yn1 = (nI cn) := eyn1.trans hri.1
      refine lv_icmp_ge (tgt := 40) hx hb dX10_dueWith_10 (by decide) (fun c2 => ?_) (fun c9 => absurd (nI_le (a := cn) (b := cn) (show cn ≤ cn by omega) (by omega)) c9)
      refine lv_iconst (v := (-1)) hx hb dX10_dueWith_40 (by decide) ?_
      obtain ⟨hP9, hD9⟩ := PDq.sub (ws' := [(oX10 w0 v0 v1 v2 v3 v4 g5 g6 (nI ed) g8 v9 (nI nb) g11 g12 v13 g14 g15 g16 g17 g18 g19 g20 g21 g22 g23 g24 g25 g26 v27 v28 v29 v30 v31 v32 v33 v34 v35 v36 v37 (nI ol)), (v0, .inl (cA 0, 326, .inl fs))]) hP hD [0, 1] (by decide) rfl
      refine W.widen (k := 0) (n := 0) (Nat.le_of_ble_eq_true rfl) (Nat.le_of_ble_eq_true rfl) ?_
      exact (W.iret (v := (-1)) hx hb hr (fun t ht hW => ⟨⟨(-1), (), rfl, (Or.inl ⟨rfl, hv0_1⟩), by rw [ht]; exact hP9, hD9⟩, hS.F ht⟩) hS.2.2 dX10_dueWith_41)
    | succ n1 ih1 =>
      intro i1 H locs ls hi1 hv0_1 hP hD hS hl
      refine lv_iload_n hx hb dX10_dueWith_2 rfl (lv_at hl 0 rfl) ?_
      refine lv_aload_n hx hb dX10_dueWith_3 rfl (lv_at hl 1 rfl) ?_
      refine va_get (D := D) (ci := 11) (v := .ref v0) (C := RX10) (T := TX10) (N := 39) hx hb hts inX10 hown hK hP 0 rfl rfl 0 (by decide) (hts (.fieldLink RX10 7 "EscrowDeskModel" "s" "[I") (by decide +kernel)) (fun _ h9 => h9) rfl dX10_dueWith_4 ?_
      refine lv_bipush (v := 13) hx hb dX10_dueWith_7 (by decide) ?_
      refine va_iald hx hb hK hP 1 0 rfl rfl (vp_in_iff.mpr (by decide)) dX10_dueWith_9 ?_
      refine lv_topi (fun yn3 eyn3 => ?_)
      obtain rfl : yn3 = (nI cn) := eyn3.trans hri.1
      refine lv_icmp_ge (tgt := 40) hx hb dX10_dueWith_10 (by decide) (fun c9 => absurd c9 (nI_ge (a := i1) (b := cn) (show i1 < cn by omega) (by omega))) (fun c4 => ?_)
      refine lv_aload_n hx hb dX10_dueWith_13 rfl (lv_at hl 1 rfl) ?_
      refine lv_iload_n hx hb dX10_dueWith_14 rfl (lv_at hl 0 rfl) ?_
      refine lv_iconst (v := 2) hx hb dX10_dueWith_15 (by decide) ?_
      obtain ⟨hPc, hDc, hFc⟩ := PDq.cut (wc := [(oX10 w0 v0 v1 v2 v3 v4 g5 g6 (nI ed) g8 v9 (nI nb) g11 g12 v13 g14 g15 g16 g17 g18 g19 g20 g21 g22 g23 g24 g25 g26 v27 v28 v29 v30 v31 v32 v33 v34 v35 v36 v37 (nI ol)), (v0, .inl (cA 0, 326, .inl fs))]) hP hD hS hA [0, 1] (by decide) rfl
      refine va_calli (va_runV (As := [.int (nI i1), .int 2]) (rest := []) ⟨hx, hb, hml, hown, hts⟩ (e_of l D cA sa w0 ed nb ol v0 v1 v2 v3 v4 v9 v13 v27 v28 v29 v30 v31 v32 v33 v34 v35 v36 v37 g8 g11 g12 g14 g15 g16 g17 g18 g19 g20 g21 g22 g23 g24 g26 g5 g6 g25 ra fs i1 2 H.size hAb (by omega) (by omega)) (cwV 2 hts gX10_dueWith_X10_of rfl rfl rfl (by decide +kernel) ⟨(Nat.le_of_ble_eq_true rfl), (Nat.le_of_ble_eq_true rfl)⟩) ⟨Wd.blind, va_recv hK hPc (ci := 11) (q0 := 0) rfl rfl, fun U hU hW => ⟨rfl, Wd.call hPc hDc hK hC hZ hS hFc U hU hW⟩⟩ rfl rfl hl.1 rfl (lv_room (Nat.le_of_ble_eq_true rfl)) dX10_dueWith_16 ⟨(Nat.le_of_ble_eq_true rfl), (Nat.le_of_ble_eq_true rfl)⟩) hS (fun q _ h => hFc q h) hFc (fun rn5 u t H1 locs ht hvm hw hB hz1 hk1 hS => ?_)
      obtain ⟨hP1, hD1⟩ := hB
      rw [ht] at hP1
      obtain ⟨hP, hD⟩ := PDq.join (w := [(oX10 w0 v0 v1 v2 v3 v4 g5 g6 (nI ed) g8 v9 (nI nb) g11 g12 v13 g14 g15 g16 g17 g18 g19 g20 g21 g22 g23 g24 g25 g26 v27 v28 v29 v30 v31 v32 v33 v34 v35 v36 v37 (nI ol)), (v0, .inl (cA 0, 326, .inl fs))]) 0 hP hD [0, 1] [] rfl rfl (by decide) (by decide) hk1 hFc hP1 hD1 rfl
      generalize H1 = H at hP hS ⊢
      obtain rfl : rn5 = (ra (16 + 7 * i1 + 2)) := hw.trans rfl
      refine lv_iconst (v := 1) hx hb dX10_dueWith_19 (by decide) ?_
      refine lv_icmp_ne (tgt := 34) hx hb dX10_dueWith_20 (by decide) (fun c6 => ?_) (fun c6 => ?_)
      · skip
        refine lv_iinc (v := (nI (i1 + 1))) (lv' := [(2, .int (nI (i1 + 1))), (0, .ref w0), (1, .int (nI rk))]) hx hb dX10_dueWith_34 hl (k := 0) rfl (nI_1 _) (by decide) rfl (fun ls hl => ?_)
        refine lv_goto (tgt := 2) hx hb dX10_dueWith_37 (by decide) ?_
        obtain ⟨hP9, hD9⟩ := PDq.sub (ws' := [(oX10 w0 v0 v1 v2 v3 v4 g5 g6 (nI ed) g8 v9 (nI nb) g11 g12 v13 g14 g15 g16 g17 g18 g19 g20 g21 g22 g23 g24 g25 g26 v27 v28 v29 v30 v31 v32 v33 v34 v35 v36 v37 (nI ol)), (v0, .inl (cA 0, 326, .inl fs))]) hP hD [0, 1] (by decide) rfl
        exact ih1 (i1 + 1)  H _ ls (by omega) (Dwq.step hv0_1 (fun q9 => c6 q9.1)) hP9 hD9 hS (lv_sub hl [0, 1, 2] rfl)
      · skip
        refine lv_aload_n hx hb dX10_dueWith_23 rfl (lv_at hl 1 rfl) ?_
        refine lv_iload_n hx hb dX10_dueWith_24 rfl (lv_at hl 0 rfl) ?_
        obtain ⟨hPc, hDc, hFc⟩ := PDq.cut (wc := [(oX10 w0 v0 v1 v2 v3 v4 g5 g6 (nI ed) g8 v9 (nI nb) g11 g12 v13 g14 g15 g16 g17 g18 g19 g20 g21 g22 g23 g24 g25 g26 v27 v28 v29 v30 v31 v32 v33 v34 v35 v36 v37 (nI ol)), (v0, .inl (cA 0, 326, .inl fs))]) hP hD hS hA [0, 1] (by decide) rfl
        refine va_calli (va_runV (As := [.int (nI i1)]) (rest := []) ⟨hx, hb, hml, hown, hts⟩ (e_dueBefore l D cA sa w0 ed nb ol v0 v1 v2 v3 v4 v9 v13 v27 v28 v29 v30 v31 v32 v33 v34 v35 v36 v37 g8 g11 g12 g14 g15 g16 g17 g18 g19 g20 g21 g22 g23 g24 g26 g5 g6 g25 cn pq en dy fs ra i1 H.size hAb hcn hpq hen hdy hri (by omega)) (cwV 1 hts gX10_dueWith_X10_dueBefore rfl rfl rfl (by decide +kernel) ⟨(Nat.le_of_ble_eq_true rfl), (Nat.le_of_ble_eq_true rfl)⟩) ⟨Wd.blind, va_recv hK hPc (ci := 11) (q0 := 0) rfl rfl, fun U hU hW => ⟨rfl, Wd.call hPc hDc hK hC hZ hS hFc U hU hW⟩⟩ rfl rfl hl.1 rfl (lv_room (Nat.le_of_ble_eq_true rfl)) dX10_dueWith_25 ⟨(Nat.le_of_ble_eq_true rfl), (Nat.le_of_ble_eq_true rfl)⟩) hS (fun q _ h => hFc q h) hFc (fun rn7 u t H1 locs ht hvm hw hB hz1 hk1 hS => ?_)
        obtain ⟨hP1, hD1⟩ := hB
        rw [ht] at hP1
        obtain ⟨hP, hD⟩ := PDq.join (w := [(oX10 w0 v0 v1 v2 v3 v4 g5 g6 (nI ed) g8 v9 (nI nb) g11 g12 v13 g14 g15 g16 g17 g18 g19 g20 g21 g22 g23 g24 g25 g26 v27 v28 v29 v30 v31 v32 v33 v34 v35 v36 v37 (nI ol)), (v0, .inl (cA 0, 326, .inl fs))]) 0 hP hD [0, 1] [] rfl rfl (by decide) (by decide) hk1 hFc hP1 hD1 rfl
        generalize H1 = H at hP hS ⊢
        obtain rfl : rn7 = nI (dbR ra i1 cn) := hw
        have hn8 := dbR_le ra i1 cn
        refine lv_iload_n hx hb dX10_dueWith_28 rfl (lv_at hl 2 rfl) ?_
        refine lv_icmp_ne (tgt := 34) hx hb dX10_dueWith_29 (by decide) (fun c9 => ?_) (fun c9 => ?_)
        · skip
          have hn10 : ¬ (dbR ra i1 cn) = rk := fun h9 => c9 (by rw [h9])
          refine lv_iinc (v := (nI (i1 + 1))) (lv' := [(2, .int (nI (i1 + 1))), (0, .ref w0), (1, .int (nI rk))]) hx hb dX10_dueWith_34 hl (k := 0) rfl (nI_1 _) (by decide) rfl (fun ls hl => ?_)
          refine lv_goto (tgt := 2) hx hb dX10_dueWith_37 (by decide) ?_
          obtain ⟨hP9, hD9⟩ := PDq.sub (ws' := [(oX10 w0 v0 v1 v2 v3 v4 g5 g6 (nI ed) g8 v9 (nI nb) g11 g12 v13 g14 g15 g16 g17 g18 g19 g20 g21 g22 g23 g24 g25 g26 v27 v28 v29 v30 v31 v32 v33 v34 v35 v36 v37 (nI ol)), (v0, .inl (cA 0, 326, .inl fs))]) hP hD [0, 1] (by decide) rfl
          exact ih1 (i1 + 1)  H _ ls (by omega) (Dwq.step hv0_1 (fun q9 => hn10 q9.2)) hP9 hD9 hS (lv_sub hl [0, 1, 2] rfl)
        · skip
          have hn11 : (dbR ra i1 cn) = rk := (nI_eq (a := (dbR ra i1 cn)) (b := rk) (by omega) (by omega)).mp c9
          refine lv_iload_n hx hb dX10_dueWith_32 rfl (lv_at hl 0 rfl) ?_
          obtain ⟨hP9, hD9⟩ := PDq.sub (ws' := [(oX10 w0 v0 v1 v2 v3 v4 g5 g6 (nI ed) g8 v9 (nI nb) g11 g12 v13 g14 g15 g16 g17 g18 g19 g20 g21 g22 g23 g24 g25 g26 v27 v28 v29 v30 v31 v32 v33 v34 v35 v36 v37 (nI ol)), (v0, .inl (cA 0, 326, .inl fs))]) hP hD [0, 1] (by decide) rfl
          refine W.widen (k := 0) (n := 0) (Nat.le_of_ble_eq_true rfl) (Nat.le_of_ble_eq_true rfl) ?_
          exact (W.iret (v := (nI i1)) hx hb hr (fun t ht hW => ⟨⟨(nI i1), (), rfl, (Or.inr ⟨i1, by omega, rfl, c6, hn11⟩), by rw [ht]; exact hP9, hD9⟩, hS.F ht⟩) hS.2.2 dX10_dueWith_33)
  obtain ⟨hP9, hD9⟩ := PDq.sub (ws' := [(oX10 w0 v0 v1 v2 v3 v4 g5 g6 (nI ed) g8 v9 (nI nb) g11 g12 v13 g14 g15 g16 g17 g18 g19 g20 g21 g22 g23 g24 g25 g26 v27 v28 v29 v30 v31 v32 v33 v34 v35 v36 v37 (nI ol)), (v0, .inl (cA 0, 326, .inl fs))]) hP hD [0, 1] (by decide) rfl
  exact loop1 (cn - 0) 0  _ _ ls (by omega) (Dwq.zero ra cn rk) hP9 hD9 hS (lv_sub hl [0, 1, 2] rfl)

set_option maxHeartbeats 4000000 in
set_option maxRecDepth 100000 in
/-- reference, exactly: payDue -/
theorem e_payDue (l : Launch) (D : va_G) (cA : Nat → ClassId) (sa : Nat → Nat) (w0 : Nat) (ed : Nat) (nb : Nat) (ol : Nat) (v0 : Nat) (v1 : Nat) (v2 : Nat) (v3 : Nat) (v4 : Nat) (v9 : Nat) (v13 : Nat) (v27 : Nat) (v28 : Nat) (v29 : Nat) (v30 : Nat) (v31 : Nat) (v32 : Nat) (v33 : Nat) (v34 : Nat) (v35 : Nat) (v36 : Nat) (v37 : Nat) (g8 : Int32) (g11 : Int32) (g12 : Int32) (g14 : Int32) (g15 : Int32) (g16 : Int32) (g17 : Int32) (g18 : Int32) (g19 : Int32) (g20 : Int32) (g21 : Int32) (g22 : Int32) (g23 : Int32) (g24 : Int32) (g26 : Int32) (g5 : Int64) (g6 : Int64) (g25 : Int64) (cn : Nat) (pq : Nat) (en : Nat) (dy : Nat) (fs : Nat → Int32) (ra : Nat → Int32) (fo : Nat → Int32) (sz : Nat) (hAb : Ab ra fs) (hcn : cn ≤ 10) (hpq : pq ≤ 8) (hen : en ≤ 60) (hdy : dy ≤ 20000) (hri : RI cn pq en dy fs) (hord : Rng 10 10 fo) : Met l yX10_payDue wsX10_payDue ({ frames := 4, cells := 0, slots := 0, locals := 85 }) (va_Pc [.ref w0] (Wd D cA sa [(oX10 w0 v0 v1 v2 v3 v4 g5 g6 (nI ed) g8 v9 (nI nb) g11 g12 v13 g14 g15 g16 g17 g18 g19 g20 g21 g22 g23 g24 g25 g26 v27 v28 v29 v30 v31 v32 v33 v34 v35 v36 v37 (nI ol)), (v0, .inl (cA 0, 326, .inl fs)), (v36, .inl (cA 0, 10, .inl fo))] sz)) (va_Qv (fun _ : Unit => True) (fun (_ : Unit) t => ∃ e2 : Nat, ∃ zs : Nat → Int32, ∃ zo : Nat → Int32, e2 ≤ 60 ∧ RI cn pq e2 dy zs ∧ Rng 10 10 zo ∧ PdR ra cn zs ∧ Wq D (va_A [(oX10 w0 v0 v1 v2 v3 v4 g5 g6 (nI ed) g8 v9 (nI nb) g11 g12 v13 g14 g15 g16 g17 g18 g19 g20 g21 g22 g23 g24 g25 g26 v27 v28 v29 v30 v31 v32 v33 v34 v35 v36 v37 (nI ol)), (v0, .inl (cA 0, 326, .inl fs)), (v36, .inl (cA 0, 10, .inl fo))] sz) [(oX10 w0 v0 v1 v2 v3 v4 g5 g6 (nI ed) g8 v9 (nI nb) g11 g12 v13 g14 g15 g16 g17 g18 g19 g20 g21 g22 g23 g24 g25 g26 v27 v28 v29 v30 v31 v32 v33 v34 v35 v36 v37 (nI ol)), (v0, .inl (cA 0, 326, .inl zs)), (v36, .inl (cA 0, 10, .inl zo))] t) (va_A [(oX10 w0 v0 v1 v2 v3 v4 g5 g6 (nI ed) g8 v9 (nI nb) g11 g12 v13 g14 g15 g16 g17 g18 g19 g20 g21 g22 g23 g24 g25 g26 v27 v28 v29 v30 v31 v32 v33 v34 v35 v36 v37 (nI ol)), (v0, .inl (cA 0, 326, .inl fs)), (v36, .inl (cA 0, 10, .inl fo))] sz)) 0 0 (va_A [(oX10 w0 v0 v1 v2 v3 v4 g5 g6 (nI ed) g8 v9 (nI nb) g11 g12 v13 g14 g15 g16 g17 g18 g19 g20 g21 g22 g23 g24 g25 g26 v27 v28 v29 v30 v31 v32 v33 v34 v35 v36 v37 (nI ol)), (v0, .inl (cA 0, 326, .inl fs)), (v36, .inl (cA 0, 10, .inl fo))] sz) := by
  refine Met.ofW (cc := cX10_payDue) (maxL := 5) (ret := none) (by decide) rfl ?_
  intro p e s m args below meth c s₁ B hml hv
  obtain ⟨rfl, hsz, hP, hK, hD0, hC, hZ⟩ := hv
  have hx := B.exec
  have hb := B.bytes
  have hr := B.returns
  have hts := atoms_spec (ws := wsX10_payDue) B.pre
  have hown : s.vm.findClass RX10 = some m.cls := findClass_of_methodNamed B.named
  have hlocks := B.notSynchronized
  subst hsz
  have hD := hD0.self (sz := s.heap.size)
  generalize hAe : va_A [(oX10 w0 v0 v1 v2 v3 v4 g5 g6 (nI ed) g8 v9 (nI nb) g11 g12 v13 g14 g15 g16 g17 g18 g19 g20 g21 g22 g23 g24 g25 g26 v27 v28 v29 v30 v31 v32 v33 v34 v35 v36 v37 (nI ol)), (v0, .inl (cA 0, 326, .inl fs)), (v36, .inl (cA 0, 10, .inl fo))] s.heap.size = A at hD hZ ⊢
  have hA : ∀ q : Nat, s.heap.size ≤ q → A q := fun q h => by rw [← hAe]; exact Or.inr h
  have hS : va_S A s.heap s.heap [] := va_S.rf
  have hP : va_P D vwCl [(oX10 w0 v0 v1 v2 v3 v4 g5 g6 (nI ed) g8 v9 (nI nb) g11 g12 v13 g14 g15 g16 g17 g18 g19 g20 g21 g22 g23 g24 g25 g26 v27 v28 v29 v30 v31 v32 v33 v34 v35 v36 v37 (nI ol)), (v0, .inl (cA 0, 326, .inl fs)), (v36, .inl (cA 0, 10, .inl fo))] s.heap := hP
  have hl := lv_entry ([.ref w0]) (n := 5) (Nat.le_of_ble_eq_true rfl)
  rw [lg_entry_eq]
  generalize (lg_sl ([.ref w0]) ++ List.replicate (5 - (lg_sl ([.ref w0])).length) Slot.unset).toArray = ls at hl ⊢
  have hl : lv_has ls 5 [(0, .ref w0)] := hl
  have inX10 : ∀ w ∈ u_ws RX10 TX10 39, w ∈ wsX10_payDue := by decide +kernel
  refine lv_iconst (v := 0) hx hb dX10_payDue_0 (by decide) ?_
  refine lv_istore_n (lv' := [(1, .int 0), (0, .ref w0)]) hx hb dX10_payDue_1 rfl hl (by decide) rfl (fun ls hl => ?_)
  refine lv_aload_n hx hb dX10_payDue_2 rfl (lv_at hl 1 rfl) ?_
  refine lv_iconst (v := 0) hx hb dX10_payDue_3 (by decide) ?_
  obtain ⟨hPc, hDc, hFc⟩ := PDq.cut (wc := [(oX10 w0 v0 v1 v2 v3 v4 g5 g6 (nI ed) g8 v9 (nI nb) g11 g12 v13 g14 g15 g16 g17 g18 g19 g20 g21 g22 g23 g24 g25 g26 v27 v28 v29 v30 v31 v32 v33 v34 v35 v36 v37 (nI ol)), (v0, .inl (cA 0, 326, .inl fs))]) hP hD hS hA [0, 1] (by decide) rfl
  refine va_calli (va_runV (As := [.int 0]) (rest := []) ⟨hx, hb, hml, hown, hts⟩ (e_dueWith l D cA sa w0 ed nb ol v0 v1 v2 v3 v4 v9 v13 v27 v28 v29 v30 v31 v32 v33 v34 v35 v36 v37 g8 g11 g12 g14 g15 g16 g17 g18 g19 g20 g21 g22 g23 g24 g26 g5 g6 g25 cn pq en dy fs ra 0 s.heap.size hAb hcn hpq hen hdy hri (by omega)) (cwV 1 hts gX10_payDue_X10_dueWith rfl rfl rfl (by decide +kernel) ⟨(Nat.le_of_ble_eq_true rfl), (Nat.le_of_ble_eq_true rfl)⟩) ⟨Wd.blind, va_recv hK hPc (ci := 11) (q0 := 0) rfl rfl, fun U hU hW => ⟨rfl, Wd.call hPc hDc hK hC hZ hS hFc U hU hW⟩⟩ rfl rfl hl.1 rfl (lv_room (Nat.le_of_ble_eq_true rfl)) dX10_payDue_4 ⟨(Nat.le_of_ble_eq_true rfl), (Nat.le_of_ble_eq_true rfl)⟩) hS (fun q _ h => hFc q h) hFc (fun rn1 u t H1 locs ht hvm hw hB hz1 hk1 hS => ?_)
  obtain ⟨hP1, hD1⟩ := hB
  rw [ht] at hP1
  obtain ⟨hP, hD⟩ := PDq.join (w := [(v36, .inl (cA 0, 10, .inl fo)), (oX10 w0 v0 v1 v2 v3 v4 g5 g6 (nI ed) g8 v9 (nI nb) g11 g12 v13 g14 g15 g16 g17 g18 g19 g20 g21 g22 g23 g24 g25 g26 v27 v28 v29 v30 v31 v32 v33 v34 v35 v36 v37 (nI ol)), (v0, .inl (cA 0, 326, .inl fs))]) 1 hP hD [0, 1] [2] rfl rfl (by decide) (by decide) hk1 hFc hP1 hD1 rfl
  generalize H1 = H at hP hS ⊢
  rcases hw with ⟨hr9, hn3⟩ | ⟨kn2, hn3, hr9, hn4, hn5⟩
  · skip
    subst hr9
    refine lv_istore_n (lv' := [(2, .int (-1)), (1, .int 0), (0, .ref w0)]) hx hb dX10_payDue_7 rfl hl (by decide) rfl (fun ls hl => ?_)
    refine lv_iload_n hx hb dX10_payDue_8 rfl (lv_at hl 0 rfl) ?_
    refine lv_iconst (v := (-1)) hx hb dX10_payDue_9 (by decide) ?_
    refine lv_icmp_eq (tgt := 32) hx hb dX10_payDue_10 (by decide) (fun c6 => ?_) (fun c9 => absurd c9 (by decide))
    refine lv_iconst (v := 0) hx hb dX10_payDue_32 (by decide) ?_
    refine lv_istore_n (lv' := [(2, .int 0), (1, .int 0), (0, .ref w0)]) hx hb dX10_payDue_33 rfl hl (by decide) rfl (fun ls hl => ?_)
    have loop1 : ∀ (n1 i1 : Nat) (ei : Nat) (f2_1 : Nat → Int32) (H : Heap) (locs : List Loc) (ls : Array Slot), i1 + n1 = 0 → ei ≤ 60 → RI cn pq ei dy f2_1 → Ab (pays cn (oqN fo) ra i1) f2_1 → va_P D vwCl [(v36, .inl (cA 0, 10, .inl fo)), (oX10 w0 v0 v1 v2 v3 v4 g5 g6 (nI ed) g8 v9 (nI nb) g11 g12 v13 g14 g15 g16 g17 g18 g19 g20 g21 g22 g23 g24 g25 g26 v27 v28 v29 v30 v31 v32 v33 v34 v35 v36 v37 (nI ol)), (v0, .inl (cA 0, 326, .inl f2_1))] H → va_D A [(v36, .inl (cA 0, 10, .inl fo)), (oX10 w0 v0 v1 v2 v3 v4 g5 g6 (nI ed) g8 v9 (nI nb) g11 g12 v13 g14 g15 g16 g17 g18 g19 g20 g21 g22 g23 g24 g25 g26 v27 v28 v29 v30 v31 v32 v33 v34 v35 v36 v37 (nI ol)), (v0, .inl (cA 0, 326, .inl f2_1))] → va_S A s.heap H locs → lv_has ls 5 [(2, .int (nI i1)), (1, .int 0), (0, .ref w0)] → W p l e (headSpec wsX10_payDue ({ frames := 4, cells := 0, slots := 0, locals := 85 } : Room)).room s m ([.ref w0] : List Value).toArray below meth c H locs 0 0 (MQ below (va_Qv (fun _ : Unit => True) (fun (_ : Unit) t => ∃ e2 : Nat, ∃ zs : Nat → Int32, ∃ zo : Nat → Int32, e2 ≤ 60 ∧ RI cn pq e2 dy zs ∧ Rng 10 10 zo ∧ PdR ra cn zs ∧ Wq D A [(oX10 w0 v0 v1 v2 v3 v4 g5 g6 (nI ed) g8 v9 (nI nb) g11 g12 v13 g14 g15 g16 g17 g18 g19 g20 g21 g22 g23 g24 g25 g26 v27 v28 v29 v30 v31 v32 v33 v34 v35 v36 v37 (nI ol)), (v0, .inl (cA 0, 326, .inl zs)), (v36, .inl (cA 0, 10, .inl zo))] t) A) ([.ref w0] : List Value).toArray s 0 0 A) (F0 m 34 ls []) := by
      intro n1
      induction n1 with
      | zero =>
        intro i1 ei f2_1 H locs ls hi1 hv0_1 hv1_1 hv2_1 hP hD hS hl
        obtain rfl : 0 = i1 := by omega
        refine lv_iload_n hx hb dX10_payDue_34 rfl (lv_at hl 0 rfl) ?_
        refine lv_iload_n hx hb dX10_payDue_35 rfl (lv_at hl 1 rfl) ?_
        refine lv_icmp_ge (tgt := 92) hx hb dX10_payDue_36 (by decide) (fun c7 => ?_) (fun c9 => absurd (nI_le (a := 0) (b := 0) (show 0 ≤ 0 by omega) (by omega)) c9)
        obtain ⟨hP9, hD9⟩ := PDq.sub (ws' := [(oX10 w0 v0 v1 v2 v3 v4 g5 g6 (nI ed) g8 v9 (nI nb) g11 g12 v13 g14 g15 g16 g17 g18 g19 g20 g21 g22 g23 g24 g25 g26 v27 v28 v29 v30 v31 v32 v33 v34 v35 v36 v37 (nI ol)), (v0, .inl (cA 0, 326, .inl f2_1)), (v36, .inl (cA 0, 10, .inl fo))]) hP hD [1, 2, 0] (by decide) rfl
        refine W.widen (k := 0) (n := 0) (Nat.le_of_ble_eq_true rfl) (Nat.le_of_ble_eq_true rfl) ?_
        exact (W.vret hx hb hr (fun t ht hW => ⟨⟨(), rfl, trivial, ei, f2_1, fo, hv0_1, hv1_1, hord, ⟨0, oqN fo, Orq.ord (Orq.zero ra cn fo) hn3 hcn, hv2_1⟩, by rw [ht]; exact hP9, hD9⟩, hS.F ht⟩) hS.2.2 dX10_payDue_92)
      | succ n1 ih1 =>
        intro i1 ei f2_1 H locs ls hi1 hv0_1 hv1_1 hv2_1 hP hD hS hl
        refine lv_iload_n hx hb dX10_payDue_34 rfl (lv_at hl 0 rfl) ?_
        refine lv_iload_n hx hb dX10_payDue_35 rfl (lv_at hl 1 rfl) ?_
        refine lv_icmp_ge (tgt := 92) hx hb dX10_payDue_36 (by decide) (fun c9 => absurd c9 (nI_ge (a := i1) (b := 0) (show i1 < 0 by omega) (by omega))) (fun c8 => ?_)
        refine lv_aload_n hx hb dX10_payDue_39 rfl (lv_at hl 2 rfl) ?_
        refine va_get (D := D) (ci := 11) (v := .ref v36) (C := RX10) (T := TX10) (N := 39) hx hb hts inX10 hown hK hP 1 rfl rfl 36 (by decide) (hts (.fieldLink RX10 64 "EscrowDeskModel" "order" "[I") (by decide +kernel)) (fun _ h9 => h9) rfl dX10_payDue_40 ?_
        refine lv_iload_n hx hb dX10_payDue_43 rfl (lv_at hl 0 rfl) ?_
        obtain ⟨kn9, hn10, hn11⟩ := Orq.get (Orq.zero ra cn fo) (show i1 < 0 by omega)
        refine va_iald hx hb hK hP 0 0 rfl rfl (vp_in_nI (n := i1) (N := 10) (show i1 < 10 by omega) (by decide)) dX10_payDue_44 ?_
        refine lv_topi (fun yn14 eyn14 => ?_)
        obtain rfl : yn14 = (nI kn9) := eyn14.trans (by rw [nI_clamp (by omega)]; exact hn11)
        refine lv_istore_n (lv' := [(3, .int (nI kn9)), (2, .int (nI i1)), (1, .int 0), (0, .ref w0)]) hx hb dX10_payDue_45 rfl hl (by decide) rfl (fun ls hl => ?_)
        refine lv_aload_n hx hb dX10_payDue_46 rfl (lv_at hl 3 rfl) ?_
        refine lv_iload_n hx hb dX10_payDue_47 rfl (lv_at hl 0 rfl) ?_
        obtain ⟨hPc, hDc, hFc⟩ := PDq.cut (wc := [(oX10 w0 v0 v1 v2 v3 v4 g5 g6 (nI ed) g8 v9 (nI nb) g11 g12 v13 g14 g15 g16 g17 g18 g19 g20 g21 g22 g23 g24 g25 g26 v27 v28 v29 v30 v31 v32 v33 v34 v35 v36 v37 (nI ol)), (v0, .inl (cA 0, 326, .inl f2_1))]) hP hD hS hA [1, 2] (by decide) rfl
        refine va_calli (va_runV (As := [.int (nI kn9)]) (rest := []) ⟨hx, hb, hml, hown, hts⟩ (e_remainingOf l D cA sa w0 ed nb ol v0 v1 v2 v3 v4 v9 v13 v27 v28 v29 v30 v31 v32 v33 v34 v35 v36 v37 g8 g11 g12 g14 g15 g16 g17 g18 g19 g20 g21 g22 g23 g24 g26 g5 g6 g25 (pays cn (oqN fo) ra i1) f2_1 kn9 H.size hv2_1 (by omega)) (cwV 1 hts gX10_payDue_X10_remainingOf rfl rfl rfl (by decide +kernel) ⟨(Nat.le_of_ble_eq_true rfl), (Nat.le_of_ble_eq_true rfl)⟩) ⟨Wd.blind, va_recv hK hPc (ci := 11) (q0 := 0) rfl rfl, fun U hU hW => ⟨rfl, Wd.call hPc hDc hK hC hZ hS hFc U hU hW⟩⟩ rfl rfl hl.1 rfl (lv_room (Nat.le_of_ble_eq_true rfl)) dX10_payDue_48 ⟨(Nat.le_of_ble_eq_true rfl), (Nat.le_of_ble_eq_true rfl)⟩) hS (fun q _ h => hFc q h) hFc (fun rn15 u t H1 locs ht hvm hw hB hz1 hk1 hS => ?_)
        obtain ⟨hP1, hD1⟩ := hB
        rw [ht] at hP1
        obtain ⟨hP, hD⟩ := PDq.join (w := [(v36, .inl (cA 0, 10, .inl fo)), (oX10 w0 v0 v1 v2 v3 v4 g5 g6 (nI ed) g8 v9 (nI nb) g11 g12 v13 g14 g15 g16 g17 g18 g19 g20 g21 g22 g23 g24 g25 g26 v27 v28 v29 v30 v31 v32 v33 v34 v35 v36 v37 (nI ol)), (v0, .inl (cA 0, 326, .inl f2_1))]) 1 hP hD [1, 2] [0] rfl rfl (by decide) (by decide) hk1 hFc hP1 hD1 rfl
        generalize H1 = H at hP hS ⊢
        obtain rfl : rn15 = (remR (pays cn (oqN fo) ra i1) kn9) := hw
        refine lv_aload_n hx hb dX10_payDue_51 rfl (lv_at hl 3 rfl) ?_
        obtain ⟨hPc, hDc, hFc⟩ := PDq.cut (wc := [(oX10 w0 v0 v1 v2 v3 v4 g5 g6 (nI ed) g8 v9 (nI nb) g11 g12 v13 g14 g15 g16 g17 g18 g19 g20 g21 g22 g23 g24 g25 g26 v27 v28 v29 v30 v31 v32 v33 v34 v35 v36 v37 (nI ol)), (v0, .inl (cA 0, 326, .inl f2_1))]) hP hD hS hA [1, 2] (by decide) rfl
        refine va_calli (va_runV (As := []) (rest := [.int (remR (pays cn (oqN fo) ra i1) kn9)]) ⟨hx, hb, hml, hown, hts⟩ (e_availableNow l D cA sa w0 ed nb ol v0 v1 v2 v3 v4 v9 v13 v27 v28 v29 v30 v31 v32 v33 v34 v35 v36 v37 g8 g11 g12 g14 g15 g16 g17 g18 g19 g20 g21 g22 g23 g24 g26 g5 g6 g25 cn pq ei dy f2_1 (pays cn (oqN fo) ra i1) H.size hv2_1 hcn hpq hv0_1 hdy hv1_1) (cwV 0 hts gX10_payDue_X10_availableNow rfl rfl rfl (by decide +kernel) ⟨(Nat.le_of_ble_eq_true rfl), (Nat.le_of_ble_eq_true rfl)⟩) ⟨Wd.blind, va_recv hK hPc (ci := 11) (q0 := 0) rfl rfl, fun U hU hW => ⟨rfl, Wd.call hPc hDc hK hC hZ hS hFc U hU hW⟩⟩ rfl rfl hl.1 rfl (lv_room (Nat.le_of_ble_eq_true rfl)) dX10_payDue_52 ⟨(Nat.le_of_ble_eq_true rfl), (Nat.le_of_ble_eq_true rfl)⟩) hS (fun q _ h => hFc q h) hFc (fun rn16 u t H1 locs ht hvm hw hB hz1 hk1 hS => ?_)
        obtain ⟨hP1, hD1⟩ := hB
        rw [ht] at hP1
        obtain ⟨hP, hD⟩ := PDq.join (w := [(v36, .inl (cA 0, 10, .inl fo)), (oX10 w0 v0 v1 v2 v3 v4 g5 g6 (nI ed) g8 v9 (nI nb) g11 g12 v13 g14 g15 g16 g17 g18 g19 g20 g21 g22 g23 g24 g25 g26 v27 v28 v29 v30 v31 v32 v33 v34 v35 v36 v37 (nI ol)), (v0, .inl (cA 0, 326, .inl f2_1))]) 1 hP hD [1, 2] [0] rfl rfl (by decide) (by decide) hk1 hFc hP1 hD1 rfl
        generalize H1 = H at hP hS ⊢
        obtain rfl : rn16 = (avR (pays cn (oqN fo) ra i1) cn) := hw
        refine va_mmin hx hb (by rw [hml]; exact hl.1.symm) hown (hts (.methodLink RX10 301 Lib.Math.min.name) (by decide +kernel)) (hts (.static Lib.Math.min.name) (by decide +kernel)) (hts (.initialized "java/lang/Math") (by decide +kernel)) (hts (.code Lib.Math.min.name Lib.Math.min.code 2 (some .int)) (by decide +kernel)) (Nat.le_of_ble_eq_true rfl) (Nat.le_of_ble_eq_true rfl) (Nat.le_of_ble_eq_true rfl) (Nat.le_of_ble_eq_true rfl) dX10_payDue_55 ?_
        refine lv_topi (fun yn17 eyn17 => ?_)
        obtain rfl : yn17 = (minI (remR (pays cn (oqN fo) ra i1) kn9) (avR (pays cn (oqN fo) ra i1) cn)) := eyn17
        refine lv_istore (lv' := [(4, .int (minI (remR (pays cn (oqN fo) ra i1) kn9) (avR (pays cn (oqN fo) ra i1) cn))), (3, .int (nI kn9)), (2, .int (nI i1)), (1, .int 0), (0, .ref w0)]) hx hb dX10_payDue_58 hl (by decide) rfl (fun ls hl => ?_)
        refine lv_aload_n hx hb dX10_payDue_60 rfl (lv_at hl 4 rfl) ?_
        refine lv_iload_n hx hb dX10_payDue_61 rfl (lv_at hl 1 rfl) ?_
        obtain ⟨hPc, hDc, hFc⟩ := PDq.cut (wc := [(oX10 w0 v0 v1 v2 v3 v4 g5 g6 (nI ed) g8 v9 (nI nb) g11 g12 v13 g14 g15 g16 g17 g18 g19 g20 g21 g22 g23 g24 g25 g26 v27 v28 v29 v30 v31 v32 v33 v34 v35 v36 v37 (nI ol)), (v0, .inl (cA 0, 326, .inl f2_1))]) hP hD hS hA [1, 2] (by decide) rfl
        refine va_calli (va_runV (As := [.int (nI kn9)]) (rest := []) ⟨hx, hb, hml, hown, hts⟩ (e_isRipe l D cA sa w0 ed nb ol v0 v1 v2 v3 v4 v9 v13 v27 v28 v29 v30 v31 v32 v33 v34 v35 v36 v37 g8 g11 g12 g14 g15 g16 g17 g18 g19 g20 g21 g22 g23 g24 g26 g5 g6 g25 cn pq ei dy f2_1 (pays cn (oqN fo) ra i1) kn9 H.size hv2_1 hcn hpq hv0_1 hdy hv1_1 (by omega)) (cwV 1 hts gX10_payDue_X10_isRipe rfl rfl rfl (by decide +kernel) ⟨(Nat.le_of_ble_eq_true rfl), (Nat.le_of_ble_eq_true rfl)⟩) ⟨Wd.blind, va_recv hK hPc (ci := 11) (q0 := 0) rfl rfl, fun U hU hW => ⟨rfl, Wd.call hPc hDc hK hC hZ hS hFc U hU hW⟩⟩ rfl rfl hl.1 rfl (lv_room (Nat.le_of_ble_eq_true rfl)) dX10_payDue_62 ⟨(Nat.le_of_ble_eq_true rfl), (Nat.le_of_ble_eq_true rfl)⟩) hS (fun q _ h => hFc q h) hFc (fun rn18 u t H1 locs ht hvm hw hB hz1 hk1 hS => ?_)
        obtain ⟨hP1, hD1⟩ := hB
        rw [ht] at hP1
        obtain ⟨hP, hD⟩ := PDq.join (w := [(v36, .inl (cA 0, 10, .inl fo)), (oX10 w0 v0 v1 v2 v3 v4 g5 g6 (nI ed) g8 v9 (nI nb) g11 g12 v13 g14 g15 g16 g17 g18 g19 g20 g21 g22 g23 g24 g25 g26 v27 v28 v29 v30 v31 v32 v33 v34 v35 v36 v37 (nI ol)), (v0, .inl (cA 0, 326, .inl f2_1))]) 1 hP hD [1, 2] [0] rfl rfl (by decide) (by decide) hk1 hFc hP1 hD1 rfl
        generalize H1 = H at hP hS ⊢
        rcases hw with ⟨hr9, hn19⟩ | ⟨hr9, hn19⟩
        · skip
          subst hr9
          refine lv_if_eq (tgt := 86) hx hb dX10_payDue_65 (by decide) (fun c9 => absurd c9 (by decide)) (fun c20 => ?_)
          refine lv_iload hx hb dX10_payDue_68 (lv_at hl 0 rfl) ?_
          refine lv_if_le (tgt := 86) hx hb dX10_payDue_70 (by decide) (fun c21 => ?_) (fun c21 => ?_)
          · skip
            refine lv_iinc (v := (nI (i1 + 1))) (lv' := [(2, .int (nI (i1 + 1))), (4, .int (minI (remR (pays cn (oqN fo) ra i1) kn9) (avR (pays cn (oqN fo) ra i1) cn))), (3, .int (nI kn9)), (1, .int 0), (0, .ref w0)]) hx hb dX10_payDue_86 hl (k := 2) rfl (nI_1 _) (by decide) rfl (fun ls hl => ?_)
            refine lv_goto (tgt := 34) hx hb dX10_payDue_89 (by decide) ?_
            obtain ⟨hP9, hD9⟩ := PDq.sub (ws' := [(v36, .inl (cA 0, 10, .inl fo)), (oX10 w0 v0 v1 v2 v3 v4 g5 g6 (nI ed) g8 v9 (nI nb) g11 g12 v13 g14 g15 g16 g17 g18 g19 g20 g21 g22 g23 g24 g25 g26 v27 v28 v29 v30 v31 v32 v33 v34 v35 v36 v37 (nI ol)), (v0, .inl (cA 0, 326, .inl f2_1))]) hP hD [0, 1, 2] (by decide) rfl
            exact ih1 (i1 + 1) ei f2_1 H _ ls (by omega) hv0_1 hv1_1 (pays_n (oqN_e hn11 (by omega)) (fun q9 => absurd c21 (Int32.not_le.mpr q9.2)) hv2_1) hP9 hD9 hS (lv_sub hl [0, 3, 4] rfl)
          · skip
            refine lv_aload_n hx hb dX10_payDue_73 rfl (lv_at hl 4 rfl) ?_
            refine lv_iload_n hx hb dX10_payDue_74 rfl (lv_at hl 1 rfl) ?_
            refine lv_iload hx hb dX10_payDue_75 (lv_at hl 0 rfl) ?_
            obtain ⟨hPc, hDc, hFc⟩ := PDq.cut (wc := [(oX10 w0 v0 v1 v2 v3 v4 g5 g6 (nI ed) g8 v9 (nI nb) g11 g12 v13 g14 g15 g16 g17 g18 g19 g20 g21 g22 g23 g24 g25 g26 v27 v28 v29 v30 v31 v32 v33 v34 v35 v36 v37 (nI ol)), (v0, .inl (cA 0, 326, .inl f2_1))]) hP hD hS hA [1, 2] (by decide) rfl
            refine va_calli (va_runV (As := [.int (nI kn9), .int (minI (remR (pays cn (oqN fo) ra i1) kn9) (avR (pays cn (oqN fo) ra i1) cn))]) (rest := []) ⟨hx, hb, hml, hown, hts⟩ (e_makePayment l D cA sa w0 ed nb ol v0 v1 v2 v3 v4 v9 v13 v27 v28 v29 v30 v31 v32 v33 v34 v35 v36 v37 g8 g11 g12 g14 g15 g16 g17 g18 g19 g20 g21 g22 g23 g24 g26 g5 g6 g25 cn pq ei dy f2_1 (pays cn (oqN fo) ra i1) kn9 (minI (remR (pays cn (oqN fo) ra i1) kn9) (avR (pays cn (oqN fo) ra i1) cn)) H.size hv2_1 hcn hpq hv0_1 hdy hv1_1 (by omega)) (cwV 2 hts gX10_payDue_X10_makePayment rfl rfl rfl (by decide +kernel) ⟨(Nat.le_of_ble_eq_true rfl), (Nat.le_of_ble_eq_true rfl)⟩) ⟨Wd.blind, va_recv hK hPc (ci := 11) (q0 := 0) rfl rfl, fun U hU hW => ⟨rfl, Wd.call hPc hDc hK hC hZ hS hFc U hU hW⟩⟩ rfl rfl hl.1 rfl (lv_room (Nat.le_of_ble_eq_true rfl)) dX10_payDue_77 ⟨(Nat.le_of_ble_eq_true rfl), (Nat.le_of_ble_eq_true rfl)⟩) hS (fun q _ h => hFc q h) hFc (fun rn22 u t H1 locs ht hvm hw hB hz1 hk1 hS => ?_)
            obtain ⟨qn23, fn24, hn25, hn26, hn27, hn28, hP1, hD1⟩ := hB
            rw [ht] at hP1
            obtain ⟨hP, hD⟩ := PDq.join (w := [(v36, .inl (cA 0, 10, .inl fo)), (oX10 w0 v0 v1 v2 v3 v4 g5 g6 (nI ed) g8 v9 (nI nb) g11 g12 v13 g14 g15 g16 g17 g18 g19 g20 g21 g22 g23 g24 g25 g26 v27 v28 v29 v30 v31 v32 v33 v34 v35 v36 v37 (nI ol)), (v0, .inl (cA 0, 326, .inl fn24))]) 1 hP hD [1, 2] [0] rfl rfl (by decide) (by decide) hk1 hFc hP1 hD1 rfl
            generalize H1 = H at hP hS ⊢
            refine lv_pop hx hb dX10_payDue_80 rfl ?_
            refine lv_aload_n hx hb dX10_payDue_81 rfl (lv_at hl 4 rfl) ?_
            refine lv_iload_n hx hb dX10_payDue_82 rfl (lv_at hl 1 rfl) ?_
            obtain ⟨hPc, hDc, hFc⟩ := PDq.cut (wc := [(oX10 w0 v0 v1 v2 v3 v4 g5 g6 (nI ed) g8 v9 (nI nb) g11 g12 v13 g14 g15 g16 g17 g18 g19 g20 g21 g22 g23 g24 g25 g26 v27 v28 v29 v30 v31 v32 v33 v34 v35 v36 v37 (nI ol)), (v0, .inl (cA 0, 326, .inl fn24))]) hP hD hS hA [1, 2] (by decide) rfl
            refine va_callv (va_runV (As := [.int (nI kn9)]) (rest := []) ⟨hx, hb, hml, hown, hts⟩ (e_closeIfPaid l D cA sa w0 ed nb ol v0 v1 v2 v3 v4 v9 v13 v27 v28 v29 v30 v31 v32 v33 v34 v35 v36 v37 g8 g11 g12 g14 g15 g16 g17 g18 g19 g20 g21 g22 g23 g24 g26 g5 g6 g25 cn pq qn23 dy fn24 (mkP kn9 (minI (remR (pays cn (oqN fo) ra i1) kn9) (avR (pays cn (oqN fo) ra i1) cn)) (pays cn (oqN fo) ra i1)) kn9 H.size hn27 hcn hpq hn25 hdy hn26 (by omega)) (cwV 1 hts gX10_payDue_X10_closeIfPaid rfl rfl rfl (by decide +kernel) ⟨(Nat.le_of_ble_eq_true rfl), (Nat.le_of_ble_eq_true rfl)⟩) ⟨Wd.blind, va_recv hK hPc (ci := 11) (q0 := 0) rfl rfl, fun U hU hW => ⟨rfl, Wd.call hPc hDc hK hC hZ hS hFc U hU hW⟩⟩ rfl rfl hl.1 rfl (lv_room (Nat.le_of_ble_eq_true rfl)) dX10_payDue_83 ⟨(Nat.le_of_ble_eq_true rfl), (Nat.le_of_ble_eq_true rfl)⟩) hS (fun q _ h => hFc q h) hFc (fun u t H1 locs ht hvm hw hB hz1 hk1 hS => ?_)
            obtain ⟨fn29, hn30, hn31, hP1, hD1⟩ := hB
            rw [ht] at hP1
            obtain ⟨hP, hD⟩ := PDq.join (w := [(v36, .inl (cA 0, 10, .inl fo)), (oX10 w0 v0 v1 v2 v3 v4 g5 g6 (nI ed) g8 v9 (nI nb) g11 g12 v13 g14 g15 g16 g17 g18 g19 g20 g21 g22 g23 g24 g25 g26 v27 v28 v29 v30 v31 v32 v33 v34 v35 v36 v37 (nI ol)), (v0, .inl (cA 0, 326, .inl fn29))]) 1 hP hD [1, 2] [0] rfl rfl (by decide) (by decide) hk1 hFc hP1 hD1 rfl
            generalize H1 = H at hP hS ⊢
            refine lv_iinc (v := (nI (i1 + 1))) (lv' := [(2, .int (nI (i1 + 1))), (4, .int (minI (remR (pays cn (oqN fo) ra i1) kn9) (avR (pays cn (oqN fo) ra i1) cn))), (3, .int (nI kn9)), (1, .int 0), (0, .ref w0)]) hx hb dX10_payDue_86 hl (k := 2) rfl (nI_1 _) (by decide) rfl (fun ls hl => ?_)
            refine lv_goto (tgt := 34) hx hb dX10_payDue_89 (by decide) ?_
            obtain ⟨hP9, hD9⟩ := PDq.sub (ws' := [(v36, .inl (cA 0, 10, .inl fo)), (oX10 w0 v0 v1 v2 v3 v4 g5 g6 (nI ed) g8 v9 (nI nb) g11 g12 v13 g14 g15 g16 g17 g18 g19 g20 g21 g22 g23 g24 g25 g26 v27 v28 v29 v30 v31 v32 v33 v34 v35 v36 v37 (nI ol)), (v0, .inl (cA 0, 326, .inl fn29))]) hP hD [0, 1, 2] (by decide) rfl
            exact ih1 (i1 + 1) qn23 fn29 H _ ls (by omega) hn25 hn30 (pays_y (oqN_e hn11 (by omega)) hn19 (Int32.not_le.mp c21) hn31) hP9 hD9 hS (lv_sub hl [0, 3, 4] rfl)
        · skip
          subst hr9
          refine lv_if_eq (tgt := 86) hx hb dX10_payDue_65 (by decide) (fun c32 => ?_) (fun c9 => absurd c9 (by decide))
          refine lv_iinc (v := (nI (i1 + 1))) (lv' := [(2, .int (nI (i1 + 1))), (4, .int (minI (remR (pays cn (oqN fo) ra i1) kn9) (avR (pays cn (oqN fo) ra i1) cn))), (3, .int (nI kn9)), (1, .int 0), (0, .ref w0)]) hx hb dX10_payDue_86 hl (k := 2) rfl (nI_1 _) (by decide) rfl (fun ls hl => ?_)
          refine lv_goto (tgt := 34) hx hb dX10_payDue_89 (by decide) ?_
          obtain ⟨hP9, hD9⟩ := PDq.sub (ws' := [(v36, .inl (cA 0, 10, .inl fo)), (oX10 w0 v0 v1 v2 v3 v4 g5 g6 (nI ed) g8 v9 (nI nb) g11 g12 v13 g14 g15 g16 g17 g18 g19 g20 g21 g22 g23 g24 g25 g26 v27 v28 v29 v30 v31 v32 v33 v34 v35 v36 v37 (nI ol)), (v0, .inl (cA 0, 326, .inl f2_1))]) hP hD [0, 1, 2] (by decide) rfl
          exact ih1 (i1 + 1) ei f2_1 H _ ls (by omega) hv0_1 hv1_1 (pays_n (oqN_e hn11 (by omega)) (fun q9 => hn19 q9.1) hv2_1) hP9 hD9 hS (lv_sub hl [0, 3, 4] rfl)
    obtain ⟨hP9, hD9⟩ := PDq.sub (ws' := [(v36, .inl (cA 0, 10, .inl fo)), (oX10 w0 v0 v1 v2 v3 v4 g5 g6 (nI ed) g8 v9 (nI nb) g11 g12 v13 g14 g15 g16 g17 g18 g19 g20 g21 g22 g23 g24 g25 g26 v27 v28 v29 v30 v31 v32 v33 v34 v35 v36 v37 (nI ol)), (v0, .inl (cA 0, 326, .inl fs))]) hP hD [0, 1, 2] (by decide) rfl
    exact loop1 (0 - 0) 0 en fs _ _ ls (by omega) hen hri hAb hP9 hD9 hS (lv_sub hl [0, 1, 2] rfl)
  · skip
    subst hr9
    have hn33 := DbrP.lt hn3 hn5
    refine lv_istore_n (lv' := [(2, .int (nI kn2)), (1, .int 0), (0, .ref w0)]) hx hb dX10_payDue_7 rfl hl (by decide) rfl (fun ls hl => ?_)
    have loop2 : ∀ (n2 i2 : Nat) (km : Nat) (f0_2 : Nat → Int32) (H : Heap) (locs : List Loc) (ls : Array Slot), i2 + n2 = cn → Rng 10 10 f0_2 → Rde f0_2 → km < cn → i2 < cn → DueP ra km → DbrP ra km cn i2 → Orq ra cn i2 f0_2 → va_P D vwCl [(v36, .inl (cA 0, 10, .inl f0_2)), (oX10 w0 v0 v1 v2 v3 v4 g5 g6 (nI ed) g8 v9 (nI nb) g11 g12 v13 g14 g15 g16 g17 g18 g19 g20 g21 g22 g23 g24 g25 g26 v27 v28 v29 v30 v31 v32 v33 v34 v35 v36 v37 (nI ol)), (v0, .inl (cA 0, 326, .inl fs))] H → va_D A [(v36, .inl (cA 0, 10, .inl f0_2)), (oX10 w0 v0 v1 v2 v3 v4 g5 g6 (nI ed) g8 v9 (nI nb) g11 g12 v13 g14 g15 g16 g17 g18 g19 g20 g21 g22 g23 g24 g25 g26 v27 v28 v29 v30 v31 v32 v33 v34 v35 v36 v37 (nI ol)), (v0, .inl (cA 0, 326, .inl fs))] → va_S A s.heap H locs → lv_has ls 5 [(2, .int (nI km)), (1, .int (nI i2)), (0, .ref w0)] → W p l e (headSpec wsX10_payDue ({ frames := 4, cells := 0, slots := 0, locals := 85 } : Room)).room s m ([.ref w0] : List Value).toArray below meth c H locs 0 0 (MQ below (va_Qv (fun _ : Unit => True) (fun (_ : Unit) t => ∃ e2 : Nat, ∃ zs : Nat → Int32, ∃ zo : Nat → Int32, e2 ≤ 60 ∧ RI cn pq e2 dy zs ∧ Rng 10 10 zo ∧ PdR ra cn zs ∧ Wq D A [(oX10 w0 v0 v1 v2 v3 v4 g5 g6 (nI ed) g8 v9 (nI nb) g11 g12 v13 g14 g15 g16 g17 g18 g19 g20 g21 g22 g23 g24 g25 g26 v27 v28 v29 v30 v31 v32 v33 v34 v35 v36 v37 (nI ol)), (v0, .inl (cA 0, 326, .inl zs)), (v36, .inl (cA 0, 10, .inl zo))] t) A) ([.ref w0] : List Value).toArray s 0 0 A) (F0 m 8 ls []) := by
      intro n2
      induction n2 with
      | zero =>
        intro i2 km f0_2 H locs ls hi2 hf0_2 hf1_2 hv0_2 hv1_2 hv2_2 hv3_2 hv4_2 hP hD hS hl
        obtain rfl : cn = i2 := by omega
        exact absurd hv1_2 (by omega)
      | succ n2 ih2 =>
        intro i2 km f0_2 H locs ls hi2 hf0_2 hf1_2 hv0_2 hv1_2 hv2_2 hv3_2 hv4_2 hP hD hS hl
        refine lv_iload_n hx hb dX10_payDue_8 rfl (lv_at hl 0 rfl) ?_
        refine lv_iconst (v := (-1)) hx hb dX10_payDue_9 (by decide) ?_
        refine lv_icmp_eq (tgt := 32) hx hb dX10_payDue_10 (by decide) (fun c9 => absurd c9 (nI_neg (n := km) (by omega) (by decide))) (fun c34 => ?_)
        refine lv_aload_n hx hb dX10_payDue_13 rfl (lv_at hl 2 rfl) ?_
        refine va_get (D := D) (ci := 11) (v := .ref v36) (C := RX10) (T := TX10) (N := 39) hx hb hts inX10 hown hK hP 1 rfl rfl 36 (by decide) (hts (.fieldLink RX10 64 "EscrowDeskModel" "order" "[I") (by decide +kernel)) (fun _ h9 => h9) rfl dX10_payDue_14 ?_
        refine lv_iload_n hx hb dX10_payDue_17 rfl (lv_at hl 1 rfl) ?_
        refine lv_iload_n hx hb dX10_payDue_18 rfl (lv_at hl 0 rfl) ?_
        refine va_iast hx hb hK hP hD hS 0 0 rfl rfl (vp_in_nI (n := i2) (N := 10) (show i2 < 10 by omega) (by decide)) dX10_payDue_19 (fun H locs hP hD hS => ?_)
        obtain ⟨hP, hD⟩ : PDq D A [(v36, .inl (cA 0, 10, .inl (upd f0_2 (((nI i2)).toNatClampNeg) (nI km)))), (oX10 w0 v0 v1 v2 v3 v4 g5 g6 (nI ed) g8 v9 (nI nb) g11 g12 v13 g14 g15 g16 g17 g18 g19 g20 g21 g22 g23 g24 g25 g26 v27 v28 v29 v30 v31 v32 v33 v34 v35 v36 v37 (nI ol)), (v0, .inl (cA 0, 326, .inl fs))] H := ⟨hP, hD⟩
        have hn36 : Rng 10 10 (upd f0_2 (((nI i2)).toNatClampNeg) (nI km)) := Rng.put hf0_2 _ km (by omega)
        have hn37 : Upp i2 (nI km) f0_2 (upd f0_2 (((nI i2)).toNatClampNeg) (nI km)) := Upp.of (by omega)
        have hn38 : Rde (upd f0_2 (((nI i2)).toNatClampNeg) (nI km)) := rfl
        generalize (upd f0_2 (((nI i2)).toNatClampNeg) (nI km)) = fn35 at hP hD hn36 hn37 hn38
        obtain ⟨hP, hD⟩ : PDq D A [(v36, .inl (cA 0, 10, .inl fn35)), (oX10 w0 v0 v1 v2 v3 v4 g5 g6 (nI ed) g8 v9 (nI nb) g11 g12 v13 g14 g15 g16 g17 g18 g19 g20 g21 g22 g23 g24 g25 g26 v27 v28 v29 v30 v31 v32 v33 v34 v35 v36 v37 (nI ol)), (v0, .inl (cA 0, 326, .inl fs))] H := ⟨hP, hD⟩
        refine lv_iinc (v := (nI (i2 + 1))) (lv' := [(1, .int (nI (i2 + 1))), (2, .int (nI km)), (0, .ref w0)]) hx hb dX10_payDue_20 hl (k := 1) rfl (nI_1 _) (by decide) rfl (fun ls hl => ?_)
        refine lv_aload_n hx hb dX10_payDue_23 rfl (lv_at hl 2 rfl) ?_
        refine lv_iload_n hx hb dX10_payDue_24 rfl (lv_at hl 0 rfl) ?_
        obtain ⟨hPc, hDc, hFc⟩ := PDq.cut (wc := [(oX10 w0 v0 v1 v2 v3 v4 g5 g6 (nI ed) g8 v9 (nI nb) g11 g12 v13 g14 g15 g16 g17 g18 g19 g20 g21 g22 g23 g24 g25 g26 v27 v28 v29 v30 v31 v32 v33 v34 v35 v36 v37 (nI ol)), (v0, .inl (cA 0, 326, .inl fs))]) hP hD hS hA [1, 2] (by decide) rfl
        refine va_calli (va_runV (As := [.int (nI (i2 + 1))]) (rest := []) ⟨hx, hb, hml, hown, hts⟩ (e_dueWith l D cA sa w0 ed nb ol v0 v1 v2 v3 v4 v9 v13 v27 v28 v29 v30 v31 v32 v33 v34 v35 v36 v37 g8 g11 g12 g14 g15 g16 g17 g18 g19 g20 g21 g22 g23 g24 g26 g5 g6 g25 cn pq en dy fs ra (i2 + 1) H.size hAb hcn hpq hen hdy hri (by omega)) (cwV 1 hts gX10_payDue_X10_dueWith rfl rfl rfl (by decide +kernel) ⟨(Nat.le_of_ble_eq_true rfl), (Nat.le_of_ble_eq_true rfl)⟩) ⟨Wd.blind, va_recv hK hPc (ci := 11) (q0 := 0) rfl rfl, fun U hU hW => ⟨rfl, Wd.call hPc hDc hK hC hZ hS hFc U hU hW⟩⟩ rfl rfl hl.1 rfl (lv_room (Nat.le_of_ble_eq_true rfl)) dX10_payDue_25 ⟨(Nat.le_of_ble_eq_true rfl), (Nat.le_of_ble_eq_true rfl)⟩) hS (fun q _ h => hFc q h) hFc (fun rn39 u t H1 locs ht hvm hw hB hz1 hk1 hS => ?_)
        obtain ⟨hP1, hD1⟩ := hB
        rw [ht] at hP1
        obtain ⟨hP, hD⟩ := PDq.join (w := [(v36, .inl (cA 0, 10, .inl fn35)), (oX10 w0 v0 v1 v2 v3 v4 g5 g6 (nI ed) g8 v9 (nI nb) g11 g12 v13 g14 g15 g16 g17 g18 g19 g20 g21 g22 g23 g24 g25 g26 v27 v28 v29 v30 v31 v32 v33 v34 v35 v36 v37 (nI ol)), (v0, .inl (cA 0, 326, .inl fs))]) 1 hP hD [1, 2] [0] rfl rfl (by decide) (by decide) hk1 hFc hP1 hD1 rfl
        generalize H1 = H at hP hS ⊢
        rcases hw with ⟨hr9, hn41⟩ | ⟨kn40, hn41, hr9, hn42, hn43⟩
        · skip
          subst hr9
          refine lv_istore_n (lv' := [(2, .int (-1)), (1, .int (nI (i2 + 1))), (0, .ref w0)]) hx hb dX10_payDue_28 rfl hl (by decide) rfl (fun ls hl => ?_)
          refine lv_goto (tgt := 8) hx hb dX10_payDue_29 (by decide) ?_
          refine lv_iload_n hx hb dX10_payDue_8 rfl (lv_at hl 0 rfl) ?_
          refine lv_iconst (v := (-1)) hx hb dX10_payDue_9 (by decide) ?_
          refine lv_icmp_eq (tgt := 32) hx hb dX10_payDue_10 (by decide) (fun c44 => ?_) (fun c9 => absurd c9 (by decide))
          refine lv_iconst (v := 0) hx hb dX10_payDue_32 (by decide) ?_
          refine lv_istore_n (lv' := [(2, .int 0), (1, .int (nI (i2 + 1))), (0, .ref w0)]) hx hb dX10_payDue_33 rfl hl (by decide) rfl (fun ls hl => ?_)
          have loop3 : ∀ (n3 i3 : Nat) (ei : Nat) (f2_3 : Nat → Int32) (H : Heap) (locs : List Loc) (ls : Array Slot), i3 + n3 = (i2 + 1) → ei ≤ 60 → RI cn pq ei dy f2_3 → Ab (pays cn (oqN fn35) ra i3) f2_3 → va_P D vwCl [(v36, .inl (cA 0, 10, .inl fn35)), (oX10 w0 v0 v1 v2 v3 v4 g5 g6 (nI ed) g8 v9 (nI nb) g11 g12 v13 g14 g15 g16 g17 g18 g19 g20 g21 g22 g23 g24 g25 g26 v27 v28 v29 v30 v31 v32 v33 v34 v35 v36 v37 (nI ol)), (v0, .inl (cA 0, 326, .inl f2_3))] H → va_D A [(v36, .inl (cA 0, 10, .inl fn35)), (oX10 w0 v0 v1 v2 v3 v4 g5 g6 (nI ed) g8 v9 (nI nb) g11 g12 v13 g14 g15 g16 g17 g18 g19 g20 g21 g22 g23 g24 g25 g26 v27 v28 v29 v30 v31 v32 v33 v34 v35 v36 v37 (nI ol)), (v0, .inl (cA 0, 326, .inl f2_3))] → va_S A s.heap H locs → lv_has ls 5 [(2, .int (nI i3)), (1, .int (nI (i2 + 1))), (0, .ref w0)] → W p l e (headSpec wsX10_payDue ({ frames := 4, cells := 0, slots := 0, locals := 85 } : Room)).room s m ([.ref w0] : List Value).toArray below meth c H locs 0 0 (MQ below (va_Qv (fun _ : Unit => True) (fun (_ : Unit) t => ∃ e2 : Nat, ∃ zs : Nat → Int32, ∃ zo : Nat → Int32, e2 ≤ 60 ∧ RI cn pq e2 dy zs ∧ Rng 10 10 zo ∧ PdR ra cn zs ∧ Wq D A [(oX10 w0 v0 v1 v2 v3 v4 g5 g6 (nI ed) g8 v9 (nI nb) g11 g12 v13 g14 g15 g16 g17 g18 g19 g20 g21 g22 g23 g24 g25 g26 v27 v28 v29 v30 v31 v32 v33 v34 v35 v36 v37 (nI ol)), (v0, .inl (cA 0, 326, .inl zs)), (v36, .inl (cA 0, 10, .inl zo))] t) A) ([.ref w0] : List Value).toArray s 0 0 A) (F0 m 34 ls []) := by
            intro n3
            induction n3 with
            | zero =>
              intro i3 ei f2_3 H locs ls hi3 hv0_3 hv1_3 hv2_3 hP hD hS hl
              obtain rfl : (i2 + 1) = i3 := by omega
              refine lv_iload_n hx hb dX10_payDue_34 rfl (lv_at hl 0 rfl) ?_
              refine lv_iload_n hx hb dX10_payDue_35 rfl (lv_at hl 1 rfl) ?_
              refine lv_icmp_ge (tgt := 92) hx hb dX10_payDue_36 (by decide) (fun c45 => ?_) (fun c9 => absurd (nI_le (a := (i2 + 1)) (b := (i2 + 1)) (show (i2 + 1) ≤ (i2 + 1) by omega) (by omega)) c9)
              obtain ⟨hP9, hD9⟩ := PDq.sub (ws' := [(oX10 w0 v0 v1 v2 v3 v4 g5 g6 (nI ed) g8 v9 (nI nb) g11 g12 v13 g14 g15 g16 g17 g18 g19 g20 g21 g22 g23 g24 g25 g26 v27 v28 v29 v30 v31 v32 v33 v34 v35 v36 v37 (nI ol)), (v0, .inl (cA 0, 326, .inl f2_3)), (v36, .inl (cA 0, 10, .inl fn35))]) hP hD [1, 2, 0] (by decide) rfl
              refine W.widen (k := 0) (n := 0) (Nat.le_of_ble_eq_true rfl) (Nat.le_of_ble_eq_true rfl) ?_
              exact (W.vret hx hb hr (fun t ht hW => ⟨⟨(), rfl, trivial, ei, f2_3, fn35, hv0_3, hv1_3, hn36, ⟨(i2 + 1), oqN fn35, Orq.ord (Orq.step hv4_2 hn37 (show km < cn by omega) hv2_2 hv3_2) hn41 hcn, hv2_3⟩, by rw [ht]; exact hP9, hD9⟩, hS.F ht⟩) hS.2.2 dX10_payDue_92)
            | succ n3 ih3 =>
              intro i3 ei f2_3 H locs ls hi3 hv0_3 hv1_3 hv2_3 hP hD hS hl
              refine lv_iload_n hx hb dX10_payDue_34 rfl (lv_at hl 0 rfl) ?_
              refine lv_iload_n hx hb dX10_payDue_35 rfl (lv_at hl 1 rfl) ?_
              refine lv_icmp_ge (tgt := 92) hx hb dX10_payDue_36 (by decide) (fun c9 => absurd c9 (nI_ge (a := i3) (b := (i2 + 1)) (show i3 < (i2 + 1) by omega) (by omega))) (fun c46 => ?_)
              refine lv_aload_n hx hb dX10_payDue_39 rfl (lv_at hl 2 rfl) ?_
              refine va_get (D := D) (ci := 11) (v := .ref v36) (C := RX10) (T := TX10) (N := 39) hx hb hts inX10 hown hK hP 1 rfl rfl 36 (by decide) (hts (.fieldLink RX10 64 "EscrowDeskModel" "order" "[I") (by decide +kernel)) (fun _ h9 => h9) rfl dX10_payDue_40 ?_
              refine lv_iload_n hx hb dX10_payDue_43 rfl (lv_at hl 0 rfl) ?_
              obtain ⟨kn47, hn48, hn49⟩ := Orq.get (Orq.step hv4_2 hn37 (show km < cn by omega) hv2_2 hv3_2) (show i3 < i2 + 1 by omega)
              refine va_iald hx hb hK hP 0 0 rfl rfl (vp_in_nI (n := i3) (N := 10) (show i3 < 10 by omega) (by decide)) dX10_payDue_44 ?_
              refine lv_topi (fun yn52 eyn52 => ?_)
              obtain rfl : yn52 = (nI kn47) := eyn52.trans (by rw [nI_clamp (by omega)]; exact hn49)
              refine lv_istore_n (lv' := [(3, .int (nI kn47)), (2, .int (nI i3)), (1, .int (nI (i2 + 1))), (0, .ref w0)]) hx hb dX10_payDue_45 rfl hl (by decide) rfl (fun ls hl => ?_)
              refine lv_aload_n hx hb dX10_payDue_46 rfl (lv_at hl 3 rfl) ?_
              refine lv_iload_n hx hb dX10_payDue_47 rfl (lv_at hl 0 rfl) ?_
              obtain ⟨hPc, hDc, hFc⟩ := PDq.cut (wc := [(oX10 w0 v0 v1 v2 v3 v4 g5 g6 (nI ed) g8 v9 (nI nb) g11 g12 v13 g14 g15 g16 g17 g18 g19 g20 g21 g22 g23 g24 g25 g26 v27 v28 v29 v30 v31 v32 v33 v34 v35 v36 v37 (nI ol)), (v0, .inl (cA 0, 326, .inl f2_3))]) hP hD hS hA [1, 2] (by decide) rfl
              refine va_calli (va_runV (As := [.int (nI kn47)]) (rest := []) ⟨hx, hb, hml, hown, hts⟩ (e_remainingOf l D cA sa w0 ed nb ol v0 v1 v2 v3 v4 v9 v13 v27 v28 v29 v30 v31 v32 v33 v34 v35 v36 v37 g8 g11 g12 g14 g15 g16 g17 g18 g19 g20 g21 g22 g23 g24 g26 g5 g6 g25 (pays cn (oqN fn35) ra i3) f2_3 kn47 H.size hv2_3 (by omega)) (cwV 1 hts gX10_payDue_X10_remainingOf rfl rfl rfl (by decide +kernel) ⟨(Nat.le_of_ble_eq_true rfl), (Nat.le_of_ble_eq_true rfl)⟩) ⟨Wd.blind, va_recv hK hPc (ci := 11) (q0 := 0) rfl rfl, fun U hU hW => ⟨rfl, Wd.call hPc hDc hK hC hZ hS hFc U hU hW⟩⟩ rfl rfl hl.1 rfl (lv_room (Nat.le_of_ble_eq_true rfl)) dX10_payDue_48 ⟨(Nat.le_of_ble_eq_true rfl), (Nat.le_of_ble_eq_true rfl)⟩) hS (fun q _ h => hFc q h) hFc (fun rn53 u t H1 locs ht hvm hw hB hz1 hk1 hS => ?_)
              obtain ⟨hP1, hD1⟩ := hB
              rw [ht] at hP1
              obtain ⟨hP, hD⟩ := PDq.join (w := [(v36, .inl (cA 0, 10, .inl fn35)), (oX10 w0 v0 v1 v2 v3 v4 g5 g6 (nI ed) g8 v9 (nI nb) g11 g12 v13 g14 g15 g16 g17 g18 g19 g20 g21 g22 g23 g24 g25 g26 v27 v28 v29 v30 v31 v32 v33 v34 v35 v36 v37 (nI ol)), (v0, .inl (cA 0, 326, .inl f2_3))]) 1 hP hD [1, 2] [0] rfl rfl (by decide) (by decide) hk1 hFc hP1 hD1 rfl
              generalize H1 = H at hP hS ⊢
              obtain rfl : rn53 = (remR (pays cn (oqN fn35) ra i3) kn47) := hw
              refine lv_aload_n hx hb dX10_payDue_51 rfl (lv_at hl 3 rfl) ?_
              obtain ⟨hPc, hDc, hFc⟩ := PDq.cut (wc := [(oX10 w0 v0 v1 v2 v3 v4 g5 g6 (nI ed) g8 v9 (nI nb) g11 g12 v13 g14 g15 g16 g17 g18 g19 g20 g21 g22 g23 g24 g25 g26 v27 v28 v29 v30 v31 v32 v33 v34 v35 v36 v37 (nI ol)), (v0, .inl (cA 0, 326, .inl f2_3))]) hP hD hS hA [1, 2] (by decide) rfl
              refine va_calli (va_runV (As := []) (rest := [.int (remR (pays cn (oqN fn35) ra i3) kn47)]) ⟨hx, hb, hml, hown, hts⟩ (e_availableNow l D cA sa w0 ed nb ol v0 v1 v2 v3 v4 v9 v13 v27 v28 v29 v30 v31 v32 v33 v34 v35 v36 v37 g8 g11 g12 g14 g15 g16 g17 g18 g19 g20 g21 g22 g23 g24 g26 g5 g6 g25 cn pq ei dy f2_3 (pays cn (oqN fn35) ra i3) H.size hv2_3 hcn hpq hv0_3 hdy hv1_3) (cwV 0 hts gX10_payDue_X10_availableNow rfl rfl rfl (by decide +kernel) ⟨(Nat.le_of_ble_eq_true rfl), (Nat.le_of_ble_eq_true rfl)⟩) ⟨Wd.blind, va_recv hK hPc (ci := 11) (q0 := 0) rfl rfl, fun U hU hW => ⟨rfl, Wd.call hPc hDc hK hC hZ hS hFc U hU hW⟩⟩ rfl rfl hl.1 rfl (lv_room (Nat.le_of_ble_eq_true rfl)) dX10_payDue_52 ⟨(Nat.le_of_ble_eq_true rfl), (Nat.le_of_ble_eq_true rfl)⟩) hS (fun q _ h => hFc q h) hFc (fun rn54 u t H1 locs ht hvm hw hB hz1 hk1 hS => ?_)
              obtain ⟨hP1, hD1⟩ := hB
              rw [ht] at hP1
              obtain ⟨hP, hD⟩ := PDq.join (w := [(v36, .inl (cA 0, 10, .inl fn35)), (oX10 w0 v0 v1 v2 v3 v4 g5 g6 (nI ed) g8 v9 (nI nb) g11 g12 v13 g14 g15 g16 g17 g18 g19 g20 g21 g22 g23 g24 g25 g26 v27 v28 v29 v30 v31 v32 v33 v34 v35 v36 v37 (nI ol)), (v0, .inl (cA 0, 326, .inl f2_3))]) 1 hP hD [1, 2] [0] rfl rfl (by decide) (by decide) hk1 hFc hP1 hD1 rfl
              generalize H1 = H at hP hS ⊢
              obtain rfl : rn54 = (avR (pays cn (oqN fn35) ra i3) cn) := hw
              refine va_mmin hx hb (by rw [hml]; exact hl.1.symm) hown (hts (.methodLink RX10 301 Lib.Math.min.name) (by decide +kernel)) (hts (.static Lib.Math.min.name) (by decide +kernel)) (hts (.initialized "java/lang/Math") (by decide +kernel)) (hts (.code Lib.Math.min.name Lib.Math.min.code 2 (some .int)) (by decide +kernel)) (Nat.le_of_ble_eq_true rfl) (Nat.le_of_ble_eq_true rfl) (Nat.le_of_ble_eq_true rfl) (Nat.le_of_ble_eq_true rfl) dX10_payDue_55 ?_
              refine lv_topi (fun yn55 eyn55 => ?_)
              obtain rfl : yn55 = (minI (remR (pays cn (oqN fn35) ra i3) kn47) (avR (pays cn (oqN fn35) ra i3) cn)) := eyn55
              refine lv_istore (lv' := [(4, .int (minI (remR (pays cn (oqN fn35) ra i3) kn47) (avR (pays cn (oqN fn35) ra i3) cn))), (3, .int (nI kn47)), (2, .int (nI i3)), (1, .int (nI (i2 + 1))), (0, .ref w0)]) hx hb dX10_payDue_58 hl (by decide) rfl (fun ls hl => ?_)
              refine lv_aload_n hx hb dX10_payDue_60 rfl (lv_at hl 4 rfl) ?_
              refine lv_iload_n hx hb dX10_payDue_61 rfl (lv_at hl 1 rfl) ?_
              obtain ⟨hPc, hDc, hFc⟩ := PDq.cut (wc := [(oX10 w0 v0 v1 v2 v3 v4 g5 g6 (nI ed) g8 v9 (nI nb) g11 g12 v13 g14 g15 g16 g17 g18 g19 g20 g21 g22 g23 g24 g25 g26 v27 v28 v29 v30 v31 v32 v33 v34 v35 v36 v37 (nI ol)), (v0, .inl (cA 0, 326, .inl f2_3))]) hP hD hS hA [1, 2] (by decide) rfl
              refine va_calli (va_runV (As := [.int (nI kn47)]) (rest := []) ⟨hx, hb, hml, hown, hts⟩ (e_isRipe l D cA sa w0 ed nb ol v0 v1 v2 v3 v4 v9 v13 v27 v28 v29 v30 v31 v32 v33 v34 v35 v36 v37 g8 g11 g12 g14 g15 g16 g17 g18 g19 g20 g21 g22 g23 g24 g26 g5 g6 g25 cn pq ei dy f2_3 (pays cn (oqN fn35) ra i3) kn47 H.size hv2_3 hcn hpq hv0_3 hdy hv1_3 (by omega)) (cwV 1 hts gX10_payDue_X10_isRipe rfl rfl rfl (by decide +kernel) ⟨(Nat.le_of_ble_eq_true rfl), (Nat.le_of_ble_eq_true rfl)⟩) ⟨Wd.blind, va_recv hK hPc (ci := 11) (q0 := 0) rfl rfl, fun U hU hW => ⟨rfl, Wd.call hPc hDc hK hC hZ hS hFc U hU hW⟩⟩ rfl rfl hl.1 rfl (lv_room (Nat.le_of_ble_eq_true rfl)) dX10_payDue_62 ⟨(Nat.le_of_ble_eq_true rfl), (Nat.le_of_ble_eq_true rfl)⟩) hS (fun q _ h => hFc q h) hFc (fun rn56 u t H1 locs ht hvm hw hB hz1 hk1 hS => ?_)
              obtain ⟨hP1, hD1⟩ := hB
              rw [ht] at hP1
              obtain ⟨hP, hD⟩ := PDq.join (w := [(v36, .inl (cA 0, 10, .inl fn35)), (oX10 w0 v0 v1 v2 v3 v4 g5 g6 (nI ed) g8 v9 (nI nb) g11 g12 v13 g14 g15 g16 g17 g18 g19 g20 g21 g22 g23 g24 g25 g26 v27 v28 v29 v30 v31 v32 v33 v34 v35 v36 v37 (nI ol)), (v0, .inl (cA 0, 326, .inl f2_3))]) 1 hP hD [1, 2] [0] rfl rfl (by decide) (by decide) hk1 hFc hP1 hD1 rfl
              generalize H1 = H at hP hS ⊢
              rcases hw with ⟨hr9, hn57⟩ | ⟨hr9, hn57⟩
              · skip
                subst hr9
                refine lv_if_eq (tgt := 86) hx hb dX10_payDue_65 (by decide) (fun c9 => absurd c9 (by decide)) (fun c58 => ?_)
                refine lv_iload hx hb dX10_payDue_68 (lv_at hl 0 rfl) ?_
                refine lv_if_le (tgt := 86) hx hb dX10_payDue_70 (by decide) (fun c59 => ?_) (fun c59 => ?_)
                · skip
                  refine lv_iinc (v := (nI (i3 + 1))) (lv' := [(2, .int (nI (i3 + 1))), (4, .int (minI (remR (pays cn (oqN fn35) ra i3) kn47) (avR (pays cn (oqN fn35) ra i3) cn))), (3, .int (nI kn47)), (1, .int (nI (i2 + 1))), (0, .ref w0)]) hx hb dX10_payDue_86 hl (k := 2) rfl (nI_1 _) (by decide) rfl (fun ls hl => ?_)
                  refine lv_goto (tgt := 34) hx hb dX10_payDue_89 (by decide) ?_
                  obtain ⟨hP9, hD9⟩ := PDq.sub (ws' := [(v36, .inl (cA 0, 10, .inl fn35)), (oX10 w0 v0 v1 v2 v3 v4 g5 g6 (nI ed) g8 v9 (nI nb) g11 g12 v13 g14 g15 g16 g17 g18 g19 g20 g21 g22 g23 g24 g25 g26 v27 v28 v29 v30 v31 v32 v33 v34 v35 v36 v37 (nI ol)), (v0, .inl (cA 0, 326, .inl f2_3))]) hP hD [0, 1, 2] (by decide) rfl
                  exact ih3 (i3 + 1) ei f2_3 H _ ls (by omega) hv0_3 hv1_3 (pays_n (oqN_e hn49 (by omega)) (fun q9 => absurd c59 (Int32.not_le.mpr q9.2)) hv2_3) hP9 hD9 hS (lv_sub hl [0, 3, 4] rfl)
                · skip
                  refine lv_aload_n hx hb dX10_payDue_73 rfl (lv_at hl 4 rfl) ?_
                  refine lv_iload_n hx hb dX10_payDue_74 rfl (lv_at hl 1 rfl) ?_
                  refine lv_iload hx hb dX10_payDue_75 (lv_at hl 0 rfl) ?_
                  obtain ⟨hPc, hDc, hFc⟩ := PDq.cut (wc := [(oX10 w0 v0 v1 v2 v3 v4 g5 g6 (nI ed) g8 v9 (nI nb) g11 g12 v13 g14 g15 g16 g17 g18 g19 g20 g21 g22 g23 g24 g25 g26 v27 v28 v29 v30 v31 v32 v33 v34 v35 v36 v37 (nI ol)), (v0, .inl (cA 0, 326, .inl f2_3))]) hP hD hS hA [1, 2] (by decide) rfl
                  refine va_calli (va_runV (As := [.int (nI kn47), .int (minI (remR (pays cn (oqN fn35) ra i3) kn47) (avR (pays cn (oqN fn35) ra i3) cn))]) (rest := []) ⟨hx, hb, hml, hown, hts⟩ (e_makePayment l D cA sa w0 ed nb ol v0 v1 v2 v3 v4 v9 v13 v27 v28 v29 v30 v31 v32 v33 v34 v35 v36 v37 g8 g11 g12 g14 g15 g16 g17 g18 g19 g20 g21 g22 g23 g24 g26 g5 g6 g25 cn pq ei dy f2_3 (pays cn (oqN fn35) ra i3) kn47 (minI (remR (pays cn (oqN fn35) ra i3) kn47) (avR (pays cn (oqN fn35) ra i3) cn)) H.size hv2_3 hcn hpq hv0_3 hdy hv1_3 (by omega)) (cwV 2 hts gX10_payDue_X10_makePayment rfl rfl rfl (by decide +kernel) ⟨(Nat.le_of_ble_eq_true rfl), (Nat.le_of_ble_eq_true rfl)⟩) ⟨Wd.blind, va_recv hK hPc (ci := 11) (q0 := 0) rfl rfl, fun U hU hW => ⟨rfl, Wd.call hPc hDc hK hC hZ hS hFc U hU hW⟩⟩ rfl rfl hl.1 rfl (lv_room (Nat.le_of_ble_eq_true rfl)) dX10_payDue_77 ⟨(Nat.le_of_ble_eq_true rfl), (Nat.le_of_ble_eq_true rfl)⟩) hS (fun q _ h => hFc q h) hFc (fun rn60 u t H1 locs ht hvm hw hB hz1 hk1 hS => ?_)
                  obtain ⟨qn61, fn62, hn63, hn64, hn65, hn66, hP1, hD1⟩ := hB
                  rw [ht] at hP1
                  obtain ⟨hP, hD⟩ := PDq.join (w := [(v36, .inl (cA 0, 10, .inl fn35)), (oX10 w0 v0 v1 v2 v3 v4 g5 g6 (nI ed) g8 v9 (nI nb) g11 g12 v13 g14 g15 g16 g17 g18 g19 g20 g21 g22 g23 g24 g25 g26 v27 v28 v29 v30 v31 v32 v33 v34 v35 v36 v37 (nI ol)), (v0, .inl (cA 0, 326, .inl fn62))]) 1 hP hD [1, 2] [0] rfl rfl (by decide) (by decide) hk1 hFc hP1 hD1 rfl
                  generalize H1 = H at hP hS ⊢
                  refine lv_pop hx hb dX10_payDue_80 rfl ?_
                  refine lv_aload_n hx hb dX10_payDue_81 rfl (lv_at hl 4 rfl) ?_
                  refine lv_iload_n hx hb dX10_payDue_82 rfl (lv_at hl 1 rfl) ?_
                  obtain ⟨hPc, hDc, hFc⟩ := PDq.cut (wc := [(oX10 w0 v0 v1 v2 v3 v4 g5 g6 (nI ed) g8 v9 (nI nb) g11 g12 v13 g14 g15 g16 g17 g18 g19 g20 g21 g22 g23 g24 g25 g26 v27 v28 v29 v30 v31 v32 v33 v34 v35 v36 v37 (nI ol)), (v0, .inl (cA 0, 326, .inl fn62))]) hP hD hS hA [1, 2] (by decide) rfl
                  refine va_callv (va_runV (As := [.int (nI kn47)]) (rest := []) ⟨hx, hb, hml, hown, hts⟩ (e_closeIfPaid l D cA sa w0 ed nb ol v0 v1 v2 v3 v4 v9 v13 v27 v28 v29 v30 v31 v32 v33 v34 v35 v36 v37 g8 g11 g12 g14 g15 g16 g17 g18 g19 g20 g21 g22 g23 g24 g26 g5 g6 g25 cn pq qn61 dy fn62 (mkP kn47 (minI (remR (pays cn (oqN fn35) ra i3) kn47) (avR (pays cn (oqN fn35) ra i3) cn)) (pays cn (oqN fn35) ra i3)) kn47 H.size hn65 hcn hpq hn63 hdy hn64 (by omega)) (cwV 1 hts gX10_payDue_X10_closeIfPaid rfl rfl rfl (by decide +kernel) ⟨(Nat.le_of_ble_eq_true rfl), (Nat.le_of_ble_eq_true rfl)⟩) ⟨Wd.blind, va_recv hK hPc (ci := 11) (q0 := 0) rfl rfl, fun U hU hW => ⟨rfl, Wd.call hPc hDc hK hC hZ hS hFc U hU hW⟩⟩ rfl rfl hl.1 rfl (lv_room (Nat.le_of_ble_eq_true rfl)) dX10_payDue_83 ⟨(Nat.le_of_ble_eq_true rfl), (Nat.le_of_ble_eq_true rfl)⟩) hS (fun q _ h => hFc q h) hFc (fun u t H1 locs ht hvm hw hB hz1 hk1 hS => ?_)
                  obtain ⟨fn67, hn68, hn69, hP1, hD1⟩ := hB
                  rw [ht] at hP1
                  obtain ⟨hP, hD⟩ := PDq.join (w := [(v36, .inl (cA 0, 10, .inl fn35)), (oX10 w0 v0 v1 v2 v3 v4 g5 g6 (nI ed) g8 v9 (nI nb) g11 g12 v13 g14 g15 g16 g17 g18 g19 g20 g21 g22 g23 g24 g25 g26 v27 v28 v29 v30 v31 v32 v33 v34 v35 v36 v37 (nI ol)), (v0, .inl (cA 0, 326, .inl fn67))]) 1 hP hD [1, 2] [0] rfl rfl (by decide) (by decide) hk1 hFc hP1 hD1 rfl
                  generalize H1 = H at hP hS ⊢
                  refine lv_iinc (v := (nI (i3 + 1))) (lv' := [(2, .int (nI (i3 + 1))), (4, .int (minI (remR (pays cn (oqN fn35) ra i3) kn47) (avR (pays cn (oqN fn35) ra i3) cn))), (3, .int (nI kn47)), (1, .int (nI (i2 + 1))), (0, .ref w0)]) hx hb dX10_payDue_86 hl (k := 2) rfl (nI_1 _) (by decide) rfl (fun ls hl => ?_)
                  refine lv_goto (tgt := 34) hx hb dX10_payDue_89 (by decide) ?_
                  obtain ⟨hP9, hD9⟩ := PDq.sub (ws' := [(v36, .inl (cA 0, 10, .inl fn35)), (oX10 w0 v0 v1 v2 v3 v4 g5 g6 (nI ed) g8 v9 (nI nb) g11 g12 v13 g14 g15 g16 g17 g18 g19 g20 g21 g22 g23 g24 g25 g26 v27 v28 v29 v30 v31 v32 v33 v34 v35 v36 v37 (nI ol)), (v0, .inl (cA 0, 326, .inl fn67))]) hP hD [0, 1, 2] (by decide) rfl
                  exact ih3 (i3 + 1) qn61 fn67 H _ ls (by omega) hn63 hn68 (pays_y (oqN_e hn49 (by omega)) hn57 (Int32.not_le.mp c59) hn69) hP9 hD9 hS (lv_sub hl [0, 3, 4] rfl)
              · skip
                subst hr9
                refine lv_if_eq (tgt := 86) hx hb dX10_payDue_65 (by decide) (fun c70 => ?_) (fun c9 => absurd c9 (by decide))
                refine lv_iinc (v := (nI (i3 + 1))) (lv' := [(2, .int (nI (i3 + 1))), (4, .int (minI (remR (pays cn (oqN fn35) ra i3) kn47) (avR (pays cn (oqN fn35) ra i3) cn))), (3, .int (nI kn47)), (1, .int (nI (i2 + 1))), (0, .ref w0)]) hx hb dX10_payDue_86 hl (k := 2) rfl (nI_1 _) (by decide) rfl (fun ls hl => ?_)
                refine lv_goto (tgt := 34) hx hb dX10_payDue_89 (by decide) ?_
                obtain ⟨hP9, hD9⟩ := PDq.sub (ws' := [(v36, .inl (cA 0, 10, .inl fn35)), (oX10 w0 v0 v1 v2 v3 v4 g5 g6 (nI ed) g8 v9 (nI nb) g11 g12 v13 g14 g15 g16 g17 g18 g19 g20 g21 g22 g23 g24 g25 g26 v27 v28 v29 v30 v31 v32 v33 v34 v35 v36 v37 (nI ol)), (v0, .inl (cA 0, 326, .inl f2_3))]) hP hD [0, 1, 2] (by decide) rfl
                exact ih3 (i3 + 1) ei f2_3 H _ ls (by omega) hv0_3 hv1_3 (pays_n (oqN_e hn49 (by omega)) (fun q9 => hn57 q9.1) hv2_3) hP9 hD9 hS (lv_sub hl [0, 3, 4] rfl)
          obtain ⟨hP9, hD9⟩ := PDq.sub (ws' := [(v36, .inl (cA 0, 10, .inl fn35)), (oX10 w0 v0 v1 v2 v3 v4 g5 g6 (nI ed) g8 v9 (nI nb) g11 g12 v13 g14 g15 g16 g17 g18 g19 g20 g21 g22 g23 g24 g25 g26 v27 v28 v29 v30 v31 v32 v33 v34 v35 v36 v37 (nI ol)), (v0, .inl (cA 0, 326, .inl fs))]) hP hD [0, 1, 2] (by decide) rfl
          exact loop3 ((i2 + 1) - 0) 0 en fs _ _ ls (by omega) hen hri hAb hP9 hD9 hS (lv_sub hl [0, 1, 2] rfl)
        · skip
          subst hr9
          have hn71 := DbrP.lt hn41 hn43
          refine lv_istore_n (lv' := [(2, .int (nI kn40)), (1, .int (nI (i2 + 1))), (0, .ref w0)]) hx hb dX10_payDue_28 rfl hl (by decide) rfl (fun ls hl => ?_)
          refine lv_goto (tgt := 8) hx hb dX10_payDue_29 (by decide) ?_
          obtain ⟨hP9, hD9⟩ := PDq.sub (ws' := [(v36, .inl (cA 0, 10, .inl fn35)), (oX10 w0 v0 v1 v2 v3 v4 g5 g6 (nI ed) g8 v9 (nI nb) g11 g12 v13 g14 g15 g16 g17 g18 g19 g20 g21 g22 g23 g24 g25 g26 v27 v28 v29 v30 v31 v32 v33 v34 v35 v36 v37 (nI ol)), (v0, .inl (cA 0, 326, .inl fs))]) hP hD [0, 1, 2] (by decide) rfl
          exact ih2 (i2 + 1) kn40 fn35 H _ ls (by omega) hn36 hn38 hn41 (by omega) hn42 hn43 (Orq.step hv4_2 hn37 (show km < cn by omega) hv2_2 hv3_2) hP9 hD9 hS (lv_sub hl [0, 1, 2] rfl)
    obtain ⟨hP9, hD9⟩ := PDq.sub (ws' := [(v36, .inl (cA 0, 10, .inl fo)), (oX10 w0 v0 v1 v2 v3 v4 g5 g6 (nI ed) g8 v9 (nI nb) g11 g12 v13 g14 g15 g16 g17 g18 g19 g20 g21 g22 g23 g24 g25 g26 v27 v28 v29 v30 v31 v32 v33 v34 v35 v36 v37 (nI ol)), (v0, .inl (cA 0, 326, .inl fs))]) hP hD [0, 1, 2] (by decide) rfl
    exact loop2 (cn - 0) 0 kn2 fo _ _ ls (by omega) hord rfl hn3 hn33 hn4 hn5 (Orq.zero ra cn fo) hP9 hD9 hS (lv_sub hl [0, 1, 2] rfl)

set_option maxHeartbeats 4000000 in
set_option maxRecDepth 100000 in
/-- reference, exactly: passDay -/
theorem e_passDay (l : Launch) (D : va_G) (cA : Nat → ClassId) (sa : Nat → Nat) (w0 : Nat) (ed : Nat) (nb : Nat) (ol : Nat) (v0 : Nat) (v1 : Nat) (v2 : Nat) (v3 : Nat) (v4 : Nat) (v9 : Nat) (v13 : Nat) (v27 : Nat) (v28 : Nat) (v29 : Nat) (v30 : Nat) (v31 : Nat) (v32 : Nat) (v33 : Nat) (v34 : Nat) (v35 : Nat) (v36 : Nat) (v37 : Nat) (g8 : Int32) (g11 : Int32) (g12 : Int32) (g14 : Int32) (g15 : Int32) (g16 : Int32) (g17 : Int32) (g18 : Int32) (g19 : Int32) (g20 : Int32) (g21 : Int32) (g22 : Int32) (g23 : Int32) (g24 : Int32) (g26 : Int32) (g5 : Int64) (g6 : Int64) (g25 : Int64) (cn : Nat) (pq : Nat) (en : Nat) (dy : Nat) (fs : Nat → Int32) (fc : Nat → Int32) (fq : Nat → Int32) (fk : Nat → Int32) (ra : Nat → Int32) (cq : Nat → Nat) (fo : Nat → Int32) (sz : Nat) (hAb : Ab ra fs) (hcn : cn ≤ 10) (hpq : pq ≤ 8) (hen : en ≤ 60) (hdy : dy ≤ 20000) (hri : RI cn pq en dy fs) (hCQ : CQ cn fc cq) (hcq : Elq cn cq fq) (hbit : Bit 400 fk) (hord : Rng 10 10 fo) (hd1 : dy < 20000) : Met l yX10_passDay wsX10_passDay ({ frames := 5, cells := 0, slots := 0, locals := 109 }) (va_Pc [.ref w0] (Wd D cA sa [(oX10 w0 v0 v1 v2 v3 v4 g5 g6 (nI ed) g8 v9 (nI nb) g11 g12 v13 g14 g15 g16 g17 g18 g19 g20 g21 g22 g23 g24 g25 g26 v27 v28 v29 v30 v31 v32 v33 v34 v35 v36 v37 (nI ol)), (v0, .inl (cA 0, 326, .inl fs)), (v31, .inl (cA 0, 400, .inl fc)), (v33, .inl (cA 0, 11, .inl fq)), (v35, .inl (cA 4, 400, .inl fk)), (v36, .inl (cA 0, 10, .inl fo))] sz)) (va_Qv (fun _ : Unit => True) (fun (_ : Unit) t => ∃ e2 : Nat, ∃ d2 : Nat, ∃ zq : Int64, ∃ zs : Nat → Int32, ∃ zk : Nat → Int32, ∃ zo : Nat → Int32, e2 ≤ 60 ∧ RI cn pq e2 d2 zs ∧ Bit 400 zk ∧ Rng 10 10 zo ∧ d2 = dy + 1 ∧ DyR fc cq cn dy ra g5 zs zq ∧ Wq D (va_A [(oX10 w0 v0 v1 v2 v3 v4 g5 g6 (nI ed) g8 v9 (nI nb) g11 g12 v13 g14 g15 g16 g17 g18 g19 g20 g21 g22 g23 g24 g25 g26 v27 v28 v29 v30 v31 v32 v33 v34 v35 v36 v37 (nI ol)), (v0, .inl (cA 0, 326, .inl fs)), (v31, .inl (cA 0, 400, .inl fc)), (v33, .inl (cA 0, 11, .inl fq)), (v35, .inl (cA 4, 400, .inl fk)), (v36, .inl (cA 0, 10, .inl fo))] sz) [(oX10 w0 v0 v1 v2 v3 v4 zq g6 (nI ed) g8 v9 (nI nb) g11 g12 v13 g14 g15 g16 g17 g18 g19 g20 g21 g22 g23 g24 g25 g26 v27 v28 v29 v30 v31 v32 v33 v34 v35 v36 v37 (nI ol)), (v0, .inl (cA 0, 326, .inl zs)), (v31, .inl (cA 0, 400, .inl fc)), (v33, .inl (cA 0, 11, .inl fq)), (v35, .inl (cA 4, 400, .inl zk)), (v36, .inl (cA 0, 10, .inl zo))] t) (va_A [(oX10 w0 v0 v1 v2 v3 v4 g5 g6 (nI ed) g8 v9 (nI nb) g11 g12 v13 g14 g15 g16 g17 g18 g19 g20 g21 g22 g23 g24 g25 g26 v27 v28 v29 v30 v31 v32 v33 v34 v35 v36 v37 (nI ol)), (v0, .inl (cA 0, 326, .inl fs)), (v31, .inl (cA 0, 400, .inl fc)), (v33, .inl (cA 0, 11, .inl fq)), (v35, .inl (cA 4, 400, .inl fk)), (v36, .inl (cA 0, 10, .inl fo))] sz)) 0 0 (va_A [(oX10 w0 v0 v1 v2 v3 v4 g5 g6 (nI ed) g8 v9 (nI nb) g11 g12 v13 g14 g15 g16 g17 g18 g19 g20 g21 g22 g23 g24 g25 g26 v27 v28 v29 v30 v31 v32 v33 v34 v35 v36 v37 (nI ol)), (v0, .inl (cA 0, 326, .inl fs)), (v31, .inl (cA 0, 400, .inl fc)), (v33, .inl (cA 0, 11, .inl fq)), (v35, .inl (cA 4, 400, .inl fk)), (v36, .inl (cA 0, 10, .inl fo))] sz) := by
  refine Met.ofW (cc := cX10_passDay) (maxL := 1) (ret := none) (by decide) rfl ?_
  intro p e s m args below meth c s₁ B hml hv
  obtain ⟨rfl, hsz, hP, hK, hD0, hC, hZ⟩ := hv
  have hx := B.exec
  have hb := B.bytes
  have hr := B.returns
  have hts := atoms_spec (ws := wsX10_passDay) B.pre
  have hown : s.vm.findClass RX10 = some m.cls := findClass_of_methodNamed B.named
  have hlocks := B.notSynchronized
  subst hsz
  have hD := hD0.self (sz := s.heap.size)
  generalize hAe : va_A [(oX10 w0 v0 v1 v2 v3 v4 g5 g6 (nI ed) g8 v9 (nI nb) g11 g12 v13 g14 g15 g16 g17 g18 g19 g20 g21 g22 g23 g24 g25 g26 v27 v28 v29 v30 v31 v32 v33 v34 v35 v36 v37 (nI ol)), (v0, .inl (cA 0, 326, .inl fs)), (v31, .inl (cA 0, 400, .inl fc)), (v33, .inl (cA 0, 11, .inl fq)), (v35, .inl (cA 4, 400, .inl fk)), (v36, .inl (cA 0, 10, .inl fo))] s.heap.size = A at hD hZ ⊢
  have hA : ∀ q : Nat, s.heap.size ≤ q → A q := fun q h => by rw [← hAe]; exact Or.inr h
  have hS : va_S A s.heap s.heap [] := va_S.rf
  have hP : va_P D vwCl [(oX10 w0 v0 v1 v2 v3 v4 g5 g6 (nI ed) g8 v9 (nI nb) g11 g12 v13 g14 g15 g16 g17 g18 g19 g20 g21 g22 g23 g24 g25 g26 v27 v28 v29 v30 v31 v32 v33 v34 v35 v36 v37 (nI ol)), (v0, .inl (cA 0, 326, .inl fs)), (v31, .inl (cA 0, 400, .inl fc)), (v33, .inl (cA 0, 11, .inl fq)), (v35, .inl (cA 4, 400, .inl fk)), (v36, .inl (cA 0, 10, .inl fo))] s.heap := hP
  have hl := lv_entry ([.ref w0]) (n := 1) (Nat.le_of_ble_eq_true rfl)
  rw [lg_entry_eq]
  generalize (lg_sl ([.ref w0]) ++ List.replicate (1 - (lg_sl ([.ref w0])).length) Slot.unset).toArray = ls at hl ⊢
  have hl : lv_has ls 1 [(0, .ref w0)] := hl
  have inX10 : ∀ w ∈ u_ws RX10 TX10 39, w ∈ wsX10_passDay := by decide +kernel
  refine lv_aload_n hx hb dX10_passDay_0 rfl (lv_at hl 0 rfl) ?_
  refine lv_dup hx hb dX10_passDay_1 rfl ?_
  refine va_get (D := D) (ci := 11) (v := .long g5) (C := RX10) (T := TX10) (N := 39) hx hb hts inX10 hown hK hP 0 rfl rfl 5 (by decide) (hts (.fieldLink RX10 86 "EscrowDeskModel" "parts" "J") (by decide +kernel)) (fun _ h9 => h9) rfl dX10_passDay_2 ?_
  refine lv_aload_n hx hb dX10_passDay_5 rfl (lv_at hl 0 rfl) ?_
  refine va_get (D := D) (ci := 11) (v := .ref v0) (C := RX10) (T := TX10) (N := 39) hx hb hts inX10 hown hK hP 0 rfl rfl 0 (by decide) (hts (.fieldLink RX10 7 "EscrowDeskModel" "s" "[I") (by decide +kernel)) (fun _ h9 => h9) rfl dX10_passDay_6 ?_
  refine lv_bipush (v := 6) hx hb dX10_passDay_9 (by decide) ?_
  refine va_iald hx hb hK hP 1 0 rfl rfl (vp_in_iff.mpr (by decide)) dX10_passDay_11 ?_
  refine lv_topi (fun yn1 eyn1 => ?_)
  obtain rfl : yn1 = (ra 6) := eyn1.trans ((Ab.get hAb (j := 6) (by omega) (by omega)).trans rfl)
  refine lv_aload_n hx hb dX10_passDay_12 rfl (lv_at hl 0 rfl) ?_
  refine va_get (D := D) (ci := 11) (v := .ref v0) (C := RX10) (T := TX10) (N := 39) hx hb hts inX10 hown hK hP 0 rfl rfl 0 (by decide) (hts (.fieldLink RX10 7 "EscrowDeskModel" "s" "[I") (by decide +kernel)) (fun _ h9 => h9) rfl dX10_passDay_13 ?_
  refine lv_bipush (v := 7) hx hb dX10_passDay_16 (by decide) ?_
  refine va_iald hx hb hK hP 1 0 rfl rfl (vp_in_iff.mpr (by decide)) dX10_passDay_18 ?_
  refine lv_topi (fun yn2 eyn2 => ?_)
  obtain rfl : yn2 = (ra 7) := eyn2.trans ((Ab.get hAb (j := 7) (by omega) (by omega)).trans rfl)
  refine lv_iadd hx hb dX10_passDay_19 ?_
  refine lv_topi (fun yn3 eyn3 => ?_)
  obtain rfl : yn3 = ((ra 6) + (ra 7)) := eyn3
  refine lv_i2l (v := (((ra 6) + (ra 7)).toInt64)) hx hb dX10_passDay_20 rfl ?_
  refine lv_aload_n hx hb dX10_passDay_21 rfl (lv_at hl 0 rfl) ?_
  refine va_get (D := D) (ci := 11) (v := .ref v0) (C := RX10) (T := TX10) (N := 39) hx hb hts inX10 hown hK hP 0 rfl rfl 0 (by decide) (hts (.fieldLink RX10 7 "EscrowDeskModel" "s" "[I") (by decide +kernel)) (fun _ h9 => h9) rfl dX10_passDay_22 ?_
  refine lv_iconst (v := 0) hx hb dX10_passDay_25 (by decide) ?_
  refine va_iald hx hb hK hP 1 0 rfl rfl (vp_in_iff.mpr (by decide)) dX10_passDay_26 ?_
  refine lv_topi (fun yn4 eyn4 => ?_)
  obtain rfl : yn4 = (ra 0) := eyn4.trans ((Ab.get hAb (j := 0) (by omega) (by omega)).trans rfl)
  refine lv_i2l (v := ((ra 0).toInt64)) hx hb dX10_passDay_27 rfl ?_
  refine lv_lmul hx hb dX10_passDay_28 ?_
  refine lv_topl (fun yn5 eyn5 => ?_)
  obtain rfl : yn5 = ((((ra 6) + (ra 7)).toInt64) * ((ra 0).toInt64)) := eyn5
  refine lv_ladd hx hb dX10_passDay_29 ?_
  refine lv_topl (fun yn6 eyn6 => ?_)
  obtain rfl : yn6 = (g5 + ((((ra 6) + (ra 7)).toInt64) * ((ra 0).toInt64))) := eyn6
  refine va_put (D := D) (ci := 11) (v := .long (g5 + ((((ra 6) + (ra 7)).toInt64) * ((ra 0).toInt64)))) (ty := .long) (C := RX10) (T := TX10) (N := 39) hx hb hts inX10 tyX10 tyX10_ok nmX10 hown hK hP hD hS 0 rfl rfl 5 (by decide) (hts (.fieldLink RX10 86 "EscrowDeskModel" "parts" "J") (by decide +kernel)) (fun _ h9 => h9) rfl (by decide +kernel) rfl rfl (Nat.le_of_ble_eq_true rfl) dX10_passDay_30 (fun H locs hP hD hS => ?_)
  obtain ⟨hP, hD⟩ : PDq D A [(oX10 w0 v0 v1 v2 v3 v4 (g5 + ((((ra 6) + (ra 7)).toInt64) * ((ra 0).toInt64))) g6 (nI ed) g8 v9 (nI nb) g11 g12 v13 g14 g15 g16 g17 g18 g19 g20 g21 g22 g23 g24 g25 g26 v27 v28 v29 v30 v31 v32 v33 v34 v35 v36 v37 (nI ol)), (v0, .inl (cA 0, 326, .inl fs)), (v31, .inl (cA 0, 400, .inl fc)), (v33, .inl (cA 0, 11, .inl fq)), (v35, .inl (cA 4, 400, .inl fk)), (v36, .inl (cA 0, 10, .inl fo))] H := ⟨hP, hD⟩
  refine lv_aload_n hx hb dX10_passDay_33 rfl (lv_at hl 0 rfl) ?_
  refine va_get (D := D) (ci := 11) (v := .ref v0) (C := RX10) (T := TX10) (N := 39) hx hb hts inX10 hown hK hP 0 rfl rfl 0 (by decide) (hts (.fieldLink RX10 7 "EscrowDeskModel" "s" "[I") (by decide +kernel)) (fun _ h9 => h9) rfl dX10_passDay_34 ?_
  refine lv_iconst (v := 4) hx hb dX10_passDay_37 (by decide) ?_
  refine lv_dup2_11 hx hb dX10_passDay_38 rfl rfl ?_
  refine va_iald hx hb hK hP 1 0 rfl rfl (vp_in_iff.mpr (by decide)) dX10_passDay_39 ?_
  refine lv_topi (fun yn7 eyn7 => ?_)
  obtain rfl : yn7 = (nI dy) := eyn7.trans hri.2.2.2.1
  refine lv_iconst (v := 1) hx hb dX10_passDay_40 (by decide) ?_
  refine lv_iadd hx hb dX10_passDay_41 ?_
  refine lv_topi (fun yn8 eyn8 => ?_)
  obtain rfl : yn8 = (nI (dy + 1)) := eyn8.trans (nI_add dy 1)
  refine va_iast hx hb hK hP hD hS 1 0 rfl rfl (vp_in_iff.mpr (by decide)) dX10_passDay_42 (fun H locs hP hD hS => ?_)
  obtain ⟨hP, hD⟩ : PDq D A [(oX10 w0 v0 v1 v2 v3 v4 (g5 + ((((ra 6) + (ra 7)).toInt64) * ((ra 0).toInt64))) g6 (nI ed) g8 v9 (nI nb) g11 g12 v13 g14 g15 g16 g17 g18 g19 g20 g21 g22 g23 g24 g25 g26 v27 v28 v29 v30 v31 v32 v33 v34 v35 v36 v37 (nI ol)), (v0, .inl (cA 0, 326, .inl (upd fs 4 (nI (dy + 1))))), (v31, .inl (cA 0, 400, .inl fc)), (v33, .inl (cA 0, 11, .inl fq)), (v35, .inl (cA 4, 400, .inl fk)), (v36, .inl (cA 0, 10, .inl fo))] H := ⟨hP, hD⟩
  have hn10 : Ab (upd ra 4 (nI (dy + 1))) (upd fs 4 (nI (dy + 1))) := (Ab.put hAb 4 (nI (dy + 1)))
  have hn11 : RI cn pq en (dy + 1) (upd fs 4 (nI (dy + 1))) := RI.day hri (dy + 1)
  generalize (upd fs 4 (nI (dy + 1))) = fn9 at hP hD hn10 hn11
  obtain ⟨hP, hD⟩ : PDq D A [(oX10 w0 v0 v1 v2 v3 v4 (g5 + ((((ra 6) + (ra 7)).toInt64) * ((ra 0).toInt64))) g6 (nI ed) g8 v9 (nI nb) g11 g12 v13 g14 g15 g16 g17 g18 g19 g20 g21 g22 g23 g24 g25 g26 v27 v28 v29 v30 v31 v32 v33 v34 v35 v36 v37 (nI ol)), (v0, .inl (cA 0, 326, .inl fn9)), (v31, .inl (cA 0, 400, .inl fc)), (v33, .inl (cA 0, 11, .inl fq)), (v35, .inl (cA 4, 400, .inl fk)), (v36, .inl (cA 0, 10, .inl fo))] H := ⟨hP, hD⟩
  refine lv_aload_n hx hb dX10_passDay_43 rfl (lv_at hl 0 rfl) ?_
  refine va_get (D := D) (ci := 11) (v := .ref v0) (C := RX10) (T := TX10) (N := 39) hx hb hts inX10 hown hK hP 0 rfl rfl 0 (by decide) (hts (.fieldLink RX10 7 "EscrowDeskModel" "s" "[I") (by decide +kernel)) (fun _ h9 => h9) rfl dX10_passDay_44 ?_
  refine lv_iconst (v := 4) hx hb dX10_passDay_47 (by decide) ?_
  refine va_iald hx hb hK hP 1 0 rfl rfl (vp_in_iff.mpr (by decide)) dX10_passDay_48 ?_
  refine lv_topi (fun yn12 eyn12 => ?_)
  obtain rfl : yn12 = (nI (dy + 1)) := eyn12.trans hn11.2.2.2.1
  refine lv_bipush (v := 30) hx hb dX10_passDay_49 (by decide) ?_
  refine lv_irem hx hb dX10_passDay_51 (by decide) ?_
  refine lv_topi (fun yn13 eyn13 => ?_)
  obtain rfl : yn13 = (nI ((dy + 1) % 30)) := eyn13.trans (nI_rem (a := (dy + 1)) (b := 30) (by omega) (by decide) (by decide))
  refine lv_if_ne (tgt := 59) hx hb dX10_passDay_52 (by decide) (fun c14 => ?_) (fun c14 => ?_)
  · skip
    have hn15 : ¬ ((dy + 1) % 30) = 0 := fun h9 => c14 ((nI_eq (a := ((dy + 1) % 30)) (b := 0) (by omega) (by omega)).mpr h9)
    refine lv_aload_n hx hb dX10_passDay_59 rfl (lv_at hl 0 rfl) ?_
    obtain ⟨hPc, hDc, hFc⟩ := PDq.cut (wc := [(oX10 w0 v0 v1 v2 v3 v4 (g5 + ((((ra 6) + (ra 7)).toInt64) * ((ra 0).toInt64))) g6 (nI ed) g8 v9 (nI nb) g11 g12 v13 g14 g15 g16 g17 g18 g19 g20 g21 g22 g23 g24 g25 g26 v27 v28 v29 v30 v31 v32 v33 v34 v35 v36 v37 (nI ol)), (v0, .inl (cA 0, 326, .inl fn9)), (v31, .inl (cA 0, 400, .inl fc)), (v33, .inl (cA 0, 11, .inl fq)), (v35, .inl (cA 4, 400, .inl fk))]) hP hD hS hA [0, 1, 2, 3, 4] (by decide) rfl
    refine va_callv (va_runV (As := []) (rest := []) ⟨hx, hb, hml, hown, hts⟩ (e_becomeDue l D cA sa w0 ed nb ol v0 v1 v2 v3 v4 v9 v13 v27 v28 v29 v30 v31 v32 v33 v34 v35 v36 v37 g8 g11 g12 g14 g15 g16 g17 g18 g19 g20 g21 g22 g23 g24 g26 (g5 + ((((ra 6) + (ra 7)).toInt64) * ((ra 0).toInt64))) g6 g25 cn pq en (dy + 1) fn9 fc fq fk (upd ra 4 (nI (dy + 1))) cq H.size hn10 hcn hpq hen (by omega) hn11 hCQ hcq hbit) (cwV 0 hts gX10_passDay_X10_becomeDue rfl rfl rfl (by decide +kernel) ⟨(Nat.le_of_ble_eq_true rfl), (Nat.le_of_ble_eq_true rfl)⟩) ⟨Wd.blind, va_recv hK hPc (ci := 11) (q0 := 0) rfl rfl, fun U hU hW => ⟨rfl, Wd.call hPc hDc hK hC hZ hS hFc U hU hW⟩⟩ rfl rfl hl.1 rfl (lv_room (Nat.le_of_ble_eq_true rfl)) dX10_passDay_60 ⟨(Nat.le_of_ble_eq_true rfl), (Nat.le_of_ble_eq_true rfl)⟩) hS (fun q _ h => hFc q h) hFc (fun u t H1 locs ht hvm hw hB hz1 hk1 hS => ?_)
    obtain ⟨fn16, fn17, hn18, hn19, hn20, hP1, hD1⟩ := hB
    rw [ht] at hP1
    obtain ⟨hP, hD⟩ := PDq.join (w := [(v36, .inl (cA 0, 10, .inl fo)), (oX10 w0 v0 v1 v2 v3 v4 (g5 + ((((ra 6) + (ra 7)).toInt64) * ((ra 0).toInt64))) g6 (nI ed) g8 v9 (nI nb) g11 g12 v13 g14 g15 g16 g17 g18 g19 g20 g21 g22 g23 g24 g25 g26 v27 v28 v29 v30 v31 v32 v33 v34 v35 v36 v37 (nI ol)), (v0, .inl (cA 0, 326, .inl fn16)), (v31, .inl (cA 0, 400, .inl fc)), (v33, .inl (cA 0, 11, .inl fq)), (v35, .inl (cA 4, 400, .inl fn17))]) 1 hP hD [0, 1, 2, 3, 4] [5] rfl rfl (by decide) (by decide) hk1 hFc hP1 hD1 rfl
    generalize H1 = H at hP hS ⊢
    refine lv_aload_n hx hb dX10_passDay_63 rfl (lv_at hl 0 rfl) ?_
    obtain ⟨hPc, hDc, hFc⟩ := PDq.cut (wc := [(oX10 w0 v0 v1 v2 v3 v4 (g5 + ((((ra 6) + (ra 7)).toInt64) * ((ra 0).toInt64))) g6 (nI ed) g8 v9 (nI nb) g11 g12 v13 g14 g15 g16 g17 g18 g19 g20 g21 g22 g23 g24 g25 g26 v27 v28 v29 v30 v31 v32 v33 v34 v35 v36 v37 (nI ol)), (v0, .inl (cA 0, 326, .inl fn16)), (v36, .inl (cA 0, 10, .inl fo))]) hP hD hS hA [1, 2, 0] (by decide) rfl
    refine va_callv (va_runV (As := []) (rest := []) ⟨hx, hb, hml, hown, hts⟩ (e_payDue l D cA sa w0 ed nb ol v0 v1 v2 v3 v4 v9 v13 v27 v28 v29 v30 v31 v32 v33 v34 v35 v36 v37 g8 g11 g12 g14 g15 g16 g17 g18 g19 g20 g21 g22 g23 g24 g26 (g5 + ((((ra 6) + (ra 7)).toInt64) * ((ra 0).toInt64))) g6 g25 cn pq en (dy + 1) fn16 (dues fc cq (doR (upd ra 4 (nI (dy + 1))) cn) (upd ra 4 (nI (dy + 1))) cn) fo H.size hn20 hcn hpq hen (by omega) hn19 hord) (cwV 0 hts gX10_passDay_X10_payDue rfl rfl rfl (by decide +kernel) ⟨(Nat.le_of_ble_eq_true rfl), (Nat.le_of_ble_eq_true rfl)⟩) ⟨Wd.blind, va_recv hK hPc (ci := 11) (q0 := 0) rfl rfl, fun U hU hW => ⟨rfl, Wd.call hPc hDc hK hC hZ hS hFc U hU hW⟩⟩ rfl rfl hl.1 rfl (lv_room (Nat.le_of_ble_eq_true rfl)) dX10_passDay_64 ⟨(Nat.le_of_ble_eq_true rfl), (Nat.le_of_ble_eq_true rfl)⟩) hS (fun q _ h => hFc q h) hFc (fun u t H1 locs ht hvm hw hB hz1 hk1 hS => ?_)
    obtain ⟨qn21, fn22, fn23, hn24, hn25, hn26, hn27, hP1, hD1⟩ := hB
    rw [ht] at hP1
    obtain ⟨hP, hD⟩ := PDq.join (w := [(v31, .inl (cA 0, 400, .inl fc)), (v33, .inl (cA 0, 11, .inl fq)), (v35, .inl (cA 4, 400, .inl fn17)), (oX10 w0 v0 v1 v2 v3 v4 (g5 + ((((ra 6) + (ra 7)).toInt64) * ((ra 0).toInt64))) g6 (nI ed) g8 v9 (nI nb) g11 g12 v13 g14 g15 g16 g17 g18 g19 g20 g21 g22 g23 g24 g25 g26 v27 v28 v29 v30 v31 v32 v33 v34 v35 v36 v37 (nI ol)), (v0, .inl (cA 0, 326, .inl fn22)), (v36, .inl (cA 0, 10, .inl fn23))]) 3 hP hD [1, 2, 0] [3, 4, 5] rfl rfl (by decide) (by decide) hk1 hFc hP1 hD1 rfl
    generalize H1 = H at hP hS ⊢
    obtain ⟨hP9, hD9⟩ := PDq.sub (ws' := [(oX10 w0 v0 v1 v2 v3 v4 (g5 + ((((ra 6) + (ra 7)).toInt64) * ((ra 0).toInt64))) g6 (nI ed) g8 v9 (nI nb) g11 g12 v13 g14 g15 g16 g17 g18 g19 g20 g21 g22 g23 g24 g25 g26 v27 v28 v29 v30 v31 v32 v33 v34 v35 v36 v37 (nI ol)), (v0, .inl (cA 0, 326, .inl fn22)), (v31, .inl (cA 0, 400, .inl fc)), (v33, .inl (cA 0, 11, .inl fq)), (v35, .inl (cA 4, 400, .inl fn17)), (v36, .inl (cA 0, 10, .inl fn23))]) hP hD [3, 4, 0, 1, 2, 5] (by decide) rfl
    refine W.widen (k := 0) (n := 0) (Nat.le_of_ble_eq_true rfl) (Nat.le_of_ble_eq_true rfl) ?_
    exact (W.vret hx hb hr (fun t ht hW => ⟨⟨(), rfl, trivial, qn21, (dy + 1), (g5 + ((((ra 6) + (ra 7)).toInt64) * ((ra 0).toInt64))), fn22, fn17, fn23, hn24, hn25, hn18, hn26, (by omega), ⟨_, Or.inr ⟨hn15, rfl, rfl⟩, hn27⟩, by rw [ht]; exact hP9, hD9⟩, hS.F ht⟩) hS.2.2 dX10_passDay_67)
  · skip
    have hn28 : ((dy + 1) % 30) = 0 := (nI_eq (a := ((dy + 1) % 30)) (b := 0) (by omega) (by omega)).mp c14
    refine lv_aload_n hx hb dX10_passDay_55 rfl (lv_at hl 0 rfl) ?_
    obtain ⟨hPc, hDc, hFc⟩ := PDq.cut (wc := [(oX10 w0 v0 v1 v2 v3 v4 (g5 + ((((ra 6) + (ra 7)).toInt64) * ((ra 0).toInt64))) g6 (nI ed) g8 v9 (nI nb) g11 g12 v13 g14 g15 g16 g17 g18 g19 g20 g21 g22 g23 g24 g25 g26 v27 v28 v29 v30 v31 v32 v33 v34 v35 v36 v37 (nI ol)), (v0, .inl (cA 0, 326, .inl fn9))]) hP hD hS hA [0, 1] (by decide) rfl
    refine va_callv (va_runV (As := []) (rest := []) ⟨hx, hb, hml, hown, hts⟩ (e_credit l D cA sa w0 ed nb ol v0 v1 v2 v3 v4 v9 v13 v27 v28 v29 v30 v31 v32 v33 v34 v35 v36 v37 g8 g11 g12 g14 g15 g16 g17 g18 g19 g20 g21 g22 g23 g24 g26 (g5 + ((((ra 6) + (ra 7)).toInt64) * ((ra 0).toInt64))) g6 g25 cn pq en (dy + 1) fn9 (upd ra 4 (nI (dy + 1))) H.size hn10 hcn hpq hen (by omega) hn11) (cwV 0 hts gX10_passDay_X10_credit rfl rfl rfl (by decide +kernel) ⟨(Nat.le_of_ble_eq_true rfl), (Nat.le_of_ble_eq_true rfl)⟩) ⟨Wd.blind, va_recv hK hPc (ci := 11) (q0 := 0) rfl rfl, fun U hU hW => ⟨rfl, Wd.call hPc hDc hK hC hZ hS hFc U hU hW⟩⟩ rfl rfl hl.1 rfl (lv_room (Nat.le_of_ble_eq_true rfl)) dX10_passDay_56 ⟨(Nat.le_of_ble_eq_true rfl), (Nat.le_of_ble_eq_true rfl)⟩) hS (fun q _ h => hFc q h) hFc (fun u t H1 locs ht hvm hw hB hz1 hk1 hS => ?_)
    obtain ⟨zn29, qn30, fn31, hn32, hn33, hn34, hn35, hn36, hP1, hD1⟩ := hB
    rw [ht] at hP1
    obtain ⟨hP, hD⟩ := PDq.join (w := [(v31, .inl (cA 0, 400, .inl fc)), (v33, .inl (cA 0, 11, .inl fq)), (v35, .inl (cA 4, 400, .inl fk)), (v36, .inl (cA 0, 10, .inl fo)), (oX10 w0 v0 v1 v2 v3 v4 zn29 g6 (nI ed) g8 v9 (nI nb) g11 g12 v13 g14 g15 g16 g17 g18 g19 g20 g21 g22 g23 g24 g25 g26 v27 v28 v29 v30 v31 v32 v33 v34 v35 v36 v37 (nI ol)), (v0, .inl (cA 0, 326, .inl fn31))]) 4 hP hD [0, 1] [2, 3, 4, 5] rfl rfl (by decide) (by decide) hk1 hFc hP1 hD1 rfl
    generalize H1 = H at hP hS ⊢
    refine lv_aload_n hx hb dX10_passDay_59 rfl (lv_at hl 0 rfl) ?_
    obtain ⟨hPc, hDc, hFc⟩ := PDq.cut (wc := [(oX10 w0 v0 v1 v2 v3 v4 zn29 g6 (nI ed) g8 v9 (nI nb) g11 g12 v13 g14 g15 g16 g17 g18 g19 g20 g21 g22 g23 g24 g25 g26 v27 v28 v29 v30 v31 v32 v33 v34 v35 v36 v37 (nI ol)), (v0, .inl (cA 0, 326, .inl fn31)), (v31, .inl (cA 0, 400, .inl fc)), (v33, .inl (cA 0, 11, .inl fq)), (v35, .inl (cA 4, 400, .inl fk))]) hP hD hS hA [4, 5, 0, 1, 2] (by decide) rfl
    refine va_callv (va_runV (As := []) (rest := []) ⟨hx, hb, hml, hown, hts⟩ (e_becomeDue l D cA sa w0 ed nb ol v0 v1 v2 v3 v4 v9 v13 v27 v28 v29 v30 v31 v32 v33 v34 v35 v36 v37 g8 g11 g12 g14 g15 g16 g17 g18 g19 g20 g21 g22 g23 g24 g26 zn29 g6 g25 cn pq qn30 (dy + 1) fn31 fc fq fk (crR (g5 + ((((ra 6) + (ra 7)).toInt64) * ((ra 0).toInt64))) (upd ra 4 (nI (dy + 1)))) cq H.size hn34 hcn hpq hn32 (by omega) hn33 hCQ hcq hbit) (cwV 0 hts gX10_passDay_X10_becomeDue rfl rfl rfl (by decide +kernel) ⟨(Nat.le_of_ble_eq_true rfl), (Nat.le_of_ble_eq_true rfl)⟩) ⟨Wd.blind, va_recv hK hPc (ci := 11) (q0 := 0) rfl rfl, fun U hU hW => ⟨rfl, Wd.call hPc hDc hK hC hZ hS hFc U hU hW⟩⟩ rfl rfl hl.1 rfl (lv_room (Nat.le_of_ble_eq_true rfl)) dX10_passDay_60 ⟨(Nat.le_of_ble_eq_true rfl), (Nat.le_of_ble_eq_true rfl)⟩) hS (fun q _ h => hFc q h) hFc (fun u t H1 locs ht hvm hw hB hz1 hk1 hS => ?_)
    obtain ⟨fn37, fn38, hn39, hn40, hn41, hP1, hD1⟩ := hB
    rw [ht] at hP1
    obtain ⟨hP, hD⟩ := PDq.join (w := [(v36, .inl (cA 0, 10, .inl fo)), (oX10 w0 v0 v1 v2 v3 v4 zn29 g6 (nI ed) g8 v9 (nI nb) g11 g12 v13 g14 g15 g16 g17 g18 g19 g20 g21 g22 g23 g24 g25 g26 v27 v28 v29 v30 v31 v32 v33 v34 v35 v36 v37 (nI ol)), (v0, .inl (cA 0, 326, .inl fn37)), (v31, .inl (cA 0, 400, .inl fc)), (v33, .inl (cA 0, 11, .inl fq)), (v35, .inl (cA 4, 400, .inl fn38))]) 1 hP hD [4, 5, 0, 1, 2] [3] rfl rfl (by decide) (by decide) hk1 hFc hP1 hD1 rfl
    generalize H1 = H at hP hS ⊢
    refine lv_aload_n hx hb dX10_passDay_63 rfl (lv_at hl 0 rfl) ?_
    obtain ⟨hPc, hDc, hFc⟩ := PDq.cut (wc := [(oX10 w0 v0 v1 v2 v3 v4 zn29 g6 (nI ed) g8 v9 (nI nb) g11 g12 v13 g14 g15 g16 g17 g18 g19 g20 g21 g22 g23 g24 g25 g26 v27 v28 v29 v30 v31 v32 v33 v34 v35 v36 v37 (nI ol)), (v0, .inl (cA 0, 326, .inl fn37)), (v36, .inl (cA 0, 10, .inl fo))]) hP hD hS hA [1, 2, 0] (by decide) rfl
    refine va_callv (va_runV (As := []) (rest := []) ⟨hx, hb, hml, hown, hts⟩ (e_payDue l D cA sa w0 ed nb ol v0 v1 v2 v3 v4 v9 v13 v27 v28 v29 v30 v31 v32 v33 v34 v35 v36 v37 g8 g11 g12 g14 g15 g16 g17 g18 g19 g20 g21 g22 g23 g24 g26 zn29 g6 g25 cn pq qn30 (dy + 1) fn37 (dues fc cq (doR (crR (g5 + ((((ra 6) + (ra 7)).toInt64) * ((ra 0).toInt64))) (upd ra 4 (nI (dy + 1)))) cn) (crR (g5 + ((((ra 6) + (ra 7)).toInt64) * ((ra 0).toInt64))) (upd ra 4 (nI (dy + 1)))) cn) fo H.size hn41 hcn hpq hn32 (by omega) hn40 hord) (cwV 0 hts gX10_passDay_X10_payDue rfl rfl rfl (by decide +kernel) ⟨(Nat.le_of_ble_eq_true rfl), (Nat.le_of_ble_eq_true rfl)⟩) ⟨Wd.blind, va_recv hK hPc (ci := 11) (q0 := 0) rfl rfl, fun U hU hW => ⟨rfl, Wd.call hPc hDc hK hC hZ hS hFc U hU hW⟩⟩ rfl rfl hl.1 rfl (lv_room (Nat.le_of_ble_eq_true rfl)) dX10_passDay_64 ⟨(Nat.le_of_ble_eq_true rfl), (Nat.le_of_ble_eq_true rfl)⟩) hS (fun q _ h => hFc q h) hFc (fun u t H1 locs ht hvm hw hB hz1 hk1 hS => ?_)
    obtain ⟨qn42, fn43, fn44, hn45, hn46, hn47, hn48, hP1, hD1⟩ := hB
    rw [ht] at hP1
    obtain ⟨hP, hD⟩ := PDq.join (w := [(v31, .inl (cA 0, 400, .inl fc)), (v33, .inl (cA 0, 11, .inl fq)), (v35, .inl (cA 4, 400, .inl fn38)), (oX10 w0 v0 v1 v2 v3 v4 zn29 g6 (nI ed) g8 v9 (nI nb) g11 g12 v13 g14 g15 g16 g17 g18 g19 g20 g21 g22 g23 g24 g25 g26 v27 v28 v29 v30 v31 v32 v33 v34 v35 v36 v37 (nI ol)), (v0, .inl (cA 0, 326, .inl fn43)), (v36, .inl (cA 0, 10, .inl fn44))]) 3 hP hD [1, 2, 0] [3, 4, 5] rfl rfl (by decide) (by decide) hk1 hFc hP1 hD1 rfl
    generalize H1 = H at hP hS ⊢
    obtain ⟨hP9, hD9⟩ := PDq.sub (ws' := [(oX10 w0 v0 v1 v2 v3 v4 zn29 g6 (nI ed) g8 v9 (nI nb) g11 g12 v13 g14 g15 g16 g17 g18 g19 g20 g21 g22 g23 g24 g25 g26 v27 v28 v29 v30 v31 v32 v33 v34 v35 v36 v37 (nI ol)), (v0, .inl (cA 0, 326, .inl fn43)), (v31, .inl (cA 0, 400, .inl fc)), (v33, .inl (cA 0, 11, .inl fq)), (v35, .inl (cA 4, 400, .inl fn38)), (v36, .inl (cA 0, 10, .inl fn44))]) hP hD [3, 4, 0, 1, 2, 5] (by decide) rfl
    refine W.widen (k := 0) (n := 0) (Nat.le_of_ble_eq_true rfl) (Nat.le_of_ble_eq_true rfl) ?_
    exact (W.vret hx hb hr (fun t ht hW => ⟨⟨(), rfl, trivial, qn42, (dy + 1), zn29, fn43, fn38, fn44, hn45, hn46, hn39, hn47, (by omega), ⟨_, Or.inl ⟨hn28, rfl, hn35⟩, hn48⟩, by rw [ht]; exact hP9, hD9⟩, hS.F ht⟩) hS.2.2 dX10_passDay_67)

set_option maxHeartbeats 4000000 in
set_option maxRecDepth 100000 in
/-- reference, exactly: passDays -/
theorem e_passDays (l : Launch) (D : va_G) (cA : Nat → ClassId) (sa : Nat → Nat) (w0 : Nat) (ed : Nat) (nb : Nat) (ol : Nat) (v0 : Nat) (v1 : Nat) (v2 : Nat) (v3 : Nat) (v4 : Nat) (v9 : Nat) (v13 : Nat) (v27 : Nat) (v28 : Nat) (v29 : Nat) (v30 : Nat) (v31 : Nat) (v32 : Nat) (v33 : Nat) (v34 : Nat) (v35 : Nat) (v36 : Nat) (v37 : Nat) (g8 : Int32) (g11 : Int32) (g12 : Int32) (g14 : Int32) (g15 : Int32) (g16 : Int32) (g17 : Int32) (g18 : Int32) (g19 : Int32) (g20 : Int32) (g21 : Int32) (g22 : Int32) (g23 : Int32) (g24 : Int32) (g26 : Int32) (g5 : Int64) (g6 : Int64) (g25 : Int64) (cn : Nat) (pq : Nat) (en : Nat) (dy : Nat) (fs : Nat → Int32) (fc : Nat → Int32) (fq : Nat → Int32) (fk : Nat → Int32) (cq : Nat → Nat) (fo : Nat → Int32) (N : Nat) (sz : Nat) (hcn : cn ≤ 10) (hpq : pq ≤ 8) (hen : en ≤ 60) (hdy : dy ≤ 20000) (hri : RI cn pq en dy fs) (hCQ : CQ cn fc cq) (hcq : Elq cn cq fq) (hbit : Bit 400 fk) (hord : Rng 10 10 fo) (hN : N ≤ 120) (hdN : dy + N ≤ 20000) : Met l yX10_passDays wsX10_passDays ({ frames := 6, cells := 0, slots := 0, locals := 129 }) (va_Pc [.ref w0, .int (nI N)] (Wd D cA sa [(oX10 w0 v0 v1 v2 v3 v4 g5 g6 (nI ed) g8 v9 (nI nb) g11 g12 v13 g14 g15 g16 g17 g18 g19 g20 g21 g22 g23 g24 g25 g26 v27 v28 v29 v30 v31 v32 v33 v34 v35 v36 v37 (nI ol)), (v0, .inl (cA 0, 326, .inl fs)), (v31, .inl (cA 0, 400, .inl fc)), (v33, .inl (cA 0, 11, .inl fq)), (v35, .inl (cA 4, 400, .inl fk)), (v36, .inl (cA 0, 10, .inl fo))] sz)) (va_Qv (fun _ : Unit => True) (fun (_ : Unit) t => ∃ e2 : Nat, ∃ d2 : Nat, ∃ zq : Int64, ∃ zs : Nat → Int32, ∃ zk : Nat → Int32, ∃ zo : Nat → Int32, e2 ≤ 60 ∧ RI cn pq e2 d2 zs ∧ Bit 400 zk ∧ Rng 10 10 zo ∧ d2 = dy + N ∧ DysR fc cq cn N dy fs g5 zs zq ∧ Wq D (va_A [(oX10 w0 v0 v1 v2 v3 v4 g5 g6 (nI ed) g8 v9 (nI nb) g11 g12 v13 g14 g15 g16 g17 g18 g19 g20 g21 g22 g23 g24 g25 g26 v27 v28 v29 v30 v31 v32 v33 v34 v35 v36 v37 (nI ol)), (v0, .inl (cA 0, 326, .inl fs)), (v31, .inl (cA 0, 400, .inl fc)), (v33, .inl (cA 0, 11, .inl fq)), (v35, .inl (cA 4, 400, .inl fk)), (v36, .inl (cA 0, 10, .inl fo))] sz) [(oX10 w0 v0 v1 v2 v3 v4 zq g6 (nI ed) g8 v9 (nI nb) g11 g12 v13 g14 g15 g16 g17 g18 g19 g20 g21 g22 g23 g24 g25 g26 v27 v28 v29 v30 v31 v32 v33 v34 v35 v36 v37 (nI ol)), (v0, .inl (cA 0, 326, .inl zs)), (v31, .inl (cA 0, 400, .inl fc)), (v33, .inl (cA 0, 11, .inl fq)), (v35, .inl (cA 4, 400, .inl zk)), (v36, .inl (cA 0, 10, .inl zo))] t) (va_A [(oX10 w0 v0 v1 v2 v3 v4 g5 g6 (nI ed) g8 v9 (nI nb) g11 g12 v13 g14 g15 g16 g17 g18 g19 g20 g21 g22 g23 g24 g25 g26 v27 v28 v29 v30 v31 v32 v33 v34 v35 v36 v37 (nI ol)), (v0, .inl (cA 0, 326, .inl fs)), (v31, .inl (cA 0, 400, .inl fc)), (v33, .inl (cA 0, 11, .inl fq)), (v35, .inl (cA 4, 400, .inl fk)), (v36, .inl (cA 0, 10, .inl fo))] sz)) 0 0 (va_A [(oX10 w0 v0 v1 v2 v3 v4 g5 g6 (nI ed) g8 v9 (nI nb) g11 g12 v13 g14 g15 g16 g17 g18 g19 g20 g21 g22 g23 g24 g25 g26 v27 v28 v29 v30 v31 v32 v33 v34 v35 v36 v37 (nI ol)), (v0, .inl (cA 0, 326, .inl fs)), (v31, .inl (cA 0, 400, .inl fc)), (v33, .inl (cA 0, 11, .inl fq)), (v35, .inl (cA 4, 400, .inl fk)), (v36, .inl (cA 0, 10, .inl fo))] sz) := by
  refine Met.ofW (cc := cX10_passDays) (maxL := 3) (ret := none) (by decide) rfl ?_
  intro p e s m args below meth c s₁ B hml hv
  obtain ⟨rfl, hsz, hP, hK, hD0, hC, hZ⟩ := hv
  have hx := B.exec
  have hb := B.bytes
  have hr := B.returns
  have hts := atoms_spec (ws := wsX10_passDays) B.pre
  have hown : s.vm.findClass RX10 = some m.cls := findClass_of_methodNamed B.named
  have hlocks := B.notSynchronized
  subst hsz
  have hD := hD0.self (sz := s.heap.size)
  generalize hAe : va_A [(oX10 w0 v0 v1 v2 v3 v4 g5 g6 (nI ed) g8 v9 (nI nb) g11 g12 v13 g14 g15 g16 g17 g18 g19 g20 g21 g22 g23 g24 g25 g26 v27 v28 v29 v30 v31 v32 v33 v34 v35 v36 v37 (nI ol)), (v0, .inl (cA 0, 326, .inl fs)), (v31, .inl (cA 0, 400, .inl fc)), (v33, .inl (cA 0, 11, .inl fq)), (v35, .inl (cA 4, 400, .inl fk)), (v36, .inl (cA 0, 10, .inl fo))] s.heap.size = A at hD hZ ⊢
  have hA : ∀ q : Nat, s.heap.size ≤ q → A q := fun q h => by rw [← hAe]; exact Or.inr h
  have hS : va_S A s.heap s.heap [] := va_S.rf
  have hP : va_P D vwCl [(oX10 w0 v0 v1 v2 v3 v4 g5 g6 (nI ed) g8 v9 (nI nb) g11 g12 v13 g14 g15 g16 g17 g18 g19 g20 g21 g22 g23 g24 g25 g26 v27 v28 v29 v30 v31 v32 v33 v34 v35 v36 v37 (nI ol)), (v0, .inl (cA 0, 326, .inl fs)), (v31, .inl (cA 0, 400, .inl fc)), (v33, .inl (cA 0, 11, .inl fq)), (v35, .inl (cA 4, 400, .inl fk)), (v36, .inl (cA 0, 10, .inl fo))] s.heap := hP
  have hl := lv_entry ([.ref w0, .int (nI N)]) (n := 3) (Nat.le_of_ble_eq_true rfl)
  rw [lg_entry_eq]
  generalize (lg_sl ([.ref w0, .int (nI N)]) ++ List.replicate (3 - (lg_sl ([.ref w0, .int (nI N)])).length) Slot.unset).toArray = ls at hl ⊢
  have hl : lv_has ls 3 [(0, .ref w0), (1, .int (nI N))] := hl
  refine lv_iconst (v := 0) hx hb dX10_passDays_0 (by decide) ?_
  refine lv_istore_n (lv' := [(2, .int 0), (0, .ref w0), (1, .int (nI N))]) hx hb dX10_passDays_1 rfl hl (by decide) rfl (fun ls hl => ?_)
  have loop1 : ∀ (n1 i1 : Nat) (ei : Nat) (di : Nat) (u0_5_1 : Int64) (f1_1 : Nat → Int32) (f4_1 : Nat → Int32) (f5_1 : Nat → Int32) (H : Heap) (locs : List Loc) (ls : Array Slot), i1 + n1 = N → Bit 400 f4_1 → Rng 10 10 f5_1 → ei ≤ 60 → di = dy + i1 → RI cn pq ei di f1_1 → DysR fc cq cn i1 dy fs g5 f1_1 u0_5_1 → va_P D vwCl [(oX10 w0 v0 v1 v2 v3 v4 u0_5_1 g6 (nI ed) g8 v9 (nI nb) g11 g12 v13 g14 g15 g16 g17 g18 g19 g20 g21 g22 g23 g24 g25 g26 v27 v28 v29 v30 v31 v32 v33 v34 v35 v36 v37 (nI ol)), (v0, .inl (cA 0, 326, .inl f1_1)), (v31, .inl (cA 0, 400, .inl fc)), (v33, .inl (cA 0, 11, .inl fq)), (v35, .inl (cA 4, 400, .inl f4_1)), (v36, .inl (cA 0, 10, .inl f5_1))] H → va_D A [(oX10 w0 v0 v1 v2 v3 v4 u0_5_1 g6 (nI ed) g8 v9 (nI nb) g11 g12 v13 g14 g15 g16 g17 g18 g19 g20 g21 g22 g23 g24 g25 g26 v27 v28 v29 v30 v31 v32 v33 v34 v35 v36 v37 (nI ol)), (v0, .inl (cA 0, 326, .inl f1_1)), (v31, .inl (cA 0, 400, .inl fc)), (v33, .inl (cA 0, 11, .inl fq)), (v35, .inl (cA 4, 400, .inl f4_1)), (v36, .inl (cA 0, 10, .inl f5_1))] → va_S A s.heap H locs → lv_has ls 3 [(2, .int (nI i1)), (0, .ref w0), (1, .int (nI N))] → W p l e (headSpec wsX10_passDays ({ frames := 6, cells := 0, slots := 0, locals := 129 } : Room)).room s m ([.ref w0, .int (nI N)] : List Value).toArray below meth c H locs 0 0 (MQ below (va_Qv (fun _ : Unit => True) (fun (_ : Unit) t => ∃ e2 : Nat, ∃ d2 : Nat, ∃ zq : Int64, ∃ zs : Nat → Int32, ∃ zk : Nat → Int32, ∃ zo : Nat → Int32, e2 ≤ 60 ∧ RI cn pq e2 d2 zs ∧ Bit 400 zk ∧ Rng 10 10 zo ∧ d2 = dy + N ∧ DysR fc cq cn N dy fs g5 zs zq ∧ Wq D A [(oX10 w0 v0 v1 v2 v3 v4 zq g6 (nI ed) g8 v9 (nI nb) g11 g12 v13 g14 g15 g16 g17 g18 g19 g20 g21 g22 g23 g24 g25 g26 v27 v28 v29 v30 v31 v32 v33 v34 v35 v36 v37 (nI ol)), (v0, .inl (cA 0, 326, .inl zs)), (v31, .inl (cA 0, 400, .inl fc)), (v33, .inl (cA 0, 11, .inl fq)), (v35, .inl (cA 4, 400, .inl zk)), (v36, .inl (cA 0, 10, .inl zo))] t) A) ([.ref w0, .int (nI N)] : List Value).toArray s 0 0 A) (F0 m 2 ls []) := by
    intro n1
    induction n1 with
    | zero =>
      intro i1 ei di u0_5_1 f1_1 f4_1 f5_1 H locs ls hi1 hf0_1 hf1_1 hv0_1 hv1_1 hv2_1 hv3_1 hP hD hS hl
      obtain rfl : N = i1 := by omega
      refine lv_iload_n hx hb dX10_passDays_2 rfl (lv_at hl 0 rfl) ?_
      refine lv_iload_n hx hb dX10_passDays_3 rfl (lv_at hl 2 rfl) ?_
      refine lv_icmp_ge (tgt := 17) hx hb dX10_passDays_4 (by decide) (fun c1 => ?_) (fun c9 => absurd (nI_le (a := N) (b := N) (show N ≤ N by omega) (by omega)) c9)
      obtain ⟨hP9, hD9⟩ := PDq.sub (ws' := [(oX10 w0 v0 v1 v2 v3 v4 u0_5_1 g6 (nI ed) g8 v9 (nI nb) g11 g12 v13 g14 g15 g16 g17 g18 g19 g20 g21 g22 g23 g24 g25 g26 v27 v28 v29 v30 v31 v32 v33 v34 v35 v36 v37 (nI ol)), (v0, .inl (cA 0, 326, .inl f1_1)), (v31, .inl (cA 0, 400, .inl fc)), (v33, .inl (cA 0, 11, .inl fq)), (v35, .inl (cA 4, 400, .inl f4_1)), (v36, .inl (cA 0, 10, .inl f5_1))]) hP hD [0, 1, 2, 3, 4, 5] (by decide) rfl
      refine W.widen (k := 0) (n := 0) (Nat.le_of_ble_eq_true rfl) (Nat.le_of_ble_eq_true rfl) ?_
      exact (W.vret hx hb hr (fun t ht hW => ⟨⟨(), rfl, trivial, ei, di, u0_5_1, f1_1, f4_1, f5_1, hv0_1, hv2_1, hf0_1, hf1_1, hv1_1, hv3_1, by rw [ht]; exact hP9, hD9⟩, hS.F ht⟩) hS.2.2 dX10_passDays_17)
    | succ n1 ih1 =>
      intro i1 ei di u0_5_1 f1_1 f4_1 f5_1 H locs ls hi1 hf0_1 hf1_1 hv0_1 hv1_1 hv2_1 hv3_1 hP hD hS hl
      refine lv_iload_n hx hb dX10_passDays_2 rfl (lv_at hl 0 rfl) ?_
      refine lv_iload_n hx hb dX10_passDays_3 rfl (lv_at hl 2 rfl) ?_
      refine lv_icmp_ge (tgt := 17) hx hb dX10_passDays_4 (by decide) (fun c9 => absurd c9 (nI_ge (a := i1) (b := N) (show i1 < N by omega) (by omega))) (fun c2 => ?_)
      refine lv_aload_n hx hb dX10_passDays_7 rfl (lv_at hl 1 rfl) ?_
      obtain ⟨hPc, hDc, hFc⟩ := PDq.cut (wc := [(oX10 w0 v0 v1 v2 v3 v4 u0_5_1 g6 (nI ed) g8 v9 (nI nb) g11 g12 v13 g14 g15 g16 g17 g18 g19 g20 g21 g22 g23 g24 g25 g26 v27 v28 v29 v30 v31 v32 v33 v34 v35 v36 v37 (nI ol)), (v0, .inl (cA 0, 326, .inl f1_1)), (v31, .inl (cA 0, 400, .inl fc)), (v33, .inl (cA 0, 11, .inl fq)), (v35, .inl (cA 4, 400, .inl f4_1)), (v36, .inl (cA 0, 10, .inl f5_1))]) hP hD hS hA [0, 1, 2, 3, 4, 5] (by decide) rfl
      refine va_callv (va_runV (As := []) (rest := []) ⟨hx, hb, hml, hown, hts⟩ (e_passDay l D cA sa w0 ed nb ol v0 v1 v2 v3 v4 v9 v13 v27 v28 v29 v30 v31 v32 v33 v34 v35 v36 v37 g8 g11 g12 g14 g15 g16 g17 g18 g19 g20 g21 g22 g23 g24 g26 u0_5_1 g6 g25 cn pq ei di f1_1 fc fq f4_1 f1_1 cq f5_1 H.size (Ab.rf _) hcn hpq hv0_1 (by omega) hv2_1 hCQ hcq hf0_1 hf1_1 (by omega)) (cwV 0 hts gX10_passDays_X10_passDay rfl rfl rfl (by decide +kernel) ⟨(Nat.le_of_ble_eq_true rfl), (Nat.le_of_ble_eq_true rfl)⟩) ⟨Wd.blind, va_recv hK hPc (ci := 11) (q0 := 0) rfl rfl, fun U hU hW => ⟨rfl, Wd.call hPc hDc hK hC hZ hS hFc U hU hW⟩⟩ rfl rfl hl.1 rfl (lv_room (Nat.le_of_ble_eq_true rfl)) dX10_passDays_8 ⟨(Nat.le_of_ble_eq_true rfl), (Nat.le_of_ble_eq_true rfl)⟩) hS (fun q _ h => hFc q h) hFc (fun u t H1 locs ht hvm hw hB hz1 hk1 hS => ?_)
      obtain ⟨qn3, qn4, zn5, fn6, fn7, fn8, hn9, hn10, hn11, hn12, hn13, hn14, hP1, hD1⟩ := hB
      rw [ht] at hP1
      obtain ⟨hP, hD⟩ := PDq.join (w := [(oX10 w0 v0 v1 v2 v3 v4 zn5 g6 (nI ed) g8 v9 (nI nb) g11 g12 v13 g14 g15 g16 g17 g18 g19 g20 g21 g22 g23 g24 g25 g26 v27 v28 v29 v30 v31 v32 v33 v34 v35 v36 v37 (nI ol)), (v0, .inl (cA 0, 326, .inl fn6)), (v31, .inl (cA 0, 400, .inl fc)), (v33, .inl (cA 0, 11, .inl fq)), (v35, .inl (cA 4, 400, .inl fn7)), (v36, .inl (cA 0, 10, .inl fn8))]) 0 hP hD [0, 1, 2, 3, 4, 5] [] rfl rfl (by decide) (by decide) hk1 hFc hP1 hD1 rfl
      generalize H1 = H at hP hS ⊢
      refine lv_iinc (v := (nI (i1 + 1))) (lv' := [(2, .int (nI (i1 + 1))), (0, .ref w0), (1, .int (nI N))]) hx hb dX10_passDays_11 hl (k := 0) rfl (nI_1 _) (by decide) rfl (fun ls hl => ?_)
      refine lv_goto (tgt := 2) hx hb dX10_passDays_14 (by decide) ?_
      obtain ⟨hP9, hD9⟩ := PDq.sub (ws' := [(oX10 w0 v0 v1 v2 v3 v4 zn5 g6 (nI ed) g8 v9 (nI nb) g11 g12 v13 g14 g15 g16 g17 g18 g19 g20 g21 g22 g23 g24 g25 g26 v27 v28 v29 v30 v31 v32 v33 v34 v35 v36 v37 (nI ol)), (v0, .inl (cA 0, 326, .inl fn6)), (v31, .inl (cA 0, 400, .inl fc)), (v33, .inl (cA 0, 11, .inl fq)), (v35, .inl (cA 4, 400, .inl fn7)), (v36, .inl (cA 0, 10, .inl fn8))]) hP hD [0, 1, 2, 3, 4, 5] (by decide) rfl
      exact ih1 (i1 + 1) qn3 qn4 zn5 fn6 fn7 fn8 H _ ls (by omega) hn11 hn12 hn9 (by omega) hn10 (DysR.step hv3_1 (by have q9 := hn14; rw [show di = dy + i1 by omega] at q9; exact q9)) hP9 hD9 hS (lv_sub hl [0, 1, 2] rfl)
  obtain ⟨hP9, hD9⟩ := PDq.sub (ws' := [(oX10 w0 v0 v1 v2 v3 v4 g5 g6 (nI ed) g8 v9 (nI nb) g11 g12 v13 g14 g15 g16 g17 g18 g19 g20 g21 g22 g23 g24 g25 g26 v27 v28 v29 v30 v31 v32 v33 v34 v35 v36 v37 (nI ol)), (v0, .inl (cA 0, 326, .inl fs)), (v31, .inl (cA 0, 400, .inl fc)), (v33, .inl (cA 0, 11, .inl fq)), (v35, .inl (cA 4, 400, .inl fk)), (v36, .inl (cA 0, 10, .inl fo))]) hP hD [0, 1, 2, 3, 4, 5] (by decide) rfl
  exact loop1 (N - 0) 0 en dy g5 fs fk fo _ _ ls (by omega) hbit hord hen (by omega) hri ⟨Ab.rf _, rfl⟩ hP9 hD9 hS (lv_sub hl [0, 1, 2] rfl)

set_option maxHeartbeats 4000000 in
set_option maxRecDepth 100000 in
/-- reference, exactly: copy -/
theorem e_copy (l : Launch) (D : va_G) (cA : Nat → ClassId) (sa : Nat → Nat) (h0 : Nat) (h1 : Nat) (cn : Nat) (pq : Nat) (en : Nat) (dy : Nat) (fs : Nat → Int32) (gt : Nat → Int32) (sz : Nat) (hcn : cn ≤ 10) (hpq : pq ≤ 8) (hen : en ≤ 60) (hdy : dy ≤ 20000) (hri : RI cn pq en dy fs) : Met l yX10_copy wsX10_copy ({ frames := 0, cells := 0, slots := 0, locals := 0 }) (va_Pc [.ref h0, .ref h1] (Wd D cA sa [(h0, .inl (cA 0, 326, .inl fs)), (h1, .inl (cA 0, 326, .inl gt))] sz)) (va_Qv (fun _ : Unit => True) (fun (_ : Unit) t => ∃ zs : Nat → Int32, RI cn pq en dy zs ∧ Cp 326 fs zs ∧ Wq D (va_A [(h0, .inl (cA 0, 326, .inl fs)), (h1, .inl (cA 0, 326, .inl gt))] sz) [(h0, .inl (cA 0, 326, .inl fs)), (h1, .inl (cA 0, 326, .inl zs))] t) (va_A [(h0, .inl (cA 0, 326, .inl fs)), (h1, .inl (cA 0, 326, .inl gt))] sz)) 0 0 (va_A [(h0, .inl (cA 0, 326, .inl fs)), (h1, .inl (cA 0, 326, .inl gt))] sz) := by
  refine Met.ofW (cc := cX10_copy) (maxL := 3) (ret := none) (by decide) rfl ?_
  intro p e s m args below meth c s₁ B hml hv
  obtain ⟨rfl, hsz, hP, hK, hD0, hC, hZ⟩ := hv
  have hx := B.exec
  have hb := B.bytes
  have hr := B.returns
  have hts := atoms_spec (ws := wsX10_copy) B.pre
  have hown : s.vm.findClass RX10 = some m.cls := findClass_of_methodNamed B.named
  have hlocks := B.notSynchronized
  subst hsz
  have hD := hD0.self (sz := s.heap.size)
  generalize hAe : va_A [(h0, .inl (cA 0, 326, .inl fs)), (h1, .inl (cA 0, 326, .inl gt))] s.heap.size = A at hD hZ ⊢
  have hA : ∀ q : Nat, s.heap.size ≤ q → A q := fun q h => by rw [← hAe]; exact Or.inr h
  have hS : va_S A s.heap s.heap [] := va_S.rf
  have hP : va_P D vwCl [(h0, .inl (cA 0, 326, .inl fs)), (h1, .inl (cA 0, 326, .inl gt))] s.heap := hP
  have hl := lv_entry ([.ref h0, .ref h1]) (n := 3) (Nat.le_of_ble_eq_true rfl)
  rw [lg_entry_eq]
  generalize (lg_sl ([.ref h0, .ref h1]) ++ List.replicate (3 - (lg_sl ([.ref h0, .ref h1])).length) Slot.unset).toArray = ls at hl ⊢
  have hl : lv_has ls 3 [(0, .ref h0), (1, .ref h1)] := hl
  refine lv_iconst (v := 0) hx hb dX10_copy_0 (by decide) ?_
  refine lv_istore_n (lv' := [(2, .int 0), (0, .ref h0), (1, .ref h1)]) hx hb dX10_copy_1 rfl hl (by decide) rfl (fun ls hl => ?_)
  have loop1 : ∀ (n1 i1 : Nat) (f1_1 : Nat → Int32) (H : Heap) (locs : List Loc) (ls : Array Slot), i1 + n1 = 326 → Cp i1 fs f1_1 → va_P D vwCl [(h0, .inl (cA 0, 326, .inl fs)), (h1, .inl (cA 0, 326, .inl f1_1))] H → va_D A [(h0, .inl (cA 0, 326, .inl fs)), (h1, .inl (cA 0, 326, .inl f1_1))] → va_S A s.heap H locs → lv_has ls 3 [(2, .int (nI i1)), (0, .ref h0), (1, .ref h1)] → W p l e (headSpec wsX10_copy ({ frames := 0, cells := 0, slots := 0, locals := 0 } : Room)).room s m ([.ref h0, .ref h1] : List Value).toArray below meth c H locs 0 0 (MQ below (va_Qv (fun _ : Unit => True) (fun (_ : Unit) t => ∃ zs : Nat → Int32, RI cn pq en dy zs ∧ Cp 326 fs zs ∧ Wq D A [(h0, .inl (cA 0, 326, .inl fs)), (h1, .inl (cA 0, 326, .inl zs))] t) A) ([.ref h0, .ref h1] : List Value).toArray s 0 0 A) (F0 m 2 ls []) := by
    intro n1
    induction n1 with
    | zero =>
      intro i1 f1_1 H locs ls hi1 hv0_1 hP hD hS hl
      obtain rfl : 326 = i1 := by omega
      refine lv_iload_n hx hb dX10_copy_2 rfl (lv_at hl 0 rfl) ?_
      refine lv_sipush (v := 326) hx hb dX10_copy_3 (by decide) ?_
      refine lv_icmp_ge (tgt := 21) hx hb dX10_copy_6 (by decide) (fun c1 => ?_) (fun c9 => absurd (nI_le (a := 326) (b := 326) (show 326 ≤ 326 by omega) (by omega)) c9)
      obtain ⟨hP9, hD9⟩ := PDq.sub (ws' := [(h0, .inl (cA 0, 326, .inl fs)), (h1, .inl (cA 0, 326, .inl f1_1))]) hP hD [0, 1] (by decide) rfl
      refine W.widen (k := 0) (n := 0) (Nat.le_of_ble_eq_true rfl) (Nat.le_of_ble_eq_true rfl) ?_
      exact (W.vret hx hb hr (fun t ht hW => ⟨⟨(), rfl, trivial, f1_1, (RI.same hri (fun j hj => hv0_1 j hj)), hv0_1, by rw [ht]; exact hP9, hD9⟩, hS.F ht⟩) hS.2.2 dX10_copy_21)
    | succ n1 ih1 =>
      intro i1 f1_1 H locs ls hi1 hv0_1 hP hD hS hl
      refine lv_iload_n hx hb dX10_copy_2 rfl (lv_at hl 0 rfl) ?_
      refine lv_sipush (v := 326) hx hb dX10_copy_3 (by decide) ?_
      refine lv_icmp_ge (tgt := 21) hx hb dX10_copy_6 (by decide) (fun c9 => absurd c9 (nI_ge (a := i1) (b := 326) (show i1 < 326 by omega) (by omega))) (fun c2 => ?_)
      refine lv_aload_n hx hb dX10_copy_9 rfl (lv_at hl 2 rfl) ?_
      refine lv_iload_n hx hb dX10_copy_10 rfl (lv_at hl 0 rfl) ?_
      refine lv_aload_n hx hb dX10_copy_11 rfl (lv_at hl 1 rfl) ?_
      refine lv_iload_n hx hb dX10_copy_12 rfl (lv_at hl 0 rfl) ?_
      refine va_iald hx hb hK hP 0 0 rfl rfl (vp_in_nI (n := i1) (N := 326) (show i1 < 326 by omega) (by decide)) dX10_copy_13 ?_
      refine lv_topi (fun yn3 eyn3 => ?_)
      refine va_iast hx hb hK hP hD hS 1 0 rfl rfl (vp_in_nI (n := i1) (N := 326) (show i1 < 326 by omega) (by decide)) dX10_copy_14 (fun H locs hP hD hS => ?_)
      obtain ⟨hP, hD⟩ : PDq D A [(h0, .inl (cA 0, 326, .inl fs)), (h1, .inl (cA 0, 326, .inl (upd f1_1 (((nI i1)).toNatClampNeg) yn3)))] H := ⟨hP, hD⟩
      have hn5 : Cp (i1 + 1) fs (upd f1_1 (((nI i1)).toNatClampNeg) yn3) := (by rw [eyn3]; exact Cp.step (by omega) hv0_1)
      generalize (upd f1_1 (((nI i1)).toNatClampNeg) yn3) = fn4 at hP hD hn5
      obtain ⟨hP, hD⟩ : PDq D A [(h0, .inl (cA 0, 326, .inl fs)), (h1, .inl (cA 0, 326, .inl fn4))] H := ⟨hP, hD⟩
      refine lv_iinc (v := (nI (i1 + 1))) (lv' := [(2, .int (nI (i1 + 1))), (0, .ref h0), (1, .ref h1)]) hx hb dX10_copy_15 hl (k := 0) rfl (nI_1 _) (by decide) rfl (fun ls hl => ?_)
      refine lv_goto (tgt := 2) hx hb dX10_copy_18 (by decide) ?_
      obtain ⟨hP9, hD9⟩ := PDq.sub (ws' := [(h0, .inl (cA 0, 326, .inl fs)), (h1, .inl (cA 0, 326, .inl fn4))]) hP hD [0, 1] (by decide) rfl
      exact ih1 (i1 + 1) fn4 H _ ls (by omega) hn5 hP9 hD9 hS (lv_sub hl [0, 1, 2] rfl)
  obtain ⟨hP9, hD9⟩ := PDq.sub (ws' := [(h0, .inl (cA 0, 326, .inl fs)), (h1, .inl (cA 0, 326, .inl gt))]) hP hD [0, 1] (by decide) rfl
  exact loop1 (326 - 0) 0 gt _ _ ls (by omega) (fun j hj => absurd hj (Nat.not_lt_zero j)) hP9 hD9 hS (lv_sub hl [0, 1, 2] rfl)

set_option maxHeartbeats 4000000 in
set_option maxRecDepth 100000 in
/-- reference, exactly: remember -/
theorem e_remember (l : Launch) (D : va_G) (cA : Nat → ClassId) (sa : Nat → Nat) (w0 : Nat) (ed : Nat) (nb : Nat) (ol : Nat) (v0 : Nat) (v1 : Nat) (v2 : Nat) (v3 : Nat) (v4 : Nat) (v9 : Nat) (v13 : Nat) (v27 : Nat) (v28 : Nat) (v29 : Nat) (v30 : Nat) (v31 : Nat) (v32 : Nat) (v33 : Nat) (v34 : Nat) (v35 : Nat) (v36 : Nat) (v37 : Nat) (g8 : Int32) (g11 : Int32) (g12 : Int32) (g14 : Int32) (g15 : Int32) (g16 : Int32) (g17 : Int32) (g18 : Int32) (g19 : Int32) (g20 : Int32) (g21 : Int32) (g22 : Int32) (g23 : Int32) (g24 : Int32) (g26 : Int32) (g5 : Int64) (g6 : Int64) (g25 : Int64) (cn : Nat) (pq : Nat) (en : Nat) (dy : Nat) (fs : Nat → Int32) (fh : Nat → Int32) (fl : Nat → Int64) (sz : Nat) (hcn : cn ≤ 10) (hpq : pq ≤ 8) (hen : en ≤ 60) (hdy : dy ≤ 20000) (hri : RI cn pq en dy fs) (hed : ed ≤ 10) (hHI : HI cn pq ed fh) (hd9 : dy ≤ 9999) : Met l yX10_remember wsX10_remember ({ frames := 0, cells := 0, slots := 0, locals := 0 }) (va_Pc [.ref w0] (Wd D cA sa [(oX10 w0 v0 v1 v2 v3 v4 g5 g6 (nI ed) g8 v9 (nI nb) g11 g12 v13 g14 g15 g16 g17 g18 g19 g20 g21 g22 g23 g24 g25 g26 v27 v28 v29 v30 v31 v32 v33 v34 v35 v36 v37 (nI ol)), (v0, .inl (cA 0, 326, .inl fs)), (v3, .inl (cA 0, 3260, .inl fh)), (v4, .inl (cA 1, 10, .inr (.inl fl)))] sz)) (va_Qv (fun _ : Unit => True) (fun (_ : Unit) t => ∃ ed2 : Nat, ∃ zh : Nat → Int32, ∃ zl : Nat → Int64, ed2 ≤ 10 ∧ HI cn pq ed2 zh ∧ Hrem ed fh fl fs g5 ed2 zh zl ∧ Wq D (va_A [(oX10 w0 v0 v1 v2 v3 v4 g5 g6 (nI ed) g8 v9 (nI nb) g11 g12 v13 g14 g15 g16 g17 g18 g19 g20 g21 g22 g23 g24 g25 g26 v27 v28 v29 v30 v31 v32 v33 v34 v35 v36 v37 (nI ol)), (v0, .inl (cA 0, 326, .inl fs)), (v3, .inl (cA 0, 3260, .inl fh)), (v4, .inl (cA 1, 10, .inr (.inl fl)))] sz) [(oX10 w0 v0 v1 v2 v3 v4 g5 g6 (nI ed2) g8 v9 (nI nb) g11 g12 v13 g14 g15 g16 g17 g18 g19 g20 g21 g22 g23 g24 g25 g26 v27 v28 v29 v30 v31 v32 v33 v34 v35 v36 v37 (nI ol)), (v0, .inl (cA 0, 326, .inl fs)), (v3, .inl (cA 0, 3260, .inl zh)), (v4, .inl (cA 1, 10, .inr (.inl zl)))] t) (va_A [(oX10 w0 v0 v1 v2 v3 v4 g5 g6 (nI ed) g8 v9 (nI nb) g11 g12 v13 g14 g15 g16 g17 g18 g19 g20 g21 g22 g23 g24 g25 g26 v27 v28 v29 v30 v31 v32 v33 v34 v35 v36 v37 (nI ol)), (v0, .inl (cA 0, 326, .inl fs)), (v3, .inl (cA 0, 3260, .inl fh)), (v4, .inl (cA 1, 10, .inr (.inl fl)))] sz)) 0 0 (va_A [(oX10 w0 v0 v1 v2 v3 v4 g5 g6 (nI ed) g8 v9 (nI nb) g11 g12 v13 g14 g15 g16 g17 g18 g19 g20 g21 g22 g23 g24 g25 g26 v27 v28 v29 v30 v31 v32 v33 v34 v35 v36 v37 (nI ol)), (v0, .inl (cA 0, 326, .inl fs)), (v3, .inl (cA 0, 3260, .inl fh)), (v4, .inl (cA 1, 10, .inr (.inl fl)))] sz) := by
  refine Met.ofW (cc := cX10_remember) (maxL := 2) (ret := none) (by decide) rfl ?_
  intro p e s m args below meth c s₁ B hml hv
  obtain ⟨rfl, hsz, hP, hK, hD0, hC, hZ⟩ := hv
  have hx := B.exec
  have hb := B.bytes
  have hr := B.returns
  have hts := atoms_spec (ws := wsX10_remember) B.pre
  have hown : s.vm.findClass RX10 = some m.cls := findClass_of_methodNamed B.named
  have hlocks := B.notSynchronized
  subst hsz
  have hD := hD0.self (sz := s.heap.size)
  generalize hAe : va_A [(oX10 w0 v0 v1 v2 v3 v4 g5 g6 (nI ed) g8 v9 (nI nb) g11 g12 v13 g14 g15 g16 g17 g18 g19 g20 g21 g22 g23 g24 g25 g26 v27 v28 v29 v30 v31 v32 v33 v34 v35 v36 v37 (nI ol)), (v0, .inl (cA 0, 326, .inl fs)), (v3, .inl (cA 0, 3260, .inl fh)), (v4, .inl (cA 1, 10, .inr (.inl fl)))] s.heap.size = A at hD hZ ⊢
  have hA : ∀ q : Nat, s.heap.size ≤ q → A q := fun q h => by rw [← hAe]; exact Or.inr h
  have hS : va_S A s.heap s.heap [] := va_S.rf
  have hP : va_P D vwCl [(oX10 w0 v0 v1 v2 v3 v4 g5 g6 (nI ed) g8 v9 (nI nb) g11 g12 v13 g14 g15 g16 g17 g18 g19 g20 g21 g22 g23 g24 g25 g26 v27 v28 v29 v30 v31 v32 v33 v34 v35 v36 v37 (nI ol)), (v0, .inl (cA 0, 326, .inl fs)), (v3, .inl (cA 0, 3260, .inl fh)), (v4, .inl (cA 1, 10, .inr (.inl fl)))] s.heap := hP
  have hl := lv_entry ([.ref w0]) (n := 2) (Nat.le_of_ble_eq_true rfl)
  rw [lg_entry_eq]
  generalize (lg_sl ([.ref w0]) ++ List.replicate (2 - (lg_sl ([.ref w0])).length) Slot.unset).toArray = ls at hl ⊢
  have hl : lv_has ls 2 [(0, .ref w0)] := hl
  have inX10 : ∀ w ∈ u_ws RX10 TX10 39, w ∈ wsX10_remember := by decide +kernel
  refine lv_aload_n hx hb dX10_remember_0 rfl (lv_at hl 0 rfl) ?_
  refine va_get (D := D) (ci := 11) (v := .int (nI ed)) (C := RX10) (T := TX10) (N := 39) hx hb hts inX10 hown hK hP 0 rfl rfl 7 (by decide) (hts (.fieldLink RX10 83 "EscrowDeskModel" "edits" "I") (by decide +kernel)) (fun _ h9 => h9) rfl dX10_remember_1 ?_
  refine lv_bipush (v := 10) hx hb dX10_remember_4 (by decide) ?_
  refine lv_icmp_ne (tgt := 80) hx hb dX10_remember_6 (by decide) (fun c1 => ?_) (fun c1 => ?_)
  · skip
    have hn2 : ¬ ed = 10 := fun h9 => c1 ((nI_eq (a := ed) (b := 10) (by omega) (by omega)).mpr h9)
    refine lv_iconst (v := 0) hx hb dX10_remember_80 (by decide) ?_
    refine lv_istore_n (lv' := [(1, .int 0), (0, .ref w0)]) hx hb dX10_remember_81 rfl hl (by decide) rfl (fun ls hl => ?_)
    have loop1 : ∀ (n1 i1 : Nat) (f2_1 : Nat → Int32) (H : Heap) (locs : List Loc) (ls : Array Slot), i1 + n1 = 326 → Hcp ed i1 fs fh f2_1 → va_P D vwCl [(oX10 w0 v0 v1 v2 v3 v4 g5 g6 (nI ed) g8 v9 (nI nb) g11 g12 v13 g14 g15 g16 g17 g18 g19 g20 g21 g22 g23 g24 g25 g26 v27 v28 v29 v30 v31 v32 v33 v34 v35 v36 v37 (nI ol)), (v0, .inl (cA 0, 326, .inl fs)), (v3, .inl (cA 0, 3260, .inl f2_1)), (v4, .inl (cA 1, 10, .inr (.inl fl)))] H → va_D A [(oX10 w0 v0 v1 v2 v3 v4 g5 g6 (nI ed) g8 v9 (nI nb) g11 g12 v13 g14 g15 g16 g17 g18 g19 g20 g21 g22 g23 g24 g25 g26 v27 v28 v29 v30 v31 v32 v33 v34 v35 v36 v37 (nI ol)), (v0, .inl (cA 0, 326, .inl fs)), (v3, .inl (cA 0, 3260, .inl f2_1)), (v4, .inl (cA 1, 10, .inr (.inl fl)))] → va_S A s.heap H locs → lv_has ls 2 [(1, .int (nI i1)), (0, .ref w0)] → W p l e (headSpec wsX10_remember ({ frames := 0, cells := 0, slots := 0, locals := 0 } : Room)).room s m ([.ref w0] : List Value).toArray below meth c H locs 0 0 (MQ below (va_Qv (fun _ : Unit => True) (fun (_ : Unit) t => ∃ ed2 : Nat, ∃ zh : Nat → Int32, ∃ zl : Nat → Int64, ed2 ≤ 10 ∧ HI cn pq ed2 zh ∧ Hrem ed fh fl fs g5 ed2 zh zl ∧ Wq D A [(oX10 w0 v0 v1 v2 v3 v4 g5 g6 (nI ed2) g8 v9 (nI nb) g11 g12 v13 g14 g15 g16 g17 g18 g19 g20 g21 g22 g23 g24 g25 g26 v27 v28 v29 v30 v31 v32 v33 v34 v35 v36 v37 (nI ol)), (v0, .inl (cA 0, 326, .inl fs)), (v3, .inl (cA 0, 3260, .inl zh)), (v4, .inl (cA 1, 10, .inr (.inl zl)))] t) A) ([.ref w0] : List Value).toArray s 0 0 A) (F0 m 82 ls []) := by
      intro n1
      induction n1 with
      | zero =>
        intro i1 f2_1 H locs ls hi1 hv0_1 hP hD hS hl
        obtain rfl : 326 = i1 := by omega
        refine lv_iload_n hx hb dX10_remember_82 rfl (lv_at hl 0 rfl) ?_
        refine lv_sipush (v := 326) hx hb dX10_remember_83 (by decide) ?_
        refine lv_icmp_ge (tgt := 116) hx hb dX10_remember_86 (by decide) (fun c3 => ?_) (fun c9 => absurd (nI_le (a := 326) (b := 326) (show 326 ≤ 326 by omega) (by omega)) c9)
        refine lv_aload_n hx hb dX10_remember_116 rfl (lv_at hl 1 rfl) ?_
        refine va_get (D := D) (ci := 11) (v := .ref v4) (C := RX10) (T := TX10) (N := 39) hx hb hts inX10 hown hK hP 0 rfl rfl 4 (by decide) (hts (.fieldLink RX10 22 "EscrowDeskModel" "historyParts" "[J") (by decide +kernel)) (fun _ h9 => h9) rfl dX10_remember_117 ?_
        refine lv_aload_n hx hb dX10_remember_120 rfl (lv_at hl 1 rfl) ?_
        refine va_get (D := D) (ci := 11) (v := .int (nI ed)) (C := RX10) (T := TX10) (N := 39) hx hb hts inX10 hown hK hP 0 rfl rfl 7 (by decide) (hts (.fieldLink RX10 83 "EscrowDeskModel" "edits" "I") (by decide +kernel)) (fun _ h9 => h9) rfl dX10_remember_121 ?_
        refine lv_aload_n hx hb dX10_remember_124 rfl (lv_at hl 1 rfl) ?_
        refine va_get (D := D) (ci := 11) (v := .long g5) (C := RX10) (T := TX10) (N := 39) hx hb hts inX10 hown hK hP 0 rfl rfl 5 (by decide) (hts (.fieldLink RX10 86 "EscrowDeskModel" "parts" "J") (by decide +kernel)) (fun _ h9 => h9) rfl dX10_remember_125 ?_
        refine va_last hx hb hK hP hD hS 3 1 rfl rfl (vp_in_nI (n := ed) (N := 10) (show ed < 10 by omega) (by decide)) dX10_remember_128 (fun H locs hP hD hS => ?_)
        obtain ⟨hP, hD⟩ : PDq D A [(oX10 w0 v0 v1 v2 v3 v4 g5 g6 (nI ed) g8 v9 (nI nb) g11 g12 v13 g14 g15 g16 g17 g18 g19 g20 g21 g22 g23 g24 g25 g26 v27 v28 v29 v30 v31 v32 v33 v34 v35 v36 v37 (nI ol)), (v0, .inl (cA 0, 326, .inl fs)), (v3, .inl (cA 0, 3260, .inl f2_1)), (v4, .inl (cA 1, 10, .inr (.inl (vp_updL fl (((nI ed)).toNatClampNeg) g5))))] H := ⟨hP, hD⟩
        have hn5 : UppL ed g5 fl (vp_updL fl (((nI ed)).toNatClampNeg) g5) := UppL.of (by omega)
        have hn6 : Rdl (vp_updL fl (((nI ed)).toNatClampNeg) g5) := rfl
        generalize (vp_updL fl (((nI ed)).toNatClampNeg) g5) = fn4 at hP hD hn5 hn6
        obtain ⟨hP, hD⟩ : PDq D A [(oX10 w0 v0 v1 v2 v3 v4 g5 g6 (nI ed) g8 v9 (nI nb) g11 g12 v13 g14 g15 g16 g17 g18 g19 g20 g21 g22 g23 g24 g25 g26 v27 v28 v29 v30 v31 v32 v33 v34 v35 v36 v37 (nI ol)), (v0, .inl (cA 0, 326, .inl fs)), (v3, .inl (cA 0, 3260, .inl f2_1)), (v4, .inl (cA 1, 10, .inr (.inl fn4)))] H := ⟨hP, hD⟩
        refine lv_aload_n hx hb dX10_remember_129 rfl (lv_at hl 1 rfl) ?_
        refine lv_dup hx hb dX10_remember_130 rfl ?_
        refine va_get (D := D) (ci := 11) (v := .int (nI ed)) (C := RX10) (T := TX10) (N := 39) hx hb hts inX10 hown hK hP 0 rfl rfl 7 (by decide) (hts (.fieldLink RX10 83 "EscrowDeskModel" "edits" "I") (by decide +kernel)) (fun _ h9 => h9) rfl dX10_remember_131 ?_
        refine lv_iconst (v := 1) hx hb dX10_remember_134 (by decide) ?_
        refine lv_iadd hx hb dX10_remember_135 ?_
        refine lv_topi (fun yn7 eyn7 => ?_)
        obtain rfl : yn7 = (nI (ed + 1)) := eyn7.trans (nI_add ed 1)
        refine va_put (D := D) (ci := 11) (v := .int (nI (ed + 1))) (ty := .int) (C := RX10) (T := TX10) (N := 39) hx hb hts inX10 tyX10 tyX10_ok nmX10 hown hK hP hD hS 0 rfl rfl 7 (by decide) (hts (.fieldLink RX10 83 "EscrowDeskModel" "edits" "I") (by decide +kernel)) (fun _ h9 => h9) rfl (by decide +kernel) rfl rfl (Nat.le_of_ble_eq_true rfl) dX10_remember_136 (fun H locs hP hD hS => ?_)
        obtain ⟨hP, hD⟩ : PDq D A [(oX10 w0 v0 v1 v2 v3 v4 g5 g6 (nI (ed + 1)) g8 v9 (nI nb) g11 g12 v13 g14 g15 g16 g17 g18 g19 g20 g21 g22 g23 g24 g25 g26 v27 v28 v29 v30 v31 v32 v33 v34 v35 v36 v37 (nI ol)), (v0, .inl (cA 0, 326, .inl fs)), (v3, .inl (cA 0, 3260, .inl f2_1)), (v4, .inl (cA 1, 10, .inr (.inl fn4)))] H := ⟨hP, hD⟩
        obtain ⟨hP9, hD9⟩ := PDq.sub (ws' := [(oX10 w0 v0 v1 v2 v3 v4 g5 g6 (nI (ed + 1)) g8 v9 (nI nb) g11 g12 v13 g14 g15 g16 g17 g18 g19 g20 g21 g22 g23 g24 g25 g26 v27 v28 v29 v30 v31 v32 v33 v34 v35 v36 v37 (nI ol)), (v0, .inl (cA 0, 326, .inl fs)), (v3, .inl (cA 0, 3260, .inl f2_1)), (v4, .inl (cA 1, 10, .inr (.inl fn4)))]) hP hD [0, 1, 2, 3] (by decide) rfl
        refine W.widen (k := 0) (n := 0) (Nat.le_of_ble_eq_true rfl) (Nat.le_of_ble_eq_true rfl) ?_
        exact (W.vret hx hb hr (fun t ht hW => ⟨⟨(), rfl, trivial, (ed + 1), f2_1, fn4, (by omega), (Hcp.hi hv0_1 hHI hri hen (by omega)), (Hrem.one (by omega) hv0_1 hn5), by rw [ht]; exact hP9, hD9⟩, hS.F ht⟩) hS.2.2 dX10_remember_139)
      | succ n1 ih1 =>
        intro i1 f2_1 H locs ls hi1 hv0_1 hP hD hS hl
        refine lv_iload_n hx hb dX10_remember_82 rfl (lv_at hl 0 rfl) ?_
        refine lv_sipush (v := 326) hx hb dX10_remember_83 (by decide) ?_
        refine lv_icmp_ge (tgt := 116) hx hb dX10_remember_86 (by decide) (fun c9 => absurd c9 (nI_ge (a := i1) (b := 326) (show i1 < 326 by omega) (by omega))) (fun c8 => ?_)
        refine lv_aload_n hx hb dX10_remember_89 rfl (lv_at hl 1 rfl) ?_
        refine va_get (D := D) (ci := 11) (v := .ref v3) (C := RX10) (T := TX10) (N := 39) hx hb hts inX10 hown hK hP 0 rfl rfl 3 (by decide) (hts (.fieldLink RX10 19 "EscrowDeskModel" "history" "[I") (by decide +kernel)) (fun _ h9 => h9) rfl dX10_remember_90 ?_
        refine lv_sipush (v := 326) hx hb dX10_remember_93 (by decide) ?_
        refine lv_aload_n hx hb dX10_remember_96 rfl (lv_at hl 1 rfl) ?_
        refine va_get (D := D) (ci := 11) (v := .int (nI ed)) (C := RX10) (T := TX10) (N := 39) hx hb hts inX10 hown hK hP 0 rfl rfl 7 (by decide) (hts (.fieldLink RX10 83 "EscrowDeskModel" "edits" "I") (by decide +kernel)) (fun _ h9 => h9) rfl dX10_remember_97 ?_
        refine lv_imul hx hb dX10_remember_100 ?_
        refine lv_topi (fun yn9 eyn9 => ?_)
        obtain rfl : yn9 = (nI (326 * ed)) := eyn9.trans (nI_mul 326 ed)
        refine lv_iload_n hx hb dX10_remember_101 rfl (lv_at hl 0 rfl) ?_
        refine lv_iadd hx hb dX10_remember_102 ?_
        refine lv_topi (fun yn10 eyn10 => ?_)
        obtain rfl : yn10 = (nI ((326 * ed) + i1)) := eyn10.trans (nI_add (326 * ed) i1)
        refine lv_aload_n hx hb dX10_remember_103 rfl (lv_at hl 1 rfl) ?_
        refine va_get (D := D) (ci := 11) (v := .ref v0) (C := RX10) (T := TX10) (N := 39) hx hb hts inX10 hown hK hP 0 rfl rfl 0 (by decide) (hts (.fieldLink RX10 7 "EscrowDeskModel" "s" "[I") (by decide +kernel)) (fun _ h9 => h9) rfl dX10_remember_104 ?_
        refine lv_iload_n hx hb dX10_remember_107 rfl (lv_at hl 0 rfl) ?_
        refine va_iald hx hb hK hP 1 0 rfl rfl (vp_in_nI (n := i1) (N := 326) (show i1 < 326 by omega) (by decide)) dX10_remember_108 ?_
        refine lv_topi (fun yn11 eyn11 => ?_)
        refine va_iast hx hb hK hP hD hS 2 0 rfl rfl (vp_in_nI (n := ((326 * ed) + i1)) (N := 3260) (show ((326 * ed) + i1) < 3260 by omega) (by decide)) dX10_remember_109 (fun H locs hP hD hS => ?_)
        obtain ⟨hP, hD⟩ : PDq D A [(oX10 w0 v0 v1 v2 v3 v4 g5 g6 (nI ed) g8 v9 (nI nb) g11 g12 v13 g14 g15 g16 g17 g18 g19 g20 g21 g22 g23 g24 g25 g26 v27 v28 v29 v30 v31 v32 v33 v34 v35 v36 v37 (nI ol)), (v0, .inl (cA 0, 326, .inl fs)), (v3, .inl (cA 0, 3260, .inl (upd f2_1 (((nI ((326 * ed) + i1))).toNatClampNeg) yn11))), (v4, .inl (cA 1, 10, .inr (.inl fl)))] H := ⟨hP, hD⟩
        have hn13 : Hcp ed (i1 + 1) fs fh (upd f2_1 (((nI ((326 * ed) + i1))).toNatClampNeg) yn11) := (by rw [eyn11]; exact Hcp.step (n := ed) (by omega) hv0_1)
        generalize (upd f2_1 (((nI ((326 * ed) + i1))).toNatClampNeg) yn11) = fn12 at hP hD hn13
        obtain ⟨hP, hD⟩ : PDq D A [(oX10 w0 v0 v1 v2 v3 v4 g5 g6 (nI ed) g8 v9 (nI nb) g11 g12 v13 g14 g15 g16 g17 g18 g19 g20 g21 g22 g23 g24 g25 g26 v27 v28 v29 v30 v31 v32 v33 v34 v35 v36 v37 (nI ol)), (v0, .inl (cA 0, 326, .inl fs)), (v3, .inl (cA 0, 3260, .inl fn12)), (v4, .inl (cA 1, 10, .inr (.inl fl)))] H := ⟨hP, hD⟩
        refine lv_iinc (v := (nI (i1 + 1))) (lv' := [(1, .int (nI (i1 + 1))), (0, .ref w0)]) hx hb dX10_remember_110 hl (k := 0) rfl (nI_1 _) (by decide) rfl (fun ls hl => ?_)
        refine lv_goto (tgt := 82) hx hb dX10_remember_113 (by decide) ?_
        obtain ⟨hP9, hD9⟩ := PDq.sub (ws' := [(oX10 w0 v0 v1 v2 v3 v4 g5 g6 (nI ed) g8 v9 (nI nb) g11 g12 v13 g14 g15 g16 g17 g18 g19 g20 g21 g22 g23 g24 g25 g26 v27 v28 v29 v30 v31 v32 v33 v34 v35 v36 v37 (nI ol)), (v0, .inl (cA 0, 326, .inl fs)), (v3, .inl (cA 0, 3260, .inl fn12)), (v4, .inl (cA 1, 10, .inr (.inl fl)))]) hP hD [0, 1, 2, 3] (by decide) rfl
        exact ih1 (i1 + 1) fn12 H _ ls (by omega) hn13 hP9 hD9 hS (lv_sub hl [0, 1] rfl)
    obtain ⟨hP9, hD9⟩ := PDq.sub (ws' := [(oX10 w0 v0 v1 v2 v3 v4 g5 g6 (nI ed) g8 v9 (nI nb) g11 g12 v13 g14 g15 g16 g17 g18 g19 g20 g21 g22 g23 g24 g25 g26 v27 v28 v29 v30 v31 v32 v33 v34 v35 v36 v37 (nI ol)), (v0, .inl (cA 0, 326, .inl fs)), (v3, .inl (cA 0, 3260, .inl fh)), (v4, .inl (cA 1, 10, .inr (.inl fl)))]) hP hD [0, 1, 2, 3] (by decide) rfl
    exact loop1 (326 - 0) 0 fh _ _ ls (by omega) (Hcp.zero ed fs fh) hP9 hD9 hS (lv_sub hl [0, 1] rfl)
  · skip
    have hn14 : ed = 10 := (nI_eq (a := ed) (b := 10) (by omega) (by omega)).mp c1
    refine lv_sipush (v := 326) hx hb dX10_remember_9 (by decide) ?_
    refine lv_istore_n (lv' := [(1, .int 326), (0, .ref w0)]) hx hb dX10_remember_12 rfl hl (by decide) rfl (fun ls hl => ?_)
    have loop2 : ∀ (n2 i2 : Nat) (f2_2 : Nat → Int32) (H : Heap) (locs : List Loc) (ls : Array Slot), i2 + n2 = 3260 → 326 ≤ i2 → Shf i2 fh f2_2 → va_P D vwCl [(oX10 w0 v0 v1 v2 v3 v4 g5 g6 (nI ed) g8 v9 (nI nb) g11 g12 v13 g14 g15 g16 g17 g18 g19 g20 g21 g22 g23 g24 g25 g26 v27 v28 v29 v30 v31 v32 v33 v34 v35 v36 v37 (nI ol)), (v0, .inl (cA 0, 326, .inl fs)), (v3, .inl (cA 0, 3260, .inl f2_2)), (v4, .inl (cA 1, 10, .inr (.inl fl)))] H → va_D A [(oX10 w0 v0 v1 v2 v3 v4 g5 g6 (nI ed) g8 v9 (nI nb) g11 g12 v13 g14 g15 g16 g17 g18 g19 g20 g21 g22 g23 g24 g25 g26 v27 v28 v29 v30 v31 v32 v33 v34 v35 v36 v37 (nI ol)), (v0, .inl (cA 0, 326, .inl fs)), (v3, .inl (cA 0, 3260, .inl f2_2)), (v4, .inl (cA 1, 10, .inr (.inl fl)))] → va_S A s.heap H locs → lv_has ls 2 [(1, .int (nI i2)), (0, .ref w0)] → W p l e (headSpec wsX10_remember ({ frames := 0, cells := 0, slots := 0, locals := 0 } : Room)).room s m ([.ref w0] : List Value).toArray below meth c H locs 0 0 (MQ below (va_Qv (fun _ : Unit => True) (fun (_ : Unit) t => ∃ ed2 : Nat, ∃ zh : Nat → Int32, ∃ zl : Nat → Int64, ed2 ≤ 10 ∧ HI cn pq ed2 zh ∧ Hrem ed fh fl fs g5 ed2 zh zl ∧ Wq D A [(oX10 w0 v0 v1 v2 v3 v4 g5 g6 (nI ed2) g8 v9 (nI nb) g11 g12 v13 g14 g15 g16 g17 g18 g19 g20 g21 g22 g23 g24 g25 g26 v27 v28 v29 v30 v31 v32 v33 v34 v35 v36 v37 (nI ol)), (v0, .inl (cA 0, 326, .inl fs)), (v3, .inl (cA 0, 3260, .inl zh)), (v4, .inl (cA 1, 10, .inr (.inl zl)))] t) A) ([.ref w0] : List Value).toArray s 0 0 A) (F0 m 13 ls []) := by
      intro n2
      induction n2 with
      | zero =>
        intro i2 f2_2 H locs ls hi2 hv0_2 hv1_2 hP hD hS hl
        obtain rfl : 3260 = i2 := by omega
        refine lv_iload_n hx hb dX10_remember_13 rfl (lv_at hl 0 rfl) ?_
        refine lv_sipush (v := 3260) hx hb dX10_remember_14 (by decide) ?_
        refine lv_icmp_ge (tgt := 42) hx hb dX10_remember_17 (by decide) (fun c15 => ?_) (fun c9 => absurd (nI_le (a := 3260) (b := 3260) (show 3260 ≤ 3260 by omega) (by omega)) c9)
        have hn16 := Shf.hi hv1_2 hHI (by omega)
        refine lv_iconst (v := 1) hx hb dX10_remember_42 (by decide) ?_
        refine lv_istore_n (lv' := [(1, .int 1), (0, .ref w0)]) hx hb dX10_remember_43 rfl hl (by decide) rfl (fun ls hl => ?_)
        have loop3 : ∀ (n3 i3 : Nat) (f3_3 : Nat → Int64) (H : Heap) (locs : List Loc) (ls : Array Slot), i3 + n3 = 10 → 1 ≤ i3 → ShL i3 fl f3_3 → Rdl f3_3 → va_P D vwCl [(oX10 w0 v0 v1 v2 v3 v4 g5 g6 (nI ed) g8 v9 (nI nb) g11 g12 v13 g14 g15 g16 g17 g18 g19 g20 g21 g22 g23 g24 g25 g26 v27 v28 v29 v30 v31 v32 v33 v34 v35 v36 v37 (nI ol)), (v0, .inl (cA 0, 326, .inl fs)), (v3, .inl (cA 0, 3260, .inl f2_2)), (v4, .inl (cA 1, 10, .inr (.inl f3_3)))] H → va_D A [(oX10 w0 v0 v1 v2 v3 v4 g5 g6 (nI ed) g8 v9 (nI nb) g11 g12 v13 g14 g15 g16 g17 g18 g19 g20 g21 g22 g23 g24 g25 g26 v27 v28 v29 v30 v31 v32 v33 v34 v35 v36 v37 (nI ol)), (v0, .inl (cA 0, 326, .inl fs)), (v3, .inl (cA 0, 3260, .inl f2_2)), (v4, .inl (cA 1, 10, .inr (.inl f3_3)))] → va_S A s.heap H locs → lv_has ls 2 [(1, .int (nI i3)), (0, .ref w0)] → W p l e (headSpec wsX10_remember ({ frames := 0, cells := 0, slots := 0, locals := 0 } : Room)).room s m ([.ref w0] : List Value).toArray below meth c H locs 0 0 (MQ below (va_Qv (fun _ : Unit => True) (fun (_ : Unit) t => ∃ ed2 : Nat, ∃ zh : Nat → Int32, ∃ zl : Nat → Int64, ed2 ≤ 10 ∧ HI cn pq ed2 zh ∧ Hrem ed fh fl fs g5 ed2 zh zl ∧ Wq D A [(oX10 w0 v0 v1 v2 v3 v4 g5 g6 (nI ed2) g8 v9 (nI nb) g11 g12 v13 g14 g15 g16 g17 g18 g19 g20 g21 g22 g23 g24 g25 g26 v27 v28 v29 v30 v31 v32 v33 v34 v35 v36 v37 (nI ol)), (v0, .inl (cA 0, 326, .inl fs)), (v3, .inl (cA 0, 3260, .inl zh)), (v4, .inl (cA 1, 10, .inr (.inl zl)))] t) A) ([.ref w0] : List Value).toArray s 0 0 A) (F0 m 44 ls []) := by
          intro n3
          induction n3 with
          | zero =>
            intro i3 f3_3 H locs ls hi3 hv0_3 hv1_3 hv2_3 hP hD hS hl
            obtain rfl : 10 = i3 := by omega
            refine lv_iload_n hx hb dX10_remember_44 rfl (lv_at hl 0 rfl) ?_
            refine lv_bipush (v := 10) hx hb dX10_remember_45 (by decide) ?_
            refine lv_icmp_ge (tgt := 70) hx hb dX10_remember_47 (by decide) (fun c17 => ?_) (fun c9 => absurd (nI_le (a := 10) (b := 10) (show 10 ≤ 10 by omega) (by omega)) c9)
            refine lv_aload_n hx hb dX10_remember_70 rfl (lv_at hl 1 rfl) ?_
            refine lv_dup hx hb dX10_remember_71 rfl ?_
            refine va_get (D := D) (ci := 11) (v := .int (nI ed)) (C := RX10) (T := TX10) (N := 39) hx hb hts inX10 hown hK hP 0 rfl rfl 7 (by decide) (hts (.fieldLink RX10 83 "EscrowDeskModel" "edits" "I") (by decide +kernel)) (fun _ h9 => h9) rfl dX10_remember_72 ?_
            refine lv_iconst (v := 1) hx hb dX10_remember_75 (by decide) ?_
            refine lv_isub hx hb dX10_remember_76 ?_
            refine lv_topi (fun yn18 eyn18 => ?_)
            obtain rfl : yn18 = (nI (ed - 1)) := eyn18.trans (nI_sub (a := ed) (b := 1) (by omega))
            refine va_put (D := D) (ci := 11) (v := .int (nI (ed - 1))) (ty := .int) (C := RX10) (T := TX10) (N := 39) hx hb hts inX10 tyX10 tyX10_ok nmX10 hown hK hP hD hS 0 rfl rfl 7 (by decide) (hts (.fieldLink RX10 83 "EscrowDeskModel" "edits" "I") (by decide +kernel)) (fun _ h9 => h9) rfl (by decide +kernel) rfl rfl (Nat.le_of_ble_eq_true rfl) dX10_remember_77 (fun H locs hP hD hS => ?_)
            obtain ⟨hP, hD⟩ : PDq D A [(oX10 w0 v0 v1 v2 v3 v4 g5 g6 (nI (ed - 1)) g8 v9 (nI nb) g11 g12 v13 g14 g15 g16 g17 g18 g19 g20 g21 g22 g23 g24 g25 g26 v27 v28 v29 v30 v31 v32 v33 v34 v35 v36 v37 (nI ol)), (v0, .inl (cA 0, 326, .inl fs)), (v3, .inl (cA 0, 3260, .inl f2_2)), (v4, .inl (cA 1, 10, .inr (.inl f3_3)))] H := ⟨hP, hD⟩
            refine lv_iconst (v := 0) hx hb dX10_remember_80 (by decide) ?_
            refine lv_istore_n (lv' := [(1, .int 0), (0, .ref w0)]) hx hb dX10_remember_81 rfl hl (by decide) rfl (fun ls hl => ?_)
            have loop4 : ∀ (n4 i4 : Nat) (f2_4 : Nat → Int32) (H : Heap) (locs : List Loc) (ls : Array Slot), i4 + n4 = 326 → Hcp (ed - 1) i4 fs f2_2 f2_4 → va_P D vwCl [(oX10 w0 v0 v1 v2 v3 v4 g5 g6 (nI (ed - 1)) g8 v9 (nI nb) g11 g12 v13 g14 g15 g16 g17 g18 g19 g20 g21 g22 g23 g24 g25 g26 v27 v28 v29 v30 v31 v32 v33 v34 v35 v36 v37 (nI ol)), (v0, .inl (cA 0, 326, .inl fs)), (v3, .inl (cA 0, 3260, .inl f2_4)), (v4, .inl (cA 1, 10, .inr (.inl f3_3)))] H → va_D A [(oX10 w0 v0 v1 v2 v3 v4 g5 g6 (nI (ed - 1)) g8 v9 (nI nb) g11 g12 v13 g14 g15 g16 g17 g18 g19 g20 g21 g22 g23 g24 g25 g26 v27 v28 v29 v30 v31 v32 v33 v34 v35 v36 v37 (nI ol)), (v0, .inl (cA 0, 326, .inl fs)), (v3, .inl (cA 0, 3260, .inl f2_4)), (v4, .inl (cA 1, 10, .inr (.inl f3_3)))] → va_S A s.heap H locs → lv_has ls 2 [(1, .int (nI i4)), (0, .ref w0)] → W p l e (headSpec wsX10_remember ({ frames := 0, cells := 0, slots := 0, locals := 0 } : Room)).room s m ([.ref w0] : List Value).toArray below meth c H locs 0 0 (MQ below (va_Qv (fun _ : Unit => True) (fun (_ : Unit) t => ∃ ed2 : Nat, ∃ zh : Nat → Int32, ∃ zl : Nat → Int64, ed2 ≤ 10 ∧ HI cn pq ed2 zh ∧ Hrem ed fh fl fs g5 ed2 zh zl ∧ Wq D A [(oX10 w0 v0 v1 v2 v3 v4 g5 g6 (nI ed2) g8 v9 (nI nb) g11 g12 v13 g14 g15 g16 g17 g18 g19 g20 g21 g22 g23 g24 g25 g26 v27 v28 v29 v30 v31 v32 v33 v34 v35 v36 v37 (nI ol)), (v0, .inl (cA 0, 326, .inl fs)), (v3, .inl (cA 0, 3260, .inl zh)), (v4, .inl (cA 1, 10, .inr (.inl zl)))] t) A) ([.ref w0] : List Value).toArray s 0 0 A) (F0 m 82 ls []) := by
              intro n4
              induction n4 with
              | zero =>
                intro i4 f2_4 H locs ls hi4 hv0_4 hP hD hS hl
                obtain rfl : 326 = i4 := by omega
                refine lv_iload_n hx hb dX10_remember_82 rfl (lv_at hl 0 rfl) ?_
                refine lv_sipush (v := 326) hx hb dX10_remember_83 (by decide) ?_
                refine lv_icmp_ge (tgt := 116) hx hb dX10_remember_86 (by decide) (fun c19 => ?_) (fun c9 => absurd (nI_le (a := 326) (b := 326) (show 326 ≤ 326 by omega) (by omega)) c9)
                refine lv_aload_n hx hb dX10_remember_116 rfl (lv_at hl 1 rfl) ?_
                refine va_get (D := D) (ci := 11) (v := .ref v4) (C := RX10) (T := TX10) (N := 39) hx hb hts inX10 hown hK hP 0 rfl rfl 4 (by decide) (hts (.fieldLink RX10 22 "EscrowDeskModel" "historyParts" "[J") (by decide +kernel)) (fun _ h9 => h9) rfl dX10_remember_117 ?_
                refine lv_aload_n hx hb dX10_remember_120 rfl (lv_at hl 1 rfl) ?_
                refine va_get (D := D) (ci := 11) (v := .int (nI (ed - 1))) (C := RX10) (T := TX10) (N := 39) hx hb hts inX10 hown hK hP 0 rfl rfl 7 (by decide) (hts (.fieldLink RX10 83 "EscrowDeskModel" "edits" "I") (by decide +kernel)) (fun _ h9 => h9) rfl dX10_remember_121 ?_
                refine lv_aload_n hx hb dX10_remember_124 rfl (lv_at hl 1 rfl) ?_
                refine va_get (D := D) (ci := 11) (v := .long g5) (C := RX10) (T := TX10) (N := 39) hx hb hts inX10 hown hK hP 0 rfl rfl 5 (by decide) (hts (.fieldLink RX10 86 "EscrowDeskModel" "parts" "J") (by decide +kernel)) (fun _ h9 => h9) rfl dX10_remember_125 ?_
                refine va_last hx hb hK hP hD hS 3 1 rfl rfl (vp_in_nI (n := (ed - 1)) (N := 10) (show (ed - 1) < 10 by omega) (by decide)) dX10_remember_128 (fun H locs hP hD hS => ?_)
                obtain ⟨hP, hD⟩ : PDq D A [(oX10 w0 v0 v1 v2 v3 v4 g5 g6 (nI (ed - 1)) g8 v9 (nI nb) g11 g12 v13 g14 g15 g16 g17 g18 g19 g20 g21 g22 g23 g24 g25 g26 v27 v28 v29 v30 v31 v32 v33 v34 v35 v36 v37 (nI ol)), (v0, .inl (cA 0, 326, .inl fs)), (v3, .inl (cA 0, 3260, .inl f2_4)), (v4, .inl (cA 1, 10, .inr (.inl (vp_updL f3_3 (((nI (ed - 1))).toNatClampNeg) g5))))] H := ⟨hP, hD⟩
                have hn21 : UppL (ed - 1) g5 f3_3 (vp_updL f3_3 (((nI (ed - 1))).toNatClampNeg) g5) := UppL.of (by omega)
                have hn22 : Rdl (vp_updL f3_3 (((nI (ed - 1))).toNatClampNeg) g5) := rfl
                generalize (vp_updL f3_3 (((nI (ed - 1))).toNatClampNeg) g5) = fn20 at hP hD hn21 hn22
                obtain ⟨hP, hD⟩ : PDq D A [(oX10 w0 v0 v1 v2 v3 v4 g5 g6 (nI (ed - 1)) g8 v9 (nI nb) g11 g12 v13 g14 g15 g16 g17 g18 g19 g20 g21 g22 g23 g24 g25 g26 v27 v28 v29 v30 v31 v32 v33 v34 v35 v36 v37 (nI ol)), (v0, .inl (cA 0, 326, .inl fs)), (v3, .inl (cA 0, 3260, .inl f2_4)), (v4, .inl (cA 1, 10, .inr (.inl fn20)))] H := ⟨hP, hD⟩
                refine lv_aload_n hx hb dX10_remember_129 rfl (lv_at hl 1 rfl) ?_
                refine lv_dup hx hb dX10_remember_130 rfl ?_
                refine va_get (D := D) (ci := 11) (v := .int (nI (ed - 1))) (C := RX10) (T := TX10) (N := 39) hx hb hts inX10 hown hK hP 0 rfl rfl 7 (by decide) (hts (.fieldLink RX10 83 "EscrowDeskModel" "edits" "I") (by decide +kernel)) (fun _ h9 => h9) rfl dX10_remember_131 ?_
                refine lv_iconst (v := 1) hx hb dX10_remember_134 (by decide) ?_
                refine lv_iadd hx hb dX10_remember_135 ?_
                refine lv_topi (fun yn23 eyn23 => ?_)
                obtain rfl : yn23 = (nI ((ed - 1) + 1)) := eyn23.trans (nI_add (ed - 1) 1)
                refine va_put (D := D) (ci := 11) (v := .int (nI ((ed - 1) + 1))) (ty := .int) (C := RX10) (T := TX10) (N := 39) hx hb hts inX10 tyX10 tyX10_ok nmX10 hown hK hP hD hS 0 rfl rfl 7 (by decide) (hts (.fieldLink RX10 83 "EscrowDeskModel" "edits" "I") (by decide +kernel)) (fun _ h9 => h9) rfl (by decide +kernel) rfl rfl (Nat.le_of_ble_eq_true rfl) dX10_remember_136 (fun H locs hP hD hS => ?_)
                obtain ⟨hP, hD⟩ : PDq D A [(oX10 w0 v0 v1 v2 v3 v4 g5 g6 (nI ((ed - 1) + 1)) g8 v9 (nI nb) g11 g12 v13 g14 g15 g16 g17 g18 g19 g20 g21 g22 g23 g24 g25 g26 v27 v28 v29 v30 v31 v32 v33 v34 v35 v36 v37 (nI ol)), (v0, .inl (cA 0, 326, .inl fs)), (v3, .inl (cA 0, 3260, .inl f2_4)), (v4, .inl (cA 1, 10, .inr (.inl fn20)))] H := ⟨hP, hD⟩
                obtain ⟨hP9, hD9⟩ := PDq.sub (ws' := [(oX10 w0 v0 v1 v2 v3 v4 g5 g6 (nI ((ed - 1) + 1)) g8 v9 (nI nb) g11 g12 v13 g14 g15 g16 g17 g18 g19 g20 g21 g22 g23 g24 g25 g26 v27 v28 v29 v30 v31 v32 v33 v34 v35 v36 v37 (nI ol)), (v0, .inl (cA 0, 326, .inl fs)), (v3, .inl (cA 0, 3260, .inl f2_4)), (v4, .inl (cA 1, 10, .inr (.inl fn20)))]) hP hD [0, 1, 2, 3] (by decide) rfl
                refine W.widen (k := 0) (n := 0) (Nat.le_of_ble_eq_true rfl) (Nat.le_of_ble_eq_true rfl) ?_
                exact (W.vret hx hb hr (fun t ht hW => ⟨⟨(), rfl, trivial, ((ed - 1) + 1), f2_4, fn20, (by omega), (Hcp.hi hv0_4 hn16 hri hen (by omega)), (Hrem.ten (by omega) hv1_2 hv1_3 hv0_4 hn21), by rw [ht]; exact hP9, hD9⟩, hS.F ht⟩) hS.2.2 dX10_remember_139)
              | succ n4 ih4 =>
                intro i4 f2_4 H locs ls hi4 hv0_4 hP hD hS hl
                refine lv_iload_n hx hb dX10_remember_82 rfl (lv_at hl 0 rfl) ?_
                refine lv_sipush (v := 326) hx hb dX10_remember_83 (by decide) ?_
                refine lv_icmp_ge (tgt := 116) hx hb dX10_remember_86 (by decide) (fun c9 => absurd c9 (nI_ge (a := i4) (b := 326) (show i4 < 326 by omega) (by omega))) (fun c24 => ?_)
                refine lv_aload_n hx hb dX10_remember_89 rfl (lv_at hl 1 rfl) ?_
                refine va_get (D := D) (ci := 11) (v := .ref v3) (C := RX10) (T := TX10) (N := 39) hx hb hts inX10 hown hK hP 0 rfl rfl 3 (by decide) (hts (.fieldLink RX10 19 "EscrowDeskModel" "history" "[I") (by decide +kernel)) (fun _ h9 => h9) rfl dX10_remember_90 ?_
                refine lv_sipush (v := 326) hx hb dX10_remember_93 (by decide) ?_
                refine lv_aload_n hx hb dX10_remember_96 rfl (lv_at hl 1 rfl) ?_
                refine va_get (D := D) (ci := 11) (v := .int (nI (ed - 1))) (C := RX10) (T := TX10) (N := 39) hx hb hts inX10 hown hK hP 0 rfl rfl 7 (by decide) (hts (.fieldLink RX10 83 "EscrowDeskModel" "edits" "I") (by decide +kernel)) (fun _ h9 => h9) rfl dX10_remember_97 ?_
                refine lv_imul hx hb dX10_remember_100 ?_
                refine lv_topi (fun yn25 eyn25 => ?_)
                obtain rfl : yn25 = (nI (326 * (ed - 1))) := eyn25.trans (nI_mul 326 (ed - 1))
                refine lv_iload_n hx hb dX10_remember_101 rfl (lv_at hl 0 rfl) ?_
                refine lv_iadd hx hb dX10_remember_102 ?_
                refine lv_topi (fun yn26 eyn26 => ?_)
                obtain rfl : yn26 = (nI ((326 * (ed - 1)) + i4)) := eyn26.trans (nI_add (326 * (ed - 1)) i4)
                refine lv_aload_n hx hb dX10_remember_103 rfl (lv_at hl 1 rfl) ?_
                refine va_get (D := D) (ci := 11) (v := .ref v0) (C := RX10) (T := TX10) (N := 39) hx hb hts inX10 hown hK hP 0 rfl rfl 0 (by decide) (hts (.fieldLink RX10 7 "EscrowDeskModel" "s" "[I") (by decide +kernel)) (fun _ h9 => h9) rfl dX10_remember_104 ?_
                refine lv_iload_n hx hb dX10_remember_107 rfl (lv_at hl 0 rfl) ?_
                refine va_iald hx hb hK hP 1 0 rfl rfl (vp_in_nI (n := i4) (N := 326) (show i4 < 326 by omega) (by decide)) dX10_remember_108 ?_
                refine lv_topi (fun yn27 eyn27 => ?_)
                refine va_iast hx hb hK hP hD hS 2 0 rfl rfl (vp_in_nI (n := ((326 * (ed - 1)) + i4)) (N := 3260) (show ((326 * (ed - 1)) + i4) < 3260 by omega) (by decide)) dX10_remember_109 (fun H locs hP hD hS => ?_)
                obtain ⟨hP, hD⟩ : PDq D A [(oX10 w0 v0 v1 v2 v3 v4 g5 g6 (nI (ed - 1)) g8 v9 (nI nb) g11 g12 v13 g14 g15 g16 g17 g18 g19 g20 g21 g22 g23 g24 g25 g26 v27 v28 v29 v30 v31 v32 v33 v34 v35 v36 v37 (nI ol)), (v0, .inl (cA 0, 326, .inl fs)), (v3, .inl (cA 0, 3260, .inl (upd f2_4 (((nI ((326 * (ed - 1)) + i4))).toNatClampNeg) yn27))), (v4, .inl (cA 1, 10, .inr (.inl f3_3)))] H := ⟨hP, hD⟩
                have hn29 : Hcp (ed - 1) (i4 + 1) fs f2_2 (upd f2_4 (((nI ((326 * (ed - 1)) + i4))).toNatClampNeg) yn27) := (by rw [eyn27]; exact Hcp.step (n := (ed - 1)) (by omega) hv0_4)
                generalize (upd f2_4 (((nI ((326 * (ed - 1)) + i4))).toNatClampNeg) yn27) = fn28 at hP hD hn29
                obtain ⟨hP, hD⟩ : PDq D A [(oX10 w0 v0 v1 v2 v3 v4 g5 g6 (nI (ed - 1)) g8 v9 (nI nb) g11 g12 v13 g14 g15 g16 g17 g18 g19 g20 g21 g22 g23 g24 g25 g26 v27 v28 v29 v30 v31 v32 v33 v34 v35 v36 v37 (nI ol)), (v0, .inl (cA 0, 326, .inl fs)), (v3, .inl (cA 0, 3260, .inl fn28)), (v4, .inl (cA 1, 10, .inr (.inl f3_3)))] H := ⟨hP, hD⟩
                refine lv_iinc (v := (nI (i4 + 1))) (lv' := [(1, .int (nI (i4 + 1))), (0, .ref w0)]) hx hb dX10_remember_110 hl (k := 0) rfl (nI_1 _) (by decide) rfl (fun ls hl => ?_)
                refine lv_goto (tgt := 82) hx hb dX10_remember_113 (by decide) ?_
                obtain ⟨hP9, hD9⟩ := PDq.sub (ws' := [(oX10 w0 v0 v1 v2 v3 v4 g5 g6 (nI (ed - 1)) g8 v9 (nI nb) g11 g12 v13 g14 g15 g16 g17 g18 g19 g20 g21 g22 g23 g24 g25 g26 v27 v28 v29 v30 v31 v32 v33 v34 v35 v36 v37 (nI ol)), (v0, .inl (cA 0, 326, .inl fs)), (v3, .inl (cA 0, 3260, .inl fn28)), (v4, .inl (cA 1, 10, .inr (.inl f3_3)))]) hP hD [0, 1, 2, 3] (by decide) rfl
                exact ih4 (i4 + 1) fn28 H _ ls (by omega) hn29 hP9 hD9 hS (lv_sub hl [0, 1] rfl)
            obtain ⟨hP9, hD9⟩ := PDq.sub (ws' := [(oX10 w0 v0 v1 v2 v3 v4 g5 g6 (nI (ed - 1)) g8 v9 (nI nb) g11 g12 v13 g14 g15 g16 g17 g18 g19 g20 g21 g22 g23 g24 g25 g26 v27 v28 v29 v30 v31 v32 v33 v34 v35 v36 v37 (nI ol)), (v0, .inl (cA 0, 326, .inl fs)), (v3, .inl (cA 0, 3260, .inl f2_2)), (v4, .inl (cA 1, 10, .inr (.inl f3_3)))]) hP hD [0, 1, 2, 3] (by decide) rfl
            exact loop4 (326 - 0) 0 f2_2 _ _ ls (by omega) (Hcp.zero (ed - 1) fs f2_2) hP9 hD9 hS (lv_sub hl [0, 1] rfl)
          | succ n3 ih3 =>
            intro i3 f3_3 H locs ls hi3 hv0_3 hv1_3 hv2_3 hP hD hS hl
            refine lv_iload_n hx hb dX10_remember_44 rfl (lv_at hl 0 rfl) ?_
            refine lv_bipush (v := 10) hx hb dX10_remember_45 (by decide) ?_
            refine lv_icmp_ge (tgt := 70) hx hb dX10_remember_47 (by decide) (fun c9 => absurd c9 (nI_ge (a := i3) (b := 10) (show i3 < 10 by omega) (by omega))) (fun c30 => ?_)
            refine lv_aload_n hx hb dX10_remember_50 rfl (lv_at hl 1 rfl) ?_
            refine va_get (D := D) (ci := 11) (v := .ref v4) (C := RX10) (T := TX10) (N := 39) hx hb hts inX10 hown hK hP 0 rfl rfl 4 (by decide) (hts (.fieldLink RX10 22 "EscrowDeskModel" "historyParts" "[J") (by decide +kernel)) (fun _ h9 => h9) rfl dX10_remember_51 ?_
            refine lv_iload_n hx hb dX10_remember_54 rfl (lv_at hl 0 rfl) ?_
            refine lv_iconst (v := 1) hx hb dX10_remember_55 (by decide) ?_
            refine lv_isub hx hb dX10_remember_56 ?_
            refine lv_topi (fun yn31 eyn31 => ?_)
            obtain rfl : yn31 = (nI (i3 - 1)) := eyn31.trans (nI_sub (a := i3) (b := 1) (by omega))
            refine lv_aload_n hx hb dX10_remember_57 rfl (lv_at hl 1 rfl) ?_
            refine va_get (D := D) (ci := 11) (v := .ref v4) (C := RX10) (T := TX10) (N := 39) hx hb hts inX10 hown hK hP 0 rfl rfl 4 (by decide) (hts (.fieldLink RX10 22 "EscrowDeskModel" "historyParts" "[J") (by decide +kernel)) (fun _ h9 => h9) rfl dX10_remember_58 ?_
            refine lv_iload_n hx hb dX10_remember_61 rfl (lv_at hl 0 rfl) ?_
            refine va_lald hx hb hK hP 3 1 rfl rfl (vp_in_nI (n := i3) (N := 10) (show i3 < 10 by omega) (by decide)) dX10_remember_62 ?_
            refine lv_topl (fun yn32 eyn32 => ?_)
            obtain rfl : yn32 = (f3_3 i3) := eyn32.trans (by rw [nI_clamp (by omega)])
            refine va_last hx hb hK hP hD hS 3 1 rfl rfl (vp_in_nI (n := (i3 - 1)) (N := 10) (show (i3 - 1) < 10 by omega) (by decide)) dX10_remember_63 (fun H locs hP hD hS => ?_)
            obtain ⟨hP, hD⟩ : PDq D A [(oX10 w0 v0 v1 v2 v3 v4 g5 g6 (nI ed) g8 v9 (nI nb) g11 g12 v13 g14 g15 g16 g17 g18 g19 g20 g21 g22 g23 g24 g25 g26 v27 v28 v29 v30 v31 v32 v33 v34 v35 v36 v37 (nI ol)), (v0, .inl (cA 0, 326, .inl fs)), (v3, .inl (cA 0, 3260, .inl f2_2)), (v4, .inl (cA 1, 10, .inr (.inl (vp_updL f3_3 (((nI (i3 - 1))).toNatClampNeg) (f3_3 i3)))))] H := ⟨hP, hD⟩
            have hn34 : ShL (i3 + 1) fl (vp_updL f3_3 (((nI (i3 - 1))).toNatClampNeg) (f3_3 i3)) := (ShL.step (by omega) (by omega) hv1_3)
            have hn35 : UppL (i3 - 1) (f3_3 i3) f3_3 (vp_updL f3_3 (((nI (i3 - 1))).toNatClampNeg) (f3_3 i3)) := UppL.of (by omega)
            have hn36 : Rdl (vp_updL f3_3 (((nI (i3 - 1))).toNatClampNeg) (f3_3 i3)) := rfl
            generalize (vp_updL f3_3 (((nI (i3 - 1))).toNatClampNeg) (f3_3 i3)) = fn33 at hP hD hn34 hn35 hn36
            obtain ⟨hP, hD⟩ : PDq D A [(oX10 w0 v0 v1 v2 v3 v4 g5 g6 (nI ed) g8 v9 (nI nb) g11 g12 v13 g14 g15 g16 g17 g18 g19 g20 g21 g22 g23 g24 g25 g26 v27 v28 v29 v30 v31 v32 v33 v34 v35 v36 v37 (nI ol)), (v0, .inl (cA 0, 326, .inl fs)), (v3, .inl (cA 0, 3260, .inl f2_2)), (v4, .inl (cA 1, 10, .inr (.inl fn33)))] H := ⟨hP, hD⟩
            refine lv_iinc (v := (nI (i3 + 1))) (lv' := [(1, .int (nI (i3 + 1))), (0, .ref w0)]) hx hb dX10_remember_64 hl (k := 0) rfl (nI_1 _) (by decide) rfl (fun ls hl => ?_)
            refine lv_goto (tgt := 44) hx hb dX10_remember_67 (by decide) ?_
            obtain ⟨hP9, hD9⟩ := PDq.sub (ws' := [(oX10 w0 v0 v1 v2 v3 v4 g5 g6 (nI ed) g8 v9 (nI nb) g11 g12 v13 g14 g15 g16 g17 g18 g19 g20 g21 g22 g23 g24 g25 g26 v27 v28 v29 v30 v31 v32 v33 v34 v35 v36 v37 (nI ol)), (v0, .inl (cA 0, 326, .inl fs)), (v3, .inl (cA 0, 3260, .inl f2_2)), (v4, .inl (cA 1, 10, .inr (.inl fn33)))]) hP hD [0, 1, 2, 3] (by decide) rfl
            exact ih3 (i3 + 1) fn33 H _ ls (by omega) (by omega) hn34 hn36 hP9 hD9 hS (lv_sub hl [0, 1] rfl)
        obtain ⟨hP9, hD9⟩ := PDq.sub (ws' := [(oX10 w0 v0 v1 v2 v3 v4 g5 g6 (nI ed) g8 v9 (nI nb) g11 g12 v13 g14 g15 g16 g17 g18 g19 g20 g21 g22 g23 g24 g25 g26 v27 v28 v29 v30 v31 v32 v33 v34 v35 v36 v37 (nI ol)), (v0, .inl (cA 0, 326, .inl fs)), (v3, .inl (cA 0, 3260, .inl f2_2)), (v4, .inl (cA 1, 10, .inr (.inl fl)))]) hP hD [0, 1, 2, 3] (by decide) rfl
        exact loop3 (10 - 1) 1 fl _ _ ls (by omega) (by omega) (ShL.zero fl) rfl hP9 hD9 hS (lv_sub hl [0, 1] rfl)
      | succ n2 ih2 =>
        intro i2 f2_2 H locs ls hi2 hv0_2 hv1_2 hP hD hS hl
        refine lv_iload_n hx hb dX10_remember_13 rfl (lv_at hl 0 rfl) ?_
        refine lv_sipush (v := 3260) hx hb dX10_remember_14 (by decide) ?_
        refine lv_icmp_ge (tgt := 42) hx hb dX10_remember_17 (by decide) (fun c9 => absurd c9 (nI_ge (a := i2) (b := 3260) (show i2 < 3260 by omega) (by omega))) (fun c37 => ?_)
        refine lv_aload_n hx hb dX10_remember_20 rfl (lv_at hl 1 rfl) ?_
        refine va_get (D := D) (ci := 11) (v := .ref v3) (C := RX10) (T := TX10) (N := 39) hx hb hts inX10 hown hK hP 0 rfl rfl 3 (by decide) (hts (.fieldLink RX10 19 "EscrowDeskModel" "history" "[I") (by decide +kernel)) (fun _ h9 => h9) rfl dX10_remember_21 ?_
        refine lv_iload_n hx hb dX10_remember_24 rfl (lv_at hl 0 rfl) ?_
        refine lv_sipush (v := 326) hx hb dX10_remember_25 (by decide) ?_
        refine lv_isub hx hb dX10_remember_28 ?_
        refine lv_topi (fun yn38 eyn38 => ?_)
        obtain rfl : yn38 = (nI (i2 - 326)) := eyn38.trans (nI_sub (a := i2) (b := 326) (by omega))
        refine lv_aload_n hx hb dX10_remember_29 rfl (lv_at hl 1 rfl) ?_
        refine va_get (D := D) (ci := 11) (v := .ref v3) (C := RX10) (T := TX10) (N := 39) hx hb hts inX10 hown hK hP 0 rfl rfl 3 (by decide) (hts (.fieldLink RX10 19 "EscrowDeskModel" "history" "[I") (by decide +kernel)) (fun _ h9 => h9) rfl dX10_remember_30 ?_
        refine lv_iload_n hx hb dX10_remember_33 rfl (lv_at hl 0 rfl) ?_
        refine va_iald hx hb hK hP 2 0 rfl rfl (vp_in_nI (n := i2) (N := 3260) (show i2 < 3260 by omega) (by decide)) dX10_remember_34 ?_
        refine lv_topi (fun yn39 eyn39 => ?_)
        refine va_iast hx hb hK hP hD hS 2 0 rfl rfl (vp_in_nI (n := (i2 - 326)) (N := 3260) (show (i2 - 326) < 3260 by omega) (by decide)) dX10_remember_35 (fun H locs hP hD hS => ?_)
        obtain ⟨hP, hD⟩ : PDq D A [(oX10 w0 v0 v1 v2 v3 v4 g5 g6 (nI ed) g8 v9 (nI nb) g11 g12 v13 g14 g15 g16 g17 g18 g19 g20 g21 g22 g23 g24 g25 g26 v27 v28 v29 v30 v31 v32 v33 v34 v35 v36 v37 (nI ol)), (v0, .inl (cA 0, 326, .inl fs)), (v3, .inl (cA 0, 3260, .inl (upd f2_2 (((nI (i2 - 326))).toNatClampNeg) yn39))), (v4, .inl (cA 1, 10, .inr (.inl fl)))] H := ⟨hP, hD⟩
        have hn41 : Shf (i2 + 1) fh (upd f2_2 (((nI (i2 - 326))).toNatClampNeg) yn39) := (by rw [eyn39]; exact Shf.step (by omega) (by omega) hv1_2)
        generalize (upd f2_2 (((nI (i2 - 326))).toNatClampNeg) yn39) = fn40 at hP hD hn41
        obtain ⟨hP, hD⟩ : PDq D A [(oX10 w0 v0 v1 v2 v3 v4 g5 g6 (nI ed) g8 v9 (nI nb) g11 g12 v13 g14 g15 g16 g17 g18 g19 g20 g21 g22 g23 g24 g25 g26 v27 v28 v29 v30 v31 v32 v33 v34 v35 v36 v37 (nI ol)), (v0, .inl (cA 0, 326, .inl fs)), (v3, .inl (cA 0, 3260, .inl fn40)), (v4, .inl (cA 1, 10, .inr (.inl fl)))] H := ⟨hP, hD⟩
        refine lv_iinc (v := (nI (i2 + 1))) (lv' := [(1, .int (nI (i2 + 1))), (0, .ref w0)]) hx hb dX10_remember_36 hl (k := 0) rfl (nI_1 _) (by decide) rfl (fun ls hl => ?_)
        refine lv_goto (tgt := 13) hx hb dX10_remember_39 (by decide) ?_
        obtain ⟨hP9, hD9⟩ := PDq.sub (ws' := [(oX10 w0 v0 v1 v2 v3 v4 g5 g6 (nI ed) g8 v9 (nI nb) g11 g12 v13 g14 g15 g16 g17 g18 g19 g20 g21 g22 g23 g24 g25 g26 v27 v28 v29 v30 v31 v32 v33 v34 v35 v36 v37 (nI ol)), (v0, .inl (cA 0, 326, .inl fs)), (v3, .inl (cA 0, 3260, .inl fn40)), (v4, .inl (cA 1, 10, .inr (.inl fl)))]) hP hD [0, 1, 2, 3] (by decide) rfl
        exact ih2 (i2 + 1) fn40 H _ ls (by omega) (by omega) hn41 hP9 hD9 hS (lv_sub hl [0, 1] rfl)
    obtain ⟨hP9, hD9⟩ := PDq.sub (ws' := [(oX10 w0 v0 v1 v2 v3 v4 g5 g6 (nI ed) g8 v9 (nI nb) g11 g12 v13 g14 g15 g16 g17 g18 g19 g20 g21 g22 g23 g24 g25 g26 v27 v28 v29 v30 v31 v32 v33 v34 v35 v36 v37 (nI ol)), (v0, .inl (cA 0, 326, .inl fs)), (v3, .inl (cA 0, 3260, .inl fh)), (v4, .inl (cA 1, 10, .inr (.inl fl)))]) hP hD [0, 1, 2, 3] (by decide) rfl
    exact loop2 (3260 - 326) 326 fh _ _ ls (by omega) (by omega) (Shf.zero fh) hP9 hD9 hS (lv_sub hl [0, 1] rfl)

set_option maxHeartbeats 4000000 in
set_option maxRecDepth 100000 in
/-- reference, exactly: undo -/
theorem e_undo (l : Launch) (D : va_G) (cA : Nat → ClassId) (sa : Nat → Nat) (w0 : Nat) (ed : Nat) (nb : Nat) (ol : Nat) (v0 : Nat) (v1 : Nat) (v2 : Nat) (v3 : Nat) (v4 : Nat) (v9 : Nat) (v13 : Nat) (v27 : Nat) (v28 : Nat) (v29 : Nat) (v30 : Nat) (v31 : Nat) (v32 : Nat) (v33 : Nat) (v34 : Nat) (v35 : Nat) (v36 : Nat) (v37 : Nat) (g8 : Int32) (g11 : Int32) (g12 : Int32) (g14 : Int32) (g15 : Int32) (g16 : Int32) (g17 : Int32) (g18 : Int32) (g19 : Int32) (g20 : Int32) (g21 : Int32) (g22 : Int32) (g23 : Int32) (g24 : Int32) (g26 : Int32) (g5 : Int64) (g6 : Int64) (g25 : Int64) (cn : Nat) (pq : Nat) (en : Nat) (dy : Nat) (fs : Nat → Int32) (fh : Nat → Int32) (fl : Nat → Int64) (sz : Nat) (hcn : cn ≤ 10) (hpq : pq ≤ 8) (hen : en ≤ 60) (hdy : dy ≤ 20000) (hri : RI cn pq en dy fs) (hed : ed ≤ 10) (hHI : HI cn pq ed fh) (hd9 : dy ≤ 9999) : Met l yX10_undo wsX10_undo ({ frames := 0, cells := 0, slots := 0, locals := 0 }) (va_Pc [.ref w0] (Wd D cA sa [(oX10 w0 v0 v1 v2 v3 v4 g5 g6 (nI ed) g8 v9 (nI nb) g11 g12 v13 g14 g15 g16 g17 g18 g19 g20 g21 g22 g23 g24 g25 g26 v27 v28 v29 v30 v31 v32 v33 v34 v35 v36 v37 (nI ol)), (v0, .inl (cA 0, 326, .inl fs)), (v3, .inl (cA 0, 3260, .inl fh)), (v4, .inl (cA 1, 10, .inr (.inl fl)))] sz)) (va_Qi (fun (r : Int32) (_ : Unit) => True) (fun (_ : Unit) t => ∃ ed2 : Nat, ∃ e2 : Nat, ∃ d2 : Nat, ∃ zq : Int64, ∃ zs : Nat → Int32, ed2 ≤ 10 ∧ HI cn pq ed2 fh ∧ e2 ≤ 60 ∧ d2 ≤ 9999 ∧ RI cn pq e2 d2 zs ∧ Hund ed fh fl fs g5 ed2 zs zq ∧ Wq D (va_A [(oX10 w0 v0 v1 v2 v3 v4 g5 g6 (nI ed) g8 v9 (nI nb) g11 g12 v13 g14 g15 g16 g17 g18 g19 g20 g21 g22 g23 g24 g25 g26 v27 v28 v29 v30 v31 v32 v33 v34 v35 v36 v37 (nI ol)), (v0, .inl (cA 0, 326, .inl fs)), (v3, .inl (cA 0, 3260, .inl fh)), (v4, .inl (cA 1, 10, .inr (.inl fl)))] sz) [(oX10 w0 v0 v1 v2 v3 v4 zq g6 (nI ed2) 0 v9 (nI nb) g11 g12 v13 g14 g15 g16 g17 g18 g19 g20 g21 g22 g23 g24 g25 g26 v27 v28 v29 v30 v31 v32 v33 v34 v35 v36 v37 (nI ol)), (v0, .inl (cA 0, 326, .inl zs)), (v3, .inl (cA 0, 3260, .inl fh)), (v4, .inl (cA 1, 10, .inr (.inl fl)))] t) (va_A [(oX10 w0 v0 v1 v2 v3 v4 g5 g6 (nI ed) g8 v9 (nI nb) g11 g12 v13 g14 g15 g16 g17 g18 g19 g20 g21 g22 g23 g24 g25 g26 v27 v28 v29 v30 v31 v32 v33 v34 v35 v36 v37 (nI ol)), (v0, .inl (cA 0, 326, .inl fs)), (v3, .inl (cA 0, 3260, .inl fh)), (v4, .inl (cA 1, 10, .inr (.inl fl)))] sz)) 0 0 (va_A [(oX10 w0 v0 v1 v2 v3 v4 g5 g6 (nI ed) g8 v9 (nI nb) g11 g12 v13 g14 g15 g16 g17 g18 g19 g20 g21 g22 g23 g24 g25 g26 v27 v28 v29 v30 v31 v32 v33 v34 v35 v36 v37 (nI ol)), (v0, .inl (cA 0, 326, .inl fs)), (v3, .inl (cA 0, 3260, .inl fh)), (v4, .inl (cA 1, 10, .inr (.inl fl)))] sz) := by
  refine Met.ofW (cc := cX10_undo) (maxL := 2) (ret := (some .int)) (by decide) rfl ?_
  intro p e s m args below meth c s₁ B hml hv
  obtain ⟨rfl, hsz, hP, hK, hD0, hC, hZ⟩ := hv
  have hx := B.exec
  have hb := B.bytes
  have hr := B.returns
  have hts := atoms_spec (ws := wsX10_undo) B.pre
  have hown : s.vm.findClass RX10 = some m.cls := findClass_of_methodNamed B.named
  have hlocks := B.notSynchronized
  subst hsz
  have hD := hD0.self (sz := s.heap.size)
  generalize hAe : va_A [(oX10 w0 v0 v1 v2 v3 v4 g5 g6 (nI ed) g8 v9 (nI nb) g11 g12 v13 g14 g15 g16 g17 g18 g19 g20 g21 g22 g23 g24 g25 g26 v27 v28 v29 v30 v31 v32 v33 v34 v35 v36 v37 (nI ol)), (v0, .inl (cA 0, 326, .inl fs)), (v3, .inl (cA 0, 3260, .inl fh)), (v4, .inl (cA 1, 10, .inr (.inl fl)))] s.heap.size = A at hD hZ ⊢
  have hA : ∀ q : Nat, s.heap.size ≤ q → A q := fun q h => by rw [← hAe]; exact Or.inr h
  have hS : va_S A s.heap s.heap [] := va_S.rf
  have hP : va_P D vwCl [(oX10 w0 v0 v1 v2 v3 v4 g5 g6 (nI ed) g8 v9 (nI nb) g11 g12 v13 g14 g15 g16 g17 g18 g19 g20 g21 g22 g23 g24 g25 g26 v27 v28 v29 v30 v31 v32 v33 v34 v35 v36 v37 (nI ol)), (v0, .inl (cA 0, 326, .inl fs)), (v3, .inl (cA 0, 3260, .inl fh)), (v4, .inl (cA 1, 10, .inr (.inl fl)))] s.heap := hP
  have hl := lv_entry ([.ref w0]) (n := 2) (Nat.le_of_ble_eq_true rfl)
  rw [lg_entry_eq]
  generalize (lg_sl ([.ref w0]) ++ List.replicate (2 - (lg_sl ([.ref w0])).length) Slot.unset).toArray = ls at hl ⊢
  have hl : lv_has ls 2 [(0, .ref w0)] := hl
  have inX10 : ∀ w ∈ u_ws RX10 TX10 39, w ∈ wsX10_undo := by decide +kernel
  refine lv_aload_n hx hb dX10_undo_0 rfl (lv_at hl 0 rfl) ?_
  refine lv_iconst (v := 0) hx hb dX10_undo_1 (by decide) ?_
  refine va_put (D := D) (ci := 11) (v := .int 0) (ty := .int) (C := RX10) (T := TX10) (N := 39) hx hb hts inX10 tyX10 tyX10_ok nmX10 hown hK hP hD hS 0 rfl rfl 8 (by decide) (hts (.fieldLink RX10 80 "EscrowDeskModel" "thrown" "I") (by decide +kernel)) (fun _ h9 => h9) rfl (by decide +kernel) rfl rfl (Nat.le_of_ble_eq_true rfl) dX10_undo_2 (fun H locs hP hD hS => ?_)
  obtain ⟨hP, hD⟩ : PDq D A [(oX10 w0 v0 v1 v2 v3 v4 g5 g6 (nI ed) 0 v9 (nI nb) g11 g12 v13 g14 g15 g16 g17 g18 g19 g20 g21 g22 g23 g24 g25 g26 v27 v28 v29 v30 v31 v32 v33 v34 v35 v36 v37 (nI ol)), (v0, .inl (cA 0, 326, .inl fs)), (v3, .inl (cA 0, 3260, .inl fh)), (v4, .inl (cA 1, 10, .inr (.inl fl)))] H := ⟨hP, hD⟩
  refine lv_aload_n hx hb dX10_undo_5 rfl (lv_at hl 0 rfl) ?_
  refine va_get (D := D) (ci := 11) (v := .int (nI ed)) (C := RX10) (T := TX10) (N := 39) hx hb hts inX10 hown hK hP 0 rfl rfl 7 (by decide) (hts (.fieldLink RX10 83 "EscrowDeskModel" "edits" "I") (by decide +kernel)) (fun _ h9 => h9) rfl dX10_undo_6 ?_
  refine lv_if_ne (tgt := 14) hx hb dX10_undo_9 (by decide) (fun c1 => ?_) (fun c1 => ?_)
  · skip
    have hn2 : ¬ ed = 0 := fun h9 => c1 ((nI_eq (a := ed) (b := 0) (by omega) (by omega)).mpr h9)
    refine lv_aload_n hx hb dX10_undo_14 rfl (lv_at hl 0 rfl) ?_
    refine lv_dup hx hb dX10_undo_15 rfl ?_
    refine va_get (D := D) (ci := 11) (v := .int (nI ed)) (C := RX10) (T := TX10) (N := 39) hx hb hts inX10 hown hK hP 0 rfl rfl 7 (by decide) (hts (.fieldLink RX10 83 "EscrowDeskModel" "edits" "I") (by decide +kernel)) (fun _ h9 => h9) rfl dX10_undo_16 ?_
    refine lv_iconst (v := 1) hx hb dX10_undo_19 (by decide) ?_
    refine lv_isub hx hb dX10_undo_20 ?_
    refine lv_topi (fun yn3 eyn3 => ?_)
    obtain rfl : yn3 = (nI (ed - 1)) := eyn3.trans (nI_sub (a := ed) (b := 1) (by omega))
    refine va_put (D := D) (ci := 11) (v := .int (nI (ed - 1))) (ty := .int) (C := RX10) (T := TX10) (N := 39) hx hb hts inX10 tyX10 tyX10_ok nmX10 hown hK hP hD hS 0 rfl rfl 7 (by decide) (hts (.fieldLink RX10 83 "EscrowDeskModel" "edits" "I") (by decide +kernel)) (fun _ h9 => h9) rfl (by decide +kernel) rfl rfl (Nat.le_of_ble_eq_true rfl) dX10_undo_21 (fun H locs hP hD hS => ?_)
    obtain ⟨hP, hD⟩ : PDq D A [(oX10 w0 v0 v1 v2 v3 v4 g5 g6 (nI (ed - 1)) 0 v9 (nI nb) g11 g12 v13 g14 g15 g16 g17 g18 g19 g20 g21 g22 g23 g24 g25 g26 v27 v28 v29 v30 v31 v32 v33 v34 v35 v36 v37 (nI ol)), (v0, .inl (cA 0, 326, .inl fs)), (v3, .inl (cA 0, 3260, .inl fh)), (v4, .inl (cA 1, 10, .inr (.inl fl)))] H := ⟨hP, hD⟩
    refine lv_iconst (v := 0) hx hb dX10_undo_24 (by decide) ?_
    refine lv_istore_n (lv' := [(1, .int 0), (0, .ref w0)]) hx hb dX10_undo_25 rfl hl (by decide) rfl (fun ls hl => ?_)
    have loop1 : ∀ (n1 i1 : Nat) (f1_1 : Nat → Int32) (H : Heap) (locs : List Loc) (ls : Array Slot), i1 + n1 = 326 → Ucp i1 (ed - 1) fh f1_1 → va_P D vwCl [(oX10 w0 v0 v1 v2 v3 v4 g5 g6 (nI (ed - 1)) 0 v9 (nI nb) g11 g12 v13 g14 g15 g16 g17 g18 g19 g20 g21 g22 g23 g24 g25 g26 v27 v28 v29 v30 v31 v32 v33 v34 v35 v36 v37 (nI ol)), (v0, .inl (cA 0, 326, .inl f1_1)), (v3, .inl (cA 0, 3260, .inl fh)), (v4, .inl (cA 1, 10, .inr (.inl fl)))] H → va_D A [(oX10 w0 v0 v1 v2 v3 v4 g5 g6 (nI (ed - 1)) 0 v9 (nI nb) g11 g12 v13 g14 g15 g16 g17 g18 g19 g20 g21 g22 g23 g24 g25 g26 v27 v28 v29 v30 v31 v32 v33 v34 v35 v36 v37 (nI ol)), (v0, .inl (cA 0, 326, .inl f1_1)), (v3, .inl (cA 0, 3260, .inl fh)), (v4, .inl (cA 1, 10, .inr (.inl fl)))] → va_S A s.heap H locs → lv_has ls 2 [(1, .int (nI i1)), (0, .ref w0)] → W p l e (headSpec wsX10_undo ({ frames := 0, cells := 0, slots := 0, locals := 0 } : Room)).room s m ([.ref w0] : List Value).toArray below meth c H locs 0 0 (MQ below (va_Qi (fun (r : Int32) (_ : Unit) => True) (fun (_ : Unit) t => ∃ ed2 : Nat, ∃ e2 : Nat, ∃ d2 : Nat, ∃ zq : Int64, ∃ zs : Nat → Int32, ed2 ≤ 10 ∧ HI cn pq ed2 fh ∧ e2 ≤ 60 ∧ d2 ≤ 9999 ∧ RI cn pq e2 d2 zs ∧ Hund ed fh fl fs g5 ed2 zs zq ∧ Wq D A [(oX10 w0 v0 v1 v2 v3 v4 zq g6 (nI ed2) 0 v9 (nI nb) g11 g12 v13 g14 g15 g16 g17 g18 g19 g20 g21 g22 g23 g24 g25 g26 v27 v28 v29 v30 v31 v32 v33 v34 v35 v36 v37 (nI ol)), (v0, .inl (cA 0, 326, .inl zs)), (v3, .inl (cA 0, 3260, .inl fh)), (v4, .inl (cA 1, 10, .inr (.inl fl)))] t) A) ([.ref w0] : List Value).toArray s 0 0 A) (F0 m 26 ls []) := by
      intro n1
      induction n1 with
      | zero =>
        intro i1 f1_1 H locs ls hi1 hv0_1 hP hD hS hl
        obtain rfl : 326 = i1 := by omega
        refine lv_iload_n hx hb dX10_undo_26 rfl (lv_at hl 0 rfl) ?_
        refine lv_sipush (v := 326) hx hb dX10_undo_27 (by decide) ?_
        refine lv_icmp_ge (tgt := 60) hx hb dX10_undo_30 (by decide) (fun c4 => ?_) (fun c9 => absurd (nI_le (a := 326) (b := 326) (show 326 ≤ 326 by omega) (by omega)) c9)
        obtain ⟨kn5, kn6, hn7, hn8, hn9⟩ := Ucp.ri hv0_1 hHI (by omega)
        refine lv_aload_n hx hb dX10_undo_60 rfl (lv_at hl 1 rfl) ?_
        refine lv_aload_n hx hb dX10_undo_61 rfl (lv_at hl 1 rfl) ?_
        refine va_get (D := D) (ci := 11) (v := .ref v4) (C := RX10) (T := TX10) (N := 39) hx hb hts inX10 hown hK hP 0 rfl rfl 4 (by decide) (hts (.fieldLink RX10 22 "EscrowDeskModel" "historyParts" "[J") (by decide +kernel)) (fun _ h9 => h9) rfl dX10_undo_62 ?_
        refine lv_aload_n hx hb dX10_undo_65 rfl (lv_at hl 1 rfl) ?_
        refine va_get (D := D) (ci := 11) (v := .int (nI (ed - 1))) (C := RX10) (T := TX10) (N := 39) hx hb hts inX10 hown hK hP 0 rfl rfl 7 (by decide) (hts (.fieldLink RX10 83 "EscrowDeskModel" "edits" "I") (by decide +kernel)) (fun _ h9 => h9) rfl dX10_undo_66 ?_
        refine va_lald hx hb hK hP 3 1 rfl rfl (vp_in_nI (n := (ed - 1)) (N := 10) (show (ed - 1) < 10 by omega) (by decide)) dX10_undo_69 ?_
        refine lv_topl (fun yn10 eyn10 => ?_)
        obtain rfl : yn10 = (fl (ed - 1)) := eyn10.trans (by rw [nI_clamp (by omega)])
        refine va_put (D := D) (ci := 11) (v := .long (fl (ed - 1))) (ty := .long) (C := RX10) (T := TX10) (N := 39) hx hb hts inX10 tyX10 tyX10_ok nmX10 hown hK hP hD hS 0 rfl rfl 5 (by decide) (hts (.fieldLink RX10 86 "EscrowDeskModel" "parts" "J") (by decide +kernel)) (fun _ h9 => h9) rfl (by decide +kernel) rfl rfl (Nat.le_of_ble_eq_true rfl) dX10_undo_70 (fun H locs hP hD hS => ?_)
        obtain ⟨hP, hD⟩ : PDq D A [(oX10 w0 v0 v1 v2 v3 v4 (fl (ed - 1)) g6 (nI (ed - 1)) 0 v9 (nI nb) g11 g12 v13 g14 g15 g16 g17 g18 g19 g20 g21 g22 g23 g24 g25 g26 v27 v28 v29 v30 v31 v32 v33 v34 v35 v36 v37 (nI ol)), (v0, .inl (cA 0, 326, .inl f1_1)), (v3, .inl (cA 0, 3260, .inl fh)), (v4, .inl (cA 1, 10, .inr (.inl fl)))] H := ⟨hP, hD⟩
        refine lv_aload_n hx hb dX10_undo_73 rfl (lv_at hl 1 rfl) ?_
        refine va_get (D := D) (ci := 11) (v := .int (nI (ed - 1))) (C := RX10) (T := TX10) (N := 39) hx hb hts inX10 hown hK hP 0 rfl rfl 7 (by decide) (hts (.fieldLink RX10 83 "EscrowDeskModel" "edits" "I") (by decide +kernel)) (fun _ h9 => h9) rfl dX10_undo_74 ?_
        obtain ⟨hP9, hD9⟩ := PDq.sub (ws' := [(oX10 w0 v0 v1 v2 v3 v4 (fl (ed - 1)) g6 (nI (ed - 1)) 0 v9 (nI nb) g11 g12 v13 g14 g15 g16 g17 g18 g19 g20 g21 g22 g23 g24 g25 g26 v27 v28 v29 v30 v31 v32 v33 v34 v35 v36 v37 (nI ol)), (v0, .inl (cA 0, 326, .inl f1_1)), (v3, .inl (cA 0, 3260, .inl fh)), (v4, .inl (cA 1, 10, .inr (.inl fl)))]) hP hD [0, 1, 2, 3] (by decide) rfl
        refine W.widen (k := 0) (n := 0) (Nat.le_of_ble_eq_true rfl) (Nat.le_of_ble_eq_true rfl) ?_
        exact (W.iret (v := (nI (ed - 1))) hx hb hr (fun t ht hW => ⟨⟨(nI (ed - 1)), (), rfl, trivial, (ed - 1), kn5, kn6, (fl (ed - 1)), f1_1, (by omega), (HI.less hHI), hn7, hn8, hn9, (Or.inr ⟨by omega, rfl, hv0_1, rfl⟩), by rw [ht]; exact hP9, hD9⟩, hS.F ht⟩) hS.2.2 dX10_undo_77)
      | succ n1 ih1 =>
        intro i1 f1_1 H locs ls hi1 hv0_1 hP hD hS hl
        refine lv_iload_n hx hb dX10_undo_26 rfl (lv_at hl 0 rfl) ?_
        refine lv_sipush (v := 326) hx hb dX10_undo_27 (by decide) ?_
        refine lv_icmp_ge (tgt := 60) hx hb dX10_undo_30 (by decide) (fun c9 => absurd c9 (nI_ge (a := i1) (b := 326) (show i1 < 326 by omega) (by omega))) (fun c11 => ?_)
        refine lv_aload_n hx hb dX10_undo_33 rfl (lv_at hl 1 rfl) ?_
        refine va_get (D := D) (ci := 11) (v := .ref v0) (C := RX10) (T := TX10) (N := 39) hx hb hts inX10 hown hK hP 0 rfl rfl 0 (by decide) (hts (.fieldLink RX10 7 "EscrowDeskModel" "s" "[I") (by decide +kernel)) (fun _ h9 => h9) rfl dX10_undo_34 ?_
        refine lv_iload_n hx hb dX10_undo_37 rfl (lv_at hl 0 rfl) ?_
        refine lv_aload_n hx hb dX10_undo_38 rfl (lv_at hl 1 rfl) ?_
        refine va_get (D := D) (ci := 11) (v := .ref v3) (C := RX10) (T := TX10) (N := 39) hx hb hts inX10 hown hK hP 0 rfl rfl 3 (by decide) (hts (.fieldLink RX10 19 "EscrowDeskModel" "history" "[I") (by decide +kernel)) (fun _ h9 => h9) rfl dX10_undo_39 ?_
        refine lv_sipush (v := 326) hx hb dX10_undo_42 (by decide) ?_
        refine lv_aload_n hx hb dX10_undo_45 rfl (lv_at hl 1 rfl) ?_
        refine va_get (D := D) (ci := 11) (v := .int (nI (ed - 1))) (C := RX10) (T := TX10) (N := 39) hx hb hts inX10 hown hK hP 0 rfl rfl 7 (by decide) (hts (.fieldLink RX10 83 "EscrowDeskModel" "edits" "I") (by decide +kernel)) (fun _ h9 => h9) rfl dX10_undo_46 ?_
        refine lv_imul hx hb dX10_undo_49 ?_
        refine lv_topi (fun yn12 eyn12 => ?_)
        obtain rfl : yn12 = (nI (326 * (ed - 1))) := eyn12.trans (nI_mul 326 (ed - 1))
        refine lv_iload_n hx hb dX10_undo_50 rfl (lv_at hl 0 rfl) ?_
        refine lv_iadd hx hb dX10_undo_51 ?_
        refine lv_topi (fun yn13 eyn13 => ?_)
        obtain rfl : yn13 = (nI ((326 * (ed - 1)) + i1)) := eyn13.trans (nI_add (326 * (ed - 1)) i1)
        refine va_iald hx hb hK hP 2 0 rfl rfl (vp_in_nI (n := ((326 * (ed - 1)) + i1)) (N := 3260) (show ((326 * (ed - 1)) + i1) < 3260 by omega) (by decide)) dX10_undo_52 ?_
        refine lv_topi (fun yn14 eyn14 => ?_)
        refine va_iast hx hb hK hP hD hS 1 0 rfl rfl (vp_in_nI (n := i1) (N := 326) (show i1 < 326 by omega) (by decide)) dX10_undo_53 (fun H locs hP hD hS => ?_)
        obtain ⟨hP, hD⟩ : PDq D A [(oX10 w0 v0 v1 v2 v3 v4 g5 g6 (nI (ed - 1)) 0 v9 (nI nb) g11 g12 v13 g14 g15 g16 g17 g18 g19 g20 g21 g22 g23 g24 g25 g26 v27 v28 v29 v30 v31 v32 v33 v34 v35 v36 v37 (nI ol)), (v0, .inl (cA 0, 326, .inl (upd f1_1 (((nI i1)).toNatClampNeg) yn14))), (v3, .inl (cA 0, 3260, .inl fh)), (v4, .inl (cA 1, 10, .inr (.inl fl)))] H := ⟨hP, hD⟩
        have hn16 : Ucp (i1 + 1) (ed - 1) fh (upd f1_1 (((nI i1)).toNatClampNeg) yn14) := (by rw [eyn14]; exact Ucp.step (by omega) (by omega) hv0_1)
        generalize (upd f1_1 (((nI i1)).toNatClampNeg) yn14) = fn15 at hP hD hn16
        obtain ⟨hP, hD⟩ : PDq D A [(oX10 w0 v0 v1 v2 v3 v4 g5 g6 (nI (ed - 1)) 0 v9 (nI nb) g11 g12 v13 g14 g15 g16 g17 g18 g19 g20 g21 g22 g23 g24 g25 g26 v27 v28 v29 v30 v31 v32 v33 v34 v35 v36 v37 (nI ol)), (v0, .inl (cA 0, 326, .inl fn15)), (v3, .inl (cA 0, 3260, .inl fh)), (v4, .inl (cA 1, 10, .inr (.inl fl)))] H := ⟨hP, hD⟩
        refine lv_iinc (v := (nI (i1 + 1))) (lv' := [(1, .int (nI (i1 + 1))), (0, .ref w0)]) hx hb dX10_undo_54 hl (k := 0) rfl (nI_1 _) (by decide) rfl (fun ls hl => ?_)
        refine lv_goto (tgt := 26) hx hb dX10_undo_57 (by decide) ?_
        obtain ⟨hP9, hD9⟩ := PDq.sub (ws' := [(oX10 w0 v0 v1 v2 v3 v4 g5 g6 (nI (ed - 1)) 0 v9 (nI nb) g11 g12 v13 g14 g15 g16 g17 g18 g19 g20 g21 g22 g23 g24 g25 g26 v27 v28 v29 v30 v31 v32 v33 v34 v35 v36 v37 (nI ol)), (v0, .inl (cA 0, 326, .inl fn15)), (v3, .inl (cA 0, 3260, .inl fh)), (v4, .inl (cA 1, 10, .inr (.inl fl)))]) hP hD [0, 1, 2, 3] (by decide) rfl
        exact ih1 (i1 + 1) fn15 H _ ls (by omega) hn16 hP9 hD9 hS (lv_sub hl [0, 1] rfl)
    obtain ⟨hP9, hD9⟩ := PDq.sub (ws' := [(oX10 w0 v0 v1 v2 v3 v4 g5 g6 (nI (ed - 1)) 0 v9 (nI nb) g11 g12 v13 g14 g15 g16 g17 g18 g19 g20 g21 g22 g23 g24 g25 g26 v27 v28 v29 v30 v31 v32 v33 v34 v35 v36 v37 (nI ol)), (v0, .inl (cA 0, 326, .inl fs)), (v3, .inl (cA 0, 3260, .inl fh)), (v4, .inl (cA 1, 10, .inr (.inl fl)))]) hP hD [0, 1, 2, 3] (by decide) rfl
    exact loop1 (326 - 0) 0 fs _ _ ls (by omega) (fun j hj => absurd hj (Nat.not_lt_zero j)) hP9 hD9 hS (lv_sub hl [0, 1] rfl)
  · skip
    have hn17 : ed = 0 := (nI_eq (a := ed) (b := 0) (by omega) (by omega)).mp c1
    refine lv_iconst (v := (-1)) hx hb dX10_undo_12 (by decide) ?_
    obtain ⟨hP9, hD9⟩ := PDq.sub (ws' := [(oX10 w0 v0 v1 v2 v3 v4 g5 g6 (nI ed) 0 v9 (nI nb) g11 g12 v13 g14 g15 g16 g17 g18 g19 g20 g21 g22 g23 g24 g25 g26 v27 v28 v29 v30 v31 v32 v33 v34 v35 v36 v37 (nI ol)), (v0, .inl (cA 0, 326, .inl fs)), (v3, .inl (cA 0, 3260, .inl fh)), (v4, .inl (cA 1, 10, .inr (.inl fl)))]) hP hD [0, 1, 2, 3] (by decide) rfl
    refine W.widen (k := 0) (n := 0) (Nat.le_of_ble_eq_true rfl) (Nat.le_of_ble_eq_true rfl) ?_
    exact (W.iret (v := (-1)) hx hb hr (fun t ht hW => ⟨⟨(-1), (), rfl, trivial, ed, en, dy, g5, fs, hed, hHI, hen, hd9, hri, (Or.inl ⟨hn17, rfl, rfl, rfl⟩), by rw [ht]; exact hP9, hD9⟩, hS.F ht⟩) hS.2.2 dX10_undo_13)

set_option maxHeartbeats 4000000 in
set_option maxRecDepth 100000 in
/-- reference, exactly: between -/
theorem e_between (l : Launch) (D : va_G) (cA : Nat → ClassId) (sa : Nat → Nat) (a : Int64) (lo : Int64) (hi : Int64) (sz : Nat) : Met l yX10_between wsX10_between ({ frames := 0, cells := 0, slots := 0, locals := 0 }) (va_Pc [.long a, .long lo, .long hi] (Wd D cA sa [] sz)) (va_Qi (fun (r : Int32) (_ : Unit) => (r = 1 ∧ (lo ≤ a ∧ a ≤ hi)) ∨ (r = 0 ∧ ¬ (lo ≤ a ∧ a ≤ hi))) (fun (_ : Unit) t => Wq D (va_A [] sz) [] t) (va_A [] sz)) 0 0 (va_A [] sz) := by
  refine Met.ofW (cc := cX10_between) (maxL := 6) (ret := (some .boolean)) (by decide) rfl ?_
  intro p e s m args below meth c s₁ B hml hv
  obtain ⟨rfl, hsz, hP, hK, hD0, hC, hZ⟩ := hv
  have hx := B.exec
  have hb := B.bytes
  have hr := B.returns
  have hts := atoms_spec (ws := wsX10_between) B.pre
  have hown : s.vm.findClass RX10 = some m.cls := findClass_of_methodNamed B.named
  have hlocks := B.notSynchronized
  subst hsz
  have hD := hD0.self (sz := s.heap.size)
  generalize hAe : va_A [] s.heap.size = A at hD hZ ⊢
  have hA : ∀ q : Nat, s.heap.size ≤ q → A q := fun q h => by rw [← hAe]; exact Or.inr h
  have hS : va_S A s.heap s.heap [] := va_S.rf
  have hP : va_P D vwCl [] s.heap := hP
  have hl := lv_entry ([.long a, .long lo, .long hi]) (n := 6) (Nat.le_of_ble_eq_true rfl)
  rw [lg_entry_eq]
  generalize (lg_sl ([.long a, .long lo, .long hi]) ++ List.replicate (6 - (lg_sl ([.long a, .long lo, .long hi])).length) Slot.unset).toArray = ls at hl ⊢
  have hl : lv_has ls 6 [(0, .long a), (2, .long lo), (4, .long hi)] := hl
  refine lv_lload_n hx hb dX10_between_0 rfl (lv_at hl 0 rfl) ?_
  refine lv_lload_n hx hb dX10_between_1 rfl (lv_at hl 1 rfl) ?_
  refine W.lcmp hx hb dX10_between_2 ?_
  refine lv_if_lt (tgt := 17) hx hb dX10_between_3 (by decide) (fun c1 => ?_) (fun c1 => ?_)
  · skip
    refine lv_iconst (v := 0) hx hb dX10_between_17 (by decide) ?_
    obtain ⟨hP9, hD9⟩ := PDq.sub (ws' := []) hP hD [] (by decide) rfl
    refine W.widen (k := 0) (n := 0) (Nat.le_of_ble_eq_true rfl) (Nat.le_of_ble_eq_true rfl) ?_
    exact (W.zret (v := 0) hx hb hr (by first | rfl | decide) (fun t ht hW => ⟨⟨0, (), rfl, (Or.inr ⟨rfl, (fun q9 => absurd (lg_lt.mp c1) (Int64.not_lt.mpr q9.1))⟩), by rw [ht]; exact hP9, hD9⟩, hS.F ht⟩) hS.2.2 dX10_between_18)
  · skip
    refine lv_lload_n hx hb dX10_between_6 rfl (lv_at hl 0 rfl) ?_
    refine lv_lload hx hb dX10_between_7 (lv_at hl 2 rfl) ?_
    refine W.lcmp hx hb dX10_between_9 ?_
    refine lv_if_gt (tgt := 17) hx hb dX10_between_10 (by decide) (fun c2 => ?_) (fun c2 => ?_)
    · skip
      refine lv_iconst (v := 0) hx hb dX10_between_17 (by decide) ?_
      obtain ⟨hP9, hD9⟩ := PDq.sub (ws' := []) hP hD [] (by decide) rfl
      refine W.widen (k := 0) (n := 0) (Nat.le_of_ble_eq_true rfl) (Nat.le_of_ble_eq_true rfl) ?_
      exact (W.zret (v := 0) hx hb hr (by first | rfl | decide) (fun t ht hW => ⟨⟨0, (), rfl, (Or.inr ⟨rfl, (fun q9 => absurd (lg_gt.mp c2) (Int64.not_lt.mpr q9.2))⟩), by rw [ht]; exact hP9, hD9⟩, hS.F ht⟩) hS.2.2 dX10_between_18)
    · skip
      refine lv_iconst (v := 1) hx hb dX10_between_13 (by decide) ?_
      refine lv_goto (tgt := 18) hx hb dX10_between_14 (by decide) ?_
      obtain ⟨hP9, hD9⟩ := PDq.sub (ws' := []) hP hD [] (by decide) rfl
      refine W.widen (k := 0) (n := 0) (Nat.le_of_ble_eq_true rfl) (Nat.le_of_ble_eq_true rfl) ?_
      exact (W.zret (v := 1) hx hb hr (by first | rfl | decide) (fun t ht hW => ⟨⟨1, (), rfl, (Or.inl ⟨rfl, ⟨lg_nlt c1, lg_ngt c2⟩⟩), by rw [ht]; exact hP9, hD9⟩, hS.F ht⟩) hS.2.2 dX10_between_18)

set_option maxHeartbeats 4000000 in
set_option maxRecDepth 100000 in
/-- reference, exactly: isMilestone -/
theorem e_isMilestone (l : Launch) (D : va_G) (cA : Nat → ClassId) (sa : Nat → Nat) (w0 : Nat) (ed : Nat) (nb : Nat) (ol : Nat) (v0 : Nat) (v1 : Nat) (v2 : Nat) (v3 : Nat) (v4 : Nat) (v9 : Nat) (v13 : Nat) (v27 : Nat) (v28 : Nat) (v29 : Nat) (v30 : Nat) (v31 : Nat) (v32 : Nat) (v33 : Nat) (v34 : Nat) (v35 : Nat) (v36 : Nat) (v37 : Nat) (g8 : Int32) (g11 : Int32) (g12 : Int32) (g14 : Int32) (g15 : Int32) (g16 : Int32) (g17 : Int32) (g18 : Int32) (g19 : Int32) (g20 : Int32) (g21 : Int32) (g22 : Int32) (g23 : Int32) (g24 : Int32) (g26 : Int32) (g5 : Int64) (g6 : Int64) (g25 : Int64) (cn : Nat) (pq : Nat) (en : Nat) (dy : Nat) (fs : Nat → Int32) (i : Int32) (sz : Nat) (hcn : cn ≤ 10) (hpq : pq ≤ 8) (hen : en ≤ 60) (hdy : dy ≤ 20000) (hri : RI cn pq en dy fs) : Met l yX10_isMilestone wsX10_isMilestone ({ frames := 1, cells := 0, slots := 0, locals := 25 }) (va_Pc [.ref w0, .int i] (Wd D cA sa [(oX10 w0 v0 v1 v2 v3 v4 g5 g6 (nI ed) g8 v9 (nI nb) g11 g12 v13 g14 g15 g16 g17 g18 g19 g20 g21 g22 g23 g24 g25 g26 v27 v28 v29 v30 v31 v32 v33 v34 v35 v36 v37 (nI ol)), (v0, .inl (cA 0, 326, .inl fs))] sz)) (va_Qi (fun (r : Int32) (_ : Unit) => (r = 1 ∧ ∃ n, n < cn ∧ i = nI n) ∨ (r = 0 ∧ ¬ (∃ n, n < cn ∧ i = nI n))) (fun (_ : Unit) t => Wq D (va_A [(oX10 w0 v0 v1 v2 v3 v4 g5 g6 (nI ed) g8 v9 (nI nb) g11 g12 v13 g14 g15 g16 g17 g18 g19 g20 g21 g22 g23 g24 g25 g26 v27 v28 v29 v30 v31 v32 v33 v34 v35 v36 v37 (nI ol)), (v0, .inl (cA 0, 326, .inl fs))] sz) [(oX10 w0 v0 v1 v2 v3 v4 g5 g6 (nI ed) g8 v9 (nI nb) g11 g12 v13 g14 g15 g16 g17 g18 g19 g20 g21 g22 g23 g24 g25 g26 v27 v28 v29 v30 v31 v32 v33 v34 v35 v36 v37 (nI ol)), (v0, .inl (cA 0, 326, .inl fs))] t) (va_A [(oX10 w0 v0 v1 v2 v3 v4 g5 g6 (nI ed) g8 v9 (nI nb) g11 g12 v13 g14 g15 g16 g17 g18 g19 g20 g21 g22 g23 g24 g25 g26 v27 v28 v29 v30 v31 v32 v33 v34 v35 v36 v37 (nI ol)), (v0, .inl (cA 0, 326, .inl fs))] sz)) 0 0 (va_A [(oX10 w0 v0 v1 v2 v3 v4 g5 g6 (nI ed) g8 v9 (nI nb) g11 g12 v13 g14 g15 g16 g17 g18 g19 g20 g21 g22 g23 g24 g25 g26 v27 v28 v29 v30 v31 v32 v33 v34 v35 v36 v37 (nI ol)), (v0, .inl (cA 0, 326, .inl fs))] sz) := by
  refine Met.ofW (cc := cX10_isMilestone) (maxL := 2) (ret := (some .boolean)) (by decide) rfl ?_
  intro p e s m args below meth c s₁ B hml hv
  obtain ⟨rfl, hsz, hP, hK, hD0, hC, hZ⟩ := hv
  have hx := B.exec
  have hb := B.bytes
  have hr := B.returns
  have hts := atoms_spec (ws := wsX10_isMilestone) B.pre
  have hown : s.vm.findClass RX10 = some m.cls := findClass_of_methodNamed B.named
  have hlocks := B.notSynchronized
  subst hsz
  have hD := hD0.self (sz := s.heap.size)
  generalize hAe : va_A [(oX10 w0 v0 v1 v2 v3 v4 g5 g6 (nI ed) g8 v9 (nI nb) g11 g12 v13 g14 g15 g16 g17 g18 g19 g20 g21 g22 g23 g24 g25 g26 v27 v28 v29 v30 v31 v32 v33 v34 v35 v36 v37 (nI ol)), (v0, .inl (cA 0, 326, .inl fs))] s.heap.size = A at hD hZ ⊢
  have hA : ∀ q : Nat, s.heap.size ≤ q → A q := fun q h => by rw [← hAe]; exact Or.inr h
  have hS : va_S A s.heap s.heap [] := va_S.rf
  have hP : va_P D vwCl [(oX10 w0 v0 v1 v2 v3 v4 g5 g6 (nI ed) g8 v9 (nI nb) g11 g12 v13 g14 g15 g16 g17 g18 g19 g20 g21 g22 g23 g24 g25 g26 v27 v28 v29 v30 v31 v32 v33 v34 v35 v36 v37 (nI ol)), (v0, .inl (cA 0, 326, .inl fs))] s.heap := hP
  have hl := lv_entry ([.ref w0, .int i]) (n := 2) (Nat.le_of_ble_eq_true rfl)
  rw [lg_entry_eq]
  generalize (lg_sl ([.ref w0, .int i]) ++ List.replicate (2 - (lg_sl ([.ref w0, .int i])).length) Slot.unset).toArray = ls at hl ⊢
  have hl : lv_has ls 2 [(0, .ref w0), (1, .int i)] := hl
  have inX10 : ∀ w ∈ u_ws RX10 TX10 39, w ∈ wsX10_isMilestone := by decide +kernel
  refine lv_iload_n hx hb dX10_isMilestone_0 rfl (lv_at hl 1 rfl) ?_
  refine lv_i2l (v := (i.toInt64)) hx hb dX10_isMilestone_1 rfl ?_
  refine lv_lconst (v := 0) hx hb dX10_isMilestone_2 (by decide) ?_
  refine lv_aload_n hx hb dX10_isMilestone_3 rfl (lv_at hl 0 rfl) ?_
  refine va_get (D := D) (ci := 11) (v := .ref v0) (C := RX10) (T := TX10) (N := 39) hx hb hts inX10 hown hK hP 0 rfl rfl 0 (by decide) (hts (.fieldLink RX10 7 "EscrowDeskModel" "s" "[I") (by decide +kernel)) (fun _ h9 => h9) rfl dX10_isMilestone_4 ?_
  refine lv_bipush (v := 13) hx hb dX10_isMilestone_7 (by decide) ?_
  refine va_iald hx hb hK hP 1 0 rfl rfl (vp_in_iff.mpr (by decide)) dX10_isMilestone_9 ?_
  refine lv_topi (fun yn1 eyn1 => ?_)
  obtain rfl : yn1 = (nI cn) := eyn1.trans hri.1
  refine lv_iconst (v := 1) hx hb dX10_isMilestone_10 (by decide) ?_
  rcases Nat.eq_zero_or_pos cn with hn2 | hn2
  · skip
    refine lv_isub hx hb dX10_isMilestone_11 ?_
    refine lv_topi (fun yn3 eyn3 => ?_)
    obtain rfl : yn3 = (-1) := eyn3.trans (nI_sub0 hn2)
    refine lv_i2l (v := (-1)) hx hb dX10_isMilestone_12 (by decide) ?_
    obtain ⟨hPc, hDc, hFc⟩ := PDq.cut (wc := []) hP hD hS hA [] (by decide) rfl
    refine va_calli (va_runS (As := [.long (i.toInt64), .long 0, .long (-1)]) (rest := []) ⟨hx, hb, hml, hown, hts⟩ (e_between l D cA sa (i.toInt64) 0 (-1) s.heap.size) (va_cwS 3 hts gX10_isMilestone_X10_between rfl rfl rfl (by decide +kernel) ⟨(Nat.le_of_ble_eq_true rfl), (Nat.le_of_ble_eq_true rfl)⟩) ⟨Wd.blind, fun U hU hW => ⟨rfl, Wd.call hPc hDc hK hC hZ hS hFc U hU hW⟩⟩ rfl rfl hl.1 rfl (lv_room (Nat.le_of_ble_eq_true rfl)) dX10_isMilestone_13 ⟨(Nat.le_of_ble_eq_true rfl), (Nat.le_of_ble_eq_true rfl)⟩) hS (fun q _ h => hFc q h) hFc (fun rn4 u t H1 locs ht hvm hw hB hz1 hk1 hS => ?_)
    obtain ⟨hP1, hD1⟩ := hB
    rw [ht] at hP1
    obtain ⟨hP, hD⟩ := PDq.join (w := [(oX10 w0 v0 v1 v2 v3 v4 g5 g6 (nI ed) g8 v9 (nI nb) g11 g12 v13 g14 g15 g16 g17 g18 g19 g20 g21 g22 g23 g24 g25 g26 v27 v28 v29 v30 v31 v32 v33 v34 v35 v36 v37 (nI ol)), (v0, .inl (cA 0, 326, .inl fs))]) 2 hP hD [] [0, 1] rfl rfl (by decide) (by decide) hk1 hFc hP1 hD1 rfl
    generalize H1 = H at hP hS ⊢
    rcases hw with ⟨hr9, hn5⟩ | ⟨hr9, hn5⟩
    · skip
      subst hr9
      obtain ⟨hP9, hD9⟩ := PDq.sub (ws' := [(oX10 w0 v0 v1 v2 v3 v4 g5 g6 (nI ed) g8 v9 (nI nb) g11 g12 v13 g14 g15 g16 g17 g18 g19 g20 g21 g22 g23 g24 g25 g26 v27 v28 v29 v30 v31 v32 v33 v34 v35 v36 v37 (nI ol)), (v0, .inl (cA 0, 326, .inl fs))]) hP hD [0, 1] (by decide) rfl
      refine W.widen (k := 0) (n := 0) (Nat.le_of_ble_eq_true rfl) (Nat.le_of_ble_eq_true rfl) ?_
      exact (W.zret (v := 1) hx hb hr (by first | rfl | decide) (fun t ht hW => ⟨⟨1, (), rfl, (Or.inl ⟨rfl, mil_y0 hn5 (by omega)⟩), by rw [ht]; exact hP9, hD9⟩, hS.F ht⟩) hS.2.2 dX10_isMilestone_16)
    · skip
      subst hr9
      obtain ⟨hP9, hD9⟩ := PDq.sub (ws' := [(oX10 w0 v0 v1 v2 v3 v4 g5 g6 (nI ed) g8 v9 (nI nb) g11 g12 v13 g14 g15 g16 g17 g18 g19 g20 g21 g22 g23 g24 g25 g26 v27 v28 v29 v30 v31 v32 v33 v34 v35 v36 v37 (nI ol)), (v0, .inl (cA 0, 326, .inl fs))]) hP hD [0, 1] (by decide) rfl
      refine W.widen (k := 0) (n := 0) (Nat.le_of_ble_eq_true rfl) (Nat.le_of_ble_eq_true rfl) ?_
      exact (W.zret (v := 0) hx hb hr (by first | rfl | decide) (fun t ht hW => ⟨⟨0, (), rfl, (Or.inr ⟨rfl, mil_n0 hn5 (by omega)⟩), by rw [ht]; exact hP9, hD9⟩, hS.F ht⟩) hS.2.2 dX10_isMilestone_16)
  · skip
    refine lv_isub hx hb dX10_isMilestone_11 ?_
    refine lv_topi (fun yn6 eyn6 => ?_)
    obtain rfl : yn6 = (nI (cn - 1)) := eyn6.trans (nI_sub (a := cn) (b := 1) (by omega))
    refine lv_i2l (v := ((nI (cn - 1)).toInt64)) hx hb dX10_isMilestone_12 rfl ?_
    obtain ⟨hPc, hDc, hFc⟩ := PDq.cut (wc := []) hP hD hS hA [] (by decide) rfl
    refine va_calli (va_runS (As := [.long (i.toInt64), .long 0, .long ((nI (cn - 1)).toInt64)]) (rest := []) ⟨hx, hb, hml, hown, hts⟩ (e_between l D cA sa (i.toInt64) 0 ((nI (cn - 1)).toInt64) s.heap.size) (va_cwS 3 hts gX10_isMilestone_X10_between rfl rfl rfl (by decide +kernel) ⟨(Nat.le_of_ble_eq_true rfl), (Nat.le_of_ble_eq_true rfl)⟩) ⟨Wd.blind, fun U hU hW => ⟨rfl, Wd.call hPc hDc hK hC hZ hS hFc U hU hW⟩⟩ rfl rfl hl.1 rfl (lv_room (Nat.le_of_ble_eq_true rfl)) dX10_isMilestone_13 ⟨(Nat.le_of_ble_eq_true rfl), (Nat.le_of_ble_eq_true rfl)⟩) hS (fun q _ h => hFc q h) hFc (fun rn7 u t H1 locs ht hvm hw hB hz1 hk1 hS => ?_)
    obtain ⟨hP1, hD1⟩ := hB
    rw [ht] at hP1
    obtain ⟨hP, hD⟩ := PDq.join (w := [(oX10 w0 v0 v1 v2 v3 v4 g5 g6 (nI ed) g8 v9 (nI nb) g11 g12 v13 g14 g15 g16 g17 g18 g19 g20 g21 g22 g23 g24 g25 g26 v27 v28 v29 v30 v31 v32 v33 v34 v35 v36 v37 (nI ol)), (v0, .inl (cA 0, 326, .inl fs))]) 2 hP hD [] [0, 1] rfl rfl (by decide) (by decide) hk1 hFc hP1 hD1 rfl
    generalize H1 = H at hP hS ⊢
    rcases hw with ⟨hr9, hn8⟩ | ⟨hr9, hn8⟩
    · skip
      subst hr9
      obtain ⟨hP9, hD9⟩ := PDq.sub (ws' := [(oX10 w0 v0 v1 v2 v3 v4 g5 g6 (nI ed) g8 v9 (nI nb) g11 g12 v13 g14 g15 g16 g17 g18 g19 g20 g21 g22 g23 g24 g25 g26 v27 v28 v29 v30 v31 v32 v33 v34 v35 v36 v37 (nI ol)), (v0, .inl (cA 0, 326, .inl fs))]) hP hD [0, 1] (by decide) rfl
      refine W.widen (k := 0) (n := 0) (Nat.le_of_ble_eq_true rfl) (Nat.le_of_ble_eq_true rfl) ?_
      exact (W.zret (v := 1) hx hb hr (by first | rfl | decide) (fun t ht hW => ⟨⟨1, (), rfl, (Or.inl ⟨rfl, mil_y hn8 (by omega)⟩), by rw [ht]; exact hP9, hD9⟩, hS.F ht⟩) hS.2.2 dX10_isMilestone_16)
    · skip
      subst hr9
      obtain ⟨hP9, hD9⟩ := PDq.sub (ws' := [(oX10 w0 v0 v1 v2 v3 v4 g5 g6 (nI ed) g8 v9 (nI nb) g11 g12 v13 g14 g15 g16 g17 g18 g19 g20 g21 g22 g23 g24 g25 g26 v27 v28 v29 v30 v31 v32 v33 v34 v35 v36 v37 (nI ol)), (v0, .inl (cA 0, 326, .inl fs))]) hP hD [0, 1] (by decide) rfl
      refine W.widen (k := 0) (n := 0) (Nat.le_of_ble_eq_true rfl) (Nat.le_of_ble_eq_true rfl) ?_
      exact (W.zret (v := 0) hx hb hr (by first | rfl | decide) (fun t ht hW => ⟨⟨0, (), rfl, (Or.inr ⟨rfl, mil_n hn8 (by omega)⟩), by rw [ht]; exact hP9, hD9⟩, hS.F ht⟩) hS.2.2 dX10_isMilestone_16)

set_option maxHeartbeats 4000000 in
set_option maxRecDepth 100000 in
/-- reference, exactly: isProof -/
theorem e_isProof (l : Launch) (D : va_G) (cA : Nat → ClassId) (sa : Nat → Nat) (w0 : Nat) (ed : Nat) (nb : Nat) (ol : Nat) (v0 : Nat) (v1 : Nat) (v2 : Nat) (v3 : Nat) (v4 : Nat) (v9 : Nat) (v13 : Nat) (v27 : Nat) (v28 : Nat) (v29 : Nat) (v30 : Nat) (v31 : Nat) (v32 : Nat) (v33 : Nat) (v34 : Nat) (v35 : Nat) (v36 : Nat) (v37 : Nat) (g8 : Int32) (g11 : Int32) (g12 : Int32) (g14 : Int32) (g15 : Int32) (g16 : Int32) (g17 : Int32) (g18 : Int32) (g19 : Int32) (g20 : Int32) (g21 : Int32) (g22 : Int32) (g23 : Int32) (g24 : Int32) (g26 : Int32) (g5 : Int64) (g6 : Int64) (g25 : Int64) (cn : Nat) (pq : Nat) (en : Nat) (dy : Nat) (fs : Nat → Int32) (i : Int32) (sz : Nat) (hcn : cn ≤ 10) (hpq : pq ≤ 8) (hen : en ≤ 60) (hdy : dy ≤ 20000) (hri : RI cn pq en dy fs) : Met l yX10_isProof wsX10_isProof ({ frames := 1, cells := 0, slots := 0, locals := 25 }) (va_Pc [.ref w0, .int i] (Wd D cA sa [(oX10 w0 v0 v1 v2 v3 v4 g5 g6 (nI ed) g8 v9 (nI nb) g11 g12 v13 g14 g15 g16 g17 g18 g19 g20 g21 g22 g23 g24 g25 g26 v27 v28 v29 v30 v31 v32 v33 v34 v35 v36 v37 (nI ol)), (v0, .inl (cA 0, 326, .inl fs))] sz)) (va_Qi (fun (r : Int32) (_ : Unit) => (r = 1 ∧ ∃ n, n < pq ∧ i = nI n) ∨ (r = 0 ∧ ¬ (∃ n, n < pq ∧ i = nI n))) (fun (_ : Unit) t => Wq D (va_A [(oX10 w0 v0 v1 v2 v3 v4 g5 g6 (nI ed) g8 v9 (nI nb) g11 g12 v13 g14 g15 g16 g17 g18 g19 g20 g21 g22 g23 g24 g25 g26 v27 v28 v29 v30 v31 v32 v33 v34 v35 v36 v37 (nI ol)), (v0, .inl (cA 0, 326, .inl fs))] sz) [(oX10 w0 v0 v1 v2 v3 v4 g5 g6 (nI ed) g8 v9 (nI nb) g11 g12 v13 g14 g15 g16 g17 g18 g19 g20 g21 g22 g23 g24 g25 g26 v27 v28 v29 v30 v31 v32 v33 v34 v35 v36 v37 (nI ol)), (v0, .inl (cA 0, 326, .inl fs))] t) (va_A [(oX10 w0 v0 v1 v2 v3 v4 g5 g6 (nI ed) g8 v9 (nI nb) g11 g12 v13 g14 g15 g16 g17 g18 g19 g20 g21 g22 g23 g24 g25 g26 v27 v28 v29 v30 v31 v32 v33 v34 v35 v36 v37 (nI ol)), (v0, .inl (cA 0, 326, .inl fs))] sz)) 0 0 (va_A [(oX10 w0 v0 v1 v2 v3 v4 g5 g6 (nI ed) g8 v9 (nI nb) g11 g12 v13 g14 g15 g16 g17 g18 g19 g20 g21 g22 g23 g24 g25 g26 v27 v28 v29 v30 v31 v32 v33 v34 v35 v36 v37 (nI ol)), (v0, .inl (cA 0, 326, .inl fs))] sz) := by
  refine Met.ofW (cc := cX10_isProof) (maxL := 2) (ret := (some .boolean)) (by decide) rfl ?_
  intro p e s m args below meth c s₁ B hml hv
  obtain ⟨rfl, hsz, hP, hK, hD0, hC, hZ⟩ := hv
  have hx := B.exec
  have hb := B.bytes
  have hr := B.returns
  have hts := atoms_spec (ws := wsX10_isProof) B.pre
  have hown : s.vm.findClass RX10 = some m.cls := findClass_of_methodNamed B.named
  have hlocks := B.notSynchronized
  subst hsz
  have hD := hD0.self (sz := s.heap.size)
  generalize hAe : va_A [(oX10 w0 v0 v1 v2 v3 v4 g5 g6 (nI ed) g8 v9 (nI nb) g11 g12 v13 g14 g15 g16 g17 g18 g19 g20 g21 g22 g23 g24 g25 g26 v27 v28 v29 v30 v31 v32 v33 v34 v35 v36 v37 (nI ol)), (v0, .inl (cA 0, 326, .inl fs))] s.heap.size = A at hD hZ ⊢
  have hA : ∀ q : Nat, s.heap.size ≤ q → A q := fun q h => by rw [← hAe]; exact Or.inr h
  have hS : va_S A s.heap s.heap [] := va_S.rf
  have hP : va_P D vwCl [(oX10 w0 v0 v1 v2 v3 v4 g5 g6 (nI ed) g8 v9 (nI nb) g11 g12 v13 g14 g15 g16 g17 g18 g19 g20 g21 g22 g23 g24 g25 g26 v27 v28 v29 v30 v31 v32 v33 v34 v35 v36 v37 (nI ol)), (v0, .inl (cA 0, 326, .inl fs))] s.heap := hP
  have hl := lv_entry ([.ref w0, .int i]) (n := 2) (Nat.le_of_ble_eq_true rfl)
  rw [lg_entry_eq]
  generalize (lg_sl ([.ref w0, .int i]) ++ List.replicate (2 - (lg_sl ([.ref w0, .int i])).length) Slot.unset).toArray = ls at hl ⊢
  have hl : lv_has ls 2 [(0, .ref w0), (1, .int i)] := hl
  have inX10 : ∀ w ∈ u_ws RX10 TX10 39, w ∈ wsX10_isProof := by decide +kernel
  refine lv_iload_n hx hb dX10_isProof_0 rfl (lv_at hl 1 rfl) ?_
  refine lv_i2l (v := (i.toInt64)) hx hb dX10_isProof_1 rfl ?_
  refine lv_lconst (v := 0) hx hb dX10_isProof_2 (by decide) ?_
  refine lv_aload_n hx hb dX10_isProof_3 rfl (lv_at hl 0 rfl) ?_
  refine va_get (D := D) (ci := 11) (v := .ref v0) (C := RX10) (T := TX10) (N := 39) hx hb hts inX10 hown hK hP 0 rfl rfl 0 (by decide) (hts (.fieldLink RX10 7 "EscrowDeskModel" "s" "[I") (by decide +kernel)) (fun _ h9 => h9) rfl dX10_isProof_4 ?_
  refine lv_bipush (v := 14) hx hb dX10_isProof_7 (by decide) ?_
  refine va_iald hx hb hK hP 1 0 rfl rfl (vp_in_iff.mpr (by decide)) dX10_isProof_9 ?_
  refine lv_topi (fun yn1 eyn1 => ?_)
  obtain rfl : yn1 = (nI pq) := eyn1.trans hri.2.1
  refine lv_iconst (v := 1) hx hb dX10_isProof_10 (by decide) ?_
  rcases Nat.eq_zero_or_pos pq with hn2 | hn2
  · skip
    refine lv_isub hx hb dX10_isProof_11 ?_
    refine lv_topi (fun yn3 eyn3 => ?_)
    obtain rfl : yn3 = (-1) := eyn3.trans (nI_sub0 hn2)
    refine lv_i2l (v := (-1)) hx hb dX10_isProof_12 (by decide) ?_
    obtain ⟨hPc, hDc, hFc⟩ := PDq.cut (wc := []) hP hD hS hA [] (by decide) rfl
    refine va_calli (va_runS (As := [.long (i.toInt64), .long 0, .long (-1)]) (rest := []) ⟨hx, hb, hml, hown, hts⟩ (e_between l D cA sa (i.toInt64) 0 (-1) s.heap.size) (va_cwS 3 hts gX10_isProof_X10_between rfl rfl rfl (by decide +kernel) ⟨(Nat.le_of_ble_eq_true rfl), (Nat.le_of_ble_eq_true rfl)⟩) ⟨Wd.blind, fun U hU hW => ⟨rfl, Wd.call hPc hDc hK hC hZ hS hFc U hU hW⟩⟩ rfl rfl hl.1 rfl (lv_room (Nat.le_of_ble_eq_true rfl)) dX10_isProof_13 ⟨(Nat.le_of_ble_eq_true rfl), (Nat.le_of_ble_eq_true rfl)⟩) hS (fun q _ h => hFc q h) hFc (fun rn4 u t H1 locs ht hvm hw hB hz1 hk1 hS => ?_)
    obtain ⟨hP1, hD1⟩ := hB
    rw [ht] at hP1
    obtain ⟨hP, hD⟩ := PDq.join (w := [(oX10 w0 v0 v1 v2 v3 v4 g5 g6 (nI ed) g8 v9 (nI nb) g11 g12 v13 g14 g15 g16 g17 g18 g19 g20 g21 g22 g23 g24 g25 g26 v27 v28 v29 v30 v31 v32 v33 v34 v35 v36 v37 (nI ol)), (v0, .inl (cA 0, 326, .inl fs))]) 2 hP hD [] [0, 1] rfl rfl (by decide) (by decide) hk1 hFc hP1 hD1 rfl
    generalize H1 = H at hP hS ⊢
    rcases hw with ⟨hr9, hn5⟩ | ⟨hr9, hn5⟩
    · skip
      subst hr9
      obtain ⟨hP9, hD9⟩ := PDq.sub (ws' := [(oX10 w0 v0 v1 v2 v3 v4 g5 g6 (nI ed) g8 v9 (nI nb) g11 g12 v13 g14 g15 g16 g17 g18 g19 g20 g21 g22 g23 g24 g25 g26 v27 v28 v29 v30 v31 v32 v33 v34 v35 v36 v37 (nI ol)), (v0, .inl (cA 0, 326, .inl fs))]) hP hD [0, 1] (by decide) rfl
      refine W.widen (k := 0) (n := 0) (Nat.le_of_ble_eq_true rfl) (Nat.le_of_ble_eq_true rfl) ?_
      exact (W.zret (v := 1) hx hb hr (by first | rfl | decide) (fun t ht hW => ⟨⟨1, (), rfl, (Or.inl ⟨rfl, mil_y0 hn5 (by omega)⟩), by rw [ht]; exact hP9, hD9⟩, hS.F ht⟩) hS.2.2 dX10_isProof_16)
    · skip
      subst hr9
      obtain ⟨hP9, hD9⟩ := PDq.sub (ws' := [(oX10 w0 v0 v1 v2 v3 v4 g5 g6 (nI ed) g8 v9 (nI nb) g11 g12 v13 g14 g15 g16 g17 g18 g19 g20 g21 g22 g23 g24 g25 g26 v27 v28 v29 v30 v31 v32 v33 v34 v35 v36 v37 (nI ol)), (v0, .inl (cA 0, 326, .inl fs))]) hP hD [0, 1] (by decide) rfl
      refine W.widen (k := 0) (n := 0) (Nat.le_of_ble_eq_true rfl) (Nat.le_of_ble_eq_true rfl) ?_
      exact (W.zret (v := 0) hx hb hr (by first | rfl | decide) (fun t ht hW => ⟨⟨0, (), rfl, (Or.inr ⟨rfl, mil_n0 hn5 (by omega)⟩), by rw [ht]; exact hP9, hD9⟩, hS.F ht⟩) hS.2.2 dX10_isProof_16)
  · skip
    refine lv_isub hx hb dX10_isProof_11 ?_
    refine lv_topi (fun yn6 eyn6 => ?_)
    obtain rfl : yn6 = (nI (pq - 1)) := eyn6.trans (nI_sub (a := pq) (b := 1) (by omega))
    refine lv_i2l (v := ((nI (pq - 1)).toInt64)) hx hb dX10_isProof_12 rfl ?_
    obtain ⟨hPc, hDc, hFc⟩ := PDq.cut (wc := []) hP hD hS hA [] (by decide) rfl
    refine va_calli (va_runS (As := [.long (i.toInt64), .long 0, .long ((nI (pq - 1)).toInt64)]) (rest := []) ⟨hx, hb, hml, hown, hts⟩ (e_between l D cA sa (i.toInt64) 0 ((nI (pq - 1)).toInt64) s.heap.size) (va_cwS 3 hts gX10_isProof_X10_between rfl rfl rfl (by decide +kernel) ⟨(Nat.le_of_ble_eq_true rfl), (Nat.le_of_ble_eq_true rfl)⟩) ⟨Wd.blind, fun U hU hW => ⟨rfl, Wd.call hPc hDc hK hC hZ hS hFc U hU hW⟩⟩ rfl rfl hl.1 rfl (lv_room (Nat.le_of_ble_eq_true rfl)) dX10_isProof_13 ⟨(Nat.le_of_ble_eq_true rfl), (Nat.le_of_ble_eq_true rfl)⟩) hS (fun q _ h => hFc q h) hFc (fun rn7 u t H1 locs ht hvm hw hB hz1 hk1 hS => ?_)
    obtain ⟨hP1, hD1⟩ := hB
    rw [ht] at hP1
    obtain ⟨hP, hD⟩ := PDq.join (w := [(oX10 w0 v0 v1 v2 v3 v4 g5 g6 (nI ed) g8 v9 (nI nb) g11 g12 v13 g14 g15 g16 g17 g18 g19 g20 g21 g22 g23 g24 g25 g26 v27 v28 v29 v30 v31 v32 v33 v34 v35 v36 v37 (nI ol)), (v0, .inl (cA 0, 326, .inl fs))]) 2 hP hD [] [0, 1] rfl rfl (by decide) (by decide) hk1 hFc hP1 hD1 rfl
    generalize H1 = H at hP hS ⊢
    rcases hw with ⟨hr9, hn8⟩ | ⟨hr9, hn8⟩
    · skip
      subst hr9
      obtain ⟨hP9, hD9⟩ := PDq.sub (ws' := [(oX10 w0 v0 v1 v2 v3 v4 g5 g6 (nI ed) g8 v9 (nI nb) g11 g12 v13 g14 g15 g16 g17 g18 g19 g20 g21 g22 g23 g24 g25 g26 v27 v28 v29 v30 v31 v32 v33 v34 v35 v36 v37 (nI ol)), (v0, .inl (cA 0, 326, .inl fs))]) hP hD [0, 1] (by decide) rfl
      refine W.widen (k := 0) (n := 0) (Nat.le_of_ble_eq_true rfl) (Nat.le_of_ble_eq_true rfl) ?_
      exact (W.zret (v := 1) hx hb hr (by first | rfl | decide) (fun t ht hW => ⟨⟨1, (), rfl, (Or.inl ⟨rfl, mil_y hn8 (by omega)⟩), by rw [ht]; exact hP9, hD9⟩, hS.F ht⟩) hS.2.2 dX10_isProof_16)
    · skip
      subst hr9
      obtain ⟨hP9, hD9⟩ := PDq.sub (ws' := [(oX10 w0 v0 v1 v2 v3 v4 g5 g6 (nI ed) g8 v9 (nI nb) g11 g12 v13 g14 g15 g16 g17 g18 g19 g20 g21 g22 g23 g24 g25 g26 v27 v28 v29 v30 v31 v32 v33 v34 v35 v36 v37 (nI ol)), (v0, .inl (cA 0, 326, .inl fs))]) hP hD [0, 1] (by decide) rfl
      refine W.widen (k := 0) (n := 0) (Nat.le_of_ble_eq_true rfl) (Nat.le_of_ble_eq_true rfl) ?_
      exact (W.zret (v := 0) hx hb hr (by first | rfl | decide) (fun t ht hW => ⟨⟨0, (), rfl, (Or.inr ⟨rfl, mil_n hn8 (by omega)⟩), by rw [ht]; exact hP9, hD9⟩, hS.F ht⟩) hS.2.2 dX10_isProof_16)

set_option maxHeartbeats 4000000 in
set_option maxRecDepth 100000 in
/-- reference, exactly: isTrial -/
theorem e_isTrial (l : Launch) (D : va_G) (cA : Nat → ClassId) (sa : Nat → Nat) (i : Int32) (sz : Nat) : Met l yX10_isTrial wsX10_isTrial ({ frames := 1, cells := 0, slots := 0, locals := 25 }) (va_Pc [.int i] (Wd D cA sa [] sz)) (va_Qi (fun (r : Int32) (_ : Unit) => (r = 1 ∧ ∃ n, (1 ≤ n ∧ n ≤ 120) ∧ i = nI n) ∨ (r = 0 ∧ ¬ (∃ n, (1 ≤ n ∧ n ≤ 120) ∧ i = nI n))) (fun (_ : Unit) t => Wq D (va_A [] sz) [] t) (va_A [] sz)) 0 0 (va_A [] sz) := by
  refine Met.ofW (cc := cX10_isTrial) (maxL := 1) (ret := (some .boolean)) (by decide) rfl ?_
  intro p e s m args below meth c s₁ B hml hv
  obtain ⟨rfl, hsz, hP, hK, hD0, hC, hZ⟩ := hv
  have hx := B.exec
  have hb := B.bytes
  have hr := B.returns
  have hts := atoms_spec (ws := wsX10_isTrial) B.pre
  have hown : s.vm.findClass RX10 = some m.cls := findClass_of_methodNamed B.named
  have hlocks := B.notSynchronized
  subst hsz
  have hD := hD0.self (sz := s.heap.size)
  generalize hAe : va_A [] s.heap.size = A at hD hZ ⊢
  have hA : ∀ q : Nat, s.heap.size ≤ q → A q := fun q h => by rw [← hAe]; exact Or.inr h
  have hS : va_S A s.heap s.heap [] := va_S.rf
  have hP : va_P D vwCl [] s.heap := hP
  have hl := lv_entry ([.int i]) (n := 1) (Nat.le_of_ble_eq_true rfl)
  rw [lg_entry_eq]
  generalize (lg_sl ([.int i]) ++ List.replicate (1 - (lg_sl ([.int i])).length) Slot.unset).toArray = ls at hl ⊢
  have hl : lv_has ls 1 [(0, .int i)] := hl
  refine lv_iload_n hx hb dX10_isTrial_0 rfl (lv_at hl 0 rfl) ?_
  refine lv_i2l (v := (i.toInt64)) hx hb dX10_isTrial_1 rfl ?_
  refine lv_lconst (v := 1) hx hb dX10_isTrial_2 (by decide) ?_
  refine lv_ldc2 (v := 120) hx hb hown (hts (.constantLong RX10 361 120) (by decide +kernel)) dX10_isTrial_3 ?_
  obtain ⟨hPc, hDc, hFc⟩ := PDq.cut (wc := []) hP hD hS hA [] (by decide) rfl
  refine va_calli (va_runS (As := [.long (i.toInt64), .long 1, .long 120]) (rest := []) ⟨hx, hb, hml, hown, hts⟩ (e_between l D cA sa (i.toInt64) 1 120 s.heap.size) (va_cwS 3 hts gX10_isTrial_X10_between rfl rfl rfl (by decide +kernel) ⟨(Nat.le_of_ble_eq_true rfl), (Nat.le_of_ble_eq_true rfl)⟩) ⟨Wd.blind, fun U hU hW => ⟨rfl, Wd.call hPc hDc hK hC hZ hS hFc U hU hW⟩⟩ rfl rfl hl.1 rfl (lv_room (Nat.le_of_ble_eq_true rfl)) dX10_isTrial_6 ⟨(Nat.le_of_ble_eq_true rfl), (Nat.le_of_ble_eq_true rfl)⟩) hS (fun q _ h => hFc q h) hFc (fun rn1 u t H1 locs ht hvm hw hB hz1 hk1 hS => ?_)
  obtain ⟨hP1, hD1⟩ := hB
  rw [ht] at hP1
  obtain ⟨hP, hD⟩ := PDq.join (w := []) 0 hP hD [] [] rfl rfl (by decide) (by decide) hk1 hFc hP1 hD1 rfl
  generalize H1 = H at hP hS ⊢
  rcases hw with ⟨hr9, hn2⟩ | ⟨hr9, hn2⟩
  · skip
    subst hr9
    obtain ⟨hP9, hD9⟩ := PDq.sub (ws' := []) hP hD [] (by decide) rfl
    refine W.widen (k := 0) (n := 0) (Nat.le_of_ble_eq_true rfl) (Nat.le_of_ble_eq_true rfl) ?_
    exact (W.zret (v := 1) hx hb hr (by first | rfl | decide) (fun t ht hW => ⟨⟨1, (), rfl, (Or.inl ⟨rfl, rng_y (lo := 1) (hi := 120) (by decide) (by decide) hn2⟩), by rw [ht]; exact hP9, hD9⟩, hS.F ht⟩) hS.2.2 dX10_isTrial_9)
  · skip
    subst hr9
    obtain ⟨hP9, hD9⟩ := PDq.sub (ws' := []) hP hD [] (by decide) rfl
    refine W.widen (k := 0) (n := 0) (Nat.le_of_ble_eq_true rfl) (Nat.le_of_ble_eq_true rfl) ?_
    exact (W.zret (v := 0) hx hb hr (by first | rfl | decide) (fun t ht hW => ⟨⟨0, (), rfl, (Or.inr ⟨rfl, rng_n (lo := 1) (hi := 120) (by decide) (by decide) hn2⟩), by rw [ht]; exact hP9, hD9⟩, hS.F ht⟩) hS.2.2 dX10_isTrial_9)

set_option maxHeartbeats 4000000 in
set_option maxRecDepth 100000 in
/-- reference, exactly: isShare -/
theorem e_isShare (l : Launch) (D : va_G) (cA : Nat → ClassId) (sa : Nat → Nat) (i : Int32) (sz : Nat) : Met l yX10_isShare wsX10_isShare ({ frames := 1, cells := 0, slots := 0, locals := 25 }) (va_Pc [.int i] (Wd D cA sa [] sz)) (va_Qi (fun (r : Int32) (_ : Unit) => (r = 1 ∧ ∃ n, (0 ≤ n ∧ n ≤ 1000) ∧ i = nI n) ∨ (r = 0 ∧ ¬ (∃ n, (0 ≤ n ∧ n ≤ 1000) ∧ i = nI n))) (fun (_ : Unit) t => Wq D (va_A [] sz) [] t) (va_A [] sz)) 0 0 (va_A [] sz) := by
  refine Met.ofW (cc := cX10_isShare) (maxL := 1) (ret := (some .boolean)) (by decide) rfl ?_
  intro p e s m args below meth c s₁ B hml hv
  obtain ⟨rfl, hsz, hP, hK, hD0, hC, hZ⟩ := hv
  have hx := B.exec
  have hb := B.bytes
  have hr := B.returns
  have hts := atoms_spec (ws := wsX10_isShare) B.pre
  have hown : s.vm.findClass RX10 = some m.cls := findClass_of_methodNamed B.named
  have hlocks := B.notSynchronized
  subst hsz
  have hD := hD0.self (sz := s.heap.size)
  generalize hAe : va_A [] s.heap.size = A at hD hZ ⊢
  have hA : ∀ q : Nat, s.heap.size ≤ q → A q := fun q h => by rw [← hAe]; exact Or.inr h
  have hS : va_S A s.heap s.heap [] := va_S.rf
  have hP : va_P D vwCl [] s.heap := hP
  have hl := lv_entry ([.int i]) (n := 1) (Nat.le_of_ble_eq_true rfl)
  rw [lg_entry_eq]
  generalize (lg_sl ([.int i]) ++ List.replicate (1 - (lg_sl ([.int i])).length) Slot.unset).toArray = ls at hl ⊢
  have hl : lv_has ls 1 [(0, .int i)] := hl
  refine lv_iload_n hx hb dX10_isShare_0 rfl (lv_at hl 0 rfl) ?_
  refine lv_i2l (v := (i.toInt64)) hx hb dX10_isShare_1 rfl ?_
  refine lv_lconst (v := 0) hx hb dX10_isShare_2 (by decide) ?_
  refine lv_ldc2 (v := 1000) hx hb hown (hts (.constantLong RX10 343 1000) (by decide +kernel)) dX10_isShare_3 ?_
  obtain ⟨hPc, hDc, hFc⟩ := PDq.cut (wc := []) hP hD hS hA [] (by decide) rfl
  refine va_calli (va_runS (As := [.long (i.toInt64), .long 0, .long 1000]) (rest := []) ⟨hx, hb, hml, hown, hts⟩ (e_between l D cA sa (i.toInt64) 0 1000 s.heap.size) (va_cwS 3 hts gX10_isShare_X10_between rfl rfl rfl (by decide +kernel) ⟨(Nat.le_of_ble_eq_true rfl), (Nat.le_of_ble_eq_true rfl)⟩) ⟨Wd.blind, fun U hU hW => ⟨rfl, Wd.call hPc hDc hK hC hZ hS hFc U hU hW⟩⟩ rfl rfl hl.1 rfl (lv_room (Nat.le_of_ble_eq_true rfl)) dX10_isShare_6 ⟨(Nat.le_of_ble_eq_true rfl), (Nat.le_of_ble_eq_true rfl)⟩) hS (fun q _ h => hFc q h) hFc (fun rn1 u t H1 locs ht hvm hw hB hz1 hk1 hS => ?_)
  obtain ⟨hP1, hD1⟩ := hB
  rw [ht] at hP1
  obtain ⟨hP, hD⟩ := PDq.join (w := []) 0 hP hD [] [] rfl rfl (by decide) (by decide) hk1 hFc hP1 hD1 rfl
  generalize H1 = H at hP hS ⊢
  rcases hw with ⟨hr9, hn2⟩ | ⟨hr9, hn2⟩
  · skip
    subst hr9
    obtain ⟨hP9, hD9⟩ := PDq.sub (ws' := []) hP hD [] (by decide) rfl
    refine W.widen (k := 0) (n := 0) (Nat.le_of_ble_eq_true rfl) (Nat.le_of_ble_eq_true rfl) ?_
    exact (W.zret (v := 1) hx hb hr (by first | rfl | decide) (fun t ht hW => ⟨⟨1, (), rfl, (Or.inl ⟨rfl, rng_y (lo := 0) (hi := 1000) (by decide) (by decide) hn2⟩), by rw [ht]; exact hP9, hD9⟩, hS.F ht⟩) hS.2.2 dX10_isShare_9)
  · skip
    subst hr9
    obtain ⟨hP9, hD9⟩ := PDq.sub (ws' := []) hP hD [] (by decide) rfl
    refine W.widen (k := 0) (n := 0) (Nat.le_of_ble_eq_true rfl) (Nat.le_of_ble_eq_true rfl) ?_
    exact (W.zret (v := 0) hx hb hr (by first | rfl | decide) (fun t ht hW => ⟨⟨0, (), rfl, (Or.inr ⟨rfl, rng_n (lo := 0) (hi := 1000) (by decide) (by decide) hn2⟩), by rw [ht]; exact hP9, hD9⟩, hS.F ht⟩) hS.2.2 dX10_isShare_9)

set_option maxHeartbeats 4000000 in
set_option maxRecDepth 100000 in
/-- reference, exactly: deposit -/
theorem e_deposit (l : Launch) (D : va_G) (cA : Nat → ClassId) (sa : Nat → Nat) (w0 : Nat) (ed : Nat) (nb : Nat) (ol : Nat) (v0 : Nat) (v1 : Nat) (v2 : Nat) (v3 : Nat) (v4 : Nat) (v9 : Nat) (v13 : Nat) (v27 : Nat) (v28 : Nat) (v29 : Nat) (v30 : Nat) (v31 : Nat) (v32 : Nat) (v33 : Nat) (v34 : Nat) (v35 : Nat) (v36 : Nat) (v37 : Nat) (g8 : Int32) (g11 : Int32) (g12 : Int32) (g14 : Int32) (g15 : Int32) (g16 : Int32) (g17 : Int32) (g18 : Int32) (g19 : Int32) (g20 : Int32) (g21 : Int32) (g22 : Int32) (g23 : Int32) (g24 : Int32) (g26 : Int32) (g5 : Int64) (g6 : Int64) (g25 : Int64) (cn : Nat) (pq : Nat) (en : Nat) (dy : Nat) (fs : Nat → Int32) (fh : Nat → Int32) (fl : Nat → Int64) (i : Int32) (sz : Nat) (hcn : cn ≤ 10) (hpq : pq ≤ 8) (hen : en ≤ 60) (hdy : dy ≤ 20000) (hri : RI cn pq en dy fs) (hed : ed ≤ 10) (hHI : HI cn pq ed fh) (hd9 : dy ≤ 9999) : Met l yX10_deposit wsX10_deposit ({ frames := 1, cells := 0, slots := 0, locals := 25 }) (va_Pc [.ref w0, .int i] (Wd D cA sa [(oX10 w0 v0 v1 v2 v3 v4 g5 g6 (nI ed) g8 v9 (nI nb) g11 g12 v13 g14 g15 g16 g17 g18 g19 g20 g21 g22 g23 g24 g25 g26 v27 v28 v29 v30 v31 v32 v33 v34 v35 v36 v37 (nI ol)), (v0, .inl (cA 0, 326, .inl fs)), (v3, .inl (cA 0, 3260, .inl fh)), (v4, .inl (cA 1, 10, .inr (.inl fl)))] sz)) (va_Qi (fun (r : Int32) (_ : Unit) => True) (fun (_ : Unit) t => ∃ ed2 : Nat, ∃ e2 : Nat, ∃ zt : Int32, ∃ zs : Nat → Int32, ∃ zh : Nat → Int32, ∃ zl : Nat → Int64, ed2 ≤ 10 ∧ HI cn pq ed2 zh ∧ e2 ≤ 60 ∧ RI cn pq e2 dy zs ∧ EdM (AcDep fs i) (depR i) ed fh fl fs g5 ed2 zh zl zs ∧ Wq D (va_A [(oX10 w0 v0 v1 v2 v3 v4 g5 g6 (nI ed) g8 v9 (nI nb) g11 g12 v13 g14 g15 g16 g17 g18 g19 g20 g21 g22 g23 g24 g25 g26 v27 v28 v29 v30 v31 v32 v33 v34 v35 v36 v37 (nI ol)), (v0, .inl (cA 0, 326, .inl fs)), (v3, .inl (cA 0, 3260, .inl fh)), (v4, .inl (cA 1, 10, .inr (.inl fl)))] sz) [(oX10 w0 v0 v1 v2 v3 v4 g5 g6 (nI ed2) zt v9 (nI nb) g11 g12 v13 g14 g15 g16 g17 g18 g19 g20 g21 g22 g23 g24 g25 g26 v27 v28 v29 v30 v31 v32 v33 v34 v35 v36 v37 (nI ol)), (v0, .inl (cA 0, 326, .inl zs)), (v3, .inl (cA 0, 3260, .inl zh)), (v4, .inl (cA 1, 10, .inr (.inl zl)))] t) (va_A [(oX10 w0 v0 v1 v2 v3 v4 g5 g6 (nI ed) g8 v9 (nI nb) g11 g12 v13 g14 g15 g16 g17 g18 g19 g20 g21 g22 g23 g24 g25 g26 v27 v28 v29 v30 v31 v32 v33 v34 v35 v36 v37 (nI ol)), (v0, .inl (cA 0, 326, .inl fs)), (v3, .inl (cA 0, 3260, .inl fh)), (v4, .inl (cA 1, 10, .inr (.inl fl)))] sz)) 0 0 (va_A [(oX10 w0 v0 v1 v2 v3 v4 g5 g6 (nI ed) g8 v9 (nI nb) g11 g12 v13 g14 g15 g16 g17 g18 g19 g20 g21 g22 g23 g24 g25 g26 v27 v28 v29 v30 v31 v32 v33 v34 v35 v36 v37 (nI ol)), (v0, .inl (cA 0, 326, .inl fs)), (v3, .inl (cA 0, 3260, .inl fh)), (v4, .inl (cA 1, 10, .inr (.inl fl)))] sz) := by
  refine Met.ofW (cc := cX10_deposit) (maxL := 2) (ret := (some .int)) (by decide) rfl ?_
  intro p e s m args below meth c s₁ B hml hv
  obtain ⟨rfl, hsz, hP, hK, hD0, hC, hZ⟩ := hv
  have hx := B.exec
  have hb := B.bytes
  have hr := B.returns
  have hts := atoms_spec (ws := wsX10_deposit) B.pre
  have hown : s.vm.findClass RX10 = some m.cls := findClass_of_methodNamed B.named
  have hlocks := B.notSynchronized
  subst hsz
  have hD := hD0.self (sz := s.heap.size)
  generalize hAe : va_A [(oX10 w0 v0 v1 v2 v3 v4 g5 g6 (nI ed) g8 v9 (nI nb) g11 g12 v13 g14 g15 g16 g17 g18 g19 g20 g21 g22 g23 g24 g25 g26 v27 v28 v29 v30 v31 v32 v33 v34 v35 v36 v37 (nI ol)), (v0, .inl (cA 0, 326, .inl fs)), (v3, .inl (cA 0, 3260, .inl fh)), (v4, .inl (cA 1, 10, .inr (.inl fl)))] s.heap.size = A at hD hZ ⊢
  have hA : ∀ q : Nat, s.heap.size ≤ q → A q := fun q h => by rw [← hAe]; exact Or.inr h
  have hS : va_S A s.heap s.heap [] := va_S.rf
  have hP : va_P D vwCl [(oX10 w0 v0 v1 v2 v3 v4 g5 g6 (nI ed) g8 v9 (nI nb) g11 g12 v13 g14 g15 g16 g17 g18 g19 g20 g21 g22 g23 g24 g25 g26 v27 v28 v29 v30 v31 v32 v33 v34 v35 v36 v37 (nI ol)), (v0, .inl (cA 0, 326, .inl fs)), (v3, .inl (cA 0, 3260, .inl fh)), (v4, .inl (cA 1, 10, .inr (.inl fl)))] s.heap := hP
  have hl := lv_entry ([.ref w0, .int i]) (n := 2) (Nat.le_of_ble_eq_true rfl)
  rw [lg_entry_eq]
  generalize (lg_sl ([.ref w0, .int i]) ++ List.replicate (2 - (lg_sl ([.ref w0, .int i])).length) Slot.unset).toArray = ls at hl ⊢
  have hl : lv_has ls 2 [(0, .ref w0), (1, .int i)] := hl
  have inX10 : ∀ w ∈ u_ws RX10 TX10 39, w ∈ wsX10_deposit := by decide +kernel
  obtain ⟨rs, hrs⟩ : ∃ r : Nat → Int32, r = fs := ⟨fs, rfl⟩
  have hrs9 : Ab rs fs := by rw [hrs]; exact Ab.rf fs
  refine lv_aload_n hx hb dX10_deposit_0 rfl (lv_at hl 0 rfl) ?_
  refine lv_iload_n hx hb dX10_deposit_1 rfl (lv_at hl 1 rfl) ?_
  refine lv_i2l (v := (i.toInt64)) hx hb dX10_deposit_2 rfl ?_
  refine lv_lconst (v := 1) hx hb dX10_deposit_3 (by decide) ?_
  refine lv_ldc2 (v := 99999) hx hb hown (hts (.constantLong RX10 388 99999) (by decide +kernel)) dX10_deposit_4 ?_
  obtain ⟨hPc, hDc, hFc⟩ := PDq.cut (wc := []) hP hD hS hA [] (by decide) rfl
  refine va_calli (va_runS (As := [.long (i.toInt64), .long 1, .long 99999]) (rest := [.ref w0]) ⟨hx, hb, hml, hown, hts⟩ (e_between l D cA sa (i.toInt64) 1 99999 s.heap.size) (va_cwS 3 hts gX10_deposit_X10_between rfl rfl rfl (by decide +kernel) ⟨(Nat.le_of_ble_eq_true rfl), (Nat.le_of_ble_eq_true rfl)⟩) ⟨Wd.blind, fun U hU hW => ⟨rfl, Wd.call hPc hDc hK hC hZ hS hFc U hU hW⟩⟩ rfl rfl hl.1 rfl (lv_room (Nat.le_of_ble_eq_true rfl)) dX10_deposit_7 ⟨(Nat.le_of_ble_eq_true rfl), (Nat.le_of_ble_eq_true rfl)⟩) hS (fun q _ h => hFc q h) hFc (fun rn1 u t H1 locs ht hvm hw hB hz1 hk1 hS => ?_)
  obtain ⟨hP1, hD1⟩ := hB
  rw [ht] at hP1
  obtain ⟨hP, hD⟩ := PDq.join (w := [(oX10 w0 v0 v1 v2 v3 v4 g5 g6 (nI ed) g8 v9 (nI nb) g11 g12 v13 g14 g15 g16 g17 g18 g19 g20 g21 g22 g23 g24 g25 g26 v27 v28 v29 v30 v31 v32 v33 v34 v35 v36 v37 (nI ol)), (v0, .inl (cA 0, 326, .inl fs)), (v3, .inl (cA 0, 3260, .inl fh)), (v4, .inl (cA 1, 10, .inr (.inl fl)))]) 4 hP hD [] [0, 1, 2, 3] rfl rfl (by decide) (by decide) hk1 hFc hP1 hD1 rfl
  generalize H1 = H at hP hS ⊢
  rcases hw with ⟨hr9, hn2⟩ | ⟨hr9, hn2⟩
  · skip
    subst hr9
    refine lv_aload_n hx hb dX10_deposit_10 rfl (lv_at hl 0 rfl) ?_
    refine va_get (D := D) (ci := 11) (v := .ref v0) (C := RX10) (T := TX10) (N := 39) hx hb hts inX10 hown hK hP 0 rfl rfl 0 (by decide) (hts (.fieldLink RX10 7 "EscrowDeskModel" "s" "[I") (by decide +kernel)) (fun _ h9 => h9) rfl dX10_deposit_11 ?_
    refine lv_iconst (v := 5) hx hb dX10_deposit_14 (by decide) ?_
    refine va_iald hx hb hK hP 1 0 rfl rfl (vp_in_iff.mpr (by decide)) dX10_deposit_15 ?_
    refine lv_topi (fun yn3 eyn3 => ?_)
    obtain rfl : yn3 = (rs 5) := eyn3.trans ((Ab.get hrs9 (j := 5) (by omega) (by omega)).trans rfl)
    refine lv_i2l (v := ((rs 5).toInt64)) hx hb dX10_deposit_16 rfl ?_
    refine lv_iload_n hx hb dX10_deposit_17 rfl (lv_at hl 1 rfl) ?_
    refine lv_i2l (v := (i.toInt64)) hx hb dX10_deposit_18 rfl ?_
    refine lv_ladd hx hb dX10_deposit_19 ?_
    refine lv_topl (fun yn4 eyn4 => ?_)
    obtain rfl : yn4 = (((rs 5).toInt64) + (i.toInt64)) := eyn4
    refine lv_ldc2 (v := 9999999) hx hb hown (hts (.constantLong RX10 393 9999999) (by decide +kernel)) dX10_deposit_20 ?_
    refine W.lcmp hx hb dX10_deposit_23 ?_
    refine lv_if_gt (tgt := 31) hx hb dX10_deposit_24 (by decide) (fun c5 => ?_) (fun c5 => ?_)
    · skip
      refine lv_iconst (v := 0) hx hb dX10_deposit_31 (by decide) ?_
      obtain ⟨hPc, hDc, hFc⟩ := PDq.cut (wc := [(oX10 w0 v0 v1 v2 v3 v4 g5 g6 (nI ed) g8 v9 (nI nb) g11 g12 v13 g14 g15 g16 g17 g18 g19 g20 g21 g22 g23 g24 g25 g26 v27 v28 v29 v30 v31 v32 v33 v34 v35 v36 v37 (nI ol))]) hP hD hS hA [0] (by decide) rfl
      refine va_calli (va_runV (As := [.int 1, .int 0]) (rest := []) ⟨hx, hb, hml, hown, hts⟩ (r_good_10 l D cA sa w0 ed nb ol v0 v1 v2 v3 v4 v9 v13 v27 v28 v29 v30 v31 v32 v33 v34 v35 v36 v37 g8 g11 g12 g14 g15 g16 g17 g18 g19 g20 g21 g22 g23 g24 g26 g5 g6 g25 H.size) (cwV 2 hts gX10_deposit_X10_good_ rfl rfl rfl (by decide +kernel) ⟨(Nat.le_of_ble_eq_true rfl), (Nat.le_of_ble_eq_true rfl)⟩) ⟨Wd.blind, va_recv hK hPc (ci := 11) (q0 := 0) rfl rfl, fun U hU hW => ⟨rfl, Wd.call hPc hDc hK hC hZ hS hFc U hU hW⟩⟩ rfl rfl hl.1 rfl (lv_room (Nat.le_of_ble_eq_true rfl)) dX10_deposit_32 ⟨(Nat.le_of_ble_eq_true rfl), (Nat.le_of_ble_eq_true rfl)⟩) hS (fun q _ h => hFc q h) hFc (fun rn6 u t H1 locs ht hvm hw hB hz1 hk1 hS => ?_)
      obtain ⟨hP1, hD1⟩ := hB
      rw [ht] at hP1
      obtain ⟨hP, hD⟩ := PDq.join (w := [(v0, .inl (cA 0, 326, .inl fs)), (v3, .inl (cA 0, 3260, .inl fh)), (v4, .inl (cA 1, 10, .inr (.inl fl))), (oX10 w0 v0 v1 v2 v3 v4 g5 g6 (nI ed) 2 v9 (nI nb) g11 g12 v13 g14 g15 g16 g17 g18 g19 g20 g21 g22 g23 g24 g25 g26 v27 v28 v29 v30 v31 v32 v33 v34 v35 v36 v37 (nI ol))]) 3 hP hD [0] [1, 2, 3] rfl rfl (by decide) (by decide) hk1 hFc hP1 hD1 rfl
      generalize H1 = H at hP hS ⊢
      obtain rfl : rn6 = 0 := hw
      refine lv_if_ne (tgt := 40) hx hb dX10_deposit_35 (by decide) (fun c9 => absurd c9 (by decide)) (fun c7 => ?_)
      refine lv_iconst (v := 0) hx hb dX10_deposit_38 (by decide) ?_
      obtain ⟨hP9, hD9⟩ := PDq.sub (ws' := [(oX10 w0 v0 v1 v2 v3 v4 g5 g6 (nI ed) 2 v9 (nI nb) g11 g12 v13 g14 g15 g16 g17 g18 g19 g20 g21 g22 g23 g24 g25 g26 v27 v28 v29 v30 v31 v32 v33 v34 v35 v36 v37 (nI ol)), (v0, .inl (cA 0, 326, .inl fs)), (v3, .inl (cA 0, 3260, .inl fh)), (v4, .inl (cA 1, 10, .inr (.inl fl)))]) hP hD [3, 0, 1, 2] (by decide) rfl
      refine W.widen (k := 0) (n := 0) (Nat.le_of_ble_eq_true rfl) (Nat.le_of_ble_eq_true rfl) ?_
      exact (W.iret (v := 0) hx hb hr (fun t ht hW => ⟨⟨0, (), rfl, trivial, ed, en, 2, fs, fh, fl, hed, hHI, hen, hri, (by subst hrs; exact Or.inr ⟨(fun q9 => absurd (lg_gt.mp c5) (Int64.not_lt.mpr q9.2)), rfl, rfl, rfl, rfl⟩), by rw [ht]; exact hP9, hD9⟩, hS.F ht⟩) hS.2.2 dX10_deposit_39)
    · skip
      refine lv_iconst (v := 1) hx hb dX10_deposit_27 (by decide) ?_
      refine lv_goto (tgt := 32) hx hb dX10_deposit_28 (by decide) ?_
      obtain ⟨hPc, hDc, hFc⟩ := PDq.cut (wc := [(oX10 w0 v0 v1 v2 v3 v4 g5 g6 (nI ed) g8 v9 (nI nb) g11 g12 v13 g14 g15 g16 g17 g18 g19 g20 g21 g22 g23 g24 g25 g26 v27 v28 v29 v30 v31 v32 v33 v34 v35 v36 v37 (nI ol))]) hP hD hS hA [0] (by decide) rfl
      refine va_calli (va_runV (As := [.int 1, .int 1]) (rest := []) ⟨hx, hb, hml, hown, hts⟩ (r_good_11 l D cA sa w0 ed nb ol v0 v1 v2 v3 v4 v9 v13 v27 v28 v29 v30 v31 v32 v33 v34 v35 v36 v37 g8 g11 g12 g14 g15 g16 g17 g18 g19 g20 g21 g22 g23 g24 g26 g5 g6 g25 H.size) (cwV 2 hts gX10_deposit_X10_good_ rfl rfl rfl (by decide +kernel) ⟨(Nat.le_of_ble_eq_true rfl), (Nat.le_of_ble_eq_true rfl)⟩) ⟨Wd.blind, va_recv hK hPc (ci := 11) (q0 := 0) rfl rfl, fun U hU hW => ⟨rfl, Wd.call hPc hDc hK hC hZ hS hFc U hU hW⟩⟩ rfl rfl hl.1 rfl (lv_room (Nat.le_of_ble_eq_true rfl)) dX10_deposit_32 ⟨(Nat.le_of_ble_eq_true rfl), (Nat.le_of_ble_eq_true rfl)⟩) hS (fun q _ h => hFc q h) hFc (fun rn8 u t H1 locs ht hvm hw hB hz1 hk1 hS => ?_)
      obtain ⟨hP1, hD1⟩ := hB
      rw [ht] at hP1
      obtain ⟨hP, hD⟩ := PDq.join (w := [(v0, .inl (cA 0, 326, .inl fs)), (v3, .inl (cA 0, 3260, .inl fh)), (v4, .inl (cA 1, 10, .inr (.inl fl))), (oX10 w0 v0 v1 v2 v3 v4 g5 g6 (nI ed) 0 v9 (nI nb) g11 g12 v13 g14 g15 g16 g17 g18 g19 g20 g21 g22 g23 g24 g25 g26 v27 v28 v29 v30 v31 v32 v33 v34 v35 v36 v37 (nI ol))]) 3 hP hD [0] [1, 2, 3] rfl rfl (by decide) (by decide) hk1 hFc hP1 hD1 rfl
      generalize H1 = H at hP hS ⊢
      obtain rfl : rn8 = 1 := hw
      refine lv_if_ne (tgt := 40) hx hb dX10_deposit_35 (by decide) (fun c9 => ?_) (fun c9 => absurd c9 (by decide))
      refine lv_aload_n hx hb dX10_deposit_40 rfl (lv_at hl 0 rfl) ?_
      obtain ⟨hPc, hDc, hFc⟩ := PDq.cut (wc := [(oX10 w0 v0 v1 v2 v3 v4 g5 g6 (nI ed) 0 v9 (nI nb) g11 g12 v13 g14 g15 g16 g17 g18 g19 g20 g21 g22 g23 g24 g25 g26 v27 v28 v29 v30 v31 v32 v33 v34 v35 v36 v37 (nI ol)), (v0, .inl (cA 0, 326, .inl fs)), (v3, .inl (cA 0, 3260, .inl fh)), (v4, .inl (cA 1, 10, .inr (.inl fl)))]) hP hD hS hA [3, 0, 1, 2] (by decide) rfl
      refine va_callv (va_runV (As := []) (rest := []) ⟨hx, hb, hml, hown, hts⟩ (e_remember l D cA sa w0 ed nb ol v0 v1 v2 v3 v4 v9 v13 v27 v28 v29 v30 v31 v32 v33 v34 v35 v36 v37 0 g11 g12 g14 g15 g16 g17 g18 g19 g20 g21 g22 g23 g24 g26 g5 g6 g25 cn pq en dy fs fh fl H.size hcn hpq hen hdy hri hed hHI hd9) (cwV 0 hts gX10_deposit_X10_remember rfl rfl rfl (by decide +kernel) ⟨(Nat.le_of_ble_eq_true rfl), (Nat.le_of_ble_eq_true rfl)⟩) ⟨Wd.blind, va_recv hK hPc (ci := 11) (q0 := 0) rfl rfl, fun U hU hW => ⟨rfl, Wd.call hPc hDc hK hC hZ hS hFc U hU hW⟩⟩ rfl rfl hl.1 rfl (lv_room (Nat.le_of_ble_eq_true rfl)) dX10_deposit_41 ⟨(Nat.le_of_ble_eq_true rfl), (Nat.le_of_ble_eq_true rfl)⟩) hS (fun q _ h => hFc q h) hFc (fun u t H1 locs ht hvm hw hB hz1 hk1 hS => ?_)
      obtain ⟨qn10, fn11, fn12, hn13, hn14, hn15, hP1, hD1⟩ := hB
      rw [ht] at hP1
      obtain ⟨hP, hD⟩ := PDq.join (w := [(oX10 w0 v0 v1 v2 v3 v4 g5 g6 (nI qn10) 0 v9 (nI nb) g11 g12 v13 g14 g15 g16 g17 g18 g19 g20 g21 g22 g23 g24 g25 g26 v27 v28 v29 v30 v31 v32 v33 v34 v35 v36 v37 (nI ol)), (v0, .inl (cA 0, 326, .inl fs)), (v3, .inl (cA 0, 3260, .inl fn11)), (v4, .inl (cA 1, 10, .inr (.inl fn12)))]) 0 hP hD [3, 0, 1, 2] [] rfl rfl (by decide) (by decide) hk1 hFc hP1 hD1 rfl
      generalize H1 = H at hP hS ⊢
      refine lv_aload_n hx hb dX10_deposit_44 rfl (lv_at hl 0 rfl) ?_
      refine va_get (D := D) (ci := 11) (v := .ref v0) (C := RX10) (T := TX10) (N := 39) hx hb hts inX10 hown hK hP 0 rfl rfl 0 (by decide) (hts (.fieldLink RX10 7 "EscrowDeskModel" "s" "[I") (by decide +kernel)) (fun _ h9 => h9) rfl dX10_deposit_45 ?_
      refine lv_iconst (v := 5) hx hb dX10_deposit_48 (by decide) ?_
      refine lv_dup2_11 hx hb dX10_deposit_49 rfl rfl ?_
      refine va_iald hx hb hK hP 1 0 rfl rfl (vp_in_iff.mpr (by decide)) dX10_deposit_50 ?_
      refine lv_topi (fun yn16 eyn16 => ?_)
      obtain rfl : yn16 = (rs 5) := eyn16.trans ((Ab.get hrs9 (j := 5) (by omega) (by omega)).trans rfl)
      refine lv_iload_n hx hb dX10_deposit_51 rfl (lv_at hl 1 rfl) ?_
      refine lv_iadd hx hb dX10_deposit_52 ?_
      refine lv_topi (fun yn17 eyn17 => ?_)
      obtain rfl : yn17 = ((rs 5) + i) := eyn17
      refine va_iast hx hb hK hP hD hS 1 0 rfl rfl (vp_in_iff.mpr (by decide)) dX10_deposit_53 (fun H locs hP hD hS => ?_)
      obtain ⟨hP, hD⟩ : PDq D A [(oX10 w0 v0 v1 v2 v3 v4 g5 g6 (nI qn10) 0 v9 (nI nb) g11 g12 v13 g14 g15 g16 g17 g18 g19 g20 g21 g22 g23 g24 g25 g26 v27 v28 v29 v30 v31 v32 v33 v34 v35 v36 v37 (nI ol)), (v0, .inl (cA 0, 326, .inl (upd fs 5 ((rs 5) + i)))), (v3, .inl (cA 0, 3260, .inl fn11)), (v4, .inl (cA 1, 10, .inr (.inl fn12)))] H := ⟨hP, hD⟩
      have hn19 : Ab (upd rs 5 ((rs 5) + i)) (upd fs 5 ((rs 5) + i)) := (Ab.put hrs9 5 ((rs 5) + i))
      have hn20 : RI cn pq en dy (upd fs 5 ((rs 5) + i)) := RI.put hri 5 ((rs 5) + i) (by decide) (by decide) (by decide) (by decide) (by decide)
      generalize (upd fs 5 ((rs 5) + i)) = fn18 at hP hD hn19 hn20
      obtain ⟨hP, hD⟩ : PDq D A [(oX10 w0 v0 v1 v2 v3 v4 g5 g6 (nI qn10) 0 v9 (nI nb) g11 g12 v13 g14 g15 g16 g17 g18 g19 g20 g21 g22 g23 g24 g25 g26 v27 v28 v29 v30 v31 v32 v33 v34 v35 v36 v37 (nI ol)), (v0, .inl (cA 0, 326, .inl fn18)), (v3, .inl (cA 0, 3260, .inl fn11)), (v4, .inl (cA 1, 10, .inr (.inl fn12)))] H := ⟨hP, hD⟩
      refine lv_aload_n hx hb dX10_deposit_54 rfl (lv_at hl 0 rfl) ?_
      refine va_get (D := D) (ci := 11) (v := .ref v0) (C := RX10) (T := TX10) (N := 39) hx hb hts inX10 hown hK hP 0 rfl rfl 0 (by decide) (hts (.fieldLink RX10 7 "EscrowDeskModel" "s" "[I") (by decide +kernel)) (fun _ h9 => h9) rfl dX10_deposit_55 ?_
      refine lv_bipush (v := 6) hx hb dX10_deposit_58 (by decide) ?_
      refine lv_dup2_11 hx hb dX10_deposit_60 rfl rfl ?_
      refine va_iald hx hb hK hP 1 0 rfl rfl (vp_in_iff.mpr (by decide)) dX10_deposit_61 ?_
      refine lv_topi (fun yn21 eyn21 => ?_)
      obtain rfl : yn21 = (rs 6) := eyn21.trans ((Ab.get hn19 (j := 6) (by omega) (by omega)).trans ((pk_un (by omega)).trans rfl))
      refine lv_iload_n hx hb dX10_deposit_62 rfl (lv_at hl 1 rfl) ?_
      refine lv_iadd hx hb dX10_deposit_63 ?_
      refine lv_topi (fun yn22 eyn22 => ?_)
      obtain rfl : yn22 = ((rs 6) + i) := eyn22
      refine va_iast hx hb hK hP hD hS 1 0 rfl rfl (vp_in_iff.mpr (by decide)) dX10_deposit_64 (fun H locs hP hD hS => ?_)
      obtain ⟨hP, hD⟩ : PDq D A [(oX10 w0 v0 v1 v2 v3 v4 g5 g6 (nI qn10) 0 v9 (nI nb) g11 g12 v13 g14 g15 g16 g17 g18 g19 g20 g21 g22 g23 g24 g25 g26 v27 v28 v29 v30 v31 v32 v33 v34 v35 v36 v37 (nI ol)), (v0, .inl (cA 0, 326, .inl (upd fn18 6 ((rs 6) + i)))), (v3, .inl (cA 0, 3260, .inl fn11)), (v4, .inl (cA 1, 10, .inr (.inl fn12)))] H := ⟨hP, hD⟩
      have hn24 : Ab (upd (upd rs 5 ((rs 5) + i)) 6 ((rs 6) + i)) (upd fn18 6 ((rs 6) + i)) := (Ab.put hn19 6 ((rs 6) + i))
      have hn25 : RI cn pq en dy (upd fn18 6 ((rs 6) + i)) := RI.put hn20 6 ((rs 6) + i) (by decide) (by decide) (by decide) (by decide) (by decide)
      generalize (upd fn18 6 ((rs 6) + i)) = fn23 at hP hD hn24 hn25
      obtain ⟨hP, hD⟩ : PDq D A [(oX10 w0 v0 v1 v2 v3 v4 g5 g6 (nI qn10) 0 v9 (nI nb) g11 g12 v13 g14 g15 g16 g17 g18 g19 g20 g21 g22 g23 g24 g25 g26 v27 v28 v29 v30 v31 v32 v33 v34 v35 v36 v37 (nI ol)), (v0, .inl (cA 0, 326, .inl fn23)), (v3, .inl (cA 0, 3260, .inl fn11)), (v4, .inl (cA 1, 10, .inr (.inl fn12)))] H := ⟨hP, hD⟩
      refine lv_aload_n hx hb dX10_deposit_65 rfl (lv_at hl 0 rfl) ?_
      refine va_get (D := D) (ci := 11) (v := .ref v0) (C := RX10) (T := TX10) (N := 39) hx hb hts inX10 hown hK hP 0 rfl rfl 0 (by decide) (hts (.fieldLink RX10 7 "EscrowDeskModel" "s" "[I") (by decide +kernel)) (fun _ h9 => h9) rfl dX10_deposit_66 ?_
      refine lv_iconst (v := 0) hx hb dX10_deposit_69 (by decide) ?_
      refine lv_iload_n hx hb dX10_deposit_70 rfl (lv_at hl 1 rfl) ?_
      refine lv_iconst (v := (-1)) hx hb dX10_deposit_71 (by decide) ?_
      obtain ⟨hPc, hDc, hFc⟩ := PDq.cut (wc := [(v0, .inl (cA 0, 326, .inl fn23))]) hP hD hS hA [1] (by decide) rfl
      refine va_callv (va_runS (As := [.ref v0, .int 0, .int i, .int (-1)]) (rest := []) ⟨hx, hb, hml, hown, hts⟩ (e_enter l D cA sa v0 cn pq en dy fn23 (upd (upd rs 5 ((rs 5) + i)) 6 ((rs 6) + i)) 0 i (-1) H.size hn24 hcn hpq hen hdy hn25) (va_cwS 4 hts gX10_deposit_X10_enter rfl rfl rfl (by decide +kernel) ⟨(Nat.le_of_ble_eq_true rfl), (Nat.le_of_ble_eq_true rfl)⟩) ⟨Wd.blind, fun U hU hW => ⟨rfl, Wd.call hPc hDc hK hC hZ hS hFc U hU hW⟩⟩ rfl rfl hl.1 rfl (lv_room (Nat.le_of_ble_eq_true rfl)) dX10_deposit_72 ⟨(Nat.le_of_ble_eq_true rfl), (Nat.le_of_ble_eq_true rfl)⟩) hS (fun q _ h => hFc q h) hFc (fun u t H1 locs ht hvm hw hB hz1 hk1 hS => ?_)
      obtain ⟨qn26, fn27, hn28, hn29, hn30, hn31, hP1, hD1⟩ := hB
      rw [ht] at hP1
      obtain ⟨hP, hD⟩ := PDq.join (w := [(oX10 w0 v0 v1 v2 v3 v4 g5 g6 (nI qn10) 0 v9 (nI nb) g11 g12 v13 g14 g15 g16 g17 g18 g19 g20 g21 g22 g23 g24 g25 g26 v27 v28 v29 v30 v31 v32 v33 v34 v35 v36 v37 (nI ol)), (v3, .inl (cA 0, 3260, .inl fn11)), (v4, .inl (cA 1, 10, .inr (.inl fn12))), (v0, .inl (cA 0, 326, .inl fn27))]) 3 hP hD [1] [0, 2, 3] rfl rfl (by decide) (by decide) hk1 hFc hP1 hD1 rfl
      generalize H1 = H at hP hS ⊢
      refine lv_aload_n hx hb dX10_deposit_75 rfl (lv_at hl 0 rfl) ?_
      refine va_get (D := D) (ci := 11) (v := .ref v0) (C := RX10) (T := TX10) (N := 39) hx hb hts inX10 hown hK hP 0 rfl rfl 0 (by decide) (hts (.fieldLink RX10 7 "EscrowDeskModel" "s" "[I") (by decide +kernel)) (fun _ h9 => h9) rfl dX10_deposit_76 ?_
      refine lv_bipush (v := 6) hx hb dX10_deposit_79 (by decide) ?_
      refine va_iald hx hb hK hP 3 0 rfl rfl (vp_in_iff.mpr (by decide)) dX10_deposit_81 ?_
      refine lv_topi (fun yn32 eyn32 => ?_)
      obtain rfl : yn32 = ((rs 6) + i) := eyn32.trans ((Ab.get hn30 (j := 6) (by omega) (by omega)).trans ((entR_n (by omega)).trans pk_us))
      obtain ⟨hP9, hD9⟩ := PDq.sub (ws' := [(oX10 w0 v0 v1 v2 v3 v4 g5 g6 (nI qn10) 0 v9 (nI nb) g11 g12 v13 g14 g15 g16 g17 g18 g19 g20 g21 g22 g23 g24 g25 g26 v27 v28 v29 v30 v31 v32 v33 v34 v35 v36 v37 (nI ol)), (v0, .inl (cA 0, 326, .inl fn27)), (v3, .inl (cA 0, 3260, .inl fn11)), (v4, .inl (cA 1, 10, .inr (.inl fn12)))]) hP hD [0, 3, 1, 2] (by decide) rfl
      refine W.widen (k := 0) (n := 0) (Nat.le_of_ble_eq_true rfl) (Nat.le_of_ble_eq_true rfl) ?_
      exact (W.iret (v := ((rs 6) + i)) hx hb hr (fun t ht hW => ⟨⟨((rs 6) + i), (), rfl, trivial, qn10, qn26, 0, fn27, fn11, fn12, hn13, hn14, hn28, hn29, (by subst hrs; exact Or.inl ⟨⟨hn2, lg_ngt c5⟩, hn15, hn30⟩), by rw [ht]; exact hP9, hD9⟩, hS.F ht⟩) hS.2.2 dX10_deposit_82)
  · skip
    subst hr9
    refine lv_aload_n hx hb dX10_deposit_10 rfl (lv_at hl 0 rfl) ?_
    refine va_get (D := D) (ci := 11) (v := .ref v0) (C := RX10) (T := TX10) (N := 39) hx hb hts inX10 hown hK hP 0 rfl rfl 0 (by decide) (hts (.fieldLink RX10 7 "EscrowDeskModel" "s" "[I") (by decide +kernel)) (fun _ h9 => h9) rfl dX10_deposit_11 ?_
    refine lv_iconst (v := 5) hx hb dX10_deposit_14 (by decide) ?_
    refine va_iald hx hb hK hP 1 0 rfl rfl (vp_in_iff.mpr (by decide)) dX10_deposit_15 ?_
    refine lv_topi (fun yn33 eyn33 => ?_)
    obtain rfl : yn33 = (rs 5) := eyn33.trans ((Ab.get hrs9 (j := 5) (by omega) (by omega)).trans rfl)
    refine lv_i2l (v := ((rs 5).toInt64)) hx hb dX10_deposit_16 rfl ?_
    refine lv_iload_n hx hb dX10_deposit_17 rfl (lv_at hl 1 rfl) ?_
    refine lv_i2l (v := (i.toInt64)) hx hb dX10_deposit_18 rfl ?_
    refine lv_ladd hx hb dX10_deposit_19 ?_
    refine lv_topl (fun yn34 eyn34 => ?_)
    obtain rfl : yn34 = (((rs 5).toInt64) + (i.toInt64)) := eyn34
    refine lv_ldc2 (v := 9999999) hx hb hown (hts (.constantLong RX10 393 9999999) (by decide +kernel)) dX10_deposit_20 ?_
    refine W.lcmp hx hb dX10_deposit_23 ?_
    refine lv_if_gt (tgt := 31) hx hb dX10_deposit_24 (by decide) (fun c35 => ?_) (fun c35 => ?_)
    · skip
      refine lv_iconst (v := 0) hx hb dX10_deposit_31 (by decide) ?_
      obtain ⟨hPc, hDc, hFc⟩ := PDq.cut (wc := [(oX10 w0 v0 v1 v2 v3 v4 g5 g6 (nI ed) g8 v9 (nI nb) g11 g12 v13 g14 g15 g16 g17 g18 g19 g20 g21 g22 g23 g24 g25 g26 v27 v28 v29 v30 v31 v32 v33 v34 v35 v36 v37 (nI ol))]) hP hD hS hA [0] (by decide) rfl
      refine va_calli (va_runV (As := [.int 0, .int 0]) (rest := []) ⟨hx, hb, hml, hown, hts⟩ (r_good_00 l D cA sa w0 ed nb ol v0 v1 v2 v3 v4 v9 v13 v27 v28 v29 v30 v31 v32 v33 v34 v35 v36 v37 g8 g11 g12 g14 g15 g16 g17 g18 g19 g20 g21 g22 g23 g24 g26 g5 g6 g25 H.size) (cwV 2 hts gX10_deposit_X10_good_ rfl rfl rfl (by decide +kernel) ⟨(Nat.le_of_ble_eq_true rfl), (Nat.le_of_ble_eq_true rfl)⟩) ⟨Wd.blind, va_recv hK hPc (ci := 11) (q0 := 0) rfl rfl, fun U hU hW => ⟨rfl, Wd.call hPc hDc hK hC hZ hS hFc U hU hW⟩⟩ rfl rfl hl.1 rfl (lv_room (Nat.le_of_ble_eq_true rfl)) dX10_deposit_32 ⟨(Nat.le_of_ble_eq_true rfl), (Nat.le_of_ble_eq_true rfl)⟩) hS (fun q _ h => hFc q h) hFc (fun rn36 u t H1 locs ht hvm hw hB hz1 hk1 hS => ?_)
      obtain ⟨hP1, hD1⟩ := hB
      rw [ht] at hP1
      obtain ⟨hP, hD⟩ := PDq.join (w := [(v0, .inl (cA 0, 326, .inl fs)), (v3, .inl (cA 0, 3260, .inl fh)), (v4, .inl (cA 1, 10, .inr (.inl fl))), (oX10 w0 v0 v1 v2 v3 v4 g5 g6 (nI ed) 1 v9 (nI nb) g11 g12 v13 g14 g15 g16 g17 g18 g19 g20 g21 g22 g23 g24 g25 g26 v27 v28 v29 v30 v31 v32 v33 v34 v35 v36 v37 (nI ol))]) 3 hP hD [0] [1, 2, 3] rfl rfl (by decide) (by decide) hk1 hFc hP1 hD1 rfl
      generalize H1 = H at hP hS ⊢
      obtain rfl : rn36 = 0 := hw
      refine lv_if_ne (tgt := 40) hx hb dX10_deposit_35 (by decide) (fun c9 => absurd c9 (by decide)) (fun c37 => ?_)
      refine lv_iconst (v := 0) hx hb dX10_deposit_38 (by decide) ?_
      obtain ⟨hP9, hD9⟩ := PDq.sub (ws' := [(oX10 w0 v0 v1 v2 v3 v4 g5 g6 (nI ed) 1 v9 (nI nb) g11 g12 v13 g14 g15 g16 g17 g18 g19 g20 g21 g22 g23 g24 g25 g26 v27 v28 v29 v30 v31 v32 v33 v34 v35 v36 v37 (nI ol)), (v0, .inl (cA 0, 326, .inl fs)), (v3, .inl (cA 0, 3260, .inl fh)), (v4, .inl (cA 1, 10, .inr (.inl fl)))]) hP hD [3, 0, 1, 2] (by decide) rfl
      refine W.widen (k := 0) (n := 0) (Nat.le_of_ble_eq_true rfl) (Nat.le_of_ble_eq_true rfl) ?_
      exact (W.iret (v := 0) hx hb hr (fun t ht hW => ⟨⟨0, (), rfl, trivial, ed, en, 1, fs, fh, fl, hed, hHI, hen, hri, (by subst hrs; exact Or.inr ⟨(fun q9 => hn2 q9.1), rfl, rfl, rfl, rfl⟩), by rw [ht]; exact hP9, hD9⟩, hS.F ht⟩) hS.2.2 dX10_deposit_39)
    · skip
      refine lv_iconst (v := 1) hx hb dX10_deposit_27 (by decide) ?_
      refine lv_goto (tgt := 32) hx hb dX10_deposit_28 (by decide) ?_
      obtain ⟨hPc, hDc, hFc⟩ := PDq.cut (wc := [(oX10 w0 v0 v1 v2 v3 v4 g5 g6 (nI ed) g8 v9 (nI nb) g11 g12 v13 g14 g15 g16 g17 g18 g19 g20 g21 g22 g23 g24 g25 g26 v27 v28 v29 v30 v31 v32 v33 v34 v35 v36 v37 (nI ol))]) hP hD hS hA [0] (by decide) rfl
      refine va_calli (va_runV (As := [.int 0, .int 1]) (rest := []) ⟨hx, hb, hml, hown, hts⟩ (r_good_01 l D cA sa w0 ed nb ol v0 v1 v2 v3 v4 v9 v13 v27 v28 v29 v30 v31 v32 v33 v34 v35 v36 v37 g8 g11 g12 g14 g15 g16 g17 g18 g19 g20 g21 g22 g23 g24 g26 g5 g6 g25 H.size) (cwV 2 hts gX10_deposit_X10_good_ rfl rfl rfl (by decide +kernel) ⟨(Nat.le_of_ble_eq_true rfl), (Nat.le_of_ble_eq_true rfl)⟩) ⟨Wd.blind, va_recv hK hPc (ci := 11) (q0 := 0) rfl rfl, fun U hU hW => ⟨rfl, Wd.call hPc hDc hK hC hZ hS hFc U hU hW⟩⟩ rfl rfl hl.1 rfl (lv_room (Nat.le_of_ble_eq_true rfl)) dX10_deposit_32 ⟨(Nat.le_of_ble_eq_true rfl), (Nat.le_of_ble_eq_true rfl)⟩) hS (fun q _ h => hFc q h) hFc (fun rn38 u t H1 locs ht hvm hw hB hz1 hk1 hS => ?_)
      obtain ⟨hP1, hD1⟩ := hB
      rw [ht] at hP1
      obtain ⟨hP, hD⟩ := PDq.join (w := [(v0, .inl (cA 0, 326, .inl fs)), (v3, .inl (cA 0, 3260, .inl fh)), (v4, .inl (cA 1, 10, .inr (.inl fl))), (oX10 w0 v0 v1 v2 v3 v4 g5 g6 (nI ed) 1 v9 (nI nb) g11 g12 v13 g14 g15 g16 g17 g18 g19 g20 g21 g22 g23 g24 g25 g26 v27 v28 v29 v30 v31 v32 v33 v34 v35 v36 v37 (nI ol))]) 3 hP hD [0] [1, 2, 3] rfl rfl (by decide) (by decide) hk1 hFc hP1 hD1 rfl
      generalize H1 = H at hP hS ⊢
      obtain rfl : rn38 = 0 := hw
      refine lv_if_ne (tgt := 40) hx hb dX10_deposit_35 (by decide) (fun c9 => absurd c9 (by decide)) (fun c39 => ?_)
      refine lv_iconst (v := 0) hx hb dX10_deposit_38 (by decide) ?_
      obtain ⟨hP9, hD9⟩ := PDq.sub (ws' := [(oX10 w0 v0 v1 v2 v3 v4 g5 g6 (nI ed) 1 v9 (nI nb) g11 g12 v13 g14 g15 g16 g17 g18 g19 g20 g21 g22 g23 g24 g25 g26 v27 v28 v29 v30 v31 v32 v33 v34 v35 v36 v37 (nI ol)), (v0, .inl (cA 0, 326, .inl fs)), (v3, .inl (cA 0, 3260, .inl fh)), (v4, .inl (cA 1, 10, .inr (.inl fl)))]) hP hD [3, 0, 1, 2] (by decide) rfl
      refine W.widen (k := 0) (n := 0) (Nat.le_of_ble_eq_true rfl) (Nat.le_of_ble_eq_true rfl) ?_
      exact (W.iret (v := 0) hx hb hr (fun t ht hW => ⟨⟨0, (), rfl, trivial, ed, en, 1, fs, fh, fl, hed, hHI, hen, hri, (by subst hrs; exact Or.inr ⟨(fun q9 => hn2 q9.1), rfl, rfl, rfl, rfl⟩), by rw [ht]; exact hP9, hD9⟩, hS.F ht⟩) hS.2.2 dX10_deposit_39)

set_option maxHeartbeats 4000000 in
set_option maxRecDepth 100000 in
/-- reference, exactly: setGrace -/
theorem e_setGrace (l : Launch) (D : va_G) (cA : Nat → ClassId) (sa : Nat → Nat) (w0 : Nat) (ed : Nat) (nb : Nat) (ol : Nat) (v0 : Nat) (v1 : Nat) (v2 : Nat) (v3 : Nat) (v4 : Nat) (v9 : Nat) (v13 : Nat) (v27 : Nat) (v28 : Nat) (v29 : Nat) (v30 : Nat) (v31 : Nat) (v32 : Nat) (v33 : Nat) (v34 : Nat) (v35 : Nat) (v36 : Nat) (v37 : Nat) (g8 : Int32) (g11 : Int32) (g12 : Int32) (g14 : Int32) (g15 : Int32) (g16 : Int32) (g17 : Int32) (g18 : Int32) (g19 : Int32) (g20 : Int32) (g21 : Int32) (g22 : Int32) (g23 : Int32) (g24 : Int32) (g26 : Int32) (g5 : Int64) (g6 : Int64) (g25 : Int64) (cn : Nat) (pq : Nat) (en : Nat) (dy : Nat) (fs : Nat → Int32) (fh : Nat → Int32) (fl : Nat → Int64) (i : Int32) (sz : Nat) (hcn : cn ≤ 10) (hpq : pq ≤ 8) (hen : en ≤ 60) (hdy : dy ≤ 20000) (hri : RI cn pq en dy fs) (hed : ed ≤ 10) (hHI : HI cn pq ed fh) (hd9 : dy ≤ 9999) : Met l yX10_setGrace wsX10_setGrace ({ frames := 1, cells := 0, slots := 0, locals := 25 }) (va_Pc [.ref w0, .int i] (Wd D cA sa [(oX10 w0 v0 v1 v2 v3 v4 g5 g6 (nI ed) g8 v9 (nI nb) g11 g12 v13 g14 g15 g16 g17 g18 g19 g20 g21 g22 g23 g24 g25 g26 v27 v28 v29 v30 v31 v32 v33 v34 v35 v36 v37 (nI ol)), (v0, .inl (cA 0, 326, .inl fs)), (v3, .inl (cA 0, 3260, .inl fh)), (v4, .inl (cA 1, 10, .inr (.inl fl)))] sz)) (va_Qi (fun (r : Int32) (_ : Unit) => True) (fun (_ : Unit) t => ∃ ed2 : Nat, ∃ e2 : Nat, ∃ zt : Int32, ∃ zs : Nat → Int32, ∃ zh : Nat → Int32, ∃ zl : Nat → Int64, ed2 ≤ 10 ∧ HI cn pq ed2 zh ∧ e2 ≤ 60 ∧ RI cn pq e2 dy zs ∧ EdM (AcGra i) (graR i) ed fh fl fs g5 ed2 zh zl zs ∧ Wq D (va_A [(oX10 w0 v0 v1 v2 v3 v4 g5 g6 (nI ed) g8 v9 (nI nb) g11 g12 v13 g14 g15 g16 g17 g18 g19 g20 g21 g22 g23 g24 g25 g26 v27 v28 v29 v30 v31 v32 v33 v34 v35 v36 v37 (nI ol)), (v0, .inl (cA 0, 326, .inl fs)), (v3, .inl (cA 0, 3260, .inl fh)), (v4, .inl (cA 1, 10, .inr (.inl fl)))] sz) [(oX10 w0 v0 v1 v2 v3 v4 g5 g6 (nI ed2) zt v9 (nI nb) g11 g12 v13 g14 g15 g16 g17 g18 g19 g20 g21 g22 g23 g24 g25 g26 v27 v28 v29 v30 v31 v32 v33 v34 v35 v36 v37 (nI ol)), (v0, .inl (cA 0, 326, .inl zs)), (v3, .inl (cA 0, 3260, .inl zh)), (v4, .inl (cA 1, 10, .inr (.inl zl)))] t) (va_A [(oX10 w0 v0 v1 v2 v3 v4 g5 g6 (nI ed) g8 v9 (nI nb) g11 g12 v13 g14 g15 g16 g17 g18 g19 g20 g21 g22 g23 g24 g25 g26 v27 v28 v29 v30 v31 v32 v33 v34 v35 v36 v37 (nI ol)), (v0, .inl (cA 0, 326, .inl fs)), (v3, .inl (cA 0, 3260, .inl fh)), (v4, .inl (cA 1, 10, .inr (.inl fl)))] sz)) 0 0 (va_A [(oX10 w0 v0 v1 v2 v3 v4 g5 g6 (nI ed) g8 v9 (nI nb) g11 g12 v13 g14 g15 g16 g17 g18 g19 g20 g21 g22 g23 g24 g25 g26 v27 v28 v29 v30 v31 v32 v33 v34 v35 v36 v37 (nI ol)), (v0, .inl (cA 0, 326, .inl fs)), (v3, .inl (cA 0, 3260, .inl fh)), (v4, .inl (cA 1, 10, .inr (.inl fl)))] sz) := by
  refine Met.ofW (cc := cX10_setGrace) (maxL := 3) (ret := (some .int)) (by decide) rfl ?_
  intro p e s m args below meth c s₁ B hml hv
  obtain ⟨rfl, hsz, hP, hK, hD0, hC, hZ⟩ := hv
  have hx := B.exec
  have hb := B.bytes
  have hr := B.returns
  have hts := atoms_spec (ws := wsX10_setGrace) B.pre
  have hown : s.vm.findClass RX10 = some m.cls := findClass_of_methodNamed B.named
  have hlocks := B.notSynchronized
  subst hsz
  have hD := hD0.self (sz := s.heap.size)
  generalize hAe : va_A [(oX10 w0 v0 v1 v2 v3 v4 g5 g6 (nI ed) g8 v9 (nI nb) g11 g12 v13 g14 g15 g16 g17 g18 g19 g20 g21 g22 g23 g24 g25 g26 v27 v28 v29 v30 v31 v32 v33 v34 v35 v36 v37 (nI ol)), (v0, .inl (cA 0, 326, .inl fs)), (v3, .inl (cA 0, 3260, .inl fh)), (v4, .inl (cA 1, 10, .inr (.inl fl)))] s.heap.size = A at hD hZ ⊢
  have hA : ∀ q : Nat, s.heap.size ≤ q → A q := fun q h => by rw [← hAe]; exact Or.inr h
  have hS : va_S A s.heap s.heap [] := va_S.rf
  have hP : va_P D vwCl [(oX10 w0 v0 v1 v2 v3 v4 g5 g6 (nI ed) g8 v9 (nI nb) g11 g12 v13 g14 g15 g16 g17 g18 g19 g20 g21 g22 g23 g24 g25 g26 v27 v28 v29 v30 v31 v32 v33 v34 v35 v36 v37 (nI ol)), (v0, .inl (cA 0, 326, .inl fs)), (v3, .inl (cA 0, 3260, .inl fh)), (v4, .inl (cA 1, 10, .inr (.inl fl)))] s.heap := hP
  have hl := lv_entry ([.ref w0, .int i]) (n := 3) (Nat.le_of_ble_eq_true rfl)
  rw [lg_entry_eq]
  generalize (lg_sl ([.ref w0, .int i]) ++ List.replicate (3 - (lg_sl ([.ref w0, .int i])).length) Slot.unset).toArray = ls at hl ⊢
  have hl : lv_has ls 3 [(0, .ref w0), (1, .int i)] := hl
  have inX10 : ∀ w ∈ u_ws RX10 TX10 39, w ∈ wsX10_setGrace := by decide +kernel
  obtain ⟨rs, hrs⟩ : ∃ r : Nat → Int32, r = fs := ⟨fs, rfl⟩
  have hrs9 : Ab rs fs := by rw [hrs]; exact Ab.rf fs
  refine lv_aload_n hx hb dX10_setGrace_0 rfl (lv_at hl 0 rfl) ?_
  refine lv_iload_n hx hb dX10_setGrace_1 rfl (lv_at hl 1 rfl) ?_
  refine lv_i2l (v := (i.toInt64)) hx hb dX10_setGrace_2 rfl ?_
  refine lv_lconst (v := 0) hx hb dX10_setGrace_3 (by decide) ?_
  refine lv_ldc2 (v := 60) hx hb hown (hts (.constantLong RX10 410 60) (by decide +kernel)) dX10_setGrace_4 ?_
  obtain ⟨hPc, hDc, hFc⟩ := PDq.cut (wc := []) hP hD hS hA [] (by decide) rfl
  refine va_calli (va_runS (As := [.long (i.toInt64), .long 0, .long 60]) (rest := [.ref w0]) ⟨hx, hb, hml, hown, hts⟩ (e_between l D cA sa (i.toInt64) 0 60 s.heap.size) (va_cwS 3 hts gX10_setGrace_X10_between rfl rfl rfl (by decide +kernel) ⟨(Nat.le_of_ble_eq_true rfl), (Nat.le_of_ble_eq_true rfl)⟩) ⟨Wd.blind, fun U hU hW => ⟨rfl, Wd.call hPc hDc hK hC hZ hS hFc U hU hW⟩⟩ rfl rfl hl.1 rfl (lv_room (Nat.le_of_ble_eq_true rfl)) dX10_setGrace_7 ⟨(Nat.le_of_ble_eq_true rfl), (Nat.le_of_ble_eq_true rfl)⟩) hS (fun q _ h => hFc q h) hFc (fun rn1 u t H1 locs ht hvm hw hB hz1 hk1 hS => ?_)
  obtain ⟨hP1, hD1⟩ := hB
  rw [ht] at hP1
  obtain ⟨hP, hD⟩ := PDq.join (w := [(oX10 w0 v0 v1 v2 v3 v4 g5 g6 (nI ed) g8 v9 (nI nb) g11 g12 v13 g14 g15 g16 g17 g18 g19 g20 g21 g22 g23 g24 g25 g26 v27 v28 v29 v30 v31 v32 v33 v34 v35 v36 v37 (nI ol)), (v0, .inl (cA 0, 326, .inl fs)), (v3, .inl (cA 0, 3260, .inl fh)), (v4, .inl (cA 1, 10, .inr (.inl fl)))]) 4 hP hD [] [0, 1, 2, 3] rfl rfl (by decide) (by decide) hk1 hFc hP1 hD1 rfl
  generalize H1 = H at hP hS ⊢
  rcases hw with ⟨hr9, hn2⟩ | ⟨hr9, hn2⟩
  · skip
    subst hr9
    obtain ⟨hPc, hDc, hFc⟩ := PDq.cut (wc := [(oX10 w0 v0 v1 v2 v3 v4 g5 g6 (nI ed) g8 v9 (nI nb) g11 g12 v13 g14 g15 g16 g17 g18 g19 g20 g21 g22 g23 g24 g25 g26 v27 v28 v29 v30 v31 v32 v33 v34 v35 v36 v37 (nI ol))]) hP hD hS hA [0] (by decide) rfl
    refine va_calli (va_runV (As := [.int 1]) (rest := []) ⟨hx, hb, hml, hown, hts⟩ (r_good1 l D cA sa w0 ed nb ol v0 v1 v2 v3 v4 v9 v13 v27 v28 v29 v30 v31 v32 v33 v34 v35 v36 v37 g8 g11 g12 g14 g15 g16 g17 g18 g19 g20 g21 g22 g23 g24 g26 g5 g6 g25 H.size) (cwV 1 hts gX10_setGrace_X10_good rfl rfl rfl (by decide +kernel) ⟨(Nat.le_of_ble_eq_true rfl), (Nat.le_of_ble_eq_true rfl)⟩) ⟨Wd.blind, va_recv hK hPc (ci := 11) (q0 := 0) rfl rfl, fun U hU hW => ⟨rfl, Wd.call hPc hDc hK hC hZ hS hFc U hU hW⟩⟩ rfl rfl hl.1 rfl (lv_room (Nat.le_of_ble_eq_true rfl)) dX10_setGrace_10 ⟨(Nat.le_of_ble_eq_true rfl), (Nat.le_of_ble_eq_true rfl)⟩) hS (fun q _ h => hFc q h) hFc (fun rn3 u t H1 locs ht hvm hw hB hz1 hk1 hS => ?_)
    obtain ⟨hP1, hD1⟩ := hB
    rw [ht] at hP1
    obtain ⟨hP, hD⟩ := PDq.join (w := [(v0, .inl (cA 0, 326, .inl fs)), (v3, .inl (cA 0, 3260, .inl fh)), (v4, .inl (cA 1, 10, .inr (.inl fl))), (oX10 w0 v0 v1 v2 v3 v4 g5 g6 (nI ed) 0 v9 (nI nb) g11 g12 v13 g14 g15 g16 g17 g18 g19 g20 g21 g22 g23 g24 g25 g26 v27 v28 v29 v30 v31 v32 v33 v34 v35 v36 v37 (nI ol))]) 3 hP hD [0] [1, 2, 3] rfl rfl (by decide) (by decide) hk1 hFc hP1 hD1 rfl
    generalize H1 = H at hP hS ⊢
    obtain rfl : rn3 = 1 := hw
    refine lv_if_ne (tgt := 18) hx hb dX10_setGrace_13 (by decide) (fun c4 => ?_) (fun c9 => absurd c9 (by decide))
    refine lv_aload_n hx hb dX10_setGrace_18 rfl (lv_at hl 0 rfl) ?_
    obtain ⟨hPc, hDc, hFc⟩ := PDq.cut (wc := [(oX10 w0 v0 v1 v2 v3 v4 g5 g6 (nI ed) 0 v9 (nI nb) g11 g12 v13 g14 g15 g16 g17 g18 g19 g20 g21 g22 g23 g24 g25 g26 v27 v28 v29 v30 v31 v32 v33 v34 v35 v36 v37 (nI ol)), (v0, .inl (cA 0, 326, .inl fs)), (v3, .inl (cA 0, 3260, .inl fh)), (v4, .inl (cA 1, 10, .inr (.inl fl)))]) hP hD hS hA [3, 0, 1, 2] (by decide) rfl
    refine va_callv (va_runV (As := []) (rest := []) ⟨hx, hb, hml, hown, hts⟩ (e_remember l D cA sa w0 ed nb ol v0 v1 v2 v3 v4 v9 v13 v27 v28 v29 v30 v31 v32 v33 v34 v35 v36 v37 0 g11 g12 g14 g15 g16 g17 g18 g19 g20 g21 g22 g23 g24 g26 g5 g6 g25 cn pq en dy fs fh fl H.size hcn hpq hen hdy hri hed hHI hd9) (cwV 0 hts gX10_setGrace_X10_remember rfl rfl rfl (by decide +kernel) ⟨(Nat.le_of_ble_eq_true rfl), (Nat.le_of_ble_eq_true rfl)⟩) ⟨Wd.blind, va_recv hK hPc (ci := 11) (q0 := 0) rfl rfl, fun U hU hW => ⟨rfl, Wd.call hPc hDc hK hC hZ hS hFc U hU hW⟩⟩ rfl rfl hl.1 rfl (lv_room (Nat.le_of_ble_eq_true rfl)) dX10_setGrace_19 ⟨(Nat.le_of_ble_eq_true rfl), (Nat.le_of_ble_eq_true rfl)⟩) hS (fun q _ h => hFc q h) hFc (fun u t H1 locs ht hvm hw hB hz1 hk1 hS => ?_)
    obtain ⟨qn5, fn6, fn7, hn8, hn9, hn10, hP1, hD1⟩ := hB
    rw [ht] at hP1
    obtain ⟨hP, hD⟩ := PDq.join (w := [(oX10 w0 v0 v1 v2 v3 v4 g5 g6 (nI qn5) 0 v9 (nI nb) g11 g12 v13 g14 g15 g16 g17 g18 g19 g20 g21 g22 g23 g24 g25 g26 v27 v28 v29 v30 v31 v32 v33 v34 v35 v36 v37 (nI ol)), (v0, .inl (cA 0, 326, .inl fs)), (v3, .inl (cA 0, 3260, .inl fn6)), (v4, .inl (cA 1, 10, .inr (.inl fn7)))]) 0 hP hD [3, 0, 1, 2] [] rfl rfl (by decide) (by decide) hk1 hFc hP1 hD1 rfl
    generalize H1 = H at hP hS ⊢
    refine lv_aload_n hx hb dX10_setGrace_22 rfl (lv_at hl 0 rfl) ?_
    refine va_get (D := D) (ci := 11) (v := .ref v0) (C := RX10) (T := TX10) (N := 39) hx hb hts inX10 hown hK hP 0 rfl rfl 0 (by decide) (hts (.fieldLink RX10 7 "EscrowDeskModel" "s" "[I") (by decide +kernel)) (fun _ h9 => h9) rfl dX10_setGrace_23 ?_
    refine lv_iconst (v := 3) hx hb dX10_setGrace_26 (by decide) ?_
    refine va_iald hx hb hK hP 1 0 rfl rfl (vp_in_iff.mpr (by decide)) dX10_setGrace_27 ?_
    refine lv_topi (fun yn11 eyn11 => ?_)
    obtain rfl : yn11 = (rs 3) := eyn11.trans ((Ab.get hrs9 (j := 3) (by omega) (by omega)).trans rfl)
    refine lv_istore_n (lv' := [(2, .int (rs 3)), (0, .ref w0), (1, .int i)]) hx hb dX10_setGrace_28 rfl hl (by decide) rfl (fun ls hl => ?_)
    refine lv_aload_n hx hb dX10_setGrace_29 rfl (lv_at hl 1 rfl) ?_
    refine va_get (D := D) (ci := 11) (v := .ref v0) (C := RX10) (T := TX10) (N := 39) hx hb hts inX10 hown hK hP 0 rfl rfl 0 (by decide) (hts (.fieldLink RX10 7 "EscrowDeskModel" "s" "[I") (by decide +kernel)) (fun _ h9 => h9) rfl dX10_setGrace_30 ?_
    refine lv_iconst (v := 3) hx hb dX10_setGrace_33 (by decide) ?_
    refine lv_iload_n hx hb dX10_setGrace_34 rfl (lv_at hl 2 rfl) ?_
    refine va_iast hx hb hK hP hD hS 1 0 rfl rfl (vp_in_iff.mpr (by decide)) dX10_setGrace_35 (fun H locs hP hD hS => ?_)
    obtain ⟨hP, hD⟩ : PDq D A [(oX10 w0 v0 v1 v2 v3 v4 g5 g6 (nI qn5) 0 v9 (nI nb) g11 g12 v13 g14 g15 g16 g17 g18 g19 g20 g21 g22 g23 g24 g25 g26 v27 v28 v29 v30 v31 v32 v33 v34 v35 v36 v37 (nI ol)), (v0, .inl (cA 0, 326, .inl (upd fs 3 i))), (v3, .inl (cA 0, 3260, .inl fn6)), (v4, .inl (cA 1, 10, .inr (.inl fn7)))] H := ⟨hP, hD⟩
    have hn13 : Ab (upd rs 3 i) (upd fs 3 i) := (Ab.put hrs9 3 i)
    have hn14 : RI cn pq en dy (upd fs 3 i) := RI.put hri 3 i (by decide) (by decide) (by decide) (by decide) (by decide)
    generalize (upd fs 3 i) = fn12 at hP hD hn13 hn14
    obtain ⟨hP, hD⟩ : PDq D A [(oX10 w0 v0 v1 v2 v3 v4 g5 g6 (nI qn5) 0 v9 (nI nb) g11 g12 v13 g14 g15 g16 g17 g18 g19 g20 g21 g22 g23 g24 g25 g26 v27 v28 v29 v30 v31 v32 v33 v34 v35 v36 v37 (nI ol)), (v0, .inl (cA 0, 326, .inl fn12)), (v3, .inl (cA 0, 3260, .inl fn6)), (v4, .inl (cA 1, 10, .inr (.inl fn7)))] H := ⟨hP, hD⟩
    refine lv_iload_n hx hb dX10_setGrace_36 rfl (lv_at hl 0 rfl) ?_
    obtain ⟨hP9, hD9⟩ := PDq.sub (ws' := [(oX10 w0 v0 v1 v2 v3 v4 g5 g6 (nI qn5) 0 v9 (nI nb) g11 g12 v13 g14 g15 g16 g17 g18 g19 g20 g21 g22 g23 g24 g25 g26 v27 v28 v29 v30 v31 v32 v33 v34 v35 v36 v37 (nI ol)), (v0, .inl (cA 0, 326, .inl fn12)), (v3, .inl (cA 0, 3260, .inl fn6)), (v4, .inl (cA 1, 10, .inr (.inl fn7)))]) hP hD [0, 1, 2, 3] (by decide) rfl
    refine W.widen (k := 0) (n := 0) (Nat.le_of_ble_eq_true rfl) (Nat.le_of_ble_eq_true rfl) ?_
    exact (W.iret (v := (rs 3)) hx hb hr (fun t ht hW => ⟨⟨(rs 3), (), rfl, trivial, qn5, en, 0, fn12, fn6, fn7, hn8, hn9, hen, hn14, (by subst hrs; exact Or.inl ⟨hn2, hn10, hn13⟩), by rw [ht]; exact hP9, hD9⟩, hS.F ht⟩) hS.2.2 dX10_setGrace_37)
  · skip
    subst hr9
    obtain ⟨hPc, hDc, hFc⟩ := PDq.cut (wc := [(oX10 w0 v0 v1 v2 v3 v4 g5 g6 (nI ed) g8 v9 (nI nb) g11 g12 v13 g14 g15 g16 g17 g18 g19 g20 g21 g22 g23 g24 g25 g26 v27 v28 v29 v30 v31 v32 v33 v34 v35 v36 v37 (nI ol))]) hP hD hS hA [0] (by decide) rfl
    refine va_calli (va_runV (As := [.int 0]) (rest := []) ⟨hx, hb, hml, hown, hts⟩ (r_good0 l D cA sa w0 ed nb ol v0 v1 v2 v3 v4 v9 v13 v27 v28 v29 v30 v31 v32 v33 v34 v35 v36 v37 g8 g11 g12 g14 g15 g16 g17 g18 g19 g20 g21 g22 g23 g24 g26 g5 g6 g25 H.size) (cwV 1 hts gX10_setGrace_X10_good rfl rfl rfl (by decide +kernel) ⟨(Nat.le_of_ble_eq_true rfl), (Nat.le_of_ble_eq_true rfl)⟩) ⟨Wd.blind, va_recv hK hPc (ci := 11) (q0 := 0) rfl rfl, fun U hU hW => ⟨rfl, Wd.call hPc hDc hK hC hZ hS hFc U hU hW⟩⟩ rfl rfl hl.1 rfl (lv_room (Nat.le_of_ble_eq_true rfl)) dX10_setGrace_10 ⟨(Nat.le_of_ble_eq_true rfl), (Nat.le_of_ble_eq_true rfl)⟩) hS (fun q _ h => hFc q h) hFc (fun rn15 u t H1 locs ht hvm hw hB hz1 hk1 hS => ?_)
    obtain ⟨hP1, hD1⟩ := hB
    rw [ht] at hP1
    obtain ⟨hP, hD⟩ := PDq.join (w := [(v0, .inl (cA 0, 326, .inl fs)), (v3, .inl (cA 0, 3260, .inl fh)), (v4, .inl (cA 1, 10, .inr (.inl fl))), (oX10 w0 v0 v1 v2 v3 v4 g5 g6 (nI ed) 1 v9 (nI nb) g11 g12 v13 g14 g15 g16 g17 g18 g19 g20 g21 g22 g23 g24 g25 g26 v27 v28 v29 v30 v31 v32 v33 v34 v35 v36 v37 (nI ol))]) 3 hP hD [0] [1, 2, 3] rfl rfl (by decide) (by decide) hk1 hFc hP1 hD1 rfl
    generalize H1 = H at hP hS ⊢
    obtain rfl : rn15 = 0 := hw
    refine lv_if_ne (tgt := 18) hx hb dX10_setGrace_13 (by decide) (fun c9 => absurd c9 (by decide)) (fun c16 => ?_)
    refine lv_iconst (v := 0) hx hb dX10_setGrace_16 (by decide) ?_
    obtain ⟨hP9, hD9⟩ := PDq.sub (ws' := [(oX10 w0 v0 v1 v2 v3 v4 g5 g6 (nI ed) 1 v9 (nI nb) g11 g12 v13 g14 g15 g16 g17 g18 g19 g20 g21 g22 g23 g24 g25 g26 v27 v28 v29 v30 v31 v32 v33 v34 v35 v36 v37 (nI ol)), (v0, .inl (cA 0, 326, .inl fs)), (v3, .inl (cA 0, 3260, .inl fh)), (v4, .inl (cA 1, 10, .inr (.inl fl)))]) hP hD [3, 0, 1, 2] (by decide) rfl
    refine W.widen (k := 0) (n := 0) (Nat.le_of_ble_eq_true rfl) (Nat.le_of_ble_eq_true rfl) ?_
    exact (W.iret (v := 0) hx hb hr (fun t ht hW => ⟨⟨0, (), rfl, trivial, ed, en, 1, fs, fh, fl, hed, hHI, hen, hri, (by subst hrs; exact Or.inr ⟨(fun q9 => hn2 q9), rfl, rfl, rfl, rfl⟩), by rw [ht]; exact hP9, hD9⟩, hS.F ht⟩) hS.2.2 dX10_setGrace_17)

set_option maxHeartbeats 4000000 in
set_option maxRecDepth 100000 in
/-- reference, exactly: payInterest -/
theorem e_payInterest (l : Launch) (D : va_G) (cA : Nat → ClassId) (sa : Nat → Nat) (w0 : Nat) (ed : Nat) (nb : Nat) (ol : Nat) (v0 : Nat) (v1 : Nat) (v2 : Nat) (v3 : Nat) (v4 : Nat) (v9 : Nat) (v13 : Nat) (v27 : Nat) (v28 : Nat) (v29 : Nat) (v30 : Nat) (v31 : Nat) (v32 : Nat) (v33 : Nat) (v34 : Nat) (v35 : Nat) (v36 : Nat) (v37 : Nat) (g8 : Int32) (g11 : Int32) (g12 : Int32) (g14 : Int32) (g15 : Int32) (g16 : Int32) (g17 : Int32) (g18 : Int32) (g19 : Int32) (g20 : Int32) (g21 : Int32) (g22 : Int32) (g23 : Int32) (g24 : Int32) (g26 : Int32) (g5 : Int64) (g6 : Int64) (g25 : Int64) (cn : Nat) (pq : Nat) (en : Nat) (dy : Nat) (fs : Nat → Int32) (fh : Nat → Int32) (fl : Nat → Int64) (i : Int32) (sz : Nat) (hcn : cn ≤ 10) (hpq : pq ≤ 8) (hen : en ≤ 60) (hdy : dy ≤ 20000) (hri : RI cn pq en dy fs) (hed : ed ≤ 10) (hHI : HI cn pq ed fh) (hd9 : dy ≤ 9999) : Met l yX10_payInterest wsX10_payInterest ({ frames := 1, cells := 0, slots := 0, locals := 25 }) (va_Pc [.ref w0, .int i] (Wd D cA sa [(oX10 w0 v0 v1 v2 v3 v4 g5 g6 (nI ed) g8 v9 (nI nb) g11 g12 v13 g14 g15 g16 g17 g18 g19 g20 g21 g22 g23 g24 g25 g26 v27 v28 v29 v30 v31 v32 v33 v34 v35 v36 v37 (nI ol)), (v0, .inl (cA 0, 326, .inl fs)), (v3, .inl (cA 0, 3260, .inl fh)), (v4, .inl (cA 1, 10, .inr (.inl fl)))] sz)) (va_Qi (fun (r : Int32) (_ : Unit) => True) (fun (_ : Unit) t => ∃ ed2 : Nat, ∃ e2 : Nat, ∃ zt : Int32, ∃ zs : Nat → Int32, ∃ zh : Nat → Int32, ∃ zl : Nat → Int64, ed2 ≤ 10 ∧ HI cn pq ed2 zh ∧ e2 ≤ 60 ∧ RI cn pq e2 dy zs ∧ EdM (AcPin fs i) (pinR i) ed fh fl fs g5 ed2 zh zl zs ∧ Wq D (va_A [(oX10 w0 v0 v1 v2 v3 v4 g5 g6 (nI ed) g8 v9 (nI nb) g11 g12 v13 g14 g15 g16 g17 g18 g19 g20 g21 g22 g23 g24 g25 g26 v27 v28 v29 v30 v31 v32 v33 v34 v35 v36 v37 (nI ol)), (v0, .inl (cA 0, 326, .inl fs)), (v3, .inl (cA 0, 3260, .inl fh)), (v4, .inl (cA 1, 10, .inr (.inl fl)))] sz) [(oX10 w0 v0 v1 v2 v3 v4 g5 g6 (nI ed2) zt v9 (nI nb) g11 g12 v13 g14 g15 g16 g17 g18 g19 g20 g21 g22 g23 g24 g25 g26 v27 v28 v29 v30 v31 v32 v33 v34 v35 v36 v37 (nI ol)), (v0, .inl (cA 0, 326, .inl zs)), (v3, .inl (cA 0, 3260, .inl zh)), (v4, .inl (cA 1, 10, .inr (.inl zl)))] t) (va_A [(oX10 w0 v0 v1 v2 v3 v4 g5 g6 (nI ed) g8 v9 (nI nb) g11 g12 v13 g14 g15 g16 g17 g18 g19 g20 g21 g22 g23 g24 g25 g26 v27 v28 v29 v30 v31 v32 v33 v34 v35 v36 v37 (nI ol)), (v0, .inl (cA 0, 326, .inl fs)), (v3, .inl (cA 0, 3260, .inl fh)), (v4, .inl (cA 1, 10, .inr (.inl fl)))] sz)) 0 0 (va_A [(oX10 w0 v0 v1 v2 v3 v4 g5 g6 (nI ed) g8 v9 (nI nb) g11 g12 v13 g14 g15 g16 g17 g18 g19 g20 g21 g22 g23 g24 g25 g26 v27 v28 v29 v30 v31 v32 v33 v34 v35 v36 v37 (nI ol)), (v0, .inl (cA 0, 326, .inl fs)), (v3, .inl (cA 0, 3260, .inl fh)), (v4, .inl (cA 1, 10, .inr (.inl fl)))] sz) := by
  refine Met.ofW (cc := cX10_payInterest) (maxL := 2) (ret := (some .int)) (by decide) rfl ?_
  intro p e s m args below meth c s₁ B hml hv
  obtain ⟨rfl, hsz, hP, hK, hD0, hC, hZ⟩ := hv
  have hx := B.exec
  have hb := B.bytes
  have hr := B.returns
  have hts := atoms_spec (ws := wsX10_payInterest) B.pre
  have hown : s.vm.findClass RX10 = some m.cls := findClass_of_methodNamed B.named
  have hlocks := B.notSynchronized
  subst hsz
  have hD := hD0.self (sz := s.heap.size)
  generalize hAe : va_A [(oX10 w0 v0 v1 v2 v3 v4 g5 g6 (nI ed) g8 v9 (nI nb) g11 g12 v13 g14 g15 g16 g17 g18 g19 g20 g21 g22 g23 g24 g25 g26 v27 v28 v29 v30 v31 v32 v33 v34 v35 v36 v37 (nI ol)), (v0, .inl (cA 0, 326, .inl fs)), (v3, .inl (cA 0, 3260, .inl fh)), (v4, .inl (cA 1, 10, .inr (.inl fl)))] s.heap.size = A at hD hZ ⊢
  have hA : ∀ q : Nat, s.heap.size ≤ q → A q := fun q h => by rw [← hAe]; exact Or.inr h
  have hS : va_S A s.heap s.heap [] := va_S.rf
  have hP : va_P D vwCl [(oX10 w0 v0 v1 v2 v3 v4 g5 g6 (nI ed) g8 v9 (nI nb) g11 g12 v13 g14 g15 g16 g17 g18 g19 g20 g21 g22 g23 g24 g25 g26 v27 v28 v29 v30 v31 v32 v33 v34 v35 v36 v37 (nI ol)), (v0, .inl (cA 0, 326, .inl fs)), (v3, .inl (cA 0, 3260, .inl fh)), (v4, .inl (cA 1, 10, .inr (.inl fl)))] s.heap := hP
  have hl := lv_entry ([.ref w0, .int i]) (n := 2) (Nat.le_of_ble_eq_true rfl)
  rw [lg_entry_eq]
  generalize (lg_sl ([.ref w0, .int i]) ++ List.replicate (2 - (lg_sl ([.ref w0, .int i])).length) Slot.unset).toArray = ls at hl ⊢
  have hl : lv_has ls 2 [(0, .ref w0), (1, .int i)] := hl
  have inX10 : ∀ w ∈ u_ws RX10 TX10 39, w ∈ wsX10_payInterest := by decide +kernel
  obtain ⟨rs, hrs⟩ : ∃ r : Nat → Int32, r = fs := ⟨fs, rfl⟩
  have hrs9 : Ab rs fs := by rw [hrs]; exact Ab.rf fs
  refine lv_aload_n hx hb dX10_payInterest_0 rfl (lv_at hl 0 rfl) ?_
  refine lv_iload_n hx hb dX10_payInterest_1 rfl (lv_at hl 1 rfl) ?_
  refine lv_i2l (v := (i.toInt64)) hx hb dX10_payInterest_2 rfl ?_
  refine lv_lconst (v := 1) hx hb dX10_payInterest_3 (by decide) ?_
  refine lv_aload_n hx hb dX10_payInterest_4 rfl (lv_at hl 0 rfl) ?_
  refine va_get (D := D) (ci := 11) (v := .ref v0) (C := RX10) (T := TX10) (N := 39) hx hb hts inX10 hown hK hP 0 rfl rfl 0 (by decide) (hts (.fieldLink RX10 7 "EscrowDeskModel" "s" "[I") (by decide +kernel)) (fun _ h9 => h9) rfl dX10_payInterest_5 ?_
  refine lv_bipush (v := 7) hx hb dX10_payInterest_8 (by decide) ?_
  refine va_iald hx hb hK hP 1 0 rfl rfl (vp_in_iff.mpr (by decide)) dX10_payInterest_10 ?_
  refine lv_topi (fun yn1 eyn1 => ?_)
  obtain rfl : yn1 = (rs 7) := eyn1.trans ((Ab.get hrs9 (j := 7) (by omega) (by omega)).trans rfl)
  refine lv_i2l (v := ((rs 7).toInt64)) hx hb dX10_payInterest_11 rfl ?_
  obtain ⟨hPc, hDc, hFc⟩ := PDq.cut (wc := []) hP hD hS hA [] (by decide) rfl
  refine va_calli (va_runS (As := [.long (i.toInt64), .long 1, .long ((rs 7).toInt64)]) (rest := [.ref w0]) ⟨hx, hb, hml, hown, hts⟩ (e_between l D cA sa (i.toInt64) 1 ((rs 7).toInt64) s.heap.size) (va_cwS 3 hts gX10_payInterest_X10_between rfl rfl rfl (by decide +kernel) ⟨(Nat.le_of_ble_eq_true rfl), (Nat.le_of_ble_eq_true rfl)⟩) ⟨Wd.blind, fun U hU hW => ⟨rfl, Wd.call hPc hDc hK hC hZ hS hFc U hU hW⟩⟩ rfl rfl hl.1 rfl (lv_room (Nat.le_of_ble_eq_true rfl)) dX10_payInterest_12 ⟨(Nat.le_of_ble_eq_true rfl), (Nat.le_of_ble_eq_true rfl)⟩) hS (fun q _ h => hFc q h) hFc (fun rn2 u t H1 locs ht hvm hw hB hz1 hk1 hS => ?_)
  obtain ⟨hP1, hD1⟩ := hB
  rw [ht] at hP1
  obtain ⟨hP, hD⟩ := PDq.join (w := [(oX10 w0 v0 v1 v2 v3 v4 g5 g6 (nI ed) g8 v9 (nI nb) g11 g12 v13 g14 g15 g16 g17 g18 g19 g20 g21 g22 g23 g24 g25 g26 v27 v28 v29 v30 v31 v32 v33 v34 v35 v36 v37 (nI ol)), (v0, .inl (cA 0, 326, .inl fs)), (v3, .inl (cA 0, 3260, .inl fh)), (v4, .inl (cA 1, 10, .inr (.inl fl)))]) 4 hP hD [] [0, 1, 2, 3] rfl rfl (by decide) (by decide) hk1 hFc hP1 hD1 rfl
  generalize H1 = H at hP hS ⊢
  rcases hw with ⟨hr9, hn3⟩ | ⟨hr9, hn3⟩
  · skip
    subst hr9
    obtain ⟨hPc, hDc, hFc⟩ := PDq.cut (wc := [(oX10 w0 v0 v1 v2 v3 v4 g5 g6 (nI ed) g8 v9 (nI nb) g11 g12 v13 g14 g15 g16 g17 g18 g19 g20 g21 g22 g23 g24 g25 g26 v27 v28 v29 v30 v31 v32 v33 v34 v35 v36 v37 (nI ol))]) hP hD hS hA [0] (by decide) rfl
    refine va_calli (va_runV (As := [.int 1]) (rest := []) ⟨hx, hb, hml, hown, hts⟩ (r_good1 l D cA sa w0 ed nb ol v0 v1 v2 v3 v4 v9 v13 v27 v28 v29 v30 v31 v32 v33 v34 v35 v36 v37 g8 g11 g12 g14 g15 g16 g17 g18 g19 g20 g21 g22 g23 g24 g26 g5 g6 g25 H.size) (cwV 1 hts gX10_payInterest_X10_good rfl rfl rfl (by decide +kernel) ⟨(Nat.le_of_ble_eq_true rfl), (Nat.le_of_ble_eq_true rfl)⟩) ⟨Wd.blind, va_recv hK hPc (ci := 11) (q0 := 0) rfl rfl, fun U hU hW => ⟨rfl, Wd.call hPc hDc hK hC hZ hS hFc U hU hW⟩⟩ rfl rfl hl.1 rfl (lv_room (Nat.le_of_ble_eq_true rfl)) dX10_payInterest_15 ⟨(Nat.le_of_ble_eq_true rfl), (Nat.le_of_ble_eq_true rfl)⟩) hS (fun q _ h => hFc q h) hFc (fun rn4 u t H1 locs ht hvm hw hB hz1 hk1 hS => ?_)
    obtain ⟨hP1, hD1⟩ := hB
    rw [ht] at hP1
    obtain ⟨hP, hD⟩ := PDq.join (w := [(v0, .inl (cA 0, 326, .inl fs)), (v3, .inl (cA 0, 3260, .inl fh)), (v4, .inl (cA 1, 10, .inr (.inl fl))), (oX10 w0 v0 v1 v2 v3 v4 g5 g6 (nI ed) 0 v9 (nI nb) g11 g12 v13 g14 g15 g16 g17 g18 g19 g20 g21 g22 g23 g24 g25 g26 v27 v28 v29 v30 v31 v32 v33 v34 v35 v36 v37 (nI ol))]) 3 hP hD [0] [1, 2, 3] rfl rfl (by decide) (by decide) hk1 hFc hP1 hD1 rfl
    generalize H1 = H at hP hS ⊢
    obtain rfl : rn4 = 1 := hw
    refine lv_if_ne (tgt := 23) hx hb dX10_payInterest_18 (by decide) (fun c5 => ?_) (fun c9 => absurd c9 (by decide))
    refine lv_aload_n hx hb dX10_payInterest_23 rfl (lv_at hl 0 rfl) ?_
    obtain ⟨hPc, hDc, hFc⟩ := PDq.cut (wc := [(oX10 w0 v0 v1 v2 v3 v4 g5 g6 (nI ed) 0 v9 (nI nb) g11 g12 v13 g14 g15 g16 g17 g18 g19 g20 g21 g22 g23 g24 g25 g26 v27 v28 v29 v30 v31 v32 v33 v34 v35 v36 v37 (nI ol)), (v0, .inl (cA 0, 326, .inl fs)), (v3, .inl (cA 0, 3260, .inl fh)), (v4, .inl (cA 1, 10, .inr (.inl fl)))]) hP hD hS hA [3, 0, 1, 2] (by decide) rfl
    refine va_callv (va_runV (As := []) (rest := []) ⟨hx, hb, hml, hown, hts⟩ (e_remember l D cA sa w0 ed nb ol v0 v1 v2 v3 v4 v9 v13 v27 v28 v29 v30 v31 v32 v33 v34 v35 v36 v37 0 g11 g12 g14 g15 g16 g17 g18 g19 g20 g21 g22 g23 g24 g26 g5 g6 g25 cn pq en dy fs fh fl H.size hcn hpq hen hdy hri hed hHI hd9) (cwV 0 hts gX10_payInterest_X10_remember rfl rfl rfl (by decide +kernel) ⟨(Nat.le_of_ble_eq_true rfl), (Nat.le_of_ble_eq_true rfl)⟩) ⟨Wd.blind, va_recv hK hPc (ci := 11) (q0 := 0) rfl rfl, fun U hU hW => ⟨rfl, Wd.call hPc hDc hK hC hZ hS hFc U hU hW⟩⟩ rfl rfl hl.1 rfl (lv_room (Nat.le_of_ble_eq_true rfl)) dX10_payInterest_24 ⟨(Nat.le_of_ble_eq_true rfl), (Nat.le_of_ble_eq_true rfl)⟩) hS (fun q _ h => hFc q h) hFc (fun u t H1 locs ht hvm hw hB hz1 hk1 hS => ?_)
    obtain ⟨qn6, fn7, fn8, hn9, hn10, hn11, hP1, hD1⟩ := hB
    rw [ht] at hP1
    obtain ⟨hP, hD⟩ := PDq.join (w := [(oX10 w0 v0 v1 v2 v3 v4 g5 g6 (nI qn6) 0 v9 (nI nb) g11 g12 v13 g14 g15 g16 g17 g18 g19 g20 g21 g22 g23 g24 g25 g26 v27 v28 v29 v30 v31 v32 v33 v34 v35 v36 v37 (nI ol)), (v0, .inl (cA 0, 326, .inl fs)), (v3, .inl (cA 0, 3260, .inl fn7)), (v4, .inl (cA 1, 10, .inr (.inl fn8)))]) 0 hP hD [3, 0, 1, 2] [] rfl rfl (by decide) (by decide) hk1 hFc hP1 hD1 rfl
    generalize H1 = H at hP hS ⊢
    refine lv_aload_n hx hb dX10_payInterest_27 rfl (lv_at hl 0 rfl) ?_
    refine va_get (D := D) (ci := 11) (v := .ref v0) (C := RX10) (T := TX10) (N := 39) hx hb hts inX10 hown hK hP 0 rfl rfl 0 (by decide) (hts (.fieldLink RX10 7 "EscrowDeskModel" "s" "[I") (by decide +kernel)) (fun _ h9 => h9) rfl dX10_payInterest_28 ?_
    refine lv_bipush (v := 7) hx hb dX10_payInterest_31 (by decide) ?_
    refine lv_dup2_11 hx hb dX10_payInterest_33 rfl rfl ?_
    refine va_iald hx hb hK hP 1 0 rfl rfl (vp_in_iff.mpr (by decide)) dX10_payInterest_34 ?_
    refine lv_topi (fun yn12 eyn12 => ?_)
    obtain rfl : yn12 = (rs 7) := eyn12.trans ((Ab.get hrs9 (j := 7) (by omega) (by omega)).trans rfl)
    refine lv_iload_n hx hb dX10_payInterest_35 rfl (lv_at hl 1 rfl) ?_
    refine lv_isub hx hb dX10_payInterest_36 ?_
    refine lv_topi (fun yn13 eyn13 => ?_)
    obtain rfl : yn13 = ((rs 7) - i) := eyn13
    refine va_iast hx hb hK hP hD hS 1 0 rfl rfl (vp_in_iff.mpr (by decide)) dX10_payInterest_37 (fun H locs hP hD hS => ?_)
    obtain ⟨hP, hD⟩ : PDq D A [(oX10 w0 v0 v1 v2 v3 v4 g5 g6 (nI qn6) 0 v9 (nI nb) g11 g12 v13 g14 g15 g16 g17 g18 g19 g20 g21 g22 g23 g24 g25 g26 v27 v28 v29 v30 v31 v32 v33 v34 v35 v36 v37 (nI ol)), (v0, .inl (cA 0, 326, .inl (upd fs 7 ((rs 7) - i)))), (v3, .inl (cA 0, 3260, .inl fn7)), (v4, .inl (cA 1, 10, .inr (.inl fn8)))] H := ⟨hP, hD⟩
    have hn15 : Ab (upd rs 7 ((rs 7) - i)) (upd fs 7 ((rs 7) - i)) := (Ab.put hrs9 7 ((rs 7) - i))
    have hn16 : RI cn pq en dy (upd fs 7 ((rs 7) - i)) := RI.put hri 7 ((rs 7) - i) (by decide) (by decide) (by decide) (by decide) (by decide)
    generalize (upd fs 7 ((rs 7) - i)) = fn14 at hP hD hn15 hn16
    obtain ⟨hP, hD⟩ : PDq D A [(oX10 w0 v0 v1 v2 v3 v4 g5 g6 (nI qn6) 0 v9 (nI nb) g11 g12 v13 g14 g15 g16 g17 g18 g19 g20 g21 g22 g23 g24 g25 g26 v27 v28 v29 v30 v31 v32 v33 v34 v35 v36 v37 (nI ol)), (v0, .inl (cA 0, 326, .inl fn14)), (v3, .inl (cA 0, 3260, .inl fn7)), (v4, .inl (cA 1, 10, .inr (.inl fn8)))] H := ⟨hP, hD⟩
    refine lv_aload_n hx hb dX10_payInterest_38 rfl (lv_at hl 0 rfl) ?_
    refine va_get (D := D) (ci := 11) (v := .ref v0) (C := RX10) (T := TX10) (N := 39) hx hb hts inX10 hown hK hP 0 rfl rfl 0 (by decide) (hts (.fieldLink RX10 7 "EscrowDeskModel" "s" "[I") (by decide +kernel)) (fun _ h9 => h9) rfl dX10_payInterest_39 ?_
    refine lv_iconst (v := 4) hx hb dX10_payInterest_42 (by decide) ?_
    refine lv_iload_n hx hb dX10_payInterest_43 rfl (lv_at hl 1 rfl) ?_
    refine lv_iconst (v := (-1)) hx hb dX10_payInterest_44 (by decide) ?_
    obtain ⟨hPc, hDc, hFc⟩ := PDq.cut (wc := [(v0, .inl (cA 0, 326, .inl fn14))]) hP hD hS hA [1] (by decide) rfl
    refine va_callv (va_runS (As := [.ref v0, .int 4, .int i, .int (-1)]) (rest := []) ⟨hx, hb, hml, hown, hts⟩ (e_enter l D cA sa v0 cn pq en dy fn14 (upd rs 7 ((rs 7) - i)) 4 i (-1) H.size hn15 hcn hpq hen hdy hn16) (va_cwS 4 hts gX10_payInterest_X10_enter rfl rfl rfl (by decide +kernel) ⟨(Nat.le_of_ble_eq_true rfl), (Nat.le_of_ble_eq_true rfl)⟩) ⟨Wd.blind, fun U hU hW => ⟨rfl, Wd.call hPc hDc hK hC hZ hS hFc U hU hW⟩⟩ rfl rfl hl.1 rfl (lv_room (Nat.le_of_ble_eq_true rfl)) dX10_payInterest_45 ⟨(Nat.le_of_ble_eq_true rfl), (Nat.le_of_ble_eq_true rfl)⟩) hS (fun q _ h => hFc q h) hFc (fun u t H1 locs ht hvm hw hB hz1 hk1 hS => ?_)
    obtain ⟨qn17, fn18, hn19, hn20, hn21, hn22, hP1, hD1⟩ := hB
    rw [ht] at hP1
    obtain ⟨hP, hD⟩ := PDq.join (w := [(oX10 w0 v0 v1 v2 v3 v4 g5 g6 (nI qn6) 0 v9 (nI nb) g11 g12 v13 g14 g15 g16 g17 g18 g19 g20 g21 g22 g23 g24 g25 g26 v27 v28 v29 v30 v31 v32 v33 v34 v35 v36 v37 (nI ol)), (v3, .inl (cA 0, 3260, .inl fn7)), (v4, .inl (cA 1, 10, .inr (.inl fn8))), (v0, .inl (cA 0, 326, .inl fn18))]) 3 hP hD [1] [0, 2, 3] rfl rfl (by decide) (by decide) hk1 hFc hP1 hD1 rfl
    generalize H1 = H at hP hS ⊢
    refine lv_aload_n hx hb dX10_payInterest_48 rfl (lv_at hl 0 rfl) ?_
    refine va_get (D := D) (ci := 11) (v := .ref v0) (C := RX10) (T := TX10) (N := 39) hx hb hts inX10 hown hK hP 0 rfl rfl 0 (by decide) (hts (.fieldLink RX10 7 "EscrowDeskModel" "s" "[I") (by decide +kernel)) (fun _ h9 => h9) rfl dX10_payInterest_49 ?_
    refine lv_bipush (v := 7) hx hb dX10_payInterest_52 (by decide) ?_
    refine va_iald hx hb hK hP 3 0 rfl rfl (vp_in_iff.mpr (by decide)) dX10_payInterest_54 ?_
    refine lv_topi (fun yn23 eyn23 => ?_)
    obtain rfl : yn23 = ((rs 7) - i) := eyn23.trans ((Ab.get hn21 (j := 7) (by omega) (by omega)).trans ((entR_n (by omega)).trans pk_us))
    obtain ⟨hP9, hD9⟩ := PDq.sub (ws' := [(oX10 w0 v0 v1 v2 v3 v4 g5 g6 (nI qn6) 0 v9 (nI nb) g11 g12 v13 g14 g15 g16 g17 g18 g19 g20 g21 g22 g23 g24 g25 g26 v27 v28 v29 v30 v31 v32 v33 v34 v35 v36 v37 (nI ol)), (v0, .inl (cA 0, 326, .inl fn18)), (v3, .inl (cA 0, 3260, .inl fn7)), (v4, .inl (cA 1, 10, .inr (.inl fn8)))]) hP hD [0, 3, 1, 2] (by decide) rfl
    refine W.widen (k := 0) (n := 0) (Nat.le_of_ble_eq_true rfl) (Nat.le_of_ble_eq_true rfl) ?_
    exact (W.iret (v := ((rs 7) - i)) hx hb hr (fun t ht hW => ⟨⟨((rs 7) - i), (), rfl, trivial, qn6, qn17, 0, fn18, fn7, fn8, hn9, hn10, hn19, hn20, (by subst hrs; exact Or.inl ⟨hn3, hn11, hn21⟩), by rw [ht]; exact hP9, hD9⟩, hS.F ht⟩) hS.2.2 dX10_payInterest_55)
  · skip
    subst hr9
    obtain ⟨hPc, hDc, hFc⟩ := PDq.cut (wc := [(oX10 w0 v0 v1 v2 v3 v4 g5 g6 (nI ed) g8 v9 (nI nb) g11 g12 v13 g14 g15 g16 g17 g18 g19 g20 g21 g22 g23 g24 g25 g26 v27 v28 v29 v30 v31 v32 v33 v34 v35 v36 v37 (nI ol))]) hP hD hS hA [0] (by decide) rfl
    refine va_calli (va_runV (As := [.int 0]) (rest := []) ⟨hx, hb, hml, hown, hts⟩ (r_good0 l D cA sa w0 ed nb ol v0 v1 v2 v3 v4 v9 v13 v27 v28 v29 v30 v31 v32 v33 v34 v35 v36 v37 g8 g11 g12 g14 g15 g16 g17 g18 g19 g20 g21 g22 g23 g24 g26 g5 g6 g25 H.size) (cwV 1 hts gX10_payInterest_X10_good rfl rfl rfl (by decide +kernel) ⟨(Nat.le_of_ble_eq_true rfl), (Nat.le_of_ble_eq_true rfl)⟩) ⟨Wd.blind, va_recv hK hPc (ci := 11) (q0 := 0) rfl rfl, fun U hU hW => ⟨rfl, Wd.call hPc hDc hK hC hZ hS hFc U hU hW⟩⟩ rfl rfl hl.1 rfl (lv_room (Nat.le_of_ble_eq_true rfl)) dX10_payInterest_15 ⟨(Nat.le_of_ble_eq_true rfl), (Nat.le_of_ble_eq_true rfl)⟩) hS (fun q _ h => hFc q h) hFc (fun rn24 u t H1 locs ht hvm hw hB hz1 hk1 hS => ?_)
    obtain ⟨hP1, hD1⟩ := hB
    rw [ht] at hP1
    obtain ⟨hP, hD⟩ := PDq.join (w := [(v0, .inl (cA 0, 326, .inl fs)), (v3, .inl (cA 0, 3260, .inl fh)), (v4, .inl (cA 1, 10, .inr (.inl fl))), (oX10 w0 v0 v1 v2 v3 v4 g5 g6 (nI ed) 1 v9 (nI nb) g11 g12 v13 g14 g15 g16 g17 g18 g19 g20 g21 g22 g23 g24 g25 g26 v27 v28 v29 v30 v31 v32 v33 v34 v35 v36 v37 (nI ol))]) 3 hP hD [0] [1, 2, 3] rfl rfl (by decide) (by decide) hk1 hFc hP1 hD1 rfl
    generalize H1 = H at hP hS ⊢
    obtain rfl : rn24 = 0 := hw
    refine lv_if_ne (tgt := 23) hx hb dX10_payInterest_18 (by decide) (fun c9 => absurd c9 (by decide)) (fun c25 => ?_)
    refine lv_iconst (v := 0) hx hb dX10_payInterest_21 (by decide) ?_
    obtain ⟨hP9, hD9⟩ := PDq.sub (ws' := [(oX10 w0 v0 v1 v2 v3 v4 g5 g6 (nI ed) 1 v9 (nI nb) g11 g12 v13 g14 g15 g16 g17 g18 g19 g20 g21 g22 g23 g24 g25 g26 v27 v28 v29 v30 v31 v32 v33 v34 v35 v36 v37 (nI ol)), (v0, .inl (cA 0, 326, .inl fs)), (v3, .inl (cA 0, 3260, .inl fh)), (v4, .inl (cA 1, 10, .inr (.inl fl)))]) hP hD [3, 0, 1, 2] (by decide) rfl
    refine W.widen (k := 0) (n := 0) (Nat.le_of_ble_eq_true rfl) (Nat.le_of_ble_eq_true rfl) ?_
    exact (W.iret (v := 0) hx hb hr (fun t ht hW => ⟨⟨0, (), rfl, trivial, ed, en, 1, fs, fh, fl, hed, hHI, hen, hri, (by subst hrs; exact Or.inr ⟨(fun q9 => hn3 q9), rfl, rfl, rfl, rfl⟩), by rw [ht]; exact hP9, hD9⟩, hS.F ht⟩) hS.2.2 dX10_payInterest_22)

set_option maxHeartbeats 4000000 in
set_option maxRecDepth 100000 in
/-- reference, exactly: setRate -/
theorem e_setRate (l : Launch) (D : va_G) (cA : Nat → ClassId) (sa : Nat → Nat) (w0 : Nat) (ed : Nat) (nb : Nat) (ol : Nat) (v0 : Nat) (v1 : Nat) (v2 : Nat) (v3 : Nat) (v4 : Nat) (v9 : Nat) (v13 : Nat) (v27 : Nat) (v28 : Nat) (v29 : Nat) (v30 : Nat) (v31 : Nat) (v32 : Nat) (v33 : Nat) (v34 : Nat) (v35 : Nat) (v36 : Nat) (v37 : Nat) (g8 : Int32) (g11 : Int32) (g12 : Int32) (g14 : Int32) (g15 : Int32) (g16 : Int32) (g17 : Int32) (g18 : Int32) (g19 : Int32) (g20 : Int32) (g21 : Int32) (g22 : Int32) (g23 : Int32) (g24 : Int32) (g26 : Int32) (g5 : Int64) (g6 : Int64) (g25 : Int64) (cn : Nat) (pq : Nat) (en : Nat) (dy : Nat) (fs : Nat → Int32) (fh : Nat → Int32) (fl : Nat → Int64) (i : Int32) (j : Int32) (sz : Nat) (hcn : cn ≤ 10) (hpq : pq ≤ 8) (hen : en ≤ 60) (hdy : dy ≤ 20000) (hri : RI cn pq en dy fs) (hed : ed ≤ 10) (hHI : HI cn pq ed fh) (hd9 : dy ≤ 9999) : Met l yX10_setRate wsX10_setRate ({ frames := 1, cells := 0, slots := 0, locals := 25 }) (va_Pc [.ref w0, .int i, .int j] (Wd D cA sa [(oX10 w0 v0 v1 v2 v3 v4 g5 g6 (nI ed) g8 v9 (nI nb) g11 g12 v13 g14 g15 g16 g17 g18 g19 g20 g21 g22 g23 g24 g25 g26 v27 v28 v29 v30 v31 v32 v33 v34 v35 v36 v37 (nI ol)), (v0, .inl (cA 0, 326, .inl fs)), (v3, .inl (cA 0, 3260, .inl fh)), (v4, .inl (cA 1, 10, .inr (.inl fl)))] sz)) (va_Qi (fun (r : Int32) (_ : Unit) => True) (fun (_ : Unit) t => ∃ ed2 : Nat, ∃ e2 : Nat, ∃ zt : Int32, ∃ zs : Nat → Int32, ∃ zh : Nat → Int32, ∃ zl : Nat → Int64, ed2 ≤ 10 ∧ HI cn pq ed2 zh ∧ e2 ≤ 60 ∧ RI cn pq e2 dy zs ∧ EdM (AcRat i j) (ratR i j) ed fh fl fs g5 ed2 zh zl zs ∧ Wq D (va_A [(oX10 w0 v0 v1 v2 v3 v4 g5 g6 (nI ed) g8 v9 (nI nb) g11 g12 v13 g14 g15 g16 g17 g18 g19 g20 g21 g22 g23 g24 g25 g26 v27 v28 v29 v30 v31 v32 v33 v34 v35 v36 v37 (nI ol)), (v0, .inl (cA 0, 326, .inl fs)), (v3, .inl (cA 0, 3260, .inl fh)), (v4, .inl (cA 1, 10, .inr (.inl fl)))] sz) [(oX10 w0 v0 v1 v2 v3 v4 g5 g6 (nI ed2) zt v9 (nI nb) g11 g12 v13 g14 g15 g16 g17 g18 g19 g20 g21 g22 g23 g24 g25 g26 v27 v28 v29 v30 v31 v32 v33 v34 v35 v36 v37 (nI ol)), (v0, .inl (cA 0, 326, .inl zs)), (v3, .inl (cA 0, 3260, .inl zh)), (v4, .inl (cA 1, 10, .inr (.inl zl)))] t) (va_A [(oX10 w0 v0 v1 v2 v3 v4 g5 g6 (nI ed) g8 v9 (nI nb) g11 g12 v13 g14 g15 g16 g17 g18 g19 g20 g21 g22 g23 g24 g25 g26 v27 v28 v29 v30 v31 v32 v33 v34 v35 v36 v37 (nI ol)), (v0, .inl (cA 0, 326, .inl fs)), (v3, .inl (cA 0, 3260, .inl fh)), (v4, .inl (cA 1, 10, .inr (.inl fl)))] sz)) 0 0 (va_A [(oX10 w0 v0 v1 v2 v3 v4 g5 g6 (nI ed) g8 v9 (nI nb) g11 g12 v13 g14 g15 g16 g17 g18 g19 g20 g21 g22 g23 g24 g25 g26 v27 v28 v29 v30 v31 v32 v33 v34 v35 v36 v37 (nI ol)), (v0, .inl (cA 0, 326, .inl fs)), (v3, .inl (cA 0, 3260, .inl fh)), (v4, .inl (cA 1, 10, .inr (.inl fl)))] sz) := by
  refine Met.ofW (cc := cX10_setRate) (maxL := 4) (ret := (some .int)) (by decide) rfl ?_
  intro p e s m args below meth c s₁ B hml hv
  obtain ⟨rfl, hsz, hP, hK, hD0, hC, hZ⟩ := hv
  have hx := B.exec
  have hb := B.bytes
  have hr := B.returns
  have hts := atoms_spec (ws := wsX10_setRate) B.pre
  have hown : s.vm.findClass RX10 = some m.cls := findClass_of_methodNamed B.named
  have hlocks := B.notSynchronized
  subst hsz
  have hD := hD0.self (sz := s.heap.size)
  generalize hAe : va_A [(oX10 w0 v0 v1 v2 v3 v4 g5 g6 (nI ed) g8 v9 (nI nb) g11 g12 v13 g14 g15 g16 g17 g18 g19 g20 g21 g22 g23 g24 g25 g26 v27 v28 v29 v30 v31 v32 v33 v34 v35 v36 v37 (nI ol)), (v0, .inl (cA 0, 326, .inl fs)), (v3, .inl (cA 0, 3260, .inl fh)), (v4, .inl (cA 1, 10, .inr (.inl fl)))] s.heap.size = A at hD hZ ⊢
  have hA : ∀ q : Nat, s.heap.size ≤ q → A q := fun q h => by rw [← hAe]; exact Or.inr h
  have hS : va_S A s.heap s.heap [] := va_S.rf
  have hP : va_P D vwCl [(oX10 w0 v0 v1 v2 v3 v4 g5 g6 (nI ed) g8 v9 (nI nb) g11 g12 v13 g14 g15 g16 g17 g18 g19 g20 g21 g22 g23 g24 g25 g26 v27 v28 v29 v30 v31 v32 v33 v34 v35 v36 v37 (nI ol)), (v0, .inl (cA 0, 326, .inl fs)), (v3, .inl (cA 0, 3260, .inl fh)), (v4, .inl (cA 1, 10, .inr (.inl fl)))] s.heap := hP
  have hl := lv_entry ([.ref w0, .int i, .int j]) (n := 4) (Nat.le_of_ble_eq_true rfl)
  rw [lg_entry_eq]
  generalize (lg_sl ([.ref w0, .int i, .int j]) ++ List.replicate (4 - (lg_sl ([.ref w0, .int i, .int j])).length) Slot.unset).toArray = ls at hl ⊢
  have hl : lv_has ls 4 [(0, .ref w0), (1, .int i), (2, .int j)] := hl
  have inX10 : ∀ w ∈ u_ws RX10 TX10 39, w ∈ wsX10_setRate := by decide +kernel
  obtain ⟨rs, hrs⟩ : ∃ r : Nat → Int32, r = fs := ⟨fs, rfl⟩
  have hrs9 : Ab rs fs := by rw [hrs]; exact Ab.rf fs
  refine lv_aload_n hx hb dX10_setRate_0 rfl (lv_at hl 0 rfl) ?_
  refine lv_iload_n hx hb dX10_setRate_1 rfl (lv_at hl 1 rfl) ?_
  refine lv_i2l (v := (i.toInt64)) hx hb dX10_setRate_2 rfl ?_
  refine lv_lconst (v := 0) hx hb dX10_setRate_3 (by decide) ?_
  refine lv_ldc2 (v := 3000) hx hb hown (hts (.constantLong RX10 408 3000) (by decide +kernel)) dX10_setRate_4 ?_
  obtain ⟨hPc, hDc, hFc⟩ := PDq.cut (wc := []) hP hD hS hA [] (by decide) rfl
  refine va_calli (va_runS (As := [.long (i.toInt64), .long 0, .long 3000]) (rest := [.ref w0]) ⟨hx, hb, hml, hown, hts⟩ (e_between l D cA sa (i.toInt64) 0 3000 s.heap.size) (va_cwS 3 hts gX10_setRate_X10_between rfl rfl rfl (by decide +kernel) ⟨(Nat.le_of_ble_eq_true rfl), (Nat.le_of_ble_eq_true rfl)⟩) ⟨Wd.blind, fun U hU hW => ⟨rfl, Wd.call hPc hDc hK hC hZ hS hFc U hU hW⟩⟩ rfl rfl hl.1 rfl (lv_room (Nat.le_of_ble_eq_true rfl)) dX10_setRate_7 ⟨(Nat.le_of_ble_eq_true rfl), (Nat.le_of_ble_eq_true rfl)⟩) hS (fun q _ h => hFc q h) hFc (fun rn1 u t H1 locs ht hvm hw hB hz1 hk1 hS => ?_)
  obtain ⟨hP1, hD1⟩ := hB
  rw [ht] at hP1
  obtain ⟨hP, hD⟩ := PDq.join (w := [(oX10 w0 v0 v1 v2 v3 v4 g5 g6 (nI ed) g8 v9 (nI nb) g11 g12 v13 g14 g15 g16 g17 g18 g19 g20 g21 g22 g23 g24 g25 g26 v27 v28 v29 v30 v31 v32 v33 v34 v35 v36 v37 (nI ol)), (v0, .inl (cA 0, 326, .inl fs)), (v3, .inl (cA 0, 3260, .inl fh)), (v4, .inl (cA 1, 10, .inr (.inl fl)))]) 4 hP hD [] [0, 1, 2, 3] rfl rfl (by decide) (by decide) hk1 hFc hP1 hD1 rfl
  generalize H1 = H at hP hS ⊢
  rcases hw with ⟨hr9, hn2⟩ | ⟨hr9, hn2⟩
  · skip
    subst hr9
    refine lv_if_eq (tgt := 31) hx hb dX10_setRate_10 (by decide) (fun c9 => absurd c9 (by decide)) (fun c3 => ?_)
    refine lv_iload_n hx hb dX10_setRate_13 rfl (lv_at hl 2 rfl) ?_
    refine lv_sipush (v := 360) hx hb dX10_setRate_14 (by decide) ?_
    refine lv_icmp_eq (tgt := 27) hx hb dX10_setRate_17 (by decide) (fun c4 => ?_) (fun c4 => ?_)
    · skip
      rw [c4] at hl
      have hl : lv_has ls 4 [(0, .ref w0), (1, .int i), (2, .int 360)] := hl
      refine lv_iconst (v := 1) hx hb dX10_setRate_27 (by decide) ?_
      refine lv_goto (tgt := 32) hx hb dX10_setRate_28 (by decide) ?_
      obtain ⟨hPc, hDc, hFc⟩ := PDq.cut (wc := [(oX10 w0 v0 v1 v2 v3 v4 g5 g6 (nI ed) g8 v9 (nI nb) g11 g12 v13 g14 g15 g16 g17 g18 g19 g20 g21 g22 g23 g24 g25 g26 v27 v28 v29 v30 v31 v32 v33 v34 v35 v36 v37 (nI ol))]) hP hD hS hA [0] (by decide) rfl
      refine va_calli (va_runV (As := [.int 1]) (rest := []) ⟨hx, hb, hml, hown, hts⟩ (r_good1 l D cA sa w0 ed nb ol v0 v1 v2 v3 v4 v9 v13 v27 v28 v29 v30 v31 v32 v33 v34 v35 v36 v37 g8 g11 g12 g14 g15 g16 g17 g18 g19 g20 g21 g22 g23 g24 g26 g5 g6 g25 H.size) (cwV 1 hts gX10_setRate_X10_good rfl rfl rfl (by decide +kernel) ⟨(Nat.le_of_ble_eq_true rfl), (Nat.le_of_ble_eq_true rfl)⟩) ⟨Wd.blind, va_recv hK hPc (ci := 11) (q0 := 0) rfl rfl, fun U hU hW => ⟨rfl, Wd.call hPc hDc hK hC hZ hS hFc U hU hW⟩⟩ rfl rfl hl.1 rfl (lv_room (Nat.le_of_ble_eq_true rfl)) dX10_setRate_32 ⟨(Nat.le_of_ble_eq_true rfl), (Nat.le_of_ble_eq_true rfl)⟩) hS (fun q _ h => hFc q h) hFc (fun rn5 u t H1 locs ht hvm hw hB hz1 hk1 hS => ?_)
      obtain ⟨hP1, hD1⟩ := hB
      rw [ht] at hP1
      obtain ⟨hP, hD⟩ := PDq.join (w := [(v0, .inl (cA 0, 326, .inl fs)), (v3, .inl (cA 0, 3260, .inl fh)), (v4, .inl (cA 1, 10, .inr (.inl fl))), (oX10 w0 v0 v1 v2 v3 v4 g5 g6 (nI ed) 0 v9 (nI nb) g11 g12 v13 g14 g15 g16 g17 g18 g19 g20 g21 g22 g23 g24 g25 g26 v27 v28 v29 v30 v31 v32 v33 v34 v35 v36 v37 (nI ol))]) 3 hP hD [0] [1, 2, 3] rfl rfl (by decide) (by decide) hk1 hFc hP1 hD1 rfl
      generalize H1 = H at hP hS ⊢
      obtain rfl : rn5 = 1 := hw
      refine lv_if_ne (tgt := 40) hx hb dX10_setRate_35 (by decide) (fun c6 => ?_) (fun c9 => absurd c9 (by decide))
      refine lv_aload_n hx hb dX10_setRate_40 rfl (lv_at hl 0 rfl) ?_
      obtain ⟨hPc, hDc, hFc⟩ := PDq.cut (wc := [(oX10 w0 v0 v1 v2 v3 v4 g5 g6 (nI ed) 0 v9 (nI nb) g11 g12 v13 g14 g15 g16 g17 g18 g19 g20 g21 g22 g23 g24 g25 g26 v27 v28 v29 v30 v31 v32 v33 v34 v35 v36 v37 (nI ol)), (v0, .inl (cA 0, 326, .inl fs)), (v3, .inl (cA 0, 3260, .inl fh)), (v4, .inl (cA 1, 10, .inr (.inl fl)))]) hP hD hS hA [3, 0, 1, 2] (by decide) rfl
      refine va_callv (va_runV (As := []) (rest := []) ⟨hx, hb, hml, hown, hts⟩ (e_remember l D cA sa w0 ed nb ol v0 v1 v2 v3 v4 v9 v13 v27 v28 v29 v30 v31 v32 v33 v34 v35 v36 v37 0 g11 g12 g14 g15 g16 g17 g18 g19 g20 g21 g22 g23 g24 g26 g5 g6 g25 cn pq en dy fs fh fl H.size hcn hpq hen hdy hri hed hHI hd9) (cwV 0 hts gX10_setRate_X10_remember rfl rfl rfl (by decide +kernel) ⟨(Nat.le_of_ble_eq_true rfl), (Nat.le_of_ble_eq_true rfl)⟩) ⟨Wd.blind, va_recv hK hPc (ci := 11) (q0 := 0) rfl rfl, fun U hU hW => ⟨rfl, Wd.call hPc hDc hK hC hZ hS hFc U hU hW⟩⟩ rfl rfl hl.1 rfl (lv_room (Nat.le_of_ble_eq_true rfl)) dX10_setRate_41 ⟨(Nat.le_of_ble_eq_true rfl), (Nat.le_of_ble_eq_true rfl)⟩) hS (fun q _ h => hFc q h) hFc (fun u t H1 locs ht hvm hw hB hz1 hk1 hS => ?_)
      obtain ⟨qn7, fn8, fn9, hn10, hn11, hn12, hP1, hD1⟩ := hB
      rw [ht] at hP1
      obtain ⟨hP, hD⟩ := PDq.join (w := [(oX10 w0 v0 v1 v2 v3 v4 g5 g6 (nI qn7) 0 v9 (nI nb) g11 g12 v13 g14 g15 g16 g17 g18 g19 g20 g21 g22 g23 g24 g25 g26 v27 v28 v29 v30 v31 v32 v33 v34 v35 v36 v37 (nI ol)), (v0, .inl (cA 0, 326, .inl fs)), (v3, .inl (cA 0, 3260, .inl fn8)), (v4, .inl (cA 1, 10, .inr (.inl fn9)))]) 0 hP hD [3, 0, 1, 2] [] rfl rfl (by decide) (by decide) hk1 hFc hP1 hD1 rfl
      generalize H1 = H at hP hS ⊢
      refine lv_aload_n hx hb dX10_setRate_44 rfl (lv_at hl 0 rfl) ?_
      refine va_get (D := D) (ci := 11) (v := .ref v0) (C := RX10) (T := TX10) (N := 39) hx hb hts inX10 hown hK hP 0 rfl rfl 0 (by decide) (hts (.fieldLink RX10 7 "EscrowDeskModel" "s" "[I") (by decide +kernel)) (fun _ h9 => h9) rfl dX10_setRate_45 ?_
      refine lv_iconst (v := 0) hx hb dX10_setRate_48 (by decide) ?_
      refine va_iald hx hb hK hP 1 0 rfl rfl (vp_in_iff.mpr (by decide)) dX10_setRate_49 ?_
      refine lv_topi (fun yn13 eyn13 => ?_)
      obtain rfl : yn13 = (rs 0) := eyn13.trans ((Ab.get hrs9 (j := 0) (by omega) (by omega)).trans rfl)
      refine lv_istore_n (lv' := [(3, .int (rs 0)), (0, .ref w0), (1, .int i), (2, .int 360)]) hx hb dX10_setRate_50 rfl hl (by decide) rfl (fun ls hl => ?_)
      refine lv_aload_n hx hb dX10_setRate_51 rfl (lv_at hl 1 rfl) ?_
      refine va_get (D := D) (ci := 11) (v := .ref v0) (C := RX10) (T := TX10) (N := 39) hx hb hts inX10 hown hK hP 0 rfl rfl 0 (by decide) (hts (.fieldLink RX10 7 "EscrowDeskModel" "s" "[I") (by decide +kernel)) (fun _ h9 => h9) rfl dX10_setRate_52 ?_
      refine lv_iconst (v := 0) hx hb dX10_setRate_55 (by decide) ?_
      refine lv_iload_n hx hb dX10_setRate_56 rfl (lv_at hl 2 rfl) ?_
      refine va_iast hx hb hK hP hD hS 1 0 rfl rfl (vp_in_iff.mpr (by decide)) dX10_setRate_57 (fun H locs hP hD hS => ?_)
      obtain ⟨hP, hD⟩ : PDq D A [(oX10 w0 v0 v1 v2 v3 v4 g5 g6 (nI qn7) 0 v9 (nI nb) g11 g12 v13 g14 g15 g16 g17 g18 g19 g20 g21 g22 g23 g24 g25 g26 v27 v28 v29 v30 v31 v32 v33 v34 v35 v36 v37 (nI ol)), (v0, .inl (cA 0, 326, .inl (upd fs 0 i))), (v3, .inl (cA 0, 3260, .inl fn8)), (v4, .inl (cA 1, 10, .inr (.inl fn9)))] H := ⟨hP, hD⟩
      have hn15 : Ab (upd rs 0 i) (upd fs 0 i) := (Ab.put hrs9 0 i)
      have hn16 : RI cn pq en dy (upd fs 0 i) := RI.put hri 0 i (by decide) (by decide) (by decide) (by decide) (by decide)
      generalize (upd fs 0 i) = fn14 at hP hD hn15 hn16
      obtain ⟨hP, hD⟩ : PDq D A [(oX10 w0 v0 v1 v2 v3 v4 g5 g6 (nI qn7) 0 v9 (nI nb) g11 g12 v13 g14 g15 g16 g17 g18 g19 g20 g21 g22 g23 g24 g25 g26 v27 v28 v29 v30 v31 v32 v33 v34 v35 v36 v37 (nI ol)), (v0, .inl (cA 0, 326, .inl fn14)), (v3, .inl (cA 0, 3260, .inl fn8)), (v4, .inl (cA 1, 10, .inr (.inl fn9)))] H := ⟨hP, hD⟩
      refine lv_aload_n hx hb dX10_setRate_58 rfl (lv_at hl 1 rfl) ?_
      refine va_get (D := D) (ci := 11) (v := .ref v0) (C := RX10) (T := TX10) (N := 39) hx hb hts inX10 hown hK hP 0 rfl rfl 0 (by decide) (hts (.fieldLink RX10 7 "EscrowDeskModel" "s" "[I") (by decide +kernel)) (fun _ h9 => h9) rfl dX10_setRate_59 ?_
      refine lv_iconst (v := 1) hx hb dX10_setRate_62 (by decide) ?_
      refine lv_iload_n hx hb dX10_setRate_63 rfl (lv_at hl 3 rfl) ?_
      refine va_iast hx hb hK hP hD hS 1 0 rfl rfl (vp_in_iff.mpr (by decide)) dX10_setRate_64 (fun H locs hP hD hS => ?_)
      obtain ⟨hP, hD⟩ : PDq D A [(oX10 w0 v0 v1 v2 v3 v4 g5 g6 (nI qn7) 0 v9 (nI nb) g11 g12 v13 g14 g15 g16 g17 g18 g19 g20 g21 g22 g23 g24 g25 g26 v27 v28 v29 v30 v31 v32 v33 v34 v35 v36 v37 (nI ol)), (v0, .inl (cA 0, 326, .inl (upd fn14 1 360))), (v3, .inl (cA 0, 3260, .inl fn8)), (v4, .inl (cA 1, 10, .inr (.inl fn9)))] H := ⟨hP, hD⟩
      have hn18 : Ab (upd (upd rs 0 i) 1 360) (upd fn14 1 360) := (Ab.put hn15 1 360)
      have hn19 : RI cn pq en dy (upd fn14 1 360) := RI.bas hn16 360 (by omega) (by omega)
      generalize (upd fn14 1 360) = fn17 at hP hD hn18 hn19
      obtain ⟨hP, hD⟩ : PDq D A [(oX10 w0 v0 v1 v2 v3 v4 g5 g6 (nI qn7) 0 v9 (nI nb) g11 g12 v13 g14 g15 g16 g17 g18 g19 g20 g21 g22 g23 g24 g25 g26 v27 v28 v29 v30 v31 v32 v33 v34 v35 v36 v37 (nI ol)), (v0, .inl (cA 0, 326, .inl fn17)), (v3, .inl (cA 0, 3260, .inl fn8)), (v4, .inl (cA 1, 10, .inr (.inl fn9)))] H := ⟨hP, hD⟩
      refine lv_iload_n hx hb dX10_setRate_65 rfl (lv_at hl 0 rfl) ?_
      obtain ⟨hP9, hD9⟩ := PDq.sub (ws' := [(oX10 w0 v0 v1 v2 v3 v4 g5 g6 (nI qn7) 0 v9 (nI nb) g11 g12 v13 g14 g15 g16 g17 g18 g19 g20 g21 g22 g23 g24 g25 g26 v27 v28 v29 v30 v31 v32 v33 v34 v35 v36 v37 (nI ol)), (v0, .inl (cA 0, 326, .inl fn17)), (v3, .inl (cA 0, 3260, .inl fn8)), (v4, .inl (cA 1, 10, .inr (.inl fn9)))]) hP hD [0, 1, 2, 3] (by decide) rfl
      refine W.widen (k := 0) (n := 0) (Nat.le_of_ble_eq_true rfl) (Nat.le_of_ble_eq_true rfl) ?_
      exact (W.iret (v := (rs 0)) hx hb hr (fun t ht hW => ⟨⟨(rs 0), (), rfl, trivial, qn7, en, 0, fn17, fn8, fn9, hn10, hn11, hen, hn19, (by subst hrs; exact Or.inl ⟨⟨hn2, Or.inl c4⟩, hn12, (by rw [c4]; exact hn18)⟩), by rw [ht]; exact hP9, hD9⟩, hS.F ht⟩) hS.2.2 dX10_setRate_66)
    · skip
      refine lv_iload_n hx hb dX10_setRate_20 rfl (lv_at hl 2 rfl) ?_
      refine lv_sipush (v := 365) hx hb dX10_setRate_21 (by decide) ?_
      refine lv_icmp_ne (tgt := 31) hx hb dX10_setRate_24 (by decide) (fun c20 => ?_) (fun c20 => ?_)
      · skip
        refine lv_iconst (v := 0) hx hb dX10_setRate_31 (by decide) ?_
        obtain ⟨hPc, hDc, hFc⟩ := PDq.cut (wc := [(oX10 w0 v0 v1 v2 v3 v4 g5 g6 (nI ed) g8 v9 (nI nb) g11 g12 v13 g14 g15 g16 g17 g18 g19 g20 g21 g22 g23 g24 g25 g26 v27 v28 v29 v30 v31 v32 v33 v34 v35 v36 v37 (nI ol))]) hP hD hS hA [0] (by decide) rfl
        refine va_calli (va_runV (As := [.int 0]) (rest := []) ⟨hx, hb, hml, hown, hts⟩ (r_good0 l D cA sa w0 ed nb ol v0 v1 v2 v3 v4 v9 v13 v27 v28 v29 v30 v31 v32 v33 v34 v35 v36 v37 g8 g11 g12 g14 g15 g16 g17 g18 g19 g20 g21 g22 g23 g24 g26 g5 g6 g25 H.size) (cwV 1 hts gX10_setRate_X10_good rfl rfl rfl (by decide +kernel) ⟨(Nat.le_of_ble_eq_true rfl), (Nat.le_of_ble_eq_true rfl)⟩) ⟨Wd.blind, va_recv hK hPc (ci := 11) (q0 := 0) rfl rfl, fun U hU hW => ⟨rfl, Wd.call hPc hDc hK hC hZ hS hFc U hU hW⟩⟩ rfl rfl hl.1 rfl (lv_room (Nat.le_of_ble_eq_true rfl)) dX10_setRate_32 ⟨(Nat.le_of_ble_eq_true rfl), (Nat.le_of_ble_eq_true rfl)⟩) hS (fun q _ h => hFc q h) hFc (fun rn21 u t H1 locs ht hvm hw hB hz1 hk1 hS => ?_)
        obtain ⟨hP1, hD1⟩ := hB
        rw [ht] at hP1
        obtain ⟨hP, hD⟩ := PDq.join (w := [(v0, .inl (cA 0, 326, .inl fs)), (v3, .inl (cA 0, 3260, .inl fh)), (v4, .inl (cA 1, 10, .inr (.inl fl))), (oX10 w0 v0 v1 v2 v3 v4 g5 g6 (nI ed) 1 v9 (nI nb) g11 g12 v13 g14 g15 g16 g17 g18 g19 g20 g21 g22 g23 g24 g25 g26 v27 v28 v29 v30 v31 v32 v33 v34 v35 v36 v37 (nI ol))]) 3 hP hD [0] [1, 2, 3] rfl rfl (by decide) (by decide) hk1 hFc hP1 hD1 rfl
        generalize H1 = H at hP hS ⊢
        obtain rfl : rn21 = 0 := hw
        refine lv_if_ne (tgt := 40) hx hb dX10_setRate_35 (by decide) (fun c9 => absurd c9 (by decide)) (fun c22 => ?_)
        refine lv_iconst (v := 0) hx hb dX10_setRate_38 (by decide) ?_
        obtain ⟨hP9, hD9⟩ := PDq.sub (ws' := [(oX10 w0 v0 v1 v2 v3 v4 g5 g6 (nI ed) 1 v9 (nI nb) g11 g12 v13 g14 g15 g16 g17 g18 g19 g20 g21 g22 g23 g24 g25 g26 v27 v28 v29 v30 v31 v32 v33 v34 v35 v36 v37 (nI ol)), (v0, .inl (cA 0, 326, .inl fs)), (v3, .inl (cA 0, 3260, .inl fh)), (v4, .inl (cA 1, 10, .inr (.inl fl)))]) hP hD [3, 0, 1, 2] (by decide) rfl
        refine W.widen (k := 0) (n := 0) (Nat.le_of_ble_eq_true rfl) (Nat.le_of_ble_eq_true rfl) ?_
        exact (W.iret (v := 0) hx hb hr (fun t ht hW => ⟨⟨0, (), rfl, trivial, ed, en, 1, fs, fh, fl, hed, hHI, hen, hri, (by subst hrs; exact Or.inr ⟨(fun q9 => q9.2.elim c4 c20), rfl, rfl, rfl, rfl⟩), by rw [ht]; exact hP9, hD9⟩, hS.F ht⟩) hS.2.2 dX10_setRate_39)
      · skip
        rw [c20] at hl
        have hl : lv_has ls 4 [(0, .ref w0), (1, .int i), (2, .int 365)] := hl
        refine lv_iconst (v := 1) hx hb dX10_setRate_27 (by decide) ?_
        refine lv_goto (tgt := 32) hx hb dX10_setRate_28 (by decide) ?_
        obtain ⟨hPc, hDc, hFc⟩ := PDq.cut (wc := [(oX10 w0 v0 v1 v2 v3 v4 g5 g6 (nI ed) g8 v9 (nI nb) g11 g12 v13 g14 g15 g16 g17 g18 g19 g20 g21 g22 g23 g24 g25 g26 v27 v28 v29 v30 v31 v32 v33 v34 v35 v36 v37 (nI ol))]) hP hD hS hA [0] (by decide) rfl
        refine va_calli (va_runV (As := [.int 1]) (rest := []) ⟨hx, hb, hml, hown, hts⟩ (r_good1 l D cA sa w0 ed nb ol v0 v1 v2 v3 v4 v9 v13 v27 v28 v29 v30 v31 v32 v33 v34 v35 v36 v37 g8 g11 g12 g14 g15 g16 g17 g18 g19 g20 g21 g22 g23 g24 g26 g5 g6 g25 H.size) (cwV 1 hts gX10_setRate_X10_good rfl rfl rfl (by decide +kernel) ⟨(Nat.le_of_ble_eq_true rfl), (Nat.le_of_ble_eq_true rfl)⟩) ⟨Wd.blind, va_recv hK hPc (ci := 11) (q0 := 0) rfl rfl, fun U hU hW => ⟨rfl, Wd.call hPc hDc hK hC hZ hS hFc U hU hW⟩⟩ rfl rfl hl.1 rfl (lv_room (Nat.le_of_ble_eq_true rfl)) dX10_setRate_32 ⟨(Nat.le_of_ble_eq_true rfl), (Nat.le_of_ble_eq_true rfl)⟩) hS (fun q _ h => hFc q h) hFc (fun rn23 u t H1 locs ht hvm hw hB hz1 hk1 hS => ?_)
        obtain ⟨hP1, hD1⟩ := hB
        rw [ht] at hP1
        obtain ⟨hP, hD⟩ := PDq.join (w := [(v0, .inl (cA 0, 326, .inl fs)), (v3, .inl (cA 0, 3260, .inl fh)), (v4, .inl (cA 1, 10, .inr (.inl fl))), (oX10 w0 v0 v1 v2 v3 v4 g5 g6 (nI ed) 0 v9 (nI nb) g11 g12 v13 g14 g15 g16 g17 g18 g19 g20 g21 g22 g23 g24 g25 g26 v27 v28 v29 v30 v31 v32 v33 v34 v35 v36 v37 (nI ol))]) 3 hP hD [0] [1, 2, 3] rfl rfl (by decide) (by decide) hk1 hFc hP1 hD1 rfl
        generalize H1 = H at hP hS ⊢
        obtain rfl : rn23 = 1 := hw
        refine lv_if_ne (tgt := 40) hx hb dX10_setRate_35 (by decide) (fun c24 => ?_) (fun c9 => absurd c9 (by decide))
        refine lv_aload_n hx hb dX10_setRate_40 rfl (lv_at hl 0 rfl) ?_
        obtain ⟨hPc, hDc, hFc⟩ := PDq.cut (wc := [(oX10 w0 v0 v1 v2 v3 v4 g5 g6 (nI ed) 0 v9 (nI nb) g11 g12 v13 g14 g15 g16 g17 g18 g19 g20 g21 g22 g23 g24 g25 g26 v27 v28 v29 v30 v31 v32 v33 v34 v35 v36 v37 (nI ol)), (v0, .inl (cA 0, 326, .inl fs)), (v3, .inl (cA 0, 3260, .inl fh)), (v4, .inl (cA 1, 10, .inr (.inl fl)))]) hP hD hS hA [3, 0, 1, 2] (by decide) rfl
        refine va_callv (va_runV (As := []) (rest := []) ⟨hx, hb, hml, hown, hts⟩ (e_remember l D cA sa w0 ed nb ol v0 v1 v2 v3 v4 v9 v13 v27 v28 v29 v30 v31 v32 v33 v34 v35 v36 v37 0 g11 g12 g14 g15 g16 g17 g18 g19 g20 g21 g22 g23 g24 g26 g5 g6 g25 cn pq en dy fs fh fl H.size hcn hpq hen hdy hri hed hHI hd9) (cwV 0 hts gX10_setRate_X10_remember rfl rfl rfl (by decide +kernel) ⟨(Nat.le_of_ble_eq_true rfl), (Nat.le_of_ble_eq_true rfl)⟩) ⟨Wd.blind, va_recv hK hPc (ci := 11) (q0 := 0) rfl rfl, fun U hU hW => ⟨rfl, Wd.call hPc hDc hK hC hZ hS hFc U hU hW⟩⟩ rfl rfl hl.1 rfl (lv_room (Nat.le_of_ble_eq_true rfl)) dX10_setRate_41 ⟨(Nat.le_of_ble_eq_true rfl), (Nat.le_of_ble_eq_true rfl)⟩) hS (fun q _ h => hFc q h) hFc (fun u t H1 locs ht hvm hw hB hz1 hk1 hS => ?_)
        obtain ⟨qn25, fn26, fn27, hn28, hn29, hn30, hP1, hD1⟩ := hB
        rw [ht] at hP1
        obtain ⟨hP, hD⟩ := PDq.join (w := [(oX10 w0 v0 v1 v2 v3 v4 g5 g6 (nI qn25) 0 v9 (nI nb) g11 g12 v13 g14 g15 g16 g17 g18 g19 g20 g21 g22 g23 g24 g25 g26 v27 v28 v29 v30 v31 v32 v33 v34 v35 v36 v37 (nI ol)), (v0, .inl (cA 0, 326, .inl fs)), (v3, .inl (cA 0, 3260, .inl fn26)), (v4, .inl (cA 1, 10, .inr (.inl fn27)))]) 0 hP hD [3, 0, 1, 2] [] rfl rfl (by decide) (by decide) hk1 hFc hP1 hD1 rfl
        generalize H1 = H at hP hS ⊢
        refine lv_aload_n hx hb dX10_setRate_44 rfl (lv_at hl 0 rfl) ?_
        refine va_get (D := D) (ci := 11) (v := .ref v0) (C := RX10) (T := TX10) (N := 39) hx hb hts inX10 hown hK hP 0 rfl rfl 0 (by decide) (hts (.fieldLink RX10 7 "EscrowDeskModel" "s" "[I") (by decide +kernel)) (fun _ h9 => h9) rfl dX10_setRate_45 ?_
        refine lv_iconst (v := 0) hx hb dX10_setRate_48 (by decide) ?_
        refine va_iald hx hb hK hP 1 0 rfl rfl (vp_in_iff.mpr (by decide)) dX10_setRate_49 ?_
        refine lv_topi (fun yn31 eyn31 => ?_)
        obtain rfl : yn31 = (rs 0) := eyn31.trans ((Ab.get hrs9 (j := 0) (by omega) (by omega)).trans rfl)
        refine lv_istore_n (lv' := [(3, .int (rs 0)), (0, .ref w0), (1, .int i), (2, .int 365)]) hx hb dX10_setRate_50 rfl hl (by decide) rfl (fun ls hl => ?_)
        refine lv_aload_n hx hb dX10_setRate_51 rfl (lv_at hl 1 rfl) ?_
        refine va_get (D := D) (ci := 11) (v := .ref v0) (C := RX10) (T := TX10) (N := 39) hx hb hts inX10 hown hK hP 0 rfl rfl 0 (by decide) (hts (.fieldLink RX10 7 "EscrowDeskModel" "s" "[I") (by decide +kernel)) (fun _ h9 => h9) rfl dX10_setRate_52 ?_
        refine lv_iconst (v := 0) hx hb dX10_setRate_55 (by decide) ?_
        refine lv_iload_n hx hb dX10_setRate_56 rfl (lv_at hl 2 rfl) ?_
        refine va_iast hx hb hK hP hD hS 1 0 rfl rfl (vp_in_iff.mpr (by decide)) dX10_setRate_57 (fun H locs hP hD hS => ?_)
        obtain ⟨hP, hD⟩ : PDq D A [(oX10 w0 v0 v1 v2 v3 v4 g5 g6 (nI qn25) 0 v9 (nI nb) g11 g12 v13 g14 g15 g16 g17 g18 g19 g20 g21 g22 g23 g24 g25 g26 v27 v28 v29 v30 v31 v32 v33 v34 v35 v36 v37 (nI ol)), (v0, .inl (cA 0, 326, .inl (upd fs 0 i))), (v3, .inl (cA 0, 3260, .inl fn26)), (v4, .inl (cA 1, 10, .inr (.inl fn27)))] H := ⟨hP, hD⟩
        have hn33 : Ab (upd rs 0 i) (upd fs 0 i) := (Ab.put hrs9 0 i)
        have hn34 : RI cn pq en dy (upd fs 0 i) := RI.put hri 0 i (by decide) (by decide) (by decide) (by decide) (by decide)
        generalize (upd fs 0 i) = fn32 at hP hD hn33 hn34
        obtain ⟨hP, hD⟩ : PDq D A [(oX10 w0 v0 v1 v2 v3 v4 g5 g6 (nI qn25) 0 v9 (nI nb) g11 g12 v13 g14 g15 g16 g17 g18 g19 g20 g21 g22 g23 g24 g25 g26 v27 v28 v29 v30 v31 v32 v33 v34 v35 v36 v37 (nI ol)), (v0, .inl (cA 0, 326, .inl fn32)), (v3, .inl (cA 0, 3260, .inl fn26)), (v4, .inl (cA 1, 10, .inr (.inl fn27)))] H := ⟨hP, hD⟩
        refine lv_aload_n hx hb dX10_setRate_58 rfl (lv_at hl 1 rfl) ?_
        refine va_get (D := D) (ci := 11) (v := .ref v0) (C := RX10) (T := TX10) (N := 39) hx hb hts inX10 hown hK hP 0 rfl rfl 0 (by decide) (hts (.fieldLink RX10 7 "EscrowDeskModel" "s" "[I") (by decide +kernel)) (fun _ h9 => h9) rfl dX10_setRate_59 ?_
        refine lv_iconst (v := 1) hx hb dX10_setRate_62 (by decide) ?_
        refine lv_iload_n hx hb dX10_setRate_63 rfl (lv_at hl 3 rfl) ?_
        refine va_iast hx hb hK hP hD hS 1 0 rfl rfl (vp_in_iff.mpr (by decide)) dX10_setRate_64 (fun H locs hP hD hS => ?_)
        obtain ⟨hP, hD⟩ : PDq D A [(oX10 w0 v0 v1 v2 v3 v4 g5 g6 (nI qn25) 0 v9 (nI nb) g11 g12 v13 g14 g15 g16 g17 g18 g19 g20 g21 g22 g23 g24 g25 g26 v27 v28 v29 v30 v31 v32 v33 v34 v35 v36 v37 (nI ol)), (v0, .inl (cA 0, 326, .inl (upd fn32 1 365))), (v3, .inl (cA 0, 3260, .inl fn26)), (v4, .inl (cA 1, 10, .inr (.inl fn27)))] H := ⟨hP, hD⟩
        have hn36 : Ab (upd (upd rs 0 i) 1 365) (upd fn32 1 365) := (Ab.put hn33 1 365)
        have hn37 : RI cn pq en dy (upd fn32 1 365) := RI.bas hn34 365 (by omega) (by omega)
        generalize (upd fn32 1 365) = fn35 at hP hD hn36 hn37
        obtain ⟨hP, hD⟩ : PDq D A [(oX10 w0 v0 v1 v2 v3 v4 g5 g6 (nI qn25) 0 v9 (nI nb) g11 g12 v13 g14 g15 g16 g17 g18 g19 g20 g21 g22 g23 g24 g25 g26 v27 v28 v29 v30 v31 v32 v33 v34 v35 v36 v37 (nI ol)), (v0, .inl (cA 0, 326, .inl fn35)), (v3, .inl (cA 0, 3260, .inl fn26)), (v4, .inl (cA 1, 10, .inr (.inl fn27)))] H := ⟨hP, hD⟩
        refine lv_iload_n hx hb dX10_setRate_65 rfl (lv_at hl 0 rfl) ?_
        obtain ⟨hP9, hD9⟩ := PDq.sub (ws' := [(oX10 w0 v0 v1 v2 v3 v4 g5 g6 (nI qn25) 0 v9 (nI nb) g11 g12 v13 g14 g15 g16 g17 g18 g19 g20 g21 g22 g23 g24 g25 g26 v27 v28 v29 v30 v31 v32 v33 v34 v35 v36 v37 (nI ol)), (v0, .inl (cA 0, 326, .inl fn35)), (v3, .inl (cA 0, 3260, .inl fn26)), (v4, .inl (cA 1, 10, .inr (.inl fn27)))]) hP hD [0, 1, 2, 3] (by decide) rfl
        refine W.widen (k := 0) (n := 0) (Nat.le_of_ble_eq_true rfl) (Nat.le_of_ble_eq_true rfl) ?_
        exact (W.iret (v := (rs 0)) hx hb hr (fun t ht hW => ⟨⟨(rs 0), (), rfl, trivial, qn25, en, 0, fn35, fn26, fn27, hn28, hn29, hen, hn37, (by subst hrs; exact Or.inl ⟨⟨hn2, Or.inr c20⟩, hn30, (by rw [c20]; exact hn36)⟩), by rw [ht]; exact hP9, hD9⟩, hS.F ht⟩) hS.2.2 dX10_setRate_66)
  · skip
    subst hr9
    refine lv_if_eq (tgt := 31) hx hb dX10_setRate_10 (by decide) (fun c38 => ?_) (fun c9 => absurd c9 (by decide))
    refine lv_iconst (v := 0) hx hb dX10_setRate_31 (by decide) ?_
    obtain ⟨hPc, hDc, hFc⟩ := PDq.cut (wc := [(oX10 w0 v0 v1 v2 v3 v4 g5 g6 (nI ed) g8 v9 (nI nb) g11 g12 v13 g14 g15 g16 g17 g18 g19 g20 g21 g22 g23 g24 g25 g26 v27 v28 v29 v30 v31 v32 v33 v34 v35 v36 v37 (nI ol))]) hP hD hS hA [0] (by decide) rfl
    refine va_calli (va_runV (As := [.int 0]) (rest := []) ⟨hx, hb, hml, hown, hts⟩ (r_good0 l D cA sa w0 ed nb ol v0 v1 v2 v3 v4 v9 v13 v27 v28 v29 v30 v31 v32 v33 v34 v35 v36 v37 g8 g11 g12 g14 g15 g16 g17 g18 g19 g20 g21 g22 g23 g24 g26 g5 g6 g25 H.size) (cwV 1 hts gX10_setRate_X10_good rfl rfl rfl (by decide +kernel) ⟨(Nat.le_of_ble_eq_true rfl), (Nat.le_of_ble_eq_true rfl)⟩) ⟨Wd.blind, va_recv hK hPc (ci := 11) (q0 := 0) rfl rfl, fun U hU hW => ⟨rfl, Wd.call hPc hDc hK hC hZ hS hFc U hU hW⟩⟩ rfl rfl hl.1 rfl (lv_room (Nat.le_of_ble_eq_true rfl)) dX10_setRate_32 ⟨(Nat.le_of_ble_eq_true rfl), (Nat.le_of_ble_eq_true rfl)⟩) hS (fun q _ h => hFc q h) hFc (fun rn39 u t H1 locs ht hvm hw hB hz1 hk1 hS => ?_)
    obtain ⟨hP1, hD1⟩ := hB
    rw [ht] at hP1
    obtain ⟨hP, hD⟩ := PDq.join (w := [(v0, .inl (cA 0, 326, .inl fs)), (v3, .inl (cA 0, 3260, .inl fh)), (v4, .inl (cA 1, 10, .inr (.inl fl))), (oX10 w0 v0 v1 v2 v3 v4 g5 g6 (nI ed) 1 v9 (nI nb) g11 g12 v13 g14 g15 g16 g17 g18 g19 g20 g21 g22 g23 g24 g25 g26 v27 v28 v29 v30 v31 v32 v33 v34 v35 v36 v37 (nI ol))]) 3 hP hD [0] [1, 2, 3] rfl rfl (by decide) (by decide) hk1 hFc hP1 hD1 rfl
    generalize H1 = H at hP hS ⊢
    obtain rfl : rn39 = 0 := hw
    refine lv_if_ne (tgt := 40) hx hb dX10_setRate_35 (by decide) (fun c9 => absurd c9 (by decide)) (fun c40 => ?_)
    refine lv_iconst (v := 0) hx hb dX10_setRate_38 (by decide) ?_
    obtain ⟨hP9, hD9⟩ := PDq.sub (ws' := [(oX10 w0 v0 v1 v2 v3 v4 g5 g6 (nI ed) 1 v9 (nI nb) g11 g12 v13 g14 g15 g16 g17 g18 g19 g20 g21 g22 g23 g24 g25 g26 v27 v28 v29 v30 v31 v32 v33 v34 v35 v36 v37 (nI ol)), (v0, .inl (cA 0, 326, .inl fs)), (v3, .inl (cA 0, 3260, .inl fh)), (v4, .inl (cA 1, 10, .inr (.inl fl)))]) hP hD [3, 0, 1, 2] (by decide) rfl
    refine W.widen (k := 0) (n := 0) (Nat.le_of_ble_eq_true rfl) (Nat.le_of_ble_eq_true rfl) ?_
    exact (W.iret (v := 0) hx hb hr (fun t ht hW => ⟨⟨0, (), rfl, trivial, ed, en, 1, fs, fh, fl, hed, hHI, hen, hri, (by subst hrs; exact Or.inr ⟨(fun q9 => hn2 q9.1), rfl, rfl, rfl, rfl⟩), by rw [ht]; exact hP9, hD9⟩, hS.F ht⟩) hS.2.2 dX10_setRate_39)

set_option maxHeartbeats 4000000 in
set_option maxRecDepth 100000 in
/-- reference, exactly: submit -/
theorem e_submit (l : Launch) (D : va_G) (cA : Nat → ClassId) (sa : Nat → Nat) (w0 : Nat) (ed : Nat) (nb : Nat) (ol : Nat) (v0 : Nat) (v1 : Nat) (v2 : Nat) (v3 : Nat) (v4 : Nat) (v9 : Nat) (v13 : Nat) (v27 : Nat) (v28 : Nat) (v29 : Nat) (v30 : Nat) (v31 : Nat) (v32 : Nat) (v33 : Nat) (v34 : Nat) (v35 : Nat) (v36 : Nat) (v37 : Nat) (g8 : Int32) (g11 : Int32) (g12 : Int32) (g14 : Int32) (g15 : Int32) (g16 : Int32) (g17 : Int32) (g18 : Int32) (g19 : Int32) (g20 : Int32) (g21 : Int32) (g22 : Int32) (g23 : Int32) (g24 : Int32) (g26 : Int32) (g5 : Int64) (g6 : Int64) (g25 : Int64) (cn : Nat) (pq : Nat) (en : Nat) (dy : Nat) (fs : Nat → Int32) (fh : Nat → Int32) (fl : Nat → Int64) (i : Int32) (sz : Nat) (hcn : cn ≤ 10) (hpq : pq ≤ 8) (hen : en ≤ 60) (hdy : dy ≤ 20000) (hri : RI cn pq en dy fs) (hed : ed ≤ 10) (hHI : HI cn pq ed fh) (hd9 : dy ≤ 9999) : Met l yX10_submit wsX10_submit ({ frames := 2, cells := 0, slots := 0, locals := 46 }) (va_Pc [.ref w0, .int i] (Wd D cA sa [(oX10 w0 v0 v1 v2 v3 v4 g5 g6 (nI ed) g8 v9 (nI nb) g11 g12 v13 g14 g15 g16 g17 g18 g19 g20 g21 g22 g23 g24 g25 g26 v27 v28 v29 v30 v31 v32 v33 v34 v35 v36 v37 (nI ol)), (v0, .inl (cA 0, 326, .inl fs)), (v3, .inl (cA 0, 3260, .inl fh)), (v4, .inl (cA 1, 10, .inr (.inl fl)))] sz)) (va_Qi (fun (r : Int32) (_ : Unit) => True) (fun (_ : Unit) t => ∃ ed2 : Nat, ∃ e2 : Nat, ∃ zt : Int32, ∃ zs : Nat → Int32, ∃ zh : Nat → Int32, ∃ zl : Nat → Int64, ed2 ≤ 10 ∧ HI cn pq ed2 zh ∧ e2 ≤ 60 ∧ RI cn pq e2 dy zs ∧ EdK pq i (AcAny) (subR) ed fh fl fs g5 ed2 zh zl zs ∧ Wq D (va_A [(oX10 w0 v0 v1 v2 v3 v4 g5 g6 (nI ed) g8 v9 (nI nb) g11 g12 v13 g14 g15 g16 g17 g18 g19 g20 g21 g22 g23 g24 g25 g26 v27 v28 v29 v30 v31 v32 v33 v34 v35 v36 v37 (nI ol)), (v0, .inl (cA 0, 326, .inl fs)), (v3, .inl (cA 0, 3260, .inl fh)), (v4, .inl (cA 1, 10, .inr (.inl fl)))] sz) [(oX10 w0 v0 v1 v2 v3 v4 g5 g6 (nI ed2) zt v9 (nI nb) g11 g12 v13 g14 g15 g16 g17 g18 g19 g20 g21 g22 g23 g24 g25 g26 v27 v28 v29 v30 v31 v32 v33 v34 v35 v36 v37 (nI ol)), (v0, .inl (cA 0, 326, .inl zs)), (v3, .inl (cA 0, 3260, .inl zh)), (v4, .inl (cA 1, 10, .inr (.inl zl)))] t) (va_A [(oX10 w0 v0 v1 v2 v3 v4 g5 g6 (nI ed) g8 v9 (nI nb) g11 g12 v13 g14 g15 g16 g17 g18 g19 g20 g21 g22 g23 g24 g25 g26 v27 v28 v29 v30 v31 v32 v33 v34 v35 v36 v37 (nI ol)), (v0, .inl (cA 0, 326, .inl fs)), (v3, .inl (cA 0, 3260, .inl fh)), (v4, .inl (cA 1, 10, .inr (.inl fl)))] sz)) 0 0 (va_A [(oX10 w0 v0 v1 v2 v3 v4 g5 g6 (nI ed) g8 v9 (nI nb) g11 g12 v13 g14 g15 g16 g17 g18 g19 g20 g21 g22 g23 g24 g25 g26 v27 v28 v29 v30 v31 v32 v33 v34 v35 v36 v37 (nI ol)), (v0, .inl (cA 0, 326, .inl fs)), (v3, .inl (cA 0, 3260, .inl fh)), (v4, .inl (cA 1, 10, .inr (.inl fl)))] sz) := by
  refine Met.ofW (cc := cX10_submit) (maxL := 3) (ret := (some .boolean)) (by decide) rfl ?_
  intro p e s m args below meth c s₁ B hml hv
  obtain ⟨rfl, hsz, hP, hK, hD0, hC, hZ⟩ := hv
  have hx := B.exec
  have hb := B.bytes
  have hr := B.returns
  have hts := atoms_spec (ws := wsX10_submit) B.pre
  have hown : s.vm.findClass RX10 = some m.cls := findClass_of_methodNamed B.named
  have hlocks := B.notSynchronized
  subst hsz
  have hD := hD0.self (sz := s.heap.size)
  generalize hAe : va_A [(oX10 w0 v0 v1 v2 v3 v4 g5 g6 (nI ed) g8 v9 (nI nb) g11 g12 v13 g14 g15 g16 g17 g18 g19 g20 g21 g22 g23 g24 g25 g26 v27 v28 v29 v30 v31 v32 v33 v34 v35 v36 v37 (nI ol)), (v0, .inl (cA 0, 326, .inl fs)), (v3, .inl (cA 0, 3260, .inl fh)), (v4, .inl (cA 1, 10, .inr (.inl fl)))] s.heap.size = A at hD hZ ⊢
  have hA : ∀ q : Nat, s.heap.size ≤ q → A q := fun q h => by rw [← hAe]; exact Or.inr h
  have hS : va_S A s.heap s.heap [] := va_S.rf
  have hP : va_P D vwCl [(oX10 w0 v0 v1 v2 v3 v4 g5 g6 (nI ed) g8 v9 (nI nb) g11 g12 v13 g14 g15 g16 g17 g18 g19 g20 g21 g22 g23 g24 g25 g26 v27 v28 v29 v30 v31 v32 v33 v34 v35 v36 v37 (nI ol)), (v0, .inl (cA 0, 326, .inl fs)), (v3, .inl (cA 0, 3260, .inl fh)), (v4, .inl (cA 1, 10, .inr (.inl fl)))] s.heap := hP
  have hl := lv_entry ([.ref w0, .int i]) (n := 3) (Nat.le_of_ble_eq_true rfl)
  rw [lg_entry_eq]
  generalize (lg_sl ([.ref w0, .int i]) ++ List.replicate (3 - (lg_sl ([.ref w0, .int i])).length) Slot.unset).toArray = ls at hl ⊢
  have hl : lv_has ls 3 [(0, .ref w0), (1, .int i)] := hl
  have inX10 : ∀ w ∈ u_ws RX10 TX10 39, w ∈ wsX10_submit := by decide +kernel
  obtain ⟨rs, hrs⟩ : ∃ r : Nat → Int32, r = fs := ⟨fs, rfl⟩
  have hrs9 : Ab rs fs := by rw [hrs]; exact Ab.rf fs
  refine lv_aload_n hx hb dX10_submit_0 rfl (lv_at hl 0 rfl) ?_
  refine lv_aload_n hx hb dX10_submit_1 rfl (lv_at hl 0 rfl) ?_
  refine lv_iload_n hx hb dX10_submit_2 rfl (lv_at hl 1 rfl) ?_
  obtain ⟨hPc, hDc, hFc⟩ := PDq.cut (wc := [(oX10 w0 v0 v1 v2 v3 v4 g5 g6 (nI ed) g8 v9 (nI nb) g11 g12 v13 g14 g15 g16 g17 g18 g19 g20 g21 g22 g23 g24 g25 g26 v27 v28 v29 v30 v31 v32 v33 v34 v35 v36 v37 (nI ol)), (v0, .inl (cA 0, 326, .inl fs))]) hP hD hS hA [0, 1] (by decide) rfl
  refine va_calli (va_runV (As := [.int i]) (rest := [.ref w0]) ⟨hx, hb, hml, hown, hts⟩ (e_isProof l D cA sa w0 ed nb ol v0 v1 v2 v3 v4 v9 v13 v27 v28 v29 v30 v31 v32 v33 v34 v35 v36 v37 g8 g11 g12 g14 g15 g16 g17 g18 g19 g20 g21 g22 g23 g24 g26 g5 g6 g25 cn pq en dy fs i s.heap.size hcn hpq hen hdy hri) (cwV 1 hts gX10_submit_X10_isProof rfl rfl rfl (by decide +kernel) ⟨(Nat.le_of_ble_eq_true rfl), (Nat.le_of_ble_eq_true rfl)⟩) ⟨Wd.blind, va_recv hK hPc (ci := 11) (q0 := 0) rfl rfl, fun U hU hW => ⟨rfl, Wd.call hPc hDc hK hC hZ hS hFc U hU hW⟩⟩ rfl rfl hl.1 rfl (lv_room (Nat.le_of_ble_eq_true rfl)) dX10_submit_3 ⟨(Nat.le_of_ble_eq_true rfl), (Nat.le_of_ble_eq_true rfl)⟩) hS (fun q _ h => hFc q h) hFc (fun rn1 u t H1 locs ht hvm hw hB hz1 hk1 hS => ?_)
  obtain ⟨hP1, hD1⟩ := hB
  rw [ht] at hP1
  obtain ⟨hP, hD⟩ := PDq.join (w := [(v3, .inl (cA 0, 3260, .inl fh)), (v4, .inl (cA 1, 10, .inr (.inl fl))), (oX10 w0 v0 v1 v2 v3 v4 g5 g6 (nI ed) g8 v9 (nI nb) g11 g12 v13 g14 g15 g16 g17 g18 g19 g20 g21 g22 g23 g24 g25 g26 v27 v28 v29 v30 v31 v32 v33 v34 v35 v36 v37 (nI ol)), (v0, .inl (cA 0, 326, .inl fs))]) 2 hP hD [0, 1] [2, 3] rfl rfl (by decide) (by decide) hk1 hFc hP1 hD1 rfl
  generalize H1 = H at hP hS ⊢
  rcases hw with ⟨hr9, kn2, hn3, hn4⟩ | ⟨hr9, hn5⟩
  · skip
    subst hr9
    rw [hn4] at hl
    have hl : lv_has ls 3 [(0, .ref w0), (1, .int (nI kn2))] := hl
    obtain ⟨hPc, hDc, hFc⟩ := PDq.cut (wc := [(oX10 w0 v0 v1 v2 v3 v4 g5 g6 (nI ed) g8 v9 (nI nb) g11 g12 v13 g14 g15 g16 g17 g18 g19 g20 g21 g22 g23 g24 g25 g26 v27 v28 v29 v30 v31 v32 v33 v34 v35 v36 v37 (nI ol))]) hP hD hS hA [2] (by decide) rfl
    refine va_calli (va_runV (As := [.int 1]) (rest := []) ⟨hx, hb, hml, hown, hts⟩ (r_good1 l D cA sa w0 ed nb ol v0 v1 v2 v3 v4 v9 v13 v27 v28 v29 v30 v31 v32 v33 v34 v35 v36 v37 g8 g11 g12 g14 g15 g16 g17 g18 g19 g20 g21 g22 g23 g24 g26 g5 g6 g25 H.size) (cwV 1 hts gX10_submit_X10_good rfl rfl rfl (by decide +kernel) ⟨(Nat.le_of_ble_eq_true rfl), (Nat.le_of_ble_eq_true rfl)⟩) ⟨Wd.blind, va_recv hK hPc (ci := 11) (q0 := 0) rfl rfl, fun U hU hW => ⟨rfl, Wd.call hPc hDc hK hC hZ hS hFc U hU hW⟩⟩ rfl rfl hl.1 rfl (lv_room (Nat.le_of_ble_eq_true rfl)) dX10_submit_6 ⟨(Nat.le_of_ble_eq_true rfl), (Nat.le_of_ble_eq_true rfl)⟩) hS (fun q _ h => hFc q h) hFc (fun rn6 u t H1 locs ht hvm hw hB hz1 hk1 hS => ?_)
    obtain ⟨hP1, hD1⟩ := hB
    rw [ht] at hP1
    obtain ⟨hP, hD⟩ := PDq.join (w := [(v3, .inl (cA 0, 3260, .inl fh)), (v4, .inl (cA 1, 10, .inr (.inl fl))), (v0, .inl (cA 0, 326, .inl fs)), (oX10 w0 v0 v1 v2 v3 v4 g5 g6 (nI ed) 0 v9 (nI nb) g11 g12 v13 g14 g15 g16 g17 g18 g19 g20 g21 g22 g23 g24 g25 g26 v27 v28 v29 v30 v31 v32 v33 v34 v35 v36 v37 (nI ol))]) 3 hP hD [2] [0, 1, 3] rfl rfl (by decide) (by decide) hk1 hFc hP1 hD1 rfl
    generalize H1 = H at hP hS ⊢
    obtain rfl : rn6 = 1 := hw
    refine lv_if_ne (tgt := 14) hx hb dX10_submit_9 (by decide) (fun c7 => ?_) (fun c9 => absurd c9 (by decide))
    refine lv_aload_n hx hb dX10_submit_14 rfl (lv_at hl 0 rfl) ?_
    obtain ⟨hPc, hDc, hFc⟩ := PDq.cut (wc := [(oX10 w0 v0 v1 v2 v3 v4 g5 g6 (nI ed) 0 v9 (nI nb) g11 g12 v13 g14 g15 g16 g17 g18 g19 g20 g21 g22 g23 g24 g25 g26 v27 v28 v29 v30 v31 v32 v33 v34 v35 v36 v37 (nI ol)), (v0, .inl (cA 0, 326, .inl fs)), (v3, .inl (cA 0, 3260, .inl fh)), (v4, .inl (cA 1, 10, .inr (.inl fl)))]) hP hD hS hA [3, 2, 0, 1] (by decide) rfl
    refine va_callv (va_runV (As := []) (rest := []) ⟨hx, hb, hml, hown, hts⟩ (e_remember l D cA sa w0 ed nb ol v0 v1 v2 v3 v4 v9 v13 v27 v28 v29 v30 v31 v32 v33 v34 v35 v36 v37 0 g11 g12 g14 g15 g16 g17 g18 g19 g20 g21 g22 g23 g24 g26 g5 g6 g25 cn pq en dy fs fh fl H.size hcn hpq hen hdy hri hed hHI hd9) (cwV 0 hts gX10_submit_X10_remember rfl rfl rfl (by decide +kernel) ⟨(Nat.le_of_ble_eq_true rfl), (Nat.le_of_ble_eq_true rfl)⟩) ⟨Wd.blind, va_recv hK hPc (ci := 11) (q0 := 0) rfl rfl, fun U hU hW => ⟨rfl, Wd.call hPc hDc hK hC hZ hS hFc U hU hW⟩⟩ rfl rfl hl.1 rfl (lv_room (Nat.le_of_ble_eq_true rfl)) dX10_submit_15 ⟨(Nat.le_of_ble_eq_true rfl), (Nat.le_of_ble_eq_true rfl)⟩) hS (fun q _ h => hFc q h) hFc (fun u t H1 locs ht hvm hw hB hz1 hk1 hS => ?_)
    obtain ⟨qn8, fn9, fn10, hn11, hn12, hn13, hP1, hD1⟩ := hB
    rw [ht] at hP1
    obtain ⟨hP, hD⟩ := PDq.join (w := [(oX10 w0 v0 v1 v2 v3 v4 g5 g6 (nI qn8) 0 v9 (nI nb) g11 g12 v13 g14 g15 g16 g17 g18 g19 g20 g21 g22 g23 g24 g25 g26 v27 v28 v29 v30 v31 v32 v33 v34 v35 v36 v37 (nI ol)), (v0, .inl (cA 0, 326, .inl fs)), (v3, .inl (cA 0, 3260, .inl fn9)), (v4, .inl (cA 1, 10, .inr (.inl fn10)))]) 0 hP hD [3, 2, 0, 1] [] rfl rfl (by decide) (by decide) hk1 hFc hP1 hD1 rfl
    generalize H1 = H at hP hS ⊢
    refine lv_aload_n hx hb dX10_submit_18 rfl (lv_at hl 0 rfl) ?_
    refine va_get (D := D) (ci := 11) (v := .ref v0) (C := RX10) (T := TX10) (N := 39) hx hb hts inX10 hown hK hP 0 rfl rfl 0 (by decide) (hts (.fieldLink RX10 7 "EscrowDeskModel" "s" "[I") (by decide +kernel)) (fun _ h9 => h9) rfl dX10_submit_19 ?_
    refine lv_bipush (v := 12) hx hb dX10_submit_22 (by decide) ?_
    refine va_iald hx hb hK hP 1 0 rfl rfl (vp_in_iff.mpr (by decide)) dX10_submit_24 ?_
    refine lv_topi (fun yn14 eyn14 => ?_)
    obtain rfl : yn14 = (rs 12) := eyn14.trans ((Ab.get hrs9 (j := 12) (by omega) (by omega)).trans rfl)
    refine lv_iload_n hx hb dX10_submit_25 rfl (lv_at hl 1 rfl) ?_
    refine lv_ishr hx hb dX10_submit_26 ?_
    refine lv_topi (fun yn15 eyn15 => ?_)
    obtain rfl : yn15 = ((rs 12) >>> ((nI kn2) &&& 31)) := eyn15
    refine lv_iconst (v := 1) hx hb dX10_submit_27 (by decide) ?_
    refine lv_iand hx hb dX10_submit_28 ?_
    refine lv_topi (fun yn16 eyn16 => ?_)
    obtain rfl : yn16 = (((rs 12) >>> ((nI kn2) &&& 31)) &&& 1) := eyn16
    refine lv_if_ne (tgt := 36) hx hb dX10_submit_29 (by decide) (fun c17 => ?_) (fun c17 => ?_)
    · skip
      refine lv_iconst (v := 0) hx hb dX10_submit_36 (by decide) ?_
      refine lv_istore_n (lv' := [(2, .int 0), (0, .ref w0), (1, .int (nI kn2))]) hx hb dX10_submit_37 rfl hl (by decide) rfl (fun ls hl => ?_)
      refine lv_aload_n hx hb dX10_submit_38 rfl (lv_at hl 1 rfl) ?_
      refine va_get (D := D) (ci := 11) (v := .ref v0) (C := RX10) (T := TX10) (N := 39) hx hb hts inX10 hown hK hP 0 rfl rfl 0 (by decide) (hts (.fieldLink RX10 7 "EscrowDeskModel" "s" "[I") (by decide +kernel)) (fun _ h9 => h9) rfl dX10_submit_39 ?_
      refine lv_bipush (v := 12) hx hb dX10_submit_42 (by decide) ?_
      refine lv_dup2_11 hx hb dX10_submit_44 rfl rfl ?_
      refine va_iald hx hb hK hP 1 0 rfl rfl (vp_in_iff.mpr (by decide)) dX10_submit_45 ?_
      refine lv_topi (fun yn18 eyn18 => ?_)
      obtain rfl : yn18 = (rs 12) := eyn18.trans ((Ab.get hrs9 (j := 12) (by omega) (by omega)).trans rfl)
      refine lv_iconst (v := 1) hx hb dX10_submit_46 (by decide) ?_
      refine lv_iload_n hx hb dX10_submit_47 rfl (lv_at hl 2 rfl) ?_
      refine lv_ishl hx hb dX10_submit_48 ?_
      refine lv_topi (fun yn19 eyn19 => ?_)
      obtain rfl : yn19 = ((1 : Int32) <<< ((nI kn2) &&& 31)) := eyn19
      refine lv_ior hx hb dX10_submit_49 ?_
      refine lv_topi (fun yn20 eyn20 => ?_)
      obtain rfl : yn20 = ((rs 12) ||| ((1 : Int32) <<< ((nI kn2) &&& 31))) := eyn20
      refine va_iast hx hb hK hP hD hS 1 0 rfl rfl (vp_in_iff.mpr (by decide)) dX10_submit_50 (fun H locs hP hD hS => ?_)
      obtain ⟨hP, hD⟩ : PDq D A [(oX10 w0 v0 v1 v2 v3 v4 g5 g6 (nI qn8) 0 v9 (nI nb) g11 g12 v13 g14 g15 g16 g17 g18 g19 g20 g21 g22 g23 g24 g25 g26 v27 v28 v29 v30 v31 v32 v33 v34 v35 v36 v37 (nI ol)), (v0, .inl (cA 0, 326, .inl (upd fs 12 ((rs 12) ||| ((1 : Int32) <<< ((nI kn2) &&& 31)))))), (v3, .inl (cA 0, 3260, .inl fn9)), (v4, .inl (cA 1, 10, .inr (.inl fn10)))] H := ⟨hP, hD⟩
      have hn22 : Ab (upd rs 12 ((rs 12) ||| ((1 : Int32) <<< ((nI kn2) &&& 31)))) (upd fs 12 ((rs 12) ||| ((1 : Int32) <<< ((nI kn2) &&& 31)))) := (Ab.put hrs9 12 ((rs 12) ||| ((1 : Int32) <<< ((nI kn2) &&& 31))))
      have hn23 : RI cn pq en dy (upd fs 12 ((rs 12) ||| ((1 : Int32) <<< ((nI kn2) &&& 31)))) := RI.put hri 12 ((rs 12) ||| ((1 : Int32) <<< ((nI kn2) &&& 31))) (by decide) (by decide) (by decide) (by decide) (by decide)
      generalize (upd fs 12 ((rs 12) ||| ((1 : Int32) <<< ((nI kn2) &&& 31)))) = fn21 at hP hD hn22 hn23
      obtain ⟨hP, hD⟩ : PDq D A [(oX10 w0 v0 v1 v2 v3 v4 g5 g6 (nI qn8) 0 v9 (nI nb) g11 g12 v13 g14 g15 g16 g17 g18 g19 g20 g21 g22 g23 g24 g25 g26 v27 v28 v29 v30 v31 v32 v33 v34 v35 v36 v37 (nI ol)), (v0, .inl (cA 0, 326, .inl fn21)), (v3, .inl (cA 0, 3260, .inl fn9)), (v4, .inl (cA 1, 10, .inr (.inl fn10)))] H := ⟨hP, hD⟩
      refine lv_iload_n hx hb dX10_submit_51 rfl (lv_at hl 0 rfl) ?_
      obtain ⟨hP9, hD9⟩ := PDq.sub (ws' := [(oX10 w0 v0 v1 v2 v3 v4 g5 g6 (nI qn8) 0 v9 (nI nb) g11 g12 v13 g14 g15 g16 g17 g18 g19 g20 g21 g22 g23 g24 g25 g26 v27 v28 v29 v30 v31 v32 v33 v34 v35 v36 v37 (nI ol)), (v0, .inl (cA 0, 326, .inl fn21)), (v3, .inl (cA 0, 3260, .inl fn9)), (v4, .inl (cA 1, 10, .inr (.inl fn10)))]) hP hD [0, 1, 2, 3] (by decide) rfl
      refine W.widen (k := 0) (n := 0) (Nat.le_of_ble_eq_true rfl) (Nat.le_of_ble_eq_true rfl) ?_
      exact (W.zret (v := 0) hx hb hr (by first | rfl | decide) (fun t ht hW => ⟨⟨0, (), rfl, trivial, qn8, en, 0, fn21, fn9, fn10, hn11, hn12, hen, hn23, (by subst hrs; exact Or.inl ⟨kn2, hn3, hn4, trivial, hn13, hn22⟩), by rw [ht]; exact hP9, hD9⟩, hS.F ht⟩) hS.2.2 dX10_submit_52)
    · skip
      refine lv_iconst (v := 1) hx hb dX10_submit_32 (by decide) ?_
      refine lv_goto (tgt := 37) hx hb dX10_submit_33 (by decide) ?_
      refine lv_istore_n (lv' := [(2, .int 1), (0, .ref w0), (1, .int (nI kn2))]) hx hb dX10_submit_37 rfl hl (by decide) rfl (fun ls hl => ?_)
      refine lv_aload_n hx hb dX10_submit_38 rfl (lv_at hl 1 rfl) ?_
      refine va_get (D := D) (ci := 11) (v := .ref v0) (C := RX10) (T := TX10) (N := 39) hx hb hts inX10 hown hK hP 0 rfl rfl 0 (by decide) (hts (.fieldLink RX10 7 "EscrowDeskModel" "s" "[I") (by decide +kernel)) (fun _ h9 => h9) rfl dX10_submit_39 ?_
      refine lv_bipush (v := 12) hx hb dX10_submit_42 (by decide) ?_
      refine lv_dup2_11 hx hb dX10_submit_44 rfl rfl ?_
      refine va_iald hx hb hK hP 1 0 rfl rfl (vp_in_iff.mpr (by decide)) dX10_submit_45 ?_
      refine lv_topi (fun yn24 eyn24 => ?_)
      obtain rfl : yn24 = (rs 12) := eyn24.trans ((Ab.get hrs9 (j := 12) (by omega) (by omega)).trans rfl)
      refine lv_iconst (v := 1) hx hb dX10_submit_46 (by decide) ?_
      refine lv_iload_n hx hb dX10_submit_47 rfl (lv_at hl 2 rfl) ?_
      refine lv_ishl hx hb dX10_submit_48 ?_
      refine lv_topi (fun yn25 eyn25 => ?_)
      obtain rfl : yn25 = ((1 : Int32) <<< ((nI kn2) &&& 31)) := eyn25
      refine lv_ior hx hb dX10_submit_49 ?_
      refine lv_topi (fun yn26 eyn26 => ?_)
      obtain rfl : yn26 = ((rs 12) ||| ((1 : Int32) <<< ((nI kn2) &&& 31))) := eyn26
      refine va_iast hx hb hK hP hD hS 1 0 rfl rfl (vp_in_iff.mpr (by decide)) dX10_submit_50 (fun H locs hP hD hS => ?_)
      obtain ⟨hP, hD⟩ : PDq D A [(oX10 w0 v0 v1 v2 v3 v4 g5 g6 (nI qn8) 0 v9 (nI nb) g11 g12 v13 g14 g15 g16 g17 g18 g19 g20 g21 g22 g23 g24 g25 g26 v27 v28 v29 v30 v31 v32 v33 v34 v35 v36 v37 (nI ol)), (v0, .inl (cA 0, 326, .inl (upd fs 12 ((rs 12) ||| ((1 : Int32) <<< ((nI kn2) &&& 31)))))), (v3, .inl (cA 0, 3260, .inl fn9)), (v4, .inl (cA 1, 10, .inr (.inl fn10)))] H := ⟨hP, hD⟩
      have hn28 : Ab (upd rs 12 ((rs 12) ||| ((1 : Int32) <<< ((nI kn2) &&& 31)))) (upd fs 12 ((rs 12) ||| ((1 : Int32) <<< ((nI kn2) &&& 31)))) := (Ab.put hrs9 12 ((rs 12) ||| ((1 : Int32) <<< ((nI kn2) &&& 31))))
      have hn29 : RI cn pq en dy (upd fs 12 ((rs 12) ||| ((1 : Int32) <<< ((nI kn2) &&& 31)))) := RI.put hri 12 ((rs 12) ||| ((1 : Int32) <<< ((nI kn2) &&& 31))) (by decide) (by decide) (by decide) (by decide) (by decide)
      generalize (upd fs 12 ((rs 12) ||| ((1 : Int32) <<< ((nI kn2) &&& 31)))) = fn27 at hP hD hn28 hn29
      obtain ⟨hP, hD⟩ : PDq D A [(oX10 w0 v0 v1 v2 v3 v4 g5 g6 (nI qn8) 0 v9 (nI nb) g11 g12 v13 g14 g15 g16 g17 g18 g19 g20 g21 g22 g23 g24 g25 g26 v27 v28 v29 v30 v31 v32 v33 v34 v35 v36 v37 (nI ol)), (v0, .inl (cA 0, 326, .inl fn27)), (v3, .inl (cA 0, 3260, .inl fn9)), (v4, .inl (cA 1, 10, .inr (.inl fn10)))] H := ⟨hP, hD⟩
      refine lv_iload_n hx hb dX10_submit_51 rfl (lv_at hl 0 rfl) ?_
      obtain ⟨hP9, hD9⟩ := PDq.sub (ws' := [(oX10 w0 v0 v1 v2 v3 v4 g5 g6 (nI qn8) 0 v9 (nI nb) g11 g12 v13 g14 g15 g16 g17 g18 g19 g20 g21 g22 g23 g24 g25 g26 v27 v28 v29 v30 v31 v32 v33 v34 v35 v36 v37 (nI ol)), (v0, .inl (cA 0, 326, .inl fn27)), (v3, .inl (cA 0, 3260, .inl fn9)), (v4, .inl (cA 1, 10, .inr (.inl fn10)))]) hP hD [0, 1, 2, 3] (by decide) rfl
      refine W.widen (k := 0) (n := 0) (Nat.le_of_ble_eq_true rfl) (Nat.le_of_ble_eq_true rfl) ?_
      exact (W.zret (v := 1) hx hb hr (by first | rfl | decide) (fun t ht hW => ⟨⟨1, (), rfl, trivial, qn8, en, 0, fn27, fn9, fn10, hn11, hn12, hen, hn29, (by subst hrs; exact Or.inl ⟨kn2, hn3, hn4, trivial, hn13, hn28⟩), by rw [ht]; exact hP9, hD9⟩, hS.F ht⟩) hS.2.2 dX10_submit_52)
  · skip
    subst hr9
    obtain ⟨hPc, hDc, hFc⟩ := PDq.cut (wc := [(oX10 w0 v0 v1 v2 v3 v4 g5 g6 (nI ed) g8 v9 (nI nb) g11 g12 v13 g14 g15 g16 g17 g18 g19 g20 g21 g22 g23 g24 g25 g26 v27 v28 v29 v30 v31 v32 v33 v34 v35 v36 v37 (nI ol))]) hP hD hS hA [2] (by decide) rfl
    refine va_calli (va_runV (As := [.int 0]) (rest := []) ⟨hx, hb, hml, hown, hts⟩ (r_good0 l D cA sa w0 ed nb ol v0 v1 v2 v3 v4 v9 v13 v27 v28 v29 v30 v31 v32 v33 v34 v35 v36 v37 g8 g11 g12 g14 g15 g16 g17 g18 g19 g20 g21 g22 g23 g24 g26 g5 g6 g25 H.size) (cwV 1 hts gX10_submit_X10_good rfl rfl rfl (by decide +kernel) ⟨(Nat.le_of_ble_eq_true rfl), (Nat.le_of_ble_eq_true rfl)⟩) ⟨Wd.blind, va_recv hK hPc (ci := 11) (q0 := 0) rfl rfl, fun U hU hW => ⟨rfl, Wd.call hPc hDc hK hC hZ hS hFc U hU hW⟩⟩ rfl rfl hl.1 rfl (lv_room (Nat.le_of_ble_eq_true rfl)) dX10_submit_6 ⟨(Nat.le_of_ble_eq_true rfl), (Nat.le_of_ble_eq_true rfl)⟩) hS (fun q _ h => hFc q h) hFc (fun rn30 u t H1 locs ht hvm hw hB hz1 hk1 hS => ?_)
    obtain ⟨hP1, hD1⟩ := hB
    rw [ht] at hP1
    obtain ⟨hP, hD⟩ := PDq.join (w := [(v3, .inl (cA 0, 3260, .inl fh)), (v4, .inl (cA 1, 10, .inr (.inl fl))), (v0, .inl (cA 0, 326, .inl fs)), (oX10 w0 v0 v1 v2 v3 v4 g5 g6 (nI ed) 1 v9 (nI nb) g11 g12 v13 g14 g15 g16 g17 g18 g19 g20 g21 g22 g23 g24 g25 g26 v27 v28 v29 v30 v31 v32 v33 v34 v35 v36 v37 (nI ol))]) 3 hP hD [2] [0, 1, 3] rfl rfl (by decide) (by decide) hk1 hFc hP1 hD1 rfl
    generalize H1 = H at hP hS ⊢
    obtain rfl : rn30 = 0 := hw
    refine lv_if_ne (tgt := 14) hx hb dX10_submit_9 (by decide) (fun c9 => absurd c9 (by decide)) (fun c31 => ?_)
    refine lv_iconst (v := 0) hx hb dX10_submit_12 (by decide) ?_
    obtain ⟨hP9, hD9⟩ := PDq.sub (ws' := [(oX10 w0 v0 v1 v2 v3 v4 g5 g6 (nI ed) 1 v9 (nI nb) g11 g12 v13 g14 g15 g16 g17 g18 g19 g20 g21 g22 g23 g24 g25 g26 v27 v28 v29 v30 v31 v32 v33 v34 v35 v36 v37 (nI ol)), (v0, .inl (cA 0, 326, .inl fs)), (v3, .inl (cA 0, 3260, .inl fh)), (v4, .inl (cA 1, 10, .inr (.inl fl)))]) hP hD [3, 2, 0, 1] (by decide) rfl
    refine W.widen (k := 0) (n := 0) (Nat.le_of_ble_eq_true rfl) (Nat.le_of_ble_eq_true rfl) ?_
    exact (W.zret (v := 0) hx hb hr (by first | rfl | decide) (fun t ht hW => ⟨⟨0, (), rfl, trivial, ed, en, 1, fs, fh, fl, hed, hHI, hen, hri, (by subst hrs; exact Or.inr ⟨(fun ⟨k9, q8, q9, _⟩ => hn5 ⟨k9, q8, q9⟩), rfl, rfl, rfl, rfl⟩), by rw [ht]; exact hP9, hD9⟩, hS.F ht⟩) hS.2.2 dX10_submit_13)

set_option maxHeartbeats 4000000 in
set_option maxRecDepth 100000 in
/-- reference, exactly: approve -/
theorem e_approve (l : Launch) (D : va_G) (cA : Nat → ClassId) (sa : Nat → Nat) (w0 : Nat) (ed : Nat) (nb : Nat) (ol : Nat) (v0 : Nat) (v1 : Nat) (v2 : Nat) (v3 : Nat) (v4 : Nat) (v9 : Nat) (v13 : Nat) (v27 : Nat) (v28 : Nat) (v29 : Nat) (v30 : Nat) (v31 : Nat) (v32 : Nat) (v33 : Nat) (v34 : Nat) (v35 : Nat) (v36 : Nat) (v37 : Nat) (g8 : Int32) (g11 : Int32) (g12 : Int32) (g14 : Int32) (g15 : Int32) (g16 : Int32) (g17 : Int32) (g18 : Int32) (g19 : Int32) (g20 : Int32) (g21 : Int32) (g22 : Int32) (g23 : Int32) (g24 : Int32) (g26 : Int32) (g5 : Int64) (g6 : Int64) (g25 : Int64) (cn : Nat) (pq : Nat) (en : Nat) (dy : Nat) (fs : Nat → Int32) (fh : Nat → Int32) (fl : Nat → Int64) (fc : Nat → Int32) (fq : Nat → Int32) (fk : Nat → Int32) (cq : Nat → Nat) (i : Int32) (sz : Nat) (hcn : cn ≤ 10) (hpq : pq ≤ 8) (hen : en ≤ 60) (hdy : dy ≤ 20000) (hri : RI cn pq en dy fs) (hed : ed ≤ 10) (hHI : HI cn pq ed fh) (hd9 : dy ≤ 9999) (hCQ : CQ cn fc cq) (hcq : Elq cn cq fq) (hbit : Bit 400 fk) : Met l yX10_approve wsX10_approve ({ frames := 4, cells := 0, slots := 0, locals := 96 }) (va_Pc [.ref w0, .int i] (Wd D cA sa [(oX10 w0 v0 v1 v2 v3 v4 g5 g6 (nI ed) g8 v9 (nI nb) g11 g12 v13 g14 g15 g16 g17 g18 g19 g20 g21 g22 g23 g24 g25 g26 v27 v28 v29 v30 v31 v32 v33 v34 v35 v36 v37 (nI ol)), (v0, .inl (cA 0, 326, .inl fs)), (v3, .inl (cA 0, 3260, .inl fh)), (v4, .inl (cA 1, 10, .inr (.inl fl))), (v31, .inl (cA 0, 400, .inl fc)), (v33, .inl (cA 0, 11, .inl fq)), (v35, .inl (cA 4, 400, .inl fk))] sz)) (va_Qi (fun (r : Int32) (_ : Unit) => True) (fun (_ : Unit) t => ∃ ed2 : Nat, ∃ e2 : Nat, ∃ zt : Int32, ∃ zs : Nat → Int32, ∃ zh : Nat → Int32, ∃ zl : Nat → Int64, ∃ zk : Nat → Int32, ed2 ≤ 10 ∧ HI cn pq ed2 zh ∧ e2 ≤ 60 ∧ RI cn pq e2 dy zs ∧ EdK cn i (AcApp fs) (appR) ed fh fl fs g5 ed2 zh zl zs ∧ Bit 400 zk ∧ Wq D (va_A [(oX10 w0 v0 v1 v2 v3 v4 g5 g6 (nI ed) g8 v9 (nI nb) g11 g12 v13 g14 g15 g16 g17 g18 g19 g20 g21 g22 g23 g24 g25 g26 v27 v28 v29 v30 v31 v32 v33 v34 v35 v36 v37 (nI ol)), (v0, .inl (cA 0, 326, .inl fs)), (v3, .inl (cA 0, 3260, .inl fh)), (v4, .inl (cA 1, 10, .inr (.inl fl))), (v31, .inl (cA 0, 400, .inl fc)), (v33, .inl (cA 0, 11, .inl fq)), (v35, .inl (cA 4, 400, .inl fk))] sz) [(oX10 w0 v0 v1 v2 v3 v4 g5 g6 (nI ed2) zt v9 (nI nb) g11 g12 v13 g14 g15 g16 g17 g18 g19 g20 g21 g22 g23 g24 g25 g26 v27 v28 v29 v30 v31 v32 v33 v34 v35 v36 v37 (nI ol)), (v0, .inl (cA 0, 326, .inl zs)), (v3, .inl (cA 0, 3260, .inl zh)), (v4, .inl (cA 1, 10, .inr (.inl zl))), (v31, .inl (cA 0, 400, .inl fc)), (v33, .inl (cA 0, 11, .inl fq)), (v35, .inl (cA 4, 400, .inl zk))] t) (va_A [(oX10 w0 v0 v1 v2 v3 v4 g5 g6 (nI ed) g8 v9 (nI nb) g11 g12 v13 g14 g15 g16 g17 g18 g19 g20 g21 g22 g23 g24 g25 g26 v27 v28 v29 v30 v31 v32 v33 v34 v35 v36 v37 (nI ol)), (v0, .inl (cA 0, 326, .inl fs)), (v3, .inl (cA 0, 3260, .inl fh)), (v4, .inl (cA 1, 10, .inr (.inl fl))), (v31, .inl (cA 0, 400, .inl fc)), (v33, .inl (cA 0, 11, .inl fq)), (v35, .inl (cA 4, 400, .inl fk))] sz)) 0 0 (va_A [(oX10 w0 v0 v1 v2 v3 v4 g5 g6 (nI ed) g8 v9 (nI nb) g11 g12 v13 g14 g15 g16 g17 g18 g19 g20 g21 g22 g23 g24 g25 g26 v27 v28 v29 v30 v31 v32 v33 v34 v35 v36 v37 (nI ol)), (v0, .inl (cA 0, 326, .inl fs)), (v3, .inl (cA 0, 3260, .inl fh)), (v4, .inl (cA 1, 10, .inr (.inl fl))), (v31, .inl (cA 0, 400, .inl fc)), (v33, .inl (cA 0, 11, .inl fq)), (v35, .inl (cA 4, 400, .inl fk))] sz) := by
  refine Met.ofW (cc := cX10_approve) (maxL := 2) (ret := (some .boolean)) (by decide) rfl ?_
  intro p e s m args below meth c s₁ B hml hv
  obtain ⟨rfl, hsz, hP, hK, hD0, hC, hZ⟩ := hv
  have hx := B.exec
  have hb := B.bytes
  have hr := B.returns
  have hts := atoms_spec (ws := wsX10_approve) B.pre
  have hown : s.vm.findClass RX10 = some m.cls := findClass_of_methodNamed B.named
  have hlocks := B.notSynchronized
  subst hsz
  have hD := hD0.self (sz := s.heap.size)
  generalize hAe : va_A [(oX10 w0 v0 v1 v2 v3 v4 g5 g6 (nI ed) g8 v9 (nI nb) g11 g12 v13 g14 g15 g16 g17 g18 g19 g20 g21 g22 g23 g24 g25 g26 v27 v28 v29 v30 v31 v32 v33 v34 v35 v36 v37 (nI ol)), (v0, .inl (cA 0, 326, .inl fs)), (v3, .inl (cA 0, 3260, .inl fh)), (v4, .inl (cA 1, 10, .inr (.inl fl))), (v31, .inl (cA 0, 400, .inl fc)), (v33, .inl (cA 0, 11, .inl fq)), (v35, .inl (cA 4, 400, .inl fk))] s.heap.size = A at hD hZ ⊢
  have hA : ∀ q : Nat, s.heap.size ≤ q → A q := fun q h => by rw [← hAe]; exact Or.inr h
  have hS : va_S A s.heap s.heap [] := va_S.rf
  have hP : va_P D vwCl [(oX10 w0 v0 v1 v2 v3 v4 g5 g6 (nI ed) g8 v9 (nI nb) g11 g12 v13 g14 g15 g16 g17 g18 g19 g20 g21 g22 g23 g24 g25 g26 v27 v28 v29 v30 v31 v32 v33 v34 v35 v36 v37 (nI ol)), (v0, .inl (cA 0, 326, .inl fs)), (v3, .inl (cA 0, 3260, .inl fh)), (v4, .inl (cA 1, 10, .inr (.inl fl))), (v31, .inl (cA 0, 400, .inl fc)), (v33, .inl (cA 0, 11, .inl fq)), (v35, .inl (cA 4, 400, .inl fk))] s.heap := hP
  have hl := lv_entry ([.ref w0, .int i]) (n := 2) (Nat.le_of_ble_eq_true rfl)
  rw [lg_entry_eq]
  generalize (lg_sl ([.ref w0, .int i]) ++ List.replicate (2 - (lg_sl ([.ref w0, .int i])).length) Slot.unset).toArray = ls at hl ⊢
  have hl : lv_has ls 2 [(0, .ref w0), (1, .int i)] := hl
  obtain ⟨rs, hrs⟩ : ∃ r : Nat → Int32, r = fs := ⟨fs, rfl⟩
  have hrs9 : Ab rs fs := by rw [hrs]; exact Ab.rf fs
  refine lv_aload_n hx hb dX10_approve_0 rfl (lv_at hl 0 rfl) ?_
  refine lv_aload_n hx hb dX10_approve_1 rfl (lv_at hl 0 rfl) ?_
  refine lv_iload_n hx hb dX10_approve_2 rfl (lv_at hl 1 rfl) ?_
  obtain ⟨hPc, hDc, hFc⟩ := PDq.cut (wc := [(oX10 w0 v0 v1 v2 v3 v4 g5 g6 (nI ed) g8 v9 (nI nb) g11 g12 v13 g14 g15 g16 g17 g18 g19 g20 g21 g22 g23 g24 g25 g26 v27 v28 v29 v30 v31 v32 v33 v34 v35 v36 v37 (nI ol)), (v0, .inl (cA 0, 326, .inl fs))]) hP hD hS hA [0, 1] (by decide) rfl
  refine va_calli (va_runV (As := [.int i]) (rest := [.ref w0]) ⟨hx, hb, hml, hown, hts⟩ (e_isMilestone l D cA sa w0 ed nb ol v0 v1 v2 v3 v4 v9 v13 v27 v28 v29 v30 v31 v32 v33 v34 v35 v36 v37 g8 g11 g12 g14 g15 g16 g17 g18 g19 g20 g21 g22 g23 g24 g26 g5 g6 g25 cn pq en dy fs i s.heap.size hcn hpq hen hdy hri) (cwV 1 hts gX10_approve_X10_isMilestone rfl rfl rfl (by decide +kernel) ⟨(Nat.le_of_ble_eq_true rfl), (Nat.le_of_ble_eq_true rfl)⟩) ⟨Wd.blind, va_recv hK hPc (ci := 11) (q0 := 0) rfl rfl, fun U hU hW => ⟨rfl, Wd.call hPc hDc hK hC hZ hS hFc U hU hW⟩⟩ rfl rfl hl.1 rfl (lv_room (Nat.le_of_ble_eq_true rfl)) dX10_approve_3 ⟨(Nat.le_of_ble_eq_true rfl), (Nat.le_of_ble_eq_true rfl)⟩) hS (fun q _ h => hFc q h) hFc (fun rn1 u t H1 locs ht hvm hw hB hz1 hk1 hS => ?_)
  obtain ⟨hP1, hD1⟩ := hB
  rw [ht] at hP1
  obtain ⟨hP, hD⟩ := PDq.join (w := [(v3, .inl (cA 0, 3260, .inl fh)), (v4, .inl (cA 1, 10, .inr (.inl fl))), (v31, .inl (cA 0, 400, .inl fc)), (v33, .inl (cA 0, 11, .inl fq)), (v35, .inl (cA 4, 400, .inl fk)), (oX10 w0 v0 v1 v2 v3 v4 g5 g6 (nI ed) g8 v9 (nI nb) g11 g12 v13 g14 g15 g16 g17 g18 g19 g20 g21 g22 g23 g24 g25 g26 v27 v28 v29 v30 v31 v32 v33 v34 v35 v36 v37 (nI ol)), (v0, .inl (cA 0, 326, .inl fs))]) 5 hP hD [0, 1] [2, 3, 4, 5, 6] rfl rfl (by decide) (by decide) hk1 hFc hP1 hD1 rfl
  generalize H1 = H at hP hS ⊢
  rcases hw with ⟨hr9, kn2, hn3, hn4⟩ | ⟨hr9, hn5⟩
  · skip
    subst hr9
    rw [hn4] at hl
    have hl : lv_has ls 2 [(0, .ref w0), (1, .int (nI kn2))] := hl
    refine lv_aload_n hx hb dX10_approve_6 rfl (lv_at hl 0 rfl) ?_
    refine lv_iload_n hx hb dX10_approve_7 rfl (lv_at hl 1 rfl) ?_
    obtain ⟨hPc, hDc, hFc⟩ := PDq.cut (wc := [(oX10 w0 v0 v1 v2 v3 v4 g5 g6 (nI ed) g8 v9 (nI nb) g11 g12 v13 g14 g15 g16 g17 g18 g19 g20 g21 g22 g23 g24 g25 g26 v27 v28 v29 v30 v31 v32 v33 v34 v35 v36 v37 (nI ol)), (v0, .inl (cA 0, 326, .inl fs))]) hP hD hS hA [5, 6] (by decide) rfl
    refine va_calli (va_runV (As := [.int (nI kn2)]) (rest := [.int 1, .ref w0]) ⟨hx, hb, hml, hown, hts⟩ (e_isMilestone l D cA sa w0 ed nb ol v0 v1 v2 v3 v4 v9 v13 v27 v28 v29 v30 v31 v32 v33 v34 v35 v36 v37 g8 g11 g12 g14 g15 g16 g17 g18 g19 g20 g21 g22 g23 g24 g26 g5 g6 g25 cn pq en dy fs (nI kn2) H.size hcn hpq hen hdy hri) (cwV 1 hts gX10_approve_X10_isMilestone rfl rfl rfl (by decide +kernel) ⟨(Nat.le_of_ble_eq_true rfl), (Nat.le_of_ble_eq_true rfl)⟩) ⟨Wd.blind, va_recv hK hPc (ci := 11) (q0 := 0) rfl rfl, fun U hU hW => ⟨rfl, Wd.call hPc hDc hK hC hZ hS hFc U hU hW⟩⟩ rfl rfl hl.1 rfl (lv_room (Nat.le_of_ble_eq_true rfl)) dX10_approve_8 ⟨(Nat.le_of_ble_eq_true rfl), (Nat.le_of_ble_eq_true rfl)⟩) hS (fun q _ h => hFc q h) hFc (fun rn6 u t H1 locs ht hvm hw hB hz1 hk1 hS => ?_)
    obtain ⟨hP1, hD1⟩ := hB
    rw [ht] at hP1
    obtain ⟨hP, hD⟩ := PDq.join (w := [(v3, .inl (cA 0, 3260, .inl fh)), (v4, .inl (cA 1, 10, .inr (.inl fl))), (v31, .inl (cA 0, 400, .inl fc)), (v33, .inl (cA 0, 11, .inl fq)), (v35, .inl (cA 4, 400, .inl fk)), (oX10 w0 v0 v1 v2 v3 v4 g5 g6 (nI ed) g8 v9 (nI nb) g11 g12 v13 g14 g15 g16 g17 g18 g19 g20 g21 g22 g23 g24 g25 g26 v27 v28 v29 v30 v31 v32 v33 v34 v35 v36 v37 (nI ol)), (v0, .inl (cA 0, 326, .inl fs))]) 5 hP hD [5, 6] [0, 1, 2, 3, 4] rfl rfl (by decide) (by decide) hk1 hFc hP1 hD1 rfl
    generalize H1 = H at hP hS ⊢
    rcases hw with ⟨hr9, -⟩ | ⟨hr9, hn10⟩
    · skip
      subst hr9
      refine lv_if_eq (tgt := 26) hx hb dX10_approve_11 (by decide) (fun c9 => absurd c9 (by decide)) (fun c11 => ?_)
      refine lv_aload_n hx hb dX10_approve_14 rfl (lv_at hl 0 rfl) ?_
      refine lv_iload_n hx hb dX10_approve_15 rfl (lv_at hl 1 rfl) ?_
      obtain ⟨hPc, hDc, hFc⟩ := PDq.cut (wc := [(oX10 w0 v0 v1 v2 v3 v4 g5 g6 (nI ed) g8 v9 (nI nb) g11 g12 v13 g14 g15 g16 g17 g18 g19 g20 g21 g22 g23 g24 g25 g26 v27 v28 v29 v30 v31 v32 v33 v34 v35 v36 v37 (nI ol)), (v0, .inl (cA 0, 326, .inl fs))]) hP hD hS hA [5, 6] (by decide) rfl
      refine va_calli (va_runV (As := [.int (nI kn2)]) (rest := [.int 1, .ref w0]) ⟨hx, hb, hml, hown, hts⟩ (e_isClosed l D cA sa w0 ed nb ol v0 v1 v2 v3 v4 v9 v13 v27 v28 v29 v30 v31 v32 v33 v34 v35 v36 v37 g8 g11 g12 g14 g15 g16 g17 g18 g19 g20 g21 g22 g23 g24 g26 g5 g6 g25 rs fs kn2 H.size hrs9 (by omega)) (cwV 1 hts gX10_approve_X10_isClosed rfl rfl rfl (by decide +kernel) ⟨(Nat.le_of_ble_eq_true rfl), (Nat.le_of_ble_eq_true rfl)⟩) ⟨Wd.blind, va_recv hK hPc (ci := 11) (q0 := 0) rfl rfl, fun U hU hW => ⟨rfl, Wd.call hPc hDc hK hC hZ hS hFc U hU hW⟩⟩ rfl rfl hl.1 rfl (lv_room (Nat.le_of_ble_eq_true rfl)) dX10_approve_16 ⟨(Nat.le_of_ble_eq_true rfl), (Nat.le_of_ble_eq_true rfl)⟩) hS (fun q _ h => hFc q h) hFc (fun rn12 u t H1 locs ht hvm hw hB hz1 hk1 hS => ?_)
      obtain ⟨hP1, hD1⟩ := hB
      rw [ht] at hP1
      obtain ⟨hP, hD⟩ := PDq.join (w := [(v3, .inl (cA 0, 3260, .inl fh)), (v4, .inl (cA 1, 10, .inr (.inl fl))), (v31, .inl (cA 0, 400, .inl fc)), (v33, .inl (cA 0, 11, .inl fq)), (v35, .inl (cA 4, 400, .inl fk)), (oX10 w0 v0 v1 v2 v3 v4 g5 g6 (nI ed) g8 v9 (nI nb) g11 g12 v13 g14 g15 g16 g17 g18 g19 g20 g21 g22 g23 g24 g25 g26 v27 v28 v29 v30 v31 v32 v33 v34 v35 v36 v37 (nI ol)), (v0, .inl (cA 0, 326, .inl fs))]) 5 hP hD [5, 6] [0, 1, 2, 3, 4] rfl rfl (by decide) (by decide) hk1 hFc hP1 hD1 rfl
      generalize H1 = H at hP hS ⊢
      rcases hw with ⟨hr9, hn13⟩ | ⟨hr9, hn13⟩
      · skip
        subst hr9
        refine lv_if_ne (tgt := 26) hx hb dX10_approve_19 (by decide) (fun c14 => ?_) (fun c9 => absurd c9 (by decide))
        refine lv_iconst (v := 0) hx hb dX10_approve_26 (by decide) ?_
        obtain ⟨hPc, hDc, hFc⟩ := PDq.cut (wc := [(oX10 w0 v0 v1 v2 v3 v4 g5 g6 (nI ed) g8 v9 (nI nb) g11 g12 v13 g14 g15 g16 g17 g18 g19 g20 g21 g22 g23 g24 g25 g26 v27 v28 v29 v30 v31 v32 v33 v34 v35 v36 v37 (nI ol))]) hP hD hS hA [5] (by decide) rfl
        refine va_calli (va_runV (As := [.int 1, .int 0]) (rest := []) ⟨hx, hb, hml, hown, hts⟩ (r_good_10 l D cA sa w0 ed nb ol v0 v1 v2 v3 v4 v9 v13 v27 v28 v29 v30 v31 v32 v33 v34 v35 v36 v37 g8 g11 g12 g14 g15 g16 g17 g18 g19 g20 g21 g22 g23 g24 g26 g5 g6 g25 H.size) (cwV 2 hts gX10_approve_X10_good_ rfl rfl rfl (by decide +kernel) ⟨(Nat.le_of_ble_eq_true rfl), (Nat.le_of_ble_eq_true rfl)⟩) ⟨Wd.blind, va_recv hK hPc (ci := 11) (q0 := 0) rfl rfl, fun U hU hW => ⟨rfl, Wd.call hPc hDc hK hC hZ hS hFc U hU hW⟩⟩ rfl rfl hl.1 rfl (lv_room (Nat.le_of_ble_eq_true rfl)) dX10_approve_27 ⟨(Nat.le_of_ble_eq_true rfl), (Nat.le_of_ble_eq_true rfl)⟩) hS (fun q _ h => hFc q h) hFc (fun rn15 u t H1 locs ht hvm hw hB hz1 hk1 hS => ?_)
        obtain ⟨hP1, hD1⟩ := hB
        rw [ht] at hP1
        obtain ⟨hP, hD⟩ := PDq.join (w := [(v3, .inl (cA 0, 3260, .inl fh)), (v4, .inl (cA 1, 10, .inr (.inl fl))), (v31, .inl (cA 0, 400, .inl fc)), (v33, .inl (cA 0, 11, .inl fq)), (v35, .inl (cA 4, 400, .inl fk)), (v0, .inl (cA 0, 326, .inl fs)), (oX10 w0 v0 v1 v2 v3 v4 g5 g6 (nI ed) 2 v9 (nI nb) g11 g12 v13 g14 g15 g16 g17 g18 g19 g20 g21 g22 g23 g24 g25 g26 v27 v28 v29 v30 v31 v32 v33 v34 v35 v36 v37 (nI ol))]) 6 hP hD [5] [0, 1, 2, 3, 4, 6] rfl rfl (by decide) (by decide) hk1 hFc hP1 hD1 rfl
        generalize H1 = H at hP hS ⊢
        obtain rfl : rn15 = 0 := hw
        refine lv_if_ne (tgt := 35) hx hb dX10_approve_30 (by decide) (fun c9 => absurd c9 (by decide)) (fun c16 => ?_)
        refine lv_iconst (v := 0) hx hb dX10_approve_33 (by decide) ?_
        obtain ⟨hP9, hD9⟩ := PDq.sub (ws' := [(oX10 w0 v0 v1 v2 v3 v4 g5 g6 (nI ed) 2 v9 (nI nb) g11 g12 v13 g14 g15 g16 g17 g18 g19 g20 g21 g22 g23 g24 g25 g26 v27 v28 v29 v30 v31 v32 v33 v34 v35 v36 v37 (nI ol)), (v0, .inl (cA 0, 326, .inl fs)), (v3, .inl (cA 0, 3260, .inl fh)), (v4, .inl (cA 1, 10, .inr (.inl fl))), (v31, .inl (cA 0, 400, .inl fc)), (v33, .inl (cA 0, 11, .inl fq)), (v35, .inl (cA 4, 400, .inl fk))]) hP hD [6, 5, 0, 1, 2, 3, 4] (by decide) rfl
        refine W.widen (k := 0) (n := 0) (Nat.le_of_ble_eq_true rfl) (Nat.le_of_ble_eq_true rfl) ?_
        exact (W.zret (v := 0) hx hb hr (by first | rfl | decide) (fun t ht hW => ⟨⟨0, (), rfl, trivial, ed, en, 2, fs, fh, fl, fk, hed, hHI, hen, hri, (by subst hrs; exact Or.inr ⟨(fun ⟨k9, q8, q9, q7⟩ => by have q6 := nI_ij (hn4.symm.trans q9) (by omega) (by omega); subst q6; exact q7 hn13), rfl, rfl, rfl, rfl⟩), hbit, by rw [ht]; exact hP9, hD9⟩, hS.F ht⟩) hS.2.2 dX10_approve_34)
      · skip
        subst hr9
        refine lv_if_ne (tgt := 26) hx hb dX10_approve_19 (by decide) (fun c9 => absurd c9 (by decide)) (fun c17 => ?_)
        refine lv_iconst (v := 1) hx hb dX10_approve_22 (by decide) ?_
        refine lv_goto (tgt := 27) hx hb dX10_approve_23 (by decide) ?_
        obtain ⟨hPc, hDc, hFc⟩ := PDq.cut (wc := [(oX10 w0 v0 v1 v2 v3 v4 g5 g6 (nI ed) g8 v9 (nI nb) g11 g12 v13 g14 g15 g16 g17 g18 g19 g20 g21 g22 g23 g24 g25 g26 v27 v28 v29 v30 v31 v32 v33 v34 v35 v36 v37 (nI ol))]) hP hD hS hA [5] (by decide) rfl
        refine va_calli (va_runV (As := [.int 1, .int 1]) (rest := []) ⟨hx, hb, hml, hown, hts⟩ (r_good_11 l D cA sa w0 ed nb ol v0 v1 v2 v3 v4 v9 v13 v27 v28 v29 v30 v31 v32 v33 v34 v35 v36 v37 g8 g11 g12 g14 g15 g16 g17 g18 g19 g20 g21 g22 g23 g24 g26 g5 g6 g25 H.size) (cwV 2 hts gX10_approve_X10_good_ rfl rfl rfl (by decide +kernel) ⟨(Nat.le_of_ble_eq_true rfl), (Nat.le_of_ble_eq_true rfl)⟩) ⟨Wd.blind, va_recv hK hPc (ci := 11) (q0 := 0) rfl rfl, fun U hU hW => ⟨rfl, Wd.call hPc hDc hK hC hZ hS hFc U hU hW⟩⟩ rfl rfl hl.1 rfl (lv_room (Nat.le_of_ble_eq_true rfl)) dX10_approve_27 ⟨(Nat.le_of_ble_eq_true rfl), (Nat.le_of_ble_eq_true rfl)⟩) hS (fun q _ h => hFc q h) hFc (fun rn18 u t H1 locs ht hvm hw hB hz1 hk1 hS => ?_)
        obtain ⟨hP1, hD1⟩ := hB
        rw [ht] at hP1
        obtain ⟨hP, hD⟩ := PDq.join (w := [(v3, .inl (cA 0, 3260, .inl fh)), (v4, .inl (cA 1, 10, .inr (.inl fl))), (v31, .inl (cA 0, 400, .inl fc)), (v33, .inl (cA 0, 11, .inl fq)), (v35, .inl (cA 4, 400, .inl fk)), (v0, .inl (cA 0, 326, .inl fs)), (oX10 w0 v0 v1 v2 v3 v4 g5 g6 (nI ed) 0 v9 (nI nb) g11 g12 v13 g14 g15 g16 g17 g18 g19 g20 g21 g22 g23 g24 g25 g26 v27 v28 v29 v30 v31 v32 v33 v34 v35 v36 v37 (nI ol))]) 6 hP hD [5] [0, 1, 2, 3, 4, 6] rfl rfl (by decide) (by decide) hk1 hFc hP1 hD1 rfl
        generalize H1 = H at hP hS ⊢
        obtain rfl : rn18 = 1 := hw
        refine lv_if_ne (tgt := 35) hx hb dX10_approve_30 (by decide) (fun c19 => ?_) (fun c9 => absurd c9 (by decide))
        refine lv_aload_n hx hb dX10_approve_35 rfl (lv_at hl 0 rfl) ?_
        obtain ⟨hPc, hDc, hFc⟩ := PDq.cut (wc := [(oX10 w0 v0 v1 v2 v3 v4 g5 g6 (nI ed) 0 v9 (nI nb) g11 g12 v13 g14 g15 g16 g17 g18 g19 g20 g21 g22 g23 g24 g25 g26 v27 v28 v29 v30 v31 v32 v33 v34 v35 v36 v37 (nI ol)), (v0, .inl (cA 0, 326, .inl fs)), (v3, .inl (cA 0, 3260, .inl fh)), (v4, .inl (cA 1, 10, .inr (.inl fl)))]) hP hD hS hA [6, 5, 0, 1] (by decide) rfl
        refine va_callv (va_runV (As := []) (rest := []) ⟨hx, hb, hml, hown, hts⟩ (e_remember l D cA sa w0 ed nb ol v0 v1 v2 v3 v4 v9 v13 v27 v28 v29 v30 v31 v32 v33 v34 v35 v36 v37 0 g11 g12 g14 g15 g16 g17 g18 g19 g20 g21 g22 g23 g24 g26 g5 g6 g25 cn pq en dy fs fh fl H.size hcn hpq hen hdy hri hed hHI hd9) (cwV 0 hts gX10_approve_X10_remember rfl rfl rfl (by decide +kernel) ⟨(Nat.le_of_ble_eq_true rfl), (Nat.le_of_ble_eq_true rfl)⟩) ⟨Wd.blind, va_recv hK hPc (ci := 11) (q0 := 0) rfl rfl, fun U hU hW => ⟨rfl, Wd.call hPc hDc hK hC hZ hS hFc U hU hW⟩⟩ rfl rfl hl.1 rfl (lv_room (Nat.le_of_ble_eq_true rfl)) dX10_approve_36 ⟨(Nat.le_of_ble_eq_true rfl), (Nat.le_of_ble_eq_true rfl)⟩) hS (fun q _ h => hFc q h) hFc (fun u t H1 locs ht hvm hw hB hz1 hk1 hS => ?_)
        obtain ⟨qn20, fn21, fn22, hn23, hn24, hn25, hP1, hD1⟩ := hB
        rw [ht] at hP1
        obtain ⟨hP, hD⟩ := PDq.join (w := [(v31, .inl (cA 0, 400, .inl fc)), (v33, .inl (cA 0, 11, .inl fq)), (v35, .inl (cA 4, 400, .inl fk)), (oX10 w0 v0 v1 v2 v3 v4 g5 g6 (nI qn20) 0 v9 (nI nb) g11 g12 v13 g14 g15 g16 g17 g18 g19 g20 g21 g22 g23 g24 g25 g26 v27 v28 v29 v30 v31 v32 v33 v34 v35 v36 v37 (nI ol)), (v0, .inl (cA 0, 326, .inl fs)), (v3, .inl (cA 0, 3260, .inl fn21)), (v4, .inl (cA 1, 10, .inr (.inl fn22)))]) 3 hP hD [6, 5, 0, 1] [2, 3, 4] rfl rfl (by decide) (by decide) hk1 hFc hP1 hD1 rfl
        generalize H1 = H at hP hS ⊢
        refine lv_aload_n hx hb dX10_approve_39 rfl (lv_at hl 0 rfl) ?_
        refine lv_iload_n hx hb dX10_approve_40 rfl (lv_at hl 1 rfl) ?_
        refine lv_iconst (v := 5) hx hb dX10_approve_41 (by decide) ?_
        refine lv_iconst (v := 1) hx hb dX10_approve_42 (by decide) ?_
        obtain ⟨hPc, hDc, hFc⟩ := PDq.cut (wc := [(oX10 w0 v0 v1 v2 v3 v4 g5 g6 (nI qn20) 0 v9 (nI nb) g11 g12 v13 g14 g15 g16 g17 g18 g19 g20 g21 g22 g23 g24 g25 g26 v27 v28 v29 v30 v31 v32 v33 v34 v35 v36 v37 (nI ol)), (v0, .inl (cA 0, 326, .inl fs))]) hP hD hS hA [3, 4] (by decide) rfl
        refine va_callv (va_runV (As := [.int (nI kn2), .int 5, .int 1]) (rest := []) ⟨hx, hb, hml, hown, hts⟩ (e_set l D cA sa w0 qn20 nb ol v0 v1 v2 v3 v4 v9 v13 v27 v28 v29 v30 v31 v32 v33 v34 v35 v36 v37 0 g11 g12 g14 g15 g16 g17 g18 g19 g20 g21 g22 g23 g24 g26 g5 g6 g25 cn pq en dy fs rs kn2 5 1 H.size hrs9 hcn hpq hen hdy hri (by omega) (by omega)) (cwV 3 hts gX10_approve_X10_set rfl rfl rfl (by decide +kernel) ⟨(Nat.le_of_ble_eq_true rfl), (Nat.le_of_ble_eq_true rfl)⟩) ⟨Wd.blind, va_recv hK hPc (ci := 11) (q0 := 0) rfl rfl, fun U hU hW => ⟨rfl, Wd.call hPc hDc hK hC hZ hS hFc U hU hW⟩⟩ rfl rfl hl.1 rfl (lv_room (Nat.le_of_ble_eq_true rfl)) dX10_approve_43 ⟨(Nat.le_of_ble_eq_true rfl), (Nat.le_of_ble_eq_true rfl)⟩) hS (fun q _ h => hFc q h) hFc (fun u t H1 locs ht hvm hw hB hz1 hk1 hS => ?_)
        obtain ⟨fn26, hn27, hn28, hP1, hD1⟩ := hB
        rw [ht] at hP1
        obtain ⟨hP, hD⟩ := PDq.join (w := [(v31, .inl (cA 0, 400, .inl fc)), (v33, .inl (cA 0, 11, .inl fq)), (v35, .inl (cA 4, 400, .inl fk)), (v3, .inl (cA 0, 3260, .inl fn21)), (v4, .inl (cA 1, 10, .inr (.inl fn22))), (oX10 w0 v0 v1 v2 v3 v4 g5 g6 (nI qn20) 0 v9 (nI nb) g11 g12 v13 g14 g15 g16 g17 g18 g19 g20 g21 g22 g23 g24 g25 g26 v27 v28 v29 v30 v31 v32 v33 v34 v35 v36 v37 (nI ol)), (v0, .inl (cA 0, 326, .inl fn26))]) 5 hP hD [3, 4] [0, 1, 2, 5, 6] rfl rfl (by decide) (by decide) hk1 hFc hP1 hD1 rfl
        generalize H1 = H at hP hS ⊢
        refine lv_aload_n hx hb dX10_approve_46 rfl (lv_at hl 0 rfl) ?_
        refine lv_iload_n hx hb dX10_approve_47 rfl (lv_at hl 1 rfl) ?_
        obtain ⟨hPc, hDc, hFc⟩ := PDq.cut (wc := [(oX10 w0 v0 v1 v2 v3 v4 g5 g6 (nI qn20) 0 v9 (nI nb) g11 g12 v13 g14 g15 g16 g17 g18 g19 g20 g21 g22 g23 g24 g25 g26 v27 v28 v29 v30 v31 v32 v33 v34 v35 v36 v37 (nI ol)), (v0, .inl (cA 0, 326, .inl fn26)), (v31, .inl (cA 0, 400, .inl fc)), (v33, .inl (cA 0, 11, .inl fq)), (v35, .inl (cA 4, 400, .inl fk))]) hP hD hS hA [5, 6, 0, 1, 2] (by decide) rfl
        refine va_calli (va_runV (As := [.int (nI kn2)]) (rest := []) ⟨hx, hb, hml, hown, hts⟩ (e_holdsNow l D cA sa w0 qn20 nb ol v0 v1 v2 v3 v4 v9 v13 v27 v28 v29 v30 v31 v32 v33 v34 v35 v36 v37 0 g11 g12 g14 g15 g16 g17 g18 g19 g20 g21 g22 g23 g24 g26 g5 g6 g25 cn pq en dy fn26 fc fq fk (upd rs (16 + 7 * kn2 + 5) 1) cq kn2 H.size hn28 hcn hpq hen hdy hn27 hCQ hcq hbit hn3) (cwV 1 hts gX10_approve_X10_holdsNow rfl rfl rfl (by decide +kernel) ⟨(Nat.le_of_ble_eq_true rfl), (Nat.le_of_ble_eq_true rfl)⟩) ⟨Wd.blind, va_recv hK hPc (ci := 11) (q0 := 0) rfl rfl, fun U hU hW => ⟨rfl, Wd.call hPc hDc hK hC hZ hS hFc U hU hW⟩⟩ rfl rfl hl.1 rfl (lv_room (Nat.le_of_ble_eq_true rfl)) dX10_approve_48 ⟨(Nat.le_of_ble_eq_true rfl), (Nat.le_of_ble_eq_true rfl)⟩) hS (fun q _ h => hFc q h) hFc (fun rn29 u t H1 locs ht hvm hw hB hz1 hk1 hS => ?_)
        obtain ⟨fn30, hn31, hP1, hD1⟩ := hB
        rw [ht] at hP1
        obtain ⟨hP, hD⟩ := PDq.join (w := [(v3, .inl (cA 0, 3260, .inl fn21)), (v4, .inl (cA 1, 10, .inr (.inl fn22))), (oX10 w0 v0 v1 v2 v3 v4 g5 g6 (nI qn20) 0 v9 (nI nb) g11 g12 v13 g14 g15 g16 g17 g18 g19 g20 g21 g22 g23 g24 g25 g26 v27 v28 v29 v30 v31 v32 v33 v34 v35 v36 v37 (nI ol)), (v0, .inl (cA 0, 326, .inl fn26)), (v31, .inl (cA 0, 400, .inl fc)), (v33, .inl (cA 0, 11, .inl fq)), (v35, .inl (cA 4, 400, .inl fn30))]) 2 hP hD [5, 6, 0, 1, 2] [3, 4] rfl rfl (by decide) (by decide) hk1 hFc hP1 hD1 rfl
        generalize H1 = H at hP hS ⊢
        rcases hw with ⟨hr9, hn32⟩ | ⟨hr9, hn32⟩
        · skip
          subst hr9
          obtain ⟨hP9, hD9⟩ := PDq.sub (ws' := [(oX10 w0 v0 v1 v2 v3 v4 g5 g6 (nI qn20) 0 v9 (nI nb) g11 g12 v13 g14 g15 g16 g17 g18 g19 g20 g21 g22 g23 g24 g25 g26 v27 v28 v29 v30 v31 v32 v33 v34 v35 v36 v37 (nI ol)), (v0, .inl (cA 0, 326, .inl fn26)), (v3, .inl (cA 0, 3260, .inl fn21)), (v4, .inl (cA 1, 10, .inr (.inl fn22))), (v31, .inl (cA 0, 400, .inl fc)), (v33, .inl (cA 0, 11, .inl fq)), (v35, .inl (cA 4, 400, .inl fn30))]) hP hD [2, 3, 0, 1, 4, 5, 6] (by decide) rfl
          refine W.widen (k := 0) (n := 0) (Nat.le_of_ble_eq_true rfl) (Nat.le_of_ble_eq_true rfl) ?_
          exact (W.zret (v := 1) hx hb hr (by first | rfl | decide) (fun t ht hW => ⟨⟨1, (), rfl, trivial, qn20, en, 0, fn26, fn21, fn22, fn30, hn23, hn24, hen, hn27, (by subst hrs; exact Or.inl ⟨kn2, hn3, hn4, hn13, hn25, hn28⟩), hn31, by rw [ht]; exact hP9, hD9⟩, hS.F ht⟩) hS.2.2 dX10_approve_51)
        · skip
          subst hr9
          obtain ⟨hP9, hD9⟩ := PDq.sub (ws' := [(oX10 w0 v0 v1 v2 v3 v4 g5 g6 (nI qn20) 0 v9 (nI nb) g11 g12 v13 g14 g15 g16 g17 g18 g19 g20 g21 g22 g23 g24 g25 g26 v27 v28 v29 v30 v31 v32 v33 v34 v35 v36 v37 (nI ol)), (v0, .inl (cA 0, 326, .inl fn26)), (v3, .inl (cA 0, 3260, .inl fn21)), (v4, .inl (cA 1, 10, .inr (.inl fn22))), (v31, .inl (cA 0, 400, .inl fc)), (v33, .inl (cA 0, 11, .inl fq)), (v35, .inl (cA 4, 400, .inl fn30))]) hP hD [2, 3, 0, 1, 4, 5, 6] (by decide) rfl
          refine W.widen (k := 0) (n := 0) (Nat.le_of_ble_eq_true rfl) (Nat.le_of_ble_eq_true rfl) ?_
          exact (W.zret (v := 0) hx hb hr (by first | rfl | decide) (fun t ht hW => ⟨⟨0, (), rfl, trivial, qn20, en, 0, fn26, fn21, fn22, fn30, hn23, hn24, hen, hn27, (by subst hrs; exact Or.inl ⟨kn2, hn3, hn4, hn13, hn25, hn28⟩), hn31, by rw [ht]; exact hP9, hD9⟩, hS.F ht⟩) hS.2.2 dX10_approve_51)
    · skip
      exact absurd ⟨kn2, by omega, rfl⟩ hn10
  · skip
    subst hr9
    refine lv_aload_n hx hb dX10_approve_6 rfl (lv_at hl 0 rfl) ?_
    refine lv_iload_n hx hb dX10_approve_7 rfl (lv_at hl 1 rfl) ?_
    obtain ⟨hPc, hDc, hFc⟩ := PDq.cut (wc := [(oX10 w0 v0 v1 v2 v3 v4 g5 g6 (nI ed) g8 v9 (nI nb) g11 g12 v13 g14 g15 g16 g17 g18 g19 g20 g21 g22 g23 g24 g25 g26 v27 v28 v29 v30 v31 v32 v33 v34 v35 v36 v37 (nI ol)), (v0, .inl (cA 0, 326, .inl fs))]) hP hD hS hA [5, 6] (by decide) rfl
    refine va_calli (va_runV (As := [.int i]) (rest := [.int 0, .ref w0]) ⟨hx, hb, hml, hown, hts⟩ (e_isMilestone l D cA sa w0 ed nb ol v0 v1 v2 v3 v4 v9 v13 v27 v28 v29 v30 v31 v32 v33 v34 v35 v36 v37 g8 g11 g12 g14 g15 g16 g17 g18 g19 g20 g21 g22 g23 g24 g26 g5 g6 g25 cn pq en dy fs i H.size hcn hpq hen hdy hri) (cwV 1 hts gX10_approve_X10_isMilestone rfl rfl rfl (by decide +kernel) ⟨(Nat.le_of_ble_eq_true rfl), (Nat.le_of_ble_eq_true rfl)⟩) ⟨Wd.blind, va_recv hK hPc (ci := 11) (q0 := 0) rfl rfl, fun U hU hW => ⟨rfl, Wd.call hPc hDc hK hC hZ hS hFc U hU hW⟩⟩ rfl rfl hl.1 rfl (lv_room (Nat.le_of_ble_eq_true rfl)) dX10_approve_8 ⟨(Nat.le_of_ble_eq_true rfl), (Nat.le_of_ble_eq_true rfl)⟩) hS (fun q _ h => hFc q h) hFc (fun rn33 u t H1 locs ht hvm hw hB hz1 hk1 hS => ?_)
    obtain ⟨hP1, hD1⟩ := hB
    rw [ht] at hP1
    obtain ⟨hP, hD⟩ := PDq.join (w := [(v3, .inl (cA 0, 3260, .inl fh)), (v4, .inl (cA 1, 10, .inr (.inl fl))), (v31, .inl (cA 0, 400, .inl fc)), (v33, .inl (cA 0, 11, .inl fq)), (v35, .inl (cA 4, 400, .inl fk)), (oX10 w0 v0 v1 v2 v3 v4 g5 g6 (nI ed) g8 v9 (nI nb) g11 g12 v13 g14 g15 g16 g17 g18 g19 g20 g21 g22 g23 g24 g25 g26 v27 v28 v29 v30 v31 v32 v33 v34 v35 v36 v37 (nI ol)), (v0, .inl (cA 0, 326, .inl fs))]) 5 hP hD [5, 6] [0, 1, 2, 3, 4] rfl rfl (by decide) (by decide) hk1 hFc hP1 hD1 rfl
    generalize H1 = H at hP hS ⊢
    rcases hw with ⟨hr9, kn34, hn35, hn36⟩ | ⟨hr9, hn37⟩
    · skip
      subst hr9
      rw [hn36] at hl
      have hl : lv_has ls 2 [(0, .ref w0), (1, .int (nI kn34))] := hl
      refine lv_if_eq (tgt := 26) hx hb dX10_approve_11 (by decide) (fun c9 => absurd c9 (by decide)) (fun c38 => ?_)
      refine lv_aload_n hx hb dX10_approve_14 rfl (lv_at hl 0 rfl) ?_
      refine lv_iload_n hx hb dX10_approve_15 rfl (lv_at hl 1 rfl) ?_
      obtain ⟨hPc, hDc, hFc⟩ := PDq.cut (wc := [(oX10 w0 v0 v1 v2 v3 v4 g5 g6 (nI ed) g8 v9 (nI nb) g11 g12 v13 g14 g15 g16 g17 g18 g19 g20 g21 g22 g23 g24 g25 g26 v27 v28 v29 v30 v31 v32 v33 v34 v35 v36 v37 (nI ol)), (v0, .inl (cA 0, 326, .inl fs))]) hP hD hS hA [5, 6] (by decide) rfl
      refine va_calli (va_runV (As := [.int (nI kn34)]) (rest := [.int 0, .ref w0]) ⟨hx, hb, hml, hown, hts⟩ (e_isClosed l D cA sa w0 ed nb ol v0 v1 v2 v3 v4 v9 v13 v27 v28 v29 v30 v31 v32 v33 v34 v35 v36 v37 g8 g11 g12 g14 g15 g16 g17 g18 g19 g20 g21 g22 g23 g24 g26 g5 g6 g25 rs fs kn34 H.size hrs9 (by omega)) (cwV 1 hts gX10_approve_X10_isClosed rfl rfl rfl (by decide +kernel) ⟨(Nat.le_of_ble_eq_true rfl), (Nat.le_of_ble_eq_true rfl)⟩) ⟨Wd.blind, va_recv hK hPc (ci := 11) (q0 := 0) rfl rfl, fun U hU hW => ⟨rfl, Wd.call hPc hDc hK hC hZ hS hFc U hU hW⟩⟩ rfl rfl hl.1 rfl (lv_room (Nat.le_of_ble_eq_true rfl)) dX10_approve_16 ⟨(Nat.le_of_ble_eq_true rfl), (Nat.le_of_ble_eq_true rfl)⟩) hS (fun q _ h => hFc q h) hFc (fun rn39 u t H1 locs ht hvm hw hB hz1 hk1 hS => ?_)
      obtain ⟨hP1, hD1⟩ := hB
      rw [ht] at hP1
      obtain ⟨hP, hD⟩ := PDq.join (w := [(v3, .inl (cA 0, 3260, .inl fh)), (v4, .inl (cA 1, 10, .inr (.inl fl))), (v31, .inl (cA 0, 400, .inl fc)), (v33, .inl (cA 0, 11, .inl fq)), (v35, .inl (cA 4, 400, .inl fk)), (oX10 w0 v0 v1 v2 v3 v4 g5 g6 (nI ed) g8 v9 (nI nb) g11 g12 v13 g14 g15 g16 g17 g18 g19 g20 g21 g22 g23 g24 g25 g26 v27 v28 v29 v30 v31 v32 v33 v34 v35 v36 v37 (nI ol)), (v0, .inl (cA 0, 326, .inl fs))]) 5 hP hD [5, 6] [0, 1, 2, 3, 4] rfl rfl (by decide) (by decide) hk1 hFc hP1 hD1 rfl
      generalize H1 = H at hP hS ⊢
      rcases hw with ⟨hr9, hn40⟩ | ⟨hr9, hn40⟩
      · skip
        subst hr9
        refine lv_if_ne (tgt := 26) hx hb dX10_approve_19 (by decide) (fun c41 => ?_) (fun c9 => absurd c9 (by decide))
        refine lv_iconst (v := 0) hx hb dX10_approve_26 (by decide) ?_
        obtain ⟨hPc, hDc, hFc⟩ := PDq.cut (wc := [(oX10 w0 v0 v1 v2 v3 v4 g5 g6 (nI ed) g8 v9 (nI nb) g11 g12 v13 g14 g15 g16 g17 g18 g19 g20 g21 g22 g23 g24 g25 g26 v27 v28 v29 v30 v31 v32 v33 v34 v35 v36 v37 (nI ol))]) hP hD hS hA [5] (by decide) rfl
        refine va_calli (va_runV (As := [.int 0, .int 0]) (rest := []) ⟨hx, hb, hml, hown, hts⟩ (r_good_00 l D cA sa w0 ed nb ol v0 v1 v2 v3 v4 v9 v13 v27 v28 v29 v30 v31 v32 v33 v34 v35 v36 v37 g8 g11 g12 g14 g15 g16 g17 g18 g19 g20 g21 g22 g23 g24 g26 g5 g6 g25 H.size) (cwV 2 hts gX10_approve_X10_good_ rfl rfl rfl (by decide +kernel) ⟨(Nat.le_of_ble_eq_true rfl), (Nat.le_of_ble_eq_true rfl)⟩) ⟨Wd.blind, va_recv hK hPc (ci := 11) (q0 := 0) rfl rfl, fun U hU hW => ⟨rfl, Wd.call hPc hDc hK hC hZ hS hFc U hU hW⟩⟩ rfl rfl hl.1 rfl (lv_room (Nat.le_of_ble_eq_true rfl)) dX10_approve_27 ⟨(Nat.le_of_ble_eq_true rfl), (Nat.le_of_ble_eq_true rfl)⟩) hS (fun q _ h => hFc q h) hFc (fun rn42 u t H1 locs ht hvm hw hB hz1 hk1 hS => ?_)
        obtain ⟨hP1, hD1⟩ := hB
        rw [ht] at hP1
        obtain ⟨hP, hD⟩ := PDq.join (w := [(v3, .inl (cA 0, 3260, .inl fh)), (v4, .inl (cA 1, 10, .inr (.inl fl))), (v31, .inl (cA 0, 400, .inl fc)), (v33, .inl (cA 0, 11, .inl fq)), (v35, .inl (cA 4, 400, .inl fk)), (v0, .inl (cA 0, 326, .inl fs)), (oX10 w0 v0 v1 v2 v3 v4 g5 g6 (nI ed) 1 v9 (nI nb) g11 g12 v13 g14 g15 g16 g17 g18 g19 g20 g21 g22 g23 g24 g25 g26 v27 v28 v29 v30 v31 v32 v33 v34 v35 v36 v37 (nI ol))]) 6 hP hD [5] [0, 1, 2, 3, 4, 6] rfl rfl (by decide) (by decide) hk1 hFc hP1 hD1 rfl
        generalize H1 = H at hP hS ⊢
        obtain rfl : rn42 = 0 := hw
        refine lv_if_ne (tgt := 35) hx hb dX10_approve_30 (by decide) (fun c9 => absurd c9 (by decide)) (fun c43 => ?_)
        refine lv_iconst (v := 0) hx hb dX10_approve_33 (by decide) ?_
        obtain ⟨hP9, hD9⟩ := PDq.sub (ws' := [(oX10 w0 v0 v1 v2 v3 v4 g5 g6 (nI ed) 1 v9 (nI nb) g11 g12 v13 g14 g15 g16 g17 g18 g19 g20 g21 g22 g23 g24 g25 g26 v27 v28 v29 v30 v31 v32 v33 v34 v35 v36 v37 (nI ol)), (v0, .inl (cA 0, 326, .inl fs)), (v3, .inl (cA 0, 3260, .inl fh)), (v4, .inl (cA 1, 10, .inr (.inl fl))), (v31, .inl (cA 0, 400, .inl fc)), (v33, .inl (cA 0, 11, .inl fq)), (v35, .inl (cA 4, 400, .inl fk))]) hP hD [6, 5, 0, 1, 2, 3, 4] (by decide) rfl
        refine W.widen (k := 0) (n := 0) (Nat.le_of_ble_eq_true rfl) (Nat.le_of_ble_eq_true rfl) ?_
        exact (W.zret (v := 0) hx hb hr (by first | rfl | decide) (fun t ht hW => ⟨⟨0, (), rfl, trivial, ed, en, 1, fs, fh, fl, fk, hed, hHI, hen, hri, (by subst hrs; exact Or.inr ⟨(fun ⟨k9, q8, q9, _⟩ => hn5 ⟨k9, q8, q9⟩), rfl, rfl, rfl, rfl⟩), hbit, by rw [ht]; exact hP9, hD9⟩, hS.F ht⟩) hS.2.2 dX10_approve_34)
      · skip
        subst hr9
        refine lv_if_ne (tgt := 26) hx hb dX10_approve_19 (by decide) (fun c9 => absurd c9 (by decide)) (fun c44 => ?_)
        refine lv_iconst (v := 1) hx hb dX10_approve_22 (by decide) ?_
        refine lv_goto (tgt := 27) hx hb dX10_approve_23 (by decide) ?_
        obtain ⟨hPc, hDc, hFc⟩ := PDq.cut (wc := [(oX10 w0 v0 v1 v2 v3 v4 g5 g6 (nI ed) g8 v9 (nI nb) g11 g12 v13 g14 g15 g16 g17 g18 g19 g20 g21 g22 g23 g24 g25 g26 v27 v28 v29 v30 v31 v32 v33 v34 v35 v36 v37 (nI ol))]) hP hD hS hA [5] (by decide) rfl
        refine va_calli (va_runV (As := [.int 0, .int 1]) (rest := []) ⟨hx, hb, hml, hown, hts⟩ (r_good_01 l D cA sa w0 ed nb ol v0 v1 v2 v3 v4 v9 v13 v27 v28 v29 v30 v31 v32 v33 v34 v35 v36 v37 g8 g11 g12 g14 g15 g16 g17 g18 g19 g20 g21 g22 g23 g24 g26 g5 g6 g25 H.size) (cwV 2 hts gX10_approve_X10_good_ rfl rfl rfl (by decide +kernel) ⟨(Nat.le_of_ble_eq_true rfl), (Nat.le_of_ble_eq_true rfl)⟩) ⟨Wd.blind, va_recv hK hPc (ci := 11) (q0 := 0) rfl rfl, fun U hU hW => ⟨rfl, Wd.call hPc hDc hK hC hZ hS hFc U hU hW⟩⟩ rfl rfl hl.1 rfl (lv_room (Nat.le_of_ble_eq_true rfl)) dX10_approve_27 ⟨(Nat.le_of_ble_eq_true rfl), (Nat.le_of_ble_eq_true rfl)⟩) hS (fun q _ h => hFc q h) hFc (fun rn45 u t H1 locs ht hvm hw hB hz1 hk1 hS => ?_)
        obtain ⟨hP1, hD1⟩ := hB
        rw [ht] at hP1
        obtain ⟨hP, hD⟩ := PDq.join (w := [(v3, .inl (cA 0, 3260, .inl fh)), (v4, .inl (cA 1, 10, .inr (.inl fl))), (v31, .inl (cA 0, 400, .inl fc)), (v33, .inl (cA 0, 11, .inl fq)), (v35, .inl (cA 4, 400, .inl fk)), (v0, .inl (cA 0, 326, .inl fs)), (oX10 w0 v0 v1 v2 v3 v4 g5 g6 (nI ed) 1 v9 (nI nb) g11 g12 v13 g14 g15 g16 g17 g18 g19 g20 g21 g22 g23 g24 g25 g26 v27 v28 v29 v30 v31 v32 v33 v34 v35 v36 v37 (nI ol))]) 6 hP hD [5] [0, 1, 2, 3, 4, 6] rfl rfl (by decide) (by decide) hk1 hFc hP1 hD1 rfl
        generalize H1 = H at hP hS ⊢
        obtain rfl : rn45 = 0 := hw
        refine lv_if_ne (tgt := 35) hx hb dX10_approve_30 (by decide) (fun c9 => absurd c9 (by decide)) (fun c46 => ?_)
        refine lv_iconst (v := 0) hx hb dX10_approve_33 (by decide) ?_
        obtain ⟨hP9, hD9⟩ := PDq.sub (ws' := [(oX10 w0 v0 v1 v2 v3 v4 g5 g6 (nI ed) 1 v9 (nI nb) g11 g12 v13 g14 g15 g16 g17 g18 g19 g20 g21 g22 g23 g24 g25 g26 v27 v28 v29 v30 v31 v32 v33 v34 v35 v36 v37 (nI ol)), (v0, .inl (cA 0, 326, .inl fs)), (v3, .inl (cA 0, 3260, .inl fh)), (v4, .inl (cA 1, 10, .inr (.inl fl))), (v31, .inl (cA 0, 400, .inl fc)), (v33, .inl (cA 0, 11, .inl fq)), (v35, .inl (cA 4, 400, .inl fk))]) hP hD [6, 5, 0, 1, 2, 3, 4] (by decide) rfl
        refine W.widen (k := 0) (n := 0) (Nat.le_of_ble_eq_true rfl) (Nat.le_of_ble_eq_true rfl) ?_
        exact (W.zret (v := 0) hx hb hr (by first | rfl | decide) (fun t ht hW => ⟨⟨0, (), rfl, trivial, ed, en, 1, fs, fh, fl, fk, hed, hHI, hen, hri, (by subst hrs; exact Or.inr ⟨(fun ⟨k9, q8, q9, _⟩ => hn5 ⟨k9, q8, q9⟩), rfl, rfl, rfl, rfl⟩), hbit, by rw [ht]; exact hP9, hD9⟩, hS.F ht⟩) hS.2.2 dX10_approve_34)
    · skip
      subst hr9
      refine lv_if_eq (tgt := 26) hx hb dX10_approve_11 (by decide) (fun c47 => ?_) (fun c9 => absurd c9 (by decide))
      refine lv_iconst (v := 0) hx hb dX10_approve_26 (by decide) ?_
      obtain ⟨hPc, hDc, hFc⟩ := PDq.cut (wc := [(oX10 w0 v0 v1 v2 v3 v4 g5 g6 (nI ed) g8 v9 (nI nb) g11 g12 v13 g14 g15 g16 g17 g18 g19 g20 g21 g22 g23 g24 g25 g26 v27 v28 v29 v30 v31 v32 v33 v34 v35 v36 v37 (nI ol))]) hP hD hS hA [5] (by decide) rfl
      refine va_calli (va_runV (As := [.int 0, .int 0]) (rest := []) ⟨hx, hb, hml, hown, hts⟩ (r_good_00 l D cA sa w0 ed nb ol v0 v1 v2 v3 v4 v9 v13 v27 v28 v29 v30 v31 v32 v33 v34 v35 v36 v37 g8 g11 g12 g14 g15 g16 g17 g18 g19 g20 g21 g22 g23 g24 g26 g5 g6 g25 H.size) (cwV 2 hts gX10_approve_X10_good_ rfl rfl rfl (by decide +kernel) ⟨(Nat.le_of_ble_eq_true rfl), (Nat.le_of_ble_eq_true rfl)⟩) ⟨Wd.blind, va_recv hK hPc (ci := 11) (q0 := 0) rfl rfl, fun U hU hW => ⟨rfl, Wd.call hPc hDc hK hC hZ hS hFc U hU hW⟩⟩ rfl rfl hl.1 rfl (lv_room (Nat.le_of_ble_eq_true rfl)) dX10_approve_27 ⟨(Nat.le_of_ble_eq_true rfl), (Nat.le_of_ble_eq_true rfl)⟩) hS (fun q _ h => hFc q h) hFc (fun rn48 u t H1 locs ht hvm hw hB hz1 hk1 hS => ?_)
      obtain ⟨hP1, hD1⟩ := hB
      rw [ht] at hP1
      obtain ⟨hP, hD⟩ := PDq.join (w := [(v3, .inl (cA 0, 3260, .inl fh)), (v4, .inl (cA 1, 10, .inr (.inl fl))), (v31, .inl (cA 0, 400, .inl fc)), (v33, .inl (cA 0, 11, .inl fq)), (v35, .inl (cA 4, 400, .inl fk)), (v0, .inl (cA 0, 326, .inl fs)), (oX10 w0 v0 v1 v2 v3 v4 g5 g6 (nI ed) 1 v9 (nI nb) g11 g12 v13 g14 g15 g16 g17 g18 g19 g20 g21 g22 g23 g24 g25 g26 v27 v28 v29 v30 v31 v32 v33 v34 v35 v36 v37 (nI ol))]) 6 hP hD [5] [0, 1, 2, 3, 4, 6] rfl rfl (by decide) (by decide) hk1 hFc hP1 hD1 rfl
      generalize H1 = H at hP hS ⊢
      obtain rfl : rn48 = 0 := hw
      refine lv_if_ne (tgt := 35) hx hb dX10_approve_30 (by decide) (fun c9 => absurd c9 (by decide)) (fun c49 => ?_)
      refine lv_iconst (v := 0) hx hb dX10_approve_33 (by decide) ?_
      obtain ⟨hP9, hD9⟩ := PDq.sub (ws' := [(oX10 w0 v0 v1 v2 v3 v4 g5 g6 (nI ed) 1 v9 (nI nb) g11 g12 v13 g14 g15 g16 g17 g18 g19 g20 g21 g22 g23 g24 g25 g26 v27 v28 v29 v30 v31 v32 v33 v34 v35 v36 v37 (nI ol)), (v0, .inl (cA 0, 326, .inl fs)), (v3, .inl (cA 0, 3260, .inl fh)), (v4, .inl (cA 1, 10, .inr (.inl fl))), (v31, .inl (cA 0, 400, .inl fc)), (v33, .inl (cA 0, 11, .inl fq)), (v35, .inl (cA 4, 400, .inl fk))]) hP hD [6, 5, 0, 1, 2, 3, 4] (by decide) rfl
      refine W.widen (k := 0) (n := 0) (Nat.le_of_ble_eq_true rfl) (Nat.le_of_ble_eq_true rfl) ?_
      exact (W.zret (v := 0) hx hb hr (by first | rfl | decide) (fun t ht hW => ⟨⟨0, (), rfl, trivial, ed, en, 1, fs, fh, fl, fk, hed, hHI, hen, hri, (by subst hrs; exact Or.inr ⟨(fun ⟨k9, q8, q9, _⟩ => hn37 ⟨k9, q8, q9⟩), rfl, rfl, rfl, rfl⟩), hbit, by rw [ht]; exact hP9, hD9⟩, hS.F ht⟩) hS.2.2 dX10_approve_34)

set_option maxHeartbeats 4000000 in
set_option maxRecDepth 100000 in
/-- reference, exactly: dispute -/
theorem e_dispute (l : Launch) (D : va_G) (cA : Nat → ClassId) (sa : Nat → Nat) (w0 : Nat) (ed : Nat) (nb : Nat) (ol : Nat) (v0 : Nat) (v1 : Nat) (v2 : Nat) (v3 : Nat) (v4 : Nat) (v9 : Nat) (v13 : Nat) (v27 : Nat) (v28 : Nat) (v29 : Nat) (v30 : Nat) (v31 : Nat) (v32 : Nat) (v33 : Nat) (v34 : Nat) (v35 : Nat) (v36 : Nat) (v37 : Nat) (g8 : Int32) (g11 : Int32) (g12 : Int32) (g14 : Int32) (g15 : Int32) (g16 : Int32) (g17 : Int32) (g18 : Int32) (g19 : Int32) (g20 : Int32) (g21 : Int32) (g22 : Int32) (g23 : Int32) (g24 : Int32) (g26 : Int32) (g5 : Int64) (g6 : Int64) (g25 : Int64) (cn : Nat) (pq : Nat) (en : Nat) (dy : Nat) (fs : Nat → Int32) (fh : Nat → Int32) (fl : Nat → Int64) (i : Int32) (sz : Nat) (hcn : cn ≤ 10) (hpq : pq ≤ 8) (hen : en ≤ 60) (hdy : dy ≤ 20000) (hri : RI cn pq en dy fs) (hed : ed ≤ 10) (hHI : HI cn pq ed fh) (hd9 : dy ≤ 9999) : Met l yX10_dispute wsX10_dispute ({ frames := 3, cells := 0, slots := 0, locals := 64 }) (va_Pc [.ref w0, .int i] (Wd D cA sa [(oX10 w0 v0 v1 v2 v3 v4 g5 g6 (nI ed) g8 v9 (nI nb) g11 g12 v13 g14 g15 g16 g17 g18 g19 g20 g21 g22 g23 g24 g25 g26 v27 v28 v29 v30 v31 v32 v33 v34 v35 v36 v37 (nI ol)), (v0, .inl (cA 0, 326, .inl fs)), (v3, .inl (cA 0, 3260, .inl fh)), (v4, .inl (cA 1, 10, .inr (.inl fl)))] sz)) (va_Qi (fun (r : Int32) (_ : Unit) => True) (fun (_ : Unit) t => ∃ ed2 : Nat, ∃ e2 : Nat, ∃ zt : Int32, ∃ zs : Nat → Int32, ∃ zh : Nat → Int32, ∃ zl : Nat → Int64, ed2 ≤ 10 ∧ HI cn pq ed2 zh ∧ e2 ≤ 60 ∧ RI cn pq e2 dy zs ∧ EdK cn i (AcOpn fs) (disR cn) ed fh fl fs g5 ed2 zh zl zs ∧ Wq D (va_A [(oX10 w0 v0 v1 v2 v3 v4 g5 g6 (nI ed) g8 v9 (nI nb) g11 g12 v13 g14 g15 g16 g17 g18 g19 g20 g21 g22 g23 g24 g25 g26 v27 v28 v29 v30 v31 v32 v33 v34 v35 v36 v37 (nI ol)), (v0, .inl (cA 0, 326, .inl fs)), (v3, .inl (cA 0, 3260, .inl fh)), (v4, .inl (cA 1, 10, .inr (.inl fl)))] sz) [(oX10 w0 v0 v1 v2 v3 v4 g5 g6 (nI ed2) zt v9 (nI nb) g11 g12 v13 g14 g15 g16 g17 g18 g19 g20 g21 g22 g23 g24 g25 g26 v27 v28 v29 v30 v31 v32 v33 v34 v35 v36 v37 (nI ol)), (v0, .inl (cA 0, 326, .inl zs)), (v3, .inl (cA 0, 3260, .inl zh)), (v4, .inl (cA 1, 10, .inr (.inl zl)))] t) (va_A [(oX10 w0 v0 v1 v2 v3 v4 g5 g6 (nI ed) g8 v9 (nI nb) g11 g12 v13 g14 g15 g16 g17 g18 g19 g20 g21 g22 g23 g24 g25 g26 v27 v28 v29 v30 v31 v32 v33 v34 v35 v36 v37 (nI ol)), (v0, .inl (cA 0, 326, .inl fs)), (v3, .inl (cA 0, 3260, .inl fh)), (v4, .inl (cA 1, 10, .inr (.inl fl)))] sz)) 0 0 (va_A [(oX10 w0 v0 v1 v2 v3 v4 g5 g6 (nI ed) g8 v9 (nI nb) g11 g12 v13 g14 g15 g16 g17 g18 g19 g20 g21 g22 g23 g24 g25 g26 v27 v28 v29 v30 v31 v32 v33 v34 v35 v36 v37 (nI ol)), (v0, .inl (cA 0, 326, .inl fs)), (v3, .inl (cA 0, 3260, .inl fh)), (v4, .inl (cA 1, 10, .inr (.inl fl)))] sz) := by
  refine Met.ofW (cc := cX10_dispute) (maxL := 4) (ret := (some .int)) (by decide) rfl ?_
  intro p e s m args below meth c s₁ B hml hv
  obtain ⟨rfl, hsz, hP, hK, hD0, hC, hZ⟩ := hv
  have hx := B.exec
  have hb := B.bytes
  have hr := B.returns
  have hts := atoms_spec (ws := wsX10_dispute) B.pre
  have hown : s.vm.findClass RX10 = some m.cls := findClass_of_methodNamed B.named
  have hlocks := B.notSynchronized
  subst hsz
  have hD := hD0.self (sz := s.heap.size)
  generalize hAe : va_A [(oX10 w0 v0 v1 v2 v3 v4 g5 g6 (nI ed) g8 v9 (nI nb) g11 g12 v13 g14 g15 g16 g17 g18 g19 g20 g21 g22 g23 g24 g25 g26 v27 v28 v29 v30 v31 v32 v33 v34 v35 v36 v37 (nI ol)), (v0, .inl (cA 0, 326, .inl fs)), (v3, .inl (cA 0, 3260, .inl fh)), (v4, .inl (cA 1, 10, .inr (.inl fl)))] s.heap.size = A at hD hZ ⊢
  have hA : ∀ q : Nat, s.heap.size ≤ q → A q := fun q h => by rw [← hAe]; exact Or.inr h
  have hS : va_S A s.heap s.heap [] := va_S.rf
  have hP : va_P D vwCl [(oX10 w0 v0 v1 v2 v3 v4 g5 g6 (nI ed) g8 v9 (nI nb) g11 g12 v13 g14 g15 g16 g17 g18 g19 g20 g21 g22 g23 g24 g25 g26 v27 v28 v29 v30 v31 v32 v33 v34 v35 v36 v37 (nI ol)), (v0, .inl (cA 0, 326, .inl fs)), (v3, .inl (cA 0, 3260, .inl fh)), (v4, .inl (cA 1, 10, .inr (.inl fl)))] s.heap := hP
  have hl := lv_entry ([.ref w0, .int i]) (n := 4) (Nat.le_of_ble_eq_true rfl)
  rw [lg_entry_eq]
  generalize (lg_sl ([.ref w0, .int i]) ++ List.replicate (4 - (lg_sl ([.ref w0, .int i])).length) Slot.unset).toArray = ls at hl ⊢
  have hl : lv_has ls 4 [(0, .ref w0), (1, .int i)] := hl
  obtain ⟨rs, hrs⟩ : ∃ r : Nat → Int32, r = fs := ⟨fs, rfl⟩
  have hrs9 : Ab rs fs := by rw [hrs]; exact Ab.rf fs
  refine lv_aload_n hx hb dX10_dispute_0 rfl (lv_at hl 0 rfl) ?_
  refine lv_iload_n hx hb dX10_dispute_1 rfl (lv_at hl 1 rfl) ?_
  obtain ⟨hPc, hDc, hFc⟩ := PDq.cut (wc := [(oX10 w0 v0 v1 v2 v3 v4 g5 g6 (nI ed) g8 v9 (nI nb) g11 g12 v13 g14 g15 g16 g17 g18 g19 g20 g21 g22 g23 g24 g25 g26 v27 v28 v29 v30 v31 v32 v33 v34 v35 v36 v37 (nI ol)), (v0, .inl (cA 0, 326, .inl fs))]) hP hD hS hA [0, 1] (by decide) rfl
  refine va_calli (va_runV (As := [.int i]) (rest := []) ⟨hx, hb, hml, hown, hts⟩ (e_isMilestone l D cA sa w0 ed nb ol v0 v1 v2 v3 v4 v9 v13 v27 v28 v29 v30 v31 v32 v33 v34 v35 v36 v37 g8 g11 g12 g14 g15 g16 g17 g18 g19 g20 g21 g22 g23 g24 g26 g5 g6 g25 cn pq en dy fs i s.heap.size hcn hpq hen hdy hri) (cwV 1 hts gX10_dispute_X10_isMilestone rfl rfl rfl (by decide +kernel) ⟨(Nat.le_of_ble_eq_true rfl), (Nat.le_of_ble_eq_true rfl)⟩) ⟨Wd.blind, va_recv hK hPc (ci := 11) (q0 := 0) rfl rfl, fun U hU hW => ⟨rfl, Wd.call hPc hDc hK hC hZ hS hFc U hU hW⟩⟩ rfl rfl hl.1 rfl (lv_room (Nat.le_of_ble_eq_true rfl)) dX10_dispute_2 ⟨(Nat.le_of_ble_eq_true rfl), (Nat.le_of_ble_eq_true rfl)⟩) hS (fun q _ h => hFc q h) hFc (fun rn1 u t H1 locs ht hvm hw hB hz1 hk1 hS => ?_)
  obtain ⟨hP1, hD1⟩ := hB
  rw [ht] at hP1
  obtain ⟨hP, hD⟩ := PDq.join (w := [(v3, .inl (cA 0, 3260, .inl fh)), (v4, .inl (cA 1, 10, .inr (.inl fl))), (oX10 w0 v0 v1 v2 v3 v4 g5 g6 (nI ed) g8 v9 (nI nb) g11 g12 v13 g14 g15 g16 g17 g18 g19 g20 g21 g22 g23 g24 g25 g26 v27 v28 v29 v30 v31 v32 v33 v34 v35 v36 v37 (nI ol)), (v0, .inl (cA 0, 326, .inl fs))]) 2 hP hD [0, 1] [2, 3] rfl rfl (by decide) (by decide) hk1 hFc hP1 hD1 rfl
  generalize H1 = H at hP hS ⊢
  rcases hw with ⟨hr9, kn2, hn3, hn4⟩ | ⟨hr9, hn5⟩
  · skip
    subst hr9
    rw [hn4] at hl
    have hl : lv_has ls 4 [(0, .ref w0), (1, .int (nI kn2))] := hl
    refine lv_istore_n (lv' := [(2, .int 1), (0, .ref w0), (1, .int (nI kn2))]) hx hb dX10_dispute_5 rfl hl (by decide) rfl (fun ls hl => ?_)
    refine lv_aload_n hx hb dX10_dispute_6 rfl (lv_at hl 1 rfl) ?_
    refine lv_iload_n hx hb dX10_dispute_7 rfl (lv_at hl 0 rfl) ?_
    refine lv_iload_n hx hb dX10_dispute_8 rfl (lv_at hl 0 rfl) ?_
    refine lv_if_eq (tgt := 24) hx hb dX10_dispute_9 (by decide) (fun c9 => absurd c9 (by decide)) (fun c6 => ?_)
    refine lv_aload_n hx hb dX10_dispute_12 rfl (lv_at hl 1 rfl) ?_
    refine lv_iload_n hx hb dX10_dispute_13 rfl (lv_at hl 2 rfl) ?_
    obtain ⟨hPc, hDc, hFc⟩ := PDq.cut (wc := [(oX10 w0 v0 v1 v2 v3 v4 g5 g6 (nI ed) g8 v9 (nI nb) g11 g12 v13 g14 g15 g16 g17 g18 g19 g20 g21 g22 g23 g24 g25 g26 v27 v28 v29 v30 v31 v32 v33 v34 v35 v36 v37 (nI ol)), (v0, .inl (cA 0, 326, .inl fs))]) hP hD hS hA [2, 3] (by decide) rfl
    refine va_calli (va_runV (As := [.int (nI kn2)]) (rest := [.int 1, .ref w0]) ⟨hx, hb, hml, hown, hts⟩ (e_isOpenOrDue l D cA sa w0 ed nb ol v0 v1 v2 v3 v4 v9 v13 v27 v28 v29 v30 v31 v32 v33 v34 v35 v36 v37 g8 g11 g12 g14 g15 g16 g17 g18 g19 g20 g21 g22 g23 g24 g26 g5 g6 g25 rs fs kn2 H.size hrs9 (by omega)) (cwV 1 hts gX10_dispute_X10_isOpenOrDue rfl rfl rfl (by decide +kernel) ⟨(Nat.le_of_ble_eq_true rfl), (Nat.le_of_ble_eq_true rfl)⟩) ⟨Wd.blind, va_recv hK hPc (ci := 11) (q0 := 0) rfl rfl, fun U hU hW => ⟨rfl, Wd.call hPc hDc hK hC hZ hS hFc U hU hW⟩⟩ rfl rfl hl.1 rfl (lv_room (Nat.le_of_ble_eq_true rfl)) dX10_dispute_14 ⟨(Nat.le_of_ble_eq_true rfl), (Nat.le_of_ble_eq_true rfl)⟩) hS (fun q _ h => hFc q h) hFc (fun rn7 u t H1 locs ht hvm hw hB hz1 hk1 hS => ?_)
    obtain ⟨hP1, hD1⟩ := hB
    rw [ht] at hP1
    obtain ⟨hP, hD⟩ := PDq.join (w := [(v3, .inl (cA 0, 3260, .inl fh)), (v4, .inl (cA 1, 10, .inr (.inl fl))), (oX10 w0 v0 v1 v2 v3 v4 g5 g6 (nI ed) g8 v9 (nI nb) g11 g12 v13 g14 g15 g16 g17 g18 g19 g20 g21 g22 g23 g24 g25 g26 v27 v28 v29 v30 v31 v32 v33 v34 v35 v36 v37 (nI ol)), (v0, .inl (cA 0, 326, .inl fs))]) 2 hP hD [2, 3] [0, 1] rfl rfl (by decide) (by decide) hk1 hFc hP1 hD1 rfl
    generalize H1 = H at hP hS ⊢
    rcases hw with ⟨hr9, hn8⟩ | ⟨hr9, hn8⟩
    · skip
      subst hr9
      refine lv_if_eq (tgt := 24) hx hb dX10_dispute_17 (by decide) (fun c9 => absurd c9 (by decide)) (fun c9 => ?_)
      refine lv_iconst (v := 1) hx hb dX10_dispute_20 (by decide) ?_
      refine lv_goto (tgt := 25) hx hb dX10_dispute_21 (by decide) ?_
      obtain ⟨hPc, hDc, hFc⟩ := PDq.cut (wc := [(oX10 w0 v0 v1 v2 v3 v4 g5 g6 (nI ed) g8 v9 (nI nb) g11 g12 v13 g14 g15 g16 g17 g18 g19 g20 g21 g22 g23 g24 g25 g26 v27 v28 v29 v30 v31 v32 v33 v34 v35 v36 v37 (nI ol))]) hP hD hS hA [2] (by decide) rfl
      refine va_calli (va_runV (As := [.int 1, .int 1]) (rest := []) ⟨hx, hb, hml, hown, hts⟩ (r_good_11 l D cA sa w0 ed nb ol v0 v1 v2 v3 v4 v9 v13 v27 v28 v29 v30 v31 v32 v33 v34 v35 v36 v37 g8 g11 g12 g14 g15 g16 g17 g18 g19 g20 g21 g22 g23 g24 g26 g5 g6 g25 H.size) (cwV 2 hts gX10_dispute_X10_good_ rfl rfl rfl (by decide +kernel) ⟨(Nat.le_of_ble_eq_true rfl), (Nat.le_of_ble_eq_true rfl)⟩) ⟨Wd.blind, va_recv hK hPc (ci := 11) (q0 := 0) rfl rfl, fun U hU hW => ⟨rfl, Wd.call hPc hDc hK hC hZ hS hFc U hU hW⟩⟩ rfl rfl hl.1 rfl (lv_room (Nat.le_of_ble_eq_true rfl)) dX10_dispute_25 ⟨(Nat.le_of_ble_eq_true rfl), (Nat.le_of_ble_eq_true rfl)⟩) hS (fun q _ h => hFc q h) hFc (fun rn10 u t H1 locs ht hvm hw hB hz1 hk1 hS => ?_)
      obtain ⟨hP1, hD1⟩ := hB
      rw [ht] at hP1
      obtain ⟨hP, hD⟩ := PDq.join (w := [(v3, .inl (cA 0, 3260, .inl fh)), (v4, .inl (cA 1, 10, .inr (.inl fl))), (v0, .inl (cA 0, 326, .inl fs)), (oX10 w0 v0 v1 v2 v3 v4 g5 g6 (nI ed) 0 v9 (nI nb) g11 g12 v13 g14 g15 g16 g17 g18 g19 g20 g21 g22 g23 g24 g25 g26 v27 v28 v29 v30 v31 v32 v33 v34 v35 v36 v37 (nI ol))]) 3 hP hD [2] [0, 1, 3] rfl rfl (by decide) (by decide) hk1 hFc hP1 hD1 rfl
      generalize H1 = H at hP hS ⊢
      obtain rfl : rn10 = 1 := hw
      refine lv_if_ne (tgt := 33) hx hb dX10_dispute_28 (by decide) (fun c11 => ?_) (fun c9 => absurd c9 (by decide))
      refine lv_aload_n hx hb dX10_dispute_33 rfl (lv_at hl 1 rfl) ?_
      obtain ⟨hPc, hDc, hFc⟩ := PDq.cut (wc := [(oX10 w0 v0 v1 v2 v3 v4 g5 g6 (nI ed) 0 v9 (nI nb) g11 g12 v13 g14 g15 g16 g17 g18 g19 g20 g21 g22 g23 g24 g25 g26 v27 v28 v29 v30 v31 v32 v33 v34 v35 v36 v37 (nI ol)), (v0, .inl (cA 0, 326, .inl fs)), (v3, .inl (cA 0, 3260, .inl fh)), (v4, .inl (cA 1, 10, .inr (.inl fl)))]) hP hD hS hA [3, 2, 0, 1] (by decide) rfl
      refine va_callv (va_runV (As := []) (rest := []) ⟨hx, hb, hml, hown, hts⟩ (e_remember l D cA sa w0 ed nb ol v0 v1 v2 v3 v4 v9 v13 v27 v28 v29 v30 v31 v32 v33 v34 v35 v36 v37 0 g11 g12 g14 g15 g16 g17 g18 g19 g20 g21 g22 g23 g24 g26 g5 g6 g25 cn pq en dy fs fh fl H.size hcn hpq hen hdy hri hed hHI hd9) (cwV 0 hts gX10_dispute_X10_remember rfl rfl rfl (by decide +kernel) ⟨(Nat.le_of_ble_eq_true rfl), (Nat.le_of_ble_eq_true rfl)⟩) ⟨Wd.blind, va_recv hK hPc (ci := 11) (q0 := 0) rfl rfl, fun U hU hW => ⟨rfl, Wd.call hPc hDc hK hC hZ hS hFc U hU hW⟩⟩ rfl rfl hl.1 rfl (lv_room (Nat.le_of_ble_eq_true rfl)) dX10_dispute_34 ⟨(Nat.le_of_ble_eq_true rfl), (Nat.le_of_ble_eq_true rfl)⟩) hS (fun q _ h => hFc q h) hFc (fun u t H1 locs ht hvm hw hB hz1 hk1 hS => ?_)
      obtain ⟨qn12, fn13, fn14, hn15, hn16, hn17, hP1, hD1⟩ := hB
      rw [ht] at hP1
      obtain ⟨hP, hD⟩ := PDq.join (w := [(oX10 w0 v0 v1 v2 v3 v4 g5 g6 (nI qn12) 0 v9 (nI nb) g11 g12 v13 g14 g15 g16 g17 g18 g19 g20 g21 g22 g23 g24 g25 g26 v27 v28 v29 v30 v31 v32 v33 v34 v35 v36 v37 (nI ol)), (v0, .inl (cA 0, 326, .inl fs)), (v3, .inl (cA 0, 3260, .inl fn13)), (v4, .inl (cA 1, 10, .inr (.inl fn14)))]) 0 hP hD [3, 2, 0, 1] [] rfl rfl (by decide) (by decide) hk1 hFc hP1 hD1 rfl
      generalize H1 = H at hP hS ⊢
      refine lv_aload_n hx hb dX10_dispute_37 rfl (lv_at hl 1 rfl) ?_
      refine lv_iload_n hx hb dX10_dispute_38 rfl (lv_at hl 2 rfl) ?_
      obtain ⟨hPc, hDc, hFc⟩ := PDq.cut (wc := [(oX10 w0 v0 v1 v2 v3 v4 g5 g6 (nI qn12) 0 v9 (nI nb) g11 g12 v13 g14 g15 g16 g17 g18 g19 g20 g21 g22 g23 g24 g25 g26 v27 v28 v29 v30 v31 v32 v33 v34 v35 v36 v37 (nI ol)), (v0, .inl (cA 0, 326, .inl fs))]) hP hD hS hA [0, 1] (by decide) rfl
      refine va_calli (va_runV (As := [.int (nI kn2)]) (rest := []) ⟨hx, hb, hml, hown, hts⟩ (e_remainingOf l D cA sa w0 qn12 nb ol v0 v1 v2 v3 v4 v9 v13 v27 v28 v29 v30 v31 v32 v33 v34 v35 v36 v37 0 g11 g12 g14 g15 g16 g17 g18 g19 g20 g21 g22 g23 g24 g26 g5 g6 g25 rs fs kn2 H.size hrs9 (by omega)) (cwV 1 hts gX10_dispute_X10_remainingOf rfl rfl rfl (by decide +kernel) ⟨(Nat.le_of_ble_eq_true rfl), (Nat.le_of_ble_eq_true rfl)⟩) ⟨Wd.blind, va_recv hK hPc (ci := 11) (q0 := 0) rfl rfl, fun U hU hW => ⟨rfl, Wd.call hPc hDc hK hC hZ hS hFc U hU hW⟩⟩ rfl rfl hl.1 rfl (lv_room (Nat.le_of_ble_eq_true rfl)) dX10_dispute_39 ⟨(Nat.le_of_ble_eq_true rfl), (Nat.le_of_ble_eq_true rfl)⟩) hS (fun q _ h => hFc q h) hFc (fun rn18 u t H1 locs ht hvm hw hB hz1 hk1 hS => ?_)
      obtain ⟨hP1, hD1⟩ := hB
      rw [ht] at hP1
      obtain ⟨hP, hD⟩ := PDq.join (w := [(v3, .inl (cA 0, 3260, .inl fn13)), (v4, .inl (cA 1, 10, .inr (.inl fn14))), (oX10 w0 v0 v1 v2 v3 v4 g5 g6 (nI qn12) 0 v9 (nI nb) g11 g12 v13 g14 g15 g16 g17 g18 g19 g20 g21 g22 g23 g24 g25 g26 v27 v28 v29 v30 v31 v32 v33 v34 v35 v36 v37 (nI ol)), (v0, .inl (cA 0, 326, .inl fs))]) 2 hP hD [0, 1] [2, 3] rfl rfl (by decide) (by decide) hk1 hFc hP1 hD1 rfl
      generalize H1 = H at hP hS ⊢
      obtain rfl : rn18 = (remR rs kn2) := hw
      refine lv_aload_n hx hb dX10_dispute_42 rfl (lv_at hl 1 rfl) ?_
      obtain ⟨hPc, hDc, hFc⟩ := PDq.cut (wc := [(oX10 w0 v0 v1 v2 v3 v4 g5 g6 (nI qn12) 0 v9 (nI nb) g11 g12 v13 g14 g15 g16 g17 g18 g19 g20 g21 g22 g23 g24 g25 g26 v27 v28 v29 v30 v31 v32 v33 v34 v35 v36 v37 (nI ol)), (v0, .inl (cA 0, 326, .inl fs))]) hP hD hS hA [2, 3] (by decide) rfl
      refine va_calli (va_runV (As := []) (rest := [.int (remR rs kn2)]) ⟨hx, hb, hml, hown, hts⟩ (e_availableNow l D cA sa w0 qn12 nb ol v0 v1 v2 v3 v4 v9 v13 v27 v28 v29 v30 v31 v32 v33 v34 v35 v36 v37 0 g11 g12 g14 g15 g16 g17 g18 g19 g20 g21 g22 g23 g24 g26 g5 g6 g25 cn pq en dy fs rs H.size hrs9 hcn hpq hen hdy hri) (cwV 0 hts gX10_dispute_X10_availableNow rfl rfl rfl (by decide +kernel) ⟨(Nat.le_of_ble_eq_true rfl), (Nat.le_of_ble_eq_true rfl)⟩) ⟨Wd.blind, va_recv hK hPc (ci := 11) (q0 := 0) rfl rfl, fun U hU hW => ⟨rfl, Wd.call hPc hDc hK hC hZ hS hFc U hU hW⟩⟩ rfl rfl hl.1 rfl (lv_room (Nat.le_of_ble_eq_true rfl)) dX10_dispute_43 ⟨(Nat.le_of_ble_eq_true rfl), (Nat.le_of_ble_eq_true rfl)⟩) hS (fun q _ h => hFc q h) hFc (fun rn19 u t H1 locs ht hvm hw hB hz1 hk1 hS => ?_)
      obtain ⟨hP1, hD1⟩ := hB
      rw [ht] at hP1
      obtain ⟨hP, hD⟩ := PDq.join (w := [(v3, .inl (cA 0, 3260, .inl fn13)), (v4, .inl (cA 1, 10, .inr (.inl fn14))), (oX10 w0 v0 v1 v2 v3 v4 g5 g6 (nI qn12) 0 v9 (nI nb) g11 g12 v13 g14 g15 g16 g17 g18 g19 g20 g21 g22 g23 g24 g25 g26 v27 v28 v29 v30 v31 v32 v33 v34 v35 v36 v37 (nI ol)), (v0, .inl (cA 0, 326, .inl fs))]) 2 hP hD [2, 3] [0, 1] rfl rfl (by decide) (by decide) hk1 hFc hP1 hD1 rfl
      generalize H1 = H at hP hS ⊢
      obtain rfl : rn19 = (avR rs cn) := hw
      refine va_mmin hx hb (by rw [hml]; exact hl.1.symm) hown (hts (.methodLink RX10 301 Lib.Math.min.name) (by decide +kernel)) (hts (.static Lib.Math.min.name) (by decide +kernel)) (hts (.initialized "java/lang/Math") (by decide +kernel)) (hts (.code Lib.Math.min.name Lib.Math.min.code 2 (some .int)) (by decide +kernel)) (Nat.le_of_ble_eq_true rfl) (Nat.le_of_ble_eq_true rfl) (Nat.le_of_ble_eq_true rfl) (Nat.le_of_ble_eq_true rfl) dX10_dispute_46 ?_
      refine lv_topi (fun yn20 eyn20 => ?_)
      obtain rfl : yn20 = (minI (remR rs kn2) (avR rs cn)) := eyn20
      refine lv_istore_n (lv' := [(3, .int (minI (remR rs kn2) (avR rs cn))), (2, .int 1), (0, .ref w0), (1, .int (nI kn2))]) hx hb dX10_dispute_49 rfl hl (by decide) rfl (fun ls hl => ?_)
      refine lv_aload_n hx hb dX10_dispute_50 rfl (lv_at hl 2 rfl) ?_
      refine lv_iload_n hx hb dX10_dispute_51 rfl (lv_at hl 3 rfl) ?_
      refine lv_iconst (v := 3) hx hb dX10_dispute_52 (by decide) ?_
      refine lv_iload_n hx hb dX10_dispute_53 rfl (lv_at hl 0 rfl) ?_
      obtain ⟨hPc, hDc, hFc⟩ := PDq.cut (wc := [(oX10 w0 v0 v1 v2 v3 v4 g5 g6 (nI qn12) 0 v9 (nI nb) g11 g12 v13 g14 g15 g16 g17 g18 g19 g20 g21 g22 g23 g24 g25 g26 v27 v28 v29 v30 v31 v32 v33 v34 v35 v36 v37 (nI ol)), (v0, .inl (cA 0, 326, .inl fs))]) hP hD hS hA [2, 3] (by decide) rfl
      refine va_callv (va_runV (As := [.int (nI kn2), .int 3, .int (minI (remR rs kn2) (avR rs cn))]) (rest := []) ⟨hx, hb, hml, hown, hts⟩ (e_set l D cA sa w0 qn12 nb ol v0 v1 v2 v3 v4 v9 v13 v27 v28 v29 v30 v31 v32 v33 v34 v35 v36 v37 0 g11 g12 g14 g15 g16 g17 g18 g19 g20 g21 g22 g23 g24 g26 g5 g6 g25 cn pq en dy fs rs kn2 3 (minI (remR rs kn2) (avR rs cn)) H.size hrs9 hcn hpq hen hdy hri (by omega) (by omega)) (cwV 3 hts gX10_dispute_X10_set rfl rfl rfl (by decide +kernel) ⟨(Nat.le_of_ble_eq_true rfl), (Nat.le_of_ble_eq_true rfl)⟩) ⟨Wd.blind, va_recv hK hPc (ci := 11) (q0 := 0) rfl rfl, fun U hU hW => ⟨rfl, Wd.call hPc hDc hK hC hZ hS hFc U hU hW⟩⟩ rfl rfl hl.1 rfl (lv_room (Nat.le_of_ble_eq_true rfl)) dX10_dispute_54 ⟨(Nat.le_of_ble_eq_true rfl), (Nat.le_of_ble_eq_true rfl)⟩) hS (fun q _ h => hFc q h) hFc (fun u t H1 locs ht hvm hw hB hz1 hk1 hS => ?_)
      obtain ⟨fn21, hn22, hn23, hP1, hD1⟩ := hB
      rw [ht] at hP1
      obtain ⟨hP, hD⟩ := PDq.join (w := [(v3, .inl (cA 0, 3260, .inl fn13)), (v4, .inl (cA 1, 10, .inr (.inl fn14))), (oX10 w0 v0 v1 v2 v3 v4 g5 g6 (nI qn12) 0 v9 (nI nb) g11 g12 v13 g14 g15 g16 g17 g18 g19 g20 g21 g22 g23 g24 g25 g26 v27 v28 v29 v30 v31 v32 v33 v34 v35 v36 v37 (nI ol)), (v0, .inl (cA 0, 326, .inl fn21))]) 2 hP hD [2, 3] [0, 1] rfl rfl (by decide) (by decide) hk1 hFc hP1 hD1 rfl
      generalize H1 = H at hP hS ⊢
      refine lv_aload_n hx hb dX10_dispute_57 rfl (lv_at hl 2 rfl) ?_
      refine lv_iload_n hx hb dX10_dispute_58 rfl (lv_at hl 3 rfl) ?_
      refine lv_iconst (v := 2) hx hb dX10_dispute_59 (by decide) ?_
      refine lv_iconst (v := 2) hx hb dX10_dispute_60 (by decide) ?_
      obtain ⟨hPc, hDc, hFc⟩ := PDq.cut (wc := [(oX10 w0 v0 v1 v2 v3 v4 g5 g6 (nI qn12) 0 v9 (nI nb) g11 g12 v13 g14 g15 g16 g17 g18 g19 g20 g21 g22 g23 g24 g25 g26 v27 v28 v29 v30 v31 v32 v33 v34 v35 v36 v37 (nI ol)), (v0, .inl (cA 0, 326, .inl fn21))]) hP hD hS hA [2, 3] (by decide) rfl
      refine va_callv (va_runV (As := [.int (nI kn2), .int 2, .int 2]) (rest := []) ⟨hx, hb, hml, hown, hts⟩ (e_set l D cA sa w0 qn12 nb ol v0 v1 v2 v3 v4 v9 v13 v27 v28 v29 v30 v31 v32 v33 v34 v35 v36 v37 0 g11 g12 g14 g15 g16 g17 g18 g19 g20 g21 g22 g23 g24 g26 g5 g6 g25 cn pq en dy fn21 (upd rs (16 + 7 * kn2 + 3) (minI (remR rs kn2) (avR rs cn))) kn2 2 2 H.size hn23 hcn hpq hen hdy hn22 (by omega) (by omega)) (cwV 3 hts gX10_dispute_X10_set rfl rfl rfl (by decide +kernel) ⟨(Nat.le_of_ble_eq_true rfl), (Nat.le_of_ble_eq_true rfl)⟩) ⟨Wd.blind, va_recv hK hPc (ci := 11) (q0 := 0) rfl rfl, fun U hU hW => ⟨rfl, Wd.call hPc hDc hK hC hZ hS hFc U hU hW⟩⟩ rfl rfl hl.1 rfl (lv_room (Nat.le_of_ble_eq_true rfl)) dX10_dispute_61 ⟨(Nat.le_of_ble_eq_true rfl), (Nat.le_of_ble_eq_true rfl)⟩) hS (fun q _ h => hFc q h) hFc (fun u t H1 locs ht hvm hw hB hz1 hk1 hS => ?_)
      obtain ⟨fn24, hn25, hn26, hP1, hD1⟩ := hB
      rw [ht] at hP1
      obtain ⟨hP, hD⟩ := PDq.join (w := [(v3, .inl (cA 0, 3260, .inl fn13)), (v4, .inl (cA 1, 10, .inr (.inl fn14))), (oX10 w0 v0 v1 v2 v3 v4 g5 g6 (nI qn12) 0 v9 (nI nb) g11 g12 v13 g14 g15 g16 g17 g18 g19 g20 g21 g22 g23 g24 g25 g26 v27 v28 v29 v30 v31 v32 v33 v34 v35 v36 v37 (nI ol)), (v0, .inl (cA 0, 326, .inl fn24))]) 2 hP hD [2, 3] [0, 1] rfl rfl (by decide) (by decide) hk1 hFc hP1 hD1 rfl
      generalize H1 = H at hP hS ⊢
      refine lv_iload_n hx hb dX10_dispute_64 rfl (lv_at hl 0 rfl) ?_
      obtain ⟨hP9, hD9⟩ := PDq.sub (ws' := [(oX10 w0 v0 v1 v2 v3 v4 g5 g6 (nI qn12) 0 v9 (nI nb) g11 g12 v13 g14 g15 g16 g17 g18 g19 g20 g21 g22 g23 g24 g25 g26 v27 v28 v29 v30 v31 v32 v33 v34 v35 v36 v37 (nI ol)), (v0, .inl (cA 0, 326, .inl fn24)), (v3, .inl (cA 0, 3260, .inl fn13)), (v4, .inl (cA 1, 10, .inr (.inl fn14)))]) hP hD [2, 3, 0, 1] (by decide) rfl
      refine W.widen (k := 0) (n := 0) (Nat.le_of_ble_eq_true rfl) (Nat.le_of_ble_eq_true rfl) ?_
      exact (W.iret (v := (minI (remR rs kn2) (avR rs cn))) hx hb hr (fun t ht hW => ⟨⟨(minI (remR rs kn2) (avR rs cn)), (), rfl, trivial, qn12, en, 0, fn24, fn13, fn14, hn15, hn16, hen, hn25, (by subst hrs; exact Or.inl ⟨kn2, hn3, hn4, hn8, hn17, hn26⟩), by rw [ht]; exact hP9, hD9⟩, hS.F ht⟩) hS.2.2 dX10_dispute_65)
    · skip
      subst hr9
      refine lv_if_eq (tgt := 24) hx hb dX10_dispute_17 (by decide) (fun c27 => ?_) (fun c9 => absurd c9 (by decide))
      refine lv_iconst (v := 0) hx hb dX10_dispute_24 (by decide) ?_
      obtain ⟨hPc, hDc, hFc⟩ := PDq.cut (wc := [(oX10 w0 v0 v1 v2 v3 v4 g5 g6 (nI ed) g8 v9 (nI nb) g11 g12 v13 g14 g15 g16 g17 g18 g19 g20 g21 g22 g23 g24 g25 g26 v27 v28 v29 v30 v31 v32 v33 v34 v35 v36 v37 (nI ol))]) hP hD hS hA [2] (by decide) rfl
      refine va_calli (va_runV (As := [.int 1, .int 0]) (rest := []) ⟨hx, hb, hml, hown, hts⟩ (r_good_10 l D cA sa w0 ed nb ol v0 v1 v2 v3 v4 v9 v13 v27 v28 v29 v30 v31 v32 v33 v34 v35 v36 v37 g8 g11 g12 g14 g15 g16 g17 g18 g19 g20 g21 g22 g23 g24 g26 g5 g6 g25 H.size) (cwV 2 hts gX10_dispute_X10_good_ rfl rfl rfl (by decide +kernel) ⟨(Nat.le_of_ble_eq_true rfl), (Nat.le_of_ble_eq_true rfl)⟩) ⟨Wd.blind, va_recv hK hPc (ci := 11) (q0 := 0) rfl rfl, fun U hU hW => ⟨rfl, Wd.call hPc hDc hK hC hZ hS hFc U hU hW⟩⟩ rfl rfl hl.1 rfl (lv_room (Nat.le_of_ble_eq_true rfl)) dX10_dispute_25 ⟨(Nat.le_of_ble_eq_true rfl), (Nat.le_of_ble_eq_true rfl)⟩) hS (fun q _ h => hFc q h) hFc (fun rn28 u t H1 locs ht hvm hw hB hz1 hk1 hS => ?_)
      obtain ⟨hP1, hD1⟩ := hB
      rw [ht] at hP1
      obtain ⟨hP, hD⟩ := PDq.join (w := [(v3, .inl (cA 0, 3260, .inl fh)), (v4, .inl (cA 1, 10, .inr (.inl fl))), (v0, .inl (cA 0, 326, .inl fs)), (oX10 w0 v0 v1 v2 v3 v4 g5 g6 (nI ed) 2 v9 (nI nb) g11 g12 v13 g14 g15 g16 g17 g18 g19 g20 g21 g22 g23 g24 g25 g26 v27 v28 v29 v30 v31 v32 v33 v34 v35 v36 v37 (nI ol))]) 3 hP hD [2] [0, 1, 3] rfl rfl (by decide) (by decide) hk1 hFc hP1 hD1 rfl
      generalize H1 = H at hP hS ⊢
      obtain rfl : rn28 = 0 := hw
      refine lv_if_ne (tgt := 33) hx hb dX10_dispute_28 (by decide) (fun c9 => absurd c9 (by decide)) (fun c29 => ?_)
      refine lv_iconst (v := 0) hx hb dX10_dispute_31 (by decide) ?_
      obtain ⟨hP9, hD9⟩ := PDq.sub (ws' := [(oX10 w0 v0 v1 v2 v3 v4 g5 g6 (nI ed) 2 v9 (nI nb) g11 g12 v13 g14 g15 g16 g17 g18 g19 g20 g21 g22 g23 g24 g25 g26 v27 v28 v29 v30 v31 v32 v33 v34 v35 v36 v37 (nI ol)), (v0, .inl (cA 0, 326, .inl fs)), (v3, .inl (cA 0, 3260, .inl fh)), (v4, .inl (cA 1, 10, .inr (.inl fl)))]) hP hD [3, 2, 0, 1] (by decide) rfl
      refine W.widen (k := 0) (n := 0) (Nat.le_of_ble_eq_true rfl) (Nat.le_of_ble_eq_true rfl) ?_
      exact (W.iret (v := 0) hx hb hr (fun t ht hW => ⟨⟨0, (), rfl, trivial, ed, en, 2, fs, fh, fl, hed, hHI, hen, hri, (by subst hrs; exact Or.inr ⟨(fun ⟨k9, q8, q9, q7⟩ => by have q6 := nI_ij (hn4.symm.trans q9) (by omega) (by omega); subst q6; exact hn8 q7), rfl, rfl, rfl, rfl⟩), by rw [ht]; exact hP9, hD9⟩, hS.F ht⟩) hS.2.2 dX10_dispute_32)
  · skip
    subst hr9
    refine lv_istore_n (lv' := [(2, .int 0), (0, .ref w0), (1, .int i)]) hx hb dX10_dispute_5 rfl hl (by decide) rfl (fun ls hl => ?_)
    refine lv_aload_n hx hb dX10_dispute_6 rfl (lv_at hl 1 rfl) ?_
    refine lv_iload_n hx hb dX10_dispute_7 rfl (lv_at hl 0 rfl) ?_
    refine lv_iload_n hx hb dX10_dispute_8 rfl (lv_at hl 0 rfl) ?_
    refine lv_if_eq (tgt := 24) hx hb dX10_dispute_9 (by decide) (fun c30 => ?_) (fun c9 => absurd c9 (by decide))
    refine lv_iconst (v := 0) hx hb dX10_dispute_24 (by decide) ?_
    obtain ⟨hPc, hDc, hFc⟩ := PDq.cut (wc := [(oX10 w0 v0 v1 v2 v3 v4 g5 g6 (nI ed) g8 v9 (nI nb) g11 g12 v13 g14 g15 g16 g17 g18 g19 g20 g21 g22 g23 g24 g25 g26 v27 v28 v29 v30 v31 v32 v33 v34 v35 v36 v37 (nI ol))]) hP hD hS hA [2] (by decide) rfl
    refine va_calli (va_runV (As := [.int 0, .int 0]) (rest := []) ⟨hx, hb, hml, hown, hts⟩ (r_good_00 l D cA sa w0 ed nb ol v0 v1 v2 v3 v4 v9 v13 v27 v28 v29 v30 v31 v32 v33 v34 v35 v36 v37 g8 g11 g12 g14 g15 g16 g17 g18 g19 g20 g21 g22 g23 g24 g26 g5 g6 g25 H.size) (cwV 2 hts gX10_dispute_X10_good_ rfl rfl rfl (by decide +kernel) ⟨(Nat.le_of_ble_eq_true rfl), (Nat.le_of_ble_eq_true rfl)⟩) ⟨Wd.blind, va_recv hK hPc (ci := 11) (q0 := 0) rfl rfl, fun U hU hW => ⟨rfl, Wd.call hPc hDc hK hC hZ hS hFc U hU hW⟩⟩ rfl rfl hl.1 rfl (lv_room (Nat.le_of_ble_eq_true rfl)) dX10_dispute_25 ⟨(Nat.le_of_ble_eq_true rfl), (Nat.le_of_ble_eq_true rfl)⟩) hS (fun q _ h => hFc q h) hFc (fun rn31 u t H1 locs ht hvm hw hB hz1 hk1 hS => ?_)
    obtain ⟨hP1, hD1⟩ := hB
    rw [ht] at hP1
    obtain ⟨hP, hD⟩ := PDq.join (w := [(v3, .inl (cA 0, 3260, .inl fh)), (v4, .inl (cA 1, 10, .inr (.inl fl))), (v0, .inl (cA 0, 326, .inl fs)), (oX10 w0 v0 v1 v2 v3 v4 g5 g6 (nI ed) 1 v9 (nI nb) g11 g12 v13 g14 g15 g16 g17 g18 g19 g20 g21 g22 g23 g24 g25 g26 v27 v28 v29 v30 v31 v32 v33 v34 v35 v36 v37 (nI ol))]) 3 hP hD [2] [0, 1, 3] rfl rfl (by decide) (by decide) hk1 hFc hP1 hD1 rfl
    generalize H1 = H at hP hS ⊢
    obtain rfl : rn31 = 0 := hw
    refine lv_if_ne (tgt := 33) hx hb dX10_dispute_28 (by decide) (fun c9 => absurd c9 (by decide)) (fun c32 => ?_)
    refine lv_iconst (v := 0) hx hb dX10_dispute_31 (by decide) ?_
    obtain ⟨hP9, hD9⟩ := PDq.sub (ws' := [(oX10 w0 v0 v1 v2 v3 v4 g5 g6 (nI ed) 1 v9 (nI nb) g11 g12 v13 g14 g15 g16 g17 g18 g19 g20 g21 g22 g23 g24 g25 g26 v27 v28 v29 v30 v31 v32 v33 v34 v35 v36 v37 (nI ol)), (v0, .inl (cA 0, 326, .inl fs)), (v3, .inl (cA 0, 3260, .inl fh)), (v4, .inl (cA 1, 10, .inr (.inl fl)))]) hP hD [3, 2, 0, 1] (by decide) rfl
    refine W.widen (k := 0) (n := 0) (Nat.le_of_ble_eq_true rfl) (Nat.le_of_ble_eq_true rfl) ?_
    exact (W.iret (v := 0) hx hb hr (fun t ht hW => ⟨⟨0, (), rfl, trivial, ed, en, 1, fs, fh, fl, hed, hHI, hen, hri, (by subst hrs; exact Or.inr ⟨(fun ⟨k9, q8, q9, _⟩ => hn5 ⟨k9, q8, q9⟩), rfl, rfl, rfl, rfl⟩), by rw [ht]; exact hP9, hD9⟩, hS.F ht⟩) hS.2.2 dX10_dispute_32)

set_option maxHeartbeats 4000000 in
set_option maxRecDepth 100000 in
/-- reference, exactly: cancel -/
theorem e_cancel (l : Launch) (D : va_G) (cA : Nat → ClassId) (sa : Nat → Nat) (w0 : Nat) (ed : Nat) (nb : Nat) (ol : Nat) (v0 : Nat) (v1 : Nat) (v2 : Nat) (v3 : Nat) (v4 : Nat) (v9 : Nat) (v13 : Nat) (v27 : Nat) (v28 : Nat) (v29 : Nat) (v30 : Nat) (v31 : Nat) (v32 : Nat) (v33 : Nat) (v34 : Nat) (v35 : Nat) (v36 : Nat) (v37 : Nat) (g8 : Int32) (g11 : Int32) (g12 : Int32) (g14 : Int32) (g15 : Int32) (g16 : Int32) (g17 : Int32) (g18 : Int32) (g19 : Int32) (g20 : Int32) (g21 : Int32) (g22 : Int32) (g23 : Int32) (g24 : Int32) (g26 : Int32) (g5 : Int64) (g6 : Int64) (g25 : Int64) (cn : Nat) (pq : Nat) (en : Nat) (dy : Nat) (fs : Nat → Int32) (fh : Nat → Int32) (fl : Nat → Int64) (i : Int32) (sz : Nat) (hcn : cn ≤ 10) (hpq : pq ≤ 8) (hen : en ≤ 60) (hdy : dy ≤ 20000) (hri : RI cn pq en dy fs) (hed : ed ≤ 10) (hHI : HI cn pq ed fh) (hd9 : dy ≤ 9999) : Met l yX10_cancel wsX10_cancel ({ frames := 3, cells := 0, slots := 0, locals := 64 }) (va_Pc [.ref w0, .int i] (Wd D cA sa [(oX10 w0 v0 v1 v2 v3 v4 g5 g6 (nI ed) g8 v9 (nI nb) g11 g12 v13 g14 g15 g16 g17 g18 g19 g20 g21 g22 g23 g24 g25 g26 v27 v28 v29 v30 v31 v32 v33 v34 v35 v36 v37 (nI ol)), (v0, .inl (cA 0, 326, .inl fs)), (v3, .inl (cA 0, 3260, .inl fh)), (v4, .inl (cA 1, 10, .inr (.inl fl)))] sz)) (va_Qi (fun (r : Int32) (_ : Unit) => True) (fun (_ : Unit) t => ∃ ed2 : Nat, ∃ e2 : Nat, ∃ zt : Int32, ∃ zs : Nat → Int32, ∃ zh : Nat → Int32, ∃ zl : Nat → Int64, ed2 ≤ 10 ∧ HI cn pq ed2 zh ∧ e2 ≤ 60 ∧ RI cn pq e2 dy zs ∧ EdK cn i (AcOpn fs) (canR) ed fh fl fs g5 ed2 zh zl zs ∧ Wq D (va_A [(oX10 w0 v0 v1 v2 v3 v4 g5 g6 (nI ed) g8 v9 (nI nb) g11 g12 v13 g14 g15 g16 g17 g18 g19 g20 g21 g22 g23 g24 g25 g26 v27 v28 v29 v30 v31 v32 v33 v34 v35 v36 v37 (nI ol)), (v0, .inl (cA 0, 326, .inl fs)), (v3, .inl (cA 0, 3260, .inl fh)), (v4, .inl (cA 1, 10, .inr (.inl fl)))] sz) [(oX10 w0 v0 v1 v2 v3 v4 g5 g6 (nI ed2) zt v9 (nI nb) g11 g12 v13 g14 g15 g16 g17 g18 g19 g20 g21 g22 g23 g24 g25 g26 v27 v28 v29 v30 v31 v32 v33 v34 v35 v36 v37 (nI ol)), (v0, .inl (cA 0, 326, .inl zs)), (v3, .inl (cA 0, 3260, .inl zh)), (v4, .inl (cA 1, 10, .inr (.inl zl)))] t) (va_A [(oX10 w0 v0 v1 v2 v3 v4 g5 g6 (nI ed) g8 v9 (nI nb) g11 g12 v13 g14 g15 g16 g17 g18 g19 g20 g21 g22 g23 g24 g25 g26 v27 v28 v29 v30 v31 v32 v33 v34 v35 v36 v37 (nI ol)), (v0, .inl (cA 0, 326, .inl fs)), (v3, .inl (cA 0, 3260, .inl fh)), (v4, .inl (cA 1, 10, .inr (.inl fl)))] sz)) 0 0 (va_A [(oX10 w0 v0 v1 v2 v3 v4 g5 g6 (nI ed) g8 v9 (nI nb) g11 g12 v13 g14 g15 g16 g17 g18 g19 g20 g21 g22 g23 g24 g25 g26 v27 v28 v29 v30 v31 v32 v33 v34 v35 v36 v37 (nI ol)), (v0, .inl (cA 0, 326, .inl fs)), (v3, .inl (cA 0, 3260, .inl fh)), (v4, .inl (cA 1, 10, .inr (.inl fl)))] sz) := by
  refine Met.ofW (cc := cX10_cancel) (maxL := 4) (ret := (some .int)) (by decide) rfl ?_
  intro p e s m args below meth c s₁ B hml hv
  obtain ⟨rfl, hsz, hP, hK, hD0, hC, hZ⟩ := hv
  have hx := B.exec
  have hb := B.bytes
  have hr := B.returns
  have hts := atoms_spec (ws := wsX10_cancel) B.pre
  have hown : s.vm.findClass RX10 = some m.cls := findClass_of_methodNamed B.named
  have hlocks := B.notSynchronized
  subst hsz
  have hD := hD0.self (sz := s.heap.size)
  generalize hAe : va_A [(oX10 w0 v0 v1 v2 v3 v4 g5 g6 (nI ed) g8 v9 (nI nb) g11 g12 v13 g14 g15 g16 g17 g18 g19 g20 g21 g22 g23 g24 g25 g26 v27 v28 v29 v30 v31 v32 v33 v34 v35 v36 v37 (nI ol)), (v0, .inl (cA 0, 326, .inl fs)), (v3, .inl (cA 0, 3260, .inl fh)), (v4, .inl (cA 1, 10, .inr (.inl fl)))] s.heap.size = A at hD hZ ⊢
  have hA : ∀ q : Nat, s.heap.size ≤ q → A q := fun q h => by rw [← hAe]; exact Or.inr h
  have hS : va_S A s.heap s.heap [] := va_S.rf
  have hP : va_P D vwCl [(oX10 w0 v0 v1 v2 v3 v4 g5 g6 (nI ed) g8 v9 (nI nb) g11 g12 v13 g14 g15 g16 g17 g18 g19 g20 g21 g22 g23 g24 g25 g26 v27 v28 v29 v30 v31 v32 v33 v34 v35 v36 v37 (nI ol)), (v0, .inl (cA 0, 326, .inl fs)), (v3, .inl (cA 0, 3260, .inl fh)), (v4, .inl (cA 1, 10, .inr (.inl fl)))] s.heap := hP
  have hl := lv_entry ([.ref w0, .int i]) (n := 4) (Nat.le_of_ble_eq_true rfl)
  rw [lg_entry_eq]
  generalize (lg_sl ([.ref w0, .int i]) ++ List.replicate (4 - (lg_sl ([.ref w0, .int i])).length) Slot.unset).toArray = ls at hl ⊢
  have hl : lv_has ls 4 [(0, .ref w0), (1, .int i)] := hl
  obtain ⟨rs, hrs⟩ : ∃ r : Nat → Int32, r = fs := ⟨fs, rfl⟩
  have hrs9 : Ab rs fs := by rw [hrs]; exact Ab.rf fs
  refine lv_aload_n hx hb dX10_cancel_0 rfl (lv_at hl 0 rfl) ?_
  refine lv_iload_n hx hb dX10_cancel_1 rfl (lv_at hl 1 rfl) ?_
  obtain ⟨hPc, hDc, hFc⟩ := PDq.cut (wc := [(oX10 w0 v0 v1 v2 v3 v4 g5 g6 (nI ed) g8 v9 (nI nb) g11 g12 v13 g14 g15 g16 g17 g18 g19 g20 g21 g22 g23 g24 g25 g26 v27 v28 v29 v30 v31 v32 v33 v34 v35 v36 v37 (nI ol)), (v0, .inl (cA 0, 326, .inl fs))]) hP hD hS hA [0, 1] (by decide) rfl
  refine va_calli (va_runV (As := [.int i]) (rest := []) ⟨hx, hb, hml, hown, hts⟩ (e_isMilestone l D cA sa w0 ed nb ol v0 v1 v2 v3 v4 v9 v13 v27 v28 v29 v30 v31 v32 v33 v34 v35 v36 v37 g8 g11 g12 g14 g15 g16 g17 g18 g19 g20 g21 g22 g23 g24 g26 g5 g6 g25 cn pq en dy fs i s.heap.size hcn hpq hen hdy hri) (cwV 1 hts gX10_cancel_X10_isMilestone rfl rfl rfl (by decide +kernel) ⟨(Nat.le_of_ble_eq_true rfl), (Nat.le_of_ble_eq_true rfl)⟩) ⟨Wd.blind, va_recv hK hPc (ci := 11) (q0 := 0) rfl rfl, fun U hU hW => ⟨rfl, Wd.call hPc hDc hK hC hZ hS hFc U hU hW⟩⟩ rfl rfl hl.1 rfl (lv_room (Nat.le_of_ble_eq_true rfl)) dX10_cancel_2 ⟨(Nat.le_of_ble_eq_true rfl), (Nat.le_of_ble_eq_true rfl)⟩) hS (fun q _ h => hFc q h) hFc (fun rn1 u t H1 locs ht hvm hw hB hz1 hk1 hS => ?_)
  obtain ⟨hP1, hD1⟩ := hB
  rw [ht] at hP1
  obtain ⟨hP, hD⟩ := PDq.join (w := [(v3, .inl (cA 0, 3260, .inl fh)), (v4, .inl (cA 1, 10, .inr (.inl fl))), (oX10 w0 v0 v1 v2 v3 v4 g5 g6 (nI ed) g8 v9 (nI nb) g11 g12 v13 g14 g15 g16 g17 g18 g19 g20 g21 g22 g23 g24 g25 g26 v27 v28 v29 v30 v31 v32 v33 v34 v35 v36 v37 (nI ol)), (v0, .inl (cA 0, 326, .inl fs))]) 2 hP hD [0, 1] [2, 3] rfl rfl (by decide) (by decide) hk1 hFc hP1 hD1 rfl
  generalize H1 = H at hP hS ⊢
  rcases hw with ⟨hr9, kn2, hn3, hn4⟩ | ⟨hr9, hn5⟩
  · skip
    subst hr9
    rw [hn4] at hl
    have hl : lv_has ls 4 [(0, .ref w0), (1, .int (nI kn2))] := hl
    refine lv_istore_n (lv' := [(2, .int 1), (0, .ref w0), (1, .int (nI kn2))]) hx hb dX10_cancel_5 rfl hl (by decide) rfl (fun ls hl => ?_)
    refine lv_aload_n hx hb dX10_cancel_6 rfl (lv_at hl 1 rfl) ?_
    refine lv_iload_n hx hb dX10_cancel_7 rfl (lv_at hl 0 rfl) ?_
    refine lv_iload_n hx hb dX10_cancel_8 rfl (lv_at hl 0 rfl) ?_
    refine lv_if_eq (tgt := 24) hx hb dX10_cancel_9 (by decide) (fun c9 => absurd c9 (by decide)) (fun c6 => ?_)
    refine lv_aload_n hx hb dX10_cancel_12 rfl (lv_at hl 1 rfl) ?_
    refine lv_iload_n hx hb dX10_cancel_13 rfl (lv_at hl 2 rfl) ?_
    obtain ⟨hPc, hDc, hFc⟩ := PDq.cut (wc := [(oX10 w0 v0 v1 v2 v3 v4 g5 g6 (nI ed) g8 v9 (nI nb) g11 g12 v13 g14 g15 g16 g17 g18 g19 g20 g21 g22 g23 g24 g25 g26 v27 v28 v29 v30 v31 v32 v33 v34 v35 v36 v37 (nI ol)), (v0, .inl (cA 0, 326, .inl fs))]) hP hD hS hA [2, 3] (by decide) rfl
    refine va_calli (va_runV (As := [.int (nI kn2)]) (rest := [.int 1, .ref w0]) ⟨hx, hb, hml, hown, hts⟩ (e_isOpenOrDue l D cA sa w0 ed nb ol v0 v1 v2 v3 v4 v9 v13 v27 v28 v29 v30 v31 v32 v33 v34 v35 v36 v37 g8 g11 g12 g14 g15 g16 g17 g18 g19 g20 g21 g22 g23 g24 g26 g5 g6 g25 rs fs kn2 H.size hrs9 (by omega)) (cwV 1 hts gX10_cancel_X10_isOpenOrDue rfl rfl rfl (by decide +kernel) ⟨(Nat.le_of_ble_eq_true rfl), (Nat.le_of_ble_eq_true rfl)⟩) ⟨Wd.blind, va_recv hK hPc (ci := 11) (q0 := 0) rfl rfl, fun U hU hW => ⟨rfl, Wd.call hPc hDc hK hC hZ hS hFc U hU hW⟩⟩ rfl rfl hl.1 rfl (lv_room (Nat.le_of_ble_eq_true rfl)) dX10_cancel_14 ⟨(Nat.le_of_ble_eq_true rfl), (Nat.le_of_ble_eq_true rfl)⟩) hS (fun q _ h => hFc q h) hFc (fun rn7 u t H1 locs ht hvm hw hB hz1 hk1 hS => ?_)
    obtain ⟨hP1, hD1⟩ := hB
    rw [ht] at hP1
    obtain ⟨hP, hD⟩ := PDq.join (w := [(v3, .inl (cA 0, 3260, .inl fh)), (v4, .inl (cA 1, 10, .inr (.inl fl))), (oX10 w0 v0 v1 v2 v3 v4 g5 g6 (nI ed) g8 v9 (nI nb) g11 g12 v13 g14 g15 g16 g17 g18 g19 g20 g21 g22 g23 g24 g25 g26 v27 v28 v29 v30 v31 v32 v33 v34 v35 v36 v37 (nI ol)), (v0, .inl (cA 0, 326, .inl fs))]) 2 hP hD [2, 3] [0, 1] rfl rfl (by decide) (by decide) hk1 hFc hP1 hD1 rfl
    generalize H1 = H at hP hS ⊢
    rcases hw with ⟨hr9, hn8⟩ | ⟨hr9, hn8⟩
    · skip
      subst hr9
      refine lv_if_eq (tgt := 24) hx hb dX10_cancel_17 (by decide) (fun c9 => absurd c9 (by decide)) (fun c9 => ?_)
      refine lv_iconst (v := 1) hx hb dX10_cancel_20 (by decide) ?_
      refine lv_goto (tgt := 25) hx hb dX10_cancel_21 (by decide) ?_
      obtain ⟨hPc, hDc, hFc⟩ := PDq.cut (wc := [(oX10 w0 v0 v1 v2 v3 v4 g5 g6 (nI ed) g8 v9 (nI nb) g11 g12 v13 g14 g15 g16 g17 g18 g19 g20 g21 g22 g23 g24 g25 g26 v27 v28 v29 v30 v31 v32 v33 v34 v35 v36 v37 (nI ol))]) hP hD hS hA [2] (by decide) rfl
      refine va_calli (va_runV (As := [.int 1, .int 1]) (rest := []) ⟨hx, hb, hml, hown, hts⟩ (r_good_11 l D cA sa w0 ed nb ol v0 v1 v2 v3 v4 v9 v13 v27 v28 v29 v30 v31 v32 v33 v34 v35 v36 v37 g8 g11 g12 g14 g15 g16 g17 g18 g19 g20 g21 g22 g23 g24 g26 g5 g6 g25 H.size) (cwV 2 hts gX10_cancel_X10_good_ rfl rfl rfl (by decide +kernel) ⟨(Nat.le_of_ble_eq_true rfl), (Nat.le_of_ble_eq_true rfl)⟩) ⟨Wd.blind, va_recv hK hPc (ci := 11) (q0 := 0) rfl rfl, fun U hU hW => ⟨rfl, Wd.call hPc hDc hK hC hZ hS hFc U hU hW⟩⟩ rfl rfl hl.1 rfl (lv_room (Nat.le_of_ble_eq_true rfl)) dX10_cancel_25 ⟨(Nat.le_of_ble_eq_true rfl), (Nat.le_of_ble_eq_true rfl)⟩) hS (fun q _ h => hFc q h) hFc (fun rn10 u t H1 locs ht hvm hw hB hz1 hk1 hS => ?_)
      obtain ⟨hP1, hD1⟩ := hB
      rw [ht] at hP1
      obtain ⟨hP, hD⟩ := PDq.join (w := [(v3, .inl (cA 0, 3260, .inl fh)), (v4, .inl (cA 1, 10, .inr (.inl fl))), (v0, .inl (cA 0, 326, .inl fs)), (oX10 w0 v0 v1 v2 v3 v4 g5 g6 (nI ed) 0 v9 (nI nb) g11 g12 v13 g14 g15 g16 g17 g18 g19 g20 g21 g22 g23 g24 g25 g26 v27 v28 v29 v30 v31 v32 v33 v34 v35 v36 v37 (nI ol))]) 3 hP hD [2] [0, 1, 3] rfl rfl (by decide) (by decide) hk1 hFc hP1 hD1 rfl
      generalize H1 = H at hP hS ⊢
      obtain rfl : rn10 = 1 := hw
      refine lv_if_ne (tgt := 33) hx hb dX10_cancel_28 (by decide) (fun c11 => ?_) (fun c9 => absurd c9 (by decide))
      refine lv_aload_n hx hb dX10_cancel_33 rfl (lv_at hl 1 rfl) ?_
      obtain ⟨hPc, hDc, hFc⟩ := PDq.cut (wc := [(oX10 w0 v0 v1 v2 v3 v4 g5 g6 (nI ed) 0 v9 (nI nb) g11 g12 v13 g14 g15 g16 g17 g18 g19 g20 g21 g22 g23 g24 g25 g26 v27 v28 v29 v30 v31 v32 v33 v34 v35 v36 v37 (nI ol)), (v0, .inl (cA 0, 326, .inl fs)), (v3, .inl (cA 0, 3260, .inl fh)), (v4, .inl (cA 1, 10, .inr (.inl fl)))]) hP hD hS hA [3, 2, 0, 1] (by decide) rfl
      refine va_callv (va_runV (As := []) (rest := []) ⟨hx, hb, hml, hown, hts⟩ (e_remember l D cA sa w0 ed nb ol v0 v1 v2 v3 v4 v9 v13 v27 v28 v29 v30 v31 v32 v33 v34 v35 v36 v37 0 g11 g12 g14 g15 g16 g17 g18 g19 g20 g21 g22 g23 g24 g26 g5 g6 g25 cn pq en dy fs fh fl H.size hcn hpq hen hdy hri hed hHI hd9) (cwV 0 hts gX10_cancel_X10_remember rfl rfl rfl (by decide +kernel) ⟨(Nat.le_of_ble_eq_true rfl), (Nat.le_of_ble_eq_true rfl)⟩) ⟨Wd.blind, va_recv hK hPc (ci := 11) (q0 := 0) rfl rfl, fun U hU hW => ⟨rfl, Wd.call hPc hDc hK hC hZ hS hFc U hU hW⟩⟩ rfl rfl hl.1 rfl (lv_room (Nat.le_of_ble_eq_true rfl)) dX10_cancel_34 ⟨(Nat.le_of_ble_eq_true rfl), (Nat.le_of_ble_eq_true rfl)⟩) hS (fun q _ h => hFc q h) hFc (fun u t H1 locs ht hvm hw hB hz1 hk1 hS => ?_)
      obtain ⟨qn12, fn13, fn14, hn15, hn16, hn17, hP1, hD1⟩ := hB
      rw [ht] at hP1
      obtain ⟨hP, hD⟩ := PDq.join (w := [(oX10 w0 v0 v1 v2 v3 v4 g5 g6 (nI qn12) 0 v9 (nI nb) g11 g12 v13 g14 g15 g16 g17 g18 g19 g20 g21 g22 g23 g24 g25 g26 v27 v28 v29 v30 v31 v32 v33 v34 v35 v36 v37 (nI ol)), (v0, .inl (cA 0, 326, .inl fs)), (v3, .inl (cA 0, 3260, .inl fn13)), (v4, .inl (cA 1, 10, .inr (.inl fn14)))]) 0 hP hD [3, 2, 0, 1] [] rfl rfl (by decide) (by decide) hk1 hFc hP1 hD1 rfl
      generalize H1 = H at hP hS ⊢
      refine lv_aload_n hx hb dX10_cancel_37 rfl (lv_at hl 1 rfl) ?_
      refine lv_iload_n hx hb dX10_cancel_38 rfl (lv_at hl 2 rfl) ?_
      obtain ⟨hPc, hDc, hFc⟩ := PDq.cut (wc := [(oX10 w0 v0 v1 v2 v3 v4 g5 g6 (nI qn12) 0 v9 (nI nb) g11 g12 v13 g14 g15 g16 g17 g18 g19 g20 g21 g22 g23 g24 g25 g26 v27 v28 v29 v30 v31 v32 v33 v34 v35 v36 v37 (nI ol)), (v0, .inl (cA 0, 326, .inl fs))]) hP hD hS hA [0, 1] (by decide) rfl
      refine va_calli (va_runV (As := [.int (nI kn2)]) (rest := []) ⟨hx, hb, hml, hown, hts⟩ (e_remainingOf l D cA sa w0 qn12 nb ol v0 v1 v2 v3 v4 v9 v13 v27 v28 v29 v30 v31 v32 v33 v34 v35 v36 v37 0 g11 g12 g14 g15 g16 g17 g18 g19 g20 g21 g22 g23 g24 g26 g5 g6 g25 rs fs kn2 H.size hrs9 (by omega)) (cwV 1 hts gX10_cancel_X10_remainingOf rfl rfl rfl (by decide +kernel) ⟨(Nat.le_of_ble_eq_true rfl), (Nat.le_of_ble_eq_true rfl)⟩) ⟨Wd.blind, va_recv hK hPc (ci := 11) (q0 := 0) rfl rfl, fun U hU hW => ⟨rfl, Wd.call hPc hDc hK hC hZ hS hFc U hU hW⟩⟩ rfl rfl hl.1 rfl (lv_room (Nat.le_of_ble_eq_true rfl)) dX10_cancel_39 ⟨(Nat.le_of_ble_eq_true rfl), (Nat.le_of_ble_eq_true rfl)⟩) hS (fun q _ h => hFc q h) hFc (fun rn18 u t H1 locs ht hvm hw hB hz1 hk1 hS => ?_)
      obtain ⟨hP1, hD1⟩ := hB
      rw [ht] at hP1
      obtain ⟨hP, hD⟩ := PDq.join (w := [(v3, .inl (cA 0, 3260, .inl fn13)), (v4, .inl (cA 1, 10, .inr (.inl fn14))), (oX10 w0 v0 v1 v2 v3 v4 g5 g6 (nI qn12) 0 v9 (nI nb) g11 g12 v13 g14 g15 g16 g17 g18 g19 g20 g21 g22 g23 g24 g25 g26 v27 v28 v29 v30 v31 v32 v33 v34 v35 v36 v37 (nI ol)), (v0, .inl (cA 0, 326, .inl fs))]) 2 hP hD [0, 1] [2, 3] rfl rfl (by decide) (by decide) hk1 hFc hP1 hD1 rfl
      generalize H1 = H at hP hS ⊢
      obtain rfl : rn18 = (remR rs kn2) := hw
      refine lv_istore_n (lv' := [(3, .int (remR rs kn2)), (2, .int 1), (0, .ref w0), (1, .int (nI kn2))]) hx hb dX10_cancel_42 rfl hl (by decide) rfl (fun ls hl => ?_)
      refine lv_aload_n hx hb dX10_cancel_43 rfl (lv_at hl 2 rfl) ?_
      refine lv_iload_n hx hb dX10_cancel_44 rfl (lv_at hl 3 rfl) ?_
      refine lv_iconst (v := 2) hx hb dX10_cancel_45 (by decide) ?_
      refine lv_iconst (v := 5) hx hb dX10_cancel_46 (by decide) ?_
      obtain ⟨hPc, hDc, hFc⟩ := PDq.cut (wc := [(oX10 w0 v0 v1 v2 v3 v4 g5 g6 (nI qn12) 0 v9 (nI nb) g11 g12 v13 g14 g15 g16 g17 g18 g19 g20 g21 g22 g23 g24 g25 g26 v27 v28 v29 v30 v31 v32 v33 v34 v35 v36 v37 (nI ol)), (v0, .inl (cA 0, 326, .inl fs))]) hP hD hS hA [2, 3] (by decide) rfl
      refine va_callv (va_runV (As := [.int (nI kn2), .int 2, .int 5]) (rest := []) ⟨hx, hb, hml, hown, hts⟩ (e_set l D cA sa w0 qn12 nb ol v0 v1 v2 v3 v4 v9 v13 v27 v28 v29 v30 v31 v32 v33 v34 v35 v36 v37 0 g11 g12 g14 g15 g16 g17 g18 g19 g20 g21 g22 g23 g24 g26 g5 g6 g25 cn pq en dy fs rs kn2 2 5 H.size hrs9 hcn hpq hen hdy hri (by omega) (by omega)) (cwV 3 hts gX10_cancel_X10_set rfl rfl rfl (by decide +kernel) ⟨(Nat.le_of_ble_eq_true rfl), (Nat.le_of_ble_eq_true rfl)⟩) ⟨Wd.blind, va_recv hK hPc (ci := 11) (q0 := 0) rfl rfl, fun U hU hW => ⟨rfl, Wd.call hPc hDc hK hC hZ hS hFc U hU hW⟩⟩ rfl rfl hl.1 rfl (lv_room (Nat.le_of_ble_eq_true rfl)) dX10_cancel_47 ⟨(Nat.le_of_ble_eq_true rfl), (Nat.le_of_ble_eq_true rfl)⟩) hS (fun q _ h => hFc q h) hFc (fun u t H1 locs ht hvm hw hB hz1 hk1 hS => ?_)
      obtain ⟨fn19, hn20, hn21, hP1, hD1⟩ := hB
      rw [ht] at hP1
      obtain ⟨hP, hD⟩ := PDq.join (w := [(v3, .inl (cA 0, 3260, .inl fn13)), (v4, .inl (cA 1, 10, .inr (.inl fn14))), (oX10 w0 v0 v1 v2 v3 v4 g5 g6 (nI qn12) 0 v9 (nI nb) g11 g12 v13 g14 g15 g16 g17 g18 g19 g20 g21 g22 g23 g24 g25 g26 v27 v28 v29 v30 v31 v32 v33 v34 v35 v36 v37 (nI ol)), (v0, .inl (cA 0, 326, .inl fn19))]) 2 hP hD [2, 3] [0, 1] rfl rfl (by decide) (by decide) hk1 hFc hP1 hD1 rfl
      generalize H1 = H at hP hS ⊢
      refine lv_iload_n hx hb dX10_cancel_50 rfl (lv_at hl 0 rfl) ?_
      obtain ⟨hP9, hD9⟩ := PDq.sub (ws' := [(oX10 w0 v0 v1 v2 v3 v4 g5 g6 (nI qn12) 0 v9 (nI nb) g11 g12 v13 g14 g15 g16 g17 g18 g19 g20 g21 g22 g23 g24 g25 g26 v27 v28 v29 v30 v31 v32 v33 v34 v35 v36 v37 (nI ol)), (v0, .inl (cA 0, 326, .inl fn19)), (v3, .inl (cA 0, 3260, .inl fn13)), (v4, .inl (cA 1, 10, .inr (.inl fn14)))]) hP hD [2, 3, 0, 1] (by decide) rfl
      refine W.widen (k := 0) (n := 0) (Nat.le_of_ble_eq_true rfl) (Nat.le_of_ble_eq_true rfl) ?_
      exact (W.iret (v := (remR rs kn2)) hx hb hr (fun t ht hW => ⟨⟨(remR rs kn2), (), rfl, trivial, qn12, en, 0, fn19, fn13, fn14, hn15, hn16, hen, hn20, (by subst hrs; exact Or.inl ⟨kn2, hn3, hn4, hn8, hn17, hn21⟩), by rw [ht]; exact hP9, hD9⟩, hS.F ht⟩) hS.2.2 dX10_cancel_51)
    · skip
      subst hr9
      refine lv_if_eq (tgt := 24) hx hb dX10_cancel_17 (by decide) (fun c22 => ?_) (fun c9 => absurd c9 (by decide))
      refine lv_iconst (v := 0) hx hb dX10_cancel_24 (by decide) ?_
      obtain ⟨hPc, hDc, hFc⟩ := PDq.cut (wc := [(oX10 w0 v0 v1 v2 v3 v4 g5 g6 (nI ed) g8 v9 (nI nb) g11 g12 v13 g14 g15 g16 g17 g18 g19 g20 g21 g22 g23 g24 g25 g26 v27 v28 v29 v30 v31 v32 v33 v34 v35 v36 v37 (nI ol))]) hP hD hS hA [2] (by decide) rfl
      refine va_calli (va_runV (As := [.int 1, .int 0]) (rest := []) ⟨hx, hb, hml, hown, hts⟩ (r_good_10 l D cA sa w0 ed nb ol v0 v1 v2 v3 v4 v9 v13 v27 v28 v29 v30 v31 v32 v33 v34 v35 v36 v37 g8 g11 g12 g14 g15 g16 g17 g18 g19 g20 g21 g22 g23 g24 g26 g5 g6 g25 H.size) (cwV 2 hts gX10_cancel_X10_good_ rfl rfl rfl (by decide +kernel) ⟨(Nat.le_of_ble_eq_true rfl), (Nat.le_of_ble_eq_true rfl)⟩) ⟨Wd.blind, va_recv hK hPc (ci := 11) (q0 := 0) rfl rfl, fun U hU hW => ⟨rfl, Wd.call hPc hDc hK hC hZ hS hFc U hU hW⟩⟩ rfl rfl hl.1 rfl (lv_room (Nat.le_of_ble_eq_true rfl)) dX10_cancel_25 ⟨(Nat.le_of_ble_eq_true rfl), (Nat.le_of_ble_eq_true rfl)⟩) hS (fun q _ h => hFc q h) hFc (fun rn23 u t H1 locs ht hvm hw hB hz1 hk1 hS => ?_)
      obtain ⟨hP1, hD1⟩ := hB
      rw [ht] at hP1
      obtain ⟨hP, hD⟩ := PDq.join (w := [(v3, .inl (cA 0, 3260, .inl fh)), (v4, .inl (cA 1, 10, .inr (.inl fl))), (v0, .inl (cA 0, 326, .inl fs)), (oX10 w0 v0 v1 v2 v3 v4 g5 g6 (nI ed) 2 v9 (nI nb) g11 g12 v13 g14 g15 g16 g17 g18 g19 g20 g21 g22 g23 g24 g25 g26 v27 v28 v29 v30 v31 v32 v33 v34 v35 v36 v37 (nI ol))]) 3 hP hD [2] [0, 1, 3] rfl rfl (by decide) (by decide) hk1 hFc hP1 hD1 rfl
      generalize H1 = H at hP hS ⊢
      obtain rfl : rn23 = 0 := hw
      refine lv_if_ne (tgt := 33) hx hb dX10_cancel_28 (by decide) (fun c9 => absurd c9 (by decide)) (fun c24 => ?_)
      refine lv_iconst (v := 0) hx hb dX10_cancel_31 (by decide) ?_
      obtain ⟨hP9, hD9⟩ := PDq.sub (ws' := [(oX10 w0 v0 v1 v2 v3 v4 g5 g6 (nI ed) 2 v9 (nI nb) g11 g12 v13 g14 g15 g16 g17 g18 g19 g20 g21 g22 g23 g24 g25 g26 v27 v28 v29 v30 v31 v32 v33 v34 v35 v36 v37 (nI ol)), (v0, .inl (cA 0, 326, .inl fs)), (v3, .inl (cA 0, 3260, .inl fh)), (v4, .inl (cA 1, 10, .inr (.inl fl)))]) hP hD [3, 2, 0, 1] (by decide) rfl
      refine W.widen (k := 0) (n := 0) (Nat.le_of_ble_eq_true rfl) (Nat.le_of_ble_eq_true rfl) ?_
      exact (W.iret (v := 0) hx hb hr (fun t ht hW => ⟨⟨0, (), rfl, trivial, ed, en, 2, fs, fh, fl, hed, hHI, hen, hri, (by subst hrs; exact Or.inr ⟨(fun ⟨k9, q8, q9, q7⟩ => by have q6 := nI_ij (hn4.symm.trans q9) (by omega) (by omega); subst q6; exact hn8 q7), rfl, rfl, rfl, rfl⟩), by rw [ht]; exact hP9, hD9⟩, hS.F ht⟩) hS.2.2 dX10_cancel_32)
  · skip
    subst hr9
    refine lv_istore_n (lv' := [(2, .int 0), (0, .ref w0), (1, .int i)]) hx hb dX10_cancel_5 rfl hl (by decide) rfl (fun ls hl => ?_)
    refine lv_aload_n hx hb dX10_cancel_6 rfl (lv_at hl 1 rfl) ?_
    refine lv_iload_n hx hb dX10_cancel_7 rfl (lv_at hl 0 rfl) ?_
    refine lv_iload_n hx hb dX10_cancel_8 rfl (lv_at hl 0 rfl) ?_
    refine lv_if_eq (tgt := 24) hx hb dX10_cancel_9 (by decide) (fun c25 => ?_) (fun c9 => absurd c9 (by decide))
    refine lv_iconst (v := 0) hx hb dX10_cancel_24 (by decide) ?_
    obtain ⟨hPc, hDc, hFc⟩ := PDq.cut (wc := [(oX10 w0 v0 v1 v2 v3 v4 g5 g6 (nI ed) g8 v9 (nI nb) g11 g12 v13 g14 g15 g16 g17 g18 g19 g20 g21 g22 g23 g24 g25 g26 v27 v28 v29 v30 v31 v32 v33 v34 v35 v36 v37 (nI ol))]) hP hD hS hA [2] (by decide) rfl
    refine va_calli (va_runV (As := [.int 0, .int 0]) (rest := []) ⟨hx, hb, hml, hown, hts⟩ (r_good_00 l D cA sa w0 ed nb ol v0 v1 v2 v3 v4 v9 v13 v27 v28 v29 v30 v31 v32 v33 v34 v35 v36 v37 g8 g11 g12 g14 g15 g16 g17 g18 g19 g20 g21 g22 g23 g24 g26 g5 g6 g25 H.size) (cwV 2 hts gX10_cancel_X10_good_ rfl rfl rfl (by decide +kernel) ⟨(Nat.le_of_ble_eq_true rfl), (Nat.le_of_ble_eq_true rfl)⟩) ⟨Wd.blind, va_recv hK hPc (ci := 11) (q0 := 0) rfl rfl, fun U hU hW => ⟨rfl, Wd.call hPc hDc hK hC hZ hS hFc U hU hW⟩⟩ rfl rfl hl.1 rfl (lv_room (Nat.le_of_ble_eq_true rfl)) dX10_cancel_25 ⟨(Nat.le_of_ble_eq_true rfl), (Nat.le_of_ble_eq_true rfl)⟩) hS (fun q _ h => hFc q h) hFc (fun rn26 u t H1 locs ht hvm hw hB hz1 hk1 hS => ?_)
    obtain ⟨hP1, hD1⟩ := hB
    rw [ht] at hP1
    obtain ⟨hP, hD⟩ := PDq.join (w := [(v3, .inl (cA 0, 3260, .inl fh)), (v4, .inl (cA 1, 10, .inr (.inl fl))), (v0, .inl (cA 0, 326, .inl fs)), (oX10 w0 v0 v1 v2 v3 v4 g5 g6 (nI ed) 1 v9 (nI nb) g11 g12 v13 g14 g15 g16 g17 g18 g19 g20 g21 g22 g23 g24 g25 g26 v27 v28 v29 v30 v31 v32 v33 v34 v35 v36 v37 (nI ol))]) 3 hP hD [2] [0, 1, 3] rfl rfl (by decide) (by decide) hk1 hFc hP1 hD1 rfl
    generalize H1 = H at hP hS ⊢
    obtain rfl : rn26 = 0 := hw
    refine lv_if_ne (tgt := 33) hx hb dX10_cancel_28 (by decide) (fun c9 => absurd c9 (by decide)) (fun c27 => ?_)
    refine lv_iconst (v := 0) hx hb dX10_cancel_31 (by decide) ?_
    obtain ⟨hP9, hD9⟩ := PDq.sub (ws' := [(oX10 w0 v0 v1 v2 v3 v4 g5 g6 (nI ed) 1 v9 (nI nb) g11 g12 v13 g14 g15 g16 g17 g18 g19 g20 g21 g22 g23 g24 g25 g26 v27 v28 v29 v30 v31 v32 v33 v34 v35 v36 v37 (nI ol)), (v0, .inl (cA 0, 326, .inl fs)), (v3, .inl (cA 0, 3260, .inl fh)), (v4, .inl (cA 1, 10, .inr (.inl fl)))]) hP hD [3, 2, 0, 1] (by decide) rfl
    refine W.widen (k := 0) (n := 0) (Nat.le_of_ble_eq_true rfl) (Nat.le_of_ble_eq_true rfl) ?_
    exact (W.iret (v := 0) hx hb hr (fun t ht hW => ⟨⟨0, (), rfl, trivial, ed, en, 1, fs, fh, fl, hed, hHI, hen, hri, (by subst hrs; exact Or.inr ⟨(fun ⟨k9, q8, q9, _⟩ => hn5 ⟨k9, q8, q9⟩), rfl, rfl, rfl, rfl⟩), by rw [ht]; exact hP9, hD9⟩, hS.F ht⟩) hS.2.2 dX10_cancel_32)

set_option maxHeartbeats 4000000 in
set_option maxRecDepth 100000 in
/-- reference, exactly: withdraw -/
theorem e_withdraw (l : Launch) (D : va_G) (cA : Nat → ClassId) (sa : Nat → Nat) (w0 : Nat) (ed : Nat) (nb : Nat) (ol : Nat) (v0 : Nat) (v1 : Nat) (v2 : Nat) (v3 : Nat) (v4 : Nat) (v9 : Nat) (v13 : Nat) (v27 : Nat) (v28 : Nat) (v29 : Nat) (v30 : Nat) (v31 : Nat) (v32 : Nat) (v33 : Nat) (v34 : Nat) (v35 : Nat) (v36 : Nat) (v37 : Nat) (g8 : Int32) (g11 : Int32) (g12 : Int32) (g14 : Int32) (g15 : Int32) (g16 : Int32) (g17 : Int32) (g18 : Int32) (g19 : Int32) (g20 : Int32) (g21 : Int32) (g22 : Int32) (g23 : Int32) (g24 : Int32) (g26 : Int32) (g5 : Int64) (g6 : Int64) (g25 : Int64) (cn : Nat) (pq : Nat) (en : Nat) (dy : Nat) (fs : Nat → Int32) (fh : Nat → Int32) (fl : Nat → Int64) (i : Int32) (sz : Nat) (hcn : cn ≤ 10) (hpq : pq ≤ 8) (hen : en ≤ 60) (hdy : dy ≤ 20000) (hri : RI cn pq en dy fs) (hed : ed ≤ 10) (hHI : HI cn pq ed fh) (hd9 : dy ≤ 9999) : Met l yX10_withdraw wsX10_withdraw ({ frames := 2, cells := 0, slots := 0, locals := 46 }) (va_Pc [.ref w0, .int i] (Wd D cA sa [(oX10 w0 v0 v1 v2 v3 v4 g5 g6 (nI ed) g8 v9 (nI nb) g11 g12 v13 g14 g15 g16 g17 g18 g19 g20 g21 g22 g23 g24 g25 g26 v27 v28 v29 v30 v31 v32 v33 v34 v35 v36 v37 (nI ol)), (v0, .inl (cA 0, 326, .inl fs)), (v3, .inl (cA 0, 3260, .inl fh)), (v4, .inl (cA 1, 10, .inr (.inl fl)))] sz)) (va_Qi (fun (r : Int32) (_ : Unit) => True) (fun (_ : Unit) t => ∃ ed2 : Nat, ∃ e2 : Nat, ∃ zt : Int32, ∃ zs : Nat → Int32, ∃ zh : Nat → Int32, ∃ zl : Nat → Int64, ed2 ≤ 10 ∧ HI cn pq ed2 zh ∧ e2 ≤ 60 ∧ RI cn pq e2 dy zs ∧ EdK cn i (AcDis fs) (wdrR) ed fh fl fs g5 ed2 zh zl zs ∧ Wq D (va_A [(oX10 w0 v0 v1 v2 v3 v4 g5 g6 (nI ed) g8 v9 (nI nb) g11 g12 v13 g14 g15 g16 g17 g18 g19 g20 g21 g22 g23 g24 g25 g26 v27 v28 v29 v30 v31 v32 v33 v34 v35 v36 v37 (nI ol)), (v0, .inl (cA 0, 326, .inl fs)), (v3, .inl (cA 0, 3260, .inl fh)), (v4, .inl (cA 1, 10, .inr (.inl fl)))] sz) [(oX10 w0 v0 v1 v2 v3 v4 g5 g6 (nI ed2) zt v9 (nI nb) g11 g12 v13 g14 g15 g16 g17 g18 g19 g20 g21 g22 g23 g24 g25 g26 v27 v28 v29 v30 v31 v32 v33 v34 v35 v36 v37 (nI ol)), (v0, .inl (cA 0, 326, .inl zs)), (v3, .inl (cA 0, 3260, .inl zh)), (v4, .inl (cA 1, 10, .inr (.inl zl)))] t) (va_A [(oX10 w0 v0 v1 v2 v3 v4 g5 g6 (nI ed) g8 v9 (nI nb) g11 g12 v13 g14 g15 g16 g17 g18 g19 g20 g21 g22 g23 g24 g25 g26 v27 v28 v29 v30 v31 v32 v33 v34 v35 v36 v37 (nI ol)), (v0, .inl (cA 0, 326, .inl fs)), (v3, .inl (cA 0, 3260, .inl fh)), (v4, .inl (cA 1, 10, .inr (.inl fl)))] sz)) 0 0 (va_A [(oX10 w0 v0 v1 v2 v3 v4 g5 g6 (nI ed) g8 v9 (nI nb) g11 g12 v13 g14 g15 g16 g17 g18 g19 g20 g21 g22 g23 g24 g25 g26 v27 v28 v29 v30 v31 v32 v33 v34 v35 v36 v37 (nI ol)), (v0, .inl (cA 0, 326, .inl fs)), (v3, .inl (cA 0, 3260, .inl fh)), (v4, .inl (cA 1, 10, .inr (.inl fl)))] sz) := by
  refine Met.ofW (cc := cX10_withdraw) (maxL := 3) (ret := (some .int)) (by decide) rfl ?_
  intro p e s m args below meth c s₁ B hml hv
  obtain ⟨rfl, hsz, hP, hK, hD0, hC, hZ⟩ := hv
  have hx := B.exec
  have hb := B.bytes
  have hr := B.returns
  have hts := atoms_spec (ws := wsX10_withdraw) B.pre
  have hown : s.vm.findClass RX10 = some m.cls := findClass_of_methodNamed B.named
  have hlocks := B.notSynchronized
  subst hsz
  have hD := hD0.self (sz := s.heap.size)
  generalize hAe : va_A [(oX10 w0 v0 v1 v2 v3 v4 g5 g6 (nI ed) g8 v9 (nI nb) g11 g12 v13 g14 g15 g16 g17 g18 g19 g20 g21 g22 g23 g24 g25 g26 v27 v28 v29 v30 v31 v32 v33 v34 v35 v36 v37 (nI ol)), (v0, .inl (cA 0, 326, .inl fs)), (v3, .inl (cA 0, 3260, .inl fh)), (v4, .inl (cA 1, 10, .inr (.inl fl)))] s.heap.size = A at hD hZ ⊢
  have hA : ∀ q : Nat, s.heap.size ≤ q → A q := fun q h => by rw [← hAe]; exact Or.inr h
  have hS : va_S A s.heap s.heap [] := va_S.rf
  have hP : va_P D vwCl [(oX10 w0 v0 v1 v2 v3 v4 g5 g6 (nI ed) g8 v9 (nI nb) g11 g12 v13 g14 g15 g16 g17 g18 g19 g20 g21 g22 g23 g24 g25 g26 v27 v28 v29 v30 v31 v32 v33 v34 v35 v36 v37 (nI ol)), (v0, .inl (cA 0, 326, .inl fs)), (v3, .inl (cA 0, 3260, .inl fh)), (v4, .inl (cA 1, 10, .inr (.inl fl)))] s.heap := hP
  have hl := lv_entry ([.ref w0, .int i]) (n := 3) (Nat.le_of_ble_eq_true rfl)
  rw [lg_entry_eq]
  generalize (lg_sl ([.ref w0, .int i]) ++ List.replicate (3 - (lg_sl ([.ref w0, .int i])).length) Slot.unset).toArray = ls at hl ⊢
  have hl : lv_has ls 3 [(0, .ref w0), (1, .int i)] := hl
  obtain ⟨rs, hrs⟩ : ∃ r : Nat → Int32, r = fs := ⟨fs, rfl⟩
  have hrs9 : Ab rs fs := by rw [hrs]; exact Ab.rf fs
  refine lv_aload_n hx hb dX10_withdraw_0 rfl (lv_at hl 0 rfl) ?_
  refine lv_iload_n hx hb dX10_withdraw_1 rfl (lv_at hl 1 rfl) ?_
  obtain ⟨hPc, hDc, hFc⟩ := PDq.cut (wc := [(oX10 w0 v0 v1 v2 v3 v4 g5 g6 (nI ed) g8 v9 (nI nb) g11 g12 v13 g14 g15 g16 g17 g18 g19 g20 g21 g22 g23 g24 g25 g26 v27 v28 v29 v30 v31 v32 v33 v34 v35 v36 v37 (nI ol)), (v0, .inl (cA 0, 326, .inl fs))]) hP hD hS hA [0, 1] (by decide) rfl
  refine va_calli (va_runV (As := [.int i]) (rest := []) ⟨hx, hb, hml, hown, hts⟩ (e_isMilestone l D cA sa w0 ed nb ol v0 v1 v2 v3 v4 v9 v13 v27 v28 v29 v30 v31 v32 v33 v34 v35 v36 v37 g8 g11 g12 g14 g15 g16 g17 g18 g19 g20 g21 g22 g23 g24 g26 g5 g6 g25 cn pq en dy fs i s.heap.size hcn hpq hen hdy hri) (cwV 1 hts gX10_withdraw_X10_isMilestone rfl rfl rfl (by decide +kernel) ⟨(Nat.le_of_ble_eq_true rfl), (Nat.le_of_ble_eq_true rfl)⟩) ⟨Wd.blind, va_recv hK hPc (ci := 11) (q0 := 0) rfl rfl, fun U hU hW => ⟨rfl, Wd.call hPc hDc hK hC hZ hS hFc U hU hW⟩⟩ rfl rfl hl.1 rfl (lv_room (Nat.le_of_ble_eq_true rfl)) dX10_withdraw_2 ⟨(Nat.le_of_ble_eq_true rfl), (Nat.le_of_ble_eq_true rfl)⟩) hS (fun q _ h => hFc q h) hFc (fun rn1 u t H1 locs ht hvm hw hB hz1 hk1 hS => ?_)
  obtain ⟨hP1, hD1⟩ := hB
  rw [ht] at hP1
  obtain ⟨hP, hD⟩ := PDq.join (w := [(v3, .inl (cA 0, 3260, .inl fh)), (v4, .inl (cA 1, 10, .inr (.inl fl))), (oX10 w0 v0 v1 v2 v3 v4 g5 g6 (nI ed) g8 v9 (nI nb) g11 g12 v13 g14 g15 g16 g17 g18 g19 g20 g21 g22 g23 g24 g25 g26 v27 v28 v29 v30 v31 v32 v33 v34 v35 v36 v37 (nI ol)), (v0, .inl (cA 0, 326, .inl fs))]) 2 hP hD [0, 1] [2, 3] rfl rfl (by decide) (by decide) hk1 hFc hP1 hD1 rfl
  generalize H1 = H at hP hS ⊢
  rcases hw with ⟨hr9, kn2, hn3, hn4⟩ | ⟨hr9, hn5⟩
  · skip
    subst hr9
    rw [hn4] at hl
    have hl : lv_has ls 3 [(0, .ref w0), (1, .int (nI kn2))] := hl
    refine lv_istore_n (lv' := [(2, .int 1), (0, .ref w0), (1, .int (nI kn2))]) hx hb dX10_withdraw_5 rfl hl (by decide) rfl (fun ls hl => ?_)
    refine lv_aload_n hx hb dX10_withdraw_6 rfl (lv_at hl 1 rfl) ?_
    refine lv_iload_n hx hb dX10_withdraw_7 rfl (lv_at hl 0 rfl) ?_
    refine lv_iload_n hx hb dX10_withdraw_8 rfl (lv_at hl 0 rfl) ?_
    refine lv_if_eq (tgt := 26) hx hb dX10_withdraw_9 (by decide) (fun c9 => absurd c9 (by decide)) (fun c6 => ?_)
    refine lv_aload_n hx hb dX10_withdraw_12 rfl (lv_at hl 1 rfl) ?_
    refine lv_iload_n hx hb dX10_withdraw_13 rfl (lv_at hl 2 rfl) ?_
    refine lv_iconst (v := 2) hx hb dX10_withdraw_14 (by decide) ?_
    obtain ⟨hPc, hDc, hFc⟩ := PDq.cut (wc := [(oX10 w0 v0 v1 v2 v3 v4 g5 g6 (nI ed) g8 v9 (nI nb) g11 g12 v13 g14 g15 g16 g17 g18 g19 g20 g21 g22 g23 g24 g25 g26 v27 v28 v29 v30 v31 v32 v33 v34 v35 v36 v37 (nI ol)), (v0, .inl (cA 0, 326, .inl fs))]) hP hD hS hA [2, 3] (by decide) rfl
    refine va_calli (va_runV (As := [.int (nI kn2), .int 2]) (rest := [.int 1, .ref w0]) ⟨hx, hb, hml, hown, hts⟩ (e_of l D cA sa w0 ed nb ol v0 v1 v2 v3 v4 v9 v13 v27 v28 v29 v30 v31 v32 v33 v34 v35 v36 v37 g8 g11 g12 g14 g15 g16 g17 g18 g19 g20 g21 g22 g23 g24 g26 g5 g6 g25 rs fs kn2 2 H.size hrs9 (by omega) (by omega)) (cwV 2 hts gX10_withdraw_X10_of rfl rfl rfl (by decide +kernel) ⟨(Nat.le_of_ble_eq_true rfl), (Nat.le_of_ble_eq_true rfl)⟩) ⟨Wd.blind, va_recv hK hPc (ci := 11) (q0 := 0) rfl rfl, fun U hU hW => ⟨rfl, Wd.call hPc hDc hK hC hZ hS hFc U hU hW⟩⟩ rfl rfl hl.1 rfl (lv_room (Nat.le_of_ble_eq_true rfl)) dX10_withdraw_15 ⟨(Nat.le_of_ble_eq_true rfl), (Nat.le_of_ble_eq_true rfl)⟩) hS (fun q _ h => hFc q h) hFc (fun rn7 u t H1 locs ht hvm hw hB hz1 hk1 hS => ?_)
    obtain ⟨hP1, hD1⟩ := hB
    rw [ht] at hP1
    obtain ⟨hP, hD⟩ := PDq.join (w := [(v3, .inl (cA 0, 3260, .inl fh)), (v4, .inl (cA 1, 10, .inr (.inl fl))), (oX10 w0 v0 v1 v2 v3 v4 g5 g6 (nI ed) g8 v9 (nI nb) g11 g12 v13 g14 g15 g16 g17 g18 g19 g20 g21 g22 g23 g24 g25 g26 v27 v28 v29 v30 v31 v32 v33 v34 v35 v36 v37 (nI ol)), (v0, .inl (cA 0, 326, .inl fs))]) 2 hP hD [2, 3] [0, 1] rfl rfl (by decide) (by decide) hk1 hFc hP1 hD1 rfl
    generalize H1 = H at hP hS ⊢
    obtain rfl : rn7 = (rs (16 + 7 * kn2 + 2)) := hw.trans rfl
    refine lv_iconst (v := 2) hx hb dX10_withdraw_18 (by decide) ?_
    refine lv_icmp_ne (tgt := 26) hx hb dX10_withdraw_19 (by decide) (fun c8 => ?_) (fun c8 => ?_)
    · skip
      refine lv_iconst (v := 0) hx hb dX10_withdraw_26 (by decide) ?_
      obtain ⟨hPc, hDc, hFc⟩ := PDq.cut (wc := [(oX10 w0 v0 v1 v2 v3 v4 g5 g6 (nI ed) g8 v9 (nI nb) g11 g12 v13 g14 g15 g16 g17 g18 g19 g20 g21 g22 g23 g24 g25 g26 v27 v28 v29 v30 v31 v32 v33 v34 v35 v36 v37 (nI ol))]) hP hD hS hA [2] (by decide) rfl
      refine va_calli (va_runV (As := [.int 1, .int 0]) (rest := []) ⟨hx, hb, hml, hown, hts⟩ (r_good_10 l D cA sa w0 ed nb ol v0 v1 v2 v3 v4 v9 v13 v27 v28 v29 v30 v31 v32 v33 v34 v35 v36 v37 g8 g11 g12 g14 g15 g16 g17 g18 g19 g20 g21 g22 g23 g24 g26 g5 g6 g25 H.size) (cwV 2 hts gX10_withdraw_X10_good_ rfl rfl rfl (by decide +kernel) ⟨(Nat.le_of_ble_eq_true rfl), (Nat.le_of_ble_eq_true rfl)⟩) ⟨Wd.blind, va_recv hK hPc (ci := 11) (q0 := 0) rfl rfl, fun U hU hW => ⟨rfl, Wd.call hPc hDc hK hC hZ hS hFc U hU hW⟩⟩ rfl rfl hl.1 rfl (lv_room (Nat.le_of_ble_eq_true rfl)) dX10_withdraw_27 ⟨(Nat.le_of_ble_eq_true rfl), (Nat.le_of_ble_eq_true rfl)⟩) hS (fun q _ h => hFc q h) hFc (fun rn9 u t H1 locs ht hvm hw hB hz1 hk1 hS => ?_)
      obtain ⟨hP1, hD1⟩ := hB
      rw [ht] at hP1
      obtain ⟨hP, hD⟩ := PDq.join (w := [(v3, .inl (cA 0, 3260, .inl fh)), (v4, .inl (cA 1, 10, .inr (.inl fl))), (v0, .inl (cA 0, 326, .inl fs)), (oX10 w0 v0 v1 v2 v3 v4 g5 g6 (nI ed) 2 v9 (nI nb) g11 g12 v13 g14 g15 g16 g17 g18 g19 g20 g21 g22 g23 g24 g25 g26 v27 v28 v29 v30 v31 v32 v33 v34 v35 v36 v37 (nI ol))]) 3 hP hD [2] [0, 1, 3] rfl rfl (by decide) (by decide) hk1 hFc hP1 hD1 rfl
      generalize H1 = H at hP hS ⊢
      obtain rfl : rn9 = 0 := hw
      refine lv_if_ne (tgt := 35) hx hb dX10_withdraw_30 (by decide) (fun c9 => absurd c9 (by decide)) (fun c10 => ?_)
      refine lv_iconst (v := 0) hx hb dX10_withdraw_33 (by decide) ?_
      obtain ⟨hP9, hD9⟩ := PDq.sub (ws' := [(oX10 w0 v0 v1 v2 v3 v4 g5 g6 (nI ed) 2 v9 (nI nb) g11 g12 v13 g14 g15 g16 g17 g18 g19 g20 g21 g22 g23 g24 g25 g26 v27 v28 v29 v30 v31 v32 v33 v34 v35 v36 v37 (nI ol)), (v0, .inl (cA 0, 326, .inl fs)), (v3, .inl (cA 0, 3260, .inl fh)), (v4, .inl (cA 1, 10, .inr (.inl fl)))]) hP hD [3, 2, 0, 1] (by decide) rfl
      refine W.widen (k := 0) (n := 0) (Nat.le_of_ble_eq_true rfl) (Nat.le_of_ble_eq_true rfl) ?_
      exact (W.iret (v := 0) hx hb hr (fun t ht hW => ⟨⟨0, (), rfl, trivial, ed, en, 2, fs, fh, fl, hed, hHI, hen, hri, (by subst hrs; exact Or.inr ⟨(fun ⟨k9, q8, q9, q7⟩ => by have q6 := nI_ij (hn4.symm.trans q9) (by omega) (by omega); subst q6; exact c8 q7), rfl, rfl, rfl, rfl⟩), by rw [ht]; exact hP9, hD9⟩, hS.F ht⟩) hS.2.2 dX10_withdraw_34)
    · skip
      refine lv_iconst (v := 1) hx hb dX10_withdraw_22 (by decide) ?_
      refine lv_goto (tgt := 27) hx hb dX10_withdraw_23 (by decide) ?_
      obtain ⟨hPc, hDc, hFc⟩ := PDq.cut (wc := [(oX10 w0 v0 v1 v2 v3 v4 g5 g6 (nI ed) g8 v9 (nI nb) g11 g12 v13 g14 g15 g16 g17 g18 g19 g20 g21 g22 g23 g24 g25 g26 v27 v28 v29 v30 v31 v32 v33 v34 v35 v36 v37 (nI ol))]) hP hD hS hA [2] (by decide) rfl
      refine va_calli (va_runV (As := [.int 1, .int 1]) (rest := []) ⟨hx, hb, hml, hown, hts⟩ (r_good_11 l D cA sa w0 ed nb ol v0 v1 v2 v3 v4 v9 v13 v27 v28 v29 v30 v31 v32 v33 v34 v35 v36 v37 g8 g11 g12 g14 g15 g16 g17 g18 g19 g20 g21 g22 g23 g24 g26 g5 g6 g25 H.size) (cwV 2 hts gX10_withdraw_X10_good_ rfl rfl rfl (by decide +kernel) ⟨(Nat.le_of_ble_eq_true rfl), (Nat.le_of_ble_eq_true rfl)⟩) ⟨Wd.blind, va_recv hK hPc (ci := 11) (q0 := 0) rfl rfl, fun U hU hW => ⟨rfl, Wd.call hPc hDc hK hC hZ hS hFc U hU hW⟩⟩ rfl rfl hl.1 rfl (lv_room (Nat.le_of_ble_eq_true rfl)) dX10_withdraw_27 ⟨(Nat.le_of_ble_eq_true rfl), (Nat.le_of_ble_eq_true rfl)⟩) hS (fun q _ h => hFc q h) hFc (fun rn11 u t H1 locs ht hvm hw hB hz1 hk1 hS => ?_)
      obtain ⟨hP1, hD1⟩ := hB
      rw [ht] at hP1
      obtain ⟨hP, hD⟩ := PDq.join (w := [(v3, .inl (cA 0, 3260, .inl fh)), (v4, .inl (cA 1, 10, .inr (.inl fl))), (v0, .inl (cA 0, 326, .inl fs)), (oX10 w0 v0 v1 v2 v3 v4 g5 g6 (nI ed) 0 v9 (nI nb) g11 g12 v13 g14 g15 g16 g17 g18 g19 g20 g21 g22 g23 g24 g25 g26 v27 v28 v29 v30 v31 v32 v33 v34 v35 v36 v37 (nI ol))]) 3 hP hD [2] [0, 1, 3] rfl rfl (by decide) (by decide) hk1 hFc hP1 hD1 rfl
      generalize H1 = H at hP hS ⊢
      obtain rfl : rn11 = 1 := hw
      refine lv_if_ne (tgt := 35) hx hb dX10_withdraw_30 (by decide) (fun c12 => ?_) (fun c9 => absurd c9 (by decide))
      refine lv_aload_n hx hb dX10_withdraw_35 rfl (lv_at hl 1 rfl) ?_
      obtain ⟨hPc, hDc, hFc⟩ := PDq.cut (wc := [(oX10 w0 v0 v1 v2 v3 v4 g5 g6 (nI ed) 0 v9 (nI nb) g11 g12 v13 g14 g15 g16 g17 g18 g19 g20 g21 g22 g23 g24 g25 g26 v27 v28 v29 v30 v31 v32 v33 v34 v35 v36 v37 (nI ol)), (v0, .inl (cA 0, 326, .inl fs)), (v3, .inl (cA 0, 3260, .inl fh)), (v4, .inl (cA 1, 10, .inr (.inl fl)))]) hP hD hS hA [3, 2, 0, 1] (by decide) rfl
      refine va_callv (va_runV (As := []) (rest := []) ⟨hx, hb, hml, hown, hts⟩ (e_remember l D cA sa w0 ed nb ol v0 v1 v2 v3 v4 v9 v13 v27 v28 v29 v30 v31 v32 v33 v34 v35 v36 v37 0 g11 g12 g14 g15 g16 g17 g18 g19 g20 g21 g22 g23 g24 g26 g5 g6 g25 cn pq en dy fs fh fl H.size hcn hpq hen hdy hri hed hHI hd9) (cwV 0 hts gX10_withdraw_X10_remember rfl rfl rfl (by decide +kernel) ⟨(Nat.le_of_ble_eq_true rfl), (Nat.le_of_ble_eq_true rfl)⟩) ⟨Wd.blind, va_recv hK hPc (ci := 11) (q0 := 0) rfl rfl, fun U hU hW => ⟨rfl, Wd.call hPc hDc hK hC hZ hS hFc U hU hW⟩⟩ rfl rfl hl.1 rfl (lv_room (Nat.le_of_ble_eq_true rfl)) dX10_withdraw_36 ⟨(Nat.le_of_ble_eq_true rfl), (Nat.le_of_ble_eq_true rfl)⟩) hS (fun q _ h => hFc q h) hFc (fun u t H1 locs ht hvm hw hB hz1 hk1 hS => ?_)
      obtain ⟨qn13, fn14, fn15, hn16, hn17, hn18, hP1, hD1⟩ := hB
      rw [ht] at hP1
      obtain ⟨hP, hD⟩ := PDq.join (w := [(oX10 w0 v0 v1 v2 v3 v4 g5 g6 (nI qn13) 0 v9 (nI nb) g11 g12 v13 g14 g15 g16 g17 g18 g19 g20 g21 g22 g23 g24 g25 g26 v27 v28 v29 v30 v31 v32 v33 v34 v35 v36 v37 (nI ol)), (v0, .inl (cA 0, 326, .inl fs)), (v3, .inl (cA 0, 3260, .inl fn14)), (v4, .inl (cA 1, 10, .inr (.inl fn15)))]) 0 hP hD [3, 2, 0, 1] [] rfl rfl (by decide) (by decide) hk1 hFc hP1 hD1 rfl
      generalize H1 = H at hP hS ⊢
      refine lv_aload_n hx hb dX10_withdraw_39 rfl (lv_at hl 1 rfl) ?_
      refine lv_iload_n hx hb dX10_withdraw_40 rfl (lv_at hl 2 rfl) ?_
      refine lv_iconst (v := 3) hx hb dX10_withdraw_41 (by decide) ?_
      refine lv_iconst (v := 0) hx hb dX10_withdraw_42 (by decide) ?_
      obtain ⟨hPc, hDc, hFc⟩ := PDq.cut (wc := [(oX10 w0 v0 v1 v2 v3 v4 g5 g6 (nI qn13) 0 v9 (nI nb) g11 g12 v13 g14 g15 g16 g17 g18 g19 g20 g21 g22 g23 g24 g25 g26 v27 v28 v29 v30 v31 v32 v33 v34 v35 v36 v37 (nI ol)), (v0, .inl (cA 0, 326, .inl fs))]) hP hD hS hA [0, 1] (by decide) rfl
      refine va_callv (va_runV (As := [.int (nI kn2), .int 3, .int 0]) (rest := []) ⟨hx, hb, hml, hown, hts⟩ (e_set l D cA sa w0 qn13 nb ol v0 v1 v2 v3 v4 v9 v13 v27 v28 v29 v30 v31 v32 v33 v34 v35 v36 v37 0 g11 g12 g14 g15 g16 g17 g18 g19 g20 g21 g22 g23 g24 g26 g5 g6 g25 cn pq en dy fs rs kn2 3 0 H.size hrs9 hcn hpq hen hdy hri (by omega) (by omega)) (cwV 3 hts gX10_withdraw_X10_set rfl rfl rfl (by decide +kernel) ⟨(Nat.le_of_ble_eq_true rfl), (Nat.le_of_ble_eq_true rfl)⟩) ⟨Wd.blind, va_recv hK hPc (ci := 11) (q0 := 0) rfl rfl, fun U hU hW => ⟨rfl, Wd.call hPc hDc hK hC hZ hS hFc U hU hW⟩⟩ rfl rfl hl.1 rfl (lv_room (Nat.le_of_ble_eq_true rfl)) dX10_withdraw_43 ⟨(Nat.le_of_ble_eq_true rfl), (Nat.le_of_ble_eq_true rfl)⟩) hS (fun q _ h => hFc q h) hFc (fun u t H1 locs ht hvm hw hB hz1 hk1 hS => ?_)
      obtain ⟨fn19, hn20, hn21, hP1, hD1⟩ := hB
      rw [ht] at hP1
      obtain ⟨hP, hD⟩ := PDq.join (w := [(v3, .inl (cA 0, 3260, .inl fn14)), (v4, .inl (cA 1, 10, .inr (.inl fn15))), (oX10 w0 v0 v1 v2 v3 v4 g5 g6 (nI qn13) 0 v9 (nI nb) g11 g12 v13 g14 g15 g16 g17 g18 g19 g20 g21 g22 g23 g24 g25 g26 v27 v28 v29 v30 v31 v32 v33 v34 v35 v36 v37 (nI ol)), (v0, .inl (cA 0, 326, .inl fn19))]) 2 hP hD [0, 1] [2, 3] rfl rfl (by decide) (by decide) hk1 hFc hP1 hD1 rfl
      generalize H1 = H at hP hS ⊢
      refine lv_aload_n hx hb dX10_withdraw_46 rfl (lv_at hl 1 rfl) ?_
      refine lv_iload_n hx hb dX10_withdraw_47 rfl (lv_at hl 2 rfl) ?_
      refine lv_iconst (v := 2) hx hb dX10_withdraw_48 (by decide) ?_
      refine lv_iconst (v := 0) hx hb dX10_withdraw_49 (by decide) ?_
      obtain ⟨hPc, hDc, hFc⟩ := PDq.cut (wc := [(oX10 w0 v0 v1 v2 v3 v4 g5 g6 (nI qn13) 0 v9 (nI nb) g11 g12 v13 g14 g15 g16 g17 g18 g19 g20 g21 g22 g23 g24 g25 g26 v27 v28 v29 v30 v31 v32 v33 v34 v35 v36 v37 (nI ol)), (v0, .inl (cA 0, 326, .inl fn19))]) hP hD hS hA [2, 3] (by decide) rfl
      refine va_callv (va_runV (As := [.int (nI kn2), .int 2, .int 0]) (rest := []) ⟨hx, hb, hml, hown, hts⟩ (e_set l D cA sa w0 qn13 nb ol v0 v1 v2 v3 v4 v9 v13 v27 v28 v29 v30 v31 v32 v33 v34 v35 v36 v37 0 g11 g12 g14 g15 g16 g17 g18 g19 g20 g21 g22 g23 g24 g26 g5 g6 g25 cn pq en dy fn19 (upd rs (16 + 7 * kn2 + 3) 0) kn2 2 0 H.size hn21 hcn hpq hen hdy hn20 (by omega) (by omega)) (cwV 3 hts gX10_withdraw_X10_set rfl rfl rfl (by decide +kernel) ⟨(Nat.le_of_ble_eq_true rfl), (Nat.le_of_ble_eq_true rfl)⟩) ⟨Wd.blind, va_recv hK hPc (ci := 11) (q0 := 0) rfl rfl, fun U hU hW => ⟨rfl, Wd.call hPc hDc hK hC hZ hS hFc U hU hW⟩⟩ rfl rfl hl.1 rfl (lv_room (Nat.le_of_ble_eq_true rfl)) dX10_withdraw_50 ⟨(Nat.le_of_ble_eq_true rfl), (Nat.le_of_ble_eq_true rfl)⟩) hS (fun q _ h => hFc q h) hFc (fun u t H1 locs ht hvm hw hB hz1 hk1 hS => ?_)
      obtain ⟨fn22, hn23, hn24, hP1, hD1⟩ := hB
      rw [ht] at hP1
      obtain ⟨hP, hD⟩ := PDq.join (w := [(v3, .inl (cA 0, 3260, .inl fn14)), (v4, .inl (cA 1, 10, .inr (.inl fn15))), (oX10 w0 v0 v1 v2 v3 v4 g5 g6 (nI qn13) 0 v9 (nI nb) g11 g12 v13 g14 g15 g16 g17 g18 g19 g20 g21 g22 g23 g24 g25 g26 v27 v28 v29 v30 v31 v32 v33 v34 v35 v36 v37 (nI ol)), (v0, .inl (cA 0, 326, .inl fn22))]) 2 hP hD [2, 3] [0, 1] rfl rfl (by decide) (by decide) hk1 hFc hP1 hD1 rfl
      generalize H1 = H at hP hS ⊢
      refine lv_aload_n hx hb dX10_withdraw_53 rfl (lv_at hl 1 rfl) ?_
      obtain ⟨hPc, hDc, hFc⟩ := PDq.cut (wc := [(oX10 w0 v0 v1 v2 v3 v4 g5 g6 (nI qn13) 0 v9 (nI nb) g11 g12 v13 g14 g15 g16 g17 g18 g19 g20 g21 g22 g23 g24 g25 g26 v27 v28 v29 v30 v31 v32 v33 v34 v35 v36 v37 (nI ol)), (v0, .inl (cA 0, 326, .inl fn22))]) hP hD hS hA [2, 3] (by decide) rfl
      refine va_calli (va_runV (As := []) (rest := []) ⟨hx, hb, hml, hown, hts⟩ (e_availableNow l D cA sa w0 qn13 nb ol v0 v1 v2 v3 v4 v9 v13 v27 v28 v29 v30 v31 v32 v33 v34 v35 v36 v37 0 g11 g12 g14 g15 g16 g17 g18 g19 g20 g21 g22 g23 g24 g26 g5 g6 g25 cn pq en dy fn22 (upd (upd rs (16 + 7 * kn2 + 3) 0) (16 + 7 * kn2 + 2) 0) H.size hn24 hcn hpq hen hdy hn23) (cwV 0 hts gX10_withdraw_X10_availableNow rfl rfl rfl (by decide +kernel) ⟨(Nat.le_of_ble_eq_true rfl), (Nat.le_of_ble_eq_true rfl)⟩) ⟨Wd.blind, va_recv hK hPc (ci := 11) (q0 := 0) rfl rfl, fun U hU hW => ⟨rfl, Wd.call hPc hDc hK hC hZ hS hFc U hU hW⟩⟩ rfl rfl hl.1 rfl (lv_room (Nat.le_of_ble_eq_true rfl)) dX10_withdraw_54 ⟨(Nat.le_of_ble_eq_true rfl), (Nat.le_of_ble_eq_true rfl)⟩) hS (fun q _ h => hFc q h) hFc (fun rn25 u t H1 locs ht hvm hw hB hz1 hk1 hS => ?_)
      obtain ⟨hP1, hD1⟩ := hB
      rw [ht] at hP1
      obtain ⟨hP, hD⟩ := PDq.join (w := [(v3, .inl (cA 0, 3260, .inl fn14)), (v4, .inl (cA 1, 10, .inr (.inl fn15))), (oX10 w0 v0 v1 v2 v3 v4 g5 g6 (nI qn13) 0 v9 (nI nb) g11 g12 v13 g14 g15 g16 g17 g18 g19 g20 g21 g22 g23 g24 g25 g26 v27 v28 v29 v30 v31 v32 v33 v34 v35 v36 v37 (nI ol)), (v0, .inl (cA 0, 326, .inl fn22))]) 2 hP hD [2, 3] [0, 1] rfl rfl (by decide) (by decide) hk1 hFc hP1 hD1 rfl
      generalize H1 = H at hP hS ⊢
      obtain rfl : rn25 = (avR (upd (upd rs (16 + 7 * kn2 + 3) 0) (16 + 7 * kn2 + 2) 0) cn) := hw
      obtain ⟨hP9, hD9⟩ := PDq.sub (ws' := [(oX10 w0 v0 v1 v2 v3 v4 g5 g6 (nI qn13) 0 v9 (nI nb) g11 g12 v13 g14 g15 g16 g17 g18 g19 g20 g21 g22 g23 g24 g25 g26 v27 v28 v29 v30 v31 v32 v33 v34 v35 v36 v37 (nI ol)), (v0, .inl (cA 0, 326, .inl fn22)), (v3, .inl (cA 0, 3260, .inl fn14)), (v4, .inl (cA 1, 10, .inr (.inl fn15)))]) hP hD [2, 3, 0, 1] (by decide) rfl
      refine W.widen (k := 0) (n := 0) (Nat.le_of_ble_eq_true rfl) (Nat.le_of_ble_eq_true rfl) ?_
      exact (W.iret (v := (avR (upd (upd rs (16 + 7 * kn2 + 3) 0) (16 + 7 * kn2 + 2) 0) cn)) hx hb hr (fun t ht hW => ⟨⟨(avR (upd (upd rs (16 + 7 * kn2 + 3) 0) (16 + 7 * kn2 + 2) 0) cn), (), rfl, trivial, qn13, en, 0, fn22, fn14, fn15, hn16, hn17, hen, hn23, (by subst hrs; exact Or.inl ⟨kn2, hn3, hn4, c8, hn18, hn24⟩), by rw [ht]; exact hP9, hD9⟩, hS.F ht⟩) hS.2.2 dX10_withdraw_57)
  · skip
    subst hr9
    refine lv_istore_n (lv' := [(2, .int 0), (0, .ref w0), (1, .int i)]) hx hb dX10_withdraw_5 rfl hl (by decide) rfl (fun ls hl => ?_)
    refine lv_aload_n hx hb dX10_withdraw_6 rfl (lv_at hl 1 rfl) ?_
    refine lv_iload_n hx hb dX10_withdraw_7 rfl (lv_at hl 0 rfl) ?_
    refine lv_iload_n hx hb dX10_withdraw_8 rfl (lv_at hl 0 rfl) ?_
    refine lv_if_eq (tgt := 26) hx hb dX10_withdraw_9 (by decide) (fun c26 => ?_) (fun c9 => absurd c9 (by decide))
    refine lv_iconst (v := 0) hx hb dX10_withdraw_26 (by decide) ?_
    obtain ⟨hPc, hDc, hFc⟩ := PDq.cut (wc := [(oX10 w0 v0 v1 v2 v3 v4 g5 g6 (nI ed) g8 v9 (nI nb) g11 g12 v13 g14 g15 g16 g17 g18 g19 g20 g21 g22 g23 g24 g25 g26 v27 v28 v29 v30 v31 v32 v33 v34 v35 v36 v37 (nI ol))]) hP hD hS hA [2] (by decide) rfl
    refine va_calli (va_runV (As := [.int 0, .int 0]) (rest := []) ⟨hx, hb, hml, hown, hts⟩ (r_good_00 l D cA sa w0 ed nb ol v0 v1 v2 v3 v4 v9 v13 v27 v28 v29 v30 v31 v32 v33 v34 v35 v36 v37 g8 g11 g12 g14 g15 g16 g17 g18 g19 g20 g21 g22 g23 g24 g26 g5 g6 g25 H.size) (cwV 2 hts gX10_withdraw_X10_good_ rfl rfl rfl (by decide +kernel) ⟨(Nat.le_of_ble_eq_true rfl), (Nat.le_of_ble_eq_true rfl)⟩) ⟨Wd.blind, va_recv hK hPc (ci := 11) (q0 := 0) rfl rfl, fun U hU hW => ⟨rfl, Wd.call hPc hDc hK hC hZ hS hFc U hU hW⟩⟩ rfl rfl hl.1 rfl (lv_room (Nat.le_of_ble_eq_true rfl)) dX10_withdraw_27 ⟨(Nat.le_of_ble_eq_true rfl), (Nat.le_of_ble_eq_true rfl)⟩) hS (fun q _ h => hFc q h) hFc (fun rn27 u t H1 locs ht hvm hw hB hz1 hk1 hS => ?_)
    obtain ⟨hP1, hD1⟩ := hB
    rw [ht] at hP1
    obtain ⟨hP, hD⟩ := PDq.join (w := [(v3, .inl (cA 0, 3260, .inl fh)), (v4, .inl (cA 1, 10, .inr (.inl fl))), (v0, .inl (cA 0, 326, .inl fs)), (oX10 w0 v0 v1 v2 v3 v4 g5 g6 (nI ed) 1 v9 (nI nb) g11 g12 v13 g14 g15 g16 g17 g18 g19 g20 g21 g22 g23 g24 g25 g26 v27 v28 v29 v30 v31 v32 v33 v34 v35 v36 v37 (nI ol))]) 3 hP hD [2] [0, 1, 3] rfl rfl (by decide) (by decide) hk1 hFc hP1 hD1 rfl
    generalize H1 = H at hP hS ⊢
    obtain rfl : rn27 = 0 := hw
    refine lv_if_ne (tgt := 35) hx hb dX10_withdraw_30 (by decide) (fun c9 => absurd c9 (by decide)) (fun c28 => ?_)
    refine lv_iconst (v := 0) hx hb dX10_withdraw_33 (by decide) ?_
    obtain ⟨hP9, hD9⟩ := PDq.sub (ws' := [(oX10 w0 v0 v1 v2 v3 v4 g5 g6 (nI ed) 1 v9 (nI nb) g11 g12 v13 g14 g15 g16 g17 g18 g19 g20 g21 g22 g23 g24 g25 g26 v27 v28 v29 v30 v31 v32 v33 v34 v35 v36 v37 (nI ol)), (v0, .inl (cA 0, 326, .inl fs)), (v3, .inl (cA 0, 3260, .inl fh)), (v4, .inl (cA 1, 10, .inr (.inl fl)))]) hP hD [3, 2, 0, 1] (by decide) rfl
    refine W.widen (k := 0) (n := 0) (Nat.le_of_ble_eq_true rfl) (Nat.le_of_ble_eq_true rfl) ?_
    exact (W.iret (v := 0) hx hb hr (fun t ht hW => ⟨⟨0, (), rfl, trivial, ed, en, 1, fs, fh, fl, hed, hHI, hen, hri, (by subst hrs; exact Or.inr ⟨(fun ⟨k9, q8, q9, _⟩ => hn5 ⟨k9, q8, q9⟩), rfl, rfl, rfl, rfl⟩), by rw [ht]; exact hP9, hD9⟩, hS.F ht⟩) hS.2.2 dX10_withdraw_34)

