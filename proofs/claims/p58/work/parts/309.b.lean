set_option maxHeartbeats 4000000 in
set_option maxRecDepth 100000 in
/-- reference, exactly: pay -/
theorem e_pay (l : Launch) (D : va_G) (cA : Nat → ClassId) (sa : Nat → Nat) (w0 : Nat) (ed : Nat) (nb : Nat) (ol : Nat) (v0 : Nat) (v1 : Nat) (v2 : Nat) (v3 : Nat) (v4 : Nat) (v9 : Nat) (v13 : Nat) (v27 : Nat) (v28 : Nat) (v29 : Nat) (v30 : Nat) (v31 : Nat) (v32 : Nat) (v33 : Nat) (v34 : Nat) (v35 : Nat) (v36 : Nat) (v37 : Nat) (g8 : Int32) (g11 : Int32) (g12 : Int32) (g14 : Int32) (g15 : Int32) (g16 : Int32) (g17 : Int32) (g18 : Int32) (g19 : Int32) (g20 : Int32) (g21 : Int32) (g22 : Int32) (g23 : Int32) (g24 : Int32) (g26 : Int32) (g5 : Int64) (g6 : Int64) (g25 : Int64) (cn : Nat) (pq : Nat) (en : Nat) (dy : Nat) (fs : Nat → Int32) (fh : Nat → Int32) (fl : Nat → Int64) (i : Int32) (j : Int32) (sz : Nat) (hcn : cn ≤ 10) (hpq : pq ≤ 8) (hen : en ≤ 60) (hdy : dy ≤ 20000) (hri : RI cn pq en dy fs) (hed : ed ≤ 10) (hHI : HI cn pq ed fh) (hd9 : dy ≤ 9999) : Met l yX10_pay wsX10_pay ({ frames := 4, cells := 0, slots := 0, locals := 85 }) (va_Pc [.ref w0, .int i, .int j] (Wd D cA sa [(oX10 w0 v0 v1 v2 v3 v4 g5 g6 (nI ed) g8 v9 (nI nb) g11 g12 v13 g14 g15 g16 g17 g18 g19 g20 g21 g22 g23 g24 g25 g26 v27 v28 v29 v30 v31 v32 v33 v34 v35 v36 v37 (nI ol)), (v0, .inl (cA 0, 326, .inl fs)), (v3, .inl (cA 0, 3260, .inl fh)), (v4, .inl (cA 1, 10, .inr (.inl fl)))] sz)) (va_Qi (fun (r : Int32) (_ : Unit) => True) (fun (_ : Unit) t => ∃ ed2 : Nat, ∃ e2 : Nat, ∃ zt : Int32, ∃ zs : Nat → Int32, ∃ zh : Nat → Int32, ∃ zl : Nat → Int64, ed2 ≤ 10 ∧ HI cn pq ed2 zh ∧ e2 ≤ 60 ∧ RI cn pq e2 dy zs ∧ EdK cn i (AcPay fs cn j) (payR j) ed fh fl fs g5 ed2 zh zl zs ∧ Wq D (va_A [(oX10 w0 v0 v1 v2 v3 v4 g5 g6 (nI ed) g8 v9 (nI nb) g11 g12 v13 g14 g15 g16 g17 g18 g19 g20 g21 g22 g23 g24 g25 g26 v27 v28 v29 v30 v31 v32 v33 v34 v35 v36 v37 (nI ol)), (v0, .inl (cA 0, 326, .inl fs)), (v3, .inl (cA 0, 3260, .inl fh)), (v4, .inl (cA 1, 10, .inr (.inl fl)))] sz) [(oX10 w0 v0 v1 v2 v3 v4 g5 g6 (nI ed2) zt v9 (nI nb) g11 g12 v13 g14 g15 g16 g17 g18 g19 g20 g21 g22 g23 g24 g25 g26 v27 v28 v29 v30 v31 v32 v33 v34 v35 v36 v37 (nI ol)), (v0, .inl (cA 0, 326, .inl zs)), (v3, .inl (cA 0, 3260, .inl zh)), (v4, .inl (cA 1, 10, .inr (.inl zl)))] t) (va_A [(oX10 w0 v0 v1 v2 v3 v4 g5 g6 (nI ed) g8 v9 (nI nb) g11 g12 v13 g14 g15 g16 g17 g18 g19 g20 g21 g22 g23 g24 g25 g26 v27 v28 v29 v30 v31 v32 v33 v34 v35 v36 v37 (nI ol)), (v0, .inl (cA 0, 326, .inl fs)), (v3, .inl (cA 0, 3260, .inl fh)), (v4, .inl (cA 1, 10, .inr (.inl fl)))] sz)) 0 0 (va_A [(oX10 w0 v0 v1 v2 v3 v4 g5 g6 (nI ed) g8 v9 (nI nb) g11 g12 v13 g14 g15 g16 g17 g18 g19 g20 g21 g22 g23 g24 g25 g26 v27 v28 v29 v30 v31 v32 v33 v34 v35 v36 v37 (nI ol)), (v0, .inl (cA 0, 326, .inl fs)), (v3, .inl (cA 0, 3260, .inl fh)), (v4, .inl (cA 1, 10, .inr (.inl fl)))] sz) := by
  refine Met.ofW (cc := cX10_pay) (maxL := 5) (ret := (some .int)) (by decide) rfl ?_
  intro p e s m args below meth c s₁ B hml hv
  obtain ⟨rfl, hsz, hP, hK, hD0, hC, hZ⟩ := hv
  have hx := B.exec
  have hb := B.bytes
  have hr := B.returns
  have hts := atoms_spec (ws := wsX10_pay) B.pre
  have hown : s.vm.findClass RX10 = some m.cls := findClass_of_methodNamed B.named
  have hlocks := B.notSynchronized
  subst hsz
  have hD := hD0.self (sz := s.heap.size)
  generalize hAe : va_A [(oX10 w0 v0 v1 v2 v3 v4 g5 g6 (nI ed) g8 v9 (nI nb) g11 g12 v13 g14 g15 g16 g17 g18 g19 g20 g21 g22 g23 g24 g25 g26 v27 v28 v29 v30 v31 v32 v33 v34 v35 v36 v37 (nI ol)), (v0, .inl (cA 0, 326, .inl fs)), (v3, .inl (cA 0, 3260, .inl fh)), (v4, .inl (cA 1, 10, .inr (.inl fl)))] s.heap.size = A at hD hZ ⊢
  have hA : ∀ q : Nat, s.heap.size ≤ q → A q := fun q h => by rw [← hAe]; exact Or.inr h
  have hS : va_S A s.heap s.heap [] := va_S.rf
  have hP : va_P D vwCl [(oX10 w0 v0 v1 v2 v3 v4 g5 g6 (nI ed) g8 v9 (nI nb) g11 g12 v13 g14 g15 g16 g17 g18 g19 g20 g21 g22 g23 g24 g25 g26 v27 v28 v29 v30 v31 v32 v33 v34 v35 v36 v37 (nI ol)), (v0, .inl (cA 0, 326, .inl fs)), (v3, .inl (cA 0, 3260, .inl fh)), (v4, .inl (cA 1, 10, .inr (.inl fl)))] s.heap := hP
  have hl := lv_entry ([.ref w0, .int i, .int j]) (n := 5) (Nat.le_of_ble_eq_true rfl)
  rw [lg_entry_eq]
  generalize (lg_sl ([.ref w0, .int i, .int j]) ++ List.replicate (5 - (lg_sl ([.ref w0, .int i, .int j])).length) Slot.unset).toArray = ls at hl ⊢
  have hl : lv_has ls 5 [(0, .ref w0), (1, .int i), (2, .int j)] := hl
  have inX10 : ∀ w ∈ u_ws RX10 TX10 39, w ∈ wsX10_pay := by decide +kernel
  obtain ⟨rs, hrs⟩ : ∃ r : Nat → Int32, r = fs := ⟨fs, rfl⟩
  have hrs9 : Ab rs fs := by rw [hrs]; exact Ab.rf fs
  refine lv_aload_n hx hb dX10_pay_0 rfl (lv_at hl 0 rfl) ?_
  refine lv_iload_n hx hb dX10_pay_1 rfl (lv_at hl 1 rfl) ?_
  obtain ⟨hPc, hDc, hFc⟩ := PDq.cut (wc := [(oX10 w0 v0 v1 v2 v3 v4 g5 g6 (nI ed) g8 v9 (nI nb) g11 g12 v13 g14 g15 g16 g17 g18 g19 g20 g21 g22 g23 g24 g25 g26 v27 v28 v29 v30 v31 v32 v33 v34 v35 v36 v37 (nI ol)), (v0, .inl (cA 0, 326, .inl fs))]) hP hD hS hA [0, 1] (by decide) rfl
  refine va_calli (va_runV (As := [.int i]) (rest := []) ⟨hx, hb, hml, hown, hts⟩ (e_isMilestone l D cA sa w0 ed nb ol v0 v1 v2 v3 v4 v9 v13 v27 v28 v29 v30 v31 v32 v33 v34 v35 v36 v37 g8 g11 g12 g14 g15 g16 g17 g18 g19 g20 g21 g22 g23 g24 g26 g5 g6 g25 cn pq en dy fs i s.heap.size hcn hpq hen hdy hri) (cwV 1 hts gX10_pay_X10_isMilestone rfl rfl rfl (by decide +kernel) ⟨(Nat.le_of_ble_eq_true rfl), (Nat.le_of_ble_eq_true rfl)⟩) ⟨Wd.blind, va_recv hK hPc (ci := 11) (q0 := 0) rfl rfl, fun U hU hW => ⟨rfl, Wd.call hPc hDc hK hC hZ hS hFc U hU hW⟩⟩ rfl rfl hl.1 rfl (lv_room (Nat.le_of_ble_eq_true rfl)) dX10_pay_2 ⟨(Nat.le_of_ble_eq_true rfl), (Nat.le_of_ble_eq_true rfl)⟩) hS (fun q _ h => hFc q h) hFc (fun rn1 u t H1 locs ht hvm hw hB hz1 hk1 hS => ?_)
  obtain ⟨hP1, hD1⟩ := hB
  rw [ht] at hP1
  obtain ⟨hP, hD⟩ := PDq.join (w := [(v3, .inl (cA 0, 3260, .inl fh)), (v4, .inl (cA 1, 10, .inr (.inl fl))), (oX10 w0 v0 v1 v2 v3 v4 g5 g6 (nI ed) g8 v9 (nI nb) g11 g12 v13 g14 g15 g16 g17 g18 g19 g20 g21 g22 g23 g24 g25 g26 v27 v28 v29 v30 v31 v32 v33 v34 v35 v36 v37 (nI ol)), (v0, .inl (cA 0, 326, .inl fs))]) 2 hP hD [0, 1] [2, 3] rfl rfl (by decide) (by decide) hk1 hFc hP1 hD1 rfl
  generalize H1 = H at hP hS ⊢
  rcases hw with ⟨hr9, kn2, hn3, hn4⟩ | ⟨hr9, hn5⟩
  · skip
    subst hr9
    rw [hn4] at hl
    have hl : lv_has ls 5 [(0, .ref w0), (1, .int (nI kn2)), (2, .int j)] := hl
    refine lv_istore_n (lv' := [(3, .int 1), (0, .ref w0), (1, .int (nI kn2)), (2, .int j)]) hx hb dX10_pay_5 rfl hl (by decide) rfl (fun ls hl => ?_)
    refine lv_aload_n hx hb dX10_pay_6 rfl (lv_at hl 1 rfl) ?_
    refine lv_iload_n hx hb dX10_pay_7 rfl (lv_at hl 0 rfl) ?_
    refine lv_iload_n hx hb dX10_pay_8 rfl (lv_at hl 0 rfl) ?_
    refine lv_if_eq (tgt := 31) hx hb dX10_pay_9 (by decide) (fun c9 => absurd c9 (by decide)) (fun c6 => ?_)
    refine lv_iload_n hx hb dX10_pay_12 rfl (lv_at hl 3 rfl) ?_
    refine lv_i2l (v := (j.toInt64)) hx hb dX10_pay_13 rfl ?_
    refine lv_lconst (v := 1) hx hb dX10_pay_14 (by decide) ?_
    refine lv_aload_n hx hb dX10_pay_15 rfl (lv_at hl 1 rfl) ?_
    refine lv_iload_n hx hb dX10_pay_16 rfl (lv_at hl 2 rfl) ?_
    obtain ⟨hPc, hDc, hFc⟩ := PDq.cut (wc := [(oX10 w0 v0 v1 v2 v3 v4 g5 g6 (nI ed) g8 v9 (nI nb) g11 g12 v13 g14 g15 g16 g17 g18 g19 g20 g21 g22 g23 g24 g25 g26 v27 v28 v29 v30 v31 v32 v33 v34 v35 v36 v37 (nI ol)), (v0, .inl (cA 0, 326, .inl fs))]) hP hD hS hA [2, 3] (by decide) rfl
    refine va_calli (va_runV (As := [.int (nI kn2)]) (rest := [.long 1, .long (j.toInt64), .int 1, .ref w0]) ⟨hx, hb, hml, hown, hts⟩ (e_remainingOf l D cA sa w0 ed nb ol v0 v1 v2 v3 v4 v9 v13 v27 v28 v29 v30 v31 v32 v33 v34 v35 v36 v37 g8 g11 g12 g14 g15 g16 g17 g18 g19 g20 g21 g22 g23 g24 g26 g5 g6 g25 rs fs kn2 H.size hrs9 (by omega)) (cwV 1 hts gX10_pay_X10_remainingOf rfl rfl rfl (by decide +kernel) ⟨(Nat.le_of_ble_eq_true rfl), (Nat.le_of_ble_eq_true rfl)⟩) ⟨Wd.blind, va_recv hK hPc (ci := 11) (q0 := 0) rfl rfl, fun U hU hW => ⟨rfl, Wd.call hPc hDc hK hC hZ hS hFc U hU hW⟩⟩ rfl rfl hl.1 rfl (lv_room (Nat.le_of_ble_eq_true rfl)) dX10_pay_17 ⟨(Nat.le_of_ble_eq_true rfl), (Nat.le_of_ble_eq_true rfl)⟩) hS (fun q _ h => hFc q h) hFc (fun rn7 u t H1 locs ht hvm hw hB hz1 hk1 hS => ?_)
    obtain ⟨hP1, hD1⟩ := hB
    rw [ht] at hP1
    obtain ⟨hP, hD⟩ := PDq.join (w := [(v3, .inl (cA 0, 3260, .inl fh)), (v4, .inl (cA 1, 10, .inr (.inl fl))), (oX10 w0 v0 v1 v2 v3 v4 g5 g6 (nI ed) g8 v9 (nI nb) g11 g12 v13 g14 g15 g16 g17 g18 g19 g20 g21 g22 g23 g24 g25 g26 v27 v28 v29 v30 v31 v32 v33 v34 v35 v36 v37 (nI ol)), (v0, .inl (cA 0, 326, .inl fs))]) 2 hP hD [2, 3] [0, 1] rfl rfl (by decide) (by decide) hk1 hFc hP1 hD1 rfl
    generalize H1 = H at hP hS ⊢
    obtain rfl : rn7 = (remR rs kn2) := hw
    refine lv_i2l (v := ((remR rs kn2).toInt64)) hx hb dX10_pay_20 rfl ?_
    obtain ⟨hPc, hDc, hFc⟩ := PDq.cut (wc := []) hP hD hS hA [] (by decide) rfl
    refine va_calli (va_runS (As := [.long (j.toInt64), .long 1, .long ((remR rs kn2).toInt64)]) (rest := [.int 1, .ref w0]) ⟨hx, hb, hml, hown, hts⟩ (e_between l D cA sa (j.toInt64) 1 ((remR rs kn2).toInt64) H.size) (va_cwS 3 hts gX10_pay_X10_between rfl rfl rfl (by decide +kernel) ⟨(Nat.le_of_ble_eq_true rfl), (Nat.le_of_ble_eq_true rfl)⟩) ⟨Wd.blind, fun U hU hW => ⟨rfl, Wd.call hPc hDc hK hC hZ hS hFc U hU hW⟩⟩ rfl rfl hl.1 rfl (lv_room (Nat.le_of_ble_eq_true rfl)) dX10_pay_21 ⟨(Nat.le_of_ble_eq_true rfl), (Nat.le_of_ble_eq_true rfl)⟩) hS (fun q _ h => hFc q h) hFc (fun rn8 u t H1 locs ht hvm hw hB hz1 hk1 hS => ?_)
    obtain ⟨hP1, hD1⟩ := hB
    rw [ht] at hP1
    obtain ⟨hP, hD⟩ := PDq.join (w := [(v3, .inl (cA 0, 3260, .inl fh)), (v4, .inl (cA 1, 10, .inr (.inl fl))), (oX10 w0 v0 v1 v2 v3 v4 g5 g6 (nI ed) g8 v9 (nI nb) g11 g12 v13 g14 g15 g16 g17 g18 g19 g20 g21 g22 g23 g24 g25 g26 v27 v28 v29 v30 v31 v32 v33 v34 v35 v36 v37 (nI ol)), (v0, .inl (cA 0, 326, .inl fs))]) 4 hP hD [] [0, 1, 2, 3] rfl rfl (by decide) (by decide) hk1 hFc hP1 hD1 rfl
    generalize H1 = H at hP hS ⊢
    rcases hw with ⟨hr9, hn9⟩ | ⟨hr9, hn9⟩
    · skip
      subst hr9
      refine lv_if_eq (tgt := 31) hx hb dX10_pay_24 (by decide) (fun c9 => absurd c9 (by decide)) (fun c10 => ?_)
      refine lv_iconst (v := 1) hx hb dX10_pay_27 (by decide) ?_
      refine lv_goto (tgt := 32) hx hb dX10_pay_28 (by decide) ?_
      obtain ⟨hPc, hDc, hFc⟩ := PDq.cut (wc := [(oX10 w0 v0 v1 v2 v3 v4 g5 g6 (nI ed) g8 v9 (nI nb) g11 g12 v13 g14 g15 g16 g17 g18 g19 g20 g21 g22 g23 g24 g25 g26 v27 v28 v29 v30 v31 v32 v33 v34 v35 v36 v37 (nI ol))]) hP hD hS hA [2] (by decide) rfl
      refine va_calli (va_runV (As := [.int 1, .int 1]) (rest := []) ⟨hx, hb, hml, hown, hts⟩ (r_good_11 l D cA sa w0 ed nb ol v0 v1 v2 v3 v4 v9 v13 v27 v28 v29 v30 v31 v32 v33 v34 v35 v36 v37 g8 g11 g12 g14 g15 g16 g17 g18 g19 g20 g21 g22 g23 g24 g26 g5 g6 g25 H.size) (cwV 2 hts gX10_pay_X10_good_ rfl rfl rfl (by decide +kernel) ⟨(Nat.le_of_ble_eq_true rfl), (Nat.le_of_ble_eq_true rfl)⟩) ⟨Wd.blind, va_recv hK hPc (ci := 11) (q0 := 0) rfl rfl, fun U hU hW => ⟨rfl, Wd.call hPc hDc hK hC hZ hS hFc U hU hW⟩⟩ rfl rfl hl.1 rfl (lv_room (Nat.le_of_ble_eq_true rfl)) dX10_pay_32 ⟨(Nat.le_of_ble_eq_true rfl), (Nat.le_of_ble_eq_true rfl)⟩) hS (fun q _ h => hFc q h) hFc (fun rn11 u t H1 locs ht hvm hw hB hz1 hk1 hS => ?_)
      obtain ⟨hP1, hD1⟩ := hB
      rw [ht] at hP1
      obtain ⟨hP, hD⟩ := PDq.join (w := [(v3, .inl (cA 0, 3260, .inl fh)), (v4, .inl (cA 1, 10, .inr (.inl fl))), (v0, .inl (cA 0, 326, .inl fs)), (oX10 w0 v0 v1 v2 v3 v4 g5 g6 (nI ed) 0 v9 (nI nb) g11 g12 v13 g14 g15 g16 g17 g18 g19 g20 g21 g22 g23 g24 g25 g26 v27 v28 v29 v30 v31 v32 v33 v34 v35 v36 v37 (nI ol))]) 3 hP hD [2] [0, 1, 3] rfl rfl (by decide) (by decide) hk1 hFc hP1 hD1 rfl
      generalize H1 = H at hP hS ⊢
      obtain rfl : rn11 = 1 := hw
      refine lv_if_ne (tgt := 40) hx hb dX10_pay_35 (by decide) (fun c12 => ?_) (fun c9 => absurd c9 (by decide))
      refine lv_aload_n hx hb dX10_pay_40 rfl (lv_at hl 1 rfl) ?_
      refine lv_iload_n hx hb dX10_pay_41 rfl (lv_at hl 2 rfl) ?_
      obtain ⟨hPc, hDc, hFc⟩ := PDq.cut (wc := [(oX10 w0 v0 v1 v2 v3 v4 g5 g6 (nI ed) 0 v9 (nI nb) g11 g12 v13 g14 g15 g16 g17 g18 g19 g20 g21 g22 g23 g24 g25 g26 v27 v28 v29 v30 v31 v32 v33 v34 v35 v36 v37 (nI ol)), (v0, .inl (cA 0, 326, .inl fs))]) hP hD hS hA [3, 2] (by decide) rfl
      refine va_calli (va_runV (As := [.int (nI kn2)]) (rest := []) ⟨hx, hb, hml, hown, hts⟩ (e_isOpenOrDue l D cA sa w0 ed nb ol v0 v1 v2 v3 v4 v9 v13 v27 v28 v29 v30 v31 v32 v33 v34 v35 v36 v37 0 g11 g12 g14 g15 g16 g17 g18 g19 g20 g21 g22 g23 g24 g26 g5 g6 g25 rs fs kn2 H.size hrs9 (by omega)) (cwV 1 hts gX10_pay_X10_isOpenOrDue rfl rfl rfl (by decide +kernel) ⟨(Nat.le_of_ble_eq_true rfl), (Nat.le_of_ble_eq_true rfl)⟩) ⟨Wd.blind, va_recv hK hPc (ci := 11) (q0 := 0) rfl rfl, fun U hU hW => ⟨rfl, Wd.call hPc hDc hK hC hZ hS hFc U hU hW⟩⟩ rfl rfl hl.1 rfl (lv_room (Nat.le_of_ble_eq_true rfl)) dX10_pay_42 ⟨(Nat.le_of_ble_eq_true rfl), (Nat.le_of_ble_eq_true rfl)⟩) hS (fun q _ h => hFc q h) hFc (fun rn13 u t H1 locs ht hvm hw hB hz1 hk1 hS => ?_)
      obtain ⟨hP1, hD1⟩ := hB
      rw [ht] at hP1
      obtain ⟨hP, hD⟩ := PDq.join (w := [(v3, .inl (cA 0, 3260, .inl fh)), (v4, .inl (cA 1, 10, .inr (.inl fl))), (oX10 w0 v0 v1 v2 v3 v4 g5 g6 (nI ed) 0 v9 (nI nb) g11 g12 v13 g14 g15 g16 g17 g18 g19 g20 g21 g22 g23 g24 g25 g26 v27 v28 v29 v30 v31 v32 v33 v34 v35 v36 v37 (nI ol)), (v0, .inl (cA 0, 326, .inl fs))]) 2 hP hD [3, 2] [0, 1] rfl rfl (by decide) (by decide) hk1 hFc hP1 hD1 rfl
      generalize H1 = H at hP hS ⊢
      rcases hw with ⟨hr9, hn14⟩ | ⟨hr9, hn14⟩
      · skip
        subst hr9
        refine lv_if_eq (tgt := 56) hx hb dX10_pay_45 (by decide) (fun c9 => absurd c9 (by decide)) (fun c15 => ?_)
        refine lv_iload_n hx hb dX10_pay_48 rfl (lv_at hl 3 rfl) ?_
        refine lv_aload_n hx hb dX10_pay_49 rfl (lv_at hl 1 rfl) ?_
        obtain ⟨hPc, hDc, hFc⟩ := PDq.cut (wc := [(oX10 w0 v0 v1 v2 v3 v4 g5 g6 (nI ed) 0 v9 (nI nb) g11 g12 v13 g14 g15 g16 g17 g18 g19 g20 g21 g22 g23 g24 g25 g26 v27 v28 v29 v30 v31 v32 v33 v34 v35 v36 v37 (nI ol)), (v0, .inl (cA 0, 326, .inl fs))]) hP hD hS hA [2, 3] (by decide) rfl
        refine va_calli (va_runV (As := []) (rest := [.int j]) ⟨hx, hb, hml, hown, hts⟩ (e_availableNow l D cA sa w0 ed nb ol v0 v1 v2 v3 v4 v9 v13 v27 v28 v29 v30 v31 v32 v33 v34 v35 v36 v37 0 g11 g12 g14 g15 g16 g17 g18 g19 g20 g21 g22 g23 g24 g26 g5 g6 g25 cn pq en dy fs rs H.size hrs9 hcn hpq hen hdy hri) (cwV 0 hts gX10_pay_X10_availableNow rfl rfl rfl (by decide +kernel) ⟨(Nat.le_of_ble_eq_true rfl), (Nat.le_of_ble_eq_true rfl)⟩) ⟨Wd.blind, va_recv hK hPc (ci := 11) (q0 := 0) rfl rfl, fun U hU hW => ⟨rfl, Wd.call hPc hDc hK hC hZ hS hFc U hU hW⟩⟩ rfl rfl hl.1 rfl (lv_room (Nat.le_of_ble_eq_true rfl)) dX10_pay_50 ⟨(Nat.le_of_ble_eq_true rfl), (Nat.le_of_ble_eq_true rfl)⟩) hS (fun q _ h => hFc q h) hFc (fun rn16 u t H1 locs ht hvm hw hB hz1 hk1 hS => ?_)
        obtain ⟨hP1, hD1⟩ := hB
        rw [ht] at hP1
        obtain ⟨hP, hD⟩ := PDq.join (w := [(v3, .inl (cA 0, 3260, .inl fh)), (v4, .inl (cA 1, 10, .inr (.inl fl))), (oX10 w0 v0 v1 v2 v3 v4 g5 g6 (nI ed) 0 v9 (nI nb) g11 g12 v13 g14 g15 g16 g17 g18 g19 g20 g21 g22 g23 g24 g25 g26 v27 v28 v29 v30 v31 v32 v33 v34 v35 v36 v37 (nI ol)), (v0, .inl (cA 0, 326, .inl fs))]) 2 hP hD [2, 3] [0, 1] rfl rfl (by decide) (by decide) hk1 hFc hP1 hD1 rfl
        generalize H1 = H at hP hS ⊢
        obtain rfl : rn16 = (avR rs cn) := hw
        refine lv_icmp_le (tgt := 63) hx hb dX10_pay_53 (by decide) (fun c17 => ?_) (fun c17 => ?_)
        · skip
          refine lv_aload_n hx hb dX10_pay_63 rfl (lv_at hl 1 rfl) ?_
          obtain ⟨hPc, hDc, hFc⟩ := PDq.cut (wc := [(oX10 w0 v0 v1 v2 v3 v4 g5 g6 (nI ed) 0 v9 (nI nb) g11 g12 v13 g14 g15 g16 g17 g18 g19 g20 g21 g22 g23 g24 g25 g26 v27 v28 v29 v30 v31 v32 v33 v34 v35 v36 v37 (nI ol)), (v0, .inl (cA 0, 326, .inl fs)), (v3, .inl (cA 0, 3260, .inl fh)), (v4, .inl (cA 1, 10, .inr (.inl fl)))]) hP hD hS hA [2, 3, 0, 1] (by decide) rfl
          refine va_callv (va_runV (As := []) (rest := []) ⟨hx, hb, hml, hown, hts⟩ (e_remember l D cA sa w0 ed nb ol v0 v1 v2 v3 v4 v9 v13 v27 v28 v29 v30 v31 v32 v33 v34 v35 v36 v37 0 g11 g12 g14 g15 g16 g17 g18 g19 g20 g21 g22 g23 g24 g26 g5 g6 g25 cn pq en dy fs fh fl H.size hcn hpq hen hdy hri hed hHI hd9) (cwV 0 hts gX10_pay_X10_remember rfl rfl rfl (by decide +kernel) ⟨(Nat.le_of_ble_eq_true rfl), (Nat.le_of_ble_eq_true rfl)⟩) ⟨Wd.blind, va_recv hK hPc (ci := 11) (q0 := 0) rfl rfl, fun U hU hW => ⟨rfl, Wd.call hPc hDc hK hC hZ hS hFc U hU hW⟩⟩ rfl rfl hl.1 rfl (lv_room (Nat.le_of_ble_eq_true rfl)) dX10_pay_64 ⟨(Nat.le_of_ble_eq_true rfl), (Nat.le_of_ble_eq_true rfl)⟩) hS (fun q _ h => hFc q h) hFc (fun u t H1 locs ht hvm hw hB hz1 hk1 hS => ?_)
          obtain ⟨qn18, fn19, fn20, hn21, hn22, hn23, hP1, hD1⟩ := hB
          rw [ht] at hP1
          obtain ⟨hP, hD⟩ := PDq.join (w := [(oX10 w0 v0 v1 v2 v3 v4 g5 g6 (nI qn18) 0 v9 (nI nb) g11 g12 v13 g14 g15 g16 g17 g18 g19 g20 g21 g22 g23 g24 g25 g26 v27 v28 v29 v30 v31 v32 v33 v34 v35 v36 v37 (nI ol)), (v0, .inl (cA 0, 326, .inl fs)), (v3, .inl (cA 0, 3260, .inl fn19)), (v4, .inl (cA 1, 10, .inr (.inl fn20)))]) 0 hP hD [2, 3, 0, 1] [] rfl rfl (by decide) (by decide) hk1 hFc hP1 hD1 rfl
          generalize H1 = H at hP hS ⊢
          refine lv_aload_n hx hb dX10_pay_67 rfl (lv_at hl 1 rfl) ?_
          refine lv_iload_n hx hb dX10_pay_68 rfl (lv_at hl 2 rfl) ?_
          refine lv_iload_n hx hb dX10_pay_69 rfl (lv_at hl 3 rfl) ?_
          obtain ⟨hPc, hDc, hFc⟩ := PDq.cut (wc := [(oX10 w0 v0 v1 v2 v3 v4 g5 g6 (nI qn18) 0 v9 (nI nb) g11 g12 v13 g14 g15 g16 g17 g18 g19 g20 g21 g22 g23 g24 g25 g26 v27 v28 v29 v30 v31 v32 v33 v34 v35 v36 v37 (nI ol)), (v0, .inl (cA 0, 326, .inl fs))]) hP hD hS hA [0, 1] (by decide) rfl
          refine va_calli (va_runV (As := [.int (nI kn2), .int j]) (rest := []) ⟨hx, hb, hml, hown, hts⟩ (e_makePayment l D cA sa w0 qn18 nb ol v0 v1 v2 v3 v4 v9 v13 v27 v28 v29 v30 v31 v32 v33 v34 v35 v36 v37 0 g11 g12 g14 g15 g16 g17 g18 g19 g20 g21 g22 g23 g24 g26 g5 g6 g25 cn pq en dy fs rs kn2 j H.size hrs9 hcn hpq hen hdy hri (by omega)) (cwV 2 hts gX10_pay_X10_makePayment rfl rfl rfl (by decide +kernel) ⟨(Nat.le_of_ble_eq_true rfl), (Nat.le_of_ble_eq_true rfl)⟩) ⟨Wd.blind, va_recv hK hPc (ci := 11) (q0 := 0) rfl rfl, fun U hU hW => ⟨rfl, Wd.call hPc hDc hK hC hZ hS hFc U hU hW⟩⟩ rfl rfl hl.1 rfl (lv_room (Nat.le_of_ble_eq_true rfl)) dX10_pay_70 ⟨(Nat.le_of_ble_eq_true rfl), (Nat.le_of_ble_eq_true rfl)⟩) hS (fun q _ h => hFc q h) hFc (fun rn24 u t H1 locs ht hvm hw hB hz1 hk1 hS => ?_)
          obtain ⟨qn25, fn26, hn27, hn28, hn29, hn30, hP1, hD1⟩ := hB
          rw [ht] at hP1
          obtain ⟨hP, hD⟩ := PDq.join (w := [(v3, .inl (cA 0, 3260, .inl fn19)), (v4, .inl (cA 1, 10, .inr (.inl fn20))), (oX10 w0 v0 v1 v2 v3 v4 g5 g6 (nI qn18) 0 v9 (nI nb) g11 g12 v13 g14 g15 g16 g17 g18 g19 g20 g21 g22 g23 g24 g25 g26 v27 v28 v29 v30 v31 v32 v33 v34 v35 v36 v37 (nI ol)), (v0, .inl (cA 0, 326, .inl fn26))]) 2 hP hD [0, 1] [2, 3] rfl rfl (by decide) (by decide) hk1 hFc hP1 hD1 rfl
          generalize H1 = H at hP hS ⊢
          refine lv_istore (lv' := [(4, .int rn24), (3, .int 1), (0, .ref w0), (1, .int (nI kn2)), (2, .int j)]) hx hb dX10_pay_73 hl (by decide) rfl (fun ls hl => ?_)
          refine lv_aload_n hx hb dX10_pay_75 rfl (lv_at hl 2 rfl) ?_
          refine lv_iload_n hx hb dX10_pay_76 rfl (lv_at hl 3 rfl) ?_
          obtain ⟨hPc, hDc, hFc⟩ := PDq.cut (wc := [(oX10 w0 v0 v1 v2 v3 v4 g5 g6 (nI qn18) 0 v9 (nI nb) g11 g12 v13 g14 g15 g16 g17 g18 g19 g20 g21 g22 g23 g24 g25 g26 v27 v28 v29 v30 v31 v32 v33 v34 v35 v36 v37 (nI ol)), (v0, .inl (cA 0, 326, .inl fn26))]) hP hD hS hA [2, 3] (by decide) rfl
          refine va_callv (va_runV (As := [.int (nI kn2)]) (rest := []) ⟨hx, hb, hml, hown, hts⟩ (e_closeIfPaid l D cA sa w0 qn18 nb ol v0 v1 v2 v3 v4 v9 v13 v27 v28 v29 v30 v31 v32 v33 v34 v35 v36 v37 0 g11 g12 g14 g15 g16 g17 g18 g19 g20 g21 g22 g23 g24 g26 g5 g6 g25 cn pq qn25 dy fn26 (mkP kn2 j rs) kn2 H.size hn29 hcn hpq hn27 hdy hn28 (by omega)) (cwV 1 hts gX10_pay_X10_closeIfPaid rfl rfl rfl (by decide +kernel) ⟨(Nat.le_of_ble_eq_true rfl), (Nat.le_of_ble_eq_true rfl)⟩) ⟨Wd.blind, va_recv hK hPc (ci := 11) (q0 := 0) rfl rfl, fun U hU hW => ⟨rfl, Wd.call hPc hDc hK hC hZ hS hFc U hU hW⟩⟩ rfl rfl hl.1 rfl (lv_room (Nat.le_of_ble_eq_true rfl)) dX10_pay_77 ⟨(Nat.le_of_ble_eq_true rfl), (Nat.le_of_ble_eq_true rfl)⟩) hS (fun q _ h => hFc q h) hFc (fun u t H1 locs ht hvm hw hB hz1 hk1 hS => ?_)
          obtain ⟨fn31, hn32, hn33, hP1, hD1⟩ := hB
          rw [ht] at hP1
          obtain ⟨hP, hD⟩ := PDq.join (w := [(v3, .inl (cA 0, 3260, .inl fn19)), (v4, .inl (cA 1, 10, .inr (.inl fn20))), (oX10 w0 v0 v1 v2 v3 v4 g5 g6 (nI qn18) 0 v9 (nI nb) g11 g12 v13 g14 g15 g16 g17 g18 g19 g20 g21 g22 g23 g24 g25 g26 v27 v28 v29 v30 v31 v32 v33 v34 v35 v36 v37 (nI ol)), (v0, .inl (cA 0, 326, .inl fn31))]) 2 hP hD [2, 3] [0, 1] rfl rfl (by decide) (by decide) hk1 hFc hP1 hD1 rfl
          generalize H1 = H at hP hS ⊢
          refine lv_iload hx hb dX10_pay_80 (lv_at hl 0 rfl) ?_
          obtain ⟨hP9, hD9⟩ := PDq.sub (ws' := [(oX10 w0 v0 v1 v2 v3 v4 g5 g6 (nI qn18) 0 v9 (nI nb) g11 g12 v13 g14 g15 g16 g17 g18 g19 g20 g21 g22 g23 g24 g25 g26 v27 v28 v29 v30 v31 v32 v33 v34 v35 v36 v37 (nI ol)), (v0, .inl (cA 0, 326, .inl fn31)), (v3, .inl (cA 0, 3260, .inl fn19)), (v4, .inl (cA 1, 10, .inr (.inl fn20)))]) hP hD [2, 3, 0, 1] (by decide) rfl
          refine W.widen (k := 0) (n := 0) (Nat.le_of_ble_eq_true rfl) (Nat.le_of_ble_eq_true rfl) ?_
          exact (W.iret (v := rn24) hx hb hr (fun t ht hW => ⟨⟨rn24, (), rfl, trivial, qn18, qn25, 0, fn31, fn19, fn20, hn21, hn22, hn27, hn32, (by subst hrs; exact Or.inl ⟨kn2, hn3, hn4, ⟨hn9, hn14, c17⟩, hn23, hn33⟩), by rw [ht]; exact hP9, hD9⟩, hS.F ht⟩) hS.2.2 dX10_pay_82)
        · skip
          refine lv_aload_n hx hb dX10_pay_56 rfl (lv_at hl 1 rfl) ?_
          refine lv_iconst (v := 3) hx hb dX10_pay_57 (by decide) ?_
          refine va_put (D := D) (ci := 11) (v := .int 3) (ty := .int) (C := RX10) (T := TX10) (N := 39) hx hb hts inX10 tyX10 tyX10_ok nmX10 hown hK hP hD hS 2 rfl rfl 8 (by decide) (hts (.fieldLink RX10 80 "EscrowDeskModel" "thrown" "I") (by decide +kernel)) (fun _ h9 => h9) rfl (by decide +kernel) rfl rfl (Nat.le_of_ble_eq_true rfl) dX10_pay_58 (fun H locs hP hD hS => ?_)
          obtain ⟨hP, hD⟩ : PDq D A [(v3, .inl (cA 0, 3260, .inl fh)), (v4, .inl (cA 1, 10, .inr (.inl fl))), (oX10 w0 v0 v1 v2 v3 v4 g5 g6 (nI ed) 3 v9 (nI nb) g11 g12 v13 g14 g15 g16 g17 g18 g19 g20 g21 g22 g23 g24 g25 g26 v27 v28 v29 v30 v31 v32 v33 v34 v35 v36 v37 (nI ol)), (v0, .inl (cA 0, 326, .inl fs))] H := ⟨hP, hD⟩
          refine lv_iconst (v := 0) hx hb dX10_pay_61 (by decide) ?_
          obtain ⟨hP9, hD9⟩ := PDq.sub (ws' := [(oX10 w0 v0 v1 v2 v3 v4 g5 g6 (nI ed) 3 v9 (nI nb) g11 g12 v13 g14 g15 g16 g17 g18 g19 g20 g21 g22 g23 g24 g25 g26 v27 v28 v29 v30 v31 v32 v33 v34 v35 v36 v37 (nI ol)), (v0, .inl (cA 0, 326, .inl fs)), (v3, .inl (cA 0, 3260, .inl fh)), (v4, .inl (cA 1, 10, .inr (.inl fl)))]) hP hD [2, 3, 0, 1] (by decide) rfl
          refine W.widen (k := 0) (n := 0) (Nat.le_of_ble_eq_true rfl) (Nat.le_of_ble_eq_true rfl) ?_
          exact (W.iret (v := 0) hx hb hr (fun t ht hW => ⟨⟨0, (), rfl, trivial, ed, en, 3, fs, fh, fl, hed, hHI, hen, hri, (by subst hrs; exact Or.inr ⟨(fun ⟨k9, q8, q9, q7⟩ => by have q6 := nI_ij (hn4.symm.trans q9) (by omega) (by omega); subst q6; exact c17 q7.2.2), rfl, rfl, rfl, rfl⟩), by rw [ht]; exact hP9, hD9⟩, hS.F ht⟩) hS.2.2 dX10_pay_62)
      · skip
        subst hr9
        refine lv_if_eq (tgt := 56) hx hb dX10_pay_45 (by decide) (fun c34 => ?_) (fun c9 => absurd c9 (by decide))
        refine lv_aload_n hx hb dX10_pay_56 rfl (lv_at hl 1 rfl) ?_
        refine lv_iconst (v := 3) hx hb dX10_pay_57 (by decide) ?_
        refine va_put (D := D) (ci := 11) (v := .int 3) (ty := .int) (C := RX10) (T := TX10) (N := 39) hx hb hts inX10 tyX10 tyX10_ok nmX10 hown hK hP hD hS 2 rfl rfl 8 (by decide) (hts (.fieldLink RX10 80 "EscrowDeskModel" "thrown" "I") (by decide +kernel)) (fun _ h9 => h9) rfl (by decide +kernel) rfl rfl (Nat.le_of_ble_eq_true rfl) dX10_pay_58 (fun H locs hP hD hS => ?_)
        obtain ⟨hP, hD⟩ : PDq D A [(v3, .inl (cA 0, 3260, .inl fh)), (v4, .inl (cA 1, 10, .inr (.inl fl))), (oX10 w0 v0 v1 v2 v3 v4 g5 g6 (nI ed) 3 v9 (nI nb) g11 g12 v13 g14 g15 g16 g17 g18 g19 g20 g21 g22 g23 g24 g25 g26 v27 v28 v29 v30 v31 v32 v33 v34 v35 v36 v37 (nI ol)), (v0, .inl (cA 0, 326, .inl fs))] H := ⟨hP, hD⟩
        refine lv_iconst (v := 0) hx hb dX10_pay_61 (by decide) ?_
        obtain ⟨hP9, hD9⟩ := PDq.sub (ws' := [(oX10 w0 v0 v1 v2 v3 v4 g5 g6 (nI ed) 3 v9 (nI nb) g11 g12 v13 g14 g15 g16 g17 g18 g19 g20 g21 g22 g23 g24 g25 g26 v27 v28 v29 v30 v31 v32 v33 v34 v35 v36 v37 (nI ol)), (v0, .inl (cA 0, 326, .inl fs)), (v3, .inl (cA 0, 3260, .inl fh)), (v4, .inl (cA 1, 10, .inr (.inl fl)))]) hP hD [2, 3, 0, 1] (by decide) rfl
        refine W.widen (k := 0) (n := 0) (Nat.le_of_ble_eq_true rfl) (Nat.le_of_ble_eq_true rfl) ?_
        exact (W.iret (v := 0) hx hb hr (fun t ht hW => ⟨⟨0, (), rfl, trivial, ed, en, 3, fs, fh, fl, hed, hHI, hen, hri, (by subst hrs; exact Or.inr ⟨(fun ⟨k9, q8, q9, q7⟩ => by have q6 := nI_ij (hn4.symm.trans q9) (by omega) (by omega); subst q6; exact hn14 q7.2.1), rfl, rfl, rfl, rfl⟩), by rw [ht]; exact hP9, hD9⟩, hS.F ht⟩) hS.2.2 dX10_pay_62)
    · skip
      subst hr9
      refine lv_if_eq (tgt := 31) hx hb dX10_pay_24 (by decide) (fun c35 => ?_) (fun c9 => absurd c9 (by decide))
      refine lv_iconst (v := 0) hx hb dX10_pay_31 (by decide) ?_
      obtain ⟨hPc, hDc, hFc⟩ := PDq.cut (wc := [(oX10 w0 v0 v1 v2 v3 v4 g5 g6 (nI ed) g8 v9 (nI nb) g11 g12 v13 g14 g15 g16 g17 g18 g19 g20 g21 g22 g23 g24 g25 g26 v27 v28 v29 v30 v31 v32 v33 v34 v35 v36 v37 (nI ol))]) hP hD hS hA [2] (by decide) rfl
      refine va_calli (va_runV (As := [.int 1, .int 0]) (rest := []) ⟨hx, hb, hml, hown, hts⟩ (r_good_10 l D cA sa w0 ed nb ol v0 v1 v2 v3 v4 v9 v13 v27 v28 v29 v30 v31 v32 v33 v34 v35 v36 v37 g8 g11 g12 g14 g15 g16 g17 g18 g19 g20 g21 g22 g23 g24 g26 g5 g6 g25 H.size) (cwV 2 hts gX10_pay_X10_good_ rfl rfl rfl (by decide +kernel) ⟨(Nat.le_of_ble_eq_true rfl), (Nat.le_of_ble_eq_true rfl)⟩) ⟨Wd.blind, va_recv hK hPc (ci := 11) (q0 := 0) rfl rfl, fun U hU hW => ⟨rfl, Wd.call hPc hDc hK hC hZ hS hFc U hU hW⟩⟩ rfl rfl hl.1 rfl (lv_room (Nat.le_of_ble_eq_true rfl)) dX10_pay_32 ⟨(Nat.le_of_ble_eq_true rfl), (Nat.le_of_ble_eq_true rfl)⟩) hS (fun q _ h => hFc q h) hFc (fun rn36 u t H1 locs ht hvm hw hB hz1 hk1 hS => ?_)
      obtain ⟨hP1, hD1⟩ := hB
      rw [ht] at hP1
      obtain ⟨hP, hD⟩ := PDq.join (w := [(v3, .inl (cA 0, 3260, .inl fh)), (v4, .inl (cA 1, 10, .inr (.inl fl))), (v0, .inl (cA 0, 326, .inl fs)), (oX10 w0 v0 v1 v2 v3 v4 g5 g6 (nI ed) 2 v9 (nI nb) g11 g12 v13 g14 g15 g16 g17 g18 g19 g20 g21 g22 g23 g24 g25 g26 v27 v28 v29 v30 v31 v32 v33 v34 v35 v36 v37 (nI ol))]) 3 hP hD [2] [0, 1, 3] rfl rfl (by decide) (by decide) hk1 hFc hP1 hD1 rfl
      generalize H1 = H at hP hS ⊢
      obtain rfl : rn36 = 0 := hw
      refine lv_if_ne (tgt := 40) hx hb dX10_pay_35 (by decide) (fun c9 => absurd c9 (by decide)) (fun c37 => ?_)
      refine lv_iconst (v := 0) hx hb dX10_pay_38 (by decide) ?_
      obtain ⟨hP9, hD9⟩ := PDq.sub (ws' := [(oX10 w0 v0 v1 v2 v3 v4 g5 g6 (nI ed) 2 v9 (nI nb) g11 g12 v13 g14 g15 g16 g17 g18 g19 g20 g21 g22 g23 g24 g25 g26 v27 v28 v29 v30 v31 v32 v33 v34 v35 v36 v37 (nI ol)), (v0, .inl (cA 0, 326, .inl fs)), (v3, .inl (cA 0, 3260, .inl fh)), (v4, .inl (cA 1, 10, .inr (.inl fl)))]) hP hD [3, 2, 0, 1] (by decide) rfl
      refine W.widen (k := 0) (n := 0) (Nat.le_of_ble_eq_true rfl) (Nat.le_of_ble_eq_true rfl) ?_
      exact (W.iret (v := 0) hx hb hr (fun t ht hW => ⟨⟨0, (), rfl, trivial, ed, en, 2, fs, fh, fl, hed, hHI, hen, hri, (by subst hrs; exact Or.inr ⟨(fun ⟨k9, q8, q9, q7⟩ => by have q6 := nI_ij (hn4.symm.trans q9) (by omega) (by omega); subst q6; exact hn9 q7.1), rfl, rfl, rfl, rfl⟩), by rw [ht]; exact hP9, hD9⟩, hS.F ht⟩) hS.2.2 dX10_pay_39)
  · skip
    subst hr9
    refine lv_istore_n (lv' := [(3, .int 0), (0, .ref w0), (1, .int i), (2, .int j)]) hx hb dX10_pay_5 rfl hl (by decide) rfl (fun ls hl => ?_)
    refine lv_aload_n hx hb dX10_pay_6 rfl (lv_at hl 1 rfl) ?_
    refine lv_iload_n hx hb dX10_pay_7 rfl (lv_at hl 0 rfl) ?_
    refine lv_iload_n hx hb dX10_pay_8 rfl (lv_at hl 0 rfl) ?_
    refine lv_if_eq (tgt := 31) hx hb dX10_pay_9 (by decide) (fun c38 => ?_) (fun c9 => absurd c9 (by decide))
    refine lv_iconst (v := 0) hx hb dX10_pay_31 (by decide) ?_
    obtain ⟨hPc, hDc, hFc⟩ := PDq.cut (wc := [(oX10 w0 v0 v1 v2 v3 v4 g5 g6 (nI ed) g8 v9 (nI nb) g11 g12 v13 g14 g15 g16 g17 g18 g19 g20 g21 g22 g23 g24 g25 g26 v27 v28 v29 v30 v31 v32 v33 v34 v35 v36 v37 (nI ol))]) hP hD hS hA [2] (by decide) rfl
    refine va_calli (va_runV (As := [.int 0, .int 0]) (rest := []) ⟨hx, hb, hml, hown, hts⟩ (r_good_00 l D cA sa w0 ed nb ol v0 v1 v2 v3 v4 v9 v13 v27 v28 v29 v30 v31 v32 v33 v34 v35 v36 v37 g8 g11 g12 g14 g15 g16 g17 g18 g19 g20 g21 g22 g23 g24 g26 g5 g6 g25 H.size) (cwV 2 hts gX10_pay_X10_good_ rfl rfl rfl (by decide +kernel) ⟨(Nat.le_of_ble_eq_true rfl), (Nat.le_of_ble_eq_true rfl)⟩) ⟨Wd.blind, va_recv hK hPc (ci := 11) (q0 := 0) rfl rfl, fun U hU hW => ⟨rfl, Wd.call hPc hDc hK hC hZ hS hFc U hU hW⟩⟩ rfl rfl hl.1 rfl (lv_room (Nat.le_of_ble_eq_true rfl)) dX10_pay_32 ⟨(Nat.le_of_ble_eq_true rfl), (Nat.le_of_ble_eq_true rfl)⟩) hS (fun q _ h => hFc q h) hFc (fun rn39 u t H1 locs ht hvm hw hB hz1 hk1 hS => ?_)
    obtain ⟨hP1, hD1⟩ := hB
    rw [ht] at hP1
    obtain ⟨hP, hD⟩ := PDq.join (w := [(v3, .inl (cA 0, 3260, .inl fh)), (v4, .inl (cA 1, 10, .inr (.inl fl))), (v0, .inl (cA 0, 326, .inl fs)), (oX10 w0 v0 v1 v2 v3 v4 g5 g6 (nI ed) 1 v9 (nI nb) g11 g12 v13 g14 g15 g16 g17 g18 g19 g20 g21 g22 g23 g24 g25 g26 v27 v28 v29 v30 v31 v32 v33 v34 v35 v36 v37 (nI ol))]) 3 hP hD [2] [0, 1, 3] rfl rfl (by decide) (by decide) hk1 hFc hP1 hD1 rfl
    generalize H1 = H at hP hS ⊢
    obtain rfl : rn39 = 0 := hw
    refine lv_if_ne (tgt := 40) hx hb dX10_pay_35 (by decide) (fun c9 => absurd c9 (by decide)) (fun c40 => ?_)
    refine lv_iconst (v := 0) hx hb dX10_pay_38 (by decide) ?_
    obtain ⟨hP9, hD9⟩ := PDq.sub (ws' := [(oX10 w0 v0 v1 v2 v3 v4 g5 g6 (nI ed) 1 v9 (nI nb) g11 g12 v13 g14 g15 g16 g17 g18 g19 g20 g21 g22 g23 g24 g25 g26 v27 v28 v29 v30 v31 v32 v33 v34 v35 v36 v37 (nI ol)), (v0, .inl (cA 0, 326, .inl fs)), (v3, .inl (cA 0, 3260, .inl fh)), (v4, .inl (cA 1, 10, .inr (.inl fl)))]) hP hD [3, 2, 0, 1] (by decide) rfl
    refine W.widen (k := 0) (n := 0) (Nat.le_of_ble_eq_true rfl) (Nat.le_of_ble_eq_true rfl) ?_
    exact (W.iret (v := 0) hx hb hr (fun t ht hW => ⟨⟨0, (), rfl, trivial, ed, en, 1, fs, fh, fl, hed, hHI, hen, hri, (by subst hrs; exact Or.inr ⟨(fun ⟨k9, q8, q9, _⟩ => hn5 ⟨k9, q8, q9⟩), rfl, rfl, rfl, rfl⟩), by rw [ht]; exact hP9, hD9⟩, hS.F ht⟩) hS.2.2 dX10_pay_39)

set_option maxHeartbeats 4000000 in
set_option maxRecDepth 100000 in
/-- reference, exactly: splitSum -/
theorem e_splitSum (l : Launch) (D : va_G) (cA : Nat → ClassId) (sa : Nat → Nat) (w0 : Nat) (ed : Nat) (nb : Nat) (ol : Nat) (v0 : Nat) (v1 : Nat) (v2 : Nat) (v3 : Nat) (v4 : Nat) (v9 : Nat) (v13 : Nat) (v27 : Nat) (v28 : Nat) (v29 : Nat) (v30 : Nat) (v31 : Nat) (v32 : Nat) (v33 : Nat) (v34 : Nat) (v35 : Nat) (v36 : Nat) (v37 : Nat) (g8 : Int32) (g11 : Int32) (g12 : Int32) (g14 : Int32) (g15 : Int32) (g16 : Int32) (g17 : Int32) (g18 : Int32) (g19 : Int32) (g20 : Int32) (g21 : Int32) (g22 : Int32) (g23 : Int32) (g24 : Int32) (g26 : Int32) (g5 : Int64) (g6 : Int64) (g25 : Int64) (cn : Nat) (pq : Nat) (en : Nat) (dy : Nat) (fs : Nat → Int32) (ra : Nat → Int32) (mi : Nat) (sz : Nat) (hAb : Ab ra fs) (hcn : cn ≤ 10) (hpq : pq ≤ 8) (hen : en ≤ 60) (hdy : dy ≤ 20000) (hri : RI cn pq en dy fs) (hmi : mi < 10) : Met l yX10_splitSum wsX10_splitSum ({ frames := 3, cells := 0, slots := 0, locals := 64 }) (va_Pc [.ref w0, .int (nI mi)] (Wd D cA sa [(oX10 w0 v0 v1 v2 v3 v4 g5 g6 (nI ed) g8 v9 (nI nb) g11 g12 v13 g14 g15 g16 g17 g18 g19 g20 g21 g22 g23 g24 g25 g26 v27 v28 v29 v30 v31 v32 v33 v34 v35 v36 v37 (nI ol)), (v0, .inl (cA 0, 326, .inl fs))] sz)) (va_Qi (fun (r : Int32) (_ : Unit) => r = splS cn mi ra) (fun (_ : Unit) t => Wq D (va_A [(oX10 w0 v0 v1 v2 v3 v4 g5 g6 (nI ed) g8 v9 (nI nb) g11 g12 v13 g14 g15 g16 g17 g18 g19 g20 g21 g22 g23 g24 g25 g26 v27 v28 v29 v30 v31 v32 v33 v34 v35 v36 v37 (nI ol)), (v0, .inl (cA 0, 326, .inl fs))] sz) [(oX10 w0 v0 v1 v2 v3 v4 g5 g6 (nI ed) g8 v9 (nI nb) g11 g12 v13 g14 g15 g16 g17 g18 g19 g20 g21 g22 g23 g24 g25 g26 v27 v28 v29 v30 v31 v32 v33 v34 v35 v36 v37 (nI ol)), (v0, .inl (cA 0, 326, .inl fs))] t) (va_A [(oX10 w0 v0 v1 v2 v3 v4 g5 g6 (nI ed) g8 v9 (nI nb) g11 g12 v13 g14 g15 g16 g17 g18 g19 g20 g21 g22 g23 g24 g25 g26 v27 v28 v29 v30 v31 v32 v33 v34 v35 v36 v37 (nI ol)), (v0, .inl (cA 0, 326, .inl fs))] sz)) 0 0 (va_A [(oX10 w0 v0 v1 v2 v3 v4 g5 g6 (nI ed) g8 v9 (nI nb) g11 g12 v13 g14 g15 g16 g17 g18 g19 g20 g21 g22 g23 g24 g25 g26 v27 v28 v29 v30 v31 v32 v33 v34 v35 v36 v37 (nI ol)), (v0, .inl (cA 0, 326, .inl fs))] sz) := by
  refine Met.ofW (cc := cX10_splitSum) (maxL := 2) (ret := (some .int)) (by decide) rfl ?_
  intro p e s m args below meth c s₁ B hml hv
  obtain ⟨rfl, hsz, hP, hK, hD0, hC, hZ⟩ := hv
  have hx := B.exec
  have hb := B.bytes
  have hr := B.returns
  have hts := atoms_spec (ws := wsX10_splitSum) B.pre
  have hown : s.vm.findClass RX10 = some m.cls := findClass_of_methodNamed B.named
  have hlocks := B.notSynchronized
  subst hsz
  have hD := hD0.self (sz := s.heap.size)
  generalize hAe : va_A [(oX10 w0 v0 v1 v2 v3 v4 g5 g6 (nI ed) g8 v9 (nI nb) g11 g12 v13 g14 g15 g16 g17 g18 g19 g20 g21 g22 g23 g24 g25 g26 v27 v28 v29 v30 v31 v32 v33 v34 v35 v36 v37 (nI ol)), (v0, .inl (cA 0, 326, .inl fs))] s.heap.size = A at hD hZ ⊢
  have hA : ∀ q : Nat, s.heap.size ≤ q → A q := fun q h => by rw [← hAe]; exact Or.inr h
  have hS : va_S A s.heap s.heap [] := va_S.rf
  have hP : va_P D vwCl [(oX10 w0 v0 v1 v2 v3 v4 g5 g6 (nI ed) g8 v9 (nI nb) g11 g12 v13 g14 g15 g16 g17 g18 g19 g20 g21 g22 g23 g24 g25 g26 v27 v28 v29 v30 v31 v32 v33 v34 v35 v36 v37 (nI ol)), (v0, .inl (cA 0, 326, .inl fs))] s.heap := hP
  have hl := lv_entry ([.ref w0, .int (nI mi)]) (n := 2) (Nat.le_of_ble_eq_true rfl)
  rw [lg_entry_eq]
  generalize (lg_sl ([.ref w0, .int (nI mi)]) ++ List.replicate (2 - (lg_sl ([.ref w0, .int (nI mi)])).length) Slot.unset).toArray = ls at hl ⊢
  have hl : lv_has ls 2 [(0, .ref w0), (1, .int (nI mi))] := hl
  refine lv_aload_n hx hb dX10_splitSum_0 rfl (lv_at hl 0 rfl) ?_
  refine lv_iload_n hx hb dX10_splitSum_1 rfl (lv_at hl 1 rfl) ?_
  obtain ⟨hPc, hDc, hFc⟩ := PDq.cut (wc := [(oX10 w0 v0 v1 v2 v3 v4 g5 g6 (nI ed) g8 v9 (nI nb) g11 g12 v13 g14 g15 g16 g17 g18 g19 g20 g21 g22 g23 g24 g25 g26 v27 v28 v29 v30 v31 v32 v33 v34 v35 v36 v37 (nI ol)), (v0, .inl (cA 0, 326, .inl fs))]) hP hD hS hA [0, 1] (by decide) rfl
  refine va_calli (va_runV (As := [.int (nI mi)]) (rest := []) ⟨hx, hb, hml, hown, hts⟩ (e_remainingOf l D cA sa w0 ed nb ol v0 v1 v2 v3 v4 v9 v13 v27 v28 v29 v30 v31 v32 v33 v34 v35 v36 v37 g8 g11 g12 g14 g15 g16 g17 g18 g19 g20 g21 g22 g23 g24 g26 g5 g6 g25 ra fs mi s.heap.size hAb hmi) (cwV 1 hts gX10_splitSum_X10_remainingOf rfl rfl rfl (by decide +kernel) ⟨(Nat.le_of_ble_eq_true rfl), (Nat.le_of_ble_eq_true rfl)⟩) ⟨Wd.blind, va_recv hK hPc (ci := 11) (q0 := 0) rfl rfl, fun U hU hW => ⟨rfl, Wd.call hPc hDc hK hC hZ hS hFc U hU hW⟩⟩ rfl rfl hl.1 rfl (lv_room (Nat.le_of_ble_eq_true rfl)) dX10_splitSum_2 ⟨(Nat.le_of_ble_eq_true rfl), (Nat.le_of_ble_eq_true rfl)⟩) hS (fun q _ h => hFc q h) hFc (fun rn1 u t H1 locs ht hvm hw hB hz1 hk1 hS => ?_)
  obtain ⟨hP1, hD1⟩ := hB
  rw [ht] at hP1
  obtain ⟨hP, hD⟩ := PDq.join (w := [(oX10 w0 v0 v1 v2 v3 v4 g5 g6 (nI ed) g8 v9 (nI nb) g11 g12 v13 g14 g15 g16 g17 g18 g19 g20 g21 g22 g23 g24 g25 g26 v27 v28 v29 v30 v31 v32 v33 v34 v35 v36 v37 (nI ol)), (v0, .inl (cA 0, 326, .inl fs))]) 0 hP hD [0, 1] [] rfl rfl (by decide) (by decide) hk1 hFc hP1 hD1 rfl
  generalize H1 = H at hP hS ⊢
  obtain rfl : rn1 = (remR ra mi) := hw
  refine lv_aload_n hx hb dX10_splitSum_5 rfl (lv_at hl 0 rfl) ?_
  obtain ⟨hPc, hDc, hFc⟩ := PDq.cut (wc := [(oX10 w0 v0 v1 v2 v3 v4 g5 g6 (nI ed) g8 v9 (nI nb) g11 g12 v13 g14 g15 g16 g17 g18 g19 g20 g21 g22 g23 g24 g25 g26 v27 v28 v29 v30 v31 v32 v33 v34 v35 v36 v37 (nI ol)), (v0, .inl (cA 0, 326, .inl fs))]) hP hD hS hA [0, 1] (by decide) rfl
  refine va_calli (va_runV (As := []) (rest := [.int (remR ra mi)]) ⟨hx, hb, hml, hown, hts⟩ (e_availableNow l D cA sa w0 ed nb ol v0 v1 v2 v3 v4 v9 v13 v27 v28 v29 v30 v31 v32 v33 v34 v35 v36 v37 g8 g11 g12 g14 g15 g16 g17 g18 g19 g20 g21 g22 g23 g24 g26 g5 g6 g25 cn pq en dy fs ra H.size hAb hcn hpq hen hdy hri) (cwV 0 hts gX10_splitSum_X10_availableNow rfl rfl rfl (by decide +kernel) ⟨(Nat.le_of_ble_eq_true rfl), (Nat.le_of_ble_eq_true rfl)⟩) ⟨Wd.blind, va_recv hK hPc (ci := 11) (q0 := 0) rfl rfl, fun U hU hW => ⟨rfl, Wd.call hPc hDc hK hC hZ hS hFc U hU hW⟩⟩ rfl rfl hl.1 rfl (lv_room (Nat.le_of_ble_eq_true rfl)) dX10_splitSum_6 ⟨(Nat.le_of_ble_eq_true rfl), (Nat.le_of_ble_eq_true rfl)⟩) hS (fun q _ h => hFc q h) hFc (fun rn2 u t H1 locs ht hvm hw hB hz1 hk1 hS => ?_)
  obtain ⟨hP1, hD1⟩ := hB
  rw [ht] at hP1
  obtain ⟨hP, hD⟩ := PDq.join (w := [(oX10 w0 v0 v1 v2 v3 v4 g5 g6 (nI ed) g8 v9 (nI nb) g11 g12 v13 g14 g15 g16 g17 g18 g19 g20 g21 g22 g23 g24 g25 g26 v27 v28 v29 v30 v31 v32 v33 v34 v35 v36 v37 (nI ol)), (v0, .inl (cA 0, 326, .inl fs))]) 0 hP hD [0, 1] [] rfl rfl (by decide) (by decide) hk1 hFc hP1 hD1 rfl
  generalize H1 = H at hP hS ⊢
  obtain rfl : rn2 = (avR ra cn) := hw
  refine lv_aload_n hx hb dX10_splitSum_9 rfl (lv_at hl 0 rfl) ?_
  refine lv_iload_n hx hb dX10_splitSum_10 rfl (lv_at hl 1 rfl) ?_
  refine lv_iconst (v := 3) hx hb dX10_splitSum_11 (by decide) ?_
  obtain ⟨hPc, hDc, hFc⟩ := PDq.cut (wc := [(oX10 w0 v0 v1 v2 v3 v4 g5 g6 (nI ed) g8 v9 (nI nb) g11 g12 v13 g14 g15 g16 g17 g18 g19 g20 g21 g22 g23 g24 g25 g26 v27 v28 v29 v30 v31 v32 v33 v34 v35 v36 v37 (nI ol)), (v0, .inl (cA 0, 326, .inl fs))]) hP hD hS hA [0, 1] (by decide) rfl
  refine va_calli (va_runV (As := [.int (nI mi), .int 3]) (rest := [.int (avR ra cn), .int (remR ra mi)]) ⟨hx, hb, hml, hown, hts⟩ (e_of l D cA sa w0 ed nb ol v0 v1 v2 v3 v4 v9 v13 v27 v28 v29 v30 v31 v32 v33 v34 v35 v36 v37 g8 g11 g12 g14 g15 g16 g17 g18 g19 g20 g21 g22 g23 g24 g26 g5 g6 g25 ra fs mi 3 H.size hAb hmi (by omega)) (cwV 2 hts gX10_splitSum_X10_of rfl rfl rfl (by decide +kernel) ⟨(Nat.le_of_ble_eq_true rfl), (Nat.le_of_ble_eq_true rfl)⟩) ⟨Wd.blind, va_recv hK hPc (ci := 11) (q0 := 0) rfl rfl, fun U hU hW => ⟨rfl, Wd.call hPc hDc hK hC hZ hS hFc U hU hW⟩⟩ rfl rfl hl.1 rfl (lv_room (Nat.le_of_ble_eq_true rfl)) dX10_splitSum_12 ⟨(Nat.le_of_ble_eq_true rfl), (Nat.le_of_ble_eq_true rfl)⟩) hS (fun q _ h => hFc q h) hFc (fun rn3 u t H1 locs ht hvm hw hB hz1 hk1 hS => ?_)
  obtain ⟨hP1, hD1⟩ := hB
  rw [ht] at hP1
  obtain ⟨hP, hD⟩ := PDq.join (w := [(oX10 w0 v0 v1 v2 v3 v4 g5 g6 (nI ed) g8 v9 (nI nb) g11 g12 v13 g14 g15 g16 g17 g18 g19 g20 g21 g22 g23 g24 g25 g26 v27 v28 v29 v30 v31 v32 v33 v34 v35 v36 v37 (nI ol)), (v0, .inl (cA 0, 326, .inl fs))]) 0 hP hD [0, 1] [] rfl rfl (by decide) (by decide) hk1 hFc hP1 hD1 rfl
  generalize H1 = H at hP hS ⊢
  obtain rfl : rn3 = (ra (16 + 7 * mi + 3)) := hw.trans rfl
  refine lv_iadd hx hb dX10_splitSum_15 ?_
  refine lv_topi (fun yn4 eyn4 => ?_)
  obtain rfl : yn4 = ((avR ra cn) + (ra (16 + 7 * mi + 3))) := eyn4
  refine va_mmin hx hb (by rw [hml]; exact hl.1.symm) hown (hts (.methodLink RX10 301 Lib.Math.min.name) (by decide +kernel)) (hts (.static Lib.Math.min.name) (by decide +kernel)) (hts (.initialized "java/lang/Math") (by decide +kernel)) (hts (.code Lib.Math.min.name Lib.Math.min.code 2 (some .int)) (by decide +kernel)) (Nat.le_of_ble_eq_true rfl) (Nat.le_of_ble_eq_true rfl) (Nat.le_of_ble_eq_true rfl) (Nat.le_of_ble_eq_true rfl) dX10_splitSum_16 ?_
  refine lv_topi (fun yn5 eyn5 => ?_)
  obtain rfl : yn5 = (minI (remR ra mi) ((avR ra cn) + (ra (16 + 7 * mi + 3)))) := eyn5
  obtain ⟨hP9, hD9⟩ := PDq.sub (ws' := [(oX10 w0 v0 v1 v2 v3 v4 g5 g6 (nI ed) g8 v9 (nI nb) g11 g12 v13 g14 g15 g16 g17 g18 g19 g20 g21 g22 g23 g24 g25 g26 v27 v28 v29 v30 v31 v32 v33 v34 v35 v36 v37 (nI ol)), (v0, .inl (cA 0, 326, .inl fs))]) hP hD [0, 1] (by decide) rfl
  refine W.widen (k := 0) (n := 0) (Nat.le_of_ble_eq_true rfl) (Nat.le_of_ble_eq_true rfl) ?_
  exact (W.iret (v := (minI (remR ra mi) ((avR ra cn) + (ra (16 + 7 * mi + 3))))) hx hb hr (fun t ht hW => ⟨⟨(minI (remR ra mi) ((avR ra cn) + (ra (16 + 7 * mi + 3)))), (), rfl, rfl, by rw [ht]; exact hP9, hD9⟩, hS.F ht⟩) hS.2.2 dX10_splitSum_19)

set_option maxHeartbeats 4000000 in
set_option maxRecDepth 100000 in
/-- reference, exactly: splitBy -/
theorem e_splitBy (l : Launch) (D : va_G) (cA : Nat → ClassId) (sa : Nat → Nat) (w0 : Nat) (ed : Nat) (nb : Nat) (ol : Nat) (v0 : Nat) (v1 : Nat) (v2 : Nat) (v3 : Nat) (v4 : Nat) (v9 : Nat) (v13 : Nat) (v27 : Nat) (v28 : Nat) (v29 : Nat) (v30 : Nat) (v31 : Nat) (v32 : Nat) (v33 : Nat) (v34 : Nat) (v35 : Nat) (v36 : Nat) (v37 : Nat) (g8 : Int32) (g11 : Int32) (g12 : Int32) (g14 : Int32) (g15 : Int32) (g16 : Int32) (g17 : Int32) (g18 : Int32) (g19 : Int32) (g20 : Int32) (g21 : Int32) (g22 : Int32) (g23 : Int32) (g24 : Int32) (g26 : Int32) (g5 : Int64) (g6 : Int64) (g25 : Int64) (cn : Nat) (pq : Nat) (en : Nat) (dy : Nat) (fs : Nat → Int32) (ra : Nat → Int32) (mi : Nat) (a : Int32) (sz : Nat) (hAb : Ab ra fs) (hcn : cn ≤ 10) (hpq : pq ≤ 8) (hen : en ≤ 60) (hdy : dy ≤ 20000) (hri : RI cn pq en dy fs) (hmi : mi < 10) : Met l yX10_splitBy wsX10_splitBy ({ frames := 4, cells := 0, slots := 0, locals := 85 }) (va_Pc [.ref w0, .int (nI mi), .int a] (Wd D cA sa [(oX10 w0 v0 v1 v2 v3 v4 g5 g6 (nI ed) g8 v9 (nI nb) g11 g12 v13 g14 g15 g16 g17 g18 g19 g20 g21 g22 g23 g24 g25 g26 v27 v28 v29 v30 v31 v32 v33 v34 v35 v36 v37 (nI ol)), (v0, .inl (cA 0, 326, .inl fs))] sz)) (va_Qi (fun (r : Int32) (_ : Unit) => r = splB cn mi a ra) (fun (_ : Unit) t => Wq D (va_A [(oX10 w0 v0 v1 v2 v3 v4 g5 g6 (nI ed) g8 v9 (nI nb) g11 g12 v13 g14 g15 g16 g17 g18 g19 g20 g21 g22 g23 g24 g25 g26 v27 v28 v29 v30 v31 v32 v33 v34 v35 v36 v37 (nI ol)), (v0, .inl (cA 0, 326, .inl fs))] sz) [(oX10 w0 v0 v1 v2 v3 v4 g5 g6 (nI ed) g8 v9 (nI nb) g11 g12 v13 g14 g15 g16 g17 g18 g19 g20 g21 g22 g23 g24 g25 g26 v27 v28 v29 v30 v31 v32 v33 v34 v35 v36 v37 (nI ol)), (v0, .inl (cA 0, 326, .inl fs))] t) (va_A [(oX10 w0 v0 v1 v2 v3 v4 g5 g6 (nI ed) g8 v9 (nI nb) g11 g12 v13 g14 g15 g16 g17 g18 g19 g20 g21 g22 g23 g24 g25 g26 v27 v28 v29 v30 v31 v32 v33 v34 v35 v36 v37 (nI ol)), (v0, .inl (cA 0, 326, .inl fs))] sz)) 0 0 (va_A [(oX10 w0 v0 v1 v2 v3 v4 g5 g6 (nI ed) g8 v9 (nI nb) g11 g12 v13 g14 g15 g16 g17 g18 g19 g20 g21 g22 g23 g24 g25 g26 v27 v28 v29 v30 v31 v32 v33 v34 v35 v36 v37 (nI ol)), (v0, .inl (cA 0, 326, .inl fs))] sz) := by
  refine Met.ofW (cc := cX10_splitBy) (maxL := 3) (ret := (some .int)) (by decide) rfl ?_
  intro p e s m args below meth c s₁ B hml hv
  obtain ⟨rfl, hsz, hP, hK, hD0, hC, hZ⟩ := hv
  have hx := B.exec
  have hb := B.bytes
  have hr := B.returns
  have hts := atoms_spec (ws := wsX10_splitBy) B.pre
  have hown : s.vm.findClass RX10 = some m.cls := findClass_of_methodNamed B.named
  have hlocks := B.notSynchronized
  subst hsz
  have hD := hD0.self (sz := s.heap.size)
  generalize hAe : va_A [(oX10 w0 v0 v1 v2 v3 v4 g5 g6 (nI ed) g8 v9 (nI nb) g11 g12 v13 g14 g15 g16 g17 g18 g19 g20 g21 g22 g23 g24 g25 g26 v27 v28 v29 v30 v31 v32 v33 v34 v35 v36 v37 (nI ol)), (v0, .inl (cA 0, 326, .inl fs))] s.heap.size = A at hD hZ ⊢
  have hA : ∀ q : Nat, s.heap.size ≤ q → A q := fun q h => by rw [← hAe]; exact Or.inr h
  have hS : va_S A s.heap s.heap [] := va_S.rf
  have hP : va_P D vwCl [(oX10 w0 v0 v1 v2 v3 v4 g5 g6 (nI ed) g8 v9 (nI nb) g11 g12 v13 g14 g15 g16 g17 g18 g19 g20 g21 g22 g23 g24 g25 g26 v27 v28 v29 v30 v31 v32 v33 v34 v35 v36 v37 (nI ol)), (v0, .inl (cA 0, 326, .inl fs))] s.heap := hP
  have hl := lv_entry ([.ref w0, .int (nI mi), .int a]) (n := 3) (Nat.le_of_ble_eq_true rfl)
  rw [lg_entry_eq]
  generalize (lg_sl ([.ref w0, .int (nI mi), .int a]) ++ List.replicate (3 - (lg_sl ([.ref w0, .int (nI mi), .int a])).length) Slot.unset).toArray = ls at hl ⊢
  have hl : lv_has ls 3 [(0, .ref w0), (1, .int (nI mi)), (2, .int a)] := hl
  refine lv_aload_n hx hb dX10_splitBy_0 rfl (lv_at hl 0 rfl) ?_
  refine lv_iload_n hx hb dX10_splitBy_1 rfl (lv_at hl 1 rfl) ?_
  obtain ⟨hPc, hDc, hFc⟩ := PDq.cut (wc := [(oX10 w0 v0 v1 v2 v3 v4 g5 g6 (nI ed) g8 v9 (nI nb) g11 g12 v13 g14 g15 g16 g17 g18 g19 g20 g21 g22 g23 g24 g25 g26 v27 v28 v29 v30 v31 v32 v33 v34 v35 v36 v37 (nI ol)), (v0, .inl (cA 0, 326, .inl fs))]) hP hD hS hA [0, 1] (by decide) rfl
  refine va_calli (va_runV (As := [.int (nI mi)]) (rest := []) ⟨hx, hb, hml, hown, hts⟩ (e_splitSum l D cA sa w0 ed nb ol v0 v1 v2 v3 v4 v9 v13 v27 v28 v29 v30 v31 v32 v33 v34 v35 v36 v37 g8 g11 g12 g14 g15 g16 g17 g18 g19 g20 g21 g22 g23 g24 g26 g5 g6 g25 cn pq en dy fs ra mi s.heap.size hAb hcn hpq hen hdy hri hmi) (cwV 1 hts gX10_splitBy_X10_splitSum rfl rfl rfl (by decide +kernel) ⟨(Nat.le_of_ble_eq_true rfl), (Nat.le_of_ble_eq_true rfl)⟩) ⟨Wd.blind, va_recv hK hPc (ci := 11) (q0 := 0) rfl rfl, fun U hU hW => ⟨rfl, Wd.call hPc hDc hK hC hZ hS hFc U hU hW⟩⟩ rfl rfl hl.1 rfl (lv_room (Nat.le_of_ble_eq_true rfl)) dX10_splitBy_2 ⟨(Nat.le_of_ble_eq_true rfl), (Nat.le_of_ble_eq_true rfl)⟩) hS (fun q _ h => hFc q h) hFc (fun rn1 u t H1 locs ht hvm hw hB hz1 hk1 hS => ?_)
  obtain ⟨hP1, hD1⟩ := hB
  rw [ht] at hP1
  obtain ⟨hP, hD⟩ := PDq.join (w := [(oX10 w0 v0 v1 v2 v3 v4 g5 g6 (nI ed) g8 v9 (nI nb) g11 g12 v13 g14 g15 g16 g17 g18 g19 g20 g21 g22 g23 g24 g25 g26 v27 v28 v29 v30 v31 v32 v33 v34 v35 v36 v37 (nI ol)), (v0, .inl (cA 0, 326, .inl fs))]) 0 hP hD [0, 1] [] rfl rfl (by decide) (by decide) hk1 hFc hP1 hD1 rfl
  generalize H1 = H at hP hS ⊢
  obtain rfl : rn1 = (splS cn mi ra) := hw
  refine lv_i2l (v := ((splS cn mi ra).toInt64)) hx hb dX10_splitBy_5 rfl ?_
  refine lv_iload_n hx hb dX10_splitBy_6 rfl (lv_at hl 2 rfl) ?_
  refine lv_i2l (v := (a.toInt64)) hx hb dX10_splitBy_7 rfl ?_
  refine lv_lmul hx hb dX10_splitBy_8 ?_
  refine lv_topl (fun yn2 eyn2 => ?_)
  obtain rfl : yn2 = (((splS cn mi ra).toInt64) * (a.toInt64)) := eyn2
  refine lv_ldc2 (v := 1000) hx hb hown (hts (.constantLong RX10 343 1000) (by decide +kernel)) dX10_splitBy_9 ?_
  refine lv_ldiv hx hb dX10_splitBy_12 (by decide) ?_
  refine lv_topl (fun yn3 eyn3 => ?_)
  obtain rfl : yn3 = ((((splS cn mi ra).toInt64) * (a.toInt64)) / 1000) := eyn3
  refine lv_l2i (v := ((((splS cn mi ra).toInt64) * (a.toInt64)) / 1000).toInt32) hx hb dX10_splitBy_13 rfl ?_
  refine lv_topi (fun yn4 eyn4 => ?_)
  obtain rfl : yn4 = (((((splS cn mi ra).toInt64) * (a.toInt64)) / 1000).toInt32) := eyn4
  obtain ⟨hP9, hD9⟩ := PDq.sub (ws' := [(oX10 w0 v0 v1 v2 v3 v4 g5 g6 (nI ed) g8 v9 (nI nb) g11 g12 v13 g14 g15 g16 g17 g18 g19 g20 g21 g22 g23 g24 g25 g26 v27 v28 v29 v30 v31 v32 v33 v34 v35 v36 v37 (nI ol)), (v0, .inl (cA 0, 326, .inl fs))]) hP hD [0, 1] (by decide) rfl
  refine W.widen (k := 0) (n := 0) (Nat.le_of_ble_eq_true rfl) (Nat.le_of_ble_eq_true rfl) ?_
  exact (W.iret (v := (((((splS cn mi ra).toInt64) * (a.toInt64)) / 1000).toInt32)) hx hb hr (fun t ht hW => ⟨⟨(((((splS cn mi ra).toInt64) * (a.toInt64)) / 1000).toInt32), (), rfl, rfl, by rw [ht]; exact hP9, hD9⟩, hS.F ht⟩) hS.2.2 dX10_splitBy_14)

set_option maxHeartbeats 4000000 in
set_option maxRecDepth 100000 in
/-- reference, exactly: canSplit -/
theorem e_canSplit0 (l : Launch) (D : va_G) (cA : Nat → ClassId) (sa : Nat → Nat) (w0 : Nat) (ed : Nat) (nb : Nat) (ol : Nat) (v0 : Nat) (v1 : Nat) (v2 : Nat) (v3 : Nat) (v4 : Nat) (v9 : Nat) (v13 : Nat) (v27 : Nat) (v28 : Nat) (v29 : Nat) (v30 : Nat) (v31 : Nat) (v32 : Nat) (v33 : Nat) (v34 : Nat) (v35 : Nat) (v36 : Nat) (v37 : Nat) (g8 : Int32) (g11 : Int32) (g12 : Int32) (g14 : Int32) (g15 : Int32) (g16 : Int32) (g17 : Int32) (g18 : Int32) (g19 : Int32) (g20 : Int32) (g21 : Int32) (g22 : Int32) (g23 : Int32) (g24 : Int32) (g26 : Int32) (g5 : Int64) (g6 : Int64) (g25 : Int64) (cn : Nat) (pq : Nat) (en : Nat) (dy : Nat) (fs : Nat → Int32) (ra : Nat → Int32) (i : Int32) (sz : Nat) (hAb : Ab ra fs) (hcn : cn ≤ 10) (hpq : pq ≤ 8) (hen : en ≤ 60) (hdy : dy ≤ 20000) (hri : RI cn pq en dy fs) : Met l yX10_canSplit wsX10_canSplit ({ frames := 2, cells := 0, slots := 0, locals := 46 }) (va_Pc [.ref w0, .int i, .int 0] (Wd D cA sa [(oX10 w0 v0 v1 v2 v3 v4 g5 g6 (nI ed) g8 v9 (nI nb) g11 g12 v13 g14 g15 g16 g17 g18 g19 g20 g21 g22 g23 g24 g25 g26 v27 v28 v29 v30 v31 v32 v33 v34 v35 v36 v37 (nI ol)), (v0, .inl (cA 0, 326, .inl fs))] sz)) (va_Qi (fun (r : Int32) (_ : Unit) => r = 0) (fun (_ : Unit) t => ∃ zt : Int32, Wq D (va_A [(oX10 w0 v0 v1 v2 v3 v4 g5 g6 (nI ed) g8 v9 (nI nb) g11 g12 v13 g14 g15 g16 g17 g18 g19 g20 g21 g22 g23 g24 g25 g26 v27 v28 v29 v30 v31 v32 v33 v34 v35 v36 v37 (nI ol)), (v0, .inl (cA 0, 326, .inl fs))] sz) [(oX10 w0 v0 v1 v2 v3 v4 g5 g6 (nI ed) zt v9 (nI nb) g11 g12 v13 g14 g15 g16 g17 g18 g19 g20 g21 g22 g23 g24 g25 g26 v27 v28 v29 v30 v31 v32 v33 v34 v35 v36 v37 (nI ol)), (v0, .inl (cA 0, 326, .inl fs))] t) (va_A [(oX10 w0 v0 v1 v2 v3 v4 g5 g6 (nI ed) g8 v9 (nI nb) g11 g12 v13 g14 g15 g16 g17 g18 g19 g20 g21 g22 g23 g24 g25 g26 v27 v28 v29 v30 v31 v32 v33 v34 v35 v36 v37 (nI ol)), (v0, .inl (cA 0, 326, .inl fs))] sz)) 0 0 (va_A [(oX10 w0 v0 v1 v2 v3 v4 g5 g6 (nI ed) g8 v9 (nI nb) g11 g12 v13 g14 g15 g16 g17 g18 g19 g20 g21 g22 g23 g24 g25 g26 v27 v28 v29 v30 v31 v32 v33 v34 v35 v36 v37 (nI ol)), (v0, .inl (cA 0, 326, .inl fs))] sz) := by
  refine Met.ofW (cc := cX10_canSplit) (maxL := 3) (ret := (some .boolean)) (by decide) rfl ?_
  intro p e s m args below meth c s₁ B hml hv
  obtain ⟨rfl, hsz, hP, hK, hD0, hC, hZ⟩ := hv
  have hx := B.exec
  have hb := B.bytes
  have hr := B.returns
  have hts := atoms_spec (ws := wsX10_canSplit) B.pre
  have hown : s.vm.findClass RX10 = some m.cls := findClass_of_methodNamed B.named
  have hlocks := B.notSynchronized
  subst hsz
  have hD := hD0.self (sz := s.heap.size)
  generalize hAe : va_A [(oX10 w0 v0 v1 v2 v3 v4 g5 g6 (nI ed) g8 v9 (nI nb) g11 g12 v13 g14 g15 g16 g17 g18 g19 g20 g21 g22 g23 g24 g25 g26 v27 v28 v29 v30 v31 v32 v33 v34 v35 v36 v37 (nI ol)), (v0, .inl (cA 0, 326, .inl fs))] s.heap.size = A at hD hZ ⊢
  have hA : ∀ q : Nat, s.heap.size ≤ q → A q := fun q h => by rw [← hAe]; exact Or.inr h
  have hS : va_S A s.heap s.heap [] := va_S.rf
  have hP : va_P D vwCl [(oX10 w0 v0 v1 v2 v3 v4 g5 g6 (nI ed) g8 v9 (nI nb) g11 g12 v13 g14 g15 g16 g17 g18 g19 g20 g21 g22 g23 g24 g25 g26 v27 v28 v29 v30 v31 v32 v33 v34 v35 v36 v37 (nI ol)), (v0, .inl (cA 0, 326, .inl fs))] s.heap := hP
  have hl := lv_entry ([.ref w0, .int i, .int 0]) (n := 3) (Nat.le_of_ble_eq_true rfl)
  rw [lg_entry_eq]
  generalize (lg_sl ([.ref w0, .int i, .int 0]) ++ List.replicate (3 - (lg_sl ([.ref w0, .int i, .int 0])).length) Slot.unset).toArray = ls at hl ⊢
  have hl : lv_has ls 3 [(0, .ref w0), (1, .int i), (2, .int 0)] := hl
  have inX10 : ∀ w ∈ u_ws RX10 TX10 39, w ∈ wsX10_canSplit := by decide +kernel
  refine lv_aload_n hx hb dX10_canSplit_0 rfl (lv_at hl 0 rfl) ?_
  refine lv_aload_n hx hb dX10_canSplit_1 rfl (lv_at hl 0 rfl) ?_
  refine lv_iload_n hx hb dX10_canSplit_2 rfl (lv_at hl 1 rfl) ?_
  obtain ⟨hPc, hDc, hFc⟩ := PDq.cut (wc := [(oX10 w0 v0 v1 v2 v3 v4 g5 g6 (nI ed) g8 v9 (nI nb) g11 g12 v13 g14 g15 g16 g17 g18 g19 g20 g21 g22 g23 g24 g25 g26 v27 v28 v29 v30 v31 v32 v33 v34 v35 v36 v37 (nI ol)), (v0, .inl (cA 0, 326, .inl fs))]) hP hD hS hA [0, 1] (by decide) rfl
  refine va_calli (va_runV (As := [.int i]) (rest := [.ref w0]) ⟨hx, hb, hml, hown, hts⟩ (e_isMilestone l D cA sa w0 ed nb ol v0 v1 v2 v3 v4 v9 v13 v27 v28 v29 v30 v31 v32 v33 v34 v35 v36 v37 g8 g11 g12 g14 g15 g16 g17 g18 g19 g20 g21 g22 g23 g24 g26 g5 g6 g25 cn pq en dy fs i s.heap.size hcn hpq hen hdy hri) (cwV 1 hts gX10_canSplit_X10_isMilestone rfl rfl rfl (by decide +kernel) ⟨(Nat.le_of_ble_eq_true rfl), (Nat.le_of_ble_eq_true rfl)⟩) ⟨Wd.blind, va_recv hK hPc (ci := 11) (q0 := 0) rfl rfl, fun U hU hW => ⟨rfl, Wd.call hPc hDc hK hC hZ hS hFc U hU hW⟩⟩ rfl rfl hl.1 rfl (lv_room (Nat.le_of_ble_eq_true rfl)) dX10_canSplit_3 ⟨(Nat.le_of_ble_eq_true rfl), (Nat.le_of_ble_eq_true rfl)⟩) hS (fun q _ h => hFc q h) hFc (fun rn1 u t H1 locs ht hvm hw hB hz1 hk1 hS => ?_)
  obtain ⟨hP1, hD1⟩ := hB
  rw [ht] at hP1
  obtain ⟨hP, hD⟩ := PDq.join (w := [(oX10 w0 v0 v1 v2 v3 v4 g5 g6 (nI ed) g8 v9 (nI nb) g11 g12 v13 g14 g15 g16 g17 g18 g19 g20 g21 g22 g23 g24 g25 g26 v27 v28 v29 v30 v31 v32 v33 v34 v35 v36 v37 (nI ol)), (v0, .inl (cA 0, 326, .inl fs))]) 0 hP hD [0, 1] [] rfl rfl (by decide) (by decide) hk1 hFc hP1 hD1 rfl
  generalize H1 = H at hP hS ⊢
  rcases hw with ⟨hr9, kn2, hn3, hn4⟩ | ⟨hr9, hn5⟩
  · skip
    subst hr9
    rw [hn4] at hl
    have hl : lv_has ls 3 [(0, .ref w0), (1, .int (nI kn2)), (2, .int 0)] := hl
    refine lv_iload_n hx hb dX10_canSplit_6 rfl (lv_at hl 2 rfl) ?_
    obtain ⟨hPc, hDc, hFc⟩ := PDq.cut (wc := [(oX10 w0 v0 v1 v2 v3 v4 g5 g6 (nI ed) g8 v9 (nI nb) g11 g12 v13 g14 g15 g16 g17 g18 g19 g20 g21 g22 g23 g24 g25 g26 v27 v28 v29 v30 v31 v32 v33 v34 v35 v36 v37 (nI ol))]) hP hD hS hA [0] (by decide) rfl
    refine va_calli (va_runV (As := [.int 1, .int 0]) (rest := []) ⟨hx, hb, hml, hown, hts⟩ (r_good_10 l D cA sa w0 ed nb ol v0 v1 v2 v3 v4 v9 v13 v27 v28 v29 v30 v31 v32 v33 v34 v35 v36 v37 g8 g11 g12 g14 g15 g16 g17 g18 g19 g20 g21 g22 g23 g24 g26 g5 g6 g25 H.size) (cwV 2 hts gX10_canSplit_X10_good_ rfl rfl rfl (by decide +kernel) ⟨(Nat.le_of_ble_eq_true rfl), (Nat.le_of_ble_eq_true rfl)⟩) ⟨Wd.blind, va_recv hK hPc (ci := 11) (q0 := 0) rfl rfl, fun U hU hW => ⟨rfl, Wd.call hPc hDc hK hC hZ hS hFc U hU hW⟩⟩ rfl rfl hl.1 rfl (lv_room (Nat.le_of_ble_eq_true rfl)) dX10_canSplit_7 ⟨(Nat.le_of_ble_eq_true rfl), (Nat.le_of_ble_eq_true rfl)⟩) hS (fun q _ h => hFc q h) hFc (fun rn6 u t H1 locs ht hvm hw hB hz1 hk1 hS => ?_)
    obtain ⟨hP1, hD1⟩ := hB
    rw [ht] at hP1
    obtain ⟨hP, hD⟩ := PDq.join (w := [(v0, .inl (cA 0, 326, .inl fs)), (oX10 w0 v0 v1 v2 v3 v4 g5 g6 (nI ed) 2 v9 (nI nb) g11 g12 v13 g14 g15 g16 g17 g18 g19 g20 g21 g22 g23 g24 g25 g26 v27 v28 v29 v30 v31 v32 v33 v34 v35 v36 v37 (nI ol))]) 1 hP hD [0] [1] rfl rfl (by decide) (by decide) hk1 hFc hP1 hD1 rfl
    generalize H1 = H at hP hS ⊢
    obtain rfl : rn6 = 0 := hw
    refine lv_if_eq (tgt := 32) hx hb dX10_canSplit_10 (by decide) (fun c7 => ?_) (fun c9 => absurd c9 (by decide))
    refine lv_aload_n hx hb dX10_canSplit_32 rfl (lv_at hl 0 rfl) ?_
    refine va_get (D := D) (ci := 11) (v := .int 2) (C := RX10) (T := TX10) (N := 39) hx hb hts inX10 hown hK hP 1 rfl rfl 8 (by decide) (hts (.fieldLink RX10 80 "EscrowDeskModel" "thrown" "I") (by decide +kernel)) (fun _ h9 => h9) rfl dX10_canSplit_33 ?_
    refine lv_if_ne (tgt := 43) hx hb dX10_canSplit_36 (by decide) (fun c8 => ?_) (fun c9 => absurd c9 (by decide))
    refine lv_iconst (v := 0) hx hb dX10_canSplit_43 (by decide) ?_
    obtain ⟨hP9, hD9⟩ := PDq.sub (ws' := [(oX10 w0 v0 v1 v2 v3 v4 g5 g6 (nI ed) 2 v9 (nI nb) g11 g12 v13 g14 g15 g16 g17 g18 g19 g20 g21 g22 g23 g24 g25 g26 v27 v28 v29 v30 v31 v32 v33 v34 v35 v36 v37 (nI ol)), (v0, .inl (cA 0, 326, .inl fs))]) hP hD [1, 0] (by decide) rfl
    refine W.widen (k := 0) (n := 0) (Nat.le_of_ble_eq_true rfl) (Nat.le_of_ble_eq_true rfl) ?_
    exact (W.zret (v := 0) hx hb hr (by first | rfl | decide) (fun t ht hW => ⟨⟨0, (), rfl, rfl, 2, by rw [ht]; exact hP9, hD9⟩, hS.F ht⟩) hS.2.2 dX10_canSplit_44)
  · skip
    subst hr9
    refine lv_iload_n hx hb dX10_canSplit_6 rfl (lv_at hl 2 rfl) ?_
    obtain ⟨hPc, hDc, hFc⟩ := PDq.cut (wc := [(oX10 w0 v0 v1 v2 v3 v4 g5 g6 (nI ed) g8 v9 (nI nb) g11 g12 v13 g14 g15 g16 g17 g18 g19 g20 g21 g22 g23 g24 g25 g26 v27 v28 v29 v30 v31 v32 v33 v34 v35 v36 v37 (nI ol))]) hP hD hS hA [0] (by decide) rfl
    refine va_calli (va_runV (As := [.int 0, .int 0]) (rest := []) ⟨hx, hb, hml, hown, hts⟩ (r_good_00 l D cA sa w0 ed nb ol v0 v1 v2 v3 v4 v9 v13 v27 v28 v29 v30 v31 v32 v33 v34 v35 v36 v37 g8 g11 g12 g14 g15 g16 g17 g18 g19 g20 g21 g22 g23 g24 g26 g5 g6 g25 H.size) (cwV 2 hts gX10_canSplit_X10_good_ rfl rfl rfl (by decide +kernel) ⟨(Nat.le_of_ble_eq_true rfl), (Nat.le_of_ble_eq_true rfl)⟩) ⟨Wd.blind, va_recv hK hPc (ci := 11) (q0 := 0) rfl rfl, fun U hU hW => ⟨rfl, Wd.call hPc hDc hK hC hZ hS hFc U hU hW⟩⟩ rfl rfl hl.1 rfl (lv_room (Nat.le_of_ble_eq_true rfl)) dX10_canSplit_7 ⟨(Nat.le_of_ble_eq_true rfl), (Nat.le_of_ble_eq_true rfl)⟩) hS (fun q _ h => hFc q h) hFc (fun rn9 u t H1 locs ht hvm hw hB hz1 hk1 hS => ?_)
    obtain ⟨hP1, hD1⟩ := hB
    rw [ht] at hP1
    obtain ⟨hP, hD⟩ := PDq.join (w := [(v0, .inl (cA 0, 326, .inl fs)), (oX10 w0 v0 v1 v2 v3 v4 g5 g6 (nI ed) 1 v9 (nI nb) g11 g12 v13 g14 g15 g16 g17 g18 g19 g20 g21 g22 g23 g24 g25 g26 v27 v28 v29 v30 v31 v32 v33 v34 v35 v36 v37 (nI ol))]) 1 hP hD [0] [1] rfl rfl (by decide) (by decide) hk1 hFc hP1 hD1 rfl
    generalize H1 = H at hP hS ⊢
    obtain rfl : rn9 = 0 := hw
    refine lv_if_eq (tgt := 32) hx hb dX10_canSplit_10 (by decide) (fun c10 => ?_) (fun c9 => absurd c9 (by decide))
    refine lv_aload_n hx hb dX10_canSplit_32 rfl (lv_at hl 0 rfl) ?_
    refine va_get (D := D) (ci := 11) (v := .int 1) (C := RX10) (T := TX10) (N := 39) hx hb hts inX10 hown hK hP 1 rfl rfl 8 (by decide) (hts (.fieldLink RX10 80 "EscrowDeskModel" "thrown" "I") (by decide +kernel)) (fun _ h9 => h9) rfl dX10_canSplit_33 ?_
    refine lv_if_ne (tgt := 43) hx hb dX10_canSplit_36 (by decide) (fun c11 => ?_) (fun c9 => absurd c9 (by decide))
    refine lv_iconst (v := 0) hx hb dX10_canSplit_43 (by decide) ?_
    obtain ⟨hP9, hD9⟩ := PDq.sub (ws' := [(oX10 w0 v0 v1 v2 v3 v4 g5 g6 (nI ed) 1 v9 (nI nb) g11 g12 v13 g14 g15 g16 g17 g18 g19 g20 g21 g22 g23 g24 g25 g26 v27 v28 v29 v30 v31 v32 v33 v34 v35 v36 v37 (nI ol)), (v0, .inl (cA 0, 326, .inl fs))]) hP hD [1, 0] (by decide) rfl
    refine W.widen (k := 0) (n := 0) (Nat.le_of_ble_eq_true rfl) (Nat.le_of_ble_eq_true rfl) ?_
    exact (W.zret (v := 0) hx hb hr (by first | rfl | decide) (fun t ht hW => ⟨⟨0, (), rfl, rfl, 1, by rw [ht]; exact hP9, hD9⟩, hS.F ht⟩) hS.2.2 dX10_canSplit_44)

set_option maxHeartbeats 4000000 in
set_option maxRecDepth 100000 in
/-- reference, exactly: canSplit -/
theorem e_canSplit1 (l : Launch) (D : va_G) (cA : Nat → ClassId) (sa : Nat → Nat) (w0 : Nat) (ed : Nat) (nb : Nat) (ol : Nat) (v0 : Nat) (v1 : Nat) (v2 : Nat) (v3 : Nat) (v4 : Nat) (v9 : Nat) (v13 : Nat) (v27 : Nat) (v28 : Nat) (v29 : Nat) (v30 : Nat) (v31 : Nat) (v32 : Nat) (v33 : Nat) (v34 : Nat) (v35 : Nat) (v36 : Nat) (v37 : Nat) (g8 : Int32) (g11 : Int32) (g12 : Int32) (g14 : Int32) (g15 : Int32) (g16 : Int32) (g17 : Int32) (g18 : Int32) (g19 : Int32) (g20 : Int32) (g21 : Int32) (g22 : Int32) (g23 : Int32) (g24 : Int32) (g26 : Int32) (g5 : Int64) (g6 : Int64) (g25 : Int64) (cn : Nat) (pq : Nat) (en : Nat) (dy : Nat) (fs : Nat → Int32) (ra : Nat → Int32) (i : Int32) (sz : Nat) (hAb : Ab ra fs) (hcn : cn ≤ 10) (hpq : pq ≤ 8) (hen : en ≤ 60) (hdy : dy ≤ 20000) (hri : RI cn pq en dy fs) : Met l yX10_canSplit wsX10_canSplit ({ frames := 2, cells := 0, slots := 0, locals := 46 }) (va_Pc [.ref w0, .int i, .int 1] (Wd D cA sa [(oX10 w0 v0 v1 v2 v3 v4 g5 g6 (nI ed) g8 v9 (nI nb) g11 g12 v13 g14 g15 g16 g17 g18 g19 g20 g21 g22 g23 g24 g25 g26 v27 v28 v29 v30 v31 v32 v33 v34 v35 v36 v37 (nI ol)), (v0, .inl (cA 0, 326, .inl fs))] sz)) (va_Qi (fun (r : Int32) (_ : Unit) => (r = 1 ∧ ∃ n, n < cn ∧ i = nI n ∧ ra (16 + 7 * n + 2) = 2) ∨ (r = 0 ∧ ¬ (∃ n, n < cn ∧ i = nI n ∧ ra (16 + 7 * n + 2) = 2))) (fun (_ : Unit) t => ∃ zt : Int32, Wq D (va_A [(oX10 w0 v0 v1 v2 v3 v4 g5 g6 (nI ed) g8 v9 (nI nb) g11 g12 v13 g14 g15 g16 g17 g18 g19 g20 g21 g22 g23 g24 g25 g26 v27 v28 v29 v30 v31 v32 v33 v34 v35 v36 v37 (nI ol)), (v0, .inl (cA 0, 326, .inl fs))] sz) [(oX10 w0 v0 v1 v2 v3 v4 g5 g6 (nI ed) zt v9 (nI nb) g11 g12 v13 g14 g15 g16 g17 g18 g19 g20 g21 g22 g23 g24 g25 g26 v27 v28 v29 v30 v31 v32 v33 v34 v35 v36 v37 (nI ol)), (v0, .inl (cA 0, 326, .inl fs))] t) (va_A [(oX10 w0 v0 v1 v2 v3 v4 g5 g6 (nI ed) g8 v9 (nI nb) g11 g12 v13 g14 g15 g16 g17 g18 g19 g20 g21 g22 g23 g24 g25 g26 v27 v28 v29 v30 v31 v32 v33 v34 v35 v36 v37 (nI ol)), (v0, .inl (cA 0, 326, .inl fs))] sz)) 0 0 (va_A [(oX10 w0 v0 v1 v2 v3 v4 g5 g6 (nI ed) g8 v9 (nI nb) g11 g12 v13 g14 g15 g16 g17 g18 g19 g20 g21 g22 g23 g24 g25 g26 v27 v28 v29 v30 v31 v32 v33 v34 v35 v36 v37 (nI ol)), (v0, .inl (cA 0, 326, .inl fs))] sz) := by
  refine Met.ofW (cc := cX10_canSplit) (maxL := 3) (ret := (some .boolean)) (by decide) rfl ?_
  intro p e s m args below meth c s₁ B hml hv
  obtain ⟨rfl, hsz, hP, hK, hD0, hC, hZ⟩ := hv
  have hx := B.exec
  have hb := B.bytes
  have hr := B.returns
  have hts := atoms_spec (ws := wsX10_canSplit) B.pre
  have hown : s.vm.findClass RX10 = some m.cls := findClass_of_methodNamed B.named
  have hlocks := B.notSynchronized
  subst hsz
  have hD := hD0.self (sz := s.heap.size)
  generalize hAe : va_A [(oX10 w0 v0 v1 v2 v3 v4 g5 g6 (nI ed) g8 v9 (nI nb) g11 g12 v13 g14 g15 g16 g17 g18 g19 g20 g21 g22 g23 g24 g25 g26 v27 v28 v29 v30 v31 v32 v33 v34 v35 v36 v37 (nI ol)), (v0, .inl (cA 0, 326, .inl fs))] s.heap.size = A at hD hZ ⊢
  have hA : ∀ q : Nat, s.heap.size ≤ q → A q := fun q h => by rw [← hAe]; exact Or.inr h
  have hS : va_S A s.heap s.heap [] := va_S.rf
  have hP : va_P D vwCl [(oX10 w0 v0 v1 v2 v3 v4 g5 g6 (nI ed) g8 v9 (nI nb) g11 g12 v13 g14 g15 g16 g17 g18 g19 g20 g21 g22 g23 g24 g25 g26 v27 v28 v29 v30 v31 v32 v33 v34 v35 v36 v37 (nI ol)), (v0, .inl (cA 0, 326, .inl fs))] s.heap := hP
  have hl := lv_entry ([.ref w0, .int i, .int 1]) (n := 3) (Nat.le_of_ble_eq_true rfl)
  rw [lg_entry_eq]
  generalize (lg_sl ([.ref w0, .int i, .int 1]) ++ List.replicate (3 - (lg_sl ([.ref w0, .int i, .int 1])).length) Slot.unset).toArray = ls at hl ⊢
  have hl : lv_has ls 3 [(0, .ref w0), (1, .int i), (2, .int 1)] := hl
  have inX10 : ∀ w ∈ u_ws RX10 TX10 39, w ∈ wsX10_canSplit := by decide +kernel
  refine lv_aload_n hx hb dX10_canSplit_0 rfl (lv_at hl 0 rfl) ?_
  refine lv_aload_n hx hb dX10_canSplit_1 rfl (lv_at hl 0 rfl) ?_
  refine lv_iload_n hx hb dX10_canSplit_2 rfl (lv_at hl 1 rfl) ?_
  obtain ⟨hPc, hDc, hFc⟩ := PDq.cut (wc := [(oX10 w0 v0 v1 v2 v3 v4 g5 g6 (nI ed) g8 v9 (nI nb) g11 g12 v13 g14 g15 g16 g17 g18 g19 g20 g21 g22 g23 g24 g25 g26 v27 v28 v29 v30 v31 v32 v33 v34 v35 v36 v37 (nI ol)), (v0, .inl (cA 0, 326, .inl fs))]) hP hD hS hA [0, 1] (by decide) rfl
  refine va_calli (va_runV (As := [.int i]) (rest := [.ref w0]) ⟨hx, hb, hml, hown, hts⟩ (e_isMilestone l D cA sa w0 ed nb ol v0 v1 v2 v3 v4 v9 v13 v27 v28 v29 v30 v31 v32 v33 v34 v35 v36 v37 g8 g11 g12 g14 g15 g16 g17 g18 g19 g20 g21 g22 g23 g24 g26 g5 g6 g25 cn pq en dy fs i s.heap.size hcn hpq hen hdy hri) (cwV 1 hts gX10_canSplit_X10_isMilestone rfl rfl rfl (by decide +kernel) ⟨(Nat.le_of_ble_eq_true rfl), (Nat.le_of_ble_eq_true rfl)⟩) ⟨Wd.blind, va_recv hK hPc (ci := 11) (q0 := 0) rfl rfl, fun U hU hW => ⟨rfl, Wd.call hPc hDc hK hC hZ hS hFc U hU hW⟩⟩ rfl rfl hl.1 rfl (lv_room (Nat.le_of_ble_eq_true rfl)) dX10_canSplit_3 ⟨(Nat.le_of_ble_eq_true rfl), (Nat.le_of_ble_eq_true rfl)⟩) hS (fun q _ h => hFc q h) hFc (fun rn1 u t H1 locs ht hvm hw hB hz1 hk1 hS => ?_)
  obtain ⟨hP1, hD1⟩ := hB
  rw [ht] at hP1
  obtain ⟨hP, hD⟩ := PDq.join (w := [(oX10 w0 v0 v1 v2 v3 v4 g5 g6 (nI ed) g8 v9 (nI nb) g11 g12 v13 g14 g15 g16 g17 g18 g19 g20 g21 g22 g23 g24 g25 g26 v27 v28 v29 v30 v31 v32 v33 v34 v35 v36 v37 (nI ol)), (v0, .inl (cA 0, 326, .inl fs))]) 0 hP hD [0, 1] [] rfl rfl (by decide) (by decide) hk1 hFc hP1 hD1 rfl
  generalize H1 = H at hP hS ⊢
  rcases hw with ⟨hr9, kn2, hn3, hn4⟩ | ⟨hr9, hn5⟩
  · skip
    subst hr9
    rw [hn4] at hl
    have hl : lv_has ls 3 [(0, .ref w0), (1, .int (nI kn2)), (2, .int 1)] := hl
    refine lv_iload_n hx hb dX10_canSplit_6 rfl (lv_at hl 2 rfl) ?_
    obtain ⟨hPc, hDc, hFc⟩ := PDq.cut (wc := [(oX10 w0 v0 v1 v2 v3 v4 g5 g6 (nI ed) g8 v9 (nI nb) g11 g12 v13 g14 g15 g16 g17 g18 g19 g20 g21 g22 g23 g24 g25 g26 v27 v28 v29 v30 v31 v32 v33 v34 v35 v36 v37 (nI ol))]) hP hD hS hA [0] (by decide) rfl
    refine va_calli (va_runV (As := [.int 1, .int 1]) (rest := []) ⟨hx, hb, hml, hown, hts⟩ (r_good_11 l D cA sa w0 ed nb ol v0 v1 v2 v3 v4 v9 v13 v27 v28 v29 v30 v31 v32 v33 v34 v35 v36 v37 g8 g11 g12 g14 g15 g16 g17 g18 g19 g20 g21 g22 g23 g24 g26 g5 g6 g25 H.size) (cwV 2 hts gX10_canSplit_X10_good_ rfl rfl rfl (by decide +kernel) ⟨(Nat.le_of_ble_eq_true rfl), (Nat.le_of_ble_eq_true rfl)⟩) ⟨Wd.blind, va_recv hK hPc (ci := 11) (q0 := 0) rfl rfl, fun U hU hW => ⟨rfl, Wd.call hPc hDc hK hC hZ hS hFc U hU hW⟩⟩ rfl rfl hl.1 rfl (lv_room (Nat.le_of_ble_eq_true rfl)) dX10_canSplit_7 ⟨(Nat.le_of_ble_eq_true rfl), (Nat.le_of_ble_eq_true rfl)⟩) hS (fun q _ h => hFc q h) hFc (fun rn6 u t H1 locs ht hvm hw hB hz1 hk1 hS => ?_)
    obtain ⟨hP1, hD1⟩ := hB
    rw [ht] at hP1
    obtain ⟨hP, hD⟩ := PDq.join (w := [(v0, .inl (cA 0, 326, .inl fs)), (oX10 w0 v0 v1 v2 v3 v4 g5 g6 (nI ed) 0 v9 (nI nb) g11 g12 v13 g14 g15 g16 g17 g18 g19 g20 g21 g22 g23 g24 g25 g26 v27 v28 v29 v30 v31 v32 v33 v34 v35 v36 v37 (nI ol))]) 1 hP hD [0] [1] rfl rfl (by decide) (by decide) hk1 hFc hP1 hD1 rfl
    generalize H1 = H at hP hS ⊢
    obtain rfl : rn6 = 1 := hw
    refine lv_if_eq (tgt := 32) hx hb dX10_canSplit_10 (by decide) (fun c9 => absurd c9 (by decide)) (fun c7 => ?_)
    refine lv_aload_n hx hb dX10_canSplit_13 rfl (lv_at hl 0 rfl) ?_
    refine lv_aload_n hx hb dX10_canSplit_14 rfl (lv_at hl 0 rfl) ?_
    refine lv_iload_n hx hb dX10_canSplit_15 rfl (lv_at hl 1 rfl) ?_
    refine lv_iconst (v := 2) hx hb dX10_canSplit_16 (by decide) ?_
    obtain ⟨hPc, hDc, hFc⟩ := PDq.cut (wc := [(oX10 w0 v0 v1 v2 v3 v4 g5 g6 (nI ed) 0 v9 (nI nb) g11 g12 v13 g14 g15 g16 g17 g18 g19 g20 g21 g22 g23 g24 g25 g26 v27 v28 v29 v30 v31 v32 v33 v34 v35 v36 v37 (nI ol)), (v0, .inl (cA 0, 326, .inl fs))]) hP hD hS hA [1, 0] (by decide) rfl
    refine va_calli (va_runV (As := [.int (nI kn2), .int 2]) (rest := [.ref w0]) ⟨hx, hb, hml, hown, hts⟩ (e_of l D cA sa w0 ed nb ol v0 v1 v2 v3 v4 v9 v13 v27 v28 v29 v30 v31 v32 v33 v34 v35 v36 v37 0 g11 g12 g14 g15 g16 g17 g18 g19 g20 g21 g22 g23 g24 g26 g5 g6 g25 ra fs kn2 2 H.size hAb (by omega) (by omega)) (cwV 2 hts gX10_canSplit_X10_of rfl rfl rfl (by decide +kernel) ⟨(Nat.le_of_ble_eq_true rfl), (Nat.le_of_ble_eq_true rfl)⟩) ⟨Wd.blind, va_recv hK hPc (ci := 11) (q0 := 0) rfl rfl, fun U hU hW => ⟨rfl, Wd.call hPc hDc hK hC hZ hS hFc U hU hW⟩⟩ rfl rfl hl.1 rfl (lv_room (Nat.le_of_ble_eq_true rfl)) dX10_canSplit_17 ⟨(Nat.le_of_ble_eq_true rfl), (Nat.le_of_ble_eq_true rfl)⟩) hS (fun q _ h => hFc q h) hFc (fun rn8 u t H1 locs ht hvm hw hB hz1 hk1 hS => ?_)
    obtain ⟨hP1, hD1⟩ := hB
    rw [ht] at hP1
    obtain ⟨hP, hD⟩ := PDq.join (w := [(oX10 w0 v0 v1 v2 v3 v4 g5 g6 (nI ed) 0 v9 (nI nb) g11 g12 v13 g14 g15 g16 g17 g18 g19 g20 g21 g22 g23 g24 g25 g26 v27 v28 v29 v30 v31 v32 v33 v34 v35 v36 v37 (nI ol)), (v0, .inl (cA 0, 326, .inl fs))]) 0 hP hD [1, 0] [] rfl rfl (by decide) (by decide) hk1 hFc hP1 hD1 rfl
    generalize H1 = H at hP hS ⊢
    obtain rfl : rn8 = (ra (16 + 7 * kn2 + 2)) := hw.trans rfl
    refine lv_iconst (v := 2) hx hb dX10_canSplit_20 (by decide) ?_
    refine lv_icmp_ne (tgt := 28) hx hb dX10_canSplit_21 (by decide) (fun c9 => ?_) (fun c9 => ?_)
    · skip
      refine lv_iconst (v := 3) hx hb dX10_canSplit_28 (by decide) ?_
      refine va_put (D := D) (ci := 11) (v := .int 3) (ty := .int) (C := RX10) (T := TX10) (N := 39) hx hb hts inX10 tyX10 tyX10_ok nmX10 hown hK hP hD hS 0 rfl rfl 8 (by decide) (hts (.fieldLink RX10 80 "EscrowDeskModel" "thrown" "I") (by decide +kernel)) (fun _ h9 => h9) rfl (by decide +kernel) rfl rfl (Nat.le_of_ble_eq_true rfl) dX10_canSplit_29 (fun H locs hP hD hS => ?_)
      obtain ⟨hP, hD⟩ : PDq D A [(oX10 w0 v0 v1 v2 v3 v4 g5 g6 (nI ed) 3 v9 (nI nb) g11 g12 v13 g14 g15 g16 g17 g18 g19 g20 g21 g22 g23 g24 g25 g26 v27 v28 v29 v30 v31 v32 v33 v34 v35 v36 v37 (nI ol)), (v0, .inl (cA 0, 326, .inl fs))] H := ⟨hP, hD⟩
      refine lv_aload_n hx hb dX10_canSplit_32 rfl (lv_at hl 0 rfl) ?_
      refine va_get (D := D) (ci := 11) (v := .int 3) (C := RX10) (T := TX10) (N := 39) hx hb hts inX10 hown hK hP 0 rfl rfl 8 (by decide) (hts (.fieldLink RX10 80 "EscrowDeskModel" "thrown" "I") (by decide +kernel)) (fun _ h9 => h9) rfl dX10_canSplit_33 ?_
      refine lv_if_ne (tgt := 43) hx hb dX10_canSplit_36 (by decide) (fun c10 => ?_) (fun c9 => absurd c9 (by decide))
      refine lv_iconst (v := 0) hx hb dX10_canSplit_43 (by decide) ?_
      obtain ⟨hP9, hD9⟩ := PDq.sub (ws' := [(oX10 w0 v0 v1 v2 v3 v4 g5 g6 (nI ed) 3 v9 (nI nb) g11 g12 v13 g14 g15 g16 g17 g18 g19 g20 g21 g22 g23 g24 g25 g26 v27 v28 v29 v30 v31 v32 v33 v34 v35 v36 v37 (nI ol)), (v0, .inl (cA 0, 326, .inl fs))]) hP hD [0, 1] (by decide) rfl
      refine W.widen (k := 0) (n := 0) (Nat.le_of_ble_eq_true rfl) (Nat.le_of_ble_eq_true rfl) ?_
      exact (W.zret (v := 0) hx hb hr (by first | rfl | decide) (fun t ht hW => ⟨⟨0, (), rfl, (Or.inr ⟨rfl, fun ⟨k9, q8, q9, q7⟩ => by have q6 := nI_ij (hn4.symm.trans q9) (by omega) (by omega); subst q6; exact c9 q7⟩), 3, by rw [ht]; exact hP9, hD9⟩, hS.F ht⟩) hS.2.2 dX10_canSplit_44)
    · skip
      refine lv_iconst (v := 0) hx hb dX10_canSplit_24 (by decide) ?_
      refine lv_goto (tgt := 29) hx hb dX10_canSplit_25 (by decide) ?_
      refine va_put (D := D) (ci := 11) (v := .int 0) (ty := .int) (C := RX10) (T := TX10) (N := 39) hx hb hts inX10 tyX10 tyX10_ok nmX10 hown hK hP hD hS 0 rfl rfl 8 (by decide) (hts (.fieldLink RX10 80 "EscrowDeskModel" "thrown" "I") (by decide +kernel)) (fun _ h9 => h9) rfl (by decide +kernel) rfl rfl (Nat.le_of_ble_eq_true rfl) dX10_canSplit_29 (fun H locs hP hD hS => ?_)
      obtain ⟨hP, hD⟩ : PDq D A [(oX10 w0 v0 v1 v2 v3 v4 g5 g6 (nI ed) 0 v9 (nI nb) g11 g12 v13 g14 g15 g16 g17 g18 g19 g20 g21 g22 g23 g24 g25 g26 v27 v28 v29 v30 v31 v32 v33 v34 v35 v36 v37 (nI ol)), (v0, .inl (cA 0, 326, .inl fs))] H := ⟨hP, hD⟩
      refine lv_aload_n hx hb dX10_canSplit_32 rfl (lv_at hl 0 rfl) ?_
      refine va_get (D := D) (ci := 11) (v := .int 0) (C := RX10) (T := TX10) (N := 39) hx hb hts inX10 hown hK hP 0 rfl rfl 8 (by decide) (hts (.fieldLink RX10 80 "EscrowDeskModel" "thrown" "I") (by decide +kernel)) (fun _ h9 => h9) rfl dX10_canSplit_33 ?_
      refine lv_if_ne (tgt := 43) hx hb dX10_canSplit_36 (by decide) (fun c9 => absurd c9 (by decide)) (fun c11 => ?_)
      refine lv_iconst (v := 1) hx hb dX10_canSplit_39 (by decide) ?_
      refine lv_goto (tgt := 44) hx hb dX10_canSplit_40 (by decide) ?_
      obtain ⟨hP9, hD9⟩ := PDq.sub (ws' := [(oX10 w0 v0 v1 v2 v3 v4 g5 g6 (nI ed) 0 v9 (nI nb) g11 g12 v13 g14 g15 g16 g17 g18 g19 g20 g21 g22 g23 g24 g25 g26 v27 v28 v29 v30 v31 v32 v33 v34 v35 v36 v37 (nI ol)), (v0, .inl (cA 0, 326, .inl fs))]) hP hD [0, 1] (by decide) rfl
      refine W.widen (k := 0) (n := 0) (Nat.le_of_ble_eq_true rfl) (Nat.le_of_ble_eq_true rfl) ?_
      exact (W.zret (v := 1) hx hb hr (by first | rfl | decide) (fun t ht hW => ⟨⟨1, (), rfl, (Or.inl ⟨rfl, kn2, hn3, hn4, c9⟩), 0, by rw [ht]; exact hP9, hD9⟩, hS.F ht⟩) hS.2.2 dX10_canSplit_44)
  · skip
    subst hr9
    refine lv_iload_n hx hb dX10_canSplit_6 rfl (lv_at hl 2 rfl) ?_
    obtain ⟨hPc, hDc, hFc⟩ := PDq.cut (wc := [(oX10 w0 v0 v1 v2 v3 v4 g5 g6 (nI ed) g8 v9 (nI nb) g11 g12 v13 g14 g15 g16 g17 g18 g19 g20 g21 g22 g23 g24 g25 g26 v27 v28 v29 v30 v31 v32 v33 v34 v35 v36 v37 (nI ol))]) hP hD hS hA [0] (by decide) rfl
    refine va_calli (va_runV (As := [.int 0, .int 1]) (rest := []) ⟨hx, hb, hml, hown, hts⟩ (r_good_01 l D cA sa w0 ed nb ol v0 v1 v2 v3 v4 v9 v13 v27 v28 v29 v30 v31 v32 v33 v34 v35 v36 v37 g8 g11 g12 g14 g15 g16 g17 g18 g19 g20 g21 g22 g23 g24 g26 g5 g6 g25 H.size) (cwV 2 hts gX10_canSplit_X10_good_ rfl rfl rfl (by decide +kernel) ⟨(Nat.le_of_ble_eq_true rfl), (Nat.le_of_ble_eq_true rfl)⟩) ⟨Wd.blind, va_recv hK hPc (ci := 11) (q0 := 0) rfl rfl, fun U hU hW => ⟨rfl, Wd.call hPc hDc hK hC hZ hS hFc U hU hW⟩⟩ rfl rfl hl.1 rfl (lv_room (Nat.le_of_ble_eq_true rfl)) dX10_canSplit_7 ⟨(Nat.le_of_ble_eq_true rfl), (Nat.le_of_ble_eq_true rfl)⟩) hS (fun q _ h => hFc q h) hFc (fun rn12 u t H1 locs ht hvm hw hB hz1 hk1 hS => ?_)
    obtain ⟨hP1, hD1⟩ := hB
    rw [ht] at hP1
    obtain ⟨hP, hD⟩ := PDq.join (w := [(v0, .inl (cA 0, 326, .inl fs)), (oX10 w0 v0 v1 v2 v3 v4 g5 g6 (nI ed) 1 v9 (nI nb) g11 g12 v13 g14 g15 g16 g17 g18 g19 g20 g21 g22 g23 g24 g25 g26 v27 v28 v29 v30 v31 v32 v33 v34 v35 v36 v37 (nI ol))]) 1 hP hD [0] [1] rfl rfl (by decide) (by decide) hk1 hFc hP1 hD1 rfl
    generalize H1 = H at hP hS ⊢
    obtain rfl : rn12 = 0 := hw
    refine lv_if_eq (tgt := 32) hx hb dX10_canSplit_10 (by decide) (fun c13 => ?_) (fun c9 => absurd c9 (by decide))
    refine lv_aload_n hx hb dX10_canSplit_32 rfl (lv_at hl 0 rfl) ?_
    refine va_get (D := D) (ci := 11) (v := .int 1) (C := RX10) (T := TX10) (N := 39) hx hb hts inX10 hown hK hP 1 rfl rfl 8 (by decide) (hts (.fieldLink RX10 80 "EscrowDeskModel" "thrown" "I") (by decide +kernel)) (fun _ h9 => h9) rfl dX10_canSplit_33 ?_
    refine lv_if_ne (tgt := 43) hx hb dX10_canSplit_36 (by decide) (fun c14 => ?_) (fun c9 => absurd c9 (by decide))
    refine lv_iconst (v := 0) hx hb dX10_canSplit_43 (by decide) ?_
    obtain ⟨hP9, hD9⟩ := PDq.sub (ws' := [(oX10 w0 v0 v1 v2 v3 v4 g5 g6 (nI ed) 1 v9 (nI nb) g11 g12 v13 g14 g15 g16 g17 g18 g19 g20 g21 g22 g23 g24 g25 g26 v27 v28 v29 v30 v31 v32 v33 v34 v35 v36 v37 (nI ol)), (v0, .inl (cA 0, 326, .inl fs))]) hP hD [1, 0] (by decide) rfl
    refine W.widen (k := 0) (n := 0) (Nat.le_of_ble_eq_true rfl) (Nat.le_of_ble_eq_true rfl) ?_
    exact (W.zret (v := 0) hx hb hr (by first | rfl | decide) (fun t ht hW => ⟨⟨0, (), rfl, (Or.inr ⟨rfl, fun ⟨k9, q8, q9, _⟩ => hn5 ⟨k9, q8, q9⟩⟩), 1, by rw [ht]; exact hP9, hD9⟩, hS.F ht⟩) hS.2.2 dX10_canSplit_44)

set_option maxHeartbeats 4000000 in
set_option maxRecDepth 100000 in
/-- reference, exactly: resolve -/
theorem e_resolve (l : Launch) (D : va_G) (cA : Nat → ClassId) (sa : Nat → Nat) (w0 : Nat) (ed : Nat) (nb : Nat) (ol : Nat) (v0 : Nat) (v1 : Nat) (v2 : Nat) (v3 : Nat) (v4 : Nat) (v9 : Nat) (v13 : Nat) (v27 : Nat) (v28 : Nat) (v29 : Nat) (v30 : Nat) (v31 : Nat) (v32 : Nat) (v33 : Nat) (v34 : Nat) (v35 : Nat) (v36 : Nat) (v37 : Nat) (g8 : Int32) (g11 : Int32) (g12 : Int32) (g14 : Int32) (g15 : Int32) (g16 : Int32) (g17 : Int32) (g18 : Int32) (g19 : Int32) (g20 : Int32) (g21 : Int32) (g22 : Int32) (g23 : Int32) (g24 : Int32) (g26 : Int32) (g5 : Int64) (g6 : Int64) (g25 : Int64) (cn : Nat) (pq : Nat) (en : Nat) (dy : Nat) (fs : Nat → Int32) (fh : Nat → Int32) (fl : Nat → Int64) (i : Int32) (j : Int32) (sz : Nat) (hcn : cn ≤ 10) (hpq : pq ≤ 8) (hen : en ≤ 60) (hdy : dy ≤ 20000) (hri : RI cn pq en dy fs) (hed : ed ≤ 10) (hHI : HI cn pq ed fh) (hd9 : dy ≤ 9999) : Met l yX10_resolve wsX10_resolve ({ frames := 5, cells := 0, slots := 0, locals := 107 }) (va_Pc [.ref w0, .int i, .int j] (Wd D cA sa [(oX10 w0 v0 v1 v2 v3 v4 g5 g6 (nI ed) g8 v9 (nI nb) g11 g12 v13 g14 g15 g16 g17 g18 g19 g20 g21 g22 g23 g24 g25 g26 v27 v28 v29 v30 v31 v32 v33 v34 v35 v36 v37 (nI ol)), (v0, .inl (cA 0, 326, .inl fs)), (v3, .inl (cA 0, 3260, .inl fh)), (v4, .inl (cA 1, 10, .inr (.inl fl)))] sz)) (va_Qi (fun (r : Int32) (_ : Unit) => True) (fun (_ : Unit) t => ∃ ed2 : Nat, ∃ e2 : Nat, ∃ zt : Int32, ∃ zs : Nat → Int32, ∃ zh : Nat → Int32, ∃ zl : Nat → Int64, ed2 ≤ 10 ∧ HI cn pq ed2 zh ∧ e2 ≤ 60 ∧ RI cn pq e2 dy zs ∧ EdK cn i (AcRes fs j) (resR cn j) ed fh fl fs g5 ed2 zh zl zs ∧ Wq D (va_A [(oX10 w0 v0 v1 v2 v3 v4 g5 g6 (nI ed) g8 v9 (nI nb) g11 g12 v13 g14 g15 g16 g17 g18 g19 g20 g21 g22 g23 g24 g25 g26 v27 v28 v29 v30 v31 v32 v33 v34 v35 v36 v37 (nI ol)), (v0, .inl (cA 0, 326, .inl fs)), (v3, .inl (cA 0, 3260, .inl fh)), (v4, .inl (cA 1, 10, .inr (.inl fl)))] sz) [(oX10 w0 v0 v1 v2 v3 v4 g5 g6 (nI ed2) zt v9 (nI nb) g11 g12 v13 g14 g15 g16 g17 g18 g19 g20 g21 g22 g23 g24 g25 g26 v27 v28 v29 v30 v31 v32 v33 v34 v35 v36 v37 (nI ol)), (v0, .inl (cA 0, 326, .inl zs)), (v3, .inl (cA 0, 3260, .inl zh)), (v4, .inl (cA 1, 10, .inr (.inl zl)))] t) (va_A [(oX10 w0 v0 v1 v2 v3 v4 g5 g6 (nI ed) g8 v9 (nI nb) g11 g12 v13 g14 g15 g16 g17 g18 g19 g20 g21 g22 g23 g24 g25 g26 v27 v28 v29 v30 v31 v32 v33 v34 v35 v36 v37 (nI ol)), (v0, .inl (cA 0, 326, .inl fs)), (v3, .inl (cA 0, 3260, .inl fh)), (v4, .inl (cA 1, 10, .inr (.inl fl)))] sz)) 0 0 (va_A [(oX10 w0 v0 v1 v2 v3 v4 g5 g6 (nI ed) g8 v9 (nI nb) g11 g12 v13 g14 g15 g16 g17 g18 g19 g20 g21 g22 g23 g24 g25 g26 v27 v28 v29 v30 v31 v32 v33 v34 v35 v36 v37 (nI ol)), (v0, .inl (cA 0, 326, .inl fs)), (v3, .inl (cA 0, 3260, .inl fh)), (v4, .inl (cA 1, 10, .inr (.inl fl)))] sz) := by
  refine Met.ofW (cc := cX10_resolve) (maxL := 5) (ret := (some .int)) (by decide) rfl ?_
  intro p e s m args below meth c s₁ B hml hv
  obtain ⟨rfl, hsz, hP, hK, hD0, hC, hZ⟩ := hv
  have hx := B.exec
  have hb := B.bytes
  have hr := B.returns
  have hts := atoms_spec (ws := wsX10_resolve) B.pre
  have hown : s.vm.findClass RX10 = some m.cls := findClass_of_methodNamed B.named
  have hlocks := B.notSynchronized
  subst hsz
  have hD := hD0.self (sz := s.heap.size)
  generalize hAe : va_A [(oX10 w0 v0 v1 v2 v3 v4 g5 g6 (nI ed) g8 v9 (nI nb) g11 g12 v13 g14 g15 g16 g17 g18 g19 g20 g21 g22 g23 g24 g25 g26 v27 v28 v29 v30 v31 v32 v33 v34 v35 v36 v37 (nI ol)), (v0, .inl (cA 0, 326, .inl fs)), (v3, .inl (cA 0, 3260, .inl fh)), (v4, .inl (cA 1, 10, .inr (.inl fl)))] s.heap.size = A at hD hZ ⊢
  have hA : ∀ q : Nat, s.heap.size ≤ q → A q := fun q h => by rw [← hAe]; exact Or.inr h
  have hS : va_S A s.heap s.heap [] := va_S.rf
  have hP : va_P D vwCl [(oX10 w0 v0 v1 v2 v3 v4 g5 g6 (nI ed) g8 v9 (nI nb) g11 g12 v13 g14 g15 g16 g17 g18 g19 g20 g21 g22 g23 g24 g25 g26 v27 v28 v29 v30 v31 v32 v33 v34 v35 v36 v37 (nI ol)), (v0, .inl (cA 0, 326, .inl fs)), (v3, .inl (cA 0, 3260, .inl fh)), (v4, .inl (cA 1, 10, .inr (.inl fl)))] s.heap := hP
  have hl := lv_entry ([.ref w0, .int i, .int j]) (n := 5) (Nat.le_of_ble_eq_true rfl)
  rw [lg_entry_eq]
  generalize (lg_sl ([.ref w0, .int i, .int j]) ++ List.replicate (5 - (lg_sl ([.ref w0, .int i, .int j])).length) Slot.unset).toArray = ls at hl ⊢
  have hl : lv_has ls 5 [(0, .ref w0), (1, .int i), (2, .int j)] := hl
  obtain ⟨rs, hrs⟩ : ∃ r : Nat → Int32, r = fs := ⟨fs, rfl⟩
  have hrs9 : Ab rs fs := by rw [hrs]; exact Ab.rf fs
  refine lv_aload_n hx hb dX10_resolve_0 rfl (lv_at hl 0 rfl) ?_
  refine lv_iload_n hx hb dX10_resolve_1 rfl (lv_at hl 1 rfl) ?_
  refine lv_iload_n hx hb dX10_resolve_2 rfl (lv_at hl 2 rfl) ?_
  obtain ⟨hPc, hDc, hFc⟩ := PDq.cut (wc := []) hP hD hS hA [] (by decide) rfl
  refine va_calli (va_runS (As := [.int j]) (rest := [.int i, .ref w0]) ⟨hx, hb, hml, hown, hts⟩ (e_isShare l D cA sa j s.heap.size) (va_cwS 1 hts gX10_resolve_X10_isShare rfl rfl rfl (by decide +kernel) ⟨(Nat.le_of_ble_eq_true rfl), (Nat.le_of_ble_eq_true rfl)⟩) ⟨Wd.blind, fun U hU hW => ⟨rfl, Wd.call hPc hDc hK hC hZ hS hFc U hU hW⟩⟩ rfl rfl hl.1 rfl (lv_room (Nat.le_of_ble_eq_true rfl)) dX10_resolve_3 ⟨(Nat.le_of_ble_eq_true rfl), (Nat.le_of_ble_eq_true rfl)⟩) hS (fun q _ h => hFc q h) hFc (fun rn1 u t H1 locs ht hvm hw hB hz1 hk1 hS => ?_)
  obtain ⟨hP1, hD1⟩ := hB
  rw [ht] at hP1
  obtain ⟨hP, hD⟩ := PDq.join (w := [(oX10 w0 v0 v1 v2 v3 v4 g5 g6 (nI ed) g8 v9 (nI nb) g11 g12 v13 g14 g15 g16 g17 g18 g19 g20 g21 g22 g23 g24 g25 g26 v27 v28 v29 v30 v31 v32 v33 v34 v35 v36 v37 (nI ol)), (v0, .inl (cA 0, 326, .inl fs)), (v3, .inl (cA 0, 3260, .inl fh)), (v4, .inl (cA 1, 10, .inr (.inl fl)))]) 4 hP hD [] [0, 1, 2, 3] rfl rfl (by decide) (by decide) hk1 hFc hP1 hD1 rfl
  generalize H1 = H at hP hS ⊢
  rcases hw with ⟨hr9, kn2, hn3, hn4⟩ | ⟨hr9, hn5⟩
  · skip
    subst hr9
    have hn3a := hn3.1
    have hn3b := hn3.2
    rw [hn4] at hl
    have hl : lv_has ls 5 [(0, .ref w0), (1, .int i), (2, .int (nI kn2))] := hl
    obtain ⟨hPc, hDc, hFc⟩ := PDq.cut (wc := [(oX10 w0 v0 v1 v2 v3 v4 g5 g6 (nI ed) g8 v9 (nI nb) g11 g12 v13 g14 g15 g16 g17 g18 g19 g20 g21 g22 g23 g24 g25 g26 v27 v28 v29 v30 v31 v32 v33 v34 v35 v36 v37 (nI ol)), (v0, .inl (cA 0, 326, .inl fs))]) hP hD hS hA [0, 1] (by decide) rfl
    refine va_calli (va_runV (As := [.int i, .int 1]) (rest := []) ⟨hx, hb, hml, hown, hts⟩ (e_canSplit1 l D cA sa w0 ed nb ol v0 v1 v2 v3 v4 v9 v13 v27 v28 v29 v30 v31 v32 v33 v34 v35 v36 v37 g8 g11 g12 g14 g15 g16 g17 g18 g19 g20 g21 g22 g23 g24 g26 g5 g6 g25 cn pq en dy fs rs i H.size hrs9 hcn hpq hen hdy hri) (cwV 2 hts gX10_resolve_X10_canSplit rfl rfl rfl (by decide +kernel) ⟨(Nat.le_of_ble_eq_true rfl), (Nat.le_of_ble_eq_true rfl)⟩) ⟨Wd.blind, va_recv hK hPc (ci := 11) (q0 := 0) rfl rfl, fun U hU hW => ⟨rfl, Wd.call hPc hDc hK hC hZ hS hFc U hU hW⟩⟩ rfl rfl hl.1 rfl (lv_room (Nat.le_of_ble_eq_true rfl)) dX10_resolve_6 ⟨(Nat.le_of_ble_eq_true rfl), (Nat.le_of_ble_eq_true rfl)⟩) hS (fun q _ h => hFc q h) hFc (fun rn6 u t H1 locs ht hvm hw hB hz1 hk1 hS => ?_)
    obtain ⟨zn7, hP1, hD1⟩ := hB
    rw [ht] at hP1
    obtain ⟨hP, hD⟩ := PDq.join (w := [(v3, .inl (cA 0, 3260, .inl fh)), (v4, .inl (cA 1, 10, .inr (.inl fl))), (oX10 w0 v0 v1 v2 v3 v4 g5 g6 (nI ed) zn7 v9 (nI nb) g11 g12 v13 g14 g15 g16 g17 g18 g19 g20 g21 g22 g23 g24 g25 g26 v27 v28 v29 v30 v31 v32 v33 v34 v35 v36 v37 (nI ol)), (v0, .inl (cA 0, 326, .inl fs))]) 2 hP hD [0, 1] [2, 3] rfl rfl (by decide) (by decide) hk1 hFc hP1 hD1 rfl
    generalize H1 = H at hP hS ⊢
    rcases hw with ⟨hr9, kn8, hn9, hn10, hn11⟩ | ⟨hr9, hn12⟩
    · skip
      subst hr9
      rw [hn10] at hl
      have hl : lv_has ls 5 [(0, .ref w0), (1, .int (nI kn8)), (2, .int (nI kn2))] := hl
      refine lv_if_ne (tgt := 14) hx hb dX10_resolve_9 (by decide) (fun c13 => ?_) (fun c9 => absurd c9 (by decide))
      refine lv_aload_n hx hb dX10_resolve_14 rfl (lv_at hl 0 rfl) ?_
      obtain ⟨hPc, hDc, hFc⟩ := PDq.cut (wc := [(oX10 w0 v0 v1 v2 v3 v4 g5 g6 (nI ed) zn7 v9 (nI nb) g11 g12 v13 g14 g15 g16 g17 g18 g19 g20 g21 g22 g23 g24 g25 g26 v27 v28 v29 v30 v31 v32 v33 v34 v35 v36 v37 (nI ol)), (v0, .inl (cA 0, 326, .inl fs)), (v3, .inl (cA 0, 3260, .inl fh)), (v4, .inl (cA 1, 10, .inr (.inl fl)))]) hP hD hS hA [2, 3, 0, 1] (by decide) rfl
      refine va_callv (va_runV (As := []) (rest := []) ⟨hx, hb, hml, hown, hts⟩ (e_remember l D cA sa w0 ed nb ol v0 v1 v2 v3 v4 v9 v13 v27 v28 v29 v30 v31 v32 v33 v34 v35 v36 v37 zn7 g11 g12 g14 g15 g16 g17 g18 g19 g20 g21 g22 g23 g24 g26 g5 g6 g25 cn pq en dy fs fh fl H.size hcn hpq hen hdy hri hed hHI hd9) (cwV 0 hts gX10_resolve_X10_remember rfl rfl rfl (by decide +kernel) ⟨(Nat.le_of_ble_eq_true rfl), (Nat.le_of_ble_eq_true rfl)⟩) ⟨Wd.blind, va_recv hK hPc (ci := 11) (q0 := 0) rfl rfl, fun U hU hW => ⟨rfl, Wd.call hPc hDc hK hC hZ hS hFc U hU hW⟩⟩ rfl rfl hl.1 rfl (lv_room (Nat.le_of_ble_eq_true rfl)) dX10_resolve_15 ⟨(Nat.le_of_ble_eq_true rfl), (Nat.le_of_ble_eq_true rfl)⟩) hS (fun q _ h => hFc q h) hFc (fun u t H1 locs ht hvm hw hB hz1 hk1 hS => ?_)
      obtain ⟨qn14, fn15, fn16, hn17, hn18, hn19, hP1, hD1⟩ := hB
      rw [ht] at hP1
      obtain ⟨hP, hD⟩ := PDq.join (w := [(oX10 w0 v0 v1 v2 v3 v4 g5 g6 (nI qn14) zn7 v9 (nI nb) g11 g12 v13 g14 g15 g16 g17 g18 g19 g20 g21 g22 g23 g24 g25 g26 v27 v28 v29 v30 v31 v32 v33 v34 v35 v36 v37 (nI ol)), (v0, .inl (cA 0, 326, .inl fs)), (v3, .inl (cA 0, 3260, .inl fn15)), (v4, .inl (cA 1, 10, .inr (.inl fn16)))]) 0 hP hD [2, 3, 0, 1] [] rfl rfl (by decide) (by decide) hk1 hFc hP1 hD1 rfl
      generalize H1 = H at hP hS ⊢
      refine lv_aload_n hx hb dX10_resolve_18 rfl (lv_at hl 0 rfl) ?_
      refine lv_iload_n hx hb dX10_resolve_19 rfl (lv_at hl 1 rfl) ?_
      obtain ⟨hPc, hDc, hFc⟩ := PDq.cut (wc := [(oX10 w0 v0 v1 v2 v3 v4 g5 g6 (nI qn14) zn7 v9 (nI nb) g11 g12 v13 g14 g15 g16 g17 g18 g19 g20 g21 g22 g23 g24 g25 g26 v27 v28 v29 v30 v31 v32 v33 v34 v35 v36 v37 (nI ol)), (v0, .inl (cA 0, 326, .inl fs))]) hP hD hS hA [0, 1] (by decide) rfl
      refine va_calli (va_runV (As := [.int (nI kn8)]) (rest := []) ⟨hx, hb, hml, hown, hts⟩ (e_splitSum l D cA sa w0 qn14 nb ol v0 v1 v2 v3 v4 v9 v13 v27 v28 v29 v30 v31 v32 v33 v34 v35 v36 v37 zn7 g11 g12 g14 g15 g16 g17 g18 g19 g20 g21 g22 g23 g24 g26 g5 g6 g25 cn pq en dy fs rs kn8 H.size hrs9 hcn hpq hen hdy hri (by omega)) (cwV 1 hts gX10_resolve_X10_splitSum rfl rfl rfl (by decide +kernel) ⟨(Nat.le_of_ble_eq_true rfl), (Nat.le_of_ble_eq_true rfl)⟩) ⟨Wd.blind, va_recv hK hPc (ci := 11) (q0 := 0) rfl rfl, fun U hU hW => ⟨rfl, Wd.call hPc hDc hK hC hZ hS hFc U hU hW⟩⟩ rfl rfl hl.1 rfl (lv_room (Nat.le_of_ble_eq_true rfl)) dX10_resolve_20 ⟨(Nat.le_of_ble_eq_true rfl), (Nat.le_of_ble_eq_true rfl)⟩) hS (fun q _ h => hFc q h) hFc (fun rn20 u t H1 locs ht hvm hw hB hz1 hk1 hS => ?_)
      obtain ⟨hP1, hD1⟩ := hB
      rw [ht] at hP1
      obtain ⟨hP, hD⟩ := PDq.join (w := [(v3, .inl (cA 0, 3260, .inl fn15)), (v4, .inl (cA 1, 10, .inr (.inl fn16))), (oX10 w0 v0 v1 v2 v3 v4 g5 g6 (nI qn14) zn7 v9 (nI nb) g11 g12 v13 g14 g15 g16 g17 g18 g19 g20 g21 g22 g23 g24 g25 g26 v27 v28 v29 v30 v31 v32 v33 v34 v35 v36 v37 (nI ol)), (v0, .inl (cA 0, 326, .inl fs))]) 2 hP hD [0, 1] [2, 3] rfl rfl (by decide) (by decide) hk1 hFc hP1 hD1 rfl
      generalize H1 = H at hP hS ⊢
      obtain rfl : rn20 = (splS cn kn8 rs) := hw
      refine lv_istore_n (lv' := [(3, .int (splS cn kn8 rs)), (0, .ref w0), (1, .int (nI kn8)), (2, .int (nI kn2))]) hx hb dX10_resolve_23 rfl hl (by decide) rfl (fun ls hl => ?_)
      refine lv_aload_n hx hb dX10_resolve_24 rfl (lv_at hl 1 rfl) ?_
      refine lv_iload_n hx hb dX10_resolve_25 rfl (lv_at hl 2 rfl) ?_
      refine lv_iload_n hx hb dX10_resolve_26 rfl (lv_at hl 3 rfl) ?_
      obtain ⟨hPc, hDc, hFc⟩ := PDq.cut (wc := [(oX10 w0 v0 v1 v2 v3 v4 g5 g6 (nI qn14) zn7 v9 (nI nb) g11 g12 v13 g14 g15 g16 g17 g18 g19 g20 g21 g22 g23 g24 g25 g26 v27 v28 v29 v30 v31 v32 v33 v34 v35 v36 v37 (nI ol)), (v0, .inl (cA 0, 326, .inl fs))]) hP hD hS hA [2, 3] (by decide) rfl
      refine va_calli (va_runV (As := [.int (nI kn8), .int (nI kn2)]) (rest := []) ⟨hx, hb, hml, hown, hts⟩ (e_splitBy l D cA sa w0 qn14 nb ol v0 v1 v2 v3 v4 v9 v13 v27 v28 v29 v30 v31 v32 v33 v34 v35 v36 v37 zn7 g11 g12 g14 g15 g16 g17 g18 g19 g20 g21 g22 g23 g24 g26 g5 g6 g25 cn pq en dy fs rs kn8 (nI kn2) H.size hrs9 hcn hpq hen hdy hri (by omega)) (cwV 2 hts gX10_resolve_X10_splitBy rfl rfl rfl (by decide +kernel) ⟨(Nat.le_of_ble_eq_true rfl), (Nat.le_of_ble_eq_true rfl)⟩) ⟨Wd.blind, va_recv hK hPc (ci := 11) (q0 := 0) rfl rfl, fun U hU hW => ⟨rfl, Wd.call hPc hDc hK hC hZ hS hFc U hU hW⟩⟩ rfl rfl hl.1 rfl (lv_room (Nat.le_of_ble_eq_true rfl)) dX10_resolve_27 ⟨(Nat.le_of_ble_eq_true rfl), (Nat.le_of_ble_eq_true rfl)⟩) hS (fun q _ h => hFc q h) hFc (fun rn21 u t H1 locs ht hvm hw hB hz1 hk1 hS => ?_)
      obtain ⟨hP1, hD1⟩ := hB
      rw [ht] at hP1
      obtain ⟨hP, hD⟩ := PDq.join (w := [(v3, .inl (cA 0, 3260, .inl fn15)), (v4, .inl (cA 1, 10, .inr (.inl fn16))), (oX10 w0 v0 v1 v2 v3 v4 g5 g6 (nI qn14) zn7 v9 (nI nb) g11 g12 v13 g14 g15 g16 g17 g18 g19 g20 g21 g22 g23 g24 g25 g26 v27 v28 v29 v30 v31 v32 v33 v34 v35 v36 v37 (nI ol)), (v0, .inl (cA 0, 326, .inl fs))]) 2 hP hD [2, 3] [0, 1] rfl rfl (by decide) (by decide) hk1 hFc hP1 hD1 rfl
      generalize H1 = H at hP hS ⊢
      obtain rfl : rn21 = (splB cn kn8 (nI kn2) rs) := hw
      refine lv_istore (lv' := [(4, .int (splB cn kn8 (nI kn2) rs)), (3, .int (splS cn kn8 rs)), (0, .ref w0), (1, .int (nI kn8)), (2, .int (nI kn2))]) hx hb dX10_resolve_30 hl (by decide) rfl (fun ls hl => ?_)
      refine lv_aload_n hx hb dX10_resolve_32 rfl (lv_at hl 2 rfl) ?_
      refine lv_iload_n hx hb dX10_resolve_33 rfl (lv_at hl 3 rfl) ?_
      refine lv_iconst (v := 3) hx hb dX10_resolve_34 (by decide) ?_
      refine lv_iconst (v := 0) hx hb dX10_resolve_35 (by decide) ?_
      obtain ⟨hPc, hDc, hFc⟩ := PDq.cut (wc := [(oX10 w0 v0 v1 v2 v3 v4 g5 g6 (nI qn14) zn7 v9 (nI nb) g11 g12 v13 g14 g15 g16 g17 g18 g19 g20 g21 g22 g23 g24 g25 g26 v27 v28 v29 v30 v31 v32 v33 v34 v35 v36 v37 (nI ol)), (v0, .inl (cA 0, 326, .inl fs))]) hP hD hS hA [2, 3] (by decide) rfl
      refine va_callv (va_runV (As := [.int (nI kn8), .int 3, .int 0]) (rest := []) ⟨hx, hb, hml, hown, hts⟩ (e_set l D cA sa w0 qn14 nb ol v0 v1 v2 v3 v4 v9 v13 v27 v28 v29 v30 v31 v32 v33 v34 v35 v36 v37 zn7 g11 g12 g14 g15 g16 g17 g18 g19 g20 g21 g22 g23 g24 g26 g5 g6 g25 cn pq en dy fs rs kn8 3 0 H.size hrs9 hcn hpq hen hdy hri (by omega) (by omega)) (cwV 3 hts gX10_resolve_X10_set rfl rfl rfl (by decide +kernel) ⟨(Nat.le_of_ble_eq_true rfl), (Nat.le_of_ble_eq_true rfl)⟩) ⟨Wd.blind, va_recv hK hPc (ci := 11) (q0 := 0) rfl rfl, fun U hU hW => ⟨rfl, Wd.call hPc hDc hK hC hZ hS hFc U hU hW⟩⟩ rfl rfl hl.1 rfl (lv_room (Nat.le_of_ble_eq_true rfl)) dX10_resolve_36 ⟨(Nat.le_of_ble_eq_true rfl), (Nat.le_of_ble_eq_true rfl)⟩) hS (fun q _ h => hFc q h) hFc (fun u t H1 locs ht hvm hw hB hz1 hk1 hS => ?_)
      obtain ⟨fn22, hn23, hn24, hP1, hD1⟩ := hB
      rw [ht] at hP1
      obtain ⟨hP, hD⟩ := PDq.join (w := [(v3, .inl (cA 0, 3260, .inl fn15)), (v4, .inl (cA 1, 10, .inr (.inl fn16))), (oX10 w0 v0 v1 v2 v3 v4 g5 g6 (nI qn14) zn7 v9 (nI nb) g11 g12 v13 g14 g15 g16 g17 g18 g19 g20 g21 g22 g23 g24 g25 g26 v27 v28 v29 v30 v31 v32 v33 v34 v35 v36 v37 (nI ol)), (v0, .inl (cA 0, 326, .inl fn22))]) 2 hP hD [2, 3] [0, 1] rfl rfl (by decide) (by decide) hk1 hFc hP1 hD1 rfl
      generalize H1 = H at hP hS ⊢
      refine lv_aload_n hx hb dX10_resolve_39 rfl (lv_at hl 2 rfl) ?_
      refine lv_iload_n hx hb dX10_resolve_40 rfl (lv_at hl 3 rfl) ?_
      refine lv_iload hx hb dX10_resolve_41 (lv_at hl 0 rfl) ?_
      obtain ⟨hPc, hDc, hFc⟩ := PDq.cut (wc := [(oX10 w0 v0 v1 v2 v3 v4 g5 g6 (nI qn14) zn7 v9 (nI nb) g11 g12 v13 g14 g15 g16 g17 g18 g19 g20 g21 g22 g23 g24 g25 g26 v27 v28 v29 v30 v31 v32 v33 v34 v35 v36 v37 (nI ol)), (v0, .inl (cA 0, 326, .inl fn22))]) hP hD hS hA [2, 3] (by decide) rfl
      refine va_calli (va_runV (As := [.int (nI kn8), .int (splB cn kn8 (nI kn2) rs)]) (rest := []) ⟨hx, hb, hml, hown, hts⟩ (e_makePayment l D cA sa w0 qn14 nb ol v0 v1 v2 v3 v4 v9 v13 v27 v28 v29 v30 v31 v32 v33 v34 v35 v36 v37 zn7 g11 g12 g14 g15 g16 g17 g18 g19 g20 g21 g22 g23 g24 g26 g5 g6 g25 cn pq en dy fn22 (upd rs (16 + 7 * kn8 + 3) 0) kn8 (splB cn kn8 (nI kn2) rs) H.size hn24 hcn hpq hen hdy hn23 (by omega)) (cwV 2 hts gX10_resolve_X10_makePayment rfl rfl rfl (by decide +kernel) ⟨(Nat.le_of_ble_eq_true rfl), (Nat.le_of_ble_eq_true rfl)⟩) ⟨Wd.blind, va_recv hK hPc (ci := 11) (q0 := 0) rfl rfl, fun U hU hW => ⟨rfl, Wd.call hPc hDc hK hC hZ hS hFc U hU hW⟩⟩ rfl rfl hl.1 rfl (lv_room (Nat.le_of_ble_eq_true rfl)) dX10_resolve_43 ⟨(Nat.le_of_ble_eq_true rfl), (Nat.le_of_ble_eq_true rfl)⟩) hS (fun q _ h => hFc q h) hFc (fun rn25 u t H1 locs ht hvm hw hB hz1 hk1 hS => ?_)
      obtain ⟨qn26, fn27, hn28, hn29, hn30, hn31, hP1, hD1⟩ := hB
      rw [ht] at hP1
      obtain ⟨hP, hD⟩ := PDq.join (w := [(v3, .inl (cA 0, 3260, .inl fn15)), (v4, .inl (cA 1, 10, .inr (.inl fn16))), (oX10 w0 v0 v1 v2 v3 v4 g5 g6 (nI qn14) zn7 v9 (nI nb) g11 g12 v13 g14 g15 g16 g17 g18 g19 g20 g21 g22 g23 g24 g25 g26 v27 v28 v29 v30 v31 v32 v33 v34 v35 v36 v37 (nI ol)), (v0, .inl (cA 0, 326, .inl fn27))]) 2 hP hD [2, 3] [0, 1] rfl rfl (by decide) (by decide) hk1 hFc hP1 hD1 rfl
      generalize H1 = H at hP hS ⊢
      refine lv_pop hx hb dX10_resolve_46 rfl ?_
      refine lv_aload_n hx hb dX10_resolve_47 rfl (lv_at hl 2 rfl) ?_
      refine lv_iload_n hx hb dX10_resolve_48 rfl (lv_at hl 1 rfl) ?_
      refine lv_iload hx hb dX10_resolve_49 (lv_at hl 0 rfl) ?_
      refine lv_isub hx hb dX10_resolve_51 ?_
      refine lv_topi (fun yn32 eyn32 => ?_)
      obtain rfl : yn32 = ((splS cn kn8 rs) - (splB cn kn8 (nI kn2) rs)) := eyn32
      refine lv_iload_n hx hb dX10_resolve_52 rfl (lv_at hl 3 rfl) ?_
      obtain ⟨hPc, hDc, hFc⟩ := PDq.cut (wc := [(oX10 w0 v0 v1 v2 v3 v4 g5 g6 (nI qn14) zn7 v9 (nI nb) g11 g12 v13 g14 g15 g16 g17 g18 g19 g20 g21 g22 g23 g24 g25 g26 v27 v28 v29 v30 v31 v32 v33 v34 v35 v36 v37 (nI ol)), (v0, .inl (cA 0, 326, .inl fn27))]) hP hD hS hA [2, 3] (by decide) rfl
      refine va_callv (va_runV (As := [.int ((splS cn kn8 rs) - (splB cn kn8 (nI kn2) rs)), .int (nI kn8)]) (rest := []) ⟨hx, hb, hml, hown, hts⟩ (e_refund l D cA sa w0 qn14 nb ol v0 v1 v2 v3 v4 v9 v13 v27 v28 v29 v30 v31 v32 v33 v34 v35 v36 v37 zn7 g11 g12 g14 g15 g16 g17 g18 g19 g20 g21 g22 g23 g24 g26 g5 g6 g25 cn pq qn26 dy fn27 (mkP kn8 (splB cn kn8 (nI kn2) rs) (upd rs (16 + 7 * kn8 + 3) 0)) ((splS cn kn8 rs) - (splB cn kn8 (nI kn2) rs)) (nI kn8) H.size hn30 hcn hpq hn28 hdy hn29) (cwV 2 hts gX10_resolve_X10_refund rfl rfl rfl (by decide +kernel) ⟨(Nat.le_of_ble_eq_true rfl), (Nat.le_of_ble_eq_true rfl)⟩) ⟨Wd.blind, va_recv hK hPc (ci := 11) (q0 := 0) rfl rfl, fun U hU hW => ⟨rfl, Wd.call hPc hDc hK hC hZ hS hFc U hU hW⟩⟩ rfl rfl hl.1 rfl (lv_room (Nat.le_of_ble_eq_true rfl)) dX10_resolve_53 ⟨(Nat.le_of_ble_eq_true rfl), (Nat.le_of_ble_eq_true rfl)⟩) hS (fun q _ h => hFc q h) hFc (fun u t H1 locs ht hvm hw hB hz1 hk1 hS => ?_)
      obtain ⟨qn33, fn34, hn35, hn36, hn37, hn38, hP1, hD1⟩ := hB
      rw [ht] at hP1
      obtain ⟨hP, hD⟩ := PDq.join (w := [(v3, .inl (cA 0, 3260, .inl fn15)), (v4, .inl (cA 1, 10, .inr (.inl fn16))), (oX10 w0 v0 v1 v2 v3 v4 g5 g6 (nI qn14) zn7 v9 (nI nb) g11 g12 v13 g14 g15 g16 g17 g18 g19 g20 g21 g22 g23 g24 g25 g26 v27 v28 v29 v30 v31 v32 v33 v34 v35 v36 v37 (nI ol)), (v0, .inl (cA 0, 326, .inl fn34))]) 2 hP hD [2, 3] [0, 1] rfl rfl (by decide) (by decide) hk1 hFc hP1 hD1 rfl
      generalize H1 = H at hP hS ⊢
      refine lv_aload_n hx hb dX10_resolve_56 rfl (lv_at hl 2 rfl) ?_
      refine lv_iload_n hx hb dX10_resolve_57 rfl (lv_at hl 3 rfl) ?_
      refine lv_iconst (v := 2) hx hb dX10_resolve_58 (by decide) ?_
      refine lv_iconst (v := 4) hx hb dX10_resolve_59 (by decide) ?_
      obtain ⟨hPc, hDc, hFc⟩ := PDq.cut (wc := [(oX10 w0 v0 v1 v2 v3 v4 g5 g6 (nI qn14) zn7 v9 (nI nb) g11 g12 v13 g14 g15 g16 g17 g18 g19 g20 g21 g22 g23 g24 g25 g26 v27 v28 v29 v30 v31 v32 v33 v34 v35 v36 v37 (nI ol)), (v0, .inl (cA 0, 326, .inl fn34))]) hP hD hS hA [2, 3] (by decide) rfl
      refine va_callv (va_runV (As := [.int (nI kn8), .int 2, .int 4]) (rest := []) ⟨hx, hb, hml, hown, hts⟩ (e_set l D cA sa w0 qn14 nb ol v0 v1 v2 v3 v4 v9 v13 v27 v28 v29 v30 v31 v32 v33 v34 v35 v36 v37 zn7 g11 g12 g14 g15 g16 g17 g18 g19 g20 g21 g22 g23 g24 g26 g5 g6 g25 cn pq qn33 dy fn34 (refR ((splS cn kn8 rs) - (splB cn kn8 (nI kn2) rs)) (mkP kn8 (splB cn kn8 (nI kn2) rs) (upd rs (16 + 7 * kn8 + 3) 0))) kn8 2 4 H.size hn37 hcn hpq hn35 hdy hn36 (by omega) (by omega)) (cwV 3 hts gX10_resolve_X10_set rfl rfl rfl (by decide +kernel) ⟨(Nat.le_of_ble_eq_true rfl), (Nat.le_of_ble_eq_true rfl)⟩) ⟨Wd.blind, va_recv hK hPc (ci := 11) (q0 := 0) rfl rfl, fun U hU hW => ⟨rfl, Wd.call hPc hDc hK hC hZ hS hFc U hU hW⟩⟩ rfl rfl hl.1 rfl (lv_room (Nat.le_of_ble_eq_true rfl)) dX10_resolve_60 ⟨(Nat.le_of_ble_eq_true rfl), (Nat.le_of_ble_eq_true rfl)⟩) hS (fun q _ h => hFc q h) hFc (fun u t H1 locs ht hvm hw hB hz1 hk1 hS => ?_)
      obtain ⟨fn39, hn40, hn41, hP1, hD1⟩ := hB
      rw [ht] at hP1
      obtain ⟨hP, hD⟩ := PDq.join (w := [(v3, .inl (cA 0, 3260, .inl fn15)), (v4, .inl (cA 1, 10, .inr (.inl fn16))), (oX10 w0 v0 v1 v2 v3 v4 g5 g6 (nI qn14) zn7 v9 (nI nb) g11 g12 v13 g14 g15 g16 g17 g18 g19 g20 g21 g22 g23 g24 g25 g26 v27 v28 v29 v30 v31 v32 v33 v34 v35 v36 v37 (nI ol)), (v0, .inl (cA 0, 326, .inl fn39))]) 2 hP hD [2, 3] [0, 1] rfl rfl (by decide) (by decide) hk1 hFc hP1 hD1 rfl
      generalize H1 = H at hP hS ⊢
      refine lv_iload hx hb dX10_resolve_63 (lv_at hl 0 rfl) ?_
      obtain ⟨hP9, hD9⟩ := PDq.sub (ws' := [(oX10 w0 v0 v1 v2 v3 v4 g5 g6 (nI qn14) zn7 v9 (nI nb) g11 g12 v13 g14 g15 g16 g17 g18 g19 g20 g21 g22 g23 g24 g25 g26 v27 v28 v29 v30 v31 v32 v33 v34 v35 v36 v37 (nI ol)), (v0, .inl (cA 0, 326, .inl fn39)), (v3, .inl (cA 0, 3260, .inl fn15)), (v4, .inl (cA 1, 10, .inr (.inl fn16)))]) hP hD [2, 3, 0, 1] (by decide) rfl
      refine W.widen (k := 0) (n := 0) (Nat.le_of_ble_eq_true rfl) (Nat.le_of_ble_eq_true rfl) ?_
      exact (W.iret (v := (splB cn kn8 (nI kn2) rs)) hx hb hr (fun t ht hW => ⟨⟨(splB cn kn8 (nI kn2) rs), (), rfl, trivial, qn14, qn33, zn7, fn39, fn15, fn16, hn17, hn18, hn35, hn40, (by subst hrs; exact Or.inl ⟨kn8, hn9, hn10, ⟨hn11, kn2, hn3, hn4⟩, hn19, (by rw [hn4]; exact hn41)⟩), by rw [ht]; exact hP9, hD9⟩, hS.F ht⟩) hS.2.2 dX10_resolve_65)
    · skip
      subst hr9
      refine lv_if_ne (tgt := 14) hx hb dX10_resolve_9 (by decide) (fun c9 => absurd c9 (by decide)) (fun c42 => ?_)
      refine lv_iconst (v := 0) hx hb dX10_resolve_12 (by decide) ?_
      obtain ⟨hP9, hD9⟩ := PDq.sub (ws' := [(oX10 w0 v0 v1 v2 v3 v4 g5 g6 (nI ed) zn7 v9 (nI nb) g11 g12 v13 g14 g15 g16 g17 g18 g19 g20 g21 g22 g23 g24 g25 g26 v27 v28 v29 v30 v31 v32 v33 v34 v35 v36 v37 (nI ol)), (v0, .inl (cA 0, 326, .inl fs)), (v3, .inl (cA 0, 3260, .inl fh)), (v4, .inl (cA 1, 10, .inr (.inl fl)))]) hP hD [2, 3, 0, 1] (by decide) rfl
      refine W.widen (k := 0) (n := 0) (Nat.le_of_ble_eq_true rfl) (Nat.le_of_ble_eq_true rfl) ?_
      exact (W.iret (v := 0) hx hb hr (fun t ht hW => ⟨⟨0, (), rfl, trivial, ed, en, zn7, fs, fh, fl, hed, hHI, hen, hri, (by subst hrs; exact Or.inr ⟨(fun ⟨k9, q8, q9, q7⟩ => hn12 ⟨k9, q8, q9, q7.1⟩), rfl, rfl, rfl, rfl⟩), by rw [ht]; exact hP9, hD9⟩, hS.F ht⟩) hS.2.2 dX10_resolve_13)
  · skip
    subst hr9
    obtain ⟨hPc, hDc, hFc⟩ := PDq.cut (wc := [(oX10 w0 v0 v1 v2 v3 v4 g5 g6 (nI ed) g8 v9 (nI nb) g11 g12 v13 g14 g15 g16 g17 g18 g19 g20 g21 g22 g23 g24 g25 g26 v27 v28 v29 v30 v31 v32 v33 v34 v35 v36 v37 (nI ol)), (v0, .inl (cA 0, 326, .inl fs))]) hP hD hS hA [0, 1] (by decide) rfl
    refine va_calli (va_runV (As := [.int i, .int 0]) (rest := []) ⟨hx, hb, hml, hown, hts⟩ (e_canSplit0 l D cA sa w0 ed nb ol v0 v1 v2 v3 v4 v9 v13 v27 v28 v29 v30 v31 v32 v33 v34 v35 v36 v37 g8 g11 g12 g14 g15 g16 g17 g18 g19 g20 g21 g22 g23 g24 g26 g5 g6 g25 cn pq en dy fs rs i H.size hrs9 hcn hpq hen hdy hri) (cwV 2 hts gX10_resolve_X10_canSplit rfl rfl rfl (by decide +kernel) ⟨(Nat.le_of_ble_eq_true rfl), (Nat.le_of_ble_eq_true rfl)⟩) ⟨Wd.blind, va_recv hK hPc (ci := 11) (q0 := 0) rfl rfl, fun U hU hW => ⟨rfl, Wd.call hPc hDc hK hC hZ hS hFc U hU hW⟩⟩ rfl rfl hl.1 rfl (lv_room (Nat.le_of_ble_eq_true rfl)) dX10_resolve_6 ⟨(Nat.le_of_ble_eq_true rfl), (Nat.le_of_ble_eq_true rfl)⟩) hS (fun q _ h => hFc q h) hFc (fun rn43 u t H1 locs ht hvm hw hB hz1 hk1 hS => ?_)
    obtain ⟨zn44, hP1, hD1⟩ := hB
    rw [ht] at hP1
    obtain ⟨hP, hD⟩ := PDq.join (w := [(v3, .inl (cA 0, 3260, .inl fh)), (v4, .inl (cA 1, 10, .inr (.inl fl))), (oX10 w0 v0 v1 v2 v3 v4 g5 g6 (nI ed) zn44 v9 (nI nb) g11 g12 v13 g14 g15 g16 g17 g18 g19 g20 g21 g22 g23 g24 g25 g26 v27 v28 v29 v30 v31 v32 v33 v34 v35 v36 v37 (nI ol)), (v0, .inl (cA 0, 326, .inl fs))]) 2 hP hD [0, 1] [2, 3] rfl rfl (by decide) (by decide) hk1 hFc hP1 hD1 rfl
    generalize H1 = H at hP hS ⊢
    obtain rfl : rn43 = 0 := hw
    refine lv_if_ne (tgt := 14) hx hb dX10_resolve_9 (by decide) (fun c9 => absurd c9 (by decide)) (fun c45 => ?_)
    refine lv_iconst (v := 0) hx hb dX10_resolve_12 (by decide) ?_
    obtain ⟨hP9, hD9⟩ := PDq.sub (ws' := [(oX10 w0 v0 v1 v2 v3 v4 g5 g6 (nI ed) zn44 v9 (nI nb) g11 g12 v13 g14 g15 g16 g17 g18 g19 g20 g21 g22 g23 g24 g25 g26 v27 v28 v29 v30 v31 v32 v33 v34 v35 v36 v37 (nI ol)), (v0, .inl (cA 0, 326, .inl fs)), (v3, .inl (cA 0, 3260, .inl fh)), (v4, .inl (cA 1, 10, .inr (.inl fl)))]) hP hD [2, 3, 0, 1] (by decide) rfl
    refine W.widen (k := 0) (n := 0) (Nat.le_of_ble_eq_true rfl) (Nat.le_of_ble_eq_true rfl) ?_
    exact (W.iret (v := 0) hx hb hr (fun t ht hW => ⟨⟨0, (), rfl, trivial, ed, en, zn44, fs, fh, fl, hed, hHI, hen, hri, (by subst hrs; exact Or.inr ⟨(fun ⟨k9, q8, q9, q7⟩ => hn5 q7.2), rfl, rfl, rfl, rfl⟩), by rw [ht]; exact hP9, hD9⟩, hS.F ht⟩) hS.2.2 dX10_resolve_13)

set_option maxHeartbeats 4000000 in
set_option maxRecDepth 100000 in
/-- reference, exactly: areAllClosed -/
theorem e_areAllClosed (l : Launch) (D : va_G) (cA : Nat → ClassId) (sa : Nat → Nat) (w0 : Nat) (ed : Nat) (nb : Nat) (ol : Nat) (v0 : Nat) (v1 : Nat) (v2 : Nat) (v3 : Nat) (v4 : Nat) (v9 : Nat) (v13 : Nat) (v27 : Nat) (v28 : Nat) (v29 : Nat) (v30 : Nat) (v31 : Nat) (v32 : Nat) (v33 : Nat) (v34 : Nat) (v35 : Nat) (v36 : Nat) (v37 : Nat) (g8 : Int32) (g11 : Int32) (g12 : Int32) (g14 : Int32) (g15 : Int32) (g16 : Int32) (g17 : Int32) (g18 : Int32) (g19 : Int32) (g20 : Int32) (g21 : Int32) (g22 : Int32) (g23 : Int32) (g24 : Int32) (g26 : Int32) (g5 : Int64) (g6 : Int64) (g25 : Int64) (cn : Nat) (pq : Nat) (en : Nat) (dy : Nat) (fs : Nat → Int32) (ra : Nat → Int32) (sz : Nat) (hAb : Ab ra fs) (hcn : cn ≤ 10) (hpq : pq ≤ 8) (hen : en ≤ 60) (hdy : dy ≤ 20000) (hri : RI cn pq en dy fs) : Met l yX10_areAllClosed wsX10_areAllClosed ({ frames := 2, cells := 0, slots := 0, locals := 43 }) (va_Pc [.ref w0] (Wd D cA sa [(oX10 w0 v0 v1 v2 v3 v4 g5 g6 (nI ed) g8 v9 (nI nb) g11 g12 v13 g14 g15 g16 g17 g18 g19 g20 g21 g22 g23 g24 g25 g26 v27 v28 v29 v30 v31 v32 v33 v34 v35 v36 v37 (nI ol)), (v0, .inl (cA 0, 326, .inl fs))] sz)) (va_Qi (fun (r : Int32) (_ : Unit) => (r = 1 ∧ (∀ m, m < cn → 3 ≤ ra (16 + 7 * m + 2))) ∨ (r = 0 ∧ ¬ (∀ m, m < cn → 3 ≤ ra (16 + 7 * m + 2)))) (fun (_ : Unit) t => Wq D (va_A [(oX10 w0 v0 v1 v2 v3 v4 g5 g6 (nI ed) g8 v9 (nI nb) g11 g12 v13 g14 g15 g16 g17 g18 g19 g20 g21 g22 g23 g24 g25 g26 v27 v28 v29 v30 v31 v32 v33 v34 v35 v36 v37 (nI ol)), (v0, .inl (cA 0, 326, .inl fs))] sz) [(oX10 w0 v0 v1 v2 v3 v4 g5 g6 (nI ed) g8 v9 (nI nb) g11 g12 v13 g14 g15 g16 g17 g18 g19 g20 g21 g22 g23 g24 g25 g26 v27 v28 v29 v30 v31 v32 v33 v34 v35 v36 v37 (nI ol)), (v0, .inl (cA 0, 326, .inl fs))] t) (va_A [(oX10 w0 v0 v1 v2 v3 v4 g5 g6 (nI ed) g8 v9 (nI nb) g11 g12 v13 g14 g15 g16 g17 g18 g19 g20 g21 g22 g23 g24 g25 g26 v27 v28 v29 v30 v31 v32 v33 v34 v35 v36 v37 (nI ol)), (v0, .inl (cA 0, 326, .inl fs))] sz)) 0 0 (va_A [(oX10 w0 v0 v1 v2 v3 v4 g5 g6 (nI ed) g8 v9 (nI nb) g11 g12 v13 g14 g15 g16 g17 g18 g19 g20 g21 g22 g23 g24 g25 g26 v27 v28 v29 v30 v31 v32 v33 v34 v35 v36 v37 (nI ol)), (v0, .inl (cA 0, 326, .inl fs))] sz) := by
  refine Met.ofW (cc := cX10_areAllClosed) (maxL := 3) (ret := (some .boolean)) (by decide) rfl ?_
  intro p e s m args below meth c s₁ B hml hv
  obtain ⟨rfl, hsz, hP, hK, hD0, hC, hZ⟩ := hv
  have hx := B.exec
  have hb := B.bytes
  have hr := B.returns
  have hts := atoms_spec (ws := wsX10_areAllClosed) B.pre
  have hown : s.vm.findClass RX10 = some m.cls := findClass_of_methodNamed B.named
  have hlocks := B.notSynchronized
  subst hsz
  have hD := hD0.self (sz := s.heap.size)
  generalize hAe : va_A [(oX10 w0 v0 v1 v2 v3 v4 g5 g6 (nI ed) g8 v9 (nI nb) g11 g12 v13 g14 g15 g16 g17 g18 g19 g20 g21 g22 g23 g24 g25 g26 v27 v28 v29 v30 v31 v32 v33 v34 v35 v36 v37 (nI ol)), (v0, .inl (cA 0, 326, .inl fs))] s.heap.size = A at hD hZ ⊢
  have hA : ∀ q : Nat, s.heap.size ≤ q → A q := fun q h => by rw [← hAe]; exact Or.inr h
  have hS : va_S A s.heap s.heap [] := va_S.rf
  have hP : va_P D vwCl [(oX10 w0 v0 v1 v2 v3 v4 g5 g6 (nI ed) g8 v9 (nI nb) g11 g12 v13 g14 g15 g16 g17 g18 g19 g20 g21 g22 g23 g24 g25 g26 v27 v28 v29 v30 v31 v32 v33 v34 v35 v36 v37 (nI ol)), (v0, .inl (cA 0, 326, .inl fs))] s.heap := hP
  have hl := lv_entry ([.ref w0]) (n := 3) (Nat.le_of_ble_eq_true rfl)
  rw [lg_entry_eq]
  generalize (lg_sl ([.ref w0]) ++ List.replicate (3 - (lg_sl ([.ref w0])).length) Slot.unset).toArray = ls at hl ⊢
  have hl : lv_has ls 3 [(0, .ref w0)] := hl
  have inX10 : ∀ w ∈ u_ws RX10 TX10 39, w ∈ wsX10_areAllClosed := by decide +kernel
  refine lv_iconst (v := 1) hx hb dX10_areAllClosed_0 (by decide) ?_
  refine lv_istore_n (lv' := [(1, .int 1), (0, .ref w0)]) hx hb dX10_areAllClosed_1 rfl hl (by decide) rfl (fun ls hl => ?_)
  refine lv_iconst (v := 0) hx hb dX10_areAllClosed_2 (by decide) ?_
  refine lv_istore_n (lv' := [(2, .int 0), (1, .int 1), (0, .ref w0)]) hx hb dX10_areAllClosed_3 rfl hl (by decide) rfl (fun ls hl => ?_)
  have loop1 : ∀ (n1 i1 : Nat) (x1_1 : Int32) (H : Heap) (locs : List Loc) (ls : Array Slot), i1 + n1 = cn → Acl ra i1 x1_1 → x1_1 = 0 ∨ x1_1 = 1 → va_P D vwCl [(oX10 w0 v0 v1 v2 v3 v4 g5 g6 (nI ed) g8 v9 (nI nb) g11 g12 v13 g14 g15 g16 g17 g18 g19 g20 g21 g22 g23 g24 g25 g26 v27 v28 v29 v30 v31 v32 v33 v34 v35 v36 v37 (nI ol)), (v0, .inl (cA 0, 326, .inl fs))] H → va_D A [(oX10 w0 v0 v1 v2 v3 v4 g5 g6 (nI ed) g8 v9 (nI nb) g11 g12 v13 g14 g15 g16 g17 g18 g19 g20 g21 g22 g23 g24 g25 g26 v27 v28 v29 v30 v31 v32 v33 v34 v35 v36 v37 (nI ol)), (v0, .inl (cA 0, 326, .inl fs))] → va_S A s.heap H locs → lv_has ls 3 [(2, .int (nI i1)), (1, .int x1_1), (0, .ref w0)] → W p l e (headSpec wsX10_areAllClosed ({ frames := 2, cells := 0, slots := 0, locals := 43 } : Room)).room s m ([.ref w0] : List Value).toArray below meth c H locs 0 0 (MQ below (va_Qi (fun (r : Int32) (_ : Unit) => (r = 1 ∧ (∀ m, m < cn → 3 ≤ ra (16 + 7 * m + 2))) ∨ (r = 0 ∧ ¬ (∀ m, m < cn → 3 ≤ ra (16 + 7 * m + 2)))) (fun (_ : Unit) t => Wq D A [(oX10 w0 v0 v1 v2 v3 v4 g5 g6 (nI ed) g8 v9 (nI nb) g11 g12 v13 g14 g15 g16 g17 g18 g19 g20 g21 g22 g23 g24 g25 g26 v27 v28 v29 v30 v31 v32 v33 v34 v35 v36 v37 (nI ol)), (v0, .inl (cA 0, 326, .inl fs))] t) A) ([.ref w0] : List Value).toArray s 0 0 A) (F0 m 4 ls []) := by
    intro n1
    induction n1 with
    | zero =>
      intro i1 x1_1 H locs ls hi1 hv0_1 hb1_1 hP hD hS hl
      obtain rfl : cn = i1 := by omega
      refine lv_iload_n hx hb dX10_areAllClosed_4 rfl (lv_at hl 0 rfl) ?_
      refine lv_aload_n hx hb dX10_areAllClosed_5 rfl (lv_at hl 2 rfl) ?_
      refine va_get (D := D) (ci := 11) (v := .ref v0) (C := RX10) (T := TX10) (N := 39) hx hb hts inX10 hown hK hP 0 rfl rfl 0 (by decide) (hts (.fieldLink RX10 7 "EscrowDeskModel" "s" "[I") (by decide +kernel)) (fun _ h9 => h9) rfl dX10_areAllClosed_6 ?_
      refine lv_bipush (v := 13) hx hb dX10_areAllClosed_9 (by decide) ?_
      refine va_iald hx hb hK hP 1 0 rfl rfl (vp_in_iff.mpr (by decide)) dX10_areAllClosed_11 ?_
      refine lv_topi (fun yn1 eyn1 => ?_)
      obtain rfl : yn1 = (nI cn) := eyn1.trans hri.1
      refine lv_icmp_ge (tgt := 39) hx hb dX10_areAllClosed_12 (by decide) (fun c2 => ?_) (fun c9 => absurd (nI_le (a := cn) (b := cn) (show cn ≤ cn by omega) (by omega)) c9)
      refine lv_iload_n hx hb dX10_areAllClosed_39 rfl (lv_at hl 1 rfl) ?_
      obtain ⟨hP9, hD9⟩ := PDq.sub (ws' := [(oX10 w0 v0 v1 v2 v3 v4 g5 g6 (nI ed) g8 v9 (nI nb) g11 g12 v13 g14 g15 g16 g17 g18 g19 g20 g21 g22 g23 g24 g25 g26 v27 v28 v29 v30 v31 v32 v33 v34 v35 v36 v37 (nI ol)), (v0, .inl (cA 0, 326, .inl fs))]) hP hD [0, 1] (by decide) rfl
      refine W.widen (k := 0) (n := 0) (Nat.le_of_ble_eq_true rfl) (Nat.le_of_ble_eq_true rfl) ?_
      exact (W.zret (v := x1_1) hx hb hr (by rcases hb1_1 with h9 | h9 <;> rw [h9] <;> rfl) (fun t ht hW => ⟨⟨x1_1, (), rfl, (Acl.fin hv0_1 hb1_1), by rw [ht]; exact hP9, hD9⟩, hS.F ht⟩) hS.2.2 dX10_areAllClosed_40)
    | succ n1 ih1 =>
      intro i1 x1_1 H locs ls hi1 hv0_1 hb1_1 hP hD hS hl
      refine lv_iload_n hx hb dX10_areAllClosed_4 rfl (lv_at hl 0 rfl) ?_
      refine lv_aload_n hx hb dX10_areAllClosed_5 rfl (lv_at hl 2 rfl) ?_
      refine va_get (D := D) (ci := 11) (v := .ref v0) (C := RX10) (T := TX10) (N := 39) hx hb hts inX10 hown hK hP 0 rfl rfl 0 (by decide) (hts (.fieldLink RX10 7 "EscrowDeskModel" "s" "[I") (by decide +kernel)) (fun _ h9 => h9) rfl dX10_areAllClosed_6 ?_
      refine lv_bipush (v := 13) hx hb dX10_areAllClosed_9 (by decide) ?_
      refine va_iald hx hb hK hP 1 0 rfl rfl (vp_in_iff.mpr (by decide)) dX10_areAllClosed_11 ?_
      refine lv_topi (fun yn3 eyn3 => ?_)
      obtain rfl : yn3 = (nI cn) := eyn3.trans hri.1
      refine lv_icmp_ge (tgt := 39) hx hb dX10_areAllClosed_12 (by decide) (fun c9 => absurd c9 (nI_ge (a := i1) (b := cn) (show i1 < cn by omega) (by omega))) (fun c4 => ?_)
      refine lv_iload_n hx hb dX10_areAllClosed_15 rfl (lv_at hl 1 rfl) ?_
      refine lv_if_eq (tgt := 31) hx hb dX10_areAllClosed_16 (by decide) (fun c5 => ?_) (fun c5 => ?_)
      · skip
        rw [c5] at hl
        have hl : lv_has ls 3 [(2, .int (nI i1)), (1, .int 0), (0, .ref w0)] := hl
        refine lv_iconst (v := 0) hx hb dX10_areAllClosed_31 (by decide) ?_
        refine lv_istore_n (lv' := [(1, .int 0), (2, .int (nI i1)), (0, .ref w0)]) hx hb dX10_areAllClosed_32 rfl hl (by decide) rfl (fun ls hl => ?_)
        refine lv_iinc (v := (nI (i1 + 1))) (lv' := [(2, .int (nI (i1 + 1))), (1, .int 0), (0, .ref w0)]) hx hb dX10_areAllClosed_33 hl (k := 1) rfl (nI_1 _) (by decide) rfl (fun ls hl => ?_)
        refine lv_goto (tgt := 4) hx hb dX10_areAllClosed_36 (by decide) ?_
        obtain ⟨hP9, hD9⟩ := PDq.sub (ws' := [(oX10 w0 v0 v1 v2 v3 v4 g5 g6 (nI ed) g8 v9 (nI nb) g11 g12 v13 g14 g15 g16 g17 g18 g19 g20 g21 g22 g23 g24 g25 g26 v27 v28 v29 v30 v31 v32 v33 v34 v35 v36 v37 (nI ol)), (v0, .inl (cA 0, 326, .inl fs))]) hP hD [0, 1] (by decide) rfl
        exact ih1 (i1 + 1) 0 H _ ls (by omega) (Acl.z hv0_1 c5) (by decide) hP9 hD9 hS (lv_sub hl [0, 1, 2] rfl)
      · skip
        refine lv_aload_n hx hb dX10_areAllClosed_19 rfl (lv_at hl 2 rfl) ?_
        refine lv_iload_n hx hb dX10_areAllClosed_20 rfl (lv_at hl 0 rfl) ?_
        obtain ⟨hPc, hDc, hFc⟩ := PDq.cut (wc := [(oX10 w0 v0 v1 v2 v3 v4 g5 g6 (nI ed) g8 v9 (nI nb) g11 g12 v13 g14 g15 g16 g17 g18 g19 g20 g21 g22 g23 g24 g25 g26 v27 v28 v29 v30 v31 v32 v33 v34 v35 v36 v37 (nI ol)), (v0, .inl (cA 0, 326, .inl fs))]) hP hD hS hA [0, 1] (by decide) rfl
        refine va_calli (va_runV (As := [.int (nI i1)]) (rest := []) ⟨hx, hb, hml, hown, hts⟩ (e_isClosed l D cA sa w0 ed nb ol v0 v1 v2 v3 v4 v9 v13 v27 v28 v29 v30 v31 v32 v33 v34 v35 v36 v37 g8 g11 g12 g14 g15 g16 g17 g18 g19 g20 g21 g22 g23 g24 g26 g5 g6 g25 ra fs i1 H.size hAb (by omega)) (cwV 1 hts gX10_areAllClosed_X10_isClosed rfl rfl rfl (by decide +kernel) ⟨(Nat.le_of_ble_eq_true rfl), (Nat.le_of_ble_eq_true rfl)⟩) ⟨Wd.blind, va_recv hK hPc (ci := 11) (q0 := 0) rfl rfl, fun U hU hW => ⟨rfl, Wd.call hPc hDc hK hC hZ hS hFc U hU hW⟩⟩ rfl rfl hl.1 rfl (lv_room (Nat.le_of_ble_eq_true rfl)) dX10_areAllClosed_21 ⟨(Nat.le_of_ble_eq_true rfl), (Nat.le_of_ble_eq_true rfl)⟩) hS (fun q _ h => hFc q h) hFc (fun rn6 u t H1 locs ht hvm hw hB hz1 hk1 hS => ?_)
        obtain ⟨hP1, hD1⟩ := hB
        rw [ht] at hP1
        obtain ⟨hP, hD⟩ := PDq.join (w := [(oX10 w0 v0 v1 v2 v3 v4 g5 g6 (nI ed) g8 v9 (nI nb) g11 g12 v13 g14 g15 g16 g17 g18 g19 g20 g21 g22 g23 g24 g25 g26 v27 v28 v29 v30 v31 v32 v33 v34 v35 v36 v37 (nI ol)), (v0, .inl (cA 0, 326, .inl fs))]) 0 hP hD [0, 1] [] rfl rfl (by decide) (by decide) hk1 hFc hP1 hD1 rfl
        generalize H1 = H at hP hS ⊢
        rcases hw with ⟨hr9, hn7⟩ | ⟨hr9, hn7⟩
        · skip
          subst hr9
          refine lv_if_eq (tgt := 31) hx hb dX10_areAllClosed_24 (by decide) (fun c9 => absurd c9 (by decide)) (fun c8 => ?_)
          refine lv_iconst (v := 1) hx hb dX10_areAllClosed_27 (by decide) ?_
          refine lv_goto (tgt := 32) hx hb dX10_areAllClosed_28 (by decide) ?_
          refine lv_istore_n (lv' := [(1, .int 1), (2, .int (nI i1)), (0, .ref w0)]) hx hb dX10_areAllClosed_32 rfl hl (by decide) rfl (fun ls hl => ?_)
          refine lv_iinc (v := (nI (i1 + 1))) (lv' := [(2, .int (nI (i1 + 1))), (1, .int 1), (0, .ref w0)]) hx hb dX10_areAllClosed_33 hl (k := 1) rfl (nI_1 _) (by decide) rfl (fun ls hl => ?_)
          refine lv_goto (tgt := 4) hx hb dX10_areAllClosed_36 (by decide) ?_
          obtain ⟨hP9, hD9⟩ := PDq.sub (ws' := [(oX10 w0 v0 v1 v2 v3 v4 g5 g6 (nI ed) g8 v9 (nI nb) g11 g12 v13 g14 g15 g16 g17 g18 g19 g20 g21 g22 g23 g24 g25 g26 v27 v28 v29 v30 v31 v32 v33 v34 v35 v36 v37 (nI ol)), (v0, .inl (cA 0, 326, .inl fs))]) hP hD [0, 1] (by decide) rfl
          exact ih1 (i1 + 1) 1 H _ ls (by omega) (Acl.y hv0_1 c5 hn7) (by decide) hP9 hD9 hS (lv_sub hl [0, 1, 2] rfl)
        · skip
          subst hr9
          refine lv_if_eq (tgt := 31) hx hb dX10_areAllClosed_24 (by decide) (fun c9 => ?_) (fun c9 => absurd c9 (by decide))
          refine lv_iconst (v := 0) hx hb dX10_areAllClosed_31 (by decide) ?_
          refine lv_istore_n (lv' := [(1, .int 0), (2, .int (nI i1)), (0, .ref w0)]) hx hb dX10_areAllClosed_32 rfl hl (by decide) rfl (fun ls hl => ?_)
          refine lv_iinc (v := (nI (i1 + 1))) (lv' := [(2, .int (nI (i1 + 1))), (1, .int 0), (0, .ref w0)]) hx hb dX10_areAllClosed_33 hl (k := 1) rfl (nI_1 _) (by decide) rfl (fun ls hl => ?_)
          refine lv_goto (tgt := 4) hx hb dX10_areAllClosed_36 (by decide) ?_
          obtain ⟨hP9, hD9⟩ := PDq.sub (ws' := [(oX10 w0 v0 v1 v2 v3 v4 g5 g6 (nI ed) g8 v9 (nI nb) g11 g12 v13 g14 g15 g16 g17 g18 g19 g20 g21 g22 g23 g24 g25 g26 v27 v28 v29 v30 v31 v32 v33 v34 v35 v36 v37 (nI ol)), (v0, .inl (cA 0, 326, .inl fs))]) hP hD [0, 1] (by decide) rfl
          exact ih1 (i1 + 1) 0 H _ ls (by omega) (Acl.n hv0_1 hn7) (by decide) hP9 hD9 hS (lv_sub hl [0, 1, 2] rfl)
  obtain ⟨hP9, hD9⟩ := PDq.sub (ws' := [(oX10 w0 v0 v1 v2 v3 v4 g5 g6 (nI ed) g8 v9 (nI nb) g11 g12 v13 g14 g15 g16 g17 g18 g19 g20 g21 g22 g23 g24 g25 g26 v27 v28 v29 v30 v31 v32 v33 v34 v35 v36 v37 (nI ol)), (v0, .inl (cA 0, 326, .inl fs))]) hP hD [0, 1] (by decide) rfl
  exact loop1 (cn - 0) 0 1 _ _ ls (by omega) (Acl.zero ra) (by decide) hP9 hD9 hS (lv_sub hl [0, 1, 2] rfl)

set_option maxHeartbeats 4000000 in
set_option maxRecDepth 100000 in
/-- reference, exactly: close -/
theorem e_close (l : Launch) (D : va_G) (cA : Nat → ClassId) (sa : Nat → Nat) (w0 : Nat) (ed : Nat) (nb : Nat) (ol : Nat) (v0 : Nat) (v1 : Nat) (v2 : Nat) (v3 : Nat) (v4 : Nat) (v9 : Nat) (v13 : Nat) (v27 : Nat) (v28 : Nat) (v29 : Nat) (v30 : Nat) (v31 : Nat) (v32 : Nat) (v33 : Nat) (v34 : Nat) (v35 : Nat) (v36 : Nat) (v37 : Nat) (g8 : Int32) (g11 : Int32) (g12 : Int32) (g14 : Int32) (g15 : Int32) (g16 : Int32) (g17 : Int32) (g18 : Int32) (g19 : Int32) (g20 : Int32) (g21 : Int32) (g22 : Int32) (g23 : Int32) (g24 : Int32) (g26 : Int32) (g5 : Int64) (g6 : Int64) (g25 : Int64) (cn : Nat) (pq : Nat) (en : Nat) (dy : Nat) (fs : Nat → Int32) (fh : Nat → Int32) (fl : Nat → Int64) (sz : Nat) (hcn : cn ≤ 10) (hpq : pq ≤ 8) (hen : en ≤ 60) (hdy : dy ≤ 20000) (hri : RI cn pq en dy fs) (hed : ed ≤ 10) (hHI : HI cn pq ed fh) (hd9 : dy ≤ 9999) : Met l yX10_close wsX10_close ({ frames := 3, cells := 0, slots := 0, locals := 65 }) (va_Pc [.ref w0] (Wd D cA sa [(oX10 w0 v0 v1 v2 v3 v4 g5 g6 (nI ed) g8 v9 (nI nb) g11 g12 v13 g14 g15 g16 g17 g18 g19 g20 g21 g22 g23 g24 g25 g26 v27 v28 v29 v30 v31 v32 v33 v34 v35 v36 v37 (nI ol)), (v0, .inl (cA 0, 326, .inl fs)), (v3, .inl (cA 0, 3260, .inl fh)), (v4, .inl (cA 1, 10, .inr (.inl fl)))] sz)) (va_Qi (fun (r : Int32) (_ : Unit) => True) (fun (_ : Unit) t => ∃ ed2 : Nat, ∃ e2 : Nat, ∃ zt : Int32, ∃ zs : Nat → Int32, ∃ zh : Nat → Int32, ∃ zl : Nat → Int64, ed2 ≤ 10 ∧ HI cn pq ed2 zh ∧ e2 ≤ 60 ∧ RI cn pq e2 dy zs ∧ EdM (AcClo fs cn) (cloR) ed fh fl fs g5 ed2 zh zl zs ∧ Wq D (va_A [(oX10 w0 v0 v1 v2 v3 v4 g5 g6 (nI ed) g8 v9 (nI nb) g11 g12 v13 g14 g15 g16 g17 g18 g19 g20 g21 g22 g23 g24 g25 g26 v27 v28 v29 v30 v31 v32 v33 v34 v35 v36 v37 (nI ol)), (v0, .inl (cA 0, 326, .inl fs)), (v3, .inl (cA 0, 3260, .inl fh)), (v4, .inl (cA 1, 10, .inr (.inl fl)))] sz) [(oX10 w0 v0 v1 v2 v3 v4 g5 g6 (nI ed2) zt v9 (nI nb) g11 g12 v13 g14 g15 g16 g17 g18 g19 g20 g21 g22 g23 g24 g25 g26 v27 v28 v29 v30 v31 v32 v33 v34 v35 v36 v37 (nI ol)), (v0, .inl (cA 0, 326, .inl zs)), (v3, .inl (cA 0, 3260, .inl zh)), (v4, .inl (cA 1, 10, .inr (.inl zl)))] t) (va_A [(oX10 w0 v0 v1 v2 v3 v4 g5 g6 (nI ed) g8 v9 (nI nb) g11 g12 v13 g14 g15 g16 g17 g18 g19 g20 g21 g22 g23 g24 g25 g26 v27 v28 v29 v30 v31 v32 v33 v34 v35 v36 v37 (nI ol)), (v0, .inl (cA 0, 326, .inl fs)), (v3, .inl (cA 0, 3260, .inl fh)), (v4, .inl (cA 1, 10, .inr (.inl fl)))] sz)) 0 0 (va_A [(oX10 w0 v0 v1 v2 v3 v4 g5 g6 (nI ed) g8 v9 (nI nb) g11 g12 v13 g14 g15 g16 g17 g18 g19 g20 g21 g22 g23 g24 g25 g26 v27 v28 v29 v30 v31 v32 v33 v34 v35 v36 v37 (nI ol)), (v0, .inl (cA 0, 326, .inl fs)), (v3, .inl (cA 0, 3260, .inl fh)), (v4, .inl (cA 1, 10, .inr (.inl fl)))] sz) := by
  refine Met.ofW (cc := cX10_close) (maxL := 2) (ret := (some .int)) (by decide) rfl ?_
  intro p e s m args below meth c s₁ B hml hv
  obtain ⟨rfl, hsz, hP, hK, hD0, hC, hZ⟩ := hv
  have hx := B.exec
  have hb := B.bytes
  have hr := B.returns
  have hts := atoms_spec (ws := wsX10_close) B.pre
  have hown : s.vm.findClass RX10 = some m.cls := findClass_of_methodNamed B.named
  have hlocks := B.notSynchronized
  subst hsz
  have hD := hD0.self (sz := s.heap.size)
  generalize hAe : va_A [(oX10 w0 v0 v1 v2 v3 v4 g5 g6 (nI ed) g8 v9 (nI nb) g11 g12 v13 g14 g15 g16 g17 g18 g19 g20 g21 g22 g23 g24 g25 g26 v27 v28 v29 v30 v31 v32 v33 v34 v35 v36 v37 (nI ol)), (v0, .inl (cA 0, 326, .inl fs)), (v3, .inl (cA 0, 3260, .inl fh)), (v4, .inl (cA 1, 10, .inr (.inl fl)))] s.heap.size = A at hD hZ ⊢
  have hA : ∀ q : Nat, s.heap.size ≤ q → A q := fun q h => by rw [← hAe]; exact Or.inr h
  have hS : va_S A s.heap s.heap [] := va_S.rf
  have hP : va_P D vwCl [(oX10 w0 v0 v1 v2 v3 v4 g5 g6 (nI ed) g8 v9 (nI nb) g11 g12 v13 g14 g15 g16 g17 g18 g19 g20 g21 g22 g23 g24 g25 g26 v27 v28 v29 v30 v31 v32 v33 v34 v35 v36 v37 (nI ol)), (v0, .inl (cA 0, 326, .inl fs)), (v3, .inl (cA 0, 3260, .inl fh)), (v4, .inl (cA 1, 10, .inr (.inl fl)))] s.heap := hP
  have hl := lv_entry ([.ref w0]) (n := 2) (Nat.le_of_ble_eq_true rfl)
  rw [lg_entry_eq]
  generalize (lg_sl ([.ref w0]) ++ List.replicate (2 - (lg_sl ([.ref w0])).length) Slot.unset).toArray = ls at hl ⊢
  have hl : lv_has ls 2 [(0, .ref w0)] := hl
  have inX10 : ∀ w ∈ u_ws RX10 TX10 39, w ∈ wsX10_close := by decide +kernel
  obtain ⟨rs, hrs⟩ : ∃ r : Nat → Int32, r = fs := ⟨fs, rfl⟩
  have hrs9 : Ab rs fs := by rw [hrs]; exact Ab.rf fs
  refine lv_aload_n hx hb dX10_close_0 rfl (lv_at hl 0 rfl) ?_
  refine lv_aload_n hx hb dX10_close_1 rfl (lv_at hl 0 rfl) ?_
  obtain ⟨hPc, hDc, hFc⟩ := PDq.cut (wc := [(oX10 w0 v0 v1 v2 v3 v4 g5 g6 (nI ed) g8 v9 (nI nb) g11 g12 v13 g14 g15 g16 g17 g18 g19 g20 g21 g22 g23 g24 g25 g26 v27 v28 v29 v30 v31 v32 v33 v34 v35 v36 v37 (nI ol)), (v0, .inl (cA 0, 326, .inl fs))]) hP hD hS hA [0, 1] (by decide) rfl
  refine va_calli (va_runV (As := []) (rest := [.ref w0]) ⟨hx, hb, hml, hown, hts⟩ (e_areAllClosed l D cA sa w0 ed nb ol v0 v1 v2 v3 v4 v9 v13 v27 v28 v29 v30 v31 v32 v33 v34 v35 v36 v37 g8 g11 g12 g14 g15 g16 g17 g18 g19 g20 g21 g22 g23 g24 g26 g5 g6 g25 cn pq en dy fs rs s.heap.size hrs9 hcn hpq hen hdy hri) (cwV 0 hts gX10_close_X10_areAllClosed rfl rfl rfl (by decide +kernel) ⟨(Nat.le_of_ble_eq_true rfl), (Nat.le_of_ble_eq_true rfl)⟩) ⟨Wd.blind, va_recv hK hPc (ci := 11) (q0 := 0) rfl rfl, fun U hU hW => ⟨rfl, Wd.call hPc hDc hK hC hZ hS hFc U hU hW⟩⟩ rfl rfl hl.1 rfl (lv_room (Nat.le_of_ble_eq_true rfl)) dX10_close_2 ⟨(Nat.le_of_ble_eq_true rfl), (Nat.le_of_ble_eq_true rfl)⟩) hS (fun q _ h => hFc q h) hFc (fun rn1 u t H1 locs ht hvm hw hB hz1 hk1 hS => ?_)
  obtain ⟨hP1, hD1⟩ := hB
  rw [ht] at hP1
  obtain ⟨hP, hD⟩ := PDq.join (w := [(v3, .inl (cA 0, 3260, .inl fh)), (v4, .inl (cA 1, 10, .inr (.inl fl))), (oX10 w0 v0 v1 v2 v3 v4 g5 g6 (nI ed) g8 v9 (nI nb) g11 g12 v13 g14 g15 g16 g17 g18 g19 g20 g21 g22 g23 g24 g25 g26 v27 v28 v29 v30 v31 v32 v33 v34 v35 v36 v37 (nI ol)), (v0, .inl (cA 0, 326, .inl fs))]) 2 hP hD [0, 1] [2, 3] rfl rfl (by decide) (by decide) hk1 hFc hP1 hD1 rfl
  generalize H1 = H at hP hS ⊢
  rcases hw with ⟨hr9, hn2⟩ | ⟨hr9, hn2⟩
  · skip
    subst hr9
    obtain ⟨hPc, hDc, hFc⟩ := PDq.cut (wc := [(oX10 w0 v0 v1 v2 v3 v4 g5 g6 (nI ed) g8 v9 (nI nb) g11 g12 v13 g14 g15 g16 g17 g18 g19 g20 g21 g22 g23 g24 g25 g26 v27 v28 v29 v30 v31 v32 v33 v34 v35 v36 v37 (nI ol))]) hP hD hS hA [2] (by decide) rfl
    refine va_calli (va_runV (As := [.int 1]) (rest := []) ⟨hx, hb, hml, hown, hts⟩ (r_good1 l D cA sa w0 ed nb ol v0 v1 v2 v3 v4 v9 v13 v27 v28 v29 v30 v31 v32 v33 v34 v35 v36 v37 g8 g11 g12 g14 g15 g16 g17 g18 g19 g20 g21 g22 g23 g24 g26 g5 g6 g25 H.size) (cwV 1 hts gX10_close_X10_good rfl rfl rfl (by decide +kernel) ⟨(Nat.le_of_ble_eq_true rfl), (Nat.le_of_ble_eq_true rfl)⟩) ⟨Wd.blind, va_recv hK hPc (ci := 11) (q0 := 0) rfl rfl, fun U hU hW => ⟨rfl, Wd.call hPc hDc hK hC hZ hS hFc U hU hW⟩⟩ rfl rfl hl.1 rfl (lv_room (Nat.le_of_ble_eq_true rfl)) dX10_close_5 ⟨(Nat.le_of_ble_eq_true rfl), (Nat.le_of_ble_eq_true rfl)⟩) hS (fun q _ h => hFc q h) hFc (fun rn3 u t H1 locs ht hvm hw hB hz1 hk1 hS => ?_)
    obtain ⟨hP1, hD1⟩ := hB
    rw [ht] at hP1
    obtain ⟨hP, hD⟩ := PDq.join (w := [(v3, .inl (cA 0, 3260, .inl fh)), (v4, .inl (cA 1, 10, .inr (.inl fl))), (v0, .inl (cA 0, 326, .inl fs)), (oX10 w0 v0 v1 v2 v3 v4 g5 g6 (nI ed) 0 v9 (nI nb) g11 g12 v13 g14 g15 g16 g17 g18 g19 g20 g21 g22 g23 g24 g25 g26 v27 v28 v29 v30 v31 v32 v33 v34 v35 v36 v37 (nI ol))]) 3 hP hD [2] [0, 1, 3] rfl rfl (by decide) (by decide) hk1 hFc hP1 hD1 rfl
    generalize H1 = H at hP hS ⊢
    obtain rfl : rn3 = 1 := hw
    refine lv_if_ne (tgt := 13) hx hb dX10_close_8 (by decide) (fun c4 => ?_) (fun c9 => absurd c9 (by decide))
    refine lv_aload_n hx hb dX10_close_13 rfl (lv_at hl 0 rfl) ?_
    obtain ⟨hPc, hDc, hFc⟩ := PDq.cut (wc := [(oX10 w0 v0 v1 v2 v3 v4 g5 g6 (nI ed) 0 v9 (nI nb) g11 g12 v13 g14 g15 g16 g17 g18 g19 g20 g21 g22 g23 g24 g25 g26 v27 v28 v29 v30 v31 v32 v33 v34 v35 v36 v37 (nI ol)), (v0, .inl (cA 0, 326, .inl fs)), (v3, .inl (cA 0, 3260, .inl fh)), (v4, .inl (cA 1, 10, .inr (.inl fl)))]) hP hD hS hA [3, 2, 0, 1] (by decide) rfl
    refine va_callv (va_runV (As := []) (rest := []) ⟨hx, hb, hml, hown, hts⟩ (e_remember l D cA sa w0 ed nb ol v0 v1 v2 v3 v4 v9 v13 v27 v28 v29 v30 v31 v32 v33 v34 v35 v36 v37 0 g11 g12 g14 g15 g16 g17 g18 g19 g20 g21 g22 g23 g24 g26 g5 g6 g25 cn pq en dy fs fh fl H.size hcn hpq hen hdy hri hed hHI hd9) (cwV 0 hts gX10_close_X10_remember rfl rfl rfl (by decide +kernel) ⟨(Nat.le_of_ble_eq_true rfl), (Nat.le_of_ble_eq_true rfl)⟩) ⟨Wd.blind, va_recv hK hPc (ci := 11) (q0 := 0) rfl rfl, fun U hU hW => ⟨rfl, Wd.call hPc hDc hK hC hZ hS hFc U hU hW⟩⟩ rfl rfl hl.1 rfl (lv_room (Nat.le_of_ble_eq_true rfl)) dX10_close_14 ⟨(Nat.le_of_ble_eq_true rfl), (Nat.le_of_ble_eq_true rfl)⟩) hS (fun q _ h => hFc q h) hFc (fun u t H1 locs ht hvm hw hB hz1 hk1 hS => ?_)
    obtain ⟨qn5, fn6, fn7, hn8, hn9, hn10, hP1, hD1⟩ := hB
    rw [ht] at hP1
    obtain ⟨hP, hD⟩ := PDq.join (w := [(oX10 w0 v0 v1 v2 v3 v4 g5 g6 (nI qn5) 0 v9 (nI nb) g11 g12 v13 g14 g15 g16 g17 g18 g19 g20 g21 g22 g23 g24 g25 g26 v27 v28 v29 v30 v31 v32 v33 v34 v35 v36 v37 (nI ol)), (v0, .inl (cA 0, 326, .inl fs)), (v3, .inl (cA 0, 3260, .inl fn6)), (v4, .inl (cA 1, 10, .inr (.inl fn7)))]) 0 hP hD [3, 2, 0, 1] [] rfl rfl (by decide) (by decide) hk1 hFc hP1 hD1 rfl
    generalize H1 = H at hP hS ⊢
    refine lv_aload_n hx hb dX10_close_17 rfl (lv_at hl 0 rfl) ?_
    refine va_get (D := D) (ci := 11) (v := .ref v0) (C := RX10) (T := TX10) (N := 39) hx hb hts inX10 hown hK hP 0 rfl rfl 0 (by decide) (hts (.fieldLink RX10 7 "EscrowDeskModel" "s" "[I") (by decide +kernel)) (fun _ h9 => h9) rfl dX10_close_18 ?_
    refine lv_bipush (v := 6) hx hb dX10_close_21 (by decide) ?_
    refine va_iald hx hb hK hP 1 0 rfl rfl (vp_in_iff.mpr (by decide)) dX10_close_23 ?_
    refine lv_topi (fun yn11 eyn11 => ?_)
    obtain rfl : yn11 = (rs 6) := eyn11.trans ((Ab.get hrs9 (j := 6) (by omega) (by omega)).trans rfl)
    refine lv_istore_n (lv' := [(1, .int (rs 6)), (0, .ref w0)]) hx hb dX10_close_24 rfl hl (by decide) rfl (fun ls hl => ?_)
    refine lv_aload_n hx hb dX10_close_25 rfl (lv_at hl 1 rfl) ?_
    refine lv_iload_n hx hb dX10_close_26 rfl (lv_at hl 0 rfl) ?_
    refine lv_iconst (v := (-1)) hx hb dX10_close_27 (by decide) ?_
    obtain ⟨hPc, hDc, hFc⟩ := PDq.cut (wc := [(oX10 w0 v0 v1 v2 v3 v4 g5 g6 (nI qn5) 0 v9 (nI nb) g11 g12 v13 g14 g15 g16 g17 g18 g19 g20 g21 g22 g23 g24 g25 g26 v27 v28 v29 v30 v31 v32 v33 v34 v35 v36 v37 (nI ol)), (v0, .inl (cA 0, 326, .inl fs))]) hP hD hS hA [0, 1] (by decide) rfl
    refine va_callv (va_runV (As := [.int (rs 6), .int (-1)]) (rest := []) ⟨hx, hb, hml, hown, hts⟩ (e_refund l D cA sa w0 qn5 nb ol v0 v1 v2 v3 v4 v9 v13 v27 v28 v29 v30 v31 v32 v33 v34 v35 v36 v37 0 g11 g12 g14 g15 g16 g17 g18 g19 g20 g21 g22 g23 g24 g26 g5 g6 g25 cn pq en dy fs rs (rs 6) (-1) H.size hrs9 hcn hpq hen hdy hri) (cwV 2 hts gX10_close_X10_refund rfl rfl rfl (by decide +kernel) ⟨(Nat.le_of_ble_eq_true rfl), (Nat.le_of_ble_eq_true rfl)⟩) ⟨Wd.blind, va_recv hK hPc (ci := 11) (q0 := 0) rfl rfl, fun U hU hW => ⟨rfl, Wd.call hPc hDc hK hC hZ hS hFc U hU hW⟩⟩ rfl rfl hl.1 rfl (lv_room (Nat.le_of_ble_eq_true rfl)) dX10_close_28 ⟨(Nat.le_of_ble_eq_true rfl), (Nat.le_of_ble_eq_true rfl)⟩) hS (fun q _ h => hFc q h) hFc (fun u t H1 locs ht hvm hw hB hz1 hk1 hS => ?_)
    obtain ⟨qn12, fn13, hn14, hn15, hn16, hn17, hP1, hD1⟩ := hB
    rw [ht] at hP1
    obtain ⟨hP, hD⟩ := PDq.join (w := [(v3, .inl (cA 0, 3260, .inl fn6)), (v4, .inl (cA 1, 10, .inr (.inl fn7))), (oX10 w0 v0 v1 v2 v3 v4 g5 g6 (nI qn5) 0 v9 (nI nb) g11 g12 v13 g14 g15 g16 g17 g18 g19 g20 g21 g22 g23 g24 g25 g26 v27 v28 v29 v30 v31 v32 v33 v34 v35 v36 v37 (nI ol)), (v0, .inl (cA 0, 326, .inl fn13))]) 2 hP hD [0, 1] [2, 3] rfl rfl (by decide) (by decide) hk1 hFc hP1 hD1 rfl
    generalize H1 = H at hP hS ⊢
    refine lv_iload_n hx hb dX10_close_31 rfl (lv_at hl 0 rfl) ?_
    obtain ⟨hP9, hD9⟩ := PDq.sub (ws' := [(oX10 w0 v0 v1 v2 v3 v4 g5 g6 (nI qn5) 0 v9 (nI nb) g11 g12 v13 g14 g15 g16 g17 g18 g19 g20 g21 g22 g23 g24 g25 g26 v27 v28 v29 v30 v31 v32 v33 v34 v35 v36 v37 (nI ol)), (v0, .inl (cA 0, 326, .inl fn13)), (v3, .inl (cA 0, 3260, .inl fn6)), (v4, .inl (cA 1, 10, .inr (.inl fn7)))]) hP hD [2, 3, 0, 1] (by decide) rfl
    refine W.widen (k := 0) (n := 0) (Nat.le_of_ble_eq_true rfl) (Nat.le_of_ble_eq_true rfl) ?_
    exact (W.iret (v := (rs 6)) hx hb hr (fun t ht hW => ⟨⟨(rs 6), (), rfl, trivial, qn5, qn12, 0, fn13, fn6, fn7, hn8, hn9, hn14, hn15, (by subst hrs; exact Or.inl ⟨hn2, hn10, hn16⟩), by rw [ht]; exact hP9, hD9⟩, hS.F ht⟩) hS.2.2 dX10_close_32)
  · skip
    subst hr9
    obtain ⟨hPc, hDc, hFc⟩ := PDq.cut (wc := [(oX10 w0 v0 v1 v2 v3 v4 g5 g6 (nI ed) g8 v9 (nI nb) g11 g12 v13 g14 g15 g16 g17 g18 g19 g20 g21 g22 g23 g24 g25 g26 v27 v28 v29 v30 v31 v32 v33 v34 v35 v36 v37 (nI ol))]) hP hD hS hA [2] (by decide) rfl
    refine va_calli (va_runV (As := [.int 0]) (rest := []) ⟨hx, hb, hml, hown, hts⟩ (r_good0 l D cA sa w0 ed nb ol v0 v1 v2 v3 v4 v9 v13 v27 v28 v29 v30 v31 v32 v33 v34 v35 v36 v37 g8 g11 g12 g14 g15 g16 g17 g18 g19 g20 g21 g22 g23 g24 g26 g5 g6 g25 H.size) (cwV 1 hts gX10_close_X10_good rfl rfl rfl (by decide +kernel) ⟨(Nat.le_of_ble_eq_true rfl), (Nat.le_of_ble_eq_true rfl)⟩) ⟨Wd.blind, va_recv hK hPc (ci := 11) (q0 := 0) rfl rfl, fun U hU hW => ⟨rfl, Wd.call hPc hDc hK hC hZ hS hFc U hU hW⟩⟩ rfl rfl hl.1 rfl (lv_room (Nat.le_of_ble_eq_true rfl)) dX10_close_5 ⟨(Nat.le_of_ble_eq_true rfl), (Nat.le_of_ble_eq_true rfl)⟩) hS (fun q _ h => hFc q h) hFc (fun rn18 u t H1 locs ht hvm hw hB hz1 hk1 hS => ?_)
    obtain ⟨hP1, hD1⟩ := hB
    rw [ht] at hP1
    obtain ⟨hP, hD⟩ := PDq.join (w := [(v3, .inl (cA 0, 3260, .inl fh)), (v4, .inl (cA 1, 10, .inr (.inl fl))), (v0, .inl (cA 0, 326, .inl fs)), (oX10 w0 v0 v1 v2 v3 v4 g5 g6 (nI ed) 1 v9 (nI nb) g11 g12 v13 g14 g15 g16 g17 g18 g19 g20 g21 g22 g23 g24 g25 g26 v27 v28 v29 v30 v31 v32 v33 v34 v35 v36 v37 (nI ol))]) 3 hP hD [2] [0, 1, 3] rfl rfl (by decide) (by decide) hk1 hFc hP1 hD1 rfl
    generalize H1 = H at hP hS ⊢
    obtain rfl : rn18 = 0 := hw
    refine lv_if_ne (tgt := 13) hx hb dX10_close_8 (by decide) (fun c9 => absurd c9 (by decide)) (fun c19 => ?_)
    refine lv_iconst (v := 0) hx hb dX10_close_11 (by decide) ?_
    obtain ⟨hP9, hD9⟩ := PDq.sub (ws' := [(oX10 w0 v0 v1 v2 v3 v4 g5 g6 (nI ed) 1 v9 (nI nb) g11 g12 v13 g14 g15 g16 g17 g18 g19 g20 g21 g22 g23 g24 g25 g26 v27 v28 v29 v30 v31 v32 v33 v34 v35 v36 v37 (nI ol)), (v0, .inl (cA 0, 326, .inl fs)), (v3, .inl (cA 0, 3260, .inl fh)), (v4, .inl (cA 1, 10, .inr (.inl fl)))]) hP hD [3, 2, 0, 1] (by decide) rfl
    refine W.widen (k := 0) (n := 0) (Nat.le_of_ble_eq_true rfl) (Nat.le_of_ble_eq_true rfl) ?_
    exact (W.iret (v := 0) hx hb hr (fun t ht hW => ⟨⟨0, (), rfl, trivial, ed, en, 1, fs, fh, fl, hed, hHI, hen, hri, (by subst hrs; exact Or.inr ⟨hn2, rfl, rfl, rfl, rfl⟩), by rw [ht]; exact hP9, hD9⟩, hS.F ht⟩) hS.2.2 dX10_close_12)

set_option maxHeartbeats 4000000 in
set_option maxRecDepth 100000 in
/-- reference, exactly: pass -/
theorem e_pass (l : Launch) (D : va_G) (cA : Nat → ClassId) (sa : Nat → Nat) (w0 : Nat) (ed : Nat) (nb : Nat) (ol : Nat) (v0 : Nat) (v1 : Nat) (v2 : Nat) (v3 : Nat) (v4 : Nat) (v9 : Nat) (v13 : Nat) (v27 : Nat) (v28 : Nat) (v29 : Nat) (v30 : Nat) (v31 : Nat) (v32 : Nat) (v33 : Nat) (v34 : Nat) (v35 : Nat) (v36 : Nat) (v37 : Nat) (g8 : Int32) (g11 : Int32) (g12 : Int32) (g14 : Int32) (g15 : Int32) (g16 : Int32) (g17 : Int32) (g18 : Int32) (g19 : Int32) (g20 : Int32) (g21 : Int32) (g22 : Int32) (g23 : Int32) (g24 : Int32) (g26 : Int32) (g5 : Int64) (g6 : Int64) (g25 : Int64) (cn : Nat) (pq : Nat) (en : Nat) (dy : Nat) (fs : Nat → Int32) (fh : Nat → Int32) (fl : Nat → Int64) (fc : Nat → Int32) (fq : Nat → Int32) (fk : Nat → Int32) (fo : Nat → Int32) (cq : Nat → Nat) (i : Int32) (sz : Nat) (hcn : cn ≤ 10) (hpq : pq ≤ 8) (hen : en ≤ 60) (hdy : dy ≤ 20000) (hri : RI cn pq en dy fs) (hed : ed ≤ 10) (hHI : HI cn pq ed fh) (hd9 : dy ≤ 9999) (hCQ : CQ cn fc cq) (hcq : Elq cn cq fq) (hbit : Bit 400 fk) (hord : Rng 10 10 fo) : Met l yX10_pass wsX10_pass ({ frames := 7, cells := 0, slots := 0, locals := 151 }) (va_Pc [.ref w0, .int i] (Wd D cA sa [(oX10 w0 v0 v1 v2 v3 v4 g5 g6 (nI ed) g8 v9 (nI nb) g11 g12 v13 g14 g15 g16 g17 g18 g19 g20 g21 g22 g23 g24 g25 g26 v27 v28 v29 v30 v31 v32 v33 v34 v35 v36 v37 (nI ol)), (v0, .inl (cA 0, 326, .inl fs)), (v3, .inl (cA 0, 3260, .inl fh)), (v4, .inl (cA 1, 10, .inr (.inl fl))), (v31, .inl (cA 0, 400, .inl fc)), (v33, .inl (cA 0, 11, .inl fq)), (v35, .inl (cA 4, 400, .inl fk)), (v36, .inl (cA 0, 10, .inl fo))] sz)) (va_Qi (fun (r : Int32) (_ : Unit) => True) (fun (_ : Unit) t => ∃ ed2 : Nat, ∃ e2 : Nat, ∃ zt : Int32, ∃ zs : Nat → Int32, ∃ zh : Nat → Int32, ∃ zl : Nat → Int64, ∃ d2 : Nat, ∃ zq : Int64, ∃ zk : Nat → Int32, ∃ zo : Nat → Int32, ed2 ≤ 10 ∧ HI cn pq ed2 zh ∧ e2 ≤ 60 ∧ RI cn pq e2 d2 zs ∧ Bit 400 zk ∧ Rng 10 10 zo ∧ d2 ≤ 9999 ∧ EdP i ed fh fl fc cq cn dy fs g5 ed2 zh zl zs zq ∧ Wq D (va_A [(oX10 w0 v0 v1 v2 v3 v4 g5 g6 (nI ed) g8 v9 (nI nb) g11 g12 v13 g14 g15 g16 g17 g18 g19 g20 g21 g22 g23 g24 g25 g26 v27 v28 v29 v30 v31 v32 v33 v34 v35 v36 v37 (nI ol)), (v0, .inl (cA 0, 326, .inl fs)), (v3, .inl (cA 0, 3260, .inl fh)), (v4, .inl (cA 1, 10, .inr (.inl fl))), (v31, .inl (cA 0, 400, .inl fc)), (v33, .inl (cA 0, 11, .inl fq)), (v35, .inl (cA 4, 400, .inl fk)), (v36, .inl (cA 0, 10, .inl fo))] sz) [(oX10 w0 v0 v1 v2 v3 v4 zq g6 (nI ed2) zt v9 (nI nb) g11 g12 v13 g14 g15 g16 g17 g18 g19 g20 g21 g22 g23 g24 g25 g26 v27 v28 v29 v30 v31 v32 v33 v34 v35 v36 v37 (nI ol)), (v0, .inl (cA 0, 326, .inl zs)), (v3, .inl (cA 0, 3260, .inl zh)), (v4, .inl (cA 1, 10, .inr (.inl zl))), (v31, .inl (cA 0, 400, .inl fc)), (v33, .inl (cA 0, 11, .inl fq)), (v35, .inl (cA 4, 400, .inl zk)), (v36, .inl (cA 0, 10, .inl zo))] t) (va_A [(oX10 w0 v0 v1 v2 v3 v4 g5 g6 (nI ed) g8 v9 (nI nb) g11 g12 v13 g14 g15 g16 g17 g18 g19 g20 g21 g22 g23 g24 g25 g26 v27 v28 v29 v30 v31 v32 v33 v34 v35 v36 v37 (nI ol)), (v0, .inl (cA 0, 326, .inl fs)), (v3, .inl (cA 0, 3260, .inl fh)), (v4, .inl (cA 1, 10, .inr (.inl fl))), (v31, .inl (cA 0, 400, .inl fc)), (v33, .inl (cA 0, 11, .inl fq)), (v35, .inl (cA 4, 400, .inl fk)), (v36, .inl (cA 0, 10, .inl fo))] sz)) 0 0 (va_A [(oX10 w0 v0 v1 v2 v3 v4 g5 g6 (nI ed) g8 v9 (nI nb) g11 g12 v13 g14 g15 g16 g17 g18 g19 g20 g21 g22 g23 g24 g25 g26 v27 v28 v29 v30 v31 v32 v33 v34 v35 v36 v37 (nI ol)), (v0, .inl (cA 0, 326, .inl fs)), (v3, .inl (cA 0, 3260, .inl fh)), (v4, .inl (cA 1, 10, .inr (.inl fl))), (v31, .inl (cA 0, 400, .inl fc)), (v33, .inl (cA 0, 11, .inl fq)), (v35, .inl (cA 4, 400, .inl fk)), (v36, .inl (cA 0, 10, .inl fo))] sz) := by
  refine Met.ofW (cc := cX10_pass) (maxL := 3) (ret := (some .int)) (by decide) rfl ?_
  intro p e s m args below meth c s₁ B hml hv
  obtain ⟨rfl, hsz, hP, hK, hD0, hC, hZ⟩ := hv
  have hx := B.exec
  have hb := B.bytes
  have hr := B.returns
  have hts := atoms_spec (ws := wsX10_pass) B.pre
  have hown : s.vm.findClass RX10 = some m.cls := findClass_of_methodNamed B.named
  have hlocks := B.notSynchronized
  subst hsz
  have hD := hD0.self (sz := s.heap.size)
  generalize hAe : va_A [(oX10 w0 v0 v1 v2 v3 v4 g5 g6 (nI ed) g8 v9 (nI nb) g11 g12 v13 g14 g15 g16 g17 g18 g19 g20 g21 g22 g23 g24 g25 g26 v27 v28 v29 v30 v31 v32 v33 v34 v35 v36 v37 (nI ol)), (v0, .inl (cA 0, 326, .inl fs)), (v3, .inl (cA 0, 3260, .inl fh)), (v4, .inl (cA 1, 10, .inr (.inl fl))), (v31, .inl (cA 0, 400, .inl fc)), (v33, .inl (cA 0, 11, .inl fq)), (v35, .inl (cA 4, 400, .inl fk)), (v36, .inl (cA 0, 10, .inl fo))] s.heap.size = A at hD hZ ⊢
  have hA : ∀ q : Nat, s.heap.size ≤ q → A q := fun q h => by rw [← hAe]; exact Or.inr h
  have hS : va_S A s.heap s.heap [] := va_S.rf
  have hP : va_P D vwCl [(oX10 w0 v0 v1 v2 v3 v4 g5 g6 (nI ed) g8 v9 (nI nb) g11 g12 v13 g14 g15 g16 g17 g18 g19 g20 g21 g22 g23 g24 g25 g26 v27 v28 v29 v30 v31 v32 v33 v34 v35 v36 v37 (nI ol)), (v0, .inl (cA 0, 326, .inl fs)), (v3, .inl (cA 0, 3260, .inl fh)), (v4, .inl (cA 1, 10, .inr (.inl fl))), (v31, .inl (cA 0, 400, .inl fc)), (v33, .inl (cA 0, 11, .inl fq)), (v35, .inl (cA 4, 400, .inl fk)), (v36, .inl (cA 0, 10, .inl fo))] s.heap := hP
  have hl := lv_entry ([.ref w0, .int i]) (n := 3) (Nat.le_of_ble_eq_true rfl)
  rw [lg_entry_eq]
  generalize (lg_sl ([.ref w0, .int i]) ++ List.replicate (3 - (lg_sl ([.ref w0, .int i])).length) Slot.unset).toArray = ls at hl ⊢
  have hl : lv_has ls 3 [(0, .ref w0), (1, .int i)] := hl
  have inX10 : ∀ w ∈ u_ws RX10 TX10 39, w ∈ wsX10_pass := by decide +kernel
  refine lv_aload_n hx hb dX10_pass_0 rfl (lv_at hl 0 rfl) ?_
  refine lv_iload_n hx hb dX10_pass_1 rfl (lv_at hl 1 rfl) ?_
  obtain ⟨hPc, hDc, hFc⟩ := PDq.cut (wc := []) hP hD hS hA [] (by decide) rfl
  refine va_calli (va_runS (As := [.int i]) (rest := [.ref w0]) ⟨hx, hb, hml, hown, hts⟩ (e_isTrial l D cA sa i s.heap.size) (va_cwS 1 hts gX10_pass_X10_isTrial rfl rfl rfl (by decide +kernel) ⟨(Nat.le_of_ble_eq_true rfl), (Nat.le_of_ble_eq_true rfl)⟩) ⟨Wd.blind, fun U hU hW => ⟨rfl, Wd.call hPc hDc hK hC hZ hS hFc U hU hW⟩⟩ rfl rfl hl.1 rfl (lv_room (Nat.le_of_ble_eq_true rfl)) dX10_pass_2 ⟨(Nat.le_of_ble_eq_true rfl), (Nat.le_of_ble_eq_true rfl)⟩) hS (fun q _ h => hFc q h) hFc (fun rn1 u t H1 locs ht hvm hw hB hz1 hk1 hS => ?_)
  obtain ⟨hP1, hD1⟩ := hB
  rw [ht] at hP1
  obtain ⟨hP, hD⟩ := PDq.join (w := [(oX10 w0 v0 v1 v2 v3 v4 g5 g6 (nI ed) g8 v9 (nI nb) g11 g12 v13 g14 g15 g16 g17 g18 g19 g20 g21 g22 g23 g24 g25 g26 v27 v28 v29 v30 v31 v32 v33 v34 v35 v36 v37 (nI ol)), (v0, .inl (cA 0, 326, .inl fs)), (v3, .inl (cA 0, 3260, .inl fh)), (v4, .inl (cA 1, 10, .inr (.inl fl))), (v31, .inl (cA 0, 400, .inl fc)), (v33, .inl (cA 0, 11, .inl fq)), (v35, .inl (cA 4, 400, .inl fk)), (v36, .inl (cA 0, 10, .inl fo))]) 8 hP hD [] [0, 1, 2, 3, 4, 5, 6, 7] rfl rfl (by decide) (by decide) hk1 hFc hP1 hD1 rfl
  generalize H1 = H at hP hS ⊢
  rcases hw with ⟨hr9, kn2, hn3, hn4⟩ | ⟨hr9, hn5⟩
  · skip
    subst hr9
    have hn3a := hn3.1
    have hn3b := hn3.2
    rw [hn4] at hl
    have hl : lv_has ls 3 [(0, .ref w0), (1, .int (nI kn2))] := hl
    refine lv_aload_n hx hb dX10_pass_5 rfl (lv_at hl 0 rfl) ?_
    refine va_get (D := D) (ci := 11) (v := .ref v0) (C := RX10) (T := TX10) (N := 39) hx hb hts inX10 hown hK hP 0 rfl rfl 0 (by decide) (hts (.fieldLink RX10 7 "EscrowDeskModel" "s" "[I") (by decide +kernel)) (fun _ h9 => h9) rfl dX10_pass_6 ?_
    refine lv_iconst (v := 4) hx hb dX10_pass_9 (by decide) ?_
    refine va_iald hx hb hK hP 1 0 rfl rfl (vp_in_iff.mpr (by decide)) dX10_pass_10 ?_
    refine lv_topi (fun yn6 eyn6 => ?_)
    obtain rfl : yn6 = (nI dy) := eyn6.trans hri.2.2.2.1
    refine lv_iload_n hx hb dX10_pass_11 rfl (lv_at hl 1 rfl) ?_
    refine lv_iadd hx hb dX10_pass_12 ?_
    refine lv_topi (fun yn7 eyn7 => ?_)
    obtain rfl : yn7 = (nI (dy + kn2)) := eyn7.trans (nI_add dy kn2)
    refine lv_sipush (v := 9999) hx hb dX10_pass_13 (by decide) ?_
    refine lv_icmp_gt (tgt := 23) hx hb dX10_pass_16 (by decide) (fun c8 => ?_) (fun c8 => ?_)
    · skip
      have hn9 : 9999 < (dy + kn2) := (nI_ltI (a := 9999) (b := (dy + kn2)) (by omega) (by omega)).mp c8
      refine lv_iconst (v := 0) hx hb dX10_pass_23 (by decide) ?_
      obtain ⟨hPc, hDc, hFc⟩ := PDq.cut (wc := [(oX10 w0 v0 v1 v2 v3 v4 g5 g6 (nI ed) g8 v9 (nI nb) g11 g12 v13 g14 g15 g16 g17 g18 g19 g20 g21 g22 g23 g24 g25 g26 v27 v28 v29 v30 v31 v32 v33 v34 v35 v36 v37 (nI ol))]) hP hD hS hA [0] (by decide) rfl
      refine va_calli (va_runV (As := [.int 1, .int 0]) (rest := []) ⟨hx, hb, hml, hown, hts⟩ (r_good_10 l D cA sa w0 ed nb ol v0 v1 v2 v3 v4 v9 v13 v27 v28 v29 v30 v31 v32 v33 v34 v35 v36 v37 g8 g11 g12 g14 g15 g16 g17 g18 g19 g20 g21 g22 g23 g24 g26 g5 g6 g25 H.size) (cwV 2 hts gX10_pass_X10_good_ rfl rfl rfl (by decide +kernel) ⟨(Nat.le_of_ble_eq_true rfl), (Nat.le_of_ble_eq_true rfl)⟩) ⟨Wd.blind, va_recv hK hPc (ci := 11) (q0 := 0) rfl rfl, fun U hU hW => ⟨rfl, Wd.call hPc hDc hK hC hZ hS hFc U hU hW⟩⟩ rfl rfl hl.1 rfl (lv_room (Nat.le_of_ble_eq_true rfl)) dX10_pass_24 ⟨(Nat.le_of_ble_eq_true rfl), (Nat.le_of_ble_eq_true rfl)⟩) hS (fun q _ h => hFc q h) hFc (fun rn10 u t H1 locs ht hvm hw hB hz1 hk1 hS => ?_)
      obtain ⟨hP1, hD1⟩ := hB
      rw [ht] at hP1
      obtain ⟨hP, hD⟩ := PDq.join (w := [(v0, .inl (cA 0, 326, .inl fs)), (v3, .inl (cA 0, 3260, .inl fh)), (v4, .inl (cA 1, 10, .inr (.inl fl))), (v31, .inl (cA 0, 400, .inl fc)), (v33, .inl (cA 0, 11, .inl fq)), (v35, .inl (cA 4, 400, .inl fk)), (v36, .inl (cA 0, 10, .inl fo)), (oX10 w0 v0 v1 v2 v3 v4 g5 g6 (nI ed) 2 v9 (nI nb) g11 g12 v13 g14 g15 g16 g17 g18 g19 g20 g21 g22 g23 g24 g25 g26 v27 v28 v29 v30 v31 v32 v33 v34 v35 v36 v37 (nI ol))]) 7 hP hD [0] [1, 2, 3, 4, 5, 6, 7] rfl rfl (by decide) (by decide) hk1 hFc hP1 hD1 rfl
      generalize H1 = H at hP hS ⊢
      obtain rfl : rn10 = 0 := hw
      refine lv_if_ne (tgt := 32) hx hb dX10_pass_27 (by decide) (fun c9 => absurd c9 (by decide)) (fun c11 => ?_)
      refine lv_iconst (v := 0) hx hb dX10_pass_30 (by decide) ?_
      obtain ⟨hP9, hD9⟩ := PDq.sub (ws' := [(oX10 w0 v0 v1 v2 v3 v4 g5 g6 (nI ed) 2 v9 (nI nb) g11 g12 v13 g14 g15 g16 g17 g18 g19 g20 g21 g22 g23 g24 g25 g26 v27 v28 v29 v30 v31 v32 v33 v34 v35 v36 v37 (nI ol)), (v0, .inl (cA 0, 326, .inl fs)), (v3, .inl (cA 0, 3260, .inl fh)), (v4, .inl (cA 1, 10, .inr (.inl fl))), (v31, .inl (cA 0, 400, .inl fc)), (v33, .inl (cA 0, 11, .inl fq)), (v35, .inl (cA 4, 400, .inl fk)), (v36, .inl (cA 0, 10, .inl fo))]) hP hD [7, 0, 1, 2, 3, 4, 5, 6] (by decide) rfl
      refine W.widen (k := 0) (n := 0) (Nat.le_of_ble_eq_true rfl) (Nat.le_of_ble_eq_true rfl) ?_
      exact (W.iret (v := 0) hx hb hr (fun t ht hW => ⟨⟨0, (), rfl, trivial, ed, en, 2, fs, fh, fl, dy, g5, fk, fo, hed, hHI, hen, hri, hbit, hord, hd9, (Or.inr ⟨fun ⟨k9, q8, q9, q7⟩ => by have q6 := nI_ij (hn4.symm.trans q9) (by omega) (by omega); subst q6; omega, rfl, rfl, rfl, rfl, rfl⟩), by rw [ht]; exact hP9, hD9⟩, hS.F ht⟩) hS.2.2 dX10_pass_31)
    · skip
      have hn12 : (dy + kn2) ≤ 9999 := Nat.le_of_not_lt (fun h9 => c8 (nI_lt (a := 9999) (b := (dy + kn2)) h9 (by omega)))
      refine lv_iconst (v := 1) hx hb dX10_pass_19 (by decide) ?_
      refine lv_goto (tgt := 24) hx hb dX10_pass_20 (by decide) ?_
      obtain ⟨hPc, hDc, hFc⟩ := PDq.cut (wc := [(oX10 w0 v0 v1 v2 v3 v4 g5 g6 (nI ed) g8 v9 (nI nb) g11 g12 v13 g14 g15 g16 g17 g18 g19 g20 g21 g22 g23 g24 g25 g26 v27 v28 v29 v30 v31 v32 v33 v34 v35 v36 v37 (nI ol))]) hP hD hS hA [0] (by decide) rfl
      refine va_calli (va_runV (As := [.int 1, .int 1]) (rest := []) ⟨hx, hb, hml, hown, hts⟩ (r_good_11 l D cA sa w0 ed nb ol v0 v1 v2 v3 v4 v9 v13 v27 v28 v29 v30 v31 v32 v33 v34 v35 v36 v37 g8 g11 g12 g14 g15 g16 g17 g18 g19 g20 g21 g22 g23 g24 g26 g5 g6 g25 H.size) (cwV 2 hts gX10_pass_X10_good_ rfl rfl rfl (by decide +kernel) ⟨(Nat.le_of_ble_eq_true rfl), (Nat.le_of_ble_eq_true rfl)⟩) ⟨Wd.blind, va_recv hK hPc (ci := 11) (q0 := 0) rfl rfl, fun U hU hW => ⟨rfl, Wd.call hPc hDc hK hC hZ hS hFc U hU hW⟩⟩ rfl rfl hl.1 rfl (lv_room (Nat.le_of_ble_eq_true rfl)) dX10_pass_24 ⟨(Nat.le_of_ble_eq_true rfl), (Nat.le_of_ble_eq_true rfl)⟩) hS (fun q _ h => hFc q h) hFc (fun rn13 u t H1 locs ht hvm hw hB hz1 hk1 hS => ?_)
      obtain ⟨hP1, hD1⟩ := hB
      rw [ht] at hP1
      obtain ⟨hP, hD⟩ := PDq.join (w := [(v0, .inl (cA 0, 326, .inl fs)), (v3, .inl (cA 0, 3260, .inl fh)), (v4, .inl (cA 1, 10, .inr (.inl fl))), (v31, .inl (cA 0, 400, .inl fc)), (v33, .inl (cA 0, 11, .inl fq)), (v35, .inl (cA 4, 400, .inl fk)), (v36, .inl (cA 0, 10, .inl fo)), (oX10 w0 v0 v1 v2 v3 v4 g5 g6 (nI ed) 0 v9 (nI nb) g11 g12 v13 g14 g15 g16 g17 g18 g19 g20 g21 g22 g23 g24 g25 g26 v27 v28 v29 v30 v31 v32 v33 v34 v35 v36 v37 (nI ol))]) 7 hP hD [0] [1, 2, 3, 4, 5, 6, 7] rfl rfl (by decide) (by decide) hk1 hFc hP1 hD1 rfl
      generalize H1 = H at hP hS ⊢
      obtain rfl : rn13 = 1 := hw
      refine lv_if_ne (tgt := 32) hx hb dX10_pass_27 (by decide) (fun c14 => ?_) (fun c9 => absurd c9 (by decide))
      refine lv_aload_n hx hb dX10_pass_32 rfl (lv_at hl 0 rfl) ?_
      obtain ⟨hPc, hDc, hFc⟩ := PDq.cut (wc := [(oX10 w0 v0 v1 v2 v3 v4 g5 g6 (nI ed) 0 v9 (nI nb) g11 g12 v13 g14 g15 g16 g17 g18 g19 g20 g21 g22 g23 g24 g25 g26 v27 v28 v29 v30 v31 v32 v33 v34 v35 v36 v37 (nI ol)), (v0, .inl (cA 0, 326, .inl fs)), (v3, .inl (cA 0, 3260, .inl fh)), (v4, .inl (cA 1, 10, .inr (.inl fl)))]) hP hD hS hA [7, 0, 1, 2] (by decide) rfl
      refine va_callv (va_runV (As := []) (rest := []) ⟨hx, hb, hml, hown, hts⟩ (e_remember l D cA sa w0 ed nb ol v0 v1 v2 v3 v4 v9 v13 v27 v28 v29 v30 v31 v32 v33 v34 v35 v36 v37 0 g11 g12 g14 g15 g16 g17 g18 g19 g20 g21 g22 g23 g24 g26 g5 g6 g25 cn pq en dy fs fh fl H.size hcn hpq hen hdy hri hed hHI hd9) (cwV 0 hts gX10_pass_X10_remember rfl rfl rfl (by decide +kernel) ⟨(Nat.le_of_ble_eq_true rfl), (Nat.le_of_ble_eq_true rfl)⟩) ⟨Wd.blind, va_recv hK hPc (ci := 11) (q0 := 0) rfl rfl, fun U hU hW => ⟨rfl, Wd.call hPc hDc hK hC hZ hS hFc U hU hW⟩⟩ rfl rfl hl.1 rfl (lv_room (Nat.le_of_ble_eq_true rfl)) dX10_pass_33 ⟨(Nat.le_of_ble_eq_true rfl), (Nat.le_of_ble_eq_true rfl)⟩) hS (fun q _ h => hFc q h) hFc (fun u t H1 locs ht hvm hw hB hz1 hk1 hS => ?_)
      obtain ⟨qn15, fn16, fn17, hn18, hn19, hn20, hP1, hD1⟩ := hB
      rw [ht] at hP1
      obtain ⟨hP, hD⟩ := PDq.join (w := [(v31, .inl (cA 0, 400, .inl fc)), (v33, .inl (cA 0, 11, .inl fq)), (v35, .inl (cA 4, 400, .inl fk)), (v36, .inl (cA 0, 10, .inl fo)), (oX10 w0 v0 v1 v2 v3 v4 g5 g6 (nI qn15) 0 v9 (nI nb) g11 g12 v13 g14 g15 g16 g17 g18 g19 g20 g21 g22 g23 g24 g25 g26 v27 v28 v29 v30 v31 v32 v33 v34 v35 v36 v37 (nI ol)), (v0, .inl (cA 0, 326, .inl fs)), (v3, .inl (cA 0, 3260, .inl fn16)), (v4, .inl (cA 1, 10, .inr (.inl fn17)))]) 4 hP hD [7, 0, 1, 2] [3, 4, 5, 6] rfl rfl (by decide) (by decide) hk1 hFc hP1 hD1 rfl
      generalize H1 = H at hP hS ⊢
      refine lv_aload_n hx hb dX10_pass_36 rfl (lv_at hl 0 rfl) ?_
      refine va_get (D := D) (ci := 11) (v := .ref v0) (C := RX10) (T := TX10) (N := 39) hx hb hts inX10 hown hK hP 4 rfl rfl 0 (by decide) (hts (.fieldLink RX10 7 "EscrowDeskModel" "s" "[I") (by decide +kernel)) (fun _ h9 => h9) rfl dX10_pass_37 ?_
      refine lv_bipush (v := 10) hx hb dX10_pass_40 (by decide) ?_
      refine va_iald hx hb hK hP 5 0 rfl rfl (vp_in_iff.mpr (by decide)) dX10_pass_42 ?_
      refine lv_topi (fun yn21 eyn21 => ?_)
      refine lv_istore_n (lv' := [(2, .int yn21), (0, .ref w0), (1, .int (nI kn2))]) hx hb dX10_pass_43 rfl hl (by decide) rfl (fun ls hl => ?_)
      refine lv_aload_n hx hb dX10_pass_44 rfl (lv_at hl 1 rfl) ?_
      refine lv_iload_n hx hb dX10_pass_45 rfl (lv_at hl 2 rfl) ?_
      obtain ⟨hPc, hDc, hFc⟩ := PDq.cut (wc := [(oX10 w0 v0 v1 v2 v3 v4 g5 g6 (nI qn15) 0 v9 (nI nb) g11 g12 v13 g14 g15 g16 g17 g18 g19 g20 g21 g22 g23 g24 g25 g26 v27 v28 v29 v30 v31 v32 v33 v34 v35 v36 v37 (nI ol)), (v0, .inl (cA 0, 326, .inl fs)), (v31, .inl (cA 0, 400, .inl fc)), (v33, .inl (cA 0, 11, .inl fq)), (v35, .inl (cA 4, 400, .inl fk)), (v36, .inl (cA 0, 10, .inl fo))]) hP hD hS hA [4, 5, 0, 1, 2, 3] (by decide) rfl
      refine va_callv (va_runV (As := [.int (nI kn2)]) (rest := []) ⟨hx, hb, hml, hown, hts⟩ (e_passDays l D cA sa w0 qn15 nb ol v0 v1 v2 v3 v4 v9 v13 v27 v28 v29 v30 v31 v32 v33 v34 v35 v36 v37 0 g11 g12 g14 g15 g16 g17 g18 g19 g20 g21 g22 g23 g24 g26 g5 g6 g25 cn pq en dy fs fc fq fk cq fo kn2 H.size hcn hpq hen hdy hri hCQ hcq hbit hord hn3b (by omega)) (cwV 1 hts gX10_pass_X10_passDays rfl rfl rfl (by decide +kernel) ⟨(Nat.le_of_ble_eq_true rfl), (Nat.le_of_ble_eq_true rfl)⟩) ⟨Wd.blind, va_recv hK hPc (ci := 11) (q0 := 0) rfl rfl, fun U hU hW => ⟨rfl, Wd.call hPc hDc hK hC hZ hS hFc U hU hW⟩⟩ rfl rfl hl.1 rfl (lv_room (Nat.le_of_ble_eq_true rfl)) dX10_pass_46 ⟨(Nat.le_of_ble_eq_true rfl), (Nat.le_of_ble_eq_true rfl)⟩) hS (fun q _ h => hFc q h) hFc (fun u t H1 locs ht hvm hw hB hz1 hk1 hS => ?_)
      obtain ⟨qn22, qn23, zn24, fn25, fn26, fn27, hn28, hn29, hn30, hn31, hn32, hn33, hP1, hD1⟩ := hB
      rw [ht] at hP1
      obtain ⟨hP, hD⟩ := PDq.join (w := [(v3, .inl (cA 0, 3260, .inl fn16)), (v4, .inl (cA 1, 10, .inr (.inl fn17))), (oX10 w0 v0 v1 v2 v3 v4 zn24 g6 (nI qn15) 0 v9 (nI nb) g11 g12 v13 g14 g15 g16 g17 g18 g19 g20 g21 g22 g23 g24 g25 g26 v27 v28 v29 v30 v31 v32 v33 v34 v35 v36 v37 (nI ol)), (v0, .inl (cA 0, 326, .inl fn25)), (v31, .inl (cA 0, 400, .inl fc)), (v33, .inl (cA 0, 11, .inl fq)), (v35, .inl (cA 4, 400, .inl fn26)), (v36, .inl (cA 0, 10, .inl fn27))]) 2 hP hD [4, 5, 0, 1, 2, 3] [6, 7] rfl rfl (by decide) (by decide) hk1 hFc hP1 hD1 rfl
      generalize H1 = H at hP hS ⊢
      refine lv_aload_n hx hb dX10_pass_49 rfl (lv_at hl 1 rfl) ?_
      refine va_get (D := D) (ci := 11) (v := .ref v0) (C := RX10) (T := TX10) (N := 39) hx hb hts inX10 hown hK hP 2 rfl rfl 0 (by decide) (hts (.fieldLink RX10 7 "EscrowDeskModel" "s" "[I") (by decide +kernel)) (fun _ h9 => h9) rfl dX10_pass_50 ?_
      refine lv_bipush (v := 10) hx hb dX10_pass_53 (by decide) ?_
      refine va_iald hx hb hK hP 3 0 rfl rfl (vp_in_iff.mpr (by decide)) dX10_pass_55 ?_
      refine lv_topi (fun yn34 eyn34 => ?_)
      refine lv_iload_n hx hb dX10_pass_56 rfl (lv_at hl 0 rfl) ?_
      refine lv_isub hx hb dX10_pass_57 ?_
      refine lv_topi (fun yn35 eyn35 => ?_)
      obtain rfl : yn35 = (yn34 - yn21) := eyn35
      obtain ⟨hP9, hD9⟩ := PDq.sub (ws' := [(oX10 w0 v0 v1 v2 v3 v4 zn24 g6 (nI qn15) 0 v9 (nI nb) g11 g12 v13 g14 g15 g16 g17 g18 g19 g20 g21 g22 g23 g24 g25 g26 v27 v28 v29 v30 v31 v32 v33 v34 v35 v36 v37 (nI ol)), (v0, .inl (cA 0, 326, .inl fn25)), (v3, .inl (cA 0, 3260, .inl fn16)), (v4, .inl (cA 1, 10, .inr (.inl fn17))), (v31, .inl (cA 0, 400, .inl fc)), (v33, .inl (cA 0, 11, .inl fq)), (v35, .inl (cA 4, 400, .inl fn26)), (v36, .inl (cA 0, 10, .inl fn27))]) hP hD [2, 3, 0, 1, 4, 5, 6, 7] (by decide) rfl
      refine W.widen (k := 0) (n := 0) (Nat.le_of_ble_eq_true rfl) (Nat.le_of_ble_eq_true rfl) ?_
      exact (W.iret (v := (yn34 - yn21)) hx hb hr (fun t ht hW => ⟨⟨(yn34 - yn21), (), rfl, trivial, qn15, qn22, 0, fn25, fn16, fn17, qn23, zn24, fn26, fn27, hn18, hn19, hn28, hn29, hn30, hn31, (by omega), (Or.inl ⟨kn2, hn3, hn4, by omega, hn20, hn33⟩), by rw [ht]; exact hP9, hD9⟩, hS.F ht⟩) hS.2.2 dX10_pass_58)
  · skip
    subst hr9
    refine lv_aload_n hx hb dX10_pass_5 rfl (lv_at hl 0 rfl) ?_
    refine va_get (D := D) (ci := 11) (v := .ref v0) (C := RX10) (T := TX10) (N := 39) hx hb hts inX10 hown hK hP 0 rfl rfl 0 (by decide) (hts (.fieldLink RX10 7 "EscrowDeskModel" "s" "[I") (by decide +kernel)) (fun _ h9 => h9) rfl dX10_pass_6 ?_
    refine lv_iconst (v := 4) hx hb dX10_pass_9 (by decide) ?_
    refine va_iald hx hb hK hP 1 0 rfl rfl (vp_in_iff.mpr (by decide)) dX10_pass_10 ?_
    refine lv_topi (fun yn36 eyn36 => ?_)
    obtain rfl : yn36 = (nI dy) := eyn36.trans hri.2.2.2.1
    refine lv_iload_n hx hb dX10_pass_11 rfl (lv_at hl 1 rfl) ?_
    refine lv_iadd hx hb dX10_pass_12 ?_
    refine lv_topi (fun yn37 eyn37 => ?_)
    obtain rfl : yn37 = ((nI dy) + i) := eyn37
    refine lv_sipush (v := 9999) hx hb dX10_pass_13 (by decide) ?_
    refine lv_icmp_gt (tgt := 23) hx hb dX10_pass_16 (by decide) (fun c38 => ?_) (fun c38 => ?_)
    · skip
      refine lv_iconst (v := 0) hx hb dX10_pass_23 (by decide) ?_
      obtain ⟨hPc, hDc, hFc⟩ := PDq.cut (wc := [(oX10 w0 v0 v1 v2 v3 v4 g5 g6 (nI ed) g8 v9 (nI nb) g11 g12 v13 g14 g15 g16 g17 g18 g19 g20 g21 g22 g23 g24 g25 g26 v27 v28 v29 v30 v31 v32 v33 v34 v35 v36 v37 (nI ol))]) hP hD hS hA [0] (by decide) rfl
      refine va_calli (va_runV (As := [.int 0, .int 0]) (rest := []) ⟨hx, hb, hml, hown, hts⟩ (r_good_00 l D cA sa w0 ed nb ol v0 v1 v2 v3 v4 v9 v13 v27 v28 v29 v30 v31 v32 v33 v34 v35 v36 v37 g8 g11 g12 g14 g15 g16 g17 g18 g19 g20 g21 g22 g23 g24 g26 g5 g6 g25 H.size) (cwV 2 hts gX10_pass_X10_good_ rfl rfl rfl (by decide +kernel) ⟨(Nat.le_of_ble_eq_true rfl), (Nat.le_of_ble_eq_true rfl)⟩) ⟨Wd.blind, va_recv hK hPc (ci := 11) (q0 := 0) rfl rfl, fun U hU hW => ⟨rfl, Wd.call hPc hDc hK hC hZ hS hFc U hU hW⟩⟩ rfl rfl hl.1 rfl (lv_room (Nat.le_of_ble_eq_true rfl)) dX10_pass_24 ⟨(Nat.le_of_ble_eq_true rfl), (Nat.le_of_ble_eq_true rfl)⟩) hS (fun q _ h => hFc q h) hFc (fun rn39 u t H1 locs ht hvm hw hB hz1 hk1 hS => ?_)
      obtain ⟨hP1, hD1⟩ := hB
      rw [ht] at hP1
      obtain ⟨hP, hD⟩ := PDq.join (w := [(v0, .inl (cA 0, 326, .inl fs)), (v3, .inl (cA 0, 3260, .inl fh)), (v4, .inl (cA 1, 10, .inr (.inl fl))), (v31, .inl (cA 0, 400, .inl fc)), (v33, .inl (cA 0, 11, .inl fq)), (v35, .inl (cA 4, 400, .inl fk)), (v36, .inl (cA 0, 10, .inl fo)), (oX10 w0 v0 v1 v2 v3 v4 g5 g6 (nI ed) 1 v9 (nI nb) g11 g12 v13 g14 g15 g16 g17 g18 g19 g20 g21 g22 g23 g24 g25 g26 v27 v28 v29 v30 v31 v32 v33 v34 v35 v36 v37 (nI ol))]) 7 hP hD [0] [1, 2, 3, 4, 5, 6, 7] rfl rfl (by decide) (by decide) hk1 hFc hP1 hD1 rfl
      generalize H1 = H at hP hS ⊢
      obtain rfl : rn39 = 0 := hw
      refine lv_if_ne (tgt := 32) hx hb dX10_pass_27 (by decide) (fun c9 => absurd c9 (by decide)) (fun c40 => ?_)
      refine lv_iconst (v := 0) hx hb dX10_pass_30 (by decide) ?_
      obtain ⟨hP9, hD9⟩ := PDq.sub (ws' := [(oX10 w0 v0 v1 v2 v3 v4 g5 g6 (nI ed) 1 v9 (nI nb) g11 g12 v13 g14 g15 g16 g17 g18 g19 g20 g21 g22 g23 g24 g25 g26 v27 v28 v29 v30 v31 v32 v33 v34 v35 v36 v37 (nI ol)), (v0, .inl (cA 0, 326, .inl fs)), (v3, .inl (cA 0, 3260, .inl fh)), (v4, .inl (cA 1, 10, .inr (.inl fl))), (v31, .inl (cA 0, 400, .inl fc)), (v33, .inl (cA 0, 11, .inl fq)), (v35, .inl (cA 4, 400, .inl fk)), (v36, .inl (cA 0, 10, .inl fo))]) hP hD [7, 0, 1, 2, 3, 4, 5, 6] (by decide) rfl
      refine W.widen (k := 0) (n := 0) (Nat.le_of_ble_eq_true rfl) (Nat.le_of_ble_eq_true rfl) ?_
      exact (W.iret (v := 0) hx hb hr (fun t ht hW => ⟨⟨0, (), rfl, trivial, ed, en, 1, fs, fh, fl, dy, g5, fk, fo, hed, hHI, hen, hri, hbit, hord, hd9, (Or.inr ⟨fun ⟨k9, q8, q9, _⟩ => hn5 ⟨k9, q8, q9⟩, rfl, rfl, rfl, rfl, rfl⟩), by rw [ht]; exact hP9, hD9⟩, hS.F ht⟩) hS.2.2 dX10_pass_31)
    · skip
      refine lv_iconst (v := 1) hx hb dX10_pass_19 (by decide) ?_
      refine lv_goto (tgt := 24) hx hb dX10_pass_20 (by decide) ?_
      obtain ⟨hPc, hDc, hFc⟩ := PDq.cut (wc := [(oX10 w0 v0 v1 v2 v3 v4 g5 g6 (nI ed) g8 v9 (nI nb) g11 g12 v13 g14 g15 g16 g17 g18 g19 g20 g21 g22 g23 g24 g25 g26 v27 v28 v29 v30 v31 v32 v33 v34 v35 v36 v37 (nI ol))]) hP hD hS hA [0] (by decide) rfl
      refine va_calli (va_runV (As := [.int 0, .int 1]) (rest := []) ⟨hx, hb, hml, hown, hts⟩ (r_good_01 l D cA sa w0 ed nb ol v0 v1 v2 v3 v4 v9 v13 v27 v28 v29 v30 v31 v32 v33 v34 v35 v36 v37 g8 g11 g12 g14 g15 g16 g17 g18 g19 g20 g21 g22 g23 g24 g26 g5 g6 g25 H.size) (cwV 2 hts gX10_pass_X10_good_ rfl rfl rfl (by decide +kernel) ⟨(Nat.le_of_ble_eq_true rfl), (Nat.le_of_ble_eq_true rfl)⟩) ⟨Wd.blind, va_recv hK hPc (ci := 11) (q0 := 0) rfl rfl, fun U hU hW => ⟨rfl, Wd.call hPc hDc hK hC hZ hS hFc U hU hW⟩⟩ rfl rfl hl.1 rfl (lv_room (Nat.le_of_ble_eq_true rfl)) dX10_pass_24 ⟨(Nat.le_of_ble_eq_true rfl), (Nat.le_of_ble_eq_true rfl)⟩) hS (fun q _ h => hFc q h) hFc (fun rn41 u t H1 locs ht hvm hw hB hz1 hk1 hS => ?_)
      obtain ⟨hP1, hD1⟩ := hB
      rw [ht] at hP1
      obtain ⟨hP, hD⟩ := PDq.join (w := [(v0, .inl (cA 0, 326, .inl fs)), (v3, .inl (cA 0, 3260, .inl fh)), (v4, .inl (cA 1, 10, .inr (.inl fl))), (v31, .inl (cA 0, 400, .inl fc)), (v33, .inl (cA 0, 11, .inl fq)), (v35, .inl (cA 4, 400, .inl fk)), (v36, .inl (cA 0, 10, .inl fo)), (oX10 w0 v0 v1 v2 v3 v4 g5 g6 (nI ed) 1 v9 (nI nb) g11 g12 v13 g14 g15 g16 g17 g18 g19 g20 g21 g22 g23 g24 g25 g26 v27 v28 v29 v30 v31 v32 v33 v34 v35 v36 v37 (nI ol))]) 7 hP hD [0] [1, 2, 3, 4, 5, 6, 7] rfl rfl (by decide) (by decide) hk1 hFc hP1 hD1 rfl
      generalize H1 = H at hP hS ⊢
      obtain rfl : rn41 = 0 := hw
      refine lv_if_ne (tgt := 32) hx hb dX10_pass_27 (by decide) (fun c9 => absurd c9 (by decide)) (fun c42 => ?_)
      refine lv_iconst (v := 0) hx hb dX10_pass_30 (by decide) ?_
      obtain ⟨hP9, hD9⟩ := PDq.sub (ws' := [(oX10 w0 v0 v1 v2 v3 v4 g5 g6 (nI ed) 1 v9 (nI nb) g11 g12 v13 g14 g15 g16 g17 g18 g19 g20 g21 g22 g23 g24 g25 g26 v27 v28 v29 v30 v31 v32 v33 v34 v35 v36 v37 (nI ol)), (v0, .inl (cA 0, 326, .inl fs)), (v3, .inl (cA 0, 3260, .inl fh)), (v4, .inl (cA 1, 10, .inr (.inl fl))), (v31, .inl (cA 0, 400, .inl fc)), (v33, .inl (cA 0, 11, .inl fq)), (v35, .inl (cA 4, 400, .inl fk)), (v36, .inl (cA 0, 10, .inl fo))]) hP hD [7, 0, 1, 2, 3, 4, 5, 6] (by decide) rfl
      refine W.widen (k := 0) (n := 0) (Nat.le_of_ble_eq_true rfl) (Nat.le_of_ble_eq_true rfl) ?_
      exact (W.iret (v := 0) hx hb hr (fun t ht hW => ⟨⟨0, (), rfl, trivial, ed, en, 1, fs, fh, fl, dy, g5, fk, fo, hed, hHI, hen, hri, hbit, hord, hd9, (Or.inr ⟨fun ⟨k9, q8, q9, _⟩ => hn5 ⟨k9, q8, q9⟩, rfl, rfl, rfl, rfl, rfl⟩), by rw [ht]; exact hP9, hD9⟩, hS.F ht⟩) hS.2.2 dX10_pass_31)

set_option maxHeartbeats 4000000 in
set_option maxRecDepth 100000 in
/-- reference, exactly: beginTrial -/
theorem e_beginTrial (l : Launch) (D : va_G) (cA : Nat → ClassId) (sa : Nat → Nat) (w0 : Nat) (ed : Nat) (nb : Nat) (ol : Nat) (v0 : Nat) (v1 : Nat) (v2 : Nat) (v3 : Nat) (v4 : Nat) (v9 : Nat) (v13 : Nat) (v27 : Nat) (v28 : Nat) (v29 : Nat) (v30 : Nat) (v31 : Nat) (v32 : Nat) (v33 : Nat) (v34 : Nat) (v35 : Nat) (v36 : Nat) (v37 : Nat) (g8 : Int32) (g11 : Int32) (g12 : Int32) (g14 : Int32) (g15 : Int32) (g16 : Int32) (g17 : Int32) (g18 : Int32) (g19 : Int32) (g20 : Int32) (g21 : Int32) (g22 : Int32) (g23 : Int32) (g24 : Int32) (g26 : Int32) (g5 : Int64) (g6 : Int64) (g25 : Int64) (cn : Nat) (pq : Nat) (en : Nat) (dy : Nat) (fs : Nat → Int32) (fa : Nat → Int32) (sz : Nat) (hcn : cn ≤ 10) (hpq : pq ≤ 8) (hen : en ≤ 60) (hdy : dy ≤ 20000) (hri : RI cn pq en dy fs) : Met l yX10_beginTrial wsX10_beginTrial ({ frames := 1, cells := 0, slots := 0, locals := 22 }) (va_Pc [.ref w0] (Wd D cA sa [(oX10 w0 v0 v1 v2 v3 v4 g5 g6 (nI ed) g8 v9 (nI nb) g11 g12 v13 g14 g15 g16 g17 g18 g19 g20 g21 g22 g23 g24 g25 g26 v27 v28 v29 v30 v31 v32 v33 v34 v35 v36 v37 (nI ol)), (v0, .inl (cA 0, 326, .inl fs)), (v2, .inl (cA 0, 326, .inl fa))] sz)) (va_Qv (fun _ : Unit => True) (fun (_ : Unit) t => ∃ za : Nat → Int32, RI cn pq en dy za ∧ Cp 326 fs za ∧ Wq D (va_A [(oX10 w0 v0 v1 v2 v3 v4 g5 g6 (nI ed) g8 v9 (nI nb) g11 g12 v13 g14 g15 g16 g17 g18 g19 g20 g21 g22 g23 g24 g25 g26 v27 v28 v29 v30 v31 v32 v33 v34 v35 v36 v37 (nI ol)), (v0, .inl (cA 0, 326, .inl fs)), (v2, .inl (cA 0, 326, .inl fa))] sz) [(oX10 w0 v0 v1 v2 v3 v4 g5 g5 (nI ed) g8 v9 (nI nb) g11 g12 v13 g14 g15 g16 g17 g18 g19 g20 g21 g22 g23 g24 g25 g26 v27 v28 v29 v30 v31 v32 v33 v34 v35 v36 v37 (nI ol)), (v0, .inl (cA 0, 326, .inl fs)), (v2, .inl (cA 0, 326, .inl za))] t) (va_A [(oX10 w0 v0 v1 v2 v3 v4 g5 g6 (nI ed) g8 v9 (nI nb) g11 g12 v13 g14 g15 g16 g17 g18 g19 g20 g21 g22 g23 g24 g25 g26 v27 v28 v29 v30 v31 v32 v33 v34 v35 v36 v37 (nI ol)), (v0, .inl (cA 0, 326, .inl fs)), (v2, .inl (cA 0, 326, .inl fa))] sz)) 0 0 (va_A [(oX10 w0 v0 v1 v2 v3 v4 g5 g6 (nI ed) g8 v9 (nI nb) g11 g12 v13 g14 g15 g16 g17 g18 g19 g20 g21 g22 g23 g24 g25 g26 v27 v28 v29 v30 v31 v32 v33 v34 v35 v36 v37 (nI ol)), (v0, .inl (cA 0, 326, .inl fs)), (v2, .inl (cA 0, 326, .inl fa))] sz) := by
  refine Met.ofW (cc := cX10_beginTrial) (maxL := 1) (ret := none) (by decide) rfl ?_
  intro p e s m args below meth c s₁ B hml hv
  obtain ⟨rfl, hsz, hP, hK, hD0, hC, hZ⟩ := hv
  have hx := B.exec
  have hb := B.bytes
  have hr := B.returns
  have hts := atoms_spec (ws := wsX10_beginTrial) B.pre
  have hown : s.vm.findClass RX10 = some m.cls := findClass_of_methodNamed B.named
  have hlocks := B.notSynchronized
  subst hsz
  have hD := hD0.self (sz := s.heap.size)
  generalize hAe : va_A [(oX10 w0 v0 v1 v2 v3 v4 g5 g6 (nI ed) g8 v9 (nI nb) g11 g12 v13 g14 g15 g16 g17 g18 g19 g20 g21 g22 g23 g24 g25 g26 v27 v28 v29 v30 v31 v32 v33 v34 v35 v36 v37 (nI ol)), (v0, .inl (cA 0, 326, .inl fs)), (v2, .inl (cA 0, 326, .inl fa))] s.heap.size = A at hD hZ ⊢
  have hA : ∀ q : Nat, s.heap.size ≤ q → A q := fun q h => by rw [← hAe]; exact Or.inr h
  have hS : va_S A s.heap s.heap [] := va_S.rf
  have hP : va_P D vwCl [(oX10 w0 v0 v1 v2 v3 v4 g5 g6 (nI ed) g8 v9 (nI nb) g11 g12 v13 g14 g15 g16 g17 g18 g19 g20 g21 g22 g23 g24 g25 g26 v27 v28 v29 v30 v31 v32 v33 v34 v35 v36 v37 (nI ol)), (v0, .inl (cA 0, 326, .inl fs)), (v2, .inl (cA 0, 326, .inl fa))] s.heap := hP
  have hl := lv_entry ([.ref w0]) (n := 1) (Nat.le_of_ble_eq_true rfl)
  rw [lg_entry_eq]
  generalize (lg_sl ([.ref w0]) ++ List.replicate (1 - (lg_sl ([.ref w0])).length) Slot.unset).toArray = ls at hl ⊢
  have hl : lv_has ls 1 [(0, .ref w0)] := hl
  have inX10 : ∀ w ∈ u_ws RX10 TX10 39, w ∈ wsX10_beginTrial := by decide +kernel
  refine lv_aload_n hx hb dX10_beginTrial_0 rfl (lv_at hl 0 rfl) ?_
  refine va_get (D := D) (ci := 11) (v := .ref v0) (C := RX10) (T := TX10) (N := 39) hx hb hts inX10 hown hK hP 0 rfl rfl 0 (by decide) (hts (.fieldLink RX10 7 "EscrowDeskModel" "s" "[I") (by decide +kernel)) (fun _ h9 => h9) rfl dX10_beginTrial_1 ?_
  refine lv_aload_n hx hb dX10_beginTrial_4 rfl (lv_at hl 0 rfl) ?_
  refine va_get (D := D) (ci := 11) (v := .ref v2) (C := RX10) (T := TX10) (N := 39) hx hb hts inX10 hown hK hP 0 rfl rfl 2 (by decide) (hts (.fieldLink RX10 16 "EscrowDeskModel" "aside" "[I") (by decide +kernel)) (fun _ h9 => h9) rfl dX10_beginTrial_5 ?_
  obtain ⟨hPc, hDc, hFc⟩ := PDq.cut (wc := [(v0, .inl (cA 0, 326, .inl fs)), (v2, .inl (cA 0, 326, .inl fa))]) hP hD hS hA [1, 2] (by decide) rfl
  refine va_callv (va_runS (As := [.ref v0, .ref v2]) (rest := []) ⟨hx, hb, hml, hown, hts⟩ (e_copy l D cA sa v0 v2 cn pq en dy fs fa s.heap.size hcn hpq hen hdy hri) (va_cwS 2 hts gX10_beginTrial_X10_copy rfl rfl rfl (by decide +kernel) ⟨(Nat.le_of_ble_eq_true rfl), (Nat.le_of_ble_eq_true rfl)⟩) ⟨Wd.blind, fun U hU hW => ⟨rfl, Wd.call hPc hDc hK hC hZ hS hFc U hU hW⟩⟩ rfl rfl hl.1 rfl (lv_room (Nat.le_of_ble_eq_true rfl)) dX10_beginTrial_8 ⟨(Nat.le_of_ble_eq_true rfl), (Nat.le_of_ble_eq_true rfl)⟩) hS (fun q _ h => hFc q h) hFc (fun u t H1 locs ht hvm hw hB hz1 hk1 hS => ?_)
  obtain ⟨fn1, hn2, hn3, hP1, hD1⟩ := hB
  rw [ht] at hP1
  obtain ⟨hP, hD⟩ := PDq.join (w := [(oX10 w0 v0 v1 v2 v3 v4 g5 g6 (nI ed) g8 v9 (nI nb) g11 g12 v13 g14 g15 g16 g17 g18 g19 g20 g21 g22 g23 g24 g25 g26 v27 v28 v29 v30 v31 v32 v33 v34 v35 v36 v37 (nI ol)), (v0, .inl (cA 0, 326, .inl fs)), (v2, .inl (cA 0, 326, .inl fn1))]) 1 hP hD [1, 2] [0] rfl rfl (by decide) (by decide) hk1 hFc hP1 hD1 rfl
  generalize H1 = H at hP hS ⊢
  refine lv_aload_n hx hb dX10_beginTrial_11 rfl (lv_at hl 0 rfl) ?_
  refine lv_aload_n hx hb dX10_beginTrial_12 rfl (lv_at hl 0 rfl) ?_
  refine va_get (D := D) (ci := 11) (v := .long g5) (C := RX10) (T := TX10) (N := 39) hx hb hts inX10 hown hK hP 0 rfl rfl 5 (by decide) (hts (.fieldLink RX10 86 "EscrowDeskModel" "parts" "J") (by decide +kernel)) (fun _ h9 => h9) rfl dX10_beginTrial_13 ?_
  refine va_put (D := D) (ci := 11) (v := .long g5) (ty := .long) (C := RX10) (T := TX10) (N := 39) hx hb hts inX10 tyX10 tyX10_ok nmX10 hown hK hP hD hS 0 rfl rfl 6 (by decide) (hts (.fieldLink RX10 327 "EscrowDeskModel" "asideParts" "J") (by decide +kernel)) (fun _ h9 => h9) rfl (by decide +kernel) rfl rfl (Nat.le_of_ble_eq_true rfl) dX10_beginTrial_16 (fun H locs hP hD hS => ?_)
  obtain ⟨hP, hD⟩ : PDq D A [(oX10 w0 v0 v1 v2 v3 v4 g5 g5 (nI ed) g8 v9 (nI nb) g11 g12 v13 g14 g15 g16 g17 g18 g19 g20 g21 g22 g23 g24 g25 g26 v27 v28 v29 v30 v31 v32 v33 v34 v35 v36 v37 (nI ol)), (v0, .inl (cA 0, 326, .inl fs)), (v2, .inl (cA 0, 326, .inl fn1))] H := ⟨hP, hD⟩
  obtain ⟨hP9, hD9⟩ := PDq.sub (ws' := [(oX10 w0 v0 v1 v2 v3 v4 g5 g5 (nI ed) g8 v9 (nI nb) g11 g12 v13 g14 g15 g16 g17 g18 g19 g20 g21 g22 g23 g24 g25 g26 v27 v28 v29 v30 v31 v32 v33 v34 v35 v36 v37 (nI ol)), (v0, .inl (cA 0, 326, .inl fs)), (v2, .inl (cA 0, 326, .inl fn1))]) hP hD [0, 1, 2] (by decide) rfl
  refine W.widen (k := 0) (n := 0) (Nat.le_of_ble_eq_true rfl) (Nat.le_of_ble_eq_true rfl) ?_
  exact (W.vret hx hb hr (fun t ht hW => ⟨⟨(), rfl, trivial, fn1, hn2, hn3, by rw [ht]; exact hP9, hD9⟩, hS.F ht⟩) hS.2.2 dX10_beginTrial_19)

set_option maxHeartbeats 4000000 in
set_option maxRecDepth 100000 in
/-- reference, exactly: endTrial -/
theorem e_endTrial (l : Launch) (D : va_G) (cA : Nat → ClassId) (sa : Nat → Nat) (w0 : Nat) (ed : Nat) (nb : Nat) (ol : Nat) (v0 : Nat) (v1 : Nat) (v2 : Nat) (v3 : Nat) (v4 : Nat) (v9 : Nat) (v13 : Nat) (v27 : Nat) (v28 : Nat) (v29 : Nat) (v30 : Nat) (v31 : Nat) (v32 : Nat) (v33 : Nat) (v34 : Nat) (v35 : Nat) (v36 : Nat) (v37 : Nat) (g8 : Int32) (g11 : Int32) (g12 : Int32) (g14 : Int32) (g15 : Int32) (g16 : Int32) (g17 : Int32) (g18 : Int32) (g19 : Int32) (g20 : Int32) (g21 : Int32) (g22 : Int32) (g23 : Int32) (g24 : Int32) (g26 : Int32) (g5 : Int64) (g6 : Int64) (g25 : Int64) (cn : Nat) (pq : Nat) (en : Nat) (dy : Nat) (fs : Nat → Int32) (fa : Nat → Int32) (sz : Nat) (hcn : cn ≤ 10) (hpq : pq ≤ 8) (hen : en ≤ 60) (hdy : dy ≤ 20000) (hri : RI cn pq en dy fs) : Met l yX10_endTrial wsX10_endTrial ({ frames := 1, cells := 0, slots := 0, locals := 22 }) (va_Pc [.ref w0] (Wd D cA sa [(oX10 w0 v0 v1 v2 v3 v4 g5 g6 (nI ed) g8 v9 (nI nb) g11 g12 v13 g14 g15 g16 g17 g18 g19 g20 g21 g22 g23 g24 g25 g26 v27 v28 v29 v30 v31 v32 v33 v34 v35 v36 v37 (nI ol)), (v0, .inl (cA 0, 326, .inl fa)), (v2, .inl (cA 0, 326, .inl fs))] sz)) (va_Qv (fun _ : Unit => True) (fun (_ : Unit) t => ∃ zs : Nat → Int32, RI cn pq en dy zs ∧ Cp 326 fs zs ∧ Wq D (va_A [(oX10 w0 v0 v1 v2 v3 v4 g5 g6 (nI ed) g8 v9 (nI nb) g11 g12 v13 g14 g15 g16 g17 g18 g19 g20 g21 g22 g23 g24 g25 g26 v27 v28 v29 v30 v31 v32 v33 v34 v35 v36 v37 (nI ol)), (v0, .inl (cA 0, 326, .inl fa)), (v2, .inl (cA 0, 326, .inl fs))] sz) [(oX10 w0 v0 v1 v2 v3 v4 g6 g6 (nI ed) g8 v9 (nI nb) g11 g12 v13 g14 g15 g16 g17 g18 g19 g20 g21 g22 g23 g24 g25 g26 v27 v28 v29 v30 v31 v32 v33 v34 v35 v36 v37 (nI ol)), (v0, .inl (cA 0, 326, .inl zs)), (v2, .inl (cA 0, 326, .inl fs))] t) (va_A [(oX10 w0 v0 v1 v2 v3 v4 g5 g6 (nI ed) g8 v9 (nI nb) g11 g12 v13 g14 g15 g16 g17 g18 g19 g20 g21 g22 g23 g24 g25 g26 v27 v28 v29 v30 v31 v32 v33 v34 v35 v36 v37 (nI ol)), (v0, .inl (cA 0, 326, .inl fa)), (v2, .inl (cA 0, 326, .inl fs))] sz)) 0 0 (va_A [(oX10 w0 v0 v1 v2 v3 v4 g5 g6 (nI ed) g8 v9 (nI nb) g11 g12 v13 g14 g15 g16 g17 g18 g19 g20 g21 g22 g23 g24 g25 g26 v27 v28 v29 v30 v31 v32 v33 v34 v35 v36 v37 (nI ol)), (v0, .inl (cA 0, 326, .inl fa)), (v2, .inl (cA 0, 326, .inl fs))] sz) := by
  refine Met.ofW (cc := cX10_endTrial) (maxL := 1) (ret := none) (by decide) rfl ?_
  intro p e s m args below meth c s₁ B hml hv
  obtain ⟨rfl, hsz, hP, hK, hD0, hC, hZ⟩ := hv
  have hx := B.exec
  have hb := B.bytes
  have hr := B.returns
  have hts := atoms_spec (ws := wsX10_endTrial) B.pre
  have hown : s.vm.findClass RX10 = some m.cls := findClass_of_methodNamed B.named
  have hlocks := B.notSynchronized
  subst hsz
  have hD := hD0.self (sz := s.heap.size)
  generalize hAe : va_A [(oX10 w0 v0 v1 v2 v3 v4 g5 g6 (nI ed) g8 v9 (nI nb) g11 g12 v13 g14 g15 g16 g17 g18 g19 g20 g21 g22 g23 g24 g25 g26 v27 v28 v29 v30 v31 v32 v33 v34 v35 v36 v37 (nI ol)), (v0, .inl (cA 0, 326, .inl fa)), (v2, .inl (cA 0, 326, .inl fs))] s.heap.size = A at hD hZ ⊢
  have hA : ∀ q : Nat, s.heap.size ≤ q → A q := fun q h => by rw [← hAe]; exact Or.inr h
  have hS : va_S A s.heap s.heap [] := va_S.rf
  have hP : va_P D vwCl [(oX10 w0 v0 v1 v2 v3 v4 g5 g6 (nI ed) g8 v9 (nI nb) g11 g12 v13 g14 g15 g16 g17 g18 g19 g20 g21 g22 g23 g24 g25 g26 v27 v28 v29 v30 v31 v32 v33 v34 v35 v36 v37 (nI ol)), (v0, .inl (cA 0, 326, .inl fa)), (v2, .inl (cA 0, 326, .inl fs))] s.heap := hP
  have hl := lv_entry ([.ref w0]) (n := 1) (Nat.le_of_ble_eq_true rfl)
  rw [lg_entry_eq]
  generalize (lg_sl ([.ref w0]) ++ List.replicate (1 - (lg_sl ([.ref w0])).length) Slot.unset).toArray = ls at hl ⊢
  have hl : lv_has ls 1 [(0, .ref w0)] := hl
  have inX10 : ∀ w ∈ u_ws RX10 TX10 39, w ∈ wsX10_endTrial := by decide +kernel
  refine lv_aload_n hx hb dX10_endTrial_0 rfl (lv_at hl 0 rfl) ?_
  refine va_get (D := D) (ci := 11) (v := .ref v2) (C := RX10) (T := TX10) (N := 39) hx hb hts inX10 hown hK hP 0 rfl rfl 2 (by decide) (hts (.fieldLink RX10 16 "EscrowDeskModel" "aside" "[I") (by decide +kernel)) (fun _ h9 => h9) rfl dX10_endTrial_1 ?_
  refine lv_aload_n hx hb dX10_endTrial_4 rfl (lv_at hl 0 rfl) ?_
  refine va_get (D := D) (ci := 11) (v := .ref v0) (C := RX10) (T := TX10) (N := 39) hx hb hts inX10 hown hK hP 0 rfl rfl 0 (by decide) (hts (.fieldLink RX10 7 "EscrowDeskModel" "s" "[I") (by decide +kernel)) (fun _ h9 => h9) rfl dX10_endTrial_5 ?_
  obtain ⟨hPc, hDc, hFc⟩ := PDq.cut (wc := [(v2, .inl (cA 0, 326, .inl fs)), (v0, .inl (cA 0, 326, .inl fa))]) hP hD hS hA [2, 1] (by decide) rfl
  refine va_callv (va_runS (As := [.ref v2, .ref v0]) (rest := []) ⟨hx, hb, hml, hown, hts⟩ (e_copy l D cA sa v2 v0 cn pq en dy fs fa s.heap.size hcn hpq hen hdy hri) (va_cwS 2 hts gX10_endTrial_X10_copy rfl rfl rfl (by decide +kernel) ⟨(Nat.le_of_ble_eq_true rfl), (Nat.le_of_ble_eq_true rfl)⟩) ⟨Wd.blind, fun U hU hW => ⟨rfl, Wd.call hPc hDc hK hC hZ hS hFc U hU hW⟩⟩ rfl rfl hl.1 rfl (lv_room (Nat.le_of_ble_eq_true rfl)) dX10_endTrial_8 ⟨(Nat.le_of_ble_eq_true rfl), (Nat.le_of_ble_eq_true rfl)⟩) hS (fun q _ h => hFc q h) hFc (fun u t H1 locs ht hvm hw hB hz1 hk1 hS => ?_)
  obtain ⟨fn1, hn2, hn3, hP1, hD1⟩ := hB
  rw [ht] at hP1
  obtain ⟨hP, hD⟩ := PDq.join (w := [(oX10 w0 v0 v1 v2 v3 v4 g5 g6 (nI ed) g8 v9 (nI nb) g11 g12 v13 g14 g15 g16 g17 g18 g19 g20 g21 g22 g23 g24 g25 g26 v27 v28 v29 v30 v31 v32 v33 v34 v35 v36 v37 (nI ol)), (v2, .inl (cA 0, 326, .inl fs)), (v0, .inl (cA 0, 326, .inl fn1))]) 1 hP hD [2, 1] [0] rfl rfl (by decide) (by decide) hk1 hFc hP1 hD1 rfl
  generalize H1 = H at hP hS ⊢
  refine lv_aload_n hx hb dX10_endTrial_11 rfl (lv_at hl 0 rfl) ?_
  refine lv_aload_n hx hb dX10_endTrial_12 rfl (lv_at hl 0 rfl) ?_
  refine va_get (D := D) (ci := 11) (v := .long g6) (C := RX10) (T := TX10) (N := 39) hx hb hts inX10 hown hK hP 0 rfl rfl 6 (by decide) (hts (.fieldLink RX10 327 "EscrowDeskModel" "asideParts" "J") (by decide +kernel)) (fun _ h9 => h9) rfl dX10_endTrial_13 ?_
  refine va_put (D := D) (ci := 11) (v := .long g6) (ty := .long) (C := RX10) (T := TX10) (N := 39) hx hb hts inX10 tyX10 tyX10_ok nmX10 hown hK hP hD hS 0 rfl rfl 5 (by decide) (hts (.fieldLink RX10 86 "EscrowDeskModel" "parts" "J") (by decide +kernel)) (fun _ h9 => h9) rfl (by decide +kernel) rfl rfl (Nat.le_of_ble_eq_true rfl) dX10_endTrial_16 (fun H locs hP hD hS => ?_)
  obtain ⟨hP, hD⟩ : PDq D A [(oX10 w0 v0 v1 v2 v3 v4 g6 g6 (nI ed) g8 v9 (nI nb) g11 g12 v13 g14 g15 g16 g17 g18 g19 g20 g21 g22 g23 g24 g25 g26 v27 v28 v29 v30 v31 v32 v33 v34 v35 v36 v37 (nI ol)), (v2, .inl (cA 0, 326, .inl fs)), (v0, .inl (cA 0, 326, .inl fn1))] H := ⟨hP, hD⟩
  obtain ⟨hP9, hD9⟩ := PDq.sub (ws' := [(oX10 w0 v0 v1 v2 v3 v4 g6 g6 (nI ed) g8 v9 (nI nb) g11 g12 v13 g14 g15 g16 g17 g18 g19 g20 g21 g22 g23 g24 g25 g26 v27 v28 v29 v30 v31 v32 v33 v34 v35 v36 v37 (nI ol)), (v0, .inl (cA 0, 326, .inl fn1)), (v2, .inl (cA 0, 326, .inl fs))]) hP hD [0, 2, 1] (by decide) rfl
  refine W.widen (k := 0) (n := 0) (Nat.le_of_ble_eq_true rfl) (Nat.le_of_ble_eq_true rfl) ?_
  exact (W.vret hx hb hr (fun t ht hW => ⟨⟨(), rfl, trivial, fn1, hn2, hn3, by rw [ht]; exact hP9, hD9⟩, hS.F ht⟩) hS.2.2 dX10_endTrial_19)

set_option maxHeartbeats 4000000 in
set_option maxRecDepth 100000 in
/-- reference, exactly: paymentsAfter -/
theorem e_paymentsAfter (l : Launch) (D : va_G) (cA : Nat → ClassId) (sa : Nat → Nat) (w0 : Nat) (ed : Nat) (nb : Nat) (ol : Nat) (v0 : Nat) (v1 : Nat) (v2 : Nat) (v3 : Nat) (v4 : Nat) (v9 : Nat) (v13 : Nat) (v27 : Nat) (v28 : Nat) (v29 : Nat) (v30 : Nat) (v31 : Nat) (v32 : Nat) (v33 : Nat) (v34 : Nat) (v35 : Nat) (v36 : Nat) (v37 : Nat) (g8 : Int32) (g11 : Int32) (g12 : Int32) (g14 : Int32) (g15 : Int32) (g16 : Int32) (g17 : Int32) (g18 : Int32) (g19 : Int32) (g20 : Int32) (g21 : Int32) (g22 : Int32) (g23 : Int32) (g24 : Int32) (g26 : Int32) (g5 : Int64) (g6 : Int64) (g25 : Int64) (cn : Nat) (pq : Nat) (en : Nat) (dy : Nat) (fs : Nat → Int32) (fc : Nat → Int32) (fq : Nat → Int32) (fk : Nat → Int32) (cq : Nat → Nat) (fo : Nat → Int32) (fa : Nat → Int32) (i : Int32) (sz : Nat) (hcn : cn ≤ 10) (hpq : pq ≤ 8) (hen : en ≤ 60) (hdy : dy ≤ 20000) (hri : RI cn pq en dy fs) (hCQ : CQ cn fc cq) (hcq : Elq cn cq fq) (hbit : Bit 400 fk) (hord : Rng 10 10 fo) (hd9 : dy ≤ 9999) : Met l yX10_paymentsAfter wsX10_paymentsAfter ({ frames := 7, cells := 0, slots := 0, locals := 151 }) (va_Pc [.ref w0, .int i] (Wd D cA sa [(oX10 w0 v0 v1 v2 v3 v4 g5 g6 (nI ed) g8 v9 (nI nb) g11 g12 v13 g14 g15 g16 g17 g18 g19 g20 g21 g22 g23 g24 g25 g26 v27 v28 v29 v30 v31 v32 v33 v34 v35 v36 v37 (nI ol)), (v0, .inl (cA 0, 326, .inl fs)), (v31, .inl (cA 0, 400, .inl fc)), (v33, .inl (cA 0, 11, .inl fq)), (v35, .inl (cA 4, 400, .inl fk)), (v36, .inl (cA 0, 10, .inl fo)), (v2, .inl (cA 0, 326, .inl fa))] sz)) (va_Qi (fun (r : Int32) (_ : Unit) => True) (fun (_ : Unit) t => ∃ zt : Int32, ∃ z6 : Int64, ∃ zs : Nat → Int32, ∃ zk : Nat → Int32, ∃ zo : Nat → Int32, ∃ za : Nat → Int32, RI cn pq en dy zs ∧ Bit 400 zk ∧ Rng 10 10 zo ∧ Cp 326 fs zs ∧ Wq D (va_A [(oX10 w0 v0 v1 v2 v3 v4 g5 g6 (nI ed) g8 v9 (nI nb) g11 g12 v13 g14 g15 g16 g17 g18 g19 g20 g21 g22 g23 g24 g25 g26 v27 v28 v29 v30 v31 v32 v33 v34 v35 v36 v37 (nI ol)), (v0, .inl (cA 0, 326, .inl fs)), (v31, .inl (cA 0, 400, .inl fc)), (v33, .inl (cA 0, 11, .inl fq)), (v35, .inl (cA 4, 400, .inl fk)), (v36, .inl (cA 0, 10, .inl fo)), (v2, .inl (cA 0, 326, .inl fa))] sz) [(oX10 w0 v0 v1 v2 v3 v4 g5 z6 (nI ed) zt v9 (nI nb) g11 g12 v13 g14 g15 g16 g17 g18 g19 g20 g21 g22 g23 g24 g25 g26 v27 v28 v29 v30 v31 v32 v33 v34 v35 v36 v37 (nI ol)), (v0, .inl (cA 0, 326, .inl zs)), (v31, .inl (cA 0, 400, .inl fc)), (v33, .inl (cA 0, 11, .inl fq)), (v35, .inl (cA 4, 400, .inl zk)), (v36, .inl (cA 0, 10, .inl zo)), (v2, .inl (cA 0, 326, .inl za))] t) (va_A [(oX10 w0 v0 v1 v2 v3 v4 g5 g6 (nI ed) g8 v9 (nI nb) g11 g12 v13 g14 g15 g16 g17 g18 g19 g20 g21 g22 g23 g24 g25 g26 v27 v28 v29 v30 v31 v32 v33 v34 v35 v36 v37 (nI ol)), (v0, .inl (cA 0, 326, .inl fs)), (v31, .inl (cA 0, 400, .inl fc)), (v33, .inl (cA 0, 11, .inl fq)), (v35, .inl (cA 4, 400, .inl fk)), (v36, .inl (cA 0, 10, .inl fo)), (v2, .inl (cA 0, 326, .inl fa))] sz)) 0 0 (va_A [(oX10 w0 v0 v1 v2 v3 v4 g5 g6 (nI ed) g8 v9 (nI nb) g11 g12 v13 g14 g15 g16 g17 g18 g19 g20 g21 g22 g23 g24 g25 g26 v27 v28 v29 v30 v31 v32 v33 v34 v35 v36 v37 (nI ol)), (v0, .inl (cA 0, 326, .inl fs)), (v31, .inl (cA 0, 400, .inl fc)), (v33, .inl (cA 0, 11, .inl fq)), (v35, .inl (cA 4, 400, .inl fk)), (v36, .inl (cA 0, 10, .inl fo)), (v2, .inl (cA 0, 326, .inl fa))] sz) := by
  refine Met.ofW (cc := cX10_paymentsAfter) (maxL := 3) (ret := (some .int)) (by decide) rfl ?_
  intro p e s m args below meth c s₁ B hml hv
  obtain ⟨rfl, hsz, hP, hK, hD0, hC, hZ⟩ := hv
  have hx := B.exec
  have hb := B.bytes
  have hr := B.returns
  have hts := atoms_spec (ws := wsX10_paymentsAfter) B.pre
  have hown : s.vm.findClass RX10 = some m.cls := findClass_of_methodNamed B.named
  have hlocks := B.notSynchronized
  subst hsz
  have hD := hD0.self (sz := s.heap.size)
  generalize hAe : va_A [(oX10 w0 v0 v1 v2 v3 v4 g5 g6 (nI ed) g8 v9 (nI nb) g11 g12 v13 g14 g15 g16 g17 g18 g19 g20 g21 g22 g23 g24 g25 g26 v27 v28 v29 v30 v31 v32 v33 v34 v35 v36 v37 (nI ol)), (v0, .inl (cA 0, 326, .inl fs)), (v31, .inl (cA 0, 400, .inl fc)), (v33, .inl (cA 0, 11, .inl fq)), (v35, .inl (cA 4, 400, .inl fk)), (v36, .inl (cA 0, 10, .inl fo)), (v2, .inl (cA 0, 326, .inl fa))] s.heap.size = A at hD hZ ⊢
  have hA : ∀ q : Nat, s.heap.size ≤ q → A q := fun q h => by rw [← hAe]; exact Or.inr h
  have hS : va_S A s.heap s.heap [] := va_S.rf
  have hP : va_P D vwCl [(oX10 w0 v0 v1 v2 v3 v4 g5 g6 (nI ed) g8 v9 (nI nb) g11 g12 v13 g14 g15 g16 g17 g18 g19 g20 g21 g22 g23 g24 g25 g26 v27 v28 v29 v30 v31 v32 v33 v34 v35 v36 v37 (nI ol)), (v0, .inl (cA 0, 326, .inl fs)), (v31, .inl (cA 0, 400, .inl fc)), (v33, .inl (cA 0, 11, .inl fq)), (v35, .inl (cA 4, 400, .inl fk)), (v36, .inl (cA 0, 10, .inl fo)), (v2, .inl (cA 0, 326, .inl fa))] s.heap := hP
  have hl := lv_entry ([.ref w0, .int i]) (n := 3) (Nat.le_of_ble_eq_true rfl)
  rw [lg_entry_eq]
  generalize (lg_sl ([.ref w0, .int i]) ++ List.replicate (3 - (lg_sl ([.ref w0, .int i])).length) Slot.unset).toArray = ls at hl ⊢
  have hl : lv_has ls 3 [(0, .ref w0), (1, .int i)] := hl
  have inX10 : ∀ w ∈ u_ws RX10 TX10 39, w ∈ wsX10_paymentsAfter := by decide +kernel
  refine lv_aload_n hx hb dX10_paymentsAfter_0 rfl (lv_at hl 0 rfl) ?_
  refine lv_iload_n hx hb dX10_paymentsAfter_1 rfl (lv_at hl 1 rfl) ?_
  obtain ⟨hPc, hDc, hFc⟩ := PDq.cut (wc := []) hP hD hS hA [] (by decide) rfl
  refine va_calli (va_runS (As := [.int i]) (rest := [.ref w0]) ⟨hx, hb, hml, hown, hts⟩ (r_isTrial l D cA sa i s.heap.size) (va_cwS 1 hts gX10_paymentsAfter_X10_isTrial rfl rfl rfl (by decide +kernel) ⟨(Nat.le_of_ble_eq_true rfl), (Nat.le_of_ble_eq_true rfl)⟩) ⟨Wd.blind, fun U hU hW => ⟨rfl, Wd.call hPc hDc hK hC hZ hS hFc U hU hW⟩⟩ rfl rfl hl.1 rfl (lv_room (Nat.le_of_ble_eq_true rfl)) dX10_paymentsAfter_2 ⟨(Nat.le_of_ble_eq_true rfl), (Nat.le_of_ble_eq_true rfl)⟩) hS (fun q _ h => hFc q h) hFc (fun rn1 u t H1 locs ht hvm hw hB hz1 hk1 hS => ?_)
  obtain ⟨hP1, hD1⟩ := hB
  rw [ht] at hP1
  obtain ⟨hP, hD⟩ := PDq.join (w := [(oX10 w0 v0 v1 v2 v3 v4 g5 g6 (nI ed) g8 v9 (nI nb) g11 g12 v13 g14 g15 g16 g17 g18 g19 g20 g21 g22 g23 g24 g25 g26 v27 v28 v29 v30 v31 v32 v33 v34 v35 v36 v37 (nI ol)), (v0, .inl (cA 0, 326, .inl fs)), (v31, .inl (cA 0, 400, .inl fc)), (v33, .inl (cA 0, 11, .inl fq)), (v35, .inl (cA 4, 400, .inl fk)), (v36, .inl (cA 0, 10, .inl fo)), (v2, .inl (cA 0, 326, .inl fa))]) 7 hP hD [] [0, 1, 2, 3, 4, 5, 6] rfl rfl (by decide) (by decide) hk1 hFc hP1 hD1 rfl
  generalize H1 = H at hP hS ⊢
  rcases hw with ⟨hr9, hn2⟩ | hr9
  · skip
    subst hr9
    obtain ⟨kn3, hn4, hn5, hn6⟩ := hn2
    rw [hn6] at hl
    have hl : lv_has ls 3 [(0, .ref w0), (1, .int (nI kn3))] := hl
    obtain ⟨hPc, hDc, hFc⟩ := PDq.cut (wc := [(oX10 w0 v0 v1 v2 v3 v4 g5 g6 (nI ed) g8 v9 (nI nb) g11 g12 v13 g14 g15 g16 g17 g18 g19 g20 g21 g22 g23 g24 g25 g26 v27 v28 v29 v30 v31 v32 v33 v34 v35 v36 v37 (nI ol))]) hP hD hS hA [0] (by decide) rfl
    refine va_calli (va_runV (As := [.int 1]) (rest := []) ⟨hx, hb, hml, hown, hts⟩ (r_good1 l D cA sa w0 ed nb ol v0 v1 v2 v3 v4 v9 v13 v27 v28 v29 v30 v31 v32 v33 v34 v35 v36 v37 g8 g11 g12 g14 g15 g16 g17 g18 g19 g20 g21 g22 g23 g24 g26 g5 g6 g25 H.size) (cwV 1 hts gX10_paymentsAfter_X10_good rfl rfl rfl (by decide +kernel) ⟨(Nat.le_of_ble_eq_true rfl), (Nat.le_of_ble_eq_true rfl)⟩) ⟨Wd.blind, va_recv hK hPc (ci := 11) (q0 := 0) rfl rfl, fun U hU hW => ⟨rfl, Wd.call hPc hDc hK hC hZ hS hFc U hU hW⟩⟩ rfl rfl hl.1 rfl (lv_room (Nat.le_of_ble_eq_true rfl)) dX10_paymentsAfter_5 ⟨(Nat.le_of_ble_eq_true rfl), (Nat.le_of_ble_eq_true rfl)⟩) hS (fun q _ h => hFc q h) hFc (fun rn7 u t H1 locs ht hvm hw hB hz1 hk1 hS => ?_)
    obtain ⟨hP1, hD1⟩ := hB
    rw [ht] at hP1
    obtain ⟨hP, hD⟩ := PDq.join (w := [(v0, .inl (cA 0, 326, .inl fs)), (v31, .inl (cA 0, 400, .inl fc)), (v33, .inl (cA 0, 11, .inl fq)), (v35, .inl (cA 4, 400, .inl fk)), (v36, .inl (cA 0, 10, .inl fo)), (v2, .inl (cA 0, 326, .inl fa)), (oX10 w0 v0 v1 v2 v3 v4 g5 g6 (nI ed) 0 v9 (nI nb) g11 g12 v13 g14 g15 g16 g17 g18 g19 g20 g21 g22 g23 g24 g25 g26 v27 v28 v29 v30 v31 v32 v33 v34 v35 v36 v37 (nI ol))]) 6 hP hD [0] [1, 2, 3, 4, 5, 6] rfl rfl (by decide) (by decide) hk1 hFc hP1 hD1 rfl
    generalize H1 = H at hP hS ⊢
    obtain rfl : rn7 = 1 := hw
    refine lv_if_ne (tgt := 13) hx hb dX10_paymentsAfter_8 (by decide) (fun c8 => ?_) (fun c9 => absurd c9 (by decide))
    refine lv_aload_n hx hb dX10_paymentsAfter_13 rfl (lv_at hl 0 rfl) ?_
    obtain ⟨hPc, hDc, hFc⟩ := PDq.cut (wc := [(oX10 w0 v0 v1 v2 v3 v4 g5 g6 (nI ed) 0 v9 (nI nb) g11 g12 v13 g14 g15 g16 g17 g18 g19 g20 g21 g22 g23 g24 g25 g26 v27 v28 v29 v30 v31 v32 v33 v34 v35 v36 v37 (nI ol)), (v0, .inl (cA 0, 326, .inl fs)), (v2, .inl (cA 0, 326, .inl fa))]) hP hD hS hA [6, 0, 5] (by decide) rfl
    refine va_callv (va_runV (As := []) (rest := []) ⟨hx, hb, hml, hown, hts⟩ (e_beginTrial l D cA sa w0 ed nb ol v0 v1 v2 v3 v4 v9 v13 v27 v28 v29 v30 v31 v32 v33 v34 v35 v36 v37 0 g11 g12 g14 g15 g16 g17 g18 g19 g20 g21 g22 g23 g24 g26 g5 g6 g25 cn pq en dy fs fa H.size hcn hpq hen hdy hri) (cwV 0 hts gX10_paymentsAfter_X10_beginTrial rfl rfl rfl (by decide +kernel) ⟨(Nat.le_of_ble_eq_true rfl), (Nat.le_of_ble_eq_true rfl)⟩) ⟨Wd.blind, va_recv hK hPc (ci := 11) (q0 := 0) rfl rfl, fun U hU hW => ⟨rfl, Wd.call hPc hDc hK hC hZ hS hFc U hU hW⟩⟩ rfl rfl hl.1 rfl (lv_room (Nat.le_of_ble_eq_true rfl)) dX10_paymentsAfter_14 ⟨(Nat.le_of_ble_eq_true rfl), (Nat.le_of_ble_eq_true rfl)⟩) hS (fun q _ h => hFc q h) hFc (fun u t H1 locs ht hvm hw hB hz1 hk1 hS => ?_)
    obtain ⟨fn9, hn10, hn11, hP1, hD1⟩ := hB
    rw [ht] at hP1
    obtain ⟨hP, hD⟩ := PDq.join (w := [(v31, .inl (cA 0, 400, .inl fc)), (v33, .inl (cA 0, 11, .inl fq)), (v35, .inl (cA 4, 400, .inl fk)), (v36, .inl (cA 0, 10, .inl fo)), (oX10 w0 v0 v1 v2 v3 v4 g5 g5 (nI ed) 0 v9 (nI nb) g11 g12 v13 g14 g15 g16 g17 g18 g19 g20 g21 g22 g23 g24 g25 g26 v27 v28 v29 v30 v31 v32 v33 v34 v35 v36 v37 (nI ol)), (v0, .inl (cA 0, 326, .inl fs)), (v2, .inl (cA 0, 326, .inl fn9))]) 4 hP hD [6, 0, 5] [1, 2, 3, 4] rfl rfl (by decide) (by decide) hk1 hFc hP1 hD1 rfl
    generalize H1 = H at hP hS ⊢
    refine lv_aload_n hx hb dX10_paymentsAfter_17 rfl (lv_at hl 0 rfl) ?_
    refine lv_iload_n hx hb dX10_paymentsAfter_18 rfl (lv_at hl 1 rfl) ?_
    obtain ⟨hPc, hDc, hFc⟩ := PDq.cut (wc := [(oX10 w0 v0 v1 v2 v3 v4 g5 g5 (nI ed) 0 v9 (nI nb) g11 g12 v13 g14 g15 g16 g17 g18 g19 g20 g21 g22 g23 g24 g25 g26 v27 v28 v29 v30 v31 v32 v33 v34 v35 v36 v37 (nI ol)), (v0, .inl (cA 0, 326, .inl fs)), (v31, .inl (cA 0, 400, .inl fc)), (v33, .inl (cA 0, 11, .inl fq)), (v35, .inl (cA 4, 400, .inl fk)), (v36, .inl (cA 0, 10, .inl fo))]) hP hD hS hA [4, 5, 0, 1, 2, 3] (by decide) rfl
    refine va_callv (va_runV (As := [.int (nI kn3)]) (rest := []) ⟨hx, hb, hml, hown, hts⟩ (e_passDays l D cA sa w0 ed nb ol v0 v1 v2 v3 v4 v9 v13 v27 v28 v29 v30 v31 v32 v33 v34 v35 v36 v37 0 g11 g12 g14 g15 g16 g17 g18 g19 g20 g21 g22 g23 g24 g26 g5 g5 g25 cn pq en dy fs fc fq fk cq fo kn3 H.size hcn hpq hen hdy hri hCQ hcq hbit hord (by omega) (by omega)) (cwV 1 hts gX10_paymentsAfter_X10_passDays rfl rfl rfl (by decide +kernel) ⟨(Nat.le_of_ble_eq_true rfl), (Nat.le_of_ble_eq_true rfl)⟩) ⟨Wd.blind, va_recv hK hPc (ci := 11) (q0 := 0) rfl rfl, fun U hU hW => ⟨rfl, Wd.call hPc hDc hK hC hZ hS hFc U hU hW⟩⟩ rfl rfl hl.1 rfl (lv_room (Nat.le_of_ble_eq_true rfl)) dX10_paymentsAfter_19 ⟨(Nat.le_of_ble_eq_true rfl), (Nat.le_of_ble_eq_true rfl)⟩) hS (fun q _ h => hFc q h) hFc (fun u t H1 locs ht hvm hw hB hz1 hk1 hS => ?_)
    obtain ⟨qn12, qn13, zn14, fn15, fn16, fn17, hn18, hn19, hn20, hn21, hn22, hn23, hP1, hD1⟩ := hB
    rw [ht] at hP1
    obtain ⟨hP, hD⟩ := PDq.join (w := [(v2, .inl (cA 0, 326, .inl fn9)), (oX10 w0 v0 v1 v2 v3 v4 zn14 g5 (nI ed) 0 v9 (nI nb) g11 g12 v13 g14 g15 g16 g17 g18 g19 g20 g21 g22 g23 g24 g25 g26 v27 v28 v29 v30 v31 v32 v33 v34 v35 v36 v37 (nI ol)), (v0, .inl (cA 0, 326, .inl fn15)), (v31, .inl (cA 0, 400, .inl fc)), (v33, .inl (cA 0, 11, .inl fq)), (v35, .inl (cA 4, 400, .inl fn16)), (v36, .inl (cA 0, 10, .inl fn17))]) 1 hP hD [4, 5, 0, 1, 2, 3] [6] rfl rfl (by decide) (by decide) hk1 hFc hP1 hD1 rfl
    generalize H1 = H at hP hS ⊢
    refine lv_aload_n hx hb dX10_paymentsAfter_22 rfl (lv_at hl 0 rfl) ?_
    refine va_get (D := D) (ci := 11) (v := .ref v0) (C := RX10) (T := TX10) (N := 39) hx hb hts inX10 hown hK hP 1 rfl rfl 0 (by decide) (hts (.fieldLink RX10 7 "EscrowDeskModel" "s" "[I") (by decide +kernel)) (fun _ h9 => h9) rfl dX10_paymentsAfter_23 ?_
    refine lv_bipush (v := 10) hx hb dX10_paymentsAfter_26 (by decide) ?_
    refine va_iald hx hb hK hP 2 0 rfl rfl (vp_in_iff.mpr (by decide)) dX10_paymentsAfter_28 ?_
    refine lv_topi (fun yn24 eyn24 => ?_)
    refine lv_istore_n (lv' := [(2, .int yn24), (0, .ref w0), (1, .int (nI kn3))]) hx hb dX10_paymentsAfter_29 rfl hl (by decide) rfl (fun ls hl => ?_)
    refine lv_aload_n hx hb dX10_paymentsAfter_30 rfl (lv_at hl 1 rfl) ?_
    obtain ⟨hPc, hDc, hFc⟩ := PDq.cut (wc := [(oX10 w0 v0 v1 v2 v3 v4 zn14 g5 (nI ed) 0 v9 (nI nb) g11 g12 v13 g14 g15 g16 g17 g18 g19 g20 g21 g22 g23 g24 g25 g26 v27 v28 v29 v30 v31 v32 v33 v34 v35 v36 v37 (nI ol)), (v0, .inl (cA 0, 326, .inl fn15)), (v2, .inl (cA 0, 326, .inl fn9))]) hP hD hS hA [1, 2, 0] (by decide) rfl
    refine va_callv (va_runV (As := []) (rest := []) ⟨hx, hb, hml, hown, hts⟩ (e_endTrial l D cA sa w0 ed nb ol v0 v1 v2 v3 v4 v9 v13 v27 v28 v29 v30 v31 v32 v33 v34 v35 v36 v37 0 g11 g12 g14 g15 g16 g17 g18 g19 g20 g21 g22 g23 g24 g26 zn14 g5 g25 cn pq en dy fn9 fn15 H.size hcn hpq hen hdy hn10) (cwV 0 hts gX10_paymentsAfter_X10_endTrial rfl rfl rfl (by decide +kernel) ⟨(Nat.le_of_ble_eq_true rfl), (Nat.le_of_ble_eq_true rfl)⟩) ⟨Wd.blind, va_recv hK hPc (ci := 11) (q0 := 0) rfl rfl, fun U hU hW => ⟨rfl, Wd.call hPc hDc hK hC hZ hS hFc U hU hW⟩⟩ rfl rfl hl.1 rfl (lv_room (Nat.le_of_ble_eq_true rfl)) dX10_paymentsAfter_31 ⟨(Nat.le_of_ble_eq_true rfl), (Nat.le_of_ble_eq_true rfl)⟩) hS (fun q _ h => hFc q h) hFc (fun u t H1 locs ht hvm hw hB hz1 hk1 hS => ?_)
    obtain ⟨fn25, hn26, hn27, hP1, hD1⟩ := hB
    rw [ht] at hP1
    obtain ⟨hP, hD⟩ := PDq.join (w := [(v31, .inl (cA 0, 400, .inl fc)), (v33, .inl (cA 0, 11, .inl fq)), (v35, .inl (cA 4, 400, .inl fn16)), (v36, .inl (cA 0, 10, .inl fn17)), (oX10 w0 v0 v1 v2 v3 v4 g5 g5 (nI ed) 0 v9 (nI nb) g11 g12 v13 g14 g15 g16 g17 g18 g19 g20 g21 g22 g23 g24 g25 g26 v27 v28 v29 v30 v31 v32 v33 v34 v35 v36 v37 (nI ol)), (v0, .inl (cA 0, 326, .inl fn25)), (v2, .inl (cA 0, 326, .inl fn9))]) 4 hP hD [1, 2, 0] [3, 4, 5, 6] rfl rfl (by decide) (by decide) hk1 hFc hP1 hD1 rfl
    generalize H1 = H at hP hS ⊢
    refine lv_iload_n hx hb dX10_paymentsAfter_34 rfl (lv_at hl 0 rfl) ?_
    obtain ⟨hP9, hD9⟩ := PDq.sub (ws' := [(oX10 w0 v0 v1 v2 v3 v4 g5 g5 (nI ed) 0 v9 (nI nb) g11 g12 v13 g14 g15 g16 g17 g18 g19 g20 g21 g22 g23 g24 g25 g26 v27 v28 v29 v30 v31 v32 v33 v34 v35 v36 v37 (nI ol)), (v0, .inl (cA 0, 326, .inl fn25)), (v31, .inl (cA 0, 400, .inl fc)), (v33, .inl (cA 0, 11, .inl fq)), (v35, .inl (cA 4, 400, .inl fn16)), (v36, .inl (cA 0, 10, .inl fn17)), (v2, .inl (cA 0, 326, .inl fn9))]) hP hD [4, 5, 0, 1, 2, 3, 6] (by decide) rfl
    refine W.widen (k := 0) (n := 0) (Nat.le_of_ble_eq_true rfl) (Nat.le_of_ble_eq_true rfl) ?_
    exact (W.iret (v := yn24) hx hb hr (fun t ht hW => ⟨⟨yn24, (), rfl, trivial, 0, g5, fn25, fn16, fn17, fn9, hn26, hn20, hn21, (fun j hj => (hn27 j hj).trans (hn11 j hj)), by rw [ht]; exact hP9, hD9⟩, hS.F ht⟩) hS.2.2 dX10_paymentsAfter_35)
  · skip
    subst hr9
    obtain ⟨hPc, hDc, hFc⟩ := PDq.cut (wc := [(oX10 w0 v0 v1 v2 v3 v4 g5 g6 (nI ed) g8 v9 (nI nb) g11 g12 v13 g14 g15 g16 g17 g18 g19 g20 g21 g22 g23 g24 g25 g26 v27 v28 v29 v30 v31 v32 v33 v34 v35 v36 v37 (nI ol))]) hP hD hS hA [0] (by decide) rfl
    refine va_calli (va_runV (As := [.int 0]) (rest := []) ⟨hx, hb, hml, hown, hts⟩ (r_good0 l D cA sa w0 ed nb ol v0 v1 v2 v3 v4 v9 v13 v27 v28 v29 v30 v31 v32 v33 v34 v35 v36 v37 g8 g11 g12 g14 g15 g16 g17 g18 g19 g20 g21 g22 g23 g24 g26 g5 g6 g25 H.size) (cwV 1 hts gX10_paymentsAfter_X10_good rfl rfl rfl (by decide +kernel) ⟨(Nat.le_of_ble_eq_true rfl), (Nat.le_of_ble_eq_true rfl)⟩) ⟨Wd.blind, va_recv hK hPc (ci := 11) (q0 := 0) rfl rfl, fun U hU hW => ⟨rfl, Wd.call hPc hDc hK hC hZ hS hFc U hU hW⟩⟩ rfl rfl hl.1 rfl (lv_room (Nat.le_of_ble_eq_true rfl)) dX10_paymentsAfter_5 ⟨(Nat.le_of_ble_eq_true rfl), (Nat.le_of_ble_eq_true rfl)⟩) hS (fun q _ h => hFc q h) hFc (fun rn28 u t H1 locs ht hvm hw hB hz1 hk1 hS => ?_)
    obtain ⟨hP1, hD1⟩ := hB
    rw [ht] at hP1
    obtain ⟨hP, hD⟩ := PDq.join (w := [(v0, .inl (cA 0, 326, .inl fs)), (v31, .inl (cA 0, 400, .inl fc)), (v33, .inl (cA 0, 11, .inl fq)), (v35, .inl (cA 4, 400, .inl fk)), (v36, .inl (cA 0, 10, .inl fo)), (v2, .inl (cA 0, 326, .inl fa)), (oX10 w0 v0 v1 v2 v3 v4 g5 g6 (nI ed) 1 v9 (nI nb) g11 g12 v13 g14 g15 g16 g17 g18 g19 g20 g21 g22 g23 g24 g25 g26 v27 v28 v29 v30 v31 v32 v33 v34 v35 v36 v37 (nI ol))]) 6 hP hD [0] [1, 2, 3, 4, 5, 6] rfl rfl (by decide) (by decide) hk1 hFc hP1 hD1 rfl
    generalize H1 = H at hP hS ⊢
    obtain rfl : rn28 = 0 := hw
    refine lv_if_ne (tgt := 13) hx hb dX10_paymentsAfter_8 (by decide) (fun c9 => absurd c9 (by decide)) (fun c29 => ?_)
    refine lv_iconst (v := 0) hx hb dX10_paymentsAfter_11 (by decide) ?_
    obtain ⟨hP9, hD9⟩ := PDq.sub (ws' := [(oX10 w0 v0 v1 v2 v3 v4 g5 g6 (nI ed) 1 v9 (nI nb) g11 g12 v13 g14 g15 g16 g17 g18 g19 g20 g21 g22 g23 g24 g25 g26 v27 v28 v29 v30 v31 v32 v33 v34 v35 v36 v37 (nI ol)), (v0, .inl (cA 0, 326, .inl fs)), (v31, .inl (cA 0, 400, .inl fc)), (v33, .inl (cA 0, 11, .inl fq)), (v35, .inl (cA 4, 400, .inl fk)), (v36, .inl (cA 0, 10, .inl fo)), (v2, .inl (cA 0, 326, .inl fa))]) hP hD [6, 0, 1, 2, 3, 4, 5] (by decide) rfl
    refine W.widen (k := 0) (n := 0) (Nat.le_of_ble_eq_true rfl) (Nat.le_of_ble_eq_true rfl) ?_
    exact (W.iret (v := 0) hx hb hr (fun t ht hW => ⟨⟨0, (), rfl, trivial, 1, g6, fs, fk, fo, fa, hri, hbit, hord, (fun _ _ => rfl), by rw [ht]; exact hP9, hD9⟩, hS.F ht⟩) hS.2.2 dX10_paymentsAfter_12)

set_option maxHeartbeats 4000000 in
set_option maxRecDepth 100000 in
/-- reference, exactly: creditedAfter -/
theorem e_creditedAfter (l : Launch) (D : va_G) (cA : Nat → ClassId) (sa : Nat → Nat) (w0 : Nat) (ed : Nat) (nb : Nat) (ol : Nat) (v0 : Nat) (v1 : Nat) (v2 : Nat) (v3 : Nat) (v4 : Nat) (v9 : Nat) (v13 : Nat) (v27 : Nat) (v28 : Nat) (v29 : Nat) (v30 : Nat) (v31 : Nat) (v32 : Nat) (v33 : Nat) (v34 : Nat) (v35 : Nat) (v36 : Nat) (v37 : Nat) (g8 : Int32) (g11 : Int32) (g12 : Int32) (g14 : Int32) (g15 : Int32) (g16 : Int32) (g17 : Int32) (g18 : Int32) (g19 : Int32) (g20 : Int32) (g21 : Int32) (g22 : Int32) (g23 : Int32) (g24 : Int32) (g26 : Int32) (g5 : Int64) (g6 : Int64) (g25 : Int64) (cn : Nat) (pq : Nat) (en : Nat) (dy : Nat) (fs : Nat → Int32) (fc : Nat → Int32) (fq : Nat → Int32) (fk : Nat → Int32) (cq : Nat → Nat) (fo : Nat → Int32) (fa : Nat → Int32) (i : Int32) (sz : Nat) (hcn : cn ≤ 10) (hpq : pq ≤ 8) (hen : en ≤ 60) (hdy : dy ≤ 20000) (hri : RI cn pq en dy fs) (hCQ : CQ cn fc cq) (hcq : Elq cn cq fq) (hbit : Bit 400 fk) (hord : Rng 10 10 fo) (hd9 : dy ≤ 9999) : Met l yX10_creditedAfter wsX10_creditedAfter ({ frames := 7, cells := 0, slots := 0, locals := 151 }) (va_Pc [.ref w0, .int i] (Wd D cA sa [(oX10 w0 v0 v1 v2 v3 v4 g5 g6 (nI ed) g8 v9 (nI nb) g11 g12 v13 g14 g15 g16 g17 g18 g19 g20 g21 g22 g23 g24 g25 g26 v27 v28 v29 v30 v31 v32 v33 v34 v35 v36 v37 (nI ol)), (v0, .inl (cA 0, 326, .inl fs)), (v31, .inl (cA 0, 400, .inl fc)), (v33, .inl (cA 0, 11, .inl fq)), (v35, .inl (cA 4, 400, .inl fk)), (v36, .inl (cA 0, 10, .inl fo)), (v2, .inl (cA 0, 326, .inl fa))] sz)) (va_Qi (fun (r : Int32) (_ : Unit) => True) (fun (_ : Unit) t => ∃ zt : Int32, ∃ z6 : Int64, ∃ zs : Nat → Int32, ∃ zk : Nat → Int32, ∃ zo : Nat → Int32, ∃ za : Nat → Int32, RI cn pq en dy zs ∧ Bit 400 zk ∧ Rng 10 10 zo ∧ Cp 326 fs zs ∧ Wq D (va_A [(oX10 w0 v0 v1 v2 v3 v4 g5 g6 (nI ed) g8 v9 (nI nb) g11 g12 v13 g14 g15 g16 g17 g18 g19 g20 g21 g22 g23 g24 g25 g26 v27 v28 v29 v30 v31 v32 v33 v34 v35 v36 v37 (nI ol)), (v0, .inl (cA 0, 326, .inl fs)), (v31, .inl (cA 0, 400, .inl fc)), (v33, .inl (cA 0, 11, .inl fq)), (v35, .inl (cA 4, 400, .inl fk)), (v36, .inl (cA 0, 10, .inl fo)), (v2, .inl (cA 0, 326, .inl fa))] sz) [(oX10 w0 v0 v1 v2 v3 v4 g5 z6 (nI ed) zt v9 (nI nb) g11 g12 v13 g14 g15 g16 g17 g18 g19 g20 g21 g22 g23 g24 g25 g26 v27 v28 v29 v30 v31 v32 v33 v34 v35 v36 v37 (nI ol)), (v0, .inl (cA 0, 326, .inl zs)), (v31, .inl (cA 0, 400, .inl fc)), (v33, .inl (cA 0, 11, .inl fq)), (v35, .inl (cA 4, 400, .inl zk)), (v36, .inl (cA 0, 10, .inl zo)), (v2, .inl (cA 0, 326, .inl za))] t) (va_A [(oX10 w0 v0 v1 v2 v3 v4 g5 g6 (nI ed) g8 v9 (nI nb) g11 g12 v13 g14 g15 g16 g17 g18 g19 g20 g21 g22 g23 g24 g25 g26 v27 v28 v29 v30 v31 v32 v33 v34 v35 v36 v37 (nI ol)), (v0, .inl (cA 0, 326, .inl fs)), (v31, .inl (cA 0, 400, .inl fc)), (v33, .inl (cA 0, 11, .inl fq)), (v35, .inl (cA 4, 400, .inl fk)), (v36, .inl (cA 0, 10, .inl fo)), (v2, .inl (cA 0, 326, .inl fa))] sz)) 0 0 (va_A [(oX10 w0 v0 v1 v2 v3 v4 g5 g6 (nI ed) g8 v9 (nI nb) g11 g12 v13 g14 g15 g16 g17 g18 g19 g20 g21 g22 g23 g24 g25 g26 v27 v28 v29 v30 v31 v32 v33 v34 v35 v36 v37 (nI ol)), (v0, .inl (cA 0, 326, .inl fs)), (v31, .inl (cA 0, 400, .inl fc)), (v33, .inl (cA 0, 11, .inl fq)), (v35, .inl (cA 4, 400, .inl fk)), (v36, .inl (cA 0, 10, .inl fo)), (v2, .inl (cA 0, 326, .inl fa))] sz) := by
  refine Met.ofW (cc := cX10_creditedAfter) (maxL := 3) (ret := (some .int)) (by decide) rfl ?_
  intro p e s m args below meth c s₁ B hml hv
  obtain ⟨rfl, hsz, hP, hK, hD0, hC, hZ⟩ := hv
  have hx := B.exec
  have hb := B.bytes
  have hr := B.returns
  have hts := atoms_spec (ws := wsX10_creditedAfter) B.pre
  have hown : s.vm.findClass RX10 = some m.cls := findClass_of_methodNamed B.named
  have hlocks := B.notSynchronized
  subst hsz
  have hD := hD0.self (sz := s.heap.size)
  generalize hAe : va_A [(oX10 w0 v0 v1 v2 v3 v4 g5 g6 (nI ed) g8 v9 (nI nb) g11 g12 v13 g14 g15 g16 g17 g18 g19 g20 g21 g22 g23 g24 g25 g26 v27 v28 v29 v30 v31 v32 v33 v34 v35 v36 v37 (nI ol)), (v0, .inl (cA 0, 326, .inl fs)), (v31, .inl (cA 0, 400, .inl fc)), (v33, .inl (cA 0, 11, .inl fq)), (v35, .inl (cA 4, 400, .inl fk)), (v36, .inl (cA 0, 10, .inl fo)), (v2, .inl (cA 0, 326, .inl fa))] s.heap.size = A at hD hZ ⊢
  have hA : ∀ q : Nat, s.heap.size ≤ q → A q := fun q h => by rw [← hAe]; exact Or.inr h
  have hS : va_S A s.heap s.heap [] := va_S.rf
  have hP : va_P D vwCl [(oX10 w0 v0 v1 v2 v3 v4 g5 g6 (nI ed) g8 v9 (nI nb) g11 g12 v13 g14 g15 g16 g17 g18 g19 g20 g21 g22 g23 g24 g25 g26 v27 v28 v29 v30 v31 v32 v33 v34 v35 v36 v37 (nI ol)), (v0, .inl (cA 0, 326, .inl fs)), (v31, .inl (cA 0, 400, .inl fc)), (v33, .inl (cA 0, 11, .inl fq)), (v35, .inl (cA 4, 400, .inl fk)), (v36, .inl (cA 0, 10, .inl fo)), (v2, .inl (cA 0, 326, .inl fa))] s.heap := hP
  have hl := lv_entry ([.ref w0, .int i]) (n := 3) (Nat.le_of_ble_eq_true rfl)
  rw [lg_entry_eq]
  generalize (lg_sl ([.ref w0, .int i]) ++ List.replicate (3 - (lg_sl ([.ref w0, .int i])).length) Slot.unset).toArray = ls at hl ⊢
  have hl : lv_has ls 3 [(0, .ref w0), (1, .int i)] := hl
  have inX10 : ∀ w ∈ u_ws RX10 TX10 39, w ∈ wsX10_creditedAfter := by decide +kernel
  refine lv_aload_n hx hb dX10_creditedAfter_0 rfl (lv_at hl 0 rfl) ?_
  refine lv_iload_n hx hb dX10_creditedAfter_1 rfl (lv_at hl 1 rfl) ?_
  obtain ⟨hPc, hDc, hFc⟩ := PDq.cut (wc := []) hP hD hS hA [] (by decide) rfl
  refine va_calli (va_runS (As := [.int i]) (rest := [.ref w0]) ⟨hx, hb, hml, hown, hts⟩ (r_isTrial l D cA sa i s.heap.size) (va_cwS 1 hts gX10_creditedAfter_X10_isTrial rfl rfl rfl (by decide +kernel) ⟨(Nat.le_of_ble_eq_true rfl), (Nat.le_of_ble_eq_true rfl)⟩) ⟨Wd.blind, fun U hU hW => ⟨rfl, Wd.call hPc hDc hK hC hZ hS hFc U hU hW⟩⟩ rfl rfl hl.1 rfl (lv_room (Nat.le_of_ble_eq_true rfl)) dX10_creditedAfter_2 ⟨(Nat.le_of_ble_eq_true rfl), (Nat.le_of_ble_eq_true rfl)⟩) hS (fun q _ h => hFc q h) hFc (fun rn1 u t H1 locs ht hvm hw hB hz1 hk1 hS => ?_)
  obtain ⟨hP1, hD1⟩ := hB
  rw [ht] at hP1
  obtain ⟨hP, hD⟩ := PDq.join (w := [(oX10 w0 v0 v1 v2 v3 v4 g5 g6 (nI ed) g8 v9 (nI nb) g11 g12 v13 g14 g15 g16 g17 g18 g19 g20 g21 g22 g23 g24 g25 g26 v27 v28 v29 v30 v31 v32 v33 v34 v35 v36 v37 (nI ol)), (v0, .inl (cA 0, 326, .inl fs)), (v31, .inl (cA 0, 400, .inl fc)), (v33, .inl (cA 0, 11, .inl fq)), (v35, .inl (cA 4, 400, .inl fk)), (v36, .inl (cA 0, 10, .inl fo)), (v2, .inl (cA 0, 326, .inl fa))]) 7 hP hD [] [0, 1, 2, 3, 4, 5, 6] rfl rfl (by decide) (by decide) hk1 hFc hP1 hD1 rfl
  generalize H1 = H at hP hS ⊢
  rcases hw with ⟨hr9, hn2⟩ | hr9
  · skip
    subst hr9
    obtain ⟨kn3, hn4, hn5, hn6⟩ := hn2
    rw [hn6] at hl
    have hl : lv_has ls 3 [(0, .ref w0), (1, .int (nI kn3))] := hl
    obtain ⟨hPc, hDc, hFc⟩ := PDq.cut (wc := [(oX10 w0 v0 v1 v2 v3 v4 g5 g6 (nI ed) g8 v9 (nI nb) g11 g12 v13 g14 g15 g16 g17 g18 g19 g20 g21 g22 g23 g24 g25 g26 v27 v28 v29 v30 v31 v32 v33 v34 v35 v36 v37 (nI ol))]) hP hD hS hA [0] (by decide) rfl
    refine va_calli (va_runV (As := [.int 1]) (rest := []) ⟨hx, hb, hml, hown, hts⟩ (r_good1 l D cA sa w0 ed nb ol v0 v1 v2 v3 v4 v9 v13 v27 v28 v29 v30 v31 v32 v33 v34 v35 v36 v37 g8 g11 g12 g14 g15 g16 g17 g18 g19 g20 g21 g22 g23 g24 g26 g5 g6 g25 H.size) (cwV 1 hts gX10_creditedAfter_X10_good rfl rfl rfl (by decide +kernel) ⟨(Nat.le_of_ble_eq_true rfl), (Nat.le_of_ble_eq_true rfl)⟩) ⟨Wd.blind, va_recv hK hPc (ci := 11) (q0 := 0) rfl rfl, fun U hU hW => ⟨rfl, Wd.call hPc hDc hK hC hZ hS hFc U hU hW⟩⟩ rfl rfl hl.1 rfl (lv_room (Nat.le_of_ble_eq_true rfl)) dX10_creditedAfter_5 ⟨(Nat.le_of_ble_eq_true rfl), (Nat.le_of_ble_eq_true rfl)⟩) hS (fun q _ h => hFc q h) hFc (fun rn7 u t H1 locs ht hvm hw hB hz1 hk1 hS => ?_)
    obtain ⟨hP1, hD1⟩ := hB
    rw [ht] at hP1
    obtain ⟨hP, hD⟩ := PDq.join (w := [(v0, .inl (cA 0, 326, .inl fs)), (v31, .inl (cA 0, 400, .inl fc)), (v33, .inl (cA 0, 11, .inl fq)), (v35, .inl (cA 4, 400, .inl fk)), (v36, .inl (cA 0, 10, .inl fo)), (v2, .inl (cA 0, 326, .inl fa)), (oX10 w0 v0 v1 v2 v3 v4 g5 g6 (nI ed) 0 v9 (nI nb) g11 g12 v13 g14 g15 g16 g17 g18 g19 g20 g21 g22 g23 g24 g25 g26 v27 v28 v29 v30 v31 v32 v33 v34 v35 v36 v37 (nI ol))]) 6 hP hD [0] [1, 2, 3, 4, 5, 6] rfl rfl (by decide) (by decide) hk1 hFc hP1 hD1 rfl
    generalize H1 = H at hP hS ⊢
    obtain rfl : rn7 = 1 := hw
    refine lv_if_ne (tgt := 13) hx hb dX10_creditedAfter_8 (by decide) (fun c8 => ?_) (fun c9 => absurd c9 (by decide))
    refine lv_aload_n hx hb dX10_creditedAfter_13 rfl (lv_at hl 0 rfl) ?_
    obtain ⟨hPc, hDc, hFc⟩ := PDq.cut (wc := [(oX10 w0 v0 v1 v2 v3 v4 g5 g6 (nI ed) 0 v9 (nI nb) g11 g12 v13 g14 g15 g16 g17 g18 g19 g20 g21 g22 g23 g24 g25 g26 v27 v28 v29 v30 v31 v32 v33 v34 v35 v36 v37 (nI ol)), (v0, .inl (cA 0, 326, .inl fs)), (v2, .inl (cA 0, 326, .inl fa))]) hP hD hS hA [6, 0, 5] (by decide) rfl
    refine va_callv (va_runV (As := []) (rest := []) ⟨hx, hb, hml, hown, hts⟩ (e_beginTrial l D cA sa w0 ed nb ol v0 v1 v2 v3 v4 v9 v13 v27 v28 v29 v30 v31 v32 v33 v34 v35 v36 v37 0 g11 g12 g14 g15 g16 g17 g18 g19 g20 g21 g22 g23 g24 g26 g5 g6 g25 cn pq en dy fs fa H.size hcn hpq hen hdy hri) (cwV 0 hts gX10_creditedAfter_X10_beginTrial rfl rfl rfl (by decide +kernel) ⟨(Nat.le_of_ble_eq_true rfl), (Nat.le_of_ble_eq_true rfl)⟩) ⟨Wd.blind, va_recv hK hPc (ci := 11) (q0 := 0) rfl rfl, fun U hU hW => ⟨rfl, Wd.call hPc hDc hK hC hZ hS hFc U hU hW⟩⟩ rfl rfl hl.1 rfl (lv_room (Nat.le_of_ble_eq_true rfl)) dX10_creditedAfter_14 ⟨(Nat.le_of_ble_eq_true rfl), (Nat.le_of_ble_eq_true rfl)⟩) hS (fun q _ h => hFc q h) hFc (fun u t H1 locs ht hvm hw hB hz1 hk1 hS => ?_)
    obtain ⟨fn9, hn10, hn11, hP1, hD1⟩ := hB
    rw [ht] at hP1
    obtain ⟨hP, hD⟩ := PDq.join (w := [(v31, .inl (cA 0, 400, .inl fc)), (v33, .inl (cA 0, 11, .inl fq)), (v35, .inl (cA 4, 400, .inl fk)), (v36, .inl (cA 0, 10, .inl fo)), (oX10 w0 v0 v1 v2 v3 v4 g5 g5 (nI ed) 0 v9 (nI nb) g11 g12 v13 g14 g15 g16 g17 g18 g19 g20 g21 g22 g23 g24 g25 g26 v27 v28 v29 v30 v31 v32 v33 v34 v35 v36 v37 (nI ol)), (v0, .inl (cA 0, 326, .inl fs)), (v2, .inl (cA 0, 326, .inl fn9))]) 4 hP hD [6, 0, 5] [1, 2, 3, 4] rfl rfl (by decide) (by decide) hk1 hFc hP1 hD1 rfl
    generalize H1 = H at hP hS ⊢
    refine lv_aload_n hx hb dX10_creditedAfter_17 rfl (lv_at hl 0 rfl) ?_
    refine lv_iload_n hx hb dX10_creditedAfter_18 rfl (lv_at hl 1 rfl) ?_
    obtain ⟨hPc, hDc, hFc⟩ := PDq.cut (wc := [(oX10 w0 v0 v1 v2 v3 v4 g5 g5 (nI ed) 0 v9 (nI nb) g11 g12 v13 g14 g15 g16 g17 g18 g19 g20 g21 g22 g23 g24 g25 g26 v27 v28 v29 v30 v31 v32 v33 v34 v35 v36 v37 (nI ol)), (v0, .inl (cA 0, 326, .inl fs)), (v31, .inl (cA 0, 400, .inl fc)), (v33, .inl (cA 0, 11, .inl fq)), (v35, .inl (cA 4, 400, .inl fk)), (v36, .inl (cA 0, 10, .inl fo))]) hP hD hS hA [4, 5, 0, 1, 2, 3] (by decide) rfl
    refine va_callv (va_runV (As := [.int (nI kn3)]) (rest := []) ⟨hx, hb, hml, hown, hts⟩ (e_passDays l D cA sa w0 ed nb ol v0 v1 v2 v3 v4 v9 v13 v27 v28 v29 v30 v31 v32 v33 v34 v35 v36 v37 0 g11 g12 g14 g15 g16 g17 g18 g19 g20 g21 g22 g23 g24 g26 g5 g5 g25 cn pq en dy fs fc fq fk cq fo kn3 H.size hcn hpq hen hdy hri hCQ hcq hbit hord (by omega) (by omega)) (cwV 1 hts gX10_creditedAfter_X10_passDays rfl rfl rfl (by decide +kernel) ⟨(Nat.le_of_ble_eq_true rfl), (Nat.le_of_ble_eq_true rfl)⟩) ⟨Wd.blind, va_recv hK hPc (ci := 11) (q0 := 0) rfl rfl, fun U hU hW => ⟨rfl, Wd.call hPc hDc hK hC hZ hS hFc U hU hW⟩⟩ rfl rfl hl.1 rfl (lv_room (Nat.le_of_ble_eq_true rfl)) dX10_creditedAfter_19 ⟨(Nat.le_of_ble_eq_true rfl), (Nat.le_of_ble_eq_true rfl)⟩) hS (fun q _ h => hFc q h) hFc (fun u t H1 locs ht hvm hw hB hz1 hk1 hS => ?_)
    obtain ⟨qn12, qn13, zn14, fn15, fn16, fn17, hn18, hn19, hn20, hn21, hn22, hn23, hP1, hD1⟩ := hB
    rw [ht] at hP1
    obtain ⟨hP, hD⟩ := PDq.join (w := [(v2, .inl (cA 0, 326, .inl fn9)), (oX10 w0 v0 v1 v2 v3 v4 zn14 g5 (nI ed) 0 v9 (nI nb) g11 g12 v13 g14 g15 g16 g17 g18 g19 g20 g21 g22 g23 g24 g25 g26 v27 v28 v29 v30 v31 v32 v33 v34 v35 v36 v37 (nI ol)), (v0, .inl (cA 0, 326, .inl fn15)), (v31, .inl (cA 0, 400, .inl fc)), (v33, .inl (cA 0, 11, .inl fq)), (v35, .inl (cA 4, 400, .inl fn16)), (v36, .inl (cA 0, 10, .inl fn17))]) 1 hP hD [4, 5, 0, 1, 2, 3] [6] rfl rfl (by decide) (by decide) hk1 hFc hP1 hD1 rfl
    generalize H1 = H at hP hS ⊢
    refine lv_aload_n hx hb dX10_creditedAfter_22 rfl (lv_at hl 0 rfl) ?_
    refine va_get (D := D) (ci := 11) (v := .ref v0) (C := RX10) (T := TX10) (N := 39) hx hb hts inX10 hown hK hP 1 rfl rfl 0 (by decide) (hts (.fieldLink RX10 7 "EscrowDeskModel" "s" "[I") (by decide +kernel)) (fun _ h9 => h9) rfl dX10_creditedAfter_23 ?_
    refine lv_bipush (v := 8) hx hb dX10_creditedAfter_26 (by decide) ?_
    refine va_iald hx hb hK hP 2 0 rfl rfl (vp_in_iff.mpr (by decide)) dX10_creditedAfter_28 ?_
    refine lv_topi (fun yn24 eyn24 => ?_)
    refine lv_istore_n (lv' := [(2, .int yn24), (0, .ref w0), (1, .int (nI kn3))]) hx hb dX10_creditedAfter_29 rfl hl (by decide) rfl (fun ls hl => ?_)
    refine lv_aload_n hx hb dX10_creditedAfter_30 rfl (lv_at hl 1 rfl) ?_
    obtain ⟨hPc, hDc, hFc⟩ := PDq.cut (wc := [(oX10 w0 v0 v1 v2 v3 v4 zn14 g5 (nI ed) 0 v9 (nI nb) g11 g12 v13 g14 g15 g16 g17 g18 g19 g20 g21 g22 g23 g24 g25 g26 v27 v28 v29 v30 v31 v32 v33 v34 v35 v36 v37 (nI ol)), (v0, .inl (cA 0, 326, .inl fn15)), (v2, .inl (cA 0, 326, .inl fn9))]) hP hD hS hA [1, 2, 0] (by decide) rfl
    refine va_callv (va_runV (As := []) (rest := []) ⟨hx, hb, hml, hown, hts⟩ (e_endTrial l D cA sa w0 ed nb ol v0 v1 v2 v3 v4 v9 v13 v27 v28 v29 v30 v31 v32 v33 v34 v35 v36 v37 0 g11 g12 g14 g15 g16 g17 g18 g19 g20 g21 g22 g23 g24 g26 zn14 g5 g25 cn pq en dy fn9 fn15 H.size hcn hpq hen hdy hn10) (cwV 0 hts gX10_creditedAfter_X10_endTrial rfl rfl rfl (by decide +kernel) ⟨(Nat.le_of_ble_eq_true rfl), (Nat.le_of_ble_eq_true rfl)⟩) ⟨Wd.blind, va_recv hK hPc (ci := 11) (q0 := 0) rfl rfl, fun U hU hW => ⟨rfl, Wd.call hPc hDc hK hC hZ hS hFc U hU hW⟩⟩ rfl rfl hl.1 rfl (lv_room (Nat.le_of_ble_eq_true rfl)) dX10_creditedAfter_31 ⟨(Nat.le_of_ble_eq_true rfl), (Nat.le_of_ble_eq_true rfl)⟩) hS (fun q _ h => hFc q h) hFc (fun u t H1 locs ht hvm hw hB hz1 hk1 hS => ?_)
    obtain ⟨fn25, hn26, hn27, hP1, hD1⟩ := hB
    rw [ht] at hP1
    obtain ⟨hP, hD⟩ := PDq.join (w := [(v31, .inl (cA 0, 400, .inl fc)), (v33, .inl (cA 0, 11, .inl fq)), (v35, .inl (cA 4, 400, .inl fn16)), (v36, .inl (cA 0, 10, .inl fn17)), (oX10 w0 v0 v1 v2 v3 v4 g5 g5 (nI ed) 0 v9 (nI nb) g11 g12 v13 g14 g15 g16 g17 g18 g19 g20 g21 g22 g23 g24 g25 g26 v27 v28 v29 v30 v31 v32 v33 v34 v35 v36 v37 (nI ol)), (v0, .inl (cA 0, 326, .inl fn25)), (v2, .inl (cA 0, 326, .inl fn9))]) 4 hP hD [1, 2, 0] [3, 4, 5, 6] rfl rfl (by decide) (by decide) hk1 hFc hP1 hD1 rfl
    generalize H1 = H at hP hS ⊢
    refine lv_iload_n hx hb dX10_creditedAfter_34 rfl (lv_at hl 0 rfl) ?_
    obtain ⟨hP9, hD9⟩ := PDq.sub (ws' := [(oX10 w0 v0 v1 v2 v3 v4 g5 g5 (nI ed) 0 v9 (nI nb) g11 g12 v13 g14 g15 g16 g17 g18 g19 g20 g21 g22 g23 g24 g25 g26 v27 v28 v29 v30 v31 v32 v33 v34 v35 v36 v37 (nI ol)), (v0, .inl (cA 0, 326, .inl fn25)), (v31, .inl (cA 0, 400, .inl fc)), (v33, .inl (cA 0, 11, .inl fq)), (v35, .inl (cA 4, 400, .inl fn16)), (v36, .inl (cA 0, 10, .inl fn17)), (v2, .inl (cA 0, 326, .inl fn9))]) hP hD [4, 5, 0, 1, 2, 3, 6] (by decide) rfl
    refine W.widen (k := 0) (n := 0) (Nat.le_of_ble_eq_true rfl) (Nat.le_of_ble_eq_true rfl) ?_
    exact (W.iret (v := yn24) hx hb hr (fun t ht hW => ⟨⟨yn24, (), rfl, trivial, 0, g5, fn25, fn16, fn17, fn9, hn26, hn20, hn21, (fun j hj => (hn27 j hj).trans (hn11 j hj)), by rw [ht]; exact hP9, hD9⟩, hS.F ht⟩) hS.2.2 dX10_creditedAfter_35)
  · skip
    subst hr9
    obtain ⟨hPc, hDc, hFc⟩ := PDq.cut (wc := [(oX10 w0 v0 v1 v2 v3 v4 g5 g6 (nI ed) g8 v9 (nI nb) g11 g12 v13 g14 g15 g16 g17 g18 g19 g20 g21 g22 g23 g24 g25 g26 v27 v28 v29 v30 v31 v32 v33 v34 v35 v36 v37 (nI ol))]) hP hD hS hA [0] (by decide) rfl
    refine va_calli (va_runV (As := [.int 0]) (rest := []) ⟨hx, hb, hml, hown, hts⟩ (r_good0 l D cA sa w0 ed nb ol v0 v1 v2 v3 v4 v9 v13 v27 v28 v29 v30 v31 v32 v33 v34 v35 v36 v37 g8 g11 g12 g14 g15 g16 g17 g18 g19 g20 g21 g22 g23 g24 g26 g5 g6 g25 H.size) (cwV 1 hts gX10_creditedAfter_X10_good rfl rfl rfl (by decide +kernel) ⟨(Nat.le_of_ble_eq_true rfl), (Nat.le_of_ble_eq_true rfl)⟩) ⟨Wd.blind, va_recv hK hPc (ci := 11) (q0 := 0) rfl rfl, fun U hU hW => ⟨rfl, Wd.call hPc hDc hK hC hZ hS hFc U hU hW⟩⟩ rfl rfl hl.1 rfl (lv_room (Nat.le_of_ble_eq_true rfl)) dX10_creditedAfter_5 ⟨(Nat.le_of_ble_eq_true rfl), (Nat.le_of_ble_eq_true rfl)⟩) hS (fun q _ h => hFc q h) hFc (fun rn28 u t H1 locs ht hvm hw hB hz1 hk1 hS => ?_)
    obtain ⟨hP1, hD1⟩ := hB
    rw [ht] at hP1
    obtain ⟨hP, hD⟩ := PDq.join (w := [(v0, .inl (cA 0, 326, .inl fs)), (v31, .inl (cA 0, 400, .inl fc)), (v33, .inl (cA 0, 11, .inl fq)), (v35, .inl (cA 4, 400, .inl fk)), (v36, .inl (cA 0, 10, .inl fo)), (v2, .inl (cA 0, 326, .inl fa)), (oX10 w0 v0 v1 v2 v3 v4 g5 g6 (nI ed) 1 v9 (nI nb) g11 g12 v13 g14 g15 g16 g17 g18 g19 g20 g21 g22 g23 g24 g25 g26 v27 v28 v29 v30 v31 v32 v33 v34 v35 v36 v37 (nI ol))]) 6 hP hD [0] [1, 2, 3, 4, 5, 6] rfl rfl (by decide) (by decide) hk1 hFc hP1 hD1 rfl
    generalize H1 = H at hP hS ⊢
    obtain rfl : rn28 = 0 := hw
    refine lv_if_ne (tgt := 13) hx hb dX10_creditedAfter_8 (by decide) (fun c9 => absurd c9 (by decide)) (fun c29 => ?_)
    refine lv_iconst (v := 0) hx hb dX10_creditedAfter_11 (by decide) ?_
    obtain ⟨hP9, hD9⟩ := PDq.sub (ws' := [(oX10 w0 v0 v1 v2 v3 v4 g5 g6 (nI ed) 1 v9 (nI nb) g11 g12 v13 g14 g15 g16 g17 g18 g19 g20 g21 g22 g23 g24 g25 g26 v27 v28 v29 v30 v31 v32 v33 v34 v35 v36 v37 (nI ol)), (v0, .inl (cA 0, 326, .inl fs)), (v31, .inl (cA 0, 400, .inl fc)), (v33, .inl (cA 0, 11, .inl fq)), (v35, .inl (cA 4, 400, .inl fk)), (v36, .inl (cA 0, 10, .inl fo)), (v2, .inl (cA 0, 326, .inl fa))]) hP hD [6, 0, 1, 2, 3, 4, 5] (by decide) rfl
    refine W.widen (k := 0) (n := 0) (Nat.le_of_ble_eq_true rfl) (Nat.le_of_ble_eq_true rfl) ?_
    exact (W.iret (v := 0) hx hb hr (fun t ht hW => ⟨⟨0, (), rfl, trivial, 1, g6, fs, fk, fo, fa, hri, hbit, hord, (fun _ _ => rfl), by rw [ht]; exact hP9, hD9⟩, hS.F ht⟩) hS.2.2 dX10_creditedAfter_12)

set_option maxHeartbeats 4000000 in
set_option maxRecDepth 100000 in
/-- reference, exactly: paidAfter -/
theorem e_paidAfter (l : Launch) (D : va_G) (cA : Nat → ClassId) (sa : Nat → Nat) (w0 : Nat) (ed : Nat) (nb : Nat) (ol : Nat) (v0 : Nat) (v1 : Nat) (v2 : Nat) (v3 : Nat) (v4 : Nat) (v9 : Nat) (v13 : Nat) (v27 : Nat) (v28 : Nat) (v29 : Nat) (v30 : Nat) (v31 : Nat) (v32 : Nat) (v33 : Nat) (v34 : Nat) (v35 : Nat) (v36 : Nat) (v37 : Nat) (g8 : Int32) (g11 : Int32) (g12 : Int32) (g14 : Int32) (g15 : Int32) (g16 : Int32) (g17 : Int32) (g18 : Int32) (g19 : Int32) (g20 : Int32) (g21 : Int32) (g22 : Int32) (g23 : Int32) (g24 : Int32) (g26 : Int32) (g5 : Int64) (g6 : Int64) (g25 : Int64) (cn : Nat) (pq : Nat) (en : Nat) (dy : Nat) (fs : Nat → Int32) (fc : Nat → Int32) (fq : Nat → Int32) (fk : Nat → Int32) (cq : Nat → Nat) (fo : Nat → Int32) (fa : Nat → Int32) (i : Int32) (j : Int32) (sz : Nat) (hcn : cn ≤ 10) (hpq : pq ≤ 8) (hen : en ≤ 60) (hdy : dy ≤ 20000) (hri : RI cn pq en dy fs) (hCQ : CQ cn fc cq) (hcq : Elq cn cq fq) (hbit : Bit 400 fk) (hord : Rng 10 10 fo) (hd9 : dy ≤ 9999) : Met l yX10_paidAfter wsX10_paidAfter ({ frames := 7, cells := 0, slots := 0, locals := 151 }) (va_Pc [.ref w0, .int i, .int j] (Wd D cA sa [(oX10 w0 v0 v1 v2 v3 v4 g5 g6 (nI ed) g8 v9 (nI nb) g11 g12 v13 g14 g15 g16 g17 g18 g19 g20 g21 g22 g23 g24 g25 g26 v27 v28 v29 v30 v31 v32 v33 v34 v35 v36 v37 (nI ol)), (v0, .inl (cA 0, 326, .inl fs)), (v31, .inl (cA 0, 400, .inl fc)), (v33, .inl (cA 0, 11, .inl fq)), (v35, .inl (cA 4, 400, .inl fk)), (v36, .inl (cA 0, 10, .inl fo)), (v2, .inl (cA 0, 326, .inl fa))] sz)) (va_Qi (fun (r : Int32) (_ : Unit) => True) (fun (_ : Unit) t => ∃ zt : Int32, ∃ z6 : Int64, ∃ zs : Nat → Int32, ∃ zk : Nat → Int32, ∃ zo : Nat → Int32, ∃ za : Nat → Int32, RI cn pq en dy zs ∧ Bit 400 zk ∧ Rng 10 10 zo ∧ Cp 326 fs zs ∧ Wq D (va_A [(oX10 w0 v0 v1 v2 v3 v4 g5 g6 (nI ed) g8 v9 (nI nb) g11 g12 v13 g14 g15 g16 g17 g18 g19 g20 g21 g22 g23 g24 g25 g26 v27 v28 v29 v30 v31 v32 v33 v34 v35 v36 v37 (nI ol)), (v0, .inl (cA 0, 326, .inl fs)), (v31, .inl (cA 0, 400, .inl fc)), (v33, .inl (cA 0, 11, .inl fq)), (v35, .inl (cA 4, 400, .inl fk)), (v36, .inl (cA 0, 10, .inl fo)), (v2, .inl (cA 0, 326, .inl fa))] sz) [(oX10 w0 v0 v1 v2 v3 v4 g5 z6 (nI ed) zt v9 (nI nb) g11 g12 v13 g14 g15 g16 g17 g18 g19 g20 g21 g22 g23 g24 g25 g26 v27 v28 v29 v30 v31 v32 v33 v34 v35 v36 v37 (nI ol)), (v0, .inl (cA 0, 326, .inl zs)), (v31, .inl (cA 0, 400, .inl fc)), (v33, .inl (cA 0, 11, .inl fq)), (v35, .inl (cA 4, 400, .inl zk)), (v36, .inl (cA 0, 10, .inl zo)), (v2, .inl (cA 0, 326, .inl za))] t) (va_A [(oX10 w0 v0 v1 v2 v3 v4 g5 g6 (nI ed) g8 v9 (nI nb) g11 g12 v13 g14 g15 g16 g17 g18 g19 g20 g21 g22 g23 g24 g25 g26 v27 v28 v29 v30 v31 v32 v33 v34 v35 v36 v37 (nI ol)), (v0, .inl (cA 0, 326, .inl fs)), (v31, .inl (cA 0, 400, .inl fc)), (v33, .inl (cA 0, 11, .inl fq)), (v35, .inl (cA 4, 400, .inl fk)), (v36, .inl (cA 0, 10, .inl fo)), (v2, .inl (cA 0, 326, .inl fa))] sz)) 0 0 (va_A [(oX10 w0 v0 v1 v2 v3 v4 g5 g6 (nI ed) g8 v9 (nI nb) g11 g12 v13 g14 g15 g16 g17 g18 g19 g20 g21 g22 g23 g24 g25 g26 v27 v28 v29 v30 v31 v32 v33 v34 v35 v36 v37 (nI ol)), (v0, .inl (cA 0, 326, .inl fs)), (v31, .inl (cA 0, 400, .inl fc)), (v33, .inl (cA 0, 11, .inl fq)), (v35, .inl (cA 4, 400, .inl fk)), (v36, .inl (cA 0, 10, .inl fo)), (v2, .inl (cA 0, 326, .inl fa))] sz) := by
  refine Met.ofW (cc := cX10_paidAfter) (maxL := 4) (ret := (some .int)) (by decide) rfl ?_
  intro p e s m args below meth c s₁ B hml hv
  obtain ⟨rfl, hsz, hP, hK, hD0, hC, hZ⟩ := hv
  have hx := B.exec
  have hb := B.bytes
  have hr := B.returns
  have hts := atoms_spec (ws := wsX10_paidAfter) B.pre
  have hown : s.vm.findClass RX10 = some m.cls := findClass_of_methodNamed B.named
  have hlocks := B.notSynchronized
  subst hsz
  have hD := hD0.self (sz := s.heap.size)
  generalize hAe : va_A [(oX10 w0 v0 v1 v2 v3 v4 g5 g6 (nI ed) g8 v9 (nI nb) g11 g12 v13 g14 g15 g16 g17 g18 g19 g20 g21 g22 g23 g24 g25 g26 v27 v28 v29 v30 v31 v32 v33 v34 v35 v36 v37 (nI ol)), (v0, .inl (cA 0, 326, .inl fs)), (v31, .inl (cA 0, 400, .inl fc)), (v33, .inl (cA 0, 11, .inl fq)), (v35, .inl (cA 4, 400, .inl fk)), (v36, .inl (cA 0, 10, .inl fo)), (v2, .inl (cA 0, 326, .inl fa))] s.heap.size = A at hD hZ ⊢
  have hA : ∀ q : Nat, s.heap.size ≤ q → A q := fun q h => by rw [← hAe]; exact Or.inr h
  have hS : va_S A s.heap s.heap [] := va_S.rf
  have hP : va_P D vwCl [(oX10 w0 v0 v1 v2 v3 v4 g5 g6 (nI ed) g8 v9 (nI nb) g11 g12 v13 g14 g15 g16 g17 g18 g19 g20 g21 g22 g23 g24 g25 g26 v27 v28 v29 v30 v31 v32 v33 v34 v35 v36 v37 (nI ol)), (v0, .inl (cA 0, 326, .inl fs)), (v31, .inl (cA 0, 400, .inl fc)), (v33, .inl (cA 0, 11, .inl fq)), (v35, .inl (cA 4, 400, .inl fk)), (v36, .inl (cA 0, 10, .inl fo)), (v2, .inl (cA 0, 326, .inl fa))] s.heap := hP
  have hl := lv_entry ([.ref w0, .int i, .int j]) (n := 4) (Nat.le_of_ble_eq_true rfl)
  rw [lg_entry_eq]
  generalize (lg_sl ([.ref w0, .int i, .int j]) ++ List.replicate (4 - (lg_sl ([.ref w0, .int i, .int j])).length) Slot.unset).toArray = ls at hl ⊢
  have hl : lv_has ls 4 [(0, .ref w0), (1, .int i), (2, .int j)] := hl
  refine lv_aload_n hx hb dX10_paidAfter_0 rfl (lv_at hl 0 rfl) ?_
  refine lv_aload_n hx hb dX10_paidAfter_1 rfl (lv_at hl 0 rfl) ?_
  refine lv_iload_n hx hb dX10_paidAfter_2 rfl (lv_at hl 1 rfl) ?_
  obtain ⟨hPc, hDc, hFc⟩ := PDq.cut (wc := [(oX10 w0 v0 v1 v2 v3 v4 g5 g6 (nI ed) g8 v9 (nI nb) g11 g12 v13 g14 g15 g16 g17 g18 g19 g20 g21 g22 g23 g24 g25 g26 v27 v28 v29 v30 v31 v32 v33 v34 v35 v36 v37 (nI ol)), (v0, .inl (cA 0, 326, .inl fs))]) hP hD hS hA [0, 1] (by decide) rfl
  refine va_calli (va_runV (As := [.int i]) (rest := [.ref w0]) ⟨hx, hb, hml, hown, hts⟩ (r_isMilestone l D cA sa w0 ed nb ol v0 v1 v2 v3 v4 v9 v13 v27 v28 v29 v30 v31 v32 v33 v34 v35 v36 v37 g8 g11 g12 g14 g15 g16 g17 g18 g19 g20 g21 g22 g23 g24 g26 g5 g6 g25 cn pq en dy fs i s.heap.size hcn hpq hen hdy hri) (cwV 1 hts gX10_paidAfter_X10_isMilestone rfl rfl rfl (by decide +kernel) ⟨(Nat.le_of_ble_eq_true rfl), (Nat.le_of_ble_eq_true rfl)⟩) ⟨Wd.blind, va_recv hK hPc (ci := 11) (q0 := 0) rfl rfl, fun U hU hW => ⟨rfl, Wd.call hPc hDc hK hC hZ hS hFc U hU hW⟩⟩ rfl rfl hl.1 rfl (lv_room (Nat.le_of_ble_eq_true rfl)) dX10_paidAfter_3 ⟨(Nat.le_of_ble_eq_true rfl), (Nat.le_of_ble_eq_true rfl)⟩) hS (fun q _ h => hFc q h) hFc (fun rn1 u t H1 locs ht hvm hw hB hz1 hk1 hS => ?_)
  obtain ⟨hP1, hD1⟩ := hB
  rw [ht] at hP1
  obtain ⟨hP, hD⟩ := PDq.join (w := [(v31, .inl (cA 0, 400, .inl fc)), (v33, .inl (cA 0, 11, .inl fq)), (v35, .inl (cA 4, 400, .inl fk)), (v36, .inl (cA 0, 10, .inl fo)), (v2, .inl (cA 0, 326, .inl fa)), (oX10 w0 v0 v1 v2 v3 v4 g5 g6 (nI ed) g8 v9 (nI nb) g11 g12 v13 g14 g15 g16 g17 g18 g19 g20 g21 g22 g23 g24 g25 g26 v27 v28 v29 v30 v31 v32 v33 v34 v35 v36 v37 (nI ol)), (v0, .inl (cA 0, 326, .inl fs))]) 5 hP hD [0, 1] [2, 3, 4, 5, 6] rfl rfl (by decide) (by decide) hk1 hFc hP1 hD1 rfl
  generalize H1 = H at hP hS ⊢
  rcases hw with ⟨hr9, hn2⟩ | hr9
  · skip
    subst hr9
    obtain ⟨kn3, hn4, hn5⟩ := hn2
    rw [hn5] at hl
    have hl : lv_has ls 4 [(0, .ref w0), (1, .int (nI kn3)), (2, .int j)] := hl
    refine lv_iload_n hx hb dX10_paidAfter_6 rfl (lv_at hl 2 rfl) ?_
    obtain ⟨hPc, hDc, hFc⟩ := PDq.cut (wc := []) hP hD hS hA [] (by decide) rfl
    refine va_calli (va_runS (As := [.int j]) (rest := [.int 1, .ref w0]) ⟨hx, hb, hml, hown, hts⟩ (r_isTrial l D cA sa j H.size) (va_cwS 1 hts gX10_paidAfter_X10_isTrial rfl rfl rfl (by decide +kernel) ⟨(Nat.le_of_ble_eq_true rfl), (Nat.le_of_ble_eq_true rfl)⟩) ⟨Wd.blind, fun U hU hW => ⟨rfl, Wd.call hPc hDc hK hC hZ hS hFc U hU hW⟩⟩ rfl rfl hl.1 rfl (lv_room (Nat.le_of_ble_eq_true rfl)) dX10_paidAfter_7 ⟨(Nat.le_of_ble_eq_true rfl), (Nat.le_of_ble_eq_true rfl)⟩) hS (fun q _ h => hFc q h) hFc (fun rn6 u t H1 locs ht hvm hw hB hz1 hk1 hS => ?_)
    obtain ⟨hP1, hD1⟩ := hB
    rw [ht] at hP1
    obtain ⟨hP, hD⟩ := PDq.join (w := [(v31, .inl (cA 0, 400, .inl fc)), (v33, .inl (cA 0, 11, .inl fq)), (v35, .inl (cA 4, 400, .inl fk)), (v36, .inl (cA 0, 10, .inl fo)), (v2, .inl (cA 0, 326, .inl fa)), (oX10 w0 v0 v1 v2 v3 v4 g5 g6 (nI ed) g8 v9 (nI nb) g11 g12 v13 g14 g15 g16 g17 g18 g19 g20 g21 g22 g23 g24 g25 g26 v27 v28 v29 v30 v31 v32 v33 v34 v35 v36 v37 (nI ol)), (v0, .inl (cA 0, 326, .inl fs))]) 7 hP hD [] [0, 1, 2, 3, 4, 5, 6] rfl rfl (by decide) (by decide) hk1 hFc hP1 hD1 rfl
    generalize H1 = H at hP hS ⊢
    rcases hw with ⟨hr9, hn7⟩ | hr9
    · skip
      subst hr9
      obtain ⟨kn8, hn9, hn10, hn11⟩ := hn7
      rw [hn11] at hl
      have hl : lv_has ls 4 [(0, .ref w0), (1, .int (nI kn3)), (2, .int (nI kn8))] := hl
      obtain ⟨hPc, hDc, hFc⟩ := PDq.cut (wc := [(oX10 w0 v0 v1 v2 v3 v4 g5 g6 (nI ed) g8 v9 (nI nb) g11 g12 v13 g14 g15 g16 g17 g18 g19 g20 g21 g22 g23 g24 g25 g26 v27 v28 v29 v30 v31 v32 v33 v34 v35 v36 v37 (nI ol))]) hP hD hS hA [5] (by decide) rfl
      refine va_calli (va_runV (As := [.int 1, .int 1]) (rest := []) ⟨hx, hb, hml, hown, hts⟩ (r_good_11 l D cA sa w0 ed nb ol v0 v1 v2 v3 v4 v9 v13 v27 v28 v29 v30 v31 v32 v33 v34 v35 v36 v37 g8 g11 g12 g14 g15 g16 g17 g18 g19 g20 g21 g22 g23 g24 g26 g5 g6 g25 H.size) (cwV 2 hts gX10_paidAfter_X10_good_ rfl rfl rfl (by decide +kernel) ⟨(Nat.le_of_ble_eq_true rfl), (Nat.le_of_ble_eq_true rfl)⟩) ⟨Wd.blind, va_recv hK hPc (ci := 11) (q0 := 0) rfl rfl, fun U hU hW => ⟨rfl, Wd.call hPc hDc hK hC hZ hS hFc U hU hW⟩⟩ rfl rfl hl.1 rfl (lv_room (Nat.le_of_ble_eq_true rfl)) dX10_paidAfter_10 ⟨(Nat.le_of_ble_eq_true rfl), (Nat.le_of_ble_eq_true rfl)⟩) hS (fun q _ h => hFc q h) hFc (fun rn12 u t H1 locs ht hvm hw hB hz1 hk1 hS => ?_)
      obtain ⟨hP1, hD1⟩ := hB
      rw [ht] at hP1
      obtain ⟨hP, hD⟩ := PDq.join (w := [(v31, .inl (cA 0, 400, .inl fc)), (v33, .inl (cA 0, 11, .inl fq)), (v35, .inl (cA 4, 400, .inl fk)), (v36, .inl (cA 0, 10, .inl fo)), (v2, .inl (cA 0, 326, .inl fa)), (v0, .inl (cA 0, 326, .inl fs)), (oX10 w0 v0 v1 v2 v3 v4 g5 g6 (nI ed) 0 v9 (nI nb) g11 g12 v13 g14 g15 g16 g17 g18 g19 g20 g21 g22 g23 g24 g25 g26 v27 v28 v29 v30 v31 v32 v33 v34 v35 v36 v37 (nI ol))]) 6 hP hD [5] [0, 1, 2, 3, 4, 6] rfl rfl (by decide) (by decide) hk1 hFc hP1 hD1 rfl
      generalize H1 = H at hP hS ⊢
      obtain rfl : rn12 = 1 := hw
      refine lv_if_ne (tgt := 18) hx hb dX10_paidAfter_13 (by decide) (fun c13 => ?_) (fun c9 => absurd c9 (by decide))
      refine lv_aload_n hx hb dX10_paidAfter_18 rfl (lv_at hl 0 rfl) ?_
      obtain ⟨hPc, hDc, hFc⟩ := PDq.cut (wc := [(oX10 w0 v0 v1 v2 v3 v4 g5 g6 (nI ed) 0 v9 (nI nb) g11 g12 v13 g14 g15 g16 g17 g18 g19 g20 g21 g22 g23 g24 g25 g26 v27 v28 v29 v30 v31 v32 v33 v34 v35 v36 v37 (nI ol)), (v0, .inl (cA 0, 326, .inl fs)), (v2, .inl (cA 0, 326, .inl fa))]) hP hD hS hA [6, 5, 4] (by decide) rfl
      refine va_callv (va_runV (As := []) (rest := []) ⟨hx, hb, hml, hown, hts⟩ (e_beginTrial l D cA sa w0 ed nb ol v0 v1 v2 v3 v4 v9 v13 v27 v28 v29 v30 v31 v32 v33 v34 v35 v36 v37 0 g11 g12 g14 g15 g16 g17 g18 g19 g20 g21 g22 g23 g24 g26 g5 g6 g25 cn pq en dy fs fa H.size hcn hpq hen hdy hri) (cwV 0 hts gX10_paidAfter_X10_beginTrial rfl rfl rfl (by decide +kernel) ⟨(Nat.le_of_ble_eq_true rfl), (Nat.le_of_ble_eq_true rfl)⟩) ⟨Wd.blind, va_recv hK hPc (ci := 11) (q0 := 0) rfl rfl, fun U hU hW => ⟨rfl, Wd.call hPc hDc hK hC hZ hS hFc U hU hW⟩⟩ rfl rfl hl.1 rfl (lv_room (Nat.le_of_ble_eq_true rfl)) dX10_paidAfter_19 ⟨(Nat.le_of_ble_eq_true rfl), (Nat.le_of_ble_eq_true rfl)⟩) hS (fun q _ h => hFc q h) hFc (fun u t H1 locs ht hvm hw hB hz1 hk1 hS => ?_)
      obtain ⟨fn14, hn15, hn16, hP1, hD1⟩ := hB
      rw [ht] at hP1
      obtain ⟨hP, hD⟩ := PDq.join (w := [(v31, .inl (cA 0, 400, .inl fc)), (v33, .inl (cA 0, 11, .inl fq)), (v35, .inl (cA 4, 400, .inl fk)), (v36, .inl (cA 0, 10, .inl fo)), (oX10 w0 v0 v1 v2 v3 v4 g5 g5 (nI ed) 0 v9 (nI nb) g11 g12 v13 g14 g15 g16 g17 g18 g19 g20 g21 g22 g23 g24 g25 g26 v27 v28 v29 v30 v31 v32 v33 v34 v35 v36 v37 (nI ol)), (v0, .inl (cA 0, 326, .inl fs)), (v2, .inl (cA 0, 326, .inl fn14))]) 4 hP hD [6, 5, 4] [0, 1, 2, 3] rfl rfl (by decide) (by decide) hk1 hFc hP1 hD1 rfl
      generalize H1 = H at hP hS ⊢
      refine lv_aload_n hx hb dX10_paidAfter_22 rfl (lv_at hl 0 rfl) ?_
      refine lv_iload_n hx hb dX10_paidAfter_23 rfl (lv_at hl 2 rfl) ?_
      obtain ⟨hPc, hDc, hFc⟩ := PDq.cut (wc := [(oX10 w0 v0 v1 v2 v3 v4 g5 g5 (nI ed) 0 v9 (nI nb) g11 g12 v13 g14 g15 g16 g17 g18 g19 g20 g21 g22 g23 g24 g25 g26 v27 v28 v29 v30 v31 v32 v33 v34 v35 v36 v37 (nI ol)), (v0, .inl (cA 0, 326, .inl fs)), (v31, .inl (cA 0, 400, .inl fc)), (v33, .inl (cA 0, 11, .inl fq)), (v35, .inl (cA 4, 400, .inl fk)), (v36, .inl (cA 0, 10, .inl fo))]) hP hD hS hA [4, 5, 0, 1, 2, 3] (by decide) rfl
      refine va_callv (va_runV (As := [.int (nI kn8)]) (rest := []) ⟨hx, hb, hml, hown, hts⟩ (e_passDays l D cA sa w0 ed nb ol v0 v1 v2 v3 v4 v9 v13 v27 v28 v29 v30 v31 v32 v33 v34 v35 v36 v37 0 g11 g12 g14 g15 g16 g17 g18 g19 g20 g21 g22 g23 g24 g26 g5 g5 g25 cn pq en dy fs fc fq fk cq fo kn8 H.size hcn hpq hen hdy hri hCQ hcq hbit hord (by omega) (by omega)) (cwV 1 hts gX10_paidAfter_X10_passDays rfl rfl rfl (by decide +kernel) ⟨(Nat.le_of_ble_eq_true rfl), (Nat.le_of_ble_eq_true rfl)⟩) ⟨Wd.blind, va_recv hK hPc (ci := 11) (q0 := 0) rfl rfl, fun U hU hW => ⟨rfl, Wd.call hPc hDc hK hC hZ hS hFc U hU hW⟩⟩ rfl rfl hl.1 rfl (lv_room (Nat.le_of_ble_eq_true rfl)) dX10_paidAfter_24 ⟨(Nat.le_of_ble_eq_true rfl), (Nat.le_of_ble_eq_true rfl)⟩) hS (fun q _ h => hFc q h) hFc (fun u t H1 locs ht hvm hw hB hz1 hk1 hS => ?_)
      obtain ⟨qn17, qn18, zn19, fn20, fn21, fn22, hn23, hn24, hn25, hn26, hn27, hn28, hP1, hD1⟩ := hB
      rw [ht] at hP1
      obtain ⟨hP, hD⟩ := PDq.join (w := [(v2, .inl (cA 0, 326, .inl fn14)), (oX10 w0 v0 v1 v2 v3 v4 zn19 g5 (nI ed) 0 v9 (nI nb) g11 g12 v13 g14 g15 g16 g17 g18 g19 g20 g21 g22 g23 g24 g25 g26 v27 v28 v29 v30 v31 v32 v33 v34 v35 v36 v37 (nI ol)), (v0, .inl (cA 0, 326, .inl fn20)), (v31, .inl (cA 0, 400, .inl fc)), (v33, .inl (cA 0, 11, .inl fq)), (v35, .inl (cA 4, 400, .inl fn21)), (v36, .inl (cA 0, 10, .inl fn22))]) 1 hP hD [4, 5, 0, 1, 2, 3] [6] rfl rfl (by decide) (by decide) hk1 hFc hP1 hD1 rfl
      generalize H1 = H at hP hS ⊢
      refine lv_aload_n hx hb dX10_paidAfter_27 rfl (lv_at hl 0 rfl) ?_
      refine lv_iload_n hx hb dX10_paidAfter_28 rfl (lv_at hl 1 rfl) ?_
      refine lv_iconst (v := 1) hx hb dX10_paidAfter_29 (by decide) ?_
      obtain ⟨hPc, hDc, hFc⟩ := PDq.cut (wc := [(oX10 w0 v0 v1 v2 v3 v4 zn19 g5 (nI ed) 0 v9 (nI nb) g11 g12 v13 g14 g15 g16 g17 g18 g19 g20 g21 g22 g23 g24 g25 g26 v27 v28 v29 v30 v31 v32 v33 v34 v35 v36 v37 (nI ol)), (v0, .inl (cA 0, 326, .inl fn20))]) hP hD hS hA [1, 2] (by decide) rfl
      refine va_calli (va_runV (As := [.int (nI kn3), .int 1]) (rest := []) ⟨hx, hb, hml, hown, hts⟩ (r_of l D cA sa w0 ed nb ol v0 v1 v2 v3 v4 v9 v13 v27 v28 v29 v30 v31 v32 v33 v34 v35 v36 v37 0 g11 g12 g14 g15 g16 g17 g18 g19 g20 g21 g22 g23 g24 g26 zn19 g5 g25 fn20 kn3 1 H.size (by omega) (by omega)) (cwV 2 hts gX10_paidAfter_X10_of rfl rfl rfl (by decide +kernel) ⟨(Nat.le_of_ble_eq_true rfl), (Nat.le_of_ble_eq_true rfl)⟩) ⟨Wd.blind, va_recv hK hPc (ci := 11) (q0 := 0) rfl rfl, fun U hU hW => ⟨rfl, Wd.call hPc hDc hK hC hZ hS hFc U hU hW⟩⟩ rfl rfl hl.1 rfl (lv_room (Nat.le_of_ble_eq_true rfl)) dX10_paidAfter_30 ⟨(Nat.le_of_ble_eq_true rfl), (Nat.le_of_ble_eq_true rfl)⟩) hS (fun q _ h => hFc q h) hFc (fun rn29 u t H1 locs ht hvm hw hB hz1 hk1 hS => ?_)
      obtain ⟨hP1, hD1⟩ := hB
      rw [ht] at hP1
      obtain ⟨hP, hD⟩ := PDq.join (w := [(v2, .inl (cA 0, 326, .inl fn14)), (v31, .inl (cA 0, 400, .inl fc)), (v33, .inl (cA 0, 11, .inl fq)), (v35, .inl (cA 4, 400, .inl fn21)), (v36, .inl (cA 0, 10, .inl fn22)), (oX10 w0 v0 v1 v2 v3 v4 zn19 g5 (nI ed) 0 v9 (nI nb) g11 g12 v13 g14 g15 g16 g17 g18 g19 g20 g21 g22 g23 g24 g25 g26 v27 v28 v29 v30 v31 v32 v33 v34 v35 v36 v37 (nI ol)), (v0, .inl (cA 0, 326, .inl fn20))]) 5 hP hD [1, 2] [0, 3, 4, 5, 6] rfl rfl (by decide) (by decide) hk1 hFc hP1 hD1 rfl
      generalize H1 = H at hP hS ⊢
      obtain rfl : rn29 = (fn20 (16 + 7 * kn3 + 1)) := hw
      refine lv_istore_n (lv' := [(3, .int (fn20 (16 + 7 * kn3 + 1))), (0, .ref w0), (1, .int (nI kn3)), (2, .int (nI kn8))]) hx hb dX10_paidAfter_33 rfl hl (by decide) rfl (fun ls hl => ?_)
      refine lv_aload_n hx hb dX10_paidAfter_34 rfl (lv_at hl 1 rfl) ?_
      obtain ⟨hPc, hDc, hFc⟩ := PDq.cut (wc := [(oX10 w0 v0 v1 v2 v3 v4 zn19 g5 (nI ed) 0 v9 (nI nb) g11 g12 v13 g14 g15 g16 g17 g18 g19 g20 g21 g22 g23 g24 g25 g26 v27 v28 v29 v30 v31 v32 v33 v34 v35 v36 v37 (nI ol)), (v0, .inl (cA 0, 326, .inl fn20)), (v2, .inl (cA 0, 326, .inl fn14))]) hP hD hS hA [5, 6, 0] (by decide) rfl
      refine va_callv (va_runV (As := []) (rest := []) ⟨hx, hb, hml, hown, hts⟩ (e_endTrial l D cA sa w0 ed nb ol v0 v1 v2 v3 v4 v9 v13 v27 v28 v29 v30 v31 v32 v33 v34 v35 v36 v37 0 g11 g12 g14 g15 g16 g17 g18 g19 g20 g21 g22 g23 g24 g26 zn19 g5 g25 cn pq en dy fn14 fn20 H.size hcn hpq hen hdy hn15) (cwV 0 hts gX10_paidAfter_X10_endTrial rfl rfl rfl (by decide +kernel) ⟨(Nat.le_of_ble_eq_true rfl), (Nat.le_of_ble_eq_true rfl)⟩) ⟨Wd.blind, va_recv hK hPc (ci := 11) (q0 := 0) rfl rfl, fun U hU hW => ⟨rfl, Wd.call hPc hDc hK hC hZ hS hFc U hU hW⟩⟩ rfl rfl hl.1 rfl (lv_room (Nat.le_of_ble_eq_true rfl)) dX10_paidAfter_35 ⟨(Nat.le_of_ble_eq_true rfl), (Nat.le_of_ble_eq_true rfl)⟩) hS (fun q _ h => hFc q h) hFc (fun u t H1 locs ht hvm hw hB hz1 hk1 hS => ?_)
      obtain ⟨fn30, hn31, hn32, hP1, hD1⟩ := hB
      rw [ht] at hP1
      obtain ⟨hP, hD⟩ := PDq.join (w := [(v31, .inl (cA 0, 400, .inl fc)), (v33, .inl (cA 0, 11, .inl fq)), (v35, .inl (cA 4, 400, .inl fn21)), (v36, .inl (cA 0, 10, .inl fn22)), (oX10 w0 v0 v1 v2 v3 v4 g5 g5 (nI ed) 0 v9 (nI nb) g11 g12 v13 g14 g15 g16 g17 g18 g19 g20 g21 g22 g23 g24 g25 g26 v27 v28 v29 v30 v31 v32 v33 v34 v35 v36 v37 (nI ol)), (v0, .inl (cA 0, 326, .inl fn30)), (v2, .inl (cA 0, 326, .inl fn14))]) 4 hP hD [5, 6, 0] [1, 2, 3, 4] rfl rfl (by decide) (by decide) hk1 hFc hP1 hD1 rfl
      generalize H1 = H at hP hS ⊢
      refine lv_iload_n hx hb dX10_paidAfter_38 rfl (lv_at hl 0 rfl) ?_
      obtain ⟨hP9, hD9⟩ := PDq.sub (ws' := [(oX10 w0 v0 v1 v2 v3 v4 g5 g5 (nI ed) 0 v9 (nI nb) g11 g12 v13 g14 g15 g16 g17 g18 g19 g20 g21 g22 g23 g24 g25 g26 v27 v28 v29 v30 v31 v32 v33 v34 v35 v36 v37 (nI ol)), (v0, .inl (cA 0, 326, .inl fn30)), (v31, .inl (cA 0, 400, .inl fc)), (v33, .inl (cA 0, 11, .inl fq)), (v35, .inl (cA 4, 400, .inl fn21)), (v36, .inl (cA 0, 10, .inl fn22)), (v2, .inl (cA 0, 326, .inl fn14))]) hP hD [4, 5, 0, 1, 2, 3, 6] (by decide) rfl
      refine W.widen (k := 0) (n := 0) (Nat.le_of_ble_eq_true rfl) (Nat.le_of_ble_eq_true rfl) ?_
      exact (W.iret (v := (fn20 (16 + 7 * kn3 + 1))) hx hb hr (fun t ht hW => ⟨⟨(fn20 (16 + 7 * kn3 + 1)), (), rfl, trivial, 0, g5, fn30, fn21, fn22, fn14, hn31, hn25, hn26, (fun j hj => (hn32 j hj).trans (hn16 j hj)), by rw [ht]; exact hP9, hD9⟩, hS.F ht⟩) hS.2.2 dX10_paidAfter_39)
    · skip
      subst hr9
      obtain ⟨hPc, hDc, hFc⟩ := PDq.cut (wc := [(oX10 w0 v0 v1 v2 v3 v4 g5 g6 (nI ed) g8 v9 (nI nb) g11 g12 v13 g14 g15 g16 g17 g18 g19 g20 g21 g22 g23 g24 g25 g26 v27 v28 v29 v30 v31 v32 v33 v34 v35 v36 v37 (nI ol))]) hP hD hS hA [5] (by decide) rfl
      refine va_calli (va_runV (As := [.int 1, .int 0]) (rest := []) ⟨hx, hb, hml, hown, hts⟩ (r_good_10 l D cA sa w0 ed nb ol v0 v1 v2 v3 v4 v9 v13 v27 v28 v29 v30 v31 v32 v33 v34 v35 v36 v37 g8 g11 g12 g14 g15 g16 g17 g18 g19 g20 g21 g22 g23 g24 g26 g5 g6 g25 H.size) (cwV 2 hts gX10_paidAfter_X10_good_ rfl rfl rfl (by decide +kernel) ⟨(Nat.le_of_ble_eq_true rfl), (Nat.le_of_ble_eq_true rfl)⟩) ⟨Wd.blind, va_recv hK hPc (ci := 11) (q0 := 0) rfl rfl, fun U hU hW => ⟨rfl, Wd.call hPc hDc hK hC hZ hS hFc U hU hW⟩⟩ rfl rfl hl.1 rfl (lv_room (Nat.le_of_ble_eq_true rfl)) dX10_paidAfter_10 ⟨(Nat.le_of_ble_eq_true rfl), (Nat.le_of_ble_eq_true rfl)⟩) hS (fun q _ h => hFc q h) hFc (fun rn33 u t H1 locs ht hvm hw hB hz1 hk1 hS => ?_)
      obtain ⟨hP1, hD1⟩ := hB
      rw [ht] at hP1
      obtain ⟨hP, hD⟩ := PDq.join (w := [(v31, .inl (cA 0, 400, .inl fc)), (v33, .inl (cA 0, 11, .inl fq)), (v35, .inl (cA 4, 400, .inl fk)), (v36, .inl (cA 0, 10, .inl fo)), (v2, .inl (cA 0, 326, .inl fa)), (v0, .inl (cA 0, 326, .inl fs)), (oX10 w0 v0 v1 v2 v3 v4 g5 g6 (nI ed) 2 v9 (nI nb) g11 g12 v13 g14 g15 g16 g17 g18 g19 g20 g21 g22 g23 g24 g25 g26 v27 v28 v29 v30 v31 v32 v33 v34 v35 v36 v37 (nI ol))]) 6 hP hD [5] [0, 1, 2, 3, 4, 6] rfl rfl (by decide) (by decide) hk1 hFc hP1 hD1 rfl
      generalize H1 = H at hP hS ⊢
      obtain rfl : rn33 = 0 := hw
      refine lv_if_ne (tgt := 18) hx hb dX10_paidAfter_13 (by decide) (fun c9 => absurd c9 (by decide)) (fun c34 => ?_)
      refine lv_iconst (v := 0) hx hb dX10_paidAfter_16 (by decide) ?_
      obtain ⟨hP9, hD9⟩ := PDq.sub (ws' := [(oX10 w0 v0 v1 v2 v3 v4 g5 g6 (nI ed) 2 v9 (nI nb) g11 g12 v13 g14 g15 g16 g17 g18 g19 g20 g21 g22 g23 g24 g25 g26 v27 v28 v29 v30 v31 v32 v33 v34 v35 v36 v37 (nI ol)), (v0, .inl (cA 0, 326, .inl fs)), (v31, .inl (cA 0, 400, .inl fc)), (v33, .inl (cA 0, 11, .inl fq)), (v35, .inl (cA 4, 400, .inl fk)), (v36, .inl (cA 0, 10, .inl fo)), (v2, .inl (cA 0, 326, .inl fa))]) hP hD [6, 5, 0, 1, 2, 3, 4] (by decide) rfl
      refine W.widen (k := 0) (n := 0) (Nat.le_of_ble_eq_true rfl) (Nat.le_of_ble_eq_true rfl) ?_
      exact (W.iret (v := 0) hx hb hr (fun t ht hW => ⟨⟨0, (), rfl, trivial, 2, g6, fs, fk, fo, fa, hri, hbit, hord, (fun _ _ => rfl), by rw [ht]; exact hP9, hD9⟩, hS.F ht⟩) hS.2.2 dX10_paidAfter_17)
  · skip
    subst hr9
    refine lv_iload_n hx hb dX10_paidAfter_6 rfl (lv_at hl 2 rfl) ?_
    obtain ⟨hPc, hDc, hFc⟩ := PDq.cut (wc := []) hP hD hS hA [] (by decide) rfl
    refine va_calli (va_runS (As := [.int j]) (rest := [.int 0, .ref w0]) ⟨hx, hb, hml, hown, hts⟩ (r_isTrial l D cA sa j H.size) (va_cwS 1 hts gX10_paidAfter_X10_isTrial rfl rfl rfl (by decide +kernel) ⟨(Nat.le_of_ble_eq_true rfl), (Nat.le_of_ble_eq_true rfl)⟩) ⟨Wd.blind, fun U hU hW => ⟨rfl, Wd.call hPc hDc hK hC hZ hS hFc U hU hW⟩⟩ rfl rfl hl.1 rfl (lv_room (Nat.le_of_ble_eq_true rfl)) dX10_paidAfter_7 ⟨(Nat.le_of_ble_eq_true rfl), (Nat.le_of_ble_eq_true rfl)⟩) hS (fun q _ h => hFc q h) hFc (fun rn35 u t H1 locs ht hvm hw hB hz1 hk1 hS => ?_)
    obtain ⟨hP1, hD1⟩ := hB
    rw [ht] at hP1
    obtain ⟨hP, hD⟩ := PDq.join (w := [(v31, .inl (cA 0, 400, .inl fc)), (v33, .inl (cA 0, 11, .inl fq)), (v35, .inl (cA 4, 400, .inl fk)), (v36, .inl (cA 0, 10, .inl fo)), (v2, .inl (cA 0, 326, .inl fa)), (oX10 w0 v0 v1 v2 v3 v4 g5 g6 (nI ed) g8 v9 (nI nb) g11 g12 v13 g14 g15 g16 g17 g18 g19 g20 g21 g22 g23 g24 g25 g26 v27 v28 v29 v30 v31 v32 v33 v34 v35 v36 v37 (nI ol)), (v0, .inl (cA 0, 326, .inl fs))]) 7 hP hD [] [0, 1, 2, 3, 4, 5, 6] rfl rfl (by decide) (by decide) hk1 hFc hP1 hD1 rfl
    generalize H1 = H at hP hS ⊢
    rcases hw with ⟨hr9, hn36⟩ | hr9
    · skip
      subst hr9
      obtain ⟨kn37, hn38, hn39, hn40⟩ := hn36
      rw [hn40] at hl
      have hl : lv_has ls 4 [(0, .ref w0), (1, .int i), (2, .int (nI kn37))] := hl
      obtain ⟨hPc, hDc, hFc⟩ := PDq.cut (wc := [(oX10 w0 v0 v1 v2 v3 v4 g5 g6 (nI ed) g8 v9 (nI nb) g11 g12 v13 g14 g15 g16 g17 g18 g19 g20 g21 g22 g23 g24 g25 g26 v27 v28 v29 v30 v31 v32 v33 v34 v35 v36 v37 (nI ol))]) hP hD hS hA [5] (by decide) rfl
      refine va_calli (va_runV (As := [.int 0, .int 1]) (rest := []) ⟨hx, hb, hml, hown, hts⟩ (r_good_01 l D cA sa w0 ed nb ol v0 v1 v2 v3 v4 v9 v13 v27 v28 v29 v30 v31 v32 v33 v34 v35 v36 v37 g8 g11 g12 g14 g15 g16 g17 g18 g19 g20 g21 g22 g23 g24 g26 g5 g6 g25 H.size) (cwV 2 hts gX10_paidAfter_X10_good_ rfl rfl rfl (by decide +kernel) ⟨(Nat.le_of_ble_eq_true rfl), (Nat.le_of_ble_eq_true rfl)⟩) ⟨Wd.blind, va_recv hK hPc (ci := 11) (q0 := 0) rfl rfl, fun U hU hW => ⟨rfl, Wd.call hPc hDc hK hC hZ hS hFc U hU hW⟩⟩ rfl rfl hl.1 rfl (lv_room (Nat.le_of_ble_eq_true rfl)) dX10_paidAfter_10 ⟨(Nat.le_of_ble_eq_true rfl), (Nat.le_of_ble_eq_true rfl)⟩) hS (fun q _ h => hFc q h) hFc (fun rn41 u t H1 locs ht hvm hw hB hz1 hk1 hS => ?_)
      obtain ⟨hP1, hD1⟩ := hB
      rw [ht] at hP1
      obtain ⟨hP, hD⟩ := PDq.join (w := [(v31, .inl (cA 0, 400, .inl fc)), (v33, .inl (cA 0, 11, .inl fq)), (v35, .inl (cA 4, 400, .inl fk)), (v36, .inl (cA 0, 10, .inl fo)), (v2, .inl (cA 0, 326, .inl fa)), (v0, .inl (cA 0, 326, .inl fs)), (oX10 w0 v0 v1 v2 v3 v4 g5 g6 (nI ed) 1 v9 (nI nb) g11 g12 v13 g14 g15 g16 g17 g18 g19 g20 g21 g22 g23 g24 g25 g26 v27 v28 v29 v30 v31 v32 v33 v34 v35 v36 v37 (nI ol))]) 6 hP hD [5] [0, 1, 2, 3, 4, 6] rfl rfl (by decide) (by decide) hk1 hFc hP1 hD1 rfl
      generalize H1 = H at hP hS ⊢
      obtain rfl : rn41 = 0 := hw
      refine lv_if_ne (tgt := 18) hx hb dX10_paidAfter_13 (by decide) (fun c9 => absurd c9 (by decide)) (fun c42 => ?_)
      refine lv_iconst (v := 0) hx hb dX10_paidAfter_16 (by decide) ?_
      obtain ⟨hP9, hD9⟩ := PDq.sub (ws' := [(oX10 w0 v0 v1 v2 v3 v4 g5 g6 (nI ed) 1 v9 (nI nb) g11 g12 v13 g14 g15 g16 g17 g18 g19 g20 g21 g22 g23 g24 g25 g26 v27 v28 v29 v30 v31 v32 v33 v34 v35 v36 v37 (nI ol)), (v0, .inl (cA 0, 326, .inl fs)), (v31, .inl (cA 0, 400, .inl fc)), (v33, .inl (cA 0, 11, .inl fq)), (v35, .inl (cA 4, 400, .inl fk)), (v36, .inl (cA 0, 10, .inl fo)), (v2, .inl (cA 0, 326, .inl fa))]) hP hD [6, 5, 0, 1, 2, 3, 4] (by decide) rfl
      refine W.widen (k := 0) (n := 0) (Nat.le_of_ble_eq_true rfl) (Nat.le_of_ble_eq_true rfl) ?_
      exact (W.iret (v := 0) hx hb hr (fun t ht hW => ⟨⟨0, (), rfl, trivial, 1, g6, fs, fk, fo, fa, hri, hbit, hord, (fun _ _ => rfl), by rw [ht]; exact hP9, hD9⟩, hS.F ht⟩) hS.2.2 dX10_paidAfter_17)
    · skip
      subst hr9
      obtain ⟨hPc, hDc, hFc⟩ := PDq.cut (wc := [(oX10 w0 v0 v1 v2 v3 v4 g5 g6 (nI ed) g8 v9 (nI nb) g11 g12 v13 g14 g15 g16 g17 g18 g19 g20 g21 g22 g23 g24 g25 g26 v27 v28 v29 v30 v31 v32 v33 v34 v35 v36 v37 (nI ol))]) hP hD hS hA [5] (by decide) rfl
      refine va_calli (va_runV (As := [.int 0, .int 0]) (rest := []) ⟨hx, hb, hml, hown, hts⟩ (r_good_00 l D cA sa w0 ed nb ol v0 v1 v2 v3 v4 v9 v13 v27 v28 v29 v30 v31 v32 v33 v34 v35 v36 v37 g8 g11 g12 g14 g15 g16 g17 g18 g19 g20 g21 g22 g23 g24 g26 g5 g6 g25 H.size) (cwV 2 hts gX10_paidAfter_X10_good_ rfl rfl rfl (by decide +kernel) ⟨(Nat.le_of_ble_eq_true rfl), (Nat.le_of_ble_eq_true rfl)⟩) ⟨Wd.blind, va_recv hK hPc (ci := 11) (q0 := 0) rfl rfl, fun U hU hW => ⟨rfl, Wd.call hPc hDc hK hC hZ hS hFc U hU hW⟩⟩ rfl rfl hl.1 rfl (lv_room (Nat.le_of_ble_eq_true rfl)) dX10_paidAfter_10 ⟨(Nat.le_of_ble_eq_true rfl), (Nat.le_of_ble_eq_true rfl)⟩) hS (fun q _ h => hFc q h) hFc (fun rn43 u t H1 locs ht hvm hw hB hz1 hk1 hS => ?_)
      obtain ⟨hP1, hD1⟩ := hB
      rw [ht] at hP1
      obtain ⟨hP, hD⟩ := PDq.join (w := [(v31, .inl (cA 0, 400, .inl fc)), (v33, .inl (cA 0, 11, .inl fq)), (v35, .inl (cA 4, 400, .inl fk)), (v36, .inl (cA 0, 10, .inl fo)), (v2, .inl (cA 0, 326, .inl fa)), (v0, .inl (cA 0, 326, .inl fs)), (oX10 w0 v0 v1 v2 v3 v4 g5 g6 (nI ed) 1 v9 (nI nb) g11 g12 v13 g14 g15 g16 g17 g18 g19 g20 g21 g22 g23 g24 g25 g26 v27 v28 v29 v30 v31 v32 v33 v34 v35 v36 v37 (nI ol))]) 6 hP hD [5] [0, 1, 2, 3, 4, 6] rfl rfl (by decide) (by decide) hk1 hFc hP1 hD1 rfl
      generalize H1 = H at hP hS ⊢
      obtain rfl : rn43 = 0 := hw
      refine lv_if_ne (tgt := 18) hx hb dX10_paidAfter_13 (by decide) (fun c9 => absurd c9 (by decide)) (fun c44 => ?_)
      refine lv_iconst (v := 0) hx hb dX10_paidAfter_16 (by decide) ?_
      obtain ⟨hP9, hD9⟩ := PDq.sub (ws' := [(oX10 w0 v0 v1 v2 v3 v4 g5 g6 (nI ed) 1 v9 (nI nb) g11 g12 v13 g14 g15 g16 g17 g18 g19 g20 g21 g22 g23 g24 g25 g26 v27 v28 v29 v30 v31 v32 v33 v34 v35 v36 v37 (nI ol)), (v0, .inl (cA 0, 326, .inl fs)), (v31, .inl (cA 0, 400, .inl fc)), (v33, .inl (cA 0, 11, .inl fq)), (v35, .inl (cA 4, 400, .inl fk)), (v36, .inl (cA 0, 10, .inl fo)), (v2, .inl (cA 0, 326, .inl fa))]) hP hD [6, 5, 0, 1, 2, 3, 4] (by decide) rfl
      refine W.widen (k := 0) (n := 0) (Nat.le_of_ble_eq_true rfl) (Nat.le_of_ble_eq_true rfl) ?_
      exact (W.iret (v := 0) hx hb hr (fun t ht hW => ⟨⟨0, (), rfl, trivial, 1, g6, fs, fk, fo, fa, hri, hbit, hord, (fun _ _ => rfl), by rw [ht]; exact hP9, hD9⟩, hS.F ht⟩) hS.2.2 dX10_paidAfter_17)

set_option maxHeartbeats 4000000 in
set_option maxRecDepth 100000 in
/-- reference, exactly: daysUntilClosed -/
theorem e_daysUntilClosed (l : Launch) (D : va_G) (cA : Nat → ClassId) (sa : Nat → Nat) (w0 : Nat) (ed : Nat) (nb : Nat) (ol : Nat) (v0 : Nat) (v1 : Nat) (v2 : Nat) (v3 : Nat) (v4 : Nat) (v9 : Nat) (v13 : Nat) (v27 : Nat) (v28 : Nat) (v29 : Nat) (v30 : Nat) (v31 : Nat) (v32 : Nat) (v33 : Nat) (v34 : Nat) (v35 : Nat) (v36 : Nat) (v37 : Nat) (g8 : Int32) (g11 : Int32) (g12 : Int32) (g14 : Int32) (g15 : Int32) (g16 : Int32) (g17 : Int32) (g18 : Int32) (g19 : Int32) (g20 : Int32) (g21 : Int32) (g22 : Int32) (g23 : Int32) (g24 : Int32) (g26 : Int32) (g5 : Int64) (g6 : Int64) (g25 : Int64) (cn : Nat) (pq : Nat) (en : Nat) (dy : Nat) (fs : Nat → Int32) (fc : Nat → Int32) (fq : Nat → Int32) (fk : Nat → Int32) (cq : Nat → Nat) (fo : Nat → Int32) (fa : Nat → Int32) (i : Int32) (sz : Nat) (hcn : cn ≤ 10) (hpq : pq ≤ 8) (hen : en ≤ 60) (hdy : dy ≤ 20000) (hri : RI cn pq en dy fs) (hCQ : CQ cn fc cq) (hcq : Elq cn cq fq) (hbit : Bit 400 fk) (hord : Rng 10 10 fo) (hd9 : dy ≤ 9999) : Met l yX10_daysUntilClosed wsX10_daysUntilClosed ({ frames := 6, cells := 0, slots := 0, locals := 129 }) (va_Pc [.ref w0, .int i] (Wd D cA sa [(oX10 w0 v0 v1 v2 v3 v4 g5 g6 (nI ed) g8 v9 (nI nb) g11 g12 v13 g14 g15 g16 g17 g18 g19 g20 g21 g22 g23 g24 g25 g26 v27 v28 v29 v30 v31 v32 v33 v34 v35 v36 v37 (nI ol)), (v0, .inl (cA 0, 326, .inl fs)), (v31, .inl (cA 0, 400, .inl fc)), (v33, .inl (cA 0, 11, .inl fq)), (v35, .inl (cA 4, 400, .inl fk)), (v36, .inl (cA 0, 10, .inl fo)), (v2, .inl (cA 0, 326, .inl fa))] sz)) (va_Qi (fun (r : Int32) (_ : Unit) => True) (fun (_ : Unit) t => ∃ zt : Int32, ∃ z6 : Int64, ∃ zs : Nat → Int32, ∃ zk : Nat → Int32, ∃ zo : Nat → Int32, ∃ za : Nat → Int32, RI cn pq en dy zs ∧ Bit 400 zk ∧ Rng 10 10 zo ∧ Cp 326 fs zs ∧ Wq D (va_A [(oX10 w0 v0 v1 v2 v3 v4 g5 g6 (nI ed) g8 v9 (nI nb) g11 g12 v13 g14 g15 g16 g17 g18 g19 g20 g21 g22 g23 g24 g25 g26 v27 v28 v29 v30 v31 v32 v33 v34 v35 v36 v37 (nI ol)), (v0, .inl (cA 0, 326, .inl fs)), (v31, .inl (cA 0, 400, .inl fc)), (v33, .inl (cA 0, 11, .inl fq)), (v35, .inl (cA 4, 400, .inl fk)), (v36, .inl (cA 0, 10, .inl fo)), (v2, .inl (cA 0, 326, .inl fa))] sz) [(oX10 w0 v0 v1 v2 v3 v4 g5 z6 (nI ed) zt v9 (nI nb) g11 g12 v13 g14 g15 g16 g17 g18 g19 g20 g21 g22 g23 g24 g25 g26 v27 v28 v29 v30 v31 v32 v33 v34 v35 v36 v37 (nI ol)), (v0, .inl (cA 0, 326, .inl zs)), (v31, .inl (cA 0, 400, .inl fc)), (v33, .inl (cA 0, 11, .inl fq)), (v35, .inl (cA 4, 400, .inl zk)), (v36, .inl (cA 0, 10, .inl zo)), (v2, .inl (cA 0, 326, .inl za))] t) (va_A [(oX10 w0 v0 v1 v2 v3 v4 g5 g6 (nI ed) g8 v9 (nI nb) g11 g12 v13 g14 g15 g16 g17 g18 g19 g20 g21 g22 g23 g24 g25 g26 v27 v28 v29 v30 v31 v32 v33 v34 v35 v36 v37 (nI ol)), (v0, .inl (cA 0, 326, .inl fs)), (v31, .inl (cA 0, 400, .inl fc)), (v33, .inl (cA 0, 11, .inl fq)), (v35, .inl (cA 4, 400, .inl fk)), (v36, .inl (cA 0, 10, .inl fo)), (v2, .inl (cA 0, 326, .inl fa))] sz)) 0 0 (va_A [(oX10 w0 v0 v1 v2 v3 v4 g5 g6 (nI ed) g8 v9 (nI nb) g11 g12 v13 g14 g15 g16 g17 g18 g19 g20 g21 g22 g23 g24 g25 g26 v27 v28 v29 v30 v31 v32 v33 v34 v35 v36 v37 (nI ol)), (v0, .inl (cA 0, 326, .inl fs)), (v31, .inl (cA 0, 400, .inl fc)), (v33, .inl (cA 0, 11, .inl fq)), (v35, .inl (cA 4, 400, .inl fk)), (v36, .inl (cA 0, 10, .inl fo)), (v2, .inl (cA 0, 326, .inl fa))] sz) := by
  refine Met.ofW (cc := cX10_daysUntilClosed) (maxL := 4) (ret := (some .int)) (by decide) rfl ?_
  intro p e s m args below meth c s₁ B hml hv
  obtain ⟨rfl, hsz, hP, hK, hD0, hC, hZ⟩ := hv
  have hx := B.exec
  have hb := B.bytes
  have hr := B.returns
  have hts := atoms_spec (ws := wsX10_daysUntilClosed) B.pre
  have hown : s.vm.findClass RX10 = some m.cls := findClass_of_methodNamed B.named
  have hlocks := B.notSynchronized
  subst hsz
  have hD := hD0.self (sz := s.heap.size)
  generalize hAe : va_A [(oX10 w0 v0 v1 v2 v3 v4 g5 g6 (nI ed) g8 v9 (nI nb) g11 g12 v13 g14 g15 g16 g17 g18 g19 g20 g21 g22 g23 g24 g25 g26 v27 v28 v29 v30 v31 v32 v33 v34 v35 v36 v37 (nI ol)), (v0, .inl (cA 0, 326, .inl fs)), (v31, .inl (cA 0, 400, .inl fc)), (v33, .inl (cA 0, 11, .inl fq)), (v35, .inl (cA 4, 400, .inl fk)), (v36, .inl (cA 0, 10, .inl fo)), (v2, .inl (cA 0, 326, .inl fa))] s.heap.size = A at hD hZ ⊢
  have hA : ∀ q : Nat, s.heap.size ≤ q → A q := fun q h => by rw [← hAe]; exact Or.inr h
  have hS : va_S A s.heap s.heap [] := va_S.rf
  have hP : va_P D vwCl [(oX10 w0 v0 v1 v2 v3 v4 g5 g6 (nI ed) g8 v9 (nI nb) g11 g12 v13 g14 g15 g16 g17 g18 g19 g20 g21 g22 g23 g24 g25 g26 v27 v28 v29 v30 v31 v32 v33 v34 v35 v36 v37 (nI ol)), (v0, .inl (cA 0, 326, .inl fs)), (v31, .inl (cA 0, 400, .inl fc)), (v33, .inl (cA 0, 11, .inl fq)), (v35, .inl (cA 4, 400, .inl fk)), (v36, .inl (cA 0, 10, .inl fo)), (v2, .inl (cA 0, 326, .inl fa))] s.heap := hP
  have hl := lv_entry ([.ref w0, .int i]) (n := 4) (Nat.le_of_ble_eq_true rfl)
  rw [lg_entry_eq]
  generalize (lg_sl ([.ref w0, .int i]) ++ List.replicate (4 - (lg_sl ([.ref w0, .int i])).length) Slot.unset).toArray = ls at hl ⊢
  have hl : lv_has ls 4 [(0, .ref w0), (1, .int i)] := hl
  refine lv_aload_n hx hb dX10_daysUntilClosed_0 rfl (lv_at hl 0 rfl) ?_
  refine lv_aload_n hx hb dX10_daysUntilClosed_1 rfl (lv_at hl 0 rfl) ?_
  refine lv_iload_n hx hb dX10_daysUntilClosed_2 rfl (lv_at hl 1 rfl) ?_
  obtain ⟨hPc, hDc, hFc⟩ := PDq.cut (wc := [(oX10 w0 v0 v1 v2 v3 v4 g5 g6 (nI ed) g8 v9 (nI nb) g11 g12 v13 g14 g15 g16 g17 g18 g19 g20 g21 g22 g23 g24 g25 g26 v27 v28 v29 v30 v31 v32 v33 v34 v35 v36 v37 (nI ol)), (v0, .inl (cA 0, 326, .inl fs))]) hP hD hS hA [0, 1] (by decide) rfl
  refine va_calli (va_runV (As := [.int i]) (rest := [.ref w0]) ⟨hx, hb, hml, hown, hts⟩ (r_isMilestone l D cA sa w0 ed nb ol v0 v1 v2 v3 v4 v9 v13 v27 v28 v29 v30 v31 v32 v33 v34 v35 v36 v37 g8 g11 g12 g14 g15 g16 g17 g18 g19 g20 g21 g22 g23 g24 g26 g5 g6 g25 cn pq en dy fs i s.heap.size hcn hpq hen hdy hri) (cwV 1 hts gX10_daysUntilClosed_X10_isMilestone rfl rfl rfl (by decide +kernel) ⟨(Nat.le_of_ble_eq_true rfl), (Nat.le_of_ble_eq_true rfl)⟩) ⟨Wd.blind, va_recv hK hPc (ci := 11) (q0 := 0) rfl rfl, fun U hU hW => ⟨rfl, Wd.call hPc hDc hK hC hZ hS hFc U hU hW⟩⟩ rfl rfl hl.1 rfl (lv_room (Nat.le_of_ble_eq_true rfl)) dX10_daysUntilClosed_3 ⟨(Nat.le_of_ble_eq_true rfl), (Nat.le_of_ble_eq_true rfl)⟩) hS (fun q _ h => hFc q h) hFc (fun rn1 u t H1 locs ht hvm hw hB hz1 hk1 hS => ?_)
  obtain ⟨hP1, hD1⟩ := hB
  rw [ht] at hP1
  obtain ⟨hP, hD⟩ := PDq.join (w := [(v31, .inl (cA 0, 400, .inl fc)), (v33, .inl (cA 0, 11, .inl fq)), (v35, .inl (cA 4, 400, .inl fk)), (v36, .inl (cA 0, 10, .inl fo)), (v2, .inl (cA 0, 326, .inl fa)), (oX10 w0 v0 v1 v2 v3 v4 g5 g6 (nI ed) g8 v9 (nI nb) g11 g12 v13 g14 g15 g16 g17 g18 g19 g20 g21 g22 g23 g24 g25 g26 v27 v28 v29 v30 v31 v32 v33 v34 v35 v36 v37 (nI ol)), (v0, .inl (cA 0, 326, .inl fs))]) 5 hP hD [0, 1] [2, 3, 4, 5, 6] rfl rfl (by decide) (by decide) hk1 hFc hP1 hD1 rfl
  generalize H1 = H at hP hS ⊢
  rcases hw with ⟨hr9, hn2⟩ | hr9
  · skip
    subst hr9
    obtain ⟨kn3, hn4, hn5⟩ := hn2
    rw [hn5] at hl
    have hl : lv_has ls 4 [(0, .ref w0), (1, .int (nI kn3))] := hl
    obtain ⟨hPc, hDc, hFc⟩ := PDq.cut (wc := [(oX10 w0 v0 v1 v2 v3 v4 g5 g6 (nI ed) g8 v9 (nI nb) g11 g12 v13 g14 g15 g16 g17 g18 g19 g20 g21 g22 g23 g24 g25 g26 v27 v28 v29 v30 v31 v32 v33 v34 v35 v36 v37 (nI ol))]) hP hD hS hA [5] (by decide) rfl
    refine va_calli (va_runV (As := [.int 1]) (rest := []) ⟨hx, hb, hml, hown, hts⟩ (r_good1 l D cA sa w0 ed nb ol v0 v1 v2 v3 v4 v9 v13 v27 v28 v29 v30 v31 v32 v33 v34 v35 v36 v37 g8 g11 g12 g14 g15 g16 g17 g18 g19 g20 g21 g22 g23 g24 g26 g5 g6 g25 H.size) (cwV 1 hts gX10_daysUntilClosed_X10_good rfl rfl rfl (by decide +kernel) ⟨(Nat.le_of_ble_eq_true rfl), (Nat.le_of_ble_eq_true rfl)⟩) ⟨Wd.blind, va_recv hK hPc (ci := 11) (q0 := 0) rfl rfl, fun U hU hW => ⟨rfl, Wd.call hPc hDc hK hC hZ hS hFc U hU hW⟩⟩ rfl rfl hl.1 rfl (lv_room (Nat.le_of_ble_eq_true rfl)) dX10_daysUntilClosed_6 ⟨(Nat.le_of_ble_eq_true rfl), (Nat.le_of_ble_eq_true rfl)⟩) hS (fun q _ h => hFc q h) hFc (fun rn6 u t H1 locs ht hvm hw hB hz1 hk1 hS => ?_)
    obtain ⟨hP1, hD1⟩ := hB
    rw [ht] at hP1
    obtain ⟨hP, hD⟩ := PDq.join (w := [(v31, .inl (cA 0, 400, .inl fc)), (v33, .inl (cA 0, 11, .inl fq)), (v35, .inl (cA 4, 400, .inl fk)), (v36, .inl (cA 0, 10, .inl fo)), (v2, .inl (cA 0, 326, .inl fa)), (v0, .inl (cA 0, 326, .inl fs)), (oX10 w0 v0 v1 v2 v3 v4 g5 g6 (nI ed) 0 v9 (nI nb) g11 g12 v13 g14 g15 g16 g17 g18 g19 g20 g21 g22 g23 g24 g25 g26 v27 v28 v29 v30 v31 v32 v33 v34 v35 v36 v37 (nI ol))]) 6 hP hD [5] [0, 1, 2, 3, 4, 6] rfl rfl (by decide) (by decide) hk1 hFc hP1 hD1 rfl
    generalize H1 = H at hP hS ⊢
    obtain rfl : rn6 = 1 := hw
    refine lv_if_ne (tgt := 14) hx hb dX10_daysUntilClosed_9 (by decide) (fun c7 => ?_) (fun c9 => absurd c9 (by decide))
    refine lv_aload_n hx hb dX10_daysUntilClosed_14 rfl (lv_at hl 0 rfl) ?_
    obtain ⟨hPc, hDc, hFc⟩ := PDq.cut (wc := [(oX10 w0 v0 v1 v2 v3 v4 g5 g6 (nI ed) 0 v9 (nI nb) g11 g12 v13 g14 g15 g16 g17 g18 g19 g20 g21 g22 g23 g24 g25 g26 v27 v28 v29 v30 v31 v32 v33 v34 v35 v36 v37 (nI ol)), (v0, .inl (cA 0, 326, .inl fs)), (v2, .inl (cA 0, 326, .inl fa))]) hP hD hS hA [6, 5, 4] (by decide) rfl
    refine va_callv (va_runV (As := []) (rest := []) ⟨hx, hb, hml, hown, hts⟩ (e_beginTrial l D cA sa w0 ed nb ol v0 v1 v2 v3 v4 v9 v13 v27 v28 v29 v30 v31 v32 v33 v34 v35 v36 v37 0 g11 g12 g14 g15 g16 g17 g18 g19 g20 g21 g22 g23 g24 g26 g5 g6 g25 cn pq en dy fs fa H.size hcn hpq hen hdy hri) (cwV 0 hts gX10_daysUntilClosed_X10_beginTrial rfl rfl rfl (by decide +kernel) ⟨(Nat.le_of_ble_eq_true rfl), (Nat.le_of_ble_eq_true rfl)⟩) ⟨Wd.blind, va_recv hK hPc (ci := 11) (q0 := 0) rfl rfl, fun U hU hW => ⟨rfl, Wd.call hPc hDc hK hC hZ hS hFc U hU hW⟩⟩ rfl rfl hl.1 rfl (lv_room (Nat.le_of_ble_eq_true rfl)) dX10_daysUntilClosed_15 ⟨(Nat.le_of_ble_eq_true rfl), (Nat.le_of_ble_eq_true rfl)⟩) hS (fun q _ h => hFc q h) hFc (fun u t H1 locs ht hvm hw hB hz1 hk1 hS => ?_)
    obtain ⟨fn8, hn9, hn10, hP1, hD1⟩ := hB
    rw [ht] at hP1
    obtain ⟨hP, hD⟩ := PDq.join (w := [(v31, .inl (cA 0, 400, .inl fc)), (v33, .inl (cA 0, 11, .inl fq)), (v35, .inl (cA 4, 400, .inl fk)), (v36, .inl (cA 0, 10, .inl fo)), (oX10 w0 v0 v1 v2 v3 v4 g5 g5 (nI ed) 0 v9 (nI nb) g11 g12 v13 g14 g15 g16 g17 g18 g19 g20 g21 g22 g23 g24 g25 g26 v27 v28 v29 v30 v31 v32 v33 v34 v35 v36 v37 (nI ol)), (v0, .inl (cA 0, 326, .inl fs)), (v2, .inl (cA 0, 326, .inl fn8))]) 4 hP hD [6, 5, 4] [0, 1, 2, 3] rfl rfl (by decide) (by decide) hk1 hFc hP1 hD1 rfl
    generalize H1 = H at hP hS ⊢
    refine lv_iconst (v := 0) hx hb dX10_daysUntilClosed_18 (by decide) ?_
    refine lv_istore_n (lv' := [(2, .int 0), (0, .ref w0), (1, .int (nI kn3))]) hx hb dX10_daysUntilClosed_19 rfl hl (by decide) rfl (fun ls hl => ?_)
    have loop1 : ∀ (n1 i1 : Nat) (ei : Nat) (di : Nat) (f2_1 : Nat → Int32) (f3_1 : Nat → Int32) (u4_5_1 : Int64) (f5_1 : Nat → Int32) (H : Heap) (locs : List Loc) (ls : Array Slot), i1 + n1 = 120 → Bit 400 f2_1 → Rng 10 10 f3_1 → ei ≤ 60 → di = dy + i1 → RI cn pq ei di f5_1 → va_P D vwCl [(v31, .inl (cA 0, 400, .inl fc)), (v33, .inl (cA 0, 11, .inl fq)), (v35, .inl (cA 4, 400, .inl f2_1)), (v36, .inl (cA 0, 10, .inl f3_1)), (oX10 w0 v0 v1 v2 v3 v4 u4_5_1 g5 (nI ed) 0 v9 (nI nb) g11 g12 v13 g14 g15 g16 g17 g18 g19 g20 g21 g22 g23 g24 g25 g26 v27 v28 v29 v30 v31 v32 v33 v34 v35 v36 v37 (nI ol)), (v0, .inl (cA 0, 326, .inl f5_1)), (v2, .inl (cA 0, 326, .inl fn8))] H → va_D A [(v31, .inl (cA 0, 400, .inl fc)), (v33, .inl (cA 0, 11, .inl fq)), (v35, .inl (cA 4, 400, .inl f2_1)), (v36, .inl (cA 0, 10, .inl f3_1)), (oX10 w0 v0 v1 v2 v3 v4 u4_5_1 g5 (nI ed) 0 v9 (nI nb) g11 g12 v13 g14 g15 g16 g17 g18 g19 g20 g21 g22 g23 g24 g25 g26 v27 v28 v29 v30 v31 v32 v33 v34 v35 v36 v37 (nI ol)), (v0, .inl (cA 0, 326, .inl f5_1)), (v2, .inl (cA 0, 326, .inl fn8))] → va_S A s.heap H locs → lv_has ls 4 [(2, .int (nI i1)), (0, .ref w0), (1, .int (nI kn3))] → W p l e (headSpec wsX10_daysUntilClosed ({ frames := 6, cells := 0, slots := 0, locals := 129 } : Room)).room s m ([.ref w0, .int i] : List Value).toArray below meth c H locs 0 0 (MQ below (va_Qi (fun (r : Int32) (_ : Unit) => True) (fun (_ : Unit) t => ∃ zt : Int32, ∃ z6 : Int64, ∃ zs : Nat → Int32, ∃ zk : Nat → Int32, ∃ zo : Nat → Int32, ∃ za : Nat → Int32, RI cn pq en dy zs ∧ Bit 400 zk ∧ Rng 10 10 zo ∧ Cp 326 fs zs ∧ Wq D A [(oX10 w0 v0 v1 v2 v3 v4 g5 z6 (nI ed) zt v9 (nI nb) g11 g12 v13 g14 g15 g16 g17 g18 g19 g20 g21 g22 g23 g24 g25 g26 v27 v28 v29 v30 v31 v32 v33 v34 v35 v36 v37 (nI ol)), (v0, .inl (cA 0, 326, .inl zs)), (v31, .inl (cA 0, 400, .inl fc)), (v33, .inl (cA 0, 11, .inl fq)), (v35, .inl (cA 4, 400, .inl zk)), (v36, .inl (cA 0, 10, .inl zo)), (v2, .inl (cA 0, 326, .inl za))] t) A) ([.ref w0, .int i] : List Value).toArray s 0 0 A) (F0 m 20 ls []) := by
      intro n1
      induction n1 with
      | zero =>
        intro i1 ei di f2_1 f3_1 u4_5_1 f5_1 H locs ls hi1 hf0_1 hf1_1 hv0_1 hv1_1 hv2_1 hP hD hS hl
        obtain rfl : 120 = i1 := by omega
        refine lv_iload_n hx hb dX10_daysUntilClosed_20 rfl (lv_at hl 0 rfl) ?_
        refine lv_bipush (v := 120) hx hb dX10_daysUntilClosed_21 (by decide) ?_
        refine lv_icmp_ge (tgt := 44) hx hb dX10_daysUntilClosed_23 (by decide) (fun c11 => ?_) (fun c9 => absurd (nI_le (a := 120) (b := 120) (show 120 ≤ 120 by omega) (by omega)) c9)
        refine lv_aload_n hx hb dX10_daysUntilClosed_44 rfl (lv_at hl 1 rfl) ?_
        refine lv_iload_n hx hb dX10_daysUntilClosed_45 rfl (lv_at hl 2 rfl) ?_
        obtain ⟨hPc, hDc, hFc⟩ := PDq.cut (wc := [(oX10 w0 v0 v1 v2 v3 v4 u4_5_1 g5 (nI ed) 0 v9 (nI nb) g11 g12 v13 g14 g15 g16 g17 g18 g19 g20 g21 g22 g23 g24 g25 g26 v27 v28 v29 v30 v31 v32 v33 v34 v35 v36 v37 (nI ol)), (v0, .inl (cA 0, 326, .inl f5_1))]) hP hD hS hA [4, 5] (by decide) rfl
        refine va_calli (va_runV (As := [.int (nI kn3)]) (rest := []) ⟨hx, hb, hml, hown, hts⟩ (r_isClosed l D cA sa w0 ed nb ol v0 v1 v2 v3 v4 v9 v13 v27 v28 v29 v30 v31 v32 v33 v34 v35 v36 v37 0 g11 g12 g14 g15 g16 g17 g18 g19 g20 g21 g22 g23 g24 g26 u4_5_1 g5 g25 f5_1 kn3 H.size (by omega)) (cwV 1 hts gX10_daysUntilClosed_X10_isClosed rfl rfl rfl (by decide +kernel) ⟨(Nat.le_of_ble_eq_true rfl), (Nat.le_of_ble_eq_true rfl)⟩) ⟨Wd.blind, va_recv hK hPc (ci := 11) (q0 := 0) rfl rfl, fun U hU hW => ⟨rfl, Wd.call hPc hDc hK hC hZ hS hFc U hU hW⟩⟩ rfl rfl hl.1 rfl (lv_room (Nat.le_of_ble_eq_true rfl)) dX10_daysUntilClosed_46 ⟨(Nat.le_of_ble_eq_true rfl), (Nat.le_of_ble_eq_true rfl)⟩) hS (fun q _ h => hFc q h) hFc (fun rn12 u t H1 locs ht hvm hw hB hz1 hk1 hS => ?_)
        obtain ⟨hP1, hD1⟩ := hB
        rw [ht] at hP1
        obtain ⟨hP, hD⟩ := PDq.join (w := [(v31, .inl (cA 0, 400, .inl fc)), (v33, .inl (cA 0, 11, .inl fq)), (v35, .inl (cA 4, 400, .inl f2_1)), (v36, .inl (cA 0, 10, .inl f3_1)), (v2, .inl (cA 0, 326, .inl fn8)), (oX10 w0 v0 v1 v2 v3 v4 u4_5_1 g5 (nI ed) 0 v9 (nI nb) g11 g12 v13 g14 g15 g16 g17 g18 g19 g20 g21 g22 g23 g24 g25 g26 v27 v28 v29 v30 v31 v32 v33 v34 v35 v36 v37 (nI ol)), (v0, .inl (cA 0, 326, .inl f5_1))]) 5 hP hD [4, 5] [0, 1, 2, 3, 6] rfl rfl (by decide) (by decide) hk1 hFc hP1 hD1 rfl
        generalize H1 = H at hP hS ⊢
        have hn13 := hw
        refine lv_istore_n (lv' := [(3, .int rn12), (2, .int (nI 120)), (0, .ref w0), (1, .int (nI kn3))]) hx hb dX10_daysUntilClosed_49 rfl hl (by decide) rfl (fun ls hl => ?_)
        refine lv_aload_n hx hb dX10_daysUntilClosed_50 rfl (lv_at hl 2 rfl) ?_
        obtain ⟨hPc, hDc, hFc⟩ := PDq.cut (wc := [(oX10 w0 v0 v1 v2 v3 v4 u4_5_1 g5 (nI ed) 0 v9 (nI nb) g11 g12 v13 g14 g15 g16 g17 g18 g19 g20 g21 g22 g23 g24 g25 g26 v27 v28 v29 v30 v31 v32 v33 v34 v35 v36 v37 (nI ol)), (v0, .inl (cA 0, 326, .inl f5_1)), (v2, .inl (cA 0, 326, .inl fn8))]) hP hD hS hA [5, 6, 4] (by decide) rfl
        refine va_callv (va_runV (As := []) (rest := []) ⟨hx, hb, hml, hown, hts⟩ (e_endTrial l D cA sa w0 ed nb ol v0 v1 v2 v3 v4 v9 v13 v27 v28 v29 v30 v31 v32 v33 v34 v35 v36 v37 0 g11 g12 g14 g15 g16 g17 g18 g19 g20 g21 g22 g23 g24 g26 u4_5_1 g5 g25 cn pq en dy fn8 f5_1 H.size hcn hpq hen hdy hn9) (cwV 0 hts gX10_daysUntilClosed_X10_endTrial rfl rfl rfl (by decide +kernel) ⟨(Nat.le_of_ble_eq_true rfl), (Nat.le_of_ble_eq_true rfl)⟩) ⟨Wd.blind, va_recv hK hPc (ci := 11) (q0 := 0) rfl rfl, fun U hU hW => ⟨rfl, Wd.call hPc hDc hK hC hZ hS hFc U hU hW⟩⟩ rfl rfl hl.1 rfl (lv_room (Nat.le_of_ble_eq_true rfl)) dX10_daysUntilClosed_51 ⟨(Nat.le_of_ble_eq_true rfl), (Nat.le_of_ble_eq_true rfl)⟩) hS (fun q _ h => hFc q h) hFc (fun u t H1 locs ht hvm hw hB hz1 hk1 hS => ?_)
        obtain ⟨fn14, hn15, hn16, hP1, hD1⟩ := hB
        rw [ht] at hP1
        obtain ⟨hP, hD⟩ := PDq.join (w := [(v31, .inl (cA 0, 400, .inl fc)), (v33, .inl (cA 0, 11, .inl fq)), (v35, .inl (cA 4, 400, .inl f2_1)), (v36, .inl (cA 0, 10, .inl f3_1)), (oX10 w0 v0 v1 v2 v3 v4 g5 g5 (nI ed) 0 v9 (nI nb) g11 g12 v13 g14 g15 g16 g17 g18 g19 g20 g21 g22 g23 g24 g25 g26 v27 v28 v29 v30 v31 v32 v33 v34 v35 v36 v37 (nI ol)), (v0, .inl (cA 0, 326, .inl fn14)), (v2, .inl (cA 0, 326, .inl fn8))]) 4 hP hD [5, 6, 4] [0, 1, 2, 3] rfl rfl (by decide) (by decide) hk1 hFc hP1 hD1 rfl
        generalize H1 = H at hP hS ⊢
        refine lv_iload_n hx hb dX10_daysUntilClosed_54 rfl (lv_at hl 0 rfl) ?_
        refine lv_if_eq (tgt := 62) hx hb dX10_daysUntilClosed_55 (by decide) (fun c17 => ?_) (fun c17 => ?_)
        · skip
          subst c17
          have hl : lv_has ls 4 [(3, .int 0), (2, .int (nI 120)), (0, .ref w0), (1, .int (nI kn3))] := hl
          refine lv_iconst (v := (-1)) hx hb dX10_daysUntilClosed_62 (by decide) ?_
          obtain ⟨hP9, hD9⟩ := PDq.sub (ws' := [(oX10 w0 v0 v1 v2 v3 v4 g5 g5 (nI ed) 0 v9 (nI nb) g11 g12 v13 g14 g15 g16 g17 g18 g19 g20 g21 g22 g23 g24 g25 g26 v27 v28 v29 v30 v31 v32 v33 v34 v35 v36 v37 (nI ol)), (v0, .inl (cA 0, 326, .inl fn14)), (v31, .inl (cA 0, 400, .inl fc)), (v33, .inl (cA 0, 11, .inl fq)), (v35, .inl (cA 4, 400, .inl f2_1)), (v36, .inl (cA 0, 10, .inl f3_1)), (v2, .inl (cA 0, 326, .inl fn8))]) hP hD [4, 5, 0, 1, 2, 3, 6] (by decide) rfl
          refine W.widen (k := 0) (n := 0) (Nat.le_of_ble_eq_true rfl) (Nat.le_of_ble_eq_true rfl) ?_
          exact (W.iret (v := (-1)) hx hb hr (fun t ht hW => ⟨⟨(-1), (), rfl, trivial, 0, g5, fn14, f2_1, f3_1, fn8, hn15, hf0_1, hf1_1, (fun j hj => (hn16 j hj).trans (hn10 j hj)), by rw [ht]; exact hP9, hD9⟩, hS.F ht⟩) hS.2.2 dX10_daysUntilClosed_63)
        · skip
          refine lv_iload_n hx hb dX10_daysUntilClosed_58 rfl (lv_at hl 1 rfl) ?_
          refine lv_goto (tgt := 63) hx hb dX10_daysUntilClosed_59 (by decide) ?_
          obtain ⟨hP9, hD9⟩ := PDq.sub (ws' := [(oX10 w0 v0 v1 v2 v3 v4 g5 g5 (nI ed) 0 v9 (nI nb) g11 g12 v13 g14 g15 g16 g17 g18 g19 g20 g21 g22 g23 g24 g25 g26 v27 v28 v29 v30 v31 v32 v33 v34 v35 v36 v37 (nI ol)), (v0, .inl (cA 0, 326, .inl fn14)), (v31, .inl (cA 0, 400, .inl fc)), (v33, .inl (cA 0, 11, .inl fq)), (v35, .inl (cA 4, 400, .inl f2_1)), (v36, .inl (cA 0, 10, .inl f3_1)), (v2, .inl (cA 0, 326, .inl fn8))]) hP hD [4, 5, 0, 1, 2, 3, 6] (by decide) rfl
          refine W.widen (k := 0) (n := 0) (Nat.le_of_ble_eq_true rfl) (Nat.le_of_ble_eq_true rfl) ?_
          exact (W.iret (v := (nI 120)) hx hb hr (fun t ht hW => ⟨⟨(nI 120), (), rfl, trivial, 0, g5, fn14, f2_1, f3_1, fn8, hn15, hf0_1, hf1_1, (fun j hj => (hn16 j hj).trans (hn10 j hj)), by rw [ht]; exact hP9, hD9⟩, hS.F ht⟩) hS.2.2 dX10_daysUntilClosed_63)
      | succ n1 ih1 =>
        intro i1 ei di f2_1 f3_1 u4_5_1 f5_1 H locs ls hi1 hf0_1 hf1_1 hv0_1 hv1_1 hv2_1 hP hD hS hl
        refine lv_iload_n hx hb dX10_daysUntilClosed_20 rfl (lv_at hl 0 rfl) ?_
        refine lv_bipush (v := 120) hx hb dX10_daysUntilClosed_21 (by decide) ?_
        refine lv_icmp_ge (tgt := 44) hx hb dX10_daysUntilClosed_23 (by decide) (fun c9 => absurd c9 (nI_ge (a := i1) (b := 120) (show i1 < 120 by omega) (by omega))) (fun c18 => ?_)
        refine lv_aload_n hx hb dX10_daysUntilClosed_26 rfl (lv_at hl 1 rfl) ?_
        refine lv_iload_n hx hb dX10_daysUntilClosed_27 rfl (lv_at hl 2 rfl) ?_
        obtain ⟨hPc, hDc, hFc⟩ := PDq.cut (wc := [(oX10 w0 v0 v1 v2 v3 v4 u4_5_1 g5 (nI ed) 0 v9 (nI nb) g11 g12 v13 g14 g15 g16 g17 g18 g19 g20 g21 g22 g23 g24 g25 g26 v27 v28 v29 v30 v31 v32 v33 v34 v35 v36 v37 (nI ol)), (v0, .inl (cA 0, 326, .inl f5_1))]) hP hD hS hA [4, 5] (by decide) rfl
        refine va_calli (va_runV (As := [.int (nI kn3)]) (rest := []) ⟨hx, hb, hml, hown, hts⟩ (r_isClosed l D cA sa w0 ed nb ol v0 v1 v2 v3 v4 v9 v13 v27 v28 v29 v30 v31 v32 v33 v34 v35 v36 v37 0 g11 g12 g14 g15 g16 g17 g18 g19 g20 g21 g22 g23 g24 g26 u4_5_1 g5 g25 f5_1 kn3 H.size (by omega)) (cwV 1 hts gX10_daysUntilClosed_X10_isClosed rfl rfl rfl (by decide +kernel) ⟨(Nat.le_of_ble_eq_true rfl), (Nat.le_of_ble_eq_true rfl)⟩) ⟨Wd.blind, va_recv hK hPc (ci := 11) (q0 := 0) rfl rfl, fun U hU hW => ⟨rfl, Wd.call hPc hDc hK hC hZ hS hFc U hU hW⟩⟩ rfl rfl hl.1 rfl (lv_room (Nat.le_of_ble_eq_true rfl)) dX10_daysUntilClosed_28 ⟨(Nat.le_of_ble_eq_true rfl), (Nat.le_of_ble_eq_true rfl)⟩) hS (fun q _ h => hFc q h) hFc (fun rn19 u t H1 locs ht hvm hw hB hz1 hk1 hS => ?_)
        obtain ⟨hP1, hD1⟩ := hB
        rw [ht] at hP1
        obtain ⟨hP, hD⟩ := PDq.join (w := [(v31, .inl (cA 0, 400, .inl fc)), (v33, .inl (cA 0, 11, .inl fq)), (v35, .inl (cA 4, 400, .inl f2_1)), (v36, .inl (cA 0, 10, .inl f3_1)), (v2, .inl (cA 0, 326, .inl fn8)), (oX10 w0 v0 v1 v2 v3 v4 u4_5_1 g5 (nI ed) 0 v9 (nI nb) g11 g12 v13 g14 g15 g16 g17 g18 g19 g20 g21 g22 g23 g24 g25 g26 v27 v28 v29 v30 v31 v32 v33 v34 v35 v36 v37 (nI ol)), (v0, .inl (cA 0, 326, .inl f5_1))]) 5 hP hD [4, 5] [0, 1, 2, 3, 6] rfl rfl (by decide) (by decide) hk1 hFc hP1 hD1 rfl
        generalize H1 = H at hP hS ⊢
        have hn20 := hw
        refine lv_if_ne (tgt := 44) hx hb dX10_daysUntilClosed_31 (by decide) (fun c21 => ?_) (fun c21 => ?_)
        · skip
          refine lv_aload_n hx hb dX10_daysUntilClosed_44 rfl (lv_at hl 1 rfl) ?_
          refine lv_iload_n hx hb dX10_daysUntilClosed_45 rfl (lv_at hl 2 rfl) ?_
          obtain ⟨hPc, hDc, hFc⟩ := PDq.cut (wc := [(oX10 w0 v0 v1 v2 v3 v4 u4_5_1 g5 (nI ed) 0 v9 (nI nb) g11 g12 v13 g14 g15 g16 g17 g18 g19 g20 g21 g22 g23 g24 g25 g26 v27 v28 v29 v30 v31 v32 v33 v34 v35 v36 v37 (nI ol)), (v0, .inl (cA 0, 326, .inl f5_1))]) hP hD hS hA [5, 6] (by decide) rfl
          refine va_calli (va_runV (As := [.int (nI kn3)]) (rest := []) ⟨hx, hb, hml, hown, hts⟩ (r_isClosed l D cA sa w0 ed nb ol v0 v1 v2 v3 v4 v9 v13 v27 v28 v29 v30 v31 v32 v33 v34 v35 v36 v37 0 g11 g12 g14 g15 g16 g17 g18 g19 g20 g21 g22 g23 g24 g26 u4_5_1 g5 g25 f5_1 kn3 H.size (by omega)) (cwV 1 hts gX10_daysUntilClosed_X10_isClosed rfl rfl rfl (by decide +kernel) ⟨(Nat.le_of_ble_eq_true rfl), (Nat.le_of_ble_eq_true rfl)⟩) ⟨Wd.blind, va_recv hK hPc (ci := 11) (q0 := 0) rfl rfl, fun U hU hW => ⟨rfl, Wd.call hPc hDc hK hC hZ hS hFc U hU hW⟩⟩ rfl rfl hl.1 rfl (lv_room (Nat.le_of_ble_eq_true rfl)) dX10_daysUntilClosed_46 ⟨(Nat.le_of_ble_eq_true rfl), (Nat.le_of_ble_eq_true rfl)⟩) hS (fun q _ h => hFc q h) hFc (fun rn22 u t H1 locs ht hvm hw hB hz1 hk1 hS => ?_)
          obtain ⟨hP1, hD1⟩ := hB
          rw [ht] at hP1
          obtain ⟨hP, hD⟩ := PDq.join (w := [(v31, .inl (cA 0, 400, .inl fc)), (v33, .inl (cA 0, 11, .inl fq)), (v35, .inl (cA 4, 400, .inl f2_1)), (v36, .inl (cA 0, 10, .inl f3_1)), (v2, .inl (cA 0, 326, .inl fn8)), (oX10 w0 v0 v1 v2 v3 v4 u4_5_1 g5 (nI ed) 0 v9 (nI nb) g11 g12 v13 g14 g15 g16 g17 g18 g19 g20 g21 g22 g23 g24 g25 g26 v27 v28 v29 v30 v31 v32 v33 v34 v35 v36 v37 (nI ol)), (v0, .inl (cA 0, 326, .inl f5_1))]) 5 hP hD [5, 6] [0, 1, 2, 3, 4] rfl rfl (by decide) (by decide) hk1 hFc hP1 hD1 rfl
          generalize H1 = H at hP hS ⊢
          have hn23 := hw
          refine lv_istore_n (lv' := [(3, .int rn22), (2, .int (nI i1)), (0, .ref w0), (1, .int (nI kn3))]) hx hb dX10_daysUntilClosed_49 rfl hl (by decide) rfl (fun ls hl => ?_)
          refine lv_aload_n hx hb dX10_daysUntilClosed_50 rfl (lv_at hl 2 rfl) ?_
          obtain ⟨hPc, hDc, hFc⟩ := PDq.cut (wc := [(oX10 w0 v0 v1 v2 v3 v4 u4_5_1 g5 (nI ed) 0 v9 (nI nb) g11 g12 v13 g14 g15 g16 g17 g18 g19 g20 g21 g22 g23 g24 g25 g26 v27 v28 v29 v30 v31 v32 v33 v34 v35 v36 v37 (nI ol)), (v0, .inl (cA 0, 326, .inl f5_1)), (v2, .inl (cA 0, 326, .inl fn8))]) hP hD hS hA [5, 6, 4] (by decide) rfl
          refine va_callv (va_runV (As := []) (rest := []) ⟨hx, hb, hml, hown, hts⟩ (e_endTrial l D cA sa w0 ed nb ol v0 v1 v2 v3 v4 v9 v13 v27 v28 v29 v30 v31 v32 v33 v34 v35 v36 v37 0 g11 g12 g14 g15 g16 g17 g18 g19 g20 g21 g22 g23 g24 g26 u4_5_1 g5 g25 cn pq en dy fn8 f5_1 H.size hcn hpq hen hdy hn9) (cwV 0 hts gX10_daysUntilClosed_X10_endTrial rfl rfl rfl (by decide +kernel) ⟨(Nat.le_of_ble_eq_true rfl), (Nat.le_of_ble_eq_true rfl)⟩) ⟨Wd.blind, va_recv hK hPc (ci := 11) (q0 := 0) rfl rfl, fun U hU hW => ⟨rfl, Wd.call hPc hDc hK hC hZ hS hFc U hU hW⟩⟩ rfl rfl hl.1 rfl (lv_room (Nat.le_of_ble_eq_true rfl)) dX10_daysUntilClosed_51 ⟨(Nat.le_of_ble_eq_true rfl), (Nat.le_of_ble_eq_true rfl)⟩) hS (fun q _ h => hFc q h) hFc (fun u t H1 locs ht hvm hw hB hz1 hk1 hS => ?_)
          obtain ⟨fn24, hn25, hn26, hP1, hD1⟩ := hB
          rw [ht] at hP1
          obtain ⟨hP, hD⟩ := PDq.join (w := [(v31, .inl (cA 0, 400, .inl fc)), (v33, .inl (cA 0, 11, .inl fq)), (v35, .inl (cA 4, 400, .inl f2_1)), (v36, .inl (cA 0, 10, .inl f3_1)), (oX10 w0 v0 v1 v2 v3 v4 g5 g5 (nI ed) 0 v9 (nI nb) g11 g12 v13 g14 g15 g16 g17 g18 g19 g20 g21 g22 g23 g24 g25 g26 v27 v28 v29 v30 v31 v32 v33 v34 v35 v36 v37 (nI ol)), (v0, .inl (cA 0, 326, .inl fn24)), (v2, .inl (cA 0, 326, .inl fn8))]) 4 hP hD [5, 6, 4] [0, 1, 2, 3] rfl rfl (by decide) (by decide) hk1 hFc hP1 hD1 rfl
          generalize H1 = H at hP hS ⊢
          refine lv_iload_n hx hb dX10_daysUntilClosed_54 rfl (lv_at hl 0 rfl) ?_
          refine lv_if_eq (tgt := 62) hx hb dX10_daysUntilClosed_55 (by decide) (fun c27 => ?_) (fun c27 => ?_)
          · skip
            subst c27
            have hl : lv_has ls 4 [(3, .int 0), (2, .int (nI i1)), (0, .ref w0), (1, .int (nI kn3))] := hl
            refine lv_iconst (v := (-1)) hx hb dX10_daysUntilClosed_62 (by decide) ?_
            obtain ⟨hP9, hD9⟩ := PDq.sub (ws' := [(oX10 w0 v0 v1 v2 v3 v4 g5 g5 (nI ed) 0 v9 (nI nb) g11 g12 v13 g14 g15 g16 g17 g18 g19 g20 g21 g22 g23 g24 g25 g26 v27 v28 v29 v30 v31 v32 v33 v34 v35 v36 v37 (nI ol)), (v0, .inl (cA 0, 326, .inl fn24)), (v31, .inl (cA 0, 400, .inl fc)), (v33, .inl (cA 0, 11, .inl fq)), (v35, .inl (cA 4, 400, .inl f2_1)), (v36, .inl (cA 0, 10, .inl f3_1)), (v2, .inl (cA 0, 326, .inl fn8))]) hP hD [4, 5, 0, 1, 2, 3, 6] (by decide) rfl
            refine W.widen (k := 0) (n := 0) (Nat.le_of_ble_eq_true rfl) (Nat.le_of_ble_eq_true rfl) ?_
            exact (W.iret (v := (-1)) hx hb hr (fun t ht hW => ⟨⟨(-1), (), rfl, trivial, 0, g5, fn24, f2_1, f3_1, fn8, hn25, hf0_1, hf1_1, (fun j hj => (hn26 j hj).trans (hn10 j hj)), by rw [ht]; exact hP9, hD9⟩, hS.F ht⟩) hS.2.2 dX10_daysUntilClosed_63)
          · skip
            refine lv_iload_n hx hb dX10_daysUntilClosed_58 rfl (lv_at hl 1 rfl) ?_
            refine lv_goto (tgt := 63) hx hb dX10_daysUntilClosed_59 (by decide) ?_
            obtain ⟨hP9, hD9⟩ := PDq.sub (ws' := [(oX10 w0 v0 v1 v2 v3 v4 g5 g5 (nI ed) 0 v9 (nI nb) g11 g12 v13 g14 g15 g16 g17 g18 g19 g20 g21 g22 g23 g24 g25 g26 v27 v28 v29 v30 v31 v32 v33 v34 v35 v36 v37 (nI ol)), (v0, .inl (cA 0, 326, .inl fn24)), (v31, .inl (cA 0, 400, .inl fc)), (v33, .inl (cA 0, 11, .inl fq)), (v35, .inl (cA 4, 400, .inl f2_1)), (v36, .inl (cA 0, 10, .inl f3_1)), (v2, .inl (cA 0, 326, .inl fn8))]) hP hD [4, 5, 0, 1, 2, 3, 6] (by decide) rfl
            refine W.widen (k := 0) (n := 0) (Nat.le_of_ble_eq_true rfl) (Nat.le_of_ble_eq_true rfl) ?_
            exact (W.iret (v := (nI i1)) hx hb hr (fun t ht hW => ⟨⟨(nI i1), (), rfl, trivial, 0, g5, fn24, f2_1, f3_1, fn8, hn25, hf0_1, hf1_1, (fun j hj => (hn26 j hj).trans (hn10 j hj)), by rw [ht]; exact hP9, hD9⟩, hS.F ht⟩) hS.2.2 dX10_daysUntilClosed_63)
        · skip
          refine lv_aload_n hx hb dX10_daysUntilClosed_34 rfl (lv_at hl 1 rfl) ?_
          obtain ⟨hPc, hDc, hFc⟩ := PDq.cut (wc := [(oX10 w0 v0 v1 v2 v3 v4 u4_5_1 g5 (nI ed) 0 v9 (nI nb) g11 g12 v13 g14 g15 g16 g17 g18 g19 g20 g21 g22 g23 g24 g25 g26 v27 v28 v29 v30 v31 v32 v33 v34 v35 v36 v37 (nI ol)), (v0, .inl (cA 0, 326, .inl f5_1)), (v31, .inl (cA 0, 400, .inl fc)), (v33, .inl (cA 0, 11, .inl fq)), (v35, .inl (cA 4, 400, .inl f2_1)), (v36, .inl (cA 0, 10, .inl f3_1))]) hP hD hS hA [5, 6, 0, 1, 2, 3] (by decide) rfl
          refine va_callv (va_runV (As := []) (rest := []) ⟨hx, hb, hml, hown, hts⟩ (e_passDay l D cA sa w0 ed nb ol v0 v1 v2 v3 v4 v9 v13 v27 v28 v29 v30 v31 v32 v33 v34 v35 v36 v37 0 g11 g12 g14 g15 g16 g17 g18 g19 g20 g21 g22 g23 g24 g26 u4_5_1 g5 g25 cn pq ei di f5_1 fc fq f2_1 f5_1 cq f3_1 H.size (Ab.rf _) hcn hpq hv0_1 (by omega) hv2_1 hCQ hcq hf0_1 hf1_1 (by omega)) (cwV 0 hts gX10_daysUntilClosed_X10_passDay rfl rfl rfl (by decide +kernel) ⟨(Nat.le_of_ble_eq_true rfl), (Nat.le_of_ble_eq_true rfl)⟩) ⟨Wd.blind, va_recv hK hPc (ci := 11) (q0 := 0) rfl rfl, fun U hU hW => ⟨rfl, Wd.call hPc hDc hK hC hZ hS hFc U hU hW⟩⟩ rfl rfl hl.1 rfl (lv_room (Nat.le_of_ble_eq_true rfl)) dX10_daysUntilClosed_35 ⟨(Nat.le_of_ble_eq_true rfl), (Nat.le_of_ble_eq_true rfl)⟩) hS (fun q _ h => hFc q h) hFc (fun u t H1 locs ht hvm hw hB hz1 hk1 hS => ?_)
          obtain ⟨qn28, qn29, zn30, fn31, fn32, fn33, hn34, hn35, hn36, hn37, hn38, hn39, hP1, hD1⟩ := hB
          rw [ht] at hP1
          obtain ⟨hP, hD⟩ := PDq.join (w := [(v2, .inl (cA 0, 326, .inl fn8)), (oX10 w0 v0 v1 v2 v3 v4 zn30 g5 (nI ed) 0 v9 (nI nb) g11 g12 v13 g14 g15 g16 g17 g18 g19 g20 g21 g22 g23 g24 g25 g26 v27 v28 v29 v30 v31 v32 v33 v34 v35 v36 v37 (nI ol)), (v0, .inl (cA 0, 326, .inl fn31)), (v31, .inl (cA 0, 400, .inl fc)), (v33, .inl (cA 0, 11, .inl fq)), (v35, .inl (cA 4, 400, .inl fn32)), (v36, .inl (cA 0, 10, .inl fn33))]) 1 hP hD [5, 6, 0, 1, 2, 3] [4] rfl rfl (by decide) (by decide) hk1 hFc hP1 hD1 rfl
          generalize H1 = H at hP hS ⊢
          refine lv_iinc (v := (nI (i1 + 1))) (lv' := [(2, .int (nI (i1 + 1))), (0, .ref w0), (1, .int (nI kn3))]) hx hb dX10_daysUntilClosed_38 hl (k := 0) rfl (nI_1 _) (by decide) rfl (fun ls hl => ?_)
          refine lv_goto (tgt := 20) hx hb dX10_daysUntilClosed_41 (by decide) ?_
          obtain ⟨hP9, hD9⟩ := PDq.sub (ws' := [(v31, .inl (cA 0, 400, .inl fc)), (v33, .inl (cA 0, 11, .inl fq)), (v35, .inl (cA 4, 400, .inl fn32)), (v36, .inl (cA 0, 10, .inl fn33)), (oX10 w0 v0 v1 v2 v3 v4 zn30 g5 (nI ed) 0 v9 (nI nb) g11 g12 v13 g14 g15 g16 g17 g18 g19 g20 g21 g22 g23 g24 g25 g26 v27 v28 v29 v30 v31 v32 v33 v34 v35 v36 v37 (nI ol)), (v0, .inl (cA 0, 326, .inl fn31)), (v2, .inl (cA 0, 326, .inl fn8))]) hP hD [3, 4, 5, 6, 1, 2, 0] (by decide) rfl
          exact ih1 (i1 + 1) qn28 qn29 fn32 fn33 zn30 fn31 H _ ls (by omega) hn36 hn37 hn34 (by omega) hn35 hP9 hD9 hS (lv_sub hl [0, 1, 2] rfl)
    obtain ⟨hP9, hD9⟩ := PDq.sub (ws' := [(v31, .inl (cA 0, 400, .inl fc)), (v33, .inl (cA 0, 11, .inl fq)), (v35, .inl (cA 4, 400, .inl fk)), (v36, .inl (cA 0, 10, .inl fo)), (oX10 w0 v0 v1 v2 v3 v4 g5 g5 (nI ed) 0 v9 (nI nb) g11 g12 v13 g14 g15 g16 g17 g18 g19 g20 g21 g22 g23 g24 g25 g26 v27 v28 v29 v30 v31 v32 v33 v34 v35 v36 v37 (nI ol)), (v0, .inl (cA 0, 326, .inl fs)), (v2, .inl (cA 0, 326, .inl fn8))]) hP hD [0, 1, 2, 3, 4, 5, 6] (by decide) rfl
    exact loop1 (120 - 0) 0 en dy fk fo g5 fs _ _ ls (by omega) hbit hord hen (by omega) hri hP9 hD9 hS (lv_sub hl [0, 1, 2] rfl)
  · skip
    subst hr9
    obtain ⟨hPc, hDc, hFc⟩ := PDq.cut (wc := [(oX10 w0 v0 v1 v2 v3 v4 g5 g6 (nI ed) g8 v9 (nI nb) g11 g12 v13 g14 g15 g16 g17 g18 g19 g20 g21 g22 g23 g24 g25 g26 v27 v28 v29 v30 v31 v32 v33 v34 v35 v36 v37 (nI ol))]) hP hD hS hA [5] (by decide) rfl
    refine va_calli (va_runV (As := [.int 0]) (rest := []) ⟨hx, hb, hml, hown, hts⟩ (r_good0 l D cA sa w0 ed nb ol v0 v1 v2 v3 v4 v9 v13 v27 v28 v29 v30 v31 v32 v33 v34 v35 v36 v37 g8 g11 g12 g14 g15 g16 g17 g18 g19 g20 g21 g22 g23 g24 g26 g5 g6 g25 H.size) (cwV 1 hts gX10_daysUntilClosed_X10_good rfl rfl rfl (by decide +kernel) ⟨(Nat.le_of_ble_eq_true rfl), (Nat.le_of_ble_eq_true rfl)⟩) ⟨Wd.blind, va_recv hK hPc (ci := 11) (q0 := 0) rfl rfl, fun U hU hW => ⟨rfl, Wd.call hPc hDc hK hC hZ hS hFc U hU hW⟩⟩ rfl rfl hl.1 rfl (lv_room (Nat.le_of_ble_eq_true rfl)) dX10_daysUntilClosed_6 ⟨(Nat.le_of_ble_eq_true rfl), (Nat.le_of_ble_eq_true rfl)⟩) hS (fun q _ h => hFc q h) hFc (fun rn40 u t H1 locs ht hvm hw hB hz1 hk1 hS => ?_)
    obtain ⟨hP1, hD1⟩ := hB
    rw [ht] at hP1
    obtain ⟨hP, hD⟩ := PDq.join (w := [(v31, .inl (cA 0, 400, .inl fc)), (v33, .inl (cA 0, 11, .inl fq)), (v35, .inl (cA 4, 400, .inl fk)), (v36, .inl (cA 0, 10, .inl fo)), (v2, .inl (cA 0, 326, .inl fa)), (v0, .inl (cA 0, 326, .inl fs)), (oX10 w0 v0 v1 v2 v3 v4 g5 g6 (nI ed) 1 v9 (nI nb) g11 g12 v13 g14 g15 g16 g17 g18 g19 g20 g21 g22 g23 g24 g25 g26 v27 v28 v29 v30 v31 v32 v33 v34 v35 v36 v37 (nI ol))]) 6 hP hD [5] [0, 1, 2, 3, 4, 6] rfl rfl (by decide) (by decide) hk1 hFc hP1 hD1 rfl
    generalize H1 = H at hP hS ⊢
    obtain rfl : rn40 = 0 := hw
    refine lv_if_ne (tgt := 14) hx hb dX10_daysUntilClosed_9 (by decide) (fun c9 => absurd c9 (by decide)) (fun c41 => ?_)
    refine lv_iconst (v := 0) hx hb dX10_daysUntilClosed_12 (by decide) ?_
    obtain ⟨hP9, hD9⟩ := PDq.sub (ws' := [(oX10 w0 v0 v1 v2 v3 v4 g5 g6 (nI ed) 1 v9 (nI nb) g11 g12 v13 g14 g15 g16 g17 g18 g19 g20 g21 g22 g23 g24 g25 g26 v27 v28 v29 v30 v31 v32 v33 v34 v35 v36 v37 (nI ol)), (v0, .inl (cA 0, 326, .inl fs)), (v31, .inl (cA 0, 400, .inl fc)), (v33, .inl (cA 0, 11, .inl fq)), (v35, .inl (cA 4, 400, .inl fk)), (v36, .inl (cA 0, 10, .inl fo)), (v2, .inl (cA 0, 326, .inl fa))]) hP hD [6, 5, 0, 1, 2, 3, 4] (by decide) rfl
    refine W.widen (k := 0) (n := 0) (Nat.le_of_ble_eq_true rfl) (Nat.le_of_ble_eq_true rfl) ?_
    exact (W.iret (v := 0) hx hb hr (fun t ht hW => ⟨⟨0, (), rfl, trivial, 1, g6, fs, fk, fo, fa, hri, hbit, hord, (fun _ _ => rfl), by rw [ht]; exact hP9, hD9⟩, hS.F ht⟩) hS.2.2 dX10_daysUntilClosed_13)

set_option maxHeartbeats 4000000 in
set_option maxRecDepth 100000 in
/-- reference, exactly: shortDay -/
theorem e_shortDay (l : Launch) (D : va_G) (cA : Nat → ClassId) (sa : Nat → Nat) (w0 : Nat) (ed : Nat) (nb : Nat) (ol : Nat) (v0 : Nat) (v1 : Nat) (v2 : Nat) (v3 : Nat) (v4 : Nat) (v9 : Nat) (v13 : Nat) (v27 : Nat) (v28 : Nat) (v29 : Nat) (v30 : Nat) (v31 : Nat) (v32 : Nat) (v33 : Nat) (v34 : Nat) (v35 : Nat) (v36 : Nat) (v37 : Nat) (g8 : Int32) (g11 : Int32) (g12 : Int32) (g14 : Int32) (g15 : Int32) (g16 : Int32) (g17 : Int32) (g18 : Int32) (g19 : Int32) (g20 : Int32) (g21 : Int32) (g22 : Int32) (g23 : Int32) (g24 : Int32) (g26 : Int32) (g5 : Int64) (g6 : Int64) (g25 : Int64) (cn : Nat) (pq : Nat) (en : Nat) (dy : Nat) (fs : Nat → Int32) (fc : Nat → Int32) (fq : Nat → Int32) (fk : Nat → Int32) (cq : Nat → Nat) (fo : Nat → Int32) (fa : Nat → Int32) (i : Int32) (sz : Nat) (hcn : cn ≤ 10) (hpq : pq ≤ 8) (hen : en ≤ 60) (hdy : dy ≤ 20000) (hri : RI cn pq en dy fs) (hCQ : CQ cn fc cq) (hcq : Elq cn cq fq) (hbit : Bit 400 fk) (hord : Rng 10 10 fo) (hd9 : dy ≤ 9999) : Met l yX10_shortDay wsX10_shortDay ({ frames := 6, cells := 0, slots := 0, locals := 129 }) (va_Pc [.ref w0, .int i] (Wd D cA sa [(oX10 w0 v0 v1 v2 v3 v4 g5 g6 (nI ed) g8 v9 (nI nb) g11 g12 v13 g14 g15 g16 g17 g18 g19 g20 g21 g22 g23 g24 g25 g26 v27 v28 v29 v30 v31 v32 v33 v34 v35 v36 v37 (nI ol)), (v0, .inl (cA 0, 326, .inl fs)), (v31, .inl (cA 0, 400, .inl fc)), (v33, .inl (cA 0, 11, .inl fq)), (v35, .inl (cA 4, 400, .inl fk)), (v36, .inl (cA 0, 10, .inl fo)), (v2, .inl (cA 0, 326, .inl fa))] sz)) (va_Qi (fun (r : Int32) (_ : Unit) => True) (fun (_ : Unit) t => ∃ zt : Int32, ∃ z6 : Int64, ∃ zs : Nat → Int32, ∃ zk : Nat → Int32, ∃ zo : Nat → Int32, ∃ za : Nat → Int32, RI cn pq en dy zs ∧ Bit 400 zk ∧ Rng 10 10 zo ∧ Cp 326 fs zs ∧ Wq D (va_A [(oX10 w0 v0 v1 v2 v3 v4 g5 g6 (nI ed) g8 v9 (nI nb) g11 g12 v13 g14 g15 g16 g17 g18 g19 g20 g21 g22 g23 g24 g25 g26 v27 v28 v29 v30 v31 v32 v33 v34 v35 v36 v37 (nI ol)), (v0, .inl (cA 0, 326, .inl fs)), (v31, .inl (cA 0, 400, .inl fc)), (v33, .inl (cA 0, 11, .inl fq)), (v35, .inl (cA 4, 400, .inl fk)), (v36, .inl (cA 0, 10, .inl fo)), (v2, .inl (cA 0, 326, .inl fa))] sz) [(oX10 w0 v0 v1 v2 v3 v4 g5 z6 (nI ed) zt v9 (nI nb) g11 g12 v13 g14 g15 g16 g17 g18 g19 g20 g21 g22 g23 g24 g25 g26 v27 v28 v29 v30 v31 v32 v33 v34 v35 v36 v37 (nI ol)), (v0, .inl (cA 0, 326, .inl zs)), (v31, .inl (cA 0, 400, .inl fc)), (v33, .inl (cA 0, 11, .inl fq)), (v35, .inl (cA 4, 400, .inl zk)), (v36, .inl (cA 0, 10, .inl zo)), (v2, .inl (cA 0, 326, .inl za))] t) (va_A [(oX10 w0 v0 v1 v2 v3 v4 g5 g6 (nI ed) g8 v9 (nI nb) g11 g12 v13 g14 g15 g16 g17 g18 g19 g20 g21 g22 g23 g24 g25 g26 v27 v28 v29 v30 v31 v32 v33 v34 v35 v36 v37 (nI ol)), (v0, .inl (cA 0, 326, .inl fs)), (v31, .inl (cA 0, 400, .inl fc)), (v33, .inl (cA 0, 11, .inl fq)), (v35, .inl (cA 4, 400, .inl fk)), (v36, .inl (cA 0, 10, .inl fo)), (v2, .inl (cA 0, 326, .inl fa))] sz)) 0 0 (va_A [(oX10 w0 v0 v1 v2 v3 v4 g5 g6 (nI ed) g8 v9 (nI nb) g11 g12 v13 g14 g15 g16 g17 g18 g19 g20 g21 g22 g23 g24 g25 g26 v27 v28 v29 v30 v31 v32 v33 v34 v35 v36 v37 (nI ol)), (v0, .inl (cA 0, 326, .inl fs)), (v31, .inl (cA 0, 400, .inl fc)), (v33, .inl (cA 0, 11, .inl fq)), (v35, .inl (cA 4, 400, .inl fk)), (v36, .inl (cA 0, 10, .inl fo)), (v2, .inl (cA 0, 326, .inl fa))] sz) := by
  refine Met.ofW (cc := cX10_shortDay) (maxL := 4) (ret := (some .int)) (by decide) rfl ?_
  intro p e s m args below meth c s₁ B hml hv
  obtain ⟨rfl, hsz, hP, hK, hD0, hC, hZ⟩ := hv
  have hx := B.exec
  have hb := B.bytes
  have hr := B.returns
  have hts := atoms_spec (ws := wsX10_shortDay) B.pre
  have hown : s.vm.findClass RX10 = some m.cls := findClass_of_methodNamed B.named
  have hlocks := B.notSynchronized
  subst hsz
  have hD := hD0.self (sz := s.heap.size)
  generalize hAe : va_A [(oX10 w0 v0 v1 v2 v3 v4 g5 g6 (nI ed) g8 v9 (nI nb) g11 g12 v13 g14 g15 g16 g17 g18 g19 g20 g21 g22 g23 g24 g25 g26 v27 v28 v29 v30 v31 v32 v33 v34 v35 v36 v37 (nI ol)), (v0, .inl (cA 0, 326, .inl fs)), (v31, .inl (cA 0, 400, .inl fc)), (v33, .inl (cA 0, 11, .inl fq)), (v35, .inl (cA 4, 400, .inl fk)), (v36, .inl (cA 0, 10, .inl fo)), (v2, .inl (cA 0, 326, .inl fa))] s.heap.size = A at hD hZ ⊢
  have hA : ∀ q : Nat, s.heap.size ≤ q → A q := fun q h => by rw [← hAe]; exact Or.inr h
  have hS : va_S A s.heap s.heap [] := va_S.rf
  have hP : va_P D vwCl [(oX10 w0 v0 v1 v2 v3 v4 g5 g6 (nI ed) g8 v9 (nI nb) g11 g12 v13 g14 g15 g16 g17 g18 g19 g20 g21 g22 g23 g24 g25 g26 v27 v28 v29 v30 v31 v32 v33 v34 v35 v36 v37 (nI ol)), (v0, .inl (cA 0, 326, .inl fs)), (v31, .inl (cA 0, 400, .inl fc)), (v33, .inl (cA 0, 11, .inl fq)), (v35, .inl (cA 4, 400, .inl fk)), (v36, .inl (cA 0, 10, .inl fo)), (v2, .inl (cA 0, 326, .inl fa))] s.heap := hP
  have hl := lv_entry ([.ref w0, .int i]) (n := 4) (Nat.le_of_ble_eq_true rfl)
  rw [lg_entry_eq]
  generalize (lg_sl ([.ref w0, .int i]) ++ List.replicate (4 - (lg_sl ([.ref w0, .int i])).length) Slot.unset).toArray = ls at hl ⊢
  have hl : lv_has ls 4 [(0, .ref w0), (1, .int i)] := hl
  have inX10 : ∀ w ∈ u_ws RX10 TX10 39, w ∈ wsX10_shortDay := by decide +kernel
  refine lv_aload_n hx hb dX10_shortDay_0 rfl (lv_at hl 0 rfl) ?_
  refine lv_iload_n hx hb dX10_shortDay_1 rfl (lv_at hl 1 rfl) ?_
  obtain ⟨hPc, hDc, hFc⟩ := PDq.cut (wc := []) hP hD hS hA [] (by decide) rfl
  refine va_calli (va_runS (As := [.int i]) (rest := [.ref w0]) ⟨hx, hb, hml, hown, hts⟩ (r_isTrial l D cA sa i s.heap.size) (va_cwS 1 hts gX10_shortDay_X10_isTrial rfl rfl rfl (by decide +kernel) ⟨(Nat.le_of_ble_eq_true rfl), (Nat.le_of_ble_eq_true rfl)⟩) ⟨Wd.blind, fun U hU hW => ⟨rfl, Wd.call hPc hDc hK hC hZ hS hFc U hU hW⟩⟩ rfl rfl hl.1 rfl (lv_room (Nat.le_of_ble_eq_true rfl)) dX10_shortDay_2 ⟨(Nat.le_of_ble_eq_true rfl), (Nat.le_of_ble_eq_true rfl)⟩) hS (fun q _ h => hFc q h) hFc (fun rn1 u t H1 locs ht hvm hw hB hz1 hk1 hS => ?_)
  obtain ⟨hP1, hD1⟩ := hB
  rw [ht] at hP1
  obtain ⟨hP, hD⟩ := PDq.join (w := [(oX10 w0 v0 v1 v2 v3 v4 g5 g6 (nI ed) g8 v9 (nI nb) g11 g12 v13 g14 g15 g16 g17 g18 g19 g20 g21 g22 g23 g24 g25 g26 v27 v28 v29 v30 v31 v32 v33 v34 v35 v36 v37 (nI ol)), (v0, .inl (cA 0, 326, .inl fs)), (v31, .inl (cA 0, 400, .inl fc)), (v33, .inl (cA 0, 11, .inl fq)), (v35, .inl (cA 4, 400, .inl fk)), (v36, .inl (cA 0, 10, .inl fo)), (v2, .inl (cA 0, 326, .inl fa))]) 7 hP hD [] [0, 1, 2, 3, 4, 5, 6] rfl rfl (by decide) (by decide) hk1 hFc hP1 hD1 rfl
  generalize H1 = H at hP hS ⊢
  rcases hw with ⟨hr9, hn2⟩ | hr9
  · skip
    subst hr9
    obtain ⟨kn3, hn4, hn5, hn6⟩ := hn2
    rw [hn6] at hl
    have hl : lv_has ls 4 [(0, .ref w0), (1, .int (nI kn3))] := hl
    obtain ⟨hPc, hDc, hFc⟩ := PDq.cut (wc := [(oX10 w0 v0 v1 v2 v3 v4 g5 g6 (nI ed) g8 v9 (nI nb) g11 g12 v13 g14 g15 g16 g17 g18 g19 g20 g21 g22 g23 g24 g25 g26 v27 v28 v29 v30 v31 v32 v33 v34 v35 v36 v37 (nI ol))]) hP hD hS hA [0] (by decide) rfl
    refine va_calli (va_runV (As := [.int 1]) (rest := []) ⟨hx, hb, hml, hown, hts⟩ (r_good1 l D cA sa w0 ed nb ol v0 v1 v2 v3 v4 v9 v13 v27 v28 v29 v30 v31 v32 v33 v34 v35 v36 v37 g8 g11 g12 g14 g15 g16 g17 g18 g19 g20 g21 g22 g23 g24 g26 g5 g6 g25 H.size) (cwV 1 hts gX10_shortDay_X10_good rfl rfl rfl (by decide +kernel) ⟨(Nat.le_of_ble_eq_true rfl), (Nat.le_of_ble_eq_true rfl)⟩) ⟨Wd.blind, va_recv hK hPc (ci := 11) (q0 := 0) rfl rfl, fun U hU hW => ⟨rfl, Wd.call hPc hDc hK hC hZ hS hFc U hU hW⟩⟩ rfl rfl hl.1 rfl (lv_room (Nat.le_of_ble_eq_true rfl)) dX10_shortDay_5 ⟨(Nat.le_of_ble_eq_true rfl), (Nat.le_of_ble_eq_true rfl)⟩) hS (fun q _ h => hFc q h) hFc (fun rn7 u t H1 locs ht hvm hw hB hz1 hk1 hS => ?_)
    obtain ⟨hP1, hD1⟩ := hB
    rw [ht] at hP1
    obtain ⟨hP, hD⟩ := PDq.join (w := [(v0, .inl (cA 0, 326, .inl fs)), (v31, .inl (cA 0, 400, .inl fc)), (v33, .inl (cA 0, 11, .inl fq)), (v35, .inl (cA 4, 400, .inl fk)), (v36, .inl (cA 0, 10, .inl fo)), (v2, .inl (cA 0, 326, .inl fa)), (oX10 w0 v0 v1 v2 v3 v4 g5 g6 (nI ed) 0 v9 (nI nb) g11 g12 v13 g14 g15 g16 g17 g18 g19 g20 g21 g22 g23 g24 g25 g26 v27 v28 v29 v30 v31 v32 v33 v34 v35 v36 v37 (nI ol))]) 6 hP hD [0] [1, 2, 3, 4, 5, 6] rfl rfl (by decide) (by decide) hk1 hFc hP1 hD1 rfl
    generalize H1 = H at hP hS ⊢
    obtain rfl : rn7 = 1 := hw
    refine lv_if_ne (tgt := 13) hx hb dX10_shortDay_8 (by decide) (fun c8 => ?_) (fun c9 => absurd c9 (by decide))
    refine lv_aload_n hx hb dX10_shortDay_13 rfl (lv_at hl 0 rfl) ?_
    obtain ⟨hPc, hDc, hFc⟩ := PDq.cut (wc := [(oX10 w0 v0 v1 v2 v3 v4 g5 g6 (nI ed) 0 v9 (nI nb) g11 g12 v13 g14 g15 g16 g17 g18 g19 g20 g21 g22 g23 g24 g25 g26 v27 v28 v29 v30 v31 v32 v33 v34 v35 v36 v37 (nI ol)), (v0, .inl (cA 0, 326, .inl fs)), (v2, .inl (cA 0, 326, .inl fa))]) hP hD hS hA [6, 0, 5] (by decide) rfl
    refine va_callv (va_runV (As := []) (rest := []) ⟨hx, hb, hml, hown, hts⟩ (e_beginTrial l D cA sa w0 ed nb ol v0 v1 v2 v3 v4 v9 v13 v27 v28 v29 v30 v31 v32 v33 v34 v35 v36 v37 0 g11 g12 g14 g15 g16 g17 g18 g19 g20 g21 g22 g23 g24 g26 g5 g6 g25 cn pq en dy fs fa H.size hcn hpq hen hdy hri) (cwV 0 hts gX10_shortDay_X10_beginTrial rfl rfl rfl (by decide +kernel) ⟨(Nat.le_of_ble_eq_true rfl), (Nat.le_of_ble_eq_true rfl)⟩) ⟨Wd.blind, va_recv hK hPc (ci := 11) (q0 := 0) rfl rfl, fun U hU hW => ⟨rfl, Wd.call hPc hDc hK hC hZ hS hFc U hU hW⟩⟩ rfl rfl hl.1 rfl (lv_room (Nat.le_of_ble_eq_true rfl)) dX10_shortDay_14 ⟨(Nat.le_of_ble_eq_true rfl), (Nat.le_of_ble_eq_true rfl)⟩) hS (fun q _ h => hFc q h) hFc (fun u t H1 locs ht hvm hw hB hz1 hk1 hS => ?_)
    obtain ⟨fn9, hn10, hn11, hP1, hD1⟩ := hB
    rw [ht] at hP1
    obtain ⟨hP, hD⟩ := PDq.join (w := [(v31, .inl (cA 0, 400, .inl fc)), (v33, .inl (cA 0, 11, .inl fq)), (v35, .inl (cA 4, 400, .inl fk)), (v36, .inl (cA 0, 10, .inl fo)), (oX10 w0 v0 v1 v2 v3 v4 g5 g5 (nI ed) 0 v9 (nI nb) g11 g12 v13 g14 g15 g16 g17 g18 g19 g20 g21 g22 g23 g24 g25 g26 v27 v28 v29 v30 v31 v32 v33 v34 v35 v36 v37 (nI ol)), (v0, .inl (cA 0, 326, .inl fs)), (v2, .inl (cA 0, 326, .inl fn9))]) 4 hP hD [6, 0, 5] [1, 2, 3, 4] rfl rfl (by decide) (by decide) hk1 hFc hP1 hD1 rfl
    generalize H1 = H at hP hS ⊢
    refine lv_iconst (v := (-1)) hx hb dX10_shortDay_17 (by decide) ?_
    refine lv_istore_n (lv' := [(2, .int (-1)), (0, .ref w0), (1, .int (nI kn3))]) hx hb dX10_shortDay_18 rfl hl (by decide) rfl (fun ls hl => ?_)
    refine lv_iconst (v := 0) hx hb dX10_shortDay_19 (by decide) ?_
    refine lv_istore_n (lv' := [(3, .int 0), (2, .int (-1)), (0, .ref w0), (1, .int (nI kn3))]) hx hb dX10_shortDay_20 rfl hl (by decide) rfl (fun ls hl => ?_)
    have loop1 : ∀ (n1 i1 : Nat) (ei : Nat) (di : Nat) (x2_1 : Int32) (f2_1 : Nat → Int32) (f3_1 : Nat → Int32) (u4_5_1 : Int64) (f5_1 : Nat → Int32) (H : Heap) (locs : List Loc) (ls : Array Slot), i1 + n1 = kn3 → Bit 400 f2_1 → Rng 10 10 f3_1 → ei ≤ 60 → di ≤ dy + i1 → RI cn pq ei di f5_1 → va_P D vwCl [(v31, .inl (cA 0, 400, .inl fc)), (v33, .inl (cA 0, 11, .inl fq)), (v35, .inl (cA 4, 400, .inl f2_1)), (v36, .inl (cA 0, 10, .inl f3_1)), (oX10 w0 v0 v1 v2 v3 v4 u4_5_1 g5 (nI ed) 0 v9 (nI nb) g11 g12 v13 g14 g15 g16 g17 g18 g19 g20 g21 g22 g23 g24 g25 g26 v27 v28 v29 v30 v31 v32 v33 v34 v35 v36 v37 (nI ol)), (v0, .inl (cA 0, 326, .inl f5_1)), (v2, .inl (cA 0, 326, .inl fn9))] H → va_D A [(v31, .inl (cA 0, 400, .inl fc)), (v33, .inl (cA 0, 11, .inl fq)), (v35, .inl (cA 4, 400, .inl f2_1)), (v36, .inl (cA 0, 10, .inl f3_1)), (oX10 w0 v0 v1 v2 v3 v4 u4_5_1 g5 (nI ed) 0 v9 (nI nb) g11 g12 v13 g14 g15 g16 g17 g18 g19 g20 g21 g22 g23 g24 g25 g26 v27 v28 v29 v30 v31 v32 v33 v34 v35 v36 v37 (nI ol)), (v0, .inl (cA 0, 326, .inl f5_1)), (v2, .inl (cA 0, 326, .inl fn9))] → va_S A s.heap H locs → lv_has ls 4 [(3, .int (nI i1)), (2, .int x2_1), (0, .ref w0), (1, .int (nI kn3))] → W p l e (headSpec wsX10_shortDay ({ frames := 6, cells := 0, slots := 0, locals := 129 } : Room)).room s m ([.ref w0, .int i] : List Value).toArray below meth c H locs 0 0 (MQ below (va_Qi (fun (r : Int32) (_ : Unit) => True) (fun (_ : Unit) t => ∃ zt : Int32, ∃ z6 : Int64, ∃ zs : Nat → Int32, ∃ zk : Nat → Int32, ∃ zo : Nat → Int32, ∃ za : Nat → Int32, RI cn pq en dy zs ∧ Bit 400 zk ∧ Rng 10 10 zo ∧ Cp 326 fs zs ∧ Wq D A [(oX10 w0 v0 v1 v2 v3 v4 g5 z6 (nI ed) zt v9 (nI nb) g11 g12 v13 g14 g15 g16 g17 g18 g19 g20 g21 g22 g23 g24 g25 g26 v27 v28 v29 v30 v31 v32 v33 v34 v35 v36 v37 (nI ol)), (v0, .inl (cA 0, 326, .inl zs)), (v31, .inl (cA 0, 400, .inl fc)), (v33, .inl (cA 0, 11, .inl fq)), (v35, .inl (cA 4, 400, .inl zk)), (v36, .inl (cA 0, 10, .inl zo)), (v2, .inl (cA 0, 326, .inl za))] t) A) ([.ref w0, .int i] : List Value).toArray s 0 0 A) (F0 m 21 ls []) := by
      intro n1
      induction n1 with
      | zero =>
        intro i1 ei di x2_1 f2_1 f3_1 u4_5_1 f5_1 H locs ls hi1 hf0_1 hf1_1 hv0_1 hv1_1 hv2_1 hP hD hS hl
        obtain rfl : kn3 = i1 := by omega
        refine lv_iload_n hx hb dX10_shortDay_21 rfl (lv_at hl 0 rfl) ?_
        refine lv_iload_n hx hb dX10_shortDay_22 rfl (lv_at hl 3 rfl) ?_
        refine lv_icmp_ge (tgt := 59) hx hb dX10_shortDay_23 (by decide) (fun c12 => ?_) (fun c9 => absurd (nI_le (a := kn3) (b := kn3) (show kn3 ≤ kn3 by omega) (by omega)) c9)
        refine lv_aload_n hx hb dX10_shortDay_59 rfl (lv_at hl 2 rfl) ?_
        obtain ⟨hPc, hDc, hFc⟩ := PDq.cut (wc := [(oX10 w0 v0 v1 v2 v3 v4 u4_5_1 g5 (nI ed) 0 v9 (nI nb) g11 g12 v13 g14 g15 g16 g17 g18 g19 g20 g21 g22 g23 g24 g25 g26 v27 v28 v29 v30 v31 v32 v33 v34 v35 v36 v37 (nI ol)), (v0, .inl (cA 0, 326, .inl f5_1)), (v2, .inl (cA 0, 326, .inl fn9))]) hP hD hS hA [4, 5, 6] (by decide) rfl
        refine va_callv (va_runV (As := []) (rest := []) ⟨hx, hb, hml, hown, hts⟩ (e_endTrial l D cA sa w0 ed nb ol v0 v1 v2 v3 v4 v9 v13 v27 v28 v29 v30 v31 v32 v33 v34 v35 v36 v37 0 g11 g12 g14 g15 g16 g17 g18 g19 g20 g21 g22 g23 g24 g26 u4_5_1 g5 g25 cn pq en dy fn9 f5_1 H.size hcn hpq hen hdy hn10) (cwV 0 hts gX10_shortDay_X10_endTrial rfl rfl rfl (by decide +kernel) ⟨(Nat.le_of_ble_eq_true rfl), (Nat.le_of_ble_eq_true rfl)⟩) ⟨Wd.blind, va_recv hK hPc (ci := 11) (q0 := 0) rfl rfl, fun U hU hW => ⟨rfl, Wd.call hPc hDc hK hC hZ hS hFc U hU hW⟩⟩ rfl rfl hl.1 rfl (lv_room (Nat.le_of_ble_eq_true rfl)) dX10_shortDay_60 ⟨(Nat.le_of_ble_eq_true rfl), (Nat.le_of_ble_eq_true rfl)⟩) hS (fun q _ h => hFc q h) hFc (fun u t H1 locs ht hvm hw hB hz1 hk1 hS => ?_)
        obtain ⟨fn13, hn14, hn15, hP1, hD1⟩ := hB
        rw [ht] at hP1
        obtain ⟨hP, hD⟩ := PDq.join (w := [(v31, .inl (cA 0, 400, .inl fc)), (v33, .inl (cA 0, 11, .inl fq)), (v35, .inl (cA 4, 400, .inl f2_1)), (v36, .inl (cA 0, 10, .inl f3_1)), (oX10 w0 v0 v1 v2 v3 v4 g5 g5 (nI ed) 0 v9 (nI nb) g11 g12 v13 g14 g15 g16 g17 g18 g19 g20 g21 g22 g23 g24 g25 g26 v27 v28 v29 v30 v31 v32 v33 v34 v35 v36 v37 (nI ol)), (v0, .inl (cA 0, 326, .inl fn13)), (v2, .inl (cA 0, 326, .inl fn9))]) 4 hP hD [4, 5, 6] [0, 1, 2, 3] rfl rfl (by decide) (by decide) hk1 hFc hP1 hD1 rfl
        generalize H1 = H at hP hS ⊢
        refine lv_iload_n hx hb dX10_shortDay_63 rfl (lv_at hl 1 rfl) ?_
        obtain ⟨hP9, hD9⟩ := PDq.sub (ws' := [(oX10 w0 v0 v1 v2 v3 v4 g5 g5 (nI ed) 0 v9 (nI nb) g11 g12 v13 g14 g15 g16 g17 g18 g19 g20 g21 g22 g23 g24 g25 g26 v27 v28 v29 v30 v31 v32 v33 v34 v35 v36 v37 (nI ol)), (v0, .inl (cA 0, 326, .inl fn13)), (v31, .inl (cA 0, 400, .inl fc)), (v33, .inl (cA 0, 11, .inl fq)), (v35, .inl (cA 4, 400, .inl f2_1)), (v36, .inl (cA 0, 10, .inl f3_1)), (v2, .inl (cA 0, 326, .inl fn9))]) hP hD [4, 5, 0, 1, 2, 3, 6] (by decide) rfl
        refine W.widen (k := 0) (n := 0) (Nat.le_of_ble_eq_true rfl) (Nat.le_of_ble_eq_true rfl) ?_
        exact (W.iret (v := x2_1) hx hb hr (fun t ht hW => ⟨⟨x2_1, (), rfl, trivial, 0, g5, fn13, f2_1, f3_1, fn9, hn14, hf0_1, hf1_1, (fun j hj => (hn15 j hj).trans (hn11 j hj)), by rw [ht]; exact hP9, hD9⟩, hS.F ht⟩) hS.2.2 dX10_shortDay_64)
      | succ n1 ih1 =>
        intro i1 ei di x2_1 f2_1 f3_1 u4_5_1 f5_1 H locs ls hi1 hf0_1 hf1_1 hv0_1 hv1_1 hv2_1 hP hD hS hl
        refine lv_iload_n hx hb dX10_shortDay_21 rfl (lv_at hl 0 rfl) ?_
        refine lv_iload_n hx hb dX10_shortDay_22 rfl (lv_at hl 3 rfl) ?_
        refine lv_icmp_ge (tgt := 59) hx hb dX10_shortDay_23 (by decide) (fun c9 => absurd c9 (nI_ge (a := i1) (b := kn3) (show i1 < kn3 by omega) (by omega))) (fun c16 => ?_)
        refine lv_iload_n hx hb dX10_shortDay_26 rfl (lv_at hl 1 rfl) ?_
        refine lv_iconst (v := (-1)) hx hb dX10_shortDay_27 (by decide) ?_
        refine lv_icmp_ne (tgt := 59) hx hb dX10_shortDay_28 (by decide) (fun c17 => ?_) (fun c17 => ?_)
        · skip
          refine lv_aload_n hx hb dX10_shortDay_59 rfl (lv_at hl 2 rfl) ?_
          obtain ⟨hPc, hDc, hFc⟩ := PDq.cut (wc := [(oX10 w0 v0 v1 v2 v3 v4 u4_5_1 g5 (nI ed) 0 v9 (nI nb) g11 g12 v13 g14 g15 g16 g17 g18 g19 g20 g21 g22 g23 g24 g25 g26 v27 v28 v29 v30 v31 v32 v33 v34 v35 v36 v37 (nI ol)), (v0, .inl (cA 0, 326, .inl f5_1)), (v2, .inl (cA 0, 326, .inl fn9))]) hP hD hS hA [4, 5, 6] (by decide) rfl
          refine va_callv (va_runV (As := []) (rest := []) ⟨hx, hb, hml, hown, hts⟩ (e_endTrial l D cA sa w0 ed nb ol v0 v1 v2 v3 v4 v9 v13 v27 v28 v29 v30 v31 v32 v33 v34 v35 v36 v37 0 g11 g12 g14 g15 g16 g17 g18 g19 g20 g21 g22 g23 g24 g26 u4_5_1 g5 g25 cn pq en dy fn9 f5_1 H.size hcn hpq hen hdy hn10) (cwV 0 hts gX10_shortDay_X10_endTrial rfl rfl rfl (by decide +kernel) ⟨(Nat.le_of_ble_eq_true rfl), (Nat.le_of_ble_eq_true rfl)⟩) ⟨Wd.blind, va_recv hK hPc (ci := 11) (q0 := 0) rfl rfl, fun U hU hW => ⟨rfl, Wd.call hPc hDc hK hC hZ hS hFc U hU hW⟩⟩ rfl rfl hl.1 rfl (lv_room (Nat.le_of_ble_eq_true rfl)) dX10_shortDay_60 ⟨(Nat.le_of_ble_eq_true rfl), (Nat.le_of_ble_eq_true rfl)⟩) hS (fun q _ h => hFc q h) hFc (fun u t H1 locs ht hvm hw hB hz1 hk1 hS => ?_)
          obtain ⟨fn18, hn19, hn20, hP1, hD1⟩ := hB
          rw [ht] at hP1
          obtain ⟨hP, hD⟩ := PDq.join (w := [(v31, .inl (cA 0, 400, .inl fc)), (v33, .inl (cA 0, 11, .inl fq)), (v35, .inl (cA 4, 400, .inl f2_1)), (v36, .inl (cA 0, 10, .inl f3_1)), (oX10 w0 v0 v1 v2 v3 v4 g5 g5 (nI ed) 0 v9 (nI nb) g11 g12 v13 g14 g15 g16 g17 g18 g19 g20 g21 g22 g23 g24 g25 g26 v27 v28 v29 v30 v31 v32 v33 v34 v35 v36 v37 (nI ol)), (v0, .inl (cA 0, 326, .inl fn18)), (v2, .inl (cA 0, 326, .inl fn9))]) 4 hP hD [4, 5, 6] [0, 1, 2, 3] rfl rfl (by decide) (by decide) hk1 hFc hP1 hD1 rfl
          generalize H1 = H at hP hS ⊢
          refine lv_iload_n hx hb dX10_shortDay_63 rfl (lv_at hl 1 rfl) ?_
          obtain ⟨hP9, hD9⟩ := PDq.sub (ws' := [(oX10 w0 v0 v1 v2 v3 v4 g5 g5 (nI ed) 0 v9 (nI nb) g11 g12 v13 g14 g15 g16 g17 g18 g19 g20 g21 g22 g23 g24 g25 g26 v27 v28 v29 v30 v31 v32 v33 v34 v35 v36 v37 (nI ol)), (v0, .inl (cA 0, 326, .inl fn18)), (v31, .inl (cA 0, 400, .inl fc)), (v33, .inl (cA 0, 11, .inl fq)), (v35, .inl (cA 4, 400, .inl f2_1)), (v36, .inl (cA 0, 10, .inl f3_1)), (v2, .inl (cA 0, 326, .inl fn9))]) hP hD [4, 5, 0, 1, 2, 3, 6] (by decide) rfl
          refine W.widen (k := 0) (n := 0) (Nat.le_of_ble_eq_true rfl) (Nat.le_of_ble_eq_true rfl) ?_
          exact (W.iret (v := x2_1) hx hb hr (fun t ht hW => ⟨⟨x2_1, (), rfl, trivial, 0, g5, fn18, f2_1, f3_1, fn9, hn19, hf0_1, hf1_1, (fun j hj => (hn20 j hj).trans (hn11 j hj)), by rw [ht]; exact hP9, hD9⟩, hS.F ht⟩) hS.2.2 dX10_shortDay_64)
        · skip
          subst c17
          have hl : lv_has ls 4 [(3, .int (nI i1)), (2, .int (-1)), (0, .ref w0), (1, .int (nI kn3))] := hl
          refine lv_aload_n hx hb dX10_shortDay_31 rfl (lv_at hl 2 rfl) ?_
          obtain ⟨hPc, hDc, hFc⟩ := PDq.cut (wc := [(oX10 w0 v0 v1 v2 v3 v4 u4_5_1 g5 (nI ed) 0 v9 (nI nb) g11 g12 v13 g14 g15 g16 g17 g18 g19 g20 g21 g22 g23 g24 g25 g26 v27 v28 v29 v30 v31 v32 v33 v34 v35 v36 v37 (nI ol)), (v0, .inl (cA 0, 326, .inl f5_1)), (v31, .inl (cA 0, 400, .inl fc)), (v33, .inl (cA 0, 11, .inl fq)), (v35, .inl (cA 4, 400, .inl f2_1)), (v36, .inl (cA 0, 10, .inl f3_1))]) hP hD hS hA [4, 5, 0, 1, 2, 3] (by decide) rfl
          refine va_callv (va_runV (As := []) (rest := []) ⟨hx, hb, hml, hown, hts⟩ (e_passDay l D cA sa w0 ed nb ol v0 v1 v2 v3 v4 v9 v13 v27 v28 v29 v30 v31 v32 v33 v34 v35 v36 v37 0 g11 g12 g14 g15 g16 g17 g18 g19 g20 g21 g22 g23 g24 g26 u4_5_1 g5 g25 cn pq ei di f5_1 fc fq f2_1 f5_1 cq f3_1 H.size (Ab.rf _) hcn hpq hv0_1 (by omega) hv2_1 hCQ hcq hf0_1 hf1_1 (by omega)) (cwV 0 hts gX10_shortDay_X10_passDay rfl rfl rfl (by decide +kernel) ⟨(Nat.le_of_ble_eq_true rfl), (Nat.le_of_ble_eq_true rfl)⟩) ⟨Wd.blind, va_recv hK hPc (ci := 11) (q0 := 0) rfl rfl, fun U hU hW => ⟨rfl, Wd.call hPc hDc hK hC hZ hS hFc U hU hW⟩⟩ rfl rfl hl.1 rfl (lv_room (Nat.le_of_ble_eq_true rfl)) dX10_shortDay_32 ⟨(Nat.le_of_ble_eq_true rfl), (Nat.le_of_ble_eq_true rfl)⟩) hS (fun q _ h => hFc q h) hFc (fun u t H1 locs ht hvm hw hB hz1 hk1 hS => ?_)
          obtain ⟨qn21, qn22, zn23, fn24, fn25, fn26, hn27, hn28, hn29, hn30, hn31, hn32, hP1, hD1⟩ := hB
          rw [ht] at hP1
          obtain ⟨hP, hD⟩ := PDq.join (w := [(v2, .inl (cA 0, 326, .inl fn9)), (oX10 w0 v0 v1 v2 v3 v4 zn23 g5 (nI ed) 0 v9 (nI nb) g11 g12 v13 g14 g15 g16 g17 g18 g19 g20 g21 g22 g23 g24 g25 g26 v27 v28 v29 v30 v31 v32 v33 v34 v35 v36 v37 (nI ol)), (v0, .inl (cA 0, 326, .inl fn24)), (v31, .inl (cA 0, 400, .inl fc)), (v33, .inl (cA 0, 11, .inl fq)), (v35, .inl (cA 4, 400, .inl fn25)), (v36, .inl (cA 0, 10, .inl fn26))]) 1 hP hD [4, 5, 0, 1, 2, 3] [6] rfl rfl (by decide) (by decide) hk1 hFc hP1 hD1 rfl
          generalize H1 = H at hP hS ⊢
          refine lv_aload_n hx hb dX10_shortDay_35 rfl (lv_at hl 2 rfl) ?_
          obtain ⟨hPc, hDc, hFc⟩ := PDq.cut (wc := [(oX10 w0 v0 v1 v2 v3 v4 zn23 g5 (nI ed) 0 v9 (nI nb) g11 g12 v13 g14 g15 g16 g17 g18 g19 g20 g21 g22 g23 g24 g25 g26 v27 v28 v29 v30 v31 v32 v33 v34 v35 v36 v37 (nI ol)), (v0, .inl (cA 0, 326, .inl fn24))]) hP hD hS hA [1, 2] (by decide) rfl
          refine va_calli (va_runV (As := []) (rest := []) ⟨hx, hb, hml, hown, hts⟩ (r_isShort l D cA sa w0 ed nb ol v0 v1 v2 v3 v4 v9 v13 v27 v28 v29 v30 v31 v32 v33 v34 v35 v36 v37 0 g11 g12 g14 g15 g16 g17 g18 g19 g20 g21 g22 g23 g24 g26 zn23 g5 g25 cn pq qn21 qn22 fn24 H.size hcn hpq hn27 (by omega) hn28) (cwV 0 hts gX10_shortDay_X10_isShort rfl rfl rfl (by decide +kernel) ⟨(Nat.le_of_ble_eq_true rfl), (Nat.le_of_ble_eq_true rfl)⟩) ⟨Wd.blind, va_recv hK hPc (ci := 11) (q0 := 0) rfl rfl, fun U hU hW => ⟨rfl, Wd.call hPc hDc hK hC hZ hS hFc U hU hW⟩⟩ rfl rfl hl.1 rfl (lv_room (Nat.le_of_ble_eq_true rfl)) dX10_shortDay_36 ⟨(Nat.le_of_ble_eq_true rfl), (Nat.le_of_ble_eq_true rfl)⟩) hS (fun q _ h => hFc q h) hFc (fun rn33 u t H1 locs ht hvm hw hB hz1 hk1 hS => ?_)
          obtain ⟨hP1, hD1⟩ := hB
          rw [ht] at hP1
          obtain ⟨hP, hD⟩ := PDq.join (w := [(v2, .inl (cA 0, 326, .inl fn9)), (v31, .inl (cA 0, 400, .inl fc)), (v33, .inl (cA 0, 11, .inl fq)), (v35, .inl (cA 4, 400, .inl fn25)), (v36, .inl (cA 0, 10, .inl fn26)), (oX10 w0 v0 v1 v2 v3 v4 zn23 g5 (nI ed) 0 v9 (nI nb) g11 g12 v13 g14 g15 g16 g17 g18 g19 g20 g21 g22 g23 g24 g25 g26 v27 v28 v29 v30 v31 v32 v33 v34 v35 v36 v37 (nI ol)), (v0, .inl (cA 0, 326, .inl fn24))]) 5 hP hD [1, 2] [0, 3, 4, 5, 6] rfl rfl (by decide) (by decide) hk1 hFc hP1 hD1 rfl
          generalize H1 = H at hP hS ⊢
          have hn34 := hw
          refine lv_if_eq (tgt := 51) hx hb dX10_shortDay_39 (by decide) (fun c35 => ?_) (fun c35 => ?_)
          · skip
            refine lv_iconst (v := (-1)) hx hb dX10_shortDay_51 (by decide) ?_
            refine lv_istore_n (lv' := [(2, .int (-1)), (3, .int (nI i1)), (0, .ref w0), (1, .int (nI kn3))]) hx hb dX10_shortDay_52 rfl hl (by decide) rfl (fun ls hl => ?_)
            refine lv_iinc (v := (nI (i1 + 1))) (lv' := [(3, .int (nI (i1 + 1))), (2, .int (-1)), (0, .ref w0), (1, .int (nI kn3))]) hx hb dX10_shortDay_53 hl (k := 1) rfl (nI_1 _) (by decide) rfl (fun ls hl => ?_)
            refine lv_goto (tgt := 21) hx hb dX10_shortDay_56 (by decide) ?_
            obtain ⟨hP9, hD9⟩ := PDq.sub (ws' := [(v31, .inl (cA 0, 400, .inl fc)), (v33, .inl (cA 0, 11, .inl fq)), (v35, .inl (cA 4, 400, .inl fn25)), (v36, .inl (cA 0, 10, .inl fn26)), (oX10 w0 v0 v1 v2 v3 v4 zn23 g5 (nI ed) 0 v9 (nI nb) g11 g12 v13 g14 g15 g16 g17 g18 g19 g20 g21 g22 g23 g24 g25 g26 v27 v28 v29 v30 v31 v32 v33 v34 v35 v36 v37 (nI ol)), (v0, .inl (cA 0, 326, .inl fn24)), (v2, .inl (cA 0, 326, .inl fn9))]) hP hD [1, 2, 3, 4, 5, 6, 0] (by decide) rfl
            exact ih1 (i1 + 1) qn21 qn22 (-1) fn25 fn26 zn23 fn24 H _ ls (by omega) hn29 hn30 hn27 (by omega) hn28 hP9 hD9 hS (lv_sub hl [0, 1, 2, 3] rfl)
          · skip
            refine lv_aload_n hx hb dX10_shortDay_42 rfl (lv_at hl 2 rfl) ?_
            refine va_get (D := D) (ci := 11) (v := .ref v0) (C := RX10) (T := TX10) (N := 39) hx hb hts inX10 hown hK hP 5 rfl rfl 0 (by decide) (hts (.fieldLink RX10 7 "EscrowDeskModel" "s" "[I") (by decide +kernel)) (fun _ h9 => h9) rfl dX10_shortDay_43 ?_
            refine lv_iconst (v := 4) hx hb dX10_shortDay_46 (by decide) ?_
            refine va_iald hx hb hK hP 6 0 rfl rfl (vp_in_iff.mpr (by decide)) dX10_shortDay_47 ?_
            refine lv_topi (fun yn36 eyn36 => ?_)
            obtain rfl : yn36 = (nI qn22) := eyn36.trans hn28.2.2.2.1
            refine lv_goto (tgt := 52) hx hb dX10_shortDay_48 (by decide) ?_
            refine lv_istore_n (lv' := [(2, .int (nI qn22)), (3, .int (nI i1)), (0, .ref w0), (1, .int (nI kn3))]) hx hb dX10_shortDay_52 rfl hl (by decide) rfl (fun ls hl => ?_)
            refine lv_iinc (v := (nI (i1 + 1))) (lv' := [(3, .int (nI (i1 + 1))), (2, .int (nI qn22)), (0, .ref w0), (1, .int (nI kn3))]) hx hb dX10_shortDay_53 hl (k := 1) rfl (nI_1 _) (by decide) rfl (fun ls hl => ?_)
            refine lv_goto (tgt := 21) hx hb dX10_shortDay_56 (by decide) ?_
            obtain ⟨hP9, hD9⟩ := PDq.sub (ws' := [(v31, .inl (cA 0, 400, .inl fc)), (v33, .inl (cA 0, 11, .inl fq)), (v35, .inl (cA 4, 400, .inl fn25)), (v36, .inl (cA 0, 10, .inl fn26)), (oX10 w0 v0 v1 v2 v3 v4 zn23 g5 (nI ed) 0 v9 (nI nb) g11 g12 v13 g14 g15 g16 g17 g18 g19 g20 g21 g22 g23 g24 g25 g26 v27 v28 v29 v30 v31 v32 v33 v34 v35 v36 v37 (nI ol)), (v0, .inl (cA 0, 326, .inl fn24)), (v2, .inl (cA 0, 326, .inl fn9))]) hP hD [1, 2, 3, 4, 5, 6, 0] (by decide) rfl
            exact ih1 (i1 + 1) qn21 qn22 (nI qn22) fn25 fn26 zn23 fn24 H _ ls (by omega) hn29 hn30 hn27 (by omega) hn28 hP9 hD9 hS (lv_sub hl [0, 1, 2, 3] rfl)
    obtain ⟨hP9, hD9⟩ := PDq.sub (ws' := [(v31, .inl (cA 0, 400, .inl fc)), (v33, .inl (cA 0, 11, .inl fq)), (v35, .inl (cA 4, 400, .inl fk)), (v36, .inl (cA 0, 10, .inl fo)), (oX10 w0 v0 v1 v2 v3 v4 g5 g5 (nI ed) 0 v9 (nI nb) g11 g12 v13 g14 g15 g16 g17 g18 g19 g20 g21 g22 g23 g24 g25 g26 v27 v28 v29 v30 v31 v32 v33 v34 v35 v36 v37 (nI ol)), (v0, .inl (cA 0, 326, .inl fs)), (v2, .inl (cA 0, 326, .inl fn9))]) hP hD [0, 1, 2, 3, 4, 5, 6] (by decide) rfl
    exact loop1 (kn3 - 0) 0 en dy (-1) fk fo g5 fs _ _ ls (by omega) hbit hord hen (by omega) hri hP9 hD9 hS (lv_sub hl [0, 1, 2, 3] rfl)
  · skip
    subst hr9
    obtain ⟨hPc, hDc, hFc⟩ := PDq.cut (wc := [(oX10 w0 v0 v1 v2 v3 v4 g5 g6 (nI ed) g8 v9 (nI nb) g11 g12 v13 g14 g15 g16 g17 g18 g19 g20 g21 g22 g23 g24 g25 g26 v27 v28 v29 v30 v31 v32 v33 v34 v35 v36 v37 (nI ol))]) hP hD hS hA [0] (by decide) rfl
    refine va_calli (va_runV (As := [.int 0]) (rest := []) ⟨hx, hb, hml, hown, hts⟩ (r_good0 l D cA sa w0 ed nb ol v0 v1 v2 v3 v4 v9 v13 v27 v28 v29 v30 v31 v32 v33 v34 v35 v36 v37 g8 g11 g12 g14 g15 g16 g17 g18 g19 g20 g21 g22 g23 g24 g26 g5 g6 g25 H.size) (cwV 1 hts gX10_shortDay_X10_good rfl rfl rfl (by decide +kernel) ⟨(Nat.le_of_ble_eq_true rfl), (Nat.le_of_ble_eq_true rfl)⟩) ⟨Wd.blind, va_recv hK hPc (ci := 11) (q0 := 0) rfl rfl, fun U hU hW => ⟨rfl, Wd.call hPc hDc hK hC hZ hS hFc U hU hW⟩⟩ rfl rfl hl.1 rfl (lv_room (Nat.le_of_ble_eq_true rfl)) dX10_shortDay_5 ⟨(Nat.le_of_ble_eq_true rfl), (Nat.le_of_ble_eq_true rfl)⟩) hS (fun q _ h => hFc q h) hFc (fun rn37 u t H1 locs ht hvm hw hB hz1 hk1 hS => ?_)
    obtain ⟨hP1, hD1⟩ := hB
    rw [ht] at hP1
    obtain ⟨hP, hD⟩ := PDq.join (w := [(v0, .inl (cA 0, 326, .inl fs)), (v31, .inl (cA 0, 400, .inl fc)), (v33, .inl (cA 0, 11, .inl fq)), (v35, .inl (cA 4, 400, .inl fk)), (v36, .inl (cA 0, 10, .inl fo)), (v2, .inl (cA 0, 326, .inl fa)), (oX10 w0 v0 v1 v2 v3 v4 g5 g6 (nI ed) 1 v9 (nI nb) g11 g12 v13 g14 g15 g16 g17 g18 g19 g20 g21 g22 g23 g24 g25 g26 v27 v28 v29 v30 v31 v32 v33 v34 v35 v36 v37 (nI ol))]) 6 hP hD [0] [1, 2, 3, 4, 5, 6] rfl rfl (by decide) (by decide) hk1 hFc hP1 hD1 rfl
    generalize H1 = H at hP hS ⊢
    obtain rfl : rn37 = 0 := hw
    refine lv_if_ne (tgt := 13) hx hb dX10_shortDay_8 (by decide) (fun c9 => absurd c9 (by decide)) (fun c38 => ?_)
    refine lv_iconst (v := 0) hx hb dX10_shortDay_11 (by decide) ?_
    obtain ⟨hP9, hD9⟩ := PDq.sub (ws' := [(oX10 w0 v0 v1 v2 v3 v4 g5 g6 (nI ed) 1 v9 (nI nb) g11 g12 v13 g14 g15 g16 g17 g18 g19 g20 g21 g22 g23 g24 g25 g26 v27 v28 v29 v30 v31 v32 v33 v34 v35 v36 v37 (nI ol)), (v0, .inl (cA 0, 326, .inl fs)), (v31, .inl (cA 0, 400, .inl fc)), (v33, .inl (cA 0, 11, .inl fq)), (v35, .inl (cA 4, 400, .inl fk)), (v36, .inl (cA 0, 10, .inl fo)), (v2, .inl (cA 0, 326, .inl fa))]) hP hD [6, 0, 1, 2, 3, 4, 5] (by decide) rfl
    refine W.widen (k := 0) (n := 0) (Nat.le_of_ble_eq_true rfl) (Nat.le_of_ble_eq_true rfl) ?_
    exact (W.iret (v := 0) hx hb hr (fun t ht hW => ⟨⟨0, (), rfl, trivial, 1, g6, fs, fk, fo, fa, hri, hbit, hord, (fun _ _ => rfl), by rw [ht]; exact hP9, hD9⟩, hS.F ht⟩) hS.2.2 dX10_shortDay_12)

set_option maxHeartbeats 4000000 in
set_option maxRecDepth 100000 in
/-- the class, exactly: X0_payments -/
theorem c_payments (l : Launch) (D : va_G) (cA : Nat → ClassId) (sa : Nat → Nat) (a0 : Nat) (a1 : Nat) (a3 : Nat) (a4 : Nat) (a5 : Nat) (a6 : Nat) (p0 : Nat) (i6 : Int32) (i7 : Int32) (i8 : Int32) (i12 : Int32) (i13 : Int32) (i14 : Int32) (i15 : Int32) (i16 : Int32) (i17 : Int32) (i18 : Int32) (i19 : Int32) (i9 : Int64) (i10 : Int64) (i11 : Int64) (sz : Nat) : Met l yX0_payments wsX0_payments ({ frames := 0, cells := 0, slots := 0, locals := 0 }) (va_Pc [.ref a0] (Wd D cA sa [(oX0 a0 p0 a1 a3 a4 a5 a6 i6 i7 i8 i9 i10 i11 i12 i13 i14 i15 i16 i17 i18 i19)] sz)) (va_Qi (fun (r : Int32) (_ : Unit) => r = i12 + i13) (fun (_ : Unit) t => Wq D (va_A [(oX0 a0 p0 a1 a3 a4 a5 a6 i6 i7 i8 i9 i10 i11 i12 i13 i14 i15 i16 i17 i18 i19)] sz) [(oX0 a0 p0 a1 a3 a4 a5 a6 i6 i7 i8 i9 i10 i11 i12 i13 i14 i15 i16 i17 i18 i19)] t) (va_A [(oX0 a0 p0 a1 a3 a4 a5 a6 i6 i7 i8 i9 i10 i11 i12 i13 i14 i15 i16 i17 i18 i19)] sz)) 0 0 (va_A [(oX0 a0 p0 a1 a3 a4 a5 a6 i6 i7 i8 i9 i10 i11 i12 i13 i14 i15 i16 i17 i18 i19)] sz) := by
  refine Met.ofW (cc := cX0_payments) (maxL := 1) (ret := (some .int)) (by decide) rfl ?_
  intro p e s m args below meth c s₁ B hml hv
  obtain ⟨rfl, hsz, hP, hK, hD0, hC, hZ⟩ := hv
  have hx := B.exec
  have hb := B.bytes
  have hr := B.returns
  have hts := atoms_spec (ws := wsX0_payments) B.pre
  have hown : s.vm.findClass RX0 = some m.cls := findClass_of_methodNamed B.named
  have hlocks := B.notSynchronized
  subst hsz
  have hD := hD0.self (sz := s.heap.size)
  generalize hAe : va_A [(oX0 a0 p0 a1 a3 a4 a5 a6 i6 i7 i8 i9 i10 i11 i12 i13 i14 i15 i16 i17 i18 i19)] s.heap.size = A at hD hZ ⊢
  have hA : ∀ q : Nat, s.heap.size ≤ q → A q := fun q h => by rw [← hAe]; exact Or.inr h
  have hS : va_S A s.heap s.heap [] := va_S.rf
  have hP : va_P D vwCl [(oX0 a0 p0 a1 a3 a4 a5 a6 i6 i7 i8 i9 i10 i11 i12 i13 i14 i15 i16 i17 i18 i19)] s.heap := hP
  have hl := lv_entry ([.ref a0]) (n := 1) (Nat.le_of_ble_eq_true rfl)
  rw [lg_entry_eq]
  generalize (lg_sl ([.ref a0]) ++ List.replicate (1 - (lg_sl ([.ref a0])).length) Slot.unset).toArray = ls at hl ⊢
  have hl : lv_has ls 1 [(0, .ref a0)] := hl
  have inX0 : ∀ w ∈ u_ws RX0 TX0 20, w ∈ wsX0_payments := by decide +kernel
  refine lv_aload_n hx hb dX0_payments_0 rfl (lv_at hl 0 rfl) ?_
  refine va_get (D := D) (ci := 4) (v := .int i12) (C := RX0) (T := TX0) (N := 20) hx hb hts inX0 hown hK hP 0 rfl rfl 12 (by decide) (hts (.fieldLink RX0 60 "EscrowDesk$Account" "received" "I") (by decide +kernel)) (fun _ h9 => h9) rfl dX0_payments_1 ?_
  refine lv_aload_n hx hb dX0_payments_4 rfl (lv_at hl 0 rfl) ?_
  refine va_get (D := D) (ci := 4) (v := .int i13) (C := RX0) (T := TX0) (N := 20) hx hb hts inX0 hown hK hP 0 rfl rfl 13 (by decide) (hts (.fieldLink RX0 63 "EscrowDesk$Account" "fees" "I") (by decide +kernel)) (fun _ h9 => h9) rfl dX0_payments_5 ?_
  refine lv_iadd hx hb dX0_payments_8 ?_
  refine lv_topi (fun yn1 eyn1 => ?_)
  obtain rfl : yn1 = (i12 + i13) := eyn1
  obtain ⟨hP9, hD9⟩ := PDq.sub (ws' := [(oX0 a0 p0 a1 a3 a4 a5 a6 i6 i7 i8 i9 i10 i11 i12 i13 i14 i15 i16 i17 i18 i19)]) hP hD [0] (by decide) rfl
  refine W.widen (k := 0) (n := 0) (Nat.le_of_ble_eq_true rfl) (Nat.le_of_ble_eq_true rfl) ?_
  exact (W.iret (v := (i12 + i13)) hx hb hr (fun t ht hW => ⟨⟨(i12 + i13), (), rfl, rfl, by rw [ht]; exact hP9, hD9⟩, hS.F ht⟩) hS.2.2 dX0_payments_9)

set_option maxHeartbeats 4000000 in
set_option maxRecDepth 100000 in
/-- the class, exactly: X0_availableMoney -/
theorem c_availMoney (l : Launch) (D : va_G) (cA : Nat → ClassId) (sa : Nat → Nat) (a0 : Nat) (a1 : Nat) (a3 : Nat) (a4 : Nat) (a5 : Nat) (a6 : Nat) (p0 : Nat) (i6 : Int32) (i7 : Int32) (i8 : Int32) (i12 : Int32) (i13 : Int32) (i14 : Int32) (i15 : Int32) (i16 : Int32) (i17 : Int32) (i18 : Int32) (i19 : Int32) (i9 : Int64) (i10 : Int64) (i11 : Int64) (p1 : Nat) (p2 : Nat) (p3 : Nat) (p4 : Nat) (p5 : Nat) (p6 : Nat) (p7 : Nat) (p8 : Nat) (p9 : Nat) (cn : Nat) (pq : Nat) (nd : Nat) (sc : Nat) (pr : Int32) (pb : Int32) (pe : Int32) (pg : Int32) (ff : Nat → Int32) (sz : Nat) (hcn : cn ≤ 10) (hpq : pq ≤ 8) (hnd : nd ≤ 6) (hsc : sc ≤ 350) : Met l yX0_availableMoney wsX0_availableMoney ({ frames := 0, cells := 0, slots := 0, locals := 0 }) (va_Pc [.ref a0] (Wd D cA sa [(oX0 a0 p0 a1 a3 a4 a5 a6 i6 i7 i8 i9 i10 i11 i12 i13 i14 i15 i16 i17 i18 i19), (oX3 p0 pr pb pe pg p1 (nI nd) p2 p3 p4 p5 (nI cn) p6 (nI pq) p7 p8 p9 (nI sc)), (a5, .inl (cA 0, 10, .inl ff))] sz)) (va_Qi (fun (r : Int32) (_ : Unit) => r = avC i8 ff cn) (fun (_ : Unit) t => Wq D (va_A [(oX0 a0 p0 a1 a3 a4 a5 a6 i6 i7 i8 i9 i10 i11 i12 i13 i14 i15 i16 i17 i18 i19), (oX3 p0 pr pb pe pg p1 (nI nd) p2 p3 p4 p5 (nI cn) p6 (nI pq) p7 p8 p9 (nI sc)), (a5, .inl (cA 0, 10, .inl ff))] sz) [(oX0 a0 p0 a1 a3 a4 a5 a6 i6 i7 i8 i9 i10 i11 i12 i13 i14 i15 i16 i17 i18 i19), (oX3 p0 pr pb pe pg p1 (nI nd) p2 p3 p4 p5 (nI cn) p6 (nI pq) p7 p8 p9 (nI sc)), (a5, .inl (cA 0, 10, .inl ff))] t) (va_A [(oX0 a0 p0 a1 a3 a4 a5 a6 i6 i7 i8 i9 i10 i11 i12 i13 i14 i15 i16 i17 i18 i19), (oX3 p0 pr pb pe pg p1 (nI nd) p2 p3 p4 p5 (nI cn) p6 (nI pq) p7 p8 p9 (nI sc)), (a5, .inl (cA 0, 10, .inl ff))] sz)) 0 0 (va_A [(oX0 a0 p0 a1 a3 a4 a5 a6 i6 i7 i8 i9 i10 i11 i12 i13 i14 i15 i16 i17 i18 i19), (oX3 p0 pr pb pe pg p1 (nI nd) p2 p3 p4 p5 (nI cn) p6 (nI pq) p7 p8 p9 (nI sc)), (a5, .inl (cA 0, 10, .inl ff))] sz) := by
  refine Met.ofW (cc := cX0_availableMoney) (maxL := 3) (ret := (some .int)) (by decide) rfl ?_
  intro p e s m args below meth c s₁ B hml hv
  obtain ⟨rfl, hsz, hP, hK, hD0, hC, hZ⟩ := hv
  have hx := B.exec
  have hb := B.bytes
  have hr := B.returns
  have hts := atoms_spec (ws := wsX0_availableMoney) B.pre
  have hown : s.vm.findClass RX0 = some m.cls := findClass_of_methodNamed B.named
  have hlocks := B.notSynchronized
  subst hsz
  have hD := hD0.self (sz := s.heap.size)
  generalize hAe : va_A [(oX0 a0 p0 a1 a3 a4 a5 a6 i6 i7 i8 i9 i10 i11 i12 i13 i14 i15 i16 i17 i18 i19), (oX3 p0 pr pb pe pg p1 (nI nd) p2 p3 p4 p5 (nI cn) p6 (nI pq) p7 p8 p9 (nI sc)), (a5, .inl (cA 0, 10, .inl ff))] s.heap.size = A at hD hZ ⊢
  have hA : ∀ q : Nat, s.heap.size ≤ q → A q := fun q h => by rw [← hAe]; exact Or.inr h
  have hS : va_S A s.heap s.heap [] := va_S.rf
  have hP : va_P D vwCl [(oX0 a0 p0 a1 a3 a4 a5 a6 i6 i7 i8 i9 i10 i11 i12 i13 i14 i15 i16 i17 i18 i19), (oX3 p0 pr pb pe pg p1 (nI nd) p2 p3 p4 p5 (nI cn) p6 (nI pq) p7 p8 p9 (nI sc)), (a5, .inl (cA 0, 10, .inl ff))] s.heap := hP
  have hl := lv_entry ([.ref a0]) (n := 3) (Nat.le_of_ble_eq_true rfl)
  rw [lg_entry_eq]
  generalize (lg_sl ([.ref a0]) ++ List.replicate (3 - (lg_sl ([.ref a0])).length) Slot.unset).toArray = ls at hl ⊢
  have hl : lv_has ls 3 [(0, .ref a0)] := hl
  have inX0 : ∀ w ∈ u_ws RX0 TX0 20, w ∈ wsX0_availableMoney := by decide +kernel
  have inX3 : ∀ w ∈ u_ws RX3 TX3 17, w ∈ wsX0_availableMoney := by decide +kernel
  refine lv_aload_n hx hb dX0_availableMoney_0 rfl (lv_at hl 0 rfl) ?_
  refine va_get (D := D) (ci := 4) (v := .int i8) (C := RX0) (T := TX0) (N := 20) hx hb hts inX0 hown hK hP 0 rfl rfl 8 (by decide) (hts (.fieldLink RX0 47 "EscrowDesk$Account" "principal" "I") (by decide +kernel)) (fun _ h9 => h9) rfl dX0_availableMoney_1 ?_
  refine lv_istore_n (lv' := [(1, .int i8), (0, .ref a0)]) hx hb dX0_availableMoney_4 rfl hl (by decide) rfl (fun ls hl => ?_)
  refine lv_iconst (v := 0) hx hb dX0_availableMoney_5 (by decide) ?_
  refine lv_istore_n (lv' := [(2, .int 0), (1, .int i8), (0, .ref a0)]) hx hb dX0_availableMoney_6 rfl hl (by decide) rfl (fun ls hl => ?_)
  have loop1 : ∀ (n1 i1 : Nat) (x1_1 : Int32) (H : Heap) (locs : List Loc) (ls : Array Slot), i1 + n1 = cn → Avc i8 ff i1 x1_1 → va_P D vwCl [(oX0 a0 p0 a1 a3 a4 a5 a6 i6 i7 i8 i9 i10 i11 i12 i13 i14 i15 i16 i17 i18 i19), (oX3 p0 pr pb pe pg p1 (nI nd) p2 p3 p4 p5 (nI cn) p6 (nI pq) p7 p8 p9 (nI sc)), (a5, .inl (cA 0, 10, .inl ff))] H → va_D A [(oX0 a0 p0 a1 a3 a4 a5 a6 i6 i7 i8 i9 i10 i11 i12 i13 i14 i15 i16 i17 i18 i19), (oX3 p0 pr pb pe pg p1 (nI nd) p2 p3 p4 p5 (nI cn) p6 (nI pq) p7 p8 p9 (nI sc)), (a5, .inl (cA 0, 10, .inl ff))] → va_S A s.heap H locs → lv_has ls 3 [(2, .int (nI i1)), (1, .int x1_1), (0, .ref a0)] → W p l e (headSpec wsX0_availableMoney ({ frames := 0, cells := 0, slots := 0, locals := 0 } : Room)).room s m ([.ref a0] : List Value).toArray below meth c H locs 0 0 (MQ below (va_Qi (fun (r : Int32) (_ : Unit) => r = avC i8 ff cn) (fun (_ : Unit) t => Wq D A [(oX0 a0 p0 a1 a3 a4 a5 a6 i6 i7 i8 i9 i10 i11 i12 i13 i14 i15 i16 i17 i18 i19), (oX3 p0 pr pb pe pg p1 (nI nd) p2 p3 p4 p5 (nI cn) p6 (nI pq) p7 p8 p9 (nI sc)), (a5, .inl (cA 0, 10, .inl ff))] t) A) ([.ref a0] : List Value).toArray s 0 0 A) (F0 m 7 ls []) := by
    intro n1
    induction n1 with
    | zero =>
      intro i1 x1_1 H locs ls hi1 hv0_1 hP hD hS hl
      obtain rfl : cn = i1 := by omega
      refine lv_iload_n hx hb dX0_availableMoney_7 rfl (lv_at hl 0 rfl) ?_
      refine lv_aload_n hx hb dX0_availableMoney_8 rfl (lv_at hl 2 rfl) ?_
      refine va_get (D := D) (ci := 4) (v := .ref p0) (C := RX0) (T := TX0) (N := 20) hx hb hts inX0 hown hK hP 0 rfl rfl 0 (by decide) (hts (.fieldLink RX0 31 "EscrowDesk$Account" "plan" "LEscrowDesk$Plan;") (by decide +kernel)) (fun _ h9 => h9) rfl dX0_availableMoney_9 ?_
      refine va_getN (D := D) (ci := 7) (v := .int (nI cn)) (C := RX3) (T := TX3) (N := 17) hx hb hts inX3 hown hK hP 1 rfl rfl 10 (by decide) (hC.f (A := _) (a := RX0) (i := 109) (b := "EscrowDesk$Plan") (n := "milestoneCount") (d := "I") (x := "EscrowDesk") (by decide +kernel)) (fun _ h9 => h9) rfl dX0_availableMoney_12 ?_
      refine lv_icmp_ge (tgt := 33) hx hb dX0_availableMoney_15 (by decide) (fun c1 => ?_) (fun c9 => absurd (nI_le (a := cn) (b := cn) (show cn ≤ cn by omega) (by omega)) c9)
      refine lv_iload_n hx hb dX0_availableMoney_33 rfl (lv_at hl 1 rfl) ?_
      obtain ⟨hP9, hD9⟩ := PDq.sub (ws' := [(oX0 a0 p0 a1 a3 a4 a5 a6 i6 i7 i8 i9 i10 i11 i12 i13 i14 i15 i16 i17 i18 i19), (oX3 p0 pr pb pe pg p1 (nI nd) p2 p3 p4 p5 (nI cn) p6 (nI pq) p7 p8 p9 (nI sc)), (a5, .inl (cA 0, 10, .inl ff))]) hP hD [0, 1, 2] (by decide) rfl
      refine W.widen (k := 0) (n := 0) (Nat.le_of_ble_eq_true rfl) (Nat.le_of_ble_eq_true rfl) ?_
      exact (W.iret (v := x1_1) hx hb hr (fun t ht hW => ⟨⟨x1_1, (), rfl, hv0_1, by rw [ht]; exact hP9, hD9⟩, hS.F ht⟩) hS.2.2 dX0_availableMoney_34)
    | succ n1 ih1 =>
      intro i1 x1_1 H locs ls hi1 hv0_1 hP hD hS hl
      refine lv_iload_n hx hb dX0_availableMoney_7 rfl (lv_at hl 0 rfl) ?_
      refine lv_aload_n hx hb dX0_availableMoney_8 rfl (lv_at hl 2 rfl) ?_
      refine va_get (D := D) (ci := 4) (v := .ref p0) (C := RX0) (T := TX0) (N := 20) hx hb hts inX0 hown hK hP 0 rfl rfl 0 (by decide) (hts (.fieldLink RX0 31 "EscrowDesk$Account" "plan" "LEscrowDesk$Plan;") (by decide +kernel)) (fun _ h9 => h9) rfl dX0_availableMoney_9 ?_
      refine va_getN (D := D) (ci := 7) (v := .int (nI cn)) (C := RX3) (T := TX3) (N := 17) hx hb hts inX3 hown hK hP 1 rfl rfl 10 (by decide) (hC.f (A := _) (a := RX0) (i := 109) (b := "EscrowDesk$Plan") (n := "milestoneCount") (d := "I") (x := "EscrowDesk") (by decide +kernel)) (fun _ h9 => h9) rfl dX0_availableMoney_12 ?_
      refine lv_icmp_ge (tgt := 33) hx hb dX0_availableMoney_15 (by decide) (fun c9 => absurd c9 (nI_ge (a := i1) (b := cn) (show i1 < cn by omega) (by omega))) (fun c2 => ?_)
      refine lv_iload_n hx hb dX0_availableMoney_18 rfl (lv_at hl 1 rfl) ?_
      refine lv_aload_n hx hb dX0_availableMoney_19 rfl (lv_at hl 2 rfl) ?_
      refine va_get (D := D) (ci := 4) (v := .ref a5) (C := RX0) (T := TX0) (N := 20) hx hb hts inX0 hown hK hP 0 rfl rfl 4 (by decide) (hts (.fieldLink RX0 25 "EscrowDesk$Account" "frozen" "[I") (by decide +kernel)) (fun _ h9 => h9) rfl dX0_availableMoney_20 ?_
      refine lv_iload_n hx hb dX0_availableMoney_23 rfl (lv_at hl 0 rfl) ?_
      refine va_iald hx hb hK hP 2 0 rfl rfl (vp_in_nI (n := i1) (N := 10) (show i1 < 10 by omega) (by decide)) dX0_availableMoney_24 ?_
      refine lv_topi (fun yn3 eyn3 => ?_)
      obtain rfl : yn3 = (ff i1) := eyn3.trans (by rw [nI_clamp (by omega)])
      refine lv_isub hx hb dX0_availableMoney_25 ?_
      refine lv_topi (fun yn4 eyn4 => ?_)
      obtain rfl : yn4 = (x1_1 - (ff i1)) := eyn4
      refine lv_istore_n (lv' := [(1, .int (x1_1 - (ff i1))), (2, .int (nI i1)), (0, .ref a0)]) hx hb dX0_availableMoney_26 rfl hl (by decide) rfl (fun ls hl => ?_)
      refine lv_iinc (v := (nI (i1 + 1))) (lv' := [(2, .int (nI (i1 + 1))), (1, .int (x1_1 - (ff i1))), (0, .ref a0)]) hx hb dX0_availableMoney_27 hl (k := 1) rfl (nI_1 _) (by decide) rfl (fun ls hl => ?_)
      refine lv_goto (tgt := 7) hx hb dX0_availableMoney_30 (by decide) ?_
      obtain ⟨hP9, hD9⟩ := PDq.sub (ws' := [(oX0 a0 p0 a1 a3 a4 a5 a6 i6 i7 i8 i9 i10 i11 i12 i13 i14 i15 i16 i17 i18 i19), (oX3 p0 pr pb pe pg p1 (nI nd) p2 p3 p4 p5 (nI cn) p6 (nI pq) p7 p8 p9 (nI sc)), (a5, .inl (cA 0, 10, .inl ff))]) hP hD [0, 1, 2] (by decide) rfl
      exact ih1 (i1 + 1) (x1_1 - (ff i1)) H _ ls (by omega) (Avc.step hv0_1) hP9 hD9 hS (lv_sub hl [0, 1, 2] rfl)
  obtain ⟨hP9, hD9⟩ := PDq.sub (ws' := [(oX0 a0 p0 a1 a3 a4 a5 a6 i6 i7 i8 i9 i10 i11 i12 i13 i14 i15 i16 i17 i18 i19), (oX3 p0 pr pb pe pg p1 (nI nd) p2 p3 p4 p5 (nI cn) p6 (nI pq) p7 p8 p9 (nI sc)), (a5, .inl (cA 0, 10, .inl ff))]) hP hD [0, 1, 2] (by decide) rfl
  exact loop1 (cn - 0) 0 i8 _ _ ls (by omega) (Avc.zero i8 ff) hP9 hD9 hS (lv_sub hl [0, 1, 2] rfl)

set_option maxHeartbeats 4000000 in
set_option maxRecDepth 100000 in
/-- the class, exactly: X0_isClosed -/
theorem c_isClosed (l : Launch) (D : va_G) (cA : Nat → ClassId) (sa : Nat → Nat) (a0 : Nat) (a1 : Nat) (a3 : Nat) (a4 : Nat) (a5 : Nat) (a6 : Nat) (p0 : Nat) (i6 : Int32) (i7 : Int32) (i8 : Int32) (i12 : Int32) (i13 : Int32) (i14 : Int32) (i15 : Int32) (i16 : Int32) (i17 : Int32) (i18 : Int32) (i19 : Int32) (i9 : Int64) (i10 : Int64) (i11 : Int64) (mi : Nat) (fs : Nat → Int32) (sz : Nat) (hmi : mi < 10) : Met l yX0_isClosed wsX0_isClosed ({ frames := 0, cells := 0, slots := 0, locals := 0 }) (va_Pc [.ref a0, .int (nI mi)] (Wd D cA sa [(oX0 a0 p0 a1 a3 a4 a5 a6 i6 i7 i8 i9 i10 i11 i12 i13 i14 i15 i16 i17 i18 i19), (a3, .inl (cA 0, 10, .inl fs))] sz)) (va_Qi (fun (r : Int32) (_ : Unit) => (r = 1 ∧ (3 ≤ fs mi)) ∨ (r = 0 ∧ ¬ (3 ≤ fs mi))) (fun (_ : Unit) t => Wq D (va_A [(oX0 a0 p0 a1 a3 a4 a5 a6 i6 i7 i8 i9 i10 i11 i12 i13 i14 i15 i16 i17 i18 i19), (a3, .inl (cA 0, 10, .inl fs))] sz) [(oX0 a0 p0 a1 a3 a4 a5 a6 i6 i7 i8 i9 i10 i11 i12 i13 i14 i15 i16 i17 i18 i19), (a3, .inl (cA 0, 10, .inl fs))] t) (va_A [(oX0 a0 p0 a1 a3 a4 a5 a6 i6 i7 i8 i9 i10 i11 i12 i13 i14 i15 i16 i17 i18 i19), (a3, .inl (cA 0, 10, .inl fs))] sz)) 0 0 (va_A [(oX0 a0 p0 a1 a3 a4 a5 a6 i6 i7 i8 i9 i10 i11 i12 i13 i14 i15 i16 i17 i18 i19), (a3, .inl (cA 0, 10, .inl fs))] sz) := by
  refine Met.ofW (cc := cX0_isClosed) (maxL := 2) (ret := (some .boolean)) (by decide) rfl ?_
  intro p e s m args below meth c s₁ B hml hv
  obtain ⟨rfl, hsz, hP, hK, hD0, hC, hZ⟩ := hv
  have hx := B.exec
  have hb := B.bytes
  have hr := B.returns
  have hts := atoms_spec (ws := wsX0_isClosed) B.pre
  have hown : s.vm.findClass RX0 = some m.cls := findClass_of_methodNamed B.named
  have hlocks := B.notSynchronized
  subst hsz
  have hD := hD0.self (sz := s.heap.size)
  generalize hAe : va_A [(oX0 a0 p0 a1 a3 a4 a5 a6 i6 i7 i8 i9 i10 i11 i12 i13 i14 i15 i16 i17 i18 i19), (a3, .inl (cA 0, 10, .inl fs))] s.heap.size = A at hD hZ ⊢
  have hA : ∀ q : Nat, s.heap.size ≤ q → A q := fun q h => by rw [← hAe]; exact Or.inr h
  have hS : va_S A s.heap s.heap [] := va_S.rf
  have hP : va_P D vwCl [(oX0 a0 p0 a1 a3 a4 a5 a6 i6 i7 i8 i9 i10 i11 i12 i13 i14 i15 i16 i17 i18 i19), (a3, .inl (cA 0, 10, .inl fs))] s.heap := hP
  have hl := lv_entry ([.ref a0, .int (nI mi)]) (n := 2) (Nat.le_of_ble_eq_true rfl)
  rw [lg_entry_eq]
  generalize (lg_sl ([.ref a0, .int (nI mi)]) ++ List.replicate (2 - (lg_sl ([.ref a0, .int (nI mi)])).length) Slot.unset).toArray = ls at hl ⊢
  have hl : lv_has ls 2 [(0, .ref a0), (1, .int (nI mi))] := hl
  have inX0 : ∀ w ∈ u_ws RX0 TX0 20, w ∈ wsX0_isClosed := by decide +kernel
  refine lv_aload_n hx hb dX0_isClosed_0 rfl (lv_at hl 0 rfl) ?_
  refine va_get (D := D) (ci := 4) (v := .ref a3) (C := RX0) (T := TX0) (N := 20) hx hb hts inX0 hown hK hP 0 rfl rfl 2 (by decide) (hts (.fieldLink RX0 18 "EscrowDesk$Account" "state" "[I") (by decide +kernel)) (fun _ h9 => h9) rfl dX0_isClosed_1 ?_
  refine lv_iload_n hx hb dX0_isClosed_4 rfl (lv_at hl 1 rfl) ?_
  refine va_iald hx hb hK hP 1 0 rfl rfl (vp_in_nI (n := mi) (N := 10) (show mi < 10 by omega) (by decide)) dX0_isClosed_5 ?_
  refine lv_topi (fun yn1 eyn1 => ?_)
  obtain rfl : yn1 = (fs mi) := eyn1.trans (by rw [nI_clamp (by omega)])
  refine lv_iconst (v := 3) hx hb dX0_isClosed_6 (by decide) ?_
  refine lv_icmp_lt (tgt := 14) hx hb dX0_isClosed_7 (by decide) (fun c2 => ?_) (fun c2 => ?_)
  · skip
    refine lv_iconst (v := 0) hx hb dX0_isClosed_14 (by decide) ?_
    obtain ⟨hP9, hD9⟩ := PDq.sub (ws' := [(oX0 a0 p0 a1 a3 a4 a5 a6 i6 i7 i8 i9 i10 i11 i12 i13 i14 i15 i16 i17 i18 i19), (a3, .inl (cA 0, 10, .inl fs))]) hP hD [0, 1] (by decide) rfl
    refine W.widen (k := 0) (n := 0) (Nat.le_of_ble_eq_true rfl) (Nat.le_of_ble_eq_true rfl) ?_
    exact (W.zret (v := 0) hx hb hr (by first | rfl | decide) (fun t ht hW => ⟨⟨0, (), rfl, (Or.inr ⟨rfl, (fun q9 => absurd c2 (Int32.not_lt.mpr q9))⟩), by rw [ht]; exact hP9, hD9⟩, hS.F ht⟩) hS.2.2 dX0_isClosed_15)
  · skip
    refine lv_iconst (v := 1) hx hb dX0_isClosed_10 (by decide) ?_
    refine lv_goto (tgt := 15) hx hb dX0_isClosed_11 (by decide) ?_
    obtain ⟨hP9, hD9⟩ := PDq.sub (ws' := [(oX0 a0 p0 a1 a3 a4 a5 a6 i6 i7 i8 i9 i10 i11 i12 i13 i14 i15 i16 i17 i18 i19), (a3, .inl (cA 0, 10, .inl fs))]) hP hD [0, 1] (by decide) rfl
    refine W.widen (k := 0) (n := 0) (Nat.le_of_ble_eq_true rfl) (Nat.le_of_ble_eq_true rfl) ?_
    exact (W.zret (v := 1) hx hb hr (by first | rfl | decide) (fun t ht hW => ⟨⟨1, (), rfl, (Or.inl ⟨rfl, (Int32.not_lt.mp c2)⟩), by rw [ht]; exact hP9, hD9⟩, hS.F ht⟩) hS.2.2 dX0_isClosed_15)

set_option maxHeartbeats 4000000 in
set_option maxRecDepth 100000 in
/-- the class, exactly: X0_isOpenOrDue -/
theorem c_isOpenOrDue (l : Launch) (D : va_G) (cA : Nat → ClassId) (sa : Nat → Nat) (a0 : Nat) (a1 : Nat) (a3 : Nat) (a4 : Nat) (a5 : Nat) (a6 : Nat) (p0 : Nat) (i6 : Int32) (i7 : Int32) (i8 : Int32) (i12 : Int32) (i13 : Int32) (i14 : Int32) (i15 : Int32) (i16 : Int32) (i17 : Int32) (i18 : Int32) (i19 : Int32) (i9 : Int64) (i10 : Int64) (i11 : Int64) (mi : Nat) (fs : Nat → Int32) (sz : Nat) (hmi : mi < 10) : Met l yX0_isOpenOrDue wsX0_isOpenOrDue ({ frames := 0, cells := 0, slots := 0, locals := 0 }) (va_Pc [.ref a0, .int (nI mi)] (Wd D cA sa [(oX0 a0 p0 a1 a3 a4 a5 a6 i6 i7 i8 i9 i10 i11 i12 i13 i14 i15 i16 i17 i18 i19), (a3, .inl (cA 0, 10, .inl fs))] sz)) (va_Qi (fun (r : Int32) (_ : Unit) => (r = 1 ∧ (fs mi = 0 ∨ fs mi = 1)) ∨ (r = 0 ∧ ¬ (fs mi = 0 ∨ fs mi = 1))) (fun (_ : Unit) t => Wq D (va_A [(oX0 a0 p0 a1 a3 a4 a5 a6 i6 i7 i8 i9 i10 i11 i12 i13 i14 i15 i16 i17 i18 i19), (a3, .inl (cA 0, 10, .inl fs))] sz) [(oX0 a0 p0 a1 a3 a4 a5 a6 i6 i7 i8 i9 i10 i11 i12 i13 i14 i15 i16 i17 i18 i19), (a3, .inl (cA 0, 10, .inl fs))] t) (va_A [(oX0 a0 p0 a1 a3 a4 a5 a6 i6 i7 i8 i9 i10 i11 i12 i13 i14 i15 i16 i17 i18 i19), (a3, .inl (cA 0, 10, .inl fs))] sz)) 0 0 (va_A [(oX0 a0 p0 a1 a3 a4 a5 a6 i6 i7 i8 i9 i10 i11 i12 i13 i14 i15 i16 i17 i18 i19), (a3, .inl (cA 0, 10, .inl fs))] sz) := by
  refine Met.ofW (cc := cX0_isOpenOrDue) (maxL := 2) (ret := (some .boolean)) (by decide) rfl ?_
  intro p e s m args below meth c s₁ B hml hv
  obtain ⟨rfl, hsz, hP, hK, hD0, hC, hZ⟩ := hv
  have hx := B.exec
  have hb := B.bytes
  have hr := B.returns
  have hts := atoms_spec (ws := wsX0_isOpenOrDue) B.pre
  have hown : s.vm.findClass RX0 = some m.cls := findClass_of_methodNamed B.named
  have hlocks := B.notSynchronized
  subst hsz
  have hD := hD0.self (sz := s.heap.size)
  generalize hAe : va_A [(oX0 a0 p0 a1 a3 a4 a5 a6 i6 i7 i8 i9 i10 i11 i12 i13 i14 i15 i16 i17 i18 i19), (a3, .inl (cA 0, 10, .inl fs))] s.heap.size = A at hD hZ ⊢
  have hA : ∀ q : Nat, s.heap.size ≤ q → A q := fun q h => by rw [← hAe]; exact Or.inr h
  have hS : va_S A s.heap s.heap [] := va_S.rf
  have hP : va_P D vwCl [(oX0 a0 p0 a1 a3 a4 a5 a6 i6 i7 i8 i9 i10 i11 i12 i13 i14 i15 i16 i17 i18 i19), (a3, .inl (cA 0, 10, .inl fs))] s.heap := hP
  have hl := lv_entry ([.ref a0, .int (nI mi)]) (n := 2) (Nat.le_of_ble_eq_true rfl)
  rw [lg_entry_eq]
  generalize (lg_sl ([.ref a0, .int (nI mi)]) ++ List.replicate (2 - (lg_sl ([.ref a0, .int (nI mi)])).length) Slot.unset).toArray = ls at hl ⊢
  have hl : lv_has ls 2 [(0, .ref a0), (1, .int (nI mi))] := hl
  have inX0 : ∀ w ∈ u_ws RX0 TX0 20, w ∈ wsX0_isOpenOrDue := by decide +kernel
  refine lv_aload_n hx hb dX0_isOpenOrDue_0 rfl (lv_at hl 0 rfl) ?_
  refine va_get (D := D) (ci := 4) (v := .ref a3) (C := RX0) (T := TX0) (N := 20) hx hb hts inX0 hown hK hP 0 rfl rfl 2 (by decide) (hts (.fieldLink RX0 18 "EscrowDesk$Account" "state" "[I") (by decide +kernel)) (fun _ h9 => h9) rfl dX0_isOpenOrDue_1 ?_
  refine lv_iload_n hx hb dX0_isOpenOrDue_4 rfl (lv_at hl 1 rfl) ?_
  refine va_iald hx hb hK hP 1 0 rfl rfl (vp_in_nI (n := mi) (N := 10) (show mi < 10 by omega) (by decide)) dX0_isOpenOrDue_5 ?_
  refine lv_topi (fun yn1 eyn1 => ?_)
  obtain rfl : yn1 = (fs mi) := eyn1.trans (by rw [nI_clamp (by omega)])
  refine lv_if_eq (tgt := 19) hx hb dX0_isOpenOrDue_6 (by decide) (fun c2 => ?_) (fun c2 => ?_)
  · skip
    refine lv_iconst (v := 1) hx hb dX0_isOpenOrDue_19 (by decide) ?_
    refine lv_goto (tgt := 24) hx hb dX0_isOpenOrDue_20 (by decide) ?_
    obtain ⟨hP9, hD9⟩ := PDq.sub (ws' := [(oX0 a0 p0 a1 a3 a4 a5 a6 i6 i7 i8 i9 i10 i11 i12 i13 i14 i15 i16 i17 i18 i19), (a3, .inl (cA 0, 10, .inl fs))]) hP hD [0, 1] (by decide) rfl
    refine W.widen (k := 0) (n := 0) (Nat.le_of_ble_eq_true rfl) (Nat.le_of_ble_eq_true rfl) ?_
    exact (W.zret (v := 1) hx hb hr (by first | rfl | decide) (fun t ht hW => ⟨⟨1, (), rfl, (Or.inl ⟨rfl, (Or.inl c2)⟩), by rw [ht]; exact hP9, hD9⟩, hS.F ht⟩) hS.2.2 dX0_isOpenOrDue_24)
  · skip
    refine lv_aload_n hx hb dX0_isOpenOrDue_9 rfl (lv_at hl 0 rfl) ?_
    refine va_get (D := D) (ci := 4) (v := .ref a3) (C := RX0) (T := TX0) (N := 20) hx hb hts inX0 hown hK hP 0 rfl rfl 2 (by decide) (hts (.fieldLink RX0 18 "EscrowDesk$Account" "state" "[I") (by decide +kernel)) (fun _ h9 => h9) rfl dX0_isOpenOrDue_10 ?_
    refine lv_iload_n hx hb dX0_isOpenOrDue_13 rfl (lv_at hl 1 rfl) ?_
    refine va_iald hx hb hK hP 1 0 rfl rfl (vp_in_nI (n := mi) (N := 10) (show mi < 10 by omega) (by decide)) dX0_isOpenOrDue_14 ?_
    refine lv_topi (fun yn3 eyn3 => ?_)
    obtain rfl : yn3 = (fs mi) := eyn3.trans (by rw [nI_clamp (by omega)])
    refine lv_iconst (v := 1) hx hb dX0_isOpenOrDue_15 (by decide) ?_
    refine lv_icmp_ne (tgt := 23) hx hb dX0_isOpenOrDue_16 (by decide) (fun c4 => ?_) (fun c4 => ?_)
    · skip
      refine lv_iconst (v := 0) hx hb dX0_isOpenOrDue_23 (by decide) ?_
      obtain ⟨hP9, hD9⟩ := PDq.sub (ws' := [(oX0 a0 p0 a1 a3 a4 a5 a6 i6 i7 i8 i9 i10 i11 i12 i13 i14 i15 i16 i17 i18 i19), (a3, .inl (cA 0, 10, .inl fs))]) hP hD [0, 1] (by decide) rfl
      refine W.widen (k := 0) (n := 0) (Nat.le_of_ble_eq_true rfl) (Nat.le_of_ble_eq_true rfl) ?_
      exact (W.zret (v := 0) hx hb hr (by first | rfl | decide) (fun t ht hW => ⟨⟨0, (), rfl, (Or.inr ⟨rfl, (fun q9 => q9.elim c2 c4)⟩), by rw [ht]; exact hP9, hD9⟩, hS.F ht⟩) hS.2.2 dX0_isOpenOrDue_24)
    · skip
      refine lv_iconst (v := 1) hx hb dX0_isOpenOrDue_19 (by decide) ?_
      refine lv_goto (tgt := 24) hx hb dX0_isOpenOrDue_20 (by decide) ?_
      obtain ⟨hP9, hD9⟩ := PDq.sub (ws' := [(oX0 a0 p0 a1 a3 a4 a5 a6 i6 i7 i8 i9 i10 i11 i12 i13 i14 i15 i16 i17 i18 i19), (a3, .inl (cA 0, 10, .inl fs))]) hP hD [0, 1] (by decide) rfl
      refine W.widen (k := 0) (n := 0) (Nat.le_of_ble_eq_true rfl) (Nat.le_of_ble_eq_true rfl) ?_
      exact (W.zret (v := 1) hx hb hr (by first | rfl | decide) (fun t ht hW => ⟨⟨1, (), rfl, (Or.inl ⟨rfl, (Or.inr c4)⟩), by rw [ht]; exact hP9, hD9⟩, hS.F ht⟩) hS.2.2 dX0_isOpenOrDue_24)

set_option maxHeartbeats 4000000 in
set_option maxRecDepth 100000 in
/-- the class, exactly: X0_remainingOf -/
theorem c_remainingOf (l : Launch) (D : va_G) (cA : Nat → ClassId) (sa : Nat → Nat) (a0 : Nat) (a1 : Nat) (a3 : Nat) (a4 : Nat) (a5 : Nat) (a6 : Nat) (p0 : Nat) (i6 : Int32) (i7 : Int32) (i8 : Int32) (i12 : Int32) (i13 : Int32) (i14 : Int32) (i15 : Int32) (i16 : Int32) (i17 : Int32) (i18 : Int32) (i19 : Int32) (i9 : Int64) (i10 : Int64) (i11 : Int64) (p1 : Nat) (p2 : Nat) (p3 : Nat) (p4 : Nat) (p5 : Nat) (p6 : Nat) (p7 : Nat) (p8 : Nat) (p9 : Nat) (cn : Nat) (pq : Nat) (nd : Nat) (sc : Nat) (pr : Int32) (pb : Int32) (pe : Int32) (pg : Int32) (mi : Nat) (fs : Nat → Int32) (fp : Nat → Int32) (fam : Nat → Int32) (sz : Nat) (hmi : mi < 10) : Met l yX0_remainingOf wsX0_remainingOf ({ frames := 1, cells := 0, slots := 0, locals := 21 }) (va_Pc [.ref a0, .int (nI mi)] (Wd D cA sa [(oX0 a0 p0 a1 a3 a4 a5 a6 i6 i7 i8 i9 i10 i11 i12 i13 i14 i15 i16 i17 i18 i19), (oX3 p0 pr pb pe pg p1 (nI nd) p2 p3 p4 p5 (nI cn) p6 (nI pq) p7 p8 p9 (nI sc)), (a3, .inl (cA 0, 10, .inl fs)), (a4, .inl (cA 0, 10, .inl fp)), (p3, .inl (cA 0, 10, .inl fam))] sz)) (va_Qi (fun (r : Int32) (_ : Unit) => r = rmC fs fp fam mi) (fun (_ : Unit) t => Wq D (va_A [(oX0 a0 p0 a1 a3 a4 a5 a6 i6 i7 i8 i9 i10 i11 i12 i13 i14 i15 i16 i17 i18 i19), (oX3 p0 pr pb pe pg p1 (nI nd) p2 p3 p4 p5 (nI cn) p6 (nI pq) p7 p8 p9 (nI sc)), (a3, .inl (cA 0, 10, .inl fs)), (a4, .inl (cA 0, 10, .inl fp)), (p3, .inl (cA 0, 10, .inl fam))] sz) [(oX0 a0 p0 a1 a3 a4 a5 a6 i6 i7 i8 i9 i10 i11 i12 i13 i14 i15 i16 i17 i18 i19), (oX3 p0 pr pb pe pg p1 (nI nd) p2 p3 p4 p5 (nI cn) p6 (nI pq) p7 p8 p9 (nI sc)), (a3, .inl (cA 0, 10, .inl fs)), (a4, .inl (cA 0, 10, .inl fp)), (p3, .inl (cA 0, 10, .inl fam))] t) (va_A [(oX0 a0 p0 a1 a3 a4 a5 a6 i6 i7 i8 i9 i10 i11 i12 i13 i14 i15 i16 i17 i18 i19), (oX3 p0 pr pb pe pg p1 (nI nd) p2 p3 p4 p5 (nI cn) p6 (nI pq) p7 p8 p9 (nI sc)), (a3, .inl (cA 0, 10, .inl fs)), (a4, .inl (cA 0, 10, .inl fp)), (p3, .inl (cA 0, 10, .inl fam))] sz)) 0 0 (va_A [(oX0 a0 p0 a1 a3 a4 a5 a6 i6 i7 i8 i9 i10 i11 i12 i13 i14 i15 i16 i17 i18 i19), (oX3 p0 pr pb pe pg p1 (nI nd) p2 p3 p4 p5 (nI cn) p6 (nI pq) p7 p8 p9 (nI sc)), (a3, .inl (cA 0, 10, .inl fs)), (a4, .inl (cA 0, 10, .inl fp)), (p3, .inl (cA 0, 10, .inl fam))] sz) := by
  refine Met.ofW (cc := cX0_remainingOf) (maxL := 2) (ret := (some .int)) (by decide) rfl ?_
  intro p e s m args below meth c s₁ B hml hv
  obtain ⟨rfl, hsz, hP, hK, hD0, hC, hZ⟩ := hv
  have hx := B.exec
  have hb := B.bytes
  have hr := B.returns
  have hts := atoms_spec (ws := wsX0_remainingOf) B.pre
  have hown : s.vm.findClass RX0 = some m.cls := findClass_of_methodNamed B.named
  have hlocks := B.notSynchronized
  subst hsz
  have hD := hD0.self (sz := s.heap.size)
  generalize hAe : va_A [(oX0 a0 p0 a1 a3 a4 a5 a6 i6 i7 i8 i9 i10 i11 i12 i13 i14 i15 i16 i17 i18 i19), (oX3 p0 pr pb pe pg p1 (nI nd) p2 p3 p4 p5 (nI cn) p6 (nI pq) p7 p8 p9 (nI sc)), (a3, .inl (cA 0, 10, .inl fs)), (a4, .inl (cA 0, 10, .inl fp)), (p3, .inl (cA 0, 10, .inl fam))] s.heap.size = A at hD hZ ⊢
  have hA : ∀ q : Nat, s.heap.size ≤ q → A q := fun q h => by rw [← hAe]; exact Or.inr h
  have hS : va_S A s.heap s.heap [] := va_S.rf
  have hP : va_P D vwCl [(oX0 a0 p0 a1 a3 a4 a5 a6 i6 i7 i8 i9 i10 i11 i12 i13 i14 i15 i16 i17 i18 i19), (oX3 p0 pr pb pe pg p1 (nI nd) p2 p3 p4 p5 (nI cn) p6 (nI pq) p7 p8 p9 (nI sc)), (a3, .inl (cA 0, 10, .inl fs)), (a4, .inl (cA 0, 10, .inl fp)), (p3, .inl (cA 0, 10, .inl fam))] s.heap := hP
  have hl := lv_entry ([.ref a0, .int (nI mi)]) (n := 2) (Nat.le_of_ble_eq_true rfl)
  rw [lg_entry_eq]
  generalize (lg_sl ([.ref a0, .int (nI mi)]) ++ List.replicate (2 - (lg_sl ([.ref a0, .int (nI mi)])).length) Slot.unset).toArray = ls at hl ⊢
  have hl : lv_has ls 2 [(0, .ref a0), (1, .int (nI mi))] := hl
  have inX0 : ∀ w ∈ u_ws RX0 TX0 20, w ∈ wsX0_remainingOf := by decide +kernel
  have inX3 : ∀ w ∈ u_ws RX3 TX3 17, w ∈ wsX0_remainingOf := by decide +kernel
  refine lv_aload_n hx hb dX0_remainingOf_0 rfl (lv_at hl 0 rfl) ?_
  refine lv_iload_n hx hb dX0_remainingOf_1 rfl (lv_at hl 1 rfl) ?_
  obtain ⟨hPc, hDc, hFc⟩ := PDq.cut (wc := [(oX0 a0 p0 a1 a3 a4 a5 a6 i6 i7 i8 i9 i10 i11 i12 i13 i14 i15 i16 i17 i18 i19), (a3, .inl (cA 0, 10, .inl fs))]) hP hD hS hA [0, 2] (by decide) rfl
  refine va_calli (va_runV (As := [.int (nI mi)]) (rest := []) ⟨hx, hb, hml, hown, hts⟩ (c_isClosed l D cA sa a0 a1 a3 a4 a5 a6 p0 i6 i7 i8 i12 i13 i14 i15 i16 i17 i18 i19 i9 i10 i11 mi fs s.heap.size hmi) (cwV 1 hts gX0_remainingOf_X0_isClosed rfl rfl rfl (by decide +kernel) ⟨(Nat.le_of_ble_eq_true rfl), (Nat.le_of_ble_eq_true rfl)⟩) ⟨Wd.blind, va_recv hK hPc (ci := 4) (q0 := 0) rfl rfl, fun U hU hW => ⟨rfl, Wd.call hPc hDc hK hC hZ hS hFc U hU hW⟩⟩ rfl rfl hl.1 rfl (lv_room (Nat.le_of_ble_eq_true rfl)) dX0_remainingOf_2 ⟨(Nat.le_of_ble_eq_true rfl), (Nat.le_of_ble_eq_true rfl)⟩) hS (fun q _ h => hFc q h) hFc (fun rn1 u t H1 locs ht hvm hw hB hz1 hk1 hS => ?_)
  obtain ⟨hP1, hD1⟩ := hB
  rw [ht] at hP1
  obtain ⟨hP, hD⟩ := PDq.join (w := [(oX3 p0 pr pb pe pg p1 (nI nd) p2 p3 p4 p5 (nI cn) p6 (nI pq) p7 p8 p9 (nI sc)), (a4, .inl (cA 0, 10, .inl fp)), (p3, .inl (cA 0, 10, .inl fam)), (oX0 a0 p0 a1 a3 a4 a5 a6 i6 i7 i8 i9 i10 i11 i12 i13 i14 i15 i16 i17 i18 i19), (a3, .inl (cA 0, 10, .inl fs))]) 3 hP hD [0, 2] [1, 3, 4] rfl rfl (by decide) (by decide) hk1 hFc hP1 hD1 rfl
  generalize H1 = H at hP hS ⊢
  rcases hw with ⟨hr9, hn2⟩ | ⟨hr9, hn2⟩
  · skip
    subst hr9
    refine lv_if_eq (tgt := 12) hx hb dX0_remainingOf_5 (by decide) (fun c9 => absurd c9 (by decide)) (fun c3 => ?_)
    refine lv_iconst (v := 0) hx hb dX0_remainingOf_8 (by decide) ?_
    refine lv_goto (tgt := 28) hx hb dX0_remainingOf_9 (by decide) ?_
    obtain ⟨hP9, hD9⟩ := PDq.sub (ws' := [(oX0 a0 p0 a1 a3 a4 a5 a6 i6 i7 i8 i9 i10 i11 i12 i13 i14 i15 i16 i17 i18 i19), (oX3 p0 pr pb pe pg p1 (nI nd) p2 p3 p4 p5 (nI cn) p6 (nI pq) p7 p8 p9 (nI sc)), (a3, .inl (cA 0, 10, .inl fs)), (a4, .inl (cA 0, 10, .inl fp)), (p3, .inl (cA 0, 10, .inl fam))]) hP hD [3, 0, 4, 1, 2] (by decide) rfl
    refine W.widen (k := 0) (n := 0) (Nat.le_of_ble_eq_true rfl) (Nat.le_of_ble_eq_true rfl) ?_
    exact (W.iret (v := 0) hx hb hr (fun t ht hW => ⟨⟨0, (), rfl, (rmC_0 hn2).symm, by rw [ht]; exact hP9, hD9⟩, hS.F ht⟩) hS.2.2 dX0_remainingOf_28)
  · skip
    subst hr9
    refine lv_if_eq (tgt := 12) hx hb dX0_remainingOf_5 (by decide) (fun c4 => ?_) (fun c9 => absurd c9 (by decide))
    refine lv_aload_n hx hb dX0_remainingOf_12 rfl (lv_at hl 0 rfl) ?_
    refine va_get (D := D) (ci := 4) (v := .ref p0) (C := RX0) (T := TX0) (N := 20) hx hb hts inX0 hown hK hP 3 rfl rfl 0 (by decide) (hts (.fieldLink RX0 31 "EscrowDesk$Account" "plan" "LEscrowDesk$Plan;") (by decide +kernel)) (fun _ h9 => h9) rfl dX0_remainingOf_13 ?_
    refine va_getN (D := D) (ci := 7) (v := .ref p3) (C := RX3) (T := TX3) (N := 17) hx hb hts inX3 hown hK hP 0 rfl rfl 7 (by decide) (hC.f (A := _) (a := RX0) (i := 116) (b := "EscrowDesk$Plan") (n := "amounts") (d := "[I") (x := "EscrowDesk") (by decide +kernel)) (fun _ h9 => h9) rfl dX0_remainingOf_16 ?_
    refine lv_iload_n hx hb dX0_remainingOf_19 rfl (lv_at hl 1 rfl) ?_
    refine va_iald hx hb hK hP 2 0 rfl rfl (vp_in_nI (n := mi) (N := 10) (show mi < 10 by omega) (by decide)) dX0_remainingOf_20 ?_
    refine lv_topi (fun yn5 eyn5 => ?_)
    obtain rfl : yn5 = (fam mi) := eyn5.trans (by rw [nI_clamp (by omega)])
    refine lv_aload_n hx hb dX0_remainingOf_21 rfl (lv_at hl 0 rfl) ?_
    refine va_get (D := D) (ci := 4) (v := .ref a4) (C := RX0) (T := TX0) (N := 20) hx hb hts inX0 hown hK hP 3 rfl rfl 3 (by decide) (hts (.fieldLink RX0 22 "EscrowDesk$Account" "paid" "[I") (by decide +kernel)) (fun _ h9 => h9) rfl dX0_remainingOf_22 ?_
    refine lv_iload_n hx hb dX0_remainingOf_25 rfl (lv_at hl 1 rfl) ?_
    refine va_iald hx hb hK hP 1 0 rfl rfl (vp_in_nI (n := mi) (N := 10) (show mi < 10 by omega) (by decide)) dX0_remainingOf_26 ?_
    refine lv_topi (fun yn6 eyn6 => ?_)
    obtain rfl : yn6 = (fp mi) := eyn6.trans (by rw [nI_clamp (by omega)])
    refine lv_isub hx hb dX0_remainingOf_27 ?_
    refine lv_topi (fun yn7 eyn7 => ?_)
    obtain rfl : yn7 = ((fam mi) - (fp mi)) := eyn7
    obtain ⟨hP9, hD9⟩ := PDq.sub (ws' := [(oX0 a0 p0 a1 a3 a4 a5 a6 i6 i7 i8 i9 i10 i11 i12 i13 i14 i15 i16 i17 i18 i19), (oX3 p0 pr pb pe pg p1 (nI nd) p2 p3 p4 p5 (nI cn) p6 (nI pq) p7 p8 p9 (nI sc)), (a3, .inl (cA 0, 10, .inl fs)), (a4, .inl (cA 0, 10, .inl fp)), (p3, .inl (cA 0, 10, .inl fam))]) hP hD [3, 0, 4, 1, 2] (by decide) rfl
    refine W.widen (k := 0) (n := 0) (Nat.le_of_ble_eq_true rfl) (Nat.le_of_ble_eq_true rfl) ?_
    exact (W.iret (v := ((fam mi) - (fp mi))) hx hb hr (fun t ht hW => ⟨⟨((fam mi) - (fp mi)), (), rfl, (rmC_1 hn2).symm, by rw [ht]; exact hP9, hD9⟩, hS.F ht⟩) hS.2.2 dX0_remainingOf_28)

set_option maxHeartbeats 4000000 in
set_option maxRecDepth 100000 in
/-- the class, exactly: X0_payDay -/
theorem c_payDay (l : Launch) (D : va_G) (cA : Nat → ClassId) (sa : Nat → Nat) (a0 : Nat) (a1 : Nat) (a3 : Nat) (a4 : Nat) (a5 : Nat) (a6 : Nat) (p0 : Nat) (i6 : Int32) (i7 : Int32) (i8 : Int32) (i12 : Int32) (i13 : Int32) (i14 : Int32) (i15 : Int32) (i16 : Int32) (i17 : Int32) (i18 : Int32) (i19 : Int32) (i9 : Int64) (i10 : Int64) (i11 : Int64) (mi : Nat) (fd : Nat → Int32) (sz : Nat) (hmi : mi < 10) : Met l yX0_payDay wsX0_payDay ({ frames := 0, cells := 0, slots := 0, locals := 0 }) (va_Pc [.ref a0, .int (nI mi)] (Wd D cA sa [(oX0 a0 p0 a1 a3 a4 a5 a6 i6 i7 i8 i9 i10 i11 i12 i13 i14 i15 i16 i17 i18 i19), (a6, .inl (cA 0, 10, .inl fd))] sz)) (va_Qi (fun (r : Int32) (_ : Unit) => r = fd mi + i17) (fun (_ : Unit) t => Wq D (va_A [(oX0 a0 p0 a1 a3 a4 a5 a6 i6 i7 i8 i9 i10 i11 i12 i13 i14 i15 i16 i17 i18 i19), (a6, .inl (cA 0, 10, .inl fd))] sz) [(oX0 a0 p0 a1 a3 a4 a5 a6 i6 i7 i8 i9 i10 i11 i12 i13 i14 i15 i16 i17 i18 i19), (a6, .inl (cA 0, 10, .inl fd))] t) (va_A [(oX0 a0 p0 a1 a3 a4 a5 a6 i6 i7 i8 i9 i10 i11 i12 i13 i14 i15 i16 i17 i18 i19), (a6, .inl (cA 0, 10, .inl fd))] sz)) 0 0 (va_A [(oX0 a0 p0 a1 a3 a4 a5 a6 i6 i7 i8 i9 i10 i11 i12 i13 i14 i15 i16 i17 i18 i19), (a6, .inl (cA 0, 10, .inl fd))] sz) := by
  refine Met.ofW (cc := cX0_payDay) (maxL := 2) (ret := (some .int)) (by decide) rfl ?_
  intro p e s m args below meth c s₁ B hml hv
  obtain ⟨rfl, hsz, hP, hK, hD0, hC, hZ⟩ := hv
  have hx := B.exec
  have hb := B.bytes
  have hr := B.returns
  have hts := atoms_spec (ws := wsX0_payDay) B.pre
  have hown : s.vm.findClass RX0 = some m.cls := findClass_of_methodNamed B.named
  have hlocks := B.notSynchronized
  subst hsz
  have hD := hD0.self (sz := s.heap.size)
  generalize hAe : va_A [(oX0 a0 p0 a1 a3 a4 a5 a6 i6 i7 i8 i9 i10 i11 i12 i13 i14 i15 i16 i17 i18 i19), (a6, .inl (cA 0, 10, .inl fd))] s.heap.size = A at hD hZ ⊢
  have hA : ∀ q : Nat, s.heap.size ≤ q → A q := fun q h => by rw [← hAe]; exact Or.inr h
  have hS : va_S A s.heap s.heap [] := va_S.rf
  have hP : va_P D vwCl [(oX0 a0 p0 a1 a3 a4 a5 a6 i6 i7 i8 i9 i10 i11 i12 i13 i14 i15 i16 i17 i18 i19), (a6, .inl (cA 0, 10, .inl fd))] s.heap := hP
  have hl := lv_entry ([.ref a0, .int (nI mi)]) (n := 2) (Nat.le_of_ble_eq_true rfl)
  rw [lg_entry_eq]
  generalize (lg_sl ([.ref a0, .int (nI mi)]) ++ List.replicate (2 - (lg_sl ([.ref a0, .int (nI mi)])).length) Slot.unset).toArray = ls at hl ⊢
  have hl : lv_has ls 2 [(0, .ref a0), (1, .int (nI mi))] := hl
  have inX0 : ∀ w ∈ u_ws RX0 TX0 20, w ∈ wsX0_payDay := by decide +kernel
  refine lv_aload_n hx hb dX0_payDay_0 rfl (lv_at hl 0 rfl) ?_
  refine va_get (D := D) (ci := 4) (v := .ref a6) (C := RX0) (T := TX0) (N := 20) hx hb hts inX0 hown hK hP 0 rfl rfl 5 (by decide) (hts (.fieldLink RX0 28 "EscrowDesk$Account" "dueDay" "[I") (by decide +kernel)) (fun _ h9 => h9) rfl dX0_payDay_1 ?_
  refine lv_iload_n hx hb dX0_payDay_4 rfl (lv_at hl 1 rfl) ?_
  refine va_iald hx hb hK hP 1 0 rfl rfl (vp_in_nI (n := mi) (N := 10) (show mi < 10 by omega) (by decide)) dX0_payDay_5 ?_
  refine lv_topi (fun yn1 eyn1 => ?_)
  obtain rfl : yn1 = (fd mi) := eyn1.trans (by rw [nI_clamp (by omega)])
  refine lv_aload_n hx hb dX0_payDay_6 rfl (lv_at hl 0 rfl) ?_
  refine va_get (D := D) (ci := 4) (v := .int i17) (C := RX0) (T := TX0) (N := 20) hx hb hts inX0 hown hK hP 0 rfl rfl 17 (by decide) (hts (.fieldLink RX0 82 "EscrowDesk$Account" "grace" "I") (by decide +kernel)) (fun _ h9 => h9) rfl dX0_payDay_7 ?_
  refine lv_iadd hx hb dX0_payDay_10 ?_
  refine lv_topi (fun yn2 eyn2 => ?_)
  obtain rfl : yn2 = ((fd mi) + i17) := eyn2
  obtain ⟨hP9, hD9⟩ := PDq.sub (ws' := [(oX0 a0 p0 a1 a3 a4 a5 a6 i6 i7 i8 i9 i10 i11 i12 i13 i14 i15 i16 i17 i18 i19), (a6, .inl (cA 0, 10, .inl fd))]) hP hD [0, 1] (by decide) rfl
  refine W.widen (k := 0) (n := 0) (Nat.le_of_ble_eq_true rfl) (Nat.le_of_ble_eq_true rfl) ?_
  exact (W.iret (v := ((fd mi) + i17)) hx hb hr (fun t ht hW => ⟨⟨((fd mi) + i17), (), rfl, rfl, by rw [ht]; exact hP9, hD9⟩, hS.F ht⟩) hS.2.2 dX0_payDay_11)

set_option maxHeartbeats 4000000 in
set_option maxRecDepth 100000 in
/-- the class, exactly: X0_doneSet -/
theorem c_doneSet (l : Launch) (D : va_G) (cA : Nat → ClassId) (sa : Nat → Nat) (a0 : Nat) (a1 : Nat) (a3 : Nat) (a4 : Nat) (a5 : Nat) (a6 : Nat) (p0 : Nat) (i6 : Int32) (i7 : Int32) (i8 : Int32) (i12 : Int32) (i13 : Int32) (i14 : Int32) (i15 : Int32) (i16 : Int32) (i17 : Int32) (i18 : Int32) (i19 : Int32) (i9 : Int64) (i10 : Int64) (i11 : Int64) (p1 : Nat) (p2 : Nat) (p3 : Nat) (p4 : Nat) (p5 : Nat) (p6 : Nat) (p7 : Nat) (p8 : Nat) (p9 : Nat) (cn : Nat) (pq : Nat) (nd : Nat) (sc : Nat) (pr : Int32) (pb : Int32) (pe : Int32) (pg : Int32) (fs : Nat → Int32) (sz : Nat) (hcn : cn ≤ 10) (hpq : pq ≤ 8) (hnd : nd ≤ 6) (hsc : sc ≤ 350) : Met l yX0_doneSet wsX0_doneSet ({ frames := 0, cells := 0, slots := 0, locals := 0 }) (va_Pc [.ref a0] (Wd D cA sa [(oX0 a0 p0 a1 a3 a4 a5 a6 i6 i7 i8 i9 i10 i11 i12 i13 i14 i15 i16 i17 i18 i19), (oX3 p0 pr pb pe pg p1 (nI nd) p2 p3 p4 p5 (nI cn) p6 (nI pq) p7 p8 p9 (nI sc)), (a3, .inl (cA 0, 10, .inl fs))] sz)) (va_Qi (fun (r : Int32) (_ : Unit) => r = doC fs cn) (fun (_ : Unit) t => Wq D (va_A [(oX0 a0 p0 a1 a3 a4 a5 a6 i6 i7 i8 i9 i10 i11 i12 i13 i14 i15 i16 i17 i18 i19), (oX3 p0 pr pb pe pg p1 (nI nd) p2 p3 p4 p5 (nI cn) p6 (nI pq) p7 p8 p9 (nI sc)), (a3, .inl (cA 0, 10, .inl fs))] sz) [(oX0 a0 p0 a1 a3 a4 a5 a6 i6 i7 i8 i9 i10 i11 i12 i13 i14 i15 i16 i17 i18 i19), (oX3 p0 pr pb pe pg p1 (nI nd) p2 p3 p4 p5 (nI cn) p6 (nI pq) p7 p8 p9 (nI sc)), (a3, .inl (cA 0, 10, .inl fs))] t) (va_A [(oX0 a0 p0 a1 a3 a4 a5 a6 i6 i7 i8 i9 i10 i11 i12 i13 i14 i15 i16 i17 i18 i19), (oX3 p0 pr pb pe pg p1 (nI nd) p2 p3 p4 p5 (nI cn) p6 (nI pq) p7 p8 p9 (nI sc)), (a3, .inl (cA 0, 10, .inl fs))] sz)) 0 0 (va_A [(oX0 a0 p0 a1 a3 a4 a5 a6 i6 i7 i8 i9 i10 i11 i12 i13 i14 i15 i16 i17 i18 i19), (oX3 p0 pr pb pe pg p1 (nI nd) p2 p3 p4 p5 (nI cn) p6 (nI pq) p7 p8 p9 (nI sc)), (a3, .inl (cA 0, 10, .inl fs))] sz) := by
  refine Met.ofW (cc := cX0_doneSet) (maxL := 3) (ret := (some .int)) (by decide) rfl ?_
  intro p e s m args below meth c s₁ B hml hv
  obtain ⟨rfl, hsz, hP, hK, hD0, hC, hZ⟩ := hv
  have hx := B.exec
  have hb := B.bytes
  have hr := B.returns
  have hts := atoms_spec (ws := wsX0_doneSet) B.pre
  have hown : s.vm.findClass RX0 = some m.cls := findClass_of_methodNamed B.named
  have hlocks := B.notSynchronized
  subst hsz
  have hD := hD0.self (sz := s.heap.size)
  generalize hAe : va_A [(oX0 a0 p0 a1 a3 a4 a5 a6 i6 i7 i8 i9 i10 i11 i12 i13 i14 i15 i16 i17 i18 i19), (oX3 p0 pr pb pe pg p1 (nI nd) p2 p3 p4 p5 (nI cn) p6 (nI pq) p7 p8 p9 (nI sc)), (a3, .inl (cA 0, 10, .inl fs))] s.heap.size = A at hD hZ ⊢
  have hA : ∀ q : Nat, s.heap.size ≤ q → A q := fun q h => by rw [← hAe]; exact Or.inr h
  have hS : va_S A s.heap s.heap [] := va_S.rf
  have hP : va_P D vwCl [(oX0 a0 p0 a1 a3 a4 a5 a6 i6 i7 i8 i9 i10 i11 i12 i13 i14 i15 i16 i17 i18 i19), (oX3 p0 pr pb pe pg p1 (nI nd) p2 p3 p4 p5 (nI cn) p6 (nI pq) p7 p8 p9 (nI sc)), (a3, .inl (cA 0, 10, .inl fs))] s.heap := hP
  have hl := lv_entry ([.ref a0]) (n := 3) (Nat.le_of_ble_eq_true rfl)
  rw [lg_entry_eq]
  generalize (lg_sl ([.ref a0]) ++ List.replicate (3 - (lg_sl ([.ref a0])).length) Slot.unset).toArray = ls at hl ⊢
  have hl : lv_has ls 3 [(0, .ref a0)] := hl
  have inX0 : ∀ w ∈ u_ws RX0 TX0 20, w ∈ wsX0_doneSet := by decide +kernel
  have inX3 : ∀ w ∈ u_ws RX3 TX3 17, w ∈ wsX0_doneSet := by decide +kernel
  refine lv_iconst (v := 0) hx hb dX0_doneSet_0 (by decide) ?_
  refine lv_istore_n (lv' := [(1, .int 0), (0, .ref a0)]) hx hb dX0_doneSet_1 rfl hl (by decide) rfl (fun ls hl => ?_)
  refine lv_iconst (v := 0) hx hb dX0_doneSet_2 (by decide) ?_
  refine lv_istore_n (lv' := [(2, .int 0), (1, .int 0), (0, .ref a0)]) hx hb dX0_doneSet_3 rfl hl (by decide) rfl (fun ls hl => ?_)
  have loop1 : ∀ (n1 i1 : Nat) (x1_1 : Int32) (H : Heap) (locs : List Loc) (ls : Array Slot), i1 + n1 = cn → Doc fs i1 x1_1 → va_P D vwCl [(oX0 a0 p0 a1 a3 a4 a5 a6 i6 i7 i8 i9 i10 i11 i12 i13 i14 i15 i16 i17 i18 i19), (oX3 p0 pr pb pe pg p1 (nI nd) p2 p3 p4 p5 (nI cn) p6 (nI pq) p7 p8 p9 (nI sc)), (a3, .inl (cA 0, 10, .inl fs))] H → va_D A [(oX0 a0 p0 a1 a3 a4 a5 a6 i6 i7 i8 i9 i10 i11 i12 i13 i14 i15 i16 i17 i18 i19), (oX3 p0 pr pb pe pg p1 (nI nd) p2 p3 p4 p5 (nI cn) p6 (nI pq) p7 p8 p9 (nI sc)), (a3, .inl (cA 0, 10, .inl fs))] → va_S A s.heap H locs → lv_has ls 3 [(2, .int (nI i1)), (1, .int x1_1), (0, .ref a0)] → W p l e (headSpec wsX0_doneSet ({ frames := 0, cells := 0, slots := 0, locals := 0 } : Room)).room s m ([.ref a0] : List Value).toArray below meth c H locs 0 0 (MQ below (va_Qi (fun (r : Int32) (_ : Unit) => r = doC fs cn) (fun (_ : Unit) t => Wq D A [(oX0 a0 p0 a1 a3 a4 a5 a6 i6 i7 i8 i9 i10 i11 i12 i13 i14 i15 i16 i17 i18 i19), (oX3 p0 pr pb pe pg p1 (nI nd) p2 p3 p4 p5 (nI cn) p6 (nI pq) p7 p8 p9 (nI sc)), (a3, .inl (cA 0, 10, .inl fs))] t) A) ([.ref a0] : List Value).toArray s 0 0 A) (F0 m 4 ls []) := by
    intro n1
    induction n1 with
    | zero =>
      intro i1 x1_1 H locs ls hi1 hv0_1 hP hD hS hl
      obtain rfl : cn = i1 := by omega
      refine lv_iload_n hx hb dX0_doneSet_4 rfl (lv_at hl 0 rfl) ?_
      refine lv_aload_n hx hb dX0_doneSet_5 rfl (lv_at hl 2 rfl) ?_
      refine va_get (D := D) (ci := 4) (v := .ref p0) (C := RX0) (T := TX0) (N := 20) hx hb hts inX0 hown hK hP 0 rfl rfl 0 (by decide) (hts (.fieldLink RX0 31 "EscrowDesk$Account" "plan" "LEscrowDesk$Plan;") (by decide +kernel)) (fun _ h9 => h9) rfl dX0_doneSet_6 ?_
      refine va_getN (D := D) (ci := 7) (v := .int (nI cn)) (C := RX3) (T := TX3) (N := 17) hx hb hts inX3 hown hK hP 1 rfl rfl 10 (by decide) (hC.f (A := _) (a := RX0) (i := 109) (b := "EscrowDesk$Plan") (n := "milestoneCount") (d := "I") (x := "EscrowDesk") (by decide +kernel)) (fun _ h9 => h9) rfl dX0_doneSet_9 ?_
      refine lv_icmp_ge (tgt := 47) hx hb dX0_doneSet_12 (by decide) (fun c1 => ?_) (fun c9 => absurd (nI_le (a := cn) (b := cn) (show cn ≤ cn by omega) (by omega)) c9)
      refine lv_iload_n hx hb dX0_doneSet_47 rfl (lv_at hl 1 rfl) ?_
      obtain ⟨hP9, hD9⟩ := PDq.sub (ws' := [(oX0 a0 p0 a1 a3 a4 a5 a6 i6 i7 i8 i9 i10 i11 i12 i13 i14 i15 i16 i17 i18 i19), (oX3 p0 pr pb pe pg p1 (nI nd) p2 p3 p4 p5 (nI cn) p6 (nI pq) p7 p8 p9 (nI sc)), (a3, .inl (cA 0, 10, .inl fs))]) hP hD [0, 1, 2] (by decide) rfl
      refine W.widen (k := 0) (n := 0) (Nat.le_of_ble_eq_true rfl) (Nat.le_of_ble_eq_true rfl) ?_
      exact (W.iret (v := x1_1) hx hb hr (fun t ht hW => ⟨⟨x1_1, (), rfl, hv0_1, by rw [ht]; exact hP9, hD9⟩, hS.F ht⟩) hS.2.2 dX0_doneSet_48)
    | succ n1 ih1 =>
      intro i1 x1_1 H locs ls hi1 hv0_1 hP hD hS hl
      refine lv_iload_n hx hb dX0_doneSet_4 rfl (lv_at hl 0 rfl) ?_
      refine lv_aload_n hx hb dX0_doneSet_5 rfl (lv_at hl 2 rfl) ?_
      refine va_get (D := D) (ci := 4) (v := .ref p0) (C := RX0) (T := TX0) (N := 20) hx hb hts inX0 hown hK hP 0 rfl rfl 0 (by decide) (hts (.fieldLink RX0 31 "EscrowDesk$Account" "plan" "LEscrowDesk$Plan;") (by decide +kernel)) (fun _ h9 => h9) rfl dX0_doneSet_6 ?_
      refine va_getN (D := D) (ci := 7) (v := .int (nI cn)) (C := RX3) (T := TX3) (N := 17) hx hb hts inX3 hown hK hP 1 rfl rfl 10 (by decide) (hC.f (A := _) (a := RX0) (i := 109) (b := "EscrowDesk$Plan") (n := "milestoneCount") (d := "I") (x := "EscrowDesk") (by decide +kernel)) (fun _ h9 => h9) rfl dX0_doneSet_9 ?_
      refine lv_icmp_ge (tgt := 47) hx hb dX0_doneSet_12 (by decide) (fun c9 => absurd c9 (nI_ge (a := i1) (b := cn) (show i1 < cn by omega) (by omega))) (fun c2 => ?_)
      refine lv_aload_n hx hb dX0_doneSet_15 rfl (lv_at hl 2 rfl) ?_
      refine va_get (D := D) (ci := 4) (v := .ref a3) (C := RX0) (T := TX0) (N := 20) hx hb hts inX0 hown hK hP 0 rfl rfl 2 (by decide) (hts (.fieldLink RX0 18 "EscrowDesk$Account" "state" "[I") (by decide +kernel)) (fun _ h9 => h9) rfl dX0_doneSet_16 ?_
      refine lv_iload_n hx hb dX0_doneSet_19 rfl (lv_at hl 0 rfl) ?_
      refine va_iald hx hb hK hP 2 0 rfl rfl (vp_in_nI (n := i1) (N := 10) (show i1 < 10 by omega) (by decide)) dX0_doneSet_20 ?_
      refine lv_topi (fun yn3 eyn3 => ?_)
      obtain rfl : yn3 = (fs i1) := eyn3.trans (by rw [nI_clamp (by omega)])
      refine lv_iconst (v := 3) hx hb dX0_doneSet_21 (by decide) ?_
      refine lv_icmp_eq (tgt := 35) hx hb dX0_doneSet_22 (by decide) (fun c4 => ?_) (fun c4 => ?_)
      · skip
        refine lv_iload_n hx hb dX0_doneSet_35 rfl (lv_at hl 1 rfl) ?_
        refine lv_iconst (v := 1) hx hb dX0_doneSet_36 (by decide) ?_
        refine lv_iload_n hx hb dX0_doneSet_37 rfl (lv_at hl 0 rfl) ?_
        refine lv_ishl hx hb dX0_doneSet_38 ?_
        refine lv_topi (fun yn5 eyn5 => ?_)
        obtain rfl : yn5 = ((1 : Int32) <<< ((nI i1) &&& 31)) := eyn5
        refine lv_ior hx hb dX0_doneSet_39 ?_
        refine lv_topi (fun yn6 eyn6 => ?_)
        obtain rfl : yn6 = (x1_1 ||| ((1 : Int32) <<< ((nI i1) &&& 31))) := eyn6
        refine lv_istore_n (lv' := [(1, .int (x1_1 ||| ((1 : Int32) <<< ((nI i1) &&& 31)))), (2, .int (nI i1)), (0, .ref a0)]) hx hb dX0_doneSet_40 rfl hl (by decide) rfl (fun ls hl => ?_)
        refine lv_iinc (v := (nI (i1 + 1))) (lv' := [(2, .int (nI (i1 + 1))), (1, .int (x1_1 ||| ((1 : Int32) <<< ((nI i1) &&& 31)))), (0, .ref a0)]) hx hb dX0_doneSet_41 hl (k := 1) rfl (nI_1 _) (by decide) rfl (fun ls hl => ?_)
        refine lv_goto (tgt := 4) hx hb dX0_doneSet_44 (by decide) ?_
        obtain ⟨hP9, hD9⟩ := PDq.sub (ws' := [(oX0 a0 p0 a1 a3 a4 a5 a6 i6 i7 i8 i9 i10 i11 i12 i13 i14 i15 i16 i17 i18 i19), (oX3 p0 pr pb pe pg p1 (nI nd) p2 p3 p4 p5 (nI cn) p6 (nI pq) p7 p8 p9 (nI sc)), (a3, .inl (cA 0, 10, .inl fs))]) hP hD [0, 1, 2] (by decide) rfl
        exact ih1 (i1 + 1) (x1_1 ||| ((1 : Int32) <<< ((nI i1) &&& 31))) H _ ls (by omega) (Doc.yes hv0_1 (Or.inl c4)) hP9 hD9 hS (lv_sub hl [0, 1, 2] rfl)
      · skip
        refine lv_aload_n hx hb dX0_doneSet_25 rfl (lv_at hl 2 rfl) ?_
        refine va_get (D := D) (ci := 4) (v := .ref a3) (C := RX0) (T := TX0) (N := 20) hx hb hts inX0 hown hK hP 0 rfl rfl 2 (by decide) (hts (.fieldLink RX0 18 "EscrowDesk$Account" "state" "[I") (by decide +kernel)) (fun _ h9 => h9) rfl dX0_doneSet_26 ?_
        refine lv_iload_n hx hb dX0_doneSet_29 rfl (lv_at hl 0 rfl) ?_
        refine va_iald hx hb hK hP 2 0 rfl rfl (vp_in_nI (n := i1) (N := 10) (show i1 < 10 by omega) (by decide)) dX0_doneSet_30 ?_
        refine lv_topi (fun yn7 eyn7 => ?_)
        obtain rfl : yn7 = (fs i1) := eyn7.trans (by rw [nI_clamp (by omega)])
        refine lv_iconst (v := 4) hx hb dX0_doneSet_31 (by decide) ?_
        refine lv_icmp_ne (tgt := 41) hx hb dX0_doneSet_32 (by decide) (fun c8 => ?_) (fun c8 => ?_)
        · skip
          refine lv_iinc (v := (nI (i1 + 1))) (lv' := [(2, .int (nI (i1 + 1))), (1, .int x1_1), (0, .ref a0)]) hx hb dX0_doneSet_41 hl (k := 0) rfl (nI_1 _) (by decide) rfl (fun ls hl => ?_)
          refine lv_goto (tgt := 4) hx hb dX0_doneSet_44 (by decide) ?_
          obtain ⟨hP9, hD9⟩ := PDq.sub (ws' := [(oX0 a0 p0 a1 a3 a4 a5 a6 i6 i7 i8 i9 i10 i11 i12 i13 i14 i15 i16 i17 i18 i19), (oX3 p0 pr pb pe pg p1 (nI nd) p2 p3 p4 p5 (nI cn) p6 (nI pq) p7 p8 p9 (nI sc)), (a3, .inl (cA 0, 10, .inl fs))]) hP hD [0, 1, 2] (by decide) rfl
          exact ih1 (i1 + 1) x1_1 H _ ls (by omega) (Doc.no hv0_1 (fun q9 => q9.elim c4 c8)) hP9 hD9 hS (lv_sub hl [0, 1, 2] rfl)
        · skip
          refine lv_iload_n hx hb dX0_doneSet_35 rfl (lv_at hl 1 rfl) ?_
          refine lv_iconst (v := 1) hx hb dX0_doneSet_36 (by decide) ?_
          refine lv_iload_n hx hb dX0_doneSet_37 rfl (lv_at hl 0 rfl) ?_
          refine lv_ishl hx hb dX0_doneSet_38 ?_
          refine lv_topi (fun yn9 eyn9 => ?_)
          obtain rfl : yn9 = ((1 : Int32) <<< ((nI i1) &&& 31)) := eyn9
          refine lv_ior hx hb dX0_doneSet_39 ?_
          refine lv_topi (fun yn10 eyn10 => ?_)
          obtain rfl : yn10 = (x1_1 ||| ((1 : Int32) <<< ((nI i1) &&& 31))) := eyn10
          refine lv_istore_n (lv' := [(1, .int (x1_1 ||| ((1 : Int32) <<< ((nI i1) &&& 31)))), (2, .int (nI i1)), (0, .ref a0)]) hx hb dX0_doneSet_40 rfl hl (by decide) rfl (fun ls hl => ?_)
          refine lv_iinc (v := (nI (i1 + 1))) (lv' := [(2, .int (nI (i1 + 1))), (1, .int (x1_1 ||| ((1 : Int32) <<< ((nI i1) &&& 31)))), (0, .ref a0)]) hx hb dX0_doneSet_41 hl (k := 1) rfl (nI_1 _) (by decide) rfl (fun ls hl => ?_)
          refine lv_goto (tgt := 4) hx hb dX0_doneSet_44 (by decide) ?_
          obtain ⟨hP9, hD9⟩ := PDq.sub (ws' := [(oX0 a0 p0 a1 a3 a4 a5 a6 i6 i7 i8 i9 i10 i11 i12 i13 i14 i15 i16 i17 i18 i19), (oX3 p0 pr pb pe pg p1 (nI nd) p2 p3 p4 p5 (nI cn) p6 (nI pq) p7 p8 p9 (nI sc)), (a3, .inl (cA 0, 10, .inl fs))]) hP hD [0, 1, 2] (by decide) rfl
          exact ih1 (i1 + 1) (x1_1 ||| ((1 : Int32) <<< ((nI i1) &&& 31))) H _ ls (by omega) (Doc.yes hv0_1 (Or.inr c8)) hP9 hD9 hS (lv_sub hl [0, 1, 2] rfl)
  obtain ⟨hP9, hD9⟩ := PDq.sub (ws' := [(oX0 a0 p0 a1 a3 a4 a5 a6 i6 i7 i8 i9 i10 i11 i12 i13 i14 i15 i16 i17 i18 i19), (oX3 p0 pr pb pe pg p1 (nI nd) p2 p3 p4 p5 (nI cn) p6 (nI pq) p7 p8 p9 (nI sc)), (a3, .inl (cA 0, 10, .inl fs))]) hP hD [0, 1, 2] (by decide) rfl
  exact loop1 (cn - 0) 0 0 _ _ ls (by omega) (Doc.zero fs) hP9 hD9 hS (lv_sub hl [0, 1, 2] rfl)

set_option maxHeartbeats 4000000 in
set_option maxRecDepth 100000 in
/-- the class, exactly: X3_contains -/
theorem c_contains (l : Launch) (D : va_G) (cA : Nat → ClassId) (sa : Nat → Nat) (a : Int32) (b : Int32) (sz : Nat) : Met l yX3_contains wsX3_contains ({ frames := 0, cells := 0, slots := 0, locals := 0 }) (va_Pc [.int a, .int b] (Wd D cA sa [] sz)) (va_Qi (fun (r : Int32) (_ : Unit) => (r = 1 ∧ (btC a b)) ∨ (r = 0 ∧ ¬ (btC a b))) (fun (_ : Unit) t => Wq D (va_A [] sz) [] t) (va_A [] sz)) 0 0 (va_A [] sz) := by
  refine Met.ofW (cc := cX3_contains) (maxL := 2) (ret := (some .boolean)) (by decide) rfl ?_
  intro p e s m args below meth c s₁ B hml hv
  obtain ⟨rfl, hsz, hP, hK, hD0, hC, hZ⟩ := hv
  have hx := B.exec
  have hb := B.bytes
  have hr := B.returns
  have hts := atoms_spec (ws := wsX3_contains) B.pre
  have hown : s.vm.findClass RX3 = some m.cls := findClass_of_methodNamed B.named
  have hlocks := B.notSynchronized
  subst hsz
  have hD := hD0.self (sz := s.heap.size)
  generalize hAe : va_A [] s.heap.size = A at hD hZ ⊢
  have hA : ∀ q : Nat, s.heap.size ≤ q → A q := fun q h => by rw [← hAe]; exact Or.inr h
  have hS : va_S A s.heap s.heap [] := va_S.rf
  have hP : va_P D vwCl [] s.heap := hP
  have hl := lv_entry ([.int a, .int b]) (n := 2) (Nat.le_of_ble_eq_true rfl)
  rw [lg_entry_eq]
  generalize (lg_sl ([.int a, .int b]) ++ List.replicate (2 - (lg_sl ([.int a, .int b])).length) Slot.unset).toArray = ls at hl ⊢
  have hl : lv_has ls 2 [(0, .int a), (1, .int b)] := hl
  refine lv_iload_n hx hb dX3_contains_0 rfl (lv_at hl 0 rfl) ?_
  refine lv_iload_n hx hb dX3_contains_1 rfl (lv_at hl 1 rfl) ?_
  refine lv_iushr hx hb dX3_contains_2 rfl ?_
  refine lv_topi (fun yn1 eyn1 => ?_)
  obtain rfl : yn1 = ((a.toUInt32 >>> (b.toUInt32 &&& Int32.toUInt32 31)).toInt32) := eyn1
  refine lv_iconst (v := 1) hx hb dX3_contains_3 (by decide) ?_
  refine lv_iand hx hb dX3_contains_4 ?_
  refine lv_topi (fun yn2 eyn2 => ?_)
  obtain rfl : yn2 = (((a.toUInt32 >>> (b.toUInt32 &&& Int32.toUInt32 31)).toInt32) &&& 1) := eyn2
  refine lv_iconst (v := 1) hx hb dX3_contains_5 (by decide) ?_
  refine lv_icmp_ne (tgt := 13) hx hb dX3_contains_6 (by decide) (fun c3 => ?_) (fun c3 => ?_)
  · skip
    refine lv_iconst (v := 0) hx hb dX3_contains_13 (by decide) ?_
    obtain ⟨hP9, hD9⟩ := PDq.sub (ws' := []) hP hD [] (by decide) rfl
    refine W.widen (k := 0) (n := 0) (Nat.le_of_ble_eq_true rfl) (Nat.le_of_ble_eq_true rfl) ?_
    exact (W.zret (v := 0) hx hb hr (by first | rfl | decide) (fun t ht hW => ⟨⟨0, (), rfl, (Or.inr ⟨rfl, c3⟩), by rw [ht]; exact hP9, hD9⟩, hS.F ht⟩) hS.2.2 dX3_contains_14)
  · skip
    refine lv_iconst (v := 1) hx hb dX3_contains_9 (by decide) ?_
    refine lv_goto (tgt := 14) hx hb dX3_contains_10 (by decide) ?_
    obtain ⟨hP9, hD9⟩ := PDq.sub (ws' := []) hP hD [] (by decide) rfl
    refine W.widen (k := 0) (n := 0) (Nat.le_of_ble_eq_true rfl) (Nat.le_of_ble_eq_true rfl) ?_
    exact (W.zret (v := 1) hx hb hr (by first | rfl | decide) (fun t ht hW => ⟨⟨1, (), rfl, (Or.inl ⟨rfl, c3⟩), by rw [ht]; exact hP9, hD9⟩, hS.F ht⟩) hS.2.2 dX3_contains_14)

set_option maxHeartbeats 4000000 in
set_option maxRecDepth 100000 in
/-- the class, exactly: X3_withAnswer -/
theorem c_withAnswer (l : Launch) (D : va_G) (cA : Nat → ClassId) (sa : Nat → Nat) (a : Int32) (b : Int32) (sz : Nat) : Met l yX3_withAnswer wsX3_withAnswer ({ frames := 0, cells := 0, slots := 0, locals := 0 }) (va_Pc [.int a, .int b] (Wd D cA sa [] sz)) (va_Qi (fun (r : Int32) (_ : Unit) => r = wAn a b) (fun (_ : Unit) t => Wq D (va_A [] sz) [] t) (va_A [] sz)) 0 0 (va_A [] sz) := by
  refine Met.ofW (cc := cX3_withAnswer) (maxL := 2) (ret := (some .int)) (by decide) rfl ?_
  intro p e s m args below meth c s₁ B hml hv
  obtain ⟨rfl, hsz, hP, hK, hD0, hC, hZ⟩ := hv
  have hx := B.exec
  have hb := B.bytes
  have hr := B.returns
  have hts := atoms_spec (ws := wsX3_withAnswer) B.pre
  have hown : s.vm.findClass RX3 = some m.cls := findClass_of_methodNamed B.named
  have hlocks := B.notSynchronized
  subst hsz
  have hD := hD0.self (sz := s.heap.size)
  generalize hAe : va_A [] s.heap.size = A at hD hZ ⊢
  have hA : ∀ q : Nat, s.heap.size ≤ q → A q := fun q h => by rw [← hAe]; exact Or.inr h
  have hS : va_S A s.heap s.heap [] := va_S.rf
  have hP : va_P D vwCl [] s.heap := hP
  have hl := lv_entry ([.int a, .int b]) (n := 2) (Nat.le_of_ble_eq_true rfl)
  rw [lg_entry_eq]
  generalize (lg_sl ([.int a, .int b]) ++ List.replicate (2 - (lg_sl ([.int a, .int b])).length) Slot.unset).toArray = ls at hl ⊢
  have hl : lv_has ls 2 [(0, .int a), (1, .int b)] := hl
  refine lv_iload_n hx hb dX3_withAnswer_0 rfl (lv_at hl 0 rfl) ?_
  refine lv_iconst (v := 1) hx hb dX3_withAnswer_1 (by decide) ?_
  refine lv_ishl hx hb dX3_withAnswer_2 ?_
  refine lv_topi (fun yn1 eyn1 => ?_)
  obtain rfl : yn1 = (a <<< (1 &&& 31)) := eyn1
  refine lv_iload_n hx hb dX3_withAnswer_3 rfl (lv_at hl 1 rfl) ?_
  refine lv_if_eq (tgt := 11) hx hb dX3_withAnswer_4 (by decide) (fun c2 => ?_) (fun c2 => ?_)
  · skip
    rw [c2] at hl
    have hl : lv_has ls 2 [(0, .int a), (1, .int 0)] := hl
    refine lv_iconst (v := 0) hx hb dX3_withAnswer_11 (by decide) ?_
    refine lv_ior hx hb dX3_withAnswer_12 ?_
    refine lv_topi (fun yn3 eyn3 => ?_)
    obtain rfl : yn3 = ((a <<< (1 &&& 31)) ||| 0) := eyn3
    obtain ⟨hP9, hD9⟩ := PDq.sub (ws' := []) hP hD [] (by decide) rfl
    refine W.widen (k := 0) (n := 0) (Nat.le_of_ble_eq_true rfl) (Nat.le_of_ble_eq_true rfl) ?_
    exact (W.iret (v := ((a <<< (1 &&& 31)) ||| 0)) hx hb hr (fun t ht hW => ⟨⟨((a <<< (1 &&& 31)) ||| 0), (), rfl, (by unfold wAn; rw [if_pos c2]), by rw [ht]; exact hP9, hD9⟩, hS.F ht⟩) hS.2.2 dX3_withAnswer_13)
  · skip
    refine lv_iconst (v := 1) hx hb dX3_withAnswer_7 (by decide) ?_
    refine lv_goto (tgt := 12) hx hb dX3_withAnswer_8 (by decide) ?_
    refine lv_ior hx hb dX3_withAnswer_12 ?_
    refine lv_topi (fun yn4 eyn4 => ?_)
    obtain rfl : yn4 = ((a <<< (1 &&& 31)) ||| 1) := eyn4
    obtain ⟨hP9, hD9⟩ := PDq.sub (ws' := []) hP hD [] (by decide) rfl
    refine W.widen (k := 0) (n := 0) (Nat.le_of_ble_eq_true rfl) (Nat.le_of_ble_eq_true rfl) ?_
    exact (W.iret (v := ((a <<< (1 &&& 31)) ||| 1)) hx hb hr (fun t ht hW => ⟨⟨((a <<< (1 &&& 31)) ||| 1), (), rfl, (by unfold wAn; rw [if_neg c2]), by rw [ht]; exact hP9, hD9⟩, hS.F ht⟩) hS.2.2 dX3_withAnswer_13)

set_option maxHeartbeats 4000000 in
set_option maxRecDepth 100000 in
/-- the class, exactly: X3_firstStep -/
theorem c_firstStep (l : Launch) (D : va_G) (cA : Nat → ClassId) (sa : Nat → Nat) (p0 : Nat) (p1 : Nat) (p2 : Nat) (p3 : Nat) (p4 : Nat) (p5 : Nat) (p6 : Nat) (p7 : Nat) (p8 : Nat) (p9 : Nat) (cn : Nat) (pq : Nat) (nd : Nat) (sc : Nat) (pr : Int32) (pb : Int32) (pe : Int32) (pg : Int32) (mi : Nat) (fen : Nat → Int32) (cf : Nat → Int32) (cq : Nat → Nat) (sz : Nat) (hcn : cn ≤ 10) (hpq : pq ≤ 8) (hnd : nd ≤ 6) (hsc : sc ≤ 350) (hEn : Ens cn cq fen) (hCQ : CQ cn cf cq) (hmi9 : mi < cn) : Met l yX3_firstStep wsX3_firstStep ({ frames := 0, cells := 0, slots := 0, locals := 0 }) (va_Pc [.ref p0, .int (nI mi)] (Wd D cA sa [(oX3 p0 pr pb pe pg p1 (nI nd) p2 p3 p4 p5 (nI cn) p6 (nI pq) p7 p8 p9 (nI sc)), (p9, .inl (cA 0, 10, .inl fen))] sz)) (va_Qi (fun (r : Int32) (_ : Unit) => r = nI (cq mi)) (fun (_ : Unit) t => Wq D (va_A [(oX3 p0 pr pb pe pg p1 (nI nd) p2 p3 p4 p5 (nI cn) p6 (nI pq) p7 p8 p9 (nI sc)), (p9, .inl (cA 0, 10, .inl fen))] sz) [(oX3 p0 pr pb pe pg p1 (nI nd) p2 p3 p4 p5 (nI cn) p6 (nI pq) p7 p8 p9 (nI sc)), (p9, .inl (cA 0, 10, .inl fen))] t) (va_A [(oX3 p0 pr pb pe pg p1 (nI nd) p2 p3 p4 p5 (nI cn) p6 (nI pq) p7 p8 p9 (nI sc)), (p9, .inl (cA 0, 10, .inl fen))] sz)) 0 0 (va_A [(oX3 p0 pr pb pe pg p1 (nI nd) p2 p3 p4 p5 (nI cn) p6 (nI pq) p7 p8 p9 (nI sc)), (p9, .inl (cA 0, 10, .inl fen))] sz) := by
  refine Met.ofW (cc := cX3_firstStep) (maxL := 2) (ret := (some .int)) (by decide) rfl ?_
  intro p e s m args below meth c s₁ B hml hv
  obtain ⟨rfl, hsz, hP, hK, hD0, hC, hZ⟩ := hv
  have hx := B.exec
  have hb := B.bytes
  have hr := B.returns
  have hts := atoms_spec (ws := wsX3_firstStep) B.pre
  have hown : s.vm.findClass RX3 = some m.cls := findClass_of_methodNamed B.named
  have hlocks := B.notSynchronized
  subst hsz
  have hD := hD0.self (sz := s.heap.size)
  generalize hAe : va_A [(oX3 p0 pr pb pe pg p1 (nI nd) p2 p3 p4 p5 (nI cn) p6 (nI pq) p7 p8 p9 (nI sc)), (p9, .inl (cA 0, 10, .inl fen))] s.heap.size = A at hD hZ ⊢
  have hA : ∀ q : Nat, s.heap.size ≤ q → A q := fun q h => by rw [← hAe]; exact Or.inr h
  have hS : va_S A s.heap s.heap [] := va_S.rf
  have hP : va_P D vwCl [(oX3 p0 pr pb pe pg p1 (nI nd) p2 p3 p4 p5 (nI cn) p6 (nI pq) p7 p8 p9 (nI sc)), (p9, .inl (cA 0, 10, .inl fen))] s.heap := hP
  have hl := lv_entry ([.ref p0, .int (nI mi)]) (n := 2) (Nat.le_of_ble_eq_true rfl)
  rw [lg_entry_eq]
  generalize (lg_sl ([.ref p0, .int (nI mi)]) ++ List.replicate (2 - (lg_sl ([.ref p0, .int (nI mi)])).length) Slot.unset).toArray = ls at hl ⊢
  have hl : lv_has ls 2 [(0, .ref p0), (1, .int (nI mi))] := hl
  have inX3 : ∀ w ∈ u_ws RX3 TX3 17, w ∈ wsX3_firstStep := by decide +kernel
  refine lv_iload_n hx hb dX3_firstStep_0 rfl (lv_at hl 1 rfl) ?_
  refine lv_if_le (tgt := 15) hx hb dX3_firstStep_1 (by decide) (fun c1 => ?_) (fun c1 => ?_)
  · skip
    have hn2 : mi ≤ 0 := (nI_leI (a := mi) (b := 0) (by omega) (by omega)).mp c1
    refine lv_iconst (v := 0) hx hb dX3_firstStep_15 (by decide) ?_
    obtain ⟨hP9, hD9⟩ := PDq.sub (ws' := [(oX3 p0 pr pb pe pg p1 (nI nd) p2 p3 p4 p5 (nI cn) p6 (nI pq) p7 p8 p9 (nI sc)), (p9, .inl (cA 0, 10, .inl fen))]) hP hD [0, 1] (by decide) rfl
    refine W.widen (k := 0) (n := 0) (Nat.le_of_ble_eq_true rfl) (Nat.le_of_ble_eq_true rfl) ?_
    exact (W.iret (v := 0) hx hb hr (fun t ht hW => ⟨⟨0, (), rfl, (by rw [show mi = 0 by omega, hCQ.1]; rfl), by rw [ht]; exact hP9, hD9⟩, hS.F ht⟩) hS.2.2 dX3_firstStep_16)
  · skip
    have hn3 : 0 < mi := Nat.lt_of_not_le (fun h9 => c1 (nI_le (a := mi) (b := 0) h9 (by omega)))
    refine lv_aload_n hx hb dX3_firstStep_4 rfl (lv_at hl 0 rfl) ?_
    refine va_get (D := D) (ci := 7) (v := .ref p9) (C := RX3) (T := TX3) (N := 17) hx hb hts inX3 hown hK hP 0 rfl rfl 15 (by decide) (hts (.fieldLink RX3 41 "EscrowDesk$Plan" "stepEnds" "[I") (by decide +kernel)) (fun _ h9 => h9) rfl dX3_firstStep_5 ?_
    refine lv_iload_n hx hb dX3_firstStep_8 rfl (lv_at hl 1 rfl) ?_
    refine lv_iconst (v := 1) hx hb dX3_firstStep_9 (by decide) ?_
    refine lv_isub hx hb dX3_firstStep_10 ?_
    refine lv_topi (fun yn4 eyn4 => ?_)
    obtain rfl : yn4 = (nI (mi - 1)) := eyn4.trans (nI_sub (a := mi) (b := 1) (by omega))
    refine va_iald hx hb hK hP 1 0 rfl rfl (vp_in_nI (n := (mi - 1)) (N := 10) (show (mi - 1) < 10 by omega) (by decide)) dX3_firstStep_11 ?_
    refine lv_topi (fun yn5 eyn5 => ?_)
    refine lv_goto (tgt := 16) hx hb dX3_firstStep_12 (by decide) ?_
    obtain ⟨hP9, hD9⟩ := PDq.sub (ws' := [(oX3 p0 pr pb pe pg p1 (nI nd) p2 p3 p4 p5 (nI cn) p6 (nI pq) p7 p8 p9 (nI sc)), (p9, .inl (cA 0, 10, .inl fen))]) hP hD [0, 1] (by decide) rfl
    refine W.widen (k := 0) (n := 0) (Nat.le_of_ble_eq_true rfl) (Nat.le_of_ble_eq_true rfl) ?_
    exact (W.iret (v := yn5) hx hb hr (fun t ht hW => ⟨⟨yn5, (), rfl, (Ens.prev hEn (by omega) hmi9 eyn5), by rw [ht]; exact hP9, hD9⟩, hS.F ht⟩) hS.2.2 dX3_firstStep_16)

set_option maxHeartbeats 4000000 in
set_option maxRecDepth 100000 in
/-- the class, exactly: X3_conditionHolds -/
theorem c_conditionHolds (l : Launch) (D : va_G) (cA : Nat → ClassId) (sa : Nat → Nat) (p0 : Nat) (p1 : Nat) (p2 : Nat) (p3 : Nat) (p4 : Nat) (p5 : Nat) (p6 : Nat) (p7 : Nat) (p8 : Nat) (p9 : Nat) (cn : Nat) (pq : Nat) (nd : Nat) (sc : Nat) (pr : Int32) (pb : Int32) (pe : Int32) (pg : Int32) (mi : Nat) (d : Int32) (a1 : Int32) (a2 : Int32) (a3 : Int32) (a4 : Int32) (fen : Nat → Int32) (fst : Nat → Int32) (fop : Nat → Int32) (cf : Nat → Int32) (cq : Nat → Nat) (sz : Nat) (hcn : cn ≤ 10) (hpq : pq ≤ 8) (hnd : nd ≤ 6) (hsc : sc ≤ 350) (hCE : CE sc cf fst fop) (hCQ : CQ cn cf cq) (hEn : Ens cn cq fen) (hqs : cq cn ≤ sc) (hmi9 : mi < cn) (ha4 : a4 = 0 ∨ a4 = 1) : Met l yX3_conditionHolds wsX3_conditionHolds ({ frames := 1, cells := 0, slots := 0, locals := 21 }) (va_Pc [.ref p0, .int (nI mi), .int d, .int a1, .int a2, .int a3, .int a4] (Wd D cA sa [(oX3 p0 pr pb pe pg p1 (nI nd) p2 p3 p4 p5 (nI cn) p6 (nI pq) p7 p8 p9 (nI sc)), (p9, .inl (cA 0, 10, .inl fen)), (p7, .inl (cA 0, 350, .inl fst)), (p8, .inl (cA 0, 350, .inl fop))] sz)) (va_Qi (fun (r : Int32) (_ : Unit) => (r = 1 ∧ (hdV (hdG a3 a4 d a1 a2) cf cq mi = true)) ∨ (r = 0 ∧ ¬ (hdV (hdG a3 a4 d a1 a2) cf cq mi = true))) (fun (_ : Unit) t => Wq D (va_A [(oX3 p0 pr pb pe pg p1 (nI nd) p2 p3 p4 p5 (nI cn) p6 (nI pq) p7 p8 p9 (nI sc)), (p9, .inl (cA 0, 10, .inl fen)), (p7, .inl (cA 0, 350, .inl fst)), (p8, .inl (cA 0, 350, .inl fop))] sz) [(oX3 p0 pr pb pe pg p1 (nI nd) p2 p3 p4 p5 (nI cn) p6 (nI pq) p7 p8 p9 (nI sc)), (p9, .inl (cA 0, 10, .inl fen)), (p7, .inl (cA 0, 350, .inl fst)), (p8, .inl (cA 0, 350, .inl fop))] t) (va_A [(oX3 p0 pr pb pe pg p1 (nI nd) p2 p3 p4 p5 (nI cn) p6 (nI pq) p7 p8 p9 (nI sc)), (p9, .inl (cA 0, 10, .inl fen)), (p7, .inl (cA 0, 350, .inl fst)), (p8, .inl (cA 0, 350, .inl fop))] sz)) 0 0 (va_A [(oX3 p0 pr pb pe pg p1 (nI nd) p2 p3 p4 p5 (nI cn) p6 (nI pq) p7 p8 p9 (nI sc)), (p9, .inl (cA 0, 10, .inl fen)), (p7, .inl (cA 0, 350, .inl fst)), (p8, .inl (cA 0, 350, .inl fop))] sz) := by
  refine Met.ofW (cc := cX3_conditionHolds) (maxL := 11) (ret := (some .boolean)) (by decide) rfl ?_
  intro p e s m args below meth c s₁ B hml hv
  obtain ⟨rfl, hsz, hP, hK, hD0, hC, hZ⟩ := hv
  have hx := B.exec
  have hb := B.bytes
  have hr := B.returns
  have hts := atoms_spec (ws := wsX3_conditionHolds) B.pre
  have hown : s.vm.findClass RX3 = some m.cls := findClass_of_methodNamed B.named
  have hlocks := B.notSynchronized
  subst hsz
  have hD := hD0.self (sz := s.heap.size)
  generalize hAe : va_A [(oX3 p0 pr pb pe pg p1 (nI nd) p2 p3 p4 p5 (nI cn) p6 (nI pq) p7 p8 p9 (nI sc)), (p9, .inl (cA 0, 10, .inl fen)), (p7, .inl (cA 0, 350, .inl fst)), (p8, .inl (cA 0, 350, .inl fop))] s.heap.size = A at hD hZ ⊢
  have hA : ∀ q : Nat, s.heap.size ≤ q → A q := fun q h => by rw [← hAe]; exact Or.inr h
  have hS : va_S A s.heap s.heap [] := va_S.rf
  have hP : va_P D vwCl [(oX3 p0 pr pb pe pg p1 (nI nd) p2 p3 p4 p5 (nI cn) p6 (nI pq) p7 p8 p9 (nI sc)), (p9, .inl (cA 0, 10, .inl fen)), (p7, .inl (cA 0, 350, .inl fst)), (p8, .inl (cA 0, 350, .inl fop))] s.heap := hP
  have hl := lv_entry ([.ref p0, .int (nI mi), .int d, .int a1, .int a2, .int a3, .int a4]) (n := 11) (Nat.le_of_ble_eq_true rfl)
  rw [lg_entry_eq]
  generalize (lg_sl ([.ref p0, .int (nI mi), .int d, .int a1, .int a2, .int a3, .int a4]) ++ List.replicate (11 - (lg_sl ([.ref p0, .int (nI mi), .int d, .int a1, .int a2, .int a3, .int a4])).length) Slot.unset).toArray = ls at hl ⊢
  have hl : lv_has ls 11 [(0, .ref p0), (1, .int (nI mi)), (2, .int d), (3, .int a1), (4, .int a2), (5, .int a3), (6, .int a4)] := hl
  have inX3 : ∀ w ∈ u_ws RX3 TX3 17, w ∈ wsX3_conditionHolds := by decide +kernel
  obtain ⟨hcq1, hcq2, hcq3⟩ := hCQ.2 mi hmi9
  have hcq4 := CQ.mono hCQ (show mi + 1 ≤ cn by omega)
  refine lv_iconst (v := 0) hx hb dX3_conditionHolds_0 (by decide) ?_
  refine lv_istore (lv' := [(7, .int 0), (0, .ref p0), (1, .int (nI mi)), (2, .int d), (3, .int a1), (4, .int a2), (5, .int a3), (6, .int a4)]) hx hb dX3_conditionHolds_1 hl (by decide) rfl (fun ls hl => ?_)
  refine lv_aload_n hx hb dX3_conditionHolds_3 rfl (lv_at hl 1 rfl) ?_
  refine lv_iload_n hx hb dX3_conditionHolds_4 rfl (lv_at hl 2 rfl) ?_
  obtain ⟨hPc, hDc, hFc⟩ := PDq.cut (wc := [(oX3 p0 pr pb pe pg p1 (nI nd) p2 p3 p4 p5 (nI cn) p6 (nI pq) p7 p8 p9 (nI sc)), (p9, .inl (cA 0, 10, .inl fen))]) hP hD hS hA [0, 1] (by decide) rfl
  refine va_calli (va_runV (As := [.int (nI mi)]) (rest := []) ⟨hx, hb, hml, hown, hts⟩ (c_firstStep l D cA sa p0 p1 p2 p3 p4 p5 p6 p7 p8 p9 cn pq nd sc pr pb pe pg mi fen cf cq s.heap.size hcn hpq hnd hsc hEn hCQ hmi9) (cwV 1 hts gX3_conditionHolds_X3_firstStep rfl rfl rfl (by decide +kernel) ⟨(Nat.le_of_ble_eq_true rfl), (Nat.le_of_ble_eq_true rfl)⟩) ⟨Wd.blind, va_recv hK hPc (ci := 7) (q0 := 0) rfl rfl, fun U hU hW => ⟨rfl, Wd.call hPc hDc hK hC hZ hS hFc U hU hW⟩⟩ rfl rfl hl.1 rfl (lv_room (Nat.le_of_ble_eq_true rfl)) dX3_conditionHolds_5 ⟨(Nat.le_of_ble_eq_true rfl), (Nat.le_of_ble_eq_true rfl)⟩) hS (fun q _ h => hFc q h) hFc (fun rn1 u t H1 locs ht hvm hw hB hz1 hk1 hS => ?_)
  obtain ⟨hP1, hD1⟩ := hB
  rw [ht] at hP1
  obtain ⟨hP, hD⟩ := PDq.join (w := [(p7, .inl (cA 0, 350, .inl fst)), (p8, .inl (cA 0, 350, .inl fop)), (oX3 p0 pr pb pe pg p1 (nI nd) p2 p3 p4 p5 (nI cn) p6 (nI pq) p7 p8 p9 (nI sc)), (p9, .inl (cA 0, 10, .inl fen))]) 2 hP hD [0, 1] [2, 3] rfl rfl (by decide) (by decide) hk1 hFc hP1 hD1 rfl
  generalize H1 = H at hP hS ⊢
  obtain rfl : rn1 = nI (cq mi) := hw
  refine lv_istore (lv' := [(8, .int (nI (cq mi))), (7, .int 0), (0, .ref p0), (1, .int (nI mi)), (2, .int d), (3, .int a1), (4, .int a2), (5, .int a3), (6, .int a4)]) hx hb dX3_conditionHolds_8 hl (by decide) rfl (fun ls hl => ?_)
  have loop1 : ∀ (n1 i1 : Nat) (x7_1 : Int32) (H : Heap) (locs : List Loc) (ls : Array Slot), i1 + n1 = (cq (mi + 1)) → cq mi ≤ i1 → HC9 (hdG a3 a4 d a1 a2) cf (cq mi) (cq (mi + 1)) i1 x7_1 → va_P D vwCl [(p7, .inl (cA 0, 350, .inl fst)), (p8, .inl (cA 0, 350, .inl fop)), (oX3 p0 pr pb pe pg p1 (nI nd) p2 p3 p4 p5 (nI cn) p6 (nI pq) p7 p8 p9 (nI sc)), (p9, .inl (cA 0, 10, .inl fen))] H → va_D A [(p7, .inl (cA 0, 350, .inl fst)), (p8, .inl (cA 0, 350, .inl fop)), (oX3 p0 pr pb pe pg p1 (nI nd) p2 p3 p4 p5 (nI cn) p6 (nI pq) p7 p8 p9 (nI sc)), (p9, .inl (cA 0, 10, .inl fen))] → va_S A s.heap H locs → lv_has ls 11 [(8, .int (nI i1)), (7, .int x7_1), (0, .ref p0), (1, .int (nI mi)), (2, .int d), (3, .int a1), (4, .int a2), (5, .int a3), (6, .int a4)] → W p l e (headSpec wsX3_conditionHolds ({ frames := 1, cells := 0, slots := 0, locals := 21 } : Room)).room s m ([.ref p0, .int (nI mi), .int d, .int a1, .int a2, .int a3, .int a4] : List Value).toArray below meth c H locs 0 0 (MQ below (va_Qi (fun (r : Int32) (_ : Unit) => (r = 1 ∧ (hdV (hdG a3 a4 d a1 a2) cf cq mi = true)) ∨ (r = 0 ∧ ¬ (hdV (hdG a3 a4 d a1 a2) cf cq mi = true))) (fun (_ : Unit) t => Wq D A [(oX3 p0 pr pb pe pg p1 (nI nd) p2 p3 p4 p5 (nI cn) p6 (nI pq) p7 p8 p9 (nI sc)), (p9, .inl (cA 0, 10, .inl fen)), (p7, .inl (cA 0, 350, .inl fst)), (p8, .inl (cA 0, 350, .inl fop))] t) A) ([.ref p0, .int (nI mi), .int d, .int a1, .int a2, .int a3, .int a4] : List Value).toArray s 0 0 A) (F0 m 10 ls []) := by
    intro n1
    induction n1 with
    | zero =>
      intro i1 x7_1 H locs ls hi1 hv0_1 hv1_1 hP hD hS hl
      obtain rfl : (cq (mi + 1)) = i1 := by omega
      refine lv_iload hx hb dX3_conditionHolds_10 (lv_at hl 0 rfl) ?_
      refine lv_aload_n hx hb dX3_conditionHolds_12 rfl (lv_at hl 2 rfl) ?_
      refine va_get (D := D) (ci := 7) (v := .ref p9) (C := RX3) (T := TX3) (N := 17) hx hb hts inX3 hown hK hP 2 rfl rfl 15 (by decide) (hts (.fieldLink RX3 41 "EscrowDesk$Plan" "stepEnds" "[I") (by decide +kernel)) (fun _ h9 => h9) rfl dX3_conditionHolds_13 ?_
      refine lv_iload_n hx hb dX3_conditionHolds_16 rfl (lv_at hl 3 rfl) ?_
      refine va_iald hx hb hK hP 3 0 rfl rfl (vp_in_nI (n := mi) (N := 10) (show mi < 10 by omega) (by decide)) dX3_conditionHolds_17 ?_
      refine lv_topi (fun yn2 eyn2 => ?_)
      obtain rfl : yn2 = (nI (cq (mi + 1))) := eyn2.trans (by rw [nI_clamp (by omega)]; exact Ens.at hEn (show mi < cn by omega))
      refine lv_icmp_ge (tgt := 226) hx hb dX3_conditionHolds_18 (by decide) (fun c3 => ?_) (fun c9 => absurd (nI_le (a := (cq (mi + 1))) (b := (cq (mi + 1))) (show (cq (mi + 1)) ≤ (cq (mi + 1)) by omega) (by omega)) c9)
      refine lv_iload hx hb dX3_conditionHolds_226 (lv_at hl 1 rfl) ?_
      refine lv_iconst (v := 1) hx hb dX3_conditionHolds_228 (by decide) ?_
      refine lv_iand hx hb dX3_conditionHolds_229 ?_
      refine lv_topi (fun yn4 eyn4 => ?_)
      obtain rfl : yn4 = (x7_1 &&& 1) := eyn4
      refine lv_iconst (v := 1) hx hb dX3_conditionHolds_230 (by decide) ?_
      refine lv_icmp_ne (tgt := 238) hx hb dX3_conditionHolds_231 (by decide) (fun c5 => ?_) (fun c5 => ?_)
      · skip
        refine lv_iconst (v := 0) hx hb dX3_conditionHolds_238 (by decide) ?_
        obtain ⟨hP9, hD9⟩ := PDq.sub (ws' := [(oX3 p0 pr pb pe pg p1 (nI nd) p2 p3 p4 p5 (nI cn) p6 (nI pq) p7 p8 p9 (nI sc)), (p9, .inl (cA 0, 10, .inl fen)), (p7, .inl (cA 0, 350, .inl fst)), (p8, .inl (cA 0, 350, .inl fop))]) hP hD [2, 3, 0, 1] (by decide) rfl
        refine W.widen (k := 0) (n := 0) (Nat.le_of_ble_eq_true rfl) (Nat.le_of_ble_eq_true rfl) ?_
        exact (W.zret (v := 0) hx hb hr (by first | rfl | decide) (fun t ht hW => ⟨⟨0, (), rfl, (Or.inr ⟨rfl, fun q9 => c5 ((HC9.fin hv1_1).mpr q9)⟩), by rw [ht]; exact hP9, hD9⟩, hS.F ht⟩) hS.2.2 dX3_conditionHolds_239)
      · skip
        refine lv_iconst (v := 1) hx hb dX3_conditionHolds_234 (by decide) ?_
        refine lv_goto (tgt := 239) hx hb dX3_conditionHolds_235 (by decide) ?_
        obtain ⟨hP9, hD9⟩ := PDq.sub (ws' := [(oX3 p0 pr pb pe pg p1 (nI nd) p2 p3 p4 p5 (nI cn) p6 (nI pq) p7 p8 p9 (nI sc)), (p9, .inl (cA 0, 10, .inl fen)), (p7, .inl (cA 0, 350, .inl fst)), (p8, .inl (cA 0, 350, .inl fop))]) hP hD [2, 3, 0, 1] (by decide) rfl
        refine W.widen (k := 0) (n := 0) (Nat.le_of_ble_eq_true rfl) (Nat.le_of_ble_eq_true rfl) ?_
        exact (W.zret (v := 1) hx hb hr (by first | rfl | decide) (fun t ht hW => ⟨⟨1, (), rfl, (Or.inl ⟨rfl, (HC9.fin hv1_1).mp c5⟩), by rw [ht]; exact hP9, hD9⟩, hS.F ht⟩) hS.2.2 dX3_conditionHolds_239)
    | succ n1 ih1 =>
      intro i1 x7_1 H locs ls hi1 hv0_1 hv1_1 hP hD hS hl
      refine lv_iload hx hb dX3_conditionHolds_10 (lv_at hl 0 rfl) ?_
      refine lv_aload_n hx hb dX3_conditionHolds_12 rfl (lv_at hl 2 rfl) ?_
      refine va_get (D := D) (ci := 7) (v := .ref p9) (C := RX3) (T := TX3) (N := 17) hx hb hts inX3 hown hK hP 2 rfl rfl 15 (by decide) (hts (.fieldLink RX3 41 "EscrowDesk$Plan" "stepEnds" "[I") (by decide +kernel)) (fun _ h9 => h9) rfl dX3_conditionHolds_13 ?_
      refine lv_iload_n hx hb dX3_conditionHolds_16 rfl (lv_at hl 3 rfl) ?_
      refine va_iald hx hb hK hP 3 0 rfl rfl (vp_in_nI (n := mi) (N := 10) (show mi < 10 by omega) (by decide)) dX3_conditionHolds_17 ?_
      refine lv_topi (fun yn6 eyn6 => ?_)
      obtain rfl : yn6 = (nI (cq (mi + 1))) := eyn6.trans (by rw [nI_clamp (by omega)]; exact Ens.at hEn (show mi < cn by omega))
      refine lv_icmp_ge (tgt := 226) hx hb dX3_conditionHolds_18 (by decide) (fun c9 => absurd c9 (nI_ge (a := i1) (b := (cq (mi + 1))) (show i1 < (cq (mi + 1)) by omega) (by omega))) (fun c7 => ?_)
      refine lv_iload hx hb dX3_conditionHolds_21 (lv_at hl 1 rfl) ?_
      refine lv_iconst (v := 1) hx hb dX3_conditionHolds_23 (by decide) ?_
      refine lv_iand hx hb dX3_conditionHolds_24 ?_
      refine lv_topi (fun yn8 eyn8 => ?_)
      obtain rfl : yn8 = (x7_1 &&& 1) := eyn8
      refine lv_istore (lv' := [(9, .int (x7_1 &&& 1)), (8, .int (nI i1)), (7, .int x7_1), (0, .ref p0), (1, .int (nI mi)), (2, .int d), (3, .int a1), (4, .int a2), (5, .int a3), (6, .int a4)]) hx hb dX3_conditionHolds_25 hl (by decide) rfl (fun ls hl => ?_)
      refine lv_aload_n hx hb dX3_conditionHolds_27 rfl (lv_at hl 3 rfl) ?_
      refine va_get (D := D) (ci := 7) (v := .ref p8) (C := RX3) (T := TX3) (N := 17) hx hb hts inX3 hown hK hP 2 rfl rfl 14 (by decide) (hts (.fieldLink RX3 38 "EscrowDesk$Plan" "operands" "[I") (by decide +kernel)) (fun _ h9 => h9) rfl dX3_conditionHolds_28 ?_
      refine lv_iload hx hb dX3_conditionHolds_31 (lv_at hl 1 rfl) ?_
      refine va_iald hx hb hK hP 1 0 rfl rfl (vp_in_nI (n := i1) (N := 350) (show i1 < 350 by omega) (by decide)) dX3_conditionHolds_33 ?_
      refine lv_topi (fun yn9 eyn9 => ?_)
      obtain rfl : yn9 = (fop i1) := eyn9.trans (by rw [nI_clamp (by omega)])
      refine lv_istore (lv' := [(10, .int (fop i1)), (9, .int (x7_1 &&& 1)), (8, .int (nI i1)), (7, .int x7_1), (0, .ref p0), (1, .int (nI mi)), (2, .int d), (3, .int a1), (4, .int a2), (5, .int a3), (6, .int a4)]) hx hb dX3_conditionHolds_34 hl (by decide) rfl (fun ls hl => ?_)
      refine lv_aload_n hx hb dX3_conditionHolds_36 rfl (lv_at hl 4 rfl) ?_
      refine va_get (D := D) (ci := 7) (v := .ref p7) (C := RX3) (T := TX3) (N := 17) hx hb hts inX3 hown hK hP 2 rfl rfl 13 (by decide) (hts (.fieldLink RX3 35 "EscrowDesk$Plan" "steps" "[I") (by decide +kernel)) (fun _ h9 => h9) rfl dX3_conditionHolds_37 ?_
      refine lv_iload hx hb dX3_conditionHolds_40 (lv_at hl 2 rfl) ?_
      refine va_iald hx hb hK hP 0 0 rfl rfl (vp_in_nI (n := i1) (N := 350) (show i1 < 350 by omega) (by decide)) dX3_conditionHolds_42 ?_
      refine lv_topi (fun yn10 eyn10 => ?_)
      obtain rfl : yn10 = (fst i1) := eyn10.trans (by rw [nI_clamp (by omega)])
      by_cases hn11 : (fst i1) = 14
      · skip
        refine W.eq (g2 := F0 m 43 ls [.int 14]) (by rw [hn11]) ?_
        refine lv_tableIn (off := 69) (tgt := 112) hx hb dX3_conditionHolds_43 (by decide) (by decide) (by decide) (by decide) ?_
        refine lv_iload hx hb dX3_conditionHolds_112 (lv_at hl 3 rfl) ?_
        refine lv_iconst (v := 1) hx hb dX3_conditionHolds_114 (by decide) ?_
        refine lv_iushr hx hb dX3_conditionHolds_115 rfl ?_
        refine lv_topi (fun yn12 eyn12 => ?_)
        obtain rfl : yn12 = ((x7_1.toUInt32 >>> ((1 : Int32).toUInt32 &&& Int32.toUInt32 31)).toInt32) := eyn12
        refine lv_iload hx hb dX3_conditionHolds_116 (lv_at hl 1 rfl) ?_
        refine lv_ior hx hb dX3_conditionHolds_118 ?_
        refine lv_topi (fun yn13 eyn13 => ?_)
        obtain rfl : yn13 = (((x7_1.toUInt32 >>> ((1 : Int32).toUInt32 &&& Int32.toUInt32 31)).toInt32) ||| (x7_1 &&& 1)) := eyn13
        refine lv_istore (lv' := [(7, .int (((x7_1.toUInt32 >>> ((1 : Int32).toUInt32 &&& Int32.toUInt32 31)).toInt32) ||| (x7_1 &&& 1))), (10, .int (fop i1)), (9, .int (x7_1 &&& 1)), (8, .int (nI i1)), (0, .ref p0), (1, .int (nI mi)), (2, .int d), (3, .int a1), (4, .int a2), (5, .int a3), (6, .int a4)]) hx hb dX3_conditionHolds_119 hl (by decide) rfl (fun ls hl => ?_)
        refine lv_goto (tgt := 220) hx hb dX3_conditionHolds_121 (by decide) ?_
        refine lv_iinc (v := (nI (i1 + 1))) (lv' := [(8, .int (nI (i1 + 1))), (7, .int (((x7_1.toUInt32 >>> ((1 : Int32).toUInt32 &&& Int32.toUInt32 31)).toInt32) ||| (x7_1 &&& 1))), (10, .int (fop i1)), (9, .int (x7_1 &&& 1)), (0, .ref p0), (1, .int (nI mi)), (2, .int d), (3, .int a1), (4, .int a2), (5, .int a3), (6, .int a4)]) hx hb dX3_conditionHolds_220 hl (k := 3) rfl (nI_1 _) (by decide) rfl (fun ls hl => ?_)
        refine lv_goto (tgt := 10) hx hb dX3_conditionHolds_223 (by decide) ?_
        obtain ⟨hP9, hD9⟩ := PDq.sub (ws' := [(p7, .inl (cA 0, 350, .inl fst)), (p8, .inl (cA 0, 350, .inl fop)), (oX3 p0 pr pb pe pg p1 (nI nd) p2 p3 p4 p5 (nI cn) p6 (nI pq) p7 p8 p9 (nI sc)), (p9, .inl (cA 0, 10, .inl fen))]) hP hD [0, 1, 2, 3] (by decide) rfl
        exact ih1 (i1 + 1) (((x7_1.toUInt32 >>> ((1 : Int32).toUInt32 &&& Int32.toUInt32 31)).toInt32) ||| (x7_1 &&& 1)) H _ ls (by omega) (by omega) (HC9.or hv1_1 (show i1 < cq (mi + 1) by omega) (hCE i1 (by omega)) hn11) hP9 hD9 hS (lv_sub hl [0, 1, 4, 5, 6, 7, 8, 9, 10] rfl)
      · skip
        by_cases hn14 : (fst i1) = 15
        · skip
          refine W.eq (g2 := F0 m 43 ls [.int 15]) (by rw [hn14]) ?_
          refine lv_tableIn (off := 54) (tgt := 97) hx hb dX3_conditionHolds_43 (by decide) (by decide) (by decide) (by decide) ?_
          refine lv_iload hx hb dX3_conditionHolds_97 (lv_at hl 3 rfl) ?_
          refine lv_iconst (v := 1) hx hb dX3_conditionHolds_99 (by decide) ?_
          refine lv_iushr hx hb dX3_conditionHolds_100 rfl ?_
          refine lv_topi (fun yn15 eyn15 => ?_)
          obtain rfl : yn15 = ((x7_1.toUInt32 >>> ((1 : Int32).toUInt32 &&& Int32.toUInt32 31)).toInt32) := eyn15
          refine lv_iload hx hb dX3_conditionHolds_101 (lv_at hl 1 rfl) ?_
          refine lv_bipush (v := (-2)) hx hb dX3_conditionHolds_103 (by decide) ?_
          refine lv_ior hx hb dX3_conditionHolds_105 ?_
          refine lv_topi (fun yn16 eyn16 => ?_)
          obtain rfl : yn16 = ((x7_1 &&& 1) ||| (-2)) := eyn16
          refine lv_iand hx hb dX3_conditionHolds_106 ?_
          refine lv_topi (fun yn17 eyn17 => ?_)
          obtain rfl : yn17 = (((x7_1.toUInt32 >>> ((1 : Int32).toUInt32 &&& Int32.toUInt32 31)).toInt32) &&& ((x7_1 &&& 1) ||| (-2))) := eyn17
          refine lv_istore (lv' := [(7, .int (((x7_1.toUInt32 >>> ((1 : Int32).toUInt32 &&& Int32.toUInt32 31)).toInt32) &&& ((x7_1 &&& 1) ||| (-2)))), (10, .int (fop i1)), (9, .int (x7_1 &&& 1)), (8, .int (nI i1)), (0, .ref p0), (1, .int (nI mi)), (2, .int d), (3, .int a1), (4, .int a2), (5, .int a3), (6, .int a4)]) hx hb dX3_conditionHolds_107 hl (by decide) rfl (fun ls hl => ?_)
          refine lv_goto (tgt := 220) hx hb dX3_conditionHolds_109 (by decide) ?_
          refine lv_iinc (v := (nI (i1 + 1))) (lv' := [(8, .int (nI (i1 + 1))), (7, .int (((x7_1.toUInt32 >>> ((1 : Int32).toUInt32 &&& Int32.toUInt32 31)).toInt32) &&& ((x7_1 &&& 1) ||| (-2)))), (10, .int (fop i1)), (9, .int (x7_1 &&& 1)), (0, .ref p0), (1, .int (nI mi)), (2, .int d), (3, .int a1), (4, .int a2), (5, .int a3), (6, .int a4)]) hx hb dX3_conditionHolds_220 hl (k := 3) rfl (nI_1 _) (by decide) rfl (fun ls hl => ?_)
          refine lv_goto (tgt := 10) hx hb dX3_conditionHolds_223 (by decide) ?_
          obtain ⟨hP9, hD9⟩ := PDq.sub (ws' := [(p7, .inl (cA 0, 350, .inl fst)), (p8, .inl (cA 0, 350, .inl fop)), (oX3 p0 pr pb pe pg p1 (nI nd) p2 p3 p4 p5 (nI cn) p6 (nI pq) p7 p8 p9 (nI sc)), (p9, .inl (cA 0, 10, .inl fen))]) hP hD [0, 1, 2, 3] (by decide) rfl
          exact ih1 (i1 + 1) (((x7_1.toUInt32 >>> ((1 : Int32).toUInt32 &&& Int32.toUInt32 31)).toInt32) &&& ((x7_1 &&& 1) ||| (-2))) H _ ls (by omega) (by omega) (HC9.and hv1_1 (show i1 < cq (mi + 1) by omega) (hCE i1 (by omega)) hn14) hP9 hD9 hS (lv_sub hl [0, 1, 4, 5, 6, 7, 8, 9, 10] rfl)
        · skip
          by_cases hn18 : (fst i1) = 16
          · skip
            refine W.eq (g2 := F0 m 43 ls [.int 16]) (by rw [hn18]) ?_
            refine lv_tableIn (off := 45) (tgt := 88) hx hb dX3_conditionHolds_43 (by decide) (by decide) (by decide) (by decide) ?_
            refine lv_iload hx hb dX3_conditionHolds_88 (lv_at hl 3 rfl) ?_
            refine lv_iconst (v := 1) hx hb dX3_conditionHolds_90 (by decide) ?_
            refine lv_ixor hx hb dX3_conditionHolds_91 ?_
            refine lv_topi (fun yn19 eyn19 => ?_)
            obtain rfl : yn19 = (x7_1 ^^^ 1) := eyn19
            refine lv_istore (lv' := [(7, .int (x7_1 ^^^ 1)), (10, .int (fop i1)), (9, .int (x7_1 &&& 1)), (8, .int (nI i1)), (0, .ref p0), (1, .int (nI mi)), (2, .int d), (3, .int a1), (4, .int a2), (5, .int a3), (6, .int a4)]) hx hb dX3_conditionHolds_92 hl (by decide) rfl (fun ls hl => ?_)
            refine lv_goto (tgt := 220) hx hb dX3_conditionHolds_94 (by decide) ?_
            refine lv_iinc (v := (nI (i1 + 1))) (lv' := [(8, .int (nI (i1 + 1))), (7, .int (x7_1 ^^^ 1)), (10, .int (fop i1)), (9, .int (x7_1 &&& 1)), (0, .ref p0), (1, .int (nI mi)), (2, .int d), (3, .int a1), (4, .int a2), (5, .int a3), (6, .int a4)]) hx hb dX3_conditionHolds_220 hl (k := 3) rfl (nI_1 _) (by decide) rfl (fun ls hl => ?_)
            refine lv_goto (tgt := 10) hx hb dX3_conditionHolds_223 (by decide) ?_
            obtain ⟨hP9, hD9⟩ := PDq.sub (ws' := [(p7, .inl (cA 0, 350, .inl fst)), (p8, .inl (cA 0, 350, .inl fop)), (oX3 p0 pr pb pe pg p1 (nI nd) p2 p3 p4 p5 (nI cn) p6 (nI pq) p7 p8 p9 (nI sc)), (p9, .inl (cA 0, 10, .inl fen))]) hP hD [0, 1, 2, 3] (by decide) rfl
            exact ih1 (i1 + 1) (x7_1 ^^^ 1) H _ ls (by omega) (by omega) (HC9.not hv1_1 (show i1 < cq (mi + 1) by omega) (hCE i1 (by omega)) hn18) hP9 hD9 hS (lv_sub hl [0, 1, 4, 5, 6, 7, 8, 9, 10] rfl)
          · skip
            by_cases hn20 : (fst i1) = 17
            · skip
              refine W.eq (g2 := F0 m 43 ls [.int 17]) (by rw [hn20]) ?_
              refine lv_tableIn (off := 81) (tgt := 124) hx hb dX3_conditionHolds_43 (by decide) (by decide) (by decide) (by decide) ?_
              refine lv_iload hx hb dX3_conditionHolds_124 (lv_at hl 3 rfl) ?_
              refine lv_iload_n hx hb dX3_conditionHolds_126 rfl (lv_at hl 6 rfl) ?_
              refine lv_iload hx hb dX3_conditionHolds_127 (lv_at hl 0 rfl) ?_
              refine lv_icmp_lt (tgt := 136) hx hb dX3_conditionHolds_129 (by decide) (fun c21 => ?_) (fun c21 => ?_)
              · skip
                refine lv_iconst (v := 0) hx hb dX3_conditionHolds_136 (by decide) ?_
                obtain ⟨hPc, hDc, hFc⟩ := PDq.cut (wc := []) hP hD hS hA [] (by decide) rfl
                refine va_calli (va_runS (As := [.int x7_1, .int 0]) (rest := []) ⟨hx, hb, hml, hown, hts⟩ (c_withAnswer l D cA sa x7_1 0 H.size) (va_cwS 2 hts gX3_conditionHolds_X3_withAnswer rfl rfl rfl (by decide +kernel) ⟨(Nat.le_of_ble_eq_true rfl), (Nat.le_of_ble_eq_true rfl)⟩) ⟨Wd.blind, fun U hU hW => ⟨rfl, Wd.call hPc hDc hK hC hZ hS hFc U hU hW⟩⟩ rfl rfl hl.1 rfl (lv_room (Nat.le_of_ble_eq_true rfl)) dX3_conditionHolds_137 ⟨(Nat.le_of_ble_eq_true rfl), (Nat.le_of_ble_eq_true rfl)⟩) hS (fun q _ h => hFc q h) hFc (fun rn22 u t H1 locs ht hvm hw hB hz1 hk1 hS => ?_)
                obtain ⟨hP1, hD1⟩ := hB
                rw [ht] at hP1
                obtain ⟨hP, hD⟩ := PDq.join (w := [(p7, .inl (cA 0, 350, .inl fst)), (p8, .inl (cA 0, 350, .inl fop)), (oX3 p0 pr pb pe pg p1 (nI nd) p2 p3 p4 p5 (nI cn) p6 (nI pq) p7 p8 p9 (nI sc)), (p9, .inl (cA 0, 10, .inl fen))]) 4 hP hD [] [0, 1, 2, 3] rfl rfl (by decide) (by decide) hk1 hFc hP1 hD1 rfl
                generalize H1 = H at hP hS ⊢
                obtain rfl : rn22 = (wAn x7_1 0) := hw
                refine lv_istore (lv' := [(7, .int (wAn x7_1 0)), (10, .int (fop i1)), (9, .int (x7_1 &&& 1)), (8, .int (nI i1)), (0, .ref p0), (1, .int (nI mi)), (2, .int d), (3, .int a1), (4, .int a2), (5, .int a3), (6, .int a4)]) hx hb dX3_conditionHolds_140 hl (by decide) rfl (fun ls hl => ?_)
                refine lv_goto (tgt := 220) hx hb dX3_conditionHolds_142 (by decide) ?_
                refine lv_iinc (v := (nI (i1 + 1))) (lv' := [(8, .int (nI (i1 + 1))), (7, .int (wAn x7_1 0)), (10, .int (fop i1)), (9, .int (x7_1 &&& 1)), (0, .ref p0), (1, .int (nI mi)), (2, .int d), (3, .int a1), (4, .int a2), (5, .int a3), (6, .int a4)]) hx hb dX3_conditionHolds_220 hl (k := 3) rfl (nI_1 _) (by decide) rfl (fun ls hl => ?_)
                refine lv_goto (tgt := 10) hx hb dX3_conditionHolds_223 (by decide) ?_
                obtain ⟨hP9, hD9⟩ := PDq.sub (ws' := [(p7, .inl (cA 0, 350, .inl fst)), (p8, .inl (cA 0, 350, .inl fop)), (oX3 p0 pr pb pe pg p1 (nI nd) p2 p3 p4 p5 (nI cn) p6 (nI pq) p7 p8 p9 (nI sc)), (p9, .inl (cA 0, 10, .inl fen))]) hP hD [0, 1, 2, 3] (by decide) rfl
                exact ih1 (i1 + 1) (wAn x7_1 0) H _ ls (by omega) (by omega) (HC9.psh hv1_1 (show i1 < cq (mi + 1) by omega) (En_pos (hCE i1 (by omega)) hn20) (Or.inr ⟨rfl, fun q9 => absurd c21 (Int32.not_lt.mpr ((En_17 (hCE i1 (by omega)) hn20).mp q9))⟩)) hP9 hD9 hS (lv_sub hl [0, 1, 4, 5, 6, 7, 8, 9, 10] rfl)
              · skip
                refine lv_iconst (v := 1) hx hb dX3_conditionHolds_132 (by decide) ?_
                refine lv_goto (tgt := 137) hx hb dX3_conditionHolds_133 (by decide) ?_
                obtain ⟨hPc, hDc, hFc⟩ := PDq.cut (wc := []) hP hD hS hA [] (by decide) rfl
                refine va_calli (va_runS (As := [.int x7_1, .int 1]) (rest := []) ⟨hx, hb, hml, hown, hts⟩ (c_withAnswer l D cA sa x7_1 1 H.size) (va_cwS 2 hts gX3_conditionHolds_X3_withAnswer rfl rfl rfl (by decide +kernel) ⟨(Nat.le_of_ble_eq_true rfl), (Nat.le_of_ble_eq_true rfl)⟩) ⟨Wd.blind, fun U hU hW => ⟨rfl, Wd.call hPc hDc hK hC hZ hS hFc U hU hW⟩⟩ rfl rfl hl.1 rfl (lv_room (Nat.le_of_ble_eq_true rfl)) dX3_conditionHolds_137 ⟨(Nat.le_of_ble_eq_true rfl), (Nat.le_of_ble_eq_true rfl)⟩) hS (fun q _ h => hFc q h) hFc (fun rn23 u t H1 locs ht hvm hw hB hz1 hk1 hS => ?_)
                obtain ⟨hP1, hD1⟩ := hB
                rw [ht] at hP1
                obtain ⟨hP, hD⟩ := PDq.join (w := [(p7, .inl (cA 0, 350, .inl fst)), (p8, .inl (cA 0, 350, .inl fop)), (oX3 p0 pr pb pe pg p1 (nI nd) p2 p3 p4 p5 (nI cn) p6 (nI pq) p7 p8 p9 (nI sc)), (p9, .inl (cA 0, 10, .inl fen))]) 4 hP hD [] [0, 1, 2, 3] rfl rfl (by decide) (by decide) hk1 hFc hP1 hD1 rfl
                generalize H1 = H at hP hS ⊢
                obtain rfl : rn23 = (wAn x7_1 1) := hw
                refine lv_istore (lv' := [(7, .int (wAn x7_1 1)), (10, .int (fop i1)), (9, .int (x7_1 &&& 1)), (8, .int (nI i1)), (0, .ref p0), (1, .int (nI mi)), (2, .int d), (3, .int a1), (4, .int a2), (5, .int a3), (6, .int a4)]) hx hb dX3_conditionHolds_140 hl (by decide) rfl (fun ls hl => ?_)
                refine lv_goto (tgt := 220) hx hb dX3_conditionHolds_142 (by decide) ?_
                refine lv_iinc (v := (nI (i1 + 1))) (lv' := [(8, .int (nI (i1 + 1))), (7, .int (wAn x7_1 1)), (10, .int (fop i1)), (9, .int (x7_1 &&& 1)), (0, .ref p0), (1, .int (nI mi)), (2, .int d), (3, .int a1), (4, .int a2), (5, .int a3), (6, .int a4)]) hx hb dX3_conditionHolds_220 hl (k := 3) rfl (nI_1 _) (by decide) rfl (fun ls hl => ?_)
                refine lv_goto (tgt := 10) hx hb dX3_conditionHolds_223 (by decide) ?_
                obtain ⟨hP9, hD9⟩ := PDq.sub (ws' := [(p7, .inl (cA 0, 350, .inl fst)), (p8, .inl (cA 0, 350, .inl fop)), (oX3 p0 pr pb pe pg p1 (nI nd) p2 p3 p4 p5 (nI cn) p6 (nI pq) p7 p8 p9 (nI sc)), (p9, .inl (cA 0, 10, .inl fen))]) hP hD [0, 1, 2, 3] (by decide) rfl
                exact ih1 (i1 + 1) (wAn x7_1 1) H _ ls (by omega) (by omega) (HC9.psh hv1_1 (show i1 < cq (mi + 1) by omega) (En_pos (hCE i1 (by omega)) hn20) (Or.inl ⟨rfl, (En_17 (hCE i1 (by omega)) hn20).mpr (Int32.not_lt.mp c21)⟩)) hP9 hD9 hS (lv_sub hl [0, 1, 4, 5, 6, 7, 8, 9, 10] rfl)
            · skip
              by_cases hn24 : (fst i1) = 18
              · skip
                refine W.eq (g2 := F0 m 43 ls [.int 18]) (by rw [hn24]) ?_
                refine lv_tableIn (off := 102) (tgt := 145) hx hb dX3_conditionHolds_43 (by decide) (by decide) (by decide) (by decide) ?_
                refine lv_iload hx hb dX3_conditionHolds_145 (lv_at hl 3 rfl) ?_
                refine lv_iload_n hx hb dX3_conditionHolds_147 rfl (lv_at hl 7 rfl) ?_
                refine lv_iload hx hb dX3_conditionHolds_148 (lv_at hl 0 rfl) ?_
                obtain ⟨hPc, hDc, hFc⟩ := PDq.cut (wc := []) hP hD hS hA [] (by decide) rfl
                refine va_calli (va_runS (As := [.int a1, .int (fop i1)]) (rest := [.int x7_1]) ⟨hx, hb, hml, hown, hts⟩ (c_contains l D cA sa a1 (fop i1) H.size) (va_cwS 2 hts gX3_conditionHolds_X3_contains rfl rfl rfl (by decide +kernel) ⟨(Nat.le_of_ble_eq_true rfl), (Nat.le_of_ble_eq_true rfl)⟩) ⟨Wd.blind, fun U hU hW => ⟨rfl, Wd.call hPc hDc hK hC hZ hS hFc U hU hW⟩⟩ rfl rfl hl.1 rfl (lv_room (Nat.le_of_ble_eq_true rfl)) dX3_conditionHolds_150 ⟨(Nat.le_of_ble_eq_true rfl), (Nat.le_of_ble_eq_true rfl)⟩) hS (fun q _ h => hFc q h) hFc (fun rn25 u t H1 locs ht hvm hw hB hz1 hk1 hS => ?_)
                obtain ⟨hP1, hD1⟩ := hB
                rw [ht] at hP1
                obtain ⟨hP, hD⟩ := PDq.join (w := [(p7, .inl (cA 0, 350, .inl fst)), (p8, .inl (cA 0, 350, .inl fop)), (oX3 p0 pr pb pe pg p1 (nI nd) p2 p3 p4 p5 (nI cn) p6 (nI pq) p7 p8 p9 (nI sc)), (p9, .inl (cA 0, 10, .inl fen))]) 4 hP hD [] [0, 1, 2, 3] rfl rfl (by decide) (by decide) hk1 hFc hP1 hD1 rfl
                generalize H1 = H at hP hS ⊢
                rcases hw with ⟨hr9, hn26⟩ | ⟨hr9, hn26⟩
                · skip
                  subst hr9
                  obtain ⟨hPc, hDc, hFc⟩ := PDq.cut (wc := []) hP hD hS hA [] (by decide) rfl
                  refine va_calli (va_runS (As := [.int x7_1, .int 1]) (rest := []) ⟨hx, hb, hml, hown, hts⟩ (c_withAnswer l D cA sa x7_1 1 H.size) (va_cwS 2 hts gX3_conditionHolds_X3_withAnswer rfl rfl rfl (by decide +kernel) ⟨(Nat.le_of_ble_eq_true rfl), (Nat.le_of_ble_eq_true rfl)⟩) ⟨Wd.blind, fun U hU hW => ⟨rfl, Wd.call hPc hDc hK hC hZ hS hFc U hU hW⟩⟩ rfl rfl hl.1 rfl (lv_room (Nat.le_of_ble_eq_true rfl)) dX3_conditionHolds_153 ⟨(Nat.le_of_ble_eq_true rfl), (Nat.le_of_ble_eq_true rfl)⟩) hS (fun q _ h => hFc q h) hFc (fun rn27 u t H1 locs ht hvm hw hB hz1 hk1 hS => ?_)
                  obtain ⟨hP1, hD1⟩ := hB
                  rw [ht] at hP1
                  obtain ⟨hP, hD⟩ := PDq.join (w := [(p7, .inl (cA 0, 350, .inl fst)), (p8, .inl (cA 0, 350, .inl fop)), (oX3 p0 pr pb pe pg p1 (nI nd) p2 p3 p4 p5 (nI cn) p6 (nI pq) p7 p8 p9 (nI sc)), (p9, .inl (cA 0, 10, .inl fen))]) 4 hP hD [] [0, 1, 2, 3] rfl rfl (by decide) (by decide) hk1 hFc hP1 hD1 rfl
                  generalize H1 = H at hP hS ⊢
                  obtain rfl : rn27 = (wAn x7_1 1) := hw
                  refine lv_istore (lv' := [(7, .int (wAn x7_1 1)), (10, .int (fop i1)), (9, .int (x7_1 &&& 1)), (8, .int (nI i1)), (0, .ref p0), (1, .int (nI mi)), (2, .int d), (3, .int a1), (4, .int a2), (5, .int a3), (6, .int a4)]) hx hb dX3_conditionHolds_156 hl (by decide) rfl (fun ls hl => ?_)
                  refine lv_goto (tgt := 220) hx hb dX3_conditionHolds_158 (by decide) ?_
                  refine lv_iinc (v := (nI (i1 + 1))) (lv' := [(8, .int (nI (i1 + 1))), (7, .int (wAn x7_1 1)), (10, .int (fop i1)), (9, .int (x7_1 &&& 1)), (0, .ref p0), (1, .int (nI mi)), (2, .int d), (3, .int a1), (4, .int a2), (5, .int a3), (6, .int a4)]) hx hb dX3_conditionHolds_220 hl (k := 3) rfl (nI_1 _) (by decide) rfl (fun ls hl => ?_)
                  refine lv_goto (tgt := 10) hx hb dX3_conditionHolds_223 (by decide) ?_
                  obtain ⟨hP9, hD9⟩ := PDq.sub (ws' := [(p7, .inl (cA 0, 350, .inl fst)), (p8, .inl (cA 0, 350, .inl fop)), (oX3 p0 pr pb pe pg p1 (nI nd) p2 p3 p4 p5 (nI cn) p6 (nI pq) p7 p8 p9 (nI sc)), (p9, .inl (cA 0, 10, .inl fen))]) hP hD [0, 1, 2, 3] (by decide) rfl
                  exact ih1 (i1 + 1) (wAn x7_1 1) H _ ls (by omega) (by omega) (HC9.psh hv1_1 (show i1 < cq (mi + 1) by omega) (En_pos (hCE i1 (by omega)) hn24) (Or.inl ⟨rfl, (En_18 (hCE i1 (by omega)) hn24).mpr hn26⟩)) hP9 hD9 hS (lv_sub hl [0, 1, 4, 5, 6, 7, 8, 9, 10] rfl)
                · skip
                  subst hr9
                  obtain ⟨hPc, hDc, hFc⟩ := PDq.cut (wc := []) hP hD hS hA [] (by decide) rfl
                  refine va_calli (va_runS (As := [.int x7_1, .int 0]) (rest := []) ⟨hx, hb, hml, hown, hts⟩ (c_withAnswer l D cA sa x7_1 0 H.size) (va_cwS 2 hts gX3_conditionHolds_X3_withAnswer rfl rfl rfl (by decide +kernel) ⟨(Nat.le_of_ble_eq_true rfl), (Nat.le_of_ble_eq_true rfl)⟩) ⟨Wd.blind, fun U hU hW => ⟨rfl, Wd.call hPc hDc hK hC hZ hS hFc U hU hW⟩⟩ rfl rfl hl.1 rfl (lv_room (Nat.le_of_ble_eq_true rfl)) dX3_conditionHolds_153 ⟨(Nat.le_of_ble_eq_true rfl), (Nat.le_of_ble_eq_true rfl)⟩) hS (fun q _ h => hFc q h) hFc (fun rn28 u t H1 locs ht hvm hw hB hz1 hk1 hS => ?_)
                  obtain ⟨hP1, hD1⟩ := hB
                  rw [ht] at hP1
                  obtain ⟨hP, hD⟩ := PDq.join (w := [(p7, .inl (cA 0, 350, .inl fst)), (p8, .inl (cA 0, 350, .inl fop)), (oX3 p0 pr pb pe pg p1 (nI nd) p2 p3 p4 p5 (nI cn) p6 (nI pq) p7 p8 p9 (nI sc)), (p9, .inl (cA 0, 10, .inl fen))]) 4 hP hD [] [0, 1, 2, 3] rfl rfl (by decide) (by decide) hk1 hFc hP1 hD1 rfl
                  generalize H1 = H at hP hS ⊢
                  obtain rfl : rn28 = (wAn x7_1 0) := hw
                  refine lv_istore (lv' := [(7, .int (wAn x7_1 0)), (10, .int (fop i1)), (9, .int (x7_1 &&& 1)), (8, .int (nI i1)), (0, .ref p0), (1, .int (nI mi)), (2, .int d), (3, .int a1), (4, .int a2), (5, .int a3), (6, .int a4)]) hx hb dX3_conditionHolds_156 hl (by decide) rfl (fun ls hl => ?_)
                  refine lv_goto (tgt := 220) hx hb dX3_conditionHolds_158 (by decide) ?_
                  refine lv_iinc (v := (nI (i1 + 1))) (lv' := [(8, .int (nI (i1 + 1))), (7, .int (wAn x7_1 0)), (10, .int (fop i1)), (9, .int (x7_1 &&& 1)), (0, .ref p0), (1, .int (nI mi)), (2, .int d), (3, .int a1), (4, .int a2), (5, .int a3), (6, .int a4)]) hx hb dX3_conditionHolds_220 hl (k := 3) rfl (nI_1 _) (by decide) rfl (fun ls hl => ?_)
                  refine lv_goto (tgt := 10) hx hb dX3_conditionHolds_223 (by decide) ?_
                  obtain ⟨hP9, hD9⟩ := PDq.sub (ws' := [(p7, .inl (cA 0, 350, .inl fst)), (p8, .inl (cA 0, 350, .inl fop)), (oX3 p0 pr pb pe pg p1 (nI nd) p2 p3 p4 p5 (nI cn) p6 (nI pq) p7 p8 p9 (nI sc)), (p9, .inl (cA 0, 10, .inl fen))]) hP hD [0, 1, 2, 3] (by decide) rfl
                  exact ih1 (i1 + 1) (wAn x7_1 0) H _ ls (by omega) (by omega) (HC9.psh hv1_1 (show i1 < cq (mi + 1) by omega) (En_pos (hCE i1 (by omega)) hn24) (Or.inr ⟨rfl, fun q9 => hn26 ((En_18 (hCE i1 (by omega)) hn24).mp q9)⟩)) hP9 hD9 hS (lv_sub hl [0, 1, 4, 5, 6, 7, 8, 9, 10] rfl)
              · skip
                by_cases hn29 : (fst i1) = 19
                · skip
                  refine W.eq (g2 := F0 m 43 ls [.int 19]) (by rw [hn29]) ?_
                  refine lv_tableIn (off := 118) (tgt := 161) hx hb dX3_conditionHolds_43 (by decide) (by decide) (by decide) (by decide) ?_
                  refine lv_iload hx hb dX3_conditionHolds_161 (lv_at hl 3 rfl) ?_
                  refine lv_iload hx hb dX3_conditionHolds_163 (lv_at hl 8 rfl) ?_
                  refine lv_iload hx hb dX3_conditionHolds_165 (lv_at hl 0 rfl) ?_
                  obtain ⟨hPc, hDc, hFc⟩ := PDq.cut (wc := []) hP hD hS hA [] (by decide) rfl
                  refine va_calli (va_runS (As := [.int a2, .int (fop i1)]) (rest := [.int x7_1]) ⟨hx, hb, hml, hown, hts⟩ (c_contains l D cA sa a2 (fop i1) H.size) (va_cwS 2 hts gX3_conditionHolds_X3_contains rfl rfl rfl (by decide +kernel) ⟨(Nat.le_of_ble_eq_true rfl), (Nat.le_of_ble_eq_true rfl)⟩) ⟨Wd.blind, fun U hU hW => ⟨rfl, Wd.call hPc hDc hK hC hZ hS hFc U hU hW⟩⟩ rfl rfl hl.1 rfl (lv_room (Nat.le_of_ble_eq_true rfl)) dX3_conditionHolds_167 ⟨(Nat.le_of_ble_eq_true rfl), (Nat.le_of_ble_eq_true rfl)⟩) hS (fun q _ h => hFc q h) hFc (fun rn30 u t H1 locs ht hvm hw hB hz1 hk1 hS => ?_)
                  obtain ⟨hP1, hD1⟩ := hB
                  rw [ht] at hP1
                  obtain ⟨hP, hD⟩ := PDq.join (w := [(p7, .inl (cA 0, 350, .inl fst)), (p8, .inl (cA 0, 350, .inl fop)), (oX3 p0 pr pb pe pg p1 (nI nd) p2 p3 p4 p5 (nI cn) p6 (nI pq) p7 p8 p9 (nI sc)), (p9, .inl (cA 0, 10, .inl fen))]) 4 hP hD [] [0, 1, 2, 3] rfl rfl (by decide) (by decide) hk1 hFc hP1 hD1 rfl
                  generalize H1 = H at hP hS ⊢
                  rcases hw with ⟨hr9, hn31⟩ | ⟨hr9, hn31⟩
                  · skip
                    subst hr9
                    obtain ⟨hPc, hDc, hFc⟩ := PDq.cut (wc := []) hP hD hS hA [] (by decide) rfl
                    refine va_calli (va_runS (As := [.int x7_1, .int 1]) (rest := []) ⟨hx, hb, hml, hown, hts⟩ (c_withAnswer l D cA sa x7_1 1 H.size) (va_cwS 2 hts gX3_conditionHolds_X3_withAnswer rfl rfl rfl (by decide +kernel) ⟨(Nat.le_of_ble_eq_true rfl), (Nat.le_of_ble_eq_true rfl)⟩) ⟨Wd.blind, fun U hU hW => ⟨rfl, Wd.call hPc hDc hK hC hZ hS hFc U hU hW⟩⟩ rfl rfl hl.1 rfl (lv_room (Nat.le_of_ble_eq_true rfl)) dX3_conditionHolds_170 ⟨(Nat.le_of_ble_eq_true rfl), (Nat.le_of_ble_eq_true rfl)⟩) hS (fun q _ h => hFc q h) hFc (fun rn32 u t H1 locs ht hvm hw hB hz1 hk1 hS => ?_)
                    obtain ⟨hP1, hD1⟩ := hB
                    rw [ht] at hP1
                    obtain ⟨hP, hD⟩ := PDq.join (w := [(p7, .inl (cA 0, 350, .inl fst)), (p8, .inl (cA 0, 350, .inl fop)), (oX3 p0 pr pb pe pg p1 (nI nd) p2 p3 p4 p5 (nI cn) p6 (nI pq) p7 p8 p9 (nI sc)), (p9, .inl (cA 0, 10, .inl fen))]) 4 hP hD [] [0, 1, 2, 3] rfl rfl (by decide) (by decide) hk1 hFc hP1 hD1 rfl
                    generalize H1 = H at hP hS ⊢
                    obtain rfl : rn32 = (wAn x7_1 1) := hw
                    refine lv_istore (lv' := [(7, .int (wAn x7_1 1)), (10, .int (fop i1)), (9, .int (x7_1 &&& 1)), (8, .int (nI i1)), (0, .ref p0), (1, .int (nI mi)), (2, .int d), (3, .int a1), (4, .int a2), (5, .int a3), (6, .int a4)]) hx hb dX3_conditionHolds_173 hl (by decide) rfl (fun ls hl => ?_)
                    refine lv_goto (tgt := 220) hx hb dX3_conditionHolds_175 (by decide) ?_
                    refine lv_iinc (v := (nI (i1 + 1))) (lv' := [(8, .int (nI (i1 + 1))), (7, .int (wAn x7_1 1)), (10, .int (fop i1)), (9, .int (x7_1 &&& 1)), (0, .ref p0), (1, .int (nI mi)), (2, .int d), (3, .int a1), (4, .int a2), (5, .int a3), (6, .int a4)]) hx hb dX3_conditionHolds_220 hl (k := 3) rfl (nI_1 _) (by decide) rfl (fun ls hl => ?_)
                    refine lv_goto (tgt := 10) hx hb dX3_conditionHolds_223 (by decide) ?_
                    obtain ⟨hP9, hD9⟩ := PDq.sub (ws' := [(p7, .inl (cA 0, 350, .inl fst)), (p8, .inl (cA 0, 350, .inl fop)), (oX3 p0 pr pb pe pg p1 (nI nd) p2 p3 p4 p5 (nI cn) p6 (nI pq) p7 p8 p9 (nI sc)), (p9, .inl (cA 0, 10, .inl fen))]) hP hD [0, 1, 2, 3] (by decide) rfl
                    exact ih1 (i1 + 1) (wAn x7_1 1) H _ ls (by omega) (by omega) (HC9.psh hv1_1 (show i1 < cq (mi + 1) by omega) (En_pos (hCE i1 (by omega)) hn29) (Or.inl ⟨rfl, (En_19 (hCE i1 (by omega)) hn29).mpr hn31⟩)) hP9 hD9 hS (lv_sub hl [0, 1, 4, 5, 6, 7, 8, 9, 10] rfl)
                  · skip
                    subst hr9
                    obtain ⟨hPc, hDc, hFc⟩ := PDq.cut (wc := []) hP hD hS hA [] (by decide) rfl
                    refine va_calli (va_runS (As := [.int x7_1, .int 0]) (rest := []) ⟨hx, hb, hml, hown, hts⟩ (c_withAnswer l D cA sa x7_1 0 H.size) (va_cwS 2 hts gX3_conditionHolds_X3_withAnswer rfl rfl rfl (by decide +kernel) ⟨(Nat.le_of_ble_eq_true rfl), (Nat.le_of_ble_eq_true rfl)⟩) ⟨Wd.blind, fun U hU hW => ⟨rfl, Wd.call hPc hDc hK hC hZ hS hFc U hU hW⟩⟩ rfl rfl hl.1 rfl (lv_room (Nat.le_of_ble_eq_true rfl)) dX3_conditionHolds_170 ⟨(Nat.le_of_ble_eq_true rfl), (Nat.le_of_ble_eq_true rfl)⟩) hS (fun q _ h => hFc q h) hFc (fun rn33 u t H1 locs ht hvm hw hB hz1 hk1 hS => ?_)
                    obtain ⟨hP1, hD1⟩ := hB
                    rw [ht] at hP1
                    obtain ⟨hP, hD⟩ := PDq.join (w := [(p7, .inl (cA 0, 350, .inl fst)), (p8, .inl (cA 0, 350, .inl fop)), (oX3 p0 pr pb pe pg p1 (nI nd) p2 p3 p4 p5 (nI cn) p6 (nI pq) p7 p8 p9 (nI sc)), (p9, .inl (cA 0, 10, .inl fen))]) 4 hP hD [] [0, 1, 2, 3] rfl rfl (by decide) (by decide) hk1 hFc hP1 hD1 rfl
                    generalize H1 = H at hP hS ⊢
                    obtain rfl : rn33 = (wAn x7_1 0) := hw
                    refine lv_istore (lv' := [(7, .int (wAn x7_1 0)), (10, .int (fop i1)), (9, .int (x7_1 &&& 1)), (8, .int (nI i1)), (0, .ref p0), (1, .int (nI mi)), (2, .int d), (3, .int a1), (4, .int a2), (5, .int a3), (6, .int a4)]) hx hb dX3_conditionHolds_173 hl (by decide) rfl (fun ls hl => ?_)
                    refine lv_goto (tgt := 220) hx hb dX3_conditionHolds_175 (by decide) ?_
                    refine lv_iinc (v := (nI (i1 + 1))) (lv' := [(8, .int (nI (i1 + 1))), (7, .int (wAn x7_1 0)), (10, .int (fop i1)), (9, .int (x7_1 &&& 1)), (0, .ref p0), (1, .int (nI mi)), (2, .int d), (3, .int a1), (4, .int a2), (5, .int a3), (6, .int a4)]) hx hb dX3_conditionHolds_220 hl (k := 3) rfl (nI_1 _) (by decide) rfl (fun ls hl => ?_)
                    refine lv_goto (tgt := 10) hx hb dX3_conditionHolds_223 (by decide) ?_
                    obtain ⟨hP9, hD9⟩ := PDq.sub (ws' := [(p7, .inl (cA 0, 350, .inl fst)), (p8, .inl (cA 0, 350, .inl fop)), (oX3 p0 pr pb pe pg p1 (nI nd) p2 p3 p4 p5 (nI cn) p6 (nI pq) p7 p8 p9 (nI sc)), (p9, .inl (cA 0, 10, .inl fen))]) hP hD [0, 1, 2, 3] (by decide) rfl
                    exact ih1 (i1 + 1) (wAn x7_1 0) H _ ls (by omega) (by omega) (HC9.psh hv1_1 (show i1 < cq (mi + 1) by omega) (En_pos (hCE i1 (by omega)) hn29) (Or.inr ⟨rfl, fun q9 => hn31 ((En_19 (hCE i1 (by omega)) hn29).mp q9)⟩)) hP9 hD9 hS (lv_sub hl [0, 1, 4, 5, 6, 7, 8, 9, 10] rfl)
                · skip
                  by_cases hn34 : (fst i1) = 20
                  · skip
                    refine W.eq (g2 := F0 m 43 ls [.int 20]) (by rw [hn34]) ?_
                    refine lv_tableIn (off := 135) (tgt := 178) hx hb dX3_conditionHolds_43 (by decide) (by decide) (by decide) (by decide) ?_
                    refine lv_iload hx hb dX3_conditionHolds_178 (lv_at hl 3 rfl) ?_
                    refine lv_iload hx hb dX3_conditionHolds_180 (lv_at hl 9 rfl) ?_
                    refine lv_iload hx hb dX3_conditionHolds_182 (lv_at hl 0 rfl) ?_
                    refine lv_icmp_lt (tgt := 191) hx hb dX3_conditionHolds_184 (by decide) (fun c35 => ?_) (fun c35 => ?_)
                    · skip
                      refine lv_iconst (v := 0) hx hb dX3_conditionHolds_191 (by decide) ?_
                      obtain ⟨hPc, hDc, hFc⟩ := PDq.cut (wc := []) hP hD hS hA [] (by decide) rfl
                      refine va_calli (va_runS (As := [.int x7_1, .int 0]) (rest := []) ⟨hx, hb, hml, hown, hts⟩ (c_withAnswer l D cA sa x7_1 0 H.size) (va_cwS 2 hts gX3_conditionHolds_X3_withAnswer rfl rfl rfl (by decide +kernel) ⟨(Nat.le_of_ble_eq_true rfl), (Nat.le_of_ble_eq_true rfl)⟩) ⟨Wd.blind, fun U hU hW => ⟨rfl, Wd.call hPc hDc hK hC hZ hS hFc U hU hW⟩⟩ rfl rfl hl.1 rfl (lv_room (Nat.le_of_ble_eq_true rfl)) dX3_conditionHolds_192 ⟨(Nat.le_of_ble_eq_true rfl), (Nat.le_of_ble_eq_true rfl)⟩) hS (fun q _ h => hFc q h) hFc (fun rn36 u t H1 locs ht hvm hw hB hz1 hk1 hS => ?_)
                      obtain ⟨hP1, hD1⟩ := hB
                      rw [ht] at hP1
                      obtain ⟨hP, hD⟩ := PDq.join (w := [(p7, .inl (cA 0, 350, .inl fst)), (p8, .inl (cA 0, 350, .inl fop)), (oX3 p0 pr pb pe pg p1 (nI nd) p2 p3 p4 p5 (nI cn) p6 (nI pq) p7 p8 p9 (nI sc)), (p9, .inl (cA 0, 10, .inl fen))]) 4 hP hD [] [0, 1, 2, 3] rfl rfl (by decide) (by decide) hk1 hFc hP1 hD1 rfl
                      generalize H1 = H at hP hS ⊢
                      obtain rfl : rn36 = (wAn x7_1 0) := hw
                      refine lv_istore (lv' := [(7, .int (wAn x7_1 0)), (10, .int (fop i1)), (9, .int (x7_1 &&& 1)), (8, .int (nI i1)), (0, .ref p0), (1, .int (nI mi)), (2, .int d), (3, .int a1), (4, .int a2), (5, .int a3), (6, .int a4)]) hx hb dX3_conditionHolds_195 hl (by decide) rfl (fun ls hl => ?_)
                      refine lv_goto (tgt := 220) hx hb dX3_conditionHolds_197 (by decide) ?_
                      refine lv_iinc (v := (nI (i1 + 1))) (lv' := [(8, .int (nI (i1 + 1))), (7, .int (wAn x7_1 0)), (10, .int (fop i1)), (9, .int (x7_1 &&& 1)), (0, .ref p0), (1, .int (nI mi)), (2, .int d), (3, .int a1), (4, .int a2), (5, .int a3), (6, .int a4)]) hx hb dX3_conditionHolds_220 hl (k := 3) rfl (nI_1 _) (by decide) rfl (fun ls hl => ?_)
                      refine lv_goto (tgt := 10) hx hb dX3_conditionHolds_223 (by decide) ?_
                      obtain ⟨hP9, hD9⟩ := PDq.sub (ws' := [(p7, .inl (cA 0, 350, .inl fst)), (p8, .inl (cA 0, 350, .inl fop)), (oX3 p0 pr pb pe pg p1 (nI nd) p2 p3 p4 p5 (nI cn) p6 (nI pq) p7 p8 p9 (nI sc)), (p9, .inl (cA 0, 10, .inl fen))]) hP hD [0, 1, 2, 3] (by decide) rfl
                      exact ih1 (i1 + 1) (wAn x7_1 0) H _ ls (by omega) (by omega) (HC9.psh hv1_1 (show i1 < cq (mi + 1) by omega) (En_pos (hCE i1 (by omega)) hn34) (Or.inr ⟨rfl, fun q9 => absurd c35 (Int32.not_lt.mpr ((En_20 (hCE i1 (by omega)) hn34).mp q9))⟩)) hP9 hD9 hS (lv_sub hl [0, 1, 4, 5, 6, 7, 8, 9, 10] rfl)
                    · skip
                      refine lv_iconst (v := 1) hx hb dX3_conditionHolds_187 (by decide) ?_
                      refine lv_goto (tgt := 192) hx hb dX3_conditionHolds_188 (by decide) ?_
                      obtain ⟨hPc, hDc, hFc⟩ := PDq.cut (wc := []) hP hD hS hA [] (by decide) rfl
                      refine va_calli (va_runS (As := [.int x7_1, .int 1]) (rest := []) ⟨hx, hb, hml, hown, hts⟩ (c_withAnswer l D cA sa x7_1 1 H.size) (va_cwS 2 hts gX3_conditionHolds_X3_withAnswer rfl rfl rfl (by decide +kernel) ⟨(Nat.le_of_ble_eq_true rfl), (Nat.le_of_ble_eq_true rfl)⟩) ⟨Wd.blind, fun U hU hW => ⟨rfl, Wd.call hPc hDc hK hC hZ hS hFc U hU hW⟩⟩ rfl rfl hl.1 rfl (lv_room (Nat.le_of_ble_eq_true rfl)) dX3_conditionHolds_192 ⟨(Nat.le_of_ble_eq_true rfl), (Nat.le_of_ble_eq_true rfl)⟩) hS (fun q _ h => hFc q h) hFc (fun rn37 u t H1 locs ht hvm hw hB hz1 hk1 hS => ?_)
                      obtain ⟨hP1, hD1⟩ := hB
                      rw [ht] at hP1
                      obtain ⟨hP, hD⟩ := PDq.join (w := [(p7, .inl (cA 0, 350, .inl fst)), (p8, .inl (cA 0, 350, .inl fop)), (oX3 p0 pr pb pe pg p1 (nI nd) p2 p3 p4 p5 (nI cn) p6 (nI pq) p7 p8 p9 (nI sc)), (p9, .inl (cA 0, 10, .inl fen))]) 4 hP hD [] [0, 1, 2, 3] rfl rfl (by decide) (by decide) hk1 hFc hP1 hD1 rfl
                      generalize H1 = H at hP hS ⊢
                      obtain rfl : rn37 = (wAn x7_1 1) := hw
                      refine lv_istore (lv' := [(7, .int (wAn x7_1 1)), (10, .int (fop i1)), (9, .int (x7_1 &&& 1)), (8, .int (nI i1)), (0, .ref p0), (1, .int (nI mi)), (2, .int d), (3, .int a1), (4, .int a2), (5, .int a3), (6, .int a4)]) hx hb dX3_conditionHolds_195 hl (by decide) rfl (fun ls hl => ?_)
                      refine lv_goto (tgt := 220) hx hb dX3_conditionHolds_197 (by decide) ?_
                      refine lv_iinc (v := (nI (i1 + 1))) (lv' := [(8, .int (nI (i1 + 1))), (7, .int (wAn x7_1 1)), (10, .int (fop i1)), (9, .int (x7_1 &&& 1)), (0, .ref p0), (1, .int (nI mi)), (2, .int d), (3, .int a1), (4, .int a2), (5, .int a3), (6, .int a4)]) hx hb dX3_conditionHolds_220 hl (k := 3) rfl (nI_1 _) (by decide) rfl (fun ls hl => ?_)
                      refine lv_goto (tgt := 10) hx hb dX3_conditionHolds_223 (by decide) ?_
                      obtain ⟨hP9, hD9⟩ := PDq.sub (ws' := [(p7, .inl (cA 0, 350, .inl fst)), (p8, .inl (cA 0, 350, .inl fop)), (oX3 p0 pr pb pe pg p1 (nI nd) p2 p3 p4 p5 (nI cn) p6 (nI pq) p7 p8 p9 (nI sc)), (p9, .inl (cA 0, 10, .inl fen))]) hP hD [0, 1, 2, 3] (by decide) rfl
                      exact ih1 (i1 + 1) (wAn x7_1 1) H _ ls (by omega) (by omega) (HC9.psh hv1_1 (show i1 < cq (mi + 1) by omega) (En_pos (hCE i1 (by omega)) hn34) (Or.inl ⟨rfl, (En_20 (hCE i1 (by omega)) hn34).mpr (Int32.not_lt.mp c35)⟩)) hP9 hD9 hS (lv_sub hl [0, 1, 4, 5, 6, 7, 8, 9, 10] rfl)
                  · skip
                    by_cases hn38 : (fst i1) = 21
                    · skip
                      refine W.eq (g2 := F0 m 43 ls [.int 21]) (by rw [hn38]) ?_
                      refine lv_tableIn (off := 157) (tgt := 200) hx hb dX3_conditionHolds_43 (by decide) (by decide) (by decide) (by decide) ?_
                      refine lv_iload hx hb dX3_conditionHolds_200 (lv_at hl 3 rfl) ?_
                      refine lv_iload hx hb dX3_conditionHolds_202 (lv_at hl 10 rfl) ?_
                      obtain ⟨hPc, hDc, hFc⟩ := PDq.cut (wc := []) hP hD hS hA [] (by decide) rfl
                      refine va_calli (va_runS (As := [.int x7_1, .int a4]) (rest := []) ⟨hx, hb, hml, hown, hts⟩ (c_withAnswer l D cA sa x7_1 a4 H.size) (va_cwS 2 hts gX3_conditionHolds_X3_withAnswer rfl rfl rfl (by decide +kernel) ⟨(Nat.le_of_ble_eq_true rfl), (Nat.le_of_ble_eq_true rfl)⟩) ⟨Wd.blind, fun U hU hW => ⟨rfl, Wd.call hPc hDc hK hC hZ hS hFc U hU hW⟩⟩ rfl rfl hl.1 rfl (lv_room (Nat.le_of_ble_eq_true rfl)) dX3_conditionHolds_204 ⟨(Nat.le_of_ble_eq_true rfl), (Nat.le_of_ble_eq_true rfl)⟩) hS (fun q _ h => hFc q h) hFc (fun rn39 u t H1 locs ht hvm hw hB hz1 hk1 hS => ?_)
                      obtain ⟨hP1, hD1⟩ := hB
                      rw [ht] at hP1
                      obtain ⟨hP, hD⟩ := PDq.join (w := [(p7, .inl (cA 0, 350, .inl fst)), (p8, .inl (cA 0, 350, .inl fop)), (oX3 p0 pr pb pe pg p1 (nI nd) p2 p3 p4 p5 (nI cn) p6 (nI pq) p7 p8 p9 (nI sc)), (p9, .inl (cA 0, 10, .inl fen))]) 4 hP hD [] [0, 1, 2, 3] rfl rfl (by decide) (by decide) hk1 hFc hP1 hD1 rfl
                      generalize H1 = H at hP hS ⊢
                      obtain rfl : rn39 = (wAn x7_1 a4) := hw
                      refine lv_istore (lv' := [(7, .int (wAn x7_1 a4)), (10, .int (fop i1)), (9, .int (x7_1 &&& 1)), (8, .int (nI i1)), (0, .ref p0), (1, .int (nI mi)), (2, .int d), (3, .int a1), (4, .int a2), (5, .int a3), (6, .int a4)]) hx hb dX3_conditionHolds_207 hl (by decide) rfl (fun ls hl => ?_)
                      refine lv_goto (tgt := 220) hx hb dX3_conditionHolds_209 (by decide) ?_
                      refine lv_iinc (v := (nI (i1 + 1))) (lv' := [(8, .int (nI (i1 + 1))), (7, .int (wAn x7_1 a4)), (10, .int (fop i1)), (9, .int (x7_1 &&& 1)), (0, .ref p0), (1, .int (nI mi)), (2, .int d), (3, .int a1), (4, .int a2), (5, .int a3), (6, .int a4)]) hx hb dX3_conditionHolds_220 hl (k := 3) rfl (nI_1 _) (by decide) rfl (fun ls hl => ?_)
                      refine lv_goto (tgt := 10) hx hb dX3_conditionHolds_223 (by decide) ?_
                      obtain ⟨hP9, hD9⟩ := PDq.sub (ws' := [(p7, .inl (cA 0, 350, .inl fst)), (p8, .inl (cA 0, 350, .inl fop)), (oX3 p0 pr pb pe pg p1 (nI nd) p2 p3 p4 p5 (nI cn) p6 (nI pq) p7 p8 p9 (nI sc)), (p9, .inl (cA 0, 10, .inl fen))]) hP hD [0, 1, 2, 3] (by decide) rfl
                      exact ih1 (i1 + 1) (wAn x7_1 a4) H _ ls (by omega) (by omega) (HC9.psh hv1_1 (show i1 < cq (mi + 1) by omega) (En_pos (hCE i1 (by omega)) hn38) (En_21 (hCE i1 (by omega)) hn38 ha4)) hP9 hD9 hS (lv_sub hl [0, 1, 4, 5, 6, 7, 8, 9, 10] rfl)
                    · skip
                      refine lv_tableOut (tgt := 212) hx hb dX3_conditionHolds_43 (by have q0 : ¬ ((fst i1)).toInt = 14 := fun e9 => hn11 (Int32.toInt_inj.mp (e9.trans (by decide))); have q1 : ¬ ((fst i1)).toInt = 15 := fun e9 => hn14 (Int32.toInt_inj.mp (e9.trans (by decide))); have q2 : ¬ ((fst i1)).toInt = 16 := fun e9 => hn18 (Int32.toInt_inj.mp (e9.trans (by decide))); have q3 : ¬ ((fst i1)).toInt = 17 := fun e9 => hn20 (Int32.toInt_inj.mp (e9.trans (by decide))); have q4 : ¬ ((fst i1)).toInt = 18 := fun e9 => hn24 (Int32.toInt_inj.mp (e9.trans (by decide))); have q5 : ¬ ((fst i1)).toInt = 19 := fun e9 => hn29 (Int32.toInt_inj.mp (e9.trans (by decide))); have q6 : ¬ ((fst i1)).toInt = 20 := fun e9 => hn34 (Int32.toInt_inj.mp (e9.trans (by decide))); have q7 : ¬ ((fst i1)).toInt = 21 := fun e9 => hn38 (Int32.toInt_inj.mp (e9.trans (by decide))); omega) (by decide) ?_
                      refine lv_iload hx hb dX3_conditionHolds_212 (lv_at hl 3 rfl) ?_
                      refine lv_iconst (v := 1) hx hb dX3_conditionHolds_214 (by decide) ?_
                      obtain ⟨hPc, hDc, hFc⟩ := PDq.cut (wc := []) hP hD hS hA [] (by decide) rfl
                      refine va_calli (va_runS (As := [.int x7_1, .int 1]) (rest := []) ⟨hx, hb, hml, hown, hts⟩ (c_withAnswer l D cA sa x7_1 1 H.size) (va_cwS 2 hts gX3_conditionHolds_X3_withAnswer rfl rfl rfl (by decide +kernel) ⟨(Nat.le_of_ble_eq_true rfl), (Nat.le_of_ble_eq_true rfl)⟩) ⟨Wd.blind, fun U hU hW => ⟨rfl, Wd.call hPc hDc hK hC hZ hS hFc U hU hW⟩⟩ rfl rfl hl.1 rfl (lv_room (Nat.le_of_ble_eq_true rfl)) dX3_conditionHolds_215 ⟨(Nat.le_of_ble_eq_true rfl), (Nat.le_of_ble_eq_true rfl)⟩) hS (fun q _ h => hFc q h) hFc (fun rn40 u t H1 locs ht hvm hw hB hz1 hk1 hS => ?_)
                      obtain ⟨hP1, hD1⟩ := hB
                      rw [ht] at hP1
                      obtain ⟨hP, hD⟩ := PDq.join (w := [(p7, .inl (cA 0, 350, .inl fst)), (p8, .inl (cA 0, 350, .inl fop)), (oX3 p0 pr pb pe pg p1 (nI nd) p2 p3 p4 p5 (nI cn) p6 (nI pq) p7 p8 p9 (nI sc)), (p9, .inl (cA 0, 10, .inl fen))]) 4 hP hD [] [0, 1, 2, 3] rfl rfl (by decide) (by decide) hk1 hFc hP1 hD1 rfl
                      generalize H1 = H at hP hS ⊢
                      obtain rfl : rn40 = (wAn x7_1 1) := hw
                      refine lv_istore (lv' := [(7, .int (wAn x7_1 1)), (10, .int (fop i1)), (9, .int (x7_1 &&& 1)), (8, .int (nI i1)), (0, .ref p0), (1, .int (nI mi)), (2, .int d), (3, .int a1), (4, .int a2), (5, .int a3), (6, .int a4)]) hx hb dX3_conditionHolds_218 hl (by decide) rfl (fun ls hl => ?_)
                      refine lv_iinc (v := (nI (i1 + 1))) (lv' := [(8, .int (nI (i1 + 1))), (7, .int (wAn x7_1 1)), (10, .int (fop i1)), (9, .int (x7_1 &&& 1)), (0, .ref p0), (1, .int (nI mi)), (2, .int d), (3, .int a1), (4, .int a2), (5, .int a3), (6, .int a4)]) hx hb dX3_conditionHolds_220 hl (k := 3) rfl (nI_1 _) (by decide) rfl (fun ls hl => ?_)
                      refine lv_goto (tgt := 10) hx hb dX3_conditionHolds_223 (by decide) ?_
                      obtain ⟨hP9, hD9⟩ := PDq.sub (ws' := [(p7, .inl (cA 0, 350, .inl fst)), (p8, .inl (cA 0, 350, .inl fop)), (oX3 p0 pr pb pe pg p1 (nI nd) p2 p3 p4 p5 (nI cn) p6 (nI pq) p7 p8 p9 (nI sc)), (p9, .inl (cA 0, 10, .inl fen))]) hP hD [0, 1, 2, 3] (by decide) rfl
                      exact ih1 (i1 + 1) (wAn x7_1 1) H _ ls (by omega) (by omega) (HC9.psh hv1_1 (show i1 < cq (mi + 1) by omega) (En_alw hn11 hn14 hn18 (hCE i1 (by omega))) (Or.inl ⟨rfl, (En_22 (hCE i1 (by omega)) hn11 hn14 hn18 hn20 hn24 hn29 hn34 hn38)⟩)) hP9 hD9 hS (lv_sub hl [0, 1, 4, 5, 6, 7, 8, 9, 10] rfl)
  obtain ⟨hP9, hD9⟩ := PDq.sub (ws' := [(p7, .inl (cA 0, 350, .inl fst)), (p8, .inl (cA 0, 350, .inl fop)), (oX3 p0 pr pb pe pg p1 (nI nd) p2 p3 p4 p5 (nI cn) p6 (nI pq) p7 p8 p9 (nI sc)), (p9, .inl (cA 0, 10, .inl fen))]) hP hD [0, 1, 2, 3] (by decide) rfl
  exact loop1 ((cq (mi + 1)) - (cq mi)) (cq mi) 0 _ _ ls (by omega) (by omega) (HC9.zero hcq3) hP9 hD9 hS (lv_sub hl [0, 1, 2, 3, 4, 5, 6, 7, 8] rfl)

set_option maxHeartbeats 4000000 in
set_option maxRecDepth 100000 in
/-- the class, exactly: X0_judged -/
theorem c_judged (l : Launch) (D : va_G) (cA : Nat → ClassId) (sa : Nat → Nat) (a0 : Nat) (a1 : Nat) (a3 : Nat) (a4 : Nat) (a5 : Nat) (a6 : Nat) (p0 : Nat) (i6 : Int32) (i7 : Int32) (i8 : Int32) (i12 : Int32) (i13 : Int32) (i14 : Int32) (i15 : Int32) (i16 : Int32) (i17 : Int32) (i18 : Int32) (i19 : Int32) (i9 : Int64) (i10 : Int64) (i11 : Int64) (p1 : Nat) (p2 : Nat) (p3 : Nat) (p4 : Nat) (p5 : Nat) (p6 : Nat) (p7 : Nat) (p8 : Nat) (p9 : Nat) (cn : Nat) (pq : Nat) (nd : Nat) (sc : Nat) (pr : Int32) (pb : Int32) (pe : Int32) (pg : Int32) (mi : Nat) (fen : Nat → Int32) (fst : Nat → Int32) (fop : Nat → Int32) (cf : Nat → Int32) (cq : Nat → Nat) (d : Int32) (a : Int32) (b : Int32) (sz : Nat) (hcn : cn ≤ 10) (hpq : pq ≤ 8) (hnd : nd ≤ 6) (hsc : sc ≤ 350) (hCE : CE sc cf fst fop) (hCQ : CQ cn cf cq) (hEn : Ens cn cq fen) (hqs : cq cn ≤ sc) (hmi9 : mi < cn) : Met l yX0_judged wsX0_judged ({ frames := 2, cells := 0, slots := 0, locals := 51 }) (va_Pc [.ref a0, .int (nI mi), .int d, .int a, .int b] (Wd D cA sa [(oX0 a0 p0 a1 a3 a4 a5 a6 i6 i7 i8 i9 i10 i11 i12 i13 i14 i15 i16 i17 i18 i19), (oX3 p0 pr pb pe pg p1 (nI nd) p2 p3 p4 p5 (nI cn) p6 (nI pq) p7 p8 p9 (nI sc)), (p9, .inl (cA 0, 10, .inl fen)), (p7, .inl (cA 0, 350, .inl fst)), (p8, .inl (cA 0, 350, .inl fop))] sz)) (va_Qi (fun (r : Int32) (_ : Unit) => (r = 1 ∧ (hdV (hdG (i12 + i13) (bI (decide (btC i19 (nI mi)))) d a b) cf cq mi = true)) ∨ (r = 0 ∧ ¬ (hdV (hdG (i12 + i13) (bI (decide (btC i19 (nI mi)))) d a b) cf cq mi = true))) (fun (_ : Unit) t => Wq D (va_A [(oX0 a0 p0 a1 a3 a4 a5 a6 i6 i7 i8 i9 i10 i11 i12 i13 i14 i15 i16 i17 i18 i19), (oX3 p0 pr pb pe pg p1 (nI nd) p2 p3 p4 p5 (nI cn) p6 (nI pq) p7 p8 p9 (nI sc)), (p9, .inl (cA 0, 10, .inl fen)), (p7, .inl (cA 0, 350, .inl fst)), (p8, .inl (cA 0, 350, .inl fop))] sz) [(oX0 a0 p0 a1 a3 a4 a5 a6 i6 i7 i8 i9 i10 i11 i12 i13 i14 i15 i16 i17 i18 i19), (oX3 p0 pr pb pe pg p1 (nI nd) p2 p3 p4 p5 (nI cn) p6 (nI pq) p7 p8 p9 (nI sc)), (p9, .inl (cA 0, 10, .inl fen)), (p7, .inl (cA 0, 350, .inl fst)), (p8, .inl (cA 0, 350, .inl fop))] t) (va_A [(oX0 a0 p0 a1 a3 a4 a5 a6 i6 i7 i8 i9 i10 i11 i12 i13 i14 i15 i16 i17 i18 i19), (oX3 p0 pr pb pe pg p1 (nI nd) p2 p3 p4 p5 (nI cn) p6 (nI pq) p7 p8 p9 (nI sc)), (p9, .inl (cA 0, 10, .inl fen)), (p7, .inl (cA 0, 350, .inl fst)), (p8, .inl (cA 0, 350, .inl fop))] sz)) 0 0 (va_A [(oX0 a0 p0 a1 a3 a4 a5 a6 i6 i7 i8 i9 i10 i11 i12 i13 i14 i15 i16 i17 i18 i19), (oX3 p0 pr pb pe pg p1 (nI nd) p2 p3 p4 p5 (nI cn) p6 (nI pq) p7 p8 p9 (nI sc)), (p9, .inl (cA 0, 10, .inl fen)), (p7, .inl (cA 0, 350, .inl fst)), (p8, .inl (cA 0, 350, .inl fop))] sz) := by
  refine Met.ofW (cc := cX0_judged) (maxL := 6) (ret := (some .boolean)) (by decide) rfl ?_
  intro p e s m args below meth c s₁ B hml hv
  obtain ⟨rfl, hsz, hP, hK, hD0, hC, hZ⟩ := hv
  have hx := B.exec
  have hb := B.bytes
  have hr := B.returns
  have hts := atoms_spec (ws := wsX0_judged) B.pre
  have hown : s.vm.findClass RX0 = some m.cls := findClass_of_methodNamed B.named
  have hlocks := B.notSynchronized
  subst hsz
  have hD := hD0.self (sz := s.heap.size)
  generalize hAe : va_A [(oX0 a0 p0 a1 a3 a4 a5 a6 i6 i7 i8 i9 i10 i11 i12 i13 i14 i15 i16 i17 i18 i19), (oX3 p0 pr pb pe pg p1 (nI nd) p2 p3 p4 p5 (nI cn) p6 (nI pq) p7 p8 p9 (nI sc)), (p9, .inl (cA 0, 10, .inl fen)), (p7, .inl (cA 0, 350, .inl fst)), (p8, .inl (cA 0, 350, .inl fop))] s.heap.size = A at hD hZ ⊢
  have hA : ∀ q : Nat, s.heap.size ≤ q → A q := fun q h => by rw [← hAe]; exact Or.inr h
  have hS : va_S A s.heap s.heap [] := va_S.rf
  have hP : va_P D vwCl [(oX0 a0 p0 a1 a3 a4 a5 a6 i6 i7 i8 i9 i10 i11 i12 i13 i14 i15 i16 i17 i18 i19), (oX3 p0 pr pb pe pg p1 (nI nd) p2 p3 p4 p5 (nI cn) p6 (nI pq) p7 p8 p9 (nI sc)), (p9, .inl (cA 0, 10, .inl fen)), (p7, .inl (cA 0, 350, .inl fst)), (p8, .inl (cA 0, 350, .inl fop))] s.heap := hP
  have hl := lv_entry ([.ref a0, .int (nI mi), .int d, .int a, .int b]) (n := 6) (Nat.le_of_ble_eq_true rfl)
  rw [lg_entry_eq]
  generalize (lg_sl ([.ref a0, .int (nI mi), .int d, .int a, .int b]) ++ List.replicate (6 - (lg_sl ([.ref a0, .int (nI mi), .int d, .int a, .int b])).length) Slot.unset).toArray = ls at hl ⊢
  have hl : lv_has ls 6 [(0, .ref a0), (1, .int (nI mi)), (2, .int d), (3, .int a), (4, .int b)] := hl
  have inX0 : ∀ w ∈ u_ws RX0 TX0 20, w ∈ wsX0_judged := by decide +kernel
  refine lv_aload_n hx hb dX0_judged_0 rfl (lv_at hl 0 rfl) ?_
  refine va_get (D := D) (ci := 4) (v := .int i19) (C := RX0) (T := TX0) (N := 20) hx hb hts inX0 hown hK hP 0 rfl rfl 19 (by decide) (hts (.fieldLink RX0 86 "EscrowDesk$Account" "approvedSet" "I") (by decide +kernel)) (fun _ h9 => h9) rfl dX0_judged_1 ?_
  refine lv_iload_n hx hb dX0_judged_4 rfl (lv_at hl 1 rfl) ?_
  obtain ⟨hPc, hDc, hFc⟩ := PDq.cut (wc := []) hP hD hS hA [] (by decide) rfl
  refine va_calli (va_runS (As := [.int i19, .int (nI mi)]) (rest := []) ⟨hx, hb, hml, hown, hts⟩ (c_contains l D cA sa i19 (nI mi) s.heap.size) (va_cwS 2 hts gX0_judged_X3_contains rfl rfl rfl (by decide +kernel) ⟨(Nat.le_of_ble_eq_true rfl), (Nat.le_of_ble_eq_true rfl)⟩) ⟨Wd.blind, fun U hU hW => ⟨rfl, Wd.call hPc hDc hK hC hZ hS hFc U hU hW⟩⟩ rfl rfl hl.1 rfl (lv_room (Nat.le_of_ble_eq_true rfl)) dX0_judged_5 ⟨(Nat.le_of_ble_eq_true rfl), (Nat.le_of_ble_eq_true rfl)⟩) hS (fun q _ h => hFc q h) hFc (fun rn1 u t H1 locs ht hvm hw hB hz1 hk1 hS => ?_)
  obtain ⟨hP1, hD1⟩ := hB
  rw [ht] at hP1
  obtain ⟨hP, hD⟩ := PDq.join (w := [(oX0 a0 p0 a1 a3 a4 a5 a6 i6 i7 i8 i9 i10 i11 i12 i13 i14 i15 i16 i17 i18 i19), (oX3 p0 pr pb pe pg p1 (nI nd) p2 p3 p4 p5 (nI cn) p6 (nI pq) p7 p8 p9 (nI sc)), (p9, .inl (cA 0, 10, .inl fen)), (p7, .inl (cA 0, 350, .inl fst)), (p8, .inl (cA 0, 350, .inl fop))]) 5 hP hD [] [0, 1, 2, 3, 4] rfl rfl (by decide) (by decide) hk1 hFc hP1 hD1 rfl
  generalize H1 = H at hP hS ⊢
  rcases hw with ⟨hr9, hn2⟩ | ⟨hr9, hn2⟩
  · skip
    subst hr9
    refine lv_istore (lv' := [(5, .int 1), (0, .ref a0), (1, .int (nI mi)), (2, .int d), (3, .int a), (4, .int b)]) hx hb dX0_judged_8 hl (by decide) rfl (fun ls hl => ?_)
    refine lv_aload_n hx hb dX0_judged_10 rfl (lv_at hl 1 rfl) ?_
    refine va_get (D := D) (ci := 4) (v := .ref p0) (C := RX0) (T := TX0) (N := 20) hx hb hts inX0 hown hK hP 0 rfl rfl 0 (by decide) (hts (.fieldLink RX0 31 "EscrowDesk$Account" "plan" "LEscrowDesk$Plan;") (by decide +kernel)) (fun _ h9 => h9) rfl dX0_judged_11 ?_
    refine lv_iload_n hx hb dX0_judged_14 rfl (lv_at hl 2 rfl) ?_
    refine lv_iload_n hx hb dX0_judged_15 rfl (lv_at hl 3 rfl) ?_
    refine lv_iload_n hx hb dX0_judged_16 rfl (lv_at hl 4 rfl) ?_
    refine lv_iload hx hb dX0_judged_17 (lv_at hl 5 rfl) ?_
    refine lv_aload_n hx hb dX0_judged_19 rfl (lv_at hl 1 rfl) ?_
    obtain ⟨hPc, hDc, hFc⟩ := PDq.cut (wc := [(oX0 a0 p0 a1 a3 a4 a5 a6 i6 i7 i8 i9 i10 i11 i12 i13 i14 i15 i16 i17 i18 i19)]) hP hD hS hA [0] (by decide) rfl
    refine va_calli (va_runV (As := []) (rest := [.int b, .int a, .int d, .int (nI mi), .ref p0]) ⟨hx, hb, hml, hown, hts⟩ (c_payments l D cA sa a0 a1 a3 a4 a5 a6 p0 i6 i7 i8 i12 i13 i14 i15 i16 i17 i18 i19 i9 i10 i11 H.size) (cwV 0 hts gX0_judged_X0_payments rfl rfl rfl (by decide +kernel) ⟨(Nat.le_of_ble_eq_true rfl), (Nat.le_of_ble_eq_true rfl)⟩) ⟨Wd.blind, va_recv hK hPc (ci := 4) (q0 := 0) rfl rfl, fun U hU hW => ⟨rfl, Wd.call hPc hDc hK hC hZ hS hFc U hU hW⟩⟩ rfl rfl hl.1 rfl (lv_room (Nat.le_of_ble_eq_true rfl)) dX0_judged_20 ⟨(Nat.le_of_ble_eq_true rfl), (Nat.le_of_ble_eq_true rfl)⟩) hS (fun q _ h => hFc q h) hFc (fun rn3 u t H1 locs ht hvm hw hB hz1 hk1 hS => ?_)
    obtain ⟨hP1, hD1⟩ := hB
    rw [ht] at hP1
    obtain ⟨hP, hD⟩ := PDq.join (w := [(oX3 p0 pr pb pe pg p1 (nI nd) p2 p3 p4 p5 (nI cn) p6 (nI pq) p7 p8 p9 (nI sc)), (p9, .inl (cA 0, 10, .inl fen)), (p7, .inl (cA 0, 350, .inl fst)), (p8, .inl (cA 0, 350, .inl fop)), (oX0 a0 p0 a1 a3 a4 a5 a6 i6 i7 i8 i9 i10 i11 i12 i13 i14 i15 i16 i17 i18 i19)]) 4 hP hD [0] [1, 2, 3, 4] rfl rfl (by decide) (by decide) hk1 hFc hP1 hD1 rfl
    generalize H1 = H at hP hS ⊢
    obtain rfl : rn3 = (i12 + i13) := hw
    refine lv_iload hx hb dX0_judged_23 (lv_at hl 0 rfl) ?_
    obtain ⟨hPc, hDc, hFc⟩ := PDq.cut (wc := [(oX3 p0 pr pb pe pg p1 (nI nd) p2 p3 p4 p5 (nI cn) p6 (nI pq) p7 p8 p9 (nI sc)), (p9, .inl (cA 0, 10, .inl fen)), (p7, .inl (cA 0, 350, .inl fst)), (p8, .inl (cA 0, 350, .inl fop))]) hP hD hS hA [0, 1, 2, 3] (by decide) rfl
    refine va_calli (va_runV (As := [.int (nI mi), .int d, .int a, .int b, .int (i12 + i13), .int 1]) (rest := []) ⟨hx, hb, hml, hown, hts⟩ (c_conditionHolds l D cA sa p0 p1 p2 p3 p4 p5 p6 p7 p8 p9 cn pq nd sc pr pb pe pg mi d a b (i12 + i13) 1 fen fst fop cf cq H.size hcn hpq hnd hsc hCE hCQ hEn hqs hmi9 (by decide)) (cwV 6 hts gX0_judged_X3_conditionHolds rfl rfl rfl (by decide +kernel) ⟨(Nat.le_of_ble_eq_true rfl), (Nat.le_of_ble_eq_true rfl)⟩) ⟨Wd.blind, va_recv hK hPc (ci := 7) (q0 := 0) rfl rfl, fun U hU hW => ⟨rfl, Wd.call hPc hDc hK hC hZ hS hFc U hU hW⟩⟩ rfl rfl hl.1 rfl (lv_room (Nat.le_of_ble_eq_true rfl)) dX0_judged_25 ⟨(Nat.le_of_ble_eq_true rfl), (Nat.le_of_ble_eq_true rfl)⟩) hS (fun q _ h => hFc q h) hFc (fun rn4 u t H1 locs ht hvm hw hB hz1 hk1 hS => ?_)
    obtain ⟨hP1, hD1⟩ := hB
    rw [ht] at hP1
    obtain ⟨hP, hD⟩ := PDq.join (w := [(oX0 a0 p0 a1 a3 a4 a5 a6 i6 i7 i8 i9 i10 i11 i12 i13 i14 i15 i16 i17 i18 i19), (oX3 p0 pr pb pe pg p1 (nI nd) p2 p3 p4 p5 (nI cn) p6 (nI pq) p7 p8 p9 (nI sc)), (p9, .inl (cA 0, 10, .inl fen)), (p7, .inl (cA 0, 350, .inl fst)), (p8, .inl (cA 0, 350, .inl fop))]) 1 hP hD [0, 1, 2, 3] [4] rfl rfl (by decide) (by decide) hk1 hFc hP1 hD1 rfl
    generalize H1 = H at hP hS ⊢
    rcases hw with ⟨hr9, hn5⟩ | ⟨hr9, hn5⟩
    · skip
      subst hr9
      obtain ⟨hP9, hD9⟩ := PDq.sub (ws' := [(oX0 a0 p0 a1 a3 a4 a5 a6 i6 i7 i8 i9 i10 i11 i12 i13 i14 i15 i16 i17 i18 i19), (oX3 p0 pr pb pe pg p1 (nI nd) p2 p3 p4 p5 (nI cn) p6 (nI pq) p7 p8 p9 (nI sc)), (p9, .inl (cA 0, 10, .inl fen)), (p7, .inl (cA 0, 350, .inl fst)), (p8, .inl (cA 0, 350, .inl fop))]) hP hD [0, 1, 2, 3, 4] (by decide) rfl
      refine W.widen (k := 0) (n := 0) (Nat.le_of_ble_eq_true rfl) (Nat.le_of_ble_eq_true rfl) ?_
      exact (W.zret (v := 1) hx hb hr (by first | rfl | decide) (fun t ht hW => ⟨⟨1, (), rfl, (Or.inl ⟨rfl, by rw [bI_t hn2]; exact hn5⟩), by rw [ht]; exact hP9, hD9⟩, hS.F ht⟩) hS.2.2 dX0_judged_28)
    · skip
      subst hr9
      obtain ⟨hP9, hD9⟩ := PDq.sub (ws' := [(oX0 a0 p0 a1 a3 a4 a5 a6 i6 i7 i8 i9 i10 i11 i12 i13 i14 i15 i16 i17 i18 i19), (oX3 p0 pr pb pe pg p1 (nI nd) p2 p3 p4 p5 (nI cn) p6 (nI pq) p7 p8 p9 (nI sc)), (p9, .inl (cA 0, 10, .inl fen)), (p7, .inl (cA 0, 350, .inl fst)), (p8, .inl (cA 0, 350, .inl fop))]) hP hD [0, 1, 2, 3, 4] (by decide) rfl
      refine W.widen (k := 0) (n := 0) (Nat.le_of_ble_eq_true rfl) (Nat.le_of_ble_eq_true rfl) ?_
      exact (W.zret (v := 0) hx hb hr (by first | rfl | decide) (fun t ht hW => ⟨⟨0, (), rfl, (Or.inr ⟨rfl, by rw [bI_t hn2]; exact hn5⟩), by rw [ht]; exact hP9, hD9⟩, hS.F ht⟩) hS.2.2 dX0_judged_28)
  · skip
    subst hr9
    refine lv_istore (lv' := [(5, .int 0), (0, .ref a0), (1, .int (nI mi)), (2, .int d), (3, .int a), (4, .int b)]) hx hb dX0_judged_8 hl (by decide) rfl (fun ls hl => ?_)
    refine lv_aload_n hx hb dX0_judged_10 rfl (lv_at hl 1 rfl) ?_
    refine va_get (D := D) (ci := 4) (v := .ref p0) (C := RX0) (T := TX0) (N := 20) hx hb hts inX0 hown hK hP 0 rfl rfl 0 (by decide) (hts (.fieldLink RX0 31 "EscrowDesk$Account" "plan" "LEscrowDesk$Plan;") (by decide +kernel)) (fun _ h9 => h9) rfl dX0_judged_11 ?_
    refine lv_iload_n hx hb dX0_judged_14 rfl (lv_at hl 2 rfl) ?_
    refine lv_iload_n hx hb dX0_judged_15 rfl (lv_at hl 3 rfl) ?_
    refine lv_iload_n hx hb dX0_judged_16 rfl (lv_at hl 4 rfl) ?_
    refine lv_iload hx hb dX0_judged_17 (lv_at hl 5 rfl) ?_
    refine lv_aload_n hx hb dX0_judged_19 rfl (lv_at hl 1 rfl) ?_
    obtain ⟨hPc, hDc, hFc⟩ := PDq.cut (wc := [(oX0 a0 p0 a1 a3 a4 a5 a6 i6 i7 i8 i9 i10 i11 i12 i13 i14 i15 i16 i17 i18 i19)]) hP hD hS hA [0] (by decide) rfl
    refine va_calli (va_runV (As := []) (rest := [.int b, .int a, .int d, .int (nI mi), .ref p0]) ⟨hx, hb, hml, hown, hts⟩ (c_payments l D cA sa a0 a1 a3 a4 a5 a6 p0 i6 i7 i8 i12 i13 i14 i15 i16 i17 i18 i19 i9 i10 i11 H.size) (cwV 0 hts gX0_judged_X0_payments rfl rfl rfl (by decide +kernel) ⟨(Nat.le_of_ble_eq_true rfl), (Nat.le_of_ble_eq_true rfl)⟩) ⟨Wd.blind, va_recv hK hPc (ci := 4) (q0 := 0) rfl rfl, fun U hU hW => ⟨rfl, Wd.call hPc hDc hK hC hZ hS hFc U hU hW⟩⟩ rfl rfl hl.1 rfl (lv_room (Nat.le_of_ble_eq_true rfl)) dX0_judged_20 ⟨(Nat.le_of_ble_eq_true rfl), (Nat.le_of_ble_eq_true rfl)⟩) hS (fun q _ h => hFc q h) hFc (fun rn6 u t H1 locs ht hvm hw hB hz1 hk1 hS => ?_)
    obtain ⟨hP1, hD1⟩ := hB
    rw [ht] at hP1
    obtain ⟨hP, hD⟩ := PDq.join (w := [(oX3 p0 pr pb pe pg p1 (nI nd) p2 p3 p4 p5 (nI cn) p6 (nI pq) p7 p8 p9 (nI sc)), (p9, .inl (cA 0, 10, .inl fen)), (p7, .inl (cA 0, 350, .inl fst)), (p8, .inl (cA 0, 350, .inl fop)), (oX0 a0 p0 a1 a3 a4 a5 a6 i6 i7 i8 i9 i10 i11 i12 i13 i14 i15 i16 i17 i18 i19)]) 4 hP hD [0] [1, 2, 3, 4] rfl rfl (by decide) (by decide) hk1 hFc hP1 hD1 rfl
    generalize H1 = H at hP hS ⊢
    obtain rfl : rn6 = (i12 + i13) := hw
    refine lv_iload hx hb dX0_judged_23 (lv_at hl 0 rfl) ?_
    obtain ⟨hPc, hDc, hFc⟩ := PDq.cut (wc := [(oX3 p0 pr pb pe pg p1 (nI nd) p2 p3 p4 p5 (nI cn) p6 (nI pq) p7 p8 p9 (nI sc)), (p9, .inl (cA 0, 10, .inl fen)), (p7, .inl (cA 0, 350, .inl fst)), (p8, .inl (cA 0, 350, .inl fop))]) hP hD hS hA [0, 1, 2, 3] (by decide) rfl
    refine va_calli (va_runV (As := [.int (nI mi), .int d, .int a, .int b, .int (i12 + i13), .int 0]) (rest := []) ⟨hx, hb, hml, hown, hts⟩ (c_conditionHolds l D cA sa p0 p1 p2 p3 p4 p5 p6 p7 p8 p9 cn pq nd sc pr pb pe pg mi d a b (i12 + i13) 0 fen fst fop cf cq H.size hcn hpq hnd hsc hCE hCQ hEn hqs hmi9 (by decide)) (cwV 6 hts gX0_judged_X3_conditionHolds rfl rfl rfl (by decide +kernel) ⟨(Nat.le_of_ble_eq_true rfl), (Nat.le_of_ble_eq_true rfl)⟩) ⟨Wd.blind, va_recv hK hPc (ci := 7) (q0 := 0) rfl rfl, fun U hU hW => ⟨rfl, Wd.call hPc hDc hK hC hZ hS hFc U hU hW⟩⟩ rfl rfl hl.1 rfl (lv_room (Nat.le_of_ble_eq_true rfl)) dX0_judged_25 ⟨(Nat.le_of_ble_eq_true rfl), (Nat.le_of_ble_eq_true rfl)⟩) hS (fun q _ h => hFc q h) hFc (fun rn7 u t H1 locs ht hvm hw hB hz1 hk1 hS => ?_)
    obtain ⟨hP1, hD1⟩ := hB
    rw [ht] at hP1
    obtain ⟨hP, hD⟩ := PDq.join (w := [(oX0 a0 p0 a1 a3 a4 a5 a6 i6 i7 i8 i9 i10 i11 i12 i13 i14 i15 i16 i17 i18 i19), (oX3 p0 pr pb pe pg p1 (nI nd) p2 p3 p4 p5 (nI cn) p6 (nI pq) p7 p8 p9 (nI sc)), (p9, .inl (cA 0, 10, .inl fen)), (p7, .inl (cA 0, 350, .inl fst)), (p8, .inl (cA 0, 350, .inl fop))]) 1 hP hD [0, 1, 2, 3] [4] rfl rfl (by decide) (by decide) hk1 hFc hP1 hD1 rfl
    generalize H1 = H at hP hS ⊢
    rcases hw with ⟨hr9, hn8⟩ | ⟨hr9, hn8⟩
    · skip
      subst hr9
      obtain ⟨hP9, hD9⟩ := PDq.sub (ws' := [(oX0 a0 p0 a1 a3 a4 a5 a6 i6 i7 i8 i9 i10 i11 i12 i13 i14 i15 i16 i17 i18 i19), (oX3 p0 pr pb pe pg p1 (nI nd) p2 p3 p4 p5 (nI cn) p6 (nI pq) p7 p8 p9 (nI sc)), (p9, .inl (cA 0, 10, .inl fen)), (p7, .inl (cA 0, 350, .inl fst)), (p8, .inl (cA 0, 350, .inl fop))]) hP hD [0, 1, 2, 3, 4] (by decide) rfl
      refine W.widen (k := 0) (n := 0) (Nat.le_of_ble_eq_true rfl) (Nat.le_of_ble_eq_true rfl) ?_
      exact (W.zret (v := 1) hx hb hr (by first | rfl | decide) (fun t ht hW => ⟨⟨1, (), rfl, (Or.inl ⟨rfl, by rw [bI_f hn2]; exact hn8⟩), by rw [ht]; exact hP9, hD9⟩, hS.F ht⟩) hS.2.2 dX0_judged_28)
    · skip
      subst hr9
      obtain ⟨hP9, hD9⟩ := PDq.sub (ws' := [(oX0 a0 p0 a1 a3 a4 a5 a6 i6 i7 i8 i9 i10 i11 i12 i13 i14 i15 i16 i17 i18 i19), (oX3 p0 pr pb pe pg p1 (nI nd) p2 p3 p4 p5 (nI cn) p6 (nI pq) p7 p8 p9 (nI sc)), (p9, .inl (cA 0, 10, .inl fen)), (p7, .inl (cA 0, 350, .inl fst)), (p8, .inl (cA 0, 350, .inl fop))]) hP hD [0, 1, 2, 3, 4] (by decide) rfl
      refine W.widen (k := 0) (n := 0) (Nat.le_of_ble_eq_true rfl) (Nat.le_of_ble_eq_true rfl) ?_
      exact (W.zret (v := 0) hx hb hr (by first | rfl | decide) (fun t ht hW => ⟨⟨0, (), rfl, (Or.inr ⟨rfl, by rw [bI_f hn2]; exact hn8⟩), by rw [ht]; exact hP9, hD9⟩, hS.F ht⟩) hS.2.2 dX0_judged_28)

set_option maxHeartbeats 4000000 in
set_option maxRecDepth 100000 in
/-- the class, exactly: X0_holdsOn -/
theorem c_holdsOn (l : Launch) (D : va_G) (cA : Nat → ClassId) (sa : Nat → Nat) (a0 : Nat) (a1 : Nat) (a3 : Nat) (a4 : Nat) (a5 : Nat) (a6 : Nat) (p0 : Nat) (i6 : Int32) (i7 : Int32) (i8 : Int32) (i12 : Int32) (i13 : Int32) (i14 : Int32) (i15 : Int32) (i16 : Int32) (i17 : Int32) (i18 : Int32) (i19 : Int32) (i9 : Int64) (i10 : Int64) (i11 : Int64) (p1 : Nat) (p2 : Nat) (p3 : Nat) (p4 : Nat) (p5 : Nat) (p6 : Nat) (p7 : Nat) (p8 : Nat) (p9 : Nat) (cn : Nat) (pq : Nat) (nd : Nat) (sc : Nat) (pr : Int32) (pb : Int32) (pe : Int32) (pg : Int32) (mi : Nat) (fen : Nat → Int32) (fst : Nat → Int32) (fop : Nat → Int32) (cf : Nat → Int32) (cq : Nat → Nat) (d : Int32) (fs : Nat → Int32) (sz : Nat) (hcn : cn ≤ 10) (hpq : pq ≤ 8) (hnd : nd ≤ 6) (hsc : sc ≤ 350) (hCE : CE sc cf fst fop) (hCQ : CQ cn cf cq) (hEn : Ens cn cq fen) (hqs : cq cn ≤ sc) (hmi9 : mi < cn) : Met l yX0_holdsOn wsX0_holdsOn ({ frames := 3, cells := 0, slots := 0, locals := 76 }) (va_Pc [.ref a0, .int (nI mi), .int d] (Wd D cA sa [(oX0 a0 p0 a1 a3 a4 a5 a6 i6 i7 i8 i9 i10 i11 i12 i13 i14 i15 i16 i17 i18 i19), (oX3 p0 pr pb pe pg p1 (nI nd) p2 p3 p4 p5 (nI cn) p6 (nI pq) p7 p8 p9 (nI sc)), (p9, .inl (cA 0, 10, .inl fen)), (p7, .inl (cA 0, 350, .inl fst)), (p8, .inl (cA 0, 350, .inl fop)), (a3, .inl (cA 0, 10, .inl fs))] sz)) (va_Qi (fun (r : Int32) (_ : Unit) => (r = 1 ∧ (hdV (hdG (i12 + i13) (bI (decide (btC i19 (nI mi)))) d i18 (doC fs cn)) cf cq mi = true)) ∨ (r = 0 ∧ ¬ (hdV (hdG (i12 + i13) (bI (decide (btC i19 (nI mi)))) d i18 (doC fs cn)) cf cq mi = true))) (fun (_ : Unit) t => Wq D (va_A [(oX0 a0 p0 a1 a3 a4 a5 a6 i6 i7 i8 i9 i10 i11 i12 i13 i14 i15 i16 i17 i18 i19), (oX3 p0 pr pb pe pg p1 (nI nd) p2 p3 p4 p5 (nI cn) p6 (nI pq) p7 p8 p9 (nI sc)), (p9, .inl (cA 0, 10, .inl fen)), (p7, .inl (cA 0, 350, .inl fst)), (p8, .inl (cA 0, 350, .inl fop)), (a3, .inl (cA 0, 10, .inl fs))] sz) [(oX0 a0 p0 a1 a3 a4 a5 a6 i6 i7 i8 i9 i10 i11 i12 i13 i14 i15 i16 i17 i18 i19), (oX3 p0 pr pb pe pg p1 (nI nd) p2 p3 p4 p5 (nI cn) p6 (nI pq) p7 p8 p9 (nI sc)), (p9, .inl (cA 0, 10, .inl fen)), (p7, .inl (cA 0, 350, .inl fst)), (p8, .inl (cA 0, 350, .inl fop)), (a3, .inl (cA 0, 10, .inl fs))] t) (va_A [(oX0 a0 p0 a1 a3 a4 a5 a6 i6 i7 i8 i9 i10 i11 i12 i13 i14 i15 i16 i17 i18 i19), (oX3 p0 pr pb pe pg p1 (nI nd) p2 p3 p4 p5 (nI cn) p6 (nI pq) p7 p8 p9 (nI sc)), (p9, .inl (cA 0, 10, .inl fen)), (p7, .inl (cA 0, 350, .inl fst)), (p8, .inl (cA 0, 350, .inl fop)), (a3, .inl (cA 0, 10, .inl fs))] sz)) 0 0 (va_A [(oX0 a0 p0 a1 a3 a4 a5 a6 i6 i7 i8 i9 i10 i11 i12 i13 i14 i15 i16 i17 i18 i19), (oX3 p0 pr pb pe pg p1 (nI nd) p2 p3 p4 p5 (nI cn) p6 (nI pq) p7 p8 p9 (nI sc)), (p9, .inl (cA 0, 10, .inl fen)), (p7, .inl (cA 0, 350, .inl fst)), (p8, .inl (cA 0, 350, .inl fop)), (a3, .inl (cA 0, 10, .inl fs))] sz) := by
  refine Met.ofW (cc := cX0_holdsOn) (maxL := 3) (ret := (some .boolean)) (by decide) rfl ?_
  intro p e s m args below meth c s₁ B hml hv
  obtain ⟨rfl, hsz, hP, hK, hD0, hC, hZ⟩ := hv
  have hx := B.exec
  have hb := B.bytes
  have hr := B.returns
  have hts := atoms_spec (ws := wsX0_holdsOn) B.pre
  have hown : s.vm.findClass RX0 = some m.cls := findClass_of_methodNamed B.named
  have hlocks := B.notSynchronized
  subst hsz
  have hD := hD0.self (sz := s.heap.size)
  generalize hAe : va_A [(oX0 a0 p0 a1 a3 a4 a5 a6 i6 i7 i8 i9 i10 i11 i12 i13 i14 i15 i16 i17 i18 i19), (oX3 p0 pr pb pe pg p1 (nI nd) p2 p3 p4 p5 (nI cn) p6 (nI pq) p7 p8 p9 (nI sc)), (p9, .inl (cA 0, 10, .inl fen)), (p7, .inl (cA 0, 350, .inl fst)), (p8, .inl (cA 0, 350, .inl fop)), (a3, .inl (cA 0, 10, .inl fs))] s.heap.size = A at hD hZ ⊢
  have hA : ∀ q : Nat, s.heap.size ≤ q → A q := fun q h => by rw [← hAe]; exact Or.inr h
  have hS : va_S A s.heap s.heap [] := va_S.rf
  have hP : va_P D vwCl [(oX0 a0 p0 a1 a3 a4 a5 a6 i6 i7 i8 i9 i10 i11 i12 i13 i14 i15 i16 i17 i18 i19), (oX3 p0 pr pb pe pg p1 (nI nd) p2 p3 p4 p5 (nI cn) p6 (nI pq) p7 p8 p9 (nI sc)), (p9, .inl (cA 0, 10, .inl fen)), (p7, .inl (cA 0, 350, .inl fst)), (p8, .inl (cA 0, 350, .inl fop)), (a3, .inl (cA 0, 10, .inl fs))] s.heap := hP
  have hl := lv_entry ([.ref a0, .int (nI mi), .int d]) (n := 3) (Nat.le_of_ble_eq_true rfl)
  rw [lg_entry_eq]
  generalize (lg_sl ([.ref a0, .int (nI mi), .int d]) ++ List.replicate (3 - (lg_sl ([.ref a0, .int (nI mi), .int d])).length) Slot.unset).toArray = ls at hl ⊢
  have hl : lv_has ls 3 [(0, .ref a0), (1, .int (nI mi)), (2, .int d)] := hl
  have inX0 : ∀ w ∈ u_ws RX0 TX0 20, w ∈ wsX0_holdsOn := by decide +kernel
  refine lv_aload_n hx hb dX0_holdsOn_0 rfl (lv_at hl 0 rfl) ?_
  refine lv_iload_n hx hb dX0_holdsOn_1 rfl (lv_at hl 1 rfl) ?_
  refine lv_iload_n hx hb dX0_holdsOn_2 rfl (lv_at hl 2 rfl) ?_
  refine lv_aload_n hx hb dX0_holdsOn_3 rfl (lv_at hl 0 rfl) ?_
  refine va_get (D := D) (ci := 4) (v := .int i18) (C := RX0) (T := TX0) (N := 20) hx hb hts inX0 hown hK hP 0 rfl rfl 18 (by decide) (hts (.fieldLink RX0 83 "EscrowDesk$Account" "submittedSet" "I") (by decide +kernel)) (fun _ h9 => h9) rfl dX0_holdsOn_4 ?_
  refine lv_aload_n hx hb dX0_holdsOn_7 rfl (lv_at hl 0 rfl) ?_
  obtain ⟨hPc, hDc, hFc⟩ := PDq.cut (wc := [(oX0 a0 p0 a1 a3 a4 a5 a6 i6 i7 i8 i9 i10 i11 i12 i13 i14 i15 i16 i17 i18 i19), (oX3 p0 pr pb pe pg p1 (nI nd) p2 p3 p4 p5 (nI cn) p6 (nI pq) p7 p8 p9 (nI sc)), (a3, .inl (cA 0, 10, .inl fs))]) hP hD hS hA [0, 1, 5] (by decide) rfl
  refine va_calli (va_runV (As := []) (rest := [.int i18, .int d, .int (nI mi), .ref a0]) ⟨hx, hb, hml, hown, hts⟩ (c_doneSet l D cA sa a0 a1 a3 a4 a5 a6 p0 i6 i7 i8 i12 i13 i14 i15 i16 i17 i18 i19 i9 i10 i11 p1 p2 p3 p4 p5 p6 p7 p8 p9 cn pq nd sc pr pb pe pg fs s.heap.size hcn hpq hnd hsc) (cwV 0 hts gX0_holdsOn_X0_doneSet rfl rfl rfl (by decide +kernel) ⟨(Nat.le_of_ble_eq_true rfl), (Nat.le_of_ble_eq_true rfl)⟩) ⟨Wd.blind, va_recv hK hPc (ci := 4) (q0 := 0) rfl rfl, fun U hU hW => ⟨rfl, Wd.call hPc hDc hK hC hZ hS hFc U hU hW⟩⟩ rfl rfl hl.1 rfl (lv_room (Nat.le_of_ble_eq_true rfl)) dX0_holdsOn_8 ⟨(Nat.le_of_ble_eq_true rfl), (Nat.le_of_ble_eq_true rfl)⟩) hS (fun q _ h => hFc q h) hFc (fun rn1 u t H1 locs ht hvm hw hB hz1 hk1 hS => ?_)
  obtain ⟨hP1, hD1⟩ := hB
  rw [ht] at hP1
  obtain ⟨hP, hD⟩ := PDq.join (w := [(p9, .inl (cA 0, 10, .inl fen)), (p7, .inl (cA 0, 350, .inl fst)), (p8, .inl (cA 0, 350, .inl fop)), (oX0 a0 p0 a1 a3 a4 a5 a6 i6 i7 i8 i9 i10 i11 i12 i13 i14 i15 i16 i17 i18 i19), (oX3 p0 pr pb pe pg p1 (nI nd) p2 p3 p4 p5 (nI cn) p6 (nI pq) p7 p8 p9 (nI sc)), (a3, .inl (cA 0, 10, .inl fs))]) 3 hP hD [0, 1, 5] [2, 3, 4] rfl rfl (by decide) (by decide) hk1 hFc hP1 hD1 rfl
  generalize H1 = H at hP hS ⊢
  obtain rfl : rn1 = (doC fs cn) := hw
  obtain ⟨hPc, hDc, hFc⟩ := PDq.cut (wc := [(oX0 a0 p0 a1 a3 a4 a5 a6 i6 i7 i8 i9 i10 i11 i12 i13 i14 i15 i16 i17 i18 i19), (oX3 p0 pr pb pe pg p1 (nI nd) p2 p3 p4 p5 (nI cn) p6 (nI pq) p7 p8 p9 (nI sc)), (p9, .inl (cA 0, 10, .inl fen)), (p7, .inl (cA 0, 350, .inl fst)), (p8, .inl (cA 0, 350, .inl fop))]) hP hD hS hA [3, 4, 0, 1, 2] (by decide) rfl
  refine va_calli (va_runV (As := [.int (nI mi), .int d, .int i18, .int (doC fs cn)]) (rest := []) ⟨hx, hb, hml, hown, hts⟩ (c_judged l D cA sa a0 a1 a3 a4 a5 a6 p0 i6 i7 i8 i12 i13 i14 i15 i16 i17 i18 i19 i9 i10 i11 p1 p2 p3 p4 p5 p6 p7 p8 p9 cn pq nd sc pr pb pe pg mi fen fst fop cf cq d i18 (doC fs cn) H.size hcn hpq hnd hsc hCE hCQ hEn hqs hmi9) (cwV 4 hts gX0_holdsOn_X0_judged rfl rfl rfl (by decide +kernel) ⟨(Nat.le_of_ble_eq_true rfl), (Nat.le_of_ble_eq_true rfl)⟩) ⟨Wd.blind, va_recv hK hPc (ci := 4) (q0 := 0) rfl rfl, fun U hU hW => ⟨rfl, Wd.call hPc hDc hK hC hZ hS hFc U hU hW⟩⟩ rfl rfl hl.1 rfl (lv_room (Nat.le_of_ble_eq_true rfl)) dX0_holdsOn_11 ⟨(Nat.le_of_ble_eq_true rfl), (Nat.le_of_ble_eq_true rfl)⟩) hS (fun q _ h => hFc q h) hFc (fun rn2 u t H1 locs ht hvm hw hB hz1 hk1 hS => ?_)
  obtain ⟨hP1, hD1⟩ := hB
  rw [ht] at hP1
  obtain ⟨hP, hD⟩ := PDq.join (w := [(a3, .inl (cA 0, 10, .inl fs)), (oX0 a0 p0 a1 a3 a4 a5 a6 i6 i7 i8 i9 i10 i11 i12 i13 i14 i15 i16 i17 i18 i19), (oX3 p0 pr pb pe pg p1 (nI nd) p2 p3 p4 p5 (nI cn) p6 (nI pq) p7 p8 p9 (nI sc)), (p9, .inl (cA 0, 10, .inl fen)), (p7, .inl (cA 0, 350, .inl fst)), (p8, .inl (cA 0, 350, .inl fop))]) 1 hP hD [3, 4, 0, 1, 2] [5] rfl rfl (by decide) (by decide) hk1 hFc hP1 hD1 rfl
  generalize H1 = H at hP hS ⊢
  rcases hw with ⟨hr9, hn3⟩ | ⟨hr9, hn3⟩
  · skip
    subst hr9
    obtain ⟨hP9, hD9⟩ := PDq.sub (ws' := [(oX0 a0 p0 a1 a3 a4 a5 a6 i6 i7 i8 i9 i10 i11 i12 i13 i14 i15 i16 i17 i18 i19), (oX3 p0 pr pb pe pg p1 (nI nd) p2 p3 p4 p5 (nI cn) p6 (nI pq) p7 p8 p9 (nI sc)), (p9, .inl (cA 0, 10, .inl fen)), (p7, .inl (cA 0, 350, .inl fst)), (p8, .inl (cA 0, 350, .inl fop)), (a3, .inl (cA 0, 10, .inl fs))]) hP hD [1, 2, 3, 4, 5, 0] (by decide) rfl
    refine W.widen (k := 0) (n := 0) (Nat.le_of_ble_eq_true rfl) (Nat.le_of_ble_eq_true rfl) ?_
    exact (W.zret (v := 1) hx hb hr (by first | rfl | decide) (fun t ht hW => ⟨⟨1, (), rfl, (Or.inl ⟨rfl, hn3⟩), by rw [ht]; exact hP9, hD9⟩, hS.F ht⟩) hS.2.2 dX0_holdsOn_14)
  · skip
    subst hr9
    obtain ⟨hP9, hD9⟩ := PDq.sub (ws' := [(oX0 a0 p0 a1 a3 a4 a5 a6 i6 i7 i8 i9 i10 i11 i12 i13 i14 i15 i16 i17 i18 i19), (oX3 p0 pr pb pe pg p1 (nI nd) p2 p3 p4 p5 (nI cn) p6 (nI pq) p7 p8 p9 (nI sc)), (p9, .inl (cA 0, 10, .inl fen)), (p7, .inl (cA 0, 350, .inl fst)), (p8, .inl (cA 0, 350, .inl fop)), (a3, .inl (cA 0, 10, .inl fs))]) hP hD [1, 2, 3, 4, 5, 0] (by decide) rfl
    refine W.widen (k := 0) (n := 0) (Nat.le_of_ble_eq_true rfl) (Nat.le_of_ble_eq_true rfl) ?_
    exact (W.zret (v := 0) hx hb hr (by first | rfl | decide) (fun t ht hW => ⟨⟨0, (), rfl, (Or.inr ⟨rfl, hn3⟩), by rw [ht]; exact hP9, hD9⟩, hS.F ht⟩) hS.2.2 dX0_holdsOn_14)

set_option maxHeartbeats 4000000 in
set_option maxRecDepth 100000 in
/-- the class, exactly: X0_mustBePaid -/
theorem c_mustBePaid (l : Launch) (D : va_G) (cA : Nat → ClassId) (sa : Nat → Nat) (a0 : Nat) (a1 : Nat) (a3 : Nat) (a4 : Nat) (a5 : Nat) (a6 : Nat) (p0 : Nat) (i6 : Int32) (i7 : Int32) (i8 : Int32) (i12 : Int32) (i13 : Int32) (i14 : Int32) (i15 : Int32) (i16 : Int32) (i17 : Int32) (i18 : Int32) (i19 : Int32) (i9 : Int64) (i10 : Int64) (i11 : Int64) (mi : Nat) (fs : Nat → Int32) (fd : Nat → Int32) (sz : Nat) (hmi : mi < 10) : Met l yX0_mustBePaid wsX0_mustBePaid ({ frames := 1, cells := 0, slots := 0, locals := 21 }) (va_Pc [.ref a0, .int (nI mi)] (Wd D cA sa [(oX0 a0 p0 a1 a3 a4 a5 a6 i6 i7 i8 i9 i10 i11 i12 i13 i14 i15 i16 i17 i18 i19), (a3, .inl (cA 0, 10, .inl fs)), (a6, .inl (cA 0, 10, .inl fd))] sz)) (va_Qi (fun (r : Int32) (_ : Unit) => (r = 1 ∧ (fs mi = 1 ∧ fd mi + i17 ≤ i6)) ∨ (r = 0 ∧ ¬ (fs mi = 1 ∧ fd mi + i17 ≤ i6))) (fun (_ : Unit) t => Wq D (va_A [(oX0 a0 p0 a1 a3 a4 a5 a6 i6 i7 i8 i9 i10 i11 i12 i13 i14 i15 i16 i17 i18 i19), (a3, .inl (cA 0, 10, .inl fs)), (a6, .inl (cA 0, 10, .inl fd))] sz) [(oX0 a0 p0 a1 a3 a4 a5 a6 i6 i7 i8 i9 i10 i11 i12 i13 i14 i15 i16 i17 i18 i19), (a3, .inl (cA 0, 10, .inl fs)), (a6, .inl (cA 0, 10, .inl fd))] t) (va_A [(oX0 a0 p0 a1 a3 a4 a5 a6 i6 i7 i8 i9 i10 i11 i12 i13 i14 i15 i16 i17 i18 i19), (a3, .inl (cA 0, 10, .inl fs)), (a6, .inl (cA 0, 10, .inl fd))] sz)) 0 0 (va_A [(oX0 a0 p0 a1 a3 a4 a5 a6 i6 i7 i8 i9 i10 i11 i12 i13 i14 i15 i16 i17 i18 i19), (a3, .inl (cA 0, 10, .inl fs)), (a6, .inl (cA 0, 10, .inl fd))] sz) := by
  refine Met.ofW (cc := cX0_mustBePaid) (maxL := 2) (ret := (some .boolean)) (by decide) rfl ?_
  intro p e s m args below meth c s₁ B hml hv
  obtain ⟨rfl, hsz, hP, hK, hD0, hC, hZ⟩ := hv
  have hx := B.exec
  have hb := B.bytes
  have hr := B.returns
  have hts := atoms_spec (ws := wsX0_mustBePaid) B.pre
  have hown : s.vm.findClass RX0 = some m.cls := findClass_of_methodNamed B.named
  have hlocks := B.notSynchronized
  subst hsz
  have hD := hD0.self (sz := s.heap.size)
  generalize hAe : va_A [(oX0 a0 p0 a1 a3 a4 a5 a6 i6 i7 i8 i9 i10 i11 i12 i13 i14 i15 i16 i17 i18 i19), (a3, .inl (cA 0, 10, .inl fs)), (a6, .inl (cA 0, 10, .inl fd))] s.heap.size = A at hD hZ ⊢
  have hA : ∀ q : Nat, s.heap.size ≤ q → A q := fun q h => by rw [← hAe]; exact Or.inr h
  have hS : va_S A s.heap s.heap [] := va_S.rf
  have hP : va_P D vwCl [(oX0 a0 p0 a1 a3 a4 a5 a6 i6 i7 i8 i9 i10 i11 i12 i13 i14 i15 i16 i17 i18 i19), (a3, .inl (cA 0, 10, .inl fs)), (a6, .inl (cA 0, 10, .inl fd))] s.heap := hP
  have hl := lv_entry ([.ref a0, .int (nI mi)]) (n := 2) (Nat.le_of_ble_eq_true rfl)
  rw [lg_entry_eq]
  generalize (lg_sl ([.ref a0, .int (nI mi)]) ++ List.replicate (2 - (lg_sl ([.ref a0, .int (nI mi)])).length) Slot.unset).toArray = ls at hl ⊢
  have hl : lv_has ls 2 [(0, .ref a0), (1, .int (nI mi))] := hl
  have inX0 : ∀ w ∈ u_ws RX0 TX0 20, w ∈ wsX0_mustBePaid := by decide +kernel
  refine lv_aload_n hx hb dX0_mustBePaid_0 rfl (lv_at hl 0 rfl) ?_
  refine va_get (D := D) (ci := 4) (v := .ref a3) (C := RX0) (T := TX0) (N := 20) hx hb hts inX0 hown hK hP 0 rfl rfl 2 (by decide) (hts (.fieldLink RX0 18 "EscrowDesk$Account" "state" "[I") (by decide +kernel)) (fun _ h9 => h9) rfl dX0_mustBePaid_1 ?_
  refine lv_iload_n hx hb dX0_mustBePaid_4 rfl (lv_at hl 1 rfl) ?_
  refine va_iald hx hb hK hP 1 0 rfl rfl (vp_in_nI (n := mi) (N := 10) (show mi < 10 by omega) (by decide)) dX0_mustBePaid_5 ?_
  refine lv_topi (fun yn1 eyn1 => ?_)
  obtain rfl : yn1 = (fs mi) := eyn1.trans (by rw [nI_clamp (by omega)])
  refine lv_iconst (v := 1) hx hb dX0_mustBePaid_6 (by decide) ?_
  refine lv_icmp_ne (tgt := 26) hx hb dX0_mustBePaid_7 (by decide) (fun c2 => ?_) (fun c2 => ?_)
  · skip
    refine lv_iconst (v := 0) hx hb dX0_mustBePaid_26 (by decide) ?_
    obtain ⟨hP9, hD9⟩ := PDq.sub (ws' := [(oX0 a0 p0 a1 a3 a4 a5 a6 i6 i7 i8 i9 i10 i11 i12 i13 i14 i15 i16 i17 i18 i19), (a3, .inl (cA 0, 10, .inl fs)), (a6, .inl (cA 0, 10, .inl fd))]) hP hD [0, 1, 2] (by decide) rfl
    refine W.widen (k := 0) (n := 0) (Nat.le_of_ble_eq_true rfl) (Nat.le_of_ble_eq_true rfl) ?_
    exact (W.zret (v := 0) hx hb hr (by first | rfl | decide) (fun t ht hW => ⟨⟨0, (), rfl, (Or.inr ⟨rfl, (fun q9 => c2 q9.1)⟩), by rw [ht]; exact hP9, hD9⟩, hS.F ht⟩) hS.2.2 dX0_mustBePaid_27)
  · skip
    refine lv_aload_n hx hb dX0_mustBePaid_10 rfl (lv_at hl 0 rfl) ?_
    refine lv_iload_n hx hb dX0_mustBePaid_11 rfl (lv_at hl 1 rfl) ?_
    obtain ⟨hPc, hDc, hFc⟩ := PDq.cut (wc := [(oX0 a0 p0 a1 a3 a4 a5 a6 i6 i7 i8 i9 i10 i11 i12 i13 i14 i15 i16 i17 i18 i19), (a6, .inl (cA 0, 10, .inl fd))]) hP hD hS hA [0, 2] (by decide) rfl
    refine va_calli (va_runV (As := [.int (nI mi)]) (rest := []) ⟨hx, hb, hml, hown, hts⟩ (c_payDay l D cA sa a0 a1 a3 a4 a5 a6 p0 i6 i7 i8 i12 i13 i14 i15 i16 i17 i18 i19 i9 i10 i11 mi fd s.heap.size hmi) (cwV 1 hts gX0_mustBePaid_X0_payDay rfl rfl rfl (by decide +kernel) ⟨(Nat.le_of_ble_eq_true rfl), (Nat.le_of_ble_eq_true rfl)⟩) ⟨Wd.blind, va_recv hK hPc (ci := 4) (q0 := 0) rfl rfl, fun U hU hW => ⟨rfl, Wd.call hPc hDc hK hC hZ hS hFc U hU hW⟩⟩ rfl rfl hl.1 rfl (lv_room (Nat.le_of_ble_eq_true rfl)) dX0_mustBePaid_12 ⟨(Nat.le_of_ble_eq_true rfl), (Nat.le_of_ble_eq_true rfl)⟩) hS (fun q _ h => hFc q h) hFc (fun rn3 u t H1 locs ht hvm hw hB hz1 hk1 hS => ?_)
    obtain ⟨hP1, hD1⟩ := hB
    rw [ht] at hP1
    obtain ⟨hP, hD⟩ := PDq.join (w := [(a3, .inl (cA 0, 10, .inl fs)), (oX0 a0 p0 a1 a3 a4 a5 a6 i6 i7 i8 i9 i10 i11 i12 i13 i14 i15 i16 i17 i18 i19), (a6, .inl (cA 0, 10, .inl fd))]) 1 hP hD [0, 2] [1] rfl rfl (by decide) (by decide) hk1 hFc hP1 hD1 rfl
    generalize H1 = H at hP hS ⊢
    obtain rfl : rn3 = (fd mi + i17) := hw
    refine lv_aload_n hx hb dX0_mustBePaid_15 rfl (lv_at hl 0 rfl) ?_
    refine va_get (D := D) (ci := 4) (v := .int i6) (C := RX0) (T := TX0) (N := 20) hx hb hts inX0 hown hK hP 1 rfl rfl 6 (by decide) (hts (.fieldLink RX0 40 "EscrowDesk$Account" "day" "I") (by decide +kernel)) (fun _ h9 => h9) rfl dX0_mustBePaid_16 ?_
    refine lv_icmp_gt (tgt := 26) hx hb dX0_mustBePaid_19 (by decide) (fun c4 => ?_) (fun c4 => ?_)
    · skip
      refine lv_iconst (v := 0) hx hb dX0_mustBePaid_26 (by decide) ?_
      obtain ⟨hP9, hD9⟩ := PDq.sub (ws' := [(oX0 a0 p0 a1 a3 a4 a5 a6 i6 i7 i8 i9 i10 i11 i12 i13 i14 i15 i16 i17 i18 i19), (a3, .inl (cA 0, 10, .inl fs)), (a6, .inl (cA 0, 10, .inl fd))]) hP hD [1, 0, 2] (by decide) rfl
      refine W.widen (k := 0) (n := 0) (Nat.le_of_ble_eq_true rfl) (Nat.le_of_ble_eq_true rfl) ?_
      exact (W.zret (v := 0) hx hb hr (by first | rfl | decide) (fun t ht hW => ⟨⟨0, (), rfl, (Or.inr ⟨rfl, (fun q9 => absurd q9.2 (Int32.not_le.mpr c4))⟩), by rw [ht]; exact hP9, hD9⟩, hS.F ht⟩) hS.2.2 dX0_mustBePaid_27)
    · skip
      refine lv_iconst (v := 1) hx hb dX0_mustBePaid_22 (by decide) ?_
      refine lv_goto (tgt := 27) hx hb dX0_mustBePaid_23 (by decide) ?_
      obtain ⟨hP9, hD9⟩ := PDq.sub (ws' := [(oX0 a0 p0 a1 a3 a4 a5 a6 i6 i7 i8 i9 i10 i11 i12 i13 i14 i15 i16 i17 i18 i19), (a3, .inl (cA 0, 10, .inl fs)), (a6, .inl (cA 0, 10, .inl fd))]) hP hD [1, 0, 2] (by decide) rfl
      refine W.widen (k := 0) (n := 0) (Nat.le_of_ble_eq_true rfl) (Nat.le_of_ble_eq_true rfl) ?_
      exact (W.zret (v := 1) hx hb hr (by first | rfl | decide) (fun t ht hW => ⟨⟨1, (), rfl, (Or.inl ⟨rfl, ⟨c2, Int32.not_lt.mp c4⟩⟩), by rw [ht]; exact hP9, hD9⟩, hS.F ht⟩) hS.2.2 dX0_mustBePaid_27)

set_option maxHeartbeats 4000000 in
set_option maxRecDepth 100000 in
/-- the class, exactly: X0_moneyToSplit -/
theorem c_moneyToSplit (l : Launch) (D : va_G) (cA : Nat → ClassId) (sa : Nat → Nat) (a0 : Nat) (a1 : Nat) (a3 : Nat) (a4 : Nat) (a5 : Nat) (a6 : Nat) (p0 : Nat) (i6 : Int32) (i7 : Int32) (i8 : Int32) (i12 : Int32) (i13 : Int32) (i14 : Int32) (i15 : Int32) (i16 : Int32) (i17 : Int32) (i18 : Int32) (i19 : Int32) (i9 : Int64) (i10 : Int64) (i11 : Int64) (p1 : Nat) (p2 : Nat) (p3 : Nat) (p4 : Nat) (p5 : Nat) (p6 : Nat) (p7 : Nat) (p8 : Nat) (p9 : Nat) (cn : Nat) (pq : Nat) (nd : Nat) (sc : Nat) (pr : Int32) (pb : Int32) (pe : Int32) (pg : Int32) (mi : Nat) (fs : Nat → Int32) (fp : Nat → Int32) (ff : Nat → Int32) (fam : Nat → Int32) (sz : Nat) (hcn : cn ≤ 10) (hpq : pq ≤ 8) (hnd : nd ≤ 6) (hsc : sc ≤ 350) (hmi : mi < 10) : Met l yX0_moneyToSplit wsX0_moneyToSplit ({ frames := 2, cells := 0, slots := 0, locals := 42 }) (va_Pc [.ref a0, .int (nI mi)] (Wd D cA sa [(oX0 a0 p0 a1 a3 a4 a5 a6 i6 i7 i8 i9 i10 i11 i12 i13 i14 i15 i16 i17 i18 i19), (oX3 p0 pr pb pe pg p1 (nI nd) p2 p3 p4 p5 (nI cn) p6 (nI pq) p7 p8 p9 (nI sc)), (a3, .inl (cA 0, 10, .inl fs)), (a4, .inl (cA 0, 10, .inl fp)), (p3, .inl (cA 0, 10, .inl fam)), (a5, .inl (cA 0, 10, .inl ff))] sz)) (va_Qi (fun (r : Int32) (_ : Unit) => r = minI (rmC fs fp fam mi) (avC i8 ff cn + ff mi)) (fun (_ : Unit) t => Wq D (va_A [(oX0 a0 p0 a1 a3 a4 a5 a6 i6 i7 i8 i9 i10 i11 i12 i13 i14 i15 i16 i17 i18 i19), (oX3 p0 pr pb pe pg p1 (nI nd) p2 p3 p4 p5 (nI cn) p6 (nI pq) p7 p8 p9 (nI sc)), (a3, .inl (cA 0, 10, .inl fs)), (a4, .inl (cA 0, 10, .inl fp)), (p3, .inl (cA 0, 10, .inl fam)), (a5, .inl (cA 0, 10, .inl ff))] sz) [(oX0 a0 p0 a1 a3 a4 a5 a6 i6 i7 i8 i9 i10 i11 i12 i13 i14 i15 i16 i17 i18 i19), (oX3 p0 pr pb pe pg p1 (nI nd) p2 p3 p4 p5 (nI cn) p6 (nI pq) p7 p8 p9 (nI sc)), (a3, .inl (cA 0, 10, .inl fs)), (a4, .inl (cA 0, 10, .inl fp)), (p3, .inl (cA 0, 10, .inl fam)), (a5, .inl (cA 0, 10, .inl ff))] t) (va_A [(oX0 a0 p0 a1 a3 a4 a5 a6 i6 i7 i8 i9 i10 i11 i12 i13 i14 i15 i16 i17 i18 i19), (oX3 p0 pr pb pe pg p1 (nI nd) p2 p3 p4 p5 (nI cn) p6 (nI pq) p7 p8 p9 (nI sc)), (a3, .inl (cA 0, 10, .inl fs)), (a4, .inl (cA 0, 10, .inl fp)), (p3, .inl (cA 0, 10, .inl fam)), (a5, .inl (cA 0, 10, .inl ff))] sz)) 0 0 (va_A [(oX0 a0 p0 a1 a3 a4 a5 a6 i6 i7 i8 i9 i10 i11 i12 i13 i14 i15 i16 i17 i18 i19), (oX3 p0 pr pb pe pg p1 (nI nd) p2 p3 p4 p5 (nI cn) p6 (nI pq) p7 p8 p9 (nI sc)), (a3, .inl (cA 0, 10, .inl fs)), (a4, .inl (cA 0, 10, .inl fp)), (p3, .inl (cA 0, 10, .inl fam)), (a5, .inl (cA 0, 10, .inl ff))] sz) := by
  refine Met.ofW (cc := cX0_moneyToSplit) (maxL := 2) (ret := (some .int)) (by decide) rfl ?_
  intro p e s m args below meth c s₁ B hml hv
  obtain ⟨rfl, hsz, hP, hK, hD0, hC, hZ⟩ := hv
  have hx := B.exec
  have hb := B.bytes
  have hr := B.returns
  have hts := atoms_spec (ws := wsX0_moneyToSplit) B.pre
  have hown : s.vm.findClass RX0 = some m.cls := findClass_of_methodNamed B.named
  have hlocks := B.notSynchronized
  subst hsz
  have hD := hD0.self (sz := s.heap.size)
  generalize hAe : va_A [(oX0 a0 p0 a1 a3 a4 a5 a6 i6 i7 i8 i9 i10 i11 i12 i13 i14 i15 i16 i17 i18 i19), (oX3 p0 pr pb pe pg p1 (nI nd) p2 p3 p4 p5 (nI cn) p6 (nI pq) p7 p8 p9 (nI sc)), (a3, .inl (cA 0, 10, .inl fs)), (a4, .inl (cA 0, 10, .inl fp)), (p3, .inl (cA 0, 10, .inl fam)), (a5, .inl (cA 0, 10, .inl ff))] s.heap.size = A at hD hZ ⊢
  have hA : ∀ q : Nat, s.heap.size ≤ q → A q := fun q h => by rw [← hAe]; exact Or.inr h
  have hS : va_S A s.heap s.heap [] := va_S.rf
  have hP : va_P D vwCl [(oX0 a0 p0 a1 a3 a4 a5 a6 i6 i7 i8 i9 i10 i11 i12 i13 i14 i15 i16 i17 i18 i19), (oX3 p0 pr pb pe pg p1 (nI nd) p2 p3 p4 p5 (nI cn) p6 (nI pq) p7 p8 p9 (nI sc)), (a3, .inl (cA 0, 10, .inl fs)), (a4, .inl (cA 0, 10, .inl fp)), (p3, .inl (cA 0, 10, .inl fam)), (a5, .inl (cA 0, 10, .inl ff))] s.heap := hP
  have hl := lv_entry ([.ref a0, .int (nI mi)]) (n := 2) (Nat.le_of_ble_eq_true rfl)
  rw [lg_entry_eq]
  generalize (lg_sl ([.ref a0, .int (nI mi)]) ++ List.replicate (2 - (lg_sl ([.ref a0, .int (nI mi)])).length) Slot.unset).toArray = ls at hl ⊢
  have hl : lv_has ls 2 [(0, .ref a0), (1, .int (nI mi))] := hl
  have inX0 : ∀ w ∈ u_ws RX0 TX0 20, w ∈ wsX0_moneyToSplit := by decide +kernel
  refine lv_aload_n hx hb dX0_moneyToSplit_0 rfl (lv_at hl 0 rfl) ?_
  refine lv_iload_n hx hb dX0_moneyToSplit_1 rfl (lv_at hl 1 rfl) ?_
  obtain ⟨hPc, hDc, hFc⟩ := PDq.cut (wc := [(oX0 a0 p0 a1 a3 a4 a5 a6 i6 i7 i8 i9 i10 i11 i12 i13 i14 i15 i16 i17 i18 i19), (oX3 p0 pr pb pe pg p1 (nI nd) p2 p3 p4 p5 (nI cn) p6 (nI pq) p7 p8 p9 (nI sc)), (a3, .inl (cA 0, 10, .inl fs)), (a4, .inl (cA 0, 10, .inl fp)), (p3, .inl (cA 0, 10, .inl fam))]) hP hD hS hA [0, 1, 2, 3, 4] (by decide) rfl
  refine va_calli (va_runV (As := [.int (nI mi)]) (rest := []) ⟨hx, hb, hml, hown, hts⟩ (c_remainingOf l D cA sa a0 a1 a3 a4 a5 a6 p0 i6 i7 i8 i12 i13 i14 i15 i16 i17 i18 i19 i9 i10 i11 p1 p2 p3 p4 p5 p6 p7 p8 p9 cn pq nd sc pr pb pe pg mi fs fp fam s.heap.size hmi) (cwV 1 hts gX0_moneyToSplit_X0_remainingOf rfl rfl rfl (by decide +kernel) ⟨(Nat.le_of_ble_eq_true rfl), (Nat.le_of_ble_eq_true rfl)⟩) ⟨Wd.blind, va_recv hK hPc (ci := 4) (q0 := 0) rfl rfl, fun U hU hW => ⟨rfl, Wd.call hPc hDc hK hC hZ hS hFc U hU hW⟩⟩ rfl rfl hl.1 rfl (lv_room (Nat.le_of_ble_eq_true rfl)) dX0_moneyToSplit_2 ⟨(Nat.le_of_ble_eq_true rfl), (Nat.le_of_ble_eq_true rfl)⟩) hS (fun q _ h => hFc q h) hFc (fun rn1 u t H1 locs ht hvm hw hB hz1 hk1 hS => ?_)
  obtain ⟨hP1, hD1⟩ := hB
  rw [ht] at hP1
  obtain ⟨hP, hD⟩ := PDq.join (w := [(a5, .inl (cA 0, 10, .inl ff)), (oX0 a0 p0 a1 a3 a4 a5 a6 i6 i7 i8 i9 i10 i11 i12 i13 i14 i15 i16 i17 i18 i19), (oX3 p0 pr pb pe pg p1 (nI nd) p2 p3 p4 p5 (nI cn) p6 (nI pq) p7 p8 p9 (nI sc)), (a3, .inl (cA 0, 10, .inl fs)), (a4, .inl (cA 0, 10, .inl fp)), (p3, .inl (cA 0, 10, .inl fam))]) 1 hP hD [0, 1, 2, 3, 4] [5] rfl rfl (by decide) (by decide) hk1 hFc hP1 hD1 rfl
  generalize H1 = H at hP hS ⊢
  obtain rfl : rn1 = (rmC fs fp fam mi) := hw
  refine lv_aload_n hx hb dX0_moneyToSplit_5 rfl (lv_at hl 0 rfl) ?_
  obtain ⟨hPc, hDc, hFc⟩ := PDq.cut (wc := [(oX0 a0 p0 a1 a3 a4 a5 a6 i6 i7 i8 i9 i10 i11 i12 i13 i14 i15 i16 i17 i18 i19), (oX3 p0 pr pb pe pg p1 (nI nd) p2 p3 p4 p5 (nI cn) p6 (nI pq) p7 p8 p9 (nI sc)), (a5, .inl (cA 0, 10, .inl ff))]) hP hD hS hA [1, 2, 0] (by decide) rfl
  refine va_calli (va_runV (As := []) (rest := [.int (rmC fs fp fam mi)]) ⟨hx, hb, hml, hown, hts⟩ (c_availMoney l D cA sa a0 a1 a3 a4 a5 a6 p0 i6 i7 i8 i12 i13 i14 i15 i16 i17 i18 i19 i9 i10 i11 p1 p2 p3 p4 p5 p6 p7 p8 p9 cn pq nd sc pr pb pe pg ff H.size hcn hpq hnd hsc) (cwV 0 hts gX0_moneyToSplit_X0_availableMoney rfl rfl rfl (by decide +kernel) ⟨(Nat.le_of_ble_eq_true rfl), (Nat.le_of_ble_eq_true rfl)⟩) ⟨Wd.blind, va_recv hK hPc (ci := 4) (q0 := 0) rfl rfl, fun U hU hW => ⟨rfl, Wd.call hPc hDc hK hC hZ hS hFc U hU hW⟩⟩ rfl rfl hl.1 rfl (lv_room (Nat.le_of_ble_eq_true rfl)) dX0_moneyToSplit_6 ⟨(Nat.le_of_ble_eq_true rfl), (Nat.le_of_ble_eq_true rfl)⟩) hS (fun q _ h => hFc q h) hFc (fun rn2 u t H1 locs ht hvm hw hB hz1 hk1 hS => ?_)
  obtain ⟨hP1, hD1⟩ := hB
  rw [ht] at hP1
  obtain ⟨hP, hD⟩ := PDq.join (w := [(a3, .inl (cA 0, 10, .inl fs)), (a4, .inl (cA 0, 10, .inl fp)), (p3, .inl (cA 0, 10, .inl fam)), (oX0 a0 p0 a1 a3 a4 a5 a6 i6 i7 i8 i9 i10 i11 i12 i13 i14 i15 i16 i17 i18 i19), (oX3 p0 pr pb pe pg p1 (nI nd) p2 p3 p4 p5 (nI cn) p6 (nI pq) p7 p8 p9 (nI sc)), (a5, .inl (cA 0, 10, .inl ff))]) 3 hP hD [1, 2, 0] [3, 4, 5] rfl rfl (by decide) (by decide) hk1 hFc hP1 hD1 rfl
  generalize H1 = H at hP hS ⊢
  obtain rfl : rn2 = (avC i8 ff cn) := hw
  refine lv_aload_n hx hb dX0_moneyToSplit_9 rfl (lv_at hl 0 rfl) ?_
  refine va_get (D := D) (ci := 4) (v := .ref a5) (C := RX0) (T := TX0) (N := 20) hx hb hts inX0 hown hK hP 3 rfl rfl 4 (by decide) (hts (.fieldLink RX0 25 "EscrowDesk$Account" "frozen" "[I") (by decide +kernel)) (fun _ h9 => h9) rfl dX0_moneyToSplit_10 ?_
  refine lv_iload_n hx hb dX0_moneyToSplit_13 rfl (lv_at hl 1 rfl) ?_
  refine va_iald hx hb hK hP 5 0 rfl rfl (vp_in_nI (n := mi) (N := 10) (show mi < 10 by omega) (by decide)) dX0_moneyToSplit_14 ?_
  refine lv_topi (fun yn3 eyn3 => ?_)
  obtain rfl : yn3 = (ff mi) := eyn3.trans (by rw [nI_clamp (by omega)])
  refine lv_iadd hx hb dX0_moneyToSplit_15 ?_
  refine lv_topi (fun yn4 eyn4 => ?_)
  obtain rfl : yn4 = ((avC i8 ff cn) + (ff mi)) := eyn4
  refine va_mmin hx hb (by rw [hml]; exact hl.1.symm) hown (hts (.methodLink RX0 161 Lib.Math.min.name) (by decide +kernel)) (hts (.static Lib.Math.min.name) (by decide +kernel)) (hts (.initialized "java/lang/Math") (by decide +kernel)) (hts (.code Lib.Math.min.name Lib.Math.min.code 2 (some .int)) (by decide +kernel)) (Nat.le_of_ble_eq_true rfl) (Nat.le_of_ble_eq_true rfl) (Nat.le_of_ble_eq_true rfl) (Nat.le_of_ble_eq_true rfl) dX0_moneyToSplit_16 ?_
  refine lv_topi (fun yn5 eyn5 => ?_)
  obtain rfl : yn5 = (minI (rmC fs fp fam mi) ((avC i8 ff cn) + (ff mi))) := eyn5
  obtain ⟨hP9, hD9⟩ := PDq.sub (ws' := [(oX0 a0 p0 a1 a3 a4 a5 a6 i6 i7 i8 i9 i10 i11 i12 i13 i14 i15 i16 i17 i18 i19), (oX3 p0 pr pb pe pg p1 (nI nd) p2 p3 p4 p5 (nI cn) p6 (nI pq) p7 p8 p9 (nI sc)), (a3, .inl (cA 0, 10, .inl fs)), (a4, .inl (cA 0, 10, .inl fp)), (p3, .inl (cA 0, 10, .inl fam)), (a5, .inl (cA 0, 10, .inl ff))]) hP hD [3, 4, 0, 1, 2, 5] (by decide) rfl
  refine W.widen (k := 0) (n := 0) (Nat.le_of_ble_eq_true rfl) (Nat.le_of_ble_eq_true rfl) ?_
  exact (W.iret (v := (minI (rmC fs fp fam mi) ((avC i8 ff cn) + (ff mi)))) hx hb hr (fun t ht hW => ⟨⟨(minI (rmC fs fp fam mi) ((avC i8 ff cn) + (ff mi))), (), rfl, rfl, by rw [ht]; exact hP9, hD9⟩, hS.F ht⟩) hS.2.2 dX0_moneyToSplit_19)

set_option maxHeartbeats 4000000 in
set_option maxRecDepth 100000 in
/-- the class, exactly: X0_partOf -/
theorem c_partOf (l : Launch) (D : va_G) (cA : Nat → ClassId) (sa : Nat → Nat) (a : Int32) (b : Int32) (sz : Nat) : Met l yX0_partOf wsX0_partOf ({ frames := 0, cells := 0, slots := 0, locals := 0 }) (va_Pc [.int a, .int b] (Wd D cA sa [] sz)) (va_Qi (fun (r : Int32) (_ : Unit) => r = a * b / 1000) (fun (_ : Unit) t => Wq D (va_A [] sz) [] t) (va_A [] sz)) 0 0 (va_A [] sz) := by
  refine Met.ofW (cc := cX0_partOf) (maxL := 2) (ret := (some .int)) (by decide) rfl ?_
  intro p e s m args below meth c s₁ B hml hv
  obtain ⟨rfl, hsz, hP, hK, hD0, hC, hZ⟩ := hv
  have hx := B.exec
  have hb := B.bytes
  have hr := B.returns
  have hts := atoms_spec (ws := wsX0_partOf) B.pre
  have hown : s.vm.findClass RX0 = some m.cls := findClass_of_methodNamed B.named
  have hlocks := B.notSynchronized
  subst hsz
  have hD := hD0.self (sz := s.heap.size)
  generalize hAe : va_A [] s.heap.size = A at hD hZ ⊢
  have hA : ∀ q : Nat, s.heap.size ≤ q → A q := fun q h => by rw [← hAe]; exact Or.inr h
  have hS : va_S A s.heap s.heap [] := va_S.rf
  have hP : va_P D vwCl [] s.heap := hP
  have hl := lv_entry ([.int a, .int b]) (n := 2) (Nat.le_of_ble_eq_true rfl)
  rw [lg_entry_eq]
  generalize (lg_sl ([.int a, .int b]) ++ List.replicate (2 - (lg_sl ([.int a, .int b])).length) Slot.unset).toArray = ls at hl ⊢
  have hl : lv_has ls 2 [(0, .int a), (1, .int b)] := hl
  refine lv_iload_n hx hb dX0_partOf_0 rfl (lv_at hl 0 rfl) ?_
  refine lv_iload_n hx hb dX0_partOf_1 rfl (lv_at hl 1 rfl) ?_
  refine lv_imul hx hb dX0_partOf_2 ?_
  refine lv_topi (fun yn1 eyn1 => ?_)
  obtain rfl : yn1 = (a * b) := eyn1
  refine lv_sipush (v := 1000) hx hb dX0_partOf_3 (by decide) ?_
  refine lv_idiv hx hb dX0_partOf_6 (by decide) ?_
  refine lv_topi (fun yn2 eyn2 => ?_)
  obtain rfl : yn2 = ((a * b) / 1000) := eyn2
  obtain ⟨hP9, hD9⟩ := PDq.sub (ws' := []) hP hD [] (by decide) rfl
  refine W.widen (k := 0) (n := 0) (Nat.le_of_ble_eq_true rfl) (Nat.le_of_ble_eq_true rfl) ?_
  exact (W.iret (v := ((a * b) / 1000)) hx hb hr (fun t ht hW => ⟨⟨((a * b) / 1000), (), rfl, rfl, by rw [ht]; exact hP9, hD9⟩, hS.F ht⟩) hS.2.2 dX0_partOf_7)

set_option maxHeartbeats 4000000 in
set_option maxRecDepth 100000 in
/-- the class, exactly: X2_enter -/
theorem c_enter (l : Launch) (D : va_G) (cA : Nat → ClassId) (sa : Nat → Nat) (g0 : Nat) (g1 : Nat) (nx : Nat) (kp : Nat) (k : Int32) (d : Int32) (a : Int32) (j : Int32) (fr : Nat → Int32) (sz : Nat) (hnx : nx < 60) (hkp : kp ≤ 60) : Met l yX2_enter wsX2_enter ({ frames := 1, cells := 0, slots := 0, locals := 21 }) (va_Pc [.ref g0, .int k, .int d, .int a, .int j] (Wd D cA sa [(g0, .inr (6, [.ref g1, .int (nI nx), .int (nI kp)])), (g1, .inl (cA 0, 240, .inl fr))] sz)) (va_Qv (fun _ : Unit => True) (fun (_ : Unit) t => ∃ ny : Nat, ∃ ky : Nat, ∃ fz : Nat → Int32, ny < 60 ∧ ky ≤ 60 ∧ ky = entC kp a ∧ Wq D (va_A [(g0, .inr (6, [.ref g1, .int (nI nx), .int (nI kp)])), (g1, .inl (cA 0, 240, .inl fr))] sz) [(g0, .inr (6, [.ref g1, .int (nI ny), .int (nI ky)])), (g1, .inl (cA 0, 240, .inl fz))] t) (va_A [(g0, .inr (6, [.ref g1, .int (nI nx), .int (nI kp)])), (g1, .inl (cA 0, 240, .inl fr))] sz)) 0 0 (va_A [(g0, .inr (6, [.ref g1, .int (nI nx), .int (nI kp)])), (g1, .inl (cA 0, 240, .inl fr))] sz) := by
  refine Met.ofW (cc := cX2_enter) (maxL := 6) (ret := none) (by decide) rfl ?_
  intro p e s m args below meth c s₁ B hml hv
  obtain ⟨rfl, hsz, hP, hK, hD0, hC, hZ⟩ := hv
  have hx := B.exec
  have hb := B.bytes
  have hr := B.returns
  have hts := atoms_spec (ws := wsX2_enter) B.pre
  have hown : s.vm.findClass RX2 = some m.cls := findClass_of_methodNamed B.named
  have hlocks := B.notSynchronized
  subst hsz
  have hD := hD0.self (sz := s.heap.size)
  generalize hAe : va_A [(g0, .inr (6, [.ref g1, .int (nI nx), .int (nI kp)])), (g1, .inl (cA 0, 240, .inl fr))] s.heap.size = A at hD hZ ⊢
  have hA : ∀ q : Nat, s.heap.size ≤ q → A q := fun q h => by rw [← hAe]; exact Or.inr h
  have hS : va_S A s.heap s.heap [] := va_S.rf
  have hP : va_P D vwCl [(g0, .inr (6, [.ref g1, .int (nI nx), .int (nI kp)])), (g1, .inl (cA 0, 240, .inl fr))] s.heap := hP
  have hl := lv_entry ([.ref g0, .int k, .int d, .int a, .int j]) (n := 6) (Nat.le_of_ble_eq_true rfl)
  rw [lg_entry_eq]
  generalize (lg_sl ([.ref g0, .int k, .int d, .int a, .int j]) ++ List.replicate (6 - (lg_sl ([.ref g0, .int k, .int d, .int a, .int j])).length) Slot.unset).toArray = ls at hl ⊢
  have hl : lv_has ls 6 [(0, .ref g0), (1, .int k), (2, .int d), (3, .int a), (4, .int j)] := hl
  have inX2 : ∀ w ∈ u_ws RX2 TX2 3, w ∈ wsX2_enter := by decide +kernel
  refine lv_iload_n hx hb dX2_enter_0 rfl (lv_at hl 3 rfl) ?_
  refine lv_if_gt (tgt := 5) hx hb dX2_enter_1 (by decide) (fun c1 => ?_) (fun c1 => ?_)
  · skip
    refine lv_aload_n hx hb dX2_enter_5 rfl (lv_at hl 0 rfl) ?_
    refine va_get (D := D) (ci := 6) (v := .int (nI nx)) (C := RX2) (T := TX2) (N := 3) hx hb hts inX2 hown hK hP 0 rfl rfl 1 (by decide) (hts (.fieldLink RX2 15 "EscrowDesk$Ledger" "next" "I") (by decide +kernel)) (fun _ h9 => h9) rfl dX2_enter_6 ?_
    refine lv_iconst (v := 4) hx hb dX2_enter_9 (by decide) ?_
    refine lv_imul hx hb dX2_enter_10 ?_
    refine lv_topi (fun yn2 eyn2 => ?_)
    obtain rfl : yn2 = (nI (nx * 4)) := eyn2.trans (nI_mul nx 4)
    refine lv_istore (lv' := [(5, .int (nI (nx * 4))), (0, .ref g0), (1, .int k), (2, .int d), (3, .int a), (4, .int j)]) hx hb dX2_enter_11 hl (by decide) rfl (fun ls hl => ?_)
    refine lv_aload_n hx hb dX2_enter_13 rfl (lv_at hl 1 rfl) ?_
    refine va_get (D := D) (ci := 6) (v := .ref g1) (C := RX2) (T := TX2) (N := 3) hx hb hts inX2 hown hK hP 0 rfl rfl 0 (by decide) (hts (.fieldLink RX2 11 "EscrowDesk$Ledger" "ring" "[I") (by decide +kernel)) (fun _ h9 => h9) rfl dX2_enter_14 ?_
    refine lv_iload hx hb dX2_enter_17 (lv_at hl 0 rfl) ?_
    refine lv_iconst (v := 0) hx hb dX2_enter_19 (by decide) ?_
    refine lv_iadd hx hb dX2_enter_20 ?_
    refine lv_topi (fun yn3 eyn3 => ?_)
    obtain rfl : yn3 = (nI ((nx * 4) + 0)) := eyn3.trans (nI_add (nx * 4) 0)
    refine lv_iload_n hx hb dX2_enter_21 rfl (lv_at hl 2 rfl) ?_
    refine va_iast hx hb hK hP hD hS 1 0 rfl rfl (vp_in_nI (n := ((nx * 4) + 0)) (N := 240) (show ((nx * 4) + 0) < 240 by omega) (by decide)) dX2_enter_22 (fun H locs hP hD hS => ?_)
    obtain ⟨hP, hD⟩ : PDq D A [(g0, .inr (6, [.ref g1, .int (nI nx), .int (nI kp)])), (g1, .inl (cA 0, 240, .inl (upd fr (((nI ((nx * 4) + 0))).toNatClampNeg) k)))] H := ⟨hP, hD⟩
    generalize (upd fr (((nI ((nx * 4) + 0))).toNatClampNeg) k) = fn4 at hP hD
    obtain ⟨hP, hD⟩ : PDq D A [(g0, .inr (6, [.ref g1, .int (nI nx), .int (nI kp)])), (g1, .inl (cA 0, 240, .inl fn4))] H := ⟨hP, hD⟩
    refine lv_aload_n hx hb dX2_enter_23 rfl (lv_at hl 1 rfl) ?_
    refine va_get (D := D) (ci := 6) (v := .ref g1) (C := RX2) (T := TX2) (N := 3) hx hb hts inX2 hown hK hP 0 rfl rfl 0 (by decide) (hts (.fieldLink RX2 11 "EscrowDesk$Ledger" "ring" "[I") (by decide +kernel)) (fun _ h9 => h9) rfl dX2_enter_24 ?_
    refine lv_iload hx hb dX2_enter_27 (lv_at hl 0 rfl) ?_
    refine lv_iconst (v := 1) hx hb dX2_enter_29 (by decide) ?_
    refine lv_iadd hx hb dX2_enter_30 ?_
    refine lv_topi (fun yn5 eyn5 => ?_)
    obtain rfl : yn5 = (nI ((nx * 4) + 1)) := eyn5.trans (nI_add (nx * 4) 1)
    refine lv_iload_n hx hb dX2_enter_31 rfl (lv_at hl 3 rfl) ?_
    refine va_iast hx hb hK hP hD hS 1 0 rfl rfl (vp_in_nI (n := ((nx * 4) + 1)) (N := 240) (show ((nx * 4) + 1) < 240 by omega) (by decide)) dX2_enter_32 (fun H locs hP hD hS => ?_)
    obtain ⟨hP, hD⟩ : PDq D A [(g0, .inr (6, [.ref g1, .int (nI nx), .int (nI kp)])), (g1, .inl (cA 0, 240, .inl (upd fn4 (((nI ((nx * 4) + 1))).toNatClampNeg) d)))] H := ⟨hP, hD⟩
    generalize (upd fn4 (((nI ((nx * 4) + 1))).toNatClampNeg) d) = fn6 at hP hD
    obtain ⟨hP, hD⟩ : PDq D A [(g0, .inr (6, [.ref g1, .int (nI nx), .int (nI kp)])), (g1, .inl (cA 0, 240, .inl fn6))] H := ⟨hP, hD⟩
    refine lv_aload_n hx hb dX2_enter_33 rfl (lv_at hl 1 rfl) ?_
    refine va_get (D := D) (ci := 6) (v := .ref g1) (C := RX2) (T := TX2) (N := 3) hx hb hts inX2 hown hK hP 0 rfl rfl 0 (by decide) (hts (.fieldLink RX2 11 "EscrowDesk$Ledger" "ring" "[I") (by decide +kernel)) (fun _ h9 => h9) rfl dX2_enter_34 ?_
    refine lv_iload hx hb dX2_enter_37 (lv_at hl 0 rfl) ?_
    refine lv_iconst (v := 2) hx hb dX2_enter_39 (by decide) ?_
    refine lv_iadd hx hb dX2_enter_40 ?_
    refine lv_topi (fun yn7 eyn7 => ?_)
    obtain rfl : yn7 = (nI ((nx * 4) + 2)) := eyn7.trans (nI_add (nx * 4) 2)
    refine lv_iload_n hx hb dX2_enter_41 rfl (lv_at hl 4 rfl) ?_
    refine va_iast hx hb hK hP hD hS 1 0 rfl rfl (vp_in_nI (n := ((nx * 4) + 2)) (N := 240) (show ((nx * 4) + 2) < 240 by omega) (by decide)) dX2_enter_42 (fun H locs hP hD hS => ?_)
    obtain ⟨hP, hD⟩ : PDq D A [(g0, .inr (6, [.ref g1, .int (nI nx), .int (nI kp)])), (g1, .inl (cA 0, 240, .inl (upd fn6 (((nI ((nx * 4) + 2))).toNatClampNeg) a)))] H := ⟨hP, hD⟩
    generalize (upd fn6 (((nI ((nx * 4) + 2))).toNatClampNeg) a) = fn8 at hP hD
    obtain ⟨hP, hD⟩ : PDq D A [(g0, .inr (6, [.ref g1, .int (nI nx), .int (nI kp)])), (g1, .inl (cA 0, 240, .inl fn8))] H := ⟨hP, hD⟩
    refine lv_aload_n hx hb dX2_enter_43 rfl (lv_at hl 1 rfl) ?_
    refine va_get (D := D) (ci := 6) (v := .ref g1) (C := RX2) (T := TX2) (N := 3) hx hb hts inX2 hown hK hP 0 rfl rfl 0 (by decide) (hts (.fieldLink RX2 11 "EscrowDesk$Ledger" "ring" "[I") (by decide +kernel)) (fun _ h9 => h9) rfl dX2_enter_44 ?_
    refine lv_iload hx hb dX2_enter_47 (lv_at hl 0 rfl) ?_
    refine lv_iconst (v := 3) hx hb dX2_enter_49 (by decide) ?_
    refine lv_iadd hx hb dX2_enter_50 ?_
    refine lv_topi (fun yn9 eyn9 => ?_)
    obtain rfl : yn9 = (nI ((nx * 4) + 3)) := eyn9.trans (nI_add (nx * 4) 3)
    refine lv_iload hx hb dX2_enter_51 (lv_at hl 5 rfl) ?_
    refine va_iast hx hb hK hP hD hS 1 0 rfl rfl (vp_in_nI (n := ((nx * 4) + 3)) (N := 240) (show ((nx * 4) + 3) < 240 by omega) (by decide)) dX2_enter_53 (fun H locs hP hD hS => ?_)
    obtain ⟨hP, hD⟩ : PDq D A [(g0, .inr (6, [.ref g1, .int (nI nx), .int (nI kp)])), (g1, .inl (cA 0, 240, .inl (upd fn8 (((nI ((nx * 4) + 3))).toNatClampNeg) j)))] H := ⟨hP, hD⟩
    generalize (upd fn8 (((nI ((nx * 4) + 3))).toNatClampNeg) j) = fn10 at hP hD
    obtain ⟨hP, hD⟩ : PDq D A [(g0, .inr (6, [.ref g1, .int (nI nx), .int (nI kp)])), (g1, .inl (cA 0, 240, .inl fn10))] H := ⟨hP, hD⟩
    refine lv_aload_n hx hb dX2_enter_54 rfl (lv_at hl 1 rfl) ?_
    refine lv_aload_n hx hb dX2_enter_55 rfl (lv_at hl 1 rfl) ?_
    refine va_get (D := D) (ci := 6) (v := .int (nI nx)) (C := RX2) (T := TX2) (N := 3) hx hb hts inX2 hown hK hP 0 rfl rfl 1 (by decide) (hts (.fieldLink RX2 15 "EscrowDesk$Ledger" "next" "I") (by decide +kernel)) (fun _ h9 => h9) rfl dX2_enter_56 ?_
    refine lv_iconst (v := 1) hx hb dX2_enter_59 (by decide) ?_
    refine lv_iadd hx hb dX2_enter_60 ?_
    refine lv_topi (fun yn11 eyn11 => ?_)
    obtain rfl : yn11 = (nI (nx + 1)) := eyn11.trans (nI_add nx 1)
    refine lv_bipush (v := 60) hx hb dX2_enter_61 (by decide) ?_
    refine lv_irem hx hb dX2_enter_63 (by decide) ?_
    refine lv_topi (fun yn12 eyn12 => ?_)
    obtain rfl : yn12 = (nI ((nx + 1) % 60)) := eyn12.trans (nI_rem (a := (nx + 1)) (b := 60) (by omega) (by decide) (by decide))
    refine va_put (D := D) (ci := 6) (v := .int (nI ((nx + 1) % 60))) (ty := .int) (C := RX2) (T := TX2) (N := 3) hx hb hts inX2 tyX2 tyX2_ok nmX2 hown hK hP hD hS 0 rfl rfl 1 (by decide) (hts (.fieldLink RX2 15 "EscrowDesk$Ledger" "next" "I") (by decide +kernel)) (fun _ h9 => h9) rfl (by decide +kernel) rfl rfl (Nat.le_of_ble_eq_true rfl) dX2_enter_64 (fun H locs hP hD hS => ?_)
    obtain ⟨hP, hD⟩ : PDq D A [(g0, .inr (6, [.ref g1, .int (nI ((nx + 1) % 60)), .int (nI kp)])), (g1, .inl (cA 0, 240, .inl fn10))] H := ⟨hP, hD⟩
    refine lv_aload_n hx hb dX2_enter_67 rfl (lv_at hl 1 rfl) ?_
    refine lv_aload_n hx hb dX2_enter_68 rfl (lv_at hl 1 rfl) ?_
    refine va_get (D := D) (ci := 6) (v := .int (nI kp)) (C := RX2) (T := TX2) (N := 3) hx hb hts inX2 hown hK hP 0 rfl rfl 2 (by decide) (hts (.fieldLink RX2 19 "EscrowDesk$Ledger" "kept" "I") (by decide +kernel)) (fun _ h9 => h9) rfl dX2_enter_69 ?_
    refine lv_iconst (v := 1) hx hb dX2_enter_72 (by decide) ?_
    refine lv_iadd hx hb dX2_enter_73 ?_
    refine lv_topi (fun yn13 eyn13 => ?_)
    obtain rfl : yn13 = (nI (kp + 1)) := eyn13.trans (nI_add kp 1)
    refine lv_bipush (v := 60) hx hb dX2_enter_74 (by decide) ?_
    refine va_mmin hx hb (by rw [hml]; exact hl.1.symm) hown (hts (.methodLink RX2 28 Lib.Math.min.name) (by decide +kernel)) (hts (.static Lib.Math.min.name) (by decide +kernel)) (hts (.initialized "java/lang/Math") (by decide +kernel)) (hts (.code Lib.Math.min.name Lib.Math.min.code 2 (some .int)) (by decide +kernel)) (Nat.le_of_ble_eq_true rfl) (Nat.le_of_ble_eq_true rfl) (Nat.le_of_ble_eq_true rfl) (Nat.le_of_ble_eq_true rfl) dX2_enter_76 ?_
    refine lv_topi (fun yn14 eyn14 => ?_)
    obtain rfl : yn14 = (nI (min (kp + 1) 60)) := eyn14.trans (nI_min (a := (kp + 1)) (b := 60) (by omega) (by omega))
    refine va_put (D := D) (ci := 6) (v := .int (nI (min (kp + 1) 60))) (ty := .int) (C := RX2) (T := TX2) (N := 3) hx hb hts inX2 tyX2 tyX2_ok nmX2 hown hK hP hD hS 0 rfl rfl 2 (by decide) (hts (.fieldLink RX2 19 "EscrowDesk$Ledger" "kept" "I") (by decide +kernel)) (fun _ h9 => h9) rfl (by decide +kernel) rfl rfl (Nat.le_of_ble_eq_true rfl) dX2_enter_79 (fun H locs hP hD hS => ?_)
    obtain ⟨hP, hD⟩ : PDq D A [(g0, .inr (6, [.ref g1, .int (nI ((nx + 1) % 60)), .int (nI (min (kp + 1) 60))])), (g1, .inl (cA 0, 240, .inl fn10))] H := ⟨hP, hD⟩
    obtain ⟨hP9, hD9⟩ := PDq.sub (ws' := [(g0, .inr (6, [.ref g1, .int (nI ((nx + 1) % 60)), .int (nI (min (kp + 1) 60))])), (g1, .inl (cA 0, 240, .inl fn10))]) hP hD [0, 1] (by decide) rfl
    refine W.widen (k := 0) (n := 0) (Nat.le_of_ble_eq_true rfl) (Nat.le_of_ble_eq_true rfl) ?_
    exact (W.vret hx hb hr (fun t ht hW => ⟨⟨(), rfl, trivial, ((nx + 1) % 60), (min (kp + 1) 60), fn10, (by omega), (by omega), (by unfold entC; rw [if_neg (Int32.not_le.mpr c1)]), by rw [ht]; exact hP9, hD9⟩, hS.F ht⟩) hS.2.2 dX2_enter_82)
  · skip
    obtain ⟨hP9, hD9⟩ := PDq.sub (ws' := [(g0, .inr (6, [.ref g1, .int (nI nx), .int (nI kp)])), (g1, .inl (cA 0, 240, .inl fr))]) hP hD [0, 1] (by decide) rfl
    refine W.widen (k := 0) (n := 0) (Nat.le_of_ble_eq_true rfl) (Nat.le_of_ble_eq_true rfl) ?_
    exact (W.vret hx hb hr (fun t ht hW => ⟨⟨(), rfl, trivial, nx, kp, fr, hnx, hkp, (by unfold entC; rw [if_pos (Int32.not_lt.mp c1)]), by rw [ht]; exact hP9, hD9⟩, hS.F ht⟩) hS.2.2 dX2_enter_4)

set_option maxHeartbeats 4000000 in
set_option maxRecDepth 100000 in
/-- the class, exactly: X0_takeDeposit -/
theorem c_takeDeposit (l : Launch) (D : va_G) (cA : Nat → ClassId) (sa : Nat → Nat) (a0 : Nat) (a1 : Nat) (a2 : Nat) (a3 : Nat) (a4 : Nat) (a5 : Nat) (a6 : Nat) (p0 : Nat) (i6 : Int32) (i7 : Int32) (i8 : Int32) (i12 : Int32) (i13 : Int32) (i14 : Int32) (i15 : Int32) (i16 : Int32) (i17 : Int32) (i18 : Int32) (i19 : Int32) (i9 : Int64) (i10 : Int64) (i11 : Int64) (nx : Nat) (kp : Nat) (fr : Nat → Int32) (a : Int32) (sz : Nat) (hnx : nx < 60) (hkp : kp ≤ 60) : Met l yX0_takeDeposit wsX0_takeDeposit ({ frames := 2, cells := 0, slots := 0, locals := 46 }) (va_Pc [.ref a0, .int a] (Wd D cA sa [(oX0 a0 p0 a1 a3 a4 a5 a6 i6 i7 i8 i9 i10 i11 i12 i13 i14 i15 i16 i17 i18 i19), (a1, .inr (6, [.ref a2, .int (nI nx), .int (nI kp)])), (a2, .inl (cA 0, 240, .inl fr))] sz)) (va_Qv (fun _ : Unit => True) (fun (_ : Unit) t => ∃ ny : Nat, ∃ ky : Nat, ∃ zr : Nat → Int32, ny < 60 ∧ ky ≤ 60 ∧ ky = entC kp a ∧ Wq D (va_A [(oX0 a0 p0 a1 a3 a4 a5 a6 i6 i7 i8 i9 i10 i11 i12 i13 i14 i15 i16 i17 i18 i19), (a1, .inr (6, [.ref a2, .int (nI nx), .int (nI kp)])), (a2, .inl (cA 0, 240, .inl fr))] sz) [(oX0 a0 p0 a1 a3 a4 a5 a6 i6 (i7 + a) (i8 + a) i9 i10 i11 i12 i13 i14 i15 i16 i17 i18 i19), (a1, .inr (6, [.ref a2, .int (nI ny), .int (nI ky)])), (a2, .inl (cA 0, 240, .inl zr))] t) (va_A [(oX0 a0 p0 a1 a3 a4 a5 a6 i6 i7 i8 i9 i10 i11 i12 i13 i14 i15 i16 i17 i18 i19), (a1, .inr (6, [.ref a2, .int (nI nx), .int (nI kp)])), (a2, .inl (cA 0, 240, .inl fr))] sz)) 0 0 (va_A [(oX0 a0 p0 a1 a3 a4 a5 a6 i6 i7 i8 i9 i10 i11 i12 i13 i14 i15 i16 i17 i18 i19), (a1, .inr (6, [.ref a2, .int (nI nx), .int (nI kp)])), (a2, .inl (cA 0, 240, .inl fr))] sz) := by
  refine Met.ofW (cc := cX0_takeDeposit) (maxL := 2) (ret := none) (by decide) rfl ?_
  intro p e s m args below meth c s₁ B hml hv
  obtain ⟨rfl, hsz, hP, hK, hD0, hC, hZ⟩ := hv
  have hx := B.exec
  have hb := B.bytes
  have hr := B.returns
  have hts := atoms_spec (ws := wsX0_takeDeposit) B.pre
  have hown : s.vm.findClass RX0 = some m.cls := findClass_of_methodNamed B.named
  have hlocks := B.notSynchronized
  subst hsz
  have hD := hD0.self (sz := s.heap.size)
  generalize hAe : va_A [(oX0 a0 p0 a1 a3 a4 a5 a6 i6 i7 i8 i9 i10 i11 i12 i13 i14 i15 i16 i17 i18 i19), (a1, .inr (6, [.ref a2, .int (nI nx), .int (nI kp)])), (a2, .inl (cA 0, 240, .inl fr))] s.heap.size = A at hD hZ ⊢
  have hA : ∀ q : Nat, s.heap.size ≤ q → A q := fun q h => by rw [← hAe]; exact Or.inr h
  have hS : va_S A s.heap s.heap [] := va_S.rf
  have hP : va_P D vwCl [(oX0 a0 p0 a1 a3 a4 a5 a6 i6 i7 i8 i9 i10 i11 i12 i13 i14 i15 i16 i17 i18 i19), (a1, .inr (6, [.ref a2, .int (nI nx), .int (nI kp)])), (a2, .inl (cA 0, 240, .inl fr))] s.heap := hP
  have hl := lv_entry ([.ref a0, .int a]) (n := 2) (Nat.le_of_ble_eq_true rfl)
  rw [lg_entry_eq]
  generalize (lg_sl ([.ref a0, .int a]) ++ List.replicate (2 - (lg_sl ([.ref a0, .int a])).length) Slot.unset).toArray = ls at hl ⊢
  have hl : lv_has ls 2 [(0, .ref a0), (1, .int a)] := hl
  have inX0 : ∀ w ∈ u_ws RX0 TX0 20, w ∈ wsX0_takeDeposit := by decide +kernel
  refine lv_aload_n hx hb dX0_takeDeposit_0 rfl (lv_at hl 0 rfl) ?_
  refine lv_dup hx hb dX0_takeDeposit_1 rfl ?_
  refine va_get (D := D) (ci := 4) (v := .int i7) (C := RX0) (T := TX0) (N := 20) hx hb hts inX0 hown hK hP 0 rfl rfl 7 (by decide) (hts (.fieldLink RX0 44 "EscrowDesk$Account" "deposited" "I") (by decide +kernel)) (fun _ h9 => h9) rfl dX0_takeDeposit_2 ?_
  refine lv_iload_n hx hb dX0_takeDeposit_5 rfl (lv_at hl 1 rfl) ?_
  refine lv_iadd hx hb dX0_takeDeposit_6 ?_
  refine lv_topi (fun yn1 eyn1 => ?_)
  obtain rfl : yn1 = (i7 + a) := eyn1
  refine va_put (D := D) (ci := 4) (v := .int (i7 + a)) (ty := .int) (C := RX0) (T := TX0) (N := 20) hx hb hts inX0 tyX0 tyX0_ok nmX0 hown hK hP hD hS 0 rfl rfl 7 (by decide) (hts (.fieldLink RX0 44 "EscrowDesk$Account" "deposited" "I") (by decide +kernel)) (fun _ h9 => h9) rfl (by decide +kernel) rfl rfl (Nat.le_of_ble_eq_true rfl) dX0_takeDeposit_7 (fun H locs hP hD hS => ?_)
  obtain ⟨hP, hD⟩ : PDq D A [(oX0 a0 p0 a1 a3 a4 a5 a6 i6 (i7 + a) i8 i9 i10 i11 i12 i13 i14 i15 i16 i17 i18 i19), (a1, .inr (6, [.ref a2, .int (nI nx), .int (nI kp)])), (a2, .inl (cA 0, 240, .inl fr))] H := ⟨hP, hD⟩
  refine lv_aload_n hx hb dX0_takeDeposit_10 rfl (lv_at hl 0 rfl) ?_
  refine lv_dup hx hb dX0_takeDeposit_11 rfl ?_
  refine va_get (D := D) (ci := 4) (v := .int i8) (C := RX0) (T := TX0) (N := 20) hx hb hts inX0 hown hK hP 0 rfl rfl 8 (by decide) (hts (.fieldLink RX0 47 "EscrowDesk$Account" "principal" "I") (by decide +kernel)) (fun _ h9 => h9) rfl dX0_takeDeposit_12 ?_
  refine lv_iload_n hx hb dX0_takeDeposit_15 rfl (lv_at hl 1 rfl) ?_
  refine lv_iadd hx hb dX0_takeDeposit_16 ?_
  refine lv_topi (fun yn2 eyn2 => ?_)
  obtain rfl : yn2 = (i8 + a) := eyn2
  refine va_put (D := D) (ci := 4) (v := .int (i8 + a)) (ty := .int) (C := RX0) (T := TX0) (N := 20) hx hb hts inX0 tyX0 tyX0_ok nmX0 hown hK hP hD hS 0 rfl rfl 8 (by decide) (hts (.fieldLink RX0 47 "EscrowDesk$Account" "principal" "I") (by decide +kernel)) (fun _ h9 => h9) rfl (by decide +kernel) rfl rfl (Nat.le_of_ble_eq_true rfl) dX0_takeDeposit_17 (fun H locs hP hD hS => ?_)
  obtain ⟨hP, hD⟩ : PDq D A [(oX0 a0 p0 a1 a3 a4 a5 a6 i6 (i7 + a) (i8 + a) i9 i10 i11 i12 i13 i14 i15 i16 i17 i18 i19), (a1, .inr (6, [.ref a2, .int (nI nx), .int (nI kp)])), (a2, .inl (cA 0, 240, .inl fr))] H := ⟨hP, hD⟩
  refine lv_aload_n hx hb dX0_takeDeposit_20 rfl (lv_at hl 0 rfl) ?_
  refine va_get (D := D) (ci := 4) (v := .ref a1) (C := RX0) (T := TX0) (N := 20) hx hb hts inX0 hown hK hP 0 rfl rfl 1 (by decide) (hts (.fieldLink RX0 12 "EscrowDesk$Account" "ledger" "LEscrowDesk$Ledger;") (by decide +kernel)) (fun _ h9 => h9) rfl dX0_takeDeposit_21 ?_
  refine lv_iconst (v := 0) hx hb dX0_takeDeposit_24 (by decide) ?_
  refine lv_aload_n hx hb dX0_takeDeposit_25 rfl (lv_at hl 0 rfl) ?_
  refine va_get (D := D) (ci := 4) (v := .int i6) (C := RX0) (T := TX0) (N := 20) hx hb hts inX0 hown hK hP 0 rfl rfl 6 (by decide) (hts (.fieldLink RX0 40 "EscrowDesk$Account" "day" "I") (by decide +kernel)) (fun _ h9 => h9) rfl dX0_takeDeposit_26 ?_
  refine lv_iload_n hx hb dX0_takeDeposit_29 rfl (lv_at hl 1 rfl) ?_
  refine lv_iconst (v := (-1)) hx hb dX0_takeDeposit_30 (by decide) ?_
  obtain ⟨hPc, hDc, hFc⟩ := PDq.cut (wc := [(a1, .inr (6, [.ref a2, .int (nI nx), .int (nI kp)])), (a2, .inl (cA 0, 240, .inl fr))]) hP hD hS hA [1, 2] (by decide) rfl
  refine va_callv (va_runV (As := [.int 0, .int i6, .int a, .int (-1)]) (rest := []) ⟨hx, hb, hml, hown, hts⟩ (c_enter l D cA sa a1 a2 nx kp 0 i6 a (-1) fr H.size hnx hkp) (cwV 4 hts gX0_takeDeposit_X2_enter rfl rfl rfl (by decide +kernel) ⟨(Nat.le_of_ble_eq_true rfl), (Nat.le_of_ble_eq_true rfl)⟩) ⟨Wd.blind, va_recv hK hPc (ci := 6) (q0 := 0) rfl rfl, fun U hU hW => ⟨rfl, Wd.call hPc hDc hK hC hZ hS hFc U hU hW⟩⟩ rfl rfl hl.1 rfl (lv_room (Nat.le_of_ble_eq_true rfl)) dX0_takeDeposit_31 ⟨(Nat.le_of_ble_eq_true rfl), (Nat.le_of_ble_eq_true rfl)⟩) hS (fun q _ h => hFc q h) hFc (fun u t H1 locs ht hvm hw hB hz1 hk1 hS => ?_)
  obtain ⟨qn3, qn4, fn5, hn6, hn7, hn8, hP1, hD1⟩ := hB
  rw [ht] at hP1
  obtain ⟨hP, hD⟩ := PDq.join (w := [(oX0 a0 p0 a1 a3 a4 a5 a6 i6 (i7 + a) (i8 + a) i9 i10 i11 i12 i13 i14 i15 i16 i17 i18 i19), (a1, .inr (6, [.ref a2, .int (nI qn3), .int (nI qn4)])), (a2, .inl (cA 0, 240, .inl fn5))]) 1 hP hD [1, 2] [0] rfl rfl (by decide) (by decide) hk1 hFc hP1 hD1 rfl
  generalize H1 = H at hP hS ⊢
  obtain ⟨hP9, hD9⟩ := PDq.sub (ws' := [(oX0 a0 p0 a1 a3 a4 a5 a6 i6 (i7 + a) (i8 + a) i9 i10 i11 i12 i13 i14 i15 i16 i17 i18 i19), (a1, .inr (6, [.ref a2, .int (nI qn3), .int (nI qn4)])), (a2, .inl (cA 0, 240, .inl fn5))]) hP hD [0, 1, 2] (by decide) rfl
  refine W.widen (k := 0) (n := 0) (Nat.le_of_ble_eq_true rfl) (Nat.le_of_ble_eq_true rfl) ?_
  exact (W.vret hx hb hr (fun t ht hW => ⟨⟨(), rfl, trivial, qn3, qn4, fn5, hn6, hn7, hn8, by rw [ht]; exact hP9, hD9⟩, hS.F ht⟩) hS.2.2 dX0_takeDeposit_34)

set_option maxHeartbeats 4000000 in
set_option maxRecDepth 100000 in
/-- the class, exactly: X0_refund -/
theorem c_refund (l : Launch) (D : va_G) (cA : Nat → ClassId) (sa : Nat → Nat) (a0 : Nat) (a1 : Nat) (a2 : Nat) (a3 : Nat) (a4 : Nat) (a5 : Nat) (a6 : Nat) (p0 : Nat) (i6 : Int32) (i7 : Int32) (i8 : Int32) (i12 : Int32) (i13 : Int32) (i14 : Int32) (i15 : Int32) (i16 : Int32) (i17 : Int32) (i18 : Int32) (i19 : Int32) (i9 : Int64) (i10 : Int64) (i11 : Int64) (nx : Nat) (kp : Nat) (fr : Nat → Int32) (a : Int32) (b : Int32) (sz : Nat) (hnx : nx < 60) (hkp : kp ≤ 60) : Met l yX0_refund wsX0_refund ({ frames := 2, cells := 0, slots := 0, locals := 46 }) (va_Pc [.ref a0, .int a, .int b] (Wd D cA sa [(oX0 a0 p0 a1 a3 a4 a5 a6 i6 i7 i8 i9 i10 i11 i12 i13 i14 i15 i16 i17 i18 i19), (a1, .inr (6, [.ref a2, .int (nI nx), .int (nI kp)])), (a2, .inl (cA 0, 240, .inl fr))] sz)) (va_Qv (fun _ : Unit => True) (fun (_ : Unit) t => ∃ ny : Nat, ∃ ky : Nat, ∃ zr : Nat → Int32, ny < 60 ∧ ky ≤ 60 ∧ ky = entC kp a ∧ Wq D (va_A [(oX0 a0 p0 a1 a3 a4 a5 a6 i6 i7 i8 i9 i10 i11 i12 i13 i14 i15 i16 i17 i18 i19), (a1, .inr (6, [.ref a2, .int (nI nx), .int (nI kp)])), (a2, .inl (cA 0, 240, .inl fr))] sz) [(oX0 a0 p0 a1 a3 a4 a5 a6 i6 i7 (i8 - a) i9 i10 i11 i12 i13 (i14 + a) i15 i16 i17 i18 i19), (a1, .inr (6, [.ref a2, .int (nI ny), .int (nI ky)])), (a2, .inl (cA 0, 240, .inl zr))] t) (va_A [(oX0 a0 p0 a1 a3 a4 a5 a6 i6 i7 i8 i9 i10 i11 i12 i13 i14 i15 i16 i17 i18 i19), (a1, .inr (6, [.ref a2, .int (nI nx), .int (nI kp)])), (a2, .inl (cA 0, 240, .inl fr))] sz)) 0 0 (va_A [(oX0 a0 p0 a1 a3 a4 a5 a6 i6 i7 i8 i9 i10 i11 i12 i13 i14 i15 i16 i17 i18 i19), (a1, .inr (6, [.ref a2, .int (nI nx), .int (nI kp)])), (a2, .inl (cA 0, 240, .inl fr))] sz) := by
  refine Met.ofW (cc := cX0_refund) (maxL := 3) (ret := none) (by decide) rfl ?_
  intro p e s m args below meth c s₁ B hml hv
  obtain ⟨rfl, hsz, hP, hK, hD0, hC, hZ⟩ := hv
  have hx := B.exec
  have hb := B.bytes
  have hr := B.returns
  have hts := atoms_spec (ws := wsX0_refund) B.pre
  have hown : s.vm.findClass RX0 = some m.cls := findClass_of_methodNamed B.named
  have hlocks := B.notSynchronized
  subst hsz
  have hD := hD0.self (sz := s.heap.size)
  generalize hAe : va_A [(oX0 a0 p0 a1 a3 a4 a5 a6 i6 i7 i8 i9 i10 i11 i12 i13 i14 i15 i16 i17 i18 i19), (a1, .inr (6, [.ref a2, .int (nI nx), .int (nI kp)])), (a2, .inl (cA 0, 240, .inl fr))] s.heap.size = A at hD hZ ⊢
  have hA : ∀ q : Nat, s.heap.size ≤ q → A q := fun q h => by rw [← hAe]; exact Or.inr h
  have hS : va_S A s.heap s.heap [] := va_S.rf
  have hP : va_P D vwCl [(oX0 a0 p0 a1 a3 a4 a5 a6 i6 i7 i8 i9 i10 i11 i12 i13 i14 i15 i16 i17 i18 i19), (a1, .inr (6, [.ref a2, .int (nI nx), .int (nI kp)])), (a2, .inl (cA 0, 240, .inl fr))] s.heap := hP
  have hl := lv_entry ([.ref a0, .int a, .int b]) (n := 3) (Nat.le_of_ble_eq_true rfl)
  rw [lg_entry_eq]
  generalize (lg_sl ([.ref a0, .int a, .int b]) ++ List.replicate (3 - (lg_sl ([.ref a0, .int a, .int b])).length) Slot.unset).toArray = ls at hl ⊢
  have hl : lv_has ls 3 [(0, .ref a0), (1, .int a), (2, .int b)] := hl
  have inX0 : ∀ w ∈ u_ws RX0 TX0 20, w ∈ wsX0_refund := by decide +kernel
  refine lv_aload_n hx hb dX0_refund_0 rfl (lv_at hl 0 rfl) ?_
  refine lv_dup hx hb dX0_refund_1 rfl ?_
  refine va_get (D := D) (ci := 4) (v := .int i8) (C := RX0) (T := TX0) (N := 20) hx hb hts inX0 hown hK hP 0 rfl rfl 8 (by decide) (hts (.fieldLink RX0 47 "EscrowDesk$Account" "principal" "I") (by decide +kernel)) (fun _ h9 => h9) rfl dX0_refund_2 ?_
  refine lv_iload_n hx hb dX0_refund_5 rfl (lv_at hl 1 rfl) ?_
  refine lv_isub hx hb dX0_refund_6 ?_
  refine lv_topi (fun yn1 eyn1 => ?_)
  obtain rfl : yn1 = (i8 - a) := eyn1
  refine va_put (D := D) (ci := 4) (v := .int (i8 - a)) (ty := .int) (C := RX0) (T := TX0) (N := 20) hx hb hts inX0 tyX0 tyX0_ok nmX0 hown hK hP hD hS 0 rfl rfl 8 (by decide) (hts (.fieldLink RX0 47 "EscrowDesk$Account" "principal" "I") (by decide +kernel)) (fun _ h9 => h9) rfl (by decide +kernel) rfl rfl (Nat.le_of_ble_eq_true rfl) dX0_refund_7 (fun H locs hP hD hS => ?_)
  obtain ⟨hP, hD⟩ : PDq D A [(oX0 a0 p0 a1 a3 a4 a5 a6 i6 i7 (i8 - a) i9 i10 i11 i12 i13 i14 i15 i16 i17 i18 i19), (a1, .inr (6, [.ref a2, .int (nI nx), .int (nI kp)])), (a2, .inl (cA 0, 240, .inl fr))] H := ⟨hP, hD⟩
  refine lv_aload_n hx hb dX0_refund_10 rfl (lv_at hl 0 rfl) ?_
  refine lv_dup hx hb dX0_refund_11 rfl ?_
  refine va_get (D := D) (ci := 4) (v := .int i14) (C := RX0) (T := TX0) (N := 20) hx hb hts inX0 hown hK hP 0 rfl rfl 14 (by decide) (hts (.fieldLink RX0 66 "EscrowDesk$Account" "refunded" "I") (by decide +kernel)) (fun _ h9 => h9) rfl dX0_refund_12 ?_
  refine lv_iload_n hx hb dX0_refund_15 rfl (lv_at hl 1 rfl) ?_
  refine lv_iadd hx hb dX0_refund_16 ?_
  refine lv_topi (fun yn2 eyn2 => ?_)
  obtain rfl : yn2 = (i14 + a) := eyn2
  refine va_put (D := D) (ci := 4) (v := .int (i14 + a)) (ty := .int) (C := RX0) (T := TX0) (N := 20) hx hb hts inX0 tyX0 tyX0_ok nmX0 hown hK hP hD hS 0 rfl rfl 14 (by decide) (hts (.fieldLink RX0 66 "EscrowDesk$Account" "refunded" "I") (by decide +kernel)) (fun _ h9 => h9) rfl (by decide +kernel) rfl rfl (Nat.le_of_ble_eq_true rfl) dX0_refund_17 (fun H locs hP hD hS => ?_)
  obtain ⟨hP, hD⟩ : PDq D A [(oX0 a0 p0 a1 a3 a4 a5 a6 i6 i7 (i8 - a) i9 i10 i11 i12 i13 (i14 + a) i15 i16 i17 i18 i19), (a1, .inr (6, [.ref a2, .int (nI nx), .int (nI kp)])), (a2, .inl (cA 0, 240, .inl fr))] H := ⟨hP, hD⟩
  refine lv_aload_n hx hb dX0_refund_20 rfl (lv_at hl 0 rfl) ?_
  refine va_get (D := D) (ci := 4) (v := .ref a1) (C := RX0) (T := TX0) (N := 20) hx hb hts inX0 hown hK hP 0 rfl rfl 1 (by decide) (hts (.fieldLink RX0 12 "EscrowDesk$Account" "ledger" "LEscrowDesk$Ledger;") (by decide +kernel)) (fun _ h9 => h9) rfl dX0_refund_21 ?_
  refine lv_iconst (v := 2) hx hb dX0_refund_24 (by decide) ?_
  refine lv_aload_n hx hb dX0_refund_25 rfl (lv_at hl 0 rfl) ?_
  refine va_get (D := D) (ci := 4) (v := .int i6) (C := RX0) (T := TX0) (N := 20) hx hb hts inX0 hown hK hP 0 rfl rfl 6 (by decide) (hts (.fieldLink RX0 40 "EscrowDesk$Account" "day" "I") (by decide +kernel)) (fun _ h9 => h9) rfl dX0_refund_26 ?_
  refine lv_iload_n hx hb dX0_refund_29 rfl (lv_at hl 1 rfl) ?_
  refine lv_iload_n hx hb dX0_refund_30 rfl (lv_at hl 2 rfl) ?_
  obtain ⟨hPc, hDc, hFc⟩ := PDq.cut (wc := [(a1, .inr (6, [.ref a2, .int (nI nx), .int (nI kp)])), (a2, .inl (cA 0, 240, .inl fr))]) hP hD hS hA [1, 2] (by decide) rfl
  refine va_callv (va_runV (As := [.int 2, .int i6, .int a, .int b]) (rest := []) ⟨hx, hb, hml, hown, hts⟩ (c_enter l D cA sa a1 a2 nx kp 2 i6 a b fr H.size hnx hkp) (cwV 4 hts gX0_refund_X2_enter rfl rfl rfl (by decide +kernel) ⟨(Nat.le_of_ble_eq_true rfl), (Nat.le_of_ble_eq_true rfl)⟩) ⟨Wd.blind, va_recv hK hPc (ci := 6) (q0 := 0) rfl rfl, fun U hU hW => ⟨rfl, Wd.call hPc hDc hK hC hZ hS hFc U hU hW⟩⟩ rfl rfl hl.1 rfl (lv_room (Nat.le_of_ble_eq_true rfl)) dX0_refund_31 ⟨(Nat.le_of_ble_eq_true rfl), (Nat.le_of_ble_eq_true rfl)⟩) hS (fun q _ h => hFc q h) hFc (fun u t H1 locs ht hvm hw hB hz1 hk1 hS => ?_)
  obtain ⟨qn3, qn4, fn5, hn6, hn7, hn8, hP1, hD1⟩ := hB
  rw [ht] at hP1
  obtain ⟨hP, hD⟩ := PDq.join (w := [(oX0 a0 p0 a1 a3 a4 a5 a6 i6 i7 (i8 - a) i9 i10 i11 i12 i13 (i14 + a) i15 i16 i17 i18 i19), (a1, .inr (6, [.ref a2, .int (nI qn3), .int (nI qn4)])), (a2, .inl (cA 0, 240, .inl fn5))]) 1 hP hD [1, 2] [0] rfl rfl (by decide) (by decide) hk1 hFc hP1 hD1 rfl
  generalize H1 = H at hP hS ⊢
  obtain ⟨hP9, hD9⟩ := PDq.sub (ws' := [(oX0 a0 p0 a1 a3 a4 a5 a6 i6 i7 (i8 - a) i9 i10 i11 i12 i13 (i14 + a) i15 i16 i17 i18 i19), (a1, .inr (6, [.ref a2, .int (nI qn3), .int (nI qn4)])), (a2, .inl (cA 0, 240, .inl fn5))]) hP hD [0, 1, 2] (by decide) rfl
  refine W.widen (k := 0) (n := 0) (Nat.le_of_ble_eq_true rfl) (Nat.le_of_ble_eq_true rfl) ?_
  exact (W.vret hx hb hr (fun t ht hW => ⟨⟨(), rfl, trivial, qn3, qn4, fn5, hn6, hn7, hn8, by rw [ht]; exact hP9, hD9⟩, hS.F ht⟩) hS.2.2 dX0_refund_34)

set_option maxHeartbeats 4000000 in
set_option maxRecDepth 100000 in
/-- the class, exactly: X0_payOutInterest -/
theorem c_payOut (l : Launch) (D : va_G) (cA : Nat → ClassId) (sa : Nat → Nat) (a0 : Nat) (a1 : Nat) (a2 : Nat) (a3 : Nat) (a4 : Nat) (a5 : Nat) (a6 : Nat) (p0 : Nat) (i6 : Int32) (i7 : Int32) (i8 : Int32) (i12 : Int32) (i13 : Int32) (i14 : Int32) (i15 : Int32) (i16 : Int32) (i17 : Int32) (i18 : Int32) (i19 : Int32) (i9 : Int64) (i10 : Int64) (i11 : Int64) (nx : Nat) (kp : Nat) (fr : Nat → Int32) (a : Int32) (sz : Nat) (hnx : nx < 60) (hkp : kp ≤ 60) : Met l yX0_payOutInterest wsX0_payOutInterest ({ frames := 2, cells := 0, slots := 0, locals := 46 }) (va_Pc [.ref a0, .int a] (Wd D cA sa [(oX0 a0 p0 a1 a3 a4 a5 a6 i6 i7 i8 i9 i10 i11 i12 i13 i14 i15 i16 i17 i18 i19), (a1, .inr (6, [.ref a2, .int (nI nx), .int (nI kp)])), (a2, .inl (cA 0, 240, .inl fr))] sz)) (va_Qv (fun _ : Unit => True) (fun (_ : Unit) t => ∃ ny : Nat, ∃ ky : Nat, ∃ zr : Nat → Int32, ny < 60 ∧ ky ≤ 60 ∧ ky = entC kp a ∧ Wq D (va_A [(oX0 a0 p0 a1 a3 a4 a5 a6 i6 i7 i8 i9 i10 i11 i12 i13 i14 i15 i16 i17 i18 i19), (a1, .inr (6, [.ref a2, .int (nI nx), .int (nI kp)])), (a2, .inl (cA 0, 240, .inl fr))] sz) [(oX0 a0 p0 a1 a3 a4 a5 a6 i6 i7 i8 (i9 - (a.toInt64)) i10 i11 i12 i13 i14 i15 i16 i17 i18 i19), (a1, .inr (6, [.ref a2, .int (nI ny), .int (nI ky)])), (a2, .inl (cA 0, 240, .inl zr))] t) (va_A [(oX0 a0 p0 a1 a3 a4 a5 a6 i6 i7 i8 i9 i10 i11 i12 i13 i14 i15 i16 i17 i18 i19), (a1, .inr (6, [.ref a2, .int (nI nx), .int (nI kp)])), (a2, .inl (cA 0, 240, .inl fr))] sz)) 0 0 (va_A [(oX0 a0 p0 a1 a3 a4 a5 a6 i6 i7 i8 i9 i10 i11 i12 i13 i14 i15 i16 i17 i18 i19), (a1, .inr (6, [.ref a2, .int (nI nx), .int (nI kp)])), (a2, .inl (cA 0, 240, .inl fr))] sz) := by
  refine Met.ofW (cc := cX0_payOutInterest) (maxL := 2) (ret := none) (by decide) rfl ?_
  intro p e s m args below meth c s₁ B hml hv
  obtain ⟨rfl, hsz, hP, hK, hD0, hC, hZ⟩ := hv
  have hx := B.exec
  have hb := B.bytes
  have hr := B.returns
  have hts := atoms_spec (ws := wsX0_payOutInterest) B.pre
  have hown : s.vm.findClass RX0 = some m.cls := findClass_of_methodNamed B.named
  have hlocks := B.notSynchronized
  subst hsz
  have hD := hD0.self (sz := s.heap.size)
  generalize hAe : va_A [(oX0 a0 p0 a1 a3 a4 a5 a6 i6 i7 i8 i9 i10 i11 i12 i13 i14 i15 i16 i17 i18 i19), (a1, .inr (6, [.ref a2, .int (nI nx), .int (nI kp)])), (a2, .inl (cA 0, 240, .inl fr))] s.heap.size = A at hD hZ ⊢
  have hA : ∀ q : Nat, s.heap.size ≤ q → A q := fun q h => by rw [← hAe]; exact Or.inr h
  have hS : va_S A s.heap s.heap [] := va_S.rf
  have hP : va_P D vwCl [(oX0 a0 p0 a1 a3 a4 a5 a6 i6 i7 i8 i9 i10 i11 i12 i13 i14 i15 i16 i17 i18 i19), (a1, .inr (6, [.ref a2, .int (nI nx), .int (nI kp)])), (a2, .inl (cA 0, 240, .inl fr))] s.heap := hP
  have hl := lv_entry ([.ref a0, .int a]) (n := 2) (Nat.le_of_ble_eq_true rfl)
  rw [lg_entry_eq]
  generalize (lg_sl ([.ref a0, .int a]) ++ List.replicate (2 - (lg_sl ([.ref a0, .int a])).length) Slot.unset).toArray = ls at hl ⊢
  have hl : lv_has ls 2 [(0, .ref a0), (1, .int a)] := hl
  have inX0 : ∀ w ∈ u_ws RX0 TX0 20, w ∈ wsX0_payOutInterest := by decide +kernel
  refine lv_aload_n hx hb dX0_payOutInterest_0 rfl (lv_at hl 0 rfl) ?_
  refine lv_dup hx hb dX0_payOutInterest_1 rfl ?_
  refine va_get (D := D) (ci := 4) (v := .long i9) (C := RX0) (T := TX0) (N := 20) hx hb hts inX0 hown hK hP 0 rfl rfl 9 (by decide) (hts (.fieldLink RX0 50 "EscrowDesk$Account" "interestPot" "J") (by decide +kernel)) (fun _ h9 => h9) rfl dX0_payOutInterest_2 ?_
  refine lv_iload_n hx hb dX0_payOutInterest_5 rfl (lv_at hl 1 rfl) ?_
  refine lv_i2l (v := (a.toInt64)) hx hb dX0_payOutInterest_6 rfl ?_
  refine lv_lsub hx hb dX0_payOutInterest_7 ?_
  refine lv_topl (fun yn1 eyn1 => ?_)
  obtain rfl : yn1 = (i9 - (a.toInt64)) := eyn1
  refine va_put (D := D) (ci := 4) (v := .long (i9 - (a.toInt64))) (ty := .long) (C := RX0) (T := TX0) (N := 20) hx hb hts inX0 tyX0 tyX0_ok nmX0 hown hK hP hD hS 0 rfl rfl 9 (by decide) (hts (.fieldLink RX0 50 "EscrowDesk$Account" "interestPot" "J") (by decide +kernel)) (fun _ h9 => h9) rfl (by decide +kernel) rfl rfl (Nat.le_of_ble_eq_true rfl) dX0_payOutInterest_8 (fun H locs hP hD hS => ?_)
  obtain ⟨hP, hD⟩ : PDq D A [(oX0 a0 p0 a1 a3 a4 a5 a6 i6 i7 i8 (i9 - (a.toInt64)) i10 i11 i12 i13 i14 i15 i16 i17 i18 i19), (a1, .inr (6, [.ref a2, .int (nI nx), .int (nI kp)])), (a2, .inl (cA 0, 240, .inl fr))] H := ⟨hP, hD⟩
  refine lv_aload_n hx hb dX0_payOutInterest_11 rfl (lv_at hl 0 rfl) ?_
  refine va_get (D := D) (ci := 4) (v := .ref a1) (C := RX0) (T := TX0) (N := 20) hx hb hts inX0 hown hK hP 0 rfl rfl 1 (by decide) (hts (.fieldLink RX0 12 "EscrowDesk$Account" "ledger" "LEscrowDesk$Ledger;") (by decide +kernel)) (fun _ h9 => h9) rfl dX0_payOutInterest_12 ?_
  refine lv_iconst (v := 4) hx hb dX0_payOutInterest_15 (by decide) ?_
  refine lv_aload_n hx hb dX0_payOutInterest_16 rfl (lv_at hl 0 rfl) ?_
  refine va_get (D := D) (ci := 4) (v := .int i6) (C := RX0) (T := TX0) (N := 20) hx hb hts inX0 hown hK hP 0 rfl rfl 6 (by decide) (hts (.fieldLink RX0 40 "EscrowDesk$Account" "day" "I") (by decide +kernel)) (fun _ h9 => h9) rfl dX0_payOutInterest_17 ?_
  refine lv_iload_n hx hb dX0_payOutInterest_20 rfl (lv_at hl 1 rfl) ?_
  refine lv_iconst (v := (-1)) hx hb dX0_payOutInterest_21 (by decide) ?_
  obtain ⟨hPc, hDc, hFc⟩ := PDq.cut (wc := [(a1, .inr (6, [.ref a2, .int (nI nx), .int (nI kp)])), (a2, .inl (cA 0, 240, .inl fr))]) hP hD hS hA [1, 2] (by decide) rfl
  refine va_callv (va_runV (As := [.int 4, .int i6, .int a, .int (-1)]) (rest := []) ⟨hx, hb, hml, hown, hts⟩ (c_enter l D cA sa a1 a2 nx kp 4 i6 a (-1) fr H.size hnx hkp) (cwV 4 hts gX0_payOutInterest_X2_enter rfl rfl rfl (by decide +kernel) ⟨(Nat.le_of_ble_eq_true rfl), (Nat.le_of_ble_eq_true rfl)⟩) ⟨Wd.blind, va_recv hK hPc (ci := 6) (q0 := 0) rfl rfl, fun U hU hW => ⟨rfl, Wd.call hPc hDc hK hC hZ hS hFc U hU hW⟩⟩ rfl rfl hl.1 rfl (lv_room (Nat.le_of_ble_eq_true rfl)) dX0_payOutInterest_22 ⟨(Nat.le_of_ble_eq_true rfl), (Nat.le_of_ble_eq_true rfl)⟩) hS (fun q _ h => hFc q h) hFc (fun u t H1 locs ht hvm hw hB hz1 hk1 hS => ?_)
  obtain ⟨qn2, qn3, fn4, hn5, hn6, hn7, hP1, hD1⟩ := hB
  rw [ht] at hP1
  obtain ⟨hP, hD⟩ := PDq.join (w := [(oX0 a0 p0 a1 a3 a4 a5 a6 i6 i7 i8 (i9 - (a.toInt64)) i10 i11 i12 i13 i14 i15 i16 i17 i18 i19), (a1, .inr (6, [.ref a2, .int (nI qn2), .int (nI qn3)])), (a2, .inl (cA 0, 240, .inl fn4))]) 1 hP hD [1, 2] [0] rfl rfl (by decide) (by decide) hk1 hFc hP1 hD1 rfl
  generalize H1 = H at hP hS ⊢
  obtain ⟨hP9, hD9⟩ := PDq.sub (ws' := [(oX0 a0 p0 a1 a3 a4 a5 a6 i6 i7 i8 (i9 - (a.toInt64)) i10 i11 i12 i13 i14 i15 i16 i17 i18 i19), (a1, .inr (6, [.ref a2, .int (nI qn2), .int (nI qn3)])), (a2, .inl (cA 0, 240, .inl fn4))]) hP hD [0, 1, 2] (by decide) rfl
  refine W.widen (k := 0) (n := 0) (Nat.le_of_ble_eq_true rfl) (Nat.le_of_ble_eq_true rfl) ?_
  exact (W.vret hx hb hr (fun t ht hW => ⟨⟨(), rfl, trivial, qn2, qn3, fn4, hn5, hn6, hn7, by rw [ht]; exact hP9, hD9⟩, hS.F ht⟩) hS.2.2 dX0_payOutInterest_25)

set_option maxHeartbeats 4000000 in
set_option maxRecDepth 100000 in
/-- the class, exactly: X0_makePayment -/
theorem c_makePayment (l : Launch) (D : va_G) (cA : Nat → ClassId) (sa : Nat → Nat) (a0 : Nat) (a1 : Nat) (a2 : Nat) (a3 : Nat) (a4 : Nat) (a5 : Nat) (a6 : Nat) (p0 : Nat) (i6 : Int32) (i7 : Int32) (i8 : Int32) (i12 : Int32) (i13 : Int32) (i14 : Int32) (i15 : Int32) (i16 : Int32) (i17 : Int32) (i18 : Int32) (i19 : Int32) (i9 : Int64) (i10 : Int64) (i11 : Int64) (nx : Nat) (kp : Nat) (fr : Nat → Int32) (p1 : Nat) (p2 : Nat) (p3 : Nat) (p4 : Nat) (p5 : Nat) (p6 : Nat) (p7 : Nat) (p8 : Nat) (p9 : Nat) (cn : Nat) (pq : Nat) (nd : Nat) (sc : Nat) (pr : Int32) (pb : Int32) (pe : Int32) (pg : Int32) (fs : Nat → Int32) (fp : Nat → Int32) (fam : Nat → Int32) (mi : Nat) (a : Int32) (sz : Nat) (hnx : nx < 60) (hkp : kp ≤ 60) (hmi : mi < 10) : Met l yX0_makePayment wsX0_makePayment ({ frames := 2, cells := 0, slots := 0, locals := 46 }) (va_Pc [.ref a0, .int (nI mi), .int a] (Wd D cA sa [(oX0 a0 p0 a1 a3 a4 a5 a6 i6 i7 i8 i9 i10 i11 i12 i13 i14 i15 i16 i17 i18 i19), (a1, .inr (6, [.ref a2, .int (nI nx), .int (nI kp)])), (a2, .inl (cA 0, 240, .inl fr)), (a3, .inl (cA 0, 10, .inl fs)), (a4, .inl (cA 0, 10, .inl fp)), (oX3 p0 pr pb pe pg p1 (nI nd) p2 p3 p4 p5 (nI cn) p6 (nI pq) p7 p8 p9 (nI sc)), (p3, .inl (cA 0, 10, .inl fam))] sz)) (va_Qi (fun (r : Int32) (_ : Unit) => True) (fun (_ : Unit) t => ∃ z12 : Int32, ∃ z13 : Int32, ∃ ny : Nat, ∃ ky : Nat, ∃ zr : Nat → Int32, ∃ zs : Nat → Int32, ∃ zp : Nat → Int32, ny < 60 ∧ ky ≤ 60 ∧ ky = entC kp a ∧ z12 + z13 = i12 + i13 + a ∧ Upp mi ((fp mi) + a) fp zp ∧ PaidS mi fs zp fam zs ∧ Wq D (va_A [(oX0 a0 p0 a1 a3 a4 a5 a6 i6 i7 i8 i9 i10 i11 i12 i13 i14 i15 i16 i17 i18 i19), (a1, .inr (6, [.ref a2, .int (nI nx), .int (nI kp)])), (a2, .inl (cA 0, 240, .inl fr)), (a3, .inl (cA 0, 10, .inl fs)), (a4, .inl (cA 0, 10, .inl fp)), (oX3 p0 pr pb pe pg p1 (nI nd) p2 p3 p4 p5 (nI cn) p6 (nI pq) p7 p8 p9 (nI sc)), (p3, .inl (cA 0, 10, .inl fam))] sz) [(oX0 a0 p0 a1 a3 a4 a5 a6 i6 i7 (i8 - a) i9 i10 i11 z12 z13 i14 i15 i16 i17 i18 i19), (a1, .inr (6, [.ref a2, .int (nI ny), .int (nI ky)])), (a2, .inl (cA 0, 240, .inl zr)), (a3, .inl (cA 0, 10, .inl zs)), (a4, .inl (cA 0, 10, .inl zp)), (oX3 p0 pr pb pe pg p1 (nI nd) p2 p3 p4 p5 (nI cn) p6 (nI pq) p7 p8 p9 (nI sc)), (p3, .inl (cA 0, 10, .inl fam))] t) (va_A [(oX0 a0 p0 a1 a3 a4 a5 a6 i6 i7 i8 i9 i10 i11 i12 i13 i14 i15 i16 i17 i18 i19), (a1, .inr (6, [.ref a2, .int (nI nx), .int (nI kp)])), (a2, .inl (cA 0, 240, .inl fr)), (a3, .inl (cA 0, 10, .inl fs)), (a4, .inl (cA 0, 10, .inl fp)), (oX3 p0 pr pb pe pg p1 (nI nd) p2 p3 p4 p5 (nI cn) p6 (nI pq) p7 p8 p9 (nI sc)), (p3, .inl (cA 0, 10, .inl fam))] sz)) 0 0 (va_A [(oX0 a0 p0 a1 a3 a4 a5 a6 i6 i7 i8 i9 i10 i11 i12 i13 i14 i15 i16 i17 i18 i19), (a1, .inr (6, [.ref a2, .int (nI nx), .int (nI kp)])), (a2, .inl (cA 0, 240, .inl fr)), (a3, .inl (cA 0, 10, .inl fs)), (a4, .inl (cA 0, 10, .inl fp)), (oX3 p0 pr pb pe pg p1 (nI nd) p2 p3 p4 p5 (nI cn) p6 (nI pq) p7 p8 p9 (nI sc)), (p3, .inl (cA 0, 10, .inl fam))] sz) := by
  refine Met.ofW (cc := cX0_makePayment) (maxL := 4) (ret := (some .int)) (by decide) rfl ?_
  intro p e s m args below meth c s₁ B hml hv
  obtain ⟨rfl, hsz, hP, hK, hD0, hC, hZ⟩ := hv
  have hx := B.exec
  have hb := B.bytes
  have hr := B.returns
  have hts := atoms_spec (ws := wsX0_makePayment) B.pre
  have hown : s.vm.findClass RX0 = some m.cls := findClass_of_methodNamed B.named
  have hlocks := B.notSynchronized
  subst hsz
  have hD := hD0.self (sz := s.heap.size)
  generalize hAe : va_A [(oX0 a0 p0 a1 a3 a4 a5 a6 i6 i7 i8 i9 i10 i11 i12 i13 i14 i15 i16 i17 i18 i19), (a1, .inr (6, [.ref a2, .int (nI nx), .int (nI kp)])), (a2, .inl (cA 0, 240, .inl fr)), (a3, .inl (cA 0, 10, .inl fs)), (a4, .inl (cA 0, 10, .inl fp)), (oX3 p0 pr pb pe pg p1 (nI nd) p2 p3 p4 p5 (nI cn) p6 (nI pq) p7 p8 p9 (nI sc)), (p3, .inl (cA 0, 10, .inl fam))] s.heap.size = A at hD hZ ⊢
  have hA : ∀ q : Nat, s.heap.size ≤ q → A q := fun q h => by rw [← hAe]; exact Or.inr h
  have hS : va_S A s.heap s.heap [] := va_S.rf
  have hP : va_P D vwCl [(oX0 a0 p0 a1 a3 a4 a5 a6 i6 i7 i8 i9 i10 i11 i12 i13 i14 i15 i16 i17 i18 i19), (a1, .inr (6, [.ref a2, .int (nI nx), .int (nI kp)])), (a2, .inl (cA 0, 240, .inl fr)), (a3, .inl (cA 0, 10, .inl fs)), (a4, .inl (cA 0, 10, .inl fp)), (oX3 p0 pr pb pe pg p1 (nI nd) p2 p3 p4 p5 (nI cn) p6 (nI pq) p7 p8 p9 (nI sc)), (p3, .inl (cA 0, 10, .inl fam))] s.heap := hP
  have hl := lv_entry ([.ref a0, .int (nI mi), .int a]) (n := 4) (Nat.le_of_ble_eq_true rfl)
  rw [lg_entry_eq]
  generalize (lg_sl ([.ref a0, .int (nI mi), .int a]) ++ List.replicate (4 - (lg_sl ([.ref a0, .int (nI mi), .int a])).length) Slot.unset).toArray = ls at hl ⊢
  have hl : lv_has ls 4 [(0, .ref a0), (1, .int (nI mi)), (2, .int a)] := hl
  have inX0 : ∀ w ∈ u_ws RX0 TX0 20, w ∈ wsX0_makePayment := by decide +kernel
  refine lv_aload_n hx hb dX0_makePayment_0 rfl (lv_at hl 0 rfl) ?_
  refine va_get (D := D) (ci := 4) (v := .ref p0) (C := RX0) (T := TX0) (N := 20) hx hb hts inX0 hown hK hP 0 rfl rfl 0 (by decide) (hts (.fieldLink RX0 31 "EscrowDesk$Account" "plan" "LEscrowDesk$Plan;") (by decide +kernel)) (fun _ h9 => h9) rfl dX0_makePayment_1 ?_
  refine lv_iload_n hx hb dX0_makePayment_4 rfl (lv_at hl 2 rfl) ?_
  obtain ⟨hPc, hDc, hFc⟩ := PDq.cut (wc := [(oX3 p0 pr pb pe pg p1 (nI nd) p2 p3 p4 p5 (nI cn) p6 (nI pq) p7 p8 p9 (nI sc))]) hP hD hS hA [5] (by decide) rfl
  refine va_calli (va_runV (As := [.int a]) (rest := []) ⟨hx, hb, hml, hown, hts⟩ (s_feeOf l D cA sa p0 p1 p2 p3 p4 p5 p6 p7 p8 p9 cn pq nd sc pr pb pe pg a s.heap.size) (cwV 1 hts gX0_makePayment_X3_feeOf rfl rfl rfl (by decide +kernel) ⟨(Nat.le_of_ble_eq_true rfl), (Nat.le_of_ble_eq_true rfl)⟩) ⟨Wd.blind, va_recv hK hPc (ci := 7) (q0 := 0) rfl rfl, fun U hU hW => ⟨rfl, Wd.call hPc hDc hK hC hZ hS hFc U hU hW⟩⟩ rfl rfl hl.1 rfl (lv_room (Nat.le_of_ble_eq_true rfl)) dX0_makePayment_5 ⟨(Nat.le_of_ble_eq_true rfl), (Nat.le_of_ble_eq_true rfl)⟩) hS (fun q _ h => hFc q h) hFc (fun rn1 u t H1 locs ht hvm hw hB hz1 hk1 hS => ?_)
  obtain ⟨hP1, hD1⟩ := hB
  rw [ht] at hP1
  obtain ⟨hP, hD⟩ := PDq.join (w := [(oX0 a0 p0 a1 a3 a4 a5 a6 i6 i7 i8 i9 i10 i11 i12 i13 i14 i15 i16 i17 i18 i19), (a1, .inr (6, [.ref a2, .int (nI nx), .int (nI kp)])), (a2, .inl (cA 0, 240, .inl fr)), (a3, .inl (cA 0, 10, .inl fs)), (a4, .inl (cA 0, 10, .inl fp)), (p3, .inl (cA 0, 10, .inl fam)), (oX3 p0 pr pb pe pg p1 (nI nd) p2 p3 p4 p5 (nI cn) p6 (nI pq) p7 p8 p9 (nI sc))]) 6 hP hD [5] [0, 1, 2, 3, 4, 6] rfl rfl (by decide) (by decide) hk1 hFc hP1 hD1 rfl
  generalize H1 = H at hP hS ⊢
  refine lv_istore_n (lv' := [(3, .int rn1), (0, .ref a0), (1, .int (nI mi)), (2, .int a)]) hx hb dX0_makePayment_8 rfl hl (by decide) rfl (fun ls hl => ?_)
  refine lv_aload_n hx hb dX0_makePayment_9 rfl (lv_at hl 1 rfl) ?_
  refine lv_dup hx hb dX0_makePayment_10 rfl ?_
  refine va_get (D := D) (ci := 4) (v := .int i8) (C := RX0) (T := TX0) (N := 20) hx hb hts inX0 hown hK hP 0 rfl rfl 8 (by decide) (hts (.fieldLink RX0 47 "EscrowDesk$Account" "principal" "I") (by decide +kernel)) (fun _ h9 => h9) rfl dX0_makePayment_11 ?_
  refine lv_iload_n hx hb dX0_makePayment_14 rfl (lv_at hl 3 rfl) ?_
  refine lv_isub hx hb dX0_makePayment_15 ?_
  refine lv_topi (fun yn2 eyn2 => ?_)
  obtain rfl : yn2 = (i8 - a) := eyn2
  refine va_put (D := D) (ci := 4) (v := .int (i8 - a)) (ty := .int) (C := RX0) (T := TX0) (N := 20) hx hb hts inX0 tyX0 tyX0_ok nmX0 hown hK hP hD hS 0 rfl rfl 8 (by decide) (hts (.fieldLink RX0 47 "EscrowDesk$Account" "principal" "I") (by decide +kernel)) (fun _ h9 => h9) rfl (by decide +kernel) rfl rfl (Nat.le_of_ble_eq_true rfl) dX0_makePayment_16 (fun H locs hP hD hS => ?_)
  obtain ⟨hP, hD⟩ : PDq D A [(oX0 a0 p0 a1 a3 a4 a5 a6 i6 i7 (i8 - a) i9 i10 i11 i12 i13 i14 i15 i16 i17 i18 i19), (a1, .inr (6, [.ref a2, .int (nI nx), .int (nI kp)])), (a2, .inl (cA 0, 240, .inl fr)), (a3, .inl (cA 0, 10, .inl fs)), (a4, .inl (cA 0, 10, .inl fp)), (p3, .inl (cA 0, 10, .inl fam)), (oX3 p0 pr pb pe pg p1 (nI nd) p2 p3 p4 p5 (nI cn) p6 (nI pq) p7 p8 p9 (nI sc))] H := ⟨hP, hD⟩
  refine lv_aload_n hx hb dX0_makePayment_19 rfl (lv_at hl 1 rfl) ?_
  refine va_get (D := D) (ci := 4) (v := .ref a4) (C := RX0) (T := TX0) (N := 20) hx hb hts inX0 hown hK hP 0 rfl rfl 3 (by decide) (hts (.fieldLink RX0 22 "EscrowDesk$Account" "paid" "[I") (by decide +kernel)) (fun _ h9 => h9) rfl dX0_makePayment_20 ?_
  refine lv_iload_n hx hb dX0_makePayment_23 rfl (lv_at hl 2 rfl) ?_
  refine lv_dup2_11 hx hb dX0_makePayment_24 rfl rfl ?_
  refine va_iald hx hb hK hP 4 0 rfl rfl (vp_in_nI (n := mi) (N := 10) (show mi < 10 by omega) (by decide)) dX0_makePayment_25 ?_
  refine lv_topi (fun yn3 eyn3 => ?_)
  obtain rfl : yn3 = (fp mi) := eyn3.trans (by rw [nI_clamp (by omega)])
  refine lv_iload_n hx hb dX0_makePayment_26 rfl (lv_at hl 3 rfl) ?_
  refine lv_iadd hx hb dX0_makePayment_27 ?_
  refine lv_topi (fun yn4 eyn4 => ?_)
  obtain rfl : yn4 = ((fp mi) + a) := eyn4
  refine va_iast hx hb hK hP hD hS 4 0 rfl rfl (vp_in_nI (n := mi) (N := 10) (show mi < 10 by omega) (by decide)) dX0_makePayment_28 (fun H locs hP hD hS => ?_)
  obtain ⟨hP, hD⟩ : PDq D A [(oX0 a0 p0 a1 a3 a4 a5 a6 i6 i7 (i8 - a) i9 i10 i11 i12 i13 i14 i15 i16 i17 i18 i19), (a1, .inr (6, [.ref a2, .int (nI nx), .int (nI kp)])), (a2, .inl (cA 0, 240, .inl fr)), (a3, .inl (cA 0, 10, .inl fs)), (a4, .inl (cA 0, 10, .inl (upd fp (((nI mi)).toNatClampNeg) ((fp mi) + a)))), (p3, .inl (cA 0, 10, .inl fam)), (oX3 p0 pr pb pe pg p1 (nI nd) p2 p3 p4 p5 (nI cn) p6 (nI pq) p7 p8 p9 (nI sc))] H := ⟨hP, hD⟩
  have hn6 : Upp mi ((fp mi) + a) fp (upd fp (((nI mi)).toNatClampNeg) ((fp mi) + a)) := Upp.of (by omega)
  have hn7 : Rdd (upd fp (((nI mi)).toNatClampNeg) ((fp mi) + a)) := rfl
  generalize (upd fp (((nI mi)).toNatClampNeg) ((fp mi) + a)) = fn5 at hP hD hn6 hn7
  obtain ⟨hP, hD⟩ : PDq D A [(oX0 a0 p0 a1 a3 a4 a5 a6 i6 i7 (i8 - a) i9 i10 i11 i12 i13 i14 i15 i16 i17 i18 i19), (a1, .inr (6, [.ref a2, .int (nI nx), .int (nI kp)])), (a2, .inl (cA 0, 240, .inl fr)), (a3, .inl (cA 0, 10, .inl fs)), (a4, .inl (cA 0, 10, .inl fn5)), (p3, .inl (cA 0, 10, .inl fam)), (oX3 p0 pr pb pe pg p1 (nI nd) p2 p3 p4 p5 (nI cn) p6 (nI pq) p7 p8 p9 (nI sc))] H := ⟨hP, hD⟩
  refine lv_aload_n hx hb dX0_makePayment_29 rfl (lv_at hl 1 rfl) ?_
  refine lv_dup hx hb dX0_makePayment_30 rfl ?_
  refine va_get (D := D) (ci := 4) (v := .int i13) (C := RX0) (T := TX0) (N := 20) hx hb hts inX0 hown hK hP 0 rfl rfl 13 (by decide) (hts (.fieldLink RX0 63 "EscrowDesk$Account" "fees" "I") (by decide +kernel)) (fun _ h9 => h9) rfl dX0_makePayment_31 ?_
  refine lv_iload_n hx hb dX0_makePayment_34 rfl (lv_at hl 0 rfl) ?_
  refine lv_iadd hx hb dX0_makePayment_35 ?_
  refine lv_topi (fun yn8 eyn8 => ?_)
  obtain rfl : yn8 = (i13 + rn1) := eyn8
  refine va_put (D := D) (ci := 4) (v := .int (i13 + rn1)) (ty := .int) (C := RX0) (T := TX0) (N := 20) hx hb hts inX0 tyX0 tyX0_ok nmX0 hown hK hP hD hS 0 rfl rfl 13 (by decide) (hts (.fieldLink RX0 63 "EscrowDesk$Account" "fees" "I") (by decide +kernel)) (fun _ h9 => h9) rfl (by decide +kernel) rfl rfl (Nat.le_of_ble_eq_true rfl) dX0_makePayment_36 (fun H locs hP hD hS => ?_)
  obtain ⟨hP, hD⟩ : PDq D A [(oX0 a0 p0 a1 a3 a4 a5 a6 i6 i7 (i8 - a) i9 i10 i11 i12 (i13 + rn1) i14 i15 i16 i17 i18 i19), (a1, .inr (6, [.ref a2, .int (nI nx), .int (nI kp)])), (a2, .inl (cA 0, 240, .inl fr)), (a3, .inl (cA 0, 10, .inl fs)), (a4, .inl (cA 0, 10, .inl fn5)), (p3, .inl (cA 0, 10, .inl fam)), (oX3 p0 pr pb pe pg p1 (nI nd) p2 p3 p4 p5 (nI cn) p6 (nI pq) p7 p8 p9 (nI sc))] H := ⟨hP, hD⟩
  refine lv_aload_n hx hb dX0_makePayment_39 rfl (lv_at hl 1 rfl) ?_
  refine lv_dup hx hb dX0_makePayment_40 rfl ?_
  refine va_get (D := D) (ci := 4) (v := .int i12) (C := RX0) (T := TX0) (N := 20) hx hb hts inX0 hown hK hP 0 rfl rfl 12 (by decide) (hts (.fieldLink RX0 60 "EscrowDesk$Account" "received" "I") (by decide +kernel)) (fun _ h9 => h9) rfl dX0_makePayment_41 ?_
  refine lv_iload_n hx hb dX0_makePayment_44 rfl (lv_at hl 3 rfl) ?_
  refine lv_iload_n hx hb dX0_makePayment_45 rfl (lv_at hl 0 rfl) ?_
  refine lv_isub hx hb dX0_makePayment_46 ?_
  refine lv_topi (fun yn9 eyn9 => ?_)
  obtain rfl : yn9 = (a - rn1) := eyn9
  refine lv_iadd hx hb dX0_makePayment_47 ?_
  refine lv_topi (fun yn10 eyn10 => ?_)
  obtain rfl : yn10 = (i12 + (a - rn1)) := eyn10
  refine va_put (D := D) (ci := 4) (v := .int (i12 + (a - rn1))) (ty := .int) (C := RX0) (T := TX0) (N := 20) hx hb hts inX0 tyX0 tyX0_ok nmX0 hown hK hP hD hS 0 rfl rfl 12 (by decide) (hts (.fieldLink RX0 60 "EscrowDesk$Account" "received" "I") (by decide +kernel)) (fun _ h9 => h9) rfl (by decide +kernel) rfl rfl (Nat.le_of_ble_eq_true rfl) dX0_makePayment_48 (fun H locs hP hD hS => ?_)
  obtain ⟨hP, hD⟩ : PDq D A [(oX0 a0 p0 a1 a3 a4 a5 a6 i6 i7 (i8 - a) i9 i10 i11 (i12 + (a - rn1)) (i13 + rn1) i14 i15 i16 i17 i18 i19), (a1, .inr (6, [.ref a2, .int (nI nx), .int (nI kp)])), (a2, .inl (cA 0, 240, .inl fr)), (a3, .inl (cA 0, 10, .inl fs)), (a4, .inl (cA 0, 10, .inl fn5)), (p3, .inl (cA 0, 10, .inl fam)), (oX3 p0 pr pb pe pg p1 (nI nd) p2 p3 p4 p5 (nI cn) p6 (nI pq) p7 p8 p9 (nI sc))] H := ⟨hP, hD⟩
  refine lv_aload_n hx hb dX0_makePayment_51 rfl (lv_at hl 1 rfl) ?_
  refine va_get (D := D) (ci := 4) (v := .ref a1) (C := RX0) (T := TX0) (N := 20) hx hb hts inX0 hown hK hP 0 rfl rfl 1 (by decide) (hts (.fieldLink RX0 12 "EscrowDesk$Account" "ledger" "LEscrowDesk$Ledger;") (by decide +kernel)) (fun _ h9 => h9) rfl dX0_makePayment_52 ?_
  refine lv_iconst (v := 1) hx hb dX0_makePayment_55 (by decide) ?_
  refine lv_aload_n hx hb dX0_makePayment_56 rfl (lv_at hl 1 rfl) ?_
  refine va_get (D := D) (ci := 4) (v := .int i6) (C := RX0) (T := TX0) (N := 20) hx hb hts inX0 hown hK hP 0 rfl rfl 6 (by decide) (hts (.fieldLink RX0 40 "EscrowDesk$Account" "day" "I") (by decide +kernel)) (fun _ h9 => h9) rfl dX0_makePayment_57 ?_
  refine lv_iload_n hx hb dX0_makePayment_60 rfl (lv_at hl 3 rfl) ?_
  refine lv_iload_n hx hb dX0_makePayment_61 rfl (lv_at hl 2 rfl) ?_
  obtain ⟨hPc, hDc, hFc⟩ := PDq.cut (wc := [(a1, .inr (6, [.ref a2, .int (nI nx), .int (nI kp)])), (a2, .inl (cA 0, 240, .inl fr))]) hP hD hS hA [1, 2] (by decide) rfl
  refine va_callv (va_runV (As := [.int 1, .int i6, .int a, .int (nI mi)]) (rest := []) ⟨hx, hb, hml, hown, hts⟩ (c_enter l D cA sa a1 a2 nx kp 1 i6 a (nI mi) fr H.size hnx hkp) (cwV 4 hts gX0_makePayment_X2_enter rfl rfl rfl (by decide +kernel) ⟨(Nat.le_of_ble_eq_true rfl), (Nat.le_of_ble_eq_true rfl)⟩) ⟨Wd.blind, va_recv hK hPc (ci := 6) (q0 := 0) rfl rfl, fun U hU hW => ⟨rfl, Wd.call hPc hDc hK hC hZ hS hFc U hU hW⟩⟩ rfl rfl hl.1 rfl (lv_room (Nat.le_of_ble_eq_true rfl)) dX0_makePayment_62 ⟨(Nat.le_of_ble_eq_true rfl), (Nat.le_of_ble_eq_true rfl)⟩) hS (fun q _ h => hFc q h) hFc (fun u t H1 locs ht hvm hw hB hz1 hk1 hS => ?_)
  obtain ⟨qn11, qn12, fn13, hn14, hn15, hn16, hP1, hD1⟩ := hB
  rw [ht] at hP1
  obtain ⟨hP, hD⟩ := PDq.join (w := [(oX0 a0 p0 a1 a3 a4 a5 a6 i6 i7 (i8 - a) i9 i10 i11 (i12 + (a - rn1)) (i13 + rn1) i14 i15 i16 i17 i18 i19), (a3, .inl (cA 0, 10, .inl fs)), (a4, .inl (cA 0, 10, .inl fn5)), (p3, .inl (cA 0, 10, .inl fam)), (oX3 p0 pr pb pe pg p1 (nI nd) p2 p3 p4 p5 (nI cn) p6 (nI pq) p7 p8 p9 (nI sc)), (a1, .inr (6, [.ref a2, .int (nI qn11), .int (nI qn12)])), (a2, .inl (cA 0, 240, .inl fn13))]) 5 hP hD [1, 2] [0, 3, 4, 5, 6] rfl rfl (by decide) (by decide) hk1 hFc hP1 hD1 rfl
  generalize H1 = H at hP hS ⊢
  refine lv_aload_n hx hb dX0_makePayment_65 rfl (lv_at hl 1 rfl) ?_
  refine lv_iload_n hx hb dX0_makePayment_66 rfl (lv_at hl 2 rfl) ?_
  obtain ⟨hPc, hDc, hFc⟩ := PDq.cut (wc := [(oX0 a0 p0 a1 a3 a4 a5 a6 i6 i7 (i8 - a) i9 i10 i11 (i12 + (a - rn1)) (i13 + rn1) i14 i15 i16 i17 i18 i19), (a3, .inl (cA 0, 10, .inl fs))]) hP hD hS hA [0, 1] (by decide) rfl
  refine va_calli (va_runV (As := [.int (nI mi)]) (rest := []) ⟨hx, hb, hml, hown, hts⟩ (c_isClosed l D cA sa a0 a1 a3 a4 a5 a6 p0 i6 i7 (i8 - a) (i12 + (a - rn1)) (i13 + rn1) i14 i15 i16 i17 i18 i19 i9 i10 i11 mi fs H.size hmi) (cwV 1 hts gX0_makePayment_X0_isClosed rfl rfl rfl (by decide +kernel) ⟨(Nat.le_of_ble_eq_true rfl), (Nat.le_of_ble_eq_true rfl)⟩) ⟨Wd.blind, va_recv hK hPc (ci := 4) (q0 := 0) rfl rfl, fun U hU hW => ⟨rfl, Wd.call hPc hDc hK hC hZ hS hFc U hU hW⟩⟩ rfl rfl hl.1 rfl (lv_room (Nat.le_of_ble_eq_true rfl)) dX0_makePayment_67 ⟨(Nat.le_of_ble_eq_true rfl), (Nat.le_of_ble_eq_true rfl)⟩) hS (fun q _ h => hFc q h) hFc (fun rn17 u t H1 locs ht hvm hw hB hz1 hk1 hS => ?_)
  obtain ⟨hP1, hD1⟩ := hB
  rw [ht] at hP1
  obtain ⟨hP, hD⟩ := PDq.join (w := [(a4, .inl (cA 0, 10, .inl fn5)), (p3, .inl (cA 0, 10, .inl fam)), (oX3 p0 pr pb pe pg p1 (nI nd) p2 p3 p4 p5 (nI cn) p6 (nI pq) p7 p8 p9 (nI sc)), (a1, .inr (6, [.ref a2, .int (nI qn11), .int (nI qn12)])), (a2, .inl (cA 0, 240, .inl fn13)), (oX0 a0 p0 a1 a3 a4 a5 a6 i6 i7 (i8 - a) i9 i10 i11 (i12 + (a - rn1)) (i13 + rn1) i14 i15 i16 i17 i18 i19), (a3, .inl (cA 0, 10, .inl fs))]) 5 hP hD [0, 1] [2, 3, 4, 5, 6] rfl rfl (by decide) (by decide) hk1 hFc hP1 hD1 rfl
  generalize H1 = H at hP hS ⊢
  rcases hw with ⟨hr9, hn18⟩ | ⟨hr9, hn18⟩
  · skip
    subst hr9
    refine lv_if_ne (tgt := 88) hx hb dX0_makePayment_70 (by decide) (fun c19 => ?_) (fun c9 => absurd c9 (by decide))
    refine lv_iload_n hx hb dX0_makePayment_88 rfl (lv_at hl 0 rfl) ?_
    obtain ⟨hP9, hD9⟩ := PDq.sub (ws' := [(oX0 a0 p0 a1 a3 a4 a5 a6 i6 i7 (i8 - a) i9 i10 i11 (i12 + (a - rn1)) (i13 + rn1) i14 i15 i16 i17 i18 i19), (a1, .inr (6, [.ref a2, .int (nI qn11), .int (nI qn12)])), (a2, .inl (cA 0, 240, .inl fn13)), (a3, .inl (cA 0, 10, .inl fs)), (a4, .inl (cA 0, 10, .inl fn5)), (oX3 p0 pr pb pe pg p1 (nI nd) p2 p3 p4 p5 (nI cn) p6 (nI pq) p7 p8 p9 (nI sc)), (p3, .inl (cA 0, 10, .inl fam))]) hP hD [5, 3, 4, 6, 0, 2, 1] (by decide) rfl
    refine W.widen (k := 0) (n := 0) (Nat.le_of_ble_eq_true rfl) (Nat.le_of_ble_eq_true rfl) ?_
    exact (W.iret (v := rn1) hx hb hr (fun t ht hW => ⟨⟨rn1, (), rfl, trivial, (i12 + (a - rn1)), (i13 + rn1), qn11, qn12, fn13, fs, fn5, hn14, hn15, hn16, (fee_sum _ _ _ _), hn6, (PaidS.c hn18), by rw [ht]; exact hP9, hD9⟩, hS.F ht⟩) hS.2.2 dX0_makePayment_89)
  · skip
    subst hr9
    refine lv_if_ne (tgt := 88) hx hb dX0_makePayment_70 (by decide) (fun c9 => absurd c9 (by decide)) (fun c20 => ?_)
    refine lv_aload_n hx hb dX0_makePayment_73 rfl (lv_at hl 1 rfl) ?_
    refine lv_iload_n hx hb dX0_makePayment_74 rfl (lv_at hl 2 rfl) ?_
    obtain ⟨hPc, hDc, hFc⟩ := PDq.cut (wc := [(oX0 a0 p0 a1 a3 a4 a5 a6 i6 i7 (i8 - a) i9 i10 i11 (i12 + (a - rn1)) (i13 + rn1) i14 i15 i16 i17 i18 i19), (oX3 p0 pr pb pe pg p1 (nI nd) p2 p3 p4 p5 (nI cn) p6 (nI pq) p7 p8 p9 (nI sc)), (a3, .inl (cA 0, 10, .inl fs)), (a4, .inl (cA 0, 10, .inl fn5)), (p3, .inl (cA 0, 10, .inl fam))]) hP hD hS hA [5, 2, 6, 0, 1] (by decide) rfl
    refine va_calli (va_runV (As := [.int (nI mi)]) (rest := []) ⟨hx, hb, hml, hown, hts⟩ (c_remainingOf l D cA sa a0 a1 a3 a4 a5 a6 p0 i6 i7 (i8 - a) (i12 + (a - rn1)) (i13 + rn1) i14 i15 i16 i17 i18 i19 i9 i10 i11 p1 p2 p3 p4 p5 p6 p7 p8 p9 cn pq nd sc pr pb pe pg mi fs fn5 fam H.size hmi) (cwV 1 hts gX0_makePayment_X0_remainingOf rfl rfl rfl (by decide +kernel) ⟨(Nat.le_of_ble_eq_true rfl), (Nat.le_of_ble_eq_true rfl)⟩) ⟨Wd.blind, va_recv hK hPc (ci := 4) (q0 := 0) rfl rfl, fun U hU hW => ⟨rfl, Wd.call hPc hDc hK hC hZ hS hFc U hU hW⟩⟩ rfl rfl hl.1 rfl (lv_room (Nat.le_of_ble_eq_true rfl)) dX0_makePayment_75 ⟨(Nat.le_of_ble_eq_true rfl), (Nat.le_of_ble_eq_true rfl)⟩) hS (fun q _ h => hFc q h) hFc (fun rn21 u t H1 locs ht hvm hw hB hz1 hk1 hS => ?_)
    obtain ⟨hP1, hD1⟩ := hB
    rw [ht] at hP1
    obtain ⟨hP, hD⟩ := PDq.join (w := [(a1, .inr (6, [.ref a2, .int (nI qn11), .int (nI qn12)])), (a2, .inl (cA 0, 240, .inl fn13)), (oX0 a0 p0 a1 a3 a4 a5 a6 i6 i7 (i8 - a) i9 i10 i11 (i12 + (a - rn1)) (i13 + rn1) i14 i15 i16 i17 i18 i19), (oX3 p0 pr pb pe pg p1 (nI nd) p2 p3 p4 p5 (nI cn) p6 (nI pq) p7 p8 p9 (nI sc)), (a3, .inl (cA 0, 10, .inl fs)), (a4, .inl (cA 0, 10, .inl fn5)), (p3, .inl (cA 0, 10, .inl fam))]) 2 hP hD [5, 2, 6, 0, 1] [3, 4] rfl rfl (by decide) (by decide) hk1 hFc hP1 hD1 rfl
    generalize H1 = H at hP hS ⊢
    obtain rfl : rn21 = (rmC fs fn5 fam mi) := hw
    refine lv_if_ne (tgt := 88) hx hb dX0_makePayment_78 (by decide) (fun c22 => ?_) (fun c22 => ?_)
    · skip
      refine lv_iload_n hx hb dX0_makePayment_88 rfl (lv_at hl 0 rfl) ?_
      obtain ⟨hP9, hD9⟩ := PDq.sub (ws' := [(oX0 a0 p0 a1 a3 a4 a5 a6 i6 i7 (i8 - a) i9 i10 i11 (i12 + (a - rn1)) (i13 + rn1) i14 i15 i16 i17 i18 i19), (a1, .inr (6, [.ref a2, .int (nI qn11), .int (nI qn12)])), (a2, .inl (cA 0, 240, .inl fn13)), (a3, .inl (cA 0, 10, .inl fs)), (a4, .inl (cA 0, 10, .inl fn5)), (oX3 p0 pr pb pe pg p1 (nI nd) p2 p3 p4 p5 (nI cn) p6 (nI pq) p7 p8 p9 (nI sc)), (p3, .inl (cA 0, 10, .inl fam))]) hP hD [2, 0, 1, 4, 5, 3, 6] (by decide) rfl
      refine W.widen (k := 0) (n := 0) (Nat.le_of_ble_eq_true rfl) (Nat.le_of_ble_eq_true rfl) ?_
      exact (W.iret (v := rn1) hx hb hr (fun t ht hW => ⟨⟨rn1, (), rfl, trivial, (i12 + (a - rn1)), (i13 + rn1), qn11, qn12, fn13, fs, fn5, hn14, hn15, hn16, (fee_sum _ _ _ _), hn6, (PaidS.n c22), by rw [ht]; exact hP9, hD9⟩, hS.F ht⟩) hS.2.2 dX0_makePayment_89)
    · skip
      refine lv_aload_n hx hb dX0_makePayment_81 rfl (lv_at hl 1 rfl) ?_
      refine va_get (D := D) (ci := 4) (v := .ref a3) (C := RX0) (T := TX0) (N := 20) hx hb hts inX0 hown hK hP 2 rfl rfl 2 (by decide) (hts (.fieldLink RX0 18 "EscrowDesk$Account" "state" "[I") (by decide +kernel)) (fun _ h9 => h9) rfl dX0_makePayment_82 ?_
      refine lv_iload_n hx hb dX0_makePayment_85 rfl (lv_at hl 2 rfl) ?_
      refine lv_iconst (v := 3) hx hb dX0_makePayment_86 (by decide) ?_
      refine va_iast hx hb hK hP hD hS 4 0 rfl rfl (vp_in_nI (n := mi) (N := 10) (show mi < 10 by omega) (by decide)) dX0_makePayment_87 (fun H locs hP hD hS => ?_)
      obtain ⟨hP, hD⟩ : PDq D A [(a1, .inr (6, [.ref a2, .int (nI qn11), .int (nI qn12)])), (a2, .inl (cA 0, 240, .inl fn13)), (oX0 a0 p0 a1 a3 a4 a5 a6 i6 i7 (i8 - a) i9 i10 i11 (i12 + (a - rn1)) (i13 + rn1) i14 i15 i16 i17 i18 i19), (oX3 p0 pr pb pe pg p1 (nI nd) p2 p3 p4 p5 (nI cn) p6 (nI pq) p7 p8 p9 (nI sc)), (a3, .inl (cA 0, 10, .inl (upd fs (((nI mi)).toNatClampNeg) 3))), (a4, .inl (cA 0, 10, .inl fn5)), (p3, .inl (cA 0, 10, .inl fam))] H := ⟨hP, hD⟩
      have hn24 : Upp mi 3 fs (upd fs (((nI mi)).toNatClampNeg) 3) := Upp.of (by omega)
      have hn25 : Rdd (upd fs (((nI mi)).toNatClampNeg) 3) := rfl
      generalize (upd fs (((nI mi)).toNatClampNeg) 3) = fn23 at hP hD hn24 hn25
      obtain ⟨hP, hD⟩ : PDq D A [(a1, .inr (6, [.ref a2, .int (nI qn11), .int (nI qn12)])), (a2, .inl (cA 0, 240, .inl fn13)), (oX0 a0 p0 a1 a3 a4 a5 a6 i6 i7 (i8 - a) i9 i10 i11 (i12 + (a - rn1)) (i13 + rn1) i14 i15 i16 i17 i18 i19), (oX3 p0 pr pb pe pg p1 (nI nd) p2 p3 p4 p5 (nI cn) p6 (nI pq) p7 p8 p9 (nI sc)), (a3, .inl (cA 0, 10, .inl fn23)), (a4, .inl (cA 0, 10, .inl fn5)), (p3, .inl (cA 0, 10, .inl fam))] H := ⟨hP, hD⟩
      refine lv_iload_n hx hb dX0_makePayment_88 rfl (lv_at hl 0 rfl) ?_
      obtain ⟨hP9, hD9⟩ := PDq.sub (ws' := [(oX0 a0 p0 a1 a3 a4 a5 a6 i6 i7 (i8 - a) i9 i10 i11 (i12 + (a - rn1)) (i13 + rn1) i14 i15 i16 i17 i18 i19), (a1, .inr (6, [.ref a2, .int (nI qn11), .int (nI qn12)])), (a2, .inl (cA 0, 240, .inl fn13)), (a3, .inl (cA 0, 10, .inl fn23)), (a4, .inl (cA 0, 10, .inl fn5)), (oX3 p0 pr pb pe pg p1 (nI nd) p2 p3 p4 p5 (nI cn) p6 (nI pq) p7 p8 p9 (nI sc)), (p3, .inl (cA 0, 10, .inl fam))]) hP hD [2, 0, 1, 4, 5, 3, 6] (by decide) rfl
      refine W.widen (k := 0) (n := 0) (Nat.le_of_ble_eq_true rfl) (Nat.le_of_ble_eq_true rfl) ?_
      exact (W.iret (v := rn1) hx hb hr (fun t ht hW => ⟨⟨rn1, (), rfl, trivial, (i12 + (a - rn1)), (i13 + rn1), qn11, qn12, fn13, fn23, fn5, hn14, hn15, hn16, (fee_sum _ _ _ _), hn6, (PaidS.y hn18 c22 hn24), by rw [ht]; exact hP9, hD9⟩, hS.F ht⟩) hS.2.2 dX0_makePayment_89)

set_option maxHeartbeats 4000000 in
set_option maxRecDepth 100000 in
/-- the class, exactly: X0_leaveDispute -/
theorem c_leaveDispute (l : Launch) (D : va_G) (cA : Nat → ClassId) (sa : Nat → Nat) (a0 : Nat) (a1 : Nat) (a3 : Nat) (a4 : Nat) (a5 : Nat) (a6 : Nat) (p0 : Nat) (i6 : Int32) (i7 : Int32) (i8 : Int32) (i12 : Int32) (i13 : Int32) (i14 : Int32) (i15 : Int32) (i16 : Int32) (i17 : Int32) (i18 : Int32) (i19 : Int32) (i9 : Int64) (i10 : Int64) (i11 : Int64) (mi : Nat) (a : Int32) (fs : Nat → Int32) (ff : Nat → Int32) (sz : Nat) (hmi : mi < 10) : Met l yX0_leaveDispute wsX0_leaveDispute ({ frames := 0, cells := 0, slots := 0, locals := 0 }) (va_Pc [.ref a0, .int (nI mi), .int a] (Wd D cA sa [(oX0 a0 p0 a1 a3 a4 a5 a6 i6 i7 i8 i9 i10 i11 i12 i13 i14 i15 i16 i17 i18 i19), (a3, .inl (cA 0, 10, .inl fs)), (a5, .inl (cA 0, 10, .inl ff))] sz)) (va_Qv (fun _ : Unit => True) (fun (_ : Unit) t => ∃ zs : Nat → Int32, ∃ zf : Nat → Int32, Upp mi a fs zs ∧ Upp mi 0 ff zf ∧ Wq D (va_A [(oX0 a0 p0 a1 a3 a4 a5 a6 i6 i7 i8 i9 i10 i11 i12 i13 i14 i15 i16 i17 i18 i19), (a3, .inl (cA 0, 10, .inl fs)), (a5, .inl (cA 0, 10, .inl ff))] sz) [(oX0 a0 p0 a1 a3 a4 a5 a6 i6 i7 i8 i9 i10 i11 i12 i13 i14 i15 i16 i17 i18 i19), (a3, .inl (cA 0, 10, .inl zs)), (a5, .inl (cA 0, 10, .inl zf))] t) (va_A [(oX0 a0 p0 a1 a3 a4 a5 a6 i6 i7 i8 i9 i10 i11 i12 i13 i14 i15 i16 i17 i18 i19), (a3, .inl (cA 0, 10, .inl fs)), (a5, .inl (cA 0, 10, .inl ff))] sz)) 0 0 (va_A [(oX0 a0 p0 a1 a3 a4 a5 a6 i6 i7 i8 i9 i10 i11 i12 i13 i14 i15 i16 i17 i18 i19), (a3, .inl (cA 0, 10, .inl fs)), (a5, .inl (cA 0, 10, .inl ff))] sz) := by
  refine Met.ofW (cc := cX0_leaveDispute) (maxL := 3) (ret := none) (by decide) rfl ?_
  intro p e s m args below meth c s₁ B hml hv
  obtain ⟨rfl, hsz, hP, hK, hD0, hC, hZ⟩ := hv
  have hx := B.exec
  have hb := B.bytes
  have hr := B.returns
  have hts := atoms_spec (ws := wsX0_leaveDispute) B.pre
  have hown : s.vm.findClass RX0 = some m.cls := findClass_of_methodNamed B.named
  have hlocks := B.notSynchronized
  subst hsz
  have hD := hD0.self (sz := s.heap.size)
  generalize hAe : va_A [(oX0 a0 p0 a1 a3 a4 a5 a6 i6 i7 i8 i9 i10 i11 i12 i13 i14 i15 i16 i17 i18 i19), (a3, .inl (cA 0, 10, .inl fs)), (a5, .inl (cA 0, 10, .inl ff))] s.heap.size = A at hD hZ ⊢
  have hA : ∀ q : Nat, s.heap.size ≤ q → A q := fun q h => by rw [← hAe]; exact Or.inr h
  have hS : va_S A s.heap s.heap [] := va_S.rf
  have hP : va_P D vwCl [(oX0 a0 p0 a1 a3 a4 a5 a6 i6 i7 i8 i9 i10 i11 i12 i13 i14 i15 i16 i17 i18 i19), (a3, .inl (cA 0, 10, .inl fs)), (a5, .inl (cA 0, 10, .inl ff))] s.heap := hP
  have hl := lv_entry ([.ref a0, .int (nI mi), .int a]) (n := 3) (Nat.le_of_ble_eq_true rfl)
  rw [lg_entry_eq]
  generalize (lg_sl ([.ref a0, .int (nI mi), .int a]) ++ List.replicate (3 - (lg_sl ([.ref a0, .int (nI mi), .int a])).length) Slot.unset).toArray = ls at hl ⊢
  have hl : lv_has ls 3 [(0, .ref a0), (1, .int (nI mi)), (2, .int a)] := hl
  have inX0 : ∀ w ∈ u_ws RX0 TX0 20, w ∈ wsX0_leaveDispute := by decide +kernel
  refine lv_aload_n hx hb dX0_leaveDispute_0 rfl (lv_at hl 0 rfl) ?_
  refine va_get (D := D) (ci := 4) (v := .ref a3) (C := RX0) (T := TX0) (N := 20) hx hb hts inX0 hown hK hP 0 rfl rfl 2 (by decide) (hts (.fieldLink RX0 18 "EscrowDesk$Account" "state" "[I") (by decide +kernel)) (fun _ h9 => h9) rfl dX0_leaveDispute_1 ?_
  refine lv_iload_n hx hb dX0_leaveDispute_4 rfl (lv_at hl 1 rfl) ?_
  refine lv_iload_n hx hb dX0_leaveDispute_5 rfl (lv_at hl 2 rfl) ?_
  refine va_iast hx hb hK hP hD hS 1 0 rfl rfl (vp_in_nI (n := mi) (N := 10) (show mi < 10 by omega) (by decide)) dX0_leaveDispute_6 (fun H locs hP hD hS => ?_)
  obtain ⟨hP, hD⟩ : PDq D A [(oX0 a0 p0 a1 a3 a4 a5 a6 i6 i7 i8 i9 i10 i11 i12 i13 i14 i15 i16 i17 i18 i19), (a3, .inl (cA 0, 10, .inl (upd fs (((nI mi)).toNatClampNeg) a))), (a5, .inl (cA 0, 10, .inl ff))] H := ⟨hP, hD⟩
  have hn2 : Upp mi a fs (upd fs (((nI mi)).toNatClampNeg) a) := Upp.of (by omega)
  have hn3 : Rdd (upd fs (((nI mi)).toNatClampNeg) a) := rfl
  generalize (upd fs (((nI mi)).toNatClampNeg) a) = fn1 at hP hD hn2 hn3
  obtain ⟨hP, hD⟩ : PDq D A [(oX0 a0 p0 a1 a3 a4 a5 a6 i6 i7 i8 i9 i10 i11 i12 i13 i14 i15 i16 i17 i18 i19), (a3, .inl (cA 0, 10, .inl fn1)), (a5, .inl (cA 0, 10, .inl ff))] H := ⟨hP, hD⟩
  refine lv_aload_n hx hb dX0_leaveDispute_7 rfl (lv_at hl 0 rfl) ?_
  refine va_get (D := D) (ci := 4) (v := .ref a5) (C := RX0) (T := TX0) (N := 20) hx hb hts inX0 hown hK hP 0 rfl rfl 4 (by decide) (hts (.fieldLink RX0 25 "EscrowDesk$Account" "frozen" "[I") (by decide +kernel)) (fun _ h9 => h9) rfl dX0_leaveDispute_8 ?_
  refine lv_iload_n hx hb dX0_leaveDispute_11 rfl (lv_at hl 1 rfl) ?_
  refine lv_iconst (v := 0) hx hb dX0_leaveDispute_12 (by decide) ?_
  refine va_iast hx hb hK hP hD hS 2 0 rfl rfl (vp_in_nI (n := mi) (N := 10) (show mi < 10 by omega) (by decide)) dX0_leaveDispute_13 (fun H locs hP hD hS => ?_)
  obtain ⟨hP, hD⟩ : PDq D A [(oX0 a0 p0 a1 a3 a4 a5 a6 i6 i7 i8 i9 i10 i11 i12 i13 i14 i15 i16 i17 i18 i19), (a3, .inl (cA 0, 10, .inl fn1)), (a5, .inl (cA 0, 10, .inl (upd ff (((nI mi)).toNatClampNeg) 0)))] H := ⟨hP, hD⟩
  have hn5 : Upp mi 0 ff (upd ff (((nI mi)).toNatClampNeg) 0) := Upp.of (by omega)
  have hn6 : Rdd (upd ff (((nI mi)).toNatClampNeg) 0) := rfl
  generalize (upd ff (((nI mi)).toNatClampNeg) 0) = fn4 at hP hD hn5 hn6
  obtain ⟨hP, hD⟩ : PDq D A [(oX0 a0 p0 a1 a3 a4 a5 a6 i6 i7 i8 i9 i10 i11 i12 i13 i14 i15 i16 i17 i18 i19), (a3, .inl (cA 0, 10, .inl fn1)), (a5, .inl (cA 0, 10, .inl fn4))] H := ⟨hP, hD⟩
  obtain ⟨hP9, hD9⟩ := PDq.sub (ws' := [(oX0 a0 p0 a1 a3 a4 a5 a6 i6 i7 i8 i9 i10 i11 i12 i13 i14 i15 i16 i17 i18 i19), (a3, .inl (cA 0, 10, .inl fn1)), (a5, .inl (cA 0, 10, .inl fn4))]) hP hD [0, 1, 2] (by decide) rfl
  refine W.widen (k := 0) (n := 0) (Nat.le_of_ble_eq_true rfl) (Nat.le_of_ble_eq_true rfl) ?_
  exact (W.vret hx hb hr (fun t ht hW => ⟨⟨(), rfl, trivial, fn1, fn4, hn2, hn5, by rw [ht]; exact hP9, hD9⟩, hS.F ht⟩) hS.2.2 dX0_leaveDispute_14)

set_option maxHeartbeats 4000000 in
set_option maxRecDepth 100000 in
/-- the class, exactly: X0_freeze -/
theorem c_freeze (l : Launch) (D : va_G) (cA : Nat → ClassId) (sa : Nat → Nat) (a0 : Nat) (a1 : Nat) (a3 : Nat) (a4 : Nat) (a5 : Nat) (a6 : Nat) (p0 : Nat) (i6 : Int32) (i7 : Int32) (i8 : Int32) (i12 : Int32) (i13 : Int32) (i14 : Int32) (i15 : Int32) (i16 : Int32) (i17 : Int32) (i18 : Int32) (i19 : Int32) (i9 : Int64) (i10 : Int64) (i11 : Int64) (p1 : Nat) (p2 : Nat) (p3 : Nat) (p4 : Nat) (p5 : Nat) (p6 : Nat) (p7 : Nat) (p8 : Nat) (p9 : Nat) (cn : Nat) (pq : Nat) (nd : Nat) (sc : Nat) (pr : Int32) (pb : Int32) (pe : Int32) (pg : Int32) (mi : Nat) (fs : Nat → Int32) (fp : Nat → Int32) (ff : Nat → Int32) (fam : Nat → Int32) (sz : Nat) (hcn : cn ≤ 10) (hpq : pq ≤ 8) (hnd : nd ≤ 6) (hsc : sc ≤ 350) (hmi : mi < 10) : Met l yX0_freeze wsX0_freeze ({ frames := 2, cells := 0, slots := 0, locals := 42 }) (va_Pc [.ref a0, .int (nI mi)] (Wd D cA sa [(oX0 a0 p0 a1 a3 a4 a5 a6 i6 i7 i8 i9 i10 i11 i12 i13 i14 i15 i16 i17 i18 i19), (oX3 p0 pr pb pe pg p1 (nI nd) p2 p3 p4 p5 (nI cn) p6 (nI pq) p7 p8 p9 (nI sc)), (a3, .inl (cA 0, 10, .inl fs)), (a4, .inl (cA 0, 10, .inl fp)), (p3, .inl (cA 0, 10, .inl fam)), (a5, .inl (cA 0, 10, .inl ff))] sz)) (va_Qi (fun (r : Int32) (_ : Unit) => True) (fun (_ : Unit) t => ∃ zs : Nat → Int32, ∃ zf : Nat → Int32, Upp mi 2 fs zs ∧ Upp mi (minI (rmC fs fp fam mi) (avC i8 ff cn)) ff zf ∧ Wq D (va_A [(oX0 a0 p0 a1 a3 a4 a5 a6 i6 i7 i8 i9 i10 i11 i12 i13 i14 i15 i16 i17 i18 i19), (oX3 p0 pr pb pe pg p1 (nI nd) p2 p3 p4 p5 (nI cn) p6 (nI pq) p7 p8 p9 (nI sc)), (a3, .inl (cA 0, 10, .inl fs)), (a4, .inl (cA 0, 10, .inl fp)), (p3, .inl (cA 0, 10, .inl fam)), (a5, .inl (cA 0, 10, .inl ff))] sz) [(oX0 a0 p0 a1 a3 a4 a5 a6 i6 i7 i8 i9 i10 i11 i12 i13 i14 i15 i16 i17 i18 i19), (oX3 p0 pr pb pe pg p1 (nI nd) p2 p3 p4 p5 (nI cn) p6 (nI pq) p7 p8 p9 (nI sc)), (a3, .inl (cA 0, 10, .inl zs)), (a4, .inl (cA 0, 10, .inl fp)), (p3, .inl (cA 0, 10, .inl fam)), (a5, .inl (cA 0, 10, .inl zf))] t) (va_A [(oX0 a0 p0 a1 a3 a4 a5 a6 i6 i7 i8 i9 i10 i11 i12 i13 i14 i15 i16 i17 i18 i19), (oX3 p0 pr pb pe pg p1 (nI nd) p2 p3 p4 p5 (nI cn) p6 (nI pq) p7 p8 p9 (nI sc)), (a3, .inl (cA 0, 10, .inl fs)), (a4, .inl (cA 0, 10, .inl fp)), (p3, .inl (cA 0, 10, .inl fam)), (a5, .inl (cA 0, 10, .inl ff))] sz)) 0 0 (va_A [(oX0 a0 p0 a1 a3 a4 a5 a6 i6 i7 i8 i9 i10 i11 i12 i13 i14 i15 i16 i17 i18 i19), (oX3 p0 pr pb pe pg p1 (nI nd) p2 p3 p4 p5 (nI cn) p6 (nI pq) p7 p8 p9 (nI sc)), (a3, .inl (cA 0, 10, .inl fs)), (a4, .inl (cA 0, 10, .inl fp)), (p3, .inl (cA 0, 10, .inl fam)), (a5, .inl (cA 0, 10, .inl ff))] sz) := by
  refine Met.ofW (cc := cX0_freeze) (maxL := 3) (ret := (some .int)) (by decide) rfl ?_
  intro p e s m args below meth c s₁ B hml hv
  obtain ⟨rfl, hsz, hP, hK, hD0, hC, hZ⟩ := hv
  have hx := B.exec
  have hb := B.bytes
  have hr := B.returns
  have hts := atoms_spec (ws := wsX0_freeze) B.pre
  have hown : s.vm.findClass RX0 = some m.cls := findClass_of_methodNamed B.named
  have hlocks := B.notSynchronized
  subst hsz
  have hD := hD0.self (sz := s.heap.size)
  generalize hAe : va_A [(oX0 a0 p0 a1 a3 a4 a5 a6 i6 i7 i8 i9 i10 i11 i12 i13 i14 i15 i16 i17 i18 i19), (oX3 p0 pr pb pe pg p1 (nI nd) p2 p3 p4 p5 (nI cn) p6 (nI pq) p7 p8 p9 (nI sc)), (a3, .inl (cA 0, 10, .inl fs)), (a4, .inl (cA 0, 10, .inl fp)), (p3, .inl (cA 0, 10, .inl fam)), (a5, .inl (cA 0, 10, .inl ff))] s.heap.size = A at hD hZ ⊢
  have hA : ∀ q : Nat, s.heap.size ≤ q → A q := fun q h => by rw [← hAe]; exact Or.inr h
  have hS : va_S A s.heap s.heap [] := va_S.rf
  have hP : va_P D vwCl [(oX0 a0 p0 a1 a3 a4 a5 a6 i6 i7 i8 i9 i10 i11 i12 i13 i14 i15 i16 i17 i18 i19), (oX3 p0 pr pb pe pg p1 (nI nd) p2 p3 p4 p5 (nI cn) p6 (nI pq) p7 p8 p9 (nI sc)), (a3, .inl (cA 0, 10, .inl fs)), (a4, .inl (cA 0, 10, .inl fp)), (p3, .inl (cA 0, 10, .inl fam)), (a5, .inl (cA 0, 10, .inl ff))] s.heap := hP
  have hl := lv_entry ([.ref a0, .int (nI mi)]) (n := 3) (Nat.le_of_ble_eq_true rfl)
  rw [lg_entry_eq]
  generalize (lg_sl ([.ref a0, .int (nI mi)]) ++ List.replicate (3 - (lg_sl ([.ref a0, .int (nI mi)])).length) Slot.unset).toArray = ls at hl ⊢
  have hl : lv_has ls 3 [(0, .ref a0), (1, .int (nI mi))] := hl
  have inX0 : ∀ w ∈ u_ws RX0 TX0 20, w ∈ wsX0_freeze := by decide +kernel
  refine lv_aload_n hx hb dX0_freeze_0 rfl (lv_at hl 0 rfl) ?_
  refine lv_iload_n hx hb dX0_freeze_1 rfl (lv_at hl 1 rfl) ?_
  obtain ⟨hPc, hDc, hFc⟩ := PDq.cut (wc := [(oX0 a0 p0 a1 a3 a4 a5 a6 i6 i7 i8 i9 i10 i11 i12 i13 i14 i15 i16 i17 i18 i19), (oX3 p0 pr pb pe pg p1 (nI nd) p2 p3 p4 p5 (nI cn) p6 (nI pq) p7 p8 p9 (nI sc)), (a3, .inl (cA 0, 10, .inl fs)), (a4, .inl (cA 0, 10, .inl fp)), (p3, .inl (cA 0, 10, .inl fam))]) hP hD hS hA [0, 1, 2, 3, 4] (by decide) rfl
  refine va_calli (va_runV (As := [.int (nI mi)]) (rest := []) ⟨hx, hb, hml, hown, hts⟩ (c_remainingOf l D cA sa a0 a1 a3 a4 a5 a6 p0 i6 i7 i8 i12 i13 i14 i15 i16 i17 i18 i19 i9 i10 i11 p1 p2 p3 p4 p5 p6 p7 p8 p9 cn pq nd sc pr pb pe pg mi fs fp fam s.heap.size hmi) (cwV 1 hts gX0_freeze_X0_remainingOf rfl rfl rfl (by decide +kernel) ⟨(Nat.le_of_ble_eq_true rfl), (Nat.le_of_ble_eq_true rfl)⟩) ⟨Wd.blind, va_recv hK hPc (ci := 4) (q0 := 0) rfl rfl, fun U hU hW => ⟨rfl, Wd.call hPc hDc hK hC hZ hS hFc U hU hW⟩⟩ rfl rfl hl.1 rfl (lv_room (Nat.le_of_ble_eq_true rfl)) dX0_freeze_2 ⟨(Nat.le_of_ble_eq_true rfl), (Nat.le_of_ble_eq_true rfl)⟩) hS (fun q _ h => hFc q h) hFc (fun rn1 u t H1 locs ht hvm hw hB hz1 hk1 hS => ?_)
  obtain ⟨hP1, hD1⟩ := hB
  rw [ht] at hP1
  obtain ⟨hP, hD⟩ := PDq.join (w := [(a5, .inl (cA 0, 10, .inl ff)), (oX0 a0 p0 a1 a3 a4 a5 a6 i6 i7 i8 i9 i10 i11 i12 i13 i14 i15 i16 i17 i18 i19), (oX3 p0 pr pb pe pg p1 (nI nd) p2 p3 p4 p5 (nI cn) p6 (nI pq) p7 p8 p9 (nI sc)), (a3, .inl (cA 0, 10, .inl fs)), (a4, .inl (cA 0, 10, .inl fp)), (p3, .inl (cA 0, 10, .inl fam))]) 1 hP hD [0, 1, 2, 3, 4] [5] rfl rfl (by decide) (by decide) hk1 hFc hP1 hD1 rfl
  generalize H1 = H at hP hS ⊢
  obtain rfl : rn1 = (rmC fs fp fam mi) := hw
  refine lv_aload_n hx hb dX0_freeze_5 rfl (lv_at hl 0 rfl) ?_
  obtain ⟨hPc, hDc, hFc⟩ := PDq.cut (wc := [(oX0 a0 p0 a1 a3 a4 a5 a6 i6 i7 i8 i9 i10 i11 i12 i13 i14 i15 i16 i17 i18 i19), (oX3 p0 pr pb pe pg p1 (nI nd) p2 p3 p4 p5 (nI cn) p6 (nI pq) p7 p8 p9 (nI sc)), (a5, .inl (cA 0, 10, .inl ff))]) hP hD hS hA [1, 2, 0] (by decide) rfl
  refine va_calli (va_runV (As := []) (rest := [.int (rmC fs fp fam mi)]) ⟨hx, hb, hml, hown, hts⟩ (c_availMoney l D cA sa a0 a1 a3 a4 a5 a6 p0 i6 i7 i8 i12 i13 i14 i15 i16 i17 i18 i19 i9 i10 i11 p1 p2 p3 p4 p5 p6 p7 p8 p9 cn pq nd sc pr pb pe pg ff H.size hcn hpq hnd hsc) (cwV 0 hts gX0_freeze_X0_availableMoney rfl rfl rfl (by decide +kernel) ⟨(Nat.le_of_ble_eq_true rfl), (Nat.le_of_ble_eq_true rfl)⟩) ⟨Wd.blind, va_recv hK hPc (ci := 4) (q0 := 0) rfl rfl, fun U hU hW => ⟨rfl, Wd.call hPc hDc hK hC hZ hS hFc U hU hW⟩⟩ rfl rfl hl.1 rfl (lv_room (Nat.le_of_ble_eq_true rfl)) dX0_freeze_6 ⟨(Nat.le_of_ble_eq_true rfl), (Nat.le_of_ble_eq_true rfl)⟩) hS (fun q _ h => hFc q h) hFc (fun rn2 u t H1 locs ht hvm hw hB hz1 hk1 hS => ?_)
  obtain ⟨hP1, hD1⟩ := hB
  rw [ht] at hP1
  obtain ⟨hP, hD⟩ := PDq.join (w := [(a3, .inl (cA 0, 10, .inl fs)), (a4, .inl (cA 0, 10, .inl fp)), (p3, .inl (cA 0, 10, .inl fam)), (oX0 a0 p0 a1 a3 a4 a5 a6 i6 i7 i8 i9 i10 i11 i12 i13 i14 i15 i16 i17 i18 i19), (oX3 p0 pr pb pe pg p1 (nI nd) p2 p3 p4 p5 (nI cn) p6 (nI pq) p7 p8 p9 (nI sc)), (a5, .inl (cA 0, 10, .inl ff))]) 3 hP hD [1, 2, 0] [3, 4, 5] rfl rfl (by decide) (by decide) hk1 hFc hP1 hD1 rfl
  generalize H1 = H at hP hS ⊢
  obtain rfl : rn2 = (avC i8 ff cn) := hw
  refine va_mmin hx hb (by rw [hml]; exact hl.1.symm) hown (hts (.methodLink RX0 161 Lib.Math.min.name) (by decide +kernel)) (hts (.static Lib.Math.min.name) (by decide +kernel)) (hts (.initialized "java/lang/Math") (by decide +kernel)) (hts (.code Lib.Math.min.name Lib.Math.min.code 2 (some .int)) (by decide +kernel)) (Nat.le_of_ble_eq_true rfl) (Nat.le_of_ble_eq_true rfl) (Nat.le_of_ble_eq_true rfl) (Nat.le_of_ble_eq_true rfl) dX0_freeze_9 ?_
  refine lv_topi (fun yn3 eyn3 => ?_)
  obtain rfl : yn3 = (minI (rmC fs fp fam mi) (avC i8 ff cn)) := eyn3
  refine lv_istore_n (lv' := [(2, .int (minI (rmC fs fp fam mi) (avC i8 ff cn))), (0, .ref a0), (1, .int (nI mi))]) hx hb dX0_freeze_12 rfl hl (by decide) rfl (fun ls hl => ?_)
  refine lv_aload_n hx hb dX0_freeze_13 rfl (lv_at hl 1 rfl) ?_
  refine va_get (D := D) (ci := 4) (v := .ref a3) (C := RX0) (T := TX0) (N := 20) hx hb hts inX0 hown hK hP 3 rfl rfl 2 (by decide) (hts (.fieldLink RX0 18 "EscrowDesk$Account" "state" "[I") (by decide +kernel)) (fun _ h9 => h9) rfl dX0_freeze_14 ?_
  refine lv_iload_n hx hb dX0_freeze_17 rfl (lv_at hl 2 rfl) ?_
  refine lv_iconst (v := 2) hx hb dX0_freeze_18 (by decide) ?_
  refine va_iast hx hb hK hP hD hS 0 0 rfl rfl (vp_in_nI (n := mi) (N := 10) (show mi < 10 by omega) (by decide)) dX0_freeze_19 (fun H locs hP hD hS => ?_)
  obtain ⟨hP, hD⟩ : PDq D A [(a3, .inl (cA 0, 10, .inl (upd fs (((nI mi)).toNatClampNeg) 2))), (a4, .inl (cA 0, 10, .inl fp)), (p3, .inl (cA 0, 10, .inl fam)), (oX0 a0 p0 a1 a3 a4 a5 a6 i6 i7 i8 i9 i10 i11 i12 i13 i14 i15 i16 i17 i18 i19), (oX3 p0 pr pb pe pg p1 (nI nd) p2 p3 p4 p5 (nI cn) p6 (nI pq) p7 p8 p9 (nI sc)), (a5, .inl (cA 0, 10, .inl ff))] H := ⟨hP, hD⟩
  have hn5 : Upp mi 2 fs (upd fs (((nI mi)).toNatClampNeg) 2) := Upp.of (by omega)
  have hn6 : Rdd (upd fs (((nI mi)).toNatClampNeg) 2) := rfl
  generalize (upd fs (((nI mi)).toNatClampNeg) 2) = fn4 at hP hD hn5 hn6
  obtain ⟨hP, hD⟩ : PDq D A [(a3, .inl (cA 0, 10, .inl fn4)), (a4, .inl (cA 0, 10, .inl fp)), (p3, .inl (cA 0, 10, .inl fam)), (oX0 a0 p0 a1 a3 a4 a5 a6 i6 i7 i8 i9 i10 i11 i12 i13 i14 i15 i16 i17 i18 i19), (oX3 p0 pr pb pe pg p1 (nI nd) p2 p3 p4 p5 (nI cn) p6 (nI pq) p7 p8 p9 (nI sc)), (a5, .inl (cA 0, 10, .inl ff))] H := ⟨hP, hD⟩
  refine lv_aload_n hx hb dX0_freeze_20 rfl (lv_at hl 1 rfl) ?_
  refine va_get (D := D) (ci := 4) (v := .ref a5) (C := RX0) (T := TX0) (N := 20) hx hb hts inX0 hown hK hP 3 rfl rfl 4 (by decide) (hts (.fieldLink RX0 25 "EscrowDesk$Account" "frozen" "[I") (by decide +kernel)) (fun _ h9 => h9) rfl dX0_freeze_21 ?_
  refine lv_iload_n hx hb dX0_freeze_24 rfl (lv_at hl 2 rfl) ?_
  refine lv_iload_n hx hb dX0_freeze_25 rfl (lv_at hl 0 rfl) ?_
  refine va_iast hx hb hK hP hD hS 5 0 rfl rfl (vp_in_nI (n := mi) (N := 10) (show mi < 10 by omega) (by decide)) dX0_freeze_26 (fun H locs hP hD hS => ?_)
  obtain ⟨hP, hD⟩ : PDq D A [(a3, .inl (cA 0, 10, .inl fn4)), (a4, .inl (cA 0, 10, .inl fp)), (p3, .inl (cA 0, 10, .inl fam)), (oX0 a0 p0 a1 a3 a4 a5 a6 i6 i7 i8 i9 i10 i11 i12 i13 i14 i15 i16 i17 i18 i19), (oX3 p0 pr pb pe pg p1 (nI nd) p2 p3 p4 p5 (nI cn) p6 (nI pq) p7 p8 p9 (nI sc)), (a5, .inl (cA 0, 10, .inl (upd ff (((nI mi)).toNatClampNeg) (minI (rmC fs fp fam mi) (avC i8 ff cn)))))] H := ⟨hP, hD⟩
  have hn8 : Upp mi (minI (rmC fs fp fam mi) (avC i8 ff cn)) ff (upd ff (((nI mi)).toNatClampNeg) (minI (rmC fs fp fam mi) (avC i8 ff cn))) := Upp.of (by omega)
  have hn9 : Rdd (upd ff (((nI mi)).toNatClampNeg) (minI (rmC fs fp fam mi) (avC i8 ff cn))) := rfl
  generalize (upd ff (((nI mi)).toNatClampNeg) (minI (rmC fs fp fam mi) (avC i8 ff cn))) = fn7 at hP hD hn8 hn9
  obtain ⟨hP, hD⟩ : PDq D A [(a3, .inl (cA 0, 10, .inl fn4)), (a4, .inl (cA 0, 10, .inl fp)), (p3, .inl (cA 0, 10, .inl fam)), (oX0 a0 p0 a1 a3 a4 a5 a6 i6 i7 i8 i9 i10 i11 i12 i13 i14 i15 i16 i17 i18 i19), (oX3 p0 pr pb pe pg p1 (nI nd) p2 p3 p4 p5 (nI cn) p6 (nI pq) p7 p8 p9 (nI sc)), (a5, .inl (cA 0, 10, .inl fn7))] H := ⟨hP, hD⟩
  refine lv_iload_n hx hb dX0_freeze_27 rfl (lv_at hl 0 rfl) ?_
  obtain ⟨hP9, hD9⟩ := PDq.sub (ws' := [(oX0 a0 p0 a1 a3 a4 a5 a6 i6 i7 i8 i9 i10 i11 i12 i13 i14 i15 i16 i17 i18 i19), (oX3 p0 pr pb pe pg p1 (nI nd) p2 p3 p4 p5 (nI cn) p6 (nI pq) p7 p8 p9 (nI sc)), (a3, .inl (cA 0, 10, .inl fn4)), (a4, .inl (cA 0, 10, .inl fp)), (p3, .inl (cA 0, 10, .inl fam)), (a5, .inl (cA 0, 10, .inl fn7))]) hP hD [3, 4, 0, 1, 2, 5] (by decide) rfl
  refine W.widen (k := 0) (n := 0) (Nat.le_of_ble_eq_true rfl) (Nat.le_of_ble_eq_true rfl) ?_
  exact (W.iret (v := (minI (rmC fs fp fam mi) (avC i8 ff cn))) hx hb hr (fun t ht hW => ⟨⟨(minI (rmC fs fp fam mi) (avC i8 ff cn)), (), rfl, trivial, fn4, fn7, hn5, hn8, by rw [ht]; exact hP9, hD9⟩, hS.F ht⟩) hS.2.2 dX0_freeze_28)

set_option maxHeartbeats 4000000 in
set_option maxRecDepth 100000 in
/-- the class, exactly: X0_payDue -/
theorem c_payDue (l : Launch) (D : va_G) (cA : Nat → ClassId) (sa : Nat → Nat) (a0 : Nat) (a1 : Nat) (a2 : Nat) (a3 : Nat) (a4 : Nat) (a5 : Nat) (a6 : Nat) (p0 : Nat) (i6 : Int32) (i7 : Int32) (i8 : Int32) (i12 : Int32) (i13 : Int32) (i14 : Int32) (i15 : Int32) (i16 : Int32) (i17 : Int32) (i18 : Int32) (i19 : Int32) (i9 : Int64) (i10 : Int64) (i11 : Int64) (nx : Nat) (kp : Nat) (fr : Nat → Int32) (p1 : Nat) (p2 : Nat) (p3 : Nat) (p4 : Nat) (p5 : Nat) (p6 : Nat) (p7 : Nat) (p8 : Nat) (p9 : Nat) (cn : Nat) (pq : Nat) (nd : Nat) (sc : Nat) (pr : Int32) (pb : Int32) (pe : Int32) (pg : Int32) (fs : Nat → Int32) (fp : Nat → Int32) (ff : Nat → Int32) (fd : Nat → Int32) (fam : Nat → Int32) (fby : Nat → Int32) (ra : Nat → Int32) (rq : Int64) (sm : Prop) (bo : Nat → Nat) (sz : Nat) (hnx : nx < 60) (hkp : kp ≤ 60) (hcn : cn ≤ 10) (hpq : pq ≤ 8) (hnd : nd ≤ 6) (hsc : sc ≤ 350) (hByq : Bor cn bo fby) (hRC : RC sm cn ra rq i6 i7 i8 i9 i11 i12 i13 i15 i16 i17 i18 i19 kp fs fp ff fd fam) : Met l yX0_payDue wsX0_payDue ({ frames := 3, cells := 0, slots := 0, locals := 69 }) (va_Pc [.ref a0] (Wd D cA sa [(oX0 a0 p0 a1 a3 a4 a5 a6 i6 i7 i8 i9 i10 i11 i12 i13 i14 i15 i16 i17 i18 i19), (a1, .inr (6, [.ref a2, .int (nI nx), .int (nI kp)])), (a2, .inl (cA 0, 240, .inl fr)), (a3, .inl (cA 0, 10, .inl fs)), (a4, .inl (cA 0, 10, .inl fp)), (a5, .inl (cA 0, 10, .inl ff)), (a6, .inl (cA 0, 10, .inl fd)), (oX3 p0 pr pb pe pg p1 (nI nd) p2 p3 p4 p5 (nI cn) p6 (nI pq) p7 p8 p9 (nI sc)), (p3, .inl (cA 0, 10, .inl fam)), (p5, .inl (cA 0, 10, .inl fby))] sz)) (va_Qv (fun _ : Unit => True) (fun (_ : Unit) t => ∃ z8 : Int32, ∃ z12 : Int32, ∃ z13 : Int32, ∃ ny : Nat, ∃ ky : Nat, ∃ zr : Nat → Int32, ∃ zs : Nat → Int32, ∃ zp : Nat → Int32, ny < 60 ∧ ky ≤ 60 ∧ RC sm cn (pays cn bo ra cn) rq i6 i7 z8 i9 i11 z12 z13 i15 i16 i17 i18 i19 ky zs zp ff fd fam ∧ Wq D (va_A [(oX0 a0 p0 a1 a3 a4 a5 a6 i6 i7 i8 i9 i10 i11 i12 i13 i14 i15 i16 i17 i18 i19), (a1, .inr (6, [.ref a2, .int (nI nx), .int (nI kp)])), (a2, .inl (cA 0, 240, .inl fr)), (a3, .inl (cA 0, 10, .inl fs)), (a4, .inl (cA 0, 10, .inl fp)), (a5, .inl (cA 0, 10, .inl ff)), (a6, .inl (cA 0, 10, .inl fd)), (oX3 p0 pr pb pe pg p1 (nI nd) p2 p3 p4 p5 (nI cn) p6 (nI pq) p7 p8 p9 (nI sc)), (p3, .inl (cA 0, 10, .inl fam)), (p5, .inl (cA 0, 10, .inl fby))] sz) [(oX0 a0 p0 a1 a3 a4 a5 a6 i6 i7 z8 i9 i10 i11 z12 z13 i14 i15 i16 i17 i18 i19), (a1, .inr (6, [.ref a2, .int (nI ny), .int (nI ky)])), (a2, .inl (cA 0, 240, .inl zr)), (a3, .inl (cA 0, 10, .inl zs)), (a4, .inl (cA 0, 10, .inl zp)), (a5, .inl (cA 0, 10, .inl ff)), (a6, .inl (cA 0, 10, .inl fd)), (oX3 p0 pr pb pe pg p1 (nI nd) p2 p3 p4 p5 (nI cn) p6 (nI pq) p7 p8 p9 (nI sc)), (p3, .inl (cA 0, 10, .inl fam)), (p5, .inl (cA 0, 10, .inl fby))] t) (va_A [(oX0 a0 p0 a1 a3 a4 a5 a6 i6 i7 i8 i9 i10 i11 i12 i13 i14 i15 i16 i17 i18 i19), (a1, .inr (6, [.ref a2, .int (nI nx), .int (nI kp)])), (a2, .inl (cA 0, 240, .inl fr)), (a3, .inl (cA 0, 10, .inl fs)), (a4, .inl (cA 0, 10, .inl fp)), (a5, .inl (cA 0, 10, .inl ff)), (a6, .inl (cA 0, 10, .inl fd)), (oX3 p0 pr pb pe pg p1 (nI nd) p2 p3 p4 p5 (nI cn) p6 (nI pq) p7 p8 p9 (nI sc)), (p3, .inl (cA 0, 10, .inl fam)), (p5, .inl (cA 0, 10, .inl fby))] sz)) 0 0 (va_A [(oX0 a0 p0 a1 a3 a4 a5 a6 i6 i7 i8 i9 i10 i11 i12 i13 i14 i15 i16 i17 i18 i19), (a1, .inr (6, [.ref a2, .int (nI nx), .int (nI kp)])), (a2, .inl (cA 0, 240, .inl fr)), (a3, .inl (cA 0, 10, .inl fs)), (a4, .inl (cA 0, 10, .inl fp)), (a5, .inl (cA 0, 10, .inl ff)), (a6, .inl (cA 0, 10, .inl fd)), (oX3 p0 pr pb pe pg p1 (nI nd) p2 p3 p4 p5 (nI cn) p6 (nI pq) p7 p8 p9 (nI sc)), (p3, .inl (cA 0, 10, .inl fam)), (p5, .inl (cA 0, 10, .inl fby))] sz) := by
  refine Met.ofW (cc := cX0_payDue) (maxL := 4) (ret := none) (by decide) rfl ?_
  intro p e s m args below meth c s₁ B hml hv
  obtain ⟨rfl, hsz, hP, hK, hD0, hC, hZ⟩ := hv
  have hx := B.exec
  have hb := B.bytes
  have hr := B.returns
  have hts := atoms_spec (ws := wsX0_payDue) B.pre
  have hown : s.vm.findClass RX0 = some m.cls := findClass_of_methodNamed B.named
  have hlocks := B.notSynchronized
  subst hsz
  have hD := hD0.self (sz := s.heap.size)
  generalize hAe : va_A [(oX0 a0 p0 a1 a3 a4 a5 a6 i6 i7 i8 i9 i10 i11 i12 i13 i14 i15 i16 i17 i18 i19), (a1, .inr (6, [.ref a2, .int (nI nx), .int (nI kp)])), (a2, .inl (cA 0, 240, .inl fr)), (a3, .inl (cA 0, 10, .inl fs)), (a4, .inl (cA 0, 10, .inl fp)), (a5, .inl (cA 0, 10, .inl ff)), (a6, .inl (cA 0, 10, .inl fd)), (oX3 p0 pr pb pe pg p1 (nI nd) p2 p3 p4 p5 (nI cn) p6 (nI pq) p7 p8 p9 (nI sc)), (p3, .inl (cA 0, 10, .inl fam)), (p5, .inl (cA 0, 10, .inl fby))] s.heap.size = A at hD hZ ⊢
  have hA : ∀ q : Nat, s.heap.size ≤ q → A q := fun q h => by rw [← hAe]; exact Or.inr h
  have hS : va_S A s.heap s.heap [] := va_S.rf
  have hP : va_P D vwCl [(oX0 a0 p0 a1 a3 a4 a5 a6 i6 i7 i8 i9 i10 i11 i12 i13 i14 i15 i16 i17 i18 i19), (a1, .inr (6, [.ref a2, .int (nI nx), .int (nI kp)])), (a2, .inl (cA 0, 240, .inl fr)), (a3, .inl (cA 0, 10, .inl fs)), (a4, .inl (cA 0, 10, .inl fp)), (a5, .inl (cA 0, 10, .inl ff)), (a6, .inl (cA 0, 10, .inl fd)), (oX3 p0 pr pb pe pg p1 (nI nd) p2 p3 p4 p5 (nI cn) p6 (nI pq) p7 p8 p9 (nI sc)), (p3, .inl (cA 0, 10, .inl fam)), (p5, .inl (cA 0, 10, .inl fby))] s.heap := hP
  have hl := lv_entry ([.ref a0]) (n := 4) (Nat.le_of_ble_eq_true rfl)
  rw [lg_entry_eq]
  generalize (lg_sl ([.ref a0]) ++ List.replicate (4 - (lg_sl ([.ref a0])).length) Slot.unset).toArray = ls at hl ⊢
  have hl : lv_has ls 4 [(0, .ref a0)] := hl
  have inX0 : ∀ w ∈ u_ws RX0 TX0 20, w ∈ wsX0_payDue := by decide +kernel
  have inX3 : ∀ w ∈ u_ws RX3 TX3 17, w ∈ wsX0_payDue := by decide +kernel
  refine lv_iconst (v := 0) hx hb dX0_payDue_0 (by decide) ?_
  refine lv_istore_n (lv' := [(1, .int 0), (0, .ref a0)]) hx hb dX0_payDue_1 rfl hl (by decide) rfl (fun ls hl => ?_)
  have loop1 : ∀ (n1 i1 : Nat) (u0_8_1 : Int32) (u0_12_1 : Int32) (u0_13_1 : Int32) (ni : Nat) (ki : Nat) (f2_1 : Nat → Int32) (f3_1 : Nat → Int32) (f4_1 : Nat → Int32) (H : Heap) (locs : List Loc) (ls : Array Slot), i1 + n1 = cn → ni < 60 → ki ≤ 60 → RC sm cn (pays cn bo ra i1) rq i6 i7 u0_8_1 i9 i11 u0_12_1 u0_13_1 i15 i16 i17 i18 i19 ki f3_1 f4_1 ff fd fam → va_P D vwCl [(oX0 a0 p0 a1 a3 a4 a5 a6 i6 i7 u0_8_1 i9 i10 i11 u0_12_1 u0_13_1 i14 i15 i16 i17 i18 i19), (a1, .inr (6, [.ref a2, .int (nI ni), .int (nI ki)])), (a2, .inl (cA 0, 240, .inl f2_1)), (a3, .inl (cA 0, 10, .inl f3_1)), (a4, .inl (cA 0, 10, .inl f4_1)), (a5, .inl (cA 0, 10, .inl ff)), (a6, .inl (cA 0, 10, .inl fd)), (oX3 p0 pr pb pe pg p1 (nI nd) p2 p3 p4 p5 (nI cn) p6 (nI pq) p7 p8 p9 (nI sc)), (p3, .inl (cA 0, 10, .inl fam)), (p5, .inl (cA 0, 10, .inl fby))] H → va_D A [(oX0 a0 p0 a1 a3 a4 a5 a6 i6 i7 u0_8_1 i9 i10 i11 u0_12_1 u0_13_1 i14 i15 i16 i17 i18 i19), (a1, .inr (6, [.ref a2, .int (nI ni), .int (nI ki)])), (a2, .inl (cA 0, 240, .inl f2_1)), (a3, .inl (cA 0, 10, .inl f3_1)), (a4, .inl (cA 0, 10, .inl f4_1)), (a5, .inl (cA 0, 10, .inl ff)), (a6, .inl (cA 0, 10, .inl fd)), (oX3 p0 pr pb pe pg p1 (nI nd) p2 p3 p4 p5 (nI cn) p6 (nI pq) p7 p8 p9 (nI sc)), (p3, .inl (cA 0, 10, .inl fam)), (p5, .inl (cA 0, 10, .inl fby))] → va_S A s.heap H locs → lv_has ls 4 [(1, .int (nI i1)), (0, .ref a0)] → W p l e (headSpec wsX0_payDue ({ frames := 3, cells := 0, slots := 0, locals := 69 } : Room)).room s m ([.ref a0] : List Value).toArray below meth c H locs 0 0 (MQ below (va_Qv (fun _ : Unit => True) (fun (_ : Unit) t => ∃ z8 : Int32, ∃ z12 : Int32, ∃ z13 : Int32, ∃ ny : Nat, ∃ ky : Nat, ∃ zr : Nat → Int32, ∃ zs : Nat → Int32, ∃ zp : Nat → Int32, ny < 60 ∧ ky ≤ 60 ∧ RC sm cn (pays cn bo ra cn) rq i6 i7 z8 i9 i11 z12 z13 i15 i16 i17 i18 i19 ky zs zp ff fd fam ∧ Wq D A [(oX0 a0 p0 a1 a3 a4 a5 a6 i6 i7 z8 i9 i10 i11 z12 z13 i14 i15 i16 i17 i18 i19), (a1, .inr (6, [.ref a2, .int (nI ny), .int (nI ky)])), (a2, .inl (cA 0, 240, .inl zr)), (a3, .inl (cA 0, 10, .inl zs)), (a4, .inl (cA 0, 10, .inl zp)), (a5, .inl (cA 0, 10, .inl ff)), (a6, .inl (cA 0, 10, .inl fd)), (oX3 p0 pr pb pe pg p1 (nI nd) p2 p3 p4 p5 (nI cn) p6 (nI pq) p7 p8 p9 (nI sc)), (p3, .inl (cA 0, 10, .inl fam)), (p5, .inl (cA 0, 10, .inl fby))] t) A) ([.ref a0] : List Value).toArray s 0 0 A) (F0 m 2 ls []) := by
    intro n1
    induction n1 with
    | zero =>
      intro i1 u0_8_1 u0_12_1 u0_13_1 ni ki f2_1 f3_1 f4_1 H locs ls hi1 hv0_1 hv1_1 hv2_1 hP hD hS hl
      obtain rfl : cn = i1 := by omega
      refine lv_iload_n hx hb dX0_payDue_2 rfl (lv_at hl 0 rfl) ?_
      refine lv_aload_n hx hb dX0_payDue_3 rfl (lv_at hl 1 rfl) ?_
      refine va_get (D := D) (ci := 4) (v := .ref p0) (C := RX0) (T := TX0) (N := 20) hx hb hts inX0 hown hK hP 0 rfl rfl 0 (by decide) (hts (.fieldLink RX0 31 "EscrowDesk$Account" "plan" "LEscrowDesk$Plan;") (by decide +kernel)) (fun _ h9 => h9) rfl dX0_payDue_4 ?_
      refine va_getN (D := D) (ci := 7) (v := .int (nI cn)) (C := RX3) (T := TX3) (N := 17) hx hb hts inX3 hown hK hP 7 rfl rfl 10 (by decide) (hC.f (A := _) (a := RX0) (i := 109) (b := "EscrowDesk$Plan") (n := "milestoneCount") (d := "I") (x := "EscrowDesk") (by decide +kernel)) (fun _ h9 => h9) rfl dX0_payDue_7 ?_
      refine lv_icmp_ge (tgt := 61) hx hb dX0_payDue_10 (by decide) (fun c1 => ?_) (fun c9 => absurd (nI_le (a := cn) (b := cn) (show cn ≤ cn by omega) (by omega)) c9)
      obtain ⟨hP9, hD9⟩ := PDq.sub (ws' := [(oX0 a0 p0 a1 a3 a4 a5 a6 i6 i7 u0_8_1 i9 i10 i11 u0_12_1 u0_13_1 i14 i15 i16 i17 i18 i19), (a1, .inr (6, [.ref a2, .int (nI ni), .int (nI ki)])), (a2, .inl (cA 0, 240, .inl f2_1)), (a3, .inl (cA 0, 10, .inl f3_1)), (a4, .inl (cA 0, 10, .inl f4_1)), (a5, .inl (cA 0, 10, .inl ff)), (a6, .inl (cA 0, 10, .inl fd)), (oX3 p0 pr pb pe pg p1 (nI nd) p2 p3 p4 p5 (nI cn) p6 (nI pq) p7 p8 p9 (nI sc)), (p3, .inl (cA 0, 10, .inl fam)), (p5, .inl (cA 0, 10, .inl fby))]) hP hD [0, 1, 2, 3, 4, 5, 6, 7, 8, 9] (by decide +kernel) rfl
      refine W.widen (k := 0) (n := 0) (Nat.le_of_ble_eq_true rfl) (Nat.le_of_ble_eq_true rfl) ?_
      exact (W.vret hx hb hr (fun t ht hW => ⟨⟨(), rfl, trivial, u0_8_1, u0_12_1, u0_13_1, ni, ki, f2_1, f3_1, f4_1, hv0_1, hv1_1, hv2_1, by rw [ht]; exact hP9, hD9⟩, hS.F ht⟩) hS.2.2 dX0_payDue_61)
    | succ n1 ih1 =>
      intro i1 u0_8_1 u0_12_1 u0_13_1 ni ki f2_1 f3_1 f4_1 H locs ls hi1 hv0_1 hv1_1 hv2_1 hP hD hS hl
      refine lv_iload_n hx hb dX0_payDue_2 rfl (lv_at hl 0 rfl) ?_
      refine lv_aload_n hx hb dX0_payDue_3 rfl (lv_at hl 1 rfl) ?_
      refine va_get (D := D) (ci := 4) (v := .ref p0) (C := RX0) (T := TX0) (N := 20) hx hb hts inX0 hown hK hP 0 rfl rfl 0 (by decide) (hts (.fieldLink RX0 31 "EscrowDesk$Account" "plan" "LEscrowDesk$Plan;") (by decide +kernel)) (fun _ h9 => h9) rfl dX0_payDue_4 ?_
      refine va_getN (D := D) (ci := 7) (v := .int (nI cn)) (C := RX3) (T := TX3) (N := 17) hx hb hts inX3 hown hK hP 7 rfl rfl 10 (by decide) (hC.f (A := _) (a := RX0) (i := 109) (b := "EscrowDesk$Plan") (n := "milestoneCount") (d := "I") (x := "EscrowDesk") (by decide +kernel)) (fun _ h9 => h9) rfl dX0_payDue_7 ?_
      refine lv_icmp_ge (tgt := 61) hx hb dX0_payDue_10 (by decide) (fun c9 => absurd c9 (nI_ge (a := i1) (b := cn) (show i1 < cn by omega) (by omega))) (fun c2 => ?_)
      refine lv_aload_n hx hb dX0_payDue_13 rfl (lv_at hl 1 rfl) ?_
      refine va_get (D := D) (ci := 4) (v := .ref p0) (C := RX0) (T := TX0) (N := 20) hx hb hts inX0 hown hK hP 0 rfl rfl 0 (by decide) (hts (.fieldLink RX0 31 "EscrowDesk$Account" "plan" "LEscrowDesk$Plan;") (by decide +kernel)) (fun _ h9 => h9) rfl dX0_payDue_14 ?_
      refine va_getN (D := D) (ci := 7) (v := .ref p5) (C := RX3) (T := TX3) (N := 17) hx hb hts inX3 hown hK hP 7 rfl rfl 9 (by decide) (hC.f (A := _) (a := RX0) (i := 138) (b := "EscrowDesk$Plan") (n := "byPriority") (d := "[I") (x := "EscrowDesk") (by decide +kernel)) (fun _ h9 => h9) rfl dX0_payDue_17 ?_
      refine lv_iload_n hx hb dX0_payDue_20 rfl (lv_at hl 0 rfl) ?_
      have hn3 := (Bor.at hByq (show i1 < cn by omega)).1
      refine va_iald hx hb hK hP 9 0 rfl rfl (vp_in_nI (n := i1) (N := 10) (show i1 < 10 by omega) (by decide)) dX0_payDue_21 ?_
      refine lv_topi (fun yn4 eyn4 => ?_)
      obtain rfl : yn4 = (nI (bo i1)) := eyn4.trans (by rw [nI_clamp (by omega)]; exact (Bor.at hByq (show i1 < cn by omega)).2)
      refine lv_istore_n (lv' := [(2, .int (nI (bo i1))), (1, .int (nI i1)), (0, .ref a0)]) hx hb dX0_payDue_22 rfl hl (by decide) rfl (fun ls hl => ?_)
      refine lv_aload_n hx hb dX0_payDue_23 rfl (lv_at hl 2 rfl) ?_
      refine lv_iload_n hx hb dX0_payDue_24 rfl (lv_at hl 0 rfl) ?_
      obtain ⟨hPc, hDc, hFc⟩ := PDq.cut (wc := [(oX0 a0 p0 a1 a3 a4 a5 a6 i6 i7 u0_8_1 i9 i10 i11 u0_12_1 u0_13_1 i14 i15 i16 i17 i18 i19), (oX3 p0 pr pb pe pg p1 (nI nd) p2 p3 p4 p5 (nI cn) p6 (nI pq) p7 p8 p9 (nI sc)), (a3, .inl (cA 0, 10, .inl f3_1)), (a4, .inl (cA 0, 10, .inl f4_1)), (p3, .inl (cA 0, 10, .inl fam))]) hP hD hS hA [0, 7, 3, 4, 8] (by decide) rfl
      refine va_calli (va_runV (As := [.int (nI (bo i1))]) (rest := []) ⟨hx, hb, hml, hown, hts⟩ (c_remainingOf l D cA sa a0 a1 a3 a4 a5 a6 p0 i6 i7 u0_8_1 u0_12_1 u0_13_1 i14 i15 i16 i17 i18 i19 i9 i10 i11 p1 p2 p3 p4 p5 p6 p7 p8 p9 cn pq nd sc pr pb pe pg (bo i1) f3_1 f4_1 fam H.size (by omega)) (cwV 1 hts gX0_payDue_X0_remainingOf rfl rfl rfl (by decide +kernel) ⟨(Nat.le_of_ble_eq_true rfl), (Nat.le_of_ble_eq_true rfl)⟩) ⟨Wd.blind, va_recv hK hPc (ci := 4) (q0 := 0) rfl rfl, fun U hU hW => ⟨rfl, Wd.call hPc hDc hK hC hZ hS hFc U hU hW⟩⟩ rfl rfl hl.1 rfl (lv_room (Nat.le_of_ble_eq_true rfl)) dX0_payDue_25 ⟨(Nat.le_of_ble_eq_true rfl), (Nat.le_of_ble_eq_true rfl)⟩) hS (fun q _ h => hFc q h) hFc (fun rn5 u t H1 locs ht hvm hw hB hz1 hk1 hS => ?_)
      obtain ⟨hP1, hD1⟩ := hB
      rw [ht] at hP1
      obtain ⟨hP, hD⟩ := PDq.join (w := [(a1, .inr (6, [.ref a2, .int (nI ni), .int (nI ki)])), (a2, .inl (cA 0, 240, .inl f2_1)), (a5, .inl (cA 0, 10, .inl ff)), (a6, .inl (cA 0, 10, .inl fd)), (p5, .inl (cA 0, 10, .inl fby)), (oX0 a0 p0 a1 a3 a4 a5 a6 i6 i7 u0_8_1 i9 i10 i11 u0_12_1 u0_13_1 i14 i15 i16 i17 i18 i19), (oX3 p0 pr pb pe pg p1 (nI nd) p2 p3 p4 p5 (nI cn) p6 (nI pq) p7 p8 p9 (nI sc)), (a3, .inl (cA 0, 10, .inl f3_1)), (a4, .inl (cA 0, 10, .inl f4_1)), (p3, .inl (cA 0, 10, .inl fam))]) 5 hP hD [0, 7, 3, 4, 8] [1, 2, 5, 6, 9] rfl rfl (by decide) (by decide +kernel) hk1 hFc hP1 hD1 rfl
      generalize H1 = H at hP hS ⊢
      obtain rfl : rn5 = (rmC f3_1 f4_1 fam (bo i1)) := hw
      refine lv_aload_n hx hb dX0_payDue_28 rfl (lv_at hl 2 rfl) ?_
      obtain ⟨hPc, hDc, hFc⟩ := PDq.cut (wc := [(oX0 a0 p0 a1 a3 a4 a5 a6 i6 i7 u0_8_1 i9 i10 i11 u0_12_1 u0_13_1 i14 i15 i16 i17 i18 i19), (oX3 p0 pr pb pe pg p1 (nI nd) p2 p3 p4 p5 (nI cn) p6 (nI pq) p7 p8 p9 (nI sc)), (a5, .inl (cA 0, 10, .inl ff))]) hP hD hS hA [5, 6, 2] (by decide) rfl
      refine va_calli (va_runV (As := []) (rest := [.int (rmC f3_1 f4_1 fam (bo i1))]) ⟨hx, hb, hml, hown, hts⟩ (c_availMoney l D cA sa a0 a1 a3 a4 a5 a6 p0 i6 i7 u0_8_1 u0_12_1 u0_13_1 i14 i15 i16 i17 i18 i19 i9 i10 i11 p1 p2 p3 p4 p5 p6 p7 p8 p9 cn pq nd sc pr pb pe pg ff H.size hcn hpq hnd hsc) (cwV 0 hts gX0_payDue_X0_availableMoney rfl rfl rfl (by decide +kernel) ⟨(Nat.le_of_ble_eq_true rfl), (Nat.le_of_ble_eq_true rfl)⟩) ⟨Wd.blind, va_recv hK hPc (ci := 4) (q0 := 0) rfl rfl, fun U hU hW => ⟨rfl, Wd.call hPc hDc hK hC hZ hS hFc U hU hW⟩⟩ rfl rfl hl.1 rfl (lv_room (Nat.le_of_ble_eq_true rfl)) dX0_payDue_29 ⟨(Nat.le_of_ble_eq_true rfl), (Nat.le_of_ble_eq_true rfl)⟩) hS (fun q _ h => hFc q h) hFc (fun rn6 u t H1 locs ht hvm hw hB hz1 hk1 hS => ?_)
      obtain ⟨hP1, hD1⟩ := hB
      rw [ht] at hP1
      obtain ⟨hP, hD⟩ := PDq.join (w := [(a1, .inr (6, [.ref a2, .int (nI ni), .int (nI ki)])), (a2, .inl (cA 0, 240, .inl f2_1)), (a6, .inl (cA 0, 10, .inl fd)), (p5, .inl (cA 0, 10, .inl fby)), (a3, .inl (cA 0, 10, .inl f3_1)), (a4, .inl (cA 0, 10, .inl f4_1)), (p3, .inl (cA 0, 10, .inl fam)), (oX0 a0 p0 a1 a3 a4 a5 a6 i6 i7 u0_8_1 i9 i10 i11 u0_12_1 u0_13_1 i14 i15 i16 i17 i18 i19), (oX3 p0 pr pb pe pg p1 (nI nd) p2 p3 p4 p5 (nI cn) p6 (nI pq) p7 p8 p9 (nI sc)), (a5, .inl (cA 0, 10, .inl ff))]) 7 hP hD [5, 6, 2] [0, 1, 3, 4, 7, 8, 9] rfl rfl (by decide) (by decide +kernel) hk1 hFc hP1 hD1 rfl
      generalize H1 = H at hP hS ⊢
      obtain rfl : rn6 = (avC u0_8_1 ff cn) := hw
      refine va_mmin hx hb (by rw [hml]; exact hl.1.symm) hown (hts (.methodLink RX0 161 Lib.Math.min.name) (by decide +kernel)) (hts (.static Lib.Math.min.name) (by decide +kernel)) (hts (.initialized "java/lang/Math") (by decide +kernel)) (hts (.code Lib.Math.min.name Lib.Math.min.code 2 (some .int)) (by decide +kernel)) (Nat.le_of_ble_eq_true rfl) (Nat.le_of_ble_eq_true rfl) (Nat.le_of_ble_eq_true rfl) (Nat.le_of_ble_eq_true rfl) dX0_payDue_32 ?_
      refine lv_topi (fun yn7 eyn7 => ?_)
      obtain rfl : yn7 = (minI (rmC f3_1 f4_1 fam (bo i1)) (avC u0_8_1 ff cn)) := eyn7
      refine lv_istore_n (lv' := [(3, .int (minI (rmC f3_1 f4_1 fam (bo i1)) (avC u0_8_1 ff cn))), (2, .int (nI (bo i1))), (1, .int (nI i1)), (0, .ref a0)]) hx hb dX0_payDue_35 rfl hl (by decide) rfl (fun ls hl => ?_)
      refine lv_aload_n hx hb dX0_payDue_36 rfl (lv_at hl 3 rfl) ?_
      refine lv_iload_n hx hb dX0_payDue_37 rfl (lv_at hl 1 rfl) ?_
      obtain ⟨hPc, hDc, hFc⟩ := PDq.cut (wc := [(oX0 a0 p0 a1 a3 a4 a5 a6 i6 i7 u0_8_1 i9 i10 i11 u0_12_1 u0_13_1 i14 i15 i16 i17 i18 i19), (a3, .inl (cA 0, 10, .inl f3_1)), (a6, .inl (cA 0, 10, .inl fd))]) hP hD hS hA [7, 4, 2] (by decide) rfl
      refine va_calli (va_runV (As := [.int (nI (bo i1))]) (rest := []) ⟨hx, hb, hml, hown, hts⟩ (c_mustBePaid l D cA sa a0 a1 a3 a4 a5 a6 p0 i6 i7 u0_8_1 u0_12_1 u0_13_1 i14 i15 i16 i17 i18 i19 i9 i10 i11 (bo i1) f3_1 fd H.size (by omega)) (cwV 1 hts gX0_payDue_X0_mustBePaid rfl rfl rfl (by decide +kernel) ⟨(Nat.le_of_ble_eq_true rfl), (Nat.le_of_ble_eq_true rfl)⟩) ⟨Wd.blind, va_recv hK hPc (ci := 4) (q0 := 0) rfl rfl, fun U hU hW => ⟨rfl, Wd.call hPc hDc hK hC hZ hS hFc U hU hW⟩⟩ rfl rfl hl.1 rfl (lv_room (Nat.le_of_ble_eq_true rfl)) dX0_payDue_38 ⟨(Nat.le_of_ble_eq_true rfl), (Nat.le_of_ble_eq_true rfl)⟩) hS (fun q _ h => hFc q h) hFc (fun rn8 u t H1 locs ht hvm hw hB hz1 hk1 hS => ?_)
      obtain ⟨hP1, hD1⟩ := hB
      rw [ht] at hP1
      obtain ⟨hP, hD⟩ := PDq.join (w := [(a1, .inr (6, [.ref a2, .int (nI ni), .int (nI ki)])), (a2, .inl (cA 0, 240, .inl f2_1)), (p5, .inl (cA 0, 10, .inl fby)), (a4, .inl (cA 0, 10, .inl f4_1)), (p3, .inl (cA 0, 10, .inl fam)), (oX3 p0 pr pb pe pg p1 (nI nd) p2 p3 p4 p5 (nI cn) p6 (nI pq) p7 p8 p9 (nI sc)), (a5, .inl (cA 0, 10, .inl ff)), (oX0 a0 p0 a1 a3 a4 a5 a6 i6 i7 u0_8_1 i9 i10 i11 u0_12_1 u0_13_1 i14 i15 i16 i17 i18 i19), (a3, .inl (cA 0, 10, .inl f3_1)), (a6, .inl (cA 0, 10, .inl fd))]) 7 hP hD [7, 4, 2] [0, 1, 3, 5, 6, 8, 9] rfl rfl (by decide) (by decide +kernel) hk1 hFc hP1 hD1 rfl
      generalize H1 = H at hP hS ⊢
      rcases hw with ⟨hr9, hn9⟩ | ⟨hr9, hn9⟩
      · skip
        subst hr9
        refine lv_if_eq (tgt := 55) hx hb dX0_payDue_41 (by decide) (fun c9 => absurd c9 (by decide)) (fun c10 => ?_)
        refine lv_iload_n hx hb dX0_payDue_44 rfl (lv_at hl 0 rfl) ?_
        refine lv_if_le (tgt := 55) hx hb dX0_payDue_45 (by decide) (fun c11 => ?_) (fun c11 => ?_)
        · skip
          refine lv_iinc (v := (nI (i1 + 1))) (lv' := [(1, .int (nI (i1 + 1))), (3, .int (minI (rmC f3_1 f4_1 fam (bo i1)) (avC u0_8_1 ff cn))), (2, .int (nI (bo i1))), (0, .ref a0)]) hx hb dX0_payDue_55 hl (k := 2) rfl (nI_1 _) (by decide) rfl (fun ls hl => ?_)
          refine lv_goto (tgt := 2) hx hb dX0_payDue_58 (by decide) ?_
          obtain ⟨hP9, hD9⟩ := PDq.sub (ws' := [(oX0 a0 p0 a1 a3 a4 a5 a6 i6 i7 u0_8_1 i9 i10 i11 u0_12_1 u0_13_1 i14 i15 i16 i17 i18 i19), (a1, .inr (6, [.ref a2, .int (nI ni), .int (nI ki)])), (a2, .inl (cA 0, 240, .inl f2_1)), (a3, .inl (cA 0, 10, .inl f3_1)), (a4, .inl (cA 0, 10, .inl f4_1)), (a5, .inl (cA 0, 10, .inl ff)), (a6, .inl (cA 0, 10, .inl fd)), (oX3 p0 pr pb pe pg p1 (nI nd) p2 p3 p4 p5 (nI cn) p6 (nI pq) p7 p8 p9 (nI sc)), (p3, .inl (cA 0, 10, .inl fam)), (p5, .inl (cA 0, 10, .inl fby))]) hP hD [7, 0, 1, 8, 3, 6, 9, 5, 4, 2] (by decide +kernel) rfl
          exact ih1 (i1 + 1) u0_8_1 u0_12_1 u0_13_1 ni ki f2_1 f3_1 f4_1 H _ ls (by omega) hv0_1 hv1_1 (RC.pst_n hv2_1 hn3 (fun q9 => absurd c11 (Int32.not_le.mpr q9.2))) hP9 hD9 hS (lv_sub hl [0, 3] rfl)
        · skip
          refine lv_aload_n hx hb dX0_payDue_48 rfl (lv_at hl 3 rfl) ?_
          refine lv_iload_n hx hb dX0_payDue_49 rfl (lv_at hl 1 rfl) ?_
          refine lv_iload_n hx hb dX0_payDue_50 rfl (lv_at hl 0 rfl) ?_
          obtain ⟨hPc, hDc, hFc⟩ := PDq.cut (wc := [(oX0 a0 p0 a1 a3 a4 a5 a6 i6 i7 u0_8_1 i9 i10 i11 u0_12_1 u0_13_1 i14 i15 i16 i17 i18 i19), (a1, .inr (6, [.ref a2, .int (nI ni), .int (nI ki)])), (a2, .inl (cA 0, 240, .inl f2_1)), (a3, .inl (cA 0, 10, .inl f3_1)), (a4, .inl (cA 0, 10, .inl f4_1)), (oX3 p0 pr pb pe pg p1 (nI nd) p2 p3 p4 p5 (nI cn) p6 (nI pq) p7 p8 p9 (nI sc)), (p3, .inl (cA 0, 10, .inl fam))]) hP hD hS hA [7, 0, 1, 8, 3, 5, 4] (by decide) rfl
          refine va_calli (va_runV (As := [.int (nI (bo i1)), .int (minI (rmC f3_1 f4_1 fam (bo i1)) (avC u0_8_1 ff cn))]) (rest := []) ⟨hx, hb, hml, hown, hts⟩ (c_makePayment l D cA sa a0 a1 a2 a3 a4 a5 a6 p0 i6 i7 u0_8_1 u0_12_1 u0_13_1 i14 i15 i16 i17 i18 i19 i9 i10 i11 ni ki f2_1 p1 p2 p3 p4 p5 p6 p7 p8 p9 cn pq nd sc pr pb pe pg f3_1 f4_1 fam (bo i1) (minI (rmC f3_1 f4_1 fam (bo i1)) (avC u0_8_1 ff cn)) H.size hv0_1 hv1_1 (by omega)) (cwV 2 hts gX0_payDue_X0_makePayment rfl rfl rfl (by decide +kernel) ⟨(Nat.le_of_ble_eq_true rfl), (Nat.le_of_ble_eq_true rfl)⟩) ⟨Wd.blind, va_recv hK hPc (ci := 4) (q0 := 0) rfl rfl, fun U hU hW => ⟨rfl, Wd.call hPc hDc hK hC hZ hS hFc U hU hW⟩⟩ rfl rfl hl.1 rfl (lv_room (Nat.le_of_ble_eq_true rfl)) dX0_payDue_51 ⟨(Nat.le_of_ble_eq_true rfl), (Nat.le_of_ble_eq_true rfl)⟩) hS (fun q _ h => hFc q h) hFc (fun rn12 u t H1 locs ht hvm hw hB hz1 hk1 hS => ?_)
          obtain ⟨zn13, zn14, qn15, qn16, fn17, fn18, fn19, hn20, hn21, hn22, hn23, hn24, hn25, hP1, hD1⟩ := hB
          rw [ht] at hP1
          obtain ⟨hP, hD⟩ := PDq.join (w := [(p5, .inl (cA 0, 10, .inl fby)), (a5, .inl (cA 0, 10, .inl ff)), (a6, .inl (cA 0, 10, .inl fd)), (oX0 a0 p0 a1 a3 a4 a5 a6 i6 i7 (u0_8_1 - (minI (rmC f3_1 f4_1 fam (bo i1)) (avC u0_8_1 ff cn))) i9 i10 i11 zn13 zn14 i14 i15 i16 i17 i18 i19), (a1, .inr (6, [.ref a2, .int (nI qn15), .int (nI qn16)])), (a2, .inl (cA 0, 240, .inl fn17)), (a3, .inl (cA 0, 10, .inl fn18)), (a4, .inl (cA 0, 10, .inl fn19)), (oX3 p0 pr pb pe pg p1 (nI nd) p2 p3 p4 p5 (nI cn) p6 (nI pq) p7 p8 p9 (nI sc)), (p3, .inl (cA 0, 10, .inl fam))]) 3 hP hD [7, 0, 1, 8, 3, 5, 4] [2, 6, 9] rfl rfl (by decide) (by decide +kernel) hk1 hFc hP1 hD1 rfl
          generalize H1 = H at hP hS ⊢
          refine lv_pop hx hb dX0_payDue_54 rfl ?_
          refine lv_iinc (v := (nI (i1 + 1))) (lv' := [(1, .int (nI (i1 + 1))), (3, .int (minI (rmC f3_1 f4_1 fam (bo i1)) (avC u0_8_1 ff cn))), (2, .int (nI (bo i1))), (0, .ref a0)]) hx hb dX0_payDue_55 hl (k := 2) rfl (nI_1 _) (by decide) rfl (fun ls hl => ?_)
          refine lv_goto (tgt := 2) hx hb dX0_payDue_58 (by decide) ?_
          obtain ⟨hP9, hD9⟩ := PDq.sub (ws' := [(oX0 a0 p0 a1 a3 a4 a5 a6 i6 i7 (u0_8_1 - (minI (rmC f3_1 f4_1 fam (bo i1)) (avC u0_8_1 ff cn))) i9 i10 i11 zn13 zn14 i14 i15 i16 i17 i18 i19), (a1, .inr (6, [.ref a2, .int (nI qn15), .int (nI qn16)])), (a2, .inl (cA 0, 240, .inl fn17)), (a3, .inl (cA 0, 10, .inl fn18)), (a4, .inl (cA 0, 10, .inl fn19)), (a5, .inl (cA 0, 10, .inl ff)), (a6, .inl (cA 0, 10, .inl fd)), (oX3 p0 pr pb pe pg p1 (nI nd) p2 p3 p4 p5 (nI cn) p6 (nI pq) p7 p8 p9 (nI sc)), (p3, .inl (cA 0, 10, .inl fam)), (p5, .inl (cA 0, 10, .inl fby))]) hP hD [3, 4, 5, 6, 7, 1, 2, 8, 9, 0] (by decide +kernel) rfl
          exact ih1 (i1 + 1) (u0_8_1 - (minI (rmC f3_1 f4_1 fam (bo i1)) (avC u0_8_1 ff cn))) zn13 zn14 qn15 qn16 fn17 fn18 fn19 H _ ls (by omega) hn20 hn21 (RC.pst_y hv2_1 hn3 hn9 (Int32.not_le.mp c11) hn22 hn23 hn24 hn25) hP9 hD9 hS (lv_sub hl [0, 3] rfl)
      · skip
        subst hr9
        refine lv_if_eq (tgt := 55) hx hb dX0_payDue_41 (by decide) (fun c26 => ?_) (fun c9 => absurd c9 (by decide))
        refine lv_iinc (v := (nI (i1 + 1))) (lv' := [(1, .int (nI (i1 + 1))), (3, .int (minI (rmC f3_1 f4_1 fam (bo i1)) (avC u0_8_1 ff cn))), (2, .int (nI (bo i1))), (0, .ref a0)]) hx hb dX0_payDue_55 hl (k := 2) rfl (nI_1 _) (by decide) rfl (fun ls hl => ?_)
        refine lv_goto (tgt := 2) hx hb dX0_payDue_58 (by decide) ?_
        obtain ⟨hP9, hD9⟩ := PDq.sub (ws' := [(oX0 a0 p0 a1 a3 a4 a5 a6 i6 i7 u0_8_1 i9 i10 i11 u0_12_1 u0_13_1 i14 i15 i16 i17 i18 i19), (a1, .inr (6, [.ref a2, .int (nI ni), .int (nI ki)])), (a2, .inl (cA 0, 240, .inl f2_1)), (a3, .inl (cA 0, 10, .inl f3_1)), (a4, .inl (cA 0, 10, .inl f4_1)), (a5, .inl (cA 0, 10, .inl ff)), (a6, .inl (cA 0, 10, .inl fd)), (oX3 p0 pr pb pe pg p1 (nI nd) p2 p3 p4 p5 (nI cn) p6 (nI pq) p7 p8 p9 (nI sc)), (p3, .inl (cA 0, 10, .inl fam)), (p5, .inl (cA 0, 10, .inl fby))]) hP hD [7, 0, 1, 8, 3, 6, 9, 5, 4, 2] (by decide +kernel) rfl
        exact ih1 (i1 + 1) u0_8_1 u0_12_1 u0_13_1 ni ki f2_1 f3_1 f4_1 H _ ls (by omega) hv0_1 hv1_1 (RC.pst_n hv2_1 hn3 (fun q9 => hn9 q9.1)) hP9 hD9 hS (lv_sub hl [0, 3] rfl)
  obtain ⟨hP9, hD9⟩ := PDq.sub (ws' := [(oX0 a0 p0 a1 a3 a4 a5 a6 i6 i7 i8 i9 i10 i11 i12 i13 i14 i15 i16 i17 i18 i19), (a1, .inr (6, [.ref a2, .int (nI nx), .int (nI kp)])), (a2, .inl (cA 0, 240, .inl fr)), (a3, .inl (cA 0, 10, .inl fs)), (a4, .inl (cA 0, 10, .inl fp)), (a5, .inl (cA 0, 10, .inl ff)), (a6, .inl (cA 0, 10, .inl fd)), (oX3 p0 pr pb pe pg p1 (nI nd) p2 p3 p4 p5 (nI cn) p6 (nI pq) p7 p8 p9 (nI sc)), (p3, .inl (cA 0, 10, .inl fam)), (p5, .inl (cA 0, 10, .inl fby))]) hP hD [0, 1, 2, 3, 4, 5, 6, 7, 8, 9] (by decide +kernel) rfl
  exact loop1 (cn - 0) 0 i8 i12 i13 nx kp fr fs fp _ _ ls (by omega) hnx hkp hRC hP9 hD9 hS (lv_sub hl [0, 1] rfl)

set_option maxHeartbeats 4000000 in
set_option maxRecDepth 100000 in
/-- the class, exactly: X0_makeDue -/
theorem c_makeDue (l : Launch) (D : va_G) (cA : Nat → ClassId) (sa : Nat → Nat) (a0 : Nat) (a1 : Nat) (a2 : Nat) (a3 : Nat) (a4 : Nat) (a5 : Nat) (a6 : Nat) (p0 : Nat) (i6 : Int32) (i7 : Int32) (i8 : Int32) (i12 : Int32) (i13 : Int32) (i14 : Int32) (i15 : Int32) (i16 : Int32) (i17 : Int32) (i18 : Int32) (i19 : Int32) (i9 : Int64) (i10 : Int64) (i11 : Int64) (p1 : Nat) (p2 : Nat) (p3 : Nat) (p4 : Nat) (p5 : Nat) (p6 : Nat) (p7 : Nat) (p8 : Nat) (p9 : Nat) (cn : Nat) (pq : Nat) (nd : Nat) (sc : Nat) (pr : Int32) (pb : Int32) (pe : Int32) (pg : Int32) (fen : Nat → Int32) (fst : Nat → Int32) (fop : Nat → Int32) (nx : Nat) (kp : Nat) (ra : Nat → Int32) (rq : Int64) (sm : Prop) (cf : Nat → Int32) (cq : Nat → Nat) (fs : Nat → Int32) (fp : Nat → Int32) (ff : Nat → Int32) (fd : Nat → Int32) (fam : Nat → Int32) (sz : Nat) (hcn : cn ≤ 10) (hpq : pq ≤ 8) (hnd : nd ≤ 6) (hsc : sc ≤ 350) (hCE : CE sc cf fst fop) (hCQ : CQ cn cf cq) (hEn : Ens cn cq fen) (hqs : cq cn ≤ sc) (hRC : RC sm cn ra rq i6 i7 i8 i9 i11 i12 i13 i15 i16 i17 i18 i19 kp fs fp ff fd fam) : Met l yX0_makeDue wsX0_makeDue ({ frames := 3, cells := 0, slots := 0, locals := 76 }) (va_Pc [.ref a0] (Wd D cA sa [(oX0 a0 p0 a1 a3 a4 a5 a6 i6 i7 i8 i9 i10 i11 i12 i13 i14 i15 i16 i17 i18 i19), (a1, .inr (6, [.ref a2, .int (nI nx), .int (nI kp)])), (oX3 p0 pr pb pe pg p1 (nI nd) p2 p3 p4 p5 (nI cn) p6 (nI pq) p7 p8 p9 (nI sc)), (p9, .inl (cA 0, 10, .inl fen)), (p7, .inl (cA 0, 350, .inl fst)), (p8, .inl (cA 0, 350, .inl fop)), (a3, .inl (cA 0, 10, .inl fs)), (a4, .inl (cA 0, 10, .inl fp)), (a5, .inl (cA 0, 10, .inl ff)), (a6, .inl (cA 0, 10, .inl fd)), (p3, .inl (cA 0, 10, .inl fam))] sz)) (va_Qv (fun _ : Unit => True) (fun (_ : Unit) t => ∃ zs : Nat → Int32, ∃ zd : Nat → Int32, RC sm cn (dues cf cq (doC fs cn) ra cn) rq i6 i7 i8 i9 i11 i12 i13 i15 i16 i17 i18 i19 kp zs fp ff zd fam ∧ Wq D (va_A [(oX0 a0 p0 a1 a3 a4 a5 a6 i6 i7 i8 i9 i10 i11 i12 i13 i14 i15 i16 i17 i18 i19), (a1, .inr (6, [.ref a2, .int (nI nx), .int (nI kp)])), (oX3 p0 pr pb pe pg p1 (nI nd) p2 p3 p4 p5 (nI cn) p6 (nI pq) p7 p8 p9 (nI sc)), (p9, .inl (cA 0, 10, .inl fen)), (p7, .inl (cA 0, 350, .inl fst)), (p8, .inl (cA 0, 350, .inl fop)), (a3, .inl (cA 0, 10, .inl fs)), (a4, .inl (cA 0, 10, .inl fp)), (a5, .inl (cA 0, 10, .inl ff)), (a6, .inl (cA 0, 10, .inl fd)), (p3, .inl (cA 0, 10, .inl fam))] sz) [(oX0 a0 p0 a1 a3 a4 a5 a6 i6 i7 i8 i9 i10 i11 i12 i13 i14 i15 i16 i17 i18 i19), (a1, .inr (6, [.ref a2, .int (nI nx), .int (nI kp)])), (oX3 p0 pr pb pe pg p1 (nI nd) p2 p3 p4 p5 (nI cn) p6 (nI pq) p7 p8 p9 (nI sc)), (p9, .inl (cA 0, 10, .inl fen)), (p7, .inl (cA 0, 350, .inl fst)), (p8, .inl (cA 0, 350, .inl fop)), (a3, .inl (cA 0, 10, .inl zs)), (a4, .inl (cA 0, 10, .inl fp)), (a5, .inl (cA 0, 10, .inl ff)), (a6, .inl (cA 0, 10, .inl zd)), (p3, .inl (cA 0, 10, .inl fam))] t) (va_A [(oX0 a0 p0 a1 a3 a4 a5 a6 i6 i7 i8 i9 i10 i11 i12 i13 i14 i15 i16 i17 i18 i19), (a1, .inr (6, [.ref a2, .int (nI nx), .int (nI kp)])), (oX3 p0 pr pb pe pg p1 (nI nd) p2 p3 p4 p5 (nI cn) p6 (nI pq) p7 p8 p9 (nI sc)), (p9, .inl (cA 0, 10, .inl fen)), (p7, .inl (cA 0, 350, .inl fst)), (p8, .inl (cA 0, 350, .inl fop)), (a3, .inl (cA 0, 10, .inl fs)), (a4, .inl (cA 0, 10, .inl fp)), (a5, .inl (cA 0, 10, .inl ff)), (a6, .inl (cA 0, 10, .inl fd)), (p3, .inl (cA 0, 10, .inl fam))] sz)) 0 0 (va_A [(oX0 a0 p0 a1 a3 a4 a5 a6 i6 i7 i8 i9 i10 i11 i12 i13 i14 i15 i16 i17 i18 i19), (a1, .inr (6, [.ref a2, .int (nI nx), .int (nI kp)])), (oX3 p0 pr pb pe pg p1 (nI nd) p2 p3 p4 p5 (nI cn) p6 (nI pq) p7 p8 p9 (nI sc)), (p9, .inl (cA 0, 10, .inl fen)), (p7, .inl (cA 0, 350, .inl fst)), (p8, .inl (cA 0, 350, .inl fop)), (a3, .inl (cA 0, 10, .inl fs)), (a4, .inl (cA 0, 10, .inl fp)), (a5, .inl (cA 0, 10, .inl ff)), (a6, .inl (cA 0, 10, .inl fd)), (p3, .inl (cA 0, 10, .inl fam))] sz) := by
  refine Met.ofW (cc := cX0_makeDue) (maxL := 3) (ret := none) (by decide) rfl ?_
  intro p e s m args below meth c s₁ B hml hv
  obtain ⟨rfl, hsz, hP, hK, hD0, hC, hZ⟩ := hv
  have hx := B.exec
  have hb := B.bytes
  have hr := B.returns
  have hts := atoms_spec (ws := wsX0_makeDue) B.pre
  have hown : s.vm.findClass RX0 = some m.cls := findClass_of_methodNamed B.named
  have hlocks := B.notSynchronized
  subst hsz
  have hD := hD0.self (sz := s.heap.size)
  generalize hAe : va_A [(oX0 a0 p0 a1 a3 a4 a5 a6 i6 i7 i8 i9 i10 i11 i12 i13 i14 i15 i16 i17 i18 i19), (a1, .inr (6, [.ref a2, .int (nI nx), .int (nI kp)])), (oX3 p0 pr pb pe pg p1 (nI nd) p2 p3 p4 p5 (nI cn) p6 (nI pq) p7 p8 p9 (nI sc)), (p9, .inl (cA 0, 10, .inl fen)), (p7, .inl (cA 0, 350, .inl fst)), (p8, .inl (cA 0, 350, .inl fop)), (a3, .inl (cA 0, 10, .inl fs)), (a4, .inl (cA 0, 10, .inl fp)), (a5, .inl (cA 0, 10, .inl ff)), (a6, .inl (cA 0, 10, .inl fd)), (p3, .inl (cA 0, 10, .inl fam))] s.heap.size = A at hD hZ ⊢
  have hA : ∀ q : Nat, s.heap.size ≤ q → A q := fun q h => by rw [← hAe]; exact Or.inr h
  have hS : va_S A s.heap s.heap [] := va_S.rf
  have hP : va_P D vwCl [(oX0 a0 p0 a1 a3 a4 a5 a6 i6 i7 i8 i9 i10 i11 i12 i13 i14 i15 i16 i17 i18 i19), (a1, .inr (6, [.ref a2, .int (nI nx), .int (nI kp)])), (oX3 p0 pr pb pe pg p1 (nI nd) p2 p3 p4 p5 (nI cn) p6 (nI pq) p7 p8 p9 (nI sc)), (p9, .inl (cA 0, 10, .inl fen)), (p7, .inl (cA 0, 350, .inl fst)), (p8, .inl (cA 0, 350, .inl fop)), (a3, .inl (cA 0, 10, .inl fs)), (a4, .inl (cA 0, 10, .inl fp)), (a5, .inl (cA 0, 10, .inl ff)), (a6, .inl (cA 0, 10, .inl fd)), (p3, .inl (cA 0, 10, .inl fam))] s.heap := hP
  have hl := lv_entry ([.ref a0]) (n := 3) (Nat.le_of_ble_eq_true rfl)
  rw [lg_entry_eq]
  generalize (lg_sl ([.ref a0]) ++ List.replicate (3 - (lg_sl ([.ref a0])).length) Slot.unset).toArray = ls at hl ⊢
  have hl : lv_has ls 3 [(0, .ref a0)] := hl
  have inX0 : ∀ w ∈ u_ws RX0 TX0 20, w ∈ wsX0_makeDue := by decide +kernel
  have inX3 : ∀ w ∈ u_ws RX3 TX3 17, w ∈ wsX0_makeDue := by decide +kernel
  refine lv_aload_n hx hb dX0_makeDue_0 rfl (lv_at hl 0 rfl) ?_
  obtain ⟨hPc, hDc, hFc⟩ := PDq.cut (wc := [(oX0 a0 p0 a1 a3 a4 a5 a6 i6 i7 i8 i9 i10 i11 i12 i13 i14 i15 i16 i17 i18 i19), (oX3 p0 pr pb pe pg p1 (nI nd) p2 p3 p4 p5 (nI cn) p6 (nI pq) p7 p8 p9 (nI sc)), (a3, .inl (cA 0, 10, .inl fs))]) hP hD hS hA [0, 2, 6] (by decide) rfl
  refine va_calli (va_runV (As := []) (rest := []) ⟨hx, hb, hml, hown, hts⟩ (c_doneSet l D cA sa a0 a1 a3 a4 a5 a6 p0 i6 i7 i8 i12 i13 i14 i15 i16 i17 i18 i19 i9 i10 i11 p1 p2 p3 p4 p5 p6 p7 p8 p9 cn pq nd sc pr pb pe pg fs s.heap.size hcn hpq hnd hsc) (cwV 0 hts gX0_makeDue_X0_doneSet rfl rfl rfl (by decide +kernel) ⟨(Nat.le_of_ble_eq_true rfl), (Nat.le_of_ble_eq_true rfl)⟩) ⟨Wd.blind, va_recv hK hPc (ci := 4) (q0 := 0) rfl rfl, fun U hU hW => ⟨rfl, Wd.call hPc hDc hK hC hZ hS hFc U hU hW⟩⟩ rfl rfl hl.1 rfl (lv_room (Nat.le_of_ble_eq_true rfl)) dX0_makeDue_1 ⟨(Nat.le_of_ble_eq_true rfl), (Nat.le_of_ble_eq_true rfl)⟩) hS (fun q _ h => hFc q h) hFc (fun rn1 u t H1 locs ht hvm hw hB hz1 hk1 hS => ?_)
  obtain ⟨hP1, hD1⟩ := hB
  rw [ht] at hP1
  obtain ⟨hP, hD⟩ := PDq.join (w := [(a1, .inr (6, [.ref a2, .int (nI nx), .int (nI kp)])), (p9, .inl (cA 0, 10, .inl fen)), (p7, .inl (cA 0, 350, .inl fst)), (p8, .inl (cA 0, 350, .inl fop)), (a4, .inl (cA 0, 10, .inl fp)), (a5, .inl (cA 0, 10, .inl ff)), (a6, .inl (cA 0, 10, .inl fd)), (p3, .inl (cA 0, 10, .inl fam)), (oX0 a0 p0 a1 a3 a4 a5 a6 i6 i7 i8 i9 i10 i11 i12 i13 i14 i15 i16 i17 i18 i19), (oX3 p0 pr pb pe pg p1 (nI nd) p2 p3 p4 p5 (nI cn) p6 (nI pq) p7 p8 p9 (nI sc)), (a3, .inl (cA 0, 10, .inl fs))]) 8 hP hD [0, 2, 6] [1, 3, 4, 5, 7, 8, 9, 10] rfl rfl (by decide) (by decide +kernel) hk1 hFc hP1 hD1 rfl
  generalize H1 = H at hP hS ⊢
  obtain rfl : rn1 = (doC fs cn) := hw
  refine lv_istore_n (lv' := [(1, .int (doC fs cn)), (0, .ref a0)]) hx hb dX0_makeDue_4 rfl hl (by decide) rfl (fun ls hl => ?_)
  refine lv_iconst (v := 0) hx hb dX0_makeDue_5 (by decide) ?_
  refine lv_istore_n (lv' := [(2, .int 0), (1, .int (doC fs cn)), (0, .ref a0)]) hx hb dX0_makeDue_6 rfl hl (by decide) rfl (fun ls hl => ?_)
  have loop1 : ∀ (n1 i1 : Nat) (f6_1 : Nat → Int32) (f10_1 : Nat → Int32) (H : Heap) (locs : List Loc) (ls : Array Slot), i1 + n1 = cn → Rdd f10_1 → Rdd f6_1 → RC sm cn (dues cf cq (doC fs cn) ra i1) rq i6 i7 i8 i9 i11 i12 i13 i15 i16 i17 i18 i19 kp f10_1 fp ff f6_1 fam → va_P D vwCl [(a1, .inr (6, [.ref a2, .int (nI nx), .int (nI kp)])), (p9, .inl (cA 0, 10, .inl fen)), (p7, .inl (cA 0, 350, .inl fst)), (p8, .inl (cA 0, 350, .inl fop)), (a4, .inl (cA 0, 10, .inl fp)), (a5, .inl (cA 0, 10, .inl ff)), (a6, .inl (cA 0, 10, .inl f6_1)), (p3, .inl (cA 0, 10, .inl fam)), (oX0 a0 p0 a1 a3 a4 a5 a6 i6 i7 i8 i9 i10 i11 i12 i13 i14 i15 i16 i17 i18 i19), (oX3 p0 pr pb pe pg p1 (nI nd) p2 p3 p4 p5 (nI cn) p6 (nI pq) p7 p8 p9 (nI sc)), (a3, .inl (cA 0, 10, .inl f10_1))] H → va_D A [(a1, .inr (6, [.ref a2, .int (nI nx), .int (nI kp)])), (p9, .inl (cA 0, 10, .inl fen)), (p7, .inl (cA 0, 350, .inl fst)), (p8, .inl (cA 0, 350, .inl fop)), (a4, .inl (cA 0, 10, .inl fp)), (a5, .inl (cA 0, 10, .inl ff)), (a6, .inl (cA 0, 10, .inl f6_1)), (p3, .inl (cA 0, 10, .inl fam)), (oX0 a0 p0 a1 a3 a4 a5 a6 i6 i7 i8 i9 i10 i11 i12 i13 i14 i15 i16 i17 i18 i19), (oX3 p0 pr pb pe pg p1 (nI nd) p2 p3 p4 p5 (nI cn) p6 (nI pq) p7 p8 p9 (nI sc)), (a3, .inl (cA 0, 10, .inl f10_1))] → va_S A s.heap H locs → lv_has ls 3 [(2, .int (nI i1)), (1, .int (doC fs cn)), (0, .ref a0)] → W p l e (headSpec wsX0_makeDue ({ frames := 3, cells := 0, slots := 0, locals := 76 } : Room)).room s m ([.ref a0] : List Value).toArray below meth c H locs 0 0 (MQ below (va_Qv (fun _ : Unit => True) (fun (_ : Unit) t => ∃ zs : Nat → Int32, ∃ zd : Nat → Int32, RC sm cn (dues cf cq (doC fs cn) ra cn) rq i6 i7 i8 i9 i11 i12 i13 i15 i16 i17 i18 i19 kp zs fp ff zd fam ∧ Wq D A [(oX0 a0 p0 a1 a3 a4 a5 a6 i6 i7 i8 i9 i10 i11 i12 i13 i14 i15 i16 i17 i18 i19), (a1, .inr (6, [.ref a2, .int (nI nx), .int (nI kp)])), (oX3 p0 pr pb pe pg p1 (nI nd) p2 p3 p4 p5 (nI cn) p6 (nI pq) p7 p8 p9 (nI sc)), (p9, .inl (cA 0, 10, .inl fen)), (p7, .inl (cA 0, 350, .inl fst)), (p8, .inl (cA 0, 350, .inl fop)), (a3, .inl (cA 0, 10, .inl zs)), (a4, .inl (cA 0, 10, .inl fp)), (a5, .inl (cA 0, 10, .inl ff)), (a6, .inl (cA 0, 10, .inl zd)), (p3, .inl (cA 0, 10, .inl fam))] t) A) ([.ref a0] : List Value).toArray s 0 0 A) (F0 m 7 ls []) := by
    intro n1
    induction n1 with
    | zero =>
      intro i1 f6_1 f10_1 H locs ls hi1 hf0_1 hf1_1 hv0_1 hP hD hS hl
      obtain rfl : cn = i1 := by omega
      refine lv_iload_n hx hb dX0_makeDue_7 rfl (lv_at hl 0 rfl) ?_
      refine lv_aload_n hx hb dX0_makeDue_8 rfl (lv_at hl 2 rfl) ?_
      refine va_get (D := D) (ci := 4) (v := .ref p0) (C := RX0) (T := TX0) (N := 20) hx hb hts inX0 hown hK hP 8 rfl rfl 0 (by decide) (hts (.fieldLink RX0 31 "EscrowDesk$Account" "plan" "LEscrowDesk$Plan;") (by decide +kernel)) (fun _ h9 => h9) rfl dX0_makeDue_9 ?_
      refine va_getN (D := D) (ci := 7) (v := .int (nI cn)) (C := RX3) (T := TX3) (N := 17) hx hb hts inX3 hown hK hP 9 rfl rfl 10 (by decide) (hC.f (A := _) (a := RX0) (i := 109) (b := "EscrowDesk$Plan") (n := "milestoneCount") (d := "I") (x := "EscrowDesk") (by decide +kernel)) (fun _ h9 => h9) rfl dX0_makeDue_12 ?_
      refine lv_icmp_ge (tgt := 67) hx hb dX0_makeDue_15 (by decide) (fun c2 => ?_) (fun c9 => absurd (nI_le (a := cn) (b := cn) (show cn ≤ cn by omega) (by omega)) c9)
      obtain ⟨hP9, hD9⟩ := PDq.sub (ws' := [(oX0 a0 p0 a1 a3 a4 a5 a6 i6 i7 i8 i9 i10 i11 i12 i13 i14 i15 i16 i17 i18 i19), (a1, .inr (6, [.ref a2, .int (nI nx), .int (nI kp)])), (oX3 p0 pr pb pe pg p1 (nI nd) p2 p3 p4 p5 (nI cn) p6 (nI pq) p7 p8 p9 (nI sc)), (p9, .inl (cA 0, 10, .inl fen)), (p7, .inl (cA 0, 350, .inl fst)), (p8, .inl (cA 0, 350, .inl fop)), (a3, .inl (cA 0, 10, .inl f10_1)), (a4, .inl (cA 0, 10, .inl fp)), (a5, .inl (cA 0, 10, .inl ff)), (a6, .inl (cA 0, 10, .inl f6_1)), (p3, .inl (cA 0, 10, .inl fam))]) hP hD [8, 0, 9, 1, 2, 3, 10, 4, 5, 6, 7] (by decide +kernel) rfl
      refine W.widen (k := 0) (n := 0) (Nat.le_of_ble_eq_true rfl) (Nat.le_of_ble_eq_true rfl) ?_
      exact (W.vret hx hb hr (fun t ht hW => ⟨⟨(), rfl, trivial, f10_1, f6_1, hv0_1, by rw [ht]; exact hP9, hD9⟩, hS.F ht⟩) hS.2.2 dX0_makeDue_67)
    | succ n1 ih1 =>
      intro i1 f6_1 f10_1 H locs ls hi1 hf0_1 hf1_1 hv0_1 hP hD hS hl
      refine lv_iload_n hx hb dX0_makeDue_7 rfl (lv_at hl 0 rfl) ?_
      refine lv_aload_n hx hb dX0_makeDue_8 rfl (lv_at hl 2 rfl) ?_
      refine va_get (D := D) (ci := 4) (v := .ref p0) (C := RX0) (T := TX0) (N := 20) hx hb hts inX0 hown hK hP 8 rfl rfl 0 (by decide) (hts (.fieldLink RX0 31 "EscrowDesk$Account" "plan" "LEscrowDesk$Plan;") (by decide +kernel)) (fun _ h9 => h9) rfl dX0_makeDue_9 ?_
      refine va_getN (D := D) (ci := 7) (v := .int (nI cn)) (C := RX3) (T := TX3) (N := 17) hx hb hts inX3 hown hK hP 9 rfl rfl 10 (by decide) (hC.f (A := _) (a := RX0) (i := 109) (b := "EscrowDesk$Plan") (n := "milestoneCount") (d := "I") (x := "EscrowDesk") (by decide +kernel)) (fun _ h9 => h9) rfl dX0_makeDue_12 ?_
      refine lv_icmp_ge (tgt := 67) hx hb dX0_makeDue_15 (by decide) (fun c9 => absurd c9 (nI_ge (a := i1) (b := cn) (show i1 < cn by omega) (by omega))) (fun c3 => ?_)
      refine lv_aload_n hx hb dX0_makeDue_18 rfl (lv_at hl 2 rfl) ?_
      refine va_get (D := D) (ci := 4) (v := .ref a3) (C := RX0) (T := TX0) (N := 20) hx hb hts inX0 hown hK hP 8 rfl rfl 2 (by decide) (hts (.fieldLink RX0 18 "EscrowDesk$Account" "state" "[I") (by decide +kernel)) (fun _ h9 => h9) rfl dX0_makeDue_19 ?_
      refine lv_iload_n hx hb dX0_makeDue_22 rfl (lv_at hl 0 rfl) ?_
      refine va_iald hx hb hK hP 10 0 rfl rfl (vp_in_nI (n := i1) (N := 10) (show i1 < 10 by omega) (by decide)) dX0_makeDue_23 ?_
      refine lv_topi (fun yn4 eyn4 => ?_)
      obtain rfl : yn4 = (f10_1 i1) := eyn4.trans (by rw [nI_clamp (by omega)])
      refine lv_if_ne (tgt := 61) hx hb dX0_makeDue_24 (by decide) (fun c5 => ?_) (fun c5 => ?_)
      · skip
        refine lv_iinc (v := (nI (i1 + 1))) (lv' := [(2, .int (nI (i1 + 1))), (1, .int (doC fs cn)), (0, .ref a0)]) hx hb dX0_makeDue_61 hl (k := 0) rfl (nI_1 _) (by decide) rfl (fun ls hl => ?_)
        refine lv_goto (tgt := 7) hx hb dX0_makeDue_64 (by decide) ?_
        obtain ⟨hP9, hD9⟩ := PDq.sub (ws' := [(a1, .inr (6, [.ref a2, .int (nI nx), .int (nI kp)])), (p9, .inl (cA 0, 10, .inl fen)), (p7, .inl (cA 0, 350, .inl fst)), (p8, .inl (cA 0, 350, .inl fop)), (a4, .inl (cA 0, 10, .inl fp)), (a5, .inl (cA 0, 10, .inl ff)), (a6, .inl (cA 0, 10, .inl f6_1)), (p3, .inl (cA 0, 10, .inl fam)), (oX0 a0 p0 a1 a3 a4 a5 a6 i6 i7 i8 i9 i10 i11 i12 i13 i14 i15 i16 i17 i18 i19), (oX3 p0 pr pb pe pg p1 (nI nd) p2 p3 p4 p5 (nI cn) p6 (nI pq) p7 p8 p9 (nI sc)), (a3, .inl (cA 0, 10, .inl f10_1))]) hP hD [0, 1, 2, 3, 4, 5, 6, 7, 8, 9, 10] (by decide +kernel) rfl
        exact ih1 (i1 + 1) f6_1 f10_1 H _ ls (by omega) hf0_1 hf1_1 (RC.due_n hv0_1 (show i1 < cn by omega) (fun q9 => c5 q9.1)) hP9 hD9 hS (lv_sub hl [0, 1, 2] rfl)
      · skip
        refine lv_aload_n hx hb dX0_makeDue_27 rfl (lv_at hl 2 rfl) ?_
        refine lv_iload_n hx hb dX0_makeDue_28 rfl (lv_at hl 0 rfl) ?_
        refine lv_aload_n hx hb dX0_makeDue_29 rfl (lv_at hl 2 rfl) ?_
        refine va_get (D := D) (ci := 4) (v := .int i6) (C := RX0) (T := TX0) (N := 20) hx hb hts inX0 hown hK hP 8 rfl rfl 6 (by decide) (hts (.fieldLink RX0 40 "EscrowDesk$Account" "day" "I") (by decide +kernel)) (fun _ h9 => h9) rfl dX0_makeDue_30 ?_
        refine lv_aload_n hx hb dX0_makeDue_33 rfl (lv_at hl 2 rfl) ?_
        refine va_get (D := D) (ci := 4) (v := .int i18) (C := RX0) (T := TX0) (N := 20) hx hb hts inX0 hown hK hP 8 rfl rfl 18 (by decide) (hts (.fieldLink RX0 83 "EscrowDesk$Account" "submittedSet" "I") (by decide +kernel)) (fun _ h9 => h9) rfl dX0_makeDue_34 ?_
        refine lv_iload_n hx hb dX0_makeDue_37 rfl (lv_at hl 1 rfl) ?_
        obtain ⟨hPc, hDc, hFc⟩ := PDq.cut (wc := [(oX0 a0 p0 a1 a3 a4 a5 a6 i6 i7 i8 i9 i10 i11 i12 i13 i14 i15 i16 i17 i18 i19), (oX3 p0 pr pb pe pg p1 (nI nd) p2 p3 p4 p5 (nI cn) p6 (nI pq) p7 p8 p9 (nI sc)), (p9, .inl (cA 0, 10, .inl fen)), (p7, .inl (cA 0, 350, .inl fst)), (p8, .inl (cA 0, 350, .inl fop))]) hP hD hS hA [8, 9, 1, 2, 3] (by decide) rfl
        refine va_calli (va_runV (As := [.int (nI i1), .int i6, .int i18, .int (doC fs cn)]) (rest := []) ⟨hx, hb, hml, hown, hts⟩ (c_judged l D cA sa a0 a1 a3 a4 a5 a6 p0 i6 i7 i8 i12 i13 i14 i15 i16 i17 i18 i19 i9 i10 i11 p1 p2 p3 p4 p5 p6 p7 p8 p9 cn pq nd sc pr pb pe pg i1 fen fst fop cf cq i6 i18 (doC fs cn) H.size hcn hpq hnd hsc hCE hCQ hEn hqs (by omega)) (cwV 4 hts gX0_makeDue_X0_judged rfl rfl rfl (by decide +kernel) ⟨(Nat.le_of_ble_eq_true rfl), (Nat.le_of_ble_eq_true rfl)⟩) ⟨Wd.blind, va_recv hK hPc (ci := 4) (q0 := 0) rfl rfl, fun U hU hW => ⟨rfl, Wd.call hPc hDc hK hC hZ hS hFc U hU hW⟩⟩ rfl rfl hl.1 rfl (lv_room (Nat.le_of_ble_eq_true rfl)) dX0_makeDue_38 ⟨(Nat.le_of_ble_eq_true rfl), (Nat.le_of_ble_eq_true rfl)⟩) hS (fun q _ h => hFc q h) hFc (fun rn6 u t H1 locs ht hvm hw hB hz1 hk1 hS => ?_)
        obtain ⟨hP1, hD1⟩ := hB
        rw [ht] at hP1
        obtain ⟨hP, hD⟩ := PDq.join (w := [(a1, .inr (6, [.ref a2, .int (nI nx), .int (nI kp)])), (a4, .inl (cA 0, 10, .inl fp)), (a5, .inl (cA 0, 10, .inl ff)), (a6, .inl (cA 0, 10, .inl f6_1)), (p3, .inl (cA 0, 10, .inl fam)), (a3, .inl (cA 0, 10, .inl f10_1)), (oX0 a0 p0 a1 a3 a4 a5 a6 i6 i7 i8 i9 i10 i11 i12 i13 i14 i15 i16 i17 i18 i19), (oX3 p0 pr pb pe pg p1 (nI nd) p2 p3 p4 p5 (nI cn) p6 (nI pq) p7 p8 p9 (nI sc)), (p9, .inl (cA 0, 10, .inl fen)), (p7, .inl (cA 0, 350, .inl fst)), (p8, .inl (cA 0, 350, .inl fop))]) 6 hP hD [8, 9, 1, 2, 3] [0, 4, 5, 6, 7, 10] rfl rfl (by decide) (by decide +kernel) hk1 hFc hP1 hD1 rfl
        generalize H1 = H at hP hS ⊢
        rcases hw with ⟨hr9, hn7⟩ | ⟨hr9, hn7⟩
        · skip
          subst hr9
          refine lv_if_eq (tgt := 61) hx hb dX0_makeDue_41 (by decide) (fun c9 => absurd c9 (by decide)) (fun c8 => ?_)
          refine lv_aload_n hx hb dX0_makeDue_44 rfl (lv_at hl 2 rfl) ?_
          refine va_get (D := D) (ci := 4) (v := .ref a3) (C := RX0) (T := TX0) (N := 20) hx hb hts inX0 hown hK hP 6 rfl rfl 2 (by decide) (hts (.fieldLink RX0 18 "EscrowDesk$Account" "state" "[I") (by decide +kernel)) (fun _ h9 => h9) rfl dX0_makeDue_45 ?_
          refine lv_iload_n hx hb dX0_makeDue_48 rfl (lv_at hl 0 rfl) ?_
          refine lv_iconst (v := 1) hx hb dX0_makeDue_49 (by decide) ?_
          refine va_iast hx hb hK hP hD hS 5 0 rfl rfl (vp_in_nI (n := i1) (N := 10) (show i1 < 10 by omega) (by decide)) dX0_makeDue_50 (fun H locs hP hD hS => ?_)
          obtain ⟨hP, hD⟩ : PDq D A [(a1, .inr (6, [.ref a2, .int (nI nx), .int (nI kp)])), (a4, .inl (cA 0, 10, .inl fp)), (a5, .inl (cA 0, 10, .inl ff)), (a6, .inl (cA 0, 10, .inl f6_1)), (p3, .inl (cA 0, 10, .inl fam)), (a3, .inl (cA 0, 10, .inl (upd f10_1 (((nI i1)).toNatClampNeg) 1))), (oX0 a0 p0 a1 a3 a4 a5 a6 i6 i7 i8 i9 i10 i11 i12 i13 i14 i15 i16 i17 i18 i19), (oX3 p0 pr pb pe pg p1 (nI nd) p2 p3 p4 p5 (nI cn) p6 (nI pq) p7 p8 p9 (nI sc)), (p9, .inl (cA 0, 10, .inl fen)), (p7, .inl (cA 0, 350, .inl fst)), (p8, .inl (cA 0, 350, .inl fop))] H := ⟨hP, hD⟩
          have hn10 : Upp i1 1 f10_1 (upd f10_1 (((nI i1)).toNatClampNeg) 1) := Upp.of (by omega)
          have hn11 : Rdd (upd f10_1 (((nI i1)).toNatClampNeg) 1) := rfl
          generalize (upd f10_1 (((nI i1)).toNatClampNeg) 1) = fn9 at hP hD hn10 hn11
          obtain ⟨hP, hD⟩ : PDq D A [(a1, .inr (6, [.ref a2, .int (nI nx), .int (nI kp)])), (a4, .inl (cA 0, 10, .inl fp)), (a5, .inl (cA 0, 10, .inl ff)), (a6, .inl (cA 0, 10, .inl f6_1)), (p3, .inl (cA 0, 10, .inl fam)), (a3, .inl (cA 0, 10, .inl fn9)), (oX0 a0 p0 a1 a3 a4 a5 a6 i6 i7 i8 i9 i10 i11 i12 i13 i14 i15 i16 i17 i18 i19), (oX3 p0 pr pb pe pg p1 (nI nd) p2 p3 p4 p5 (nI cn) p6 (nI pq) p7 p8 p9 (nI sc)), (p9, .inl (cA 0, 10, .inl fen)), (p7, .inl (cA 0, 350, .inl fst)), (p8, .inl (cA 0, 350, .inl fop))] H := ⟨hP, hD⟩
          refine lv_aload_n hx hb dX0_makeDue_51 rfl (lv_at hl 2 rfl) ?_
          refine va_get (D := D) (ci := 4) (v := .ref a6) (C := RX0) (T := TX0) (N := 20) hx hb hts inX0 hown hK hP 6 rfl rfl 5 (by decide) (hts (.fieldLink RX0 28 "EscrowDesk$Account" "dueDay" "[I") (by decide +kernel)) (fun _ h9 => h9) rfl dX0_makeDue_52 ?_
          refine lv_iload_n hx hb dX0_makeDue_55 rfl (lv_at hl 0 rfl) ?_
          refine lv_aload_n hx hb dX0_makeDue_56 rfl (lv_at hl 2 rfl) ?_
          refine va_get (D := D) (ci := 4) (v := .int i6) (C := RX0) (T := TX0) (N := 20) hx hb hts inX0 hown hK hP 6 rfl rfl 6 (by decide) (hts (.fieldLink RX0 40 "EscrowDesk$Account" "day" "I") (by decide +kernel)) (fun _ h9 => h9) rfl dX0_makeDue_57 ?_
          refine va_iast hx hb hK hP hD hS 3 0 rfl rfl (vp_in_nI (n := i1) (N := 10) (show i1 < 10 by omega) (by decide)) dX0_makeDue_60 (fun H locs hP hD hS => ?_)
          obtain ⟨hP, hD⟩ : PDq D A [(a1, .inr (6, [.ref a2, .int (nI nx), .int (nI kp)])), (a4, .inl (cA 0, 10, .inl fp)), (a5, .inl (cA 0, 10, .inl ff)), (a6, .inl (cA 0, 10, .inl (upd f6_1 (((nI i1)).toNatClampNeg) i6))), (p3, .inl (cA 0, 10, .inl fam)), (a3, .inl (cA 0, 10, .inl fn9)), (oX0 a0 p0 a1 a3 a4 a5 a6 i6 i7 i8 i9 i10 i11 i12 i13 i14 i15 i16 i17 i18 i19), (oX3 p0 pr pb pe pg p1 (nI nd) p2 p3 p4 p5 (nI cn) p6 (nI pq) p7 p8 p9 (nI sc)), (p9, .inl (cA 0, 10, .inl fen)), (p7, .inl (cA 0, 350, .inl fst)), (p8, .inl (cA 0, 350, .inl fop))] H := ⟨hP, hD⟩
          have hn13 : Upp i1 i6 f6_1 (upd f6_1 (((nI i1)).toNatClampNeg) i6) := Upp.of (by omega)
          have hn14 : Rdd (upd f6_1 (((nI i1)).toNatClampNeg) i6) := rfl
          generalize (upd f6_1 (((nI i1)).toNatClampNeg) i6) = fn12 at hP hD hn13 hn14
          obtain ⟨hP, hD⟩ : PDq D A [(a1, .inr (6, [.ref a2, .int (nI nx), .int (nI kp)])), (a4, .inl (cA 0, 10, .inl fp)), (a5, .inl (cA 0, 10, .inl ff)), (a6, .inl (cA 0, 10, .inl fn12)), (p3, .inl (cA 0, 10, .inl fam)), (a3, .inl (cA 0, 10, .inl fn9)), (oX0 a0 p0 a1 a3 a4 a5 a6 i6 i7 i8 i9 i10 i11 i12 i13 i14 i15 i16 i17 i18 i19), (oX3 p0 pr pb pe pg p1 (nI nd) p2 p3 p4 p5 (nI cn) p6 (nI pq) p7 p8 p9 (nI sc)), (p9, .inl (cA 0, 10, .inl fen)), (p7, .inl (cA 0, 350, .inl fst)), (p8, .inl (cA 0, 350, .inl fop))] H := ⟨hP, hD⟩
          refine lv_iinc (v := (nI (i1 + 1))) (lv' := [(2, .int (nI (i1 + 1))), (1, .int (doC fs cn)), (0, .ref a0)]) hx hb dX0_makeDue_61 hl (k := 0) rfl (nI_1 _) (by decide) rfl (fun ls hl => ?_)
          refine lv_goto (tgt := 7) hx hb dX0_makeDue_64 (by decide) ?_
          obtain ⟨hP9, hD9⟩ := PDq.sub (ws' := [(a1, .inr (6, [.ref a2, .int (nI nx), .int (nI kp)])), (p9, .inl (cA 0, 10, .inl fen)), (p7, .inl (cA 0, 350, .inl fst)), (p8, .inl (cA 0, 350, .inl fop)), (a4, .inl (cA 0, 10, .inl fp)), (a5, .inl (cA 0, 10, .inl ff)), (a6, .inl (cA 0, 10, .inl fn12)), (p3, .inl (cA 0, 10, .inl fam)), (oX0 a0 p0 a1 a3 a4 a5 a6 i6 i7 i8 i9 i10 i11 i12 i13 i14 i15 i16 i17 i18 i19), (oX3 p0 pr pb pe pg p1 (nI nd) p2 p3 p4 p5 (nI cn) p6 (nI pq) p7 p8 p9 (nI sc)), (a3, .inl (cA 0, 10, .inl fn9))]) hP hD [0, 8, 9, 10, 1, 2, 3, 4, 6, 7, 5] (by decide +kernel) rfl
          exact ih1 (i1 + 1) fn12 fn9 H _ ls (by omega) hn11 hn14 (RC.due_y hv0_1 (show i1 < cn by omega) c5 hn7 hn10 hn13) hP9 hD9 hS (lv_sub hl [0, 1, 2] rfl)
        · skip
          subst hr9
          refine lv_if_eq (tgt := 61) hx hb dX0_makeDue_41 (by decide) (fun c15 => ?_) (fun c9 => absurd c9 (by decide))
          refine lv_iinc (v := (nI (i1 + 1))) (lv' := [(2, .int (nI (i1 + 1))), (1, .int (doC fs cn)), (0, .ref a0)]) hx hb dX0_makeDue_61 hl (k := 0) rfl (nI_1 _) (by decide) rfl (fun ls hl => ?_)
          refine lv_goto (tgt := 7) hx hb dX0_makeDue_64 (by decide) ?_
          obtain ⟨hP9, hD9⟩ := PDq.sub (ws' := [(a1, .inr (6, [.ref a2, .int (nI nx), .int (nI kp)])), (p9, .inl (cA 0, 10, .inl fen)), (p7, .inl (cA 0, 350, .inl fst)), (p8, .inl (cA 0, 350, .inl fop)), (a4, .inl (cA 0, 10, .inl fp)), (a5, .inl (cA 0, 10, .inl ff)), (a6, .inl (cA 0, 10, .inl f6_1)), (p3, .inl (cA 0, 10, .inl fam)), (oX0 a0 p0 a1 a3 a4 a5 a6 i6 i7 i8 i9 i10 i11 i12 i13 i14 i15 i16 i17 i18 i19), (oX3 p0 pr pb pe pg p1 (nI nd) p2 p3 p4 p5 (nI cn) p6 (nI pq) p7 p8 p9 (nI sc)), (a3, .inl (cA 0, 10, .inl f10_1))]) hP hD [0, 8, 9, 10, 1, 2, 3, 4, 6, 7, 5] (by decide +kernel) rfl
          exact ih1 (i1 + 1) f6_1 f10_1 H _ ls (by omega) hf0_1 hf1_1 (RC.due_n hv0_1 (show i1 < cn by omega) (fun q9 => hn7 q9.2)) hP9 hD9 hS (lv_sub hl [0, 1, 2] rfl)
  obtain ⟨hP9, hD9⟩ := PDq.sub (ws' := [(a1, .inr (6, [.ref a2, .int (nI nx), .int (nI kp)])), (p9, .inl (cA 0, 10, .inl fen)), (p7, .inl (cA 0, 350, .inl fst)), (p8, .inl (cA 0, 350, .inl fop)), (a4, .inl (cA 0, 10, .inl fp)), (a5, .inl (cA 0, 10, .inl ff)), (a6, .inl (cA 0, 10, .inl fd)), (p3, .inl (cA 0, 10, .inl fam)), (oX0 a0 p0 a1 a3 a4 a5 a6 i6 i7 i8 i9 i10 i11 i12 i13 i14 i15 i16 i17 i18 i19), (oX3 p0 pr pb pe pg p1 (nI nd) p2 p3 p4 p5 (nI cn) p6 (nI pq) p7 p8 p9 (nI sc)), (a3, .inl (cA 0, 10, .inl fs))]) hP hD [0, 1, 2, 3, 4, 5, 6, 7, 8, 9, 10] (by decide +kernel) rfl
  exact loop1 (cn - 0) 0 fd fs _ _ ls (by omega) rfl rfl hRC hP9 hD9 hS (lv_sub hl [0, 1, 2] rfl)

set_option maxHeartbeats 4000000 in
set_option maxRecDepth 100000 in
/-- the class, exactly: X0_creditInterest -/
theorem c_creditInterest (l : Launch) (D : va_G) (cA : Nat → ClassId) (sa : Nat → Nat) (a0 : Nat) (a1 : Nat) (a2 : Nat) (a3 : Nat) (a4 : Nat) (a5 : Nat) (a6 : Nat) (p0 : Nat) (i6 : Int32) (i7 : Int32) (i8 : Int32) (i12 : Int32) (i13 : Int32) (i14 : Int32) (i15 : Int32) (i16 : Int32) (i17 : Int32) (i18 : Int32) (i19 : Int32) (i9 : Int64) (i10 : Int64) (i11 : Int64) (nx : Nat) (kp : Nat) (fr : Nat → Int32) (ra : Nat → Int32) (rq : Int64) (sm : Prop) (fs : Nat → Int32) (fp : Nat → Int32) (ff : Nat → Int32) (fd : Nat → Int32) (fam : Nat → Int32) (cn : Nat) (p3 : Nat) (sz : Nat) (hnx : nx < 60) (hkp : kp ≤ 60) (hRC : RC sm cn ra rq i6 i7 i8 i9 i11 i12 i13 i15 i16 i17 i18 i19 kp fs fp ff fd fam) (hCap : Cap sm ra) : Met l yX0_creditInterest wsX0_creditInterest ({ frames := 2, cells := 0, slots := 0, locals := 46 }) (va_Pc [.ref a0] (Wd D cA sa [(oX0 a0 p0 a1 a3 a4 a5 a6 i6 i7 i8 i9 i10 i11 i12 i13 i14 i15 i16 i17 i18 i19), (a1, .inr (6, [.ref a2, .int (nI nx), .int (nI kp)])), (a2, .inl (cA 0, 240, .inl fr)), (a3, .inl (cA 0, 10, .inl fs)), (a4, .inl (cA 0, 10, .inl fp)), (a5, .inl (cA 0, 10, .inl ff)), (a6, .inl (cA 0, 10, .inl fd)), (p3, .inl (cA 0, 10, .inl fam))] sz)) (va_Qv (fun _ : Unit => True) (fun (_ : Unit) t => ∃ z9 : Int64, ∃ z10 : Int64, ∃ z11 : Int64, ∃ ny : Nat, ∃ ky : Nat, ∃ zr : Nat → Int32, ny < 60 ∧ ky ≤ 60 ∧ RC sm cn (crR rq ra) (crQ rq ra) i6 i7 i8 z9 z11 i12 i13 i15 i16 i17 i18 i19 ky fs fp ff fd fam ∧ Wq D (va_A [(oX0 a0 p0 a1 a3 a4 a5 a6 i6 i7 i8 i9 i10 i11 i12 i13 i14 i15 i16 i17 i18 i19), (a1, .inr (6, [.ref a2, .int (nI nx), .int (nI kp)])), (a2, .inl (cA 0, 240, .inl fr)), (a3, .inl (cA 0, 10, .inl fs)), (a4, .inl (cA 0, 10, .inl fp)), (a5, .inl (cA 0, 10, .inl ff)), (a6, .inl (cA 0, 10, .inl fd)), (p3, .inl (cA 0, 10, .inl fam))] sz) [(oX0 a0 p0 a1 a3 a4 a5 a6 i6 i7 i8 z9 z10 z11 i12 i13 i14 i15 i16 i17 i18 i19), (a1, .inr (6, [.ref a2, .int (nI ny), .int (nI ky)])), (a2, .inl (cA 0, 240, .inl zr)), (a3, .inl (cA 0, 10, .inl fs)), (a4, .inl (cA 0, 10, .inl fp)), (a5, .inl (cA 0, 10, .inl ff)), (a6, .inl (cA 0, 10, .inl fd)), (p3, .inl (cA 0, 10, .inl fam))] t) (va_A [(oX0 a0 p0 a1 a3 a4 a5 a6 i6 i7 i8 i9 i10 i11 i12 i13 i14 i15 i16 i17 i18 i19), (a1, .inr (6, [.ref a2, .int (nI nx), .int (nI kp)])), (a2, .inl (cA 0, 240, .inl fr)), (a3, .inl (cA 0, 10, .inl fs)), (a4, .inl (cA 0, 10, .inl fp)), (a5, .inl (cA 0, 10, .inl ff)), (a6, .inl (cA 0, 10, .inl fd)), (p3, .inl (cA 0, 10, .inl fam))] sz)) 0 0 (va_A [(oX0 a0 p0 a1 a3 a4 a5 a6 i6 i7 i8 i9 i10 i11 i12 i13 i14 i15 i16 i17 i18 i19), (a1, .inr (6, [.ref a2, .int (nI nx), .int (nI kp)])), (a2, .inl (cA 0, 240, .inl fr)), (a3, .inl (cA 0, 10, .inl fs)), (a4, .inl (cA 0, 10, .inl fp)), (a5, .inl (cA 0, 10, .inl ff)), (a6, .inl (cA 0, 10, .inl fd)), (p3, .inl (cA 0, 10, .inl fam))] sz) := by
  refine Met.ofW (cc := cX0_creditInterest) (maxL := 5) (ret := none) (by decide) rfl ?_
  intro p e s m args below meth c s₁ B hml hv
  obtain ⟨rfl, hsz, hP, hK, hD0, hC, hZ⟩ := hv
  have hx := B.exec
  have hb := B.bytes
  have hr := B.returns
  have hts := atoms_spec (ws := wsX0_creditInterest) B.pre
  have hown : s.vm.findClass RX0 = some m.cls := findClass_of_methodNamed B.named
  have hlocks := B.notSynchronized
  subst hsz
  have hD := hD0.self (sz := s.heap.size)
  generalize hAe : va_A [(oX0 a0 p0 a1 a3 a4 a5 a6 i6 i7 i8 i9 i10 i11 i12 i13 i14 i15 i16 i17 i18 i19), (a1, .inr (6, [.ref a2, .int (nI nx), .int (nI kp)])), (a2, .inl (cA 0, 240, .inl fr)), (a3, .inl (cA 0, 10, .inl fs)), (a4, .inl (cA 0, 10, .inl fp)), (a5, .inl (cA 0, 10, .inl ff)), (a6, .inl (cA 0, 10, .inl fd)), (p3, .inl (cA 0, 10, .inl fam))] s.heap.size = A at hD hZ ⊢
  have hA : ∀ q : Nat, s.heap.size ≤ q → A q := fun q h => by rw [← hAe]; exact Or.inr h
  have hS : va_S A s.heap s.heap [] := va_S.rf
  have hP : va_P D vwCl [(oX0 a0 p0 a1 a3 a4 a5 a6 i6 i7 i8 i9 i10 i11 i12 i13 i14 i15 i16 i17 i18 i19), (a1, .inr (6, [.ref a2, .int (nI nx), .int (nI kp)])), (a2, .inl (cA 0, 240, .inl fr)), (a3, .inl (cA 0, 10, .inl fs)), (a4, .inl (cA 0, 10, .inl fp)), (a5, .inl (cA 0, 10, .inl ff)), (a6, .inl (cA 0, 10, .inl fd)), (p3, .inl (cA 0, 10, .inl fam))] s.heap := hP
  have hl := lv_entry ([.ref a0]) (n := 5) (Nat.le_of_ble_eq_true rfl)
  rw [lg_entry_eq]
  generalize (lg_sl ([.ref a0]) ++ List.replicate (5 - (lg_sl ([.ref a0])).length) Slot.unset).toArray = ls at hl ⊢
  have hl : lv_has ls 5 [(0, .ref a0)] := hl
  have inX0 : ∀ w ∈ u_ws RX0 TX0 20, w ∈ wsX0_creditInterest := by decide +kernel
  refine lv_ldc2 (v := 10000) hx hb hown (hts (.constantLong RX0 195 10000) (by decide +kernel)) dX0_creditInterest_0 ?_
  refine lv_aload_n hx hb dX0_creditInterest_3 rfl (lv_at hl 0 rfl) ?_
  refine va_get (D := D) (ci := 4) (v := .int i16) (C := RX0) (T := TX0) (N := 20) hx hb hts inX0 hown hK hP 0 rfl rfl 16 (by decide) (hts (.fieldLink RX0 78 "EscrowDesk$Account" "basis" "I") (by decide +kernel)) (fun _ h9 => h9) rfl dX0_creditInterest_4 ?_
  refine lv_i2l (v := (i16.toInt64)) hx hb dX0_creditInterest_7 rfl ?_
  refine lv_lmul hx hb dX0_creditInterest_8 ?_
  refine lv_topl (fun yn1 eyn1 => ?_)
  obtain rfl : yn1 = ((10000 : Int64) * (i16.toInt64)) := eyn1
  refine lv_lstore_n (lv' := [(1, .long ((10000 : Int64) * (i16.toInt64))), (0, .ref a0)]) hx hb dX0_creditInterest_9 rfl hl (by decide) rfl (fun ls hl => ?_)
  refine lv_lload_n hx hb dX0_creditInterest_10 rfl (lv_at hl 0 rfl) ?_
  refine lv_lconst (v := 0) hx hb dX0_creditInterest_11 (by decide) ?_
  refine W.lcmp hx hb dX0_creditInterest_12 ?_
  refine lv_if_gt (tgt := 17) hx hb dX0_creditInterest_13 (by decide) (fun c2 => ?_) (fun c2 => ?_)
  · skip
    refine lv_aload_n hx hb dX0_creditInterest_17 rfl (lv_at hl 1 rfl) ?_
    refine va_get (D := D) (ci := 4) (v := .long i11) (C := RX0) (T := TX0) (N := 20) hx hb hts inX0 hown hK hP 0 rfl rfl 11 (by decide) (hts (.fieldLink RX0 57 "EscrowDesk$Account" "accruedParts" "J") (by decide +kernel)) (fun _ h9 => h9) rfl dX0_creditInterest_18 ?_
    refine lv_lload_n hx hb dX0_creditInterest_21 rfl (lv_at hl 0 rfl) ?_
    refine lv_ldiv hx hb dX0_creditInterest_22 (lg_ne c2) ?_
    refine lv_topl (fun yn3 eyn3 => ?_)
    obtain rfl : yn3 = (i11 / ((10000 : Int64) * (i16.toInt64))) := eyn3
    refine lv_lstore_n (lv' := [(3, .long (i11 / ((10000 : Int64) * (i16.toInt64)))), (1, .long ((10000 : Int64) * (i16.toInt64))), (0, .ref a0)]) hx hb dX0_creditInterest_23 rfl hl (by decide) rfl (fun ls hl => ?_)
    refine lv_aload_n hx hb dX0_creditInterest_24 rfl (lv_at hl 2 rfl) ?_
    refine lv_dup hx hb dX0_creditInterest_25 rfl ?_
    refine va_get (D := D) (ci := 4) (v := .long i11) (C := RX0) (T := TX0) (N := 20) hx hb hts inX0 hown hK hP 0 rfl rfl 11 (by decide) (hts (.fieldLink RX0 57 "EscrowDesk$Account" "accruedParts" "J") (by decide +kernel)) (fun _ h9 => h9) rfl dX0_creditInterest_26 ?_
    refine lv_lload_n hx hb dX0_creditInterest_29 rfl (lv_at hl 0 rfl) ?_
    refine lv_lload_n hx hb dX0_creditInterest_30 rfl (lv_at hl 1 rfl) ?_
    refine lv_lmul hx hb dX0_creditInterest_31 ?_
    refine lv_topl (fun yn4 eyn4 => ?_)
    obtain rfl : yn4 = ((i11 / ((10000 : Int64) * (i16.toInt64))) * ((10000 : Int64) * (i16.toInt64))) := eyn4
    refine lv_lsub hx hb dX0_creditInterest_32 ?_
    refine lv_topl (fun yn5 eyn5 => ?_)
    obtain rfl : yn5 = (i11 - ((i11 / ((10000 : Int64) * (i16.toInt64))) * ((10000 : Int64) * (i16.toInt64)))) := eyn5
    refine va_put (D := D) (ci := 4) (v := .long (i11 - ((i11 / ((10000 : Int64) * (i16.toInt64))) * ((10000 : Int64) * (i16.toInt64))))) (ty := .long) (C := RX0) (T := TX0) (N := 20) hx hb hts inX0 tyX0 tyX0_ok nmX0 hown hK hP hD hS 0 rfl rfl 11 (by decide) (hts (.fieldLink RX0 57 "EscrowDesk$Account" "accruedParts" "J") (by decide +kernel)) (fun _ h9 => h9) rfl (by decide +kernel) rfl rfl (Nat.le_of_ble_eq_true rfl) dX0_creditInterest_33 (fun H locs hP hD hS => ?_)
    obtain ⟨hP, hD⟩ : PDq D A [(oX0 a0 p0 a1 a3 a4 a5 a6 i6 i7 i8 i9 i10 (i11 - ((i11 / ((10000 : Int64) * (i16.toInt64))) * ((10000 : Int64) * (i16.toInt64)))) i12 i13 i14 i15 i16 i17 i18 i19), (a1, .inr (6, [.ref a2, .int (nI nx), .int (nI kp)])), (a2, .inl (cA 0, 240, .inl fr)), (a3, .inl (cA 0, 10, .inl fs)), (a4, .inl (cA 0, 10, .inl fp)), (a5, .inl (cA 0, 10, .inl ff)), (a6, .inl (cA 0, 10, .inl fd)), (p3, .inl (cA 0, 10, .inl fam))] H := ⟨hP, hD⟩
    refine lv_aload_n hx hb dX0_creditInterest_36 rfl (lv_at hl 2 rfl) ?_
    refine lv_dup hx hb dX0_creditInterest_37 rfl ?_
    refine va_get (D := D) (ci := 4) (v := .long i9) (C := RX0) (T := TX0) (N := 20) hx hb hts inX0 hown hK hP 0 rfl rfl 9 (by decide) (hts (.fieldLink RX0 50 "EscrowDesk$Account" "interestPot" "J") (by decide +kernel)) (fun _ h9 => h9) rfl dX0_creditInterest_38 ?_
    refine lv_lload_n hx hb dX0_creditInterest_41 rfl (lv_at hl 0 rfl) ?_
    refine lv_ladd hx hb dX0_creditInterest_42 ?_
    refine lv_topl (fun yn6 eyn6 => ?_)
    obtain rfl : yn6 = (i9 + (i11 / ((10000 : Int64) * (i16.toInt64)))) := eyn6
    refine va_put (D := D) (ci := 4) (v := .long (i9 + (i11 / ((10000 : Int64) * (i16.toInt64))))) (ty := .long) (C := RX0) (T := TX0) (N := 20) hx hb hts inX0 tyX0 tyX0_ok nmX0 hown hK hP hD hS 0 rfl rfl 9 (by decide) (hts (.fieldLink RX0 50 "EscrowDesk$Account" "interestPot" "J") (by decide +kernel)) (fun _ h9 => h9) rfl (by decide +kernel) rfl rfl (Nat.le_of_ble_eq_true rfl) dX0_creditInterest_43 (fun H locs hP hD hS => ?_)
    obtain ⟨hP, hD⟩ : PDq D A [(oX0 a0 p0 a1 a3 a4 a5 a6 i6 i7 i8 (i9 + (i11 / ((10000 : Int64) * (i16.toInt64)))) i10 (i11 - ((i11 / ((10000 : Int64) * (i16.toInt64))) * ((10000 : Int64) * (i16.toInt64)))) i12 i13 i14 i15 i16 i17 i18 i19), (a1, .inr (6, [.ref a2, .int (nI nx), .int (nI kp)])), (a2, .inl (cA 0, 240, .inl fr)), (a3, .inl (cA 0, 10, .inl fs)), (a4, .inl (cA 0, 10, .inl fp)), (a5, .inl (cA 0, 10, .inl ff)), (a6, .inl (cA 0, 10, .inl fd)), (p3, .inl (cA 0, 10, .inl fam))] H := ⟨hP, hD⟩
    refine lv_aload_n hx hb dX0_creditInterest_46 rfl (lv_at hl 2 rfl) ?_
    refine lv_dup hx hb dX0_creditInterest_47 rfl ?_
    refine va_get (D := D) (ci := 4) (v := .long i10) (C := RX0) (T := TX0) (N := 20) hx hb hts inX0 hown hK hP 0 rfl rfl 10 (by decide) (hts (.fieldLink RX0 54 "EscrowDesk$Account" "credited" "J") (by decide +kernel)) (fun _ h9 => h9) rfl dX0_creditInterest_48 ?_
    refine lv_lload_n hx hb dX0_creditInterest_51 rfl (lv_at hl 0 rfl) ?_
    refine lv_ladd hx hb dX0_creditInterest_52 ?_
    refine lv_topl (fun yn7 eyn7 => ?_)
    obtain rfl : yn7 = (i10 + (i11 / ((10000 : Int64) * (i16.toInt64)))) := eyn7
    refine va_put (D := D) (ci := 4) (v := .long (i10 + (i11 / ((10000 : Int64) * (i16.toInt64))))) (ty := .long) (C := RX0) (T := TX0) (N := 20) hx hb hts inX0 tyX0 tyX0_ok nmX0 hown hK hP hD hS 0 rfl rfl 10 (by decide) (hts (.fieldLink RX0 54 "EscrowDesk$Account" "credited" "J") (by decide +kernel)) (fun _ h9 => h9) rfl (by decide +kernel) rfl rfl (Nat.le_of_ble_eq_true rfl) dX0_creditInterest_53 (fun H locs hP hD hS => ?_)
    obtain ⟨hP, hD⟩ : PDq D A [(oX0 a0 p0 a1 a3 a4 a5 a6 i6 i7 i8 (i9 + (i11 / ((10000 : Int64) * (i16.toInt64)))) (i10 + (i11 / ((10000 : Int64) * (i16.toInt64)))) (i11 - ((i11 / ((10000 : Int64) * (i16.toInt64))) * ((10000 : Int64) * (i16.toInt64)))) i12 i13 i14 i15 i16 i17 i18 i19), (a1, .inr (6, [.ref a2, .int (nI nx), .int (nI kp)])), (a2, .inl (cA 0, 240, .inl fr)), (a3, .inl (cA 0, 10, .inl fs)), (a4, .inl (cA 0, 10, .inl fp)), (a5, .inl (cA 0, 10, .inl ff)), (a6, .inl (cA 0, 10, .inl fd)), (p3, .inl (cA 0, 10, .inl fam))] H := ⟨hP, hD⟩
    refine lv_aload_n hx hb dX0_creditInterest_56 rfl (lv_at hl 2 rfl) ?_
    refine va_get (D := D) (ci := 4) (v := .ref a1) (C := RX0) (T := TX0) (N := 20) hx hb hts inX0 hown hK hP 0 rfl rfl 1 (by decide) (hts (.fieldLink RX0 12 "EscrowDesk$Account" "ledger" "LEscrowDesk$Ledger;") (by decide +kernel)) (fun _ h9 => h9) rfl dX0_creditInterest_57 ?_
    refine lv_iconst (v := 3) hx hb dX0_creditInterest_60 (by decide) ?_
    refine lv_aload_n hx hb dX0_creditInterest_61 rfl (lv_at hl 2 rfl) ?_
    refine va_get (D := D) (ci := 4) (v := .int i6) (C := RX0) (T := TX0) (N := 20) hx hb hts inX0 hown hK hP 0 rfl rfl 6 (by decide) (hts (.fieldLink RX0 40 "EscrowDesk$Account" "day" "I") (by decide +kernel)) (fun _ h9 => h9) rfl dX0_creditInterest_62 ?_
    refine lv_lload_n hx hb dX0_creditInterest_65 rfl (lv_at hl 0 rfl) ?_
    refine lv_l2i (v := (i11 / ((10000 : Int64) * (i16.toInt64))).toInt32) hx hb dX0_creditInterest_66 rfl ?_
    refine lv_topi (fun yn8 eyn8 => ?_)
    obtain rfl : yn8 = ((i11 / ((10000 : Int64) * (i16.toInt64))).toInt32) := eyn8
    refine lv_iconst (v := (-1)) hx hb dX0_creditInterest_67 (by decide) ?_
    obtain ⟨hPc, hDc, hFc⟩ := PDq.cut (wc := [(a1, .inr (6, [.ref a2, .int (nI nx), .int (nI kp)])), (a2, .inl (cA 0, 240, .inl fr))]) hP hD hS hA [1, 2] (by decide) rfl
    refine va_callv (va_runV (As := [.int 3, .int i6, .int ((i11 / ((10000 : Int64) * (i16.toInt64))).toInt32), .int (-1)]) (rest := []) ⟨hx, hb, hml, hown, hts⟩ (c_enter l D cA sa a1 a2 nx kp 3 i6 ((i11 / ((10000 : Int64) * (i16.toInt64))).toInt32) (-1) fr H.size hnx hkp) (cwV 4 hts gX0_creditInterest_X2_enter rfl rfl rfl (by decide +kernel) ⟨(Nat.le_of_ble_eq_true rfl), (Nat.le_of_ble_eq_true rfl)⟩) ⟨Wd.blind, va_recv hK hPc (ci := 6) (q0 := 0) rfl rfl, fun U hU hW => ⟨rfl, Wd.call hPc hDc hK hC hZ hS hFc U hU hW⟩⟩ rfl rfl hl.1 rfl (lv_room (Nat.le_of_ble_eq_true rfl)) dX0_creditInterest_68 ⟨(Nat.le_of_ble_eq_true rfl), (Nat.le_of_ble_eq_true rfl)⟩) hS (fun q _ h => hFc q h) hFc (fun u t H1 locs ht hvm hw hB hz1 hk1 hS => ?_)
    obtain ⟨qn9, qn10, fn11, hn12, hn13, hn14, hP1, hD1⟩ := hB
    rw [ht] at hP1
    obtain ⟨hP, hD⟩ := PDq.join (w := [(oX0 a0 p0 a1 a3 a4 a5 a6 i6 i7 i8 (i9 + (i11 / ((10000 : Int64) * (i16.toInt64)))) (i10 + (i11 / ((10000 : Int64) * (i16.toInt64)))) (i11 - ((i11 / ((10000 : Int64) * (i16.toInt64))) * ((10000 : Int64) * (i16.toInt64)))) i12 i13 i14 i15 i16 i17 i18 i19), (a3, .inl (cA 0, 10, .inl fs)), (a4, .inl (cA 0, 10, .inl fp)), (a5, .inl (cA 0, 10, .inl ff)), (a6, .inl (cA 0, 10, .inl fd)), (p3, .inl (cA 0, 10, .inl fam)), (a1, .inr (6, [.ref a2, .int (nI qn9), .int (nI qn10)])), (a2, .inl (cA 0, 240, .inl fn11))]) 6 hP hD [1, 2] [0, 3, 4, 5, 6, 7] rfl rfl (by decide) (by decide) hk1 hFc hP1 hD1 rfl
    generalize H1 = H at hP hS ⊢
    obtain ⟨hP9, hD9⟩ := PDq.sub (ws' := [(oX0 a0 p0 a1 a3 a4 a5 a6 i6 i7 i8 (i9 + (i11 / ((10000 : Int64) * (i16.toInt64)))) (i10 + (i11 / ((10000 : Int64) * (i16.toInt64)))) (i11 - ((i11 / ((10000 : Int64) * (i16.toInt64))) * ((10000 : Int64) * (i16.toInt64)))) i12 i13 i14 i15 i16 i17 i18 i19), (a1, .inr (6, [.ref a2, .int (nI qn9), .int (nI qn10)])), (a2, .inl (cA 0, 240, .inl fn11)), (a3, .inl (cA 0, 10, .inl fs)), (a4, .inl (cA 0, 10, .inl fp)), (a5, .inl (cA 0, 10, .inl ff)), (a6, .inl (cA 0, 10, .inl fd)), (p3, .inl (cA 0, 10, .inl fam))]) hP hD [0, 6, 7, 1, 2, 3, 4, 5] (by decide) rfl
    refine W.widen (k := 0) (n := 0) (Nat.le_of_ble_eq_true rfl) (Nat.le_of_ble_eq_true rfl) ?_
    exact (W.vret hx hb hr (fun t ht hW => ⟨⟨(), rfl, trivial, (i9 + (i11 / ((10000 : Int64) * (i16.toInt64)))), (i10 + (i11 / ((10000 : Int64) * (i16.toInt64)))), (i11 - ((i11 / ((10000 : Int64) * (i16.toInt64))) * ((10000 : Int64) * (i16.toInt64)))), qn9, qn10, fn11, hn12, hn13, (RC.cr hRC hCap hn14), by rw [ht]; exact hP9, hD9⟩, hS.F ht⟩) hS.2.2 dX0_creditInterest_71)
  · skip
    obtain ⟨hP9, hD9⟩ := PDq.sub (ws' := [(oX0 a0 p0 a1 a3 a4 a5 a6 i6 i7 i8 i9 i10 i11 i12 i13 i14 i15 i16 i17 i18 i19), (a1, .inr (6, [.ref a2, .int (nI nx), .int (nI kp)])), (a2, .inl (cA 0, 240, .inl fr)), (a3, .inl (cA 0, 10, .inl fs)), (a4, .inl (cA 0, 10, .inl fp)), (a5, .inl (cA 0, 10, .inl ff)), (a6, .inl (cA 0, 10, .inl fd)), (p3, .inl (cA 0, 10, .inl fam))]) hP hD [0, 1, 2, 3, 4, 5, 6, 7] (by decide) rfl
    refine W.widen (k := 0) (n := 0) (Nat.le_of_ble_eq_true rfl) (Nat.le_of_ble_eq_true rfl) ?_
    exact (W.vret hx hb hr (fun t ht hW => ⟨⟨(), rfl, trivial, i9, i10, i11, nx, kp, fr, hnx, hkp, (RC.cr_0 hRC c2), by rw [ht]; exact hP9, hD9⟩, hS.F ht⟩) hS.2.2 dX0_creditInterest_16)

