set_option maxHeartbeats 4000000 in
set_option maxRecDepth 100000 in
/-- reference: closed -/
theorem y_closed (l : Launch) (D : va_G) (cA : Nat → ClassId) (sa : Nat → Nat) (w0 : Nat) (ed : Nat) (nb : Nat) (ol : Nat) (v0 : Nat) (v1 : Nat) (v2 : Nat) (v3 : Nat) (v4 : Nat) (v9 : Nat) (v13 : Nat) (v27 : Nat) (v28 : Nat) (v29 : Nat) (v30 : Nat) (v31 : Nat) (v32 : Nat) (v33 : Nat) (v34 : Nat) (v35 : Nat) (v36 : Nat) (v37 : Nat) (g8 : Int32) (g11 : Int32) (g12 : Int32) (g19 : Int32) (g20 : Int32) (g21 : Int32) (g22 : Int32) (g23 : Int32) (g26 : Int32) (g5 : Int64) (g6 : Int64) (g25 : Int64) (ln : Nat) (cd : Nat) (tk : Int32) (kw : Int32) (ti : Nat) (ct : Nat) (fb : Nat → Int32) (fkw : Nat → Int64) (gP : Nat → Nat) (gR : Nat → Nat) (gS : Nat → Int32) (gK : Nat → Int32) (gV : Nat → Int64) (sz : Nat) (hln : ln ≤ 700) (hct : ct ≤ 701) (hti : ti < ct) (hTX : TX fb ln ct gP gR gS gV gK) (hBY : BYn ln fb) (hTK : TKR (gK ti) (gV ti) (fb (gP ti)) tk kw g19 g25) (hKW : KW 15 fkw) : Met l yX10_closed wsX10_closed ({ frames := 2, cells := 0, slots := 0, locals := 44 }) (va_Pc [.ref w0] (Wd D cA sa [(oX10 w0 v0 v1 v2 v3 v4 g5 g6 (nI ed) g8 v9 (nI nb) g11 g12 v13 (nI ln) (nI (gP ti)) (nI (gR (ti + 1))) tk kw g19 g20 g21 g22 g23 (nI cd) g25 g26 v27 v28 v29 v30 v31 v32 v33 v34 v35 v36 v37 (nI ol)), (v9, .inl (cA 0, 700, .inl fb)), (v13, .inl (cA 1, 15, .inr (.inl fkw)))] sz)) (va_Qi (fun (r : Int32) (u9 : Int32) => u9 = r ∧ (r = 0 ∨ r = 1)) (fun (u9 : Int32) t => ∃ tj : Nat, ∃ z17 : Int32, ∃ z18 : Int32, ∃ z19 : Int32, ∃ z20 : Int32, ∃ z21 : Int32, ∃ z26 : Int32, ∃ z25 : Int64, tj < ct ∧ gP tj ≤ ln ∧ ti ≤ tj ∧ TKR (gK tj) (gV tj) (fb (gP tj)) z17 z18 z19 z25 ∧ (u9 = 1 → tj = ti + 1) ∧ (u9 = 1 → z20 = g20) ∧ (u9 = 1 → z21 = g21) ∧ (u9 = 1 → gP ti + 1 ≤ gP tj) ∧ (u9 = 1 → gK ti = 7) ∧ (u9 = 0 → ¬ gK ti = 7) ∧ (u9 = 0 → z20 = fek (gK ti) 2) ∧ (u9 = 0 → z21 = gS ti) ∧ Wq D (va_A [(oX10 w0 v0 v1 v2 v3 v4 g5 g6 (nI ed) g8 v9 (nI nb) g11 g12 v13 (nI ln) (nI (gP ti)) (nI (gR (ti + 1))) tk kw g19 g20 g21 g22 g23 (nI cd) g25 g26 v27 v28 v29 v30 v31 v32 v33 v34 v35 v36 v37 (nI ol)), (v9, .inl (cA 0, 700, .inl fb)), (v13, .inl (cA 1, 15, .inr (.inl fkw)))] sz) [(oX10 w0 v0 v1 v2 v3 v4 g5 g6 (nI ed) g8 v9 (nI nb) g11 g12 v13 (nI ln) (nI (gP tj)) (nI (gR (tj + 1))) z17 z18 z19 z20 z21 g22 g23 (nI cd) z25 z26 v27 v28 v29 v30 v31 v32 v33 v34 v35 v36 v37 (nI ol)), (v9, .inl (cA 0, 700, .inl fb)), (v13, .inl (cA 1, 15, .inr (.inl fkw)))] t) (va_A [(oX10 w0 v0 v1 v2 v3 v4 g5 g6 (nI ed) g8 v9 (nI nb) g11 g12 v13 (nI ln) (nI (gP ti)) (nI (gR (ti + 1))) tk kw g19 g20 g21 g22 g23 (nI cd) g25 g26 v27 v28 v29 v30 v31 v32 v33 v34 v35 v36 v37 (nI ol)), (v9, .inl (cA 0, 700, .inl fb)), (v13, .inl (cA 1, 15, .inr (.inl fkw)))] sz)) 0 0 (va_A [(oX10 w0 v0 v1 v2 v3 v4 g5 g6 (nI ed) g8 v9 (nI nb) g11 g12 v13 (nI ln) (nI (gP ti)) (nI (gR (ti + 1))) tk kw g19 g20 g21 g22 g23 (nI cd) g25 g26 v27 v28 v29 v30 v31 v32 v33 v34 v35 v36 v37 (nI ol)), (v9, .inl (cA 0, 700, .inl fb)), (v13, .inl (cA 1, 15, .inr (.inl fkw)))] sz) := by
  refine Met.ofW (cc := cX10_closed) (maxL := 1) (ret := (some .boolean)) (by decide) rfl ?_
  intro p e s m args below meth c s₁ B hml hv
  obtain ⟨rfl, hsz, hP, hK, hD0, hC, hZ⟩ := hv
  have hx := B.exec
  have hb := B.bytes
  have hr := B.returns
  have hts := atoms_spec (ws := wsX10_closed) B.pre
  have hown : s.vm.findClass RX10 = some m.cls := findClass_of_methodNamed B.named
  have hlocks := B.notSynchronized
  subst hsz
  have hD := hD0.self (sz := s.heap.size)
  generalize hAe : va_A [(oX10 w0 v0 v1 v2 v3 v4 g5 g6 (nI ed) g8 v9 (nI nb) g11 g12 v13 (nI ln) (nI (gP ti)) (nI (gR (ti + 1))) tk kw g19 g20 g21 g22 g23 (nI cd) g25 g26 v27 v28 v29 v30 v31 v32 v33 v34 v35 v36 v37 (nI ol)), (v9, .inl (cA 0, 700, .inl fb)), (v13, .inl (cA 1, 15, .inr (.inl fkw)))] s.heap.size = A at hD hZ ⊢
  have hA : ∀ q : Nat, s.heap.size ≤ q → A q := fun q h => by rw [← hAe]; exact Or.inr h
  have hS : va_S A s.heap s.heap [] := va_S.rf
  have hP : va_P D vwCl [(oX10 w0 v0 v1 v2 v3 v4 g5 g6 (nI ed) g8 v9 (nI nb) g11 g12 v13 (nI ln) (nI (gP ti)) (nI (gR (ti + 1))) tk kw g19 g20 g21 g22 g23 (nI cd) g25 g26 v27 v28 v29 v30 v31 v32 v33 v34 v35 v36 v37 (nI ol)), (v9, .inl (cA 0, 700, .inl fb)), (v13, .inl (cA 1, 15, .inr (.inl fkw)))] s.heap := hP
  have hl := lv_entry ([.ref w0]) (n := 1) (Nat.le_of_ble_eq_true rfl)
  rw [lg_entry_eq]
  generalize (lg_sl ([.ref w0]) ++ List.replicate (1 - (lg_sl ([.ref w0])).length) Slot.unset).toArray = ls at hl ⊢
  have hl : lv_has ls 1 [(0, .ref w0)] := hl
  have hle9 := TX.le hTX hti
  refine lv_aload_n hx hb dX10_closed_0 rfl (lv_at hl 0 rfl) ?_
  refine lv_bipush (v := 59) hx hb dX10_closed_1 (by decide) ?_
  obtain ⟨hPc, hDc, hFc⟩ := PDq.cut (wc := [(oX10 w0 v0 v1 v2 v3 v4 g5 g6 (nI ed) g8 v9 (nI nb) g11 g12 v13 (nI ln) (nI (gP ti)) (nI (gR (ti + 1))) tk kw g19 g20 g21 g22 g23 (nI cd) g25 g26 v27 v28 v29 v30 v31 v32 v33 v34 v35 v36 v37 (nI ol)), (v9, .inl (cA 0, 700, .inl fb))]) hP hD hS hA [0, 1] (by decide) rfl
  refine va_calli (va_runV (As := [.int 59]) (rest := []) ⟨hx, hb, hml, hown, hts⟩ (y_sym59 l D cA sa w0 ed nb ol v0 v1 v2 v3 v4 v9 v13 v27 v28 v29 v30 v31 v32 v33 v34 v35 v36 v37 g8 g11 g12 g19 g20 g21 g22 g23 g26 g5 g6 g25 ln cd tk kw ti ct fb gP gR gS gK gV s.heap.size hln hct hti hTX hBY hTK) (cwV 1 hts gX10_closed_X10_isSymbol rfl rfl rfl (by decide +kernel) ⟨(Nat.le_of_ble_eq_true rfl), (Nat.le_of_ble_eq_true rfl)⟩) ⟨Wd.blind, va_recv hK hPc (ci := 11) (q0 := 0) rfl rfl, fun U hU hW => ⟨rfl, Wd.call hPc hDc hK hC hZ hS hFc U hU hW⟩⟩ rfl rfl hl.1 rfl (lv_room (Nat.le_of_ble_eq_true rfl)) dX10_closed_3 ⟨(Nat.le_of_ble_eq_true rfl), (Nat.le_of_ble_eq_true rfl)⟩) hS (fun q _ h => hFc q h) hFc (fun rn1 u t H1 locs ht hvm hw hB hz1 hk1 hS => ?_)
  obtain ⟨hP1, hD1⟩ := hB
  rw [ht] at hP1
  obtain ⟨hP, hD⟩ := PDq.join (w := [(v13, .inl (cA 1, 15, .inr (.inl fkw))), (oX10 w0 v0 v1 v2 v3 v4 g5 g6 (nI ed) g8 v9 (nI nb) g11 g12 v13 (nI ln) (nI (gP ti)) (nI (gR (ti + 1))) tk kw g19 g20 g21 g22 g23 (nI cd) g25 g26 v27 v28 v29 v30 v31 v32 v33 v34 v35 v36 v37 (nI ol)), (v9, .inl (cA 0, 700, .inl fb))]) 1 hP hD [0, 1] [2] rfl rfl (by decide) (by decide) hk1 hFc hP1 hD1 rfl
  generalize H1 = H at hP hS ⊢
  rcases hw with ⟨hr9, hn2⟩ | ⟨hr9, hn2⟩
  · skip
    subst hr9
    refine lv_if_eq (tgt := 16) hx hb dX10_closed_6 (by decide) (fun c9 => absurd c9 (by decide)) (fun c3 => ?_)
    refine lv_aload_n hx hb dX10_closed_9 rfl (lv_at hl 0 rfl) ?_
    have hn4 := TX.go hTX (show ti < ct by omega) (by rw [hn2]; decide)
    have hn4a := TX.le hTX (show ti < ct by omega)
    have hn4b := TX.le hTX hn4.1
    obtain ⟨hPc, hDc, hFc⟩ := PDq.cut (wc := [(oX10 w0 v0 v1 v2 v3 v4 g5 g6 (nI ed) g8 v9 (nI nb) g11 g12 v13 (nI ln) (nI (gP ti)) (nI (gR (ti + 1))) tk kw g19 g20 g21 g22 g23 (nI cd) g25 g26 v27 v28 v29 v30 v31 v32 v33 v34 v35 v36 v37 (nI ol)), (v9, .inl (cA 0, 700, .inl fb)), (v13, .inl (cA 1, 15, .inr (.inl fkw)))]) hP hD hS hA [1, 2, 0] (by decide) rfl
    refine va_calli (va_runV (As := []) (rest := []) ⟨hx, hb, hml, hown, hts⟩ (y_advance l D cA sa w0 ed nb ol v0 v1 v2 v3 v4 v9 v13 v27 v28 v29 v30 v31 v32 v33 v34 v35 v36 v37 g8 g11 g12 (nI (gP ti)) tk kw g19 g20 g21 g22 g23 (nI cd) g26 g5 g6 g25 ln (gR (ti + 1)) fb fkw (gP (ti + 1)) (gR ((ti + 1) + 1)) (gK (ti + 1)) (gV (ti + 1)) H.size hln (by omega) hKW hBY (TX.t hTX hn4.1)) (cwV 0 hts gX10_closed_X10_advance rfl rfl rfl (by decide +kernel) ⟨(Nat.le_of_ble_eq_true rfl), (Nat.le_of_ble_eq_true rfl)⟩) ⟨Wd.blind, va_recv hK hPc (ci := 11) (q0 := 0) rfl rfl, fun U hU hW => ⟨rfl, Wd.call hPc hDc hK hC hZ hS hFc U hU hW⟩⟩ rfl rfl hl.1 rfl (lv_room (Nat.le_of_ble_eq_true rfl)) dX10_closed_10 ⟨(Nat.le_of_ble_eq_true rfl), (Nat.le_of_ble_eq_true rfl)⟩) hS (fun q _ h => hFc q h) hFc (fun rn5 u t H1 locs ht hvm hw hB hz1 hk1 hS => ?_)
    obtain ⟨zn6, zn7, zn8, zn9, hn10, hP1, hD1⟩ := hB
    rw [ht] at hP1
    obtain ⟨hP, hD⟩ := PDq.join (w := [(oX10 w0 v0 v1 v2 v3 v4 g5 g6 (nI ed) g8 v9 (nI nb) g11 g12 v13 (nI ln) (nI (gP (ti + 1))) (nI (gR ((ti + 1) + 1))) zn6 zn7 zn8 g20 g21 g22 g23 (nI cd) zn9 g26 v27 v28 v29 v30 v31 v32 v33 v34 v35 v36 v37 (nI ol)), (v9, .inl (cA 0, 700, .inl fb)), (v13, .inl (cA 1, 15, .inr (.inl fkw)))]) 0 hP hD [1, 2, 0] [] rfl rfl (by decide) (by decide) hk1 hFc hP1 hD1 rfl
    generalize H1 = H at hP hS ⊢
    obtain rfl : rn5 = 1 := hw
    refine lv_goto (tgt := 21) hx hb dX10_closed_13 (by decide) ?_
    obtain ⟨hP9, hD9⟩ := PDq.sub (ws' := [(oX10 w0 v0 v1 v2 v3 v4 g5 g6 (nI ed) g8 v9 (nI nb) g11 g12 v13 (nI ln) (nI (gP (ti + 1))) (nI (gR ((ti + 1) + 1))) zn6 zn7 zn8 g20 g21 g22 g23 (nI cd) zn9 g26 v27 v28 v29 v30 v31 v32 v33 v34 v35 v36 v37 (nI ol)), (v9, .inl (cA 0, 700, .inl fb)), (v13, .inl (cA 1, 15, .inr (.inl fkw)))]) hP hD [0, 1, 2] (by decide) rfl
    refine W.widen (k := 0) (n := 0) (Nat.le_of_ble_eq_true rfl) (Nat.le_of_ble_eq_true rfl) ?_
    exact (W.zret (v := 1) hx hb hr (by first | rfl | decide) (fun t ht hW => ⟨⟨1, 1, rfl, ⟨rfl, by decide⟩, (ti + 1), zn6, zn7, zn8, g20, g21, g26, zn9, hn4.1, (by omega), (by omega), hn10, (fun _ => rfl), (fun _ => rfl), (fun _ => rfl), (fun _ => (by omega)), (fun _ => hn2), (fun h9 => absurd h9 (by decide)), (fun h9 => absurd h9 (by decide)), (fun h9 => absurd h9 (by decide)), by rw [ht]; exact hP9, hD9⟩, hS.F ht⟩) hS.2.2 dX10_closed_21)
  · skip
    subst hr9
    refine lv_if_eq (tgt := 16) hx hb dX10_closed_6 (by decide) (fun c11 => ?_) (fun c9 => absurd c9 (by decide))
    refine lv_aload_n hx hb dX10_closed_16 rfl (lv_at hl 0 rfl) ?_
    refine lv_iconst (v := 2) hx hb dX10_closed_17 (by decide) ?_
    obtain ⟨hPc, hDc, hFc⟩ := PDq.cut (wc := [(oX10 w0 v0 v1 v2 v3 v4 g5 g6 (nI ed) g8 v9 (nI nb) g11 g12 v13 (nI ln) (nI (gP ti)) (nI (gR (ti + 1))) tk kw g19 g20 g21 g22 g23 (nI cd) g25 g26 v27 v28 v29 v30 v31 v32 v33 v34 v35 v36 v37 (nI ol))]) hP hD hS hA [1] (by decide) rfl
    refine va_calli (va_runV (As := [.int 2]) (rest := []) ⟨hx, hb, hml, hown, hts⟩ (y_fail l D cA sa w0 ed nb ol v0 v1 v2 v3 v4 v9 v13 v27 v28 v29 v30 v31 v32 v33 v34 v35 v36 v37 g8 g11 g12 g19 g20 g21 g22 g23 g26 g5 g6 g25 ln cd tk kw ti ct fb gP gR gS gK gV 2 H.size hln hct hti hTX hBY hTK) (cwV 1 hts gX10_closed_X10_fail rfl rfl rfl (by decide +kernel) ⟨(Nat.le_of_ble_eq_true rfl), (Nat.le_of_ble_eq_true rfl)⟩) ⟨Wd.blind, va_recv hK hPc (ci := 11) (q0 := 0) rfl rfl, fun U hU hW => ⟨rfl, Wd.call hPc hDc hK hC hZ hS hFc U hU hW⟩⟩ rfl rfl hl.1 rfl (lv_room (Nat.le_of_ble_eq_true rfl)) dX10_closed_18 ⟨(Nat.le_of_ble_eq_true rfl), (Nat.le_of_ble_eq_true rfl)⟩) hS (fun q _ h => hFc q h) hFc (fun rn12 u t H1 locs ht hvm hw hB hz1 hk1 hS => ?_)
    obtain ⟨zn13, hn14, hP1, hD1⟩ := hB
    rw [ht] at hP1
    obtain ⟨hP, hD⟩ := PDq.join (w := [(v13, .inl (cA 1, 15, .inr (.inl fkw))), (v9, .inl (cA 0, 700, .inl fb)), (oX10 w0 v0 v1 v2 v3 v4 g5 g6 (nI ed) g8 v9 (nI nb) g11 g12 v13 (nI ln) (nI (gP ti)) (nI (gR (ti + 1))) tk kw g19 zn13 (nI (gP ti)) g22 g23 (nI cd) g25 g26 v27 v28 v29 v30 v31 v32 v33 v34 v35 v36 v37 (nI ol))]) 2 hP hD [1] [0, 2] rfl rfl (by decide) (by decide) hk1 hFc hP1 hD1 rfl
    generalize H1 = H at hP hS ⊢
    obtain rfl : rn12 = 0 := hw
    obtain ⟨hP9, hD9⟩ := PDq.sub (ws' := [(oX10 w0 v0 v1 v2 v3 v4 g5 g6 (nI ed) g8 v9 (nI nb) g11 g12 v13 (nI ln) (nI (gP ti)) (nI (gR (ti + 1))) tk kw g19 zn13 (nI (gP ti)) g22 g23 (nI cd) g25 g26 v27 v28 v29 v30 v31 v32 v33 v34 v35 v36 v37 (nI ol)), (v9, .inl (cA 0, 700, .inl fb)), (v13, .inl (cA 1, 15, .inr (.inl fkw)))]) hP hD [2, 1, 0] (by decide) rfl
    refine W.widen (k := 0) (n := 0) (Nat.le_of_ble_eq_true rfl) (Nat.le_of_ble_eq_true rfl) ?_
    exact (W.zret (v := 0) hx hb hr (by first | rfl | decide) (fun t ht hW => ⟨⟨0, 0, rfl, ⟨rfl, by decide⟩, ti, tk, kw, g19, zn13, (nI (gP ti)), g26, g25, hti, (by omega), (by omega), hTK, (fun h9 => absurd h9 (by decide)), (fun h9 => absurd h9 (by decide)), (fun h9 => absurd h9 (by decide)), (fun h9 => absurd h9 (by decide)), (fun h9 => absurd h9 (by decide)), (fun _ => hn2), (fun _ => hn14), (fun _ => (TX.s hTX (show ti < ct by omega))), by rw [ht]; exact hP9, hD9⟩, hS.F ht⟩) hS.2.2 dX10_closed_21)

set_option maxHeartbeats 4000000 in
set_option maxRecDepth 100000 in
/-- reference: milestoneStatement -/
theorem y_milestoneStatement (l : Launch) (D : va_G) (cA : Nat → ClassId) (sa : Nat → Nat) (w0 : Nat) (ed : Nat) (nb : Nat) (ol : Nat) (v0 : Nat) (v1 : Nat) (v2 : Nat) (v3 : Nat) (v4 : Nat) (v9 : Nat) (v13 : Nat) (v27 : Nat) (v28 : Nat) (v29 : Nat) (v30 : Nat) (v31 : Nat) (v32 : Nat) (v33 : Nat) (v34 : Nat) (v35 : Nat) (v36 : Nat) (v37 : Nat) (g8 : Int32) (g11 : Int32) (g12 : Int32) (g19 : Int32) (g20 : Int32) (g21 : Int32) (g26 : Int32) (g5 : Int64) (g6 : Int64) (g25 : Int64) (ln : Nat) (cd : Nat) (tk : Int32) (kw : Int32) (ti : Nat) (ct : Nat) (fb : Nat → Int32) (fkw : Nat → Int64) (gP : Nat → Nat) (gR : Nat → Nat) (gS : Nat → Int32) (gK : Nat → Int32) (gV : Nat → Int64) (cn : Nat) (pq : Nat) (en : Nat) (dy : Nat) (fp : Nat → Int32) (dd : Nat) (l28 : Nat → Int64) (l30 : Nat → Int64) (fc : Nat → Int32) (fq : Nat → Int32) (ml : List Int64) (pl : List Int64) (sz : Nat) (hln : ln ≤ 700) (hct : ct ≤ 701) (hti : ti < ct) (hTX : TX fb ln ct gP gR gS gV gK) (hBY : BYn ln fb) (hTK : TKR (gK ti) (gV ti) (fb (gP ti)) tk kw g19 g25) (hKW : KW 15 fkw) (hcn : cn ≤ 10) (hpq : pq ≤ 8) (hen : en ≤ 60) (hdy : dy ≤ 20000) (hri : RI cn pq en dy fp) (hcd : 2 * cd ≤ gP ti) (hCR : CR cn cd fc fq) (hdd : dd ≤ 6) (hNM : NL ml cn l28) (hNP : NL pl pq l30) (hk : gK ti = 12) : Met l yX10_milestoneStatement wsX10_milestoneStatement ({ frames := 56, cells := 0, slots := 0, locals := 1040 }) (va_Pc [.ref w0] (Wd D cA sa [(oX10 w0 v0 v1 v2 v3 v4 g5 g6 (nI ed) g8 v9 (nI nb) g11 g12 v13 (nI ln) (nI (gP ti)) (nI (gR (ti + 1))) tk kw g19 g20 g21 0 (nI dd) (nI cd) g25 g26 v27 v28 v29 v30 v31 v32 v33 v34 v35 v36 v37 (nI ol)), (v1, .inl (cA 0, 326, .inl fp)), (v9, .inl (cA 0, 700, .inl fb)), (v13, .inl (cA 1, 15, .inr (.inl fkw))), (v28, .inl (cA 1, 10, .inr (.inl l28))), (v30, .inl (cA 1, 8, .inr (.inl l30))), (v32, .inl (cA 0, 400, .inl fc)), (v34, .inl (cA 0, 11, .inl fq))] sz)) (va_Qi (fun (r : Int32) (u9 : Int32) => u9 = r ∧ (r = 0 ∨ r = 1)) (fun (u9 : Int32) t => ∃ tj : Nat, ∃ z17 : Int32, ∃ z18 : Int32, ∃ z19 : Int32, ∃ z20 : Int32, ∃ z21 : Int32, ∃ z26 : Int32, ∃ z25 : Int64, ∃ zop : Int32, ∃ cd2 : Nat, ∃ cn2 : Nat, ∃ pq2 : Nat, ∃ e2 : Nat, ∃ d2 : Nat, ∃ zp : Nat → Int32, ∃ zc : Nat → Int32, ∃ zq : Nat → Int32, ∃ zl : Nat → Int64, ∃ zl28 : Nat → Int64, ∃ zml : List Int64, ∃ zpl : List Int64, tj < ct ∧ gP tj ≤ ln ∧ ti ≤ tj ∧ TKR (gK tj) (gV tj) (fb (gP tj)) z17 z18 z19 z25 ∧ cn2 ≤ 10 ∧ pq2 ≤ 8 ∧ e2 ≤ 60 ∧ d2 ≤ 6 ∧ RI cn2 pq2 e2 dy zp ∧ NL zml cn2 zl28 ∧ NL zpl pq2 zl ∧ (u9 = 1 → zop = 0) ∧ (u9 = 1 → z20 = g20) ∧ (u9 = 1 → z21 = g21) ∧ (u9 = 1 → ti + 1 ≤ tj) ∧ (u9 = 1 → 2 * cd2 ≤ gP tj) ∧ (u9 = 1 → CR cn2 cd2 zc zq) ∧ (u9 = 1 → SRx gK gS gV ti dd ml pl (.inr (tj, d2, zml, zpl))) ∧ (u9 = 0 → SRx gK gS gV ti dd ml pl (.inl (z20, z21))) ∧ Wq D (va_A [(oX10 w0 v0 v1 v2 v3 v4 g5 g6 (nI ed) g8 v9 (nI nb) g11 g12 v13 (nI ln) (nI (gP ti)) (nI (gR (ti + 1))) tk kw g19 g20 g21 0 (nI dd) (nI cd) g25 g26 v27 v28 v29 v30 v31 v32 v33 v34 v35 v36 v37 (nI ol)), (v1, .inl (cA 0, 326, .inl fp)), (v9, .inl (cA 0, 700, .inl fb)), (v13, .inl (cA 1, 15, .inr (.inl fkw))), (v28, .inl (cA 1, 10, .inr (.inl l28))), (v30, .inl (cA 1, 8, .inr (.inl l30))), (v32, .inl (cA 0, 400, .inl fc)), (v34, .inl (cA 0, 11, .inl fq))] sz) [(oX10 w0 v0 v1 v2 v3 v4 g5 g6 (nI ed) g8 v9 (nI nb) g11 g12 v13 (nI ln) (nI (gP tj)) (nI (gR (tj + 1))) z17 z18 z19 z20 z21 zop (nI d2) (nI cd2) z25 z26 v27 v28 v29 v30 v31 v32 v33 v34 v35 v36 v37 (nI ol)), (v1, .inl (cA 0, 326, .inl zp)), (v9, .inl (cA 0, 700, .inl fb)), (v13, .inl (cA 1, 15, .inr (.inl fkw))), (v28, .inl (cA 1, 10, .inr (.inl zl28))), (v30, .inl (cA 1, 8, .inr (.inl zl))), (v32, .inl (cA 0, 400, .inl zc)), (v34, .inl (cA 0, 11, .inl zq))] t) (va_A [(oX10 w0 v0 v1 v2 v3 v4 g5 g6 (nI ed) g8 v9 (nI nb) g11 g12 v13 (nI ln) (nI (gP ti)) (nI (gR (ti + 1))) tk kw g19 g20 g21 0 (nI dd) (nI cd) g25 g26 v27 v28 v29 v30 v31 v32 v33 v34 v35 v36 v37 (nI ol)), (v1, .inl (cA 0, 326, .inl fp)), (v9, .inl (cA 0, 700, .inl fb)), (v13, .inl (cA 1, 15, .inr (.inl fkw))), (v28, .inl (cA 1, 10, .inr (.inl l28))), (v30, .inl (cA 1, 8, .inr (.inl l30))), (v32, .inl (cA 0, 400, .inl fc)), (v34, .inl (cA 0, 11, .inl fq))] sz)) 0 0 (va_A [(oX10 w0 v0 v1 v2 v3 v4 g5 g6 (nI ed) g8 v9 (nI nb) g11 g12 v13 (nI ln) (nI (gP ti)) (nI (gR (ti + 1))) tk kw g19 g20 g21 0 (nI dd) (nI cd) g25 g26 v27 v28 v29 v30 v31 v32 v33 v34 v35 v36 v37 (nI ol)), (v1, .inl (cA 0, 326, .inl fp)), (v9, .inl (cA 0, 700, .inl fb)), (v13, .inl (cA 1, 15, .inr (.inl fkw))), (v28, .inl (cA 1, 10, .inr (.inl l28))), (v30, .inl (cA 1, 8, .inr (.inl l30))), (v32, .inl (cA 0, 400, .inl fc)), (v34, .inl (cA 0, 11, .inl fq))] sz) := by
  refine Met.ofW (cc := cX10_milestoneStatement) (maxL := 5) (ret := (some .boolean)) (by decide) rfl ?_
  intro p e s m args below meth c s₁ B hml hv
  obtain ⟨rfl, hsz, hP, hK, hD0, hC, hZ⟩ := hv
  have hx := B.exec
  have hb := B.bytes
  have hr := B.returns
  have hts := atoms_spec (ws := wsX10_milestoneStatement) B.pre
  have hown : s.vm.findClass RX10 = some m.cls := findClass_of_methodNamed B.named
  have hlocks := B.notSynchronized
  subst hsz
  have hD := hD0.self (sz := s.heap.size)
  generalize hAe : va_A [(oX10 w0 v0 v1 v2 v3 v4 g5 g6 (nI ed) g8 v9 (nI nb) g11 g12 v13 (nI ln) (nI (gP ti)) (nI (gR (ti + 1))) tk kw g19 g20 g21 0 (nI dd) (nI cd) g25 g26 v27 v28 v29 v30 v31 v32 v33 v34 v35 v36 v37 (nI ol)), (v1, .inl (cA 0, 326, .inl fp)), (v9, .inl (cA 0, 700, .inl fb)), (v13, .inl (cA 1, 15, .inr (.inl fkw))), (v28, .inl (cA 1, 10, .inr (.inl l28))), (v30, .inl (cA 1, 8, .inr (.inl l30))), (v32, .inl (cA 0, 400, .inl fc)), (v34, .inl (cA 0, 11, .inl fq))] s.heap.size = A at hD hZ ⊢
  have hA : ∀ q : Nat, s.heap.size ≤ q → A q := fun q h => by rw [← hAe]; exact Or.inr h
  have hS : va_S A s.heap s.heap [] := va_S.rf
  have hP : va_P D vwCl [(oX10 w0 v0 v1 v2 v3 v4 g5 g6 (nI ed) g8 v9 (nI nb) g11 g12 v13 (nI ln) (nI (gP ti)) (nI (gR (ti + 1))) tk kw g19 g20 g21 0 (nI dd) (nI cd) g25 g26 v27 v28 v29 v30 v31 v32 v33 v34 v35 v36 v37 (nI ol)), (v1, .inl (cA 0, 326, .inl fp)), (v9, .inl (cA 0, 700, .inl fb)), (v13, .inl (cA 1, 15, .inr (.inl fkw))), (v28, .inl (cA 1, 10, .inr (.inl l28))), (v30, .inl (cA 1, 8, .inr (.inl l30))), (v32, .inl (cA 0, 400, .inl fc)), (v34, .inl (cA 0, 11, .inl fq))] s.heap := hP
  have hl := lv_entry ([.ref w0]) (n := 5) (Nat.le_of_ble_eq_true rfl)
  rw [lg_entry_eq]
  generalize (lg_sl ([.ref w0]) ++ List.replicate (5 - (lg_sl ([.ref w0])).length) Slot.unset).toArray = ls at hl ⊢
  have hl : lv_has ls 5 [(0, .ref w0)] := hl
  have inX10 : ∀ w ∈ u_ws RX10 TX10 39, w ∈ wsX10_milestoneStatement := by decide +kernel
  have hle9 := TX.le hTX hti
  refine lv_aload_n hx hb dX10_milestoneStatement_0 rfl (lv_at hl 0 rfl) ?_
  refine va_get (D := D) (ci := 11) (v := .ref v1) (C := RX10) (T := TX10) (N := 39) hx hb hts inX10 hown hK hP 0 rfl rfl 1 (by decide) (hts (.fieldLink RX10 13 "EscrowDeskModel" "parsed" "[I") (by decide +kernel)) (fun _ h9 => h9) rfl dX10_milestoneStatement_1 ?_
  refine lv_bipush (v := 13) hx hb dX10_milestoneStatement_4 (by decide) ?_
  refine va_iald hx hb hK hP 1 0 rfl rfl (vp_in_iff.mpr (by decide)) dX10_milestoneStatement_6 ?_
  refine lv_topi (fun yn1 eyn1 => ?_)
  obtain rfl : yn1 = (nI cn) := eyn1.trans hri.1
  refine lv_istore_n (lv' := [(1, .int (nI cn)), (0, .ref w0)]) hx hb dX10_milestoneStatement_7 rfl hl (by decide) rfl (fun ls hl => ?_)
  refine lv_iload_n hx hb dX10_milestoneStatement_8 rfl (lv_at hl 0 rfl) ?_
  refine lv_bipush (v := 10) hx hb dX10_milestoneStatement_9 (by decide) ?_
  refine lv_icmp_ne (tgt := 20) hx hb dX10_milestoneStatement_11 (by decide) (fun c2 => ?_) (fun c2 => ?_)
  · skip
    have hn3 : ¬ cn = 10 := fun h9 => c2 ((nI_eq (a := cn) (b := 10) (by omega) (by omega)).mpr h9)
    refine lv_aload_n hx hb dX10_milestoneStatement_20 rfl (lv_at hl 1 rfl) ?_
    have hn4 := TX.go2 hTX (show ti < ct by omega) (by rw [hk]; decide)
    have hn4a := TX.le hTX (show ti < ct by omega)
    have hn4b := TX.le hTX hn4.1
    obtain ⟨hPc, hDc, hFc⟩ := PDq.cut (wc := [(oX10 w0 v0 v1 v2 v3 v4 g5 g6 (nI ed) g8 v9 (nI nb) g11 g12 v13 (nI ln) (nI (gP ti)) (nI (gR (ti + 1))) tk kw g19 g20 g21 0 (nI dd) (nI cd) g25 g26 v27 v28 v29 v30 v31 v32 v33 v34 v35 v36 v37 (nI ol)), (v9, .inl (cA 0, 700, .inl fb)), (v13, .inl (cA 1, 15, .inr (.inl fkw)))]) hP hD hS hA [0, 2, 3] (by decide) rfl
    refine va_calli (va_runV (As := []) (rest := []) ⟨hx, hb, hml, hown, hts⟩ (y_advance l D cA sa w0 ed nb ol v0 v1 v2 v3 v4 v9 v13 v27 v28 v29 v30 v31 v32 v33 v34 v35 v36 v37 g8 g11 g12 (nI (gP ti)) tk kw g19 g20 g21 0 (nI dd) (nI cd) g26 g5 g6 g25 ln (gR (ti + 1)) fb fkw (gP (ti + 1)) (gR ((ti + 1) + 1)) (gK (ti + 1)) (gV (ti + 1)) s.heap.size hln (by omega) hKW hBY (TX.t hTX hn4.1)) (cwV 0 hts gX10_milestoneStatement_X10_advance rfl rfl rfl (by decide +kernel) ⟨(Nat.le_of_ble_eq_true rfl), (Nat.le_of_ble_eq_true rfl)⟩) ⟨Wd.blind, va_recv hK hPc (ci := 11) (q0 := 0) rfl rfl, fun U hU hW => ⟨rfl, Wd.call hPc hDc hK hC hZ hS hFc U hU hW⟩⟩ rfl rfl hl.1 rfl (lv_room (Nat.le_of_ble_eq_true rfl)) dX10_milestoneStatement_21 ⟨(Nat.le_of_ble_eq_true rfl), (Nat.le_of_ble_eq_true rfl)⟩) hS (fun q _ h => hFc q h) hFc (fun rn5 u t H1 locs ht hvm hw hB hz1 hk1 hS => ?_)
    obtain ⟨zn6, zn7, zn8, zn9, hn10, hP1, hD1⟩ := hB
    rw [ht] at hP1
    obtain ⟨hP, hD⟩ := PDq.join (w := [(v1, .inl (cA 0, 326, .inl fp)), (v28, .inl (cA 1, 10, .inr (.inl l28))), (v30, .inl (cA 1, 8, .inr (.inl l30))), (v32, .inl (cA 0, 400, .inl fc)), (v34, .inl (cA 0, 11, .inl fq)), (oX10 w0 v0 v1 v2 v3 v4 g5 g6 (nI ed) g8 v9 (nI nb) g11 g12 v13 (nI ln) (nI (gP (ti + 1))) (nI (gR ((ti + 1) + 1))) zn6 zn7 zn8 g20 g21 0 (nI dd) (nI cd) zn9 g26 v27 v28 v29 v30 v31 v32 v33 v34 v35 v36 v37 (nI ol)), (v9, .inl (cA 0, 700, .inl fb)), (v13, .inl (cA 1, 15, .inr (.inl fkw)))]) 5 hP hD [0, 2, 3] [1, 4, 5, 6, 7] rfl rfl (by decide) (by decide) hk1 hFc hP1 hD1 rfl
    generalize H1 = H at hP hS ⊢
    obtain rfl : rn5 = 1 := hw
    refine lv_pop hx hb dX10_milestoneStatement_24 rfl ?_
    refine lv_aload_n hx hb dX10_milestoneStatement_25 rfl (lv_at hl 1 rfl) ?_
    obtain ⟨hPc, hDc, hFc⟩ := PDq.cut (wc := [(oX10 w0 v0 v1 v2 v3 v4 g5 g6 (nI ed) g8 v9 (nI nb) g11 g12 v13 (nI ln) (nI (gP (ti + 1))) (nI (gR ((ti + 1) + 1))) zn6 zn7 zn8 g20 g21 0 (nI dd) (nI cd) zn9 g26 v27 v28 v29 v30 v31 v32 v33 v34 v35 v36 v37 (nI ol))]) hP hD hS hA [5] (by decide) rfl
    refine va_calli (va_runV (As := []) (rest := []) ⟨hx, hb, hml, hown, hts⟩ (y_isName l D cA sa w0 ed nb ol v0 v1 v2 v3 v4 v9 v13 v27 v28 v29 v30 v31 v32 v33 v34 v35 v36 v37 g8 g11 g12 zn8 g20 g21 0 (nI dd) g26 g5 g6 zn9 ln cd zn6 zn7 (ti + 1) ct fb gP gR gS gK gV H.size hln hct hn4.1 hTX hBY hn10) (cwV 0 hts gX10_milestoneStatement_X10_isName rfl rfl rfl (by decide +kernel) ⟨(Nat.le_of_ble_eq_true rfl), (Nat.le_of_ble_eq_true rfl)⟩) ⟨Wd.blind, va_recv hK hPc (ci := 11) (q0 := 0) rfl rfl, fun U hU hW => ⟨rfl, Wd.call hPc hDc hK hC hZ hS hFc U hU hW⟩⟩ rfl rfl hl.1 rfl (lv_room (Nat.le_of_ble_eq_true rfl)) dX10_milestoneStatement_26 ⟨(Nat.le_of_ble_eq_true rfl), (Nat.le_of_ble_eq_true rfl)⟩) hS (fun q _ h => hFc q h) hFc (fun rn11 u t H1 locs ht hvm hw hB hz1 hk1 hS => ?_)
    obtain ⟨hP1, hD1⟩ := hB
    rw [ht] at hP1
    obtain ⟨hP, hD⟩ := PDq.join (w := [(v1, .inl (cA 0, 326, .inl fp)), (v28, .inl (cA 1, 10, .inr (.inl l28))), (v30, .inl (cA 1, 8, .inr (.inl l30))), (v32, .inl (cA 0, 400, .inl fc)), (v34, .inl (cA 0, 11, .inl fq)), (v9, .inl (cA 0, 700, .inl fb)), (v13, .inl (cA 1, 15, .inr (.inl fkw))), (oX10 w0 v0 v1 v2 v3 v4 g5 g6 (nI ed) g8 v9 (nI nb) g11 g12 v13 (nI ln) (nI (gP (ti + 1))) (nI (gR ((ti + 1) + 1))) zn6 zn7 zn8 g20 g21 0 (nI dd) (nI cd) zn9 g26 v27 v28 v29 v30 v31 v32 v33 v34 v35 v36 v37 (nI ol))]) 7 hP hD [5] [0, 1, 2, 3, 4, 6, 7] rfl rfl (by decide) (by decide) hk1 hFc hP1 hD1 rfl
    generalize H1 = H at hP hS ⊢
    rcases hw with ⟨hr9, hn12⟩ | ⟨hr9, hn12⟩
    · skip
      subst hr9
      refine lv_if_ne (tgt := 38) hx hb dX10_milestoneStatement_29 (by decide) (fun c13 => ?_) (fun c9 => absurd c9 (by decide))
      obtain rfl : zn9 = gV (ti + 1) := TKR.wd hn10 hn12
      obtain ⟨hP, hD⟩ : PDq D A [(v1, .inl (cA 0, 326, .inl fp)), (v28, .inl (cA 1, 10, .inr (.inl l28))), (v30, .inl (cA 1, 8, .inr (.inl l30))), (v32, .inl (cA 0, 400, .inl fc)), (v34, .inl (cA 0, 11, .inl fq)), (v9, .inl (cA 0, 700, .inl fb)), (v13, .inl (cA 1, 15, .inr (.inl fkw))), (oX10 w0 v0 v1 v2 v3 v4 g5 g6 (nI ed) g8 v9 (nI nb) g11 g12 v13 (nI ln) (nI (gP (ti + 1))) (nI (gR ((ti + 1) + 1))) zn6 zn7 zn8 g20 g21 0 (nI dd) (nI cd) (gV (ti + 1)) g26 v27 v28 v29 v30 v31 v32 v33 v34 v35 v36 v37 (nI ol))] H := ⟨hP, hD⟩
      refine lv_aload_n hx hb dX10_milestoneStatement_38 rfl (lv_at hl 1 rfl) ?_
      refine va_get (D := D) (ci := 11) (v := .ref v28) (C := RX10) (T := TX10) (N := 39) hx hb hts inX10 hown hK hP 7 rfl rfl 28 (by decide) (hts (.fieldLink RX10 39 "EscrowDeskModel" "namesRead" "[J") (by decide +kernel)) (fun _ h9 => h9) rfl dX10_milestoneStatement_39 ?_
      refine lv_iload_n hx hb dX10_milestoneStatement_42 rfl (lv_at hl 0 rfl) ?_
      refine lv_aload_n hx hb dX10_milestoneStatement_43 rfl (lv_at hl 1 rfl) ?_
      refine va_get (D := D) (ci := 11) (v := .long (gV (ti + 1))) (C := RX10) (T := TX10) (N := 39) hx hb hts inX10 hown hK hP 7 rfl rfl 25 (by decide) (hts (.fieldLink RX10 123 "EscrowDeskModel" "word" "J") (by decide +kernel)) (fun _ h9 => h9) rfl dX10_milestoneStatement_44 ?_
      obtain ⟨hPc, hDc, hFc⟩ := PDq.cut (wc := [(v28, .inl (cA 1, 10, .inr (.inl l28)))]) hP hD hS hA [1] (by decide) rfl
      refine va_calli (va_runS (As := [.ref v28, .int (nI cn), .long (gV (ti + 1))]) (rest := []) ⟨hx, hb, hml, hown, hts⟩ (y_find10 l D cA sa v28 cn (gV (ti + 1)) l28 H.size hcn) (va_cwS 3 hts gX10_milestoneStatement_X10_find rfl rfl rfl (by decide +kernel) ⟨(Nat.le_of_ble_eq_true rfl), (Nat.le_of_ble_eq_true rfl)⟩) ⟨Wd.blind, fun U hU hW => ⟨rfl, Wd.call hPc hDc hK hC hZ hS hFc U hU hW⟩⟩ rfl rfl hl.1 rfl (lv_room (Nat.le_of_ble_eq_true rfl)) dX10_milestoneStatement_47 ⟨(Nat.le_of_ble_eq_true rfl), (Nat.le_of_ble_eq_true rfl)⟩) hS (fun q _ h => hFc q h) hFc (fun rn14 u t H1 locs ht hvm hw hB hz1 hk1 hS => ?_)
      obtain ⟨hP1, hD1⟩ := hB
      rw [ht] at hP1
      obtain ⟨hP, hD⟩ := PDq.join (w := [(v1, .inl (cA 0, 326, .inl fp)), (v30, .inl (cA 1, 8, .inr (.inl l30))), (v32, .inl (cA 0, 400, .inl fc)), (v34, .inl (cA 0, 11, .inl fq)), (v9, .inl (cA 0, 700, .inl fb)), (v13, .inl (cA 1, 15, .inr (.inl fkw))), (oX10 w0 v0 v1 v2 v3 v4 g5 g6 (nI ed) g8 v9 (nI nb) g11 g12 v13 (nI ln) (nI (gP (ti + 1))) (nI (gR ((ti + 1) + 1))) zn6 zn7 zn8 g20 g21 0 (nI dd) (nI cd) (gV (ti + 1)) g26 v27 v28 v29 v30 v31 v32 v33 v34 v35 v36 v37 (nI ol)), (v28, .inl (cA 1, 10, .inr (.inl l28)))]) 7 hP hD [1] [0, 2, 3, 4, 5, 6, 7] rfl rfl (by decide) (by decide) hk1 hFc hP1 hD1 rfl
      generalize H1 = H at hP hS ⊢
      rcases hw with ⟨hr9, hn15⟩ | ⟨kn16, hn17, hr9, hn15⟩
      · skip
        subst hr9
        have hn15 := NL.not hNM hn15
        refine lv_iconst (v := (-1)) hx hb dX10_milestoneStatement_50 (by decide) ?_
        refine lv_icmp_eq (tgt := 60) hx hb dX10_milestoneStatement_51 (by decide) (fun c18 => ?_) (fun c9 => absurd c9 (by decide))
        refine lv_aload_n hx hb dX10_milestoneStatement_60 rfl (lv_at hl 1 rfl) ?_
        refine va_get (D := D) (ci := 11) (v := .long (gV (ti + 1))) (C := RX10) (T := TX10) (N := 39) hx hb hts inX10 hown hK hP 6 rfl rfl 25 (by decide) (hts (.fieldLink RX10 123 "EscrowDeskModel" "word" "J") (by decide +kernel)) (fun _ h9 => h9) rfl dX10_milestoneStatement_61 ?_
        refine lv_lstore_n (lv' := [(2, .long (gV (ti + 1))), (1, .int (nI cn)), (0, .ref w0)]) hx hb dX10_milestoneStatement_64 rfl hl (by decide) rfl (fun ls hl => ?_)
        refine lv_aload_n hx hb dX10_milestoneStatement_65 rfl (lv_at hl 2 rfl) ?_
        have hn19 := TX.go hTX (show ti + 1 < ct by omega) (by rw [hn12]; decide)
        have hn19a := TX.le hTX (show ti + 1 < ct by omega)
        have hn19b := TX.le hTX hn19.1
        obtain ⟨hPc, hDc, hFc⟩ := PDq.cut (wc := [(oX10 w0 v0 v1 v2 v3 v4 g5 g6 (nI ed) g8 v9 (nI nb) g11 g12 v13 (nI ln) (nI (gP (ti + 1))) (nI (gR ((ti + 1) + 1))) zn6 zn7 zn8 g20 g21 0 (nI dd) (nI cd) (gV (ti + 1)) g26 v27 v28 v29 v30 v31 v32 v33 v34 v35 v36 v37 (nI ol)), (v9, .inl (cA 0, 700, .inl fb)), (v13, .inl (cA 1, 15, .inr (.inl fkw)))]) hP hD hS hA [6, 4, 5] (by decide) rfl
        refine va_calli (va_runV (As := []) (rest := []) ⟨hx, hb, hml, hown, hts⟩ (y_advance l D cA sa w0 ed nb ol v0 v1 v2 v3 v4 v9 v13 v27 v28 v29 v30 v31 v32 v33 v34 v35 v36 v37 g8 g11 g12 (nI (gP (ti + 1))) zn6 zn7 zn8 g20 g21 0 (nI dd) (nI cd) g26 g5 g6 (gV (ti + 1)) ln (gR ((ti + 1) + 1)) fb fkw (gP (ti + 1 + 1)) (gR ((ti + 1 + 1) + 1)) (gK (ti + 1 + 1)) (gV (ti + 1 + 1)) H.size hln (by omega) hKW hBY (TX.t hTX hn19.1)) (cwV 0 hts gX10_milestoneStatement_X10_advance rfl rfl rfl (by decide +kernel) ⟨(Nat.le_of_ble_eq_true rfl), (Nat.le_of_ble_eq_true rfl)⟩) ⟨Wd.blind, va_recv hK hPc (ci := 11) (q0 := 0) rfl rfl, fun U hU hW => ⟨rfl, Wd.call hPc hDc hK hC hZ hS hFc U hU hW⟩⟩ rfl rfl hl.1 rfl (lv_room (Nat.le_of_ble_eq_true rfl)) dX10_milestoneStatement_66 ⟨(Nat.le_of_ble_eq_true rfl), (Nat.le_of_ble_eq_true rfl)⟩) hS (fun q _ h => hFc q h) hFc (fun rn20 u t H1 locs ht hvm hw hB hz1 hk1 hS => ?_)
        obtain ⟨zn21, zn22, zn23, zn24, hn25, hP1, hD1⟩ := hB
        rw [ht] at hP1
        obtain ⟨hP, hD⟩ := PDq.join (w := [(v1, .inl (cA 0, 326, .inl fp)), (v30, .inl (cA 1, 8, .inr (.inl l30))), (v32, .inl (cA 0, 400, .inl fc)), (v34, .inl (cA 0, 11, .inl fq)), (v28, .inl (cA 1, 10, .inr (.inl l28))), (oX10 w0 v0 v1 v2 v3 v4 g5 g6 (nI ed) g8 v9 (nI nb) g11 g12 v13 (nI ln) (nI (gP (ti + 1 + 1))) (nI (gR ((ti + 1 + 1) + 1))) zn21 zn22 zn23 g20 g21 0 (nI dd) (nI cd) zn24 g26 v27 v28 v29 v30 v31 v32 v33 v34 v35 v36 v37 (nI ol)), (v9, .inl (cA 0, 700, .inl fb)), (v13, .inl (cA 1, 15, .inr (.inl fkw)))]) 5 hP hD [6, 4, 5] [0, 1, 2, 3, 7] rfl rfl (by decide) (by decide) hk1 hFc hP1 hD1 rfl
        generalize H1 = H at hP hS ⊢
        obtain rfl : rn20 = 1 := hw
        refine lv_pop hx hb dX10_milestoneStatement_69 rfl ?_
        refine lv_bipush (v := 16) hx hb dX10_milestoneStatement_70 (by decide) ?_
        refine lv_bipush (v := 7) hx hb dX10_milestoneStatement_72 (by decide) ?_
        refine lv_iload_n hx hb dX10_milestoneStatement_74 rfl (lv_at hl 1 rfl) ?_
        refine lv_imul hx hb dX10_milestoneStatement_75 ?_
        refine lv_topi (fun yn26 eyn26 => ?_)
        obtain rfl : yn26 = (nI (7 * cn)) := eyn26.trans (nI_mul 7 cn)
        refine lv_iadd hx hb dX10_milestoneStatement_76 ?_
        refine lv_topi (fun yn27 eyn27 => ?_)
        obtain rfl : yn27 = (nI (16 + (7 * cn))) := eyn27.trans (nI_add 16 (7 * cn))
        refine lv_istore (lv' := [(4, .int (nI (16 + (7 * cn)))), (2, .long (gV (ti + 1))), (1, .int (nI cn)), (0, .ref w0)]) hx hb dX10_milestoneStatement_77 hl (by decide) rfl (fun ls hl => ?_)
        refine lv_aload_n hx hb dX10_milestoneStatement_79 rfl (lv_at hl 3 rfl) ?_
        refine lv_iload hx hb dX10_milestoneStatement_80 (lv_at hl 0 rfl) ?_
        refine lv_iconst (v := 0) hx hb dX10_milestoneStatement_82 (by decide) ?_
        refine lv_iadd hx hb dX10_milestoneStatement_83 ?_
        refine lv_topi (fun yn28 eyn28 => ?_)
        obtain rfl : yn28 = (nI ((16 + (7 * cn)) + 0)) := eyn28.trans (nI_add (16 + (7 * cn)) 0)
        refine lv_iconst (v := 1) hx hb dX10_milestoneStatement_84 (by decide) ?_
        refine lv_ldc (v := 99999) hx hb hown (hts (.constant RX10 218 99999) (by decide +kernel)) dX10_milestoneStatement_85 ?_
        obtain ⟨hPc, hDc, hFc⟩ := PDq.cut (wc := [(oX10 w0 v0 v1 v2 v3 v4 g5 g6 (nI ed) g8 v9 (nI nb) g11 g12 v13 (nI ln) (nI (gP (ti + 1 + 1))) (nI (gR ((ti + 1 + 1) + 1))) zn21 zn22 zn23 g20 g21 0 (nI dd) (nI cd) zn24 g26 v27 v28 v29 v30 v31 v32 v33 v34 v35 v36 v37 (nI ol)), (v9, .inl (cA 0, 700, .inl fb)), (v13, .inl (cA 1, 15, .inr (.inl fkw))), (v1, .inl (cA 0, 326, .inl fp))]) hP hD hS hA [5, 6, 7, 0] (by decide) rfl
        refine va_calli (va_runV (As := [.int (nI ((16 + (7 * cn)) + 0)), .int 1, .int 99999]) (rest := []) ⟨hx, hb, hml, hown, hts⟩ (y_numberToM l D cA sa w0 ed nb ol v0 v1 v2 v3 v4 v9 v13 v27 v28 v29 v30 v31 v32 v33 v34 v35 v36 v37 g8 g11 g12 zn23 g20 g21 0 (nI dd) g26 g5 g6 zn24 ln cd zn21 zn22 (ti + 1 + 1) ct fb fkw gP gR gS gK gV cn pq en dy fp 1 99999 ((16 + (7 * cn)) + 0) H.size hln hct hn19.1 hTX hBY hn25 hKW (by omega) (by omega) hcn hpq hen hdy hri (by omega) (by omega)) (cwV 3 hts gX10_milestoneStatement_X10_numberTo rfl rfl rfl (by decide +kernel) ⟨(Nat.le_of_ble_eq_true rfl), (Nat.le_of_ble_eq_true rfl)⟩) ⟨Wd.blind, va_recv hK hPc (ci := 11) (q0 := 0) rfl rfl, fun U hU hW => ⟨rfl, Wd.call hPc hDc hK hC hZ hS hFc U hU hW⟩⟩ rfl rfl hl.1 rfl (lv_room (Nat.le_of_ble_eq_true rfl)) dX10_milestoneStatement_87 ⟨(Nat.le_of_ble_eq_true rfl), (Nat.le_of_ble_eq_true rfl)⟩) hS (fun q _ h => hFc q h) hFc (fun rn29 u t H1 locs ht hvm hw hB hz1 hk1 hS => ?_)
        obtain ⟨qn30, zn31, zn32, zn33, zn34, zn35, zn36, zn37, fn38, hn39, hn40, hn41, hn42, hn43, hn44, hn45, hn46, hn47, hn48, hn49, hn50, hP1, hD1⟩ := hB
        rw [ht] at hP1
        obtain ⟨hP, hD⟩ := PDq.join (w := [(v30, .inl (cA 1, 8, .inr (.inl l30))), (v32, .inl (cA 0, 400, .inl fc)), (v34, .inl (cA 0, 11, .inl fq)), (v28, .inl (cA 1, 10, .inr (.inl l28))), (oX10 w0 v0 v1 v2 v3 v4 g5 g6 (nI ed) g8 v9 (nI nb) g11 g12 v13 (nI ln) (nI (gP qn30)) (nI (gR (qn30 + 1))) zn31 zn32 zn33 zn34 zn35 0 (nI dd) (nI cd) zn37 zn36 v27 v28 v29 v30 v31 v32 v33 v34 v35 v36 v37 (nI ol)), (v9, .inl (cA 0, 700, .inl fb)), (v13, .inl (cA 1, 15, .inr (.inl fkw))), (v1, .inl (cA 0, 326, .inl fn38))]) 4 hP hD [5, 6, 7, 0] [1, 2, 3, 4] rfl rfl (by decide) (by decide) hk1 hFc hP1 hD1 rfl
        generalize H1 = H at hP hS ⊢
        rcases hw.2 with hr9 | hr9
        · skip
          have hn49 := hn49 (hw.1.trans hr9)
          have hn50 := hn50 (hw.1.trans hr9)
          subst hr9
          refine lv_if_eq (tgt := 108) hx hb dX10_milestoneStatement_90 (by decide) (fun c51 => ?_) (fun c9 => absurd c9 (by decide))
          refine lv_iconst (v := 0) hx hb dX10_milestoneStatement_108 (by decide) ?_
          obtain ⟨hP9, hD9⟩ := PDq.sub (ws' := [(oX10 w0 v0 v1 v2 v3 v4 g5 g6 (nI ed) g8 v9 (nI nb) g11 g12 v13 (nI ln) (nI (gP qn30)) (nI (gR (qn30 + 1))) zn31 zn32 zn33 zn34 zn35 0 (nI dd) (nI cd) zn37 zn36 v27 v28 v29 v30 v31 v32 v33 v34 v35 v36 v37 (nI ol)), (v1, .inl (cA 0, 326, .inl fn38)), (v9, .inl (cA 0, 700, .inl fb)), (v13, .inl (cA 1, 15, .inr (.inl fkw))), (v28, .inl (cA 1, 10, .inr (.inl l28))), (v30, .inl (cA 1, 8, .inr (.inl l30))), (v32, .inl (cA 0, 400, .inl fc)), (v34, .inl (cA 0, 11, .inl fq))]) hP hD [4, 7, 5, 6, 3, 0, 1, 2] (by decide) rfl
          refine W.widen (k := 0) (n := 0) (Nat.le_of_ble_eq_true rfl) (Nat.le_of_ble_eq_true rfl) ?_
          exact (W.zret (v := 0) hx hb hr (by first | rfl | decide) (fun t ht hW => ⟨⟨0, 0, rfl, ⟨rfl, by decide⟩, qn30, zn31, zn32, zn33, zn34, zn35, zn36, zn37, 0, cd, cn, pq, en, dd, fn38, fc, fq, l30, l28, ml, pl, hn39, hn40, (by omega), hn42, hcn, hpq, hen, hdd, hn43, hNM, hNP, (fun h9 => absurd h9 (by decide)), (fun h9 => absurd h9 (by decide)), (fun h9 => absurd h9 (by decide)), (fun h9 => absurd h9 (by decide)), (fun h9 => absurd h9 (by decide)), (fun h9 => absurd h9 (by decide)), (fun h9 => absurd h9 (by decide)), (fun _ => (S_milAx hk (fun q9 => absurd (hNM.1.symm.trans q9) (by omega)) hn12 hn15 hn49 hn50)), by rw [ht]; exact hP9, hD9⟩, hS.F ht⟩) hS.2.2 dX10_milestoneStatement_109)
        · skip
          have hn44 := hn44 (hw.1.trans hr9)
          subst hn44
          obtain ⟨hP, hD⟩ : PDq D A [(v30, .inl (cA 1, 8, .inr (.inl l30))), (v32, .inl (cA 0, 400, .inl fc)), (v34, .inl (cA 0, 11, .inl fq)), (v28, .inl (cA 1, 10, .inr (.inl l28))), (oX10 w0 v0 v1 v2 v3 v4 g5 g6 (nI ed) g8 v9 (nI nb) g11 g12 v13 (nI ln) (nI (gP ((ti + 1 + 1) + 1))) (nI (gR (((ti + 1 + 1) + 1) + 1))) zn31 zn32 zn33 zn34 zn35 0 (nI dd) (nI cd) zn37 zn36 v27 v28 v29 v30 v31 v32 v33 v34 v35 v36 v37 (nI ol)), (v9, .inl (cA 0, 700, .inl fb)), (v13, .inl (cA 1, 15, .inr (.inl fkw))), (v1, .inl (cA 0, 326, .inl fn38))] H := ⟨hP, hD⟩
          have hn45 := hn45 (hw.1.trans hr9)
          obtain rfl : g20 = zn34 := hn45.symm
          obtain ⟨hP, hD⟩ : PDq D A [(v30, .inl (cA 1, 8, .inr (.inl l30))), (v32, .inl (cA 0, 400, .inl fc)), (v34, .inl (cA 0, 11, .inl fq)), (v28, .inl (cA 1, 10, .inr (.inl l28))), (oX10 w0 v0 v1 v2 v3 v4 g5 g6 (nI ed) g8 v9 (nI nb) g11 g12 v13 (nI ln) (nI (gP ((ti + 1 + 1) + 1))) (nI (gR (((ti + 1 + 1) + 1) + 1))) zn31 zn32 zn33 g20 zn35 0 (nI dd) (nI cd) zn37 zn36 v27 v28 v29 v30 v31 v32 v33 v34 v35 v36 v37 (nI ol)), (v9, .inl (cA 0, 700, .inl fb)), (v13, .inl (cA 1, 15, .inr (.inl fkw))), (v1, .inl (cA 0, 326, .inl fn38))] H := ⟨hP, hD⟩
          have hn46 := hn46 (hw.1.trans hr9)
          obtain rfl : g21 = zn35 := hn46.symm
          obtain ⟨hP, hD⟩ : PDq D A [(v30, .inl (cA 1, 8, .inr (.inl l30))), (v32, .inl (cA 0, 400, .inl fc)), (v34, .inl (cA 0, 11, .inl fq)), (v28, .inl (cA 1, 10, .inr (.inl l28))), (oX10 w0 v0 v1 v2 v3 v4 g5 g6 (nI ed) g8 v9 (nI nb) g11 g12 v13 (nI ln) (nI (gP ((ti + 1 + 1) + 1))) (nI (gR (((ti + 1 + 1) + 1) + 1))) zn31 zn32 zn33 g20 g21 0 (nI dd) (nI cd) zn37 zn36 v27 v28 v29 v30 v31 v32 v33 v34 v35 v36 v37 (nI ol)), (v9, .inl (cA 0, 700, .inl fb)), (v13, .inl (cA 1, 15, .inr (.inl fkw))), (v1, .inl (cA 0, 326, .inl fn38))] H := ⟨hP, hD⟩
          have hn47 := hn47 (hw.1.trans hr9)
          have hn48 := hn48 (hw.1.trans hr9)
          subst hr9
          refine lv_if_eq (tgt := 108) hx hb dX10_milestoneStatement_90 (by decide) (fun c9 => absurd c9 (by decide)) (fun c52 => ?_)
          refine lv_aload_n hx hb dX10_milestoneStatement_93 rfl (lv_at hl 3 rfl) ?_
          refine lv_iload hx hb dX10_milestoneStatement_94 (lv_at hl 0 rfl) ?_
          refine lv_bipush (v := 6) hx hb dX10_milestoneStatement_96 (by decide) ?_
          refine lv_iadd hx hb dX10_milestoneStatement_98 ?_
          refine lv_topi (fun yn53 eyn53 => ?_)
          obtain rfl : yn53 = (nI ((16 + (7 * cn)) + 6)) := eyn53.trans (nI_add (16 + (7 * cn)) 6)
          refine lv_iconst (v := 0) hx hb dX10_milestoneStatement_99 (by decide) ?_
          refine lv_bipush (v := 99) hx hb dX10_milestoneStatement_100 (by decide) ?_
          obtain ⟨hPc, hDc, hFc⟩ := PDq.cut (wc := [(oX10 w0 v0 v1 v2 v3 v4 g5 g6 (nI ed) g8 v9 (nI nb) g11 g12 v13 (nI ln) (nI (gP ((ti + 1 + 1) + 1))) (nI (gR (((ti + 1 + 1) + 1) + 1))) zn31 zn32 zn33 g20 g21 0 (nI dd) (nI cd) zn37 zn36 v27 v28 v29 v30 v31 v32 v33 v34 v35 v36 v37 (nI ol)), (v9, .inl (cA 0, 700, .inl fb)), (v13, .inl (cA 1, 15, .inr (.inl fkw))), (v1, .inl (cA 0, 326, .inl fn38))]) hP hD hS hA [4, 5, 6, 7] (by decide) rfl
          refine va_calli (va_runV (As := [.int (nI ((16 + (7 * cn)) + 6)), .int 0, .int 99]) (rest := []) ⟨hx, hb, hml, hown, hts⟩ (y_numberToM l D cA sa w0 ed nb ol v0 v1 v2 v3 v4 v9 v13 v27 v28 v29 v30 v31 v32 v33 v34 v35 v36 v37 g8 g11 g12 zn33 g20 g21 0 (nI dd) zn36 g5 g6 zn37 ln cd zn31 zn32 ((ti + 1 + 1) + 1) ct fb fkw gP gR gS gK gV cn pq en dy fn38 0 99 ((16 + (7 * cn)) + 6) H.size hln hct hn39 hTX hBY hn42 hKW (by omega) (by omega) hcn hpq hen hdy hn43 (by omega) (by omega)) (cwV 3 hts gX10_milestoneStatement_X10_numberTo rfl rfl rfl (by decide +kernel) ⟨(Nat.le_of_ble_eq_true rfl), (Nat.le_of_ble_eq_true rfl)⟩) ⟨Wd.blind, va_recv hK hPc (ci := 11) (q0 := 0) rfl rfl, fun U hU hW => ⟨rfl, Wd.call hPc hDc hK hC hZ hS hFc U hU hW⟩⟩ rfl rfl hl.1 rfl (lv_room (Nat.le_of_ble_eq_true rfl)) dX10_milestoneStatement_102 ⟨(Nat.le_of_ble_eq_true rfl), (Nat.le_of_ble_eq_true rfl)⟩) hS (fun q _ h => hFc q h) hFc (fun rn54 u t H1 locs ht hvm hw hB hz1 hk1 hS => ?_)
          obtain ⟨qn55, zn56, zn57, zn58, zn59, zn60, zn61, zn62, fn63, hn64, hn65, hn66, hn67, hn68, hn69, hn70, hn71, hn72, hn73, hn74, hn75, hP1, hD1⟩ := hB
          rw [ht] at hP1
          obtain ⟨hP, hD⟩ := PDq.join (w := [(v30, .inl (cA 1, 8, .inr (.inl l30))), (v32, .inl (cA 0, 400, .inl fc)), (v34, .inl (cA 0, 11, .inl fq)), (v28, .inl (cA 1, 10, .inr (.inl l28))), (oX10 w0 v0 v1 v2 v3 v4 g5 g6 (nI ed) g8 v9 (nI nb) g11 g12 v13 (nI ln) (nI (gP qn55)) (nI (gR (qn55 + 1))) zn56 zn57 zn58 zn59 zn60 0 (nI dd) (nI cd) zn62 zn61 v27 v28 v29 v30 v31 v32 v33 v34 v35 v36 v37 (nI ol)), (v9, .inl (cA 0, 700, .inl fb)), (v13, .inl (cA 1, 15, .inr (.inl fkw))), (v1, .inl (cA 0, 326, .inl fn63))]) 4 hP hD [4, 5, 6, 7] [0, 1, 2, 3] rfl rfl (by decide) (by decide) hk1 hFc hP1 hD1 rfl
          generalize H1 = H at hP hS ⊢
          rcases hw.2 with hr9 | hr9
          · skip
            have hn74 := hn74 (hw.1.trans hr9)
            have hn75 := hn75 (hw.1.trans hr9)
            subst hr9
            refine lv_if_ne (tgt := 110) hx hb dX10_milestoneStatement_105 (by decide) (fun c9 => absurd c9 (by decide)) (fun c76 => ?_)
            refine lv_iconst (v := 0) hx hb dX10_milestoneStatement_108 (by decide) ?_
            obtain ⟨hP9, hD9⟩ := PDq.sub (ws' := [(oX10 w0 v0 v1 v2 v3 v4 g5 g6 (nI ed) g8 v9 (nI nb) g11 g12 v13 (nI ln) (nI (gP qn55)) (nI (gR (qn55 + 1))) zn56 zn57 zn58 zn59 zn60 0 (nI dd) (nI cd) zn62 zn61 v27 v28 v29 v30 v31 v32 v33 v34 v35 v36 v37 (nI ol)), (v1, .inl (cA 0, 326, .inl fn63)), (v9, .inl (cA 0, 700, .inl fb)), (v13, .inl (cA 1, 15, .inr (.inl fkw))), (v28, .inl (cA 1, 10, .inr (.inl l28))), (v30, .inl (cA 1, 8, .inr (.inl l30))), (v32, .inl (cA 0, 400, .inl fc)), (v34, .inl (cA 0, 11, .inl fq))]) hP hD [4, 7, 5, 6, 3, 0, 1, 2] (by decide) rfl
            refine W.widen (k := 0) (n := 0) (Nat.le_of_ble_eq_true rfl) (Nat.le_of_ble_eq_true rfl) ?_
            exact (W.zret (v := 0) hx hb hr (by first | rfl | decide) (fun t ht hW => ⟨⟨0, 0, rfl, ⟨rfl, by decide⟩, qn55, zn56, zn57, zn58, zn59, zn60, zn61, zn62, 0, cd, cn, pq, en, dd, fn63, fc, fq, l30, l28, ml, pl, hn64, hn65, (by omega), hn67, hcn, hpq, hen, hdd, hn68, hNM, hNP, (fun h9 => absurd h9 (by decide)), (fun h9 => absurd h9 (by decide)), (fun h9 => absurd h9 (by decide)), (fun h9 => absurd h9 (by decide)), (fun h9 => absurd h9 (by decide)), (fun h9 => absurd h9 (by decide)), (fun h9 => absurd h9 (by decide)), (fun _ => (S_milPx hk (fun q9 => absurd (hNM.1.symm.trans q9) (by omega)) hn12 hn15 hn48 hn74 hn75)), by rw [ht]; exact hP9, hD9⟩, hS.F ht⟩) hS.2.2 dX10_milestoneStatement_109)
          · skip
            have hn69 := hn69 (hw.1.trans hr9)
            subst hn69
            obtain ⟨hP, hD⟩ : PDq D A [(v30, .inl (cA 1, 8, .inr (.inl l30))), (v32, .inl (cA 0, 400, .inl fc)), (v34, .inl (cA 0, 11, .inl fq)), (v28, .inl (cA 1, 10, .inr (.inl l28))), (oX10 w0 v0 v1 v2 v3 v4 g5 g6 (nI ed) g8 v9 (nI nb) g11 g12 v13 (nI ln) (nI (gP (((ti + 1 + 1) + 1) + 1))) (nI (gR ((((ti + 1 + 1) + 1) + 1) + 1))) zn56 zn57 zn58 zn59 zn60 0 (nI dd) (nI cd) zn62 zn61 v27 v28 v29 v30 v31 v32 v33 v34 v35 v36 v37 (nI ol)), (v9, .inl (cA 0, 700, .inl fb)), (v13, .inl (cA 1, 15, .inr (.inl fkw))), (v1, .inl (cA 0, 326, .inl fn63))] H := ⟨hP, hD⟩
            have hn70 := hn70 (hw.1.trans hr9)
            obtain rfl : g20 = zn59 := hn70.symm
            obtain ⟨hP, hD⟩ : PDq D A [(v30, .inl (cA 1, 8, .inr (.inl l30))), (v32, .inl (cA 0, 400, .inl fc)), (v34, .inl (cA 0, 11, .inl fq)), (v28, .inl (cA 1, 10, .inr (.inl l28))), (oX10 w0 v0 v1 v2 v3 v4 g5 g6 (nI ed) g8 v9 (nI nb) g11 g12 v13 (nI ln) (nI (gP (((ti + 1 + 1) + 1) + 1))) (nI (gR ((((ti + 1 + 1) + 1) + 1) + 1))) zn56 zn57 zn58 g20 zn60 0 (nI dd) (nI cd) zn62 zn61 v27 v28 v29 v30 v31 v32 v33 v34 v35 v36 v37 (nI ol)), (v9, .inl (cA 0, 700, .inl fb)), (v13, .inl (cA 1, 15, .inr (.inl fkw))), (v1, .inl (cA 0, 326, .inl fn63))] H := ⟨hP, hD⟩
            have hn71 := hn71 (hw.1.trans hr9)
            obtain rfl : g21 = zn60 := hn71.symm
            obtain ⟨hP, hD⟩ : PDq D A [(v30, .inl (cA 1, 8, .inr (.inl l30))), (v32, .inl (cA 0, 400, .inl fc)), (v34, .inl (cA 0, 11, .inl fq)), (v28, .inl (cA 1, 10, .inr (.inl l28))), (oX10 w0 v0 v1 v2 v3 v4 g5 g6 (nI ed) g8 v9 (nI nb) g11 g12 v13 (nI ln) (nI (gP (((ti + 1 + 1) + 1) + 1))) (nI (gR ((((ti + 1 + 1) + 1) + 1) + 1))) zn56 zn57 zn58 g20 g21 0 (nI dd) (nI cd) zn62 zn61 v27 v28 v29 v30 v31 v32 v33 v34 v35 v36 v37 (nI ol)), (v9, .inl (cA 0, 700, .inl fb)), (v13, .inl (cA 1, 15, .inr (.inl fkw))), (v1, .inl (cA 0, 326, .inl fn63))] H := ⟨hP, hD⟩
            have hn72 := hn72 (hw.1.trans hr9)
            have hn73 := hn73 (hw.1.trans hr9)
            subst hr9
            refine lv_if_ne (tgt := 110) hx hb dX10_milestoneStatement_105 (by decide) (fun c77 => ?_) (fun c9 => absurd c9 (by decide))
            refine lv_aload_n hx hb dX10_milestoneStatement_110 rfl (lv_at hl 3 rfl) ?_
            refine lv_iconst (v := 5) hx hb dX10_milestoneStatement_111 (by decide) ?_
            obtain ⟨hPc, hDc, hFc⟩ := PDq.cut (wc := [(oX10 w0 v0 v1 v2 v3 v4 g5 g6 (nI ed) g8 v9 (nI nb) g11 g12 v13 (nI ln) (nI (gP (((ti + 1 + 1) + 1) + 1))) (nI (gR ((((ti + 1 + 1) + 1) + 1) + 1))) zn56 zn57 zn58 g20 g21 0 (nI dd) (nI cd) zn62 zn61 v27 v28 v29 v30 v31 v32 v33 v34 v35 v36 v37 (nI ol))]) hP hD hS hA [4] (by decide) rfl
            refine va_calli (va_runV (As := [.int 5]) (rest := []) ⟨hx, hb, hml, hown, hts⟩ (y_kw5 l D cA sa w0 ed nb ol v0 v1 v2 v3 v4 v9 v13 v27 v28 v29 v30 v31 v32 v33 v34 v35 v36 v37 g8 g11 g12 zn58 g20 g21 0 (nI dd) zn61 g5 g6 zn62 ln cd zn56 zn57 (((ti + 1 + 1) + 1) + 1) ct fb gP gR gS gK gV H.size hln hct hn64 hTX hBY hn67) (cwV 1 hts gX10_milestoneStatement_X10_isKeyword rfl rfl rfl (by decide +kernel) ⟨(Nat.le_of_ble_eq_true rfl), (Nat.le_of_ble_eq_true rfl)⟩) ⟨Wd.blind, va_recv hK hPc (ci := 11) (q0 := 0) rfl rfl, fun U hU hW => ⟨rfl, Wd.call hPc hDc hK hC hZ hS hFc U hU hW⟩⟩ rfl rfl hl.1 rfl (lv_room (Nat.le_of_ble_eq_true rfl)) dX10_milestoneStatement_112 ⟨(Nat.le_of_ble_eq_true rfl), (Nat.le_of_ble_eq_true rfl)⟩) hS (fun q _ h => hFc q h) hFc (fun rn78 u t H1 locs ht hvm hw hB hz1 hk1 hS => ?_)
            obtain ⟨hP1, hD1⟩ := hB
            rw [ht] at hP1
            obtain ⟨hP, hD⟩ := PDq.join (w := [(v30, .inl (cA 1, 8, .inr (.inl l30))), (v32, .inl (cA 0, 400, .inl fc)), (v34, .inl (cA 0, 11, .inl fq)), (v28, .inl (cA 1, 10, .inr (.inl l28))), (v9, .inl (cA 0, 700, .inl fb)), (v13, .inl (cA 1, 15, .inr (.inl fkw))), (v1, .inl (cA 0, 326, .inl fn63)), (oX10 w0 v0 v1 v2 v3 v4 g5 g6 (nI ed) g8 v9 (nI nb) g11 g12 v13 (nI ln) (nI (gP (((ti + 1 + 1) + 1) + 1))) (nI (gR ((((ti + 1 + 1) + 1) + 1) + 1))) zn56 zn57 zn58 g20 g21 0 (nI dd) (nI cd) zn62 zn61 v27 v28 v29 v30 v31 v32 v33 v34 v35 v36 v37 (nI ol))]) 7 hP hD [4] [0, 1, 2, 3, 5, 6, 7] rfl rfl (by decide) (by decide) hk1 hFc hP1 hD1 rfl
            generalize H1 = H at hP hS ⊢
            rcases hw with ⟨hr9, hn79⟩ | ⟨hr9, hn79⟩
            · skip
              subst hr9
              refine lv_if_ne (tgt := 124) hx hb dX10_milestoneStatement_115 (by decide) (fun c80 => ?_) (fun c9 => absurd c9 (by decide))
              refine lv_aload_n hx hb dX10_milestoneStatement_124 rfl (lv_at hl 3 rfl) ?_
              have hn81 := TX.go2 hTX (show ((ti + 1 + 1) + 1) + 1 < ct by omega) (by rw [hn79]; decide)
              have hn81a := TX.le hTX (show ((ti + 1 + 1) + 1) + 1 < ct by omega)
              have hn81b := TX.le hTX hn81.1
              obtain ⟨hPc, hDc, hFc⟩ := PDq.cut (wc := [(oX10 w0 v0 v1 v2 v3 v4 g5 g6 (nI ed) g8 v9 (nI nb) g11 g12 v13 (nI ln) (nI (gP (((ti + 1 + 1) + 1) + 1))) (nI (gR ((((ti + 1 + 1) + 1) + 1) + 1))) zn56 zn57 zn58 g20 g21 0 (nI dd) (nI cd) zn62 zn61 v27 v28 v29 v30 v31 v32 v33 v34 v35 v36 v37 (nI ol)), (v9, .inl (cA 0, 700, .inl fb)), (v13, .inl (cA 1, 15, .inr (.inl fkw)))]) hP hD hS hA [7, 4, 5] (by decide) rfl
              refine va_calli (va_runV (As := []) (rest := []) ⟨hx, hb, hml, hown, hts⟩ (y_advance l D cA sa w0 ed nb ol v0 v1 v2 v3 v4 v9 v13 v27 v28 v29 v30 v31 v32 v33 v34 v35 v36 v37 g8 g11 g12 (nI (gP (((ti + 1 + 1) + 1) + 1))) zn56 zn57 zn58 g20 g21 0 (nI dd) (nI cd) zn61 g5 g6 zn62 ln (gR ((((ti + 1 + 1) + 1) + 1) + 1)) fb fkw (gP (((ti + 1 + 1) + 1) + 1 + 1)) (gR ((((ti + 1 + 1) + 1) + 1 + 1) + 1)) (gK (((ti + 1 + 1) + 1) + 1 + 1)) (gV (((ti + 1 + 1) + 1) + 1 + 1)) H.size hln (by omega) hKW hBY (TX.t hTX hn81.1)) (cwV 0 hts gX10_milestoneStatement_X10_advance rfl rfl rfl (by decide +kernel) ⟨(Nat.le_of_ble_eq_true rfl), (Nat.le_of_ble_eq_true rfl)⟩) ⟨Wd.blind, va_recv hK hPc (ci := 11) (q0 := 0) rfl rfl, fun U hU hW => ⟨rfl, Wd.call hPc hDc hK hC hZ hS hFc U hU hW⟩⟩ rfl rfl hl.1 rfl (lv_room (Nat.le_of_ble_eq_true rfl)) dX10_milestoneStatement_125 ⟨(Nat.le_of_ble_eq_true rfl), (Nat.le_of_ble_eq_true rfl)⟩) hS (fun q _ h => hFc q h) hFc (fun rn82 u t H1 locs ht hvm hw hB hz1 hk1 hS => ?_)
              obtain ⟨zn83, zn84, zn85, zn86, hn87, hP1, hD1⟩ := hB
              rw [ht] at hP1
              obtain ⟨hP, hD⟩ := PDq.join (w := [(v30, .inl (cA 1, 8, .inr (.inl l30))), (v32, .inl (cA 0, 400, .inl fc)), (v34, .inl (cA 0, 11, .inl fq)), (v28, .inl (cA 1, 10, .inr (.inl l28))), (v1, .inl (cA 0, 326, .inl fn63)), (oX10 w0 v0 v1 v2 v3 v4 g5 g6 (nI ed) g8 v9 (nI nb) g11 g12 v13 (nI ln) (nI (gP (((ti + 1 + 1) + 1) + 1 + 1))) (nI (gR ((((ti + 1 + 1) + 1) + 1 + 1) + 1))) zn83 zn84 zn85 g20 g21 0 (nI dd) (nI cd) zn86 zn61 v27 v28 v29 v30 v31 v32 v33 v34 v35 v36 v37 (nI ol)), (v9, .inl (cA 0, 700, .inl fb)), (v13, .inl (cA 1, 15, .inr (.inl fkw)))]) 5 hP hD [7, 4, 5] [0, 1, 2, 3, 6] rfl rfl (by decide) (by decide) hk1 hFc hP1 hD1 rfl
              generalize H1 = H at hP hS ⊢
              obtain rfl : rn82 = 1 := hw
              refine lv_pop hx hb dX10_milestoneStatement_128 rfl ?_
              refine lv_aload_n hx hb dX10_milestoneStatement_129 rfl (lv_at hl 3 rfl) ?_
              refine va_get (D := D) (ci := 11) (v := .ref v34) (C := RX10) (T := TX10) (N := 39) hx hb hts inX10 hown hK hP 5 rfl rfl 34 (by decide) (hts (.fieldLink RX10 57 "EscrowDeskModel" "fromRead" "[I") (by decide +kernel)) (fun _ h9 => h9) rfl dX10_milestoneStatement_130 ?_
              refine lv_iload_n hx hb dX10_milestoneStatement_133 rfl (lv_at hl 2 rfl) ?_
              refine lv_aload_n hx hb dX10_milestoneStatement_134 rfl (lv_at hl 3 rfl) ?_
              refine va_get (D := D) (ci := 11) (v := .int (nI cd)) (C := RX10) (T := TX10) (N := 39) hx hb hts inX10 hown hK hP 5 rfl rfl 24 (by decide) (hts (.fieldLink RX10 167 "EscrowDeskModel" "codes" "I") (by decide +kernel)) (fun _ h9 => h9) rfl dX10_milestoneStatement_135 ?_
              refine va_iast hx hb hK hP hD hS 2 0 rfl rfl (vp_in_nI (n := cn) (N := 11) (show cn < 11 by omega) (by decide)) dX10_milestoneStatement_138 (fun H locs hP hD hS => ?_)
              obtain ⟨hP, hD⟩ : PDq D A [(v30, .inl (cA 1, 8, .inr (.inl l30))), (v32, .inl (cA 0, 400, .inl fc)), (v34, .inl (cA 0, 11, .inl (upd fq (((nI cn)).toNatClampNeg) (nI cd)))), (v28, .inl (cA 1, 10, .inr (.inl l28))), (v1, .inl (cA 0, 326, .inl fn63)), (oX10 w0 v0 v1 v2 v3 v4 g5 g6 (nI ed) g8 v9 (nI nb) g11 g12 v13 (nI ln) (nI (gP (((ti + 1 + 1) + 1) + 1 + 1))) (nI (gR ((((ti + 1 + 1) + 1) + 1 + 1) + 1))) zn83 zn84 zn85 g20 g21 0 (nI dd) (nI cd) zn86 zn61 v27 v28 v29 v30 v31 v32 v33 v34 v35 v36 v37 (nI ol)), (v9, .inl (cA 0, 700, .inl fb)), (v13, .inl (cA 1, 15, .inr (.inl fkw)))] H := ⟨hP, hD⟩
              have hn89 : CR cn cd fc (upd fq (((nI cn)).toNatClampNeg) (nI cd)) := (CR.from hCR (by omega))
              have hn90 : Elem cn cd (upd fq (((nI cn)).toNatClampNeg) (nI cd)) := (by rw [nI_clamp (by omega)]; exact pk_us)
              generalize (upd fq (((nI cn)).toNatClampNeg) (nI cd)) = fn88 at hP hD hn89 hn90
              obtain ⟨hP, hD⟩ : PDq D A [(v30, .inl (cA 1, 8, .inr (.inl l30))), (v32, .inl (cA 0, 400, .inl fc)), (v34, .inl (cA 0, 11, .inl fn88)), (v28, .inl (cA 1, 10, .inr (.inl l28))), (v1, .inl (cA 0, 326, .inl fn63)), (oX10 w0 v0 v1 v2 v3 v4 g5 g6 (nI ed) g8 v9 (nI nb) g11 g12 v13 (nI ln) (nI (gP (((ti + 1 + 1) + 1) + 1 + 1))) (nI (gR ((((ti + 1 + 1) + 1) + 1 + 1) + 1))) zn83 zn84 zn85 g20 g21 0 (nI dd) (nI cd) zn86 zn61 v27 v28 v29 v30 v31 v32 v33 v34 v35 v36 v37 (nI ol)), (v9, .inl (cA 0, 700, .inl fb)), (v13, .inl (cA 1, 15, .inr (.inl fkw)))] H := ⟨hP, hD⟩
              refine lv_aload_n hx hb dX10_milestoneStatement_139 rfl (lv_at hl 3 rfl) ?_
              obtain ⟨hPc, hDc, hFc⟩ := PDq.cut (wc := [(oX10 w0 v0 v1 v2 v3 v4 g5 g6 (nI ed) g8 v9 (nI nb) g11 g12 v13 (nI ln) (nI (gP (((ti + 1 + 1) + 1) + 1 + 1))) (nI (gR ((((ti + 1 + 1) + 1) + 1 + 1) + 1))) zn83 zn84 zn85 g20 g21 0 (nI dd) (nI cd) zn86 zn61 v27 v28 v29 v30 v31 v32 v33 v34 v35 v36 v37 (nI ol)), (v1, .inl (cA 0, 326, .inl fn63)), (v9, .inl (cA 0, 700, .inl fb)), (v13, .inl (cA 1, 15, .inr (.inl fkw))), (v28, .inl (cA 1, 10, .inr (.inl l28))), (v30, .inl (cA 1, 8, .inr (.inl l30))), (v32, .inl (cA 0, 400, .inl fc))]) hP hD hS hA [5, 4, 6, 7, 3, 0, 1] (by decide) rfl
              refine va_calli (va_runV (As := []) (rest := []) ⟨hx, hb, hml, hown, hts⟩ (y_condition_0 l D cA sa w0 ed nb ol v0 v1 v2 v3 v4 v9 v13 v27 v28 v29 v30 v31 v32 v33 v34 v35 v36 v37 g8 g11 g12 zn85 g20 g21 (nI dd) zn61 g5 g6 zn86 ln cd zn83 zn84 (((ti + 1 + 1) + 1) + 1 + 1) ct fb fkw gP gR gS gK gV cn pq en dy fn63 0 l28 l30 fc ml pl H.size hln hct hn81.1 hTX hBY hn87 hKW hcn hpq hen hdy hn68 (by omega) hNM hNP) (cwV 0 hts gX10_milestoneStatement_X10_condition rfl rfl rfl (by decide +kernel) ⟨(Nat.le_of_ble_eq_true rfl), (Nat.le_of_ble_eq_true rfl)⟩) ⟨Wd.blind, va_recv hK hPc (ci := 11) (q0 := 0) rfl rfl, fun U hU hW => ⟨rfl, Wd.call hPc hDc hK hC hZ hS hFc U hU hW⟩⟩ rfl rfl hl.1 rfl (lv_room (Nat.le_of_ble_eq_true rfl)) dX10_milestoneStatement_140 ⟨(Nat.le_of_ble_eq_true rfl), (Nat.le_of_ble_eq_true rfl)⟩) hS (fun q _ h => hFc q h) hFc (fun rn91 u t H1 locs ht hvm hw hB hz1 hk1 hS => ?_)
              obtain ⟨qn92, zn93, zn94, zn95, zn96, zn97, zn98, zn99, qn100, qn101, zn102, fn103, fn104, fn105, zn106, hn107, hn108, hn109, hn110, hn111, hn112, hn113, hn114, hn115, hn116, hn117, hn118, hn119, hn120, hn121, hn122, hn123, hP1, hD1⟩ := hB
              rw [ht] at hP1
              obtain ⟨hP, hD⟩ := PDq.join (w := [(v34, .inl (cA 0, 11, .inl fn88)), (oX10 w0 v0 v1 v2 v3 v4 g5 g6 (nI ed) g8 v9 (nI nb) g11 g12 v13 (nI ln) (nI (gP qn92)) (nI (gR (qn92 + 1))) zn93 zn94 zn95 zn96 zn97 zn102 (nI dd) (nI qn100) zn99 zn98 v27 v28 v29 v30 v31 v32 v33 v34 v35 v36 v37 (nI ol)), (v1, .inl (cA 0, 326, .inl fn103)), (v9, .inl (cA 0, 700, .inl fb)), (v13, .inl (cA 1, 15, .inr (.inl fkw))), (v28, .inl (cA 1, 10, .inr (.inl l28))), (v30, .inl (cA 1, 8, .inr (.inl fn105))), (v32, .inl (cA 0, 400, .inl fn104))]) 1 hP hD [5, 4, 6, 7, 3, 0, 1] [2] rfl rfl (by decide) (by decide) hk1 hFc hP1 hD1 rfl
              generalize H1 = H at hP hS ⊢
              rcases hw.2 with hr9 | hr9
              · skip
                have hn123 := hn123 (hw.1.trans hr9)
                subst hr9
                refine lv_if_ne (tgt := 148) hx hb dX10_milestoneStatement_143 (by decide) (fun c9 => absurd c9 (by decide)) (fun c124 => ?_)
                refine lv_iconst (v := 0) hx hb dX10_milestoneStatement_146 (by decide) ?_
                obtain ⟨hP9, hD9⟩ := PDq.sub (ws' := [(oX10 w0 v0 v1 v2 v3 v4 g5 g6 (nI ed) g8 v9 (nI nb) g11 g12 v13 (nI ln) (nI (gP qn92)) (nI (gR (qn92 + 1))) zn93 zn94 zn95 zn96 zn97 zn102 (nI dd) (nI qn100) zn99 zn98 v27 v28 v29 v30 v31 v32 v33 v34 v35 v36 v37 (nI ol)), (v1, .inl (cA 0, 326, .inl fn103)), (v9, .inl (cA 0, 700, .inl fb)), (v13, .inl (cA 1, 15, .inr (.inl fkw))), (v28, .inl (cA 1, 10, .inr (.inl l28))), (v30, .inl (cA 1, 8, .inr (.inl fn105))), (v32, .inl (cA 0, 400, .inl fn104)), (v34, .inl (cA 0, 11, .inl fn88))]) hP hD [1, 2, 3, 4, 5, 6, 7, 0] (by decide) rfl
                refine W.widen (k := 0) (n := 0) (Nat.le_of_ble_eq_true rfl) (Nat.le_of_ble_eq_true rfl) ?_
                exact (W.zret (v := 0) hx hb hr (by first | rfl | decide) (fun t ht hW => ⟨⟨0, 0, rfl, ⟨rfl, by decide⟩, qn92, zn93, zn94, zn95, zn96, zn97, zn98, zn99, zn102, qn100, cn, qn101, en, dd, fn103, fn104, fn88, fn105, l28, ml, zn106, hn107, hn108, (by omega), hn110, hcn, hn111, hen, hdd, hn112, hNM, hn113, (fun h9 => absurd h9 (by decide)), (fun h9 => absurd h9 (by decide)), (fun h9 => absurd h9 (by decide)), (fun h9 => absurd h9 (by decide)), (fun h9 => absurd h9 (by decide)), (fun h9 => absurd h9 (by decide)), (fun h9 => absurd h9 (by decide)), (fun _ => (S_milC hk (fun q9 => absurd (hNM.1.symm.trans q9) (by omega)) hn12 hn15 hn48 hn73 hn79 hn123)), by rw [ht]; exact hP9, hD9⟩, hS.F ht⟩) hS.2.2 dX10_milestoneStatement_147)
              · skip
                have hn114 := hn114 (hw.1.trans hr9)
                subst hn114
                obtain ⟨hP, hD⟩ : PDq D A [(v34, .inl (cA 0, 11, .inl fn88)), (oX10 w0 v0 v1 v2 v3 v4 g5 g6 (nI ed) g8 v9 (nI nb) g11 g12 v13 (nI ln) (nI (gP qn92)) (nI (gR (qn92 + 1))) zn93 zn94 zn95 zn96 zn97 0 (nI dd) (nI qn100) zn99 zn98 v27 v28 v29 v30 v31 v32 v33 v34 v35 v36 v37 (nI ol)), (v1, .inl (cA 0, 326, .inl fn103)), (v9, .inl (cA 0, 700, .inl fb)), (v13, .inl (cA 1, 15, .inr (.inl fkw))), (v28, .inl (cA 1, 10, .inr (.inl l28))), (v30, .inl (cA 1, 8, .inr (.inl fn105))), (v32, .inl (cA 0, 400, .inl fn104))] H := ⟨hP, hD⟩
                have hn115 := hn115 (hw.1.trans hr9)
                obtain rfl : g20 = zn96 := hn115.symm
                obtain ⟨hP, hD⟩ : PDq D A [(v34, .inl (cA 0, 11, .inl fn88)), (oX10 w0 v0 v1 v2 v3 v4 g5 g6 (nI ed) g8 v9 (nI nb) g11 g12 v13 (nI ln) (nI (gP qn92)) (nI (gR (qn92 + 1))) zn93 zn94 zn95 g20 zn97 0 (nI dd) (nI qn100) zn99 zn98 v27 v28 v29 v30 v31 v32 v33 v34 v35 v36 v37 (nI ol)), (v1, .inl (cA 0, 326, .inl fn103)), (v9, .inl (cA 0, 700, .inl fb)), (v13, .inl (cA 1, 15, .inr (.inl fkw))), (v28, .inl (cA 1, 10, .inr (.inl l28))), (v30, .inl (cA 1, 8, .inr (.inl fn105))), (v32, .inl (cA 0, 400, .inl fn104))] H := ⟨hP, hD⟩
                have hn116 := hn116 (hw.1.trans hr9)
                obtain rfl : g21 = zn97 := hn116.symm
                obtain ⟨hP, hD⟩ : PDq D A [(v34, .inl (cA 0, 11, .inl fn88)), (oX10 w0 v0 v1 v2 v3 v4 g5 g6 (nI ed) g8 v9 (nI nb) g11 g12 v13 (nI ln) (nI (gP qn92)) (nI (gR (qn92 + 1))) zn93 zn94 zn95 g20 g21 0 (nI dd) (nI qn100) zn99 zn98 v27 v28 v29 v30 v31 v32 v33 v34 v35 v36 v37 (nI ol)), (v1, .inl (cA 0, 326, .inl fn103)), (v9, .inl (cA 0, 700, .inl fb)), (v13, .inl (cA 1, 15, .inr (.inl fkw))), (v28, .inl (cA 1, 10, .inr (.inl l28))), (v30, .inl (cA 1, 8, .inr (.inl fn105))), (v32, .inl (cA 0, 400, .inl fn104))] H := ⟨hP, hD⟩
                have hn117 := hn117 (hw.1.trans hr9)
                have hn118 := hn118 (hw.1.trans hr9)
                have hn119 := hn119 (hw.1.trans hr9)
                have hn120 := hn120 (hw.1.trans hr9)
                have hn121 := hn121 (hw.1.trans hr9)
                have hn122 := hn122 (hw.1.trans hr9)
                subst hr9
                refine lv_if_ne (tgt := 148) hx hb dX10_milestoneStatement_143 (by decide) (fun c125 => ?_) (fun c9 => absurd c9 (by decide))
                refine lv_aload_n hx hb dX10_milestoneStatement_148 rfl (lv_at hl 3 rfl) ?_
                refine va_get (D := D) (ci := 11) (v := .ref v34) (C := RX10) (T := TX10) (N := 39) hx hb hts inX10 hown hK hP 1 rfl rfl 34 (by decide) (hts (.fieldLink RX10 57 "EscrowDeskModel" "fromRead" "[I") (by decide +kernel)) (fun _ h9 => h9) rfl dX10_milestoneStatement_149 ?_
                refine lv_iload_n hx hb dX10_milestoneStatement_152 rfl (lv_at hl 2 rfl) ?_
                refine lv_iconst (v := 1) hx hb dX10_milestoneStatement_153 (by decide) ?_
                refine lv_iadd hx hb dX10_milestoneStatement_154 ?_
                refine lv_topi (fun yn126 eyn126 => ?_)
                obtain rfl : yn126 = (nI (cn + 1)) := eyn126.trans (nI_add cn 1)
                refine lv_aload_n hx hb dX10_milestoneStatement_155 rfl (lv_at hl 3 rfl) ?_
                refine va_get (D := D) (ci := 11) (v := .int (nI qn100)) (C := RX10) (T := TX10) (N := 39) hx hb hts inX10 hown hK hP 1 rfl rfl 24 (by decide) (hts (.fieldLink RX10 167 "EscrowDeskModel" "codes" "I") (by decide +kernel)) (fun _ h9 => h9) rfl dX10_milestoneStatement_156 ?_
                refine va_iast hx hb hK hP hD hS 0 0 rfl rfl (vp_in_nI (n := (cn + 1)) (N := 11) (show (cn + 1) < 11 by omega) (by decide)) dX10_milestoneStatement_159 (fun H locs hP hD hS => ?_)
                obtain ⟨hP, hD⟩ : PDq D A [(v34, .inl (cA 0, 11, .inl (upd fn88 (((nI (cn + 1))).toNatClampNeg) (nI qn100)))), (oX10 w0 v0 v1 v2 v3 v4 g5 g6 (nI ed) g8 v9 (nI nb) g11 g12 v13 (nI ln) (nI (gP qn92)) (nI (gR (qn92 + 1))) zn93 zn94 zn95 g20 g21 0 (nI dd) (nI qn100) zn99 zn98 v27 v28 v29 v30 v31 v32 v33 v34 v35 v36 v37 (nI ol)), (v1, .inl (cA 0, 326, .inl fn103)), (v9, .inl (cA 0, 700, .inl fb)), (v13, .inl (cA 1, 15, .inr (.inl fkw))), (v28, .inl (cA 1, 10, .inr (.inl l28))), (v30, .inl (cA 1, 8, .inr (.inl fn105))), (v32, .inl (cA 0, 400, .inl fn104))] H := ⟨hP, hD⟩
                have hn128 : CR (cn + 1) qn100 fn104 (upd fn88 (((nI (cn + 1))).toNatClampNeg) (nI qn100)) := (CR.next hn89 hn90 hn120 (by omega) hn121 (by omega))
                generalize (upd fn88 (((nI (cn + 1))).toNatClampNeg) (nI qn100)) = fn127 at hP hD hn128
                obtain ⟨hP, hD⟩ : PDq D A [(v34, .inl (cA 0, 11, .inl fn127)), (oX10 w0 v0 v1 v2 v3 v4 g5 g6 (nI ed) g8 v9 (nI nb) g11 g12 v13 (nI ln) (nI (gP qn92)) (nI (gR (qn92 + 1))) zn93 zn94 zn95 g20 g21 0 (nI dd) (nI qn100) zn99 zn98 v27 v28 v29 v30 v31 v32 v33 v34 v35 v36 v37 (nI ol)), (v1, .inl (cA 0, 326, .inl fn103)), (v9, .inl (cA 0, 700, .inl fb)), (v13, .inl (cA 1, 15, .inr (.inl fkw))), (v28, .inl (cA 1, 10, .inr (.inl l28))), (v30, .inl (cA 1, 8, .inr (.inl fn105))), (v32, .inl (cA 0, 400, .inl fn104))] H := ⟨hP, hD⟩
                refine lv_aload_n hx hb dX10_milestoneStatement_160 rfl (lv_at hl 3 rfl) ?_
                refine va_get (D := D) (ci := 11) (v := .ref v28) (C := RX10) (T := TX10) (N := 39) hx hb hts inX10 hown hK hP 1 rfl rfl 28 (by decide) (hts (.fieldLink RX10 39 "EscrowDeskModel" "namesRead" "[J") (by decide +kernel)) (fun _ h9 => h9) rfl dX10_milestoneStatement_161 ?_
                refine lv_iload_n hx hb dX10_milestoneStatement_164 rfl (lv_at hl 2 rfl) ?_
                refine lv_lload_n hx hb dX10_milestoneStatement_165 rfl (lv_at hl 1 rfl) ?_
                refine va_last hx hb hK hP hD hS 5 1 rfl rfl (vp_in_nI (n := cn) (N := 10) (show cn < 10 by omega) (by decide)) dX10_milestoneStatement_166 (fun H locs hP hD hS => ?_)
                obtain ⟨hP, hD⟩ : PDq D A [(v34, .inl (cA 0, 11, .inl fn127)), (oX10 w0 v0 v1 v2 v3 v4 g5 g6 (nI ed) g8 v9 (nI nb) g11 g12 v13 (nI ln) (nI (gP qn92)) (nI (gR (qn92 + 1))) zn93 zn94 zn95 g20 g21 0 (nI dd) (nI qn100) zn99 zn98 v27 v28 v29 v30 v31 v32 v33 v34 v35 v36 v37 (nI ol)), (v1, .inl (cA 0, 326, .inl fn103)), (v9, .inl (cA 0, 700, .inl fb)), (v13, .inl (cA 1, 15, .inr (.inl fkw))), (v28, .inl (cA 1, 10, .inr (.inl (vp_updL l28 (((nI cn)).toNatClampNeg) (gV (ti + 1)))))), (v30, .inl (cA 1, 8, .inr (.inl fn105))), (v32, .inl (cA 0, 400, .inl fn104))] H := ⟨hP, hD⟩
                have hn130 : NL (ml ++ [(gV (ti + 1))]) (cn + 1) (vp_updL l28 (((nI cn)).toNatClampNeg) (gV (ti + 1))) := (by rw [nI_clamp (by omega)]; exact NL.put hNM _)
                generalize (vp_updL l28 (((nI cn)).toNatClampNeg) (gV (ti + 1))) = fn129 at hP hD hn130
                obtain ⟨hP, hD⟩ : PDq D A [(v34, .inl (cA 0, 11, .inl fn127)), (oX10 w0 v0 v1 v2 v3 v4 g5 g6 (nI ed) g8 v9 (nI nb) g11 g12 v13 (nI ln) (nI (gP qn92)) (nI (gR (qn92 + 1))) zn93 zn94 zn95 g20 g21 0 (nI dd) (nI qn100) zn99 zn98 v27 v28 v29 v30 v31 v32 v33 v34 v35 v36 v37 (nI ol)), (v1, .inl (cA 0, 326, .inl fn103)), (v9, .inl (cA 0, 700, .inl fb)), (v13, .inl (cA 1, 15, .inr (.inl fkw))), (v28, .inl (cA 1, 10, .inr (.inl fn129))), (v30, .inl (cA 1, 8, .inr (.inl fn105))), (v32, .inl (cA 0, 400, .inl fn104))] H := ⟨hP, hD⟩
                refine lv_aload_n hx hb dX10_milestoneStatement_167 rfl (lv_at hl 3 rfl) ?_
                refine va_get (D := D) (ci := 11) (v := .ref v1) (C := RX10) (T := TX10) (N := 39) hx hb hts inX10 hown hK hP 1 rfl rfl 1 (by decide) (hts (.fieldLink RX10 13 "EscrowDeskModel" "parsed" "[I") (by decide +kernel)) (fun _ h9 => h9) rfl dX10_milestoneStatement_168 ?_
                refine lv_iload hx hb dX10_milestoneStatement_171 (lv_at hl 0 rfl) ?_
                refine lv_iconst (v := 4) hx hb dX10_milestoneStatement_173 (by decide) ?_
                refine lv_iadd hx hb dX10_milestoneStatement_174 ?_
                refine lv_topi (fun yn131 eyn131 => ?_)
                obtain rfl : yn131 = (nI ((16 + (7 * cn)) + 4)) := eyn131.trans (nI_add (16 + (7 * cn)) 4)
                refine lv_iconst (v := (-1)) hx hb dX10_milestoneStatement_175 (by decide) ?_
                refine va_iast hx hb hK hP hD hS 2 0 rfl rfl (vp_in_nI (n := ((16 + (7 * cn)) + 4)) (N := 326) (show ((16 + (7 * cn)) + 4) < 326 by omega) (by decide)) dX10_milestoneStatement_176 (fun H locs hP hD hS => ?_)
                obtain ⟨hP, hD⟩ : PDq D A [(v34, .inl (cA 0, 11, .inl fn127)), (oX10 w0 v0 v1 v2 v3 v4 g5 g6 (nI ed) g8 v9 (nI nb) g11 g12 v13 (nI ln) (nI (gP qn92)) (nI (gR (qn92 + 1))) zn93 zn94 zn95 g20 g21 0 (nI dd) (nI qn100) zn99 zn98 v27 v28 v29 v30 v31 v32 v33 v34 v35 v36 v37 (nI ol)), (v1, .inl (cA 0, 326, .inl (upd fn103 (((nI ((16 + (7 * cn)) + 4))).toNatClampNeg) (-1)))), (v9, .inl (cA 0, 700, .inl fb)), (v13, .inl (cA 1, 15, .inr (.inl fkw))), (v28, .inl (cA 1, 10, .inr (.inl fn129))), (v30, .inl (cA 1, 8, .inr (.inl fn105))), (v32, .inl (cA 0, 400, .inl fn104))] H := ⟨hP, hD⟩
                have hn133 : RI cn qn101 en dy (upd fn103 (((nI ((16 + (7 * cn)) + 4))).toNatClampNeg) (-1)) := RI.putI hn112 ((16 + (7 * cn)) + 4) (-1) (by omega) (by omega)
                generalize (upd fn103 (((nI ((16 + (7 * cn)) + 4))).toNatClampNeg) (-1)) = fn132 at hP hD hn133
                obtain ⟨hP, hD⟩ : PDq D A [(v34, .inl (cA 0, 11, .inl fn127)), (oX10 w0 v0 v1 v2 v3 v4 g5 g6 (nI ed) g8 v9 (nI nb) g11 g12 v13 (nI ln) (nI (gP qn92)) (nI (gR (qn92 + 1))) zn93 zn94 zn95 g20 g21 0 (nI dd) (nI qn100) zn99 zn98 v27 v28 v29 v30 v31 v32 v33 v34 v35 v36 v37 (nI ol)), (v1, .inl (cA 0, 326, .inl fn132)), (v9, .inl (cA 0, 700, .inl fb)), (v13, .inl (cA 1, 15, .inr (.inl fkw))), (v28, .inl (cA 1, 10, .inr (.inl fn129))), (v30, .inl (cA 1, 8, .inr (.inl fn105))), (v32, .inl (cA 0, 400, .inl fn104))] H := ⟨hP, hD⟩
                refine lv_aload_n hx hb dX10_milestoneStatement_177 rfl (lv_at hl 3 rfl) ?_
                refine va_get (D := D) (ci := 11) (v := .ref v1) (C := RX10) (T := TX10) (N := 39) hx hb hts inX10 hown hK hP 1 rfl rfl 1 (by decide) (hts (.fieldLink RX10 13 "EscrowDeskModel" "parsed" "[I") (by decide +kernel)) (fun _ h9 => h9) rfl dX10_milestoneStatement_178 ?_
                refine lv_bipush (v := 13) hx hb dX10_milestoneStatement_181 (by decide) ?_
                refine lv_dup2_11 hx hb dX10_milestoneStatement_183 rfl rfl ?_
                refine va_iald hx hb hK hP 2 0 rfl rfl (vp_in_iff.mpr (by decide)) dX10_milestoneStatement_184 ?_
                refine lv_topi (fun yn134 eyn134 => ?_)
                obtain rfl : yn134 = (nI cn) := eyn134.trans hn133.1
                refine lv_iconst (v := 1) hx hb dX10_milestoneStatement_185 (by decide) ?_
                refine lv_iadd hx hb dX10_milestoneStatement_186 ?_
                refine lv_topi (fun yn135 eyn135 => ?_)
                obtain rfl : yn135 = (nI (cn + 1)) := eyn135.trans (nI_add cn 1)
                refine va_iast hx hb hK hP hD hS 2 0 rfl rfl (vp_in_iff.mpr (by decide)) dX10_milestoneStatement_187 (fun H locs hP hD hS => ?_)
                obtain ⟨hP, hD⟩ : PDq D A [(v34, .inl (cA 0, 11, .inl fn127)), (oX10 w0 v0 v1 v2 v3 v4 g5 g6 (nI ed) g8 v9 (nI nb) g11 g12 v13 (nI ln) (nI (gP qn92)) (nI (gR (qn92 + 1))) zn93 zn94 zn95 g20 g21 0 (nI dd) (nI qn100) zn99 zn98 v27 v28 v29 v30 v31 v32 v33 v34 v35 v36 v37 (nI ol)), (v1, .inl (cA 0, 326, .inl (upd fn132 13 (nI (cn + 1))))), (v9, .inl (cA 0, 700, .inl fb)), (v13, .inl (cA 1, 15, .inr (.inl fkw))), (v28, .inl (cA 1, 10, .inr (.inl fn129))), (v30, .inl (cA 1, 8, .inr (.inl fn105))), (v32, .inl (cA 0, 400, .inl fn104))] H := ⟨hP, hD⟩
                have hn137 : RI (cn + 1) qn101 en dy (upd fn132 13 (nI (cn + 1))) := RI.cnt hn133 (cn + 1)
                generalize (upd fn132 13 (nI (cn + 1))) = fn136 at hP hD hn137
                obtain ⟨hP, hD⟩ : PDq D A [(v34, .inl (cA 0, 11, .inl fn127)), (oX10 w0 v0 v1 v2 v3 v4 g5 g6 (nI ed) g8 v9 (nI nb) g11 g12 v13 (nI ln) (nI (gP qn92)) (nI (gR (qn92 + 1))) zn93 zn94 zn95 g20 g21 0 (nI dd) (nI qn100) zn99 zn98 v27 v28 v29 v30 v31 v32 v33 v34 v35 v36 v37 (nI ol)), (v1, .inl (cA 0, 326, .inl fn136)), (v9, .inl (cA 0, 700, .inl fb)), (v13, .inl (cA 1, 15, .inr (.inl fkw))), (v28, .inl (cA 1, 10, .inr (.inl fn129))), (v30, .inl (cA 1, 8, .inr (.inl fn105))), (v32, .inl (cA 0, 400, .inl fn104))] H := ⟨hP, hD⟩
                refine lv_iconst (v := 1) hx hb dX10_milestoneStatement_188 (by decide) ?_
                obtain ⟨hP9, hD9⟩ := PDq.sub (ws' := [(oX10 w0 v0 v1 v2 v3 v4 g5 g6 (nI ed) g8 v9 (nI nb) g11 g12 v13 (nI ln) (nI (gP qn92)) (nI (gR (qn92 + 1))) zn93 zn94 zn95 g20 g21 0 (nI dd) (nI qn100) zn99 zn98 v27 v28 v29 v30 v31 v32 v33 v34 v35 v36 v37 (nI ol)), (v1, .inl (cA 0, 326, .inl fn136)), (v9, .inl (cA 0, 700, .inl fb)), (v13, .inl (cA 1, 15, .inr (.inl fkw))), (v28, .inl (cA 1, 10, .inr (.inl fn129))), (v30, .inl (cA 1, 8, .inr (.inl fn105))), (v32, .inl (cA 0, 400, .inl fn104)), (v34, .inl (cA 0, 11, .inl fn127))]) hP hD [1, 2, 3, 4, 5, 6, 7, 0] (by decide) rfl
                refine W.widen (k := 0) (n := 0) (Nat.le_of_ble_eq_true rfl) (Nat.le_of_ble_eq_true rfl) ?_
                exact (W.zret (v := 1) hx hb hr (by first | rfl | decide) (fun t ht hW => ⟨⟨1, 1, rfl, ⟨rfl, by decide⟩, qn92, zn93, zn94, zn95, g20, g21, zn98, zn99, 0, qn100, (cn + 1), qn101, en, dd, fn136, fn104, fn127, fn105, fn129, (ml ++ [(gV (ti + 1))]), zn106, hn107, hn108, (by omega), hn110, (by omega), hn111, hen, hdd, hn137, hn130, hn113, (fun _ => rfl), (fun _ => rfl), (fun _ => rfl), (fun _ => (by omega)), (fun _ => (by omega)), (fun _ => hn128), (fun _ => (S_mil hk (fun q9 => absurd (hNM.1.symm.trans q9) (by omega)) hn12 hn15 hn48 hn73 hn79 hn122)), (fun h9 => absurd h9 (by decide)), by rw [ht]; exact hP9, hD9⟩, hS.F ht⟩) hS.2.2 dX10_milestoneStatement_189)
            · skip
              subst hr9
              refine lv_if_ne (tgt := 124) hx hb dX10_milestoneStatement_115 (by decide) (fun c9 => absurd c9 (by decide)) (fun c138 => ?_)
              refine lv_aload_n hx hb dX10_milestoneStatement_118 rfl (lv_at hl 3 rfl) ?_
              refine lv_iconst (v := 2) hx hb dX10_milestoneStatement_119 (by decide) ?_
              obtain ⟨hPc, hDc, hFc⟩ := PDq.cut (wc := [(oX10 w0 v0 v1 v2 v3 v4 g5 g6 (nI ed) g8 v9 (nI nb) g11 g12 v13 (nI ln) (nI (gP (((ti + 1 + 1) + 1) + 1))) (nI (gR ((((ti + 1 + 1) + 1) + 1) + 1))) zn56 zn57 zn58 g20 g21 0 (nI dd) (nI cd) zn62 zn61 v27 v28 v29 v30 v31 v32 v33 v34 v35 v36 v37 (nI ol))]) hP hD hS hA [7] (by decide) rfl
              refine va_calli (va_runV (As := [.int 2]) (rest := []) ⟨hx, hb, hml, hown, hts⟩ (y_fail l D cA sa w0 ed nb ol v0 v1 v2 v3 v4 v9 v13 v27 v28 v29 v30 v31 v32 v33 v34 v35 v36 v37 g8 g11 g12 zn58 g20 g21 0 (nI dd) zn61 g5 g6 zn62 ln cd zn56 zn57 (((ti + 1 + 1) + 1) + 1) ct fb gP gR gS gK gV 2 H.size hln hct hn64 hTX hBY hn67) (cwV 1 hts gX10_milestoneStatement_X10_fail rfl rfl rfl (by decide +kernel) ⟨(Nat.le_of_ble_eq_true rfl), (Nat.le_of_ble_eq_true rfl)⟩) ⟨Wd.blind, va_recv hK hPc (ci := 11) (q0 := 0) rfl rfl, fun U hU hW => ⟨rfl, Wd.call hPc hDc hK hC hZ hS hFc U hU hW⟩⟩ rfl rfl hl.1 rfl (lv_room (Nat.le_of_ble_eq_true rfl)) dX10_milestoneStatement_120 ⟨(Nat.le_of_ble_eq_true rfl), (Nat.le_of_ble_eq_true rfl)⟩) hS (fun q _ h => hFc q h) hFc (fun rn139 u t H1 locs ht hvm hw hB hz1 hk1 hS => ?_)
              obtain ⟨zn140, hn141, hP1, hD1⟩ := hB
              rw [ht] at hP1
              obtain ⟨hP, hD⟩ := PDq.join (w := [(v30, .inl (cA 1, 8, .inr (.inl l30))), (v32, .inl (cA 0, 400, .inl fc)), (v34, .inl (cA 0, 11, .inl fq)), (v28, .inl (cA 1, 10, .inr (.inl l28))), (v9, .inl (cA 0, 700, .inl fb)), (v13, .inl (cA 1, 15, .inr (.inl fkw))), (v1, .inl (cA 0, 326, .inl fn63)), (oX10 w0 v0 v1 v2 v3 v4 g5 g6 (nI ed) g8 v9 (nI nb) g11 g12 v13 (nI ln) (nI (gP (((ti + 1 + 1) + 1) + 1))) (nI (gR ((((ti + 1 + 1) + 1) + 1) + 1))) zn56 zn57 zn58 zn140 (nI (gP (((ti + 1 + 1) + 1) + 1))) 0 (nI dd) (nI cd) zn62 zn61 v27 v28 v29 v30 v31 v32 v33 v34 v35 v36 v37 (nI ol))]) 7 hP hD [7] [0, 1, 2, 3, 4, 5, 6] rfl rfl (by decide) (by decide) hk1 hFc hP1 hD1 rfl
              generalize H1 = H at hP hS ⊢
              obtain rfl : rn139 = 0 := hw
              obtain ⟨hP9, hD9⟩ := PDq.sub (ws' := [(oX10 w0 v0 v1 v2 v3 v4 g5 g6 (nI ed) g8 v9 (nI nb) g11 g12 v13 (nI ln) (nI (gP (((ti + 1 + 1) + 1) + 1))) (nI (gR ((((ti + 1 + 1) + 1) + 1) + 1))) zn56 zn57 zn58 zn140 (nI (gP (((ti + 1 + 1) + 1) + 1))) 0 (nI dd) (nI cd) zn62 zn61 v27 v28 v29 v30 v31 v32 v33 v34 v35 v36 v37 (nI ol)), (v1, .inl (cA 0, 326, .inl fn63)), (v9, .inl (cA 0, 700, .inl fb)), (v13, .inl (cA 1, 15, .inr (.inl fkw))), (v28, .inl (cA 1, 10, .inr (.inl l28))), (v30, .inl (cA 1, 8, .inr (.inl l30))), (v32, .inl (cA 0, 400, .inl fc)), (v34, .inl (cA 0, 11, .inl fq))]) hP hD [7, 6, 4, 5, 3, 0, 1, 2] (by decide) rfl
              refine W.widen (k := 0) (n := 0) (Nat.le_of_ble_eq_true rfl) (Nat.le_of_ble_eq_true rfl) ?_
              exact (W.zret (v := 0) hx hb hr (by first | rfl | decide) (fun t ht hW => ⟨⟨0, 0, rfl, ⟨rfl, by decide⟩, (((ti + 1 + 1) + 1) + 1), zn56, zn57, zn58, zn140, (nI (gP (((ti + 1 + 1) + 1) + 1))), zn61, zn62, 0, cd, cn, pq, en, dd, fn63, fc, fq, l30, l28, ml, pl, hn64, hn65, (by omega), hn67, hcn, hpq, hen, hdd, hn68, hNM, hNP, (fun h9 => absurd h9 (by decide)), (fun h9 => absurd h9 (by decide)), (fun h9 => absurd h9 (by decide)), (fun h9 => absurd h9 (by decide)), (fun h9 => absurd h9 (by decide)), (fun h9 => absurd h9 (by decide)), (fun h9 => absurd h9 (by decide)), (fun _ => (S_milWx hk (fun q9 => absurd (hNM.1.symm.trans q9) (by omega)) hn12 hn15 hn48 hn73 hn79 hn141 (TX.s hTX (show ((ti + 1 + 1) + 1) + 1 < ct by omega)))), by rw [ht]; exact hP9, hD9⟩, hS.F ht⟩) hS.2.2 dX10_milestoneStatement_123)
      · skip
        subst hr9
        have hn15 := NL.mem hNM hn17 hn15
        refine lv_iconst (v := (-1)) hx hb dX10_milestoneStatement_50 (by decide) ?_
        refine lv_icmp_eq (tgt := 60) hx hb dX10_milestoneStatement_51 (by decide) (fun c9 => absurd c9 (nI_neg (n := kn16) (by omega) (by decide))) (fun c142 => ?_)
        refine lv_aload_n hx hb dX10_milestoneStatement_54 rfl (lv_at hl 1 rfl) ?_
        refine lv_iconst (v := 4) hx hb dX10_milestoneStatement_55 (by decide) ?_
        obtain ⟨hPc, hDc, hFc⟩ := PDq.cut (wc := [(oX10 w0 v0 v1 v2 v3 v4 g5 g6 (nI ed) g8 v9 (nI nb) g11 g12 v13 (nI ln) (nI (gP (ti + 1))) (nI (gR ((ti + 1) + 1))) zn6 zn7 zn8 g20 g21 0 (nI dd) (nI cd) (gV (ti + 1)) g26 v27 v28 v29 v30 v31 v32 v33 v34 v35 v36 v37 (nI ol))]) hP hD hS hA [6] (by decide) rfl
        refine va_calli (va_runV (As := [.int 4]) (rest := []) ⟨hx, hb, hml, hown, hts⟩ (y_fail l D cA sa w0 ed nb ol v0 v1 v2 v3 v4 v9 v13 v27 v28 v29 v30 v31 v32 v33 v34 v35 v36 v37 g8 g11 g12 zn8 g20 g21 0 (nI dd) g26 g5 g6 (gV (ti + 1)) ln cd zn6 zn7 (ti + 1) ct fb gP gR gS gK gV 4 H.size hln hct hn4.1 hTX hBY hn10) (cwV 1 hts gX10_milestoneStatement_X10_fail rfl rfl rfl (by decide +kernel) ⟨(Nat.le_of_ble_eq_true rfl), (Nat.le_of_ble_eq_true rfl)⟩) ⟨Wd.blind, va_recv hK hPc (ci := 11) (q0 := 0) rfl rfl, fun U hU hW => ⟨rfl, Wd.call hPc hDc hK hC hZ hS hFc U hU hW⟩⟩ rfl rfl hl.1 rfl (lv_room (Nat.le_of_ble_eq_true rfl)) dX10_milestoneStatement_56 ⟨(Nat.le_of_ble_eq_true rfl), (Nat.le_of_ble_eq_true rfl)⟩) hS (fun q _ h => hFc q h) hFc (fun rn143 u t H1 locs ht hvm hw hB hz1 hk1 hS => ?_)
        obtain ⟨zn144, hn145, hP1, hD1⟩ := hB
        rw [ht] at hP1
        obtain ⟨hP, hD⟩ := PDq.join (w := [(v1, .inl (cA 0, 326, .inl fp)), (v30, .inl (cA 1, 8, .inr (.inl l30))), (v32, .inl (cA 0, 400, .inl fc)), (v34, .inl (cA 0, 11, .inl fq)), (v9, .inl (cA 0, 700, .inl fb)), (v13, .inl (cA 1, 15, .inr (.inl fkw))), (v28, .inl (cA 1, 10, .inr (.inl l28))), (oX10 w0 v0 v1 v2 v3 v4 g5 g6 (nI ed) g8 v9 (nI nb) g11 g12 v13 (nI ln) (nI (gP (ti + 1))) (nI (gR ((ti + 1) + 1))) zn6 zn7 zn8 zn144 (nI (gP (ti + 1))) 0 (nI dd) (nI cd) (gV (ti + 1)) g26 v27 v28 v29 v30 v31 v32 v33 v34 v35 v36 v37 (nI ol))]) 7 hP hD [6] [0, 1, 2, 3, 4, 5, 7] rfl rfl (by decide) (by decide) hk1 hFc hP1 hD1 rfl
        generalize H1 = H at hP hS ⊢
        obtain rfl : rn143 = 0 := hw
        obtain ⟨hP9, hD9⟩ := PDq.sub (ws' := [(oX10 w0 v0 v1 v2 v3 v4 g5 g6 (nI ed) g8 v9 (nI nb) g11 g12 v13 (nI ln) (nI (gP (ti + 1))) (nI (gR ((ti + 1) + 1))) zn6 zn7 zn8 zn144 (nI (gP (ti + 1))) 0 (nI dd) (nI cd) (gV (ti + 1)) g26 v27 v28 v29 v30 v31 v32 v33 v34 v35 v36 v37 (nI ol)), (v1, .inl (cA 0, 326, .inl fp)), (v9, .inl (cA 0, 700, .inl fb)), (v13, .inl (cA 1, 15, .inr (.inl fkw))), (v28, .inl (cA 1, 10, .inr (.inl l28))), (v30, .inl (cA 1, 8, .inr (.inl l30))), (v32, .inl (cA 0, 400, .inl fc)), (v34, .inl (cA 0, 11, .inl fq))]) hP hD [7, 0, 4, 5, 6, 1, 2, 3] (by decide) rfl
        refine W.widen (k := 0) (n := 0) (Nat.le_of_ble_eq_true rfl) (Nat.le_of_ble_eq_true rfl) ?_
        exact (W.zret (v := 0) hx hb hr (by first | rfl | decide) (fun t ht hW => ⟨⟨0, 0, rfl, ⟨rfl, by decide⟩, (ti + 1), zn6, zn7, zn8, zn144, (nI (gP (ti + 1))), g26, (gV (ti + 1)), 0, cd, cn, pq, en, dd, fp, fc, fq, l30, l28, ml, pl, hn4.1, (by omega), (by omega), hn10, hcn, hpq, hen, hdd, hri, hNM, hNP, (fun h9 => absurd h9 (by decide)), (fun h9 => absurd h9 (by decide)), (fun h9 => absurd h9 (by decide)), (fun h9 => absurd h9 (by decide)), (fun h9 => absurd h9 (by decide)), (fun h9 => absurd h9 (by decide)), (fun h9 => absurd h9 (by decide)), (fun _ => (S_milDx hk (fun q9 => absurd (hNM.1.symm.trans q9) (by omega)) hn12 hn15 hn145 (TX.s hTX (show ti + 1 < ct by omega)))), by rw [ht]; exact hP9, hD9⟩, hS.F ht⟩) hS.2.2 dX10_milestoneStatement_59)
    · skip
      subst hr9
      refine lv_if_ne (tgt := 38) hx hb dX10_milestoneStatement_29 (by decide) (fun c9 => absurd c9 (by decide)) (fun c146 => ?_)
      refine lv_aload_n hx hb dX10_milestoneStatement_32 rfl (lv_at hl 1 rfl) ?_
      refine lv_iconst (v := 2) hx hb dX10_milestoneStatement_33 (by decide) ?_
      obtain ⟨hPc, hDc, hFc⟩ := PDq.cut (wc := [(oX10 w0 v0 v1 v2 v3 v4 g5 g6 (nI ed) g8 v9 (nI nb) g11 g12 v13 (nI ln) (nI (gP (ti + 1))) (nI (gR ((ti + 1) + 1))) zn6 zn7 zn8 g20 g21 0 (nI dd) (nI cd) zn9 g26 v27 v28 v29 v30 v31 v32 v33 v34 v35 v36 v37 (nI ol))]) hP hD hS hA [7] (by decide) rfl
      refine va_calli (va_runV (As := [.int 2]) (rest := []) ⟨hx, hb, hml, hown, hts⟩ (y_fail l D cA sa w0 ed nb ol v0 v1 v2 v3 v4 v9 v13 v27 v28 v29 v30 v31 v32 v33 v34 v35 v36 v37 g8 g11 g12 zn8 g20 g21 0 (nI dd) g26 g5 g6 zn9 ln cd zn6 zn7 (ti + 1) ct fb gP gR gS gK gV 2 H.size hln hct hn4.1 hTX hBY hn10) (cwV 1 hts gX10_milestoneStatement_X10_fail rfl rfl rfl (by decide +kernel) ⟨(Nat.le_of_ble_eq_true rfl), (Nat.le_of_ble_eq_true rfl)⟩) ⟨Wd.blind, va_recv hK hPc (ci := 11) (q0 := 0) rfl rfl, fun U hU hW => ⟨rfl, Wd.call hPc hDc hK hC hZ hS hFc U hU hW⟩⟩ rfl rfl hl.1 rfl (lv_room (Nat.le_of_ble_eq_true rfl)) dX10_milestoneStatement_34 ⟨(Nat.le_of_ble_eq_true rfl), (Nat.le_of_ble_eq_true rfl)⟩) hS (fun q _ h => hFc q h) hFc (fun rn147 u t H1 locs ht hvm hw hB hz1 hk1 hS => ?_)
      obtain ⟨zn148, hn149, hP1, hD1⟩ := hB
      rw [ht] at hP1
      obtain ⟨hP, hD⟩ := PDq.join (w := [(v1, .inl (cA 0, 326, .inl fp)), (v28, .inl (cA 1, 10, .inr (.inl l28))), (v30, .inl (cA 1, 8, .inr (.inl l30))), (v32, .inl (cA 0, 400, .inl fc)), (v34, .inl (cA 0, 11, .inl fq)), (v9, .inl (cA 0, 700, .inl fb)), (v13, .inl (cA 1, 15, .inr (.inl fkw))), (oX10 w0 v0 v1 v2 v3 v4 g5 g6 (nI ed) g8 v9 (nI nb) g11 g12 v13 (nI ln) (nI (gP (ti + 1))) (nI (gR ((ti + 1) + 1))) zn6 zn7 zn8 zn148 (nI (gP (ti + 1))) 0 (nI dd) (nI cd) zn9 g26 v27 v28 v29 v30 v31 v32 v33 v34 v35 v36 v37 (nI ol))]) 7 hP hD [7] [0, 1, 2, 3, 4, 5, 6] rfl rfl (by decide) (by decide) hk1 hFc hP1 hD1 rfl
      generalize H1 = H at hP hS ⊢
      obtain rfl : rn147 = 0 := hw
      obtain ⟨hP9, hD9⟩ := PDq.sub (ws' := [(oX10 w0 v0 v1 v2 v3 v4 g5 g6 (nI ed) g8 v9 (nI nb) g11 g12 v13 (nI ln) (nI (gP (ti + 1))) (nI (gR ((ti + 1) + 1))) zn6 zn7 zn8 zn148 (nI (gP (ti + 1))) 0 (nI dd) (nI cd) zn9 g26 v27 v28 v29 v30 v31 v32 v33 v34 v35 v36 v37 (nI ol)), (v1, .inl (cA 0, 326, .inl fp)), (v9, .inl (cA 0, 700, .inl fb)), (v13, .inl (cA 1, 15, .inr (.inl fkw))), (v28, .inl (cA 1, 10, .inr (.inl l28))), (v30, .inl (cA 1, 8, .inr (.inl l30))), (v32, .inl (cA 0, 400, .inl fc)), (v34, .inl (cA 0, 11, .inl fq))]) hP hD [7, 0, 5, 6, 1, 2, 3, 4] (by decide) rfl
      refine W.widen (k := 0) (n := 0) (Nat.le_of_ble_eq_true rfl) (Nat.le_of_ble_eq_true rfl) ?_
      exact (W.zret (v := 0) hx hb hr (by first | rfl | decide) (fun t ht hW => ⟨⟨0, 0, rfl, ⟨rfl, by decide⟩, (ti + 1), zn6, zn7, zn8, zn148, (nI (gP (ti + 1))), g26, zn9, 0, cd, cn, pq, en, dd, fp, fc, fq, l30, l28, ml, pl, hn4.1, (by omega), (by omega), hn10, hcn, hpq, hen, hdd, hri, hNM, hNP, (fun h9 => absurd h9 (by decide)), (fun h9 => absurd h9 (by decide)), (fun h9 => absurd h9 (by decide)), (fun h9 => absurd h9 (by decide)), (fun h9 => absurd h9 (by decide)), (fun h9 => absurd h9 (by decide)), (fun h9 => absurd h9 (by decide)), (fun _ => (S_milNx hk (fun q9 => absurd (hNM.1.symm.trans q9) (by omega)) hn12 hn149 (TX.s hTX (show ti + 1 < ct by omega)))), by rw [ht]; exact hP9, hD9⟩, hS.F ht⟩) hS.2.2 dX10_milestoneStatement_37)
  · skip
    have hn150 : cn = 10 := (nI_eq (a := cn) (b := 10) (by omega) (by omega)).mp c2
    rw [c2] at hl
    have hl : lv_has ls 5 [(1, .int 10), (0, .ref w0)] := hl
    refine lv_aload_n hx hb dX10_milestoneStatement_14 rfl (lv_at hl 1 rfl) ?_
    refine lv_iconst (v := 5) hx hb dX10_milestoneStatement_15 (by decide) ?_
    obtain ⟨hPc, hDc, hFc⟩ := PDq.cut (wc := [(oX10 w0 v0 v1 v2 v3 v4 g5 g6 (nI ed) g8 v9 (nI nb) g11 g12 v13 (nI ln) (nI (gP ti)) (nI (gR (ti + 1))) tk kw g19 g20 g21 0 (nI dd) (nI cd) g25 g26 v27 v28 v29 v30 v31 v32 v33 v34 v35 v36 v37 (nI ol))]) hP hD hS hA [0] (by decide) rfl
    refine va_calli (va_runV (As := [.int 5]) (rest := []) ⟨hx, hb, hml, hown, hts⟩ (y_fail l D cA sa w0 ed nb ol v0 v1 v2 v3 v4 v9 v13 v27 v28 v29 v30 v31 v32 v33 v34 v35 v36 v37 g8 g11 g12 g19 g20 g21 0 (nI dd) g26 g5 g6 g25 ln cd tk kw ti ct fb gP gR gS gK gV 5 s.heap.size hln hct hti hTX hBY hTK) (cwV 1 hts gX10_milestoneStatement_X10_fail rfl rfl rfl (by decide +kernel) ⟨(Nat.le_of_ble_eq_true rfl), (Nat.le_of_ble_eq_true rfl)⟩) ⟨Wd.blind, va_recv hK hPc (ci := 11) (q0 := 0) rfl rfl, fun U hU hW => ⟨rfl, Wd.call hPc hDc hK hC hZ hS hFc U hU hW⟩⟩ rfl rfl hl.1 rfl (lv_room (Nat.le_of_ble_eq_true rfl)) dX10_milestoneStatement_16 ⟨(Nat.le_of_ble_eq_true rfl), (Nat.le_of_ble_eq_true rfl)⟩) hS (fun q _ h => hFc q h) hFc (fun rn151 u t H1 locs ht hvm hw hB hz1 hk1 hS => ?_)
    obtain ⟨zn152, hn153, hP1, hD1⟩ := hB
    rw [ht] at hP1
    obtain ⟨hP, hD⟩ := PDq.join (w := [(v1, .inl (cA 0, 326, .inl fp)), (v9, .inl (cA 0, 700, .inl fb)), (v13, .inl (cA 1, 15, .inr (.inl fkw))), (v28, .inl (cA 1, 10, .inr (.inl l28))), (v30, .inl (cA 1, 8, .inr (.inl l30))), (v32, .inl (cA 0, 400, .inl fc)), (v34, .inl (cA 0, 11, .inl fq)), (oX10 w0 v0 v1 v2 v3 v4 g5 g6 (nI ed) g8 v9 (nI nb) g11 g12 v13 (nI ln) (nI (gP ti)) (nI (gR (ti + 1))) tk kw g19 zn152 (nI (gP ti)) 0 (nI dd) (nI cd) g25 g26 v27 v28 v29 v30 v31 v32 v33 v34 v35 v36 v37 (nI ol))]) 7 hP hD [0] [1, 2, 3, 4, 5, 6, 7] rfl rfl (by decide) (by decide) hk1 hFc hP1 hD1 rfl
    generalize H1 = H at hP hS ⊢
    obtain rfl : rn151 = 0 := hw
    obtain ⟨hP9, hD9⟩ := PDq.sub (ws' := [(oX10 w0 v0 v1 v2 v3 v4 g5 g6 (nI ed) g8 v9 (nI nb) g11 g12 v13 (nI ln) (nI (gP ti)) (nI (gR (ti + 1))) tk kw g19 zn152 (nI (gP ti)) 0 (nI dd) (nI cd) g25 g26 v27 v28 v29 v30 v31 v32 v33 v34 v35 v36 v37 (nI ol)), (v1, .inl (cA 0, 326, .inl fp)), (v9, .inl (cA 0, 700, .inl fb)), (v13, .inl (cA 1, 15, .inr (.inl fkw))), (v28, .inl (cA 1, 10, .inr (.inl l28))), (v30, .inl (cA 1, 8, .inr (.inl l30))), (v32, .inl (cA 0, 400, .inl fc)), (v34, .inl (cA 0, 11, .inl fq))]) hP hD [7, 0, 1, 2, 3, 4, 5, 6] (by decide) rfl
    refine W.widen (k := 0) (n := 0) (Nat.le_of_ble_eq_true rfl) (Nat.le_of_ble_eq_true rfl) ?_
    exact (W.zret (v := 0) hx hb hr (by first | rfl | decide) (fun t ht hW => ⟨⟨0, 0, rfl, ⟨rfl, by decide⟩, ti, tk, kw, g19, zn152, (nI (gP ti)), g26, g25, 0, cd, cn, pq, en, dd, fp, fc, fq, l30, l28, ml, pl, hti, (by omega), (by omega), hTK, hcn, hpq, hen, hdd, hri, hNM, hNP, (fun h9 => absurd h9 (by decide)), (fun h9 => absurd h9 (by decide)), (fun h9 => absurd h9 (by decide)), (fun h9 => absurd h9 (by decide)), (fun h9 => absurd h9 (by decide)), (fun h9 => absurd h9 (by decide)), (fun h9 => absurd h9 (by decide)), (fun _ => (S_milFx hk (hNM.1.trans (by omega)) hn153 (TX.s hTX (show ti < ct by omega)))), by rw [ht]; exact hP9, hD9⟩, hS.F ht⟩) hS.2.2 dX10_milestoneStatement_19)

set_option maxHeartbeats 4000000 in
set_option maxRecDepth 100000 in
/-- reference: statement -/
theorem y_statement (l : Launch) (D : va_G) (cA : Nat → ClassId) (sa : Nat → Nat) (w0 : Nat) (ed : Nat) (nb : Nat) (ol : Nat) (v0 : Nat) (v1 : Nat) (v2 : Nat) (v3 : Nat) (v4 : Nat) (v9 : Nat) (v13 : Nat) (v27 : Nat) (v28 : Nat) (v29 : Nat) (v30 : Nat) (v31 : Nat) (v32 : Nat) (v33 : Nat) (v34 : Nat) (v35 : Nat) (v36 : Nat) (v37 : Nat) (g8 : Int32) (g11 : Int32) (g12 : Int32) (g19 : Int32) (g20 : Int32) (g21 : Int32) (g26 : Int32) (g5 : Int64) (g6 : Int64) (g25 : Int64) (ln : Nat) (cd : Nat) (tk : Int32) (kw : Int32) (ti : Nat) (ct : Nat) (fb : Nat → Int32) (fkw : Nat → Int64) (gP : Nat → Nat) (gR : Nat → Nat) (gS : Nat → Int32) (gK : Nat → Int32) (gV : Nat → Int64) (cn : Nat) (pq : Nat) (en : Nat) (dy : Nat) (fp : Nat → Int32) (dd : Nat) (l28 : Nat → Int64) (l30 : Nat → Int64) (fc : Nat → Int32) (fq : Nat → Int32) (ml : List Int64) (pl : List Int64) (sz : Nat) (hln : ln ≤ 700) (hct : ct ≤ 701) (hti : ti < ct) (hTX : TX fb ln ct gP gR gS gV gK) (hBY : BYn ln fb) (hTK : TKR (gK ti) (gV ti) (fb (gP ti)) tk kw g19 g25) (hKW : KW 15 fkw) (hcn : cn ≤ 10) (hpq : pq ≤ 8) (hen : en ≤ 60) (hdy : dy ≤ 20000) (hri : RI cn pq en dy fp) (hcd : 2 * cd ≤ gP ti) (hCR : CR cn cd fc fq) (hdd : dd ≤ 6) (hNM : NL ml cn l28) (hNP : NL pl pq l30) : Met l yX10_statement wsX10_statement ({ frames := 57, cells := 0, slots := 0, locals := 1064 }) (va_Pc [.ref w0] (Wd D cA sa [(oX10 w0 v0 v1 v2 v3 v4 g5 g6 (nI ed) g8 v9 (nI nb) g11 g12 v13 (nI ln) (nI (gP ti)) (nI (gR (ti + 1))) tk kw g19 g20 g21 0 (nI dd) (nI cd) g25 g26 v27 v28 v29 v30 v31 v32 v33 v34 v35 v36 v37 (nI ol)), (v1, .inl (cA 0, 326, .inl fp)), (v9, .inl (cA 0, 700, .inl fb)), (v13, .inl (cA 1, 15, .inr (.inl fkw))), (v28, .inl (cA 1, 10, .inr (.inl l28))), (v30, .inl (cA 1, 8, .inr (.inl l30))), (v32, .inl (cA 0, 400, .inl fc)), (v34, .inl (cA 0, 11, .inl fq))] sz)) (va_Qi (fun (r : Int32) (u9 : Int32) => u9 = r ∧ (r = 0 ∨ r = 1)) (fun (u9 : Int32) t => ∃ tj : Nat, ∃ z17 : Int32, ∃ z18 : Int32, ∃ z19 : Int32, ∃ z20 : Int32, ∃ z21 : Int32, ∃ z26 : Int32, ∃ z25 : Int64, ∃ zop : Int32, ∃ cd2 : Nat, ∃ cn2 : Nat, ∃ pq2 : Nat, ∃ e2 : Nat, ∃ d2 : Nat, ∃ zp : Nat → Int32, ∃ zc : Nat → Int32, ∃ zq : Nat → Int32, ∃ zl : Nat → Int64, ∃ zl28 : Nat → Int64, ∃ zml : List Int64, ∃ zpl : List Int64, tj < ct ∧ gP tj ≤ ln ∧ ti ≤ tj ∧ TKR (gK tj) (gV tj) (fb (gP tj)) z17 z18 z19 z25 ∧ cn2 ≤ 10 ∧ pq2 ≤ 8 ∧ e2 ≤ 60 ∧ d2 ≤ 6 ∧ RI cn2 pq2 e2 dy zp ∧ NL zml cn2 zl28 ∧ NL zpl pq2 zl ∧ (u9 = 1 → zop = 0) ∧ (u9 = 1 → z20 = g20) ∧ (u9 = 1 → z21 = g21) ∧ (u9 = 1 → ti + 1 ≤ tj) ∧ (u9 = 1 → 2 * cd2 ≤ gP tj) ∧ (u9 = 1 → CR cn2 cd2 zc zq) ∧ (u9 = 1 → SRx gK gS gV ti dd ml pl (.inr (tj, d2, zml, zpl))) ∧ (u9 = 0 → SRx gK gS gV ti dd ml pl (.inl (z20, z21))) ∧ Wq D (va_A [(oX10 w0 v0 v1 v2 v3 v4 g5 g6 (nI ed) g8 v9 (nI nb) g11 g12 v13 (nI ln) (nI (gP ti)) (nI (gR (ti + 1))) tk kw g19 g20 g21 0 (nI dd) (nI cd) g25 g26 v27 v28 v29 v30 v31 v32 v33 v34 v35 v36 v37 (nI ol)), (v1, .inl (cA 0, 326, .inl fp)), (v9, .inl (cA 0, 700, .inl fb)), (v13, .inl (cA 1, 15, .inr (.inl fkw))), (v28, .inl (cA 1, 10, .inr (.inl l28))), (v30, .inl (cA 1, 8, .inr (.inl l30))), (v32, .inl (cA 0, 400, .inl fc)), (v34, .inl (cA 0, 11, .inl fq))] sz) [(oX10 w0 v0 v1 v2 v3 v4 g5 g6 (nI ed) g8 v9 (nI nb) g11 g12 v13 (nI ln) (nI (gP tj)) (nI (gR (tj + 1))) z17 z18 z19 z20 z21 zop (nI d2) (nI cd2) z25 z26 v27 v28 v29 v30 v31 v32 v33 v34 v35 v36 v37 (nI ol)), (v1, .inl (cA 0, 326, .inl zp)), (v9, .inl (cA 0, 700, .inl fb)), (v13, .inl (cA 1, 15, .inr (.inl fkw))), (v28, .inl (cA 1, 10, .inr (.inl zl28))), (v30, .inl (cA 1, 8, .inr (.inl zl))), (v32, .inl (cA 0, 400, .inl zc)), (v34, .inl (cA 0, 11, .inl zq))] t) (va_A [(oX10 w0 v0 v1 v2 v3 v4 g5 g6 (nI ed) g8 v9 (nI nb) g11 g12 v13 (nI ln) (nI (gP ti)) (nI (gR (ti + 1))) tk kw g19 g20 g21 0 (nI dd) (nI cd) g25 g26 v27 v28 v29 v30 v31 v32 v33 v34 v35 v36 v37 (nI ol)), (v1, .inl (cA 0, 326, .inl fp)), (v9, .inl (cA 0, 700, .inl fb)), (v13, .inl (cA 1, 15, .inr (.inl fkw))), (v28, .inl (cA 1, 10, .inr (.inl l28))), (v30, .inl (cA 1, 8, .inr (.inl l30))), (v32, .inl (cA 0, 400, .inl fc)), (v34, .inl (cA 0, 11, .inl fq))] sz)) 0 0 (va_A [(oX10 w0 v0 v1 v2 v3 v4 g5 g6 (nI ed) g8 v9 (nI nb) g11 g12 v13 (nI ln) (nI (gP ti)) (nI (gR (ti + 1))) tk kw g19 g20 g21 0 (nI dd) (nI cd) g25 g26 v27 v28 v29 v30 v31 v32 v33 v34 v35 v36 v37 (nI ol)), (v1, .inl (cA 0, 326, .inl fp)), (v9, .inl (cA 0, 700, .inl fb)), (v13, .inl (cA 1, 15, .inr (.inl fkw))), (v28, .inl (cA 1, 10, .inr (.inl l28))), (v30, .inl (cA 1, 8, .inr (.inl l30))), (v32, .inl (cA 0, 400, .inl fc)), (v34, .inl (cA 0, 11, .inl fq))] sz) := by
  refine Met.ofW (cc := cX10_statement) (maxL := 1) (ret := (some .boolean)) (by decide) rfl ?_
  intro p e s m args below meth c s₁ B hml hv
  obtain ⟨rfl, hsz, hP, hK, hD0, hC, hZ⟩ := hv
  have hx := B.exec
  have hb := B.bytes
  have hr := B.returns
  have hts := atoms_spec (ws := wsX10_statement) B.pre
  have hown : s.vm.findClass RX10 = some m.cls := findClass_of_methodNamed B.named
  have hlocks := B.notSynchronized
  subst hsz
  have hD := hD0.self (sz := s.heap.size)
  generalize hAe : va_A [(oX10 w0 v0 v1 v2 v3 v4 g5 g6 (nI ed) g8 v9 (nI nb) g11 g12 v13 (nI ln) (nI (gP ti)) (nI (gR (ti + 1))) tk kw g19 g20 g21 0 (nI dd) (nI cd) g25 g26 v27 v28 v29 v30 v31 v32 v33 v34 v35 v36 v37 (nI ol)), (v1, .inl (cA 0, 326, .inl fp)), (v9, .inl (cA 0, 700, .inl fb)), (v13, .inl (cA 1, 15, .inr (.inl fkw))), (v28, .inl (cA 1, 10, .inr (.inl l28))), (v30, .inl (cA 1, 8, .inr (.inl l30))), (v32, .inl (cA 0, 400, .inl fc)), (v34, .inl (cA 0, 11, .inl fq))] s.heap.size = A at hD hZ ⊢
  have hA : ∀ q : Nat, s.heap.size ≤ q → A q := fun q h => by rw [← hAe]; exact Or.inr h
  have hS : va_S A s.heap s.heap [] := va_S.rf
  have hP : va_P D vwCl [(oX10 w0 v0 v1 v2 v3 v4 g5 g6 (nI ed) g8 v9 (nI nb) g11 g12 v13 (nI ln) (nI (gP ti)) (nI (gR (ti + 1))) tk kw g19 g20 g21 0 (nI dd) (nI cd) g25 g26 v27 v28 v29 v30 v31 v32 v33 v34 v35 v36 v37 (nI ol)), (v1, .inl (cA 0, 326, .inl fp)), (v9, .inl (cA 0, 700, .inl fb)), (v13, .inl (cA 1, 15, .inr (.inl fkw))), (v28, .inl (cA 1, 10, .inr (.inl l28))), (v30, .inl (cA 1, 8, .inr (.inl l30))), (v32, .inl (cA 0, 400, .inl fc)), (v34, .inl (cA 0, 11, .inl fq))] s.heap := hP
  have hl := lv_entry ([.ref w0]) (n := 1) (Nat.le_of_ble_eq_true rfl)
  rw [lg_entry_eq]
  generalize (lg_sl ([.ref w0]) ++ List.replicate (1 - (lg_sl ([.ref w0])).length) Slot.unset).toArray = ls at hl ⊢
  have hl : lv_has ls 1 [(0, .ref w0)] := hl
  have inX10 : ∀ w ∈ u_ws RX10 TX10 39, w ∈ wsX10_statement := by decide +kernel
  have hle9 := TX.le hTX hti
  refine lv_aload_n hx hb dX10_statement_0 rfl (lv_at hl 0 rfl) ?_
  refine va_get (D := D) (ci := 11) (v := .int tk) (C := RX10) (T := TX10) (N := 39) hx hb hts inX10 hown hK hP 0 rfl rfl 17 (by decide) (hts (.fieldLink RX10 126 "EscrowDeskModel" "token" "I") (by decide +kernel)) (fun _ h9 => h9) rfl dX10_statement_1 ?_
  refine lv_iconst (v := 2) hx hb dX10_statement_4 (by decide) ?_
  refine lv_icmp_eq (tgt := 14) hx hb dX10_statement_5 (by decide) (fun c1 => ?_) (fun c1 => ?_)
  · skip
    refine lv_aload_n hx hb dX10_statement_14 rfl (lv_at hl 0 rfl) ?_
    refine va_get (D := D) (ci := 11) (v := .int kw) (C := RX10) (T := TX10) (N := 39) hx hb hts inX10 hown hK hP 0 rfl rfl 18 (by decide) (hts (.fieldLink RX10 120 "EscrowDeskModel" "keyword" "I") (by decide +kernel)) (fun _ h9 => h9) rfl dX10_statement_15 ?_
    by_cases hn2 : kw = 0
    · skip
      refine W.eq (g2 := F0 m 18 ls [.int 0]) (by rw [hn2]) ?_
      refine lv_tableIn (off := 34) (tgt := 52) hx hb dX10_statement_18 (by decide) (by decide) (by decide) (by decide) ?_
      refine lv_aload_n hx hb dX10_statement_52 rfl (lv_at hl 0 rfl) ?_
      obtain ⟨hPc, hDc, hFc⟩ := PDq.cut (wc := [(oX10 w0 v0 v1 v2 v3 v4 g5 g6 (nI ed) g8 v9 (nI nb) g11 g12 v13 (nI ln) (nI (gP ti)) (nI (gR (ti + 1))) tk kw g19 g20 g21 0 (nI dd) (nI cd) g25 g26 v27 v28 v29 v30 v31 v32 v33 v34 v35 v36 v37 (nI ol)), (v9, .inl (cA 0, 700, .inl fb)), (v13, .inl (cA 1, 15, .inr (.inl fkw))), (v1, .inl (cA 0, 326, .inl fp))]) hP hD hS hA [0, 2, 3, 1] (by decide) rfl
      refine va_calli (va_runV (As := []) (rest := []) ⟨hx, hb, hml, hown, hts⟩ (y_rate l D cA sa w0 ed nb ol v0 v1 v2 v3 v4 v9 v13 v27 v28 v29 v30 v31 v32 v33 v34 v35 v36 v37 g8 g11 g12 g19 g20 g21 0 g26 g5 g6 g25 ln cd tk kw ti ct fb fkw gP gR gS gK gV cn pq en dy fp dd ml pl s.heap.size hln hct hti hTX hBY hTK hKW (TKR.kwd (n := 0) hTK (by decide) c1 hn2) hdd hcn hpq hen hdy hri) (cwV 0 hts gX10_statement_X10_rate rfl rfl rfl (by decide +kernel) ⟨(Nat.le_of_ble_eq_true rfl), (Nat.le_of_ble_eq_true rfl)⟩) ⟨Wd.blind, va_recv hK hPc (ci := 11) (q0 := 0) rfl rfl, fun U hU hW => ⟨rfl, Wd.call hPc hDc hK hC hZ hS hFc U hU hW⟩⟩ rfl rfl hl.1 rfl (lv_room (Nat.le_of_ble_eq_true rfl)) dX10_statement_53 ⟨(Nat.le_of_ble_eq_true rfl), (Nat.le_of_ble_eq_true rfl)⟩) hS (fun q _ h => hFc q h) hFc (fun rn3 u t H1 locs ht hvm hw hB hz1 hk1 hS => ?_)
      obtain ⟨qn4, zn5, zn6, zn7, zn8, zn9, zn10, zn11, fn12, hn13, hn14, hn15, hn16, hn17, hn18, hn19, hn20, hn21, hn22, hn23, hP1, hD1⟩ := hB
      rw [ht] at hP1
      obtain ⟨hP, hD⟩ := PDq.join (w := [(v28, .inl (cA 1, 10, .inr (.inl l28))), (v30, .inl (cA 1, 8, .inr (.inl l30))), (v32, .inl (cA 0, 400, .inl fc)), (v34, .inl (cA 0, 11, .inl fq)), (oX10 w0 v0 v1 v2 v3 v4 g5 g6 (nI ed) g8 v9 (nI nb) g11 g12 v13 (nI ln) (nI (gP qn4)) (nI (gR (qn4 + 1))) zn5 zn6 zn7 zn8 zn9 0 (nI dd) (nI cd) zn11 zn10 v27 v28 v29 v30 v31 v32 v33 v34 v35 v36 v37 (nI ol)), (v9, .inl (cA 0, 700, .inl fb)), (v13, .inl (cA 1, 15, .inr (.inl fkw))), (v1, .inl (cA 0, 326, .inl fn12))]) 4 hP hD [0, 2, 3, 1] [4, 5, 6, 7] rfl rfl (by decide) (by decide) hk1 hFc hP1 hD1 rfl
      generalize H1 = H at hP hS ⊢
      rcases hw.2 with hr9 | hr9
      · skip
        have hn23 := hn23 (hw.1.trans hr9)
        subst hr9
        obtain ⟨hP9, hD9⟩ := PDq.sub (ws' := [(oX10 w0 v0 v1 v2 v3 v4 g5 g6 (nI ed) g8 v9 (nI nb) g11 g12 v13 (nI ln) (nI (gP qn4)) (nI (gR (qn4 + 1))) zn5 zn6 zn7 zn8 zn9 0 (nI dd) (nI cd) zn11 zn10 v27 v28 v29 v30 v31 v32 v33 v34 v35 v36 v37 (nI ol)), (v1, .inl (cA 0, 326, .inl fn12)), (v9, .inl (cA 0, 700, .inl fb)), (v13, .inl (cA 1, 15, .inr (.inl fkw))), (v28, .inl (cA 1, 10, .inr (.inl l28))), (v30, .inl (cA 1, 8, .inr (.inl l30))), (v32, .inl (cA 0, 400, .inl fc)), (v34, .inl (cA 0, 11, .inl fq))]) hP hD [4, 7, 5, 6, 0, 1, 2, 3] (by decide) rfl
        refine W.widen (k := 0) (n := 0) (Nat.le_of_ble_eq_true rfl) (Nat.le_of_ble_eq_true rfl) ?_
        exact (W.zret (v := 0) hx hb hr (by first | rfl | decide) (fun t ht hW => ⟨⟨0, 0, rfl, ⟨rfl, by decide⟩, qn4, zn5, zn6, zn7, zn8, zn9, zn10, zn11, 0, cd, cn, pq, en, dd, fn12, fc, fq, l30, l28, ml, pl, hn13, hn14, hn15, hn16, hcn, hpq, hen, hdd, hn17, hNM, hNP, (fun h9 => absurd h9 (by decide)), (fun h9 => absurd h9 (by decide)), (fun h9 => absurd h9 (by decide)), (fun h9 => absurd h9 (by decide)), (fun h9 => absurd h9 (by decide)), (fun h9 => absurd h9 (by decide)), (fun h9 => absurd h9 (by decide)), (fun _ => hn23), by rw [ht]; exact hP9, hD9⟩, hS.F ht⟩) hS.2.2 dX10_statement_56)
      · skip
        have hn18 := hn18 (hw.1.trans hr9)
        obtain rfl : g20 = zn8 := hn18.symm
        obtain ⟨hP, hD⟩ : PDq D A [(v28, .inl (cA 1, 10, .inr (.inl l28))), (v30, .inl (cA 1, 8, .inr (.inl l30))), (v32, .inl (cA 0, 400, .inl fc)), (v34, .inl (cA 0, 11, .inl fq)), (oX10 w0 v0 v1 v2 v3 v4 g5 g6 (nI ed) g8 v9 (nI nb) g11 g12 v13 (nI ln) (nI (gP qn4)) (nI (gR (qn4 + 1))) zn5 zn6 zn7 g20 zn9 0 (nI dd) (nI cd) zn11 zn10 v27 v28 v29 v30 v31 v32 v33 v34 v35 v36 v37 (nI ol)), (v9, .inl (cA 0, 700, .inl fb)), (v13, .inl (cA 1, 15, .inr (.inl fkw))), (v1, .inl (cA 0, 326, .inl fn12))] H := ⟨hP, hD⟩
        have hn19 := hn19 (hw.1.trans hr9)
        obtain rfl : g21 = zn9 := hn19.symm
        obtain ⟨hP, hD⟩ : PDq D A [(v28, .inl (cA 1, 10, .inr (.inl l28))), (v30, .inl (cA 1, 8, .inr (.inl l30))), (v32, .inl (cA 0, 400, .inl fc)), (v34, .inl (cA 0, 11, .inl fq)), (oX10 w0 v0 v1 v2 v3 v4 g5 g6 (nI ed) g8 v9 (nI nb) g11 g12 v13 (nI ln) (nI (gP qn4)) (nI (gR (qn4 + 1))) zn5 zn6 zn7 g20 g21 0 (nI dd) (nI cd) zn11 zn10 v27 v28 v29 v30 v31 v32 v33 v34 v35 v36 v37 (nI ol)), (v9, .inl (cA 0, 700, .inl fb)), (v13, .inl (cA 1, 15, .inr (.inl fkw))), (v1, .inl (cA 0, 326, .inl fn12))] H := ⟨hP, hD⟩
        have hn20 := hn20 (hw.1.trans hr9)
        have hn21 := hn21 (hw.1.trans hr9)
        have hn22 := hn22 (hw.1.trans hr9)
        subst hr9
        obtain ⟨hP9, hD9⟩ := PDq.sub (ws' := [(oX10 w0 v0 v1 v2 v3 v4 g5 g6 (nI ed) g8 v9 (nI nb) g11 g12 v13 (nI ln) (nI (gP qn4)) (nI (gR (qn4 + 1))) zn5 zn6 zn7 g20 g21 0 (nI dd) (nI cd) zn11 zn10 v27 v28 v29 v30 v31 v32 v33 v34 v35 v36 v37 (nI ol)), (v1, .inl (cA 0, 326, .inl fn12)), (v9, .inl (cA 0, 700, .inl fb)), (v13, .inl (cA 1, 15, .inr (.inl fkw))), (v28, .inl (cA 1, 10, .inr (.inl l28))), (v30, .inl (cA 1, 8, .inr (.inl l30))), (v32, .inl (cA 0, 400, .inl fc)), (v34, .inl (cA 0, 11, .inl fq))]) hP hD [4, 7, 5, 6, 0, 1, 2, 3] (by decide) rfl
        refine W.widen (k := 0) (n := 0) (Nat.le_of_ble_eq_true rfl) (Nat.le_of_ble_eq_true rfl) ?_
        exact (W.zret (v := 1) hx hb hr (by first | rfl | decide) (fun t ht hW => ⟨⟨1, 1, rfl, ⟨rfl, by decide⟩, qn4, zn5, zn6, zn7, g20, g21, zn10, zn11, 0, cd, cn, pq, en, dd, fn12, fc, fq, l30, l28, ml, pl, hn13, hn14, hn15, hn16, hcn, hpq, hen, hdd, hn17, hNM, hNP, (fun _ => rfl), (fun _ => rfl), (fun _ => rfl), (fun _ => hn20), (fun _ => (by omega)), (fun _ => hCR), (fun _ => hn22), (fun h9 => absurd h9 (by decide)), by rw [ht]; exact hP9, hD9⟩, hS.F ht⟩) hS.2.2 dX10_statement_56)
    · skip
      by_cases hn24 : kw = 1
      · skip
        refine W.eq (g2 := F0 m 18 ls [.int 1]) (by rw [hn24]) ?_
        refine lv_tableIn (off := 39) (tgt := 57) hx hb dX10_statement_18 (by decide) (by decide) (by decide) (by decide) ?_
        refine lv_aload_n hx hb dX10_statement_57 rfl (lv_at hl 0 rfl) ?_
        refine lv_iconst (v := 2) hx hb dX10_statement_58 (by decide) ?_
        refine lv_sipush (v := 2000) hx hb dX10_statement_59 (by decide) ?_
        obtain ⟨hPc, hDc, hFc⟩ := PDq.cut (wc := [(oX10 w0 v0 v1 v2 v3 v4 g5 g6 (nI ed) g8 v9 (nI nb) g11 g12 v13 (nI ln) (nI (gP ti)) (nI (gR (ti + 1))) tk kw g19 g20 g21 0 (nI dd) (nI cd) g25 g26 v27 v28 v29 v30 v31 v32 v33 v34 v35 v36 v37 (nI ol)), (v9, .inl (cA 0, 700, .inl fb)), (v13, .inl (cA 1, 15, .inr (.inl fkw))), (v1, .inl (cA 0, 326, .inl fp))]) hP hD hS hA [0, 2, 3, 1] (by decide) rfl
        refine va_calli (va_runV (As := [.int 2, .int 2000]) (rest := []) ⟨hx, hb, hml, hown, hts⟩ (y_setting2 l D cA sa w0 ed nb ol v0 v1 v2 v3 v4 v9 v13 v27 v28 v29 v30 v31 v32 v33 v34 v35 v36 v37 g8 g11 g12 g19 g20 g21 0 g26 g5 g6 g25 ln cd tk kw ti ct fb fkw gP gR gS gK gV cn pq en dy fp dd ml pl s.heap.size hln hct hti hTX hBY hTK hKW (TKR.kwd (n := 1) hTK (by decide) c1 hn24) hdd hcn hpq hen hdy hri) (cwV 2 hts gX10_statement_X10_setting rfl rfl rfl (by decide +kernel) ⟨(Nat.le_of_ble_eq_true rfl), (Nat.le_of_ble_eq_true rfl)⟩) ⟨Wd.blind, va_recv hK hPc (ci := 11) (q0 := 0) rfl rfl, fun U hU hW => ⟨rfl, Wd.call hPc hDc hK hC hZ hS hFc U hU hW⟩⟩ rfl rfl hl.1 rfl (lv_room (Nat.le_of_ble_eq_true rfl)) dX10_statement_62 ⟨(Nat.le_of_ble_eq_true rfl), (Nat.le_of_ble_eq_true rfl)⟩) hS (fun q _ h => hFc q h) hFc (fun rn25 u t H1 locs ht hvm hw hB hz1 hk1 hS => ?_)
        obtain ⟨qn26, zn27, zn28, zn29, zn30, zn31, zn32, zn33, fn34, hn35, hn36, hn37, hn38, hn39, hn40, hn41, hn42, hn43, hn44, hn45, hP1, hD1⟩ := hB
        rw [ht] at hP1
        obtain ⟨hP, hD⟩ := PDq.join (w := [(v28, .inl (cA 1, 10, .inr (.inl l28))), (v30, .inl (cA 1, 8, .inr (.inl l30))), (v32, .inl (cA 0, 400, .inl fc)), (v34, .inl (cA 0, 11, .inl fq)), (oX10 w0 v0 v1 v2 v3 v4 g5 g6 (nI ed) g8 v9 (nI nb) g11 g12 v13 (nI ln) (nI (gP qn26)) (nI (gR (qn26 + 1))) zn27 zn28 zn29 zn30 zn31 0 (nI dd) (nI cd) zn33 zn32 v27 v28 v29 v30 v31 v32 v33 v34 v35 v36 v37 (nI ol)), (v9, .inl (cA 0, 700, .inl fb)), (v13, .inl (cA 1, 15, .inr (.inl fkw))), (v1, .inl (cA 0, 326, .inl fn34))]) 4 hP hD [0, 2, 3, 1] [4, 5, 6, 7] rfl rfl (by decide) (by decide) hk1 hFc hP1 hD1 rfl
        generalize H1 = H at hP hS ⊢
        rcases hw.2 with hr9 | hr9
        · skip
          have hn45 := hn45 (hw.1.trans hr9)
          subst hr9
          obtain ⟨hP9, hD9⟩ := PDq.sub (ws' := [(oX10 w0 v0 v1 v2 v3 v4 g5 g6 (nI ed) g8 v9 (nI nb) g11 g12 v13 (nI ln) (nI (gP qn26)) (nI (gR (qn26 + 1))) zn27 zn28 zn29 zn30 zn31 0 (nI dd) (nI cd) zn33 zn32 v27 v28 v29 v30 v31 v32 v33 v34 v35 v36 v37 (nI ol)), (v1, .inl (cA 0, 326, .inl fn34)), (v9, .inl (cA 0, 700, .inl fb)), (v13, .inl (cA 1, 15, .inr (.inl fkw))), (v28, .inl (cA 1, 10, .inr (.inl l28))), (v30, .inl (cA 1, 8, .inr (.inl l30))), (v32, .inl (cA 0, 400, .inl fc)), (v34, .inl (cA 0, 11, .inl fq))]) hP hD [4, 7, 5, 6, 0, 1, 2, 3] (by decide) rfl
          refine W.widen (k := 0) (n := 0) (Nat.le_of_ble_eq_true rfl) (Nat.le_of_ble_eq_true rfl) ?_
          exact (W.zret (v := 0) hx hb hr (by first | rfl | decide) (fun t ht hW => ⟨⟨0, 0, rfl, ⟨rfl, by decide⟩, qn26, zn27, zn28, zn29, zn30, zn31, zn32, zn33, 0, cd, cn, pq, en, dd, fn34, fc, fq, l30, l28, ml, pl, hn35, hn36, hn37, hn38, hcn, hpq, hen, hdd, hn39, hNM, hNP, (fun h9 => absurd h9 (by decide)), (fun h9 => absurd h9 (by decide)), (fun h9 => absurd h9 (by decide)), (fun h9 => absurd h9 (by decide)), (fun h9 => absurd h9 (by decide)), (fun h9 => absurd h9 (by decide)), (fun h9 => absurd h9 (by decide)), (fun _ => hn45), by rw [ht]; exact hP9, hD9⟩, hS.F ht⟩) hS.2.2 dX10_statement_65)
        · skip
          have hn40 := hn40 (hw.1.trans hr9)
          obtain rfl : g20 = zn30 := hn40.symm
          obtain ⟨hP, hD⟩ : PDq D A [(v28, .inl (cA 1, 10, .inr (.inl l28))), (v30, .inl (cA 1, 8, .inr (.inl l30))), (v32, .inl (cA 0, 400, .inl fc)), (v34, .inl (cA 0, 11, .inl fq)), (oX10 w0 v0 v1 v2 v3 v4 g5 g6 (nI ed) g8 v9 (nI nb) g11 g12 v13 (nI ln) (nI (gP qn26)) (nI (gR (qn26 + 1))) zn27 zn28 zn29 g20 zn31 0 (nI dd) (nI cd) zn33 zn32 v27 v28 v29 v30 v31 v32 v33 v34 v35 v36 v37 (nI ol)), (v9, .inl (cA 0, 700, .inl fb)), (v13, .inl (cA 1, 15, .inr (.inl fkw))), (v1, .inl (cA 0, 326, .inl fn34))] H := ⟨hP, hD⟩
          have hn41 := hn41 (hw.1.trans hr9)
          obtain rfl : g21 = zn31 := hn41.symm
          obtain ⟨hP, hD⟩ : PDq D A [(v28, .inl (cA 1, 10, .inr (.inl l28))), (v30, .inl (cA 1, 8, .inr (.inl l30))), (v32, .inl (cA 0, 400, .inl fc)), (v34, .inl (cA 0, 11, .inl fq)), (oX10 w0 v0 v1 v2 v3 v4 g5 g6 (nI ed) g8 v9 (nI nb) g11 g12 v13 (nI ln) (nI (gP qn26)) (nI (gR (qn26 + 1))) zn27 zn28 zn29 g20 g21 0 (nI dd) (nI cd) zn33 zn32 v27 v28 v29 v30 v31 v32 v33 v34 v35 v36 v37 (nI ol)), (v9, .inl (cA 0, 700, .inl fb)), (v13, .inl (cA 1, 15, .inr (.inl fkw))), (v1, .inl (cA 0, 326, .inl fn34))] H := ⟨hP, hD⟩
          have hn42 := hn42 (hw.1.trans hr9)
          have hn43 := hn43 (hw.1.trans hr9)
          have hn44 := hn44 (hw.1.trans hr9)
          subst hr9
          obtain ⟨hP9, hD9⟩ := PDq.sub (ws' := [(oX10 w0 v0 v1 v2 v3 v4 g5 g6 (nI ed) g8 v9 (nI nb) g11 g12 v13 (nI ln) (nI (gP qn26)) (nI (gR (qn26 + 1))) zn27 zn28 zn29 g20 g21 0 (nI dd) (nI cd) zn33 zn32 v27 v28 v29 v30 v31 v32 v33 v34 v35 v36 v37 (nI ol)), (v1, .inl (cA 0, 326, .inl fn34)), (v9, .inl (cA 0, 700, .inl fb)), (v13, .inl (cA 1, 15, .inr (.inl fkw))), (v28, .inl (cA 1, 10, .inr (.inl l28))), (v30, .inl (cA 1, 8, .inr (.inl l30))), (v32, .inl (cA 0, 400, .inl fc)), (v34, .inl (cA 0, 11, .inl fq))]) hP hD [4, 7, 5, 6, 0, 1, 2, 3] (by decide) rfl
          refine W.widen (k := 0) (n := 0) (Nat.le_of_ble_eq_true rfl) (Nat.le_of_ble_eq_true rfl) ?_
          exact (W.zret (v := 1) hx hb hr (by first | rfl | decide) (fun t ht hW => ⟨⟨1, 1, rfl, ⟨rfl, by decide⟩, qn26, zn27, zn28, zn29, g20, g21, zn32, zn33, 0, cd, cn, pq, en, dd, fn34, fc, fq, l30, l28, ml, pl, hn35, hn36, hn37, hn38, hcn, hpq, hen, hdd, hn39, hNM, hNP, (fun _ => rfl), (fun _ => rfl), (fun _ => rfl), (fun _ => hn42), (fun _ => (by omega)), (fun _ => hCR), (fun _ => hn44), (fun h9 => absurd h9 (by decide)), by rw [ht]; exact hP9, hD9⟩, hS.F ht⟩) hS.2.2 dX10_statement_65)
      · skip
        by_cases hn46 : kw = 2
        · skip
          refine W.eq (g2 := F0 m 18 ls [.int 2]) (by rw [hn46]) ?_
          refine lv_tableIn (off := 48) (tgt := 66) hx hb dX10_statement_18 (by decide) (by decide) (by decide) (by decide) ?_
          refine lv_aload_n hx hb dX10_statement_66 rfl (lv_at hl 0 rfl) ?_
          refine lv_iconst (v := 3) hx hb dX10_statement_67 (by decide) ?_
          refine lv_bipush (v := 60) hx hb dX10_statement_68 (by decide) ?_
          obtain ⟨hPc, hDc, hFc⟩ := PDq.cut (wc := [(oX10 w0 v0 v1 v2 v3 v4 g5 g6 (nI ed) g8 v9 (nI nb) g11 g12 v13 (nI ln) (nI (gP ti)) (nI (gR (ti + 1))) tk kw g19 g20 g21 0 (nI dd) (nI cd) g25 g26 v27 v28 v29 v30 v31 v32 v33 v34 v35 v36 v37 (nI ol)), (v9, .inl (cA 0, 700, .inl fb)), (v13, .inl (cA 1, 15, .inr (.inl fkw))), (v1, .inl (cA 0, 326, .inl fp))]) hP hD hS hA [0, 2, 3, 1] (by decide) rfl
          refine va_calli (va_runV (As := [.int 3, .int 60]) (rest := []) ⟨hx, hb, hml, hown, hts⟩ (y_setting3 l D cA sa w0 ed nb ol v0 v1 v2 v3 v4 v9 v13 v27 v28 v29 v30 v31 v32 v33 v34 v35 v36 v37 g8 g11 g12 g19 g20 g21 0 g26 g5 g6 g25 ln cd tk kw ti ct fb fkw gP gR gS gK gV cn pq en dy fp dd ml pl s.heap.size hln hct hti hTX hBY hTK hKW (TKR.kwd (n := 2) hTK (by decide) c1 hn46) hdd hcn hpq hen hdy hri) (cwV 2 hts gX10_statement_X10_setting rfl rfl rfl (by decide +kernel) ⟨(Nat.le_of_ble_eq_true rfl), (Nat.le_of_ble_eq_true rfl)⟩) ⟨Wd.blind, va_recv hK hPc (ci := 11) (q0 := 0) rfl rfl, fun U hU hW => ⟨rfl, Wd.call hPc hDc hK hC hZ hS hFc U hU hW⟩⟩ rfl rfl hl.1 rfl (lv_room (Nat.le_of_ble_eq_true rfl)) dX10_statement_70 ⟨(Nat.le_of_ble_eq_true rfl), (Nat.le_of_ble_eq_true rfl)⟩) hS (fun q _ h => hFc q h) hFc (fun rn47 u t H1 locs ht hvm hw hB hz1 hk1 hS => ?_)
          obtain ⟨qn48, zn49, zn50, zn51, zn52, zn53, zn54, zn55, fn56, hn57, hn58, hn59, hn60, hn61, hn62, hn63, hn64, hn65, hn66, hn67, hP1, hD1⟩ := hB
          rw [ht] at hP1
          obtain ⟨hP, hD⟩ := PDq.join (w := [(v28, .inl (cA 1, 10, .inr (.inl l28))), (v30, .inl (cA 1, 8, .inr (.inl l30))), (v32, .inl (cA 0, 400, .inl fc)), (v34, .inl (cA 0, 11, .inl fq)), (oX10 w0 v0 v1 v2 v3 v4 g5 g6 (nI ed) g8 v9 (nI nb) g11 g12 v13 (nI ln) (nI (gP qn48)) (nI (gR (qn48 + 1))) zn49 zn50 zn51 zn52 zn53 0 (nI dd) (nI cd) zn55 zn54 v27 v28 v29 v30 v31 v32 v33 v34 v35 v36 v37 (nI ol)), (v9, .inl (cA 0, 700, .inl fb)), (v13, .inl (cA 1, 15, .inr (.inl fkw))), (v1, .inl (cA 0, 326, .inl fn56))]) 4 hP hD [0, 2, 3, 1] [4, 5, 6, 7] rfl rfl (by decide) (by decide) hk1 hFc hP1 hD1 rfl
          generalize H1 = H at hP hS ⊢
          rcases hw.2 with hr9 | hr9
          · skip
            have hn67 := hn67 (hw.1.trans hr9)
            subst hr9
            obtain ⟨hP9, hD9⟩ := PDq.sub (ws' := [(oX10 w0 v0 v1 v2 v3 v4 g5 g6 (nI ed) g8 v9 (nI nb) g11 g12 v13 (nI ln) (nI (gP qn48)) (nI (gR (qn48 + 1))) zn49 zn50 zn51 zn52 zn53 0 (nI dd) (nI cd) zn55 zn54 v27 v28 v29 v30 v31 v32 v33 v34 v35 v36 v37 (nI ol)), (v1, .inl (cA 0, 326, .inl fn56)), (v9, .inl (cA 0, 700, .inl fb)), (v13, .inl (cA 1, 15, .inr (.inl fkw))), (v28, .inl (cA 1, 10, .inr (.inl l28))), (v30, .inl (cA 1, 8, .inr (.inl l30))), (v32, .inl (cA 0, 400, .inl fc)), (v34, .inl (cA 0, 11, .inl fq))]) hP hD [4, 7, 5, 6, 0, 1, 2, 3] (by decide) rfl
            refine W.widen (k := 0) (n := 0) (Nat.le_of_ble_eq_true rfl) (Nat.le_of_ble_eq_true rfl) ?_
            exact (W.zret (v := 0) hx hb hr (by first | rfl | decide) (fun t ht hW => ⟨⟨0, 0, rfl, ⟨rfl, by decide⟩, qn48, zn49, zn50, zn51, zn52, zn53, zn54, zn55, 0, cd, cn, pq, en, dd, fn56, fc, fq, l30, l28, ml, pl, hn57, hn58, hn59, hn60, hcn, hpq, hen, hdd, hn61, hNM, hNP, (fun h9 => absurd h9 (by decide)), (fun h9 => absurd h9 (by decide)), (fun h9 => absurd h9 (by decide)), (fun h9 => absurd h9 (by decide)), (fun h9 => absurd h9 (by decide)), (fun h9 => absurd h9 (by decide)), (fun h9 => absurd h9 (by decide)), (fun _ => hn67), by rw [ht]; exact hP9, hD9⟩, hS.F ht⟩) hS.2.2 dX10_statement_73)
          · skip
            have hn62 := hn62 (hw.1.trans hr9)
            obtain rfl : g20 = zn52 := hn62.symm
            obtain ⟨hP, hD⟩ : PDq D A [(v28, .inl (cA 1, 10, .inr (.inl l28))), (v30, .inl (cA 1, 8, .inr (.inl l30))), (v32, .inl (cA 0, 400, .inl fc)), (v34, .inl (cA 0, 11, .inl fq)), (oX10 w0 v0 v1 v2 v3 v4 g5 g6 (nI ed) g8 v9 (nI nb) g11 g12 v13 (nI ln) (nI (gP qn48)) (nI (gR (qn48 + 1))) zn49 zn50 zn51 g20 zn53 0 (nI dd) (nI cd) zn55 zn54 v27 v28 v29 v30 v31 v32 v33 v34 v35 v36 v37 (nI ol)), (v9, .inl (cA 0, 700, .inl fb)), (v13, .inl (cA 1, 15, .inr (.inl fkw))), (v1, .inl (cA 0, 326, .inl fn56))] H := ⟨hP, hD⟩
            have hn63 := hn63 (hw.1.trans hr9)
            obtain rfl : g21 = zn53 := hn63.symm
            obtain ⟨hP, hD⟩ : PDq D A [(v28, .inl (cA 1, 10, .inr (.inl l28))), (v30, .inl (cA 1, 8, .inr (.inl l30))), (v32, .inl (cA 0, 400, .inl fc)), (v34, .inl (cA 0, 11, .inl fq)), (oX10 w0 v0 v1 v2 v3 v4 g5 g6 (nI ed) g8 v9 (nI nb) g11 g12 v13 (nI ln) (nI (gP qn48)) (nI (gR (qn48 + 1))) zn49 zn50 zn51 g20 g21 0 (nI dd) (nI cd) zn55 zn54 v27 v28 v29 v30 v31 v32 v33 v34 v35 v36 v37 (nI ol)), (v9, .inl (cA 0, 700, .inl fb)), (v13, .inl (cA 1, 15, .inr (.inl fkw))), (v1, .inl (cA 0, 326, .inl fn56))] H := ⟨hP, hD⟩
            have hn64 := hn64 (hw.1.trans hr9)
            have hn65 := hn65 (hw.1.trans hr9)
            have hn66 := hn66 (hw.1.trans hr9)
            subst hr9
            obtain ⟨hP9, hD9⟩ := PDq.sub (ws' := [(oX10 w0 v0 v1 v2 v3 v4 g5 g6 (nI ed) g8 v9 (nI nb) g11 g12 v13 (nI ln) (nI (gP qn48)) (nI (gR (qn48 + 1))) zn49 zn50 zn51 g20 g21 0 (nI dd) (nI cd) zn55 zn54 v27 v28 v29 v30 v31 v32 v33 v34 v35 v36 v37 (nI ol)), (v1, .inl (cA 0, 326, .inl fn56)), (v9, .inl (cA 0, 700, .inl fb)), (v13, .inl (cA 1, 15, .inr (.inl fkw))), (v28, .inl (cA 1, 10, .inr (.inl l28))), (v30, .inl (cA 1, 8, .inr (.inl l30))), (v32, .inl (cA 0, 400, .inl fc)), (v34, .inl (cA 0, 11, .inl fq))]) hP hD [4, 7, 5, 6, 0, 1, 2, 3] (by decide) rfl
            refine W.widen (k := 0) (n := 0) (Nat.le_of_ble_eq_true rfl) (Nat.le_of_ble_eq_true rfl) ?_
            exact (W.zret (v := 1) hx hb hr (by first | rfl | decide) (fun t ht hW => ⟨⟨1, 1, rfl, ⟨rfl, by decide⟩, qn48, zn49, zn50, zn51, g20, g21, zn54, zn55, 0, cd, cn, pq, en, dd, fn56, fc, fq, l30, l28, ml, pl, hn57, hn58, hn59, hn60, hcn, hpq, hen, hdd, hn61, hNM, hNP, (fun _ => rfl), (fun _ => rfl), (fun _ => rfl), (fun _ => hn64), (fun _ => (by omega)), (fun _ => hCR), (fun _ => hn66), (fun h9 => absurd h9 (by decide)), by rw [ht]; exact hP9, hD9⟩, hS.F ht⟩) hS.2.2 dX10_statement_73)
        · skip
          by_cases hn68 : kw = 3
          · skip
            refine W.eq (g2 := F0 m 18 ls [.int 3]) (by rw [hn68]) ?_
            refine lv_tableIn (off := 56) (tgt := 74) hx hb dX10_statement_18 (by decide) (by decide) (by decide) (by decide) ?_
            refine lv_aload_n hx hb dX10_statement_74 rfl (lv_at hl 0 rfl) ?_
            obtain ⟨hPc, hDc, hFc⟩ := PDq.cut (wc := [(oX10 w0 v0 v1 v2 v3 v4 g5 g6 (nI ed) g8 v9 (nI nb) g11 g12 v13 (nI ln) (nI (gP ti)) (nI (gR (ti + 1))) tk kw g19 g20 g21 0 (nI dd) (nI cd) g25 g26 v27 v28 v29 v30 v31 v32 v33 v34 v35 v36 v37 (nI ol)), (v9, .inl (cA 0, 700, .inl fb)), (v13, .inl (cA 1, 15, .inr (.inl fkw))), (v1, .inl (cA 0, 326, .inl fp))]) hP hD hS hA [0, 2, 3, 1] (by decide) rfl
            refine va_calli (va_runV (As := []) (rest := []) ⟨hx, hb, hml, hown, hts⟩ (y_depositStatement l D cA sa w0 ed nb ol v0 v1 v2 v3 v4 v9 v13 v27 v28 v29 v30 v31 v32 v33 v34 v35 v36 v37 g8 g11 g12 g19 g20 g21 0 g26 g5 g6 g25 ln cd tk kw ti ct fb fkw gP gR gS gK gV cn pq en dy fp dd ml pl s.heap.size hln hct hti hTX hBY hTK hKW (TKR.kwd (n := 3) hTK (by decide) c1 hn68) hdd hcn hpq hen hdy hri) (cwV 0 hts gX10_statement_X10_depositStatement rfl rfl rfl (by decide +kernel) ⟨(Nat.le_of_ble_eq_true rfl), (Nat.le_of_ble_eq_true rfl)⟩) ⟨Wd.blind, va_recv hK hPc (ci := 11) (q0 := 0) rfl rfl, fun U hU hW => ⟨rfl, Wd.call hPc hDc hK hC hZ hS hFc U hU hW⟩⟩ rfl rfl hl.1 rfl (lv_room (Nat.le_of_ble_eq_true rfl)) dX10_statement_75 ⟨(Nat.le_of_ble_eq_true rfl), (Nat.le_of_ble_eq_true rfl)⟩) hS (fun q _ h => hFc q h) hFc (fun rn69 u t H1 locs ht hvm hw hB hz1 hk1 hS => ?_)
            obtain ⟨qn70, zn71, zn72, zn73, zn74, zn75, zn76, zn77, fn78, qn79, qn80, hn81, hn82, hn83, hn84, hn85, hn86, hn87, hn88, hn89, hn90, hn91, hn92, hn93, hP1, hD1⟩ := hB
            rw [ht] at hP1
            obtain ⟨hP, hD⟩ := PDq.join (w := [(v28, .inl (cA 1, 10, .inr (.inl l28))), (v30, .inl (cA 1, 8, .inr (.inl l30))), (v32, .inl (cA 0, 400, .inl fc)), (v34, .inl (cA 0, 11, .inl fq)), (oX10 w0 v0 v1 v2 v3 v4 g5 g6 (nI ed) g8 v9 (nI nb) g11 g12 v13 (nI ln) (nI (gP qn70)) (nI (gR (qn70 + 1))) zn71 zn72 zn73 zn74 zn75 0 (nI qn79) (nI cd) zn77 zn76 v27 v28 v29 v30 v31 v32 v33 v34 v35 v36 v37 (nI ol)), (v9, .inl (cA 0, 700, .inl fb)), (v13, .inl (cA 1, 15, .inr (.inl fkw))), (v1, .inl (cA 0, 326, .inl fn78))]) 4 hP hD [0, 2, 3, 1] [4, 5, 6, 7] rfl rfl (by decide) (by decide) hk1 hFc hP1 hD1 rfl
            generalize H1 = H at hP hS ⊢
            rcases hw.2 with hr9 | hr9
            · skip
              have hn93 := hn93 (hw.1.trans hr9)
              subst hr9
              obtain ⟨hP9, hD9⟩ := PDq.sub (ws' := [(oX10 w0 v0 v1 v2 v3 v4 g5 g6 (nI ed) g8 v9 (nI nb) g11 g12 v13 (nI ln) (nI (gP qn70)) (nI (gR (qn70 + 1))) zn71 zn72 zn73 zn74 zn75 0 (nI qn79) (nI cd) zn77 zn76 v27 v28 v29 v30 v31 v32 v33 v34 v35 v36 v37 (nI ol)), (v1, .inl (cA 0, 326, .inl fn78)), (v9, .inl (cA 0, 700, .inl fb)), (v13, .inl (cA 1, 15, .inr (.inl fkw))), (v28, .inl (cA 1, 10, .inr (.inl l28))), (v30, .inl (cA 1, 8, .inr (.inl l30))), (v32, .inl (cA 0, 400, .inl fc)), (v34, .inl (cA 0, 11, .inl fq))]) hP hD [4, 7, 5, 6, 0, 1, 2, 3] (by decide) rfl
              refine W.widen (k := 0) (n := 0) (Nat.le_of_ble_eq_true rfl) (Nat.le_of_ble_eq_true rfl) ?_
              exact (W.zret (v := 0) hx hb hr (by first | rfl | decide) (fun t ht hW => ⟨⟨0, 0, rfl, ⟨rfl, by decide⟩, qn70, zn71, zn72, zn73, zn74, zn75, zn76, zn77, 0, cd, cn, pq, qn80, qn79, fn78, fc, fq, l30, l28, ml, pl, hn81, hn82, hn83, hn84, hcn, hpq, hn86, hn87, hn85, hNM, hNP, (fun h9 => absurd h9 (by decide)), (fun h9 => absurd h9 (by decide)), (fun h9 => absurd h9 (by decide)), (fun h9 => absurd h9 (by decide)), (fun h9 => absurd h9 (by decide)), (fun h9 => absurd h9 (by decide)), (fun h9 => absurd h9 (by decide)), (fun _ => hn93), by rw [ht]; exact hP9, hD9⟩, hS.F ht⟩) hS.2.2 dX10_statement_78)
            · skip
              have hn88 := hn88 (hw.1.trans hr9)
              obtain rfl : g20 = zn74 := hn88.symm
              obtain ⟨hP, hD⟩ : PDq D A [(v28, .inl (cA 1, 10, .inr (.inl l28))), (v30, .inl (cA 1, 8, .inr (.inl l30))), (v32, .inl (cA 0, 400, .inl fc)), (v34, .inl (cA 0, 11, .inl fq)), (oX10 w0 v0 v1 v2 v3 v4 g5 g6 (nI ed) g8 v9 (nI nb) g11 g12 v13 (nI ln) (nI (gP qn70)) (nI (gR (qn70 + 1))) zn71 zn72 zn73 g20 zn75 0 (nI qn79) (nI cd) zn77 zn76 v27 v28 v29 v30 v31 v32 v33 v34 v35 v36 v37 (nI ol)), (v9, .inl (cA 0, 700, .inl fb)), (v13, .inl (cA 1, 15, .inr (.inl fkw))), (v1, .inl (cA 0, 326, .inl fn78))] H := ⟨hP, hD⟩
              have hn89 := hn89 (hw.1.trans hr9)
              obtain rfl : g21 = zn75 := hn89.symm
              obtain ⟨hP, hD⟩ : PDq D A [(v28, .inl (cA 1, 10, .inr (.inl l28))), (v30, .inl (cA 1, 8, .inr (.inl l30))), (v32, .inl (cA 0, 400, .inl fc)), (v34, .inl (cA 0, 11, .inl fq)), (oX10 w0 v0 v1 v2 v3 v4 g5 g6 (nI ed) g8 v9 (nI nb) g11 g12 v13 (nI ln) (nI (gP qn70)) (nI (gR (qn70 + 1))) zn71 zn72 zn73 g20 g21 0 (nI qn79) (nI cd) zn77 zn76 v27 v28 v29 v30 v31 v32 v33 v34 v35 v36 v37 (nI ol)), (v9, .inl (cA 0, 700, .inl fb)), (v13, .inl (cA 1, 15, .inr (.inl fkw))), (v1, .inl (cA 0, 326, .inl fn78))] H := ⟨hP, hD⟩
              have hn90 := hn90 (hw.1.trans hr9)
              have hn91 := hn91 (hw.1.trans hr9)
              have hn92 := hn92 (hw.1.trans hr9)
              subst hr9
              obtain ⟨hP9, hD9⟩ := PDq.sub (ws' := [(oX10 w0 v0 v1 v2 v3 v4 g5 g6 (nI ed) g8 v9 (nI nb) g11 g12 v13 (nI ln) (nI (gP qn70)) (nI (gR (qn70 + 1))) zn71 zn72 zn73 g20 g21 0 (nI qn79) (nI cd) zn77 zn76 v27 v28 v29 v30 v31 v32 v33 v34 v35 v36 v37 (nI ol)), (v1, .inl (cA 0, 326, .inl fn78)), (v9, .inl (cA 0, 700, .inl fb)), (v13, .inl (cA 1, 15, .inr (.inl fkw))), (v28, .inl (cA 1, 10, .inr (.inl l28))), (v30, .inl (cA 1, 8, .inr (.inl l30))), (v32, .inl (cA 0, 400, .inl fc)), (v34, .inl (cA 0, 11, .inl fq))]) hP hD [4, 7, 5, 6, 0, 1, 2, 3] (by decide) rfl
              refine W.widen (k := 0) (n := 0) (Nat.le_of_ble_eq_true rfl) (Nat.le_of_ble_eq_true rfl) ?_
              exact (W.zret (v := 1) hx hb hr (by first | rfl | decide) (fun t ht hW => ⟨⟨1, 1, rfl, ⟨rfl, by decide⟩, qn70, zn71, zn72, zn73, g20, g21, zn76, zn77, 0, cd, cn, pq, qn80, qn79, fn78, fc, fq, l30, l28, ml, pl, hn81, hn82, hn83, hn84, hcn, hpq, hn86, hn87, hn85, hNM, hNP, (fun _ => rfl), (fun _ => rfl), (fun _ => rfl), (fun _ => hn90), (fun _ => (by omega)), (fun _ => hCR), (fun _ => hn92), (fun h9 => absurd h9 (by decide)), by rw [ht]; exact hP9, hD9⟩, hS.F ht⟩) hS.2.2 dX10_statement_78)
          · skip
            by_cases hn94 : kw = 4
            · skip
              refine W.eq (g2 := F0 m 18 ls [.int 4]) (by rw [hn94]) ?_
              refine lv_tableIn (off := 61) (tgt := 79) hx hb dX10_statement_18 (by decide) (by decide) (by decide) (by decide) ?_
              refine lv_aload_n hx hb dX10_statement_79 rfl (lv_at hl 0 rfl) ?_
              obtain ⟨hPc, hDc, hFc⟩ := PDq.cut (wc := [(oX10 w0 v0 v1 v2 v3 v4 g5 g6 (nI ed) g8 v9 (nI nb) g11 g12 v13 (nI ln) (nI (gP ti)) (nI (gR (ti + 1))) tk kw g19 g20 g21 0 (nI dd) (nI cd) g25 g26 v27 v28 v29 v30 v31 v32 v33 v34 v35 v36 v37 (nI ol)), (v1, .inl (cA 0, 326, .inl fp)), (v9, .inl (cA 0, 700, .inl fb)), (v13, .inl (cA 1, 15, .inr (.inl fkw))), (v28, .inl (cA 1, 10, .inr (.inl l28))), (v30, .inl (cA 1, 8, .inr (.inl l30))), (v32, .inl (cA 0, 400, .inl fc)), (v34, .inl (cA 0, 11, .inl fq))]) hP hD hS hA [0, 1, 2, 3, 4, 5, 6, 7] (by decide) rfl
              refine va_calli (va_runV (As := []) (rest := []) ⟨hx, hb, hml, hown, hts⟩ (y_milestoneStatement l D cA sa w0 ed nb ol v0 v1 v2 v3 v4 v9 v13 v27 v28 v29 v30 v31 v32 v33 v34 v35 v36 v37 g8 g11 g12 g19 g20 g21 g26 g5 g6 g25 ln cd tk kw ti ct fb fkw gP gR gS gK gV cn pq en dy fp dd l28 l30 fc fq ml pl s.heap.size hln hct hti hTX hBY hTK hKW hcn hpq hen hdy hri hcd hCR hdd hNM hNP (TKR.kwd (n := 4) hTK (by decide) c1 hn94)) (cwV 0 hts gX10_statement_X10_milestoneStatement rfl rfl rfl (by decide +kernel) ⟨(Nat.le_of_ble_eq_true rfl), (Nat.le_of_ble_eq_true rfl)⟩) ⟨Wd.blind, va_recv hK hPc (ci := 11) (q0 := 0) rfl rfl, fun U hU hW => ⟨rfl, Wd.call hPc hDc hK hC hZ hS hFc U hU hW⟩⟩ rfl rfl hl.1 rfl (lv_room (Nat.le_of_ble_eq_true rfl)) dX10_statement_80 ⟨(Nat.le_of_ble_eq_true rfl), (Nat.le_of_ble_eq_true rfl)⟩) hS (fun q _ h => hFc q h) hFc (fun rn95 u t H1 locs ht hvm hw hB hz1 hk1 hS => ?_)
              obtain ⟨qn96, zn97, zn98, zn99, zn100, zn101, zn102, zn103, zn104, qn105, qn106, qn107, qn108, qn109, fn110, fn111, fn112, fn113, fn114, zn115, zn116, hn117, hn118, hn119, hn120, hn121, hn122, hn123, hn124, hn125, hn126, hn127, hn128, hn129, hn130, hn131, hn132, hn133, hn134, hn135, hP1, hD1⟩ := hB
              rw [ht] at hP1
              obtain ⟨hP, hD⟩ := PDq.join (w := [(oX10 w0 v0 v1 v2 v3 v4 g5 g6 (nI ed) g8 v9 (nI nb) g11 g12 v13 (nI ln) (nI (gP qn96)) (nI (gR (qn96 + 1))) zn97 zn98 zn99 zn100 zn101 zn104 (nI qn109) (nI qn105) zn103 zn102 v27 v28 v29 v30 v31 v32 v33 v34 v35 v36 v37 (nI ol)), (v1, .inl (cA 0, 326, .inl fn110)), (v9, .inl (cA 0, 700, .inl fb)), (v13, .inl (cA 1, 15, .inr (.inl fkw))), (v28, .inl (cA 1, 10, .inr (.inl fn114))), (v30, .inl (cA 1, 8, .inr (.inl fn113))), (v32, .inl (cA 0, 400, .inl fn111)), (v34, .inl (cA 0, 11, .inl fn112))]) 0 hP hD [0, 1, 2, 3, 4, 5, 6, 7] [] rfl rfl (by decide) (by decide) hk1 hFc hP1 hD1 rfl
              generalize H1 = H at hP hS ⊢
              rcases hw.2 with hr9 | hr9
              · skip
                have hn135 := hn135 (hw.1.trans hr9)
                subst hr9
                obtain ⟨hP9, hD9⟩ := PDq.sub (ws' := [(oX10 w0 v0 v1 v2 v3 v4 g5 g6 (nI ed) g8 v9 (nI nb) g11 g12 v13 (nI ln) (nI (gP qn96)) (nI (gR (qn96 + 1))) zn97 zn98 zn99 zn100 zn101 zn104 (nI qn109) (nI qn105) zn103 zn102 v27 v28 v29 v30 v31 v32 v33 v34 v35 v36 v37 (nI ol)), (v1, .inl (cA 0, 326, .inl fn110)), (v9, .inl (cA 0, 700, .inl fb)), (v13, .inl (cA 1, 15, .inr (.inl fkw))), (v28, .inl (cA 1, 10, .inr (.inl fn114))), (v30, .inl (cA 1, 8, .inr (.inl fn113))), (v32, .inl (cA 0, 400, .inl fn111)), (v34, .inl (cA 0, 11, .inl fn112))]) hP hD [0, 1, 2, 3, 4, 5, 6, 7] (by decide) rfl
                refine W.widen (k := 0) (n := 0) (Nat.le_of_ble_eq_true rfl) (Nat.le_of_ble_eq_true rfl) ?_
                exact (W.zret (v := 0) hx hb hr (by first | rfl | decide) (fun t ht hW => ⟨⟨0, 0, rfl, ⟨rfl, by decide⟩, qn96, zn97, zn98, zn99, zn100, zn101, zn102, zn103, zn104, qn105, qn106, qn107, qn108, qn109, fn110, fn111, fn112, fn113, fn114, zn115, zn116, hn117, hn118, hn119, hn120, hn121, hn122, hn123, hn124, hn125, hn126, hn127, (fun h9 => absurd h9 (by decide)), (fun h9 => absurd h9 (by decide)), (fun h9 => absurd h9 (by decide)), (fun h9 => absurd h9 (by decide)), (fun h9 => absurd h9 (by decide)), (fun h9 => absurd h9 (by decide)), (fun h9 => absurd h9 (by decide)), (fun _ => hn135), by rw [ht]; exact hP9, hD9⟩, hS.F ht⟩) hS.2.2 dX10_statement_83)
              · skip
                have hn128 := hn128 (hw.1.trans hr9)
                subst hn128
                obtain ⟨hP, hD⟩ : PDq D A [(oX10 w0 v0 v1 v2 v3 v4 g5 g6 (nI ed) g8 v9 (nI nb) g11 g12 v13 (nI ln) (nI (gP qn96)) (nI (gR (qn96 + 1))) zn97 zn98 zn99 zn100 zn101 0 (nI qn109) (nI qn105) zn103 zn102 v27 v28 v29 v30 v31 v32 v33 v34 v35 v36 v37 (nI ol)), (v1, .inl (cA 0, 326, .inl fn110)), (v9, .inl (cA 0, 700, .inl fb)), (v13, .inl (cA 1, 15, .inr (.inl fkw))), (v28, .inl (cA 1, 10, .inr (.inl fn114))), (v30, .inl (cA 1, 8, .inr (.inl fn113))), (v32, .inl (cA 0, 400, .inl fn111)), (v34, .inl (cA 0, 11, .inl fn112))] H := ⟨hP, hD⟩
                have hn129 := hn129 (hw.1.trans hr9)
                obtain rfl : g20 = zn100 := hn129.symm
                obtain ⟨hP, hD⟩ : PDq D A [(oX10 w0 v0 v1 v2 v3 v4 g5 g6 (nI ed) g8 v9 (nI nb) g11 g12 v13 (nI ln) (nI (gP qn96)) (nI (gR (qn96 + 1))) zn97 zn98 zn99 g20 zn101 0 (nI qn109) (nI qn105) zn103 zn102 v27 v28 v29 v30 v31 v32 v33 v34 v35 v36 v37 (nI ol)), (v1, .inl (cA 0, 326, .inl fn110)), (v9, .inl (cA 0, 700, .inl fb)), (v13, .inl (cA 1, 15, .inr (.inl fkw))), (v28, .inl (cA 1, 10, .inr (.inl fn114))), (v30, .inl (cA 1, 8, .inr (.inl fn113))), (v32, .inl (cA 0, 400, .inl fn111)), (v34, .inl (cA 0, 11, .inl fn112))] H := ⟨hP, hD⟩
                have hn130 := hn130 (hw.1.trans hr9)
                obtain rfl : g21 = zn101 := hn130.symm
                obtain ⟨hP, hD⟩ : PDq D A [(oX10 w0 v0 v1 v2 v3 v4 g5 g6 (nI ed) g8 v9 (nI nb) g11 g12 v13 (nI ln) (nI (gP qn96)) (nI (gR (qn96 + 1))) zn97 zn98 zn99 g20 g21 0 (nI qn109) (nI qn105) zn103 zn102 v27 v28 v29 v30 v31 v32 v33 v34 v35 v36 v37 (nI ol)), (v1, .inl (cA 0, 326, .inl fn110)), (v9, .inl (cA 0, 700, .inl fb)), (v13, .inl (cA 1, 15, .inr (.inl fkw))), (v28, .inl (cA 1, 10, .inr (.inl fn114))), (v30, .inl (cA 1, 8, .inr (.inl fn113))), (v32, .inl (cA 0, 400, .inl fn111)), (v34, .inl (cA 0, 11, .inl fn112))] H := ⟨hP, hD⟩
                have hn131 := hn131 (hw.1.trans hr9)
                have hn132 := hn132 (hw.1.trans hr9)
                have hn133 := hn133 (hw.1.trans hr9)
                have hn134 := hn134 (hw.1.trans hr9)
                subst hr9
                obtain ⟨hP9, hD9⟩ := PDq.sub (ws' := [(oX10 w0 v0 v1 v2 v3 v4 g5 g6 (nI ed) g8 v9 (nI nb) g11 g12 v13 (nI ln) (nI (gP qn96)) (nI (gR (qn96 + 1))) zn97 zn98 zn99 g20 g21 0 (nI qn109) (nI qn105) zn103 zn102 v27 v28 v29 v30 v31 v32 v33 v34 v35 v36 v37 (nI ol)), (v1, .inl (cA 0, 326, .inl fn110)), (v9, .inl (cA 0, 700, .inl fb)), (v13, .inl (cA 1, 15, .inr (.inl fkw))), (v28, .inl (cA 1, 10, .inr (.inl fn114))), (v30, .inl (cA 1, 8, .inr (.inl fn113))), (v32, .inl (cA 0, 400, .inl fn111)), (v34, .inl (cA 0, 11, .inl fn112))]) hP hD [0, 1, 2, 3, 4, 5, 6, 7] (by decide) rfl
                refine W.widen (k := 0) (n := 0) (Nat.le_of_ble_eq_true rfl) (Nat.le_of_ble_eq_true rfl) ?_
                exact (W.zret (v := 1) hx hb hr (by first | rfl | decide) (fun t ht hW => ⟨⟨1, 1, rfl, ⟨rfl, by decide⟩, qn96, zn97, zn98, zn99, g20, g21, zn102, zn103, 0, qn105, qn106, qn107, qn108, qn109, fn110, fn111, fn112, fn113, fn114, zn115, zn116, hn117, hn118, hn119, hn120, hn121, hn122, hn123, hn124, hn125, hn126, hn127, (fun _ => rfl), (fun _ => rfl), (fun _ => rfl), (fun _ => hn131), (fun _ => hn132), (fun _ => hn133), (fun _ => hn134), (fun h9 => absurd h9 (by decide)), by rw [ht]; exact hP9, hD9⟩, hS.F ht⟩) hS.2.2 dX10_statement_83)
            · skip
              refine lv_tableOut (tgt := 84) hx hb dX10_statement_18 (by have q0 : ¬ (kw).toInt = 0 := fun e9 => hn2 (Int32.toInt_inj.mp (e9.trans (by decide))); have q1 : ¬ (kw).toInt = 1 := fun e9 => hn24 (Int32.toInt_inj.mp (e9.trans (by decide))); have q2 : ¬ (kw).toInt = 2 := fun e9 => hn46 (Int32.toInt_inj.mp (e9.trans (by decide))); have q3 : ¬ (kw).toInt = 3 := fun e9 => hn68 (Int32.toInt_inj.mp (e9.trans (by decide))); have q4 : ¬ (kw).toInt = 4 := fun e9 => hn94 (Int32.toInt_inj.mp (e9.trans (by decide))); omega) (by decide) ?_
              refine lv_aload_n hx hb dX10_statement_84 rfl (lv_at hl 0 rfl) ?_
              refine lv_iconst (v := 2) hx hb dX10_statement_85 (by decide) ?_
              obtain ⟨hPc, hDc, hFc⟩ := PDq.cut (wc := [(oX10 w0 v0 v1 v2 v3 v4 g5 g6 (nI ed) g8 v9 (nI nb) g11 g12 v13 (nI ln) (nI (gP ti)) (nI (gR (ti + 1))) tk kw g19 g20 g21 0 (nI dd) (nI cd) g25 g26 v27 v28 v29 v30 v31 v32 v33 v34 v35 v36 v37 (nI ol))]) hP hD hS hA [0] (by decide) rfl
              refine va_calli (va_runV (As := [.int 2]) (rest := []) ⟨hx, hb, hml, hown, hts⟩ (y_fail l D cA sa w0 ed nb ol v0 v1 v2 v3 v4 v9 v13 v27 v28 v29 v30 v31 v32 v33 v34 v35 v36 v37 g8 g11 g12 g19 g20 g21 0 (nI dd) g26 g5 g6 g25 ln cd tk kw ti ct fb gP gR gS gK gV 2 s.heap.size hln hct hti hTX hBY hTK) (cwV 1 hts gX10_statement_X10_fail rfl rfl rfl (by decide +kernel) ⟨(Nat.le_of_ble_eq_true rfl), (Nat.le_of_ble_eq_true rfl)⟩) ⟨Wd.blind, va_recv hK hPc (ci := 11) (q0 := 0) rfl rfl, fun U hU hW => ⟨rfl, Wd.call hPc hDc hK hC hZ hS hFc U hU hW⟩⟩ rfl rfl hl.1 rfl (lv_room (Nat.le_of_ble_eq_true rfl)) dX10_statement_86 ⟨(Nat.le_of_ble_eq_true rfl), (Nat.le_of_ble_eq_true rfl)⟩) hS (fun q _ h => hFc q h) hFc (fun rn136 u t H1 locs ht hvm hw hB hz1 hk1 hS => ?_)
              obtain ⟨zn137, hn138, hP1, hD1⟩ := hB
              rw [ht] at hP1
              obtain ⟨hP, hD⟩ := PDq.join (w := [(v1, .inl (cA 0, 326, .inl fp)), (v9, .inl (cA 0, 700, .inl fb)), (v13, .inl (cA 1, 15, .inr (.inl fkw))), (v28, .inl (cA 1, 10, .inr (.inl l28))), (v30, .inl (cA 1, 8, .inr (.inl l30))), (v32, .inl (cA 0, 400, .inl fc)), (v34, .inl (cA 0, 11, .inl fq)), (oX10 w0 v0 v1 v2 v3 v4 g5 g6 (nI ed) g8 v9 (nI nb) g11 g12 v13 (nI ln) (nI (gP ti)) (nI (gR (ti + 1))) tk kw g19 zn137 (nI (gP ti)) 0 (nI dd) (nI cd) g25 g26 v27 v28 v29 v30 v31 v32 v33 v34 v35 v36 v37 (nI ol))]) 7 hP hD [0] [1, 2, 3, 4, 5, 6, 7] rfl rfl (by decide) (by decide) hk1 hFc hP1 hD1 rfl
              generalize H1 = H at hP hS ⊢
              obtain rfl : rn136 = 0 := hw
              obtain ⟨hP9, hD9⟩ := PDq.sub (ws' := [(oX10 w0 v0 v1 v2 v3 v4 g5 g6 (nI ed) g8 v9 (nI nb) g11 g12 v13 (nI ln) (nI (gP ti)) (nI (gR (ti + 1))) tk kw g19 zn137 (nI (gP ti)) 0 (nI dd) (nI cd) g25 g26 v27 v28 v29 v30 v31 v32 v33 v34 v35 v36 v37 (nI ol)), (v1, .inl (cA 0, 326, .inl fp)), (v9, .inl (cA 0, 700, .inl fb)), (v13, .inl (cA 1, 15, .inr (.inl fkw))), (v28, .inl (cA 1, 10, .inr (.inl l28))), (v30, .inl (cA 1, 8, .inr (.inl l30))), (v32, .inl (cA 0, 400, .inl fc)), (v34, .inl (cA 0, 11, .inl fq))]) hP hD [7, 0, 1, 2, 3, 4, 5, 6] (by decide) rfl
              refine W.widen (k := 0) (n := 0) (Nat.le_of_ble_eq_true rfl) (Nat.le_of_ble_eq_true rfl) ?_
              exact (W.zret (v := 0) hx hb hr (by first | rfl | decide) (fun t ht hW => ⟨⟨0, 0, rfl, ⟨rfl, by decide⟩, ti, tk, kw, g19, zn137, (nI (gP ti)), g26, g25, 0, cd, cn, pq, en, dd, fp, fc, fq, l30, l28, ml, pl, hti, (by omega), (by omega), hTK, hcn, hpq, hen, hdd, hri, hNM, hNP, (fun h9 => absurd h9 (by decide)), (fun h9 => absurd h9 (by decide)), (fun h9 => absurd h9 (by decide)), (fun h9 => absurd h9 (by decide)), (fun h9 => absurd h9 (by decide)), (fun h9 => absurd h9 (by decide)), (fun h9 => absurd h9 (by decide)), (fun _ => (S_nonex (TKR.nsw hTK 0 4 (by decide) (fun n9 a9 b9 => by rcases (show n9 = 0 ∨ n9 = 1 ∨ n9 = 2 ∨ n9 = 3 ∨ n9 = 4 by omega) with rfl | rfl | rfl | rfl | rfl; exact hn2; exact hn24; exact hn46; exact hn68; exact hn94)) hn138 (TX.s hTX (show ti < ct by omega)))), by rw [ht]; exact hP9, hD9⟩, hS.F ht⟩) hS.2.2 dX10_statement_89)
  · skip
    refine lv_aload_n hx hb dX10_statement_8 rfl (lv_at hl 0 rfl) ?_
    refine lv_iconst (v := 2) hx hb dX10_statement_9 (by decide) ?_
    obtain ⟨hPc, hDc, hFc⟩ := PDq.cut (wc := [(oX10 w0 v0 v1 v2 v3 v4 g5 g6 (nI ed) g8 v9 (nI nb) g11 g12 v13 (nI ln) (nI (gP ti)) (nI (gR (ti + 1))) tk kw g19 g20 g21 0 (nI dd) (nI cd) g25 g26 v27 v28 v29 v30 v31 v32 v33 v34 v35 v36 v37 (nI ol))]) hP hD hS hA [0] (by decide) rfl
    refine va_calli (va_runV (As := [.int 2]) (rest := []) ⟨hx, hb, hml, hown, hts⟩ (y_fail l D cA sa w0 ed nb ol v0 v1 v2 v3 v4 v9 v13 v27 v28 v29 v30 v31 v32 v33 v34 v35 v36 v37 g8 g11 g12 g19 g20 g21 0 (nI dd) g26 g5 g6 g25 ln cd tk kw ti ct fb gP gR gS gK gV 2 s.heap.size hln hct hti hTX hBY hTK) (cwV 1 hts gX10_statement_X10_fail rfl rfl rfl (by decide +kernel) ⟨(Nat.le_of_ble_eq_true rfl), (Nat.le_of_ble_eq_true rfl)⟩) ⟨Wd.blind, va_recv hK hPc (ci := 11) (q0 := 0) rfl rfl, fun U hU hW => ⟨rfl, Wd.call hPc hDc hK hC hZ hS hFc U hU hW⟩⟩ rfl rfl hl.1 rfl (lv_room (Nat.le_of_ble_eq_true rfl)) dX10_statement_10 ⟨(Nat.le_of_ble_eq_true rfl), (Nat.le_of_ble_eq_true rfl)⟩) hS (fun q _ h => hFc q h) hFc (fun rn139 u t H1 locs ht hvm hw hB hz1 hk1 hS => ?_)
    obtain ⟨zn140, hn141, hP1, hD1⟩ := hB
    rw [ht] at hP1
    obtain ⟨hP, hD⟩ := PDq.join (w := [(v1, .inl (cA 0, 326, .inl fp)), (v9, .inl (cA 0, 700, .inl fb)), (v13, .inl (cA 1, 15, .inr (.inl fkw))), (v28, .inl (cA 1, 10, .inr (.inl l28))), (v30, .inl (cA 1, 8, .inr (.inl l30))), (v32, .inl (cA 0, 400, .inl fc)), (v34, .inl (cA 0, 11, .inl fq)), (oX10 w0 v0 v1 v2 v3 v4 g5 g6 (nI ed) g8 v9 (nI nb) g11 g12 v13 (nI ln) (nI (gP ti)) (nI (gR (ti + 1))) tk kw g19 zn140 (nI (gP ti)) 0 (nI dd) (nI cd) g25 g26 v27 v28 v29 v30 v31 v32 v33 v34 v35 v36 v37 (nI ol))]) 7 hP hD [0] [1, 2, 3, 4, 5, 6, 7] rfl rfl (by decide) (by decide) hk1 hFc hP1 hD1 rfl
    generalize H1 = H at hP hS ⊢
    obtain rfl : rn139 = 0 := hw
    obtain ⟨hP9, hD9⟩ := PDq.sub (ws' := [(oX10 w0 v0 v1 v2 v3 v4 g5 g6 (nI ed) g8 v9 (nI nb) g11 g12 v13 (nI ln) (nI (gP ti)) (nI (gR (ti + 1))) tk kw g19 zn140 (nI (gP ti)) 0 (nI dd) (nI cd) g25 g26 v27 v28 v29 v30 v31 v32 v33 v34 v35 v36 v37 (nI ol)), (v1, .inl (cA 0, 326, .inl fp)), (v9, .inl (cA 0, 700, .inl fb)), (v13, .inl (cA 1, 15, .inr (.inl fkw))), (v28, .inl (cA 1, 10, .inr (.inl l28))), (v30, .inl (cA 1, 8, .inr (.inl l30))), (v32, .inl (cA 0, 400, .inl fc)), (v34, .inl (cA 0, 11, .inl fq))]) hP hD [7, 0, 1, 2, 3, 4, 5, 6] (by decide) rfl
    refine W.widen (k := 0) (n := 0) (Nat.le_of_ble_eq_true rfl) (Nat.le_of_ble_eq_true rfl) ?_
    exact (W.zret (v := 0) hx hb hr (by first | rfl | decide) (fun t ht hW => ⟨⟨0, 0, rfl, ⟨rfl, by decide⟩, ti, tk, kw, g19, zn140, (nI (gP ti)), g26, g25, 0, cd, cn, pq, en, dd, fp, fc, fq, l30, l28, ml, pl, hti, (by omega), (by omega), hTK, hcn, hpq, hen, hdd, hri, hNM, hNP, (fun h9 => absurd h9 (by decide)), (fun h9 => absurd h9 (by decide)), (fun h9 => absurd h9 (by decide)), (fun h9 => absurd h9 (by decide)), (fun h9 => absurd h9 (by decide)), (fun h9 => absurd h9 (by decide)), (fun h9 => absurd h9 (by decide)), (fun _ => (S_nonex (TKR.n2 hTK c1 8 12 (by decide)) hn141 (TX.s hTX (show ti < ct by omega)))), by rw [ht]; exact hP9, hD9⟩, hS.F ht⟩) hS.2.2 dX10_statement_13)

set_option maxHeartbeats 4000000 in
set_option maxRecDepth 100000 in
/-- reference: takeOver -/
theorem y_takeOver (l : Launch) (D : va_G) (cA : Nat → ClassId) (sa : Nat → Nat) (w0 : Nat) (ed : Nat) (nb : Nat) (ol : Nat) (v0 : Nat) (v1 : Nat) (v2 : Nat) (v3 : Nat) (v4 : Nat) (v9 : Nat) (v13 : Nat) (v27 : Nat) (v28 : Nat) (v29 : Nat) (v30 : Nat) (v31 : Nat) (v32 : Nat) (v33 : Nat) (v34 : Nat) (v35 : Nat) (v36 : Nat) (v37 : Nat) (g8 : Int32) (g11 : Int32) (g12 : Int32) (g14 : Int32) (g15 : Int32) (g16 : Int32) (g17 : Int32) (g18 : Int32) (g19 : Int32) (g20 : Int32) (g21 : Int32) (g22 : Int32) (g23 : Int32) (g26 : Int32) (g5 : Int64) (g6 : Int64) (g25 : Int64) (cd : Nat) (cn : Nat) (pq : Nat) (en : Nat) (dy : Nat) (fp : Nat → Int32) (l27 : Nat → Int64) (l28 : Nat → Int64) (l29 : Nat → Int64) (l30 : Nat → Int64) (fs : Nat → Int32) (f31 : Nat → Int32) (fc : Nat → Int32) (f33 : Nat → Int32) (fq : Nat → Int32) (ml : List Int64) (pl : List Int64) (sz : Nat) (hcn : cn ≤ 10) (hpq : pq ≤ 8) (hen : en ≤ 60) (hdy : dy ≤ 20000) (hri : RI cn pq en dy fp) (hcd : cd ≤ 400) (hCR : CR cn cd fc fq) (hNM : NL ml cn l28) (hNP : NL pl pq l30) : Met l yX10_takeOver wsX10_takeOver ({ frames := 1, cells := 0, slots := 0, locals := 22 }) (va_Pc [.ref w0] (Wd D cA sa [(oX10 w0 v0 v1 v2 v3 v4 g5 g6 (nI ed) g8 v9 (nI nb) g11 g12 v13 g14 g15 g16 g17 g18 g19 g20 g21 g22 g23 (nI cd) g25 g26 v27 v28 v29 v30 v31 v32 v33 v34 v35 v36 v37 (nI ol)), (v1, .inl (cA 0, 326, .inl fp)), (v0, .inl (cA 0, 326, .inl fs)), (v27, .inl (cA 1, 10, .inr (.inl l27))), (v28, .inl (cA 1, 10, .inr (.inl l28))), (v29, .inl (cA 1, 8, .inr (.inl l29))), (v30, .inl (cA 1, 8, .inr (.inl l30))), (v31, .inl (cA 0, 400, .inl f31)), (v32, .inl (cA 0, 400, .inl fc)), (v33, .inl (cA 0, 11, .inl f33)), (v34, .inl (cA 0, 11, .inl fq))] sz)) (va_Qv (fun _ : Unit => True) (fun (_ : Unit) t => ∃ zs : Nat → Int32, ∃ z31 : Nat → Int32, ∃ z33 : Nat → Int32, ∃ zl27 : Nat → Int64, ∃ zl29 : Nat → Int64, RI cn pq en dy zs ∧ CW cn z31 z33 ∧ NL ml cn zl27 ∧ NL pl pq zl29 ∧ Wq D (va_A [(oX10 w0 v0 v1 v2 v3 v4 g5 g6 (nI ed) g8 v9 (nI nb) g11 g12 v13 g14 g15 g16 g17 g18 g19 g20 g21 g22 g23 (nI cd) g25 g26 v27 v28 v29 v30 v31 v32 v33 v34 v35 v36 v37 (nI ol)), (v1, .inl (cA 0, 326, .inl fp)), (v0, .inl (cA 0, 326, .inl fs)), (v27, .inl (cA 1, 10, .inr (.inl l27))), (v28, .inl (cA 1, 10, .inr (.inl l28))), (v29, .inl (cA 1, 8, .inr (.inl l29))), (v30, .inl (cA 1, 8, .inr (.inl l30))), (v31, .inl (cA 0, 400, .inl f31)), (v32, .inl (cA 0, 400, .inl fc)), (v33, .inl (cA 0, 11, .inl f33)), (v34, .inl (cA 0, 11, .inl fq))] sz) [(oX10 w0 v0 v1 v2 v3 v4 0 g6 0 g8 v9 (nI nb) g11 g12 v13 g14 g15 g16 g17 g18 g19 g20 g21 g22 g23 (nI cd) g25 g26 v27 v28 v29 v30 v31 v32 v33 v34 v35 v36 v37 (nI ol)), (v1, .inl (cA 0, 326, .inl fp)), (v0, .inl (cA 0, 326, .inl zs)), (v27, .inl (cA 1, 10, .inr (.inl zl27))), (v28, .inl (cA 1, 10, .inr (.inl l28))), (v29, .inl (cA 1, 8, .inr (.inl zl29))), (v30, .inl (cA 1, 8, .inr (.inl l30))), (v31, .inl (cA 0, 400, .inl z31)), (v32, .inl (cA 0, 400, .inl fc)), (v33, .inl (cA 0, 11, .inl z33)), (v34, .inl (cA 0, 11, .inl fq))] t) (va_A [(oX10 w0 v0 v1 v2 v3 v4 g5 g6 (nI ed) g8 v9 (nI nb) g11 g12 v13 g14 g15 g16 g17 g18 g19 g20 g21 g22 g23 (nI cd) g25 g26 v27 v28 v29 v30 v31 v32 v33 v34 v35 v36 v37 (nI ol)), (v1, .inl (cA 0, 326, .inl fp)), (v0, .inl (cA 0, 326, .inl fs)), (v27, .inl (cA 1, 10, .inr (.inl l27))), (v28, .inl (cA 1, 10, .inr (.inl l28))), (v29, .inl (cA 1, 8, .inr (.inl l29))), (v30, .inl (cA 1, 8, .inr (.inl l30))), (v31, .inl (cA 0, 400, .inl f31)), (v32, .inl (cA 0, 400, .inl fc)), (v33, .inl (cA 0, 11, .inl f33)), (v34, .inl (cA 0, 11, .inl fq))] sz)) 0 0 (va_A [(oX10 w0 v0 v1 v2 v3 v4 g5 g6 (nI ed) g8 v9 (nI nb) g11 g12 v13 g14 g15 g16 g17 g18 g19 g20 g21 g22 g23 (nI cd) g25 g26 v27 v28 v29 v30 v31 v32 v33 v34 v35 v36 v37 (nI ol)), (v1, .inl (cA 0, 326, .inl fp)), (v0, .inl (cA 0, 326, .inl fs)), (v27, .inl (cA 1, 10, .inr (.inl l27))), (v28, .inl (cA 1, 10, .inr (.inl l28))), (v29, .inl (cA 1, 8, .inr (.inl l29))), (v30, .inl (cA 1, 8, .inr (.inl l30))), (v31, .inl (cA 0, 400, .inl f31)), (v32, .inl (cA 0, 400, .inl fc)), (v33, .inl (cA 0, 11, .inl f33)), (v34, .inl (cA 0, 11, .inl fq))] sz) := by
  refine Met.ofW (cc := cX10_takeOver) (maxL := 2) (ret := none) (by decide) rfl ?_
  intro p e s m args below meth c s₁ B hml hv
  obtain ⟨rfl, hsz, hP, hK, hD0, hC, hZ⟩ := hv
  have hx := B.exec
  have hb := B.bytes
  have hr := B.returns
  have hts := atoms_spec (ws := wsX10_takeOver) B.pre
  have hown : s.vm.findClass RX10 = some m.cls := findClass_of_methodNamed B.named
  have hlocks := B.notSynchronized
  subst hsz
  have hD := hD0.self (sz := s.heap.size)
  generalize hAe : va_A [(oX10 w0 v0 v1 v2 v3 v4 g5 g6 (nI ed) g8 v9 (nI nb) g11 g12 v13 g14 g15 g16 g17 g18 g19 g20 g21 g22 g23 (nI cd) g25 g26 v27 v28 v29 v30 v31 v32 v33 v34 v35 v36 v37 (nI ol)), (v1, .inl (cA 0, 326, .inl fp)), (v0, .inl (cA 0, 326, .inl fs)), (v27, .inl (cA 1, 10, .inr (.inl l27))), (v28, .inl (cA 1, 10, .inr (.inl l28))), (v29, .inl (cA 1, 8, .inr (.inl l29))), (v30, .inl (cA 1, 8, .inr (.inl l30))), (v31, .inl (cA 0, 400, .inl f31)), (v32, .inl (cA 0, 400, .inl fc)), (v33, .inl (cA 0, 11, .inl f33)), (v34, .inl (cA 0, 11, .inl fq))] s.heap.size = A at hD hZ ⊢
  have hA : ∀ q : Nat, s.heap.size ≤ q → A q := fun q h => by rw [← hAe]; exact Or.inr h
  have hS : va_S A s.heap s.heap [] := va_S.rf
  have hP : va_P D vwCl [(oX10 w0 v0 v1 v2 v3 v4 g5 g6 (nI ed) g8 v9 (nI nb) g11 g12 v13 g14 g15 g16 g17 g18 g19 g20 g21 g22 g23 (nI cd) g25 g26 v27 v28 v29 v30 v31 v32 v33 v34 v35 v36 v37 (nI ol)), (v1, .inl (cA 0, 326, .inl fp)), (v0, .inl (cA 0, 326, .inl fs)), (v27, .inl (cA 1, 10, .inr (.inl l27))), (v28, .inl (cA 1, 10, .inr (.inl l28))), (v29, .inl (cA 1, 8, .inr (.inl l29))), (v30, .inl (cA 1, 8, .inr (.inl l30))), (v31, .inl (cA 0, 400, .inl f31)), (v32, .inl (cA 0, 400, .inl fc)), (v33, .inl (cA 0, 11, .inl f33)), (v34, .inl (cA 0, 11, .inl fq))] s.heap := hP
  have hl := lv_entry ([.ref w0]) (n := 2) (Nat.le_of_ble_eq_true rfl)
  rw [lg_entry_eq]
  generalize (lg_sl ([.ref w0]) ++ List.replicate (2 - (lg_sl ([.ref w0])).length) Slot.unset).toArray = ls at hl ⊢
  have hl : lv_has ls 2 [(0, .ref w0)] := hl
  have inX10 : ∀ w ∈ u_ws RX10 TX10 39, w ∈ wsX10_takeOver := by decide +kernel
  refine lv_aload_n hx hb dX10_takeOver_0 rfl (lv_at hl 0 rfl) ?_
  refine va_get (D := D) (ci := 11) (v := .ref v1) (C := RX10) (T := TX10) (N := 39) hx hb hts inX10 hown hK hP 0 rfl rfl 1 (by decide) (hts (.fieldLink RX10 13 "EscrowDeskModel" "parsed" "[I") (by decide +kernel)) (fun _ h9 => h9) rfl dX10_takeOver_1 ?_
  refine lv_aload_n hx hb dX10_takeOver_4 rfl (lv_at hl 0 rfl) ?_
  refine va_get (D := D) (ci := 11) (v := .ref v0) (C := RX10) (T := TX10) (N := 39) hx hb hts inX10 hown hK hP 0 rfl rfl 0 (by decide) (hts (.fieldLink RX10 7 "EscrowDeskModel" "s" "[I") (by decide +kernel)) (fun _ h9 => h9) rfl dX10_takeOver_5 ?_
  obtain ⟨hPc, hDc, hFc⟩ := PDq.cut (wc := [(v1, .inl (cA 0, 326, .inl fp)), (v0, .inl (cA 0, 326, .inl fs))]) hP hD hS hA [1, 2] (by decide) rfl
  refine va_callv (va_runS (As := [.ref v1, .ref v0]) (rest := []) ⟨hx, hb, hml, hown, hts⟩ (r_copy l D cA sa v1 v0 cn pq en dy fp fs s.heap.size hcn hpq hen hdy hri) (va_cwS 2 hts gX10_takeOver_X10_copy rfl rfl rfl (by decide +kernel) ⟨(Nat.le_of_ble_eq_true rfl), (Nat.le_of_ble_eq_true rfl)⟩) ⟨Wd.blind, fun U hU hW => ⟨rfl, Wd.call hPc hDc hK hC hZ hS hFc U hU hW⟩⟩ rfl rfl hl.1 rfl (lv_room (Nat.le_of_ble_eq_true rfl)) dX10_takeOver_8 ⟨(Nat.le_of_ble_eq_true rfl), (Nat.le_of_ble_eq_true rfl)⟩) hS (fun q _ h => hFc q h) hFc (fun u t H1 locs ht hvm hw hB hz1 hk1 hS => ?_)
  obtain ⟨fn1, hn2, hP1, hD1⟩ := hB
  rw [ht] at hP1
  obtain ⟨hP, hD⟩ := PDq.join (w := [(oX10 w0 v0 v1 v2 v3 v4 g5 g6 (nI ed) g8 v9 (nI nb) g11 g12 v13 g14 g15 g16 g17 g18 g19 g20 g21 g22 g23 (nI cd) g25 g26 v27 v28 v29 v30 v31 v32 v33 v34 v35 v36 v37 (nI ol)), (v27, .inl (cA 1, 10, .inr (.inl l27))), (v28, .inl (cA 1, 10, .inr (.inl l28))), (v29, .inl (cA 1, 8, .inr (.inl l29))), (v30, .inl (cA 1, 8, .inr (.inl l30))), (v31, .inl (cA 0, 400, .inl f31)), (v32, .inl (cA 0, 400, .inl fc)), (v33, .inl (cA 0, 11, .inl f33)), (v34, .inl (cA 0, 11, .inl fq)), (v1, .inl (cA 0, 326, .inl fp)), (v0, .inl (cA 0, 326, .inl fn1))]) 9 hP hD [1, 2] [0, 3, 4, 5, 6, 7, 8, 9, 10] rfl rfl (by decide +kernel) (by decide +kernel) hk1 hFc hP1 hD1 rfl
  generalize H1 = H at hP hS ⊢
  refine lv_iconst (v := 0) hx hb dX10_takeOver_11 (by decide) ?_
  refine lv_istore_n (lv' := [(1, .int 0), (0, .ref w0)]) hx hb dX10_takeOver_12 rfl hl (by decide) rfl (fun ls hl => ?_)
  have loop1 : ∀ (n1 i1 : Nat) (f1_1 : Nat → Int64) (H : Heap) (locs : List Loc) (ls : Array Slot), i1 + n1 = 10 → CpL i1 l28 f1_1 → va_P D vwCl [(oX10 w0 v0 v1 v2 v3 v4 g5 g6 (nI ed) g8 v9 (nI nb) g11 g12 v13 g14 g15 g16 g17 g18 g19 g20 g21 g22 g23 (nI cd) g25 g26 v27 v28 v29 v30 v31 v32 v33 v34 v35 v36 v37 (nI ol)), (v27, .inl (cA 1, 10, .inr (.inl f1_1))), (v28, .inl (cA 1, 10, .inr (.inl l28))), (v29, .inl (cA 1, 8, .inr (.inl l29))), (v30, .inl (cA 1, 8, .inr (.inl l30))), (v31, .inl (cA 0, 400, .inl f31)), (v32, .inl (cA 0, 400, .inl fc)), (v33, .inl (cA 0, 11, .inl f33)), (v34, .inl (cA 0, 11, .inl fq)), (v1, .inl (cA 0, 326, .inl fp)), (v0, .inl (cA 0, 326, .inl fn1))] H → va_D A [(oX10 w0 v0 v1 v2 v3 v4 g5 g6 (nI ed) g8 v9 (nI nb) g11 g12 v13 g14 g15 g16 g17 g18 g19 g20 g21 g22 g23 (nI cd) g25 g26 v27 v28 v29 v30 v31 v32 v33 v34 v35 v36 v37 (nI ol)), (v27, .inl (cA 1, 10, .inr (.inl f1_1))), (v28, .inl (cA 1, 10, .inr (.inl l28))), (v29, .inl (cA 1, 8, .inr (.inl l29))), (v30, .inl (cA 1, 8, .inr (.inl l30))), (v31, .inl (cA 0, 400, .inl f31)), (v32, .inl (cA 0, 400, .inl fc)), (v33, .inl (cA 0, 11, .inl f33)), (v34, .inl (cA 0, 11, .inl fq)), (v1, .inl (cA 0, 326, .inl fp)), (v0, .inl (cA 0, 326, .inl fn1))] → va_S A s.heap H locs → lv_has ls 2 [(1, .int (nI i1)), (0, .ref w0)] → W p l e (headSpec wsX10_takeOver ({ frames := 1, cells := 0, slots := 0, locals := 22 } : Room)).room s m ([.ref w0] : List Value).toArray below meth c H locs 0 0 (MQ below (va_Qv (fun _ : Unit => True) (fun (_ : Unit) t => ∃ zs : Nat → Int32, ∃ z31 : Nat → Int32, ∃ z33 : Nat → Int32, ∃ zl27 : Nat → Int64, ∃ zl29 : Nat → Int64, RI cn pq en dy zs ∧ CW cn z31 z33 ∧ NL ml cn zl27 ∧ NL pl pq zl29 ∧ Wq D A [(oX10 w0 v0 v1 v2 v3 v4 0 g6 0 g8 v9 (nI nb) g11 g12 v13 g14 g15 g16 g17 g18 g19 g20 g21 g22 g23 (nI cd) g25 g26 v27 v28 v29 v30 v31 v32 v33 v34 v35 v36 v37 (nI ol)), (v1, .inl (cA 0, 326, .inl fp)), (v0, .inl (cA 0, 326, .inl zs)), (v27, .inl (cA 1, 10, .inr (.inl zl27))), (v28, .inl (cA 1, 10, .inr (.inl l28))), (v29, .inl (cA 1, 8, .inr (.inl zl29))), (v30, .inl (cA 1, 8, .inr (.inl l30))), (v31, .inl (cA 0, 400, .inl z31)), (v32, .inl (cA 0, 400, .inl fc)), (v33, .inl (cA 0, 11, .inl z33)), (v34, .inl (cA 0, 11, .inl fq))] t) A) ([.ref w0] : List Value).toArray s 0 0 A) (F0 m 13 ls []) := by
    intro n1
    induction n1 with
    | zero =>
      intro i1 f1_1 H locs ls hi1 hv0_1 hP hD hS hl
      obtain rfl : 10 = i1 := by omega
      refine lv_iload_n hx hb dX10_takeOver_13 rfl (lv_at hl 0 rfl) ?_
      refine lv_bipush (v := 10) hx hb dX10_takeOver_14 (by decide) ?_
      refine lv_icmp_ge (tgt := 37) hx hb dX10_takeOver_16 (by decide) (fun c3 => ?_) (fun c9 => absurd (nI_le (a := 10) (b := 10) (show 10 ≤ 10 by omega) (by omega)) c9)
      refine lv_iconst (v := 0) hx hb dX10_takeOver_37 (by decide) ?_
      refine lv_istore_n (lv' := [(1, .int 0), (0, .ref w0)]) hx hb dX10_takeOver_38 rfl hl (by decide) rfl (fun ls hl => ?_)
      have loop2 : ∀ (n2 i2 : Nat) (f3_2 : Nat → Int64) (H : Heap) (locs : List Loc) (ls : Array Slot), i2 + n2 = 8 → CpL i2 l30 f3_2 → va_P D vwCl [(oX10 w0 v0 v1 v2 v3 v4 g5 g6 (nI ed) g8 v9 (nI nb) g11 g12 v13 g14 g15 g16 g17 g18 g19 g20 g21 g22 g23 (nI cd) g25 g26 v27 v28 v29 v30 v31 v32 v33 v34 v35 v36 v37 (nI ol)), (v27, .inl (cA 1, 10, .inr (.inl f1_1))), (v28, .inl (cA 1, 10, .inr (.inl l28))), (v29, .inl (cA 1, 8, .inr (.inl f3_2))), (v30, .inl (cA 1, 8, .inr (.inl l30))), (v31, .inl (cA 0, 400, .inl f31)), (v32, .inl (cA 0, 400, .inl fc)), (v33, .inl (cA 0, 11, .inl f33)), (v34, .inl (cA 0, 11, .inl fq)), (v1, .inl (cA 0, 326, .inl fp)), (v0, .inl (cA 0, 326, .inl fn1))] H → va_D A [(oX10 w0 v0 v1 v2 v3 v4 g5 g6 (nI ed) g8 v9 (nI nb) g11 g12 v13 g14 g15 g16 g17 g18 g19 g20 g21 g22 g23 (nI cd) g25 g26 v27 v28 v29 v30 v31 v32 v33 v34 v35 v36 v37 (nI ol)), (v27, .inl (cA 1, 10, .inr (.inl f1_1))), (v28, .inl (cA 1, 10, .inr (.inl l28))), (v29, .inl (cA 1, 8, .inr (.inl f3_2))), (v30, .inl (cA 1, 8, .inr (.inl l30))), (v31, .inl (cA 0, 400, .inl f31)), (v32, .inl (cA 0, 400, .inl fc)), (v33, .inl (cA 0, 11, .inl f33)), (v34, .inl (cA 0, 11, .inl fq)), (v1, .inl (cA 0, 326, .inl fp)), (v0, .inl (cA 0, 326, .inl fn1))] → va_S A s.heap H locs → lv_has ls 2 [(1, .int (nI i2)), (0, .ref w0)] → W p l e (headSpec wsX10_takeOver ({ frames := 1, cells := 0, slots := 0, locals := 22 } : Room)).room s m ([.ref w0] : List Value).toArray below meth c H locs 0 0 (MQ below (va_Qv (fun _ : Unit => True) (fun (_ : Unit) t => ∃ zs : Nat → Int32, ∃ z31 : Nat → Int32, ∃ z33 : Nat → Int32, ∃ zl27 : Nat → Int64, ∃ zl29 : Nat → Int64, RI cn pq en dy zs ∧ CW cn z31 z33 ∧ NL ml cn zl27 ∧ NL pl pq zl29 ∧ Wq D A [(oX10 w0 v0 v1 v2 v3 v4 0 g6 0 g8 v9 (nI nb) g11 g12 v13 g14 g15 g16 g17 g18 g19 g20 g21 g22 g23 (nI cd) g25 g26 v27 v28 v29 v30 v31 v32 v33 v34 v35 v36 v37 (nI ol)), (v1, .inl (cA 0, 326, .inl fp)), (v0, .inl (cA 0, 326, .inl zs)), (v27, .inl (cA 1, 10, .inr (.inl zl27))), (v28, .inl (cA 1, 10, .inr (.inl l28))), (v29, .inl (cA 1, 8, .inr (.inl zl29))), (v30, .inl (cA 1, 8, .inr (.inl l30))), (v31, .inl (cA 0, 400, .inl z31)), (v32, .inl (cA 0, 400, .inl fc)), (v33, .inl (cA 0, 11, .inl z33)), (v34, .inl (cA 0, 11, .inl fq))] t) A) ([.ref w0] : List Value).toArray s 0 0 A) (F0 m 39 ls []) := by
        intro n2
        induction n2 with
        | zero =>
          intro i2 f3_2 H locs ls hi2 hv0_2 hP hD hS hl
          obtain rfl : 8 = i2 := by omega
          refine lv_iload_n hx hb dX10_takeOver_39 rfl (lv_at hl 0 rfl) ?_
          refine lv_bipush (v := 8) hx hb dX10_takeOver_40 (by decide) ?_
          refine lv_icmp_ge (tgt := 63) hx hb dX10_takeOver_42 (by decide) (fun c4 => ?_) (fun c9 => absurd (nI_le (a := 8) (b := 8) (show 8 ≤ 8 by omega) (by omega)) c9)
          refine lv_iconst (v := 0) hx hb dX10_takeOver_63 (by decide) ?_
          refine lv_istore_n (lv' := [(1, .int 0), (0, .ref w0)]) hx hb dX10_takeOver_64 rfl hl (by decide) rfl (fun ls hl => ?_)
          have loop3 : ∀ (n3 i3 : Nat) (f7_3 : Nat → Int32) (H : Heap) (locs : List Loc) (ls : Array Slot), i3 + n3 = 11 → Cp i3 fq f7_3 → va_P D vwCl [(oX10 w0 v0 v1 v2 v3 v4 g5 g6 (nI ed) g8 v9 (nI nb) g11 g12 v13 g14 g15 g16 g17 g18 g19 g20 g21 g22 g23 (nI cd) g25 g26 v27 v28 v29 v30 v31 v32 v33 v34 v35 v36 v37 (nI ol)), (v27, .inl (cA 1, 10, .inr (.inl f1_1))), (v28, .inl (cA 1, 10, .inr (.inl l28))), (v29, .inl (cA 1, 8, .inr (.inl f3_2))), (v30, .inl (cA 1, 8, .inr (.inl l30))), (v31, .inl (cA 0, 400, .inl f31)), (v32, .inl (cA 0, 400, .inl fc)), (v33, .inl (cA 0, 11, .inl f7_3)), (v34, .inl (cA 0, 11, .inl fq)), (v1, .inl (cA 0, 326, .inl fp)), (v0, .inl (cA 0, 326, .inl fn1))] H → va_D A [(oX10 w0 v0 v1 v2 v3 v4 g5 g6 (nI ed) g8 v9 (nI nb) g11 g12 v13 g14 g15 g16 g17 g18 g19 g20 g21 g22 g23 (nI cd) g25 g26 v27 v28 v29 v30 v31 v32 v33 v34 v35 v36 v37 (nI ol)), (v27, .inl (cA 1, 10, .inr (.inl f1_1))), (v28, .inl (cA 1, 10, .inr (.inl l28))), (v29, .inl (cA 1, 8, .inr (.inl f3_2))), (v30, .inl (cA 1, 8, .inr (.inl l30))), (v31, .inl (cA 0, 400, .inl f31)), (v32, .inl (cA 0, 400, .inl fc)), (v33, .inl (cA 0, 11, .inl f7_3)), (v34, .inl (cA 0, 11, .inl fq)), (v1, .inl (cA 0, 326, .inl fp)), (v0, .inl (cA 0, 326, .inl fn1))] → va_S A s.heap H locs → lv_has ls 2 [(1, .int (nI i3)), (0, .ref w0)] → W p l e (headSpec wsX10_takeOver ({ frames := 1, cells := 0, slots := 0, locals := 22 } : Room)).room s m ([.ref w0] : List Value).toArray below meth c H locs 0 0 (MQ below (va_Qv (fun _ : Unit => True) (fun (_ : Unit) t => ∃ zs : Nat → Int32, ∃ z31 : Nat → Int32, ∃ z33 : Nat → Int32, ∃ zl27 : Nat → Int64, ∃ zl29 : Nat → Int64, RI cn pq en dy zs ∧ CW cn z31 z33 ∧ NL ml cn zl27 ∧ NL pl pq zl29 ∧ Wq D A [(oX10 w0 v0 v1 v2 v3 v4 0 g6 0 g8 v9 (nI nb) g11 g12 v13 g14 g15 g16 g17 g18 g19 g20 g21 g22 g23 (nI cd) g25 g26 v27 v28 v29 v30 v31 v32 v33 v34 v35 v36 v37 (nI ol)), (v1, .inl (cA 0, 326, .inl fp)), (v0, .inl (cA 0, 326, .inl zs)), (v27, .inl (cA 1, 10, .inr (.inl zl27))), (v28, .inl (cA 1, 10, .inr (.inl l28))), (v29, .inl (cA 1, 8, .inr (.inl zl29))), (v30, .inl (cA 1, 8, .inr (.inl l30))), (v31, .inl (cA 0, 400, .inl z31)), (v32, .inl (cA 0, 400, .inl fc)), (v33, .inl (cA 0, 11, .inl z33)), (v34, .inl (cA 0, 11, .inl fq))] t) A) ([.ref w0] : List Value).toArray s 0 0 A) (F0 m 65 ls []) := by
            intro n3
            induction n3 with
            | zero =>
              intro i3 f7_3 H locs ls hi3 hv0_3 hP hD hS hl
              obtain rfl : 11 = i3 := by omega
              refine lv_iload_n hx hb dX10_takeOver_65 rfl (lv_at hl 0 rfl) ?_
              refine lv_bipush (v := 10) hx hb dX10_takeOver_66 (by decide) ?_
              refine lv_icmp_gt (tgt := 89) hx hb dX10_takeOver_68 (by decide) (fun c5 => ?_) (fun c9 => absurd (nI_lt (a := 10) (b := 11) (show 10 < 11 by omega) (by omega)) c9)
              refine lv_iconst (v := 0) hx hb dX10_takeOver_89 (by decide) ?_
              refine lv_istore_n (lv' := [(1, .int 0), (0, .ref w0)]) hx hb dX10_takeOver_90 rfl hl (by decide) rfl (fun ls hl => ?_)
              have loop4 : ∀ (n4 i4 : Nat) (f5_4 : Nat → Int32) (H : Heap) (locs : List Loc) (ls : Array Slot), i4 + n4 = cd → Cp i4 fc f5_4 → va_P D vwCl [(oX10 w0 v0 v1 v2 v3 v4 g5 g6 (nI ed) g8 v9 (nI nb) g11 g12 v13 g14 g15 g16 g17 g18 g19 g20 g21 g22 g23 (nI cd) g25 g26 v27 v28 v29 v30 v31 v32 v33 v34 v35 v36 v37 (nI ol)), (v27, .inl (cA 1, 10, .inr (.inl f1_1))), (v28, .inl (cA 1, 10, .inr (.inl l28))), (v29, .inl (cA 1, 8, .inr (.inl f3_2))), (v30, .inl (cA 1, 8, .inr (.inl l30))), (v31, .inl (cA 0, 400, .inl f5_4)), (v32, .inl (cA 0, 400, .inl fc)), (v33, .inl (cA 0, 11, .inl f7_3)), (v34, .inl (cA 0, 11, .inl fq)), (v1, .inl (cA 0, 326, .inl fp)), (v0, .inl (cA 0, 326, .inl fn1))] H → va_D A [(oX10 w0 v0 v1 v2 v3 v4 g5 g6 (nI ed) g8 v9 (nI nb) g11 g12 v13 g14 g15 g16 g17 g18 g19 g20 g21 g22 g23 (nI cd) g25 g26 v27 v28 v29 v30 v31 v32 v33 v34 v35 v36 v37 (nI ol)), (v27, .inl (cA 1, 10, .inr (.inl f1_1))), (v28, .inl (cA 1, 10, .inr (.inl l28))), (v29, .inl (cA 1, 8, .inr (.inl f3_2))), (v30, .inl (cA 1, 8, .inr (.inl l30))), (v31, .inl (cA 0, 400, .inl f5_4)), (v32, .inl (cA 0, 400, .inl fc)), (v33, .inl (cA 0, 11, .inl f7_3)), (v34, .inl (cA 0, 11, .inl fq)), (v1, .inl (cA 0, 326, .inl fp)), (v0, .inl (cA 0, 326, .inl fn1))] → va_S A s.heap H locs → lv_has ls 2 [(1, .int (nI i4)), (0, .ref w0)] → W p l e (headSpec wsX10_takeOver ({ frames := 1, cells := 0, slots := 0, locals := 22 } : Room)).room s m ([.ref w0] : List Value).toArray below meth c H locs 0 0 (MQ below (va_Qv (fun _ : Unit => True) (fun (_ : Unit) t => ∃ zs : Nat → Int32, ∃ z31 : Nat → Int32, ∃ z33 : Nat → Int32, ∃ zl27 : Nat → Int64, ∃ zl29 : Nat → Int64, RI cn pq en dy zs ∧ CW cn z31 z33 ∧ NL ml cn zl27 ∧ NL pl pq zl29 ∧ Wq D A [(oX10 w0 v0 v1 v2 v3 v4 0 g6 0 g8 v9 (nI nb) g11 g12 v13 g14 g15 g16 g17 g18 g19 g20 g21 g22 g23 (nI cd) g25 g26 v27 v28 v29 v30 v31 v32 v33 v34 v35 v36 v37 (nI ol)), (v1, .inl (cA 0, 326, .inl fp)), (v0, .inl (cA 0, 326, .inl zs)), (v27, .inl (cA 1, 10, .inr (.inl zl27))), (v28, .inl (cA 1, 10, .inr (.inl l28))), (v29, .inl (cA 1, 8, .inr (.inl zl29))), (v30, .inl (cA 1, 8, .inr (.inl l30))), (v31, .inl (cA 0, 400, .inl z31)), (v32, .inl (cA 0, 400, .inl fc)), (v33, .inl (cA 0, 11, .inl z33)), (v34, .inl (cA 0, 11, .inl fq))] t) A) ([.ref w0] : List Value).toArray s 0 0 A) (F0 m 91 ls []) := by
                intro n4
                induction n4 with
                | zero =>
                  intro i4 f5_4 H locs ls hi4 hv0_4 hP hD hS hl
                  obtain rfl : cd = i4 := by omega
                  refine lv_iload_n hx hb dX10_takeOver_91 rfl (lv_at hl 0 rfl) ?_
                  refine lv_aload_n hx hb dX10_takeOver_92 rfl (lv_at hl 1 rfl) ?_
                  refine va_get (D := D) (ci := 11) (v := .int (nI cd)) (C := RX10) (T := TX10) (N := 39) hx hb hts inX10 hown hK hP 0 rfl rfl 24 (by decide) (hts (.fieldLink RX10 167 "EscrowDeskModel" "codes" "I") (by decide +kernel)) (fun _ h9 => h9) rfl dX10_takeOver_93 ?_
                  refine lv_icmp_ge (tgt := 117) hx hb dX10_takeOver_96 (by decide) (fun c6 => ?_) (fun c9 => absurd (nI_le (a := cd) (b := cd) (show cd ≤ cd by omega) (by omega)) c9)
                  refine lv_aload_n hx hb dX10_takeOver_117 rfl (lv_at hl 1 rfl) ?_
                  refine lv_lconst (v := 0) hx hb dX10_takeOver_118 (by decide) ?_
                  refine va_put (D := D) (ci := 11) (v := .long 0) (ty := .long) (C := RX10) (T := TX10) (N := 39) hx hb hts inX10 tyX10 tyX10_ok nmX10 hown hK hP hD hS 0 rfl rfl 5 (by decide) (hts (.fieldLink RX10 86 "EscrowDeskModel" "parts" "J") (by decide +kernel)) (fun _ h9 => h9) rfl (by decide +kernel) rfl rfl (Nat.le_of_ble_eq_true rfl) dX10_takeOver_119 (fun H locs hP hD hS => ?_)
                  obtain ⟨hP, hD⟩ : PDq D A [(oX10 w0 v0 v1 v2 v3 v4 0 g6 (nI ed) g8 v9 (nI nb) g11 g12 v13 g14 g15 g16 g17 g18 g19 g20 g21 g22 g23 (nI cd) g25 g26 v27 v28 v29 v30 v31 v32 v33 v34 v35 v36 v37 (nI ol)), (v27, .inl (cA 1, 10, .inr (.inl f1_1))), (v28, .inl (cA 1, 10, .inr (.inl l28))), (v29, .inl (cA 1, 8, .inr (.inl f3_2))), (v30, .inl (cA 1, 8, .inr (.inl l30))), (v31, .inl (cA 0, 400, .inl f5_4)), (v32, .inl (cA 0, 400, .inl fc)), (v33, .inl (cA 0, 11, .inl f7_3)), (v34, .inl (cA 0, 11, .inl fq)), (v1, .inl (cA 0, 326, .inl fp)), (v0, .inl (cA 0, 326, .inl fn1))] H := ⟨hP, hD⟩
                  refine lv_aload_n hx hb dX10_takeOver_122 rfl (lv_at hl 1 rfl) ?_
                  refine lv_iconst (v := 0) hx hb dX10_takeOver_123 (by decide) ?_
                  refine va_put (D := D) (ci := 11) (v := .int 0) (ty := .int) (C := RX10) (T := TX10) (N := 39) hx hb hts inX10 tyX10 tyX10_ok nmX10 hown hK hP hD hS 0 rfl rfl 7 (by decide) (hts (.fieldLink RX10 83 "EscrowDeskModel" "edits" "I") (by decide +kernel)) (fun _ h9 => h9) rfl (by decide +kernel) rfl rfl (Nat.le_of_ble_eq_true rfl) dX10_takeOver_124 (fun H locs hP hD hS => ?_)
                  obtain ⟨hP, hD⟩ : PDq D A [(oX10 w0 v0 v1 v2 v3 v4 0 g6 0 g8 v9 (nI nb) g11 g12 v13 g14 g15 g16 g17 g18 g19 g20 g21 g22 g23 (nI cd) g25 g26 v27 v28 v29 v30 v31 v32 v33 v34 v35 v36 v37 (nI ol)), (v27, .inl (cA 1, 10, .inr (.inl f1_1))), (v28, .inl (cA 1, 10, .inr (.inl l28))), (v29, .inl (cA 1, 8, .inr (.inl f3_2))), (v30, .inl (cA 1, 8, .inr (.inl l30))), (v31, .inl (cA 0, 400, .inl f5_4)), (v32, .inl (cA 0, 400, .inl fc)), (v33, .inl (cA 0, 11, .inl f7_3)), (v34, .inl (cA 0, 11, .inl fq)), (v1, .inl (cA 0, 326, .inl fp)), (v0, .inl (cA 0, 326, .inl fn1))] H := ⟨hP, hD⟩
                  obtain ⟨hP9, hD9⟩ := PDq.sub (ws' := [(oX10 w0 v0 v1 v2 v3 v4 0 g6 0 g8 v9 (nI nb) g11 g12 v13 g14 g15 g16 g17 g18 g19 g20 g21 g22 g23 (nI cd) g25 g26 v27 v28 v29 v30 v31 v32 v33 v34 v35 v36 v37 (nI ol)), (v1, .inl (cA 0, 326, .inl fp)), (v0, .inl (cA 0, 326, .inl fn1)), (v27, .inl (cA 1, 10, .inr (.inl f1_1))), (v28, .inl (cA 1, 10, .inr (.inl l28))), (v29, .inl (cA 1, 8, .inr (.inl f3_2))), (v30, .inl (cA 1, 8, .inr (.inl l30))), (v31, .inl (cA 0, 400, .inl f5_4)), (v32, .inl (cA 0, 400, .inl fc)), (v33, .inl (cA 0, 11, .inl f7_3)), (v34, .inl (cA 0, 11, .inl fq))]) hP hD [0, 9, 10, 1, 2, 3, 4, 5, 6, 7, 8] (by decide +kernel) rfl
                  refine W.widen (k := 0) (n := 0) (Nat.le_of_ble_eq_true rfl) (Nat.le_of_ble_eq_true rfl) ?_
                  exact (W.vret hx hb hr (fun t ht hW => ⟨⟨(), rfl, trivial, fn1, f5_4, f7_3, f1_1, f3_2, hn2, (CR.cw hCR hcd hcn hv0_4 hv0_3), (NL.cp hNM (by omega) hv0_1), (NL.cp hNP (by omega) hv0_2), by rw [ht]; exact hP9, hD9⟩, hS.F ht⟩) hS.2.2 dX10_takeOver_127)
                | succ n4 ih4 =>
                  intro i4 f5_4 H locs ls hi4 hv0_4 hP hD hS hl
                  refine lv_iload_n hx hb dX10_takeOver_91 rfl (lv_at hl 0 rfl) ?_
                  refine lv_aload_n hx hb dX10_takeOver_92 rfl (lv_at hl 1 rfl) ?_
                  refine va_get (D := D) (ci := 11) (v := .int (nI cd)) (C := RX10) (T := TX10) (N := 39) hx hb hts inX10 hown hK hP 0 rfl rfl 24 (by decide) (hts (.fieldLink RX10 167 "EscrowDeskModel" "codes" "I") (by decide +kernel)) (fun _ h9 => h9) rfl dX10_takeOver_93 ?_
                  refine lv_icmp_ge (tgt := 117) hx hb dX10_takeOver_96 (by decide) (fun c9 => absurd c9 (nI_ge (a := i4) (b := cd) (show i4 < cd by omega) (by omega))) (fun c7 => ?_)
                  refine lv_aload_n hx hb dX10_takeOver_99 rfl (lv_at hl 1 rfl) ?_
                  refine va_get (D := D) (ci := 11) (v := .ref v31) (C := RX10) (T := TX10) (N := 39) hx hb hts inX10 hown hK hP 0 rfl rfl 31 (by decide) (hts (.fieldLink RX10 48 "EscrowDeskModel" "code" "[I") (by decide +kernel)) (fun _ h9 => h9) rfl dX10_takeOver_100 ?_
                  refine lv_iload_n hx hb dX10_takeOver_103 rfl (lv_at hl 0 rfl) ?_
                  refine lv_aload_n hx hb dX10_takeOver_104 rfl (lv_at hl 1 rfl) ?_
                  refine va_get (D := D) (ci := 11) (v := .ref v32) (C := RX10) (T := TX10) (N := 39) hx hb hts inX10 hown hK hP 0 rfl rfl 32 (by decide) (hts (.fieldLink RX10 51 "EscrowDeskModel" "codeRead" "[I") (by decide +kernel)) (fun _ h9 => h9) rfl dX10_takeOver_105 ?_
                  refine lv_iload_n hx hb dX10_takeOver_108 rfl (lv_at hl 0 rfl) ?_
                  refine va_iald hx hb hK hP 6 0 rfl rfl (vp_in_nI (n := i4) (N := 400) (show i4 < 400 by omega) (by decide)) dX10_takeOver_109 ?_
                  refine lv_topi (fun yn8 eyn8 => ?_)
                  refine va_iast hx hb hK hP hD hS 5 0 rfl rfl (vp_in_nI (n := i4) (N := 400) (show i4 < 400 by omega) (by decide)) dX10_takeOver_110 (fun H locs hP hD hS => ?_)
                  obtain ⟨hP, hD⟩ : PDq D A [(oX10 w0 v0 v1 v2 v3 v4 g5 g6 (nI ed) g8 v9 (nI nb) g11 g12 v13 g14 g15 g16 g17 g18 g19 g20 g21 g22 g23 (nI cd) g25 g26 v27 v28 v29 v30 v31 v32 v33 v34 v35 v36 v37 (nI ol)), (v27, .inl (cA 1, 10, .inr (.inl f1_1))), (v28, .inl (cA 1, 10, .inr (.inl l28))), (v29, .inl (cA 1, 8, .inr (.inl f3_2))), (v30, .inl (cA 1, 8, .inr (.inl l30))), (v31, .inl (cA 0, 400, .inl (upd f5_4 (((nI i4)).toNatClampNeg) yn8))), (v32, .inl (cA 0, 400, .inl fc)), (v33, .inl (cA 0, 11, .inl f7_3)), (v34, .inl (cA 0, 11, .inl fq)), (v1, .inl (cA 0, 326, .inl fp)), (v0, .inl (cA 0, 326, .inl fn1))] H := ⟨hP, hD⟩
                  have hn10 : Cp (i4 + 1) fc (upd f5_4 (((nI i4)).toNatClampNeg) yn8) := (by rw [eyn8]; exact Cp.step (by omega) hv0_4)
                  generalize (upd f5_4 (((nI i4)).toNatClampNeg) yn8) = fn9 at hP hD hn10
                  obtain ⟨hP, hD⟩ : PDq D A [(oX10 w0 v0 v1 v2 v3 v4 g5 g6 (nI ed) g8 v9 (nI nb) g11 g12 v13 g14 g15 g16 g17 g18 g19 g20 g21 g22 g23 (nI cd) g25 g26 v27 v28 v29 v30 v31 v32 v33 v34 v35 v36 v37 (nI ol)), (v27, .inl (cA 1, 10, .inr (.inl f1_1))), (v28, .inl (cA 1, 10, .inr (.inl l28))), (v29, .inl (cA 1, 8, .inr (.inl f3_2))), (v30, .inl (cA 1, 8, .inr (.inl l30))), (v31, .inl (cA 0, 400, .inl fn9)), (v32, .inl (cA 0, 400, .inl fc)), (v33, .inl (cA 0, 11, .inl f7_3)), (v34, .inl (cA 0, 11, .inl fq)), (v1, .inl (cA 0, 326, .inl fp)), (v0, .inl (cA 0, 326, .inl fn1))] H := ⟨hP, hD⟩
                  refine lv_iinc (v := (nI (i4 + 1))) (lv' := [(1, .int (nI (i4 + 1))), (0, .ref w0)]) hx hb dX10_takeOver_111 hl (k := 0) rfl (nI_1 _) (by decide) rfl (fun ls hl => ?_)
                  refine lv_goto (tgt := 91) hx hb dX10_takeOver_114 (by decide) ?_
                  obtain ⟨hP9, hD9⟩ := PDq.sub (ws' := [(oX10 w0 v0 v1 v2 v3 v4 g5 g6 (nI ed) g8 v9 (nI nb) g11 g12 v13 g14 g15 g16 g17 g18 g19 g20 g21 g22 g23 (nI cd) g25 g26 v27 v28 v29 v30 v31 v32 v33 v34 v35 v36 v37 (nI ol)), (v27, .inl (cA 1, 10, .inr (.inl f1_1))), (v28, .inl (cA 1, 10, .inr (.inl l28))), (v29, .inl (cA 1, 8, .inr (.inl f3_2))), (v30, .inl (cA 1, 8, .inr (.inl l30))), (v31, .inl (cA 0, 400, .inl fn9)), (v32, .inl (cA 0, 400, .inl fc)), (v33, .inl (cA 0, 11, .inl f7_3)), (v34, .inl (cA 0, 11, .inl fq)), (v1, .inl (cA 0, 326, .inl fp)), (v0, .inl (cA 0, 326, .inl fn1))]) hP hD [0, 1, 2, 3, 4, 5, 6, 7, 8, 9, 10] (by decide +kernel) rfl
                  exact ih4 (i4 + 1) fn9 H _ ls (by omega) hn10 hP9 hD9 hS (lv_sub hl [0, 1] rfl)
              obtain ⟨hP9, hD9⟩ := PDq.sub (ws' := [(oX10 w0 v0 v1 v2 v3 v4 g5 g6 (nI ed) g8 v9 (nI nb) g11 g12 v13 g14 g15 g16 g17 g18 g19 g20 g21 g22 g23 (nI cd) g25 g26 v27 v28 v29 v30 v31 v32 v33 v34 v35 v36 v37 (nI ol)), (v27, .inl (cA 1, 10, .inr (.inl f1_1))), (v28, .inl (cA 1, 10, .inr (.inl l28))), (v29, .inl (cA 1, 8, .inr (.inl f3_2))), (v30, .inl (cA 1, 8, .inr (.inl l30))), (v31, .inl (cA 0, 400, .inl f31)), (v32, .inl (cA 0, 400, .inl fc)), (v33, .inl (cA 0, 11, .inl f7_3)), (v34, .inl (cA 0, 11, .inl fq)), (v1, .inl (cA 0, 326, .inl fp)), (v0, .inl (cA 0, 326, .inl fn1))]) hP hD [0, 1, 2, 3, 4, 5, 6, 7, 8, 9, 10] (by decide +kernel) rfl
              exact loop4 (cd - 0) 0 f31 _ _ ls (by omega) (fun j hj => absurd hj (Nat.not_lt_zero j)) hP9 hD9 hS (lv_sub hl [0, 1] rfl)
            | succ n3 ih3 =>
              intro i3 f7_3 H locs ls hi3 hv0_3 hP hD hS hl
              refine lv_iload_n hx hb dX10_takeOver_65 rfl (lv_at hl 0 rfl) ?_
              refine lv_bipush (v := 10) hx hb dX10_takeOver_66 (by decide) ?_
              refine lv_icmp_gt (tgt := 89) hx hb dX10_takeOver_68 (by decide) (fun c9 => absurd c9 (nI_nlt (a := 10) (b := i3) (show i3 ≤ 10 by omega) (by omega))) (fun c11 => ?_)
              refine lv_aload_n hx hb dX10_takeOver_71 rfl (lv_at hl 1 rfl) ?_
              refine va_get (D := D) (ci := 11) (v := .ref v33) (C := RX10) (T := TX10) (N := 39) hx hb hts inX10 hown hK hP 0 rfl rfl 33 (by decide) (hts (.fieldLink RX10 54 "EscrowDeskModel" "codeFrom" "[I") (by decide +kernel)) (fun _ h9 => h9) rfl dX10_takeOver_72 ?_
              refine lv_iload_n hx hb dX10_takeOver_75 rfl (lv_at hl 0 rfl) ?_
              refine lv_aload_n hx hb dX10_takeOver_76 rfl (lv_at hl 1 rfl) ?_
              refine va_get (D := D) (ci := 11) (v := .ref v34) (C := RX10) (T := TX10) (N := 39) hx hb hts inX10 hown hK hP 0 rfl rfl 34 (by decide) (hts (.fieldLink RX10 57 "EscrowDeskModel" "fromRead" "[I") (by decide +kernel)) (fun _ h9 => h9) rfl dX10_takeOver_77 ?_
              refine lv_iload_n hx hb dX10_takeOver_80 rfl (lv_at hl 0 rfl) ?_
              refine va_iald hx hb hK hP 8 0 rfl rfl (vp_in_nI (n := i3) (N := 11) (show i3 < 11 by omega) (by decide)) dX10_takeOver_81 ?_
              refine lv_topi (fun yn12 eyn12 => ?_)
              refine va_iast hx hb hK hP hD hS 7 0 rfl rfl (vp_in_nI (n := i3) (N := 11) (show i3 < 11 by omega) (by decide)) dX10_takeOver_82 (fun H locs hP hD hS => ?_)
              obtain ⟨hP, hD⟩ : PDq D A [(oX10 w0 v0 v1 v2 v3 v4 g5 g6 (nI ed) g8 v9 (nI nb) g11 g12 v13 g14 g15 g16 g17 g18 g19 g20 g21 g22 g23 (nI cd) g25 g26 v27 v28 v29 v30 v31 v32 v33 v34 v35 v36 v37 (nI ol)), (v27, .inl (cA 1, 10, .inr (.inl f1_1))), (v28, .inl (cA 1, 10, .inr (.inl l28))), (v29, .inl (cA 1, 8, .inr (.inl f3_2))), (v30, .inl (cA 1, 8, .inr (.inl l30))), (v31, .inl (cA 0, 400, .inl f31)), (v32, .inl (cA 0, 400, .inl fc)), (v33, .inl (cA 0, 11, .inl (upd f7_3 (((nI i3)).toNatClampNeg) yn12))), (v34, .inl (cA 0, 11, .inl fq)), (v1, .inl (cA 0, 326, .inl fp)), (v0, .inl (cA 0, 326, .inl fn1))] H := ⟨hP, hD⟩
              have hn14 : Cp (i3 + 1) fq (upd f7_3 (((nI i3)).toNatClampNeg) yn12) := (by rw [eyn12]; exact Cp.step (by omega) hv0_3)
              generalize (upd f7_3 (((nI i3)).toNatClampNeg) yn12) = fn13 at hP hD hn14
              obtain ⟨hP, hD⟩ : PDq D A [(oX10 w0 v0 v1 v2 v3 v4 g5 g6 (nI ed) g8 v9 (nI nb) g11 g12 v13 g14 g15 g16 g17 g18 g19 g20 g21 g22 g23 (nI cd) g25 g26 v27 v28 v29 v30 v31 v32 v33 v34 v35 v36 v37 (nI ol)), (v27, .inl (cA 1, 10, .inr (.inl f1_1))), (v28, .inl (cA 1, 10, .inr (.inl l28))), (v29, .inl (cA 1, 8, .inr (.inl f3_2))), (v30, .inl (cA 1, 8, .inr (.inl l30))), (v31, .inl (cA 0, 400, .inl f31)), (v32, .inl (cA 0, 400, .inl fc)), (v33, .inl (cA 0, 11, .inl fn13)), (v34, .inl (cA 0, 11, .inl fq)), (v1, .inl (cA 0, 326, .inl fp)), (v0, .inl (cA 0, 326, .inl fn1))] H := ⟨hP, hD⟩
              refine lv_iinc (v := (nI (i3 + 1))) (lv' := [(1, .int (nI (i3 + 1))), (0, .ref w0)]) hx hb dX10_takeOver_83 hl (k := 0) rfl (nI_1 _) (by decide) rfl (fun ls hl => ?_)
              refine lv_goto (tgt := 65) hx hb dX10_takeOver_86 (by decide) ?_
              obtain ⟨hP9, hD9⟩ := PDq.sub (ws' := [(oX10 w0 v0 v1 v2 v3 v4 g5 g6 (nI ed) g8 v9 (nI nb) g11 g12 v13 g14 g15 g16 g17 g18 g19 g20 g21 g22 g23 (nI cd) g25 g26 v27 v28 v29 v30 v31 v32 v33 v34 v35 v36 v37 (nI ol)), (v27, .inl (cA 1, 10, .inr (.inl f1_1))), (v28, .inl (cA 1, 10, .inr (.inl l28))), (v29, .inl (cA 1, 8, .inr (.inl f3_2))), (v30, .inl (cA 1, 8, .inr (.inl l30))), (v31, .inl (cA 0, 400, .inl f31)), (v32, .inl (cA 0, 400, .inl fc)), (v33, .inl (cA 0, 11, .inl fn13)), (v34, .inl (cA 0, 11, .inl fq)), (v1, .inl (cA 0, 326, .inl fp)), (v0, .inl (cA 0, 326, .inl fn1))]) hP hD [0, 1, 2, 3, 4, 5, 6, 7, 8, 9, 10] (by decide +kernel) rfl
              exact ih3 (i3 + 1) fn13 H _ ls (by omega) hn14 hP9 hD9 hS (lv_sub hl [0, 1] rfl)
          obtain ⟨hP9, hD9⟩ := PDq.sub (ws' := [(oX10 w0 v0 v1 v2 v3 v4 g5 g6 (nI ed) g8 v9 (nI nb) g11 g12 v13 g14 g15 g16 g17 g18 g19 g20 g21 g22 g23 (nI cd) g25 g26 v27 v28 v29 v30 v31 v32 v33 v34 v35 v36 v37 (nI ol)), (v27, .inl (cA 1, 10, .inr (.inl f1_1))), (v28, .inl (cA 1, 10, .inr (.inl l28))), (v29, .inl (cA 1, 8, .inr (.inl f3_2))), (v30, .inl (cA 1, 8, .inr (.inl l30))), (v31, .inl (cA 0, 400, .inl f31)), (v32, .inl (cA 0, 400, .inl fc)), (v33, .inl (cA 0, 11, .inl f33)), (v34, .inl (cA 0, 11, .inl fq)), (v1, .inl (cA 0, 326, .inl fp)), (v0, .inl (cA 0, 326, .inl fn1))]) hP hD [0, 1, 2, 3, 4, 5, 6, 7, 8, 9, 10] (by decide +kernel) rfl
          exact loop3 (11 - 0) 0 f33 _ _ ls (by omega) (fun j hj => absurd hj (Nat.not_lt_zero j)) hP9 hD9 hS (lv_sub hl [0, 1] rfl)
        | succ n2 ih2 =>
          intro i2 f3_2 H locs ls hi2 hv0_2 hP hD hS hl
          refine lv_iload_n hx hb dX10_takeOver_39 rfl (lv_at hl 0 rfl) ?_
          refine lv_bipush (v := 8) hx hb dX10_takeOver_40 (by decide) ?_
          refine lv_icmp_ge (tgt := 63) hx hb dX10_takeOver_42 (by decide) (fun c9 => absurd c9 (nI_ge (a := i2) (b := 8) (show i2 < 8 by omega) (by omega))) (fun c15 => ?_)
          refine lv_aload_n hx hb dX10_takeOver_45 rfl (lv_at hl 1 rfl) ?_
          refine va_get (D := D) (ci := 11) (v := .ref v29) (C := RX10) (T := TX10) (N := 39) hx hb hts inX10 hown hK hP 0 rfl rfl 29 (by decide) (hts (.fieldLink RX10 42 "EscrowDeskModel" "proofNames" "[J") (by decide +kernel)) (fun _ h9 => h9) rfl dX10_takeOver_46 ?_
          refine lv_iload_n hx hb dX10_takeOver_49 rfl (lv_at hl 0 rfl) ?_
          refine lv_aload_n hx hb dX10_takeOver_50 rfl (lv_at hl 1 rfl) ?_
          refine va_get (D := D) (ci := 11) (v := .ref v30) (C := RX10) (T := TX10) (N := 39) hx hb hts inX10 hown hK hP 0 rfl rfl 30 (by decide) (hts (.fieldLink RX10 45 "EscrowDeskModel" "proofsRead" "[J") (by decide +kernel)) (fun _ h9 => h9) rfl dX10_takeOver_51 ?_
          refine lv_iload_n hx hb dX10_takeOver_54 rfl (lv_at hl 0 rfl) ?_
          refine va_lald hx hb hK hP 4 1 rfl rfl (vp_in_nI (n := i2) (N := 8) (show i2 < 8 by omega) (by decide)) dX10_takeOver_55 ?_
          refine lv_topl (fun yn16 eyn16 => ?_)
          obtain rfl : yn16 = (l30 i2) := eyn16.trans (by rw [nI_clamp (by omega)])
          refine va_last hx hb hK hP hD hS 3 1 rfl rfl (vp_in_nI (n := i2) (N := 8) (show i2 < 8 by omega) (by decide)) dX10_takeOver_56 (fun H locs hP hD hS => ?_)
          obtain ⟨hP, hD⟩ : PDq D A [(oX10 w0 v0 v1 v2 v3 v4 g5 g6 (nI ed) g8 v9 (nI nb) g11 g12 v13 g14 g15 g16 g17 g18 g19 g20 g21 g22 g23 (nI cd) g25 g26 v27 v28 v29 v30 v31 v32 v33 v34 v35 v36 v37 (nI ol)), (v27, .inl (cA 1, 10, .inr (.inl f1_1))), (v28, .inl (cA 1, 10, .inr (.inl l28))), (v29, .inl (cA 1, 8, .inr (.inl (vp_updL f3_2 (((nI i2)).toNatClampNeg) (l30 i2))))), (v30, .inl (cA 1, 8, .inr (.inl l30))), (v31, .inl (cA 0, 400, .inl f31)), (v32, .inl (cA 0, 400, .inl fc)), (v33, .inl (cA 0, 11, .inl f33)), (v34, .inl (cA 0, 11, .inl fq)), (v1, .inl (cA 0, 326, .inl fp)), (v0, .inl (cA 0, 326, .inl fn1))] H := ⟨hP, hD⟩
          have hn18 : CpL (i2 + 1) l30 (vp_updL f3_2 (((nI i2)).toNatClampNeg) (l30 i2)) := (CpL.step hv0_2 (by omega))
          generalize (vp_updL f3_2 (((nI i2)).toNatClampNeg) (l30 i2)) = fn17 at hP hD hn18
          obtain ⟨hP, hD⟩ : PDq D A [(oX10 w0 v0 v1 v2 v3 v4 g5 g6 (nI ed) g8 v9 (nI nb) g11 g12 v13 g14 g15 g16 g17 g18 g19 g20 g21 g22 g23 (nI cd) g25 g26 v27 v28 v29 v30 v31 v32 v33 v34 v35 v36 v37 (nI ol)), (v27, .inl (cA 1, 10, .inr (.inl f1_1))), (v28, .inl (cA 1, 10, .inr (.inl l28))), (v29, .inl (cA 1, 8, .inr (.inl fn17))), (v30, .inl (cA 1, 8, .inr (.inl l30))), (v31, .inl (cA 0, 400, .inl f31)), (v32, .inl (cA 0, 400, .inl fc)), (v33, .inl (cA 0, 11, .inl f33)), (v34, .inl (cA 0, 11, .inl fq)), (v1, .inl (cA 0, 326, .inl fp)), (v0, .inl (cA 0, 326, .inl fn1))] H := ⟨hP, hD⟩
          refine lv_iinc (v := (nI (i2 + 1))) (lv' := [(1, .int (nI (i2 + 1))), (0, .ref w0)]) hx hb dX10_takeOver_57 hl (k := 0) rfl (nI_1 _) (by decide) rfl (fun ls hl => ?_)
          refine lv_goto (tgt := 39) hx hb dX10_takeOver_60 (by decide) ?_
          obtain ⟨hP9, hD9⟩ := PDq.sub (ws' := [(oX10 w0 v0 v1 v2 v3 v4 g5 g6 (nI ed) g8 v9 (nI nb) g11 g12 v13 g14 g15 g16 g17 g18 g19 g20 g21 g22 g23 (nI cd) g25 g26 v27 v28 v29 v30 v31 v32 v33 v34 v35 v36 v37 (nI ol)), (v27, .inl (cA 1, 10, .inr (.inl f1_1))), (v28, .inl (cA 1, 10, .inr (.inl l28))), (v29, .inl (cA 1, 8, .inr (.inl fn17))), (v30, .inl (cA 1, 8, .inr (.inl l30))), (v31, .inl (cA 0, 400, .inl f31)), (v32, .inl (cA 0, 400, .inl fc)), (v33, .inl (cA 0, 11, .inl f33)), (v34, .inl (cA 0, 11, .inl fq)), (v1, .inl (cA 0, 326, .inl fp)), (v0, .inl (cA 0, 326, .inl fn1))]) hP hD [0, 1, 2, 3, 4, 5, 6, 7, 8, 9, 10] (by decide +kernel) rfl
          exact ih2 (i2 + 1) fn17 H _ ls (by omega) hn18 hP9 hD9 hS (lv_sub hl [0, 1] rfl)
      obtain ⟨hP9, hD9⟩ := PDq.sub (ws' := [(oX10 w0 v0 v1 v2 v3 v4 g5 g6 (nI ed) g8 v9 (nI nb) g11 g12 v13 g14 g15 g16 g17 g18 g19 g20 g21 g22 g23 (nI cd) g25 g26 v27 v28 v29 v30 v31 v32 v33 v34 v35 v36 v37 (nI ol)), (v27, .inl (cA 1, 10, .inr (.inl f1_1))), (v28, .inl (cA 1, 10, .inr (.inl l28))), (v29, .inl (cA 1, 8, .inr (.inl l29))), (v30, .inl (cA 1, 8, .inr (.inl l30))), (v31, .inl (cA 0, 400, .inl f31)), (v32, .inl (cA 0, 400, .inl fc)), (v33, .inl (cA 0, 11, .inl f33)), (v34, .inl (cA 0, 11, .inl fq)), (v1, .inl (cA 0, 326, .inl fp)), (v0, .inl (cA 0, 326, .inl fn1))]) hP hD [0, 1, 2, 3, 4, 5, 6, 7, 8, 9, 10] (by decide +kernel) rfl
      exact loop2 (8 - 0) 0 l29 _ _ ls (by omega) (CpL.zero l30 l29) hP9 hD9 hS (lv_sub hl [0, 1] rfl)
    | succ n1 ih1 =>
      intro i1 f1_1 H locs ls hi1 hv0_1 hP hD hS hl
      refine lv_iload_n hx hb dX10_takeOver_13 rfl (lv_at hl 0 rfl) ?_
      refine lv_bipush (v := 10) hx hb dX10_takeOver_14 (by decide) ?_
      refine lv_icmp_ge (tgt := 37) hx hb dX10_takeOver_16 (by decide) (fun c9 => absurd c9 (nI_ge (a := i1) (b := 10) (show i1 < 10 by omega) (by omega))) (fun c19 => ?_)
      refine lv_aload_n hx hb dX10_takeOver_19 rfl (lv_at hl 1 rfl) ?_
      refine va_get (D := D) (ci := 11) (v := .ref v27) (C := RX10) (T := TX10) (N := 39) hx hb hts inX10 hown hK hP 0 rfl rfl 27 (by decide) (hts (.fieldLink RX10 36 "EscrowDeskModel" "names" "[J") (by decide +kernel)) (fun _ h9 => h9) rfl dX10_takeOver_20 ?_
      refine lv_iload_n hx hb dX10_takeOver_23 rfl (lv_at hl 0 rfl) ?_
      refine lv_aload_n hx hb dX10_takeOver_24 rfl (lv_at hl 1 rfl) ?_
      refine va_get (D := D) (ci := 11) (v := .ref v28) (C := RX10) (T := TX10) (N := 39) hx hb hts inX10 hown hK hP 0 rfl rfl 28 (by decide) (hts (.fieldLink RX10 39 "EscrowDeskModel" "namesRead" "[J") (by decide +kernel)) (fun _ h9 => h9) rfl dX10_takeOver_25 ?_
      refine lv_iload_n hx hb dX10_takeOver_28 rfl (lv_at hl 0 rfl) ?_
      refine va_lald hx hb hK hP 2 1 rfl rfl (vp_in_nI (n := i1) (N := 10) (show i1 < 10 by omega) (by decide)) dX10_takeOver_29 ?_
      refine lv_topl (fun yn20 eyn20 => ?_)
      obtain rfl : yn20 = (l28 i1) := eyn20.trans (by rw [nI_clamp (by omega)])
      refine va_last hx hb hK hP hD hS 1 1 rfl rfl (vp_in_nI (n := i1) (N := 10) (show i1 < 10 by omega) (by decide)) dX10_takeOver_30 (fun H locs hP hD hS => ?_)
      obtain ⟨hP, hD⟩ : PDq D A [(oX10 w0 v0 v1 v2 v3 v4 g5 g6 (nI ed) g8 v9 (nI nb) g11 g12 v13 g14 g15 g16 g17 g18 g19 g20 g21 g22 g23 (nI cd) g25 g26 v27 v28 v29 v30 v31 v32 v33 v34 v35 v36 v37 (nI ol)), (v27, .inl (cA 1, 10, .inr (.inl (vp_updL f1_1 (((nI i1)).toNatClampNeg) (l28 i1))))), (v28, .inl (cA 1, 10, .inr (.inl l28))), (v29, .inl (cA 1, 8, .inr (.inl l29))), (v30, .inl (cA 1, 8, .inr (.inl l30))), (v31, .inl (cA 0, 400, .inl f31)), (v32, .inl (cA 0, 400, .inl fc)), (v33, .inl (cA 0, 11, .inl f33)), (v34, .inl (cA 0, 11, .inl fq)), (v1, .inl (cA 0, 326, .inl fp)), (v0, .inl (cA 0, 326, .inl fn1))] H := ⟨hP, hD⟩
      have hn22 : CpL (i1 + 1) l28 (vp_updL f1_1 (((nI i1)).toNatClampNeg) (l28 i1)) := (CpL.step hv0_1 (by omega))
      generalize (vp_updL f1_1 (((nI i1)).toNatClampNeg) (l28 i1)) = fn21 at hP hD hn22
      obtain ⟨hP, hD⟩ : PDq D A [(oX10 w0 v0 v1 v2 v3 v4 g5 g6 (nI ed) g8 v9 (nI nb) g11 g12 v13 g14 g15 g16 g17 g18 g19 g20 g21 g22 g23 (nI cd) g25 g26 v27 v28 v29 v30 v31 v32 v33 v34 v35 v36 v37 (nI ol)), (v27, .inl (cA 1, 10, .inr (.inl fn21))), (v28, .inl (cA 1, 10, .inr (.inl l28))), (v29, .inl (cA 1, 8, .inr (.inl l29))), (v30, .inl (cA 1, 8, .inr (.inl l30))), (v31, .inl (cA 0, 400, .inl f31)), (v32, .inl (cA 0, 400, .inl fc)), (v33, .inl (cA 0, 11, .inl f33)), (v34, .inl (cA 0, 11, .inl fq)), (v1, .inl (cA 0, 326, .inl fp)), (v0, .inl (cA 0, 326, .inl fn1))] H := ⟨hP, hD⟩
      refine lv_iinc (v := (nI (i1 + 1))) (lv' := [(1, .int (nI (i1 + 1))), (0, .ref w0)]) hx hb dX10_takeOver_31 hl (k := 0) rfl (nI_1 _) (by decide) rfl (fun ls hl => ?_)
      refine lv_goto (tgt := 13) hx hb dX10_takeOver_34 (by decide) ?_
      obtain ⟨hP9, hD9⟩ := PDq.sub (ws' := [(oX10 w0 v0 v1 v2 v3 v4 g5 g6 (nI ed) g8 v9 (nI nb) g11 g12 v13 g14 g15 g16 g17 g18 g19 g20 g21 g22 g23 (nI cd) g25 g26 v27 v28 v29 v30 v31 v32 v33 v34 v35 v36 v37 (nI ol)), (v27, .inl (cA 1, 10, .inr (.inl fn21))), (v28, .inl (cA 1, 10, .inr (.inl l28))), (v29, .inl (cA 1, 8, .inr (.inl l29))), (v30, .inl (cA 1, 8, .inr (.inl l30))), (v31, .inl (cA 0, 400, .inl f31)), (v32, .inl (cA 0, 400, .inl fc)), (v33, .inl (cA 0, 11, .inl f33)), (v34, .inl (cA 0, 11, .inl fq)), (v1, .inl (cA 0, 326, .inl fp)), (v0, .inl (cA 0, 326, .inl fn1))]) hP hD [0, 1, 2, 3, 4, 5, 6, 7, 8, 9, 10] (by decide +kernel) rfl
      exact ih1 (i1 + 1) fn21 H _ ls (by omega) hn22 hP9 hD9 hS (lv_sub hl [0, 1] rfl)
  obtain ⟨hP9, hD9⟩ := PDq.sub (ws' := [(oX10 w0 v0 v1 v2 v3 v4 g5 g6 (nI ed) g8 v9 (nI nb) g11 g12 v13 g14 g15 g16 g17 g18 g19 g20 g21 g22 g23 (nI cd) g25 g26 v27 v28 v29 v30 v31 v32 v33 v34 v35 v36 v37 (nI ol)), (v27, .inl (cA 1, 10, .inr (.inl l27))), (v28, .inl (cA 1, 10, .inr (.inl l28))), (v29, .inl (cA 1, 8, .inr (.inl l29))), (v30, .inl (cA 1, 8, .inr (.inl l30))), (v31, .inl (cA 0, 400, .inl f31)), (v32, .inl (cA 0, 400, .inl fc)), (v33, .inl (cA 0, 11, .inl f33)), (v34, .inl (cA 0, 11, .inl fq)), (v1, .inl (cA 0, 326, .inl fp)), (v0, .inl (cA 0, 326, .inl fn1))]) hP hD [0, 1, 2, 3, 4, 5, 6, 7, 8, 9, 10] (by decide +kernel) rfl
  exact loop1 (10 - 0) 0 l27 _ _ ls (by omega) (CpL.zero l28 l27) hP9 hD9 hS (lv_sub hl [0, 1] rfl)

set_option maxHeartbeats 4000000 in
set_option maxRecDepth 100000 in
/-- reference: load -/
theorem y_loadIn (l : Launch) (D : va_G) (cA : Nat → ClassId) (sa : Nat → Nat) (w0 : Nat) (ed : Nat) (nb : Nat) (ol : Nat) (v0 : Nat) (v1 : Nat) (v2 : Nat) (v3 : Nat) (v4 : Nat) (v9 : Nat) (v13 : Nat) (v27 : Nat) (v28 : Nat) (v29 : Nat) (v30 : Nat) (v31 : Nat) (v32 : Nat) (v33 : Nat) (v34 : Nat) (v35 : Nat) (v36 : Nat) (v37 : Nat) (g8 : Int32) (g11 : Int32) (g12 : Int32) (g14 : Int32) (g15 : Int32) (g16 : Int32) (g17 : Int32) (g18 : Int32) (g19 : Int32) (g20 : Int32) (g21 : Int32) (g22 : Int32) (g23 : Int32) (g24 : Int32) (g26 : Int32) (g5 : Int64) (g6 : Int64) (g25 : Int64) (fs : Nat → Int32) (fp : Nat → Int32) (fb : Nat → Int32) (f31 : Nat → Int32) (fc : Nat → Int32) (f33 : Nat → Int32) (fq : Nat → Int32) (fkw : Nat → Int64) (l27 : Nat → Int64) (l28 : Nat → Int64) (l29 : Nat → Int64) (l30 : Nat → Int64) (cn : Nat) (pq : Nat) (en : Nat) (dy : Nat) (n0 : Nat) (ct : Nat) (fh : Nat → Int32) (gP : Nat → Nat) (gR : Nat → Nat) (gS : Nat → Int32) (gK : Nat → Int32) (gV : Nat → Int64) (ml : List Int64) (pl : List Int64) (sz : Nat) (hcn : cn ≤ 10) (hpq : pq ≤ 8) (hen : en ≤ 60) (hdy : dy ≤ 20000) (hri : RI cn pq en dy fs) (hd9 : dy ≤ 9999) (hCW : CW cn f31 f33) (hKW : KW 15 fkw) (hed : ed ≤ 10) (hHI : HI cn pq ed fh) (hnb : nb ≤ 700) (hn0 : n0 ≤ nb) (hct : ct ≤ 701) (hTX : TX fb n0 ct gP gR gS gV gK) (hBY : BYn n0 fb) (hNM7 : NL ml cn l27) (hNP9 : NL pl pq l29) : Met l yX10_load wsX10_load ({ frames := 58, cells := 0, slots := 0, locals := 1084 }) (va_Pc [.ref w0, .int (nI n0)] (Wd D cA sa [(oX10 w0 v0 v1 v2 v3 v4 g5 g6 (nI ed) g8 v9 (nI nb) g11 g12 v13 g14 g15 g16 g17 g18 g19 g20 g21 g22 g23 g24 g25 g26 v27 v28 v29 v30 v31 v32 v33 v34 v35 v36 v37 (nI ol)), (v0, .inl (cA 0, 326, .inl fs)), (v1, .inl (cA 0, 326, .inl fp)), (v9, .inl (cA 0, 700, .inl fb)), (v13, .inl (cA 1, 15, .inr (.inl fkw))), (v27, .inl (cA 1, 10, .inr (.inl l27))), (v28, .inl (cA 1, 10, .inr (.inl l28))), (v29, .inl (cA 1, 8, .inr (.inl l29))), (v30, .inl (cA 1, 8, .inr (.inl l30))), (v31, .inl (cA 0, 400, .inl f31)), (v32, .inl (cA 0, 400, .inl fc)), (v33, .inl (cA 0, 11, .inl f33)), (v34, .inl (cA 0, 11, .inl fq))] sz)) (va_Qi (fun (r : Int32) (uu9 : Int32) => uu9 = r) (fun (uu9 : Int32) t => ∃ ed2 : Nat, ∃ cn2 : Nat, ∃ pq2 : Nat, ∃ e2 : Nat, ∃ d2 : Nat, ∃ z11 : Int32, ∃ z12 : Int32, ∃ z14 : Int32, ∃ z15 : Int32, ∃ z16 : Int32, ∃ z17 : Int32, ∃ z18 : Int32, ∃ z19 : Int32, ∃ z20 : Int32, ∃ z21 : Int32, ∃ z22 : Int32, ∃ z23 : Int32, ∃ z24 : Int32, ∃ z26 : Int32, ∃ z5 : Int64, ∃ z6 : Int64, ∃ z25 : Int64, ∃ zs : Nat → Int32, ∃ zp : Nat → Int32, ∃ z31 : Nat → Int32, ∃ zc : Nat → Int32, ∃ z33 : Nat → Int32, ∃ zq : Nat → Int32, ∃ zl27 : Nat → Int64, ∃ zl28 : Nat → Int64, ∃ zl29 : Nat → Int64, ∃ zl : Nat → Int64, ∃ zml : List Int64, ∃ zpl : List Int64, ((uu9 = -3 ∧ cn2 = cn ∧ pq2 = pq ∧ zl29 = l29 ∧ TP gK gS gV 0 0 [] [] (.inl (z11, z12))) ∨ (uu9 = nI cn2 ∧ z11 = 0 ∧ z12 = -1 ∧ TP gK gS gV 0 0 [] [] (.inr (zml, zpl)))) ∧ ed2 ≤ 10 ∧ cn2 ≤ 10 ∧ pq2 ≤ 8 ∧ e2 ≤ 60 ∧ d2 ≤ 9999 ∧ RI cn2 pq2 e2 d2 zs ∧ CW cn2 z31 z33 ∧ HI cn2 pq2 ed2 fh ∧ NL zml cn2 zl27 ∧ NL zpl pq2 zl29 ∧ Wq D (va_A [(oX10 w0 v0 v1 v2 v3 v4 g5 g6 (nI ed) g8 v9 (nI nb) g11 g12 v13 g14 g15 g16 g17 g18 g19 g20 g21 g22 g23 g24 g25 g26 v27 v28 v29 v30 v31 v32 v33 v34 v35 v36 v37 (nI ol)), (v0, .inl (cA 0, 326, .inl fs)), (v1, .inl (cA 0, 326, .inl fp)), (v9, .inl (cA 0, 700, .inl fb)), (v13, .inl (cA 1, 15, .inr (.inl fkw))), (v27, .inl (cA 1, 10, .inr (.inl l27))), (v28, .inl (cA 1, 10, .inr (.inl l28))), (v29, .inl (cA 1, 8, .inr (.inl l29))), (v30, .inl (cA 1, 8, .inr (.inl l30))), (v31, .inl (cA 0, 400, .inl f31)), (v32, .inl (cA 0, 400, .inl fc)), (v33, .inl (cA 0, 11, .inl f33)), (v34, .inl (cA 0, 11, .inl fq))] sz) [(oX10 w0 v0 v1 v2 v3 v4 z5 z6 (nI ed2) 0 v9 0 z11 z12 v13 z14 z15 z16 z17 z18 z19 z20 z21 z22 z23 z24 z25 z26 v27 v28 v29 v30 v31 v32 v33 v34 v35 v36 v37 (nI ol)), (v0, .inl (cA 0, 326, .inl zs)), (v1, .inl (cA 0, 326, .inl zp)), (v9, .inl (cA 0, 700, .inl fb)), (v13, .inl (cA 1, 15, .inr (.inl fkw))), (v27, .inl (cA 1, 10, .inr (.inl zl27))), (v28, .inl (cA 1, 10, .inr (.inl zl28))), (v29, .inl (cA 1, 8, .inr (.inl zl29))), (v30, .inl (cA 1, 8, .inr (.inl zl))), (v31, .inl (cA 0, 400, .inl z31)), (v32, .inl (cA 0, 400, .inl zc)), (v33, .inl (cA 0, 11, .inl z33)), (v34, .inl (cA 0, 11, .inl zq))] t) (va_A [(oX10 w0 v0 v1 v2 v3 v4 g5 g6 (nI ed) g8 v9 (nI nb) g11 g12 v13 g14 g15 g16 g17 g18 g19 g20 g21 g22 g23 g24 g25 g26 v27 v28 v29 v30 v31 v32 v33 v34 v35 v36 v37 (nI ol)), (v0, .inl (cA 0, 326, .inl fs)), (v1, .inl (cA 0, 326, .inl fp)), (v9, .inl (cA 0, 700, .inl fb)), (v13, .inl (cA 1, 15, .inr (.inl fkw))), (v27, .inl (cA 1, 10, .inr (.inl l27))), (v28, .inl (cA 1, 10, .inr (.inl l28))), (v29, .inl (cA 1, 8, .inr (.inl l29))), (v30, .inl (cA 1, 8, .inr (.inl l30))), (v31, .inl (cA 0, 400, .inl f31)), (v32, .inl (cA 0, 400, .inl fc)), (v33, .inl (cA 0, 11, .inl f33)), (v34, .inl (cA 0, 11, .inl fq))] sz)) 0 0 (va_A [(oX10 w0 v0 v1 v2 v3 v4 g5 g6 (nI ed) g8 v9 (nI nb) g11 g12 v13 g14 g15 g16 g17 g18 g19 g20 g21 g22 g23 g24 g25 g26 v27 v28 v29 v30 v31 v32 v33 v34 v35 v36 v37 (nI ol)), (v0, .inl (cA 0, 326, .inl fs)), (v1, .inl (cA 0, 326, .inl fp)), (v9, .inl (cA 0, 700, .inl fb)), (v13, .inl (cA 1, 15, .inr (.inl fkw))), (v27, .inl (cA 1, 10, .inr (.inl l27))), (v28, .inl (cA 1, 10, .inr (.inl l28))), (v29, .inl (cA 1, 8, .inr (.inl l29))), (v30, .inl (cA 1, 8, .inr (.inl l30))), (v31, .inl (cA 0, 400, .inl f31)), (v32, .inl (cA 0, 400, .inl fc)), (v33, .inl (cA 0, 11, .inl f33)), (v34, .inl (cA 0, 11, .inl fq))] sz) := by
  refine Met.ofW (cc := cX10_load) (maxL := 3) (ret := (some .int)) (by decide) rfl ?_
  intro p e s m args below meth c s₁ B hml hv
  obtain ⟨rfl, hsz, hP, hK, hD0, hC, hZ⟩ := hv
  have hx := B.exec
  have hb := B.bytes
  have hr := B.returns
  have hts := atoms_spec (ws := wsX10_load) B.pre
  have hown : s.vm.findClass RX10 = some m.cls := findClass_of_methodNamed B.named
  have hlocks := B.notSynchronized
  subst hsz
  have hD := hD0.self (sz := s.heap.size)
  generalize hAe : va_A [(oX10 w0 v0 v1 v2 v3 v4 g5 g6 (nI ed) g8 v9 (nI nb) g11 g12 v13 g14 g15 g16 g17 g18 g19 g20 g21 g22 g23 g24 g25 g26 v27 v28 v29 v30 v31 v32 v33 v34 v35 v36 v37 (nI ol)), (v0, .inl (cA 0, 326, .inl fs)), (v1, .inl (cA 0, 326, .inl fp)), (v9, .inl (cA 0, 700, .inl fb)), (v13, .inl (cA 1, 15, .inr (.inl fkw))), (v27, .inl (cA 1, 10, .inr (.inl l27))), (v28, .inl (cA 1, 10, .inr (.inl l28))), (v29, .inl (cA 1, 8, .inr (.inl l29))), (v30, .inl (cA 1, 8, .inr (.inl l30))), (v31, .inl (cA 0, 400, .inl f31)), (v32, .inl (cA 0, 400, .inl fc)), (v33, .inl (cA 0, 11, .inl f33)), (v34, .inl (cA 0, 11, .inl fq))] s.heap.size = A at hD hZ ⊢
  have hA : ∀ q : Nat, s.heap.size ≤ q → A q := fun q h => by rw [← hAe]; exact Or.inr h
  have hS : va_S A s.heap s.heap [] := va_S.rf
  have hP : va_P D vwCl [(oX10 w0 v0 v1 v2 v3 v4 g5 g6 (nI ed) g8 v9 (nI nb) g11 g12 v13 g14 g15 g16 g17 g18 g19 g20 g21 g22 g23 g24 g25 g26 v27 v28 v29 v30 v31 v32 v33 v34 v35 v36 v37 (nI ol)), (v0, .inl (cA 0, 326, .inl fs)), (v1, .inl (cA 0, 326, .inl fp)), (v9, .inl (cA 0, 700, .inl fb)), (v13, .inl (cA 1, 15, .inr (.inl fkw))), (v27, .inl (cA 1, 10, .inr (.inl l27))), (v28, .inl (cA 1, 10, .inr (.inl l28))), (v29, .inl (cA 1, 8, .inr (.inl l29))), (v30, .inl (cA 1, 8, .inr (.inl l30))), (v31, .inl (cA 0, 400, .inl f31)), (v32, .inl (cA 0, 400, .inl fc)), (v33, .inl (cA 0, 11, .inl f33)), (v34, .inl (cA 0, 11, .inl fq))] s.heap := hP
  have hl := lv_entry ([.ref w0, .int (nI n0)]) (n := 3) (Nat.le_of_ble_eq_true rfl)
  rw [lg_entry_eq]
  generalize (lg_sl ([.ref w0, .int (nI n0)]) ++ List.replicate (3 - (lg_sl ([.ref w0, .int (nI n0)])).length) Slot.unset).toArray = ls at hl ⊢
  have hl : lv_has ls 3 [(0, .ref w0), (1, .int (nI n0))] := hl
  have inX10 : ∀ w ∈ u_ws RX10 TX10 39, w ∈ wsX10_load := by decide +kernel
  refine lv_aload_n hx hb dX10_load_0 rfl (lv_at hl 0 rfl) ?_
  refine lv_iload_n hx hb dX10_load_1 rfl (lv_at hl 1 rfl) ?_
  refine lv_i2l (v := ((nI n0).toInt64)) hx hb dX10_load_2 rfl ?_
  refine lv_lconst (v := 0) hx hb dX10_load_3 (by decide) ?_
  refine lv_aload_n hx hb dX10_load_4 rfl (lv_at hl 0 rfl) ?_
  refine va_get (D := D) (ci := 11) (v := .int (nI nb)) (C := RX10) (T := TX10) (N := 39) hx hb hts inX10 hown hK hP 0 rfl rfl 10 (by decide) (hts (.fieldLink RX10 90 "EscrowDeskModel" "buffered" "I") (by decide +kernel)) (fun _ h9 => h9) rfl dX10_load_5 ?_
  refine lv_i2l (v := ((nI nb).toInt64)) hx hb dX10_load_8 rfl ?_
  obtain ⟨hPc, hDc, hFc⟩ := PDq.cut (wc := []) hP hD hS hA [] (by decide) rfl
  refine va_calli (va_runS (As := [.long ((nI n0).toInt64), .long 0, .long ((nI nb).toInt64)]) (rest := [.ref w0]) ⟨hx, hb, hml, hown, hts⟩ (r_betweenT l D cA sa ((nI n0).toInt64) 0 ((nI nb).toInt64) s.heap.size (l64_0 (by omega)) (l64_le (by omega) (by omega))) (va_cwS 3 hts gX10_load_X10_between rfl rfl rfl (by decide +kernel) ⟨(Nat.le_of_ble_eq_true rfl), (Nat.le_of_ble_eq_true rfl)⟩) ⟨Wd.blind, fun U hU hW => ⟨rfl, Wd.call hPc hDc hK hC hZ hS hFc U hU hW⟩⟩ rfl rfl hl.1 rfl (lv_room (Nat.le_of_ble_eq_true rfl)) dX10_load_9 ⟨(Nat.le_of_ble_eq_true rfl), (Nat.le_of_ble_eq_true rfl)⟩) hS (fun q _ h => hFc q h) hFc (fun rn1 u t H1 locs ht hvm hw hB hz1 hk1 hS => ?_)
  obtain ⟨hP1, hD1⟩ := hB
  rw [ht] at hP1
  obtain ⟨hP, hD⟩ := PDq.join (w := [(oX10 w0 v0 v1 v2 v3 v4 g5 g6 (nI ed) g8 v9 (nI nb) g11 g12 v13 g14 g15 g16 g17 g18 g19 g20 g21 g22 g23 g24 g25 g26 v27 v28 v29 v30 v31 v32 v33 v34 v35 v36 v37 (nI ol)), (v0, .inl (cA 0, 326, .inl fs)), (v1, .inl (cA 0, 326, .inl fp)), (v9, .inl (cA 0, 700, .inl fb)), (v13, .inl (cA 1, 15, .inr (.inl fkw))), (v27, .inl (cA 1, 10, .inr (.inl l27))), (v28, .inl (cA 1, 10, .inr (.inl l28))), (v29, .inl (cA 1, 8, .inr (.inl l29))), (v30, .inl (cA 1, 8, .inr (.inl l30))), (v31, .inl (cA 0, 400, .inl f31)), (v32, .inl (cA 0, 400, .inl fc)), (v33, .inl (cA 0, 11, .inl f33)), (v34, .inl (cA 0, 11, .inl fq))]) 13 hP hD [] [0, 1, 2, 3, 4, 5, 6, 7, 8, 9, 10, 11, 12] rfl rfl (by decide +kernel) (by decide +kernel) hk1 hFc hP1 hD1 rfl
  generalize H1 = H at hP hS ⊢
  obtain rfl : rn1 = 1 := hw
  refine lv_if_eq (tgt := 19) hx hb dX10_load_12 (by decide) (fun c9 => absurd c9 (by decide)) (fun c2 => ?_)
  refine lv_iconst (v := 0) hx hb dX10_load_15 (by decide) ?_
  refine lv_goto (tgt := 20) hx hb dX10_load_16 (by decide) ?_
  refine va_put (D := D) (ci := 11) (v := .int 0) (ty := .int) (C := RX10) (T := TX10) (N := 39) hx hb hts inX10 tyX10 tyX10_ok nmX10 hown hK hP hD hS 0 rfl rfl 8 (by decide) (hts (.fieldLink RX10 80 "EscrowDeskModel" "thrown" "I") (by decide +kernel)) (fun _ h9 => h9) rfl (by decide +kernel) rfl rfl (Nat.le_of_ble_eq_true rfl) dX10_load_20 (fun H locs hP hD hS => ?_)
  obtain ⟨hP, hD⟩ : PDq D A [(oX10 w0 v0 v1 v2 v3 v4 g5 g6 (nI ed) 0 v9 (nI nb) g11 g12 v13 g14 g15 g16 g17 g18 g19 g20 g21 g22 g23 g24 g25 g26 v27 v28 v29 v30 v31 v32 v33 v34 v35 v36 v37 (nI ol)), (v0, .inl (cA 0, 326, .inl fs)), (v1, .inl (cA 0, 326, .inl fp)), (v9, .inl (cA 0, 700, .inl fb)), (v13, .inl (cA 1, 15, .inr (.inl fkw))), (v27, .inl (cA 1, 10, .inr (.inl l27))), (v28, .inl (cA 1, 10, .inr (.inl l28))), (v29, .inl (cA 1, 8, .inr (.inl l29))), (v30, .inl (cA 1, 8, .inr (.inl l30))), (v31, .inl (cA 0, 400, .inl f31)), (v32, .inl (cA 0, 400, .inl fc)), (v33, .inl (cA 0, 11, .inl f33)), (v34, .inl (cA 0, 11, .inl fq))] H := ⟨hP, hD⟩
  refine lv_aload_n hx hb dX10_load_23 rfl (lv_at hl 0 rfl) ?_
  refine va_get (D := D) (ci := 11) (v := .int 0) (C := RX10) (T := TX10) (N := 39) hx hb hts inX10 hown hK hP 0 rfl rfl 8 (by decide) (hts (.fieldLink RX10 80 "EscrowDeskModel" "thrown" "I") (by decide +kernel)) (fun _ h9 => h9) rfl dX10_load_24 ?_
  refine lv_if_le (tgt := 32) hx hb dX10_load_27 (by decide) (fun c3 => ?_) (fun c9 => absurd c9 (by decide))
  refine lv_aload_n hx hb dX10_load_32 rfl (lv_at hl 0 rfl) ?_
  refine lv_iload_n hx hb dX10_load_33 rfl (lv_at hl 1 rfl) ?_
  refine va_put (D := D) (ci := 11) (v := .int (nI n0)) (ty := .int) (C := RX10) (T := TX10) (N := 39) hx hb hts inX10 tyX10 tyX10_ok nmX10 hown hK hP hD hS 0 rfl rfl 14 (by decide) (hts (.fieldLink RX10 107 "EscrowDeskModel" "length" "I") (by decide +kernel)) (fun _ h9 => h9) rfl (by decide +kernel) rfl rfl (Nat.le_of_ble_eq_true rfl) dX10_load_34 (fun H locs hP hD hS => ?_)
  obtain ⟨hP, hD⟩ : PDq D A [(oX10 w0 v0 v1 v2 v3 v4 g5 g6 (nI ed) 0 v9 (nI nb) g11 g12 v13 (nI n0) g15 g16 g17 g18 g19 g20 g21 g22 g23 g24 g25 g26 v27 v28 v29 v30 v31 v32 v33 v34 v35 v36 v37 (nI ol)), (v0, .inl (cA 0, 326, .inl fs)), (v1, .inl (cA 0, 326, .inl fp)), (v9, .inl (cA 0, 700, .inl fb)), (v13, .inl (cA 1, 15, .inr (.inl fkw))), (v27, .inl (cA 1, 10, .inr (.inl l27))), (v28, .inl (cA 1, 10, .inr (.inl l28))), (v29, .inl (cA 1, 8, .inr (.inl l29))), (v30, .inl (cA 1, 8, .inr (.inl l30))), (v31, .inl (cA 0, 400, .inl f31)), (v32, .inl (cA 0, 400, .inl fc)), (v33, .inl (cA 0, 11, .inl f33)), (v34, .inl (cA 0, 11, .inl fq))] H := ⟨hP, hD⟩
  refine lv_aload_n hx hb dX10_load_37 rfl (lv_at hl 0 rfl) ?_
  refine lv_iconst (v := 0) hx hb dX10_load_38 (by decide) ?_
  refine va_put (D := D) (ci := 11) (v := .int 0) (ty := .int) (C := RX10) (T := TX10) (N := 39) hx hb hts inX10 tyX10 tyX10_ok nmX10 hown hK hP hD hS 0 rfl rfl 10 (by decide) (hts (.fieldLink RX10 90 "EscrowDeskModel" "buffered" "I") (by decide +kernel)) (fun _ h9 => h9) rfl (by decide +kernel) rfl rfl (Nat.le_of_ble_eq_true rfl) dX10_load_39 (fun H locs hP hD hS => ?_)
  obtain ⟨hP, hD⟩ : PDq D A [(oX10 w0 v0 v1 v2 v3 v4 g5 g6 (nI ed) 0 v9 0 g11 g12 v13 (nI n0) g15 g16 g17 g18 g19 g20 g21 g22 g23 g24 g25 g26 v27 v28 v29 v30 v31 v32 v33 v34 v35 v36 v37 (nI ol)), (v0, .inl (cA 0, 326, .inl fs)), (v1, .inl (cA 0, 326, .inl fp)), (v9, .inl (cA 0, 700, .inl fb)), (v13, .inl (cA 1, 15, .inr (.inl fkw))), (v27, .inl (cA 1, 10, .inr (.inl l27))), (v28, .inl (cA 1, 10, .inr (.inl l28))), (v29, .inl (cA 1, 8, .inr (.inl l29))), (v30, .inl (cA 1, 8, .inr (.inl l30))), (v31, .inl (cA 0, 400, .inl f31)), (v32, .inl (cA 0, 400, .inl fc)), (v33, .inl (cA 0, 11, .inl f33)), (v34, .inl (cA 0, 11, .inl fq))] H := ⟨hP, hD⟩
  refine lv_aload_n hx hb dX10_load_42 rfl (lv_at hl 0 rfl) ?_
  refine lv_iconst (v := 0) hx hb dX10_load_43 (by decide) ?_
  refine va_put (D := D) (ci := 11) (v := .int 0) (ty := .int) (C := RX10) (T := TX10) (N := 39) hx hb hts inX10 tyX10 tyX10_ok nmX10 hown hK hP hD hS 0 rfl rfl 16 (by decide) (hts (.fieldLink RX10 110 "EscrowDeskModel" "next" "I") (by decide +kernel)) (fun _ h9 => h9) rfl (by decide +kernel) rfl rfl (Nat.le_of_ble_eq_true rfl) dX10_load_44 (fun H locs hP hD hS => ?_)
  obtain ⟨hP, hD⟩ : PDq D A [(oX10 w0 v0 v1 v2 v3 v4 g5 g6 (nI ed) 0 v9 0 g11 g12 v13 (nI n0) g15 0 g17 g18 g19 g20 g21 g22 g23 g24 g25 g26 v27 v28 v29 v30 v31 v32 v33 v34 v35 v36 v37 (nI ol)), (v0, .inl (cA 0, 326, .inl fs)), (v1, .inl (cA 0, 326, .inl fp)), (v9, .inl (cA 0, 700, .inl fb)), (v13, .inl (cA 1, 15, .inr (.inl fkw))), (v27, .inl (cA 1, 10, .inr (.inl l27))), (v28, .inl (cA 1, 10, .inr (.inl l28))), (v29, .inl (cA 1, 8, .inr (.inl l29))), (v30, .inl (cA 1, 8, .inr (.inl l30))), (v31, .inl (cA 0, 400, .inl f31)), (v32, .inl (cA 0, 400, .inl fc)), (v33, .inl (cA 0, 11, .inl f33)), (v34, .inl (cA 0, 11, .inl fq))] H := ⟨hP, hD⟩
  refine lv_aload_n hx hb dX10_load_47 rfl (lv_at hl 0 rfl) ?_
  refine lv_iconst (v := 0) hx hb dX10_load_48 (by decide) ?_
  refine va_put (D := D) (ci := 11) (v := .int 0) (ty := .int) (C := RX10) (T := TX10) (N := 39) hx hb hts inX10 tyX10 tyX10_ok nmX10 hown hK hP hD hS 0 rfl rfl 20 (by decide) (hts (.fieldLink RX10 143 "EscrowDeskModel" "kind" "I") (by decide +kernel)) (fun _ h9 => h9) rfl (by decide +kernel) rfl rfl (Nat.le_of_ble_eq_true rfl) dX10_load_49 (fun H locs hP hD hS => ?_)
  obtain ⟨hP, hD⟩ : PDq D A [(oX10 w0 v0 v1 v2 v3 v4 g5 g6 (nI ed) 0 v9 0 g11 g12 v13 (nI n0) g15 0 g17 g18 g19 0 g21 g22 g23 g24 g25 g26 v27 v28 v29 v30 v31 v32 v33 v34 v35 v36 v37 (nI ol)), (v0, .inl (cA 0, 326, .inl fs)), (v1, .inl (cA 0, 326, .inl fp)), (v9, .inl (cA 0, 700, .inl fb)), (v13, .inl (cA 1, 15, .inr (.inl fkw))), (v27, .inl (cA 1, 10, .inr (.inl l27))), (v28, .inl (cA 1, 10, .inr (.inl l28))), (v29, .inl (cA 1, 8, .inr (.inl l29))), (v30, .inl (cA 1, 8, .inr (.inl l30))), (v31, .inl (cA 0, 400, .inl f31)), (v32, .inl (cA 0, 400, .inl fc)), (v33, .inl (cA 0, 11, .inl f33)), (v34, .inl (cA 0, 11, .inl fq))] H := ⟨hP, hD⟩
  refine lv_aload_n hx hb dX10_load_52 rfl (lv_at hl 0 rfl) ?_
  refine lv_iconst (v := (-1)) hx hb dX10_load_53 (by decide) ?_
  refine va_put (D := D) (ci := 11) (v := .int (-1)) (ty := .int) (C := RX10) (T := TX10) (N := 39) hx hb hts inX10 tyX10 tyX10_ok nmX10 hown hK hP hD hS 0 rfl rfl 21 (by decide) (hts (.fieldLink RX10 146 "EscrowDeskModel" "position" "I") (by decide +kernel)) (fun _ h9 => h9) rfl (by decide +kernel) rfl rfl (Nat.le_of_ble_eq_true rfl) dX10_load_54 (fun H locs hP hD hS => ?_)
  obtain ⟨hP, hD⟩ : PDq D A [(oX10 w0 v0 v1 v2 v3 v4 g5 g6 (nI ed) 0 v9 0 g11 g12 v13 (nI n0) g15 0 g17 g18 g19 0 (-1) g22 g23 g24 g25 g26 v27 v28 v29 v30 v31 v32 v33 v34 v35 v36 v37 (nI ol)), (v0, .inl (cA 0, 326, .inl fs)), (v1, .inl (cA 0, 326, .inl fp)), (v9, .inl (cA 0, 700, .inl fb)), (v13, .inl (cA 1, 15, .inr (.inl fkw))), (v27, .inl (cA 1, 10, .inr (.inl l27))), (v28, .inl (cA 1, 10, .inr (.inl l28))), (v29, .inl (cA 1, 8, .inr (.inl l29))), (v30, .inl (cA 1, 8, .inr (.inl l30))), (v31, .inl (cA 0, 400, .inl f31)), (v32, .inl (cA 0, 400, .inl fc)), (v33, .inl (cA 0, 11, .inl f33)), (v34, .inl (cA 0, 11, .inl fq))] H := ⟨hP, hD⟩
  refine lv_aload_n hx hb dX10_load_57 rfl (lv_at hl 0 rfl) ?_
  refine lv_iconst (v := 0) hx hb dX10_load_58 (by decide) ?_
  refine va_put (D := D) (ci := 11) (v := .int 0) (ty := .int) (C := RX10) (T := TX10) (N := 39) hx hb hts inX10 tyX10 tyX10_ok nmX10 hown hK hP hD hS 0 rfl rfl 22 (by decide) (hts (.fieldLink RX10 182 "EscrowDeskModel" "open" "I") (by decide +kernel)) (fun _ h9 => h9) rfl (by decide +kernel) rfl rfl (Nat.le_of_ble_eq_true rfl) dX10_load_59 (fun H locs hP hD hS => ?_)
  obtain ⟨hP, hD⟩ : PDq D A [(oX10 w0 v0 v1 v2 v3 v4 g5 g6 (nI ed) 0 v9 0 g11 g12 v13 (nI n0) g15 0 g17 g18 g19 0 (-1) 0 g23 g24 g25 g26 v27 v28 v29 v30 v31 v32 v33 v34 v35 v36 v37 (nI ol)), (v0, .inl (cA 0, 326, .inl fs)), (v1, .inl (cA 0, 326, .inl fp)), (v9, .inl (cA 0, 700, .inl fb)), (v13, .inl (cA 1, 15, .inr (.inl fkw))), (v27, .inl (cA 1, 10, .inr (.inl l27))), (v28, .inl (cA 1, 10, .inr (.inl l28))), (v29, .inl (cA 1, 8, .inr (.inl l29))), (v30, .inl (cA 1, 8, .inr (.inl l30))), (v31, .inl (cA 0, 400, .inl f31)), (v32, .inl (cA 0, 400, .inl fc)), (v33, .inl (cA 0, 11, .inl f33)), (v34, .inl (cA 0, 11, .inl fq))] H := ⟨hP, hD⟩
  refine lv_aload_n hx hb dX10_load_62 rfl (lv_at hl 0 rfl) ?_
  refine lv_iconst (v := 0) hx hb dX10_load_63 (by decide) ?_
  refine va_put (D := D) (ci := 11) (v := .int 0) (ty := .int) (C := RX10) (T := TX10) (N := 39) hx hb hts inX10 tyX10 tyX10_ok nmX10 hown hK hP hD hS 0 rfl rfl 23 (by decide) (hts (.fieldLink RX10 226 "EscrowDeskModel" "deposits" "I") (by decide +kernel)) (fun _ h9 => h9) rfl (by decide +kernel) rfl rfl (Nat.le_of_ble_eq_true rfl) dX10_load_64 (fun H locs hP hD hS => ?_)
  obtain ⟨hP, hD⟩ : PDq D A [(oX10 w0 v0 v1 v2 v3 v4 g5 g6 (nI ed) 0 v9 0 g11 g12 v13 (nI n0) g15 0 g17 g18 g19 0 (-1) 0 0 g24 g25 g26 v27 v28 v29 v30 v31 v32 v33 v34 v35 v36 v37 (nI ol)), (v0, .inl (cA 0, 326, .inl fs)), (v1, .inl (cA 0, 326, .inl fp)), (v9, .inl (cA 0, 700, .inl fb)), (v13, .inl (cA 1, 15, .inr (.inl fkw))), (v27, .inl (cA 1, 10, .inr (.inl l27))), (v28, .inl (cA 1, 10, .inr (.inl l28))), (v29, .inl (cA 1, 8, .inr (.inl l29))), (v30, .inl (cA 1, 8, .inr (.inl l30))), (v31, .inl (cA 0, 400, .inl f31)), (v32, .inl (cA 0, 400, .inl fc)), (v33, .inl (cA 0, 11, .inl f33)), (v34, .inl (cA 0, 11, .inl fq))] H := ⟨hP, hD⟩
  refine lv_aload_n hx hb dX10_load_67 rfl (lv_at hl 0 rfl) ?_
  refine lv_iconst (v := 0) hx hb dX10_load_68 (by decide) ?_
  refine va_put (D := D) (ci := 11) (v := .int 0) (ty := .int) (C := RX10) (T := TX10) (N := 39) hx hb hts inX10 tyX10 tyX10_ok nmX10 hown hK hP hD hS 0 rfl rfl 24 (by decide) (hts (.fieldLink RX10 167 "EscrowDeskModel" "codes" "I") (by decide +kernel)) (fun _ h9 => h9) rfl (by decide +kernel) rfl rfl (Nat.le_of_ble_eq_true rfl) dX10_load_69 (fun H locs hP hD hS => ?_)
  obtain ⟨hP, hD⟩ : PDq D A [(oX10 w0 v0 v1 v2 v3 v4 g5 g6 (nI ed) 0 v9 0 g11 g12 v13 (nI n0) g15 0 g17 g18 g19 0 (-1) 0 0 0 g25 g26 v27 v28 v29 v30 v31 v32 v33 v34 v35 v36 v37 (nI ol)), (v0, .inl (cA 0, 326, .inl fs)), (v1, .inl (cA 0, 326, .inl fp)), (v9, .inl (cA 0, 700, .inl fb)), (v13, .inl (cA 1, 15, .inr (.inl fkw))), (v27, .inl (cA 1, 10, .inr (.inl l27))), (v28, .inl (cA 1, 10, .inr (.inl l28))), (v29, .inl (cA 1, 8, .inr (.inl l29))), (v30, .inl (cA 1, 8, .inr (.inl l30))), (v31, .inl (cA 0, 400, .inl f31)), (v32, .inl (cA 0, 400, .inl fc)), (v33, .inl (cA 0, 11, .inl f33)), (v34, .inl (cA 0, 11, .inl fq))] H := ⟨hP, hD⟩
  refine lv_aload_n hx hb dX10_load_72 rfl (lv_at hl 0 rfl) ?_
  refine va_get (D := D) (ci := 11) (v := .ref v1) (C := RX10) (T := TX10) (N := 39) hx hb hts inX10 hown hK hP 0 rfl rfl 1 (by decide) (hts (.fieldLink RX10 13 "EscrowDeskModel" "parsed" "[I") (by decide +kernel)) (fun _ h9 => h9) rfl dX10_load_73 ?_
  obtain ⟨hPc, hDc, hFc⟩ := PDq.cut (wc := [(v1, .inl (cA 0, 326, .inl fp))]) hP hD hS hA [2] (by decide) rfl
  refine va_callv (va_runS (As := [.ref v1]) (rest := []) ⟨hx, hb, hml, hown, hts⟩ (r_reset l D cA sa v1 fp H.size) (va_cwS 1 hts gX10_load_X10_reset rfl rfl rfl (by decide +kernel) ⟨(Nat.le_of_ble_eq_true rfl), (Nat.le_of_ble_eq_true rfl)⟩) ⟨Wd.blind, fun U hU hW => ⟨rfl, Wd.call hPc hDc hK hC hZ hS hFc U hU hW⟩⟩ rfl rfl hl.1 rfl (lv_room (Nat.le_of_ble_eq_true rfl)) dX10_load_76 ⟨(Nat.le_of_ble_eq_true rfl), (Nat.le_of_ble_eq_true rfl)⟩) hS (fun q _ h => hFc q h) hFc (fun u t H1 locs ht hvm hw hB hz1 hk1 hS => ?_)
  obtain ⟨fn4, hn5, hP1, hD1⟩ := hB
  rw [ht] at hP1
  obtain ⟨hP, hD⟩ := PDq.join (w := [(oX10 w0 v0 v1 v2 v3 v4 g5 g6 (nI ed) 0 v9 0 g11 g12 v13 (nI n0) g15 0 g17 g18 g19 0 (-1) 0 0 0 g25 g26 v27 v28 v29 v30 v31 v32 v33 v34 v35 v36 v37 (nI ol)), (v0, .inl (cA 0, 326, .inl fs)), (v9, .inl (cA 0, 700, .inl fb)), (v13, .inl (cA 1, 15, .inr (.inl fkw))), (v27, .inl (cA 1, 10, .inr (.inl l27))), (v28, .inl (cA 1, 10, .inr (.inl l28))), (v29, .inl (cA 1, 8, .inr (.inl l29))), (v30, .inl (cA 1, 8, .inr (.inl l30))), (v31, .inl (cA 0, 400, .inl f31)), (v32, .inl (cA 0, 400, .inl fc)), (v33, .inl (cA 0, 11, .inl f33)), (v34, .inl (cA 0, 11, .inl fq)), (v1, .inl (cA 0, 326, .inl fn4))]) 12 hP hD [2] [0, 1, 3, 4, 5, 6, 7, 8, 9, 10, 11, 12] rfl rfl (by decide +kernel) (by decide +kernel) hk1 hFc hP1 hD1 rfl
  generalize H1 = H at hP hS ⊢
  refine lv_aload_n hx hb dX10_load_79 rfl (lv_at hl 0 rfl) ?_
  obtain ⟨hPc, hDc, hFc⟩ := PDq.cut (wc := [(oX10 w0 v0 v1 v2 v3 v4 g5 g6 (nI ed) 0 v9 0 g11 g12 v13 (nI n0) g15 0 g17 g18 g19 0 (-1) 0 0 0 g25 g26 v27 v28 v29 v30 v31 v32 v33 v34 v35 v36 v37 (nI ol)), (v9, .inl (cA 0, 700, .inl fb)), (v13, .inl (cA 1, 15, .inr (.inl fkw)))]) hP hD hS hA [0, 2, 3] (by decide) rfl
  refine va_calli (va_runV (As := []) (rest := []) ⟨hx, hb, hml, hown, hts⟩ (y_advance l D cA sa w0 ed 0 ol v0 v1 v2 v3 v4 v9 v13 v27 v28 v29 v30 v31 v32 v33 v34 v35 v36 v37 0 g11 g12 g15 g17 g18 g19 0 (-1) 0 0 0 g26 g5 g6 g25 n0 0 fb fkw (gP 0) (gR (0 + 1)) (gK 0) (gV 0) H.size (by omega) (by omega) hKW hBY (by have q9 := TX.t hTX hTX.1; rw [hTX.2.2.1] at q9; exact q9)) (cwV 0 hts gX10_load_X10_advance rfl rfl rfl (by decide +kernel) ⟨(Nat.le_of_ble_eq_true rfl), (Nat.le_of_ble_eq_true rfl)⟩) ⟨Wd.blind, va_recv hK hPc (ci := 11) (q0 := 0) rfl rfl, fun U hU hW => ⟨rfl, Wd.call hPc hDc hK hC hZ hS hFc U hU hW⟩⟩ rfl rfl hl.1 rfl (lv_room (Nat.le_of_ble_eq_true rfl)) dX10_load_80 ⟨(Nat.le_of_ble_eq_true rfl), (Nat.le_of_ble_eq_true rfl)⟩) hS (fun q _ h => hFc q h) hFc (fun rn6 u t H1 locs ht hvm hw hB hz1 hk1 hS => ?_)
  obtain ⟨zn7, zn8, zn9, zn10, hn11, hP1, hD1⟩ := hB
  rw [ht] at hP1
  obtain ⟨hP, hD⟩ := PDq.join (w := [(v0, .inl (cA 0, 326, .inl fs)), (v27, .inl (cA 1, 10, .inr (.inl l27))), (v28, .inl (cA 1, 10, .inr (.inl l28))), (v29, .inl (cA 1, 8, .inr (.inl l29))), (v30, .inl (cA 1, 8, .inr (.inl l30))), (v31, .inl (cA 0, 400, .inl f31)), (v32, .inl (cA 0, 400, .inl fc)), (v33, .inl (cA 0, 11, .inl f33)), (v34, .inl (cA 0, 11, .inl fq)), (v1, .inl (cA 0, 326, .inl fn4)), (oX10 w0 v0 v1 v2 v3 v4 g5 g6 (nI ed) 0 v9 (nI 0) g11 g12 v13 (nI n0) (nI (gP 0)) (nI (gR (0 + 1))) zn7 zn8 zn9 0 (-1) 0 0 0 zn10 g26 v27 v28 v29 v30 v31 v32 v33 v34 v35 v36 v37 (nI ol)), (v9, .inl (cA 0, 700, .inl fb)), (v13, .inl (cA 1, 15, .inr (.inl fkw)))]) 10 hP hD [0, 2, 3] [1, 4, 5, 6, 7, 8, 9, 10, 11, 12] rfl rfl (by decide +kernel) (by decide +kernel) hk1 hFc hP1 hD1 rfl
  generalize H1 = H at hP hS ⊢
  obtain rfl : rn6 = 1 := hw
  refine lv_pop hx hb dX10_load_83 rfl ?_
  have hct0 := hTX.1
  have hle0 := TX.le hTX hct0
  refine lv_iconst (v := 1) hx hb dX10_load_84 (by decide) ?_
  refine lv_istore_n (lv' := [(2, .int 1), (0, .ref w0), (1, .int (nI n0))]) hx hb dX10_load_85 rfl hl (by decide) rfl (fun ls hl => ?_)
  have loop1 : ∀ (n1 i1 : Nat) (tii : Nat) (ci : Nat) (qi : Nat) (ei : Nat) (mli : List Int64) (pli : List Int64) (f2_1 : Nat → Int64) (f4_1 : Nat → Int64) (f6_1 : Nat → Int32) (f8_1 : Nat → Int32) (f9_1 : Nat → Int32) (u10_17_1 : Int32) (u10_18_1 : Int32) (u10_19_1 : Int32) (ddi : Nat) (cdi : Nat) (u10_25_1 : Int64) (u10_26_1 : Int32) (H : Heap) (locs : List Loc) (ls : Array Slot), i1 + n1 = 701 → i1 ≤ tii → tii < ct → gP tii ≤ n0 → TKR (gK tii) (gV tii) (fb (gP tii)) u10_17_1 u10_18_1 u10_19_1 u10_25_1 → 2 * cdi ≤ gP tii → ci ≤ 10 → qi ≤ 8 → ei ≤ 60 → ddi ≤ 6 → RI ci qi ei 0 f9_1 → CR ci cdi f6_1 f8_1 → NL mli ci f2_1 → NL pli qi f4_1 → Ctn gK gS gV 0 0 [] [] tii ddi mli pli → va_P D vwCl [(v0, .inl (cA 0, 326, .inl fs)), (v27, .inl (cA 1, 10, .inr (.inl l27))), (v28, .inl (cA 1, 10, .inr (.inl f2_1))), (v29, .inl (cA 1, 8, .inr (.inl l29))), (v30, .inl (cA 1, 8, .inr (.inl f4_1))), (v31, .inl (cA 0, 400, .inl f31)), (v32, .inl (cA 0, 400, .inl f6_1)), (v33, .inl (cA 0, 11, .inl f33)), (v34, .inl (cA 0, 11, .inl f8_1)), (v1, .inl (cA 0, 326, .inl f9_1)), (oX10 w0 v0 v1 v2 v3 v4 g5 g6 (nI ed) 0 v9 (nI 0) g11 g12 v13 (nI n0) (nI (gP tii)) (nI (gR (tii + 1))) u10_17_1 u10_18_1 u10_19_1 0 (-1) 0 (nI ddi) (nI cdi) u10_25_1 u10_26_1 v27 v28 v29 v30 v31 v32 v33 v34 v35 v36 v37 (nI ol)), (v9, .inl (cA 0, 700, .inl fb)), (v13, .inl (cA 1, 15, .inr (.inl fkw)))] H → va_D A [(v0, .inl (cA 0, 326, .inl fs)), (v27, .inl (cA 1, 10, .inr (.inl l27))), (v28, .inl (cA 1, 10, .inr (.inl f2_1))), (v29, .inl (cA 1, 8, .inr (.inl l29))), (v30, .inl (cA 1, 8, .inr (.inl f4_1))), (v31, .inl (cA 0, 400, .inl f31)), (v32, .inl (cA 0, 400, .inl f6_1)), (v33, .inl (cA 0, 11, .inl f33)), (v34, .inl (cA 0, 11, .inl f8_1)), (v1, .inl (cA 0, 326, .inl f9_1)), (oX10 w0 v0 v1 v2 v3 v4 g5 g6 (nI ed) 0 v9 (nI 0) g11 g12 v13 (nI n0) (nI (gP tii)) (nI (gR (tii + 1))) u10_17_1 u10_18_1 u10_19_1 0 (-1) 0 (nI ddi) (nI cdi) u10_25_1 u10_26_1 v27 v28 v29 v30 v31 v32 v33 v34 v35 v36 v37 (nI ol)), (v9, .inl (cA 0, 700, .inl fb)), (v13, .inl (cA 1, 15, .inr (.inl fkw)))] → va_S A s.heap H locs → lv_has ls 3 [(2, .int 1), (0, .ref w0), (1, .int (nI n0))] → W p l e (headSpec wsX10_load ({ frames := 58, cells := 0, slots := 0, locals := 1084 } : Room)).room s m ([.ref w0, .int (nI n0)] : List Value).toArray below meth c H locs 0 0 (MQ below (va_Qi (fun (r : Int32) (uu9 : Int32) => uu9 = r) (fun (uu9 : Int32) t => ∃ ed2 : Nat, ∃ cn2 : Nat, ∃ pq2 : Nat, ∃ e2 : Nat, ∃ d2 : Nat, ∃ z11 : Int32, ∃ z12 : Int32, ∃ z14 : Int32, ∃ z15 : Int32, ∃ z16 : Int32, ∃ z17 : Int32, ∃ z18 : Int32, ∃ z19 : Int32, ∃ z20 : Int32, ∃ z21 : Int32, ∃ z22 : Int32, ∃ z23 : Int32, ∃ z24 : Int32, ∃ z26 : Int32, ∃ z5 : Int64, ∃ z6 : Int64, ∃ z25 : Int64, ∃ zs : Nat → Int32, ∃ zp : Nat → Int32, ∃ z31 : Nat → Int32, ∃ zc : Nat → Int32, ∃ z33 : Nat → Int32, ∃ zq : Nat → Int32, ∃ zl27 : Nat → Int64, ∃ zl28 : Nat → Int64, ∃ zl29 : Nat → Int64, ∃ zl : Nat → Int64, ∃ zml : List Int64, ∃ zpl : List Int64, ((uu9 = -3 ∧ cn2 = cn ∧ pq2 = pq ∧ zl29 = l29 ∧ TP gK gS gV 0 0 [] [] (.inl (z11, z12))) ∨ (uu9 = nI cn2 ∧ z11 = 0 ∧ z12 = -1 ∧ TP gK gS gV 0 0 [] [] (.inr (zml, zpl)))) ∧ ed2 ≤ 10 ∧ cn2 ≤ 10 ∧ pq2 ≤ 8 ∧ e2 ≤ 60 ∧ d2 ≤ 9999 ∧ RI cn2 pq2 e2 d2 zs ∧ CW cn2 z31 z33 ∧ HI cn2 pq2 ed2 fh ∧ NL zml cn2 zl27 ∧ NL zpl pq2 zl29 ∧ Wq D A [(oX10 w0 v0 v1 v2 v3 v4 z5 z6 (nI ed2) 0 v9 0 z11 z12 v13 z14 z15 z16 z17 z18 z19 z20 z21 z22 z23 z24 z25 z26 v27 v28 v29 v30 v31 v32 v33 v34 v35 v36 v37 (nI ol)), (v0, .inl (cA 0, 326, .inl zs)), (v1, .inl (cA 0, 326, .inl zp)), (v9, .inl (cA 0, 700, .inl fb)), (v13, .inl (cA 1, 15, .inr (.inl fkw))), (v27, .inl (cA 1, 10, .inr (.inl zl27))), (v28, .inl (cA 1, 10, .inr (.inl zl28))), (v29, .inl (cA 1, 8, .inr (.inl zl29))), (v30, .inl (cA 1, 8, .inr (.inl zl))), (v31, .inl (cA 0, 400, .inl z31)), (v32, .inl (cA 0, 400, .inl zc)), (v33, .inl (cA 0, 11, .inl z33)), (v34, .inl (cA 0, 11, .inl zq))] t) A) ([.ref w0, .int (nI n0)] : List Value).toArray s 0 0 A) (F0 m 86 ls []) := by
    intro n1
    induction n1 with
    | zero =>
      intro i1 tii ci qi ei mli pli f2_1 f4_1 f6_1 f8_1 f9_1 u10_17_1 u10_18_1 u10_19_1 ddi cdi u10_25_1 u10_26_1 H locs ls hi1 hv0_1 hv1_1 hv2_1 hv3_1 hv4_1 hv5_1 hv6_1 hv7_1 hv8_1 hv9_1 hv10_1 hv11_1 hv12_1 hv13_1 hP hD hS hl
      obtain rfl : 701 = i1 := by omega
      exact absurd hv0_1 (by omega)
    | succ n1 ih1 =>
      intro i1 tii ci qi ei mli pli f2_1 f4_1 f6_1 f8_1 f9_1 u10_17_1 u10_18_1 u10_19_1 ddi cdi u10_25_1 u10_26_1 H locs ls hi1 hv0_1 hv1_1 hv2_1 hv3_1 hv4_1 hv5_1 hv6_1 hv7_1 hv8_1 hv9_1 hv10_1 hv11_1 hv12_1 hv13_1 hP hD hS hl
      refine lv_iload_n hx hb dX10_load_86 rfl (lv_at hl 0 rfl) ?_
      refine lv_if_eq (tgt := 120) hx hb dX10_load_87 (by decide) (fun c9 => absurd c9 (by decide)) (fun c12 => ?_)
      refine lv_aload_n hx hb dX10_load_90 rfl (lv_at hl 1 rfl) ?_
      refine va_get (D := D) (ci := 11) (v := .int u10_17_1) (C := RX10) (T := TX10) (N := 39) hx hb hts inX10 hown hK hP 10 rfl rfl 17 (by decide) (hts (.fieldLink RX10 126 "EscrowDeskModel" "token" "I") (by decide +kernel)) (fun _ h9 => h9) rfl dX10_load_91 ?_
      refine lv_if_eq (tgt := 120) hx hb dX10_load_94 (by decide) (fun c13 => ?_) (fun c13 => ?_)
      · skip
        refine lv_aload_n hx hb dX10_load_120 rfl (lv_at hl 1 rfl) ?_
        refine lv_aload_n hx hb dX10_load_121 rfl (lv_at hl 1 rfl) ?_
        refine va_get (D := D) (ci := 11) (v := .int 0) (C := RX10) (T := TX10) (N := 39) hx hb hts inX10 hown hK hP 10 rfl rfl 20 (by decide) (hts (.fieldLink RX10 143 "EscrowDeskModel" "kind" "I") (by decide +kernel)) (fun _ h9 => h9) rfl dX10_load_122 ?_
        refine va_put (D := D) (ci := 11) (v := .int 0) (ty := .int) (C := RX10) (T := TX10) (N := 39) hx hb hts inX10 tyX10 tyX10_ok nmX10 hown hK hP hD hS 10 rfl rfl 11 (by decide) (hts (.fieldLink RX10 255 "EscrowDeskModel" "errorKind" "I") (by decide +kernel)) (fun _ h9 => h9) rfl (by decide +kernel) rfl rfl (Nat.le_of_ble_eq_true rfl) dX10_load_125 (fun H locs hP hD hS => ?_)
        obtain ⟨hP, hD⟩ : PDq D A [(v0, .inl (cA 0, 326, .inl fs)), (v27, .inl (cA 1, 10, .inr (.inl l27))), (v28, .inl (cA 1, 10, .inr (.inl f2_1))), (v29, .inl (cA 1, 8, .inr (.inl l29))), (v30, .inl (cA 1, 8, .inr (.inl f4_1))), (v31, .inl (cA 0, 400, .inl f31)), (v32, .inl (cA 0, 400, .inl f6_1)), (v33, .inl (cA 0, 11, .inl f33)), (v34, .inl (cA 0, 11, .inl f8_1)), (v1, .inl (cA 0, 326, .inl f9_1)), (oX10 w0 v0 v1 v2 v3 v4 g5 g6 (nI ed) 0 v9 (nI 0) 0 g12 v13 (nI n0) (nI (gP tii)) (nI (gR (tii + 1))) u10_17_1 u10_18_1 u10_19_1 0 (-1) 0 (nI ddi) (nI cdi) u10_25_1 u10_26_1 v27 v28 v29 v30 v31 v32 v33 v34 v35 v36 v37 (nI ol)), (v9, .inl (cA 0, 700, .inl fb)), (v13, .inl (cA 1, 15, .inr (.inl fkw)))] H := ⟨hP, hD⟩
        refine lv_aload_n hx hb dX10_load_128 rfl (lv_at hl 1 rfl) ?_
        refine lv_aload_n hx hb dX10_load_129 rfl (lv_at hl 1 rfl) ?_
        refine va_get (D := D) (ci := 11) (v := .int (-1)) (C := RX10) (T := TX10) (N := 39) hx hb hts inX10 hown hK hP 10 rfl rfl 21 (by decide) (hts (.fieldLink RX10 146 "EscrowDeskModel" "position" "I") (by decide +kernel)) (fun _ h9 => h9) rfl dX10_load_130 ?_
        refine va_put (D := D) (ci := 11) (v := .int (-1)) (ty := .int) (C := RX10) (T := TX10) (N := 39) hx hb hts inX10 tyX10 tyX10_ok nmX10 hown hK hP hD hS 10 rfl rfl 12 (by decide) (hts (.fieldLink RX10 29 "EscrowDeskModel" "errorPosition" "I") (by decide +kernel)) (fun _ h9 => h9) rfl (by decide +kernel) rfl rfl (Nat.le_of_ble_eq_true rfl) dX10_load_133 (fun H locs hP hD hS => ?_)
        obtain ⟨hP, hD⟩ : PDq D A [(v0, .inl (cA 0, 326, .inl fs)), (v27, .inl (cA 1, 10, .inr (.inl l27))), (v28, .inl (cA 1, 10, .inr (.inl f2_1))), (v29, .inl (cA 1, 8, .inr (.inl l29))), (v30, .inl (cA 1, 8, .inr (.inl f4_1))), (v31, .inl (cA 0, 400, .inl f31)), (v32, .inl (cA 0, 400, .inl f6_1)), (v33, .inl (cA 0, 11, .inl f33)), (v34, .inl (cA 0, 11, .inl f8_1)), (v1, .inl (cA 0, 326, .inl f9_1)), (oX10 w0 v0 v1 v2 v3 v4 g5 g6 (nI ed) 0 v9 (nI 0) 0 (-1) v13 (nI n0) (nI (gP tii)) (nI (gR (tii + 1))) u10_17_1 u10_18_1 u10_19_1 0 (-1) 0 (nI ddi) (nI cdi) u10_25_1 u10_26_1 v27 v28 v29 v30 v31 v32 v33 v34 v35 v36 v37 (nI ol)), (v9, .inl (cA 0, 700, .inl fb)), (v13, .inl (cA 1, 15, .inr (.inl fkw)))] H := ⟨hP, hD⟩
        refine lv_iload_n hx hb dX10_load_136 rfl (lv_at hl 0 rfl) ?_
        refine lv_if_ne (tgt := 143) hx hb dX10_load_137 (by decide) (fun c14 => ?_) (fun c9 => absurd c9 (by decide))
        refine lv_aload_n hx hb dX10_load_143 rfl (lv_at hl 1 rfl) ?_
        obtain ⟨hPc, hDc, hFc⟩ := PDq.cut (wc := [(oX10 w0 v0 v1 v2 v3 v4 g5 g6 (nI ed) 0 v9 (nI 0) 0 (-1) v13 (nI n0) (nI (gP tii)) (nI (gR (tii + 1))) u10_17_1 u10_18_1 u10_19_1 0 (-1) 0 (nI ddi) (nI cdi) u10_25_1 u10_26_1 v27 v28 v29 v30 v31 v32 v33 v34 v35 v36 v37 (nI ol)), (v1, .inl (cA 0, 326, .inl f9_1)), (v0, .inl (cA 0, 326, .inl fs)), (v27, .inl (cA 1, 10, .inr (.inl l27))), (v28, .inl (cA 1, 10, .inr (.inl f2_1))), (v29, .inl (cA 1, 8, .inr (.inl l29))), (v30, .inl (cA 1, 8, .inr (.inl f4_1))), (v31, .inl (cA 0, 400, .inl f31)), (v32, .inl (cA 0, 400, .inl f6_1)), (v33, .inl (cA 0, 11, .inl f33)), (v34, .inl (cA 0, 11, .inl f8_1))]) hP hD hS hA [10, 9, 0, 1, 2, 3, 4, 5, 6, 7, 8] (by decide +kernel) rfl
        refine va_callv (va_runV (As := []) (rest := []) ⟨hx, hb, hml, hown, hts⟩ (y_takeOver l D cA sa w0 ed 0 ol v0 v1 v2 v3 v4 v9 v13 v27 v28 v29 v30 v31 v32 v33 v34 v35 v36 v37 0 0 (-1) (nI n0) (nI (gP tii)) (nI (gR (tii + 1))) u10_17_1 u10_18_1 u10_19_1 0 (-1) 0 (nI ddi) u10_26_1 g5 g6 u10_25_1 cdi ci qi ei 0 f9_1 l27 f2_1 l29 f4_1 fs f31 f6_1 f33 f8_1 mli pli H.size hv5_1 hv6_1 hv7_1 (by omega) hv9_1 (by omega) hv10_1 hv11_1 hv12_1) (cwV 0 hts gX10_load_X10_takeOver rfl rfl rfl (by decide +kernel) ⟨(Nat.le_of_ble_eq_true rfl), (Nat.le_of_ble_eq_true rfl)⟩) ⟨Wd.blind, va_recv hK hPc (ci := 11) (q0 := 0) rfl rfl, fun U hU hW => ⟨rfl, Wd.call hPc hDc hK hC hZ hS hFc U hU hW⟩⟩ rfl rfl hl.1 rfl (lv_room (Nat.le_of_ble_eq_true rfl)) dX10_load_144 ⟨(Nat.le_of_ble_eq_true rfl), (Nat.le_of_ble_eq_true rfl)⟩) hS (fun q _ h => hFc q h) hFc (fun u t H1 locs ht hvm hw hB hz1 hk1 hS => ?_)
        obtain ⟨fn15, fn16, fn17, fn18, fn19, hn20, hn21, hn22, hn23, hP1, hD1⟩ := hB
        rw [ht] at hP1
        obtain ⟨hP, hD⟩ := PDq.join (w := [(v9, .inl (cA 0, 700, .inl fb)), (v13, .inl (cA 1, 15, .inr (.inl fkw))), (oX10 w0 v0 v1 v2 v3 v4 0 g6 0 0 v9 (nI 0) 0 (-1) v13 (nI n0) (nI (gP tii)) (nI (gR (tii + 1))) u10_17_1 u10_18_1 u10_19_1 0 (-1) 0 (nI ddi) (nI cdi) u10_25_1 u10_26_1 v27 v28 v29 v30 v31 v32 v33 v34 v35 v36 v37 (nI ol)), (v1, .inl (cA 0, 326, .inl f9_1)), (v0, .inl (cA 0, 326, .inl fn15)), (v27, .inl (cA 1, 10, .inr (.inl fn18))), (v28, .inl (cA 1, 10, .inr (.inl f2_1))), (v29, .inl (cA 1, 8, .inr (.inl fn19))), (v30, .inl (cA 1, 8, .inr (.inl f4_1))), (v31, .inl (cA 0, 400, .inl fn16)), (v32, .inl (cA 0, 400, .inl f6_1)), (v33, .inl (cA 0, 11, .inl fn17)), (v34, .inl (cA 0, 11, .inl f8_1))]) 2 hP hD [10, 9, 0, 1, 2, 3, 4, 5, 6, 7, 8] [11, 12] rfl rfl (by decide) (by decide +kernel) hk1 hFc hP1 hD1 rfl
        generalize H1 = H at hP hS ⊢
        refine lv_aload_n hx hb dX10_load_147 rfl (lv_at hl 1 rfl) ?_
        refine va_get (D := D) (ci := 11) (v := .ref v0) (C := RX10) (T := TX10) (N := 39) hx hb hts inX10 hown hK hP 2 rfl rfl 0 (by decide) (hts (.fieldLink RX10 7 "EscrowDeskModel" "s" "[I") (by decide +kernel)) (fun _ h9 => h9) rfl dX10_load_148 ?_
        refine lv_bipush (v := 13) hx hb dX10_load_151 (by decide) ?_
        refine va_iald hx hb hK hP 4 0 rfl rfl (vp_in_iff.mpr (by decide)) dX10_load_153 ?_
        refine lv_topi (fun yn24 eyn24 => ?_)
        obtain rfl : yn24 = (nI ci) := eyn24.trans hn20.1
        obtain ⟨hP9, hD9⟩ := PDq.sub (ws' := [(oX10 w0 v0 v1 v2 v3 v4 0 g6 0 0 v9 (nI 0) 0 (-1) v13 (nI n0) (nI (gP tii)) (nI (gR (tii + 1))) u10_17_1 u10_18_1 u10_19_1 0 (-1) 0 (nI ddi) (nI cdi) u10_25_1 u10_26_1 v27 v28 v29 v30 v31 v32 v33 v34 v35 v36 v37 (nI ol)), (v0, .inl (cA 0, 326, .inl fn15)), (v1, .inl (cA 0, 326, .inl f9_1)), (v9, .inl (cA 0, 700, .inl fb)), (v13, .inl (cA 1, 15, .inr (.inl fkw))), (v27, .inl (cA 1, 10, .inr (.inl fn18))), (v28, .inl (cA 1, 10, .inr (.inl f2_1))), (v29, .inl (cA 1, 8, .inr (.inl fn19))), (v30, .inl (cA 1, 8, .inr (.inl f4_1))), (v31, .inl (cA 0, 400, .inl fn16)), (v32, .inl (cA 0, 400, .inl f6_1)), (v33, .inl (cA 0, 11, .inl fn17)), (v34, .inl (cA 0, 11, .inl f8_1))]) hP hD [2, 4, 3, 0, 1, 5, 6, 7, 8, 9, 10, 11, 12] (by decide +kernel) rfl
        refine W.widen (k := 0) (n := 0) (Nat.le_of_ble_eq_true rfl) (Nat.le_of_ble_eq_true rfl) ?_
        exact (W.iret (v := (nI ci)) hx hb hr (fun t ht hW => ⟨⟨(nI ci), (nI ci), rfl, rfl, 0, ci, qi, ei, 0, 0, (-1), (nI n0), (nI (gP tii)), (nI (gR (tii + 1))), u10_17_1, u10_18_1, u10_19_1, 0, (-1), 0, (nI ddi), (nI cdi), u10_26_1, 0, g6, u10_25_1, fn15, f9_1, fn16, f6_1, fn17, f8_1, fn18, f2_1, fn19, f4_1, mli, pli, (Or.inr ⟨rfl, rfl, rfl, hv13_1 _ (T_end (TKR.end hv3_1 c13))⟩), (by omega), hv5_1, hv6_1, hv7_1, (by omega), hn20, hn21, (HI.zero _ _ _), hn22, hn23, by rw [ht]; exact hP9, hD9⟩, hS.F ht⟩) hS.2.2 dX10_load_154)
      · skip
        refine lv_aload_n hx hb dX10_load_97 rfl (lv_at hl 1 rfl) ?_
        obtain ⟨hPc, hDc, hFc⟩ := PDq.cut (wc := [(oX10 w0 v0 v1 v2 v3 v4 g5 g6 (nI ed) 0 v9 (nI 0) g11 g12 v13 (nI n0) (nI (gP tii)) (nI (gR (tii + 1))) u10_17_1 u10_18_1 u10_19_1 0 (-1) 0 (nI ddi) (nI cdi) u10_25_1 u10_26_1 v27 v28 v29 v30 v31 v32 v33 v34 v35 v36 v37 (nI ol)), (v1, .inl (cA 0, 326, .inl f9_1)), (v9, .inl (cA 0, 700, .inl fb)), (v13, .inl (cA 1, 15, .inr (.inl fkw))), (v28, .inl (cA 1, 10, .inr (.inl f2_1))), (v30, .inl (cA 1, 8, .inr (.inl f4_1))), (v32, .inl (cA 0, 400, .inl f6_1)), (v34, .inl (cA 0, 11, .inl f8_1))]) hP hD hS hA [10, 9, 11, 12, 2, 4, 6, 8] (by decide) rfl
        refine va_calli (va_runV (As := []) (rest := []) ⟨hx, hb, hml, hown, hts⟩ (y_statement l D cA sa w0 ed 0 ol v0 v1 v2 v3 v4 v9 v13 v27 v28 v29 v30 v31 v32 v33 v34 v35 v36 v37 0 g11 g12 u10_19_1 0 (-1) u10_26_1 g5 g6 u10_25_1 n0 cdi u10_17_1 u10_18_1 tii ct fb fkw gP gR gS gK gV ci qi ei 0 f9_1 ddi f2_1 f4_1 f6_1 f8_1 mli pli H.size (by omega) hct hv1_1 hTX hBY hv3_1 hKW hv5_1 hv6_1 hv7_1 (by omega) hv9_1 hv4_1 hv10_1 hv8_1 hv11_1 hv12_1) (cwV 0 hts gX10_load_X10_statement rfl rfl rfl (by decide +kernel) ⟨(Nat.le_of_ble_eq_true rfl), (Nat.le_of_ble_eq_true rfl)⟩) ⟨Wd.blind, va_recv hK hPc (ci := 11) (q0 := 0) rfl rfl, fun U hU hW => ⟨rfl, Wd.call hPc hDc hK hC hZ hS hFc U hU hW⟩⟩ rfl rfl hl.1 rfl (lv_room (Nat.le_of_ble_eq_true rfl)) dX10_load_98 ⟨(Nat.le_of_ble_eq_true rfl), (Nat.le_of_ble_eq_true rfl)⟩) hS (fun q _ h => hFc q h) hFc (fun rn25 u t H1 locs ht hvm hw hB hz1 hk1 hS => ?_)
        obtain ⟨qn26, zn27, zn28, zn29, zn30, zn31, zn32, zn33, zn34, qn35, qn36, qn37, qn38, qn39, fn40, fn41, fn42, fn43, fn44, zn45, zn46, hn47, hn48, hn49, hn50, hn51, hn52, hn53, hn54, hn55, hn56, hn57, hn58, hn59, hn60, hn61, hn62, hn63, hn64, hn65, hP1, hD1⟩ := hB
        rw [ht] at hP1
        obtain ⟨hP, hD⟩ := PDq.join (w := [(v0, .inl (cA 0, 326, .inl fs)), (v27, .inl (cA 1, 10, .inr (.inl l27))), (v29, .inl (cA 1, 8, .inr (.inl l29))), (v31, .inl (cA 0, 400, .inl f31)), (v33, .inl (cA 0, 11, .inl f33)), (oX10 w0 v0 v1 v2 v3 v4 g5 g6 (nI ed) 0 v9 (nI 0) g11 g12 v13 (nI n0) (nI (gP qn26)) (nI (gR (qn26 + 1))) zn27 zn28 zn29 zn30 zn31 zn34 (nI qn39) (nI qn35) zn33 zn32 v27 v28 v29 v30 v31 v32 v33 v34 v35 v36 v37 (nI ol)), (v1, .inl (cA 0, 326, .inl fn40)), (v9, .inl (cA 0, 700, .inl fb)), (v13, .inl (cA 1, 15, .inr (.inl fkw))), (v28, .inl (cA 1, 10, .inr (.inl fn44))), (v30, .inl (cA 1, 8, .inr (.inl fn43))), (v32, .inl (cA 0, 400, .inl fn41)), (v34, .inl (cA 0, 11, .inl fn42))]) 5 hP hD [10, 9, 11, 12, 2, 4, 6, 8] [0, 1, 3, 5, 7] rfl rfl (by decide) (by decide +kernel) hk1 hFc hP1 hD1 rfl
        generalize H1 = H at hP hS ⊢
        rcases hw.2 with hr9 | hr9
        · skip
          have hn65 := hn65 (hw.1.trans hr9)
          subst hr9
          refine lv_if_eq (tgt := 115) hx hb dX10_load_101 (by decide) (fun c66 => ?_) (fun c9 => absurd c9 (by decide))
          refine lv_iconst (v := 0) hx hb dX10_load_115 (by decide) ?_
          refine lv_istore_n (lv' := [(2, .int 0), (0, .ref w0), (1, .int (nI n0))]) hx hb dX10_load_116 rfl hl (by decide) rfl (fun ls hl => ?_)
          refine lv_goto (tgt := 86) hx hb dX10_load_117 (by decide) ?_
          refine lv_iload_n hx hb dX10_load_86 rfl (lv_at hl 0 rfl) ?_
          refine lv_if_eq (tgt := 120) hx hb dX10_load_87 (by decide) (fun c67 => ?_) (fun c9 => absurd c9 (by decide))
          refine lv_aload_n hx hb dX10_load_120 rfl (lv_at hl 1 rfl) ?_
          refine lv_aload_n hx hb dX10_load_121 rfl (lv_at hl 1 rfl) ?_
          refine va_get (D := D) (ci := 11) (v := .int zn30) (C := RX10) (T := TX10) (N := 39) hx hb hts inX10 hown hK hP 5 rfl rfl 20 (by decide) (hts (.fieldLink RX10 143 "EscrowDeskModel" "kind" "I") (by decide +kernel)) (fun _ h9 => h9) rfl dX10_load_122 ?_
          refine va_put (D := D) (ci := 11) (v := .int zn30) (ty := .int) (C := RX10) (T := TX10) (N := 39) hx hb hts inX10 tyX10 tyX10_ok nmX10 hown hK hP hD hS 5 rfl rfl 11 (by decide) (hts (.fieldLink RX10 255 "EscrowDeskModel" "errorKind" "I") (by decide +kernel)) (fun _ h9 => h9) rfl (by decide +kernel) rfl rfl (Nat.le_of_ble_eq_true rfl) dX10_load_125 (fun H locs hP hD hS => ?_)
          obtain ⟨hP, hD⟩ : PDq D A [(v0, .inl (cA 0, 326, .inl fs)), (v27, .inl (cA 1, 10, .inr (.inl l27))), (v29, .inl (cA 1, 8, .inr (.inl l29))), (v31, .inl (cA 0, 400, .inl f31)), (v33, .inl (cA 0, 11, .inl f33)), (oX10 w0 v0 v1 v2 v3 v4 g5 g6 (nI ed) 0 v9 (nI 0) zn30 g12 v13 (nI n0) (nI (gP qn26)) (nI (gR (qn26 + 1))) zn27 zn28 zn29 zn30 zn31 zn34 (nI qn39) (nI qn35) zn33 zn32 v27 v28 v29 v30 v31 v32 v33 v34 v35 v36 v37 (nI ol)), (v1, .inl (cA 0, 326, .inl fn40)), (v9, .inl (cA 0, 700, .inl fb)), (v13, .inl (cA 1, 15, .inr (.inl fkw))), (v28, .inl (cA 1, 10, .inr (.inl fn44))), (v30, .inl (cA 1, 8, .inr (.inl fn43))), (v32, .inl (cA 0, 400, .inl fn41)), (v34, .inl (cA 0, 11, .inl fn42))] H := ⟨hP, hD⟩
          refine lv_aload_n hx hb dX10_load_128 rfl (lv_at hl 1 rfl) ?_
          refine lv_aload_n hx hb dX10_load_129 rfl (lv_at hl 1 rfl) ?_
          refine va_get (D := D) (ci := 11) (v := .int zn31) (C := RX10) (T := TX10) (N := 39) hx hb hts inX10 hown hK hP 5 rfl rfl 21 (by decide) (hts (.fieldLink RX10 146 "EscrowDeskModel" "position" "I") (by decide +kernel)) (fun _ h9 => h9) rfl dX10_load_130 ?_
          refine va_put (D := D) (ci := 11) (v := .int zn31) (ty := .int) (C := RX10) (T := TX10) (N := 39) hx hb hts inX10 tyX10 tyX10_ok nmX10 hown hK hP hD hS 5 rfl rfl 12 (by decide) (hts (.fieldLink RX10 29 "EscrowDeskModel" "errorPosition" "I") (by decide +kernel)) (fun _ h9 => h9) rfl (by decide +kernel) rfl rfl (Nat.le_of_ble_eq_true rfl) dX10_load_133 (fun H locs hP hD hS => ?_)
          obtain ⟨hP, hD⟩ : PDq D A [(v0, .inl (cA 0, 326, .inl fs)), (v27, .inl (cA 1, 10, .inr (.inl l27))), (v29, .inl (cA 1, 8, .inr (.inl l29))), (v31, .inl (cA 0, 400, .inl f31)), (v33, .inl (cA 0, 11, .inl f33)), (oX10 w0 v0 v1 v2 v3 v4 g5 g6 (nI ed) 0 v9 (nI 0) zn30 zn31 v13 (nI n0) (nI (gP qn26)) (nI (gR (qn26 + 1))) zn27 zn28 zn29 zn30 zn31 zn34 (nI qn39) (nI qn35) zn33 zn32 v27 v28 v29 v30 v31 v32 v33 v34 v35 v36 v37 (nI ol)), (v1, .inl (cA 0, 326, .inl fn40)), (v9, .inl (cA 0, 700, .inl fb)), (v13, .inl (cA 1, 15, .inr (.inl fkw))), (v28, .inl (cA 1, 10, .inr (.inl fn44))), (v30, .inl (cA 1, 8, .inr (.inl fn43))), (v32, .inl (cA 0, 400, .inl fn41)), (v34, .inl (cA 0, 11, .inl fn42))] H := ⟨hP, hD⟩
          refine lv_iload_n hx hb dX10_load_136 rfl (lv_at hl 0 rfl) ?_
          refine lv_if_ne (tgt := 143) hx hb dX10_load_137 (by decide) (fun c9 => absurd c9 (by decide)) (fun c68 => ?_)
          refine lv_bipush (v := (-3)) hx hb dX10_load_140 (by decide) ?_
          obtain ⟨hP9, hD9⟩ := PDq.sub (ws' := [(oX10 w0 v0 v1 v2 v3 v4 g5 g6 (nI ed) 0 v9 (nI 0) zn30 zn31 v13 (nI n0) (nI (gP qn26)) (nI (gR (qn26 + 1))) zn27 zn28 zn29 zn30 zn31 zn34 (nI qn39) (nI qn35) zn33 zn32 v27 v28 v29 v30 v31 v32 v33 v34 v35 v36 v37 (nI ol)), (v0, .inl (cA 0, 326, .inl fs)), (v1, .inl (cA 0, 326, .inl fn40)), (v9, .inl (cA 0, 700, .inl fb)), (v13, .inl (cA 1, 15, .inr (.inl fkw))), (v27, .inl (cA 1, 10, .inr (.inl l27))), (v28, .inl (cA 1, 10, .inr (.inl fn44))), (v29, .inl (cA 1, 8, .inr (.inl l29))), (v30, .inl (cA 1, 8, .inr (.inl fn43))), (v31, .inl (cA 0, 400, .inl f31)), (v32, .inl (cA 0, 400, .inl fn41)), (v33, .inl (cA 0, 11, .inl f33)), (v34, .inl (cA 0, 11, .inl fn42))]) hP hD [5, 0, 6, 7, 8, 1, 9, 2, 10, 3, 11, 4, 12] (by decide +kernel) rfl
          refine W.widen (k := 0) (n := 0) (Nat.le_of_ble_eq_true rfl) (Nat.le_of_ble_eq_true rfl) ?_
          exact (W.iret (v := (-3)) hx hb hr (fun t ht hW => ⟨⟨(-3), (-3), rfl, rfl, ed, cn, pq, en, dy, zn30, zn31, (nI n0), (nI (gP qn26)), (nI (gR (qn26 + 1))), zn27, zn28, zn29, zn30, zn31, zn34, (nI qn39), (nI qn35), zn32, g5, g6, zn33, fs, fn40, f31, fn41, f33, fn42, l27, fn44, l29, fn43, ml, pl, (Or.inl ⟨rfl, rfl, rfl, rfl, hv13_1 _ (T_er (TKR.nend hv3_1 c13) hn65)⟩), hed, hcn, hpq, hen, hd9, hri, hCW, hHI, hNM7, hNP9, by rw [ht]; exact hP9, hD9⟩, hS.F ht⟩) hS.2.2 dX10_load_142)
        · skip
          have hn58 := hn58 (hw.1.trans hr9)
          subst hn58
          obtain ⟨hP, hD⟩ : PDq D A [(v0, .inl (cA 0, 326, .inl fs)), (v27, .inl (cA 1, 10, .inr (.inl l27))), (v29, .inl (cA 1, 8, .inr (.inl l29))), (v31, .inl (cA 0, 400, .inl f31)), (v33, .inl (cA 0, 11, .inl f33)), (oX10 w0 v0 v1 v2 v3 v4 g5 g6 (nI ed) 0 v9 (nI 0) g11 g12 v13 (nI n0) (nI (gP qn26)) (nI (gR (qn26 + 1))) zn27 zn28 zn29 zn30 zn31 0 (nI qn39) (nI qn35) zn33 zn32 v27 v28 v29 v30 v31 v32 v33 v34 v35 v36 v37 (nI ol)), (v1, .inl (cA 0, 326, .inl fn40)), (v9, .inl (cA 0, 700, .inl fb)), (v13, .inl (cA 1, 15, .inr (.inl fkw))), (v28, .inl (cA 1, 10, .inr (.inl fn44))), (v30, .inl (cA 1, 8, .inr (.inl fn43))), (v32, .inl (cA 0, 400, .inl fn41)), (v34, .inl (cA 0, 11, .inl fn42))] H := ⟨hP, hD⟩
          have hn59 := hn59 (hw.1.trans hr9)
          subst hn59
          obtain ⟨hP, hD⟩ : PDq D A [(v0, .inl (cA 0, 326, .inl fs)), (v27, .inl (cA 1, 10, .inr (.inl l27))), (v29, .inl (cA 1, 8, .inr (.inl l29))), (v31, .inl (cA 0, 400, .inl f31)), (v33, .inl (cA 0, 11, .inl f33)), (oX10 w0 v0 v1 v2 v3 v4 g5 g6 (nI ed) 0 v9 (nI 0) g11 g12 v13 (nI n0) (nI (gP qn26)) (nI (gR (qn26 + 1))) zn27 zn28 zn29 0 zn31 0 (nI qn39) (nI qn35) zn33 zn32 v27 v28 v29 v30 v31 v32 v33 v34 v35 v36 v37 (nI ol)), (v1, .inl (cA 0, 326, .inl fn40)), (v9, .inl (cA 0, 700, .inl fb)), (v13, .inl (cA 1, 15, .inr (.inl fkw))), (v28, .inl (cA 1, 10, .inr (.inl fn44))), (v30, .inl (cA 1, 8, .inr (.inl fn43))), (v32, .inl (cA 0, 400, .inl fn41)), (v34, .inl (cA 0, 11, .inl fn42))] H := ⟨hP, hD⟩
          have hn60 := hn60 (hw.1.trans hr9)
          subst hn60
          obtain ⟨hP, hD⟩ : PDq D A [(v0, .inl (cA 0, 326, .inl fs)), (v27, .inl (cA 1, 10, .inr (.inl l27))), (v29, .inl (cA 1, 8, .inr (.inl l29))), (v31, .inl (cA 0, 400, .inl f31)), (v33, .inl (cA 0, 11, .inl f33)), (oX10 w0 v0 v1 v2 v3 v4 g5 g6 (nI ed) 0 v9 (nI 0) g11 g12 v13 (nI n0) (nI (gP qn26)) (nI (gR (qn26 + 1))) zn27 zn28 zn29 0 (-1) 0 (nI qn39) (nI qn35) zn33 zn32 v27 v28 v29 v30 v31 v32 v33 v34 v35 v36 v37 (nI ol)), (v1, .inl (cA 0, 326, .inl fn40)), (v9, .inl (cA 0, 700, .inl fb)), (v13, .inl (cA 1, 15, .inr (.inl fkw))), (v28, .inl (cA 1, 10, .inr (.inl fn44))), (v30, .inl (cA 1, 8, .inr (.inl fn43))), (v32, .inl (cA 0, 400, .inl fn41)), (v34, .inl (cA 0, 11, .inl fn42))] H := ⟨hP, hD⟩
          have hn61 := hn61 (hw.1.trans hr9)
          have hn62 := hn62 (hw.1.trans hr9)
          have hn63 := hn63 (hw.1.trans hr9)
          have hn64 := hn64 (hw.1.trans hr9)
          subst hr9
          refine lv_if_eq (tgt := 115) hx hb dX10_load_101 (by decide) (fun c9 => absurd c9 (by decide)) (fun c69 => ?_)
          refine lv_aload_n hx hb dX10_load_104 rfl (lv_at hl 1 rfl) ?_
          obtain ⟨hPc, hDc, hFc⟩ := PDq.cut (wc := [(oX10 w0 v0 v1 v2 v3 v4 g5 g6 (nI ed) 0 v9 (nI 0) g11 g12 v13 (nI n0) (nI (gP qn26)) (nI (gR (qn26 + 1))) zn27 zn28 zn29 0 (-1) 0 (nI qn39) (nI qn35) zn33 zn32 v27 v28 v29 v30 v31 v32 v33 v34 v35 v36 v37 (nI ol)), (v9, .inl (cA 0, 700, .inl fb)), (v13, .inl (cA 1, 15, .inr (.inl fkw)))]) hP hD hS hA [5, 7, 8] (by decide) rfl
          refine va_calli (va_runV (As := []) (rest := []) ⟨hx, hb, hml, hown, hts⟩ (y_closed l D cA sa w0 ed 0 ol v0 v1 v2 v3 v4 v9 v13 v27 v28 v29 v30 v31 v32 v33 v34 v35 v36 v37 0 g11 g12 zn29 0 (-1) 0 (nI qn39) zn32 g5 g6 zn33 n0 qn35 zn27 zn28 qn26 ct fb fkw gP gR gS gK gV H.size (by omega) hct hn47 hTX hBY hn50 hKW) (cwV 0 hts gX10_load_X10_closed rfl rfl rfl (by decide +kernel) ⟨(Nat.le_of_ble_eq_true rfl), (Nat.le_of_ble_eq_true rfl)⟩) ⟨Wd.blind, va_recv hK hPc (ci := 11) (q0 := 0) rfl rfl, fun U hU hW => ⟨rfl, Wd.call hPc hDc hK hC hZ hS hFc U hU hW⟩⟩ rfl rfl hl.1 rfl (lv_room (Nat.le_of_ble_eq_true rfl)) dX10_load_105 ⟨(Nat.le_of_ble_eq_true rfl), (Nat.le_of_ble_eq_true rfl)⟩) hS (fun q _ h => hFc q h) hFc (fun rn70 u t H1 locs ht hvm hw hB hz1 hk1 hS => ?_)
          obtain ⟨qn71, zn72, zn73, zn74, zn75, zn76, zn77, zn78, hn79, hn80, hn81, hn82, hn83, hn84, hn85, hn86, hn87, hn88, hn89, hn90, hP1, hD1⟩ := hB
          rw [ht] at hP1
          obtain ⟨hP, hD⟩ := PDq.join (w := [(v0, .inl (cA 0, 326, .inl fs)), (v27, .inl (cA 1, 10, .inr (.inl l27))), (v29, .inl (cA 1, 8, .inr (.inl l29))), (v31, .inl (cA 0, 400, .inl f31)), (v33, .inl (cA 0, 11, .inl f33)), (v1, .inl (cA 0, 326, .inl fn40)), (v28, .inl (cA 1, 10, .inr (.inl fn44))), (v30, .inl (cA 1, 8, .inr (.inl fn43))), (v32, .inl (cA 0, 400, .inl fn41)), (v34, .inl (cA 0, 11, .inl fn42)), (oX10 w0 v0 v1 v2 v3 v4 g5 g6 (nI ed) 0 v9 (nI 0) g11 g12 v13 (nI n0) (nI (gP qn71)) (nI (gR (qn71 + 1))) zn72 zn73 zn74 zn75 zn76 0 (nI qn39) (nI qn35) zn78 zn77 v27 v28 v29 v30 v31 v32 v33 v34 v35 v36 v37 (nI ol)), (v9, .inl (cA 0, 700, .inl fb)), (v13, .inl (cA 1, 15, .inr (.inl fkw)))]) 10 hP hD [5, 7, 8] [0, 1, 2, 3, 4, 6, 9, 10, 11, 12] rfl rfl (by decide +kernel) (by decide +kernel) hk1 hFc hP1 hD1 rfl
          generalize H1 = H at hP hS ⊢
          rcases hw.2 with hr9 | hr9
          · skip
            have hn88 := hn88 (hw.1.trans hr9)
            have hn89 := hn89 (hw.1.trans hr9)
            have hn90 := hn90 (hw.1.trans hr9)
            subst hr9
            refine lv_if_eq (tgt := 115) hx hb dX10_load_108 (by decide) (fun c91 => ?_) (fun c9 => absurd c9 (by decide))
            refine lv_iconst (v := 0) hx hb dX10_load_115 (by decide) ?_
            refine lv_istore_n (lv' := [(2, .int 0), (0, .ref w0), (1, .int (nI n0))]) hx hb dX10_load_116 rfl hl (by decide) rfl (fun ls hl => ?_)
            refine lv_goto (tgt := 86) hx hb dX10_load_117 (by decide) ?_
            refine lv_iload_n hx hb dX10_load_86 rfl (lv_at hl 0 rfl) ?_
            refine lv_if_eq (tgt := 120) hx hb dX10_load_87 (by decide) (fun c92 => ?_) (fun c9 => absurd c9 (by decide))
            refine lv_aload_n hx hb dX10_load_120 rfl (lv_at hl 1 rfl) ?_
            refine lv_aload_n hx hb dX10_load_121 rfl (lv_at hl 1 rfl) ?_
            refine va_get (D := D) (ci := 11) (v := .int zn75) (C := RX10) (T := TX10) (N := 39) hx hb hts inX10 hown hK hP 10 rfl rfl 20 (by decide) (hts (.fieldLink RX10 143 "EscrowDeskModel" "kind" "I") (by decide +kernel)) (fun _ h9 => h9) rfl dX10_load_122 ?_
            refine va_put (D := D) (ci := 11) (v := .int zn75) (ty := .int) (C := RX10) (T := TX10) (N := 39) hx hb hts inX10 tyX10 tyX10_ok nmX10 hown hK hP hD hS 10 rfl rfl 11 (by decide) (hts (.fieldLink RX10 255 "EscrowDeskModel" "errorKind" "I") (by decide +kernel)) (fun _ h9 => h9) rfl (by decide +kernel) rfl rfl (Nat.le_of_ble_eq_true rfl) dX10_load_125 (fun H locs hP hD hS => ?_)
            obtain ⟨hP, hD⟩ : PDq D A [(v0, .inl (cA 0, 326, .inl fs)), (v27, .inl (cA 1, 10, .inr (.inl l27))), (v29, .inl (cA 1, 8, .inr (.inl l29))), (v31, .inl (cA 0, 400, .inl f31)), (v33, .inl (cA 0, 11, .inl f33)), (v1, .inl (cA 0, 326, .inl fn40)), (v28, .inl (cA 1, 10, .inr (.inl fn44))), (v30, .inl (cA 1, 8, .inr (.inl fn43))), (v32, .inl (cA 0, 400, .inl fn41)), (v34, .inl (cA 0, 11, .inl fn42)), (oX10 w0 v0 v1 v2 v3 v4 g5 g6 (nI ed) 0 v9 (nI 0) zn75 g12 v13 (nI n0) (nI (gP qn71)) (nI (gR (qn71 + 1))) zn72 zn73 zn74 zn75 zn76 0 (nI qn39) (nI qn35) zn78 zn77 v27 v28 v29 v30 v31 v32 v33 v34 v35 v36 v37 (nI ol)), (v9, .inl (cA 0, 700, .inl fb)), (v13, .inl (cA 1, 15, .inr (.inl fkw)))] H := ⟨hP, hD⟩
            refine lv_aload_n hx hb dX10_load_128 rfl (lv_at hl 1 rfl) ?_
            refine lv_aload_n hx hb dX10_load_129 rfl (lv_at hl 1 rfl) ?_
            refine va_get (D := D) (ci := 11) (v := .int zn76) (C := RX10) (T := TX10) (N := 39) hx hb hts inX10 hown hK hP 10 rfl rfl 21 (by decide) (hts (.fieldLink RX10 146 "EscrowDeskModel" "position" "I") (by decide +kernel)) (fun _ h9 => h9) rfl dX10_load_130 ?_
            refine va_put (D := D) (ci := 11) (v := .int zn76) (ty := .int) (C := RX10) (T := TX10) (N := 39) hx hb hts inX10 tyX10 tyX10_ok nmX10 hown hK hP hD hS 10 rfl rfl 12 (by decide) (hts (.fieldLink RX10 29 "EscrowDeskModel" "errorPosition" "I") (by decide +kernel)) (fun _ h9 => h9) rfl (by decide +kernel) rfl rfl (Nat.le_of_ble_eq_true rfl) dX10_load_133 (fun H locs hP hD hS => ?_)
            obtain ⟨hP, hD⟩ : PDq D A [(v0, .inl (cA 0, 326, .inl fs)), (v27, .inl (cA 1, 10, .inr (.inl l27))), (v29, .inl (cA 1, 8, .inr (.inl l29))), (v31, .inl (cA 0, 400, .inl f31)), (v33, .inl (cA 0, 11, .inl f33)), (v1, .inl (cA 0, 326, .inl fn40)), (v28, .inl (cA 1, 10, .inr (.inl fn44))), (v30, .inl (cA 1, 8, .inr (.inl fn43))), (v32, .inl (cA 0, 400, .inl fn41)), (v34, .inl (cA 0, 11, .inl fn42)), (oX10 w0 v0 v1 v2 v3 v4 g5 g6 (nI ed) 0 v9 (nI 0) zn75 zn76 v13 (nI n0) (nI (gP qn71)) (nI (gR (qn71 + 1))) zn72 zn73 zn74 zn75 zn76 0 (nI qn39) (nI qn35) zn78 zn77 v27 v28 v29 v30 v31 v32 v33 v34 v35 v36 v37 (nI ol)), (v9, .inl (cA 0, 700, .inl fb)), (v13, .inl (cA 1, 15, .inr (.inl fkw)))] H := ⟨hP, hD⟩
            refine lv_iload_n hx hb dX10_load_136 rfl (lv_at hl 0 rfl) ?_
            refine lv_if_ne (tgt := 143) hx hb dX10_load_137 (by decide) (fun c9 => absurd c9 (by decide)) (fun c93 => ?_)
            refine lv_bipush (v := (-3)) hx hb dX10_load_140 (by decide) ?_
            obtain ⟨hP9, hD9⟩ := PDq.sub (ws' := [(oX10 w0 v0 v1 v2 v3 v4 g5 g6 (nI ed) 0 v9 (nI 0) zn75 zn76 v13 (nI n0) (nI (gP qn71)) (nI (gR (qn71 + 1))) zn72 zn73 zn74 zn75 zn76 0 (nI qn39) (nI qn35) zn78 zn77 v27 v28 v29 v30 v31 v32 v33 v34 v35 v36 v37 (nI ol)), (v0, .inl (cA 0, 326, .inl fs)), (v1, .inl (cA 0, 326, .inl fn40)), (v9, .inl (cA 0, 700, .inl fb)), (v13, .inl (cA 1, 15, .inr (.inl fkw))), (v27, .inl (cA 1, 10, .inr (.inl l27))), (v28, .inl (cA 1, 10, .inr (.inl fn44))), (v29, .inl (cA 1, 8, .inr (.inl l29))), (v30, .inl (cA 1, 8, .inr (.inl fn43))), (v31, .inl (cA 0, 400, .inl f31)), (v32, .inl (cA 0, 400, .inl fn41)), (v33, .inl (cA 0, 11, .inl f33)), (v34, .inl (cA 0, 11, .inl fn42))]) hP hD [10, 0, 5, 11, 12, 1, 6, 2, 7, 3, 8, 4, 9] (by decide +kernel) rfl
            refine W.widen (k := 0) (n := 0) (Nat.le_of_ble_eq_true rfl) (Nat.le_of_ble_eq_true rfl) ?_
            exact (W.iret (v := (-3)) hx hb hr (fun t ht hW => ⟨⟨(-3), (-3), rfl, rfl, ed, cn, pq, en, dy, zn75, zn76, (nI n0), (nI (gP qn71)), (nI (gR (qn71 + 1))), zn72, zn73, zn74, zn75, zn76, 0, (nI qn39), (nI qn35), zn77, g5, g6, zn78, fs, fn40, f31, fn41, f33, fn42, l27, fn44, l29, fn43, ml, pl, (Or.inl ⟨rfl, rfl, rfl, rfl, hv13_1 _ (T_semix (TKR.nend hv3_1 c13) hn64 hn88 hn89 hn90)⟩), hed, hcn, hpq, hen, hd9, hri, hCW, hHI, hNM7, hNP9, by rw [ht]; exact hP9, hD9⟩, hS.F ht⟩) hS.2.2 dX10_load_142)
          · skip
            have hn83 := hn83 (hw.1.trans hr9)
            subst hn83
            obtain ⟨hP, hD⟩ : PDq D A [(v0, .inl (cA 0, 326, .inl fs)), (v27, .inl (cA 1, 10, .inr (.inl l27))), (v29, .inl (cA 1, 8, .inr (.inl l29))), (v31, .inl (cA 0, 400, .inl f31)), (v33, .inl (cA 0, 11, .inl f33)), (v1, .inl (cA 0, 326, .inl fn40)), (v28, .inl (cA 1, 10, .inr (.inl fn44))), (v30, .inl (cA 1, 8, .inr (.inl fn43))), (v32, .inl (cA 0, 400, .inl fn41)), (v34, .inl (cA 0, 11, .inl fn42)), (oX10 w0 v0 v1 v2 v3 v4 g5 g6 (nI ed) 0 v9 (nI 0) g11 g12 v13 (nI n0) (nI (gP (qn26 + 1))) (nI (gR ((qn26 + 1) + 1))) zn72 zn73 zn74 zn75 zn76 0 (nI qn39) (nI qn35) zn78 zn77 v27 v28 v29 v30 v31 v32 v33 v34 v35 v36 v37 (nI ol)), (v9, .inl (cA 0, 700, .inl fb)), (v13, .inl (cA 1, 15, .inr (.inl fkw)))] H := ⟨hP, hD⟩
            have hn84 := hn84 (hw.1.trans hr9)
            subst hn84
            obtain ⟨hP, hD⟩ : PDq D A [(v0, .inl (cA 0, 326, .inl fs)), (v27, .inl (cA 1, 10, .inr (.inl l27))), (v29, .inl (cA 1, 8, .inr (.inl l29))), (v31, .inl (cA 0, 400, .inl f31)), (v33, .inl (cA 0, 11, .inl f33)), (v1, .inl (cA 0, 326, .inl fn40)), (v28, .inl (cA 1, 10, .inr (.inl fn44))), (v30, .inl (cA 1, 8, .inr (.inl fn43))), (v32, .inl (cA 0, 400, .inl fn41)), (v34, .inl (cA 0, 11, .inl fn42)), (oX10 w0 v0 v1 v2 v3 v4 g5 g6 (nI ed) 0 v9 (nI 0) g11 g12 v13 (nI n0) (nI (gP (qn26 + 1))) (nI (gR ((qn26 + 1) + 1))) zn72 zn73 zn74 0 zn76 0 (nI qn39) (nI qn35) zn78 zn77 v27 v28 v29 v30 v31 v32 v33 v34 v35 v36 v37 (nI ol)), (v9, .inl (cA 0, 700, .inl fb)), (v13, .inl (cA 1, 15, .inr (.inl fkw)))] H := ⟨hP, hD⟩
            have hn85 := hn85 (hw.1.trans hr9)
            subst hn85
            obtain ⟨hP, hD⟩ : PDq D A [(v0, .inl (cA 0, 326, .inl fs)), (v27, .inl (cA 1, 10, .inr (.inl l27))), (v29, .inl (cA 1, 8, .inr (.inl l29))), (v31, .inl (cA 0, 400, .inl f31)), (v33, .inl (cA 0, 11, .inl f33)), (v1, .inl (cA 0, 326, .inl fn40)), (v28, .inl (cA 1, 10, .inr (.inl fn44))), (v30, .inl (cA 1, 8, .inr (.inl fn43))), (v32, .inl (cA 0, 400, .inl fn41)), (v34, .inl (cA 0, 11, .inl fn42)), (oX10 w0 v0 v1 v2 v3 v4 g5 g6 (nI ed) 0 v9 (nI 0) g11 g12 v13 (nI n0) (nI (gP (qn26 + 1))) (nI (gR ((qn26 + 1) + 1))) zn72 zn73 zn74 0 (-1) 0 (nI qn39) (nI qn35) zn78 zn77 v27 v28 v29 v30 v31 v32 v33 v34 v35 v36 v37 (nI ol)), (v9, .inl (cA 0, 700, .inl fb)), (v13, .inl (cA 1, 15, .inr (.inl fkw)))] H := ⟨hP, hD⟩
            have hn86 := hn86 (hw.1.trans hr9)
            have hn87 := hn87 (hw.1.trans hr9)
            subst hr9
            refine lv_if_eq (tgt := 115) hx hb dX10_load_108 (by decide) (fun c9 => absurd c9 (by decide)) (fun c94 => ?_)
            refine lv_iconst (v := 1) hx hb dX10_load_111 (by decide) ?_
            refine lv_goto (tgt := 116) hx hb dX10_load_112 (by decide) ?_
            refine lv_istore_n (lv' := [(2, .int 1), (0, .ref w0), (1, .int (nI n0))]) hx hb dX10_load_116 rfl hl (by decide) rfl (fun ls hl => ?_)
            refine lv_goto (tgt := 86) hx hb dX10_load_117 (by decide) ?_
            obtain ⟨hP9, hD9⟩ := PDq.sub (ws' := [(v0, .inl (cA 0, 326, .inl fs)), (v27, .inl (cA 1, 10, .inr (.inl l27))), (v28, .inl (cA 1, 10, .inr (.inl fn44))), (v29, .inl (cA 1, 8, .inr (.inl l29))), (v30, .inl (cA 1, 8, .inr (.inl fn43))), (v31, .inl (cA 0, 400, .inl f31)), (v32, .inl (cA 0, 400, .inl fn41)), (v33, .inl (cA 0, 11, .inl f33)), (v34, .inl (cA 0, 11, .inl fn42)), (v1, .inl (cA 0, 326, .inl fn40)), (oX10 w0 v0 v1 v2 v3 v4 g5 g6 (nI ed) 0 v9 (nI 0) g11 g12 v13 (nI n0) (nI (gP (qn26 + 1))) (nI (gR ((qn26 + 1) + 1))) zn72 zn73 zn74 0 (-1) 0 (nI qn39) (nI qn35) zn78 zn77 v27 v28 v29 v30 v31 v32 v33 v34 v35 v36 v37 (nI ol)), (v9, .inl (cA 0, 700, .inl fb)), (v13, .inl (cA 1, 15, .inr (.inl fkw)))]) hP hD [0, 1, 6, 2, 7, 3, 8, 4, 9, 5, 10, 11, 12] (by decide +kernel) rfl
            exact ih1 (i1 + 1) (qn26 + 1) qn36 qn37 qn38 zn45 zn46 fn44 fn43 fn41 fn42 fn40 zn72 zn73 zn74 qn39 qn35 zn78 zn77 H _ ls (by omega) (by omega) hn79 hn80 hn82 (by omega) hn51 hn52 hn53 hn54 hn55 hn63 hn56 hn57 (fun r9 h9 => hv13_1 r9 (T_go (TKR.nend hv3_1 c13) hn64 hn87 h9)) hP9 hD9 hS (lv_sub hl [0, 1, 2] rfl)
  obtain ⟨hP9, hD9⟩ := PDq.sub (ws' := [(v0, .inl (cA 0, 326, .inl fs)), (v27, .inl (cA 1, 10, .inr (.inl l27))), (v28, .inl (cA 1, 10, .inr (.inl l28))), (v29, .inl (cA 1, 8, .inr (.inl l29))), (v30, .inl (cA 1, 8, .inr (.inl l30))), (v31, .inl (cA 0, 400, .inl f31)), (v32, .inl (cA 0, 400, .inl fc)), (v33, .inl (cA 0, 11, .inl f33)), (v34, .inl (cA 0, 11, .inl fq)), (v1, .inl (cA 0, 326, .inl fn4)), (oX10 w0 v0 v1 v2 v3 v4 g5 g6 (nI ed) 0 v9 (nI 0) g11 g12 v13 (nI n0) (nI (gP 0)) (nI (gR (0 + 1))) zn7 zn8 zn9 0 (-1) 0 0 0 zn10 g26 v27 v28 v29 v30 v31 v32 v33 v34 v35 v36 v37 (nI ol)), (v9, .inl (cA 0, 700, .inl fb)), (v13, .inl (cA 1, 15, .inr (.inl fkw)))]) hP hD [0, 1, 2, 3, 4, 5, 6, 7, 8, 9, 10, 11, 12] (by decide +kernel) rfl
  exact loop1 (701 - 0) 0 0 0 0 0 [] [] l28 l30 fc fq fn4 zn7 zn8 zn9 0 0 zn10 g26 _ _ ls (by omega) (by omega) (by omega) (by omega) hn11 (by omega) (by omega) (by omega) (by omega) (by omega) hn5 (CR.zero 0 fc fq) (NL.zero _) (NL.zero _) (fun _ h9 => h9) hP9 hD9 hS (lv_sub hl [0, 1, 2] rfl)

set_option maxHeartbeats 4000000 in
set_option maxRecDepth 100000 in
/-- appendBytes -/
theorem x_appendBytes (l : Launch) (D : va_G) (cA : Nat → ClassId) (sa : Nat → Nat) (h0 : Nat) (b0 : Nat) (nb : Nat) (p0 : Nat) (u0 : Nat) (r0 : Nat) (a0 : Nat) (t0 : Nat) (s0 : Nat) (o0 : Nat) (w : Int32) (fb : Nat → Int32) (sz : Nat) (hnb : nb + 4 ≤ 700) : Met l yX9_appendBytes wsX9_appendBytes ({ frames := 0, cells := 0, slots := 0, locals := 0 }) (va_Pc [.ref h0, .int w] (Wd D cA sa [(oX9 h0 b0 (nI nb) p0 u0 r0 a0 t0 s0 o0), (b0, .inl (cA 2, 700, .inl fb))] sz)) (va_Qv (fun _ : Unit => True) (fun (_ : Unit) t => ∃ nb2 : Nat, ∃ zb : Nat → Int32, nb2 = nb + 4 ∧ A4 nb w fb zb ∧ Wq D (va_A [(oX9 h0 b0 (nI nb) p0 u0 r0 a0 t0 s0 o0), (b0, .inl (cA 2, 700, .inl fb))] sz) [(oX9 h0 b0 (nI nb2) p0 u0 r0 a0 t0 s0 o0), (b0, .inl (cA 2, 700, .inl zb))] t) (va_A [(oX9 h0 b0 (nI nb) p0 u0 r0 a0 t0 s0 o0), (b0, .inl (cA 2, 700, .inl fb))] sz)) 0 0 (va_A [(oX9 h0 b0 (nI nb) p0 u0 r0 a0 t0 s0 o0), (b0, .inl (cA 2, 700, .inl fb))] sz) := by
  refine Met.ofW (cc := cX9_appendBytes) (maxL := 3) (ret := none) (by decide) rfl ?_
  intro p e s m args below meth c s₁ B hml hv
  obtain ⟨rfl, hsz, hP, hK, hD0, hC, hZ⟩ := hv
  have hx := B.exec
  have hb := B.bytes
  have hr := B.returns
  have hts := atoms_spec (ws := wsX9_appendBytes) B.pre
  have hown : s.vm.findClass RX9 = some m.cls := findClass_of_methodNamed B.named
  have hlocks := B.notSynchronized
  subst hsz
  have hD := hD0.self (sz := s.heap.size)
  generalize hAe : va_A [(oX9 h0 b0 (nI nb) p0 u0 r0 a0 t0 s0 o0), (b0, .inl (cA 2, 700, .inl fb))] s.heap.size = A at hD hZ ⊢
  have hA : ∀ q : Nat, s.heap.size ≤ q → A q := fun q h => by rw [← hAe]; exact Or.inr h
  have hS : va_S A s.heap s.heap [] := va_S.rf
  have hP : va_P D vwCl [(oX9 h0 b0 (nI nb) p0 u0 r0 a0 t0 s0 o0), (b0, .inl (cA 2, 700, .inl fb))] s.heap := hP
  have hl := lv_entry ([.ref h0, .int w]) (n := 3) (Nat.le_of_ble_eq_true rfl)
  rw [lg_entry_eq]
  generalize (lg_sl ([.ref h0, .int w]) ++ List.replicate (3 - (lg_sl ([.ref h0, .int w])).length) Slot.unset).toArray = ls at hl ⊢
  have hl : lv_has ls 3 [(0, .ref h0), (1, .int w)] := hl
  have inX9 : ∀ w ∈ u_ws RX9 TX9 9, w ∈ wsX9_appendBytes := by decide +kernel
  refine lv_bipush (v := 24) hx hb dX9_appendBytes_0 (by decide) ?_
  refine lv_istore_n (lv' := [(2, .int 24), (0, .ref h0), (1, .int w)]) hx hb dX9_appendBytes_2 rfl hl (by decide) rfl (fun ls hl => ?_)
  refine lv_iload_n hx hb dX9_appendBytes_3 rfl (lv_at hl 0 rfl) ?_
  refine lv_if_lt (tgt := 52) hx hb dX9_appendBytes_4 (by decide) (fun c9 => absurd c9 (by decide)) (fun c1 => ?_)
  refine lv_aload_n hx hb dX9_appendBytes_7 rfl (lv_at hl 1 rfl) ?_
  refine va_get (D := D) (ci := 10) (v := .int (nI nb)) (C := RX9) (T := TX9) (N := 9) hx hb hts inX9 hown hK hP 0 rfl rfl 1 (by decide) (hts (.fieldLink RX9 59 "EscrowDesk" "buffered" "I") (by decide +kernel)) (fun _ h9 => h9) rfl dX9_appendBytes_8 ?_
  refine lv_aload_n hx hb dX9_appendBytes_11 rfl (lv_at hl 1 rfl) ?_
  refine va_get (D := D) (ci := 10) (v := .ref b0) (C := RX9) (T := TX9) (N := 9) hx hb hts inX9 hown hK hP 0 rfl rfl 0 (by decide) (hts (.fieldLink RX9 9 "EscrowDesk" "buffer" "[C") (by decide +kernel)) (fun _ h9 => h9) rfl dX9_appendBytes_12 ?_
  refine va_alen (v := 700) hx hb hK hP 1 2 rfl rfl rfl dX9_appendBytes_15 ?_
  refine lv_icmp_ge (tgt := 46) hx hb dX9_appendBytes_16 (by decide) (fun c9 => absurd c9 (nI_ge (a := nb) (b := 700) (show nb < 700 by omega) (by omega))) (fun c2 => ?_)
  refine lv_aload_n hx hb dX9_appendBytes_19 rfl (lv_at hl 1 rfl) ?_
  refine va_get (D := D) (ci := 10) (v := .ref b0) (C := RX9) (T := TX9) (N := 9) hx hb hts inX9 hown hK hP 0 rfl rfl 0 (by decide) (hts (.fieldLink RX9 9 "EscrowDesk" "buffer" "[C") (by decide +kernel)) (fun _ h9 => h9) rfl dX9_appendBytes_20 ?_
  refine lv_aload_n hx hb dX9_appendBytes_23 rfl (lv_at hl 1 rfl) ?_
  refine va_get (D := D) (ci := 10) (v := .int (nI nb)) (C := RX9) (T := TX9) (N := 9) hx hb hts inX9 hown hK hP 0 rfl rfl 1 (by decide) (hts (.fieldLink RX9 59 "EscrowDesk" "buffered" "I") (by decide +kernel)) (fun _ h9 => h9) rfl dX9_appendBytes_24 ?_
  refine lv_iload_n hx hb dX9_appendBytes_27 rfl (lv_at hl 2 rfl) ?_
  refine lv_iload_n hx hb dX9_appendBytes_28 rfl (lv_at hl 0 rfl) ?_
  refine lv_iushr hx hb dX9_appendBytes_29 rfl ?_
  refine lv_topi (fun yn3 eyn3 => ?_)
  refine lv_sipush (v := 255) hx hb dX9_appendBytes_30 (by decide) ?_
  refine lv_iand hx hb dX9_appendBytes_33 ?_
  refine lv_topi (fun yn4 eyn4 => ?_)
  refine lv_i2c hx hb dX9_appendBytes_34 rfl ?_
  refine lv_topi (fun yn5 eyn5 => ?_)
  refine va_cast hx hb hK hP hD hS 1 2 rfl rfl (vp_in_nI (n := nb) (N := 700) (show nb < 700 by omega) (by decide)) dX9_appendBytes_35 (fun H locs hP hD hS => ?_)
  obtain ⟨hP, hD⟩ : PDq D A [(oX9 h0 b0 (nI nb) p0 u0 r0 a0 t0 s0 o0), (b0, .inl (cA 2, 700, .inl (upd fb (((nI nb)).toNatClampNeg) (vp_nar .char yn5))))] H := ⟨hP, hD⟩
  have hn7 : Upp nb (vp_nar .char yn5) fb (upd fb (((nI nb)).toNatClampNeg) (vp_nar .char yn5)) := Upp.of (by omega)
  have hn8 : Rbb (upd fb (((nI nb)).toNatClampNeg) (vp_nar .char yn5)) := rfl
  generalize (upd fb (((nI nb)).toNatClampNeg) (vp_nar .char yn5)) = fn6 at hP hD hn7 hn8
  obtain ⟨hP, hD⟩ : PDq D A [(oX9 h0 b0 (nI nb) p0 u0 r0 a0 t0 s0 o0), (b0, .inl (cA 2, 700, .inl fn6))] H := ⟨hP, hD⟩
  refine lv_aload_n hx hb dX9_appendBytes_36 rfl (lv_at hl 1 rfl) ?_
  refine lv_dup hx hb dX9_appendBytes_37 rfl ?_
  refine va_get (D := D) (ci := 10) (v := .int (nI nb)) (C := RX9) (T := TX9) (N := 9) hx hb hts inX9 hown hK hP 0 rfl rfl 1 (by decide) (hts (.fieldLink RX9 59 "EscrowDesk" "buffered" "I") (by decide +kernel)) (fun _ h9 => h9) rfl dX9_appendBytes_38 ?_
  refine lv_iconst (v := 1) hx hb dX9_appendBytes_41 (by decide) ?_
  refine lv_iadd hx hb dX9_appendBytes_42 ?_
  refine lv_topi (fun yn9 eyn9 => ?_)
  obtain rfl : yn9 = (nI (nb + 1)) := eyn9.trans (nI_add nb 1)
  refine va_put (D := D) (ci := 10) (v := .int (nI (nb + 1))) (ty := .int) (C := RX9) (T := TX9) (N := 9) hx hb hts inX9 tyX9 tyX9_ok nmX9 hown hK hP hD hS 0 rfl rfl 1 (by decide) (hts (.fieldLink RX9 59 "EscrowDesk" "buffered" "I") (by decide +kernel)) (fun _ h9 => h9) rfl (by decide +kernel) rfl rfl (Nat.le_of_ble_eq_true rfl) dX9_appendBytes_43 (fun H locs hP hD hS => ?_)
  obtain ⟨hP, hD⟩ : PDq D A [(oX9 h0 b0 (nI (nb + 1)) p0 u0 r0 a0 t0 s0 o0), (b0, .inl (cA 2, 700, .inl fn6))] H := ⟨hP, hD⟩
  refine lv_iinc (v := 16) (lv' := [(2, .int 16), (0, .ref h0), (1, .int w)]) hx hb dX9_appendBytes_46 hl (k := 0) rfl (by first | rfl | decide +kernel) (by decide) rfl (fun ls hl => ?_)
  refine lv_goto (tgt := 3) hx hb dX9_appendBytes_49 (by decide) ?_
  refine lv_iload_n hx hb dX9_appendBytes_3 rfl (lv_at hl 0 rfl) ?_
  refine lv_if_lt (tgt := 52) hx hb dX9_appendBytes_4 (by decide) (fun c9 => absurd c9 (by decide)) (fun c10 => ?_)
  refine lv_aload_n hx hb dX9_appendBytes_7 rfl (lv_at hl 1 rfl) ?_
  refine va_get (D := D) (ci := 10) (v := .int (nI (nb + 1))) (C := RX9) (T := TX9) (N := 9) hx hb hts inX9 hown hK hP 0 rfl rfl 1 (by decide) (hts (.fieldLink RX9 59 "EscrowDesk" "buffered" "I") (by decide +kernel)) (fun _ h9 => h9) rfl dX9_appendBytes_8 ?_
  refine lv_aload_n hx hb dX9_appendBytes_11 rfl (lv_at hl 1 rfl) ?_
  refine va_get (D := D) (ci := 10) (v := .ref b0) (C := RX9) (T := TX9) (N := 9) hx hb hts inX9 hown hK hP 0 rfl rfl 0 (by decide) (hts (.fieldLink RX9 9 "EscrowDesk" "buffer" "[C") (by decide +kernel)) (fun _ h9 => h9) rfl dX9_appendBytes_12 ?_
  refine va_alen (v := 700) hx hb hK hP 1 2 rfl rfl rfl dX9_appendBytes_15 ?_
  refine lv_icmp_ge (tgt := 46) hx hb dX9_appendBytes_16 (by decide) (fun c9 => absurd c9 (nI_ge (a := (nb + 1)) (b := 700) (show (nb + 1) < 700 by omega) (by omega))) (fun c11 => ?_)
  refine lv_aload_n hx hb dX9_appendBytes_19 rfl (lv_at hl 1 rfl) ?_
  refine va_get (D := D) (ci := 10) (v := .ref b0) (C := RX9) (T := TX9) (N := 9) hx hb hts inX9 hown hK hP 0 rfl rfl 0 (by decide) (hts (.fieldLink RX9 9 "EscrowDesk" "buffer" "[C") (by decide +kernel)) (fun _ h9 => h9) rfl dX9_appendBytes_20 ?_
  refine lv_aload_n hx hb dX9_appendBytes_23 rfl (lv_at hl 1 rfl) ?_
  refine va_get (D := D) (ci := 10) (v := .int (nI (nb + 1))) (C := RX9) (T := TX9) (N := 9) hx hb hts inX9 hown hK hP 0 rfl rfl 1 (by decide) (hts (.fieldLink RX9 59 "EscrowDesk" "buffered" "I") (by decide +kernel)) (fun _ h9 => h9) rfl dX9_appendBytes_24 ?_
  refine lv_iload_n hx hb dX9_appendBytes_27 rfl (lv_at hl 2 rfl) ?_
  refine lv_iload_n hx hb dX9_appendBytes_28 rfl (lv_at hl 0 rfl) ?_
  refine lv_iushr hx hb dX9_appendBytes_29 rfl ?_
  refine lv_topi (fun yn12 eyn12 => ?_)
  refine lv_sipush (v := 255) hx hb dX9_appendBytes_30 (by decide) ?_
  refine lv_iand hx hb dX9_appendBytes_33 ?_
  refine lv_topi (fun yn13 eyn13 => ?_)
  refine lv_i2c hx hb dX9_appendBytes_34 rfl ?_
  refine lv_topi (fun yn14 eyn14 => ?_)
  refine va_cast hx hb hK hP hD hS 1 2 rfl rfl (vp_in_nI (n := (nb + 1)) (N := 700) (show (nb + 1) < 700 by omega) (by decide)) dX9_appendBytes_35 (fun H locs hP hD hS => ?_)
  obtain ⟨hP, hD⟩ : PDq D A [(oX9 h0 b0 (nI (nb + 1)) p0 u0 r0 a0 t0 s0 o0), (b0, .inl (cA 2, 700, .inl (upd fn6 (((nI (nb + 1))).toNatClampNeg) (vp_nar .char yn14))))] H := ⟨hP, hD⟩
  have hn16 : Upp (nb + 1) (vp_nar .char yn14) fn6 (upd fn6 (((nI (nb + 1))).toNatClampNeg) (vp_nar .char yn14)) := Upp.of (by omega)
  have hn17 : Rbb (upd fn6 (((nI (nb + 1))).toNatClampNeg) (vp_nar .char yn14)) := rfl
  generalize (upd fn6 (((nI (nb + 1))).toNatClampNeg) (vp_nar .char yn14)) = fn15 at hP hD hn16 hn17
  obtain ⟨hP, hD⟩ : PDq D A [(oX9 h0 b0 (nI (nb + 1)) p0 u0 r0 a0 t0 s0 o0), (b0, .inl (cA 2, 700, .inl fn15))] H := ⟨hP, hD⟩
  refine lv_aload_n hx hb dX9_appendBytes_36 rfl (lv_at hl 1 rfl) ?_
  refine lv_dup hx hb dX9_appendBytes_37 rfl ?_
  refine va_get (D := D) (ci := 10) (v := .int (nI (nb + 1))) (C := RX9) (T := TX9) (N := 9) hx hb hts inX9 hown hK hP 0 rfl rfl 1 (by decide) (hts (.fieldLink RX9 59 "EscrowDesk" "buffered" "I") (by decide +kernel)) (fun _ h9 => h9) rfl dX9_appendBytes_38 ?_
  refine lv_iconst (v := 1) hx hb dX9_appendBytes_41 (by decide) ?_
  refine lv_iadd hx hb dX9_appendBytes_42 ?_
  refine lv_topi (fun yn18 eyn18 => ?_)
  obtain rfl : yn18 = (nI ((nb + 1) + 1)) := eyn18.trans (nI_add (nb + 1) 1)
  refine va_put (D := D) (ci := 10) (v := .int (nI ((nb + 1) + 1))) (ty := .int) (C := RX9) (T := TX9) (N := 9) hx hb hts inX9 tyX9 tyX9_ok nmX9 hown hK hP hD hS 0 rfl rfl 1 (by decide) (hts (.fieldLink RX9 59 "EscrowDesk" "buffered" "I") (by decide +kernel)) (fun _ h9 => h9) rfl (by decide +kernel) rfl rfl (Nat.le_of_ble_eq_true rfl) dX9_appendBytes_43 (fun H locs hP hD hS => ?_)
  obtain ⟨hP, hD⟩ : PDq D A [(oX9 h0 b0 (nI ((nb + 1) + 1)) p0 u0 r0 a0 t0 s0 o0), (b0, .inl (cA 2, 700, .inl fn15))] H := ⟨hP, hD⟩
  refine lv_iinc (v := 8) (lv' := [(2, .int 8), (0, .ref h0), (1, .int w)]) hx hb dX9_appendBytes_46 hl (k := 0) rfl (by first | rfl | decide +kernel) (by decide) rfl (fun ls hl => ?_)
  refine lv_goto (tgt := 3) hx hb dX9_appendBytes_49 (by decide) ?_
  refine lv_iload_n hx hb dX9_appendBytes_3 rfl (lv_at hl 0 rfl) ?_
  refine lv_if_lt (tgt := 52) hx hb dX9_appendBytes_4 (by decide) (fun c9 => absurd c9 (by decide)) (fun c19 => ?_)
  refine lv_aload_n hx hb dX9_appendBytes_7 rfl (lv_at hl 1 rfl) ?_
  refine va_get (D := D) (ci := 10) (v := .int (nI ((nb + 1) + 1))) (C := RX9) (T := TX9) (N := 9) hx hb hts inX9 hown hK hP 0 rfl rfl 1 (by decide) (hts (.fieldLink RX9 59 "EscrowDesk" "buffered" "I") (by decide +kernel)) (fun _ h9 => h9) rfl dX9_appendBytes_8 ?_
  refine lv_aload_n hx hb dX9_appendBytes_11 rfl (lv_at hl 1 rfl) ?_
  refine va_get (D := D) (ci := 10) (v := .ref b0) (C := RX9) (T := TX9) (N := 9) hx hb hts inX9 hown hK hP 0 rfl rfl 0 (by decide) (hts (.fieldLink RX9 9 "EscrowDesk" "buffer" "[C") (by decide +kernel)) (fun _ h9 => h9) rfl dX9_appendBytes_12 ?_
  refine va_alen (v := 700) hx hb hK hP 1 2 rfl rfl rfl dX9_appendBytes_15 ?_
  refine lv_icmp_ge (tgt := 46) hx hb dX9_appendBytes_16 (by decide) (fun c9 => absurd c9 (nI_ge (a := ((nb + 1) + 1)) (b := 700) (show ((nb + 1) + 1) < 700 by omega) (by omega))) (fun c20 => ?_)
  refine lv_aload_n hx hb dX9_appendBytes_19 rfl (lv_at hl 1 rfl) ?_
  refine va_get (D := D) (ci := 10) (v := .ref b0) (C := RX9) (T := TX9) (N := 9) hx hb hts inX9 hown hK hP 0 rfl rfl 0 (by decide) (hts (.fieldLink RX9 9 "EscrowDesk" "buffer" "[C") (by decide +kernel)) (fun _ h9 => h9) rfl dX9_appendBytes_20 ?_
  refine lv_aload_n hx hb dX9_appendBytes_23 rfl (lv_at hl 1 rfl) ?_
  refine va_get (D := D) (ci := 10) (v := .int (nI ((nb + 1) + 1))) (C := RX9) (T := TX9) (N := 9) hx hb hts inX9 hown hK hP 0 rfl rfl 1 (by decide) (hts (.fieldLink RX9 59 "EscrowDesk" "buffered" "I") (by decide +kernel)) (fun _ h9 => h9) rfl dX9_appendBytes_24 ?_
  refine lv_iload_n hx hb dX9_appendBytes_27 rfl (lv_at hl 2 rfl) ?_
  refine lv_iload_n hx hb dX9_appendBytes_28 rfl (lv_at hl 0 rfl) ?_
  refine lv_iushr hx hb dX9_appendBytes_29 rfl ?_
  refine lv_topi (fun yn21 eyn21 => ?_)
  refine lv_sipush (v := 255) hx hb dX9_appendBytes_30 (by decide) ?_
  refine lv_iand hx hb dX9_appendBytes_33 ?_
  refine lv_topi (fun yn22 eyn22 => ?_)
  refine lv_i2c hx hb dX9_appendBytes_34 rfl ?_
  refine lv_topi (fun yn23 eyn23 => ?_)
  refine va_cast hx hb hK hP hD hS 1 2 rfl rfl (vp_in_nI (n := ((nb + 1) + 1)) (N := 700) (show ((nb + 1) + 1) < 700 by omega) (by decide)) dX9_appendBytes_35 (fun H locs hP hD hS => ?_)
  obtain ⟨hP, hD⟩ : PDq D A [(oX9 h0 b0 (nI ((nb + 1) + 1)) p0 u0 r0 a0 t0 s0 o0), (b0, .inl (cA 2, 700, .inl (upd fn15 (((nI ((nb + 1) + 1))).toNatClampNeg) (vp_nar .char yn23))))] H := ⟨hP, hD⟩
  have hn25 : Upp ((nb + 1) + 1) (vp_nar .char yn23) fn15 (upd fn15 (((nI ((nb + 1) + 1))).toNatClampNeg) (vp_nar .char yn23)) := Upp.of (by omega)
  have hn26 : Rbb (upd fn15 (((nI ((nb + 1) + 1))).toNatClampNeg) (vp_nar .char yn23)) := rfl
  generalize (upd fn15 (((nI ((nb + 1) + 1))).toNatClampNeg) (vp_nar .char yn23)) = fn24 at hP hD hn25 hn26
  obtain ⟨hP, hD⟩ : PDq D A [(oX9 h0 b0 (nI ((nb + 1) + 1)) p0 u0 r0 a0 t0 s0 o0), (b0, .inl (cA 2, 700, .inl fn24))] H := ⟨hP, hD⟩
  refine lv_aload_n hx hb dX9_appendBytes_36 rfl (lv_at hl 1 rfl) ?_
  refine lv_dup hx hb dX9_appendBytes_37 rfl ?_
  refine va_get (D := D) (ci := 10) (v := .int (nI ((nb + 1) + 1))) (C := RX9) (T := TX9) (N := 9) hx hb hts inX9 hown hK hP 0 rfl rfl 1 (by decide) (hts (.fieldLink RX9 59 "EscrowDesk" "buffered" "I") (by decide +kernel)) (fun _ h9 => h9) rfl dX9_appendBytes_38 ?_
  refine lv_iconst (v := 1) hx hb dX9_appendBytes_41 (by decide) ?_
  refine lv_iadd hx hb dX9_appendBytes_42 ?_
  refine lv_topi (fun yn27 eyn27 => ?_)
  obtain rfl : yn27 = (nI (((nb + 1) + 1) + 1)) := eyn27.trans (nI_add ((nb + 1) + 1) 1)
  refine va_put (D := D) (ci := 10) (v := .int (nI (((nb + 1) + 1) + 1))) (ty := .int) (C := RX9) (T := TX9) (N := 9) hx hb hts inX9 tyX9 tyX9_ok nmX9 hown hK hP hD hS 0 rfl rfl 1 (by decide) (hts (.fieldLink RX9 59 "EscrowDesk" "buffered" "I") (by decide +kernel)) (fun _ h9 => h9) rfl (by decide +kernel) rfl rfl (Nat.le_of_ble_eq_true rfl) dX9_appendBytes_43 (fun H locs hP hD hS => ?_)
  obtain ⟨hP, hD⟩ : PDq D A [(oX9 h0 b0 (nI (((nb + 1) + 1) + 1)) p0 u0 r0 a0 t0 s0 o0), (b0, .inl (cA 2, 700, .inl fn24))] H := ⟨hP, hD⟩
  refine lv_iinc (v := 0) (lv' := [(2, .int 0), (0, .ref h0), (1, .int w)]) hx hb dX9_appendBytes_46 hl (k := 0) rfl (by first | rfl | decide +kernel) (by decide) rfl (fun ls hl => ?_)
  refine lv_goto (tgt := 3) hx hb dX9_appendBytes_49 (by decide) ?_
  refine lv_iload_n hx hb dX9_appendBytes_3 rfl (lv_at hl 0 rfl) ?_
  refine lv_if_lt (tgt := 52) hx hb dX9_appendBytes_4 (by decide) (fun c9 => absurd c9 (by decide)) (fun c28 => ?_)
  refine lv_aload_n hx hb dX9_appendBytes_7 rfl (lv_at hl 1 rfl) ?_
  refine va_get (D := D) (ci := 10) (v := .int (nI (((nb + 1) + 1) + 1))) (C := RX9) (T := TX9) (N := 9) hx hb hts inX9 hown hK hP 0 rfl rfl 1 (by decide) (hts (.fieldLink RX9 59 "EscrowDesk" "buffered" "I") (by decide +kernel)) (fun _ h9 => h9) rfl dX9_appendBytes_8 ?_
  refine lv_aload_n hx hb dX9_appendBytes_11 rfl (lv_at hl 1 rfl) ?_
  refine va_get (D := D) (ci := 10) (v := .ref b0) (C := RX9) (T := TX9) (N := 9) hx hb hts inX9 hown hK hP 0 rfl rfl 0 (by decide) (hts (.fieldLink RX9 9 "EscrowDesk" "buffer" "[C") (by decide +kernel)) (fun _ h9 => h9) rfl dX9_appendBytes_12 ?_
  refine va_alen (v := 700) hx hb hK hP 1 2 rfl rfl rfl dX9_appendBytes_15 ?_
  refine lv_icmp_ge (tgt := 46) hx hb dX9_appendBytes_16 (by decide) (fun c9 => absurd c9 (nI_ge (a := (((nb + 1) + 1) + 1)) (b := 700) (show (((nb + 1) + 1) + 1) < 700 by omega) (by omega))) (fun c29 => ?_)
  refine lv_aload_n hx hb dX9_appendBytes_19 rfl (lv_at hl 1 rfl) ?_
  refine va_get (D := D) (ci := 10) (v := .ref b0) (C := RX9) (T := TX9) (N := 9) hx hb hts inX9 hown hK hP 0 rfl rfl 0 (by decide) (hts (.fieldLink RX9 9 "EscrowDesk" "buffer" "[C") (by decide +kernel)) (fun _ h9 => h9) rfl dX9_appendBytes_20 ?_
  refine lv_aload_n hx hb dX9_appendBytes_23 rfl (lv_at hl 1 rfl) ?_
  refine va_get (D := D) (ci := 10) (v := .int (nI (((nb + 1) + 1) + 1))) (C := RX9) (T := TX9) (N := 9) hx hb hts inX9 hown hK hP 0 rfl rfl 1 (by decide) (hts (.fieldLink RX9 59 "EscrowDesk" "buffered" "I") (by decide +kernel)) (fun _ h9 => h9) rfl dX9_appendBytes_24 ?_
  refine lv_iload_n hx hb dX9_appendBytes_27 rfl (lv_at hl 2 rfl) ?_
  refine lv_iload_n hx hb dX9_appendBytes_28 rfl (lv_at hl 0 rfl) ?_
  refine lv_iushr hx hb dX9_appendBytes_29 rfl ?_
  refine lv_topi (fun yn30 eyn30 => ?_)
  refine lv_sipush (v := 255) hx hb dX9_appendBytes_30 (by decide) ?_
  refine lv_iand hx hb dX9_appendBytes_33 ?_
  refine lv_topi (fun yn31 eyn31 => ?_)
  refine lv_i2c hx hb dX9_appendBytes_34 rfl ?_
  refine lv_topi (fun yn32 eyn32 => ?_)
  refine va_cast hx hb hK hP hD hS 1 2 rfl rfl (vp_in_nI (n := (((nb + 1) + 1) + 1)) (N := 700) (show (((nb + 1) + 1) + 1) < 700 by omega) (by decide)) dX9_appendBytes_35 (fun H locs hP hD hS => ?_)
  obtain ⟨hP, hD⟩ : PDq D A [(oX9 h0 b0 (nI (((nb + 1) + 1) + 1)) p0 u0 r0 a0 t0 s0 o0), (b0, .inl (cA 2, 700, .inl (upd fn24 (((nI (((nb + 1) + 1) + 1))).toNatClampNeg) (vp_nar .char yn32))))] H := ⟨hP, hD⟩
  have hn34 : Upp (((nb + 1) + 1) + 1) (vp_nar .char yn32) fn24 (upd fn24 (((nI (((nb + 1) + 1) + 1))).toNatClampNeg) (vp_nar .char yn32)) := Upp.of (by omega)
  have hn35 : Rbb (upd fn24 (((nI (((nb + 1) + 1) + 1))).toNatClampNeg) (vp_nar .char yn32)) := rfl
  generalize (upd fn24 (((nI (((nb + 1) + 1) + 1))).toNatClampNeg) (vp_nar .char yn32)) = fn33 at hP hD hn34 hn35
  obtain ⟨hP, hD⟩ : PDq D A [(oX9 h0 b0 (nI (((nb + 1) + 1) + 1)) p0 u0 r0 a0 t0 s0 o0), (b0, .inl (cA 2, 700, .inl fn33))] H := ⟨hP, hD⟩
  refine lv_aload_n hx hb dX9_appendBytes_36 rfl (lv_at hl 1 rfl) ?_
  refine lv_dup hx hb dX9_appendBytes_37 rfl ?_
  refine va_get (D := D) (ci := 10) (v := .int (nI (((nb + 1) + 1) + 1))) (C := RX9) (T := TX9) (N := 9) hx hb hts inX9 hown hK hP 0 rfl rfl 1 (by decide) (hts (.fieldLink RX9 59 "EscrowDesk" "buffered" "I") (by decide +kernel)) (fun _ h9 => h9) rfl dX9_appendBytes_38 ?_
  refine lv_iconst (v := 1) hx hb dX9_appendBytes_41 (by decide) ?_
  refine lv_iadd hx hb dX9_appendBytes_42 ?_
  refine lv_topi (fun yn36 eyn36 => ?_)
  obtain rfl : yn36 = (nI ((((nb + 1) + 1) + 1) + 1)) := eyn36.trans (nI_add (((nb + 1) + 1) + 1) 1)
  refine va_put (D := D) (ci := 10) (v := .int (nI ((((nb + 1) + 1) + 1) + 1))) (ty := .int) (C := RX9) (T := TX9) (N := 9) hx hb hts inX9 tyX9 tyX9_ok nmX9 hown hK hP hD hS 0 rfl rfl 1 (by decide) (hts (.fieldLink RX9 59 "EscrowDesk" "buffered" "I") (by decide +kernel)) (fun _ h9 => h9) rfl (by decide +kernel) rfl rfl (Nat.le_of_ble_eq_true rfl) dX9_appendBytes_43 (fun H locs hP hD hS => ?_)
  obtain ⟨hP, hD⟩ : PDq D A [(oX9 h0 b0 (nI ((((nb + 1) + 1) + 1) + 1)) p0 u0 r0 a0 t0 s0 o0), (b0, .inl (cA 2, 700, .inl fn33))] H := ⟨hP, hD⟩
  refine lv_iinc (v := (-8)) (lv' := [(2, .int (-8)), (0, .ref h0), (1, .int w)]) hx hb dX9_appendBytes_46 hl (k := 0) rfl (by first | rfl | decide +kernel) (by decide) rfl (fun ls hl => ?_)
  refine lv_goto (tgt := 3) hx hb dX9_appendBytes_49 (by decide) ?_
  refine lv_iload_n hx hb dX9_appendBytes_3 rfl (lv_at hl 0 rfl) ?_
  refine lv_if_lt (tgt := 52) hx hb dX9_appendBytes_4 (by decide) (fun c37 => ?_) (fun c9 => absurd c9 (by decide))
  obtain ⟨hP9, hD9⟩ := PDq.sub (ws' := [(oX9 h0 b0 (nI ((((nb + 1) + 1) + 1) + 1)) p0 u0 r0 a0 t0 s0 o0), (b0, .inl (cA 2, 700, .inl fn33))]) hP hD [0, 1] (by decide) rfl
  refine W.widen (k := 0) (n := 0) (Nat.le_of_ble_eq_true rfl) (Nat.le_of_ble_eq_true rfl) ?_
  exact (W.vret hx hb hr (fun t ht hW => ⟨⟨(), rfl, trivial, ((((nb + 1) + 1) + 1) + 1), fn33, (by omega), (A4.of hn7 hn16 hn25 hn34 (bw_c eyn3 eyn4 eyn5) (bw_c eyn12 eyn13 eyn14) (bw_c eyn21 eyn22 eyn23) (bw_c eyn30 eyn31 eyn32)), by rw [ht]; exact hP9, hD9⟩, hS.F ht⟩) hS.2.2 dX9_appendBytes_52)

set_option maxHeartbeats 4000000 in
set_option maxRecDepth 100000 in
/-- reference: append -/
theorem y_append (l : Launch) (D : va_G) (cA : Nat → ClassId) (sa : Nat → Nat) (w0 : Nat) (ed : Nat) (nb : Nat) (ol : Nat) (v0 : Nat) (v1 : Nat) (v2 : Nat) (v3 : Nat) (v4 : Nat) (v9 : Nat) (v13 : Nat) (v27 : Nat) (v28 : Nat) (v29 : Nat) (v30 : Nat) (v31 : Nat) (v32 : Nat) (v33 : Nat) (v34 : Nat) (v35 : Nat) (v36 : Nat) (v37 : Nat) (g8 : Int32) (g11 : Int32) (g12 : Int32) (g14 : Int32) (g15 : Int32) (g16 : Int32) (g17 : Int32) (g18 : Int32) (g19 : Int32) (g20 : Int32) (g21 : Int32) (g22 : Int32) (g23 : Int32) (g24 : Int32) (g26 : Int32) (g5 : Int64) (g6 : Int64) (g25 : Int64) (w : Int32) (fb : Nat → Int32) (sz : Nat) (hnb : nb + 4 ≤ 700) : Met l yX10_append wsX10_append ({ frames := 0, cells := 0, slots := 0, locals := 0 }) (va_Pc [.ref w0, .int w] (Wd D cA sa [(oX10 w0 v0 v1 v2 v3 v4 g5 g6 (nI ed) g8 v9 (nI nb) g11 g12 v13 g14 g15 g16 g17 g18 g19 g20 g21 g22 g23 g24 g25 g26 v27 v28 v29 v30 v31 v32 v33 v34 v35 v36 v37 (nI ol)), (v9, .inl (cA 0, 700, .inl fb))] sz)) (va_Qv (fun _ : Unit => True) (fun (_ : Unit) t => ∃ nb2 : Nat, ∃ zb : Nat → Int32, nb2 = nb + 4 ∧ A4 nb w fb zb ∧ Wq D (va_A [(oX10 w0 v0 v1 v2 v3 v4 g5 g6 (nI ed) g8 v9 (nI nb) g11 g12 v13 g14 g15 g16 g17 g18 g19 g20 g21 g22 g23 g24 g25 g26 v27 v28 v29 v30 v31 v32 v33 v34 v35 v36 v37 (nI ol)), (v9, .inl (cA 0, 700, .inl fb))] sz) [(oX10 w0 v0 v1 v2 v3 v4 g5 g6 (nI ed) g8 v9 (nI nb2) g11 g12 v13 g14 g15 g16 g17 g18 g19 g20 g21 g22 g23 g24 g25 g26 v27 v28 v29 v30 v31 v32 v33 v34 v35 v36 v37 (nI ol)), (v9, .inl (cA 0, 700, .inl zb))] t) (va_A [(oX10 w0 v0 v1 v2 v3 v4 g5 g6 (nI ed) g8 v9 (nI nb) g11 g12 v13 g14 g15 g16 g17 g18 g19 g20 g21 g22 g23 g24 g25 g26 v27 v28 v29 v30 v31 v32 v33 v34 v35 v36 v37 (nI ol)), (v9, .inl (cA 0, 700, .inl fb))] sz)) 0 0 (va_A [(oX10 w0 v0 v1 v2 v3 v4 g5 g6 (nI ed) g8 v9 (nI nb) g11 g12 v13 g14 g15 g16 g17 g18 g19 g20 g21 g22 g23 g24 g25 g26 v27 v28 v29 v30 v31 v32 v33 v34 v35 v36 v37 (nI ol)), (v9, .inl (cA 0, 700, .inl fb))] sz) := by
  refine Met.ofW (cc := cX10_append) (maxL := 3) (ret := none) (by decide) rfl ?_
  intro p e s m args below meth c s₁ B hml hv
  obtain ⟨rfl, hsz, hP, hK, hD0, hC, hZ⟩ := hv
  have hx := B.exec
  have hb := B.bytes
  have hr := B.returns
  have hts := atoms_spec (ws := wsX10_append) B.pre
  have hown : s.vm.findClass RX10 = some m.cls := findClass_of_methodNamed B.named
  have hlocks := B.notSynchronized
  subst hsz
  have hD := hD0.self (sz := s.heap.size)
  generalize hAe : va_A [(oX10 w0 v0 v1 v2 v3 v4 g5 g6 (nI ed) g8 v9 (nI nb) g11 g12 v13 g14 g15 g16 g17 g18 g19 g20 g21 g22 g23 g24 g25 g26 v27 v28 v29 v30 v31 v32 v33 v34 v35 v36 v37 (nI ol)), (v9, .inl (cA 0, 700, .inl fb))] s.heap.size = A at hD hZ ⊢
  have hA : ∀ q : Nat, s.heap.size ≤ q → A q := fun q h => by rw [← hAe]; exact Or.inr h
  have hS : va_S A s.heap s.heap [] := va_S.rf
  have hP : va_P D vwCl [(oX10 w0 v0 v1 v2 v3 v4 g5 g6 (nI ed) g8 v9 (nI nb) g11 g12 v13 g14 g15 g16 g17 g18 g19 g20 g21 g22 g23 g24 g25 g26 v27 v28 v29 v30 v31 v32 v33 v34 v35 v36 v37 (nI ol)), (v9, .inl (cA 0, 700, .inl fb))] s.heap := hP
  have hl := lv_entry ([.ref w0, .int w]) (n := 3) (Nat.le_of_ble_eq_true rfl)
  rw [lg_entry_eq]
  generalize (lg_sl ([.ref w0, .int w]) ++ List.replicate (3 - (lg_sl ([.ref w0, .int w])).length) Slot.unset).toArray = ls at hl ⊢
  have hl : lv_has ls 3 [(0, .ref w0), (1, .int w)] := hl
  have inX10 : ∀ w ∈ u_ws RX10 TX10 39, w ∈ wsX10_append := by decide +kernel
  refine lv_bipush (v := 24) hx hb dX10_append_0 (by decide) ?_
  refine lv_istore_n (lv' := [(2, .int 24), (0, .ref w0), (1, .int w)]) hx hb dX10_append_2 rfl hl (by decide) rfl (fun ls hl => ?_)
  refine lv_iload_n hx hb dX10_append_3 rfl (lv_at hl 0 rfl) ?_
  refine lv_if_lt (tgt := 39) hx hb dX10_append_4 (by decide) (fun c9 => absurd c9 (by decide)) (fun c1 => ?_)
  refine lv_aload_n hx hb dX10_append_7 rfl (lv_at hl 1 rfl) ?_
  refine va_get (D := D) (ci := 11) (v := .ref v9) (C := RX10) (T := TX10) (N := 39) hx hb hts inX10 hown hK hP 0 rfl rfl 9 (by decide) (hts (.fieldLink RX10 26 "EscrowDeskModel" "buffer" "[I") (by decide +kernel)) (fun _ h9 => h9) rfl dX10_append_8 ?_
  refine lv_aload_n hx hb dX10_append_11 rfl (lv_at hl 1 rfl) ?_
  refine va_get (D := D) (ci := 11) (v := .int (nI nb)) (C := RX10) (T := TX10) (N := 39) hx hb hts inX10 hown hK hP 0 rfl rfl 10 (by decide) (hts (.fieldLink RX10 90 "EscrowDeskModel" "buffered" "I") (by decide +kernel)) (fun _ h9 => h9) rfl dX10_append_12 ?_
  refine lv_iload_n hx hb dX10_append_15 rfl (lv_at hl 2 rfl) ?_
  refine lv_iload_n hx hb dX10_append_16 rfl (lv_at hl 0 rfl) ?_
  refine lv_iushr hx hb dX10_append_17 rfl ?_
  refine lv_topi (fun yn2 eyn2 => ?_)
  refine lv_sipush (v := 255) hx hb dX10_append_18 (by decide) ?_
  refine lv_iand hx hb dX10_append_21 ?_
  refine lv_topi (fun yn3 eyn3 => ?_)
  refine va_iast hx hb hK hP hD hS 1 0 rfl rfl (vp_in_nI (n := nb) (N := 700) (show nb < 700 by omega) (by decide)) dX10_append_22 (fun H locs hP hD hS => ?_)
  obtain ⟨hP, hD⟩ : PDq D A [(oX10 w0 v0 v1 v2 v3 v4 g5 g6 (nI ed) g8 v9 (nI nb) g11 g12 v13 g14 g15 g16 g17 g18 g19 g20 g21 g22 g23 g24 g25 g26 v27 v28 v29 v30 v31 v32 v33 v34 v35 v36 v37 (nI ol)), (v9, .inl (cA 0, 700, .inl (upd fb (((nI nb)).toNatClampNeg) yn3)))] H := ⟨hP, hD⟩
  have hn5 : Upp nb yn3 fb (upd fb (((nI nb)).toNatClampNeg) yn3) := Upp.of (by omega)
  have hn6 : Rbb (upd fb (((nI nb)).toNatClampNeg) yn3) := rfl
  generalize (upd fb (((nI nb)).toNatClampNeg) yn3) = fn4 at hP hD hn5 hn6
  obtain ⟨hP, hD⟩ : PDq D A [(oX10 w0 v0 v1 v2 v3 v4 g5 g6 (nI ed) g8 v9 (nI nb) g11 g12 v13 g14 g15 g16 g17 g18 g19 g20 g21 g22 g23 g24 g25 g26 v27 v28 v29 v30 v31 v32 v33 v34 v35 v36 v37 (nI ol)), (v9, .inl (cA 0, 700, .inl fn4))] H := ⟨hP, hD⟩
  refine lv_aload_n hx hb dX10_append_23 rfl (lv_at hl 1 rfl) ?_
  refine lv_dup hx hb dX10_append_24 rfl ?_
  refine va_get (D := D) (ci := 11) (v := .int (nI nb)) (C := RX10) (T := TX10) (N := 39) hx hb hts inX10 hown hK hP 0 rfl rfl 10 (by decide) (hts (.fieldLink RX10 90 "EscrowDeskModel" "buffered" "I") (by decide +kernel)) (fun _ h9 => h9) rfl dX10_append_25 ?_
  refine lv_iconst (v := 1) hx hb dX10_append_28 (by decide) ?_
  refine lv_iadd hx hb dX10_append_29 ?_
  refine lv_topi (fun yn7 eyn7 => ?_)
  obtain rfl : yn7 = (nI (nb + 1)) := eyn7.trans (nI_add nb 1)
  refine va_put (D := D) (ci := 11) (v := .int (nI (nb + 1))) (ty := .int) (C := RX10) (T := TX10) (N := 39) hx hb hts inX10 tyX10 tyX10_ok nmX10 hown hK hP hD hS 0 rfl rfl 10 (by decide) (hts (.fieldLink RX10 90 "EscrowDeskModel" "buffered" "I") (by decide +kernel)) (fun _ h9 => h9) rfl (by decide +kernel) rfl rfl (Nat.le_of_ble_eq_true rfl) dX10_append_30 (fun H locs hP hD hS => ?_)
  obtain ⟨hP, hD⟩ : PDq D A [(oX10 w0 v0 v1 v2 v3 v4 g5 g6 (nI ed) g8 v9 (nI (nb + 1)) g11 g12 v13 g14 g15 g16 g17 g18 g19 g20 g21 g22 g23 g24 g25 g26 v27 v28 v29 v30 v31 v32 v33 v34 v35 v36 v37 (nI ol)), (v9, .inl (cA 0, 700, .inl fn4))] H := ⟨hP, hD⟩
  refine lv_iinc (v := 16) (lv' := [(2, .int 16), (0, .ref w0), (1, .int w)]) hx hb dX10_append_33 hl (k := 0) rfl (by first | rfl | decide +kernel) (by decide) rfl (fun ls hl => ?_)
  refine lv_goto (tgt := 3) hx hb dX10_append_36 (by decide) ?_
  refine lv_iload_n hx hb dX10_append_3 rfl (lv_at hl 0 rfl) ?_
  refine lv_if_lt (tgt := 39) hx hb dX10_append_4 (by decide) (fun c9 => absurd c9 (by decide)) (fun c8 => ?_)
  refine lv_aload_n hx hb dX10_append_7 rfl (lv_at hl 1 rfl) ?_
  refine va_get (D := D) (ci := 11) (v := .ref v9) (C := RX10) (T := TX10) (N := 39) hx hb hts inX10 hown hK hP 0 rfl rfl 9 (by decide) (hts (.fieldLink RX10 26 "EscrowDeskModel" "buffer" "[I") (by decide +kernel)) (fun _ h9 => h9) rfl dX10_append_8 ?_
  refine lv_aload_n hx hb dX10_append_11 rfl (lv_at hl 1 rfl) ?_
  refine va_get (D := D) (ci := 11) (v := .int (nI (nb + 1))) (C := RX10) (T := TX10) (N := 39) hx hb hts inX10 hown hK hP 0 rfl rfl 10 (by decide) (hts (.fieldLink RX10 90 "EscrowDeskModel" "buffered" "I") (by decide +kernel)) (fun _ h9 => h9) rfl dX10_append_12 ?_
  refine lv_iload_n hx hb dX10_append_15 rfl (lv_at hl 2 rfl) ?_
  refine lv_iload_n hx hb dX10_append_16 rfl (lv_at hl 0 rfl) ?_
  refine lv_iushr hx hb dX10_append_17 rfl ?_
  refine lv_topi (fun yn9 eyn9 => ?_)
  refine lv_sipush (v := 255) hx hb dX10_append_18 (by decide) ?_
  refine lv_iand hx hb dX10_append_21 ?_
  refine lv_topi (fun yn10 eyn10 => ?_)
  refine va_iast hx hb hK hP hD hS 1 0 rfl rfl (vp_in_nI (n := (nb + 1)) (N := 700) (show (nb + 1) < 700 by omega) (by decide)) dX10_append_22 (fun H locs hP hD hS => ?_)
  obtain ⟨hP, hD⟩ : PDq D A [(oX10 w0 v0 v1 v2 v3 v4 g5 g6 (nI ed) g8 v9 (nI (nb + 1)) g11 g12 v13 g14 g15 g16 g17 g18 g19 g20 g21 g22 g23 g24 g25 g26 v27 v28 v29 v30 v31 v32 v33 v34 v35 v36 v37 (nI ol)), (v9, .inl (cA 0, 700, .inl (upd fn4 (((nI (nb + 1))).toNatClampNeg) yn10)))] H := ⟨hP, hD⟩
  have hn12 : Upp (nb + 1) yn10 fn4 (upd fn4 (((nI (nb + 1))).toNatClampNeg) yn10) := Upp.of (by omega)
  have hn13 : Rbb (upd fn4 (((nI (nb + 1))).toNatClampNeg) yn10) := rfl
  generalize (upd fn4 (((nI (nb + 1))).toNatClampNeg) yn10) = fn11 at hP hD hn12 hn13
  obtain ⟨hP, hD⟩ : PDq D A [(oX10 w0 v0 v1 v2 v3 v4 g5 g6 (nI ed) g8 v9 (nI (nb + 1)) g11 g12 v13 g14 g15 g16 g17 g18 g19 g20 g21 g22 g23 g24 g25 g26 v27 v28 v29 v30 v31 v32 v33 v34 v35 v36 v37 (nI ol)), (v9, .inl (cA 0, 700, .inl fn11))] H := ⟨hP, hD⟩
  refine lv_aload_n hx hb dX10_append_23 rfl (lv_at hl 1 rfl) ?_
  refine lv_dup hx hb dX10_append_24 rfl ?_
  refine va_get (D := D) (ci := 11) (v := .int (nI (nb + 1))) (C := RX10) (T := TX10) (N := 39) hx hb hts inX10 hown hK hP 0 rfl rfl 10 (by decide) (hts (.fieldLink RX10 90 "EscrowDeskModel" "buffered" "I") (by decide +kernel)) (fun _ h9 => h9) rfl dX10_append_25 ?_
  refine lv_iconst (v := 1) hx hb dX10_append_28 (by decide) ?_
  refine lv_iadd hx hb dX10_append_29 ?_
  refine lv_topi (fun yn14 eyn14 => ?_)
  obtain rfl : yn14 = (nI ((nb + 1) + 1)) := eyn14.trans (nI_add (nb + 1) 1)
  refine va_put (D := D) (ci := 11) (v := .int (nI ((nb + 1) + 1))) (ty := .int) (C := RX10) (T := TX10) (N := 39) hx hb hts inX10 tyX10 tyX10_ok nmX10 hown hK hP hD hS 0 rfl rfl 10 (by decide) (hts (.fieldLink RX10 90 "EscrowDeskModel" "buffered" "I") (by decide +kernel)) (fun _ h9 => h9) rfl (by decide +kernel) rfl rfl (Nat.le_of_ble_eq_true rfl) dX10_append_30 (fun H locs hP hD hS => ?_)
  obtain ⟨hP, hD⟩ : PDq D A [(oX10 w0 v0 v1 v2 v3 v4 g5 g6 (nI ed) g8 v9 (nI ((nb + 1) + 1)) g11 g12 v13 g14 g15 g16 g17 g18 g19 g20 g21 g22 g23 g24 g25 g26 v27 v28 v29 v30 v31 v32 v33 v34 v35 v36 v37 (nI ol)), (v9, .inl (cA 0, 700, .inl fn11))] H := ⟨hP, hD⟩
  refine lv_iinc (v := 8) (lv' := [(2, .int 8), (0, .ref w0), (1, .int w)]) hx hb dX10_append_33 hl (k := 0) rfl (by first | rfl | decide +kernel) (by decide) rfl (fun ls hl => ?_)
  refine lv_goto (tgt := 3) hx hb dX10_append_36 (by decide) ?_
  refine lv_iload_n hx hb dX10_append_3 rfl (lv_at hl 0 rfl) ?_
  refine lv_if_lt (tgt := 39) hx hb dX10_append_4 (by decide) (fun c9 => absurd c9 (by decide)) (fun c15 => ?_)
  refine lv_aload_n hx hb dX10_append_7 rfl (lv_at hl 1 rfl) ?_
  refine va_get (D := D) (ci := 11) (v := .ref v9) (C := RX10) (T := TX10) (N := 39) hx hb hts inX10 hown hK hP 0 rfl rfl 9 (by decide) (hts (.fieldLink RX10 26 "EscrowDeskModel" "buffer" "[I") (by decide +kernel)) (fun _ h9 => h9) rfl dX10_append_8 ?_
  refine lv_aload_n hx hb dX10_append_11 rfl (lv_at hl 1 rfl) ?_
  refine va_get (D := D) (ci := 11) (v := .int (nI ((nb + 1) + 1))) (C := RX10) (T := TX10) (N := 39) hx hb hts inX10 hown hK hP 0 rfl rfl 10 (by decide) (hts (.fieldLink RX10 90 "EscrowDeskModel" "buffered" "I") (by decide +kernel)) (fun _ h9 => h9) rfl dX10_append_12 ?_
  refine lv_iload_n hx hb dX10_append_15 rfl (lv_at hl 2 rfl) ?_
  refine lv_iload_n hx hb dX10_append_16 rfl (lv_at hl 0 rfl) ?_
  refine lv_iushr hx hb dX10_append_17 rfl ?_
  refine lv_topi (fun yn16 eyn16 => ?_)
  refine lv_sipush (v := 255) hx hb dX10_append_18 (by decide) ?_
  refine lv_iand hx hb dX10_append_21 ?_
  refine lv_topi (fun yn17 eyn17 => ?_)
  refine va_iast hx hb hK hP hD hS 1 0 rfl rfl (vp_in_nI (n := ((nb + 1) + 1)) (N := 700) (show ((nb + 1) + 1) < 700 by omega) (by decide)) dX10_append_22 (fun H locs hP hD hS => ?_)
  obtain ⟨hP, hD⟩ : PDq D A [(oX10 w0 v0 v1 v2 v3 v4 g5 g6 (nI ed) g8 v9 (nI ((nb + 1) + 1)) g11 g12 v13 g14 g15 g16 g17 g18 g19 g20 g21 g22 g23 g24 g25 g26 v27 v28 v29 v30 v31 v32 v33 v34 v35 v36 v37 (nI ol)), (v9, .inl (cA 0, 700, .inl (upd fn11 (((nI ((nb + 1) + 1))).toNatClampNeg) yn17)))] H := ⟨hP, hD⟩
  have hn19 : Upp ((nb + 1) + 1) yn17 fn11 (upd fn11 (((nI ((nb + 1) + 1))).toNatClampNeg) yn17) := Upp.of (by omega)
  have hn20 : Rbb (upd fn11 (((nI ((nb + 1) + 1))).toNatClampNeg) yn17) := rfl
  generalize (upd fn11 (((nI ((nb + 1) + 1))).toNatClampNeg) yn17) = fn18 at hP hD hn19 hn20
  obtain ⟨hP, hD⟩ : PDq D A [(oX10 w0 v0 v1 v2 v3 v4 g5 g6 (nI ed) g8 v9 (nI ((nb + 1) + 1)) g11 g12 v13 g14 g15 g16 g17 g18 g19 g20 g21 g22 g23 g24 g25 g26 v27 v28 v29 v30 v31 v32 v33 v34 v35 v36 v37 (nI ol)), (v9, .inl (cA 0, 700, .inl fn18))] H := ⟨hP, hD⟩
  refine lv_aload_n hx hb dX10_append_23 rfl (lv_at hl 1 rfl) ?_
  refine lv_dup hx hb dX10_append_24 rfl ?_
  refine va_get (D := D) (ci := 11) (v := .int (nI ((nb + 1) + 1))) (C := RX10) (T := TX10) (N := 39) hx hb hts inX10 hown hK hP 0 rfl rfl 10 (by decide) (hts (.fieldLink RX10 90 "EscrowDeskModel" "buffered" "I") (by decide +kernel)) (fun _ h9 => h9) rfl dX10_append_25 ?_
  refine lv_iconst (v := 1) hx hb dX10_append_28 (by decide) ?_
  refine lv_iadd hx hb dX10_append_29 ?_
  refine lv_topi (fun yn21 eyn21 => ?_)
  obtain rfl : yn21 = (nI (((nb + 1) + 1) + 1)) := eyn21.trans (nI_add ((nb + 1) + 1) 1)
  refine va_put (D := D) (ci := 11) (v := .int (nI (((nb + 1) + 1) + 1))) (ty := .int) (C := RX10) (T := TX10) (N := 39) hx hb hts inX10 tyX10 tyX10_ok nmX10 hown hK hP hD hS 0 rfl rfl 10 (by decide) (hts (.fieldLink RX10 90 "EscrowDeskModel" "buffered" "I") (by decide +kernel)) (fun _ h9 => h9) rfl (by decide +kernel) rfl rfl (Nat.le_of_ble_eq_true rfl) dX10_append_30 (fun H locs hP hD hS => ?_)
  obtain ⟨hP, hD⟩ : PDq D A [(oX10 w0 v0 v1 v2 v3 v4 g5 g6 (nI ed) g8 v9 (nI (((nb + 1) + 1) + 1)) g11 g12 v13 g14 g15 g16 g17 g18 g19 g20 g21 g22 g23 g24 g25 g26 v27 v28 v29 v30 v31 v32 v33 v34 v35 v36 v37 (nI ol)), (v9, .inl (cA 0, 700, .inl fn18))] H := ⟨hP, hD⟩
  refine lv_iinc (v := 0) (lv' := [(2, .int 0), (0, .ref w0), (1, .int w)]) hx hb dX10_append_33 hl (k := 0) rfl (by first | rfl | decide +kernel) (by decide) rfl (fun ls hl => ?_)
  refine lv_goto (tgt := 3) hx hb dX10_append_36 (by decide) ?_
  refine lv_iload_n hx hb dX10_append_3 rfl (lv_at hl 0 rfl) ?_
  refine lv_if_lt (tgt := 39) hx hb dX10_append_4 (by decide) (fun c9 => absurd c9 (by decide)) (fun c22 => ?_)
  refine lv_aload_n hx hb dX10_append_7 rfl (lv_at hl 1 rfl) ?_
  refine va_get (D := D) (ci := 11) (v := .ref v9) (C := RX10) (T := TX10) (N := 39) hx hb hts inX10 hown hK hP 0 rfl rfl 9 (by decide) (hts (.fieldLink RX10 26 "EscrowDeskModel" "buffer" "[I") (by decide +kernel)) (fun _ h9 => h9) rfl dX10_append_8 ?_
  refine lv_aload_n hx hb dX10_append_11 rfl (lv_at hl 1 rfl) ?_
  refine va_get (D := D) (ci := 11) (v := .int (nI (((nb + 1) + 1) + 1))) (C := RX10) (T := TX10) (N := 39) hx hb hts inX10 hown hK hP 0 rfl rfl 10 (by decide) (hts (.fieldLink RX10 90 "EscrowDeskModel" "buffered" "I") (by decide +kernel)) (fun _ h9 => h9) rfl dX10_append_12 ?_
  refine lv_iload_n hx hb dX10_append_15 rfl (lv_at hl 2 rfl) ?_
  refine lv_iload_n hx hb dX10_append_16 rfl (lv_at hl 0 rfl) ?_
  refine lv_iushr hx hb dX10_append_17 rfl ?_
  refine lv_topi (fun yn23 eyn23 => ?_)
  refine lv_sipush (v := 255) hx hb dX10_append_18 (by decide) ?_
  refine lv_iand hx hb dX10_append_21 ?_
  refine lv_topi (fun yn24 eyn24 => ?_)
  refine va_iast hx hb hK hP hD hS 1 0 rfl rfl (vp_in_nI (n := (((nb + 1) + 1) + 1)) (N := 700) (show (((nb + 1) + 1) + 1) < 700 by omega) (by decide)) dX10_append_22 (fun H locs hP hD hS => ?_)
  obtain ⟨hP, hD⟩ : PDq D A [(oX10 w0 v0 v1 v2 v3 v4 g5 g6 (nI ed) g8 v9 (nI (((nb + 1) + 1) + 1)) g11 g12 v13 g14 g15 g16 g17 g18 g19 g20 g21 g22 g23 g24 g25 g26 v27 v28 v29 v30 v31 v32 v33 v34 v35 v36 v37 (nI ol)), (v9, .inl (cA 0, 700, .inl (upd fn18 (((nI (((nb + 1) + 1) + 1))).toNatClampNeg) yn24)))] H := ⟨hP, hD⟩
  have hn26 : Upp (((nb + 1) + 1) + 1) yn24 fn18 (upd fn18 (((nI (((nb + 1) + 1) + 1))).toNatClampNeg) yn24) := Upp.of (by omega)
  have hn27 : Rbb (upd fn18 (((nI (((nb + 1) + 1) + 1))).toNatClampNeg) yn24) := rfl
  generalize (upd fn18 (((nI (((nb + 1) + 1) + 1))).toNatClampNeg) yn24) = fn25 at hP hD hn26 hn27
  obtain ⟨hP, hD⟩ : PDq D A [(oX10 w0 v0 v1 v2 v3 v4 g5 g6 (nI ed) g8 v9 (nI (((nb + 1) + 1) + 1)) g11 g12 v13 g14 g15 g16 g17 g18 g19 g20 g21 g22 g23 g24 g25 g26 v27 v28 v29 v30 v31 v32 v33 v34 v35 v36 v37 (nI ol)), (v9, .inl (cA 0, 700, .inl fn25))] H := ⟨hP, hD⟩
  refine lv_aload_n hx hb dX10_append_23 rfl (lv_at hl 1 rfl) ?_
  refine lv_dup hx hb dX10_append_24 rfl ?_
  refine va_get (D := D) (ci := 11) (v := .int (nI (((nb + 1) + 1) + 1))) (C := RX10) (T := TX10) (N := 39) hx hb hts inX10 hown hK hP 0 rfl rfl 10 (by decide) (hts (.fieldLink RX10 90 "EscrowDeskModel" "buffered" "I") (by decide +kernel)) (fun _ h9 => h9) rfl dX10_append_25 ?_
  refine lv_iconst (v := 1) hx hb dX10_append_28 (by decide) ?_
  refine lv_iadd hx hb dX10_append_29 ?_
  refine lv_topi (fun yn28 eyn28 => ?_)
  obtain rfl : yn28 = (nI ((((nb + 1) + 1) + 1) + 1)) := eyn28.trans (nI_add (((nb + 1) + 1) + 1) 1)
  refine va_put (D := D) (ci := 11) (v := .int (nI ((((nb + 1) + 1) + 1) + 1))) (ty := .int) (C := RX10) (T := TX10) (N := 39) hx hb hts inX10 tyX10 tyX10_ok nmX10 hown hK hP hD hS 0 rfl rfl 10 (by decide) (hts (.fieldLink RX10 90 "EscrowDeskModel" "buffered" "I") (by decide +kernel)) (fun _ h9 => h9) rfl (by decide +kernel) rfl rfl (Nat.le_of_ble_eq_true rfl) dX10_append_30 (fun H locs hP hD hS => ?_)
  obtain ⟨hP, hD⟩ : PDq D A [(oX10 w0 v0 v1 v2 v3 v4 g5 g6 (nI ed) g8 v9 (nI ((((nb + 1) + 1) + 1) + 1)) g11 g12 v13 g14 g15 g16 g17 g18 g19 g20 g21 g22 g23 g24 g25 g26 v27 v28 v29 v30 v31 v32 v33 v34 v35 v36 v37 (nI ol)), (v9, .inl (cA 0, 700, .inl fn25))] H := ⟨hP, hD⟩
  refine lv_iinc (v := (-8)) (lv' := [(2, .int (-8)), (0, .ref w0), (1, .int w)]) hx hb dX10_append_33 hl (k := 0) rfl (by first | rfl | decide +kernel) (by decide) rfl (fun ls hl => ?_)
  refine lv_goto (tgt := 3) hx hb dX10_append_36 (by decide) ?_
  refine lv_iload_n hx hb dX10_append_3 rfl (lv_at hl 0 rfl) ?_
  refine lv_if_lt (tgt := 39) hx hb dX10_append_4 (by decide) (fun c29 => ?_) (fun c9 => absurd c9 (by decide))
  obtain ⟨hP9, hD9⟩ := PDq.sub (ws' := [(oX10 w0 v0 v1 v2 v3 v4 g5 g6 (nI ed) g8 v9 (nI ((((nb + 1) + 1) + 1) + 1)) g11 g12 v13 g14 g15 g16 g17 g18 g19 g20 g21 g22 g23 g24 g25 g26 v27 v28 v29 v30 v31 v32 v33 v34 v35 v36 v37 (nI ol)), (v9, .inl (cA 0, 700, .inl fn25))]) hP hD [0, 1] (by decide) rfl
  refine W.widen (k := 0) (n := 0) (Nat.le_of_ble_eq_true rfl) (Nat.le_of_ble_eq_true rfl) ?_
  exact (W.vret hx hb hr (fun t ht hW => ⟨⟨(), rfl, trivial, ((((nb + 1) + 1) + 1) + 1), fn25, (by omega), (A4.of hn5 hn12 hn19 hn26 (bw_i eyn2 eyn3) (bw_i eyn9 eyn10) (bw_i eyn16 eyn17) (bw_i eyn23 eyn24)), by rw [ht]; exact hP9, hD9⟩, hS.F ht⟩) hS.2.2 dX10_append_39)

set_option maxHeartbeats 4000000 in
set_option maxRecDepth 100000 in
/-- feed -/
theorem x_feed (l : Launch) (D : va_G) (cA : Nat → ClassId) (sa : Nat → Nat) (h0 : Nat) (b0 : Nat) (nb : Nat) (p0 : Nat) (u0 : Nat) (r0 : Nat) (a0 : Nat) (t0 : Nat) (s0 : Nat) (o0 : Nat) (w1 : Int32) (w2 : Int32) (w3 : Int32) (w4 : Int32) (w5 : Int32) (fb : Nat → Int32) (sz : Nat) (hnb : nb + 20 ≤ 700) : Met l yX9_feed wsX9_feed ({ frames := 1, cells := 0, slots := 0, locals := 22 }) (va_Pc [.ref h0, .int w1, .int w2, .int w3, .int w4, .int w5] (Wd D cA sa [(oX9 h0 b0 (nI nb) p0 u0 r0 a0 t0 s0 o0), (b0, .inl (cA 2, 700, .inl fb))] sz)) (va_Qi (fun (r : Int32) (_ : Unit) => r = nI (nb + 20)) (fun (_ : Unit) t => ∃ nb2 : Nat, ∃ zb : Nat → Int32, nb2 = nb + 20 ∧ A20 nb w1 w2 w3 w4 w5 fb zb ∧ Wq D (va_A [(oX9 h0 b0 (nI nb) p0 u0 r0 a0 t0 s0 o0), (b0, .inl (cA 2, 700, .inl fb))] sz) [(oX9 h0 b0 (nI nb2) p0 u0 r0 a0 t0 s0 o0), (b0, .inl (cA 2, 700, .inl zb))] t) (va_A [(oX9 h0 b0 (nI nb) p0 u0 r0 a0 t0 s0 o0), (b0, .inl (cA 2, 700, .inl fb))] sz)) 0 0 (va_A [(oX9 h0 b0 (nI nb) p0 u0 r0 a0 t0 s0 o0), (b0, .inl (cA 2, 700, .inl fb))] sz) := by
  refine Met.ofW (cc := cX9_feed) (maxL := 6) (ret := (some .int)) (by decide) rfl ?_
  intro p e s m args below meth c s₁ B hml hv
  obtain ⟨rfl, hsz, hP, hK, hD0, hC, hZ⟩ := hv
  have hx := B.exec
  have hb := B.bytes
  have hr := B.returns
  have hts := atoms_spec (ws := wsX9_feed) B.pre
  have hown : s.vm.findClass RX9 = some m.cls := findClass_of_methodNamed B.named
  have hlocks := B.notSynchronized
  subst hsz
  have hD := hD0.self (sz := s.heap.size)
  generalize hAe : va_A [(oX9 h0 b0 (nI nb) p0 u0 r0 a0 t0 s0 o0), (b0, .inl (cA 2, 700, .inl fb))] s.heap.size = A at hD hZ ⊢
  have hA : ∀ q : Nat, s.heap.size ≤ q → A q := fun q h => by rw [← hAe]; exact Or.inr h
  have hS : va_S A s.heap s.heap [] := va_S.rf
  have hP : va_P D vwCl [(oX9 h0 b0 (nI nb) p0 u0 r0 a0 t0 s0 o0), (b0, .inl (cA 2, 700, .inl fb))] s.heap := hP
  have hl := lv_entry ([.ref h0, .int w1, .int w2, .int w3, .int w4, .int w5]) (n := 6) (Nat.le_of_ble_eq_true rfl)
  rw [lg_entry_eq]
  generalize (lg_sl ([.ref h0, .int w1, .int w2, .int w3, .int w4, .int w5]) ++ List.replicate (6 - (lg_sl ([.ref h0, .int w1, .int w2, .int w3, .int w4, .int w5])).length) Slot.unset).toArray = ls at hl ⊢
  have hl : lv_has ls 6 [(0, .ref h0), (1, .int w1), (2, .int w2), (3, .int w3), (4, .int w4), (5, .int w5)] := hl
  have inX9 : ∀ w ∈ u_ws RX9 TX9 9, w ∈ wsX9_feed := by decide +kernel
  refine lv_aload_n hx hb dX9_feed_0 rfl (lv_at hl 0 rfl) ?_
  refine va_get (D := D) (ci := 10) (v := .int (nI nb)) (C := RX9) (T := TX9) (N := 9) hx hb hts inX9 hown hK hP 0 rfl rfl 1 (by decide) (hts (.fieldLink RX9 59 "EscrowDesk" "buffered" "I") (by decide +kernel)) (fun _ h9 => h9) rfl dX9_feed_1 ?_
  refine lv_bipush (v := 20) hx hb dX9_feed_4 (by decide) ?_
  refine lv_iadd hx hb dX9_feed_6 ?_
  refine lv_topi (fun yn1 eyn1 => ?_)
  obtain rfl : yn1 = (nI (nb + 20)) := eyn1.trans (nI_add nb 20)
  refine lv_sipush (v := 700) hx hb dX9_feed_7 (by decide) ?_
  refine lv_icmp_le (tgt := 16) hx hb dX9_feed_10 (by decide) (fun c2 => ?_) (fun c9 => absurd (nI_le (a := (nb + 20)) (b := 700) (show (nb + 20) ≤ 700 by omega) (by omega)) c9)
  refine lv_aload_n hx hb dX9_feed_16 rfl (lv_at hl 0 rfl) ?_
  refine lv_iload_n hx hb dX9_feed_17 rfl (lv_at hl 1 rfl) ?_
  obtain ⟨hPc, hDc, hFc⟩ := PDq.cut (wc := [(oX9 h0 b0 (nI nb) p0 u0 r0 a0 t0 s0 o0), (b0, .inl (cA 2, 700, .inl fb))]) hP hD hS hA [0, 1] (by decide) rfl
  refine va_callv (va_runV (As := [.int w1]) (rest := []) ⟨hx, hb, hml, hown, hts⟩ (x_appendBytes l D cA sa h0 b0 nb p0 u0 r0 a0 t0 s0 o0 w1 fb s.heap.size (by omega)) (cwV 1 hts gX9_feed_X9_appendBytes rfl rfl rfl (by decide +kernel) ⟨(Nat.le_of_ble_eq_true rfl), (Nat.le_of_ble_eq_true rfl)⟩) ⟨Wd.blind, va_recv hK hPc (ci := 10) (q0 := 0) rfl rfl, fun U hU hW => ⟨rfl, Wd.call hPc hDc hK hC hZ hS hFc U hU hW⟩⟩ rfl rfl hl.1 rfl (lv_room (Nat.le_of_ble_eq_true rfl)) dX9_feed_18 ⟨(Nat.le_of_ble_eq_true rfl), (Nat.le_of_ble_eq_true rfl)⟩) hS (fun q _ h => hFc q h) hFc (fun u t H1 locs ht hvm hw hB hz1 hk1 hS => ?_)
  obtain ⟨qn3, fn4, hn5, hn6, hP1, hD1⟩ := hB
  rw [ht] at hP1
  obtain ⟨hP, hD⟩ := PDq.join (w := [(oX9 h0 b0 (nI qn3) p0 u0 r0 a0 t0 s0 o0), (b0, .inl (cA 2, 700, .inl fn4))]) 0 hP hD [0, 1] [] rfl rfl (by decide) (by decide) hk1 hFc hP1 hD1 rfl
  generalize H1 = H at hP hS ⊢
  subst hn5
  obtain ⟨hP, hD⟩ : PDq D A [(oX9 h0 b0 (nI (nb + 4)) p0 u0 r0 a0 t0 s0 o0), (b0, .inl (cA 2, 700, .inl fn4))] H := ⟨hP, hD⟩
  refine lv_aload_n hx hb dX9_feed_21 rfl (lv_at hl 0 rfl) ?_
  refine lv_iload_n hx hb dX9_feed_22 rfl (lv_at hl 2 rfl) ?_
  obtain ⟨hPc, hDc, hFc⟩ := PDq.cut (wc := [(oX9 h0 b0 (nI (nb + 4)) p0 u0 r0 a0 t0 s0 o0), (b0, .inl (cA 2, 700, .inl fn4))]) hP hD hS hA [0, 1] (by decide) rfl
  refine va_callv (va_runV (As := [.int w2]) (rest := []) ⟨hx, hb, hml, hown, hts⟩ (x_appendBytes l D cA sa h0 b0 (nb + 4) p0 u0 r0 a0 t0 s0 o0 w2 fn4 H.size (by omega)) (cwV 1 hts gX9_feed_X9_appendBytes rfl rfl rfl (by decide +kernel) ⟨(Nat.le_of_ble_eq_true rfl), (Nat.le_of_ble_eq_true rfl)⟩) ⟨Wd.blind, va_recv hK hPc (ci := 10) (q0 := 0) rfl rfl, fun U hU hW => ⟨rfl, Wd.call hPc hDc hK hC hZ hS hFc U hU hW⟩⟩ rfl rfl hl.1 rfl (lv_room (Nat.le_of_ble_eq_true rfl)) dX9_feed_23 ⟨(Nat.le_of_ble_eq_true rfl), (Nat.le_of_ble_eq_true rfl)⟩) hS (fun q _ h => hFc q h) hFc (fun u t H1 locs ht hvm hw hB hz1 hk1 hS => ?_)
  obtain ⟨qn7, fn8, hn9, hn10, hP1, hD1⟩ := hB
  rw [ht] at hP1
  obtain ⟨hP, hD⟩ := PDq.join (w := [(oX9 h0 b0 (nI qn7) p0 u0 r0 a0 t0 s0 o0), (b0, .inl (cA 2, 700, .inl fn8))]) 0 hP hD [0, 1] [] rfl rfl (by decide) (by decide) hk1 hFc hP1 hD1 rfl
  generalize H1 = H at hP hS ⊢
  subst hn9
  obtain ⟨hP, hD⟩ : PDq D A [(oX9 h0 b0 (nI ((nb + 4) + 4)) p0 u0 r0 a0 t0 s0 o0), (b0, .inl (cA 2, 700, .inl fn8))] H := ⟨hP, hD⟩
  refine lv_aload_n hx hb dX9_feed_26 rfl (lv_at hl 0 rfl) ?_
  refine lv_iload_n hx hb dX9_feed_27 rfl (lv_at hl 3 rfl) ?_
  obtain ⟨hPc, hDc, hFc⟩ := PDq.cut (wc := [(oX9 h0 b0 (nI ((nb + 4) + 4)) p0 u0 r0 a0 t0 s0 o0), (b0, .inl (cA 2, 700, .inl fn8))]) hP hD hS hA [0, 1] (by decide) rfl
  refine va_callv (va_runV (As := [.int w3]) (rest := []) ⟨hx, hb, hml, hown, hts⟩ (x_appendBytes l D cA sa h0 b0 ((nb + 4) + 4) p0 u0 r0 a0 t0 s0 o0 w3 fn8 H.size (by omega)) (cwV 1 hts gX9_feed_X9_appendBytes rfl rfl rfl (by decide +kernel) ⟨(Nat.le_of_ble_eq_true rfl), (Nat.le_of_ble_eq_true rfl)⟩) ⟨Wd.blind, va_recv hK hPc (ci := 10) (q0 := 0) rfl rfl, fun U hU hW => ⟨rfl, Wd.call hPc hDc hK hC hZ hS hFc U hU hW⟩⟩ rfl rfl hl.1 rfl (lv_room (Nat.le_of_ble_eq_true rfl)) dX9_feed_28 ⟨(Nat.le_of_ble_eq_true rfl), (Nat.le_of_ble_eq_true rfl)⟩) hS (fun q _ h => hFc q h) hFc (fun u t H1 locs ht hvm hw hB hz1 hk1 hS => ?_)
  obtain ⟨qn11, fn12, hn13, hn14, hP1, hD1⟩ := hB
  rw [ht] at hP1
  obtain ⟨hP, hD⟩ := PDq.join (w := [(oX9 h0 b0 (nI qn11) p0 u0 r0 a0 t0 s0 o0), (b0, .inl (cA 2, 700, .inl fn12))]) 0 hP hD [0, 1] [] rfl rfl (by decide) (by decide) hk1 hFc hP1 hD1 rfl
  generalize H1 = H at hP hS ⊢
  subst hn13
  obtain ⟨hP, hD⟩ : PDq D A [(oX9 h0 b0 (nI (((nb + 4) + 4) + 4)) p0 u0 r0 a0 t0 s0 o0), (b0, .inl (cA 2, 700, .inl fn12))] H := ⟨hP, hD⟩
  refine lv_aload_n hx hb dX9_feed_31 rfl (lv_at hl 0 rfl) ?_
  refine lv_iload hx hb dX9_feed_32 (lv_at hl 4 rfl) ?_
  obtain ⟨hPc, hDc, hFc⟩ := PDq.cut (wc := [(oX9 h0 b0 (nI (((nb + 4) + 4) + 4)) p0 u0 r0 a0 t0 s0 o0), (b0, .inl (cA 2, 700, .inl fn12))]) hP hD hS hA [0, 1] (by decide) rfl
  refine va_callv (va_runV (As := [.int w4]) (rest := []) ⟨hx, hb, hml, hown, hts⟩ (x_appendBytes l D cA sa h0 b0 (((nb + 4) + 4) + 4) p0 u0 r0 a0 t0 s0 o0 w4 fn12 H.size (by omega)) (cwV 1 hts gX9_feed_X9_appendBytes rfl rfl rfl (by decide +kernel) ⟨(Nat.le_of_ble_eq_true rfl), (Nat.le_of_ble_eq_true rfl)⟩) ⟨Wd.blind, va_recv hK hPc (ci := 10) (q0 := 0) rfl rfl, fun U hU hW => ⟨rfl, Wd.call hPc hDc hK hC hZ hS hFc U hU hW⟩⟩ rfl rfl hl.1 rfl (lv_room (Nat.le_of_ble_eq_true rfl)) dX9_feed_34 ⟨(Nat.le_of_ble_eq_true rfl), (Nat.le_of_ble_eq_true rfl)⟩) hS (fun q _ h => hFc q h) hFc (fun u t H1 locs ht hvm hw hB hz1 hk1 hS => ?_)
  obtain ⟨qn15, fn16, hn17, hn18, hP1, hD1⟩ := hB
  rw [ht] at hP1
  obtain ⟨hP, hD⟩ := PDq.join (w := [(oX9 h0 b0 (nI qn15) p0 u0 r0 a0 t0 s0 o0), (b0, .inl (cA 2, 700, .inl fn16))]) 0 hP hD [0, 1] [] rfl rfl (by decide) (by decide) hk1 hFc hP1 hD1 rfl
  generalize H1 = H at hP hS ⊢
  subst hn17
  obtain ⟨hP, hD⟩ : PDq D A [(oX9 h0 b0 (nI ((((nb + 4) + 4) + 4) + 4)) p0 u0 r0 a0 t0 s0 o0), (b0, .inl (cA 2, 700, .inl fn16))] H := ⟨hP, hD⟩
  refine lv_aload_n hx hb dX9_feed_37 rfl (lv_at hl 0 rfl) ?_
  refine lv_iload hx hb dX9_feed_38 (lv_at hl 5 rfl) ?_
  obtain ⟨hPc, hDc, hFc⟩ := PDq.cut (wc := [(oX9 h0 b0 (nI ((((nb + 4) + 4) + 4) + 4)) p0 u0 r0 a0 t0 s0 o0), (b0, .inl (cA 2, 700, .inl fn16))]) hP hD hS hA [0, 1] (by decide) rfl
  refine va_callv (va_runV (As := [.int w5]) (rest := []) ⟨hx, hb, hml, hown, hts⟩ (x_appendBytes l D cA sa h0 b0 ((((nb + 4) + 4) + 4) + 4) p0 u0 r0 a0 t0 s0 o0 w5 fn16 H.size (by omega)) (cwV 1 hts gX9_feed_X9_appendBytes rfl rfl rfl (by decide +kernel) ⟨(Nat.le_of_ble_eq_true rfl), (Nat.le_of_ble_eq_true rfl)⟩) ⟨Wd.blind, va_recv hK hPc (ci := 10) (q0 := 0) rfl rfl, fun U hU hW => ⟨rfl, Wd.call hPc hDc hK hC hZ hS hFc U hU hW⟩⟩ rfl rfl hl.1 rfl (lv_room (Nat.le_of_ble_eq_true rfl)) dX9_feed_40 ⟨(Nat.le_of_ble_eq_true rfl), (Nat.le_of_ble_eq_true rfl)⟩) hS (fun q _ h => hFc q h) hFc (fun u t H1 locs ht hvm hw hB hz1 hk1 hS => ?_)
  obtain ⟨qn19, fn20, hn21, hn22, hP1, hD1⟩ := hB
  rw [ht] at hP1
  obtain ⟨hP, hD⟩ := PDq.join (w := [(oX9 h0 b0 (nI qn19) p0 u0 r0 a0 t0 s0 o0), (b0, .inl (cA 2, 700, .inl fn20))]) 0 hP hD [0, 1] [] rfl rfl (by decide) (by decide) hk1 hFc hP1 hD1 rfl
  generalize H1 = H at hP hS ⊢
  subst hn21
  obtain ⟨hP, hD⟩ : PDq D A [(oX9 h0 b0 (nI (((((nb + 4) + 4) + 4) + 4) + 4)) p0 u0 r0 a0 t0 s0 o0), (b0, .inl (cA 2, 700, .inl fn20))] H := ⟨hP, hD⟩
  refine lv_aload_n hx hb dX9_feed_43 rfl (lv_at hl 0 rfl) ?_
  refine va_get (D := D) (ci := 10) (v := .int (nI (((((nb + 4) + 4) + 4) + 4) + 4))) (C := RX9) (T := TX9) (N := 9) hx hb hts inX9 hown hK hP 0 rfl rfl 1 (by decide) (hts (.fieldLink RX9 59 "EscrowDesk" "buffered" "I") (by decide +kernel)) (fun _ h9 => h9) rfl dX9_feed_44 ?_
  obtain ⟨hP9, hD9⟩ := PDq.sub (ws' := [(oX9 h0 b0 (nI (((((nb + 4) + 4) + 4) + 4) + 4)) p0 u0 r0 a0 t0 s0 o0), (b0, .inl (cA 2, 700, .inl fn20))]) hP hD [0, 1] (by decide) rfl
  refine W.widen (k := 0) (n := 0) (Nat.le_of_ble_eq_true rfl) (Nat.le_of_ble_eq_true rfl) ?_
  exact (W.iret (v := (nI (((((nb + 4) + 4) + 4) + 4) + 4))) hx hb hr (fun t ht hW => ⟨⟨(nI (((((nb + 4) + 4) + 4) + 4) + 4)), (), rfl, (by rw [show nb + 20 = (((((nb + 4) + 4) + 4) + 4) + 4) by omega]), (((((nb + 4) + 4) + 4) + 4) + 4), fn20, (by omega), ⟨_, _, _, _, hn6, hn10, hn14, hn18, hn22⟩, by rw [ht]; exact hP9, hD9⟩, hS.F ht⟩) hS.2.2 dX9_feed_47)

set_option maxHeartbeats 4000000 in
set_option maxRecDepth 100000 in
/-- reference: feed -/
theorem y_feed (l : Launch) (D : va_G) (cA : Nat → ClassId) (sa : Nat → Nat) (w0 : Nat) (ed : Nat) (nb : Nat) (ol : Nat) (v0 : Nat) (v1 : Nat) (v2 : Nat) (v3 : Nat) (v4 : Nat) (v9 : Nat) (v13 : Nat) (v27 : Nat) (v28 : Nat) (v29 : Nat) (v30 : Nat) (v31 : Nat) (v32 : Nat) (v33 : Nat) (v34 : Nat) (v35 : Nat) (v36 : Nat) (v37 : Nat) (g8 : Int32) (g11 : Int32) (g12 : Int32) (g14 : Int32) (g15 : Int32) (g16 : Int32) (g17 : Int32) (g18 : Int32) (g19 : Int32) (g20 : Int32) (g21 : Int32) (g22 : Int32) (g23 : Int32) (g24 : Int32) (g26 : Int32) (g5 : Int64) (g6 : Int64) (g25 : Int64) (w1 : Int32) (w2 : Int32) (w3 : Int32) (w4 : Int32) (w5 : Int32) (fb : Nat → Int32) (sz : Nat) (hnb : nb + 20 ≤ 700) : Met l yX10_feed wsX10_feed ({ frames := 1, cells := 0, slots := 0, locals := 22 }) (va_Pc [.ref w0, .int w1, .int w2, .int w3, .int w4, .int w5] (Wd D cA sa [(oX10 w0 v0 v1 v2 v3 v4 g5 g6 (nI ed) g8 v9 (nI nb) g11 g12 v13 g14 g15 g16 g17 g18 g19 g20 g21 g22 g23 g24 g25 g26 v27 v28 v29 v30 v31 v32 v33 v34 v35 v36 v37 (nI ol)), (v9, .inl (cA 0, 700, .inl fb))] sz)) (va_Qi (fun (r : Int32) (_ : Unit) => r = nI (nb + 20)) (fun (_ : Unit) t => ∃ nb2 : Nat, ∃ zb : Nat → Int32, nb2 = nb + 20 ∧ A20 nb w1 w2 w3 w4 w5 fb zb ∧ Wq D (va_A [(oX10 w0 v0 v1 v2 v3 v4 g5 g6 (nI ed) g8 v9 (nI nb) g11 g12 v13 g14 g15 g16 g17 g18 g19 g20 g21 g22 g23 g24 g25 g26 v27 v28 v29 v30 v31 v32 v33 v34 v35 v36 v37 (nI ol)), (v9, .inl (cA 0, 700, .inl fb))] sz) [(oX10 w0 v0 v1 v2 v3 v4 g5 g6 (nI ed) 0 v9 (nI nb2) g11 g12 v13 g14 g15 g16 g17 g18 g19 g20 g21 g22 g23 g24 g25 g26 v27 v28 v29 v30 v31 v32 v33 v34 v35 v36 v37 (nI ol)), (v9, .inl (cA 0, 700, .inl zb))] t) (va_A [(oX10 w0 v0 v1 v2 v3 v4 g5 g6 (nI ed) g8 v9 (nI nb) g11 g12 v13 g14 g15 g16 g17 g18 g19 g20 g21 g22 g23 g24 g25 g26 v27 v28 v29 v30 v31 v32 v33 v34 v35 v36 v37 (nI ol)), (v9, .inl (cA 0, 700, .inl fb))] sz)) 0 0 (va_A [(oX10 w0 v0 v1 v2 v3 v4 g5 g6 (nI ed) g8 v9 (nI nb) g11 g12 v13 g14 g15 g16 g17 g18 g19 g20 g21 g22 g23 g24 g25 g26 v27 v28 v29 v30 v31 v32 v33 v34 v35 v36 v37 (nI ol)), (v9, .inl (cA 0, 700, .inl fb))] sz) := by
  refine Met.ofW (cc := cX10_feed) (maxL := 6) (ret := (some .int)) (by decide) rfl ?_
  intro p e s m args below meth c s₁ B hml hv
  obtain ⟨rfl, hsz, hP, hK, hD0, hC, hZ⟩ := hv
  have hx := B.exec
  have hb := B.bytes
  have hr := B.returns
  have hts := atoms_spec (ws := wsX10_feed) B.pre
  have hown : s.vm.findClass RX10 = some m.cls := findClass_of_methodNamed B.named
  have hlocks := B.notSynchronized
  subst hsz
  have hD := hD0.self (sz := s.heap.size)
  generalize hAe : va_A [(oX10 w0 v0 v1 v2 v3 v4 g5 g6 (nI ed) g8 v9 (nI nb) g11 g12 v13 g14 g15 g16 g17 g18 g19 g20 g21 g22 g23 g24 g25 g26 v27 v28 v29 v30 v31 v32 v33 v34 v35 v36 v37 (nI ol)), (v9, .inl (cA 0, 700, .inl fb))] s.heap.size = A at hD hZ ⊢
  have hA : ∀ q : Nat, s.heap.size ≤ q → A q := fun q h => by rw [← hAe]; exact Or.inr h
  have hS : va_S A s.heap s.heap [] := va_S.rf
  have hP : va_P D vwCl [(oX10 w0 v0 v1 v2 v3 v4 g5 g6 (nI ed) g8 v9 (nI nb) g11 g12 v13 g14 g15 g16 g17 g18 g19 g20 g21 g22 g23 g24 g25 g26 v27 v28 v29 v30 v31 v32 v33 v34 v35 v36 v37 (nI ol)), (v9, .inl (cA 0, 700, .inl fb))] s.heap := hP
  have hl := lv_entry ([.ref w0, .int w1, .int w2, .int w3, .int w4, .int w5]) (n := 6) (Nat.le_of_ble_eq_true rfl)
  rw [lg_entry_eq]
  generalize (lg_sl ([.ref w0, .int w1, .int w2, .int w3, .int w4, .int w5]) ++ List.replicate (6 - (lg_sl ([.ref w0, .int w1, .int w2, .int w3, .int w4, .int w5])).length) Slot.unset).toArray = ls at hl ⊢
  have hl : lv_has ls 6 [(0, .ref w0), (1, .int w1), (2, .int w2), (3, .int w3), (4, .int w4), (5, .int w5)] := hl
  have inX10 : ∀ w ∈ u_ws RX10 TX10 39, w ∈ wsX10_feed := by decide +kernel
  refine lv_aload_n hx hb dX10_feed_0 rfl (lv_at hl 0 rfl) ?_
  refine lv_iconst (v := 0) hx hb dX10_feed_1 (by decide) ?_
  refine va_put (D := D) (ci := 11) (v := .int 0) (ty := .int) (C := RX10) (T := TX10) (N := 39) hx hb hts inX10 tyX10 tyX10_ok nmX10 hown hK hP hD hS 0 rfl rfl 8 (by decide) (hts (.fieldLink RX10 80 "EscrowDeskModel" "thrown" "I") (by decide +kernel)) (fun _ h9 => h9) rfl (by decide +kernel) rfl rfl (Nat.le_of_ble_eq_true rfl) dX10_feed_2 (fun H locs hP hD hS => ?_)
  obtain ⟨hP, hD⟩ : PDq D A [(oX10 w0 v0 v1 v2 v3 v4 g5 g6 (nI ed) 0 v9 (nI nb) g11 g12 v13 g14 g15 g16 g17 g18 g19 g20 g21 g22 g23 g24 g25 g26 v27 v28 v29 v30 v31 v32 v33 v34 v35 v36 v37 (nI ol)), (v9, .inl (cA 0, 700, .inl fb))] H := ⟨hP, hD⟩
  refine lv_aload_n hx hb dX10_feed_5 rfl (lv_at hl 0 rfl) ?_
  refine va_get (D := D) (ci := 11) (v := .int (nI nb)) (C := RX10) (T := TX10) (N := 39) hx hb hts inX10 hown hK hP 0 rfl rfl 10 (by decide) (hts (.fieldLink RX10 90 "EscrowDeskModel" "buffered" "I") (by decide +kernel)) (fun _ h9 => h9) rfl dX10_feed_6 ?_
  refine lv_bipush (v := 20) hx hb dX10_feed_9 (by decide) ?_
  refine lv_iadd hx hb dX10_feed_11 ?_
  refine lv_topi (fun yn1 eyn1 => ?_)
  obtain rfl : yn1 = (nI (nb + 20)) := eyn1.trans (nI_add nb 20)
  refine lv_sipush (v := 700) hx hb dX10_feed_12 (by decide) ?_
  refine lv_icmp_le (tgt := 21) hx hb dX10_feed_15 (by decide) (fun c2 => ?_) (fun c9 => absurd (nI_le (a := (nb + 20)) (b := 700) (show (nb + 20) ≤ 700 by omega) (by omega)) c9)
  refine lv_aload_n hx hb dX10_feed_21 rfl (lv_at hl 0 rfl) ?_
  refine lv_iload_n hx hb dX10_feed_22 rfl (lv_at hl 1 rfl) ?_
  obtain ⟨hPc, hDc, hFc⟩ := PDq.cut (wc := [(oX10 w0 v0 v1 v2 v3 v4 g5 g6 (nI ed) 0 v9 (nI nb) g11 g12 v13 g14 g15 g16 g17 g18 g19 g20 g21 g22 g23 g24 g25 g26 v27 v28 v29 v30 v31 v32 v33 v34 v35 v36 v37 (nI ol)), (v9, .inl (cA 0, 700, .inl fb))]) hP hD hS hA [0, 1] (by decide) rfl
  refine va_callv (va_runV (As := [.int w1]) (rest := []) ⟨hx, hb, hml, hown, hts⟩ (y_append l D cA sa w0 ed nb ol v0 v1 v2 v3 v4 v9 v13 v27 v28 v29 v30 v31 v32 v33 v34 v35 v36 v37 0 g11 g12 g14 g15 g16 g17 g18 g19 g20 g21 g22 g23 g24 g26 g5 g6 g25 w1 fb H.size (by omega)) (cwV 1 hts gX10_feed_X10_append rfl rfl rfl (by decide +kernel) ⟨(Nat.le_of_ble_eq_true rfl), (Nat.le_of_ble_eq_true rfl)⟩) ⟨Wd.blind, va_recv hK hPc (ci := 11) (q0 := 0) rfl rfl, fun U hU hW => ⟨rfl, Wd.call hPc hDc hK hC hZ hS hFc U hU hW⟩⟩ rfl rfl hl.1 rfl (lv_room (Nat.le_of_ble_eq_true rfl)) dX10_feed_23 ⟨(Nat.le_of_ble_eq_true rfl), (Nat.le_of_ble_eq_true rfl)⟩) hS (fun q _ h => hFc q h) hFc (fun u t H1 locs ht hvm hw hB hz1 hk1 hS => ?_)
  obtain ⟨qn3, fn4, hn5, hn6, hP1, hD1⟩ := hB
  rw [ht] at hP1
  obtain ⟨hP, hD⟩ := PDq.join (w := [(oX10 w0 v0 v1 v2 v3 v4 g5 g6 (nI ed) 0 v9 (nI qn3) g11 g12 v13 g14 g15 g16 g17 g18 g19 g20 g21 g22 g23 g24 g25 g26 v27 v28 v29 v30 v31 v32 v33 v34 v35 v36 v37 (nI ol)), (v9, .inl (cA 0, 700, .inl fn4))]) 0 hP hD [0, 1] [] rfl rfl (by decide) (by decide) hk1 hFc hP1 hD1 rfl
  generalize H1 = H at hP hS ⊢
  subst hn5
  obtain ⟨hP, hD⟩ : PDq D A [(oX10 w0 v0 v1 v2 v3 v4 g5 g6 (nI ed) 0 v9 (nI (nb + 4)) g11 g12 v13 g14 g15 g16 g17 g18 g19 g20 g21 g22 g23 g24 g25 g26 v27 v28 v29 v30 v31 v32 v33 v34 v35 v36 v37 (nI ol)), (v9, .inl (cA 0, 700, .inl fn4))] H := ⟨hP, hD⟩
  refine lv_aload_n hx hb dX10_feed_26 rfl (lv_at hl 0 rfl) ?_
  refine lv_iload_n hx hb dX10_feed_27 rfl (lv_at hl 2 rfl) ?_
  obtain ⟨hPc, hDc, hFc⟩ := PDq.cut (wc := [(oX10 w0 v0 v1 v2 v3 v4 g5 g6 (nI ed) 0 v9 (nI (nb + 4)) g11 g12 v13 g14 g15 g16 g17 g18 g19 g20 g21 g22 g23 g24 g25 g26 v27 v28 v29 v30 v31 v32 v33 v34 v35 v36 v37 (nI ol)), (v9, .inl (cA 0, 700, .inl fn4))]) hP hD hS hA [0, 1] (by decide) rfl
  refine va_callv (va_runV (As := [.int w2]) (rest := []) ⟨hx, hb, hml, hown, hts⟩ (y_append l D cA sa w0 ed (nb + 4) ol v0 v1 v2 v3 v4 v9 v13 v27 v28 v29 v30 v31 v32 v33 v34 v35 v36 v37 0 g11 g12 g14 g15 g16 g17 g18 g19 g20 g21 g22 g23 g24 g26 g5 g6 g25 w2 fn4 H.size (by omega)) (cwV 1 hts gX10_feed_X10_append rfl rfl rfl (by decide +kernel) ⟨(Nat.le_of_ble_eq_true rfl), (Nat.le_of_ble_eq_true rfl)⟩) ⟨Wd.blind, va_recv hK hPc (ci := 11) (q0 := 0) rfl rfl, fun U hU hW => ⟨rfl, Wd.call hPc hDc hK hC hZ hS hFc U hU hW⟩⟩ rfl rfl hl.1 rfl (lv_room (Nat.le_of_ble_eq_true rfl)) dX10_feed_28 ⟨(Nat.le_of_ble_eq_true rfl), (Nat.le_of_ble_eq_true rfl)⟩) hS (fun q _ h => hFc q h) hFc (fun u t H1 locs ht hvm hw hB hz1 hk1 hS => ?_)
  obtain ⟨qn7, fn8, hn9, hn10, hP1, hD1⟩ := hB
  rw [ht] at hP1
  obtain ⟨hP, hD⟩ := PDq.join (w := [(oX10 w0 v0 v1 v2 v3 v4 g5 g6 (nI ed) 0 v9 (nI qn7) g11 g12 v13 g14 g15 g16 g17 g18 g19 g20 g21 g22 g23 g24 g25 g26 v27 v28 v29 v30 v31 v32 v33 v34 v35 v36 v37 (nI ol)), (v9, .inl (cA 0, 700, .inl fn8))]) 0 hP hD [0, 1] [] rfl rfl (by decide) (by decide) hk1 hFc hP1 hD1 rfl
  generalize H1 = H at hP hS ⊢
  subst hn9
  obtain ⟨hP, hD⟩ : PDq D A [(oX10 w0 v0 v1 v2 v3 v4 g5 g6 (nI ed) 0 v9 (nI ((nb + 4) + 4)) g11 g12 v13 g14 g15 g16 g17 g18 g19 g20 g21 g22 g23 g24 g25 g26 v27 v28 v29 v30 v31 v32 v33 v34 v35 v36 v37 (nI ol)), (v9, .inl (cA 0, 700, .inl fn8))] H := ⟨hP, hD⟩
  refine lv_aload_n hx hb dX10_feed_31 rfl (lv_at hl 0 rfl) ?_
  refine lv_iload_n hx hb dX10_feed_32 rfl (lv_at hl 3 rfl) ?_
  obtain ⟨hPc, hDc, hFc⟩ := PDq.cut (wc := [(oX10 w0 v0 v1 v2 v3 v4 g5 g6 (nI ed) 0 v9 (nI ((nb + 4) + 4)) g11 g12 v13 g14 g15 g16 g17 g18 g19 g20 g21 g22 g23 g24 g25 g26 v27 v28 v29 v30 v31 v32 v33 v34 v35 v36 v37 (nI ol)), (v9, .inl (cA 0, 700, .inl fn8))]) hP hD hS hA [0, 1] (by decide) rfl
  refine va_callv (va_runV (As := [.int w3]) (rest := []) ⟨hx, hb, hml, hown, hts⟩ (y_append l D cA sa w0 ed ((nb + 4) + 4) ol v0 v1 v2 v3 v4 v9 v13 v27 v28 v29 v30 v31 v32 v33 v34 v35 v36 v37 0 g11 g12 g14 g15 g16 g17 g18 g19 g20 g21 g22 g23 g24 g26 g5 g6 g25 w3 fn8 H.size (by omega)) (cwV 1 hts gX10_feed_X10_append rfl rfl rfl (by decide +kernel) ⟨(Nat.le_of_ble_eq_true rfl), (Nat.le_of_ble_eq_true rfl)⟩) ⟨Wd.blind, va_recv hK hPc (ci := 11) (q0 := 0) rfl rfl, fun U hU hW => ⟨rfl, Wd.call hPc hDc hK hC hZ hS hFc U hU hW⟩⟩ rfl rfl hl.1 rfl (lv_room (Nat.le_of_ble_eq_true rfl)) dX10_feed_33 ⟨(Nat.le_of_ble_eq_true rfl), (Nat.le_of_ble_eq_true rfl)⟩) hS (fun q _ h => hFc q h) hFc (fun u t H1 locs ht hvm hw hB hz1 hk1 hS => ?_)
  obtain ⟨qn11, fn12, hn13, hn14, hP1, hD1⟩ := hB
  rw [ht] at hP1
  obtain ⟨hP, hD⟩ := PDq.join (w := [(oX10 w0 v0 v1 v2 v3 v4 g5 g6 (nI ed) 0 v9 (nI qn11) g11 g12 v13 g14 g15 g16 g17 g18 g19 g20 g21 g22 g23 g24 g25 g26 v27 v28 v29 v30 v31 v32 v33 v34 v35 v36 v37 (nI ol)), (v9, .inl (cA 0, 700, .inl fn12))]) 0 hP hD [0, 1] [] rfl rfl (by decide) (by decide) hk1 hFc hP1 hD1 rfl
  generalize H1 = H at hP hS ⊢
  subst hn13
  obtain ⟨hP, hD⟩ : PDq D A [(oX10 w0 v0 v1 v2 v3 v4 g5 g6 (nI ed) 0 v9 (nI (((nb + 4) + 4) + 4)) g11 g12 v13 g14 g15 g16 g17 g18 g19 g20 g21 g22 g23 g24 g25 g26 v27 v28 v29 v30 v31 v32 v33 v34 v35 v36 v37 (nI ol)), (v9, .inl (cA 0, 700, .inl fn12))] H := ⟨hP, hD⟩
  refine lv_aload_n hx hb dX10_feed_36 rfl (lv_at hl 0 rfl) ?_
  refine lv_iload hx hb dX10_feed_37 (lv_at hl 4 rfl) ?_
  obtain ⟨hPc, hDc, hFc⟩ := PDq.cut (wc := [(oX10 w0 v0 v1 v2 v3 v4 g5 g6 (nI ed) 0 v9 (nI (((nb + 4) + 4) + 4)) g11 g12 v13 g14 g15 g16 g17 g18 g19 g20 g21 g22 g23 g24 g25 g26 v27 v28 v29 v30 v31 v32 v33 v34 v35 v36 v37 (nI ol)), (v9, .inl (cA 0, 700, .inl fn12))]) hP hD hS hA [0, 1] (by decide) rfl
  refine va_callv (va_runV (As := [.int w4]) (rest := []) ⟨hx, hb, hml, hown, hts⟩ (y_append l D cA sa w0 ed (((nb + 4) + 4) + 4) ol v0 v1 v2 v3 v4 v9 v13 v27 v28 v29 v30 v31 v32 v33 v34 v35 v36 v37 0 g11 g12 g14 g15 g16 g17 g18 g19 g20 g21 g22 g23 g24 g26 g5 g6 g25 w4 fn12 H.size (by omega)) (cwV 1 hts gX10_feed_X10_append rfl rfl rfl (by decide +kernel) ⟨(Nat.le_of_ble_eq_true rfl), (Nat.le_of_ble_eq_true rfl)⟩) ⟨Wd.blind, va_recv hK hPc (ci := 11) (q0 := 0) rfl rfl, fun U hU hW => ⟨rfl, Wd.call hPc hDc hK hC hZ hS hFc U hU hW⟩⟩ rfl rfl hl.1 rfl (lv_room (Nat.le_of_ble_eq_true rfl)) dX10_feed_39 ⟨(Nat.le_of_ble_eq_true rfl), (Nat.le_of_ble_eq_true rfl)⟩) hS (fun q _ h => hFc q h) hFc (fun u t H1 locs ht hvm hw hB hz1 hk1 hS => ?_)
  obtain ⟨qn15, fn16, hn17, hn18, hP1, hD1⟩ := hB
  rw [ht] at hP1
  obtain ⟨hP, hD⟩ := PDq.join (w := [(oX10 w0 v0 v1 v2 v3 v4 g5 g6 (nI ed) 0 v9 (nI qn15) g11 g12 v13 g14 g15 g16 g17 g18 g19 g20 g21 g22 g23 g24 g25 g26 v27 v28 v29 v30 v31 v32 v33 v34 v35 v36 v37 (nI ol)), (v9, .inl (cA 0, 700, .inl fn16))]) 0 hP hD [0, 1] [] rfl rfl (by decide) (by decide) hk1 hFc hP1 hD1 rfl
  generalize H1 = H at hP hS ⊢
  subst hn17
  obtain ⟨hP, hD⟩ : PDq D A [(oX10 w0 v0 v1 v2 v3 v4 g5 g6 (nI ed) 0 v9 (nI ((((nb + 4) + 4) + 4) + 4)) g11 g12 v13 g14 g15 g16 g17 g18 g19 g20 g21 g22 g23 g24 g25 g26 v27 v28 v29 v30 v31 v32 v33 v34 v35 v36 v37 (nI ol)), (v9, .inl (cA 0, 700, .inl fn16))] H := ⟨hP, hD⟩
  refine lv_aload_n hx hb dX10_feed_42 rfl (lv_at hl 0 rfl) ?_
  refine lv_iload hx hb dX10_feed_43 (lv_at hl 5 rfl) ?_
  obtain ⟨hPc, hDc, hFc⟩ := PDq.cut (wc := [(oX10 w0 v0 v1 v2 v3 v4 g5 g6 (nI ed) 0 v9 (nI ((((nb + 4) + 4) + 4) + 4)) g11 g12 v13 g14 g15 g16 g17 g18 g19 g20 g21 g22 g23 g24 g25 g26 v27 v28 v29 v30 v31 v32 v33 v34 v35 v36 v37 (nI ol)), (v9, .inl (cA 0, 700, .inl fn16))]) hP hD hS hA [0, 1] (by decide) rfl
  refine va_callv (va_runV (As := [.int w5]) (rest := []) ⟨hx, hb, hml, hown, hts⟩ (y_append l D cA sa w0 ed ((((nb + 4) + 4) + 4) + 4) ol v0 v1 v2 v3 v4 v9 v13 v27 v28 v29 v30 v31 v32 v33 v34 v35 v36 v37 0 g11 g12 g14 g15 g16 g17 g18 g19 g20 g21 g22 g23 g24 g26 g5 g6 g25 w5 fn16 H.size (by omega)) (cwV 1 hts gX10_feed_X10_append rfl rfl rfl (by decide +kernel) ⟨(Nat.le_of_ble_eq_true rfl), (Nat.le_of_ble_eq_true rfl)⟩) ⟨Wd.blind, va_recv hK hPc (ci := 11) (q0 := 0) rfl rfl, fun U hU hW => ⟨rfl, Wd.call hPc hDc hK hC hZ hS hFc U hU hW⟩⟩ rfl rfl hl.1 rfl (lv_room (Nat.le_of_ble_eq_true rfl)) dX10_feed_45 ⟨(Nat.le_of_ble_eq_true rfl), (Nat.le_of_ble_eq_true rfl)⟩) hS (fun q _ h => hFc q h) hFc (fun u t H1 locs ht hvm hw hB hz1 hk1 hS => ?_)
  obtain ⟨qn19, fn20, hn21, hn22, hP1, hD1⟩ := hB
  rw [ht] at hP1
  obtain ⟨hP, hD⟩ := PDq.join (w := [(oX10 w0 v0 v1 v2 v3 v4 g5 g6 (nI ed) 0 v9 (nI qn19) g11 g12 v13 g14 g15 g16 g17 g18 g19 g20 g21 g22 g23 g24 g25 g26 v27 v28 v29 v30 v31 v32 v33 v34 v35 v36 v37 (nI ol)), (v9, .inl (cA 0, 700, .inl fn20))]) 0 hP hD [0, 1] [] rfl rfl (by decide) (by decide) hk1 hFc hP1 hD1 rfl
  generalize H1 = H at hP hS ⊢
  subst hn21
  obtain ⟨hP, hD⟩ : PDq D A [(oX10 w0 v0 v1 v2 v3 v4 g5 g6 (nI ed) 0 v9 (nI (((((nb + 4) + 4) + 4) + 4) + 4)) g11 g12 v13 g14 g15 g16 g17 g18 g19 g20 g21 g22 g23 g24 g25 g26 v27 v28 v29 v30 v31 v32 v33 v34 v35 v36 v37 (nI ol)), (v9, .inl (cA 0, 700, .inl fn20))] H := ⟨hP, hD⟩
  refine lv_aload_n hx hb dX10_feed_48 rfl (lv_at hl 0 rfl) ?_
  refine va_get (D := D) (ci := 11) (v := .int (nI (((((nb + 4) + 4) + 4) + 4) + 4))) (C := RX10) (T := TX10) (N := 39) hx hb hts inX10 hown hK hP 0 rfl rfl 10 (by decide) (hts (.fieldLink RX10 90 "EscrowDeskModel" "buffered" "I") (by decide +kernel)) (fun _ h9 => h9) rfl dX10_feed_49 ?_
  obtain ⟨hP9, hD9⟩ := PDq.sub (ws' := [(oX10 w0 v0 v1 v2 v3 v4 g5 g6 (nI ed) 0 v9 (nI (((((nb + 4) + 4) + 4) + 4) + 4)) g11 g12 v13 g14 g15 g16 g17 g18 g19 g20 g21 g22 g23 g24 g25 g26 v27 v28 v29 v30 v31 v32 v33 v34 v35 v36 v37 (nI ol)), (v9, .inl (cA 0, 700, .inl fn20))]) hP hD [0, 1] (by decide) rfl
  refine W.widen (k := 0) (n := 0) (Nat.le_of_ble_eq_true rfl) (Nat.le_of_ble_eq_true rfl) ?_
  exact (W.iret (v := (nI (((((nb + 4) + 4) + 4) + 4) + 4))) hx hb hr (fun t ht hW => ⟨⟨(nI (((((nb + 4) + 4) + 4) + 4) + 4)), (), rfl, (by rw [show nb + 20 = (((((nb + 4) + 4) + 4) + 4) + 4) by omega]), (((((nb + 4) + 4) + 4) + 4) + 4), fn20, (by omega), ⟨_, _, _, _, hn6, hn10, hn14, hn18, hn22⟩, by rw [ht]; exact hP9, hD9⟩, hS.F ht⟩) hS.2.2 dX10_feed_52)

set_option maxHeartbeats 4000000 in
set_option maxRecDepth 100000 in
/-- isLatin1 -/
theorem j_isLatin1 (l : Launch) (D : va_G) (cA : Nat → ClassId) (sa : Nat → Nat) (o0 : Nat) (o1 : Nat) (ct : Nat) (mb : Int32) (sz : Nat) : Met l yJ5_isLatin1_aae02 wsJ5_isLatin1_aae02 ({ frames := 0, cells := 0, slots := 0, locals := 0 }) (va_Pc [.ref o0] (Wd D cA sa [(oJ4 o0 o1 0 mb (nI ct))] sz)) (va_Qi (fun (r : Int32) (_ : Unit) => r = 1) (fun (_ : Unit) t => Wq D (va_A [(oJ4 o0 o1 0 mb (nI ct))] sz) [(oJ4 o0 o1 0 mb (nI ct))] t) (va_A [(oJ4 o0 o1 0 mb (nI ct))] sz)) 0 0 (va_A [(oJ4 o0 o1 0 mb (nI ct))] sz) := by
  refine Met.ofW (cc := cJ5_isLatin1_aae02) (maxL := 1) (ret := (some .boolean)) (by decide) rfl ?_
  intro p e s m args below meth c s₁ B hml hv
  obtain ⟨rfl, hsz, hP, hK, hD0, hC, hZ⟩ := hv
  have hx := B.exec
  have hb := B.bytes
  have hr := B.returns
  have hts := atoms_spec (ws := wsJ5_isLatin1_aae02) B.pre
  have hown : s.vm.findClass RJ5 = some m.cls := findClass_of_methodNamed B.named
  have hlocks := B.notSynchronized
  subst hsz
  have hD := hD0.self (sz := s.heap.size)
  generalize hAe : va_A [(oJ4 o0 o1 0 mb (nI ct))] s.heap.size = A at hD hZ ⊢
  have hA : ∀ q : Nat, s.heap.size ≤ q → A q := fun q h => by rw [← hAe]; exact Or.inr h
  have hS : va_S A s.heap s.heap [] := va_S.rf
  have hP : va_P D vwCl [(oJ4 o0 o1 0 mb (nI ct))] s.heap := hP
  have hl := lv_entry ([.ref o0]) (n := 1) (Nat.le_of_ble_eq_true rfl)
  rw [lg_entry_eq]
  generalize (lg_sl ([.ref o0]) ++ List.replicate (1 - (lg_sl ([.ref o0])).length) Slot.unset).toArray = ls at hl ⊢
  have hl : lv_has ls 1 [(0, .ref o0)] := hl
  have inJ4 : ∀ w ∈ u_ws RJ4 TJ4 4, w ∈ wsJ5_isLatin1_aae02 := by decide +kernel
  refine va_gets hx hb hZ.2.2.1 hS hown (hts (.fieldLink RJ5 18 "java/lang/String" "COMPACT_STRINGS" "Z") (by decide +kernel)) (fun _ h9 => h9) dJ5_isLatin1_aae02_0 ?_
  refine lv_if_eq (tgt := 17) hx hb dJ5_isLatin1_aae02_3 (by decide) (fun c9 => absurd c9 (by decide)) (fun c1 => ?_)
  refine lv_aload_n hx hb dJ5_isLatin1_aae02_6 rfl (lv_at hl 0 rfl) ?_
  refine va_get (D := D) (ci := 1) (v := .int 0) (C := RJ4) (T := TJ4) (N := 4) hx hb hts inJ4 hown hK hP 0 rfl rfl 1 (by decide) (hts (.fieldLink RJ5 22 "java/lang/AbstractStringBuilder" "coder" "B") (by decide +kernel)) (fun _ h9 => h9) rfl dJ5_isLatin1_aae02_7 ?_
  refine lv_if_ne (tgt := 17) hx hb dJ5_isLatin1_aae02_10 (by decide) (fun c9 => absurd c9 (by decide)) (fun c2 => ?_)
  refine lv_iconst (v := 1) hx hb dJ5_isLatin1_aae02_13 (by decide) ?_
  refine lv_goto (tgt := 18) hx hb dJ5_isLatin1_aae02_14 (by decide) ?_
  obtain ⟨hP9, hD9⟩ := PDq.sub (ws' := [(oJ4 o0 o1 0 mb (nI ct))]) hP hD [0] (by decide) rfl
  refine W.widen (k := 0) (n := 0) (Nat.le_of_ble_eq_true rfl) (Nat.le_of_ble_eq_true rfl) ?_
  exact (W.zret (v := 1) hx hb hr (by first | rfl | decide) (fun t ht hW => ⟨⟨1, (), rfl, rfl, by rw [ht]; exact hP9, hD9⟩, hS.F ht⟩) hS.2.2 dJ5_isLatin1_aae02_18)

set_option maxHeartbeats 4000000 in
set_option maxRecDepth 100000 in
/-- canEncode -/
theorem j_canEncode (l : Launch) (D : va_G) (cA : Nat → ClassId) (sa : Nat → Nat) (ch : Nat) (sz : Nat) (hch : ch < 256) : Met l yJ1_canEncode_fc78d wsJ1_canEncode_fc78d ({ frames := 0, cells := 0, slots := 0, locals := 0 }) (va_Pc [.int (nI ch)] (Wd D cA sa [] sz)) (va_Qi (fun (r : Int32) (_ : Unit) => r = 1) (fun (_ : Unit) t => Wq D (va_A [] sz) [] t) (va_A [] sz)) 0 0 (va_A [] sz) := by
  refine Met.ofW (cc := cJ1_canEncode_fc78d) (maxL := 1) (ret := (some .boolean)) (by decide) rfl ?_
  intro p e s m args below meth c s₁ B hml hv
  obtain ⟨rfl, hsz, hP, hK, hD0, hC, hZ⟩ := hv
  have hx := B.exec
  have hb := B.bytes
  have hr := B.returns
  have hts := atoms_spec (ws := wsJ1_canEncode_fc78d) B.pre
  have hown : s.vm.findClass RJ1 = some m.cls := findClass_of_methodNamed B.named
  have hlocks := B.notSynchronized
  subst hsz
  have hD := hD0.self (sz := s.heap.size)
  generalize hAe : va_A [] s.heap.size = A at hD hZ ⊢
  have hA : ∀ q : Nat, s.heap.size ≤ q → A q := fun q h => by rw [← hAe]; exact Or.inr h
  have hS : va_S A s.heap s.heap [] := va_S.rf
  have hP : va_P D vwCl [] s.heap := hP
  have hl := lv_entry ([.int (nI ch)]) (n := 1) (Nat.le_of_ble_eq_true rfl)
  rw [lg_entry_eq]
  generalize (lg_sl ([.int (nI ch)]) ++ List.replicate (1 - (lg_sl ([.int (nI ch)])).length) Slot.unset).toArray = ls at hl ⊢
  have hl : lv_has ls 1 [(0, .int (nI ch))] := hl
  refine lv_iload_n hx hb dJ1_canEncode_fc78d_0 rfl (lv_at hl 0 rfl) ?_
  refine lv_sipush (v := 255) hx hb dJ1_canEncode_fc78d_1 (by decide) ?_
  refine lv_icmp_gt (tgt := 11) hx hb dJ1_canEncode_fc78d_4 (by decide) (fun c9 => absurd c9 (nI_nlt (a := 255) (b := ch) (show ch ≤ 255 by omega) (by omega))) (fun c1 => ?_)
  refine lv_iconst (v := 1) hx hb dJ1_canEncode_fc78d_7 (by decide) ?_
  refine lv_goto (tgt := 12) hx hb dJ1_canEncode_fc78d_8 (by decide) ?_
  obtain ⟨hP9, hD9⟩ := PDq.sub (ws' := []) hP hD [] (by decide) rfl
  refine W.widen (k := 0) (n := 0) (Nat.le_of_ble_eq_true rfl) (Nat.le_of_ble_eq_true rfl) ?_
  exact (W.zret (v := 1) hx hb hr (by first | rfl | decide) (fun t ht hW => ⟨⟨1, (), rfl, rfl, by rw [ht]; exact hP9, hD9⟩, hS.F ht⟩) hS.2.2 dJ1_canEncode_fc78d_12)

set_option maxHeartbeats 4000000 in
set_option maxRecDepth 100000 in
/-- AbstractStringBuilder.length -/
theorem j_length5 (l : Launch) (D : va_G) (cA : Nat → ClassId) (sa : Nat → Nat) (o0 : Nat) (o1 : Nat) (ct : Nat) (mb : Int32) (sz : Nat) : Met l yJ5_length_8abf5 wsJ5_length_8abf5 ({ frames := 0, cells := 0, slots := 0, locals := 0 }) (va_Pc [.ref o0] (Wd D cA sa [(oJ4 o0 o1 0 mb (nI ct))] sz)) (va_Qi (fun (r : Int32) (_ : Unit) => r = (nI ct)) (fun (_ : Unit) t => Wq D (va_A [(oJ4 o0 o1 0 mb (nI ct))] sz) [(oJ4 o0 o1 0 mb (nI ct))] t) (va_A [(oJ4 o0 o1 0 mb (nI ct))] sz)) 0 0 (va_A [(oJ4 o0 o1 0 mb (nI ct))] sz) := by
  refine Met.ofW (cc := cJ5_length_8abf5) (maxL := 1) (ret := (some .int)) (by decide) rfl ?_
  intro p e s m args below meth c s₁ B hml hv
  obtain ⟨rfl, hsz, hP, hK, hD0, hC, hZ⟩ := hv
  have hx := B.exec
  have hb := B.bytes
  have hr := B.returns
  have hts := atoms_spec (ws := wsJ5_length_8abf5) B.pre
  have hown : s.vm.findClass RJ5 = some m.cls := findClass_of_methodNamed B.named
  have hlocks := B.notSynchronized
  subst hsz
  have hD := hD0.self (sz := s.heap.size)
  generalize hAe : va_A [(oJ4 o0 o1 0 mb (nI ct))] s.heap.size = A at hD hZ ⊢
  have hA : ∀ q : Nat, s.heap.size ≤ q → A q := fun q h => by rw [← hAe]; exact Or.inr h
  have hS : va_S A s.heap s.heap [] := va_S.rf
  have hP : va_P D vwCl [(oJ4 o0 o1 0 mb (nI ct))] s.heap := hP
  have hl := lv_entry ([.ref o0]) (n := 1) (Nat.le_of_ble_eq_true rfl)
  rw [lg_entry_eq]
  generalize (lg_sl ([.ref o0]) ++ List.replicate (1 - (lg_sl ([.ref o0])).length) Slot.unset).toArray = ls at hl ⊢
  have hl : lv_has ls 1 [(0, .ref o0)] := hl
  have inJ4 : ∀ w ∈ u_ws RJ4 TJ4 4, w ∈ wsJ5_length_8abf5 := by decide +kernel
  refine lv_aload_n hx hb dJ5_length_8abf5_0 rfl (lv_at hl 0 rfl) ?_
  refine va_get (D := D) (ci := 1) (v := .int (nI ct)) (C := RJ4) (T := TJ4) (N := 4) hx hb hts inJ4 hown hK hP 0 rfl rfl 3 (by decide) (hts (.fieldLink RJ5 79 "java/lang/AbstractStringBuilder" "count" "I") (by decide +kernel)) (fun _ h9 => h9) rfl dJ5_length_8abf5_1 ?_
  obtain ⟨hP9, hD9⟩ := PDq.sub (ws' := [(oJ4 o0 o1 0 mb (nI ct))]) hP hD [0] (by decide) rfl
  refine W.widen (k := 0) (n := 0) (Nat.le_of_ble_eq_true rfl) (Nat.le_of_ble_eq_true rfl) ?_
  exact (W.iret (v := (nI ct)) hx hb hr (fun t ht hW => ⟨⟨(nI ct), (), rfl, rfl, by rw [ht]; exact hP9, hD9⟩, hS.F ht⟩) hS.2.2 dJ5_length_8abf5_4)

set_option maxHeartbeats 4000000 in
set_option maxRecDepth 100000 in
/-- StringBuilder.length -/
theorem j_length (l : Launch) (D : va_G) (cA : Nat → ClassId) (sa : Nat → Nat) (o0 : Nat) (o1 : Nat) (ct : Nat) (mb : Int32) (sz : Nat) : Met l yJ4_length_8abf5 wsJ4_length_8abf5 ({ frames := 1, cells := 0, slots := 0, locals := 20 }) (va_Pc [.ref o0] (Wd D cA sa [(oJ4 o0 o1 0 mb (nI ct))] sz)) (va_Qi (fun (r : Int32) (_ : Unit) => r = (nI ct)) (fun (_ : Unit) t => Wq D (va_A [(oJ4 o0 o1 0 mb (nI ct))] sz) [(oJ4 o0 o1 0 mb (nI ct))] t) (va_A [(oJ4 o0 o1 0 mb (nI ct))] sz)) 0 0 (va_A [(oJ4 o0 o1 0 mb (nI ct))] sz) := by
  refine Met.ofW (cc := cJ4_length_8abf5) (maxL := 1) (ret := (some .int)) (by decide) rfl ?_
  intro p e s m args below meth c s₁ B hml hv
  obtain ⟨rfl, hsz, hP, hK, hD0, hC, hZ⟩ := hv
  have hx := B.exec
  have hb := B.bytes
  have hr := B.returns
  have hts := atoms_spec (ws := wsJ4_length_8abf5) B.pre
  have hown : s.vm.findClass RJ4 = some m.cls := findClass_of_methodNamed B.named
  have hlocks := B.notSynchronized
  subst hsz
  have hD := hD0.self (sz := s.heap.size)
  generalize hAe : va_A [(oJ4 o0 o1 0 mb (nI ct))] s.heap.size = A at hD hZ ⊢
  have hA : ∀ q : Nat, s.heap.size ≤ q → A q := fun q h => by rw [← hAe]; exact Or.inr h
  have hS : va_S A s.heap s.heap [] := va_S.rf
  have hP : va_P D vwCl [(oJ4 o0 o1 0 mb (nI ct))] s.heap := hP
  have hl := lv_entry ([.ref o0]) (n := 1) (Nat.le_of_ble_eq_true rfl)
  rw [lg_entry_eq]
  generalize (lg_sl ([.ref o0]) ++ List.replicate (1 - (lg_sl ([.ref o0])).length) Slot.unset).toArray = ls at hl ⊢
  have hl : lv_has ls 1 [(0, .ref o0)] := hl
  refine lv_aload_n hx hb dJ4_length_8abf5_0 rfl (lv_at hl 0 rfl) ?_
  obtain ⟨hPc, hDc, hFc⟩ := PDq.cut (wc := [(oJ4 o0 o1 0 mb (nI ct))]) hP hD hS hA [0] (by decide) rfl
  refine va_calli (va_runSU (As := []) (rest := []) (hK.1 1 _ rfl).2 ⟨hx, hb, hml, hown, hts⟩ (j_length5 l D cA sa o0 o1 ct mb s.heap.size) (va_cwSU 0 hts gJ4_length_8abf5_J5_length_8abf5_s343 rfl rfl rfl (by decide +kernel) ⟨(Nat.le_of_ble_eq_true rfl), (Nat.le_of_ble_eq_true rfl)⟩) ⟨Wd.blind, va_recv hK hPc (ci := 1) (q0 := 0) rfl rfl, fun U hU hW => ⟨rfl, Wd.call hPc hDc hK hC hZ hS hFc U hU hW⟩⟩ rfl rfl hl.1 rfl (lv_room (Nat.le_of_ble_eq_true rfl)) dJ4_length_8abf5_1 ⟨(Nat.le_of_ble_eq_true rfl), (Nat.le_of_ble_eq_true rfl)⟩) hS (fun q _ h => hFc q h) hFc (fun rn1 u t H1 locs ht hvm hw hB hz1 hk1 hS => ?_)
  obtain ⟨hP1, hD1⟩ := hB
  rw [ht] at hP1
  obtain ⟨hP, hD⟩ := PDq.join (w := [(oJ4 o0 o1 0 mb (nI ct))]) 0 hP hD [0] [] rfl rfl (by decide) (by decide) hk1 hFc hP1 hD1 rfl
  generalize H1 = H at hP hS ⊢
  obtain rfl : rn1 = (nI ct) := hw
  obtain ⟨hP9, hD9⟩ := PDq.sub (ws' := [(oJ4 o0 o1 0 mb (nI ct))]) hP hD [0] (by decide) rfl
  refine W.widen (k := 0) (n := 0) (Nat.le_of_ble_eq_true rfl) (Nat.le_of_ble_eq_true rfl) ?_
  exact (W.iret (v := (nI ct)) hx hb hr (fun t ht hW => ⟨⟨(nI ct), (), rfl, rfl, by rw [ht]; exact hP9, hD9⟩, hS.F ht⟩) hS.2.2 dJ4_length_8abf5_4)

set_option maxHeartbeats 4000000 in
set_option maxRecDepth 100000 in
/-- newLength -/
theorem j_newLength (l : Launch) (D : va_G) (cA : Nat → ClassId) (sa : Nat → Nat) (ma : Nat) (mb9 : Nat) (mc9 : Nat) (sz : Nat) (h1 : ma ≤ 1000) (h2 : mb9 ≤ 1000) (h3 : mc9 ≤ 1000) (h4 : 0 < mb9) : Met l yJ8_newLength_cabcc wsJ8_newLength_cabcc ({ frames := 1, cells := 0, slots := 0, locals := 21 }) (va_Pc [.int (nI ma), .int (nI mb9), .int (nI mc9)] (Wd D cA sa [] sz)) (va_Qi (fun (r : Int32) (_ : Unit) => r = (nI (ma + max mb9 mc9))) (fun (_ : Unit) t => Wq D (va_A [] sz) [] t) (va_A [] sz)) 0 0 (va_A [] sz) := by
  refine Met.ofW (cc := cJ8_newLength_cabcc) (maxL := 4) (ret := (some .int)) (by decide) rfl ?_
  intro p e s m args below meth c s₁ B hml hv
  obtain ⟨rfl, hsz, hP, hK, hD0, hC, hZ⟩ := hv
  have hx := B.exec
  have hb := B.bytes
  have hr := B.returns
  have hts := atoms_spec (ws := wsJ8_newLength_cabcc) B.pre
  have hown : s.vm.findClass RJ8 = some m.cls := findClass_of_methodNamed B.named
  have hlocks := B.notSynchronized
  subst hsz
  have hD := hD0.self (sz := s.heap.size)
  generalize hAe : va_A [] s.heap.size = A at hD hZ ⊢
  have hA : ∀ q : Nat, s.heap.size ≤ q → A q := fun q h => by rw [← hAe]; exact Or.inr h
  have hS : va_S A s.heap s.heap [] := va_S.rf
  have hP : va_P D vwCl [] s.heap := hP
  have hl := lv_entry ([.int (nI ma), .int (nI mb9), .int (nI mc9)]) (n := 4) (Nat.le_of_ble_eq_true rfl)
  rw [lg_entry_eq]
  generalize (lg_sl ([.int (nI ma), .int (nI mb9), .int (nI mc9)]) ++ List.replicate (4 - (lg_sl ([.int (nI ma), .int (nI mb9), .int (nI mc9)])).length) Slot.unset).toArray = ls at hl ⊢
  have hl : lv_has ls 4 [(0, .int (nI ma)), (1, .int (nI mb9)), (2, .int (nI mc9))] := hl
  refine lv_iload_n hx hb dJ8_newLength_cabcc_0 rfl (lv_at hl 0 rfl) ?_
  refine lv_iload_n hx hb dJ8_newLength_cabcc_1 rfl (lv_at hl 1 rfl) ?_
  refine lv_iload_n hx hb dJ8_newLength_cabcc_2 rfl (lv_at hl 2 rfl) ?_
  refine va_mmax hx hb (by rw [hml]; exact hl.1.symm) hown (hts (.methodLink RJ8 194 Lib.Math.max.name) (by decide +kernel)) (hts (.static Lib.Math.max.name) (by decide +kernel)) (hts (.initialized "java/lang/Math") (by decide +kernel)) (hts (.code Lib.Math.max.name Lib.Math.max.code 2 (some .int)) (by decide +kernel)) (Nat.le_of_ble_eq_true rfl) (Nat.le_of_ble_eq_true rfl) (Nat.le_of_ble_eq_true rfl) (Nat.le_of_ble_eq_true rfl) dJ8_newLength_cabcc_3 ?_
  refine lv_topi (fun yn1 eyn1 => ?_)
  obtain rfl : yn1 = (nI (max mb9 mc9)) := eyn1.trans (nI_max (a := mb9) (b := mc9) (by omega) (by omega))
  refine lv_iadd hx hb dJ8_newLength_cabcc_6 ?_
  refine lv_topi (fun yn2 eyn2 => ?_)
  obtain rfl : yn2 = (nI (ma + (max mb9 mc9))) := eyn2.trans (nI_add ma (max mb9 mc9))
  refine lv_istore_n (lv' := [(3, .int (nI (ma + (max mb9 mc9)))), (0, .int (nI ma)), (1, .int (nI mb9)), (2, .int (nI mc9))]) hx hb dJ8_newLength_cabcc_7 rfl hl (by decide) rfl (fun ls hl => ?_)
  refine lv_iconst (v := 0) hx hb dJ8_newLength_cabcc_8 (by decide) ?_
  refine lv_iload_n hx hb dJ8_newLength_cabcc_9 rfl (lv_at hl 0 rfl) ?_
  refine lv_icmp_ge (tgt := 21) hx hb dJ8_newLength_cabcc_10 (by decide) (fun c9 => absurd c9 (nI_ge (a := 0) (b := (ma + (max mb9 mc9))) (show 0 < (ma + (max mb9 mc9)) by omega) (by omega))) (fun c3 => ?_)
  refine lv_iload_n hx hb dJ8_newLength_cabcc_13 rfl (lv_at hl 0 rfl) ?_
  refine lv_ldc (v := 2147483639) hx hb hown (hts (.constant RJ8 200 2147483639) (by decide +kernel)) dJ8_newLength_cabcc_14 ?_
  refine lv_icmp_gt (tgt := 21) hx hb dJ8_newLength_cabcc_16 (by decide) (fun c9 => absurd c9 (nI_nlt (a := 2147483639) (b := (ma + (max mb9 mc9))) (show (ma + (max mb9 mc9)) ≤ 2147483639 by omega) (by omega))) (fun c4 => ?_)
  refine lv_iload_n hx hb dJ8_newLength_cabcc_19 rfl (lv_at hl 0 rfl) ?_
  obtain ⟨hP9, hD9⟩ := PDq.sub (ws' := []) hP hD [] (by decide) rfl
  refine W.widen (k := 0) (n := 0) (Nat.le_of_ble_eq_true rfl) (Nat.le_of_ble_eq_true rfl) ?_
  exact (W.iret (v := (nI (ma + (max mb9 mc9)))) hx hb hr (fun t ht hW => ⟨⟨(nI (ma + (max mb9 mc9))), (), rfl, rfl, by rw [ht]; exact hP9, hD9⟩, hS.F ht⟩) hS.2.2 dJ8_newLength_cabcc_20)

set_option maxHeartbeats 4000000 in
set_option maxRecDepth 100000 in
/-- newCapacity -/
theorem j_newCapacity (l : Launch) (D : va_G) (cA : Nat → ClassId) (sa : Nat → Nat) (o0 : Nat) (o1 : Nat) (ct : Nat) (cp : Nat) (mb : Int32) (fy : Nat → Int32) (q9 : Nat) (sz : Nat) (hct : ct ≤ cp) (hcp : cp ≤ 126) (hfit : sb_Fit fy) (hq1 : cp < q9) (hq2 : q9 ≤ 126) : Met l yJ5_newCapacity_0f7a4 wsJ5_newCapacity_0f7a4 ({ frames := 2, cells := 0, slots := 0, locals := 44 }) (va_Pc [.ref o0, .int (nI q9)] (Wd D cA sa [(oJ4 o0 o1 0 mb (nI ct)), (o1, .inl (cA 3, cp, .inl fy))] sz)) (va_Qi (fun (r : Int32) (_ : Unit) => r = (nI (cp + max (q9 - cp) (cp + 2)))) (fun (_ : Unit) t => Wq D (va_A [(oJ4 o0 o1 0 mb (nI ct)), (o1, .inl (cA 3, cp, .inl fy))] sz) [(oJ4 o0 o1 0 mb (nI ct)), (o1, .inl (cA 3, cp, .inl fy))] t) (va_A [(oJ4 o0 o1 0 mb (nI ct)), (o1, .inl (cA 3, cp, .inl fy))] sz)) 0 0 (va_A [(oJ4 o0 o1 0 mb (nI ct)), (o1, .inl (cA 3, cp, .inl fy))] sz) := by
  refine Met.ofW (cc := cJ5_newCapacity_0f7a4) (maxL := 6) (ret := (some .int)) (by decide) rfl ?_
  intro p e s m args below meth c s₁ B hml hv
  obtain ⟨rfl, hsz, hP, hK, hD0, hC, hZ⟩ := hv
  have hx := B.exec
  have hb := B.bytes
  have hr := B.returns
  have hts := atoms_spec (ws := wsJ5_newCapacity_0f7a4) B.pre
  have hown : s.vm.findClass RJ5 = some m.cls := findClass_of_methodNamed B.named
  have hlocks := B.notSynchronized
  subst hsz
  have hD := hD0.self (sz := s.heap.size)
  generalize hAe : va_A [(oJ4 o0 o1 0 mb (nI ct)), (o1, .inl (cA 3, cp, .inl fy))] s.heap.size = A at hD hZ ⊢
  have hA : ∀ q : Nat, s.heap.size ≤ q → A q := fun q h => by rw [← hAe]; exact Or.inr h
  have hS : va_S A s.heap s.heap [] := va_S.rf
  have hP : va_P D vwCl [(oJ4 o0 o1 0 mb (nI ct)), (o1, .inl (cA 3, cp, .inl fy))] s.heap := hP
  have hl := lv_entry ([.ref o0, .int (nI q9)]) (n := 6) (Nat.le_of_ble_eq_true rfl)
  rw [lg_entry_eq]
  generalize (lg_sl ([.ref o0, .int (nI q9)]) ++ List.replicate (6 - (lg_sl ([.ref o0, .int (nI q9)])).length) Slot.unset).toArray = ls at hl ⊢
  have hl : lv_has ls 6 [(0, .ref o0), (1, .int (nI q9))] := hl
  have inJ4 : ∀ w ∈ u_ws RJ4 TJ4 4, w ∈ wsJ5_newCapacity_0f7a4 := by decide +kernel
  refine lv_aload_n hx hb dJ5_newCapacity_0f7a4_0 rfl (lv_at hl 0 rfl) ?_
  refine va_get (D := D) (ci := 1) (v := .ref o1) (C := RJ4) (T := TJ4) (N := 4) hx hb hts inJ4 hown hK hP 0 rfl rfl 0 (by decide) (hts (.fieldLink RJ5 15 "java/lang/AbstractStringBuilder" "value" "[B") (by decide +kernel)) (fun _ h9 => h9) rfl dJ5_newCapacity_0f7a4_1 ?_
  refine va_alen (v := (nI cp)) hx hb hK hP 1 3 rfl rfl rfl dJ5_newCapacity_0f7a4_4 ?_
  refine lv_istore_n (lv' := [(2, .int (nI cp)), (0, .ref o0), (1, .int (nI q9))]) hx hb dJ5_newCapacity_0f7a4_5 rfl hl (by decide) rfl (fun ls hl => ?_)
  refine lv_iload_n hx hb dJ5_newCapacity_0f7a4_6 rfl (lv_at hl 2 rfl) ?_
  refine lv_aload_n hx hb dJ5_newCapacity_0f7a4_7 rfl (lv_at hl 1 rfl) ?_
  refine va_get (D := D) (ci := 1) (v := .int 0) (C := RJ4) (T := TJ4) (N := 4) hx hb hts inJ4 hown hK hP 0 rfl rfl 1 (by decide) (hts (.fieldLink RJ5 22 "java/lang/AbstractStringBuilder" "coder" "B") (by decide +kernel)) (fun _ h9 => h9) rfl dJ5_newCapacity_0f7a4_8 ?_
  refine lv_ishl hx hb dJ5_newCapacity_0f7a4_11 ?_
  refine lv_topi (fun yn1 eyn1 => ?_)
  obtain rfl : yn1 = (nI q9) := eyn1.trans (sb_shl0 _)
  refine lv_istore_n (lv' := [(3, .int (nI q9)), (2, .int (nI cp)), (0, .ref o0), (1, .int (nI q9))]) hx hb dJ5_newCapacity_0f7a4_12 rfl hl (by decide) rfl (fun ls hl => ?_)
  refine lv_iload_n hx hb dJ5_newCapacity_0f7a4_13 rfl (lv_at hl 0 rfl) ?_
  refine lv_iload_n hx hb dJ5_newCapacity_0f7a4_14 rfl (lv_at hl 1 rfl) ?_
  refine lv_isub hx hb dJ5_newCapacity_0f7a4_15 ?_
  refine lv_topi (fun yn2 eyn2 => ?_)
  obtain rfl : yn2 = (nI (q9 - cp)) := eyn2.trans (nI_sub (a := q9) (b := cp) (by omega))
  refine lv_istore (lv' := [(4, .int (nI (q9 - cp))), (3, .int (nI q9)), (2, .int (nI cp)), (0, .ref o0), (1, .int (nI q9))]) hx hb dJ5_newCapacity_0f7a4_16 hl (by decide) rfl (fun ls hl => ?_)
  refine lv_iload_n hx hb dJ5_newCapacity_0f7a4_18 rfl (lv_at hl 2 rfl) ?_
  refine lv_iload hx hb dJ5_newCapacity_0f7a4_19 (lv_at hl 0 rfl) ?_
  refine lv_iload_n hx hb dJ5_newCapacity_0f7a4_21 rfl (lv_at hl 2 rfl) ?_
  refine lv_iconst (v := 2) hx hb dJ5_newCapacity_0f7a4_22 (by decide) ?_
  refine lv_aload_n hx hb dJ5_newCapacity_0f7a4_23 rfl (lv_at hl 3 rfl) ?_
  refine va_get (D := D) (ci := 1) (v := .int 0) (C := RJ4) (T := TJ4) (N := 4) hx hb hts inJ4 hown hK hP 0 rfl rfl 1 (by decide) (hts (.fieldLink RJ5 22 "java/lang/AbstractStringBuilder" "coder" "B") (by decide +kernel)) (fun _ h9 => h9) rfl dJ5_newCapacity_0f7a4_24 ?_
  refine lv_ishl hx hb dJ5_newCapacity_0f7a4_27 ?_
  refine lv_topi (fun yn3 eyn3 => ?_)
  obtain rfl : yn3 = 2 := eyn3.trans (by first | rfl | decide +kernel)
  refine lv_iadd hx hb dJ5_newCapacity_0f7a4_28 ?_
  refine lv_topi (fun yn4 eyn4 => ?_)
  obtain rfl : yn4 = (nI (cp + 2)) := eyn4.trans (nI_add cp 2)
  obtain ⟨hPc, hDc, hFc⟩ := PDq.cut (wc := []) hP hD hS hA [] (by decide) rfl
  refine va_calli (va_runS (As := [.int (nI cp), .int (nI (q9 - cp)), .int (nI (cp + 2))]) (rest := []) ⟨hx, hb, hml, hown, hts⟩ (j_newLength l D cA sa cp (q9 - cp) (cp + 2) s.heap.size (by omega) (by omega) (by omega) (by omega)) (va_cwS 3 hts gJ5_newCapacity_0f7a4_J8_newLength_cabcc rfl rfl rfl (by decide +kernel) ⟨(Nat.le_of_ble_eq_true rfl), (Nat.le_of_ble_eq_true rfl)⟩) ⟨Wd.blind, fun U hU hW => ⟨rfl, Wd.call hPc hDc hK hC hZ hS hFc U hU hW⟩⟩ rfl rfl hl.1 rfl (lv_room (Nat.le_of_ble_eq_true rfl)) dJ5_newCapacity_0f7a4_29 ⟨(Nat.le_of_ble_eq_true rfl), (Nat.le_of_ble_eq_true rfl)⟩) hS (fun q _ h => hFc q h) hFc (fun rn5 u t H1 locs ht hvm hw hB hz1 hk1 hS => ?_)
  obtain ⟨hP1, hD1⟩ := hB
  rw [ht] at hP1
  obtain ⟨hP, hD⟩ := PDq.join (w := [(oJ4 o0 o1 0 mb (nI ct)), (o1, .inl (cA 3, cp, .inl fy))]) 2 hP hD [] [0, 1] rfl rfl (by decide) (by decide) hk1 hFc hP1 hD1 rfl
  generalize H1 = H at hP hS ⊢
  obtain rfl : rn5 = (nI (cp + max (q9 - cp) (cp + 2))) := hw
  refine lv_istore (lv' := [(5, .int (nI (cp + max (q9 - cp) (cp + 2)))), (4, .int (nI (q9 - cp))), (3, .int (nI q9)), (2, .int (nI cp)), (0, .ref o0), (1, .int (nI q9))]) hx hb dJ5_newCapacity_0f7a4_32 hl (by decide) rfl (fun ls hl => ?_)
  refine lv_iload hx hb dJ5_newCapacity_0f7a4_34 (lv_at hl 0 rfl) ?_
  refine lv_ldc (v := 2147483647) hx hb hown (hts (.constant RJ5 39 2147483647) (by decide +kernel)) dJ5_newCapacity_0f7a4_36 ?_
  refine lv_icmp_ne (tgt := 51) hx hb dJ5_newCapacity_0f7a4_38 (by decide) (fun c6 => ?_) (fun c9 => absurd c9 ((fun e9 => absurd ((nI_eq (a := (cp + max (q9 - cp) (cp + 2))) (b := 2147483647) (by omega) (by omega)).mp e9) (by omega))))
  refine lv_iload hx hb dJ5_newCapacity_0f7a4_51 (lv_at hl 0 rfl) ?_
  refine lv_aload_n hx hb dJ5_newCapacity_0f7a4_53 rfl (lv_at hl 4 rfl) ?_
  refine va_get (D := D) (ci := 1) (v := .int 0) (C := RJ4) (T := TJ4) (N := 4) hx hb hts inJ4 hown hK hP 0 rfl rfl 1 (by decide) (hts (.fieldLink RJ5 22 "java/lang/AbstractStringBuilder" "coder" "B") (by decide +kernel)) (fun _ h9 => h9) rfl dJ5_newCapacity_0f7a4_54 ?_
  refine lv_ishr hx hb dJ5_newCapacity_0f7a4_57 ?_
  refine lv_topi (fun yn7 eyn7 => ?_)
  obtain rfl : yn7 = (nI (cp + max (q9 - cp) (cp + 2))) := eyn7.trans (sb_shr0 _)
  obtain ⟨hP9, hD9⟩ := PDq.sub (ws' := [(oJ4 o0 o1 0 mb (nI ct)), (o1, .inl (cA 3, cp, .inl fy))]) hP hD [0, 1] (by decide) rfl
  refine W.widen (k := 0) (n := 0) (Nat.le_of_ble_eq_true rfl) (Nat.le_of_ble_eq_true rfl) ?_
  exact (W.iret (v := (nI (cp + max (q9 - cp) (cp + 2)))) hx hb hr (fun t ht hW => ⟨⟨(nI (cp + max (q9 - cp) (cp + 2))), (), rfl, rfl, by rw [ht]; exact hP9, hD9⟩, hS.F ht⟩) hS.2.2 dJ5_newCapacity_0f7a4_58)

set_option maxHeartbeats 4000000 in
set_option maxRecDepth 100000 in
/-- Arrays.copyOf -/
theorem j_copyOf (l : Launch) (D : va_G) (cA : Nat → ClassId) (sa : Nat → Nat) (o1 : Nat) (cp : Nat) (fy : Nat → Int32) (q9 : Nat) (sz : Nat) (hcp : cp ≤ 126) (hfit : sb_Fit fy) (hq1 : cp < q9) (hq2 : q9 ≤ 260) : Met l yJ7_copyOf_9075b wsJ7_copyOf_9075b ({ frames := 1, cells := 1, slots := 260, locals := 60 }) (va_Pc [.ref o1, .int (nI q9)] (Wd D cA sa [(o1, .inl (cA 3, cp, .inl fy))] sz)) (va_Qr (fun _ : Unit => True) (fun (_ : Unit) (a9 : Nat) t => ∃ zy : Nat → Int32, sb_Fit zy ∧ Wq D (va_A [(o1, .inl (cA 3, cp, .inl fy))] sz) [(a9, .inl (cA 3, q9, .inl zy))] t) (va_A [(o1, .inl (cA 3, cp, .inl fy))] sz)) 1 260 (va_A [(o1, .inl (cA 3, cp, .inl fy))] sz) := by
  refine Met.ofW (cc := cJ7_copyOf_9075b) (maxL := 3) (ret := (some (.array .byte))) (by decide) rfl ?_
  intro p e s m args below meth c s₁ B hml hv
  obtain ⟨rfl, hsz, hP, hK, hD0, hC, hZ⟩ := hv
  have hx := B.exec
  have hb := B.bytes
  have hr := B.returns
  have hts := atoms_spec (ws := wsJ7_copyOf_9075b) B.pre
  have hown : s.vm.findClass RJ7 = some m.cls := findClass_of_methodNamed B.named
  have hlocks := B.notSynchronized
  subst hsz
  have hD := hD0.self (sz := s.heap.size)
  generalize hAe : va_A [(o1, .inl (cA 3, cp, .inl fy))] s.heap.size = A at hD hZ ⊢
  have hA : ∀ q : Nat, s.heap.size ≤ q → A q := fun q h => by rw [← hAe]; exact Or.inr h
  have hS : va_S A s.heap s.heap [] := va_S.rf
  have hP : va_P D vwCl [(o1, .inl (cA 3, cp, .inl fy))] s.heap := hP
  have hl := lv_entry ([.ref o1, .int (nI q9)]) (n := 3) (Nat.le_of_ble_eq_true rfl)
  rw [lg_entry_eq]
  generalize (lg_sl ([.ref o1, .int (nI q9)]) ++ List.replicate (3 - (lg_sl ([.ref o1, .int (nI q9)])).length) Slot.unset).toArray = ls at hl ⊢
  have hl : lv_has ls 3 [(0, .ref o1), (1, .int (nI q9))] := hl
  refine lv_iload_n hx hb dJ7_copyOf_9075b_0 rfl (lv_at hl 1 rfl) ?_
  refine lv_aload_n hx hb dJ7_copyOf_9075b_1 rfl (lv_at hl 0 rfl) ?_
  refine va_alen (v := (nI cp)) hx hb hK hP 0 3 rfl rfl rfl dJ7_copyOf_9075b_2 ?_
  refine lv_icmp_ne (tgt := 14) hx hb dJ7_copyOf_9075b_3 (by decide) (fun c1 => ?_) (fun c9 => absurd c9 ((fun e9 => absurd ((nI_eq (a := q9) (b := cp) (by omega) (by omega)).mp e9) (by omega))))
  refine lv_iload_n hx hb dJ7_copyOf_9075b_14 rfl (lv_at hl 1 rfl) ?_
  refine va_newa (atype := .byte) (ty := .byte) (N' := q9) (a0 := (q9, .inl (fun _ => 0))) hx hb (hts (.arrayClass .byte) (by decide +kernel)) rfl hK hP hD hS hA (fun _ => rfl) (nI_pos (by omega)) (nI_clamp (by omega)) (by show q9 * 1 ≤ 536870912; omega) (Nat.le_of_ble_eq_true rfl) (by show 0 + q9 ≤ 260; omega) dJ7_copyOf_9075b_15 (fun qn2 c9 H hK9 hP hD hS => ?_)
  obtain rfl : c9 = cA 3 := ty_one hK9 3 rfl
  refine W.widen (k := 1) (n := 260) (Nat.le_refl _) (by omega) ?_
  obtain ⟨hP, hD⟩ : PDq D A [(o1, .inl (cA 3, cp, .inl fy)), (qn2, .inl (cA 3, q9, .inl (fun _ => 0)))] H := ⟨hP, hD⟩
  refine lv_astore_n (lv' := [(2, .ref qn2), (0, .ref o1), (1, .int (nI q9))]) hx hb dJ7_copyOf_9075b_17 rfl hl (by decide) rfl (fun ls hl => ?_)
  refine lv_aload_n hx hb dJ7_copyOf_9075b_18 rfl (lv_at hl 1 rfl) ?_
  refine lv_iconst (v := 0) hx hb dJ7_copyOf_9075b_19 (by decide) ?_
  refine lv_aload_n hx hb dJ7_copyOf_9075b_20 rfl (lv_at hl 0 rfl) ?_
  refine lv_iconst (v := 0) hx hb dJ7_copyOf_9075b_21 (by decide) ?_
  refine lv_aload_n hx hb dJ7_copyOf_9075b_22 rfl (lv_at hl 1 rfl) ?_
  refine va_alen (v := (nI cp)) hx hb hK hP 0 3 rfl rfl rfl dJ7_copyOf_9075b_23 ?_
  refine lv_iload_n hx hb dJ7_copyOf_9075b_24 rfl (lv_at hl 2 rfl) ?_
  refine va_mmin hx hb (by rw [hml]; exact hl.1.symm) hown (hts (.methodLink RJ7 304 Lib.Math.min.name) (by decide +kernel)) (hts (.static Lib.Math.min.name) (by decide +kernel)) (hts (.initialized "java/lang/Math") (by decide +kernel)) (hts (.code Lib.Math.min.name Lib.Math.min.code 2 (some .int)) (by decide +kernel)) (Nat.le_of_ble_eq_true rfl) (Nat.le_of_ble_eq_true rfl) (Nat.le_of_ble_eq_true rfl) (Nat.le_of_ble_eq_true rfl) dJ7_copyOf_9075b_25 ?_
  refine lv_topi (fun yn3 eyn3 => ?_)
  obtain rfl : yn3 = (nI (min cp q9)) := eyn3.trans (nI_min (a := cp) (b := q9) (by omega) (by omega))
  refine va_copyi hx hb (by rw [hml]; exact hl.1.symm) hown (hts (.methodLink RJ7 150 arraycopyName) (by decide +kernel)) (hts (.native arraycopyName) (by decide +kernel)) (hts (.static arraycopyName) (by decide +kernel)) (hts (.initialized "java/lang/System") (by decide +kernel)) hK hP hD hS 0 1 3 3 rfl rfl rfl rfl rfl (by decide) (by decide) (nI_pos (by omega)) (by rw [(show (0 : Int32).toNatClampNeg = 0 from by decide), (show ((nI (min cp q9)) : Int32).toNatClampNeg = (min cp q9) from nI_clamp (by omega))]; omega) (by rw [(show (0 : Int32).toNatClampNeg = 0 from by decide), (show ((nI (min cp q9)) : Int32).toNatClampNeg = (min cp q9) from nI_clamp (by omega))]; omega) (fun i9 _ => hfit _) (Nat.le_of_ble_eq_true rfl) (Nat.le_of_ble_eq_true rfl) dJ7_copyOf_9075b_28 (fun H locs hP hD hS => ?_)
  obtain ⟨hP, hD⟩ : PDq D A [(o1, .inl (cA 3, cp, .inl fy)), (qn2, .inl (cA 3, q9, .inl (va_cpy fy (fun _ => 0) 0 0 (((nI (min cp q9))).toNatClampNeg))))] H := ⟨hP, hD⟩
  have hn5 : sb_Fit (va_cpy fy (fun _ => 0) 0 0 (((nI (min cp q9))).toNatClampNeg)) := sb_fitC hfit sb_fit0
  generalize (va_cpy fy (fun _ => 0) 0 0 (((nI (min cp q9))).toNatClampNeg)) = fn4 at hP hD hn5
  obtain ⟨hP, hD⟩ : PDq D A [(o1, .inl (cA 3, cp, .inl fy)), (qn2, .inl (cA 3, q9, .inl fn4))] H := ⟨hP, hD⟩
  refine lv_aload_n hx hb dJ7_copyOf_9075b_31 rfl (lv_at hl 0 rfl) ?_
  obtain ⟨hP9, hD9⟩ := PDq.sub (ws' := [(qn2, .inl (cA 3, q9, .inl fn4))]) hP hD [1] (by decide) rfl
  refine W.widen (k := 1) (n := 260) (Nat.le_of_ble_eq_true rfl) (Nat.le_of_ble_eq_true rfl) ?_
  exact (W.aret (v := .ref qn2) hx hb hr (Or.inr ⟨_, rfl⟩) (Or.inr ⟨_, rfl⟩) (fun t ht hW => ⟨⟨(), qn2, rfl, trivial, fn4, hn5, by rw [ht]; exact hP9, hD9⟩, hS.F ht⟩) hS.2.2 dJ7_copyOf_9075b_32)

set_option maxHeartbeats 4000000 in
set_option maxRecDepth 100000 in
/-- ensureCapacityInternal -/
theorem j_ensure (l : Launch) (D : va_G) (cA : Nat → ClassId) (sa : Nat → Nat) (o0 : Nat) (o1 : Nat) (ct : Nat) (cp : Nat) (mb : Int32) (fy : Nat → Int32) (q9 : Nat) (sz : Nat) (hct : ct ≤ cp) (hcp : cp ≤ 126) (hfit : sb_Fit fy) (hq2 : q9 ≤ 62) : Met l yJ5_ensureCapacityInternal_d00df wsJ5_ensureCapacityInternal_d00df ({ frames := 3, cells := 1, slots := 260, locals := 82 }) (va_Pc [.ref o0, .int (nI q9)] (Wd D cA sa [(oJ4 o0 o1 0 mb (nI ct)), (o1, .inl (cA 3, cp, .inl fy))] sz)) (va_Qv (fun _ : Unit => True) (fun (_ : Unit) t => ∃ z1 : Nat, ∃ cp2 : Nat, ∃ zy : Nat → Int32, q9 ≤ cp2 ∧ cp ≤ cp2 ∧ cp2 ≤ 126 ∧ sb_Fit zy ∧ Wq D (va_A [(oJ4 o0 o1 0 mb (nI ct)), (o1, .inl (cA 3, cp, .inl fy))] sz) [(oJ4 o0 z1 0 mb (nI ct)), (z1, .inl (cA 3, cp2, .inl zy))] t) (va_A [(oJ4 o0 o1 0 mb (nI ct)), (o1, .inl (cA 3, cp, .inl fy))] sz)) 1 260 (va_A [(oJ4 o0 o1 0 mb (nI ct)), (o1, .inl (cA 3, cp, .inl fy))] sz) := by
  refine Met.ofW (cc := cJ5_ensureCapacityInternal_d00df) (maxL := 3) (ret := none) (by decide) rfl ?_
  intro p e s m args below meth c s₁ B hml hv
  obtain ⟨rfl, hsz, hP, hK, hD0, hC, hZ⟩ := hv
  have hx := B.exec
  have hb := B.bytes
  have hr := B.returns
  have hts := atoms_spec (ws := wsJ5_ensureCapacityInternal_d00df) B.pre
  have hown : s.vm.findClass RJ5 = some m.cls := findClass_of_methodNamed B.named
  have hlocks := B.notSynchronized
  subst hsz
  have hD := hD0.self (sz := s.heap.size)
  generalize hAe : va_A [(oJ4 o0 o1 0 mb (nI ct)), (o1, .inl (cA 3, cp, .inl fy))] s.heap.size = A at hD hZ ⊢
  have hA : ∀ q : Nat, s.heap.size ≤ q → A q := fun q h => by rw [← hAe]; exact Or.inr h
  have hS : va_S A s.heap s.heap [] := va_S.rf
  have hP : va_P D vwCl [(oJ4 o0 o1 0 mb (nI ct)), (o1, .inl (cA 3, cp, .inl fy))] s.heap := hP
  have hl := lv_entry ([.ref o0, .int (nI q9)]) (n := 3) (Nat.le_of_ble_eq_true rfl)
  rw [lg_entry_eq]
  generalize (lg_sl ([.ref o0, .int (nI q9)]) ++ List.replicate (3 - (lg_sl ([.ref o0, .int (nI q9)])).length) Slot.unset).toArray = ls at hl ⊢
  have hl : lv_has ls 3 [(0, .ref o0), (1, .int (nI q9))] := hl
  have inJ4 : ∀ w ∈ u_ws RJ4 TJ4 4, w ∈ wsJ5_ensureCapacityInternal_d00df := by decide +kernel
  refine lv_aload_n hx hb dJ5_ensureCapacityInternal_d00df_0 rfl (lv_at hl 0 rfl) ?_
  refine va_get (D := D) (ci := 1) (v := .ref o1) (C := RJ4) (T := TJ4) (N := 4) hx hb hts inJ4 hown hK hP 0 rfl rfl 0 (by decide) (hts (.fieldLink RJ5 15 "java/lang/AbstractStringBuilder" "value" "[B") (by decide +kernel)) (fun _ h9 => h9) rfl dJ5_ensureCapacityInternal_d00df_1 ?_
  refine va_alen (v := (nI cp)) hx hb hK hP 1 3 rfl rfl rfl dJ5_ensureCapacityInternal_d00df_4 ?_
  refine lv_aload_n hx hb dJ5_ensureCapacityInternal_d00df_5 rfl (lv_at hl 0 rfl) ?_
  refine va_get (D := D) (ci := 1) (v := .int 0) (C := RJ4) (T := TJ4) (N := 4) hx hb hts inJ4 hown hK hP 0 rfl rfl 1 (by decide) (hts (.fieldLink RJ5 22 "java/lang/AbstractStringBuilder" "coder" "B") (by decide +kernel)) (fun _ h9 => h9) rfl dJ5_ensureCapacityInternal_d00df_6 ?_
  refine lv_ishr hx hb dJ5_ensureCapacityInternal_d00df_9 ?_
  refine lv_topi (fun yn1 eyn1 => ?_)
  obtain rfl : yn1 = (nI cp) := eyn1.trans (sb_shr0 _)
  refine lv_istore_n (lv' := [(2, .int (nI cp)), (0, .ref o0), (1, .int (nI q9))]) hx hb dJ5_ensureCapacityInternal_d00df_10 rfl hl (by decide) rfl (fun ls hl => ?_)
  refine lv_iload_n hx hb dJ5_ensureCapacityInternal_d00df_11 rfl (lv_at hl 2 rfl) ?_
  refine lv_iload_n hx hb dJ5_ensureCapacityInternal_d00df_12 rfl (lv_at hl 0 rfl) ?_
  rcases Nat.lt_or_ge cp q9 with hn2 | hn2
  · skip
    refine lv_isub hx hb dJ5_ensureCapacityInternal_d00df_13 ?_
    refine lv_topi (fun yn3 eyn3 => ?_)
    obtain rfl : yn3 = (nI (q9 - cp)) := eyn3.trans (nI_sub (a := q9) (b := cp) (by omega))
    refine lv_if_le (tgt := 38) hx hb dJ5_ensureCapacityInternal_d00df_14 (by decide) (fun c9 => absurd c9 (nI_ge (a := 0) (b := (q9 - cp)) (show 0 < (q9 - cp) by omega) (by omega))) (fun c4 => ?_)
    refine lv_aload_n hx hb dJ5_ensureCapacityInternal_d00df_17 rfl (lv_at hl 1 rfl) ?_
    refine lv_aload_n hx hb dJ5_ensureCapacityInternal_d00df_18 rfl (lv_at hl 1 rfl) ?_
    refine va_get (D := D) (ci := 1) (v := .ref o1) (C := RJ4) (T := TJ4) (N := 4) hx hb hts inJ4 hown hK hP 0 rfl rfl 0 (by decide) (hts (.fieldLink RJ5 15 "java/lang/AbstractStringBuilder" "value" "[B") (by decide +kernel)) (fun _ h9 => h9) rfl dJ5_ensureCapacityInternal_d00df_19 ?_
    refine lv_aload_n hx hb dJ5_ensureCapacityInternal_d00df_22 rfl (lv_at hl 1 rfl) ?_
    refine lv_iload_n hx hb dJ5_ensureCapacityInternal_d00df_23 rfl (lv_at hl 2 rfl) ?_
    obtain ⟨hPc, hDc, hFc⟩ := PDq.cut (wc := [(oJ4 o0 o1 0 mb (nI ct)), (o1, .inl (cA 3, cp, .inl fy))]) hP hD hS hA [0, 1] (by decide) rfl
    refine va_calli (va_runU (As := [.int (nI q9)]) (rest := [.ref o1, .ref o0]) ⟨hx, hb, hml, hown, hts⟩ (j_newCapacity l D cA sa o0 o1 ct cp mb fy q9 s.heap.size hct hcp hfit hn2 (by omega)) (va_cwU 1 hts gJ5_ensureCapacityInternal_d00df_J5_newCapacity_0f7a4_u104J4 rfl rfl rfl rfl (by decide +kernel) ⟨(Nat.le_of_ble_eq_true rfl), (Nat.le_of_ble_eq_true rfl)⟩) ⟨Wd.blind, va_recv hK hPc (ci := 1) (q0 := 0) rfl rfl, fun U hU hW => ⟨rfl, Wd.call hPc hDc hK hC hZ hS hFc U hU hW⟩⟩ rfl rfl hl.1 rfl (lv_room (Nat.le_of_ble_eq_true rfl)) dJ5_ensureCapacityInternal_d00df_24 ⟨(Nat.le_of_ble_eq_true rfl), (Nat.le_of_ble_eq_true rfl)⟩) hS (fun q _ h => hFc q h) hFc (fun rn5 u t H1 locs ht hvm hw hB hz1 hk1 hS => ?_)
    obtain ⟨hP1, hD1⟩ := hB
    rw [ht] at hP1
    obtain ⟨hP, hD⟩ := PDq.join (w := [(oJ4 o0 o1 0 mb (nI ct)), (o1, .inl (cA 3, cp, .inl fy))]) 0 hP hD [0, 1] [] rfl rfl (by decide) (by decide) hk1 hFc hP1 hD1 rfl
    generalize H1 = H at hP hS ⊢
    obtain rfl : rn5 = (nI (cp + max (q9 - cp) (cp + 2))) := hw
    refine lv_aload_n hx hb dJ5_ensureCapacityInternal_d00df_27 rfl (lv_at hl 1 rfl) ?_
    refine va_get (D := D) (ci := 1) (v := .int 0) (C := RJ4) (T := TJ4) (N := 4) hx hb hts inJ4 hown hK hP 0 rfl rfl 1 (by decide) (hts (.fieldLink RJ5 22 "java/lang/AbstractStringBuilder" "coder" "B") (by decide +kernel)) (fun _ h9 => h9) rfl dJ5_ensureCapacityInternal_d00df_28 ?_
    refine lv_ishl hx hb dJ5_ensureCapacityInternal_d00df_31 ?_
    refine lv_topi (fun yn6 eyn6 => ?_)
    obtain rfl : yn6 = (nI (cp + max (q9 - cp) (cp + 2))) := eyn6.trans (sb_shl0 _)
    obtain ⟨hPc, hDc, hFc⟩ := PDq.cut (wc := [(o1, .inl (cA 3, cp, .inl fy))]) hP hD hS hA [1] (by decide) rfl
    refine va_callr (va_runS (As := [.ref o1, .int (nI (cp + max (q9 - cp) (cp + 2)))]) (rest := [.ref o0]) ⟨hx, hb, hml, hown, hts⟩ (j_copyOf l D cA sa o1 cp fy (cp + max (q9 - cp) (cp + 2)) H.size hcp hfit (by omega) (by omega)) (va_cwS 2 hts gJ5_ensureCapacityInternal_d00df_J7_copyOf_9075b rfl rfl rfl (by decide +kernel) ⟨(Nat.le_of_ble_eq_true rfl), (Nat.le_of_ble_eq_true rfl)⟩) ⟨Wd.blind, fun U hU hW => ⟨rfl, Wd.call hPc hDc hK hC hZ hS hFc U hU hW⟩⟩ rfl rfl hl.1 rfl (lv_room (Nat.le_of_ble_eq_true rfl)) dJ5_ensureCapacityInternal_d00df_32 ⟨(Nat.le_of_ble_eq_true rfl), (Nat.le_of_ble_eq_true rfl)⟩) hS (fun q _ h => hFc q h) hFc (fun u qn7 t H1 locs ht hvm hw hB hz1 hk1 hS => ?_)
    obtain ⟨fn8, hn9, hP1, hD1⟩ := hB
    rw [ht] at hP1
    obtain ⟨hP, hD⟩ := PDq.join (w := [(oJ4 o0 o1 0 mb (nI ct)), (qn7, .inl (cA 3, (cp + max (q9 - cp) (cp + 2)), .inl fn8))]) 1 hP hD [1] [0] rfl rfl (by decide) (by decide) hk1 hFc hP1 hD1 rfl
    generalize H1 = H at hP hS ⊢
    refine va_put (D := D) (ci := 1) (v := .ref qn7) (ty := (.array .byte)) (C := RJ4) (T := TJ4) (N := 4) hx hb hts inJ4 tyJ4 tyJ4_ok nmJ4 hown hK hP hD hS 0 rfl rfl 0 (by decide) (hts (.fieldLink RJ5 15 "java/lang/AbstractStringBuilder" "value" "[B") (by decide +kernel)) (fun _ h9 => h9) rfl (by decide +kernel) rfl rfl (Nat.le_of_ble_eq_true rfl) dJ5_ensureCapacityInternal_d00df_35 (fun H locs hP hD hS => ?_)
    obtain ⟨hP, hD⟩ : PDq D A [(oJ4 o0 qn7 0 mb (nI ct)), (qn7, .inl (cA 3, (cp + max (q9 - cp) (cp + 2)), .inl fn8))] H := ⟨hP, hD⟩
    obtain ⟨hP9, hD9⟩ := PDq.sub (ws' := [(oJ4 o0 qn7 0 mb (nI ct)), (qn7, .inl (cA 3, (cp + max (q9 - cp) (cp + 2)), .inl fn8))]) hP hD [0, 1] (by decide) rfl
    refine W.widen (k := 1) (n := 260) (Nat.le_of_ble_eq_true rfl) (Nat.le_of_ble_eq_true rfl) ?_
    exact (W.vret hx hb hr (fun t ht hW => ⟨⟨(), rfl, trivial, qn7, (cp + max (q9 - cp) (cp + 2)), fn8, (by omega), (by omega), (by omega), hn9, by rw [ht]; exact hP9, hD9⟩, hS.F ht⟩) hS.2.2 dJ5_ensureCapacityInternal_d00df_38)
  · skip
    refine lv_isub hx hb dJ5_ensureCapacityInternal_d00df_13 ?_
    refine lv_topi (fun yn10 eyn10 => ?_)
    refine lv_if_le (tgt := 38) hx hb dJ5_ensureCapacityInternal_d00df_14 (by decide) (fun c11 => ?_) (fun c9 => absurd c9 (fun h9 => h9 (by rw [eyn10]; exact nI_subneg hn2 (by omega))))
    obtain ⟨hP9, hD9⟩ := PDq.sub (ws' := [(oJ4 o0 o1 0 mb (nI ct)), (o1, .inl (cA 3, cp, .inl fy))]) hP hD [0, 1] (by decide) rfl
    refine W.widen (k := 1) (n := 260) (Nat.le_of_ble_eq_true rfl) (Nat.le_of_ble_eq_true rfl) ?_
    exact (W.vret hx hb hr (fun t ht hW => ⟨⟨(), rfl, trivial, o1, cp, fy, hn2, (by omega), hcp, hfit, by rw [ht]; exact hP9, hD9⟩, hS.F ht⟩) hS.2.2 dJ5_ensureCapacityInternal_d00df_38)

set_option maxHeartbeats 4000000 in
set_option maxRecDepth 100000 in
/-- append(char) -/
theorem j_appendC5 (l : Launch) (D : va_G) (cA : Nat → ClassId) (sa : Nat → Nat) (o0 : Nat) (o1 : Nat) (ct : Nat) (cp : Nat) (mb : Int32) (fy : Nat → Int32) (ch : Nat) (sz : Nat) (hct : ct ≤ cp) (hcp : cp ≤ 126) (hfit : sb_Fit fy) (hch : ch < 256) (hc1 : ct + 1 ≤ 62) : Met l yJ5_append_3fe6f wsJ5_append_3fe6f ({ frames := 4, cells := 1, slots := 260, locals := 104 }) (va_Pc [.ref o0, .int (nI ch)] (Wd D cA sa [(oJ4 o0 o1 0 mb (nI ct)), (o1, .inl (cA 3, cp, .inl fy))] sz)) (va_Qr (fun _ : Unit => True) (fun (_ : Unit) (a9 : Nat) t => a9 = o0 ∧ ∃ z1 : Nat, ∃ cp2 : Nat, ∃ zy : Nat → Int32, ct + 1 ≤ cp2 ∧ cp2 ≤ 126 ∧ sb_Fit zy ∧ Wq D (va_A [(oJ4 o0 o1 0 mb (nI ct)), (o1, .inl (cA 3, cp, .inl fy))] sz) [(oJ4 o0 z1 0 mb (nI (ct + 1))), (z1, .inl (cA 3, cp2, .inl zy))] t) (va_A [(oJ4 o0 o1 0 mb (nI ct)), (o1, .inl (cA 3, cp, .inl fy))] sz)) 1 260 (va_A [(oJ4 o0 o1 0 mb (nI ct)), (o1, .inl (cA 3, cp, .inl fy))] sz) := by
  refine Met.ofW (cc := cJ5_append_3fe6f) (maxL := 2) (ret := (some (.object "java/lang/AbstractStringBuilder"))) (by decide) rfl ?_
  intro p e s m args below meth c s₁ B hml hv
  obtain ⟨rfl, hsz, hP, hK, hD0, hC, hZ⟩ := hv
  have hx := B.exec
  have hb := B.bytes
  have hr := B.returns
  have hts := atoms_spec (ws := wsJ5_append_3fe6f) B.pre
  have hown : s.vm.findClass RJ5 = some m.cls := findClass_of_methodNamed B.named
  have hlocks := B.notSynchronized
  subst hsz
  have hD := hD0.self (sz := s.heap.size)
  generalize hAe : va_A [(oJ4 o0 o1 0 mb (nI ct)), (o1, .inl (cA 3, cp, .inl fy))] s.heap.size = A at hD hZ ⊢
  have hA : ∀ q : Nat, s.heap.size ≤ q → A q := fun q h => by rw [← hAe]; exact Or.inr h
  have hS : va_S A s.heap s.heap [] := va_S.rf
  have hP : va_P D vwCl [(oJ4 o0 o1 0 mb (nI ct)), (o1, .inl (cA 3, cp, .inl fy))] s.heap := hP
  have hl := lv_entry ([.ref o0, .int (nI ch)]) (n := 2) (Nat.le_of_ble_eq_true rfl)
  rw [lg_entry_eq]
  generalize (lg_sl ([.ref o0, .int (nI ch)]) ++ List.replicate (2 - (lg_sl ([.ref o0, .int (nI ch)])).length) Slot.unset).toArray = ls at hl ⊢
  have hl : lv_has ls 2 [(0, .ref o0), (1, .int (nI ch))] := hl
  have inJ4 : ∀ w ∈ u_ws RJ4 TJ4 4, w ∈ wsJ5_append_3fe6f := by decide +kernel
  refine lv_aload_n hx hb dJ5_append_3fe6f_0 rfl (lv_at hl 0 rfl) ?_
  refine lv_aload_n hx hb dJ5_append_3fe6f_1 rfl (lv_at hl 0 rfl) ?_
  refine va_get (D := D) (ci := 1) (v := .int (nI ct)) (C := RJ4) (T := TJ4) (N := 4) hx hb hts inJ4 hown hK hP 0 rfl rfl 3 (by decide) (hts (.fieldLink RJ5 79 "java/lang/AbstractStringBuilder" "count" "I") (by decide +kernel)) (fun _ h9 => h9) rfl dJ5_append_3fe6f_2 ?_
  refine lv_iconst (v := 1) hx hb dJ5_append_3fe6f_5 (by decide) ?_
  refine lv_iadd hx hb dJ5_append_3fe6f_6 ?_
  refine lv_topi (fun yn1 eyn1 => ?_)
  obtain rfl : yn1 = (nI (ct + 1)) := eyn1.trans (nI_add ct 1)
  obtain ⟨hPc, hDc, hFc⟩ := PDq.cut (wc := [(oJ4 o0 o1 0 mb (nI ct)), (o1, .inl (cA 3, cp, .inl fy))]) hP hD hS hA [0, 1] (by decide) rfl
  refine va_callv (va_runU (As := [.int (nI (ct + 1))]) (rest := []) ⟨hx, hb, hml, hown, hts⟩ (j_ensure l D cA sa o0 o1 ct cp mb fy (ct + 1) s.heap.size hct hcp hfit (by omega)) (va_cwU 1 hts gJ5_append_3fe6f_J5_ensureCapacityInternal_d00df_u100J4 rfl rfl rfl rfl (by decide +kernel) ⟨(Nat.le_of_ble_eq_true rfl), (Nat.le_of_ble_eq_true rfl)⟩) ⟨Wd.blind, va_recv hK hPc (ci := 1) (q0 := 0) rfl rfl, fun U hU hW => ⟨rfl, Wd.call hPc hDc hK hC hZ hS hFc U hU hW⟩⟩ rfl rfl hl.1 rfl (lv_room (Nat.le_of_ble_eq_true rfl)) dJ5_append_3fe6f_7 ⟨(Nat.le_of_ble_eq_true rfl), (Nat.le_of_ble_eq_true rfl)⟩) hS (fun q _ h => hFc q h) hFc (fun u t H1 locs ht hvm hw hB hz1 hk1 hS => ?_)
  obtain ⟨qn2, qn3, fn4, hn5, hn6, hn7, hn8, hP1, hD1⟩ := hB
  rw [ht] at hP1
  obtain ⟨hP, hD⟩ := PDq.join (w := [(oJ4 o0 qn2 0 mb (nI ct)), (qn2, .inl (cA 3, qn3, .inl fn4))]) 0 hP hD [0, 1] [] rfl rfl (by decide) (by decide) hk1 hFc hP1 hD1 rfl
  generalize H1 = H at hP hS ⊢
  refine lv_aload_n hx hb dJ5_append_3fe6f_10 rfl (lv_at hl 0 rfl) ?_
  obtain ⟨hPc, hDc, hFc⟩ := PDq.cut (wc := [(oJ4 o0 qn2 0 mb (nI ct))]) hP hD hS hA [0] (by decide) rfl
  refine va_calli (va_runU (As := []) (rest := []) ⟨hx, hb, hml, hown, hts⟩ (j_isLatin1 l D cA sa o0 qn2 ct mb H.size) (va_cwU 0 hts gJ5_append_3fe6f_J5_isLatin1_aae02_u83J4 rfl rfl rfl rfl (by decide +kernel) ⟨(Nat.le_of_ble_eq_true rfl), (Nat.le_of_ble_eq_true rfl)⟩) ⟨Wd.blind, va_recv hK hPc (ci := 1) (q0 := 0) rfl rfl, fun U hU hW => ⟨rfl, Wd.call hPc hDc hK hC hZ hS hFc U hU hW⟩⟩ rfl rfl hl.1 rfl (lv_room (Nat.le_of_ble_eq_true rfl)) dJ5_append_3fe6f_11 ⟨(Nat.le_of_ble_eq_true rfl), (Nat.le_of_ble_eq_true rfl)⟩) hS (fun q _ h => hFc q h) hFc (fun rn9 u t H1 locs ht hvm hw hB hz1 hk1 hS => ?_)
  obtain ⟨hP1, hD1⟩ := hB
  rw [ht] at hP1
  obtain ⟨hP, hD⟩ := PDq.join (w := [(qn2, .inl (cA 3, qn3, .inl fn4)), (oJ4 o0 qn2 0 mb (nI ct))]) 1 hP hD [0] [1] rfl rfl (by decide) (by decide) hk1 hFc hP1 hD1 rfl
  generalize H1 = H at hP hS ⊢
  obtain rfl : rn9 = 1 := hw
  refine lv_if_eq (tgt := 45) hx hb dJ5_append_3fe6f_14 (by decide) (fun c9 => absurd c9 (by decide)) (fun c10 => ?_)
  refine lv_iload_n hx hb dJ5_append_3fe6f_17 rfl (lv_at hl 1 rfl) ?_
  obtain ⟨hPc, hDc, hFc⟩ := PDq.cut (wc := []) hP hD hS hA [] (by decide) rfl
  refine va_calli (va_runS (As := [.int (nI ch)]) (rest := []) ⟨hx, hb, hml, hown, hts⟩ (j_canEncode l D cA sa ch H.size hch) (va_cwS 1 hts gJ5_append_3fe6f_J1_canEncode_fc78d rfl rfl rfl (by decide +kernel) ⟨(Nat.le_of_ble_eq_true rfl), (Nat.le_of_ble_eq_true rfl)⟩) ⟨Wd.blind, fun U hU hW => ⟨rfl, Wd.call hPc hDc hK hC hZ hS hFc U hU hW⟩⟩ rfl rfl hl.1 rfl (lv_room (Nat.le_of_ble_eq_true rfl)) dJ5_append_3fe6f_18 ⟨(Nat.le_of_ble_eq_true rfl), (Nat.le_of_ble_eq_true rfl)⟩) hS (fun q _ h => hFc q h) hFc (fun rn11 u t H1 locs ht hvm hw hB hz1 hk1 hS => ?_)
  obtain ⟨hP1, hD1⟩ := hB
  rw [ht] at hP1
  obtain ⟨hP, hD⟩ := PDq.join (w := [(qn2, .inl (cA 3, qn3, .inl fn4)), (oJ4 o0 qn2 0 mb (nI ct))]) 2 hP hD [] [0, 1] rfl rfl (by decide) (by decide) hk1 hFc hP1 hD1 rfl
  generalize H1 = H at hP hS ⊢
  obtain rfl : rn11 = 1 := hw
  refine lv_if_eq (tgt := 45) hx hb dJ5_append_3fe6f_21 (by decide) (fun c9 => absurd c9 (by decide)) (fun c12 => ?_)
  refine lv_aload_n hx hb dJ5_append_3fe6f_24 rfl (lv_at hl 0 rfl) ?_
  refine va_get (D := D) (ci := 1) (v := .ref qn2) (C := RJ4) (T := TJ4) (N := 4) hx hb hts inJ4 hown hK hP 1 rfl rfl 0 (by decide) (hts (.fieldLink RJ5 15 "java/lang/AbstractStringBuilder" "value" "[B") (by decide +kernel)) (fun _ h9 => h9) rfl dJ5_append_3fe6f_25 ?_
  refine lv_aload_n hx hb dJ5_append_3fe6f_28 rfl (lv_at hl 0 rfl) ?_
  refine lv_dup hx hb dJ5_append_3fe6f_29 rfl ?_
  refine va_get (D := D) (ci := 1) (v := .int (nI ct)) (C := RJ4) (T := TJ4) (N := 4) hx hb hts inJ4 hown hK hP 1 rfl rfl 3 (by decide) (hts (.fieldLink RJ5 79 "java/lang/AbstractStringBuilder" "count" "I") (by decide +kernel)) (fun _ h9 => h9) rfl dJ5_append_3fe6f_30 ?_
  refine lv_dup_x1 hx hb dJ5_append_3fe6f_33 rfl rfl ?_
  refine lv_iconst (v := 1) hx hb dJ5_append_3fe6f_34 (by decide) ?_
  refine lv_iadd hx hb dJ5_append_3fe6f_35 ?_
  refine lv_topi (fun yn13 eyn13 => ?_)
  obtain rfl : yn13 = (nI (ct + 1)) := eyn13.trans (nI_add ct 1)
  refine va_put (D := D) (ci := 1) (v := .int (nI (ct + 1))) (ty := .int) (C := RJ4) (T := TJ4) (N := 4) hx hb hts inJ4 tyJ4 tyJ4_ok nmJ4 hown hK hP hD hS 1 rfl rfl 3 (by decide) (hts (.fieldLink RJ5 79 "java/lang/AbstractStringBuilder" "count" "I") (by decide +kernel)) (fun _ h9 => h9) rfl (by decide +kernel) rfl rfl (Nat.le_of_ble_eq_true rfl) dJ5_append_3fe6f_36 (fun H locs hP hD hS => ?_)
  obtain ⟨hP, hD⟩ : PDq D A [(qn2, .inl (cA 3, qn3, .inl fn4)), (oJ4 o0 qn2 0 mb (nI (ct + 1)))] H := ⟨hP, hD⟩
  refine lv_iload_n hx hb dJ5_append_3fe6f_39 rfl (lv_at hl 1 rfl) ?_
  refine lv_i2b hx hb dJ5_append_3fe6f_40 rfl ?_
  refine lv_topi (fun yn14 eyn14 => ?_)
  refine va_bast hx hb hK hP hD hS 0 3 rfl rfl (vp_in_nI (n := ct) (N := qn3) (show ct < qn3 by omega) (by omega)) dJ5_append_3fe6f_41 (fun H locs hP hD hS => ?_)
  obtain ⟨hP, hD⟩ : PDq D A [(qn2, .inl (cA 3, qn3, .inl (upd fn4 (((nI ct)).toNatClampNeg) (vp_nar .byte yn14)))), (oJ4 o0 qn2 0 mb (nI (ct + 1)))] H := ⟨hP, hD⟩
  have hn16 : sb_Fit (upd fn4 (((nI ct)).toNatClampNeg) (vp_nar .byte yn14)) := (sb_fitU hn8 (pk_fb _))
  generalize (upd fn4 (((nI ct)).toNatClampNeg) (vp_nar .byte yn14)) = fn15 at hP hD hn16
  obtain ⟨hP, hD⟩ : PDq D A [(qn2, .inl (cA 3, qn3, .inl fn15)), (oJ4 o0 qn2 0 mb (nI (ct + 1)))] H := ⟨hP, hD⟩
  refine lv_goto (tgt := 75) hx hb dJ5_append_3fe6f_42 (by decide) ?_
  refine lv_aload_n hx hb dJ5_append_3fe6f_75 rfl (lv_at hl 0 rfl) ?_
  obtain ⟨hP9, hD9⟩ := PDq.sub (ws' := [(oJ4 o0 qn2 0 mb (nI (ct + 1))), (qn2, .inl (cA 3, qn3, .inl fn15))]) hP hD [1, 0] (by decide) rfl
  refine W.widen (k := 1) (n := 260) (Nat.le_of_ble_eq_true rfl) (Nat.le_of_ble_eq_true rfl) ?_
  exact (W.aret (v := .ref o0) hx hb hr (Or.inl ⟨_, rfl⟩) (Or.inr ⟨_, rfl⟩) (fun t ht hW => ⟨⟨(), o0, rfl, trivial, rfl, qn2, qn3, fn15, (by omega), hn7, hn16, by rw [ht]; exact hP9, hD9⟩, hS.F ht⟩) hS.2.2 dJ5_append_3fe6f_76)

set_option maxHeartbeats 4000000 in
set_option maxRecDepth 100000 in
/-- append(char) -/
theorem j_appendC (l : Launch) (D : va_G) (cA : Nat → ClassId) (sa : Nat → Nat) (o0 : Nat) (o1 : Nat) (ct : Nat) (cp : Nat) (mb : Int32) (fy : Nat → Int32) (ch : Nat) (sz : Nat) (hct : ct ≤ cp) (hcp : cp ≤ 126) (hfit : sb_Fit fy) (hch : ch < 256) (hc1 : ct + 1 ≤ 62) : Met l yJ4_append_cf468 wsJ4_append_cf468 ({ frames := 5, cells := 1, slots := 260, locals := 125 }) (va_Pc [.ref o0, .int (nI ch)] (Wd D cA sa [(oJ4 o0 o1 0 mb (nI ct)), (o1, .inl (cA 3, cp, .inl fy))] sz)) (va_Qr (fun _ : Unit => True) (fun (_ : Unit) (a9 : Nat) t => a9 = o0 ∧ ∃ z1 : Nat, ∃ cp2 : Nat, ∃ zy : Nat → Int32, ct + 1 ≤ cp2 ∧ cp2 ≤ 126 ∧ sb_Fit zy ∧ Wq D (va_A [(oJ4 o0 o1 0 mb (nI ct)), (o1, .inl (cA 3, cp, .inl fy))] sz) [(oJ4 o0 z1 0 mb (nI (ct + 1))), (z1, .inl (cA 3, cp2, .inl zy))] t) (va_A [(oJ4 o0 o1 0 mb (nI ct)), (o1, .inl (cA 3, cp, .inl fy))] sz)) 1 260 (va_A [(oJ4 o0 o1 0 mb (nI ct)), (o1, .inl (cA 3, cp, .inl fy))] sz) := by
  refine Met.ofW (cc := cJ4_append_cf468) (maxL := 2) (ret := (some (.object "java/lang/StringBuilder"))) (by decide) rfl ?_
  intro p e s m args below meth c s₁ B hml hv
  obtain ⟨rfl, hsz, hP, hK, hD0, hC, hZ⟩ := hv
  have hx := B.exec
  have hb := B.bytes
  have hr := B.returns
  have hts := atoms_spec (ws := wsJ4_append_cf468) B.pre
  have hown : s.vm.findClass RJ4 = some m.cls := findClass_of_methodNamed B.named
  have hlocks := B.notSynchronized
  subst hsz
  have hD := hD0.self (sz := s.heap.size)
  generalize hAe : va_A [(oJ4 o0 o1 0 mb (nI ct)), (o1, .inl (cA 3, cp, .inl fy))] s.heap.size = A at hD hZ ⊢
  have hA : ∀ q : Nat, s.heap.size ≤ q → A q := fun q h => by rw [← hAe]; exact Or.inr h
  have hS : va_S A s.heap s.heap [] := va_S.rf
  have hP : va_P D vwCl [(oJ4 o0 o1 0 mb (nI ct)), (o1, .inl (cA 3, cp, .inl fy))] s.heap := hP
  have hl := lv_entry ([.ref o0, .int (nI ch)]) (n := 2) (Nat.le_of_ble_eq_true rfl)
  rw [lg_entry_eq]
  generalize (lg_sl ([.ref o0, .int (nI ch)]) ++ List.replicate (2 - (lg_sl ([.ref o0, .int (nI ch)])).length) Slot.unset).toArray = ls at hl ⊢
  have hl : lv_has ls 2 [(0, .ref o0), (1, .int (nI ch))] := hl
  refine lv_aload_n hx hb dJ4_append_cf468_0 rfl (lv_at hl 0 rfl) ?_
  refine lv_iload_n hx hb dJ4_append_cf468_1 rfl (lv_at hl 1 rfl) ?_
  obtain ⟨hPc, hDc, hFc⟩ := PDq.cut (wc := [(oJ4 o0 o1 0 mb (nI ct)), (o1, .inl (cA 3, cp, .inl fy))]) hP hD hS hA [0, 1] (by decide) rfl
  refine va_callr (va_runSU (As := [.int (nI ch)]) (rest := []) (hK.1 1 _ rfl).2 ⟨hx, hb, hml, hown, hts⟩ (j_appendC5 l D cA sa o0 o1 ct cp mb fy ch s.heap.size hct hcp hfit hch hc1) (va_cwSU 1 hts gJ4_append_cf468_J5_append_3fe6f_s50 rfl rfl rfl (by decide +kernel) ⟨(Nat.le_of_ble_eq_true rfl), (Nat.le_of_ble_eq_true rfl)⟩) ⟨Wd.blind, va_recv hK hPc (ci := 1) (q0 := 0) rfl rfl, fun U hU hW => ⟨rfl, Wd.call hPc hDc hK hC hZ hS hFc U hU hW⟩⟩ rfl rfl hl.1 rfl (lv_room (Nat.le_of_ble_eq_true rfl)) dJ4_append_cf468_2 ⟨(Nat.le_of_ble_eq_true rfl), (Nat.le_of_ble_eq_true rfl)⟩) hS (fun q _ h => hFc q h) hFc (fun u ra t H1 locs ht hvm hw hB hz1 hk1 hS => ?_)
  obtain ⟨hra, qn1, qn2, fn3, hn4, hn5, hn6, hP1, hD1⟩ := hB
  obtain rfl := hra.symm
  rw [ht] at hP1
  obtain ⟨hP, hD⟩ := PDq.join (w := [(oJ4 o0 qn1 0 mb (nI (ct + 1))), (qn1, .inl (cA 3, qn2, .inl fn3))]) 0 hP hD [0, 1] [] rfl rfl (by decide) (by decide) hk1 hFc hP1 hD1 rfl
  generalize H1 = H at hP hS ⊢
  refine lv_pop hx hb dJ4_append_cf468_5 rfl ?_
  refine lv_aload_n hx hb dJ4_append_cf468_6 rfl (lv_at hl 0 rfl) ?_
  obtain ⟨hP9, hD9⟩ := PDq.sub (ws' := [(oJ4 o0 qn1 0 mb (nI (ct + 1))), (qn1, .inl (cA 3, qn2, .inl fn3))]) hP hD [0, 1] (by decide) rfl
  refine W.widen (k := 1) (n := 260) (Nat.le_of_ble_eq_true rfl) (Nat.le_of_ble_eq_true rfl) ?_
  exact (W.aret (v := .ref o0) hx hb hr (Or.inl ⟨_, rfl⟩) (Or.inr ⟨_, rfl⟩) (fun t ht hW => ⟨⟨(), o0, rfl, trivial, rfl, qn1, qn2, fn3, hn4, hn5, hn6, by rw [ht]; exact hP9, hD9⟩, hS.F ht⟩) hS.2.2 dJ4_append_cf468_7)

set_option maxHeartbeats 4000000 in
set_option maxRecDepth 100000 in
/-- setLength(0) -/
theorem j_setLength5 (l : Launch) (D : va_G) (cA : Nat → ClassId) (sa : Nat → Nat) (o0 : Nat) (o1 : Nat) (ct : Nat) (cp : Nat) (mb : Int32) (fy : Nat → Int32) (sz : Nat) (hct : ct ≤ cp) (hcp : cp ≤ 126) (hfit : sb_Fit fy) : Met l yJ5_setLength_d00df wsJ5_setLength_d00df ({ frames := 4, cells := 1, slots := 260, locals := 104 }) (va_Pc [.ref o0, .int 0] (Wd D cA sa [(oJ4 o0 o1 0 mb (nI ct)), (o1, .inl (cA 3, cp, .inl fy))] sz)) (va_Qv (fun _ : Unit => True) (fun (_ : Unit) t => ∃ z1 : Nat, ∃ cp2 : Nat, ∃ zy : Nat → Int32, ∃ zm : Int32, cp2 ≤ 126 ∧ sb_Fit zy ∧ Wq D (va_A [(oJ4 o0 o1 0 mb (nI ct)), (o1, .inl (cA 3, cp, .inl fy))] sz) [(oJ4 o0 z1 0 zm 0), (z1, .inl (cA 3, cp2, .inl zy))] t) (va_A [(oJ4 o0 o1 0 mb (nI ct)), (o1, .inl (cA 3, cp, .inl fy))] sz)) 1 260 (va_A [(oJ4 o0 o1 0 mb (nI ct)), (o1, .inl (cA 3, cp, .inl fy))] sz) := by
  refine Met.ofW (cc := cJ5_setLength_d00df) (maxL := 2) (ret := none) (by decide) rfl ?_
  intro p e s m args below meth c s₁ B hml hv
  obtain ⟨rfl, hsz, hP, hK, hD0, hC, hZ⟩ := hv
  have hx := B.exec
  have hb := B.bytes
  have hr := B.returns
  have hts := atoms_spec (ws := wsJ5_setLength_d00df) B.pre
  have hown : s.vm.findClass RJ5 = some m.cls := findClass_of_methodNamed B.named
  have hlocks := B.notSynchronized
  subst hsz
  have hD := hD0.self (sz := s.heap.size)
  generalize hAe : va_A [(oJ4 o0 o1 0 mb (nI ct)), (o1, .inl (cA 3, cp, .inl fy))] s.heap.size = A at hD hZ ⊢
  have hA : ∀ q : Nat, s.heap.size ≤ q → A q := fun q h => by rw [← hAe]; exact Or.inr h
  have hS : va_S A s.heap s.heap [] := va_S.rf
  have hP : va_P D vwCl [(oJ4 o0 o1 0 mb (nI ct)), (o1, .inl (cA 3, cp, .inl fy))] s.heap := hP
  have hl := lv_entry ([.ref o0, .int 0]) (n := 2) (Nat.le_of_ble_eq_true rfl)
  rw [lg_entry_eq]
  generalize (lg_sl ([.ref o0, .int 0]) ++ List.replicate (2 - (lg_sl ([.ref o0, .int 0])).length) Slot.unset).toArray = ls at hl ⊢
  have hl : lv_has ls 2 [(0, .ref o0), (1, .int 0)] := hl
  have inJ4 : ∀ w ∈ u_ws RJ4 TJ4 4, w ∈ wsJ5_setLength_d00df := by decide +kernel
  refine lv_iload_n hx hb dJ5_setLength_d00df_0 rfl (lv_at hl 1 rfl) ?_
  refine lv_if_ge (tgt := 13) hx hb dJ5_setLength_d00df_1 (by decide) (fun c1 => ?_) (fun c9 => absurd c9 (by decide))
  refine lv_aload_n hx hb dJ5_setLength_d00df_13 rfl (lv_at hl 0 rfl) ?_
  refine lv_iload_n hx hb dJ5_setLength_d00df_14 rfl (lv_at hl 1 rfl) ?_
  obtain ⟨hPc, hDc, hFc⟩ := PDq.cut (wc := [(oJ4 o0 o1 0 mb (nI ct)), (o1, .inl (cA 3, cp, .inl fy))]) hP hD hS hA [0, 1] (by decide) rfl
  refine va_callv (va_runU (As := [.int 0]) (rest := []) ⟨hx, hb, hml, hown, hts⟩ (j_ensure l D cA sa o0 o1 ct cp mb fy 0 s.heap.size hct hcp hfit (by omega)) (va_cwU 1 hts gJ5_setLength_d00df_J5_ensureCapacityInternal_d00df_u100J4 rfl rfl rfl rfl (by decide +kernel) ⟨(Nat.le_of_ble_eq_true rfl), (Nat.le_of_ble_eq_true rfl)⟩) ⟨Wd.blind, va_recv hK hPc (ci := 1) (q0 := 0) rfl rfl, fun U hU hW => ⟨rfl, Wd.call hPc hDc hK hC hZ hS hFc U hU hW⟩⟩ rfl rfl hl.1 rfl (lv_room (Nat.le_of_ble_eq_true rfl)) dJ5_setLength_d00df_15 ⟨(Nat.le_of_ble_eq_true rfl), (Nat.le_of_ble_eq_true rfl)⟩) hS (fun q _ h => hFc q h) hFc (fun u t H1 locs ht hvm hw hB hz1 hk1 hS => ?_)
  obtain ⟨qn2, qn3, fn4, hn5, hn6, hn7, hn8, hP1, hD1⟩ := hB
  rw [ht] at hP1
  obtain ⟨hP, hD⟩ := PDq.join (w := [(oJ4 o0 qn2 0 mb (nI ct)), (qn2, .inl (cA 3, qn3, .inl fn4))]) 0 hP hD [0, 1] [] rfl rfl (by decide) (by decide) hk1 hFc hP1 hD1 rfl
  generalize H1 = H at hP hS ⊢
  refine lv_aload_n hx hb dJ5_setLength_d00df_18 rfl (lv_at hl 0 rfl) ?_
  refine va_get (D := D) (ci := 1) (v := .int (nI ct)) (C := RJ4) (T := TJ4) (N := 4) hx hb hts inJ4 hown hK hP 0 rfl rfl 3 (by decide) (hts (.fieldLink RJ5 79 "java/lang/AbstractStringBuilder" "count" "I") (by decide +kernel)) (fun _ h9 => h9) rfl dJ5_setLength_d00df_19 ?_
  refine lv_iload_n hx hb dJ5_setLength_d00df_22 rfl (lv_at hl 1 rfl) ?_
  refine lv_icmp_ge (tgt := 63) hx hb dJ5_setLength_d00df_23 (by decide) (fun c9 => ?_) (fun c9 => absurd (nI_le (a := 0) (b := ct) (show 0 ≤ ct by omega) (by omega)) c9)
  refine lv_aload_n hx hb dJ5_setLength_d00df_63 rfl (lv_at hl 0 rfl) ?_
  refine va_get (D := D) (ci := 1) (v := .int (nI ct)) (C := RJ4) (T := TJ4) (N := 4) hx hb hts inJ4 hown hK hP 0 rfl rfl 3 (by decide) (hts (.fieldLink RJ5 79 "java/lang/AbstractStringBuilder" "count" "I") (by decide +kernel)) (fun _ h9 => h9) rfl dJ5_setLength_d00df_64 ?_
  refine lv_iload_n hx hb dJ5_setLength_d00df_67 rfl (lv_at hl 1 rfl) ?_
  refine lv_icmp_le (tgt := 76) hx hb dJ5_setLength_d00df_68 (by decide) (fun c10 => ?_) (fun c10 => ?_)
  · skip
    have hn11 : ct ≤ 0 := (nI_leI (a := ct) (b := 0) (by omega) (by omega)).mp c10
    refine lv_aload_n hx hb dJ5_setLength_d00df_76 rfl (lv_at hl 0 rfl) ?_
    refine lv_iload_n hx hb dJ5_setLength_d00df_77 rfl (lv_at hl 1 rfl) ?_
    refine va_put (D := D) (ci := 1) (v := .int 0) (ty := .int) (C := RJ4) (T := TJ4) (N := 4) hx hb hts inJ4 tyJ4 tyJ4_ok nmJ4 hown hK hP hD hS 0 rfl rfl 3 (by decide) (hts (.fieldLink RJ5 79 "java/lang/AbstractStringBuilder" "count" "I") (by decide +kernel)) (fun _ h9 => h9) rfl (by decide +kernel) rfl rfl (Nat.le_of_ble_eq_true rfl) dJ5_setLength_d00df_78 (fun H locs hP hD hS => ?_)
    obtain ⟨hP, hD⟩ : PDq D A [(oJ4 o0 qn2 0 mb 0), (qn2, .inl (cA 3, qn3, .inl fn4))] H := ⟨hP, hD⟩
    obtain ⟨hP9, hD9⟩ := PDq.sub (ws' := [(oJ4 o0 qn2 0 mb 0), (qn2, .inl (cA 3, qn3, .inl fn4))]) hP hD [0, 1] (by decide) rfl
    refine W.widen (k := 1) (n := 260) (Nat.le_of_ble_eq_true rfl) (Nat.le_of_ble_eq_true rfl) ?_
    exact (W.vret hx hb hr (fun t ht hW => ⟨⟨(), rfl, trivial, qn2, qn3, fn4, mb, hn7, hn8, by rw [ht]; exact hP9, hD9⟩, hS.F ht⟩) hS.2.2 dJ5_setLength_d00df_81)
  · skip
    have hn12 : 0 < ct := Nat.lt_of_not_le (fun h9 => c10 (nI_le (a := ct) (b := 0) h9 (by omega)))
    refine lv_aload_n hx hb dJ5_setLength_d00df_71 rfl (lv_at hl 0 rfl) ?_
    refine lv_iconst (v := 1) hx hb dJ5_setLength_d00df_72 (by decide) ?_
    refine va_put (D := D) (ci := 1) (v := .int 1) (ty := .boolean) (C := RJ4) (T := TJ4) (N := 4) hx hb hts inJ4 tyJ4 tyJ4_ok nmJ4 hown hK hP hD hS 0 rfl rfl 2 (by decide) (hts (.fieldLink RJ5 73 "java/lang/AbstractStringBuilder" "maybeLatin1" "Z") (by decide +kernel)) (fun _ h9 => h9) rfl (by decide +kernel) rfl rfl (Nat.le_of_ble_eq_true rfl) dJ5_setLength_d00df_73 (fun H locs hP hD hS => ?_)
    obtain ⟨hP, hD⟩ : PDq D A [(oJ4 o0 qn2 0 1 (nI ct)), (qn2, .inl (cA 3, qn3, .inl fn4))] H := ⟨hP, hD⟩
    refine lv_aload_n hx hb dJ5_setLength_d00df_76 rfl (lv_at hl 0 rfl) ?_
    refine lv_iload_n hx hb dJ5_setLength_d00df_77 rfl (lv_at hl 1 rfl) ?_
    refine va_put (D := D) (ci := 1) (v := .int 0) (ty := .int) (C := RJ4) (T := TJ4) (N := 4) hx hb hts inJ4 tyJ4 tyJ4_ok nmJ4 hown hK hP hD hS 0 rfl rfl 3 (by decide) (hts (.fieldLink RJ5 79 "java/lang/AbstractStringBuilder" "count" "I") (by decide +kernel)) (fun _ h9 => h9) rfl (by decide +kernel) rfl rfl (Nat.le_of_ble_eq_true rfl) dJ5_setLength_d00df_78 (fun H locs hP hD hS => ?_)
    obtain ⟨hP, hD⟩ : PDq D A [(oJ4 o0 qn2 0 1 0), (qn2, .inl (cA 3, qn3, .inl fn4))] H := ⟨hP, hD⟩
    obtain ⟨hP9, hD9⟩ := PDq.sub (ws' := [(oJ4 o0 qn2 0 1 0), (qn2, .inl (cA 3, qn3, .inl fn4))]) hP hD [0, 1] (by decide) rfl
    refine W.widen (k := 1) (n := 260) (Nat.le_of_ble_eq_true rfl) (Nat.le_of_ble_eq_true rfl) ?_
    exact (W.vret hx hb hr (fun t ht hW => ⟨⟨(), rfl, trivial, qn2, qn3, fn4, 1, hn7, hn8, by rw [ht]; exact hP9, hD9⟩, hS.F ht⟩) hS.2.2 dJ5_setLength_d00df_81)

set_option maxHeartbeats 4000000 in
set_option maxRecDepth 100000 in
/-- setLength(0) -/
theorem j_setLength (l : Launch) (D : va_G) (cA : Nat → ClassId) (sa : Nat → Nat) (o0 : Nat) (o1 : Nat) (ct : Nat) (cp : Nat) (mb : Int32) (fy : Nat → Int32) (sz : Nat) (hct : ct ≤ cp) (hcp : cp ≤ 126) (hfit : sb_Fit fy) : Met l yJ4_setLength_d00df wsJ4_setLength_d00df ({ frames := 5, cells := 1, slots := 260, locals := 125 }) (va_Pc [.ref o0, .int 0] (Wd D cA sa [(oJ4 o0 o1 0 mb (nI ct)), (o1, .inl (cA 3, cp, .inl fy))] sz)) (va_Qv (fun _ : Unit => True) (fun (_ : Unit) t => ∃ z1 : Nat, ∃ cp2 : Nat, ∃ zy : Nat → Int32, ∃ zm : Int32, cp2 ≤ 126 ∧ sb_Fit zy ∧ Wq D (va_A [(oJ4 o0 o1 0 mb (nI ct)), (o1, .inl (cA 3, cp, .inl fy))] sz) [(oJ4 o0 z1 0 zm 0), (z1, .inl (cA 3, cp2, .inl zy))] t) (va_A [(oJ4 o0 o1 0 mb (nI ct)), (o1, .inl (cA 3, cp, .inl fy))] sz)) 1 260 (va_A [(oJ4 o0 o1 0 mb (nI ct)), (o1, .inl (cA 3, cp, .inl fy))] sz) := by
  refine Met.ofW (cc := cJ4_setLength_d00df) (maxL := 2) (ret := none) (by decide) rfl ?_
  intro p e s m args below meth c s₁ B hml hv
  obtain ⟨rfl, hsz, hP, hK, hD0, hC, hZ⟩ := hv
  have hx := B.exec
  have hb := B.bytes
  have hr := B.returns
  have hts := atoms_spec (ws := wsJ4_setLength_d00df) B.pre
  have hown : s.vm.findClass RJ4 = some m.cls := findClass_of_methodNamed B.named
  have hlocks := B.notSynchronized
  subst hsz
  have hD := hD0.self (sz := s.heap.size)
  generalize hAe : va_A [(oJ4 o0 o1 0 mb (nI ct)), (o1, .inl (cA 3, cp, .inl fy))] s.heap.size = A at hD hZ ⊢
  have hA : ∀ q : Nat, s.heap.size ≤ q → A q := fun q h => by rw [← hAe]; exact Or.inr h
  have hS : va_S A s.heap s.heap [] := va_S.rf
  have hP : va_P D vwCl [(oJ4 o0 o1 0 mb (nI ct)), (o1, .inl (cA 3, cp, .inl fy))] s.heap := hP
  have hl := lv_entry ([.ref o0, .int 0]) (n := 2) (Nat.le_of_ble_eq_true rfl)
  rw [lg_entry_eq]
  generalize (lg_sl ([.ref o0, .int 0]) ++ List.replicate (2 - (lg_sl ([.ref o0, .int 0])).length) Slot.unset).toArray = ls at hl ⊢
  have hl : lv_has ls 2 [(0, .ref o0), (1, .int 0)] := hl
  refine lv_aload_n hx hb dJ4_setLength_d00df_0 rfl (lv_at hl 0 rfl) ?_
  refine lv_iload_n hx hb dJ4_setLength_d00df_1 rfl (lv_at hl 1 rfl) ?_
  obtain ⟨hPc, hDc, hFc⟩ := PDq.cut (wc := [(oJ4 o0 o1 0 mb (nI ct)), (o1, .inl (cA 3, cp, .inl fy))]) hP hD hS hA [0, 1] (by decide) rfl
  refine va_callv (va_runSU (As := [.int 0]) (rest := []) (hK.1 1 _ rfl).2 ⟨hx, hb, hml, hown, hts⟩ (j_setLength5 l D cA sa o0 o1 ct cp mb fy s.heap.size hct hcp hfit) (va_cwSU 1 hts gJ4_setLength_d00df_J5_setLength_d00df_s333 rfl rfl rfl (by decide +kernel) ⟨(Nat.le_of_ble_eq_true rfl), (Nat.le_of_ble_eq_true rfl)⟩) ⟨Wd.blind, va_recv hK hPc (ci := 1) (q0 := 0) rfl rfl, fun U hU hW => ⟨rfl, Wd.call hPc hDc hK hC hZ hS hFc U hU hW⟩⟩ rfl rfl hl.1 rfl (lv_room (Nat.le_of_ble_eq_true rfl)) dJ4_setLength_d00df_2 ⟨(Nat.le_of_ble_eq_true rfl), (Nat.le_of_ble_eq_true rfl)⟩) hS (fun q _ h => hFc q h) hFc (fun u t H1 locs ht hvm hw hB hz1 hk1 hS => ?_)
  obtain ⟨qn1, qn2, fn3, zn4, hn5, hn6, hP1, hD1⟩ := hB
  rw [ht] at hP1
  obtain ⟨hP, hD⟩ := PDq.join (w := [(oJ4 o0 qn1 0 zn4 0), (qn1, .inl (cA 3, qn2, .inl fn3))]) 0 hP hD [0, 1] [] rfl rfl (by decide) (by decide) hk1 hFc hP1 hD1 rfl
  generalize H1 = H at hP hS ⊢
  obtain ⟨hP9, hD9⟩ := PDq.sub (ws' := [(oJ4 o0 qn1 0 zn4 0), (qn1, .inl (cA 3, qn2, .inl fn3))]) hP hD [0, 1] (by decide) rfl
  refine W.widen (k := 1) (n := 260) (Nat.le_of_ble_eq_true rfl) (Nat.le_of_ble_eq_true rfl) ?_
  exact (W.vret hx hb hr (fun t ht hW => ⟨⟨(), rfl, trivial, qn1, qn2, fn3, zn4, hn5, hn6, by rw [ht]; exact hP9, hD9⟩, hS.F ht⟩) hS.2.2 dJ4_setLength_d00df_5)

set_option maxHeartbeats 4000000 in
set_option maxRecDepth 100000 in
/-- inflateIfNeededFor -/
theorem j_inflateIf (l : Launch) (D : va_G) (cA : Nat → ClassId) (sa : Nat → Nat) (o0 : Nat) (o1 : Nat) (ct : Nat) (mb : Int32) (k : Nat) (bs : List Int32) (sz : Nat) (hq : (k, bs) ∈ sbL) : Met l yJ5_inflateIfNeededFor_a7421 wsJ5_inflateIfNeededFor_a7421 ({ frames := 1, cells := 0, slots := 0, locals := 20 }) (va_Pc [.ref o0, .ref (sa k)] (Wd D cA sa [(oJ4 o0 o1 0 mb (nI ct))] sz)) (va_Qv (fun _ : Unit => True) (fun (_ : Unit) t => Wq D (va_A [(oJ4 o0 o1 0 mb (nI ct))] sz) [(oJ4 o0 o1 0 mb (nI ct))] t) (va_A [(oJ4 o0 o1 0 mb (nI ct))] sz)) 0 0 (va_A [(oJ4 o0 o1 0 mb (nI ct))] sz) := by
  refine Met.ofW (cc := cJ5_inflateIfNeededFor_a7421) (maxL := 2) (ret := none) (by decide) rfl ?_
  intro p e s m args below meth c s₁ B hml hv
  obtain ⟨rfl, hsz, hP, hK, hD0, hC, hZ⟩ := hv
  have hx := B.exec
  have hb := B.bytes
  have hr := B.returns
  have hts := atoms_spec (ws := wsJ5_inflateIfNeededFor_a7421) B.pre
  have hown : s.vm.findClass RJ5 = some m.cls := findClass_of_methodNamed B.named
  have hlocks := B.notSynchronized
  subst hsz
  have hD := hD0.self (sz := s.heap.size)
  generalize hAe : va_A [(oJ4 o0 o1 0 mb (nI ct))] s.heap.size = A at hD hZ ⊢
  have hA : ∀ q : Nat, s.heap.size ≤ q → A q := fun q h => by rw [← hAe]; exact Or.inr h
  have hS : va_S A s.heap s.heap [] := va_S.rf
  have hP : va_P D vwCl [(oJ4 o0 o1 0 mb (nI ct))] s.heap := hP
  have hl := lv_entry ([.ref o0, .ref (sa k)]) (n := 2) (Nat.le_of_ble_eq_true rfl)
  rw [lg_entry_eq]
  generalize (lg_sl ([.ref o0, .ref (sa k)]) ++ List.replicate (2 - (lg_sl ([.ref o0, .ref (sa k)])).length) Slot.unset).toArray = ls at hl ⊢
  have hl : lv_has ls 2 [(0, .ref o0), (1, .ref (sa k))] := hl
  have inJ4 : ∀ w ∈ u_ws RJ4 TJ4 4, w ∈ wsJ5_inflateIfNeededFor_a7421 := by decide +kernel
  have hso := hZ.2.2.2.2 (k, bs) hq
  have hsC : va_OF "java/lang/String" "coder" "B" (.int 0) (sa k) A s s.heap := hso.2.1
  have hsV : va_OF "java/lang/String" "value" "[B" (.ref (sa (1000 + k))) (sa k) A s s.heap := hso.2.2.1
  have hsT : va_T .byte (sa (1000 + k)) bs.length (fun j => .int (bs.getD j 0)) A s s.heap := hso.2.2.2
  refine va_gets hx hb hZ.2.2.1 hS hown (hts (.fieldLink RJ5 18 "java/lang/String" "COMPACT_STRINGS" "Z") (by decide +kernel)) (fun _ h9 => h9) dJ5_inflateIfNeededFor_a7421_0 ?_
  refine lv_if_eq (tgt := 21) hx hb dJ5_inflateIfNeededFor_a7421_3 (by decide) (fun c9 => absurd c9 (by decide)) (fun c1 => ?_)
  refine lv_aload_n hx hb dJ5_inflateIfNeededFor_a7421_6 rfl (lv_at hl 0 rfl) ?_
  refine va_get (D := D) (ci := 1) (v := .int 0) (C := RJ4) (T := TJ4) (N := 4) hx hb hts inJ4 hown hK hP 0 rfl rfl 1 (by decide) (hts (.fieldLink RJ5 22 "java/lang/AbstractStringBuilder" "coder" "B") (by decide +kernel)) (fun _ h9 => h9) rfl dJ5_inflateIfNeededFor_a7421_7 ?_
  refine lv_aload_n hx hb dJ5_inflateIfNeededFor_a7421_10 rfl (lv_at hl 1 rfl) ?_
  obtain ⟨hPc, hDc, hFc⟩ := PDq.cut (wc := []) hP hD hS hA [] (by decide) rfl
  refine va_calli (va_runV (As := []) (rest := [.int 0]) ⟨hx, hb, hml, hown, hts⟩ (c_coder l D cA sa k bs s.heap.size hq) (cwV 0 hts gJ5_inflateIfNeededFor_a7421_J0_coder_7d493 rfl rfl rfl (by decide +kernel) ⟨(Nat.le_of_ble_eq_true rfl), (Nat.le_of_ble_eq_true rfl)⟩) ⟨Wd.blind, SO.recv hso hS, fun U hU hW => ⟨rfl, Wd.call hPc hDc hK hC hZ hS hFc U hU hW⟩⟩ rfl rfl hl.1 rfl (lv_room (Nat.le_of_ble_eq_true rfl)) dJ5_inflateIfNeededFor_a7421_11 ⟨(Nat.le_of_ble_eq_true rfl), (Nat.le_of_ble_eq_true rfl)⟩) hS (fun q _ h => hFc q h) hFc (fun rn2 u t H1 locs ht hvm hw hB hz1 hk1 hS => ?_)
  obtain ⟨hP1, hD1⟩ := hB
  rw [ht] at hP1
  obtain ⟨hP, hD⟩ := PDq.join (w := [(oJ4 o0 o1 0 mb (nI ct))]) 1 hP hD [] [0] rfl rfl (by decide) (by decide) hk1 hFc hP1 hD1 rfl
  generalize H1 = H at hP hS ⊢
  obtain rfl : rn2 = 0 := hw
  refine lv_icmp_eq (tgt := 21) hx hb dJ5_inflateIfNeededFor_a7421_14 (by decide) (fun c3 => ?_) (fun c9 => absurd c9 (by decide))
  obtain ⟨hP9, hD9⟩ := PDq.sub (ws' := [(oJ4 o0 o1 0 mb (nI ct))]) hP hD [0] (by decide) rfl
  refine W.widen (k := 0) (n := 0) (Nat.le_of_ble_eq_true rfl) (Nat.le_of_ble_eq_true rfl) ?_
  exact (W.vret hx hb hr (fun t ht hW => ⟨⟨(), rfl, trivial, by rw [ht]; exact hP9, hD9⟩, hS.F ht⟩) hS.2.2 dJ5_inflateIfNeededFor_a7421_21)

set_option maxHeartbeats 4000000 in
set_option maxRecDepth 100000 in
/-- String.getBytes -/
theorem j_getBytes (l : Launch) (D : va_G) (cA : Nat → ClassId) (sa : Nat → Nat) (o1 : Nat) (cp : Nat) (fy : Nat → Int32) (k : Nat) (bs : List Int32) (dp9 : Nat) (sz : Nat) (hq : (k, bs) ∈ sbL) (hcp : cp ≤ 126) (hfit : sb_Fit fy) (hdp : dp9 + bs.length ≤ cp) : Met l yJ0_getBytes_840e7 wsJ0_getBytes_840e7 ({ frames := 1, cells := 0, slots := 0, locals := 60 }) (va_Pc [.ref (sa k), .ref o1, .int (nI dp9), .int 0] (Wd D cA sa [(o1, .inl (cA 3, cp, .inl fy))] sz)) (va_Qv (fun _ : Unit => True) (fun (_ : Unit) t => ∃ zy : Nat → Int32, sb_Fit zy ∧ Wq D (va_A [(o1, .inl (cA 3, cp, .inl fy))] sz) [(o1, .inl (cA 3, cp, .inl zy))] t) (va_A [(o1, .inl (cA 3, cp, .inl fy))] sz)) 0 0 (va_A [(o1, .inl (cA 3, cp, .inl fy))] sz) := by
  refine Met.ofW (cc := cJ0_getBytes_840e7) (maxL := 4) (ret := none) (by decide) rfl ?_
  intro p e s m args below meth c s₁ B hml hv
  obtain ⟨rfl, hsz, hP, hK, hD0, hC, hZ⟩ := hv
  have hx := B.exec
  have hb := B.bytes
  have hr := B.returns
  have hts := atoms_spec (ws := wsJ0_getBytes_840e7) B.pre
  have hown : s.vm.findClass RJ0 = some m.cls := findClass_of_methodNamed B.named
  have hlocks := B.notSynchronized
  subst hsz
  have hD := hD0.self (sz := s.heap.size)
  generalize hAe : va_A [(o1, .inl (cA 3, cp, .inl fy))] s.heap.size = A at hD hZ ⊢
  have hA : ∀ q : Nat, s.heap.size ≤ q → A q := fun q h => by rw [← hAe]; exact Or.inr h
  have hS : va_S A s.heap s.heap [] := va_S.rf
  have hP : va_P D vwCl [(o1, .inl (cA 3, cp, .inl fy))] s.heap := hP
  have hl := lv_entry ([.ref (sa k), .ref o1, .int (nI dp9), .int 0]) (n := 4) (Nat.le_of_ble_eq_true rfl)
  rw [lg_entry_eq]
  generalize (lg_sl ([.ref (sa k), .ref o1, .int (nI dp9), .int 0]) ++ List.replicate (4 - (lg_sl ([.ref (sa k), .ref o1, .int (nI dp9), .int 0])).length) Slot.unset).toArray = ls at hl ⊢
  have hl : lv_has ls 4 [(0, .ref (sa k)), (1, .ref o1), (2, .int (nI dp9)), (3, .int 0)] := hl
  have hso := hZ.2.2.2.2 (k, bs) hq
  have hsC : va_OF "java/lang/String" "coder" "B" (.int 0) (sa k) A s s.heap := hso.2.1
  have hsV : va_OF "java/lang/String" "value" "[B" (.ref (sa (1000 + k))) (sa k) A s s.heap := hso.2.2.1
  have hsT : va_T .byte (sa (1000 + k)) bs.length (fun j => .int (bs.getD j 0)) A s s.heap := hso.2.2.2
  refine lv_aload_n hx hb dJ0_getBytes_840e7_0 rfl (lv_at hl 0 rfl) ?_
  obtain ⟨hPc, hDc, hFc⟩ := PDq.cut (wc := []) hP hD hS hA [] (by decide) rfl
  refine va_calli (va_runV (As := []) (rest := []) ⟨hx, hb, hml, hown, hts⟩ (c_coder l D cA sa k bs s.heap.size hq) (cwV 0 hts gJ0_getBytes_840e7_J0_coder_7d493 rfl rfl rfl (by decide +kernel) ⟨(Nat.le_of_ble_eq_true rfl), (Nat.le_of_ble_eq_true rfl)⟩) ⟨Wd.blind, SO.recv hso hS, fun U hU hW => ⟨rfl, Wd.call hPc hDc hK hC hZ hS hFc U hU hW⟩⟩ rfl rfl hl.1 rfl (lv_room (Nat.le_of_ble_eq_true rfl)) dJ0_getBytes_840e7_1 ⟨(Nat.le_of_ble_eq_true rfl), (Nat.le_of_ble_eq_true rfl)⟩) hS (fun q _ h => hFc q h) hFc (fun rn1 u t H1 locs ht hvm hw hB hz1 hk1 hS => ?_)
  obtain ⟨hP1, hD1⟩ := hB
  rw [ht] at hP1
  obtain ⟨hP, hD⟩ := PDq.join (w := [(o1, .inl (cA 3, cp, .inl fy))]) 1 hP hD [] [0] rfl rfl (by decide) (by decide) hk1 hFc hP1 hD1 rfl
  generalize H1 = H at hP hS ⊢
  obtain rfl : rn1 = 0 := hw
  refine lv_iload_n hx hb dJ0_getBytes_840e7_4 rfl (lv_at hl 3 rfl) ?_
  refine lv_icmp_ne (tgt := 28) hx hb dJ0_getBytes_840e7_5 (by decide) (fun c9 => absurd c9 (by decide)) (fun c2 => ?_)
  refine lv_aload_n hx hb dJ0_getBytes_840e7_8 rfl (lv_at hl 0 rfl) ?_
  refine vk_getf hx hb hsV hS hown (hts (.fieldLink RJ0 9 "java/lang/String" "value" "[B") (by decide +kernel)) (fun _ h9 => h9) dJ0_getBytes_840e7_9 ?_
  refine lv_iconst (v := 0) hx hb dJ0_getBytes_840e7_12 (by decide) ?_
  refine lv_aload_n hx hb dJ0_getBytes_840e7_13 rfl (lv_at hl 1 rfl) ?_
  refine lv_iload_n hx hb dJ0_getBytes_840e7_14 rfl (lv_at hl 2 rfl) ?_
  refine lv_iload_n hx hb dJ0_getBytes_840e7_15 rfl (lv_at hl 3 rfl) ?_
  refine lv_ishl hx hb dJ0_getBytes_840e7_16 ?_
  refine lv_topi (fun yn3 eyn3 => ?_)
  obtain rfl : yn3 = (nI dp9) := eyn3.trans (sb_shl0 _)
  refine lv_aload_n hx hb dJ0_getBytes_840e7_17 rfl (lv_at hl 0 rfl) ?_
  refine vk_getf hx hb hsV hS hown (hts (.fieldLink RJ0 9 "java/lang/String" "value" "[B") (by decide +kernel)) (fun _ h9 => h9) dJ0_getBytes_840e7_18 ?_
  refine va_tlen (v := nI bs.length) hx hb hsT hS rfl dJ0_getBytes_840e7_21 ?_
  refine va_copyT hx hb (by rw [hml]; exact hl.1.symm) hown (hts (.methodLink RJ0 212 arraycopyName) (by decide +kernel)) (hts (.native arraycopyName) (by decide +kernel)) (hts (.static arraycopyName) (by decide +kernel)) (hts (.initialized "java/lang/System") (by decide +kernel)) hK hP hD hS hsT 0 3 rfl rfl (by decide) (nI_pos (by omega)) (nI_pos (by omega)) (by rw [(show (0 : Int32).toNatClampNeg = 0 from by decide), (show ((nI bs.length) : Int32).toNatClampNeg = bs.length from nI_clamp (by omega))]; omega) (by rw [(show ((nI dp9) : Int32).toNatClampNeg = dp9 from nI_clamp (by omega)), (show ((nI bs.length) : Int32).toNatClampNeg = bs.length from nI_clamp (by omega))]; omega) (fun i9 hi9 => by rw [(show ((nI bs.length) : Int32).toNatClampNeg = bs.length from nI_clamp (by omega))] at hi9; rw [(show (0 : Int32).toNatClampNeg = 0 from by decide), Nat.zero_add]; exact sb_fitL hq i9 hi9) (Nat.le_of_ble_eq_true rfl) (Nat.le_of_ble_eq_true rfl) dJ0_getBytes_840e7_22 (fun H locs hP hD hS => ?_)
  obtain ⟨hP, hD⟩ : PDq D A [(o1, .inl (cA 3, cp, .inl (va_cpy (fun j => bs.getD j 0) fy 0 (((nI dp9)).toNatClampNeg) (((nI bs.length)).toNatClampNeg))))] H := ⟨hP, hD⟩
  have hn5 : sb_Fit (va_cpy (fun j => bs.getD j 0) fy 0 (((nI dp9)).toNatClampNeg) (((nI bs.length)).toNatClampNeg)) := sb_fitC (fun j => sb_fitA hq j) hfit
  generalize (va_cpy (fun j => bs.getD j 0) fy 0 (((nI dp9)).toNatClampNeg) (((nI bs.length)).toNatClampNeg)) = fn4 at hP hD hn5
  obtain ⟨hP, hD⟩ : PDq D A [(o1, .inl (cA 3, cp, .inl fn4))] H := ⟨hP, hD⟩
  refine lv_goto (tgt := 43) hx hb dJ0_getBytes_840e7_25 (by decide) ?_
  obtain ⟨hP9, hD9⟩ := PDq.sub (ws' := [(o1, .inl (cA 3, cp, .inl fn4))]) hP hD [0] (by decide) rfl
  refine W.widen (k := 0) (n := 0) (Nat.le_of_ble_eq_true rfl) (Nat.le_of_ble_eq_true rfl) ?_
  exact (W.vret hx hb hr (fun t ht hW => ⟨⟨(), rfl, trivial, fn4, hn5, by rw [ht]; exact hP9, hD9⟩, hS.F ht⟩) hS.2.2 dJ0_getBytes_840e7_43)

set_option maxHeartbeats 4000000 in
set_option maxRecDepth 100000 in
/-- putStringAt -/
theorem j_putStringAt (l : Launch) (D : va_G) (cA : Nat → ClassId) (sa : Nat → Nat) (o0 : Nat) (o1 : Nat) (ct : Nat) (cp : Nat) (mb : Int32) (fy : Nat → Int32) (k : Nat) (bs : List Int32) (dp9 : Nat) (sz : Nat) (hq : (k, bs) ∈ sbL) (hcp : cp ≤ 126) (hfit : sb_Fit fy) (hdp : dp9 + bs.length ≤ cp) : Met l yJ5_putStringAt_47b60 wsJ5_putStringAt_47b60 ({ frames := 2, cells := 0, slots := 0, locals := 83 }) (va_Pc [.ref o0, .int (nI dp9), .ref (sa k)] (Wd D cA sa [(oJ4 o0 o1 0 mb (nI ct)), (o1, .inl (cA 3, cp, .inl fy))] sz)) (va_Qv (fun _ : Unit => True) (fun (_ : Unit) t => ∃ zy : Nat → Int32, sb_Fit zy ∧ Wq D (va_A [(oJ4 o0 o1 0 mb (nI ct)), (o1, .inl (cA 3, cp, .inl fy))] sz) [(oJ4 o0 o1 0 mb (nI ct)), (o1, .inl (cA 3, cp, .inl zy))] t) (va_A [(oJ4 o0 o1 0 mb (nI ct)), (o1, .inl (cA 3, cp, .inl fy))] sz)) 0 0 (va_A [(oJ4 o0 o1 0 mb (nI ct)), (o1, .inl (cA 3, cp, .inl fy))] sz) := by
  refine Met.ofW (cc := cJ5_putStringAt_47b60) (maxL := 3) (ret := none) (by decide) rfl ?_
  intro p e s m args below meth c s₁ B hml hv
  obtain ⟨rfl, hsz, hP, hK, hD0, hC, hZ⟩ := hv
  have hx := B.exec
  have hb := B.bytes
  have hr := B.returns
  have hts := atoms_spec (ws := wsJ5_putStringAt_47b60) B.pre
  have hown : s.vm.findClass RJ5 = some m.cls := findClass_of_methodNamed B.named
  have hlocks := B.notSynchronized
  subst hsz
  have hD := hD0.self (sz := s.heap.size)
  generalize hAe : va_A [(oJ4 o0 o1 0 mb (nI ct)), (o1, .inl (cA 3, cp, .inl fy))] s.heap.size = A at hD hZ ⊢
  have hA : ∀ q : Nat, s.heap.size ≤ q → A q := fun q h => by rw [← hAe]; exact Or.inr h
  have hS : va_S A s.heap s.heap [] := va_S.rf
  have hP : va_P D vwCl [(oJ4 o0 o1 0 mb (nI ct)), (o1, .inl (cA 3, cp, .inl fy))] s.heap := hP
  have hl := lv_entry ([.ref o0, .int (nI dp9), .ref (sa k)]) (n := 3) (Nat.le_of_ble_eq_true rfl)
  rw [lg_entry_eq]
  generalize (lg_sl ([.ref o0, .int (nI dp9), .ref (sa k)]) ++ List.replicate (3 - (lg_sl ([.ref o0, .int (nI dp9), .ref (sa k)])).length) Slot.unset).toArray = ls at hl ⊢
  have hl : lv_has ls 3 [(0, .ref o0), (1, .int (nI dp9)), (2, .ref (sa k))] := hl
  have inJ4 : ∀ w ∈ u_ws RJ4 TJ4 4, w ∈ wsJ5_putStringAt_47b60 := by decide +kernel
  have hso := hZ.2.2.2.2 (k, bs) hq
  have hsC : va_OF "java/lang/String" "coder" "B" (.int 0) (sa k) A s s.heap := hso.2.1
  have hsV : va_OF "java/lang/String" "value" "[B" (.ref (sa (1000 + k))) (sa k) A s s.heap := hso.2.2.1
  have hsT : va_T .byte (sa (1000 + k)) bs.length (fun j => .int (bs.getD j 0)) A s s.heap := hso.2.2.2
  refine lv_aload_n hx hb dJ5_putStringAt_47b60_0 rfl (lv_at hl 0 rfl) ?_
  refine lv_aload_n hx hb dJ5_putStringAt_47b60_1 rfl (lv_at hl 2 rfl) ?_
  obtain ⟨hPc, hDc, hFc⟩ := PDq.cut (wc := [(oJ4 o0 o1 0 mb (nI ct))]) hP hD hS hA [0] (by decide) rfl
  refine va_callv (va_runU (As := [.ref (sa k)]) (rest := []) ⟨hx, hb, hml, hown, hts⟩ (j_inflateIf l D cA sa o0 o1 ct mb k bs s.heap.size hq) (va_cwU 1 hts gJ5_putStringAt_47b60_J5_inflateIfNeededFor_a7421_u397J4 rfl rfl rfl rfl (by decide +kernel) ⟨(Nat.le_of_ble_eq_true rfl), (Nat.le_of_ble_eq_true rfl)⟩) ⟨Wd.blind, va_recv hK hPc (ci := 1) (q0 := 0) rfl rfl, fun U hU hW => ⟨rfl, Wd.call hPc hDc hK hC hZ hS hFc U hU hW⟩⟩ rfl rfl hl.1 rfl (lv_room (Nat.le_of_ble_eq_true rfl)) dJ5_putStringAt_47b60_2 ⟨(Nat.le_of_ble_eq_true rfl), (Nat.le_of_ble_eq_true rfl)⟩) hS (fun q _ h => hFc q h) hFc (fun u t H1 locs ht hvm hw hB hz1 hk1 hS => ?_)
  obtain ⟨hP1, hD1⟩ := hB
  rw [ht] at hP1
  obtain ⟨hP, hD⟩ := PDq.join (w := [(o1, .inl (cA 3, cp, .inl fy)), (oJ4 o0 o1 0 mb (nI ct))]) 1 hP hD [0] [1] rfl rfl (by decide) (by decide) hk1 hFc hP1 hD1 rfl
  generalize H1 = H at hP hS ⊢
  refine lv_aload_n hx hb dJ5_putStringAt_47b60_5 rfl (lv_at hl 2 rfl) ?_
  refine lv_aload_n hx hb dJ5_putStringAt_47b60_6 rfl (lv_at hl 0 rfl) ?_
  refine va_get (D := D) (ci := 1) (v := .ref o1) (C := RJ4) (T := TJ4) (N := 4) hx hb hts inJ4 hown hK hP 1 rfl rfl 0 (by decide) (hts (.fieldLink RJ5 15 "java/lang/AbstractStringBuilder" "value" "[B") (by decide +kernel)) (fun _ h9 => h9) rfl dJ5_putStringAt_47b60_7 ?_
  refine lv_iload_n hx hb dJ5_putStringAt_47b60_10 rfl (lv_at hl 1 rfl) ?_
  refine lv_aload_n hx hb dJ5_putStringAt_47b60_11 rfl (lv_at hl 0 rfl) ?_
  refine va_get (D := D) (ci := 1) (v := .int 0) (C := RJ4) (T := TJ4) (N := 4) hx hb hts inJ4 hown hK hP 1 rfl rfl 1 (by decide) (hts (.fieldLink RJ5 22 "java/lang/AbstractStringBuilder" "coder" "B") (by decide +kernel)) (fun _ h9 => h9) rfl dJ5_putStringAt_47b60_12 ?_
  obtain ⟨hPc, hDc, hFc⟩ := PDq.cut (wc := [(o1, .inl (cA 3, cp, .inl fy))]) hP hD hS hA [0] (by decide) rfl
  refine va_callv (va_runV (As := [.ref o1, .int (nI dp9), .int 0]) (rest := []) ⟨hx, hb, hml, hown, hts⟩ (j_getBytes l D cA sa o1 cp fy k bs dp9 H.size hq hcp hfit hdp) (cwV 3 hts gJ5_putStringAt_47b60_J0_getBytes_840e7 rfl rfl rfl (by decide +kernel) ⟨(Nat.le_of_ble_eq_true rfl), (Nat.le_of_ble_eq_true rfl)⟩) ⟨Wd.blind, SO.recv hso hS, fun U hU hW => ⟨rfl, Wd.call hPc hDc hK hC hZ hS hFc U hU hW⟩⟩ rfl rfl hl.1 rfl (lv_room (Nat.le_of_ble_eq_true rfl)) dJ5_putStringAt_47b60_15 ⟨(Nat.le_of_ble_eq_true rfl), (Nat.le_of_ble_eq_true rfl)⟩) hS (fun q _ h => hFc q h) hFc (fun u t H1 locs ht hvm hw hB hz1 hk1 hS => ?_)
  obtain ⟨fn1, hn2, hP1, hD1⟩ := hB
  rw [ht] at hP1
  obtain ⟨hP, hD⟩ := PDq.join (w := [(oJ4 o0 o1 0 mb (nI ct)), (o1, .inl (cA 3, cp, .inl fn1))]) 1 hP hD [0] [1] rfl rfl (by decide) (by decide) hk1 hFc hP1 hD1 rfl
  generalize H1 = H at hP hS ⊢
  obtain ⟨hP9, hD9⟩ := PDq.sub (ws' := [(oJ4 o0 o1 0 mb (nI ct)), (o1, .inl (cA 3, cp, .inl fn1))]) hP hD [0, 1] (by decide) rfl
  refine W.widen (k := 0) (n := 0) (Nat.le_of_ble_eq_true rfl) (Nat.le_of_ble_eq_true rfl) ?_
  exact (W.vret hx hb hr (fun t ht hW => ⟨⟨(), rfl, trivial, fn1, hn2, by rw [ht]; exact hP9, hD9⟩, hS.F ht⟩) hS.2.2 dJ5_putStringAt_47b60_18)

set_option maxHeartbeats 4000000 in
set_option maxRecDepth 100000 in
/-- append(String) -/
theorem j_appendS5 (l : Launch) (D : va_G) (cA : Nat → ClassId) (sa : Nat → Nat) (o0 : Nat) (o1 : Nat) (ct : Nat) (cp : Nat) (mb : Int32) (fy : Nat → Int32) (k : Nat) (bs : List Int32) (sz : Nat) (hq : (k, bs) ∈ sbL) (hct : ct ≤ cp) (hcp : cp ≤ 126) (hfit : sb_Fit fy) (hc1 : ct + bs.length ≤ 62) : Met l yJ5_append_cf1ce wsJ5_append_cf1ce ({ frames := 4, cells := 1, slots := 260, locals := 105 }) (va_Pc [.ref o0, .ref (sa k)] (Wd D cA sa [(oJ4 o0 o1 0 mb (nI ct)), (o1, .inl (cA 3, cp, .inl fy))] sz)) (va_Qr (fun _ : Unit => True) (fun (_ : Unit) (a9 : Nat) t => a9 = o0 ∧ ∃ z1 : Nat, ∃ cp2 : Nat, ∃ zy : Nat → Int32, ct + bs.length ≤ cp2 ∧ cp2 ≤ 126 ∧ sb_Fit zy ∧ Wq D (va_A [(oJ4 o0 o1 0 mb (nI ct)), (o1, .inl (cA 3, cp, .inl fy))] sz) [(oJ4 o0 z1 0 mb (nI (ct + bs.length))), (z1, .inl (cA 3, cp2, .inl zy))] t) (va_A [(oJ4 o0 o1 0 mb (nI ct)), (o1, .inl (cA 3, cp, .inl fy))] sz)) 1 260 (va_A [(oJ4 o0 o1 0 mb (nI ct)), (o1, .inl (cA 3, cp, .inl fy))] sz) := by
  refine Met.ofW (cc := cJ5_append_cf1ce) (maxL := 3) (ret := (some (.object "java/lang/AbstractStringBuilder"))) (by decide) rfl ?_
  intro p e s m args below meth c s₁ B hml hv
  obtain ⟨rfl, hsz, hP, hK, hD0, hC, hZ⟩ := hv
  have hx := B.exec
  have hb := B.bytes
  have hr := B.returns
  have hts := atoms_spec (ws := wsJ5_append_cf1ce) B.pre
  have hown : s.vm.findClass RJ5 = some m.cls := findClass_of_methodNamed B.named
  have hlocks := B.notSynchronized
  subst hsz
  have hD := hD0.self (sz := s.heap.size)
  generalize hAe : va_A [(oJ4 o0 o1 0 mb (nI ct)), (o1, .inl (cA 3, cp, .inl fy))] s.heap.size = A at hD hZ ⊢
  have hA : ∀ q : Nat, s.heap.size ≤ q → A q := fun q h => by rw [← hAe]; exact Or.inr h
  have hS : va_S A s.heap s.heap [] := va_S.rf
  have hP : va_P D vwCl [(oJ4 o0 o1 0 mb (nI ct)), (o1, .inl (cA 3, cp, .inl fy))] s.heap := hP
  have hl := lv_entry ([.ref o0, .ref (sa k)]) (n := 3) (Nat.le_of_ble_eq_true rfl)
  rw [lg_entry_eq]
  generalize (lg_sl ([.ref o0, .ref (sa k)]) ++ List.replicate (3 - (lg_sl ([.ref o0, .ref (sa k)])).length) Slot.unset).toArray = ls at hl ⊢
  have hl : lv_has ls 3 [(0, .ref o0), (1, .ref (sa k))] := hl
  have inJ4 : ∀ w ∈ u_ws RJ4 TJ4 4, w ∈ wsJ5_append_cf1ce := by decide +kernel
  have hso := hZ.2.2.2.2 (k, bs) hq
  have hsC : va_OF "java/lang/String" "coder" "B" (.int 0) (sa k) A s s.heap := hso.2.1
  have hsV : va_OF "java/lang/String" "value" "[B" (.ref (sa (1000 + k))) (sa k) A s s.heap := hso.2.2.1
  have hsT : va_T .byte (sa (1000 + k)) bs.length (fun j => .int (bs.getD j 0)) A s s.heap := hso.2.2.2
  refine lv_aload_n hx hb dJ5_append_cf1ce_0 rfl (lv_at hl 1 rfl) ?_
  refine lv_ifnonnull (tgt := 9) hx hb dJ5_append_cf1ce_1 (by decide) ?_
  refine lv_aload_n hx hb dJ5_append_cf1ce_9 rfl (lv_at hl 1 rfl) ?_
  obtain ⟨hPc, hDc, hFc⟩ := PDq.cut (wc := []) hP hD hS hA [] (by decide) rfl
  refine va_calli (va_runV (As := []) (rest := []) ⟨hx, hb, hml, hown, hts⟩ (c_slength l D cA sa k bs s.heap.size hq) (cwV 0 hts gJ5_append_cf1ce_J0_length_8abf5 rfl rfl rfl (by decide +kernel) ⟨(Nat.le_of_ble_eq_true rfl), (Nat.le_of_ble_eq_true rfl)⟩) ⟨Wd.blind, SO.recv hso hS, fun U hU hW => ⟨rfl, Wd.call hPc hDc hK hC hZ hS hFc U hU hW⟩⟩ rfl rfl hl.1 rfl (lv_room (Nat.le_of_ble_eq_true rfl)) dJ5_append_cf1ce_10 ⟨(Nat.le_of_ble_eq_true rfl), (Nat.le_of_ble_eq_true rfl)⟩) hS (fun q _ h => hFc q h) hFc (fun rn1 u t H1 locs ht hvm hw hB hz1 hk1 hS => ?_)
  obtain ⟨hP1, hD1⟩ := hB
  rw [ht] at hP1
  obtain ⟨hP, hD⟩ := PDq.join (w := [(oJ4 o0 o1 0 mb (nI ct)), (o1, .inl (cA 3, cp, .inl fy))]) 2 hP hD [] [0, 1] rfl rfl (by decide) (by decide) hk1 hFc hP1 hD1 rfl
  generalize H1 = H at hP hS ⊢
  obtain rfl : rn1 = (nI bs.length) := hw
  refine lv_istore_n (lv' := [(2, .int (nI bs.length)), (0, .ref o0), (1, .ref (sa k))]) hx hb dJ5_append_cf1ce_13 rfl hl (by decide) rfl (fun ls hl => ?_)
  refine lv_aload_n hx hb dJ5_append_cf1ce_14 rfl (lv_at hl 1 rfl) ?_
  refine lv_aload_n hx hb dJ5_append_cf1ce_15 rfl (lv_at hl 1 rfl) ?_
  refine va_get (D := D) (ci := 1) (v := .int (nI ct)) (C := RJ4) (T := TJ4) (N := 4) hx hb hts inJ4 hown hK hP 0 rfl rfl 3 (by decide) (hts (.fieldLink RJ5 79 "java/lang/AbstractStringBuilder" "count" "I") (by decide +kernel)) (fun _ h9 => h9) rfl dJ5_append_cf1ce_16 ?_
  refine lv_iload_n hx hb dJ5_append_cf1ce_19 rfl (lv_at hl 0 rfl) ?_
  refine lv_iadd hx hb dJ5_append_cf1ce_20 ?_
  refine lv_topi (fun yn2 eyn2 => ?_)
  obtain rfl : yn2 = (nI (ct + bs.length)) := eyn2.trans (nI_add ct bs.length)
  obtain ⟨hPc, hDc, hFc⟩ := PDq.cut (wc := [(oJ4 o0 o1 0 mb (nI ct)), (o1, .inl (cA 3, cp, .inl fy))]) hP hD hS hA [0, 1] (by decide) rfl
  refine va_callv (va_runU (As := [.int (nI (ct + bs.length))]) (rest := []) ⟨hx, hb, hml, hown, hts⟩ (j_ensure l D cA sa o0 o1 ct cp mb fy (ct + bs.length) H.size hct hcp hfit (by omega)) (va_cwU 1 hts gJ5_append_cf1ce_J5_ensureCapacityInternal_d00df_u100J4 rfl rfl rfl rfl (by decide +kernel) ⟨(Nat.le_of_ble_eq_true rfl), (Nat.le_of_ble_eq_true rfl)⟩) ⟨Wd.blind, va_recv hK hPc (ci := 1) (q0 := 0) rfl rfl, fun U hU hW => ⟨rfl, Wd.call hPc hDc hK hC hZ hS hFc U hU hW⟩⟩ rfl rfl hl.1 rfl (lv_room (Nat.le_of_ble_eq_true rfl)) dJ5_append_cf1ce_21 ⟨(Nat.le_of_ble_eq_true rfl), (Nat.le_of_ble_eq_true rfl)⟩) hS (fun q _ h => hFc q h) hFc (fun u t H1 locs ht hvm hw hB hz1 hk1 hS => ?_)
  obtain ⟨qn3, qn4, fn5, hn6, hn7, hn8, hn9, hP1, hD1⟩ := hB
  rw [ht] at hP1
  obtain ⟨hP, hD⟩ := PDq.join (w := [(oJ4 o0 qn3 0 mb (nI ct)), (qn3, .inl (cA 3, qn4, .inl fn5))]) 0 hP hD [0, 1] [] rfl rfl (by decide) (by decide) hk1 hFc hP1 hD1 rfl
  generalize H1 = H at hP hS ⊢
  refine lv_aload_n hx hb dJ5_append_cf1ce_24 rfl (lv_at hl 1 rfl) ?_
  refine lv_aload_n hx hb dJ5_append_cf1ce_25 rfl (lv_at hl 1 rfl) ?_
  refine va_get (D := D) (ci := 1) (v := .int (nI ct)) (C := RJ4) (T := TJ4) (N := 4) hx hb hts inJ4 hown hK hP 0 rfl rfl 3 (by decide) (hts (.fieldLink RJ5 79 "java/lang/AbstractStringBuilder" "count" "I") (by decide +kernel)) (fun _ h9 => h9) rfl dJ5_append_cf1ce_26 ?_
  refine lv_aload_n hx hb dJ5_append_cf1ce_29 rfl (lv_at hl 2 rfl) ?_
  obtain ⟨hPc, hDc, hFc⟩ := PDq.cut (wc := [(oJ4 o0 qn3 0 mb (nI ct)), (qn3, .inl (cA 3, qn4, .inl fn5))]) hP hD hS hA [0, 1] (by decide) rfl
  refine va_callv (va_runU (As := [.int (nI ct), .ref (sa k)]) (rest := []) ⟨hx, hb, hml, hown, hts⟩ (j_putStringAt l D cA sa o0 qn3 ct qn4 mb fn5 k bs ct H.size hq hn8 hn9 (by omega)) (va_cwU 2 hts gJ5_append_cf1ce_J5_putStringAt_47b60_u208J4 rfl rfl rfl rfl (by decide +kernel) ⟨(Nat.le_of_ble_eq_true rfl), (Nat.le_of_ble_eq_true rfl)⟩) ⟨Wd.blind, va_recv hK hPc (ci := 1) (q0 := 0) rfl rfl, fun U hU hW => ⟨rfl, Wd.call hPc hDc hK hC hZ hS hFc U hU hW⟩⟩ rfl rfl hl.1 rfl (lv_room (Nat.le_of_ble_eq_true rfl)) dJ5_append_cf1ce_30 ⟨(Nat.le_of_ble_eq_true rfl), (Nat.le_of_ble_eq_true rfl)⟩) hS (fun q _ h => hFc q h) hFc (fun u t H1 locs ht hvm hw hB hz1 hk1 hS => ?_)
  obtain ⟨fn10, hn11, hP1, hD1⟩ := hB
  rw [ht] at hP1
  obtain ⟨hP, hD⟩ := PDq.join (w := [(oJ4 o0 qn3 0 mb (nI ct)), (qn3, .inl (cA 3, qn4, .inl fn10))]) 0 hP hD [0, 1] [] rfl rfl (by decide) (by decide) hk1 hFc hP1 hD1 rfl
  generalize H1 = H at hP hS ⊢
  refine lv_aload_n hx hb dJ5_append_cf1ce_33 rfl (lv_at hl 1 rfl) ?_
  refine lv_dup hx hb dJ5_append_cf1ce_34 rfl ?_
  refine va_get (D := D) (ci := 1) (v := .int (nI ct)) (C := RJ4) (T := TJ4) (N := 4) hx hb hts inJ4 hown hK hP 0 rfl rfl 3 (by decide) (hts (.fieldLink RJ5 79 "java/lang/AbstractStringBuilder" "count" "I") (by decide +kernel)) (fun _ h9 => h9) rfl dJ5_append_cf1ce_35 ?_
  refine lv_iload_n hx hb dJ5_append_cf1ce_38 rfl (lv_at hl 0 rfl) ?_
  refine lv_iadd hx hb dJ5_append_cf1ce_39 ?_
  refine lv_topi (fun yn12 eyn12 => ?_)
  obtain rfl : yn12 = (nI (ct + bs.length)) := eyn12.trans (nI_add ct bs.length)
  refine va_put (D := D) (ci := 1) (v := .int (nI (ct + bs.length))) (ty := .int) (C := RJ4) (T := TJ4) (N := 4) hx hb hts inJ4 tyJ4 tyJ4_ok nmJ4 hown hK hP hD hS 0 rfl rfl 3 (by decide) (hts (.fieldLink RJ5 79 "java/lang/AbstractStringBuilder" "count" "I") (by decide +kernel)) (fun _ h9 => h9) rfl (by decide +kernel) rfl rfl (Nat.le_of_ble_eq_true rfl) dJ5_append_cf1ce_40 (fun H locs hP hD hS => ?_)
  obtain ⟨hP, hD⟩ : PDq D A [(oJ4 o0 qn3 0 mb (nI (ct + bs.length))), (qn3, .inl (cA 3, qn4, .inl fn10))] H := ⟨hP, hD⟩
  refine lv_aload_n hx hb dJ5_append_cf1ce_43 rfl (lv_at hl 1 rfl) ?_
  obtain ⟨hP9, hD9⟩ := PDq.sub (ws' := [(oJ4 o0 qn3 0 mb (nI (ct + bs.length))), (qn3, .inl (cA 3, qn4, .inl fn10))]) hP hD [0, 1] (by decide) rfl
  refine W.widen (k := 1) (n := 260) (Nat.le_of_ble_eq_true rfl) (Nat.le_of_ble_eq_true rfl) ?_
  exact (W.aret (v := .ref o0) hx hb hr (Or.inl ⟨_, rfl⟩) (Or.inr ⟨_, rfl⟩) (fun t ht hW => ⟨⟨(), o0, rfl, trivial, rfl, qn3, qn4, fn10, (by omega), hn8, hn11, by rw [ht]; exact hP9, hD9⟩, hS.F ht⟩) hS.2.2 dJ5_append_cf1ce_44)

set_option maxHeartbeats 4000000 in
set_option maxRecDepth 100000 in
/-- append(String) -/
theorem j_appendS (l : Launch) (D : va_G) (cA : Nat → ClassId) (sa : Nat → Nat) (o0 : Nat) (o1 : Nat) (ct : Nat) (cp : Nat) (mb : Int32) (fy : Nat → Int32) (k : Nat) (bs : List Int32) (bl : Nat) (sz : Nat) (hq : (k, bs) ∈ sbL) (hct : ct ≤ cp) (hcp : cp ≤ 126) (hfit : sb_Fit fy) (hbl : bs.length = bl) (hc1 : ct + bl ≤ 62) : Met l yJ4_append_15ec4 wsJ4_append_15ec4 ({ frames := 5, cells := 1, slots := 260, locals := 127 }) (va_Pc [.ref o0, .ref (sa k)] (Wd D cA sa [(oJ4 o0 o1 0 mb (nI ct)), (o1, .inl (cA 3, cp, .inl fy))] sz)) (va_Qr (fun _ : Unit => True) (fun (_ : Unit) (a9 : Nat) t => a9 = o0 ∧ ∃ z1 : Nat, ∃ cp2 : Nat, ∃ zy : Nat → Int32, ∃ ct2 : Nat, ct2 = ct + bl ∧ ct2 ≤ cp2 ∧ cp2 ≤ 126 ∧ sb_Fit zy ∧ Wq D (va_A [(oJ4 o0 o1 0 mb (nI ct)), (o1, .inl (cA 3, cp, .inl fy))] sz) [(oJ4 o0 z1 0 mb (nI ct2)), (z1, .inl (cA 3, cp2, .inl zy))] t) (va_A [(oJ4 o0 o1 0 mb (nI ct)), (o1, .inl (cA 3, cp, .inl fy))] sz)) 1 260 (va_A [(oJ4 o0 o1 0 mb (nI ct)), (o1, .inl (cA 3, cp, .inl fy))] sz) := by
  refine Met.ofW (cc := cJ4_append_15ec4) (maxL := 2) (ret := (some (.object "java/lang/StringBuilder"))) (by decide) rfl ?_
  intro p e s m args below meth c s₁ B hml hv
  obtain ⟨rfl, hsz, hP, hK, hD0, hC, hZ⟩ := hv
  have hx := B.exec
  have hb := B.bytes
  have hr := B.returns
  have hts := atoms_spec (ws := wsJ4_append_15ec4) B.pre
  have hown : s.vm.findClass RJ4 = some m.cls := findClass_of_methodNamed B.named
  have hlocks := B.notSynchronized
  subst hsz
  have hD := hD0.self (sz := s.heap.size)
  generalize hAe : va_A [(oJ4 o0 o1 0 mb (nI ct)), (o1, .inl (cA 3, cp, .inl fy))] s.heap.size = A at hD hZ ⊢
  have hA : ∀ q : Nat, s.heap.size ≤ q → A q := fun q h => by rw [← hAe]; exact Or.inr h
  have hS : va_S A s.heap s.heap [] := va_S.rf
  have hP : va_P D vwCl [(oJ4 o0 o1 0 mb (nI ct)), (o1, .inl (cA 3, cp, .inl fy))] s.heap := hP
  have hl := lv_entry ([.ref o0, .ref (sa k)]) (n := 2) (Nat.le_of_ble_eq_true rfl)
  rw [lg_entry_eq]
  generalize (lg_sl ([.ref o0, .ref (sa k)]) ++ List.replicate (2 - (lg_sl ([.ref o0, .ref (sa k)])).length) Slot.unset).toArray = ls at hl ⊢
  have hl : lv_has ls 2 [(0, .ref o0), (1, .ref (sa k))] := hl
  have hso := hZ.2.2.2.2 (k, bs) hq
  have hsC : va_OF "java/lang/String" "coder" "B" (.int 0) (sa k) A s s.heap := hso.2.1
  have hsV : va_OF "java/lang/String" "value" "[B" (.ref (sa (1000 + k))) (sa k) A s s.heap := hso.2.2.1
  have hsT : va_T .byte (sa (1000 + k)) bs.length (fun j => .int (bs.getD j 0)) A s s.heap := hso.2.2.2
  refine lv_aload_n hx hb dJ4_append_15ec4_0 rfl (lv_at hl 0 rfl) ?_
  refine lv_aload_n hx hb dJ4_append_15ec4_1 rfl (lv_at hl 1 rfl) ?_
  obtain ⟨hPc, hDc, hFc⟩ := PDq.cut (wc := [(oJ4 o0 o1 0 mb (nI ct)), (o1, .inl (cA 3, cp, .inl fy))]) hP hD hS hA [0, 1] (by decide) rfl
  refine va_callr (va_runSU (As := [.ref (sa k)]) (rest := []) (hK.1 1 _ rfl).2 ⟨hx, hb, hml, hown, hts⟩ (j_appendS5 l D cA sa o0 o1 ct cp mb fy k bs s.heap.size hq hct hcp hfit (by omega)) (va_cwSU 1 hts gJ4_append_15ec4_J5_append_cf1ce_s29 rfl rfl rfl (by decide +kernel) ⟨(Nat.le_of_ble_eq_true rfl), (Nat.le_of_ble_eq_true rfl)⟩) ⟨Wd.blind, va_recv hK hPc (ci := 1) (q0 := 0) rfl rfl, fun U hU hW => ⟨rfl, Wd.call hPc hDc hK hC hZ hS hFc U hU hW⟩⟩ rfl rfl hl.1 rfl (lv_room (Nat.le_of_ble_eq_true rfl)) dJ4_append_15ec4_2 ⟨(Nat.le_of_ble_eq_true rfl), (Nat.le_of_ble_eq_true rfl)⟩) hS (fun q _ h => hFc q h) hFc (fun u ra t H1 locs ht hvm hw hB hz1 hk1 hS => ?_)
  obtain ⟨hra, qn1, qn2, fn3, hn4, hn5, hn6, hP1, hD1⟩ := hB
  obtain rfl := hra.symm
  rw [ht] at hP1
  obtain ⟨hP, hD⟩ := PDq.join (w := [(oJ4 o0 qn1 0 mb (nI (ct + bs.length))), (qn1, .inl (cA 3, qn2, .inl fn3))]) 0 hP hD [0, 1] [] rfl rfl (by decide) (by decide) hk1 hFc hP1 hD1 rfl
  generalize H1 = H at hP hS ⊢
  refine lv_pop hx hb dJ4_append_15ec4_5 rfl ?_
  refine lv_aload_n hx hb dJ4_append_15ec4_6 rfl (lv_at hl 0 rfl) ?_
  obtain ⟨hP9, hD9⟩ := PDq.sub (ws' := [(oJ4 o0 qn1 0 mb (nI (ct + bs.length))), (qn1, .inl (cA 3, qn2, .inl fn3))]) hP hD [0, 1] (by decide) rfl
  refine W.widen (k := 1) (n := 260) (Nat.le_of_ble_eq_true rfl) (Nat.le_of_ble_eq_true rfl) ?_
  exact (W.aret (v := .ref o0) hx hb hr (Or.inl ⟨_, rfl⟩) (Or.inr ⟨_, rfl⟩) (fun t ht hW => ⟨⟨(), o0, rfl, trivial, rfl, qn1, qn2, fn3, (ct + bs.length), (by omega), (by omega), hn5, hn6, by rw [ht]; exact hP9, hD9⟩, hS.F ht⟩) hS.2.2 dJ4_append_15ec4_7)

set_option maxHeartbeats 4000000 in
set_option maxRecDepth 100000 in
/-- stringSize -/
theorem j_stringSize (l : Launch) (D : va_G) (cA : Nat → ClassId) (sa : Nat → Nat) (a : Int32) (sz : Nat) : Met l yJ6_stringSize_0f7a4 wsJ6_stringSize_0f7a4 ({ frames := 0, cells := 0, slots := 0, locals := 0 }) (va_Pc [.int a] (Wd D cA sa [] sz)) (va_Qi (fun (r : Int32) (_ : Unit) => ∃ n, n ≤ 11 ∧ r = nI n ∧ SZ a n) (fun (_ : Unit) t => Wq D (va_A [] sz) [] t) (va_A [] sz)) 0 0 (va_A [] sz) := by
  refine Met.ofW (cc := cJ6_stringSize_0f7a4) (maxL := 4) (ret := (some .int)) (by decide) rfl ?_
  intro p e s m args below meth c s₁ B hml hv
  obtain ⟨rfl, hsz, hP, hK, hD0, hC, hZ⟩ := hv
  have hx := B.exec
  have hb := B.bytes
  have hr := B.returns
  have hts := atoms_spec (ws := wsJ6_stringSize_0f7a4) B.pre
  have hown : s.vm.findClass RJ6 = some m.cls := findClass_of_methodNamed B.named
  have hlocks := B.notSynchronized
  subst hsz
  have hD := hD0.self (sz := s.heap.size)
  generalize hAe : va_A [] s.heap.size = A at hD hZ ⊢
  have hA : ∀ q : Nat, s.heap.size ≤ q → A q := fun q h => by rw [← hAe]; exact Or.inr h
  have hS : va_S A s.heap s.heap [] := va_S.rf
  have hP : va_P D vwCl [] s.heap := hP
  have hl := lv_entry ([.int a]) (n := 4) (Nat.le_of_ble_eq_true rfl)
  rw [lg_entry_eq]
  generalize (lg_sl ([.int a]) ++ List.replicate (4 - (lg_sl ([.int a])).length) Slot.unset).toArray = ls at hl ⊢
  have hl : lv_has ls 4 [(0, .int a)] := hl
  refine lv_iconst (v := 1) hx hb dJ6_stringSize_0f7a4_0 (by decide) ?_
  refine lv_istore_n (lv' := [(1, .int 1), (0, .int a)]) hx hb dJ6_stringSize_0f7a4_1 rfl hl (by decide) rfl (fun ls hl => ?_)
  refine lv_iload_n hx hb dJ6_stringSize_0f7a4_2 rfl (lv_at hl 1 rfl) ?_
  refine lv_if_lt (tgt := 11) hx hb dJ6_stringSize_0f7a4_3 (by decide) (fun c1 => ?_) (fun c1 => ?_)
  · skip
    obtain ⟨w9, hw9, ew9⟩ := ng_of (Int32.le_of_lt c1)
    refine lv_bipush (v := (-10)) hx hb dJ6_stringSize_0f7a4_11 (by decide) ?_
    refine lv_istore_n (lv' := [(2, .int (-10)), (1, .int 1), (0, .int a)]) hx hb dJ6_stringSize_0f7a4_13 rfl hl (by decide) rfl (fun ls hl => ?_)
    refine lv_iconst (v := 1) hx hb dJ6_stringSize_0f7a4_14 (by decide) ?_
    refine lv_istore_n (lv' := [(3, .int 1), (2, .int (-10)), (1, .int 1), (0, .int a)]) hx hb dJ6_stringSize_0f7a4_15 rfl hl (by decide) rfl (fun ls hl => ?_)
    refine lv_iload_n hx hb dJ6_stringSize_0f7a4_16 rfl (lv_at hl 0 rfl) ?_
    refine lv_bipush (v := 10) hx hb dJ6_stringSize_0f7a4_17 (by decide) ?_
    refine lv_icmp_ge (tgt := 42) hx hb dJ6_stringSize_0f7a4_19 (by decide) (fun c9 => absurd c9 (by decide)) (fun c2 => ?_)
    refine lv_iload_n hx hb dJ6_stringSize_0f7a4_22 rfl (lv_at hl 3 rfl) ?_
    refine lv_iload_n hx hb dJ6_stringSize_0f7a4_23 rfl (lv_at hl 1 rfl) ?_
    refine lv_icmp_le (tgt := 31) hx hb dJ6_stringSize_0f7a4_24 (by decide) (fun c3 => ?_) (fun c3 => ?_)
    · skip
      refine lv_bipush (v := 10) hx hb dJ6_stringSize_0f7a4_31 (by decide) ?_
      refine lv_iload_n hx hb dJ6_stringSize_0f7a4_33 rfl (lv_at hl 1 rfl) ?_
      refine lv_imul hx hb dJ6_stringSize_0f7a4_34 ?_
      refine lv_topi (fun yn4 eyn4 => ?_)
      obtain rfl : yn4 = (-100) := eyn4.trans (by first | rfl | decide +kernel)
      refine lv_istore_n (lv' := [(2, .int (-100)), (3, .int 1), (1, .int 1), (0, .int a)]) hx hb dJ6_stringSize_0f7a4_35 rfl hl (by decide) rfl (fun ls hl => ?_)
      refine lv_iinc (v := 2) (lv' := [(3, .int 2), (2, .int (-100)), (1, .int 1), (0, .int a)]) hx hb dJ6_stringSize_0f7a4_36 hl (k := 1) rfl (by first | rfl | decide +kernel) (by decide) rfl (fun ls hl => ?_)
      refine lv_goto (tgt := 16) hx hb dJ6_stringSize_0f7a4_39 (by decide) ?_
      refine lv_iload_n hx hb dJ6_stringSize_0f7a4_16 rfl (lv_at hl 0 rfl) ?_
      refine lv_bipush (v := 10) hx hb dJ6_stringSize_0f7a4_17 (by decide) ?_
      refine lv_icmp_ge (tgt := 42) hx hb dJ6_stringSize_0f7a4_19 (by decide) (fun c9 => absurd c9 (by decide)) (fun c5 => ?_)
      refine lv_iload_n hx hb dJ6_stringSize_0f7a4_22 rfl (lv_at hl 3 rfl) ?_
      refine lv_iload_n hx hb dJ6_stringSize_0f7a4_23 rfl (lv_at hl 1 rfl) ?_
      refine lv_icmp_le (tgt := 31) hx hb dJ6_stringSize_0f7a4_24 (by decide) (fun c6 => ?_) (fun c6 => ?_)
      · skip
        refine lv_bipush (v := 10) hx hb dJ6_stringSize_0f7a4_31 (by decide) ?_
        refine lv_iload_n hx hb dJ6_stringSize_0f7a4_33 rfl (lv_at hl 1 rfl) ?_
        refine lv_imul hx hb dJ6_stringSize_0f7a4_34 ?_
        refine lv_topi (fun yn7 eyn7 => ?_)
        obtain rfl : yn7 = (-1000) := eyn7.trans (by first | rfl | decide +kernel)
        refine lv_istore_n (lv' := [(2, .int (-1000)), (3, .int 2), (1, .int 1), (0, .int a)]) hx hb dJ6_stringSize_0f7a4_35 rfl hl (by decide) rfl (fun ls hl => ?_)
        refine lv_iinc (v := 3) (lv' := [(3, .int 3), (2, .int (-1000)), (1, .int 1), (0, .int a)]) hx hb dJ6_stringSize_0f7a4_36 hl (k := 1) rfl (by first | rfl | decide +kernel) (by decide) rfl (fun ls hl => ?_)
        refine lv_goto (tgt := 16) hx hb dJ6_stringSize_0f7a4_39 (by decide) ?_
        refine lv_iload_n hx hb dJ6_stringSize_0f7a4_16 rfl (lv_at hl 0 rfl) ?_
        refine lv_bipush (v := 10) hx hb dJ6_stringSize_0f7a4_17 (by decide) ?_
        refine lv_icmp_ge (tgt := 42) hx hb dJ6_stringSize_0f7a4_19 (by decide) (fun c9 => absurd c9 (by decide)) (fun c8 => ?_)
        refine lv_iload_n hx hb dJ6_stringSize_0f7a4_22 rfl (lv_at hl 3 rfl) ?_
        refine lv_iload_n hx hb dJ6_stringSize_0f7a4_23 rfl (lv_at hl 1 rfl) ?_
        refine lv_icmp_le (tgt := 31) hx hb dJ6_stringSize_0f7a4_24 (by decide) (fun c9 => ?_) (fun c9 => ?_)
        · skip
          refine lv_bipush (v := 10) hx hb dJ6_stringSize_0f7a4_31 (by decide) ?_
          refine lv_iload_n hx hb dJ6_stringSize_0f7a4_33 rfl (lv_at hl 1 rfl) ?_
          refine lv_imul hx hb dJ6_stringSize_0f7a4_34 ?_
          refine lv_topi (fun yn10 eyn10 => ?_)
          obtain rfl : yn10 = (-10000) := eyn10.trans (by first | rfl | decide +kernel)
          refine lv_istore_n (lv' := [(2, .int (-10000)), (3, .int 3), (1, .int 1), (0, .int a)]) hx hb dJ6_stringSize_0f7a4_35 rfl hl (by decide) rfl (fun ls hl => ?_)
          refine lv_iinc (v := 4) (lv' := [(3, .int 4), (2, .int (-10000)), (1, .int 1), (0, .int a)]) hx hb dJ6_stringSize_0f7a4_36 hl (k := 1) rfl (by first | rfl | decide +kernel) (by decide) rfl (fun ls hl => ?_)
          refine lv_goto (tgt := 16) hx hb dJ6_stringSize_0f7a4_39 (by decide) ?_
          refine lv_iload_n hx hb dJ6_stringSize_0f7a4_16 rfl (lv_at hl 0 rfl) ?_
          refine lv_bipush (v := 10) hx hb dJ6_stringSize_0f7a4_17 (by decide) ?_
          refine lv_icmp_ge (tgt := 42) hx hb dJ6_stringSize_0f7a4_19 (by decide) (fun c9 => absurd c9 (by decide)) (fun c11 => ?_)
          refine lv_iload_n hx hb dJ6_stringSize_0f7a4_22 rfl (lv_at hl 3 rfl) ?_
          refine lv_iload_n hx hb dJ6_stringSize_0f7a4_23 rfl (lv_at hl 1 rfl) ?_
          refine lv_icmp_le (tgt := 31) hx hb dJ6_stringSize_0f7a4_24 (by decide) (fun c12 => ?_) (fun c12 => ?_)
          · skip
            refine lv_bipush (v := 10) hx hb dJ6_stringSize_0f7a4_31 (by decide) ?_
            refine lv_iload_n hx hb dJ6_stringSize_0f7a4_33 rfl (lv_at hl 1 rfl) ?_
            refine lv_imul hx hb dJ6_stringSize_0f7a4_34 ?_
            refine lv_topi (fun yn13 eyn13 => ?_)
            obtain rfl : yn13 = (-100000) := eyn13.trans (by first | rfl | decide +kernel)
            refine lv_istore_n (lv' := [(2, .int (-100000)), (3, .int 4), (1, .int 1), (0, .int a)]) hx hb dJ6_stringSize_0f7a4_35 rfl hl (by decide) rfl (fun ls hl => ?_)
            refine lv_iinc (v := 5) (lv' := [(3, .int 5), (2, .int (-100000)), (1, .int 1), (0, .int a)]) hx hb dJ6_stringSize_0f7a4_36 hl (k := 1) rfl (by first | rfl | decide +kernel) (by decide) rfl (fun ls hl => ?_)
            refine lv_goto (tgt := 16) hx hb dJ6_stringSize_0f7a4_39 (by decide) ?_
            refine lv_iload_n hx hb dJ6_stringSize_0f7a4_16 rfl (lv_at hl 0 rfl) ?_
            refine lv_bipush (v := 10) hx hb dJ6_stringSize_0f7a4_17 (by decide) ?_
            refine lv_icmp_ge (tgt := 42) hx hb dJ6_stringSize_0f7a4_19 (by decide) (fun c9 => absurd c9 (by decide)) (fun c14 => ?_)
            refine lv_iload_n hx hb dJ6_stringSize_0f7a4_22 rfl (lv_at hl 3 rfl) ?_
            refine lv_iload_n hx hb dJ6_stringSize_0f7a4_23 rfl (lv_at hl 1 rfl) ?_
            refine lv_icmp_le (tgt := 31) hx hb dJ6_stringSize_0f7a4_24 (by decide) (fun c15 => ?_) (fun c15 => ?_)
            · skip
              refine lv_bipush (v := 10) hx hb dJ6_stringSize_0f7a4_31 (by decide) ?_
              refine lv_iload_n hx hb dJ6_stringSize_0f7a4_33 rfl (lv_at hl 1 rfl) ?_
              refine lv_imul hx hb dJ6_stringSize_0f7a4_34 ?_
              refine lv_topi (fun yn16 eyn16 => ?_)
              obtain rfl : yn16 = (-1000000) := eyn16.trans (by first | rfl | decide +kernel)
              refine lv_istore_n (lv' := [(2, .int (-1000000)), (3, .int 5), (1, .int 1), (0, .int a)]) hx hb dJ6_stringSize_0f7a4_35 rfl hl (by decide) rfl (fun ls hl => ?_)
              refine lv_iinc (v := 6) (lv' := [(3, .int 6), (2, .int (-1000000)), (1, .int 1), (0, .int a)]) hx hb dJ6_stringSize_0f7a4_36 hl (k := 1) rfl (by first | rfl | decide +kernel) (by decide) rfl (fun ls hl => ?_)
              refine lv_goto (tgt := 16) hx hb dJ6_stringSize_0f7a4_39 (by decide) ?_
              refine lv_iload_n hx hb dJ6_stringSize_0f7a4_16 rfl (lv_at hl 0 rfl) ?_
              refine lv_bipush (v := 10) hx hb dJ6_stringSize_0f7a4_17 (by decide) ?_
              refine lv_icmp_ge (tgt := 42) hx hb dJ6_stringSize_0f7a4_19 (by decide) (fun c9 => absurd c9 (by decide)) (fun c17 => ?_)
              refine lv_iload_n hx hb dJ6_stringSize_0f7a4_22 rfl (lv_at hl 3 rfl) ?_
              refine lv_iload_n hx hb dJ6_stringSize_0f7a4_23 rfl (lv_at hl 1 rfl) ?_
              refine lv_icmp_le (tgt := 31) hx hb dJ6_stringSize_0f7a4_24 (by decide) (fun c18 => ?_) (fun c18 => ?_)
              · skip
                refine lv_bipush (v := 10) hx hb dJ6_stringSize_0f7a4_31 (by decide) ?_
                refine lv_iload_n hx hb dJ6_stringSize_0f7a4_33 rfl (lv_at hl 1 rfl) ?_
                refine lv_imul hx hb dJ6_stringSize_0f7a4_34 ?_
                refine lv_topi (fun yn19 eyn19 => ?_)
                obtain rfl : yn19 = (-10000000) := eyn19.trans (by first | rfl | decide +kernel)
                refine lv_istore_n (lv' := [(2, .int (-10000000)), (3, .int 6), (1, .int 1), (0, .int a)]) hx hb dJ6_stringSize_0f7a4_35 rfl hl (by decide) rfl (fun ls hl => ?_)
                refine lv_iinc (v := 7) (lv' := [(3, .int 7), (2, .int (-10000000)), (1, .int 1), (0, .int a)]) hx hb dJ6_stringSize_0f7a4_36 hl (k := 1) rfl (by first | rfl | decide +kernel) (by decide) rfl (fun ls hl => ?_)
                refine lv_goto (tgt := 16) hx hb dJ6_stringSize_0f7a4_39 (by decide) ?_
                refine lv_iload_n hx hb dJ6_stringSize_0f7a4_16 rfl (lv_at hl 0 rfl) ?_
                refine lv_bipush (v := 10) hx hb dJ6_stringSize_0f7a4_17 (by decide) ?_
                refine lv_icmp_ge (tgt := 42) hx hb dJ6_stringSize_0f7a4_19 (by decide) (fun c9 => absurd c9 (by decide)) (fun c20 => ?_)
                refine lv_iload_n hx hb dJ6_stringSize_0f7a4_22 rfl (lv_at hl 3 rfl) ?_
                refine lv_iload_n hx hb dJ6_stringSize_0f7a4_23 rfl (lv_at hl 1 rfl) ?_
                refine lv_icmp_le (tgt := 31) hx hb dJ6_stringSize_0f7a4_24 (by decide) (fun c21 => ?_) (fun c21 => ?_)
                · skip
                  refine lv_bipush (v := 10) hx hb dJ6_stringSize_0f7a4_31 (by decide) ?_
                  refine lv_iload_n hx hb dJ6_stringSize_0f7a4_33 rfl (lv_at hl 1 rfl) ?_
                  refine lv_imul hx hb dJ6_stringSize_0f7a4_34 ?_
                  refine lv_topi (fun yn22 eyn22 => ?_)
                  obtain rfl : yn22 = (-100000000) := eyn22.trans (by first | rfl | decide +kernel)
                  refine lv_istore_n (lv' := [(2, .int (-100000000)), (3, .int 7), (1, .int 1), (0, .int a)]) hx hb dJ6_stringSize_0f7a4_35 rfl hl (by decide) rfl (fun ls hl => ?_)
                  refine lv_iinc (v := 8) (lv' := [(3, .int 8), (2, .int (-100000000)), (1, .int 1), (0, .int a)]) hx hb dJ6_stringSize_0f7a4_36 hl (k := 1) rfl (by first | rfl | decide +kernel) (by decide) rfl (fun ls hl => ?_)
                  refine lv_goto (tgt := 16) hx hb dJ6_stringSize_0f7a4_39 (by decide) ?_
                  refine lv_iload_n hx hb dJ6_stringSize_0f7a4_16 rfl (lv_at hl 0 rfl) ?_
                  refine lv_bipush (v := 10) hx hb dJ6_stringSize_0f7a4_17 (by decide) ?_
                  refine lv_icmp_ge (tgt := 42) hx hb dJ6_stringSize_0f7a4_19 (by decide) (fun c9 => absurd c9 (by decide)) (fun c23 => ?_)
                  refine lv_iload_n hx hb dJ6_stringSize_0f7a4_22 rfl (lv_at hl 3 rfl) ?_
                  refine lv_iload_n hx hb dJ6_stringSize_0f7a4_23 rfl (lv_at hl 1 rfl) ?_
                  refine lv_icmp_le (tgt := 31) hx hb dJ6_stringSize_0f7a4_24 (by decide) (fun c24 => ?_) (fun c24 => ?_)
                  · skip
                    refine lv_bipush (v := 10) hx hb dJ6_stringSize_0f7a4_31 (by decide) ?_
                    refine lv_iload_n hx hb dJ6_stringSize_0f7a4_33 rfl (lv_at hl 1 rfl) ?_
                    refine lv_imul hx hb dJ6_stringSize_0f7a4_34 ?_
                    refine lv_topi (fun yn25 eyn25 => ?_)
                    obtain rfl : yn25 = (-1000000000) := eyn25.trans (by first | rfl | decide +kernel)
                    refine lv_istore_n (lv' := [(2, .int (-1000000000)), (3, .int 8), (1, .int 1), (0, .int a)]) hx hb dJ6_stringSize_0f7a4_35 rfl hl (by decide) rfl (fun ls hl => ?_)
                    refine lv_iinc (v := 9) (lv' := [(3, .int 9), (2, .int (-1000000000)), (1, .int 1), (0, .int a)]) hx hb dJ6_stringSize_0f7a4_36 hl (k := 1) rfl (by first | rfl | decide +kernel) (by decide) rfl (fun ls hl => ?_)
                    refine lv_goto (tgt := 16) hx hb dJ6_stringSize_0f7a4_39 (by decide) ?_
                    refine lv_iload_n hx hb dJ6_stringSize_0f7a4_16 rfl (lv_at hl 0 rfl) ?_
                    refine lv_bipush (v := 10) hx hb dJ6_stringSize_0f7a4_17 (by decide) ?_
                    refine lv_icmp_ge (tgt := 42) hx hb dJ6_stringSize_0f7a4_19 (by decide) (fun c9 => absurd c9 (by decide)) (fun c26 => ?_)
                    refine lv_iload_n hx hb dJ6_stringSize_0f7a4_22 rfl (lv_at hl 3 rfl) ?_
                    refine lv_iload_n hx hb dJ6_stringSize_0f7a4_23 rfl (lv_at hl 1 rfl) ?_
                    refine lv_icmp_le (tgt := 31) hx hb dJ6_stringSize_0f7a4_24 (by decide) (fun c27 => ?_) (fun c27 => ?_)
                    · skip
                      refine lv_bipush (v := 10) hx hb dJ6_stringSize_0f7a4_31 (by decide) ?_
                      refine lv_iload_n hx hb dJ6_stringSize_0f7a4_33 rfl (lv_at hl 1 rfl) ?_
                      refine lv_imul hx hb dJ6_stringSize_0f7a4_34 ?_
                      refine lv_topi (fun yn28 eyn28 => ?_)
                      obtain rfl : yn28 = (-1410065408) := eyn28.trans (by first | rfl | decide +kernel)
                      refine lv_istore_n (lv' := [(2, .int (-1410065408)), (3, .int 9), (1, .int 1), (0, .int a)]) hx hb dJ6_stringSize_0f7a4_35 rfl hl (by decide) rfl (fun ls hl => ?_)
                      refine lv_iinc (v := 10) (lv' := [(3, .int 10), (2, .int (-1410065408)), (1, .int 1), (0, .int a)]) hx hb dJ6_stringSize_0f7a4_36 hl (k := 1) rfl (by first | rfl | decide +kernel) (by decide) rfl (fun ls hl => ?_)
                      refine lv_goto (tgt := 16) hx hb dJ6_stringSize_0f7a4_39 (by decide) ?_
                      refine lv_iload_n hx hb dJ6_stringSize_0f7a4_16 rfl (lv_at hl 0 rfl) ?_
                      refine lv_bipush (v := 10) hx hb dJ6_stringSize_0f7a4_17 (by decide) ?_
                      refine lv_icmp_ge (tgt := 42) hx hb dJ6_stringSize_0f7a4_19 (by decide) (fun c29 => ?_) (fun c9 => absurd c9 (by decide))
                      refine lv_bipush (v := 10) hx hb dJ6_stringSize_0f7a4_42 (by decide) ?_
                      refine lv_iload_n hx hb dJ6_stringSize_0f7a4_44 rfl (lv_at hl 2 rfl) ?_
                      refine lv_iadd hx hb dJ6_stringSize_0f7a4_45 ?_
                      refine lv_topi (fun yn30 eyn30 => ?_)
                      obtain rfl : yn30 = 11 := eyn30.trans (by first | rfl | decide +kernel)
                      obtain ⟨hP9, hD9⟩ := PDq.sub (ws' := []) hP hD [] (by decide) rfl
                      refine W.widen (k := 0) (n := 0) (Nat.le_of_ble_eq_true rfl) (Nat.le_of_ble_eq_true rfl) ?_
                      exact (W.iret (v := 11) hx hb hr (fun t ht hW => ⟨⟨11, (), rfl, ⟨11, by omega, rfl, w9, hw9, Or.inl ⟨c1, ew9, by rw [sz_end hw9 ew9 c27 (by decide)]⟩⟩, by rw [ht]; exact hP9, hD9⟩, hS.F ht⟩) hS.2.2 dJ6_stringSize_0f7a4_46)
                    · skip
                      refine lv_iload_n hx hb dJ6_stringSize_0f7a4_27 rfl (lv_at hl 0 rfl) ?_
                      refine lv_iload_n hx hb dJ6_stringSize_0f7a4_28 rfl (lv_at hl 2 rfl) ?_
                      refine lv_iadd hx hb dJ6_stringSize_0f7a4_29 ?_
                      refine lv_topi (fun yn31 eyn31 => ?_)
                      obtain rfl : yn31 = 10 := eyn31.trans (by first | rfl | decide +kernel)
                      obtain ⟨hP9, hD9⟩ := PDq.sub (ws' := []) hP hD [] (by decide) rfl
                      refine W.widen (k := 0) (n := 0) (Nat.le_of_ble_eq_true rfl) (Nat.le_of_ble_eq_true rfl) ?_
                      exact (W.iret (v := 10) hx hb hr (fun t ht hW => ⟨⟨10, (), rfl, ⟨10, by omega, rfl, w9, hw9, Or.inl ⟨c1, ew9, by rw [sz_mid hw9 ew9 (i := 9) (by decide) (by decide) (Or.inr ⟨c24, by decide⟩) c27 (by decide)]⟩⟩, by rw [ht]; exact hP9, hD9⟩, hS.F ht⟩) hS.2.2 dJ6_stringSize_0f7a4_30)
                  · skip
                    refine lv_iload_n hx hb dJ6_stringSize_0f7a4_27 rfl (lv_at hl 0 rfl) ?_
                    refine lv_iload_n hx hb dJ6_stringSize_0f7a4_28 rfl (lv_at hl 2 rfl) ?_
                    refine lv_iadd hx hb dJ6_stringSize_0f7a4_29 ?_
                    refine lv_topi (fun yn32 eyn32 => ?_)
                    obtain rfl : yn32 = 9 := eyn32.trans (by first | rfl | decide +kernel)
                    obtain ⟨hP9, hD9⟩ := PDq.sub (ws' := []) hP hD [] (by decide) rfl
                    refine W.widen (k := 0) (n := 0) (Nat.le_of_ble_eq_true rfl) (Nat.le_of_ble_eq_true rfl) ?_
                    exact (W.iret (v := 9) hx hb hr (fun t ht hW => ⟨⟨9, (), rfl, ⟨9, by omega, rfl, w9, hw9, Or.inl ⟨c1, ew9, by rw [sz_mid hw9 ew9 (i := 8) (by decide) (by decide) (Or.inr ⟨c21, by decide⟩) c24 (by decide)]⟩⟩, by rw [ht]; exact hP9, hD9⟩, hS.F ht⟩) hS.2.2 dJ6_stringSize_0f7a4_30)
                · skip
                  refine lv_iload_n hx hb dJ6_stringSize_0f7a4_27 rfl (lv_at hl 0 rfl) ?_
                  refine lv_iload_n hx hb dJ6_stringSize_0f7a4_28 rfl (lv_at hl 2 rfl) ?_
                  refine lv_iadd hx hb dJ6_stringSize_0f7a4_29 ?_
                  refine lv_topi (fun yn33 eyn33 => ?_)
                  obtain rfl : yn33 = 8 := eyn33.trans (by first | rfl | decide +kernel)
                  obtain ⟨hP9, hD9⟩ := PDq.sub (ws' := []) hP hD [] (by decide) rfl
                  refine W.widen (k := 0) (n := 0) (Nat.le_of_ble_eq_true rfl) (Nat.le_of_ble_eq_true rfl) ?_
                  exact (W.iret (v := 8) hx hb hr (fun t ht hW => ⟨⟨8, (), rfl, ⟨8, by omega, rfl, w9, hw9, Or.inl ⟨c1, ew9, by rw [sz_mid hw9 ew9 (i := 7) (by decide) (by decide) (Or.inr ⟨c18, by decide⟩) c21 (by decide)]⟩⟩, by rw [ht]; exact hP9, hD9⟩, hS.F ht⟩) hS.2.2 dJ6_stringSize_0f7a4_30)
              · skip
                refine lv_iload_n hx hb dJ6_stringSize_0f7a4_27 rfl (lv_at hl 0 rfl) ?_
                refine lv_iload_n hx hb dJ6_stringSize_0f7a4_28 rfl (lv_at hl 2 rfl) ?_
                refine lv_iadd hx hb dJ6_stringSize_0f7a4_29 ?_
                refine lv_topi (fun yn34 eyn34 => ?_)
                obtain rfl : yn34 = 7 := eyn34.trans (by first | rfl | decide +kernel)
                obtain ⟨hP9, hD9⟩ := PDq.sub (ws' := []) hP hD [] (by decide) rfl
                refine W.widen (k := 0) (n := 0) (Nat.le_of_ble_eq_true rfl) (Nat.le_of_ble_eq_true rfl) ?_
                exact (W.iret (v := 7) hx hb hr (fun t ht hW => ⟨⟨7, (), rfl, ⟨7, by omega, rfl, w9, hw9, Or.inl ⟨c1, ew9, by rw [sz_mid hw9 ew9 (i := 6) (by decide) (by decide) (Or.inr ⟨c15, by decide⟩) c18 (by decide)]⟩⟩, by rw [ht]; exact hP9, hD9⟩, hS.F ht⟩) hS.2.2 dJ6_stringSize_0f7a4_30)
            · skip
              refine lv_iload_n hx hb dJ6_stringSize_0f7a4_27 rfl (lv_at hl 0 rfl) ?_
              refine lv_iload_n hx hb dJ6_stringSize_0f7a4_28 rfl (lv_at hl 2 rfl) ?_
              refine lv_iadd hx hb dJ6_stringSize_0f7a4_29 ?_
              refine lv_topi (fun yn35 eyn35 => ?_)
              obtain rfl : yn35 = 6 := eyn35.trans (by first | rfl | decide +kernel)
              obtain ⟨hP9, hD9⟩ := PDq.sub (ws' := []) hP hD [] (by decide) rfl
              refine W.widen (k := 0) (n := 0) (Nat.le_of_ble_eq_true rfl) (Nat.le_of_ble_eq_true rfl) ?_
              exact (W.iret (v := 6) hx hb hr (fun t ht hW => ⟨⟨6, (), rfl, ⟨6, by omega, rfl, w9, hw9, Or.inl ⟨c1, ew9, by rw [sz_mid hw9 ew9 (i := 5) (by decide) (by decide) (Or.inr ⟨c12, by decide⟩) c15 (by decide)]⟩⟩, by rw [ht]; exact hP9, hD9⟩, hS.F ht⟩) hS.2.2 dJ6_stringSize_0f7a4_30)
          · skip
            refine lv_iload_n hx hb dJ6_stringSize_0f7a4_27 rfl (lv_at hl 0 rfl) ?_
            refine lv_iload_n hx hb dJ6_stringSize_0f7a4_28 rfl (lv_at hl 2 rfl) ?_
            refine lv_iadd hx hb dJ6_stringSize_0f7a4_29 ?_
            refine lv_topi (fun yn36 eyn36 => ?_)
            obtain rfl : yn36 = 5 := eyn36.trans (by first | rfl | decide +kernel)
            obtain ⟨hP9, hD9⟩ := PDq.sub (ws' := []) hP hD [] (by decide) rfl
            refine W.widen (k := 0) (n := 0) (Nat.le_of_ble_eq_true rfl) (Nat.le_of_ble_eq_true rfl) ?_
            exact (W.iret (v := 5) hx hb hr (fun t ht hW => ⟨⟨5, (), rfl, ⟨5, by omega, rfl, w9, hw9, Or.inl ⟨c1, ew9, by rw [sz_mid hw9 ew9 (i := 4) (by decide) (by decide) (Or.inr ⟨c9, by decide⟩) c12 (by decide)]⟩⟩, by rw [ht]; exact hP9, hD9⟩, hS.F ht⟩) hS.2.2 dJ6_stringSize_0f7a4_30)
        · skip
          refine lv_iload_n hx hb dJ6_stringSize_0f7a4_27 rfl (lv_at hl 0 rfl) ?_
          refine lv_iload_n hx hb dJ6_stringSize_0f7a4_28 rfl (lv_at hl 2 rfl) ?_
          refine lv_iadd hx hb dJ6_stringSize_0f7a4_29 ?_
          refine lv_topi (fun yn37 eyn37 => ?_)
          obtain rfl : yn37 = 4 := eyn37.trans (by first | rfl | decide +kernel)
          obtain ⟨hP9, hD9⟩ := PDq.sub (ws' := []) hP hD [] (by decide) rfl
          refine W.widen (k := 0) (n := 0) (Nat.le_of_ble_eq_true rfl) (Nat.le_of_ble_eq_true rfl) ?_
          exact (W.iret (v := 4) hx hb hr (fun t ht hW => ⟨⟨4, (), rfl, ⟨4, by omega, rfl, w9, hw9, Or.inl ⟨c1, ew9, by rw [sz_mid hw9 ew9 (i := 3) (by decide) (by decide) (Or.inr ⟨c6, by decide⟩) c9 (by decide)]⟩⟩, by rw [ht]; exact hP9, hD9⟩, hS.F ht⟩) hS.2.2 dJ6_stringSize_0f7a4_30)
      · skip
        refine lv_iload_n hx hb dJ6_stringSize_0f7a4_27 rfl (lv_at hl 0 rfl) ?_
        refine lv_iload_n hx hb dJ6_stringSize_0f7a4_28 rfl (lv_at hl 2 rfl) ?_
        refine lv_iadd hx hb dJ6_stringSize_0f7a4_29 ?_
        refine lv_topi (fun yn38 eyn38 => ?_)
        obtain rfl : yn38 = 3 := eyn38.trans (by first | rfl | decide +kernel)
        obtain ⟨hP9, hD9⟩ := PDq.sub (ws' := []) hP hD [] (by decide) rfl
        refine W.widen (k := 0) (n := 0) (Nat.le_of_ble_eq_true rfl) (Nat.le_of_ble_eq_true rfl) ?_
        exact (W.iret (v := 3) hx hb hr (fun t ht hW => ⟨⟨3, (), rfl, ⟨3, by omega, rfl, w9, hw9, Or.inl ⟨c1, ew9, by rw [sz_mid hw9 ew9 (i := 2) (by decide) (by decide) (Or.inr ⟨c3, by decide⟩) c6 (by decide)]⟩⟩, by rw [ht]; exact hP9, hD9⟩, hS.F ht⟩) hS.2.2 dJ6_stringSize_0f7a4_30)
    · skip
      refine lv_iload_n hx hb dJ6_stringSize_0f7a4_27 rfl (lv_at hl 0 rfl) ?_
      refine lv_iload_n hx hb dJ6_stringSize_0f7a4_28 rfl (lv_at hl 2 rfl) ?_
      refine lv_iadd hx hb dJ6_stringSize_0f7a4_29 ?_
      refine lv_topi (fun yn39 eyn39 => ?_)
      obtain rfl : yn39 = 2 := eyn39.trans (by first | rfl | decide +kernel)
      obtain ⟨hP9, hD9⟩ := PDq.sub (ws' := []) hP hD [] (by decide) rfl
      refine W.widen (k := 0) (n := 0) (Nat.le_of_ble_eq_true rfl) (Nat.le_of_ble_eq_true rfl) ?_
      exact (W.iret (v := 2) hx hb hr (fun t ht hW => ⟨⟨2, (), rfl, ⟨2, by omega, rfl, w9, hw9, Or.inl ⟨c1, ew9, by rw [sz_mid (p1 := 0) hw9 ew9 (i := 1) (by decide) (by decide) (Or.inl rfl) c3 (by decide)]⟩⟩, by rw [ht]; exact hP9, hD9⟩, hS.F ht⟩) hS.2.2 dJ6_stringSize_0f7a4_30)
  · skip
    obtain ⟨w9, hw9, ew9⟩ := ng_of (ng_neg c1)
    refine lv_iconst (v := 0) hx hb dJ6_stringSize_0f7a4_6 (by decide) ?_
    refine lv_istore_n (lv' := [(1, .int 0), (0, .int a)]) hx hb dJ6_stringSize_0f7a4_7 rfl hl (by decide) rfl (fun ls hl => ?_)
    refine lv_iload_n hx hb dJ6_stringSize_0f7a4_8 rfl (lv_at hl 1 rfl) ?_
    refine lv_ineg hx hb dJ6_stringSize_0f7a4_9 ?_
    refine lv_topi (fun yn40 eyn40 => ?_)
    have ew8 : yn40 = ngI w9 := eyn40.trans ew9
    refine lv_istore_n (lv' := [(0, .int yn40), (1, .int 0)]) hx hb dJ6_stringSize_0f7a4_10 rfl hl (by decide) rfl (fun ls hl => ?_)
    refine lv_bipush (v := (-10)) hx hb dJ6_stringSize_0f7a4_11 (by decide) ?_
    refine lv_istore_n (lv' := [(2, .int (-10)), (0, .int yn40), (1, .int 0)]) hx hb dJ6_stringSize_0f7a4_13 rfl hl (by decide) rfl (fun ls hl => ?_)
    refine lv_iconst (v := 1) hx hb dJ6_stringSize_0f7a4_14 (by decide) ?_
    refine lv_istore_n (lv' := [(3, .int 1), (2, .int (-10)), (0, .int yn40), (1, .int 0)]) hx hb dJ6_stringSize_0f7a4_15 rfl hl (by decide) rfl (fun ls hl => ?_)
    refine lv_iload_n hx hb dJ6_stringSize_0f7a4_16 rfl (lv_at hl 0 rfl) ?_
    refine lv_bipush (v := 10) hx hb dJ6_stringSize_0f7a4_17 (by decide) ?_
    refine lv_icmp_ge (tgt := 42) hx hb dJ6_stringSize_0f7a4_19 (by decide) (fun c9 => absurd c9 (by decide)) (fun c41 => ?_)
    refine lv_iload_n hx hb dJ6_stringSize_0f7a4_22 rfl (lv_at hl 2 rfl) ?_
    refine lv_iload_n hx hb dJ6_stringSize_0f7a4_23 rfl (lv_at hl 1 rfl) ?_
    refine lv_icmp_le (tgt := 31) hx hb dJ6_stringSize_0f7a4_24 (by decide) (fun c42 => ?_) (fun c42 => ?_)
    · skip
      refine lv_bipush (v := 10) hx hb dJ6_stringSize_0f7a4_31 (by decide) ?_
      refine lv_iload_n hx hb dJ6_stringSize_0f7a4_33 rfl (lv_at hl 1 rfl) ?_
      refine lv_imul hx hb dJ6_stringSize_0f7a4_34 ?_
      refine lv_topi (fun yn43 eyn43 => ?_)
      obtain rfl : yn43 = (-100) := eyn43.trans (by first | rfl | decide +kernel)
      refine lv_istore_n (lv' := [(2, .int (-100)), (3, .int 1), (0, .int yn40), (1, .int 0)]) hx hb dJ6_stringSize_0f7a4_35 rfl hl (by decide) rfl (fun ls hl => ?_)
      refine lv_iinc (v := 2) (lv' := [(3, .int 2), (2, .int (-100)), (0, .int yn40), (1, .int 0)]) hx hb dJ6_stringSize_0f7a4_36 hl (k := 1) rfl (by first | rfl | decide +kernel) (by decide) rfl (fun ls hl => ?_)
      refine lv_goto (tgt := 16) hx hb dJ6_stringSize_0f7a4_39 (by decide) ?_
      refine lv_iload_n hx hb dJ6_stringSize_0f7a4_16 rfl (lv_at hl 0 rfl) ?_
      refine lv_bipush (v := 10) hx hb dJ6_stringSize_0f7a4_17 (by decide) ?_
      refine lv_icmp_ge (tgt := 42) hx hb dJ6_stringSize_0f7a4_19 (by decide) (fun c9 => absurd c9 (by decide)) (fun c44 => ?_)
      refine lv_iload_n hx hb dJ6_stringSize_0f7a4_22 rfl (lv_at hl 2 rfl) ?_
      refine lv_iload_n hx hb dJ6_stringSize_0f7a4_23 rfl (lv_at hl 1 rfl) ?_
      refine lv_icmp_le (tgt := 31) hx hb dJ6_stringSize_0f7a4_24 (by decide) (fun c45 => ?_) (fun c45 => ?_)
      · skip
        refine lv_bipush (v := 10) hx hb dJ6_stringSize_0f7a4_31 (by decide) ?_
        refine lv_iload_n hx hb dJ6_stringSize_0f7a4_33 rfl (lv_at hl 1 rfl) ?_
        refine lv_imul hx hb dJ6_stringSize_0f7a4_34 ?_
        refine lv_topi (fun yn46 eyn46 => ?_)
        obtain rfl : yn46 = (-1000) := eyn46.trans (by first | rfl | decide +kernel)
        refine lv_istore_n (lv' := [(2, .int (-1000)), (3, .int 2), (0, .int yn40), (1, .int 0)]) hx hb dJ6_stringSize_0f7a4_35 rfl hl (by decide) rfl (fun ls hl => ?_)
        refine lv_iinc (v := 3) (lv' := [(3, .int 3), (2, .int (-1000)), (0, .int yn40), (1, .int 0)]) hx hb dJ6_stringSize_0f7a4_36 hl (k := 1) rfl (by first | rfl | decide +kernel) (by decide) rfl (fun ls hl => ?_)
        refine lv_goto (tgt := 16) hx hb dJ6_stringSize_0f7a4_39 (by decide) ?_
        refine lv_iload_n hx hb dJ6_stringSize_0f7a4_16 rfl (lv_at hl 0 rfl) ?_
        refine lv_bipush (v := 10) hx hb dJ6_stringSize_0f7a4_17 (by decide) ?_
        refine lv_icmp_ge (tgt := 42) hx hb dJ6_stringSize_0f7a4_19 (by decide) (fun c9 => absurd c9 (by decide)) (fun c47 => ?_)
        refine lv_iload_n hx hb dJ6_stringSize_0f7a4_22 rfl (lv_at hl 2 rfl) ?_
        refine lv_iload_n hx hb dJ6_stringSize_0f7a4_23 rfl (lv_at hl 1 rfl) ?_
        refine lv_icmp_le (tgt := 31) hx hb dJ6_stringSize_0f7a4_24 (by decide) (fun c48 => ?_) (fun c48 => ?_)
        · skip
          refine lv_bipush (v := 10) hx hb dJ6_stringSize_0f7a4_31 (by decide) ?_
          refine lv_iload_n hx hb dJ6_stringSize_0f7a4_33 rfl (lv_at hl 1 rfl) ?_
          refine lv_imul hx hb dJ6_stringSize_0f7a4_34 ?_
          refine lv_topi (fun yn49 eyn49 => ?_)
          obtain rfl : yn49 = (-10000) := eyn49.trans (by first | rfl | decide +kernel)
          refine lv_istore_n (lv' := [(2, .int (-10000)), (3, .int 3), (0, .int yn40), (1, .int 0)]) hx hb dJ6_stringSize_0f7a4_35 rfl hl (by decide) rfl (fun ls hl => ?_)
          refine lv_iinc (v := 4) (lv' := [(3, .int 4), (2, .int (-10000)), (0, .int yn40), (1, .int 0)]) hx hb dJ6_stringSize_0f7a4_36 hl (k := 1) rfl (by first | rfl | decide +kernel) (by decide) rfl (fun ls hl => ?_)
          refine lv_goto (tgt := 16) hx hb dJ6_stringSize_0f7a4_39 (by decide) ?_
          refine lv_iload_n hx hb dJ6_stringSize_0f7a4_16 rfl (lv_at hl 0 rfl) ?_
          refine lv_bipush (v := 10) hx hb dJ6_stringSize_0f7a4_17 (by decide) ?_
          refine lv_icmp_ge (tgt := 42) hx hb dJ6_stringSize_0f7a4_19 (by decide) (fun c9 => absurd c9 (by decide)) (fun c50 => ?_)
          refine lv_iload_n hx hb dJ6_stringSize_0f7a4_22 rfl (lv_at hl 2 rfl) ?_
          refine lv_iload_n hx hb dJ6_stringSize_0f7a4_23 rfl (lv_at hl 1 rfl) ?_
          refine lv_icmp_le (tgt := 31) hx hb dJ6_stringSize_0f7a4_24 (by decide) (fun c51 => ?_) (fun c51 => ?_)
          · skip
            refine lv_bipush (v := 10) hx hb dJ6_stringSize_0f7a4_31 (by decide) ?_
            refine lv_iload_n hx hb dJ6_stringSize_0f7a4_33 rfl (lv_at hl 1 rfl) ?_
            refine lv_imul hx hb dJ6_stringSize_0f7a4_34 ?_
            refine lv_topi (fun yn52 eyn52 => ?_)
            obtain rfl : yn52 = (-100000) := eyn52.trans (by first | rfl | decide +kernel)
            refine lv_istore_n (lv' := [(2, .int (-100000)), (3, .int 4), (0, .int yn40), (1, .int 0)]) hx hb dJ6_stringSize_0f7a4_35 rfl hl (by decide) rfl (fun ls hl => ?_)
            refine lv_iinc (v := 5) (lv' := [(3, .int 5), (2, .int (-100000)), (0, .int yn40), (1, .int 0)]) hx hb dJ6_stringSize_0f7a4_36 hl (k := 1) rfl (by first | rfl | decide +kernel) (by decide) rfl (fun ls hl => ?_)
            refine lv_goto (tgt := 16) hx hb dJ6_stringSize_0f7a4_39 (by decide) ?_
            refine lv_iload_n hx hb dJ6_stringSize_0f7a4_16 rfl (lv_at hl 0 rfl) ?_
            refine lv_bipush (v := 10) hx hb dJ6_stringSize_0f7a4_17 (by decide) ?_
            refine lv_icmp_ge (tgt := 42) hx hb dJ6_stringSize_0f7a4_19 (by decide) (fun c9 => absurd c9 (by decide)) (fun c53 => ?_)
            refine lv_iload_n hx hb dJ6_stringSize_0f7a4_22 rfl (lv_at hl 2 rfl) ?_
            refine lv_iload_n hx hb dJ6_stringSize_0f7a4_23 rfl (lv_at hl 1 rfl) ?_
            refine lv_icmp_le (tgt := 31) hx hb dJ6_stringSize_0f7a4_24 (by decide) (fun c54 => ?_) (fun c54 => ?_)
            · skip
              refine lv_bipush (v := 10) hx hb dJ6_stringSize_0f7a4_31 (by decide) ?_
              refine lv_iload_n hx hb dJ6_stringSize_0f7a4_33 rfl (lv_at hl 1 rfl) ?_
              refine lv_imul hx hb dJ6_stringSize_0f7a4_34 ?_
              refine lv_topi (fun yn55 eyn55 => ?_)
              obtain rfl : yn55 = (-1000000) := eyn55.trans (by first | rfl | decide +kernel)
              refine lv_istore_n (lv' := [(2, .int (-1000000)), (3, .int 5), (0, .int yn40), (1, .int 0)]) hx hb dJ6_stringSize_0f7a4_35 rfl hl (by decide) rfl (fun ls hl => ?_)
              refine lv_iinc (v := 6) (lv' := [(3, .int 6), (2, .int (-1000000)), (0, .int yn40), (1, .int 0)]) hx hb dJ6_stringSize_0f7a4_36 hl (k := 1) rfl (by first | rfl | decide +kernel) (by decide) rfl (fun ls hl => ?_)
              refine lv_goto (tgt := 16) hx hb dJ6_stringSize_0f7a4_39 (by decide) ?_
              refine lv_iload_n hx hb dJ6_stringSize_0f7a4_16 rfl (lv_at hl 0 rfl) ?_
              refine lv_bipush (v := 10) hx hb dJ6_stringSize_0f7a4_17 (by decide) ?_
              refine lv_icmp_ge (tgt := 42) hx hb dJ6_stringSize_0f7a4_19 (by decide) (fun c9 => absurd c9 (by decide)) (fun c56 => ?_)
              refine lv_iload_n hx hb dJ6_stringSize_0f7a4_22 rfl (lv_at hl 2 rfl) ?_
              refine lv_iload_n hx hb dJ6_stringSize_0f7a4_23 rfl (lv_at hl 1 rfl) ?_
              refine lv_icmp_le (tgt := 31) hx hb dJ6_stringSize_0f7a4_24 (by decide) (fun c57 => ?_) (fun c57 => ?_)
              · skip
                refine lv_bipush (v := 10) hx hb dJ6_stringSize_0f7a4_31 (by decide) ?_
                refine lv_iload_n hx hb dJ6_stringSize_0f7a4_33 rfl (lv_at hl 1 rfl) ?_
                refine lv_imul hx hb dJ6_stringSize_0f7a4_34 ?_
                refine lv_topi (fun yn58 eyn58 => ?_)
                obtain rfl : yn58 = (-10000000) := eyn58.trans (by first | rfl | decide +kernel)
                refine lv_istore_n (lv' := [(2, .int (-10000000)), (3, .int 6), (0, .int yn40), (1, .int 0)]) hx hb dJ6_stringSize_0f7a4_35 rfl hl (by decide) rfl (fun ls hl => ?_)
                refine lv_iinc (v := 7) (lv' := [(3, .int 7), (2, .int (-10000000)), (0, .int yn40), (1, .int 0)]) hx hb dJ6_stringSize_0f7a4_36 hl (k := 1) rfl (by first | rfl | decide +kernel) (by decide) rfl (fun ls hl => ?_)
                refine lv_goto (tgt := 16) hx hb dJ6_stringSize_0f7a4_39 (by decide) ?_
                refine lv_iload_n hx hb dJ6_stringSize_0f7a4_16 rfl (lv_at hl 0 rfl) ?_
                refine lv_bipush (v := 10) hx hb dJ6_stringSize_0f7a4_17 (by decide) ?_
                refine lv_icmp_ge (tgt := 42) hx hb dJ6_stringSize_0f7a4_19 (by decide) (fun c9 => absurd c9 (by decide)) (fun c59 => ?_)
                refine lv_iload_n hx hb dJ6_stringSize_0f7a4_22 rfl (lv_at hl 2 rfl) ?_
                refine lv_iload_n hx hb dJ6_stringSize_0f7a4_23 rfl (lv_at hl 1 rfl) ?_
                refine lv_icmp_le (tgt := 31) hx hb dJ6_stringSize_0f7a4_24 (by decide) (fun c60 => ?_) (fun c60 => ?_)
                · skip
                  refine lv_bipush (v := 10) hx hb dJ6_stringSize_0f7a4_31 (by decide) ?_
                  refine lv_iload_n hx hb dJ6_stringSize_0f7a4_33 rfl (lv_at hl 1 rfl) ?_
                  refine lv_imul hx hb dJ6_stringSize_0f7a4_34 ?_
                  refine lv_topi (fun yn61 eyn61 => ?_)
                  obtain rfl : yn61 = (-100000000) := eyn61.trans (by first | rfl | decide +kernel)
                  refine lv_istore_n (lv' := [(2, .int (-100000000)), (3, .int 7), (0, .int yn40), (1, .int 0)]) hx hb dJ6_stringSize_0f7a4_35 rfl hl (by decide) rfl (fun ls hl => ?_)
                  refine lv_iinc (v := 8) (lv' := [(3, .int 8), (2, .int (-100000000)), (0, .int yn40), (1, .int 0)]) hx hb dJ6_stringSize_0f7a4_36 hl (k := 1) rfl (by first | rfl | decide +kernel) (by decide) rfl (fun ls hl => ?_)
                  refine lv_goto (tgt := 16) hx hb dJ6_stringSize_0f7a4_39 (by decide) ?_
                  refine lv_iload_n hx hb dJ6_stringSize_0f7a4_16 rfl (lv_at hl 0 rfl) ?_
                  refine lv_bipush (v := 10) hx hb dJ6_stringSize_0f7a4_17 (by decide) ?_
                  refine lv_icmp_ge (tgt := 42) hx hb dJ6_stringSize_0f7a4_19 (by decide) (fun c9 => absurd c9 (by decide)) (fun c62 => ?_)
                  refine lv_iload_n hx hb dJ6_stringSize_0f7a4_22 rfl (lv_at hl 2 rfl) ?_
                  refine lv_iload_n hx hb dJ6_stringSize_0f7a4_23 rfl (lv_at hl 1 rfl) ?_
                  refine lv_icmp_le (tgt := 31) hx hb dJ6_stringSize_0f7a4_24 (by decide) (fun c63 => ?_) (fun c63 => ?_)
                  · skip
                    refine lv_bipush (v := 10) hx hb dJ6_stringSize_0f7a4_31 (by decide) ?_
                    refine lv_iload_n hx hb dJ6_stringSize_0f7a4_33 rfl (lv_at hl 1 rfl) ?_
                    refine lv_imul hx hb dJ6_stringSize_0f7a4_34 ?_
                    refine lv_topi (fun yn64 eyn64 => ?_)
                    obtain rfl : yn64 = (-1000000000) := eyn64.trans (by first | rfl | decide +kernel)
                    refine lv_istore_n (lv' := [(2, .int (-1000000000)), (3, .int 8), (0, .int yn40), (1, .int 0)]) hx hb dJ6_stringSize_0f7a4_35 rfl hl (by decide) rfl (fun ls hl => ?_)
                    refine lv_iinc (v := 9) (lv' := [(3, .int 9), (2, .int (-1000000000)), (0, .int yn40), (1, .int 0)]) hx hb dJ6_stringSize_0f7a4_36 hl (k := 1) rfl (by first | rfl | decide +kernel) (by decide) rfl (fun ls hl => ?_)
                    refine lv_goto (tgt := 16) hx hb dJ6_stringSize_0f7a4_39 (by decide) ?_
                    refine lv_iload_n hx hb dJ6_stringSize_0f7a4_16 rfl (lv_at hl 0 rfl) ?_
                    refine lv_bipush (v := 10) hx hb dJ6_stringSize_0f7a4_17 (by decide) ?_
                    refine lv_icmp_ge (tgt := 42) hx hb dJ6_stringSize_0f7a4_19 (by decide) (fun c9 => absurd c9 (by decide)) (fun c65 => ?_)
                    refine lv_iload_n hx hb dJ6_stringSize_0f7a4_22 rfl (lv_at hl 2 rfl) ?_
                    refine lv_iload_n hx hb dJ6_stringSize_0f7a4_23 rfl (lv_at hl 1 rfl) ?_
                    refine lv_icmp_le (tgt := 31) hx hb dJ6_stringSize_0f7a4_24 (by decide) (fun c66 => ?_) (fun c66 => ?_)
                    · skip
                      refine lv_bipush (v := 10) hx hb dJ6_stringSize_0f7a4_31 (by decide) ?_
                      refine lv_iload_n hx hb dJ6_stringSize_0f7a4_33 rfl (lv_at hl 1 rfl) ?_
                      refine lv_imul hx hb dJ6_stringSize_0f7a4_34 ?_
                      refine lv_topi (fun yn67 eyn67 => ?_)
                      obtain rfl : yn67 = (-1410065408) := eyn67.trans (by first | rfl | decide +kernel)
                      refine lv_istore_n (lv' := [(2, .int (-1410065408)), (3, .int 9), (0, .int yn40), (1, .int 0)]) hx hb dJ6_stringSize_0f7a4_35 rfl hl (by decide) rfl (fun ls hl => ?_)
                      refine lv_iinc (v := 10) (lv' := [(3, .int 10), (2, .int (-1410065408)), (0, .int yn40), (1, .int 0)]) hx hb dJ6_stringSize_0f7a4_36 hl (k := 1) rfl (by first | rfl | decide +kernel) (by decide) rfl (fun ls hl => ?_)
                      refine lv_goto (tgt := 16) hx hb dJ6_stringSize_0f7a4_39 (by decide) ?_
                      refine lv_iload_n hx hb dJ6_stringSize_0f7a4_16 rfl (lv_at hl 0 rfl) ?_
                      refine lv_bipush (v := 10) hx hb dJ6_stringSize_0f7a4_17 (by decide) ?_
                      refine lv_icmp_ge (tgt := 42) hx hb dJ6_stringSize_0f7a4_19 (by decide) (fun c68 => ?_) (fun c9 => absurd c9 (by decide))
                      refine lv_bipush (v := 10) hx hb dJ6_stringSize_0f7a4_42 (by decide) ?_
                      refine lv_iload_n hx hb dJ6_stringSize_0f7a4_44 rfl (lv_at hl 3 rfl) ?_
                      refine lv_iadd hx hb dJ6_stringSize_0f7a4_45 ?_
                      refine lv_topi (fun yn69 eyn69 => ?_)
                      obtain rfl : yn69 = 10 := eyn69.trans (by first | rfl | decide +kernel)
                      obtain ⟨hP9, hD9⟩ := PDq.sub (ws' := []) hP hD [] (by decide) rfl
                      refine W.widen (k := 0) (n := 0) (Nat.le_of_ble_eq_true rfl) (Nat.le_of_ble_eq_true rfl) ?_
                      exact (W.iret (v := 10) hx hb hr (fun t ht hW => ⟨⟨10, (), rfl, ⟨10, by omega, rfl, w9, hw9, Or.inr ⟨c1, ew9, (sz_end hw9 ew8 c66 (by decide)).symm⟩⟩, by rw [ht]; exact hP9, hD9⟩, hS.F ht⟩) hS.2.2 dJ6_stringSize_0f7a4_46)
                    · skip
                      refine lv_iload_n hx hb dJ6_stringSize_0f7a4_27 rfl (lv_at hl 0 rfl) ?_
                      refine lv_iload_n hx hb dJ6_stringSize_0f7a4_28 rfl (lv_at hl 3 rfl) ?_
                      refine lv_iadd hx hb dJ6_stringSize_0f7a4_29 ?_
                      refine lv_topi (fun yn70 eyn70 => ?_)
                      obtain rfl : yn70 = 9 := eyn70.trans (by first | rfl | decide +kernel)
                      obtain ⟨hP9, hD9⟩ := PDq.sub (ws' := []) hP hD [] (by decide) rfl
                      refine W.widen (k := 0) (n := 0) (Nat.le_of_ble_eq_true rfl) (Nat.le_of_ble_eq_true rfl) ?_
                      exact (W.iret (v := 9) hx hb hr (fun t ht hW => ⟨⟨9, (), rfl, ⟨9, by omega, rfl, w9, hw9, Or.inr ⟨c1, ew9, (sz_mid hw9 ew8 (i := 9) (by decide) (by decide) (Or.inr ⟨c63, by decide⟩) c66 (by decide)).symm⟩⟩, by rw [ht]; exact hP9, hD9⟩, hS.F ht⟩) hS.2.2 dJ6_stringSize_0f7a4_30)
                  · skip
                    refine lv_iload_n hx hb dJ6_stringSize_0f7a4_27 rfl (lv_at hl 0 rfl) ?_
                    refine lv_iload_n hx hb dJ6_stringSize_0f7a4_28 rfl (lv_at hl 3 rfl) ?_
                    refine lv_iadd hx hb dJ6_stringSize_0f7a4_29 ?_
                    refine lv_topi (fun yn71 eyn71 => ?_)
                    obtain rfl : yn71 = 8 := eyn71.trans (by first | rfl | decide +kernel)
                    obtain ⟨hP9, hD9⟩ := PDq.sub (ws' := []) hP hD [] (by decide) rfl
                    refine W.widen (k := 0) (n := 0) (Nat.le_of_ble_eq_true rfl) (Nat.le_of_ble_eq_true rfl) ?_
                    exact (W.iret (v := 8) hx hb hr (fun t ht hW => ⟨⟨8, (), rfl, ⟨8, by omega, rfl, w9, hw9, Or.inr ⟨c1, ew9, (sz_mid hw9 ew8 (i := 8) (by decide) (by decide) (Or.inr ⟨c60, by decide⟩) c63 (by decide)).symm⟩⟩, by rw [ht]; exact hP9, hD9⟩, hS.F ht⟩) hS.2.2 dJ6_stringSize_0f7a4_30)
                · skip
                  refine lv_iload_n hx hb dJ6_stringSize_0f7a4_27 rfl (lv_at hl 0 rfl) ?_
                  refine lv_iload_n hx hb dJ6_stringSize_0f7a4_28 rfl (lv_at hl 3 rfl) ?_
                  refine lv_iadd hx hb dJ6_stringSize_0f7a4_29 ?_
                  refine lv_topi (fun yn72 eyn72 => ?_)
                  obtain rfl : yn72 = 7 := eyn72.trans (by first | rfl | decide +kernel)
                  obtain ⟨hP9, hD9⟩ := PDq.sub (ws' := []) hP hD [] (by decide) rfl
                  refine W.widen (k := 0) (n := 0) (Nat.le_of_ble_eq_true rfl) (Nat.le_of_ble_eq_true rfl) ?_
                  exact (W.iret (v := 7) hx hb hr (fun t ht hW => ⟨⟨7, (), rfl, ⟨7, by omega, rfl, w9, hw9, Or.inr ⟨c1, ew9, (sz_mid hw9 ew8 (i := 7) (by decide) (by decide) (Or.inr ⟨c57, by decide⟩) c60 (by decide)).symm⟩⟩, by rw [ht]; exact hP9, hD9⟩, hS.F ht⟩) hS.2.2 dJ6_stringSize_0f7a4_30)
              · skip
                refine lv_iload_n hx hb dJ6_stringSize_0f7a4_27 rfl (lv_at hl 0 rfl) ?_
                refine lv_iload_n hx hb dJ6_stringSize_0f7a4_28 rfl (lv_at hl 3 rfl) ?_
                refine lv_iadd hx hb dJ6_stringSize_0f7a4_29 ?_
                refine lv_topi (fun yn73 eyn73 => ?_)
                obtain rfl : yn73 = 6 := eyn73.trans (by first | rfl | decide +kernel)
                obtain ⟨hP9, hD9⟩ := PDq.sub (ws' := []) hP hD [] (by decide) rfl
                refine W.widen (k := 0) (n := 0) (Nat.le_of_ble_eq_true rfl) (Nat.le_of_ble_eq_true rfl) ?_
                exact (W.iret (v := 6) hx hb hr (fun t ht hW => ⟨⟨6, (), rfl, ⟨6, by omega, rfl, w9, hw9, Or.inr ⟨c1, ew9, (sz_mid hw9 ew8 (i := 6) (by decide) (by decide) (Or.inr ⟨c54, by decide⟩) c57 (by decide)).symm⟩⟩, by rw [ht]; exact hP9, hD9⟩, hS.F ht⟩) hS.2.2 dJ6_stringSize_0f7a4_30)
            · skip
              refine lv_iload_n hx hb dJ6_stringSize_0f7a4_27 rfl (lv_at hl 0 rfl) ?_
              refine lv_iload_n hx hb dJ6_stringSize_0f7a4_28 rfl (lv_at hl 3 rfl) ?_
              refine lv_iadd hx hb dJ6_stringSize_0f7a4_29 ?_
              refine lv_topi (fun yn74 eyn74 => ?_)
              obtain rfl : yn74 = 5 := eyn74.trans (by first | rfl | decide +kernel)
              obtain ⟨hP9, hD9⟩ := PDq.sub (ws' := []) hP hD [] (by decide) rfl
              refine W.widen (k := 0) (n := 0) (Nat.le_of_ble_eq_true rfl) (Nat.le_of_ble_eq_true rfl) ?_
              exact (W.iret (v := 5) hx hb hr (fun t ht hW => ⟨⟨5, (), rfl, ⟨5, by omega, rfl, w9, hw9, Or.inr ⟨c1, ew9, (sz_mid hw9 ew8 (i := 5) (by decide) (by decide) (Or.inr ⟨c51, by decide⟩) c54 (by decide)).symm⟩⟩, by rw [ht]; exact hP9, hD9⟩, hS.F ht⟩) hS.2.2 dJ6_stringSize_0f7a4_30)
          · skip
            refine lv_iload_n hx hb dJ6_stringSize_0f7a4_27 rfl (lv_at hl 0 rfl) ?_
            refine lv_iload_n hx hb dJ6_stringSize_0f7a4_28 rfl (lv_at hl 3 rfl) ?_
            refine lv_iadd hx hb dJ6_stringSize_0f7a4_29 ?_
            refine lv_topi (fun yn75 eyn75 => ?_)
            obtain rfl : yn75 = 4 := eyn75.trans (by first | rfl | decide +kernel)
            obtain ⟨hP9, hD9⟩ := PDq.sub (ws' := []) hP hD [] (by decide) rfl
            refine W.widen (k := 0) (n := 0) (Nat.le_of_ble_eq_true rfl) (Nat.le_of_ble_eq_true rfl) ?_
            exact (W.iret (v := 4) hx hb hr (fun t ht hW => ⟨⟨4, (), rfl, ⟨4, by omega, rfl, w9, hw9, Or.inr ⟨c1, ew9, (sz_mid hw9 ew8 (i := 4) (by decide) (by decide) (Or.inr ⟨c48, by decide⟩) c51 (by decide)).symm⟩⟩, by rw [ht]; exact hP9, hD9⟩, hS.F ht⟩) hS.2.2 dJ6_stringSize_0f7a4_30)
        · skip
          refine lv_iload_n hx hb dJ6_stringSize_0f7a4_27 rfl (lv_at hl 0 rfl) ?_
          refine lv_iload_n hx hb dJ6_stringSize_0f7a4_28 rfl (lv_at hl 3 rfl) ?_
          refine lv_iadd hx hb dJ6_stringSize_0f7a4_29 ?_
          refine lv_topi (fun yn76 eyn76 => ?_)
          obtain rfl : yn76 = 3 := eyn76.trans (by first | rfl | decide +kernel)
          obtain ⟨hP9, hD9⟩ := PDq.sub (ws' := []) hP hD [] (by decide) rfl
          refine W.widen (k := 0) (n := 0) (Nat.le_of_ble_eq_true rfl) (Nat.le_of_ble_eq_true rfl) ?_
          exact (W.iret (v := 3) hx hb hr (fun t ht hW => ⟨⟨3, (), rfl, ⟨3, by omega, rfl, w9, hw9, Or.inr ⟨c1, ew9, (sz_mid hw9 ew8 (i := 3) (by decide) (by decide) (Or.inr ⟨c45, by decide⟩) c48 (by decide)).symm⟩⟩, by rw [ht]; exact hP9, hD9⟩, hS.F ht⟩) hS.2.2 dJ6_stringSize_0f7a4_30)
      · skip
        refine lv_iload_n hx hb dJ6_stringSize_0f7a4_27 rfl (lv_at hl 0 rfl) ?_
        refine lv_iload_n hx hb dJ6_stringSize_0f7a4_28 rfl (lv_at hl 3 rfl) ?_
        refine lv_iadd hx hb dJ6_stringSize_0f7a4_29 ?_
        refine lv_topi (fun yn77 eyn77 => ?_)
        obtain rfl : yn77 = 2 := eyn77.trans (by first | rfl | decide +kernel)
        obtain ⟨hP9, hD9⟩ := PDq.sub (ws' := []) hP hD [] (by decide) rfl
        refine W.widen (k := 0) (n := 0) (Nat.le_of_ble_eq_true rfl) (Nat.le_of_ble_eq_true rfl) ?_
        exact (W.iret (v := 2) hx hb hr (fun t ht hW => ⟨⟨2, (), rfl, ⟨2, by omega, rfl, w9, hw9, Or.inr ⟨c1, ew9, (sz_mid hw9 ew8 (i := 2) (by decide) (by decide) (Or.inr ⟨c42, by decide⟩) c45 (by decide)).symm⟩⟩, by rw [ht]; exact hP9, hD9⟩, hS.F ht⟩) hS.2.2 dJ6_stringSize_0f7a4_30)
    · skip
      refine lv_iload_n hx hb dJ6_stringSize_0f7a4_27 rfl (lv_at hl 0 rfl) ?_
      refine lv_iload_n hx hb dJ6_stringSize_0f7a4_28 rfl (lv_at hl 3 rfl) ?_
      refine lv_iadd hx hb dJ6_stringSize_0f7a4_29 ?_
      refine lv_topi (fun yn78 eyn78 => ?_)
      obtain rfl : yn78 = 1 := eyn78.trans (by first | rfl | decide +kernel)
      obtain ⟨hP9, hD9⟩ := PDq.sub (ws' := []) hP hD [] (by decide) rfl
      refine W.widen (k := 0) (n := 0) (Nat.le_of_ble_eq_true rfl) (Nat.le_of_ble_eq_true rfl) ?_
      exact (W.iret (v := 1) hx hb hr (fun t ht hW => ⟨⟨1, (), rfl, ⟨1, by omega, rfl, w9, hw9, Or.inr ⟨c1, ew9, (sz_mid (p1 := 0) hw9 ew8 (i := 1) (by decide) (by decide) (Or.inl rfl) c42 (by decide)).symm⟩⟩, by rw [ht]; exact hP9, hD9⟩, hS.F ht⟩) hS.2.2 dJ6_stringSize_0f7a4_30)

set_option maxHeartbeats 4000000 in
set_option maxRecDepth 100000 in
/-- getChars -/
theorem j_getChars (l : Launch) (D : va_G) (cA : Nat → ClassId) (sa : Nat → Nat) (o1 : Nat) (cp : Nat) (fy : Nat → Int32) (a : Int32) (ix : Nat) (n9 : Nat) (b9 : Nat) (sz : Nat) (hcp : cp ≤ 126) (hfit : sb_Fit fy) (hsz : SZ a n9) (hix : ix = b9 + n9) (hix2 : ix ≤ cp) : Met l yJ6_getChars_ba4f3 wsJ6_getChars_ba4f3 ({ frames := 0, cells := 0, slots := 0, locals := 0 }) (va_Pc [.int a, .int (nI ix), .ref o1] (Wd2 D cA sa [(o1, .inl (cA 3, cp, .inl fy))] sz)) (va_Qi (fun (r : Int32) (_ : Unit) => True) (fun (_ : Unit) t => ∃ zy : Nat → Int32, sb_Fit zy ∧ Wq D (va_A [(o1, .inl (cA 3, cp, .inl fy))] sz) [(o1, .inl (cA 3, cp, .inl zy))] t) (va_A [(o1, .inl (cA 3, cp, .inl fy))] sz)) 0 0 (va_A [(o1, .inl (cA 3, cp, .inl fy))] sz) := by
  refine Met.ofW (cc := cJ6_getChars_ba4f3) (maxL := 7) (ret := (some .int)) (by decide) rfl ?_
  intro p e s m args below meth c s₁ B hml hv
  obtain ⟨rfl, ⟨hsz, hP, hK, hD0, hC, hZ⟩, hG⟩ := hv
  have hx := B.exec
  have hb := B.bytes
  have hr := B.returns
  have hts := atoms_spec (ws := wsJ6_getChars_ba4f3) B.pre
  have hown : s.vm.findClass RJ6 = some m.cls := findClass_of_methodNamed B.named
  have hlocks := B.notSynchronized
  subst hsz
  have hD := hD0.self (sz := s.heap.size)
  generalize hAe : va_A [(o1, .inl (cA 3, cp, .inl fy))] s.heap.size = A at hD hZ hG ⊢
  have hA : ∀ q : Nat, s.heap.size ≤ q → A q := fun q h => by rw [← hAe]; exact Or.inr h
  have hS : va_S A s.heap s.heap [] := va_S.rf
  have hP : va_P D vwCl [(o1, .inl (cA 3, cp, .inl fy))] s.heap := hP
  have hl := lv_entry ([.int a, .int (nI ix), .ref o1]) (n := 7) (Nat.le_of_ble_eq_true rfl)
  rw [lg_entry_eq]
  generalize (lg_sl ([.int a, .int (nI ix), .ref o1]) ++ List.replicate (7 - (lg_sl ([.int a, .int (nI ix), .ref o1])).length) Slot.unset).toArray = ls at hl ⊢
  have hl : lv_has ls 7 [(0, .int a), (1, .int (nI ix)), (2, .ref o1)] := hl
  obtain ⟨⟨d1, d2, f1, f2, hd1, hd2, ht1, ht2⟩, -⟩ := hG
  obtain ⟨w9, hw9, hcs⟩ := hsz
  rcases hcs with ⟨hn1, hn2, hn3⟩ | ⟨hn1, hn2, hn3⟩
  · skip
    refine lv_iload_n hx hb dJ6_getChars_ba4f3_0 rfl (lv_at hl 1 rfl) ?_
    refine lv_istore (lv' := [(5, .int (nI ix)), (0, .int a), (1, .int (nI ix)), (2, .ref o1)]) hx hb dJ6_getChars_ba4f3_1 hl (by decide) rfl (fun ls hl => ?_)
    refine lv_iload_n hx hb dJ6_getChars_ba4f3_3 rfl (lv_at hl 1 rfl) ?_
    refine lv_if_ge (tgt := 11) hx hb dJ6_getChars_ba4f3_4 (by decide) (fun c9 => absurd c9 (Int32.not_le.mpr hn1)) (fun c1 => ?_)
    refine lv_iconst (v := 1) hx hb dJ6_getChars_ba4f3_7 (by decide) ?_
    refine lv_goto (tgt := 12) hx hb dJ6_getChars_ba4f3_8 (by decide) ?_
    refine lv_istore (lv' := [(6, .int 1), (5, .int (nI ix)), (0, .int a), (1, .int (nI ix)), (2, .ref o1)]) hx hb dJ6_getChars_ba4f3_12 hl (by decide) rfl (fun ls hl => ?_)
    refine lv_iload hx hb dJ6_getChars_ba4f3_14 (lv_at hl 0 rfl) ?_
    refine lv_if_ne (tgt := 22) hx hb dJ6_getChars_ba4f3_16 (by decide) (fun c2 => ?_) (fun c9 => absurd c9 (by decide))
    rw [hn2] at hl
    have hl : lv_has ls 7 [(6, .int 1), (5, .int (nI ix)), (0, .int (ngI w9)), (1, .int (nI ix)), (2, .ref o1)] := hl
    have hqhn3 := dg_pos w9
    rcases Nat.lt_or_ge w9 100 with hn3 | hn3
    · skip
      refine lv_iload_n hx hb dJ6_getChars_ba4f3_22 rfl (lv_at hl 2 rfl) ?_
      refine lv_bipush (v := (-100)) hx hb dJ6_getChars_ba4f3_23 (by decide) ?_
      refine lv_icmp_gt (tgt := 72) hx hb dJ6_getChars_ba4f3_25 (by decide) (fun c4 => ?_) (fun c9 => absurd c9 (fun h9 => h9 (ng_gt hn3)))
      refine lv_aload_n hx hb dJ6_getChars_ba4f3_72 rfl (lv_at hl 4 rfl) ?_
      refine lv_iinc (v := (nI (ix - 1))) (lv' := [(5, .int (nI (ix - 1))), (6, .int 1), (0, .int (ngI w9)), (1, .int (nI ix)), (2, .ref o1)]) hx hb dJ6_getChars_ba4f3_73 hl (k := 1) rfl (nI_dec (a := ix) (b := (ix - 1)) (by omega)) (by decide) rfl (fun ls hl => ?_)
      refine lv_iload hx hb dJ6_getChars_ba4f3_76 (lv_at hl 0 rfl) ?_
      refine va_gets hx hb hd1 hS hown (hts (.fieldLink RJ6 83 "java/lang/Integer" "DigitOnes" "[B") (by decide +kernel)) (fun _ h9 => h9) dJ6_getChars_ba4f3_78 ?_
      refine lv_iload_n hx hb dJ6_getChars_ba4f3_81 rfl (lv_at hl 2 rfl) ?_
      refine lv_ineg hx hb dJ6_getChars_ba4f3_82 ?_
      refine lv_topi (fun yn5 eyn5 => ?_)
      obtain rfl : yn5 = (nI w9) := eyn5.trans (ng_opp)
      refine va_tb (v := .int (f1 ((nI w9)).toNatClampNeg)) hx hb ht1 hS (vp_in_nI (n := w9) (N := 100) (show w9 < 100 by omega) (by decide)) rfl dJ6_getChars_ba4f3_83 ?_
      refine lv_topi (fun yn6 eyn6 => ?_)
      refine va_bast hx hb hK hP hD hS 0 3 rfl rfl (vp_in_nI (n := (ix - 1)) (N := cp) (show (ix - 1) < cp by omega) (by omega)) dJ6_getChars_ba4f3_84 (fun H locs hP hD hS => ?_)
      obtain ⟨hP, hD⟩ : PDq D A [(o1, .inl (cA 3, cp, .inl (upd fy (((nI (ix - 1))).toNatClampNeg) (vp_nar .byte yn6))))] H := ⟨hP, hD⟩
      have hn8 : sb_Fit (upd fy (((nI (ix - 1))).toNatClampNeg) (vp_nar .byte yn6)) := (sb_fitU hfit (pk_fb _))
      generalize (upd fy (((nI (ix - 1))).toNatClampNeg) (vp_nar .byte yn6)) = fn7 at hP hD hn8
      obtain ⟨hP, hD⟩ : PDq D A [(o1, .inl (cA 3, cp, .inl fn7))] H := ⟨hP, hD⟩
      rcases Nat.lt_or_ge w9 10 with hn9 | hn9
      · skip
        refine lv_iload_n hx hb dJ6_getChars_ba4f3_85 rfl (lv_at hl 2 rfl) ?_
        refine lv_bipush (v := (-9)) hx hb dJ6_getChars_ba4f3_86 (by decide) ?_
        refine lv_icmp_ge (tgt := 104) hx hb dJ6_getChars_ba4f3_88 (by decide) (fun c10 => ?_) (fun c9 => absurd c9 (fun h9 => h9 (ng_ge9 hn9)))
        refine lv_iload hx hb dJ6_getChars_ba4f3_104 (lv_at hl 1 rfl) ?_
        refine lv_if_eq (tgt := 118) hx hb dJ6_getChars_ba4f3_106 (by decide) (fun c9 => absurd c9 (by decide)) (fun c11 => ?_)
        refine lv_aload_n hx hb dJ6_getChars_ba4f3_109 rfl (lv_at hl 4 rfl) ?_
        refine lv_iinc (v := (nI ((ix - 1) - 1))) (lv' := [(5, .int (nI ((ix - 1) - 1))), (6, .int 1), (0, .int (ngI w9)), (1, .int (nI ix)), (2, .ref o1)]) hx hb dJ6_getChars_ba4f3_110 hl (k := 0) rfl (nI_dec (a := (ix - 1)) (b := ((ix - 1) - 1)) (by omega)) (by decide) rfl (fun ls hl => ?_)
        refine lv_iload hx hb dJ6_getChars_ba4f3_113 (lv_at hl 0 rfl) ?_
        refine lv_bipush (v := 45) hx hb dJ6_getChars_ba4f3_115 (by decide) ?_
        refine va_bast hx hb hK hP hD hS 0 3 rfl rfl (vp_in_nI (n := ((ix - 1) - 1)) (N := cp) (show ((ix - 1) - 1) < cp by omega) (by omega)) dJ6_getChars_ba4f3_117 (fun H locs hP hD hS => ?_)
        obtain ⟨hP, hD⟩ : PDq D A [(o1, .inl (cA 3, cp, .inl (upd fn7 (((nI ((ix - 1) - 1))).toNatClampNeg) (vp_nar .byte 45))))] H := ⟨hP, hD⟩
        have hn13 : sb_Fit (upd fn7 (((nI ((ix - 1) - 1))).toNatClampNeg) (vp_nar .byte 45)) := (sb_fitU hn8 (pk_fb _))
        generalize (upd fn7 (((nI ((ix - 1) - 1))).toNatClampNeg) (vp_nar .byte 45)) = fn12 at hP hD hn13
        obtain ⟨hP, hD⟩ : PDq D A [(o1, .inl (cA 3, cp, .inl fn12))] H := ⟨hP, hD⟩
        refine lv_iload hx hb dJ6_getChars_ba4f3_118 (lv_at hl 0 rfl) ?_
        obtain ⟨hP9, hD9⟩ := PDq.sub (ws' := [(o1, .inl (cA 3, cp, .inl fn12))]) hP hD [0] (by decide) rfl
        refine W.widen (k := 0) (n := 0) (Nat.le_of_ble_eq_true rfl) (Nat.le_of_ble_eq_true rfl) ?_
        exact (W.iret (v := (nI ((ix - 1) - 1))) hx hb hr (fun t ht hW => ⟨⟨(nI ((ix - 1) - 1)), (), rfl, trivial, fn12, hn13, by rw [ht]; exact hP9, hD9⟩, hS.F ht⟩) hS.2.2 dJ6_getChars_ba4f3_120)
      · skip
        have hqhn9 := dg_2 hn9 (by omega)
        refine lv_iload_n hx hb dJ6_getChars_ba4f3_85 rfl (lv_at hl 2 rfl) ?_
        refine lv_bipush (v := (-9)) hx hb dJ6_getChars_ba4f3_86 (by decide) ?_
        refine lv_icmp_ge (tgt := 104) hx hb dJ6_getChars_ba4f3_88 (by decide) (fun c9 => absurd c9 (ng_nge9 hn9 (by omega))) (fun c14 => ?_)
        refine lv_aload_n hx hb dJ6_getChars_ba4f3_91 rfl (lv_at hl 4 rfl) ?_
        refine lv_iinc (v := (nI ((ix - 1) - 1))) (lv' := [(5, .int (nI ((ix - 1) - 1))), (6, .int 1), (0, .int (ngI w9)), (1, .int (nI ix)), (2, .ref o1)]) hx hb dJ6_getChars_ba4f3_92 hl (k := 0) rfl (nI_dec (a := (ix - 1)) (b := ((ix - 1) - 1)) (by omega)) (by decide) rfl (fun ls hl => ?_)
        refine lv_iload hx hb dJ6_getChars_ba4f3_95 (lv_at hl 0 rfl) ?_
        refine va_gets hx hb hd2 hS hown (hts (.fieldLink RJ6 87 "java/lang/Integer" "DigitTens" "[B") (by decide +kernel)) (fun _ h9 => h9) dJ6_getChars_ba4f3_97 ?_
        refine lv_iload_n hx hb dJ6_getChars_ba4f3_100 rfl (lv_at hl 2 rfl) ?_
        refine lv_ineg hx hb dJ6_getChars_ba4f3_101 ?_
        refine lv_topi (fun yn15 eyn15 => ?_)
        obtain rfl : yn15 = (nI w9) := eyn15.trans (ng_opp)
        refine va_tb (v := .int (f2 ((nI w9)).toNatClampNeg)) hx hb ht2 hS (vp_in_nI (n := w9) (N := 100) (show w9 < 100 by omega) (by decide)) rfl dJ6_getChars_ba4f3_102 ?_
        refine lv_topi (fun yn16 eyn16 => ?_)
        refine va_bast hx hb hK hP hD hS 0 3 rfl rfl (vp_in_nI (n := ((ix - 1) - 1)) (N := cp) (show ((ix - 1) - 1) < cp by omega) (by omega)) dJ6_getChars_ba4f3_103 (fun H locs hP hD hS => ?_)
        obtain ⟨hP, hD⟩ : PDq D A [(o1, .inl (cA 3, cp, .inl (upd fn7 (((nI ((ix - 1) - 1))).toNatClampNeg) (vp_nar .byte yn16))))] H := ⟨hP, hD⟩
        have hn18 : sb_Fit (upd fn7 (((nI ((ix - 1) - 1))).toNatClampNeg) (vp_nar .byte yn16)) := (sb_fitU hn8 (pk_fb _))
        generalize (upd fn7 (((nI ((ix - 1) - 1))).toNatClampNeg) (vp_nar .byte yn16)) = fn17 at hP hD hn18
        obtain ⟨hP, hD⟩ : PDq D A [(o1, .inl (cA 3, cp, .inl fn17))] H := ⟨hP, hD⟩
        refine lv_iload hx hb dJ6_getChars_ba4f3_104 (lv_at hl 1 rfl) ?_
        refine lv_if_eq (tgt := 118) hx hb dJ6_getChars_ba4f3_106 (by decide) (fun c9 => absurd c9 (by decide)) (fun c19 => ?_)
        refine lv_aload_n hx hb dJ6_getChars_ba4f3_109 rfl (lv_at hl 4 rfl) ?_
        refine lv_iinc (v := (nI (((ix - 1) - 1) - 1))) (lv' := [(5, .int (nI (((ix - 1) - 1) - 1))), (6, .int 1), (0, .int (ngI w9)), (1, .int (nI ix)), (2, .ref o1)]) hx hb dJ6_getChars_ba4f3_110 hl (k := 0) rfl (nI_dec (a := ((ix - 1) - 1)) (b := (((ix - 1) - 1) - 1)) (by omega)) (by decide) rfl (fun ls hl => ?_)
        refine lv_iload hx hb dJ6_getChars_ba4f3_113 (lv_at hl 0 rfl) ?_
        refine lv_bipush (v := 45) hx hb dJ6_getChars_ba4f3_115 (by decide) ?_
        refine va_bast hx hb hK hP hD hS 0 3 rfl rfl (vp_in_nI (n := (((ix - 1) - 1) - 1)) (N := cp) (show (((ix - 1) - 1) - 1) < cp by omega) (by omega)) dJ6_getChars_ba4f3_117 (fun H locs hP hD hS => ?_)
        obtain ⟨hP, hD⟩ : PDq D A [(o1, .inl (cA 3, cp, .inl (upd fn17 (((nI (((ix - 1) - 1) - 1))).toNatClampNeg) (vp_nar .byte 45))))] H := ⟨hP, hD⟩
        have hn21 : sb_Fit (upd fn17 (((nI (((ix - 1) - 1) - 1))).toNatClampNeg) (vp_nar .byte 45)) := (sb_fitU hn18 (pk_fb _))
        generalize (upd fn17 (((nI (((ix - 1) - 1) - 1))).toNatClampNeg) (vp_nar .byte 45)) = fn20 at hP hD hn21
        obtain ⟨hP, hD⟩ : PDq D A [(o1, .inl (cA 3, cp, .inl fn20))] H := ⟨hP, hD⟩
        refine lv_iload hx hb dJ6_getChars_ba4f3_118 (lv_at hl 0 rfl) ?_
        obtain ⟨hP9, hD9⟩ := PDq.sub (ws' := [(o1, .inl (cA 3, cp, .inl fn20))]) hP hD [0] (by decide) rfl
        refine W.widen (k := 0) (n := 0) (Nat.le_of_ble_eq_true rfl) (Nat.le_of_ble_eq_true rfl) ?_
        exact (W.iret (v := (nI (((ix - 1) - 1) - 1))) hx hb hr (fun t ht hW => ⟨⟨(nI (((ix - 1) - 1) - 1)), (), rfl, trivial, fn20, hn21, by rw [ht]; exact hP9, hD9⟩, hS.F ht⟩) hS.2.2 dJ6_getChars_ba4f3_120)
    · skip
      refine lv_iload_n hx hb dJ6_getChars_ba4f3_22 rfl (lv_at hl 2 rfl) ?_
      refine lv_bipush (v := (-100)) hx hb dJ6_getChars_ba4f3_23 (by decide) ?_
      refine lv_icmp_gt (tgt := 72) hx hb dJ6_getChars_ba4f3_25 (by decide) (fun c9 => absurd c9 (ng_ngt hn3 (by omega))) (fun c22 => ?_)
      refine lv_iload_n hx hb dJ6_getChars_ba4f3_28 rfl (lv_at hl 2 rfl) ?_
      refine lv_bipush (v := 100) hx hb dJ6_getChars_ba4f3_29 (by decide) ?_
      obtain ⟨w0x, hw0x⟩ : ∃ x9, x9 = w9 / 100 := ⟨_, rfl⟩
      have hdw0x : dg w9 = dg w0x + 2 := by rw [hw0x]; exact dg_100 (by omega) hn3
      have hpw0x := dg_pos w0x
      refine lv_idiv hx hb dJ6_getChars_ba4f3_31 (by decide) ?_
      refine lv_topi (fun yn23 eyn23 => ?_)
      obtain rfl : yn23 = (ngI w0x) := eyn23.trans (by rw [ng_div (by omega), ← hw0x])
      refine lv_istore_n (lv' := [(3, .int (ngI w0x)), (6, .int 1), (5, .int (nI ix)), (0, .int (ngI w9)), (1, .int (nI ix)), (2, .ref o1)]) hx hb dJ6_getChars_ba4f3_32 rfl hl (by decide) rfl (fun ls hl => ?_)
      refine lv_iload_n hx hb dJ6_getChars_ba4f3_33 rfl (lv_at hl 0 rfl) ?_
      refine lv_bipush (v := 100) hx hb dJ6_getChars_ba4f3_34 (by decide) ?_
      refine lv_imul hx hb dJ6_getChars_ba4f3_36 ?_
      refine lv_topi (fun yn24 eyn24 => ?_)
      refine lv_iload_n hx hb dJ6_getChars_ba4f3_37 rfl (lv_at hl 3 rfl) ?_
      refine lv_isub hx hb dJ6_getChars_ba4f3_38 ?_
      refine lv_topi (fun yn27 eyn27 => ?_)
      obtain rfl : yn27 = (nI (w9 % 100)) := eyn27.trans (by rw [eyn24, hw0x]; exact ng_rem (by omega))
      refine lv_istore (lv' := [(4, .int (nI (w9 % 100))), (3, .int (ngI w0x)), (6, .int 1), (5, .int (nI ix)), (0, .int (ngI w9)), (1, .int (nI ix)), (2, .ref o1)]) hx hb dJ6_getChars_ba4f3_39 hl (by decide) rfl (fun ls hl => ?_)
      refine lv_iload_n hx hb dJ6_getChars_ba4f3_41 rfl (lv_at hl 1 rfl) ?_
      refine lv_istore_n (lv' := [(0, .int (ngI w0x)), (4, .int (nI (w9 % 100))), (3, .int (ngI w0x)), (6, .int 1), (5, .int (nI ix)), (1, .int (nI ix)), (2, .ref o1)]) hx hb dJ6_getChars_ba4f3_42 rfl hl (by decide) rfl (fun ls hl => ?_)
      refine lv_aload_n hx hb dJ6_getChars_ba4f3_43 rfl (lv_at hl 6 rfl) ?_
      refine lv_iinc (v := (nI (ix - 1))) (lv' := [(5, .int (nI (ix - 1))), (0, .int (ngI w0x)), (4, .int (nI (w9 % 100))), (3, .int (ngI w0x)), (6, .int 1), (1, .int (nI ix)), (2, .ref o1)]) hx hb dJ6_getChars_ba4f3_44 hl (k := 4) rfl (nI_dec (a := ix) (b := (ix - 1)) (by omega)) (by decide) rfl (fun ls hl => ?_)
      refine lv_iload hx hb dJ6_getChars_ba4f3_47 (lv_at hl 0 rfl) ?_
      refine va_gets hx hb hd1 hS hown (hts (.fieldLink RJ6 83 "java/lang/Integer" "DigitOnes" "[B") (by decide +kernel)) (fun _ h9 => h9) dJ6_getChars_ba4f3_49 ?_
      refine lv_iload hx hb dJ6_getChars_ba4f3_52 (lv_at hl 2 rfl) ?_
      refine va_tb (v := .int (f1 ((nI (w9 % 100))).toNatClampNeg)) hx hb ht1 hS (vp_in_nI (n := (w9 % 100)) (N := 100) (show (w9 % 100) < 100 by omega) (by decide)) rfl dJ6_getChars_ba4f3_54 ?_
      refine lv_topi (fun yn28 eyn28 => ?_)
      refine va_bast hx hb hK hP hD hS 0 3 rfl rfl (vp_in_nI (n := (ix - 1)) (N := cp) (show (ix - 1) < cp by omega) (by omega)) dJ6_getChars_ba4f3_55 (fun H locs hP hD hS => ?_)
      obtain ⟨hP, hD⟩ : PDq D A [(o1, .inl (cA 3, cp, .inl (upd fy (((nI (ix - 1))).toNatClampNeg) (vp_nar .byte yn28))))] H := ⟨hP, hD⟩
      have hn30 : sb_Fit (upd fy (((nI (ix - 1))).toNatClampNeg) (vp_nar .byte yn28)) := (sb_fitU hfit (pk_fb _))
      generalize (upd fy (((nI (ix - 1))).toNatClampNeg) (vp_nar .byte yn28)) = fn29 at hP hD hn30
      obtain ⟨hP, hD⟩ : PDq D A [(o1, .inl (cA 3, cp, .inl fn29))] H := ⟨hP, hD⟩
      refine lv_aload_n hx hb dJ6_getChars_ba4f3_56 rfl (lv_at hl 6 rfl) ?_
      refine lv_iinc (v := (nI ((ix - 1) - 1))) (lv' := [(5, .int (nI ((ix - 1) - 1))), (0, .int (ngI w0x)), (4, .int (nI (w9 % 100))), (3, .int (ngI w0x)), (6, .int 1), (1, .int (nI ix)), (2, .ref o1)]) hx hb dJ6_getChars_ba4f3_57 hl (k := 0) rfl (nI_dec (a := (ix - 1)) (b := ((ix - 1) - 1)) (by omega)) (by decide) rfl (fun ls hl => ?_)
      refine lv_iload hx hb dJ6_getChars_ba4f3_60 (lv_at hl 0 rfl) ?_
      refine va_gets hx hb hd2 hS hown (hts (.fieldLink RJ6 87 "java/lang/Integer" "DigitTens" "[B") (by decide +kernel)) (fun _ h9 => h9) dJ6_getChars_ba4f3_62 ?_
      refine lv_iload hx hb dJ6_getChars_ba4f3_65 (lv_at hl 2 rfl) ?_
      refine va_tb (v := .int (f2 ((nI (w9 % 100))).toNatClampNeg)) hx hb ht2 hS (vp_in_nI (n := (w9 % 100)) (N := 100) (show (w9 % 100) < 100 by omega) (by decide)) rfl dJ6_getChars_ba4f3_67 ?_
      refine lv_topi (fun yn31 eyn31 => ?_)
      refine va_bast hx hb hK hP hD hS 0 3 rfl rfl (vp_in_nI (n := ((ix - 1) - 1)) (N := cp) (show ((ix - 1) - 1) < cp by omega) (by omega)) dJ6_getChars_ba4f3_68 (fun H locs hP hD hS => ?_)
      obtain ⟨hP, hD⟩ : PDq D A [(o1, .inl (cA 3, cp, .inl (upd fn29 (((nI ((ix - 1) - 1))).toNatClampNeg) (vp_nar .byte yn31))))] H := ⟨hP, hD⟩
      have hn33 : sb_Fit (upd fn29 (((nI ((ix - 1) - 1))).toNatClampNeg) (vp_nar .byte yn31)) := (sb_fitU hn30 (pk_fb _))
      generalize (upd fn29 (((nI ((ix - 1) - 1))).toNatClampNeg) (vp_nar .byte yn31)) = fn32 at hP hD hn33
      obtain ⟨hP, hD⟩ : PDq D A [(o1, .inl (cA 3, cp, .inl fn32))] H := ⟨hP, hD⟩
      refine lv_goto (tgt := 22) hx hb dJ6_getChars_ba4f3_69 (by decide) ?_
      have hqhn34 := dg_pos w0x
      rcases Nat.lt_or_ge w0x 100 with hn34 | hn34
      · skip
        refine lv_iload_n hx hb dJ6_getChars_ba4f3_22 rfl (lv_at hl 1 rfl) ?_
        refine lv_bipush (v := (-100)) hx hb dJ6_getChars_ba4f3_23 (by decide) ?_
        refine lv_icmp_gt (tgt := 72) hx hb dJ6_getChars_ba4f3_25 (by decide) (fun c35 => ?_) (fun c9 => absurd c9 (fun h9 => h9 (ng_gt hn34)))
        refine lv_aload_n hx hb dJ6_getChars_ba4f3_72 rfl (lv_at hl 6 rfl) ?_
        refine lv_iinc (v := (nI (((ix - 1) - 1) - 1))) (lv' := [(5, .int (nI (((ix - 1) - 1) - 1))), (0, .int (ngI w0x)), (4, .int (nI (w9 % 100))), (3, .int (ngI w0x)), (6, .int 1), (1, .int (nI ix)), (2, .ref o1)]) hx hb dJ6_getChars_ba4f3_73 hl (k := 0) rfl (nI_dec (a := ((ix - 1) - 1)) (b := (((ix - 1) - 1) - 1)) (by omega)) (by decide) rfl (fun ls hl => ?_)
        refine lv_iload hx hb dJ6_getChars_ba4f3_76 (lv_at hl 0 rfl) ?_
        refine va_gets hx hb hd1 hS hown (hts (.fieldLink RJ6 83 "java/lang/Integer" "DigitOnes" "[B") (by decide +kernel)) (fun _ h9 => h9) dJ6_getChars_ba4f3_78 ?_
        refine lv_iload_n hx hb dJ6_getChars_ba4f3_81 rfl (lv_at hl 1 rfl) ?_
        refine lv_ineg hx hb dJ6_getChars_ba4f3_82 ?_
        refine lv_topi (fun yn36 eyn36 => ?_)
        obtain rfl : yn36 = (nI w0x) := eyn36.trans (ng_opp)
        refine va_tb (v := .int (f1 ((nI w0x)).toNatClampNeg)) hx hb ht1 hS (vp_in_nI (n := w0x) (N := 100) (show w0x < 100 by omega) (by decide)) rfl dJ6_getChars_ba4f3_83 ?_
        refine lv_topi (fun yn37 eyn37 => ?_)
        refine va_bast hx hb hK hP hD hS 0 3 rfl rfl (vp_in_nI (n := (((ix - 1) - 1) - 1)) (N := cp) (show (((ix - 1) - 1) - 1) < cp by omega) (by omega)) dJ6_getChars_ba4f3_84 (fun H locs hP hD hS => ?_)
        obtain ⟨hP, hD⟩ : PDq D A [(o1, .inl (cA 3, cp, .inl (upd fn32 (((nI (((ix - 1) - 1) - 1))).toNatClampNeg) (vp_nar .byte yn37))))] H := ⟨hP, hD⟩
        have hn39 : sb_Fit (upd fn32 (((nI (((ix - 1) - 1) - 1))).toNatClampNeg) (vp_nar .byte yn37)) := (sb_fitU hn33 (pk_fb _))
        generalize (upd fn32 (((nI (((ix - 1) - 1) - 1))).toNatClampNeg) (vp_nar .byte yn37)) = fn38 at hP hD hn39
        obtain ⟨hP, hD⟩ : PDq D A [(o1, .inl (cA 3, cp, .inl fn38))] H := ⟨hP, hD⟩
        rcases Nat.lt_or_ge w0x 10 with hn40 | hn40
        · skip
          refine lv_iload_n hx hb dJ6_getChars_ba4f3_85 rfl (lv_at hl 1 rfl) ?_
          refine lv_bipush (v := (-9)) hx hb dJ6_getChars_ba4f3_86 (by decide) ?_
          refine lv_icmp_ge (tgt := 104) hx hb dJ6_getChars_ba4f3_88 (by decide) (fun c41 => ?_) (fun c9 => absurd c9 (fun h9 => h9 (ng_ge9 hn40)))
          refine lv_iload hx hb dJ6_getChars_ba4f3_104 (lv_at hl 4 rfl) ?_
          refine lv_if_eq (tgt := 118) hx hb dJ6_getChars_ba4f3_106 (by decide) (fun c9 => absurd c9 (by decide)) (fun c42 => ?_)
          refine lv_aload_n hx hb dJ6_getChars_ba4f3_109 rfl (lv_at hl 6 rfl) ?_
          refine lv_iinc (v := (nI ((((ix - 1) - 1) - 1) - 1))) (lv' := [(5, .int (nI ((((ix - 1) - 1) - 1) - 1))), (0, .int (ngI w0x)), (4, .int (nI (w9 % 100))), (3, .int (ngI w0x)), (6, .int 1), (1, .int (nI ix)), (2, .ref o1)]) hx hb dJ6_getChars_ba4f3_110 hl (k := 0) rfl (nI_dec (a := (((ix - 1) - 1) - 1)) (b := ((((ix - 1) - 1) - 1) - 1)) (by omega)) (by decide) rfl (fun ls hl => ?_)
          refine lv_iload hx hb dJ6_getChars_ba4f3_113 (lv_at hl 0 rfl) ?_
          refine lv_bipush (v := 45) hx hb dJ6_getChars_ba4f3_115 (by decide) ?_
          refine va_bast hx hb hK hP hD hS 0 3 rfl rfl (vp_in_nI (n := ((((ix - 1) - 1) - 1) - 1)) (N := cp) (show ((((ix - 1) - 1) - 1) - 1) < cp by omega) (by omega)) dJ6_getChars_ba4f3_117 (fun H locs hP hD hS => ?_)
          obtain ⟨hP, hD⟩ : PDq D A [(o1, .inl (cA 3, cp, .inl (upd fn38 (((nI ((((ix - 1) - 1) - 1) - 1))).toNatClampNeg) (vp_nar .byte 45))))] H := ⟨hP, hD⟩
          have hn44 : sb_Fit (upd fn38 (((nI ((((ix - 1) - 1) - 1) - 1))).toNatClampNeg) (vp_nar .byte 45)) := (sb_fitU hn39 (pk_fb _))
          generalize (upd fn38 (((nI ((((ix - 1) - 1) - 1) - 1))).toNatClampNeg) (vp_nar .byte 45)) = fn43 at hP hD hn44
          obtain ⟨hP, hD⟩ : PDq D A [(o1, .inl (cA 3, cp, .inl fn43))] H := ⟨hP, hD⟩
          refine lv_iload hx hb dJ6_getChars_ba4f3_118 (lv_at hl 0 rfl) ?_
          obtain ⟨hP9, hD9⟩ := PDq.sub (ws' := [(o1, .inl (cA 3, cp, .inl fn43))]) hP hD [0] (by decide) rfl
          refine W.widen (k := 0) (n := 0) (Nat.le_of_ble_eq_true rfl) (Nat.le_of_ble_eq_true rfl) ?_
          exact (W.iret (v := (nI ((((ix - 1) - 1) - 1) - 1))) hx hb hr (fun t ht hW => ⟨⟨(nI ((((ix - 1) - 1) - 1) - 1)), (), rfl, trivial, fn43, hn44, by rw [ht]; exact hP9, hD9⟩, hS.F ht⟩) hS.2.2 dJ6_getChars_ba4f3_120)
        · skip
          have hqhn40 := dg_2 hn40 (by omega)
          refine lv_iload_n hx hb dJ6_getChars_ba4f3_85 rfl (lv_at hl 1 rfl) ?_
          refine lv_bipush (v := (-9)) hx hb dJ6_getChars_ba4f3_86 (by decide) ?_
          refine lv_icmp_ge (tgt := 104) hx hb dJ6_getChars_ba4f3_88 (by decide) (fun c9 => absurd c9 (ng_nge9 hn40 (by omega))) (fun c45 => ?_)
          refine lv_aload_n hx hb dJ6_getChars_ba4f3_91 rfl (lv_at hl 6 rfl) ?_
          refine lv_iinc (v := (nI ((((ix - 1) - 1) - 1) - 1))) (lv' := [(5, .int (nI ((((ix - 1) - 1) - 1) - 1))), (0, .int (ngI w0x)), (4, .int (nI (w9 % 100))), (3, .int (ngI w0x)), (6, .int 1), (1, .int (nI ix)), (2, .ref o1)]) hx hb dJ6_getChars_ba4f3_92 hl (k := 0) rfl (nI_dec (a := (((ix - 1) - 1) - 1)) (b := ((((ix - 1) - 1) - 1) - 1)) (by omega)) (by decide) rfl (fun ls hl => ?_)
          refine lv_iload hx hb dJ6_getChars_ba4f3_95 (lv_at hl 0 rfl) ?_
          refine va_gets hx hb hd2 hS hown (hts (.fieldLink RJ6 87 "java/lang/Integer" "DigitTens" "[B") (by decide +kernel)) (fun _ h9 => h9) dJ6_getChars_ba4f3_97 ?_
          refine lv_iload_n hx hb dJ6_getChars_ba4f3_100 rfl (lv_at hl 1 rfl) ?_
          refine lv_ineg hx hb dJ6_getChars_ba4f3_101 ?_
          refine lv_topi (fun yn46 eyn46 => ?_)
          obtain rfl : yn46 = (nI w0x) := eyn46.trans (ng_opp)
          refine va_tb (v := .int (f2 ((nI w0x)).toNatClampNeg)) hx hb ht2 hS (vp_in_nI (n := w0x) (N := 100) (show w0x < 100 by omega) (by decide)) rfl dJ6_getChars_ba4f3_102 ?_
          refine lv_topi (fun yn47 eyn47 => ?_)
          refine va_bast hx hb hK hP hD hS 0 3 rfl rfl (vp_in_nI (n := ((((ix - 1) - 1) - 1) - 1)) (N := cp) (show ((((ix - 1) - 1) - 1) - 1) < cp by omega) (by omega)) dJ6_getChars_ba4f3_103 (fun H locs hP hD hS => ?_)
          obtain ⟨hP, hD⟩ : PDq D A [(o1, .inl (cA 3, cp, .inl (upd fn38 (((nI ((((ix - 1) - 1) - 1) - 1))).toNatClampNeg) (vp_nar .byte yn47))))] H := ⟨hP, hD⟩
          have hn49 : sb_Fit (upd fn38 (((nI ((((ix - 1) - 1) - 1) - 1))).toNatClampNeg) (vp_nar .byte yn47)) := (sb_fitU hn39 (pk_fb _))
          generalize (upd fn38 (((nI ((((ix - 1) - 1) - 1) - 1))).toNatClampNeg) (vp_nar .byte yn47)) = fn48 at hP hD hn49
          obtain ⟨hP, hD⟩ : PDq D A [(o1, .inl (cA 3, cp, .inl fn48))] H := ⟨hP, hD⟩
          refine lv_iload hx hb dJ6_getChars_ba4f3_104 (lv_at hl 4 rfl) ?_
          refine lv_if_eq (tgt := 118) hx hb dJ6_getChars_ba4f3_106 (by decide) (fun c9 => absurd c9 (by decide)) (fun c50 => ?_)
          refine lv_aload_n hx hb dJ6_getChars_ba4f3_109 rfl (lv_at hl 6 rfl) ?_
          refine lv_iinc (v := (nI (((((ix - 1) - 1) - 1) - 1) - 1))) (lv' := [(5, .int (nI (((((ix - 1) - 1) - 1) - 1) - 1))), (0, .int (ngI w0x)), (4, .int (nI (w9 % 100))), (3, .int (ngI w0x)), (6, .int 1), (1, .int (nI ix)), (2, .ref o1)]) hx hb dJ6_getChars_ba4f3_110 hl (k := 0) rfl (nI_dec (a := ((((ix - 1) - 1) - 1) - 1)) (b := (((((ix - 1) - 1) - 1) - 1) - 1)) (by omega)) (by decide) rfl (fun ls hl => ?_)
          refine lv_iload hx hb dJ6_getChars_ba4f3_113 (lv_at hl 0 rfl) ?_
          refine lv_bipush (v := 45) hx hb dJ6_getChars_ba4f3_115 (by decide) ?_
          refine va_bast hx hb hK hP hD hS 0 3 rfl rfl (vp_in_nI (n := (((((ix - 1) - 1) - 1) - 1) - 1)) (N := cp) (show (((((ix - 1) - 1) - 1) - 1) - 1) < cp by omega) (by omega)) dJ6_getChars_ba4f3_117 (fun H locs hP hD hS => ?_)
          obtain ⟨hP, hD⟩ : PDq D A [(o1, .inl (cA 3, cp, .inl (upd fn48 (((nI (((((ix - 1) - 1) - 1) - 1) - 1))).toNatClampNeg) (vp_nar .byte 45))))] H := ⟨hP, hD⟩
          have hn52 : sb_Fit (upd fn48 (((nI (((((ix - 1) - 1) - 1) - 1) - 1))).toNatClampNeg) (vp_nar .byte 45)) := (sb_fitU hn49 (pk_fb _))
          generalize (upd fn48 (((nI (((((ix - 1) - 1) - 1) - 1) - 1))).toNatClampNeg) (vp_nar .byte 45)) = fn51 at hP hD hn52
          obtain ⟨hP, hD⟩ : PDq D A [(o1, .inl (cA 3, cp, .inl fn51))] H := ⟨hP, hD⟩
          refine lv_iload hx hb dJ6_getChars_ba4f3_118 (lv_at hl 0 rfl) ?_
          obtain ⟨hP9, hD9⟩ := PDq.sub (ws' := [(o1, .inl (cA 3, cp, .inl fn51))]) hP hD [0] (by decide) rfl
          refine W.widen (k := 0) (n := 0) (Nat.le_of_ble_eq_true rfl) (Nat.le_of_ble_eq_true rfl) ?_
          exact (W.iret (v := (nI (((((ix - 1) - 1) - 1) - 1) - 1))) hx hb hr (fun t ht hW => ⟨⟨(nI (((((ix - 1) - 1) - 1) - 1) - 1)), (), rfl, trivial, fn51, hn52, by rw [ht]; exact hP9, hD9⟩, hS.F ht⟩) hS.2.2 dJ6_getChars_ba4f3_120)
      · skip
        refine lv_iload_n hx hb dJ6_getChars_ba4f3_22 rfl (lv_at hl 1 rfl) ?_
        refine lv_bipush (v := (-100)) hx hb dJ6_getChars_ba4f3_23 (by decide) ?_
        refine lv_icmp_gt (tgt := 72) hx hb dJ6_getChars_ba4f3_25 (by decide) (fun c9 => absurd c9 (ng_ngt hn34 (by omega))) (fun c53 => ?_)
        refine lv_iload_n hx hb dJ6_getChars_ba4f3_28 rfl (lv_at hl 1 rfl) ?_
        refine lv_bipush (v := 100) hx hb dJ6_getChars_ba4f3_29 (by decide) ?_
        obtain ⟨w1x, hw1x⟩ : ∃ x9, x9 = w0x / 100 := ⟨_, rfl⟩
        have hdw1x : dg w0x = dg w1x + 2 := by rw [hw1x]; exact dg_100 (by omega) hn34
        have hpw1x := dg_pos w1x
        refine lv_idiv hx hb dJ6_getChars_ba4f3_31 (by decide) ?_
        refine lv_topi (fun yn54 eyn54 => ?_)
        obtain rfl : yn54 = (ngI w1x) := eyn54.trans (by rw [ng_div (by omega), ← hw1x])
        refine lv_istore_n (lv' := [(3, .int (ngI w1x)), (5, .int (nI ((ix - 1) - 1))), (0, .int (ngI w0x)), (4, .int (nI (w9 % 100))), (6, .int 1), (1, .int (nI ix)), (2, .ref o1)]) hx hb dJ6_getChars_ba4f3_32 rfl hl (by decide) rfl (fun ls hl => ?_)
        refine lv_iload_n hx hb dJ6_getChars_ba4f3_33 rfl (lv_at hl 0 rfl) ?_
        refine lv_bipush (v := 100) hx hb dJ6_getChars_ba4f3_34 (by decide) ?_
        refine lv_imul hx hb dJ6_getChars_ba4f3_36 ?_
        refine lv_topi (fun yn55 eyn55 => ?_)
        refine lv_iload_n hx hb dJ6_getChars_ba4f3_37 rfl (lv_at hl 2 rfl) ?_
        refine lv_isub hx hb dJ6_getChars_ba4f3_38 ?_
        refine lv_topi (fun yn58 eyn58 => ?_)
        obtain rfl : yn58 = (nI (w0x % 100)) := eyn58.trans (by rw [eyn55, hw1x]; exact ng_rem (by omega))
        refine lv_istore (lv' := [(4, .int (nI (w0x % 100))), (3, .int (ngI w1x)), (5, .int (nI ((ix - 1) - 1))), (0, .int (ngI w0x)), (6, .int 1), (1, .int (nI ix)), (2, .ref o1)]) hx hb dJ6_getChars_ba4f3_39 hl (by decide) rfl (fun ls hl => ?_)
        refine lv_iload_n hx hb dJ6_getChars_ba4f3_41 rfl (lv_at hl 1 rfl) ?_
        refine lv_istore_n (lv' := [(0, .int (ngI w1x)), (4, .int (nI (w0x % 100))), (3, .int (ngI w1x)), (5, .int (nI ((ix - 1) - 1))), (6, .int 1), (1, .int (nI ix)), (2, .ref o1)]) hx hb dJ6_getChars_ba4f3_42 rfl hl (by decide) rfl (fun ls hl => ?_)
        refine lv_aload_n hx hb dJ6_getChars_ba4f3_43 rfl (lv_at hl 6 rfl) ?_
        refine lv_iinc (v := (nI (((ix - 1) - 1) - 1))) (lv' := [(5, .int (nI (((ix - 1) - 1) - 1))), (0, .int (ngI w1x)), (4, .int (nI (w0x % 100))), (3, .int (ngI w1x)), (6, .int 1), (1, .int (nI ix)), (2, .ref o1)]) hx hb dJ6_getChars_ba4f3_44 hl (k := 3) rfl (nI_dec (a := ((ix - 1) - 1)) (b := (((ix - 1) - 1) - 1)) (by omega)) (by decide) rfl (fun ls hl => ?_)
        refine lv_iload hx hb dJ6_getChars_ba4f3_47 (lv_at hl 0 rfl) ?_
        refine va_gets hx hb hd1 hS hown (hts (.fieldLink RJ6 83 "java/lang/Integer" "DigitOnes" "[B") (by decide +kernel)) (fun _ h9 => h9) dJ6_getChars_ba4f3_49 ?_
        refine lv_iload hx hb dJ6_getChars_ba4f3_52 (lv_at hl 2 rfl) ?_
        refine va_tb (v := .int (f1 ((nI (w0x % 100))).toNatClampNeg)) hx hb ht1 hS (vp_in_nI (n := (w0x % 100)) (N := 100) (show (w0x % 100) < 100 by omega) (by decide)) rfl dJ6_getChars_ba4f3_54 ?_
        refine lv_topi (fun yn59 eyn59 => ?_)
        refine va_bast hx hb hK hP hD hS 0 3 rfl rfl (vp_in_nI (n := (((ix - 1) - 1) - 1)) (N := cp) (show (((ix - 1) - 1) - 1) < cp by omega) (by omega)) dJ6_getChars_ba4f3_55 (fun H locs hP hD hS => ?_)
        obtain ⟨hP, hD⟩ : PDq D A [(o1, .inl (cA 3, cp, .inl (upd fn32 (((nI (((ix - 1) - 1) - 1))).toNatClampNeg) (vp_nar .byte yn59))))] H := ⟨hP, hD⟩
        have hn61 : sb_Fit (upd fn32 (((nI (((ix - 1) - 1) - 1))).toNatClampNeg) (vp_nar .byte yn59)) := (sb_fitU hn33 (pk_fb _))
        generalize (upd fn32 (((nI (((ix - 1) - 1) - 1))).toNatClampNeg) (vp_nar .byte yn59)) = fn60 at hP hD hn61
        obtain ⟨hP, hD⟩ : PDq D A [(o1, .inl (cA 3, cp, .inl fn60))] H := ⟨hP, hD⟩
        refine lv_aload_n hx hb dJ6_getChars_ba4f3_56 rfl (lv_at hl 6 rfl) ?_
        refine lv_iinc (v := (nI ((((ix - 1) - 1) - 1) - 1))) (lv' := [(5, .int (nI ((((ix - 1) - 1) - 1) - 1))), (0, .int (ngI w1x)), (4, .int (nI (w0x % 100))), (3, .int (ngI w1x)), (6, .int 1), (1, .int (nI ix)), (2, .ref o1)]) hx hb dJ6_getChars_ba4f3_57 hl (k := 0) rfl (nI_dec (a := (((ix - 1) - 1) - 1)) (b := ((((ix - 1) - 1) - 1) - 1)) (by omega)) (by decide) rfl (fun ls hl => ?_)
        refine lv_iload hx hb dJ6_getChars_ba4f3_60 (lv_at hl 0 rfl) ?_
        refine va_gets hx hb hd2 hS hown (hts (.fieldLink RJ6 87 "java/lang/Integer" "DigitTens" "[B") (by decide +kernel)) (fun _ h9 => h9) dJ6_getChars_ba4f3_62 ?_
        refine lv_iload hx hb dJ6_getChars_ba4f3_65 (lv_at hl 2 rfl) ?_
        refine va_tb (v := .int (f2 ((nI (w0x % 100))).toNatClampNeg)) hx hb ht2 hS (vp_in_nI (n := (w0x % 100)) (N := 100) (show (w0x % 100) < 100 by omega) (by decide)) rfl dJ6_getChars_ba4f3_67 ?_
        refine lv_topi (fun yn62 eyn62 => ?_)
        refine va_bast hx hb hK hP hD hS 0 3 rfl rfl (vp_in_nI (n := ((((ix - 1) - 1) - 1) - 1)) (N := cp) (show ((((ix - 1) - 1) - 1) - 1) < cp by omega) (by omega)) dJ6_getChars_ba4f3_68 (fun H locs hP hD hS => ?_)
        obtain ⟨hP, hD⟩ : PDq D A [(o1, .inl (cA 3, cp, .inl (upd fn60 (((nI ((((ix - 1) - 1) - 1) - 1))).toNatClampNeg) (vp_nar .byte yn62))))] H := ⟨hP, hD⟩
        have hn64 : sb_Fit (upd fn60 (((nI ((((ix - 1) - 1) - 1) - 1))).toNatClampNeg) (vp_nar .byte yn62)) := (sb_fitU hn61 (pk_fb _))
        generalize (upd fn60 (((nI ((((ix - 1) - 1) - 1) - 1))).toNatClampNeg) (vp_nar .byte yn62)) = fn63 at hP hD hn64
        obtain ⟨hP, hD⟩ : PDq D A [(o1, .inl (cA 3, cp, .inl fn63))] H := ⟨hP, hD⟩
        refine lv_goto (tgt := 22) hx hb dJ6_getChars_ba4f3_69 (by decide) ?_
        have hqhn65 := dg_pos w1x
        rcases Nat.lt_or_ge w1x 100 with hn65 | hn65
        · skip
          refine lv_iload_n hx hb dJ6_getChars_ba4f3_22 rfl (lv_at hl 1 rfl) ?_
          refine lv_bipush (v := (-100)) hx hb dJ6_getChars_ba4f3_23 (by decide) ?_
          refine lv_icmp_gt (tgt := 72) hx hb dJ6_getChars_ba4f3_25 (by decide) (fun c66 => ?_) (fun c9 => absurd c9 (fun h9 => h9 (ng_gt hn65)))
          refine lv_aload_n hx hb dJ6_getChars_ba4f3_72 rfl (lv_at hl 6 rfl) ?_
          refine lv_iinc (v := (nI (((((ix - 1) - 1) - 1) - 1) - 1))) (lv' := [(5, .int (nI (((((ix - 1) - 1) - 1) - 1) - 1))), (0, .int (ngI w1x)), (4, .int (nI (w0x % 100))), (3, .int (ngI w1x)), (6, .int 1), (1, .int (nI ix)), (2, .ref o1)]) hx hb dJ6_getChars_ba4f3_73 hl (k := 0) rfl (nI_dec (a := ((((ix - 1) - 1) - 1) - 1)) (b := (((((ix - 1) - 1) - 1) - 1) - 1)) (by omega)) (by decide) rfl (fun ls hl => ?_)
          refine lv_iload hx hb dJ6_getChars_ba4f3_76 (lv_at hl 0 rfl) ?_
          refine va_gets hx hb hd1 hS hown (hts (.fieldLink RJ6 83 "java/lang/Integer" "DigitOnes" "[B") (by decide +kernel)) (fun _ h9 => h9) dJ6_getChars_ba4f3_78 ?_
          refine lv_iload_n hx hb dJ6_getChars_ba4f3_81 rfl (lv_at hl 1 rfl) ?_
          refine lv_ineg hx hb dJ6_getChars_ba4f3_82 ?_
          refine lv_topi (fun yn67 eyn67 => ?_)
          obtain rfl : yn67 = (nI w1x) := eyn67.trans (ng_opp)
          refine va_tb (v := .int (f1 ((nI w1x)).toNatClampNeg)) hx hb ht1 hS (vp_in_nI (n := w1x) (N := 100) (show w1x < 100 by omega) (by decide)) rfl dJ6_getChars_ba4f3_83 ?_
          refine lv_topi (fun yn68 eyn68 => ?_)
          refine va_bast hx hb hK hP hD hS 0 3 rfl rfl (vp_in_nI (n := (((((ix - 1) - 1) - 1) - 1) - 1)) (N := cp) (show (((((ix - 1) - 1) - 1) - 1) - 1) < cp by omega) (by omega)) dJ6_getChars_ba4f3_84 (fun H locs hP hD hS => ?_)
          obtain ⟨hP, hD⟩ : PDq D A [(o1, .inl (cA 3, cp, .inl (upd fn63 (((nI (((((ix - 1) - 1) - 1) - 1) - 1))).toNatClampNeg) (vp_nar .byte yn68))))] H := ⟨hP, hD⟩
          have hn70 : sb_Fit (upd fn63 (((nI (((((ix - 1) - 1) - 1) - 1) - 1))).toNatClampNeg) (vp_nar .byte yn68)) := (sb_fitU hn64 (pk_fb _))
          generalize (upd fn63 (((nI (((((ix - 1) - 1) - 1) - 1) - 1))).toNatClampNeg) (vp_nar .byte yn68)) = fn69 at hP hD hn70
          obtain ⟨hP, hD⟩ : PDq D A [(o1, .inl (cA 3, cp, .inl fn69))] H := ⟨hP, hD⟩
          rcases Nat.lt_or_ge w1x 10 with hn71 | hn71
          · skip
            refine lv_iload_n hx hb dJ6_getChars_ba4f3_85 rfl (lv_at hl 1 rfl) ?_
            refine lv_bipush (v := (-9)) hx hb dJ6_getChars_ba4f3_86 (by decide) ?_
            refine lv_icmp_ge (tgt := 104) hx hb dJ6_getChars_ba4f3_88 (by decide) (fun c72 => ?_) (fun c9 => absurd c9 (fun h9 => h9 (ng_ge9 hn71)))
            refine lv_iload hx hb dJ6_getChars_ba4f3_104 (lv_at hl 4 rfl) ?_
            refine lv_if_eq (tgt := 118) hx hb dJ6_getChars_ba4f3_106 (by decide) (fun c9 => absurd c9 (by decide)) (fun c73 => ?_)
            refine lv_aload_n hx hb dJ6_getChars_ba4f3_109 rfl (lv_at hl 6 rfl) ?_
            refine lv_iinc (v := (nI ((((((ix - 1) - 1) - 1) - 1) - 1) - 1))) (lv' := [(5, .int (nI ((((((ix - 1) - 1) - 1) - 1) - 1) - 1))), (0, .int (ngI w1x)), (4, .int (nI (w0x % 100))), (3, .int (ngI w1x)), (6, .int 1), (1, .int (nI ix)), (2, .ref o1)]) hx hb dJ6_getChars_ba4f3_110 hl (k := 0) rfl (nI_dec (a := (((((ix - 1) - 1) - 1) - 1) - 1)) (b := ((((((ix - 1) - 1) - 1) - 1) - 1) - 1)) (by omega)) (by decide) rfl (fun ls hl => ?_)
            refine lv_iload hx hb dJ6_getChars_ba4f3_113 (lv_at hl 0 rfl) ?_
            refine lv_bipush (v := 45) hx hb dJ6_getChars_ba4f3_115 (by decide) ?_
            refine va_bast hx hb hK hP hD hS 0 3 rfl rfl (vp_in_nI (n := ((((((ix - 1) - 1) - 1) - 1) - 1) - 1)) (N := cp) (show ((((((ix - 1) - 1) - 1) - 1) - 1) - 1) < cp by omega) (by omega)) dJ6_getChars_ba4f3_117 (fun H locs hP hD hS => ?_)
            obtain ⟨hP, hD⟩ : PDq D A [(o1, .inl (cA 3, cp, .inl (upd fn69 (((nI ((((((ix - 1) - 1) - 1) - 1) - 1) - 1))).toNatClampNeg) (vp_nar .byte 45))))] H := ⟨hP, hD⟩
            have hn75 : sb_Fit (upd fn69 (((nI ((((((ix - 1) - 1) - 1) - 1) - 1) - 1))).toNatClampNeg) (vp_nar .byte 45)) := (sb_fitU hn70 (pk_fb _))
            generalize (upd fn69 (((nI ((((((ix - 1) - 1) - 1) - 1) - 1) - 1))).toNatClampNeg) (vp_nar .byte 45)) = fn74 at hP hD hn75
            obtain ⟨hP, hD⟩ : PDq D A [(o1, .inl (cA 3, cp, .inl fn74))] H := ⟨hP, hD⟩
            refine lv_iload hx hb dJ6_getChars_ba4f3_118 (lv_at hl 0 rfl) ?_
            obtain ⟨hP9, hD9⟩ := PDq.sub (ws' := [(o1, .inl (cA 3, cp, .inl fn74))]) hP hD [0] (by decide) rfl
            refine W.widen (k := 0) (n := 0) (Nat.le_of_ble_eq_true rfl) (Nat.le_of_ble_eq_true rfl) ?_
            exact (W.iret (v := (nI ((((((ix - 1) - 1) - 1) - 1) - 1) - 1))) hx hb hr (fun t ht hW => ⟨⟨(nI ((((((ix - 1) - 1) - 1) - 1) - 1) - 1)), (), rfl, trivial, fn74, hn75, by rw [ht]; exact hP9, hD9⟩, hS.F ht⟩) hS.2.2 dJ6_getChars_ba4f3_120)
          · skip
            have hqhn71 := dg_2 hn71 (by omega)
            refine lv_iload_n hx hb dJ6_getChars_ba4f3_85 rfl (lv_at hl 1 rfl) ?_
            refine lv_bipush (v := (-9)) hx hb dJ6_getChars_ba4f3_86 (by decide) ?_
            refine lv_icmp_ge (tgt := 104) hx hb dJ6_getChars_ba4f3_88 (by decide) (fun c9 => absurd c9 (ng_nge9 hn71 (by omega))) (fun c76 => ?_)
            refine lv_aload_n hx hb dJ6_getChars_ba4f3_91 rfl (lv_at hl 6 rfl) ?_
            refine lv_iinc (v := (nI ((((((ix - 1) - 1) - 1) - 1) - 1) - 1))) (lv' := [(5, .int (nI ((((((ix - 1) - 1) - 1) - 1) - 1) - 1))), (0, .int (ngI w1x)), (4, .int (nI (w0x % 100))), (3, .int (ngI w1x)), (6, .int 1), (1, .int (nI ix)), (2, .ref o1)]) hx hb dJ6_getChars_ba4f3_92 hl (k := 0) rfl (nI_dec (a := (((((ix - 1) - 1) - 1) - 1) - 1)) (b := ((((((ix - 1) - 1) - 1) - 1) - 1) - 1)) (by omega)) (by decide) rfl (fun ls hl => ?_)
            refine lv_iload hx hb dJ6_getChars_ba4f3_95 (lv_at hl 0 rfl) ?_
            refine va_gets hx hb hd2 hS hown (hts (.fieldLink RJ6 87 "java/lang/Integer" "DigitTens" "[B") (by decide +kernel)) (fun _ h9 => h9) dJ6_getChars_ba4f3_97 ?_
            refine lv_iload_n hx hb dJ6_getChars_ba4f3_100 rfl (lv_at hl 1 rfl) ?_
            refine lv_ineg hx hb dJ6_getChars_ba4f3_101 ?_
            refine lv_topi (fun yn77 eyn77 => ?_)
            obtain rfl : yn77 = (nI w1x) := eyn77.trans (ng_opp)
            refine va_tb (v := .int (f2 ((nI w1x)).toNatClampNeg)) hx hb ht2 hS (vp_in_nI (n := w1x) (N := 100) (show w1x < 100 by omega) (by decide)) rfl dJ6_getChars_ba4f3_102 ?_
            refine lv_topi (fun yn78 eyn78 => ?_)
            refine va_bast hx hb hK hP hD hS 0 3 rfl rfl (vp_in_nI (n := ((((((ix - 1) - 1) - 1) - 1) - 1) - 1)) (N := cp) (show ((((((ix - 1) - 1) - 1) - 1) - 1) - 1) < cp by omega) (by omega)) dJ6_getChars_ba4f3_103 (fun H locs hP hD hS => ?_)
            obtain ⟨hP, hD⟩ : PDq D A [(o1, .inl (cA 3, cp, .inl (upd fn69 (((nI ((((((ix - 1) - 1) - 1) - 1) - 1) - 1))).toNatClampNeg) (vp_nar .byte yn78))))] H := ⟨hP, hD⟩
            have hn80 : sb_Fit (upd fn69 (((nI ((((((ix - 1) - 1) - 1) - 1) - 1) - 1))).toNatClampNeg) (vp_nar .byte yn78)) := (sb_fitU hn70 (pk_fb _))
            generalize (upd fn69 (((nI ((((((ix - 1) - 1) - 1) - 1) - 1) - 1))).toNatClampNeg) (vp_nar .byte yn78)) = fn79 at hP hD hn80
            obtain ⟨hP, hD⟩ : PDq D A [(o1, .inl (cA 3, cp, .inl fn79))] H := ⟨hP, hD⟩
            refine lv_iload hx hb dJ6_getChars_ba4f3_104 (lv_at hl 4 rfl) ?_
            refine lv_if_eq (tgt := 118) hx hb dJ6_getChars_ba4f3_106 (by decide) (fun c9 => absurd c9 (by decide)) (fun c81 => ?_)
            refine lv_aload_n hx hb dJ6_getChars_ba4f3_109 rfl (lv_at hl 6 rfl) ?_
            refine lv_iinc (v := (nI (((((((ix - 1) - 1) - 1) - 1) - 1) - 1) - 1))) (lv' := [(5, .int (nI (((((((ix - 1) - 1) - 1) - 1) - 1) - 1) - 1))), (0, .int (ngI w1x)), (4, .int (nI (w0x % 100))), (3, .int (ngI w1x)), (6, .int 1), (1, .int (nI ix)), (2, .ref o1)]) hx hb dJ6_getChars_ba4f3_110 hl (k := 0) rfl (nI_dec (a := ((((((ix - 1) - 1) - 1) - 1) - 1) - 1)) (b := (((((((ix - 1) - 1) - 1) - 1) - 1) - 1) - 1)) (by omega)) (by decide) rfl (fun ls hl => ?_)
            refine lv_iload hx hb dJ6_getChars_ba4f3_113 (lv_at hl 0 rfl) ?_
            refine lv_bipush (v := 45) hx hb dJ6_getChars_ba4f3_115 (by decide) ?_
            refine va_bast hx hb hK hP hD hS 0 3 rfl rfl (vp_in_nI (n := (((((((ix - 1) - 1) - 1) - 1) - 1) - 1) - 1)) (N := cp) (show (((((((ix - 1) - 1) - 1) - 1) - 1) - 1) - 1) < cp by omega) (by omega)) dJ6_getChars_ba4f3_117 (fun H locs hP hD hS => ?_)
            obtain ⟨hP, hD⟩ : PDq D A [(o1, .inl (cA 3, cp, .inl (upd fn79 (((nI (((((((ix - 1) - 1) - 1) - 1) - 1) - 1) - 1))).toNatClampNeg) (vp_nar .byte 45))))] H := ⟨hP, hD⟩
            have hn83 : sb_Fit (upd fn79 (((nI (((((((ix - 1) - 1) - 1) - 1) - 1) - 1) - 1))).toNatClampNeg) (vp_nar .byte 45)) := (sb_fitU hn80 (pk_fb _))
            generalize (upd fn79 (((nI (((((((ix - 1) - 1) - 1) - 1) - 1) - 1) - 1))).toNatClampNeg) (vp_nar .byte 45)) = fn82 at hP hD hn83
            obtain ⟨hP, hD⟩ : PDq D A [(o1, .inl (cA 3, cp, .inl fn82))] H := ⟨hP, hD⟩
            refine lv_iload hx hb dJ6_getChars_ba4f3_118 (lv_at hl 0 rfl) ?_
            obtain ⟨hP9, hD9⟩ := PDq.sub (ws' := [(o1, .inl (cA 3, cp, .inl fn82))]) hP hD [0] (by decide) rfl
            refine W.widen (k := 0) (n := 0) (Nat.le_of_ble_eq_true rfl) (Nat.le_of_ble_eq_true rfl) ?_
            exact (W.iret (v := (nI (((((((ix - 1) - 1) - 1) - 1) - 1) - 1) - 1))) hx hb hr (fun t ht hW => ⟨⟨(nI (((((((ix - 1) - 1) - 1) - 1) - 1) - 1) - 1)), (), rfl, trivial, fn82, hn83, by rw [ht]; exact hP9, hD9⟩, hS.F ht⟩) hS.2.2 dJ6_getChars_ba4f3_120)
        · skip
          refine lv_iload_n hx hb dJ6_getChars_ba4f3_22 rfl (lv_at hl 1 rfl) ?_
          refine lv_bipush (v := (-100)) hx hb dJ6_getChars_ba4f3_23 (by decide) ?_
          refine lv_icmp_gt (tgt := 72) hx hb dJ6_getChars_ba4f3_25 (by decide) (fun c9 => absurd c9 (ng_ngt hn65 (by omega))) (fun c84 => ?_)
          refine lv_iload_n hx hb dJ6_getChars_ba4f3_28 rfl (lv_at hl 1 rfl) ?_
          refine lv_bipush (v := 100) hx hb dJ6_getChars_ba4f3_29 (by decide) ?_
          obtain ⟨w2x, hw2x⟩ : ∃ x9, x9 = w1x / 100 := ⟨_, rfl⟩
          have hdw2x : dg w1x = dg w2x + 2 := by rw [hw2x]; exact dg_100 (by omega) hn65
          have hpw2x := dg_pos w2x
          refine lv_idiv hx hb dJ6_getChars_ba4f3_31 (by decide) ?_
          refine lv_topi (fun yn85 eyn85 => ?_)
          obtain rfl : yn85 = (ngI w2x) := eyn85.trans (by rw [ng_div (by omega), ← hw2x])
          refine lv_istore_n (lv' := [(3, .int (ngI w2x)), (5, .int (nI ((((ix - 1) - 1) - 1) - 1))), (0, .int (ngI w1x)), (4, .int (nI (w0x % 100))), (6, .int 1), (1, .int (nI ix)), (2, .ref o1)]) hx hb dJ6_getChars_ba4f3_32 rfl hl (by decide) rfl (fun ls hl => ?_)
          refine lv_iload_n hx hb dJ6_getChars_ba4f3_33 rfl (lv_at hl 0 rfl) ?_
          refine lv_bipush (v := 100) hx hb dJ6_getChars_ba4f3_34 (by decide) ?_
          refine lv_imul hx hb dJ6_getChars_ba4f3_36 ?_
          refine lv_topi (fun yn86 eyn86 => ?_)
          refine lv_iload_n hx hb dJ6_getChars_ba4f3_37 rfl (lv_at hl 2 rfl) ?_
          refine lv_isub hx hb dJ6_getChars_ba4f3_38 ?_
          refine lv_topi (fun yn89 eyn89 => ?_)
          obtain rfl : yn89 = (nI (w1x % 100)) := eyn89.trans (by rw [eyn86, hw2x]; exact ng_rem (by omega))
          refine lv_istore (lv' := [(4, .int (nI (w1x % 100))), (3, .int (ngI w2x)), (5, .int (nI ((((ix - 1) - 1) - 1) - 1))), (0, .int (ngI w1x)), (6, .int 1), (1, .int (nI ix)), (2, .ref o1)]) hx hb dJ6_getChars_ba4f3_39 hl (by decide) rfl (fun ls hl => ?_)
          refine lv_iload_n hx hb dJ6_getChars_ba4f3_41 rfl (lv_at hl 1 rfl) ?_
          refine lv_istore_n (lv' := [(0, .int (ngI w2x)), (4, .int (nI (w1x % 100))), (3, .int (ngI w2x)), (5, .int (nI ((((ix - 1) - 1) - 1) - 1))), (6, .int 1), (1, .int (nI ix)), (2, .ref o1)]) hx hb dJ6_getChars_ba4f3_42 rfl hl (by decide) rfl (fun ls hl => ?_)
          refine lv_aload_n hx hb dJ6_getChars_ba4f3_43 rfl (lv_at hl 6 rfl) ?_
          refine lv_iinc (v := (nI (((((ix - 1) - 1) - 1) - 1) - 1))) (lv' := [(5, .int (nI (((((ix - 1) - 1) - 1) - 1) - 1))), (0, .int (ngI w2x)), (4, .int (nI (w1x % 100))), (3, .int (ngI w2x)), (6, .int 1), (1, .int (nI ix)), (2, .ref o1)]) hx hb dJ6_getChars_ba4f3_44 hl (k := 3) rfl (nI_dec (a := ((((ix - 1) - 1) - 1) - 1)) (b := (((((ix - 1) - 1) - 1) - 1) - 1)) (by omega)) (by decide) rfl (fun ls hl => ?_)
          refine lv_iload hx hb dJ6_getChars_ba4f3_47 (lv_at hl 0 rfl) ?_
          refine va_gets hx hb hd1 hS hown (hts (.fieldLink RJ6 83 "java/lang/Integer" "DigitOnes" "[B") (by decide +kernel)) (fun _ h9 => h9) dJ6_getChars_ba4f3_49 ?_
          refine lv_iload hx hb dJ6_getChars_ba4f3_52 (lv_at hl 2 rfl) ?_
          refine va_tb (v := .int (f1 ((nI (w1x % 100))).toNatClampNeg)) hx hb ht1 hS (vp_in_nI (n := (w1x % 100)) (N := 100) (show (w1x % 100) < 100 by omega) (by decide)) rfl dJ6_getChars_ba4f3_54 ?_
          refine lv_topi (fun yn90 eyn90 => ?_)
          refine va_bast hx hb hK hP hD hS 0 3 rfl rfl (vp_in_nI (n := (((((ix - 1) - 1) - 1) - 1) - 1)) (N := cp) (show (((((ix - 1) - 1) - 1) - 1) - 1) < cp by omega) (by omega)) dJ6_getChars_ba4f3_55 (fun H locs hP hD hS => ?_)
          obtain ⟨hP, hD⟩ : PDq D A [(o1, .inl (cA 3, cp, .inl (upd fn63 (((nI (((((ix - 1) - 1) - 1) - 1) - 1))).toNatClampNeg) (vp_nar .byte yn90))))] H := ⟨hP, hD⟩
          have hn92 : sb_Fit (upd fn63 (((nI (((((ix - 1) - 1) - 1) - 1) - 1))).toNatClampNeg) (vp_nar .byte yn90)) := (sb_fitU hn64 (pk_fb _))
          generalize (upd fn63 (((nI (((((ix - 1) - 1) - 1) - 1) - 1))).toNatClampNeg) (vp_nar .byte yn90)) = fn91 at hP hD hn92
          obtain ⟨hP, hD⟩ : PDq D A [(o1, .inl (cA 3, cp, .inl fn91))] H := ⟨hP, hD⟩
          refine lv_aload_n hx hb dJ6_getChars_ba4f3_56 rfl (lv_at hl 6 rfl) ?_
          refine lv_iinc (v := (nI ((((((ix - 1) - 1) - 1) - 1) - 1) - 1))) (lv' := [(5, .int (nI ((((((ix - 1) - 1) - 1) - 1) - 1) - 1))), (0, .int (ngI w2x)), (4, .int (nI (w1x % 100))), (3, .int (ngI w2x)), (6, .int 1), (1, .int (nI ix)), (2, .ref o1)]) hx hb dJ6_getChars_ba4f3_57 hl (k := 0) rfl (nI_dec (a := (((((ix - 1) - 1) - 1) - 1) - 1)) (b := ((((((ix - 1) - 1) - 1) - 1) - 1) - 1)) (by omega)) (by decide) rfl (fun ls hl => ?_)
          refine lv_iload hx hb dJ6_getChars_ba4f3_60 (lv_at hl 0 rfl) ?_
          refine va_gets hx hb hd2 hS hown (hts (.fieldLink RJ6 87 "java/lang/Integer" "DigitTens" "[B") (by decide +kernel)) (fun _ h9 => h9) dJ6_getChars_ba4f3_62 ?_
          refine lv_iload hx hb dJ6_getChars_ba4f3_65 (lv_at hl 2 rfl) ?_
          refine va_tb (v := .int (f2 ((nI (w1x % 100))).toNatClampNeg)) hx hb ht2 hS (vp_in_nI (n := (w1x % 100)) (N := 100) (show (w1x % 100) < 100 by omega) (by decide)) rfl dJ6_getChars_ba4f3_67 ?_
          refine lv_topi (fun yn93 eyn93 => ?_)
          refine va_bast hx hb hK hP hD hS 0 3 rfl rfl (vp_in_nI (n := ((((((ix - 1) - 1) - 1) - 1) - 1) - 1)) (N := cp) (show ((((((ix - 1) - 1) - 1) - 1) - 1) - 1) < cp by omega) (by omega)) dJ6_getChars_ba4f3_68 (fun H locs hP hD hS => ?_)
          obtain ⟨hP, hD⟩ : PDq D A [(o1, .inl (cA 3, cp, .inl (upd fn91 (((nI ((((((ix - 1) - 1) - 1) - 1) - 1) - 1))).toNatClampNeg) (vp_nar .byte yn93))))] H := ⟨hP, hD⟩
          have hn95 : sb_Fit (upd fn91 (((nI ((((((ix - 1) - 1) - 1) - 1) - 1) - 1))).toNatClampNeg) (vp_nar .byte yn93)) := (sb_fitU hn92 (pk_fb _))
          generalize (upd fn91 (((nI ((((((ix - 1) - 1) - 1) - 1) - 1) - 1))).toNatClampNeg) (vp_nar .byte yn93)) = fn94 at hP hD hn95
          obtain ⟨hP, hD⟩ : PDq D A [(o1, .inl (cA 3, cp, .inl fn94))] H := ⟨hP, hD⟩
          refine lv_goto (tgt := 22) hx hb dJ6_getChars_ba4f3_69 (by decide) ?_
          have hqhn96 := dg_pos w2x
          rcases Nat.lt_or_ge w2x 100 with hn96 | hn96
          · skip
            refine lv_iload_n hx hb dJ6_getChars_ba4f3_22 rfl (lv_at hl 1 rfl) ?_
            refine lv_bipush (v := (-100)) hx hb dJ6_getChars_ba4f3_23 (by decide) ?_
            refine lv_icmp_gt (tgt := 72) hx hb dJ6_getChars_ba4f3_25 (by decide) (fun c97 => ?_) (fun c9 => absurd c9 (fun h9 => h9 (ng_gt hn96)))
            refine lv_aload_n hx hb dJ6_getChars_ba4f3_72 rfl (lv_at hl 6 rfl) ?_
            refine lv_iinc (v := (nI (((((((ix - 1) - 1) - 1) - 1) - 1) - 1) - 1))) (lv' := [(5, .int (nI (((((((ix - 1) - 1) - 1) - 1) - 1) - 1) - 1))), (0, .int (ngI w2x)), (4, .int (nI (w1x % 100))), (3, .int (ngI w2x)), (6, .int 1), (1, .int (nI ix)), (2, .ref o1)]) hx hb dJ6_getChars_ba4f3_73 hl (k := 0) rfl (nI_dec (a := ((((((ix - 1) - 1) - 1) - 1) - 1) - 1)) (b := (((((((ix - 1) - 1) - 1) - 1) - 1) - 1) - 1)) (by omega)) (by decide) rfl (fun ls hl => ?_)
            refine lv_iload hx hb dJ6_getChars_ba4f3_76 (lv_at hl 0 rfl) ?_
            refine va_gets hx hb hd1 hS hown (hts (.fieldLink RJ6 83 "java/lang/Integer" "DigitOnes" "[B") (by decide +kernel)) (fun _ h9 => h9) dJ6_getChars_ba4f3_78 ?_
            refine lv_iload_n hx hb dJ6_getChars_ba4f3_81 rfl (lv_at hl 1 rfl) ?_
            refine lv_ineg hx hb dJ6_getChars_ba4f3_82 ?_
            refine lv_topi (fun yn98 eyn98 => ?_)
            obtain rfl : yn98 = (nI w2x) := eyn98.trans (ng_opp)
            refine va_tb (v := .int (f1 ((nI w2x)).toNatClampNeg)) hx hb ht1 hS (vp_in_nI (n := w2x) (N := 100) (show w2x < 100 by omega) (by decide)) rfl dJ6_getChars_ba4f3_83 ?_
            refine lv_topi (fun yn99 eyn99 => ?_)
            refine va_bast hx hb hK hP hD hS 0 3 rfl rfl (vp_in_nI (n := (((((((ix - 1) - 1) - 1) - 1) - 1) - 1) - 1)) (N := cp) (show (((((((ix - 1) - 1) - 1) - 1) - 1) - 1) - 1) < cp by omega) (by omega)) dJ6_getChars_ba4f3_84 (fun H locs hP hD hS => ?_)
            obtain ⟨hP, hD⟩ : PDq D A [(o1, .inl (cA 3, cp, .inl (upd fn94 (((nI (((((((ix - 1) - 1) - 1) - 1) - 1) - 1) - 1))).toNatClampNeg) (vp_nar .byte yn99))))] H := ⟨hP, hD⟩
            have hn101 : sb_Fit (upd fn94 (((nI (((((((ix - 1) - 1) - 1) - 1) - 1) - 1) - 1))).toNatClampNeg) (vp_nar .byte yn99)) := (sb_fitU hn95 (pk_fb _))
            generalize (upd fn94 (((nI (((((((ix - 1) - 1) - 1) - 1) - 1) - 1) - 1))).toNatClampNeg) (vp_nar .byte yn99)) = fn100 at hP hD hn101
            obtain ⟨hP, hD⟩ : PDq D A [(o1, .inl (cA 3, cp, .inl fn100))] H := ⟨hP, hD⟩
            rcases Nat.lt_or_ge w2x 10 with hn102 | hn102
            · skip
              refine lv_iload_n hx hb dJ6_getChars_ba4f3_85 rfl (lv_at hl 1 rfl) ?_
              refine lv_bipush (v := (-9)) hx hb dJ6_getChars_ba4f3_86 (by decide) ?_
              refine lv_icmp_ge (tgt := 104) hx hb dJ6_getChars_ba4f3_88 (by decide) (fun c103 => ?_) (fun c9 => absurd c9 (fun h9 => h9 (ng_ge9 hn102)))
              refine lv_iload hx hb dJ6_getChars_ba4f3_104 (lv_at hl 4 rfl) ?_
              refine lv_if_eq (tgt := 118) hx hb dJ6_getChars_ba4f3_106 (by decide) (fun c9 => absurd c9 (by decide)) (fun c104 => ?_)
              refine lv_aload_n hx hb dJ6_getChars_ba4f3_109 rfl (lv_at hl 6 rfl) ?_
              refine lv_iinc (v := (nI ((((((((ix - 1) - 1) - 1) - 1) - 1) - 1) - 1) - 1))) (lv' := [(5, .int (nI ((((((((ix - 1) - 1) - 1) - 1) - 1) - 1) - 1) - 1))), (0, .int (ngI w2x)), (4, .int (nI (w1x % 100))), (3, .int (ngI w2x)), (6, .int 1), (1, .int (nI ix)), (2, .ref o1)]) hx hb dJ6_getChars_ba4f3_110 hl (k := 0) rfl (nI_dec (a := (((((((ix - 1) - 1) - 1) - 1) - 1) - 1) - 1)) (b := ((((((((ix - 1) - 1) - 1) - 1) - 1) - 1) - 1) - 1)) (by omega)) (by decide) rfl (fun ls hl => ?_)
              refine lv_iload hx hb dJ6_getChars_ba4f3_113 (lv_at hl 0 rfl) ?_
              refine lv_bipush (v := 45) hx hb dJ6_getChars_ba4f3_115 (by decide) ?_
              refine va_bast hx hb hK hP hD hS 0 3 rfl rfl (vp_in_nI (n := ((((((((ix - 1) - 1) - 1) - 1) - 1) - 1) - 1) - 1)) (N := cp) (show ((((((((ix - 1) - 1) - 1) - 1) - 1) - 1) - 1) - 1) < cp by omega) (by omega)) dJ6_getChars_ba4f3_117 (fun H locs hP hD hS => ?_)
              obtain ⟨hP, hD⟩ : PDq D A [(o1, .inl (cA 3, cp, .inl (upd fn100 (((nI ((((((((ix - 1) - 1) - 1) - 1) - 1) - 1) - 1) - 1))).toNatClampNeg) (vp_nar .byte 45))))] H := ⟨hP, hD⟩
              have hn106 : sb_Fit (upd fn100 (((nI ((((((((ix - 1) - 1) - 1) - 1) - 1) - 1) - 1) - 1))).toNatClampNeg) (vp_nar .byte 45)) := (sb_fitU hn101 (pk_fb _))
              generalize (upd fn100 (((nI ((((((((ix - 1) - 1) - 1) - 1) - 1) - 1) - 1) - 1))).toNatClampNeg) (vp_nar .byte 45)) = fn105 at hP hD hn106
              obtain ⟨hP, hD⟩ : PDq D A [(o1, .inl (cA 3, cp, .inl fn105))] H := ⟨hP, hD⟩
              refine lv_iload hx hb dJ6_getChars_ba4f3_118 (lv_at hl 0 rfl) ?_
              obtain ⟨hP9, hD9⟩ := PDq.sub (ws' := [(o1, .inl (cA 3, cp, .inl fn105))]) hP hD [0] (by decide) rfl
              refine W.widen (k := 0) (n := 0) (Nat.le_of_ble_eq_true rfl) (Nat.le_of_ble_eq_true rfl) ?_
              exact (W.iret (v := (nI ((((((((ix - 1) - 1) - 1) - 1) - 1) - 1) - 1) - 1))) hx hb hr (fun t ht hW => ⟨⟨(nI ((((((((ix - 1) - 1) - 1) - 1) - 1) - 1) - 1) - 1)), (), rfl, trivial, fn105, hn106, by rw [ht]; exact hP9, hD9⟩, hS.F ht⟩) hS.2.2 dJ6_getChars_ba4f3_120)
            · skip
              have hqhn102 := dg_2 hn102 (by omega)
              refine lv_iload_n hx hb dJ6_getChars_ba4f3_85 rfl (lv_at hl 1 rfl) ?_
              refine lv_bipush (v := (-9)) hx hb dJ6_getChars_ba4f3_86 (by decide) ?_
              refine lv_icmp_ge (tgt := 104) hx hb dJ6_getChars_ba4f3_88 (by decide) (fun c9 => absurd c9 (ng_nge9 hn102 (by omega))) (fun c107 => ?_)
              refine lv_aload_n hx hb dJ6_getChars_ba4f3_91 rfl (lv_at hl 6 rfl) ?_
              refine lv_iinc (v := (nI ((((((((ix - 1) - 1) - 1) - 1) - 1) - 1) - 1) - 1))) (lv' := [(5, .int (nI ((((((((ix - 1) - 1) - 1) - 1) - 1) - 1) - 1) - 1))), (0, .int (ngI w2x)), (4, .int (nI (w1x % 100))), (3, .int (ngI w2x)), (6, .int 1), (1, .int (nI ix)), (2, .ref o1)]) hx hb dJ6_getChars_ba4f3_92 hl (k := 0) rfl (nI_dec (a := (((((((ix - 1) - 1) - 1) - 1) - 1) - 1) - 1)) (b := ((((((((ix - 1) - 1) - 1) - 1) - 1) - 1) - 1) - 1)) (by omega)) (by decide) rfl (fun ls hl => ?_)
              refine lv_iload hx hb dJ6_getChars_ba4f3_95 (lv_at hl 0 rfl) ?_
              refine va_gets hx hb hd2 hS hown (hts (.fieldLink RJ6 87 "java/lang/Integer" "DigitTens" "[B") (by decide +kernel)) (fun _ h9 => h9) dJ6_getChars_ba4f3_97 ?_
              refine lv_iload_n hx hb dJ6_getChars_ba4f3_100 rfl (lv_at hl 1 rfl) ?_
              refine lv_ineg hx hb dJ6_getChars_ba4f3_101 ?_
              refine lv_topi (fun yn108 eyn108 => ?_)
              obtain rfl : yn108 = (nI w2x) := eyn108.trans (ng_opp)
              refine va_tb (v := .int (f2 ((nI w2x)).toNatClampNeg)) hx hb ht2 hS (vp_in_nI (n := w2x) (N := 100) (show w2x < 100 by omega) (by decide)) rfl dJ6_getChars_ba4f3_102 ?_
              refine lv_topi (fun yn109 eyn109 => ?_)
              refine va_bast hx hb hK hP hD hS 0 3 rfl rfl (vp_in_nI (n := ((((((((ix - 1) - 1) - 1) - 1) - 1) - 1) - 1) - 1)) (N := cp) (show ((((((((ix - 1) - 1) - 1) - 1) - 1) - 1) - 1) - 1) < cp by omega) (by omega)) dJ6_getChars_ba4f3_103 (fun H locs hP hD hS => ?_)
              obtain ⟨hP, hD⟩ : PDq D A [(o1, .inl (cA 3, cp, .inl (upd fn100 (((nI ((((((((ix - 1) - 1) - 1) - 1) - 1) - 1) - 1) - 1))).toNatClampNeg) (vp_nar .byte yn109))))] H := ⟨hP, hD⟩
              have hn111 : sb_Fit (upd fn100 (((nI ((((((((ix - 1) - 1) - 1) - 1) - 1) - 1) - 1) - 1))).toNatClampNeg) (vp_nar .byte yn109)) := (sb_fitU hn101 (pk_fb _))
              generalize (upd fn100 (((nI ((((((((ix - 1) - 1) - 1) - 1) - 1) - 1) - 1) - 1))).toNatClampNeg) (vp_nar .byte yn109)) = fn110 at hP hD hn111
              obtain ⟨hP, hD⟩ : PDq D A [(o1, .inl (cA 3, cp, .inl fn110))] H := ⟨hP, hD⟩
              refine lv_iload hx hb dJ6_getChars_ba4f3_104 (lv_at hl 4 rfl) ?_
              refine lv_if_eq (tgt := 118) hx hb dJ6_getChars_ba4f3_106 (by decide) (fun c9 => absurd c9 (by decide)) (fun c112 => ?_)
              refine lv_aload_n hx hb dJ6_getChars_ba4f3_109 rfl (lv_at hl 6 rfl) ?_
              refine lv_iinc (v := (nI (((((((((ix - 1) - 1) - 1) - 1) - 1) - 1) - 1) - 1) - 1))) (lv' := [(5, .int (nI (((((((((ix - 1) - 1) - 1) - 1) - 1) - 1) - 1) - 1) - 1))), (0, .int (ngI w2x)), (4, .int (nI (w1x % 100))), (3, .int (ngI w2x)), (6, .int 1), (1, .int (nI ix)), (2, .ref o1)]) hx hb dJ6_getChars_ba4f3_110 hl (k := 0) rfl (nI_dec (a := ((((((((ix - 1) - 1) - 1) - 1) - 1) - 1) - 1) - 1)) (b := (((((((((ix - 1) - 1) - 1) - 1) - 1) - 1) - 1) - 1) - 1)) (by omega)) (by decide) rfl (fun ls hl => ?_)
              refine lv_iload hx hb dJ6_getChars_ba4f3_113 (lv_at hl 0 rfl) ?_
              refine lv_bipush (v := 45) hx hb dJ6_getChars_ba4f3_115 (by decide) ?_
              refine va_bast hx hb hK hP hD hS 0 3 rfl rfl (vp_in_nI (n := (((((((((ix - 1) - 1) - 1) - 1) - 1) - 1) - 1) - 1) - 1)) (N := cp) (show (((((((((ix - 1) - 1) - 1) - 1) - 1) - 1) - 1) - 1) - 1) < cp by omega) (by omega)) dJ6_getChars_ba4f3_117 (fun H locs hP hD hS => ?_)
              obtain ⟨hP, hD⟩ : PDq D A [(o1, .inl (cA 3, cp, .inl (upd fn110 (((nI (((((((((ix - 1) - 1) - 1) - 1) - 1) - 1) - 1) - 1) - 1))).toNatClampNeg) (vp_nar .byte 45))))] H := ⟨hP, hD⟩
              have hn114 : sb_Fit (upd fn110 (((nI (((((((((ix - 1) - 1) - 1) - 1) - 1) - 1) - 1) - 1) - 1))).toNatClampNeg) (vp_nar .byte 45)) := (sb_fitU hn111 (pk_fb _))
              generalize (upd fn110 (((nI (((((((((ix - 1) - 1) - 1) - 1) - 1) - 1) - 1) - 1) - 1))).toNatClampNeg) (vp_nar .byte 45)) = fn113 at hP hD hn114
              obtain ⟨hP, hD⟩ : PDq D A [(o1, .inl (cA 3, cp, .inl fn113))] H := ⟨hP, hD⟩
              refine lv_iload hx hb dJ6_getChars_ba4f3_118 (lv_at hl 0 rfl) ?_
              obtain ⟨hP9, hD9⟩ := PDq.sub (ws' := [(o1, .inl (cA 3, cp, .inl fn113))]) hP hD [0] (by decide) rfl
              refine W.widen (k := 0) (n := 0) (Nat.le_of_ble_eq_true rfl) (Nat.le_of_ble_eq_true rfl) ?_
              exact (W.iret (v := (nI (((((((((ix - 1) - 1) - 1) - 1) - 1) - 1) - 1) - 1) - 1))) hx hb hr (fun t ht hW => ⟨⟨(nI (((((((((ix - 1) - 1) - 1) - 1) - 1) - 1) - 1) - 1) - 1)), (), rfl, trivial, fn113, hn114, by rw [ht]; exact hP9, hD9⟩, hS.F ht⟩) hS.2.2 dJ6_getChars_ba4f3_120)
          · skip
            refine lv_iload_n hx hb dJ6_getChars_ba4f3_22 rfl (lv_at hl 1 rfl) ?_
            refine lv_bipush (v := (-100)) hx hb dJ6_getChars_ba4f3_23 (by decide) ?_
            refine lv_icmp_gt (tgt := 72) hx hb dJ6_getChars_ba4f3_25 (by decide) (fun c9 => absurd c9 (ng_ngt hn96 (by omega))) (fun c115 => ?_)
            refine lv_iload_n hx hb dJ6_getChars_ba4f3_28 rfl (lv_at hl 1 rfl) ?_
            refine lv_bipush (v := 100) hx hb dJ6_getChars_ba4f3_29 (by decide) ?_
            obtain ⟨w3x, hw3x⟩ : ∃ x9, x9 = w2x / 100 := ⟨_, rfl⟩
            have hdw3x : dg w2x = dg w3x + 2 := by rw [hw3x]; exact dg_100 (by omega) hn96
            have hpw3x := dg_pos w3x
            refine lv_idiv hx hb dJ6_getChars_ba4f3_31 (by decide) ?_
            refine lv_topi (fun yn116 eyn116 => ?_)
            obtain rfl : yn116 = (ngI w3x) := eyn116.trans (by rw [ng_div (by omega), ← hw3x])
            refine lv_istore_n (lv' := [(3, .int (ngI w3x)), (5, .int (nI ((((((ix - 1) - 1) - 1) - 1) - 1) - 1))), (0, .int (ngI w2x)), (4, .int (nI (w1x % 100))), (6, .int 1), (1, .int (nI ix)), (2, .ref o1)]) hx hb dJ6_getChars_ba4f3_32 rfl hl (by decide) rfl (fun ls hl => ?_)
            refine lv_iload_n hx hb dJ6_getChars_ba4f3_33 rfl (lv_at hl 0 rfl) ?_
            refine lv_bipush (v := 100) hx hb dJ6_getChars_ba4f3_34 (by decide) ?_
            refine lv_imul hx hb dJ6_getChars_ba4f3_36 ?_
            refine lv_topi (fun yn117 eyn117 => ?_)
            refine lv_iload_n hx hb dJ6_getChars_ba4f3_37 rfl (lv_at hl 2 rfl) ?_
            refine lv_isub hx hb dJ6_getChars_ba4f3_38 ?_
            refine lv_topi (fun yn120 eyn120 => ?_)
            obtain rfl : yn120 = (nI (w2x % 100)) := eyn120.trans (by rw [eyn117, hw3x]; exact ng_rem (by omega))
            refine lv_istore (lv' := [(4, .int (nI (w2x % 100))), (3, .int (ngI w3x)), (5, .int (nI ((((((ix - 1) - 1) - 1) - 1) - 1) - 1))), (0, .int (ngI w2x)), (6, .int 1), (1, .int (nI ix)), (2, .ref o1)]) hx hb dJ6_getChars_ba4f3_39 hl (by decide) rfl (fun ls hl => ?_)
            refine lv_iload_n hx hb dJ6_getChars_ba4f3_41 rfl (lv_at hl 1 rfl) ?_
            refine lv_istore_n (lv' := [(0, .int (ngI w3x)), (4, .int (nI (w2x % 100))), (3, .int (ngI w3x)), (5, .int (nI ((((((ix - 1) - 1) - 1) - 1) - 1) - 1))), (6, .int 1), (1, .int (nI ix)), (2, .ref o1)]) hx hb dJ6_getChars_ba4f3_42 rfl hl (by decide) rfl (fun ls hl => ?_)
            refine lv_aload_n hx hb dJ6_getChars_ba4f3_43 rfl (lv_at hl 6 rfl) ?_
            refine lv_iinc (v := (nI (((((((ix - 1) - 1) - 1) - 1) - 1) - 1) - 1))) (lv' := [(5, .int (nI (((((((ix - 1) - 1) - 1) - 1) - 1) - 1) - 1))), (0, .int (ngI w3x)), (4, .int (nI (w2x % 100))), (3, .int (ngI w3x)), (6, .int 1), (1, .int (nI ix)), (2, .ref o1)]) hx hb dJ6_getChars_ba4f3_44 hl (k := 3) rfl (nI_dec (a := ((((((ix - 1) - 1) - 1) - 1) - 1) - 1)) (b := (((((((ix - 1) - 1) - 1) - 1) - 1) - 1) - 1)) (by omega)) (by decide) rfl (fun ls hl => ?_)
            refine lv_iload hx hb dJ6_getChars_ba4f3_47 (lv_at hl 0 rfl) ?_
            refine va_gets hx hb hd1 hS hown (hts (.fieldLink RJ6 83 "java/lang/Integer" "DigitOnes" "[B") (by decide +kernel)) (fun _ h9 => h9) dJ6_getChars_ba4f3_49 ?_
            refine lv_iload hx hb dJ6_getChars_ba4f3_52 (lv_at hl 2 rfl) ?_
            refine va_tb (v := .int (f1 ((nI (w2x % 100))).toNatClampNeg)) hx hb ht1 hS (vp_in_nI (n := (w2x % 100)) (N := 100) (show (w2x % 100) < 100 by omega) (by decide)) rfl dJ6_getChars_ba4f3_54 ?_
            refine lv_topi (fun yn121 eyn121 => ?_)
            refine va_bast hx hb hK hP hD hS 0 3 rfl rfl (vp_in_nI (n := (((((((ix - 1) - 1) - 1) - 1) - 1) - 1) - 1)) (N := cp) (show (((((((ix - 1) - 1) - 1) - 1) - 1) - 1) - 1) < cp by omega) (by omega)) dJ6_getChars_ba4f3_55 (fun H locs hP hD hS => ?_)
            obtain ⟨hP, hD⟩ : PDq D A [(o1, .inl (cA 3, cp, .inl (upd fn94 (((nI (((((((ix - 1) - 1) - 1) - 1) - 1) - 1) - 1))).toNatClampNeg) (vp_nar .byte yn121))))] H := ⟨hP, hD⟩
            have hn123 : sb_Fit (upd fn94 (((nI (((((((ix - 1) - 1) - 1) - 1) - 1) - 1) - 1))).toNatClampNeg) (vp_nar .byte yn121)) := (sb_fitU hn95 (pk_fb _))
            generalize (upd fn94 (((nI (((((((ix - 1) - 1) - 1) - 1) - 1) - 1) - 1))).toNatClampNeg) (vp_nar .byte yn121)) = fn122 at hP hD hn123
            obtain ⟨hP, hD⟩ : PDq D A [(o1, .inl (cA 3, cp, .inl fn122))] H := ⟨hP, hD⟩
            refine lv_aload_n hx hb dJ6_getChars_ba4f3_56 rfl (lv_at hl 6 rfl) ?_
            refine lv_iinc (v := (nI ((((((((ix - 1) - 1) - 1) - 1) - 1) - 1) - 1) - 1))) (lv' := [(5, .int (nI ((((((((ix - 1) - 1) - 1) - 1) - 1) - 1) - 1) - 1))), (0, .int (ngI w3x)), (4, .int (nI (w2x % 100))), (3, .int (ngI w3x)), (6, .int 1), (1, .int (nI ix)), (2, .ref o1)]) hx hb dJ6_getChars_ba4f3_57 hl (k := 0) rfl (nI_dec (a := (((((((ix - 1) - 1) - 1) - 1) - 1) - 1) - 1)) (b := ((((((((ix - 1) - 1) - 1) - 1) - 1) - 1) - 1) - 1)) (by omega)) (by decide) rfl (fun ls hl => ?_)
            refine lv_iload hx hb dJ6_getChars_ba4f3_60 (lv_at hl 0 rfl) ?_
            refine va_gets hx hb hd2 hS hown (hts (.fieldLink RJ6 87 "java/lang/Integer" "DigitTens" "[B") (by decide +kernel)) (fun _ h9 => h9) dJ6_getChars_ba4f3_62 ?_
            refine lv_iload hx hb dJ6_getChars_ba4f3_65 (lv_at hl 2 rfl) ?_
            refine va_tb (v := .int (f2 ((nI (w2x % 100))).toNatClampNeg)) hx hb ht2 hS (vp_in_nI (n := (w2x % 100)) (N := 100) (show (w2x % 100) < 100 by omega) (by decide)) rfl dJ6_getChars_ba4f3_67 ?_
            refine lv_topi (fun yn124 eyn124 => ?_)
            refine va_bast hx hb hK hP hD hS 0 3 rfl rfl (vp_in_nI (n := ((((((((ix - 1) - 1) - 1) - 1) - 1) - 1) - 1) - 1)) (N := cp) (show ((((((((ix - 1) - 1) - 1) - 1) - 1) - 1) - 1) - 1) < cp by omega) (by omega)) dJ6_getChars_ba4f3_68 (fun H locs hP hD hS => ?_)
            obtain ⟨hP, hD⟩ : PDq D A [(o1, .inl (cA 3, cp, .inl (upd fn122 (((nI ((((((((ix - 1) - 1) - 1) - 1) - 1) - 1) - 1) - 1))).toNatClampNeg) (vp_nar .byte yn124))))] H := ⟨hP, hD⟩
            have hn126 : sb_Fit (upd fn122 (((nI ((((((((ix - 1) - 1) - 1) - 1) - 1) - 1) - 1) - 1))).toNatClampNeg) (vp_nar .byte yn124)) := (sb_fitU hn123 (pk_fb _))
            generalize (upd fn122 (((nI ((((((((ix - 1) - 1) - 1) - 1) - 1) - 1) - 1) - 1))).toNatClampNeg) (vp_nar .byte yn124)) = fn125 at hP hD hn126
            obtain ⟨hP, hD⟩ : PDq D A [(o1, .inl (cA 3, cp, .inl fn125))] H := ⟨hP, hD⟩
            refine lv_goto (tgt := 22) hx hb dJ6_getChars_ba4f3_69 (by decide) ?_
            have hqhn127 := dg_pos w3x
            have hn127 : w3x < 100 := by omega
            refine lv_iload_n hx hb dJ6_getChars_ba4f3_22 rfl (lv_at hl 1 rfl) ?_
            refine lv_bipush (v := (-100)) hx hb dJ6_getChars_ba4f3_23 (by decide) ?_
            refine lv_icmp_gt (tgt := 72) hx hb dJ6_getChars_ba4f3_25 (by decide) (fun c128 => ?_) (fun c9 => absurd c9 (fun h9 => h9 (ng_gt hn127)))
            refine lv_aload_n hx hb dJ6_getChars_ba4f3_72 rfl (lv_at hl 6 rfl) ?_
            refine lv_iinc (v := (nI (((((((((ix - 1) - 1) - 1) - 1) - 1) - 1) - 1) - 1) - 1))) (lv' := [(5, .int (nI (((((((((ix - 1) - 1) - 1) - 1) - 1) - 1) - 1) - 1) - 1))), (0, .int (ngI w3x)), (4, .int (nI (w2x % 100))), (3, .int (ngI w3x)), (6, .int 1), (1, .int (nI ix)), (2, .ref o1)]) hx hb dJ6_getChars_ba4f3_73 hl (k := 0) rfl (nI_dec (a := ((((((((ix - 1) - 1) - 1) - 1) - 1) - 1) - 1) - 1)) (b := (((((((((ix - 1) - 1) - 1) - 1) - 1) - 1) - 1) - 1) - 1)) (by omega)) (by decide) rfl (fun ls hl => ?_)
            refine lv_iload hx hb dJ6_getChars_ba4f3_76 (lv_at hl 0 rfl) ?_
            refine va_gets hx hb hd1 hS hown (hts (.fieldLink RJ6 83 "java/lang/Integer" "DigitOnes" "[B") (by decide +kernel)) (fun _ h9 => h9) dJ6_getChars_ba4f3_78 ?_
            refine lv_iload_n hx hb dJ6_getChars_ba4f3_81 rfl (lv_at hl 1 rfl) ?_
            refine lv_ineg hx hb dJ6_getChars_ba4f3_82 ?_
            refine lv_topi (fun yn129 eyn129 => ?_)
            obtain rfl : yn129 = (nI w3x) := eyn129.trans (ng_opp)
            refine va_tb (v := .int (f1 ((nI w3x)).toNatClampNeg)) hx hb ht1 hS (vp_in_nI (n := w3x) (N := 100) (show w3x < 100 by omega) (by decide)) rfl dJ6_getChars_ba4f3_83 ?_
            refine lv_topi (fun yn130 eyn130 => ?_)
            refine va_bast hx hb hK hP hD hS 0 3 rfl rfl (vp_in_nI (n := (((((((((ix - 1) - 1) - 1) - 1) - 1) - 1) - 1) - 1) - 1)) (N := cp) (show (((((((((ix - 1) - 1) - 1) - 1) - 1) - 1) - 1) - 1) - 1) < cp by omega) (by omega)) dJ6_getChars_ba4f3_84 (fun H locs hP hD hS => ?_)
            obtain ⟨hP, hD⟩ : PDq D A [(o1, .inl (cA 3, cp, .inl (upd fn125 (((nI (((((((((ix - 1) - 1) - 1) - 1) - 1) - 1) - 1) - 1) - 1))).toNatClampNeg) (vp_nar .byte yn130))))] H := ⟨hP, hD⟩
            have hn132 : sb_Fit (upd fn125 (((nI (((((((((ix - 1) - 1) - 1) - 1) - 1) - 1) - 1) - 1) - 1))).toNatClampNeg) (vp_nar .byte yn130)) := (sb_fitU hn126 (pk_fb _))
            generalize (upd fn125 (((nI (((((((((ix - 1) - 1) - 1) - 1) - 1) - 1) - 1) - 1) - 1))).toNatClampNeg) (vp_nar .byte yn130)) = fn131 at hP hD hn132
            obtain ⟨hP, hD⟩ : PDq D A [(o1, .inl (cA 3, cp, .inl fn131))] H := ⟨hP, hD⟩
            rcases Nat.lt_or_ge w3x 10 with hn133 | hn133
            · skip
              refine lv_iload_n hx hb dJ6_getChars_ba4f3_85 rfl (lv_at hl 1 rfl) ?_
              refine lv_bipush (v := (-9)) hx hb dJ6_getChars_ba4f3_86 (by decide) ?_
              refine lv_icmp_ge (tgt := 104) hx hb dJ6_getChars_ba4f3_88 (by decide) (fun c134 => ?_) (fun c9 => absurd c9 (fun h9 => h9 (ng_ge9 hn133)))
              refine lv_iload hx hb dJ6_getChars_ba4f3_104 (lv_at hl 4 rfl) ?_
              refine lv_if_eq (tgt := 118) hx hb dJ6_getChars_ba4f3_106 (by decide) (fun c9 => absurd c9 (by decide)) (fun c135 => ?_)
              refine lv_aload_n hx hb dJ6_getChars_ba4f3_109 rfl (lv_at hl 6 rfl) ?_
              refine lv_iinc (v := (nI ((((((((((ix - 1) - 1) - 1) - 1) - 1) - 1) - 1) - 1) - 1) - 1))) (lv' := [(5, .int (nI ((((((((((ix - 1) - 1) - 1) - 1) - 1) - 1) - 1) - 1) - 1) - 1))), (0, .int (ngI w3x)), (4, .int (nI (w2x % 100))), (3, .int (ngI w3x)), (6, .int 1), (1, .int (nI ix)), (2, .ref o1)]) hx hb dJ6_getChars_ba4f3_110 hl (k := 0) rfl (nI_dec (a := (((((((((ix - 1) - 1) - 1) - 1) - 1) - 1) - 1) - 1) - 1)) (b := ((((((((((ix - 1) - 1) - 1) - 1) - 1) - 1) - 1) - 1) - 1) - 1)) (by omega)) (by decide) rfl (fun ls hl => ?_)
              refine lv_iload hx hb dJ6_getChars_ba4f3_113 (lv_at hl 0 rfl) ?_
              refine lv_bipush (v := 45) hx hb dJ6_getChars_ba4f3_115 (by decide) ?_
              refine va_bast hx hb hK hP hD hS 0 3 rfl rfl (vp_in_nI (n := ((((((((((ix - 1) - 1) - 1) - 1) - 1) - 1) - 1) - 1) - 1) - 1)) (N := cp) (show ((((((((((ix - 1) - 1) - 1) - 1) - 1) - 1) - 1) - 1) - 1) - 1) < cp by omega) (by omega)) dJ6_getChars_ba4f3_117 (fun H locs hP hD hS => ?_)
              obtain ⟨hP, hD⟩ : PDq D A [(o1, .inl (cA 3, cp, .inl (upd fn131 (((nI ((((((((((ix - 1) - 1) - 1) - 1) - 1) - 1) - 1) - 1) - 1) - 1))).toNatClampNeg) (vp_nar .byte 45))))] H := ⟨hP, hD⟩
              have hn137 : sb_Fit (upd fn131 (((nI ((((((((((ix - 1) - 1) - 1) - 1) - 1) - 1) - 1) - 1) - 1) - 1))).toNatClampNeg) (vp_nar .byte 45)) := (sb_fitU hn132 (pk_fb _))
              generalize (upd fn131 (((nI ((((((((((ix - 1) - 1) - 1) - 1) - 1) - 1) - 1) - 1) - 1) - 1))).toNatClampNeg) (vp_nar .byte 45)) = fn136 at hP hD hn137
              obtain ⟨hP, hD⟩ : PDq D A [(o1, .inl (cA 3, cp, .inl fn136))] H := ⟨hP, hD⟩
              refine lv_iload hx hb dJ6_getChars_ba4f3_118 (lv_at hl 0 rfl) ?_
              obtain ⟨hP9, hD9⟩ := PDq.sub (ws' := [(o1, .inl (cA 3, cp, .inl fn136))]) hP hD [0] (by decide) rfl
              refine W.widen (k := 0) (n := 0) (Nat.le_of_ble_eq_true rfl) (Nat.le_of_ble_eq_true rfl) ?_
              exact (W.iret (v := (nI ((((((((((ix - 1) - 1) - 1) - 1) - 1) - 1) - 1) - 1) - 1) - 1))) hx hb hr (fun t ht hW => ⟨⟨(nI ((((((((((ix - 1) - 1) - 1) - 1) - 1) - 1) - 1) - 1) - 1) - 1)), (), rfl, trivial, fn136, hn137, by rw [ht]; exact hP9, hD9⟩, hS.F ht⟩) hS.2.2 dJ6_getChars_ba4f3_120)
            · skip
              have hqhn133 := dg_2 hn133 (by omega)
              refine lv_iload_n hx hb dJ6_getChars_ba4f3_85 rfl (lv_at hl 1 rfl) ?_
              refine lv_bipush (v := (-9)) hx hb dJ6_getChars_ba4f3_86 (by decide) ?_
              refine lv_icmp_ge (tgt := 104) hx hb dJ6_getChars_ba4f3_88 (by decide) (fun c9 => absurd c9 (ng_nge9 hn133 (by omega))) (fun c138 => ?_)
              refine lv_aload_n hx hb dJ6_getChars_ba4f3_91 rfl (lv_at hl 6 rfl) ?_
              refine lv_iinc (v := (nI ((((((((((ix - 1) - 1) - 1) - 1) - 1) - 1) - 1) - 1) - 1) - 1))) (lv' := [(5, .int (nI ((((((((((ix - 1) - 1) - 1) - 1) - 1) - 1) - 1) - 1) - 1) - 1))), (0, .int (ngI w3x)), (4, .int (nI (w2x % 100))), (3, .int (ngI w3x)), (6, .int 1), (1, .int (nI ix)), (2, .ref o1)]) hx hb dJ6_getChars_ba4f3_92 hl (k := 0) rfl (nI_dec (a := (((((((((ix - 1) - 1) - 1) - 1) - 1) - 1) - 1) - 1) - 1)) (b := ((((((((((ix - 1) - 1) - 1) - 1) - 1) - 1) - 1) - 1) - 1) - 1)) (by omega)) (by decide) rfl (fun ls hl => ?_)
              refine lv_iload hx hb dJ6_getChars_ba4f3_95 (lv_at hl 0 rfl) ?_
              refine va_gets hx hb hd2 hS hown (hts (.fieldLink RJ6 87 "java/lang/Integer" "DigitTens" "[B") (by decide +kernel)) (fun _ h9 => h9) dJ6_getChars_ba4f3_97 ?_
              refine lv_iload_n hx hb dJ6_getChars_ba4f3_100 rfl (lv_at hl 1 rfl) ?_
              refine lv_ineg hx hb dJ6_getChars_ba4f3_101 ?_
              refine lv_topi (fun yn139 eyn139 => ?_)
              obtain rfl : yn139 = (nI w3x) := eyn139.trans (ng_opp)
              refine va_tb (v := .int (f2 ((nI w3x)).toNatClampNeg)) hx hb ht2 hS (vp_in_nI (n := w3x) (N := 100) (show w3x < 100 by omega) (by decide)) rfl dJ6_getChars_ba4f3_102 ?_
              refine lv_topi (fun yn140 eyn140 => ?_)
              refine va_bast hx hb hK hP hD hS 0 3 rfl rfl (vp_in_nI (n := ((((((((((ix - 1) - 1) - 1) - 1) - 1) - 1) - 1) - 1) - 1) - 1)) (N := cp) (show ((((((((((ix - 1) - 1) - 1) - 1) - 1) - 1) - 1) - 1) - 1) - 1) < cp by omega) (by omega)) dJ6_getChars_ba4f3_103 (fun H locs hP hD hS => ?_)
              obtain ⟨hP, hD⟩ : PDq D A [(o1, .inl (cA 3, cp, .inl (upd fn131 (((nI ((((((((((ix - 1) - 1) - 1) - 1) - 1) - 1) - 1) - 1) - 1) - 1))).toNatClampNeg) (vp_nar .byte yn140))))] H := ⟨hP, hD⟩
              have hn142 : sb_Fit (upd fn131 (((nI ((((((((((ix - 1) - 1) - 1) - 1) - 1) - 1) - 1) - 1) - 1) - 1))).toNatClampNeg) (vp_nar .byte yn140)) := (sb_fitU hn132 (pk_fb _))
              generalize (upd fn131 (((nI ((((((((((ix - 1) - 1) - 1) - 1) - 1) - 1) - 1) - 1) - 1) - 1))).toNatClampNeg) (vp_nar .byte yn140)) = fn141 at hP hD hn142
              obtain ⟨hP, hD⟩ : PDq D A [(o1, .inl (cA 3, cp, .inl fn141))] H := ⟨hP, hD⟩
              refine lv_iload hx hb dJ6_getChars_ba4f3_104 (lv_at hl 4 rfl) ?_
              refine lv_if_eq (tgt := 118) hx hb dJ6_getChars_ba4f3_106 (by decide) (fun c9 => absurd c9 (by decide)) (fun c143 => ?_)
              refine lv_aload_n hx hb dJ6_getChars_ba4f3_109 rfl (lv_at hl 6 rfl) ?_
              refine lv_iinc (v := (nI (((((((((((ix - 1) - 1) - 1) - 1) - 1) - 1) - 1) - 1) - 1) - 1) - 1))) (lv' := [(5, .int (nI (((((((((((ix - 1) - 1) - 1) - 1) - 1) - 1) - 1) - 1) - 1) - 1) - 1))), (0, .int (ngI w3x)), (4, .int (nI (w2x % 100))), (3, .int (ngI w3x)), (6, .int 1), (1, .int (nI ix)), (2, .ref o1)]) hx hb dJ6_getChars_ba4f3_110 hl (k := 0) rfl (nI_dec (a := ((((((((((ix - 1) - 1) - 1) - 1) - 1) - 1) - 1) - 1) - 1) - 1)) (b := (((((((((((ix - 1) - 1) - 1) - 1) - 1) - 1) - 1) - 1) - 1) - 1) - 1)) (by omega)) (by decide) rfl (fun ls hl => ?_)
              refine lv_iload hx hb dJ6_getChars_ba4f3_113 (lv_at hl 0 rfl) ?_
              refine lv_bipush (v := 45) hx hb dJ6_getChars_ba4f3_115 (by decide) ?_
              refine va_bast hx hb hK hP hD hS 0 3 rfl rfl (vp_in_nI (n := (((((((((((ix - 1) - 1) - 1) - 1) - 1) - 1) - 1) - 1) - 1) - 1) - 1)) (N := cp) (show (((((((((((ix - 1) - 1) - 1) - 1) - 1) - 1) - 1) - 1) - 1) - 1) - 1) < cp by omega) (by omega)) dJ6_getChars_ba4f3_117 (fun H locs hP hD hS => ?_)
              obtain ⟨hP, hD⟩ : PDq D A [(o1, .inl (cA 3, cp, .inl (upd fn141 (((nI (((((((((((ix - 1) - 1) - 1) - 1) - 1) - 1) - 1) - 1) - 1) - 1) - 1))).toNatClampNeg) (vp_nar .byte 45))))] H := ⟨hP, hD⟩
              have hn145 : sb_Fit (upd fn141 (((nI (((((((((((ix - 1) - 1) - 1) - 1) - 1) - 1) - 1) - 1) - 1) - 1) - 1))).toNatClampNeg) (vp_nar .byte 45)) := (sb_fitU hn142 (pk_fb _))
              generalize (upd fn141 (((nI (((((((((((ix - 1) - 1) - 1) - 1) - 1) - 1) - 1) - 1) - 1) - 1) - 1))).toNatClampNeg) (vp_nar .byte 45)) = fn144 at hP hD hn145
              obtain ⟨hP, hD⟩ : PDq D A [(o1, .inl (cA 3, cp, .inl fn144))] H := ⟨hP, hD⟩
              refine lv_iload hx hb dJ6_getChars_ba4f3_118 (lv_at hl 0 rfl) ?_
              obtain ⟨hP9, hD9⟩ := PDq.sub (ws' := [(o1, .inl (cA 3, cp, .inl fn144))]) hP hD [0] (by decide) rfl
              refine W.widen (k := 0) (n := 0) (Nat.le_of_ble_eq_true rfl) (Nat.le_of_ble_eq_true rfl) ?_
              exact (W.iret (v := (nI (((((((((((ix - 1) - 1) - 1) - 1) - 1) - 1) - 1) - 1) - 1) - 1) - 1))) hx hb hr (fun t ht hW => ⟨⟨(nI (((((((((((ix - 1) - 1) - 1) - 1) - 1) - 1) - 1) - 1) - 1) - 1) - 1)), (), rfl, trivial, fn144, hn145, by rw [ht]; exact hP9, hD9⟩, hS.F ht⟩) hS.2.2 dJ6_getChars_ba4f3_120)
  · skip
    refine lv_iload_n hx hb dJ6_getChars_ba4f3_0 rfl (lv_at hl 1 rfl) ?_
    refine lv_istore (lv' := [(5, .int (nI ix)), (0, .int a), (1, .int (nI ix)), (2, .ref o1)]) hx hb dJ6_getChars_ba4f3_1 hl (by decide) rfl (fun ls hl => ?_)
    refine lv_iload_n hx hb dJ6_getChars_ba4f3_3 rfl (lv_at hl 1 rfl) ?_
    refine lv_if_ge (tgt := 11) hx hb dJ6_getChars_ba4f3_4 (by decide) (fun c146 => ?_) (fun c9 => absurd c9 (fun h9 => h9 (Int32.not_lt.mp hn1)))
    refine lv_iconst (v := 0) hx hb dJ6_getChars_ba4f3_11 (by decide) ?_
    refine lv_istore (lv' := [(6, .int 0), (5, .int (nI ix)), (0, .int a), (1, .int (nI ix)), (2, .ref o1)]) hx hb dJ6_getChars_ba4f3_12 hl (by decide) rfl (fun ls hl => ?_)
    refine lv_iload hx hb dJ6_getChars_ba4f3_14 (lv_at hl 0 rfl) ?_
    refine lv_if_ne (tgt := 22) hx hb dJ6_getChars_ba4f3_16 (by decide) (fun c9 => absurd c9 (by decide)) (fun c147 => ?_)
    refine lv_iload_n hx hb dJ6_getChars_ba4f3_19 rfl (lv_at hl 2 rfl) ?_
    refine lv_ineg hx hb dJ6_getChars_ba4f3_20 ?_
    refine lv_topi (fun yn148 eyn148 => ?_)
    obtain rfl : yn148 = (ngI w9) := eyn148.trans hn2
    refine lv_istore_n (lv' := [(0, .int (ngI w9)), (6, .int 0), (5, .int (nI ix)), (1, .int (nI ix)), (2, .ref o1)]) hx hb dJ6_getChars_ba4f3_21 rfl hl (by decide) rfl (fun ls hl => ?_)
    have hqhn149 := dg_pos w9
    rcases Nat.lt_or_ge w9 100 with hn149 | hn149
    · skip
      refine lv_iload_n hx hb dJ6_getChars_ba4f3_22 rfl (lv_at hl 0 rfl) ?_
      refine lv_bipush (v := (-100)) hx hb dJ6_getChars_ba4f3_23 (by decide) ?_
      refine lv_icmp_gt (tgt := 72) hx hb dJ6_getChars_ba4f3_25 (by decide) (fun c150 => ?_) (fun c9 => absurd c9 (fun h9 => h9 (ng_gt hn149)))
      refine lv_aload_n hx hb dJ6_getChars_ba4f3_72 rfl (lv_at hl 4 rfl) ?_
      refine lv_iinc (v := (nI (ix - 1))) (lv' := [(5, .int (nI (ix - 1))), (0, .int (ngI w9)), (6, .int 0), (1, .int (nI ix)), (2, .ref o1)]) hx hb dJ6_getChars_ba4f3_73 hl (k := 2) rfl (nI_dec (a := ix) (b := (ix - 1)) (by omega)) (by decide) rfl (fun ls hl => ?_)
      refine lv_iload hx hb dJ6_getChars_ba4f3_76 (lv_at hl 0 rfl) ?_
      refine va_gets hx hb hd1 hS hown (hts (.fieldLink RJ6 83 "java/lang/Integer" "DigitOnes" "[B") (by decide +kernel)) (fun _ h9 => h9) dJ6_getChars_ba4f3_78 ?_
      refine lv_iload_n hx hb dJ6_getChars_ba4f3_81 rfl (lv_at hl 1 rfl) ?_
      refine lv_ineg hx hb dJ6_getChars_ba4f3_82 ?_
      refine lv_topi (fun yn151 eyn151 => ?_)
      obtain rfl : yn151 = (nI w9) := eyn151.trans (ng_opp)
      refine va_tb (v := .int (f1 ((nI w9)).toNatClampNeg)) hx hb ht1 hS (vp_in_nI (n := w9) (N := 100) (show w9 < 100 by omega) (by decide)) rfl dJ6_getChars_ba4f3_83 ?_
      refine lv_topi (fun yn152 eyn152 => ?_)
      refine va_bast hx hb hK hP hD hS 0 3 rfl rfl (vp_in_nI (n := (ix - 1)) (N := cp) (show (ix - 1) < cp by omega) (by omega)) dJ6_getChars_ba4f3_84 (fun H locs hP hD hS => ?_)
      obtain ⟨hP, hD⟩ : PDq D A [(o1, .inl (cA 3, cp, .inl (upd fy (((nI (ix - 1))).toNatClampNeg) (vp_nar .byte yn152))))] H := ⟨hP, hD⟩
      have hn154 : sb_Fit (upd fy (((nI (ix - 1))).toNatClampNeg) (vp_nar .byte yn152)) := (sb_fitU hfit (pk_fb _))
      generalize (upd fy (((nI (ix - 1))).toNatClampNeg) (vp_nar .byte yn152)) = fn153 at hP hD hn154
      obtain ⟨hP, hD⟩ : PDq D A [(o1, .inl (cA 3, cp, .inl fn153))] H := ⟨hP, hD⟩
      rcases Nat.lt_or_ge w9 10 with hn155 | hn155
      · skip
        refine lv_iload_n hx hb dJ6_getChars_ba4f3_85 rfl (lv_at hl 1 rfl) ?_
        refine lv_bipush (v := (-9)) hx hb dJ6_getChars_ba4f3_86 (by decide) ?_
        refine lv_icmp_ge (tgt := 104) hx hb dJ6_getChars_ba4f3_88 (by decide) (fun c156 => ?_) (fun c9 => absurd c9 (fun h9 => h9 (ng_ge9 hn155)))
        refine lv_iload hx hb dJ6_getChars_ba4f3_104 (lv_at hl 2 rfl) ?_
        refine lv_if_eq (tgt := 118) hx hb dJ6_getChars_ba4f3_106 (by decide) (fun c157 => ?_) (fun c9 => absurd c9 (by decide))
        refine lv_iload hx hb dJ6_getChars_ba4f3_118 (lv_at hl 0 rfl) ?_
        obtain ⟨hP9, hD9⟩ := PDq.sub (ws' := [(o1, .inl (cA 3, cp, .inl fn153))]) hP hD [0] (by decide) rfl
        refine W.widen (k := 0) (n := 0) (Nat.le_of_ble_eq_true rfl) (Nat.le_of_ble_eq_true rfl) ?_
        exact (W.iret (v := (nI (ix - 1))) hx hb hr (fun t ht hW => ⟨⟨(nI (ix - 1)), (), rfl, trivial, fn153, hn154, by rw [ht]; exact hP9, hD9⟩, hS.F ht⟩) hS.2.2 dJ6_getChars_ba4f3_120)
      · skip
        have hqhn155 := dg_2 hn155 (by omega)
        refine lv_iload_n hx hb dJ6_getChars_ba4f3_85 rfl (lv_at hl 1 rfl) ?_
        refine lv_bipush (v := (-9)) hx hb dJ6_getChars_ba4f3_86 (by decide) ?_
        refine lv_icmp_ge (tgt := 104) hx hb dJ6_getChars_ba4f3_88 (by decide) (fun c9 => absurd c9 (ng_nge9 hn155 (by omega))) (fun c158 => ?_)
        refine lv_aload_n hx hb dJ6_getChars_ba4f3_91 rfl (lv_at hl 4 rfl) ?_
        refine lv_iinc (v := (nI ((ix - 1) - 1))) (lv' := [(5, .int (nI ((ix - 1) - 1))), (0, .int (ngI w9)), (6, .int 0), (1, .int (nI ix)), (2, .ref o1)]) hx hb dJ6_getChars_ba4f3_92 hl (k := 0) rfl (nI_dec (a := (ix - 1)) (b := ((ix - 1) - 1)) (by omega)) (by decide) rfl (fun ls hl => ?_)
        refine lv_iload hx hb dJ6_getChars_ba4f3_95 (lv_at hl 0 rfl) ?_
        refine va_gets hx hb hd2 hS hown (hts (.fieldLink RJ6 87 "java/lang/Integer" "DigitTens" "[B") (by decide +kernel)) (fun _ h9 => h9) dJ6_getChars_ba4f3_97 ?_
        refine lv_iload_n hx hb dJ6_getChars_ba4f3_100 rfl (lv_at hl 1 rfl) ?_
        refine lv_ineg hx hb dJ6_getChars_ba4f3_101 ?_
        refine lv_topi (fun yn159 eyn159 => ?_)
        obtain rfl : yn159 = (nI w9) := eyn159.trans (ng_opp)
        refine va_tb (v := .int (f2 ((nI w9)).toNatClampNeg)) hx hb ht2 hS (vp_in_nI (n := w9) (N := 100) (show w9 < 100 by omega) (by decide)) rfl dJ6_getChars_ba4f3_102 ?_
        refine lv_topi (fun yn160 eyn160 => ?_)
        refine va_bast hx hb hK hP hD hS 0 3 rfl rfl (vp_in_nI (n := ((ix - 1) - 1)) (N := cp) (show ((ix - 1) - 1) < cp by omega) (by omega)) dJ6_getChars_ba4f3_103 (fun H locs hP hD hS => ?_)
        obtain ⟨hP, hD⟩ : PDq D A [(o1, .inl (cA 3, cp, .inl (upd fn153 (((nI ((ix - 1) - 1))).toNatClampNeg) (vp_nar .byte yn160))))] H := ⟨hP, hD⟩
        have hn162 : sb_Fit (upd fn153 (((nI ((ix - 1) - 1))).toNatClampNeg) (vp_nar .byte yn160)) := (sb_fitU hn154 (pk_fb _))
        generalize (upd fn153 (((nI ((ix - 1) - 1))).toNatClampNeg) (vp_nar .byte yn160)) = fn161 at hP hD hn162
        obtain ⟨hP, hD⟩ : PDq D A [(o1, .inl (cA 3, cp, .inl fn161))] H := ⟨hP, hD⟩
        refine lv_iload hx hb dJ6_getChars_ba4f3_104 (lv_at hl 2 rfl) ?_
        refine lv_if_eq (tgt := 118) hx hb dJ6_getChars_ba4f3_106 (by decide) (fun c163 => ?_) (fun c9 => absurd c9 (by decide))
        refine lv_iload hx hb dJ6_getChars_ba4f3_118 (lv_at hl 0 rfl) ?_
        obtain ⟨hP9, hD9⟩ := PDq.sub (ws' := [(o1, .inl (cA 3, cp, .inl fn161))]) hP hD [0] (by decide) rfl
        refine W.widen (k := 0) (n := 0) (Nat.le_of_ble_eq_true rfl) (Nat.le_of_ble_eq_true rfl) ?_
        exact (W.iret (v := (nI ((ix - 1) - 1))) hx hb hr (fun t ht hW => ⟨⟨(nI ((ix - 1) - 1)), (), rfl, trivial, fn161, hn162, by rw [ht]; exact hP9, hD9⟩, hS.F ht⟩) hS.2.2 dJ6_getChars_ba4f3_120)
    · skip
      refine lv_iload_n hx hb dJ6_getChars_ba4f3_22 rfl (lv_at hl 0 rfl) ?_
      refine lv_bipush (v := (-100)) hx hb dJ6_getChars_ba4f3_23 (by decide) ?_
      refine lv_icmp_gt (tgt := 72) hx hb dJ6_getChars_ba4f3_25 (by decide) (fun c9 => absurd c9 (ng_ngt hn149 (by omega))) (fun c164 => ?_)
      refine lv_iload_n hx hb dJ6_getChars_ba4f3_28 rfl (lv_at hl 0 rfl) ?_
      refine lv_bipush (v := 100) hx hb dJ6_getChars_ba4f3_29 (by decide) ?_
      obtain ⟨w0x, hw0x⟩ : ∃ x9, x9 = w9 / 100 := ⟨_, rfl⟩
      have hdw0x : dg w9 = dg w0x + 2 := by rw [hw0x]; exact dg_100 (by omega) hn149
      have hpw0x := dg_pos w0x
      refine lv_idiv hx hb dJ6_getChars_ba4f3_31 (by decide) ?_
      refine lv_topi (fun yn165 eyn165 => ?_)
      obtain rfl : yn165 = (ngI w0x) := eyn165.trans (by rw [ng_div (by omega), ← hw0x])
      refine lv_istore_n (lv' := [(3, .int (ngI w0x)), (0, .int (ngI w9)), (6, .int 0), (5, .int (nI ix)), (1, .int (nI ix)), (2, .ref o1)]) hx hb dJ6_getChars_ba4f3_32 rfl hl (by decide) rfl (fun ls hl => ?_)
      refine lv_iload_n hx hb dJ6_getChars_ba4f3_33 rfl (lv_at hl 0 rfl) ?_
      refine lv_bipush (v := 100) hx hb dJ6_getChars_ba4f3_34 (by decide) ?_
      refine lv_imul hx hb dJ6_getChars_ba4f3_36 ?_
      refine lv_topi (fun yn166 eyn166 => ?_)
      refine lv_iload_n hx hb dJ6_getChars_ba4f3_37 rfl (lv_at hl 1 rfl) ?_
      refine lv_isub hx hb dJ6_getChars_ba4f3_38 ?_
      refine lv_topi (fun yn169 eyn169 => ?_)
      obtain rfl : yn169 = (nI (w9 % 100)) := eyn169.trans (by rw [eyn166, hw0x]; exact ng_rem (by omega))
      refine lv_istore (lv' := [(4, .int (nI (w9 % 100))), (3, .int (ngI w0x)), (0, .int (ngI w9)), (6, .int 0), (5, .int (nI ix)), (1, .int (nI ix)), (2, .ref o1)]) hx hb dJ6_getChars_ba4f3_39 hl (by decide) rfl (fun ls hl => ?_)
      refine lv_iload_n hx hb dJ6_getChars_ba4f3_41 rfl (lv_at hl 1 rfl) ?_
      refine lv_istore_n (lv' := [(0, .int (ngI w0x)), (4, .int (nI (w9 % 100))), (3, .int (ngI w0x)), (6, .int 0), (5, .int (nI ix)), (1, .int (nI ix)), (2, .ref o1)]) hx hb dJ6_getChars_ba4f3_42 rfl hl (by decide) rfl (fun ls hl => ?_)
      refine lv_aload_n hx hb dJ6_getChars_ba4f3_43 rfl (lv_at hl 6 rfl) ?_
      refine lv_iinc (v := (nI (ix - 1))) (lv' := [(5, .int (nI (ix - 1))), (0, .int (ngI w0x)), (4, .int (nI (w9 % 100))), (3, .int (ngI w0x)), (6, .int 0), (1, .int (nI ix)), (2, .ref o1)]) hx hb dJ6_getChars_ba4f3_44 hl (k := 4) rfl (nI_dec (a := ix) (b := (ix - 1)) (by omega)) (by decide) rfl (fun ls hl => ?_)
      refine lv_iload hx hb dJ6_getChars_ba4f3_47 (lv_at hl 0 rfl) ?_
      refine va_gets hx hb hd1 hS hown (hts (.fieldLink RJ6 83 "java/lang/Integer" "DigitOnes" "[B") (by decide +kernel)) (fun _ h9 => h9) dJ6_getChars_ba4f3_49 ?_
      refine lv_iload hx hb dJ6_getChars_ba4f3_52 (lv_at hl 2 rfl) ?_
      refine va_tb (v := .int (f1 ((nI (w9 % 100))).toNatClampNeg)) hx hb ht1 hS (vp_in_nI (n := (w9 % 100)) (N := 100) (show (w9 % 100) < 100 by omega) (by decide)) rfl dJ6_getChars_ba4f3_54 ?_
      refine lv_topi (fun yn170 eyn170 => ?_)
      refine va_bast hx hb hK hP hD hS 0 3 rfl rfl (vp_in_nI (n := (ix - 1)) (N := cp) (show (ix - 1) < cp by omega) (by omega)) dJ6_getChars_ba4f3_55 (fun H locs hP hD hS => ?_)
      obtain ⟨hP, hD⟩ : PDq D A [(o1, .inl (cA 3, cp, .inl (upd fy (((nI (ix - 1))).toNatClampNeg) (vp_nar .byte yn170))))] H := ⟨hP, hD⟩
      have hn172 : sb_Fit (upd fy (((nI (ix - 1))).toNatClampNeg) (vp_nar .byte yn170)) := (sb_fitU hfit (pk_fb _))
      generalize (upd fy (((nI (ix - 1))).toNatClampNeg) (vp_nar .byte yn170)) = fn171 at hP hD hn172
      obtain ⟨hP, hD⟩ : PDq D A [(o1, .inl (cA 3, cp, .inl fn171))] H := ⟨hP, hD⟩
      refine lv_aload_n hx hb dJ6_getChars_ba4f3_56 rfl (lv_at hl 6 rfl) ?_
      refine lv_iinc (v := (nI ((ix - 1) - 1))) (lv' := [(5, .int (nI ((ix - 1) - 1))), (0, .int (ngI w0x)), (4, .int (nI (w9 % 100))), (3, .int (ngI w0x)), (6, .int 0), (1, .int (nI ix)), (2, .ref o1)]) hx hb dJ6_getChars_ba4f3_57 hl (k := 0) rfl (nI_dec (a := (ix - 1)) (b := ((ix - 1) - 1)) (by omega)) (by decide) rfl (fun ls hl => ?_)
      refine lv_iload hx hb dJ6_getChars_ba4f3_60 (lv_at hl 0 rfl) ?_
      refine va_gets hx hb hd2 hS hown (hts (.fieldLink RJ6 87 "java/lang/Integer" "DigitTens" "[B") (by decide +kernel)) (fun _ h9 => h9) dJ6_getChars_ba4f3_62 ?_
      refine lv_iload hx hb dJ6_getChars_ba4f3_65 (lv_at hl 2 rfl) ?_
      refine va_tb (v := .int (f2 ((nI (w9 % 100))).toNatClampNeg)) hx hb ht2 hS (vp_in_nI (n := (w9 % 100)) (N := 100) (show (w9 % 100) < 100 by omega) (by decide)) rfl dJ6_getChars_ba4f3_67 ?_
      refine lv_topi (fun yn173 eyn173 => ?_)
      refine va_bast hx hb hK hP hD hS 0 3 rfl rfl (vp_in_nI (n := ((ix - 1) - 1)) (N := cp) (show ((ix - 1) - 1) < cp by omega) (by omega)) dJ6_getChars_ba4f3_68 (fun H locs hP hD hS => ?_)
      obtain ⟨hP, hD⟩ : PDq D A [(o1, .inl (cA 3, cp, .inl (upd fn171 (((nI ((ix - 1) - 1))).toNatClampNeg) (vp_nar .byte yn173))))] H := ⟨hP, hD⟩
      have hn175 : sb_Fit (upd fn171 (((nI ((ix - 1) - 1))).toNatClampNeg) (vp_nar .byte yn173)) := (sb_fitU hn172 (pk_fb _))
      generalize (upd fn171 (((nI ((ix - 1) - 1))).toNatClampNeg) (vp_nar .byte yn173)) = fn174 at hP hD hn175
      obtain ⟨hP, hD⟩ : PDq D A [(o1, .inl (cA 3, cp, .inl fn174))] H := ⟨hP, hD⟩
      refine lv_goto (tgt := 22) hx hb dJ6_getChars_ba4f3_69 (by decide) ?_
      have hqhn176 := dg_pos w0x
      rcases Nat.lt_or_ge w0x 100 with hn176 | hn176
      · skip
        refine lv_iload_n hx hb dJ6_getChars_ba4f3_22 rfl (lv_at hl 1 rfl) ?_
        refine lv_bipush (v := (-100)) hx hb dJ6_getChars_ba4f3_23 (by decide) ?_
        refine lv_icmp_gt (tgt := 72) hx hb dJ6_getChars_ba4f3_25 (by decide) (fun c177 => ?_) (fun c9 => absurd c9 (fun h9 => h9 (ng_gt hn176)))
        refine lv_aload_n hx hb dJ6_getChars_ba4f3_72 rfl (lv_at hl 6 rfl) ?_
        refine lv_iinc (v := (nI (((ix - 1) - 1) - 1))) (lv' := [(5, .int (nI (((ix - 1) - 1) - 1))), (0, .int (ngI w0x)), (4, .int (nI (w9 % 100))), (3, .int (ngI w0x)), (6, .int 0), (1, .int (nI ix)), (2, .ref o1)]) hx hb dJ6_getChars_ba4f3_73 hl (k := 0) rfl (nI_dec (a := ((ix - 1) - 1)) (b := (((ix - 1) - 1) - 1)) (by omega)) (by decide) rfl (fun ls hl => ?_)
        refine lv_iload hx hb dJ6_getChars_ba4f3_76 (lv_at hl 0 rfl) ?_
        refine va_gets hx hb hd1 hS hown (hts (.fieldLink RJ6 83 "java/lang/Integer" "DigitOnes" "[B") (by decide +kernel)) (fun _ h9 => h9) dJ6_getChars_ba4f3_78 ?_
        refine lv_iload_n hx hb dJ6_getChars_ba4f3_81 rfl (lv_at hl 1 rfl) ?_
        refine lv_ineg hx hb dJ6_getChars_ba4f3_82 ?_
        refine lv_topi (fun yn178 eyn178 => ?_)
        obtain rfl : yn178 = (nI w0x) := eyn178.trans (ng_opp)
        refine va_tb (v := .int (f1 ((nI w0x)).toNatClampNeg)) hx hb ht1 hS (vp_in_nI (n := w0x) (N := 100) (show w0x < 100 by omega) (by decide)) rfl dJ6_getChars_ba4f3_83 ?_
        refine lv_topi (fun yn179 eyn179 => ?_)
        refine va_bast hx hb hK hP hD hS 0 3 rfl rfl (vp_in_nI (n := (((ix - 1) - 1) - 1)) (N := cp) (show (((ix - 1) - 1) - 1) < cp by omega) (by omega)) dJ6_getChars_ba4f3_84 (fun H locs hP hD hS => ?_)
        obtain ⟨hP, hD⟩ : PDq D A [(o1, .inl (cA 3, cp, .inl (upd fn174 (((nI (((ix - 1) - 1) - 1))).toNatClampNeg) (vp_nar .byte yn179))))] H := ⟨hP, hD⟩
        have hn181 : sb_Fit (upd fn174 (((nI (((ix - 1) - 1) - 1))).toNatClampNeg) (vp_nar .byte yn179)) := (sb_fitU hn175 (pk_fb _))
        generalize (upd fn174 (((nI (((ix - 1) - 1) - 1))).toNatClampNeg) (vp_nar .byte yn179)) = fn180 at hP hD hn181
        obtain ⟨hP, hD⟩ : PDq D A [(o1, .inl (cA 3, cp, .inl fn180))] H := ⟨hP, hD⟩
        rcases Nat.lt_or_ge w0x 10 with hn182 | hn182
        · skip
          refine lv_iload_n hx hb dJ6_getChars_ba4f3_85 rfl (lv_at hl 1 rfl) ?_
          refine lv_bipush (v := (-9)) hx hb dJ6_getChars_ba4f3_86 (by decide) ?_
          refine lv_icmp_ge (tgt := 104) hx hb dJ6_getChars_ba4f3_88 (by decide) (fun c183 => ?_) (fun c9 => absurd c9 (fun h9 => h9 (ng_ge9 hn182)))
          refine lv_iload hx hb dJ6_getChars_ba4f3_104 (lv_at hl 4 rfl) ?_
          refine lv_if_eq (tgt := 118) hx hb dJ6_getChars_ba4f3_106 (by decide) (fun c184 => ?_) (fun c9 => absurd c9 (by decide))
          refine lv_iload hx hb dJ6_getChars_ba4f3_118 (lv_at hl 0 rfl) ?_
          obtain ⟨hP9, hD9⟩ := PDq.sub (ws' := [(o1, .inl (cA 3, cp, .inl fn180))]) hP hD [0] (by decide) rfl
          refine W.widen (k := 0) (n := 0) (Nat.le_of_ble_eq_true rfl) (Nat.le_of_ble_eq_true rfl) ?_
          exact (W.iret (v := (nI (((ix - 1) - 1) - 1))) hx hb hr (fun t ht hW => ⟨⟨(nI (((ix - 1) - 1) - 1)), (), rfl, trivial, fn180, hn181, by rw [ht]; exact hP9, hD9⟩, hS.F ht⟩) hS.2.2 dJ6_getChars_ba4f3_120)
        · skip
          have hqhn182 := dg_2 hn182 (by omega)
          refine lv_iload_n hx hb dJ6_getChars_ba4f3_85 rfl (lv_at hl 1 rfl) ?_
          refine lv_bipush (v := (-9)) hx hb dJ6_getChars_ba4f3_86 (by decide) ?_
          refine lv_icmp_ge (tgt := 104) hx hb dJ6_getChars_ba4f3_88 (by decide) (fun c9 => absurd c9 (ng_nge9 hn182 (by omega))) (fun c185 => ?_)
          refine lv_aload_n hx hb dJ6_getChars_ba4f3_91 rfl (lv_at hl 6 rfl) ?_
          refine lv_iinc (v := (nI ((((ix - 1) - 1) - 1) - 1))) (lv' := [(5, .int (nI ((((ix - 1) - 1) - 1) - 1))), (0, .int (ngI w0x)), (4, .int (nI (w9 % 100))), (3, .int (ngI w0x)), (6, .int 0), (1, .int (nI ix)), (2, .ref o1)]) hx hb dJ6_getChars_ba4f3_92 hl (k := 0) rfl (nI_dec (a := (((ix - 1) - 1) - 1)) (b := ((((ix - 1) - 1) - 1) - 1)) (by omega)) (by decide) rfl (fun ls hl => ?_)
          refine lv_iload hx hb dJ6_getChars_ba4f3_95 (lv_at hl 0 rfl) ?_
          refine va_gets hx hb hd2 hS hown (hts (.fieldLink RJ6 87 "java/lang/Integer" "DigitTens" "[B") (by decide +kernel)) (fun _ h9 => h9) dJ6_getChars_ba4f3_97 ?_
          refine lv_iload_n hx hb dJ6_getChars_ba4f3_100 rfl (lv_at hl 1 rfl) ?_
          refine lv_ineg hx hb dJ6_getChars_ba4f3_101 ?_
          refine lv_topi (fun yn186 eyn186 => ?_)
          obtain rfl : yn186 = (nI w0x) := eyn186.trans (ng_opp)
          refine va_tb (v := .int (f2 ((nI w0x)).toNatClampNeg)) hx hb ht2 hS (vp_in_nI (n := w0x) (N := 100) (show w0x < 100 by omega) (by decide)) rfl dJ6_getChars_ba4f3_102 ?_
          refine lv_topi (fun yn187 eyn187 => ?_)
          refine va_bast hx hb hK hP hD hS 0 3 rfl rfl (vp_in_nI (n := ((((ix - 1) - 1) - 1) - 1)) (N := cp) (show ((((ix - 1) - 1) - 1) - 1) < cp by omega) (by omega)) dJ6_getChars_ba4f3_103 (fun H locs hP hD hS => ?_)
          obtain ⟨hP, hD⟩ : PDq D A [(o1, .inl (cA 3, cp, .inl (upd fn180 (((nI ((((ix - 1) - 1) - 1) - 1))).toNatClampNeg) (vp_nar .byte yn187))))] H := ⟨hP, hD⟩
          have hn189 : sb_Fit (upd fn180 (((nI ((((ix - 1) - 1) - 1) - 1))).toNatClampNeg) (vp_nar .byte yn187)) := (sb_fitU hn181 (pk_fb _))
          generalize (upd fn180 (((nI ((((ix - 1) - 1) - 1) - 1))).toNatClampNeg) (vp_nar .byte yn187)) = fn188 at hP hD hn189
          obtain ⟨hP, hD⟩ : PDq D A [(o1, .inl (cA 3, cp, .inl fn188))] H := ⟨hP, hD⟩
          refine lv_iload hx hb dJ6_getChars_ba4f3_104 (lv_at hl 4 rfl) ?_
          refine lv_if_eq (tgt := 118) hx hb dJ6_getChars_ba4f3_106 (by decide) (fun c190 => ?_) (fun c9 => absurd c9 (by decide))
          refine lv_iload hx hb dJ6_getChars_ba4f3_118 (lv_at hl 0 rfl) ?_
          obtain ⟨hP9, hD9⟩ := PDq.sub (ws' := [(o1, .inl (cA 3, cp, .inl fn188))]) hP hD [0] (by decide) rfl
          refine W.widen (k := 0) (n := 0) (Nat.le_of_ble_eq_true rfl) (Nat.le_of_ble_eq_true rfl) ?_
          exact (W.iret (v := (nI ((((ix - 1) - 1) - 1) - 1))) hx hb hr (fun t ht hW => ⟨⟨(nI ((((ix - 1) - 1) - 1) - 1)), (), rfl, trivial, fn188, hn189, by rw [ht]; exact hP9, hD9⟩, hS.F ht⟩) hS.2.2 dJ6_getChars_ba4f3_120)
      · skip
        refine lv_iload_n hx hb dJ6_getChars_ba4f3_22 rfl (lv_at hl 1 rfl) ?_
        refine lv_bipush (v := (-100)) hx hb dJ6_getChars_ba4f3_23 (by decide) ?_
        refine lv_icmp_gt (tgt := 72) hx hb dJ6_getChars_ba4f3_25 (by decide) (fun c9 => absurd c9 (ng_ngt hn176 (by omega))) (fun c191 => ?_)
        refine lv_iload_n hx hb dJ6_getChars_ba4f3_28 rfl (lv_at hl 1 rfl) ?_
        refine lv_bipush (v := 100) hx hb dJ6_getChars_ba4f3_29 (by decide) ?_
        obtain ⟨w1x, hw1x⟩ : ∃ x9, x9 = w0x / 100 := ⟨_, rfl⟩
        have hdw1x : dg w0x = dg w1x + 2 := by rw [hw1x]; exact dg_100 (by omega) hn176
        have hpw1x := dg_pos w1x
        refine lv_idiv hx hb dJ6_getChars_ba4f3_31 (by decide) ?_
        refine lv_topi (fun yn192 eyn192 => ?_)
        obtain rfl : yn192 = (ngI w1x) := eyn192.trans (by rw [ng_div (by omega), ← hw1x])
        refine lv_istore_n (lv' := [(3, .int (ngI w1x)), (5, .int (nI ((ix - 1) - 1))), (0, .int (ngI w0x)), (4, .int (nI (w9 % 100))), (6, .int 0), (1, .int (nI ix)), (2, .ref o1)]) hx hb dJ6_getChars_ba4f3_32 rfl hl (by decide) rfl (fun ls hl => ?_)
        refine lv_iload_n hx hb dJ6_getChars_ba4f3_33 rfl (lv_at hl 0 rfl) ?_
        refine lv_bipush (v := 100) hx hb dJ6_getChars_ba4f3_34 (by decide) ?_
        refine lv_imul hx hb dJ6_getChars_ba4f3_36 ?_
        refine lv_topi (fun yn193 eyn193 => ?_)
        refine lv_iload_n hx hb dJ6_getChars_ba4f3_37 rfl (lv_at hl 2 rfl) ?_
        refine lv_isub hx hb dJ6_getChars_ba4f3_38 ?_
        refine lv_topi (fun yn196 eyn196 => ?_)
        obtain rfl : yn196 = (nI (w0x % 100)) := eyn196.trans (by rw [eyn193, hw1x]; exact ng_rem (by omega))
        refine lv_istore (lv' := [(4, .int (nI (w0x % 100))), (3, .int (ngI w1x)), (5, .int (nI ((ix - 1) - 1))), (0, .int (ngI w0x)), (6, .int 0), (1, .int (nI ix)), (2, .ref o1)]) hx hb dJ6_getChars_ba4f3_39 hl (by decide) rfl (fun ls hl => ?_)
        refine lv_iload_n hx hb dJ6_getChars_ba4f3_41 rfl (lv_at hl 1 rfl) ?_
        refine lv_istore_n (lv' := [(0, .int (ngI w1x)), (4, .int (nI (w0x % 100))), (3, .int (ngI w1x)), (5, .int (nI ((ix - 1) - 1))), (6, .int 0), (1, .int (nI ix)), (2, .ref o1)]) hx hb dJ6_getChars_ba4f3_42 rfl hl (by decide) rfl (fun ls hl => ?_)
        refine lv_aload_n hx hb dJ6_getChars_ba4f3_43 rfl (lv_at hl 6 rfl) ?_
        refine lv_iinc (v := (nI (((ix - 1) - 1) - 1))) (lv' := [(5, .int (nI (((ix - 1) - 1) - 1))), (0, .int (ngI w1x)), (4, .int (nI (w0x % 100))), (3, .int (ngI w1x)), (6, .int 0), (1, .int (nI ix)), (2, .ref o1)]) hx hb dJ6_getChars_ba4f3_44 hl (k := 3) rfl (nI_dec (a := ((ix - 1) - 1)) (b := (((ix - 1) - 1) - 1)) (by omega)) (by decide) rfl (fun ls hl => ?_)
        refine lv_iload hx hb dJ6_getChars_ba4f3_47 (lv_at hl 0 rfl) ?_
        refine va_gets hx hb hd1 hS hown (hts (.fieldLink RJ6 83 "java/lang/Integer" "DigitOnes" "[B") (by decide +kernel)) (fun _ h9 => h9) dJ6_getChars_ba4f3_49 ?_
        refine lv_iload hx hb dJ6_getChars_ba4f3_52 (lv_at hl 2 rfl) ?_
        refine va_tb (v := .int (f1 ((nI (w0x % 100))).toNatClampNeg)) hx hb ht1 hS (vp_in_nI (n := (w0x % 100)) (N := 100) (show (w0x % 100) < 100 by omega) (by decide)) rfl dJ6_getChars_ba4f3_54 ?_
        refine lv_topi (fun yn197 eyn197 => ?_)
        refine va_bast hx hb hK hP hD hS 0 3 rfl rfl (vp_in_nI (n := (((ix - 1) - 1) - 1)) (N := cp) (show (((ix - 1) - 1) - 1) < cp by omega) (by omega)) dJ6_getChars_ba4f3_55 (fun H locs hP hD hS => ?_)
        obtain ⟨hP, hD⟩ : PDq D A [(o1, .inl (cA 3, cp, .inl (upd fn174 (((nI (((ix - 1) - 1) - 1))).toNatClampNeg) (vp_nar .byte yn197))))] H := ⟨hP, hD⟩
        have hn199 : sb_Fit (upd fn174 (((nI (((ix - 1) - 1) - 1))).toNatClampNeg) (vp_nar .byte yn197)) := (sb_fitU hn175 (pk_fb _))
        generalize (upd fn174 (((nI (((ix - 1) - 1) - 1))).toNatClampNeg) (vp_nar .byte yn197)) = fn198 at hP hD hn199
        obtain ⟨hP, hD⟩ : PDq D A [(o1, .inl (cA 3, cp, .inl fn198))] H := ⟨hP, hD⟩
        refine lv_aload_n hx hb dJ6_getChars_ba4f3_56 rfl (lv_at hl 6 rfl) ?_
        refine lv_iinc (v := (nI ((((ix - 1) - 1) - 1) - 1))) (lv' := [(5, .int (nI ((((ix - 1) - 1) - 1) - 1))), (0, .int (ngI w1x)), (4, .int (nI (w0x % 100))), (3, .int (ngI w1x)), (6, .int 0), (1, .int (nI ix)), (2, .ref o1)]) hx hb dJ6_getChars_ba4f3_57 hl (k := 0) rfl (nI_dec (a := (((ix - 1) - 1) - 1)) (b := ((((ix - 1) - 1) - 1) - 1)) (by omega)) (by decide) rfl (fun ls hl => ?_)
        refine lv_iload hx hb dJ6_getChars_ba4f3_60 (lv_at hl 0 rfl) ?_
        refine va_gets hx hb hd2 hS hown (hts (.fieldLink RJ6 87 "java/lang/Integer" "DigitTens" "[B") (by decide +kernel)) (fun _ h9 => h9) dJ6_getChars_ba4f3_62 ?_
        refine lv_iload hx hb dJ6_getChars_ba4f3_65 (lv_at hl 2 rfl) ?_
        refine va_tb (v := .int (f2 ((nI (w0x % 100))).toNatClampNeg)) hx hb ht2 hS (vp_in_nI (n := (w0x % 100)) (N := 100) (show (w0x % 100) < 100 by omega) (by decide)) rfl dJ6_getChars_ba4f3_67 ?_
        refine lv_topi (fun yn200 eyn200 => ?_)
        refine va_bast hx hb hK hP hD hS 0 3 rfl rfl (vp_in_nI (n := ((((ix - 1) - 1) - 1) - 1)) (N := cp) (show ((((ix - 1) - 1) - 1) - 1) < cp by omega) (by omega)) dJ6_getChars_ba4f3_68 (fun H locs hP hD hS => ?_)
        obtain ⟨hP, hD⟩ : PDq D A [(o1, .inl (cA 3, cp, .inl (upd fn198 (((nI ((((ix - 1) - 1) - 1) - 1))).toNatClampNeg) (vp_nar .byte yn200))))] H := ⟨hP, hD⟩
        have hn202 : sb_Fit (upd fn198 (((nI ((((ix - 1) - 1) - 1) - 1))).toNatClampNeg) (vp_nar .byte yn200)) := (sb_fitU hn199 (pk_fb _))
        generalize (upd fn198 (((nI ((((ix - 1) - 1) - 1) - 1))).toNatClampNeg) (vp_nar .byte yn200)) = fn201 at hP hD hn202
        obtain ⟨hP, hD⟩ : PDq D A [(o1, .inl (cA 3, cp, .inl fn201))] H := ⟨hP, hD⟩
        refine lv_goto (tgt := 22) hx hb dJ6_getChars_ba4f3_69 (by decide) ?_
        have hqhn203 := dg_pos w1x
        rcases Nat.lt_or_ge w1x 100 with hn203 | hn203
        · skip
          refine lv_iload_n hx hb dJ6_getChars_ba4f3_22 rfl (lv_at hl 1 rfl) ?_
          refine lv_bipush (v := (-100)) hx hb dJ6_getChars_ba4f3_23 (by decide) ?_
          refine lv_icmp_gt (tgt := 72) hx hb dJ6_getChars_ba4f3_25 (by decide) (fun c204 => ?_) (fun c9 => absurd c9 (fun h9 => h9 (ng_gt hn203)))
          refine lv_aload_n hx hb dJ6_getChars_ba4f3_72 rfl (lv_at hl 6 rfl) ?_
          refine lv_iinc (v := (nI (((((ix - 1) - 1) - 1) - 1) - 1))) (lv' := [(5, .int (nI (((((ix - 1) - 1) - 1) - 1) - 1))), (0, .int (ngI w1x)), (4, .int (nI (w0x % 100))), (3, .int (ngI w1x)), (6, .int 0), (1, .int (nI ix)), (2, .ref o1)]) hx hb dJ6_getChars_ba4f3_73 hl (k := 0) rfl (nI_dec (a := ((((ix - 1) - 1) - 1) - 1)) (b := (((((ix - 1) - 1) - 1) - 1) - 1)) (by omega)) (by decide) rfl (fun ls hl => ?_)
          refine lv_iload hx hb dJ6_getChars_ba4f3_76 (lv_at hl 0 rfl) ?_
          refine va_gets hx hb hd1 hS hown (hts (.fieldLink RJ6 83 "java/lang/Integer" "DigitOnes" "[B") (by decide +kernel)) (fun _ h9 => h9) dJ6_getChars_ba4f3_78 ?_
          refine lv_iload_n hx hb dJ6_getChars_ba4f3_81 rfl (lv_at hl 1 rfl) ?_
          refine lv_ineg hx hb dJ6_getChars_ba4f3_82 ?_
          refine lv_topi (fun yn205 eyn205 => ?_)
          obtain rfl : yn205 = (nI w1x) := eyn205.trans (ng_opp)
          refine va_tb (v := .int (f1 ((nI w1x)).toNatClampNeg)) hx hb ht1 hS (vp_in_nI (n := w1x) (N := 100) (show w1x < 100 by omega) (by decide)) rfl dJ6_getChars_ba4f3_83 ?_
          refine lv_topi (fun yn206 eyn206 => ?_)
          refine va_bast hx hb hK hP hD hS 0 3 rfl rfl (vp_in_nI (n := (((((ix - 1) - 1) - 1) - 1) - 1)) (N := cp) (show (((((ix - 1) - 1) - 1) - 1) - 1) < cp by omega) (by omega)) dJ6_getChars_ba4f3_84 (fun H locs hP hD hS => ?_)
          obtain ⟨hP, hD⟩ : PDq D A [(o1, .inl (cA 3, cp, .inl (upd fn201 (((nI (((((ix - 1) - 1) - 1) - 1) - 1))).toNatClampNeg) (vp_nar .byte yn206))))] H := ⟨hP, hD⟩
          have hn208 : sb_Fit (upd fn201 (((nI (((((ix - 1) - 1) - 1) - 1) - 1))).toNatClampNeg) (vp_nar .byte yn206)) := (sb_fitU hn202 (pk_fb _))
          generalize (upd fn201 (((nI (((((ix - 1) - 1) - 1) - 1) - 1))).toNatClampNeg) (vp_nar .byte yn206)) = fn207 at hP hD hn208
          obtain ⟨hP, hD⟩ : PDq D A [(o1, .inl (cA 3, cp, .inl fn207))] H := ⟨hP, hD⟩
          rcases Nat.lt_or_ge w1x 10 with hn209 | hn209
          · skip
            refine lv_iload_n hx hb dJ6_getChars_ba4f3_85 rfl (lv_at hl 1 rfl) ?_
            refine lv_bipush (v := (-9)) hx hb dJ6_getChars_ba4f3_86 (by decide) ?_
            refine lv_icmp_ge (tgt := 104) hx hb dJ6_getChars_ba4f3_88 (by decide) (fun c210 => ?_) (fun c9 => absurd c9 (fun h9 => h9 (ng_ge9 hn209)))
            refine lv_iload hx hb dJ6_getChars_ba4f3_104 (lv_at hl 4 rfl) ?_
            refine lv_if_eq (tgt := 118) hx hb dJ6_getChars_ba4f3_106 (by decide) (fun c211 => ?_) (fun c9 => absurd c9 (by decide))
            refine lv_iload hx hb dJ6_getChars_ba4f3_118 (lv_at hl 0 rfl) ?_
            obtain ⟨hP9, hD9⟩ := PDq.sub (ws' := [(o1, .inl (cA 3, cp, .inl fn207))]) hP hD [0] (by decide) rfl
            refine W.widen (k := 0) (n := 0) (Nat.le_of_ble_eq_true rfl) (Nat.le_of_ble_eq_true rfl) ?_
            exact (W.iret (v := (nI (((((ix - 1) - 1) - 1) - 1) - 1))) hx hb hr (fun t ht hW => ⟨⟨(nI (((((ix - 1) - 1) - 1) - 1) - 1)), (), rfl, trivial, fn207, hn208, by rw [ht]; exact hP9, hD9⟩, hS.F ht⟩) hS.2.2 dJ6_getChars_ba4f3_120)
          · skip
            have hqhn209 := dg_2 hn209 (by omega)
            refine lv_iload_n hx hb dJ6_getChars_ba4f3_85 rfl (lv_at hl 1 rfl) ?_
            refine lv_bipush (v := (-9)) hx hb dJ6_getChars_ba4f3_86 (by decide) ?_
            refine lv_icmp_ge (tgt := 104) hx hb dJ6_getChars_ba4f3_88 (by decide) (fun c9 => absurd c9 (ng_nge9 hn209 (by omega))) (fun c212 => ?_)
            refine lv_aload_n hx hb dJ6_getChars_ba4f3_91 rfl (lv_at hl 6 rfl) ?_
            refine lv_iinc (v := (nI ((((((ix - 1) - 1) - 1) - 1) - 1) - 1))) (lv' := [(5, .int (nI ((((((ix - 1) - 1) - 1) - 1) - 1) - 1))), (0, .int (ngI w1x)), (4, .int (nI (w0x % 100))), (3, .int (ngI w1x)), (6, .int 0), (1, .int (nI ix)), (2, .ref o1)]) hx hb dJ6_getChars_ba4f3_92 hl (k := 0) rfl (nI_dec (a := (((((ix - 1) - 1) - 1) - 1) - 1)) (b := ((((((ix - 1) - 1) - 1) - 1) - 1) - 1)) (by omega)) (by decide) rfl (fun ls hl => ?_)
            refine lv_iload hx hb dJ6_getChars_ba4f3_95 (lv_at hl 0 rfl) ?_
            refine va_gets hx hb hd2 hS hown (hts (.fieldLink RJ6 87 "java/lang/Integer" "DigitTens" "[B") (by decide +kernel)) (fun _ h9 => h9) dJ6_getChars_ba4f3_97 ?_
            refine lv_iload_n hx hb dJ6_getChars_ba4f3_100 rfl (lv_at hl 1 rfl) ?_
            refine lv_ineg hx hb dJ6_getChars_ba4f3_101 ?_
            refine lv_topi (fun yn213 eyn213 => ?_)
            obtain rfl : yn213 = (nI w1x) := eyn213.trans (ng_opp)
            refine va_tb (v := .int (f2 ((nI w1x)).toNatClampNeg)) hx hb ht2 hS (vp_in_nI (n := w1x) (N := 100) (show w1x < 100 by omega) (by decide)) rfl dJ6_getChars_ba4f3_102 ?_
            refine lv_topi (fun yn214 eyn214 => ?_)
            refine va_bast hx hb hK hP hD hS 0 3 rfl rfl (vp_in_nI (n := ((((((ix - 1) - 1) - 1) - 1) - 1) - 1)) (N := cp) (show ((((((ix - 1) - 1) - 1) - 1) - 1) - 1) < cp by omega) (by omega)) dJ6_getChars_ba4f3_103 (fun H locs hP hD hS => ?_)
            obtain ⟨hP, hD⟩ : PDq D A [(o1, .inl (cA 3, cp, .inl (upd fn207 (((nI ((((((ix - 1) - 1) - 1) - 1) - 1) - 1))).toNatClampNeg) (vp_nar .byte yn214))))] H := ⟨hP, hD⟩
            have hn216 : sb_Fit (upd fn207 (((nI ((((((ix - 1) - 1) - 1) - 1) - 1) - 1))).toNatClampNeg) (vp_nar .byte yn214)) := (sb_fitU hn208 (pk_fb _))
            generalize (upd fn207 (((nI ((((((ix - 1) - 1) - 1) - 1) - 1) - 1))).toNatClampNeg) (vp_nar .byte yn214)) = fn215 at hP hD hn216
            obtain ⟨hP, hD⟩ : PDq D A [(o1, .inl (cA 3, cp, .inl fn215))] H := ⟨hP, hD⟩
            refine lv_iload hx hb dJ6_getChars_ba4f3_104 (lv_at hl 4 rfl) ?_
            refine lv_if_eq (tgt := 118) hx hb dJ6_getChars_ba4f3_106 (by decide) (fun c217 => ?_) (fun c9 => absurd c9 (by decide))
            refine lv_iload hx hb dJ6_getChars_ba4f3_118 (lv_at hl 0 rfl) ?_
            obtain ⟨hP9, hD9⟩ := PDq.sub (ws' := [(o1, .inl (cA 3, cp, .inl fn215))]) hP hD [0] (by decide) rfl
            refine W.widen (k := 0) (n := 0) (Nat.le_of_ble_eq_true rfl) (Nat.le_of_ble_eq_true rfl) ?_
            exact (W.iret (v := (nI ((((((ix - 1) - 1) - 1) - 1) - 1) - 1))) hx hb hr (fun t ht hW => ⟨⟨(nI ((((((ix - 1) - 1) - 1) - 1) - 1) - 1)), (), rfl, trivial, fn215, hn216, by rw [ht]; exact hP9, hD9⟩, hS.F ht⟩) hS.2.2 dJ6_getChars_ba4f3_120)
        · skip
          refine lv_iload_n hx hb dJ6_getChars_ba4f3_22 rfl (lv_at hl 1 rfl) ?_
          refine lv_bipush (v := (-100)) hx hb dJ6_getChars_ba4f3_23 (by decide) ?_
          refine lv_icmp_gt (tgt := 72) hx hb dJ6_getChars_ba4f3_25 (by decide) (fun c9 => absurd c9 (ng_ngt hn203 (by omega))) (fun c218 => ?_)
          refine lv_iload_n hx hb dJ6_getChars_ba4f3_28 rfl (lv_at hl 1 rfl) ?_
          refine lv_bipush (v := 100) hx hb dJ6_getChars_ba4f3_29 (by decide) ?_
          obtain ⟨w2x, hw2x⟩ : ∃ x9, x9 = w1x / 100 := ⟨_, rfl⟩
          have hdw2x : dg w1x = dg w2x + 2 := by rw [hw2x]; exact dg_100 (by omega) hn203
          have hpw2x := dg_pos w2x
          refine lv_idiv hx hb dJ6_getChars_ba4f3_31 (by decide) ?_
          refine lv_topi (fun yn219 eyn219 => ?_)
          obtain rfl : yn219 = (ngI w2x) := eyn219.trans (by rw [ng_div (by omega), ← hw2x])
          refine lv_istore_n (lv' := [(3, .int (ngI w2x)), (5, .int (nI ((((ix - 1) - 1) - 1) - 1))), (0, .int (ngI w1x)), (4, .int (nI (w0x % 100))), (6, .int 0), (1, .int (nI ix)), (2, .ref o1)]) hx hb dJ6_getChars_ba4f3_32 rfl hl (by decide) rfl (fun ls hl => ?_)
          refine lv_iload_n hx hb dJ6_getChars_ba4f3_33 rfl (lv_at hl 0 rfl) ?_
          refine lv_bipush (v := 100) hx hb dJ6_getChars_ba4f3_34 (by decide) ?_
          refine lv_imul hx hb dJ6_getChars_ba4f3_36 ?_
          refine lv_topi (fun yn220 eyn220 => ?_)
          refine lv_iload_n hx hb dJ6_getChars_ba4f3_37 rfl (lv_at hl 2 rfl) ?_
          refine lv_isub hx hb dJ6_getChars_ba4f3_38 ?_
          refine lv_topi (fun yn223 eyn223 => ?_)
          obtain rfl : yn223 = (nI (w1x % 100)) := eyn223.trans (by rw [eyn220, hw2x]; exact ng_rem (by omega))
          refine lv_istore (lv' := [(4, .int (nI (w1x % 100))), (3, .int (ngI w2x)), (5, .int (nI ((((ix - 1) - 1) - 1) - 1))), (0, .int (ngI w1x)), (6, .int 0), (1, .int (nI ix)), (2, .ref o1)]) hx hb dJ6_getChars_ba4f3_39 hl (by decide) rfl (fun ls hl => ?_)
          refine lv_iload_n hx hb dJ6_getChars_ba4f3_41 rfl (lv_at hl 1 rfl) ?_
          refine lv_istore_n (lv' := [(0, .int (ngI w2x)), (4, .int (nI (w1x % 100))), (3, .int (ngI w2x)), (5, .int (nI ((((ix - 1) - 1) - 1) - 1))), (6, .int 0), (1, .int (nI ix)), (2, .ref o1)]) hx hb dJ6_getChars_ba4f3_42 rfl hl (by decide) rfl (fun ls hl => ?_)
          refine lv_aload_n hx hb dJ6_getChars_ba4f3_43 rfl (lv_at hl 6 rfl) ?_
          refine lv_iinc (v := (nI (((((ix - 1) - 1) - 1) - 1) - 1))) (lv' := [(5, .int (nI (((((ix - 1) - 1) - 1) - 1) - 1))), (0, .int (ngI w2x)), (4, .int (nI (w1x % 100))), (3, .int (ngI w2x)), (6, .int 0), (1, .int (nI ix)), (2, .ref o1)]) hx hb dJ6_getChars_ba4f3_44 hl (k := 3) rfl (nI_dec (a := ((((ix - 1) - 1) - 1) - 1)) (b := (((((ix - 1) - 1) - 1) - 1) - 1)) (by omega)) (by decide) rfl (fun ls hl => ?_)
          refine lv_iload hx hb dJ6_getChars_ba4f3_47 (lv_at hl 0 rfl) ?_
          refine va_gets hx hb hd1 hS hown (hts (.fieldLink RJ6 83 "java/lang/Integer" "DigitOnes" "[B") (by decide +kernel)) (fun _ h9 => h9) dJ6_getChars_ba4f3_49 ?_
          refine lv_iload hx hb dJ6_getChars_ba4f3_52 (lv_at hl 2 rfl) ?_
          refine va_tb (v := .int (f1 ((nI (w1x % 100))).toNatClampNeg)) hx hb ht1 hS (vp_in_nI (n := (w1x % 100)) (N := 100) (show (w1x % 100) < 100 by omega) (by decide)) rfl dJ6_getChars_ba4f3_54 ?_
          refine lv_topi (fun yn224 eyn224 => ?_)
          refine va_bast hx hb hK hP hD hS 0 3 rfl rfl (vp_in_nI (n := (((((ix - 1) - 1) - 1) - 1) - 1)) (N := cp) (show (((((ix - 1) - 1) - 1) - 1) - 1) < cp by omega) (by omega)) dJ6_getChars_ba4f3_55 (fun H locs hP hD hS => ?_)
          obtain ⟨hP, hD⟩ : PDq D A [(o1, .inl (cA 3, cp, .inl (upd fn201 (((nI (((((ix - 1) - 1) - 1) - 1) - 1))).toNatClampNeg) (vp_nar .byte yn224))))] H := ⟨hP, hD⟩
          have hn226 : sb_Fit (upd fn201 (((nI (((((ix - 1) - 1) - 1) - 1) - 1))).toNatClampNeg) (vp_nar .byte yn224)) := (sb_fitU hn202 (pk_fb _))
          generalize (upd fn201 (((nI (((((ix - 1) - 1) - 1) - 1) - 1))).toNatClampNeg) (vp_nar .byte yn224)) = fn225 at hP hD hn226
          obtain ⟨hP, hD⟩ : PDq D A [(o1, .inl (cA 3, cp, .inl fn225))] H := ⟨hP, hD⟩
          refine lv_aload_n hx hb dJ6_getChars_ba4f3_56 rfl (lv_at hl 6 rfl) ?_
          refine lv_iinc (v := (nI ((((((ix - 1) - 1) - 1) - 1) - 1) - 1))) (lv' := [(5, .int (nI ((((((ix - 1) - 1) - 1) - 1) - 1) - 1))), (0, .int (ngI w2x)), (4, .int (nI (w1x % 100))), (3, .int (ngI w2x)), (6, .int 0), (1, .int (nI ix)), (2, .ref o1)]) hx hb dJ6_getChars_ba4f3_57 hl (k := 0) rfl (nI_dec (a := (((((ix - 1) - 1) - 1) - 1) - 1)) (b := ((((((ix - 1) - 1) - 1) - 1) - 1) - 1)) (by omega)) (by decide) rfl (fun ls hl => ?_)
          refine lv_iload hx hb dJ6_getChars_ba4f3_60 (lv_at hl 0 rfl) ?_
          refine va_gets hx hb hd2 hS hown (hts (.fieldLink RJ6 87 "java/lang/Integer" "DigitTens" "[B") (by decide +kernel)) (fun _ h9 => h9) dJ6_getChars_ba4f3_62 ?_
          refine lv_iload hx hb dJ6_getChars_ba4f3_65 (lv_at hl 2 rfl) ?_
          refine va_tb (v := .int (f2 ((nI (w1x % 100))).toNatClampNeg)) hx hb ht2 hS (vp_in_nI (n := (w1x % 100)) (N := 100) (show (w1x % 100) < 100 by omega) (by decide)) rfl dJ6_getChars_ba4f3_67 ?_
          refine lv_topi (fun yn227 eyn227 => ?_)
          refine va_bast hx hb hK hP hD hS 0 3 rfl rfl (vp_in_nI (n := ((((((ix - 1) - 1) - 1) - 1) - 1) - 1)) (N := cp) (show ((((((ix - 1) - 1) - 1) - 1) - 1) - 1) < cp by omega) (by omega)) dJ6_getChars_ba4f3_68 (fun H locs hP hD hS => ?_)
          obtain ⟨hP, hD⟩ : PDq D A [(o1, .inl (cA 3, cp, .inl (upd fn225 (((nI ((((((ix - 1) - 1) - 1) - 1) - 1) - 1))).toNatClampNeg) (vp_nar .byte yn227))))] H := ⟨hP, hD⟩
          have hn229 : sb_Fit (upd fn225 (((nI ((((((ix - 1) - 1) - 1) - 1) - 1) - 1))).toNatClampNeg) (vp_nar .byte yn227)) := (sb_fitU hn226 (pk_fb _))
          generalize (upd fn225 (((nI ((((((ix - 1) - 1) - 1) - 1) - 1) - 1))).toNatClampNeg) (vp_nar .byte yn227)) = fn228 at hP hD hn229
          obtain ⟨hP, hD⟩ : PDq D A [(o1, .inl (cA 3, cp, .inl fn228))] H := ⟨hP, hD⟩
          refine lv_goto (tgt := 22) hx hb dJ6_getChars_ba4f3_69 (by decide) ?_
          have hqhn230 := dg_pos w2x
          rcases Nat.lt_or_ge w2x 100 with hn230 | hn230
          · skip
            refine lv_iload_n hx hb dJ6_getChars_ba4f3_22 rfl (lv_at hl 1 rfl) ?_
            refine lv_bipush (v := (-100)) hx hb dJ6_getChars_ba4f3_23 (by decide) ?_
            refine lv_icmp_gt (tgt := 72) hx hb dJ6_getChars_ba4f3_25 (by decide) (fun c231 => ?_) (fun c9 => absurd c9 (fun h9 => h9 (ng_gt hn230)))
            refine lv_aload_n hx hb dJ6_getChars_ba4f3_72 rfl (lv_at hl 6 rfl) ?_
            refine lv_iinc (v := (nI (((((((ix - 1) - 1) - 1) - 1) - 1) - 1) - 1))) (lv' := [(5, .int (nI (((((((ix - 1) - 1) - 1) - 1) - 1) - 1) - 1))), (0, .int (ngI w2x)), (4, .int (nI (w1x % 100))), (3, .int (ngI w2x)), (6, .int 0), (1, .int (nI ix)), (2, .ref o1)]) hx hb dJ6_getChars_ba4f3_73 hl (k := 0) rfl (nI_dec (a := ((((((ix - 1) - 1) - 1) - 1) - 1) - 1)) (b := (((((((ix - 1) - 1) - 1) - 1) - 1) - 1) - 1)) (by omega)) (by decide) rfl (fun ls hl => ?_)
            refine lv_iload hx hb dJ6_getChars_ba4f3_76 (lv_at hl 0 rfl) ?_
            refine va_gets hx hb hd1 hS hown (hts (.fieldLink RJ6 83 "java/lang/Integer" "DigitOnes" "[B") (by decide +kernel)) (fun _ h9 => h9) dJ6_getChars_ba4f3_78 ?_
            refine lv_iload_n hx hb dJ6_getChars_ba4f3_81 rfl (lv_at hl 1 rfl) ?_
            refine lv_ineg hx hb dJ6_getChars_ba4f3_82 ?_
            refine lv_topi (fun yn232 eyn232 => ?_)
            obtain rfl : yn232 = (nI w2x) := eyn232.trans (ng_opp)
            refine va_tb (v := .int (f1 ((nI w2x)).toNatClampNeg)) hx hb ht1 hS (vp_in_nI (n := w2x) (N := 100) (show w2x < 100 by omega) (by decide)) rfl dJ6_getChars_ba4f3_83 ?_
            refine lv_topi (fun yn233 eyn233 => ?_)
            refine va_bast hx hb hK hP hD hS 0 3 rfl rfl (vp_in_nI (n := (((((((ix - 1) - 1) - 1) - 1) - 1) - 1) - 1)) (N := cp) (show (((((((ix - 1) - 1) - 1) - 1) - 1) - 1) - 1) < cp by omega) (by omega)) dJ6_getChars_ba4f3_84 (fun H locs hP hD hS => ?_)
            obtain ⟨hP, hD⟩ : PDq D A [(o1, .inl (cA 3, cp, .inl (upd fn228 (((nI (((((((ix - 1) - 1) - 1) - 1) - 1) - 1) - 1))).toNatClampNeg) (vp_nar .byte yn233))))] H := ⟨hP, hD⟩
            have hn235 : sb_Fit (upd fn228 (((nI (((((((ix - 1) - 1) - 1) - 1) - 1) - 1) - 1))).toNatClampNeg) (vp_nar .byte yn233)) := (sb_fitU hn229 (pk_fb _))
            generalize (upd fn228 (((nI (((((((ix - 1) - 1) - 1) - 1) - 1) - 1) - 1))).toNatClampNeg) (vp_nar .byte yn233)) = fn234 at hP hD hn235
            obtain ⟨hP, hD⟩ : PDq D A [(o1, .inl (cA 3, cp, .inl fn234))] H := ⟨hP, hD⟩
            rcases Nat.lt_or_ge w2x 10 with hn236 | hn236
            · skip
              refine lv_iload_n hx hb dJ6_getChars_ba4f3_85 rfl (lv_at hl 1 rfl) ?_
              refine lv_bipush (v := (-9)) hx hb dJ6_getChars_ba4f3_86 (by decide) ?_
              refine lv_icmp_ge (tgt := 104) hx hb dJ6_getChars_ba4f3_88 (by decide) (fun c237 => ?_) (fun c9 => absurd c9 (fun h9 => h9 (ng_ge9 hn236)))
              refine lv_iload hx hb dJ6_getChars_ba4f3_104 (lv_at hl 4 rfl) ?_
              refine lv_if_eq (tgt := 118) hx hb dJ6_getChars_ba4f3_106 (by decide) (fun c238 => ?_) (fun c9 => absurd c9 (by decide))
              refine lv_iload hx hb dJ6_getChars_ba4f3_118 (lv_at hl 0 rfl) ?_
              obtain ⟨hP9, hD9⟩ := PDq.sub (ws' := [(o1, .inl (cA 3, cp, .inl fn234))]) hP hD [0] (by decide) rfl
              refine W.widen (k := 0) (n := 0) (Nat.le_of_ble_eq_true rfl) (Nat.le_of_ble_eq_true rfl) ?_
              exact (W.iret (v := (nI (((((((ix - 1) - 1) - 1) - 1) - 1) - 1) - 1))) hx hb hr (fun t ht hW => ⟨⟨(nI (((((((ix - 1) - 1) - 1) - 1) - 1) - 1) - 1)), (), rfl, trivial, fn234, hn235, by rw [ht]; exact hP9, hD9⟩, hS.F ht⟩) hS.2.2 dJ6_getChars_ba4f3_120)
            · skip
              have hqhn236 := dg_2 hn236 (by omega)
              refine lv_iload_n hx hb dJ6_getChars_ba4f3_85 rfl (lv_at hl 1 rfl) ?_
              refine lv_bipush (v := (-9)) hx hb dJ6_getChars_ba4f3_86 (by decide) ?_
              refine lv_icmp_ge (tgt := 104) hx hb dJ6_getChars_ba4f3_88 (by decide) (fun c9 => absurd c9 (ng_nge9 hn236 (by omega))) (fun c239 => ?_)
              refine lv_aload_n hx hb dJ6_getChars_ba4f3_91 rfl (lv_at hl 6 rfl) ?_
              refine lv_iinc (v := (nI ((((((((ix - 1) - 1) - 1) - 1) - 1) - 1) - 1) - 1))) (lv' := [(5, .int (nI ((((((((ix - 1) - 1) - 1) - 1) - 1) - 1) - 1) - 1))), (0, .int (ngI w2x)), (4, .int (nI (w1x % 100))), (3, .int (ngI w2x)), (6, .int 0), (1, .int (nI ix)), (2, .ref o1)]) hx hb dJ6_getChars_ba4f3_92 hl (k := 0) rfl (nI_dec (a := (((((((ix - 1) - 1) - 1) - 1) - 1) - 1) - 1)) (b := ((((((((ix - 1) - 1) - 1) - 1) - 1) - 1) - 1) - 1)) (by omega)) (by decide) rfl (fun ls hl => ?_)
              refine lv_iload hx hb dJ6_getChars_ba4f3_95 (lv_at hl 0 rfl) ?_
              refine va_gets hx hb hd2 hS hown (hts (.fieldLink RJ6 87 "java/lang/Integer" "DigitTens" "[B") (by decide +kernel)) (fun _ h9 => h9) dJ6_getChars_ba4f3_97 ?_
              refine lv_iload_n hx hb dJ6_getChars_ba4f3_100 rfl (lv_at hl 1 rfl) ?_
              refine lv_ineg hx hb dJ6_getChars_ba4f3_101 ?_
              refine lv_topi (fun yn240 eyn240 => ?_)
              obtain rfl : yn240 = (nI w2x) := eyn240.trans (ng_opp)
              refine va_tb (v := .int (f2 ((nI w2x)).toNatClampNeg)) hx hb ht2 hS (vp_in_nI (n := w2x) (N := 100) (show w2x < 100 by omega) (by decide)) rfl dJ6_getChars_ba4f3_102 ?_
              refine lv_topi (fun yn241 eyn241 => ?_)
              refine va_bast hx hb hK hP hD hS 0 3 rfl rfl (vp_in_nI (n := ((((((((ix - 1) - 1) - 1) - 1) - 1) - 1) - 1) - 1)) (N := cp) (show ((((((((ix - 1) - 1) - 1) - 1) - 1) - 1) - 1) - 1) < cp by omega) (by omega)) dJ6_getChars_ba4f3_103 (fun H locs hP hD hS => ?_)
              obtain ⟨hP, hD⟩ : PDq D A [(o1, .inl (cA 3, cp, .inl (upd fn234 (((nI ((((((((ix - 1) - 1) - 1) - 1) - 1) - 1) - 1) - 1))).toNatClampNeg) (vp_nar .byte yn241))))] H := ⟨hP, hD⟩
              have hn243 : sb_Fit (upd fn234 (((nI ((((((((ix - 1) - 1) - 1) - 1) - 1) - 1) - 1) - 1))).toNatClampNeg) (vp_nar .byte yn241)) := (sb_fitU hn235 (pk_fb _))
              generalize (upd fn234 (((nI ((((((((ix - 1) - 1) - 1) - 1) - 1) - 1) - 1) - 1))).toNatClampNeg) (vp_nar .byte yn241)) = fn242 at hP hD hn243
              obtain ⟨hP, hD⟩ : PDq D A [(o1, .inl (cA 3, cp, .inl fn242))] H := ⟨hP, hD⟩
              refine lv_iload hx hb dJ6_getChars_ba4f3_104 (lv_at hl 4 rfl) ?_
              refine lv_if_eq (tgt := 118) hx hb dJ6_getChars_ba4f3_106 (by decide) (fun c244 => ?_) (fun c9 => absurd c9 (by decide))
              refine lv_iload hx hb dJ6_getChars_ba4f3_118 (lv_at hl 0 rfl) ?_
              obtain ⟨hP9, hD9⟩ := PDq.sub (ws' := [(o1, .inl (cA 3, cp, .inl fn242))]) hP hD [0] (by decide) rfl
              refine W.widen (k := 0) (n := 0) (Nat.le_of_ble_eq_true rfl) (Nat.le_of_ble_eq_true rfl) ?_
              exact (W.iret (v := (nI ((((((((ix - 1) - 1) - 1) - 1) - 1) - 1) - 1) - 1))) hx hb hr (fun t ht hW => ⟨⟨(nI ((((((((ix - 1) - 1) - 1) - 1) - 1) - 1) - 1) - 1)), (), rfl, trivial, fn242, hn243, by rw [ht]; exact hP9, hD9⟩, hS.F ht⟩) hS.2.2 dJ6_getChars_ba4f3_120)
          · skip
            refine lv_iload_n hx hb dJ6_getChars_ba4f3_22 rfl (lv_at hl 1 rfl) ?_
            refine lv_bipush (v := (-100)) hx hb dJ6_getChars_ba4f3_23 (by decide) ?_
            refine lv_icmp_gt (tgt := 72) hx hb dJ6_getChars_ba4f3_25 (by decide) (fun c9 => absurd c9 (ng_ngt hn230 (by omega))) (fun c245 => ?_)
            refine lv_iload_n hx hb dJ6_getChars_ba4f3_28 rfl (lv_at hl 1 rfl) ?_
            refine lv_bipush (v := 100) hx hb dJ6_getChars_ba4f3_29 (by decide) ?_
            obtain ⟨w3x, hw3x⟩ : ∃ x9, x9 = w2x / 100 := ⟨_, rfl⟩
            have hdw3x : dg w2x = dg w3x + 2 := by rw [hw3x]; exact dg_100 (by omega) hn230
            have hpw3x := dg_pos w3x
            refine lv_idiv hx hb dJ6_getChars_ba4f3_31 (by decide) ?_
            refine lv_topi (fun yn246 eyn246 => ?_)
            obtain rfl : yn246 = (ngI w3x) := eyn246.trans (by rw [ng_div (by omega), ← hw3x])
            refine lv_istore_n (lv' := [(3, .int (ngI w3x)), (5, .int (nI ((((((ix - 1) - 1) - 1) - 1) - 1) - 1))), (0, .int (ngI w2x)), (4, .int (nI (w1x % 100))), (6, .int 0), (1, .int (nI ix)), (2, .ref o1)]) hx hb dJ6_getChars_ba4f3_32 rfl hl (by decide) rfl (fun ls hl => ?_)
            refine lv_iload_n hx hb dJ6_getChars_ba4f3_33 rfl (lv_at hl 0 rfl) ?_
            refine lv_bipush (v := 100) hx hb dJ6_getChars_ba4f3_34 (by decide) ?_
            refine lv_imul hx hb dJ6_getChars_ba4f3_36 ?_
            refine lv_topi (fun yn247 eyn247 => ?_)
            refine lv_iload_n hx hb dJ6_getChars_ba4f3_37 rfl (lv_at hl 2 rfl) ?_
            refine lv_isub hx hb dJ6_getChars_ba4f3_38 ?_
            refine lv_topi (fun yn250 eyn250 => ?_)
            obtain rfl : yn250 = (nI (w2x % 100)) := eyn250.trans (by rw [eyn247, hw3x]; exact ng_rem (by omega))
            refine lv_istore (lv' := [(4, .int (nI (w2x % 100))), (3, .int (ngI w3x)), (5, .int (nI ((((((ix - 1) - 1) - 1) - 1) - 1) - 1))), (0, .int (ngI w2x)), (6, .int 0), (1, .int (nI ix)), (2, .ref o1)]) hx hb dJ6_getChars_ba4f3_39 hl (by decide) rfl (fun ls hl => ?_)
            refine lv_iload_n hx hb dJ6_getChars_ba4f3_41 rfl (lv_at hl 1 rfl) ?_
            refine lv_istore_n (lv' := [(0, .int (ngI w3x)), (4, .int (nI (w2x % 100))), (3, .int (ngI w3x)), (5, .int (nI ((((((ix - 1) - 1) - 1) - 1) - 1) - 1))), (6, .int 0), (1, .int (nI ix)), (2, .ref o1)]) hx hb dJ6_getChars_ba4f3_42 rfl hl (by decide) rfl (fun ls hl => ?_)
            refine lv_aload_n hx hb dJ6_getChars_ba4f3_43 rfl (lv_at hl 6 rfl) ?_
            refine lv_iinc (v := (nI (((((((ix - 1) - 1) - 1) - 1) - 1) - 1) - 1))) (lv' := [(5, .int (nI (((((((ix - 1) - 1) - 1) - 1) - 1) - 1) - 1))), (0, .int (ngI w3x)), (4, .int (nI (w2x % 100))), (3, .int (ngI w3x)), (6, .int 0), (1, .int (nI ix)), (2, .ref o1)]) hx hb dJ6_getChars_ba4f3_44 hl (k := 3) rfl (nI_dec (a := ((((((ix - 1) - 1) - 1) - 1) - 1) - 1)) (b := (((((((ix - 1) - 1) - 1) - 1) - 1) - 1) - 1)) (by omega)) (by decide) rfl (fun ls hl => ?_)
            refine lv_iload hx hb dJ6_getChars_ba4f3_47 (lv_at hl 0 rfl) ?_
            refine va_gets hx hb hd1 hS hown (hts (.fieldLink RJ6 83 "java/lang/Integer" "DigitOnes" "[B") (by decide +kernel)) (fun _ h9 => h9) dJ6_getChars_ba4f3_49 ?_
            refine lv_iload hx hb dJ6_getChars_ba4f3_52 (lv_at hl 2 rfl) ?_
            refine va_tb (v := .int (f1 ((nI (w2x % 100))).toNatClampNeg)) hx hb ht1 hS (vp_in_nI (n := (w2x % 100)) (N := 100) (show (w2x % 100) < 100 by omega) (by decide)) rfl dJ6_getChars_ba4f3_54 ?_
            refine lv_topi (fun yn251 eyn251 => ?_)
            refine va_bast hx hb hK hP hD hS 0 3 rfl rfl (vp_in_nI (n := (((((((ix - 1) - 1) - 1) - 1) - 1) - 1) - 1)) (N := cp) (show (((((((ix - 1) - 1) - 1) - 1) - 1) - 1) - 1) < cp by omega) (by omega)) dJ6_getChars_ba4f3_55 (fun H locs hP hD hS => ?_)
            obtain ⟨hP, hD⟩ : PDq D A [(o1, .inl (cA 3, cp, .inl (upd fn228 (((nI (((((((ix - 1) - 1) - 1) - 1) - 1) - 1) - 1))).toNatClampNeg) (vp_nar .byte yn251))))] H := ⟨hP, hD⟩
            have hn253 : sb_Fit (upd fn228 (((nI (((((((ix - 1) - 1) - 1) - 1) - 1) - 1) - 1))).toNatClampNeg) (vp_nar .byte yn251)) := (sb_fitU hn229 (pk_fb _))
            generalize (upd fn228 (((nI (((((((ix - 1) - 1) - 1) - 1) - 1) - 1) - 1))).toNatClampNeg) (vp_nar .byte yn251)) = fn252 at hP hD hn253
            obtain ⟨hP, hD⟩ : PDq D A [(o1, .inl (cA 3, cp, .inl fn252))] H := ⟨hP, hD⟩
            refine lv_aload_n hx hb dJ6_getChars_ba4f3_56 rfl (lv_at hl 6 rfl) ?_
            refine lv_iinc (v := (nI ((((((((ix - 1) - 1) - 1) - 1) - 1) - 1) - 1) - 1))) (lv' := [(5, .int (nI ((((((((ix - 1) - 1) - 1) - 1) - 1) - 1) - 1) - 1))), (0, .int (ngI w3x)), (4, .int (nI (w2x % 100))), (3, .int (ngI w3x)), (6, .int 0), (1, .int (nI ix)), (2, .ref o1)]) hx hb dJ6_getChars_ba4f3_57 hl (k := 0) rfl (nI_dec (a := (((((((ix - 1) - 1) - 1) - 1) - 1) - 1) - 1)) (b := ((((((((ix - 1) - 1) - 1) - 1) - 1) - 1) - 1) - 1)) (by omega)) (by decide) rfl (fun ls hl => ?_)
            refine lv_iload hx hb dJ6_getChars_ba4f3_60 (lv_at hl 0 rfl) ?_
            refine va_gets hx hb hd2 hS hown (hts (.fieldLink RJ6 87 "java/lang/Integer" "DigitTens" "[B") (by decide +kernel)) (fun _ h9 => h9) dJ6_getChars_ba4f3_62 ?_
            refine lv_iload hx hb dJ6_getChars_ba4f3_65 (lv_at hl 2 rfl) ?_
            refine va_tb (v := .int (f2 ((nI (w2x % 100))).toNatClampNeg)) hx hb ht2 hS (vp_in_nI (n := (w2x % 100)) (N := 100) (show (w2x % 100) < 100 by omega) (by decide)) rfl dJ6_getChars_ba4f3_67 ?_
            refine lv_topi (fun yn254 eyn254 => ?_)
            refine va_bast hx hb hK hP hD hS 0 3 rfl rfl (vp_in_nI (n := ((((((((ix - 1) - 1) - 1) - 1) - 1) - 1) - 1) - 1)) (N := cp) (show ((((((((ix - 1) - 1) - 1) - 1) - 1) - 1) - 1) - 1) < cp by omega) (by omega)) dJ6_getChars_ba4f3_68 (fun H locs hP hD hS => ?_)
            obtain ⟨hP, hD⟩ : PDq D A [(o1, .inl (cA 3, cp, .inl (upd fn252 (((nI ((((((((ix - 1) - 1) - 1) - 1) - 1) - 1) - 1) - 1))).toNatClampNeg) (vp_nar .byte yn254))))] H := ⟨hP, hD⟩
            have hn256 : sb_Fit (upd fn252 (((nI ((((((((ix - 1) - 1) - 1) - 1) - 1) - 1) - 1) - 1))).toNatClampNeg) (vp_nar .byte yn254)) := (sb_fitU hn253 (pk_fb _))
            generalize (upd fn252 (((nI ((((((((ix - 1) - 1) - 1) - 1) - 1) - 1) - 1) - 1))).toNatClampNeg) (vp_nar .byte yn254)) = fn255 at hP hD hn256
            obtain ⟨hP, hD⟩ : PDq D A [(o1, .inl (cA 3, cp, .inl fn255))] H := ⟨hP, hD⟩
            refine lv_goto (tgt := 22) hx hb dJ6_getChars_ba4f3_69 (by decide) ?_
            have hqhn257 := dg_pos w3x
            have hn257 : w3x < 100 := by omega
            refine lv_iload_n hx hb dJ6_getChars_ba4f3_22 rfl (lv_at hl 1 rfl) ?_
            refine lv_bipush (v := (-100)) hx hb dJ6_getChars_ba4f3_23 (by decide) ?_
            refine lv_icmp_gt (tgt := 72) hx hb dJ6_getChars_ba4f3_25 (by decide) (fun c258 => ?_) (fun c9 => absurd c9 (fun h9 => h9 (ng_gt hn257)))
            refine lv_aload_n hx hb dJ6_getChars_ba4f3_72 rfl (lv_at hl 6 rfl) ?_
            refine lv_iinc (v := (nI (((((((((ix - 1) - 1) - 1) - 1) - 1) - 1) - 1) - 1) - 1))) (lv' := [(5, .int (nI (((((((((ix - 1) - 1) - 1) - 1) - 1) - 1) - 1) - 1) - 1))), (0, .int (ngI w3x)), (4, .int (nI (w2x % 100))), (3, .int (ngI w3x)), (6, .int 0), (1, .int (nI ix)), (2, .ref o1)]) hx hb dJ6_getChars_ba4f3_73 hl (k := 0) rfl (nI_dec (a := ((((((((ix - 1) - 1) - 1) - 1) - 1) - 1) - 1) - 1)) (b := (((((((((ix - 1) - 1) - 1) - 1) - 1) - 1) - 1) - 1) - 1)) (by omega)) (by decide) rfl (fun ls hl => ?_)
            refine lv_iload hx hb dJ6_getChars_ba4f3_76 (lv_at hl 0 rfl) ?_
            refine va_gets hx hb hd1 hS hown (hts (.fieldLink RJ6 83 "java/lang/Integer" "DigitOnes" "[B") (by decide +kernel)) (fun _ h9 => h9) dJ6_getChars_ba4f3_78 ?_
            refine lv_iload_n hx hb dJ6_getChars_ba4f3_81 rfl (lv_at hl 1 rfl) ?_
            refine lv_ineg hx hb dJ6_getChars_ba4f3_82 ?_
            refine lv_topi (fun yn259 eyn259 => ?_)
            obtain rfl : yn259 = (nI w3x) := eyn259.trans (ng_opp)
            refine va_tb (v := .int (f1 ((nI w3x)).toNatClampNeg)) hx hb ht1 hS (vp_in_nI (n := w3x) (N := 100) (show w3x < 100 by omega) (by decide)) rfl dJ6_getChars_ba4f3_83 ?_
            refine lv_topi (fun yn260 eyn260 => ?_)
            refine va_bast hx hb hK hP hD hS 0 3 rfl rfl (vp_in_nI (n := (((((((((ix - 1) - 1) - 1) - 1) - 1) - 1) - 1) - 1) - 1)) (N := cp) (show (((((((((ix - 1) - 1) - 1) - 1) - 1) - 1) - 1) - 1) - 1) < cp by omega) (by omega)) dJ6_getChars_ba4f3_84 (fun H locs hP hD hS => ?_)
            obtain ⟨hP, hD⟩ : PDq D A [(o1, .inl (cA 3, cp, .inl (upd fn255 (((nI (((((((((ix - 1) - 1) - 1) - 1) - 1) - 1) - 1) - 1) - 1))).toNatClampNeg) (vp_nar .byte yn260))))] H := ⟨hP, hD⟩
            have hn262 : sb_Fit (upd fn255 (((nI (((((((((ix - 1) - 1) - 1) - 1) - 1) - 1) - 1) - 1) - 1))).toNatClampNeg) (vp_nar .byte yn260)) := (sb_fitU hn256 (pk_fb _))
            generalize (upd fn255 (((nI (((((((((ix - 1) - 1) - 1) - 1) - 1) - 1) - 1) - 1) - 1))).toNatClampNeg) (vp_nar .byte yn260)) = fn261 at hP hD hn262
            obtain ⟨hP, hD⟩ : PDq D A [(o1, .inl (cA 3, cp, .inl fn261))] H := ⟨hP, hD⟩
            rcases Nat.lt_or_ge w3x 10 with hn263 | hn263
            · skip
              refine lv_iload_n hx hb dJ6_getChars_ba4f3_85 rfl (lv_at hl 1 rfl) ?_
              refine lv_bipush (v := (-9)) hx hb dJ6_getChars_ba4f3_86 (by decide) ?_
              refine lv_icmp_ge (tgt := 104) hx hb dJ6_getChars_ba4f3_88 (by decide) (fun c264 => ?_) (fun c9 => absurd c9 (fun h9 => h9 (ng_ge9 hn263)))
              refine lv_iload hx hb dJ6_getChars_ba4f3_104 (lv_at hl 4 rfl) ?_
              refine lv_if_eq (tgt := 118) hx hb dJ6_getChars_ba4f3_106 (by decide) (fun c265 => ?_) (fun c9 => absurd c9 (by decide))
              refine lv_iload hx hb dJ6_getChars_ba4f3_118 (lv_at hl 0 rfl) ?_
              obtain ⟨hP9, hD9⟩ := PDq.sub (ws' := [(o1, .inl (cA 3, cp, .inl fn261))]) hP hD [0] (by decide) rfl
              refine W.widen (k := 0) (n := 0) (Nat.le_of_ble_eq_true rfl) (Nat.le_of_ble_eq_true rfl) ?_
              exact (W.iret (v := (nI (((((((((ix - 1) - 1) - 1) - 1) - 1) - 1) - 1) - 1) - 1))) hx hb hr (fun t ht hW => ⟨⟨(nI (((((((((ix - 1) - 1) - 1) - 1) - 1) - 1) - 1) - 1) - 1)), (), rfl, trivial, fn261, hn262, by rw [ht]; exact hP9, hD9⟩, hS.F ht⟩) hS.2.2 dJ6_getChars_ba4f3_120)
            · skip
              have hqhn263 := dg_2 hn263 (by omega)
              refine lv_iload_n hx hb dJ6_getChars_ba4f3_85 rfl (lv_at hl 1 rfl) ?_
              refine lv_bipush (v := (-9)) hx hb dJ6_getChars_ba4f3_86 (by decide) ?_
              refine lv_icmp_ge (tgt := 104) hx hb dJ6_getChars_ba4f3_88 (by decide) (fun c9 => absurd c9 (ng_nge9 hn263 (by omega))) (fun c266 => ?_)
              refine lv_aload_n hx hb dJ6_getChars_ba4f3_91 rfl (lv_at hl 6 rfl) ?_
              refine lv_iinc (v := (nI ((((((((((ix - 1) - 1) - 1) - 1) - 1) - 1) - 1) - 1) - 1) - 1))) (lv' := [(5, .int (nI ((((((((((ix - 1) - 1) - 1) - 1) - 1) - 1) - 1) - 1) - 1) - 1))), (0, .int (ngI w3x)), (4, .int (nI (w2x % 100))), (3, .int (ngI w3x)), (6, .int 0), (1, .int (nI ix)), (2, .ref o1)]) hx hb dJ6_getChars_ba4f3_92 hl (k := 0) rfl (nI_dec (a := (((((((((ix - 1) - 1) - 1) - 1) - 1) - 1) - 1) - 1) - 1)) (b := ((((((((((ix - 1) - 1) - 1) - 1) - 1) - 1) - 1) - 1) - 1) - 1)) (by omega)) (by decide) rfl (fun ls hl => ?_)
              refine lv_iload hx hb dJ6_getChars_ba4f3_95 (lv_at hl 0 rfl) ?_
              refine va_gets hx hb hd2 hS hown (hts (.fieldLink RJ6 87 "java/lang/Integer" "DigitTens" "[B") (by decide +kernel)) (fun _ h9 => h9) dJ6_getChars_ba4f3_97 ?_
              refine lv_iload_n hx hb dJ6_getChars_ba4f3_100 rfl (lv_at hl 1 rfl) ?_
              refine lv_ineg hx hb dJ6_getChars_ba4f3_101 ?_
              refine lv_topi (fun yn267 eyn267 => ?_)
              obtain rfl : yn267 = (nI w3x) := eyn267.trans (ng_opp)
              refine va_tb (v := .int (f2 ((nI w3x)).toNatClampNeg)) hx hb ht2 hS (vp_in_nI (n := w3x) (N := 100) (show w3x < 100 by omega) (by decide)) rfl dJ6_getChars_ba4f3_102 ?_
              refine lv_topi (fun yn268 eyn268 => ?_)
              refine va_bast hx hb hK hP hD hS 0 3 rfl rfl (vp_in_nI (n := ((((((((((ix - 1) - 1) - 1) - 1) - 1) - 1) - 1) - 1) - 1) - 1)) (N := cp) (show ((((((((((ix - 1) - 1) - 1) - 1) - 1) - 1) - 1) - 1) - 1) - 1) < cp by omega) (by omega)) dJ6_getChars_ba4f3_103 (fun H locs hP hD hS => ?_)
              obtain ⟨hP, hD⟩ : PDq D A [(o1, .inl (cA 3, cp, .inl (upd fn261 (((nI ((((((((((ix - 1) - 1) - 1) - 1) - 1) - 1) - 1) - 1) - 1) - 1))).toNatClampNeg) (vp_nar .byte yn268))))] H := ⟨hP, hD⟩
              have hn270 : sb_Fit (upd fn261 (((nI ((((((((((ix - 1) - 1) - 1) - 1) - 1) - 1) - 1) - 1) - 1) - 1))).toNatClampNeg) (vp_nar .byte yn268)) := (sb_fitU hn262 (pk_fb _))
              generalize (upd fn261 (((nI ((((((((((ix - 1) - 1) - 1) - 1) - 1) - 1) - 1) - 1) - 1) - 1))).toNatClampNeg) (vp_nar .byte yn268)) = fn269 at hP hD hn270
              obtain ⟨hP, hD⟩ : PDq D A [(o1, .inl (cA 3, cp, .inl fn269))] H := ⟨hP, hD⟩
              refine lv_iload hx hb dJ6_getChars_ba4f3_104 (lv_at hl 4 rfl) ?_
              refine lv_if_eq (tgt := 118) hx hb dJ6_getChars_ba4f3_106 (by decide) (fun c271 => ?_) (fun c9 => absurd c9 (by decide))
              refine lv_iload hx hb dJ6_getChars_ba4f3_118 (lv_at hl 0 rfl) ?_
              obtain ⟨hP9, hD9⟩ := PDq.sub (ws' := [(o1, .inl (cA 3, cp, .inl fn269))]) hP hD [0] (by decide) rfl
              refine W.widen (k := 0) (n := 0) (Nat.le_of_ble_eq_true rfl) (Nat.le_of_ble_eq_true rfl) ?_
              exact (W.iret (v := (nI ((((((((((ix - 1) - 1) - 1) - 1) - 1) - 1) - 1) - 1) - 1) - 1))) hx hb hr (fun t ht hW => ⟨⟨(nI ((((((((((ix - 1) - 1) - 1) - 1) - 1) - 1) - 1) - 1) - 1) - 1)), (), rfl, trivial, fn269, hn270, by rw [ht]; exact hP9, hD9⟩, hS.F ht⟩) hS.2.2 dJ6_getChars_ba4f3_120)

set_option maxHeartbeats 4000000 in
set_option maxRecDepth 100000 in
/-- append(int) -/
theorem j_appendI5 (l : Launch) (D : va_G) (cA : Nat → ClassId) (sa : Nat → Nat) (o0 : Nat) (o1 : Nat) (ct : Nat) (cp : Nat) (mb : Int32) (fy : Nat → Int32) (a : Int32) (sz : Nat) (hct : ct ≤ cp) (hcp : cp ≤ 126) (hfit : sb_Fit fy) (hc1 : ct + 11 ≤ 62) : Met l yJ5_append_c97b9 wsJ5_append_c97b9 ({ frames := 4, cells := 1, slots := 260, locals := 104 }) (va_Pc [.ref o0, .int a] (Wd2 D cA sa [(oJ4 o0 o1 0 mb (nI ct)), (o1, .inl (cA 3, cp, .inl fy))] sz)) (va_Qr (fun _ : Unit => True) (fun (_ : Unit) (a9 : Nat) t => a9 = o0 ∧ ∃ z1 : Nat, ∃ cp2 : Nat, ∃ zy : Nat → Int32, ∃ ct2 : Nat, ct2 ≤ ct + 11 ∧ ct2 ≤ cp2 ∧ cp2 ≤ 126 ∧ sb_Fit zy ∧ Wq D (va_A [(oJ4 o0 o1 0 mb (nI ct)), (o1, .inl (cA 3, cp, .inl fy))] sz) [(oJ4 o0 z1 0 mb (nI ct2)), (z1, .inl (cA 3, cp2, .inl zy))] t) (va_A [(oJ4 o0 o1 0 mb (nI ct)), (o1, .inl (cA 3, cp, .inl fy))] sz)) 1 260 (va_A [(oJ4 o0 o1 0 mb (nI ct)), (o1, .inl (cA 3, cp, .inl fy))] sz) := by
  refine Met.ofW (cc := cJ5_append_c97b9) (maxL := 4) (ret := (some (.object "java/lang/AbstractStringBuilder"))) (by decide) rfl ?_
  intro p e s m args below meth c s₁ B hml hv
  obtain ⟨rfl, ⟨hsz, hP, hK, hD0, hC, hZ⟩, hG⟩ := hv
  have hx := B.exec
  have hb := B.bytes
  have hr := B.returns
  have hts := atoms_spec (ws := wsJ5_append_c97b9) B.pre
  have hown : s.vm.findClass RJ5 = some m.cls := findClass_of_methodNamed B.named
  have hlocks := B.notSynchronized
  subst hsz
  have hD := hD0.self (sz := s.heap.size)
  generalize hAe : va_A [(oJ4 o0 o1 0 mb (nI ct)), (o1, .inl (cA 3, cp, .inl fy))] s.heap.size = A at hD hZ hG ⊢
  have hA : ∀ q : Nat, s.heap.size ≤ q → A q := fun q h => by rw [← hAe]; exact Or.inr h
  have hS : va_S A s.heap s.heap [] := va_S.rf
  have hP : va_P D vwCl [(oJ4 o0 o1 0 mb (nI ct)), (o1, .inl (cA 3, cp, .inl fy))] s.heap := hP
  have hl := lv_entry ([.ref o0, .int a]) (n := 4) (Nat.le_of_ble_eq_true rfl)
  rw [lg_entry_eq]
  generalize (lg_sl ([.ref o0, .int a]) ++ List.replicate (4 - (lg_sl ([.ref o0, .int a])).length) Slot.unset).toArray = ls at hl ⊢
  have hl : lv_has ls 4 [(0, .ref o0), (1, .int a)] := hl
  have inJ4 : ∀ w ∈ u_ws RJ4 TJ4 4, w ∈ wsJ5_append_c97b9 := by decide +kernel
  refine lv_aload_n hx hb dJ5_append_c97b9_0 rfl (lv_at hl 0 rfl) ?_
  refine va_get (D := D) (ci := 1) (v := .int (nI ct)) (C := RJ4) (T := TJ4) (N := 4) hx hb hts inJ4 hown hK hP 0 rfl rfl 3 (by decide) (hts (.fieldLink RJ5 79 "java/lang/AbstractStringBuilder" "count" "I") (by decide +kernel)) (fun _ h9 => h9) rfl dJ5_append_c97b9_1 ?_
  refine lv_istore_n (lv' := [(2, .int (nI ct)), (0, .ref o0), (1, .int a)]) hx hb dJ5_append_c97b9_4 rfl hl (by decide) rfl (fun ls hl => ?_)
  refine lv_iload_n hx hb dJ5_append_c97b9_5 rfl (lv_at hl 0 rfl) ?_
  refine lv_iload_n hx hb dJ5_append_c97b9_6 rfl (lv_at hl 2 rfl) ?_
  obtain ⟨hPc, hDc, hFc⟩ := PDq.cut (wc := []) hP hD hS hA [] (by decide) rfl
  refine va_calli (va_runS (As := [.int a]) (rest := [.int (nI ct)]) ⟨hx, hb, hml, hown, hts⟩ (j_stringSize l D cA sa a s.heap.size) (va_cwS 1 hts gJ5_append_c97b9_J6_stringSize_0f7a4 rfl rfl rfl (by decide +kernel) ⟨(Nat.le_of_ble_eq_true rfl), (Nat.le_of_ble_eq_true rfl)⟩) ⟨Wd.blind, fun U hU hW => ⟨rfl, Wd.call hPc hDc hK hC hZ hS hFc U hU hW⟩⟩ rfl rfl hl.1 rfl (lv_room (Nat.le_of_ble_eq_true rfl)) dJ5_append_c97b9_7 ⟨(Nat.le_of_ble_eq_true rfl), (Nat.le_of_ble_eq_true rfl)⟩) hS (fun q _ h => hFc q h) hFc (fun rn1 u t H1 locs ht hvm hw hB hz1 hk1 hS => ?_)
  obtain ⟨hP1, hD1⟩ := hB
  rw [ht] at hP1
  obtain ⟨hP, hD⟩ := PDq.join (w := [(oJ4 o0 o1 0 mb (nI ct)), (o1, .inl (cA 3, cp, .inl fy))]) 2 hP hD [] [0, 1] rfl rfl (by decide) (by decide) hk1 hFc hP1 hD1 rfl
  generalize H1 = H at hP hS ⊢
  obtain ⟨kn2, hn3, hr9, hn4⟩ := hw
  subst hr9
  refine lv_iadd hx hb dJ5_append_c97b9_10 ?_
  refine lv_topi (fun yn5 eyn5 => ?_)
  obtain rfl : yn5 = (nI (ct + kn2)) := eyn5.trans (nI_add ct kn2)
  refine lv_istore_n (lv' := [(3, .int (nI (ct + kn2))), (2, .int (nI ct)), (0, .ref o0), (1, .int a)]) hx hb dJ5_append_c97b9_11 rfl hl (by decide) rfl (fun ls hl => ?_)
  refine lv_aload_n hx hb dJ5_append_c97b9_12 rfl (lv_at hl 2 rfl) ?_
  refine lv_iload_n hx hb dJ5_append_c97b9_13 rfl (lv_at hl 0 rfl) ?_
  obtain ⟨hPc, hDc, hFc⟩ := PDq.cut (wc := [(oJ4 o0 o1 0 mb (nI ct)), (o1, .inl (cA 3, cp, .inl fy))]) hP hD hS hA [0, 1] (by decide) rfl
  refine va_callv (va_runU (As := [.int (nI (ct + kn2))]) (rest := []) ⟨hx, hb, hml, hown, hts⟩ (j_ensure l D cA sa o0 o1 ct cp mb fy (ct + kn2) H.size hct hcp hfit (by omega)) (va_cwU 1 hts gJ5_append_c97b9_J5_ensureCapacityInternal_d00df_u100J4 rfl rfl rfl rfl (by decide +kernel) ⟨(Nat.le_of_ble_eq_true rfl), (Nat.le_of_ble_eq_true rfl)⟩) ⟨Wd.blind, va_recv hK hPc (ci := 1) (q0 := 0) rfl rfl, fun U hU hW => ⟨rfl, Wd.call hPc hDc hK hC hZ hS hFc U hU hW⟩⟩ rfl rfl hl.1 rfl (lv_room (Nat.le_of_ble_eq_true rfl)) dJ5_append_c97b9_14 ⟨(Nat.le_of_ble_eq_true rfl), (Nat.le_of_ble_eq_true rfl)⟩) hS (fun q _ h => hFc q h) hFc (fun u t H1 locs ht hvm hw hB hz1 hk1 hS => ?_)
  obtain ⟨qn6, qn7, fn8, hn9, hn10, hn11, hn12, hP1, hD1⟩ := hB
  rw [ht] at hP1
  obtain ⟨hP, hD⟩ := PDq.join (w := [(oJ4 o0 qn6 0 mb (nI ct)), (qn6, .inl (cA 3, qn7, .inl fn8))]) 0 hP hD [0, 1] [] rfl rfl (by decide) (by decide) hk1 hFc hP1 hD1 rfl
  generalize H1 = H at hP hS ⊢
  refine lv_aload_n hx hb dJ5_append_c97b9_17 rfl (lv_at hl 2 rfl) ?_
  obtain ⟨hPc, hDc, hFc⟩ := PDq.cut (wc := [(oJ4 o0 qn6 0 mb (nI ct))]) hP hD hS hA [0] (by decide) rfl
  refine va_calli (va_runU (As := []) (rest := []) ⟨hx, hb, hml, hown, hts⟩ (j_isLatin1 l D cA sa o0 qn6 ct mb H.size) (va_cwU 0 hts gJ5_append_c97b9_J5_isLatin1_aae02_u83J4 rfl rfl rfl rfl (by decide +kernel) ⟨(Nat.le_of_ble_eq_true rfl), (Nat.le_of_ble_eq_true rfl)⟩) ⟨Wd.blind, va_recv hK hPc (ci := 1) (q0 := 0) rfl rfl, fun U hU hW => ⟨rfl, Wd.call hPc hDc hK hC hZ hS hFc U hU hW⟩⟩ rfl rfl hl.1 rfl (lv_room (Nat.le_of_ble_eq_true rfl)) dJ5_append_c97b9_18 ⟨(Nat.le_of_ble_eq_true rfl), (Nat.le_of_ble_eq_true rfl)⟩) hS (fun q _ h => hFc q h) hFc (fun rn13 u t H1 locs ht hvm hw hB hz1 hk1 hS => ?_)
  obtain ⟨hP1, hD1⟩ := hB
  rw [ht] at hP1
  obtain ⟨hP, hD⟩ := PDq.join (w := [(qn6, .inl (cA 3, qn7, .inl fn8)), (oJ4 o0 qn6 0 mb (nI ct))]) 1 hP hD [0] [1] rfl rfl (by decide) (by decide) hk1 hFc hP1 hD1 rfl
  generalize H1 = H at hP hS ⊢
  obtain rfl : rn13 = 1 := hw
  refine lv_if_eq (tgt := 37) hx hb dJ5_append_c97b9_21 (by decide) (fun c9 => absurd c9 (by decide)) (fun c14 => ?_)
  refine lv_iload_n hx hb dJ5_append_c97b9_24 rfl (lv_at hl 3 rfl) ?_
  refine lv_iload_n hx hb dJ5_append_c97b9_25 rfl (lv_at hl 0 rfl) ?_
  refine lv_aload_n hx hb dJ5_append_c97b9_26 rfl (lv_at hl 2 rfl) ?_
  refine va_get (D := D) (ci := 1) (v := .ref qn6) (C := RJ4) (T := TJ4) (N := 4) hx hb hts inJ4 hown hK hP 1 rfl rfl 0 (by decide) (hts (.fieldLink RJ5 15 "java/lang/AbstractStringBuilder" "value" "[B") (by decide +kernel)) (fun _ h9 => h9) rfl dJ5_append_c97b9_27 ?_
  obtain ⟨hPc, hDc, hFc⟩ := PDq.cut (wc := [(qn6, .inl (cA 3, qn7, .inl fn8))]) hP hD hS hA [0] (by decide) rfl
  refine va_calli (va_runS (As := [.int a, .int (nI (ct + kn2)), .ref qn6]) (rest := []) ⟨hx, hb, hml, hown, hts⟩ (j_getChars l D cA sa qn6 qn7 fn8 a (ct + kn2) kn2 ct H.size hn11 hn12 hn4 (by omega) hn9) (va_cwS 3 hts gJ5_append_c97b9_J6_getChars_ba4f3 rfl rfl rfl (by decide +kernel) ⟨(Nat.le_of_ble_eq_true rfl), (Nat.le_of_ble_eq_true rfl)⟩) ⟨Wd2.blind, fun U hU hW => ⟨rfl, Wd2.call (Wd.call hPc hDc hK hC hZ hS hFc U hU hW) hG hS hFc hU hW⟩⟩ rfl rfl hl.1 rfl (lv_room (Nat.le_of_ble_eq_true rfl)) dJ5_append_c97b9_30 ⟨(Nat.le_of_ble_eq_true rfl), (Nat.le_of_ble_eq_true rfl)⟩) hS (fun q _ h => hFc q h) hFc (fun rn15 u t H1 locs ht hvm hw hB hz1 hk1 hS => ?_)
  obtain ⟨fn16, hn17, hP1, hD1⟩ := hB
  rw [ht] at hP1
  obtain ⟨hP, hD⟩ := PDq.join (w := [(oJ4 o0 qn6 0 mb (nI ct)), (qn6, .inl (cA 3, qn7, .inl fn16))]) 1 hP hD [0] [1] rfl rfl (by decide) (by decide) hk1 hFc hP1 hD1 rfl
  generalize H1 = H at hP hS ⊢
  refine lv_pop hx hb dJ5_append_c97b9_33 rfl ?_
  refine lv_goto (tgt := 48) hx hb dJ5_append_c97b9_34 (by decide) ?_
  refine lv_aload_n hx hb dJ5_append_c97b9_48 rfl (lv_at hl 2 rfl) ?_
  refine lv_iload_n hx hb dJ5_append_c97b9_49 rfl (lv_at hl 0 rfl) ?_
  refine va_put (D := D) (ci := 1) (v := .int (nI (ct + kn2))) (ty := .int) (C := RJ4) (T := TJ4) (N := 4) hx hb hts inJ4 tyJ4 tyJ4_ok nmJ4 hown hK hP hD hS 0 rfl rfl 3 (by decide) (hts (.fieldLink RJ5 79 "java/lang/AbstractStringBuilder" "count" "I") (by decide +kernel)) (fun _ h9 => h9) rfl (by decide +kernel) rfl rfl (Nat.le_of_ble_eq_true rfl) dJ5_append_c97b9_50 (fun H locs hP hD hS => ?_)
  obtain ⟨hP, hD⟩ : PDq D A [(oJ4 o0 qn6 0 mb (nI (ct + kn2))), (qn6, .inl (cA 3, qn7, .inl fn16))] H := ⟨hP, hD⟩
  refine lv_aload_n hx hb dJ5_append_c97b9_53 rfl (lv_at hl 2 rfl) ?_
  obtain ⟨hP9, hD9⟩ := PDq.sub (ws' := [(oJ4 o0 qn6 0 mb (nI (ct + kn2))), (qn6, .inl (cA 3, qn7, .inl fn16))]) hP hD [0, 1] (by decide) rfl
  refine W.widen (k := 1) (n := 260) (Nat.le_of_ble_eq_true rfl) (Nat.le_of_ble_eq_true rfl) ?_
  exact (W.aret (v := .ref o0) hx hb hr (Or.inl ⟨_, rfl⟩) (Or.inr ⟨_, rfl⟩) (fun t ht hW => ⟨⟨(), o0, rfl, trivial, rfl, qn6, qn7, fn16, (ct + kn2), (by omega), hn9, hn11, hn17, by rw [ht]; exact hP9, hD9⟩, hS.F ht⟩) hS.2.2 dJ5_append_c97b9_54)

set_option maxHeartbeats 4000000 in
set_option maxRecDepth 100000 in
/-- append(int) -/
theorem j_appendI (l : Launch) (D : va_G) (cA : Nat → ClassId) (sa : Nat → Nat) (o0 : Nat) (o1 : Nat) (ct : Nat) (cp : Nat) (mb : Int32) (fy : Nat → Int32) (a : Int32) (sz : Nat) (hct : ct ≤ cp) (hcp : cp ≤ 126) (hfit : sb_Fit fy) (hc1 : ct + 11 ≤ 62) : Met l yJ4_append_bf812 wsJ4_append_bf812 ({ frames := 5, cells := 1, slots := 260, locals := 127 }) (va_Pc [.ref o0, .int a] (Wd2 D cA sa [(oJ4 o0 o1 0 mb (nI ct)), (o1, .inl (cA 3, cp, .inl fy))] sz)) (va_Qr (fun _ : Unit => True) (fun (_ : Unit) (a9 : Nat) t => a9 = o0 ∧ ∃ z1 : Nat, ∃ cp2 : Nat, ∃ zy : Nat → Int32, ∃ ct2 : Nat, ct2 ≤ ct + 11 ∧ ct2 ≤ cp2 ∧ cp2 ≤ 126 ∧ sb_Fit zy ∧ Wq D (va_A [(oJ4 o0 o1 0 mb (nI ct)), (o1, .inl (cA 3, cp, .inl fy))] sz) [(oJ4 o0 z1 0 mb (nI ct2)), (z1, .inl (cA 3, cp2, .inl zy))] t) (va_A [(oJ4 o0 o1 0 mb (nI ct)), (o1, .inl (cA 3, cp, .inl fy))] sz)) 1 260 (va_A [(oJ4 o0 o1 0 mb (nI ct)), (o1, .inl (cA 3, cp, .inl fy))] sz) := by
  refine Met.ofW (cc := cJ4_append_bf812) (maxL := 2) (ret := (some (.object "java/lang/StringBuilder"))) (by decide) rfl ?_
  intro p e s m args below meth c s₁ B hml hv
  obtain ⟨rfl, ⟨hsz, hP, hK, hD0, hC, hZ⟩, hG⟩ := hv
  have hx := B.exec
  have hb := B.bytes
  have hr := B.returns
  have hts := atoms_spec (ws := wsJ4_append_bf812) B.pre
  have hown : s.vm.findClass RJ4 = some m.cls := findClass_of_methodNamed B.named
  have hlocks := B.notSynchronized
  subst hsz
  have hD := hD0.self (sz := s.heap.size)
  generalize hAe : va_A [(oJ4 o0 o1 0 mb (nI ct)), (o1, .inl (cA 3, cp, .inl fy))] s.heap.size = A at hD hZ hG ⊢
  have hA : ∀ q : Nat, s.heap.size ≤ q → A q := fun q h => by rw [← hAe]; exact Or.inr h
  have hS : va_S A s.heap s.heap [] := va_S.rf
  have hP : va_P D vwCl [(oJ4 o0 o1 0 mb (nI ct)), (o1, .inl (cA 3, cp, .inl fy))] s.heap := hP
  have hl := lv_entry ([.ref o0, .int a]) (n := 2) (Nat.le_of_ble_eq_true rfl)
  rw [lg_entry_eq]
  generalize (lg_sl ([.ref o0, .int a]) ++ List.replicate (2 - (lg_sl ([.ref o0, .int a])).length) Slot.unset).toArray = ls at hl ⊢
  have hl : lv_has ls 2 [(0, .ref o0), (1, .int a)] := hl
  refine lv_aload_n hx hb dJ4_append_bf812_0 rfl (lv_at hl 0 rfl) ?_
  refine lv_iload_n hx hb dJ4_append_bf812_1 rfl (lv_at hl 1 rfl) ?_
  obtain ⟨hPc, hDc, hFc⟩ := PDq.cut (wc := [(oJ4 o0 o1 0 mb (nI ct)), (o1, .inl (cA 3, cp, .inl fy))]) hP hD hS hA [0, 1] (by decide) rfl
  refine va_callr (va_runSU (As := [.int a]) (rest := []) (hK.1 1 _ rfl).2 ⟨hx, hb, hml, hown, hts⟩ (j_appendI5 l D cA sa o0 o1 ct cp mb fy a s.heap.size hct hcp hfit hc1) (va_cwSU 1 hts gJ4_append_bf812_J5_append_c97b9_s53 rfl rfl rfl (by decide +kernel) ⟨(Nat.le_of_ble_eq_true rfl), (Nat.le_of_ble_eq_true rfl)⟩) ⟨Wd2.blind, va_recv hK hPc (ci := 1) (q0 := 0) rfl rfl, fun U hU hW => ⟨rfl, Wd2.call (Wd.call hPc hDc hK hC hZ hS hFc U hU hW) hG hS hFc hU hW⟩⟩ rfl rfl hl.1 rfl (lv_room (Nat.le_of_ble_eq_true rfl)) dJ4_append_bf812_2 ⟨(Nat.le_of_ble_eq_true rfl), (Nat.le_of_ble_eq_true rfl)⟩) hS (fun q _ h => hFc q h) hFc (fun u ra t H1 locs ht hvm hw hB hz1 hk1 hS => ?_)
  obtain ⟨hra, qn1, qn2, fn3, qn4, hn5, hn6, hn7, hn8, hP1, hD1⟩ := hB
  obtain rfl := hra.symm
  rw [ht] at hP1
  obtain ⟨hP, hD⟩ := PDq.join (w := [(oJ4 o0 qn1 0 mb (nI qn4)), (qn1, .inl (cA 3, qn2, .inl fn3))]) 0 hP hD [0, 1] [] rfl rfl (by decide) (by decide) hk1 hFc hP1 hD1 rfl
  generalize H1 = H at hP hS ⊢
  refine lv_pop hx hb dJ4_append_bf812_5 rfl ?_
  refine lv_aload_n hx hb dJ4_append_bf812_6 rfl (lv_at hl 0 rfl) ?_
  obtain ⟨hP9, hD9⟩ := PDq.sub (ws' := [(oJ4 o0 qn1 0 mb (nI qn4)), (qn1, .inl (cA 3, qn2, .inl fn3))]) hP hD [0, 1] (by decide) rfl
  refine W.widen (k := 1) (n := 260) (Nat.le_of_ble_eq_true rfl) (Nat.le_of_ble_eq_true rfl) ?_
  exact (W.aret (v := .ref o0) hx hb hr (Or.inl ⟨_, rfl⟩) (Or.inr ⟨_, rfl⟩) (fun t ht hW => ⟨⟨(), o0, rfl, trivial, rfl, qn1, qn2, fn3, qn4, hn5, hn6, hn7, hn8, by rw [ht]; exact hP9, hD9⟩, hS.F ht⟩) hS.2.2 dJ4_append_bf812_7)

set_option maxHeartbeats 4000000 in
set_option maxRecDepth 100000 in
/-- charAt -/
theorem j_charAt5 (l : Launch) (D : va_G) (cA : Nat → ClassId) (sa : Nat → Nat) (o0 : Nat) (o1 : Nat) (ct : Nat) (cp : Nat) (mb : Int32) (fy : Nat → Int32) (ix : Nat) (sz : Nat) (hct : ct ≤ cp) (hcp : cp ≤ 126) (hfit : sb_Fit fy) (hix : ix < ct) : Met l yJ5_charAt_5068e wsJ5_charAt_5068e ({ frames := 2, cells := 0, slots := 0, locals := 43 }) (va_Pc [.ref o0, .int (nI ix)] (Wd D cA sa [(oJ4 o0 o1 0 mb (nI ct)), (o1, .inl (cA 3, cp, .inl fy))] sz)) (va_Qi (fun (r : Int32) (_ : Unit) => NC r) (fun (_ : Unit) t => Wq D (va_A [(oJ4 o0 o1 0 mb (nI ct)), (o1, .inl (cA 3, cp, .inl fy))] sz) [(oJ4 o0 o1 0 mb (nI ct)), (o1, .inl (cA 3, cp, .inl fy))] t) (va_A [(oJ4 o0 o1 0 mb (nI ct)), (o1, .inl (cA 3, cp, .inl fy))] sz)) 0 0 (va_A [(oJ4 o0 o1 0 mb (nI ct)), (o1, .inl (cA 3, cp, .inl fy))] sz) := by
  refine Met.ofW (cc := cJ5_charAt_5068e) (maxL := 5) (ret := (some .char)) (by decide) rfl ?_
  intro p e s m args below meth c s₁ B hml hv
  obtain ⟨rfl, hsz, hP, hK, hD0, hC, hZ⟩ := hv
  have hx := B.exec
  have hb := B.bytes
  have hr := B.returns
  have hts := atoms_spec (ws := wsJ5_charAt_5068e) B.pre
  have hown : s.vm.findClass RJ5 = some m.cls := findClass_of_methodNamed B.named
  have hlocks := B.notSynchronized
  subst hsz
  have hD := hD0.self (sz := s.heap.size)
  generalize hAe : va_A [(oJ4 o0 o1 0 mb (nI ct)), (o1, .inl (cA 3, cp, .inl fy))] s.heap.size = A at hD hZ ⊢
  have hA : ∀ q : Nat, s.heap.size ≤ q → A q := fun q h => by rw [← hAe]; exact Or.inr h
  have hS : va_S A s.heap s.heap [] := va_S.rf
  have hP : va_P D vwCl [(oJ4 o0 o1 0 mb (nI ct)), (o1, .inl (cA 3, cp, .inl fy))] s.heap := hP
  have hl := lv_entry ([.ref o0, .int (nI ix)]) (n := 5) (Nat.le_of_ble_eq_true rfl)
  rw [lg_entry_eq]
  generalize (lg_sl ([.ref o0, .int (nI ix)]) ++ List.replicate (5 - (lg_sl ([.ref o0, .int (nI ix)])).length) Slot.unset).toArray = ls at hl ⊢
  have hl : lv_has ls 5 [(0, .ref o0), (1, .int (nI ix))] := hl
  have inJ4 : ∀ w ∈ u_ws RJ4 TJ4 4, w ∈ wsJ5_charAt_5068e := by decide +kernel
  refine lv_aload_n hx hb dJ5_charAt_5068e_0 rfl (lv_at hl 0 rfl) ?_
  refine va_get (D := D) (ci := 1) (v := .int 0) (C := RJ4) (T := TJ4) (N := 4) hx hb hts inJ4 hown hK hP 0 rfl rfl 1 (by decide) (hts (.fieldLink RJ5 22 "java/lang/AbstractStringBuilder" "coder" "B") (by decide +kernel)) (fun _ h9 => h9) rfl dJ5_charAt_5068e_1 ?_
  refine lv_istore_n (lv' := [(2, .int 0), (0, .ref o0), (1, .int (nI ix))]) hx hb dJ5_charAt_5068e_4 rfl hl (by decide) rfl (fun ls hl => ?_)
  refine lv_aload_n hx hb dJ5_charAt_5068e_5 rfl (lv_at hl 1 rfl) ?_
  refine va_get (D := D) (ci := 1) (v := .ref o1) (C := RJ4) (T := TJ4) (N := 4) hx hb hts inJ4 hown hK hP 0 rfl rfl 0 (by decide) (hts (.fieldLink RJ5 15 "java/lang/AbstractStringBuilder" "value" "[B") (by decide +kernel)) (fun _ h9 => h9) rfl dJ5_charAt_5068e_6 ?_
  refine lv_astore_n (lv' := [(3, .ref o1), (2, .int 0), (0, .ref o0), (1, .int (nI ix))]) hx hb dJ5_charAt_5068e_9 rfl hl (by decide) rfl (fun ls hl => ?_)
  refine lv_aload_n hx hb dJ5_charAt_5068e_10 rfl (lv_at hl 2 rfl) ?_
  refine va_get (D := D) (ci := 1) (v := .int (nI ct)) (C := RJ4) (T := TJ4) (N := 4) hx hb hts inJ4 hown hK hP 0 rfl rfl 3 (by decide) (hts (.fieldLink RJ5 79 "java/lang/AbstractStringBuilder" "count" "I") (by decide +kernel)) (fun _ h9 => h9) rfl dJ5_charAt_5068e_11 ?_
  refine lv_aload_n hx hb dJ5_charAt_5068e_14 rfl (lv_at hl 0 rfl) ?_
  refine va_alen (v := (nI cp)) hx hb hK hP 1 3 rfl rfl rfl dJ5_charAt_5068e_15 ?_
  refine lv_iload_n hx hb dJ5_charAt_5068e_16 rfl (lv_at hl 1 rfl) ?_
  refine lv_ishr hx hb dJ5_charAt_5068e_17 ?_
  refine lv_topi (fun yn1 eyn1 => ?_)
  obtain rfl : yn1 = (nI cp) := eyn1.trans (sb_shr0 _)
  refine va_mmin hx hb (by rw [hml]; exact hl.1.symm) hown (hts (.methodLink RJ5 138 Lib.Math.min.name) (by decide +kernel)) (hts (.static Lib.Math.min.name) (by decide +kernel)) (hts (.initialized "java/lang/Math") (by decide +kernel)) (hts (.code Lib.Math.min.name Lib.Math.min.code 2 (some .int)) (by decide +kernel)) (Nat.le_of_ble_eq_true rfl) (Nat.le_of_ble_eq_true rfl) (Nat.le_of_ble_eq_true rfl) (Nat.le_of_ble_eq_true rfl) dJ5_charAt_5068e_18 ?_
  refine lv_topi (fun yn2 eyn2 => ?_)
  obtain rfl : yn2 = (nI (min ct cp)) := eyn2.trans (nI_min (a := ct) (b := cp) (by omega) (by omega))
  refine lv_istore (lv' := [(4, .int (nI (min ct cp))), (3, .ref o1), (2, .int 0), (0, .ref o0), (1, .int (nI ix))]) hx hb dJ5_charAt_5068e_21 hl (by decide) rfl (fun ls hl => ?_)
  refine lv_iload_n hx hb dJ5_charAt_5068e_23 rfl (lv_at hl 4 rfl) ?_
  refine lv_iload hx hb dJ5_charAt_5068e_24 (lv_at hl 0 rfl) ?_
  obtain ⟨hPc, hDc, hFc⟩ := PDq.cut (wc := []) hP hD hS hA [] (by decide) rfl
  refine va_callv (va_runS (As := [.int (nI ix), .int (nI (min ct cp))]) (rest := []) ⟨hx, hb, hml, hown, hts⟩ (c_schk l D cA sa ix (min ct cp) s.heap.size (by omega) (by omega)) (va_cwS 2 hts gJ5_charAt_5068e_J0_checkIndex_df160 rfl rfl rfl (by decide +kernel) ⟨(Nat.le_of_ble_eq_true rfl), (Nat.le_of_ble_eq_true rfl)⟩) ⟨Wd.blind, fun U hU hW => ⟨rfl, Wd.call hPc hDc hK hC hZ hS hFc U hU hW⟩⟩ rfl rfl hl.1 rfl (lv_room (Nat.le_of_ble_eq_true rfl)) dJ5_charAt_5068e_26 ⟨(Nat.le_of_ble_eq_true rfl), (Nat.le_of_ble_eq_true rfl)⟩) hS (fun q _ h => hFc q h) hFc (fun u t H1 locs ht hvm hw hB hz1 hk1 hS => ?_)
  obtain ⟨hP1, hD1⟩ := hB
  rw [ht] at hP1
  obtain ⟨hP, hD⟩ := PDq.join (w := [(oJ4 o0 o1 0 mb (nI ct)), (o1, .inl (cA 3, cp, .inl fy))]) 2 hP hD [] [0, 1] rfl rfl (by decide) (by decide) hk1 hFc hP1 hD1 rfl
  generalize H1 = H at hP hS ⊢
  refine lv_iload_n hx hb dJ5_charAt_5068e_29 rfl (lv_at hl 2 rfl) ?_
  refine lv_if_ne (tgt := 42) hx hb dJ5_charAt_5068e_30 (by decide) (fun c9 => absurd c9 (by decide)) (fun c3 => ?_)
  refine lv_aload_n hx hb dJ5_charAt_5068e_33 rfl (lv_at hl 1 rfl) ?_
  refine lv_iload_n hx hb dJ5_charAt_5068e_34 rfl (lv_at hl 4 rfl) ?_
  refine va_bald hx hb hK hP 1 3 rfl rfl (vp_in_nI (n := ix) (N := cp) (show ix < cp by omega) (by omega)) dJ5_charAt_5068e_35 ?_
  refine lv_topi (fun yn4 eyn4 => ?_)
  refine lv_sipush (v := 255) hx hb dJ5_charAt_5068e_36 (by decide) ?_
  refine lv_iand hx hb dJ5_charAt_5068e_39 ?_
  refine lv_topi (fun yn5 eyn5 => ?_)
  refine lv_i2c hx hb dJ5_charAt_5068e_40 rfl ?_
  refine lv_topi (fun yn6 eyn6 => ?_)
  obtain ⟨hP9, hD9⟩ := PDq.sub (ws' := [(oJ4 o0 o1 0 mb (nI ct)), (o1, .inl (cA 3, cp, .inl fy))]) hP hD [0, 1] (by decide) rfl
  refine W.widen (k := 0) (n := 0) (Nat.le_of_ble_eq_true rfl) (Nat.le_of_ble_eq_true rfl) ?_
  exact (W.zret (v := yn6) hx hb hr (nar_i2c eyn6) (fun t ht hW => ⟨⟨yn6, (), rfl, (nar_i2c eyn6), by rw [ht]; exact hP9, hD9⟩, hS.F ht⟩) hS.2.2 dJ5_charAt_5068e_41)

