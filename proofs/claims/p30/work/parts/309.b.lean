set_option maxHeartbeats 4000000 in
set_option maxRecDepth 100000 in
/-- reference: numberTo -/
theorem y_numberTo3 (l : Launch) (D : va_G) (cA : Nat → ClassId) (sa : Nat → Nat) (w0 : Nat) (ed : Nat) (nb : Nat) (ol : Nat) (v0 : Nat) (v1 : Nat) (v2 : Nat) (v3 : Nat) (v4 : Nat) (v9 : Nat) (v13 : Nat) (v27 : Nat) (v28 : Nat) (v29 : Nat) (v30 : Nat) (v31 : Nat) (v32 : Nat) (v33 : Nat) (v34 : Nat) (v35 : Nat) (v36 : Nat) (v37 : Nat) (g8 : Int32) (g11 : Int32) (g12 : Int32) (g19 : Int32) (g20 : Int32) (g21 : Int32) (g22 : Int32) (g23 : Int32) (g26 : Int32) (g5 : Int64) (g6 : Int64) (g25 : Int64) (ln : Nat) (cd : Nat) (tk : Int32) (kw : Int32) (ti : Nat) (ct : Nat) (fb : Nat → Int32) (fkw : Nat → Int64) (gP : Nat → Nat) (gR : Nat → Nat) (gS : Nat → Int32) (gK : Nat → Int32) (gV : Nat → Int64) (cn : Nat) (pq : Nat) (en : Nat) (dy : Nat) (fp : Nat → Int32) (lo : Nat) (hi : Nat) (sz : Nat) (hln : ln ≤ 700) (hct : ct ≤ 701) (hti : ti < ct) (hTX : TX fb ln ct gP gR gS gV gK) (hBY : BYn ln fb) (hTK : TKR (gK ti) (gV ti) (fb (gP ti)) tk kw g19 g25) (hKW : KW 15 fkw) (hhi : hi < 2147483648) (hlo : lo ≤ hi) (hcn : cn ≤ 10) (hpq : pq ≤ 8) (hen : en ≤ 60) (hdy : dy ≤ 20000) (hri : RI cn pq en dy fp) : Met l yX10_numberTo wsX10_numberTo ({ frames := 3, cells := 0, slots := 0, locals := 66 }) (va_Pc [.ref w0, .int 3, .int (nI lo), .int (nI hi)] (Wd D cA sa [(oX10 w0 v0 v1 v2 v3 v4 g5 g6 (nI ed) g8 v9 (nI nb) g11 g12 v13 (nI ln) (nI (gP ti)) (nI (gR (ti + 1))) tk kw g19 g20 g21 g22 g23 (nI cd) g25 g26 v27 v28 v29 v30 v31 v32 v33 v34 v35 v36 v37 (nI ol)), (v9, .inl (cA 0, 700, .inl fb)), (v13, .inl (cA 1, 15, .inr (.inl fkw))), (v1, .inl (cA 0, 326, .inl fp))] sz)) (va_Qi (fun (r : Int32) (u9 : Int32) => u9 = r ∧ (r = 0 ∨ r = 1)) (fun (u9 : Int32) t => ∃ tj : Nat, ∃ z17 : Int32, ∃ z18 : Int32, ∃ z19 : Int32, ∃ z20 : Int32, ∃ z21 : Int32, ∃ z26 : Int32, ∃ z25 : Int64, ∃ zp : Nat → Int32, tj < ct ∧ gP tj ≤ ln ∧ ti ≤ tj ∧ TKR (gK tj) (gV tj) (fb (gP tj)) z17 z18 z19 z25 ∧ RI cn pq en dy zp ∧ (u9 = 1 → tj = ti + 1) ∧ (u9 = 1 → z20 = g20) ∧ (u9 = 1 → z21 = g21) ∧ (u9 = 1 → gP ti + 1 ≤ gP tj) ∧ (u9 = 1 → nmE (lN lo) (lN hi) (gK ti) (gV ti) = none) ∧ (u9 = 0 → NmF lo hi (gK ti) (gV ti) z20) ∧ (u9 = 0 → z21 = gS ti) ∧ Wq D (va_A [(oX10 w0 v0 v1 v2 v3 v4 g5 g6 (nI ed) g8 v9 (nI nb) g11 g12 v13 (nI ln) (nI (gP ti)) (nI (gR (ti + 1))) tk kw g19 g20 g21 g22 g23 (nI cd) g25 g26 v27 v28 v29 v30 v31 v32 v33 v34 v35 v36 v37 (nI ol)), (v9, .inl (cA 0, 700, .inl fb)), (v13, .inl (cA 1, 15, .inr (.inl fkw))), (v1, .inl (cA 0, 326, .inl fp))] sz) [(oX10 w0 v0 v1 v2 v3 v4 g5 g6 (nI ed) g8 v9 (nI nb) g11 g12 v13 (nI ln) (nI (gP tj)) (nI (gR (tj + 1))) z17 z18 z19 z20 z21 g22 g23 (nI cd) z25 z26 v27 v28 v29 v30 v31 v32 v33 v34 v35 v36 v37 (nI ol)), (v9, .inl (cA 0, 700, .inl fb)), (v13, .inl (cA 1, 15, .inr (.inl fkw))), (v1, .inl (cA 0, 326, .inl zp))] t) (va_A [(oX10 w0 v0 v1 v2 v3 v4 g5 g6 (nI ed) g8 v9 (nI nb) g11 g12 v13 (nI ln) (nI (gP ti)) (nI (gR (ti + 1))) tk kw g19 g20 g21 g22 g23 (nI cd) g25 g26 v27 v28 v29 v30 v31 v32 v33 v34 v35 v36 v37 (nI ol)), (v9, .inl (cA 0, 700, .inl fb)), (v13, .inl (cA 1, 15, .inr (.inl fkw))), (v1, .inl (cA 0, 326, .inl fp))] sz)) 0 0 (va_A [(oX10 w0 v0 v1 v2 v3 v4 g5 g6 (nI ed) g8 v9 (nI nb) g11 g12 v13 (nI ln) (nI (gP ti)) (nI (gR (ti + 1))) tk kw g19 g20 g21 g22 g23 (nI cd) g25 g26 v27 v28 v29 v30 v31 v32 v33 v34 v35 v36 v37 (nI ol)), (v9, .inl (cA 0, 700, .inl fb)), (v13, .inl (cA 1, 15, .inr (.inl fkw))), (v1, .inl (cA 0, 326, .inl fp))] sz) := by
  refine Met.ofW (cc := cX10_numberTo) (maxL := 4) (ret := (some .boolean)) (by decide) rfl ?_
  intro p e s m args below meth c s₁ B hml hv
  obtain ⟨rfl, hsz, hP, hK, hD0, hC, hZ⟩ := hv
  have hx := B.exec
  have hb := B.bytes
  have hr := B.returns
  have hts := atoms_spec (ws := wsX10_numberTo) B.pre
  have hown : s.vm.findClass RX10 = some m.cls := findClass_of_methodNamed B.named
  have hlocks := B.notSynchronized
  subst hsz
  have hD := hD0.self (sz := s.heap.size)
  generalize hAe : va_A [(oX10 w0 v0 v1 v2 v3 v4 g5 g6 (nI ed) g8 v9 (nI nb) g11 g12 v13 (nI ln) (nI (gP ti)) (nI (gR (ti + 1))) tk kw g19 g20 g21 g22 g23 (nI cd) g25 g26 v27 v28 v29 v30 v31 v32 v33 v34 v35 v36 v37 (nI ol)), (v9, .inl (cA 0, 700, .inl fb)), (v13, .inl (cA 1, 15, .inr (.inl fkw))), (v1, .inl (cA 0, 326, .inl fp))] s.heap.size = A at hD hZ ⊢
  have hA : ∀ q : Nat, s.heap.size ≤ q → A q := fun q h => by rw [← hAe]; exact Or.inr h
  have hS : va_S A s.heap s.heap [] := va_S.rf
  have hP : va_P D vwCl [(oX10 w0 v0 v1 v2 v3 v4 g5 g6 (nI ed) g8 v9 (nI nb) g11 g12 v13 (nI ln) (nI (gP ti)) (nI (gR (ti + 1))) tk kw g19 g20 g21 g22 g23 (nI cd) g25 g26 v27 v28 v29 v30 v31 v32 v33 v34 v35 v36 v37 (nI ol)), (v9, .inl (cA 0, 700, .inl fb)), (v13, .inl (cA 1, 15, .inr (.inl fkw))), (v1, .inl (cA 0, 326, .inl fp))] s.heap := hP
  have hl := lv_entry ([.ref w0, .int 3, .int (nI lo), .int (nI hi)]) (n := 4) (Nat.le_of_ble_eq_true rfl)
  rw [lg_entry_eq]
  generalize (lg_sl ([.ref w0, .int 3, .int (nI lo), .int (nI hi)]) ++ List.replicate (4 - (lg_sl ([.ref w0, .int 3, .int (nI lo), .int (nI hi)])).length) Slot.unset).toArray = ls at hl ⊢
  have hl : lv_has ls 4 [(0, .ref w0), (1, .int 3), (2, .int (nI lo)), (3, .int (nI hi))] := hl
  have inX10 : ∀ w ∈ u_ws RX10 TX10 39, w ∈ wsX10_numberTo := by decide +kernel
  have hle9 := TX.le hTX hti
  refine lv_aload_n hx hb dX10_numberTo_0 rfl (lv_at hl 0 rfl) ?_
  refine lv_iload_n hx hb dX10_numberTo_1 rfl (lv_at hl 2 rfl) ?_
  refine lv_iload_n hx hb dX10_numberTo_2 rfl (lv_at hl 3 rfl) ?_
  obtain ⟨hPc, hDc, hFc⟩ := PDq.cut (wc := [(oX10 w0 v0 v1 v2 v3 v4 g5 g6 (nI ed) g8 v9 (nI nb) g11 g12 v13 (nI ln) (nI (gP ti)) (nI (gR (ti + 1))) tk kw g19 g20 g21 g22 g23 (nI cd) g25 g26 v27 v28 v29 v30 v31 v32 v33 v34 v35 v36 v37 (nI ol)), (v9, .inl (cA 0, 700, .inl fb)), (v13, .inl (cA 1, 15, .inr (.inl fkw)))]) hP hD hS hA [0, 1, 2] (by decide) rfl
  refine va_calli (va_runV (As := [.int (nI lo), .int (nI hi)]) (rest := []) ⟨hx, hb, hml, hown, hts⟩ (y_number l D cA sa w0 ed nb ol v0 v1 v2 v3 v4 v9 v13 v27 v28 v29 v30 v31 v32 v33 v34 v35 v36 v37 g8 g11 g12 g19 g20 g21 g22 g23 g26 g5 g6 g25 ln cd tk kw ti ct fb fkw gP gR gS gK gV lo hi s.heap.size hln hct hti hTX hBY hTK hKW hhi hlo) (cwV 2 hts gX10_numberTo_X10_number rfl rfl rfl (by decide +kernel) ⟨(Nat.le_of_ble_eq_true rfl), (Nat.le_of_ble_eq_true rfl)⟩) ⟨Wd.blind, va_recv hK hPc (ci := 11) (q0 := 0) rfl rfl, fun U hU hW => ⟨rfl, Wd.call hPc hDc hK hC hZ hS hFc U hU hW⟩⟩ rfl rfl hl.1 rfl (lv_room (Nat.le_of_ble_eq_true rfl)) dX10_numberTo_3 ⟨(Nat.le_of_ble_eq_true rfl), (Nat.le_of_ble_eq_true rfl)⟩) hS (fun q _ h => hFc q h) hFc (fun rn1 u t H1 locs ht hvm hw hB hz1 hk1 hS => ?_)
  obtain ⟨qn2, zn3, zn4, zn5, zn6, zn7, zn8, zn9, hn10, hn11, hn12, hn13, hn14, hn15, hn16, hn17, hn18, hn19, hn20, hn21, hP1, hD1⟩ := hB
  rw [ht] at hP1
  obtain ⟨hP, hD⟩ := PDq.join (w := [(v1, .inl (cA 0, 326, .inl fp)), (oX10 w0 v0 v1 v2 v3 v4 g5 g6 (nI ed) g8 v9 (nI nb) g11 g12 v13 (nI ln) (nI (gP qn2)) (nI (gR (qn2 + 1))) zn3 zn4 zn5 zn6 zn7 g22 g23 (nI cd) zn9 zn8 v27 v28 v29 v30 v31 v32 v33 v34 v35 v36 v37 (nI ol)), (v9, .inl (cA 0, 700, .inl fb)), (v13, .inl (cA 1, 15, .inr (.inl fkw)))]) 1 hP hD [0, 1, 2] [3] rfl rfl (by decide) (by decide) hk1 hFc hP1 hD1 rfl
  generalize H1 = H at hP hS ⊢
  rcases hw.2 with hr9 | hr9
  · skip
    have hn20 := hn20 (hw.1.trans hr9)
    have hn21 := hn21 (hw.1.trans hr9)
    subst hr9
    refine lv_if_ne (tgt := 11) hx hb dX10_numberTo_6 (by decide) (fun c9 => absurd c9 (by decide)) (fun c22 => ?_)
    refine lv_iconst (v := 0) hx hb dX10_numberTo_9 (by decide) ?_
    obtain ⟨hP9, hD9⟩ := PDq.sub (ws' := [(oX10 w0 v0 v1 v2 v3 v4 g5 g6 (nI ed) g8 v9 (nI nb) g11 g12 v13 (nI ln) (nI (gP qn2)) (nI (gR (qn2 + 1))) zn3 zn4 zn5 zn6 zn7 g22 g23 (nI cd) zn9 zn8 v27 v28 v29 v30 v31 v32 v33 v34 v35 v36 v37 (nI ol)), (v9, .inl (cA 0, 700, .inl fb)), (v13, .inl (cA 1, 15, .inr (.inl fkw))), (v1, .inl (cA 0, 326, .inl fp))]) hP hD [1, 2, 3, 0] (by decide) rfl
    refine W.widen (k := 0) (n := 0) (Nat.le_of_ble_eq_true rfl) (Nat.le_of_ble_eq_true rfl) ?_
    exact (W.zret (v := 0) hx hb hr (by first | rfl | decide) (fun t ht hW => ⟨⟨0, 0, rfl, ⟨rfl, by decide⟩, qn2, zn3, zn4, zn5, zn6, zn7, zn8, zn9, fp, hn10, hn11, hn12, hn13, hri, (fun h9 => absurd h9 (by decide)), (fun h9 => absurd h9 (by decide)), (fun h9 => absurd h9 (by decide)), (fun h9 => absurd h9 (by decide)), (fun h9 => absurd h9 (by decide)), (fun _ => hn20), (fun _ => hn21), by rw [ht]; exact hP9, hD9⟩, hS.F ht⟩) hS.2.2 dX10_numberTo_10)
  · skip
    have hn14 := hn14 (hw.1.trans hr9)
    subst hn14
    obtain ⟨hP, hD⟩ : PDq D A [(v1, .inl (cA 0, 326, .inl fp)), (oX10 w0 v0 v1 v2 v3 v4 g5 g6 (nI ed) g8 v9 (nI nb) g11 g12 v13 (nI ln) (nI (gP (ti + 1))) (nI (gR ((ti + 1) + 1))) zn3 zn4 zn5 zn6 zn7 g22 g23 (nI cd) zn9 zn8 v27 v28 v29 v30 v31 v32 v33 v34 v35 v36 v37 (nI ol)), (v9, .inl (cA 0, 700, .inl fb)), (v13, .inl (cA 1, 15, .inr (.inl fkw)))] H := ⟨hP, hD⟩
    have hn15 := hn15 (hw.1.trans hr9)
    obtain rfl : g20 = zn6 := hn15.symm
    obtain ⟨hP, hD⟩ : PDq D A [(v1, .inl (cA 0, 326, .inl fp)), (oX10 w0 v0 v1 v2 v3 v4 g5 g6 (nI ed) g8 v9 (nI nb) g11 g12 v13 (nI ln) (nI (gP (ti + 1))) (nI (gR ((ti + 1) + 1))) zn3 zn4 zn5 g20 zn7 g22 g23 (nI cd) zn9 zn8 v27 v28 v29 v30 v31 v32 v33 v34 v35 v36 v37 (nI ol)), (v9, .inl (cA 0, 700, .inl fb)), (v13, .inl (cA 1, 15, .inr (.inl fkw)))] H := ⟨hP, hD⟩
    have hn16 := hn16 (hw.1.trans hr9)
    obtain rfl : g21 = zn7 := hn16.symm
    obtain ⟨hP, hD⟩ : PDq D A [(v1, .inl (cA 0, 326, .inl fp)), (oX10 w0 v0 v1 v2 v3 v4 g5 g6 (nI ed) g8 v9 (nI nb) g11 g12 v13 (nI ln) (nI (gP (ti + 1))) (nI (gR ((ti + 1) + 1))) zn3 zn4 zn5 g20 g21 g22 g23 (nI cd) zn9 zn8 v27 v28 v29 v30 v31 v32 v33 v34 v35 v36 v37 (nI ol)), (v9, .inl (cA 0, 700, .inl fb)), (v13, .inl (cA 1, 15, .inr (.inl fkw)))] H := ⟨hP, hD⟩
    have hn17 := hn17 (hw.1.trans hr9)
    have hn18 := hn18 (hw.1.trans hr9)
    have hn19 := hn19 (hw.1.trans hr9)
    obtain ⟨kn23, hn24, hn25, hn9⟩ := hn19
    subst hn9
    obtain ⟨hP, hD⟩ : PDq D A [(v1, .inl (cA 0, 326, .inl fp)), (oX10 w0 v0 v1 v2 v3 v4 g5 g6 (nI ed) g8 v9 (nI nb) g11 g12 v13 (nI ln) (nI (gP (ti + 1))) (nI (gR ((ti + 1) + 1))) zn3 zn4 zn5 g20 g21 g22 g23 (nI cd) zn9 (nI kn23) v27 v28 v29 v30 v31 v32 v33 v34 v35 v36 v37 (nI ol)), (v9, .inl (cA 0, 700, .inl fb)), (v13, .inl (cA 1, 15, .inr (.inl fkw)))] H := ⟨hP, hD⟩
    subst hr9
    refine lv_if_ne (tgt := 11) hx hb dX10_numberTo_6 (by decide) (fun c26 => ?_) (fun c9 => absurd c9 (by decide))
    refine lv_aload_n hx hb dX10_numberTo_11 rfl (lv_at hl 0 rfl) ?_
    refine va_get (D := D) (ci := 11) (v := .ref v1) (C := RX10) (T := TX10) (N := 39) hx hb hts inX10 hown hK hP 1 rfl rfl 1 (by decide) (hts (.fieldLink RX10 13 "EscrowDeskModel" "parsed" "[I") (by decide +kernel)) (fun _ h9 => h9) rfl dX10_numberTo_12 ?_
    refine lv_iload_n hx hb dX10_numberTo_15 rfl (lv_at hl 1 rfl) ?_
    refine lv_aload_n hx hb dX10_numberTo_16 rfl (lv_at hl 0 rfl) ?_
    refine va_get (D := D) (ci := 11) (v := .int (nI kn23)) (C := RX10) (T := TX10) (N := 39) hx hb hts inX10 hown hK hP 1 rfl rfl 26 (by decide) (hts (.fieldLink RX10 156 "EscrowDeskModel" "numberRead" "I") (by decide +kernel)) (fun _ h9 => h9) rfl dX10_numberTo_17 ?_
    refine va_iast hx hb hK hP hD hS 0 0 rfl rfl (vp_in_iff.mpr (by decide)) dX10_numberTo_20 (fun H locs hP hD hS => ?_)
    obtain ⟨hP, hD⟩ : PDq D A [(v1, .inl (cA 0, 326, .inl (upd fp 3 (nI kn23)))), (oX10 w0 v0 v1 v2 v3 v4 g5 g6 (nI ed) g8 v9 (nI nb) g11 g12 v13 (nI ln) (nI (gP (ti + 1))) (nI (gR ((ti + 1) + 1))) zn3 zn4 zn5 g20 g21 g22 g23 (nI cd) zn9 (nI kn23) v27 v28 v29 v30 v31 v32 v33 v34 v35 v36 v37 (nI ol)), (v9, .inl (cA 0, 700, .inl fb)), (v13, .inl (cA 1, 15, .inr (.inl fkw)))] H := ⟨hP, hD⟩
    have hn28 : RI cn pq en dy (upd fp 3 (nI kn23)) := RI.put hri 3 (nI kn23) (by decide) (by decide) (by decide) (by decide) (by decide)
    generalize (upd fp 3 (nI kn23)) = fn27 at hP hD hn28
    obtain ⟨hP, hD⟩ : PDq D A [(v1, .inl (cA 0, 326, .inl fn27)), (oX10 w0 v0 v1 v2 v3 v4 g5 g6 (nI ed) g8 v9 (nI nb) g11 g12 v13 (nI ln) (nI (gP (ti + 1))) (nI (gR ((ti + 1) + 1))) zn3 zn4 zn5 g20 g21 g22 g23 (nI cd) zn9 (nI kn23) v27 v28 v29 v30 v31 v32 v33 v34 v35 v36 v37 (nI ol)), (v9, .inl (cA 0, 700, .inl fb)), (v13, .inl (cA 1, 15, .inr (.inl fkw)))] H := ⟨hP, hD⟩
    refine lv_iconst (v := 1) hx hb dX10_numberTo_21 (by decide) ?_
    obtain ⟨hP9, hD9⟩ := PDq.sub (ws' := [(oX10 w0 v0 v1 v2 v3 v4 g5 g6 (nI ed) g8 v9 (nI nb) g11 g12 v13 (nI ln) (nI (gP (ti + 1))) (nI (gR ((ti + 1) + 1))) zn3 zn4 zn5 g20 g21 g22 g23 (nI cd) zn9 (nI kn23) v27 v28 v29 v30 v31 v32 v33 v34 v35 v36 v37 (nI ol)), (v9, .inl (cA 0, 700, .inl fb)), (v13, .inl (cA 1, 15, .inr (.inl fkw))), (v1, .inl (cA 0, 326, .inl fn27))]) hP hD [1, 2, 3, 0] (by decide) rfl
    refine W.widen (k := 0) (n := 0) (Nat.le_of_ble_eq_true rfl) (Nat.le_of_ble_eq_true rfl) ?_
    exact (W.zret (v := 1) hx hb hr (by first | rfl | decide) (fun t ht hW => ⟨⟨1, 1, rfl, ⟨rfl, by decide⟩, (ti + 1), zn3, zn4, zn5, g20, g21, (nI kn23), zn9, fn27, hn10, hn11, hn12, hn13, hn28, (fun _ => rfl), (fun _ => rfl), (fun _ => rfl), (fun _ => hn17), (fun _ => hn18), (fun h9 => absurd h9 (by decide)), (fun h9 => absurd h9 (by decide)), by rw [ht]; exact hP9, hD9⟩, hS.F ht⟩) hS.2.2 dX10_numberTo_22)

set_option maxHeartbeats 4000000 in
set_option maxRecDepth 100000 in
/-- reference: numberTo -/
theorem y_numberToM (l : Launch) (D : va_G) (cA : Nat → ClassId) (sa : Nat → Nat) (w0 : Nat) (ed : Nat) (nb : Nat) (ol : Nat) (v0 : Nat) (v1 : Nat) (v2 : Nat) (v3 : Nat) (v4 : Nat) (v9 : Nat) (v13 : Nat) (v27 : Nat) (v28 : Nat) (v29 : Nat) (v30 : Nat) (v31 : Nat) (v32 : Nat) (v33 : Nat) (v34 : Nat) (v35 : Nat) (v36 : Nat) (v37 : Nat) (g8 : Int32) (g11 : Int32) (g12 : Int32) (g19 : Int32) (g20 : Int32) (g21 : Int32) (g22 : Int32) (g23 : Int32) (g26 : Int32) (g5 : Int64) (g6 : Int64) (g25 : Int64) (ln : Nat) (cd : Nat) (tk : Int32) (kw : Int32) (ti : Nat) (ct : Nat) (fb : Nat → Int32) (fkw : Nat → Int64) (gP : Nat → Nat) (gR : Nat → Nat) (gS : Nat → Int32) (gK : Nat → Int32) (gV : Nat → Int64) (cn : Nat) (pq : Nat) (en : Nat) (dy : Nat) (fp : Nat → Int32) (lo : Nat) (hi : Nat) (ix : Nat) (sz : Nat) (hln : ln ≤ 700) (hct : ct ≤ 701) (hti : ti < ct) (hTX : TX fb ln ct gP gR gS gV gK) (hBY : BYn ln fb) (hTK : TKR (gK ti) (gV ti) (fb (gP ti)) tk kw g19 g25) (hKW : KW 15 fkw) (hhi : hi < 2147483648) (hlo : lo ≤ hi) (hcn : cn ≤ 10) (hpq : pq ≤ 8) (hen : en ≤ 60) (hdy : dy ≤ 20000) (hri : RI cn pq en dy fp) (hix : 16 ≤ ix) (hix2 : ix < 326) : Met l yX10_numberTo wsX10_numberTo ({ frames := 3, cells := 0, slots := 0, locals := 66 }) (va_Pc [.ref w0, .int (nI ix), .int (nI lo), .int (nI hi)] (Wd D cA sa [(oX10 w0 v0 v1 v2 v3 v4 g5 g6 (nI ed) g8 v9 (nI nb) g11 g12 v13 (nI ln) (nI (gP ti)) (nI (gR (ti + 1))) tk kw g19 g20 g21 g22 g23 (nI cd) g25 g26 v27 v28 v29 v30 v31 v32 v33 v34 v35 v36 v37 (nI ol)), (v9, .inl (cA 0, 700, .inl fb)), (v13, .inl (cA 1, 15, .inr (.inl fkw))), (v1, .inl (cA 0, 326, .inl fp))] sz)) (va_Qi (fun (r : Int32) (u9 : Int32) => u9 = r ∧ (r = 0 ∨ r = 1)) (fun (u9 : Int32) t => ∃ tj : Nat, ∃ z17 : Int32, ∃ z18 : Int32, ∃ z19 : Int32, ∃ z20 : Int32, ∃ z21 : Int32, ∃ z26 : Int32, ∃ z25 : Int64, ∃ zp : Nat → Int32, tj < ct ∧ gP tj ≤ ln ∧ ti ≤ tj ∧ TKR (gK tj) (gV tj) (fb (gP tj)) z17 z18 z19 z25 ∧ RI cn pq en dy zp ∧ (u9 = 1 → tj = ti + 1) ∧ (u9 = 1 → z20 = g20) ∧ (u9 = 1 → z21 = g21) ∧ (u9 = 1 → gP ti + 1 ≤ gP tj) ∧ (u9 = 1 → nmE (lN lo) (lN hi) (gK ti) (gV ti) = none) ∧ (u9 = 0 → NmF lo hi (gK ti) (gV ti) z20) ∧ (u9 = 0 → z21 = gS ti) ∧ Wq D (va_A [(oX10 w0 v0 v1 v2 v3 v4 g5 g6 (nI ed) g8 v9 (nI nb) g11 g12 v13 (nI ln) (nI (gP ti)) (nI (gR (ti + 1))) tk kw g19 g20 g21 g22 g23 (nI cd) g25 g26 v27 v28 v29 v30 v31 v32 v33 v34 v35 v36 v37 (nI ol)), (v9, .inl (cA 0, 700, .inl fb)), (v13, .inl (cA 1, 15, .inr (.inl fkw))), (v1, .inl (cA 0, 326, .inl fp))] sz) [(oX10 w0 v0 v1 v2 v3 v4 g5 g6 (nI ed) g8 v9 (nI nb) g11 g12 v13 (nI ln) (nI (gP tj)) (nI (gR (tj + 1))) z17 z18 z19 z20 z21 g22 g23 (nI cd) z25 z26 v27 v28 v29 v30 v31 v32 v33 v34 v35 v36 v37 (nI ol)), (v9, .inl (cA 0, 700, .inl fb)), (v13, .inl (cA 1, 15, .inr (.inl fkw))), (v1, .inl (cA 0, 326, .inl zp))] t) (va_A [(oX10 w0 v0 v1 v2 v3 v4 g5 g6 (nI ed) g8 v9 (nI nb) g11 g12 v13 (nI ln) (nI (gP ti)) (nI (gR (ti + 1))) tk kw g19 g20 g21 g22 g23 (nI cd) g25 g26 v27 v28 v29 v30 v31 v32 v33 v34 v35 v36 v37 (nI ol)), (v9, .inl (cA 0, 700, .inl fb)), (v13, .inl (cA 1, 15, .inr (.inl fkw))), (v1, .inl (cA 0, 326, .inl fp))] sz)) 0 0 (va_A [(oX10 w0 v0 v1 v2 v3 v4 g5 g6 (nI ed) g8 v9 (nI nb) g11 g12 v13 (nI ln) (nI (gP ti)) (nI (gR (ti + 1))) tk kw g19 g20 g21 g22 g23 (nI cd) g25 g26 v27 v28 v29 v30 v31 v32 v33 v34 v35 v36 v37 (nI ol)), (v9, .inl (cA 0, 700, .inl fb)), (v13, .inl (cA 1, 15, .inr (.inl fkw))), (v1, .inl (cA 0, 326, .inl fp))] sz) := by
  refine Met.ofW (cc := cX10_numberTo) (maxL := 4) (ret := (some .boolean)) (by decide) rfl ?_
  intro p e s m args below meth c s₁ B hml hv
  obtain ⟨rfl, hsz, hP, hK, hD0, hC, hZ⟩ := hv
  have hx := B.exec
  have hb := B.bytes
  have hr := B.returns
  have hts := atoms_spec (ws := wsX10_numberTo) B.pre
  have hown : s.vm.findClass RX10 = some m.cls := findClass_of_methodNamed B.named
  have hlocks := B.notSynchronized
  subst hsz
  have hD := hD0.self (sz := s.heap.size)
  generalize hAe : va_A [(oX10 w0 v0 v1 v2 v3 v4 g5 g6 (nI ed) g8 v9 (nI nb) g11 g12 v13 (nI ln) (nI (gP ti)) (nI (gR (ti + 1))) tk kw g19 g20 g21 g22 g23 (nI cd) g25 g26 v27 v28 v29 v30 v31 v32 v33 v34 v35 v36 v37 (nI ol)), (v9, .inl (cA 0, 700, .inl fb)), (v13, .inl (cA 1, 15, .inr (.inl fkw))), (v1, .inl (cA 0, 326, .inl fp))] s.heap.size = A at hD hZ ⊢
  have hA : ∀ q : Nat, s.heap.size ≤ q → A q := fun q h => by rw [← hAe]; exact Or.inr h
  have hS : va_S A s.heap s.heap [] := va_S.rf
  have hP : va_P D vwCl [(oX10 w0 v0 v1 v2 v3 v4 g5 g6 (nI ed) g8 v9 (nI nb) g11 g12 v13 (nI ln) (nI (gP ti)) (nI (gR (ti + 1))) tk kw g19 g20 g21 g22 g23 (nI cd) g25 g26 v27 v28 v29 v30 v31 v32 v33 v34 v35 v36 v37 (nI ol)), (v9, .inl (cA 0, 700, .inl fb)), (v13, .inl (cA 1, 15, .inr (.inl fkw))), (v1, .inl (cA 0, 326, .inl fp))] s.heap := hP
  have hl := lv_entry ([.ref w0, .int (nI ix), .int (nI lo), .int (nI hi)]) (n := 4) (Nat.le_of_ble_eq_true rfl)
  rw [lg_entry_eq]
  generalize (lg_sl ([.ref w0, .int (nI ix), .int (nI lo), .int (nI hi)]) ++ List.replicate (4 - (lg_sl ([.ref w0, .int (nI ix), .int (nI lo), .int (nI hi)])).length) Slot.unset).toArray = ls at hl ⊢
  have hl : lv_has ls 4 [(0, .ref w0), (1, .int (nI ix)), (2, .int (nI lo)), (3, .int (nI hi))] := hl
  have inX10 : ∀ w ∈ u_ws RX10 TX10 39, w ∈ wsX10_numberTo := by decide +kernel
  have hle9 := TX.le hTX hti
  refine lv_aload_n hx hb dX10_numberTo_0 rfl (lv_at hl 0 rfl) ?_
  refine lv_iload_n hx hb dX10_numberTo_1 rfl (lv_at hl 2 rfl) ?_
  refine lv_iload_n hx hb dX10_numberTo_2 rfl (lv_at hl 3 rfl) ?_
  obtain ⟨hPc, hDc, hFc⟩ := PDq.cut (wc := [(oX10 w0 v0 v1 v2 v3 v4 g5 g6 (nI ed) g8 v9 (nI nb) g11 g12 v13 (nI ln) (nI (gP ti)) (nI (gR (ti + 1))) tk kw g19 g20 g21 g22 g23 (nI cd) g25 g26 v27 v28 v29 v30 v31 v32 v33 v34 v35 v36 v37 (nI ol)), (v9, .inl (cA 0, 700, .inl fb)), (v13, .inl (cA 1, 15, .inr (.inl fkw)))]) hP hD hS hA [0, 1, 2] (by decide) rfl
  refine va_calli (va_runV (As := [.int (nI lo), .int (nI hi)]) (rest := []) ⟨hx, hb, hml, hown, hts⟩ (y_number l D cA sa w0 ed nb ol v0 v1 v2 v3 v4 v9 v13 v27 v28 v29 v30 v31 v32 v33 v34 v35 v36 v37 g8 g11 g12 g19 g20 g21 g22 g23 g26 g5 g6 g25 ln cd tk kw ti ct fb fkw gP gR gS gK gV lo hi s.heap.size hln hct hti hTX hBY hTK hKW hhi hlo) (cwV 2 hts gX10_numberTo_X10_number rfl rfl rfl (by decide +kernel) ⟨(Nat.le_of_ble_eq_true rfl), (Nat.le_of_ble_eq_true rfl)⟩) ⟨Wd.blind, va_recv hK hPc (ci := 11) (q0 := 0) rfl rfl, fun U hU hW => ⟨rfl, Wd.call hPc hDc hK hC hZ hS hFc U hU hW⟩⟩ rfl rfl hl.1 rfl (lv_room (Nat.le_of_ble_eq_true rfl)) dX10_numberTo_3 ⟨(Nat.le_of_ble_eq_true rfl), (Nat.le_of_ble_eq_true rfl)⟩) hS (fun q _ h => hFc q h) hFc (fun rn1 u t H1 locs ht hvm hw hB hz1 hk1 hS => ?_)
  obtain ⟨qn2, zn3, zn4, zn5, zn6, zn7, zn8, zn9, hn10, hn11, hn12, hn13, hn14, hn15, hn16, hn17, hn18, hn19, hn20, hn21, hP1, hD1⟩ := hB
  rw [ht] at hP1
  obtain ⟨hP, hD⟩ := PDq.join (w := [(v1, .inl (cA 0, 326, .inl fp)), (oX10 w0 v0 v1 v2 v3 v4 g5 g6 (nI ed) g8 v9 (nI nb) g11 g12 v13 (nI ln) (nI (gP qn2)) (nI (gR (qn2 + 1))) zn3 zn4 zn5 zn6 zn7 g22 g23 (nI cd) zn9 zn8 v27 v28 v29 v30 v31 v32 v33 v34 v35 v36 v37 (nI ol)), (v9, .inl (cA 0, 700, .inl fb)), (v13, .inl (cA 1, 15, .inr (.inl fkw)))]) 1 hP hD [0, 1, 2] [3] rfl rfl (by decide) (by decide) hk1 hFc hP1 hD1 rfl
  generalize H1 = H at hP hS ⊢
  rcases hw.2 with hr9 | hr9
  · skip
    have hn20 := hn20 (hw.1.trans hr9)
    have hn21 := hn21 (hw.1.trans hr9)
    subst hr9
    refine lv_if_ne (tgt := 11) hx hb dX10_numberTo_6 (by decide) (fun c9 => absurd c9 (by decide)) (fun c22 => ?_)
    refine lv_iconst (v := 0) hx hb dX10_numberTo_9 (by decide) ?_
    obtain ⟨hP9, hD9⟩ := PDq.sub (ws' := [(oX10 w0 v0 v1 v2 v3 v4 g5 g6 (nI ed) g8 v9 (nI nb) g11 g12 v13 (nI ln) (nI (gP qn2)) (nI (gR (qn2 + 1))) zn3 zn4 zn5 zn6 zn7 g22 g23 (nI cd) zn9 zn8 v27 v28 v29 v30 v31 v32 v33 v34 v35 v36 v37 (nI ol)), (v9, .inl (cA 0, 700, .inl fb)), (v13, .inl (cA 1, 15, .inr (.inl fkw))), (v1, .inl (cA 0, 326, .inl fp))]) hP hD [1, 2, 3, 0] (by decide) rfl
    refine W.widen (k := 0) (n := 0) (Nat.le_of_ble_eq_true rfl) (Nat.le_of_ble_eq_true rfl) ?_
    exact (W.zret (v := 0) hx hb hr (by first | rfl | decide) (fun t ht hW => ⟨⟨0, 0, rfl, ⟨rfl, by decide⟩, qn2, zn3, zn4, zn5, zn6, zn7, zn8, zn9, fp, hn10, hn11, hn12, hn13, hri, (fun h9 => absurd h9 (by decide)), (fun h9 => absurd h9 (by decide)), (fun h9 => absurd h9 (by decide)), (fun h9 => absurd h9 (by decide)), (fun h9 => absurd h9 (by decide)), (fun _ => hn20), (fun _ => hn21), by rw [ht]; exact hP9, hD9⟩, hS.F ht⟩) hS.2.2 dX10_numberTo_10)
  · skip
    have hn14 := hn14 (hw.1.trans hr9)
    subst hn14
    obtain ⟨hP, hD⟩ : PDq D A [(v1, .inl (cA 0, 326, .inl fp)), (oX10 w0 v0 v1 v2 v3 v4 g5 g6 (nI ed) g8 v9 (nI nb) g11 g12 v13 (nI ln) (nI (gP (ti + 1))) (nI (gR ((ti + 1) + 1))) zn3 zn4 zn5 zn6 zn7 g22 g23 (nI cd) zn9 zn8 v27 v28 v29 v30 v31 v32 v33 v34 v35 v36 v37 (nI ol)), (v9, .inl (cA 0, 700, .inl fb)), (v13, .inl (cA 1, 15, .inr (.inl fkw)))] H := ⟨hP, hD⟩
    have hn15 := hn15 (hw.1.trans hr9)
    obtain rfl : g20 = zn6 := hn15.symm
    obtain ⟨hP, hD⟩ : PDq D A [(v1, .inl (cA 0, 326, .inl fp)), (oX10 w0 v0 v1 v2 v3 v4 g5 g6 (nI ed) g8 v9 (nI nb) g11 g12 v13 (nI ln) (nI (gP (ti + 1))) (nI (gR ((ti + 1) + 1))) zn3 zn4 zn5 g20 zn7 g22 g23 (nI cd) zn9 zn8 v27 v28 v29 v30 v31 v32 v33 v34 v35 v36 v37 (nI ol)), (v9, .inl (cA 0, 700, .inl fb)), (v13, .inl (cA 1, 15, .inr (.inl fkw)))] H := ⟨hP, hD⟩
    have hn16 := hn16 (hw.1.trans hr9)
    obtain rfl : g21 = zn7 := hn16.symm
    obtain ⟨hP, hD⟩ : PDq D A [(v1, .inl (cA 0, 326, .inl fp)), (oX10 w0 v0 v1 v2 v3 v4 g5 g6 (nI ed) g8 v9 (nI nb) g11 g12 v13 (nI ln) (nI (gP (ti + 1))) (nI (gR ((ti + 1) + 1))) zn3 zn4 zn5 g20 g21 g22 g23 (nI cd) zn9 zn8 v27 v28 v29 v30 v31 v32 v33 v34 v35 v36 v37 (nI ol)), (v9, .inl (cA 0, 700, .inl fb)), (v13, .inl (cA 1, 15, .inr (.inl fkw)))] H := ⟨hP, hD⟩
    have hn17 := hn17 (hw.1.trans hr9)
    have hn18 := hn18 (hw.1.trans hr9)
    have hn19 := hn19 (hw.1.trans hr9)
    obtain ⟨kn23, hn24, hn25, hn9⟩ := hn19
    subst hn9
    obtain ⟨hP, hD⟩ : PDq D A [(v1, .inl (cA 0, 326, .inl fp)), (oX10 w0 v0 v1 v2 v3 v4 g5 g6 (nI ed) g8 v9 (nI nb) g11 g12 v13 (nI ln) (nI (gP (ti + 1))) (nI (gR ((ti + 1) + 1))) zn3 zn4 zn5 g20 g21 g22 g23 (nI cd) zn9 (nI kn23) v27 v28 v29 v30 v31 v32 v33 v34 v35 v36 v37 (nI ol)), (v9, .inl (cA 0, 700, .inl fb)), (v13, .inl (cA 1, 15, .inr (.inl fkw)))] H := ⟨hP, hD⟩
    subst hr9
    refine lv_if_ne (tgt := 11) hx hb dX10_numberTo_6 (by decide) (fun c26 => ?_) (fun c9 => absurd c9 (by decide))
    refine lv_aload_n hx hb dX10_numberTo_11 rfl (lv_at hl 0 rfl) ?_
    refine va_get (D := D) (ci := 11) (v := .ref v1) (C := RX10) (T := TX10) (N := 39) hx hb hts inX10 hown hK hP 1 rfl rfl 1 (by decide) (hts (.fieldLink RX10 13 "EscrowDeskModel" "parsed" "[I") (by decide +kernel)) (fun _ h9 => h9) rfl dX10_numberTo_12 ?_
    refine lv_iload_n hx hb dX10_numberTo_15 rfl (lv_at hl 1 rfl) ?_
    refine lv_aload_n hx hb dX10_numberTo_16 rfl (lv_at hl 0 rfl) ?_
    refine va_get (D := D) (ci := 11) (v := .int (nI kn23)) (C := RX10) (T := TX10) (N := 39) hx hb hts inX10 hown hK hP 1 rfl rfl 26 (by decide) (hts (.fieldLink RX10 156 "EscrowDeskModel" "numberRead" "I") (by decide +kernel)) (fun _ h9 => h9) rfl dX10_numberTo_17 ?_
    refine va_iast hx hb hK hP hD hS 0 0 rfl rfl (vp_in_nI (n := ix) (N := 326) (show ix < 326 by omega) (by decide)) dX10_numberTo_20 (fun H locs hP hD hS => ?_)
    obtain ⟨hP, hD⟩ : PDq D A [(v1, .inl (cA 0, 326, .inl (upd fp (((nI ix)).toNatClampNeg) (nI kn23)))), (oX10 w0 v0 v1 v2 v3 v4 g5 g6 (nI ed) g8 v9 (nI nb) g11 g12 v13 (nI ln) (nI (gP (ti + 1))) (nI (gR ((ti + 1) + 1))) zn3 zn4 zn5 g20 g21 g22 g23 (nI cd) zn9 (nI kn23) v27 v28 v29 v30 v31 v32 v33 v34 v35 v36 v37 (nI ol)), (v9, .inl (cA 0, 700, .inl fb)), (v13, .inl (cA 1, 15, .inr (.inl fkw)))] H := ⟨hP, hD⟩
    have hn28 : RI cn pq en dy (upd fp (((nI ix)).toNatClampNeg) (nI kn23)) := RI.putI hri ix (nI kn23) (by omega) (by omega)
    generalize (upd fp (((nI ix)).toNatClampNeg) (nI kn23)) = fn27 at hP hD hn28
    obtain ⟨hP, hD⟩ : PDq D A [(v1, .inl (cA 0, 326, .inl fn27)), (oX10 w0 v0 v1 v2 v3 v4 g5 g6 (nI ed) g8 v9 (nI nb) g11 g12 v13 (nI ln) (nI (gP (ti + 1))) (nI (gR ((ti + 1) + 1))) zn3 zn4 zn5 g20 g21 g22 g23 (nI cd) zn9 (nI kn23) v27 v28 v29 v30 v31 v32 v33 v34 v35 v36 v37 (nI ol)), (v9, .inl (cA 0, 700, .inl fb)), (v13, .inl (cA 1, 15, .inr (.inl fkw)))] H := ⟨hP, hD⟩
    refine lv_iconst (v := 1) hx hb dX10_numberTo_21 (by decide) ?_
    obtain ⟨hP9, hD9⟩ := PDq.sub (ws' := [(oX10 w0 v0 v1 v2 v3 v4 g5 g6 (nI ed) g8 v9 (nI nb) g11 g12 v13 (nI ln) (nI (gP (ti + 1))) (nI (gR ((ti + 1) + 1))) zn3 zn4 zn5 g20 g21 g22 g23 (nI cd) zn9 (nI kn23) v27 v28 v29 v30 v31 v32 v33 v34 v35 v36 v37 (nI ol)), (v9, .inl (cA 0, 700, .inl fb)), (v13, .inl (cA 1, 15, .inr (.inl fkw))), (v1, .inl (cA 0, 326, .inl fn27))]) hP hD [1, 2, 3, 0] (by decide) rfl
    refine W.widen (k := 0) (n := 0) (Nat.le_of_ble_eq_true rfl) (Nat.le_of_ble_eq_true rfl) ?_
    exact (W.zret (v := 1) hx hb hr (by first | rfl | decide) (fun t ht hW => ⟨⟨1, 1, rfl, ⟨rfl, by decide⟩, (ti + 1), zn3, zn4, zn5, g20, g21, (nI kn23), zn9, fn27, hn10, hn11, hn12, hn13, hn28, (fun _ => rfl), (fun _ => rfl), (fun _ => rfl), (fun _ => hn17), (fun _ => hn18), (fun h9 => absurd h9 (by decide)), (fun h9 => absurd h9 (by decide)), by rw [ht]; exact hP9, hD9⟩, hS.F ht⟩) hS.2.2 dX10_numberTo_22)

set_option maxHeartbeats 4000000 in
set_option maxRecDepth 100000 in
/-- reference: find -/
theorem y_find10 (l : Launch) (D : va_G) (cA : Nat → ClassId) (sa : Nat → Nat) (h0 : Nat) (k : Nat) (w : Int64) (l9 : Nat → Int64) (sz : Nat) (hk : k ≤ 10) : Met l yX10_find wsX10_find ({ frames := 0, cells := 0, slots := 0, locals := 0 }) (va_Pc [.ref h0, .int (nI k), .long w] (Wd D cA sa [(h0, .inl (cA 1, 10, .inr (.inl l9)))] sz)) (va_Qi (fun (r : Int32) (_ : Unit) => (r = -1 ∧ ∀ j, j < k → l9 j ≠ w) ∨ ∃ n, n < k ∧ r = nI n ∧ l9 n = w) (fun (_ : Unit) t => Wq D (va_A [(h0, .inl (cA 1, 10, .inr (.inl l9)))] sz) [(h0, .inl (cA 1, 10, .inr (.inl l9)))] t) (va_A [(h0, .inl (cA 1, 10, .inr (.inl l9)))] sz)) 0 0 (va_A [(h0, .inl (cA 1, 10, .inr (.inl l9)))] sz) := by
  refine Met.ofW (cc := cX10_find) (maxL := 5) (ret := (some .int)) (by decide) rfl ?_
  intro p e s m args below meth c s₁ B hml hv
  obtain ⟨rfl, hsz, hP, hK, hD0, hC, hZ⟩ := hv
  have hx := B.exec
  have hb := B.bytes
  have hr := B.returns
  have hts := atoms_spec (ws := wsX10_find) B.pre
  have hown : s.vm.findClass RX10 = some m.cls := findClass_of_methodNamed B.named
  have hlocks := B.notSynchronized
  subst hsz
  have hD := hD0.self (sz := s.heap.size)
  generalize hAe : va_A [(h0, .inl (cA 1, 10, .inr (.inl l9)))] s.heap.size = A at hD hZ ⊢
  have hA : ∀ q : Nat, s.heap.size ≤ q → A q := fun q h => by rw [← hAe]; exact Or.inr h
  have hS : va_S A s.heap s.heap [] := va_S.rf
  have hP : va_P D vwCl [(h0, .inl (cA 1, 10, .inr (.inl l9)))] s.heap := hP
  have hl := lv_entry ([.ref h0, .int (nI k), .long w]) (n := 5) (Nat.le_of_ble_eq_true rfl)
  rw [lg_entry_eq]
  generalize (lg_sl ([.ref h0, .int (nI k), .long w]) ++ List.replicate (5 - (lg_sl ([.ref h0, .int (nI k), .long w])).length) Slot.unset).toArray = ls at hl ⊢
  have hl : lv_has ls 5 [(0, .ref h0), (1, .int (nI k)), (2, .long w)] := hl
  refine lv_iconst (v := 0) hx hb dX10_find_0 (by decide) ?_
  refine lv_istore (lv' := [(4, .int 0), (0, .ref h0), (1, .int (nI k)), (2, .long w)]) hx hb dX10_find_1 hl (by decide) rfl (fun ls hl => ?_)
  have loop1 : ∀ (n1 i1 : Nat) (H : Heap) (locs : List Loc) (ls : Array Slot), i1 + n1 = k → Nof i1 w l9 → va_P D vwCl [(h0, .inl (cA 1, 10, .inr (.inl l9)))] H → va_D A [(h0, .inl (cA 1, 10, .inr (.inl l9)))] → va_S A s.heap H locs → lv_has ls 5 [(4, .int (nI i1)), (0, .ref h0), (1, .int (nI k)), (2, .long w)] → W p l e (headSpec wsX10_find ({ frames := 0, cells := 0, slots := 0, locals := 0 } : Room)).room s m ([.ref h0, .int (nI k), .long w] : List Value).toArray below meth c H locs 0 0 (MQ below (va_Qi (fun (r : Int32) (_ : Unit) => (r = -1 ∧ ∀ j, j < k → l9 j ≠ w) ∨ ∃ n, n < k ∧ r = nI n ∧ l9 n = w) (fun (_ : Unit) t => Wq D A [(h0, .inl (cA 1, 10, .inr (.inl l9)))] t) A) ([.ref h0, .int (nI k), .long w] : List Value).toArray s 0 0 A) (F0 m 3 ls []) := by
    intro n1
    induction n1 with
    | zero =>
      intro i1 H locs ls hi1 hv0_1 hP hD hS hl
      obtain rfl : k = i1 := by omega
      refine lv_iload hx hb dX10_find_3 (lv_at hl 0 rfl) ?_
      refine lv_iload_n hx hb dX10_find_5 rfl (lv_at hl 2 rfl) ?_
      refine lv_icmp_ge (tgt := 27) hx hb dX10_find_6 (by decide) (fun c1 => ?_) (fun c9 => absurd (nI_le (a := k) (b := k) (show k ≤ k by omega) (by omega)) c9)
      refine lv_iconst (v := (-1)) hx hb dX10_find_27 (by decide) ?_
      obtain ⟨hP9, hD9⟩ := PDq.sub (ws' := [(h0, .inl (cA 1, 10, .inr (.inl l9)))]) hP hD [0] (by decide) rfl
      refine W.widen (k := 0) (n := 0) (Nat.le_of_ble_eq_true rfl) (Nat.le_of_ble_eq_true rfl) ?_
      exact (W.iret (v := (-1)) hx hb hr (fun t ht hW => ⟨⟨(-1), (), rfl, (Or.inl ⟨rfl, hv0_1⟩), by rw [ht]; exact hP9, hD9⟩, hS.F ht⟩) hS.2.2 dX10_find_28)
    | succ n1 ih1 =>
      intro i1 H locs ls hi1 hv0_1 hP hD hS hl
      refine lv_iload hx hb dX10_find_3 (lv_at hl 0 rfl) ?_
      refine lv_iload_n hx hb dX10_find_5 rfl (lv_at hl 2 rfl) ?_
      refine lv_icmp_ge (tgt := 27) hx hb dX10_find_6 (by decide) (fun c9 => absurd c9 (nI_ge (a := i1) (b := k) (show i1 < k by omega) (by omega))) (fun c2 => ?_)
      refine lv_aload_n hx hb dX10_find_9 rfl (lv_at hl 1 rfl) ?_
      refine lv_iload hx hb dX10_find_10 (lv_at hl 0 rfl) ?_
      refine va_lald hx hb hK hP 0 1 rfl rfl (vp_in_nI (n := i1) (N := 10) (show i1 < 10 by omega) (by decide)) dX10_find_12 ?_
      refine lv_topl (fun yn3 eyn3 => ?_)
      obtain rfl : yn3 = (l9 i1) := eyn3.trans (by rw [nI_clamp (by omega)])
      refine lv_lload_n hx hb dX10_find_13 rfl (lv_at hl 3 rfl) ?_
      refine W.lcmp hx hb dX10_find_14 ?_
      refine lv_if_ne (tgt := 21) hx hb dX10_find_15 (by decide) (fun c4 => ?_) (fun c4 => ?_)
      · skip
        refine lv_iinc (v := (nI (i1 + 1))) (lv' := [(4, .int (nI (i1 + 1))), (0, .ref h0), (1, .int (nI k)), (2, .long w)]) hx hb dX10_find_21 hl (k := 0) rfl (nI_1 _) (by decide) rfl (fun ls hl => ?_)
        refine lv_goto (tgt := 3) hx hb dX10_find_24 (by decide) ?_
        obtain ⟨hP9, hD9⟩ := PDq.sub (ws' := [(h0, .inl (cA 1, 10, .inr (.inl l9)))]) hP hD [0] (by decide) rfl
        exact ih1 (i1 + 1)  H _ ls (by omega) (Nof.step hv0_1 c4) hP9 hD9 hS (lv_sub hl [0, 1, 2, 3] rfl)
      · skip
        refine lv_iload hx hb dX10_find_18 (lv_at hl 0 rfl) ?_
        obtain ⟨hP9, hD9⟩ := PDq.sub (ws' := [(h0, .inl (cA 1, 10, .inr (.inl l9)))]) hP hD [0] (by decide) rfl
        refine W.widen (k := 0) (n := 0) (Nat.le_of_ble_eq_true rfl) (Nat.le_of_ble_eq_true rfl) ?_
        exact (W.iret (v := (nI i1)) hx hb hr (fun t ht hW => ⟨⟨(nI i1), (), rfl, (Or.inr ⟨i1, by omega, rfl, lg_eq0 c4⟩), by rw [ht]; exact hP9, hD9⟩, hS.F ht⟩) hS.2.2 dX10_find_20)
  obtain ⟨hP9, hD9⟩ := PDq.sub (ws' := [(h0, .inl (cA 1, 10, .inr (.inl l9)))]) hP hD [0] (by decide) rfl
  exact loop1 (k - 0) 0  _ _ ls (by omega) (Nof.zero w l9) hP9 hD9 hS (lv_sub hl [0, 1, 2, 3] rfl)

set_option maxHeartbeats 4000000 in
set_option maxRecDepth 100000 in
/-- reference: find -/
theorem y_find8 (l : Launch) (D : va_G) (cA : Nat → ClassId) (sa : Nat → Nat) (h0 : Nat) (k : Nat) (w : Int64) (l9 : Nat → Int64) (sz : Nat) (hk : k ≤ 8) : Met l yX10_find wsX10_find ({ frames := 0, cells := 0, slots := 0, locals := 0 }) (va_Pc [.ref h0, .int (nI k), .long w] (Wd D cA sa [(h0, .inl (cA 1, 8, .inr (.inl l9)))] sz)) (va_Qi (fun (r : Int32) (_ : Unit) => (r = -1 ∧ ∀ j, j < k → l9 j ≠ w) ∨ ∃ n, n < k ∧ r = nI n ∧ l9 n = w) (fun (_ : Unit) t => Wq D (va_A [(h0, .inl (cA 1, 8, .inr (.inl l9)))] sz) [(h0, .inl (cA 1, 8, .inr (.inl l9)))] t) (va_A [(h0, .inl (cA 1, 8, .inr (.inl l9)))] sz)) 0 0 (va_A [(h0, .inl (cA 1, 8, .inr (.inl l9)))] sz) := by
  refine Met.ofW (cc := cX10_find) (maxL := 5) (ret := (some .int)) (by decide) rfl ?_
  intro p e s m args below meth c s₁ B hml hv
  obtain ⟨rfl, hsz, hP, hK, hD0, hC, hZ⟩ := hv
  have hx := B.exec
  have hb := B.bytes
  have hr := B.returns
  have hts := atoms_spec (ws := wsX10_find) B.pre
  have hown : s.vm.findClass RX10 = some m.cls := findClass_of_methodNamed B.named
  have hlocks := B.notSynchronized
  subst hsz
  have hD := hD0.self (sz := s.heap.size)
  generalize hAe : va_A [(h0, .inl (cA 1, 8, .inr (.inl l9)))] s.heap.size = A at hD hZ ⊢
  have hA : ∀ q : Nat, s.heap.size ≤ q → A q := fun q h => by rw [← hAe]; exact Or.inr h
  have hS : va_S A s.heap s.heap [] := va_S.rf
  have hP : va_P D vwCl [(h0, .inl (cA 1, 8, .inr (.inl l9)))] s.heap := hP
  have hl := lv_entry ([.ref h0, .int (nI k), .long w]) (n := 5) (Nat.le_of_ble_eq_true rfl)
  rw [lg_entry_eq]
  generalize (lg_sl ([.ref h0, .int (nI k), .long w]) ++ List.replicate (5 - (lg_sl ([.ref h0, .int (nI k), .long w])).length) Slot.unset).toArray = ls at hl ⊢
  have hl : lv_has ls 5 [(0, .ref h0), (1, .int (nI k)), (2, .long w)] := hl
  refine lv_iconst (v := 0) hx hb dX10_find_0 (by decide) ?_
  refine lv_istore (lv' := [(4, .int 0), (0, .ref h0), (1, .int (nI k)), (2, .long w)]) hx hb dX10_find_1 hl (by decide) rfl (fun ls hl => ?_)
  have loop1 : ∀ (n1 i1 : Nat) (H : Heap) (locs : List Loc) (ls : Array Slot), i1 + n1 = k → Nof i1 w l9 → va_P D vwCl [(h0, .inl (cA 1, 8, .inr (.inl l9)))] H → va_D A [(h0, .inl (cA 1, 8, .inr (.inl l9)))] → va_S A s.heap H locs → lv_has ls 5 [(4, .int (nI i1)), (0, .ref h0), (1, .int (nI k)), (2, .long w)] → W p l e (headSpec wsX10_find ({ frames := 0, cells := 0, slots := 0, locals := 0 } : Room)).room s m ([.ref h0, .int (nI k), .long w] : List Value).toArray below meth c H locs 0 0 (MQ below (va_Qi (fun (r : Int32) (_ : Unit) => (r = -1 ∧ ∀ j, j < k → l9 j ≠ w) ∨ ∃ n, n < k ∧ r = nI n ∧ l9 n = w) (fun (_ : Unit) t => Wq D A [(h0, .inl (cA 1, 8, .inr (.inl l9)))] t) A) ([.ref h0, .int (nI k), .long w] : List Value).toArray s 0 0 A) (F0 m 3 ls []) := by
    intro n1
    induction n1 with
    | zero =>
      intro i1 H locs ls hi1 hv0_1 hP hD hS hl
      obtain rfl : k = i1 := by omega
      refine lv_iload hx hb dX10_find_3 (lv_at hl 0 rfl) ?_
      refine lv_iload_n hx hb dX10_find_5 rfl (lv_at hl 2 rfl) ?_
      refine lv_icmp_ge (tgt := 27) hx hb dX10_find_6 (by decide) (fun c1 => ?_) (fun c9 => absurd (nI_le (a := k) (b := k) (show k ≤ k by omega) (by omega)) c9)
      refine lv_iconst (v := (-1)) hx hb dX10_find_27 (by decide) ?_
      obtain ⟨hP9, hD9⟩ := PDq.sub (ws' := [(h0, .inl (cA 1, 8, .inr (.inl l9)))]) hP hD [0] (by decide) rfl
      refine W.widen (k := 0) (n := 0) (Nat.le_of_ble_eq_true rfl) (Nat.le_of_ble_eq_true rfl) ?_
      exact (W.iret (v := (-1)) hx hb hr (fun t ht hW => ⟨⟨(-1), (), rfl, (Or.inl ⟨rfl, hv0_1⟩), by rw [ht]; exact hP9, hD9⟩, hS.F ht⟩) hS.2.2 dX10_find_28)
    | succ n1 ih1 =>
      intro i1 H locs ls hi1 hv0_1 hP hD hS hl
      refine lv_iload hx hb dX10_find_3 (lv_at hl 0 rfl) ?_
      refine lv_iload_n hx hb dX10_find_5 rfl (lv_at hl 2 rfl) ?_
      refine lv_icmp_ge (tgt := 27) hx hb dX10_find_6 (by decide) (fun c9 => absurd c9 (nI_ge (a := i1) (b := k) (show i1 < k by omega) (by omega))) (fun c2 => ?_)
      refine lv_aload_n hx hb dX10_find_9 rfl (lv_at hl 1 rfl) ?_
      refine lv_iload hx hb dX10_find_10 (lv_at hl 0 rfl) ?_
      refine va_lald hx hb hK hP 0 1 rfl rfl (vp_in_nI (n := i1) (N := 8) (show i1 < 8 by omega) (by decide)) dX10_find_12 ?_
      refine lv_topl (fun yn3 eyn3 => ?_)
      obtain rfl : yn3 = (l9 i1) := eyn3.trans (by rw [nI_clamp (by omega)])
      refine lv_lload_n hx hb dX10_find_13 rfl (lv_at hl 3 rfl) ?_
      refine W.lcmp hx hb dX10_find_14 ?_
      refine lv_if_ne (tgt := 21) hx hb dX10_find_15 (by decide) (fun c4 => ?_) (fun c4 => ?_)
      · skip
        refine lv_iinc (v := (nI (i1 + 1))) (lv' := [(4, .int (nI (i1 + 1))), (0, .ref h0), (1, .int (nI k)), (2, .long w)]) hx hb dX10_find_21 hl (k := 0) rfl (nI_1 _) (by decide) rfl (fun ls hl => ?_)
        refine lv_goto (tgt := 3) hx hb dX10_find_24 (by decide) ?_
        obtain ⟨hP9, hD9⟩ := PDq.sub (ws' := [(h0, .inl (cA 1, 8, .inr (.inl l9)))]) hP hD [0] (by decide) rfl
        exact ih1 (i1 + 1)  H _ ls (by omega) (Nof.step hv0_1 c4) hP9 hD9 hS (lv_sub hl [0, 1, 2, 3] rfl)
      · skip
        refine lv_iload hx hb dX10_find_18 (lv_at hl 0 rfl) ?_
        obtain ⟨hP9, hD9⟩ := PDq.sub (ws' := [(h0, .inl (cA 1, 8, .inr (.inl l9)))]) hP hD [0] (by decide) rfl
        refine W.widen (k := 0) (n := 0) (Nat.le_of_ble_eq_true rfl) (Nat.le_of_ble_eq_true rfl) ?_
        exact (W.iret (v := (nI i1)) hx hb hr (fun t ht hW => ⟨⟨(nI i1), (), rfl, (Or.inr ⟨i1, by omega, rfl, lg_eq0 c4⟩), by rw [ht]; exact hP9, hD9⟩, hS.F ht⟩) hS.2.2 dX10_find_20)
  obtain ⟨hP9, hD9⟩ := PDq.sub (ws' := [(h0, .inl (cA 1, 8, .inr (.inl l9)))]) hP hD [0] (by decide) rfl
  exact loop1 (k - 0) 0  _ _ ls (by omega) (Nof.zero w l9) hP9 hD9 hS (lv_sub hl [0, 1, 2, 3] rfl)

set_option maxHeartbeats 4000000 in
set_option maxRecDepth 100000 in
/-- reference: proofFact -/
theorem y_proofFact (l : Launch) (D : va_G) (cA : Nat → ClassId) (sa : Nat → Nat) (w0 : Nat) (ed : Nat) (nb : Nat) (ol : Nat) (v0 : Nat) (v1 : Nat) (v2 : Nat) (v3 : Nat) (v4 : Nat) (v9 : Nat) (v13 : Nat) (v27 : Nat) (v28 : Nat) (v29 : Nat) (v30 : Nat) (v31 : Nat) (v32 : Nat) (v33 : Nat) (v34 : Nat) (v35 : Nat) (v36 : Nat) (v37 : Nat) (g8 : Int32) (g11 : Int32) (g12 : Int32) (g19 : Int32) (g20 : Int32) (g21 : Int32) (g23 : Int32) (g26 : Int32) (g5 : Int64) (g6 : Int64) (g25 : Int64) (ln : Nat) (cd : Nat) (tk : Int32) (kw : Int32) (ti : Nat) (ct : Nat) (fb : Nat → Int32) (fkw : Nat → Int64) (gP : Nat → Nat) (gR : Nat → Nat) (gS : Nat → Int32) (gK : Nat → Int32) (gV : Nat → Int64) (cn : Nat) (pq : Nat) (en : Nat) (dy : Nat) (fp : Nat → Int32) (sl : Nat) (o9 : Nat) (l28 : Nat → Int64) (l30 : Nat → Int64) (fc : Nat → Int32) (ml : List Int64) (pl : List Int64) (og : Int32) (sz : Nat) (hln : ln ≤ 700) (hct : ct ≤ 701) (hti : ti < ct) (hTX : TX fb ln ct gP gR gS gV gK) (hBY : BYn ln fb) (hTK : TKR (gK ti) (gV ti) (fb (gP ti)) tk kw g19 g25) (hKW : KW 15 fkw) (hcn : cn ≤ 10) (hpq : pq ≤ 8) (hen : en ≤ 60) (hdy : dy ≤ 20000) (hri : RI cn pq en dy fp) (hcd : 2 * cd + sl ≤ gP ti) (hNM : NL ml cn l28) (hNP : NL pl pq l30) (hk : gK ti = 18) : Met l yX10_proofFact wsX10_proofFact ({ frames := 2, cells := 0, slots := 0, locals := 44 }) (va_Pc [.ref w0] (Wd D cA sa [(oX10 w0 v0 v1 v2 v3 v4 g5 g6 (nI ed) g8 v9 (nI nb) g11 g12 v13 (nI ln) (nI (gP ti)) (nI (gR (ti + 1))) tk kw g19 g20 g21 og g23 (nI cd) g25 g26 v27 v28 v29 v30 v31 v32 v33 v34 v35 v36 v37 (nI ol)), (v1, .inl (cA 0, 326, .inl fp)), (v9, .inl (cA 0, 700, .inl fb)), (v13, .inl (cA 1, 15, .inr (.inl fkw))), (v28, .inl (cA 1, 10, .inr (.inl l28))), (v30, .inl (cA 1, 8, .inr (.inl l30))), (v32, .inl (cA 0, 400, .inl fc))] sz)) (va_Qi (fun (r : Int32) (u9 : Int32) => u9 = r ∧ (r = 0 ∨ r = 1)) (fun (u9 : Int32) t => ∃ tj : Nat, ∃ z17 : Int32, ∃ z18 : Int32, ∃ z19 : Int32, ∃ z20 : Int32, ∃ z21 : Int32, ∃ z26 : Int32, ∃ z25 : Int64, ∃ cd2 : Nat, ∃ pq2 : Nat, ∃ zp : Nat → Int32, ∃ zc : Nat → Int32, ∃ zl : Nat → Int64, ∃ zpl : List Int64, tj < ct ∧ gP tj ≤ ln ∧ ti ≤ tj ∧ TKR (gK tj) (gV tj) (fb (gP tj)) z17 z18 z19 z25 ∧ pq2 ≤ 8 ∧ RI cn pq2 en dy zp ∧ NL zpl pq2 zl ∧ (u9 = 1 → z20 = g20) ∧ (u9 = 1 → z21 = g21) ∧ (u9 = 1 → ti + 1 ≤ tj) ∧ (u9 = 1 → cd ≤ cd2) ∧ (u9 = 1 → 2 * cd2 + sl ≤ gP tj) ∧ (u9 = 1 → Kp cd fc zc) ∧ (u9 = 1 → Sg cd cd2 zc) ∧ (u9 = 1 → PRx gK gS gV ml 0 o9 ti pl (.inr (tj, zpl))) ∧ (u9 = 0 → PRx gK gS gV ml 0 o9 ti pl (.inl (z20, z21))) ∧ Wq D (va_A [(oX10 w0 v0 v1 v2 v3 v4 g5 g6 (nI ed) g8 v9 (nI nb) g11 g12 v13 (nI ln) (nI (gP ti)) (nI (gR (ti + 1))) tk kw g19 g20 g21 og g23 (nI cd) g25 g26 v27 v28 v29 v30 v31 v32 v33 v34 v35 v36 v37 (nI ol)), (v1, .inl (cA 0, 326, .inl fp)), (v9, .inl (cA 0, 700, .inl fb)), (v13, .inl (cA 1, 15, .inr (.inl fkw))), (v28, .inl (cA 1, 10, .inr (.inl l28))), (v30, .inl (cA 1, 8, .inr (.inl l30))), (v32, .inl (cA 0, 400, .inl fc))] sz) [(oX10 w0 v0 v1 v2 v3 v4 g5 g6 (nI ed) g8 v9 (nI nb) g11 g12 v13 (nI ln) (nI (gP tj)) (nI (gR (tj + 1))) z17 z18 z19 z20 z21 og g23 (nI cd2) z25 z26 v27 v28 v29 v30 v31 v32 v33 v34 v35 v36 v37 (nI ol)), (v1, .inl (cA 0, 326, .inl zp)), (v9, .inl (cA 0, 700, .inl fb)), (v13, .inl (cA 1, 15, .inr (.inl fkw))), (v28, .inl (cA 1, 10, .inr (.inl l28))), (v30, .inl (cA 1, 8, .inr (.inl zl))), (v32, .inl (cA 0, 400, .inl zc))] t) (va_A [(oX10 w0 v0 v1 v2 v3 v4 g5 g6 (nI ed) g8 v9 (nI nb) g11 g12 v13 (nI ln) (nI (gP ti)) (nI (gR (ti + 1))) tk kw g19 g20 g21 og g23 (nI cd) g25 g26 v27 v28 v29 v30 v31 v32 v33 v34 v35 v36 v37 (nI ol)), (v1, .inl (cA 0, 326, .inl fp)), (v9, .inl (cA 0, 700, .inl fb)), (v13, .inl (cA 1, 15, .inr (.inl fkw))), (v28, .inl (cA 1, 10, .inr (.inl l28))), (v30, .inl (cA 1, 8, .inr (.inl l30))), (v32, .inl (cA 0, 400, .inl fc))] sz)) 0 0 (va_A [(oX10 w0 v0 v1 v2 v3 v4 g5 g6 (nI ed) g8 v9 (nI nb) g11 g12 v13 (nI ln) (nI (gP ti)) (nI (gR (ti + 1))) tk kw g19 g20 g21 og g23 (nI cd) g25 g26 v27 v28 v29 v30 v31 v32 v33 v34 v35 v36 v37 (nI ol)), (v1, .inl (cA 0, 326, .inl fp)), (v9, .inl (cA 0, 700, .inl fb)), (v13, .inl (cA 1, 15, .inr (.inl fkw))), (v28, .inl (cA 1, 10, .inr (.inl l28))), (v30, .inl (cA 1, 8, .inr (.inl l30))), (v32, .inl (cA 0, 400, .inl fc))] sz) := by
  refine Met.ofW (cc := cX10_proofFact) (maxL := 2) (ret := (some .boolean)) (by decide) rfl ?_
  intro p e s m args below meth c s₁ B hml hv
  obtain ⟨rfl, hsz, hP, hK, hD0, hC, hZ⟩ := hv
  have hx := B.exec
  have hb := B.bytes
  have hr := B.returns
  have hts := atoms_spec (ws := wsX10_proofFact) B.pre
  have hown : s.vm.findClass RX10 = some m.cls := findClass_of_methodNamed B.named
  have hlocks := B.notSynchronized
  subst hsz
  have hD := hD0.self (sz := s.heap.size)
  generalize hAe : va_A [(oX10 w0 v0 v1 v2 v3 v4 g5 g6 (nI ed) g8 v9 (nI nb) g11 g12 v13 (nI ln) (nI (gP ti)) (nI (gR (ti + 1))) tk kw g19 g20 g21 og g23 (nI cd) g25 g26 v27 v28 v29 v30 v31 v32 v33 v34 v35 v36 v37 (nI ol)), (v1, .inl (cA 0, 326, .inl fp)), (v9, .inl (cA 0, 700, .inl fb)), (v13, .inl (cA 1, 15, .inr (.inl fkw))), (v28, .inl (cA 1, 10, .inr (.inl l28))), (v30, .inl (cA 1, 8, .inr (.inl l30))), (v32, .inl (cA 0, 400, .inl fc))] s.heap.size = A at hD hZ ⊢
  have hA : ∀ q : Nat, s.heap.size ≤ q → A q := fun q h => by rw [← hAe]; exact Or.inr h
  have hS : va_S A s.heap s.heap [] := va_S.rf
  have hP : va_P D vwCl [(oX10 w0 v0 v1 v2 v3 v4 g5 g6 (nI ed) g8 v9 (nI nb) g11 g12 v13 (nI ln) (nI (gP ti)) (nI (gR (ti + 1))) tk kw g19 g20 g21 og g23 (nI cd) g25 g26 v27 v28 v29 v30 v31 v32 v33 v34 v35 v36 v37 (nI ol)), (v1, .inl (cA 0, 326, .inl fp)), (v9, .inl (cA 0, 700, .inl fb)), (v13, .inl (cA 1, 15, .inr (.inl fkw))), (v28, .inl (cA 1, 10, .inr (.inl l28))), (v30, .inl (cA 1, 8, .inr (.inl l30))), (v32, .inl (cA 0, 400, .inl fc))] s.heap := hP
  have hl := lv_entry ([.ref w0]) (n := 2) (Nat.le_of_ble_eq_true rfl)
  rw [lg_entry_eq]
  generalize (lg_sl ([.ref w0]) ++ List.replicate (2 - (lg_sl ([.ref w0])).length) Slot.unset).toArray = ls at hl ⊢
  have hl : lv_has ls 2 [(0, .ref w0)] := hl
  have inX10 : ∀ w ∈ u_ws RX10 TX10 39, w ∈ wsX10_proofFact := by decide +kernel
  have hle9 := TX.le hTX hti
  refine lv_aload_n hx hb dX10_proofFact_0 rfl (lv_at hl 0 rfl) ?_
  have hn1 := TX.go2 hTX (show ti < ct by omega) (by rw [hk]; decide)
  have hn1a := TX.le hTX (show ti < ct by omega)
  have hn1b := TX.le hTX hn1.1
  obtain ⟨hPc, hDc, hFc⟩ := PDq.cut (wc := [(oX10 w0 v0 v1 v2 v3 v4 g5 g6 (nI ed) g8 v9 (nI nb) g11 g12 v13 (nI ln) (nI (gP ti)) (nI (gR (ti + 1))) tk kw g19 g20 g21 og g23 (nI cd) g25 g26 v27 v28 v29 v30 v31 v32 v33 v34 v35 v36 v37 (nI ol)), (v9, .inl (cA 0, 700, .inl fb)), (v13, .inl (cA 1, 15, .inr (.inl fkw)))]) hP hD hS hA [0, 2, 3] (by decide) rfl
  refine va_calli (va_runV (As := []) (rest := []) ⟨hx, hb, hml, hown, hts⟩ (y_advance l D cA sa w0 ed nb ol v0 v1 v2 v3 v4 v9 v13 v27 v28 v29 v30 v31 v32 v33 v34 v35 v36 v37 g8 g11 g12 (nI (gP ti)) tk kw g19 g20 g21 og g23 (nI cd) g26 g5 g6 g25 ln (gR (ti + 1)) fb fkw (gP (ti + 1)) (gR ((ti + 1) + 1)) (gK (ti + 1)) (gV (ti + 1)) s.heap.size hln (by omega) hKW hBY (TX.t hTX hn1.1)) (cwV 0 hts gX10_proofFact_X10_advance rfl rfl rfl (by decide +kernel) ⟨(Nat.le_of_ble_eq_true rfl), (Nat.le_of_ble_eq_true rfl)⟩) ⟨Wd.blind, va_recv hK hPc (ci := 11) (q0 := 0) rfl rfl, fun U hU hW => ⟨rfl, Wd.call hPc hDc hK hC hZ hS hFc U hU hW⟩⟩ rfl rfl hl.1 rfl (lv_room (Nat.le_of_ble_eq_true rfl)) dX10_proofFact_1 ⟨(Nat.le_of_ble_eq_true rfl), (Nat.le_of_ble_eq_true rfl)⟩) hS (fun q _ h => hFc q h) hFc (fun rn2 u t H1 locs ht hvm hw hB hz1 hk1 hS => ?_)
  obtain ⟨zn3, zn4, zn5, zn6, hn7, hP1, hD1⟩ := hB
  rw [ht] at hP1
  obtain ⟨hP, hD⟩ := PDq.join (w := [(v1, .inl (cA 0, 326, .inl fp)), (v28, .inl (cA 1, 10, .inr (.inl l28))), (v30, .inl (cA 1, 8, .inr (.inl l30))), (v32, .inl (cA 0, 400, .inl fc)), (oX10 w0 v0 v1 v2 v3 v4 g5 g6 (nI ed) g8 v9 (nI nb) g11 g12 v13 (nI ln) (nI (gP (ti + 1))) (nI (gR ((ti + 1) + 1))) zn3 zn4 zn5 g20 g21 og g23 (nI cd) zn6 g26 v27 v28 v29 v30 v31 v32 v33 v34 v35 v36 v37 (nI ol)), (v9, .inl (cA 0, 700, .inl fb)), (v13, .inl (cA 1, 15, .inr (.inl fkw)))]) 4 hP hD [0, 2, 3] [1, 4, 5, 6] rfl rfl (by decide) (by decide) hk1 hFc hP1 hD1 rfl
  generalize H1 = H at hP hS ⊢
  obtain rfl : rn2 = 1 := hw
  refine lv_pop hx hb dX10_proofFact_4 rfl ?_
  refine lv_aload_n hx hb dX10_proofFact_5 rfl (lv_at hl 0 rfl) ?_
  obtain ⟨hPc, hDc, hFc⟩ := PDq.cut (wc := [(oX10 w0 v0 v1 v2 v3 v4 g5 g6 (nI ed) g8 v9 (nI nb) g11 g12 v13 (nI ln) (nI (gP (ti + 1))) (nI (gR ((ti + 1) + 1))) zn3 zn4 zn5 g20 g21 og g23 (nI cd) zn6 g26 v27 v28 v29 v30 v31 v32 v33 v34 v35 v36 v37 (nI ol))]) hP hD hS hA [4] (by decide) rfl
  refine va_calli (va_runV (As := []) (rest := []) ⟨hx, hb, hml, hown, hts⟩ (y_isName l D cA sa w0 ed nb ol v0 v1 v2 v3 v4 v9 v13 v27 v28 v29 v30 v31 v32 v33 v34 v35 v36 v37 g8 g11 g12 zn5 g20 g21 og g23 g26 g5 g6 zn6 ln cd zn3 zn4 (ti + 1) ct fb gP gR gS gK gV H.size hln hct hn1.1 hTX hBY hn7) (cwV 0 hts gX10_proofFact_X10_isName rfl rfl rfl (by decide +kernel) ⟨(Nat.le_of_ble_eq_true rfl), (Nat.le_of_ble_eq_true rfl)⟩) ⟨Wd.blind, va_recv hK hPc (ci := 11) (q0 := 0) rfl rfl, fun U hU hW => ⟨rfl, Wd.call hPc hDc hK hC hZ hS hFc U hU hW⟩⟩ rfl rfl hl.1 rfl (lv_room (Nat.le_of_ble_eq_true rfl)) dX10_proofFact_6 ⟨(Nat.le_of_ble_eq_true rfl), (Nat.le_of_ble_eq_true rfl)⟩) hS (fun q _ h => hFc q h) hFc (fun rn8 u t H1 locs ht hvm hw hB hz1 hk1 hS => ?_)
  obtain ⟨hP1, hD1⟩ := hB
  rw [ht] at hP1
  obtain ⟨hP, hD⟩ := PDq.join (w := [(v1, .inl (cA 0, 326, .inl fp)), (v28, .inl (cA 1, 10, .inr (.inl l28))), (v30, .inl (cA 1, 8, .inr (.inl l30))), (v32, .inl (cA 0, 400, .inl fc)), (v9, .inl (cA 0, 700, .inl fb)), (v13, .inl (cA 1, 15, .inr (.inl fkw))), (oX10 w0 v0 v1 v2 v3 v4 g5 g6 (nI ed) g8 v9 (nI nb) g11 g12 v13 (nI ln) (nI (gP (ti + 1))) (nI (gR ((ti + 1) + 1))) zn3 zn4 zn5 g20 g21 og g23 (nI cd) zn6 g26 v27 v28 v29 v30 v31 v32 v33 v34 v35 v36 v37 (nI ol))]) 6 hP hD [4] [0, 1, 2, 3, 5, 6] rfl rfl (by decide) (by decide) hk1 hFc hP1 hD1 rfl
  generalize H1 = H at hP hS ⊢
  rcases hw with ⟨hr9, hn9⟩ | ⟨hr9, hn9⟩
  · skip
    subst hr9
    refine lv_if_ne (tgt := 18) hx hb dX10_proofFact_9 (by decide) (fun c10 => ?_) (fun c9 => absurd c9 (by decide))
    obtain rfl : zn6 = gV (ti + 1) := TKR.wd hn7 hn9
    obtain ⟨hP, hD⟩ : PDq D A [(v1, .inl (cA 0, 326, .inl fp)), (v28, .inl (cA 1, 10, .inr (.inl l28))), (v30, .inl (cA 1, 8, .inr (.inl l30))), (v32, .inl (cA 0, 400, .inl fc)), (v9, .inl (cA 0, 700, .inl fb)), (v13, .inl (cA 1, 15, .inr (.inl fkw))), (oX10 w0 v0 v1 v2 v3 v4 g5 g6 (nI ed) g8 v9 (nI nb) g11 g12 v13 (nI ln) (nI (gP (ti + 1))) (nI (gR ((ti + 1) + 1))) zn3 zn4 zn5 g20 g21 og g23 (nI cd) (gV (ti + 1)) g26 v27 v28 v29 v30 v31 v32 v33 v34 v35 v36 v37 (nI ol))] H := ⟨hP, hD⟩
    refine lv_aload_n hx hb dX10_proofFact_18 rfl (lv_at hl 0 rfl) ?_
    refine va_get (D := D) (ci := 11) (v := .ref v30) (C := RX10) (T := TX10) (N := 39) hx hb hts inX10 hown hK hP 6 rfl rfl 30 (by decide) (hts (.fieldLink RX10 45 "EscrowDeskModel" "proofsRead" "[J") (by decide +kernel)) (fun _ h9 => h9) rfl dX10_proofFact_19 ?_
    refine lv_aload_n hx hb dX10_proofFact_22 rfl (lv_at hl 0 rfl) ?_
    refine va_get (D := D) (ci := 11) (v := .ref v1) (C := RX10) (T := TX10) (N := 39) hx hb hts inX10 hown hK hP 6 rfl rfl 1 (by decide) (hts (.fieldLink RX10 13 "EscrowDeskModel" "parsed" "[I") (by decide +kernel)) (fun _ h9 => h9) rfl dX10_proofFact_23 ?_
    refine lv_bipush (v := 14) hx hb dX10_proofFact_26 (by decide) ?_
    refine va_iald hx hb hK hP 0 0 rfl rfl (vp_in_iff.mpr (by decide)) dX10_proofFact_28 ?_
    refine lv_topi (fun yn11 eyn11 => ?_)
    obtain rfl : yn11 = (nI pq) := eyn11.trans hri.2.1
    refine lv_aload_n hx hb dX10_proofFact_29 rfl (lv_at hl 0 rfl) ?_
    refine va_get (D := D) (ci := 11) (v := .long (gV (ti + 1))) (C := RX10) (T := TX10) (N := 39) hx hb hts inX10 hown hK hP 6 rfl rfl 25 (by decide) (hts (.fieldLink RX10 123 "EscrowDeskModel" "word" "J") (by decide +kernel)) (fun _ h9 => h9) rfl dX10_proofFact_30 ?_
    obtain ⟨hPc, hDc, hFc⟩ := PDq.cut (wc := [(v30, .inl (cA 1, 8, .inr (.inl l30)))]) hP hD hS hA [2] (by decide) rfl
    refine va_calli (va_runS (As := [.ref v30, .int (nI pq), .long (gV (ti + 1))]) (rest := []) ⟨hx, hb, hml, hown, hts⟩ (y_find8 l D cA sa v30 pq (gV (ti + 1)) l30 H.size hpq) (va_cwS 3 hts gX10_proofFact_X10_find rfl rfl rfl (by decide +kernel) ⟨(Nat.le_of_ble_eq_true rfl), (Nat.le_of_ble_eq_true rfl)⟩) ⟨Wd.blind, fun U hU hW => ⟨rfl, Wd.call hPc hDc hK hC hZ hS hFc U hU hW⟩⟩ rfl rfl hl.1 rfl (lv_room (Nat.le_of_ble_eq_true rfl)) dX10_proofFact_33 ⟨(Nat.le_of_ble_eq_true rfl), (Nat.le_of_ble_eq_true rfl)⟩) hS (fun q _ h => hFc q h) hFc (fun rn12 u t H1 locs ht hvm hw hB hz1 hk1 hS => ?_)
    obtain ⟨hP1, hD1⟩ := hB
    rw [ht] at hP1
    obtain ⟨hP, hD⟩ := PDq.join (w := [(v1, .inl (cA 0, 326, .inl fp)), (v28, .inl (cA 1, 10, .inr (.inl l28))), (v32, .inl (cA 0, 400, .inl fc)), (v9, .inl (cA 0, 700, .inl fb)), (v13, .inl (cA 1, 15, .inr (.inl fkw))), (oX10 w0 v0 v1 v2 v3 v4 g5 g6 (nI ed) g8 v9 (nI nb) g11 g12 v13 (nI ln) (nI (gP (ti + 1))) (nI (gR ((ti + 1) + 1))) zn3 zn4 zn5 g20 g21 og g23 (nI cd) (gV (ti + 1)) g26 v27 v28 v29 v30 v31 v32 v33 v34 v35 v36 v37 (nI ol)), (v30, .inl (cA 1, 8, .inr (.inl l30)))]) 6 hP hD [2] [0, 1, 3, 4, 5, 6] rfl rfl (by decide) (by decide) hk1 hFc hP1 hD1 rfl
    generalize H1 = H at hP hS ⊢
    rcases hw with ⟨hr9, hn13⟩ | ⟨kn14, hn15, hr9, hn13⟩
    · skip
      subst hr9
      have hn13 := NL.not hNP hn13
      refine lv_istore_n (lv' := [(1, .int (-1)), (0, .ref w0)]) hx hb dX10_proofFact_36 rfl hl (by decide) rfl (fun ls hl => ?_)
      refine lv_iload_n hx hb dX10_proofFact_37 rfl (lv_at hl 0 rfl) ?_
      refine lv_iconst (v := (-1)) hx hb dX10_proofFact_38 (by decide) ?_
      refine lv_icmp_ne (tgt := 89) hx hb dX10_proofFact_39 (by decide) (fun c9 => absurd c9 (by decide)) (fun c16 => ?_)
      refine lv_aload_n hx hb dX10_proofFact_42 rfl (lv_at hl 1 rfl) ?_
      refine va_get (D := D) (ci := 11) (v := .ref v1) (C := RX10) (T := TX10) (N := 39) hx hb hts inX10 hown hK hP 5 rfl rfl 1 (by decide) (hts (.fieldLink RX10 13 "EscrowDeskModel" "parsed" "[I") (by decide +kernel)) (fun _ h9 => h9) rfl dX10_proofFact_43 ?_
      refine lv_bipush (v := 14) hx hb dX10_proofFact_46 (by decide) ?_
      refine va_iald hx hb hK hP 0 0 rfl rfl (vp_in_iff.mpr (by decide)) dX10_proofFact_48 ?_
      refine lv_topi (fun yn17 eyn17 => ?_)
      obtain rfl : yn17 = (nI pq) := eyn17.trans hri.2.1
      refine lv_bipush (v := 8) hx hb dX10_proofFact_49 (by decide) ?_
      refine lv_icmp_ne (tgt := 60) hx hb dX10_proofFact_51 (by decide) (fun c18 => ?_) (fun c18 => ?_)
      · skip
        have hn19 : ¬ pq = 8 := fun h9 => c18 ((nI_eq (a := pq) (b := 8) (by omega) (by omega)).mpr h9)
        refine lv_aload_n hx hb dX10_proofFact_60 rfl (lv_at hl 1 rfl) ?_
        refine va_get (D := D) (ci := 11) (v := .ref v1) (C := RX10) (T := TX10) (N := 39) hx hb hts inX10 hown hK hP 5 rfl rfl 1 (by decide) (hts (.fieldLink RX10 13 "EscrowDeskModel" "parsed" "[I") (by decide +kernel)) (fun _ h9 => h9) rfl dX10_proofFact_61 ?_
        refine lv_bipush (v := 14) hx hb dX10_proofFact_64 (by decide) ?_
        refine va_iald hx hb hK hP 0 0 rfl rfl (vp_in_iff.mpr (by decide)) dX10_proofFact_66 ?_
        refine lv_topi (fun yn20 eyn20 => ?_)
        obtain rfl : yn20 = (nI pq) := eyn20.trans hri.2.1
        refine lv_istore_n (lv' := [(1, .int (nI pq)), (0, .ref w0)]) hx hb dX10_proofFact_67 rfl hl (by decide) rfl (fun ls hl => ?_)
        refine lv_aload_n hx hb dX10_proofFact_68 rfl (lv_at hl 1 rfl) ?_
        refine va_get (D := D) (ci := 11) (v := .ref v30) (C := RX10) (T := TX10) (N := 39) hx hb hts inX10 hown hK hP 5 rfl rfl 30 (by decide) (hts (.fieldLink RX10 45 "EscrowDeskModel" "proofsRead" "[J") (by decide +kernel)) (fun _ h9 => h9) rfl dX10_proofFact_69 ?_
        refine lv_iload_n hx hb dX10_proofFact_72 rfl (lv_at hl 0 rfl) ?_
        refine lv_aload_n hx hb dX10_proofFact_73 rfl (lv_at hl 1 rfl) ?_
        refine va_get (D := D) (ci := 11) (v := .long (gV (ti + 1))) (C := RX10) (T := TX10) (N := 39) hx hb hts inX10 hown hK hP 5 rfl rfl 25 (by decide) (hts (.fieldLink RX10 123 "EscrowDeskModel" "word" "J") (by decide +kernel)) (fun _ h9 => h9) rfl dX10_proofFact_74 ?_
        refine va_last hx hb hK hP hD hS 6 1 rfl rfl (vp_in_nI (n := pq) (N := 8) (show pq < 8 by omega) (by decide)) dX10_proofFact_77 (fun H locs hP hD hS => ?_)
        obtain ⟨hP, hD⟩ : PDq D A [(v1, .inl (cA 0, 326, .inl fp)), (v28, .inl (cA 1, 10, .inr (.inl l28))), (v32, .inl (cA 0, 400, .inl fc)), (v9, .inl (cA 0, 700, .inl fb)), (v13, .inl (cA 1, 15, .inr (.inl fkw))), (oX10 w0 v0 v1 v2 v3 v4 g5 g6 (nI ed) g8 v9 (nI nb) g11 g12 v13 (nI ln) (nI (gP (ti + 1))) (nI (gR ((ti + 1) + 1))) zn3 zn4 zn5 g20 g21 og g23 (nI cd) (gV (ti + 1)) g26 v27 v28 v29 v30 v31 v32 v33 v34 v35 v36 v37 (nI ol)), (v30, .inl (cA 1, 8, .inr (.inl (vp_updL l30 (((nI pq)).toNatClampNeg) (gV (ti + 1))))))] H := ⟨hP, hD⟩
        have hn22 : NL (pl ++ [(gV (ti + 1))]) (pq + 1) (vp_updL l30 (((nI pq)).toNatClampNeg) (gV (ti + 1))) := (by rw [nI_clamp (by omega)]; exact NL.put hNP _)
        generalize (vp_updL l30 (((nI pq)).toNatClampNeg) (gV (ti + 1))) = fn21 at hP hD hn22
        obtain ⟨hP, hD⟩ : PDq D A [(v1, .inl (cA 0, 326, .inl fp)), (v28, .inl (cA 1, 10, .inr (.inl l28))), (v32, .inl (cA 0, 400, .inl fc)), (v9, .inl (cA 0, 700, .inl fb)), (v13, .inl (cA 1, 15, .inr (.inl fkw))), (oX10 w0 v0 v1 v2 v3 v4 g5 g6 (nI ed) g8 v9 (nI nb) g11 g12 v13 (nI ln) (nI (gP (ti + 1))) (nI (gR ((ti + 1) + 1))) zn3 zn4 zn5 g20 g21 og g23 (nI cd) (gV (ti + 1)) g26 v27 v28 v29 v30 v31 v32 v33 v34 v35 v36 v37 (nI ol)), (v30, .inl (cA 1, 8, .inr (.inl fn21)))] H := ⟨hP, hD⟩
        refine lv_aload_n hx hb dX10_proofFact_78 rfl (lv_at hl 1 rfl) ?_
        refine va_get (D := D) (ci := 11) (v := .ref v1) (C := RX10) (T := TX10) (N := 39) hx hb hts inX10 hown hK hP 5 rfl rfl 1 (by decide) (hts (.fieldLink RX10 13 "EscrowDeskModel" "parsed" "[I") (by decide +kernel)) (fun _ h9 => h9) rfl dX10_proofFact_79 ?_
        refine lv_bipush (v := 14) hx hb dX10_proofFact_82 (by decide) ?_
        refine lv_dup2_11 hx hb dX10_proofFact_84 rfl rfl ?_
        refine va_iald hx hb hK hP 0 0 rfl rfl (vp_in_iff.mpr (by decide)) dX10_proofFact_85 ?_
        refine lv_topi (fun yn23 eyn23 => ?_)
        obtain rfl : yn23 = (nI pq) := eyn23.trans hri.2.1
        refine lv_iconst (v := 1) hx hb dX10_proofFact_86 (by decide) ?_
        refine lv_iadd hx hb dX10_proofFact_87 ?_
        refine lv_topi (fun yn24 eyn24 => ?_)
        obtain rfl : yn24 = (nI (pq + 1)) := eyn24.trans (nI_add pq 1)
        refine va_iast hx hb hK hP hD hS 0 0 rfl rfl (vp_in_iff.mpr (by decide)) dX10_proofFact_88 (fun H locs hP hD hS => ?_)
        obtain ⟨hP, hD⟩ : PDq D A [(v1, .inl (cA 0, 326, .inl (upd fp 14 (nI (pq + 1))))), (v28, .inl (cA 1, 10, .inr (.inl l28))), (v32, .inl (cA 0, 400, .inl fc)), (v9, .inl (cA 0, 700, .inl fb)), (v13, .inl (cA 1, 15, .inr (.inl fkw))), (oX10 w0 v0 v1 v2 v3 v4 g5 g6 (nI ed) g8 v9 (nI nb) g11 g12 v13 (nI ln) (nI (gP (ti + 1))) (nI (gR ((ti + 1) + 1))) zn3 zn4 zn5 g20 g21 og g23 (nI cd) (gV (ti + 1)) g26 v27 v28 v29 v30 v31 v32 v33 v34 v35 v36 v37 (nI ol)), (v30, .inl (cA 1, 8, .inr (.inl fn21)))] H := ⟨hP, hD⟩
        have hn26 : RI cn (pq + 1) en dy (upd fp 14 (nI (pq + 1))) := RI.prf hri (pq + 1)
        generalize (upd fp 14 (nI (pq + 1))) = fn25 at hP hD hn26
        obtain ⟨hP, hD⟩ : PDq D A [(v1, .inl (cA 0, 326, .inl fn25)), (v28, .inl (cA 1, 10, .inr (.inl l28))), (v32, .inl (cA 0, 400, .inl fc)), (v9, .inl (cA 0, 700, .inl fb)), (v13, .inl (cA 1, 15, .inr (.inl fkw))), (oX10 w0 v0 v1 v2 v3 v4 g5 g6 (nI ed) g8 v9 (nI nb) g11 g12 v13 (nI ln) (nI (gP (ti + 1))) (nI (gR ((ti + 1) + 1))) zn3 zn4 zn5 g20 g21 og g23 (nI cd) (gV (ti + 1)) g26 v27 v28 v29 v30 v31 v32 v33 v34 v35 v36 v37 (nI ol)), (v30, .inl (cA 1, 8, .inr (.inl fn21)))] H := ⟨hP, hD⟩
        refine lv_aload_n hx hb dX10_proofFact_89 rfl (lv_at hl 1 rfl) ?_
        refine lv_ldc (v := 100000) hx hb hown (hts (.constant RX10 201 100000) (by decide +kernel)) dX10_proofFact_90 ?_
        refine lv_iload_n hx hb dX10_proofFact_92 rfl (lv_at hl 0 rfl) ?_
        refine lv_iadd hx hb dX10_proofFact_93 ?_
        refine lv_topi (fun yn27 eyn27 => ?_)
        obtain rfl : yn27 = (nI (100000 + pq)) := eyn27.trans (nI_add 100000 pq)
        obtain ⟨hPc, hDc, hFc⟩ := PDq.cut (wc := [(oX10 w0 v0 v1 v2 v3 v4 g5 g6 (nI ed) g8 v9 (nI nb) g11 g12 v13 (nI ln) (nI (gP (ti + 1))) (nI (gR ((ti + 1) + 1))) zn3 zn4 zn5 g20 g21 og g23 (nI cd) (gV (ti + 1)) g26 v27 v28 v29 v30 v31 v32 v33 v34 v35 v36 v37 (nI ol)), (v32, .inl (cA 0, 400, .inl fc))]) hP hD hS hA [5, 2] (by decide) rfl
        refine va_calli (va_runV (As := [.int (nI (100000 + pq))]) (rest := []) ⟨hx, hb, hml, hown, hts⟩ (r_emit l D cA sa w0 ed nb ol v0 v1 v2 v3 v4 v9 v13 v27 v28 v29 v30 v31 v32 v33 v34 v35 v36 v37 g8 g11 g12 (nI ln) (nI (gP (ti + 1))) (nI (gR ((ti + 1) + 1))) zn3 zn4 zn5 g20 g21 og g23 g26 g5 g6 (gV (ti + 1)) cd (nI (100000 + pq)) fc H.size (by omega)) (cwV 1 hts gX10_proofFact_X10_emit rfl rfl rfl (by decide +kernel) ⟨(Nat.le_of_ble_eq_true rfl), (Nat.le_of_ble_eq_true rfl)⟩) ⟨Wd.blind, va_recv hK hPc (ci := 11) (q0 := 0) rfl rfl, fun U hU hW => ⟨rfl, Wd.call hPc hDc hK hC hZ hS hFc U hU hW⟩⟩ rfl rfl hl.1 rfl (lv_room (Nat.le_of_ble_eq_true rfl)) dX10_proofFact_94 ⟨(Nat.le_of_ble_eq_true rfl), (Nat.le_of_ble_eq_true rfl)⟩) hS (fun q _ h => hFc q h) hFc (fun rn28 u t H1 locs ht hvm hw hB hz1 hk1 hS => ?_)
        obtain ⟨fn29, hn30, hP1, hD1⟩ := hB
        rw [ht] at hP1
        obtain ⟨hP, hD⟩ := PDq.join (w := [(v1, .inl (cA 0, 326, .inl fn25)), (v28, .inl (cA 1, 10, .inr (.inl l28))), (v9, .inl (cA 0, 700, .inl fb)), (v13, .inl (cA 1, 15, .inr (.inl fkw))), (v30, .inl (cA 1, 8, .inr (.inl fn21))), (oX10 w0 v0 v1 v2 v3 v4 g5 g6 (nI ed) g8 v9 (nI nb) g11 g12 v13 (nI ln) (nI (gP (ti + 1))) (nI (gR ((ti + 1) + 1))) zn3 zn4 zn5 g20 g21 og g23 (nI (cd + 1)) (gV (ti + 1)) g26 v27 v28 v29 v30 v31 v32 v33 v34 v35 v36 v37 (nI ol)), (v32, .inl (cA 0, 400, .inl fn29))]) 5 hP hD [5, 2] [0, 1, 3, 4, 6] rfl rfl (by decide) (by decide) hk1 hFc hP1 hD1 rfl
        generalize H1 = H at hP hS ⊢
        obtain rfl : rn28 = 1 := hw
        refine lv_pop hx hb dX10_proofFact_97 rfl ?_
        refine lv_aload_n hx hb dX10_proofFact_98 rfl (lv_at hl 1 rfl) ?_
        have hn31 := TX.go hTX (show ti + 1 < ct by omega) (by rw [hn9]; decide)
        have hn31a := TX.le hTX (show ti + 1 < ct by omega)
        have hn31b := TX.le hTX hn31.1
        obtain ⟨hPc, hDc, hFc⟩ := PDq.cut (wc := [(oX10 w0 v0 v1 v2 v3 v4 g5 g6 (nI ed) g8 v9 (nI nb) g11 g12 v13 (nI ln) (nI (gP (ti + 1))) (nI (gR ((ti + 1) + 1))) zn3 zn4 zn5 g20 g21 og g23 (nI (cd + 1)) (gV (ti + 1)) g26 v27 v28 v29 v30 v31 v32 v33 v34 v35 v36 v37 (nI ol)), (v9, .inl (cA 0, 700, .inl fb)), (v13, .inl (cA 1, 15, .inr (.inl fkw)))]) hP hD hS hA [5, 2, 3] (by decide) rfl
        refine va_calli (va_runV (As := []) (rest := []) ⟨hx, hb, hml, hown, hts⟩ (y_advance l D cA sa w0 ed nb ol v0 v1 v2 v3 v4 v9 v13 v27 v28 v29 v30 v31 v32 v33 v34 v35 v36 v37 g8 g11 g12 (nI (gP (ti + 1))) zn3 zn4 zn5 g20 g21 og g23 (nI (cd + 1)) g26 g5 g6 (gV (ti + 1)) ln (gR ((ti + 1) + 1)) fb fkw (gP (ti + 1 + 1)) (gR ((ti + 1 + 1) + 1)) (gK (ti + 1 + 1)) (gV (ti + 1 + 1)) H.size hln (by omega) hKW hBY (TX.t hTX hn31.1)) (cwV 0 hts gX10_proofFact_X10_advance rfl rfl rfl (by decide +kernel) ⟨(Nat.le_of_ble_eq_true rfl), (Nat.le_of_ble_eq_true rfl)⟩) ⟨Wd.blind, va_recv hK hPc (ci := 11) (q0 := 0) rfl rfl, fun U hU hW => ⟨rfl, Wd.call hPc hDc hK hC hZ hS hFc U hU hW⟩⟩ rfl rfl hl.1 rfl (lv_room (Nat.le_of_ble_eq_true rfl)) dX10_proofFact_99 ⟨(Nat.le_of_ble_eq_true rfl), (Nat.le_of_ble_eq_true rfl)⟩) hS (fun q _ h => hFc q h) hFc (fun rn32 u t H1 locs ht hvm hw hB hz1 hk1 hS => ?_)
        obtain ⟨zn33, zn34, zn35, zn36, hn37, hP1, hD1⟩ := hB
        rw [ht] at hP1
        obtain ⟨hP, hD⟩ := PDq.join (w := [(v1, .inl (cA 0, 326, .inl fn25)), (v28, .inl (cA 1, 10, .inr (.inl l28))), (v30, .inl (cA 1, 8, .inr (.inl fn21))), (v32, .inl (cA 0, 400, .inl fn29)), (oX10 w0 v0 v1 v2 v3 v4 g5 g6 (nI ed) g8 v9 (nI nb) g11 g12 v13 (nI ln) (nI (gP (ti + 1 + 1))) (nI (gR ((ti + 1 + 1) + 1))) zn33 zn34 zn35 g20 g21 og g23 (nI (cd + 1)) zn36 g26 v27 v28 v29 v30 v31 v32 v33 v34 v35 v36 v37 (nI ol)), (v9, .inl (cA 0, 700, .inl fb)), (v13, .inl (cA 1, 15, .inr (.inl fkw)))]) 4 hP hD [5, 2, 3] [0, 1, 4, 6] rfl rfl (by decide) (by decide) hk1 hFc hP1 hD1 rfl
        generalize H1 = H at hP hS ⊢
        obtain rfl : rn32 = 1 := hw
        obtain ⟨hP9, hD9⟩ := PDq.sub (ws' := [(oX10 w0 v0 v1 v2 v3 v4 g5 g6 (nI ed) g8 v9 (nI nb) g11 g12 v13 (nI ln) (nI (gP (ti + 1 + 1))) (nI (gR ((ti + 1 + 1) + 1))) zn33 zn34 zn35 g20 g21 og g23 (nI (cd + 1)) zn36 g26 v27 v28 v29 v30 v31 v32 v33 v34 v35 v36 v37 (nI ol)), (v1, .inl (cA 0, 326, .inl fn25)), (v9, .inl (cA 0, 700, .inl fb)), (v13, .inl (cA 1, 15, .inr (.inl fkw))), (v28, .inl (cA 1, 10, .inr (.inl l28))), (v30, .inl (cA 1, 8, .inr (.inl fn21))), (v32, .inl (cA 0, 400, .inl fn29))]) hP hD [4, 0, 5, 6, 1, 2, 3] (by decide) rfl
        refine W.widen (k := 0) (n := 0) (Nat.le_of_ble_eq_true rfl) (Nat.le_of_ble_eq_true rfl) ?_
        exact (W.zret (v := 1) hx hb hr (by first | rfl | decide) (fun t ht hW => ⟨⟨1, 1, rfl, ⟨rfl, by decide⟩, (ti + 1 + 1), zn33, zn34, zn35, g20, g21, g26, zn36, (cd + 1), (pq + 1), fn25, fn29, fn21, (pl ++ [(gV (ti + 1))]), hn31.1, (by omega), (by omega), hn37, (by omega), hn26, hn22, (fun _ => rfl), (fun _ => rfl), (fun _ => (by omega)), (fun _ => (by omega)), (fun _ => (by omega)), (fun _ => (Em.kp hn30)), (fun _ => (Sg.leaf hn30 (nI_pos (by omega)))), (fun _ => (P_proofN hk hn9 hn13 (by have q9 := hNP.1; omega))), (fun h9 => absurd h9 (by decide)), by rw [ht]; exact hP9, hD9⟩, hS.F ht⟩) hS.2.2 dX10_proofFact_102)
      · skip
        have hn38 : pq = 8 := (nI_eq (a := pq) (b := 8) (by omega) (by omega)).mp c18
        refine lv_aload_n hx hb dX10_proofFact_54 rfl (lv_at hl 1 rfl) ?_
        refine lv_iconst (v := 5) hx hb dX10_proofFact_55 (by decide) ?_
        obtain ⟨hPc, hDc, hFc⟩ := PDq.cut (wc := [(oX10 w0 v0 v1 v2 v3 v4 g5 g6 (nI ed) g8 v9 (nI nb) g11 g12 v13 (nI ln) (nI (gP (ti + 1))) (nI (gR ((ti + 1) + 1))) zn3 zn4 zn5 g20 g21 og g23 (nI cd) (gV (ti + 1)) g26 v27 v28 v29 v30 v31 v32 v33 v34 v35 v36 v37 (nI ol))]) hP hD hS hA [5] (by decide) rfl
        refine va_calli (va_runV (As := [.int 5]) (rest := []) ⟨hx, hb, hml, hown, hts⟩ (y_fail l D cA sa w0 ed nb ol v0 v1 v2 v3 v4 v9 v13 v27 v28 v29 v30 v31 v32 v33 v34 v35 v36 v37 g8 g11 g12 zn5 g20 g21 og g23 g26 g5 g6 (gV (ti + 1)) ln cd zn3 zn4 (ti + 1) ct fb gP gR gS gK gV 5 H.size hln hct hn1.1 hTX hBY hn7) (cwV 1 hts gX10_proofFact_X10_fail rfl rfl rfl (by decide +kernel) ⟨(Nat.le_of_ble_eq_true rfl), (Nat.le_of_ble_eq_true rfl)⟩) ⟨Wd.blind, va_recv hK hPc (ci := 11) (q0 := 0) rfl rfl, fun U hU hW => ⟨rfl, Wd.call hPc hDc hK hC hZ hS hFc U hU hW⟩⟩ rfl rfl hl.1 rfl (lv_room (Nat.le_of_ble_eq_true rfl)) dX10_proofFact_56 ⟨(Nat.le_of_ble_eq_true rfl), (Nat.le_of_ble_eq_true rfl)⟩) hS (fun q _ h => hFc q h) hFc (fun rn39 u t H1 locs ht hvm hw hB hz1 hk1 hS => ?_)
        obtain ⟨zn40, hn41, hP1, hD1⟩ := hB
        rw [ht] at hP1
        obtain ⟨hP, hD⟩ := PDq.join (w := [(v1, .inl (cA 0, 326, .inl fp)), (v28, .inl (cA 1, 10, .inr (.inl l28))), (v32, .inl (cA 0, 400, .inl fc)), (v9, .inl (cA 0, 700, .inl fb)), (v13, .inl (cA 1, 15, .inr (.inl fkw))), (v30, .inl (cA 1, 8, .inr (.inl l30))), (oX10 w0 v0 v1 v2 v3 v4 g5 g6 (nI ed) g8 v9 (nI nb) g11 g12 v13 (nI ln) (nI (gP (ti + 1))) (nI (gR ((ti + 1) + 1))) zn3 zn4 zn5 zn40 (nI (gP (ti + 1))) og g23 (nI cd) (gV (ti + 1)) g26 v27 v28 v29 v30 v31 v32 v33 v34 v35 v36 v37 (nI ol))]) 6 hP hD [5] [0, 1, 2, 3, 4, 6] rfl rfl (by decide) (by decide) hk1 hFc hP1 hD1 rfl
        generalize H1 = H at hP hS ⊢
        obtain rfl : rn39 = 0 := hw
        obtain ⟨hP9, hD9⟩ := PDq.sub (ws' := [(oX10 w0 v0 v1 v2 v3 v4 g5 g6 (nI ed) g8 v9 (nI nb) g11 g12 v13 (nI ln) (nI (gP (ti + 1))) (nI (gR ((ti + 1) + 1))) zn3 zn4 zn5 zn40 (nI (gP (ti + 1))) og g23 (nI cd) (gV (ti + 1)) g26 v27 v28 v29 v30 v31 v32 v33 v34 v35 v36 v37 (nI ol)), (v1, .inl (cA 0, 326, .inl fp)), (v9, .inl (cA 0, 700, .inl fb)), (v13, .inl (cA 1, 15, .inr (.inl fkw))), (v28, .inl (cA 1, 10, .inr (.inl l28))), (v30, .inl (cA 1, 8, .inr (.inl l30))), (v32, .inl (cA 0, 400, .inl fc))]) hP hD [6, 0, 3, 4, 1, 5, 2] (by decide) rfl
        refine W.widen (k := 0) (n := 0) (Nat.le_of_ble_eq_true rfl) (Nat.le_of_ble_eq_true rfl) ?_
        exact (W.zret (v := 0) hx hb hr (by first | rfl | decide) (fun t ht hW => ⟨⟨0, 0, rfl, ⟨rfl, by decide⟩, (ti + 1), zn3, zn4, zn5, zn40, (nI (gP (ti + 1))), g26, (gV (ti + 1)), cd, pq, fp, fc, l30, pl, hn1.1, (by omega), (by omega), hn7, hpq, hri, hNP, (fun h9 => absurd h9 (by decide)), (fun h9 => absurd h9 (by decide)), (fun h9 => absurd h9 (by decide)), (fun h9 => absurd h9 (by decide)), (fun h9 => absurd h9 (by decide)), (fun h9 => absurd h9 (by decide)), (fun h9 => absurd h9 (by decide)), (fun h9 => absurd h9 (by decide)), (fun _ => (P_proofFx hk hn9 hn13 (by have q9 := hNP.1; omega) hn41 (TX.s hTX (show ti + 1 < ct by omega)))), by rw [ht]; exact hP9, hD9⟩, hS.F ht⟩) hS.2.2 dX10_proofFact_59)
    · skip
      subst hr9
      have hn13 := NL.mem hNP hn15 hn13
      refine lv_istore_n (lv' := [(1, .int (nI kn14)), (0, .ref w0)]) hx hb dX10_proofFact_36 rfl hl (by decide) rfl (fun ls hl => ?_)
      refine lv_iload_n hx hb dX10_proofFact_37 rfl (lv_at hl 0 rfl) ?_
      refine lv_iconst (v := (-1)) hx hb dX10_proofFact_38 (by decide) ?_
      refine lv_icmp_ne (tgt := 89) hx hb dX10_proofFact_39 (by decide) (fun c42 => ?_) (fun c9 => absurd c9 (nI_neg (n := kn14) (by omega) (by decide)))
      refine lv_aload_n hx hb dX10_proofFact_89 rfl (lv_at hl 1 rfl) ?_
      refine lv_ldc (v := 100000) hx hb hown (hts (.constant RX10 201 100000) (by decide +kernel)) dX10_proofFact_90 ?_
      refine lv_iload_n hx hb dX10_proofFact_92 rfl (lv_at hl 0 rfl) ?_
      refine lv_iadd hx hb dX10_proofFact_93 ?_
      refine lv_topi (fun yn43 eyn43 => ?_)
      obtain rfl : yn43 = (nI (100000 + kn14)) := eyn43.trans (nI_add 100000 kn14)
      obtain ⟨hPc, hDc, hFc⟩ := PDq.cut (wc := [(oX10 w0 v0 v1 v2 v3 v4 g5 g6 (nI ed) g8 v9 (nI nb) g11 g12 v13 (nI ln) (nI (gP (ti + 1))) (nI (gR ((ti + 1) + 1))) zn3 zn4 zn5 g20 g21 og g23 (nI cd) (gV (ti + 1)) g26 v27 v28 v29 v30 v31 v32 v33 v34 v35 v36 v37 (nI ol)), (v32, .inl (cA 0, 400, .inl fc))]) hP hD hS hA [5, 2] (by decide) rfl
      refine va_calli (va_runV (As := [.int (nI (100000 + kn14))]) (rest := []) ⟨hx, hb, hml, hown, hts⟩ (r_emit l D cA sa w0 ed nb ol v0 v1 v2 v3 v4 v9 v13 v27 v28 v29 v30 v31 v32 v33 v34 v35 v36 v37 g8 g11 g12 (nI ln) (nI (gP (ti + 1))) (nI (gR ((ti + 1) + 1))) zn3 zn4 zn5 g20 g21 og g23 g26 g5 g6 (gV (ti + 1)) cd (nI (100000 + kn14)) fc H.size (by omega)) (cwV 1 hts gX10_proofFact_X10_emit rfl rfl rfl (by decide +kernel) ⟨(Nat.le_of_ble_eq_true rfl), (Nat.le_of_ble_eq_true rfl)⟩) ⟨Wd.blind, va_recv hK hPc (ci := 11) (q0 := 0) rfl rfl, fun U hU hW => ⟨rfl, Wd.call hPc hDc hK hC hZ hS hFc U hU hW⟩⟩ rfl rfl hl.1 rfl (lv_room (Nat.le_of_ble_eq_true rfl)) dX10_proofFact_94 ⟨(Nat.le_of_ble_eq_true rfl), (Nat.le_of_ble_eq_true rfl)⟩) hS (fun q _ h => hFc q h) hFc (fun rn44 u t H1 locs ht hvm hw hB hz1 hk1 hS => ?_)
      obtain ⟨fn45, hn46, hP1, hD1⟩ := hB
      rw [ht] at hP1
      obtain ⟨hP, hD⟩ := PDq.join (w := [(v1, .inl (cA 0, 326, .inl fp)), (v28, .inl (cA 1, 10, .inr (.inl l28))), (v9, .inl (cA 0, 700, .inl fb)), (v13, .inl (cA 1, 15, .inr (.inl fkw))), (v30, .inl (cA 1, 8, .inr (.inl l30))), (oX10 w0 v0 v1 v2 v3 v4 g5 g6 (nI ed) g8 v9 (nI nb) g11 g12 v13 (nI ln) (nI (gP (ti + 1))) (nI (gR ((ti + 1) + 1))) zn3 zn4 zn5 g20 g21 og g23 (nI (cd + 1)) (gV (ti + 1)) g26 v27 v28 v29 v30 v31 v32 v33 v34 v35 v36 v37 (nI ol)), (v32, .inl (cA 0, 400, .inl fn45))]) 5 hP hD [5, 2] [0, 1, 3, 4, 6] rfl rfl (by decide) (by decide) hk1 hFc hP1 hD1 rfl
      generalize H1 = H at hP hS ⊢
      obtain rfl : rn44 = 1 := hw
      refine lv_pop hx hb dX10_proofFact_97 rfl ?_
      refine lv_aload_n hx hb dX10_proofFact_98 rfl (lv_at hl 1 rfl) ?_
      have hn47 := TX.go hTX (show ti + 1 < ct by omega) (by rw [hn9]; decide)
      have hn47a := TX.le hTX (show ti + 1 < ct by omega)
      have hn47b := TX.le hTX hn47.1
      obtain ⟨hPc, hDc, hFc⟩ := PDq.cut (wc := [(oX10 w0 v0 v1 v2 v3 v4 g5 g6 (nI ed) g8 v9 (nI nb) g11 g12 v13 (nI ln) (nI (gP (ti + 1))) (nI (gR ((ti + 1) + 1))) zn3 zn4 zn5 g20 g21 og g23 (nI (cd + 1)) (gV (ti + 1)) g26 v27 v28 v29 v30 v31 v32 v33 v34 v35 v36 v37 (nI ol)), (v9, .inl (cA 0, 700, .inl fb)), (v13, .inl (cA 1, 15, .inr (.inl fkw)))]) hP hD hS hA [5, 2, 3] (by decide) rfl
      refine va_calli (va_runV (As := []) (rest := []) ⟨hx, hb, hml, hown, hts⟩ (y_advance l D cA sa w0 ed nb ol v0 v1 v2 v3 v4 v9 v13 v27 v28 v29 v30 v31 v32 v33 v34 v35 v36 v37 g8 g11 g12 (nI (gP (ti + 1))) zn3 zn4 zn5 g20 g21 og g23 (nI (cd + 1)) g26 g5 g6 (gV (ti + 1)) ln (gR ((ti + 1) + 1)) fb fkw (gP (ti + 1 + 1)) (gR ((ti + 1 + 1) + 1)) (gK (ti + 1 + 1)) (gV (ti + 1 + 1)) H.size hln (by omega) hKW hBY (TX.t hTX hn47.1)) (cwV 0 hts gX10_proofFact_X10_advance rfl rfl rfl (by decide +kernel) ⟨(Nat.le_of_ble_eq_true rfl), (Nat.le_of_ble_eq_true rfl)⟩) ⟨Wd.blind, va_recv hK hPc (ci := 11) (q0 := 0) rfl rfl, fun U hU hW => ⟨rfl, Wd.call hPc hDc hK hC hZ hS hFc U hU hW⟩⟩ rfl rfl hl.1 rfl (lv_room (Nat.le_of_ble_eq_true rfl)) dX10_proofFact_99 ⟨(Nat.le_of_ble_eq_true rfl), (Nat.le_of_ble_eq_true rfl)⟩) hS (fun q _ h => hFc q h) hFc (fun rn48 u t H1 locs ht hvm hw hB hz1 hk1 hS => ?_)
      obtain ⟨zn49, zn50, zn51, zn52, hn53, hP1, hD1⟩ := hB
      rw [ht] at hP1
      obtain ⟨hP, hD⟩ := PDq.join (w := [(v1, .inl (cA 0, 326, .inl fp)), (v28, .inl (cA 1, 10, .inr (.inl l28))), (v30, .inl (cA 1, 8, .inr (.inl l30))), (v32, .inl (cA 0, 400, .inl fn45)), (oX10 w0 v0 v1 v2 v3 v4 g5 g6 (nI ed) g8 v9 (nI nb) g11 g12 v13 (nI ln) (nI (gP (ti + 1 + 1))) (nI (gR ((ti + 1 + 1) + 1))) zn49 zn50 zn51 g20 g21 og g23 (nI (cd + 1)) zn52 g26 v27 v28 v29 v30 v31 v32 v33 v34 v35 v36 v37 (nI ol)), (v9, .inl (cA 0, 700, .inl fb)), (v13, .inl (cA 1, 15, .inr (.inl fkw)))]) 4 hP hD [5, 2, 3] [0, 1, 4, 6] rfl rfl (by decide) (by decide) hk1 hFc hP1 hD1 rfl
      generalize H1 = H at hP hS ⊢
      obtain rfl : rn48 = 1 := hw
      obtain ⟨hP9, hD9⟩ := PDq.sub (ws' := [(oX10 w0 v0 v1 v2 v3 v4 g5 g6 (nI ed) g8 v9 (nI nb) g11 g12 v13 (nI ln) (nI (gP (ti + 1 + 1))) (nI (gR ((ti + 1 + 1) + 1))) zn49 zn50 zn51 g20 g21 og g23 (nI (cd + 1)) zn52 g26 v27 v28 v29 v30 v31 v32 v33 v34 v35 v36 v37 (nI ol)), (v1, .inl (cA 0, 326, .inl fp)), (v9, .inl (cA 0, 700, .inl fb)), (v13, .inl (cA 1, 15, .inr (.inl fkw))), (v28, .inl (cA 1, 10, .inr (.inl l28))), (v30, .inl (cA 1, 8, .inr (.inl l30))), (v32, .inl (cA 0, 400, .inl fn45))]) hP hD [4, 0, 5, 6, 1, 2, 3] (by decide) rfl
      refine W.widen (k := 0) (n := 0) (Nat.le_of_ble_eq_true rfl) (Nat.le_of_ble_eq_true rfl) ?_
      exact (W.zret (v := 1) hx hb hr (by first | rfl | decide) (fun t ht hW => ⟨⟨1, 1, rfl, ⟨rfl, by decide⟩, (ti + 1 + 1), zn49, zn50, zn51, g20, g21, g26, zn52, (cd + 1), pq, fp, fn45, l30, pl, hn47.1, (by omega), (by omega), hn53, hpq, hri, hNP, (fun _ => rfl), (fun _ => rfl), (fun _ => (by omega)), (fun _ => (by omega)), (fun _ => (by omega)), (fun _ => (Em.kp hn46)), (fun _ => (Sg.leaf hn46 (nI_pos (by omega)))), (fun _ => (P_proofO hk hn9 hn13)), (fun h9 => absurd h9 (by decide)), by rw [ht]; exact hP9, hD9⟩, hS.F ht⟩) hS.2.2 dX10_proofFact_102)
  · skip
    subst hr9
    refine lv_if_ne (tgt := 18) hx hb dX10_proofFact_9 (by decide) (fun c9 => absurd c9 (by decide)) (fun c54 => ?_)
    refine lv_aload_n hx hb dX10_proofFact_12 rfl (lv_at hl 0 rfl) ?_
    refine lv_iconst (v := 2) hx hb dX10_proofFact_13 (by decide) ?_
    obtain ⟨hPc, hDc, hFc⟩ := PDq.cut (wc := [(oX10 w0 v0 v1 v2 v3 v4 g5 g6 (nI ed) g8 v9 (nI nb) g11 g12 v13 (nI ln) (nI (gP (ti + 1))) (nI (gR ((ti + 1) + 1))) zn3 zn4 zn5 g20 g21 og g23 (nI cd) zn6 g26 v27 v28 v29 v30 v31 v32 v33 v34 v35 v36 v37 (nI ol))]) hP hD hS hA [6] (by decide) rfl
    refine va_calli (va_runV (As := [.int 2]) (rest := []) ⟨hx, hb, hml, hown, hts⟩ (y_fail l D cA sa w0 ed nb ol v0 v1 v2 v3 v4 v9 v13 v27 v28 v29 v30 v31 v32 v33 v34 v35 v36 v37 g8 g11 g12 zn5 g20 g21 og g23 g26 g5 g6 zn6 ln cd zn3 zn4 (ti + 1) ct fb gP gR gS gK gV 2 H.size hln hct hn1.1 hTX hBY hn7) (cwV 1 hts gX10_proofFact_X10_fail rfl rfl rfl (by decide +kernel) ⟨(Nat.le_of_ble_eq_true rfl), (Nat.le_of_ble_eq_true rfl)⟩) ⟨Wd.blind, va_recv hK hPc (ci := 11) (q0 := 0) rfl rfl, fun U hU hW => ⟨rfl, Wd.call hPc hDc hK hC hZ hS hFc U hU hW⟩⟩ rfl rfl hl.1 rfl (lv_room (Nat.le_of_ble_eq_true rfl)) dX10_proofFact_14 ⟨(Nat.le_of_ble_eq_true rfl), (Nat.le_of_ble_eq_true rfl)⟩) hS (fun q _ h => hFc q h) hFc (fun rn55 u t H1 locs ht hvm hw hB hz1 hk1 hS => ?_)
    obtain ⟨zn56, hn57, hP1, hD1⟩ := hB
    rw [ht] at hP1
    obtain ⟨hP, hD⟩ := PDq.join (w := [(v1, .inl (cA 0, 326, .inl fp)), (v28, .inl (cA 1, 10, .inr (.inl l28))), (v30, .inl (cA 1, 8, .inr (.inl l30))), (v32, .inl (cA 0, 400, .inl fc)), (v9, .inl (cA 0, 700, .inl fb)), (v13, .inl (cA 1, 15, .inr (.inl fkw))), (oX10 w0 v0 v1 v2 v3 v4 g5 g6 (nI ed) g8 v9 (nI nb) g11 g12 v13 (nI ln) (nI (gP (ti + 1))) (nI (gR ((ti + 1) + 1))) zn3 zn4 zn5 zn56 (nI (gP (ti + 1))) og g23 (nI cd) zn6 g26 v27 v28 v29 v30 v31 v32 v33 v34 v35 v36 v37 (nI ol))]) 6 hP hD [6] [0, 1, 2, 3, 4, 5] rfl rfl (by decide) (by decide) hk1 hFc hP1 hD1 rfl
    generalize H1 = H at hP hS ⊢
    obtain rfl : rn55 = 0 := hw
    obtain ⟨hP9, hD9⟩ := PDq.sub (ws' := [(oX10 w0 v0 v1 v2 v3 v4 g5 g6 (nI ed) g8 v9 (nI nb) g11 g12 v13 (nI ln) (nI (gP (ti + 1))) (nI (gR ((ti + 1) + 1))) zn3 zn4 zn5 zn56 (nI (gP (ti + 1))) og g23 (nI cd) zn6 g26 v27 v28 v29 v30 v31 v32 v33 v34 v35 v36 v37 (nI ol)), (v1, .inl (cA 0, 326, .inl fp)), (v9, .inl (cA 0, 700, .inl fb)), (v13, .inl (cA 1, 15, .inr (.inl fkw))), (v28, .inl (cA 1, 10, .inr (.inl l28))), (v30, .inl (cA 1, 8, .inr (.inl l30))), (v32, .inl (cA 0, 400, .inl fc))]) hP hD [6, 0, 4, 5, 1, 2, 3] (by decide) rfl
    refine W.widen (k := 0) (n := 0) (Nat.le_of_ble_eq_true rfl) (Nat.le_of_ble_eq_true rfl) ?_
    exact (W.zret (v := 0) hx hb hr (by first | rfl | decide) (fun t ht hW => ⟨⟨0, 0, rfl, ⟨rfl, by decide⟩, (ti + 1), zn3, zn4, zn5, zn56, (nI (gP (ti + 1))), g26, zn6, cd, pq, fp, fc, l30, pl, hn1.1, (by omega), (by omega), hn7, hpq, hri, hNP, (fun h9 => absurd h9 (by decide)), (fun h9 => absurd h9 (by decide)), (fun h9 => absurd h9 (by decide)), (fun h9 => absurd h9 (by decide)), (fun h9 => absurd h9 (by decide)), (fun h9 => absurd h9 (by decide)), (fun h9 => absurd h9 (by decide)), (fun h9 => absurd h9 (by decide)), (fun _ => (P_proofEx hk hn9 hn57 (TX.s hTX (show ti + 1 < ct by omega)))), by rw [ht]; exact hP9, hD9⟩, hS.F ht⟩) hS.2.2 dX10_proofFact_17)

set_option maxHeartbeats 4000000 in
set_option maxRecDepth 100000 in
/-- reference: doneFact -/
theorem y_doneFact (l : Launch) (D : va_G) (cA : Nat → ClassId) (sa : Nat → Nat) (w0 : Nat) (ed : Nat) (nb : Nat) (ol : Nat) (v0 : Nat) (v1 : Nat) (v2 : Nat) (v3 : Nat) (v4 : Nat) (v9 : Nat) (v13 : Nat) (v27 : Nat) (v28 : Nat) (v29 : Nat) (v30 : Nat) (v31 : Nat) (v32 : Nat) (v33 : Nat) (v34 : Nat) (v35 : Nat) (v36 : Nat) (v37 : Nat) (g8 : Int32) (g11 : Int32) (g12 : Int32) (g19 : Int32) (g20 : Int32) (g21 : Int32) (g23 : Int32) (g26 : Int32) (g5 : Int64) (g6 : Int64) (g25 : Int64) (ln : Nat) (cd : Nat) (tk : Int32) (kw : Int32) (ti : Nat) (ct : Nat) (fb : Nat → Int32) (fkw : Nat → Int64) (gP : Nat → Nat) (gR : Nat → Nat) (gS : Nat → Int32) (gK : Nat → Int32) (gV : Nat → Int64) (cn : Nat) (pq : Nat) (en : Nat) (dy : Nat) (fp : Nat → Int32) (sl : Nat) (o9 : Nat) (l28 : Nat → Int64) (l30 : Nat → Int64) (fc : Nat → Int32) (ml : List Int64) (pl : List Int64) (og : Int32) (sz : Nat) (hln : ln ≤ 700) (hct : ct ≤ 701) (hti : ti < ct) (hTX : TX fb ln ct gP gR gS gV gK) (hBY : BYn ln fb) (hTK : TKR (gK ti) (gV ti) (fb (gP ti)) tk kw g19 g25) (hKW : KW 15 fkw) (hcn : cn ≤ 10) (hpq : pq ≤ 8) (hen : en ≤ 60) (hdy : dy ≤ 20000) (hri : RI cn pq en dy fp) (hcd : 2 * cd + sl ≤ gP ti) (hNM : NL ml cn l28) (hNP : NL pl pq l30) (hk : gK ti = 19) : Met l yX10_doneFact wsX10_doneFact ({ frames := 2, cells := 0, slots := 0, locals := 44 }) (va_Pc [.ref w0] (Wd D cA sa [(oX10 w0 v0 v1 v2 v3 v4 g5 g6 (nI ed) g8 v9 (nI nb) g11 g12 v13 (nI ln) (nI (gP ti)) (nI (gR (ti + 1))) tk kw g19 g20 g21 og g23 (nI cd) g25 g26 v27 v28 v29 v30 v31 v32 v33 v34 v35 v36 v37 (nI ol)), (v1, .inl (cA 0, 326, .inl fp)), (v9, .inl (cA 0, 700, .inl fb)), (v13, .inl (cA 1, 15, .inr (.inl fkw))), (v28, .inl (cA 1, 10, .inr (.inl l28))), (v30, .inl (cA 1, 8, .inr (.inl l30))), (v32, .inl (cA 0, 400, .inl fc))] sz)) (va_Qi (fun (r : Int32) (u9 : Int32) => u9 = r ∧ (r = 0 ∨ r = 1)) (fun (u9 : Int32) t => ∃ tj : Nat, ∃ z17 : Int32, ∃ z18 : Int32, ∃ z19 : Int32, ∃ z20 : Int32, ∃ z21 : Int32, ∃ z26 : Int32, ∃ z25 : Int64, ∃ cd2 : Nat, ∃ pq2 : Nat, ∃ zp : Nat → Int32, ∃ zc : Nat → Int32, ∃ zl : Nat → Int64, ∃ zpl : List Int64, tj < ct ∧ gP tj ≤ ln ∧ ti ≤ tj ∧ TKR (gK tj) (gV tj) (fb (gP tj)) z17 z18 z19 z25 ∧ pq2 ≤ 8 ∧ RI cn pq2 en dy zp ∧ NL zpl pq2 zl ∧ (u9 = 1 → z20 = g20) ∧ (u9 = 1 → z21 = g21) ∧ (u9 = 1 → ti + 1 ≤ tj) ∧ (u9 = 1 → cd ≤ cd2) ∧ (u9 = 1 → 2 * cd2 + sl ≤ gP tj) ∧ (u9 = 1 → Kp cd fc zc) ∧ (u9 = 1 → Sg cd cd2 zc) ∧ (u9 = 1 → PRx gK gS gV ml 0 o9 ti pl (.inr (tj, zpl))) ∧ (u9 = 0 → PRx gK gS gV ml 0 o9 ti pl (.inl (z20, z21))) ∧ Wq D (va_A [(oX10 w0 v0 v1 v2 v3 v4 g5 g6 (nI ed) g8 v9 (nI nb) g11 g12 v13 (nI ln) (nI (gP ti)) (nI (gR (ti + 1))) tk kw g19 g20 g21 og g23 (nI cd) g25 g26 v27 v28 v29 v30 v31 v32 v33 v34 v35 v36 v37 (nI ol)), (v1, .inl (cA 0, 326, .inl fp)), (v9, .inl (cA 0, 700, .inl fb)), (v13, .inl (cA 1, 15, .inr (.inl fkw))), (v28, .inl (cA 1, 10, .inr (.inl l28))), (v30, .inl (cA 1, 8, .inr (.inl l30))), (v32, .inl (cA 0, 400, .inl fc))] sz) [(oX10 w0 v0 v1 v2 v3 v4 g5 g6 (nI ed) g8 v9 (nI nb) g11 g12 v13 (nI ln) (nI (gP tj)) (nI (gR (tj + 1))) z17 z18 z19 z20 z21 og g23 (nI cd2) z25 z26 v27 v28 v29 v30 v31 v32 v33 v34 v35 v36 v37 (nI ol)), (v1, .inl (cA 0, 326, .inl zp)), (v9, .inl (cA 0, 700, .inl fb)), (v13, .inl (cA 1, 15, .inr (.inl fkw))), (v28, .inl (cA 1, 10, .inr (.inl l28))), (v30, .inl (cA 1, 8, .inr (.inl zl))), (v32, .inl (cA 0, 400, .inl zc))] t) (va_A [(oX10 w0 v0 v1 v2 v3 v4 g5 g6 (nI ed) g8 v9 (nI nb) g11 g12 v13 (nI ln) (nI (gP ti)) (nI (gR (ti + 1))) tk kw g19 g20 g21 og g23 (nI cd) g25 g26 v27 v28 v29 v30 v31 v32 v33 v34 v35 v36 v37 (nI ol)), (v1, .inl (cA 0, 326, .inl fp)), (v9, .inl (cA 0, 700, .inl fb)), (v13, .inl (cA 1, 15, .inr (.inl fkw))), (v28, .inl (cA 1, 10, .inr (.inl l28))), (v30, .inl (cA 1, 8, .inr (.inl l30))), (v32, .inl (cA 0, 400, .inl fc))] sz)) 0 0 (va_A [(oX10 w0 v0 v1 v2 v3 v4 g5 g6 (nI ed) g8 v9 (nI nb) g11 g12 v13 (nI ln) (nI (gP ti)) (nI (gR (ti + 1))) tk kw g19 g20 g21 og g23 (nI cd) g25 g26 v27 v28 v29 v30 v31 v32 v33 v34 v35 v36 v37 (nI ol)), (v1, .inl (cA 0, 326, .inl fp)), (v9, .inl (cA 0, 700, .inl fb)), (v13, .inl (cA 1, 15, .inr (.inl fkw))), (v28, .inl (cA 1, 10, .inr (.inl l28))), (v30, .inl (cA 1, 8, .inr (.inl l30))), (v32, .inl (cA 0, 400, .inl fc))] sz) := by
  refine Met.ofW (cc := cX10_doneFact) (maxL := 2) (ret := (some .boolean)) (by decide) rfl ?_
  intro p e s m args below meth c s₁ B hml hv
  obtain ⟨rfl, hsz, hP, hK, hD0, hC, hZ⟩ := hv
  have hx := B.exec
  have hb := B.bytes
  have hr := B.returns
  have hts := atoms_spec (ws := wsX10_doneFact) B.pre
  have hown : s.vm.findClass RX10 = some m.cls := findClass_of_methodNamed B.named
  have hlocks := B.notSynchronized
  subst hsz
  have hD := hD0.self (sz := s.heap.size)
  generalize hAe : va_A [(oX10 w0 v0 v1 v2 v3 v4 g5 g6 (nI ed) g8 v9 (nI nb) g11 g12 v13 (nI ln) (nI (gP ti)) (nI (gR (ti + 1))) tk kw g19 g20 g21 og g23 (nI cd) g25 g26 v27 v28 v29 v30 v31 v32 v33 v34 v35 v36 v37 (nI ol)), (v1, .inl (cA 0, 326, .inl fp)), (v9, .inl (cA 0, 700, .inl fb)), (v13, .inl (cA 1, 15, .inr (.inl fkw))), (v28, .inl (cA 1, 10, .inr (.inl l28))), (v30, .inl (cA 1, 8, .inr (.inl l30))), (v32, .inl (cA 0, 400, .inl fc))] s.heap.size = A at hD hZ ⊢
  have hA : ∀ q : Nat, s.heap.size ≤ q → A q := fun q h => by rw [← hAe]; exact Or.inr h
  have hS : va_S A s.heap s.heap [] := va_S.rf
  have hP : va_P D vwCl [(oX10 w0 v0 v1 v2 v3 v4 g5 g6 (nI ed) g8 v9 (nI nb) g11 g12 v13 (nI ln) (nI (gP ti)) (nI (gR (ti + 1))) tk kw g19 g20 g21 og g23 (nI cd) g25 g26 v27 v28 v29 v30 v31 v32 v33 v34 v35 v36 v37 (nI ol)), (v1, .inl (cA 0, 326, .inl fp)), (v9, .inl (cA 0, 700, .inl fb)), (v13, .inl (cA 1, 15, .inr (.inl fkw))), (v28, .inl (cA 1, 10, .inr (.inl l28))), (v30, .inl (cA 1, 8, .inr (.inl l30))), (v32, .inl (cA 0, 400, .inl fc))] s.heap := hP
  have hl := lv_entry ([.ref w0]) (n := 2) (Nat.le_of_ble_eq_true rfl)
  rw [lg_entry_eq]
  generalize (lg_sl ([.ref w0]) ++ List.replicate (2 - (lg_sl ([.ref w0])).length) Slot.unset).toArray = ls at hl ⊢
  have hl : lv_has ls 2 [(0, .ref w0)] := hl
  have inX10 : ∀ w ∈ u_ws RX10 TX10 39, w ∈ wsX10_doneFact := by decide +kernel
  have hle9 := TX.le hTX hti
  refine lv_aload_n hx hb dX10_doneFact_0 rfl (lv_at hl 0 rfl) ?_
  have hn1 := TX.go2 hTX (show ti < ct by omega) (by rw [hk]; decide)
  have hn1a := TX.le hTX (show ti < ct by omega)
  have hn1b := TX.le hTX hn1.1
  obtain ⟨hPc, hDc, hFc⟩ := PDq.cut (wc := [(oX10 w0 v0 v1 v2 v3 v4 g5 g6 (nI ed) g8 v9 (nI nb) g11 g12 v13 (nI ln) (nI (gP ti)) (nI (gR (ti + 1))) tk kw g19 g20 g21 og g23 (nI cd) g25 g26 v27 v28 v29 v30 v31 v32 v33 v34 v35 v36 v37 (nI ol)), (v9, .inl (cA 0, 700, .inl fb)), (v13, .inl (cA 1, 15, .inr (.inl fkw)))]) hP hD hS hA [0, 2, 3] (by decide) rfl
  refine va_calli (va_runV (As := []) (rest := []) ⟨hx, hb, hml, hown, hts⟩ (y_advance l D cA sa w0 ed nb ol v0 v1 v2 v3 v4 v9 v13 v27 v28 v29 v30 v31 v32 v33 v34 v35 v36 v37 g8 g11 g12 (nI (gP ti)) tk kw g19 g20 g21 og g23 (nI cd) g26 g5 g6 g25 ln (gR (ti + 1)) fb fkw (gP (ti + 1)) (gR ((ti + 1) + 1)) (gK (ti + 1)) (gV (ti + 1)) s.heap.size hln (by omega) hKW hBY (TX.t hTX hn1.1)) (cwV 0 hts gX10_doneFact_X10_advance rfl rfl rfl (by decide +kernel) ⟨(Nat.le_of_ble_eq_true rfl), (Nat.le_of_ble_eq_true rfl)⟩) ⟨Wd.blind, va_recv hK hPc (ci := 11) (q0 := 0) rfl rfl, fun U hU hW => ⟨rfl, Wd.call hPc hDc hK hC hZ hS hFc U hU hW⟩⟩ rfl rfl hl.1 rfl (lv_room (Nat.le_of_ble_eq_true rfl)) dX10_doneFact_1 ⟨(Nat.le_of_ble_eq_true rfl), (Nat.le_of_ble_eq_true rfl)⟩) hS (fun q _ h => hFc q h) hFc (fun rn2 u t H1 locs ht hvm hw hB hz1 hk1 hS => ?_)
  obtain ⟨zn3, zn4, zn5, zn6, hn7, hP1, hD1⟩ := hB
  rw [ht] at hP1
  obtain ⟨hP, hD⟩ := PDq.join (w := [(v1, .inl (cA 0, 326, .inl fp)), (v28, .inl (cA 1, 10, .inr (.inl l28))), (v30, .inl (cA 1, 8, .inr (.inl l30))), (v32, .inl (cA 0, 400, .inl fc)), (oX10 w0 v0 v1 v2 v3 v4 g5 g6 (nI ed) g8 v9 (nI nb) g11 g12 v13 (nI ln) (nI (gP (ti + 1))) (nI (gR ((ti + 1) + 1))) zn3 zn4 zn5 g20 g21 og g23 (nI cd) zn6 g26 v27 v28 v29 v30 v31 v32 v33 v34 v35 v36 v37 (nI ol)), (v9, .inl (cA 0, 700, .inl fb)), (v13, .inl (cA 1, 15, .inr (.inl fkw)))]) 4 hP hD [0, 2, 3] [1, 4, 5, 6] rfl rfl (by decide) (by decide) hk1 hFc hP1 hD1 rfl
  generalize H1 = H at hP hS ⊢
  obtain rfl : rn2 = 1 := hw
  refine lv_pop hx hb dX10_doneFact_4 rfl ?_
  refine lv_aload_n hx hb dX10_doneFact_5 rfl (lv_at hl 0 rfl) ?_
  obtain ⟨hPc, hDc, hFc⟩ := PDq.cut (wc := [(oX10 w0 v0 v1 v2 v3 v4 g5 g6 (nI ed) g8 v9 (nI nb) g11 g12 v13 (nI ln) (nI (gP (ti + 1))) (nI (gR ((ti + 1) + 1))) zn3 zn4 zn5 g20 g21 og g23 (nI cd) zn6 g26 v27 v28 v29 v30 v31 v32 v33 v34 v35 v36 v37 (nI ol))]) hP hD hS hA [4] (by decide) rfl
  refine va_calli (va_runV (As := []) (rest := []) ⟨hx, hb, hml, hown, hts⟩ (y_isName l D cA sa w0 ed nb ol v0 v1 v2 v3 v4 v9 v13 v27 v28 v29 v30 v31 v32 v33 v34 v35 v36 v37 g8 g11 g12 zn5 g20 g21 og g23 g26 g5 g6 zn6 ln cd zn3 zn4 (ti + 1) ct fb gP gR gS gK gV H.size hln hct hn1.1 hTX hBY hn7) (cwV 0 hts gX10_doneFact_X10_isName rfl rfl rfl (by decide +kernel) ⟨(Nat.le_of_ble_eq_true rfl), (Nat.le_of_ble_eq_true rfl)⟩) ⟨Wd.blind, va_recv hK hPc (ci := 11) (q0 := 0) rfl rfl, fun U hU hW => ⟨rfl, Wd.call hPc hDc hK hC hZ hS hFc U hU hW⟩⟩ rfl rfl hl.1 rfl (lv_room (Nat.le_of_ble_eq_true rfl)) dX10_doneFact_6 ⟨(Nat.le_of_ble_eq_true rfl), (Nat.le_of_ble_eq_true rfl)⟩) hS (fun q _ h => hFc q h) hFc (fun rn8 u t H1 locs ht hvm hw hB hz1 hk1 hS => ?_)
  obtain ⟨hP1, hD1⟩ := hB
  rw [ht] at hP1
  obtain ⟨hP, hD⟩ := PDq.join (w := [(v1, .inl (cA 0, 326, .inl fp)), (v28, .inl (cA 1, 10, .inr (.inl l28))), (v30, .inl (cA 1, 8, .inr (.inl l30))), (v32, .inl (cA 0, 400, .inl fc)), (v9, .inl (cA 0, 700, .inl fb)), (v13, .inl (cA 1, 15, .inr (.inl fkw))), (oX10 w0 v0 v1 v2 v3 v4 g5 g6 (nI ed) g8 v9 (nI nb) g11 g12 v13 (nI ln) (nI (gP (ti + 1))) (nI (gR ((ti + 1) + 1))) zn3 zn4 zn5 g20 g21 og g23 (nI cd) zn6 g26 v27 v28 v29 v30 v31 v32 v33 v34 v35 v36 v37 (nI ol))]) 6 hP hD [4] [0, 1, 2, 3, 5, 6] rfl rfl (by decide) (by decide) hk1 hFc hP1 hD1 rfl
  generalize H1 = H at hP hS ⊢
  rcases hw with ⟨hr9, hn9⟩ | ⟨hr9, hn9⟩
  · skip
    subst hr9
    refine lv_if_ne (tgt := 18) hx hb dX10_doneFact_9 (by decide) (fun c10 => ?_) (fun c9 => absurd c9 (by decide))
    obtain rfl : zn6 = gV (ti + 1) := TKR.wd hn7 hn9
    obtain ⟨hP, hD⟩ : PDq D A [(v1, .inl (cA 0, 326, .inl fp)), (v28, .inl (cA 1, 10, .inr (.inl l28))), (v30, .inl (cA 1, 8, .inr (.inl l30))), (v32, .inl (cA 0, 400, .inl fc)), (v9, .inl (cA 0, 700, .inl fb)), (v13, .inl (cA 1, 15, .inr (.inl fkw))), (oX10 w0 v0 v1 v2 v3 v4 g5 g6 (nI ed) g8 v9 (nI nb) g11 g12 v13 (nI ln) (nI (gP (ti + 1))) (nI (gR ((ti + 1) + 1))) zn3 zn4 zn5 g20 g21 og g23 (nI cd) (gV (ti + 1)) g26 v27 v28 v29 v30 v31 v32 v33 v34 v35 v36 v37 (nI ol))] H := ⟨hP, hD⟩
    refine lv_aload_n hx hb dX10_doneFact_18 rfl (lv_at hl 0 rfl) ?_
    refine va_get (D := D) (ci := 11) (v := .ref v28) (C := RX10) (T := TX10) (N := 39) hx hb hts inX10 hown hK hP 6 rfl rfl 28 (by decide) (hts (.fieldLink RX10 39 "EscrowDeskModel" "namesRead" "[J") (by decide +kernel)) (fun _ h9 => h9) rfl dX10_doneFact_19 ?_
    refine lv_aload_n hx hb dX10_doneFact_22 rfl (lv_at hl 0 rfl) ?_
    refine va_get (D := D) (ci := 11) (v := .ref v1) (C := RX10) (T := TX10) (N := 39) hx hb hts inX10 hown hK hP 6 rfl rfl 1 (by decide) (hts (.fieldLink RX10 13 "EscrowDeskModel" "parsed" "[I") (by decide +kernel)) (fun _ h9 => h9) rfl dX10_doneFact_23 ?_
    refine lv_bipush (v := 13) hx hb dX10_doneFact_26 (by decide) ?_
    refine va_iald hx hb hK hP 0 0 rfl rfl (vp_in_iff.mpr (by decide)) dX10_doneFact_28 ?_
    refine lv_topi (fun yn11 eyn11 => ?_)
    obtain rfl : yn11 = (nI cn) := eyn11.trans hri.1
    refine lv_aload_n hx hb dX10_doneFact_29 rfl (lv_at hl 0 rfl) ?_
    refine va_get (D := D) (ci := 11) (v := .long (gV (ti + 1))) (C := RX10) (T := TX10) (N := 39) hx hb hts inX10 hown hK hP 6 rfl rfl 25 (by decide) (hts (.fieldLink RX10 123 "EscrowDeskModel" "word" "J") (by decide +kernel)) (fun _ h9 => h9) rfl dX10_doneFact_30 ?_
    obtain ⟨hPc, hDc, hFc⟩ := PDq.cut (wc := [(v28, .inl (cA 1, 10, .inr (.inl l28)))]) hP hD hS hA [1] (by decide) rfl
    refine va_calli (va_runS (As := [.ref v28, .int (nI cn), .long (gV (ti + 1))]) (rest := []) ⟨hx, hb, hml, hown, hts⟩ (y_find10 l D cA sa v28 cn (gV (ti + 1)) l28 H.size hcn) (va_cwS 3 hts gX10_doneFact_X10_find rfl rfl rfl (by decide +kernel) ⟨(Nat.le_of_ble_eq_true rfl), (Nat.le_of_ble_eq_true rfl)⟩) ⟨Wd.blind, fun U hU hW => ⟨rfl, Wd.call hPc hDc hK hC hZ hS hFc U hU hW⟩⟩ rfl rfl hl.1 rfl (lv_room (Nat.le_of_ble_eq_true rfl)) dX10_doneFact_33 ⟨(Nat.le_of_ble_eq_true rfl), (Nat.le_of_ble_eq_true rfl)⟩) hS (fun q _ h => hFc q h) hFc (fun rn12 u t H1 locs ht hvm hw hB hz1 hk1 hS => ?_)
    obtain ⟨hP1, hD1⟩ := hB
    rw [ht] at hP1
    obtain ⟨hP, hD⟩ := PDq.join (w := [(v1, .inl (cA 0, 326, .inl fp)), (v30, .inl (cA 1, 8, .inr (.inl l30))), (v32, .inl (cA 0, 400, .inl fc)), (v9, .inl (cA 0, 700, .inl fb)), (v13, .inl (cA 1, 15, .inr (.inl fkw))), (oX10 w0 v0 v1 v2 v3 v4 g5 g6 (nI ed) g8 v9 (nI nb) g11 g12 v13 (nI ln) (nI (gP (ti + 1))) (nI (gR ((ti + 1) + 1))) zn3 zn4 zn5 g20 g21 og g23 (nI cd) (gV (ti + 1)) g26 v27 v28 v29 v30 v31 v32 v33 v34 v35 v36 v37 (nI ol)), (v28, .inl (cA 1, 10, .inr (.inl l28)))]) 6 hP hD [1] [0, 2, 3, 4, 5, 6] rfl rfl (by decide) (by decide) hk1 hFc hP1 hD1 rfl
    generalize H1 = H at hP hS ⊢
    rcases hw with ⟨hr9, hn13⟩ | ⟨kn14, hn15, hr9, hn13⟩
    · skip
      subst hr9
      have hn13 := NL.not hNM hn13
      refine lv_istore_n (lv' := [(1, .int (-1)), (0, .ref w0)]) hx hb dX10_doneFact_36 rfl hl (by decide) rfl (fun ls hl => ?_)
      refine lv_iload_n hx hb dX10_doneFact_37 rfl (lv_at hl 0 rfl) ?_
      refine lv_iconst (v := (-1)) hx hb dX10_doneFact_38 (by decide) ?_
      refine lv_icmp_ne (tgt := 48) hx hb dX10_doneFact_39 (by decide) (fun c9 => absurd c9 (by decide)) (fun c16 => ?_)
      refine lv_aload_n hx hb dX10_doneFact_42 rfl (lv_at hl 1 rfl) ?_
      refine lv_iconst (v := 4) hx hb dX10_doneFact_43 (by decide) ?_
      obtain ⟨hPc, hDc, hFc⟩ := PDq.cut (wc := [(oX10 w0 v0 v1 v2 v3 v4 g5 g6 (nI ed) g8 v9 (nI nb) g11 g12 v13 (nI ln) (nI (gP (ti + 1))) (nI (gR ((ti + 1) + 1))) zn3 zn4 zn5 g20 g21 og g23 (nI cd) (gV (ti + 1)) g26 v27 v28 v29 v30 v31 v32 v33 v34 v35 v36 v37 (nI ol))]) hP hD hS hA [5] (by decide) rfl
      refine va_calli (va_runV (As := [.int 4]) (rest := []) ⟨hx, hb, hml, hown, hts⟩ (y_fail l D cA sa w0 ed nb ol v0 v1 v2 v3 v4 v9 v13 v27 v28 v29 v30 v31 v32 v33 v34 v35 v36 v37 g8 g11 g12 zn5 g20 g21 og g23 g26 g5 g6 (gV (ti + 1)) ln cd zn3 zn4 (ti + 1) ct fb gP gR gS gK gV 4 H.size hln hct hn1.1 hTX hBY hn7) (cwV 1 hts gX10_doneFact_X10_fail rfl rfl rfl (by decide +kernel) ⟨(Nat.le_of_ble_eq_true rfl), (Nat.le_of_ble_eq_true rfl)⟩) ⟨Wd.blind, va_recv hK hPc (ci := 11) (q0 := 0) rfl rfl, fun U hU hW => ⟨rfl, Wd.call hPc hDc hK hC hZ hS hFc U hU hW⟩⟩ rfl rfl hl.1 rfl (lv_room (Nat.le_of_ble_eq_true rfl)) dX10_doneFact_44 ⟨(Nat.le_of_ble_eq_true rfl), (Nat.le_of_ble_eq_true rfl)⟩) hS (fun q _ h => hFc q h) hFc (fun rn17 u t H1 locs ht hvm hw hB hz1 hk1 hS => ?_)
      obtain ⟨zn18, hn19, hP1, hD1⟩ := hB
      rw [ht] at hP1
      obtain ⟨hP, hD⟩ := PDq.join (w := [(v1, .inl (cA 0, 326, .inl fp)), (v30, .inl (cA 1, 8, .inr (.inl l30))), (v32, .inl (cA 0, 400, .inl fc)), (v9, .inl (cA 0, 700, .inl fb)), (v13, .inl (cA 1, 15, .inr (.inl fkw))), (v28, .inl (cA 1, 10, .inr (.inl l28))), (oX10 w0 v0 v1 v2 v3 v4 g5 g6 (nI ed) g8 v9 (nI nb) g11 g12 v13 (nI ln) (nI (gP (ti + 1))) (nI (gR ((ti + 1) + 1))) zn3 zn4 zn5 zn18 (nI (gP (ti + 1))) og g23 (nI cd) (gV (ti + 1)) g26 v27 v28 v29 v30 v31 v32 v33 v34 v35 v36 v37 (nI ol))]) 6 hP hD [5] [0, 1, 2, 3, 4, 6] rfl rfl (by decide) (by decide) hk1 hFc hP1 hD1 rfl
      generalize H1 = H at hP hS ⊢
      obtain rfl : rn17 = 0 := hw
      obtain ⟨hP9, hD9⟩ := PDq.sub (ws' := [(oX10 w0 v0 v1 v2 v3 v4 g5 g6 (nI ed) g8 v9 (nI nb) g11 g12 v13 (nI ln) (nI (gP (ti + 1))) (nI (gR ((ti + 1) + 1))) zn3 zn4 zn5 zn18 (nI (gP (ti + 1))) og g23 (nI cd) (gV (ti + 1)) g26 v27 v28 v29 v30 v31 v32 v33 v34 v35 v36 v37 (nI ol)), (v1, .inl (cA 0, 326, .inl fp)), (v9, .inl (cA 0, 700, .inl fb)), (v13, .inl (cA 1, 15, .inr (.inl fkw))), (v28, .inl (cA 1, 10, .inr (.inl l28))), (v30, .inl (cA 1, 8, .inr (.inl l30))), (v32, .inl (cA 0, 400, .inl fc))]) hP hD [6, 0, 3, 4, 5, 1, 2] (by decide) rfl
      refine W.widen (k := 0) (n := 0) (Nat.le_of_ble_eq_true rfl) (Nat.le_of_ble_eq_true rfl) ?_
      exact (W.zret (v := 0) hx hb hr (by first | rfl | decide) (fun t ht hW => ⟨⟨0, 0, rfl, ⟨rfl, by decide⟩, (ti + 1), zn3, zn4, zn5, zn18, (nI (gP (ti + 1))), g26, (gV (ti + 1)), cd, pq, fp, fc, l30, pl, hn1.1, (by omega), (by omega), hn7, hpq, hri, hNP, (fun h9 => absurd h9 (by decide)), (fun h9 => absurd h9 (by decide)), (fun h9 => absurd h9 (by decide)), (fun h9 => absurd h9 (by decide)), (fun h9 => absurd h9 (by decide)), (fun h9 => absurd h9 (by decide)), (fun h9 => absurd h9 (by decide)), (fun h9 => absurd h9 (by decide)), (fun _ => (P_doneFx hk hn9 hn13 hn19 (TX.s hTX (show ti + 1 < ct by omega)))), by rw [ht]; exact hP9, hD9⟩, hS.F ht⟩) hS.2.2 dX10_doneFact_47)
    · skip
      subst hr9
      have hn13 := NL.mem hNM hn15 hn13
      refine lv_istore_n (lv' := [(1, .int (nI kn14)), (0, .ref w0)]) hx hb dX10_doneFact_36 rfl hl (by decide) rfl (fun ls hl => ?_)
      refine lv_iload_n hx hb dX10_doneFact_37 rfl (lv_at hl 0 rfl) ?_
      refine lv_iconst (v := (-1)) hx hb dX10_doneFact_38 (by decide) ?_
      refine lv_icmp_ne (tgt := 48) hx hb dX10_doneFact_39 (by decide) (fun c20 => ?_) (fun c9 => absurd c9 (nI_neg (n := kn14) (by omega) (by decide)))
      refine lv_aload_n hx hb dX10_doneFact_48 rfl (lv_at hl 1 rfl) ?_
      refine lv_ldc (v := 200000) hx hb hown (hts (.constant RX10 202 200000) (by decide +kernel)) dX10_doneFact_49 ?_
      refine lv_iload_n hx hb dX10_doneFact_51 rfl (lv_at hl 0 rfl) ?_
      refine lv_iadd hx hb dX10_doneFact_52 ?_
      refine lv_topi (fun yn21 eyn21 => ?_)
      obtain rfl : yn21 = (nI (200000 + kn14)) := eyn21.trans (nI_add 200000 kn14)
      obtain ⟨hPc, hDc, hFc⟩ := PDq.cut (wc := [(oX10 w0 v0 v1 v2 v3 v4 g5 g6 (nI ed) g8 v9 (nI nb) g11 g12 v13 (nI ln) (nI (gP (ti + 1))) (nI (gR ((ti + 1) + 1))) zn3 zn4 zn5 g20 g21 og g23 (nI cd) (gV (ti + 1)) g26 v27 v28 v29 v30 v31 v32 v33 v34 v35 v36 v37 (nI ol)), (v32, .inl (cA 0, 400, .inl fc))]) hP hD hS hA [5, 2] (by decide) rfl
      refine va_calli (va_runV (As := [.int (nI (200000 + kn14))]) (rest := []) ⟨hx, hb, hml, hown, hts⟩ (r_emit l D cA sa w0 ed nb ol v0 v1 v2 v3 v4 v9 v13 v27 v28 v29 v30 v31 v32 v33 v34 v35 v36 v37 g8 g11 g12 (nI ln) (nI (gP (ti + 1))) (nI (gR ((ti + 1) + 1))) zn3 zn4 zn5 g20 g21 og g23 g26 g5 g6 (gV (ti + 1)) cd (nI (200000 + kn14)) fc H.size (by omega)) (cwV 1 hts gX10_doneFact_X10_emit rfl rfl rfl (by decide +kernel) ⟨(Nat.le_of_ble_eq_true rfl), (Nat.le_of_ble_eq_true rfl)⟩) ⟨Wd.blind, va_recv hK hPc (ci := 11) (q0 := 0) rfl rfl, fun U hU hW => ⟨rfl, Wd.call hPc hDc hK hC hZ hS hFc U hU hW⟩⟩ rfl rfl hl.1 rfl (lv_room (Nat.le_of_ble_eq_true rfl)) dX10_doneFact_53 ⟨(Nat.le_of_ble_eq_true rfl), (Nat.le_of_ble_eq_true rfl)⟩) hS (fun q _ h => hFc q h) hFc (fun rn22 u t H1 locs ht hvm hw hB hz1 hk1 hS => ?_)
      obtain ⟨fn23, hn24, hP1, hD1⟩ := hB
      rw [ht] at hP1
      obtain ⟨hP, hD⟩ := PDq.join (w := [(v1, .inl (cA 0, 326, .inl fp)), (v30, .inl (cA 1, 8, .inr (.inl l30))), (v9, .inl (cA 0, 700, .inl fb)), (v13, .inl (cA 1, 15, .inr (.inl fkw))), (v28, .inl (cA 1, 10, .inr (.inl l28))), (oX10 w0 v0 v1 v2 v3 v4 g5 g6 (nI ed) g8 v9 (nI nb) g11 g12 v13 (nI ln) (nI (gP (ti + 1))) (nI (gR ((ti + 1) + 1))) zn3 zn4 zn5 g20 g21 og g23 (nI (cd + 1)) (gV (ti + 1)) g26 v27 v28 v29 v30 v31 v32 v33 v34 v35 v36 v37 (nI ol)), (v32, .inl (cA 0, 400, .inl fn23))]) 5 hP hD [5, 2] [0, 1, 3, 4, 6] rfl rfl (by decide) (by decide) hk1 hFc hP1 hD1 rfl
      generalize H1 = H at hP hS ⊢
      obtain rfl : rn22 = 1 := hw
      refine lv_pop hx hb dX10_doneFact_56 rfl ?_
      refine lv_aload_n hx hb dX10_doneFact_57 rfl (lv_at hl 1 rfl) ?_
      have hn25 := TX.go hTX (show ti + 1 < ct by omega) (by rw [hn9]; decide)
      have hn25a := TX.le hTX (show ti + 1 < ct by omega)
      have hn25b := TX.le hTX hn25.1
      obtain ⟨hPc, hDc, hFc⟩ := PDq.cut (wc := [(oX10 w0 v0 v1 v2 v3 v4 g5 g6 (nI ed) g8 v9 (nI nb) g11 g12 v13 (nI ln) (nI (gP (ti + 1))) (nI (gR ((ti + 1) + 1))) zn3 zn4 zn5 g20 g21 og g23 (nI (cd + 1)) (gV (ti + 1)) g26 v27 v28 v29 v30 v31 v32 v33 v34 v35 v36 v37 (nI ol)), (v9, .inl (cA 0, 700, .inl fb)), (v13, .inl (cA 1, 15, .inr (.inl fkw)))]) hP hD hS hA [5, 2, 3] (by decide) rfl
      refine va_calli (va_runV (As := []) (rest := []) ⟨hx, hb, hml, hown, hts⟩ (y_advance l D cA sa w0 ed nb ol v0 v1 v2 v3 v4 v9 v13 v27 v28 v29 v30 v31 v32 v33 v34 v35 v36 v37 g8 g11 g12 (nI (gP (ti + 1))) zn3 zn4 zn5 g20 g21 og g23 (nI (cd + 1)) g26 g5 g6 (gV (ti + 1)) ln (gR ((ti + 1) + 1)) fb fkw (gP (ti + 1 + 1)) (gR ((ti + 1 + 1) + 1)) (gK (ti + 1 + 1)) (gV (ti + 1 + 1)) H.size hln (by omega) hKW hBY (TX.t hTX hn25.1)) (cwV 0 hts gX10_doneFact_X10_advance rfl rfl rfl (by decide +kernel) ⟨(Nat.le_of_ble_eq_true rfl), (Nat.le_of_ble_eq_true rfl)⟩) ⟨Wd.blind, va_recv hK hPc (ci := 11) (q0 := 0) rfl rfl, fun U hU hW => ⟨rfl, Wd.call hPc hDc hK hC hZ hS hFc U hU hW⟩⟩ rfl rfl hl.1 rfl (lv_room (Nat.le_of_ble_eq_true rfl)) dX10_doneFact_58 ⟨(Nat.le_of_ble_eq_true rfl), (Nat.le_of_ble_eq_true rfl)⟩) hS (fun q _ h => hFc q h) hFc (fun rn26 u t H1 locs ht hvm hw hB hz1 hk1 hS => ?_)
      obtain ⟨zn27, zn28, zn29, zn30, hn31, hP1, hD1⟩ := hB
      rw [ht] at hP1
      obtain ⟨hP, hD⟩ := PDq.join (w := [(v1, .inl (cA 0, 326, .inl fp)), (v30, .inl (cA 1, 8, .inr (.inl l30))), (v28, .inl (cA 1, 10, .inr (.inl l28))), (v32, .inl (cA 0, 400, .inl fn23)), (oX10 w0 v0 v1 v2 v3 v4 g5 g6 (nI ed) g8 v9 (nI nb) g11 g12 v13 (nI ln) (nI (gP (ti + 1 + 1))) (nI (gR ((ti + 1 + 1) + 1))) zn27 zn28 zn29 g20 g21 og g23 (nI (cd + 1)) zn30 g26 v27 v28 v29 v30 v31 v32 v33 v34 v35 v36 v37 (nI ol)), (v9, .inl (cA 0, 700, .inl fb)), (v13, .inl (cA 1, 15, .inr (.inl fkw)))]) 4 hP hD [5, 2, 3] [0, 1, 4, 6] rfl rfl (by decide) (by decide) hk1 hFc hP1 hD1 rfl
      generalize H1 = H at hP hS ⊢
      obtain rfl : rn26 = 1 := hw
      obtain ⟨hP9, hD9⟩ := PDq.sub (ws' := [(oX10 w0 v0 v1 v2 v3 v4 g5 g6 (nI ed) g8 v9 (nI nb) g11 g12 v13 (nI ln) (nI (gP (ti + 1 + 1))) (nI (gR ((ti + 1 + 1) + 1))) zn27 zn28 zn29 g20 g21 og g23 (nI (cd + 1)) zn30 g26 v27 v28 v29 v30 v31 v32 v33 v34 v35 v36 v37 (nI ol)), (v1, .inl (cA 0, 326, .inl fp)), (v9, .inl (cA 0, 700, .inl fb)), (v13, .inl (cA 1, 15, .inr (.inl fkw))), (v28, .inl (cA 1, 10, .inr (.inl l28))), (v30, .inl (cA 1, 8, .inr (.inl l30))), (v32, .inl (cA 0, 400, .inl fn23))]) hP hD [4, 0, 5, 6, 2, 1, 3] (by decide) rfl
      refine W.widen (k := 0) (n := 0) (Nat.le_of_ble_eq_true rfl) (Nat.le_of_ble_eq_true rfl) ?_
      exact (W.zret (v := 1) hx hb hr (by first | rfl | decide) (fun t ht hW => ⟨⟨1, 1, rfl, ⟨rfl, by decide⟩, (ti + 1 + 1), zn27, zn28, zn29, g20, g21, g26, zn30, (cd + 1), pq, fp, fn23, l30, pl, hn25.1, (by omega), (by omega), hn31, hpq, hri, hNP, (fun _ => rfl), (fun _ => rfl), (fun _ => (by omega)), (fun _ => (by omega)), (fun _ => (by omega)), (fun _ => (Em.kp hn24)), (fun _ => (Sg.leaf hn24 (nI_pos (by omega)))), (fun _ => (P_done hk hn9 hn13)), (fun h9 => absurd h9 (by decide)), by rw [ht]; exact hP9, hD9⟩, hS.F ht⟩) hS.2.2 dX10_doneFact_61)
  · skip
    subst hr9
    refine lv_if_ne (tgt := 18) hx hb dX10_doneFact_9 (by decide) (fun c9 => absurd c9 (by decide)) (fun c32 => ?_)
    refine lv_aload_n hx hb dX10_doneFact_12 rfl (lv_at hl 0 rfl) ?_
    refine lv_iconst (v := 2) hx hb dX10_doneFact_13 (by decide) ?_
    obtain ⟨hPc, hDc, hFc⟩ := PDq.cut (wc := [(oX10 w0 v0 v1 v2 v3 v4 g5 g6 (nI ed) g8 v9 (nI nb) g11 g12 v13 (nI ln) (nI (gP (ti + 1))) (nI (gR ((ti + 1) + 1))) zn3 zn4 zn5 g20 g21 og g23 (nI cd) zn6 g26 v27 v28 v29 v30 v31 v32 v33 v34 v35 v36 v37 (nI ol))]) hP hD hS hA [6] (by decide) rfl
    refine va_calli (va_runV (As := [.int 2]) (rest := []) ⟨hx, hb, hml, hown, hts⟩ (y_fail l D cA sa w0 ed nb ol v0 v1 v2 v3 v4 v9 v13 v27 v28 v29 v30 v31 v32 v33 v34 v35 v36 v37 g8 g11 g12 zn5 g20 g21 og g23 g26 g5 g6 zn6 ln cd zn3 zn4 (ti + 1) ct fb gP gR gS gK gV 2 H.size hln hct hn1.1 hTX hBY hn7) (cwV 1 hts gX10_doneFact_X10_fail rfl rfl rfl (by decide +kernel) ⟨(Nat.le_of_ble_eq_true rfl), (Nat.le_of_ble_eq_true rfl)⟩) ⟨Wd.blind, va_recv hK hPc (ci := 11) (q0 := 0) rfl rfl, fun U hU hW => ⟨rfl, Wd.call hPc hDc hK hC hZ hS hFc U hU hW⟩⟩ rfl rfl hl.1 rfl (lv_room (Nat.le_of_ble_eq_true rfl)) dX10_doneFact_14 ⟨(Nat.le_of_ble_eq_true rfl), (Nat.le_of_ble_eq_true rfl)⟩) hS (fun q _ h => hFc q h) hFc (fun rn33 u t H1 locs ht hvm hw hB hz1 hk1 hS => ?_)
    obtain ⟨zn34, hn35, hP1, hD1⟩ := hB
    rw [ht] at hP1
    obtain ⟨hP, hD⟩ := PDq.join (w := [(v1, .inl (cA 0, 326, .inl fp)), (v28, .inl (cA 1, 10, .inr (.inl l28))), (v30, .inl (cA 1, 8, .inr (.inl l30))), (v32, .inl (cA 0, 400, .inl fc)), (v9, .inl (cA 0, 700, .inl fb)), (v13, .inl (cA 1, 15, .inr (.inl fkw))), (oX10 w0 v0 v1 v2 v3 v4 g5 g6 (nI ed) g8 v9 (nI nb) g11 g12 v13 (nI ln) (nI (gP (ti + 1))) (nI (gR ((ti + 1) + 1))) zn3 zn4 zn5 zn34 (nI (gP (ti + 1))) og g23 (nI cd) zn6 g26 v27 v28 v29 v30 v31 v32 v33 v34 v35 v36 v37 (nI ol))]) 6 hP hD [6] [0, 1, 2, 3, 4, 5] rfl rfl (by decide) (by decide) hk1 hFc hP1 hD1 rfl
    generalize H1 = H at hP hS ⊢
    obtain rfl : rn33 = 0 := hw
    obtain ⟨hP9, hD9⟩ := PDq.sub (ws' := [(oX10 w0 v0 v1 v2 v3 v4 g5 g6 (nI ed) g8 v9 (nI nb) g11 g12 v13 (nI ln) (nI (gP (ti + 1))) (nI (gR ((ti + 1) + 1))) zn3 zn4 zn5 zn34 (nI (gP (ti + 1))) og g23 (nI cd) zn6 g26 v27 v28 v29 v30 v31 v32 v33 v34 v35 v36 v37 (nI ol)), (v1, .inl (cA 0, 326, .inl fp)), (v9, .inl (cA 0, 700, .inl fb)), (v13, .inl (cA 1, 15, .inr (.inl fkw))), (v28, .inl (cA 1, 10, .inr (.inl l28))), (v30, .inl (cA 1, 8, .inr (.inl l30))), (v32, .inl (cA 0, 400, .inl fc))]) hP hD [6, 0, 4, 5, 1, 2, 3] (by decide) rfl
    refine W.widen (k := 0) (n := 0) (Nat.le_of_ble_eq_true rfl) (Nat.le_of_ble_eq_true rfl) ?_
    exact (W.zret (v := 0) hx hb hr (by first | rfl | decide) (fun t ht hW => ⟨⟨0, 0, rfl, ⟨rfl, by decide⟩, (ti + 1), zn3, zn4, zn5, zn34, (nI (gP (ti + 1))), g26, zn6, cd, pq, fp, fc, l30, pl, hn1.1, (by omega), (by omega), hn7, hpq, hri, hNP, (fun h9 => absurd h9 (by decide)), (fun h9 => absurd h9 (by decide)), (fun h9 => absurd h9 (by decide)), (fun h9 => absurd h9 (by decide)), (fun h9 => absurd h9 (by decide)), (fun h9 => absurd h9 (by decide)), (fun h9 => absurd h9 (by decide)), (fun h9 => absurd h9 (by decide)), (fun _ => (P_doneEx hk hn9 hn35 (TX.s hTX (show ti + 1 < ct by omega)))), by rw [ht]; exact hP9, hD9⟩, hS.F ht⟩) hS.2.2 dX10_doneFact_17)

set_option maxHeartbeats 4000000 in
set_option maxRecDepth 100000 in
/-- reference: numberFact -/
theorem y_numberFact0 (l : Launch) (D : va_G) (cA : Nat → ClassId) (sa : Nat → Nat) (w0 : Nat) (ed : Nat) (nb : Nat) (ol : Nat) (v0 : Nat) (v1 : Nat) (v2 : Nat) (v3 : Nat) (v4 : Nat) (v9 : Nat) (v13 : Nat) (v27 : Nat) (v28 : Nat) (v29 : Nat) (v30 : Nat) (v31 : Nat) (v32 : Nat) (v33 : Nat) (v34 : Nat) (v35 : Nat) (v36 : Nat) (v37 : Nat) (g8 : Int32) (g11 : Int32) (g12 : Int32) (g19 : Int32) (g20 : Int32) (g21 : Int32) (g23 : Int32) (g26 : Int32) (g5 : Int64) (g6 : Int64) (g25 : Int64) (ln : Nat) (cd : Nat) (tk : Int32) (kw : Int32) (ti : Nat) (ct : Nat) (fb : Nat → Int32) (fkw : Nat → Int64) (gP : Nat → Nat) (gR : Nat → Nat) (gS : Nat → Int32) (gK : Nat → Int32) (gV : Nat → Int64) (cn : Nat) (pq : Nat) (en : Nat) (dy : Nat) (fp : Nat → Int32) (sl : Nat) (o9 : Nat) (l28 : Nat → Int64) (l30 : Nat → Int64) (fc : Nat → Int32) (ml : List Int64) (pl : List Int64) (og : Int32) (sz : Nat) (hln : ln ≤ 700) (hct : ct ≤ 701) (hti : ti < ct) (hTX : TX fb ln ct gP gR gS gV gK) (hBY : BYn ln fb) (hTK : TKR (gK ti) (gV ti) (fb (gP ti)) tk kw g19 g25) (hKW : KW 15 fkw) (hcn : cn ≤ 10) (hpq : pq ≤ 8) (hen : en ≤ 60) (hdy : dy ≤ 20000) (hri : RI cn pq en dy fp) (hcd : 2 * cd + sl ≤ gP ti) (hNM : NL ml cn l28) (hNP : NL pl pq l30) (hk : gK ti = 17) : Met l yX10_numberFact wsX10_numberFact ({ frames := 3, cells := 0, slots := 0, locals := 66 }) (va_Pc [.ref w0, .int 0, .int 999] (Wd D cA sa [(oX10 w0 v0 v1 v2 v3 v4 g5 g6 (nI ed) g8 v9 (nI nb) g11 g12 v13 (nI ln) (nI (gP ti)) (nI (gR (ti + 1))) tk kw g19 g20 g21 og g23 (nI cd) g25 g26 v27 v28 v29 v30 v31 v32 v33 v34 v35 v36 v37 (nI ol)), (v1, .inl (cA 0, 326, .inl fp)), (v9, .inl (cA 0, 700, .inl fb)), (v13, .inl (cA 1, 15, .inr (.inl fkw))), (v28, .inl (cA 1, 10, .inr (.inl l28))), (v30, .inl (cA 1, 8, .inr (.inl l30))), (v32, .inl (cA 0, 400, .inl fc))] sz)) (va_Qi (fun (r : Int32) (u9 : Int32) => u9 = r ∧ (r = 0 ∨ r = 1)) (fun (u9 : Int32) t => ∃ tj : Nat, ∃ z17 : Int32, ∃ z18 : Int32, ∃ z19 : Int32, ∃ z20 : Int32, ∃ z21 : Int32, ∃ z26 : Int32, ∃ z25 : Int64, ∃ cd2 : Nat, ∃ pq2 : Nat, ∃ zp : Nat → Int32, ∃ zc : Nat → Int32, ∃ zl : Nat → Int64, ∃ zpl : List Int64, tj < ct ∧ gP tj ≤ ln ∧ ti ≤ tj ∧ TKR (gK tj) (gV tj) (fb (gP tj)) z17 z18 z19 z25 ∧ pq2 ≤ 8 ∧ RI cn pq2 en dy zp ∧ NL zpl pq2 zl ∧ (u9 = 1 → z20 = g20) ∧ (u9 = 1 → z21 = g21) ∧ (u9 = 1 → ti + 1 ≤ tj) ∧ (u9 = 1 → cd ≤ cd2) ∧ (u9 = 1 → 2 * cd2 + sl ≤ gP tj) ∧ (u9 = 1 → Kp cd fc zc) ∧ (u9 = 1 → Sg cd cd2 zc) ∧ (u9 = 1 → PRx gK gS gV ml 0 o9 ti pl (.inr (tj, zpl))) ∧ (u9 = 0 → PRx gK gS gV ml 0 o9 ti pl (.inl (z20, z21))) ∧ Wq D (va_A [(oX10 w0 v0 v1 v2 v3 v4 g5 g6 (nI ed) g8 v9 (nI nb) g11 g12 v13 (nI ln) (nI (gP ti)) (nI (gR (ti + 1))) tk kw g19 g20 g21 og g23 (nI cd) g25 g26 v27 v28 v29 v30 v31 v32 v33 v34 v35 v36 v37 (nI ol)), (v1, .inl (cA 0, 326, .inl fp)), (v9, .inl (cA 0, 700, .inl fb)), (v13, .inl (cA 1, 15, .inr (.inl fkw))), (v28, .inl (cA 1, 10, .inr (.inl l28))), (v30, .inl (cA 1, 8, .inr (.inl l30))), (v32, .inl (cA 0, 400, .inl fc))] sz) [(oX10 w0 v0 v1 v2 v3 v4 g5 g6 (nI ed) g8 v9 (nI nb) g11 g12 v13 (nI ln) (nI (gP tj)) (nI (gR (tj + 1))) z17 z18 z19 z20 z21 og g23 (nI cd2) z25 z26 v27 v28 v29 v30 v31 v32 v33 v34 v35 v36 v37 (nI ol)), (v1, .inl (cA 0, 326, .inl zp)), (v9, .inl (cA 0, 700, .inl fb)), (v13, .inl (cA 1, 15, .inr (.inl fkw))), (v28, .inl (cA 1, 10, .inr (.inl l28))), (v30, .inl (cA 1, 8, .inr (.inl zl))), (v32, .inl (cA 0, 400, .inl zc))] t) (va_A [(oX10 w0 v0 v1 v2 v3 v4 g5 g6 (nI ed) g8 v9 (nI nb) g11 g12 v13 (nI ln) (nI (gP ti)) (nI (gR (ti + 1))) tk kw g19 g20 g21 og g23 (nI cd) g25 g26 v27 v28 v29 v30 v31 v32 v33 v34 v35 v36 v37 (nI ol)), (v1, .inl (cA 0, 326, .inl fp)), (v9, .inl (cA 0, 700, .inl fb)), (v13, .inl (cA 1, 15, .inr (.inl fkw))), (v28, .inl (cA 1, 10, .inr (.inl l28))), (v30, .inl (cA 1, 8, .inr (.inl l30))), (v32, .inl (cA 0, 400, .inl fc))] sz)) 0 0 (va_A [(oX10 w0 v0 v1 v2 v3 v4 g5 g6 (nI ed) g8 v9 (nI nb) g11 g12 v13 (nI ln) (nI (gP ti)) (nI (gR (ti + 1))) tk kw g19 g20 g21 og g23 (nI cd) g25 g26 v27 v28 v29 v30 v31 v32 v33 v34 v35 v36 v37 (nI ol)), (v1, .inl (cA 0, 326, .inl fp)), (v9, .inl (cA 0, 700, .inl fb)), (v13, .inl (cA 1, 15, .inr (.inl fkw))), (v28, .inl (cA 1, 10, .inr (.inl l28))), (v30, .inl (cA 1, 8, .inr (.inl l30))), (v32, .inl (cA 0, 400, .inl fc))] sz) := by
  refine Met.ofW (cc := cX10_numberFact) (maxL := 3) (ret := (some .boolean)) (by decide) rfl ?_
  intro p e s m args below meth c s₁ B hml hv
  obtain ⟨rfl, hsz, hP, hK, hD0, hC, hZ⟩ := hv
  have hx := B.exec
  have hb := B.bytes
  have hr := B.returns
  have hts := atoms_spec (ws := wsX10_numberFact) B.pre
  have hown : s.vm.findClass RX10 = some m.cls := findClass_of_methodNamed B.named
  have hlocks := B.notSynchronized
  subst hsz
  have hD := hD0.self (sz := s.heap.size)
  generalize hAe : va_A [(oX10 w0 v0 v1 v2 v3 v4 g5 g6 (nI ed) g8 v9 (nI nb) g11 g12 v13 (nI ln) (nI (gP ti)) (nI (gR (ti + 1))) tk kw g19 g20 g21 og g23 (nI cd) g25 g26 v27 v28 v29 v30 v31 v32 v33 v34 v35 v36 v37 (nI ol)), (v1, .inl (cA 0, 326, .inl fp)), (v9, .inl (cA 0, 700, .inl fb)), (v13, .inl (cA 1, 15, .inr (.inl fkw))), (v28, .inl (cA 1, 10, .inr (.inl l28))), (v30, .inl (cA 1, 8, .inr (.inl l30))), (v32, .inl (cA 0, 400, .inl fc))] s.heap.size = A at hD hZ ⊢
  have hA : ∀ q : Nat, s.heap.size ≤ q → A q := fun q h => by rw [← hAe]; exact Or.inr h
  have hS : va_S A s.heap s.heap [] := va_S.rf
  have hP : va_P D vwCl [(oX10 w0 v0 v1 v2 v3 v4 g5 g6 (nI ed) g8 v9 (nI nb) g11 g12 v13 (nI ln) (nI (gP ti)) (nI (gR (ti + 1))) tk kw g19 g20 g21 og g23 (nI cd) g25 g26 v27 v28 v29 v30 v31 v32 v33 v34 v35 v36 v37 (nI ol)), (v1, .inl (cA 0, 326, .inl fp)), (v9, .inl (cA 0, 700, .inl fb)), (v13, .inl (cA 1, 15, .inr (.inl fkw))), (v28, .inl (cA 1, 10, .inr (.inl l28))), (v30, .inl (cA 1, 8, .inr (.inl l30))), (v32, .inl (cA 0, 400, .inl fc))] s.heap := hP
  have hl := lv_entry ([.ref w0, .int 0, .int 999]) (n := 3) (Nat.le_of_ble_eq_true rfl)
  rw [lg_entry_eq]
  generalize (lg_sl ([.ref w0, .int 0, .int 999]) ++ List.replicate (3 - (lg_sl ([.ref w0, .int 0, .int 999])).length) Slot.unset).toArray = ls at hl ⊢
  have hl : lv_has ls 3 [(0, .ref w0), (1, .int 0), (2, .int 999)] := hl
  have inX10 : ∀ w ∈ u_ws RX10 TX10 39, w ∈ wsX10_numberFact := by decide +kernel
  have hle9 := TX.le hTX hti
  refine lv_aload_n hx hb dX10_numberFact_0 rfl (lv_at hl 0 rfl) ?_
  have hn1 := TX.go2 hTX (show ti < ct by omega) (by rw [hk]; decide)
  have hn1a := TX.le hTX (show ti < ct by omega)
  have hn1b := TX.le hTX hn1.1
  obtain ⟨hPc, hDc, hFc⟩ := PDq.cut (wc := [(oX10 w0 v0 v1 v2 v3 v4 g5 g6 (nI ed) g8 v9 (nI nb) g11 g12 v13 (nI ln) (nI (gP ti)) (nI (gR (ti + 1))) tk kw g19 g20 g21 og g23 (nI cd) g25 g26 v27 v28 v29 v30 v31 v32 v33 v34 v35 v36 v37 (nI ol)), (v9, .inl (cA 0, 700, .inl fb)), (v13, .inl (cA 1, 15, .inr (.inl fkw)))]) hP hD hS hA [0, 2, 3] (by decide) rfl
  refine va_calli (va_runV (As := []) (rest := []) ⟨hx, hb, hml, hown, hts⟩ (y_advance l D cA sa w0 ed nb ol v0 v1 v2 v3 v4 v9 v13 v27 v28 v29 v30 v31 v32 v33 v34 v35 v36 v37 g8 g11 g12 (nI (gP ti)) tk kw g19 g20 g21 og g23 (nI cd) g26 g5 g6 g25 ln (gR (ti + 1)) fb fkw (gP (ti + 1)) (gR ((ti + 1) + 1)) (gK (ti + 1)) (gV (ti + 1)) s.heap.size hln (by omega) hKW hBY (TX.t hTX hn1.1)) (cwV 0 hts gX10_numberFact_X10_advance rfl rfl rfl (by decide +kernel) ⟨(Nat.le_of_ble_eq_true rfl), (Nat.le_of_ble_eq_true rfl)⟩) ⟨Wd.blind, va_recv hK hPc (ci := 11) (q0 := 0) rfl rfl, fun U hU hW => ⟨rfl, Wd.call hPc hDc hK hC hZ hS hFc U hU hW⟩⟩ rfl rfl hl.1 rfl (lv_room (Nat.le_of_ble_eq_true rfl)) dX10_numberFact_1 ⟨(Nat.le_of_ble_eq_true rfl), (Nat.le_of_ble_eq_true rfl)⟩) hS (fun q _ h => hFc q h) hFc (fun rn2 u t H1 locs ht hvm hw hB hz1 hk1 hS => ?_)
  obtain ⟨zn3, zn4, zn5, zn6, hn7, hP1, hD1⟩ := hB
  rw [ht] at hP1
  obtain ⟨hP, hD⟩ := PDq.join (w := [(v1, .inl (cA 0, 326, .inl fp)), (v28, .inl (cA 1, 10, .inr (.inl l28))), (v30, .inl (cA 1, 8, .inr (.inl l30))), (v32, .inl (cA 0, 400, .inl fc)), (oX10 w0 v0 v1 v2 v3 v4 g5 g6 (nI ed) g8 v9 (nI nb) g11 g12 v13 (nI ln) (nI (gP (ti + 1))) (nI (gR ((ti + 1) + 1))) zn3 zn4 zn5 g20 g21 og g23 (nI cd) zn6 g26 v27 v28 v29 v30 v31 v32 v33 v34 v35 v36 v37 (nI ol)), (v9, .inl (cA 0, 700, .inl fb)), (v13, .inl (cA 1, 15, .inr (.inl fkw)))]) 4 hP hD [0, 2, 3] [1, 4, 5, 6] rfl rfl (by decide) (by decide) hk1 hFc hP1 hD1 rfl
  generalize H1 = H at hP hS ⊢
  obtain rfl : rn2 = 1 := hw
  refine lv_pop hx hb dX10_numberFact_4 rfl ?_
  refine lv_aload_n hx hb dX10_numberFact_5 rfl (lv_at hl 0 rfl) ?_
  refine lv_iconst (v := 0) hx hb dX10_numberFact_6 (by decide) ?_
  refine lv_iload_n hx hb dX10_numberFact_7 rfl (lv_at hl 2 rfl) ?_
  obtain ⟨hPc, hDc, hFc⟩ := PDq.cut (wc := [(oX10 w0 v0 v1 v2 v3 v4 g5 g6 (nI ed) g8 v9 (nI nb) g11 g12 v13 (nI ln) (nI (gP (ti + 1))) (nI (gR ((ti + 1) + 1))) zn3 zn4 zn5 g20 g21 og g23 (nI cd) zn6 g26 v27 v28 v29 v30 v31 v32 v33 v34 v35 v36 v37 (nI ol)), (v9, .inl (cA 0, 700, .inl fb)), (v13, .inl (cA 1, 15, .inr (.inl fkw)))]) hP hD hS hA [4, 5, 6] (by decide) rfl
  refine va_calli (va_runV (As := [.int 0, .int 999]) (rest := []) ⟨hx, hb, hml, hown, hts⟩ (y_number l D cA sa w0 ed nb ol v0 v1 v2 v3 v4 v9 v13 v27 v28 v29 v30 v31 v32 v33 v34 v35 v36 v37 g8 g11 g12 zn5 g20 g21 og g23 g26 g5 g6 zn6 ln cd zn3 zn4 (ti + 1) ct fb fkw gP gR gS gK gV 0 999 H.size hln hct hn1.1 hTX hBY hn7 hKW (by omega) (by omega)) (cwV 2 hts gX10_numberFact_X10_number rfl rfl rfl (by decide +kernel) ⟨(Nat.le_of_ble_eq_true rfl), (Nat.le_of_ble_eq_true rfl)⟩) ⟨Wd.blind, va_recv hK hPc (ci := 11) (q0 := 0) rfl rfl, fun U hU hW => ⟨rfl, Wd.call hPc hDc hK hC hZ hS hFc U hU hW⟩⟩ rfl rfl hl.1 rfl (lv_room (Nat.le_of_ble_eq_true rfl)) dX10_numberFact_8 ⟨(Nat.le_of_ble_eq_true rfl), (Nat.le_of_ble_eq_true rfl)⟩) hS (fun q _ h => hFc q h) hFc (fun rn8 u t H1 locs ht hvm hw hB hz1 hk1 hS => ?_)
  obtain ⟨qn9, zn10, zn11, zn12, zn13, zn14, zn15, zn16, hn17, hn18, hn19, hn20, hn21, hn22, hn23, hn24, hn25, hn26, hn27, hn28, hP1, hD1⟩ := hB
  rw [ht] at hP1
  obtain ⟨hP, hD⟩ := PDq.join (w := [(v1, .inl (cA 0, 326, .inl fp)), (v28, .inl (cA 1, 10, .inr (.inl l28))), (v30, .inl (cA 1, 8, .inr (.inl l30))), (v32, .inl (cA 0, 400, .inl fc)), (oX10 w0 v0 v1 v2 v3 v4 g5 g6 (nI ed) g8 v9 (nI nb) g11 g12 v13 (nI ln) (nI (gP qn9)) (nI (gR (qn9 + 1))) zn10 zn11 zn12 zn13 zn14 og g23 (nI cd) zn16 zn15 v27 v28 v29 v30 v31 v32 v33 v34 v35 v36 v37 (nI ol)), (v9, .inl (cA 0, 700, .inl fb)), (v13, .inl (cA 1, 15, .inr (.inl fkw)))]) 4 hP hD [4, 5, 6] [0, 1, 2, 3] rfl rfl (by decide) (by decide) hk1 hFc hP1 hD1 rfl
  generalize H1 = H at hP hS ⊢
  rcases hw.2 with hr9 | hr9
  · skip
    have hn27 := hn27 (hw.1.trans hr9)
    have hn28 := hn28 (hw.1.trans hr9)
    subst hr9
    refine lv_if_eq (tgt := 34) hx hb dX10_numberFact_11 (by decide) (fun c29 => ?_) (fun c9 => absurd c9 (by decide))
    refine lv_iconst (v := 0) hx hb dX10_numberFact_34 (by decide) ?_
    obtain ⟨hP9, hD9⟩ := PDq.sub (ws' := [(oX10 w0 v0 v1 v2 v3 v4 g5 g6 (nI ed) g8 v9 (nI nb) g11 g12 v13 (nI ln) (nI (gP qn9)) (nI (gR (qn9 + 1))) zn10 zn11 zn12 zn13 zn14 og g23 (nI cd) zn16 zn15 v27 v28 v29 v30 v31 v32 v33 v34 v35 v36 v37 (nI ol)), (v1, .inl (cA 0, 326, .inl fp)), (v9, .inl (cA 0, 700, .inl fb)), (v13, .inl (cA 1, 15, .inr (.inl fkw))), (v28, .inl (cA 1, 10, .inr (.inl l28))), (v30, .inl (cA 1, 8, .inr (.inl l30))), (v32, .inl (cA 0, 400, .inl fc))]) hP hD [4, 0, 5, 6, 1, 2, 3] (by decide) rfl
    refine W.widen (k := 0) (n := 0) (Nat.le_of_ble_eq_true rfl) (Nat.le_of_ble_eq_true rfl) ?_
    exact (W.zret (v := 0) hx hb hr (by first | rfl | decide) (fun t ht hW => ⟨⟨0, 0, rfl, ⟨rfl, by decide⟩, qn9, zn10, zn11, zn12, zn13, zn14, zn15, zn16, cd, pq, fp, fc, l30, pl, hn17, hn18, (by omega), hn20, hpq, hri, hNP, (fun h9 => absurd h9 (by decide)), (fun h9 => absurd h9 (by decide)), (fun h9 => absurd h9 (by decide)), (fun h9 => absurd h9 (by decide)), (fun h9 => absurd h9 (by decide)), (fun h9 => absurd h9 (by decide)), (fun h9 => absurd h9 (by decide)), (fun h9 => absurd h9 (by decide)), (fun _ => (P_dayEx hk hn27 hn28)), by rw [ht]; exact hP9, hD9⟩, hS.F ht⟩) hS.2.2 dX10_numberFact_35)
  · skip
    have hn21 := hn21 (hw.1.trans hr9)
    subst hn21
    obtain ⟨hP, hD⟩ : PDq D A [(v1, .inl (cA 0, 326, .inl fp)), (v28, .inl (cA 1, 10, .inr (.inl l28))), (v30, .inl (cA 1, 8, .inr (.inl l30))), (v32, .inl (cA 0, 400, .inl fc)), (oX10 w0 v0 v1 v2 v3 v4 g5 g6 (nI ed) g8 v9 (nI nb) g11 g12 v13 (nI ln) (nI (gP ((ti + 1) + 1))) (nI (gR (((ti + 1) + 1) + 1))) zn10 zn11 zn12 zn13 zn14 og g23 (nI cd) zn16 zn15 v27 v28 v29 v30 v31 v32 v33 v34 v35 v36 v37 (nI ol)), (v9, .inl (cA 0, 700, .inl fb)), (v13, .inl (cA 1, 15, .inr (.inl fkw)))] H := ⟨hP, hD⟩
    have hn22 := hn22 (hw.1.trans hr9)
    obtain rfl : g20 = zn13 := hn22.symm
    obtain ⟨hP, hD⟩ : PDq D A [(v1, .inl (cA 0, 326, .inl fp)), (v28, .inl (cA 1, 10, .inr (.inl l28))), (v30, .inl (cA 1, 8, .inr (.inl l30))), (v32, .inl (cA 0, 400, .inl fc)), (oX10 w0 v0 v1 v2 v3 v4 g5 g6 (nI ed) g8 v9 (nI nb) g11 g12 v13 (nI ln) (nI (gP ((ti + 1) + 1))) (nI (gR (((ti + 1) + 1) + 1))) zn10 zn11 zn12 g20 zn14 og g23 (nI cd) zn16 zn15 v27 v28 v29 v30 v31 v32 v33 v34 v35 v36 v37 (nI ol)), (v9, .inl (cA 0, 700, .inl fb)), (v13, .inl (cA 1, 15, .inr (.inl fkw)))] H := ⟨hP, hD⟩
    have hn23 := hn23 (hw.1.trans hr9)
    obtain rfl : g21 = zn14 := hn23.symm
    obtain ⟨hP, hD⟩ : PDq D A [(v1, .inl (cA 0, 326, .inl fp)), (v28, .inl (cA 1, 10, .inr (.inl l28))), (v30, .inl (cA 1, 8, .inr (.inl l30))), (v32, .inl (cA 0, 400, .inl fc)), (oX10 w0 v0 v1 v2 v3 v4 g5 g6 (nI ed) g8 v9 (nI nb) g11 g12 v13 (nI ln) (nI (gP ((ti + 1) + 1))) (nI (gR (((ti + 1) + 1) + 1))) zn10 zn11 zn12 g20 g21 og g23 (nI cd) zn16 zn15 v27 v28 v29 v30 v31 v32 v33 v34 v35 v36 v37 (nI ol)), (v9, .inl (cA 0, 700, .inl fb)), (v13, .inl (cA 1, 15, .inr (.inl fkw)))] H := ⟨hP, hD⟩
    have hn24 := hn24 (hw.1.trans hr9)
    have hn25 := hn25 (hw.1.trans hr9)
    have hn26 := hn26 (hw.1.trans hr9)
    obtain ⟨kn30, hn31, hn32, hn9⟩ := hn26
    subst hn9
    obtain ⟨hP, hD⟩ : PDq D A [(v1, .inl (cA 0, 326, .inl fp)), (v28, .inl (cA 1, 10, .inr (.inl l28))), (v30, .inl (cA 1, 8, .inr (.inl l30))), (v32, .inl (cA 0, 400, .inl fc)), (oX10 w0 v0 v1 v2 v3 v4 g5 g6 (nI ed) g8 v9 (nI nb) g11 g12 v13 (nI ln) (nI (gP ((ti + 1) + 1))) (nI (gR (((ti + 1) + 1) + 1))) zn10 zn11 zn12 g20 g21 og g23 (nI cd) zn16 (nI kn30) v27 v28 v29 v30 v31 v32 v33 v34 v35 v36 v37 (nI ol)), (v9, .inl (cA 0, 700, .inl fb)), (v13, .inl (cA 1, 15, .inr (.inl fkw)))] H := ⟨hP, hD⟩
    subst hr9
    refine lv_if_eq (tgt := 34) hx hb dX10_numberFact_11 (by decide) (fun c9 => absurd c9 (by decide)) (fun c33 => ?_)
    refine lv_aload_n hx hb dX10_numberFact_14 rfl (lv_at hl 0 rfl) ?_
    refine lv_ldc (v := 100000) hx hb hown (hts (.constant RX10 201 100000) (by decide +kernel)) dX10_numberFact_15 ?_
    refine lv_iload_n hx hb dX10_numberFact_17 rfl (lv_at hl 1 rfl) ?_
    refine lv_imul hx hb dX10_numberFact_18 ?_
    refine lv_topi (fun yn34 eyn34 => ?_)
    obtain rfl : yn34 = 0 := eyn34.trans (by first | rfl | decide +kernel)
    refine lv_aload_n hx hb dX10_numberFact_19 rfl (lv_at hl 0 rfl) ?_
    refine va_get (D := D) (ci := 11) (v := .int (nI kn30)) (C := RX10) (T := TX10) (N := 39) hx hb hts inX10 hown hK hP 4 rfl rfl 26 (by decide) (hts (.fieldLink RX10 156 "EscrowDeskModel" "numberRead" "I") (by decide +kernel)) (fun _ h9 => h9) rfl dX10_numberFact_20 ?_
    refine lv_iadd hx hb dX10_numberFact_23 ?_
    refine lv_topi (fun yn35 eyn35 => ?_)
    obtain rfl : yn35 = (nI (0 + kn30)) := eyn35.trans (nI_add 0 kn30)
    obtain ⟨hPc, hDc, hFc⟩ := PDq.cut (wc := [(oX10 w0 v0 v1 v2 v3 v4 g5 g6 (nI ed) g8 v9 (nI nb) g11 g12 v13 (nI ln) (nI (gP ((ti + 1) + 1))) (nI (gR (((ti + 1) + 1) + 1))) zn10 zn11 zn12 g20 g21 og g23 (nI cd) zn16 (nI kn30) v27 v28 v29 v30 v31 v32 v33 v34 v35 v36 v37 (nI ol)), (v32, .inl (cA 0, 400, .inl fc))]) hP hD hS hA [4, 3] (by decide) rfl
    refine va_calli (va_runV (As := [.int (nI (0 + kn30))]) (rest := []) ⟨hx, hb, hml, hown, hts⟩ (r_emit l D cA sa w0 ed nb ol v0 v1 v2 v3 v4 v9 v13 v27 v28 v29 v30 v31 v32 v33 v34 v35 v36 v37 g8 g11 g12 (nI ln) (nI (gP ((ti + 1) + 1))) (nI (gR (((ti + 1) + 1) + 1))) zn10 zn11 zn12 g20 g21 og g23 (nI kn30) g5 g6 zn16 cd (nI (0 + kn30)) fc H.size (by omega)) (cwV 1 hts gX10_numberFact_X10_emit rfl rfl rfl (by decide +kernel) ⟨(Nat.le_of_ble_eq_true rfl), (Nat.le_of_ble_eq_true rfl)⟩) ⟨Wd.blind, va_recv hK hPc (ci := 11) (q0 := 0) rfl rfl, fun U hU hW => ⟨rfl, Wd.call hPc hDc hK hC hZ hS hFc U hU hW⟩⟩ rfl rfl hl.1 rfl (lv_room (Nat.le_of_ble_eq_true rfl)) dX10_numberFact_24 ⟨(Nat.le_of_ble_eq_true rfl), (Nat.le_of_ble_eq_true rfl)⟩) hS (fun q _ h => hFc q h) hFc (fun rn36 u t H1 locs ht hvm hw hB hz1 hk1 hS => ?_)
    obtain ⟨fn37, hn38, hP1, hD1⟩ := hB
    rw [ht] at hP1
    obtain ⟨hP, hD⟩ := PDq.join (w := [(v1, .inl (cA 0, 326, .inl fp)), (v28, .inl (cA 1, 10, .inr (.inl l28))), (v30, .inl (cA 1, 8, .inr (.inl l30))), (v9, .inl (cA 0, 700, .inl fb)), (v13, .inl (cA 1, 15, .inr (.inl fkw))), (oX10 w0 v0 v1 v2 v3 v4 g5 g6 (nI ed) g8 v9 (nI nb) g11 g12 v13 (nI ln) (nI (gP ((ti + 1) + 1))) (nI (gR (((ti + 1) + 1) + 1))) zn10 zn11 zn12 g20 g21 og g23 (nI (cd + 1)) zn16 (nI kn30) v27 v28 v29 v30 v31 v32 v33 v34 v35 v36 v37 (nI ol)), (v32, .inl (cA 0, 400, .inl fn37))]) 5 hP hD [4, 3] [0, 1, 2, 5, 6] rfl rfl (by decide) (by decide) hk1 hFc hP1 hD1 rfl
    generalize H1 = H at hP hS ⊢
    obtain rfl : rn36 = 1 := hw
    refine lv_if_eq (tgt := 34) hx hb dX10_numberFact_27 (by decide) (fun c9 => absurd c9 (by decide)) (fun c39 => ?_)
    refine lv_iconst (v := 1) hx hb dX10_numberFact_30 (by decide) ?_
    refine lv_goto (tgt := 35) hx hb dX10_numberFact_31 (by decide) ?_
    obtain ⟨hP9, hD9⟩ := PDq.sub (ws' := [(oX10 w0 v0 v1 v2 v3 v4 g5 g6 (nI ed) g8 v9 (nI nb) g11 g12 v13 (nI ln) (nI (gP ((ti + 1) + 1))) (nI (gR (((ti + 1) + 1) + 1))) zn10 zn11 zn12 g20 g21 og g23 (nI (cd + 1)) zn16 (nI kn30) v27 v28 v29 v30 v31 v32 v33 v34 v35 v36 v37 (nI ol)), (v1, .inl (cA 0, 326, .inl fp)), (v9, .inl (cA 0, 700, .inl fb)), (v13, .inl (cA 1, 15, .inr (.inl fkw))), (v28, .inl (cA 1, 10, .inr (.inl l28))), (v30, .inl (cA 1, 8, .inr (.inl l30))), (v32, .inl (cA 0, 400, .inl fn37))]) hP hD [5, 0, 3, 4, 1, 2, 6] (by decide) rfl
    refine W.widen (k := 0) (n := 0) (Nat.le_of_ble_eq_true rfl) (Nat.le_of_ble_eq_true rfl) ?_
    exact (W.zret (v := 1) hx hb hr (by first | rfl | decide) (fun t ht hW => ⟨⟨1, 1, rfl, ⟨rfl, by decide⟩, ((ti + 1) + 1), zn10, zn11, zn12, g20, g21, (nI kn30), zn16, (cd + 1), pq, fp, fn37, l30, pl, hn17, hn18, (by omega), hn20, hpq, hri, hNP, (fun _ => rfl), (fun _ => rfl), (fun _ => (by omega)), (fun _ => (by omega)), (fun _ => (by omega)), (fun _ => (Em.kp hn38)), (fun _ => (Sg.leaf hn38 (nI_pos (by omega)))), (fun _ => (P_day hk hn25)), (fun h9 => absurd h9 (by decide)), by rw [ht]; exact hP9, hD9⟩, hS.F ht⟩) hS.2.2 dX10_numberFact_35)

set_option maxHeartbeats 4000000 in
set_option maxRecDepth 100000 in
/-- reference: numberFact -/
theorem y_numberFact3 (l : Launch) (D : va_G) (cA : Nat → ClassId) (sa : Nat → Nat) (w0 : Nat) (ed : Nat) (nb : Nat) (ol : Nat) (v0 : Nat) (v1 : Nat) (v2 : Nat) (v3 : Nat) (v4 : Nat) (v9 : Nat) (v13 : Nat) (v27 : Nat) (v28 : Nat) (v29 : Nat) (v30 : Nat) (v31 : Nat) (v32 : Nat) (v33 : Nat) (v34 : Nat) (v35 : Nat) (v36 : Nat) (v37 : Nat) (g8 : Int32) (g11 : Int32) (g12 : Int32) (g19 : Int32) (g20 : Int32) (g21 : Int32) (g23 : Int32) (g26 : Int32) (g5 : Int64) (g6 : Int64) (g25 : Int64) (ln : Nat) (cd : Nat) (tk : Int32) (kw : Int32) (ti : Nat) (ct : Nat) (fb : Nat → Int32) (fkw : Nat → Int64) (gP : Nat → Nat) (gR : Nat → Nat) (gS : Nat → Int32) (gK : Nat → Int32) (gV : Nat → Int64) (cn : Nat) (pq : Nat) (en : Nat) (dy : Nat) (fp : Nat → Int32) (sl : Nat) (o9 : Nat) (l28 : Nat → Int64) (l30 : Nat → Int64) (fc : Nat → Int32) (ml : List Int64) (pl : List Int64) (og : Int32) (sz : Nat) (hln : ln ≤ 700) (hct : ct ≤ 701) (hti : ti < ct) (hTX : TX fb ln ct gP gR gS gV gK) (hBY : BYn ln fb) (hTK : TKR (gK ti) (gV ti) (fb (gP ti)) tk kw g19 g25) (hKW : KW 15 fkw) (hcn : cn ≤ 10) (hpq : pq ≤ 8) (hen : en ≤ 60) (hdy : dy ≤ 20000) (hri : RI cn pq en dy fp) (hcd : 2 * cd + sl ≤ gP ti) (hNM : NL ml cn l28) (hNP : NL pl pq l30) (hk : gK ti = 20) : Met l yX10_numberFact wsX10_numberFact ({ frames := 3, cells := 0, slots := 0, locals := 66 }) (va_Pc [.ref w0, .int 3, .int 99999] (Wd D cA sa [(oX10 w0 v0 v1 v2 v3 v4 g5 g6 (nI ed) g8 v9 (nI nb) g11 g12 v13 (nI ln) (nI (gP ti)) (nI (gR (ti + 1))) tk kw g19 g20 g21 og g23 (nI cd) g25 g26 v27 v28 v29 v30 v31 v32 v33 v34 v35 v36 v37 (nI ol)), (v1, .inl (cA 0, 326, .inl fp)), (v9, .inl (cA 0, 700, .inl fb)), (v13, .inl (cA 1, 15, .inr (.inl fkw))), (v28, .inl (cA 1, 10, .inr (.inl l28))), (v30, .inl (cA 1, 8, .inr (.inl l30))), (v32, .inl (cA 0, 400, .inl fc))] sz)) (va_Qi (fun (r : Int32) (u9 : Int32) => u9 = r ∧ (r = 0 ∨ r = 1)) (fun (u9 : Int32) t => ∃ tj : Nat, ∃ z17 : Int32, ∃ z18 : Int32, ∃ z19 : Int32, ∃ z20 : Int32, ∃ z21 : Int32, ∃ z26 : Int32, ∃ z25 : Int64, ∃ cd2 : Nat, ∃ pq2 : Nat, ∃ zp : Nat → Int32, ∃ zc : Nat → Int32, ∃ zl : Nat → Int64, ∃ zpl : List Int64, tj < ct ∧ gP tj ≤ ln ∧ ti ≤ tj ∧ TKR (gK tj) (gV tj) (fb (gP tj)) z17 z18 z19 z25 ∧ pq2 ≤ 8 ∧ RI cn pq2 en dy zp ∧ NL zpl pq2 zl ∧ (u9 = 1 → z20 = g20) ∧ (u9 = 1 → z21 = g21) ∧ (u9 = 1 → ti + 1 ≤ tj) ∧ (u9 = 1 → cd ≤ cd2) ∧ (u9 = 1 → 2 * cd2 + sl ≤ gP tj) ∧ (u9 = 1 → Kp cd fc zc) ∧ (u9 = 1 → Sg cd cd2 zc) ∧ (u9 = 1 → PRx gK gS gV ml 0 o9 ti pl (.inr (tj, zpl))) ∧ (u9 = 0 → PRx gK gS gV ml 0 o9 ti pl (.inl (z20, z21))) ∧ Wq D (va_A [(oX10 w0 v0 v1 v2 v3 v4 g5 g6 (nI ed) g8 v9 (nI nb) g11 g12 v13 (nI ln) (nI (gP ti)) (nI (gR (ti + 1))) tk kw g19 g20 g21 og g23 (nI cd) g25 g26 v27 v28 v29 v30 v31 v32 v33 v34 v35 v36 v37 (nI ol)), (v1, .inl (cA 0, 326, .inl fp)), (v9, .inl (cA 0, 700, .inl fb)), (v13, .inl (cA 1, 15, .inr (.inl fkw))), (v28, .inl (cA 1, 10, .inr (.inl l28))), (v30, .inl (cA 1, 8, .inr (.inl l30))), (v32, .inl (cA 0, 400, .inl fc))] sz) [(oX10 w0 v0 v1 v2 v3 v4 g5 g6 (nI ed) g8 v9 (nI nb) g11 g12 v13 (nI ln) (nI (gP tj)) (nI (gR (tj + 1))) z17 z18 z19 z20 z21 og g23 (nI cd2) z25 z26 v27 v28 v29 v30 v31 v32 v33 v34 v35 v36 v37 (nI ol)), (v1, .inl (cA 0, 326, .inl zp)), (v9, .inl (cA 0, 700, .inl fb)), (v13, .inl (cA 1, 15, .inr (.inl fkw))), (v28, .inl (cA 1, 10, .inr (.inl l28))), (v30, .inl (cA 1, 8, .inr (.inl zl))), (v32, .inl (cA 0, 400, .inl zc))] t) (va_A [(oX10 w0 v0 v1 v2 v3 v4 g5 g6 (nI ed) g8 v9 (nI nb) g11 g12 v13 (nI ln) (nI (gP ti)) (nI (gR (ti + 1))) tk kw g19 g20 g21 og g23 (nI cd) g25 g26 v27 v28 v29 v30 v31 v32 v33 v34 v35 v36 v37 (nI ol)), (v1, .inl (cA 0, 326, .inl fp)), (v9, .inl (cA 0, 700, .inl fb)), (v13, .inl (cA 1, 15, .inr (.inl fkw))), (v28, .inl (cA 1, 10, .inr (.inl l28))), (v30, .inl (cA 1, 8, .inr (.inl l30))), (v32, .inl (cA 0, 400, .inl fc))] sz)) 0 0 (va_A [(oX10 w0 v0 v1 v2 v3 v4 g5 g6 (nI ed) g8 v9 (nI nb) g11 g12 v13 (nI ln) (nI (gP ti)) (nI (gR (ti + 1))) tk kw g19 g20 g21 og g23 (nI cd) g25 g26 v27 v28 v29 v30 v31 v32 v33 v34 v35 v36 v37 (nI ol)), (v1, .inl (cA 0, 326, .inl fp)), (v9, .inl (cA 0, 700, .inl fb)), (v13, .inl (cA 1, 15, .inr (.inl fkw))), (v28, .inl (cA 1, 10, .inr (.inl l28))), (v30, .inl (cA 1, 8, .inr (.inl l30))), (v32, .inl (cA 0, 400, .inl fc))] sz) := by
  refine Met.ofW (cc := cX10_numberFact) (maxL := 3) (ret := (some .boolean)) (by decide) rfl ?_
  intro p e s m args below meth c s₁ B hml hv
  obtain ⟨rfl, hsz, hP, hK, hD0, hC, hZ⟩ := hv
  have hx := B.exec
  have hb := B.bytes
  have hr := B.returns
  have hts := atoms_spec (ws := wsX10_numberFact) B.pre
  have hown : s.vm.findClass RX10 = some m.cls := findClass_of_methodNamed B.named
  have hlocks := B.notSynchronized
  subst hsz
  have hD := hD0.self (sz := s.heap.size)
  generalize hAe : va_A [(oX10 w0 v0 v1 v2 v3 v4 g5 g6 (nI ed) g8 v9 (nI nb) g11 g12 v13 (nI ln) (nI (gP ti)) (nI (gR (ti + 1))) tk kw g19 g20 g21 og g23 (nI cd) g25 g26 v27 v28 v29 v30 v31 v32 v33 v34 v35 v36 v37 (nI ol)), (v1, .inl (cA 0, 326, .inl fp)), (v9, .inl (cA 0, 700, .inl fb)), (v13, .inl (cA 1, 15, .inr (.inl fkw))), (v28, .inl (cA 1, 10, .inr (.inl l28))), (v30, .inl (cA 1, 8, .inr (.inl l30))), (v32, .inl (cA 0, 400, .inl fc))] s.heap.size = A at hD hZ ⊢
  have hA : ∀ q : Nat, s.heap.size ≤ q → A q := fun q h => by rw [← hAe]; exact Or.inr h
  have hS : va_S A s.heap s.heap [] := va_S.rf
  have hP : va_P D vwCl [(oX10 w0 v0 v1 v2 v3 v4 g5 g6 (nI ed) g8 v9 (nI nb) g11 g12 v13 (nI ln) (nI (gP ti)) (nI (gR (ti + 1))) tk kw g19 g20 g21 og g23 (nI cd) g25 g26 v27 v28 v29 v30 v31 v32 v33 v34 v35 v36 v37 (nI ol)), (v1, .inl (cA 0, 326, .inl fp)), (v9, .inl (cA 0, 700, .inl fb)), (v13, .inl (cA 1, 15, .inr (.inl fkw))), (v28, .inl (cA 1, 10, .inr (.inl l28))), (v30, .inl (cA 1, 8, .inr (.inl l30))), (v32, .inl (cA 0, 400, .inl fc))] s.heap := hP
  have hl := lv_entry ([.ref w0, .int 3, .int 99999]) (n := 3) (Nat.le_of_ble_eq_true rfl)
  rw [lg_entry_eq]
  generalize (lg_sl ([.ref w0, .int 3, .int 99999]) ++ List.replicate (3 - (lg_sl ([.ref w0, .int 3, .int 99999])).length) Slot.unset).toArray = ls at hl ⊢
  have hl : lv_has ls 3 [(0, .ref w0), (1, .int 3), (2, .int 99999)] := hl
  have inX10 : ∀ w ∈ u_ws RX10 TX10 39, w ∈ wsX10_numberFact := by decide +kernel
  have hle9 := TX.le hTX hti
  refine lv_aload_n hx hb dX10_numberFact_0 rfl (lv_at hl 0 rfl) ?_
  have hn1 := TX.go2 hTX (show ti < ct by omega) (by rw [hk]; decide)
  have hn1a := TX.le hTX (show ti < ct by omega)
  have hn1b := TX.le hTX hn1.1
  obtain ⟨hPc, hDc, hFc⟩ := PDq.cut (wc := [(oX10 w0 v0 v1 v2 v3 v4 g5 g6 (nI ed) g8 v9 (nI nb) g11 g12 v13 (nI ln) (nI (gP ti)) (nI (gR (ti + 1))) tk kw g19 g20 g21 og g23 (nI cd) g25 g26 v27 v28 v29 v30 v31 v32 v33 v34 v35 v36 v37 (nI ol)), (v9, .inl (cA 0, 700, .inl fb)), (v13, .inl (cA 1, 15, .inr (.inl fkw)))]) hP hD hS hA [0, 2, 3] (by decide) rfl
  refine va_calli (va_runV (As := []) (rest := []) ⟨hx, hb, hml, hown, hts⟩ (y_advance l D cA sa w0 ed nb ol v0 v1 v2 v3 v4 v9 v13 v27 v28 v29 v30 v31 v32 v33 v34 v35 v36 v37 g8 g11 g12 (nI (gP ti)) tk kw g19 g20 g21 og g23 (nI cd) g26 g5 g6 g25 ln (gR (ti + 1)) fb fkw (gP (ti + 1)) (gR ((ti + 1) + 1)) (gK (ti + 1)) (gV (ti + 1)) s.heap.size hln (by omega) hKW hBY (TX.t hTX hn1.1)) (cwV 0 hts gX10_numberFact_X10_advance rfl rfl rfl (by decide +kernel) ⟨(Nat.le_of_ble_eq_true rfl), (Nat.le_of_ble_eq_true rfl)⟩) ⟨Wd.blind, va_recv hK hPc (ci := 11) (q0 := 0) rfl rfl, fun U hU hW => ⟨rfl, Wd.call hPc hDc hK hC hZ hS hFc U hU hW⟩⟩ rfl rfl hl.1 rfl (lv_room (Nat.le_of_ble_eq_true rfl)) dX10_numberFact_1 ⟨(Nat.le_of_ble_eq_true rfl), (Nat.le_of_ble_eq_true rfl)⟩) hS (fun q _ h => hFc q h) hFc (fun rn2 u t H1 locs ht hvm hw hB hz1 hk1 hS => ?_)
  obtain ⟨zn3, zn4, zn5, zn6, hn7, hP1, hD1⟩ := hB
  rw [ht] at hP1
  obtain ⟨hP, hD⟩ := PDq.join (w := [(v1, .inl (cA 0, 326, .inl fp)), (v28, .inl (cA 1, 10, .inr (.inl l28))), (v30, .inl (cA 1, 8, .inr (.inl l30))), (v32, .inl (cA 0, 400, .inl fc)), (oX10 w0 v0 v1 v2 v3 v4 g5 g6 (nI ed) g8 v9 (nI nb) g11 g12 v13 (nI ln) (nI (gP (ti + 1))) (nI (gR ((ti + 1) + 1))) zn3 zn4 zn5 g20 g21 og g23 (nI cd) zn6 g26 v27 v28 v29 v30 v31 v32 v33 v34 v35 v36 v37 (nI ol)), (v9, .inl (cA 0, 700, .inl fb)), (v13, .inl (cA 1, 15, .inr (.inl fkw)))]) 4 hP hD [0, 2, 3] [1, 4, 5, 6] rfl rfl (by decide) (by decide) hk1 hFc hP1 hD1 rfl
  generalize H1 = H at hP hS ⊢
  obtain rfl : rn2 = 1 := hw
  refine lv_pop hx hb dX10_numberFact_4 rfl ?_
  refine lv_aload_n hx hb dX10_numberFact_5 rfl (lv_at hl 0 rfl) ?_
  refine lv_iconst (v := 0) hx hb dX10_numberFact_6 (by decide) ?_
  refine lv_iload_n hx hb dX10_numberFact_7 rfl (lv_at hl 2 rfl) ?_
  obtain ⟨hPc, hDc, hFc⟩ := PDq.cut (wc := [(oX10 w0 v0 v1 v2 v3 v4 g5 g6 (nI ed) g8 v9 (nI nb) g11 g12 v13 (nI ln) (nI (gP (ti + 1))) (nI (gR ((ti + 1) + 1))) zn3 zn4 zn5 g20 g21 og g23 (nI cd) zn6 g26 v27 v28 v29 v30 v31 v32 v33 v34 v35 v36 v37 (nI ol)), (v9, .inl (cA 0, 700, .inl fb)), (v13, .inl (cA 1, 15, .inr (.inl fkw)))]) hP hD hS hA [4, 5, 6] (by decide) rfl
  refine va_calli (va_runV (As := [.int 0, .int 99999]) (rest := []) ⟨hx, hb, hml, hown, hts⟩ (y_number l D cA sa w0 ed nb ol v0 v1 v2 v3 v4 v9 v13 v27 v28 v29 v30 v31 v32 v33 v34 v35 v36 v37 g8 g11 g12 zn5 g20 g21 og g23 g26 g5 g6 zn6 ln cd zn3 zn4 (ti + 1) ct fb fkw gP gR gS gK gV 0 99999 H.size hln hct hn1.1 hTX hBY hn7 hKW (by omega) (by omega)) (cwV 2 hts gX10_numberFact_X10_number rfl rfl rfl (by decide +kernel) ⟨(Nat.le_of_ble_eq_true rfl), (Nat.le_of_ble_eq_true rfl)⟩) ⟨Wd.blind, va_recv hK hPc (ci := 11) (q0 := 0) rfl rfl, fun U hU hW => ⟨rfl, Wd.call hPc hDc hK hC hZ hS hFc U hU hW⟩⟩ rfl rfl hl.1 rfl (lv_room (Nat.le_of_ble_eq_true rfl)) dX10_numberFact_8 ⟨(Nat.le_of_ble_eq_true rfl), (Nat.le_of_ble_eq_true rfl)⟩) hS (fun q _ h => hFc q h) hFc (fun rn8 u t H1 locs ht hvm hw hB hz1 hk1 hS => ?_)
  obtain ⟨qn9, zn10, zn11, zn12, zn13, zn14, zn15, zn16, hn17, hn18, hn19, hn20, hn21, hn22, hn23, hn24, hn25, hn26, hn27, hn28, hP1, hD1⟩ := hB
  rw [ht] at hP1
  obtain ⟨hP, hD⟩ := PDq.join (w := [(v1, .inl (cA 0, 326, .inl fp)), (v28, .inl (cA 1, 10, .inr (.inl l28))), (v30, .inl (cA 1, 8, .inr (.inl l30))), (v32, .inl (cA 0, 400, .inl fc)), (oX10 w0 v0 v1 v2 v3 v4 g5 g6 (nI ed) g8 v9 (nI nb) g11 g12 v13 (nI ln) (nI (gP qn9)) (nI (gR (qn9 + 1))) zn10 zn11 zn12 zn13 zn14 og g23 (nI cd) zn16 zn15 v27 v28 v29 v30 v31 v32 v33 v34 v35 v36 v37 (nI ol)), (v9, .inl (cA 0, 700, .inl fb)), (v13, .inl (cA 1, 15, .inr (.inl fkw)))]) 4 hP hD [4, 5, 6] [0, 1, 2, 3] rfl rfl (by decide) (by decide) hk1 hFc hP1 hD1 rfl
  generalize H1 = H at hP hS ⊢
  rcases hw.2 with hr9 | hr9
  · skip
    have hn27 := hn27 (hw.1.trans hr9)
    have hn28 := hn28 (hw.1.trans hr9)
    subst hr9
    refine lv_if_eq (tgt := 34) hx hb dX10_numberFact_11 (by decide) (fun c29 => ?_) (fun c9 => absurd c9 (by decide))
    refine lv_iconst (v := 0) hx hb dX10_numberFact_34 (by decide) ?_
    obtain ⟨hP9, hD9⟩ := PDq.sub (ws' := [(oX10 w0 v0 v1 v2 v3 v4 g5 g6 (nI ed) g8 v9 (nI nb) g11 g12 v13 (nI ln) (nI (gP qn9)) (nI (gR (qn9 + 1))) zn10 zn11 zn12 zn13 zn14 og g23 (nI cd) zn16 zn15 v27 v28 v29 v30 v31 v32 v33 v34 v35 v36 v37 (nI ol)), (v1, .inl (cA 0, 326, .inl fp)), (v9, .inl (cA 0, 700, .inl fb)), (v13, .inl (cA 1, 15, .inr (.inl fkw))), (v28, .inl (cA 1, 10, .inr (.inl l28))), (v30, .inl (cA 1, 8, .inr (.inl l30))), (v32, .inl (cA 0, 400, .inl fc))]) hP hD [4, 0, 5, 6, 1, 2, 3] (by decide) rfl
    refine W.widen (k := 0) (n := 0) (Nat.le_of_ble_eq_true rfl) (Nat.le_of_ble_eq_true rfl) ?_
    exact (W.zret (v := 0) hx hb hr (by first | rfl | decide) (fun t ht hW => ⟨⟨0, 0, rfl, ⟨rfl, by decide⟩, qn9, zn10, zn11, zn12, zn13, zn14, zn15, zn16, cd, pq, fp, fc, l30, pl, hn17, hn18, (by omega), hn20, hpq, hri, hNP, (fun h9 => absurd h9 (by decide)), (fun h9 => absurd h9 (by decide)), (fun h9 => absurd h9 (by decide)), (fun h9 => absurd h9 (by decide)), (fun h9 => absurd h9 (by decide)), (fun h9 => absurd h9 (by decide)), (fun h9 => absurd h9 (by decide)), (fun h9 => absurd h9 (by decide)), (fun _ => (P_sumEx hk hn27 hn28)), by rw [ht]; exact hP9, hD9⟩, hS.F ht⟩) hS.2.2 dX10_numberFact_35)
  · skip
    have hn21 := hn21 (hw.1.trans hr9)
    subst hn21
    obtain ⟨hP, hD⟩ : PDq D A [(v1, .inl (cA 0, 326, .inl fp)), (v28, .inl (cA 1, 10, .inr (.inl l28))), (v30, .inl (cA 1, 8, .inr (.inl l30))), (v32, .inl (cA 0, 400, .inl fc)), (oX10 w0 v0 v1 v2 v3 v4 g5 g6 (nI ed) g8 v9 (nI nb) g11 g12 v13 (nI ln) (nI (gP ((ti + 1) + 1))) (nI (gR (((ti + 1) + 1) + 1))) zn10 zn11 zn12 zn13 zn14 og g23 (nI cd) zn16 zn15 v27 v28 v29 v30 v31 v32 v33 v34 v35 v36 v37 (nI ol)), (v9, .inl (cA 0, 700, .inl fb)), (v13, .inl (cA 1, 15, .inr (.inl fkw)))] H := ⟨hP, hD⟩
    have hn22 := hn22 (hw.1.trans hr9)
    obtain rfl : g20 = zn13 := hn22.symm
    obtain ⟨hP, hD⟩ : PDq D A [(v1, .inl (cA 0, 326, .inl fp)), (v28, .inl (cA 1, 10, .inr (.inl l28))), (v30, .inl (cA 1, 8, .inr (.inl l30))), (v32, .inl (cA 0, 400, .inl fc)), (oX10 w0 v0 v1 v2 v3 v4 g5 g6 (nI ed) g8 v9 (nI nb) g11 g12 v13 (nI ln) (nI (gP ((ti + 1) + 1))) (nI (gR (((ti + 1) + 1) + 1))) zn10 zn11 zn12 g20 zn14 og g23 (nI cd) zn16 zn15 v27 v28 v29 v30 v31 v32 v33 v34 v35 v36 v37 (nI ol)), (v9, .inl (cA 0, 700, .inl fb)), (v13, .inl (cA 1, 15, .inr (.inl fkw)))] H := ⟨hP, hD⟩
    have hn23 := hn23 (hw.1.trans hr9)
    obtain rfl : g21 = zn14 := hn23.symm
    obtain ⟨hP, hD⟩ : PDq D A [(v1, .inl (cA 0, 326, .inl fp)), (v28, .inl (cA 1, 10, .inr (.inl l28))), (v30, .inl (cA 1, 8, .inr (.inl l30))), (v32, .inl (cA 0, 400, .inl fc)), (oX10 w0 v0 v1 v2 v3 v4 g5 g6 (nI ed) g8 v9 (nI nb) g11 g12 v13 (nI ln) (nI (gP ((ti + 1) + 1))) (nI (gR (((ti + 1) + 1) + 1))) zn10 zn11 zn12 g20 g21 og g23 (nI cd) zn16 zn15 v27 v28 v29 v30 v31 v32 v33 v34 v35 v36 v37 (nI ol)), (v9, .inl (cA 0, 700, .inl fb)), (v13, .inl (cA 1, 15, .inr (.inl fkw)))] H := ⟨hP, hD⟩
    have hn24 := hn24 (hw.1.trans hr9)
    have hn25 := hn25 (hw.1.trans hr9)
    have hn26 := hn26 (hw.1.trans hr9)
    obtain ⟨kn30, hn31, hn32, hn9⟩ := hn26
    subst hn9
    obtain ⟨hP, hD⟩ : PDq D A [(v1, .inl (cA 0, 326, .inl fp)), (v28, .inl (cA 1, 10, .inr (.inl l28))), (v30, .inl (cA 1, 8, .inr (.inl l30))), (v32, .inl (cA 0, 400, .inl fc)), (oX10 w0 v0 v1 v2 v3 v4 g5 g6 (nI ed) g8 v9 (nI nb) g11 g12 v13 (nI ln) (nI (gP ((ti + 1) + 1))) (nI (gR (((ti + 1) + 1) + 1))) zn10 zn11 zn12 g20 g21 og g23 (nI cd) zn16 (nI kn30) v27 v28 v29 v30 v31 v32 v33 v34 v35 v36 v37 (nI ol)), (v9, .inl (cA 0, 700, .inl fb)), (v13, .inl (cA 1, 15, .inr (.inl fkw)))] H := ⟨hP, hD⟩
    subst hr9
    refine lv_if_eq (tgt := 34) hx hb dX10_numberFact_11 (by decide) (fun c9 => absurd c9 (by decide)) (fun c33 => ?_)
    refine lv_aload_n hx hb dX10_numberFact_14 rfl (lv_at hl 0 rfl) ?_
    refine lv_ldc (v := 100000) hx hb hown (hts (.constant RX10 201 100000) (by decide +kernel)) dX10_numberFact_15 ?_
    refine lv_iload_n hx hb dX10_numberFact_17 rfl (lv_at hl 1 rfl) ?_
    refine lv_imul hx hb dX10_numberFact_18 ?_
    refine lv_topi (fun yn34 eyn34 => ?_)
    obtain rfl : yn34 = 300000 := eyn34.trans (by first | rfl | decide +kernel)
    refine lv_aload_n hx hb dX10_numberFact_19 rfl (lv_at hl 0 rfl) ?_
    refine va_get (D := D) (ci := 11) (v := .int (nI kn30)) (C := RX10) (T := TX10) (N := 39) hx hb hts inX10 hown hK hP 4 rfl rfl 26 (by decide) (hts (.fieldLink RX10 156 "EscrowDeskModel" "numberRead" "I") (by decide +kernel)) (fun _ h9 => h9) rfl dX10_numberFact_20 ?_
    refine lv_iadd hx hb dX10_numberFact_23 ?_
    refine lv_topi (fun yn35 eyn35 => ?_)
    obtain rfl : yn35 = (nI (300000 + kn30)) := eyn35.trans (nI_add 300000 kn30)
    obtain ⟨hPc, hDc, hFc⟩ := PDq.cut (wc := [(oX10 w0 v0 v1 v2 v3 v4 g5 g6 (nI ed) g8 v9 (nI nb) g11 g12 v13 (nI ln) (nI (gP ((ti + 1) + 1))) (nI (gR (((ti + 1) + 1) + 1))) zn10 zn11 zn12 g20 g21 og g23 (nI cd) zn16 (nI kn30) v27 v28 v29 v30 v31 v32 v33 v34 v35 v36 v37 (nI ol)), (v32, .inl (cA 0, 400, .inl fc))]) hP hD hS hA [4, 3] (by decide) rfl
    refine va_calli (va_runV (As := [.int (nI (300000 + kn30))]) (rest := []) ⟨hx, hb, hml, hown, hts⟩ (r_emit l D cA sa w0 ed nb ol v0 v1 v2 v3 v4 v9 v13 v27 v28 v29 v30 v31 v32 v33 v34 v35 v36 v37 g8 g11 g12 (nI ln) (nI (gP ((ti + 1) + 1))) (nI (gR (((ti + 1) + 1) + 1))) zn10 zn11 zn12 g20 g21 og g23 (nI kn30) g5 g6 zn16 cd (nI (300000 + kn30)) fc H.size (by omega)) (cwV 1 hts gX10_numberFact_X10_emit rfl rfl rfl (by decide +kernel) ⟨(Nat.le_of_ble_eq_true rfl), (Nat.le_of_ble_eq_true rfl)⟩) ⟨Wd.blind, va_recv hK hPc (ci := 11) (q0 := 0) rfl rfl, fun U hU hW => ⟨rfl, Wd.call hPc hDc hK hC hZ hS hFc U hU hW⟩⟩ rfl rfl hl.1 rfl (lv_room (Nat.le_of_ble_eq_true rfl)) dX10_numberFact_24 ⟨(Nat.le_of_ble_eq_true rfl), (Nat.le_of_ble_eq_true rfl)⟩) hS (fun q _ h => hFc q h) hFc (fun rn36 u t H1 locs ht hvm hw hB hz1 hk1 hS => ?_)
    obtain ⟨fn37, hn38, hP1, hD1⟩ := hB
    rw [ht] at hP1
    obtain ⟨hP, hD⟩ := PDq.join (w := [(v1, .inl (cA 0, 326, .inl fp)), (v28, .inl (cA 1, 10, .inr (.inl l28))), (v30, .inl (cA 1, 8, .inr (.inl l30))), (v9, .inl (cA 0, 700, .inl fb)), (v13, .inl (cA 1, 15, .inr (.inl fkw))), (oX10 w0 v0 v1 v2 v3 v4 g5 g6 (nI ed) g8 v9 (nI nb) g11 g12 v13 (nI ln) (nI (gP ((ti + 1) + 1))) (nI (gR (((ti + 1) + 1) + 1))) zn10 zn11 zn12 g20 g21 og g23 (nI (cd + 1)) zn16 (nI kn30) v27 v28 v29 v30 v31 v32 v33 v34 v35 v36 v37 (nI ol)), (v32, .inl (cA 0, 400, .inl fn37))]) 5 hP hD [4, 3] [0, 1, 2, 5, 6] rfl rfl (by decide) (by decide) hk1 hFc hP1 hD1 rfl
    generalize H1 = H at hP hS ⊢
    obtain rfl : rn36 = 1 := hw
    refine lv_if_eq (tgt := 34) hx hb dX10_numberFact_27 (by decide) (fun c9 => absurd c9 (by decide)) (fun c39 => ?_)
    refine lv_iconst (v := 1) hx hb dX10_numberFact_30 (by decide) ?_
    refine lv_goto (tgt := 35) hx hb dX10_numberFact_31 (by decide) ?_
    obtain ⟨hP9, hD9⟩ := PDq.sub (ws' := [(oX10 w0 v0 v1 v2 v3 v4 g5 g6 (nI ed) g8 v9 (nI nb) g11 g12 v13 (nI ln) (nI (gP ((ti + 1) + 1))) (nI (gR (((ti + 1) + 1) + 1))) zn10 zn11 zn12 g20 g21 og g23 (nI (cd + 1)) zn16 (nI kn30) v27 v28 v29 v30 v31 v32 v33 v34 v35 v36 v37 (nI ol)), (v1, .inl (cA 0, 326, .inl fp)), (v9, .inl (cA 0, 700, .inl fb)), (v13, .inl (cA 1, 15, .inr (.inl fkw))), (v28, .inl (cA 1, 10, .inr (.inl l28))), (v30, .inl (cA 1, 8, .inr (.inl l30))), (v32, .inl (cA 0, 400, .inl fn37))]) hP hD [5, 0, 3, 4, 1, 2, 6] (by decide) rfl
    refine W.widen (k := 0) (n := 0) (Nat.le_of_ble_eq_true rfl) (Nat.le_of_ble_eq_true rfl) ?_
    exact (W.zret (v := 1) hx hb hr (by first | rfl | decide) (fun t ht hW => ⟨⟨1, 1, rfl, ⟨rfl, by decide⟩, ((ti + 1) + 1), zn10, zn11, zn12, g20, g21, (nI kn30), zn16, (cd + 1), pq, fp, fn37, l30, pl, hn17, hn18, (by omega), hn20, hpq, hri, hNP, (fun _ => rfl), (fun _ => rfl), (fun _ => (by omega)), (fun _ => (by omega)), (fun _ => (by omega)), (fun _ => (Em.kp hn38)), (fun _ => (Sg.leaf hn38 (nI_pos (by omega)))), (fun _ => (P_sum hk hn25)), (fun h9 => absurd h9 (by decide)), by rw [ht]; exact hP9, hD9⟩, hS.F ht⟩) hS.2.2 dX10_numberFact_35)

set_option maxHeartbeats 4000000 in
set_option maxRecDepth 100000 in
/-- reference: plainFact -/
theorem y_plainFact4 (l : Launch) (D : va_G) (cA : Nat → ClassId) (sa : Nat → Nat) (w0 : Nat) (ed : Nat) (nb : Nat) (ol : Nat) (v0 : Nat) (v1 : Nat) (v2 : Nat) (v3 : Nat) (v4 : Nat) (v9 : Nat) (v13 : Nat) (v27 : Nat) (v28 : Nat) (v29 : Nat) (v30 : Nat) (v31 : Nat) (v32 : Nat) (v33 : Nat) (v34 : Nat) (v35 : Nat) (v36 : Nat) (v37 : Nat) (g8 : Int32) (g11 : Int32) (g12 : Int32) (g19 : Int32) (g20 : Int32) (g21 : Int32) (g23 : Int32) (g26 : Int32) (g5 : Int64) (g6 : Int64) (g25 : Int64) (ln : Nat) (cd : Nat) (tk : Int32) (kw : Int32) (ti : Nat) (ct : Nat) (fb : Nat → Int32) (fkw : Nat → Int64) (gP : Nat → Nat) (gR : Nat → Nat) (gS : Nat → Int32) (gK : Nat → Int32) (gV : Nat → Int64) (cn : Nat) (pq : Nat) (en : Nat) (dy : Nat) (fp : Nat → Int32) (sl : Nat) (o9 : Nat) (l28 : Nat → Int64) (l30 : Nat → Int64) (fc : Nat → Int32) (ml : List Int64) (pl : List Int64) (og : Int32) (sz : Nat) (hln : ln ≤ 700) (hct : ct ≤ 701) (hti : ti < ct) (hTX : TX fb ln ct gP gR gS gV gK) (hBY : BYn ln fb) (hTK : TKR (gK ti) (gV ti) (fb (gP ti)) tk kw g19 g25) (hKW : KW 15 fkw) (hcn : cn ≤ 10) (hpq : pq ≤ 8) (hen : en ≤ 60) (hdy : dy ≤ 20000) (hri : RI cn pq en dy fp) (hcd : 2 * cd + sl ≤ gP ti) (hNM : NL ml cn l28) (hNP : NL pl pq l30) (hk : gK ti = 21) : Met l yX10_plainFact wsX10_plainFact ({ frames := 2, cells := 0, slots := 0, locals := 44 }) (va_Pc [.ref w0, .int 4] (Wd D cA sa [(oX10 w0 v0 v1 v2 v3 v4 g5 g6 (nI ed) g8 v9 (nI nb) g11 g12 v13 (nI ln) (nI (gP ti)) (nI (gR (ti + 1))) tk kw g19 g20 g21 og g23 (nI cd) g25 g26 v27 v28 v29 v30 v31 v32 v33 v34 v35 v36 v37 (nI ol)), (v1, .inl (cA 0, 326, .inl fp)), (v9, .inl (cA 0, 700, .inl fb)), (v13, .inl (cA 1, 15, .inr (.inl fkw))), (v28, .inl (cA 1, 10, .inr (.inl l28))), (v30, .inl (cA 1, 8, .inr (.inl l30))), (v32, .inl (cA 0, 400, .inl fc))] sz)) (va_Qi (fun (r : Int32) (u9 : Int32) => u9 = r ∧ (r = 0 ∨ r = 1)) (fun (u9 : Int32) t => ∃ tj : Nat, ∃ z17 : Int32, ∃ z18 : Int32, ∃ z19 : Int32, ∃ z20 : Int32, ∃ z21 : Int32, ∃ z26 : Int32, ∃ z25 : Int64, ∃ cd2 : Nat, ∃ pq2 : Nat, ∃ zp : Nat → Int32, ∃ zc : Nat → Int32, ∃ zl : Nat → Int64, ∃ zpl : List Int64, tj < ct ∧ gP tj ≤ ln ∧ ti ≤ tj ∧ TKR (gK tj) (gV tj) (fb (gP tj)) z17 z18 z19 z25 ∧ pq2 ≤ 8 ∧ RI cn pq2 en dy zp ∧ NL zpl pq2 zl ∧ (u9 = 1 → z20 = g20) ∧ (u9 = 1 → z21 = g21) ∧ (u9 = 1 → ti + 1 ≤ tj) ∧ (u9 = 1 → cd ≤ cd2) ∧ (u9 = 1 → 2 * cd2 + sl ≤ gP tj) ∧ (u9 = 1 → Kp cd fc zc) ∧ (u9 = 1 → Sg cd cd2 zc) ∧ (u9 = 1 → PRx gK gS gV ml 0 o9 ti pl (.inr (tj, zpl))) ∧ (u9 = 0 → PRx gK gS gV ml 0 o9 ti pl (.inl (z20, z21))) ∧ Wq D (va_A [(oX10 w0 v0 v1 v2 v3 v4 g5 g6 (nI ed) g8 v9 (nI nb) g11 g12 v13 (nI ln) (nI (gP ti)) (nI (gR (ti + 1))) tk kw g19 g20 g21 og g23 (nI cd) g25 g26 v27 v28 v29 v30 v31 v32 v33 v34 v35 v36 v37 (nI ol)), (v1, .inl (cA 0, 326, .inl fp)), (v9, .inl (cA 0, 700, .inl fb)), (v13, .inl (cA 1, 15, .inr (.inl fkw))), (v28, .inl (cA 1, 10, .inr (.inl l28))), (v30, .inl (cA 1, 8, .inr (.inl l30))), (v32, .inl (cA 0, 400, .inl fc))] sz) [(oX10 w0 v0 v1 v2 v3 v4 g5 g6 (nI ed) g8 v9 (nI nb) g11 g12 v13 (nI ln) (nI (gP tj)) (nI (gR (tj + 1))) z17 z18 z19 z20 z21 og g23 (nI cd2) z25 z26 v27 v28 v29 v30 v31 v32 v33 v34 v35 v36 v37 (nI ol)), (v1, .inl (cA 0, 326, .inl zp)), (v9, .inl (cA 0, 700, .inl fb)), (v13, .inl (cA 1, 15, .inr (.inl fkw))), (v28, .inl (cA 1, 10, .inr (.inl l28))), (v30, .inl (cA 1, 8, .inr (.inl zl))), (v32, .inl (cA 0, 400, .inl zc))] t) (va_A [(oX10 w0 v0 v1 v2 v3 v4 g5 g6 (nI ed) g8 v9 (nI nb) g11 g12 v13 (nI ln) (nI (gP ti)) (nI (gR (ti + 1))) tk kw g19 g20 g21 og g23 (nI cd) g25 g26 v27 v28 v29 v30 v31 v32 v33 v34 v35 v36 v37 (nI ol)), (v1, .inl (cA 0, 326, .inl fp)), (v9, .inl (cA 0, 700, .inl fb)), (v13, .inl (cA 1, 15, .inr (.inl fkw))), (v28, .inl (cA 1, 10, .inr (.inl l28))), (v30, .inl (cA 1, 8, .inr (.inl l30))), (v32, .inl (cA 0, 400, .inl fc))] sz)) 0 0 (va_A [(oX10 w0 v0 v1 v2 v3 v4 g5 g6 (nI ed) g8 v9 (nI nb) g11 g12 v13 (nI ln) (nI (gP ti)) (nI (gR (ti + 1))) tk kw g19 g20 g21 og g23 (nI cd) g25 g26 v27 v28 v29 v30 v31 v32 v33 v34 v35 v36 v37 (nI ol)), (v1, .inl (cA 0, 326, .inl fp)), (v9, .inl (cA 0, 700, .inl fb)), (v13, .inl (cA 1, 15, .inr (.inl fkw))), (v28, .inl (cA 1, 10, .inr (.inl l28))), (v30, .inl (cA 1, 8, .inr (.inl l30))), (v32, .inl (cA 0, 400, .inl fc))] sz) := by
  refine Met.ofW (cc := cX10_plainFact) (maxL := 2) (ret := (some .boolean)) (by decide) rfl ?_
  intro p e s m args below meth c s₁ B hml hv
  obtain ⟨rfl, hsz, hP, hK, hD0, hC, hZ⟩ := hv
  have hx := B.exec
  have hb := B.bytes
  have hr := B.returns
  have hts := atoms_spec (ws := wsX10_plainFact) B.pre
  have hown : s.vm.findClass RX10 = some m.cls := findClass_of_methodNamed B.named
  have hlocks := B.notSynchronized
  subst hsz
  have hD := hD0.self (sz := s.heap.size)
  generalize hAe : va_A [(oX10 w0 v0 v1 v2 v3 v4 g5 g6 (nI ed) g8 v9 (nI nb) g11 g12 v13 (nI ln) (nI (gP ti)) (nI (gR (ti + 1))) tk kw g19 g20 g21 og g23 (nI cd) g25 g26 v27 v28 v29 v30 v31 v32 v33 v34 v35 v36 v37 (nI ol)), (v1, .inl (cA 0, 326, .inl fp)), (v9, .inl (cA 0, 700, .inl fb)), (v13, .inl (cA 1, 15, .inr (.inl fkw))), (v28, .inl (cA 1, 10, .inr (.inl l28))), (v30, .inl (cA 1, 8, .inr (.inl l30))), (v32, .inl (cA 0, 400, .inl fc))] s.heap.size = A at hD hZ ⊢
  have hA : ∀ q : Nat, s.heap.size ≤ q → A q := fun q h => by rw [← hAe]; exact Or.inr h
  have hS : va_S A s.heap s.heap [] := va_S.rf
  have hP : va_P D vwCl [(oX10 w0 v0 v1 v2 v3 v4 g5 g6 (nI ed) g8 v9 (nI nb) g11 g12 v13 (nI ln) (nI (gP ti)) (nI (gR (ti + 1))) tk kw g19 g20 g21 og g23 (nI cd) g25 g26 v27 v28 v29 v30 v31 v32 v33 v34 v35 v36 v37 (nI ol)), (v1, .inl (cA 0, 326, .inl fp)), (v9, .inl (cA 0, 700, .inl fb)), (v13, .inl (cA 1, 15, .inr (.inl fkw))), (v28, .inl (cA 1, 10, .inr (.inl l28))), (v30, .inl (cA 1, 8, .inr (.inl l30))), (v32, .inl (cA 0, 400, .inl fc))] s.heap := hP
  have hl := lv_entry ([.ref w0, .int 4]) (n := 2) (Nat.le_of_ble_eq_true rfl)
  rw [lg_entry_eq]
  generalize (lg_sl ([.ref w0, .int 4]) ++ List.replicate (2 - (lg_sl ([.ref w0, .int 4])).length) Slot.unset).toArray = ls at hl ⊢
  have hl : lv_has ls 2 [(0, .ref w0), (1, .int 4)] := hl
  have hle9 := TX.le hTX hti
  refine lv_aload_n hx hb dX10_plainFact_0 rfl (lv_at hl 0 rfl) ?_
  refine lv_ldc (v := 100000) hx hb hown (hts (.constant RX10 201 100000) (by decide +kernel)) dX10_plainFact_1 ?_
  refine lv_iload_n hx hb dX10_plainFact_3 rfl (lv_at hl 1 rfl) ?_
  refine lv_imul hx hb dX10_plainFact_4 ?_
  refine lv_topi (fun yn1 eyn1 => ?_)
  obtain rfl : yn1 = 400000 := eyn1.trans (by first | rfl | decide +kernel)
  obtain ⟨hPc, hDc, hFc⟩ := PDq.cut (wc := [(oX10 w0 v0 v1 v2 v3 v4 g5 g6 (nI ed) g8 v9 (nI nb) g11 g12 v13 (nI ln) (nI (gP ti)) (nI (gR (ti + 1))) tk kw g19 g20 g21 og g23 (nI cd) g25 g26 v27 v28 v29 v30 v31 v32 v33 v34 v35 v36 v37 (nI ol)), (v32, .inl (cA 0, 400, .inl fc))]) hP hD hS hA [0, 6] (by decide) rfl
  refine va_calli (va_runV (As := [.int 400000]) (rest := []) ⟨hx, hb, hml, hown, hts⟩ (r_emit l D cA sa w0 ed nb ol v0 v1 v2 v3 v4 v9 v13 v27 v28 v29 v30 v31 v32 v33 v34 v35 v36 v37 g8 g11 g12 (nI ln) (nI (gP ti)) (nI (gR (ti + 1))) tk kw g19 g20 g21 og g23 g26 g5 g6 g25 cd 400000 fc s.heap.size (by omega)) (cwV 1 hts gX10_plainFact_X10_emit rfl rfl rfl (by decide +kernel) ⟨(Nat.le_of_ble_eq_true rfl), (Nat.le_of_ble_eq_true rfl)⟩) ⟨Wd.blind, va_recv hK hPc (ci := 11) (q0 := 0) rfl rfl, fun U hU hW => ⟨rfl, Wd.call hPc hDc hK hC hZ hS hFc U hU hW⟩⟩ rfl rfl hl.1 rfl (lv_room (Nat.le_of_ble_eq_true rfl)) dX10_plainFact_5 ⟨(Nat.le_of_ble_eq_true rfl), (Nat.le_of_ble_eq_true rfl)⟩) hS (fun q _ h => hFc q h) hFc (fun rn2 u t H1 locs ht hvm hw hB hz1 hk1 hS => ?_)
  obtain ⟨fn3, hn4, hP1, hD1⟩ := hB
  rw [ht] at hP1
  obtain ⟨hP, hD⟩ := PDq.join (w := [(v1, .inl (cA 0, 326, .inl fp)), (v9, .inl (cA 0, 700, .inl fb)), (v13, .inl (cA 1, 15, .inr (.inl fkw))), (v28, .inl (cA 1, 10, .inr (.inl l28))), (v30, .inl (cA 1, 8, .inr (.inl l30))), (oX10 w0 v0 v1 v2 v3 v4 g5 g6 (nI ed) g8 v9 (nI nb) g11 g12 v13 (nI ln) (nI (gP ti)) (nI (gR (ti + 1))) tk kw g19 g20 g21 og g23 (nI (cd + 1)) g25 g26 v27 v28 v29 v30 v31 v32 v33 v34 v35 v36 v37 (nI ol)), (v32, .inl (cA 0, 400, .inl fn3))]) 5 hP hD [0, 6] [1, 2, 3, 4, 5] rfl rfl (by decide) (by decide) hk1 hFc hP1 hD1 rfl
  generalize H1 = H at hP hS ⊢
  obtain rfl : rn2 = 1 := hw
  refine lv_pop hx hb dX10_plainFact_8 rfl ?_
  refine lv_aload_n hx hb dX10_plainFact_9 rfl (lv_at hl 0 rfl) ?_
  have hn5 := TX.go2 hTX (show ti < ct by omega) (by rw [hk]; decide)
  have hn5a := TX.le hTX (show ti < ct by omega)
  have hn5b := TX.le hTX hn5.1
  obtain ⟨hPc, hDc, hFc⟩ := PDq.cut (wc := [(oX10 w0 v0 v1 v2 v3 v4 g5 g6 (nI ed) g8 v9 (nI nb) g11 g12 v13 (nI ln) (nI (gP ti)) (nI (gR (ti + 1))) tk kw g19 g20 g21 og g23 (nI (cd + 1)) g25 g26 v27 v28 v29 v30 v31 v32 v33 v34 v35 v36 v37 (nI ol)), (v9, .inl (cA 0, 700, .inl fb)), (v13, .inl (cA 1, 15, .inr (.inl fkw)))]) hP hD hS hA [5, 1, 2] (by decide) rfl
  refine va_calli (va_runV (As := []) (rest := []) ⟨hx, hb, hml, hown, hts⟩ (y_advance l D cA sa w0 ed nb ol v0 v1 v2 v3 v4 v9 v13 v27 v28 v29 v30 v31 v32 v33 v34 v35 v36 v37 g8 g11 g12 (nI (gP ti)) tk kw g19 g20 g21 og g23 (nI (cd + 1)) g26 g5 g6 g25 ln (gR (ti + 1)) fb fkw (gP (ti + 1)) (gR ((ti + 1) + 1)) (gK (ti + 1)) (gV (ti + 1)) H.size hln (by omega) hKW hBY (TX.t hTX hn5.1)) (cwV 0 hts gX10_plainFact_X10_advance rfl rfl rfl (by decide +kernel) ⟨(Nat.le_of_ble_eq_true rfl), (Nat.le_of_ble_eq_true rfl)⟩) ⟨Wd.blind, va_recv hK hPc (ci := 11) (q0 := 0) rfl rfl, fun U hU hW => ⟨rfl, Wd.call hPc hDc hK hC hZ hS hFc U hU hW⟩⟩ rfl rfl hl.1 rfl (lv_room (Nat.le_of_ble_eq_true rfl)) dX10_plainFact_10 ⟨(Nat.le_of_ble_eq_true rfl), (Nat.le_of_ble_eq_true rfl)⟩) hS (fun q _ h => hFc q h) hFc (fun rn6 u t H1 locs ht hvm hw hB hz1 hk1 hS => ?_)
  obtain ⟨zn7, zn8, zn9, zn10, hn11, hP1, hD1⟩ := hB
  rw [ht] at hP1
  obtain ⟨hP, hD⟩ := PDq.join (w := [(v1, .inl (cA 0, 326, .inl fp)), (v28, .inl (cA 1, 10, .inr (.inl l28))), (v30, .inl (cA 1, 8, .inr (.inl l30))), (v32, .inl (cA 0, 400, .inl fn3)), (oX10 w0 v0 v1 v2 v3 v4 g5 g6 (nI ed) g8 v9 (nI nb) g11 g12 v13 (nI ln) (nI (gP (ti + 1))) (nI (gR ((ti + 1) + 1))) zn7 zn8 zn9 g20 g21 og g23 (nI (cd + 1)) zn10 g26 v27 v28 v29 v30 v31 v32 v33 v34 v35 v36 v37 (nI ol)), (v9, .inl (cA 0, 700, .inl fb)), (v13, .inl (cA 1, 15, .inr (.inl fkw)))]) 4 hP hD [5, 1, 2] [0, 3, 4, 6] rfl rfl (by decide) (by decide) hk1 hFc hP1 hD1 rfl
  generalize H1 = H at hP hS ⊢
  obtain rfl : rn6 = 1 := hw
  obtain ⟨hP9, hD9⟩ := PDq.sub (ws' := [(oX10 w0 v0 v1 v2 v3 v4 g5 g6 (nI ed) g8 v9 (nI nb) g11 g12 v13 (nI ln) (nI (gP (ti + 1))) (nI (gR ((ti + 1) + 1))) zn7 zn8 zn9 g20 g21 og g23 (nI (cd + 1)) zn10 g26 v27 v28 v29 v30 v31 v32 v33 v34 v35 v36 v37 (nI ol)), (v1, .inl (cA 0, 326, .inl fp)), (v9, .inl (cA 0, 700, .inl fb)), (v13, .inl (cA 1, 15, .inr (.inl fkw))), (v28, .inl (cA 1, 10, .inr (.inl l28))), (v30, .inl (cA 1, 8, .inr (.inl l30))), (v32, .inl (cA 0, 400, .inl fn3))]) hP hD [4, 0, 5, 6, 1, 2, 3] (by decide) rfl
  refine W.widen (k := 0) (n := 0) (Nat.le_of_ble_eq_true rfl) (Nat.le_of_ble_eq_true rfl) ?_
  exact (W.zret (v := 1) hx hb hr (by first | rfl | decide) (fun t ht hW => ⟨⟨1, 1, rfl, ⟨rfl, by decide⟩, (ti + 1), zn7, zn8, zn9, g20, g21, g26, zn10, (cd + 1), pq, fp, fn3, l30, pl, hn5.1, (by omega), (by omega), hn11, hpq, hri, hNP, (fun _ => rfl), (fun _ => rfl), (fun _ => (by omega)), (fun _ => (by omega)), (fun _ => (by omega)), (fun _ => (Em.kp hn4)), (fun _ => (Sg.leaf hn4 (by decide))), (fun _ => (P_plain (Or.inl hk))), (fun h9 => absurd h9 (by decide)), by rw [ht]; exact hP9, hD9⟩, hS.F ht⟩) hS.2.2 dX10_plainFact_13)

set_option maxHeartbeats 4000000 in
set_option maxRecDepth 100000 in
/-- reference: plainFact -/
theorem y_plainFact5 (l : Launch) (D : va_G) (cA : Nat → ClassId) (sa : Nat → Nat) (w0 : Nat) (ed : Nat) (nb : Nat) (ol : Nat) (v0 : Nat) (v1 : Nat) (v2 : Nat) (v3 : Nat) (v4 : Nat) (v9 : Nat) (v13 : Nat) (v27 : Nat) (v28 : Nat) (v29 : Nat) (v30 : Nat) (v31 : Nat) (v32 : Nat) (v33 : Nat) (v34 : Nat) (v35 : Nat) (v36 : Nat) (v37 : Nat) (g8 : Int32) (g11 : Int32) (g12 : Int32) (g19 : Int32) (g20 : Int32) (g21 : Int32) (g23 : Int32) (g26 : Int32) (g5 : Int64) (g6 : Int64) (g25 : Int64) (ln : Nat) (cd : Nat) (tk : Int32) (kw : Int32) (ti : Nat) (ct : Nat) (fb : Nat → Int32) (fkw : Nat → Int64) (gP : Nat → Nat) (gR : Nat → Nat) (gS : Nat → Int32) (gK : Nat → Int32) (gV : Nat → Int64) (cn : Nat) (pq : Nat) (en : Nat) (dy : Nat) (fp : Nat → Int32) (sl : Nat) (o9 : Nat) (l28 : Nat → Int64) (l30 : Nat → Int64) (fc : Nat → Int32) (ml : List Int64) (pl : List Int64) (og : Int32) (sz : Nat) (hln : ln ≤ 700) (hct : ct ≤ 701) (hti : ti < ct) (hTX : TX fb ln ct gP gR gS gV gK) (hBY : BYn ln fb) (hTK : TKR (gK ti) (gV ti) (fb (gP ti)) tk kw g19 g25) (hKW : KW 15 fkw) (hcn : cn ≤ 10) (hpq : pq ≤ 8) (hen : en ≤ 60) (hdy : dy ≤ 20000) (hri : RI cn pq en dy fp) (hcd : 2 * cd + sl ≤ gP ti) (hNM : NL ml cn l28) (hNP : NL pl pq l30) (hk : gK ti = 22) : Met l yX10_plainFact wsX10_plainFact ({ frames := 2, cells := 0, slots := 0, locals := 44 }) (va_Pc [.ref w0, .int 5] (Wd D cA sa [(oX10 w0 v0 v1 v2 v3 v4 g5 g6 (nI ed) g8 v9 (nI nb) g11 g12 v13 (nI ln) (nI (gP ti)) (nI (gR (ti + 1))) tk kw g19 g20 g21 og g23 (nI cd) g25 g26 v27 v28 v29 v30 v31 v32 v33 v34 v35 v36 v37 (nI ol)), (v1, .inl (cA 0, 326, .inl fp)), (v9, .inl (cA 0, 700, .inl fb)), (v13, .inl (cA 1, 15, .inr (.inl fkw))), (v28, .inl (cA 1, 10, .inr (.inl l28))), (v30, .inl (cA 1, 8, .inr (.inl l30))), (v32, .inl (cA 0, 400, .inl fc))] sz)) (va_Qi (fun (r : Int32) (u9 : Int32) => u9 = r ∧ (r = 0 ∨ r = 1)) (fun (u9 : Int32) t => ∃ tj : Nat, ∃ z17 : Int32, ∃ z18 : Int32, ∃ z19 : Int32, ∃ z20 : Int32, ∃ z21 : Int32, ∃ z26 : Int32, ∃ z25 : Int64, ∃ cd2 : Nat, ∃ pq2 : Nat, ∃ zp : Nat → Int32, ∃ zc : Nat → Int32, ∃ zl : Nat → Int64, ∃ zpl : List Int64, tj < ct ∧ gP tj ≤ ln ∧ ti ≤ tj ∧ TKR (gK tj) (gV tj) (fb (gP tj)) z17 z18 z19 z25 ∧ pq2 ≤ 8 ∧ RI cn pq2 en dy zp ∧ NL zpl pq2 zl ∧ (u9 = 1 → z20 = g20) ∧ (u9 = 1 → z21 = g21) ∧ (u9 = 1 → ti + 1 ≤ tj) ∧ (u9 = 1 → cd ≤ cd2) ∧ (u9 = 1 → 2 * cd2 + sl ≤ gP tj) ∧ (u9 = 1 → Kp cd fc zc) ∧ (u9 = 1 → Sg cd cd2 zc) ∧ (u9 = 1 → PRx gK gS gV ml 0 o9 ti pl (.inr (tj, zpl))) ∧ (u9 = 0 → PRx gK gS gV ml 0 o9 ti pl (.inl (z20, z21))) ∧ Wq D (va_A [(oX10 w0 v0 v1 v2 v3 v4 g5 g6 (nI ed) g8 v9 (nI nb) g11 g12 v13 (nI ln) (nI (gP ti)) (nI (gR (ti + 1))) tk kw g19 g20 g21 og g23 (nI cd) g25 g26 v27 v28 v29 v30 v31 v32 v33 v34 v35 v36 v37 (nI ol)), (v1, .inl (cA 0, 326, .inl fp)), (v9, .inl (cA 0, 700, .inl fb)), (v13, .inl (cA 1, 15, .inr (.inl fkw))), (v28, .inl (cA 1, 10, .inr (.inl l28))), (v30, .inl (cA 1, 8, .inr (.inl l30))), (v32, .inl (cA 0, 400, .inl fc))] sz) [(oX10 w0 v0 v1 v2 v3 v4 g5 g6 (nI ed) g8 v9 (nI nb) g11 g12 v13 (nI ln) (nI (gP tj)) (nI (gR (tj + 1))) z17 z18 z19 z20 z21 og g23 (nI cd2) z25 z26 v27 v28 v29 v30 v31 v32 v33 v34 v35 v36 v37 (nI ol)), (v1, .inl (cA 0, 326, .inl zp)), (v9, .inl (cA 0, 700, .inl fb)), (v13, .inl (cA 1, 15, .inr (.inl fkw))), (v28, .inl (cA 1, 10, .inr (.inl l28))), (v30, .inl (cA 1, 8, .inr (.inl zl))), (v32, .inl (cA 0, 400, .inl zc))] t) (va_A [(oX10 w0 v0 v1 v2 v3 v4 g5 g6 (nI ed) g8 v9 (nI nb) g11 g12 v13 (nI ln) (nI (gP ti)) (nI (gR (ti + 1))) tk kw g19 g20 g21 og g23 (nI cd) g25 g26 v27 v28 v29 v30 v31 v32 v33 v34 v35 v36 v37 (nI ol)), (v1, .inl (cA 0, 326, .inl fp)), (v9, .inl (cA 0, 700, .inl fb)), (v13, .inl (cA 1, 15, .inr (.inl fkw))), (v28, .inl (cA 1, 10, .inr (.inl l28))), (v30, .inl (cA 1, 8, .inr (.inl l30))), (v32, .inl (cA 0, 400, .inl fc))] sz)) 0 0 (va_A [(oX10 w0 v0 v1 v2 v3 v4 g5 g6 (nI ed) g8 v9 (nI nb) g11 g12 v13 (nI ln) (nI (gP ti)) (nI (gR (ti + 1))) tk kw g19 g20 g21 og g23 (nI cd) g25 g26 v27 v28 v29 v30 v31 v32 v33 v34 v35 v36 v37 (nI ol)), (v1, .inl (cA 0, 326, .inl fp)), (v9, .inl (cA 0, 700, .inl fb)), (v13, .inl (cA 1, 15, .inr (.inl fkw))), (v28, .inl (cA 1, 10, .inr (.inl l28))), (v30, .inl (cA 1, 8, .inr (.inl l30))), (v32, .inl (cA 0, 400, .inl fc))] sz) := by
  refine Met.ofW (cc := cX10_plainFact) (maxL := 2) (ret := (some .boolean)) (by decide) rfl ?_
  intro p e s m args below meth c s₁ B hml hv
  obtain ⟨rfl, hsz, hP, hK, hD0, hC, hZ⟩ := hv
  have hx := B.exec
  have hb := B.bytes
  have hr := B.returns
  have hts := atoms_spec (ws := wsX10_plainFact) B.pre
  have hown : s.vm.findClass RX10 = some m.cls := findClass_of_methodNamed B.named
  have hlocks := B.notSynchronized
  subst hsz
  have hD := hD0.self (sz := s.heap.size)
  generalize hAe : va_A [(oX10 w0 v0 v1 v2 v3 v4 g5 g6 (nI ed) g8 v9 (nI nb) g11 g12 v13 (nI ln) (nI (gP ti)) (nI (gR (ti + 1))) tk kw g19 g20 g21 og g23 (nI cd) g25 g26 v27 v28 v29 v30 v31 v32 v33 v34 v35 v36 v37 (nI ol)), (v1, .inl (cA 0, 326, .inl fp)), (v9, .inl (cA 0, 700, .inl fb)), (v13, .inl (cA 1, 15, .inr (.inl fkw))), (v28, .inl (cA 1, 10, .inr (.inl l28))), (v30, .inl (cA 1, 8, .inr (.inl l30))), (v32, .inl (cA 0, 400, .inl fc))] s.heap.size = A at hD hZ ⊢
  have hA : ∀ q : Nat, s.heap.size ≤ q → A q := fun q h => by rw [← hAe]; exact Or.inr h
  have hS : va_S A s.heap s.heap [] := va_S.rf
  have hP : va_P D vwCl [(oX10 w0 v0 v1 v2 v3 v4 g5 g6 (nI ed) g8 v9 (nI nb) g11 g12 v13 (nI ln) (nI (gP ti)) (nI (gR (ti + 1))) tk kw g19 g20 g21 og g23 (nI cd) g25 g26 v27 v28 v29 v30 v31 v32 v33 v34 v35 v36 v37 (nI ol)), (v1, .inl (cA 0, 326, .inl fp)), (v9, .inl (cA 0, 700, .inl fb)), (v13, .inl (cA 1, 15, .inr (.inl fkw))), (v28, .inl (cA 1, 10, .inr (.inl l28))), (v30, .inl (cA 1, 8, .inr (.inl l30))), (v32, .inl (cA 0, 400, .inl fc))] s.heap := hP
  have hl := lv_entry ([.ref w0, .int 5]) (n := 2) (Nat.le_of_ble_eq_true rfl)
  rw [lg_entry_eq]
  generalize (lg_sl ([.ref w0, .int 5]) ++ List.replicate (2 - (lg_sl ([.ref w0, .int 5])).length) Slot.unset).toArray = ls at hl ⊢
  have hl : lv_has ls 2 [(0, .ref w0), (1, .int 5)] := hl
  have hle9 := TX.le hTX hti
  refine lv_aload_n hx hb dX10_plainFact_0 rfl (lv_at hl 0 rfl) ?_
  refine lv_ldc (v := 100000) hx hb hown (hts (.constant RX10 201 100000) (by decide +kernel)) dX10_plainFact_1 ?_
  refine lv_iload_n hx hb dX10_plainFact_3 rfl (lv_at hl 1 rfl) ?_
  refine lv_imul hx hb dX10_plainFact_4 ?_
  refine lv_topi (fun yn1 eyn1 => ?_)
  obtain rfl : yn1 = 500000 := eyn1.trans (by first | rfl | decide +kernel)
  obtain ⟨hPc, hDc, hFc⟩ := PDq.cut (wc := [(oX10 w0 v0 v1 v2 v3 v4 g5 g6 (nI ed) g8 v9 (nI nb) g11 g12 v13 (nI ln) (nI (gP ti)) (nI (gR (ti + 1))) tk kw g19 g20 g21 og g23 (nI cd) g25 g26 v27 v28 v29 v30 v31 v32 v33 v34 v35 v36 v37 (nI ol)), (v32, .inl (cA 0, 400, .inl fc))]) hP hD hS hA [0, 6] (by decide) rfl
  refine va_calli (va_runV (As := [.int 500000]) (rest := []) ⟨hx, hb, hml, hown, hts⟩ (r_emit l D cA sa w0 ed nb ol v0 v1 v2 v3 v4 v9 v13 v27 v28 v29 v30 v31 v32 v33 v34 v35 v36 v37 g8 g11 g12 (nI ln) (nI (gP ti)) (nI (gR (ti + 1))) tk kw g19 g20 g21 og g23 g26 g5 g6 g25 cd 500000 fc s.heap.size (by omega)) (cwV 1 hts gX10_plainFact_X10_emit rfl rfl rfl (by decide +kernel) ⟨(Nat.le_of_ble_eq_true rfl), (Nat.le_of_ble_eq_true rfl)⟩) ⟨Wd.blind, va_recv hK hPc (ci := 11) (q0 := 0) rfl rfl, fun U hU hW => ⟨rfl, Wd.call hPc hDc hK hC hZ hS hFc U hU hW⟩⟩ rfl rfl hl.1 rfl (lv_room (Nat.le_of_ble_eq_true rfl)) dX10_plainFact_5 ⟨(Nat.le_of_ble_eq_true rfl), (Nat.le_of_ble_eq_true rfl)⟩) hS (fun q _ h => hFc q h) hFc (fun rn2 u t H1 locs ht hvm hw hB hz1 hk1 hS => ?_)
  obtain ⟨fn3, hn4, hP1, hD1⟩ := hB
  rw [ht] at hP1
  obtain ⟨hP, hD⟩ := PDq.join (w := [(v1, .inl (cA 0, 326, .inl fp)), (v9, .inl (cA 0, 700, .inl fb)), (v13, .inl (cA 1, 15, .inr (.inl fkw))), (v28, .inl (cA 1, 10, .inr (.inl l28))), (v30, .inl (cA 1, 8, .inr (.inl l30))), (oX10 w0 v0 v1 v2 v3 v4 g5 g6 (nI ed) g8 v9 (nI nb) g11 g12 v13 (nI ln) (nI (gP ti)) (nI (gR (ti + 1))) tk kw g19 g20 g21 og g23 (nI (cd + 1)) g25 g26 v27 v28 v29 v30 v31 v32 v33 v34 v35 v36 v37 (nI ol)), (v32, .inl (cA 0, 400, .inl fn3))]) 5 hP hD [0, 6] [1, 2, 3, 4, 5] rfl rfl (by decide) (by decide) hk1 hFc hP1 hD1 rfl
  generalize H1 = H at hP hS ⊢
  obtain rfl : rn2 = 1 := hw
  refine lv_pop hx hb dX10_plainFact_8 rfl ?_
  refine lv_aload_n hx hb dX10_plainFact_9 rfl (lv_at hl 0 rfl) ?_
  have hn5 := TX.go2 hTX (show ti < ct by omega) (by rw [hk]; decide)
  have hn5a := TX.le hTX (show ti < ct by omega)
  have hn5b := TX.le hTX hn5.1
  obtain ⟨hPc, hDc, hFc⟩ := PDq.cut (wc := [(oX10 w0 v0 v1 v2 v3 v4 g5 g6 (nI ed) g8 v9 (nI nb) g11 g12 v13 (nI ln) (nI (gP ti)) (nI (gR (ti + 1))) tk kw g19 g20 g21 og g23 (nI (cd + 1)) g25 g26 v27 v28 v29 v30 v31 v32 v33 v34 v35 v36 v37 (nI ol)), (v9, .inl (cA 0, 700, .inl fb)), (v13, .inl (cA 1, 15, .inr (.inl fkw)))]) hP hD hS hA [5, 1, 2] (by decide) rfl
  refine va_calli (va_runV (As := []) (rest := []) ⟨hx, hb, hml, hown, hts⟩ (y_advance l D cA sa w0 ed nb ol v0 v1 v2 v3 v4 v9 v13 v27 v28 v29 v30 v31 v32 v33 v34 v35 v36 v37 g8 g11 g12 (nI (gP ti)) tk kw g19 g20 g21 og g23 (nI (cd + 1)) g26 g5 g6 g25 ln (gR (ti + 1)) fb fkw (gP (ti + 1)) (gR ((ti + 1) + 1)) (gK (ti + 1)) (gV (ti + 1)) H.size hln (by omega) hKW hBY (TX.t hTX hn5.1)) (cwV 0 hts gX10_plainFact_X10_advance rfl rfl rfl (by decide +kernel) ⟨(Nat.le_of_ble_eq_true rfl), (Nat.le_of_ble_eq_true rfl)⟩) ⟨Wd.blind, va_recv hK hPc (ci := 11) (q0 := 0) rfl rfl, fun U hU hW => ⟨rfl, Wd.call hPc hDc hK hC hZ hS hFc U hU hW⟩⟩ rfl rfl hl.1 rfl (lv_room (Nat.le_of_ble_eq_true rfl)) dX10_plainFact_10 ⟨(Nat.le_of_ble_eq_true rfl), (Nat.le_of_ble_eq_true rfl)⟩) hS (fun q _ h => hFc q h) hFc (fun rn6 u t H1 locs ht hvm hw hB hz1 hk1 hS => ?_)
  obtain ⟨zn7, zn8, zn9, zn10, hn11, hP1, hD1⟩ := hB
  rw [ht] at hP1
  obtain ⟨hP, hD⟩ := PDq.join (w := [(v1, .inl (cA 0, 326, .inl fp)), (v28, .inl (cA 1, 10, .inr (.inl l28))), (v30, .inl (cA 1, 8, .inr (.inl l30))), (v32, .inl (cA 0, 400, .inl fn3)), (oX10 w0 v0 v1 v2 v3 v4 g5 g6 (nI ed) g8 v9 (nI nb) g11 g12 v13 (nI ln) (nI (gP (ti + 1))) (nI (gR ((ti + 1) + 1))) zn7 zn8 zn9 g20 g21 og g23 (nI (cd + 1)) zn10 g26 v27 v28 v29 v30 v31 v32 v33 v34 v35 v36 v37 (nI ol)), (v9, .inl (cA 0, 700, .inl fb)), (v13, .inl (cA 1, 15, .inr (.inl fkw)))]) 4 hP hD [5, 1, 2] [0, 3, 4, 6] rfl rfl (by decide) (by decide) hk1 hFc hP1 hD1 rfl
  generalize H1 = H at hP hS ⊢
  obtain rfl : rn6 = 1 := hw
  obtain ⟨hP9, hD9⟩ := PDq.sub (ws' := [(oX10 w0 v0 v1 v2 v3 v4 g5 g6 (nI ed) g8 v9 (nI nb) g11 g12 v13 (nI ln) (nI (gP (ti + 1))) (nI (gR ((ti + 1) + 1))) zn7 zn8 zn9 g20 g21 og g23 (nI (cd + 1)) zn10 g26 v27 v28 v29 v30 v31 v32 v33 v34 v35 v36 v37 (nI ol)), (v1, .inl (cA 0, 326, .inl fp)), (v9, .inl (cA 0, 700, .inl fb)), (v13, .inl (cA 1, 15, .inr (.inl fkw))), (v28, .inl (cA 1, 10, .inr (.inl l28))), (v30, .inl (cA 1, 8, .inr (.inl l30))), (v32, .inl (cA 0, 400, .inl fn3))]) hP hD [4, 0, 5, 6, 1, 2, 3] (by decide) rfl
  refine W.widen (k := 0) (n := 0) (Nat.le_of_ble_eq_true rfl) (Nat.le_of_ble_eq_true rfl) ?_
  exact (W.zret (v := 1) hx hb hr (by first | rfl | decide) (fun t ht hW => ⟨⟨1, 1, rfl, ⟨rfl, by decide⟩, (ti + 1), zn7, zn8, zn9, g20, g21, g26, zn10, (cd + 1), pq, fp, fn3, l30, pl, hn5.1, (by omega), (by omega), hn11, hpq, hri, hNP, (fun _ => rfl), (fun _ => rfl), (fun _ => (by omega)), (fun _ => (by omega)), (fun _ => (by omega)), (fun _ => (Em.kp hn4)), (fun _ => (Sg.leaf hn4 (by decide))), (fun _ => (P_plain (Or.inr hk))), (fun h9 => absurd h9 (by decide)), by rw [ht]; exact hP9, hD9⟩, hS.F ht⟩) hS.2.2 dX10_plainFact_13)

set_option maxHeartbeats 4000000 in
set_option maxRecDepth 100000 in
/-- reference: opens -/
theorem y_opens_B (l : Launch) (D : va_G) (cA : Nat → ClassId) (sa : Nat → Nat) (w0 : Nat) (ed : Nat) (nb : Nat) (ol : Nat) (v0 : Nat) (v1 : Nat) (v2 : Nat) (v3 : Nat) (v4 : Nat) (v9 : Nat) (v13 : Nat) (v27 : Nat) (v28 : Nat) (v29 : Nat) (v30 : Nat) (v31 : Nat) (v32 : Nat) (v33 : Nat) (v34 : Nat) (v35 : Nat) (v36 : Nat) (v37 : Nat) (g8 : Int32) (g11 : Int32) (g12 : Int32) (g19 : Int32) (g20 : Int32) (g21 : Int32) (g23 : Int32) (g26 : Int32) (g5 : Int64) (g6 : Int64) (g25 : Int64) (ln : Nat) (cd : Nat) (tk : Int32) (kw : Int32) (ti : Nat) (ct : Nat) (fb : Nat → Int32) (fkw : Nat → Int64) (gP : Nat → Nat) (gR : Nat → Nat) (gS : Nat → Int32) (gK : Nat → Int32) (gV : Nat → Int64) (o9 : Nat) (sz : Nat) (hln : ln ≤ 700) (hct : ct ≤ 701) (hti : ti < ct) (hTX : TX fb ln ct gP gR gS gV gK) (hBY : BYn ln fb) (hTK : TKR (gK ti) (gV ti) (fb (gP ti)) tk kw g19 g25) (ho : o9 = 8) : Met l yX10_opens wsX10_opens ({ frames := 1, cells := 0, slots := 0, locals := 21 }) (va_Pc [.ref w0] (Wd D cA sa [(oX10 w0 v0 v1 v2 v3 v4 g5 g6 (nI ed) g8 v9 (nI nb) g11 g12 v13 (nI ln) (nI (gP ti)) (nI (gR (ti + 1))) tk kw g19 g20 g21 (nI o9) g23 (nI cd) g25 g26 v27 v28 v29 v30 v31 v32 v33 v34 v35 v36 v37 (nI ol)), (v9, .inl (cA 0, 700, .inl fb)), (v13, .inl (cA 1, 15, .inr (.inl fkw)))] sz)) (va_Qi (fun (r : Int32) (_ : Unit) => r = 0) (fun (_ : Unit) t => ∃ z20 : Int32, z20 = fek (gK ti) 5 ∧ Wq D (va_A [(oX10 w0 v0 v1 v2 v3 v4 g5 g6 (nI ed) g8 v9 (nI nb) g11 g12 v13 (nI ln) (nI (gP ti)) (nI (gR (ti + 1))) tk kw g19 g20 g21 (nI o9) g23 (nI cd) g25 g26 v27 v28 v29 v30 v31 v32 v33 v34 v35 v36 v37 (nI ol)), (v9, .inl (cA 0, 700, .inl fb)), (v13, .inl (cA 1, 15, .inr (.inl fkw)))] sz) [(oX10 w0 v0 v1 v2 v3 v4 g5 g6 (nI ed) g8 v9 (nI nb) g11 g12 v13 (nI ln) (nI (gP ti)) (nI (gR (ti + 1))) tk kw g19 z20 (nI (gP ti)) (nI o9) g23 (nI cd) g25 g26 v27 v28 v29 v30 v31 v32 v33 v34 v35 v36 v37 (nI ol)), (v9, .inl (cA 0, 700, .inl fb)), (v13, .inl (cA 1, 15, .inr (.inl fkw)))] t) (va_A [(oX10 w0 v0 v1 v2 v3 v4 g5 g6 (nI ed) g8 v9 (nI nb) g11 g12 v13 (nI ln) (nI (gP ti)) (nI (gR (ti + 1))) tk kw g19 g20 g21 (nI o9) g23 (nI cd) g25 g26 v27 v28 v29 v30 v31 v32 v33 v34 v35 v36 v37 (nI ol)), (v9, .inl (cA 0, 700, .inl fb)), (v13, .inl (cA 1, 15, .inr (.inl fkw)))] sz)) 0 0 (va_A [(oX10 w0 v0 v1 v2 v3 v4 g5 g6 (nI ed) g8 v9 (nI nb) g11 g12 v13 (nI ln) (nI (gP ti)) (nI (gR (ti + 1))) tk kw g19 g20 g21 (nI o9) g23 (nI cd) g25 g26 v27 v28 v29 v30 v31 v32 v33 v34 v35 v36 v37 (nI ol)), (v9, .inl (cA 0, 700, .inl fb)), (v13, .inl (cA 1, 15, .inr (.inl fkw)))] sz) := by
  refine Met.ofW (cc := cX10_opens) (maxL := 1) (ret := (some .boolean)) (by decide) rfl ?_
  intro p e s m args below meth c s₁ B hml hv
  obtain ⟨rfl, hsz, hP, hK, hD0, hC, hZ⟩ := hv
  have hx := B.exec
  have hb := B.bytes
  have hr := B.returns
  have hts := atoms_spec (ws := wsX10_opens) B.pre
  have hown : s.vm.findClass RX10 = some m.cls := findClass_of_methodNamed B.named
  have hlocks := B.notSynchronized
  subst hsz
  have hD := hD0.self (sz := s.heap.size)
  generalize hAe : va_A [(oX10 w0 v0 v1 v2 v3 v4 g5 g6 (nI ed) g8 v9 (nI nb) g11 g12 v13 (nI ln) (nI (gP ti)) (nI (gR (ti + 1))) tk kw g19 g20 g21 (nI o9) g23 (nI cd) g25 g26 v27 v28 v29 v30 v31 v32 v33 v34 v35 v36 v37 (nI ol)), (v9, .inl (cA 0, 700, .inl fb)), (v13, .inl (cA 1, 15, .inr (.inl fkw)))] s.heap.size = A at hD hZ ⊢
  have hA : ∀ q : Nat, s.heap.size ≤ q → A q := fun q h => by rw [← hAe]; exact Or.inr h
  have hS : va_S A s.heap s.heap [] := va_S.rf
  have hP : va_P D vwCl [(oX10 w0 v0 v1 v2 v3 v4 g5 g6 (nI ed) g8 v9 (nI nb) g11 g12 v13 (nI ln) (nI (gP ti)) (nI (gR (ti + 1))) tk kw g19 g20 g21 (nI o9) g23 (nI cd) g25 g26 v27 v28 v29 v30 v31 v32 v33 v34 v35 v36 v37 (nI ol)), (v9, .inl (cA 0, 700, .inl fb)), (v13, .inl (cA 1, 15, .inr (.inl fkw)))] s.heap := hP
  have hl := lv_entry ([.ref w0]) (n := 1) (Nat.le_of_ble_eq_true rfl)
  rw [lg_entry_eq]
  generalize (lg_sl ([.ref w0]) ++ List.replicate (1 - (lg_sl ([.ref w0])).length) Slot.unset).toArray = ls at hl ⊢
  have hl : lv_has ls 1 [(0, .ref w0)] := hl
  have inX10 : ∀ w ∈ u_ws RX10 TX10 39, w ∈ wsX10_opens := by decide +kernel
  refine lv_aload_n hx hb dX10_opens_0 rfl (lv_at hl 0 rfl) ?_
  refine va_get (D := D) (ci := 11) (v := .int (nI o9)) (C := RX10) (T := TX10) (N := 39) hx hb hts inX10 hown hK hP 0 rfl rfl 22 (by decide) (hts (.fieldLink RX10 182 "EscrowDeskModel" "open" "I") (by decide +kernel)) (fun _ h9 => h9) rfl dX10_opens_1 ?_
  refine lv_bipush (v := 8) hx hb dX10_opens_4 (by decide) ?_
  refine lv_icmp_ne (tgt := 15) hx hb dX10_opens_6 (by decide) (fun c9 => absurd c9 ((fun h9 => h9 ((nI_eq (a := o9) (b := 8) (by omega) (by omega)).mpr (by omega))))) (fun c1 => ?_)
  refine lv_aload_n hx hb dX10_opens_9 rfl (lv_at hl 0 rfl) ?_
  refine lv_iconst (v := 5) hx hb dX10_opens_10 (by decide) ?_
  obtain ⟨hPc, hDc, hFc⟩ := PDq.cut (wc := [(oX10 w0 v0 v1 v2 v3 v4 g5 g6 (nI ed) g8 v9 (nI nb) g11 g12 v13 (nI ln) (nI (gP ti)) (nI (gR (ti + 1))) tk kw g19 g20 g21 (nI o9) g23 (nI cd) g25 g26 v27 v28 v29 v30 v31 v32 v33 v34 v35 v36 v37 (nI ol))]) hP hD hS hA [0] (by decide) rfl
  refine va_calli (va_runV (As := [.int 5]) (rest := []) ⟨hx, hb, hml, hown, hts⟩ (y_fail l D cA sa w0 ed nb ol v0 v1 v2 v3 v4 v9 v13 v27 v28 v29 v30 v31 v32 v33 v34 v35 v36 v37 g8 g11 g12 g19 g20 g21 (nI o9) g23 g26 g5 g6 g25 ln cd tk kw ti ct fb gP gR gS gK gV 5 s.heap.size hln hct hti hTX hBY hTK) (cwV 1 hts gX10_opens_X10_fail rfl rfl rfl (by decide +kernel) ⟨(Nat.le_of_ble_eq_true rfl), (Nat.le_of_ble_eq_true rfl)⟩) ⟨Wd.blind, va_recv hK hPc (ci := 11) (q0 := 0) rfl rfl, fun U hU hW => ⟨rfl, Wd.call hPc hDc hK hC hZ hS hFc U hU hW⟩⟩ rfl rfl hl.1 rfl (lv_room (Nat.le_of_ble_eq_true rfl)) dX10_opens_11 ⟨(Nat.le_of_ble_eq_true rfl), (Nat.le_of_ble_eq_true rfl)⟩) hS (fun q _ h => hFc q h) hFc (fun rn2 u t H1 locs ht hvm hw hB hz1 hk1 hS => ?_)
  obtain ⟨zn3, hn4, hP1, hD1⟩ := hB
  rw [ht] at hP1
  obtain ⟨hP, hD⟩ := PDq.join (w := [(v9, .inl (cA 0, 700, .inl fb)), (v13, .inl (cA 1, 15, .inr (.inl fkw))), (oX10 w0 v0 v1 v2 v3 v4 g5 g6 (nI ed) g8 v9 (nI nb) g11 g12 v13 (nI ln) (nI (gP ti)) (nI (gR (ti + 1))) tk kw g19 zn3 (nI (gP ti)) (nI o9) g23 (nI cd) g25 g26 v27 v28 v29 v30 v31 v32 v33 v34 v35 v36 v37 (nI ol))]) 2 hP hD [0] [1, 2] rfl rfl (by decide) (by decide) hk1 hFc hP1 hD1 rfl
  generalize H1 = H at hP hS ⊢
  obtain rfl : rn2 = 0 := hw
  obtain ⟨hP9, hD9⟩ := PDq.sub (ws' := [(oX10 w0 v0 v1 v2 v3 v4 g5 g6 (nI ed) g8 v9 (nI nb) g11 g12 v13 (nI ln) (nI (gP ti)) (nI (gR (ti + 1))) tk kw g19 zn3 (nI (gP ti)) (nI o9) g23 (nI cd) g25 g26 v27 v28 v29 v30 v31 v32 v33 v34 v35 v36 v37 (nI ol)), (v9, .inl (cA 0, 700, .inl fb)), (v13, .inl (cA 1, 15, .inr (.inl fkw)))]) hP hD [2, 0, 1] (by decide) rfl
  refine W.widen (k := 0) (n := 0) (Nat.le_of_ble_eq_true rfl) (Nat.le_of_ble_eq_true rfl) ?_
  exact (W.zret (v := 0) hx hb hr (by first | rfl | decide) (fun t ht hW => ⟨⟨0, (), rfl, rfl, zn3, hn4, by rw [ht]; exact hP9, hD9⟩, hS.F ht⟩) hS.2.2 dX10_opens_14)

set_option maxHeartbeats 4000000 in
set_option maxRecDepth 100000 in
/-- reference: opens -/
theorem y_opens_S (l : Launch) (D : va_G) (cA : Nat → ClassId) (sa : Nat → Nat) (w0 : Nat) (ed : Nat) (nb : Nat) (ol : Nat) (v0 : Nat) (v1 : Nat) (v2 : Nat) (v3 : Nat) (v4 : Nat) (v9 : Nat) (v13 : Nat) (v27 : Nat) (v28 : Nat) (v29 : Nat) (v30 : Nat) (v31 : Nat) (v32 : Nat) (v33 : Nat) (v34 : Nat) (v35 : Nat) (v36 : Nat) (v37 : Nat) (g8 : Int32) (g11 : Int32) (g12 : Int32) (g19 : Int32) (g20 : Int32) (g21 : Int32) (g23 : Int32) (g26 : Int32) (g5 : Int64) (g6 : Int64) (g25 : Int64) (ln : Nat) (cd : Nat) (tk : Int32) (kw : Int32) (ti : Nat) (ct : Nat) (fb : Nat → Int32) (fkw : Nat → Int64) (gP : Nat → Nat) (gR : Nat → Nat) (gS : Nat → Int32) (gK : Nat → Int32) (gV : Nat → Int64) (o9 : Nat) (sz : Nat) (hln : ln ≤ 700) (hct : ct ≤ 701) (hti : ti < ct) (hTX : TX fb ln ct gP gR gS gV gK) (hBY : BYn ln fb) (hTK : TKR (gK ti) (gV ti) (fb (gP ti)) tk kw g19 g25) (hKW : KW 15 fkw) (ho : o9 < 8) (hnt : ti + 1 < ct) : Met l yX10_opens wsX10_opens ({ frames := 2, cells := 0, slots := 0, locals := 44 }) (va_Pc [.ref w0] (Wd D cA sa [(oX10 w0 v0 v1 v2 v3 v4 g5 g6 (nI ed) g8 v9 (nI nb) g11 g12 v13 (nI ln) (nI (gP ti)) (nI (gR (ti + 1))) tk kw g19 g20 g21 (nI o9) g23 (nI cd) g25 g26 v27 v28 v29 v30 v31 v32 v33 v34 v35 v36 v37 (nI ol)), (v9, .inl (cA 0, 700, .inl fb)), (v13, .inl (cA 1, 15, .inr (.inl fkw)))] sz)) (va_Qi (fun (r : Int32) (_ : Unit) => r = 1) (fun (_ : Unit) t => ∃ z17 : Int32, ∃ z18 : Int32, ∃ z19 : Int32, ∃ z25 : Int64, TKR (gK (ti + 1)) (gV (ti + 1)) (fb (gP (ti + 1))) z17 z18 z19 z25 ∧ Wq D (va_A [(oX10 w0 v0 v1 v2 v3 v4 g5 g6 (nI ed) g8 v9 (nI nb) g11 g12 v13 (nI ln) (nI (gP ti)) (nI (gR (ti + 1))) tk kw g19 g20 g21 (nI o9) g23 (nI cd) g25 g26 v27 v28 v29 v30 v31 v32 v33 v34 v35 v36 v37 (nI ol)), (v9, .inl (cA 0, 700, .inl fb)), (v13, .inl (cA 1, 15, .inr (.inl fkw)))] sz) [(oX10 w0 v0 v1 v2 v3 v4 g5 g6 (nI ed) g8 v9 (nI nb) g11 g12 v13 (nI ln) (nI (gP (ti + 1))) (nI (gR ((ti + 1) + 1))) z17 z18 z19 g20 g21 (nI (o9 + 1)) g23 (nI cd) z25 g26 v27 v28 v29 v30 v31 v32 v33 v34 v35 v36 v37 (nI ol)), (v9, .inl (cA 0, 700, .inl fb)), (v13, .inl (cA 1, 15, .inr (.inl fkw)))] t) (va_A [(oX10 w0 v0 v1 v2 v3 v4 g5 g6 (nI ed) g8 v9 (nI nb) g11 g12 v13 (nI ln) (nI (gP ti)) (nI (gR (ti + 1))) tk kw g19 g20 g21 (nI o9) g23 (nI cd) g25 g26 v27 v28 v29 v30 v31 v32 v33 v34 v35 v36 v37 (nI ol)), (v9, .inl (cA 0, 700, .inl fb)), (v13, .inl (cA 1, 15, .inr (.inl fkw)))] sz)) 0 0 (va_A [(oX10 w0 v0 v1 v2 v3 v4 g5 g6 (nI ed) g8 v9 (nI nb) g11 g12 v13 (nI ln) (nI (gP ti)) (nI (gR (ti + 1))) tk kw g19 g20 g21 (nI o9) g23 (nI cd) g25 g26 v27 v28 v29 v30 v31 v32 v33 v34 v35 v36 v37 (nI ol)), (v9, .inl (cA 0, 700, .inl fb)), (v13, .inl (cA 1, 15, .inr (.inl fkw)))] sz) := by
  refine Met.ofW (cc := cX10_opens) (maxL := 1) (ret := (some .boolean)) (by decide) rfl ?_
  intro p e s m args below meth c s₁ B hml hv
  obtain ⟨rfl, hsz, hP, hK, hD0, hC, hZ⟩ := hv
  have hx := B.exec
  have hb := B.bytes
  have hr := B.returns
  have hts := atoms_spec (ws := wsX10_opens) B.pre
  have hown : s.vm.findClass RX10 = some m.cls := findClass_of_methodNamed B.named
  have hlocks := B.notSynchronized
  subst hsz
  have hD := hD0.self (sz := s.heap.size)
  generalize hAe : va_A [(oX10 w0 v0 v1 v2 v3 v4 g5 g6 (nI ed) g8 v9 (nI nb) g11 g12 v13 (nI ln) (nI (gP ti)) (nI (gR (ti + 1))) tk kw g19 g20 g21 (nI o9) g23 (nI cd) g25 g26 v27 v28 v29 v30 v31 v32 v33 v34 v35 v36 v37 (nI ol)), (v9, .inl (cA 0, 700, .inl fb)), (v13, .inl (cA 1, 15, .inr (.inl fkw)))] s.heap.size = A at hD hZ ⊢
  have hA : ∀ q : Nat, s.heap.size ≤ q → A q := fun q h => by rw [← hAe]; exact Or.inr h
  have hS : va_S A s.heap s.heap [] := va_S.rf
  have hP : va_P D vwCl [(oX10 w0 v0 v1 v2 v3 v4 g5 g6 (nI ed) g8 v9 (nI nb) g11 g12 v13 (nI ln) (nI (gP ti)) (nI (gR (ti + 1))) tk kw g19 g20 g21 (nI o9) g23 (nI cd) g25 g26 v27 v28 v29 v30 v31 v32 v33 v34 v35 v36 v37 (nI ol)), (v9, .inl (cA 0, 700, .inl fb)), (v13, .inl (cA 1, 15, .inr (.inl fkw)))] s.heap := hP
  have hl := lv_entry ([.ref w0]) (n := 1) (Nat.le_of_ble_eq_true rfl)
  rw [lg_entry_eq]
  generalize (lg_sl ([.ref w0]) ++ List.replicate (1 - (lg_sl ([.ref w0])).length) Slot.unset).toArray = ls at hl ⊢
  have hl : lv_has ls 1 [(0, .ref w0)] := hl
  have inX10 : ∀ w ∈ u_ws RX10 TX10 39, w ∈ wsX10_opens := by decide +kernel
  have hle9 := TX.le hTX hti
  refine lv_aload_n hx hb dX10_opens_0 rfl (lv_at hl 0 rfl) ?_
  refine va_get (D := D) (ci := 11) (v := .int (nI o9)) (C := RX10) (T := TX10) (N := 39) hx hb hts inX10 hown hK hP 0 rfl rfl 22 (by decide) (hts (.fieldLink RX10 182 "EscrowDeskModel" "open" "I") (by decide +kernel)) (fun _ h9 => h9) rfl dX10_opens_1 ?_
  refine lv_bipush (v := 8) hx hb dX10_opens_4 (by decide) ?_
  refine lv_icmp_ne (tgt := 15) hx hb dX10_opens_6 (by decide) (fun c1 => ?_) (fun c9 => absurd c9 ((fun e9 => absurd ((nI_eq (a := o9) (b := 8) (by omega) (by omega)).mp e9) (by omega))))
  refine lv_aload_n hx hb dX10_opens_15 rfl (lv_at hl 0 rfl) ?_
  refine lv_dup hx hb dX10_opens_16 rfl ?_
  refine va_get (D := D) (ci := 11) (v := .int (nI o9)) (C := RX10) (T := TX10) (N := 39) hx hb hts inX10 hown hK hP 0 rfl rfl 22 (by decide) (hts (.fieldLink RX10 182 "EscrowDeskModel" "open" "I") (by decide +kernel)) (fun _ h9 => h9) rfl dX10_opens_17 ?_
  refine lv_iconst (v := 1) hx hb dX10_opens_20 (by decide) ?_
  refine lv_iadd hx hb dX10_opens_21 ?_
  refine lv_topi (fun yn2 eyn2 => ?_)
  obtain rfl : yn2 = (nI (o9 + 1)) := eyn2.trans (nI_add o9 1)
  refine va_put (D := D) (ci := 11) (v := .int (nI (o9 + 1))) (ty := .int) (C := RX10) (T := TX10) (N := 39) hx hb hts inX10 tyX10 tyX10_ok nmX10 hown hK hP hD hS 0 rfl rfl 22 (by decide) (hts (.fieldLink RX10 182 "EscrowDeskModel" "open" "I") (by decide +kernel)) (fun _ h9 => h9) rfl (by decide +kernel) rfl rfl (Nat.le_of_ble_eq_true rfl) dX10_opens_22 (fun H locs hP hD hS => ?_)
  obtain ⟨hP, hD⟩ : PDq D A [(oX10 w0 v0 v1 v2 v3 v4 g5 g6 (nI ed) g8 v9 (nI nb) g11 g12 v13 (nI ln) (nI (gP ti)) (nI (gR (ti + 1))) tk kw g19 g20 g21 (nI (o9 + 1)) g23 (nI cd) g25 g26 v27 v28 v29 v30 v31 v32 v33 v34 v35 v36 v37 (nI ol)), (v9, .inl (cA 0, 700, .inl fb)), (v13, .inl (cA 1, 15, .inr (.inl fkw)))] H := ⟨hP, hD⟩
  refine lv_aload_n hx hb dX10_opens_25 rfl (lv_at hl 0 rfl) ?_
  obtain ⟨hPc, hDc, hFc⟩ := PDq.cut (wc := [(oX10 w0 v0 v1 v2 v3 v4 g5 g6 (nI ed) g8 v9 (nI nb) g11 g12 v13 (nI ln) (nI (gP ti)) (nI (gR (ti + 1))) tk kw g19 g20 g21 (nI (o9 + 1)) g23 (nI cd) g25 g26 v27 v28 v29 v30 v31 v32 v33 v34 v35 v36 v37 (nI ol)), (v9, .inl (cA 0, 700, .inl fb)), (v13, .inl (cA 1, 15, .inr (.inl fkw)))]) hP hD hS hA [0, 1, 2] (by decide) rfl
  refine va_calli (va_runV (As := []) (rest := []) ⟨hx, hb, hml, hown, hts⟩ (y_advance l D cA sa w0 ed nb ol v0 v1 v2 v3 v4 v9 v13 v27 v28 v29 v30 v31 v32 v33 v34 v35 v36 v37 g8 g11 g12 (nI (gP ti)) tk kw g19 g20 g21 (nI (o9 + 1)) g23 (nI cd) g26 g5 g6 g25 ln (gR (ti + 1)) fb fkw (gP (ti + 1)) (gR ((ti + 1) + 1)) (gK (ti + 1)) (gV (ti + 1)) H.size hln (by omega) hKW hBY (TX.t hTX hnt)) (cwV 0 hts gX10_opens_X10_advance rfl rfl rfl (by decide +kernel) ⟨(Nat.le_of_ble_eq_true rfl), (Nat.le_of_ble_eq_true rfl)⟩) ⟨Wd.blind, va_recv hK hPc (ci := 11) (q0 := 0) rfl rfl, fun U hU hW => ⟨rfl, Wd.call hPc hDc hK hC hZ hS hFc U hU hW⟩⟩ rfl rfl hl.1 rfl (lv_room (Nat.le_of_ble_eq_true rfl)) dX10_opens_26 ⟨(Nat.le_of_ble_eq_true rfl), (Nat.le_of_ble_eq_true rfl)⟩) hS (fun q _ h => hFc q h) hFc (fun rn3 u t H1 locs ht hvm hw hB hz1 hk1 hS => ?_)
  obtain ⟨zn4, zn5, zn6, zn7, hn8, hP1, hD1⟩ := hB
  rw [ht] at hP1
  obtain ⟨hP, hD⟩ := PDq.join (w := [(oX10 w0 v0 v1 v2 v3 v4 g5 g6 (nI ed) g8 v9 (nI nb) g11 g12 v13 (nI ln) (nI (gP (ti + 1))) (nI (gR ((ti + 1) + 1))) zn4 zn5 zn6 g20 g21 (nI (o9 + 1)) g23 (nI cd) zn7 g26 v27 v28 v29 v30 v31 v32 v33 v34 v35 v36 v37 (nI ol)), (v9, .inl (cA 0, 700, .inl fb)), (v13, .inl (cA 1, 15, .inr (.inl fkw)))]) 0 hP hD [0, 1, 2] [] rfl rfl (by decide) (by decide) hk1 hFc hP1 hD1 rfl
  generalize H1 = H at hP hS ⊢
  obtain rfl : rn3 = 1 := hw
  obtain ⟨hP9, hD9⟩ := PDq.sub (ws' := [(oX10 w0 v0 v1 v2 v3 v4 g5 g6 (nI ed) g8 v9 (nI nb) g11 g12 v13 (nI ln) (nI (gP (ti + 1))) (nI (gR ((ti + 1) + 1))) zn4 zn5 zn6 g20 g21 (nI (o9 + 1)) g23 (nI cd) zn7 g26 v27 v28 v29 v30 v31 v32 v33 v34 v35 v36 v37 (nI ol)), (v9, .inl (cA 0, 700, .inl fb)), (v13, .inl (cA 1, 15, .inr (.inl fkw)))]) hP hD [0, 1, 2] (by decide) rfl
  refine W.widen (k := 0) (n := 0) (Nat.le_of_ble_eq_true rfl) (Nat.le_of_ble_eq_true rfl) ?_
  exact (W.zret (v := 1) hx hb hr (by first | rfl | decide) (fun t ht hW => ⟨⟨1, (), rfl, rfl, zn4, zn5, zn6, zn7, hn8, by rw [ht]; exact hP9, hD9⟩, hS.F ht⟩) hS.2.2 dX10_opens_29)

set_option maxHeartbeats 4000000 in
set_option maxRecDepth 100000 in
/-- reference: notFact -/
theorem y_notFact_B (l : Launch) (D : va_G) (cA : Nat → ClassId) (sa : Nat → Nat) (w0 : Nat) (ed : Nat) (nb : Nat) (ol : Nat) (v0 : Nat) (v1 : Nat) (v2 : Nat) (v3 : Nat) (v4 : Nat) (v9 : Nat) (v13 : Nat) (v27 : Nat) (v28 : Nat) (v29 : Nat) (v30 : Nat) (v31 : Nat) (v32 : Nat) (v33 : Nat) (v34 : Nat) (v35 : Nat) (v36 : Nat) (v37 : Nat) (g8 : Int32) (g11 : Int32) (g12 : Int32) (g19 : Int32) (g20 : Int32) (g21 : Int32) (g23 : Int32) (g26 : Int32) (g5 : Int64) (g6 : Int64) (g25 : Int64) (ln : Nat) (cd : Nat) (tk : Int32) (kw : Int32) (ti : Nat) (ct : Nat) (fb : Nat → Int32) (fkw : Nat → Int64) (gP : Nat → Nat) (gR : Nat → Nat) (gS : Nat → Int32) (gK : Nat → Int32) (gV : Nat → Int64) (cn : Nat) (pq : Nat) (en : Nat) (dy : Nat) (fp : Nat → Int32) (sl : Nat) (o9 : Nat) (l28 : Nat → Int64) (l30 : Nat → Int64) (fc : Nat → Int32) (ml : List Int64) (pl : List Int64) (sz : Nat) (hln : ln ≤ 700) (hct : ct ≤ 701) (hti : ti < ct) (hTX : TX fb ln ct gP gR gS gV gK) (hBY : BYn ln fb) (hTK : TKR (gK ti) (gV ti) (fb (gP ti)) tk kw g19 g25) (hKW : KW 15 fkw) (hcn : cn ≤ 10) (hpq : pq ≤ 8) (hen : en ≤ 60) (hdy : dy ≤ 20000) (hri : RI cn pq en dy fp) (hcd : 2 * cd + sl ≤ gP ti) (hNM : NL ml cn l28) (hNP : NL pl pq l30) (hk : gK ti = 16) (ho : o9 = 8) : Met l yX10_notFact wsX10_notFact ({ frames := 20, cells := 0, slots := 0, locals := 320 }) (va_Pc [.ref w0] (Wd D cA sa [(oX10 w0 v0 v1 v2 v3 v4 g5 g6 (nI ed) g8 v9 (nI nb) g11 g12 v13 (nI ln) (nI (gP ti)) (nI (gR (ti + 1))) tk kw g19 g20 g21 (nI o9) g23 (nI cd) g25 g26 v27 v28 v29 v30 v31 v32 v33 v34 v35 v36 v37 (nI ol)), (v1, .inl (cA 0, 326, .inl fp)), (v9, .inl (cA 0, 700, .inl fb)), (v13, .inl (cA 1, 15, .inr (.inl fkw))), (v28, .inl (cA 1, 10, .inr (.inl l28))), (v30, .inl (cA 1, 8, .inr (.inl l30))), (v32, .inl (cA 0, 400, .inl fc))] sz)) (va_Qi (fun (r : Int32) (u9 : Int32) => u9 = r ∧ (r = 0 ∨ r = 1)) (fun (u9 : Int32) t => ∃ tj : Nat, ∃ z17 : Int32, ∃ z18 : Int32, ∃ z19 : Int32, ∃ z20 : Int32, ∃ z21 : Int32, ∃ z26 : Int32, ∃ z25 : Int64, ∃ cd2 : Nat, ∃ pq2 : Nat, ∃ zop : Int32, ∃ zp : Nat → Int32, ∃ zc : Nat → Int32, ∃ zl : Nat → Int64, ∃ zpl : List Int64, tj < ct ∧ gP tj ≤ ln ∧ ti ≤ tj ∧ TKR (gK tj) (gV tj) (fb (gP tj)) z17 z18 z19 z25 ∧ pq2 ≤ 8 ∧ RI cn pq2 en dy zp ∧ NL zpl pq2 zl ∧ (u9 = 1 → zop = (nI o9)) ∧ (u9 = 1 → z20 = g20) ∧ (u9 = 1 → z21 = g21) ∧ (u9 = 1 → ti + 1 ≤ tj) ∧ (u9 = 1 → cd ≤ cd2) ∧ (u9 = 1 → 2 * cd2 + sl ≤ gP tj) ∧ (u9 = 1 → Kp cd fc zc) ∧ (u9 = 1 → Sg cd cd2 zc) ∧ (u9 = 1 → PRx gK gS gV ml 0 o9 ti pl (.inr (tj, zpl))) ∧ (u9 = 0 → PRx gK gS gV ml 0 o9 ti pl (.inl (z20, z21))) ∧ Wq D (va_A [(oX10 w0 v0 v1 v2 v3 v4 g5 g6 (nI ed) g8 v9 (nI nb) g11 g12 v13 (nI ln) (nI (gP ti)) (nI (gR (ti + 1))) tk kw g19 g20 g21 (nI o9) g23 (nI cd) g25 g26 v27 v28 v29 v30 v31 v32 v33 v34 v35 v36 v37 (nI ol)), (v1, .inl (cA 0, 326, .inl fp)), (v9, .inl (cA 0, 700, .inl fb)), (v13, .inl (cA 1, 15, .inr (.inl fkw))), (v28, .inl (cA 1, 10, .inr (.inl l28))), (v30, .inl (cA 1, 8, .inr (.inl l30))), (v32, .inl (cA 0, 400, .inl fc))] sz) [(oX10 w0 v0 v1 v2 v3 v4 g5 g6 (nI ed) g8 v9 (nI nb) g11 g12 v13 (nI ln) (nI (gP tj)) (nI (gR (tj + 1))) z17 z18 z19 z20 z21 zop g23 (nI cd2) z25 z26 v27 v28 v29 v30 v31 v32 v33 v34 v35 v36 v37 (nI ol)), (v1, .inl (cA 0, 326, .inl zp)), (v9, .inl (cA 0, 700, .inl fb)), (v13, .inl (cA 1, 15, .inr (.inl fkw))), (v28, .inl (cA 1, 10, .inr (.inl l28))), (v30, .inl (cA 1, 8, .inr (.inl zl))), (v32, .inl (cA 0, 400, .inl zc))] t) (va_A [(oX10 w0 v0 v1 v2 v3 v4 g5 g6 (nI ed) g8 v9 (nI nb) g11 g12 v13 (nI ln) (nI (gP ti)) (nI (gR (ti + 1))) tk kw g19 g20 g21 (nI o9) g23 (nI cd) g25 g26 v27 v28 v29 v30 v31 v32 v33 v34 v35 v36 v37 (nI ol)), (v1, .inl (cA 0, 326, .inl fp)), (v9, .inl (cA 0, 700, .inl fb)), (v13, .inl (cA 1, 15, .inr (.inl fkw))), (v28, .inl (cA 1, 10, .inr (.inl l28))), (v30, .inl (cA 1, 8, .inr (.inl l30))), (v32, .inl (cA 0, 400, .inl fc))] sz)) 0 0 (va_A [(oX10 w0 v0 v1 v2 v3 v4 g5 g6 (nI ed) g8 v9 (nI nb) g11 g12 v13 (nI ln) (nI (gP ti)) (nI (gR (ti + 1))) tk kw g19 g20 g21 (nI o9) g23 (nI cd) g25 g26 v27 v28 v29 v30 v31 v32 v33 v34 v35 v36 v37 (nI ol)), (v1, .inl (cA 0, 326, .inl fp)), (v9, .inl (cA 0, 700, .inl fb)), (v13, .inl (cA 1, 15, .inr (.inl fkw))), (v28, .inl (cA 1, 10, .inr (.inl l28))), (v30, .inl (cA 1, 8, .inr (.inl l30))), (v32, .inl (cA 0, 400, .inl fc))] sz) := by
  refine Met.ofW (cc := cX10_notFact) (maxL := 1) (ret := (some .boolean)) (by decide) rfl ?_
  intro p e s m args below meth c s₁ B hml hv
  obtain ⟨rfl, hsz, hP, hK, hD0, hC, hZ⟩ := hv
  have hx := B.exec
  have hb := B.bytes
  have hr := B.returns
  have hts := atoms_spec (ws := wsX10_notFact) B.pre
  have hown : s.vm.findClass RX10 = some m.cls := findClass_of_methodNamed B.named
  have hlocks := B.notSynchronized
  subst hsz
  have hD := hD0.self (sz := s.heap.size)
  generalize hAe : va_A [(oX10 w0 v0 v1 v2 v3 v4 g5 g6 (nI ed) g8 v9 (nI nb) g11 g12 v13 (nI ln) (nI (gP ti)) (nI (gR (ti + 1))) tk kw g19 g20 g21 (nI o9) g23 (nI cd) g25 g26 v27 v28 v29 v30 v31 v32 v33 v34 v35 v36 v37 (nI ol)), (v1, .inl (cA 0, 326, .inl fp)), (v9, .inl (cA 0, 700, .inl fb)), (v13, .inl (cA 1, 15, .inr (.inl fkw))), (v28, .inl (cA 1, 10, .inr (.inl l28))), (v30, .inl (cA 1, 8, .inr (.inl l30))), (v32, .inl (cA 0, 400, .inl fc))] s.heap.size = A at hD hZ ⊢
  have hA : ∀ q : Nat, s.heap.size ≤ q → A q := fun q h => by rw [← hAe]; exact Or.inr h
  have hS : va_S A s.heap s.heap [] := va_S.rf
  have hP : va_P D vwCl [(oX10 w0 v0 v1 v2 v3 v4 g5 g6 (nI ed) g8 v9 (nI nb) g11 g12 v13 (nI ln) (nI (gP ti)) (nI (gR (ti + 1))) tk kw g19 g20 g21 (nI o9) g23 (nI cd) g25 g26 v27 v28 v29 v30 v31 v32 v33 v34 v35 v36 v37 (nI ol)), (v1, .inl (cA 0, 326, .inl fp)), (v9, .inl (cA 0, 700, .inl fb)), (v13, .inl (cA 1, 15, .inr (.inl fkw))), (v28, .inl (cA 1, 10, .inr (.inl l28))), (v30, .inl (cA 1, 8, .inr (.inl l30))), (v32, .inl (cA 0, 400, .inl fc))] s.heap := hP
  have hl := lv_entry ([.ref w0]) (n := 1) (Nat.le_of_ble_eq_true rfl)
  rw [lg_entry_eq]
  generalize (lg_sl ([.ref w0]) ++ List.replicate (1 - (lg_sl ([.ref w0])).length) Slot.unset).toArray = ls at hl ⊢
  have hl : lv_has ls 1 [(0, .ref w0)] := hl
  have hle9 := TX.le hTX hti
  have hn1 := TX.go2 hTX hti (by rw [hk]; decide)
  have hn1b := TX.le hTX hn1.1
  refine lv_aload_n hx hb dX10_notFact_0 rfl (lv_at hl 0 rfl) ?_
  obtain ⟨hPc, hDc, hFc⟩ := PDq.cut (wc := [(oX10 w0 v0 v1 v2 v3 v4 g5 g6 (nI ed) g8 v9 (nI nb) g11 g12 v13 (nI ln) (nI (gP ti)) (nI (gR (ti + 1))) tk kw g19 g20 g21 (nI o9) g23 (nI cd) g25 g26 v27 v28 v29 v30 v31 v32 v33 v34 v35 v36 v37 (nI ol)), (v9, .inl (cA 0, 700, .inl fb)), (v13, .inl (cA 1, 15, .inr (.inl fkw)))]) hP hD hS hA [0, 2, 3] (by decide) rfl
  refine va_calli (va_runV (As := []) (rest := []) ⟨hx, hb, hml, hown, hts⟩ (y_opens_B l D cA sa w0 ed nb ol v0 v1 v2 v3 v4 v9 v13 v27 v28 v29 v30 v31 v32 v33 v34 v35 v36 v37 g8 g11 g12 g19 g20 g21 g23 g26 g5 g6 g25 ln cd tk kw ti ct fb fkw gP gR gS gK gV o9 s.heap.size hln hct hti hTX hBY hTK ho) (cwV 0 hts gX10_notFact_X10_opens rfl rfl rfl (by decide +kernel) ⟨by show (1) + 1 ≤ 20; omega, by show 8 + (1 + 11) + (21) ≤ 320; omega⟩) ⟨Wd.blind, va_recv hK hPc (ci := 11) (q0 := 0) rfl rfl, fun U hU hW => ⟨rfl, Wd.call hPc hDc hK hC hZ hS hFc U hU hW⟩⟩ rfl rfl hl.1 rfl (lv_room (Nat.le_of_ble_eq_true rfl)) dX10_notFact_1 ⟨(Nat.le_of_ble_eq_true rfl), (Nat.le_of_ble_eq_true rfl)⟩) hS (fun q _ h => hFc q h) hFc (fun rn2 u t H1 locs ht hvm hw hB hz1 hk1 hS => ?_)
  obtain ⟨zn3, hn4, hP1, hD1⟩ := hB
  rw [ht] at hP1
  obtain ⟨hP, hD⟩ := PDq.join (w := [(v1, .inl (cA 0, 326, .inl fp)), (v28, .inl (cA 1, 10, .inr (.inl l28))), (v30, .inl (cA 1, 8, .inr (.inl l30))), (v32, .inl (cA 0, 400, .inl fc)), (oX10 w0 v0 v1 v2 v3 v4 g5 g6 (nI ed) g8 v9 (nI nb) g11 g12 v13 (nI ln) (nI (gP ti)) (nI (gR (ti + 1))) tk kw g19 zn3 (nI (gP ti)) (nI o9) g23 (nI cd) g25 g26 v27 v28 v29 v30 v31 v32 v33 v34 v35 v36 v37 (nI ol)), (v9, .inl (cA 0, 700, .inl fb)), (v13, .inl (cA 1, 15, .inr (.inl fkw)))]) 4 hP hD [0, 2, 3] [1, 4, 5, 6] rfl rfl (by decide) (by decide) hk1 hFc hP1 hD1 rfl
  generalize H1 = H at hP hS ⊢
  obtain rfl : rn2 = 0 := hw
  refine lv_if_eq (tgt := 14) hx hb dX10_notFact_4 (by decide) (fun c5 => ?_) (fun c9 => absurd c9 (by decide))
  refine lv_iconst (v := 0) hx hb dX10_notFact_14 (by decide) ?_
  obtain ⟨hP9, hD9⟩ := PDq.sub (ws' := [(oX10 w0 v0 v1 v2 v3 v4 g5 g6 (nI ed) g8 v9 (nI nb) g11 g12 v13 (nI ln) (nI (gP ti)) (nI (gR (ti + 1))) tk kw g19 zn3 (nI (gP ti)) (nI o9) g23 (nI cd) g25 g26 v27 v28 v29 v30 v31 v32 v33 v34 v35 v36 v37 (nI ol)), (v1, .inl (cA 0, 326, .inl fp)), (v9, .inl (cA 0, 700, .inl fb)), (v13, .inl (cA 1, 15, .inr (.inl fkw))), (v28, .inl (cA 1, 10, .inr (.inl l28))), (v30, .inl (cA 1, 8, .inr (.inl l30))), (v32, .inl (cA 0, 400, .inl fc))]) hP hD [4, 0, 5, 6, 1, 2, 3] (by decide) rfl
  refine W.widen (k := 0) (n := 0) (Nat.le_of_ble_eq_true rfl) (Nat.le_of_ble_eq_true rfl) ?_
  exact (W.zret (v := 0) hx hb hr (by first | rfl | decide) (fun t ht hW => ⟨⟨0, 0, rfl, ⟨rfl, by decide⟩, ti, tk, kw, g19, zn3, (nI (gP ti)), g26, g25, cd, pq, (nI o9), fp, fc, l30, pl, hti, (by omega), (by omega), hTK, hpq, hri, hNP, (fun h9 => absurd h9 (by decide)), (fun h9 => absurd h9 (by decide)), (fun h9 => absurd h9 (by decide)), (fun h9 => absurd h9 (by decide)), (fun h9 => absurd h9 (by decide)), (fun h9 => absurd h9 (by decide)), (fun h9 => absurd h9 (by decide)), (fun h9 => absurd h9 (by decide)), (fun h9 => absurd h9 (by decide)), (fun _ => (P_manyx (Or.inl hk) (by omega) hn4 (TX.s hTX (show ti < ct by omega)))), by rw [ht]; exact hP9, hD9⟩, hS.F ht⟩) hS.2.2 dX10_notFact_15)

set_option maxHeartbeats 4000000 in
set_option maxRecDepth 100000 in
/-- reference: bracket -/
theorem y_bracket_B (l : Launch) (D : va_G) (cA : Nat → ClassId) (sa : Nat → Nat) (w0 : Nat) (ed : Nat) (nb : Nat) (ol : Nat) (v0 : Nat) (v1 : Nat) (v2 : Nat) (v3 : Nat) (v4 : Nat) (v9 : Nat) (v13 : Nat) (v27 : Nat) (v28 : Nat) (v29 : Nat) (v30 : Nat) (v31 : Nat) (v32 : Nat) (v33 : Nat) (v34 : Nat) (v35 : Nat) (v36 : Nat) (v37 : Nat) (g8 : Int32) (g11 : Int32) (g12 : Int32) (g19 : Int32) (g20 : Int32) (g21 : Int32) (g23 : Int32) (g26 : Int32) (g5 : Int64) (g6 : Int64) (g25 : Int64) (ln : Nat) (cd : Nat) (tk : Int32) (kw : Int32) (ti : Nat) (ct : Nat) (fb : Nat → Int32) (fkw : Nat → Int64) (gP : Nat → Nat) (gR : Nat → Nat) (gS : Nat → Int32) (gK : Nat → Int32) (gV : Nat → Int64) (cn : Nat) (pq : Nat) (en : Nat) (dy : Nat) (fp : Nat → Int32) (sl : Nat) (o9 : Nat) (l28 : Nat → Int64) (l30 : Nat → Int64) (fc : Nat → Int32) (ml : List Int64) (pl : List Int64) (sz : Nat) (hln : ln ≤ 700) (hct : ct ≤ 701) (hti : ti < ct) (hTX : TX fb ln ct gP gR gS gV gK) (hBY : BYn ln fb) (hTK : TKR (gK ti) (gV ti) (fb (gP ti)) tk kw g19 g25) (hKW : KW 15 fkw) (hcn : cn ≤ 10) (hpq : pq ≤ 8) (hen : en ≤ 60) (hdy : dy ≤ 20000) (hri : RI cn pq en dy fp) (hcd : 2 * cd + sl ≤ gP ti) (hNM : NL ml cn l28) (hNP : NL pl pq l30) (hk : gK ti = 5) (ho : o9 = 8) : Met l yX10_bracket wsX10_bracket ({ frames := 20, cells := 0, slots := 0, locals := 320 }) (va_Pc [.ref w0] (Wd D cA sa [(oX10 w0 v0 v1 v2 v3 v4 g5 g6 (nI ed) g8 v9 (nI nb) g11 g12 v13 (nI ln) (nI (gP ti)) (nI (gR (ti + 1))) tk kw g19 g20 g21 (nI o9) g23 (nI cd) g25 g26 v27 v28 v29 v30 v31 v32 v33 v34 v35 v36 v37 (nI ol)), (v1, .inl (cA 0, 326, .inl fp)), (v9, .inl (cA 0, 700, .inl fb)), (v13, .inl (cA 1, 15, .inr (.inl fkw))), (v28, .inl (cA 1, 10, .inr (.inl l28))), (v30, .inl (cA 1, 8, .inr (.inl l30))), (v32, .inl (cA 0, 400, .inl fc))] sz)) (va_Qi (fun (r : Int32) (u9 : Int32) => u9 = r ∧ (r = 0 ∨ r = 1)) (fun (u9 : Int32) t => ∃ tj : Nat, ∃ z17 : Int32, ∃ z18 : Int32, ∃ z19 : Int32, ∃ z20 : Int32, ∃ z21 : Int32, ∃ z26 : Int32, ∃ z25 : Int64, ∃ cd2 : Nat, ∃ pq2 : Nat, ∃ zop : Int32, ∃ zp : Nat → Int32, ∃ zc : Nat → Int32, ∃ zl : Nat → Int64, ∃ zpl : List Int64, tj < ct ∧ gP tj ≤ ln ∧ ti ≤ tj ∧ TKR (gK tj) (gV tj) (fb (gP tj)) z17 z18 z19 z25 ∧ pq2 ≤ 8 ∧ RI cn pq2 en dy zp ∧ NL zpl pq2 zl ∧ (u9 = 1 → zop = (nI o9)) ∧ (u9 = 1 → z20 = g20) ∧ (u9 = 1 → z21 = g21) ∧ (u9 = 1 → ti + 1 ≤ tj) ∧ (u9 = 1 → cd ≤ cd2) ∧ (u9 = 1 → 2 * cd2 + sl ≤ gP tj) ∧ (u9 = 1 → Kp cd fc zc) ∧ (u9 = 1 → Sg cd cd2 zc) ∧ (u9 = 1 → PRx gK gS gV ml 0 o9 ti pl (.inr (tj, zpl))) ∧ (u9 = 0 → PRx gK gS gV ml 0 o9 ti pl (.inl (z20, z21))) ∧ Wq D (va_A [(oX10 w0 v0 v1 v2 v3 v4 g5 g6 (nI ed) g8 v9 (nI nb) g11 g12 v13 (nI ln) (nI (gP ti)) (nI (gR (ti + 1))) tk kw g19 g20 g21 (nI o9) g23 (nI cd) g25 g26 v27 v28 v29 v30 v31 v32 v33 v34 v35 v36 v37 (nI ol)), (v1, .inl (cA 0, 326, .inl fp)), (v9, .inl (cA 0, 700, .inl fb)), (v13, .inl (cA 1, 15, .inr (.inl fkw))), (v28, .inl (cA 1, 10, .inr (.inl l28))), (v30, .inl (cA 1, 8, .inr (.inl l30))), (v32, .inl (cA 0, 400, .inl fc))] sz) [(oX10 w0 v0 v1 v2 v3 v4 g5 g6 (nI ed) g8 v9 (nI nb) g11 g12 v13 (nI ln) (nI (gP tj)) (nI (gR (tj + 1))) z17 z18 z19 z20 z21 zop g23 (nI cd2) z25 z26 v27 v28 v29 v30 v31 v32 v33 v34 v35 v36 v37 (nI ol)), (v1, .inl (cA 0, 326, .inl zp)), (v9, .inl (cA 0, 700, .inl fb)), (v13, .inl (cA 1, 15, .inr (.inl fkw))), (v28, .inl (cA 1, 10, .inr (.inl l28))), (v30, .inl (cA 1, 8, .inr (.inl zl))), (v32, .inl (cA 0, 400, .inl zc))] t) (va_A [(oX10 w0 v0 v1 v2 v3 v4 g5 g6 (nI ed) g8 v9 (nI nb) g11 g12 v13 (nI ln) (nI (gP ti)) (nI (gR (ti + 1))) tk kw g19 g20 g21 (nI o9) g23 (nI cd) g25 g26 v27 v28 v29 v30 v31 v32 v33 v34 v35 v36 v37 (nI ol)), (v1, .inl (cA 0, 326, .inl fp)), (v9, .inl (cA 0, 700, .inl fb)), (v13, .inl (cA 1, 15, .inr (.inl fkw))), (v28, .inl (cA 1, 10, .inr (.inl l28))), (v30, .inl (cA 1, 8, .inr (.inl l30))), (v32, .inl (cA 0, 400, .inl fc))] sz)) 0 0 (va_A [(oX10 w0 v0 v1 v2 v3 v4 g5 g6 (nI ed) g8 v9 (nI nb) g11 g12 v13 (nI ln) (nI (gP ti)) (nI (gR (ti + 1))) tk kw g19 g20 g21 (nI o9) g23 (nI cd) g25 g26 v27 v28 v29 v30 v31 v32 v33 v34 v35 v36 v37 (nI ol)), (v1, .inl (cA 0, 326, .inl fp)), (v9, .inl (cA 0, 700, .inl fb)), (v13, .inl (cA 1, 15, .inr (.inl fkw))), (v28, .inl (cA 1, 10, .inr (.inl l28))), (v30, .inl (cA 1, 8, .inr (.inl l30))), (v32, .inl (cA 0, 400, .inl fc))] sz) := by
  refine Met.ofW (cc := cX10_bracket) (maxL := 1) (ret := (some .boolean)) (by decide) rfl ?_
  intro p e s m args below meth c s₁ B hml hv
  obtain ⟨rfl, hsz, hP, hK, hD0, hC, hZ⟩ := hv
  have hx := B.exec
  have hb := B.bytes
  have hr := B.returns
  have hts := atoms_spec (ws := wsX10_bracket) B.pre
  have hown : s.vm.findClass RX10 = some m.cls := findClass_of_methodNamed B.named
  have hlocks := B.notSynchronized
  subst hsz
  have hD := hD0.self (sz := s.heap.size)
  generalize hAe : va_A [(oX10 w0 v0 v1 v2 v3 v4 g5 g6 (nI ed) g8 v9 (nI nb) g11 g12 v13 (nI ln) (nI (gP ti)) (nI (gR (ti + 1))) tk kw g19 g20 g21 (nI o9) g23 (nI cd) g25 g26 v27 v28 v29 v30 v31 v32 v33 v34 v35 v36 v37 (nI ol)), (v1, .inl (cA 0, 326, .inl fp)), (v9, .inl (cA 0, 700, .inl fb)), (v13, .inl (cA 1, 15, .inr (.inl fkw))), (v28, .inl (cA 1, 10, .inr (.inl l28))), (v30, .inl (cA 1, 8, .inr (.inl l30))), (v32, .inl (cA 0, 400, .inl fc))] s.heap.size = A at hD hZ ⊢
  have hA : ∀ q : Nat, s.heap.size ≤ q → A q := fun q h => by rw [← hAe]; exact Or.inr h
  have hS : va_S A s.heap s.heap [] := va_S.rf
  have hP : va_P D vwCl [(oX10 w0 v0 v1 v2 v3 v4 g5 g6 (nI ed) g8 v9 (nI nb) g11 g12 v13 (nI ln) (nI (gP ti)) (nI (gR (ti + 1))) tk kw g19 g20 g21 (nI o9) g23 (nI cd) g25 g26 v27 v28 v29 v30 v31 v32 v33 v34 v35 v36 v37 (nI ol)), (v1, .inl (cA 0, 326, .inl fp)), (v9, .inl (cA 0, 700, .inl fb)), (v13, .inl (cA 1, 15, .inr (.inl fkw))), (v28, .inl (cA 1, 10, .inr (.inl l28))), (v30, .inl (cA 1, 8, .inr (.inl l30))), (v32, .inl (cA 0, 400, .inl fc))] s.heap := hP
  have hl := lv_entry ([.ref w0]) (n := 1) (Nat.le_of_ble_eq_true rfl)
  rw [lg_entry_eq]
  generalize (lg_sl ([.ref w0]) ++ List.replicate (1 - (lg_sl ([.ref w0])).length) Slot.unset).toArray = ls at hl ⊢
  have hl : lv_has ls 1 [(0, .ref w0)] := hl
  have hle9 := TX.le hTX hti
  have hn1 := TX.go hTX hti (by rw [hk]; decide)
  have hn1b := TX.le hTX hn1.1
  refine lv_aload_n hx hb dX10_bracket_0 rfl (lv_at hl 0 rfl) ?_
  obtain ⟨hPc, hDc, hFc⟩ := PDq.cut (wc := [(oX10 w0 v0 v1 v2 v3 v4 g5 g6 (nI ed) g8 v9 (nI nb) g11 g12 v13 (nI ln) (nI (gP ti)) (nI (gR (ti + 1))) tk kw g19 g20 g21 (nI o9) g23 (nI cd) g25 g26 v27 v28 v29 v30 v31 v32 v33 v34 v35 v36 v37 (nI ol)), (v9, .inl (cA 0, 700, .inl fb)), (v13, .inl (cA 1, 15, .inr (.inl fkw)))]) hP hD hS hA [0, 2, 3] (by decide) rfl
  refine va_calli (va_runV (As := []) (rest := []) ⟨hx, hb, hml, hown, hts⟩ (y_opens_B l D cA sa w0 ed nb ol v0 v1 v2 v3 v4 v9 v13 v27 v28 v29 v30 v31 v32 v33 v34 v35 v36 v37 g8 g11 g12 g19 g20 g21 g23 g26 g5 g6 g25 ln cd tk kw ti ct fb fkw gP gR gS gK gV o9 s.heap.size hln hct hti hTX hBY hTK ho) (cwV 0 hts gX10_bracket_X10_opens rfl rfl rfl (by decide +kernel) ⟨by show (1) + 1 ≤ 20; omega, by show 8 + (1 + 11) + (21) ≤ 320; omega⟩) ⟨Wd.blind, va_recv hK hPc (ci := 11) (q0 := 0) rfl rfl, fun U hU hW => ⟨rfl, Wd.call hPc hDc hK hC hZ hS hFc U hU hW⟩⟩ rfl rfl hl.1 rfl (lv_room (Nat.le_of_ble_eq_true rfl)) dX10_bracket_1 ⟨(Nat.le_of_ble_eq_true rfl), (Nat.le_of_ble_eq_true rfl)⟩) hS (fun q _ h => hFc q h) hFc (fun rn2 u t H1 locs ht hvm hw hB hz1 hk1 hS => ?_)
  obtain ⟨zn3, hn4, hP1, hD1⟩ := hB
  rw [ht] at hP1
  obtain ⟨hP, hD⟩ := PDq.join (w := [(v1, .inl (cA 0, 326, .inl fp)), (v28, .inl (cA 1, 10, .inr (.inl l28))), (v30, .inl (cA 1, 8, .inr (.inl l30))), (v32, .inl (cA 0, 400, .inl fc)), (oX10 w0 v0 v1 v2 v3 v4 g5 g6 (nI ed) g8 v9 (nI nb) g11 g12 v13 (nI ln) (nI (gP ti)) (nI (gR (ti + 1))) tk kw g19 zn3 (nI (gP ti)) (nI o9) g23 (nI cd) g25 g26 v27 v28 v29 v30 v31 v32 v33 v34 v35 v36 v37 (nI ol)), (v9, .inl (cA 0, 700, .inl fb)), (v13, .inl (cA 1, 15, .inr (.inl fkw)))]) 4 hP hD [0, 2, 3] [1, 4, 5, 6] rfl rfl (by decide) (by decide) hk1 hFc hP1 hD1 rfl
  generalize H1 = H at hP hS ⊢
  obtain rfl : rn2 = 0 := hw
  refine lv_if_eq (tgt := 14) hx hb dX10_bracket_4 (by decide) (fun c5 => ?_) (fun c9 => absurd c9 (by decide))
  refine lv_iconst (v := 0) hx hb dX10_bracket_14 (by decide) ?_
  obtain ⟨hP9, hD9⟩ := PDq.sub (ws' := [(oX10 w0 v0 v1 v2 v3 v4 g5 g6 (nI ed) g8 v9 (nI nb) g11 g12 v13 (nI ln) (nI (gP ti)) (nI (gR (ti + 1))) tk kw g19 zn3 (nI (gP ti)) (nI o9) g23 (nI cd) g25 g26 v27 v28 v29 v30 v31 v32 v33 v34 v35 v36 v37 (nI ol)), (v1, .inl (cA 0, 326, .inl fp)), (v9, .inl (cA 0, 700, .inl fb)), (v13, .inl (cA 1, 15, .inr (.inl fkw))), (v28, .inl (cA 1, 10, .inr (.inl l28))), (v30, .inl (cA 1, 8, .inr (.inl l30))), (v32, .inl (cA 0, 400, .inl fc))]) hP hD [4, 0, 5, 6, 1, 2, 3] (by decide) rfl
  refine W.widen (k := 0) (n := 0) (Nat.le_of_ble_eq_true rfl) (Nat.le_of_ble_eq_true rfl) ?_
  exact (W.zret (v := 0) hx hb hr (by first | rfl | decide) (fun t ht hW => ⟨⟨0, 0, rfl, ⟨rfl, by decide⟩, ti, tk, kw, g19, zn3, (nI (gP ti)), g26, g25, cd, pq, (nI o9), fp, fc, l30, pl, hti, (by omega), (by omega), hTK, hpq, hri, hNP, (fun h9 => absurd h9 (by decide)), (fun h9 => absurd h9 (by decide)), (fun h9 => absurd h9 (by decide)), (fun h9 => absurd h9 (by decide)), (fun h9 => absurd h9 (by decide)), (fun h9 => absurd h9 (by decide)), (fun h9 => absurd h9 (by decide)), (fun h9 => absurd h9 (by decide)), (fun h9 => absurd h9 (by decide)), (fun _ => (P_manyx (Or.inr hk) (by omega) hn4 (TX.s hTX (show ti < ct by omega)))), by rw [ht]; exact hP9, hD9⟩, hS.F ht⟩) hS.2.2 dX10_bracket_15)

set_option maxHeartbeats 4000000 in
set_option maxRecDepth 100000 in
/-- reference: fact -/
theorem y_fact_B (l : Launch) (D : va_G) (cA : Nat → ClassId) (sa : Nat → Nat) (w0 : Nat) (ed : Nat) (nb : Nat) (ol : Nat) (v0 : Nat) (v1 : Nat) (v2 : Nat) (v3 : Nat) (v4 : Nat) (v9 : Nat) (v13 : Nat) (v27 : Nat) (v28 : Nat) (v29 : Nat) (v30 : Nat) (v31 : Nat) (v32 : Nat) (v33 : Nat) (v34 : Nat) (v35 : Nat) (v36 : Nat) (v37 : Nat) (g8 : Int32) (g11 : Int32) (g12 : Int32) (g19 : Int32) (g20 : Int32) (g21 : Int32) (g23 : Int32) (g26 : Int32) (g5 : Int64) (g6 : Int64) (g25 : Int64) (ln : Nat) (cd : Nat) (tk : Int32) (kw : Int32) (ti : Nat) (ct : Nat) (fb : Nat → Int32) (fkw : Nat → Int64) (gP : Nat → Nat) (gR : Nat → Nat) (gS : Nat → Int32) (gK : Nat → Int32) (gV : Nat → Int64) (cn : Nat) (pq : Nat) (en : Nat) (dy : Nat) (fp : Nat → Int32) (sl : Nat) (o9 : Nat) (l28 : Nat → Int64) (l30 : Nat → Int64) (fc : Nat → Int32) (ml : List Int64) (pl : List Int64) (sz : Nat) (hln : ln ≤ 700) (hct : ct ≤ 701) (hti : ti < ct) (hTX : TX fb ln ct gP gR gS gV gK) (hBY : BYn ln fb) (hTK : TKR (gK ti) (gV ti) (fb (gP ti)) tk kw g19 g25) (hKW : KW 15 fkw) (hcn : cn ≤ 10) (hpq : pq ≤ 8) (hen : en ≤ 60) (hdy : dy ≤ 20000) (hri : RI cn pq en dy fp) (hcd : 2 * cd + sl ≤ gP ti) (hNM : NL ml cn l28) (hNP : NL pl pq l30) (ho : o9 = 8) : Met l yX10_fact wsX10_fact ({ frames := 21, cells := 0, slots := 0, locals := 340 }) (va_Pc [.ref w0] (Wd D cA sa [(oX10 w0 v0 v1 v2 v3 v4 g5 g6 (nI ed) g8 v9 (nI nb) g11 g12 v13 (nI ln) (nI (gP ti)) (nI (gR (ti + 1))) tk kw g19 g20 g21 (nI o9) g23 (nI cd) g25 g26 v27 v28 v29 v30 v31 v32 v33 v34 v35 v36 v37 (nI ol)), (v1, .inl (cA 0, 326, .inl fp)), (v9, .inl (cA 0, 700, .inl fb)), (v13, .inl (cA 1, 15, .inr (.inl fkw))), (v28, .inl (cA 1, 10, .inr (.inl l28))), (v30, .inl (cA 1, 8, .inr (.inl l30))), (v32, .inl (cA 0, 400, .inl fc))] sz)) (va_Qi (fun (r : Int32) (u9 : Int32) => u9 = r ∧ (r = 0 ∨ r = 1)) (fun (u9 : Int32) t => ∃ tj : Nat, ∃ z17 : Int32, ∃ z18 : Int32, ∃ z19 : Int32, ∃ z20 : Int32, ∃ z21 : Int32, ∃ z26 : Int32, ∃ z25 : Int64, ∃ cd2 : Nat, ∃ pq2 : Nat, ∃ zop : Int32, ∃ zp : Nat → Int32, ∃ zc : Nat → Int32, ∃ zl : Nat → Int64, ∃ zpl : List Int64, tj < ct ∧ gP tj ≤ ln ∧ ti ≤ tj ∧ TKR (gK tj) (gV tj) (fb (gP tj)) z17 z18 z19 z25 ∧ pq2 ≤ 8 ∧ RI cn pq2 en dy zp ∧ NL zpl pq2 zl ∧ (u9 = 1 → zop = (nI o9)) ∧ (u9 = 1 → z20 = g20) ∧ (u9 = 1 → z21 = g21) ∧ (u9 = 1 → ti + 1 ≤ tj) ∧ (u9 = 1 → cd ≤ cd2) ∧ (u9 = 1 → 2 * cd2 + sl ≤ gP tj) ∧ (u9 = 1 → Kp cd fc zc) ∧ (u9 = 1 → Sg cd cd2 zc) ∧ (u9 = 1 → PRx gK gS gV ml 0 o9 ti pl (.inr (tj, zpl))) ∧ (u9 = 0 → PRx gK gS gV ml 0 o9 ti pl (.inl (z20, z21))) ∧ Wq D (va_A [(oX10 w0 v0 v1 v2 v3 v4 g5 g6 (nI ed) g8 v9 (nI nb) g11 g12 v13 (nI ln) (nI (gP ti)) (nI (gR (ti + 1))) tk kw g19 g20 g21 (nI o9) g23 (nI cd) g25 g26 v27 v28 v29 v30 v31 v32 v33 v34 v35 v36 v37 (nI ol)), (v1, .inl (cA 0, 326, .inl fp)), (v9, .inl (cA 0, 700, .inl fb)), (v13, .inl (cA 1, 15, .inr (.inl fkw))), (v28, .inl (cA 1, 10, .inr (.inl l28))), (v30, .inl (cA 1, 8, .inr (.inl l30))), (v32, .inl (cA 0, 400, .inl fc))] sz) [(oX10 w0 v0 v1 v2 v3 v4 g5 g6 (nI ed) g8 v9 (nI nb) g11 g12 v13 (nI ln) (nI (gP tj)) (nI (gR (tj + 1))) z17 z18 z19 z20 z21 zop g23 (nI cd2) z25 z26 v27 v28 v29 v30 v31 v32 v33 v34 v35 v36 v37 (nI ol)), (v1, .inl (cA 0, 326, .inl zp)), (v9, .inl (cA 0, 700, .inl fb)), (v13, .inl (cA 1, 15, .inr (.inl fkw))), (v28, .inl (cA 1, 10, .inr (.inl l28))), (v30, .inl (cA 1, 8, .inr (.inl zl))), (v32, .inl (cA 0, 400, .inl zc))] t) (va_A [(oX10 w0 v0 v1 v2 v3 v4 g5 g6 (nI ed) g8 v9 (nI nb) g11 g12 v13 (nI ln) (nI (gP ti)) (nI (gR (ti + 1))) tk kw g19 g20 g21 (nI o9) g23 (nI cd) g25 g26 v27 v28 v29 v30 v31 v32 v33 v34 v35 v36 v37 (nI ol)), (v1, .inl (cA 0, 326, .inl fp)), (v9, .inl (cA 0, 700, .inl fb)), (v13, .inl (cA 1, 15, .inr (.inl fkw))), (v28, .inl (cA 1, 10, .inr (.inl l28))), (v30, .inl (cA 1, 8, .inr (.inl l30))), (v32, .inl (cA 0, 400, .inl fc))] sz)) 0 0 (va_A [(oX10 w0 v0 v1 v2 v3 v4 g5 g6 (nI ed) g8 v9 (nI nb) g11 g12 v13 (nI ln) (nI (gP ti)) (nI (gR (ti + 1))) tk kw g19 g20 g21 (nI o9) g23 (nI cd) g25 g26 v27 v28 v29 v30 v31 v32 v33 v34 v35 v36 v37 (nI ol)), (v1, .inl (cA 0, 326, .inl fp)), (v9, .inl (cA 0, 700, .inl fb)), (v13, .inl (cA 1, 15, .inr (.inl fkw))), (v28, .inl (cA 1, 10, .inr (.inl l28))), (v30, .inl (cA 1, 8, .inr (.inl l30))), (v32, .inl (cA 0, 400, .inl fc))] sz) := by
  refine Met.ofW (cc := cX10_fact) (maxL := 1) (ret := (some .boolean)) (by decide) rfl ?_
  intro p e s m args below meth c s₁ B hml hv
  obtain ⟨rfl, hsz, hP, hK, hD0, hC, hZ⟩ := hv
  have hx := B.exec
  have hb := B.bytes
  have hr := B.returns
  have hts := atoms_spec (ws := wsX10_fact) B.pre
  have hown : s.vm.findClass RX10 = some m.cls := findClass_of_methodNamed B.named
  have hlocks := B.notSynchronized
  subst hsz
  have hD := hD0.self (sz := s.heap.size)
  generalize hAe : va_A [(oX10 w0 v0 v1 v2 v3 v4 g5 g6 (nI ed) g8 v9 (nI nb) g11 g12 v13 (nI ln) (nI (gP ti)) (nI (gR (ti + 1))) tk kw g19 g20 g21 (nI o9) g23 (nI cd) g25 g26 v27 v28 v29 v30 v31 v32 v33 v34 v35 v36 v37 (nI ol)), (v1, .inl (cA 0, 326, .inl fp)), (v9, .inl (cA 0, 700, .inl fb)), (v13, .inl (cA 1, 15, .inr (.inl fkw))), (v28, .inl (cA 1, 10, .inr (.inl l28))), (v30, .inl (cA 1, 8, .inr (.inl l30))), (v32, .inl (cA 0, 400, .inl fc))] s.heap.size = A at hD hZ ⊢
  have hA : ∀ q : Nat, s.heap.size ≤ q → A q := fun q h => by rw [← hAe]; exact Or.inr h
  have hS : va_S A s.heap s.heap [] := va_S.rf
  have hP : va_P D vwCl [(oX10 w0 v0 v1 v2 v3 v4 g5 g6 (nI ed) g8 v9 (nI nb) g11 g12 v13 (nI ln) (nI (gP ti)) (nI (gR (ti + 1))) tk kw g19 g20 g21 (nI o9) g23 (nI cd) g25 g26 v27 v28 v29 v30 v31 v32 v33 v34 v35 v36 v37 (nI ol)), (v1, .inl (cA 0, 326, .inl fp)), (v9, .inl (cA 0, 700, .inl fb)), (v13, .inl (cA 1, 15, .inr (.inl fkw))), (v28, .inl (cA 1, 10, .inr (.inl l28))), (v30, .inl (cA 1, 8, .inr (.inl l30))), (v32, .inl (cA 0, 400, .inl fc))] s.heap := hP
  have hl := lv_entry ([.ref w0]) (n := 1) (Nat.le_of_ble_eq_true rfl)
  rw [lg_entry_eq]
  generalize (lg_sl ([.ref w0]) ++ List.replicate (1 - (lg_sl ([.ref w0])).length) Slot.unset).toArray = ls at hl ⊢
  have hl : lv_has ls 1 [(0, .ref w0)] := hl
  have inX10 : ∀ w ∈ u_ws RX10 TX10 39, w ∈ wsX10_fact := by decide +kernel
  have hle9 := TX.le hTX hti
  refine lv_aload_n hx hb dX10_fact_0 rfl (lv_at hl 0 rfl) ?_
  refine lv_bipush (v := 40) hx hb dX10_fact_1 (by decide) ?_
  obtain ⟨hPc, hDc, hFc⟩ := PDq.cut (wc := [(oX10 w0 v0 v1 v2 v3 v4 g5 g6 (nI ed) g8 v9 (nI nb) g11 g12 v13 (nI ln) (nI (gP ti)) (nI (gR (ti + 1))) tk kw g19 g20 g21 (nI o9) g23 (nI cd) g25 g26 v27 v28 v29 v30 v31 v32 v33 v34 v35 v36 v37 (nI ol)), (v9, .inl (cA 0, 700, .inl fb))]) hP hD hS hA [0, 2] (by decide) rfl
  refine va_calli (va_runV (As := [.int 40]) (rest := []) ⟨hx, hb, hml, hown, hts⟩ (y_sym40 l D cA sa w0 ed nb ol v0 v1 v2 v3 v4 v9 v13 v27 v28 v29 v30 v31 v32 v33 v34 v35 v36 v37 g8 g11 g12 g19 g20 g21 (nI o9) g23 g26 g5 g6 g25 ln cd tk kw ti ct fb gP gR gS gK gV s.heap.size hln hct hti hTX hBY hTK) (cwV 1 hts gX10_fact_X10_isSymbol rfl rfl rfl (by decide +kernel) ⟨by show (0) + 1 ≤ 21; omega, by show 8 + (2 + 11) + (0) ≤ 340; omega⟩) ⟨Wd.blind, va_recv hK hPc (ci := 11) (q0 := 0) rfl rfl, fun U hU hW => ⟨rfl, Wd.call hPc hDc hK hC hZ hS hFc U hU hW⟩⟩ rfl rfl hl.1 rfl (lv_room (Nat.le_of_ble_eq_true rfl)) dX10_fact_3 ⟨(Nat.le_of_ble_eq_true rfl), (Nat.le_of_ble_eq_true rfl)⟩) hS (fun q _ h => hFc q h) hFc (fun rn1 u t H1 locs ht hvm hw hB hz1 hk1 hS => ?_)
  obtain ⟨hP1, hD1⟩ := hB
  rw [ht] at hP1
  obtain ⟨hP, hD⟩ := PDq.join (w := [(v1, .inl (cA 0, 326, .inl fp)), (v13, .inl (cA 1, 15, .inr (.inl fkw))), (v28, .inl (cA 1, 10, .inr (.inl l28))), (v30, .inl (cA 1, 8, .inr (.inl l30))), (v32, .inl (cA 0, 400, .inl fc)), (oX10 w0 v0 v1 v2 v3 v4 g5 g6 (nI ed) g8 v9 (nI nb) g11 g12 v13 (nI ln) (nI (gP ti)) (nI (gR (ti + 1))) tk kw g19 g20 g21 (nI o9) g23 (nI cd) g25 g26 v27 v28 v29 v30 v31 v32 v33 v34 v35 v36 v37 (nI ol)), (v9, .inl (cA 0, 700, .inl fb))]) 5 hP hD [0, 2] [1, 3, 4, 5, 6] rfl rfl (by decide) (by decide) hk1 hFc hP1 hD1 rfl
  generalize H1 = H at hP hS ⊢
  rcases hw with ⟨hr9, hn2⟩ | ⟨hr9, hn2⟩
  · skip
    subst hr9
    refine lv_if_eq (tgt := 14) hx hb dX10_fact_6 (by decide) (fun c9 => absurd c9 (by decide)) (fun c3 => ?_)
    refine lv_aload_n hx hb dX10_fact_9 rfl (lv_at hl 0 rfl) ?_
    obtain ⟨hPc, hDc, hFc⟩ := PDq.cut (wc := [(oX10 w0 v0 v1 v2 v3 v4 g5 g6 (nI ed) g8 v9 (nI nb) g11 g12 v13 (nI ln) (nI (gP ti)) (nI (gR (ti + 1))) tk kw g19 g20 g21 (nI o9) g23 (nI cd) g25 g26 v27 v28 v29 v30 v31 v32 v33 v34 v35 v36 v37 (nI ol)), (v1, .inl (cA 0, 326, .inl fp)), (v9, .inl (cA 0, 700, .inl fb)), (v13, .inl (cA 1, 15, .inr (.inl fkw))), (v28, .inl (cA 1, 10, .inr (.inl l28))), (v30, .inl (cA 1, 8, .inr (.inl l30))), (v32, .inl (cA 0, 400, .inl fc))]) hP hD hS hA [5, 0, 6, 1, 2, 3, 4] (by decide) rfl
    refine va_calli (va_runV (As := []) (rest := []) ⟨hx, hb, hml, hown, hts⟩ (y_bracket_B l D cA sa w0 ed nb ol v0 v1 v2 v3 v4 v9 v13 v27 v28 v29 v30 v31 v32 v33 v34 v35 v36 v37 g8 g11 g12 g19 g20 g21 g23 g26 g5 g6 g25 ln cd tk kw ti ct fb fkw gP gR gS gK gV cn pq en dy fp sl o9 l28 l30 fc ml pl H.size hln hct hti hTX hBY hTK hKW hcn hpq hen hdy hri hcd hNM hNP hn2 ho) (cwV 0 hts gX10_fact_X10_bracket rfl rfl rfl (by decide +kernel) ⟨by show (20) + 1 ≤ 21; omega, by show 8 + (1 + 11) + (320) ≤ 340; omega⟩) ⟨Wd.blind, va_recv hK hPc (ci := 11) (q0 := 0) rfl rfl, fun U hU hW => ⟨rfl, Wd.call hPc hDc hK hC hZ hS hFc U hU hW⟩⟩ rfl rfl hl.1 rfl (lv_room (Nat.le_of_ble_eq_true rfl)) dX10_fact_10 ⟨(Nat.le_of_ble_eq_true rfl), (Nat.le_of_ble_eq_true rfl)⟩) hS (fun q _ h => hFc q h) hFc (fun rn4 u t H1 locs ht hvm hw hB hz1 hk1 hS => ?_)
    obtain ⟨qn5, zn6, zn7, zn8, zn9, zn10, zn11, zn12, qn13, qn14, zn15, fn16, fn17, fn18, zn19, hn20, hn21, hn22, hn23, hn24, hn25, hn26, hn27, hn28, hn29, hn30, hn31, hn32, hn33, hn34, hn35, hn36, hP1, hD1⟩ := hB
    rw [ht] at hP1
    obtain ⟨hP, hD⟩ := PDq.join (w := [(oX10 w0 v0 v1 v2 v3 v4 g5 g6 (nI ed) g8 v9 (nI nb) g11 g12 v13 (nI ln) (nI (gP qn5)) (nI (gR (qn5 + 1))) zn6 zn7 zn8 zn9 zn10 zn15 g23 (nI qn13) zn12 zn11 v27 v28 v29 v30 v31 v32 v33 v34 v35 v36 v37 (nI ol)), (v1, .inl (cA 0, 326, .inl fn16)), (v9, .inl (cA 0, 700, .inl fb)), (v13, .inl (cA 1, 15, .inr (.inl fkw))), (v28, .inl (cA 1, 10, .inr (.inl l28))), (v30, .inl (cA 1, 8, .inr (.inl fn18))), (v32, .inl (cA 0, 400, .inl fn17))]) 0 hP hD [5, 0, 6, 1, 2, 3, 4] [] rfl rfl (by decide) (by decide) hk1 hFc hP1 hD1 rfl
    generalize H1 = H at hP hS ⊢
    rcases hw.2 with hr9 | hr9
    · skip
      have hn36 := hn36 (hw.1.trans hr9)
      subst hr9
      obtain ⟨hP9, hD9⟩ := PDq.sub (ws' := [(oX10 w0 v0 v1 v2 v3 v4 g5 g6 (nI ed) g8 v9 (nI nb) g11 g12 v13 (nI ln) (nI (gP qn5)) (nI (gR (qn5 + 1))) zn6 zn7 zn8 zn9 zn10 zn15 g23 (nI qn13) zn12 zn11 v27 v28 v29 v30 v31 v32 v33 v34 v35 v36 v37 (nI ol)), (v1, .inl (cA 0, 326, .inl fn16)), (v9, .inl (cA 0, 700, .inl fb)), (v13, .inl (cA 1, 15, .inr (.inl fkw))), (v28, .inl (cA 1, 10, .inr (.inl l28))), (v30, .inl (cA 1, 8, .inr (.inl fn18))), (v32, .inl (cA 0, 400, .inl fn17))]) hP hD [0, 1, 2, 3, 4, 5, 6] (by decide) rfl
      refine W.widen (k := 0) (n := 0) (Nat.le_of_ble_eq_true rfl) (Nat.le_of_ble_eq_true rfl) ?_
      exact (W.zret (v := 0) hx hb hr (by first | rfl | decide) (fun t ht hW => ⟨⟨0, 0, rfl, ⟨rfl, by decide⟩, qn5, zn6, zn7, zn8, zn9, zn10, zn11, zn12, qn13, qn14, zn15, fn16, fn17, fn18, zn19, hn20, hn21, hn22, hn23, hn24, hn25, hn26, (fun h9 => absurd h9 (by decide)), (fun h9 => absurd h9 (by decide)), (fun h9 => absurd h9 (by decide)), (fun h9 => absurd h9 (by decide)), (fun h9 => absurd h9 (by decide)), (fun h9 => absurd h9 (by decide)), (fun h9 => absurd h9 (by decide)), (fun h9 => absurd h9 (by decide)), (fun h9 => absurd h9 (by decide)), (fun _ => hn36), by rw [ht]; exact hP9, hD9⟩, hS.F ht⟩) hS.2.2 dX10_fact_13)
    · skip
      have hn27 := hn27 (hw.1.trans hr9)
      subst hn27
      obtain ⟨hP, hD⟩ : PDq D A [(oX10 w0 v0 v1 v2 v3 v4 g5 g6 (nI ed) g8 v9 (nI nb) g11 g12 v13 (nI ln) (nI (gP qn5)) (nI (gR (qn5 + 1))) zn6 zn7 zn8 zn9 zn10 (nI o9) g23 (nI qn13) zn12 zn11 v27 v28 v29 v30 v31 v32 v33 v34 v35 v36 v37 (nI ol)), (v1, .inl (cA 0, 326, .inl fn16)), (v9, .inl (cA 0, 700, .inl fb)), (v13, .inl (cA 1, 15, .inr (.inl fkw))), (v28, .inl (cA 1, 10, .inr (.inl l28))), (v30, .inl (cA 1, 8, .inr (.inl fn18))), (v32, .inl (cA 0, 400, .inl fn17))] H := ⟨hP, hD⟩
      have hn28 := hn28 (hw.1.trans hr9)
      obtain rfl : g20 = zn9 := hn28.symm
      obtain ⟨hP, hD⟩ : PDq D A [(oX10 w0 v0 v1 v2 v3 v4 g5 g6 (nI ed) g8 v9 (nI nb) g11 g12 v13 (nI ln) (nI (gP qn5)) (nI (gR (qn5 + 1))) zn6 zn7 zn8 g20 zn10 (nI o9) g23 (nI qn13) zn12 zn11 v27 v28 v29 v30 v31 v32 v33 v34 v35 v36 v37 (nI ol)), (v1, .inl (cA 0, 326, .inl fn16)), (v9, .inl (cA 0, 700, .inl fb)), (v13, .inl (cA 1, 15, .inr (.inl fkw))), (v28, .inl (cA 1, 10, .inr (.inl l28))), (v30, .inl (cA 1, 8, .inr (.inl fn18))), (v32, .inl (cA 0, 400, .inl fn17))] H := ⟨hP, hD⟩
      have hn29 := hn29 (hw.1.trans hr9)
      obtain rfl : g21 = zn10 := hn29.symm
      obtain ⟨hP, hD⟩ : PDq D A [(oX10 w0 v0 v1 v2 v3 v4 g5 g6 (nI ed) g8 v9 (nI nb) g11 g12 v13 (nI ln) (nI (gP qn5)) (nI (gR (qn5 + 1))) zn6 zn7 zn8 g20 g21 (nI o9) g23 (nI qn13) zn12 zn11 v27 v28 v29 v30 v31 v32 v33 v34 v35 v36 v37 (nI ol)), (v1, .inl (cA 0, 326, .inl fn16)), (v9, .inl (cA 0, 700, .inl fb)), (v13, .inl (cA 1, 15, .inr (.inl fkw))), (v28, .inl (cA 1, 10, .inr (.inl l28))), (v30, .inl (cA 1, 8, .inr (.inl fn18))), (v32, .inl (cA 0, 400, .inl fn17))] H := ⟨hP, hD⟩
      have hn30 := hn30 (hw.1.trans hr9)
      have hn31 := hn31 (hw.1.trans hr9)
      have hn32 := hn32 (hw.1.trans hr9)
      have hn33 := hn33 (hw.1.trans hr9)
      have hn34 := hn34 (hw.1.trans hr9)
      have hn35 := hn35 (hw.1.trans hr9)
      subst hr9
      obtain ⟨hP9, hD9⟩ := PDq.sub (ws' := [(oX10 w0 v0 v1 v2 v3 v4 g5 g6 (nI ed) g8 v9 (nI nb) g11 g12 v13 (nI ln) (nI (gP qn5)) (nI (gR (qn5 + 1))) zn6 zn7 zn8 g20 g21 (nI o9) g23 (nI qn13) zn12 zn11 v27 v28 v29 v30 v31 v32 v33 v34 v35 v36 v37 (nI ol)), (v1, .inl (cA 0, 326, .inl fn16)), (v9, .inl (cA 0, 700, .inl fb)), (v13, .inl (cA 1, 15, .inr (.inl fkw))), (v28, .inl (cA 1, 10, .inr (.inl l28))), (v30, .inl (cA 1, 8, .inr (.inl fn18))), (v32, .inl (cA 0, 400, .inl fn17))]) hP hD [0, 1, 2, 3, 4, 5, 6] (by decide) rfl
      refine W.widen (k := 0) (n := 0) (Nat.le_of_ble_eq_true rfl) (Nat.le_of_ble_eq_true rfl) ?_
      exact (W.zret (v := 1) hx hb hr (by first | rfl | decide) (fun t ht hW => ⟨⟨1, 1, rfl, ⟨rfl, by decide⟩, qn5, zn6, zn7, zn8, g20, g21, zn11, zn12, qn13, qn14, (nI o9), fn16, fn17, fn18, zn19, hn20, hn21, hn22, hn23, hn24, hn25, hn26, (fun _ => rfl), (fun _ => rfl), (fun _ => rfl), (fun _ => hn30), (fun _ => hn31), (fun _ => hn32), (fun _ => hn33), (fun _ => hn34), (fun _ => hn35), (fun h9 => absurd h9 (by decide)), by rw [ht]; exact hP9, hD9⟩, hS.F ht⟩) hS.2.2 dX10_fact_13)
  · skip
    subst hr9
    refine lv_if_eq (tgt := 14) hx hb dX10_fact_6 (by decide) (fun c37 => ?_) (fun c9 => absurd c9 (by decide))
    refine lv_aload_n hx hb dX10_fact_14 rfl (lv_at hl 0 rfl) ?_
    refine va_get (D := D) (ci := 11) (v := .int tk) (C := RX10) (T := TX10) (N := 39) hx hb hts inX10 hown hK hP 5 rfl rfl 17 (by decide) (hts (.fieldLink RX10 126 "EscrowDeskModel" "token" "I") (by decide +kernel)) (fun _ h9 => h9) rfl dX10_fact_15 ?_
    refine lv_iconst (v := 2) hx hb dX10_fact_18 (by decide) ?_
    refine lv_icmp_eq (tgt := 28) hx hb dX10_fact_19 (by decide) (fun c38 => ?_) (fun c38 => ?_)
    · skip
      refine lv_aload_n hx hb dX10_fact_28 rfl (lv_at hl 0 rfl) ?_
      refine va_get (D := D) (ci := 11) (v := .int kw) (C := RX10) (T := TX10) (N := 39) hx hb hts inX10 hown hK hP 5 rfl rfl 18 (by decide) (hts (.fieldLink RX10 120 "EscrowDeskModel" "keyword" "I") (by decide +kernel)) (fun _ h9 => h9) rfl dX10_fact_29 ?_
      by_cases hn39 : kw = 8
      · skip
        refine W.eq (g2 := F0 m 32 ls [.int 8]) (by rw [hn39]) ?_
        refine lv_tableIn (off := 44) (tgt := 76) hx hb dX10_fact_32 (by decide) (by decide) (by decide) (by decide) ?_
        refine lv_aload_n hx hb dX10_fact_76 rfl (lv_at hl 0 rfl) ?_
        obtain ⟨hPc, hDc, hFc⟩ := PDq.cut (wc := [(oX10 w0 v0 v1 v2 v3 v4 g5 g6 (nI ed) g8 v9 (nI nb) g11 g12 v13 (nI ln) (nI (gP ti)) (nI (gR (ti + 1))) tk kw g19 g20 g21 (nI o9) g23 (nI cd) g25 g26 v27 v28 v29 v30 v31 v32 v33 v34 v35 v36 v37 (nI ol)), (v1, .inl (cA 0, 326, .inl fp)), (v9, .inl (cA 0, 700, .inl fb)), (v13, .inl (cA 1, 15, .inr (.inl fkw))), (v28, .inl (cA 1, 10, .inr (.inl l28))), (v30, .inl (cA 1, 8, .inr (.inl l30))), (v32, .inl (cA 0, 400, .inl fc))]) hP hD hS hA [5, 0, 6, 1, 2, 3, 4] (by decide) rfl
        refine va_calli (va_runV (As := []) (rest := []) ⟨hx, hb, hml, hown, hts⟩ (y_notFact_B l D cA sa w0 ed nb ol v0 v1 v2 v3 v4 v9 v13 v27 v28 v29 v30 v31 v32 v33 v34 v35 v36 v37 g8 g11 g12 g19 g20 g21 g23 g26 g5 g6 g25 ln cd tk kw ti ct fb fkw gP gR gS gK gV cn pq en dy fp sl o9 l28 l30 fc ml pl H.size hln hct hti hTX hBY hTK hKW hcn hpq hen hdy hri hcd hNM hNP (TKR.kwd (n := 8) hTK (by decide) c38 hn39) ho) (cwV 0 hts gX10_fact_X10_notFact rfl rfl rfl (by decide +kernel) ⟨by show (20) + 1 ≤ 21; omega, by show 8 + (1 + 11) + (320) ≤ 340; omega⟩) ⟨Wd.blind, va_recv hK hPc (ci := 11) (q0 := 0) rfl rfl, fun U hU hW => ⟨rfl, Wd.call hPc hDc hK hC hZ hS hFc U hU hW⟩⟩ rfl rfl hl.1 rfl (lv_room (Nat.le_of_ble_eq_true rfl)) dX10_fact_77 ⟨(Nat.le_of_ble_eq_true rfl), (Nat.le_of_ble_eq_true rfl)⟩) hS (fun q _ h => hFc q h) hFc (fun rn40 u t H1 locs ht hvm hw hB hz1 hk1 hS => ?_)
        obtain ⟨qn41, zn42, zn43, zn44, zn45, zn46, zn47, zn48, qn49, qn50, zn51, fn52, fn53, fn54, zn55, hn56, hn57, hn58, hn59, hn60, hn61, hn62, hn63, hn64, hn65, hn66, hn67, hn68, hn69, hn70, hn71, hn72, hP1, hD1⟩ := hB
        rw [ht] at hP1
        obtain ⟨hP, hD⟩ := PDq.join (w := [(oX10 w0 v0 v1 v2 v3 v4 g5 g6 (nI ed) g8 v9 (nI nb) g11 g12 v13 (nI ln) (nI (gP qn41)) (nI (gR (qn41 + 1))) zn42 zn43 zn44 zn45 zn46 zn51 g23 (nI qn49) zn48 zn47 v27 v28 v29 v30 v31 v32 v33 v34 v35 v36 v37 (nI ol)), (v1, .inl (cA 0, 326, .inl fn52)), (v9, .inl (cA 0, 700, .inl fb)), (v13, .inl (cA 1, 15, .inr (.inl fkw))), (v28, .inl (cA 1, 10, .inr (.inl l28))), (v30, .inl (cA 1, 8, .inr (.inl fn54))), (v32, .inl (cA 0, 400, .inl fn53))]) 0 hP hD [5, 0, 6, 1, 2, 3, 4] [] rfl rfl (by decide) (by decide) hk1 hFc hP1 hD1 rfl
        generalize H1 = H at hP hS ⊢
        rcases hw.2 with hr9 | hr9
        · skip
          have hn72 := hn72 (hw.1.trans hr9)
          subst hr9
          obtain ⟨hP9, hD9⟩ := PDq.sub (ws' := [(oX10 w0 v0 v1 v2 v3 v4 g5 g6 (nI ed) g8 v9 (nI nb) g11 g12 v13 (nI ln) (nI (gP qn41)) (nI (gR (qn41 + 1))) zn42 zn43 zn44 zn45 zn46 zn51 g23 (nI qn49) zn48 zn47 v27 v28 v29 v30 v31 v32 v33 v34 v35 v36 v37 (nI ol)), (v1, .inl (cA 0, 326, .inl fn52)), (v9, .inl (cA 0, 700, .inl fb)), (v13, .inl (cA 1, 15, .inr (.inl fkw))), (v28, .inl (cA 1, 10, .inr (.inl l28))), (v30, .inl (cA 1, 8, .inr (.inl fn54))), (v32, .inl (cA 0, 400, .inl fn53))]) hP hD [0, 1, 2, 3, 4, 5, 6] (by decide) rfl
          refine W.widen (k := 0) (n := 0) (Nat.le_of_ble_eq_true rfl) (Nat.le_of_ble_eq_true rfl) ?_
          exact (W.zret (v := 0) hx hb hr (by first | rfl | decide) (fun t ht hW => ⟨⟨0, 0, rfl, ⟨rfl, by decide⟩, qn41, zn42, zn43, zn44, zn45, zn46, zn47, zn48, qn49, qn50, zn51, fn52, fn53, fn54, zn55, hn56, hn57, hn58, hn59, hn60, hn61, hn62, (fun h9 => absurd h9 (by decide)), (fun h9 => absurd h9 (by decide)), (fun h9 => absurd h9 (by decide)), (fun h9 => absurd h9 (by decide)), (fun h9 => absurd h9 (by decide)), (fun h9 => absurd h9 (by decide)), (fun h9 => absurd h9 (by decide)), (fun h9 => absurd h9 (by decide)), (fun h9 => absurd h9 (by decide)), (fun _ => hn72), by rw [ht]; exact hP9, hD9⟩, hS.F ht⟩) hS.2.2 dX10_fact_80)
        · skip
          have hn63 := hn63 (hw.1.trans hr9)
          subst hn63
          obtain ⟨hP, hD⟩ : PDq D A [(oX10 w0 v0 v1 v2 v3 v4 g5 g6 (nI ed) g8 v9 (nI nb) g11 g12 v13 (nI ln) (nI (gP qn41)) (nI (gR (qn41 + 1))) zn42 zn43 zn44 zn45 zn46 (nI o9) g23 (nI qn49) zn48 zn47 v27 v28 v29 v30 v31 v32 v33 v34 v35 v36 v37 (nI ol)), (v1, .inl (cA 0, 326, .inl fn52)), (v9, .inl (cA 0, 700, .inl fb)), (v13, .inl (cA 1, 15, .inr (.inl fkw))), (v28, .inl (cA 1, 10, .inr (.inl l28))), (v30, .inl (cA 1, 8, .inr (.inl fn54))), (v32, .inl (cA 0, 400, .inl fn53))] H := ⟨hP, hD⟩
          have hn64 := hn64 (hw.1.trans hr9)
          obtain rfl : g20 = zn45 := hn64.symm
          obtain ⟨hP, hD⟩ : PDq D A [(oX10 w0 v0 v1 v2 v3 v4 g5 g6 (nI ed) g8 v9 (nI nb) g11 g12 v13 (nI ln) (nI (gP qn41)) (nI (gR (qn41 + 1))) zn42 zn43 zn44 g20 zn46 (nI o9) g23 (nI qn49) zn48 zn47 v27 v28 v29 v30 v31 v32 v33 v34 v35 v36 v37 (nI ol)), (v1, .inl (cA 0, 326, .inl fn52)), (v9, .inl (cA 0, 700, .inl fb)), (v13, .inl (cA 1, 15, .inr (.inl fkw))), (v28, .inl (cA 1, 10, .inr (.inl l28))), (v30, .inl (cA 1, 8, .inr (.inl fn54))), (v32, .inl (cA 0, 400, .inl fn53))] H := ⟨hP, hD⟩
          have hn65 := hn65 (hw.1.trans hr9)
          obtain rfl : g21 = zn46 := hn65.symm
          obtain ⟨hP, hD⟩ : PDq D A [(oX10 w0 v0 v1 v2 v3 v4 g5 g6 (nI ed) g8 v9 (nI nb) g11 g12 v13 (nI ln) (nI (gP qn41)) (nI (gR (qn41 + 1))) zn42 zn43 zn44 g20 g21 (nI o9) g23 (nI qn49) zn48 zn47 v27 v28 v29 v30 v31 v32 v33 v34 v35 v36 v37 (nI ol)), (v1, .inl (cA 0, 326, .inl fn52)), (v9, .inl (cA 0, 700, .inl fb)), (v13, .inl (cA 1, 15, .inr (.inl fkw))), (v28, .inl (cA 1, 10, .inr (.inl l28))), (v30, .inl (cA 1, 8, .inr (.inl fn54))), (v32, .inl (cA 0, 400, .inl fn53))] H := ⟨hP, hD⟩
          have hn66 := hn66 (hw.1.trans hr9)
          have hn67 := hn67 (hw.1.trans hr9)
          have hn68 := hn68 (hw.1.trans hr9)
          have hn69 := hn69 (hw.1.trans hr9)
          have hn70 := hn70 (hw.1.trans hr9)
          have hn71 := hn71 (hw.1.trans hr9)
          subst hr9
          obtain ⟨hP9, hD9⟩ := PDq.sub (ws' := [(oX10 w0 v0 v1 v2 v3 v4 g5 g6 (nI ed) g8 v9 (nI nb) g11 g12 v13 (nI ln) (nI (gP qn41)) (nI (gR (qn41 + 1))) zn42 zn43 zn44 g20 g21 (nI o9) g23 (nI qn49) zn48 zn47 v27 v28 v29 v30 v31 v32 v33 v34 v35 v36 v37 (nI ol)), (v1, .inl (cA 0, 326, .inl fn52)), (v9, .inl (cA 0, 700, .inl fb)), (v13, .inl (cA 1, 15, .inr (.inl fkw))), (v28, .inl (cA 1, 10, .inr (.inl l28))), (v30, .inl (cA 1, 8, .inr (.inl fn54))), (v32, .inl (cA 0, 400, .inl fn53))]) hP hD [0, 1, 2, 3, 4, 5, 6] (by decide) rfl
          refine W.widen (k := 0) (n := 0) (Nat.le_of_ble_eq_true rfl) (Nat.le_of_ble_eq_true rfl) ?_
          exact (W.zret (v := 1) hx hb hr (by first | rfl | decide) (fun t ht hW => ⟨⟨1, 1, rfl, ⟨rfl, by decide⟩, qn41, zn42, zn43, zn44, g20, g21, zn47, zn48, qn49, qn50, (nI o9), fn52, fn53, fn54, zn55, hn56, hn57, hn58, hn59, hn60, hn61, hn62, (fun _ => rfl), (fun _ => rfl), (fun _ => rfl), (fun _ => hn66), (fun _ => hn67), (fun _ => hn68), (fun _ => hn69), (fun _ => hn70), (fun _ => hn71), (fun h9 => absurd h9 (by decide)), by rw [ht]; exact hP9, hD9⟩, hS.F ht⟩) hS.2.2 dX10_fact_80)
      · skip
        by_cases hn73 : kw = 9
        · skip
          refine W.eq (g2 := F0 m 32 ls [.int 9]) (by rw [hn73]) ?_
          refine lv_tableIn (off := 49) (tgt := 81) hx hb dX10_fact_32 (by decide) (by decide) (by decide) (by decide) ?_
          refine lv_aload_n hx hb dX10_fact_81 rfl (lv_at hl 0 rfl) ?_
          refine lv_iconst (v := 0) hx hb dX10_fact_82 (by decide) ?_
          refine lv_sipush (v := 999) hx hb dX10_fact_83 (by decide) ?_
          obtain ⟨hPc, hDc, hFc⟩ := PDq.cut (wc := [(oX10 w0 v0 v1 v2 v3 v4 g5 g6 (nI ed) g8 v9 (nI nb) g11 g12 v13 (nI ln) (nI (gP ti)) (nI (gR (ti + 1))) tk kw g19 g20 g21 (nI o9) g23 (nI cd) g25 g26 v27 v28 v29 v30 v31 v32 v33 v34 v35 v36 v37 (nI ol)), (v1, .inl (cA 0, 326, .inl fp)), (v9, .inl (cA 0, 700, .inl fb)), (v13, .inl (cA 1, 15, .inr (.inl fkw))), (v28, .inl (cA 1, 10, .inr (.inl l28))), (v30, .inl (cA 1, 8, .inr (.inl l30))), (v32, .inl (cA 0, 400, .inl fc))]) hP hD hS hA [5, 0, 6, 1, 2, 3, 4] (by decide) rfl
          refine va_calli (va_runV (As := [.int 0, .int 999]) (rest := []) ⟨hx, hb, hml, hown, hts⟩ (y_numberFact0 l D cA sa w0 ed nb ol v0 v1 v2 v3 v4 v9 v13 v27 v28 v29 v30 v31 v32 v33 v34 v35 v36 v37 g8 g11 g12 g19 g20 g21 g23 g26 g5 g6 g25 ln cd tk kw ti ct fb fkw gP gR gS gK gV cn pq en dy fp sl o9 l28 l30 fc ml pl (nI o9) H.size hln hct hti hTX hBY hTK hKW hcn hpq hen hdy hri hcd hNM hNP (TKR.kwd (n := 9) hTK (by decide) c38 hn73)) (cwV 2 hts gX10_fact_X10_numberFact rfl rfl rfl (by decide +kernel) ⟨by show (3) + 1 ≤ 21; omega, by show 8 + (3 + 11) + (66) ≤ 340; omega⟩) ⟨Wd.blind, va_recv hK hPc (ci := 11) (q0 := 0) rfl rfl, fun U hU hW => ⟨rfl, Wd.call hPc hDc hK hC hZ hS hFc U hU hW⟩⟩ rfl rfl hl.1 rfl (lv_room (Nat.le_of_ble_eq_true rfl)) dX10_fact_86 ⟨(Nat.le_of_ble_eq_true rfl), (Nat.le_of_ble_eq_true rfl)⟩) hS (fun q _ h => hFc q h) hFc (fun rn74 u t H1 locs ht hvm hw hB hz1 hk1 hS => ?_)
          obtain ⟨qn75, zn76, zn77, zn78, zn79, zn80, zn81, zn82, qn83, qn84, fn85, fn86, fn87, zn88, hn89, hn90, hn91, hn92, hn93, hn94, hn95, hn96, hn97, hn98, hn99, hn100, hn101, hn102, hn103, hn104, hP1, hD1⟩ := hB
          rw [ht] at hP1
          obtain ⟨hP, hD⟩ := PDq.join (w := [(oX10 w0 v0 v1 v2 v3 v4 g5 g6 (nI ed) g8 v9 (nI nb) g11 g12 v13 (nI ln) (nI (gP qn75)) (nI (gR (qn75 + 1))) zn76 zn77 zn78 zn79 zn80 (nI o9) g23 (nI qn83) zn82 zn81 v27 v28 v29 v30 v31 v32 v33 v34 v35 v36 v37 (nI ol)), (v1, .inl (cA 0, 326, .inl fn85)), (v9, .inl (cA 0, 700, .inl fb)), (v13, .inl (cA 1, 15, .inr (.inl fkw))), (v28, .inl (cA 1, 10, .inr (.inl l28))), (v30, .inl (cA 1, 8, .inr (.inl fn87))), (v32, .inl (cA 0, 400, .inl fn86))]) 0 hP hD [5, 0, 6, 1, 2, 3, 4] [] rfl rfl (by decide) (by decide) hk1 hFc hP1 hD1 rfl
          generalize H1 = H at hP hS ⊢
          rcases hw.2 with hr9 | hr9
          · skip
            have hn104 := hn104 (hw.1.trans hr9)
            subst hr9
            obtain ⟨hP9, hD9⟩ := PDq.sub (ws' := [(oX10 w0 v0 v1 v2 v3 v4 g5 g6 (nI ed) g8 v9 (nI nb) g11 g12 v13 (nI ln) (nI (gP qn75)) (nI (gR (qn75 + 1))) zn76 zn77 zn78 zn79 zn80 (nI o9) g23 (nI qn83) zn82 zn81 v27 v28 v29 v30 v31 v32 v33 v34 v35 v36 v37 (nI ol)), (v1, .inl (cA 0, 326, .inl fn85)), (v9, .inl (cA 0, 700, .inl fb)), (v13, .inl (cA 1, 15, .inr (.inl fkw))), (v28, .inl (cA 1, 10, .inr (.inl l28))), (v30, .inl (cA 1, 8, .inr (.inl fn87))), (v32, .inl (cA 0, 400, .inl fn86))]) hP hD [0, 1, 2, 3, 4, 5, 6] (by decide) rfl
            refine W.widen (k := 0) (n := 0) (Nat.le_of_ble_eq_true rfl) (Nat.le_of_ble_eq_true rfl) ?_
            exact (W.zret (v := 0) hx hb hr (by first | rfl | decide) (fun t ht hW => ⟨⟨0, 0, rfl, ⟨rfl, by decide⟩, qn75, zn76, zn77, zn78, zn79, zn80, zn81, zn82, qn83, qn84, (nI o9), fn85, fn86, fn87, zn88, hn89, hn90, hn91, hn92, hn93, hn94, hn95, (fun h9 => absurd h9 (by decide)), (fun h9 => absurd h9 (by decide)), (fun h9 => absurd h9 (by decide)), (fun h9 => absurd h9 (by decide)), (fun h9 => absurd h9 (by decide)), (fun h9 => absurd h9 (by decide)), (fun h9 => absurd h9 (by decide)), (fun h9 => absurd h9 (by decide)), (fun h9 => absurd h9 (by decide)), (fun _ => hn104), by rw [ht]; exact hP9, hD9⟩, hS.F ht⟩) hS.2.2 dX10_fact_89)
          · skip
            have hn96 := hn96 (hw.1.trans hr9)
            obtain rfl : g20 = zn79 := hn96.symm
            obtain ⟨hP, hD⟩ : PDq D A [(oX10 w0 v0 v1 v2 v3 v4 g5 g6 (nI ed) g8 v9 (nI nb) g11 g12 v13 (nI ln) (nI (gP qn75)) (nI (gR (qn75 + 1))) zn76 zn77 zn78 g20 zn80 (nI o9) g23 (nI qn83) zn82 zn81 v27 v28 v29 v30 v31 v32 v33 v34 v35 v36 v37 (nI ol)), (v1, .inl (cA 0, 326, .inl fn85)), (v9, .inl (cA 0, 700, .inl fb)), (v13, .inl (cA 1, 15, .inr (.inl fkw))), (v28, .inl (cA 1, 10, .inr (.inl l28))), (v30, .inl (cA 1, 8, .inr (.inl fn87))), (v32, .inl (cA 0, 400, .inl fn86))] H := ⟨hP, hD⟩
            have hn97 := hn97 (hw.1.trans hr9)
            obtain rfl : g21 = zn80 := hn97.symm
            obtain ⟨hP, hD⟩ : PDq D A [(oX10 w0 v0 v1 v2 v3 v4 g5 g6 (nI ed) g8 v9 (nI nb) g11 g12 v13 (nI ln) (nI (gP qn75)) (nI (gR (qn75 + 1))) zn76 zn77 zn78 g20 g21 (nI o9) g23 (nI qn83) zn82 zn81 v27 v28 v29 v30 v31 v32 v33 v34 v35 v36 v37 (nI ol)), (v1, .inl (cA 0, 326, .inl fn85)), (v9, .inl (cA 0, 700, .inl fb)), (v13, .inl (cA 1, 15, .inr (.inl fkw))), (v28, .inl (cA 1, 10, .inr (.inl l28))), (v30, .inl (cA 1, 8, .inr (.inl fn87))), (v32, .inl (cA 0, 400, .inl fn86))] H := ⟨hP, hD⟩
            have hn98 := hn98 (hw.1.trans hr9)
            have hn99 := hn99 (hw.1.trans hr9)
            have hn100 := hn100 (hw.1.trans hr9)
            have hn101 := hn101 (hw.1.trans hr9)
            have hn102 := hn102 (hw.1.trans hr9)
            have hn103 := hn103 (hw.1.trans hr9)
            subst hr9
            obtain ⟨hP9, hD9⟩ := PDq.sub (ws' := [(oX10 w0 v0 v1 v2 v3 v4 g5 g6 (nI ed) g8 v9 (nI nb) g11 g12 v13 (nI ln) (nI (gP qn75)) (nI (gR (qn75 + 1))) zn76 zn77 zn78 g20 g21 (nI o9) g23 (nI qn83) zn82 zn81 v27 v28 v29 v30 v31 v32 v33 v34 v35 v36 v37 (nI ol)), (v1, .inl (cA 0, 326, .inl fn85)), (v9, .inl (cA 0, 700, .inl fb)), (v13, .inl (cA 1, 15, .inr (.inl fkw))), (v28, .inl (cA 1, 10, .inr (.inl l28))), (v30, .inl (cA 1, 8, .inr (.inl fn87))), (v32, .inl (cA 0, 400, .inl fn86))]) hP hD [0, 1, 2, 3, 4, 5, 6] (by decide) rfl
            refine W.widen (k := 0) (n := 0) (Nat.le_of_ble_eq_true rfl) (Nat.le_of_ble_eq_true rfl) ?_
            exact (W.zret (v := 1) hx hb hr (by first | rfl | decide) (fun t ht hW => ⟨⟨1, 1, rfl, ⟨rfl, by decide⟩, qn75, zn76, zn77, zn78, g20, g21, zn81, zn82, qn83, qn84, (nI o9), fn85, fn86, fn87, zn88, hn89, hn90, hn91, hn92, hn93, hn94, hn95, (fun _ => rfl), (fun _ => rfl), (fun _ => rfl), (fun _ => hn98), (fun _ => hn99), (fun _ => hn100), (fun _ => hn101), (fun _ => hn102), (fun _ => hn103), (fun h9 => absurd h9 (by decide)), by rw [ht]; exact hP9, hD9⟩, hS.F ht⟩) hS.2.2 dX10_fact_89)
        · skip
          by_cases hn105 : kw = 10
          · skip
            refine W.eq (g2 := F0 m 32 ls [.int 10]) (by rw [hn105]) ?_
            refine lv_tableIn (off := 58) (tgt := 90) hx hb dX10_fact_32 (by decide) (by decide) (by decide) (by decide) ?_
            refine lv_aload_n hx hb dX10_fact_90 rfl (lv_at hl 0 rfl) ?_
            obtain ⟨hPc, hDc, hFc⟩ := PDq.cut (wc := [(oX10 w0 v0 v1 v2 v3 v4 g5 g6 (nI ed) g8 v9 (nI nb) g11 g12 v13 (nI ln) (nI (gP ti)) (nI (gR (ti + 1))) tk kw g19 g20 g21 (nI o9) g23 (nI cd) g25 g26 v27 v28 v29 v30 v31 v32 v33 v34 v35 v36 v37 (nI ol)), (v1, .inl (cA 0, 326, .inl fp)), (v9, .inl (cA 0, 700, .inl fb)), (v13, .inl (cA 1, 15, .inr (.inl fkw))), (v28, .inl (cA 1, 10, .inr (.inl l28))), (v30, .inl (cA 1, 8, .inr (.inl l30))), (v32, .inl (cA 0, 400, .inl fc))]) hP hD hS hA [5, 0, 6, 1, 2, 3, 4] (by decide) rfl
            refine va_calli (va_runV (As := []) (rest := []) ⟨hx, hb, hml, hown, hts⟩ (y_proofFact l D cA sa w0 ed nb ol v0 v1 v2 v3 v4 v9 v13 v27 v28 v29 v30 v31 v32 v33 v34 v35 v36 v37 g8 g11 g12 g19 g20 g21 g23 g26 g5 g6 g25 ln cd tk kw ti ct fb fkw gP gR gS gK gV cn pq en dy fp sl o9 l28 l30 fc ml pl (nI o9) H.size hln hct hti hTX hBY hTK hKW hcn hpq hen hdy hri hcd hNM hNP (TKR.kwd (n := 10) hTK (by decide) c38 hn105)) (cwV 0 hts gX10_fact_X10_proofFact rfl rfl rfl (by decide +kernel) ⟨by show (2) + 1 ≤ 21; omega, by show 8 + (2 + 11) + (44) ≤ 340; omega⟩) ⟨Wd.blind, va_recv hK hPc (ci := 11) (q0 := 0) rfl rfl, fun U hU hW => ⟨rfl, Wd.call hPc hDc hK hC hZ hS hFc U hU hW⟩⟩ rfl rfl hl.1 rfl (lv_room (Nat.le_of_ble_eq_true rfl)) dX10_fact_91 ⟨(Nat.le_of_ble_eq_true rfl), (Nat.le_of_ble_eq_true rfl)⟩) hS (fun q _ h => hFc q h) hFc (fun rn106 u t H1 locs ht hvm hw hB hz1 hk1 hS => ?_)
            obtain ⟨qn107, zn108, zn109, zn110, zn111, zn112, zn113, zn114, qn115, qn116, fn117, fn118, fn119, zn120, hn121, hn122, hn123, hn124, hn125, hn126, hn127, hn128, hn129, hn130, hn131, hn132, hn133, hn134, hn135, hn136, hP1, hD1⟩ := hB
            rw [ht] at hP1
            obtain ⟨hP, hD⟩ := PDq.join (w := [(oX10 w0 v0 v1 v2 v3 v4 g5 g6 (nI ed) g8 v9 (nI nb) g11 g12 v13 (nI ln) (nI (gP qn107)) (nI (gR (qn107 + 1))) zn108 zn109 zn110 zn111 zn112 (nI o9) g23 (nI qn115) zn114 zn113 v27 v28 v29 v30 v31 v32 v33 v34 v35 v36 v37 (nI ol)), (v1, .inl (cA 0, 326, .inl fn117)), (v9, .inl (cA 0, 700, .inl fb)), (v13, .inl (cA 1, 15, .inr (.inl fkw))), (v28, .inl (cA 1, 10, .inr (.inl l28))), (v30, .inl (cA 1, 8, .inr (.inl fn119))), (v32, .inl (cA 0, 400, .inl fn118))]) 0 hP hD [5, 0, 6, 1, 2, 3, 4] [] rfl rfl (by decide) (by decide) hk1 hFc hP1 hD1 rfl
            generalize H1 = H at hP hS ⊢
            rcases hw.2 with hr9 | hr9
            · skip
              have hn136 := hn136 (hw.1.trans hr9)
              subst hr9
              obtain ⟨hP9, hD9⟩ := PDq.sub (ws' := [(oX10 w0 v0 v1 v2 v3 v4 g5 g6 (nI ed) g8 v9 (nI nb) g11 g12 v13 (nI ln) (nI (gP qn107)) (nI (gR (qn107 + 1))) zn108 zn109 zn110 zn111 zn112 (nI o9) g23 (nI qn115) zn114 zn113 v27 v28 v29 v30 v31 v32 v33 v34 v35 v36 v37 (nI ol)), (v1, .inl (cA 0, 326, .inl fn117)), (v9, .inl (cA 0, 700, .inl fb)), (v13, .inl (cA 1, 15, .inr (.inl fkw))), (v28, .inl (cA 1, 10, .inr (.inl l28))), (v30, .inl (cA 1, 8, .inr (.inl fn119))), (v32, .inl (cA 0, 400, .inl fn118))]) hP hD [0, 1, 2, 3, 4, 5, 6] (by decide) rfl
              refine W.widen (k := 0) (n := 0) (Nat.le_of_ble_eq_true rfl) (Nat.le_of_ble_eq_true rfl) ?_
              exact (W.zret (v := 0) hx hb hr (by first | rfl | decide) (fun t ht hW => ⟨⟨0, 0, rfl, ⟨rfl, by decide⟩, qn107, zn108, zn109, zn110, zn111, zn112, zn113, zn114, qn115, qn116, (nI o9), fn117, fn118, fn119, zn120, hn121, hn122, hn123, hn124, hn125, hn126, hn127, (fun h9 => absurd h9 (by decide)), (fun h9 => absurd h9 (by decide)), (fun h9 => absurd h9 (by decide)), (fun h9 => absurd h9 (by decide)), (fun h9 => absurd h9 (by decide)), (fun h9 => absurd h9 (by decide)), (fun h9 => absurd h9 (by decide)), (fun h9 => absurd h9 (by decide)), (fun h9 => absurd h9 (by decide)), (fun _ => hn136), by rw [ht]; exact hP9, hD9⟩, hS.F ht⟩) hS.2.2 dX10_fact_94)
            · skip
              have hn128 := hn128 (hw.1.trans hr9)
              obtain rfl : g20 = zn111 := hn128.symm
              obtain ⟨hP, hD⟩ : PDq D A [(oX10 w0 v0 v1 v2 v3 v4 g5 g6 (nI ed) g8 v9 (nI nb) g11 g12 v13 (nI ln) (nI (gP qn107)) (nI (gR (qn107 + 1))) zn108 zn109 zn110 g20 zn112 (nI o9) g23 (nI qn115) zn114 zn113 v27 v28 v29 v30 v31 v32 v33 v34 v35 v36 v37 (nI ol)), (v1, .inl (cA 0, 326, .inl fn117)), (v9, .inl (cA 0, 700, .inl fb)), (v13, .inl (cA 1, 15, .inr (.inl fkw))), (v28, .inl (cA 1, 10, .inr (.inl l28))), (v30, .inl (cA 1, 8, .inr (.inl fn119))), (v32, .inl (cA 0, 400, .inl fn118))] H := ⟨hP, hD⟩
              have hn129 := hn129 (hw.1.trans hr9)
              obtain rfl : g21 = zn112 := hn129.symm
              obtain ⟨hP, hD⟩ : PDq D A [(oX10 w0 v0 v1 v2 v3 v4 g5 g6 (nI ed) g8 v9 (nI nb) g11 g12 v13 (nI ln) (nI (gP qn107)) (nI (gR (qn107 + 1))) zn108 zn109 zn110 g20 g21 (nI o9) g23 (nI qn115) zn114 zn113 v27 v28 v29 v30 v31 v32 v33 v34 v35 v36 v37 (nI ol)), (v1, .inl (cA 0, 326, .inl fn117)), (v9, .inl (cA 0, 700, .inl fb)), (v13, .inl (cA 1, 15, .inr (.inl fkw))), (v28, .inl (cA 1, 10, .inr (.inl l28))), (v30, .inl (cA 1, 8, .inr (.inl fn119))), (v32, .inl (cA 0, 400, .inl fn118))] H := ⟨hP, hD⟩
              have hn130 := hn130 (hw.1.trans hr9)
              have hn131 := hn131 (hw.1.trans hr9)
              have hn132 := hn132 (hw.1.trans hr9)
              have hn133 := hn133 (hw.1.trans hr9)
              have hn134 := hn134 (hw.1.trans hr9)
              have hn135 := hn135 (hw.1.trans hr9)
              subst hr9
              obtain ⟨hP9, hD9⟩ := PDq.sub (ws' := [(oX10 w0 v0 v1 v2 v3 v4 g5 g6 (nI ed) g8 v9 (nI nb) g11 g12 v13 (nI ln) (nI (gP qn107)) (nI (gR (qn107 + 1))) zn108 zn109 zn110 g20 g21 (nI o9) g23 (nI qn115) zn114 zn113 v27 v28 v29 v30 v31 v32 v33 v34 v35 v36 v37 (nI ol)), (v1, .inl (cA 0, 326, .inl fn117)), (v9, .inl (cA 0, 700, .inl fb)), (v13, .inl (cA 1, 15, .inr (.inl fkw))), (v28, .inl (cA 1, 10, .inr (.inl l28))), (v30, .inl (cA 1, 8, .inr (.inl fn119))), (v32, .inl (cA 0, 400, .inl fn118))]) hP hD [0, 1, 2, 3, 4, 5, 6] (by decide) rfl
              refine W.widen (k := 0) (n := 0) (Nat.le_of_ble_eq_true rfl) (Nat.le_of_ble_eq_true rfl) ?_
              exact (W.zret (v := 1) hx hb hr (by first | rfl | decide) (fun t ht hW => ⟨⟨1, 1, rfl, ⟨rfl, by decide⟩, qn107, zn108, zn109, zn110, g20, g21, zn113, zn114, qn115, qn116, (nI o9), fn117, fn118, fn119, zn120, hn121, hn122, hn123, hn124, hn125, hn126, hn127, (fun _ => rfl), (fun _ => rfl), (fun _ => rfl), (fun _ => hn130), (fun _ => hn131), (fun _ => hn132), (fun _ => hn133), (fun _ => hn134), (fun _ => hn135), (fun h9 => absurd h9 (by decide)), by rw [ht]; exact hP9, hD9⟩, hS.F ht⟩) hS.2.2 dX10_fact_94)
          · skip
            by_cases hn137 : kw = 11
            · skip
              refine W.eq (g2 := F0 m 32 ls [.int 11]) (by rw [hn137]) ?_
              refine lv_tableIn (off := 63) (tgt := 95) hx hb dX10_fact_32 (by decide) (by decide) (by decide) (by decide) ?_
              refine lv_aload_n hx hb dX10_fact_95 rfl (lv_at hl 0 rfl) ?_
              obtain ⟨hPc, hDc, hFc⟩ := PDq.cut (wc := [(oX10 w0 v0 v1 v2 v3 v4 g5 g6 (nI ed) g8 v9 (nI nb) g11 g12 v13 (nI ln) (nI (gP ti)) (nI (gR (ti + 1))) tk kw g19 g20 g21 (nI o9) g23 (nI cd) g25 g26 v27 v28 v29 v30 v31 v32 v33 v34 v35 v36 v37 (nI ol)), (v1, .inl (cA 0, 326, .inl fp)), (v9, .inl (cA 0, 700, .inl fb)), (v13, .inl (cA 1, 15, .inr (.inl fkw))), (v28, .inl (cA 1, 10, .inr (.inl l28))), (v30, .inl (cA 1, 8, .inr (.inl l30))), (v32, .inl (cA 0, 400, .inl fc))]) hP hD hS hA [5, 0, 6, 1, 2, 3, 4] (by decide) rfl
              refine va_calli (va_runV (As := []) (rest := []) ⟨hx, hb, hml, hown, hts⟩ (y_doneFact l D cA sa w0 ed nb ol v0 v1 v2 v3 v4 v9 v13 v27 v28 v29 v30 v31 v32 v33 v34 v35 v36 v37 g8 g11 g12 g19 g20 g21 g23 g26 g5 g6 g25 ln cd tk kw ti ct fb fkw gP gR gS gK gV cn pq en dy fp sl o9 l28 l30 fc ml pl (nI o9) H.size hln hct hti hTX hBY hTK hKW hcn hpq hen hdy hri hcd hNM hNP (TKR.kwd (n := 11) hTK (by decide) c38 hn137)) (cwV 0 hts gX10_fact_X10_doneFact rfl rfl rfl (by decide +kernel) ⟨by show (2) + 1 ≤ 21; omega, by show 8 + (2 + 11) + (44) ≤ 340; omega⟩) ⟨Wd.blind, va_recv hK hPc (ci := 11) (q0 := 0) rfl rfl, fun U hU hW => ⟨rfl, Wd.call hPc hDc hK hC hZ hS hFc U hU hW⟩⟩ rfl rfl hl.1 rfl (lv_room (Nat.le_of_ble_eq_true rfl)) dX10_fact_96 ⟨(Nat.le_of_ble_eq_true rfl), (Nat.le_of_ble_eq_true rfl)⟩) hS (fun q _ h => hFc q h) hFc (fun rn138 u t H1 locs ht hvm hw hB hz1 hk1 hS => ?_)
              obtain ⟨qn139, zn140, zn141, zn142, zn143, zn144, zn145, zn146, qn147, qn148, fn149, fn150, fn151, zn152, hn153, hn154, hn155, hn156, hn157, hn158, hn159, hn160, hn161, hn162, hn163, hn164, hn165, hn166, hn167, hn168, hP1, hD1⟩ := hB
              rw [ht] at hP1
              obtain ⟨hP, hD⟩ := PDq.join (w := [(oX10 w0 v0 v1 v2 v3 v4 g5 g6 (nI ed) g8 v9 (nI nb) g11 g12 v13 (nI ln) (nI (gP qn139)) (nI (gR (qn139 + 1))) zn140 zn141 zn142 zn143 zn144 (nI o9) g23 (nI qn147) zn146 zn145 v27 v28 v29 v30 v31 v32 v33 v34 v35 v36 v37 (nI ol)), (v1, .inl (cA 0, 326, .inl fn149)), (v9, .inl (cA 0, 700, .inl fb)), (v13, .inl (cA 1, 15, .inr (.inl fkw))), (v28, .inl (cA 1, 10, .inr (.inl l28))), (v30, .inl (cA 1, 8, .inr (.inl fn151))), (v32, .inl (cA 0, 400, .inl fn150))]) 0 hP hD [5, 0, 6, 1, 2, 3, 4] [] rfl rfl (by decide) (by decide) hk1 hFc hP1 hD1 rfl
              generalize H1 = H at hP hS ⊢
              rcases hw.2 with hr9 | hr9
              · skip
                have hn168 := hn168 (hw.1.trans hr9)
                subst hr9
                obtain ⟨hP9, hD9⟩ := PDq.sub (ws' := [(oX10 w0 v0 v1 v2 v3 v4 g5 g6 (nI ed) g8 v9 (nI nb) g11 g12 v13 (nI ln) (nI (gP qn139)) (nI (gR (qn139 + 1))) zn140 zn141 zn142 zn143 zn144 (nI o9) g23 (nI qn147) zn146 zn145 v27 v28 v29 v30 v31 v32 v33 v34 v35 v36 v37 (nI ol)), (v1, .inl (cA 0, 326, .inl fn149)), (v9, .inl (cA 0, 700, .inl fb)), (v13, .inl (cA 1, 15, .inr (.inl fkw))), (v28, .inl (cA 1, 10, .inr (.inl l28))), (v30, .inl (cA 1, 8, .inr (.inl fn151))), (v32, .inl (cA 0, 400, .inl fn150))]) hP hD [0, 1, 2, 3, 4, 5, 6] (by decide) rfl
                refine W.widen (k := 0) (n := 0) (Nat.le_of_ble_eq_true rfl) (Nat.le_of_ble_eq_true rfl) ?_
                exact (W.zret (v := 0) hx hb hr (by first | rfl | decide) (fun t ht hW => ⟨⟨0, 0, rfl, ⟨rfl, by decide⟩, qn139, zn140, zn141, zn142, zn143, zn144, zn145, zn146, qn147, qn148, (nI o9), fn149, fn150, fn151, zn152, hn153, hn154, hn155, hn156, hn157, hn158, hn159, (fun h9 => absurd h9 (by decide)), (fun h9 => absurd h9 (by decide)), (fun h9 => absurd h9 (by decide)), (fun h9 => absurd h9 (by decide)), (fun h9 => absurd h9 (by decide)), (fun h9 => absurd h9 (by decide)), (fun h9 => absurd h9 (by decide)), (fun h9 => absurd h9 (by decide)), (fun h9 => absurd h9 (by decide)), (fun _ => hn168), by rw [ht]; exact hP9, hD9⟩, hS.F ht⟩) hS.2.2 dX10_fact_99)
              · skip
                have hn160 := hn160 (hw.1.trans hr9)
                obtain rfl : g20 = zn143 := hn160.symm
                obtain ⟨hP, hD⟩ : PDq D A [(oX10 w0 v0 v1 v2 v3 v4 g5 g6 (nI ed) g8 v9 (nI nb) g11 g12 v13 (nI ln) (nI (gP qn139)) (nI (gR (qn139 + 1))) zn140 zn141 zn142 g20 zn144 (nI o9) g23 (nI qn147) zn146 zn145 v27 v28 v29 v30 v31 v32 v33 v34 v35 v36 v37 (nI ol)), (v1, .inl (cA 0, 326, .inl fn149)), (v9, .inl (cA 0, 700, .inl fb)), (v13, .inl (cA 1, 15, .inr (.inl fkw))), (v28, .inl (cA 1, 10, .inr (.inl l28))), (v30, .inl (cA 1, 8, .inr (.inl fn151))), (v32, .inl (cA 0, 400, .inl fn150))] H := ⟨hP, hD⟩
                have hn161 := hn161 (hw.1.trans hr9)
                obtain rfl : g21 = zn144 := hn161.symm
                obtain ⟨hP, hD⟩ : PDq D A [(oX10 w0 v0 v1 v2 v3 v4 g5 g6 (nI ed) g8 v9 (nI nb) g11 g12 v13 (nI ln) (nI (gP qn139)) (nI (gR (qn139 + 1))) zn140 zn141 zn142 g20 g21 (nI o9) g23 (nI qn147) zn146 zn145 v27 v28 v29 v30 v31 v32 v33 v34 v35 v36 v37 (nI ol)), (v1, .inl (cA 0, 326, .inl fn149)), (v9, .inl (cA 0, 700, .inl fb)), (v13, .inl (cA 1, 15, .inr (.inl fkw))), (v28, .inl (cA 1, 10, .inr (.inl l28))), (v30, .inl (cA 1, 8, .inr (.inl fn151))), (v32, .inl (cA 0, 400, .inl fn150))] H := ⟨hP, hD⟩
                have hn162 := hn162 (hw.1.trans hr9)
                have hn163 := hn163 (hw.1.trans hr9)
                have hn164 := hn164 (hw.1.trans hr9)
                have hn165 := hn165 (hw.1.trans hr9)
                have hn166 := hn166 (hw.1.trans hr9)
                have hn167 := hn167 (hw.1.trans hr9)
                subst hr9
                obtain ⟨hP9, hD9⟩ := PDq.sub (ws' := [(oX10 w0 v0 v1 v2 v3 v4 g5 g6 (nI ed) g8 v9 (nI nb) g11 g12 v13 (nI ln) (nI (gP qn139)) (nI (gR (qn139 + 1))) zn140 zn141 zn142 g20 g21 (nI o9) g23 (nI qn147) zn146 zn145 v27 v28 v29 v30 v31 v32 v33 v34 v35 v36 v37 (nI ol)), (v1, .inl (cA 0, 326, .inl fn149)), (v9, .inl (cA 0, 700, .inl fb)), (v13, .inl (cA 1, 15, .inr (.inl fkw))), (v28, .inl (cA 1, 10, .inr (.inl l28))), (v30, .inl (cA 1, 8, .inr (.inl fn151))), (v32, .inl (cA 0, 400, .inl fn150))]) hP hD [0, 1, 2, 3, 4, 5, 6] (by decide) rfl
                refine W.widen (k := 0) (n := 0) (Nat.le_of_ble_eq_true rfl) (Nat.le_of_ble_eq_true rfl) ?_
                exact (W.zret (v := 1) hx hb hr (by first | rfl | decide) (fun t ht hW => ⟨⟨1, 1, rfl, ⟨rfl, by decide⟩, qn139, zn140, zn141, zn142, g20, g21, zn145, zn146, qn147, qn148, (nI o9), fn149, fn150, fn151, zn152, hn153, hn154, hn155, hn156, hn157, hn158, hn159, (fun _ => rfl), (fun _ => rfl), (fun _ => rfl), (fun _ => hn162), (fun _ => hn163), (fun _ => hn164), (fun _ => hn165), (fun _ => hn166), (fun _ => hn167), (fun h9 => absurd h9 (by decide)), by rw [ht]; exact hP9, hD9⟩, hS.F ht⟩) hS.2.2 dX10_fact_99)
            · skip
              by_cases hn169 : kw = 12
              · skip
                refine W.eq (g2 := F0 m 32 ls [.int 12]) (by rw [hn169]) ?_
                refine lv_tableIn (off := 68) (tgt := 100) hx hb dX10_fact_32 (by decide) (by decide) (by decide) (by decide) ?_
                refine lv_aload_n hx hb dX10_fact_100 rfl (lv_at hl 0 rfl) ?_
                refine lv_iconst (v := 3) hx hb dX10_fact_101 (by decide) ?_
                refine lv_ldc (v := 99999) hx hb hown (hts (.constant RX10 218 99999) (by decide +kernel)) dX10_fact_102 ?_
                obtain ⟨hPc, hDc, hFc⟩ := PDq.cut (wc := [(oX10 w0 v0 v1 v2 v3 v4 g5 g6 (nI ed) g8 v9 (nI nb) g11 g12 v13 (nI ln) (nI (gP ti)) (nI (gR (ti + 1))) tk kw g19 g20 g21 (nI o9) g23 (nI cd) g25 g26 v27 v28 v29 v30 v31 v32 v33 v34 v35 v36 v37 (nI ol)), (v1, .inl (cA 0, 326, .inl fp)), (v9, .inl (cA 0, 700, .inl fb)), (v13, .inl (cA 1, 15, .inr (.inl fkw))), (v28, .inl (cA 1, 10, .inr (.inl l28))), (v30, .inl (cA 1, 8, .inr (.inl l30))), (v32, .inl (cA 0, 400, .inl fc))]) hP hD hS hA [5, 0, 6, 1, 2, 3, 4] (by decide) rfl
                refine va_calli (va_runV (As := [.int 3, .int 99999]) (rest := []) ⟨hx, hb, hml, hown, hts⟩ (y_numberFact3 l D cA sa w0 ed nb ol v0 v1 v2 v3 v4 v9 v13 v27 v28 v29 v30 v31 v32 v33 v34 v35 v36 v37 g8 g11 g12 g19 g20 g21 g23 g26 g5 g6 g25 ln cd tk kw ti ct fb fkw gP gR gS gK gV cn pq en dy fp sl o9 l28 l30 fc ml pl (nI o9) H.size hln hct hti hTX hBY hTK hKW hcn hpq hen hdy hri hcd hNM hNP (TKR.kwd (n := 12) hTK (by decide) c38 hn169)) (cwV 2 hts gX10_fact_X10_numberFact rfl rfl rfl (by decide +kernel) ⟨by show (3) + 1 ≤ 21; omega, by show 8 + (3 + 11) + (66) ≤ 340; omega⟩) ⟨Wd.blind, va_recv hK hPc (ci := 11) (q0 := 0) rfl rfl, fun U hU hW => ⟨rfl, Wd.call hPc hDc hK hC hZ hS hFc U hU hW⟩⟩ rfl rfl hl.1 rfl (lv_room (Nat.le_of_ble_eq_true rfl)) dX10_fact_104 ⟨(Nat.le_of_ble_eq_true rfl), (Nat.le_of_ble_eq_true rfl)⟩) hS (fun q _ h => hFc q h) hFc (fun rn170 u t H1 locs ht hvm hw hB hz1 hk1 hS => ?_)
                obtain ⟨qn171, zn172, zn173, zn174, zn175, zn176, zn177, zn178, qn179, qn180, fn181, fn182, fn183, zn184, hn185, hn186, hn187, hn188, hn189, hn190, hn191, hn192, hn193, hn194, hn195, hn196, hn197, hn198, hn199, hn200, hP1, hD1⟩ := hB
                rw [ht] at hP1
                obtain ⟨hP, hD⟩ := PDq.join (w := [(oX10 w0 v0 v1 v2 v3 v4 g5 g6 (nI ed) g8 v9 (nI nb) g11 g12 v13 (nI ln) (nI (gP qn171)) (nI (gR (qn171 + 1))) zn172 zn173 zn174 zn175 zn176 (nI o9) g23 (nI qn179) zn178 zn177 v27 v28 v29 v30 v31 v32 v33 v34 v35 v36 v37 (nI ol)), (v1, .inl (cA 0, 326, .inl fn181)), (v9, .inl (cA 0, 700, .inl fb)), (v13, .inl (cA 1, 15, .inr (.inl fkw))), (v28, .inl (cA 1, 10, .inr (.inl l28))), (v30, .inl (cA 1, 8, .inr (.inl fn183))), (v32, .inl (cA 0, 400, .inl fn182))]) 0 hP hD [5, 0, 6, 1, 2, 3, 4] [] rfl rfl (by decide) (by decide) hk1 hFc hP1 hD1 rfl
                generalize H1 = H at hP hS ⊢
                rcases hw.2 with hr9 | hr9
                · skip
                  have hn200 := hn200 (hw.1.trans hr9)
                  subst hr9
                  obtain ⟨hP9, hD9⟩ := PDq.sub (ws' := [(oX10 w0 v0 v1 v2 v3 v4 g5 g6 (nI ed) g8 v9 (nI nb) g11 g12 v13 (nI ln) (nI (gP qn171)) (nI (gR (qn171 + 1))) zn172 zn173 zn174 zn175 zn176 (nI o9) g23 (nI qn179) zn178 zn177 v27 v28 v29 v30 v31 v32 v33 v34 v35 v36 v37 (nI ol)), (v1, .inl (cA 0, 326, .inl fn181)), (v9, .inl (cA 0, 700, .inl fb)), (v13, .inl (cA 1, 15, .inr (.inl fkw))), (v28, .inl (cA 1, 10, .inr (.inl l28))), (v30, .inl (cA 1, 8, .inr (.inl fn183))), (v32, .inl (cA 0, 400, .inl fn182))]) hP hD [0, 1, 2, 3, 4, 5, 6] (by decide) rfl
                  refine W.widen (k := 0) (n := 0) (Nat.le_of_ble_eq_true rfl) (Nat.le_of_ble_eq_true rfl) ?_
                  exact (W.zret (v := 0) hx hb hr (by first | rfl | decide) (fun t ht hW => ⟨⟨0, 0, rfl, ⟨rfl, by decide⟩, qn171, zn172, zn173, zn174, zn175, zn176, zn177, zn178, qn179, qn180, (nI o9), fn181, fn182, fn183, zn184, hn185, hn186, hn187, hn188, hn189, hn190, hn191, (fun h9 => absurd h9 (by decide)), (fun h9 => absurd h9 (by decide)), (fun h9 => absurd h9 (by decide)), (fun h9 => absurd h9 (by decide)), (fun h9 => absurd h9 (by decide)), (fun h9 => absurd h9 (by decide)), (fun h9 => absurd h9 (by decide)), (fun h9 => absurd h9 (by decide)), (fun h9 => absurd h9 (by decide)), (fun _ => hn200), by rw [ht]; exact hP9, hD9⟩, hS.F ht⟩) hS.2.2 dX10_fact_107)
                · skip
                  have hn192 := hn192 (hw.1.trans hr9)
                  obtain rfl : g20 = zn175 := hn192.symm
                  obtain ⟨hP, hD⟩ : PDq D A [(oX10 w0 v0 v1 v2 v3 v4 g5 g6 (nI ed) g8 v9 (nI nb) g11 g12 v13 (nI ln) (nI (gP qn171)) (nI (gR (qn171 + 1))) zn172 zn173 zn174 g20 zn176 (nI o9) g23 (nI qn179) zn178 zn177 v27 v28 v29 v30 v31 v32 v33 v34 v35 v36 v37 (nI ol)), (v1, .inl (cA 0, 326, .inl fn181)), (v9, .inl (cA 0, 700, .inl fb)), (v13, .inl (cA 1, 15, .inr (.inl fkw))), (v28, .inl (cA 1, 10, .inr (.inl l28))), (v30, .inl (cA 1, 8, .inr (.inl fn183))), (v32, .inl (cA 0, 400, .inl fn182))] H := ⟨hP, hD⟩
                  have hn193 := hn193 (hw.1.trans hr9)
                  obtain rfl : g21 = zn176 := hn193.symm
                  obtain ⟨hP, hD⟩ : PDq D A [(oX10 w0 v0 v1 v2 v3 v4 g5 g6 (nI ed) g8 v9 (nI nb) g11 g12 v13 (nI ln) (nI (gP qn171)) (nI (gR (qn171 + 1))) zn172 zn173 zn174 g20 g21 (nI o9) g23 (nI qn179) zn178 zn177 v27 v28 v29 v30 v31 v32 v33 v34 v35 v36 v37 (nI ol)), (v1, .inl (cA 0, 326, .inl fn181)), (v9, .inl (cA 0, 700, .inl fb)), (v13, .inl (cA 1, 15, .inr (.inl fkw))), (v28, .inl (cA 1, 10, .inr (.inl l28))), (v30, .inl (cA 1, 8, .inr (.inl fn183))), (v32, .inl (cA 0, 400, .inl fn182))] H := ⟨hP, hD⟩
                  have hn194 := hn194 (hw.1.trans hr9)
                  have hn195 := hn195 (hw.1.trans hr9)
                  have hn196 := hn196 (hw.1.trans hr9)
                  have hn197 := hn197 (hw.1.trans hr9)
                  have hn198 := hn198 (hw.1.trans hr9)
                  have hn199 := hn199 (hw.1.trans hr9)
                  subst hr9
                  obtain ⟨hP9, hD9⟩ := PDq.sub (ws' := [(oX10 w0 v0 v1 v2 v3 v4 g5 g6 (nI ed) g8 v9 (nI nb) g11 g12 v13 (nI ln) (nI (gP qn171)) (nI (gR (qn171 + 1))) zn172 zn173 zn174 g20 g21 (nI o9) g23 (nI qn179) zn178 zn177 v27 v28 v29 v30 v31 v32 v33 v34 v35 v36 v37 (nI ol)), (v1, .inl (cA 0, 326, .inl fn181)), (v9, .inl (cA 0, 700, .inl fb)), (v13, .inl (cA 1, 15, .inr (.inl fkw))), (v28, .inl (cA 1, 10, .inr (.inl l28))), (v30, .inl (cA 1, 8, .inr (.inl fn183))), (v32, .inl (cA 0, 400, .inl fn182))]) hP hD [0, 1, 2, 3, 4, 5, 6] (by decide) rfl
                  refine W.widen (k := 0) (n := 0) (Nat.le_of_ble_eq_true rfl) (Nat.le_of_ble_eq_true rfl) ?_
                  exact (W.zret (v := 1) hx hb hr (by first | rfl | decide) (fun t ht hW => ⟨⟨1, 1, rfl, ⟨rfl, by decide⟩, qn171, zn172, zn173, zn174, g20, g21, zn177, zn178, qn179, qn180, (nI o9), fn181, fn182, fn183, zn184, hn185, hn186, hn187, hn188, hn189, hn190, hn191, (fun _ => rfl), (fun _ => rfl), (fun _ => rfl), (fun _ => hn194), (fun _ => hn195), (fun _ => hn196), (fun _ => hn197), (fun _ => hn198), (fun _ => hn199), (fun h9 => absurd h9 (by decide)), by rw [ht]; exact hP9, hD9⟩, hS.F ht⟩) hS.2.2 dX10_fact_107)
              · skip
                by_cases hn201 : kw = 13
                · skip
                  refine W.eq (g2 := F0 m 32 ls [.int 13]) (by rw [hn201]) ?_
                  refine lv_tableIn (off := 76) (tgt := 108) hx hb dX10_fact_32 (by decide) (by decide) (by decide) (by decide) ?_
                  refine lv_aload_n hx hb dX10_fact_108 rfl (lv_at hl 0 rfl) ?_
                  refine lv_iconst (v := 4) hx hb dX10_fact_109 (by decide) ?_
                  obtain ⟨hPc, hDc, hFc⟩ := PDq.cut (wc := [(oX10 w0 v0 v1 v2 v3 v4 g5 g6 (nI ed) g8 v9 (nI nb) g11 g12 v13 (nI ln) (nI (gP ti)) (nI (gR (ti + 1))) tk kw g19 g20 g21 (nI o9) g23 (nI cd) g25 g26 v27 v28 v29 v30 v31 v32 v33 v34 v35 v36 v37 (nI ol)), (v1, .inl (cA 0, 326, .inl fp)), (v9, .inl (cA 0, 700, .inl fb)), (v13, .inl (cA 1, 15, .inr (.inl fkw))), (v28, .inl (cA 1, 10, .inr (.inl l28))), (v30, .inl (cA 1, 8, .inr (.inl l30))), (v32, .inl (cA 0, 400, .inl fc))]) hP hD hS hA [5, 0, 6, 1, 2, 3, 4] (by decide) rfl
                  refine va_calli (va_runV (As := [.int 4]) (rest := []) ⟨hx, hb, hml, hown, hts⟩ (y_plainFact4 l D cA sa w0 ed nb ol v0 v1 v2 v3 v4 v9 v13 v27 v28 v29 v30 v31 v32 v33 v34 v35 v36 v37 g8 g11 g12 g19 g20 g21 g23 g26 g5 g6 g25 ln cd tk kw ti ct fb fkw gP gR gS gK gV cn pq en dy fp sl o9 l28 l30 fc ml pl (nI o9) H.size hln hct hti hTX hBY hTK hKW hcn hpq hen hdy hri hcd hNM hNP (TKR.kwd (n := 13) hTK (by decide) c38 hn201)) (cwV 1 hts gX10_fact_X10_plainFact rfl rfl rfl (by decide +kernel) ⟨by show (2) + 1 ≤ 21; omega, by show 8 + (2 + 11) + (44) ≤ 340; omega⟩) ⟨Wd.blind, va_recv hK hPc (ci := 11) (q0 := 0) rfl rfl, fun U hU hW => ⟨rfl, Wd.call hPc hDc hK hC hZ hS hFc U hU hW⟩⟩ rfl rfl hl.1 rfl (lv_room (Nat.le_of_ble_eq_true rfl)) dX10_fact_110 ⟨(Nat.le_of_ble_eq_true rfl), (Nat.le_of_ble_eq_true rfl)⟩) hS (fun q _ h => hFc q h) hFc (fun rn202 u t H1 locs ht hvm hw hB hz1 hk1 hS => ?_)
                  obtain ⟨qn203, zn204, zn205, zn206, zn207, zn208, zn209, zn210, qn211, qn212, fn213, fn214, fn215, zn216, hn217, hn218, hn219, hn220, hn221, hn222, hn223, hn224, hn225, hn226, hn227, hn228, hn229, hn230, hn231, hn232, hP1, hD1⟩ := hB
                  rw [ht] at hP1
                  obtain ⟨hP, hD⟩ := PDq.join (w := [(oX10 w0 v0 v1 v2 v3 v4 g5 g6 (nI ed) g8 v9 (nI nb) g11 g12 v13 (nI ln) (nI (gP qn203)) (nI (gR (qn203 + 1))) zn204 zn205 zn206 zn207 zn208 (nI o9) g23 (nI qn211) zn210 zn209 v27 v28 v29 v30 v31 v32 v33 v34 v35 v36 v37 (nI ol)), (v1, .inl (cA 0, 326, .inl fn213)), (v9, .inl (cA 0, 700, .inl fb)), (v13, .inl (cA 1, 15, .inr (.inl fkw))), (v28, .inl (cA 1, 10, .inr (.inl l28))), (v30, .inl (cA 1, 8, .inr (.inl fn215))), (v32, .inl (cA 0, 400, .inl fn214))]) 0 hP hD [5, 0, 6, 1, 2, 3, 4] [] rfl rfl (by decide) (by decide) hk1 hFc hP1 hD1 rfl
                  generalize H1 = H at hP hS ⊢
                  rcases hw.2 with hr9 | hr9
                  · skip
                    have hn232 := hn232 (hw.1.trans hr9)
                    subst hr9
                    obtain ⟨hP9, hD9⟩ := PDq.sub (ws' := [(oX10 w0 v0 v1 v2 v3 v4 g5 g6 (nI ed) g8 v9 (nI nb) g11 g12 v13 (nI ln) (nI (gP qn203)) (nI (gR (qn203 + 1))) zn204 zn205 zn206 zn207 zn208 (nI o9) g23 (nI qn211) zn210 zn209 v27 v28 v29 v30 v31 v32 v33 v34 v35 v36 v37 (nI ol)), (v1, .inl (cA 0, 326, .inl fn213)), (v9, .inl (cA 0, 700, .inl fb)), (v13, .inl (cA 1, 15, .inr (.inl fkw))), (v28, .inl (cA 1, 10, .inr (.inl l28))), (v30, .inl (cA 1, 8, .inr (.inl fn215))), (v32, .inl (cA 0, 400, .inl fn214))]) hP hD [0, 1, 2, 3, 4, 5, 6] (by decide) rfl
                    refine W.widen (k := 0) (n := 0) (Nat.le_of_ble_eq_true rfl) (Nat.le_of_ble_eq_true rfl) ?_
                    exact (W.zret (v := 0) hx hb hr (by first | rfl | decide) (fun t ht hW => ⟨⟨0, 0, rfl, ⟨rfl, by decide⟩, qn203, zn204, zn205, zn206, zn207, zn208, zn209, zn210, qn211, qn212, (nI o9), fn213, fn214, fn215, zn216, hn217, hn218, hn219, hn220, hn221, hn222, hn223, (fun h9 => absurd h9 (by decide)), (fun h9 => absurd h9 (by decide)), (fun h9 => absurd h9 (by decide)), (fun h9 => absurd h9 (by decide)), (fun h9 => absurd h9 (by decide)), (fun h9 => absurd h9 (by decide)), (fun h9 => absurd h9 (by decide)), (fun h9 => absurd h9 (by decide)), (fun h9 => absurd h9 (by decide)), (fun _ => hn232), by rw [ht]; exact hP9, hD9⟩, hS.F ht⟩) hS.2.2 dX10_fact_113)
                  · skip
                    have hn224 := hn224 (hw.1.trans hr9)
                    obtain rfl : g20 = zn207 := hn224.symm
                    obtain ⟨hP, hD⟩ : PDq D A [(oX10 w0 v0 v1 v2 v3 v4 g5 g6 (nI ed) g8 v9 (nI nb) g11 g12 v13 (nI ln) (nI (gP qn203)) (nI (gR (qn203 + 1))) zn204 zn205 zn206 g20 zn208 (nI o9) g23 (nI qn211) zn210 zn209 v27 v28 v29 v30 v31 v32 v33 v34 v35 v36 v37 (nI ol)), (v1, .inl (cA 0, 326, .inl fn213)), (v9, .inl (cA 0, 700, .inl fb)), (v13, .inl (cA 1, 15, .inr (.inl fkw))), (v28, .inl (cA 1, 10, .inr (.inl l28))), (v30, .inl (cA 1, 8, .inr (.inl fn215))), (v32, .inl (cA 0, 400, .inl fn214))] H := ⟨hP, hD⟩
                    have hn225 := hn225 (hw.1.trans hr9)
                    obtain rfl : g21 = zn208 := hn225.symm
                    obtain ⟨hP, hD⟩ : PDq D A [(oX10 w0 v0 v1 v2 v3 v4 g5 g6 (nI ed) g8 v9 (nI nb) g11 g12 v13 (nI ln) (nI (gP qn203)) (nI (gR (qn203 + 1))) zn204 zn205 zn206 g20 g21 (nI o9) g23 (nI qn211) zn210 zn209 v27 v28 v29 v30 v31 v32 v33 v34 v35 v36 v37 (nI ol)), (v1, .inl (cA 0, 326, .inl fn213)), (v9, .inl (cA 0, 700, .inl fb)), (v13, .inl (cA 1, 15, .inr (.inl fkw))), (v28, .inl (cA 1, 10, .inr (.inl l28))), (v30, .inl (cA 1, 8, .inr (.inl fn215))), (v32, .inl (cA 0, 400, .inl fn214))] H := ⟨hP, hD⟩
                    have hn226 := hn226 (hw.1.trans hr9)
                    have hn227 := hn227 (hw.1.trans hr9)
                    have hn228 := hn228 (hw.1.trans hr9)
                    have hn229 := hn229 (hw.1.trans hr9)
                    have hn230 := hn230 (hw.1.trans hr9)
                    have hn231 := hn231 (hw.1.trans hr9)
                    subst hr9
                    obtain ⟨hP9, hD9⟩ := PDq.sub (ws' := [(oX10 w0 v0 v1 v2 v3 v4 g5 g6 (nI ed) g8 v9 (nI nb) g11 g12 v13 (nI ln) (nI (gP qn203)) (nI (gR (qn203 + 1))) zn204 zn205 zn206 g20 g21 (nI o9) g23 (nI qn211) zn210 zn209 v27 v28 v29 v30 v31 v32 v33 v34 v35 v36 v37 (nI ol)), (v1, .inl (cA 0, 326, .inl fn213)), (v9, .inl (cA 0, 700, .inl fb)), (v13, .inl (cA 1, 15, .inr (.inl fkw))), (v28, .inl (cA 1, 10, .inr (.inl l28))), (v30, .inl (cA 1, 8, .inr (.inl fn215))), (v32, .inl (cA 0, 400, .inl fn214))]) hP hD [0, 1, 2, 3, 4, 5, 6] (by decide) rfl
                    refine W.widen (k := 0) (n := 0) (Nat.le_of_ble_eq_true rfl) (Nat.le_of_ble_eq_true rfl) ?_
                    exact (W.zret (v := 1) hx hb hr (by first | rfl | decide) (fun t ht hW => ⟨⟨1, 1, rfl, ⟨rfl, by decide⟩, qn203, zn204, zn205, zn206, g20, g21, zn209, zn210, qn211, qn212, (nI o9), fn213, fn214, fn215, zn216, hn217, hn218, hn219, hn220, hn221, hn222, hn223, (fun _ => rfl), (fun _ => rfl), (fun _ => rfl), (fun _ => hn226), (fun _ => hn227), (fun _ => hn228), (fun _ => hn229), (fun _ => hn230), (fun _ => hn231), (fun h9 => absurd h9 (by decide)), by rw [ht]; exact hP9, hD9⟩, hS.F ht⟩) hS.2.2 dX10_fact_113)
                · skip
                  by_cases hn233 : kw = 14
                  · skip
                    refine W.eq (g2 := F0 m 32 ls [.int 14]) (by rw [hn233]) ?_
                    refine lv_tableIn (off := 82) (tgt := 114) hx hb dX10_fact_32 (by decide) (by decide) (by decide) (by decide) ?_
                    refine lv_aload_n hx hb dX10_fact_114 rfl (lv_at hl 0 rfl) ?_
                    refine lv_iconst (v := 5) hx hb dX10_fact_115 (by decide) ?_
                    obtain ⟨hPc, hDc, hFc⟩ := PDq.cut (wc := [(oX10 w0 v0 v1 v2 v3 v4 g5 g6 (nI ed) g8 v9 (nI nb) g11 g12 v13 (nI ln) (nI (gP ti)) (nI (gR (ti + 1))) tk kw g19 g20 g21 (nI o9) g23 (nI cd) g25 g26 v27 v28 v29 v30 v31 v32 v33 v34 v35 v36 v37 (nI ol)), (v1, .inl (cA 0, 326, .inl fp)), (v9, .inl (cA 0, 700, .inl fb)), (v13, .inl (cA 1, 15, .inr (.inl fkw))), (v28, .inl (cA 1, 10, .inr (.inl l28))), (v30, .inl (cA 1, 8, .inr (.inl l30))), (v32, .inl (cA 0, 400, .inl fc))]) hP hD hS hA [5, 0, 6, 1, 2, 3, 4] (by decide) rfl
                    refine va_calli (va_runV (As := [.int 5]) (rest := []) ⟨hx, hb, hml, hown, hts⟩ (y_plainFact5 l D cA sa w0 ed nb ol v0 v1 v2 v3 v4 v9 v13 v27 v28 v29 v30 v31 v32 v33 v34 v35 v36 v37 g8 g11 g12 g19 g20 g21 g23 g26 g5 g6 g25 ln cd tk kw ti ct fb fkw gP gR gS gK gV cn pq en dy fp sl o9 l28 l30 fc ml pl (nI o9) H.size hln hct hti hTX hBY hTK hKW hcn hpq hen hdy hri hcd hNM hNP (TKR.kwd (n := 14) hTK (by decide) c38 hn233)) (cwV 1 hts gX10_fact_X10_plainFact rfl rfl rfl (by decide +kernel) ⟨by show (2) + 1 ≤ 21; omega, by show 8 + (2 + 11) + (44) ≤ 340; omega⟩) ⟨Wd.blind, va_recv hK hPc (ci := 11) (q0 := 0) rfl rfl, fun U hU hW => ⟨rfl, Wd.call hPc hDc hK hC hZ hS hFc U hU hW⟩⟩ rfl rfl hl.1 rfl (lv_room (Nat.le_of_ble_eq_true rfl)) dX10_fact_116 ⟨(Nat.le_of_ble_eq_true rfl), (Nat.le_of_ble_eq_true rfl)⟩) hS (fun q _ h => hFc q h) hFc (fun rn234 u t H1 locs ht hvm hw hB hz1 hk1 hS => ?_)
                    obtain ⟨qn235, zn236, zn237, zn238, zn239, zn240, zn241, zn242, qn243, qn244, fn245, fn246, fn247, zn248, hn249, hn250, hn251, hn252, hn253, hn254, hn255, hn256, hn257, hn258, hn259, hn260, hn261, hn262, hn263, hn264, hP1, hD1⟩ := hB
                    rw [ht] at hP1
                    obtain ⟨hP, hD⟩ := PDq.join (w := [(oX10 w0 v0 v1 v2 v3 v4 g5 g6 (nI ed) g8 v9 (nI nb) g11 g12 v13 (nI ln) (nI (gP qn235)) (nI (gR (qn235 + 1))) zn236 zn237 zn238 zn239 zn240 (nI o9) g23 (nI qn243) zn242 zn241 v27 v28 v29 v30 v31 v32 v33 v34 v35 v36 v37 (nI ol)), (v1, .inl (cA 0, 326, .inl fn245)), (v9, .inl (cA 0, 700, .inl fb)), (v13, .inl (cA 1, 15, .inr (.inl fkw))), (v28, .inl (cA 1, 10, .inr (.inl l28))), (v30, .inl (cA 1, 8, .inr (.inl fn247))), (v32, .inl (cA 0, 400, .inl fn246))]) 0 hP hD [5, 0, 6, 1, 2, 3, 4] [] rfl rfl (by decide) (by decide) hk1 hFc hP1 hD1 rfl
                    generalize H1 = H at hP hS ⊢
                    rcases hw.2 with hr9 | hr9
                    · skip
                      have hn264 := hn264 (hw.1.trans hr9)
                      subst hr9
                      obtain ⟨hP9, hD9⟩ := PDq.sub (ws' := [(oX10 w0 v0 v1 v2 v3 v4 g5 g6 (nI ed) g8 v9 (nI nb) g11 g12 v13 (nI ln) (nI (gP qn235)) (nI (gR (qn235 + 1))) zn236 zn237 zn238 zn239 zn240 (nI o9) g23 (nI qn243) zn242 zn241 v27 v28 v29 v30 v31 v32 v33 v34 v35 v36 v37 (nI ol)), (v1, .inl (cA 0, 326, .inl fn245)), (v9, .inl (cA 0, 700, .inl fb)), (v13, .inl (cA 1, 15, .inr (.inl fkw))), (v28, .inl (cA 1, 10, .inr (.inl l28))), (v30, .inl (cA 1, 8, .inr (.inl fn247))), (v32, .inl (cA 0, 400, .inl fn246))]) hP hD [0, 1, 2, 3, 4, 5, 6] (by decide) rfl
                      refine W.widen (k := 0) (n := 0) (Nat.le_of_ble_eq_true rfl) (Nat.le_of_ble_eq_true rfl) ?_
                      exact (W.zret (v := 0) hx hb hr (by first | rfl | decide) (fun t ht hW => ⟨⟨0, 0, rfl, ⟨rfl, by decide⟩, qn235, zn236, zn237, zn238, zn239, zn240, zn241, zn242, qn243, qn244, (nI o9), fn245, fn246, fn247, zn248, hn249, hn250, hn251, hn252, hn253, hn254, hn255, (fun h9 => absurd h9 (by decide)), (fun h9 => absurd h9 (by decide)), (fun h9 => absurd h9 (by decide)), (fun h9 => absurd h9 (by decide)), (fun h9 => absurd h9 (by decide)), (fun h9 => absurd h9 (by decide)), (fun h9 => absurd h9 (by decide)), (fun h9 => absurd h9 (by decide)), (fun h9 => absurd h9 (by decide)), (fun _ => hn264), by rw [ht]; exact hP9, hD9⟩, hS.F ht⟩) hS.2.2 dX10_fact_119)
                    · skip
                      have hn256 := hn256 (hw.1.trans hr9)
                      obtain rfl : g20 = zn239 := hn256.symm
                      obtain ⟨hP, hD⟩ : PDq D A [(oX10 w0 v0 v1 v2 v3 v4 g5 g6 (nI ed) g8 v9 (nI nb) g11 g12 v13 (nI ln) (nI (gP qn235)) (nI (gR (qn235 + 1))) zn236 zn237 zn238 g20 zn240 (nI o9) g23 (nI qn243) zn242 zn241 v27 v28 v29 v30 v31 v32 v33 v34 v35 v36 v37 (nI ol)), (v1, .inl (cA 0, 326, .inl fn245)), (v9, .inl (cA 0, 700, .inl fb)), (v13, .inl (cA 1, 15, .inr (.inl fkw))), (v28, .inl (cA 1, 10, .inr (.inl l28))), (v30, .inl (cA 1, 8, .inr (.inl fn247))), (v32, .inl (cA 0, 400, .inl fn246))] H := ⟨hP, hD⟩
                      have hn257 := hn257 (hw.1.trans hr9)
                      obtain rfl : g21 = zn240 := hn257.symm
                      obtain ⟨hP, hD⟩ : PDq D A [(oX10 w0 v0 v1 v2 v3 v4 g5 g6 (nI ed) g8 v9 (nI nb) g11 g12 v13 (nI ln) (nI (gP qn235)) (nI (gR (qn235 + 1))) zn236 zn237 zn238 g20 g21 (nI o9) g23 (nI qn243) zn242 zn241 v27 v28 v29 v30 v31 v32 v33 v34 v35 v36 v37 (nI ol)), (v1, .inl (cA 0, 326, .inl fn245)), (v9, .inl (cA 0, 700, .inl fb)), (v13, .inl (cA 1, 15, .inr (.inl fkw))), (v28, .inl (cA 1, 10, .inr (.inl l28))), (v30, .inl (cA 1, 8, .inr (.inl fn247))), (v32, .inl (cA 0, 400, .inl fn246))] H := ⟨hP, hD⟩
                      have hn258 := hn258 (hw.1.trans hr9)
                      have hn259 := hn259 (hw.1.trans hr9)
                      have hn260 := hn260 (hw.1.trans hr9)
                      have hn261 := hn261 (hw.1.trans hr9)
                      have hn262 := hn262 (hw.1.trans hr9)
                      have hn263 := hn263 (hw.1.trans hr9)
                      subst hr9
                      obtain ⟨hP9, hD9⟩ := PDq.sub (ws' := [(oX10 w0 v0 v1 v2 v3 v4 g5 g6 (nI ed) g8 v9 (nI nb) g11 g12 v13 (nI ln) (nI (gP qn235)) (nI (gR (qn235 + 1))) zn236 zn237 zn238 g20 g21 (nI o9) g23 (nI qn243) zn242 zn241 v27 v28 v29 v30 v31 v32 v33 v34 v35 v36 v37 (nI ol)), (v1, .inl (cA 0, 326, .inl fn245)), (v9, .inl (cA 0, 700, .inl fb)), (v13, .inl (cA 1, 15, .inr (.inl fkw))), (v28, .inl (cA 1, 10, .inr (.inl l28))), (v30, .inl (cA 1, 8, .inr (.inl fn247))), (v32, .inl (cA 0, 400, .inl fn246))]) hP hD [0, 1, 2, 3, 4, 5, 6] (by decide) rfl
                      refine W.widen (k := 0) (n := 0) (Nat.le_of_ble_eq_true rfl) (Nat.le_of_ble_eq_true rfl) ?_
                      exact (W.zret (v := 1) hx hb hr (by first | rfl | decide) (fun t ht hW => ⟨⟨1, 1, rfl, ⟨rfl, by decide⟩, qn235, zn236, zn237, zn238, g20, g21, zn241, zn242, qn243, qn244, (nI o9), fn245, fn246, fn247, zn248, hn249, hn250, hn251, hn252, hn253, hn254, hn255, (fun _ => rfl), (fun _ => rfl), (fun _ => rfl), (fun _ => hn258), (fun _ => hn259), (fun _ => hn260), (fun _ => hn261), (fun _ => hn262), (fun _ => hn263), (fun h9 => absurd h9 (by decide)), by rw [ht]; exact hP9, hD9⟩, hS.F ht⟩) hS.2.2 dX10_fact_119)
                  · skip
                    refine lv_tableOut (tgt := 120) hx hb dX10_fact_32 (by have q0 : ¬ (kw).toInt = 8 := fun e9 => hn39 (Int32.toInt_inj.mp (e9.trans (by decide))); have q1 : ¬ (kw).toInt = 9 := fun e9 => hn73 (Int32.toInt_inj.mp (e9.trans (by decide))); have q2 : ¬ (kw).toInt = 10 := fun e9 => hn105 (Int32.toInt_inj.mp (e9.trans (by decide))); have q3 : ¬ (kw).toInt = 11 := fun e9 => hn137 (Int32.toInt_inj.mp (e9.trans (by decide))); have q4 : ¬ (kw).toInt = 12 := fun e9 => hn169 (Int32.toInt_inj.mp (e9.trans (by decide))); have q5 : ¬ (kw).toInt = 13 := fun e9 => hn201 (Int32.toInt_inj.mp (e9.trans (by decide))); have q6 : ¬ (kw).toInt = 14 := fun e9 => hn233 (Int32.toInt_inj.mp (e9.trans (by decide))); omega) (by decide) ?_
                    refine lv_aload_n hx hb dX10_fact_120 rfl (lv_at hl 0 rfl) ?_
                    refine lv_iconst (v := 2) hx hb dX10_fact_121 (by decide) ?_
                    obtain ⟨hPc, hDc, hFc⟩ := PDq.cut (wc := [(oX10 w0 v0 v1 v2 v3 v4 g5 g6 (nI ed) g8 v9 (nI nb) g11 g12 v13 (nI ln) (nI (gP ti)) (nI (gR (ti + 1))) tk kw g19 g20 g21 (nI o9) g23 (nI cd) g25 g26 v27 v28 v29 v30 v31 v32 v33 v34 v35 v36 v37 (nI ol))]) hP hD hS hA [5] (by decide) rfl
                    refine va_calli (va_runV (As := [.int 2]) (rest := []) ⟨hx, hb, hml, hown, hts⟩ (y_fail l D cA sa w0 ed nb ol v0 v1 v2 v3 v4 v9 v13 v27 v28 v29 v30 v31 v32 v33 v34 v35 v36 v37 g8 g11 g12 g19 g20 g21 (nI o9) g23 g26 g5 g6 g25 ln cd tk kw ti ct fb gP gR gS gK gV 2 H.size hln hct hti hTX hBY hTK) (cwV 1 hts gX10_fact_X10_fail rfl rfl rfl (by decide +kernel) ⟨by show (0) + 1 ≤ 21; omega, by show 8 + (2 + 11) + (0) ≤ 340; omega⟩) ⟨Wd.blind, va_recv hK hPc (ci := 11) (q0 := 0) rfl rfl, fun U hU hW => ⟨rfl, Wd.call hPc hDc hK hC hZ hS hFc U hU hW⟩⟩ rfl rfl hl.1 rfl (lv_room (Nat.le_of_ble_eq_true rfl)) dX10_fact_122 ⟨(Nat.le_of_ble_eq_true rfl), (Nat.le_of_ble_eq_true rfl)⟩) hS (fun q _ h => hFc q h) hFc (fun rn265 u t H1 locs ht hvm hw hB hz1 hk1 hS => ?_)
                    obtain ⟨zn266, hn267, hP1, hD1⟩ := hB
                    rw [ht] at hP1
                    obtain ⟨hP, hD⟩ := PDq.join (w := [(v1, .inl (cA 0, 326, .inl fp)), (v13, .inl (cA 1, 15, .inr (.inl fkw))), (v28, .inl (cA 1, 10, .inr (.inl l28))), (v30, .inl (cA 1, 8, .inr (.inl l30))), (v32, .inl (cA 0, 400, .inl fc)), (v9, .inl (cA 0, 700, .inl fb)), (oX10 w0 v0 v1 v2 v3 v4 g5 g6 (nI ed) g8 v9 (nI nb) g11 g12 v13 (nI ln) (nI (gP ti)) (nI (gR (ti + 1))) tk kw g19 zn266 (nI (gP ti)) (nI o9) g23 (nI cd) g25 g26 v27 v28 v29 v30 v31 v32 v33 v34 v35 v36 v37 (nI ol))]) 6 hP hD [5] [0, 1, 2, 3, 4, 6] rfl rfl (by decide) (by decide) hk1 hFc hP1 hD1 rfl
                    generalize H1 = H at hP hS ⊢
                    obtain rfl : rn265 = 0 := hw
                    obtain ⟨hP9, hD9⟩ := PDq.sub (ws' := [(oX10 w0 v0 v1 v2 v3 v4 g5 g6 (nI ed) g8 v9 (nI nb) g11 g12 v13 (nI ln) (nI (gP ti)) (nI (gR (ti + 1))) tk kw g19 zn266 (nI (gP ti)) (nI o9) g23 (nI cd) g25 g26 v27 v28 v29 v30 v31 v32 v33 v34 v35 v36 v37 (nI ol)), (v1, .inl (cA 0, 326, .inl fp)), (v9, .inl (cA 0, 700, .inl fb)), (v13, .inl (cA 1, 15, .inr (.inl fkw))), (v28, .inl (cA 1, 10, .inr (.inl l28))), (v30, .inl (cA 1, 8, .inr (.inl l30))), (v32, .inl (cA 0, 400, .inl fc))]) hP hD [6, 0, 5, 1, 2, 3, 4] (by decide) rfl
                    refine W.widen (k := 0) (n := 0) (Nat.le_of_ble_eq_true rfl) (Nat.le_of_ble_eq_true rfl) ?_
                    exact (W.zret (v := 0) hx hb hr (by first | rfl | decide) (fun t ht hW => ⟨⟨0, 0, rfl, ⟨rfl, by decide⟩, ti, tk, kw, g19, zn266, (nI (gP ti)), g26, g25, cd, pq, (nI o9), fp, fc, l30, pl, hti, (by omega), (by omega), hTK, hpq, hri, hNP, (fun h9 => absurd h9 (by decide)), (fun h9 => absurd h9 (by decide)), (fun h9 => absurd h9 (by decide)), (fun h9 => absurd h9 (by decide)), (fun h9 => absurd h9 (by decide)), (fun h9 => absurd h9 (by decide)), (fun h9 => absurd h9 (by decide)), (fun h9 => absurd h9 (by decide)), (fun h9 => absurd h9 (by decide)), (fun _ => (P_nonex hn2 (TKR.nsw hTK 8 14 (by decide) (fun n9 a9 b9 => by rcases (show n9 = 8 ∨ n9 = 9 ∨ n9 = 10 ∨ n9 = 11 ∨ n9 = 12 ∨ n9 = 13 ∨ n9 = 14 by omega) with rfl | rfl | rfl | rfl | rfl | rfl | rfl; exact hn39; exact hn73; exact hn105; exact hn137; exact hn169; exact hn201; exact hn233)) hn267 (TX.s hTX (show ti < ct by omega)))), by rw [ht]; exact hP9, hD9⟩, hS.F ht⟩) hS.2.2 dX10_fact_125)
    · skip
      refine lv_aload_n hx hb dX10_fact_22 rfl (lv_at hl 0 rfl) ?_
      refine lv_iconst (v := 2) hx hb dX10_fact_23 (by decide) ?_
      obtain ⟨hPc, hDc, hFc⟩ := PDq.cut (wc := [(oX10 w0 v0 v1 v2 v3 v4 g5 g6 (nI ed) g8 v9 (nI nb) g11 g12 v13 (nI ln) (nI (gP ti)) (nI (gR (ti + 1))) tk kw g19 g20 g21 (nI o9) g23 (nI cd) g25 g26 v27 v28 v29 v30 v31 v32 v33 v34 v35 v36 v37 (nI ol))]) hP hD hS hA [5] (by decide) rfl
      refine va_calli (va_runV (As := [.int 2]) (rest := []) ⟨hx, hb, hml, hown, hts⟩ (y_fail l D cA sa w0 ed nb ol v0 v1 v2 v3 v4 v9 v13 v27 v28 v29 v30 v31 v32 v33 v34 v35 v36 v37 g8 g11 g12 g19 g20 g21 (nI o9) g23 g26 g5 g6 g25 ln cd tk kw ti ct fb gP gR gS gK gV 2 H.size hln hct hti hTX hBY hTK) (cwV 1 hts gX10_fact_X10_fail rfl rfl rfl (by decide +kernel) ⟨by show (0) + 1 ≤ 21; omega, by show 8 + (2 + 11) + (0) ≤ 340; omega⟩) ⟨Wd.blind, va_recv hK hPc (ci := 11) (q0 := 0) rfl rfl, fun U hU hW => ⟨rfl, Wd.call hPc hDc hK hC hZ hS hFc U hU hW⟩⟩ rfl rfl hl.1 rfl (lv_room (Nat.le_of_ble_eq_true rfl)) dX10_fact_24 ⟨(Nat.le_of_ble_eq_true rfl), (Nat.le_of_ble_eq_true rfl)⟩) hS (fun q _ h => hFc q h) hFc (fun rn268 u t H1 locs ht hvm hw hB hz1 hk1 hS => ?_)
      obtain ⟨zn269, hn270, hP1, hD1⟩ := hB
      rw [ht] at hP1
      obtain ⟨hP, hD⟩ := PDq.join (w := [(v1, .inl (cA 0, 326, .inl fp)), (v13, .inl (cA 1, 15, .inr (.inl fkw))), (v28, .inl (cA 1, 10, .inr (.inl l28))), (v30, .inl (cA 1, 8, .inr (.inl l30))), (v32, .inl (cA 0, 400, .inl fc)), (v9, .inl (cA 0, 700, .inl fb)), (oX10 w0 v0 v1 v2 v3 v4 g5 g6 (nI ed) g8 v9 (nI nb) g11 g12 v13 (nI ln) (nI (gP ti)) (nI (gR (ti + 1))) tk kw g19 zn269 (nI (gP ti)) (nI o9) g23 (nI cd) g25 g26 v27 v28 v29 v30 v31 v32 v33 v34 v35 v36 v37 (nI ol))]) 6 hP hD [5] [0, 1, 2, 3, 4, 6] rfl rfl (by decide) (by decide) hk1 hFc hP1 hD1 rfl
      generalize H1 = H at hP hS ⊢
      obtain rfl : rn268 = 0 := hw
      obtain ⟨hP9, hD9⟩ := PDq.sub (ws' := [(oX10 w0 v0 v1 v2 v3 v4 g5 g6 (nI ed) g8 v9 (nI nb) g11 g12 v13 (nI ln) (nI (gP ti)) (nI (gR (ti + 1))) tk kw g19 zn269 (nI (gP ti)) (nI o9) g23 (nI cd) g25 g26 v27 v28 v29 v30 v31 v32 v33 v34 v35 v36 v37 (nI ol)), (v1, .inl (cA 0, 326, .inl fp)), (v9, .inl (cA 0, 700, .inl fb)), (v13, .inl (cA 1, 15, .inr (.inl fkw))), (v28, .inl (cA 1, 10, .inr (.inl l28))), (v30, .inl (cA 1, 8, .inr (.inl l30))), (v32, .inl (cA 0, 400, .inl fc))]) hP hD [6, 0, 5, 1, 2, 3, 4] (by decide) rfl
      refine W.widen (k := 0) (n := 0) (Nat.le_of_ble_eq_true rfl) (Nat.le_of_ble_eq_true rfl) ?_
      exact (W.zret (v := 0) hx hb hr (by first | rfl | decide) (fun t ht hW => ⟨⟨0, 0, rfl, ⟨rfl, by decide⟩, ti, tk, kw, g19, zn269, (nI (gP ti)), g26, g25, cd, pq, (nI o9), fp, fc, l30, pl, hti, (by omega), (by omega), hTK, hpq, hri, hNP, (fun h9 => absurd h9 (by decide)), (fun h9 => absurd h9 (by decide)), (fun h9 => absurd h9 (by decide)), (fun h9 => absurd h9 (by decide)), (fun h9 => absurd h9 (by decide)), (fun h9 => absurd h9 (by decide)), (fun h9 => absurd h9 (by decide)), (fun h9 => absurd h9 (by decide)), (fun h9 => absurd h9 (by decide)), (fun _ => (P_nonex hn2 (TKR.n2 hTK c38 16 22 (by decide)) hn270 (TX.s hTX (show ti < ct by omega)))), by rw [ht]; exact hP9, hD9⟩, hS.F ht⟩) hS.2.2 dX10_fact_27)

set_option maxHeartbeats 4000000 in
set_option maxRecDepth 100000 in
/-- reference: both -/
theorem y_both_B (l : Launch) (D : va_G) (cA : Nat → ClassId) (sa : Nat → Nat) (w0 : Nat) (ed : Nat) (nb : Nat) (ol : Nat) (v0 : Nat) (v1 : Nat) (v2 : Nat) (v3 : Nat) (v4 : Nat) (v9 : Nat) (v13 : Nat) (v27 : Nat) (v28 : Nat) (v29 : Nat) (v30 : Nat) (v31 : Nat) (v32 : Nat) (v33 : Nat) (v34 : Nat) (v35 : Nat) (v36 : Nat) (v37 : Nat) (g8 : Int32) (g11 : Int32) (g12 : Int32) (g19 : Int32) (g20 : Int32) (g21 : Int32) (g23 : Int32) (g26 : Int32) (g5 : Int64) (g6 : Int64) (g25 : Int64) (ln : Nat) (cd : Nat) (tk : Int32) (kw : Int32) (ti : Nat) (ct : Nat) (fb : Nat → Int32) (fkw : Nat → Int64) (gP : Nat → Nat) (gR : Nat → Nat) (gS : Nat → Int32) (gK : Nat → Int32) (gV : Nat → Int64) (cn : Nat) (pq : Nat) (en : Nat) (dy : Nat) (fp : Nat → Int32) (sl : Nat) (o9 : Nat) (l28 : Nat → Int64) (l30 : Nat → Int64) (fc : Nat → Int32) (ml : List Int64) (pl : List Int64) (sz : Nat) (hln : ln ≤ 700) (hct : ct ≤ 701) (hti : ti < ct) (hTX : TX fb ln ct gP gR gS gV gK) (hBY : BYn ln fb) (hTK : TKR (gK ti) (gV ti) (fb (gP ti)) tk kw g19 g25) (hKW : KW 15 fkw) (hcn : cn ≤ 10) (hpq : pq ≤ 8) (hen : en ≤ 60) (hdy : dy ≤ 20000) (hri : RI cn pq en dy fp) (hcd : 2 * cd + sl ≤ gP ti) (hNM : NL ml cn l28) (hNP : NL pl pq l30) (ho : o9 = 8) : Met l yX10_both wsX10_both ({ frames := 22, cells := 0, slots := 0, locals := 360 }) (va_Pc [.ref w0] (Wd D cA sa [(oX10 w0 v0 v1 v2 v3 v4 g5 g6 (nI ed) g8 v9 (nI nb) g11 g12 v13 (nI ln) (nI (gP ti)) (nI (gR (ti + 1))) tk kw g19 g20 g21 (nI o9) g23 (nI cd) g25 g26 v27 v28 v29 v30 v31 v32 v33 v34 v35 v36 v37 (nI ol)), (v1, .inl (cA 0, 326, .inl fp)), (v9, .inl (cA 0, 700, .inl fb)), (v13, .inl (cA 1, 15, .inr (.inl fkw))), (v28, .inl (cA 1, 10, .inr (.inl l28))), (v30, .inl (cA 1, 8, .inr (.inl l30))), (v32, .inl (cA 0, 400, .inl fc))] sz)) (va_Qi (fun (r : Int32) (u9 : Int32) => u9 = r ∧ (r = 0 ∨ r = 1)) (fun (u9 : Int32) t => ∃ tj : Nat, ∃ z17 : Int32, ∃ z18 : Int32, ∃ z19 : Int32, ∃ z20 : Int32, ∃ z21 : Int32, ∃ z26 : Int32, ∃ z25 : Int64, ∃ cd2 : Nat, ∃ pq2 : Nat, ∃ zop : Int32, ∃ zp : Nat → Int32, ∃ zc : Nat → Int32, ∃ zl : Nat → Int64, ∃ zpl : List Int64, tj < ct ∧ gP tj ≤ ln ∧ ti ≤ tj ∧ TKR (gK tj) (gV tj) (fb (gP tj)) z17 z18 z19 z25 ∧ pq2 ≤ 8 ∧ RI cn pq2 en dy zp ∧ NL zpl pq2 zl ∧ (u9 = 1 → zop = (nI o9)) ∧ (u9 = 1 → z20 = g20) ∧ (u9 = 1 → z21 = g21) ∧ (u9 = 1 → ti + 1 ≤ tj) ∧ (u9 = 1 → cd ≤ cd2) ∧ (u9 = 1 → 2 * cd2 + sl ≤ gP tj) ∧ (u9 = 1 → Kp cd fc zc) ∧ (u9 = 1 → Sg cd cd2 zc) ∧ (u9 = 1 → PRx gK gS gV ml 1 o9 ti pl (.inr (tj, zpl))) ∧ (u9 = 0 → PRx gK gS gV ml 1 o9 ti pl (.inl (z20, z21))) ∧ Wq D (va_A [(oX10 w0 v0 v1 v2 v3 v4 g5 g6 (nI ed) g8 v9 (nI nb) g11 g12 v13 (nI ln) (nI (gP ti)) (nI (gR (ti + 1))) tk kw g19 g20 g21 (nI o9) g23 (nI cd) g25 g26 v27 v28 v29 v30 v31 v32 v33 v34 v35 v36 v37 (nI ol)), (v1, .inl (cA 0, 326, .inl fp)), (v9, .inl (cA 0, 700, .inl fb)), (v13, .inl (cA 1, 15, .inr (.inl fkw))), (v28, .inl (cA 1, 10, .inr (.inl l28))), (v30, .inl (cA 1, 8, .inr (.inl l30))), (v32, .inl (cA 0, 400, .inl fc))] sz) [(oX10 w0 v0 v1 v2 v3 v4 g5 g6 (nI ed) g8 v9 (nI nb) g11 g12 v13 (nI ln) (nI (gP tj)) (nI (gR (tj + 1))) z17 z18 z19 z20 z21 zop g23 (nI cd2) z25 z26 v27 v28 v29 v30 v31 v32 v33 v34 v35 v36 v37 (nI ol)), (v1, .inl (cA 0, 326, .inl zp)), (v9, .inl (cA 0, 700, .inl fb)), (v13, .inl (cA 1, 15, .inr (.inl fkw))), (v28, .inl (cA 1, 10, .inr (.inl l28))), (v30, .inl (cA 1, 8, .inr (.inl zl))), (v32, .inl (cA 0, 400, .inl zc))] t) (va_A [(oX10 w0 v0 v1 v2 v3 v4 g5 g6 (nI ed) g8 v9 (nI nb) g11 g12 v13 (nI ln) (nI (gP ti)) (nI (gR (ti + 1))) tk kw g19 g20 g21 (nI o9) g23 (nI cd) g25 g26 v27 v28 v29 v30 v31 v32 v33 v34 v35 v36 v37 (nI ol)), (v1, .inl (cA 0, 326, .inl fp)), (v9, .inl (cA 0, 700, .inl fb)), (v13, .inl (cA 1, 15, .inr (.inl fkw))), (v28, .inl (cA 1, 10, .inr (.inl l28))), (v30, .inl (cA 1, 8, .inr (.inl l30))), (v32, .inl (cA 0, 400, .inl fc))] sz)) 0 0 (va_A [(oX10 w0 v0 v1 v2 v3 v4 g5 g6 (nI ed) g8 v9 (nI nb) g11 g12 v13 (nI ln) (nI (gP ti)) (nI (gR (ti + 1))) tk kw g19 g20 g21 (nI o9) g23 (nI cd) g25 g26 v27 v28 v29 v30 v31 v32 v33 v34 v35 v36 v37 (nI ol)), (v1, .inl (cA 0, 326, .inl fp)), (v9, .inl (cA 0, 700, .inl fb)), (v13, .inl (cA 1, 15, .inr (.inl fkw))), (v28, .inl (cA 1, 10, .inr (.inl l28))), (v30, .inl (cA 1, 8, .inr (.inl l30))), (v32, .inl (cA 0, 400, .inl fc))] sz) := by
  refine Met.ofW (cc := cX10_both) (maxL := 1) (ret := (some .boolean)) (by decide) rfl ?_
  intro p e s m args below meth c s₁ B hml hv
  obtain ⟨rfl, hsz, hP, hK, hD0, hC, hZ⟩ := hv
  have hx := B.exec
  have hb := B.bytes
  have hr := B.returns
  have hts := atoms_spec (ws := wsX10_both) B.pre
  have hown : s.vm.findClass RX10 = some m.cls := findClass_of_methodNamed B.named
  have hlocks := B.notSynchronized
  subst hsz
  have hD := hD0.self (sz := s.heap.size)
  generalize hAe : va_A [(oX10 w0 v0 v1 v2 v3 v4 g5 g6 (nI ed) g8 v9 (nI nb) g11 g12 v13 (nI ln) (nI (gP ti)) (nI (gR (ti + 1))) tk kw g19 g20 g21 (nI o9) g23 (nI cd) g25 g26 v27 v28 v29 v30 v31 v32 v33 v34 v35 v36 v37 (nI ol)), (v1, .inl (cA 0, 326, .inl fp)), (v9, .inl (cA 0, 700, .inl fb)), (v13, .inl (cA 1, 15, .inr (.inl fkw))), (v28, .inl (cA 1, 10, .inr (.inl l28))), (v30, .inl (cA 1, 8, .inr (.inl l30))), (v32, .inl (cA 0, 400, .inl fc))] s.heap.size = A at hD hZ ⊢
  have hA : ∀ q : Nat, s.heap.size ≤ q → A q := fun q h => by rw [← hAe]; exact Or.inr h
  have hS : va_S A s.heap s.heap [] := va_S.rf
  have hP : va_P D vwCl [(oX10 w0 v0 v1 v2 v3 v4 g5 g6 (nI ed) g8 v9 (nI nb) g11 g12 v13 (nI ln) (nI (gP ti)) (nI (gR (ti + 1))) tk kw g19 g20 g21 (nI o9) g23 (nI cd) g25 g26 v27 v28 v29 v30 v31 v32 v33 v34 v35 v36 v37 (nI ol)), (v1, .inl (cA 0, 326, .inl fp)), (v9, .inl (cA 0, 700, .inl fb)), (v13, .inl (cA 1, 15, .inr (.inl fkw))), (v28, .inl (cA 1, 10, .inr (.inl l28))), (v30, .inl (cA 1, 8, .inr (.inl l30))), (v32, .inl (cA 0, 400, .inl fc))] s.heap := hP
  have hl := lv_entry ([.ref w0]) (n := 1) (Nat.le_of_ble_eq_true rfl)
  rw [lg_entry_eq]
  generalize (lg_sl ([.ref w0]) ++ List.replicate (1 - (lg_sl ([.ref w0])).length) Slot.unset).toArray = ls at hl ⊢
  have hl : lv_has ls 1 [(0, .ref w0)] := hl
  have hle9 := TX.le hTX hti
  refine lv_aload_n hx hb dX10_both_0 rfl (lv_at hl 0 rfl) ?_
  obtain ⟨hPc, hDc, hFc⟩ := PDq.cut (wc := [(oX10 w0 v0 v1 v2 v3 v4 g5 g6 (nI ed) g8 v9 (nI nb) g11 g12 v13 (nI ln) (nI (gP ti)) (nI (gR (ti + 1))) tk kw g19 g20 g21 (nI o9) g23 (nI cd) g25 g26 v27 v28 v29 v30 v31 v32 v33 v34 v35 v36 v37 (nI ol)), (v1, .inl (cA 0, 326, .inl fp)), (v9, .inl (cA 0, 700, .inl fb)), (v13, .inl (cA 1, 15, .inr (.inl fkw))), (v28, .inl (cA 1, 10, .inr (.inl l28))), (v30, .inl (cA 1, 8, .inr (.inl l30))), (v32, .inl (cA 0, 400, .inl fc))]) hP hD hS hA [0, 1, 2, 3, 4, 5, 6] (by decide) rfl
  refine va_calli (va_runV (As := []) (rest := []) ⟨hx, hb, hml, hown, hts⟩ (y_fact_B l D cA sa w0 ed nb ol v0 v1 v2 v3 v4 v9 v13 v27 v28 v29 v30 v31 v32 v33 v34 v35 v36 v37 g8 g11 g12 g19 g20 g21 g23 g26 g5 g6 g25 ln cd tk kw ti ct fb fkw gP gR gS gK gV cn pq en dy fp sl o9 l28 l30 fc ml pl s.heap.size hln hct hti hTX hBY hTK hKW hcn hpq hen hdy hri hcd hNM hNP ho) (cwV 0 hts gX10_both_X10_fact rfl rfl rfl (by decide +kernel) ⟨by show (21) + 1 ≤ 22; omega, by show 8 + (1 + 11) + (340) ≤ 360; omega⟩) ⟨Wd.blind, va_recv hK hPc (ci := 11) (q0 := 0) rfl rfl, fun U hU hW => ⟨rfl, Wd.call hPc hDc hK hC hZ hS hFc U hU hW⟩⟩ rfl rfl hl.1 rfl (lv_room (Nat.le_of_ble_eq_true rfl)) dX10_both_1 ⟨(Nat.le_of_ble_eq_true rfl), (Nat.le_of_ble_eq_true rfl)⟩) hS (fun q _ h => hFc q h) hFc (fun rn1 u t H1 locs ht hvm hw hB hz1 hk1 hS => ?_)
  obtain ⟨qn2, zn3, zn4, zn5, zn6, zn7, zn8, zn9, qn10, qn11, zn12, fn13, fn14, fn15, zn16, hn17, hn18, hn19, hn20, hn21, hn22, hn23, hn24, hn25, hn26, hn27, hn28, hn29, hn30, hn31, hn32, hn33, hP1, hD1⟩ := hB
  rw [ht] at hP1
  obtain ⟨hP, hD⟩ := PDq.join (w := [(oX10 w0 v0 v1 v2 v3 v4 g5 g6 (nI ed) g8 v9 (nI nb) g11 g12 v13 (nI ln) (nI (gP qn2)) (nI (gR (qn2 + 1))) zn3 zn4 zn5 zn6 zn7 zn12 g23 (nI qn10) zn9 zn8 v27 v28 v29 v30 v31 v32 v33 v34 v35 v36 v37 (nI ol)), (v1, .inl (cA 0, 326, .inl fn13)), (v9, .inl (cA 0, 700, .inl fb)), (v13, .inl (cA 1, 15, .inr (.inl fkw))), (v28, .inl (cA 1, 10, .inr (.inl l28))), (v30, .inl (cA 1, 8, .inr (.inl fn15))), (v32, .inl (cA 0, 400, .inl fn14))]) 0 hP hD [0, 1, 2, 3, 4, 5, 6] [] rfl rfl (by decide) (by decide) hk1 hFc hP1 hD1 rfl
  generalize H1 = H at hP hS ⊢
  rcases hw.2 with hr9 | hr9
  · skip
    have hn33 := hn33 (hw.1.trans hr9)
    subst hr9
    refine lv_if_ne (tgt := 9) hx hb dX10_both_4 (by decide) (fun c9 => absurd c9 (by decide)) (fun c34 => ?_)
    refine lv_iconst (v := 0) hx hb dX10_both_7 (by decide) ?_
    obtain ⟨hP9, hD9⟩ := PDq.sub (ws' := [(oX10 w0 v0 v1 v2 v3 v4 g5 g6 (nI ed) g8 v9 (nI nb) g11 g12 v13 (nI ln) (nI (gP qn2)) (nI (gR (qn2 + 1))) zn3 zn4 zn5 zn6 zn7 zn12 g23 (nI qn10) zn9 zn8 v27 v28 v29 v30 v31 v32 v33 v34 v35 v36 v37 (nI ol)), (v1, .inl (cA 0, 326, .inl fn13)), (v9, .inl (cA 0, 700, .inl fb)), (v13, .inl (cA 1, 15, .inr (.inl fkw))), (v28, .inl (cA 1, 10, .inr (.inl l28))), (v30, .inl (cA 1, 8, .inr (.inl fn15))), (v32, .inl (cA 0, 400, .inl fn14))]) hP hD [0, 1, 2, 3, 4, 5, 6] (by decide) rfl
    refine W.widen (k := 0) (n := 0) (Nat.le_of_ble_eq_true rfl) (Nat.le_of_ble_eq_true rfl) ?_
    exact (W.zret (v := 0) hx hb hr (by first | rfl | decide) (fun t ht hW => ⟨⟨0, 0, rfl, ⟨rfl, by decide⟩, qn2, zn3, zn4, zn5, zn6, zn7, zn8, zn9, qn10, qn11, zn12, fn13, fn14, fn15, zn16, hn17, hn18, hn19, hn20, hn21, hn22, hn23, (fun h9 => absurd h9 (by decide)), (fun h9 => absurd h9 (by decide)), (fun h9 => absurd h9 (by decide)), (fun h9 => absurd h9 (by decide)), (fun h9 => absurd h9 (by decide)), (fun h9 => absurd h9 (by decide)), (fun h9 => absurd h9 (by decide)), (fun h9 => absurd h9 (by decide)), (fun h9 => absurd h9 (by decide)), (fun _ => (P_bothE hn33)), by rw [ht]; exact hP9, hD9⟩, hS.F ht⟩) hS.2.2 dX10_both_8)
  · skip
    have hn24 := hn24 (hw.1.trans hr9)
    subst hn24
    obtain ⟨hP, hD⟩ : PDq D A [(oX10 w0 v0 v1 v2 v3 v4 g5 g6 (nI ed) g8 v9 (nI nb) g11 g12 v13 (nI ln) (nI (gP qn2)) (nI (gR (qn2 + 1))) zn3 zn4 zn5 zn6 zn7 (nI o9) g23 (nI qn10) zn9 zn8 v27 v28 v29 v30 v31 v32 v33 v34 v35 v36 v37 (nI ol)), (v1, .inl (cA 0, 326, .inl fn13)), (v9, .inl (cA 0, 700, .inl fb)), (v13, .inl (cA 1, 15, .inr (.inl fkw))), (v28, .inl (cA 1, 10, .inr (.inl l28))), (v30, .inl (cA 1, 8, .inr (.inl fn15))), (v32, .inl (cA 0, 400, .inl fn14))] H := ⟨hP, hD⟩
    have hn25 := hn25 (hw.1.trans hr9)
    obtain rfl : g20 = zn6 := hn25.symm
    obtain ⟨hP, hD⟩ : PDq D A [(oX10 w0 v0 v1 v2 v3 v4 g5 g6 (nI ed) g8 v9 (nI nb) g11 g12 v13 (nI ln) (nI (gP qn2)) (nI (gR (qn2 + 1))) zn3 zn4 zn5 g20 zn7 (nI o9) g23 (nI qn10) zn9 zn8 v27 v28 v29 v30 v31 v32 v33 v34 v35 v36 v37 (nI ol)), (v1, .inl (cA 0, 326, .inl fn13)), (v9, .inl (cA 0, 700, .inl fb)), (v13, .inl (cA 1, 15, .inr (.inl fkw))), (v28, .inl (cA 1, 10, .inr (.inl l28))), (v30, .inl (cA 1, 8, .inr (.inl fn15))), (v32, .inl (cA 0, 400, .inl fn14))] H := ⟨hP, hD⟩
    have hn26 := hn26 (hw.1.trans hr9)
    obtain rfl : g21 = zn7 := hn26.symm
    obtain ⟨hP, hD⟩ : PDq D A [(oX10 w0 v0 v1 v2 v3 v4 g5 g6 (nI ed) g8 v9 (nI nb) g11 g12 v13 (nI ln) (nI (gP qn2)) (nI (gR (qn2 + 1))) zn3 zn4 zn5 g20 g21 (nI o9) g23 (nI qn10) zn9 zn8 v27 v28 v29 v30 v31 v32 v33 v34 v35 v36 v37 (nI ol)), (v1, .inl (cA 0, 326, .inl fn13)), (v9, .inl (cA 0, 700, .inl fb)), (v13, .inl (cA 1, 15, .inr (.inl fkw))), (v28, .inl (cA 1, 10, .inr (.inl l28))), (v30, .inl (cA 1, 8, .inr (.inl fn15))), (v32, .inl (cA 0, 400, .inl fn14))] H := ⟨hP, hD⟩
    have hn27 := hn27 (hw.1.trans hr9)
    have hn28 := hn28 (hw.1.trans hr9)
    have hn29 := hn29 (hw.1.trans hr9)
    have hn30 := hn30 (hw.1.trans hr9)
    have hn31 := hn31 (hw.1.trans hr9)
    have hn32 := hn32 (hw.1.trans hr9)
    subst hr9
    refine lv_if_ne (tgt := 9) hx hb dX10_both_4 (by decide) (fun c35 => ?_) (fun c9 => absurd c9 (by decide))
    have loop1 : ∀ (n1 i1 : Nat) (tii : Nat) (qi : Nat) (pli : List Int64) (u0_17_1 : Int32) (u0_18_1 : Int32) (u0_19_1 : Int32) (cdi : Nat) (u0_25_1 : Int64) (u0_26_1 : Int32) (f1_1 : Nat → Int32) (f5_1 : Nat → Int64) (f6_1 : Nat → Int32) (H : Heap) (locs : List Loc) (ls : Array Slot), i1 + n1 = 701 → i1 ≤ tii → tii < ct → gP tii ≤ ln → TKR (gK tii) (gV tii) (fb (gP tii)) u0_17_1 u0_18_1 u0_19_1 u0_25_1 → ti + 1 ≤ tii → cd ≤ cdi → 2 * cdi + sl ≤ gP tii → qi ≤ 8 → RI cn qi en dy f1_1 → NL pli qi f5_1 → Kp cd fc f6_1 → Sg cd cdi f6_1 → Cn gK gS gV ml 1 o9 ti pl 2 tii pli → va_P D vwCl [(oX10 w0 v0 v1 v2 v3 v4 g5 g6 (nI ed) g8 v9 (nI nb) g11 g12 v13 (nI ln) (nI (gP tii)) (nI (gR (tii + 1))) u0_17_1 u0_18_1 u0_19_1 g20 g21 (nI o9) g23 (nI cdi) u0_25_1 u0_26_1 v27 v28 v29 v30 v31 v32 v33 v34 v35 v36 v37 (nI ol)), (v1, .inl (cA 0, 326, .inl f1_1)), (v9, .inl (cA 0, 700, .inl fb)), (v13, .inl (cA 1, 15, .inr (.inl fkw))), (v28, .inl (cA 1, 10, .inr (.inl l28))), (v30, .inl (cA 1, 8, .inr (.inl f5_1))), (v32, .inl (cA 0, 400, .inl f6_1))] H → va_D A [(oX10 w0 v0 v1 v2 v3 v4 g5 g6 (nI ed) g8 v9 (nI nb) g11 g12 v13 (nI ln) (nI (gP tii)) (nI (gR (tii + 1))) u0_17_1 u0_18_1 u0_19_1 g20 g21 (nI o9) g23 (nI cdi) u0_25_1 u0_26_1 v27 v28 v29 v30 v31 v32 v33 v34 v35 v36 v37 (nI ol)), (v1, .inl (cA 0, 326, .inl f1_1)), (v9, .inl (cA 0, 700, .inl fb)), (v13, .inl (cA 1, 15, .inr (.inl fkw))), (v28, .inl (cA 1, 10, .inr (.inl l28))), (v30, .inl (cA 1, 8, .inr (.inl f5_1))), (v32, .inl (cA 0, 400, .inl f6_1))] → va_S A s.heap H locs → lv_has ls 1 [(0, .ref w0)] → W p l e (headSpec wsX10_both ({ frames := 22, cells := 0, slots := 0, locals := 360 } : Room)).room s m ([.ref w0] : List Value).toArray below meth c H locs 0 0 (MQ below (va_Qi (fun (r : Int32) (u9 : Int32) => u9 = r ∧ (r = 0 ∨ r = 1)) (fun (u9 : Int32) t => ∃ tj : Nat, ∃ z17 : Int32, ∃ z18 : Int32, ∃ z19 : Int32, ∃ z20 : Int32, ∃ z21 : Int32, ∃ z26 : Int32, ∃ z25 : Int64, ∃ cd2 : Nat, ∃ pq2 : Nat, ∃ zop : Int32, ∃ zp : Nat → Int32, ∃ zc : Nat → Int32, ∃ zl : Nat → Int64, ∃ zpl : List Int64, tj < ct ∧ gP tj ≤ ln ∧ ti ≤ tj ∧ TKR (gK tj) (gV tj) (fb (gP tj)) z17 z18 z19 z25 ∧ pq2 ≤ 8 ∧ RI cn pq2 en dy zp ∧ NL zpl pq2 zl ∧ (u9 = 1 → zop = (nI o9)) ∧ (u9 = 1 → z20 = g20) ∧ (u9 = 1 → z21 = g21) ∧ (u9 = 1 → ti + 1 ≤ tj) ∧ (u9 = 1 → cd ≤ cd2) ∧ (u9 = 1 → 2 * cd2 + sl ≤ gP tj) ∧ (u9 = 1 → Kp cd fc zc) ∧ (u9 = 1 → Sg cd cd2 zc) ∧ (u9 = 1 → PRx gK gS gV ml 1 o9 ti pl (.inr (tj, zpl))) ∧ (u9 = 0 → PRx gK gS gV ml 1 o9 ti pl (.inl (z20, z21))) ∧ Wq D A [(oX10 w0 v0 v1 v2 v3 v4 g5 g6 (nI ed) g8 v9 (nI nb) g11 g12 v13 (nI ln) (nI (gP tj)) (nI (gR (tj + 1))) z17 z18 z19 z20 z21 zop g23 (nI cd2) z25 z26 v27 v28 v29 v30 v31 v32 v33 v34 v35 v36 v37 (nI ol)), (v1, .inl (cA 0, 326, .inl zp)), (v9, .inl (cA 0, 700, .inl fb)), (v13, .inl (cA 1, 15, .inr (.inl fkw))), (v28, .inl (cA 1, 10, .inr (.inl l28))), (v30, .inl (cA 1, 8, .inr (.inl zl))), (v32, .inl (cA 0, 400, .inl zc))] t) A) ([.ref w0] : List Value).toArray s 0 0 A) (F0 m 9 ls []) := by
      intro n1
      induction n1 with
      | zero =>
        intro i1 tii qi pli u0_17_1 u0_18_1 u0_19_1 cdi u0_25_1 u0_26_1 f1_1 f5_1 f6_1 H locs ls hi1 hv0_1 hv1_1 hv2_1 hv3_1 hv4_1 hv5_1 hv6_1 hv7_1 hv8_1 hv9_1 hv10_1 hv11_1 hv12_1 hP hD hS hl
        obtain rfl : 701 = i1 := by omega
        exact absurd hv0_1 (by omega)
      | succ n1 ih1 =>
        intro i1 tii qi pli u0_17_1 u0_18_1 u0_19_1 cdi u0_25_1 u0_26_1 f1_1 f5_1 f6_1 H locs ls hi1 hv0_1 hv1_1 hv2_1 hv3_1 hv4_1 hv5_1 hv6_1 hv7_1 hv8_1 hv9_1 hv10_1 hv11_1 hv12_1 hP hD hS hl
        refine lv_aload_n hx hb dX10_both_9 rfl (lv_at hl 0 rfl) ?_
        refine lv_bipush (v := 7) hx hb dX10_both_10 (by decide) ?_
        obtain ⟨hPc, hDc, hFc⟩ := PDq.cut (wc := [(oX10 w0 v0 v1 v2 v3 v4 g5 g6 (nI ed) g8 v9 (nI nb) g11 g12 v13 (nI ln) (nI (gP tii)) (nI (gR (tii + 1))) u0_17_1 u0_18_1 u0_19_1 g20 g21 (nI o9) g23 (nI cdi) u0_25_1 u0_26_1 v27 v28 v29 v30 v31 v32 v33 v34 v35 v36 v37 (nI ol))]) hP hD hS hA [0] (by decide) rfl
        refine va_calli (va_runV (As := [.int 7]) (rest := []) ⟨hx, hb, hml, hown, hts⟩ (y_kw7 l D cA sa w0 ed nb ol v0 v1 v2 v3 v4 v9 v13 v27 v28 v29 v30 v31 v32 v33 v34 v35 v36 v37 g8 g11 g12 u0_19_1 g20 g21 (nI o9) g23 u0_26_1 g5 g6 u0_25_1 ln cdi u0_17_1 u0_18_1 tii ct fb gP gR gS gK gV H.size hln hct hv1_1 hTX hBY hv3_1) (cwV 1 hts gX10_both_X10_isKeyword rfl rfl rfl (by decide +kernel) ⟨by show (0) + 1 ≤ 22; omega, by show 8 + (2 + 11) + (0) ≤ 360; omega⟩) ⟨Wd.blind, va_recv hK hPc (ci := 11) (q0 := 0) rfl rfl, fun U hU hW => ⟨rfl, Wd.call hPc hDc hK hC hZ hS hFc U hU hW⟩⟩ rfl rfl hl.1 rfl (lv_room (Nat.le_of_ble_eq_true rfl)) dX10_both_12 ⟨(Nat.le_of_ble_eq_true rfl), (Nat.le_of_ble_eq_true rfl)⟩) hS (fun q _ h => hFc q h) hFc (fun rn36 u t H1 locs ht hvm hw hB hz1 hk1 hS => ?_)
        obtain ⟨hP1, hD1⟩ := hB
        rw [ht] at hP1
        obtain ⟨hP, hD⟩ := PDq.join (w := [(v1, .inl (cA 0, 326, .inl f1_1)), (v9, .inl (cA 0, 700, .inl fb)), (v13, .inl (cA 1, 15, .inr (.inl fkw))), (v28, .inl (cA 1, 10, .inr (.inl l28))), (v30, .inl (cA 1, 8, .inr (.inl f5_1))), (v32, .inl (cA 0, 400, .inl f6_1)), (oX10 w0 v0 v1 v2 v3 v4 g5 g6 (nI ed) g8 v9 (nI nb) g11 g12 v13 (nI ln) (nI (gP tii)) (nI (gR (tii + 1))) u0_17_1 u0_18_1 u0_19_1 g20 g21 (nI o9) g23 (nI cdi) u0_25_1 u0_26_1 v27 v28 v29 v30 v31 v32 v33 v34 v35 v36 v37 (nI ol))]) 6 hP hD [0] [1, 2, 3, 4, 5, 6] rfl rfl (by decide) (by decide) hk1 hFc hP1 hD1 rfl
        generalize H1 = H at hP hS ⊢
        rcases hw with ⟨hr9, hn37⟩ | ⟨hr9, hn37⟩
        · skip
          subst hr9
          refine lv_if_eq (tgt := 41) hx hb dX10_both_15 (by decide) (fun c9 => absurd c9 (by decide)) (fun c38 => ?_)
          refine lv_aload_n hx hb dX10_both_18 rfl (lv_at hl 0 rfl) ?_
          have hn39 := TX.go2 hTX (show tii < ct by omega) (by rw [hn37]; decide)
          have hn39a := TX.le hTX (show tii < ct by omega)
          have hn39b := TX.le hTX hn39.1
          obtain ⟨hPc, hDc, hFc⟩ := PDq.cut (wc := [(oX10 w0 v0 v1 v2 v3 v4 g5 g6 (nI ed) g8 v9 (nI nb) g11 g12 v13 (nI ln) (nI (gP tii)) (nI (gR (tii + 1))) u0_17_1 u0_18_1 u0_19_1 g20 g21 (nI o9) g23 (nI cdi) u0_25_1 u0_26_1 v27 v28 v29 v30 v31 v32 v33 v34 v35 v36 v37 (nI ol)), (v9, .inl (cA 0, 700, .inl fb)), (v13, .inl (cA 1, 15, .inr (.inl fkw)))]) hP hD hS hA [6, 1, 2] (by decide) rfl
          refine va_calli (va_runV (As := []) (rest := []) ⟨hx, hb, hml, hown, hts⟩ (y_advance l D cA sa w0 ed nb ol v0 v1 v2 v3 v4 v9 v13 v27 v28 v29 v30 v31 v32 v33 v34 v35 v36 v37 g8 g11 g12 (nI (gP tii)) u0_17_1 u0_18_1 u0_19_1 g20 g21 (nI o9) g23 (nI cdi) u0_26_1 g5 g6 u0_25_1 ln (gR (tii + 1)) fb fkw (gP (tii + 1)) (gR ((tii + 1) + 1)) (gK (tii + 1)) (gV (tii + 1)) H.size hln (by omega) hKW hBY (TX.t hTX hn39.1)) (cwV 0 hts gX10_both_X10_advance rfl rfl rfl (by decide +kernel) ⟨by show (1) + 1 ≤ 22; omega, by show 8 + (2 + 11) + (23) ≤ 360; omega⟩) ⟨Wd.blind, va_recv hK hPc (ci := 11) (q0 := 0) rfl rfl, fun U hU hW => ⟨rfl, Wd.call hPc hDc hK hC hZ hS hFc U hU hW⟩⟩ rfl rfl hl.1 rfl (lv_room (Nat.le_of_ble_eq_true rfl)) dX10_both_19 ⟨(Nat.le_of_ble_eq_true rfl), (Nat.le_of_ble_eq_true rfl)⟩) hS (fun q _ h => hFc q h) hFc (fun rn40 u t H1 locs ht hvm hw hB hz1 hk1 hS => ?_)
          obtain ⟨zn41, zn42, zn43, zn44, hn45, hP1, hD1⟩ := hB
          rw [ht] at hP1
          obtain ⟨hP, hD⟩ := PDq.join (w := [(v1, .inl (cA 0, 326, .inl f1_1)), (v28, .inl (cA 1, 10, .inr (.inl l28))), (v30, .inl (cA 1, 8, .inr (.inl f5_1))), (v32, .inl (cA 0, 400, .inl f6_1)), (oX10 w0 v0 v1 v2 v3 v4 g5 g6 (nI ed) g8 v9 (nI nb) g11 g12 v13 (nI ln) (nI (gP (tii + 1))) (nI (gR ((tii + 1) + 1))) zn41 zn42 zn43 g20 g21 (nI o9) g23 (nI cdi) zn44 u0_26_1 v27 v28 v29 v30 v31 v32 v33 v34 v35 v36 v37 (nI ol)), (v9, .inl (cA 0, 700, .inl fb)), (v13, .inl (cA 1, 15, .inr (.inl fkw)))]) 4 hP hD [6, 1, 2] [0, 3, 4, 5] rfl rfl (by decide) (by decide) hk1 hFc hP1 hD1 rfl
          generalize H1 = H at hP hS ⊢
          obtain rfl : rn40 = 1 := hw
          refine lv_pop hx hb dX10_both_22 rfl ?_
          refine lv_aload_n hx hb dX10_both_23 rfl (lv_at hl 0 rfl) ?_
          obtain ⟨hPc, hDc, hFc⟩ := PDq.cut (wc := [(oX10 w0 v0 v1 v2 v3 v4 g5 g6 (nI ed) g8 v9 (nI nb) g11 g12 v13 (nI ln) (nI (gP (tii + 1))) (nI (gR ((tii + 1) + 1))) zn41 zn42 zn43 g20 g21 (nI o9) g23 (nI cdi) zn44 u0_26_1 v27 v28 v29 v30 v31 v32 v33 v34 v35 v36 v37 (nI ol)), (v1, .inl (cA 0, 326, .inl f1_1)), (v9, .inl (cA 0, 700, .inl fb)), (v13, .inl (cA 1, 15, .inr (.inl fkw))), (v28, .inl (cA 1, 10, .inr (.inl l28))), (v30, .inl (cA 1, 8, .inr (.inl f5_1))), (v32, .inl (cA 0, 400, .inl f6_1))]) hP hD hS hA [4, 0, 5, 6, 1, 2, 3] (by decide) rfl
          refine va_calli (va_runV (As := []) (rest := []) ⟨hx, hb, hml, hown, hts⟩ (y_fact_B l D cA sa w0 ed nb ol v0 v1 v2 v3 v4 v9 v13 v27 v28 v29 v30 v31 v32 v33 v34 v35 v36 v37 g8 g11 g12 zn43 g20 g21 g23 u0_26_1 g5 g6 zn44 ln cdi zn41 zn42 (tii + 1) ct fb fkw gP gR gS gK gV cn qi en dy f1_1 (sl + 2) o9 l28 f5_1 f6_1 ml pli H.size hln hct hn39.1 hTX hBY hn45 hKW hcn hv7_1 hen hdy hv8_1 (by omega) hNM hv9_1 ho) (cwV 0 hts gX10_both_X10_fact rfl rfl rfl (by decide +kernel) ⟨by show (21) + 1 ≤ 22; omega, by show 8 + (1 + 11) + (340) ≤ 360; omega⟩) ⟨Wd.blind, va_recv hK hPc (ci := 11) (q0 := 0) rfl rfl, fun U hU hW => ⟨rfl, Wd.call hPc hDc hK hC hZ hS hFc U hU hW⟩⟩ rfl rfl hl.1 rfl (lv_room (Nat.le_of_ble_eq_true rfl)) dX10_both_24 ⟨(Nat.le_of_ble_eq_true rfl), (Nat.le_of_ble_eq_true rfl)⟩) hS (fun q _ h => hFc q h) hFc (fun rn46 u t H1 locs ht hvm hw hB hz1 hk1 hS => ?_)
          obtain ⟨qn47, zn48, zn49, zn50, zn51, zn52, zn53, zn54, qn55, qn56, zn57, fn58, fn59, fn60, zn61, hn62, hn63, hn64, hn65, hn66, hn67, hn68, hn69, hn70, hn71, hn72, hn73, hn74, hn75, hn76, hn77, hn78, hP1, hD1⟩ := hB
          rw [ht] at hP1
          obtain ⟨hP, hD⟩ := PDq.join (w := [(oX10 w0 v0 v1 v2 v3 v4 g5 g6 (nI ed) g8 v9 (nI nb) g11 g12 v13 (nI ln) (nI (gP qn47)) (nI (gR (qn47 + 1))) zn48 zn49 zn50 zn51 zn52 zn57 g23 (nI qn55) zn54 zn53 v27 v28 v29 v30 v31 v32 v33 v34 v35 v36 v37 (nI ol)), (v1, .inl (cA 0, 326, .inl fn58)), (v9, .inl (cA 0, 700, .inl fb)), (v13, .inl (cA 1, 15, .inr (.inl fkw))), (v28, .inl (cA 1, 10, .inr (.inl l28))), (v30, .inl (cA 1, 8, .inr (.inl fn60))), (v32, .inl (cA 0, 400, .inl fn59))]) 0 hP hD [4, 0, 5, 6, 1, 2, 3] [] rfl rfl (by decide) (by decide) hk1 hFc hP1 hD1 rfl
          generalize H1 = H at hP hS ⊢
          rcases hw.2 with hr9 | hr9
          · skip
            have hn78 := hn78 (hw.1.trans hr9)
            subst hr9
            refine lv_if_ne (tgt := 32) hx hb dX10_both_27 (by decide) (fun c9 => absurd c9 (by decide)) (fun c79 => ?_)
            refine lv_iconst (v := 0) hx hb dX10_both_30 (by decide) ?_
            obtain ⟨hP9, hD9⟩ := PDq.sub (ws' := [(oX10 w0 v0 v1 v2 v3 v4 g5 g6 (nI ed) g8 v9 (nI nb) g11 g12 v13 (nI ln) (nI (gP qn47)) (nI (gR (qn47 + 1))) zn48 zn49 zn50 zn51 zn52 zn57 g23 (nI qn55) zn54 zn53 v27 v28 v29 v30 v31 v32 v33 v34 v35 v36 v37 (nI ol)), (v1, .inl (cA 0, 326, .inl fn58)), (v9, .inl (cA 0, 700, .inl fb)), (v13, .inl (cA 1, 15, .inr (.inl fkw))), (v28, .inl (cA 1, 10, .inr (.inl l28))), (v30, .inl (cA 1, 8, .inr (.inl fn60))), (v32, .inl (cA 0, 400, .inl fn59))]) hP hD [0, 1, 2, 3, 4, 5, 6] (by decide) rfl
            refine W.widen (k := 0) (n := 0) (Nat.le_of_ble_eq_true rfl) (Nat.le_of_ble_eq_true rfl) ?_
            exact (W.zret (v := 0) hx hb hr (by first | rfl | decide) (fun t ht hW => ⟨⟨0, 0, rfl, ⟨rfl, by decide⟩, qn47, zn48, zn49, zn50, zn51, zn52, zn53, zn54, qn55, qn56, zn57, fn58, fn59, fn60, zn61, hn62, hn63, (by omega), hn65, hn66, hn67, hn68, (fun h9 => absurd h9 (by decide)), (fun h9 => absurd h9 (by decide)), (fun h9 => absurd h9 (by decide)), (fun h9 => absurd h9 (by decide)), (fun h9 => absurd h9 (by decide)), (fun h9 => absurd h9 (by decide)), (fun h9 => absurd h9 (by decide)), (fun h9 => absurd h9 (by decide)), (fun h9 => absurd h9 (by decide)), (fun _ => (hv12_1 _ (P_andE hn37 hn78))), by rw [ht]; exact hP9, hD9⟩, hS.F ht⟩) hS.2.2 dX10_both_31)
          · skip
            have hn69 := hn69 (hw.1.trans hr9)
            subst hn69
            obtain ⟨hP, hD⟩ : PDq D A [(oX10 w0 v0 v1 v2 v3 v4 g5 g6 (nI ed) g8 v9 (nI nb) g11 g12 v13 (nI ln) (nI (gP qn47)) (nI (gR (qn47 + 1))) zn48 zn49 zn50 zn51 zn52 (nI o9) g23 (nI qn55) zn54 zn53 v27 v28 v29 v30 v31 v32 v33 v34 v35 v36 v37 (nI ol)), (v1, .inl (cA 0, 326, .inl fn58)), (v9, .inl (cA 0, 700, .inl fb)), (v13, .inl (cA 1, 15, .inr (.inl fkw))), (v28, .inl (cA 1, 10, .inr (.inl l28))), (v30, .inl (cA 1, 8, .inr (.inl fn60))), (v32, .inl (cA 0, 400, .inl fn59))] H := ⟨hP, hD⟩
            have hn70 := hn70 (hw.1.trans hr9)
            obtain rfl : g20 = zn51 := hn70.symm
            obtain ⟨hP, hD⟩ : PDq D A [(oX10 w0 v0 v1 v2 v3 v4 g5 g6 (nI ed) g8 v9 (nI nb) g11 g12 v13 (nI ln) (nI (gP qn47)) (nI (gR (qn47 + 1))) zn48 zn49 zn50 g20 zn52 (nI o9) g23 (nI qn55) zn54 zn53 v27 v28 v29 v30 v31 v32 v33 v34 v35 v36 v37 (nI ol)), (v1, .inl (cA 0, 326, .inl fn58)), (v9, .inl (cA 0, 700, .inl fb)), (v13, .inl (cA 1, 15, .inr (.inl fkw))), (v28, .inl (cA 1, 10, .inr (.inl l28))), (v30, .inl (cA 1, 8, .inr (.inl fn60))), (v32, .inl (cA 0, 400, .inl fn59))] H := ⟨hP, hD⟩
            have hn71 := hn71 (hw.1.trans hr9)
            obtain rfl : g21 = zn52 := hn71.symm
            obtain ⟨hP, hD⟩ : PDq D A [(oX10 w0 v0 v1 v2 v3 v4 g5 g6 (nI ed) g8 v9 (nI nb) g11 g12 v13 (nI ln) (nI (gP qn47)) (nI (gR (qn47 + 1))) zn48 zn49 zn50 g20 g21 (nI o9) g23 (nI qn55) zn54 zn53 v27 v28 v29 v30 v31 v32 v33 v34 v35 v36 v37 (nI ol)), (v1, .inl (cA 0, 326, .inl fn58)), (v9, .inl (cA 0, 700, .inl fb)), (v13, .inl (cA 1, 15, .inr (.inl fkw))), (v28, .inl (cA 1, 10, .inr (.inl l28))), (v30, .inl (cA 1, 8, .inr (.inl fn60))), (v32, .inl (cA 0, 400, .inl fn59))] H := ⟨hP, hD⟩
            have hn72 := hn72 (hw.1.trans hr9)
            have hn73 := hn73 (hw.1.trans hr9)
            have hn74 := hn74 (hw.1.trans hr9)
            have hn75 := hn75 (hw.1.trans hr9)
            have hn76 := hn76 (hw.1.trans hr9)
            have hn77 := hn77 (hw.1.trans hr9)
            subst hr9
            refine lv_if_ne (tgt := 32) hx hb dX10_both_27 (by decide) (fun c80 => ?_) (fun c9 => absurd c9 (by decide))
            refine lv_aload_n hx hb dX10_both_32 rfl (lv_at hl 0 rfl) ?_
            refine lv_iconst (v := (-1)) hx hb dX10_both_33 (by decide) ?_
            obtain ⟨hPc, hDc, hFc⟩ := PDq.cut (wc := [(oX10 w0 v0 v1 v2 v3 v4 g5 g6 (nI ed) g8 v9 (nI nb) g11 g12 v13 (nI ln) (nI (gP qn47)) (nI (gR (qn47 + 1))) zn48 zn49 zn50 g20 g21 (nI o9) g23 (nI qn55) zn54 zn53 v27 v28 v29 v30 v31 v32 v33 v34 v35 v36 v37 (nI ol)), (v32, .inl (cA 0, 400, .inl fn59))]) hP hD hS hA [0, 6] (by decide) rfl
            refine va_calli (va_runV (As := [.int (-1)]) (rest := []) ⟨hx, hb, hml, hown, hts⟩ (r_emit l D cA sa w0 ed nb ol v0 v1 v2 v3 v4 v9 v13 v27 v28 v29 v30 v31 v32 v33 v34 v35 v36 v37 g8 g11 g12 (nI ln) (nI (gP qn47)) (nI (gR (qn47 + 1))) zn48 zn49 zn50 g20 g21 (nI o9) g23 zn53 g5 g6 zn54 qn55 (-1) fn59 H.size (by omega)) (cwV 1 hts gX10_both_X10_emit rfl rfl rfl (by decide +kernel) ⟨by show (0) + 1 ≤ 22; omega, by show 8 + (2 + 11) + (0) ≤ 360; omega⟩) ⟨Wd.blind, va_recv hK hPc (ci := 11) (q0 := 0) rfl rfl, fun U hU hW => ⟨rfl, Wd.call hPc hDc hK hC hZ hS hFc U hU hW⟩⟩ rfl rfl hl.1 rfl (lv_room (Nat.le_of_ble_eq_true rfl)) dX10_both_34 ⟨(Nat.le_of_ble_eq_true rfl), (Nat.le_of_ble_eq_true rfl)⟩) hS (fun q _ h => hFc q h) hFc (fun rn81 u t H1 locs ht hvm hw hB hz1 hk1 hS => ?_)
            obtain ⟨fn82, hn83, hP1, hD1⟩ := hB
            rw [ht] at hP1
            obtain ⟨hP, hD⟩ := PDq.join (w := [(v1, .inl (cA 0, 326, .inl fn58)), (v9, .inl (cA 0, 700, .inl fb)), (v13, .inl (cA 1, 15, .inr (.inl fkw))), (v28, .inl (cA 1, 10, .inr (.inl l28))), (v30, .inl (cA 1, 8, .inr (.inl fn60))), (oX10 w0 v0 v1 v2 v3 v4 g5 g6 (nI ed) g8 v9 (nI nb) g11 g12 v13 (nI ln) (nI (gP qn47)) (nI (gR (qn47 + 1))) zn48 zn49 zn50 g20 g21 (nI o9) g23 (nI (qn55 + 1)) zn54 zn53 v27 v28 v29 v30 v31 v32 v33 v34 v35 v36 v37 (nI ol)), (v32, .inl (cA 0, 400, .inl fn82))]) 5 hP hD [0, 6] [1, 2, 3, 4, 5] rfl rfl (by decide) (by decide) hk1 hFc hP1 hD1 rfl
            generalize H1 = H at hP hS ⊢
            obtain rfl : rn81 = 1 := hw
            refine lv_pop hx hb dX10_both_37 rfl ?_
            have hn84 := Kp.tr (Kp.tr hv10_1 hn75 (by omega)) (Em.kp hn83) (by omega)
            have hn85 := Sg.join hv11_1 hn75 hn76 hn83 (by decide)
            refine lv_goto (tgt := 9) hx hb dX10_both_38 (by decide) ?_
            obtain ⟨hP9, hD9⟩ := PDq.sub (ws' := [(oX10 w0 v0 v1 v2 v3 v4 g5 g6 (nI ed) g8 v9 (nI nb) g11 g12 v13 (nI ln) (nI (gP qn47)) (nI (gR (qn47 + 1))) zn48 zn49 zn50 g20 g21 (nI o9) g23 (nI (qn55 + 1)) zn54 zn53 v27 v28 v29 v30 v31 v32 v33 v34 v35 v36 v37 (nI ol)), (v1, .inl (cA 0, 326, .inl fn58)), (v9, .inl (cA 0, 700, .inl fb)), (v13, .inl (cA 1, 15, .inr (.inl fkw))), (v28, .inl (cA 1, 10, .inr (.inl l28))), (v30, .inl (cA 1, 8, .inr (.inl fn60))), (v32, .inl (cA 0, 400, .inl fn82))]) hP hD [5, 0, 1, 2, 3, 4, 6] (by decide) rfl
            exact ih1 (i1 + 1) qn47 qn56 zn61 zn48 zn49 zn50 (qn55 + 1) zn54 zn53 fn58 fn60 fn82 H _ ls (by omega) (by omega) hn62 hn63 hn65 (by omega) (by omega) (by omega) hn66 hn67 hn68 hn84 hn85 (fun r9 h9 => hv12_1 r9 (P_and hn37 hn77 h9)) hP9 hD9 hS (lv_sub hl [0] rfl)
        · skip
          subst hr9
          refine lv_if_eq (tgt := 41) hx hb dX10_both_15 (by decide) (fun c86 => ?_) (fun c9 => absurd c9 (by decide))
          refine lv_iconst (v := 1) hx hb dX10_both_41 (by decide) ?_
          obtain ⟨hP9, hD9⟩ := PDq.sub (ws' := [(oX10 w0 v0 v1 v2 v3 v4 g5 g6 (nI ed) g8 v9 (nI nb) g11 g12 v13 (nI ln) (nI (gP tii)) (nI (gR (tii + 1))) u0_17_1 u0_18_1 u0_19_1 g20 g21 (nI o9) g23 (nI cdi) u0_25_1 u0_26_1 v27 v28 v29 v30 v31 v32 v33 v34 v35 v36 v37 (nI ol)), (v1, .inl (cA 0, 326, .inl f1_1)), (v9, .inl (cA 0, 700, .inl fb)), (v13, .inl (cA 1, 15, .inr (.inl fkw))), (v28, .inl (cA 1, 10, .inr (.inl l28))), (v30, .inl (cA 1, 8, .inr (.inl f5_1))), (v32, .inl (cA 0, 400, .inl f6_1))]) hP hD [6, 0, 1, 2, 3, 4, 5] (by decide) rfl
          refine W.widen (k := 0) (n := 0) (Nat.le_of_ble_eq_true rfl) (Nat.le_of_ble_eq_true rfl) ?_
          exact (W.zret (v := 1) hx hb hr (by first | rfl | decide) (fun t ht hW => ⟨⟨1, 1, rfl, ⟨rfl, by decide⟩, tii, u0_17_1, u0_18_1, u0_19_1, g20, g21, u0_26_1, u0_25_1, cdi, qi, (nI o9), f1_1, f6_1, f5_1, pli, hv1_1, hv2_1, (by omega), hv3_1, hv7_1, hv8_1, hv9_1, (fun _ => rfl), (fun _ => rfl), (fun _ => rfl), (fun _ => hv4_1), (fun _ => hv5_1), (fun _ => hv6_1), (fun _ => hv10_1), (fun _ => hv11_1), (fun _ => (hv12_1 _ (P_end2 hn37))), (fun h9 => absurd h9 (by decide)), by rw [ht]; exact hP9, hD9⟩, hS.F ht⟩) hS.2.2 dX10_both_42)
    obtain ⟨hP9, hD9⟩ := PDq.sub (ws' := [(oX10 w0 v0 v1 v2 v3 v4 g5 g6 (nI ed) g8 v9 (nI nb) g11 g12 v13 (nI ln) (nI (gP qn2)) (nI (gR (qn2 + 1))) zn3 zn4 zn5 g20 g21 (nI o9) g23 (nI qn10) zn9 zn8 v27 v28 v29 v30 v31 v32 v33 v34 v35 v36 v37 (nI ol)), (v1, .inl (cA 0, 326, .inl fn13)), (v9, .inl (cA 0, 700, .inl fb)), (v13, .inl (cA 1, 15, .inr (.inl fkw))), (v28, .inl (cA 1, 10, .inr (.inl l28))), (v30, .inl (cA 1, 8, .inr (.inl fn15))), (v32, .inl (cA 0, 400, .inl fn14))]) hP hD [0, 1, 2, 3, 4, 5, 6] (by decide) rfl
    exact loop1 (701 - 0) 0 qn2 qn11 zn16 zn3 zn4 zn5 qn10 zn9 zn8 fn13 fn15 fn14 _ _ ls (by omega) (by omega) hn17 hn18 hn20 hn27 hn28 hn29 hn21 hn22 hn23 hn30 hn31 (fun r9 h9 => P_both hn32 h9) hP9 hD9 hS (lv_sub hl [0] rfl)

set_option maxHeartbeats 4000000 in
set_option maxRecDepth 100000 in
/-- reference: condition -/
theorem y_condition_B (l : Launch) (D : va_G) (cA : Nat → ClassId) (sa : Nat → Nat) (w0 : Nat) (ed : Nat) (nb : Nat) (ol : Nat) (v0 : Nat) (v1 : Nat) (v2 : Nat) (v3 : Nat) (v4 : Nat) (v9 : Nat) (v13 : Nat) (v27 : Nat) (v28 : Nat) (v29 : Nat) (v30 : Nat) (v31 : Nat) (v32 : Nat) (v33 : Nat) (v34 : Nat) (v35 : Nat) (v36 : Nat) (v37 : Nat) (g8 : Int32) (g11 : Int32) (g12 : Int32) (g19 : Int32) (g20 : Int32) (g21 : Int32) (g23 : Int32) (g26 : Int32) (g5 : Int64) (g6 : Int64) (g25 : Int64) (ln : Nat) (cd : Nat) (tk : Int32) (kw : Int32) (ti : Nat) (ct : Nat) (fb : Nat → Int32) (fkw : Nat → Int64) (gP : Nat → Nat) (gR : Nat → Nat) (gS : Nat → Int32) (gK : Nat → Int32) (gV : Nat → Int64) (cn : Nat) (pq : Nat) (en : Nat) (dy : Nat) (fp : Nat → Int32) (sl : Nat) (o9 : Nat) (l28 : Nat → Int64) (l30 : Nat → Int64) (fc : Nat → Int32) (ml : List Int64) (pl : List Int64) (sz : Nat) (hln : ln ≤ 700) (hct : ct ≤ 701) (hti : ti < ct) (hTX : TX fb ln ct gP gR gS gV gK) (hBY : BYn ln fb) (hTK : TKR (gK ti) (gV ti) (fb (gP ti)) tk kw g19 g25) (hKW : KW 15 fkw) (hcn : cn ≤ 10) (hpq : pq ≤ 8) (hen : en ≤ 60) (hdy : dy ≤ 20000) (hri : RI cn pq en dy fp) (hcd : 2 * cd + sl ≤ gP ti) (hNM : NL ml cn l28) (hNP : NL pl pq l30) (ho : o9 = 8) : Met l yX10_condition wsX10_condition ({ frames := 23, cells := 0, slots := 0, locals := 380 }) (va_Pc [.ref w0] (Wd D cA sa [(oX10 w0 v0 v1 v2 v3 v4 g5 g6 (nI ed) g8 v9 (nI nb) g11 g12 v13 (nI ln) (nI (gP ti)) (nI (gR (ti + 1))) tk kw g19 g20 g21 (nI o9) g23 (nI cd) g25 g26 v27 v28 v29 v30 v31 v32 v33 v34 v35 v36 v37 (nI ol)), (v1, .inl (cA 0, 326, .inl fp)), (v9, .inl (cA 0, 700, .inl fb)), (v13, .inl (cA 1, 15, .inr (.inl fkw))), (v28, .inl (cA 1, 10, .inr (.inl l28))), (v30, .inl (cA 1, 8, .inr (.inl l30))), (v32, .inl (cA 0, 400, .inl fc))] sz)) (va_Qi (fun (r : Int32) (u9 : Int32) => u9 = r ∧ (r = 0 ∨ r = 1)) (fun (u9 : Int32) t => ∃ tj : Nat, ∃ z17 : Int32, ∃ z18 : Int32, ∃ z19 : Int32, ∃ z20 : Int32, ∃ z21 : Int32, ∃ z26 : Int32, ∃ z25 : Int64, ∃ cd2 : Nat, ∃ pq2 : Nat, ∃ zop : Int32, ∃ zp : Nat → Int32, ∃ zc : Nat → Int32, ∃ zl : Nat → Int64, ∃ zpl : List Int64, tj < ct ∧ gP tj ≤ ln ∧ ti ≤ tj ∧ TKR (gK tj) (gV tj) (fb (gP tj)) z17 z18 z19 z25 ∧ pq2 ≤ 8 ∧ RI cn pq2 en dy zp ∧ NL zpl pq2 zl ∧ (u9 = 1 → zop = (nI o9)) ∧ (u9 = 1 → z20 = g20) ∧ (u9 = 1 → z21 = g21) ∧ (u9 = 1 → ti + 1 ≤ tj) ∧ (u9 = 1 → cd ≤ cd2) ∧ (u9 = 1 → 2 * cd2 + sl ≤ gP tj) ∧ (u9 = 1 → Kp cd fc zc) ∧ (u9 = 1 → Sg cd cd2 zc) ∧ (u9 = 1 → PRx gK gS gV ml 3 o9 ti pl (.inr (tj, zpl))) ∧ (u9 = 0 → PRx gK gS gV ml 3 o9 ti pl (.inl (z20, z21))) ∧ Wq D (va_A [(oX10 w0 v0 v1 v2 v3 v4 g5 g6 (nI ed) g8 v9 (nI nb) g11 g12 v13 (nI ln) (nI (gP ti)) (nI (gR (ti + 1))) tk kw g19 g20 g21 (nI o9) g23 (nI cd) g25 g26 v27 v28 v29 v30 v31 v32 v33 v34 v35 v36 v37 (nI ol)), (v1, .inl (cA 0, 326, .inl fp)), (v9, .inl (cA 0, 700, .inl fb)), (v13, .inl (cA 1, 15, .inr (.inl fkw))), (v28, .inl (cA 1, 10, .inr (.inl l28))), (v30, .inl (cA 1, 8, .inr (.inl l30))), (v32, .inl (cA 0, 400, .inl fc))] sz) [(oX10 w0 v0 v1 v2 v3 v4 g5 g6 (nI ed) g8 v9 (nI nb) g11 g12 v13 (nI ln) (nI (gP tj)) (nI (gR (tj + 1))) z17 z18 z19 z20 z21 zop g23 (nI cd2) z25 z26 v27 v28 v29 v30 v31 v32 v33 v34 v35 v36 v37 (nI ol)), (v1, .inl (cA 0, 326, .inl zp)), (v9, .inl (cA 0, 700, .inl fb)), (v13, .inl (cA 1, 15, .inr (.inl fkw))), (v28, .inl (cA 1, 10, .inr (.inl l28))), (v30, .inl (cA 1, 8, .inr (.inl zl))), (v32, .inl (cA 0, 400, .inl zc))] t) (va_A [(oX10 w0 v0 v1 v2 v3 v4 g5 g6 (nI ed) g8 v9 (nI nb) g11 g12 v13 (nI ln) (nI (gP ti)) (nI (gR (ti + 1))) tk kw g19 g20 g21 (nI o9) g23 (nI cd) g25 g26 v27 v28 v29 v30 v31 v32 v33 v34 v35 v36 v37 (nI ol)), (v1, .inl (cA 0, 326, .inl fp)), (v9, .inl (cA 0, 700, .inl fb)), (v13, .inl (cA 1, 15, .inr (.inl fkw))), (v28, .inl (cA 1, 10, .inr (.inl l28))), (v30, .inl (cA 1, 8, .inr (.inl l30))), (v32, .inl (cA 0, 400, .inl fc))] sz)) 0 0 (va_A [(oX10 w0 v0 v1 v2 v3 v4 g5 g6 (nI ed) g8 v9 (nI nb) g11 g12 v13 (nI ln) (nI (gP ti)) (nI (gR (ti + 1))) tk kw g19 g20 g21 (nI o9) g23 (nI cd) g25 g26 v27 v28 v29 v30 v31 v32 v33 v34 v35 v36 v37 (nI ol)), (v1, .inl (cA 0, 326, .inl fp)), (v9, .inl (cA 0, 700, .inl fb)), (v13, .inl (cA 1, 15, .inr (.inl fkw))), (v28, .inl (cA 1, 10, .inr (.inl l28))), (v30, .inl (cA 1, 8, .inr (.inl l30))), (v32, .inl (cA 0, 400, .inl fc))] sz) := by
  refine Met.ofW (cc := cX10_condition) (maxL := 1) (ret := (some .boolean)) (by decide) rfl ?_
  intro p e s m args below meth c s₁ B hml hv
  obtain ⟨rfl, hsz, hP, hK, hD0, hC, hZ⟩ := hv
  have hx := B.exec
  have hb := B.bytes
  have hr := B.returns
  have hts := atoms_spec (ws := wsX10_condition) B.pre
  have hown : s.vm.findClass RX10 = some m.cls := findClass_of_methodNamed B.named
  have hlocks := B.notSynchronized
  subst hsz
  have hD := hD0.self (sz := s.heap.size)
  generalize hAe : va_A [(oX10 w0 v0 v1 v2 v3 v4 g5 g6 (nI ed) g8 v9 (nI nb) g11 g12 v13 (nI ln) (nI (gP ti)) (nI (gR (ti + 1))) tk kw g19 g20 g21 (nI o9) g23 (nI cd) g25 g26 v27 v28 v29 v30 v31 v32 v33 v34 v35 v36 v37 (nI ol)), (v1, .inl (cA 0, 326, .inl fp)), (v9, .inl (cA 0, 700, .inl fb)), (v13, .inl (cA 1, 15, .inr (.inl fkw))), (v28, .inl (cA 1, 10, .inr (.inl l28))), (v30, .inl (cA 1, 8, .inr (.inl l30))), (v32, .inl (cA 0, 400, .inl fc))] s.heap.size = A at hD hZ ⊢
  have hA : ∀ q : Nat, s.heap.size ≤ q → A q := fun q h => by rw [← hAe]; exact Or.inr h
  have hS : va_S A s.heap s.heap [] := va_S.rf
  have hP : va_P D vwCl [(oX10 w0 v0 v1 v2 v3 v4 g5 g6 (nI ed) g8 v9 (nI nb) g11 g12 v13 (nI ln) (nI (gP ti)) (nI (gR (ti + 1))) tk kw g19 g20 g21 (nI o9) g23 (nI cd) g25 g26 v27 v28 v29 v30 v31 v32 v33 v34 v35 v36 v37 (nI ol)), (v1, .inl (cA 0, 326, .inl fp)), (v9, .inl (cA 0, 700, .inl fb)), (v13, .inl (cA 1, 15, .inr (.inl fkw))), (v28, .inl (cA 1, 10, .inr (.inl l28))), (v30, .inl (cA 1, 8, .inr (.inl l30))), (v32, .inl (cA 0, 400, .inl fc))] s.heap := hP
  have hl := lv_entry ([.ref w0]) (n := 1) (Nat.le_of_ble_eq_true rfl)
  rw [lg_entry_eq]
  generalize (lg_sl ([.ref w0]) ++ List.replicate (1 - (lg_sl ([.ref w0])).length) Slot.unset).toArray = ls at hl ⊢
  have hl : lv_has ls 1 [(0, .ref w0)] := hl
  have hle9 := TX.le hTX hti
  refine lv_aload_n hx hb dX10_condition_0 rfl (lv_at hl 0 rfl) ?_
  obtain ⟨hPc, hDc, hFc⟩ := PDq.cut (wc := [(oX10 w0 v0 v1 v2 v3 v4 g5 g6 (nI ed) g8 v9 (nI nb) g11 g12 v13 (nI ln) (nI (gP ti)) (nI (gR (ti + 1))) tk kw g19 g20 g21 (nI o9) g23 (nI cd) g25 g26 v27 v28 v29 v30 v31 v32 v33 v34 v35 v36 v37 (nI ol)), (v1, .inl (cA 0, 326, .inl fp)), (v9, .inl (cA 0, 700, .inl fb)), (v13, .inl (cA 1, 15, .inr (.inl fkw))), (v28, .inl (cA 1, 10, .inr (.inl l28))), (v30, .inl (cA 1, 8, .inr (.inl l30))), (v32, .inl (cA 0, 400, .inl fc))]) hP hD hS hA [0, 1, 2, 3, 4, 5, 6] (by decide) rfl
  refine va_calli (va_runV (As := []) (rest := []) ⟨hx, hb, hml, hown, hts⟩ (y_both_B l D cA sa w0 ed nb ol v0 v1 v2 v3 v4 v9 v13 v27 v28 v29 v30 v31 v32 v33 v34 v35 v36 v37 g8 g11 g12 g19 g20 g21 g23 g26 g5 g6 g25 ln cd tk kw ti ct fb fkw gP gR gS gK gV cn pq en dy fp sl o9 l28 l30 fc ml pl s.heap.size hln hct hti hTX hBY hTK hKW hcn hpq hen hdy hri hcd hNM hNP ho) (cwV 0 hts gX10_condition_X10_both rfl rfl rfl (by decide +kernel) ⟨by show (22) + 1 ≤ 23; omega, by show 8 + (1 + 11) + (360) ≤ 380; omega⟩) ⟨Wd.blind, va_recv hK hPc (ci := 11) (q0 := 0) rfl rfl, fun U hU hW => ⟨rfl, Wd.call hPc hDc hK hC hZ hS hFc U hU hW⟩⟩ rfl rfl hl.1 rfl (lv_room (Nat.le_of_ble_eq_true rfl)) dX10_condition_1 ⟨(Nat.le_of_ble_eq_true rfl), (Nat.le_of_ble_eq_true rfl)⟩) hS (fun q _ h => hFc q h) hFc (fun rn1 u t H1 locs ht hvm hw hB hz1 hk1 hS => ?_)
  obtain ⟨qn2, zn3, zn4, zn5, zn6, zn7, zn8, zn9, qn10, qn11, zn12, fn13, fn14, fn15, zn16, hn17, hn18, hn19, hn20, hn21, hn22, hn23, hn24, hn25, hn26, hn27, hn28, hn29, hn30, hn31, hn32, hn33, hP1, hD1⟩ := hB
  rw [ht] at hP1
  obtain ⟨hP, hD⟩ := PDq.join (w := [(oX10 w0 v0 v1 v2 v3 v4 g5 g6 (nI ed) g8 v9 (nI nb) g11 g12 v13 (nI ln) (nI (gP qn2)) (nI (gR (qn2 + 1))) zn3 zn4 zn5 zn6 zn7 zn12 g23 (nI qn10) zn9 zn8 v27 v28 v29 v30 v31 v32 v33 v34 v35 v36 v37 (nI ol)), (v1, .inl (cA 0, 326, .inl fn13)), (v9, .inl (cA 0, 700, .inl fb)), (v13, .inl (cA 1, 15, .inr (.inl fkw))), (v28, .inl (cA 1, 10, .inr (.inl l28))), (v30, .inl (cA 1, 8, .inr (.inl fn15))), (v32, .inl (cA 0, 400, .inl fn14))]) 0 hP hD [0, 1, 2, 3, 4, 5, 6] [] rfl rfl (by decide) (by decide) hk1 hFc hP1 hD1 rfl
  generalize H1 = H at hP hS ⊢
  rcases hw.2 with hr9 | hr9
  · skip
    have hn33 := hn33 (hw.1.trans hr9)
    subst hr9
    refine lv_if_ne (tgt := 9) hx hb dX10_condition_4 (by decide) (fun c9 => absurd c9 (by decide)) (fun c34 => ?_)
    refine lv_iconst (v := 0) hx hb dX10_condition_7 (by decide) ?_
    obtain ⟨hP9, hD9⟩ := PDq.sub (ws' := [(oX10 w0 v0 v1 v2 v3 v4 g5 g6 (nI ed) g8 v9 (nI nb) g11 g12 v13 (nI ln) (nI (gP qn2)) (nI (gR (qn2 + 1))) zn3 zn4 zn5 zn6 zn7 zn12 g23 (nI qn10) zn9 zn8 v27 v28 v29 v30 v31 v32 v33 v34 v35 v36 v37 (nI ol)), (v1, .inl (cA 0, 326, .inl fn13)), (v9, .inl (cA 0, 700, .inl fb)), (v13, .inl (cA 1, 15, .inr (.inl fkw))), (v28, .inl (cA 1, 10, .inr (.inl l28))), (v30, .inl (cA 1, 8, .inr (.inl fn15))), (v32, .inl (cA 0, 400, .inl fn14))]) hP hD [0, 1, 2, 3, 4, 5, 6] (by decide) rfl
    refine W.widen (k := 0) (n := 0) (Nat.le_of_ble_eq_true rfl) (Nat.le_of_ble_eq_true rfl) ?_
    exact (W.zret (v := 0) hx hb hr (by first | rfl | decide) (fun t ht hW => ⟨⟨0, 0, rfl, ⟨rfl, by decide⟩, qn2, zn3, zn4, zn5, zn6, zn7, zn8, zn9, qn10, qn11, zn12, fn13, fn14, fn15, zn16, hn17, hn18, hn19, hn20, hn21, hn22, hn23, (fun h9 => absurd h9 (by decide)), (fun h9 => absurd h9 (by decide)), (fun h9 => absurd h9 (by decide)), (fun h9 => absurd h9 (by decide)), (fun h9 => absurd h9 (by decide)), (fun h9 => absurd h9 (by decide)), (fun h9 => absurd h9 (by decide)), (fun h9 => absurd h9 (by decide)), (fun h9 => absurd h9 (by decide)), (fun _ => (P_condE hn33)), by rw [ht]; exact hP9, hD9⟩, hS.F ht⟩) hS.2.2 dX10_condition_8)
  · skip
    have hn24 := hn24 (hw.1.trans hr9)
    subst hn24
    obtain ⟨hP, hD⟩ : PDq D A [(oX10 w0 v0 v1 v2 v3 v4 g5 g6 (nI ed) g8 v9 (nI nb) g11 g12 v13 (nI ln) (nI (gP qn2)) (nI (gR (qn2 + 1))) zn3 zn4 zn5 zn6 zn7 (nI o9) g23 (nI qn10) zn9 zn8 v27 v28 v29 v30 v31 v32 v33 v34 v35 v36 v37 (nI ol)), (v1, .inl (cA 0, 326, .inl fn13)), (v9, .inl (cA 0, 700, .inl fb)), (v13, .inl (cA 1, 15, .inr (.inl fkw))), (v28, .inl (cA 1, 10, .inr (.inl l28))), (v30, .inl (cA 1, 8, .inr (.inl fn15))), (v32, .inl (cA 0, 400, .inl fn14))] H := ⟨hP, hD⟩
    have hn25 := hn25 (hw.1.trans hr9)
    obtain rfl : g20 = zn6 := hn25.symm
    obtain ⟨hP, hD⟩ : PDq D A [(oX10 w0 v0 v1 v2 v3 v4 g5 g6 (nI ed) g8 v9 (nI nb) g11 g12 v13 (nI ln) (nI (gP qn2)) (nI (gR (qn2 + 1))) zn3 zn4 zn5 g20 zn7 (nI o9) g23 (nI qn10) zn9 zn8 v27 v28 v29 v30 v31 v32 v33 v34 v35 v36 v37 (nI ol)), (v1, .inl (cA 0, 326, .inl fn13)), (v9, .inl (cA 0, 700, .inl fb)), (v13, .inl (cA 1, 15, .inr (.inl fkw))), (v28, .inl (cA 1, 10, .inr (.inl l28))), (v30, .inl (cA 1, 8, .inr (.inl fn15))), (v32, .inl (cA 0, 400, .inl fn14))] H := ⟨hP, hD⟩
    have hn26 := hn26 (hw.1.trans hr9)
    obtain rfl : g21 = zn7 := hn26.symm
    obtain ⟨hP, hD⟩ : PDq D A [(oX10 w0 v0 v1 v2 v3 v4 g5 g6 (nI ed) g8 v9 (nI nb) g11 g12 v13 (nI ln) (nI (gP qn2)) (nI (gR (qn2 + 1))) zn3 zn4 zn5 g20 g21 (nI o9) g23 (nI qn10) zn9 zn8 v27 v28 v29 v30 v31 v32 v33 v34 v35 v36 v37 (nI ol)), (v1, .inl (cA 0, 326, .inl fn13)), (v9, .inl (cA 0, 700, .inl fb)), (v13, .inl (cA 1, 15, .inr (.inl fkw))), (v28, .inl (cA 1, 10, .inr (.inl l28))), (v30, .inl (cA 1, 8, .inr (.inl fn15))), (v32, .inl (cA 0, 400, .inl fn14))] H := ⟨hP, hD⟩
    have hn27 := hn27 (hw.1.trans hr9)
    have hn28 := hn28 (hw.1.trans hr9)
    have hn29 := hn29 (hw.1.trans hr9)
    have hn30 := hn30 (hw.1.trans hr9)
    have hn31 := hn31 (hw.1.trans hr9)
    have hn32 := hn32 (hw.1.trans hr9)
    subst hr9
    refine lv_if_ne (tgt := 9) hx hb dX10_condition_4 (by decide) (fun c35 => ?_) (fun c9 => absurd c9 (by decide))
    have loop1 : ∀ (n1 i1 : Nat) (tii : Nat) (qi : Nat) (pli : List Int64) (u0_17_1 : Int32) (u0_18_1 : Int32) (u0_19_1 : Int32) (cdi : Nat) (u0_25_1 : Int64) (u0_26_1 : Int32) (f1_1 : Nat → Int32) (f5_1 : Nat → Int64) (f6_1 : Nat → Int32) (H : Heap) (locs : List Loc) (ls : Array Slot), i1 + n1 = 701 → i1 ≤ tii → tii < ct → gP tii ≤ ln → TKR (gK tii) (gV tii) (fb (gP tii)) u0_17_1 u0_18_1 u0_19_1 u0_25_1 → ti + 1 ≤ tii → cd ≤ cdi → 2 * cdi + sl ≤ gP tii → qi ≤ 8 → RI cn qi en dy f1_1 → NL pli qi f5_1 → Kp cd fc f6_1 → Sg cd cdi f6_1 → Cn gK gS gV ml 3 o9 ti pl 4 tii pli → va_P D vwCl [(oX10 w0 v0 v1 v2 v3 v4 g5 g6 (nI ed) g8 v9 (nI nb) g11 g12 v13 (nI ln) (nI (gP tii)) (nI (gR (tii + 1))) u0_17_1 u0_18_1 u0_19_1 g20 g21 (nI o9) g23 (nI cdi) u0_25_1 u0_26_1 v27 v28 v29 v30 v31 v32 v33 v34 v35 v36 v37 (nI ol)), (v1, .inl (cA 0, 326, .inl f1_1)), (v9, .inl (cA 0, 700, .inl fb)), (v13, .inl (cA 1, 15, .inr (.inl fkw))), (v28, .inl (cA 1, 10, .inr (.inl l28))), (v30, .inl (cA 1, 8, .inr (.inl f5_1))), (v32, .inl (cA 0, 400, .inl f6_1))] H → va_D A [(oX10 w0 v0 v1 v2 v3 v4 g5 g6 (nI ed) g8 v9 (nI nb) g11 g12 v13 (nI ln) (nI (gP tii)) (nI (gR (tii + 1))) u0_17_1 u0_18_1 u0_19_1 g20 g21 (nI o9) g23 (nI cdi) u0_25_1 u0_26_1 v27 v28 v29 v30 v31 v32 v33 v34 v35 v36 v37 (nI ol)), (v1, .inl (cA 0, 326, .inl f1_1)), (v9, .inl (cA 0, 700, .inl fb)), (v13, .inl (cA 1, 15, .inr (.inl fkw))), (v28, .inl (cA 1, 10, .inr (.inl l28))), (v30, .inl (cA 1, 8, .inr (.inl f5_1))), (v32, .inl (cA 0, 400, .inl f6_1))] → va_S A s.heap H locs → lv_has ls 1 [(0, .ref w0)] → W p l e (headSpec wsX10_condition ({ frames := 23, cells := 0, slots := 0, locals := 380 } : Room)).room s m ([.ref w0] : List Value).toArray below meth c H locs 0 0 (MQ below (va_Qi (fun (r : Int32) (u9 : Int32) => u9 = r ∧ (r = 0 ∨ r = 1)) (fun (u9 : Int32) t => ∃ tj : Nat, ∃ z17 : Int32, ∃ z18 : Int32, ∃ z19 : Int32, ∃ z20 : Int32, ∃ z21 : Int32, ∃ z26 : Int32, ∃ z25 : Int64, ∃ cd2 : Nat, ∃ pq2 : Nat, ∃ zop : Int32, ∃ zp : Nat → Int32, ∃ zc : Nat → Int32, ∃ zl : Nat → Int64, ∃ zpl : List Int64, tj < ct ∧ gP tj ≤ ln ∧ ti ≤ tj ∧ TKR (gK tj) (gV tj) (fb (gP tj)) z17 z18 z19 z25 ∧ pq2 ≤ 8 ∧ RI cn pq2 en dy zp ∧ NL zpl pq2 zl ∧ (u9 = 1 → zop = (nI o9)) ∧ (u9 = 1 → z20 = g20) ∧ (u9 = 1 → z21 = g21) ∧ (u9 = 1 → ti + 1 ≤ tj) ∧ (u9 = 1 → cd ≤ cd2) ∧ (u9 = 1 → 2 * cd2 + sl ≤ gP tj) ∧ (u9 = 1 → Kp cd fc zc) ∧ (u9 = 1 → Sg cd cd2 zc) ∧ (u9 = 1 → PRx gK gS gV ml 3 o9 ti pl (.inr (tj, zpl))) ∧ (u9 = 0 → PRx gK gS gV ml 3 o9 ti pl (.inl (z20, z21))) ∧ Wq D A [(oX10 w0 v0 v1 v2 v3 v4 g5 g6 (nI ed) g8 v9 (nI nb) g11 g12 v13 (nI ln) (nI (gP tj)) (nI (gR (tj + 1))) z17 z18 z19 z20 z21 zop g23 (nI cd2) z25 z26 v27 v28 v29 v30 v31 v32 v33 v34 v35 v36 v37 (nI ol)), (v1, .inl (cA 0, 326, .inl zp)), (v9, .inl (cA 0, 700, .inl fb)), (v13, .inl (cA 1, 15, .inr (.inl fkw))), (v28, .inl (cA 1, 10, .inr (.inl l28))), (v30, .inl (cA 1, 8, .inr (.inl zl))), (v32, .inl (cA 0, 400, .inl zc))] t) A) ([.ref w0] : List Value).toArray s 0 0 A) (F0 m 9 ls []) := by
      intro n1
      induction n1 with
      | zero =>
        intro i1 tii qi pli u0_17_1 u0_18_1 u0_19_1 cdi u0_25_1 u0_26_1 f1_1 f5_1 f6_1 H locs ls hi1 hv0_1 hv1_1 hv2_1 hv3_1 hv4_1 hv5_1 hv6_1 hv7_1 hv8_1 hv9_1 hv10_1 hv11_1 hv12_1 hP hD hS hl
        obtain rfl : 701 = i1 := by omega
        exact absurd hv0_1 (by omega)
      | succ n1 ih1 =>
        intro i1 tii qi pli u0_17_1 u0_18_1 u0_19_1 cdi u0_25_1 u0_26_1 f1_1 f5_1 f6_1 H locs ls hi1 hv0_1 hv1_1 hv2_1 hv3_1 hv4_1 hv5_1 hv6_1 hv7_1 hv8_1 hv9_1 hv10_1 hv11_1 hv12_1 hP hD hS hl
        refine lv_aload_n hx hb dX10_condition_9 rfl (lv_at hl 0 rfl) ?_
        refine lv_bipush (v := 6) hx hb dX10_condition_10 (by decide) ?_
        obtain ⟨hPc, hDc, hFc⟩ := PDq.cut (wc := [(oX10 w0 v0 v1 v2 v3 v4 g5 g6 (nI ed) g8 v9 (nI nb) g11 g12 v13 (nI ln) (nI (gP tii)) (nI (gR (tii + 1))) u0_17_1 u0_18_1 u0_19_1 g20 g21 (nI o9) g23 (nI cdi) u0_25_1 u0_26_1 v27 v28 v29 v30 v31 v32 v33 v34 v35 v36 v37 (nI ol))]) hP hD hS hA [0] (by decide) rfl
        refine va_calli (va_runV (As := [.int 6]) (rest := []) ⟨hx, hb, hml, hown, hts⟩ (y_kw6 l D cA sa w0 ed nb ol v0 v1 v2 v3 v4 v9 v13 v27 v28 v29 v30 v31 v32 v33 v34 v35 v36 v37 g8 g11 g12 u0_19_1 g20 g21 (nI o9) g23 u0_26_1 g5 g6 u0_25_1 ln cdi u0_17_1 u0_18_1 tii ct fb gP gR gS gK gV H.size hln hct hv1_1 hTX hBY hv3_1) (cwV 1 hts gX10_condition_X10_isKeyword rfl rfl rfl (by decide +kernel) ⟨by show (0) + 1 ≤ 23; omega, by show 8 + (2 + 11) + (0) ≤ 380; omega⟩) ⟨Wd.blind, va_recv hK hPc (ci := 11) (q0 := 0) rfl rfl, fun U hU hW => ⟨rfl, Wd.call hPc hDc hK hC hZ hS hFc U hU hW⟩⟩ rfl rfl hl.1 rfl (lv_room (Nat.le_of_ble_eq_true rfl)) dX10_condition_12 ⟨(Nat.le_of_ble_eq_true rfl), (Nat.le_of_ble_eq_true rfl)⟩) hS (fun q _ h => hFc q h) hFc (fun rn36 u t H1 locs ht hvm hw hB hz1 hk1 hS => ?_)
        obtain ⟨hP1, hD1⟩ := hB
        rw [ht] at hP1
        obtain ⟨hP, hD⟩ := PDq.join (w := [(v1, .inl (cA 0, 326, .inl f1_1)), (v9, .inl (cA 0, 700, .inl fb)), (v13, .inl (cA 1, 15, .inr (.inl fkw))), (v28, .inl (cA 1, 10, .inr (.inl l28))), (v30, .inl (cA 1, 8, .inr (.inl f5_1))), (v32, .inl (cA 0, 400, .inl f6_1)), (oX10 w0 v0 v1 v2 v3 v4 g5 g6 (nI ed) g8 v9 (nI nb) g11 g12 v13 (nI ln) (nI (gP tii)) (nI (gR (tii + 1))) u0_17_1 u0_18_1 u0_19_1 g20 g21 (nI o9) g23 (nI cdi) u0_25_1 u0_26_1 v27 v28 v29 v30 v31 v32 v33 v34 v35 v36 v37 (nI ol))]) 6 hP hD [0] [1, 2, 3, 4, 5, 6] rfl rfl (by decide) (by decide) hk1 hFc hP1 hD1 rfl
        generalize H1 = H at hP hS ⊢
        rcases hw with ⟨hr9, hn37⟩ | ⟨hr9, hn37⟩
        · skip
          subst hr9
          refine lv_if_eq (tgt := 42) hx hb dX10_condition_15 (by decide) (fun c9 => absurd c9 (by decide)) (fun c38 => ?_)
          refine lv_aload_n hx hb dX10_condition_18 rfl (lv_at hl 0 rfl) ?_
          have hn39 := TX.go2 hTX (show tii < ct by omega) (by rw [hn37]; decide)
          have hn39a := TX.le hTX (show tii < ct by omega)
          have hn39b := TX.le hTX hn39.1
          obtain ⟨hPc, hDc, hFc⟩ := PDq.cut (wc := [(oX10 w0 v0 v1 v2 v3 v4 g5 g6 (nI ed) g8 v9 (nI nb) g11 g12 v13 (nI ln) (nI (gP tii)) (nI (gR (tii + 1))) u0_17_1 u0_18_1 u0_19_1 g20 g21 (nI o9) g23 (nI cdi) u0_25_1 u0_26_1 v27 v28 v29 v30 v31 v32 v33 v34 v35 v36 v37 (nI ol)), (v9, .inl (cA 0, 700, .inl fb)), (v13, .inl (cA 1, 15, .inr (.inl fkw)))]) hP hD hS hA [6, 1, 2] (by decide) rfl
          refine va_calli (va_runV (As := []) (rest := []) ⟨hx, hb, hml, hown, hts⟩ (y_advance l D cA sa w0 ed nb ol v0 v1 v2 v3 v4 v9 v13 v27 v28 v29 v30 v31 v32 v33 v34 v35 v36 v37 g8 g11 g12 (nI (gP tii)) u0_17_1 u0_18_1 u0_19_1 g20 g21 (nI o9) g23 (nI cdi) u0_26_1 g5 g6 u0_25_1 ln (gR (tii + 1)) fb fkw (gP (tii + 1)) (gR ((tii + 1) + 1)) (gK (tii + 1)) (gV (tii + 1)) H.size hln (by omega) hKW hBY (TX.t hTX hn39.1)) (cwV 0 hts gX10_condition_X10_advance rfl rfl rfl (by decide +kernel) ⟨by show (1) + 1 ≤ 23; omega, by show 8 + (2 + 11) + (23) ≤ 380; omega⟩) ⟨Wd.blind, va_recv hK hPc (ci := 11) (q0 := 0) rfl rfl, fun U hU hW => ⟨rfl, Wd.call hPc hDc hK hC hZ hS hFc U hU hW⟩⟩ rfl rfl hl.1 rfl (lv_room (Nat.le_of_ble_eq_true rfl)) dX10_condition_19 ⟨(Nat.le_of_ble_eq_true rfl), (Nat.le_of_ble_eq_true rfl)⟩) hS (fun q _ h => hFc q h) hFc (fun rn40 u t H1 locs ht hvm hw hB hz1 hk1 hS => ?_)
          obtain ⟨zn41, zn42, zn43, zn44, hn45, hP1, hD1⟩ := hB
          rw [ht] at hP1
          obtain ⟨hP, hD⟩ := PDq.join (w := [(v1, .inl (cA 0, 326, .inl f1_1)), (v28, .inl (cA 1, 10, .inr (.inl l28))), (v30, .inl (cA 1, 8, .inr (.inl f5_1))), (v32, .inl (cA 0, 400, .inl f6_1)), (oX10 w0 v0 v1 v2 v3 v4 g5 g6 (nI ed) g8 v9 (nI nb) g11 g12 v13 (nI ln) (nI (gP (tii + 1))) (nI (gR ((tii + 1) + 1))) zn41 zn42 zn43 g20 g21 (nI o9) g23 (nI cdi) zn44 u0_26_1 v27 v28 v29 v30 v31 v32 v33 v34 v35 v36 v37 (nI ol)), (v9, .inl (cA 0, 700, .inl fb)), (v13, .inl (cA 1, 15, .inr (.inl fkw)))]) 4 hP hD [6, 1, 2] [0, 3, 4, 5] rfl rfl (by decide) (by decide) hk1 hFc hP1 hD1 rfl
          generalize H1 = H at hP hS ⊢
          obtain rfl : rn40 = 1 := hw
          refine lv_pop hx hb dX10_condition_22 rfl ?_
          refine lv_aload_n hx hb dX10_condition_23 rfl (lv_at hl 0 rfl) ?_
          obtain ⟨hPc, hDc, hFc⟩ := PDq.cut (wc := [(oX10 w0 v0 v1 v2 v3 v4 g5 g6 (nI ed) g8 v9 (nI nb) g11 g12 v13 (nI ln) (nI (gP (tii + 1))) (nI (gR ((tii + 1) + 1))) zn41 zn42 zn43 g20 g21 (nI o9) g23 (nI cdi) zn44 u0_26_1 v27 v28 v29 v30 v31 v32 v33 v34 v35 v36 v37 (nI ol)), (v1, .inl (cA 0, 326, .inl f1_1)), (v9, .inl (cA 0, 700, .inl fb)), (v13, .inl (cA 1, 15, .inr (.inl fkw))), (v28, .inl (cA 1, 10, .inr (.inl l28))), (v30, .inl (cA 1, 8, .inr (.inl f5_1))), (v32, .inl (cA 0, 400, .inl f6_1))]) hP hD hS hA [4, 0, 5, 6, 1, 2, 3] (by decide) rfl
          refine va_calli (va_runV (As := []) (rest := []) ⟨hx, hb, hml, hown, hts⟩ (y_both_B l D cA sa w0 ed nb ol v0 v1 v2 v3 v4 v9 v13 v27 v28 v29 v30 v31 v32 v33 v34 v35 v36 v37 g8 g11 g12 zn43 g20 g21 g23 u0_26_1 g5 g6 zn44 ln cdi zn41 zn42 (tii + 1) ct fb fkw gP gR gS gK gV cn qi en dy f1_1 (sl + 2) o9 l28 f5_1 f6_1 ml pli H.size hln hct hn39.1 hTX hBY hn45 hKW hcn hv7_1 hen hdy hv8_1 (by omega) hNM hv9_1 ho) (cwV 0 hts gX10_condition_X10_both rfl rfl rfl (by decide +kernel) ⟨by show (22) + 1 ≤ 23; omega, by show 8 + (1 + 11) + (360) ≤ 380; omega⟩) ⟨Wd.blind, va_recv hK hPc (ci := 11) (q0 := 0) rfl rfl, fun U hU hW => ⟨rfl, Wd.call hPc hDc hK hC hZ hS hFc U hU hW⟩⟩ rfl rfl hl.1 rfl (lv_room (Nat.le_of_ble_eq_true rfl)) dX10_condition_24 ⟨(Nat.le_of_ble_eq_true rfl), (Nat.le_of_ble_eq_true rfl)⟩) hS (fun q _ h => hFc q h) hFc (fun rn46 u t H1 locs ht hvm hw hB hz1 hk1 hS => ?_)
          obtain ⟨qn47, zn48, zn49, zn50, zn51, zn52, zn53, zn54, qn55, qn56, zn57, fn58, fn59, fn60, zn61, hn62, hn63, hn64, hn65, hn66, hn67, hn68, hn69, hn70, hn71, hn72, hn73, hn74, hn75, hn76, hn77, hn78, hP1, hD1⟩ := hB
          rw [ht] at hP1
          obtain ⟨hP, hD⟩ := PDq.join (w := [(oX10 w0 v0 v1 v2 v3 v4 g5 g6 (nI ed) g8 v9 (nI nb) g11 g12 v13 (nI ln) (nI (gP qn47)) (nI (gR (qn47 + 1))) zn48 zn49 zn50 zn51 zn52 zn57 g23 (nI qn55) zn54 zn53 v27 v28 v29 v30 v31 v32 v33 v34 v35 v36 v37 (nI ol)), (v1, .inl (cA 0, 326, .inl fn58)), (v9, .inl (cA 0, 700, .inl fb)), (v13, .inl (cA 1, 15, .inr (.inl fkw))), (v28, .inl (cA 1, 10, .inr (.inl l28))), (v30, .inl (cA 1, 8, .inr (.inl fn60))), (v32, .inl (cA 0, 400, .inl fn59))]) 0 hP hD [4, 0, 5, 6, 1, 2, 3] [] rfl rfl (by decide) (by decide) hk1 hFc hP1 hD1 rfl
          generalize H1 = H at hP hS ⊢
          rcases hw.2 with hr9 | hr9
          · skip
            have hn78 := hn78 (hw.1.trans hr9)
            subst hr9
            refine lv_if_ne (tgt := 32) hx hb dX10_condition_27 (by decide) (fun c9 => absurd c9 (by decide)) (fun c79 => ?_)
            refine lv_iconst (v := 0) hx hb dX10_condition_30 (by decide) ?_
            obtain ⟨hP9, hD9⟩ := PDq.sub (ws' := [(oX10 w0 v0 v1 v2 v3 v4 g5 g6 (nI ed) g8 v9 (nI nb) g11 g12 v13 (nI ln) (nI (gP qn47)) (nI (gR (qn47 + 1))) zn48 zn49 zn50 zn51 zn52 zn57 g23 (nI qn55) zn54 zn53 v27 v28 v29 v30 v31 v32 v33 v34 v35 v36 v37 (nI ol)), (v1, .inl (cA 0, 326, .inl fn58)), (v9, .inl (cA 0, 700, .inl fb)), (v13, .inl (cA 1, 15, .inr (.inl fkw))), (v28, .inl (cA 1, 10, .inr (.inl l28))), (v30, .inl (cA 1, 8, .inr (.inl fn60))), (v32, .inl (cA 0, 400, .inl fn59))]) hP hD [0, 1, 2, 3, 4, 5, 6] (by decide) rfl
            refine W.widen (k := 0) (n := 0) (Nat.le_of_ble_eq_true rfl) (Nat.le_of_ble_eq_true rfl) ?_
            exact (W.zret (v := 0) hx hb hr (by first | rfl | decide) (fun t ht hW => ⟨⟨0, 0, rfl, ⟨rfl, by decide⟩, qn47, zn48, zn49, zn50, zn51, zn52, zn53, zn54, qn55, qn56, zn57, fn58, fn59, fn60, zn61, hn62, hn63, (by omega), hn65, hn66, hn67, hn68, (fun h9 => absurd h9 (by decide)), (fun h9 => absurd h9 (by decide)), (fun h9 => absurd h9 (by decide)), (fun h9 => absurd h9 (by decide)), (fun h9 => absurd h9 (by decide)), (fun h9 => absurd h9 (by decide)), (fun h9 => absurd h9 (by decide)), (fun h9 => absurd h9 (by decide)), (fun h9 => absurd h9 (by decide)), (fun _ => (hv12_1 _ (P_orE hn37 hn78))), by rw [ht]; exact hP9, hD9⟩, hS.F ht⟩) hS.2.2 dX10_condition_31)
          · skip
            have hn69 := hn69 (hw.1.trans hr9)
            subst hn69
            obtain ⟨hP, hD⟩ : PDq D A [(oX10 w0 v0 v1 v2 v3 v4 g5 g6 (nI ed) g8 v9 (nI nb) g11 g12 v13 (nI ln) (nI (gP qn47)) (nI (gR (qn47 + 1))) zn48 zn49 zn50 zn51 zn52 (nI o9) g23 (nI qn55) zn54 zn53 v27 v28 v29 v30 v31 v32 v33 v34 v35 v36 v37 (nI ol)), (v1, .inl (cA 0, 326, .inl fn58)), (v9, .inl (cA 0, 700, .inl fb)), (v13, .inl (cA 1, 15, .inr (.inl fkw))), (v28, .inl (cA 1, 10, .inr (.inl l28))), (v30, .inl (cA 1, 8, .inr (.inl fn60))), (v32, .inl (cA 0, 400, .inl fn59))] H := ⟨hP, hD⟩
            have hn70 := hn70 (hw.1.trans hr9)
            obtain rfl : g20 = zn51 := hn70.symm
            obtain ⟨hP, hD⟩ : PDq D A [(oX10 w0 v0 v1 v2 v3 v4 g5 g6 (nI ed) g8 v9 (nI nb) g11 g12 v13 (nI ln) (nI (gP qn47)) (nI (gR (qn47 + 1))) zn48 zn49 zn50 g20 zn52 (nI o9) g23 (nI qn55) zn54 zn53 v27 v28 v29 v30 v31 v32 v33 v34 v35 v36 v37 (nI ol)), (v1, .inl (cA 0, 326, .inl fn58)), (v9, .inl (cA 0, 700, .inl fb)), (v13, .inl (cA 1, 15, .inr (.inl fkw))), (v28, .inl (cA 1, 10, .inr (.inl l28))), (v30, .inl (cA 1, 8, .inr (.inl fn60))), (v32, .inl (cA 0, 400, .inl fn59))] H := ⟨hP, hD⟩
            have hn71 := hn71 (hw.1.trans hr9)
            obtain rfl : g21 = zn52 := hn71.symm
            obtain ⟨hP, hD⟩ : PDq D A [(oX10 w0 v0 v1 v2 v3 v4 g5 g6 (nI ed) g8 v9 (nI nb) g11 g12 v13 (nI ln) (nI (gP qn47)) (nI (gR (qn47 + 1))) zn48 zn49 zn50 g20 g21 (nI o9) g23 (nI qn55) zn54 zn53 v27 v28 v29 v30 v31 v32 v33 v34 v35 v36 v37 (nI ol)), (v1, .inl (cA 0, 326, .inl fn58)), (v9, .inl (cA 0, 700, .inl fb)), (v13, .inl (cA 1, 15, .inr (.inl fkw))), (v28, .inl (cA 1, 10, .inr (.inl l28))), (v30, .inl (cA 1, 8, .inr (.inl fn60))), (v32, .inl (cA 0, 400, .inl fn59))] H := ⟨hP, hD⟩
            have hn72 := hn72 (hw.1.trans hr9)
            have hn73 := hn73 (hw.1.trans hr9)
            have hn74 := hn74 (hw.1.trans hr9)
            have hn75 := hn75 (hw.1.trans hr9)
            have hn76 := hn76 (hw.1.trans hr9)
            have hn77 := hn77 (hw.1.trans hr9)
            subst hr9
            refine lv_if_ne (tgt := 32) hx hb dX10_condition_27 (by decide) (fun c80 => ?_) (fun c9 => absurd c9 (by decide))
            refine lv_aload_n hx hb dX10_condition_32 rfl (lv_at hl 0 rfl) ?_
            refine lv_bipush (v := (-2)) hx hb dX10_condition_33 (by decide) ?_
            obtain ⟨hPc, hDc, hFc⟩ := PDq.cut (wc := [(oX10 w0 v0 v1 v2 v3 v4 g5 g6 (nI ed) g8 v9 (nI nb) g11 g12 v13 (nI ln) (nI (gP qn47)) (nI (gR (qn47 + 1))) zn48 zn49 zn50 g20 g21 (nI o9) g23 (nI qn55) zn54 zn53 v27 v28 v29 v30 v31 v32 v33 v34 v35 v36 v37 (nI ol)), (v32, .inl (cA 0, 400, .inl fn59))]) hP hD hS hA [0, 6] (by decide) rfl
            refine va_calli (va_runV (As := [.int (-2)]) (rest := []) ⟨hx, hb, hml, hown, hts⟩ (r_emit l D cA sa w0 ed nb ol v0 v1 v2 v3 v4 v9 v13 v27 v28 v29 v30 v31 v32 v33 v34 v35 v36 v37 g8 g11 g12 (nI ln) (nI (gP qn47)) (nI (gR (qn47 + 1))) zn48 zn49 zn50 g20 g21 (nI o9) g23 zn53 g5 g6 zn54 qn55 (-2) fn59 H.size (by omega)) (cwV 1 hts gX10_condition_X10_emit rfl rfl rfl (by decide +kernel) ⟨by show (0) + 1 ≤ 23; omega, by show 8 + (2 + 11) + (0) ≤ 380; omega⟩) ⟨Wd.blind, va_recv hK hPc (ci := 11) (q0 := 0) rfl rfl, fun U hU hW => ⟨rfl, Wd.call hPc hDc hK hC hZ hS hFc U hU hW⟩⟩ rfl rfl hl.1 rfl (lv_room (Nat.le_of_ble_eq_true rfl)) dX10_condition_35 ⟨(Nat.le_of_ble_eq_true rfl), (Nat.le_of_ble_eq_true rfl)⟩) hS (fun q _ h => hFc q h) hFc (fun rn81 u t H1 locs ht hvm hw hB hz1 hk1 hS => ?_)
            obtain ⟨fn82, hn83, hP1, hD1⟩ := hB
            rw [ht] at hP1
            obtain ⟨hP, hD⟩ := PDq.join (w := [(v1, .inl (cA 0, 326, .inl fn58)), (v9, .inl (cA 0, 700, .inl fb)), (v13, .inl (cA 1, 15, .inr (.inl fkw))), (v28, .inl (cA 1, 10, .inr (.inl l28))), (v30, .inl (cA 1, 8, .inr (.inl fn60))), (oX10 w0 v0 v1 v2 v3 v4 g5 g6 (nI ed) g8 v9 (nI nb) g11 g12 v13 (nI ln) (nI (gP qn47)) (nI (gR (qn47 + 1))) zn48 zn49 zn50 g20 g21 (nI o9) g23 (nI (qn55 + 1)) zn54 zn53 v27 v28 v29 v30 v31 v32 v33 v34 v35 v36 v37 (nI ol)), (v32, .inl (cA 0, 400, .inl fn82))]) 5 hP hD [0, 6] [1, 2, 3, 4, 5] rfl rfl (by decide) (by decide) hk1 hFc hP1 hD1 rfl
            generalize H1 = H at hP hS ⊢
            obtain rfl : rn81 = 1 := hw
            refine lv_pop hx hb dX10_condition_38 rfl ?_
            have hn84 := Kp.tr (Kp.tr hv10_1 hn75 (by omega)) (Em.kp hn83) (by omega)
            have hn85 := Sg.join hv11_1 hn75 hn76 hn83 (by decide)
            refine lv_goto (tgt := 9) hx hb dX10_condition_39 (by decide) ?_
            obtain ⟨hP9, hD9⟩ := PDq.sub (ws' := [(oX10 w0 v0 v1 v2 v3 v4 g5 g6 (nI ed) g8 v9 (nI nb) g11 g12 v13 (nI ln) (nI (gP qn47)) (nI (gR (qn47 + 1))) zn48 zn49 zn50 g20 g21 (nI o9) g23 (nI (qn55 + 1)) zn54 zn53 v27 v28 v29 v30 v31 v32 v33 v34 v35 v36 v37 (nI ol)), (v1, .inl (cA 0, 326, .inl fn58)), (v9, .inl (cA 0, 700, .inl fb)), (v13, .inl (cA 1, 15, .inr (.inl fkw))), (v28, .inl (cA 1, 10, .inr (.inl l28))), (v30, .inl (cA 1, 8, .inr (.inl fn60))), (v32, .inl (cA 0, 400, .inl fn82))]) hP hD [5, 0, 1, 2, 3, 4, 6] (by decide) rfl
            exact ih1 (i1 + 1) qn47 qn56 zn61 zn48 zn49 zn50 (qn55 + 1) zn54 zn53 fn58 fn60 fn82 H _ ls (by omega) (by omega) hn62 hn63 hn65 (by omega) (by omega) (by omega) hn66 hn67 hn68 hn84 hn85 (fun r9 h9 => hv12_1 r9 (P_or hn37 hn77 h9)) hP9 hD9 hS (lv_sub hl [0] rfl)
        · skip
          subst hr9
          refine lv_if_eq (tgt := 42) hx hb dX10_condition_15 (by decide) (fun c86 => ?_) (fun c9 => absurd c9 (by decide))
          refine lv_iconst (v := 1) hx hb dX10_condition_42 (by decide) ?_
          obtain ⟨hP9, hD9⟩ := PDq.sub (ws' := [(oX10 w0 v0 v1 v2 v3 v4 g5 g6 (nI ed) g8 v9 (nI nb) g11 g12 v13 (nI ln) (nI (gP tii)) (nI (gR (tii + 1))) u0_17_1 u0_18_1 u0_19_1 g20 g21 (nI o9) g23 (nI cdi) u0_25_1 u0_26_1 v27 v28 v29 v30 v31 v32 v33 v34 v35 v36 v37 (nI ol)), (v1, .inl (cA 0, 326, .inl f1_1)), (v9, .inl (cA 0, 700, .inl fb)), (v13, .inl (cA 1, 15, .inr (.inl fkw))), (v28, .inl (cA 1, 10, .inr (.inl l28))), (v30, .inl (cA 1, 8, .inr (.inl f5_1))), (v32, .inl (cA 0, 400, .inl f6_1))]) hP hD [6, 0, 1, 2, 3, 4, 5] (by decide) rfl
          refine W.widen (k := 0) (n := 0) (Nat.le_of_ble_eq_true rfl) (Nat.le_of_ble_eq_true rfl) ?_
          exact (W.zret (v := 1) hx hb hr (by first | rfl | decide) (fun t ht hW => ⟨⟨1, 1, rfl, ⟨rfl, by decide⟩, tii, u0_17_1, u0_18_1, u0_19_1, g20, g21, u0_26_1, u0_25_1, cdi, qi, (nI o9), f1_1, f6_1, f5_1, pli, hv1_1, hv2_1, (by omega), hv3_1, hv7_1, hv8_1, hv9_1, (fun _ => rfl), (fun _ => rfl), (fun _ => rfl), (fun _ => hv4_1), (fun _ => hv5_1), (fun _ => hv6_1), (fun _ => hv10_1), (fun _ => hv11_1), (fun _ => (hv12_1 _ (P_end4 hn37))), (fun h9 => absurd h9 (by decide)), by rw [ht]; exact hP9, hD9⟩, hS.F ht⟩) hS.2.2 dX10_condition_43)
    obtain ⟨hP9, hD9⟩ := PDq.sub (ws' := [(oX10 w0 v0 v1 v2 v3 v4 g5 g6 (nI ed) g8 v9 (nI nb) g11 g12 v13 (nI ln) (nI (gP qn2)) (nI (gR (qn2 + 1))) zn3 zn4 zn5 g20 g21 (nI o9) g23 (nI qn10) zn9 zn8 v27 v28 v29 v30 v31 v32 v33 v34 v35 v36 v37 (nI ol)), (v1, .inl (cA 0, 326, .inl fn13)), (v9, .inl (cA 0, 700, .inl fb)), (v13, .inl (cA 1, 15, .inr (.inl fkw))), (v28, .inl (cA 1, 10, .inr (.inl l28))), (v30, .inl (cA 1, 8, .inr (.inl fn15))), (v32, .inl (cA 0, 400, .inl fn14))]) hP hD [0, 1, 2, 3, 4, 5, 6] (by decide) rfl
    exact loop1 (701 - 0) 0 qn2 qn11 zn16 zn3 zn4 zn5 qn10 zn9 zn8 fn13 fn15 fn14 _ _ ls (by omega) (by omega) hn17 hn18 hn20 hn27 hn28 hn29 hn21 hn22 hn23 hn30 hn31 (fun r9 h9 => P_cond hn32 h9) hP9 hD9 hS (lv_sub hl [0] rfl)

def YFactC (l : Launch) (D : va_G) (cA : Nat → ClassId) (sa : Nat → Nat) (k9 : Nat) : Prop := ∀ (w0 : Nat) (ed : Nat) (nb : Nat) (ol : Nat) (v0 : Nat) (v1 : Nat) (v2 : Nat) (v3 : Nat) (v4 : Nat) (v9 : Nat) (v13 : Nat) (v27 : Nat) (v28 : Nat) (v29 : Nat) (v30 : Nat) (v31 : Nat) (v32 : Nat) (v33 : Nat) (v34 : Nat) (v35 : Nat) (v36 : Nat) (v37 : Nat) (g8 : Int32) (g11 : Int32) (g12 : Int32) (g19 : Int32) (g20 : Int32) (g21 : Int32) (g23 : Int32) (g26 : Int32) (g5 : Int64) (g6 : Int64) (g25 : Int64) (ln : Nat) (cd : Nat) (tk : Int32) (kw : Int32) (ti : Nat) (ct : Nat) (fb : Nat → Int32) (fkw : Nat → Int64) (gP : Nat → Nat) (gR : Nat → Nat) (gS : Nat → Int32) (gK : Nat → Int32) (gV : Nat → Int64) (cn : Nat) (pq : Nat) (en : Nat) (dy : Nat) (fp : Nat → Int32) (sl : Nat) (o9 : Nat) (l28 : Nat → Int64) (l30 : Nat → Int64) (fc : Nat → Int32) (ml : List Int64) (pl : List Int64) (sz : Nat) (hln : ln ≤ 700) (hct : ct ≤ 701) (hti : ti < ct) (hTX : TX fb ln ct gP gR gS gV gK) (hBY : BYn ln fb) (hTK : TKR (gK ti) (gV ti) (fb (gP ti)) tk kw g19 g25) (hKW : KW 15 fkw) (hcn : cn ≤ 10) (hpq : pq ≤ 8) (hen : en ≤ 60) (hdy : dy ≤ 20000) (hri : RI cn pq en dy fp) (hcd : 2 * cd + sl ≤ gP ti) (hNM : NL ml cn l28) (hNP : NL pl pq l30) (ho : o9 + k9 = 8), Met l yX10_fact wsX10_fact ({ frames := 4 * k9 + 21, cells := 0, slots := 0, locals := 80 * k9 + 340 }) (va_Pc [.ref w0] (Wd D cA sa [(oX10 w0 v0 v1 v2 v3 v4 g5 g6 (nI ed) g8 v9 (nI nb) g11 g12 v13 (nI ln) (nI (gP ti)) (nI (gR (ti + 1))) tk kw g19 g20 g21 (nI o9) g23 (nI cd) g25 g26 v27 v28 v29 v30 v31 v32 v33 v34 v35 v36 v37 (nI ol)), (v1, .inl (cA 0, 326, .inl fp)), (v9, .inl (cA 0, 700, .inl fb)), (v13, .inl (cA 1, 15, .inr (.inl fkw))), (v28, .inl (cA 1, 10, .inr (.inl l28))), (v30, .inl (cA 1, 8, .inr (.inl l30))), (v32, .inl (cA 0, 400, .inl fc))] sz)) (va_Qi (fun (r : Int32) (u9 : Int32) => u9 = r ∧ (r = 0 ∨ r = 1)) (fun (u9 : Int32) t => ∃ tj : Nat, ∃ z17 : Int32, ∃ z18 : Int32, ∃ z19 : Int32, ∃ z20 : Int32, ∃ z21 : Int32, ∃ z26 : Int32, ∃ z25 : Int64, ∃ cd2 : Nat, ∃ pq2 : Nat, ∃ zop : Int32, ∃ zp : Nat → Int32, ∃ zc : Nat → Int32, ∃ zl : Nat → Int64, ∃ zpl : List Int64, tj < ct ∧ gP tj ≤ ln ∧ ti ≤ tj ∧ TKR (gK tj) (gV tj) (fb (gP tj)) z17 z18 z19 z25 ∧ pq2 ≤ 8 ∧ RI cn pq2 en dy zp ∧ NL zpl pq2 zl ∧ (u9 = 1 → zop = (nI o9)) ∧ (u9 = 1 → z20 = g20) ∧ (u9 = 1 → z21 = g21) ∧ (u9 = 1 → ti + 1 ≤ tj) ∧ (u9 = 1 → cd ≤ cd2) ∧ (u9 = 1 → 2 * cd2 + sl ≤ gP tj) ∧ (u9 = 1 → Kp cd fc zc) ∧ (u9 = 1 → Sg cd cd2 zc) ∧ (u9 = 1 → PRx gK gS gV ml 0 o9 ti pl (.inr (tj, zpl))) ∧ (u9 = 0 → PRx gK gS gV ml 0 o9 ti pl (.inl (z20, z21))) ∧ Wq D (va_A [(oX10 w0 v0 v1 v2 v3 v4 g5 g6 (nI ed) g8 v9 (nI nb) g11 g12 v13 (nI ln) (nI (gP ti)) (nI (gR (ti + 1))) tk kw g19 g20 g21 (nI o9) g23 (nI cd) g25 g26 v27 v28 v29 v30 v31 v32 v33 v34 v35 v36 v37 (nI ol)), (v1, .inl (cA 0, 326, .inl fp)), (v9, .inl (cA 0, 700, .inl fb)), (v13, .inl (cA 1, 15, .inr (.inl fkw))), (v28, .inl (cA 1, 10, .inr (.inl l28))), (v30, .inl (cA 1, 8, .inr (.inl l30))), (v32, .inl (cA 0, 400, .inl fc))] sz) [(oX10 w0 v0 v1 v2 v3 v4 g5 g6 (nI ed) g8 v9 (nI nb) g11 g12 v13 (nI ln) (nI (gP tj)) (nI (gR (tj + 1))) z17 z18 z19 z20 z21 zop g23 (nI cd2) z25 z26 v27 v28 v29 v30 v31 v32 v33 v34 v35 v36 v37 (nI ol)), (v1, .inl (cA 0, 326, .inl zp)), (v9, .inl (cA 0, 700, .inl fb)), (v13, .inl (cA 1, 15, .inr (.inl fkw))), (v28, .inl (cA 1, 10, .inr (.inl l28))), (v30, .inl (cA 1, 8, .inr (.inl zl))), (v32, .inl (cA 0, 400, .inl zc))] t) (va_A [(oX10 w0 v0 v1 v2 v3 v4 g5 g6 (nI ed) g8 v9 (nI nb) g11 g12 v13 (nI ln) (nI (gP ti)) (nI (gR (ti + 1))) tk kw g19 g20 g21 (nI o9) g23 (nI cd) g25 g26 v27 v28 v29 v30 v31 v32 v33 v34 v35 v36 v37 (nI ol)), (v1, .inl (cA 0, 326, .inl fp)), (v9, .inl (cA 0, 700, .inl fb)), (v13, .inl (cA 1, 15, .inr (.inl fkw))), (v28, .inl (cA 1, 10, .inr (.inl l28))), (v30, .inl (cA 1, 8, .inr (.inl l30))), (v32, .inl (cA 0, 400, .inl fc))] sz)) 0 0 (va_A [(oX10 w0 v0 v1 v2 v3 v4 g5 g6 (nI ed) g8 v9 (nI nb) g11 g12 v13 (nI ln) (nI (gP ti)) (nI (gR (ti + 1))) tk kw g19 g20 g21 (nI o9) g23 (nI cd) g25 g26 v27 v28 v29 v30 v31 v32 v33 v34 v35 v36 v37 (nI ol)), (v1, .inl (cA 0, 326, .inl fp)), (v9, .inl (cA 0, 700, .inl fb)), (v13, .inl (cA 1, 15, .inr (.inl fkw))), (v28, .inl (cA 1, 10, .inr (.inl l28))), (v30, .inl (cA 1, 8, .inr (.inl l30))), (v32, .inl (cA 0, 400, .inl fc))] sz)
def YCondC (l : Launch) (D : va_G) (cA : Nat → ClassId) (sa : Nat → Nat) (k9 : Nat) : Prop := ∀ (w0 : Nat) (ed : Nat) (nb : Nat) (ol : Nat) (v0 : Nat) (v1 : Nat) (v2 : Nat) (v3 : Nat) (v4 : Nat) (v9 : Nat) (v13 : Nat) (v27 : Nat) (v28 : Nat) (v29 : Nat) (v30 : Nat) (v31 : Nat) (v32 : Nat) (v33 : Nat) (v34 : Nat) (v35 : Nat) (v36 : Nat) (v37 : Nat) (g8 : Int32) (g11 : Int32) (g12 : Int32) (g19 : Int32) (g20 : Int32) (g21 : Int32) (g23 : Int32) (g26 : Int32) (g5 : Int64) (g6 : Int64) (g25 : Int64) (ln : Nat) (cd : Nat) (tk : Int32) (kw : Int32) (ti : Nat) (ct : Nat) (fb : Nat → Int32) (fkw : Nat → Int64) (gP : Nat → Nat) (gR : Nat → Nat) (gS : Nat → Int32) (gK : Nat → Int32) (gV : Nat → Int64) (cn : Nat) (pq : Nat) (en : Nat) (dy : Nat) (fp : Nat → Int32) (sl : Nat) (o9 : Nat) (l28 : Nat → Int64) (l30 : Nat → Int64) (fc : Nat → Int32) (ml : List Int64) (pl : List Int64) (sz : Nat) (hln : ln ≤ 700) (hct : ct ≤ 701) (hti : ti < ct) (hTX : TX fb ln ct gP gR gS gV gK) (hBY : BYn ln fb) (hTK : TKR (gK ti) (gV ti) (fb (gP ti)) tk kw g19 g25) (hKW : KW 15 fkw) (hcn : cn ≤ 10) (hpq : pq ≤ 8) (hen : en ≤ 60) (hdy : dy ≤ 20000) (hri : RI cn pq en dy fp) (hcd : 2 * cd + sl ≤ gP ti) (hNM : NL ml cn l28) (hNP : NL pl pq l30) (ho : o9 + k9 = 8), Met l yX10_condition wsX10_condition ({ frames := 4 * k9 + 23, cells := 0, slots := 0, locals := 80 * k9 + 380 }) (va_Pc [.ref w0] (Wd D cA sa [(oX10 w0 v0 v1 v2 v3 v4 g5 g6 (nI ed) g8 v9 (nI nb) g11 g12 v13 (nI ln) (nI (gP ti)) (nI (gR (ti + 1))) tk kw g19 g20 g21 (nI o9) g23 (nI cd) g25 g26 v27 v28 v29 v30 v31 v32 v33 v34 v35 v36 v37 (nI ol)), (v1, .inl (cA 0, 326, .inl fp)), (v9, .inl (cA 0, 700, .inl fb)), (v13, .inl (cA 1, 15, .inr (.inl fkw))), (v28, .inl (cA 1, 10, .inr (.inl l28))), (v30, .inl (cA 1, 8, .inr (.inl l30))), (v32, .inl (cA 0, 400, .inl fc))] sz)) (va_Qi (fun (r : Int32) (u9 : Int32) => u9 = r ∧ (r = 0 ∨ r = 1)) (fun (u9 : Int32) t => ∃ tj : Nat, ∃ z17 : Int32, ∃ z18 : Int32, ∃ z19 : Int32, ∃ z20 : Int32, ∃ z21 : Int32, ∃ z26 : Int32, ∃ z25 : Int64, ∃ cd2 : Nat, ∃ pq2 : Nat, ∃ zop : Int32, ∃ zp : Nat → Int32, ∃ zc : Nat → Int32, ∃ zl : Nat → Int64, ∃ zpl : List Int64, tj < ct ∧ gP tj ≤ ln ∧ ti ≤ tj ∧ TKR (gK tj) (gV tj) (fb (gP tj)) z17 z18 z19 z25 ∧ pq2 ≤ 8 ∧ RI cn pq2 en dy zp ∧ NL zpl pq2 zl ∧ (u9 = 1 → zop = (nI o9)) ∧ (u9 = 1 → z20 = g20) ∧ (u9 = 1 → z21 = g21) ∧ (u9 = 1 → ti + 1 ≤ tj) ∧ (u9 = 1 → cd ≤ cd2) ∧ (u9 = 1 → 2 * cd2 + sl ≤ gP tj) ∧ (u9 = 1 → Kp cd fc zc) ∧ (u9 = 1 → Sg cd cd2 zc) ∧ (u9 = 1 → PRx gK gS gV ml 3 o9 ti pl (.inr (tj, zpl))) ∧ (u9 = 0 → PRx gK gS gV ml 3 o9 ti pl (.inl (z20, z21))) ∧ Wq D (va_A [(oX10 w0 v0 v1 v2 v3 v4 g5 g6 (nI ed) g8 v9 (nI nb) g11 g12 v13 (nI ln) (nI (gP ti)) (nI (gR (ti + 1))) tk kw g19 g20 g21 (nI o9) g23 (nI cd) g25 g26 v27 v28 v29 v30 v31 v32 v33 v34 v35 v36 v37 (nI ol)), (v1, .inl (cA 0, 326, .inl fp)), (v9, .inl (cA 0, 700, .inl fb)), (v13, .inl (cA 1, 15, .inr (.inl fkw))), (v28, .inl (cA 1, 10, .inr (.inl l28))), (v30, .inl (cA 1, 8, .inr (.inl l30))), (v32, .inl (cA 0, 400, .inl fc))] sz) [(oX10 w0 v0 v1 v2 v3 v4 g5 g6 (nI ed) g8 v9 (nI nb) g11 g12 v13 (nI ln) (nI (gP tj)) (nI (gR (tj + 1))) z17 z18 z19 z20 z21 zop g23 (nI cd2) z25 z26 v27 v28 v29 v30 v31 v32 v33 v34 v35 v36 v37 (nI ol)), (v1, .inl (cA 0, 326, .inl zp)), (v9, .inl (cA 0, 700, .inl fb)), (v13, .inl (cA 1, 15, .inr (.inl fkw))), (v28, .inl (cA 1, 10, .inr (.inl l28))), (v30, .inl (cA 1, 8, .inr (.inl zl))), (v32, .inl (cA 0, 400, .inl zc))] t) (va_A [(oX10 w0 v0 v1 v2 v3 v4 g5 g6 (nI ed) g8 v9 (nI nb) g11 g12 v13 (nI ln) (nI (gP ti)) (nI (gR (ti + 1))) tk kw g19 g20 g21 (nI o9) g23 (nI cd) g25 g26 v27 v28 v29 v30 v31 v32 v33 v34 v35 v36 v37 (nI ol)), (v1, .inl (cA 0, 326, .inl fp)), (v9, .inl (cA 0, 700, .inl fb)), (v13, .inl (cA 1, 15, .inr (.inl fkw))), (v28, .inl (cA 1, 10, .inr (.inl l28))), (v30, .inl (cA 1, 8, .inr (.inl l30))), (v32, .inl (cA 0, 400, .inl fc))] sz)) 0 0 (va_A [(oX10 w0 v0 v1 v2 v3 v4 g5 g6 (nI ed) g8 v9 (nI nb) g11 g12 v13 (nI ln) (nI (gP ti)) (nI (gR (ti + 1))) tk kw g19 g20 g21 (nI o9) g23 (nI cd) g25 g26 v27 v28 v29 v30 v31 v32 v33 v34 v35 v36 v37 (nI ol)), (v1, .inl (cA 0, 326, .inl fp)), (v9, .inl (cA 0, 700, .inl fb)), (v13, .inl (cA 1, 15, .inr (.inl fkw))), (v28, .inl (cA 1, 10, .inr (.inl l28))), (v30, .inl (cA 1, 8, .inr (.inl l30))), (v32, .inl (cA 0, 400, .inl fc))] sz)
set_option maxHeartbeats 4000000 in
set_option maxRecDepth 100000 in
/-- reference: notFact -/
theorem y_notFact_S (l : Launch) (D : va_G) (cA : Nat → ClassId) (sa : Nat → Nat) (k9 : Nat) (IHf : YFactC l D cA sa k9) (IHc : YCondC l D cA sa k9) (w0 : Nat) (ed : Nat) (nb : Nat) (ol : Nat) (v0 : Nat) (v1 : Nat) (v2 : Nat) (v3 : Nat) (v4 : Nat) (v9 : Nat) (v13 : Nat) (v27 : Nat) (v28 : Nat) (v29 : Nat) (v30 : Nat) (v31 : Nat) (v32 : Nat) (v33 : Nat) (v34 : Nat) (v35 : Nat) (v36 : Nat) (v37 : Nat) (g8 : Int32) (g11 : Int32) (g12 : Int32) (g19 : Int32) (g20 : Int32) (g21 : Int32) (g23 : Int32) (g26 : Int32) (g5 : Int64) (g6 : Int64) (g25 : Int64) (ln : Nat) (cd : Nat) (tk : Int32) (kw : Int32) (ti : Nat) (ct : Nat) (fb : Nat → Int32) (fkw : Nat → Int64) (gP : Nat → Nat) (gR : Nat → Nat) (gS : Nat → Int32) (gK : Nat → Int32) (gV : Nat → Int64) (cn : Nat) (pq : Nat) (en : Nat) (dy : Nat) (fp : Nat → Int32) (sl : Nat) (o9 : Nat) (l28 : Nat → Int64) (l30 : Nat → Int64) (fc : Nat → Int32) (ml : List Int64) (pl : List Int64) (sz : Nat) (hln : ln ≤ 700) (hct : ct ≤ 701) (hti : ti < ct) (hTX : TX fb ln ct gP gR gS gV gK) (hBY : BYn ln fb) (hTK : TKR (gK ti) (gV ti) (fb (gP ti)) tk kw g19 g25) (hKW : KW 15 fkw) (hcn : cn ≤ 10) (hpq : pq ≤ 8) (hen : en ≤ 60) (hdy : dy ≤ 20000) (hri : RI cn pq en dy fp) (hcd : 2 * cd + sl ≤ gP ti) (hNM : NL ml cn l28) (hNP : NL pl pq l30) (hk : gK ti = 16) (ho : o9 + (k9 + 1) = 8) : Met l yX10_notFact wsX10_notFact ({ frames := 4 * (k9 + 1) + 20, cells := 0, slots := 0, locals := 80 * (k9 + 1) + 320 }) (va_Pc [.ref w0] (Wd D cA sa [(oX10 w0 v0 v1 v2 v3 v4 g5 g6 (nI ed) g8 v9 (nI nb) g11 g12 v13 (nI ln) (nI (gP ti)) (nI (gR (ti + 1))) tk kw g19 g20 g21 (nI o9) g23 (nI cd) g25 g26 v27 v28 v29 v30 v31 v32 v33 v34 v35 v36 v37 (nI ol)), (v1, .inl (cA 0, 326, .inl fp)), (v9, .inl (cA 0, 700, .inl fb)), (v13, .inl (cA 1, 15, .inr (.inl fkw))), (v28, .inl (cA 1, 10, .inr (.inl l28))), (v30, .inl (cA 1, 8, .inr (.inl l30))), (v32, .inl (cA 0, 400, .inl fc))] sz)) (va_Qi (fun (r : Int32) (u9 : Int32) => u9 = r ∧ (r = 0 ∨ r = 1)) (fun (u9 : Int32) t => ∃ tj : Nat, ∃ z17 : Int32, ∃ z18 : Int32, ∃ z19 : Int32, ∃ z20 : Int32, ∃ z21 : Int32, ∃ z26 : Int32, ∃ z25 : Int64, ∃ cd2 : Nat, ∃ pq2 : Nat, ∃ zop : Int32, ∃ zp : Nat → Int32, ∃ zc : Nat → Int32, ∃ zl : Nat → Int64, ∃ zpl : List Int64, tj < ct ∧ gP tj ≤ ln ∧ ti ≤ tj ∧ TKR (gK tj) (gV tj) (fb (gP tj)) z17 z18 z19 z25 ∧ pq2 ≤ 8 ∧ RI cn pq2 en dy zp ∧ NL zpl pq2 zl ∧ (u9 = 1 → zop = (nI o9)) ∧ (u9 = 1 → z20 = g20) ∧ (u9 = 1 → z21 = g21) ∧ (u9 = 1 → ti + 1 ≤ tj) ∧ (u9 = 1 → cd ≤ cd2) ∧ (u9 = 1 → 2 * cd2 + sl ≤ gP tj) ∧ (u9 = 1 → Kp cd fc zc) ∧ (u9 = 1 → Sg cd cd2 zc) ∧ (u9 = 1 → PRx gK gS gV ml 0 o9 ti pl (.inr (tj, zpl))) ∧ (u9 = 0 → PRx gK gS gV ml 0 o9 ti pl (.inl (z20, z21))) ∧ Wq D (va_A [(oX10 w0 v0 v1 v2 v3 v4 g5 g6 (nI ed) g8 v9 (nI nb) g11 g12 v13 (nI ln) (nI (gP ti)) (nI (gR (ti + 1))) tk kw g19 g20 g21 (nI o9) g23 (nI cd) g25 g26 v27 v28 v29 v30 v31 v32 v33 v34 v35 v36 v37 (nI ol)), (v1, .inl (cA 0, 326, .inl fp)), (v9, .inl (cA 0, 700, .inl fb)), (v13, .inl (cA 1, 15, .inr (.inl fkw))), (v28, .inl (cA 1, 10, .inr (.inl l28))), (v30, .inl (cA 1, 8, .inr (.inl l30))), (v32, .inl (cA 0, 400, .inl fc))] sz) [(oX10 w0 v0 v1 v2 v3 v4 g5 g6 (nI ed) g8 v9 (nI nb) g11 g12 v13 (nI ln) (nI (gP tj)) (nI (gR (tj + 1))) z17 z18 z19 z20 z21 zop g23 (nI cd2) z25 z26 v27 v28 v29 v30 v31 v32 v33 v34 v35 v36 v37 (nI ol)), (v1, .inl (cA 0, 326, .inl zp)), (v9, .inl (cA 0, 700, .inl fb)), (v13, .inl (cA 1, 15, .inr (.inl fkw))), (v28, .inl (cA 1, 10, .inr (.inl l28))), (v30, .inl (cA 1, 8, .inr (.inl zl))), (v32, .inl (cA 0, 400, .inl zc))] t) (va_A [(oX10 w0 v0 v1 v2 v3 v4 g5 g6 (nI ed) g8 v9 (nI nb) g11 g12 v13 (nI ln) (nI (gP ti)) (nI (gR (ti + 1))) tk kw g19 g20 g21 (nI o9) g23 (nI cd) g25 g26 v27 v28 v29 v30 v31 v32 v33 v34 v35 v36 v37 (nI ol)), (v1, .inl (cA 0, 326, .inl fp)), (v9, .inl (cA 0, 700, .inl fb)), (v13, .inl (cA 1, 15, .inr (.inl fkw))), (v28, .inl (cA 1, 10, .inr (.inl l28))), (v30, .inl (cA 1, 8, .inr (.inl l30))), (v32, .inl (cA 0, 400, .inl fc))] sz)) 0 0 (va_A [(oX10 w0 v0 v1 v2 v3 v4 g5 g6 (nI ed) g8 v9 (nI nb) g11 g12 v13 (nI ln) (nI (gP ti)) (nI (gR (ti + 1))) tk kw g19 g20 g21 (nI o9) g23 (nI cd) g25 g26 v27 v28 v29 v30 v31 v32 v33 v34 v35 v36 v37 (nI ol)), (v1, .inl (cA 0, 326, .inl fp)), (v9, .inl (cA 0, 700, .inl fb)), (v13, .inl (cA 1, 15, .inr (.inl fkw))), (v28, .inl (cA 1, 10, .inr (.inl l28))), (v30, .inl (cA 1, 8, .inr (.inl l30))), (v32, .inl (cA 0, 400, .inl fc))] sz) := by
  refine Met.ofW (cc := cX10_notFact) (maxL := 1) (ret := (some .boolean)) (by decide) rfl ?_
  intro p e s m args below meth c s₁ B hml hv
  obtain ⟨rfl, hsz, hP, hK, hD0, hC, hZ⟩ := hv
  have hx := B.exec
  have hb := B.bytes
  have hr := B.returns
  have hts := atoms_spec (ws := wsX10_notFact) B.pre
  have hown : s.vm.findClass RX10 = some m.cls := findClass_of_methodNamed B.named
  have hlocks := B.notSynchronized
  subst hsz
  have hD := hD0.self (sz := s.heap.size)
  generalize hAe : va_A [(oX10 w0 v0 v1 v2 v3 v4 g5 g6 (nI ed) g8 v9 (nI nb) g11 g12 v13 (nI ln) (nI (gP ti)) (nI (gR (ti + 1))) tk kw g19 g20 g21 (nI o9) g23 (nI cd) g25 g26 v27 v28 v29 v30 v31 v32 v33 v34 v35 v36 v37 (nI ol)), (v1, .inl (cA 0, 326, .inl fp)), (v9, .inl (cA 0, 700, .inl fb)), (v13, .inl (cA 1, 15, .inr (.inl fkw))), (v28, .inl (cA 1, 10, .inr (.inl l28))), (v30, .inl (cA 1, 8, .inr (.inl l30))), (v32, .inl (cA 0, 400, .inl fc))] s.heap.size = A at hD hZ ⊢
  have hA : ∀ q : Nat, s.heap.size ≤ q → A q := fun q h => by rw [← hAe]; exact Or.inr h
  have hS : va_S A s.heap s.heap [] := va_S.rf
  have hP : va_P D vwCl [(oX10 w0 v0 v1 v2 v3 v4 g5 g6 (nI ed) g8 v9 (nI nb) g11 g12 v13 (nI ln) (nI (gP ti)) (nI (gR (ti + 1))) tk kw g19 g20 g21 (nI o9) g23 (nI cd) g25 g26 v27 v28 v29 v30 v31 v32 v33 v34 v35 v36 v37 (nI ol)), (v1, .inl (cA 0, 326, .inl fp)), (v9, .inl (cA 0, 700, .inl fb)), (v13, .inl (cA 1, 15, .inr (.inl fkw))), (v28, .inl (cA 1, 10, .inr (.inl l28))), (v30, .inl (cA 1, 8, .inr (.inl l30))), (v32, .inl (cA 0, 400, .inl fc))] s.heap := hP
  have hl := lv_entry ([.ref w0]) (n := 1) (Nat.le_of_ble_eq_true rfl)
  rw [lg_entry_eq]
  generalize (lg_sl ([.ref w0]) ++ List.replicate (1 - (lg_sl ([.ref w0])).length) Slot.unset).toArray = ls at hl ⊢
  have hl : lv_has ls 1 [(0, .ref w0)] := hl
  have inX10 : ∀ w ∈ u_ws RX10 TX10 39, w ∈ wsX10_notFact := by decide +kernel
  have hle9 := TX.le hTX hti
  have hn1 := TX.go2 hTX hti (by rw [hk]; decide)
  have hn1b := TX.le hTX hn1.1
  refine lv_aload_n hx hb dX10_notFact_0 rfl (lv_at hl 0 rfl) ?_
  obtain ⟨hPc, hDc, hFc⟩ := PDq.cut (wc := [(oX10 w0 v0 v1 v2 v3 v4 g5 g6 (nI ed) g8 v9 (nI nb) g11 g12 v13 (nI ln) (nI (gP ti)) (nI (gR (ti + 1))) tk kw g19 g20 g21 (nI o9) g23 (nI cd) g25 g26 v27 v28 v29 v30 v31 v32 v33 v34 v35 v36 v37 (nI ol)), (v9, .inl (cA 0, 700, .inl fb)), (v13, .inl (cA 1, 15, .inr (.inl fkw)))]) hP hD hS hA [0, 2, 3] (by decide) rfl
  refine va_calli (va_runV (As := []) (rest := []) ⟨hx, hb, hml, hown, hts⟩ (y_opens_S l D cA sa w0 ed nb ol v0 v1 v2 v3 v4 v9 v13 v27 v28 v29 v30 v31 v32 v33 v34 v35 v36 v37 g8 g11 g12 g19 g20 g21 g23 g26 g5 g6 g25 ln cd tk kw ti ct fb fkw gP gR gS gK gV o9 s.heap.size hln hct hti hTX hBY hTK hKW (by omega) hn1.1) (cwV 0 hts gX10_notFact_X10_opens rfl rfl rfl (by decide +kernel) ⟨by show (2) + 1 ≤ 4 * (k9 + 1) + 20; omega, by show 8 + (1 + 11) + (44) ≤ 80 * (k9 + 1) + 320; omega⟩) ⟨Wd.blind, va_recv hK hPc (ci := 11) (q0 := 0) rfl rfl, fun U hU hW => ⟨rfl, Wd.call hPc hDc hK hC hZ hS hFc U hU hW⟩⟩ rfl rfl hl.1 rfl (lv_room (Nat.le_of_ble_eq_true rfl)) dX10_notFact_1 ⟨(Nat.le_of_ble_eq_true rfl), (Nat.le_of_ble_eq_true rfl)⟩) hS (fun q _ h => hFc q h) hFc (fun rn2 u t H1 locs ht hvm hw hB hz1 hk1 hS => ?_)
  obtain ⟨zn3, zn4, zn5, zn6, hn7, hP1, hD1⟩ := hB
  rw [ht] at hP1
  obtain ⟨hP, hD⟩ := PDq.join (w := [(v1, .inl (cA 0, 326, .inl fp)), (v28, .inl (cA 1, 10, .inr (.inl l28))), (v30, .inl (cA 1, 8, .inr (.inl l30))), (v32, .inl (cA 0, 400, .inl fc)), (oX10 w0 v0 v1 v2 v3 v4 g5 g6 (nI ed) g8 v9 (nI nb) g11 g12 v13 (nI ln) (nI (gP (ti + 1))) (nI (gR ((ti + 1) + 1))) zn3 zn4 zn5 g20 g21 (nI (o9 + 1)) g23 (nI cd) zn6 g26 v27 v28 v29 v30 v31 v32 v33 v34 v35 v36 v37 (nI ol)), (v9, .inl (cA 0, 700, .inl fb)), (v13, .inl (cA 1, 15, .inr (.inl fkw)))]) 4 hP hD [0, 2, 3] [1, 4, 5, 6] rfl rfl (by decide) (by decide) hk1 hFc hP1 hD1 rfl
  generalize H1 = H at hP hS ⊢
  obtain rfl : rn2 = 1 := hw
  refine lv_if_eq (tgt := 14) hx hb dX10_notFact_4 (by decide) (fun c9 => absurd c9 (by decide)) (fun c8 => ?_)
  refine lv_aload_n hx hb dX10_notFact_7 rfl (lv_at hl 0 rfl) ?_
  obtain ⟨hPc, hDc, hFc⟩ := PDq.cut (wc := [(oX10 w0 v0 v1 v2 v3 v4 g5 g6 (nI ed) g8 v9 (nI nb) g11 g12 v13 (nI ln) (nI (gP (ti + 1))) (nI (gR ((ti + 1) + 1))) zn3 zn4 zn5 g20 g21 (nI (o9 + 1)) g23 (nI cd) zn6 g26 v27 v28 v29 v30 v31 v32 v33 v34 v35 v36 v37 (nI ol)), (v1, .inl (cA 0, 326, .inl fp)), (v9, .inl (cA 0, 700, .inl fb)), (v13, .inl (cA 1, 15, .inr (.inl fkw))), (v28, .inl (cA 1, 10, .inr (.inl l28))), (v30, .inl (cA 1, 8, .inr (.inl l30))), (v32, .inl (cA 0, 400, .inl fc))]) hP hD hS hA [4, 0, 5, 6, 1, 2, 3] (by decide) rfl
  refine va_calli (va_runV (As := []) (rest := []) ⟨hx, hb, hml, hown, hts⟩ (IHf w0 ed nb ol v0 v1 v2 v3 v4 v9 v13 v27 v28 v29 v30 v31 v32 v33 v34 v35 v36 v37 g8 g11 g12 zn5 g20 g21 g23 g26 g5 g6 zn6 ln cd zn3 zn4 (ti + 1) ct fb fkw gP gR gS gK gV cn pq en dy fp (sl + 2) (o9 + 1) l28 l30 fc ml pl H.size hln hct hn1.1 hTX hBY hn7 hKW hcn hpq hen hdy hri (by omega) hNM hNP (by omega)) (cwV 0 hts gX10_notFact_X10_fact rfl rfl rfl (by decide +kernel) ⟨by show (4 * k9 + 21) + 1 ≤ 4 * (k9 + 1) + 20; omega, by show 8 + (1 + 11) + (80 * k9 + 340) ≤ 80 * (k9 + 1) + 320; omega⟩) ⟨Wd.blind, va_recv hK hPc (ci := 11) (q0 := 0) rfl rfl, fun U hU hW => ⟨rfl, Wd.call hPc hDc hK hC hZ hS hFc U hU hW⟩⟩ rfl rfl hl.1 rfl (lv_room (Nat.le_of_ble_eq_true rfl)) dX10_notFact_8 ⟨(Nat.le_of_ble_eq_true rfl), (Nat.le_of_ble_eq_true rfl)⟩) hS (fun q _ h => hFc q h) hFc (fun rn9 u t H1 locs ht hvm hw hB hz1 hk1 hS => ?_)
  obtain ⟨qn10, zn11, zn12, zn13, zn14, zn15, zn16, zn17, qn18, qn19, zn20, fn21, fn22, fn23, zn24, hn25, hn26, hn27, hn28, hn29, hn30, hn31, hn32, hn33, hn34, hn35, hn36, hn37, hn38, hn39, hn40, hn41, hP1, hD1⟩ := hB
  rw [ht] at hP1
  obtain ⟨hP, hD⟩ := PDq.join (w := [(oX10 w0 v0 v1 v2 v3 v4 g5 g6 (nI ed) g8 v9 (nI nb) g11 g12 v13 (nI ln) (nI (gP qn10)) (nI (gR (qn10 + 1))) zn11 zn12 zn13 zn14 zn15 zn20 g23 (nI qn18) zn17 zn16 v27 v28 v29 v30 v31 v32 v33 v34 v35 v36 v37 (nI ol)), (v1, .inl (cA 0, 326, .inl fn21)), (v9, .inl (cA 0, 700, .inl fb)), (v13, .inl (cA 1, 15, .inr (.inl fkw))), (v28, .inl (cA 1, 10, .inr (.inl l28))), (v30, .inl (cA 1, 8, .inr (.inl fn23))), (v32, .inl (cA 0, 400, .inl fn22))]) 0 hP hD [4, 0, 5, 6, 1, 2, 3] [] rfl rfl (by decide) (by decide) hk1 hFc hP1 hD1 rfl
  generalize H1 = H at hP hS ⊢
  rcases hw.2 with hr9 | hr9
  · skip
    have hn41 := hn41 (hw.1.trans hr9)
    subst hr9
    refine lv_if_ne (tgt := 16) hx hb dX10_notFact_11 (by decide) (fun c9 => absurd c9 (by decide)) (fun c42 => ?_)
    refine lv_iconst (v := 0) hx hb dX10_notFact_14 (by decide) ?_
    obtain ⟨hP9, hD9⟩ := PDq.sub (ws' := [(oX10 w0 v0 v1 v2 v3 v4 g5 g6 (nI ed) g8 v9 (nI nb) g11 g12 v13 (nI ln) (nI (gP qn10)) (nI (gR (qn10 + 1))) zn11 zn12 zn13 zn14 zn15 zn20 g23 (nI qn18) zn17 zn16 v27 v28 v29 v30 v31 v32 v33 v34 v35 v36 v37 (nI ol)), (v1, .inl (cA 0, 326, .inl fn21)), (v9, .inl (cA 0, 700, .inl fb)), (v13, .inl (cA 1, 15, .inr (.inl fkw))), (v28, .inl (cA 1, 10, .inr (.inl l28))), (v30, .inl (cA 1, 8, .inr (.inl fn23))), (v32, .inl (cA 0, 400, .inl fn22))]) hP hD [0, 1, 2, 3, 4, 5, 6] (by decide) rfl
    refine W.widen (k := 0) (n := 0) (Nat.le_of_ble_eq_true rfl) (Nat.le_of_ble_eq_true rfl) ?_
    exact (W.zret (v := 0) hx hb hr (by first | rfl | decide) (fun t ht hW => ⟨⟨0, 0, rfl, ⟨rfl, by decide⟩, qn10, zn11, zn12, zn13, zn14, zn15, zn16, zn17, qn18, qn19, zn20, fn21, fn22, fn23, zn24, hn25, hn26, (by omega), hn28, hn29, hn30, hn31, (fun h9 => absurd h9 (by decide)), (fun h9 => absurd h9 (by decide)), (fun h9 => absurd h9 (by decide)), (fun h9 => absurd h9 (by decide)), (fun h9 => absurd h9 (by decide)), (fun h9 => absurd h9 (by decide)), (fun h9 => absurd h9 (by decide)), (fun h9 => absurd h9 (by decide)), (fun h9 => absurd h9 (by decide)), (fun _ => (P_not hk (by omega) hn41)), by rw [ht]; exact hP9, hD9⟩, hS.F ht⟩) hS.2.2 dX10_notFact_15)
  · skip
    have hn32 := hn32 (hw.1.trans hr9)
    subst hn32
    obtain ⟨hP, hD⟩ : PDq D A [(oX10 w0 v0 v1 v2 v3 v4 g5 g6 (nI ed) g8 v9 (nI nb) g11 g12 v13 (nI ln) (nI (gP qn10)) (nI (gR (qn10 + 1))) zn11 zn12 zn13 zn14 zn15 (nI (o9 + 1)) g23 (nI qn18) zn17 zn16 v27 v28 v29 v30 v31 v32 v33 v34 v35 v36 v37 (nI ol)), (v1, .inl (cA 0, 326, .inl fn21)), (v9, .inl (cA 0, 700, .inl fb)), (v13, .inl (cA 1, 15, .inr (.inl fkw))), (v28, .inl (cA 1, 10, .inr (.inl l28))), (v30, .inl (cA 1, 8, .inr (.inl fn23))), (v32, .inl (cA 0, 400, .inl fn22))] H := ⟨hP, hD⟩
    have hn33 := hn33 (hw.1.trans hr9)
    obtain rfl : g20 = zn14 := hn33.symm
    obtain ⟨hP, hD⟩ : PDq D A [(oX10 w0 v0 v1 v2 v3 v4 g5 g6 (nI ed) g8 v9 (nI nb) g11 g12 v13 (nI ln) (nI (gP qn10)) (nI (gR (qn10 + 1))) zn11 zn12 zn13 g20 zn15 (nI (o9 + 1)) g23 (nI qn18) zn17 zn16 v27 v28 v29 v30 v31 v32 v33 v34 v35 v36 v37 (nI ol)), (v1, .inl (cA 0, 326, .inl fn21)), (v9, .inl (cA 0, 700, .inl fb)), (v13, .inl (cA 1, 15, .inr (.inl fkw))), (v28, .inl (cA 1, 10, .inr (.inl l28))), (v30, .inl (cA 1, 8, .inr (.inl fn23))), (v32, .inl (cA 0, 400, .inl fn22))] H := ⟨hP, hD⟩
    have hn34 := hn34 (hw.1.trans hr9)
    obtain rfl : g21 = zn15 := hn34.symm
    obtain ⟨hP, hD⟩ : PDq D A [(oX10 w0 v0 v1 v2 v3 v4 g5 g6 (nI ed) g8 v9 (nI nb) g11 g12 v13 (nI ln) (nI (gP qn10)) (nI (gR (qn10 + 1))) zn11 zn12 zn13 g20 g21 (nI (o9 + 1)) g23 (nI qn18) zn17 zn16 v27 v28 v29 v30 v31 v32 v33 v34 v35 v36 v37 (nI ol)), (v1, .inl (cA 0, 326, .inl fn21)), (v9, .inl (cA 0, 700, .inl fb)), (v13, .inl (cA 1, 15, .inr (.inl fkw))), (v28, .inl (cA 1, 10, .inr (.inl l28))), (v30, .inl (cA 1, 8, .inr (.inl fn23))), (v32, .inl (cA 0, 400, .inl fn22))] H := ⟨hP, hD⟩
    have hn35 := hn35 (hw.1.trans hr9)
    have hn36 := hn36 (hw.1.trans hr9)
    have hn37 := hn37 (hw.1.trans hr9)
    have hn38 := hn38 (hw.1.trans hr9)
    have hn39 := hn39 (hw.1.trans hr9)
    have hn40 := hn40 (hw.1.trans hr9)
    subst hr9
    refine lv_if_ne (tgt := 16) hx hb dX10_notFact_11 (by decide) (fun c43 => ?_) (fun c9 => absurd c9 (by decide))
    refine lv_aload_n hx hb dX10_notFact_16 rfl (lv_at hl 0 rfl) ?_
    refine lv_dup hx hb dX10_notFact_17 rfl ?_
    refine va_get (D := D) (ci := 11) (v := .int (nI (o9 + 1))) (C := RX10) (T := TX10) (N := 39) hx hb hts inX10 hown hK hP 0 rfl rfl 22 (by decide) (hts (.fieldLink RX10 182 "EscrowDeskModel" "open" "I") (by decide +kernel)) (fun _ h9 => h9) rfl dX10_notFact_18 ?_
    refine lv_iconst (v := 1) hx hb dX10_notFact_21 (by decide) ?_
    refine lv_isub hx hb dX10_notFact_22 ?_
    refine lv_topi (fun yn44 eyn44 => ?_)
    obtain rfl : yn44 = (nI ((o9 + 1) - 1)) := eyn44.trans (nI_sub (a := (o9 + 1)) (b := 1) (by omega))
    refine va_put (D := D) (ci := 11) (v := .int (nI ((o9 + 1) - 1))) (ty := .int) (C := RX10) (T := TX10) (N := 39) hx hb hts inX10 tyX10 tyX10_ok nmX10 hown hK hP hD hS 0 rfl rfl 22 (by decide) (hts (.fieldLink RX10 182 "EscrowDeskModel" "open" "I") (by decide +kernel)) (fun _ h9 => h9) rfl (by decide +kernel) rfl rfl (Nat.le_of_ble_eq_true rfl) dX10_notFact_23 (fun H locs hP hD hS => ?_)
    obtain ⟨hP, hD⟩ : PDq D A [(oX10 w0 v0 v1 v2 v3 v4 g5 g6 (nI ed) g8 v9 (nI nb) g11 g12 v13 (nI ln) (nI (gP qn10)) (nI (gR (qn10 + 1))) zn11 zn12 zn13 g20 g21 (nI ((o9 + 1) - 1)) g23 (nI qn18) zn17 zn16 v27 v28 v29 v30 v31 v32 v33 v34 v35 v36 v37 (nI ol)), (v1, .inl (cA 0, 326, .inl fn21)), (v9, .inl (cA 0, 700, .inl fb)), (v13, .inl (cA 1, 15, .inr (.inl fkw))), (v28, .inl (cA 1, 10, .inr (.inl l28))), (v30, .inl (cA 1, 8, .inr (.inl fn23))), (v32, .inl (cA 0, 400, .inl fn22))] H := ⟨hP, hD⟩
    refine lv_aload_n hx hb dX10_notFact_26 rfl (lv_at hl 0 rfl) ?_
    refine lv_bipush (v := (-3)) hx hb dX10_notFact_27 (by decide) ?_
    obtain ⟨hPc, hDc, hFc⟩ := PDq.cut (wc := [(oX10 w0 v0 v1 v2 v3 v4 g5 g6 (nI ed) g8 v9 (nI nb) g11 g12 v13 (nI ln) (nI (gP qn10)) (nI (gR (qn10 + 1))) zn11 zn12 zn13 g20 g21 (nI ((o9 + 1) - 1)) g23 (nI qn18) zn17 zn16 v27 v28 v29 v30 v31 v32 v33 v34 v35 v36 v37 (nI ol)), (v32, .inl (cA 0, 400, .inl fn22))]) hP hD hS hA [0, 6] (by decide) rfl
    refine va_calli (va_runV (As := [.int (-3)]) (rest := []) ⟨hx, hb, hml, hown, hts⟩ (r_emit l D cA sa w0 ed nb ol v0 v1 v2 v3 v4 v9 v13 v27 v28 v29 v30 v31 v32 v33 v34 v35 v36 v37 g8 g11 g12 (nI ln) (nI (gP qn10)) (nI (gR (qn10 + 1))) zn11 zn12 zn13 g20 g21 (nI ((o9 + 1) - 1)) g23 zn16 g5 g6 zn17 qn18 (-3) fn22 H.size (by omega)) (cwV 1 hts gX10_notFact_X10_emit rfl rfl rfl (by decide +kernel) ⟨by show (0) + 1 ≤ 4 * (k9 + 1) + 20; omega, by show 8 + (2 + 11) + (0) ≤ 80 * (k9 + 1) + 320; omega⟩) ⟨Wd.blind, va_recv hK hPc (ci := 11) (q0 := 0) rfl rfl, fun U hU hW => ⟨rfl, Wd.call hPc hDc hK hC hZ hS hFc U hU hW⟩⟩ rfl rfl hl.1 rfl (lv_room (Nat.le_of_ble_eq_true rfl)) dX10_notFact_29 ⟨(Nat.le_of_ble_eq_true rfl), (Nat.le_of_ble_eq_true rfl)⟩) hS (fun q _ h => hFc q h) hFc (fun rn45 u t H1 locs ht hvm hw hB hz1 hk1 hS => ?_)
    obtain ⟨fn46, hn47, hP1, hD1⟩ := hB
    rw [ht] at hP1
    obtain ⟨hP, hD⟩ := PDq.join (w := [(v1, .inl (cA 0, 326, .inl fn21)), (v9, .inl (cA 0, 700, .inl fb)), (v13, .inl (cA 1, 15, .inr (.inl fkw))), (v28, .inl (cA 1, 10, .inr (.inl l28))), (v30, .inl (cA 1, 8, .inr (.inl fn23))), (oX10 w0 v0 v1 v2 v3 v4 g5 g6 (nI ed) g8 v9 (nI nb) g11 g12 v13 (nI ln) (nI (gP qn10)) (nI (gR (qn10 + 1))) zn11 zn12 zn13 g20 g21 (nI ((o9 + 1) - 1)) g23 (nI (qn18 + 1)) zn17 zn16 v27 v28 v29 v30 v31 v32 v33 v34 v35 v36 v37 (nI ol)), (v32, .inl (cA 0, 400, .inl fn46))]) 5 hP hD [0, 6] [1, 2, 3, 4, 5] rfl rfl (by decide) (by decide) hk1 hFc hP1 hD1 rfl
    generalize H1 = H at hP hS ⊢
    obtain rfl : rn45 = 1 := hw
    obtain ⟨hP9, hD9⟩ := PDq.sub (ws' := [(oX10 w0 v0 v1 v2 v3 v4 g5 g6 (nI ed) g8 v9 (nI nb) g11 g12 v13 (nI ln) (nI (gP qn10)) (nI (gR (qn10 + 1))) zn11 zn12 zn13 g20 g21 (nI ((o9 + 1) - 1)) g23 (nI (qn18 + 1)) zn17 zn16 v27 v28 v29 v30 v31 v32 v33 v34 v35 v36 v37 (nI ol)), (v1, .inl (cA 0, 326, .inl fn21)), (v9, .inl (cA 0, 700, .inl fb)), (v13, .inl (cA 1, 15, .inr (.inl fkw))), (v28, .inl (cA 1, 10, .inr (.inl l28))), (v30, .inl (cA 1, 8, .inr (.inl fn23))), (v32, .inl (cA 0, 400, .inl fn46))]) hP hD [5, 0, 1, 2, 3, 4, 6] (by decide) rfl
    refine W.widen (k := 0) (n := 0) (Nat.le_of_ble_eq_true rfl) (Nat.le_of_ble_eq_true rfl) ?_
    exact (W.zret (v := 1) hx hb hr (by first | rfl | decide) (fun t ht hW => ⟨⟨1, 1, rfl, ⟨rfl, by decide⟩, qn10, zn11, zn12, zn13, g20, g21, zn16, zn17, (qn18 + 1), qn19, (nI ((o9 + 1) - 1)), fn21, fn46, fn23, zn24, hn25, hn26, (by omega), hn28, hn29, hn30, hn31, (fun _ => (by rw [show (o9 + 1) - 1 = o9 by omega])), (fun _ => rfl), (fun _ => rfl), (fun _ => (by omega)), (fun _ => (by omega)), (fun _ => (by omega)), (fun _ => (Kp.tr hn38 (Em.kp hn47) (by omega))), (fun _ => (Sg.inv hn39 hn47 rfl)), (fun _ => (P_not hk (by omega) hn40)), (fun h9 => absurd h9 (by decide)), by rw [ht]; exact hP9, hD9⟩, hS.F ht⟩) hS.2.2 dX10_notFact_32)

set_option maxHeartbeats 4000000 in
set_option maxRecDepth 100000 in
/-- reference: bracket -/
theorem y_bracket_S (l : Launch) (D : va_G) (cA : Nat → ClassId) (sa : Nat → Nat) (k9 : Nat) (IHf : YFactC l D cA sa k9) (IHc : YCondC l D cA sa k9) (w0 : Nat) (ed : Nat) (nb : Nat) (ol : Nat) (v0 : Nat) (v1 : Nat) (v2 : Nat) (v3 : Nat) (v4 : Nat) (v9 : Nat) (v13 : Nat) (v27 : Nat) (v28 : Nat) (v29 : Nat) (v30 : Nat) (v31 : Nat) (v32 : Nat) (v33 : Nat) (v34 : Nat) (v35 : Nat) (v36 : Nat) (v37 : Nat) (g8 : Int32) (g11 : Int32) (g12 : Int32) (g19 : Int32) (g20 : Int32) (g21 : Int32) (g23 : Int32) (g26 : Int32) (g5 : Int64) (g6 : Int64) (g25 : Int64) (ln : Nat) (cd : Nat) (tk : Int32) (kw : Int32) (ti : Nat) (ct : Nat) (fb : Nat → Int32) (fkw : Nat → Int64) (gP : Nat → Nat) (gR : Nat → Nat) (gS : Nat → Int32) (gK : Nat → Int32) (gV : Nat → Int64) (cn : Nat) (pq : Nat) (en : Nat) (dy : Nat) (fp : Nat → Int32) (sl : Nat) (o9 : Nat) (l28 : Nat → Int64) (l30 : Nat → Int64) (fc : Nat → Int32) (ml : List Int64) (pl : List Int64) (sz : Nat) (hln : ln ≤ 700) (hct : ct ≤ 701) (hti : ti < ct) (hTX : TX fb ln ct gP gR gS gV gK) (hBY : BYn ln fb) (hTK : TKR (gK ti) (gV ti) (fb (gP ti)) tk kw g19 g25) (hKW : KW 15 fkw) (hcn : cn ≤ 10) (hpq : pq ≤ 8) (hen : en ≤ 60) (hdy : dy ≤ 20000) (hri : RI cn pq en dy fp) (hcd : 2 * cd + sl ≤ gP ti) (hNM : NL ml cn l28) (hNP : NL pl pq l30) (hk : gK ti = 5) (ho : o9 + (k9 + 1) = 8) : Met l yX10_bracket wsX10_bracket ({ frames := 4 * (k9 + 1) + 20, cells := 0, slots := 0, locals := 80 * (k9 + 1) + 320 }) (va_Pc [.ref w0] (Wd D cA sa [(oX10 w0 v0 v1 v2 v3 v4 g5 g6 (nI ed) g8 v9 (nI nb) g11 g12 v13 (nI ln) (nI (gP ti)) (nI (gR (ti + 1))) tk kw g19 g20 g21 (nI o9) g23 (nI cd) g25 g26 v27 v28 v29 v30 v31 v32 v33 v34 v35 v36 v37 (nI ol)), (v1, .inl (cA 0, 326, .inl fp)), (v9, .inl (cA 0, 700, .inl fb)), (v13, .inl (cA 1, 15, .inr (.inl fkw))), (v28, .inl (cA 1, 10, .inr (.inl l28))), (v30, .inl (cA 1, 8, .inr (.inl l30))), (v32, .inl (cA 0, 400, .inl fc))] sz)) (va_Qi (fun (r : Int32) (u9 : Int32) => u9 = r ∧ (r = 0 ∨ r = 1)) (fun (u9 : Int32) t => ∃ tj : Nat, ∃ z17 : Int32, ∃ z18 : Int32, ∃ z19 : Int32, ∃ z20 : Int32, ∃ z21 : Int32, ∃ z26 : Int32, ∃ z25 : Int64, ∃ cd2 : Nat, ∃ pq2 : Nat, ∃ zop : Int32, ∃ zp : Nat → Int32, ∃ zc : Nat → Int32, ∃ zl : Nat → Int64, ∃ zpl : List Int64, tj < ct ∧ gP tj ≤ ln ∧ ti ≤ tj ∧ TKR (gK tj) (gV tj) (fb (gP tj)) z17 z18 z19 z25 ∧ pq2 ≤ 8 ∧ RI cn pq2 en dy zp ∧ NL zpl pq2 zl ∧ (u9 = 1 → zop = (nI o9)) ∧ (u9 = 1 → z20 = g20) ∧ (u9 = 1 → z21 = g21) ∧ (u9 = 1 → ti + 1 ≤ tj) ∧ (u9 = 1 → cd ≤ cd2) ∧ (u9 = 1 → 2 * cd2 + sl ≤ gP tj) ∧ (u9 = 1 → Kp cd fc zc) ∧ (u9 = 1 → Sg cd cd2 zc) ∧ (u9 = 1 → PRx gK gS gV ml 0 o9 ti pl (.inr (tj, zpl))) ∧ (u9 = 0 → PRx gK gS gV ml 0 o9 ti pl (.inl (z20, z21))) ∧ Wq D (va_A [(oX10 w0 v0 v1 v2 v3 v4 g5 g6 (nI ed) g8 v9 (nI nb) g11 g12 v13 (nI ln) (nI (gP ti)) (nI (gR (ti + 1))) tk kw g19 g20 g21 (nI o9) g23 (nI cd) g25 g26 v27 v28 v29 v30 v31 v32 v33 v34 v35 v36 v37 (nI ol)), (v1, .inl (cA 0, 326, .inl fp)), (v9, .inl (cA 0, 700, .inl fb)), (v13, .inl (cA 1, 15, .inr (.inl fkw))), (v28, .inl (cA 1, 10, .inr (.inl l28))), (v30, .inl (cA 1, 8, .inr (.inl l30))), (v32, .inl (cA 0, 400, .inl fc))] sz) [(oX10 w0 v0 v1 v2 v3 v4 g5 g6 (nI ed) g8 v9 (nI nb) g11 g12 v13 (nI ln) (nI (gP tj)) (nI (gR (tj + 1))) z17 z18 z19 z20 z21 zop g23 (nI cd2) z25 z26 v27 v28 v29 v30 v31 v32 v33 v34 v35 v36 v37 (nI ol)), (v1, .inl (cA 0, 326, .inl zp)), (v9, .inl (cA 0, 700, .inl fb)), (v13, .inl (cA 1, 15, .inr (.inl fkw))), (v28, .inl (cA 1, 10, .inr (.inl l28))), (v30, .inl (cA 1, 8, .inr (.inl zl))), (v32, .inl (cA 0, 400, .inl zc))] t) (va_A [(oX10 w0 v0 v1 v2 v3 v4 g5 g6 (nI ed) g8 v9 (nI nb) g11 g12 v13 (nI ln) (nI (gP ti)) (nI (gR (ti + 1))) tk kw g19 g20 g21 (nI o9) g23 (nI cd) g25 g26 v27 v28 v29 v30 v31 v32 v33 v34 v35 v36 v37 (nI ol)), (v1, .inl (cA 0, 326, .inl fp)), (v9, .inl (cA 0, 700, .inl fb)), (v13, .inl (cA 1, 15, .inr (.inl fkw))), (v28, .inl (cA 1, 10, .inr (.inl l28))), (v30, .inl (cA 1, 8, .inr (.inl l30))), (v32, .inl (cA 0, 400, .inl fc))] sz)) 0 0 (va_A [(oX10 w0 v0 v1 v2 v3 v4 g5 g6 (nI ed) g8 v9 (nI nb) g11 g12 v13 (nI ln) (nI (gP ti)) (nI (gR (ti + 1))) tk kw g19 g20 g21 (nI o9) g23 (nI cd) g25 g26 v27 v28 v29 v30 v31 v32 v33 v34 v35 v36 v37 (nI ol)), (v1, .inl (cA 0, 326, .inl fp)), (v9, .inl (cA 0, 700, .inl fb)), (v13, .inl (cA 1, 15, .inr (.inl fkw))), (v28, .inl (cA 1, 10, .inr (.inl l28))), (v30, .inl (cA 1, 8, .inr (.inl l30))), (v32, .inl (cA 0, 400, .inl fc))] sz) := by
  refine Met.ofW (cc := cX10_bracket) (maxL := 1) (ret := (some .boolean)) (by decide) rfl ?_
  intro p e s m args below meth c s₁ B hml hv
  obtain ⟨rfl, hsz, hP, hK, hD0, hC, hZ⟩ := hv
  have hx := B.exec
  have hb := B.bytes
  have hr := B.returns
  have hts := atoms_spec (ws := wsX10_bracket) B.pre
  have hown : s.vm.findClass RX10 = some m.cls := findClass_of_methodNamed B.named
  have hlocks := B.notSynchronized
  subst hsz
  have hD := hD0.self (sz := s.heap.size)
  generalize hAe : va_A [(oX10 w0 v0 v1 v2 v3 v4 g5 g6 (nI ed) g8 v9 (nI nb) g11 g12 v13 (nI ln) (nI (gP ti)) (nI (gR (ti + 1))) tk kw g19 g20 g21 (nI o9) g23 (nI cd) g25 g26 v27 v28 v29 v30 v31 v32 v33 v34 v35 v36 v37 (nI ol)), (v1, .inl (cA 0, 326, .inl fp)), (v9, .inl (cA 0, 700, .inl fb)), (v13, .inl (cA 1, 15, .inr (.inl fkw))), (v28, .inl (cA 1, 10, .inr (.inl l28))), (v30, .inl (cA 1, 8, .inr (.inl l30))), (v32, .inl (cA 0, 400, .inl fc))] s.heap.size = A at hD hZ ⊢
  have hA : ∀ q : Nat, s.heap.size ≤ q → A q := fun q h => by rw [← hAe]; exact Or.inr h
  have hS : va_S A s.heap s.heap [] := va_S.rf
  have hP : va_P D vwCl [(oX10 w0 v0 v1 v2 v3 v4 g5 g6 (nI ed) g8 v9 (nI nb) g11 g12 v13 (nI ln) (nI (gP ti)) (nI (gR (ti + 1))) tk kw g19 g20 g21 (nI o9) g23 (nI cd) g25 g26 v27 v28 v29 v30 v31 v32 v33 v34 v35 v36 v37 (nI ol)), (v1, .inl (cA 0, 326, .inl fp)), (v9, .inl (cA 0, 700, .inl fb)), (v13, .inl (cA 1, 15, .inr (.inl fkw))), (v28, .inl (cA 1, 10, .inr (.inl l28))), (v30, .inl (cA 1, 8, .inr (.inl l30))), (v32, .inl (cA 0, 400, .inl fc))] s.heap := hP
  have hl := lv_entry ([.ref w0]) (n := 1) (Nat.le_of_ble_eq_true rfl)
  rw [lg_entry_eq]
  generalize (lg_sl ([.ref w0]) ++ List.replicate (1 - (lg_sl ([.ref w0])).length) Slot.unset).toArray = ls at hl ⊢
  have hl : lv_has ls 1 [(0, .ref w0)] := hl
  have inX10 : ∀ w ∈ u_ws RX10 TX10 39, w ∈ wsX10_bracket := by decide +kernel
  have hle9 := TX.le hTX hti
  have hn1 := TX.go hTX hti (by rw [hk]; decide)
  have hn1b := TX.le hTX hn1.1
  refine lv_aload_n hx hb dX10_bracket_0 rfl (lv_at hl 0 rfl) ?_
  obtain ⟨hPc, hDc, hFc⟩ := PDq.cut (wc := [(oX10 w0 v0 v1 v2 v3 v4 g5 g6 (nI ed) g8 v9 (nI nb) g11 g12 v13 (nI ln) (nI (gP ti)) (nI (gR (ti + 1))) tk kw g19 g20 g21 (nI o9) g23 (nI cd) g25 g26 v27 v28 v29 v30 v31 v32 v33 v34 v35 v36 v37 (nI ol)), (v9, .inl (cA 0, 700, .inl fb)), (v13, .inl (cA 1, 15, .inr (.inl fkw)))]) hP hD hS hA [0, 2, 3] (by decide) rfl
  refine va_calli (va_runV (As := []) (rest := []) ⟨hx, hb, hml, hown, hts⟩ (y_opens_S l D cA sa w0 ed nb ol v0 v1 v2 v3 v4 v9 v13 v27 v28 v29 v30 v31 v32 v33 v34 v35 v36 v37 g8 g11 g12 g19 g20 g21 g23 g26 g5 g6 g25 ln cd tk kw ti ct fb fkw gP gR gS gK gV o9 s.heap.size hln hct hti hTX hBY hTK hKW (by omega) hn1.1) (cwV 0 hts gX10_bracket_X10_opens rfl rfl rfl (by decide +kernel) ⟨by show (2) + 1 ≤ 4 * (k9 + 1) + 20; omega, by show 8 + (1 + 11) + (44) ≤ 80 * (k9 + 1) + 320; omega⟩) ⟨Wd.blind, va_recv hK hPc (ci := 11) (q0 := 0) rfl rfl, fun U hU hW => ⟨rfl, Wd.call hPc hDc hK hC hZ hS hFc U hU hW⟩⟩ rfl rfl hl.1 rfl (lv_room (Nat.le_of_ble_eq_true rfl)) dX10_bracket_1 ⟨(Nat.le_of_ble_eq_true rfl), (Nat.le_of_ble_eq_true rfl)⟩) hS (fun q _ h => hFc q h) hFc (fun rn2 u t H1 locs ht hvm hw hB hz1 hk1 hS => ?_)
  obtain ⟨zn3, zn4, zn5, zn6, hn7, hP1, hD1⟩ := hB
  rw [ht] at hP1
  obtain ⟨hP, hD⟩ := PDq.join (w := [(v1, .inl (cA 0, 326, .inl fp)), (v28, .inl (cA 1, 10, .inr (.inl l28))), (v30, .inl (cA 1, 8, .inr (.inl l30))), (v32, .inl (cA 0, 400, .inl fc)), (oX10 w0 v0 v1 v2 v3 v4 g5 g6 (nI ed) g8 v9 (nI nb) g11 g12 v13 (nI ln) (nI (gP (ti + 1))) (nI (gR ((ti + 1) + 1))) zn3 zn4 zn5 g20 g21 (nI (o9 + 1)) g23 (nI cd) zn6 g26 v27 v28 v29 v30 v31 v32 v33 v34 v35 v36 v37 (nI ol)), (v9, .inl (cA 0, 700, .inl fb)), (v13, .inl (cA 1, 15, .inr (.inl fkw)))]) 4 hP hD [0, 2, 3] [1, 4, 5, 6] rfl rfl (by decide) (by decide) hk1 hFc hP1 hD1 rfl
  generalize H1 = H at hP hS ⊢
  obtain rfl : rn2 = 1 := hw
  refine lv_if_eq (tgt := 14) hx hb dX10_bracket_4 (by decide) (fun c9 => absurd c9 (by decide)) (fun c8 => ?_)
  refine lv_aload_n hx hb dX10_bracket_7 rfl (lv_at hl 0 rfl) ?_
  obtain ⟨hPc, hDc, hFc⟩ := PDq.cut (wc := [(oX10 w0 v0 v1 v2 v3 v4 g5 g6 (nI ed) g8 v9 (nI nb) g11 g12 v13 (nI ln) (nI (gP (ti + 1))) (nI (gR ((ti + 1) + 1))) zn3 zn4 zn5 g20 g21 (nI (o9 + 1)) g23 (nI cd) zn6 g26 v27 v28 v29 v30 v31 v32 v33 v34 v35 v36 v37 (nI ol)), (v1, .inl (cA 0, 326, .inl fp)), (v9, .inl (cA 0, 700, .inl fb)), (v13, .inl (cA 1, 15, .inr (.inl fkw))), (v28, .inl (cA 1, 10, .inr (.inl l28))), (v30, .inl (cA 1, 8, .inr (.inl l30))), (v32, .inl (cA 0, 400, .inl fc))]) hP hD hS hA [4, 0, 5, 6, 1, 2, 3] (by decide) rfl
  refine va_calli (va_runV (As := []) (rest := []) ⟨hx, hb, hml, hown, hts⟩ (IHc w0 ed nb ol v0 v1 v2 v3 v4 v9 v13 v27 v28 v29 v30 v31 v32 v33 v34 v35 v36 v37 g8 g11 g12 zn5 g20 g21 g23 g26 g5 g6 zn6 ln cd zn3 zn4 (ti + 1) ct fb fkw gP gR gS gK gV cn pq en dy fp sl (o9 + 1) l28 l30 fc ml pl H.size hln hct hn1.1 hTX hBY hn7 hKW hcn hpq hen hdy hri (by omega) hNM hNP (by omega)) (cwV 0 hts gX10_bracket_X10_condition rfl rfl rfl (by decide +kernel) ⟨by show (4 * k9 + 23) + 1 ≤ 4 * (k9 + 1) + 20; omega, by show 8 + (1 + 11) + (80 * k9 + 380) ≤ 80 * (k9 + 1) + 320; omega⟩) ⟨Wd.blind, va_recv hK hPc (ci := 11) (q0 := 0) rfl rfl, fun U hU hW => ⟨rfl, Wd.call hPc hDc hK hC hZ hS hFc U hU hW⟩⟩ rfl rfl hl.1 rfl (lv_room (Nat.le_of_ble_eq_true rfl)) dX10_bracket_8 ⟨(Nat.le_of_ble_eq_true rfl), (Nat.le_of_ble_eq_true rfl)⟩) hS (fun q _ h => hFc q h) hFc (fun rn9 u t H1 locs ht hvm hw hB hz1 hk1 hS => ?_)
  obtain ⟨qn10, zn11, zn12, zn13, zn14, zn15, zn16, zn17, qn18, qn19, zn20, fn21, fn22, fn23, zn24, hn25, hn26, hn27, hn28, hn29, hn30, hn31, hn32, hn33, hn34, hn35, hn36, hn37, hn38, hn39, hn40, hn41, hP1, hD1⟩ := hB
  rw [ht] at hP1
  obtain ⟨hP, hD⟩ := PDq.join (w := [(oX10 w0 v0 v1 v2 v3 v4 g5 g6 (nI ed) g8 v9 (nI nb) g11 g12 v13 (nI ln) (nI (gP qn10)) (nI (gR (qn10 + 1))) zn11 zn12 zn13 zn14 zn15 zn20 g23 (nI qn18) zn17 zn16 v27 v28 v29 v30 v31 v32 v33 v34 v35 v36 v37 (nI ol)), (v1, .inl (cA 0, 326, .inl fn21)), (v9, .inl (cA 0, 700, .inl fb)), (v13, .inl (cA 1, 15, .inr (.inl fkw))), (v28, .inl (cA 1, 10, .inr (.inl l28))), (v30, .inl (cA 1, 8, .inr (.inl fn23))), (v32, .inl (cA 0, 400, .inl fn22))]) 0 hP hD [4, 0, 5, 6, 1, 2, 3] [] rfl rfl (by decide) (by decide) hk1 hFc hP1 hD1 rfl
  generalize H1 = H at hP hS ⊢
  rcases hw.2 with hr9 | hr9
  · skip
    have hn41 := hn41 (hw.1.trans hr9)
    subst hr9
    refine lv_if_ne (tgt := 16) hx hb dX10_bracket_11 (by decide) (fun c9 => absurd c9 (by decide)) (fun c42 => ?_)
    refine lv_iconst (v := 0) hx hb dX10_bracket_14 (by decide) ?_
    obtain ⟨hP9, hD9⟩ := PDq.sub (ws' := [(oX10 w0 v0 v1 v2 v3 v4 g5 g6 (nI ed) g8 v9 (nI nb) g11 g12 v13 (nI ln) (nI (gP qn10)) (nI (gR (qn10 + 1))) zn11 zn12 zn13 zn14 zn15 zn20 g23 (nI qn18) zn17 zn16 v27 v28 v29 v30 v31 v32 v33 v34 v35 v36 v37 (nI ol)), (v1, .inl (cA 0, 326, .inl fn21)), (v9, .inl (cA 0, 700, .inl fb)), (v13, .inl (cA 1, 15, .inr (.inl fkw))), (v28, .inl (cA 1, 10, .inr (.inl l28))), (v30, .inl (cA 1, 8, .inr (.inl fn23))), (v32, .inl (cA 0, 400, .inl fn22))]) hP hD [0, 1, 2, 3, 4, 5, 6] (by decide) rfl
    refine W.widen (k := 0) (n := 0) (Nat.le_of_ble_eq_true rfl) (Nat.le_of_ble_eq_true rfl) ?_
    exact (W.zret (v := 0) hx hb hr (by first | rfl | decide) (fun t ht hW => ⟨⟨0, 0, rfl, ⟨rfl, by decide⟩, qn10, zn11, zn12, zn13, zn14, zn15, zn16, zn17, qn18, qn19, zn20, fn21, fn22, fn23, zn24, hn25, hn26, (by omega), hn28, hn29, hn30, hn31, (fun h9 => absurd h9 (by decide)), (fun h9 => absurd h9 (by decide)), (fun h9 => absurd h9 (by decide)), (fun h9 => absurd h9 (by decide)), (fun h9 => absurd h9 (by decide)), (fun h9 => absurd h9 (by decide)), (fun h9 => absurd h9 (by decide)), (fun h9 => absurd h9 (by decide)), (fun h9 => absurd h9 (by decide)), (fun _ => (P_openE hk (by omega) hn41)), by rw [ht]; exact hP9, hD9⟩, hS.F ht⟩) hS.2.2 dX10_bracket_15)
  · skip
    have hn32 := hn32 (hw.1.trans hr9)
    subst hn32
    obtain ⟨hP, hD⟩ : PDq D A [(oX10 w0 v0 v1 v2 v3 v4 g5 g6 (nI ed) g8 v9 (nI nb) g11 g12 v13 (nI ln) (nI (gP qn10)) (nI (gR (qn10 + 1))) zn11 zn12 zn13 zn14 zn15 (nI (o9 + 1)) g23 (nI qn18) zn17 zn16 v27 v28 v29 v30 v31 v32 v33 v34 v35 v36 v37 (nI ol)), (v1, .inl (cA 0, 326, .inl fn21)), (v9, .inl (cA 0, 700, .inl fb)), (v13, .inl (cA 1, 15, .inr (.inl fkw))), (v28, .inl (cA 1, 10, .inr (.inl l28))), (v30, .inl (cA 1, 8, .inr (.inl fn23))), (v32, .inl (cA 0, 400, .inl fn22))] H := ⟨hP, hD⟩
    have hn33 := hn33 (hw.1.trans hr9)
    obtain rfl : g20 = zn14 := hn33.symm
    obtain ⟨hP, hD⟩ : PDq D A [(oX10 w0 v0 v1 v2 v3 v4 g5 g6 (nI ed) g8 v9 (nI nb) g11 g12 v13 (nI ln) (nI (gP qn10)) (nI (gR (qn10 + 1))) zn11 zn12 zn13 g20 zn15 (nI (o9 + 1)) g23 (nI qn18) zn17 zn16 v27 v28 v29 v30 v31 v32 v33 v34 v35 v36 v37 (nI ol)), (v1, .inl (cA 0, 326, .inl fn21)), (v9, .inl (cA 0, 700, .inl fb)), (v13, .inl (cA 1, 15, .inr (.inl fkw))), (v28, .inl (cA 1, 10, .inr (.inl l28))), (v30, .inl (cA 1, 8, .inr (.inl fn23))), (v32, .inl (cA 0, 400, .inl fn22))] H := ⟨hP, hD⟩
    have hn34 := hn34 (hw.1.trans hr9)
    obtain rfl : g21 = zn15 := hn34.symm
    obtain ⟨hP, hD⟩ : PDq D A [(oX10 w0 v0 v1 v2 v3 v4 g5 g6 (nI ed) g8 v9 (nI nb) g11 g12 v13 (nI ln) (nI (gP qn10)) (nI (gR (qn10 + 1))) zn11 zn12 zn13 g20 g21 (nI (o9 + 1)) g23 (nI qn18) zn17 zn16 v27 v28 v29 v30 v31 v32 v33 v34 v35 v36 v37 (nI ol)), (v1, .inl (cA 0, 326, .inl fn21)), (v9, .inl (cA 0, 700, .inl fb)), (v13, .inl (cA 1, 15, .inr (.inl fkw))), (v28, .inl (cA 1, 10, .inr (.inl l28))), (v30, .inl (cA 1, 8, .inr (.inl fn23))), (v32, .inl (cA 0, 400, .inl fn22))] H := ⟨hP, hD⟩
    have hn35 := hn35 (hw.1.trans hr9)
    have hn36 := hn36 (hw.1.trans hr9)
    have hn37 := hn37 (hw.1.trans hr9)
    have hn38 := hn38 (hw.1.trans hr9)
    have hn39 := hn39 (hw.1.trans hr9)
    have hn40 := hn40 (hw.1.trans hr9)
    subst hr9
    refine lv_if_ne (tgt := 16) hx hb dX10_bracket_11 (by decide) (fun c43 => ?_) (fun c9 => absurd c9 (by decide))
    refine lv_aload_n hx hb dX10_bracket_16 rfl (lv_at hl 0 rfl) ?_
    refine lv_bipush (v := 41) hx hb dX10_bracket_17 (by decide) ?_
    obtain ⟨hPc, hDc, hFc⟩ := PDq.cut (wc := [(oX10 w0 v0 v1 v2 v3 v4 g5 g6 (nI ed) g8 v9 (nI nb) g11 g12 v13 (nI ln) (nI (gP qn10)) (nI (gR (qn10 + 1))) zn11 zn12 zn13 g20 g21 (nI (o9 + 1)) g23 (nI qn18) zn17 zn16 v27 v28 v29 v30 v31 v32 v33 v34 v35 v36 v37 (nI ol)), (v9, .inl (cA 0, 700, .inl fb))]) hP hD hS hA [0, 2] (by decide) rfl
    refine va_calli (va_runV (As := [.int 41]) (rest := []) ⟨hx, hb, hml, hown, hts⟩ (y_sym41 l D cA sa w0 ed nb ol v0 v1 v2 v3 v4 v9 v13 v27 v28 v29 v30 v31 v32 v33 v34 v35 v36 v37 g8 g11 g12 zn13 g20 g21 (nI (o9 + 1)) g23 zn16 g5 g6 zn17 ln qn18 zn11 zn12 qn10 ct fb gP gR gS gK gV H.size hln hct hn25 hTX hBY hn28) (cwV 1 hts gX10_bracket_X10_isSymbol rfl rfl rfl (by decide +kernel) ⟨by show (0) + 1 ≤ 4 * (k9 + 1) + 20; omega, by show 8 + (2 + 11) + (0) ≤ 80 * (k9 + 1) + 320; omega⟩) ⟨Wd.blind, va_recv hK hPc (ci := 11) (q0 := 0) rfl rfl, fun U hU hW => ⟨rfl, Wd.call hPc hDc hK hC hZ hS hFc U hU hW⟩⟩ rfl rfl hl.1 rfl (lv_room (Nat.le_of_ble_eq_true rfl)) dX10_bracket_19 ⟨(Nat.le_of_ble_eq_true rfl), (Nat.le_of_ble_eq_true rfl)⟩) hS (fun q _ h => hFc q h) hFc (fun rn44 u t H1 locs ht hvm hw hB hz1 hk1 hS => ?_)
    obtain ⟨hP1, hD1⟩ := hB
    rw [ht] at hP1
    obtain ⟨hP, hD⟩ := PDq.join (w := [(v1, .inl (cA 0, 326, .inl fn21)), (v13, .inl (cA 1, 15, .inr (.inl fkw))), (v28, .inl (cA 1, 10, .inr (.inl l28))), (v30, .inl (cA 1, 8, .inr (.inl fn23))), (v32, .inl (cA 0, 400, .inl fn22)), (oX10 w0 v0 v1 v2 v3 v4 g5 g6 (nI ed) g8 v9 (nI nb) g11 g12 v13 (nI ln) (nI (gP qn10)) (nI (gR (qn10 + 1))) zn11 zn12 zn13 g20 g21 (nI (o9 + 1)) g23 (nI qn18) zn17 zn16 v27 v28 v29 v30 v31 v32 v33 v34 v35 v36 v37 (nI ol)), (v9, .inl (cA 0, 700, .inl fb))]) 5 hP hD [0, 2] [1, 3, 4, 5, 6] rfl rfl (by decide) (by decide) hk1 hFc hP1 hD1 rfl
    generalize H1 = H at hP hS ⊢
    rcases hw with ⟨hr9, hn45⟩ | ⟨hr9, hn45⟩
    · skip
      subst hr9
      refine lv_if_ne (tgt := 31) hx hb dX10_bracket_22 (by decide) (fun c46 => ?_) (fun c9 => absurd c9 (by decide))
      refine lv_aload_n hx hb dX10_bracket_31 rfl (lv_at hl 0 rfl) ?_
      refine lv_dup hx hb dX10_bracket_32 rfl ?_
      refine va_get (D := D) (ci := 11) (v := .int (nI (o9 + 1))) (C := RX10) (T := TX10) (N := 39) hx hb hts inX10 hown hK hP 5 rfl rfl 22 (by decide) (hts (.fieldLink RX10 182 "EscrowDeskModel" "open" "I") (by decide +kernel)) (fun _ h9 => h9) rfl dX10_bracket_33 ?_
      refine lv_iconst (v := 1) hx hb dX10_bracket_36 (by decide) ?_
      refine lv_isub hx hb dX10_bracket_37 ?_
      refine lv_topi (fun yn47 eyn47 => ?_)
      obtain rfl : yn47 = (nI ((o9 + 1) - 1)) := eyn47.trans (nI_sub (a := (o9 + 1)) (b := 1) (by omega))
      refine va_put (D := D) (ci := 11) (v := .int (nI ((o9 + 1) - 1))) (ty := .int) (C := RX10) (T := TX10) (N := 39) hx hb hts inX10 tyX10 tyX10_ok nmX10 hown hK hP hD hS 5 rfl rfl 22 (by decide) (hts (.fieldLink RX10 182 "EscrowDeskModel" "open" "I") (by decide +kernel)) (fun _ h9 => h9) rfl (by decide +kernel) rfl rfl (Nat.le_of_ble_eq_true rfl) dX10_bracket_38 (fun H locs hP hD hS => ?_)
      obtain ⟨hP, hD⟩ : PDq D A [(v1, .inl (cA 0, 326, .inl fn21)), (v13, .inl (cA 1, 15, .inr (.inl fkw))), (v28, .inl (cA 1, 10, .inr (.inl l28))), (v30, .inl (cA 1, 8, .inr (.inl fn23))), (v32, .inl (cA 0, 400, .inl fn22)), (oX10 w0 v0 v1 v2 v3 v4 g5 g6 (nI ed) g8 v9 (nI nb) g11 g12 v13 (nI ln) (nI (gP qn10)) (nI (gR (qn10 + 1))) zn11 zn12 zn13 g20 g21 (nI ((o9 + 1) - 1)) g23 (nI qn18) zn17 zn16 v27 v28 v29 v30 v31 v32 v33 v34 v35 v36 v37 (nI ol)), (v9, .inl (cA 0, 700, .inl fb))] H := ⟨hP, hD⟩
      refine lv_aload_n hx hb dX10_bracket_41 rfl (lv_at hl 0 rfl) ?_
      have hn48 := TX.go hTX (show qn10 < ct by omega) (by rw [hn45]; decide)
      have hn48a := TX.le hTX (show qn10 < ct by omega)
      have hn48b := TX.le hTX hn48.1
      obtain ⟨hPc, hDc, hFc⟩ := PDq.cut (wc := [(oX10 w0 v0 v1 v2 v3 v4 g5 g6 (nI ed) g8 v9 (nI nb) g11 g12 v13 (nI ln) (nI (gP qn10)) (nI (gR (qn10 + 1))) zn11 zn12 zn13 g20 g21 (nI ((o9 + 1) - 1)) g23 (nI qn18) zn17 zn16 v27 v28 v29 v30 v31 v32 v33 v34 v35 v36 v37 (nI ol)), (v9, .inl (cA 0, 700, .inl fb)), (v13, .inl (cA 1, 15, .inr (.inl fkw)))]) hP hD hS hA [5, 6, 1] (by decide) rfl
      refine va_calli (va_runV (As := []) (rest := []) ⟨hx, hb, hml, hown, hts⟩ (y_advance l D cA sa w0 ed nb ol v0 v1 v2 v3 v4 v9 v13 v27 v28 v29 v30 v31 v32 v33 v34 v35 v36 v37 g8 g11 g12 (nI (gP qn10)) zn11 zn12 zn13 g20 g21 (nI ((o9 + 1) - 1)) g23 (nI qn18) zn16 g5 g6 zn17 ln (gR (qn10 + 1)) fb fkw (gP (qn10 + 1)) (gR ((qn10 + 1) + 1)) (gK (qn10 + 1)) (gV (qn10 + 1)) H.size hln (by omega) hKW hBY (TX.t hTX hn48.1)) (cwV 0 hts gX10_bracket_X10_advance rfl rfl rfl (by decide +kernel) ⟨by show (1) + 1 ≤ 4 * (k9 + 1) + 20; omega, by show 8 + (2 + 11) + (23) ≤ 80 * (k9 + 1) + 320; omega⟩) ⟨Wd.blind, va_recv hK hPc (ci := 11) (q0 := 0) rfl rfl, fun U hU hW => ⟨rfl, Wd.call hPc hDc hK hC hZ hS hFc U hU hW⟩⟩ rfl rfl hl.1 rfl (lv_room (Nat.le_of_ble_eq_true rfl)) dX10_bracket_42 ⟨(Nat.le_of_ble_eq_true rfl), (Nat.le_of_ble_eq_true rfl)⟩) hS (fun q _ h => hFc q h) hFc (fun rn49 u t H1 locs ht hvm hw hB hz1 hk1 hS => ?_)
      obtain ⟨zn50, zn51, zn52, zn53, hn54, hP1, hD1⟩ := hB
      rw [ht] at hP1
      obtain ⟨hP, hD⟩ := PDq.join (w := [(v1, .inl (cA 0, 326, .inl fn21)), (v28, .inl (cA 1, 10, .inr (.inl l28))), (v30, .inl (cA 1, 8, .inr (.inl fn23))), (v32, .inl (cA 0, 400, .inl fn22)), (oX10 w0 v0 v1 v2 v3 v4 g5 g6 (nI ed) g8 v9 (nI nb) g11 g12 v13 (nI ln) (nI (gP (qn10 + 1))) (nI (gR ((qn10 + 1) + 1))) zn50 zn51 zn52 g20 g21 (nI ((o9 + 1) - 1)) g23 (nI qn18) zn53 zn16 v27 v28 v29 v30 v31 v32 v33 v34 v35 v36 v37 (nI ol)), (v9, .inl (cA 0, 700, .inl fb)), (v13, .inl (cA 1, 15, .inr (.inl fkw)))]) 4 hP hD [5, 6, 1] [0, 2, 3, 4] rfl rfl (by decide) (by decide) hk1 hFc hP1 hD1 rfl
      generalize H1 = H at hP hS ⊢
      obtain rfl : rn49 = 1 := hw
      obtain ⟨hP9, hD9⟩ := PDq.sub (ws' := [(oX10 w0 v0 v1 v2 v3 v4 g5 g6 (nI ed) g8 v9 (nI nb) g11 g12 v13 (nI ln) (nI (gP (qn10 + 1))) (nI (gR ((qn10 + 1) + 1))) zn50 zn51 zn52 g20 g21 (nI ((o9 + 1) - 1)) g23 (nI qn18) zn53 zn16 v27 v28 v29 v30 v31 v32 v33 v34 v35 v36 v37 (nI ol)), (v1, .inl (cA 0, 326, .inl fn21)), (v9, .inl (cA 0, 700, .inl fb)), (v13, .inl (cA 1, 15, .inr (.inl fkw))), (v28, .inl (cA 1, 10, .inr (.inl l28))), (v30, .inl (cA 1, 8, .inr (.inl fn23))), (v32, .inl (cA 0, 400, .inl fn22))]) hP hD [4, 0, 5, 6, 1, 2, 3] (by decide) rfl
      refine W.widen (k := 0) (n := 0) (Nat.le_of_ble_eq_true rfl) (Nat.le_of_ble_eq_true rfl) ?_
      exact (W.zret (v := 1) hx hb hr (by first | rfl | decide) (fun t ht hW => ⟨⟨1, 1, rfl, ⟨rfl, by decide⟩, (qn10 + 1), zn50, zn51, zn52, g20, g21, zn16, zn53, qn18, qn19, (nI ((o9 + 1) - 1)), fn21, fn22, fn23, zn24, hn48.1, (by omega), (by omega), hn54, hn29, hn30, hn31, (fun _ => (by rw [show (o9 + 1) - 1 = o9 by omega])), (fun _ => rfl), (fun _ => rfl), (fun _ => (by omega)), (fun _ => hn36), (fun _ => (by omega)), (fun _ => hn38), (fun _ => hn39), (fun _ => (P_open hk (by omega) hn40 hn45)), (fun h9 => absurd h9 (by decide)), by rw [ht]; exact hP9, hD9⟩, hS.F ht⟩) hS.2.2 dX10_bracket_45)
    · skip
      subst hr9
      refine lv_if_ne (tgt := 31) hx hb dX10_bracket_22 (by decide) (fun c9 => absurd c9 (by decide)) (fun c55 => ?_)
      refine lv_aload_n hx hb dX10_bracket_25 rfl (lv_at hl 0 rfl) ?_
      refine lv_iconst (v := 2) hx hb dX10_bracket_26 (by decide) ?_
      obtain ⟨hPc, hDc, hFc⟩ := PDq.cut (wc := [(oX10 w0 v0 v1 v2 v3 v4 g5 g6 (nI ed) g8 v9 (nI nb) g11 g12 v13 (nI ln) (nI (gP qn10)) (nI (gR (qn10 + 1))) zn11 zn12 zn13 g20 g21 (nI (o9 + 1)) g23 (nI qn18) zn17 zn16 v27 v28 v29 v30 v31 v32 v33 v34 v35 v36 v37 (nI ol))]) hP hD hS hA [5] (by decide) rfl
      refine va_calli (va_runV (As := [.int 2]) (rest := []) ⟨hx, hb, hml, hown, hts⟩ (y_fail l D cA sa w0 ed nb ol v0 v1 v2 v3 v4 v9 v13 v27 v28 v29 v30 v31 v32 v33 v34 v35 v36 v37 g8 g11 g12 zn13 g20 g21 (nI (o9 + 1)) g23 zn16 g5 g6 zn17 ln qn18 zn11 zn12 qn10 ct fb gP gR gS gK gV 2 H.size hln hct hn25 hTX hBY hn28) (cwV 1 hts gX10_bracket_X10_fail rfl rfl rfl (by decide +kernel) ⟨by show (0) + 1 ≤ 4 * (k9 + 1) + 20; omega, by show 8 + (2 + 11) + (0) ≤ 80 * (k9 + 1) + 320; omega⟩) ⟨Wd.blind, va_recv hK hPc (ci := 11) (q0 := 0) rfl rfl, fun U hU hW => ⟨rfl, Wd.call hPc hDc hK hC hZ hS hFc U hU hW⟩⟩ rfl rfl hl.1 rfl (lv_room (Nat.le_of_ble_eq_true rfl)) dX10_bracket_27 ⟨(Nat.le_of_ble_eq_true rfl), (Nat.le_of_ble_eq_true rfl)⟩) hS (fun q _ h => hFc q h) hFc (fun rn56 u t H1 locs ht hvm hw hB hz1 hk1 hS => ?_)
      obtain ⟨zn57, hn58, hP1, hD1⟩ := hB
      rw [ht] at hP1
      obtain ⟨hP, hD⟩ := PDq.join (w := [(v1, .inl (cA 0, 326, .inl fn21)), (v13, .inl (cA 1, 15, .inr (.inl fkw))), (v28, .inl (cA 1, 10, .inr (.inl l28))), (v30, .inl (cA 1, 8, .inr (.inl fn23))), (v32, .inl (cA 0, 400, .inl fn22)), (v9, .inl (cA 0, 700, .inl fb)), (oX10 w0 v0 v1 v2 v3 v4 g5 g6 (nI ed) g8 v9 (nI nb) g11 g12 v13 (nI ln) (nI (gP qn10)) (nI (gR (qn10 + 1))) zn11 zn12 zn13 zn57 (nI (gP qn10)) (nI (o9 + 1)) g23 (nI qn18) zn17 zn16 v27 v28 v29 v30 v31 v32 v33 v34 v35 v36 v37 (nI ol))]) 6 hP hD [5] [0, 1, 2, 3, 4, 6] rfl rfl (by decide) (by decide) hk1 hFc hP1 hD1 rfl
      generalize H1 = H at hP hS ⊢
      obtain rfl : rn56 = 0 := hw
      obtain ⟨hP9, hD9⟩ := PDq.sub (ws' := [(oX10 w0 v0 v1 v2 v3 v4 g5 g6 (nI ed) g8 v9 (nI nb) g11 g12 v13 (nI ln) (nI (gP qn10)) (nI (gR (qn10 + 1))) zn11 zn12 zn13 zn57 (nI (gP qn10)) (nI (o9 + 1)) g23 (nI qn18) zn17 zn16 v27 v28 v29 v30 v31 v32 v33 v34 v35 v36 v37 (nI ol)), (v1, .inl (cA 0, 326, .inl fn21)), (v9, .inl (cA 0, 700, .inl fb)), (v13, .inl (cA 1, 15, .inr (.inl fkw))), (v28, .inl (cA 1, 10, .inr (.inl l28))), (v30, .inl (cA 1, 8, .inr (.inl fn23))), (v32, .inl (cA 0, 400, .inl fn22))]) hP hD [6, 0, 5, 1, 2, 3, 4] (by decide) rfl
      refine W.widen (k := 0) (n := 0) (Nat.le_of_ble_eq_true rfl) (Nat.le_of_ble_eq_true rfl) ?_
      exact (W.zret (v := 0) hx hb hr (by first | rfl | decide) (fun t ht hW => ⟨⟨0, 0, rfl, ⟨rfl, by decide⟩, qn10, zn11, zn12, zn13, zn57, (nI (gP qn10)), zn16, zn17, qn18, qn19, (nI (o9 + 1)), fn21, fn22, fn23, zn24, hn25, hn26, (by omega), hn28, hn29, hn30, hn31, (fun h9 => absurd h9 (by decide)), (fun h9 => absurd h9 (by decide)), (fun h9 => absurd h9 (by decide)), (fun h9 => absurd h9 (by decide)), (fun h9 => absurd h9 (by decide)), (fun h9 => absurd h9 (by decide)), (fun h9 => absurd h9 (by decide)), (fun h9 => absurd h9 (by decide)), (fun h9 => absurd h9 (by decide)), (fun _ => (P_openCx hk (by omega) hn40 hn45 hn58 (TX.s hTX (show qn10 < ct by omega)))), by rw [ht]; exact hP9, hD9⟩, hS.F ht⟩) hS.2.2 dX10_bracket_30)

set_option maxHeartbeats 4000000 in
set_option maxRecDepth 100000 in
/-- reference: fact -/
theorem y_fact_S (l : Launch) (D : va_G) (cA : Nat → ClassId) (sa : Nat → Nat) (k9 : Nat) (IHf : YFactC l D cA sa k9) (IHc : YCondC l D cA sa k9) (w0 : Nat) (ed : Nat) (nb : Nat) (ol : Nat) (v0 : Nat) (v1 : Nat) (v2 : Nat) (v3 : Nat) (v4 : Nat) (v9 : Nat) (v13 : Nat) (v27 : Nat) (v28 : Nat) (v29 : Nat) (v30 : Nat) (v31 : Nat) (v32 : Nat) (v33 : Nat) (v34 : Nat) (v35 : Nat) (v36 : Nat) (v37 : Nat) (g8 : Int32) (g11 : Int32) (g12 : Int32) (g19 : Int32) (g20 : Int32) (g21 : Int32) (g23 : Int32) (g26 : Int32) (g5 : Int64) (g6 : Int64) (g25 : Int64) (ln : Nat) (cd : Nat) (tk : Int32) (kw : Int32) (ti : Nat) (ct : Nat) (fb : Nat → Int32) (fkw : Nat → Int64) (gP : Nat → Nat) (gR : Nat → Nat) (gS : Nat → Int32) (gK : Nat → Int32) (gV : Nat → Int64) (cn : Nat) (pq : Nat) (en : Nat) (dy : Nat) (fp : Nat → Int32) (sl : Nat) (o9 : Nat) (l28 : Nat → Int64) (l30 : Nat → Int64) (fc : Nat → Int32) (ml : List Int64) (pl : List Int64) (sz : Nat) (hln : ln ≤ 700) (hct : ct ≤ 701) (hti : ti < ct) (hTX : TX fb ln ct gP gR gS gV gK) (hBY : BYn ln fb) (hTK : TKR (gK ti) (gV ti) (fb (gP ti)) tk kw g19 g25) (hKW : KW 15 fkw) (hcn : cn ≤ 10) (hpq : pq ≤ 8) (hen : en ≤ 60) (hdy : dy ≤ 20000) (hri : RI cn pq en dy fp) (hcd : 2 * cd + sl ≤ gP ti) (hNM : NL ml cn l28) (hNP : NL pl pq l30) (ho : o9 + (k9 + 1) = 8) : Met l yX10_fact wsX10_fact ({ frames := 4 * (k9 + 1) + 21, cells := 0, slots := 0, locals := 80 * (k9 + 1) + 340 }) (va_Pc [.ref w0] (Wd D cA sa [(oX10 w0 v0 v1 v2 v3 v4 g5 g6 (nI ed) g8 v9 (nI nb) g11 g12 v13 (nI ln) (nI (gP ti)) (nI (gR (ti + 1))) tk kw g19 g20 g21 (nI o9) g23 (nI cd) g25 g26 v27 v28 v29 v30 v31 v32 v33 v34 v35 v36 v37 (nI ol)), (v1, .inl (cA 0, 326, .inl fp)), (v9, .inl (cA 0, 700, .inl fb)), (v13, .inl (cA 1, 15, .inr (.inl fkw))), (v28, .inl (cA 1, 10, .inr (.inl l28))), (v30, .inl (cA 1, 8, .inr (.inl l30))), (v32, .inl (cA 0, 400, .inl fc))] sz)) (va_Qi (fun (r : Int32) (u9 : Int32) => u9 = r ∧ (r = 0 ∨ r = 1)) (fun (u9 : Int32) t => ∃ tj : Nat, ∃ z17 : Int32, ∃ z18 : Int32, ∃ z19 : Int32, ∃ z20 : Int32, ∃ z21 : Int32, ∃ z26 : Int32, ∃ z25 : Int64, ∃ cd2 : Nat, ∃ pq2 : Nat, ∃ zop : Int32, ∃ zp : Nat → Int32, ∃ zc : Nat → Int32, ∃ zl : Nat → Int64, ∃ zpl : List Int64, tj < ct ∧ gP tj ≤ ln ∧ ti ≤ tj ∧ TKR (gK tj) (gV tj) (fb (gP tj)) z17 z18 z19 z25 ∧ pq2 ≤ 8 ∧ RI cn pq2 en dy zp ∧ NL zpl pq2 zl ∧ (u9 = 1 → zop = (nI o9)) ∧ (u9 = 1 → z20 = g20) ∧ (u9 = 1 → z21 = g21) ∧ (u9 = 1 → ti + 1 ≤ tj) ∧ (u9 = 1 → cd ≤ cd2) ∧ (u9 = 1 → 2 * cd2 + sl ≤ gP tj) ∧ (u9 = 1 → Kp cd fc zc) ∧ (u9 = 1 → Sg cd cd2 zc) ∧ (u9 = 1 → PRx gK gS gV ml 0 o9 ti pl (.inr (tj, zpl))) ∧ (u9 = 0 → PRx gK gS gV ml 0 o9 ti pl (.inl (z20, z21))) ∧ Wq D (va_A [(oX10 w0 v0 v1 v2 v3 v4 g5 g6 (nI ed) g8 v9 (nI nb) g11 g12 v13 (nI ln) (nI (gP ti)) (nI (gR (ti + 1))) tk kw g19 g20 g21 (nI o9) g23 (nI cd) g25 g26 v27 v28 v29 v30 v31 v32 v33 v34 v35 v36 v37 (nI ol)), (v1, .inl (cA 0, 326, .inl fp)), (v9, .inl (cA 0, 700, .inl fb)), (v13, .inl (cA 1, 15, .inr (.inl fkw))), (v28, .inl (cA 1, 10, .inr (.inl l28))), (v30, .inl (cA 1, 8, .inr (.inl l30))), (v32, .inl (cA 0, 400, .inl fc))] sz) [(oX10 w0 v0 v1 v2 v3 v4 g5 g6 (nI ed) g8 v9 (nI nb) g11 g12 v13 (nI ln) (nI (gP tj)) (nI (gR (tj + 1))) z17 z18 z19 z20 z21 zop g23 (nI cd2) z25 z26 v27 v28 v29 v30 v31 v32 v33 v34 v35 v36 v37 (nI ol)), (v1, .inl (cA 0, 326, .inl zp)), (v9, .inl (cA 0, 700, .inl fb)), (v13, .inl (cA 1, 15, .inr (.inl fkw))), (v28, .inl (cA 1, 10, .inr (.inl l28))), (v30, .inl (cA 1, 8, .inr (.inl zl))), (v32, .inl (cA 0, 400, .inl zc))] t) (va_A [(oX10 w0 v0 v1 v2 v3 v4 g5 g6 (nI ed) g8 v9 (nI nb) g11 g12 v13 (nI ln) (nI (gP ti)) (nI (gR (ti + 1))) tk kw g19 g20 g21 (nI o9) g23 (nI cd) g25 g26 v27 v28 v29 v30 v31 v32 v33 v34 v35 v36 v37 (nI ol)), (v1, .inl (cA 0, 326, .inl fp)), (v9, .inl (cA 0, 700, .inl fb)), (v13, .inl (cA 1, 15, .inr (.inl fkw))), (v28, .inl (cA 1, 10, .inr (.inl l28))), (v30, .inl (cA 1, 8, .inr (.inl l30))), (v32, .inl (cA 0, 400, .inl fc))] sz)) 0 0 (va_A [(oX10 w0 v0 v1 v2 v3 v4 g5 g6 (nI ed) g8 v9 (nI nb) g11 g12 v13 (nI ln) (nI (gP ti)) (nI (gR (ti + 1))) tk kw g19 g20 g21 (nI o9) g23 (nI cd) g25 g26 v27 v28 v29 v30 v31 v32 v33 v34 v35 v36 v37 (nI ol)), (v1, .inl (cA 0, 326, .inl fp)), (v9, .inl (cA 0, 700, .inl fb)), (v13, .inl (cA 1, 15, .inr (.inl fkw))), (v28, .inl (cA 1, 10, .inr (.inl l28))), (v30, .inl (cA 1, 8, .inr (.inl l30))), (v32, .inl (cA 0, 400, .inl fc))] sz) := by
  refine Met.ofW (cc := cX10_fact) (maxL := 1) (ret := (some .boolean)) (by decide) rfl ?_
  intro p e s m args below meth c s₁ B hml hv
  obtain ⟨rfl, hsz, hP, hK, hD0, hC, hZ⟩ := hv
  have hx := B.exec
  have hb := B.bytes
  have hr := B.returns
  have hts := atoms_spec (ws := wsX10_fact) B.pre
  have hown : s.vm.findClass RX10 = some m.cls := findClass_of_methodNamed B.named
  have hlocks := B.notSynchronized
  subst hsz
  have hD := hD0.self (sz := s.heap.size)
  generalize hAe : va_A [(oX10 w0 v0 v1 v2 v3 v4 g5 g6 (nI ed) g8 v9 (nI nb) g11 g12 v13 (nI ln) (nI (gP ti)) (nI (gR (ti + 1))) tk kw g19 g20 g21 (nI o9) g23 (nI cd) g25 g26 v27 v28 v29 v30 v31 v32 v33 v34 v35 v36 v37 (nI ol)), (v1, .inl (cA 0, 326, .inl fp)), (v9, .inl (cA 0, 700, .inl fb)), (v13, .inl (cA 1, 15, .inr (.inl fkw))), (v28, .inl (cA 1, 10, .inr (.inl l28))), (v30, .inl (cA 1, 8, .inr (.inl l30))), (v32, .inl (cA 0, 400, .inl fc))] s.heap.size = A at hD hZ ⊢
  have hA : ∀ q : Nat, s.heap.size ≤ q → A q := fun q h => by rw [← hAe]; exact Or.inr h
  have hS : va_S A s.heap s.heap [] := va_S.rf
  have hP : va_P D vwCl [(oX10 w0 v0 v1 v2 v3 v4 g5 g6 (nI ed) g8 v9 (nI nb) g11 g12 v13 (nI ln) (nI (gP ti)) (nI (gR (ti + 1))) tk kw g19 g20 g21 (nI o9) g23 (nI cd) g25 g26 v27 v28 v29 v30 v31 v32 v33 v34 v35 v36 v37 (nI ol)), (v1, .inl (cA 0, 326, .inl fp)), (v9, .inl (cA 0, 700, .inl fb)), (v13, .inl (cA 1, 15, .inr (.inl fkw))), (v28, .inl (cA 1, 10, .inr (.inl l28))), (v30, .inl (cA 1, 8, .inr (.inl l30))), (v32, .inl (cA 0, 400, .inl fc))] s.heap := hP
  have hl := lv_entry ([.ref w0]) (n := 1) (Nat.le_of_ble_eq_true rfl)
  rw [lg_entry_eq]
  generalize (lg_sl ([.ref w0]) ++ List.replicate (1 - (lg_sl ([.ref w0])).length) Slot.unset).toArray = ls at hl ⊢
  have hl : lv_has ls 1 [(0, .ref w0)] := hl
  have inX10 : ∀ w ∈ u_ws RX10 TX10 39, w ∈ wsX10_fact := by decide +kernel
  have hle9 := TX.le hTX hti
  refine lv_aload_n hx hb dX10_fact_0 rfl (lv_at hl 0 rfl) ?_
  refine lv_bipush (v := 40) hx hb dX10_fact_1 (by decide) ?_
  obtain ⟨hPc, hDc, hFc⟩ := PDq.cut (wc := [(oX10 w0 v0 v1 v2 v3 v4 g5 g6 (nI ed) g8 v9 (nI nb) g11 g12 v13 (nI ln) (nI (gP ti)) (nI (gR (ti + 1))) tk kw g19 g20 g21 (nI o9) g23 (nI cd) g25 g26 v27 v28 v29 v30 v31 v32 v33 v34 v35 v36 v37 (nI ol)), (v9, .inl (cA 0, 700, .inl fb))]) hP hD hS hA [0, 2] (by decide) rfl
  refine va_calli (va_runV (As := [.int 40]) (rest := []) ⟨hx, hb, hml, hown, hts⟩ (y_sym40 l D cA sa w0 ed nb ol v0 v1 v2 v3 v4 v9 v13 v27 v28 v29 v30 v31 v32 v33 v34 v35 v36 v37 g8 g11 g12 g19 g20 g21 (nI o9) g23 g26 g5 g6 g25 ln cd tk kw ti ct fb gP gR gS gK gV s.heap.size hln hct hti hTX hBY hTK) (cwV 1 hts gX10_fact_X10_isSymbol rfl rfl rfl (by decide +kernel) ⟨by show (0) + 1 ≤ 4 * (k9 + 1) + 21; omega, by show 8 + (2 + 11) + (0) ≤ 80 * (k9 + 1) + 340; omega⟩) ⟨Wd.blind, va_recv hK hPc (ci := 11) (q0 := 0) rfl rfl, fun U hU hW => ⟨rfl, Wd.call hPc hDc hK hC hZ hS hFc U hU hW⟩⟩ rfl rfl hl.1 rfl (lv_room (Nat.le_of_ble_eq_true rfl)) dX10_fact_3 ⟨(Nat.le_of_ble_eq_true rfl), (Nat.le_of_ble_eq_true rfl)⟩) hS (fun q _ h => hFc q h) hFc (fun rn1 u t H1 locs ht hvm hw hB hz1 hk1 hS => ?_)
  obtain ⟨hP1, hD1⟩ := hB
  rw [ht] at hP1
  obtain ⟨hP, hD⟩ := PDq.join (w := [(v1, .inl (cA 0, 326, .inl fp)), (v13, .inl (cA 1, 15, .inr (.inl fkw))), (v28, .inl (cA 1, 10, .inr (.inl l28))), (v30, .inl (cA 1, 8, .inr (.inl l30))), (v32, .inl (cA 0, 400, .inl fc)), (oX10 w0 v0 v1 v2 v3 v4 g5 g6 (nI ed) g8 v9 (nI nb) g11 g12 v13 (nI ln) (nI (gP ti)) (nI (gR (ti + 1))) tk kw g19 g20 g21 (nI o9) g23 (nI cd) g25 g26 v27 v28 v29 v30 v31 v32 v33 v34 v35 v36 v37 (nI ol)), (v9, .inl (cA 0, 700, .inl fb))]) 5 hP hD [0, 2] [1, 3, 4, 5, 6] rfl rfl (by decide) (by decide) hk1 hFc hP1 hD1 rfl
  generalize H1 = H at hP hS ⊢
  rcases hw with ⟨hr9, hn2⟩ | ⟨hr9, hn2⟩
  · skip
    subst hr9
    refine lv_if_eq (tgt := 14) hx hb dX10_fact_6 (by decide) (fun c9 => absurd c9 (by decide)) (fun c3 => ?_)
    refine lv_aload_n hx hb dX10_fact_9 rfl (lv_at hl 0 rfl) ?_
    obtain ⟨hPc, hDc, hFc⟩ := PDq.cut (wc := [(oX10 w0 v0 v1 v2 v3 v4 g5 g6 (nI ed) g8 v9 (nI nb) g11 g12 v13 (nI ln) (nI (gP ti)) (nI (gR (ti + 1))) tk kw g19 g20 g21 (nI o9) g23 (nI cd) g25 g26 v27 v28 v29 v30 v31 v32 v33 v34 v35 v36 v37 (nI ol)), (v1, .inl (cA 0, 326, .inl fp)), (v9, .inl (cA 0, 700, .inl fb)), (v13, .inl (cA 1, 15, .inr (.inl fkw))), (v28, .inl (cA 1, 10, .inr (.inl l28))), (v30, .inl (cA 1, 8, .inr (.inl l30))), (v32, .inl (cA 0, 400, .inl fc))]) hP hD hS hA [5, 0, 6, 1, 2, 3, 4] (by decide) rfl
    refine va_calli (va_runV (As := []) (rest := []) ⟨hx, hb, hml, hown, hts⟩ (y_bracket_S l D cA sa k9 IHf IHc w0 ed nb ol v0 v1 v2 v3 v4 v9 v13 v27 v28 v29 v30 v31 v32 v33 v34 v35 v36 v37 g8 g11 g12 g19 g20 g21 g23 g26 g5 g6 g25 ln cd tk kw ti ct fb fkw gP gR gS gK gV cn pq en dy fp sl o9 l28 l30 fc ml pl H.size hln hct hti hTX hBY hTK hKW hcn hpq hen hdy hri hcd hNM hNP hn2 ho) (cwV 0 hts gX10_fact_X10_bracket rfl rfl rfl (by decide +kernel) ⟨by show (4 * (k9 + 1) + 20) + 1 ≤ 4 * (k9 + 1) + 21; omega, by show 8 + (1 + 11) + (80 * (k9 + 1) + 320) ≤ 80 * (k9 + 1) + 340; omega⟩) ⟨Wd.blind, va_recv hK hPc (ci := 11) (q0 := 0) rfl rfl, fun U hU hW => ⟨rfl, Wd.call hPc hDc hK hC hZ hS hFc U hU hW⟩⟩ rfl rfl hl.1 rfl (lv_room (Nat.le_of_ble_eq_true rfl)) dX10_fact_10 ⟨(Nat.le_of_ble_eq_true rfl), (Nat.le_of_ble_eq_true rfl)⟩) hS (fun q _ h => hFc q h) hFc (fun rn4 u t H1 locs ht hvm hw hB hz1 hk1 hS => ?_)
    obtain ⟨qn5, zn6, zn7, zn8, zn9, zn10, zn11, zn12, qn13, qn14, zn15, fn16, fn17, fn18, zn19, hn20, hn21, hn22, hn23, hn24, hn25, hn26, hn27, hn28, hn29, hn30, hn31, hn32, hn33, hn34, hn35, hn36, hP1, hD1⟩ := hB
    rw [ht] at hP1
    obtain ⟨hP, hD⟩ := PDq.join (w := [(oX10 w0 v0 v1 v2 v3 v4 g5 g6 (nI ed) g8 v9 (nI nb) g11 g12 v13 (nI ln) (nI (gP qn5)) (nI (gR (qn5 + 1))) zn6 zn7 zn8 zn9 zn10 zn15 g23 (nI qn13) zn12 zn11 v27 v28 v29 v30 v31 v32 v33 v34 v35 v36 v37 (nI ol)), (v1, .inl (cA 0, 326, .inl fn16)), (v9, .inl (cA 0, 700, .inl fb)), (v13, .inl (cA 1, 15, .inr (.inl fkw))), (v28, .inl (cA 1, 10, .inr (.inl l28))), (v30, .inl (cA 1, 8, .inr (.inl fn18))), (v32, .inl (cA 0, 400, .inl fn17))]) 0 hP hD [5, 0, 6, 1, 2, 3, 4] [] rfl rfl (by decide) (by decide) hk1 hFc hP1 hD1 rfl
    generalize H1 = H at hP hS ⊢
    rcases hw.2 with hr9 | hr9
    · skip
      have hn36 := hn36 (hw.1.trans hr9)
      subst hr9
      obtain ⟨hP9, hD9⟩ := PDq.sub (ws' := [(oX10 w0 v0 v1 v2 v3 v4 g5 g6 (nI ed) g8 v9 (nI nb) g11 g12 v13 (nI ln) (nI (gP qn5)) (nI (gR (qn5 + 1))) zn6 zn7 zn8 zn9 zn10 zn15 g23 (nI qn13) zn12 zn11 v27 v28 v29 v30 v31 v32 v33 v34 v35 v36 v37 (nI ol)), (v1, .inl (cA 0, 326, .inl fn16)), (v9, .inl (cA 0, 700, .inl fb)), (v13, .inl (cA 1, 15, .inr (.inl fkw))), (v28, .inl (cA 1, 10, .inr (.inl l28))), (v30, .inl (cA 1, 8, .inr (.inl fn18))), (v32, .inl (cA 0, 400, .inl fn17))]) hP hD [0, 1, 2, 3, 4, 5, 6] (by decide) rfl
      refine W.widen (k := 0) (n := 0) (Nat.le_of_ble_eq_true rfl) (Nat.le_of_ble_eq_true rfl) ?_
      exact (W.zret (v := 0) hx hb hr (by first | rfl | decide) (fun t ht hW => ⟨⟨0, 0, rfl, ⟨rfl, by decide⟩, qn5, zn6, zn7, zn8, zn9, zn10, zn11, zn12, qn13, qn14, zn15, fn16, fn17, fn18, zn19, hn20, hn21, hn22, hn23, hn24, hn25, hn26, (fun h9 => absurd h9 (by decide)), (fun h9 => absurd h9 (by decide)), (fun h9 => absurd h9 (by decide)), (fun h9 => absurd h9 (by decide)), (fun h9 => absurd h9 (by decide)), (fun h9 => absurd h9 (by decide)), (fun h9 => absurd h9 (by decide)), (fun h9 => absurd h9 (by decide)), (fun h9 => absurd h9 (by decide)), (fun _ => hn36), by rw [ht]; exact hP9, hD9⟩, hS.F ht⟩) hS.2.2 dX10_fact_13)
    · skip
      have hn27 := hn27 (hw.1.trans hr9)
      subst hn27
      obtain ⟨hP, hD⟩ : PDq D A [(oX10 w0 v0 v1 v2 v3 v4 g5 g6 (nI ed) g8 v9 (nI nb) g11 g12 v13 (nI ln) (nI (gP qn5)) (nI (gR (qn5 + 1))) zn6 zn7 zn8 zn9 zn10 (nI o9) g23 (nI qn13) zn12 zn11 v27 v28 v29 v30 v31 v32 v33 v34 v35 v36 v37 (nI ol)), (v1, .inl (cA 0, 326, .inl fn16)), (v9, .inl (cA 0, 700, .inl fb)), (v13, .inl (cA 1, 15, .inr (.inl fkw))), (v28, .inl (cA 1, 10, .inr (.inl l28))), (v30, .inl (cA 1, 8, .inr (.inl fn18))), (v32, .inl (cA 0, 400, .inl fn17))] H := ⟨hP, hD⟩
      have hn28 := hn28 (hw.1.trans hr9)
      obtain rfl : g20 = zn9 := hn28.symm
      obtain ⟨hP, hD⟩ : PDq D A [(oX10 w0 v0 v1 v2 v3 v4 g5 g6 (nI ed) g8 v9 (nI nb) g11 g12 v13 (nI ln) (nI (gP qn5)) (nI (gR (qn5 + 1))) zn6 zn7 zn8 g20 zn10 (nI o9) g23 (nI qn13) zn12 zn11 v27 v28 v29 v30 v31 v32 v33 v34 v35 v36 v37 (nI ol)), (v1, .inl (cA 0, 326, .inl fn16)), (v9, .inl (cA 0, 700, .inl fb)), (v13, .inl (cA 1, 15, .inr (.inl fkw))), (v28, .inl (cA 1, 10, .inr (.inl l28))), (v30, .inl (cA 1, 8, .inr (.inl fn18))), (v32, .inl (cA 0, 400, .inl fn17))] H := ⟨hP, hD⟩
      have hn29 := hn29 (hw.1.trans hr9)
      obtain rfl : g21 = zn10 := hn29.symm
      obtain ⟨hP, hD⟩ : PDq D A [(oX10 w0 v0 v1 v2 v3 v4 g5 g6 (nI ed) g8 v9 (nI nb) g11 g12 v13 (nI ln) (nI (gP qn5)) (nI (gR (qn5 + 1))) zn6 zn7 zn8 g20 g21 (nI o9) g23 (nI qn13) zn12 zn11 v27 v28 v29 v30 v31 v32 v33 v34 v35 v36 v37 (nI ol)), (v1, .inl (cA 0, 326, .inl fn16)), (v9, .inl (cA 0, 700, .inl fb)), (v13, .inl (cA 1, 15, .inr (.inl fkw))), (v28, .inl (cA 1, 10, .inr (.inl l28))), (v30, .inl (cA 1, 8, .inr (.inl fn18))), (v32, .inl (cA 0, 400, .inl fn17))] H := ⟨hP, hD⟩
      have hn30 := hn30 (hw.1.trans hr9)
      have hn31 := hn31 (hw.1.trans hr9)
      have hn32 := hn32 (hw.1.trans hr9)
      have hn33 := hn33 (hw.1.trans hr9)
      have hn34 := hn34 (hw.1.trans hr9)
      have hn35 := hn35 (hw.1.trans hr9)
      subst hr9
      obtain ⟨hP9, hD9⟩ := PDq.sub (ws' := [(oX10 w0 v0 v1 v2 v3 v4 g5 g6 (nI ed) g8 v9 (nI nb) g11 g12 v13 (nI ln) (nI (gP qn5)) (nI (gR (qn5 + 1))) zn6 zn7 zn8 g20 g21 (nI o9) g23 (nI qn13) zn12 zn11 v27 v28 v29 v30 v31 v32 v33 v34 v35 v36 v37 (nI ol)), (v1, .inl (cA 0, 326, .inl fn16)), (v9, .inl (cA 0, 700, .inl fb)), (v13, .inl (cA 1, 15, .inr (.inl fkw))), (v28, .inl (cA 1, 10, .inr (.inl l28))), (v30, .inl (cA 1, 8, .inr (.inl fn18))), (v32, .inl (cA 0, 400, .inl fn17))]) hP hD [0, 1, 2, 3, 4, 5, 6] (by decide) rfl
      refine W.widen (k := 0) (n := 0) (Nat.le_of_ble_eq_true rfl) (Nat.le_of_ble_eq_true rfl) ?_
      exact (W.zret (v := 1) hx hb hr (by first | rfl | decide) (fun t ht hW => ⟨⟨1, 1, rfl, ⟨rfl, by decide⟩, qn5, zn6, zn7, zn8, g20, g21, zn11, zn12, qn13, qn14, (nI o9), fn16, fn17, fn18, zn19, hn20, hn21, hn22, hn23, hn24, hn25, hn26, (fun _ => rfl), (fun _ => rfl), (fun _ => rfl), (fun _ => hn30), (fun _ => hn31), (fun _ => hn32), (fun _ => hn33), (fun _ => hn34), (fun _ => hn35), (fun h9 => absurd h9 (by decide)), by rw [ht]; exact hP9, hD9⟩, hS.F ht⟩) hS.2.2 dX10_fact_13)
  · skip
    subst hr9
    refine lv_if_eq (tgt := 14) hx hb dX10_fact_6 (by decide) (fun c37 => ?_) (fun c9 => absurd c9 (by decide))
    refine lv_aload_n hx hb dX10_fact_14 rfl (lv_at hl 0 rfl) ?_
    refine va_get (D := D) (ci := 11) (v := .int tk) (C := RX10) (T := TX10) (N := 39) hx hb hts inX10 hown hK hP 5 rfl rfl 17 (by decide) (hts (.fieldLink RX10 126 "EscrowDeskModel" "token" "I") (by decide +kernel)) (fun _ h9 => h9) rfl dX10_fact_15 ?_
    refine lv_iconst (v := 2) hx hb dX10_fact_18 (by decide) ?_
    refine lv_icmp_eq (tgt := 28) hx hb dX10_fact_19 (by decide) (fun c38 => ?_) (fun c38 => ?_)
    · skip
      refine lv_aload_n hx hb dX10_fact_28 rfl (lv_at hl 0 rfl) ?_
      refine va_get (D := D) (ci := 11) (v := .int kw) (C := RX10) (T := TX10) (N := 39) hx hb hts inX10 hown hK hP 5 rfl rfl 18 (by decide) (hts (.fieldLink RX10 120 "EscrowDeskModel" "keyword" "I") (by decide +kernel)) (fun _ h9 => h9) rfl dX10_fact_29 ?_
      by_cases hn39 : kw = 8
      · skip
        refine W.eq (g2 := F0 m 32 ls [.int 8]) (by rw [hn39]) ?_
        refine lv_tableIn (off := 44) (tgt := 76) hx hb dX10_fact_32 (by decide) (by decide) (by decide) (by decide) ?_
        refine lv_aload_n hx hb dX10_fact_76 rfl (lv_at hl 0 rfl) ?_
        obtain ⟨hPc, hDc, hFc⟩ := PDq.cut (wc := [(oX10 w0 v0 v1 v2 v3 v4 g5 g6 (nI ed) g8 v9 (nI nb) g11 g12 v13 (nI ln) (nI (gP ti)) (nI (gR (ti + 1))) tk kw g19 g20 g21 (nI o9) g23 (nI cd) g25 g26 v27 v28 v29 v30 v31 v32 v33 v34 v35 v36 v37 (nI ol)), (v1, .inl (cA 0, 326, .inl fp)), (v9, .inl (cA 0, 700, .inl fb)), (v13, .inl (cA 1, 15, .inr (.inl fkw))), (v28, .inl (cA 1, 10, .inr (.inl l28))), (v30, .inl (cA 1, 8, .inr (.inl l30))), (v32, .inl (cA 0, 400, .inl fc))]) hP hD hS hA [5, 0, 6, 1, 2, 3, 4] (by decide) rfl
        refine va_calli (va_runV (As := []) (rest := []) ⟨hx, hb, hml, hown, hts⟩ (y_notFact_S l D cA sa k9 IHf IHc w0 ed nb ol v0 v1 v2 v3 v4 v9 v13 v27 v28 v29 v30 v31 v32 v33 v34 v35 v36 v37 g8 g11 g12 g19 g20 g21 g23 g26 g5 g6 g25 ln cd tk kw ti ct fb fkw gP gR gS gK gV cn pq en dy fp sl o9 l28 l30 fc ml pl H.size hln hct hti hTX hBY hTK hKW hcn hpq hen hdy hri hcd hNM hNP (TKR.kwd (n := 8) hTK (by decide) c38 hn39) ho) (cwV 0 hts gX10_fact_X10_notFact rfl rfl rfl (by decide +kernel) ⟨by show (4 * (k9 + 1) + 20) + 1 ≤ 4 * (k9 + 1) + 21; omega, by show 8 + (1 + 11) + (80 * (k9 + 1) + 320) ≤ 80 * (k9 + 1) + 340; omega⟩) ⟨Wd.blind, va_recv hK hPc (ci := 11) (q0 := 0) rfl rfl, fun U hU hW => ⟨rfl, Wd.call hPc hDc hK hC hZ hS hFc U hU hW⟩⟩ rfl rfl hl.1 rfl (lv_room (Nat.le_of_ble_eq_true rfl)) dX10_fact_77 ⟨(Nat.le_of_ble_eq_true rfl), (Nat.le_of_ble_eq_true rfl)⟩) hS (fun q _ h => hFc q h) hFc (fun rn40 u t H1 locs ht hvm hw hB hz1 hk1 hS => ?_)
        obtain ⟨qn41, zn42, zn43, zn44, zn45, zn46, zn47, zn48, qn49, qn50, zn51, fn52, fn53, fn54, zn55, hn56, hn57, hn58, hn59, hn60, hn61, hn62, hn63, hn64, hn65, hn66, hn67, hn68, hn69, hn70, hn71, hn72, hP1, hD1⟩ := hB
        rw [ht] at hP1
        obtain ⟨hP, hD⟩ := PDq.join (w := [(oX10 w0 v0 v1 v2 v3 v4 g5 g6 (nI ed) g8 v9 (nI nb) g11 g12 v13 (nI ln) (nI (gP qn41)) (nI (gR (qn41 + 1))) zn42 zn43 zn44 zn45 zn46 zn51 g23 (nI qn49) zn48 zn47 v27 v28 v29 v30 v31 v32 v33 v34 v35 v36 v37 (nI ol)), (v1, .inl (cA 0, 326, .inl fn52)), (v9, .inl (cA 0, 700, .inl fb)), (v13, .inl (cA 1, 15, .inr (.inl fkw))), (v28, .inl (cA 1, 10, .inr (.inl l28))), (v30, .inl (cA 1, 8, .inr (.inl fn54))), (v32, .inl (cA 0, 400, .inl fn53))]) 0 hP hD [5, 0, 6, 1, 2, 3, 4] [] rfl rfl (by decide) (by decide) hk1 hFc hP1 hD1 rfl
        generalize H1 = H at hP hS ⊢
        rcases hw.2 with hr9 | hr9
        · skip
          have hn72 := hn72 (hw.1.trans hr9)
          subst hr9
          obtain ⟨hP9, hD9⟩ := PDq.sub (ws' := [(oX10 w0 v0 v1 v2 v3 v4 g5 g6 (nI ed) g8 v9 (nI nb) g11 g12 v13 (nI ln) (nI (gP qn41)) (nI (gR (qn41 + 1))) zn42 zn43 zn44 zn45 zn46 zn51 g23 (nI qn49) zn48 zn47 v27 v28 v29 v30 v31 v32 v33 v34 v35 v36 v37 (nI ol)), (v1, .inl (cA 0, 326, .inl fn52)), (v9, .inl (cA 0, 700, .inl fb)), (v13, .inl (cA 1, 15, .inr (.inl fkw))), (v28, .inl (cA 1, 10, .inr (.inl l28))), (v30, .inl (cA 1, 8, .inr (.inl fn54))), (v32, .inl (cA 0, 400, .inl fn53))]) hP hD [0, 1, 2, 3, 4, 5, 6] (by decide) rfl
          refine W.widen (k := 0) (n := 0) (Nat.le_of_ble_eq_true rfl) (Nat.le_of_ble_eq_true rfl) ?_
          exact (W.zret (v := 0) hx hb hr (by first | rfl | decide) (fun t ht hW => ⟨⟨0, 0, rfl, ⟨rfl, by decide⟩, qn41, zn42, zn43, zn44, zn45, zn46, zn47, zn48, qn49, qn50, zn51, fn52, fn53, fn54, zn55, hn56, hn57, hn58, hn59, hn60, hn61, hn62, (fun h9 => absurd h9 (by decide)), (fun h9 => absurd h9 (by decide)), (fun h9 => absurd h9 (by decide)), (fun h9 => absurd h9 (by decide)), (fun h9 => absurd h9 (by decide)), (fun h9 => absurd h9 (by decide)), (fun h9 => absurd h9 (by decide)), (fun h9 => absurd h9 (by decide)), (fun h9 => absurd h9 (by decide)), (fun _ => hn72), by rw [ht]; exact hP9, hD9⟩, hS.F ht⟩) hS.2.2 dX10_fact_80)
        · skip
          have hn63 := hn63 (hw.1.trans hr9)
          subst hn63
          obtain ⟨hP, hD⟩ : PDq D A [(oX10 w0 v0 v1 v2 v3 v4 g5 g6 (nI ed) g8 v9 (nI nb) g11 g12 v13 (nI ln) (nI (gP qn41)) (nI (gR (qn41 + 1))) zn42 zn43 zn44 zn45 zn46 (nI o9) g23 (nI qn49) zn48 zn47 v27 v28 v29 v30 v31 v32 v33 v34 v35 v36 v37 (nI ol)), (v1, .inl (cA 0, 326, .inl fn52)), (v9, .inl (cA 0, 700, .inl fb)), (v13, .inl (cA 1, 15, .inr (.inl fkw))), (v28, .inl (cA 1, 10, .inr (.inl l28))), (v30, .inl (cA 1, 8, .inr (.inl fn54))), (v32, .inl (cA 0, 400, .inl fn53))] H := ⟨hP, hD⟩
          have hn64 := hn64 (hw.1.trans hr9)
          obtain rfl : g20 = zn45 := hn64.symm
          obtain ⟨hP, hD⟩ : PDq D A [(oX10 w0 v0 v1 v2 v3 v4 g5 g6 (nI ed) g8 v9 (nI nb) g11 g12 v13 (nI ln) (nI (gP qn41)) (nI (gR (qn41 + 1))) zn42 zn43 zn44 g20 zn46 (nI o9) g23 (nI qn49) zn48 zn47 v27 v28 v29 v30 v31 v32 v33 v34 v35 v36 v37 (nI ol)), (v1, .inl (cA 0, 326, .inl fn52)), (v9, .inl (cA 0, 700, .inl fb)), (v13, .inl (cA 1, 15, .inr (.inl fkw))), (v28, .inl (cA 1, 10, .inr (.inl l28))), (v30, .inl (cA 1, 8, .inr (.inl fn54))), (v32, .inl (cA 0, 400, .inl fn53))] H := ⟨hP, hD⟩
          have hn65 := hn65 (hw.1.trans hr9)
          obtain rfl : g21 = zn46 := hn65.symm
          obtain ⟨hP, hD⟩ : PDq D A [(oX10 w0 v0 v1 v2 v3 v4 g5 g6 (nI ed) g8 v9 (nI nb) g11 g12 v13 (nI ln) (nI (gP qn41)) (nI (gR (qn41 + 1))) zn42 zn43 zn44 g20 g21 (nI o9) g23 (nI qn49) zn48 zn47 v27 v28 v29 v30 v31 v32 v33 v34 v35 v36 v37 (nI ol)), (v1, .inl (cA 0, 326, .inl fn52)), (v9, .inl (cA 0, 700, .inl fb)), (v13, .inl (cA 1, 15, .inr (.inl fkw))), (v28, .inl (cA 1, 10, .inr (.inl l28))), (v30, .inl (cA 1, 8, .inr (.inl fn54))), (v32, .inl (cA 0, 400, .inl fn53))] H := ⟨hP, hD⟩
          have hn66 := hn66 (hw.1.trans hr9)
          have hn67 := hn67 (hw.1.trans hr9)
          have hn68 := hn68 (hw.1.trans hr9)
          have hn69 := hn69 (hw.1.trans hr9)
          have hn70 := hn70 (hw.1.trans hr9)
          have hn71 := hn71 (hw.1.trans hr9)
          subst hr9
          obtain ⟨hP9, hD9⟩ := PDq.sub (ws' := [(oX10 w0 v0 v1 v2 v3 v4 g5 g6 (nI ed) g8 v9 (nI nb) g11 g12 v13 (nI ln) (nI (gP qn41)) (nI (gR (qn41 + 1))) zn42 zn43 zn44 g20 g21 (nI o9) g23 (nI qn49) zn48 zn47 v27 v28 v29 v30 v31 v32 v33 v34 v35 v36 v37 (nI ol)), (v1, .inl (cA 0, 326, .inl fn52)), (v9, .inl (cA 0, 700, .inl fb)), (v13, .inl (cA 1, 15, .inr (.inl fkw))), (v28, .inl (cA 1, 10, .inr (.inl l28))), (v30, .inl (cA 1, 8, .inr (.inl fn54))), (v32, .inl (cA 0, 400, .inl fn53))]) hP hD [0, 1, 2, 3, 4, 5, 6] (by decide) rfl
          refine W.widen (k := 0) (n := 0) (Nat.le_of_ble_eq_true rfl) (Nat.le_of_ble_eq_true rfl) ?_
          exact (W.zret (v := 1) hx hb hr (by first | rfl | decide) (fun t ht hW => ⟨⟨1, 1, rfl, ⟨rfl, by decide⟩, qn41, zn42, zn43, zn44, g20, g21, zn47, zn48, qn49, qn50, (nI o9), fn52, fn53, fn54, zn55, hn56, hn57, hn58, hn59, hn60, hn61, hn62, (fun _ => rfl), (fun _ => rfl), (fun _ => rfl), (fun _ => hn66), (fun _ => hn67), (fun _ => hn68), (fun _ => hn69), (fun _ => hn70), (fun _ => hn71), (fun h9 => absurd h9 (by decide)), by rw [ht]; exact hP9, hD9⟩, hS.F ht⟩) hS.2.2 dX10_fact_80)
      · skip
        by_cases hn73 : kw = 9
        · skip
          refine W.eq (g2 := F0 m 32 ls [.int 9]) (by rw [hn73]) ?_
          refine lv_tableIn (off := 49) (tgt := 81) hx hb dX10_fact_32 (by decide) (by decide) (by decide) (by decide) ?_
          refine lv_aload_n hx hb dX10_fact_81 rfl (lv_at hl 0 rfl) ?_
          refine lv_iconst (v := 0) hx hb dX10_fact_82 (by decide) ?_
          refine lv_sipush (v := 999) hx hb dX10_fact_83 (by decide) ?_
          obtain ⟨hPc, hDc, hFc⟩ := PDq.cut (wc := [(oX10 w0 v0 v1 v2 v3 v4 g5 g6 (nI ed) g8 v9 (nI nb) g11 g12 v13 (nI ln) (nI (gP ti)) (nI (gR (ti + 1))) tk kw g19 g20 g21 (nI o9) g23 (nI cd) g25 g26 v27 v28 v29 v30 v31 v32 v33 v34 v35 v36 v37 (nI ol)), (v1, .inl (cA 0, 326, .inl fp)), (v9, .inl (cA 0, 700, .inl fb)), (v13, .inl (cA 1, 15, .inr (.inl fkw))), (v28, .inl (cA 1, 10, .inr (.inl l28))), (v30, .inl (cA 1, 8, .inr (.inl l30))), (v32, .inl (cA 0, 400, .inl fc))]) hP hD hS hA [5, 0, 6, 1, 2, 3, 4] (by decide) rfl
          refine va_calli (va_runV (As := [.int 0, .int 999]) (rest := []) ⟨hx, hb, hml, hown, hts⟩ (y_numberFact0 l D cA sa w0 ed nb ol v0 v1 v2 v3 v4 v9 v13 v27 v28 v29 v30 v31 v32 v33 v34 v35 v36 v37 g8 g11 g12 g19 g20 g21 g23 g26 g5 g6 g25 ln cd tk kw ti ct fb fkw gP gR gS gK gV cn pq en dy fp sl o9 l28 l30 fc ml pl (nI o9) H.size hln hct hti hTX hBY hTK hKW hcn hpq hen hdy hri hcd hNM hNP (TKR.kwd (n := 9) hTK (by decide) c38 hn73)) (cwV 2 hts gX10_fact_X10_numberFact rfl rfl rfl (by decide +kernel) ⟨by show (3) + 1 ≤ 4 * (k9 + 1) + 21; omega, by show 8 + (3 + 11) + (66) ≤ 80 * (k9 + 1) + 340; omega⟩) ⟨Wd.blind, va_recv hK hPc (ci := 11) (q0 := 0) rfl rfl, fun U hU hW => ⟨rfl, Wd.call hPc hDc hK hC hZ hS hFc U hU hW⟩⟩ rfl rfl hl.1 rfl (lv_room (Nat.le_of_ble_eq_true rfl)) dX10_fact_86 ⟨(Nat.le_of_ble_eq_true rfl), (Nat.le_of_ble_eq_true rfl)⟩) hS (fun q _ h => hFc q h) hFc (fun rn74 u t H1 locs ht hvm hw hB hz1 hk1 hS => ?_)
          obtain ⟨qn75, zn76, zn77, zn78, zn79, zn80, zn81, zn82, qn83, qn84, fn85, fn86, fn87, zn88, hn89, hn90, hn91, hn92, hn93, hn94, hn95, hn96, hn97, hn98, hn99, hn100, hn101, hn102, hn103, hn104, hP1, hD1⟩ := hB
          rw [ht] at hP1
          obtain ⟨hP, hD⟩ := PDq.join (w := [(oX10 w0 v0 v1 v2 v3 v4 g5 g6 (nI ed) g8 v9 (nI nb) g11 g12 v13 (nI ln) (nI (gP qn75)) (nI (gR (qn75 + 1))) zn76 zn77 zn78 zn79 zn80 (nI o9) g23 (nI qn83) zn82 zn81 v27 v28 v29 v30 v31 v32 v33 v34 v35 v36 v37 (nI ol)), (v1, .inl (cA 0, 326, .inl fn85)), (v9, .inl (cA 0, 700, .inl fb)), (v13, .inl (cA 1, 15, .inr (.inl fkw))), (v28, .inl (cA 1, 10, .inr (.inl l28))), (v30, .inl (cA 1, 8, .inr (.inl fn87))), (v32, .inl (cA 0, 400, .inl fn86))]) 0 hP hD [5, 0, 6, 1, 2, 3, 4] [] rfl rfl (by decide) (by decide) hk1 hFc hP1 hD1 rfl
          generalize H1 = H at hP hS ⊢
          rcases hw.2 with hr9 | hr9
          · skip
            have hn104 := hn104 (hw.1.trans hr9)
            subst hr9
            obtain ⟨hP9, hD9⟩ := PDq.sub (ws' := [(oX10 w0 v0 v1 v2 v3 v4 g5 g6 (nI ed) g8 v9 (nI nb) g11 g12 v13 (nI ln) (nI (gP qn75)) (nI (gR (qn75 + 1))) zn76 zn77 zn78 zn79 zn80 (nI o9) g23 (nI qn83) zn82 zn81 v27 v28 v29 v30 v31 v32 v33 v34 v35 v36 v37 (nI ol)), (v1, .inl (cA 0, 326, .inl fn85)), (v9, .inl (cA 0, 700, .inl fb)), (v13, .inl (cA 1, 15, .inr (.inl fkw))), (v28, .inl (cA 1, 10, .inr (.inl l28))), (v30, .inl (cA 1, 8, .inr (.inl fn87))), (v32, .inl (cA 0, 400, .inl fn86))]) hP hD [0, 1, 2, 3, 4, 5, 6] (by decide) rfl
            refine W.widen (k := 0) (n := 0) (Nat.le_of_ble_eq_true rfl) (Nat.le_of_ble_eq_true rfl) ?_
            exact (W.zret (v := 0) hx hb hr (by first | rfl | decide) (fun t ht hW => ⟨⟨0, 0, rfl, ⟨rfl, by decide⟩, qn75, zn76, zn77, zn78, zn79, zn80, zn81, zn82, qn83, qn84, (nI o9), fn85, fn86, fn87, zn88, hn89, hn90, hn91, hn92, hn93, hn94, hn95, (fun h9 => absurd h9 (by decide)), (fun h9 => absurd h9 (by decide)), (fun h9 => absurd h9 (by decide)), (fun h9 => absurd h9 (by decide)), (fun h9 => absurd h9 (by decide)), (fun h9 => absurd h9 (by decide)), (fun h9 => absurd h9 (by decide)), (fun h9 => absurd h9 (by decide)), (fun h9 => absurd h9 (by decide)), (fun _ => hn104), by rw [ht]; exact hP9, hD9⟩, hS.F ht⟩) hS.2.2 dX10_fact_89)
          · skip
            have hn96 := hn96 (hw.1.trans hr9)
            obtain rfl : g20 = zn79 := hn96.symm
            obtain ⟨hP, hD⟩ : PDq D A [(oX10 w0 v0 v1 v2 v3 v4 g5 g6 (nI ed) g8 v9 (nI nb) g11 g12 v13 (nI ln) (nI (gP qn75)) (nI (gR (qn75 + 1))) zn76 zn77 zn78 g20 zn80 (nI o9) g23 (nI qn83) zn82 zn81 v27 v28 v29 v30 v31 v32 v33 v34 v35 v36 v37 (nI ol)), (v1, .inl (cA 0, 326, .inl fn85)), (v9, .inl (cA 0, 700, .inl fb)), (v13, .inl (cA 1, 15, .inr (.inl fkw))), (v28, .inl (cA 1, 10, .inr (.inl l28))), (v30, .inl (cA 1, 8, .inr (.inl fn87))), (v32, .inl (cA 0, 400, .inl fn86))] H := ⟨hP, hD⟩
            have hn97 := hn97 (hw.1.trans hr9)
            obtain rfl : g21 = zn80 := hn97.symm
            obtain ⟨hP, hD⟩ : PDq D A [(oX10 w0 v0 v1 v2 v3 v4 g5 g6 (nI ed) g8 v9 (nI nb) g11 g12 v13 (nI ln) (nI (gP qn75)) (nI (gR (qn75 + 1))) zn76 zn77 zn78 g20 g21 (nI o9) g23 (nI qn83) zn82 zn81 v27 v28 v29 v30 v31 v32 v33 v34 v35 v36 v37 (nI ol)), (v1, .inl (cA 0, 326, .inl fn85)), (v9, .inl (cA 0, 700, .inl fb)), (v13, .inl (cA 1, 15, .inr (.inl fkw))), (v28, .inl (cA 1, 10, .inr (.inl l28))), (v30, .inl (cA 1, 8, .inr (.inl fn87))), (v32, .inl (cA 0, 400, .inl fn86))] H := ⟨hP, hD⟩
            have hn98 := hn98 (hw.1.trans hr9)
            have hn99 := hn99 (hw.1.trans hr9)
            have hn100 := hn100 (hw.1.trans hr9)
            have hn101 := hn101 (hw.1.trans hr9)
            have hn102 := hn102 (hw.1.trans hr9)
            have hn103 := hn103 (hw.1.trans hr9)
            subst hr9
            obtain ⟨hP9, hD9⟩ := PDq.sub (ws' := [(oX10 w0 v0 v1 v2 v3 v4 g5 g6 (nI ed) g8 v9 (nI nb) g11 g12 v13 (nI ln) (nI (gP qn75)) (nI (gR (qn75 + 1))) zn76 zn77 zn78 g20 g21 (nI o9) g23 (nI qn83) zn82 zn81 v27 v28 v29 v30 v31 v32 v33 v34 v35 v36 v37 (nI ol)), (v1, .inl (cA 0, 326, .inl fn85)), (v9, .inl (cA 0, 700, .inl fb)), (v13, .inl (cA 1, 15, .inr (.inl fkw))), (v28, .inl (cA 1, 10, .inr (.inl l28))), (v30, .inl (cA 1, 8, .inr (.inl fn87))), (v32, .inl (cA 0, 400, .inl fn86))]) hP hD [0, 1, 2, 3, 4, 5, 6] (by decide) rfl
            refine W.widen (k := 0) (n := 0) (Nat.le_of_ble_eq_true rfl) (Nat.le_of_ble_eq_true rfl) ?_
            exact (W.zret (v := 1) hx hb hr (by first | rfl | decide) (fun t ht hW => ⟨⟨1, 1, rfl, ⟨rfl, by decide⟩, qn75, zn76, zn77, zn78, g20, g21, zn81, zn82, qn83, qn84, (nI o9), fn85, fn86, fn87, zn88, hn89, hn90, hn91, hn92, hn93, hn94, hn95, (fun _ => rfl), (fun _ => rfl), (fun _ => rfl), (fun _ => hn98), (fun _ => hn99), (fun _ => hn100), (fun _ => hn101), (fun _ => hn102), (fun _ => hn103), (fun h9 => absurd h9 (by decide)), by rw [ht]; exact hP9, hD9⟩, hS.F ht⟩) hS.2.2 dX10_fact_89)
        · skip
          by_cases hn105 : kw = 10
          · skip
            refine W.eq (g2 := F0 m 32 ls [.int 10]) (by rw [hn105]) ?_
            refine lv_tableIn (off := 58) (tgt := 90) hx hb dX10_fact_32 (by decide) (by decide) (by decide) (by decide) ?_
            refine lv_aload_n hx hb dX10_fact_90 rfl (lv_at hl 0 rfl) ?_
            obtain ⟨hPc, hDc, hFc⟩ := PDq.cut (wc := [(oX10 w0 v0 v1 v2 v3 v4 g5 g6 (nI ed) g8 v9 (nI nb) g11 g12 v13 (nI ln) (nI (gP ti)) (nI (gR (ti + 1))) tk kw g19 g20 g21 (nI o9) g23 (nI cd) g25 g26 v27 v28 v29 v30 v31 v32 v33 v34 v35 v36 v37 (nI ol)), (v1, .inl (cA 0, 326, .inl fp)), (v9, .inl (cA 0, 700, .inl fb)), (v13, .inl (cA 1, 15, .inr (.inl fkw))), (v28, .inl (cA 1, 10, .inr (.inl l28))), (v30, .inl (cA 1, 8, .inr (.inl l30))), (v32, .inl (cA 0, 400, .inl fc))]) hP hD hS hA [5, 0, 6, 1, 2, 3, 4] (by decide) rfl
            refine va_calli (va_runV (As := []) (rest := []) ⟨hx, hb, hml, hown, hts⟩ (y_proofFact l D cA sa w0 ed nb ol v0 v1 v2 v3 v4 v9 v13 v27 v28 v29 v30 v31 v32 v33 v34 v35 v36 v37 g8 g11 g12 g19 g20 g21 g23 g26 g5 g6 g25 ln cd tk kw ti ct fb fkw gP gR gS gK gV cn pq en dy fp sl o9 l28 l30 fc ml pl (nI o9) H.size hln hct hti hTX hBY hTK hKW hcn hpq hen hdy hri hcd hNM hNP (TKR.kwd (n := 10) hTK (by decide) c38 hn105)) (cwV 0 hts gX10_fact_X10_proofFact rfl rfl rfl (by decide +kernel) ⟨by show (2) + 1 ≤ 4 * (k9 + 1) + 21; omega, by show 8 + (2 + 11) + (44) ≤ 80 * (k9 + 1) + 340; omega⟩) ⟨Wd.blind, va_recv hK hPc (ci := 11) (q0 := 0) rfl rfl, fun U hU hW => ⟨rfl, Wd.call hPc hDc hK hC hZ hS hFc U hU hW⟩⟩ rfl rfl hl.1 rfl (lv_room (Nat.le_of_ble_eq_true rfl)) dX10_fact_91 ⟨(Nat.le_of_ble_eq_true rfl), (Nat.le_of_ble_eq_true rfl)⟩) hS (fun q _ h => hFc q h) hFc (fun rn106 u t H1 locs ht hvm hw hB hz1 hk1 hS => ?_)
            obtain ⟨qn107, zn108, zn109, zn110, zn111, zn112, zn113, zn114, qn115, qn116, fn117, fn118, fn119, zn120, hn121, hn122, hn123, hn124, hn125, hn126, hn127, hn128, hn129, hn130, hn131, hn132, hn133, hn134, hn135, hn136, hP1, hD1⟩ := hB
            rw [ht] at hP1
            obtain ⟨hP, hD⟩ := PDq.join (w := [(oX10 w0 v0 v1 v2 v3 v4 g5 g6 (nI ed) g8 v9 (nI nb) g11 g12 v13 (nI ln) (nI (gP qn107)) (nI (gR (qn107 + 1))) zn108 zn109 zn110 zn111 zn112 (nI o9) g23 (nI qn115) zn114 zn113 v27 v28 v29 v30 v31 v32 v33 v34 v35 v36 v37 (nI ol)), (v1, .inl (cA 0, 326, .inl fn117)), (v9, .inl (cA 0, 700, .inl fb)), (v13, .inl (cA 1, 15, .inr (.inl fkw))), (v28, .inl (cA 1, 10, .inr (.inl l28))), (v30, .inl (cA 1, 8, .inr (.inl fn119))), (v32, .inl (cA 0, 400, .inl fn118))]) 0 hP hD [5, 0, 6, 1, 2, 3, 4] [] rfl rfl (by decide) (by decide) hk1 hFc hP1 hD1 rfl
            generalize H1 = H at hP hS ⊢
            rcases hw.2 with hr9 | hr9
            · skip
              have hn136 := hn136 (hw.1.trans hr9)
              subst hr9
              obtain ⟨hP9, hD9⟩ := PDq.sub (ws' := [(oX10 w0 v0 v1 v2 v3 v4 g5 g6 (nI ed) g8 v9 (nI nb) g11 g12 v13 (nI ln) (nI (gP qn107)) (nI (gR (qn107 + 1))) zn108 zn109 zn110 zn111 zn112 (nI o9) g23 (nI qn115) zn114 zn113 v27 v28 v29 v30 v31 v32 v33 v34 v35 v36 v37 (nI ol)), (v1, .inl (cA 0, 326, .inl fn117)), (v9, .inl (cA 0, 700, .inl fb)), (v13, .inl (cA 1, 15, .inr (.inl fkw))), (v28, .inl (cA 1, 10, .inr (.inl l28))), (v30, .inl (cA 1, 8, .inr (.inl fn119))), (v32, .inl (cA 0, 400, .inl fn118))]) hP hD [0, 1, 2, 3, 4, 5, 6] (by decide) rfl
              refine W.widen (k := 0) (n := 0) (Nat.le_of_ble_eq_true rfl) (Nat.le_of_ble_eq_true rfl) ?_
              exact (W.zret (v := 0) hx hb hr (by first | rfl | decide) (fun t ht hW => ⟨⟨0, 0, rfl, ⟨rfl, by decide⟩, qn107, zn108, zn109, zn110, zn111, zn112, zn113, zn114, qn115, qn116, (nI o9), fn117, fn118, fn119, zn120, hn121, hn122, hn123, hn124, hn125, hn126, hn127, (fun h9 => absurd h9 (by decide)), (fun h9 => absurd h9 (by decide)), (fun h9 => absurd h9 (by decide)), (fun h9 => absurd h9 (by decide)), (fun h9 => absurd h9 (by decide)), (fun h9 => absurd h9 (by decide)), (fun h9 => absurd h9 (by decide)), (fun h9 => absurd h9 (by decide)), (fun h9 => absurd h9 (by decide)), (fun _ => hn136), by rw [ht]; exact hP9, hD9⟩, hS.F ht⟩) hS.2.2 dX10_fact_94)
            · skip
              have hn128 := hn128 (hw.1.trans hr9)
              obtain rfl : g20 = zn111 := hn128.symm
              obtain ⟨hP, hD⟩ : PDq D A [(oX10 w0 v0 v1 v2 v3 v4 g5 g6 (nI ed) g8 v9 (nI nb) g11 g12 v13 (nI ln) (nI (gP qn107)) (nI (gR (qn107 + 1))) zn108 zn109 zn110 g20 zn112 (nI o9) g23 (nI qn115) zn114 zn113 v27 v28 v29 v30 v31 v32 v33 v34 v35 v36 v37 (nI ol)), (v1, .inl (cA 0, 326, .inl fn117)), (v9, .inl (cA 0, 700, .inl fb)), (v13, .inl (cA 1, 15, .inr (.inl fkw))), (v28, .inl (cA 1, 10, .inr (.inl l28))), (v30, .inl (cA 1, 8, .inr (.inl fn119))), (v32, .inl (cA 0, 400, .inl fn118))] H := ⟨hP, hD⟩
              have hn129 := hn129 (hw.1.trans hr9)
              obtain rfl : g21 = zn112 := hn129.symm
              obtain ⟨hP, hD⟩ : PDq D A [(oX10 w0 v0 v1 v2 v3 v4 g5 g6 (nI ed) g8 v9 (nI nb) g11 g12 v13 (nI ln) (nI (gP qn107)) (nI (gR (qn107 + 1))) zn108 zn109 zn110 g20 g21 (nI o9) g23 (nI qn115) zn114 zn113 v27 v28 v29 v30 v31 v32 v33 v34 v35 v36 v37 (nI ol)), (v1, .inl (cA 0, 326, .inl fn117)), (v9, .inl (cA 0, 700, .inl fb)), (v13, .inl (cA 1, 15, .inr (.inl fkw))), (v28, .inl (cA 1, 10, .inr (.inl l28))), (v30, .inl (cA 1, 8, .inr (.inl fn119))), (v32, .inl (cA 0, 400, .inl fn118))] H := ⟨hP, hD⟩
              have hn130 := hn130 (hw.1.trans hr9)
              have hn131 := hn131 (hw.1.trans hr9)
              have hn132 := hn132 (hw.1.trans hr9)
              have hn133 := hn133 (hw.1.trans hr9)
              have hn134 := hn134 (hw.1.trans hr9)
              have hn135 := hn135 (hw.1.trans hr9)
              subst hr9
              obtain ⟨hP9, hD9⟩ := PDq.sub (ws' := [(oX10 w0 v0 v1 v2 v3 v4 g5 g6 (nI ed) g8 v9 (nI nb) g11 g12 v13 (nI ln) (nI (gP qn107)) (nI (gR (qn107 + 1))) zn108 zn109 zn110 g20 g21 (nI o9) g23 (nI qn115) zn114 zn113 v27 v28 v29 v30 v31 v32 v33 v34 v35 v36 v37 (nI ol)), (v1, .inl (cA 0, 326, .inl fn117)), (v9, .inl (cA 0, 700, .inl fb)), (v13, .inl (cA 1, 15, .inr (.inl fkw))), (v28, .inl (cA 1, 10, .inr (.inl l28))), (v30, .inl (cA 1, 8, .inr (.inl fn119))), (v32, .inl (cA 0, 400, .inl fn118))]) hP hD [0, 1, 2, 3, 4, 5, 6] (by decide) rfl
              refine W.widen (k := 0) (n := 0) (Nat.le_of_ble_eq_true rfl) (Nat.le_of_ble_eq_true rfl) ?_
              exact (W.zret (v := 1) hx hb hr (by first | rfl | decide) (fun t ht hW => ⟨⟨1, 1, rfl, ⟨rfl, by decide⟩, qn107, zn108, zn109, zn110, g20, g21, zn113, zn114, qn115, qn116, (nI o9), fn117, fn118, fn119, zn120, hn121, hn122, hn123, hn124, hn125, hn126, hn127, (fun _ => rfl), (fun _ => rfl), (fun _ => rfl), (fun _ => hn130), (fun _ => hn131), (fun _ => hn132), (fun _ => hn133), (fun _ => hn134), (fun _ => hn135), (fun h9 => absurd h9 (by decide)), by rw [ht]; exact hP9, hD9⟩, hS.F ht⟩) hS.2.2 dX10_fact_94)
          · skip
            by_cases hn137 : kw = 11
            · skip
              refine W.eq (g2 := F0 m 32 ls [.int 11]) (by rw [hn137]) ?_
              refine lv_tableIn (off := 63) (tgt := 95) hx hb dX10_fact_32 (by decide) (by decide) (by decide) (by decide) ?_
              refine lv_aload_n hx hb dX10_fact_95 rfl (lv_at hl 0 rfl) ?_
              obtain ⟨hPc, hDc, hFc⟩ := PDq.cut (wc := [(oX10 w0 v0 v1 v2 v3 v4 g5 g6 (nI ed) g8 v9 (nI nb) g11 g12 v13 (nI ln) (nI (gP ti)) (nI (gR (ti + 1))) tk kw g19 g20 g21 (nI o9) g23 (nI cd) g25 g26 v27 v28 v29 v30 v31 v32 v33 v34 v35 v36 v37 (nI ol)), (v1, .inl (cA 0, 326, .inl fp)), (v9, .inl (cA 0, 700, .inl fb)), (v13, .inl (cA 1, 15, .inr (.inl fkw))), (v28, .inl (cA 1, 10, .inr (.inl l28))), (v30, .inl (cA 1, 8, .inr (.inl l30))), (v32, .inl (cA 0, 400, .inl fc))]) hP hD hS hA [5, 0, 6, 1, 2, 3, 4] (by decide) rfl
              refine va_calli (va_runV (As := []) (rest := []) ⟨hx, hb, hml, hown, hts⟩ (y_doneFact l D cA sa w0 ed nb ol v0 v1 v2 v3 v4 v9 v13 v27 v28 v29 v30 v31 v32 v33 v34 v35 v36 v37 g8 g11 g12 g19 g20 g21 g23 g26 g5 g6 g25 ln cd tk kw ti ct fb fkw gP gR gS gK gV cn pq en dy fp sl o9 l28 l30 fc ml pl (nI o9) H.size hln hct hti hTX hBY hTK hKW hcn hpq hen hdy hri hcd hNM hNP (TKR.kwd (n := 11) hTK (by decide) c38 hn137)) (cwV 0 hts gX10_fact_X10_doneFact rfl rfl rfl (by decide +kernel) ⟨by show (2) + 1 ≤ 4 * (k9 + 1) + 21; omega, by show 8 + (2 + 11) + (44) ≤ 80 * (k9 + 1) + 340; omega⟩) ⟨Wd.blind, va_recv hK hPc (ci := 11) (q0 := 0) rfl rfl, fun U hU hW => ⟨rfl, Wd.call hPc hDc hK hC hZ hS hFc U hU hW⟩⟩ rfl rfl hl.1 rfl (lv_room (Nat.le_of_ble_eq_true rfl)) dX10_fact_96 ⟨(Nat.le_of_ble_eq_true rfl), (Nat.le_of_ble_eq_true rfl)⟩) hS (fun q _ h => hFc q h) hFc (fun rn138 u t H1 locs ht hvm hw hB hz1 hk1 hS => ?_)
              obtain ⟨qn139, zn140, zn141, zn142, zn143, zn144, zn145, zn146, qn147, qn148, fn149, fn150, fn151, zn152, hn153, hn154, hn155, hn156, hn157, hn158, hn159, hn160, hn161, hn162, hn163, hn164, hn165, hn166, hn167, hn168, hP1, hD1⟩ := hB
              rw [ht] at hP1
              obtain ⟨hP, hD⟩ := PDq.join (w := [(oX10 w0 v0 v1 v2 v3 v4 g5 g6 (nI ed) g8 v9 (nI nb) g11 g12 v13 (nI ln) (nI (gP qn139)) (nI (gR (qn139 + 1))) zn140 zn141 zn142 zn143 zn144 (nI o9) g23 (nI qn147) zn146 zn145 v27 v28 v29 v30 v31 v32 v33 v34 v35 v36 v37 (nI ol)), (v1, .inl (cA 0, 326, .inl fn149)), (v9, .inl (cA 0, 700, .inl fb)), (v13, .inl (cA 1, 15, .inr (.inl fkw))), (v28, .inl (cA 1, 10, .inr (.inl l28))), (v30, .inl (cA 1, 8, .inr (.inl fn151))), (v32, .inl (cA 0, 400, .inl fn150))]) 0 hP hD [5, 0, 6, 1, 2, 3, 4] [] rfl rfl (by decide) (by decide) hk1 hFc hP1 hD1 rfl
              generalize H1 = H at hP hS ⊢
              rcases hw.2 with hr9 | hr9
              · skip
                have hn168 := hn168 (hw.1.trans hr9)
                subst hr9
                obtain ⟨hP9, hD9⟩ := PDq.sub (ws' := [(oX10 w0 v0 v1 v2 v3 v4 g5 g6 (nI ed) g8 v9 (nI nb) g11 g12 v13 (nI ln) (nI (gP qn139)) (nI (gR (qn139 + 1))) zn140 zn141 zn142 zn143 zn144 (nI o9) g23 (nI qn147) zn146 zn145 v27 v28 v29 v30 v31 v32 v33 v34 v35 v36 v37 (nI ol)), (v1, .inl (cA 0, 326, .inl fn149)), (v9, .inl (cA 0, 700, .inl fb)), (v13, .inl (cA 1, 15, .inr (.inl fkw))), (v28, .inl (cA 1, 10, .inr (.inl l28))), (v30, .inl (cA 1, 8, .inr (.inl fn151))), (v32, .inl (cA 0, 400, .inl fn150))]) hP hD [0, 1, 2, 3, 4, 5, 6] (by decide) rfl
                refine W.widen (k := 0) (n := 0) (Nat.le_of_ble_eq_true rfl) (Nat.le_of_ble_eq_true rfl) ?_
                exact (W.zret (v := 0) hx hb hr (by first | rfl | decide) (fun t ht hW => ⟨⟨0, 0, rfl, ⟨rfl, by decide⟩, qn139, zn140, zn141, zn142, zn143, zn144, zn145, zn146, qn147, qn148, (nI o9), fn149, fn150, fn151, zn152, hn153, hn154, hn155, hn156, hn157, hn158, hn159, (fun h9 => absurd h9 (by decide)), (fun h9 => absurd h9 (by decide)), (fun h9 => absurd h9 (by decide)), (fun h9 => absurd h9 (by decide)), (fun h9 => absurd h9 (by decide)), (fun h9 => absurd h9 (by decide)), (fun h9 => absurd h9 (by decide)), (fun h9 => absurd h9 (by decide)), (fun h9 => absurd h9 (by decide)), (fun _ => hn168), by rw [ht]; exact hP9, hD9⟩, hS.F ht⟩) hS.2.2 dX10_fact_99)
              · skip
                have hn160 := hn160 (hw.1.trans hr9)
                obtain rfl : g20 = zn143 := hn160.symm
                obtain ⟨hP, hD⟩ : PDq D A [(oX10 w0 v0 v1 v2 v3 v4 g5 g6 (nI ed) g8 v9 (nI nb) g11 g12 v13 (nI ln) (nI (gP qn139)) (nI (gR (qn139 + 1))) zn140 zn141 zn142 g20 zn144 (nI o9) g23 (nI qn147) zn146 zn145 v27 v28 v29 v30 v31 v32 v33 v34 v35 v36 v37 (nI ol)), (v1, .inl (cA 0, 326, .inl fn149)), (v9, .inl (cA 0, 700, .inl fb)), (v13, .inl (cA 1, 15, .inr (.inl fkw))), (v28, .inl (cA 1, 10, .inr (.inl l28))), (v30, .inl (cA 1, 8, .inr (.inl fn151))), (v32, .inl (cA 0, 400, .inl fn150))] H := ⟨hP, hD⟩
                have hn161 := hn161 (hw.1.trans hr9)
                obtain rfl : g21 = zn144 := hn161.symm
                obtain ⟨hP, hD⟩ : PDq D A [(oX10 w0 v0 v1 v2 v3 v4 g5 g6 (nI ed) g8 v9 (nI nb) g11 g12 v13 (nI ln) (nI (gP qn139)) (nI (gR (qn139 + 1))) zn140 zn141 zn142 g20 g21 (nI o9) g23 (nI qn147) zn146 zn145 v27 v28 v29 v30 v31 v32 v33 v34 v35 v36 v37 (nI ol)), (v1, .inl (cA 0, 326, .inl fn149)), (v9, .inl (cA 0, 700, .inl fb)), (v13, .inl (cA 1, 15, .inr (.inl fkw))), (v28, .inl (cA 1, 10, .inr (.inl l28))), (v30, .inl (cA 1, 8, .inr (.inl fn151))), (v32, .inl (cA 0, 400, .inl fn150))] H := ⟨hP, hD⟩
                have hn162 := hn162 (hw.1.trans hr9)
                have hn163 := hn163 (hw.1.trans hr9)
                have hn164 := hn164 (hw.1.trans hr9)
                have hn165 := hn165 (hw.1.trans hr9)
                have hn166 := hn166 (hw.1.trans hr9)
                have hn167 := hn167 (hw.1.trans hr9)
                subst hr9
                obtain ⟨hP9, hD9⟩ := PDq.sub (ws' := [(oX10 w0 v0 v1 v2 v3 v4 g5 g6 (nI ed) g8 v9 (nI nb) g11 g12 v13 (nI ln) (nI (gP qn139)) (nI (gR (qn139 + 1))) zn140 zn141 zn142 g20 g21 (nI o9) g23 (nI qn147) zn146 zn145 v27 v28 v29 v30 v31 v32 v33 v34 v35 v36 v37 (nI ol)), (v1, .inl (cA 0, 326, .inl fn149)), (v9, .inl (cA 0, 700, .inl fb)), (v13, .inl (cA 1, 15, .inr (.inl fkw))), (v28, .inl (cA 1, 10, .inr (.inl l28))), (v30, .inl (cA 1, 8, .inr (.inl fn151))), (v32, .inl (cA 0, 400, .inl fn150))]) hP hD [0, 1, 2, 3, 4, 5, 6] (by decide) rfl
                refine W.widen (k := 0) (n := 0) (Nat.le_of_ble_eq_true rfl) (Nat.le_of_ble_eq_true rfl) ?_
                exact (W.zret (v := 1) hx hb hr (by first | rfl | decide) (fun t ht hW => ⟨⟨1, 1, rfl, ⟨rfl, by decide⟩, qn139, zn140, zn141, zn142, g20, g21, zn145, zn146, qn147, qn148, (nI o9), fn149, fn150, fn151, zn152, hn153, hn154, hn155, hn156, hn157, hn158, hn159, (fun _ => rfl), (fun _ => rfl), (fun _ => rfl), (fun _ => hn162), (fun _ => hn163), (fun _ => hn164), (fun _ => hn165), (fun _ => hn166), (fun _ => hn167), (fun h9 => absurd h9 (by decide)), by rw [ht]; exact hP9, hD9⟩, hS.F ht⟩) hS.2.2 dX10_fact_99)
            · skip
              by_cases hn169 : kw = 12
              · skip
                refine W.eq (g2 := F0 m 32 ls [.int 12]) (by rw [hn169]) ?_
                refine lv_tableIn (off := 68) (tgt := 100) hx hb dX10_fact_32 (by decide) (by decide) (by decide) (by decide) ?_
                refine lv_aload_n hx hb dX10_fact_100 rfl (lv_at hl 0 rfl) ?_
                refine lv_iconst (v := 3) hx hb dX10_fact_101 (by decide) ?_
                refine lv_ldc (v := 99999) hx hb hown (hts (.constant RX10 218 99999) (by decide +kernel)) dX10_fact_102 ?_
                obtain ⟨hPc, hDc, hFc⟩ := PDq.cut (wc := [(oX10 w0 v0 v1 v2 v3 v4 g5 g6 (nI ed) g8 v9 (nI nb) g11 g12 v13 (nI ln) (nI (gP ti)) (nI (gR (ti + 1))) tk kw g19 g20 g21 (nI o9) g23 (nI cd) g25 g26 v27 v28 v29 v30 v31 v32 v33 v34 v35 v36 v37 (nI ol)), (v1, .inl (cA 0, 326, .inl fp)), (v9, .inl (cA 0, 700, .inl fb)), (v13, .inl (cA 1, 15, .inr (.inl fkw))), (v28, .inl (cA 1, 10, .inr (.inl l28))), (v30, .inl (cA 1, 8, .inr (.inl l30))), (v32, .inl (cA 0, 400, .inl fc))]) hP hD hS hA [5, 0, 6, 1, 2, 3, 4] (by decide) rfl
                refine va_calli (va_runV (As := [.int 3, .int 99999]) (rest := []) ⟨hx, hb, hml, hown, hts⟩ (y_numberFact3 l D cA sa w0 ed nb ol v0 v1 v2 v3 v4 v9 v13 v27 v28 v29 v30 v31 v32 v33 v34 v35 v36 v37 g8 g11 g12 g19 g20 g21 g23 g26 g5 g6 g25 ln cd tk kw ti ct fb fkw gP gR gS gK gV cn pq en dy fp sl o9 l28 l30 fc ml pl (nI o9) H.size hln hct hti hTX hBY hTK hKW hcn hpq hen hdy hri hcd hNM hNP (TKR.kwd (n := 12) hTK (by decide) c38 hn169)) (cwV 2 hts gX10_fact_X10_numberFact rfl rfl rfl (by decide +kernel) ⟨by show (3) + 1 ≤ 4 * (k9 + 1) + 21; omega, by show 8 + (3 + 11) + (66) ≤ 80 * (k9 + 1) + 340; omega⟩) ⟨Wd.blind, va_recv hK hPc (ci := 11) (q0 := 0) rfl rfl, fun U hU hW => ⟨rfl, Wd.call hPc hDc hK hC hZ hS hFc U hU hW⟩⟩ rfl rfl hl.1 rfl (lv_room (Nat.le_of_ble_eq_true rfl)) dX10_fact_104 ⟨(Nat.le_of_ble_eq_true rfl), (Nat.le_of_ble_eq_true rfl)⟩) hS (fun q _ h => hFc q h) hFc (fun rn170 u t H1 locs ht hvm hw hB hz1 hk1 hS => ?_)
                obtain ⟨qn171, zn172, zn173, zn174, zn175, zn176, zn177, zn178, qn179, qn180, fn181, fn182, fn183, zn184, hn185, hn186, hn187, hn188, hn189, hn190, hn191, hn192, hn193, hn194, hn195, hn196, hn197, hn198, hn199, hn200, hP1, hD1⟩ := hB
                rw [ht] at hP1
                obtain ⟨hP, hD⟩ := PDq.join (w := [(oX10 w0 v0 v1 v2 v3 v4 g5 g6 (nI ed) g8 v9 (nI nb) g11 g12 v13 (nI ln) (nI (gP qn171)) (nI (gR (qn171 + 1))) zn172 zn173 zn174 zn175 zn176 (nI o9) g23 (nI qn179) zn178 zn177 v27 v28 v29 v30 v31 v32 v33 v34 v35 v36 v37 (nI ol)), (v1, .inl (cA 0, 326, .inl fn181)), (v9, .inl (cA 0, 700, .inl fb)), (v13, .inl (cA 1, 15, .inr (.inl fkw))), (v28, .inl (cA 1, 10, .inr (.inl l28))), (v30, .inl (cA 1, 8, .inr (.inl fn183))), (v32, .inl (cA 0, 400, .inl fn182))]) 0 hP hD [5, 0, 6, 1, 2, 3, 4] [] rfl rfl (by decide) (by decide) hk1 hFc hP1 hD1 rfl
                generalize H1 = H at hP hS ⊢
                rcases hw.2 with hr9 | hr9
                · skip
                  have hn200 := hn200 (hw.1.trans hr9)
                  subst hr9
                  obtain ⟨hP9, hD9⟩ := PDq.sub (ws' := [(oX10 w0 v0 v1 v2 v3 v4 g5 g6 (nI ed) g8 v9 (nI nb) g11 g12 v13 (nI ln) (nI (gP qn171)) (nI (gR (qn171 + 1))) zn172 zn173 zn174 zn175 zn176 (nI o9) g23 (nI qn179) zn178 zn177 v27 v28 v29 v30 v31 v32 v33 v34 v35 v36 v37 (nI ol)), (v1, .inl (cA 0, 326, .inl fn181)), (v9, .inl (cA 0, 700, .inl fb)), (v13, .inl (cA 1, 15, .inr (.inl fkw))), (v28, .inl (cA 1, 10, .inr (.inl l28))), (v30, .inl (cA 1, 8, .inr (.inl fn183))), (v32, .inl (cA 0, 400, .inl fn182))]) hP hD [0, 1, 2, 3, 4, 5, 6] (by decide) rfl
                  refine W.widen (k := 0) (n := 0) (Nat.le_of_ble_eq_true rfl) (Nat.le_of_ble_eq_true rfl) ?_
                  exact (W.zret (v := 0) hx hb hr (by first | rfl | decide) (fun t ht hW => ⟨⟨0, 0, rfl, ⟨rfl, by decide⟩, qn171, zn172, zn173, zn174, zn175, zn176, zn177, zn178, qn179, qn180, (nI o9), fn181, fn182, fn183, zn184, hn185, hn186, hn187, hn188, hn189, hn190, hn191, (fun h9 => absurd h9 (by decide)), (fun h9 => absurd h9 (by decide)), (fun h9 => absurd h9 (by decide)), (fun h9 => absurd h9 (by decide)), (fun h9 => absurd h9 (by decide)), (fun h9 => absurd h9 (by decide)), (fun h9 => absurd h9 (by decide)), (fun h9 => absurd h9 (by decide)), (fun h9 => absurd h9 (by decide)), (fun _ => hn200), by rw [ht]; exact hP9, hD9⟩, hS.F ht⟩) hS.2.2 dX10_fact_107)
                · skip
                  have hn192 := hn192 (hw.1.trans hr9)
                  obtain rfl : g20 = zn175 := hn192.symm
                  obtain ⟨hP, hD⟩ : PDq D A [(oX10 w0 v0 v1 v2 v3 v4 g5 g6 (nI ed) g8 v9 (nI nb) g11 g12 v13 (nI ln) (nI (gP qn171)) (nI (gR (qn171 + 1))) zn172 zn173 zn174 g20 zn176 (nI o9) g23 (nI qn179) zn178 zn177 v27 v28 v29 v30 v31 v32 v33 v34 v35 v36 v37 (nI ol)), (v1, .inl (cA 0, 326, .inl fn181)), (v9, .inl (cA 0, 700, .inl fb)), (v13, .inl (cA 1, 15, .inr (.inl fkw))), (v28, .inl (cA 1, 10, .inr (.inl l28))), (v30, .inl (cA 1, 8, .inr (.inl fn183))), (v32, .inl (cA 0, 400, .inl fn182))] H := ⟨hP, hD⟩
                  have hn193 := hn193 (hw.1.trans hr9)
                  obtain rfl : g21 = zn176 := hn193.symm
                  obtain ⟨hP, hD⟩ : PDq D A [(oX10 w0 v0 v1 v2 v3 v4 g5 g6 (nI ed) g8 v9 (nI nb) g11 g12 v13 (nI ln) (nI (gP qn171)) (nI (gR (qn171 + 1))) zn172 zn173 zn174 g20 g21 (nI o9) g23 (nI qn179) zn178 zn177 v27 v28 v29 v30 v31 v32 v33 v34 v35 v36 v37 (nI ol)), (v1, .inl (cA 0, 326, .inl fn181)), (v9, .inl (cA 0, 700, .inl fb)), (v13, .inl (cA 1, 15, .inr (.inl fkw))), (v28, .inl (cA 1, 10, .inr (.inl l28))), (v30, .inl (cA 1, 8, .inr (.inl fn183))), (v32, .inl (cA 0, 400, .inl fn182))] H := ⟨hP, hD⟩
                  have hn194 := hn194 (hw.1.trans hr9)
                  have hn195 := hn195 (hw.1.trans hr9)
                  have hn196 := hn196 (hw.1.trans hr9)
                  have hn197 := hn197 (hw.1.trans hr9)
                  have hn198 := hn198 (hw.1.trans hr9)
                  have hn199 := hn199 (hw.1.trans hr9)
                  subst hr9
                  obtain ⟨hP9, hD9⟩ := PDq.sub (ws' := [(oX10 w0 v0 v1 v2 v3 v4 g5 g6 (nI ed) g8 v9 (nI nb) g11 g12 v13 (nI ln) (nI (gP qn171)) (nI (gR (qn171 + 1))) zn172 zn173 zn174 g20 g21 (nI o9) g23 (nI qn179) zn178 zn177 v27 v28 v29 v30 v31 v32 v33 v34 v35 v36 v37 (nI ol)), (v1, .inl (cA 0, 326, .inl fn181)), (v9, .inl (cA 0, 700, .inl fb)), (v13, .inl (cA 1, 15, .inr (.inl fkw))), (v28, .inl (cA 1, 10, .inr (.inl l28))), (v30, .inl (cA 1, 8, .inr (.inl fn183))), (v32, .inl (cA 0, 400, .inl fn182))]) hP hD [0, 1, 2, 3, 4, 5, 6] (by decide) rfl
                  refine W.widen (k := 0) (n := 0) (Nat.le_of_ble_eq_true rfl) (Nat.le_of_ble_eq_true rfl) ?_
                  exact (W.zret (v := 1) hx hb hr (by first | rfl | decide) (fun t ht hW => ⟨⟨1, 1, rfl, ⟨rfl, by decide⟩, qn171, zn172, zn173, zn174, g20, g21, zn177, zn178, qn179, qn180, (nI o9), fn181, fn182, fn183, zn184, hn185, hn186, hn187, hn188, hn189, hn190, hn191, (fun _ => rfl), (fun _ => rfl), (fun _ => rfl), (fun _ => hn194), (fun _ => hn195), (fun _ => hn196), (fun _ => hn197), (fun _ => hn198), (fun _ => hn199), (fun h9 => absurd h9 (by decide)), by rw [ht]; exact hP9, hD9⟩, hS.F ht⟩) hS.2.2 dX10_fact_107)
              · skip
                by_cases hn201 : kw = 13
                · skip
                  refine W.eq (g2 := F0 m 32 ls [.int 13]) (by rw [hn201]) ?_
                  refine lv_tableIn (off := 76) (tgt := 108) hx hb dX10_fact_32 (by decide) (by decide) (by decide) (by decide) ?_
                  refine lv_aload_n hx hb dX10_fact_108 rfl (lv_at hl 0 rfl) ?_
                  refine lv_iconst (v := 4) hx hb dX10_fact_109 (by decide) ?_
                  obtain ⟨hPc, hDc, hFc⟩ := PDq.cut (wc := [(oX10 w0 v0 v1 v2 v3 v4 g5 g6 (nI ed) g8 v9 (nI nb) g11 g12 v13 (nI ln) (nI (gP ti)) (nI (gR (ti + 1))) tk kw g19 g20 g21 (nI o9) g23 (nI cd) g25 g26 v27 v28 v29 v30 v31 v32 v33 v34 v35 v36 v37 (nI ol)), (v1, .inl (cA 0, 326, .inl fp)), (v9, .inl (cA 0, 700, .inl fb)), (v13, .inl (cA 1, 15, .inr (.inl fkw))), (v28, .inl (cA 1, 10, .inr (.inl l28))), (v30, .inl (cA 1, 8, .inr (.inl l30))), (v32, .inl (cA 0, 400, .inl fc))]) hP hD hS hA [5, 0, 6, 1, 2, 3, 4] (by decide) rfl
                  refine va_calli (va_runV (As := [.int 4]) (rest := []) ⟨hx, hb, hml, hown, hts⟩ (y_plainFact4 l D cA sa w0 ed nb ol v0 v1 v2 v3 v4 v9 v13 v27 v28 v29 v30 v31 v32 v33 v34 v35 v36 v37 g8 g11 g12 g19 g20 g21 g23 g26 g5 g6 g25 ln cd tk kw ti ct fb fkw gP gR gS gK gV cn pq en dy fp sl o9 l28 l30 fc ml pl (nI o9) H.size hln hct hti hTX hBY hTK hKW hcn hpq hen hdy hri hcd hNM hNP (TKR.kwd (n := 13) hTK (by decide) c38 hn201)) (cwV 1 hts gX10_fact_X10_plainFact rfl rfl rfl (by decide +kernel) ⟨by show (2) + 1 ≤ 4 * (k9 + 1) + 21; omega, by show 8 + (2 + 11) + (44) ≤ 80 * (k9 + 1) + 340; omega⟩) ⟨Wd.blind, va_recv hK hPc (ci := 11) (q0 := 0) rfl rfl, fun U hU hW => ⟨rfl, Wd.call hPc hDc hK hC hZ hS hFc U hU hW⟩⟩ rfl rfl hl.1 rfl (lv_room (Nat.le_of_ble_eq_true rfl)) dX10_fact_110 ⟨(Nat.le_of_ble_eq_true rfl), (Nat.le_of_ble_eq_true rfl)⟩) hS (fun q _ h => hFc q h) hFc (fun rn202 u t H1 locs ht hvm hw hB hz1 hk1 hS => ?_)
                  obtain ⟨qn203, zn204, zn205, zn206, zn207, zn208, zn209, zn210, qn211, qn212, fn213, fn214, fn215, zn216, hn217, hn218, hn219, hn220, hn221, hn222, hn223, hn224, hn225, hn226, hn227, hn228, hn229, hn230, hn231, hn232, hP1, hD1⟩ := hB
                  rw [ht] at hP1
                  obtain ⟨hP, hD⟩ := PDq.join (w := [(oX10 w0 v0 v1 v2 v3 v4 g5 g6 (nI ed) g8 v9 (nI nb) g11 g12 v13 (nI ln) (nI (gP qn203)) (nI (gR (qn203 + 1))) zn204 zn205 zn206 zn207 zn208 (nI o9) g23 (nI qn211) zn210 zn209 v27 v28 v29 v30 v31 v32 v33 v34 v35 v36 v37 (nI ol)), (v1, .inl (cA 0, 326, .inl fn213)), (v9, .inl (cA 0, 700, .inl fb)), (v13, .inl (cA 1, 15, .inr (.inl fkw))), (v28, .inl (cA 1, 10, .inr (.inl l28))), (v30, .inl (cA 1, 8, .inr (.inl fn215))), (v32, .inl (cA 0, 400, .inl fn214))]) 0 hP hD [5, 0, 6, 1, 2, 3, 4] [] rfl rfl (by decide) (by decide) hk1 hFc hP1 hD1 rfl
                  generalize H1 = H at hP hS ⊢
                  rcases hw.2 with hr9 | hr9
                  · skip
                    have hn232 := hn232 (hw.1.trans hr9)
                    subst hr9
                    obtain ⟨hP9, hD9⟩ := PDq.sub (ws' := [(oX10 w0 v0 v1 v2 v3 v4 g5 g6 (nI ed) g8 v9 (nI nb) g11 g12 v13 (nI ln) (nI (gP qn203)) (nI (gR (qn203 + 1))) zn204 zn205 zn206 zn207 zn208 (nI o9) g23 (nI qn211) zn210 zn209 v27 v28 v29 v30 v31 v32 v33 v34 v35 v36 v37 (nI ol)), (v1, .inl (cA 0, 326, .inl fn213)), (v9, .inl (cA 0, 700, .inl fb)), (v13, .inl (cA 1, 15, .inr (.inl fkw))), (v28, .inl (cA 1, 10, .inr (.inl l28))), (v30, .inl (cA 1, 8, .inr (.inl fn215))), (v32, .inl (cA 0, 400, .inl fn214))]) hP hD [0, 1, 2, 3, 4, 5, 6] (by decide) rfl
                    refine W.widen (k := 0) (n := 0) (Nat.le_of_ble_eq_true rfl) (Nat.le_of_ble_eq_true rfl) ?_
                    exact (W.zret (v := 0) hx hb hr (by first | rfl | decide) (fun t ht hW => ⟨⟨0, 0, rfl, ⟨rfl, by decide⟩, qn203, zn204, zn205, zn206, zn207, zn208, zn209, zn210, qn211, qn212, (nI o9), fn213, fn214, fn215, zn216, hn217, hn218, hn219, hn220, hn221, hn222, hn223, (fun h9 => absurd h9 (by decide)), (fun h9 => absurd h9 (by decide)), (fun h9 => absurd h9 (by decide)), (fun h9 => absurd h9 (by decide)), (fun h9 => absurd h9 (by decide)), (fun h9 => absurd h9 (by decide)), (fun h9 => absurd h9 (by decide)), (fun h9 => absurd h9 (by decide)), (fun h9 => absurd h9 (by decide)), (fun _ => hn232), by rw [ht]; exact hP9, hD9⟩, hS.F ht⟩) hS.2.2 dX10_fact_113)
                  · skip
                    have hn224 := hn224 (hw.1.trans hr9)
                    obtain rfl : g20 = zn207 := hn224.symm
                    obtain ⟨hP, hD⟩ : PDq D A [(oX10 w0 v0 v1 v2 v3 v4 g5 g6 (nI ed) g8 v9 (nI nb) g11 g12 v13 (nI ln) (nI (gP qn203)) (nI (gR (qn203 + 1))) zn204 zn205 zn206 g20 zn208 (nI o9) g23 (nI qn211) zn210 zn209 v27 v28 v29 v30 v31 v32 v33 v34 v35 v36 v37 (nI ol)), (v1, .inl (cA 0, 326, .inl fn213)), (v9, .inl (cA 0, 700, .inl fb)), (v13, .inl (cA 1, 15, .inr (.inl fkw))), (v28, .inl (cA 1, 10, .inr (.inl l28))), (v30, .inl (cA 1, 8, .inr (.inl fn215))), (v32, .inl (cA 0, 400, .inl fn214))] H := ⟨hP, hD⟩
                    have hn225 := hn225 (hw.1.trans hr9)
                    obtain rfl : g21 = zn208 := hn225.symm
                    obtain ⟨hP, hD⟩ : PDq D A [(oX10 w0 v0 v1 v2 v3 v4 g5 g6 (nI ed) g8 v9 (nI nb) g11 g12 v13 (nI ln) (nI (gP qn203)) (nI (gR (qn203 + 1))) zn204 zn205 zn206 g20 g21 (nI o9) g23 (nI qn211) zn210 zn209 v27 v28 v29 v30 v31 v32 v33 v34 v35 v36 v37 (nI ol)), (v1, .inl (cA 0, 326, .inl fn213)), (v9, .inl (cA 0, 700, .inl fb)), (v13, .inl (cA 1, 15, .inr (.inl fkw))), (v28, .inl (cA 1, 10, .inr (.inl l28))), (v30, .inl (cA 1, 8, .inr (.inl fn215))), (v32, .inl (cA 0, 400, .inl fn214))] H := ⟨hP, hD⟩
                    have hn226 := hn226 (hw.1.trans hr9)
                    have hn227 := hn227 (hw.1.trans hr9)
                    have hn228 := hn228 (hw.1.trans hr9)
                    have hn229 := hn229 (hw.1.trans hr9)
                    have hn230 := hn230 (hw.1.trans hr9)
                    have hn231 := hn231 (hw.1.trans hr9)
                    subst hr9
                    obtain ⟨hP9, hD9⟩ := PDq.sub (ws' := [(oX10 w0 v0 v1 v2 v3 v4 g5 g6 (nI ed) g8 v9 (nI nb) g11 g12 v13 (nI ln) (nI (gP qn203)) (nI (gR (qn203 + 1))) zn204 zn205 zn206 g20 g21 (nI o9) g23 (nI qn211) zn210 zn209 v27 v28 v29 v30 v31 v32 v33 v34 v35 v36 v37 (nI ol)), (v1, .inl (cA 0, 326, .inl fn213)), (v9, .inl (cA 0, 700, .inl fb)), (v13, .inl (cA 1, 15, .inr (.inl fkw))), (v28, .inl (cA 1, 10, .inr (.inl l28))), (v30, .inl (cA 1, 8, .inr (.inl fn215))), (v32, .inl (cA 0, 400, .inl fn214))]) hP hD [0, 1, 2, 3, 4, 5, 6] (by decide) rfl
                    refine W.widen (k := 0) (n := 0) (Nat.le_of_ble_eq_true rfl) (Nat.le_of_ble_eq_true rfl) ?_
                    exact (W.zret (v := 1) hx hb hr (by first | rfl | decide) (fun t ht hW => ⟨⟨1, 1, rfl, ⟨rfl, by decide⟩, qn203, zn204, zn205, zn206, g20, g21, zn209, zn210, qn211, qn212, (nI o9), fn213, fn214, fn215, zn216, hn217, hn218, hn219, hn220, hn221, hn222, hn223, (fun _ => rfl), (fun _ => rfl), (fun _ => rfl), (fun _ => hn226), (fun _ => hn227), (fun _ => hn228), (fun _ => hn229), (fun _ => hn230), (fun _ => hn231), (fun h9 => absurd h9 (by decide)), by rw [ht]; exact hP9, hD9⟩, hS.F ht⟩) hS.2.2 dX10_fact_113)
                · skip
                  by_cases hn233 : kw = 14
                  · skip
                    refine W.eq (g2 := F0 m 32 ls [.int 14]) (by rw [hn233]) ?_
                    refine lv_tableIn (off := 82) (tgt := 114) hx hb dX10_fact_32 (by decide) (by decide) (by decide) (by decide) ?_
                    refine lv_aload_n hx hb dX10_fact_114 rfl (lv_at hl 0 rfl) ?_
                    refine lv_iconst (v := 5) hx hb dX10_fact_115 (by decide) ?_
                    obtain ⟨hPc, hDc, hFc⟩ := PDq.cut (wc := [(oX10 w0 v0 v1 v2 v3 v4 g5 g6 (nI ed) g8 v9 (nI nb) g11 g12 v13 (nI ln) (nI (gP ti)) (nI (gR (ti + 1))) tk kw g19 g20 g21 (nI o9) g23 (nI cd) g25 g26 v27 v28 v29 v30 v31 v32 v33 v34 v35 v36 v37 (nI ol)), (v1, .inl (cA 0, 326, .inl fp)), (v9, .inl (cA 0, 700, .inl fb)), (v13, .inl (cA 1, 15, .inr (.inl fkw))), (v28, .inl (cA 1, 10, .inr (.inl l28))), (v30, .inl (cA 1, 8, .inr (.inl l30))), (v32, .inl (cA 0, 400, .inl fc))]) hP hD hS hA [5, 0, 6, 1, 2, 3, 4] (by decide) rfl
                    refine va_calli (va_runV (As := [.int 5]) (rest := []) ⟨hx, hb, hml, hown, hts⟩ (y_plainFact5 l D cA sa w0 ed nb ol v0 v1 v2 v3 v4 v9 v13 v27 v28 v29 v30 v31 v32 v33 v34 v35 v36 v37 g8 g11 g12 g19 g20 g21 g23 g26 g5 g6 g25 ln cd tk kw ti ct fb fkw gP gR gS gK gV cn pq en dy fp sl o9 l28 l30 fc ml pl (nI o9) H.size hln hct hti hTX hBY hTK hKW hcn hpq hen hdy hri hcd hNM hNP (TKR.kwd (n := 14) hTK (by decide) c38 hn233)) (cwV 1 hts gX10_fact_X10_plainFact rfl rfl rfl (by decide +kernel) ⟨by show (2) + 1 ≤ 4 * (k9 + 1) + 21; omega, by show 8 + (2 + 11) + (44) ≤ 80 * (k9 + 1) + 340; omega⟩) ⟨Wd.blind, va_recv hK hPc (ci := 11) (q0 := 0) rfl rfl, fun U hU hW => ⟨rfl, Wd.call hPc hDc hK hC hZ hS hFc U hU hW⟩⟩ rfl rfl hl.1 rfl (lv_room (Nat.le_of_ble_eq_true rfl)) dX10_fact_116 ⟨(Nat.le_of_ble_eq_true rfl), (Nat.le_of_ble_eq_true rfl)⟩) hS (fun q _ h => hFc q h) hFc (fun rn234 u t H1 locs ht hvm hw hB hz1 hk1 hS => ?_)
                    obtain ⟨qn235, zn236, zn237, zn238, zn239, zn240, zn241, zn242, qn243, qn244, fn245, fn246, fn247, zn248, hn249, hn250, hn251, hn252, hn253, hn254, hn255, hn256, hn257, hn258, hn259, hn260, hn261, hn262, hn263, hn264, hP1, hD1⟩ := hB
                    rw [ht] at hP1
                    obtain ⟨hP, hD⟩ := PDq.join (w := [(oX10 w0 v0 v1 v2 v3 v4 g5 g6 (nI ed) g8 v9 (nI nb) g11 g12 v13 (nI ln) (nI (gP qn235)) (nI (gR (qn235 + 1))) zn236 zn237 zn238 zn239 zn240 (nI o9) g23 (nI qn243) zn242 zn241 v27 v28 v29 v30 v31 v32 v33 v34 v35 v36 v37 (nI ol)), (v1, .inl (cA 0, 326, .inl fn245)), (v9, .inl (cA 0, 700, .inl fb)), (v13, .inl (cA 1, 15, .inr (.inl fkw))), (v28, .inl (cA 1, 10, .inr (.inl l28))), (v30, .inl (cA 1, 8, .inr (.inl fn247))), (v32, .inl (cA 0, 400, .inl fn246))]) 0 hP hD [5, 0, 6, 1, 2, 3, 4] [] rfl rfl (by decide) (by decide) hk1 hFc hP1 hD1 rfl
                    generalize H1 = H at hP hS ⊢
                    rcases hw.2 with hr9 | hr9
                    · skip
                      have hn264 := hn264 (hw.1.trans hr9)
                      subst hr9
                      obtain ⟨hP9, hD9⟩ := PDq.sub (ws' := [(oX10 w0 v0 v1 v2 v3 v4 g5 g6 (nI ed) g8 v9 (nI nb) g11 g12 v13 (nI ln) (nI (gP qn235)) (nI (gR (qn235 + 1))) zn236 zn237 zn238 zn239 zn240 (nI o9) g23 (nI qn243) zn242 zn241 v27 v28 v29 v30 v31 v32 v33 v34 v35 v36 v37 (nI ol)), (v1, .inl (cA 0, 326, .inl fn245)), (v9, .inl (cA 0, 700, .inl fb)), (v13, .inl (cA 1, 15, .inr (.inl fkw))), (v28, .inl (cA 1, 10, .inr (.inl l28))), (v30, .inl (cA 1, 8, .inr (.inl fn247))), (v32, .inl (cA 0, 400, .inl fn246))]) hP hD [0, 1, 2, 3, 4, 5, 6] (by decide) rfl
                      refine W.widen (k := 0) (n := 0) (Nat.le_of_ble_eq_true rfl) (Nat.le_of_ble_eq_true rfl) ?_
                      exact (W.zret (v := 0) hx hb hr (by first | rfl | decide) (fun t ht hW => ⟨⟨0, 0, rfl, ⟨rfl, by decide⟩, qn235, zn236, zn237, zn238, zn239, zn240, zn241, zn242, qn243, qn244, (nI o9), fn245, fn246, fn247, zn248, hn249, hn250, hn251, hn252, hn253, hn254, hn255, (fun h9 => absurd h9 (by decide)), (fun h9 => absurd h9 (by decide)), (fun h9 => absurd h9 (by decide)), (fun h9 => absurd h9 (by decide)), (fun h9 => absurd h9 (by decide)), (fun h9 => absurd h9 (by decide)), (fun h9 => absurd h9 (by decide)), (fun h9 => absurd h9 (by decide)), (fun h9 => absurd h9 (by decide)), (fun _ => hn264), by rw [ht]; exact hP9, hD9⟩, hS.F ht⟩) hS.2.2 dX10_fact_119)
                    · skip
                      have hn256 := hn256 (hw.1.trans hr9)
                      obtain rfl : g20 = zn239 := hn256.symm
                      obtain ⟨hP, hD⟩ : PDq D A [(oX10 w0 v0 v1 v2 v3 v4 g5 g6 (nI ed) g8 v9 (nI nb) g11 g12 v13 (nI ln) (nI (gP qn235)) (nI (gR (qn235 + 1))) zn236 zn237 zn238 g20 zn240 (nI o9) g23 (nI qn243) zn242 zn241 v27 v28 v29 v30 v31 v32 v33 v34 v35 v36 v37 (nI ol)), (v1, .inl (cA 0, 326, .inl fn245)), (v9, .inl (cA 0, 700, .inl fb)), (v13, .inl (cA 1, 15, .inr (.inl fkw))), (v28, .inl (cA 1, 10, .inr (.inl l28))), (v30, .inl (cA 1, 8, .inr (.inl fn247))), (v32, .inl (cA 0, 400, .inl fn246))] H := ⟨hP, hD⟩
                      have hn257 := hn257 (hw.1.trans hr9)
                      obtain rfl : g21 = zn240 := hn257.symm
                      obtain ⟨hP, hD⟩ : PDq D A [(oX10 w0 v0 v1 v2 v3 v4 g5 g6 (nI ed) g8 v9 (nI nb) g11 g12 v13 (nI ln) (nI (gP qn235)) (nI (gR (qn235 + 1))) zn236 zn237 zn238 g20 g21 (nI o9) g23 (nI qn243) zn242 zn241 v27 v28 v29 v30 v31 v32 v33 v34 v35 v36 v37 (nI ol)), (v1, .inl (cA 0, 326, .inl fn245)), (v9, .inl (cA 0, 700, .inl fb)), (v13, .inl (cA 1, 15, .inr (.inl fkw))), (v28, .inl (cA 1, 10, .inr (.inl l28))), (v30, .inl (cA 1, 8, .inr (.inl fn247))), (v32, .inl (cA 0, 400, .inl fn246))] H := ⟨hP, hD⟩
                      have hn258 := hn258 (hw.1.trans hr9)
                      have hn259 := hn259 (hw.1.trans hr9)
                      have hn260 := hn260 (hw.1.trans hr9)
                      have hn261 := hn261 (hw.1.trans hr9)
                      have hn262 := hn262 (hw.1.trans hr9)
                      have hn263 := hn263 (hw.1.trans hr9)
                      subst hr9
                      obtain ⟨hP9, hD9⟩ := PDq.sub (ws' := [(oX10 w0 v0 v1 v2 v3 v4 g5 g6 (nI ed) g8 v9 (nI nb) g11 g12 v13 (nI ln) (nI (gP qn235)) (nI (gR (qn235 + 1))) zn236 zn237 zn238 g20 g21 (nI o9) g23 (nI qn243) zn242 zn241 v27 v28 v29 v30 v31 v32 v33 v34 v35 v36 v37 (nI ol)), (v1, .inl (cA 0, 326, .inl fn245)), (v9, .inl (cA 0, 700, .inl fb)), (v13, .inl (cA 1, 15, .inr (.inl fkw))), (v28, .inl (cA 1, 10, .inr (.inl l28))), (v30, .inl (cA 1, 8, .inr (.inl fn247))), (v32, .inl (cA 0, 400, .inl fn246))]) hP hD [0, 1, 2, 3, 4, 5, 6] (by decide) rfl
                      refine W.widen (k := 0) (n := 0) (Nat.le_of_ble_eq_true rfl) (Nat.le_of_ble_eq_true rfl) ?_
                      exact (W.zret (v := 1) hx hb hr (by first | rfl | decide) (fun t ht hW => ⟨⟨1, 1, rfl, ⟨rfl, by decide⟩, qn235, zn236, zn237, zn238, g20, g21, zn241, zn242, qn243, qn244, (nI o9), fn245, fn246, fn247, zn248, hn249, hn250, hn251, hn252, hn253, hn254, hn255, (fun _ => rfl), (fun _ => rfl), (fun _ => rfl), (fun _ => hn258), (fun _ => hn259), (fun _ => hn260), (fun _ => hn261), (fun _ => hn262), (fun _ => hn263), (fun h9 => absurd h9 (by decide)), by rw [ht]; exact hP9, hD9⟩, hS.F ht⟩) hS.2.2 dX10_fact_119)
                  · skip
                    refine lv_tableOut (tgt := 120) hx hb dX10_fact_32 (by have q0 : ¬ (kw).toInt = 8 := fun e9 => hn39 (Int32.toInt_inj.mp (e9.trans (by decide))); have q1 : ¬ (kw).toInt = 9 := fun e9 => hn73 (Int32.toInt_inj.mp (e9.trans (by decide))); have q2 : ¬ (kw).toInt = 10 := fun e9 => hn105 (Int32.toInt_inj.mp (e9.trans (by decide))); have q3 : ¬ (kw).toInt = 11 := fun e9 => hn137 (Int32.toInt_inj.mp (e9.trans (by decide))); have q4 : ¬ (kw).toInt = 12 := fun e9 => hn169 (Int32.toInt_inj.mp (e9.trans (by decide))); have q5 : ¬ (kw).toInt = 13 := fun e9 => hn201 (Int32.toInt_inj.mp (e9.trans (by decide))); have q6 : ¬ (kw).toInt = 14 := fun e9 => hn233 (Int32.toInt_inj.mp (e9.trans (by decide))); omega) (by decide) ?_
                    refine lv_aload_n hx hb dX10_fact_120 rfl (lv_at hl 0 rfl) ?_
                    refine lv_iconst (v := 2) hx hb dX10_fact_121 (by decide) ?_
                    obtain ⟨hPc, hDc, hFc⟩ := PDq.cut (wc := [(oX10 w0 v0 v1 v2 v3 v4 g5 g6 (nI ed) g8 v9 (nI nb) g11 g12 v13 (nI ln) (nI (gP ti)) (nI (gR (ti + 1))) tk kw g19 g20 g21 (nI o9) g23 (nI cd) g25 g26 v27 v28 v29 v30 v31 v32 v33 v34 v35 v36 v37 (nI ol))]) hP hD hS hA [5] (by decide) rfl
                    refine va_calli (va_runV (As := [.int 2]) (rest := []) ⟨hx, hb, hml, hown, hts⟩ (y_fail l D cA sa w0 ed nb ol v0 v1 v2 v3 v4 v9 v13 v27 v28 v29 v30 v31 v32 v33 v34 v35 v36 v37 g8 g11 g12 g19 g20 g21 (nI o9) g23 g26 g5 g6 g25 ln cd tk kw ti ct fb gP gR gS gK gV 2 H.size hln hct hti hTX hBY hTK) (cwV 1 hts gX10_fact_X10_fail rfl rfl rfl (by decide +kernel) ⟨by show (0) + 1 ≤ 4 * (k9 + 1) + 21; omega, by show 8 + (2 + 11) + (0) ≤ 80 * (k9 + 1) + 340; omega⟩) ⟨Wd.blind, va_recv hK hPc (ci := 11) (q0 := 0) rfl rfl, fun U hU hW => ⟨rfl, Wd.call hPc hDc hK hC hZ hS hFc U hU hW⟩⟩ rfl rfl hl.1 rfl (lv_room (Nat.le_of_ble_eq_true rfl)) dX10_fact_122 ⟨(Nat.le_of_ble_eq_true rfl), (Nat.le_of_ble_eq_true rfl)⟩) hS (fun q _ h => hFc q h) hFc (fun rn265 u t H1 locs ht hvm hw hB hz1 hk1 hS => ?_)
                    obtain ⟨zn266, hn267, hP1, hD1⟩ := hB
                    rw [ht] at hP1
                    obtain ⟨hP, hD⟩ := PDq.join (w := [(v1, .inl (cA 0, 326, .inl fp)), (v13, .inl (cA 1, 15, .inr (.inl fkw))), (v28, .inl (cA 1, 10, .inr (.inl l28))), (v30, .inl (cA 1, 8, .inr (.inl l30))), (v32, .inl (cA 0, 400, .inl fc)), (v9, .inl (cA 0, 700, .inl fb)), (oX10 w0 v0 v1 v2 v3 v4 g5 g6 (nI ed) g8 v9 (nI nb) g11 g12 v13 (nI ln) (nI (gP ti)) (nI (gR (ti + 1))) tk kw g19 zn266 (nI (gP ti)) (nI o9) g23 (nI cd) g25 g26 v27 v28 v29 v30 v31 v32 v33 v34 v35 v36 v37 (nI ol))]) 6 hP hD [5] [0, 1, 2, 3, 4, 6] rfl rfl (by decide) (by decide) hk1 hFc hP1 hD1 rfl
                    generalize H1 = H at hP hS ⊢
                    obtain rfl : rn265 = 0 := hw
                    obtain ⟨hP9, hD9⟩ := PDq.sub (ws' := [(oX10 w0 v0 v1 v2 v3 v4 g5 g6 (nI ed) g8 v9 (nI nb) g11 g12 v13 (nI ln) (nI (gP ti)) (nI (gR (ti + 1))) tk kw g19 zn266 (nI (gP ti)) (nI o9) g23 (nI cd) g25 g26 v27 v28 v29 v30 v31 v32 v33 v34 v35 v36 v37 (nI ol)), (v1, .inl (cA 0, 326, .inl fp)), (v9, .inl (cA 0, 700, .inl fb)), (v13, .inl (cA 1, 15, .inr (.inl fkw))), (v28, .inl (cA 1, 10, .inr (.inl l28))), (v30, .inl (cA 1, 8, .inr (.inl l30))), (v32, .inl (cA 0, 400, .inl fc))]) hP hD [6, 0, 5, 1, 2, 3, 4] (by decide) rfl
                    refine W.widen (k := 0) (n := 0) (Nat.le_of_ble_eq_true rfl) (Nat.le_of_ble_eq_true rfl) ?_
                    exact (W.zret (v := 0) hx hb hr (by first | rfl | decide) (fun t ht hW => ⟨⟨0, 0, rfl, ⟨rfl, by decide⟩, ti, tk, kw, g19, zn266, (nI (gP ti)), g26, g25, cd, pq, (nI o9), fp, fc, l30, pl, hti, (by omega), (by omega), hTK, hpq, hri, hNP, (fun h9 => absurd h9 (by decide)), (fun h9 => absurd h9 (by decide)), (fun h9 => absurd h9 (by decide)), (fun h9 => absurd h9 (by decide)), (fun h9 => absurd h9 (by decide)), (fun h9 => absurd h9 (by decide)), (fun h9 => absurd h9 (by decide)), (fun h9 => absurd h9 (by decide)), (fun h9 => absurd h9 (by decide)), (fun _ => (P_nonex hn2 (TKR.nsw hTK 8 14 (by decide) (fun n9 a9 b9 => by rcases (show n9 = 8 ∨ n9 = 9 ∨ n9 = 10 ∨ n9 = 11 ∨ n9 = 12 ∨ n9 = 13 ∨ n9 = 14 by omega) with rfl | rfl | rfl | rfl | rfl | rfl | rfl; exact hn39; exact hn73; exact hn105; exact hn137; exact hn169; exact hn201; exact hn233)) hn267 (TX.s hTX (show ti < ct by omega)))), by rw [ht]; exact hP9, hD9⟩, hS.F ht⟩) hS.2.2 dX10_fact_125)
    · skip
      refine lv_aload_n hx hb dX10_fact_22 rfl (lv_at hl 0 rfl) ?_
      refine lv_iconst (v := 2) hx hb dX10_fact_23 (by decide) ?_
      obtain ⟨hPc, hDc, hFc⟩ := PDq.cut (wc := [(oX10 w0 v0 v1 v2 v3 v4 g5 g6 (nI ed) g8 v9 (nI nb) g11 g12 v13 (nI ln) (nI (gP ti)) (nI (gR (ti + 1))) tk kw g19 g20 g21 (nI o9) g23 (nI cd) g25 g26 v27 v28 v29 v30 v31 v32 v33 v34 v35 v36 v37 (nI ol))]) hP hD hS hA [5] (by decide) rfl
      refine va_calli (va_runV (As := [.int 2]) (rest := []) ⟨hx, hb, hml, hown, hts⟩ (y_fail l D cA sa w0 ed nb ol v0 v1 v2 v3 v4 v9 v13 v27 v28 v29 v30 v31 v32 v33 v34 v35 v36 v37 g8 g11 g12 g19 g20 g21 (nI o9) g23 g26 g5 g6 g25 ln cd tk kw ti ct fb gP gR gS gK gV 2 H.size hln hct hti hTX hBY hTK) (cwV 1 hts gX10_fact_X10_fail rfl rfl rfl (by decide +kernel) ⟨by show (0) + 1 ≤ 4 * (k9 + 1) + 21; omega, by show 8 + (2 + 11) + (0) ≤ 80 * (k9 + 1) + 340; omega⟩) ⟨Wd.blind, va_recv hK hPc (ci := 11) (q0 := 0) rfl rfl, fun U hU hW => ⟨rfl, Wd.call hPc hDc hK hC hZ hS hFc U hU hW⟩⟩ rfl rfl hl.1 rfl (lv_room (Nat.le_of_ble_eq_true rfl)) dX10_fact_24 ⟨(Nat.le_of_ble_eq_true rfl), (Nat.le_of_ble_eq_true rfl)⟩) hS (fun q _ h => hFc q h) hFc (fun rn268 u t H1 locs ht hvm hw hB hz1 hk1 hS => ?_)
      obtain ⟨zn269, hn270, hP1, hD1⟩ := hB
      rw [ht] at hP1
      obtain ⟨hP, hD⟩ := PDq.join (w := [(v1, .inl (cA 0, 326, .inl fp)), (v13, .inl (cA 1, 15, .inr (.inl fkw))), (v28, .inl (cA 1, 10, .inr (.inl l28))), (v30, .inl (cA 1, 8, .inr (.inl l30))), (v32, .inl (cA 0, 400, .inl fc)), (v9, .inl (cA 0, 700, .inl fb)), (oX10 w0 v0 v1 v2 v3 v4 g5 g6 (nI ed) g8 v9 (nI nb) g11 g12 v13 (nI ln) (nI (gP ti)) (nI (gR (ti + 1))) tk kw g19 zn269 (nI (gP ti)) (nI o9) g23 (nI cd) g25 g26 v27 v28 v29 v30 v31 v32 v33 v34 v35 v36 v37 (nI ol))]) 6 hP hD [5] [0, 1, 2, 3, 4, 6] rfl rfl (by decide) (by decide) hk1 hFc hP1 hD1 rfl
      generalize H1 = H at hP hS ⊢
      obtain rfl : rn268 = 0 := hw
      obtain ⟨hP9, hD9⟩ := PDq.sub (ws' := [(oX10 w0 v0 v1 v2 v3 v4 g5 g6 (nI ed) g8 v9 (nI nb) g11 g12 v13 (nI ln) (nI (gP ti)) (nI (gR (ti + 1))) tk kw g19 zn269 (nI (gP ti)) (nI o9) g23 (nI cd) g25 g26 v27 v28 v29 v30 v31 v32 v33 v34 v35 v36 v37 (nI ol)), (v1, .inl (cA 0, 326, .inl fp)), (v9, .inl (cA 0, 700, .inl fb)), (v13, .inl (cA 1, 15, .inr (.inl fkw))), (v28, .inl (cA 1, 10, .inr (.inl l28))), (v30, .inl (cA 1, 8, .inr (.inl l30))), (v32, .inl (cA 0, 400, .inl fc))]) hP hD [6, 0, 5, 1, 2, 3, 4] (by decide) rfl
      refine W.widen (k := 0) (n := 0) (Nat.le_of_ble_eq_true rfl) (Nat.le_of_ble_eq_true rfl) ?_
      exact (W.zret (v := 0) hx hb hr (by first | rfl | decide) (fun t ht hW => ⟨⟨0, 0, rfl, ⟨rfl, by decide⟩, ti, tk, kw, g19, zn269, (nI (gP ti)), g26, g25, cd, pq, (nI o9), fp, fc, l30, pl, hti, (by omega), (by omega), hTK, hpq, hri, hNP, (fun h9 => absurd h9 (by decide)), (fun h9 => absurd h9 (by decide)), (fun h9 => absurd h9 (by decide)), (fun h9 => absurd h9 (by decide)), (fun h9 => absurd h9 (by decide)), (fun h9 => absurd h9 (by decide)), (fun h9 => absurd h9 (by decide)), (fun h9 => absurd h9 (by decide)), (fun h9 => absurd h9 (by decide)), (fun _ => (P_nonex hn2 (TKR.n2 hTK c38 16 22 (by decide)) hn270 (TX.s hTX (show ti < ct by omega)))), by rw [ht]; exact hP9, hD9⟩, hS.F ht⟩) hS.2.2 dX10_fact_27)

set_option maxHeartbeats 4000000 in
set_option maxRecDepth 100000 in
/-- reference: both -/
theorem y_both_S (l : Launch) (D : va_G) (cA : Nat → ClassId) (sa : Nat → Nat) (k9 : Nat) (IHf : YFactC l D cA sa k9) (IHc : YCondC l D cA sa k9) (w0 : Nat) (ed : Nat) (nb : Nat) (ol : Nat) (v0 : Nat) (v1 : Nat) (v2 : Nat) (v3 : Nat) (v4 : Nat) (v9 : Nat) (v13 : Nat) (v27 : Nat) (v28 : Nat) (v29 : Nat) (v30 : Nat) (v31 : Nat) (v32 : Nat) (v33 : Nat) (v34 : Nat) (v35 : Nat) (v36 : Nat) (v37 : Nat) (g8 : Int32) (g11 : Int32) (g12 : Int32) (g19 : Int32) (g20 : Int32) (g21 : Int32) (g23 : Int32) (g26 : Int32) (g5 : Int64) (g6 : Int64) (g25 : Int64) (ln : Nat) (cd : Nat) (tk : Int32) (kw : Int32) (ti : Nat) (ct : Nat) (fb : Nat → Int32) (fkw : Nat → Int64) (gP : Nat → Nat) (gR : Nat → Nat) (gS : Nat → Int32) (gK : Nat → Int32) (gV : Nat → Int64) (cn : Nat) (pq : Nat) (en : Nat) (dy : Nat) (fp : Nat → Int32) (sl : Nat) (o9 : Nat) (l28 : Nat → Int64) (l30 : Nat → Int64) (fc : Nat → Int32) (ml : List Int64) (pl : List Int64) (sz : Nat) (hln : ln ≤ 700) (hct : ct ≤ 701) (hti : ti < ct) (hTX : TX fb ln ct gP gR gS gV gK) (hBY : BYn ln fb) (hTK : TKR (gK ti) (gV ti) (fb (gP ti)) tk kw g19 g25) (hKW : KW 15 fkw) (hcn : cn ≤ 10) (hpq : pq ≤ 8) (hen : en ≤ 60) (hdy : dy ≤ 20000) (hri : RI cn pq en dy fp) (hcd : 2 * cd + sl ≤ gP ti) (hNM : NL ml cn l28) (hNP : NL pl pq l30) (ho : o9 + (k9 + 1) = 8) : Met l yX10_both wsX10_both ({ frames := 4 * (k9 + 1) + 22, cells := 0, slots := 0, locals := 80 * (k9 + 1) + 360 }) (va_Pc [.ref w0] (Wd D cA sa [(oX10 w0 v0 v1 v2 v3 v4 g5 g6 (nI ed) g8 v9 (nI nb) g11 g12 v13 (nI ln) (nI (gP ti)) (nI (gR (ti + 1))) tk kw g19 g20 g21 (nI o9) g23 (nI cd) g25 g26 v27 v28 v29 v30 v31 v32 v33 v34 v35 v36 v37 (nI ol)), (v1, .inl (cA 0, 326, .inl fp)), (v9, .inl (cA 0, 700, .inl fb)), (v13, .inl (cA 1, 15, .inr (.inl fkw))), (v28, .inl (cA 1, 10, .inr (.inl l28))), (v30, .inl (cA 1, 8, .inr (.inl l30))), (v32, .inl (cA 0, 400, .inl fc))] sz)) (va_Qi (fun (r : Int32) (u9 : Int32) => u9 = r ∧ (r = 0 ∨ r = 1)) (fun (u9 : Int32) t => ∃ tj : Nat, ∃ z17 : Int32, ∃ z18 : Int32, ∃ z19 : Int32, ∃ z20 : Int32, ∃ z21 : Int32, ∃ z26 : Int32, ∃ z25 : Int64, ∃ cd2 : Nat, ∃ pq2 : Nat, ∃ zop : Int32, ∃ zp : Nat → Int32, ∃ zc : Nat → Int32, ∃ zl : Nat → Int64, ∃ zpl : List Int64, tj < ct ∧ gP tj ≤ ln ∧ ti ≤ tj ∧ TKR (gK tj) (gV tj) (fb (gP tj)) z17 z18 z19 z25 ∧ pq2 ≤ 8 ∧ RI cn pq2 en dy zp ∧ NL zpl pq2 zl ∧ (u9 = 1 → zop = (nI o9)) ∧ (u9 = 1 → z20 = g20) ∧ (u9 = 1 → z21 = g21) ∧ (u9 = 1 → ti + 1 ≤ tj) ∧ (u9 = 1 → cd ≤ cd2) ∧ (u9 = 1 → 2 * cd2 + sl ≤ gP tj) ∧ (u9 = 1 → Kp cd fc zc) ∧ (u9 = 1 → Sg cd cd2 zc) ∧ (u9 = 1 → PRx gK gS gV ml 1 o9 ti pl (.inr (tj, zpl))) ∧ (u9 = 0 → PRx gK gS gV ml 1 o9 ti pl (.inl (z20, z21))) ∧ Wq D (va_A [(oX10 w0 v0 v1 v2 v3 v4 g5 g6 (nI ed) g8 v9 (nI nb) g11 g12 v13 (nI ln) (nI (gP ti)) (nI (gR (ti + 1))) tk kw g19 g20 g21 (nI o9) g23 (nI cd) g25 g26 v27 v28 v29 v30 v31 v32 v33 v34 v35 v36 v37 (nI ol)), (v1, .inl (cA 0, 326, .inl fp)), (v9, .inl (cA 0, 700, .inl fb)), (v13, .inl (cA 1, 15, .inr (.inl fkw))), (v28, .inl (cA 1, 10, .inr (.inl l28))), (v30, .inl (cA 1, 8, .inr (.inl l30))), (v32, .inl (cA 0, 400, .inl fc))] sz) [(oX10 w0 v0 v1 v2 v3 v4 g5 g6 (nI ed) g8 v9 (nI nb) g11 g12 v13 (nI ln) (nI (gP tj)) (nI (gR (tj + 1))) z17 z18 z19 z20 z21 zop g23 (nI cd2) z25 z26 v27 v28 v29 v30 v31 v32 v33 v34 v35 v36 v37 (nI ol)), (v1, .inl (cA 0, 326, .inl zp)), (v9, .inl (cA 0, 700, .inl fb)), (v13, .inl (cA 1, 15, .inr (.inl fkw))), (v28, .inl (cA 1, 10, .inr (.inl l28))), (v30, .inl (cA 1, 8, .inr (.inl zl))), (v32, .inl (cA 0, 400, .inl zc))] t) (va_A [(oX10 w0 v0 v1 v2 v3 v4 g5 g6 (nI ed) g8 v9 (nI nb) g11 g12 v13 (nI ln) (nI (gP ti)) (nI (gR (ti + 1))) tk kw g19 g20 g21 (nI o9) g23 (nI cd) g25 g26 v27 v28 v29 v30 v31 v32 v33 v34 v35 v36 v37 (nI ol)), (v1, .inl (cA 0, 326, .inl fp)), (v9, .inl (cA 0, 700, .inl fb)), (v13, .inl (cA 1, 15, .inr (.inl fkw))), (v28, .inl (cA 1, 10, .inr (.inl l28))), (v30, .inl (cA 1, 8, .inr (.inl l30))), (v32, .inl (cA 0, 400, .inl fc))] sz)) 0 0 (va_A [(oX10 w0 v0 v1 v2 v3 v4 g5 g6 (nI ed) g8 v9 (nI nb) g11 g12 v13 (nI ln) (nI (gP ti)) (nI (gR (ti + 1))) tk kw g19 g20 g21 (nI o9) g23 (nI cd) g25 g26 v27 v28 v29 v30 v31 v32 v33 v34 v35 v36 v37 (nI ol)), (v1, .inl (cA 0, 326, .inl fp)), (v9, .inl (cA 0, 700, .inl fb)), (v13, .inl (cA 1, 15, .inr (.inl fkw))), (v28, .inl (cA 1, 10, .inr (.inl l28))), (v30, .inl (cA 1, 8, .inr (.inl l30))), (v32, .inl (cA 0, 400, .inl fc))] sz) := by
  refine Met.ofW (cc := cX10_both) (maxL := 1) (ret := (some .boolean)) (by decide) rfl ?_
  intro p e s m args below meth c s₁ B hml hv
  obtain ⟨rfl, hsz, hP, hK, hD0, hC, hZ⟩ := hv
  have hx := B.exec
  have hb := B.bytes
  have hr := B.returns
  have hts := atoms_spec (ws := wsX10_both) B.pre
  have hown : s.vm.findClass RX10 = some m.cls := findClass_of_methodNamed B.named
  have hlocks := B.notSynchronized
  subst hsz
  have hD := hD0.self (sz := s.heap.size)
  generalize hAe : va_A [(oX10 w0 v0 v1 v2 v3 v4 g5 g6 (nI ed) g8 v9 (nI nb) g11 g12 v13 (nI ln) (nI (gP ti)) (nI (gR (ti + 1))) tk kw g19 g20 g21 (nI o9) g23 (nI cd) g25 g26 v27 v28 v29 v30 v31 v32 v33 v34 v35 v36 v37 (nI ol)), (v1, .inl (cA 0, 326, .inl fp)), (v9, .inl (cA 0, 700, .inl fb)), (v13, .inl (cA 1, 15, .inr (.inl fkw))), (v28, .inl (cA 1, 10, .inr (.inl l28))), (v30, .inl (cA 1, 8, .inr (.inl l30))), (v32, .inl (cA 0, 400, .inl fc))] s.heap.size = A at hD hZ ⊢
  have hA : ∀ q : Nat, s.heap.size ≤ q → A q := fun q h => by rw [← hAe]; exact Or.inr h
  have hS : va_S A s.heap s.heap [] := va_S.rf
  have hP : va_P D vwCl [(oX10 w0 v0 v1 v2 v3 v4 g5 g6 (nI ed) g8 v9 (nI nb) g11 g12 v13 (nI ln) (nI (gP ti)) (nI (gR (ti + 1))) tk kw g19 g20 g21 (nI o9) g23 (nI cd) g25 g26 v27 v28 v29 v30 v31 v32 v33 v34 v35 v36 v37 (nI ol)), (v1, .inl (cA 0, 326, .inl fp)), (v9, .inl (cA 0, 700, .inl fb)), (v13, .inl (cA 1, 15, .inr (.inl fkw))), (v28, .inl (cA 1, 10, .inr (.inl l28))), (v30, .inl (cA 1, 8, .inr (.inl l30))), (v32, .inl (cA 0, 400, .inl fc))] s.heap := hP
  have hl := lv_entry ([.ref w0]) (n := 1) (Nat.le_of_ble_eq_true rfl)
  rw [lg_entry_eq]
  generalize (lg_sl ([.ref w0]) ++ List.replicate (1 - (lg_sl ([.ref w0])).length) Slot.unset).toArray = ls at hl ⊢
  have hl : lv_has ls 1 [(0, .ref w0)] := hl
  have hle9 := TX.le hTX hti
  refine lv_aload_n hx hb dX10_both_0 rfl (lv_at hl 0 rfl) ?_
  obtain ⟨hPc, hDc, hFc⟩ := PDq.cut (wc := [(oX10 w0 v0 v1 v2 v3 v4 g5 g6 (nI ed) g8 v9 (nI nb) g11 g12 v13 (nI ln) (nI (gP ti)) (nI (gR (ti + 1))) tk kw g19 g20 g21 (nI o9) g23 (nI cd) g25 g26 v27 v28 v29 v30 v31 v32 v33 v34 v35 v36 v37 (nI ol)), (v1, .inl (cA 0, 326, .inl fp)), (v9, .inl (cA 0, 700, .inl fb)), (v13, .inl (cA 1, 15, .inr (.inl fkw))), (v28, .inl (cA 1, 10, .inr (.inl l28))), (v30, .inl (cA 1, 8, .inr (.inl l30))), (v32, .inl (cA 0, 400, .inl fc))]) hP hD hS hA [0, 1, 2, 3, 4, 5, 6] (by decide) rfl
  refine va_calli (va_runV (As := []) (rest := []) ⟨hx, hb, hml, hown, hts⟩ (y_fact_S l D cA sa k9 IHf IHc w0 ed nb ol v0 v1 v2 v3 v4 v9 v13 v27 v28 v29 v30 v31 v32 v33 v34 v35 v36 v37 g8 g11 g12 g19 g20 g21 g23 g26 g5 g6 g25 ln cd tk kw ti ct fb fkw gP gR gS gK gV cn pq en dy fp sl o9 l28 l30 fc ml pl s.heap.size hln hct hti hTX hBY hTK hKW hcn hpq hen hdy hri hcd hNM hNP ho) (cwV 0 hts gX10_both_X10_fact rfl rfl rfl (by decide +kernel) ⟨by show (4 * (k9 + 1) + 21) + 1 ≤ 4 * (k9 + 1) + 22; omega, by show 8 + (1 + 11) + (80 * (k9 + 1) + 340) ≤ 80 * (k9 + 1) + 360; omega⟩) ⟨Wd.blind, va_recv hK hPc (ci := 11) (q0 := 0) rfl rfl, fun U hU hW => ⟨rfl, Wd.call hPc hDc hK hC hZ hS hFc U hU hW⟩⟩ rfl rfl hl.1 rfl (lv_room (Nat.le_of_ble_eq_true rfl)) dX10_both_1 ⟨(Nat.le_of_ble_eq_true rfl), (Nat.le_of_ble_eq_true rfl)⟩) hS (fun q _ h => hFc q h) hFc (fun rn1 u t H1 locs ht hvm hw hB hz1 hk1 hS => ?_)
  obtain ⟨qn2, zn3, zn4, zn5, zn6, zn7, zn8, zn9, qn10, qn11, zn12, fn13, fn14, fn15, zn16, hn17, hn18, hn19, hn20, hn21, hn22, hn23, hn24, hn25, hn26, hn27, hn28, hn29, hn30, hn31, hn32, hn33, hP1, hD1⟩ := hB
  rw [ht] at hP1
  obtain ⟨hP, hD⟩ := PDq.join (w := [(oX10 w0 v0 v1 v2 v3 v4 g5 g6 (nI ed) g8 v9 (nI nb) g11 g12 v13 (nI ln) (nI (gP qn2)) (nI (gR (qn2 + 1))) zn3 zn4 zn5 zn6 zn7 zn12 g23 (nI qn10) zn9 zn8 v27 v28 v29 v30 v31 v32 v33 v34 v35 v36 v37 (nI ol)), (v1, .inl (cA 0, 326, .inl fn13)), (v9, .inl (cA 0, 700, .inl fb)), (v13, .inl (cA 1, 15, .inr (.inl fkw))), (v28, .inl (cA 1, 10, .inr (.inl l28))), (v30, .inl (cA 1, 8, .inr (.inl fn15))), (v32, .inl (cA 0, 400, .inl fn14))]) 0 hP hD [0, 1, 2, 3, 4, 5, 6] [] rfl rfl (by decide) (by decide) hk1 hFc hP1 hD1 rfl
  generalize H1 = H at hP hS ⊢
  rcases hw.2 with hr9 | hr9
  · skip
    have hn33 := hn33 (hw.1.trans hr9)
    subst hr9
    refine lv_if_ne (tgt := 9) hx hb dX10_both_4 (by decide) (fun c9 => absurd c9 (by decide)) (fun c34 => ?_)
    refine lv_iconst (v := 0) hx hb dX10_both_7 (by decide) ?_
    obtain ⟨hP9, hD9⟩ := PDq.sub (ws' := [(oX10 w0 v0 v1 v2 v3 v4 g5 g6 (nI ed) g8 v9 (nI nb) g11 g12 v13 (nI ln) (nI (gP qn2)) (nI (gR (qn2 + 1))) zn3 zn4 zn5 zn6 zn7 zn12 g23 (nI qn10) zn9 zn8 v27 v28 v29 v30 v31 v32 v33 v34 v35 v36 v37 (nI ol)), (v1, .inl (cA 0, 326, .inl fn13)), (v9, .inl (cA 0, 700, .inl fb)), (v13, .inl (cA 1, 15, .inr (.inl fkw))), (v28, .inl (cA 1, 10, .inr (.inl l28))), (v30, .inl (cA 1, 8, .inr (.inl fn15))), (v32, .inl (cA 0, 400, .inl fn14))]) hP hD [0, 1, 2, 3, 4, 5, 6] (by decide) rfl
    refine W.widen (k := 0) (n := 0) (Nat.le_of_ble_eq_true rfl) (Nat.le_of_ble_eq_true rfl) ?_
    exact (W.zret (v := 0) hx hb hr (by first | rfl | decide) (fun t ht hW => ⟨⟨0, 0, rfl, ⟨rfl, by decide⟩, qn2, zn3, zn4, zn5, zn6, zn7, zn8, zn9, qn10, qn11, zn12, fn13, fn14, fn15, zn16, hn17, hn18, hn19, hn20, hn21, hn22, hn23, (fun h9 => absurd h9 (by decide)), (fun h9 => absurd h9 (by decide)), (fun h9 => absurd h9 (by decide)), (fun h9 => absurd h9 (by decide)), (fun h9 => absurd h9 (by decide)), (fun h9 => absurd h9 (by decide)), (fun h9 => absurd h9 (by decide)), (fun h9 => absurd h9 (by decide)), (fun h9 => absurd h9 (by decide)), (fun _ => (P_bothE hn33)), by rw [ht]; exact hP9, hD9⟩, hS.F ht⟩) hS.2.2 dX10_both_8)
  · skip
    have hn24 := hn24 (hw.1.trans hr9)
    subst hn24
    obtain ⟨hP, hD⟩ : PDq D A [(oX10 w0 v0 v1 v2 v3 v4 g5 g6 (nI ed) g8 v9 (nI nb) g11 g12 v13 (nI ln) (nI (gP qn2)) (nI (gR (qn2 + 1))) zn3 zn4 zn5 zn6 zn7 (nI o9) g23 (nI qn10) zn9 zn8 v27 v28 v29 v30 v31 v32 v33 v34 v35 v36 v37 (nI ol)), (v1, .inl (cA 0, 326, .inl fn13)), (v9, .inl (cA 0, 700, .inl fb)), (v13, .inl (cA 1, 15, .inr (.inl fkw))), (v28, .inl (cA 1, 10, .inr (.inl l28))), (v30, .inl (cA 1, 8, .inr (.inl fn15))), (v32, .inl (cA 0, 400, .inl fn14))] H := ⟨hP, hD⟩
    have hn25 := hn25 (hw.1.trans hr9)
    obtain rfl : g20 = zn6 := hn25.symm
    obtain ⟨hP, hD⟩ : PDq D A [(oX10 w0 v0 v1 v2 v3 v4 g5 g6 (nI ed) g8 v9 (nI nb) g11 g12 v13 (nI ln) (nI (gP qn2)) (nI (gR (qn2 + 1))) zn3 zn4 zn5 g20 zn7 (nI o9) g23 (nI qn10) zn9 zn8 v27 v28 v29 v30 v31 v32 v33 v34 v35 v36 v37 (nI ol)), (v1, .inl (cA 0, 326, .inl fn13)), (v9, .inl (cA 0, 700, .inl fb)), (v13, .inl (cA 1, 15, .inr (.inl fkw))), (v28, .inl (cA 1, 10, .inr (.inl l28))), (v30, .inl (cA 1, 8, .inr (.inl fn15))), (v32, .inl (cA 0, 400, .inl fn14))] H := ⟨hP, hD⟩
    have hn26 := hn26 (hw.1.trans hr9)
    obtain rfl : g21 = zn7 := hn26.symm
    obtain ⟨hP, hD⟩ : PDq D A [(oX10 w0 v0 v1 v2 v3 v4 g5 g6 (nI ed) g8 v9 (nI nb) g11 g12 v13 (nI ln) (nI (gP qn2)) (nI (gR (qn2 + 1))) zn3 zn4 zn5 g20 g21 (nI o9) g23 (nI qn10) zn9 zn8 v27 v28 v29 v30 v31 v32 v33 v34 v35 v36 v37 (nI ol)), (v1, .inl (cA 0, 326, .inl fn13)), (v9, .inl (cA 0, 700, .inl fb)), (v13, .inl (cA 1, 15, .inr (.inl fkw))), (v28, .inl (cA 1, 10, .inr (.inl l28))), (v30, .inl (cA 1, 8, .inr (.inl fn15))), (v32, .inl (cA 0, 400, .inl fn14))] H := ⟨hP, hD⟩
    have hn27 := hn27 (hw.1.trans hr9)
    have hn28 := hn28 (hw.1.trans hr9)
    have hn29 := hn29 (hw.1.trans hr9)
    have hn30 := hn30 (hw.1.trans hr9)
    have hn31 := hn31 (hw.1.trans hr9)
    have hn32 := hn32 (hw.1.trans hr9)
    subst hr9
    refine lv_if_ne (tgt := 9) hx hb dX10_both_4 (by decide) (fun c35 => ?_) (fun c9 => absurd c9 (by decide))
    have loop1 : ∀ (n1 i1 : Nat) (tii : Nat) (qi : Nat) (pli : List Int64) (u0_17_1 : Int32) (u0_18_1 : Int32) (u0_19_1 : Int32) (cdi : Nat) (u0_25_1 : Int64) (u0_26_1 : Int32) (f1_1 : Nat → Int32) (f5_1 : Nat → Int64) (f6_1 : Nat → Int32) (H : Heap) (locs : List Loc) (ls : Array Slot), i1 + n1 = 701 → i1 ≤ tii → tii < ct → gP tii ≤ ln → TKR (gK tii) (gV tii) (fb (gP tii)) u0_17_1 u0_18_1 u0_19_1 u0_25_1 → ti + 1 ≤ tii → cd ≤ cdi → 2 * cdi + sl ≤ gP tii → qi ≤ 8 → RI cn qi en dy f1_1 → NL pli qi f5_1 → Kp cd fc f6_1 → Sg cd cdi f6_1 → Cn gK gS gV ml 1 o9 ti pl 2 tii pli → va_P D vwCl [(oX10 w0 v0 v1 v2 v3 v4 g5 g6 (nI ed) g8 v9 (nI nb) g11 g12 v13 (nI ln) (nI (gP tii)) (nI (gR (tii + 1))) u0_17_1 u0_18_1 u0_19_1 g20 g21 (nI o9) g23 (nI cdi) u0_25_1 u0_26_1 v27 v28 v29 v30 v31 v32 v33 v34 v35 v36 v37 (nI ol)), (v1, .inl (cA 0, 326, .inl f1_1)), (v9, .inl (cA 0, 700, .inl fb)), (v13, .inl (cA 1, 15, .inr (.inl fkw))), (v28, .inl (cA 1, 10, .inr (.inl l28))), (v30, .inl (cA 1, 8, .inr (.inl f5_1))), (v32, .inl (cA 0, 400, .inl f6_1))] H → va_D A [(oX10 w0 v0 v1 v2 v3 v4 g5 g6 (nI ed) g8 v9 (nI nb) g11 g12 v13 (nI ln) (nI (gP tii)) (nI (gR (tii + 1))) u0_17_1 u0_18_1 u0_19_1 g20 g21 (nI o9) g23 (nI cdi) u0_25_1 u0_26_1 v27 v28 v29 v30 v31 v32 v33 v34 v35 v36 v37 (nI ol)), (v1, .inl (cA 0, 326, .inl f1_1)), (v9, .inl (cA 0, 700, .inl fb)), (v13, .inl (cA 1, 15, .inr (.inl fkw))), (v28, .inl (cA 1, 10, .inr (.inl l28))), (v30, .inl (cA 1, 8, .inr (.inl f5_1))), (v32, .inl (cA 0, 400, .inl f6_1))] → va_S A s.heap H locs → lv_has ls 1 [(0, .ref w0)] → W p l e (headSpec wsX10_both ({ frames := 4 * (k9 + 1) + 22, cells := 0, slots := 0, locals := 80 * (k9 + 1) + 360 } : Room)).room s m ([.ref w0] : List Value).toArray below meth c H locs 0 0 (MQ below (va_Qi (fun (r : Int32) (u9 : Int32) => u9 = r ∧ (r = 0 ∨ r = 1)) (fun (u9 : Int32) t => ∃ tj : Nat, ∃ z17 : Int32, ∃ z18 : Int32, ∃ z19 : Int32, ∃ z20 : Int32, ∃ z21 : Int32, ∃ z26 : Int32, ∃ z25 : Int64, ∃ cd2 : Nat, ∃ pq2 : Nat, ∃ zop : Int32, ∃ zp : Nat → Int32, ∃ zc : Nat → Int32, ∃ zl : Nat → Int64, ∃ zpl : List Int64, tj < ct ∧ gP tj ≤ ln ∧ ti ≤ tj ∧ TKR (gK tj) (gV tj) (fb (gP tj)) z17 z18 z19 z25 ∧ pq2 ≤ 8 ∧ RI cn pq2 en dy zp ∧ NL zpl pq2 zl ∧ (u9 = 1 → zop = (nI o9)) ∧ (u9 = 1 → z20 = g20) ∧ (u9 = 1 → z21 = g21) ∧ (u9 = 1 → ti + 1 ≤ tj) ∧ (u9 = 1 → cd ≤ cd2) ∧ (u9 = 1 → 2 * cd2 + sl ≤ gP tj) ∧ (u9 = 1 → Kp cd fc zc) ∧ (u9 = 1 → Sg cd cd2 zc) ∧ (u9 = 1 → PRx gK gS gV ml 1 o9 ti pl (.inr (tj, zpl))) ∧ (u9 = 0 → PRx gK gS gV ml 1 o9 ti pl (.inl (z20, z21))) ∧ Wq D A [(oX10 w0 v0 v1 v2 v3 v4 g5 g6 (nI ed) g8 v9 (nI nb) g11 g12 v13 (nI ln) (nI (gP tj)) (nI (gR (tj + 1))) z17 z18 z19 z20 z21 zop g23 (nI cd2) z25 z26 v27 v28 v29 v30 v31 v32 v33 v34 v35 v36 v37 (nI ol)), (v1, .inl (cA 0, 326, .inl zp)), (v9, .inl (cA 0, 700, .inl fb)), (v13, .inl (cA 1, 15, .inr (.inl fkw))), (v28, .inl (cA 1, 10, .inr (.inl l28))), (v30, .inl (cA 1, 8, .inr (.inl zl))), (v32, .inl (cA 0, 400, .inl zc))] t) A) ([.ref w0] : List Value).toArray s 0 0 A) (F0 m 9 ls []) := by
      intro n1
      induction n1 with
      | zero =>
        intro i1 tii qi pli u0_17_1 u0_18_1 u0_19_1 cdi u0_25_1 u0_26_1 f1_1 f5_1 f6_1 H locs ls hi1 hv0_1 hv1_1 hv2_1 hv3_1 hv4_1 hv5_1 hv6_1 hv7_1 hv8_1 hv9_1 hv10_1 hv11_1 hv12_1 hP hD hS hl
        obtain rfl : 701 = i1 := by omega
        exact absurd hv0_1 (by omega)
      | succ n1 ih1 =>
        intro i1 tii qi pli u0_17_1 u0_18_1 u0_19_1 cdi u0_25_1 u0_26_1 f1_1 f5_1 f6_1 H locs ls hi1 hv0_1 hv1_1 hv2_1 hv3_1 hv4_1 hv5_1 hv6_1 hv7_1 hv8_1 hv9_1 hv10_1 hv11_1 hv12_1 hP hD hS hl
        refine lv_aload_n hx hb dX10_both_9 rfl (lv_at hl 0 rfl) ?_
        refine lv_bipush (v := 7) hx hb dX10_both_10 (by decide) ?_
        obtain ⟨hPc, hDc, hFc⟩ := PDq.cut (wc := [(oX10 w0 v0 v1 v2 v3 v4 g5 g6 (nI ed) g8 v9 (nI nb) g11 g12 v13 (nI ln) (nI (gP tii)) (nI (gR (tii + 1))) u0_17_1 u0_18_1 u0_19_1 g20 g21 (nI o9) g23 (nI cdi) u0_25_1 u0_26_1 v27 v28 v29 v30 v31 v32 v33 v34 v35 v36 v37 (nI ol))]) hP hD hS hA [0] (by decide) rfl
        refine va_calli (va_runV (As := [.int 7]) (rest := []) ⟨hx, hb, hml, hown, hts⟩ (y_kw7 l D cA sa w0 ed nb ol v0 v1 v2 v3 v4 v9 v13 v27 v28 v29 v30 v31 v32 v33 v34 v35 v36 v37 g8 g11 g12 u0_19_1 g20 g21 (nI o9) g23 u0_26_1 g5 g6 u0_25_1 ln cdi u0_17_1 u0_18_1 tii ct fb gP gR gS gK gV H.size hln hct hv1_1 hTX hBY hv3_1) (cwV 1 hts gX10_both_X10_isKeyword rfl rfl rfl (by decide +kernel) ⟨by show (0) + 1 ≤ 4 * (k9 + 1) + 22; omega, by show 8 + (2 + 11) + (0) ≤ 80 * (k9 + 1) + 360; omega⟩) ⟨Wd.blind, va_recv hK hPc (ci := 11) (q0 := 0) rfl rfl, fun U hU hW => ⟨rfl, Wd.call hPc hDc hK hC hZ hS hFc U hU hW⟩⟩ rfl rfl hl.1 rfl (lv_room (Nat.le_of_ble_eq_true rfl)) dX10_both_12 ⟨(Nat.le_of_ble_eq_true rfl), (Nat.le_of_ble_eq_true rfl)⟩) hS (fun q _ h => hFc q h) hFc (fun rn36 u t H1 locs ht hvm hw hB hz1 hk1 hS => ?_)
        obtain ⟨hP1, hD1⟩ := hB
        rw [ht] at hP1
        obtain ⟨hP, hD⟩ := PDq.join (w := [(v1, .inl (cA 0, 326, .inl f1_1)), (v9, .inl (cA 0, 700, .inl fb)), (v13, .inl (cA 1, 15, .inr (.inl fkw))), (v28, .inl (cA 1, 10, .inr (.inl l28))), (v30, .inl (cA 1, 8, .inr (.inl f5_1))), (v32, .inl (cA 0, 400, .inl f6_1)), (oX10 w0 v0 v1 v2 v3 v4 g5 g6 (nI ed) g8 v9 (nI nb) g11 g12 v13 (nI ln) (nI (gP tii)) (nI (gR (tii + 1))) u0_17_1 u0_18_1 u0_19_1 g20 g21 (nI o9) g23 (nI cdi) u0_25_1 u0_26_1 v27 v28 v29 v30 v31 v32 v33 v34 v35 v36 v37 (nI ol))]) 6 hP hD [0] [1, 2, 3, 4, 5, 6] rfl rfl (by decide) (by decide) hk1 hFc hP1 hD1 rfl
        generalize H1 = H at hP hS ⊢
        rcases hw with ⟨hr9, hn37⟩ | ⟨hr9, hn37⟩
        · skip
          subst hr9
          refine lv_if_eq (tgt := 41) hx hb dX10_both_15 (by decide) (fun c9 => absurd c9 (by decide)) (fun c38 => ?_)
          refine lv_aload_n hx hb dX10_both_18 rfl (lv_at hl 0 rfl) ?_
          have hn39 := TX.go2 hTX (show tii < ct by omega) (by rw [hn37]; decide)
          have hn39a := TX.le hTX (show tii < ct by omega)
          have hn39b := TX.le hTX hn39.1
          obtain ⟨hPc, hDc, hFc⟩ := PDq.cut (wc := [(oX10 w0 v0 v1 v2 v3 v4 g5 g6 (nI ed) g8 v9 (nI nb) g11 g12 v13 (nI ln) (nI (gP tii)) (nI (gR (tii + 1))) u0_17_1 u0_18_1 u0_19_1 g20 g21 (nI o9) g23 (nI cdi) u0_25_1 u0_26_1 v27 v28 v29 v30 v31 v32 v33 v34 v35 v36 v37 (nI ol)), (v9, .inl (cA 0, 700, .inl fb)), (v13, .inl (cA 1, 15, .inr (.inl fkw)))]) hP hD hS hA [6, 1, 2] (by decide) rfl
          refine va_calli (va_runV (As := []) (rest := []) ⟨hx, hb, hml, hown, hts⟩ (y_advance l D cA sa w0 ed nb ol v0 v1 v2 v3 v4 v9 v13 v27 v28 v29 v30 v31 v32 v33 v34 v35 v36 v37 g8 g11 g12 (nI (gP tii)) u0_17_1 u0_18_1 u0_19_1 g20 g21 (nI o9) g23 (nI cdi) u0_26_1 g5 g6 u0_25_1 ln (gR (tii + 1)) fb fkw (gP (tii + 1)) (gR ((tii + 1) + 1)) (gK (tii + 1)) (gV (tii + 1)) H.size hln (by omega) hKW hBY (TX.t hTX hn39.1)) (cwV 0 hts gX10_both_X10_advance rfl rfl rfl (by decide +kernel) ⟨by show (1) + 1 ≤ 4 * (k9 + 1) + 22; omega, by show 8 + (2 + 11) + (23) ≤ 80 * (k9 + 1) + 360; omega⟩) ⟨Wd.blind, va_recv hK hPc (ci := 11) (q0 := 0) rfl rfl, fun U hU hW => ⟨rfl, Wd.call hPc hDc hK hC hZ hS hFc U hU hW⟩⟩ rfl rfl hl.1 rfl (lv_room (Nat.le_of_ble_eq_true rfl)) dX10_both_19 ⟨(Nat.le_of_ble_eq_true rfl), (Nat.le_of_ble_eq_true rfl)⟩) hS (fun q _ h => hFc q h) hFc (fun rn40 u t H1 locs ht hvm hw hB hz1 hk1 hS => ?_)
          obtain ⟨zn41, zn42, zn43, zn44, hn45, hP1, hD1⟩ := hB
          rw [ht] at hP1
          obtain ⟨hP, hD⟩ := PDq.join (w := [(v1, .inl (cA 0, 326, .inl f1_1)), (v28, .inl (cA 1, 10, .inr (.inl l28))), (v30, .inl (cA 1, 8, .inr (.inl f5_1))), (v32, .inl (cA 0, 400, .inl f6_1)), (oX10 w0 v0 v1 v2 v3 v4 g5 g6 (nI ed) g8 v9 (nI nb) g11 g12 v13 (nI ln) (nI (gP (tii + 1))) (nI (gR ((tii + 1) + 1))) zn41 zn42 zn43 g20 g21 (nI o9) g23 (nI cdi) zn44 u0_26_1 v27 v28 v29 v30 v31 v32 v33 v34 v35 v36 v37 (nI ol)), (v9, .inl (cA 0, 700, .inl fb)), (v13, .inl (cA 1, 15, .inr (.inl fkw)))]) 4 hP hD [6, 1, 2] [0, 3, 4, 5] rfl rfl (by decide) (by decide) hk1 hFc hP1 hD1 rfl
          generalize H1 = H at hP hS ⊢
          obtain rfl : rn40 = 1 := hw
          refine lv_pop hx hb dX10_both_22 rfl ?_
          refine lv_aload_n hx hb dX10_both_23 rfl (lv_at hl 0 rfl) ?_
          obtain ⟨hPc, hDc, hFc⟩ := PDq.cut (wc := [(oX10 w0 v0 v1 v2 v3 v4 g5 g6 (nI ed) g8 v9 (nI nb) g11 g12 v13 (nI ln) (nI (gP (tii + 1))) (nI (gR ((tii + 1) + 1))) zn41 zn42 zn43 g20 g21 (nI o9) g23 (nI cdi) zn44 u0_26_1 v27 v28 v29 v30 v31 v32 v33 v34 v35 v36 v37 (nI ol)), (v1, .inl (cA 0, 326, .inl f1_1)), (v9, .inl (cA 0, 700, .inl fb)), (v13, .inl (cA 1, 15, .inr (.inl fkw))), (v28, .inl (cA 1, 10, .inr (.inl l28))), (v30, .inl (cA 1, 8, .inr (.inl f5_1))), (v32, .inl (cA 0, 400, .inl f6_1))]) hP hD hS hA [4, 0, 5, 6, 1, 2, 3] (by decide) rfl
          refine va_calli (va_runV (As := []) (rest := []) ⟨hx, hb, hml, hown, hts⟩ (y_fact_S l D cA sa k9 IHf IHc w0 ed nb ol v0 v1 v2 v3 v4 v9 v13 v27 v28 v29 v30 v31 v32 v33 v34 v35 v36 v37 g8 g11 g12 zn43 g20 g21 g23 u0_26_1 g5 g6 zn44 ln cdi zn41 zn42 (tii + 1) ct fb fkw gP gR gS gK gV cn qi en dy f1_1 (sl + 2) o9 l28 f5_1 f6_1 ml pli H.size hln hct hn39.1 hTX hBY hn45 hKW hcn hv7_1 hen hdy hv8_1 (by omega) hNM hv9_1 ho) (cwV 0 hts gX10_both_X10_fact rfl rfl rfl (by decide +kernel) ⟨by show (4 * (k9 + 1) + 21) + 1 ≤ 4 * (k9 + 1) + 22; omega, by show 8 + (1 + 11) + (80 * (k9 + 1) + 340) ≤ 80 * (k9 + 1) + 360; omega⟩) ⟨Wd.blind, va_recv hK hPc (ci := 11) (q0 := 0) rfl rfl, fun U hU hW => ⟨rfl, Wd.call hPc hDc hK hC hZ hS hFc U hU hW⟩⟩ rfl rfl hl.1 rfl (lv_room (Nat.le_of_ble_eq_true rfl)) dX10_both_24 ⟨(Nat.le_of_ble_eq_true rfl), (Nat.le_of_ble_eq_true rfl)⟩) hS (fun q _ h => hFc q h) hFc (fun rn46 u t H1 locs ht hvm hw hB hz1 hk1 hS => ?_)
          obtain ⟨qn47, zn48, zn49, zn50, zn51, zn52, zn53, zn54, qn55, qn56, zn57, fn58, fn59, fn60, zn61, hn62, hn63, hn64, hn65, hn66, hn67, hn68, hn69, hn70, hn71, hn72, hn73, hn74, hn75, hn76, hn77, hn78, hP1, hD1⟩ := hB
          rw [ht] at hP1
          obtain ⟨hP, hD⟩ := PDq.join (w := [(oX10 w0 v0 v1 v2 v3 v4 g5 g6 (nI ed) g8 v9 (nI nb) g11 g12 v13 (nI ln) (nI (gP qn47)) (nI (gR (qn47 + 1))) zn48 zn49 zn50 zn51 zn52 zn57 g23 (nI qn55) zn54 zn53 v27 v28 v29 v30 v31 v32 v33 v34 v35 v36 v37 (nI ol)), (v1, .inl (cA 0, 326, .inl fn58)), (v9, .inl (cA 0, 700, .inl fb)), (v13, .inl (cA 1, 15, .inr (.inl fkw))), (v28, .inl (cA 1, 10, .inr (.inl l28))), (v30, .inl (cA 1, 8, .inr (.inl fn60))), (v32, .inl (cA 0, 400, .inl fn59))]) 0 hP hD [4, 0, 5, 6, 1, 2, 3] [] rfl rfl (by decide) (by decide) hk1 hFc hP1 hD1 rfl
          generalize H1 = H at hP hS ⊢
          rcases hw.2 with hr9 | hr9
          · skip
            have hn78 := hn78 (hw.1.trans hr9)
            subst hr9
            refine lv_if_ne (tgt := 32) hx hb dX10_both_27 (by decide) (fun c9 => absurd c9 (by decide)) (fun c79 => ?_)
            refine lv_iconst (v := 0) hx hb dX10_both_30 (by decide) ?_
            obtain ⟨hP9, hD9⟩ := PDq.sub (ws' := [(oX10 w0 v0 v1 v2 v3 v4 g5 g6 (nI ed) g8 v9 (nI nb) g11 g12 v13 (nI ln) (nI (gP qn47)) (nI (gR (qn47 + 1))) zn48 zn49 zn50 zn51 zn52 zn57 g23 (nI qn55) zn54 zn53 v27 v28 v29 v30 v31 v32 v33 v34 v35 v36 v37 (nI ol)), (v1, .inl (cA 0, 326, .inl fn58)), (v9, .inl (cA 0, 700, .inl fb)), (v13, .inl (cA 1, 15, .inr (.inl fkw))), (v28, .inl (cA 1, 10, .inr (.inl l28))), (v30, .inl (cA 1, 8, .inr (.inl fn60))), (v32, .inl (cA 0, 400, .inl fn59))]) hP hD [0, 1, 2, 3, 4, 5, 6] (by decide) rfl
            refine W.widen (k := 0) (n := 0) (Nat.le_of_ble_eq_true rfl) (Nat.le_of_ble_eq_true rfl) ?_
            exact (W.zret (v := 0) hx hb hr (by first | rfl | decide) (fun t ht hW => ⟨⟨0, 0, rfl, ⟨rfl, by decide⟩, qn47, zn48, zn49, zn50, zn51, zn52, zn53, zn54, qn55, qn56, zn57, fn58, fn59, fn60, zn61, hn62, hn63, (by omega), hn65, hn66, hn67, hn68, (fun h9 => absurd h9 (by decide)), (fun h9 => absurd h9 (by decide)), (fun h9 => absurd h9 (by decide)), (fun h9 => absurd h9 (by decide)), (fun h9 => absurd h9 (by decide)), (fun h9 => absurd h9 (by decide)), (fun h9 => absurd h9 (by decide)), (fun h9 => absurd h9 (by decide)), (fun h9 => absurd h9 (by decide)), (fun _ => (hv12_1 _ (P_andE hn37 hn78))), by rw [ht]; exact hP9, hD9⟩, hS.F ht⟩) hS.2.2 dX10_both_31)
          · skip
            have hn69 := hn69 (hw.1.trans hr9)
            subst hn69
            obtain ⟨hP, hD⟩ : PDq D A [(oX10 w0 v0 v1 v2 v3 v4 g5 g6 (nI ed) g8 v9 (nI nb) g11 g12 v13 (nI ln) (nI (gP qn47)) (nI (gR (qn47 + 1))) zn48 zn49 zn50 zn51 zn52 (nI o9) g23 (nI qn55) zn54 zn53 v27 v28 v29 v30 v31 v32 v33 v34 v35 v36 v37 (nI ol)), (v1, .inl (cA 0, 326, .inl fn58)), (v9, .inl (cA 0, 700, .inl fb)), (v13, .inl (cA 1, 15, .inr (.inl fkw))), (v28, .inl (cA 1, 10, .inr (.inl l28))), (v30, .inl (cA 1, 8, .inr (.inl fn60))), (v32, .inl (cA 0, 400, .inl fn59))] H := ⟨hP, hD⟩
            have hn70 := hn70 (hw.1.trans hr9)
            obtain rfl : g20 = zn51 := hn70.symm
            obtain ⟨hP, hD⟩ : PDq D A [(oX10 w0 v0 v1 v2 v3 v4 g5 g6 (nI ed) g8 v9 (nI nb) g11 g12 v13 (nI ln) (nI (gP qn47)) (nI (gR (qn47 + 1))) zn48 zn49 zn50 g20 zn52 (nI o9) g23 (nI qn55) zn54 zn53 v27 v28 v29 v30 v31 v32 v33 v34 v35 v36 v37 (nI ol)), (v1, .inl (cA 0, 326, .inl fn58)), (v9, .inl (cA 0, 700, .inl fb)), (v13, .inl (cA 1, 15, .inr (.inl fkw))), (v28, .inl (cA 1, 10, .inr (.inl l28))), (v30, .inl (cA 1, 8, .inr (.inl fn60))), (v32, .inl (cA 0, 400, .inl fn59))] H := ⟨hP, hD⟩
            have hn71 := hn71 (hw.1.trans hr9)
            obtain rfl : g21 = zn52 := hn71.symm
            obtain ⟨hP, hD⟩ : PDq D A [(oX10 w0 v0 v1 v2 v3 v4 g5 g6 (nI ed) g8 v9 (nI nb) g11 g12 v13 (nI ln) (nI (gP qn47)) (nI (gR (qn47 + 1))) zn48 zn49 zn50 g20 g21 (nI o9) g23 (nI qn55) zn54 zn53 v27 v28 v29 v30 v31 v32 v33 v34 v35 v36 v37 (nI ol)), (v1, .inl (cA 0, 326, .inl fn58)), (v9, .inl (cA 0, 700, .inl fb)), (v13, .inl (cA 1, 15, .inr (.inl fkw))), (v28, .inl (cA 1, 10, .inr (.inl l28))), (v30, .inl (cA 1, 8, .inr (.inl fn60))), (v32, .inl (cA 0, 400, .inl fn59))] H := ⟨hP, hD⟩
            have hn72 := hn72 (hw.1.trans hr9)
            have hn73 := hn73 (hw.1.trans hr9)
            have hn74 := hn74 (hw.1.trans hr9)
            have hn75 := hn75 (hw.1.trans hr9)
            have hn76 := hn76 (hw.1.trans hr9)
            have hn77 := hn77 (hw.1.trans hr9)
            subst hr9
            refine lv_if_ne (tgt := 32) hx hb dX10_both_27 (by decide) (fun c80 => ?_) (fun c9 => absurd c9 (by decide))
            refine lv_aload_n hx hb dX10_both_32 rfl (lv_at hl 0 rfl) ?_
            refine lv_iconst (v := (-1)) hx hb dX10_both_33 (by decide) ?_
            obtain ⟨hPc, hDc, hFc⟩ := PDq.cut (wc := [(oX10 w0 v0 v1 v2 v3 v4 g5 g6 (nI ed) g8 v9 (nI nb) g11 g12 v13 (nI ln) (nI (gP qn47)) (nI (gR (qn47 + 1))) zn48 zn49 zn50 g20 g21 (nI o9) g23 (nI qn55) zn54 zn53 v27 v28 v29 v30 v31 v32 v33 v34 v35 v36 v37 (nI ol)), (v32, .inl (cA 0, 400, .inl fn59))]) hP hD hS hA [0, 6] (by decide) rfl
            refine va_calli (va_runV (As := [.int (-1)]) (rest := []) ⟨hx, hb, hml, hown, hts⟩ (r_emit l D cA sa w0 ed nb ol v0 v1 v2 v3 v4 v9 v13 v27 v28 v29 v30 v31 v32 v33 v34 v35 v36 v37 g8 g11 g12 (nI ln) (nI (gP qn47)) (nI (gR (qn47 + 1))) zn48 zn49 zn50 g20 g21 (nI o9) g23 zn53 g5 g6 zn54 qn55 (-1) fn59 H.size (by omega)) (cwV 1 hts gX10_both_X10_emit rfl rfl rfl (by decide +kernel) ⟨by show (0) + 1 ≤ 4 * (k9 + 1) + 22; omega, by show 8 + (2 + 11) + (0) ≤ 80 * (k9 + 1) + 360; omega⟩) ⟨Wd.blind, va_recv hK hPc (ci := 11) (q0 := 0) rfl rfl, fun U hU hW => ⟨rfl, Wd.call hPc hDc hK hC hZ hS hFc U hU hW⟩⟩ rfl rfl hl.1 rfl (lv_room (Nat.le_of_ble_eq_true rfl)) dX10_both_34 ⟨(Nat.le_of_ble_eq_true rfl), (Nat.le_of_ble_eq_true rfl)⟩) hS (fun q _ h => hFc q h) hFc (fun rn81 u t H1 locs ht hvm hw hB hz1 hk1 hS => ?_)
            obtain ⟨fn82, hn83, hP1, hD1⟩ := hB
            rw [ht] at hP1
            obtain ⟨hP, hD⟩ := PDq.join (w := [(v1, .inl (cA 0, 326, .inl fn58)), (v9, .inl (cA 0, 700, .inl fb)), (v13, .inl (cA 1, 15, .inr (.inl fkw))), (v28, .inl (cA 1, 10, .inr (.inl l28))), (v30, .inl (cA 1, 8, .inr (.inl fn60))), (oX10 w0 v0 v1 v2 v3 v4 g5 g6 (nI ed) g8 v9 (nI nb) g11 g12 v13 (nI ln) (nI (gP qn47)) (nI (gR (qn47 + 1))) zn48 zn49 zn50 g20 g21 (nI o9) g23 (nI (qn55 + 1)) zn54 zn53 v27 v28 v29 v30 v31 v32 v33 v34 v35 v36 v37 (nI ol)), (v32, .inl (cA 0, 400, .inl fn82))]) 5 hP hD [0, 6] [1, 2, 3, 4, 5] rfl rfl (by decide) (by decide) hk1 hFc hP1 hD1 rfl
            generalize H1 = H at hP hS ⊢
            obtain rfl : rn81 = 1 := hw
            refine lv_pop hx hb dX10_both_37 rfl ?_
            have hn84 := Kp.tr (Kp.tr hv10_1 hn75 (by omega)) (Em.kp hn83) (by omega)
            have hn85 := Sg.join hv11_1 hn75 hn76 hn83 (by decide)
            refine lv_goto (tgt := 9) hx hb dX10_both_38 (by decide) ?_
            obtain ⟨hP9, hD9⟩ := PDq.sub (ws' := [(oX10 w0 v0 v1 v2 v3 v4 g5 g6 (nI ed) g8 v9 (nI nb) g11 g12 v13 (nI ln) (nI (gP qn47)) (nI (gR (qn47 + 1))) zn48 zn49 zn50 g20 g21 (nI o9) g23 (nI (qn55 + 1)) zn54 zn53 v27 v28 v29 v30 v31 v32 v33 v34 v35 v36 v37 (nI ol)), (v1, .inl (cA 0, 326, .inl fn58)), (v9, .inl (cA 0, 700, .inl fb)), (v13, .inl (cA 1, 15, .inr (.inl fkw))), (v28, .inl (cA 1, 10, .inr (.inl l28))), (v30, .inl (cA 1, 8, .inr (.inl fn60))), (v32, .inl (cA 0, 400, .inl fn82))]) hP hD [5, 0, 1, 2, 3, 4, 6] (by decide) rfl
            exact ih1 (i1 + 1) qn47 qn56 zn61 zn48 zn49 zn50 (qn55 + 1) zn54 zn53 fn58 fn60 fn82 H _ ls (by omega) (by omega) hn62 hn63 hn65 (by omega) (by omega) (by omega) hn66 hn67 hn68 hn84 hn85 (fun r9 h9 => hv12_1 r9 (P_and hn37 hn77 h9)) hP9 hD9 hS (lv_sub hl [0] rfl)
        · skip
          subst hr9
          refine lv_if_eq (tgt := 41) hx hb dX10_both_15 (by decide) (fun c86 => ?_) (fun c9 => absurd c9 (by decide))
          refine lv_iconst (v := 1) hx hb dX10_both_41 (by decide) ?_
          obtain ⟨hP9, hD9⟩ := PDq.sub (ws' := [(oX10 w0 v0 v1 v2 v3 v4 g5 g6 (nI ed) g8 v9 (nI nb) g11 g12 v13 (nI ln) (nI (gP tii)) (nI (gR (tii + 1))) u0_17_1 u0_18_1 u0_19_1 g20 g21 (nI o9) g23 (nI cdi) u0_25_1 u0_26_1 v27 v28 v29 v30 v31 v32 v33 v34 v35 v36 v37 (nI ol)), (v1, .inl (cA 0, 326, .inl f1_1)), (v9, .inl (cA 0, 700, .inl fb)), (v13, .inl (cA 1, 15, .inr (.inl fkw))), (v28, .inl (cA 1, 10, .inr (.inl l28))), (v30, .inl (cA 1, 8, .inr (.inl f5_1))), (v32, .inl (cA 0, 400, .inl f6_1))]) hP hD [6, 0, 1, 2, 3, 4, 5] (by decide) rfl
          refine W.widen (k := 0) (n := 0) (Nat.le_of_ble_eq_true rfl) (Nat.le_of_ble_eq_true rfl) ?_
          exact (W.zret (v := 1) hx hb hr (by first | rfl | decide) (fun t ht hW => ⟨⟨1, 1, rfl, ⟨rfl, by decide⟩, tii, u0_17_1, u0_18_1, u0_19_1, g20, g21, u0_26_1, u0_25_1, cdi, qi, (nI o9), f1_1, f6_1, f5_1, pli, hv1_1, hv2_1, (by omega), hv3_1, hv7_1, hv8_1, hv9_1, (fun _ => rfl), (fun _ => rfl), (fun _ => rfl), (fun _ => hv4_1), (fun _ => hv5_1), (fun _ => hv6_1), (fun _ => hv10_1), (fun _ => hv11_1), (fun _ => (hv12_1 _ (P_end2 hn37))), (fun h9 => absurd h9 (by decide)), by rw [ht]; exact hP9, hD9⟩, hS.F ht⟩) hS.2.2 dX10_both_42)
    obtain ⟨hP9, hD9⟩ := PDq.sub (ws' := [(oX10 w0 v0 v1 v2 v3 v4 g5 g6 (nI ed) g8 v9 (nI nb) g11 g12 v13 (nI ln) (nI (gP qn2)) (nI (gR (qn2 + 1))) zn3 zn4 zn5 g20 g21 (nI o9) g23 (nI qn10) zn9 zn8 v27 v28 v29 v30 v31 v32 v33 v34 v35 v36 v37 (nI ol)), (v1, .inl (cA 0, 326, .inl fn13)), (v9, .inl (cA 0, 700, .inl fb)), (v13, .inl (cA 1, 15, .inr (.inl fkw))), (v28, .inl (cA 1, 10, .inr (.inl l28))), (v30, .inl (cA 1, 8, .inr (.inl fn15))), (v32, .inl (cA 0, 400, .inl fn14))]) hP hD [0, 1, 2, 3, 4, 5, 6] (by decide) rfl
    exact loop1 (701 - 0) 0 qn2 qn11 zn16 zn3 zn4 zn5 qn10 zn9 zn8 fn13 fn15 fn14 _ _ ls (by omega) (by omega) hn17 hn18 hn20 hn27 hn28 hn29 hn21 hn22 hn23 hn30 hn31 (fun r9 h9 => P_both hn32 h9) hP9 hD9 hS (lv_sub hl [0] rfl)

set_option maxHeartbeats 4000000 in
set_option maxRecDepth 100000 in
/-- reference: condition -/
theorem y_condition_S (l : Launch) (D : va_G) (cA : Nat → ClassId) (sa : Nat → Nat) (k9 : Nat) (IHf : YFactC l D cA sa k9) (IHc : YCondC l D cA sa k9) (w0 : Nat) (ed : Nat) (nb : Nat) (ol : Nat) (v0 : Nat) (v1 : Nat) (v2 : Nat) (v3 : Nat) (v4 : Nat) (v9 : Nat) (v13 : Nat) (v27 : Nat) (v28 : Nat) (v29 : Nat) (v30 : Nat) (v31 : Nat) (v32 : Nat) (v33 : Nat) (v34 : Nat) (v35 : Nat) (v36 : Nat) (v37 : Nat) (g8 : Int32) (g11 : Int32) (g12 : Int32) (g19 : Int32) (g20 : Int32) (g21 : Int32) (g23 : Int32) (g26 : Int32) (g5 : Int64) (g6 : Int64) (g25 : Int64) (ln : Nat) (cd : Nat) (tk : Int32) (kw : Int32) (ti : Nat) (ct : Nat) (fb : Nat → Int32) (fkw : Nat → Int64) (gP : Nat → Nat) (gR : Nat → Nat) (gS : Nat → Int32) (gK : Nat → Int32) (gV : Nat → Int64) (cn : Nat) (pq : Nat) (en : Nat) (dy : Nat) (fp : Nat → Int32) (sl : Nat) (o9 : Nat) (l28 : Nat → Int64) (l30 : Nat → Int64) (fc : Nat → Int32) (ml : List Int64) (pl : List Int64) (sz : Nat) (hln : ln ≤ 700) (hct : ct ≤ 701) (hti : ti < ct) (hTX : TX fb ln ct gP gR gS gV gK) (hBY : BYn ln fb) (hTK : TKR (gK ti) (gV ti) (fb (gP ti)) tk kw g19 g25) (hKW : KW 15 fkw) (hcn : cn ≤ 10) (hpq : pq ≤ 8) (hen : en ≤ 60) (hdy : dy ≤ 20000) (hri : RI cn pq en dy fp) (hcd : 2 * cd + sl ≤ gP ti) (hNM : NL ml cn l28) (hNP : NL pl pq l30) (ho : o9 + (k9 + 1) = 8) : Met l yX10_condition wsX10_condition ({ frames := 4 * (k9 + 1) + 23, cells := 0, slots := 0, locals := 80 * (k9 + 1) + 380 }) (va_Pc [.ref w0] (Wd D cA sa [(oX10 w0 v0 v1 v2 v3 v4 g5 g6 (nI ed) g8 v9 (nI nb) g11 g12 v13 (nI ln) (nI (gP ti)) (nI (gR (ti + 1))) tk kw g19 g20 g21 (nI o9) g23 (nI cd) g25 g26 v27 v28 v29 v30 v31 v32 v33 v34 v35 v36 v37 (nI ol)), (v1, .inl (cA 0, 326, .inl fp)), (v9, .inl (cA 0, 700, .inl fb)), (v13, .inl (cA 1, 15, .inr (.inl fkw))), (v28, .inl (cA 1, 10, .inr (.inl l28))), (v30, .inl (cA 1, 8, .inr (.inl l30))), (v32, .inl (cA 0, 400, .inl fc))] sz)) (va_Qi (fun (r : Int32) (u9 : Int32) => u9 = r ∧ (r = 0 ∨ r = 1)) (fun (u9 : Int32) t => ∃ tj : Nat, ∃ z17 : Int32, ∃ z18 : Int32, ∃ z19 : Int32, ∃ z20 : Int32, ∃ z21 : Int32, ∃ z26 : Int32, ∃ z25 : Int64, ∃ cd2 : Nat, ∃ pq2 : Nat, ∃ zop : Int32, ∃ zp : Nat → Int32, ∃ zc : Nat → Int32, ∃ zl : Nat → Int64, ∃ zpl : List Int64, tj < ct ∧ gP tj ≤ ln ∧ ti ≤ tj ∧ TKR (gK tj) (gV tj) (fb (gP tj)) z17 z18 z19 z25 ∧ pq2 ≤ 8 ∧ RI cn pq2 en dy zp ∧ NL zpl pq2 zl ∧ (u9 = 1 → zop = (nI o9)) ∧ (u9 = 1 → z20 = g20) ∧ (u9 = 1 → z21 = g21) ∧ (u9 = 1 → ti + 1 ≤ tj) ∧ (u9 = 1 → cd ≤ cd2) ∧ (u9 = 1 → 2 * cd2 + sl ≤ gP tj) ∧ (u9 = 1 → Kp cd fc zc) ∧ (u9 = 1 → Sg cd cd2 zc) ∧ (u9 = 1 → PRx gK gS gV ml 3 o9 ti pl (.inr (tj, zpl))) ∧ (u9 = 0 → PRx gK gS gV ml 3 o9 ti pl (.inl (z20, z21))) ∧ Wq D (va_A [(oX10 w0 v0 v1 v2 v3 v4 g5 g6 (nI ed) g8 v9 (nI nb) g11 g12 v13 (nI ln) (nI (gP ti)) (nI (gR (ti + 1))) tk kw g19 g20 g21 (nI o9) g23 (nI cd) g25 g26 v27 v28 v29 v30 v31 v32 v33 v34 v35 v36 v37 (nI ol)), (v1, .inl (cA 0, 326, .inl fp)), (v9, .inl (cA 0, 700, .inl fb)), (v13, .inl (cA 1, 15, .inr (.inl fkw))), (v28, .inl (cA 1, 10, .inr (.inl l28))), (v30, .inl (cA 1, 8, .inr (.inl l30))), (v32, .inl (cA 0, 400, .inl fc))] sz) [(oX10 w0 v0 v1 v2 v3 v4 g5 g6 (nI ed) g8 v9 (nI nb) g11 g12 v13 (nI ln) (nI (gP tj)) (nI (gR (tj + 1))) z17 z18 z19 z20 z21 zop g23 (nI cd2) z25 z26 v27 v28 v29 v30 v31 v32 v33 v34 v35 v36 v37 (nI ol)), (v1, .inl (cA 0, 326, .inl zp)), (v9, .inl (cA 0, 700, .inl fb)), (v13, .inl (cA 1, 15, .inr (.inl fkw))), (v28, .inl (cA 1, 10, .inr (.inl l28))), (v30, .inl (cA 1, 8, .inr (.inl zl))), (v32, .inl (cA 0, 400, .inl zc))] t) (va_A [(oX10 w0 v0 v1 v2 v3 v4 g5 g6 (nI ed) g8 v9 (nI nb) g11 g12 v13 (nI ln) (nI (gP ti)) (nI (gR (ti + 1))) tk kw g19 g20 g21 (nI o9) g23 (nI cd) g25 g26 v27 v28 v29 v30 v31 v32 v33 v34 v35 v36 v37 (nI ol)), (v1, .inl (cA 0, 326, .inl fp)), (v9, .inl (cA 0, 700, .inl fb)), (v13, .inl (cA 1, 15, .inr (.inl fkw))), (v28, .inl (cA 1, 10, .inr (.inl l28))), (v30, .inl (cA 1, 8, .inr (.inl l30))), (v32, .inl (cA 0, 400, .inl fc))] sz)) 0 0 (va_A [(oX10 w0 v0 v1 v2 v3 v4 g5 g6 (nI ed) g8 v9 (nI nb) g11 g12 v13 (nI ln) (nI (gP ti)) (nI (gR (ti + 1))) tk kw g19 g20 g21 (nI o9) g23 (nI cd) g25 g26 v27 v28 v29 v30 v31 v32 v33 v34 v35 v36 v37 (nI ol)), (v1, .inl (cA 0, 326, .inl fp)), (v9, .inl (cA 0, 700, .inl fb)), (v13, .inl (cA 1, 15, .inr (.inl fkw))), (v28, .inl (cA 1, 10, .inr (.inl l28))), (v30, .inl (cA 1, 8, .inr (.inl l30))), (v32, .inl (cA 0, 400, .inl fc))] sz) := by
  refine Met.ofW (cc := cX10_condition) (maxL := 1) (ret := (some .boolean)) (by decide) rfl ?_
  intro p e s m args below meth c s₁ B hml hv
  obtain ⟨rfl, hsz, hP, hK, hD0, hC, hZ⟩ := hv
  have hx := B.exec
  have hb := B.bytes
  have hr := B.returns
  have hts := atoms_spec (ws := wsX10_condition) B.pre
  have hown : s.vm.findClass RX10 = some m.cls := findClass_of_methodNamed B.named
  have hlocks := B.notSynchronized
  subst hsz
  have hD := hD0.self (sz := s.heap.size)
  generalize hAe : va_A [(oX10 w0 v0 v1 v2 v3 v4 g5 g6 (nI ed) g8 v9 (nI nb) g11 g12 v13 (nI ln) (nI (gP ti)) (nI (gR (ti + 1))) tk kw g19 g20 g21 (nI o9) g23 (nI cd) g25 g26 v27 v28 v29 v30 v31 v32 v33 v34 v35 v36 v37 (nI ol)), (v1, .inl (cA 0, 326, .inl fp)), (v9, .inl (cA 0, 700, .inl fb)), (v13, .inl (cA 1, 15, .inr (.inl fkw))), (v28, .inl (cA 1, 10, .inr (.inl l28))), (v30, .inl (cA 1, 8, .inr (.inl l30))), (v32, .inl (cA 0, 400, .inl fc))] s.heap.size = A at hD hZ ⊢
  have hA : ∀ q : Nat, s.heap.size ≤ q → A q := fun q h => by rw [← hAe]; exact Or.inr h
  have hS : va_S A s.heap s.heap [] := va_S.rf
  have hP : va_P D vwCl [(oX10 w0 v0 v1 v2 v3 v4 g5 g6 (nI ed) g8 v9 (nI nb) g11 g12 v13 (nI ln) (nI (gP ti)) (nI (gR (ti + 1))) tk kw g19 g20 g21 (nI o9) g23 (nI cd) g25 g26 v27 v28 v29 v30 v31 v32 v33 v34 v35 v36 v37 (nI ol)), (v1, .inl (cA 0, 326, .inl fp)), (v9, .inl (cA 0, 700, .inl fb)), (v13, .inl (cA 1, 15, .inr (.inl fkw))), (v28, .inl (cA 1, 10, .inr (.inl l28))), (v30, .inl (cA 1, 8, .inr (.inl l30))), (v32, .inl (cA 0, 400, .inl fc))] s.heap := hP
  have hl := lv_entry ([.ref w0]) (n := 1) (Nat.le_of_ble_eq_true rfl)
  rw [lg_entry_eq]
  generalize (lg_sl ([.ref w0]) ++ List.replicate (1 - (lg_sl ([.ref w0])).length) Slot.unset).toArray = ls at hl ⊢
  have hl : lv_has ls 1 [(0, .ref w0)] := hl
  have hle9 := TX.le hTX hti
  refine lv_aload_n hx hb dX10_condition_0 rfl (lv_at hl 0 rfl) ?_
  obtain ⟨hPc, hDc, hFc⟩ := PDq.cut (wc := [(oX10 w0 v0 v1 v2 v3 v4 g5 g6 (nI ed) g8 v9 (nI nb) g11 g12 v13 (nI ln) (nI (gP ti)) (nI (gR (ti + 1))) tk kw g19 g20 g21 (nI o9) g23 (nI cd) g25 g26 v27 v28 v29 v30 v31 v32 v33 v34 v35 v36 v37 (nI ol)), (v1, .inl (cA 0, 326, .inl fp)), (v9, .inl (cA 0, 700, .inl fb)), (v13, .inl (cA 1, 15, .inr (.inl fkw))), (v28, .inl (cA 1, 10, .inr (.inl l28))), (v30, .inl (cA 1, 8, .inr (.inl l30))), (v32, .inl (cA 0, 400, .inl fc))]) hP hD hS hA [0, 1, 2, 3, 4, 5, 6] (by decide) rfl
  refine va_calli (va_runV (As := []) (rest := []) ⟨hx, hb, hml, hown, hts⟩ (y_both_S l D cA sa k9 IHf IHc w0 ed nb ol v0 v1 v2 v3 v4 v9 v13 v27 v28 v29 v30 v31 v32 v33 v34 v35 v36 v37 g8 g11 g12 g19 g20 g21 g23 g26 g5 g6 g25 ln cd tk kw ti ct fb fkw gP gR gS gK gV cn pq en dy fp sl o9 l28 l30 fc ml pl s.heap.size hln hct hti hTX hBY hTK hKW hcn hpq hen hdy hri hcd hNM hNP ho) (cwV 0 hts gX10_condition_X10_both rfl rfl rfl (by decide +kernel) ⟨by show (4 * (k9 + 1) + 22) + 1 ≤ 4 * (k9 + 1) + 23; omega, by show 8 + (1 + 11) + (80 * (k9 + 1) + 360) ≤ 80 * (k9 + 1) + 380; omega⟩) ⟨Wd.blind, va_recv hK hPc (ci := 11) (q0 := 0) rfl rfl, fun U hU hW => ⟨rfl, Wd.call hPc hDc hK hC hZ hS hFc U hU hW⟩⟩ rfl rfl hl.1 rfl (lv_room (Nat.le_of_ble_eq_true rfl)) dX10_condition_1 ⟨(Nat.le_of_ble_eq_true rfl), (Nat.le_of_ble_eq_true rfl)⟩) hS (fun q _ h => hFc q h) hFc (fun rn1 u t H1 locs ht hvm hw hB hz1 hk1 hS => ?_)
  obtain ⟨qn2, zn3, zn4, zn5, zn6, zn7, zn8, zn9, qn10, qn11, zn12, fn13, fn14, fn15, zn16, hn17, hn18, hn19, hn20, hn21, hn22, hn23, hn24, hn25, hn26, hn27, hn28, hn29, hn30, hn31, hn32, hn33, hP1, hD1⟩ := hB
  rw [ht] at hP1
  obtain ⟨hP, hD⟩ := PDq.join (w := [(oX10 w0 v0 v1 v2 v3 v4 g5 g6 (nI ed) g8 v9 (nI nb) g11 g12 v13 (nI ln) (nI (gP qn2)) (nI (gR (qn2 + 1))) zn3 zn4 zn5 zn6 zn7 zn12 g23 (nI qn10) zn9 zn8 v27 v28 v29 v30 v31 v32 v33 v34 v35 v36 v37 (nI ol)), (v1, .inl (cA 0, 326, .inl fn13)), (v9, .inl (cA 0, 700, .inl fb)), (v13, .inl (cA 1, 15, .inr (.inl fkw))), (v28, .inl (cA 1, 10, .inr (.inl l28))), (v30, .inl (cA 1, 8, .inr (.inl fn15))), (v32, .inl (cA 0, 400, .inl fn14))]) 0 hP hD [0, 1, 2, 3, 4, 5, 6] [] rfl rfl (by decide) (by decide) hk1 hFc hP1 hD1 rfl
  generalize H1 = H at hP hS ⊢
  rcases hw.2 with hr9 | hr9
  · skip
    have hn33 := hn33 (hw.1.trans hr9)
    subst hr9
    refine lv_if_ne (tgt := 9) hx hb dX10_condition_4 (by decide) (fun c9 => absurd c9 (by decide)) (fun c34 => ?_)
    refine lv_iconst (v := 0) hx hb dX10_condition_7 (by decide) ?_
    obtain ⟨hP9, hD9⟩ := PDq.sub (ws' := [(oX10 w0 v0 v1 v2 v3 v4 g5 g6 (nI ed) g8 v9 (nI nb) g11 g12 v13 (nI ln) (nI (gP qn2)) (nI (gR (qn2 + 1))) zn3 zn4 zn5 zn6 zn7 zn12 g23 (nI qn10) zn9 zn8 v27 v28 v29 v30 v31 v32 v33 v34 v35 v36 v37 (nI ol)), (v1, .inl (cA 0, 326, .inl fn13)), (v9, .inl (cA 0, 700, .inl fb)), (v13, .inl (cA 1, 15, .inr (.inl fkw))), (v28, .inl (cA 1, 10, .inr (.inl l28))), (v30, .inl (cA 1, 8, .inr (.inl fn15))), (v32, .inl (cA 0, 400, .inl fn14))]) hP hD [0, 1, 2, 3, 4, 5, 6] (by decide) rfl
    refine W.widen (k := 0) (n := 0) (Nat.le_of_ble_eq_true rfl) (Nat.le_of_ble_eq_true rfl) ?_
    exact (W.zret (v := 0) hx hb hr (by first | rfl | decide) (fun t ht hW => ⟨⟨0, 0, rfl, ⟨rfl, by decide⟩, qn2, zn3, zn4, zn5, zn6, zn7, zn8, zn9, qn10, qn11, zn12, fn13, fn14, fn15, zn16, hn17, hn18, hn19, hn20, hn21, hn22, hn23, (fun h9 => absurd h9 (by decide)), (fun h9 => absurd h9 (by decide)), (fun h9 => absurd h9 (by decide)), (fun h9 => absurd h9 (by decide)), (fun h9 => absurd h9 (by decide)), (fun h9 => absurd h9 (by decide)), (fun h9 => absurd h9 (by decide)), (fun h9 => absurd h9 (by decide)), (fun h9 => absurd h9 (by decide)), (fun _ => (P_condE hn33)), by rw [ht]; exact hP9, hD9⟩, hS.F ht⟩) hS.2.2 dX10_condition_8)
  · skip
    have hn24 := hn24 (hw.1.trans hr9)
    subst hn24
    obtain ⟨hP, hD⟩ : PDq D A [(oX10 w0 v0 v1 v2 v3 v4 g5 g6 (nI ed) g8 v9 (nI nb) g11 g12 v13 (nI ln) (nI (gP qn2)) (nI (gR (qn2 + 1))) zn3 zn4 zn5 zn6 zn7 (nI o9) g23 (nI qn10) zn9 zn8 v27 v28 v29 v30 v31 v32 v33 v34 v35 v36 v37 (nI ol)), (v1, .inl (cA 0, 326, .inl fn13)), (v9, .inl (cA 0, 700, .inl fb)), (v13, .inl (cA 1, 15, .inr (.inl fkw))), (v28, .inl (cA 1, 10, .inr (.inl l28))), (v30, .inl (cA 1, 8, .inr (.inl fn15))), (v32, .inl (cA 0, 400, .inl fn14))] H := ⟨hP, hD⟩
    have hn25 := hn25 (hw.1.trans hr9)
    obtain rfl : g20 = zn6 := hn25.symm
    obtain ⟨hP, hD⟩ : PDq D A [(oX10 w0 v0 v1 v2 v3 v4 g5 g6 (nI ed) g8 v9 (nI nb) g11 g12 v13 (nI ln) (nI (gP qn2)) (nI (gR (qn2 + 1))) zn3 zn4 zn5 g20 zn7 (nI o9) g23 (nI qn10) zn9 zn8 v27 v28 v29 v30 v31 v32 v33 v34 v35 v36 v37 (nI ol)), (v1, .inl (cA 0, 326, .inl fn13)), (v9, .inl (cA 0, 700, .inl fb)), (v13, .inl (cA 1, 15, .inr (.inl fkw))), (v28, .inl (cA 1, 10, .inr (.inl l28))), (v30, .inl (cA 1, 8, .inr (.inl fn15))), (v32, .inl (cA 0, 400, .inl fn14))] H := ⟨hP, hD⟩
    have hn26 := hn26 (hw.1.trans hr9)
    obtain rfl : g21 = zn7 := hn26.symm
    obtain ⟨hP, hD⟩ : PDq D A [(oX10 w0 v0 v1 v2 v3 v4 g5 g6 (nI ed) g8 v9 (nI nb) g11 g12 v13 (nI ln) (nI (gP qn2)) (nI (gR (qn2 + 1))) zn3 zn4 zn5 g20 g21 (nI o9) g23 (nI qn10) zn9 zn8 v27 v28 v29 v30 v31 v32 v33 v34 v35 v36 v37 (nI ol)), (v1, .inl (cA 0, 326, .inl fn13)), (v9, .inl (cA 0, 700, .inl fb)), (v13, .inl (cA 1, 15, .inr (.inl fkw))), (v28, .inl (cA 1, 10, .inr (.inl l28))), (v30, .inl (cA 1, 8, .inr (.inl fn15))), (v32, .inl (cA 0, 400, .inl fn14))] H := ⟨hP, hD⟩
    have hn27 := hn27 (hw.1.trans hr9)
    have hn28 := hn28 (hw.1.trans hr9)
    have hn29 := hn29 (hw.1.trans hr9)
    have hn30 := hn30 (hw.1.trans hr9)
    have hn31 := hn31 (hw.1.trans hr9)
    have hn32 := hn32 (hw.1.trans hr9)
    subst hr9
    refine lv_if_ne (tgt := 9) hx hb dX10_condition_4 (by decide) (fun c35 => ?_) (fun c9 => absurd c9 (by decide))
    have loop1 : ∀ (n1 i1 : Nat) (tii : Nat) (qi : Nat) (pli : List Int64) (u0_17_1 : Int32) (u0_18_1 : Int32) (u0_19_1 : Int32) (cdi : Nat) (u0_25_1 : Int64) (u0_26_1 : Int32) (f1_1 : Nat → Int32) (f5_1 : Nat → Int64) (f6_1 : Nat → Int32) (H : Heap) (locs : List Loc) (ls : Array Slot), i1 + n1 = 701 → i1 ≤ tii → tii < ct → gP tii ≤ ln → TKR (gK tii) (gV tii) (fb (gP tii)) u0_17_1 u0_18_1 u0_19_1 u0_25_1 → ti + 1 ≤ tii → cd ≤ cdi → 2 * cdi + sl ≤ gP tii → qi ≤ 8 → RI cn qi en dy f1_1 → NL pli qi f5_1 → Kp cd fc f6_1 → Sg cd cdi f6_1 → Cn gK gS gV ml 3 o9 ti pl 4 tii pli → va_P D vwCl [(oX10 w0 v0 v1 v2 v3 v4 g5 g6 (nI ed) g8 v9 (nI nb) g11 g12 v13 (nI ln) (nI (gP tii)) (nI (gR (tii + 1))) u0_17_1 u0_18_1 u0_19_1 g20 g21 (nI o9) g23 (nI cdi) u0_25_1 u0_26_1 v27 v28 v29 v30 v31 v32 v33 v34 v35 v36 v37 (nI ol)), (v1, .inl (cA 0, 326, .inl f1_1)), (v9, .inl (cA 0, 700, .inl fb)), (v13, .inl (cA 1, 15, .inr (.inl fkw))), (v28, .inl (cA 1, 10, .inr (.inl l28))), (v30, .inl (cA 1, 8, .inr (.inl f5_1))), (v32, .inl (cA 0, 400, .inl f6_1))] H → va_D A [(oX10 w0 v0 v1 v2 v3 v4 g5 g6 (nI ed) g8 v9 (nI nb) g11 g12 v13 (nI ln) (nI (gP tii)) (nI (gR (tii + 1))) u0_17_1 u0_18_1 u0_19_1 g20 g21 (nI o9) g23 (nI cdi) u0_25_1 u0_26_1 v27 v28 v29 v30 v31 v32 v33 v34 v35 v36 v37 (nI ol)), (v1, .inl (cA 0, 326, .inl f1_1)), (v9, .inl (cA 0, 700, .inl fb)), (v13, .inl (cA 1, 15, .inr (.inl fkw))), (v28, .inl (cA 1, 10, .inr (.inl l28))), (v30, .inl (cA 1, 8, .inr (.inl f5_1))), (v32, .inl (cA 0, 400, .inl f6_1))] → va_S A s.heap H locs → lv_has ls 1 [(0, .ref w0)] → W p l e (headSpec wsX10_condition ({ frames := 4 * (k9 + 1) + 23, cells := 0, slots := 0, locals := 80 * (k9 + 1) + 380 } : Room)).room s m ([.ref w0] : List Value).toArray below meth c H locs 0 0 (MQ below (va_Qi (fun (r : Int32) (u9 : Int32) => u9 = r ∧ (r = 0 ∨ r = 1)) (fun (u9 : Int32) t => ∃ tj : Nat, ∃ z17 : Int32, ∃ z18 : Int32, ∃ z19 : Int32, ∃ z20 : Int32, ∃ z21 : Int32, ∃ z26 : Int32, ∃ z25 : Int64, ∃ cd2 : Nat, ∃ pq2 : Nat, ∃ zop : Int32, ∃ zp : Nat → Int32, ∃ zc : Nat → Int32, ∃ zl : Nat → Int64, ∃ zpl : List Int64, tj < ct ∧ gP tj ≤ ln ∧ ti ≤ tj ∧ TKR (gK tj) (gV tj) (fb (gP tj)) z17 z18 z19 z25 ∧ pq2 ≤ 8 ∧ RI cn pq2 en dy zp ∧ NL zpl pq2 zl ∧ (u9 = 1 → zop = (nI o9)) ∧ (u9 = 1 → z20 = g20) ∧ (u9 = 1 → z21 = g21) ∧ (u9 = 1 → ti + 1 ≤ tj) ∧ (u9 = 1 → cd ≤ cd2) ∧ (u9 = 1 → 2 * cd2 + sl ≤ gP tj) ∧ (u9 = 1 → Kp cd fc zc) ∧ (u9 = 1 → Sg cd cd2 zc) ∧ (u9 = 1 → PRx gK gS gV ml 3 o9 ti pl (.inr (tj, zpl))) ∧ (u9 = 0 → PRx gK gS gV ml 3 o9 ti pl (.inl (z20, z21))) ∧ Wq D A [(oX10 w0 v0 v1 v2 v3 v4 g5 g6 (nI ed) g8 v9 (nI nb) g11 g12 v13 (nI ln) (nI (gP tj)) (nI (gR (tj + 1))) z17 z18 z19 z20 z21 zop g23 (nI cd2) z25 z26 v27 v28 v29 v30 v31 v32 v33 v34 v35 v36 v37 (nI ol)), (v1, .inl (cA 0, 326, .inl zp)), (v9, .inl (cA 0, 700, .inl fb)), (v13, .inl (cA 1, 15, .inr (.inl fkw))), (v28, .inl (cA 1, 10, .inr (.inl l28))), (v30, .inl (cA 1, 8, .inr (.inl zl))), (v32, .inl (cA 0, 400, .inl zc))] t) A) ([.ref w0] : List Value).toArray s 0 0 A) (F0 m 9 ls []) := by
      intro n1
      induction n1 with
      | zero =>
        intro i1 tii qi pli u0_17_1 u0_18_1 u0_19_1 cdi u0_25_1 u0_26_1 f1_1 f5_1 f6_1 H locs ls hi1 hv0_1 hv1_1 hv2_1 hv3_1 hv4_1 hv5_1 hv6_1 hv7_1 hv8_1 hv9_1 hv10_1 hv11_1 hv12_1 hP hD hS hl
        obtain rfl : 701 = i1 := by omega
        exact absurd hv0_1 (by omega)
      | succ n1 ih1 =>
        intro i1 tii qi pli u0_17_1 u0_18_1 u0_19_1 cdi u0_25_1 u0_26_1 f1_1 f5_1 f6_1 H locs ls hi1 hv0_1 hv1_1 hv2_1 hv3_1 hv4_1 hv5_1 hv6_1 hv7_1 hv8_1 hv9_1 hv10_1 hv11_1 hv12_1 hP hD hS hl
        refine lv_aload_n hx hb dX10_condition_9 rfl (lv_at hl 0 rfl) ?_
        refine lv_bipush (v := 6) hx hb dX10_condition_10 (by decide) ?_
        obtain ⟨hPc, hDc, hFc⟩ := PDq.cut (wc := [(oX10 w0 v0 v1 v2 v3 v4 g5 g6 (nI ed) g8 v9 (nI nb) g11 g12 v13 (nI ln) (nI (gP tii)) (nI (gR (tii + 1))) u0_17_1 u0_18_1 u0_19_1 g20 g21 (nI o9) g23 (nI cdi) u0_25_1 u0_26_1 v27 v28 v29 v30 v31 v32 v33 v34 v35 v36 v37 (nI ol))]) hP hD hS hA [0] (by decide) rfl
        refine va_calli (va_runV (As := [.int 6]) (rest := []) ⟨hx, hb, hml, hown, hts⟩ (y_kw6 l D cA sa w0 ed nb ol v0 v1 v2 v3 v4 v9 v13 v27 v28 v29 v30 v31 v32 v33 v34 v35 v36 v37 g8 g11 g12 u0_19_1 g20 g21 (nI o9) g23 u0_26_1 g5 g6 u0_25_1 ln cdi u0_17_1 u0_18_1 tii ct fb gP gR gS gK gV H.size hln hct hv1_1 hTX hBY hv3_1) (cwV 1 hts gX10_condition_X10_isKeyword rfl rfl rfl (by decide +kernel) ⟨by show (0) + 1 ≤ 4 * (k9 + 1) + 23; omega, by show 8 + (2 + 11) + (0) ≤ 80 * (k9 + 1) + 380; omega⟩) ⟨Wd.blind, va_recv hK hPc (ci := 11) (q0 := 0) rfl rfl, fun U hU hW => ⟨rfl, Wd.call hPc hDc hK hC hZ hS hFc U hU hW⟩⟩ rfl rfl hl.1 rfl (lv_room (Nat.le_of_ble_eq_true rfl)) dX10_condition_12 ⟨(Nat.le_of_ble_eq_true rfl), (Nat.le_of_ble_eq_true rfl)⟩) hS (fun q _ h => hFc q h) hFc (fun rn36 u t H1 locs ht hvm hw hB hz1 hk1 hS => ?_)
        obtain ⟨hP1, hD1⟩ := hB
        rw [ht] at hP1
        obtain ⟨hP, hD⟩ := PDq.join (w := [(v1, .inl (cA 0, 326, .inl f1_1)), (v9, .inl (cA 0, 700, .inl fb)), (v13, .inl (cA 1, 15, .inr (.inl fkw))), (v28, .inl (cA 1, 10, .inr (.inl l28))), (v30, .inl (cA 1, 8, .inr (.inl f5_1))), (v32, .inl (cA 0, 400, .inl f6_1)), (oX10 w0 v0 v1 v2 v3 v4 g5 g6 (nI ed) g8 v9 (nI nb) g11 g12 v13 (nI ln) (nI (gP tii)) (nI (gR (tii + 1))) u0_17_1 u0_18_1 u0_19_1 g20 g21 (nI o9) g23 (nI cdi) u0_25_1 u0_26_1 v27 v28 v29 v30 v31 v32 v33 v34 v35 v36 v37 (nI ol))]) 6 hP hD [0] [1, 2, 3, 4, 5, 6] rfl rfl (by decide) (by decide) hk1 hFc hP1 hD1 rfl
        generalize H1 = H at hP hS ⊢
        rcases hw with ⟨hr9, hn37⟩ | ⟨hr9, hn37⟩
        · skip
          subst hr9
          refine lv_if_eq (tgt := 42) hx hb dX10_condition_15 (by decide) (fun c9 => absurd c9 (by decide)) (fun c38 => ?_)
          refine lv_aload_n hx hb dX10_condition_18 rfl (lv_at hl 0 rfl) ?_
          have hn39 := TX.go2 hTX (show tii < ct by omega) (by rw [hn37]; decide)
          have hn39a := TX.le hTX (show tii < ct by omega)
          have hn39b := TX.le hTX hn39.1
          obtain ⟨hPc, hDc, hFc⟩ := PDq.cut (wc := [(oX10 w0 v0 v1 v2 v3 v4 g5 g6 (nI ed) g8 v9 (nI nb) g11 g12 v13 (nI ln) (nI (gP tii)) (nI (gR (tii + 1))) u0_17_1 u0_18_1 u0_19_1 g20 g21 (nI o9) g23 (nI cdi) u0_25_1 u0_26_1 v27 v28 v29 v30 v31 v32 v33 v34 v35 v36 v37 (nI ol)), (v9, .inl (cA 0, 700, .inl fb)), (v13, .inl (cA 1, 15, .inr (.inl fkw)))]) hP hD hS hA [6, 1, 2] (by decide) rfl
          refine va_calli (va_runV (As := []) (rest := []) ⟨hx, hb, hml, hown, hts⟩ (y_advance l D cA sa w0 ed nb ol v0 v1 v2 v3 v4 v9 v13 v27 v28 v29 v30 v31 v32 v33 v34 v35 v36 v37 g8 g11 g12 (nI (gP tii)) u0_17_1 u0_18_1 u0_19_1 g20 g21 (nI o9) g23 (nI cdi) u0_26_1 g5 g6 u0_25_1 ln (gR (tii + 1)) fb fkw (gP (tii + 1)) (gR ((tii + 1) + 1)) (gK (tii + 1)) (gV (tii + 1)) H.size hln (by omega) hKW hBY (TX.t hTX hn39.1)) (cwV 0 hts gX10_condition_X10_advance rfl rfl rfl (by decide +kernel) ⟨by show (1) + 1 ≤ 4 * (k9 + 1) + 23; omega, by show 8 + (2 + 11) + (23) ≤ 80 * (k9 + 1) + 380; omega⟩) ⟨Wd.blind, va_recv hK hPc (ci := 11) (q0 := 0) rfl rfl, fun U hU hW => ⟨rfl, Wd.call hPc hDc hK hC hZ hS hFc U hU hW⟩⟩ rfl rfl hl.1 rfl (lv_room (Nat.le_of_ble_eq_true rfl)) dX10_condition_19 ⟨(Nat.le_of_ble_eq_true rfl), (Nat.le_of_ble_eq_true rfl)⟩) hS (fun q _ h => hFc q h) hFc (fun rn40 u t H1 locs ht hvm hw hB hz1 hk1 hS => ?_)
          obtain ⟨zn41, zn42, zn43, zn44, hn45, hP1, hD1⟩ := hB
          rw [ht] at hP1
          obtain ⟨hP, hD⟩ := PDq.join (w := [(v1, .inl (cA 0, 326, .inl f1_1)), (v28, .inl (cA 1, 10, .inr (.inl l28))), (v30, .inl (cA 1, 8, .inr (.inl f5_1))), (v32, .inl (cA 0, 400, .inl f6_1)), (oX10 w0 v0 v1 v2 v3 v4 g5 g6 (nI ed) g8 v9 (nI nb) g11 g12 v13 (nI ln) (nI (gP (tii + 1))) (nI (gR ((tii + 1) + 1))) zn41 zn42 zn43 g20 g21 (nI o9) g23 (nI cdi) zn44 u0_26_1 v27 v28 v29 v30 v31 v32 v33 v34 v35 v36 v37 (nI ol)), (v9, .inl (cA 0, 700, .inl fb)), (v13, .inl (cA 1, 15, .inr (.inl fkw)))]) 4 hP hD [6, 1, 2] [0, 3, 4, 5] rfl rfl (by decide) (by decide) hk1 hFc hP1 hD1 rfl
          generalize H1 = H at hP hS ⊢
          obtain rfl : rn40 = 1 := hw
          refine lv_pop hx hb dX10_condition_22 rfl ?_
          refine lv_aload_n hx hb dX10_condition_23 rfl (lv_at hl 0 rfl) ?_
          obtain ⟨hPc, hDc, hFc⟩ := PDq.cut (wc := [(oX10 w0 v0 v1 v2 v3 v4 g5 g6 (nI ed) g8 v9 (nI nb) g11 g12 v13 (nI ln) (nI (gP (tii + 1))) (nI (gR ((tii + 1) + 1))) zn41 zn42 zn43 g20 g21 (nI o9) g23 (nI cdi) zn44 u0_26_1 v27 v28 v29 v30 v31 v32 v33 v34 v35 v36 v37 (nI ol)), (v1, .inl (cA 0, 326, .inl f1_1)), (v9, .inl (cA 0, 700, .inl fb)), (v13, .inl (cA 1, 15, .inr (.inl fkw))), (v28, .inl (cA 1, 10, .inr (.inl l28))), (v30, .inl (cA 1, 8, .inr (.inl f5_1))), (v32, .inl (cA 0, 400, .inl f6_1))]) hP hD hS hA [4, 0, 5, 6, 1, 2, 3] (by decide) rfl
          refine va_calli (va_runV (As := []) (rest := []) ⟨hx, hb, hml, hown, hts⟩ (y_both_S l D cA sa k9 IHf IHc w0 ed nb ol v0 v1 v2 v3 v4 v9 v13 v27 v28 v29 v30 v31 v32 v33 v34 v35 v36 v37 g8 g11 g12 zn43 g20 g21 g23 u0_26_1 g5 g6 zn44 ln cdi zn41 zn42 (tii + 1) ct fb fkw gP gR gS gK gV cn qi en dy f1_1 (sl + 2) o9 l28 f5_1 f6_1 ml pli H.size hln hct hn39.1 hTX hBY hn45 hKW hcn hv7_1 hen hdy hv8_1 (by omega) hNM hv9_1 ho) (cwV 0 hts gX10_condition_X10_both rfl rfl rfl (by decide +kernel) ⟨by show (4 * (k9 + 1) + 22) + 1 ≤ 4 * (k9 + 1) + 23; omega, by show 8 + (1 + 11) + (80 * (k9 + 1) + 360) ≤ 80 * (k9 + 1) + 380; omega⟩) ⟨Wd.blind, va_recv hK hPc (ci := 11) (q0 := 0) rfl rfl, fun U hU hW => ⟨rfl, Wd.call hPc hDc hK hC hZ hS hFc U hU hW⟩⟩ rfl rfl hl.1 rfl (lv_room (Nat.le_of_ble_eq_true rfl)) dX10_condition_24 ⟨(Nat.le_of_ble_eq_true rfl), (Nat.le_of_ble_eq_true rfl)⟩) hS (fun q _ h => hFc q h) hFc (fun rn46 u t H1 locs ht hvm hw hB hz1 hk1 hS => ?_)
          obtain ⟨qn47, zn48, zn49, zn50, zn51, zn52, zn53, zn54, qn55, qn56, zn57, fn58, fn59, fn60, zn61, hn62, hn63, hn64, hn65, hn66, hn67, hn68, hn69, hn70, hn71, hn72, hn73, hn74, hn75, hn76, hn77, hn78, hP1, hD1⟩ := hB
          rw [ht] at hP1
          obtain ⟨hP, hD⟩ := PDq.join (w := [(oX10 w0 v0 v1 v2 v3 v4 g5 g6 (nI ed) g8 v9 (nI nb) g11 g12 v13 (nI ln) (nI (gP qn47)) (nI (gR (qn47 + 1))) zn48 zn49 zn50 zn51 zn52 zn57 g23 (nI qn55) zn54 zn53 v27 v28 v29 v30 v31 v32 v33 v34 v35 v36 v37 (nI ol)), (v1, .inl (cA 0, 326, .inl fn58)), (v9, .inl (cA 0, 700, .inl fb)), (v13, .inl (cA 1, 15, .inr (.inl fkw))), (v28, .inl (cA 1, 10, .inr (.inl l28))), (v30, .inl (cA 1, 8, .inr (.inl fn60))), (v32, .inl (cA 0, 400, .inl fn59))]) 0 hP hD [4, 0, 5, 6, 1, 2, 3] [] rfl rfl (by decide) (by decide) hk1 hFc hP1 hD1 rfl
          generalize H1 = H at hP hS ⊢
          rcases hw.2 with hr9 | hr9
          · skip
            have hn78 := hn78 (hw.1.trans hr9)
            subst hr9
            refine lv_if_ne (tgt := 32) hx hb dX10_condition_27 (by decide) (fun c9 => absurd c9 (by decide)) (fun c79 => ?_)
            refine lv_iconst (v := 0) hx hb dX10_condition_30 (by decide) ?_
            obtain ⟨hP9, hD9⟩ := PDq.sub (ws' := [(oX10 w0 v0 v1 v2 v3 v4 g5 g6 (nI ed) g8 v9 (nI nb) g11 g12 v13 (nI ln) (nI (gP qn47)) (nI (gR (qn47 + 1))) zn48 zn49 zn50 zn51 zn52 zn57 g23 (nI qn55) zn54 zn53 v27 v28 v29 v30 v31 v32 v33 v34 v35 v36 v37 (nI ol)), (v1, .inl (cA 0, 326, .inl fn58)), (v9, .inl (cA 0, 700, .inl fb)), (v13, .inl (cA 1, 15, .inr (.inl fkw))), (v28, .inl (cA 1, 10, .inr (.inl l28))), (v30, .inl (cA 1, 8, .inr (.inl fn60))), (v32, .inl (cA 0, 400, .inl fn59))]) hP hD [0, 1, 2, 3, 4, 5, 6] (by decide) rfl
            refine W.widen (k := 0) (n := 0) (Nat.le_of_ble_eq_true rfl) (Nat.le_of_ble_eq_true rfl) ?_
            exact (W.zret (v := 0) hx hb hr (by first | rfl | decide) (fun t ht hW => ⟨⟨0, 0, rfl, ⟨rfl, by decide⟩, qn47, zn48, zn49, zn50, zn51, zn52, zn53, zn54, qn55, qn56, zn57, fn58, fn59, fn60, zn61, hn62, hn63, (by omega), hn65, hn66, hn67, hn68, (fun h9 => absurd h9 (by decide)), (fun h9 => absurd h9 (by decide)), (fun h9 => absurd h9 (by decide)), (fun h9 => absurd h9 (by decide)), (fun h9 => absurd h9 (by decide)), (fun h9 => absurd h9 (by decide)), (fun h9 => absurd h9 (by decide)), (fun h9 => absurd h9 (by decide)), (fun h9 => absurd h9 (by decide)), (fun _ => (hv12_1 _ (P_orE hn37 hn78))), by rw [ht]; exact hP9, hD9⟩, hS.F ht⟩) hS.2.2 dX10_condition_31)
          · skip
            have hn69 := hn69 (hw.1.trans hr9)
            subst hn69
            obtain ⟨hP, hD⟩ : PDq D A [(oX10 w0 v0 v1 v2 v3 v4 g5 g6 (nI ed) g8 v9 (nI nb) g11 g12 v13 (nI ln) (nI (gP qn47)) (nI (gR (qn47 + 1))) zn48 zn49 zn50 zn51 zn52 (nI o9) g23 (nI qn55) zn54 zn53 v27 v28 v29 v30 v31 v32 v33 v34 v35 v36 v37 (nI ol)), (v1, .inl (cA 0, 326, .inl fn58)), (v9, .inl (cA 0, 700, .inl fb)), (v13, .inl (cA 1, 15, .inr (.inl fkw))), (v28, .inl (cA 1, 10, .inr (.inl l28))), (v30, .inl (cA 1, 8, .inr (.inl fn60))), (v32, .inl (cA 0, 400, .inl fn59))] H := ⟨hP, hD⟩
            have hn70 := hn70 (hw.1.trans hr9)
            obtain rfl : g20 = zn51 := hn70.symm
            obtain ⟨hP, hD⟩ : PDq D A [(oX10 w0 v0 v1 v2 v3 v4 g5 g6 (nI ed) g8 v9 (nI nb) g11 g12 v13 (nI ln) (nI (gP qn47)) (nI (gR (qn47 + 1))) zn48 zn49 zn50 g20 zn52 (nI o9) g23 (nI qn55) zn54 zn53 v27 v28 v29 v30 v31 v32 v33 v34 v35 v36 v37 (nI ol)), (v1, .inl (cA 0, 326, .inl fn58)), (v9, .inl (cA 0, 700, .inl fb)), (v13, .inl (cA 1, 15, .inr (.inl fkw))), (v28, .inl (cA 1, 10, .inr (.inl l28))), (v30, .inl (cA 1, 8, .inr (.inl fn60))), (v32, .inl (cA 0, 400, .inl fn59))] H := ⟨hP, hD⟩
            have hn71 := hn71 (hw.1.trans hr9)
            obtain rfl : g21 = zn52 := hn71.symm
            obtain ⟨hP, hD⟩ : PDq D A [(oX10 w0 v0 v1 v2 v3 v4 g5 g6 (nI ed) g8 v9 (nI nb) g11 g12 v13 (nI ln) (nI (gP qn47)) (nI (gR (qn47 + 1))) zn48 zn49 zn50 g20 g21 (nI o9) g23 (nI qn55) zn54 zn53 v27 v28 v29 v30 v31 v32 v33 v34 v35 v36 v37 (nI ol)), (v1, .inl (cA 0, 326, .inl fn58)), (v9, .inl (cA 0, 700, .inl fb)), (v13, .inl (cA 1, 15, .inr (.inl fkw))), (v28, .inl (cA 1, 10, .inr (.inl l28))), (v30, .inl (cA 1, 8, .inr (.inl fn60))), (v32, .inl (cA 0, 400, .inl fn59))] H := ⟨hP, hD⟩
            have hn72 := hn72 (hw.1.trans hr9)
            have hn73 := hn73 (hw.1.trans hr9)
            have hn74 := hn74 (hw.1.trans hr9)
            have hn75 := hn75 (hw.1.trans hr9)
            have hn76 := hn76 (hw.1.trans hr9)
            have hn77 := hn77 (hw.1.trans hr9)
            subst hr9
            refine lv_if_ne (tgt := 32) hx hb dX10_condition_27 (by decide) (fun c80 => ?_) (fun c9 => absurd c9 (by decide))
            refine lv_aload_n hx hb dX10_condition_32 rfl (lv_at hl 0 rfl) ?_
            refine lv_bipush (v := (-2)) hx hb dX10_condition_33 (by decide) ?_
            obtain ⟨hPc, hDc, hFc⟩ := PDq.cut (wc := [(oX10 w0 v0 v1 v2 v3 v4 g5 g6 (nI ed) g8 v9 (nI nb) g11 g12 v13 (nI ln) (nI (gP qn47)) (nI (gR (qn47 + 1))) zn48 zn49 zn50 g20 g21 (nI o9) g23 (nI qn55) zn54 zn53 v27 v28 v29 v30 v31 v32 v33 v34 v35 v36 v37 (nI ol)), (v32, .inl (cA 0, 400, .inl fn59))]) hP hD hS hA [0, 6] (by decide) rfl
            refine va_calli (va_runV (As := [.int (-2)]) (rest := []) ⟨hx, hb, hml, hown, hts⟩ (r_emit l D cA sa w0 ed nb ol v0 v1 v2 v3 v4 v9 v13 v27 v28 v29 v30 v31 v32 v33 v34 v35 v36 v37 g8 g11 g12 (nI ln) (nI (gP qn47)) (nI (gR (qn47 + 1))) zn48 zn49 zn50 g20 g21 (nI o9) g23 zn53 g5 g6 zn54 qn55 (-2) fn59 H.size (by omega)) (cwV 1 hts gX10_condition_X10_emit rfl rfl rfl (by decide +kernel) ⟨by show (0) + 1 ≤ 4 * (k9 + 1) + 23; omega, by show 8 + (2 + 11) + (0) ≤ 80 * (k9 + 1) + 380; omega⟩) ⟨Wd.blind, va_recv hK hPc (ci := 11) (q0 := 0) rfl rfl, fun U hU hW => ⟨rfl, Wd.call hPc hDc hK hC hZ hS hFc U hU hW⟩⟩ rfl rfl hl.1 rfl (lv_room (Nat.le_of_ble_eq_true rfl)) dX10_condition_35 ⟨(Nat.le_of_ble_eq_true rfl), (Nat.le_of_ble_eq_true rfl)⟩) hS (fun q _ h => hFc q h) hFc (fun rn81 u t H1 locs ht hvm hw hB hz1 hk1 hS => ?_)
            obtain ⟨fn82, hn83, hP1, hD1⟩ := hB
            rw [ht] at hP1
            obtain ⟨hP, hD⟩ := PDq.join (w := [(v1, .inl (cA 0, 326, .inl fn58)), (v9, .inl (cA 0, 700, .inl fb)), (v13, .inl (cA 1, 15, .inr (.inl fkw))), (v28, .inl (cA 1, 10, .inr (.inl l28))), (v30, .inl (cA 1, 8, .inr (.inl fn60))), (oX10 w0 v0 v1 v2 v3 v4 g5 g6 (nI ed) g8 v9 (nI nb) g11 g12 v13 (nI ln) (nI (gP qn47)) (nI (gR (qn47 + 1))) zn48 zn49 zn50 g20 g21 (nI o9) g23 (nI (qn55 + 1)) zn54 zn53 v27 v28 v29 v30 v31 v32 v33 v34 v35 v36 v37 (nI ol)), (v32, .inl (cA 0, 400, .inl fn82))]) 5 hP hD [0, 6] [1, 2, 3, 4, 5] rfl rfl (by decide) (by decide) hk1 hFc hP1 hD1 rfl
            generalize H1 = H at hP hS ⊢
            obtain rfl : rn81 = 1 := hw
            refine lv_pop hx hb dX10_condition_38 rfl ?_
            have hn84 := Kp.tr (Kp.tr hv10_1 hn75 (by omega)) (Em.kp hn83) (by omega)
            have hn85 := Sg.join hv11_1 hn75 hn76 hn83 (by decide)
            refine lv_goto (tgt := 9) hx hb dX10_condition_39 (by decide) ?_
            obtain ⟨hP9, hD9⟩ := PDq.sub (ws' := [(oX10 w0 v0 v1 v2 v3 v4 g5 g6 (nI ed) g8 v9 (nI nb) g11 g12 v13 (nI ln) (nI (gP qn47)) (nI (gR (qn47 + 1))) zn48 zn49 zn50 g20 g21 (nI o9) g23 (nI (qn55 + 1)) zn54 zn53 v27 v28 v29 v30 v31 v32 v33 v34 v35 v36 v37 (nI ol)), (v1, .inl (cA 0, 326, .inl fn58)), (v9, .inl (cA 0, 700, .inl fb)), (v13, .inl (cA 1, 15, .inr (.inl fkw))), (v28, .inl (cA 1, 10, .inr (.inl l28))), (v30, .inl (cA 1, 8, .inr (.inl fn60))), (v32, .inl (cA 0, 400, .inl fn82))]) hP hD [5, 0, 1, 2, 3, 4, 6] (by decide) rfl
            exact ih1 (i1 + 1) qn47 qn56 zn61 zn48 zn49 zn50 (qn55 + 1) zn54 zn53 fn58 fn60 fn82 H _ ls (by omega) (by omega) hn62 hn63 hn65 (by omega) (by omega) (by omega) hn66 hn67 hn68 hn84 hn85 (fun r9 h9 => hv12_1 r9 (P_or hn37 hn77 h9)) hP9 hD9 hS (lv_sub hl [0] rfl)
        · skip
          subst hr9
          refine lv_if_eq (tgt := 42) hx hb dX10_condition_15 (by decide) (fun c86 => ?_) (fun c9 => absurd c9 (by decide))
          refine lv_iconst (v := 1) hx hb dX10_condition_42 (by decide) ?_
          obtain ⟨hP9, hD9⟩ := PDq.sub (ws' := [(oX10 w0 v0 v1 v2 v3 v4 g5 g6 (nI ed) g8 v9 (nI nb) g11 g12 v13 (nI ln) (nI (gP tii)) (nI (gR (tii + 1))) u0_17_1 u0_18_1 u0_19_1 g20 g21 (nI o9) g23 (nI cdi) u0_25_1 u0_26_1 v27 v28 v29 v30 v31 v32 v33 v34 v35 v36 v37 (nI ol)), (v1, .inl (cA 0, 326, .inl f1_1)), (v9, .inl (cA 0, 700, .inl fb)), (v13, .inl (cA 1, 15, .inr (.inl fkw))), (v28, .inl (cA 1, 10, .inr (.inl l28))), (v30, .inl (cA 1, 8, .inr (.inl f5_1))), (v32, .inl (cA 0, 400, .inl f6_1))]) hP hD [6, 0, 1, 2, 3, 4, 5] (by decide) rfl
          refine W.widen (k := 0) (n := 0) (Nat.le_of_ble_eq_true rfl) (Nat.le_of_ble_eq_true rfl) ?_
          exact (W.zret (v := 1) hx hb hr (by first | rfl | decide) (fun t ht hW => ⟨⟨1, 1, rfl, ⟨rfl, by decide⟩, tii, u0_17_1, u0_18_1, u0_19_1, g20, g21, u0_26_1, u0_25_1, cdi, qi, (nI o9), f1_1, f6_1, f5_1, pli, hv1_1, hv2_1, (by omega), hv3_1, hv7_1, hv8_1, hv9_1, (fun _ => rfl), (fun _ => rfl), (fun _ => rfl), (fun _ => hv4_1), (fun _ => hv5_1), (fun _ => hv6_1), (fun _ => hv10_1), (fun _ => hv11_1), (fun _ => (hv12_1 _ (P_end4 hn37))), (fun h9 => absurd h9 (by decide)), by rw [ht]; exact hP9, hD9⟩, hS.F ht⟩) hS.2.2 dX10_condition_43)
    obtain ⟨hP9, hD9⟩ := PDq.sub (ws' := [(oX10 w0 v0 v1 v2 v3 v4 g5 g6 (nI ed) g8 v9 (nI nb) g11 g12 v13 (nI ln) (nI (gP qn2)) (nI (gR (qn2 + 1))) zn3 zn4 zn5 g20 g21 (nI o9) g23 (nI qn10) zn9 zn8 v27 v28 v29 v30 v31 v32 v33 v34 v35 v36 v37 (nI ol)), (v1, .inl (cA 0, 326, .inl fn13)), (v9, .inl (cA 0, 700, .inl fb)), (v13, .inl (cA 1, 15, .inr (.inl fkw))), (v28, .inl (cA 1, 10, .inr (.inl l28))), (v30, .inl (cA 1, 8, .inr (.inl fn15))), (v32, .inl (cA 0, 400, .inl fn14))]) hP hD [0, 1, 2, 3, 4, 5, 6] (by decide) rfl
    exact loop1 (701 - 0) 0 qn2 qn11 zn16 zn3 zn4 zn5 qn10 zn9 zn8 fn13 fn15 fn14 _ _ ls (by omega) (by omega) hn17 hn18 hn20 hn27 hn28 hn29 hn21 hn22 hn23 hn30 hn31 (fun r9 h9 => P_cond hn32 h9) hP9 hD9 hS (lv_sub hl [0] rfl)

set_option maxRecDepth 20000 in
theorem y_lv (l : Launch) (D : va_G) (cA : Nat → ClassId) (sa : Nat → Nat) : ∀ k9 : Nat, YFactC l D cA sa k9 ∧ YCondC l D cA sa k9 := by
  intro k9
  induction k9 with
  | zero => exact ⟨(fun w0 ed nb ol v0 v1 v2 v3 v4 v9 v13 v27 v28 v29 v30 v31 v32 v33 v34 v35 v36 v37 g8 g11 g12 g19 g20 g21 g23 g26 g5 g6 g25 ln cd tk kw ti ct fb fkw gP gR gS gK gV cn pq en dy fp sl o9 l28 l30 fc ml pl sz hln hct hti hTX hBY hTK hKW hcn hpq hen hdy hri hcd hNM hNP ho => y_fact_B l D cA sa w0 ed nb ol v0 v1 v2 v3 v4 v9 v13 v27 v28 v29 v30 v31 v32 v33 v34 v35 v36 v37 g8 g11 g12 g19 g20 g21 g23 g26 g5 g6 g25 ln cd tk kw ti ct fb fkw gP gR gS gK gV cn pq en dy fp sl o9 l28 l30 fc ml pl sz hln hct hti hTX hBY hTK hKW hcn hpq hen hdy hri hcd hNM hNP (by omega)), (fun w0 ed nb ol v0 v1 v2 v3 v4 v9 v13 v27 v28 v29 v30 v31 v32 v33 v34 v35 v36 v37 g8 g11 g12 g19 g20 g21 g23 g26 g5 g6 g25 ln cd tk kw ti ct fb fkw gP gR gS gK gV cn pq en dy fp sl o9 l28 l30 fc ml pl sz hln hct hti hTX hBY hTK hKW hcn hpq hen hdy hri hcd hNM hNP ho => y_condition_B l D cA sa w0 ed nb ol v0 v1 v2 v3 v4 v9 v13 v27 v28 v29 v30 v31 v32 v33 v34 v35 v36 v37 g8 g11 g12 g19 g20 g21 g23 g26 g5 g6 g25 ln cd tk kw ti ct fb fkw gP gR gS gK gV cn pq en dy fp sl o9 l28 l30 fc ml pl sz hln hct hti hTX hBY hTK hKW hcn hpq hen hdy hri hcd hNM hNP (by omega))⟩
  | succ k9 ih => exact ⟨(fun w0 ed nb ol v0 v1 v2 v3 v4 v9 v13 v27 v28 v29 v30 v31 v32 v33 v34 v35 v36 v37 g8 g11 g12 g19 g20 g21 g23 g26 g5 g6 g25 ln cd tk kw ti ct fb fkw gP gR gS gK gV cn pq en dy fp sl o9 l28 l30 fc ml pl sz hln hct hti hTX hBY hTK hKW hcn hpq hen hdy hri hcd hNM hNP ho => y_fact_S l D cA sa k9 ih.1 ih.2 w0 ed nb ol v0 v1 v2 v3 v4 v9 v13 v27 v28 v29 v30 v31 v32 v33 v34 v35 v36 v37 g8 g11 g12 g19 g20 g21 g23 g26 g5 g6 g25 ln cd tk kw ti ct fb fkw gP gR gS gK gV cn pq en dy fp sl o9 l28 l30 fc ml pl sz hln hct hti hTX hBY hTK hKW hcn hpq hen hdy hri hcd hNM hNP ho), (fun w0 ed nb ol v0 v1 v2 v3 v4 v9 v13 v27 v28 v29 v30 v31 v32 v33 v34 v35 v36 v37 g8 g11 g12 g19 g20 g21 g23 g26 g5 g6 g25 ln cd tk kw ti ct fb fkw gP gR gS gK gV cn pq en dy fp sl o9 l28 l30 fc ml pl sz hln hct hti hTX hBY hTK hKW hcn hpq hen hdy hri hcd hNM hNP ho => y_condition_S l D cA sa k9 ih.1 ih.2 w0 ed nb ol v0 v1 v2 v3 v4 v9 v13 v27 v28 v29 v30 v31 v32 v33 v34 v35 v36 v37 g8 g11 g12 g19 g20 g21 g23 g26 g5 g6 g25 ln cd tk kw ti ct fb fkw gP gR gS gK gV cn pq en dy fp sl o9 l28 l30 fc ml pl sz hln hct hti hTX hBY hTK hKW hcn hpq hen hdy hri hcd hNM hNP ho)⟩

theorem y_condition_0 (l : Launch) (D : va_G) (cA : Nat → ClassId) (sa : Nat → Nat) (w0 : Nat) (ed : Nat) (nb : Nat) (ol : Nat) (v0 : Nat) (v1 : Nat) (v2 : Nat) (v3 : Nat) (v4 : Nat) (v9 : Nat) (v13 : Nat) (v27 : Nat) (v28 : Nat) (v29 : Nat) (v30 : Nat) (v31 : Nat) (v32 : Nat) (v33 : Nat) (v34 : Nat) (v35 : Nat) (v36 : Nat) (v37 : Nat) (g8 : Int32) (g11 : Int32) (g12 : Int32) (g19 : Int32) (g20 : Int32) (g21 : Int32) (g23 : Int32) (g26 : Int32) (g5 : Int64) (g6 : Int64) (g25 : Int64) (ln : Nat) (cd : Nat) (tk : Int32) (kw : Int32) (ti : Nat) (ct : Nat) (fb : Nat → Int32) (fkw : Nat → Int64) (gP : Nat → Nat) (gR : Nat → Nat) (gS : Nat → Int32) (gK : Nat → Int32) (gV : Nat → Int64) (cn : Nat) (pq : Nat) (en : Nat) (dy : Nat) (fp : Nat → Int32) (sl : Nat)  (l28 : Nat → Int64) (l30 : Nat → Int64) (fc : Nat → Int32) (ml : List Int64) (pl : List Int64) (sz : Nat) (hln : ln ≤ 700) (hct : ct ≤ 701) (hti : ti < ct) (hTX : TX fb ln ct gP gR gS gV gK) (hBY : BYn ln fb) (hTK : TKR (gK ti) (gV ti) (fb (gP ti)) tk kw g19 g25) (hKW : KW 15 fkw) (hcn : cn ≤ 10) (hpq : pq ≤ 8) (hen : en ≤ 60) (hdy : dy ≤ 20000) (hri : RI cn pq en dy fp) (hcd : 2 * cd + sl ≤ gP ti) (hNM : NL ml cn l28) (hNP : NL pl pq l30) : Met l yX10_condition wsX10_condition ({ frames := 55, cells := 0, slots := 0, locals := 1020 }) (va_Pc [.ref w0] (Wd D cA sa [(oX10 w0 v0 v1 v2 v3 v4 g5 g6 (nI ed) g8 v9 (nI nb) g11 g12 v13 (nI ln) (nI (gP ti)) (nI (gR (ti + 1))) tk kw g19 g20 g21 0 g23 (nI cd) g25 g26 v27 v28 v29 v30 v31 v32 v33 v34 v35 v36 v37 (nI ol)), (v1, .inl (cA 0, 326, .inl fp)), (v9, .inl (cA 0, 700, .inl fb)), (v13, .inl (cA 1, 15, .inr (.inl fkw))), (v28, .inl (cA 1, 10, .inr (.inl l28))), (v30, .inl (cA 1, 8, .inr (.inl l30))), (v32, .inl (cA 0, 400, .inl fc))] sz)) (va_Qi (fun (r : Int32) (u9 : Int32) => u9 = r ∧ (r = 0 ∨ r = 1)) (fun (u9 : Int32) t => ∃ tj : Nat, ∃ z17 : Int32, ∃ z18 : Int32, ∃ z19 : Int32, ∃ z20 : Int32, ∃ z21 : Int32, ∃ z26 : Int32, ∃ z25 : Int64, ∃ cd2 : Nat, ∃ pq2 : Nat, ∃ zop : Int32, ∃ zp : Nat → Int32, ∃ zc : Nat → Int32, ∃ zl : Nat → Int64, ∃ zpl : List Int64, tj < ct ∧ gP tj ≤ ln ∧ ti ≤ tj ∧ TKR (gK tj) (gV tj) (fb (gP tj)) z17 z18 z19 z25 ∧ pq2 ≤ 8 ∧ RI cn pq2 en dy zp ∧ NL zpl pq2 zl ∧ (u9 = 1 → zop = 0) ∧ (u9 = 1 → z20 = g20) ∧ (u9 = 1 → z21 = g21) ∧ (u9 = 1 → ti + 1 ≤ tj) ∧ (u9 = 1 → cd ≤ cd2) ∧ (u9 = 1 → 2 * cd2 + sl ≤ gP tj) ∧ (u9 = 1 → Kp cd fc zc) ∧ (u9 = 1 → Sg cd cd2 zc) ∧ (u9 = 1 → PRx gK gS gV ml 3 0 ti pl (.inr (tj, zpl))) ∧ (u9 = 0 → PRx gK gS gV ml 3 0 ti pl (.inl (z20, z21))) ∧ Wq D (va_A [(oX10 w0 v0 v1 v2 v3 v4 g5 g6 (nI ed) g8 v9 (nI nb) g11 g12 v13 (nI ln) (nI (gP ti)) (nI (gR (ti + 1))) tk kw g19 g20 g21 0 g23 (nI cd) g25 g26 v27 v28 v29 v30 v31 v32 v33 v34 v35 v36 v37 (nI ol)), (v1, .inl (cA 0, 326, .inl fp)), (v9, .inl (cA 0, 700, .inl fb)), (v13, .inl (cA 1, 15, .inr (.inl fkw))), (v28, .inl (cA 1, 10, .inr (.inl l28))), (v30, .inl (cA 1, 8, .inr (.inl l30))), (v32, .inl (cA 0, 400, .inl fc))] sz) [(oX10 w0 v0 v1 v2 v3 v4 g5 g6 (nI ed) g8 v9 (nI nb) g11 g12 v13 (nI ln) (nI (gP tj)) (nI (gR (tj + 1))) z17 z18 z19 z20 z21 zop g23 (nI cd2) z25 z26 v27 v28 v29 v30 v31 v32 v33 v34 v35 v36 v37 (nI ol)), (v1, .inl (cA 0, 326, .inl zp)), (v9, .inl (cA 0, 700, .inl fb)), (v13, .inl (cA 1, 15, .inr (.inl fkw))), (v28, .inl (cA 1, 10, .inr (.inl l28))), (v30, .inl (cA 1, 8, .inr (.inl zl))), (v32, .inl (cA 0, 400, .inl zc))] t) (va_A [(oX10 w0 v0 v1 v2 v3 v4 g5 g6 (nI ed) g8 v9 (nI nb) g11 g12 v13 (nI ln) (nI (gP ti)) (nI (gR (ti + 1))) tk kw g19 g20 g21 0 g23 (nI cd) g25 g26 v27 v28 v29 v30 v31 v32 v33 v34 v35 v36 v37 (nI ol)), (v1, .inl (cA 0, 326, .inl fp)), (v9, .inl (cA 0, 700, .inl fb)), (v13, .inl (cA 1, 15, .inr (.inl fkw))), (v28, .inl (cA 1, 10, .inr (.inl l28))), (v30, .inl (cA 1, 8, .inr (.inl l30))), (v32, .inl (cA 0, 400, .inl fc))] sz)) 0 0 (va_A [(oX10 w0 v0 v1 v2 v3 v4 g5 g6 (nI ed) g8 v9 (nI nb) g11 g12 v13 (nI ln) (nI (gP ti)) (nI (gR (ti + 1))) tk kw g19 g20 g21 0 g23 (nI cd) g25 g26 v27 v28 v29 v30 v31 v32 v33 v34 v35 v36 v37 (nI ol)), (v1, .inl (cA 0, 326, .inl fp)), (v9, .inl (cA 0, 700, .inl fb)), (v13, .inl (cA 1, 15, .inr (.inl fkw))), (v28, .inl (cA 1, 10, .inr (.inl l28))), (v30, .inl (cA 1, 8, .inr (.inl l30))), (v32, .inl (cA 0, 400, .inl fc))] sz) :=
  (y_lv l D cA sa 8).2 w0 ed nb ol v0 v1 v2 v3 v4 v9 v13 v27 v28 v29 v30 v31 v32 v33 v34 v35 v36 v37 g8 g11 g12 g19 g20 g21 g23 g26 g5 g6 g25 ln cd tk kw ti ct fb fkw gP gR gS gK gV cn pq en dy fp sl 0 l28 l30 fc ml pl sz hln hct hti hTX hBY hTK hKW hcn hpq hen hdy hri hcd hNM hNP (by omega)

set_option maxHeartbeats 4000000 in
set_option maxRecDepth 100000 in
/-- reference: rate -/
theorem y_rate (l : Launch) (D : va_G) (cA : Nat → ClassId) (sa : Nat → Nat) (w0 : Nat) (ed : Nat) (nb : Nat) (ol : Nat) (v0 : Nat) (v1 : Nat) (v2 : Nat) (v3 : Nat) (v4 : Nat) (v9 : Nat) (v13 : Nat) (v27 : Nat) (v28 : Nat) (v29 : Nat) (v30 : Nat) (v31 : Nat) (v32 : Nat) (v33 : Nat) (v34 : Nat) (v35 : Nat) (v36 : Nat) (v37 : Nat) (g8 : Int32) (g11 : Int32) (g12 : Int32) (g19 : Int32) (g20 : Int32) (g21 : Int32) (g22 : Int32) (g26 : Int32) (g5 : Int64) (g6 : Int64) (g25 : Int64) (ln : Nat) (cd : Nat) (tk : Int32) (kw : Int32) (ti : Nat) (ct : Nat) (fb : Nat → Int32) (fkw : Nat → Int64) (gP : Nat → Nat) (gR : Nat → Nat) (gS : Nat → Int32) (gK : Nat → Int32) (gV : Nat → Int64) (cn : Nat) (pq : Nat) (en : Nat) (dy : Nat) (fp : Nat → Int32) (dd : Nat) (ml : List Int64) (pl : List Int64) (sz : Nat) (hln : ln ≤ 700) (hct : ct ≤ 701) (hti : ti < ct) (hTX : TX fb ln ct gP gR gS gV gK) (hBY : BYn ln fb) (hTK : TKR (gK ti) (gV ti) (fb (gP ti)) tk kw g19 g25) (hKW : KW 15 fkw) (hk : gK ti = 8) (hdd : dd ≤ 6) (hcn : cn ≤ 10) (hpq : pq ≤ 8) (hen : en ≤ 60) (hdy : dy ≤ 20000) (hri : RI cn pq en dy fp) : Met l yX10_rate wsX10_rate ({ frames := 4, cells := 0, slots := 0, locals := 89 }) (va_Pc [.ref w0] (Wd D cA sa [(oX10 w0 v0 v1 v2 v3 v4 g5 g6 (nI ed) g8 v9 (nI nb) g11 g12 v13 (nI ln) (nI (gP ti)) (nI (gR (ti + 1))) tk kw g19 g20 g21 g22 (nI dd) (nI cd) g25 g26 v27 v28 v29 v30 v31 v32 v33 v34 v35 v36 v37 (nI ol)), (v9, .inl (cA 0, 700, .inl fb)), (v13, .inl (cA 1, 15, .inr (.inl fkw))), (v1, .inl (cA 0, 326, .inl fp))] sz)) (va_Qi (fun (r : Int32) (u9 : Int32) => u9 = r ∧ (r = 0 ∨ r = 1)) (fun (u9 : Int32) t => ∃ tj : Nat, ∃ z17 : Int32, ∃ z18 : Int32, ∃ z19 : Int32, ∃ z20 : Int32, ∃ z21 : Int32, ∃ z26 : Int32, ∃ z25 : Int64, ∃ zp : Nat → Int32, tj < ct ∧ gP tj ≤ ln ∧ ti ≤ tj ∧ TKR (gK tj) (gV tj) (fb (gP tj)) z17 z18 z19 z25 ∧ RI cn pq en dy zp ∧ (u9 = 1 → z20 = g20) ∧ (u9 = 1 → z21 = g21) ∧ (u9 = 1 → ti + 1 ≤ tj) ∧ (u9 = 1 → gP ti + 1 ≤ gP tj) ∧ (u9 = 1 → SRx gK gS gV ti dd ml pl (.inr (tj, dd, ml, pl))) ∧ (u9 = 0 → SRx gK gS gV ti dd ml pl (.inl (z20, z21))) ∧ Wq D (va_A [(oX10 w0 v0 v1 v2 v3 v4 g5 g6 (nI ed) g8 v9 (nI nb) g11 g12 v13 (nI ln) (nI (gP ti)) (nI (gR (ti + 1))) tk kw g19 g20 g21 g22 (nI dd) (nI cd) g25 g26 v27 v28 v29 v30 v31 v32 v33 v34 v35 v36 v37 (nI ol)), (v9, .inl (cA 0, 700, .inl fb)), (v13, .inl (cA 1, 15, .inr (.inl fkw))), (v1, .inl (cA 0, 326, .inl fp))] sz) [(oX10 w0 v0 v1 v2 v3 v4 g5 g6 (nI ed) g8 v9 (nI nb) g11 g12 v13 (nI ln) (nI (gP tj)) (nI (gR (tj + 1))) z17 z18 z19 z20 z21 g22 (nI dd) (nI cd) z25 z26 v27 v28 v29 v30 v31 v32 v33 v34 v35 v36 v37 (nI ol)), (v9, .inl (cA 0, 700, .inl fb)), (v13, .inl (cA 1, 15, .inr (.inl fkw))), (v1, .inl (cA 0, 326, .inl zp))] t) (va_A [(oX10 w0 v0 v1 v2 v3 v4 g5 g6 (nI ed) g8 v9 (nI nb) g11 g12 v13 (nI ln) (nI (gP ti)) (nI (gR (ti + 1))) tk kw g19 g20 g21 g22 (nI dd) (nI cd) g25 g26 v27 v28 v29 v30 v31 v32 v33 v34 v35 v36 v37 (nI ol)), (v9, .inl (cA 0, 700, .inl fb)), (v13, .inl (cA 1, 15, .inr (.inl fkw))), (v1, .inl (cA 0, 326, .inl fp))] sz)) 0 0 (va_A [(oX10 w0 v0 v1 v2 v3 v4 g5 g6 (nI ed) g8 v9 (nI nb) g11 g12 v13 (nI ln) (nI (gP ti)) (nI (gR (ti + 1))) tk kw g19 g20 g21 g22 (nI dd) (nI cd) g25 g26 v27 v28 v29 v30 v31 v32 v33 v34 v35 v36 v37 (nI ol)), (v9, .inl (cA 0, 700, .inl fb)), (v13, .inl (cA 1, 15, .inr (.inl fkw))), (v1, .inl (cA 0, 326, .inl fp))] sz) := by
  refine Met.ofW (cc := cX10_rate) (maxL := 1) (ret := (some .boolean)) (by decide) rfl ?_
  intro p e s m args below meth c s₁ B hml hv
  obtain ⟨rfl, hsz, hP, hK, hD0, hC, hZ⟩ := hv
  have hx := B.exec
  have hb := B.bytes
  have hr := B.returns
  have hts := atoms_spec (ws := wsX10_rate) B.pre
  have hown : s.vm.findClass RX10 = some m.cls := findClass_of_methodNamed B.named
  have hlocks := B.notSynchronized
  subst hsz
  have hD := hD0.self (sz := s.heap.size)
  generalize hAe : va_A [(oX10 w0 v0 v1 v2 v3 v4 g5 g6 (nI ed) g8 v9 (nI nb) g11 g12 v13 (nI ln) (nI (gP ti)) (nI (gR (ti + 1))) tk kw g19 g20 g21 g22 (nI dd) (nI cd) g25 g26 v27 v28 v29 v30 v31 v32 v33 v34 v35 v36 v37 (nI ol)), (v9, .inl (cA 0, 700, .inl fb)), (v13, .inl (cA 1, 15, .inr (.inl fkw))), (v1, .inl (cA 0, 326, .inl fp))] s.heap.size = A at hD hZ ⊢
  have hA : ∀ q : Nat, s.heap.size ≤ q → A q := fun q h => by rw [← hAe]; exact Or.inr h
  have hS : va_S A s.heap s.heap [] := va_S.rf
  have hP : va_P D vwCl [(oX10 w0 v0 v1 v2 v3 v4 g5 g6 (nI ed) g8 v9 (nI nb) g11 g12 v13 (nI ln) (nI (gP ti)) (nI (gR (ti + 1))) tk kw g19 g20 g21 g22 (nI dd) (nI cd) g25 g26 v27 v28 v29 v30 v31 v32 v33 v34 v35 v36 v37 (nI ol)), (v9, .inl (cA 0, 700, .inl fb)), (v13, .inl (cA 1, 15, .inr (.inl fkw))), (v1, .inl (cA 0, 326, .inl fp))] s.heap := hP
  have hl := lv_entry ([.ref w0]) (n := 1) (Nat.le_of_ble_eq_true rfl)
  rw [lg_entry_eq]
  generalize (lg_sl ([.ref w0]) ++ List.replicate (1 - (lg_sl ([.ref w0])).length) Slot.unset).toArray = ls at hl ⊢
  have hl : lv_has ls 1 [(0, .ref w0)] := hl
  have inX10 : ∀ w ∈ u_ws RX10 TX10 39, w ∈ wsX10_rate := by decide +kernel
  have hle9 := TX.le hTX hti
  refine lv_aload_n hx hb dX10_rate_0 rfl (lv_at hl 0 rfl) ?_
  have hn1 := TX.go2 hTX (show ti < ct by omega) (by rw [hk]; decide)
  have hn1a := TX.le hTX (show ti < ct by omega)
  have hn1b := TX.le hTX hn1.1
  obtain ⟨hPc, hDc, hFc⟩ := PDq.cut (wc := [(oX10 w0 v0 v1 v2 v3 v4 g5 g6 (nI ed) g8 v9 (nI nb) g11 g12 v13 (nI ln) (nI (gP ti)) (nI (gR (ti + 1))) tk kw g19 g20 g21 g22 (nI dd) (nI cd) g25 g26 v27 v28 v29 v30 v31 v32 v33 v34 v35 v36 v37 (nI ol)), (v9, .inl (cA 0, 700, .inl fb)), (v13, .inl (cA 1, 15, .inr (.inl fkw)))]) hP hD hS hA [0, 1, 2] (by decide) rfl
  refine va_calli (va_runV (As := []) (rest := []) ⟨hx, hb, hml, hown, hts⟩ (y_advance l D cA sa w0 ed nb ol v0 v1 v2 v3 v4 v9 v13 v27 v28 v29 v30 v31 v32 v33 v34 v35 v36 v37 g8 g11 g12 (nI (gP ti)) tk kw g19 g20 g21 g22 (nI dd) (nI cd) g26 g5 g6 g25 ln (gR (ti + 1)) fb fkw (gP (ti + 1)) (gR ((ti + 1) + 1)) (gK (ti + 1)) (gV (ti + 1)) s.heap.size hln (by omega) hKW hBY (TX.t hTX hn1.1)) (cwV 0 hts gX10_rate_X10_advance rfl rfl rfl (by decide +kernel) ⟨(Nat.le_of_ble_eq_true rfl), (Nat.le_of_ble_eq_true rfl)⟩) ⟨Wd.blind, va_recv hK hPc (ci := 11) (q0 := 0) rfl rfl, fun U hU hW => ⟨rfl, Wd.call hPc hDc hK hC hZ hS hFc U hU hW⟩⟩ rfl rfl hl.1 rfl (lv_room (Nat.le_of_ble_eq_true rfl)) dX10_rate_1 ⟨(Nat.le_of_ble_eq_true rfl), (Nat.le_of_ble_eq_true rfl)⟩) hS (fun q _ h => hFc q h) hFc (fun rn2 u t H1 locs ht hvm hw hB hz1 hk1 hS => ?_)
  obtain ⟨zn3, zn4, zn5, zn6, hn7, hP1, hD1⟩ := hB
  rw [ht] at hP1
  obtain ⟨hP, hD⟩ := PDq.join (w := [(v1, .inl (cA 0, 326, .inl fp)), (oX10 w0 v0 v1 v2 v3 v4 g5 g6 (nI ed) g8 v9 (nI nb) g11 g12 v13 (nI ln) (nI (gP (ti + 1))) (nI (gR ((ti + 1) + 1))) zn3 zn4 zn5 g20 g21 g22 (nI dd) (nI cd) zn6 g26 v27 v28 v29 v30 v31 v32 v33 v34 v35 v36 v37 (nI ol)), (v9, .inl (cA 0, 700, .inl fb)), (v13, .inl (cA 1, 15, .inr (.inl fkw)))]) 1 hP hD [0, 1, 2] [3] rfl rfl (by decide) (by decide) hk1 hFc hP1 hD1 rfl
  generalize H1 = H at hP hS ⊢
  obtain rfl : rn2 = 1 := hw
  refine lv_pop hx hb dX10_rate_4 rfl ?_
  refine lv_aload_n hx hb dX10_rate_5 rfl (lv_at hl 0 rfl) ?_
  refine lv_iconst (v := 0) hx hb dX10_rate_6 (by decide) ?_
  refine lv_iconst (v := 0) hx hb dX10_rate_7 (by decide) ?_
  refine lv_sipush (v := 3000) hx hb dX10_rate_8 (by decide) ?_
  obtain ⟨hPc, hDc, hFc⟩ := PDq.cut (wc := [(oX10 w0 v0 v1 v2 v3 v4 g5 g6 (nI ed) g8 v9 (nI nb) g11 g12 v13 (nI ln) (nI (gP (ti + 1))) (nI (gR ((ti + 1) + 1))) zn3 zn4 zn5 g20 g21 g22 (nI dd) (nI cd) zn6 g26 v27 v28 v29 v30 v31 v32 v33 v34 v35 v36 v37 (nI ol)), (v9, .inl (cA 0, 700, .inl fb)), (v13, .inl (cA 1, 15, .inr (.inl fkw))), (v1, .inl (cA 0, 326, .inl fp))]) hP hD hS hA [1, 2, 3, 0] (by decide) rfl
  refine va_calli (va_runV (As := [.int 0, .int 0, .int 3000]) (rest := []) ⟨hx, hb, hml, hown, hts⟩ (y_numberTo0 l D cA sa w0 ed nb ol v0 v1 v2 v3 v4 v9 v13 v27 v28 v29 v30 v31 v32 v33 v34 v35 v36 v37 g8 g11 g12 zn5 g20 g21 g22 (nI dd) g26 g5 g6 zn6 ln cd zn3 zn4 (ti + 1) ct fb fkw gP gR gS gK gV cn pq en dy fp 0 3000 H.size hln hct hn1.1 hTX hBY hn7 hKW (by omega) (by omega) hcn hpq hen hdy hri) (cwV 3 hts gX10_rate_X10_numberTo rfl rfl rfl (by decide +kernel) ⟨(Nat.le_of_ble_eq_true rfl), (Nat.le_of_ble_eq_true rfl)⟩) ⟨Wd.blind, va_recv hK hPc (ci := 11) (q0 := 0) rfl rfl, fun U hU hW => ⟨rfl, Wd.call hPc hDc hK hC hZ hS hFc U hU hW⟩⟩ rfl rfl hl.1 rfl (lv_room (Nat.le_of_ble_eq_true rfl)) dX10_rate_11 ⟨(Nat.le_of_ble_eq_true rfl), (Nat.le_of_ble_eq_true rfl)⟩) hS (fun q _ h => hFc q h) hFc (fun rn8 u t H1 locs ht hvm hw hB hz1 hk1 hS => ?_)
  obtain ⟨qn9, zn10, zn11, zn12, zn13, zn14, zn15, zn16, fn17, hn18, hn19, hn20, hn21, hn22, hn23, hn24, hn25, hn26, hn27, hn28, hn29, hP1, hD1⟩ := hB
  rw [ht] at hP1
  obtain ⟨hP, hD⟩ := PDq.join (w := [(oX10 w0 v0 v1 v2 v3 v4 g5 g6 (nI ed) g8 v9 (nI nb) g11 g12 v13 (nI ln) (nI (gP qn9)) (nI (gR (qn9 + 1))) zn10 zn11 zn12 zn13 zn14 g22 (nI dd) (nI cd) zn16 zn15 v27 v28 v29 v30 v31 v32 v33 v34 v35 v36 v37 (nI ol)), (v9, .inl (cA 0, 700, .inl fb)), (v13, .inl (cA 1, 15, .inr (.inl fkw))), (v1, .inl (cA 0, 326, .inl fn17))]) 0 hP hD [1, 2, 3, 0] [] rfl rfl (by decide) (by decide) hk1 hFc hP1 hD1 rfl
  generalize H1 = H at hP hS ⊢
  rcases hw.2 with hr9 | hr9
  · skip
    have hn28 := hn28 (hw.1.trans hr9)
    have hn29 := hn29 (hw.1.trans hr9)
    subst hr9
    refine lv_if_ne (tgt := 19) hx hb dX10_rate_14 (by decide) (fun c9 => absurd c9 (by decide)) (fun c30 => ?_)
    refine lv_iconst (v := 0) hx hb dX10_rate_17 (by decide) ?_
    obtain ⟨hP9, hD9⟩ := PDq.sub (ws' := [(oX10 w0 v0 v1 v2 v3 v4 g5 g6 (nI ed) g8 v9 (nI nb) g11 g12 v13 (nI ln) (nI (gP qn9)) (nI (gR (qn9 + 1))) zn10 zn11 zn12 zn13 zn14 g22 (nI dd) (nI cd) zn16 zn15 v27 v28 v29 v30 v31 v32 v33 v34 v35 v36 v37 (nI ol)), (v9, .inl (cA 0, 700, .inl fb)), (v13, .inl (cA 1, 15, .inr (.inl fkw))), (v1, .inl (cA 0, 326, .inl fn17))]) hP hD [0, 1, 2, 3] (by decide) rfl
    refine W.widen (k := 0) (n := 0) (Nat.le_of_ble_eq_true rfl) (Nat.le_of_ble_eq_true rfl) ?_
    exact (W.zret (v := 0) hx hb hr (by first | rfl | decide) (fun t ht hW => ⟨⟨0, 0, rfl, ⟨rfl, by decide⟩, qn9, zn10, zn11, zn12, zn13, zn14, zn15, zn16, fn17, hn18, hn19, (by omega), hn21, hn22, (fun h9 => absurd h9 (by decide)), (fun h9 => absurd h9 (by decide)), (fun h9 => absurd h9 (by decide)), (fun h9 => absurd h9 (by decide)), (fun h9 => absurd h9 (by decide)), (fun _ => (S_rateEx hk hn28 hn29)), by rw [ht]; exact hP9, hD9⟩, hS.F ht⟩) hS.2.2 dX10_rate_18)
  · skip
    have hn23 := hn23 (hw.1.trans hr9)
    subst hn23
    obtain ⟨hP, hD⟩ : PDq D A [(oX10 w0 v0 v1 v2 v3 v4 g5 g6 (nI ed) g8 v9 (nI nb) g11 g12 v13 (nI ln) (nI (gP ((ti + 1) + 1))) (nI (gR (((ti + 1) + 1) + 1))) zn10 zn11 zn12 zn13 zn14 g22 (nI dd) (nI cd) zn16 zn15 v27 v28 v29 v30 v31 v32 v33 v34 v35 v36 v37 (nI ol)), (v9, .inl (cA 0, 700, .inl fb)), (v13, .inl (cA 1, 15, .inr (.inl fkw))), (v1, .inl (cA 0, 326, .inl fn17))] H := ⟨hP, hD⟩
    have hn24 := hn24 (hw.1.trans hr9)
    obtain rfl : g20 = zn13 := hn24.symm
    obtain ⟨hP, hD⟩ : PDq D A [(oX10 w0 v0 v1 v2 v3 v4 g5 g6 (nI ed) g8 v9 (nI nb) g11 g12 v13 (nI ln) (nI (gP ((ti + 1) + 1))) (nI (gR (((ti + 1) + 1) + 1))) zn10 zn11 zn12 g20 zn14 g22 (nI dd) (nI cd) zn16 zn15 v27 v28 v29 v30 v31 v32 v33 v34 v35 v36 v37 (nI ol)), (v9, .inl (cA 0, 700, .inl fb)), (v13, .inl (cA 1, 15, .inr (.inl fkw))), (v1, .inl (cA 0, 326, .inl fn17))] H := ⟨hP, hD⟩
    have hn25 := hn25 (hw.1.trans hr9)
    obtain rfl : g21 = zn14 := hn25.symm
    obtain ⟨hP, hD⟩ : PDq D A [(oX10 w0 v0 v1 v2 v3 v4 g5 g6 (nI ed) g8 v9 (nI nb) g11 g12 v13 (nI ln) (nI (gP ((ti + 1) + 1))) (nI (gR (((ti + 1) + 1) + 1))) zn10 zn11 zn12 g20 g21 g22 (nI dd) (nI cd) zn16 zn15 v27 v28 v29 v30 v31 v32 v33 v34 v35 v36 v37 (nI ol)), (v9, .inl (cA 0, 700, .inl fb)), (v13, .inl (cA 1, 15, .inr (.inl fkw))), (v1, .inl (cA 0, 326, .inl fn17))] H := ⟨hP, hD⟩
    have hn26 := hn26 (hw.1.trans hr9)
    have hn27 := hn27 (hw.1.trans hr9)
    subst hr9
    refine lv_if_ne (tgt := 19) hx hb dX10_rate_14 (by decide) (fun c31 => ?_) (fun c9 => absurd c9 (by decide))
    refine lv_aload_n hx hb dX10_rate_19 rfl (lv_at hl 0 rfl) ?_
    refine va_get (D := D) (ci := 11) (v := .int zn10) (C := RX10) (T := TX10) (N := 39) hx hb hts inX10 hown hK hP 0 rfl rfl 17 (by decide) (hts (.fieldLink RX10 126 "EscrowDeskModel" "token" "I") (by decide +kernel)) (fun _ h9 => h9) rfl dX10_rate_20 ?_
    refine lv_iconst (v := 3) hx hb dX10_rate_23 (by decide) ?_
    refine lv_icmp_ne (tgt := 53) hx hb dX10_rate_24 (by decide) (fun c32 => ?_) (fun c32 => ?_)
    · skip
      refine lv_aload_n hx hb dX10_rate_53 rfl (lv_at hl 0 rfl) ?_
      refine lv_iconst (v := 1) hx hb dX10_rate_54 (by decide) ?_
      refine lv_sipush (v := 360) hx hb dX10_rate_55 (by decide) ?_
      refine lv_sipush (v := 365) hx hb dX10_rate_58 (by decide) ?_
      obtain ⟨hPc, hDc, hFc⟩ := PDq.cut (wc := [(oX10 w0 v0 v1 v2 v3 v4 g5 g6 (nI ed) g8 v9 (nI nb) g11 g12 v13 (nI ln) (nI (gP ((ti + 1) + 1))) (nI (gR (((ti + 1) + 1) + 1))) zn10 zn11 zn12 g20 g21 g22 (nI dd) (nI cd) zn16 zn15 v27 v28 v29 v30 v31 v32 v33 v34 v35 v36 v37 (nI ol)), (v9, .inl (cA 0, 700, .inl fb)), (v13, .inl (cA 1, 15, .inr (.inl fkw))), (v1, .inl (cA 0, 326, .inl fn17))]) hP hD hS hA [0, 1, 2, 3] (by decide) rfl
      refine va_calli (va_runV (As := [.int 1, .int 360, .int 365]) (rest := []) ⟨hx, hb, hml, hown, hts⟩ (y_numberTo1 l D cA sa w0 ed nb ol v0 v1 v2 v3 v4 v9 v13 v27 v28 v29 v30 v31 v32 v33 v34 v35 v36 v37 g8 g11 g12 zn12 g20 g21 g22 (nI dd) zn15 g5 g6 zn16 ln cd zn10 zn11 ((ti + 1) + 1) ct fb fkw gP gR gS gK gV cn pq en dy fn17 360 365 H.size hln hct hn18 hTX hBY hn21 hKW (by omega) (by omega) hcn hpq hen hdy hn22 (by omega) (by omega)) (cwV 3 hts gX10_rate_X10_numberTo rfl rfl rfl (by decide +kernel) ⟨(Nat.le_of_ble_eq_true rfl), (Nat.le_of_ble_eq_true rfl)⟩) ⟨Wd.blind, va_recv hK hPc (ci := 11) (q0 := 0) rfl rfl, fun U hU hW => ⟨rfl, Wd.call hPc hDc hK hC hZ hS hFc U hU hW⟩⟩ rfl rfl hl.1 rfl (lv_room (Nat.le_of_ble_eq_true rfl)) dX10_rate_61 ⟨(Nat.le_of_ble_eq_true rfl), (Nat.le_of_ble_eq_true rfl)⟩) hS (fun q _ h => hFc q h) hFc (fun rn33 u t H1 locs ht hvm hw hB hz1 hk1 hS => ?_)
      obtain ⟨qn34, zn35, zn36, zn37, zn38, zn39, zn40, zn41, fn42, hn43, hn44, hn45, hn46, hn47, hn48, hn49, hn50, hn51, hn52, hn53, hn54, hP1, hD1⟩ := hB
      rw [ht] at hP1
      obtain ⟨hP, hD⟩ := PDq.join (w := [(oX10 w0 v0 v1 v2 v3 v4 g5 g6 (nI ed) g8 v9 (nI nb) g11 g12 v13 (nI ln) (nI (gP qn34)) (nI (gR (qn34 + 1))) zn35 zn36 zn37 zn38 zn39 g22 (nI dd) (nI cd) zn41 zn40 v27 v28 v29 v30 v31 v32 v33 v34 v35 v36 v37 (nI ol)), (v9, .inl (cA 0, 700, .inl fb)), (v13, .inl (cA 1, 15, .inr (.inl fkw))), (v1, .inl (cA 0, 326, .inl fn42))]) 0 hP hD [0, 1, 2, 3] [] rfl rfl (by decide) (by decide) hk1 hFc hP1 hD1 rfl
      generalize H1 = H at hP hS ⊢
      rcases hw.2 with hr9 | hr9
      · skip
        have hn53 := hn53 (hw.1.trans hr9)
        have hn54 := hn54 (hw.1.trans hr9)
        subst hr9
        obtain ⟨hP9, hD9⟩ := PDq.sub (ws' := [(oX10 w0 v0 v1 v2 v3 v4 g5 g6 (nI ed) g8 v9 (nI nb) g11 g12 v13 (nI ln) (nI (gP qn34)) (nI (gR (qn34 + 1))) zn35 zn36 zn37 zn38 zn39 g22 (nI dd) (nI cd) zn41 zn40 v27 v28 v29 v30 v31 v32 v33 v34 v35 v36 v37 (nI ol)), (v9, .inl (cA 0, 700, .inl fb)), (v13, .inl (cA 1, 15, .inr (.inl fkw))), (v1, .inl (cA 0, 326, .inl fn42))]) hP hD [0, 1, 2, 3] (by decide) rfl
        refine W.widen (k := 0) (n := 0) (Nat.le_of_ble_eq_true rfl) (Nat.le_of_ble_eq_true rfl) ?_
        exact (W.zret (v := 0) hx hb hr (by first | rfl | decide) (fun t ht hW => ⟨⟨0, 0, rfl, ⟨rfl, by decide⟩, qn34, zn35, zn36, zn37, zn38, zn39, zn40, zn41, fn42, hn43, hn44, (by omega), hn46, hn47, (fun h9 => absurd h9 (by decide)), (fun h9 => absurd h9 (by decide)), (fun h9 => absurd h9 (by decide)), (fun h9 => absurd h9 (by decide)), (fun h9 => absurd h9 (by decide)), (fun _ => (S_rateFx hk hn27 (fun q9 => TKR.nnum hn21 c32 q9.1) hn53 hn54)), by rw [ht]; exact hP9, hD9⟩, hS.F ht⟩) hS.2.2 dX10_rate_64)
      · skip
        have hn48 := hn48 (hw.1.trans hr9)
        subst hn48
        obtain ⟨hP, hD⟩ : PDq D A [(oX10 w0 v0 v1 v2 v3 v4 g5 g6 (nI ed) g8 v9 (nI nb) g11 g12 v13 (nI ln) (nI (gP (((ti + 1) + 1) + 1))) (nI (gR ((((ti + 1) + 1) + 1) + 1))) zn35 zn36 zn37 zn38 zn39 g22 (nI dd) (nI cd) zn41 zn40 v27 v28 v29 v30 v31 v32 v33 v34 v35 v36 v37 (nI ol)), (v9, .inl (cA 0, 700, .inl fb)), (v13, .inl (cA 1, 15, .inr (.inl fkw))), (v1, .inl (cA 0, 326, .inl fn42))] H := ⟨hP, hD⟩
        have hn49 := hn49 (hw.1.trans hr9)
        obtain rfl : g20 = zn38 := hn49.symm
        obtain ⟨hP, hD⟩ : PDq D A [(oX10 w0 v0 v1 v2 v3 v4 g5 g6 (nI ed) g8 v9 (nI nb) g11 g12 v13 (nI ln) (nI (gP (((ti + 1) + 1) + 1))) (nI (gR ((((ti + 1) + 1) + 1) + 1))) zn35 zn36 zn37 g20 zn39 g22 (nI dd) (nI cd) zn41 zn40 v27 v28 v29 v30 v31 v32 v33 v34 v35 v36 v37 (nI ol)), (v9, .inl (cA 0, 700, .inl fb)), (v13, .inl (cA 1, 15, .inr (.inl fkw))), (v1, .inl (cA 0, 326, .inl fn42))] H := ⟨hP, hD⟩
        have hn50 := hn50 (hw.1.trans hr9)
        obtain rfl : g21 = zn39 := hn50.symm
        obtain ⟨hP, hD⟩ : PDq D A [(oX10 w0 v0 v1 v2 v3 v4 g5 g6 (nI ed) g8 v9 (nI nb) g11 g12 v13 (nI ln) (nI (gP (((ti + 1) + 1) + 1))) (nI (gR ((((ti + 1) + 1) + 1) + 1))) zn35 zn36 zn37 g20 g21 g22 (nI dd) (nI cd) zn41 zn40 v27 v28 v29 v30 v31 v32 v33 v34 v35 v36 v37 (nI ol)), (v9, .inl (cA 0, 700, .inl fb)), (v13, .inl (cA 1, 15, .inr (.inl fkw))), (v1, .inl (cA 0, 326, .inl fn42))] H := ⟨hP, hD⟩
        have hn51 := hn51 (hw.1.trans hr9)
        have hn52 := hn52 (hw.1.trans hr9)
        subst hr9
        obtain ⟨hP9, hD9⟩ := PDq.sub (ws' := [(oX10 w0 v0 v1 v2 v3 v4 g5 g6 (nI ed) g8 v9 (nI nb) g11 g12 v13 (nI ln) (nI (gP (((ti + 1) + 1) + 1))) (nI (gR ((((ti + 1) + 1) + 1) + 1))) zn35 zn36 zn37 g20 g21 g22 (nI dd) (nI cd) zn41 zn40 v27 v28 v29 v30 v31 v32 v33 v34 v35 v36 v37 (nI ol)), (v9, .inl (cA 0, 700, .inl fb)), (v13, .inl (cA 1, 15, .inr (.inl fkw))), (v1, .inl (cA 0, 326, .inl fn42))]) hP hD [0, 1, 2, 3] (by decide) rfl
        refine W.widen (k := 0) (n := 0) (Nat.le_of_ble_eq_true rfl) (Nat.le_of_ble_eq_true rfl) ?_
        exact (W.zret (v := 1) hx hb hr (by first | rfl | decide) (fun t ht hW => ⟨⟨1, 1, rfl, ⟨rfl, by decide⟩, (((ti + 1) + 1) + 1), zn35, zn36, zn37, g20, g21, zn40, zn41, fn42, hn43, hn44, (by omega), hn46, hn47, (fun _ => rfl), (fun _ => rfl), (fun _ => (by omega)), (fun _ => (by omega)), (fun _ => (S_rate hk hn27 (fun q9 => TKR.nnum hn21 c32 q9.1) hn52)), (fun h9 => absurd h9 (by decide)), by rw [ht]; exact hP9, hD9⟩, hS.F ht⟩) hS.2.2 dX10_rate_64)
    · skip
      refine lv_aload_n hx hb dX10_rate_27 rfl (lv_at hl 0 rfl) ?_
      refine va_get (D := D) (ci := 11) (v := .int zn12) (C := RX10) (T := TX10) (N := 39) hx hb hts inX10 hown hK hP 0 rfl rfl 19 (by decide) (hts (.fieldLink RX10 140 "EscrowDeskModel" "value" "I") (by decide +kernel)) (fun _ h9 => h9) rfl dX10_rate_28 ?_
      refine lv_sipush (v := 360) hx hb dX10_rate_31 (by decide) ?_
      refine lv_icmp_eq (tgt := 53) hx hb dX10_rate_34 (by decide) (fun c55 => ?_) (fun c55 => ?_)
      · skip
        refine lv_aload_n hx hb dX10_rate_53 rfl (lv_at hl 0 rfl) ?_
        refine lv_iconst (v := 1) hx hb dX10_rate_54 (by decide) ?_
        refine lv_sipush (v := 360) hx hb dX10_rate_55 (by decide) ?_
        refine lv_sipush (v := 365) hx hb dX10_rate_58 (by decide) ?_
        obtain ⟨hPc, hDc, hFc⟩ := PDq.cut (wc := [(oX10 w0 v0 v1 v2 v3 v4 g5 g6 (nI ed) g8 v9 (nI nb) g11 g12 v13 (nI ln) (nI (gP ((ti + 1) + 1))) (nI (gR (((ti + 1) + 1) + 1))) zn10 zn11 zn12 g20 g21 g22 (nI dd) (nI cd) zn16 zn15 v27 v28 v29 v30 v31 v32 v33 v34 v35 v36 v37 (nI ol)), (v9, .inl (cA 0, 700, .inl fb)), (v13, .inl (cA 1, 15, .inr (.inl fkw))), (v1, .inl (cA 0, 326, .inl fn17))]) hP hD hS hA [0, 1, 2, 3] (by decide) rfl
        refine va_calli (va_runV (As := [.int 1, .int 360, .int 365]) (rest := []) ⟨hx, hb, hml, hown, hts⟩ (y_numberTo1 l D cA sa w0 ed nb ol v0 v1 v2 v3 v4 v9 v13 v27 v28 v29 v30 v31 v32 v33 v34 v35 v36 v37 g8 g11 g12 zn12 g20 g21 g22 (nI dd) zn15 g5 g6 zn16 ln cd zn10 zn11 ((ti + 1) + 1) ct fb fkw gP gR gS gK gV cn pq en dy fn17 360 365 H.size hln hct hn18 hTX hBY hn21 hKW (by omega) (by omega) hcn hpq hen hdy hn22 (by omega) (by omega)) (cwV 3 hts gX10_rate_X10_numberTo rfl rfl rfl (by decide +kernel) ⟨(Nat.le_of_ble_eq_true rfl), (Nat.le_of_ble_eq_true rfl)⟩) ⟨Wd.blind, va_recv hK hPc (ci := 11) (q0 := 0) rfl rfl, fun U hU hW => ⟨rfl, Wd.call hPc hDc hK hC hZ hS hFc U hU hW⟩⟩ rfl rfl hl.1 rfl (lv_room (Nat.le_of_ble_eq_true rfl)) dX10_rate_61 ⟨(Nat.le_of_ble_eq_true rfl), (Nat.le_of_ble_eq_true rfl)⟩) hS (fun q _ h => hFc q h) hFc (fun rn56 u t H1 locs ht hvm hw hB hz1 hk1 hS => ?_)
        obtain ⟨qn57, zn58, zn59, zn60, zn61, zn62, zn63, zn64, fn65, hn66, hn67, hn68, hn69, hn70, hn71, hn72, hn73, hn74, hn75, hn76, hn77, hP1, hD1⟩ := hB
        rw [ht] at hP1
        obtain ⟨hP, hD⟩ := PDq.join (w := [(oX10 w0 v0 v1 v2 v3 v4 g5 g6 (nI ed) g8 v9 (nI nb) g11 g12 v13 (nI ln) (nI (gP qn57)) (nI (gR (qn57 + 1))) zn58 zn59 zn60 zn61 zn62 g22 (nI dd) (nI cd) zn64 zn63 v27 v28 v29 v30 v31 v32 v33 v34 v35 v36 v37 (nI ol)), (v9, .inl (cA 0, 700, .inl fb)), (v13, .inl (cA 1, 15, .inr (.inl fkw))), (v1, .inl (cA 0, 326, .inl fn65))]) 0 hP hD [0, 1, 2, 3] [] rfl rfl (by decide) (by decide) hk1 hFc hP1 hD1 rfl
        generalize H1 = H at hP hS ⊢
        rcases hw.2 with hr9 | hr9
        · skip
          have hn76 := hn76 (hw.1.trans hr9)
          have hn77 := hn77 (hw.1.trans hr9)
          subst hr9
          obtain ⟨hP9, hD9⟩ := PDq.sub (ws' := [(oX10 w0 v0 v1 v2 v3 v4 g5 g6 (nI ed) g8 v9 (nI nb) g11 g12 v13 (nI ln) (nI (gP qn57)) (nI (gR (qn57 + 1))) zn58 zn59 zn60 zn61 zn62 g22 (nI dd) (nI cd) zn64 zn63 v27 v28 v29 v30 v31 v32 v33 v34 v35 v36 v37 (nI ol)), (v9, .inl (cA 0, 700, .inl fb)), (v13, .inl (cA 1, 15, .inr (.inl fkw))), (v1, .inl (cA 0, 326, .inl fn65))]) hP hD [0, 1, 2, 3] (by decide) rfl
          refine W.widen (k := 0) (n := 0) (Nat.le_of_ble_eq_true rfl) (Nat.le_of_ble_eq_true rfl) ?_
          exact (W.zret (v := 0) hx hb hr (by first | rfl | decide) (fun t ht hW => ⟨⟨0, 0, rfl, ⟨rfl, by decide⟩, qn57, zn58, zn59, zn60, zn61, zn62, zn63, zn64, fn65, hn66, hn67, (by omega), hn69, hn70, (fun h9 => absurd h9 (by decide)), (fun h9 => absurd h9 (by decide)), (fun h9 => absurd h9 (by decide)), (fun h9 => absurd h9 (by decide)), (fun h9 => absurd h9 (by decide)), (fun _ => (S_rateFx hk hn27 (fun q9 => q9.2 (Or.inl ((i64_36 (TKR.num hn21 c32).2 360 (by decide)).mpr c55))) hn76 hn77)), by rw [ht]; exact hP9, hD9⟩, hS.F ht⟩) hS.2.2 dX10_rate_64)
        · skip
          have hn71 := hn71 (hw.1.trans hr9)
          subst hn71
          obtain ⟨hP, hD⟩ : PDq D A [(oX10 w0 v0 v1 v2 v3 v4 g5 g6 (nI ed) g8 v9 (nI nb) g11 g12 v13 (nI ln) (nI (gP (((ti + 1) + 1) + 1))) (nI (gR ((((ti + 1) + 1) + 1) + 1))) zn58 zn59 zn60 zn61 zn62 g22 (nI dd) (nI cd) zn64 zn63 v27 v28 v29 v30 v31 v32 v33 v34 v35 v36 v37 (nI ol)), (v9, .inl (cA 0, 700, .inl fb)), (v13, .inl (cA 1, 15, .inr (.inl fkw))), (v1, .inl (cA 0, 326, .inl fn65))] H := ⟨hP, hD⟩
          have hn72 := hn72 (hw.1.trans hr9)
          obtain rfl : g20 = zn61 := hn72.symm
          obtain ⟨hP, hD⟩ : PDq D A [(oX10 w0 v0 v1 v2 v3 v4 g5 g6 (nI ed) g8 v9 (nI nb) g11 g12 v13 (nI ln) (nI (gP (((ti + 1) + 1) + 1))) (nI (gR ((((ti + 1) + 1) + 1) + 1))) zn58 zn59 zn60 g20 zn62 g22 (nI dd) (nI cd) zn64 zn63 v27 v28 v29 v30 v31 v32 v33 v34 v35 v36 v37 (nI ol)), (v9, .inl (cA 0, 700, .inl fb)), (v13, .inl (cA 1, 15, .inr (.inl fkw))), (v1, .inl (cA 0, 326, .inl fn65))] H := ⟨hP, hD⟩
          have hn73 := hn73 (hw.1.trans hr9)
          obtain rfl : g21 = zn62 := hn73.symm
          obtain ⟨hP, hD⟩ : PDq D A [(oX10 w0 v0 v1 v2 v3 v4 g5 g6 (nI ed) g8 v9 (nI nb) g11 g12 v13 (nI ln) (nI (gP (((ti + 1) + 1) + 1))) (nI (gR ((((ti + 1) + 1) + 1) + 1))) zn58 zn59 zn60 g20 g21 g22 (nI dd) (nI cd) zn64 zn63 v27 v28 v29 v30 v31 v32 v33 v34 v35 v36 v37 (nI ol)), (v9, .inl (cA 0, 700, .inl fb)), (v13, .inl (cA 1, 15, .inr (.inl fkw))), (v1, .inl (cA 0, 326, .inl fn65))] H := ⟨hP, hD⟩
          have hn74 := hn74 (hw.1.trans hr9)
          have hn75 := hn75 (hw.1.trans hr9)
          subst hr9
          obtain ⟨hP9, hD9⟩ := PDq.sub (ws' := [(oX10 w0 v0 v1 v2 v3 v4 g5 g6 (nI ed) g8 v9 (nI nb) g11 g12 v13 (nI ln) (nI (gP (((ti + 1) + 1) + 1))) (nI (gR ((((ti + 1) + 1) + 1) + 1))) zn58 zn59 zn60 g20 g21 g22 (nI dd) (nI cd) zn64 zn63 v27 v28 v29 v30 v31 v32 v33 v34 v35 v36 v37 (nI ol)), (v9, .inl (cA 0, 700, .inl fb)), (v13, .inl (cA 1, 15, .inr (.inl fkw))), (v1, .inl (cA 0, 326, .inl fn65))]) hP hD [0, 1, 2, 3] (by decide) rfl
          refine W.widen (k := 0) (n := 0) (Nat.le_of_ble_eq_true rfl) (Nat.le_of_ble_eq_true rfl) ?_
          exact (W.zret (v := 1) hx hb hr (by first | rfl | decide) (fun t ht hW => ⟨⟨1, 1, rfl, ⟨rfl, by decide⟩, (((ti + 1) + 1) + 1), zn58, zn59, zn60, g20, g21, zn63, zn64, fn65, hn66, hn67, (by omega), hn69, hn70, (fun _ => rfl), (fun _ => rfl), (fun _ => (by omega)), (fun _ => (by omega)), (fun _ => (S_rate hk hn27 (fun q9 => q9.2 (Or.inl ((i64_36 (TKR.num hn21 c32).2 360 (by decide)).mpr c55))) hn75)), (fun h9 => absurd h9 (by decide)), by rw [ht]; exact hP9, hD9⟩, hS.F ht⟩) hS.2.2 dX10_rate_64)
      · skip
        refine lv_aload_n hx hb dX10_rate_37 rfl (lv_at hl 0 rfl) ?_
        refine va_get (D := D) (ci := 11) (v := .int zn12) (C := RX10) (T := TX10) (N := 39) hx hb hts inX10 hown hK hP 0 rfl rfl 19 (by decide) (hts (.fieldLink RX10 140 "EscrowDeskModel" "value" "I") (by decide +kernel)) (fun _ h9 => h9) rfl dX10_rate_38 ?_
        refine lv_sipush (v := 365) hx hb dX10_rate_41 (by decide) ?_
        refine lv_icmp_eq (tgt := 53) hx hb dX10_rate_44 (by decide) (fun c78 => ?_) (fun c78 => ?_)
        · skip
          refine lv_aload_n hx hb dX10_rate_53 rfl (lv_at hl 0 rfl) ?_
          refine lv_iconst (v := 1) hx hb dX10_rate_54 (by decide) ?_
          refine lv_sipush (v := 360) hx hb dX10_rate_55 (by decide) ?_
          refine lv_sipush (v := 365) hx hb dX10_rate_58 (by decide) ?_
          obtain ⟨hPc, hDc, hFc⟩ := PDq.cut (wc := [(oX10 w0 v0 v1 v2 v3 v4 g5 g6 (nI ed) g8 v9 (nI nb) g11 g12 v13 (nI ln) (nI (gP ((ti + 1) + 1))) (nI (gR (((ti + 1) + 1) + 1))) zn10 zn11 zn12 g20 g21 g22 (nI dd) (nI cd) zn16 zn15 v27 v28 v29 v30 v31 v32 v33 v34 v35 v36 v37 (nI ol)), (v9, .inl (cA 0, 700, .inl fb)), (v13, .inl (cA 1, 15, .inr (.inl fkw))), (v1, .inl (cA 0, 326, .inl fn17))]) hP hD hS hA [0, 1, 2, 3] (by decide) rfl
          refine va_calli (va_runV (As := [.int 1, .int 360, .int 365]) (rest := []) ⟨hx, hb, hml, hown, hts⟩ (y_numberTo1 l D cA sa w0 ed nb ol v0 v1 v2 v3 v4 v9 v13 v27 v28 v29 v30 v31 v32 v33 v34 v35 v36 v37 g8 g11 g12 zn12 g20 g21 g22 (nI dd) zn15 g5 g6 zn16 ln cd zn10 zn11 ((ti + 1) + 1) ct fb fkw gP gR gS gK gV cn pq en dy fn17 360 365 H.size hln hct hn18 hTX hBY hn21 hKW (by omega) (by omega) hcn hpq hen hdy hn22 (by omega) (by omega)) (cwV 3 hts gX10_rate_X10_numberTo rfl rfl rfl (by decide +kernel) ⟨(Nat.le_of_ble_eq_true rfl), (Nat.le_of_ble_eq_true rfl)⟩) ⟨Wd.blind, va_recv hK hPc (ci := 11) (q0 := 0) rfl rfl, fun U hU hW => ⟨rfl, Wd.call hPc hDc hK hC hZ hS hFc U hU hW⟩⟩ rfl rfl hl.1 rfl (lv_room (Nat.le_of_ble_eq_true rfl)) dX10_rate_61 ⟨(Nat.le_of_ble_eq_true rfl), (Nat.le_of_ble_eq_true rfl)⟩) hS (fun q _ h => hFc q h) hFc (fun rn79 u t H1 locs ht hvm hw hB hz1 hk1 hS => ?_)
          obtain ⟨qn80, zn81, zn82, zn83, zn84, zn85, zn86, zn87, fn88, hn89, hn90, hn91, hn92, hn93, hn94, hn95, hn96, hn97, hn98, hn99, hn100, hP1, hD1⟩ := hB
          rw [ht] at hP1
          obtain ⟨hP, hD⟩ := PDq.join (w := [(oX10 w0 v0 v1 v2 v3 v4 g5 g6 (nI ed) g8 v9 (nI nb) g11 g12 v13 (nI ln) (nI (gP qn80)) (nI (gR (qn80 + 1))) zn81 zn82 zn83 zn84 zn85 g22 (nI dd) (nI cd) zn87 zn86 v27 v28 v29 v30 v31 v32 v33 v34 v35 v36 v37 (nI ol)), (v9, .inl (cA 0, 700, .inl fb)), (v13, .inl (cA 1, 15, .inr (.inl fkw))), (v1, .inl (cA 0, 326, .inl fn88))]) 0 hP hD [0, 1, 2, 3] [] rfl rfl (by decide) (by decide) hk1 hFc hP1 hD1 rfl
          generalize H1 = H at hP hS ⊢
          rcases hw.2 with hr9 | hr9
          · skip
            have hn99 := hn99 (hw.1.trans hr9)
            have hn100 := hn100 (hw.1.trans hr9)
            subst hr9
            obtain ⟨hP9, hD9⟩ := PDq.sub (ws' := [(oX10 w0 v0 v1 v2 v3 v4 g5 g6 (nI ed) g8 v9 (nI nb) g11 g12 v13 (nI ln) (nI (gP qn80)) (nI (gR (qn80 + 1))) zn81 zn82 zn83 zn84 zn85 g22 (nI dd) (nI cd) zn87 zn86 v27 v28 v29 v30 v31 v32 v33 v34 v35 v36 v37 (nI ol)), (v9, .inl (cA 0, 700, .inl fb)), (v13, .inl (cA 1, 15, .inr (.inl fkw))), (v1, .inl (cA 0, 326, .inl fn88))]) hP hD [0, 1, 2, 3] (by decide) rfl
            refine W.widen (k := 0) (n := 0) (Nat.le_of_ble_eq_true rfl) (Nat.le_of_ble_eq_true rfl) ?_
            exact (W.zret (v := 0) hx hb hr (by first | rfl | decide) (fun t ht hW => ⟨⟨0, 0, rfl, ⟨rfl, by decide⟩, qn80, zn81, zn82, zn83, zn84, zn85, zn86, zn87, fn88, hn89, hn90, (by omega), hn92, hn93, (fun h9 => absurd h9 (by decide)), (fun h9 => absurd h9 (by decide)), (fun h9 => absurd h9 (by decide)), (fun h9 => absurd h9 (by decide)), (fun h9 => absurd h9 (by decide)), (fun _ => (S_rateFx hk hn27 (fun q9 => q9.2 (Or.inr ((i64_36 (TKR.num hn21 c32).2 365 (by decide)).mpr c78))) hn99 hn100)), by rw [ht]; exact hP9, hD9⟩, hS.F ht⟩) hS.2.2 dX10_rate_64)
          · skip
            have hn94 := hn94 (hw.1.trans hr9)
            subst hn94
            obtain ⟨hP, hD⟩ : PDq D A [(oX10 w0 v0 v1 v2 v3 v4 g5 g6 (nI ed) g8 v9 (nI nb) g11 g12 v13 (nI ln) (nI (gP (((ti + 1) + 1) + 1))) (nI (gR ((((ti + 1) + 1) + 1) + 1))) zn81 zn82 zn83 zn84 zn85 g22 (nI dd) (nI cd) zn87 zn86 v27 v28 v29 v30 v31 v32 v33 v34 v35 v36 v37 (nI ol)), (v9, .inl (cA 0, 700, .inl fb)), (v13, .inl (cA 1, 15, .inr (.inl fkw))), (v1, .inl (cA 0, 326, .inl fn88))] H := ⟨hP, hD⟩
            have hn95 := hn95 (hw.1.trans hr9)
            obtain rfl : g20 = zn84 := hn95.symm
            obtain ⟨hP, hD⟩ : PDq D A [(oX10 w0 v0 v1 v2 v3 v4 g5 g6 (nI ed) g8 v9 (nI nb) g11 g12 v13 (nI ln) (nI (gP (((ti + 1) + 1) + 1))) (nI (gR ((((ti + 1) + 1) + 1) + 1))) zn81 zn82 zn83 g20 zn85 g22 (nI dd) (nI cd) zn87 zn86 v27 v28 v29 v30 v31 v32 v33 v34 v35 v36 v37 (nI ol)), (v9, .inl (cA 0, 700, .inl fb)), (v13, .inl (cA 1, 15, .inr (.inl fkw))), (v1, .inl (cA 0, 326, .inl fn88))] H := ⟨hP, hD⟩
            have hn96 := hn96 (hw.1.trans hr9)
            obtain rfl : g21 = zn85 := hn96.symm
            obtain ⟨hP, hD⟩ : PDq D A [(oX10 w0 v0 v1 v2 v3 v4 g5 g6 (nI ed) g8 v9 (nI nb) g11 g12 v13 (nI ln) (nI (gP (((ti + 1) + 1) + 1))) (nI (gR ((((ti + 1) + 1) + 1) + 1))) zn81 zn82 zn83 g20 g21 g22 (nI dd) (nI cd) zn87 zn86 v27 v28 v29 v30 v31 v32 v33 v34 v35 v36 v37 (nI ol)), (v9, .inl (cA 0, 700, .inl fb)), (v13, .inl (cA 1, 15, .inr (.inl fkw))), (v1, .inl (cA 0, 326, .inl fn88))] H := ⟨hP, hD⟩
            have hn97 := hn97 (hw.1.trans hr9)
            have hn98 := hn98 (hw.1.trans hr9)
            subst hr9
            obtain ⟨hP9, hD9⟩ := PDq.sub (ws' := [(oX10 w0 v0 v1 v2 v3 v4 g5 g6 (nI ed) g8 v9 (nI nb) g11 g12 v13 (nI ln) (nI (gP (((ti + 1) + 1) + 1))) (nI (gR ((((ti + 1) + 1) + 1) + 1))) zn81 zn82 zn83 g20 g21 g22 (nI dd) (nI cd) zn87 zn86 v27 v28 v29 v30 v31 v32 v33 v34 v35 v36 v37 (nI ol)), (v9, .inl (cA 0, 700, .inl fb)), (v13, .inl (cA 1, 15, .inr (.inl fkw))), (v1, .inl (cA 0, 326, .inl fn88))]) hP hD [0, 1, 2, 3] (by decide) rfl
            refine W.widen (k := 0) (n := 0) (Nat.le_of_ble_eq_true rfl) (Nat.le_of_ble_eq_true rfl) ?_
            exact (W.zret (v := 1) hx hb hr (by first | rfl | decide) (fun t ht hW => ⟨⟨1, 1, rfl, ⟨rfl, by decide⟩, (((ti + 1) + 1) + 1), zn81, zn82, zn83, g20, g21, zn86, zn87, fn88, hn89, hn90, (by omega), hn92, hn93, (fun _ => rfl), (fun _ => rfl), (fun _ => (by omega)), (fun _ => (by omega)), (fun _ => (S_rate hk hn27 (fun q9 => q9.2 (Or.inr ((i64_36 (TKR.num hn21 c32).2 365 (by decide)).mpr c78))) hn98)), (fun h9 => absurd h9 (by decide)), by rw [ht]; exact hP9, hD9⟩, hS.F ht⟩) hS.2.2 dX10_rate_64)
        · skip
          refine lv_aload_n hx hb dX10_rate_47 rfl (lv_at hl 0 rfl) ?_
          refine lv_iconst (v := 3) hx hb dX10_rate_48 (by decide) ?_
          obtain ⟨hPc, hDc, hFc⟩ := PDq.cut (wc := [(oX10 w0 v0 v1 v2 v3 v4 g5 g6 (nI ed) g8 v9 (nI nb) g11 g12 v13 (nI ln) (nI (gP ((ti + 1) + 1))) (nI (gR (((ti + 1) + 1) + 1))) zn10 zn11 zn12 g20 g21 g22 (nI dd) (nI cd) zn16 zn15 v27 v28 v29 v30 v31 v32 v33 v34 v35 v36 v37 (nI ol))]) hP hD hS hA [0] (by decide) rfl
          refine va_calli (va_runV (As := [.int 3]) (rest := []) ⟨hx, hb, hml, hown, hts⟩ (y_fail l D cA sa w0 ed nb ol v0 v1 v2 v3 v4 v9 v13 v27 v28 v29 v30 v31 v32 v33 v34 v35 v36 v37 g8 g11 g12 zn12 g20 g21 g22 (nI dd) zn15 g5 g6 zn16 ln cd zn10 zn11 ((ti + 1) + 1) ct fb gP gR gS gK gV 3 H.size hln hct hn18 hTX hBY hn21) (cwV 1 hts gX10_rate_X10_fail rfl rfl rfl (by decide +kernel) ⟨(Nat.le_of_ble_eq_true rfl), (Nat.le_of_ble_eq_true rfl)⟩) ⟨Wd.blind, va_recv hK hPc (ci := 11) (q0 := 0) rfl rfl, fun U hU hW => ⟨rfl, Wd.call hPc hDc hK hC hZ hS hFc U hU hW⟩⟩ rfl rfl hl.1 rfl (lv_room (Nat.le_of_ble_eq_true rfl)) dX10_rate_49 ⟨(Nat.le_of_ble_eq_true rfl), (Nat.le_of_ble_eq_true rfl)⟩) hS (fun q _ h => hFc q h) hFc (fun rn101 u t H1 locs ht hvm hw hB hz1 hk1 hS => ?_)
          obtain ⟨zn102, hn103, hP1, hD1⟩ := hB
          rw [ht] at hP1
          obtain ⟨hP, hD⟩ := PDq.join (w := [(v9, .inl (cA 0, 700, .inl fb)), (v13, .inl (cA 1, 15, .inr (.inl fkw))), (v1, .inl (cA 0, 326, .inl fn17)), (oX10 w0 v0 v1 v2 v3 v4 g5 g6 (nI ed) g8 v9 (nI nb) g11 g12 v13 (nI ln) (nI (gP ((ti + 1) + 1))) (nI (gR (((ti + 1) + 1) + 1))) zn10 zn11 zn12 zn102 (nI (gP ((ti + 1) + 1))) g22 (nI dd) (nI cd) zn16 zn15 v27 v28 v29 v30 v31 v32 v33 v34 v35 v36 v37 (nI ol))]) 3 hP hD [0] [1, 2, 3] rfl rfl (by decide) (by decide) hk1 hFc hP1 hD1 rfl
          generalize H1 = H at hP hS ⊢
          obtain rfl : rn101 = 0 := hw
          obtain ⟨hP9, hD9⟩ := PDq.sub (ws' := [(oX10 w0 v0 v1 v2 v3 v4 g5 g6 (nI ed) g8 v9 (nI nb) g11 g12 v13 (nI ln) (nI (gP ((ti + 1) + 1))) (nI (gR (((ti + 1) + 1) + 1))) zn10 zn11 zn12 zn102 (nI (gP ((ti + 1) + 1))) g22 (nI dd) (nI cd) zn16 zn15 v27 v28 v29 v30 v31 v32 v33 v34 v35 v36 v37 (nI ol)), (v9, .inl (cA 0, 700, .inl fb)), (v13, .inl (cA 1, 15, .inr (.inl fkw))), (v1, .inl (cA 0, 326, .inl fn17))]) hP hD [3, 0, 1, 2] (by decide) rfl
          refine W.widen (k := 0) (n := 0) (Nat.le_of_ble_eq_true rfl) (Nat.le_of_ble_eq_true rfl) ?_
          exact (W.zret (v := 0) hx hb hr (by first | rfl | decide) (fun t ht hW => ⟨⟨0, 0, rfl, ⟨rfl, by decide⟩, ((ti + 1) + 1), zn10, zn11, zn12, zn102, (nI (gP ((ti + 1) + 1))), zn15, zn16, fn17, hn18, hn19, (by omega), hn21, hn22, (fun h9 => absurd h9 (by decide)), (fun h9 => absurd h9 (by decide)), (fun h9 => absurd h9 (by decide)), (fun h9 => absurd h9 (by decide)), (fun h9 => absurd h9 (by decide)), (fun _ => (S_rateBx hk hn27 ⟨(TKR.num hn21 c32).1, fun q9 => q9.elim (fun z9 => c55 ((i64_36 (TKR.num hn21 c32).2 360 (by decide)).mp z9)) (fun z9 => c78 ((i64_36 (TKR.num hn21 c32).2 365 (by decide)).mp z9))⟩ hn103 (TX.s hTX (show (ti + 1) + 1 < ct by omega)))), by rw [ht]; exact hP9, hD9⟩, hS.F ht⟩) hS.2.2 dX10_rate_52)

set_option maxHeartbeats 4000000 in
set_option maxRecDepth 100000 in
/-- reference: setting -/
theorem y_setting2 (l : Launch) (D : va_G) (cA : Nat → ClassId) (sa : Nat → Nat) (w0 : Nat) (ed : Nat) (nb : Nat) (ol : Nat) (v0 : Nat) (v1 : Nat) (v2 : Nat) (v3 : Nat) (v4 : Nat) (v9 : Nat) (v13 : Nat) (v27 : Nat) (v28 : Nat) (v29 : Nat) (v30 : Nat) (v31 : Nat) (v32 : Nat) (v33 : Nat) (v34 : Nat) (v35 : Nat) (v36 : Nat) (v37 : Nat) (g8 : Int32) (g11 : Int32) (g12 : Int32) (g19 : Int32) (g20 : Int32) (g21 : Int32) (g22 : Int32) (g26 : Int32) (g5 : Int64) (g6 : Int64) (g25 : Int64) (ln : Nat) (cd : Nat) (tk : Int32) (kw : Int32) (ti : Nat) (ct : Nat) (fb : Nat → Int32) (fkw : Nat → Int64) (gP : Nat → Nat) (gR : Nat → Nat) (gS : Nat → Int32) (gK : Nat → Int32) (gV : Nat → Int64) (cn : Nat) (pq : Nat) (en : Nat) (dy : Nat) (fp : Nat → Int32) (dd : Nat) (ml : List Int64) (pl : List Int64) (sz : Nat) (hln : ln ≤ 700) (hct : ct ≤ 701) (hti : ti < ct) (hTX : TX fb ln ct gP gR gS gV gK) (hBY : BYn ln fb) (hTK : TKR (gK ti) (gV ti) (fb (gP ti)) tk kw g19 g25) (hKW : KW 15 fkw) (hk : gK ti = 9) (hdd : dd ≤ 6) (hcn : cn ≤ 10) (hpq : pq ≤ 8) (hen : en ≤ 60) (hdy : dy ≤ 20000) (hri : RI cn pq en dy fp) : Met l yX10_setting wsX10_setting ({ frames := 4, cells := 0, slots := 0, locals := 89 }) (va_Pc [.ref w0, .int 2, .int 2000] (Wd D cA sa [(oX10 w0 v0 v1 v2 v3 v4 g5 g6 (nI ed) g8 v9 (nI nb) g11 g12 v13 (nI ln) (nI (gP ti)) (nI (gR (ti + 1))) tk kw g19 g20 g21 g22 (nI dd) (nI cd) g25 g26 v27 v28 v29 v30 v31 v32 v33 v34 v35 v36 v37 (nI ol)), (v9, .inl (cA 0, 700, .inl fb)), (v13, .inl (cA 1, 15, .inr (.inl fkw))), (v1, .inl (cA 0, 326, .inl fp))] sz)) (va_Qi (fun (r : Int32) (u9 : Int32) => u9 = r ∧ (r = 0 ∨ r = 1)) (fun (u9 : Int32) t => ∃ tj : Nat, ∃ z17 : Int32, ∃ z18 : Int32, ∃ z19 : Int32, ∃ z20 : Int32, ∃ z21 : Int32, ∃ z26 : Int32, ∃ z25 : Int64, ∃ zp : Nat → Int32, tj < ct ∧ gP tj ≤ ln ∧ ti ≤ tj ∧ TKR (gK tj) (gV tj) (fb (gP tj)) z17 z18 z19 z25 ∧ RI cn pq en dy zp ∧ (u9 = 1 → z20 = g20) ∧ (u9 = 1 → z21 = g21) ∧ (u9 = 1 → ti + 1 ≤ tj) ∧ (u9 = 1 → gP ti + 1 ≤ gP tj) ∧ (u9 = 1 → SRx gK gS gV ti dd ml pl (.inr (tj, dd, ml, pl))) ∧ (u9 = 0 → SRx gK gS gV ti dd ml pl (.inl (z20, z21))) ∧ Wq D (va_A [(oX10 w0 v0 v1 v2 v3 v4 g5 g6 (nI ed) g8 v9 (nI nb) g11 g12 v13 (nI ln) (nI (gP ti)) (nI (gR (ti + 1))) tk kw g19 g20 g21 g22 (nI dd) (nI cd) g25 g26 v27 v28 v29 v30 v31 v32 v33 v34 v35 v36 v37 (nI ol)), (v9, .inl (cA 0, 700, .inl fb)), (v13, .inl (cA 1, 15, .inr (.inl fkw))), (v1, .inl (cA 0, 326, .inl fp))] sz) [(oX10 w0 v0 v1 v2 v3 v4 g5 g6 (nI ed) g8 v9 (nI nb) g11 g12 v13 (nI ln) (nI (gP tj)) (nI (gR (tj + 1))) z17 z18 z19 z20 z21 g22 (nI dd) (nI cd) z25 z26 v27 v28 v29 v30 v31 v32 v33 v34 v35 v36 v37 (nI ol)), (v9, .inl (cA 0, 700, .inl fb)), (v13, .inl (cA 1, 15, .inr (.inl fkw))), (v1, .inl (cA 0, 326, .inl zp))] t) (va_A [(oX10 w0 v0 v1 v2 v3 v4 g5 g6 (nI ed) g8 v9 (nI nb) g11 g12 v13 (nI ln) (nI (gP ti)) (nI (gR (ti + 1))) tk kw g19 g20 g21 g22 (nI dd) (nI cd) g25 g26 v27 v28 v29 v30 v31 v32 v33 v34 v35 v36 v37 (nI ol)), (v9, .inl (cA 0, 700, .inl fb)), (v13, .inl (cA 1, 15, .inr (.inl fkw))), (v1, .inl (cA 0, 326, .inl fp))] sz)) 0 0 (va_A [(oX10 w0 v0 v1 v2 v3 v4 g5 g6 (nI ed) g8 v9 (nI nb) g11 g12 v13 (nI ln) (nI (gP ti)) (nI (gR (ti + 1))) tk kw g19 g20 g21 g22 (nI dd) (nI cd) g25 g26 v27 v28 v29 v30 v31 v32 v33 v34 v35 v36 v37 (nI ol)), (v9, .inl (cA 0, 700, .inl fb)), (v13, .inl (cA 1, 15, .inr (.inl fkw))), (v1, .inl (cA 0, 326, .inl fp))] sz) := by
  refine Met.ofW (cc := cX10_setting) (maxL := 3) (ret := (some .boolean)) (by decide) rfl ?_
  intro p e s m args below meth c s₁ B hml hv
  obtain ⟨rfl, hsz, hP, hK, hD0, hC, hZ⟩ := hv
  have hx := B.exec
  have hb := B.bytes
  have hr := B.returns
  have hts := atoms_spec (ws := wsX10_setting) B.pre
  have hown : s.vm.findClass RX10 = some m.cls := findClass_of_methodNamed B.named
  have hlocks := B.notSynchronized
  subst hsz
  have hD := hD0.self (sz := s.heap.size)
  generalize hAe : va_A [(oX10 w0 v0 v1 v2 v3 v4 g5 g6 (nI ed) g8 v9 (nI nb) g11 g12 v13 (nI ln) (nI (gP ti)) (nI (gR (ti + 1))) tk kw g19 g20 g21 g22 (nI dd) (nI cd) g25 g26 v27 v28 v29 v30 v31 v32 v33 v34 v35 v36 v37 (nI ol)), (v9, .inl (cA 0, 700, .inl fb)), (v13, .inl (cA 1, 15, .inr (.inl fkw))), (v1, .inl (cA 0, 326, .inl fp))] s.heap.size = A at hD hZ ⊢
  have hA : ∀ q : Nat, s.heap.size ≤ q → A q := fun q h => by rw [← hAe]; exact Or.inr h
  have hS : va_S A s.heap s.heap [] := va_S.rf
  have hP : va_P D vwCl [(oX10 w0 v0 v1 v2 v3 v4 g5 g6 (nI ed) g8 v9 (nI nb) g11 g12 v13 (nI ln) (nI (gP ti)) (nI (gR (ti + 1))) tk kw g19 g20 g21 g22 (nI dd) (nI cd) g25 g26 v27 v28 v29 v30 v31 v32 v33 v34 v35 v36 v37 (nI ol)), (v9, .inl (cA 0, 700, .inl fb)), (v13, .inl (cA 1, 15, .inr (.inl fkw))), (v1, .inl (cA 0, 326, .inl fp))] s.heap := hP
  have hl := lv_entry ([.ref w0, .int 2, .int 2000]) (n := 3) (Nat.le_of_ble_eq_true rfl)
  rw [lg_entry_eq]
  generalize (lg_sl ([.ref w0, .int 2, .int 2000]) ++ List.replicate (3 - (lg_sl ([.ref w0, .int 2, .int 2000])).length) Slot.unset).toArray = ls at hl ⊢
  have hl : lv_has ls 3 [(0, .ref w0), (1, .int 2), (2, .int 2000)] := hl
  have hle9 := TX.le hTX hti
  refine lv_aload_n hx hb dX10_setting_0 rfl (lv_at hl 0 rfl) ?_
  have hn1 := TX.go2 hTX (show ti < ct by omega) (by rw [hk]; decide)
  have hn1a := TX.le hTX (show ti < ct by omega)
  have hn1b := TX.le hTX hn1.1
  obtain ⟨hPc, hDc, hFc⟩ := PDq.cut (wc := [(oX10 w0 v0 v1 v2 v3 v4 g5 g6 (nI ed) g8 v9 (nI nb) g11 g12 v13 (nI ln) (nI (gP ti)) (nI (gR (ti + 1))) tk kw g19 g20 g21 g22 (nI dd) (nI cd) g25 g26 v27 v28 v29 v30 v31 v32 v33 v34 v35 v36 v37 (nI ol)), (v9, .inl (cA 0, 700, .inl fb)), (v13, .inl (cA 1, 15, .inr (.inl fkw)))]) hP hD hS hA [0, 1, 2] (by decide) rfl
  refine va_calli (va_runV (As := []) (rest := []) ⟨hx, hb, hml, hown, hts⟩ (y_advance l D cA sa w0 ed nb ol v0 v1 v2 v3 v4 v9 v13 v27 v28 v29 v30 v31 v32 v33 v34 v35 v36 v37 g8 g11 g12 (nI (gP ti)) tk kw g19 g20 g21 g22 (nI dd) (nI cd) g26 g5 g6 g25 ln (gR (ti + 1)) fb fkw (gP (ti + 1)) (gR ((ti + 1) + 1)) (gK (ti + 1)) (gV (ti + 1)) s.heap.size hln (by omega) hKW hBY (TX.t hTX hn1.1)) (cwV 0 hts gX10_setting_X10_advance rfl rfl rfl (by decide +kernel) ⟨(Nat.le_of_ble_eq_true rfl), (Nat.le_of_ble_eq_true rfl)⟩) ⟨Wd.blind, va_recv hK hPc (ci := 11) (q0 := 0) rfl rfl, fun U hU hW => ⟨rfl, Wd.call hPc hDc hK hC hZ hS hFc U hU hW⟩⟩ rfl rfl hl.1 rfl (lv_room (Nat.le_of_ble_eq_true rfl)) dX10_setting_1 ⟨(Nat.le_of_ble_eq_true rfl), (Nat.le_of_ble_eq_true rfl)⟩) hS (fun q _ h => hFc q h) hFc (fun rn2 u t H1 locs ht hvm hw hB hz1 hk1 hS => ?_)
  obtain ⟨zn3, zn4, zn5, zn6, hn7, hP1, hD1⟩ := hB
  rw [ht] at hP1
  obtain ⟨hP, hD⟩ := PDq.join (w := [(v1, .inl (cA 0, 326, .inl fp)), (oX10 w0 v0 v1 v2 v3 v4 g5 g6 (nI ed) g8 v9 (nI nb) g11 g12 v13 (nI ln) (nI (gP (ti + 1))) (nI (gR ((ti + 1) + 1))) zn3 zn4 zn5 g20 g21 g22 (nI dd) (nI cd) zn6 g26 v27 v28 v29 v30 v31 v32 v33 v34 v35 v36 v37 (nI ol)), (v9, .inl (cA 0, 700, .inl fb)), (v13, .inl (cA 1, 15, .inr (.inl fkw)))]) 1 hP hD [0, 1, 2] [3] rfl rfl (by decide) (by decide) hk1 hFc hP1 hD1 rfl
  generalize H1 = H at hP hS ⊢
  obtain rfl : rn2 = 1 := hw
  refine lv_pop hx hb dX10_setting_4 rfl ?_
  refine lv_aload_n hx hb dX10_setting_5 rfl (lv_at hl 0 rfl) ?_
  refine lv_iload_n hx hb dX10_setting_6 rfl (lv_at hl 1 rfl) ?_
  refine lv_iconst (v := 0) hx hb dX10_setting_7 (by decide) ?_
  refine lv_iload_n hx hb dX10_setting_8 rfl (lv_at hl 2 rfl) ?_
  obtain ⟨hPc, hDc, hFc⟩ := PDq.cut (wc := [(oX10 w0 v0 v1 v2 v3 v4 g5 g6 (nI ed) g8 v9 (nI nb) g11 g12 v13 (nI ln) (nI (gP (ti + 1))) (nI (gR ((ti + 1) + 1))) zn3 zn4 zn5 g20 g21 g22 (nI dd) (nI cd) zn6 g26 v27 v28 v29 v30 v31 v32 v33 v34 v35 v36 v37 (nI ol)), (v9, .inl (cA 0, 700, .inl fb)), (v13, .inl (cA 1, 15, .inr (.inl fkw))), (v1, .inl (cA 0, 326, .inl fp))]) hP hD hS hA [1, 2, 3, 0] (by decide) rfl
  refine va_calli (va_runV (As := [.int 2, .int 0, .int 2000]) (rest := []) ⟨hx, hb, hml, hown, hts⟩ (y_numberTo2 l D cA sa w0 ed nb ol v0 v1 v2 v3 v4 v9 v13 v27 v28 v29 v30 v31 v32 v33 v34 v35 v36 v37 g8 g11 g12 zn5 g20 g21 g22 (nI dd) g26 g5 g6 zn6 ln cd zn3 zn4 (ti + 1) ct fb fkw gP gR gS gK gV cn pq en dy fp 0 2000 H.size hln hct hn1.1 hTX hBY hn7 hKW (by omega) (by omega) hcn hpq hen hdy hri) (cwV 3 hts gX10_setting_X10_numberTo rfl rfl rfl (by decide +kernel) ⟨(Nat.le_of_ble_eq_true rfl), (Nat.le_of_ble_eq_true rfl)⟩) ⟨Wd.blind, va_recv hK hPc (ci := 11) (q0 := 0) rfl rfl, fun U hU hW => ⟨rfl, Wd.call hPc hDc hK hC hZ hS hFc U hU hW⟩⟩ rfl rfl hl.1 rfl (lv_room (Nat.le_of_ble_eq_true rfl)) dX10_setting_9 ⟨(Nat.le_of_ble_eq_true rfl), (Nat.le_of_ble_eq_true rfl)⟩) hS (fun q _ h => hFc q h) hFc (fun rn8 u t H1 locs ht hvm hw hB hz1 hk1 hS => ?_)
  obtain ⟨qn9, zn10, zn11, zn12, zn13, zn14, zn15, zn16, fn17, hn18, hn19, hn20, hn21, hn22, hn23, hn24, hn25, hn26, hn27, hn28, hn29, hP1, hD1⟩ := hB
  rw [ht] at hP1
  obtain ⟨hP, hD⟩ := PDq.join (w := [(oX10 w0 v0 v1 v2 v3 v4 g5 g6 (nI ed) g8 v9 (nI nb) g11 g12 v13 (nI ln) (nI (gP qn9)) (nI (gR (qn9 + 1))) zn10 zn11 zn12 zn13 zn14 g22 (nI dd) (nI cd) zn16 zn15 v27 v28 v29 v30 v31 v32 v33 v34 v35 v36 v37 (nI ol)), (v9, .inl (cA 0, 700, .inl fb)), (v13, .inl (cA 1, 15, .inr (.inl fkw))), (v1, .inl (cA 0, 326, .inl fn17))]) 0 hP hD [1, 2, 3, 0] [] rfl rfl (by decide) (by decide) hk1 hFc hP1 hD1 rfl
  generalize H1 = H at hP hS ⊢
  rcases hw.2 with hr9 | hr9
  · skip
    have hn28 := hn28 (hw.1.trans hr9)
    have hn29 := hn29 (hw.1.trans hr9)
    subst hr9
    obtain ⟨hP9, hD9⟩ := PDq.sub (ws' := [(oX10 w0 v0 v1 v2 v3 v4 g5 g6 (nI ed) g8 v9 (nI nb) g11 g12 v13 (nI ln) (nI (gP qn9)) (nI (gR (qn9 + 1))) zn10 zn11 zn12 zn13 zn14 g22 (nI dd) (nI cd) zn16 zn15 v27 v28 v29 v30 v31 v32 v33 v34 v35 v36 v37 (nI ol)), (v9, .inl (cA 0, 700, .inl fb)), (v13, .inl (cA 1, 15, .inr (.inl fkw))), (v1, .inl (cA 0, 326, .inl fn17))]) hP hD [0, 1, 2, 3] (by decide) rfl
    refine W.widen (k := 0) (n := 0) (Nat.le_of_ble_eq_true rfl) (Nat.le_of_ble_eq_true rfl) ?_
    exact (W.zret (v := 0) hx hb hr (by first | rfl | decide) (fun t ht hW => ⟨⟨0, 0, rfl, ⟨rfl, by decide⟩, qn9, zn10, zn11, zn12, zn13, zn14, zn15, zn16, fn17, hn18, hn19, (by omega), hn21, hn22, (fun h9 => absurd h9 (by decide)), (fun h9 => absurd h9 (by decide)), (fun h9 => absurd h9 (by decide)), (fun h9 => absurd h9 (by decide)), (fun h9 => absurd h9 (by decide)), (fun _ => (S_feeEx hk hn28 hn29)), by rw [ht]; exact hP9, hD9⟩, hS.F ht⟩) hS.2.2 dX10_setting_12)
  · skip
    have hn23 := hn23 (hw.1.trans hr9)
    subst hn23
    obtain ⟨hP, hD⟩ : PDq D A [(oX10 w0 v0 v1 v2 v3 v4 g5 g6 (nI ed) g8 v9 (nI nb) g11 g12 v13 (nI ln) (nI (gP ((ti + 1) + 1))) (nI (gR (((ti + 1) + 1) + 1))) zn10 zn11 zn12 zn13 zn14 g22 (nI dd) (nI cd) zn16 zn15 v27 v28 v29 v30 v31 v32 v33 v34 v35 v36 v37 (nI ol)), (v9, .inl (cA 0, 700, .inl fb)), (v13, .inl (cA 1, 15, .inr (.inl fkw))), (v1, .inl (cA 0, 326, .inl fn17))] H := ⟨hP, hD⟩
    have hn24 := hn24 (hw.1.trans hr9)
    obtain rfl : g20 = zn13 := hn24.symm
    obtain ⟨hP, hD⟩ : PDq D A [(oX10 w0 v0 v1 v2 v3 v4 g5 g6 (nI ed) g8 v9 (nI nb) g11 g12 v13 (nI ln) (nI (gP ((ti + 1) + 1))) (nI (gR (((ti + 1) + 1) + 1))) zn10 zn11 zn12 g20 zn14 g22 (nI dd) (nI cd) zn16 zn15 v27 v28 v29 v30 v31 v32 v33 v34 v35 v36 v37 (nI ol)), (v9, .inl (cA 0, 700, .inl fb)), (v13, .inl (cA 1, 15, .inr (.inl fkw))), (v1, .inl (cA 0, 326, .inl fn17))] H := ⟨hP, hD⟩
    have hn25 := hn25 (hw.1.trans hr9)
    obtain rfl : g21 = zn14 := hn25.symm
    obtain ⟨hP, hD⟩ : PDq D A [(oX10 w0 v0 v1 v2 v3 v4 g5 g6 (nI ed) g8 v9 (nI nb) g11 g12 v13 (nI ln) (nI (gP ((ti + 1) + 1))) (nI (gR (((ti + 1) + 1) + 1))) zn10 zn11 zn12 g20 g21 g22 (nI dd) (nI cd) zn16 zn15 v27 v28 v29 v30 v31 v32 v33 v34 v35 v36 v37 (nI ol)), (v9, .inl (cA 0, 700, .inl fb)), (v13, .inl (cA 1, 15, .inr (.inl fkw))), (v1, .inl (cA 0, 326, .inl fn17))] H := ⟨hP, hD⟩
    have hn26 := hn26 (hw.1.trans hr9)
    have hn27 := hn27 (hw.1.trans hr9)
    subst hr9
    obtain ⟨hP9, hD9⟩ := PDq.sub (ws' := [(oX10 w0 v0 v1 v2 v3 v4 g5 g6 (nI ed) g8 v9 (nI nb) g11 g12 v13 (nI ln) (nI (gP ((ti + 1) + 1))) (nI (gR (((ti + 1) + 1) + 1))) zn10 zn11 zn12 g20 g21 g22 (nI dd) (nI cd) zn16 zn15 v27 v28 v29 v30 v31 v32 v33 v34 v35 v36 v37 (nI ol)), (v9, .inl (cA 0, 700, .inl fb)), (v13, .inl (cA 1, 15, .inr (.inl fkw))), (v1, .inl (cA 0, 326, .inl fn17))]) hP hD [0, 1, 2, 3] (by decide) rfl
    refine W.widen (k := 0) (n := 0) (Nat.le_of_ble_eq_true rfl) (Nat.le_of_ble_eq_true rfl) ?_
    exact (W.zret (v := 1) hx hb hr (by first | rfl | decide) (fun t ht hW => ⟨⟨1, 1, rfl, ⟨rfl, by decide⟩, ((ti + 1) + 1), zn10, zn11, zn12, g20, g21, zn15, zn16, fn17, hn18, hn19, (by omega), hn21, hn22, (fun _ => rfl), (fun _ => rfl), (fun _ => (by omega)), (fun _ => (by omega)), (fun _ => (S_fee hk hn27)), (fun h9 => absurd h9 (by decide)), by rw [ht]; exact hP9, hD9⟩, hS.F ht⟩) hS.2.2 dX10_setting_12)

set_option maxHeartbeats 4000000 in
set_option maxRecDepth 100000 in
/-- reference: setting -/
theorem y_setting3 (l : Launch) (D : va_G) (cA : Nat → ClassId) (sa : Nat → Nat) (w0 : Nat) (ed : Nat) (nb : Nat) (ol : Nat) (v0 : Nat) (v1 : Nat) (v2 : Nat) (v3 : Nat) (v4 : Nat) (v9 : Nat) (v13 : Nat) (v27 : Nat) (v28 : Nat) (v29 : Nat) (v30 : Nat) (v31 : Nat) (v32 : Nat) (v33 : Nat) (v34 : Nat) (v35 : Nat) (v36 : Nat) (v37 : Nat) (g8 : Int32) (g11 : Int32) (g12 : Int32) (g19 : Int32) (g20 : Int32) (g21 : Int32) (g22 : Int32) (g26 : Int32) (g5 : Int64) (g6 : Int64) (g25 : Int64) (ln : Nat) (cd : Nat) (tk : Int32) (kw : Int32) (ti : Nat) (ct : Nat) (fb : Nat → Int32) (fkw : Nat → Int64) (gP : Nat → Nat) (gR : Nat → Nat) (gS : Nat → Int32) (gK : Nat → Int32) (gV : Nat → Int64) (cn : Nat) (pq : Nat) (en : Nat) (dy : Nat) (fp : Nat → Int32) (dd : Nat) (ml : List Int64) (pl : List Int64) (sz : Nat) (hln : ln ≤ 700) (hct : ct ≤ 701) (hti : ti < ct) (hTX : TX fb ln ct gP gR gS gV gK) (hBY : BYn ln fb) (hTK : TKR (gK ti) (gV ti) (fb (gP ti)) tk kw g19 g25) (hKW : KW 15 fkw) (hk : gK ti = 10) (hdd : dd ≤ 6) (hcn : cn ≤ 10) (hpq : pq ≤ 8) (hen : en ≤ 60) (hdy : dy ≤ 20000) (hri : RI cn pq en dy fp) : Met l yX10_setting wsX10_setting ({ frames := 4, cells := 0, slots := 0, locals := 89 }) (va_Pc [.ref w0, .int 3, .int 60] (Wd D cA sa [(oX10 w0 v0 v1 v2 v3 v4 g5 g6 (nI ed) g8 v9 (nI nb) g11 g12 v13 (nI ln) (nI (gP ti)) (nI (gR (ti + 1))) tk kw g19 g20 g21 g22 (nI dd) (nI cd) g25 g26 v27 v28 v29 v30 v31 v32 v33 v34 v35 v36 v37 (nI ol)), (v9, .inl (cA 0, 700, .inl fb)), (v13, .inl (cA 1, 15, .inr (.inl fkw))), (v1, .inl (cA 0, 326, .inl fp))] sz)) (va_Qi (fun (r : Int32) (u9 : Int32) => u9 = r ∧ (r = 0 ∨ r = 1)) (fun (u9 : Int32) t => ∃ tj : Nat, ∃ z17 : Int32, ∃ z18 : Int32, ∃ z19 : Int32, ∃ z20 : Int32, ∃ z21 : Int32, ∃ z26 : Int32, ∃ z25 : Int64, ∃ zp : Nat → Int32, tj < ct ∧ gP tj ≤ ln ∧ ti ≤ tj ∧ TKR (gK tj) (gV tj) (fb (gP tj)) z17 z18 z19 z25 ∧ RI cn pq en dy zp ∧ (u9 = 1 → z20 = g20) ∧ (u9 = 1 → z21 = g21) ∧ (u9 = 1 → ti + 1 ≤ tj) ∧ (u9 = 1 → gP ti + 1 ≤ gP tj) ∧ (u9 = 1 → SRx gK gS gV ti dd ml pl (.inr (tj, dd, ml, pl))) ∧ (u9 = 0 → SRx gK gS gV ti dd ml pl (.inl (z20, z21))) ∧ Wq D (va_A [(oX10 w0 v0 v1 v2 v3 v4 g5 g6 (nI ed) g8 v9 (nI nb) g11 g12 v13 (nI ln) (nI (gP ti)) (nI (gR (ti + 1))) tk kw g19 g20 g21 g22 (nI dd) (nI cd) g25 g26 v27 v28 v29 v30 v31 v32 v33 v34 v35 v36 v37 (nI ol)), (v9, .inl (cA 0, 700, .inl fb)), (v13, .inl (cA 1, 15, .inr (.inl fkw))), (v1, .inl (cA 0, 326, .inl fp))] sz) [(oX10 w0 v0 v1 v2 v3 v4 g5 g6 (nI ed) g8 v9 (nI nb) g11 g12 v13 (nI ln) (nI (gP tj)) (nI (gR (tj + 1))) z17 z18 z19 z20 z21 g22 (nI dd) (nI cd) z25 z26 v27 v28 v29 v30 v31 v32 v33 v34 v35 v36 v37 (nI ol)), (v9, .inl (cA 0, 700, .inl fb)), (v13, .inl (cA 1, 15, .inr (.inl fkw))), (v1, .inl (cA 0, 326, .inl zp))] t) (va_A [(oX10 w0 v0 v1 v2 v3 v4 g5 g6 (nI ed) g8 v9 (nI nb) g11 g12 v13 (nI ln) (nI (gP ti)) (nI (gR (ti + 1))) tk kw g19 g20 g21 g22 (nI dd) (nI cd) g25 g26 v27 v28 v29 v30 v31 v32 v33 v34 v35 v36 v37 (nI ol)), (v9, .inl (cA 0, 700, .inl fb)), (v13, .inl (cA 1, 15, .inr (.inl fkw))), (v1, .inl (cA 0, 326, .inl fp))] sz)) 0 0 (va_A [(oX10 w0 v0 v1 v2 v3 v4 g5 g6 (nI ed) g8 v9 (nI nb) g11 g12 v13 (nI ln) (nI (gP ti)) (nI (gR (ti + 1))) tk kw g19 g20 g21 g22 (nI dd) (nI cd) g25 g26 v27 v28 v29 v30 v31 v32 v33 v34 v35 v36 v37 (nI ol)), (v9, .inl (cA 0, 700, .inl fb)), (v13, .inl (cA 1, 15, .inr (.inl fkw))), (v1, .inl (cA 0, 326, .inl fp))] sz) := by
  refine Met.ofW (cc := cX10_setting) (maxL := 3) (ret := (some .boolean)) (by decide) rfl ?_
  intro p e s m args below meth c s₁ B hml hv
  obtain ⟨rfl, hsz, hP, hK, hD0, hC, hZ⟩ := hv
  have hx := B.exec
  have hb := B.bytes
  have hr := B.returns
  have hts := atoms_spec (ws := wsX10_setting) B.pre
  have hown : s.vm.findClass RX10 = some m.cls := findClass_of_methodNamed B.named
  have hlocks := B.notSynchronized
  subst hsz
  have hD := hD0.self (sz := s.heap.size)
  generalize hAe : va_A [(oX10 w0 v0 v1 v2 v3 v4 g5 g6 (nI ed) g8 v9 (nI nb) g11 g12 v13 (nI ln) (nI (gP ti)) (nI (gR (ti + 1))) tk kw g19 g20 g21 g22 (nI dd) (nI cd) g25 g26 v27 v28 v29 v30 v31 v32 v33 v34 v35 v36 v37 (nI ol)), (v9, .inl (cA 0, 700, .inl fb)), (v13, .inl (cA 1, 15, .inr (.inl fkw))), (v1, .inl (cA 0, 326, .inl fp))] s.heap.size = A at hD hZ ⊢
  have hA : ∀ q : Nat, s.heap.size ≤ q → A q := fun q h => by rw [← hAe]; exact Or.inr h
  have hS : va_S A s.heap s.heap [] := va_S.rf
  have hP : va_P D vwCl [(oX10 w0 v0 v1 v2 v3 v4 g5 g6 (nI ed) g8 v9 (nI nb) g11 g12 v13 (nI ln) (nI (gP ti)) (nI (gR (ti + 1))) tk kw g19 g20 g21 g22 (nI dd) (nI cd) g25 g26 v27 v28 v29 v30 v31 v32 v33 v34 v35 v36 v37 (nI ol)), (v9, .inl (cA 0, 700, .inl fb)), (v13, .inl (cA 1, 15, .inr (.inl fkw))), (v1, .inl (cA 0, 326, .inl fp))] s.heap := hP
  have hl := lv_entry ([.ref w0, .int 3, .int 60]) (n := 3) (Nat.le_of_ble_eq_true rfl)
  rw [lg_entry_eq]
  generalize (lg_sl ([.ref w0, .int 3, .int 60]) ++ List.replicate (3 - (lg_sl ([.ref w0, .int 3, .int 60])).length) Slot.unset).toArray = ls at hl ⊢
  have hl : lv_has ls 3 [(0, .ref w0), (1, .int 3), (2, .int 60)] := hl
  have hle9 := TX.le hTX hti
  refine lv_aload_n hx hb dX10_setting_0 rfl (lv_at hl 0 rfl) ?_
  have hn1 := TX.go2 hTX (show ti < ct by omega) (by rw [hk]; decide)
  have hn1a := TX.le hTX (show ti < ct by omega)
  have hn1b := TX.le hTX hn1.1
  obtain ⟨hPc, hDc, hFc⟩ := PDq.cut (wc := [(oX10 w0 v0 v1 v2 v3 v4 g5 g6 (nI ed) g8 v9 (nI nb) g11 g12 v13 (nI ln) (nI (gP ti)) (nI (gR (ti + 1))) tk kw g19 g20 g21 g22 (nI dd) (nI cd) g25 g26 v27 v28 v29 v30 v31 v32 v33 v34 v35 v36 v37 (nI ol)), (v9, .inl (cA 0, 700, .inl fb)), (v13, .inl (cA 1, 15, .inr (.inl fkw)))]) hP hD hS hA [0, 1, 2] (by decide) rfl
  refine va_calli (va_runV (As := []) (rest := []) ⟨hx, hb, hml, hown, hts⟩ (y_advance l D cA sa w0 ed nb ol v0 v1 v2 v3 v4 v9 v13 v27 v28 v29 v30 v31 v32 v33 v34 v35 v36 v37 g8 g11 g12 (nI (gP ti)) tk kw g19 g20 g21 g22 (nI dd) (nI cd) g26 g5 g6 g25 ln (gR (ti + 1)) fb fkw (gP (ti + 1)) (gR ((ti + 1) + 1)) (gK (ti + 1)) (gV (ti + 1)) s.heap.size hln (by omega) hKW hBY (TX.t hTX hn1.1)) (cwV 0 hts gX10_setting_X10_advance rfl rfl rfl (by decide +kernel) ⟨(Nat.le_of_ble_eq_true rfl), (Nat.le_of_ble_eq_true rfl)⟩) ⟨Wd.blind, va_recv hK hPc (ci := 11) (q0 := 0) rfl rfl, fun U hU hW => ⟨rfl, Wd.call hPc hDc hK hC hZ hS hFc U hU hW⟩⟩ rfl rfl hl.1 rfl (lv_room (Nat.le_of_ble_eq_true rfl)) dX10_setting_1 ⟨(Nat.le_of_ble_eq_true rfl), (Nat.le_of_ble_eq_true rfl)⟩) hS (fun q _ h => hFc q h) hFc (fun rn2 u t H1 locs ht hvm hw hB hz1 hk1 hS => ?_)
  obtain ⟨zn3, zn4, zn5, zn6, hn7, hP1, hD1⟩ := hB
  rw [ht] at hP1
  obtain ⟨hP, hD⟩ := PDq.join (w := [(v1, .inl (cA 0, 326, .inl fp)), (oX10 w0 v0 v1 v2 v3 v4 g5 g6 (nI ed) g8 v9 (nI nb) g11 g12 v13 (nI ln) (nI (gP (ti + 1))) (nI (gR ((ti + 1) + 1))) zn3 zn4 zn5 g20 g21 g22 (nI dd) (nI cd) zn6 g26 v27 v28 v29 v30 v31 v32 v33 v34 v35 v36 v37 (nI ol)), (v9, .inl (cA 0, 700, .inl fb)), (v13, .inl (cA 1, 15, .inr (.inl fkw)))]) 1 hP hD [0, 1, 2] [3] rfl rfl (by decide) (by decide) hk1 hFc hP1 hD1 rfl
  generalize H1 = H at hP hS ⊢
  obtain rfl : rn2 = 1 := hw
  refine lv_pop hx hb dX10_setting_4 rfl ?_
  refine lv_aload_n hx hb dX10_setting_5 rfl (lv_at hl 0 rfl) ?_
  refine lv_iload_n hx hb dX10_setting_6 rfl (lv_at hl 1 rfl) ?_
  refine lv_iconst (v := 0) hx hb dX10_setting_7 (by decide) ?_
  refine lv_iload_n hx hb dX10_setting_8 rfl (lv_at hl 2 rfl) ?_
  obtain ⟨hPc, hDc, hFc⟩ := PDq.cut (wc := [(oX10 w0 v0 v1 v2 v3 v4 g5 g6 (nI ed) g8 v9 (nI nb) g11 g12 v13 (nI ln) (nI (gP (ti + 1))) (nI (gR ((ti + 1) + 1))) zn3 zn4 zn5 g20 g21 g22 (nI dd) (nI cd) zn6 g26 v27 v28 v29 v30 v31 v32 v33 v34 v35 v36 v37 (nI ol)), (v9, .inl (cA 0, 700, .inl fb)), (v13, .inl (cA 1, 15, .inr (.inl fkw))), (v1, .inl (cA 0, 326, .inl fp))]) hP hD hS hA [1, 2, 3, 0] (by decide) rfl
  refine va_calli (va_runV (As := [.int 3, .int 0, .int 60]) (rest := []) ⟨hx, hb, hml, hown, hts⟩ (y_numberTo3 l D cA sa w0 ed nb ol v0 v1 v2 v3 v4 v9 v13 v27 v28 v29 v30 v31 v32 v33 v34 v35 v36 v37 g8 g11 g12 zn5 g20 g21 g22 (nI dd) g26 g5 g6 zn6 ln cd zn3 zn4 (ti + 1) ct fb fkw gP gR gS gK gV cn pq en dy fp 0 60 H.size hln hct hn1.1 hTX hBY hn7 hKW (by omega) (by omega) hcn hpq hen hdy hri) (cwV 3 hts gX10_setting_X10_numberTo rfl rfl rfl (by decide +kernel) ⟨(Nat.le_of_ble_eq_true rfl), (Nat.le_of_ble_eq_true rfl)⟩) ⟨Wd.blind, va_recv hK hPc (ci := 11) (q0 := 0) rfl rfl, fun U hU hW => ⟨rfl, Wd.call hPc hDc hK hC hZ hS hFc U hU hW⟩⟩ rfl rfl hl.1 rfl (lv_room (Nat.le_of_ble_eq_true rfl)) dX10_setting_9 ⟨(Nat.le_of_ble_eq_true rfl), (Nat.le_of_ble_eq_true rfl)⟩) hS (fun q _ h => hFc q h) hFc (fun rn8 u t H1 locs ht hvm hw hB hz1 hk1 hS => ?_)
  obtain ⟨qn9, zn10, zn11, zn12, zn13, zn14, zn15, zn16, fn17, hn18, hn19, hn20, hn21, hn22, hn23, hn24, hn25, hn26, hn27, hn28, hn29, hP1, hD1⟩ := hB
  rw [ht] at hP1
  obtain ⟨hP, hD⟩ := PDq.join (w := [(oX10 w0 v0 v1 v2 v3 v4 g5 g6 (nI ed) g8 v9 (nI nb) g11 g12 v13 (nI ln) (nI (gP qn9)) (nI (gR (qn9 + 1))) zn10 zn11 zn12 zn13 zn14 g22 (nI dd) (nI cd) zn16 zn15 v27 v28 v29 v30 v31 v32 v33 v34 v35 v36 v37 (nI ol)), (v9, .inl (cA 0, 700, .inl fb)), (v13, .inl (cA 1, 15, .inr (.inl fkw))), (v1, .inl (cA 0, 326, .inl fn17))]) 0 hP hD [1, 2, 3, 0] [] rfl rfl (by decide) (by decide) hk1 hFc hP1 hD1 rfl
  generalize H1 = H at hP hS ⊢
  rcases hw.2 with hr9 | hr9
  · skip
    have hn28 := hn28 (hw.1.trans hr9)
    have hn29 := hn29 (hw.1.trans hr9)
    subst hr9
    obtain ⟨hP9, hD9⟩ := PDq.sub (ws' := [(oX10 w0 v0 v1 v2 v3 v4 g5 g6 (nI ed) g8 v9 (nI nb) g11 g12 v13 (nI ln) (nI (gP qn9)) (nI (gR (qn9 + 1))) zn10 zn11 zn12 zn13 zn14 g22 (nI dd) (nI cd) zn16 zn15 v27 v28 v29 v30 v31 v32 v33 v34 v35 v36 v37 (nI ol)), (v9, .inl (cA 0, 700, .inl fb)), (v13, .inl (cA 1, 15, .inr (.inl fkw))), (v1, .inl (cA 0, 326, .inl fn17))]) hP hD [0, 1, 2, 3] (by decide) rfl
    refine W.widen (k := 0) (n := 0) (Nat.le_of_ble_eq_true rfl) (Nat.le_of_ble_eq_true rfl) ?_
    exact (W.zret (v := 0) hx hb hr (by first | rfl | decide) (fun t ht hW => ⟨⟨0, 0, rfl, ⟨rfl, by decide⟩, qn9, zn10, zn11, zn12, zn13, zn14, zn15, zn16, fn17, hn18, hn19, (by omega), hn21, hn22, (fun h9 => absurd h9 (by decide)), (fun h9 => absurd h9 (by decide)), (fun h9 => absurd h9 (by decide)), (fun h9 => absurd h9 (by decide)), (fun h9 => absurd h9 (by decide)), (fun _ => (S_graceEx hk hn28 hn29)), by rw [ht]; exact hP9, hD9⟩, hS.F ht⟩) hS.2.2 dX10_setting_12)
  · skip
    have hn23 := hn23 (hw.1.trans hr9)
    subst hn23
    obtain ⟨hP, hD⟩ : PDq D A [(oX10 w0 v0 v1 v2 v3 v4 g5 g6 (nI ed) g8 v9 (nI nb) g11 g12 v13 (nI ln) (nI (gP ((ti + 1) + 1))) (nI (gR (((ti + 1) + 1) + 1))) zn10 zn11 zn12 zn13 zn14 g22 (nI dd) (nI cd) zn16 zn15 v27 v28 v29 v30 v31 v32 v33 v34 v35 v36 v37 (nI ol)), (v9, .inl (cA 0, 700, .inl fb)), (v13, .inl (cA 1, 15, .inr (.inl fkw))), (v1, .inl (cA 0, 326, .inl fn17))] H := ⟨hP, hD⟩
    have hn24 := hn24 (hw.1.trans hr9)
    obtain rfl : g20 = zn13 := hn24.symm
    obtain ⟨hP, hD⟩ : PDq D A [(oX10 w0 v0 v1 v2 v3 v4 g5 g6 (nI ed) g8 v9 (nI nb) g11 g12 v13 (nI ln) (nI (gP ((ti + 1) + 1))) (nI (gR (((ti + 1) + 1) + 1))) zn10 zn11 zn12 g20 zn14 g22 (nI dd) (nI cd) zn16 zn15 v27 v28 v29 v30 v31 v32 v33 v34 v35 v36 v37 (nI ol)), (v9, .inl (cA 0, 700, .inl fb)), (v13, .inl (cA 1, 15, .inr (.inl fkw))), (v1, .inl (cA 0, 326, .inl fn17))] H := ⟨hP, hD⟩
    have hn25 := hn25 (hw.1.trans hr9)
    obtain rfl : g21 = zn14 := hn25.symm
    obtain ⟨hP, hD⟩ : PDq D A [(oX10 w0 v0 v1 v2 v3 v4 g5 g6 (nI ed) g8 v9 (nI nb) g11 g12 v13 (nI ln) (nI (gP ((ti + 1) + 1))) (nI (gR (((ti + 1) + 1) + 1))) zn10 zn11 zn12 g20 g21 g22 (nI dd) (nI cd) zn16 zn15 v27 v28 v29 v30 v31 v32 v33 v34 v35 v36 v37 (nI ol)), (v9, .inl (cA 0, 700, .inl fb)), (v13, .inl (cA 1, 15, .inr (.inl fkw))), (v1, .inl (cA 0, 326, .inl fn17))] H := ⟨hP, hD⟩
    have hn26 := hn26 (hw.1.trans hr9)
    have hn27 := hn27 (hw.1.trans hr9)
    subst hr9
    obtain ⟨hP9, hD9⟩ := PDq.sub (ws' := [(oX10 w0 v0 v1 v2 v3 v4 g5 g6 (nI ed) g8 v9 (nI nb) g11 g12 v13 (nI ln) (nI (gP ((ti + 1) + 1))) (nI (gR (((ti + 1) + 1) + 1))) zn10 zn11 zn12 g20 g21 g22 (nI dd) (nI cd) zn16 zn15 v27 v28 v29 v30 v31 v32 v33 v34 v35 v36 v37 (nI ol)), (v9, .inl (cA 0, 700, .inl fb)), (v13, .inl (cA 1, 15, .inr (.inl fkw))), (v1, .inl (cA 0, 326, .inl fn17))]) hP hD [0, 1, 2, 3] (by decide) rfl
    refine W.widen (k := 0) (n := 0) (Nat.le_of_ble_eq_true rfl) (Nat.le_of_ble_eq_true rfl) ?_
    exact (W.zret (v := 1) hx hb hr (by first | rfl | decide) (fun t ht hW => ⟨⟨1, 1, rfl, ⟨rfl, by decide⟩, ((ti + 1) + 1), zn10, zn11, zn12, g20, g21, zn15, zn16, fn17, hn18, hn19, (by omega), hn21, hn22, (fun _ => rfl), (fun _ => rfl), (fun _ => (by omega)), (fun _ => (by omega)), (fun _ => (S_grace hk hn27)), (fun h9 => absurd h9 (by decide)), by rw [ht]; exact hP9, hD9⟩, hS.F ht⟩) hS.2.2 dX10_setting_12)

set_option maxHeartbeats 4000000 in
set_option maxRecDepth 100000 in
/-- reference: depositStatement -/
theorem y_depositStatement (l : Launch) (D : va_G) (cA : Nat → ClassId) (sa : Nat → Nat) (w0 : Nat) (ed : Nat) (nb : Nat) (ol : Nat) (v0 : Nat) (v1 : Nat) (v2 : Nat) (v3 : Nat) (v4 : Nat) (v9 : Nat) (v13 : Nat) (v27 : Nat) (v28 : Nat) (v29 : Nat) (v30 : Nat) (v31 : Nat) (v32 : Nat) (v33 : Nat) (v34 : Nat) (v35 : Nat) (v36 : Nat) (v37 : Nat) (g8 : Int32) (g11 : Int32) (g12 : Int32) (g19 : Int32) (g20 : Int32) (g21 : Int32) (g22 : Int32) (g26 : Int32) (g5 : Int64) (g6 : Int64) (g25 : Int64) (ln : Nat) (cd : Nat) (tk : Int32) (kw : Int32) (ti : Nat) (ct : Nat) (fb : Nat → Int32) (fkw : Nat → Int64) (gP : Nat → Nat) (gR : Nat → Nat) (gS : Nat → Int32) (gK : Nat → Int32) (gV : Nat → Int64) (cn : Nat) (pq : Nat) (en : Nat) (dy : Nat) (fp : Nat → Int32) (dd : Nat) (ml : List Int64) (pl : List Int64) (sz : Nat) (hln : ln ≤ 700) (hct : ct ≤ 701) (hti : ti < ct) (hTX : TX fb ln ct gP gR gS gV gK) (hBY : BYn ln fb) (hTK : TKR (gK ti) (gV ti) (fb (gP ti)) tk kw g19 g25) (hKW : KW 15 fkw) (hk : gK ti = 11) (hdd : dd ≤ 6) (hcn : cn ≤ 10) (hpq : pq ≤ 8) (hen : en ≤ 60) (hdy : dy ≤ 20000) (hri : RI cn pq en dy fp) : Met l yX10_depositStatement wsX10_depositStatement ({ frames := 3, cells := 0, slots := 0, locals := 66 }) (va_Pc [.ref w0] (Wd D cA sa [(oX10 w0 v0 v1 v2 v3 v4 g5 g6 (nI ed) g8 v9 (nI nb) g11 g12 v13 (nI ln) (nI (gP ti)) (nI (gR (ti + 1))) tk kw g19 g20 g21 g22 (nI dd) (nI cd) g25 g26 v27 v28 v29 v30 v31 v32 v33 v34 v35 v36 v37 (nI ol)), (v9, .inl (cA 0, 700, .inl fb)), (v13, .inl (cA 1, 15, .inr (.inl fkw))), (v1, .inl (cA 0, 326, .inl fp))] sz)) (va_Qi (fun (r : Int32) (u9 : Int32) => u9 = r ∧ (r = 0 ∨ r = 1)) (fun (u9 : Int32) t => ∃ tj : Nat, ∃ z17 : Int32, ∃ z18 : Int32, ∃ z19 : Int32, ∃ z20 : Int32, ∃ z21 : Int32, ∃ z26 : Int32, ∃ z25 : Int64, ∃ zp : Nat → Int32, ∃ d2 : Nat, ∃ e2 : Nat, tj < ct ∧ gP tj ≤ ln ∧ ti ≤ tj ∧ TKR (gK tj) (gV tj) (fb (gP tj)) z17 z18 z19 z25 ∧ RI cn pq e2 dy zp ∧ e2 ≤ 60 ∧ d2 ≤ 6 ∧ (u9 = 1 → z20 = g20) ∧ (u9 = 1 → z21 = g21) ∧ (u9 = 1 → ti + 1 ≤ tj) ∧ (u9 = 1 → gP ti + 1 ≤ gP tj) ∧ (u9 = 1 → SRx gK gS gV ti dd ml pl (.inr (tj, d2, ml, pl))) ∧ (u9 = 0 → SRx gK gS gV ti dd ml pl (.inl (z20, z21))) ∧ Wq D (va_A [(oX10 w0 v0 v1 v2 v3 v4 g5 g6 (nI ed) g8 v9 (nI nb) g11 g12 v13 (nI ln) (nI (gP ti)) (nI (gR (ti + 1))) tk kw g19 g20 g21 g22 (nI dd) (nI cd) g25 g26 v27 v28 v29 v30 v31 v32 v33 v34 v35 v36 v37 (nI ol)), (v9, .inl (cA 0, 700, .inl fb)), (v13, .inl (cA 1, 15, .inr (.inl fkw))), (v1, .inl (cA 0, 326, .inl fp))] sz) [(oX10 w0 v0 v1 v2 v3 v4 g5 g6 (nI ed) g8 v9 (nI nb) g11 g12 v13 (nI ln) (nI (gP tj)) (nI (gR (tj + 1))) z17 z18 z19 z20 z21 g22 (nI d2) (nI cd) z25 z26 v27 v28 v29 v30 v31 v32 v33 v34 v35 v36 v37 (nI ol)), (v9, .inl (cA 0, 700, .inl fb)), (v13, .inl (cA 1, 15, .inr (.inl fkw))), (v1, .inl (cA 0, 326, .inl zp))] t) (va_A [(oX10 w0 v0 v1 v2 v3 v4 g5 g6 (nI ed) g8 v9 (nI nb) g11 g12 v13 (nI ln) (nI (gP ti)) (nI (gR (ti + 1))) tk kw g19 g20 g21 g22 (nI dd) (nI cd) g25 g26 v27 v28 v29 v30 v31 v32 v33 v34 v35 v36 v37 (nI ol)), (v9, .inl (cA 0, 700, .inl fb)), (v13, .inl (cA 1, 15, .inr (.inl fkw))), (v1, .inl (cA 0, 326, .inl fp))] sz)) 0 0 (va_A [(oX10 w0 v0 v1 v2 v3 v4 g5 g6 (nI ed) g8 v9 (nI nb) g11 g12 v13 (nI ln) (nI (gP ti)) (nI (gR (ti + 1))) tk kw g19 g20 g21 g22 (nI dd) (nI cd) g25 g26 v27 v28 v29 v30 v31 v32 v33 v34 v35 v36 v37 (nI ol)), (v9, .inl (cA 0, 700, .inl fb)), (v13, .inl (cA 1, 15, .inr (.inl fkw))), (v1, .inl (cA 0, 326, .inl fp))] sz) := by
  refine Met.ofW (cc := cX10_depositStatement) (maxL := 1) (ret := (some .boolean)) (by decide) rfl ?_
  intro p e s m args below meth c s₁ B hml hv
  obtain ⟨rfl, hsz, hP, hK, hD0, hC, hZ⟩ := hv
  have hx := B.exec
  have hb := B.bytes
  have hr := B.returns
  have hts := atoms_spec (ws := wsX10_depositStatement) B.pre
  have hown : s.vm.findClass RX10 = some m.cls := findClass_of_methodNamed B.named
  have hlocks := B.notSynchronized
  subst hsz
  have hD := hD0.self (sz := s.heap.size)
  generalize hAe : va_A [(oX10 w0 v0 v1 v2 v3 v4 g5 g6 (nI ed) g8 v9 (nI nb) g11 g12 v13 (nI ln) (nI (gP ti)) (nI (gR (ti + 1))) tk kw g19 g20 g21 g22 (nI dd) (nI cd) g25 g26 v27 v28 v29 v30 v31 v32 v33 v34 v35 v36 v37 (nI ol)), (v9, .inl (cA 0, 700, .inl fb)), (v13, .inl (cA 1, 15, .inr (.inl fkw))), (v1, .inl (cA 0, 326, .inl fp))] s.heap.size = A at hD hZ ⊢
  have hA : ∀ q : Nat, s.heap.size ≤ q → A q := fun q h => by rw [← hAe]; exact Or.inr h
  have hS : va_S A s.heap s.heap [] := va_S.rf
  have hP : va_P D vwCl [(oX10 w0 v0 v1 v2 v3 v4 g5 g6 (nI ed) g8 v9 (nI nb) g11 g12 v13 (nI ln) (nI (gP ti)) (nI (gR (ti + 1))) tk kw g19 g20 g21 g22 (nI dd) (nI cd) g25 g26 v27 v28 v29 v30 v31 v32 v33 v34 v35 v36 v37 (nI ol)), (v9, .inl (cA 0, 700, .inl fb)), (v13, .inl (cA 1, 15, .inr (.inl fkw))), (v1, .inl (cA 0, 326, .inl fp))] s.heap := hP
  have hl := lv_entry ([.ref w0]) (n := 1) (Nat.le_of_ble_eq_true rfl)
  rw [lg_entry_eq]
  generalize (lg_sl ([.ref w0]) ++ List.replicate (1 - (lg_sl ([.ref w0])).length) Slot.unset).toArray = ls at hl ⊢
  have hl : lv_has ls 1 [(0, .ref w0)] := hl
  have inX10 : ∀ w ∈ u_ws RX10 TX10 39, w ∈ wsX10_depositStatement := by decide +kernel
  have hle9 := TX.le hTX hti
  refine lv_aload_n hx hb dX10_depositStatement_0 rfl (lv_at hl 0 rfl) ?_
  refine va_get (D := D) (ci := 11) (v := .int (nI dd)) (C := RX10) (T := TX10) (N := 39) hx hb hts inX10 hown hK hP 0 rfl rfl 23 (by decide) (hts (.fieldLink RX10 226 "EscrowDeskModel" "deposits" "I") (by decide +kernel)) (fun _ h9 => h9) rfl dX10_depositStatement_1 ?_
  refine lv_bipush (v := 6) hx hb dX10_depositStatement_4 (by decide) ?_
  refine lv_icmp_ne (tgt := 15) hx hb dX10_depositStatement_6 (by decide) (fun c1 => ?_) (fun c1 => ?_)
  · skip
    have hn2 : ¬ dd = 6 := fun h9 => c1 ((nI_eq (a := dd) (b := 6) (by omega) (by omega)).mpr h9)
    refine lv_aload_n hx hb dX10_depositStatement_15 rfl (lv_at hl 0 rfl) ?_
    have hn3 := TX.go2 hTX (show ti < ct by omega) (by rw [hk]; decide)
    have hn3a := TX.le hTX (show ti < ct by omega)
    have hn3b := TX.le hTX hn3.1
    obtain ⟨hPc, hDc, hFc⟩ := PDq.cut (wc := [(oX10 w0 v0 v1 v2 v3 v4 g5 g6 (nI ed) g8 v9 (nI nb) g11 g12 v13 (nI ln) (nI (gP ti)) (nI (gR (ti + 1))) tk kw g19 g20 g21 g22 (nI dd) (nI cd) g25 g26 v27 v28 v29 v30 v31 v32 v33 v34 v35 v36 v37 (nI ol)), (v9, .inl (cA 0, 700, .inl fb)), (v13, .inl (cA 1, 15, .inr (.inl fkw)))]) hP hD hS hA [0, 1, 2] (by decide) rfl
    refine va_calli (va_runV (As := []) (rest := []) ⟨hx, hb, hml, hown, hts⟩ (y_advance l D cA sa w0 ed nb ol v0 v1 v2 v3 v4 v9 v13 v27 v28 v29 v30 v31 v32 v33 v34 v35 v36 v37 g8 g11 g12 (nI (gP ti)) tk kw g19 g20 g21 g22 (nI dd) (nI cd) g26 g5 g6 g25 ln (gR (ti + 1)) fb fkw (gP (ti + 1)) (gR ((ti + 1) + 1)) (gK (ti + 1)) (gV (ti + 1)) s.heap.size hln (by omega) hKW hBY (TX.t hTX hn3.1)) (cwV 0 hts gX10_depositStatement_X10_advance rfl rfl rfl (by decide +kernel) ⟨(Nat.le_of_ble_eq_true rfl), (Nat.le_of_ble_eq_true rfl)⟩) ⟨Wd.blind, va_recv hK hPc (ci := 11) (q0 := 0) rfl rfl, fun U hU hW => ⟨rfl, Wd.call hPc hDc hK hC hZ hS hFc U hU hW⟩⟩ rfl rfl hl.1 rfl (lv_room (Nat.le_of_ble_eq_true rfl)) dX10_depositStatement_16 ⟨(Nat.le_of_ble_eq_true rfl), (Nat.le_of_ble_eq_true rfl)⟩) hS (fun q _ h => hFc q h) hFc (fun rn4 u t H1 locs ht hvm hw hB hz1 hk1 hS => ?_)
    obtain ⟨zn5, zn6, zn7, zn8, hn9, hP1, hD1⟩ := hB
    rw [ht] at hP1
    obtain ⟨hP, hD⟩ := PDq.join (w := [(v1, .inl (cA 0, 326, .inl fp)), (oX10 w0 v0 v1 v2 v3 v4 g5 g6 (nI ed) g8 v9 (nI nb) g11 g12 v13 (nI ln) (nI (gP (ti + 1))) (nI (gR ((ti + 1) + 1))) zn5 zn6 zn7 g20 g21 g22 (nI dd) (nI cd) zn8 g26 v27 v28 v29 v30 v31 v32 v33 v34 v35 v36 v37 (nI ol)), (v9, .inl (cA 0, 700, .inl fb)), (v13, .inl (cA 1, 15, .inr (.inl fkw)))]) 1 hP hD [0, 1, 2] [3] rfl rfl (by decide) (by decide) hk1 hFc hP1 hD1 rfl
    generalize H1 = H at hP hS ⊢
    obtain rfl : rn4 = 1 := hw
    refine lv_pop hx hb dX10_depositStatement_19 rfl ?_
    refine lv_aload_n hx hb dX10_depositStatement_20 rfl (lv_at hl 0 rfl) ?_
    refine lv_iconst (v := 1) hx hb dX10_depositStatement_21 (by decide) ?_
    refine lv_ldc (v := 99999) hx hb hown (hts (.constant RX10 218 99999) (by decide +kernel)) dX10_depositStatement_22 ?_
    obtain ⟨hPc, hDc, hFc⟩ := PDq.cut (wc := [(oX10 w0 v0 v1 v2 v3 v4 g5 g6 (nI ed) g8 v9 (nI nb) g11 g12 v13 (nI ln) (nI (gP (ti + 1))) (nI (gR ((ti + 1) + 1))) zn5 zn6 zn7 g20 g21 g22 (nI dd) (nI cd) zn8 g26 v27 v28 v29 v30 v31 v32 v33 v34 v35 v36 v37 (nI ol)), (v9, .inl (cA 0, 700, .inl fb)), (v13, .inl (cA 1, 15, .inr (.inl fkw)))]) hP hD hS hA [1, 2, 3] (by decide) rfl
    refine va_calli (va_runV (As := [.int 1, .int 99999]) (rest := []) ⟨hx, hb, hml, hown, hts⟩ (y_number l D cA sa w0 ed nb ol v0 v1 v2 v3 v4 v9 v13 v27 v28 v29 v30 v31 v32 v33 v34 v35 v36 v37 g8 g11 g12 zn7 g20 g21 g22 (nI dd) g26 g5 g6 zn8 ln cd zn5 zn6 (ti + 1) ct fb fkw gP gR gS gK gV 1 99999 H.size hln hct hn3.1 hTX hBY hn9 hKW (by omega) (by omega)) (cwV 2 hts gX10_depositStatement_X10_number rfl rfl rfl (by decide +kernel) ⟨(Nat.le_of_ble_eq_true rfl), (Nat.le_of_ble_eq_true rfl)⟩) ⟨Wd.blind, va_recv hK hPc (ci := 11) (q0 := 0) rfl rfl, fun U hU hW => ⟨rfl, Wd.call hPc hDc hK hC hZ hS hFc U hU hW⟩⟩ rfl rfl hl.1 rfl (lv_room (Nat.le_of_ble_eq_true rfl)) dX10_depositStatement_24 ⟨(Nat.le_of_ble_eq_true rfl), (Nat.le_of_ble_eq_true rfl)⟩) hS (fun q _ h => hFc q h) hFc (fun rn10 u t H1 locs ht hvm hw hB hz1 hk1 hS => ?_)
    obtain ⟨qn11, zn12, zn13, zn14, zn15, zn16, zn17, zn18, hn19, hn20, hn21, hn22, hn23, hn24, hn25, hn26, hn27, hn28, hn29, hn30, hP1, hD1⟩ := hB
    rw [ht] at hP1
    obtain ⟨hP, hD⟩ := PDq.join (w := [(v1, .inl (cA 0, 326, .inl fp)), (oX10 w0 v0 v1 v2 v3 v4 g5 g6 (nI ed) g8 v9 (nI nb) g11 g12 v13 (nI ln) (nI (gP qn11)) (nI (gR (qn11 + 1))) zn12 zn13 zn14 zn15 zn16 g22 (nI dd) (nI cd) zn18 zn17 v27 v28 v29 v30 v31 v32 v33 v34 v35 v36 v37 (nI ol)), (v9, .inl (cA 0, 700, .inl fb)), (v13, .inl (cA 1, 15, .inr (.inl fkw)))]) 1 hP hD [1, 2, 3] [0] rfl rfl (by decide) (by decide) hk1 hFc hP1 hD1 rfl
    generalize H1 = H at hP hS ⊢
    rcases hw.2 with hr9 | hr9
    · skip
      have hn29 := hn29 (hw.1.trans hr9)
      have hn30 := hn30 (hw.1.trans hr9)
      subst hr9
      refine lv_if_ne (tgt := 32) hx hb dX10_depositStatement_27 (by decide) (fun c9 => absurd c9 (by decide)) (fun c31 => ?_)
      refine lv_iconst (v := 0) hx hb dX10_depositStatement_30 (by decide) ?_
      obtain ⟨hP9, hD9⟩ := PDq.sub (ws' := [(oX10 w0 v0 v1 v2 v3 v4 g5 g6 (nI ed) g8 v9 (nI nb) g11 g12 v13 (nI ln) (nI (gP qn11)) (nI (gR (qn11 + 1))) zn12 zn13 zn14 zn15 zn16 g22 (nI dd) (nI cd) zn18 zn17 v27 v28 v29 v30 v31 v32 v33 v34 v35 v36 v37 (nI ol)), (v9, .inl (cA 0, 700, .inl fb)), (v13, .inl (cA 1, 15, .inr (.inl fkw))), (v1, .inl (cA 0, 326, .inl fp))]) hP hD [1, 2, 3, 0] (by decide) rfl
      refine W.widen (k := 0) (n := 0) (Nat.le_of_ble_eq_true rfl) (Nat.le_of_ble_eq_true rfl) ?_
      exact (W.zret (v := 0) hx hb hr (by first | rfl | decide) (fun t ht hW => ⟨⟨0, 0, rfl, ⟨rfl, by decide⟩, qn11, zn12, zn13, zn14, zn15, zn16, zn17, zn18, fp, dd, en, hn19, hn20, (by omega), hn22, hri, hen, hdd, (fun h9 => absurd h9 (by decide)), (fun h9 => absurd h9 (by decide)), (fun h9 => absurd h9 (by decide)), (fun h9 => absurd h9 (by decide)), (fun h9 => absurd h9 (by decide)), (fun _ => (S_depEx hk (by omega) hn29 hn30)), by rw [ht]; exact hP9, hD9⟩, hS.F ht⟩) hS.2.2 dX10_depositStatement_31)
    · skip
      have hn23 := hn23 (hw.1.trans hr9)
      subst hn23
      obtain ⟨hP, hD⟩ : PDq D A [(v1, .inl (cA 0, 326, .inl fp)), (oX10 w0 v0 v1 v2 v3 v4 g5 g6 (nI ed) g8 v9 (nI nb) g11 g12 v13 (nI ln) (nI (gP ((ti + 1) + 1))) (nI (gR (((ti + 1) + 1) + 1))) zn12 zn13 zn14 zn15 zn16 g22 (nI dd) (nI cd) zn18 zn17 v27 v28 v29 v30 v31 v32 v33 v34 v35 v36 v37 (nI ol)), (v9, .inl (cA 0, 700, .inl fb)), (v13, .inl (cA 1, 15, .inr (.inl fkw)))] H := ⟨hP, hD⟩
      have hn24 := hn24 (hw.1.trans hr9)
      obtain rfl : g20 = zn15 := hn24.symm
      obtain ⟨hP, hD⟩ : PDq D A [(v1, .inl (cA 0, 326, .inl fp)), (oX10 w0 v0 v1 v2 v3 v4 g5 g6 (nI ed) g8 v9 (nI nb) g11 g12 v13 (nI ln) (nI (gP ((ti + 1) + 1))) (nI (gR (((ti + 1) + 1) + 1))) zn12 zn13 zn14 g20 zn16 g22 (nI dd) (nI cd) zn18 zn17 v27 v28 v29 v30 v31 v32 v33 v34 v35 v36 v37 (nI ol)), (v9, .inl (cA 0, 700, .inl fb)), (v13, .inl (cA 1, 15, .inr (.inl fkw)))] H := ⟨hP, hD⟩
      have hn25 := hn25 (hw.1.trans hr9)
      obtain rfl : g21 = zn16 := hn25.symm
      obtain ⟨hP, hD⟩ : PDq D A [(v1, .inl (cA 0, 326, .inl fp)), (oX10 w0 v0 v1 v2 v3 v4 g5 g6 (nI ed) g8 v9 (nI nb) g11 g12 v13 (nI ln) (nI (gP ((ti + 1) + 1))) (nI (gR (((ti + 1) + 1) + 1))) zn12 zn13 zn14 g20 g21 g22 (nI dd) (nI cd) zn18 zn17 v27 v28 v29 v30 v31 v32 v33 v34 v35 v36 v37 (nI ol)), (v9, .inl (cA 0, 700, .inl fb)), (v13, .inl (cA 1, 15, .inr (.inl fkw)))] H := ⟨hP, hD⟩
      have hn26 := hn26 (hw.1.trans hr9)
      have hn27 := hn27 (hw.1.trans hr9)
      have hn28 := hn28 (hw.1.trans hr9)
      obtain ⟨kn32, hn33, hn34, hn9⟩ := hn28
      subst hn9
      obtain ⟨hP, hD⟩ : PDq D A [(v1, .inl (cA 0, 326, .inl fp)), (oX10 w0 v0 v1 v2 v3 v4 g5 g6 (nI ed) g8 v9 (nI nb) g11 g12 v13 (nI ln) (nI (gP ((ti + 1) + 1))) (nI (gR (((ti + 1) + 1) + 1))) zn12 zn13 zn14 g20 g21 g22 (nI dd) (nI cd) zn18 (nI kn32) v27 v28 v29 v30 v31 v32 v33 v34 v35 v36 v37 (nI ol)), (v9, .inl (cA 0, 700, .inl fb)), (v13, .inl (cA 1, 15, .inr (.inl fkw)))] H := ⟨hP, hD⟩
      subst hr9
      refine lv_if_ne (tgt := 32) hx hb dX10_depositStatement_27 (by decide) (fun c35 => ?_) (fun c9 => absurd c9 (by decide))
      refine lv_aload_n hx hb dX10_depositStatement_32 rfl (lv_at hl 0 rfl) ?_
      refine lv_dup hx hb dX10_depositStatement_33 rfl ?_
      refine va_get (D := D) (ci := 11) (v := .int (nI dd)) (C := RX10) (T := TX10) (N := 39) hx hb hts inX10 hown hK hP 1 rfl rfl 23 (by decide) (hts (.fieldLink RX10 226 "EscrowDeskModel" "deposits" "I") (by decide +kernel)) (fun _ h9 => h9) rfl dX10_depositStatement_34 ?_
      refine lv_iconst (v := 1) hx hb dX10_depositStatement_37 (by decide) ?_
      refine lv_iadd hx hb dX10_depositStatement_38 ?_
      refine lv_topi (fun yn36 eyn36 => ?_)
      obtain rfl : yn36 = (nI (dd + 1)) := eyn36.trans (nI_add dd 1)
      refine va_put (D := D) (ci := 11) (v := .int (nI (dd + 1))) (ty := .int) (C := RX10) (T := TX10) (N := 39) hx hb hts inX10 tyX10 tyX10_ok nmX10 hown hK hP hD hS 1 rfl rfl 23 (by decide) (hts (.fieldLink RX10 226 "EscrowDeskModel" "deposits" "I") (by decide +kernel)) (fun _ h9 => h9) rfl (by decide +kernel) rfl rfl (Nat.le_of_ble_eq_true rfl) dX10_depositStatement_39 (fun H locs hP hD hS => ?_)
      obtain ⟨hP, hD⟩ : PDq D A [(v1, .inl (cA 0, 326, .inl fp)), (oX10 w0 v0 v1 v2 v3 v4 g5 g6 (nI ed) g8 v9 (nI nb) g11 g12 v13 (nI ln) (nI (gP ((ti + 1) + 1))) (nI (gR (((ti + 1) + 1) + 1))) zn12 zn13 zn14 g20 g21 g22 (nI (dd + 1)) (nI cd) zn18 (nI kn32) v27 v28 v29 v30 v31 v32 v33 v34 v35 v36 v37 (nI ol)), (v9, .inl (cA 0, 700, .inl fb)), (v13, .inl (cA 1, 15, .inr (.inl fkw)))] H := ⟨hP, hD⟩
      refine lv_aload_n hx hb dX10_depositStatement_42 rfl (lv_at hl 0 rfl) ?_
      refine va_get (D := D) (ci := 11) (v := .ref v1) (C := RX10) (T := TX10) (N := 39) hx hb hts inX10 hown hK hP 1 rfl rfl 1 (by decide) (hts (.fieldLink RX10 13 "EscrowDeskModel" "parsed" "[I") (by decide +kernel)) (fun _ h9 => h9) rfl dX10_depositStatement_43 ?_
      refine lv_iconst (v := 5) hx hb dX10_depositStatement_46 (by decide) ?_
      refine lv_dup2_11 hx hb dX10_depositStatement_47 rfl rfl ?_
      refine va_iald hx hb hK hP 0 0 rfl rfl (vp_in_iff.mpr (by decide)) dX10_depositStatement_48 ?_
      refine lv_topi (fun yn37 eyn37 => ?_)
      refine lv_aload_n hx hb dX10_depositStatement_49 rfl (lv_at hl 0 rfl) ?_
      refine va_get (D := D) (ci := 11) (v := .int (nI kn32)) (C := RX10) (T := TX10) (N := 39) hx hb hts inX10 hown hK hP 1 rfl rfl 26 (by decide) (hts (.fieldLink RX10 156 "EscrowDeskModel" "numberRead" "I") (by decide +kernel)) (fun _ h9 => h9) rfl dX10_depositStatement_50 ?_
      refine lv_iadd hx hb dX10_depositStatement_53 ?_
      refine lv_topi (fun yn38 eyn38 => ?_)
      refine va_iast hx hb hK hP hD hS 0 0 rfl rfl (vp_in_iff.mpr (by decide)) dX10_depositStatement_54 (fun H locs hP hD hS => ?_)
      obtain ⟨hP, hD⟩ : PDq D A [(v1, .inl (cA 0, 326, .inl (upd fp 5 yn38))), (oX10 w0 v0 v1 v2 v3 v4 g5 g6 (nI ed) g8 v9 (nI nb) g11 g12 v13 (nI ln) (nI (gP ((ti + 1) + 1))) (nI (gR (((ti + 1) + 1) + 1))) zn12 zn13 zn14 g20 g21 g22 (nI (dd + 1)) (nI cd) zn18 (nI kn32) v27 v28 v29 v30 v31 v32 v33 v34 v35 v36 v37 (nI ol)), (v9, .inl (cA 0, 700, .inl fb)), (v13, .inl (cA 1, 15, .inr (.inl fkw)))] H := ⟨hP, hD⟩
      have hn40 : RI cn pq en dy (upd fp 5 yn38) := RI.put hri 5 yn38 (by decide) (by decide) (by decide) (by decide) (by decide)
      generalize (upd fp 5 yn38) = fn39 at hP hD hn40
      obtain ⟨hP, hD⟩ : PDq D A [(v1, .inl (cA 0, 326, .inl fn39)), (oX10 w0 v0 v1 v2 v3 v4 g5 g6 (nI ed) g8 v9 (nI nb) g11 g12 v13 (nI ln) (nI (gP ((ti + 1) + 1))) (nI (gR (((ti + 1) + 1) + 1))) zn12 zn13 zn14 g20 g21 g22 (nI (dd + 1)) (nI cd) zn18 (nI kn32) v27 v28 v29 v30 v31 v32 v33 v34 v35 v36 v37 (nI ol)), (v9, .inl (cA 0, 700, .inl fb)), (v13, .inl (cA 1, 15, .inr (.inl fkw)))] H := ⟨hP, hD⟩
      refine lv_aload_n hx hb dX10_depositStatement_55 rfl (lv_at hl 0 rfl) ?_
      refine va_get (D := D) (ci := 11) (v := .ref v1) (C := RX10) (T := TX10) (N := 39) hx hb hts inX10 hown hK hP 1 rfl rfl 1 (by decide) (hts (.fieldLink RX10 13 "EscrowDeskModel" "parsed" "[I") (by decide +kernel)) (fun _ h9 => h9) rfl dX10_depositStatement_56 ?_
      refine lv_bipush (v := 6) hx hb dX10_depositStatement_59 (by decide) ?_
      refine lv_dup2_11 hx hb dX10_depositStatement_61 rfl rfl ?_
      refine va_iald hx hb hK hP 0 0 rfl rfl (vp_in_iff.mpr (by decide)) dX10_depositStatement_62 ?_
      refine lv_topi (fun yn41 eyn41 => ?_)
      refine lv_aload_n hx hb dX10_depositStatement_63 rfl (lv_at hl 0 rfl) ?_
      refine va_get (D := D) (ci := 11) (v := .int (nI kn32)) (C := RX10) (T := TX10) (N := 39) hx hb hts inX10 hown hK hP 1 rfl rfl 26 (by decide) (hts (.fieldLink RX10 156 "EscrowDeskModel" "numberRead" "I") (by decide +kernel)) (fun _ h9 => h9) rfl dX10_depositStatement_64 ?_
      refine lv_iadd hx hb dX10_depositStatement_67 ?_
      refine lv_topi (fun yn42 eyn42 => ?_)
      refine va_iast hx hb hK hP hD hS 0 0 rfl rfl (vp_in_iff.mpr (by decide)) dX10_depositStatement_68 (fun H locs hP hD hS => ?_)
      obtain ⟨hP, hD⟩ : PDq D A [(v1, .inl (cA 0, 326, .inl (upd fn39 6 yn42))), (oX10 w0 v0 v1 v2 v3 v4 g5 g6 (nI ed) g8 v9 (nI nb) g11 g12 v13 (nI ln) (nI (gP ((ti + 1) + 1))) (nI (gR (((ti + 1) + 1) + 1))) zn12 zn13 zn14 g20 g21 g22 (nI (dd + 1)) (nI cd) zn18 (nI kn32) v27 v28 v29 v30 v31 v32 v33 v34 v35 v36 v37 (nI ol)), (v9, .inl (cA 0, 700, .inl fb)), (v13, .inl (cA 1, 15, .inr (.inl fkw)))] H := ⟨hP, hD⟩
      have hn44 : RI cn pq en dy (upd fn39 6 yn42) := RI.put hn40 6 yn42 (by decide) (by decide) (by decide) (by decide) (by decide)
      generalize (upd fn39 6 yn42) = fn43 at hP hD hn44
      obtain ⟨hP, hD⟩ : PDq D A [(v1, .inl (cA 0, 326, .inl fn43)), (oX10 w0 v0 v1 v2 v3 v4 g5 g6 (nI ed) g8 v9 (nI nb) g11 g12 v13 (nI ln) (nI (gP ((ti + 1) + 1))) (nI (gR (((ti + 1) + 1) + 1))) zn12 zn13 zn14 g20 g21 g22 (nI (dd + 1)) (nI cd) zn18 (nI kn32) v27 v28 v29 v30 v31 v32 v33 v34 v35 v36 v37 (nI ol)), (v9, .inl (cA 0, 700, .inl fb)), (v13, .inl (cA 1, 15, .inr (.inl fkw)))] H := ⟨hP, hD⟩
      refine lv_aload_n hx hb dX10_depositStatement_69 rfl (lv_at hl 0 rfl) ?_
      refine va_get (D := D) (ci := 11) (v := .ref v1) (C := RX10) (T := TX10) (N := 39) hx hb hts inX10 hown hK hP 1 rfl rfl 1 (by decide) (hts (.fieldLink RX10 13 "EscrowDeskModel" "parsed" "[I") (by decide +kernel)) (fun _ h9 => h9) rfl dX10_depositStatement_70 ?_
      refine lv_iconst (v := 0) hx hb dX10_depositStatement_73 (by decide) ?_
      refine lv_aload_n hx hb dX10_depositStatement_74 rfl (lv_at hl 0 rfl) ?_
      refine va_get (D := D) (ci := 11) (v := .int (nI kn32)) (C := RX10) (T := TX10) (N := 39) hx hb hts inX10 hown hK hP 1 rfl rfl 26 (by decide) (hts (.fieldLink RX10 156 "EscrowDeskModel" "numberRead" "I") (by decide +kernel)) (fun _ h9 => h9) rfl dX10_depositStatement_75 ?_
      refine lv_iconst (v := (-1)) hx hb dX10_depositStatement_78 (by decide) ?_
      obtain ⟨hPc, hDc, hFc⟩ := PDq.cut (wc := [(v1, .inl (cA 0, 326, .inl fn43))]) hP hD hS hA [0] (by decide) rfl
      refine va_callv (va_runS (As := [.ref v1, .int 0, .int (nI kn32), .int (-1)]) (rest := []) ⟨hx, hb, hml, hown, hts⟩ (r_enter l D cA sa v1 cn pq en dy fn43 0 (nI kn32) (-1) H.size hcn hpq hen hdy hn44) (va_cwS 4 hts gX10_depositStatement_X10_enter rfl rfl rfl (by decide +kernel) ⟨(Nat.le_of_ble_eq_true rfl), (Nat.le_of_ble_eq_true rfl)⟩) ⟨Wd.blind, fun U hU hW => ⟨rfl, Wd.call hPc hDc hK hC hZ hS hFc U hU hW⟩⟩ rfl rfl hl.1 rfl (lv_room (Nat.le_of_ble_eq_true rfl)) dX10_depositStatement_79 ⟨(Nat.le_of_ble_eq_true rfl), (Nat.le_of_ble_eq_true rfl)⟩) hS (fun q _ h => hFc q h) hFc (fun u t H1 locs ht hvm hw hB hz1 hk1 hS => ?_)
      obtain ⟨qn45, fn46, hn47, hn48, hP1, hD1⟩ := hB
      rw [ht] at hP1
      obtain ⟨hP, hD⟩ := PDq.join (w := [(oX10 w0 v0 v1 v2 v3 v4 g5 g6 (nI ed) g8 v9 (nI nb) g11 g12 v13 (nI ln) (nI (gP ((ti + 1) + 1))) (nI (gR (((ti + 1) + 1) + 1))) zn12 zn13 zn14 g20 g21 g22 (nI (dd + 1)) (nI cd) zn18 (nI kn32) v27 v28 v29 v30 v31 v32 v33 v34 v35 v36 v37 (nI ol)), (v9, .inl (cA 0, 700, .inl fb)), (v13, .inl (cA 1, 15, .inr (.inl fkw))), (v1, .inl (cA 0, 326, .inl fn46))]) 3 hP hD [0] [1, 2, 3] rfl rfl (by decide) (by decide) hk1 hFc hP1 hD1 rfl
      generalize H1 = H at hP hS ⊢
      refine lv_iconst (v := 1) hx hb dX10_depositStatement_82 (by decide) ?_
      obtain ⟨hP9, hD9⟩ := PDq.sub (ws' := [(oX10 w0 v0 v1 v2 v3 v4 g5 g6 (nI ed) g8 v9 (nI nb) g11 g12 v13 (nI ln) (nI (gP ((ti + 1) + 1))) (nI (gR (((ti + 1) + 1) + 1))) zn12 zn13 zn14 g20 g21 g22 (nI (dd + 1)) (nI cd) zn18 (nI kn32) v27 v28 v29 v30 v31 v32 v33 v34 v35 v36 v37 (nI ol)), (v9, .inl (cA 0, 700, .inl fb)), (v13, .inl (cA 1, 15, .inr (.inl fkw))), (v1, .inl (cA 0, 326, .inl fn46))]) hP hD [0, 1, 2, 3] (by decide) rfl
      refine W.widen (k := 0) (n := 0) (Nat.le_of_ble_eq_true rfl) (Nat.le_of_ble_eq_true rfl) ?_
      exact (W.zret (v := 1) hx hb hr (by first | rfl | decide) (fun t ht hW => ⟨⟨1, 1, rfl, ⟨rfl, by decide⟩, ((ti + 1) + 1), zn12, zn13, zn14, g20, g21, (nI kn32), zn18, fn46, (dd + 1), qn45, hn19, hn20, (by omega), hn22, hn48, hn47, (by omega), (fun _ => rfl), (fun _ => rfl), (fun _ => (by omega)), (fun _ => (by omega)), (fun _ => (S_dep hk (by omega) hn27)), (fun h9 => absurd h9 (by decide)), by rw [ht]; exact hP9, hD9⟩, hS.F ht⟩) hS.2.2 dX10_depositStatement_83)
  · skip
    have hn49 : dd = 6 := (nI_eq (a := dd) (b := 6) (by omega) (by omega)).mp c1
    refine lv_aload_n hx hb dX10_depositStatement_9 rfl (lv_at hl 0 rfl) ?_
    refine lv_iconst (v := 5) hx hb dX10_depositStatement_10 (by decide) ?_
    obtain ⟨hPc, hDc, hFc⟩ := PDq.cut (wc := [(oX10 w0 v0 v1 v2 v3 v4 g5 g6 (nI ed) g8 v9 (nI nb) g11 g12 v13 (nI ln) (nI (gP ti)) (nI (gR (ti + 1))) tk kw g19 g20 g21 g22 (nI dd) (nI cd) g25 g26 v27 v28 v29 v30 v31 v32 v33 v34 v35 v36 v37 (nI ol))]) hP hD hS hA [0] (by decide) rfl
    refine va_calli (va_runV (As := [.int 5]) (rest := []) ⟨hx, hb, hml, hown, hts⟩ (y_fail l D cA sa w0 ed nb ol v0 v1 v2 v3 v4 v9 v13 v27 v28 v29 v30 v31 v32 v33 v34 v35 v36 v37 g8 g11 g12 g19 g20 g21 g22 (nI dd) g26 g5 g6 g25 ln cd tk kw ti ct fb gP gR gS gK gV 5 s.heap.size hln hct hti hTX hBY hTK) (cwV 1 hts gX10_depositStatement_X10_fail rfl rfl rfl (by decide +kernel) ⟨(Nat.le_of_ble_eq_true rfl), (Nat.le_of_ble_eq_true rfl)⟩) ⟨Wd.blind, va_recv hK hPc (ci := 11) (q0 := 0) rfl rfl, fun U hU hW => ⟨rfl, Wd.call hPc hDc hK hC hZ hS hFc U hU hW⟩⟩ rfl rfl hl.1 rfl (lv_room (Nat.le_of_ble_eq_true rfl)) dX10_depositStatement_11 ⟨(Nat.le_of_ble_eq_true rfl), (Nat.le_of_ble_eq_true rfl)⟩) hS (fun q _ h => hFc q h) hFc (fun rn50 u t H1 locs ht hvm hw hB hz1 hk1 hS => ?_)
    obtain ⟨zn51, hn52, hP1, hD1⟩ := hB
    rw [ht] at hP1
    obtain ⟨hP, hD⟩ := PDq.join (w := [(v9, .inl (cA 0, 700, .inl fb)), (v13, .inl (cA 1, 15, .inr (.inl fkw))), (v1, .inl (cA 0, 326, .inl fp)), (oX10 w0 v0 v1 v2 v3 v4 g5 g6 (nI ed) g8 v9 (nI nb) g11 g12 v13 (nI ln) (nI (gP ti)) (nI (gR (ti + 1))) tk kw g19 zn51 (nI (gP ti)) g22 (nI dd) (nI cd) g25 g26 v27 v28 v29 v30 v31 v32 v33 v34 v35 v36 v37 (nI ol))]) 3 hP hD [0] [1, 2, 3] rfl rfl (by decide) (by decide) hk1 hFc hP1 hD1 rfl
    generalize H1 = H at hP hS ⊢
    obtain rfl : rn50 = 0 := hw
    obtain ⟨hP9, hD9⟩ := PDq.sub (ws' := [(oX10 w0 v0 v1 v2 v3 v4 g5 g6 (nI ed) g8 v9 (nI nb) g11 g12 v13 (nI ln) (nI (gP ti)) (nI (gR (ti + 1))) tk kw g19 zn51 (nI (gP ti)) g22 (nI dd) (nI cd) g25 g26 v27 v28 v29 v30 v31 v32 v33 v34 v35 v36 v37 (nI ol)), (v9, .inl (cA 0, 700, .inl fb)), (v13, .inl (cA 1, 15, .inr (.inl fkw))), (v1, .inl (cA 0, 326, .inl fp))]) hP hD [3, 0, 1, 2] (by decide) rfl
    refine W.widen (k := 0) (n := 0) (Nat.le_of_ble_eq_true rfl) (Nat.le_of_ble_eq_true rfl) ?_
    exact (W.zret (v := 0) hx hb hr (by first | rfl | decide) (fun t ht hW => ⟨⟨0, 0, rfl, ⟨rfl, by decide⟩, ti, tk, kw, g19, zn51, (nI (gP ti)), g26, g25, fp, dd, en, hti, (by omega), (by omega), hTK, hri, hen, hdd, (fun h9 => absurd h9 (by decide)), (fun h9 => absurd h9 (by decide)), (fun h9 => absurd h9 (by decide)), (fun h9 => absurd h9 (by decide)), (fun h9 => absurd h9 (by decide)), (fun _ => (S_depFx hk (by omega) hn52 (TX.s hTX (show ti < ct by omega)))), by rw [ht]; exact hP9, hD9⟩, hS.F ht⟩) hS.2.2 dX10_depositStatement_14)

